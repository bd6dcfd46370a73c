set_option maxRecDepth 100000 in
theorem dX4_takeLock_0 : decode cX4_takeLock 0 = .ok (.aload_n 2, 1) := by decide +kernel
set_option maxRecDepth 100000 in
theorem dX4_takeLock_1 : decode cX4_takeLock 1 = .ok (.invokevirtual 240, 3) := by decide +kernel
set_option maxRecDepth 20000 in
theorem ggX4_takeLock_X3_isFree : GoodIn wsX4_takeLock wsX3_isFree := goodIn_r _ [4, 5, 6, 7, 8, 9, 2, 10, 11, 96, 97, 98, 99, 100, 101, 102, 103] (by decide +kernel) (by decide +kernel)
set_option maxRecDepth 20000 in
theorem gX4_takeLock_X3_isFree_n240 : GoodIn wsX4_takeLock (wsX3_isFree) := ggX4_takeLock_X3_isFree
set_option maxRecDepth 100000 in
theorem dX4_takeLock_4 : decode cX4_takeLock 4 = .ok (.ifCond .eq 11, 3) := by decide +kernel
set_option maxRecDepth 100000 in
theorem dX4_takeLock_15 : decode cX4_takeLock 15 = .ok (.aload_n 2, 1) := by decide +kernel
set_option maxRecDepth 100000 in
theorem dX4_takeLock_16 : decode cX4_takeLock 16 = .ok (.getfield 155, 3) := by decide +kernel
set_option maxRecDepth 100000 in
theorem in_X4_takeLock_X3 : ∀ w ∈ wsX30, w ∈ wsX4_takeLock := fun _ h => List.mem_cons_of_mem _ (List.mem_append_left _ (List.mem_append_left _ (List.mem_append_right _ h)))
set_option maxRecDepth 100000 in
theorem dX4_takeLock_19 : decode cX4_takeLock 19 = .ok (.aload_n 1, 1) := by decide +kernel
set_option maxRecDepth 100000 in
theorem dX4_takeLock_20 : decode cX4_takeLock 20 = .ok (.getfield 217, 3) := by decide +kernel
set_option maxRecDepth 100000 in
theorem in_X4_takeLock_X0 : ∀ w ∈ wsX00, w ∈ wsX4_takeLock := fun _ h => List.mem_cons_of_mem _ (List.mem_append_left _ (List.mem_append_left _ (List.mem_append_left _ (List.mem_append_right _ h))))
set_option maxRecDepth 100000 in
theorem dX4_takeLock_23 : decode cX4_takeLock 23 = .ok (.if_icmp .ne 20, 3) := by decide +kernel
set_option maxRecDepth 100000 in
theorem dX4_takeLock_43 : decode cX4_takeLock 43 = .ok (.return_, 1) := by decide +kernel
set_option maxRecDepth 100000 in
theorem dX4_takeLock_26 : decode cX4_takeLock 26 = .ok (.aload_n 2, 1) := by decide +kernel
set_option maxRecDepth 100000 in
theorem dX4_takeLock_27 : decode cX4_takeLock 27 = .ok (.getfield 81, 3) := by decide +kernel
set_option maxRecDepth 100000 in
theorem dX4_takeLock_30 : decode cX4_takeLock 30 = .ok (.ifnonnull 13, 3) := by decide +kernel
set_option maxRecDepth 100000 in
theorem dX4_takeLock_33 : decode cX4_takeLock 33 = .ok (.aload_n 0, 1) := by decide +kernel
set_option maxRecDepth 100000 in
theorem dX4_takeLock_34 : decode cX4_takeLock 34 = .ok (.iconst 1, 1) := by decide +kernel
set_option maxRecDepth 100000 in
theorem dX4_takeLock_35 : decode cX4_takeLock 35 = .ok (.aload_n 1, 1) := by decide +kernel
set_option maxRecDepth 100000 in
theorem dX4_takeLock_36 : decode cX4_takeLock 36 = .ok (.aload_n 2, 1) := by decide +kernel
set_option maxRecDepth 100000 in
theorem dX4_takeLock_37 : decode cX4_takeLock 37 = .ok (.getfield 61, 3) := by decide +kernel
set_option maxRecDepth 100000 in
theorem dX4_takeLock_40 : decode cX4_takeLock 40 = .ok (.invokevirtual 305, 3) := by decide +kernel
set_option maxRecDepth 20000 in
theorem ggX4_takeLock_X4_sendBack : GoodIn wsX4_takeLock wsX4_sendBack := goodIn_r _ [16, 17, 18, 19, 15, 20, 21, 22, 23, 24, 25, 26, 27, 28, 29, 30, 31, 32, 33, 34, 35, 36, 37, 38, 39, 40, 41, 42, 43, 44, 45, 46, 47, 48, 49, 50, 51, 52, 53, 54, 55, 56, 57, 58, 59, 60, 61, 62, 63, 64, 65, 66, 67, 68, 69, 70, 71, 72, 73, 74, 75, 76, 77, 78, 79, 80, 81, 82, 83, 84, 85, 86, 87, 88, 89, 90, 91, 92, 93, 94, 95, 104, 105, 106, 107, 108, 109, 110] (by decide +kernel) (by decide +kernel)
set_option maxRecDepth 20000 in
theorem gX4_takeLock_X4_sendBack : GoodIn wsX4_takeLock (wsV RX4 305 RX4 yX4_sendBack wsX4_sendBack) := goodIn_app (goodIn_of _ (by decide +kernel)) ggX4_takeLock_X4_sendBack
set_option maxRecDepth 100000 in
theorem dX4_takeLock_7 : decode cX4_takeLock 7 = .ok (.aload_n 2, 1) := by decide +kernel
set_option maxRecDepth 100000 in
theorem dX4_takeLock_8 : decode cX4_takeLock 8 = .ok (.aload_n 1, 1) := by decide +kernel
set_option maxRecDepth 100000 in
theorem dX4_takeLock_9 : decode cX4_takeLock 9 = .ok (.getfield 217, 3) := by decide +kernel
set_option maxRecDepth 100000 in
theorem dX4_takeLock_12 : decode cX4_takeLock 12 = .ok (.putfield 155, 3) := by decide +kernel
set_option maxRecDepth 100000 in
theorem dX4_takePrepare_0 : decode cX4_takePrepare 0 = .ok (.aload_n 2, 1) := by decide +kernel
set_option maxRecDepth 100000 in
theorem dX4_takePrepare_1 : decode cX4_takePrepare 1 = .ok (.getfield 155, 3) := by decide +kernel
set_option maxRecDepth 100000 in
theorem in_X4_takePrepare_X3 : ∀ w ∈ wsX30, w ∈ wsX4_takePrepare := fun _ h => List.mem_cons_of_mem _ (List.mem_append_left _ (List.mem_append_left _ (List.mem_append_left _ (List.mem_append_left _ (List.mem_append_right _ h)))))
set_option maxRecDepth 100000 in
theorem dX4_takePrepare_4 : decode cX4_takePrepare 4 = .ok (.aload_n 1, 1) := by decide +kernel
set_option maxRecDepth 100000 in
theorem dX4_takePrepare_5 : decode cX4_takePrepare 5 = .ok (.getfield 217, 3) := by decide +kernel
set_option maxRecDepth 100000 in
theorem in_X4_takePrepare_X0 : ∀ w ∈ wsX00, w ∈ wsX4_takePrepare := fun _ h => List.mem_cons_of_mem _ (List.mem_append_left _ (List.mem_append_left _ (List.mem_append_left _ (List.mem_append_right _ h))))
set_option maxRecDepth 100000 in
theorem dX4_takePrepare_8 : decode cX4_takePrepare 8 = .ok (.if_icmp .ne 35, 3) := by decide +kernel
set_option maxRecDepth 100000 in
theorem dX4_takePrepare_43 : decode cX4_takePrepare 43 = .ok (.aload_n 2, 1) := by decide +kernel
set_option maxRecDepth 100000 in
theorem dX4_takePrepare_44 : decode cX4_takePrepare 44 = .ok (.aload_n 1, 1) := by decide +kernel
set_option maxRecDepth 100000 in
theorem dX4_takePrepare_45 : decode cX4_takePrepare 45 = .ok (.getfield 217, 3) := by decide +kernel
set_option maxRecDepth 100000 in
theorem dX4_takePrepare_48 : decode cX4_takePrepare 48 = .ok (.invokevirtual 316, 3) := by decide +kernel
set_option maxRecDepth 20000 in
theorem ggX4_takePrepare_X3_isPreparedFor : GoodIn wsX4_takePrepare wsX3_isPreparedFor := goodIn_r _ [19, 20, 21, 22, 23, 17, 24, 25, 103, 104, 105, 106, 107, 108, 109, 110] (by decide +kernel) (by decide +kernel)
set_option maxRecDepth 20000 in
theorem gX4_takePrepare_X3_isPreparedFor_n316 : GoodIn wsX4_takePrepare (wsX3_isPreparedFor) := ggX4_takePrepare_X3_isPreparedFor
set_option maxRecDepth 100000 in
theorem dX4_takePrepare_51 : decode cX4_takePrepare 51 = .ok (.ifCond .eq 10, 3) := by decide +kernel
set_option maxRecDepth 100000 in
theorem dX4_takePrepare_61 : decode cX4_takePrepare 61 = .ok (.return_, 1) := by decide +kernel
set_option maxRecDepth 100000 in
theorem dX4_takePrepare_54 : decode cX4_takePrepare 54 = .ok (.aload_n 0, 1) := by decide +kernel
set_option maxRecDepth 100000 in
theorem dX4_takePrepare_55 : decode cX4_takePrepare 55 = .ok (.iconst 3, 1) := by decide +kernel
set_option maxRecDepth 100000 in
theorem dX4_takePrepare_56 : decode cX4_takePrepare 56 = .ok (.aload_n 1, 1) := by decide +kernel
set_option maxRecDepth 100000 in
theorem dX4_takePrepare_57 : decode cX4_takePrepare 57 = .ok (.aconst_null, 1) := by decide +kernel
set_option maxRecDepth 100000 in
theorem dX4_takePrepare_58 : decode cX4_takePrepare 58 = .ok (.invokevirtual 305, 3) := by decide +kernel
set_option maxRecDepth 20000 in
theorem ggX4_takePrepare_X4_sendBack : GoodIn wsX4_takePrepare wsX4_sendBack := goodIn_r _ [30, 31, 32, 33, 29, 34, 35, 36, 37, 2, 38, 39, 40, 41, 42, 43, 44, 45, 46, 5, 47, 48, 49, 50, 51, 52, 53, 54, 55, 56, 57, 58, 59, 60, 61, 62, 63, 64, 65, 66, 67, 68, 69, 70, 71, 72, 73, 74, 75, 76, 77, 78, 79, 80, 81, 82, 83, 84, 85, 86, 87, 88, 89, 90, 91, 92, 93, 94, 95, 96, 97, 98, 99, 100, 101, 102, 111, 112, 113, 114, 115, 120, 121, 122, 123, 124, 125, 126] (by decide +kernel) (by decide +kernel)
set_option maxRecDepth 20000 in
theorem gX4_takePrepare_X4_sendBack : GoodIn wsX4_takePrepare (wsV RX4 305 RX4 yX4_sendBack wsX4_sendBack) := goodIn_app (goodIn_of _ (by decide +kernel)) ggX4_takePrepare_X4_sendBack
set_option maxRecDepth 100000 in
theorem dX4_takePrepare_11 : decode cX4_takePrepare 11 = .ok (.aload_n 1, 1) := by decide +kernel
set_option maxRecDepth 100000 in
theorem dX4_takePrepare_12 : decode cX4_takePrepare 12 = .ok (.aload_n 2, 1) := by decide +kernel
set_option maxRecDepth 100000 in
theorem dX4_takePrepare_13 : decode cX4_takePrepare 13 = .ok (.getfield 61, 3) := by decide +kernel
set_option maxRecDepth 100000 in
theorem dX4_takePrepare_16 : decode cX4_takePrepare 16 = .ok (.invokevirtual 312, 3) := by decide +kernel
set_option maxRecDepth 20000 in
theorem ggX4_takePrepare_X0_goesOnFrom : GoodIn wsX4_takePrepare wsX0_goesOnFrom := goodIn_r _ [4, 5, 6, 7, 8, 9, 10, 11, 12, 13, 14, 15, 111, 112, 113, 114, 115, 116, 117, 118, 119] (by decide +kernel) (by decide +kernel)
set_option maxRecDepth 20000 in
theorem gX4_takePrepare_X0_goesOnFrom_n312 : GoodIn wsX4_takePrepare (wsX0_goesOnFrom) := ggX4_takePrepare_X0_goesOnFrom
set_option maxRecDepth 100000 in
theorem dX4_takePrepare_19 : decode cX4_takePrepare 19 = .ok (.ifCond .eq 24, 3) := by decide +kernel
set_option maxRecDepth 100000 in
theorem dX4_takePrepare_22 : decode cX4_takePrepare 22 = .ok (.aload_n 2, 1) := by decide +kernel
set_option maxRecDepth 100000 in
theorem dX4_takePrepare_23 : decode cX4_takePrepare 23 = .ok (.iconst (-1), 1) := by decide +kernel
set_option maxRecDepth 100000 in
theorem dX4_takePrepare_24 : decode cX4_takePrepare 24 = .ok (.putfield 155, 3) := by decide +kernel
set_option maxRecDepth 100000 in
theorem dX4_takePrepare_27 : decode cX4_takePrepare 27 = .ok (.aload_n 2, 1) := by decide +kernel
set_option maxRecDepth 100000 in
theorem dX4_takePrepare_28 : decode cX4_takePrepare 28 = .ok (.aload_n 1, 1) := by decide +kernel
set_option maxRecDepth 100000 in
theorem dX4_takePrepare_29 : decode cX4_takePrepare 29 = .ok (.getfield 217, 3) := by decide +kernel
set_option maxRecDepth 100000 in
theorem dX4_takePrepare_32 : decode cX4_takePrepare 32 = .ok (.putfield 169, 3) := by decide +kernel
set_option maxRecDepth 100000 in
theorem dX4_takePrepare_35 : decode cX4_takePrepare 35 = .ok (.aload_n 2, 1) := by decide +kernel
set_option maxRecDepth 100000 in
theorem dX4_takePrepare_36 : decode cX4_takePrepare 36 = .ok (.aload_n 1, 1) := by decide +kernel
set_option maxRecDepth 100000 in
theorem dX4_takePrepare_37 : decode cX4_takePrepare 37 = .ok (.getfield 309, 3) := by decide +kernel
set_option maxRecDepth 100000 in
theorem dX4_takePrepare_40 : decode cX4_takePrepare 40 = .ok (.putfield 172, 3) := by decide +kernel
set_option maxRecDepth 100000 in
theorem dX4_takePrepared_0 : decode cX4_takePrepared 0 = .ok (.aload_n 1, 1) := by decide +kernel
set_option maxRecDepth 100000 in
theorem dX4_takePrepared_1 : decode cX4_takePrepared 1 = .ok (.aload_n 2, 1) := by decide +kernel
set_option maxRecDepth 100000 in
theorem dX4_takePrepared_2 : decode cX4_takePrepared 2 = .ok (.invokestatic 280, 3) := by decide +kernel
set_option maxRecDepth 20000 in
theorem ggX4_takePrepared_X4_openWriteFor : GoodIn wsX4_takePrepared wsX4_openWriteFor := goodIn_r _ [4, 118, 119, 120, 121, 122, 123, 124, 125, 113, 114, 115, 116, 117, 108, 109, 110, 111, 112] (by decide +kernel) (by decide +kernel)
set_option maxRecDepth 20000 in
theorem gX4_takePrepared_X4_openWriteFor : GoodIn wsX4_takePrepared (va_wsS RX4 280 yX4_openWriteFor wsX4_openWriteFor) := goodIn_app (goodIn_of _ (by decide +kernel)) ggX4_takePrepared_X4_openWriteFor
set_option maxRecDepth 100000 in
theorem dX4_takePrepared_5 : decode cX4_takePrepared 5 = .ok (.astore_n 3, 1) := by decide +kernel
set_option maxRecDepth 100000 in
theorem dX4_takePrepared_6 : decode cX4_takePrepared 6 = .ok (.aload_n 3, 1) := by decide +kernel
set_option maxRecDepth 100000 in
theorem dX4_takePrepared_7 : decode cX4_takePrepared 7 = .ok (.ifnull 37, 3) := by decide +kernel
set_option maxRecDepth 100000 in
theorem dX4_takePrepared_44 : decode cX4_takePrepared 44 = .ok (.return_, 1) := by decide +kernel
set_option maxRecDepth 100000 in
theorem dX4_takePrepared_10 : decode cX4_takePrepared 10 = .ok (.aload_n 3, 1) := by decide +kernel
set_option maxRecDepth 100000 in
theorem dX4_takePrepared_11 : decode cX4_takePrepared 11 = .ok (.invokevirtual 85, 3) := by decide +kernel
set_option maxRecDepth 20000 in
theorem ggX4_takePrepared_X1_isCollecting : GoodIn wsX4_takePrepared wsX1_isCollecting := goodIn_r _ [8, 9, 113, 114, 115, 116, 117] (by decide +kernel) (by decide +kernel)
set_option maxRecDepth 20000 in
theorem gX4_takePrepared_X1_isCollecting_n85 : GoodIn wsX4_takePrepared (wsX1_isCollecting) := ggX4_takePrepared_X1_isCollecting
set_option maxRecDepth 100000 in
theorem dX4_takePrepared_14 : decode cX4_takePrepared 14 = .ok (.ifCond .ne 30, 3) := by decide +kernel
set_option maxRecDepth 100000 in
theorem dX4_takePrepared_17 : decode cX4_takePrepared 17 = .ok (.aload_n 3, 1) := by decide +kernel
set_option maxRecDepth 100000 in
theorem dX4_takePrepared_18 : decode cX4_takePrepared 18 = .ok (.aload_n 1, 1) := by decide +kernel
set_option maxRecDepth 100000 in
theorem dX4_takePrepared_19 : decode cX4_takePrepared 19 = .ok (.getfield 187, 3) := by decide +kernel
set_option maxRecDepth 100000 in
theorem in_X4_takePrepared_X0 : ∀ w ∈ wsX00, w ∈ wsX4_takePrepared := fun _ h => List.mem_cons_of_mem _ (List.mem_append_left _ (List.mem_append_left _ (List.mem_append_left _ (List.mem_append_left _ (List.mem_append_right _ h)))))
set_option maxRecDepth 100000 in
theorem dX4_takePrepared_22 : decode cX4_takePrepared 22 = .ok (.invokevirtual 277, 3) := by decide +kernel
set_option maxRecDepth 20000 in
theorem ggX4_takePrepared_X1_isOfGroup : GoodIn wsX4_takePrepared wsX1_isOfGroup := goodIn_r _ [12, 13, 113, 114, 115, 116, 117] (by decide +kernel) (by decide +kernel)
set_option maxRecDepth 20000 in
theorem gX4_takePrepared_X1_isOfGroup_n277 : GoodIn wsX4_takePrepared (wsX1_isOfGroup) := ggX4_takePrepared_X1_isOfGroup
set_option maxRecDepth 100000 in
theorem dX4_takePrepared_25 : decode cX4_takePrepared 25 = .ok (.ifCond .eq 19, 3) := by decide +kernel
set_option maxRecDepth 100000 in
theorem dX4_takePrepared_28 : decode cX4_takePrepared 28 = .ok (.aload_n 3, 1) := by decide +kernel
set_option maxRecDepth 100000 in
theorem dX4_takePrepared_29 : decode cX4_takePrepared 29 = .ok (.getfield 319, 3) := by decide +kernel
set_option maxRecDepth 100000 in
theorem in_X4_takePrepared_X1 : ∀ w ∈ wsX10, w ∈ wsX4_takePrepared := fun _ h => List.mem_cons_of_mem _ (List.mem_append_left _ (List.mem_append_left _ (List.mem_append_left _ (List.mem_append_right _ h))))
set_option maxRecDepth 100000 in
theorem dX4_takePrepared_32 : decode cX4_takePrepared 32 = .ok (.aload_n 1, 1) := by decide +kernel
set_option maxRecDepth 100000 in
theorem dX4_takePrepared_33 : decode cX4_takePrepared 33 = .ok (.getfield 187, 3) := by decide +kernel
set_option maxRecDepth 100000 in
theorem dX4_takePrepared_36 : decode cX4_takePrepared 36 = .ok (.iconst 1, 1) := by decide +kernel
set_option maxRecDepth 100000 in
theorem dX4_takePrepared_37 : decode cX4_takePrepared 37 = .ok (.bastore, 1) := by decide +kernel
set_option maxRecDepth 100000 in
theorem dX4_takePrepared_38 : decode cX4_takePrepared 38 = .ok (.aload_n 0, 1) := by decide +kernel
set_option maxRecDepth 100000 in
theorem dX4_takePrepared_39 : decode cX4_takePrepared 39 = .ok (.aload_n 2, 1) := by decide +kernel
set_option maxRecDepth 100000 in
theorem dX4_takePrepared_40 : decode cX4_takePrepared 40 = .ok (.aload_n 3, 1) := by decide +kernel
set_option maxRecDepth 100000 in
theorem dX4_takePrepared_41 : decode cX4_takePrepared 41 = .ok (.invokevirtual 135, 3) := by decide +kernel
set_option maxRecDepth 20000 in
theorem ggX4_takePrepared_X4_commitIfAllPrepared : GoodIn wsX4_takePrepared wsX4_commitIfAllPrepared := goodIn_r _ [17, 5, 6, 7, 8, 9, 18, 19, 20, 21, 22, 23, 24, 13, 25, 26, 27, 10, 11, 12, 28, 29, 30, 31, 32, 33, 34, 35, 36, 3, 37, 38, 39, 40, 41, 42, 43, 44, 45, 46, 47, 48, 49, 50, 51, 52, 53, 54, 55, 56, 57, 58, 59, 60, 61, 62, 63, 64, 65, 66, 67, 68, 69, 70, 71, 72, 73, 74, 75, 76, 77, 78, 79, 80, 81, 82, 83, 84, 85, 86, 87, 88, 89, 90, 91, 92, 93, 94, 95, 96, 97, 98, 99, 100, 101, 102, 103, 104, 105, 106, 107, 113, 114, 115, 116, 117, 118, 119, 120, 121, 122, 123, 124, 125, 126, 127, 128, 129, 108, 109, 110, 111, 112, 130, 131, 132] (by decide +kernel) (by decide +kernel)
set_option maxRecDepth 20000 in
theorem gX4_takePrepared_X4_commitIfAllPrepared : GoodIn wsX4_takePrepared (wsV RX4 135 RX4 yX4_commitIfAllPrepared wsX4_commitIfAllPrepared) := goodIn_app (goodIn_of _ (by decide +kernel)) ggX4_takePrepared_X4_commitIfAllPrepared
set_option maxRecDepth 100000 in
theorem dX4_takeCommit_0 : decode cX4_takeCommit 0 = .ok (.aload_n 2, 1) := by decide +kernel
set_option maxRecDepth 100000 in
theorem dX4_takeCommit_1 : decode cX4_takeCommit 1 = .ok (.aload_n 1, 1) := by decide +kernel
set_option maxRecDepth 100000 in
theorem dX4_takeCommit_2 : decode cX4_takeCommit 2 = .ok (.getfield 217, 3) := by decide +kernel
set_option maxRecDepth 100000 in
theorem in_X4_takeCommit_X0 : ∀ w ∈ wsX00, w ∈ wsX4_takeCommit := fun _ h => List.mem_cons_of_mem _ (List.mem_append_left _ (List.mem_append_right _ h))
set_option maxRecDepth 100000 in
theorem dX4_takeCommit_5 : decode cX4_takeCommit 5 = .ok (.invokevirtual 316, 3) := by decide +kernel
set_option maxRecDepth 20000 in
theorem ggX4_takeCommit_X3_isPreparedFor : GoodIn wsX4_takeCommit wsX3_isPreparedFor := goodIn_r _ [4, 5, 6, 7, 8, 2, 9, 10, 19, 20, 21, 22, 23, 24, 25, 26] (by decide +kernel) (by decide +kernel)
set_option maxRecDepth 20000 in
theorem gX4_takeCommit_X3_isPreparedFor_n316 : GoodIn wsX4_takeCommit (wsX3_isPreparedFor) := ggX4_takeCommit_X3_isPreparedFor
set_option maxRecDepth 100000 in
theorem dX4_takeCommit_8 : decode cX4_takeCommit 8 = .ok (.ifCond .eq 15, 3) := by decide +kernel
set_option maxRecDepth 100000 in
theorem dX4_takeCommit_23 : decode cX4_takeCommit 23 = .ok (.return_, 1) := by decide +kernel
set_option maxRecDepth 100000 in
theorem dX4_takeCommit_11 : decode cX4_takeCommit 11 = .ok (.aload_n 2, 1) := by decide +kernel
set_option maxRecDepth 100000 in
theorem dX4_takeCommit_12 : decode cX4_takeCommit 12 = .ok (.aload_n 2, 1) := by decide +kernel
set_option maxRecDepth 100000 in
theorem dX4_takeCommit_13 : decode cX4_takeCommit 13 = .ok (.getfield 172, 3) := by decide +kernel
set_option maxRecDepth 100000 in
theorem in_X4_takeCommit_X3 : ∀ w ∈ wsX30, w ∈ wsX4_takeCommit := fun _ h => List.mem_cons_of_mem _ (List.mem_append_right _ h)
set_option maxRecDepth 100000 in
theorem dX4_takeCommit_16 : decode cX4_takeCommit 16 = .ok (.putfield 61, 3) := by decide +kernel
set_option maxRecDepth 100000 in
theorem dX4_takeCommit_19 : decode cX4_takeCommit 19 = .ok (.aload_n 2, 1) := by decide +kernel
set_option maxRecDepth 100000 in
theorem dX4_takeCommit_20 : decode cX4_takeCommit 20 = .ok (.invokevirtual 323, 3) := by decide +kernel
set_option maxRecDepth 20000 in
theorem ggX4_takeCommit_X3_endDoubt : GoodIn wsX4_takeCommit wsX3_endDoubt := goodIn_r _ [13, 5, 10, 19, 20, 21, 22, 23, 24, 25, 26] (by decide +kernel) (by decide +kernel)
set_option maxRecDepth 20000 in
theorem gX4_takeCommit_X3_endDoubt_n323 : GoodIn wsX4_takeCommit (wsX3_endDoubt) := ggX4_takeCommit_X3_endDoubt
set_option maxRecDepth 100000 in
theorem dX4_takeAsk_0 : decode cX4_takeAsk 0 = .ok (.aload_n 2, 1) := by decide +kernel
set_option maxRecDepth 100000 in
theorem dX4_takeAsk_1 : decode cX4_takeAsk 1 = .ok (.getfield 61, 3) := by decide +kernel
set_option maxRecDepth 100000 in
theorem in_X4_takeAsk_X3 : ∀ w ∈ wsX30, w ∈ wsX4_takeAsk := fun _ h => List.mem_cons_of_mem _ (List.mem_append_left _ (List.mem_append_left _ (List.mem_append_left _ (List.mem_append_left _ (List.mem_append_left _ (List.mem_append_right _ h))))))
set_option maxRecDepth 100000 in
theorem dX4_takeAsk_4 : decode cX4_takeAsk 4 = .ok (.aload_n 1, 1) := by decide +kernel
set_option maxRecDepth 100000 in
theorem dX4_takeAsk_5 : decode cX4_takeAsk 5 = .ok (.getfield 217, 3) := by decide +kernel
set_option maxRecDepth 100000 in
theorem in_X4_takeAsk_X0 : ∀ w ∈ wsX00, w ∈ wsX4_takeAsk := fun _ h => List.mem_cons_of_mem _ (List.mem_append_left _ (List.mem_append_left _ (List.mem_append_left _ (List.mem_append_left _ (List.mem_append_right _ h)))))
set_option maxRecDepth 100000 in
theorem dX4_takeAsk_8 : decode cX4_takeAsk 8 = .ok (.invokevirtual 326, 3) := by decide +kernel
set_option maxRecDepth 20000 in
theorem ggX4_takeAsk_X2_hasNumber : GoodIn wsX4_takeAsk wsX2_hasNumber := goodIn_r _ [4, 5, 111, 112, 113, 114] (by decide +kernel) (by decide +kernel)
set_option maxRecDepth 20000 in
theorem gX4_takeAsk_X2_hasNumber_n326 : GoodIn wsX4_takeAsk (wsX2_hasNumber) := ggX4_takeAsk_X2_hasNumber
set_option maxRecDepth 100000 in
theorem dX4_takeAsk_11 : decode cX4_takeAsk 11 = .ok (.ifCond .eq 13, 3) := by decide +kernel
set_option maxRecDepth 100000 in
theorem dX4_takeAsk_24 : decode cX4_takeAsk 24 = .ok (.aload_n 2, 1) := by decide +kernel
set_option maxRecDepth 100000 in
theorem dX4_takeAsk_25 : decode cX4_takeAsk 25 = .ok (.aload_n 1, 1) := by decide +kernel
set_option maxRecDepth 100000 in
theorem dX4_takeAsk_26 : decode cX4_takeAsk 26 = .ok (.getfield 217, 3) := by decide +kernel
set_option maxRecDepth 100000 in
theorem dX4_takeAsk_29 : decode cX4_takeAsk 29 = .ok (.invokevirtual 329, 3) := by decide +kernel
set_option maxRecDepth 20000 in
theorem ggX4_takeAsk_X3_hasEndedWrite : GoodIn wsX4_takeAsk wsX3_hasEndedWrite := goodIn_r _ [88, 89, 90, 98, 99, 100, 101, 102, 103, 104, 105, 122, 123, 124, 125, 126] (by decide +kernel) (by decide +kernel)
set_option maxRecDepth 20000 in
theorem gX4_takeAsk_X3_hasEndedWrite_n329 : GoodIn wsX4_takeAsk (wsX3_hasEndedWrite) := ggX4_takeAsk_X3_hasEndedWrite
set_option maxRecDepth 100000 in
theorem dX4_takeAsk_32 : decode cX4_takeAsk 32 = .ok (.ifCond .ne 17, 3) := by decide +kernel
set_option maxRecDepth 100000 in
theorem dX4_takeAsk_49 : decode cX4_takeAsk 49 = .ok (.aload_n 0, 1) := by decide +kernel
set_option maxRecDepth 100000 in
theorem dX4_takeAsk_50 : decode cX4_takeAsk 50 = .ok (.iconst 5, 1) := by decide +kernel
set_option maxRecDepth 100000 in
theorem dX4_takeAsk_51 : decode cX4_takeAsk 51 = .ok (.aload_n 1, 1) := by decide +kernel
set_option maxRecDepth 100000 in
theorem dX4_takeAsk_52 : decode cX4_takeAsk 52 = .ok (.aconst_null, 1) := by decide +kernel
set_option maxRecDepth 100000 in
theorem dX4_takeAsk_53 : decode cX4_takeAsk 53 = .ok (.invokevirtual 305, 3) := by decide +kernel
set_option maxRecDepth 20000 in
theorem ggX4_takeAsk_X4_sendBack : GoodIn wsX4_takeAsk wsX4_sendBack := goodIn_r _ [10, 11, 12, 13, 9, 14, 15, 16, 17, 18, 19, 20, 21, 22, 23, 24, 25, 26, 27, 28, 29, 30, 31, 32, 33, 34, 35, 36, 37, 38, 39, 40, 41, 42, 43, 44, 45, 46, 47, 48, 49, 50, 51, 52, 53, 54, 55, 56, 57, 58, 59, 60, 61, 62, 63, 64, 65, 66, 67, 68, 69, 70, 71, 72, 73, 74, 75, 76, 77, 78, 79, 80, 81, 82, 83, 84, 106, 107, 108, 109, 110, 115, 116, 117, 118, 119, 120, 121] (by decide +kernel) (by decide +kernel)
set_option maxRecDepth 20000 in
theorem gX4_takeAsk_X4_sendBack : GoodIn wsX4_takeAsk (wsV RX4 305 RX4 yX4_sendBack wsX4_sendBack) := goodIn_app (goodIn_of _ (by decide +kernel)) ggX4_takeAsk_X4_sendBack
set_option maxRecDepth 100000 in
theorem dX4_takeAsk_56 : decode cX4_takeAsk 56 = .ok (.return_, 1) := by decide +kernel
set_option maxRecDepth 100000 in
theorem dX4_takeAsk_35 : decode cX4_takeAsk 35 = .ok (.aload_n 2, 1) := by decide +kernel
set_option maxRecDepth 100000 in
theorem dX4_takeAsk_36 : decode cX4_takeAsk 36 = .ok (.getfield 61, 3) := by decide +kernel
set_option maxRecDepth 100000 in
theorem dX4_takeAsk_39 : decode cX4_takeAsk 39 = .ok (.invokevirtual 107, 3) := by decide +kernel
set_option maxRecDepth 20000 in
theorem ggX4_takeAsk_X2_length : GoodIn wsX4_takeAsk wsX2_length := goodIn_r _ [93, 94, 111, 112, 113, 114] (by decide +kernel) (by decide +kernel)
set_option maxRecDepth 20000 in
theorem gX4_takeAsk_X2_length_n107 : GoodIn wsX4_takeAsk (wsX2_length) := ggX4_takeAsk_X2_length
set_option maxRecDepth 100000 in
theorem dX4_takeAsk_42 : decode cX4_takeAsk 42 = .ok (.aload_n 1, 1) := by decide +kernel
set_option maxRecDepth 100000 in
theorem dX4_takeAsk_43 : decode cX4_takeAsk 43 = .ok (.invokevirtual 332, 3) := by decide +kernel
set_option maxRecDepth 20000 in
theorem ggX4_takeAsk_X0_bookLength : GoodIn wsX4_takeAsk wsX0_bookLength := goodIn_r _ [97, 28, 91, 2, 92, 93, 94, 106, 107, 108, 109, 110, 111, 112, 113, 114] (by decide +kernel) (by decide +kernel)
set_option maxRecDepth 20000 in
theorem gX4_takeAsk_X0_bookLength_n332 : GoodIn wsX4_takeAsk (wsX0_bookLength) := ggX4_takeAsk_X0_bookLength
set_option maxRecDepth 100000 in
theorem dX4_takeAsk_46 : decode cX4_takeAsk 46 = .ok (.if_icmp .lt 10, 3) := by decide +kernel
set_option maxRecDepth 100000 in
theorem dX4_takeAsk_14 : decode cX4_takeAsk 14 = .ok (.aload_n 0, 1) := by decide +kernel
set_option maxRecDepth 100000 in
theorem dX4_takeAsk_15 : decode cX4_takeAsk 15 = .ok (.iconst 4, 1) := by decide +kernel
set_option maxRecDepth 100000 in
theorem dX4_takeAsk_16 : decode cX4_takeAsk 16 = .ok (.aload_n 1, 1) := by decide +kernel
set_option maxRecDepth 100000 in
theorem dX4_takeAsk_17 : decode cX4_takeAsk 17 = .ok (.aconst_null, 1) := by decide +kernel
set_option maxRecDepth 100000 in
theorem dX4_takeAsk_18 : decode cX4_takeAsk 18 = .ok (.invokevirtual 305, 3) := by decide +kernel
set_option maxRecDepth 100000 in
theorem dX4_takeAsk_21 : decode cX4_takeAsk 21 = .ok (.goto 35, 3) := by decide +kernel
set_option maxRecDepth 100000 in
theorem dX4_take_0 : decode cX4_take 0 = .ok (.aload_n 1, 1) := by decide +kernel
set_option maxRecDepth 100000 in
theorem dX4_take_1 : decode cX4_take 1 = .ok (.getfield 207, 3) := by decide +kernel
set_option maxRecDepth 100000 in
theorem in_X4_take_X0 : ∀ w ∈ wsX00, w ∈ wsX4_take := fun _ h => List.mem_cons_of_mem _ (List.mem_append_left _ (List.mem_append_left _ (List.mem_append_left _ (List.mem_append_left _ (List.mem_append_left _ (List.mem_append_right _ h))))))
set_option maxRecDepth 100000 in
theorem dX4_take_4 : decode cX4_take 4 = .ok (.tableswitch 94 0 5 #[40, 49, 58, 67, 76, 85], 40) := by decide +kernel
set_option maxRecDepth 100000 in
theorem dX4_take_44 : decode cX4_take 44 = .ok (.aload_n 0, 1) := by decide +kernel
set_option maxRecDepth 100000 in
theorem dX4_take_45 : decode cX4_take 45 = .ok (.aload_n 1, 1) := by decide +kernel
set_option maxRecDepth 100000 in
theorem dX4_take_46 : decode cX4_take 46 = .ok (.aload_n 2, 1) := by decide +kernel
set_option maxRecDepth 100000 in
theorem dX4_take_47 : decode cX4_take 47 = .ok (.invokevirtual 284, 3) := by decide +kernel
set_option maxRecDepth 20000 in
theorem ggX4_take_X4_takeLock : GoodIn wsX4_take wsX4_takeLock := goodIn_r _ [5, 6, 7, 8, 9, 10, 11, 12, 13, 14, 15, 16, 17, 18, 19, 4, 20, 21, 22, 23, 24, 25, 26, 27, 28, 29, 30, 31, 32, 33, 34, 35, 36, 37, 38, 39, 40, 41, 42, 43, 44, 45, 46, 47, 48, 49, 50, 51, 52, 53, 54, 55, 56, 57, 58, 59, 60, 61, 62, 63, 64, 65, 66, 67, 68, 69, 70, 71, 72, 73, 74, 75, 76, 77, 78, 79, 80, 81, 82, 83, 84, 85, 86, 87, 88, 89, 90, 91, 92, 93, 94, 179, 180, 181, 182, 183, 184, 185, 186, 187, 188, 189, 190, 191, 192, 193, 194, 195, 196, 197, 198] (by decide +kernel) (by decide +kernel)
set_option maxRecDepth 20000 in
theorem gX4_take_X4_takeLock : GoodIn wsX4_take (wsV RX4 284 RX4 yX4_takeLock wsX4_takeLock) := goodIn_app (goodIn_of _ (by decide +kernel)) ggX4_take_X4_takeLock
set_option maxRecDepth 100000 in
theorem dX4_take_50 : decode cX4_take 50 = .ok (.goto 54, 3) := by decide +kernel
set_option maxRecDepth 100000 in
theorem dX4_take_104 : decode cX4_take 104 = .ok (.return_, 1) := by decide +kernel
set_option maxRecDepth 100000 in
theorem dX4_take_53 : decode cX4_take 53 = .ok (.aload_n 0, 1) := by decide +kernel
set_option maxRecDepth 100000 in
theorem dX4_take_54 : decode cX4_take 54 = .ok (.aload_n 1, 1) := by decide +kernel
set_option maxRecDepth 100000 in
theorem dX4_take_55 : decode cX4_take 55 = .ok (.aload_n 2, 1) := by decide +kernel
set_option maxRecDepth 100000 in
theorem dX4_take_56 : decode cX4_take 56 = .ok (.invokevirtual 287, 3) := by decide +kernel
set_option maxRecDepth 20000 in
theorem ggX4_take_X4_takeGrant : GoodIn wsX4_take wsX4_takeGrant := goodIn_r _ [98, 99, 100, 4, 101, 102, 103, 104, 105, 106, 199, 200, 201, 202, 203, 179, 180, 181, 182, 183, 184, 185, 186, 187, 188, 189, 190, 191] (by decide +kernel) (by decide +kernel)
set_option maxRecDepth 20000 in
theorem gX4_take_X4_takeGrant : GoodIn wsX4_take (wsV RX4 287 RX4 yX4_takeGrant wsX4_takeGrant) := goodIn_app (goodIn_of _ (by decide +kernel)) ggX4_take_X4_takeGrant
set_option maxRecDepth 100000 in
theorem dX4_take_59 : decode cX4_take 59 = .ok (.goto 45, 3) := by decide +kernel
set_option maxRecDepth 100000 in
theorem dX4_take_62 : decode cX4_take 62 = .ok (.aload_n 0, 1) := by decide +kernel
set_option maxRecDepth 100000 in
theorem dX4_take_63 : decode cX4_take 63 = .ok (.aload_n 1, 1) := by decide +kernel
set_option maxRecDepth 100000 in
theorem dX4_take_64 : decode cX4_take 64 = .ok (.aload_n 2, 1) := by decide +kernel
set_option maxRecDepth 100000 in
theorem dX4_take_65 : decode cX4_take 65 = .ok (.invokevirtual 290, 3) := by decide +kernel
set_option maxRecDepth 20000 in
theorem ggX4_take_X4_takePrepare : GoodIn wsX4_take wsX4_takePrepare := goodIn_r _ [110, 111, 28, 112, 113, 38, 114, 115, 116, 117, 118, 119, 120, 121, 122, 123, 124, 7, 125, 126, 127, 12, 13, 14, 15, 16, 17, 18, 19, 4, 20, 21, 22, 23, 24, 25, 26, 27, 29, 30, 31, 32, 33, 34, 35, 36, 37, 39, 40, 41, 42, 43, 44, 45, 46, 47, 48, 49, 50, 51, 52, 53, 54, 55, 56, 57, 58, 59, 60, 61, 62, 63, 64, 65, 66, 67, 68, 69, 70, 71, 72, 73, 74, 75, 76, 77, 78, 79, 80, 81, 82, 83, 84, 85, 86, 87, 88, 89, 90, 91, 92, 93, 94, 184, 185, 186, 187, 188, 189, 190, 191, 179, 180, 181, 182, 183, 204, 205, 206, 207, 192, 193, 194, 195, 196, 197, 198] (by decide +kernel) (by decide +kernel)
set_option maxRecDepth 20000 in
theorem gX4_take_X4_takePrepare : GoodIn wsX4_take (wsV RX4 290 RX4 yX4_takePrepare wsX4_takePrepare) := goodIn_app (goodIn_of _ (by decide +kernel)) ggX4_take_X4_takePrepare
set_option maxRecDepth 100000 in
theorem dX4_take_68 : decode cX4_take 68 = .ok (.goto 36, 3) := by decide +kernel
set_option maxRecDepth 100000 in
theorem dX4_take_71 : decode cX4_take 71 = .ok (.aload_n 0, 1) := by decide +kernel
set_option maxRecDepth 100000 in
theorem dX4_take_72 : decode cX4_take 72 = .ok (.aload_n 1, 1) := by decide +kernel
set_option maxRecDepth 100000 in
theorem dX4_take_73 : decode cX4_take 73 = .ok (.aload_n 2, 1) := by decide +kernel
set_option maxRecDepth 100000 in
theorem dX4_take_74 : decode cX4_take 74 = .ok (.invokevirtual 293, 3) := by decide +kernel
set_option maxRecDepth 20000 in
theorem ggX4_take_X4_takePrepared : GoodIn wsX4_take wsX4_takePrepared := goodIn_r _ [131, 99, 100, 4, 101, 102, 103, 104, 105, 106, 132, 133, 134, 135, 136, 137, 138, 139, 140, 141, 142, 143, 144, 145, 146, 147, 148, 149, 150, 7, 151, 152, 11, 153, 21, 22, 23, 24, 25, 26, 27, 28, 29, 30, 31, 32, 33, 34, 35, 36, 37, 38, 39, 40, 41, 42, 43, 44, 45, 46, 47, 48, 49, 50, 51, 52, 53, 54, 55, 56, 57, 58, 59, 60, 61, 62, 63, 64, 65, 66, 67, 68, 69, 70, 71, 72, 73, 74, 75, 76, 77, 78, 79, 80, 81, 82, 83, 84, 85, 86, 87, 88, 89, 90, 91, 92, 93, 94, 179, 180, 181, 182, 183, 199, 200, 201, 202, 203, 184, 185, 186, 187, 188, 189, 190, 191, 192, 193, 194, 195, 196, 197, 198] (by decide +kernel) (by decide +kernel)
set_option maxRecDepth 20000 in
theorem gX4_take_X4_takePrepared : GoodIn wsX4_take (wsV RX4 293 RX4 yX4_takePrepared wsX4_takePrepared) := goodIn_app (goodIn_of _ (by decide +kernel)) ggX4_take_X4_takePrepared
set_option maxRecDepth 100000 in
theorem dX4_take_77 : decode cX4_take 77 = .ok (.goto 27, 3) := by decide +kernel
set_option maxRecDepth 100000 in
theorem dX4_take_80 : decode cX4_take 80 = .ok (.aload_n 0, 1) := by decide +kernel
set_option maxRecDepth 100000 in
theorem dX4_take_81 : decode cX4_take 81 = .ok (.aload_n 1, 1) := by decide +kernel
set_option maxRecDepth 100000 in
theorem dX4_take_82 : decode cX4_take 82 = .ok (.aload_n 2, 1) := by decide +kernel
set_option maxRecDepth 100000 in
theorem dX4_take_83 : decode cX4_take 83 = .ok (.invokevirtual 296, 3) := by decide +kernel
set_option maxRecDepth 20000 in
theorem ggX4_take_X4_takeCommit : GoodIn wsX4_take wsX4_takeCommit := goodIn_r _ [157, 124, 7, 125, 126, 127, 12, 13, 14, 15, 16, 158, 159, 160, 179, 180, 181, 182, 183, 184, 185, 186, 187, 188, 189, 190, 191] (by decide +kernel) (by decide +kernel)
set_option maxRecDepth 20000 in
theorem gX4_take_X4_takeCommit : GoodIn wsX4_take (wsV RX4 296 RX4 yX4_takeCommit wsX4_takeCommit) := goodIn_app (goodIn_of _ (by decide +kernel)) ggX4_take_X4_takeCommit
set_option maxRecDepth 100000 in
theorem dX4_take_86 : decode cX4_take 86 = .ok (.goto 18, 3) := by decide +kernel
set_option maxRecDepth 100000 in
theorem dX4_take_89 : decode cX4_take 89 = .ok (.aload_n 0, 1) := by decide +kernel
set_option maxRecDepth 100000 in
theorem dX4_take_90 : decode cX4_take 90 = .ok (.aload_n 1, 1) := by decide +kernel
set_option maxRecDepth 100000 in
theorem dX4_take_91 : decode cX4_take 91 = .ok (.aload_n 2, 1) := by decide +kernel
set_option maxRecDepth 100000 in
theorem dX4_take_92 : decode cX4_take 92 = .ok (.invokevirtual 299, 3) := by decide +kernel
set_option maxRecDepth 20000 in
theorem ggX4_take_X4_takeAbort : GoodIn wsX4_take wsX4_takeAbort := goodIn_r _ [164, 124, 7, 125, 126, 127, 12, 13, 14, 15, 16, 158, 159, 160, 179, 180, 181, 182, 183, 184, 185, 186, 187, 188, 189, 190, 191] (by decide +kernel) (by decide +kernel)
set_option maxRecDepth 20000 in
theorem gX4_take_X4_takeAbort : GoodIn wsX4_take (wsV RX4 299 RX4 yX4_takeAbort wsX4_takeAbort) := goodIn_app (goodIn_of _ (by decide +kernel)) ggX4_take_X4_takeAbort
set_option maxRecDepth 100000 in
theorem dX4_take_95 : decode cX4_take 95 = .ok (.goto 9, 3) := by decide +kernel
set_option maxRecDepth 100000 in
theorem dX4_take_98 : decode cX4_take 98 = .ok (.aload_n 0, 1) := by decide +kernel
set_option maxRecDepth 100000 in
theorem dX4_take_99 : decode cX4_take 99 = .ok (.aload_n 1, 1) := by decide +kernel
set_option maxRecDepth 100000 in
theorem dX4_take_100 : decode cX4_take 100 = .ok (.aload_n 2, 1) := by decide +kernel
set_option maxRecDepth 100000 in
theorem dX4_take_101 : decode cX4_take 101 = .ok (.invokevirtual 302, 3) := by decide +kernel
set_option maxRecDepth 20000 in
theorem ggX4_take_X4_takeAsk : GoodIn wsX4_take wsX4_takeAsk := goodIn_r _ [168, 169, 115, 170, 171, 119, 17, 18, 19, 4, 20, 21, 22, 23, 24, 25, 26, 27, 28, 29, 30, 31, 32, 33, 34, 35, 36, 37, 38, 39, 40, 41, 42, 43, 44, 45, 46, 47, 48, 49, 50, 51, 52, 53, 54, 55, 56, 57, 58, 59, 60, 61, 62, 63, 64, 65, 66, 67, 68, 69, 70, 71, 72, 73, 74, 75, 76, 77, 78, 79, 80, 81, 82, 83, 84, 85, 86, 87, 88, 89, 90, 91, 92, 93, 94, 172, 7, 173, 174, 175, 153, 121, 122, 123, 118, 176, 177, 178, 184, 185, 186, 187, 188, 189, 190, 191, 179, 180, 181, 182, 183, 204, 205, 206, 207, 192, 193, 194, 195, 196, 197, 198, 199, 200, 201, 202, 203] (by decide +kernel) (by decide +kernel)
set_option maxRecDepth 20000 in
theorem gX4_take_X4_takeAsk : GoodIn wsX4_take (wsV RX4 302 RX4 yX4_takeAsk wsX4_takeAsk) := goodIn_app (goodIn_of _ (by decide +kernel)) ggX4_take_X4_takeAsk
set_option maxHeartbeats 4000000 in
set_option maxRecDepth 100000 in
theorem c_X4_takeLock (l : Launch) (hlt : l.stackTraces = false) (D : va_G) (tC : Nat → ClassId) (dz sz : Nat) (pl : va_W) (t : Nat → Nat × Nat) (ad : Nat → Nat) (ed : Nat) (cb up : Nat → Int32) (rs cp : Nat) (hO : Ok tC dz t ad ed cb up rs cp pl) (a : Nat) (wr : Nat) (ha : (t a).1 = 3) (hwr : wr < 5) (hrm : rs + 1 ≤ 1000) : Met l yX4_takeLock wsX4_takeLock ({ frames := 9, cells := 2, slots := 1605, locals := 239 }) (va_Pc [.ref (ad 0), .ref a, .ref (ad (6 + wr))] (pB D tC dz pl sz)) (va_Qv (fun (_ : Unit) => True) (fun (_ : Unit) t9 => ∃ (t2 : Nat → Nat × Nat) (ed2 rs2 cp2 : Nat) (pl2 : va_W), tLe t t2 ∧ rs2 ≤ rs + 1 ∧ Ok tC dz t2 ad ed2 cb up rs2 cp2 pl2 ∧ pA D tC (va_A pl sz) pl2 t9) (va_A pl sz)) 2 1605 (va_A pl sz) := by
  refine Met.ofW (cc := cX4_takeLock) (maxL := 3) (ret := none) (by decide) rfl ?_
  intro p e s m args below meth c s₁ B hml hv
  obtain ⟨rfl, hsz, hP, hK, hD0, hN, hE⟩ := hv
  have hx := B.exec
  have hb := B.bytes
  have hr := B.returns
  have hts := atoms_spec (ws := wsX4_takeLock) B.pre
  have hown : s.vm.findClass RX4 = some m.cls := findClass_of_methodNamed B.named
  have hlocks := B.notSynchronized
  subst hsz
  have hD := hD0.self (sz := s.heap.size)
  have hAm : ∀ q : Nat, xN s.heap.size q → va_A pl s.heap.size q := xN_A
  have hN0 : ∀ q : Nat, s.heap.size ≤ q → xN s.heap.size q := fun _ h => h
  have hE0 := eH_narrow hE hAm
  generalize va_A pl s.heap.size = A at hD hE hAm
  have hA : ∀ q : Nat, s.heap.size ≤ q → A q := fun q h => hAm q h
  have hS : va_S (xN s.heap.size) s.heap s.heap [] := va_S.rf
  obtain ⟨rs0, hrs0⟩ : ∃ z9, z9 = rs := ⟨_, rfl⟩
  obtain ⟨up0, hup0⟩ : ∃ z9, z9 = up := ⟨_, rfl⟩
  obtain ⟨cb0, hcb0⟩ : ∃ z9, z9 = cb := ⟨_, rfl⟩
  have hLe : tLe t t := tLe.rf
  have hRs : rs ≤ rs0 + 0 := by omega
  have hl := lv_entry ([.ref (ad 0), .ref a, .ref (ad (6 + wr))]) (n := 3) (Nat.le_of_ble_eq_true rfl)
  rw [lg_entry_eq]
  generalize (lg_sl ([.ref (ad 0), .ref a, .ref (ad (6 + wr))]) ++ List.replicate (3 - (lg_sl ([.ref (ad 0), .ref a, .ref (ad (6 + wr))])).length) Slot.unset).toArray = ls at hl ⊢
  have hl : lv_has ls 3 [(0, .ref (ad 0)), (1, .ref a), (2, .ref (ad (6 + wr)))] := hl
  have w_0 := hts (.initialized RX3) (by decide +kernel)
  have w_1 := hts (.instanceMethod yX3_isFree) (by decide +kernel)
  have w_2 := hts (.selects RX3 yX3_isFree yX3_isFree) (by decide +kernel)
  refine lv_aload_n hx hb dX4_takeLock_0 rfl (lv_at hl 2 rfl) ?_
  obtain ⟨p_1, st_2, bg_3, pn_4, lk_5, ps_6, o_7, hp_1, h_8, h_9, h_10⟩ := hO.k12 hwr
  refine va_calli (va_runVN (As := []) (rest := []) ⟨hx, hb, hml, hown, hts⟩ (c_X3_isFree l hlt D tC dz s.heap.size pl t ad ed cb up rs cp hO wr hwr) ⟨(va_cnB (host := "NoticeStations") 0 hts gX4_takeLock_X3_isFree_n240 rfl rfl rfl (hN.1 (.methodLinkNest "NoticeStations" 240 ⟨"NoticeStations$Station", "isFree", "()Z"⟩ "NoticeStations") (by decide +kernel)) w_0 (by decide +kernel) ⟨Nat.le_of_ble_eq_true rfl, Nat.le_of_ble_eq_true rfl⟩), w_1, w_2⟩ ⟨pB_blind, va_recv hK hP (ci := 4) (q0 := p_1) rfl hp_1, pB_at hP hD hK hN hE (hS.mono hAm) (freeA hD (hS.mono hAm) hA)⟩ rfl rfl hl.1 rfl (lv_room (Nat.le_of_ble_eq_true rfl)) dX4_takeLock_1 ⟨Nat.le_of_ble_eq_true rfl, Nat.le_of_ble_eq_true rfl⟩) hS oldN (freeN hS hN0) (fun r_11 u t9 H1 locs ht hvm hw hB hz1 hk1 hS => ?_)
  have hw_12 := hw
  have hP := keepP hP hk1
  generalize H1 = H at hP hS ⊢
  refine lv_if_eq (tgt := 15) hx hb dX4_takeLock_4 (by decide) (fun c_13 => ?_) (fun c_13 => ?_)
  · skip
    refine lv_aload_n hx hb dX4_takeLock_15 rfl (lv_at hl 2 rfl) ?_
    refine va_getN (host := "NoticeStations") (D := D) (ci := 4) (v := .int lk_5) (C := RX3) (T := TX3) (N := 8) hx hb hts in_X4_takeLock_X3 hown hK hP p_1 hp_1 rfl 6 (by decide) (va_Nw.use rfl (hN.1 (.fieldLinkNest "NoticeStations" 155 "NoticeStations$Station" "lock" "I" "NoticeStations") (by decide +kernel))) (fun _ h9 => h9) rfl dX4_takeLock_16 ?_
    refine lv_aload_n hx hb dX4_takeLock_19 rfl (lv_at hl 1 rfl) ?_
    obtain ⟨p_14, kd_15, nu_16, fr_17, to_18, o_19, hp_14, h_20, h_21, h_22⟩ := hO.k3 ha
    refine va_getN (host := "NoticeStations") (D := D) (ci := 1) (v := .int nu_16) (C := RX0) (T := TX0) (N := 5) hx hb hts in_X4_takeLock_X0 hown hK hP p_14 hp_14 rfl 3 (by decide) (va_Nw.use rfl (hN.1 (.fieldLinkNest "NoticeStations" 217 "NoticeStations$Letter" "number" "I" "NoticeStations") (by decide +kernel))) (fun _ h9 => h9) rfl dX4_takeLock_20 ?_
    refine lv_icmp_ne (tgt := 43) hx hb dX4_takeLock_23 (by decide) (fun c_23 => ?_) (fun c_23 => ?_)
    · skip
      have hS := hS.mono hAm
      refine W.widen (k := 2) (n := 1605) (by omega) (by omega) ?_
      exact W.vret hx hb hr (fun t9 ht hW => ⟨⟨(), rfl, trivial, ⟨t, ed, rs, cp, pl, hLe, by omega, hO, (by rw [ht]; exact hP), va_K.moved hW.alike hK, hD⟩⟩, hS.F ht⟩) hS.2.2 dX4_takeLock_43 hlocks
    · skip
      refine lv_aload_n hx hb dX4_takeLock_26 rfl (lv_at hl 2 rfl) ?_
      refine va_getN (host := "NoticeStations") (D := D) (ci := 4) (v := va_rf o_7) (C := RX3) (T := TX3) (N := 8) hx hb hts in_X4_takeLock_X3 hown hK hP p_1 hp_1 rfl 7 (by decide) (va_Nw.use rfl (hN.1 (.fieldLinkNest "NoticeStations" 81 "NoticeStations$Station" "open" "LNoticeStations$OpenWrite;" "NoticeStations") (by decide +kernel))) (fun _ h9 => h9) rfl dX4_takeLock_27 ?_
      rcases o_7 with _ | y_24
      · skip
        refine W.eq (g2 := F0 m 30 ls [.null]) rfl ?_
        refine lv_ifnonnullN hx hb dX4_takeLock_30 ?_
        refine lv_aload_n hx hb dX4_takeLock_33 rfl (lv_at hl 0 rfl) ?_
        refine lv_iconst (v := 1) hx hb dX4_takeLock_34 (by decide) ?_
        refine lv_aload_n hx hb dX4_takeLock_35 rfl (lv_at hl 1 rfl) ?_
        refine lv_aload_n hx hb dX4_takeLock_36 rfl (lv_at hl 2 rfl) ?_
        refine va_getN (host := "NoticeStations") (D := D) (ci := 4) (v := .ref st_2) (C := RX3) (T := TX3) (N := 8) hx hb hts in_X4_takeLock_X3 hown hK hP p_1 hp_1 rfl 2 (by decide) (va_Nw.use rfl (hN.1 (.fieldLinkNest "NoticeStations" 61 "NoticeStations$Station" "stored" "LNoticeStations$Standing;" "NoticeStations") (by decide +kernel))) (fun _ h9 => h9) rfl dX4_takeLock_37 ?_
        obtain ⟨p_26, hp_26⟩ := hO.k7
        have hFA := (freeA hD (hS.mono hAm) hA)
        refine va_callv (va_runV (As := [.int 1, .ref a, .ref st_2]) (rest := []) ⟨hx, hb, hml, hown, hts⟩ (c_X4_sendBack l hlt D tC dz H.size pl t ad ed cb up rs cp hO 1 a (some st_2) ha (isK.so h_8) (by omega)) (cwV 3 hts gX4_takeLock_X4_sendBack rfl rfl rfl (by decide +kernel) ⟨Nat.le_of_ble_eq_true rfl, Nat.le_of_ble_eq_true rfl⟩) ⟨pB_blind, va_recv hK hP (ci := 5) (q0 := p_26) rfl hp_26, pB_at hP hD hK hN hE (hS.mono hAm) (freeA hD (hS.mono hAm) hA)⟩ rfl rfl hl.1 rfl (lv_room (Nat.le_of_ble_eq_true rfl)) dX4_takeLock_40 ⟨Nat.le_of_ble_eq_true rfl, Nat.le_of_ble_eq_true rfl⟩) (hS.mono hAm) (fun q _ h => hFA q h) hFA (fun u t9 H1 locs ht hvm hw hB hz1 hk1 hS => ?_)
        have hw_28 := hw
        obtain ⟨t, ed, rs, cp, pl, hle9, hrs9, hO, hP1, _, hD1⟩ := hB
        rw [ht] at hP1
        have hD : va_D A pl := hD1.weaken (fun _ _ _ h9 => hFA _ h9)
        have hP := hP1
        generalize H1 = H at hP hS ⊢
        have hRs : rs ≤ rs0 + 1 := by omega
        have hLe := hLe.trans hle9
        have h_30 := hle9.k ha (by decide)
        refine W.widen (k := 2) (n := 1605) (by omega) (by omega) ?_
        refine W.widen (k := 2) (n := 1605) (by omega) (by omega) ?_
        exact W.vret hx hb hr (fun t9 ht hW => ⟨⟨(), rfl, trivial, ⟨t, ed, rs, cp, pl, hLe, by omega, hO, (by rw [ht]; exact hP), va_K.moved hW.alike hK, hD⟩⟩, hS.F ht⟩) hS.2.2 dX4_takeLock_43 hlocks
      · skip
        have h_25 : (t y_24).1 = 4 := h_10 _ rfl
        refine W.eq (g2 := F0 m 30 ls [.ref y_24]) rfl ?_
        refine lv_ifnonnull (tgt := 43) hx hb dX4_takeLock_30 (by decide) ?_
        have hS := hS.mono hAm
        refine W.widen (k := 2) (n := 1605) (by omega) (by omega) ?_
        exact W.vret hx hb hr (fun t9 ht hW => ⟨⟨(), rfl, trivial, ⟨t, ed, rs, cp, pl, hLe, by omega, hO, (by rw [ht]; exact hP), va_K.moved hW.alike hK, hD⟩⟩, hS.F ht⟩) hS.2.2 dX4_takeLock_43 hlocks
  · skip
    refine lv_aload_n hx hb dX4_takeLock_7 rfl (lv_at hl 2 rfl) ?_
    refine lv_aload_n hx hb dX4_takeLock_8 rfl (lv_at hl 1 rfl) ?_
    obtain ⟨p_31, kd_32, nu_33, fr_34, to_35, o_36, hp_31, h_37, h_38, h_39⟩ := hO.k3 ha
    refine va_getN (host := "NoticeStations") (D := D) (ci := 1) (v := .int nu_33) (C := RX0) (T := TX0) (N := 5) hx hb hts in_X4_takeLock_X0 hown hK hP p_31 hp_31 rfl 3 (by decide) (va_Nw.use rfl (hN.1 (.fieldLinkNest "NoticeStations" 217 "NoticeStations$Letter" "number" "I" "NoticeStations") (by decide +kernel))) (fun _ h9 => h9) rfl dX4_takeLock_9 ?_
    have hS := hS.mono hAm
    refine va_putN (host := "NoticeStations") (D := D) (ci := 4) (v := .int nu_33) (ty := .int) (C := RX3) (T := TX3) (N := 8) hx hb hts in_X4_takeLock_X3 tyX3 tyX3_ok nmX3 hown hK hP hD hS p_1 hp_1 rfl 6 (by decide) (va_Nw.use rfl (hN.1 (.fieldLinkNest "NoticeStations" 155 "NoticeStations$Station" "lock" "I" "NoticeStations") (by decide +kernel))) (fun _ h9 => h9) rfl (by decide +kernel) (by first | rfl | decide) (by first | rfl | decide) (Nat.le_of_ble_eq_true rfl) dX4_takeLock_12 (fun H locs hP hD hS => ?_)
    have hO := hO.p12 hwr hp_1 h_8 h_9 h_10 (bg := bg_3) (pn := pn_4) (lk := nu_33) (ps := ps_6) (op := o_7)
    obtain ⟨pl, hpl9⟩ : ∃ z9, z9 = pl.set p_1 ((ad (6 + wr)), .inr (4, [.int (nI wr), .int (up wr), .ref st_2, .int bg_3, .int pn_4, va_rf ps_6, .int nu_33, va_rf o_7])) := ⟨_, rfl⟩
    have hk_40 := setP hp_1 hpl9
    have hP : va_P D vwCl pl H := by rw [hpl9]; exact hP
    have hD : va_D A pl := by rw [hpl9]; exact hD
    have hO : Ok tC dz t ad ed cb up rs cp pl := by rw [hpl9]; exact hO
    refine lv_aload_n hx hb dX4_takeLock_15 rfl (lv_at hl 2 rfl) ?_
    refine va_getN (host := "NoticeStations") (D := D) (ci := 4) (v := .int nu_33) (C := RX3) (T := TX3) (N := 8) hx hb hts in_X4_takeLock_X3 hown hK hP p_1 hk_40 rfl 6 (by decide) (va_Nw.use rfl (hN.1 (.fieldLinkNest "NoticeStations" 155 "NoticeStations$Station" "lock" "I" "NoticeStations") (by decide +kernel))) (fun _ h9 => h9) rfl dX4_takeLock_16 ?_
    refine lv_aload_n hx hb dX4_takeLock_19 rfl (lv_at hl 1 rfl) ?_
    obtain ⟨p_41, kd_42, nu_43, fr_44, to_45, o_46, hp_41, h_47, h_48, h_49⟩ := hO.k3 ha
    refine va_getN (host := "NoticeStations") (D := D) (ci := 1) (v := .int nu_43) (C := RX0) (T := TX0) (N := 5) hx hb hts in_X4_takeLock_X0 hown hK hP p_41 hp_41 rfl 3 (by decide) (va_Nw.use rfl (hN.1 (.fieldLinkNest "NoticeStations" 217 "NoticeStations$Letter" "number" "I" "NoticeStations") (by decide +kernel))) (fun _ h9 => h9) rfl dX4_takeLock_20 ?_
    refine lv_icmp_ne (tgt := 43) hx hb dX4_takeLock_23 (by decide) (fun c_50 => ?_) (fun c_50 => ?_)
    · skip
      refine W.widen (k := 2) (n := 1605) (by omega) (by omega) ?_
      exact W.vret hx hb hr (fun t9 ht hW => ⟨⟨(), rfl, trivial, ⟨t, ed, rs, cp, pl, hLe, by omega, hO, (by rw [ht]; exact hP), va_K.moved hW.alike hK, hD⟩⟩, hS.F ht⟩) hS.2.2 dX4_takeLock_43 hlocks
    · skip
      refine lv_aload_n hx hb dX4_takeLock_26 rfl (lv_at hl 2 rfl) ?_
      refine va_getN (host := "NoticeStations") (D := D) (ci := 4) (v := va_rf o_7) (C := RX3) (T := TX3) (N := 8) hx hb hts in_X4_takeLock_X3 hown hK hP p_1 hk_40 rfl 7 (by decide) (va_Nw.use rfl (hN.1 (.fieldLinkNest "NoticeStations" 81 "NoticeStations$Station" "open" "LNoticeStations$OpenWrite;" "NoticeStations") (by decide +kernel))) (fun _ h9 => h9) rfl dX4_takeLock_27 ?_
      rcases o_7 with _ | y_51
      · skip
        have hP : va_P D vwCl pl H := by assumption
        have hD : va_D A pl := by assumption
        have hO : Ok tC dz t ad ed cb up rs cp pl := by assumption
        refine W.eq (g2 := F0 m 30 ls [.null]) rfl ?_
        refine lv_ifnonnullN hx hb dX4_takeLock_30 ?_
        refine lv_aload_n hx hb dX4_takeLock_33 rfl (lv_at hl 0 rfl) ?_
        refine lv_iconst (v := 1) hx hb dX4_takeLock_34 (by decide) ?_
        refine lv_aload_n hx hb dX4_takeLock_35 rfl (lv_at hl 1 rfl) ?_
        refine lv_aload_n hx hb dX4_takeLock_36 rfl (lv_at hl 2 rfl) ?_
        refine va_getN (host := "NoticeStations") (D := D) (ci := 4) (v := .ref st_2) (C := RX3) (T := TX3) (N := 8) hx hb hts in_X4_takeLock_X3 hown hK hP p_1 hk_40 rfl 2 (by decide) (va_Nw.use rfl (hN.1 (.fieldLinkNest "NoticeStations" 61 "NoticeStations$Station" "stored" "LNoticeStations$Standing;" "NoticeStations") (by decide +kernel))) (fun _ h9 => h9) rfl dX4_takeLock_37 ?_
        obtain ⟨p_53, hp_53⟩ := hO.k7
        have hFA := (freeA hD hS hA)
        refine va_callv (va_runV (As := [.int 1, .ref a, .ref st_2]) (rest := []) ⟨hx, hb, hml, hown, hts⟩ (c_X4_sendBack l hlt D tC dz H.size pl t ad ed cb up rs cp hO 1 a (some st_2) ha (isK.so h_8) (by omega)) (cwV 3 hts gX4_takeLock_X4_sendBack rfl rfl rfl (by decide +kernel) ⟨Nat.le_of_ble_eq_true rfl, Nat.le_of_ble_eq_true rfl⟩) ⟨pB_blind, va_recv hK hP (ci := 5) (q0 := p_53) rfl hp_53, pB_at hP hD hK hN hE hS (freeA hD hS hA)⟩ rfl rfl hl.1 rfl (lv_room (Nat.le_of_ble_eq_true rfl)) dX4_takeLock_40 ⟨Nat.le_of_ble_eq_true rfl, Nat.le_of_ble_eq_true rfl⟩) hS (fun q _ h => hFA q h) hFA (fun u t9 H1 locs ht hvm hw hB hz1 hk1 hS => ?_)
        have hw_55 := hw
        obtain ⟨t, ed, rs, cp, pl, hle9, hrs9, hO, hP1, _, hD1⟩ := hB
        rw [ht] at hP1
        have hD : va_D A pl := hD1.weaken (fun _ _ _ h9 => hFA _ h9)
        have hP := hP1
        generalize H1 = H at hP hS ⊢
        have hRs : rs ≤ rs0 + 1 := by omega
        have hLe := hLe.trans hle9
        have h_57 := hle9.k ha (by decide)
        refine W.widen (k := 2) (n := 1605) (by omega) (by omega) ?_
        refine W.widen (k := 2) (n := 1605) (by omega) (by omega) ?_
        exact W.vret hx hb hr (fun t9 ht hW => ⟨⟨(), rfl, trivial, ⟨t, ed, rs, cp, pl, hLe, by omega, hO, (by rw [ht]; exact hP), va_K.moved hW.alike hK, hD⟩⟩, hS.F ht⟩) hS.2.2 dX4_takeLock_43 hlocks
      · skip
        have h_52 : (t y_51).1 = 4 := h_10 _ rfl
        have hP : va_P D vwCl pl H := by assumption
        have hD : va_D A pl := by assumption
        have hO : Ok tC dz t ad ed cb up rs cp pl := by assumption
        refine W.eq (g2 := F0 m 30 ls [.ref y_51]) rfl ?_
        refine lv_ifnonnull (tgt := 43) hx hb dX4_takeLock_30 (by decide) ?_
        refine W.widen (k := 2) (n := 1605) (by omega) (by omega) ?_
        exact W.vret hx hb hr (fun t9 ht hW => ⟨⟨(), rfl, trivial, ⟨t, ed, rs, cp, pl, hLe, by omega, hO, (by rw [ht]; exact hP), va_K.moved hW.alike hK, hD⟩⟩, hS.F ht⟩) hS.2.2 dX4_takeLock_43 hlocks
set_option maxHeartbeats 4000000 in
set_option maxRecDepth 100000 in
theorem c_X4_takePrepare (l : Launch) (hlt : l.stackTraces = false) (D : va_G) (tC : Nat → ClassId) (dz sz : Nat) (pl : va_W) (t : Nat → Nat × Nat) (ad : Nat → Nat) (ed : Nat) (cb up : Nat → Int32) (rs cp : Nat) (hO : Ok tC dz t ad ed cb up rs cp pl) (a : Nat) (wr : Nat) (ha : (t a).1 = 3) (hwr : wr < 5) (hrm : rs + 1 ≤ 1000) : Met l yX4_takePrepare wsX4_takePrepare ({ frames := 9, cells := 2, slots := 1605, locals := 239 }) (va_Pc [.ref (ad 0), .ref a, .ref (ad (6 + wr))] (pB D tC dz pl sz)) (va_Qv (fun (_ : Unit) => True) (fun (_ : Unit) t9 => ∃ (t2 : Nat → Nat × Nat) (ed2 rs2 cp2 : Nat) (pl2 : va_W), tLe t t2 ∧ rs2 ≤ rs + 1 ∧ Ok tC dz t2 ad ed2 cb up rs2 cp2 pl2 ∧ pA D tC (va_A pl sz) pl2 t9) (va_A pl sz)) 2 1605 (va_A pl sz) := by
  refine Met.ofW (cc := cX4_takePrepare) (maxL := 3) (ret := none) (by decide) rfl ?_
  intro p e s m args below meth c s₁ B hml hv
  obtain ⟨rfl, hsz, hP, hK, hD0, hN, hE⟩ := hv
  have hx := B.exec
  have hb := B.bytes
  have hr := B.returns
  have hts := atoms_spec (ws := wsX4_takePrepare) B.pre
  have hown : s.vm.findClass RX4 = some m.cls := findClass_of_methodNamed B.named
  have hlocks := B.notSynchronized
  subst hsz
  have hD := hD0.self (sz := s.heap.size)
  have hAm : ∀ q : Nat, xN s.heap.size q → va_A pl s.heap.size q := xN_A
  have hN0 : ∀ q : Nat, s.heap.size ≤ q → xN s.heap.size q := fun _ h => h
  have hE0 := eH_narrow hE hAm
  generalize va_A pl s.heap.size = A at hD hE hAm
  have hA : ∀ q : Nat, s.heap.size ≤ q → A q := fun q h => hAm q h
  have hS : va_S (xN s.heap.size) s.heap s.heap [] := va_S.rf
  obtain ⟨rs0, hrs0⟩ : ∃ z9, z9 = rs := ⟨_, rfl⟩
  obtain ⟨up0, hup0⟩ : ∃ z9, z9 = up := ⟨_, rfl⟩
  obtain ⟨cb0, hcb0⟩ : ∃ z9, z9 = cb := ⟨_, rfl⟩
  have hLe : tLe t t := tLe.rf
  have hRs : rs ≤ rs0 + 0 := by omega
  have hl := lv_entry ([.ref (ad 0), .ref a, .ref (ad (6 + wr))]) (n := 3) (Nat.le_of_ble_eq_true rfl)
  rw [lg_entry_eq]
  generalize (lg_sl ([.ref (ad 0), .ref a, .ref (ad (6 + wr))]) ++ List.replicate (3 - (lg_sl ([.ref (ad 0), .ref a, .ref (ad (6 + wr))])).length) Slot.unset).toArray = ls at hl ⊢
  have hl : lv_has ls 3 [(0, .ref (ad 0)), (1, .ref a), (2, .ref (ad (6 + wr)))] := hl
  have w_0 := hts (.initialized RX3) (by decide +kernel)
  have w_1 := hts (.instanceMethod yX3_isPreparedFor) (by decide +kernel)
  have w_2 := hts (.selects RX3 yX3_isPreparedFor yX3_isPreparedFor) (by decide +kernel)
  have w_3 := hts (.initialized RX0) (by decide +kernel)
  have w_4 := hts (.instanceMethod yX0_goesOnFrom) (by decide +kernel)
  have w_5 := hts (.selects RX0 yX0_goesOnFrom yX0_goesOnFrom) (by decide +kernel)
  refine lv_aload_n hx hb dX4_takePrepare_0 rfl (lv_at hl 2 rfl) ?_
  obtain ⟨p_1, st_2, bg_3, pn_4, lk_5, ps_6, o_7, hp_1, h_8, h_9, h_10⟩ := hO.k12 hwr
  refine va_getN (host := "NoticeStations") (D := D) (ci := 4) (v := .int lk_5) (C := RX3) (T := TX3) (N := 8) hx hb hts in_X4_takePrepare_X3 hown hK hP p_1 hp_1 rfl 6 (by decide) (va_Nw.use rfl (hN.1 (.fieldLinkNest "NoticeStations" 155 "NoticeStations$Station" "lock" "I" "NoticeStations") (by decide +kernel))) (fun _ h9 => h9) rfl dX4_takePrepare_1 ?_
  refine lv_aload_n hx hb dX4_takePrepare_4 rfl (lv_at hl 1 rfl) ?_
  obtain ⟨p_11, kd_12, nu_13, fr_14, to_15, o_16, hp_11, h_17, h_18, h_19⟩ := hO.k3 ha
  refine va_getN (host := "NoticeStations") (D := D) (ci := 1) (v := .int nu_13) (C := RX0) (T := TX0) (N := 5) hx hb hts in_X4_takePrepare_X0 hown hK hP p_11 hp_11 rfl 3 (by decide) (va_Nw.use rfl (hN.1 (.fieldLinkNest "NoticeStations" 217 "NoticeStations$Letter" "number" "I" "NoticeStations") (by decide +kernel))) (fun _ h9 => h9) rfl dX4_takePrepare_5 ?_
  refine lv_icmp_ne (tgt := 43) hx hb dX4_takePrepare_8 (by decide) (fun c_20 => ?_) (fun c_20 => ?_)
  · skip
    refine lv_aload_n hx hb dX4_takePrepare_43 rfl (lv_at hl 2 rfl) ?_
    refine lv_aload_n hx hb dX4_takePrepare_44 rfl (lv_at hl 1 rfl) ?_
    refine va_getN (host := "NoticeStations") (D := D) (ci := 1) (v := .int nu_13) (C := RX0) (T := TX0) (N := 5) hx hb hts in_X4_takePrepare_X0 hown hK hP p_11 hp_11 rfl 3 (by decide) (va_Nw.use rfl (hN.1 (.fieldLinkNest "NoticeStations" 217 "NoticeStations$Letter" "number" "I" "NoticeStations") (by decide +kernel))) (fun _ h9 => h9) rfl dX4_takePrepare_45 ?_
    refine va_calli (va_runVN (As := [.int nu_13]) (rest := []) ⟨hx, hb, hml, hown, hts⟩ (c_X3_isPreparedFor l hlt D tC dz s.heap.size pl t ad ed cb up rs cp hO wr nu_13 hwr) ⟨(va_cnB (host := "NoticeStations") 1 hts gX4_takePrepare_X3_isPreparedFor_n316 rfl rfl rfl (hN.1 (.methodLinkNest "NoticeStations" 316 ⟨"NoticeStations$Station", "isPreparedFor", "(I)Z"⟩ "NoticeStations") (by decide +kernel)) w_0 (by decide +kernel) ⟨Nat.le_of_ble_eq_true rfl, Nat.le_of_ble_eq_true rfl⟩), w_1, w_2⟩ ⟨pB_blind, va_recv hK hP (ci := 4) (q0 := p_1) rfl hp_1, pB_at hP hD hK hN hE (hS.mono hAm) (freeA hD (hS.mono hAm) hA)⟩ rfl rfl hl.1 rfl (lv_room (Nat.le_of_ble_eq_true rfl)) dX4_takePrepare_48 ⟨Nat.le_of_ble_eq_true rfl, Nat.le_of_ble_eq_true rfl⟩) hS oldN (freeN hS hN0) (fun r_21 u t9 H1 locs ht hvm hw hB hz1 hk1 hS => ?_)
    have hw_22 := hw
    have hP := keepP hP hk1
    generalize H1 = H at hP hS ⊢
    refine lv_if_eq (tgt := 61) hx hb dX4_takePrepare_51 (by decide) (fun c_23 => ?_) (fun c_23 => ?_)
    · skip
      have hS := hS.mono hAm
      refine W.widen (k := 2) (n := 1605) (by omega) (by omega) ?_
      exact W.vret hx hb hr (fun t9 ht hW => ⟨⟨(), rfl, trivial, ⟨t, ed, rs, cp, pl, hLe, by omega, hO, (by rw [ht]; exact hP), va_K.moved hW.alike hK, hD⟩⟩, hS.F ht⟩) hS.2.2 dX4_takePrepare_61 hlocks
    · skip
      refine lv_aload_n hx hb dX4_takePrepare_54 rfl (lv_at hl 0 rfl) ?_
      refine lv_iconst (v := 3) hx hb dX4_takePrepare_55 (by decide) ?_
      refine lv_aload_n hx hb dX4_takePrepare_56 rfl (lv_at hl 1 rfl) ?_
      refine lv_null hx hb dX4_takePrepare_57 ?_
      obtain ⟨p_24, hp_24⟩ := hO.k7
      have hFA := (freeA hD (hS.mono hAm) hA)
      refine va_callv (va_runV (As := [.int 3, .ref a, .null]) (rest := []) ⟨hx, hb, hml, hown, hts⟩ (c_X4_sendBack l hlt D tC dz H.size pl t ad ed cb up rs cp hO 3 a none ha isK.no (by omega)) (cwV 3 hts gX4_takePrepare_X4_sendBack rfl rfl rfl (by decide +kernel) ⟨Nat.le_of_ble_eq_true rfl, Nat.le_of_ble_eq_true rfl⟩) ⟨pB_blind, va_recv hK hP (ci := 5) (q0 := p_24) rfl hp_24, pB_at hP hD hK hN hE (hS.mono hAm) (freeA hD (hS.mono hAm) hA)⟩ rfl rfl hl.1 rfl (lv_room (Nat.le_of_ble_eq_true rfl)) dX4_takePrepare_58 ⟨Nat.le_of_ble_eq_true rfl, Nat.le_of_ble_eq_true rfl⟩) (hS.mono hAm) (fun q _ h => hFA q h) hFA (fun u t9 H1 locs ht hvm hw hB hz1 hk1 hS => ?_)
      have hw_26 := hw
      obtain ⟨t, ed, rs, cp, pl, hle9, hrs9, hO, hP1, _, hD1⟩ := hB
      rw [ht] at hP1
      have hD : va_D A pl := hD1.weaken (fun _ _ _ h9 => hFA _ h9)
      have hP := hP1
      generalize H1 = H at hP hS ⊢
      have hRs : rs ≤ rs0 + 1 := by omega
      have hLe := hLe.trans hle9
      have h_28 := hle9.k ha (by decide)
      refine W.widen (k := 2) (n := 1605) (by omega) (by omega) ?_
      refine W.widen (k := 2) (n := 1605) (by omega) (by omega) ?_
      exact W.vret hx hb hr (fun t9 ht hW => ⟨⟨(), rfl, trivial, ⟨t, ed, rs, cp, pl, hLe, by omega, hO, (by rw [ht]; exact hP), va_K.moved hW.alike hK, hD⟩⟩, hS.F ht⟩) hS.2.2 dX4_takePrepare_61 hlocks
  · skip
    refine lv_aload_n hx hb dX4_takePrepare_11 rfl (lv_at hl 1 rfl) ?_
    refine lv_aload_n hx hb dX4_takePrepare_12 rfl (lv_at hl 2 rfl) ?_
    refine va_getN (host := "NoticeStations") (D := D) (ci := 4) (v := .ref st_2) (C := RX3) (T := TX3) (N := 8) hx hb hts in_X4_takePrepare_X3 hown hK hP p_1 hp_1 rfl 2 (by decide) (va_Nw.use rfl (hN.1 (.fieldLinkNest "NoticeStations" 61 "NoticeStations$Station" "stored" "LNoticeStations$Standing;" "NoticeStations") (by decide +kernel))) (fun _ h9 => h9) rfl dX4_takePrepare_13 ?_
    refine va_calli (va_runVN (As := [.ref st_2]) (rest := []) ⟨hx, hb, hml, hown, hts⟩ (c_X0_goesOnFrom l hlt D tC dz s.heap.size pl t ad ed cb up rs cp hO a st_2 ha h_8) ⟨(va_cnB (host := "NoticeStations") 1 hts gX4_takePrepare_X0_goesOnFrom_n312 rfl rfl rfl (hN.1 (.methodLinkNest "NoticeStations" 312 ⟨"NoticeStations$Letter", "goesOnFrom", "(LNoticeStations$Standing;)Z"⟩ "NoticeStations") (by decide +kernel)) w_3 (by decide +kernel) ⟨Nat.le_of_ble_eq_true rfl, Nat.le_of_ble_eq_true rfl⟩), w_4, w_5⟩ ⟨pB_blind, va_recv hK hP (ci := 1) (q0 := p_11) rfl hp_11, pB_at hP hD hK hN hE (hS.mono hAm) (freeA hD (hS.mono hAm) hA)⟩ rfl rfl hl.1 rfl (lv_room (Nat.le_of_ble_eq_true rfl)) dX4_takePrepare_16 ⟨Nat.le_of_ble_eq_true rfl, Nat.le_of_ble_eq_true rfl⟩) hS oldN (freeN hS hN0) (fun r_29 u t9 H1 locs ht hvm hw hB hz1 hk1 hS => ?_)
    have hw_30 := hw
    have hP := keepP hP hk1
    generalize H1 = H at hP hS ⊢
    refine lv_if_eq (tgt := 43) hx hb dX4_takePrepare_19 (by decide) (fun c_31 => ?_) (fun c_31 => ?_)
    · skip
      refine lv_aload_n hx hb dX4_takePrepare_43 rfl (lv_at hl 2 rfl) ?_
      refine lv_aload_n hx hb dX4_takePrepare_44 rfl (lv_at hl 1 rfl) ?_
      refine va_getN (host := "NoticeStations") (D := D) (ci := 1) (v := .int nu_13) (C := RX0) (T := TX0) (N := 5) hx hb hts in_X4_takePrepare_X0 hown hK hP p_11 hp_11 rfl 3 (by decide) (va_Nw.use rfl (hN.1 (.fieldLinkNest "NoticeStations" 217 "NoticeStations$Letter" "number" "I" "NoticeStations") (by decide +kernel))) (fun _ h9 => h9) rfl dX4_takePrepare_45 ?_
      refine va_calli (va_runVN (As := [.int nu_13]) (rest := []) ⟨hx, hb, hml, hown, hts⟩ (c_X3_isPreparedFor l hlt D tC dz H.size pl t ad ed cb up rs cp hO wr nu_13 hwr) ⟨(va_cnB (host := "NoticeStations") 1 hts gX4_takePrepare_X3_isPreparedFor_n316 rfl rfl rfl (hN.1 (.methodLinkNest "NoticeStations" 316 ⟨"NoticeStations$Station", "isPreparedFor", "(I)Z"⟩ "NoticeStations") (by decide +kernel)) w_0 (by decide +kernel) ⟨Nat.le_of_ble_eq_true rfl, Nat.le_of_ble_eq_true rfl⟩), w_1, w_2⟩ ⟨pB_blind, va_recv hK hP (ci := 4) (q0 := p_1) rfl hp_1, pB_at hP hD hK hN hE (hS.mono hAm) (freeA hD (hS.mono hAm) hA)⟩ rfl rfl hl.1 rfl (lv_room (Nat.le_of_ble_eq_true rfl)) dX4_takePrepare_48 ⟨Nat.le_of_ble_eq_true rfl, Nat.le_of_ble_eq_true rfl⟩) hS oldN (freeN hS hN0) (fun r_32 u t9 H1 locs ht hvm hw hB hz1 hk1 hS => ?_)
      have hw_33 := hw
      have hP := keepP hP hk1
      generalize H1 = H at hP hS ⊢
      refine lv_if_eq (tgt := 61) hx hb dX4_takePrepare_51 (by decide) (fun c_34 => ?_) (fun c_34 => ?_)
      · skip
        have hS := hS.mono hAm
        refine W.widen (k := 2) (n := 1605) (by omega) (by omega) ?_
        exact W.vret hx hb hr (fun t9 ht hW => ⟨⟨(), rfl, trivial, ⟨t, ed, rs, cp, pl, hLe, by omega, hO, (by rw [ht]; exact hP), va_K.moved hW.alike hK, hD⟩⟩, hS.F ht⟩) hS.2.2 dX4_takePrepare_61 hlocks
      · skip
        refine lv_aload_n hx hb dX4_takePrepare_54 rfl (lv_at hl 0 rfl) ?_
        refine lv_iconst (v := 3) hx hb dX4_takePrepare_55 (by decide) ?_
        refine lv_aload_n hx hb dX4_takePrepare_56 rfl (lv_at hl 1 rfl) ?_
        refine lv_null hx hb dX4_takePrepare_57 ?_
        obtain ⟨p_35, hp_35⟩ := hO.k7
        have hFA := (freeA hD (hS.mono hAm) hA)
        refine va_callv (va_runV (As := [.int 3, .ref a, .null]) (rest := []) ⟨hx, hb, hml, hown, hts⟩ (c_X4_sendBack l hlt D tC dz H.size pl t ad ed cb up rs cp hO 3 a none ha isK.no (by omega)) (cwV 3 hts gX4_takePrepare_X4_sendBack rfl rfl rfl (by decide +kernel) ⟨Nat.le_of_ble_eq_true rfl, Nat.le_of_ble_eq_true rfl⟩) ⟨pB_blind, va_recv hK hP (ci := 5) (q0 := p_35) rfl hp_35, pB_at hP hD hK hN hE (hS.mono hAm) (freeA hD (hS.mono hAm) hA)⟩ rfl rfl hl.1 rfl (lv_room (Nat.le_of_ble_eq_true rfl)) dX4_takePrepare_58 ⟨Nat.le_of_ble_eq_true rfl, Nat.le_of_ble_eq_true rfl⟩) (hS.mono hAm) (fun q _ h => hFA q h) hFA (fun u t9 H1 locs ht hvm hw hB hz1 hk1 hS => ?_)
        have hw_37 := hw
        obtain ⟨t, ed, rs, cp, pl, hle9, hrs9, hO, hP1, _, hD1⟩ := hB
        rw [ht] at hP1
        have hD : va_D A pl := hD1.weaken (fun _ _ _ h9 => hFA _ h9)
        have hP := hP1
        generalize H1 = H at hP hS ⊢
        have hRs : rs ≤ rs0 + 1 := by omega
        have hLe := hLe.trans hle9
        have h_39 := hle9.k ha (by decide)
        refine W.widen (k := 2) (n := 1605) (by omega) (by omega) ?_
        refine W.widen (k := 2) (n := 1605) (by omega) (by omega) ?_
        exact W.vret hx hb hr (fun t9 ht hW => ⟨⟨(), rfl, trivial, ⟨t, ed, rs, cp, pl, hLe, by omega, hO, (by rw [ht]; exact hP), va_K.moved hW.alike hK, hD⟩⟩, hS.F ht⟩) hS.2.2 dX4_takePrepare_61 hlocks
    · skip
      refine lv_aload_n hx hb dX4_takePrepare_22 rfl (lv_at hl 2 rfl) ?_
      refine lv_iconst (v := (-1)) hx hb dX4_takePrepare_23 (by decide) ?_
      have hS := hS.mono hAm
      refine va_putN (host := "NoticeStations") (D := D) (ci := 4) (v := .int (-1)) (ty := .int) (C := RX3) (T := TX3) (N := 8) hx hb hts in_X4_takePrepare_X3 tyX3 tyX3_ok nmX3 hown hK hP hD hS p_1 hp_1 rfl 6 (by decide) (va_Nw.use rfl (hN.1 (.fieldLinkNest "NoticeStations" 155 "NoticeStations$Station" "lock" "I" "NoticeStations") (by decide +kernel))) (fun _ h9 => h9) rfl (by decide +kernel) (by first | rfl | decide) (by first | rfl | decide) (Nat.le_of_ble_eq_true rfl) dX4_takePrepare_24 (fun H locs hP hD hS => ?_)
      have hO := hO.p12 hwr hp_1 h_8 h_9 h_10 (bg := bg_3) (pn := pn_4) (lk := (-1)) (ps := ps_6) (op := o_7)
      obtain ⟨pl, hpl9⟩ : ∃ z9, z9 = pl.set p_1 ((ad (6 + wr)), .inr (4, [.int (nI wr), .int (up wr), .ref st_2, .int bg_3, .int pn_4, va_rf ps_6, .int (-1), va_rf o_7])) := ⟨_, rfl⟩
      have hk_40 := setP hp_1 hpl9
      have hP : va_P D vwCl pl H := by rw [hpl9]; exact hP
      have hD : va_D A pl := by rw [hpl9]; exact hD
      have hO : Ok tC dz t ad ed cb up rs cp pl := by rw [hpl9]; exact hO
      refine lv_aload_n hx hb dX4_takePrepare_27 rfl (lv_at hl 2 rfl) ?_
      refine lv_aload_n hx hb dX4_takePrepare_28 rfl (lv_at hl 1 rfl) ?_
      obtain ⟨p_41, kd_42, nu_43, fr_44, to_45, o_46, hp_41, h_47, h_48, h_49⟩ := hO.k3 ha
      refine va_getN (host := "NoticeStations") (D := D) (ci := 1) (v := .int nu_43) (C := RX0) (T := TX0) (N := 5) hx hb hts in_X4_takePrepare_X0 hown hK hP p_41 hp_41 rfl 3 (by decide) (va_Nw.use rfl (hN.1 (.fieldLinkNest "NoticeStations" 217 "NoticeStations$Letter" "number" "I" "NoticeStations") (by decide +kernel))) (fun _ h9 => h9) rfl dX4_takePrepare_29 ?_
      refine va_putN (host := "NoticeStations") (D := D) (ci := 4) (v := .int nu_43) (ty := .int) (C := RX3) (T := TX3) (N := 8) hx hb hts in_X4_takePrepare_X3 tyX3 tyX3_ok nmX3 hown hK hP hD hS p_1 hk_40 rfl 4 (by decide) (va_Nw.use rfl (hN.1 (.fieldLinkNest "NoticeStations" 169 "NoticeStations$Station" "preparedNumber" "I" "NoticeStations") (by decide +kernel))) (fun _ h9 => h9) rfl (by decide +kernel) (by first | rfl | decide) (by first | rfl | decide) (Nat.le_of_ble_eq_true rfl) dX4_takePrepare_32 (fun H locs hP hD hS => ?_)
      have hO := hO.p12 hwr hk_40 h_8 h_9 h_10 (bg := bg_3) (pn := nu_43) (lk := (-1)) (ps := ps_6) (op := o_7)
      obtain ⟨pl, hpl9⟩ : ∃ z9, z9 = pl.set p_1 ((ad (6 + wr)), .inr (4, [.int (nI wr), .int (up wr), .ref st_2, .int bg_3, .int nu_43, va_rf ps_6, .int (-1), va_rf o_7])) := ⟨_, rfl⟩
      have hk_50 := setP hk_40 hpl9
      have hP : va_P D vwCl pl H := by rw [hpl9]; exact hP
      have hD : va_D A pl := by rw [hpl9]; exact hD
      have hO : Ok tC dz t ad ed cb up rs cp pl := by rw [hpl9]; exact hO
      refine lv_aload_n hx hb dX4_takePrepare_35 rfl (lv_at hl 2 rfl) ?_
      refine lv_aload_n hx hb dX4_takePrepare_36 rfl (lv_at hl 1 rfl) ?_
      obtain ⟨p_51, kd_52, nu_53, fr_54, to_55, o_56, hp_51, h_57, h_58, h_59⟩ := hO.k3 ha
      refine va_getN (host := "NoticeStations") (D := D) (ci := 1) (v := va_rf o_56) (C := RX0) (T := TX0) (N := 5) hx hb hts in_X4_takePrepare_X0 hown hK hP p_51 hp_51 rfl 4 (by decide) (va_Nw.use rfl (hN.1 (.fieldLinkNest "NoticeStations" 309 "NoticeStations$Letter" "standing" "LNoticeStations$Standing;" "NoticeStations") (by decide +kernel))) (fun _ h9 => h9) rfl dX4_takePrepare_37 ?_
      refine va_putN (host := "NoticeStations") (D := D) (ci := 4) (v := va_rf o_56) (ty := .object "NoticeStations$Standing") (C := RX3) (T := TX3) (N := 8) hx hb hts in_X4_takePrepare_X3 tyX3 tyX3_ok nmX3 hown hK hP hD hS p_1 hk_50 rfl 5 (by decide) (va_Nw.use rfl (hN.1 (.fieldLinkNest "NoticeStations" 172 "NoticeStations$Station" "preparedStanding" "LNoticeStations$Standing;" "NoticeStations") (by decide +kernel))) (fun _ h9 => h9) rfl (by decide +kernel) (by cases o_56 <;> rfl) (by cases o_56 <;> rfl) (Nat.le_of_ble_eq_true rfl) dX4_takePrepare_40 (fun H locs hP hD hS => ?_)
      have hO := hO.p12 hwr hk_50 h_8 h_59 h_10 (bg := bg_3) (pn := nu_43) (lk := (-1)) (ps := o_56) (op := o_7)
      obtain ⟨pl, hpl9⟩ : ∃ z9, z9 = pl.set p_1 ((ad (6 + wr)), .inr (4, [.int (nI wr), .int (up wr), .ref st_2, .int bg_3, .int nu_43, va_rf o_56, .int (-1), va_rf o_7])) := ⟨_, rfl⟩
      have hk_60 := setP hk_50 hpl9
      have hP : va_P D vwCl pl H := by rw [hpl9]; exact hP
      have hD : va_D A pl := by rw [hpl9]; exact hD
      have hO : Ok tC dz t ad ed cb up rs cp pl := by rw [hpl9]; exact hO
      refine lv_aload_n hx hb dX4_takePrepare_43 rfl (lv_at hl 2 rfl) ?_
      refine lv_aload_n hx hb dX4_takePrepare_44 rfl (lv_at hl 1 rfl) ?_
      obtain ⟨p_61, kd_62, nu_63, fr_64, to_65, o_66, hp_61, h_67, h_68, h_69⟩ := hO.k3 ha
      refine va_getN (host := "NoticeStations") (D := D) (ci := 1) (v := .int nu_63) (C := RX0) (T := TX0) (N := 5) hx hb hts in_X4_takePrepare_X0 hown hK hP p_61 hp_61 rfl 3 (by decide) (va_Nw.use rfl (hN.1 (.fieldLinkNest "NoticeStations" 217 "NoticeStations$Letter" "number" "I" "NoticeStations") (by decide +kernel))) (fun _ h9 => h9) rfl dX4_takePrepare_45 ?_
      refine va_calli (va_runVN (As := [.int nu_63]) (rest := []) ⟨hx, hb, hml, hown, hts⟩ (c_X3_isPreparedFor l hlt D tC dz H.size pl t ad ed cb up rs cp hO wr nu_63 hwr) ⟨(va_cnB (host := "NoticeStations") 1 hts gX4_takePrepare_X3_isPreparedFor_n316 rfl rfl rfl (hN.1 (.methodLinkNest "NoticeStations" 316 ⟨"NoticeStations$Station", "isPreparedFor", "(I)Z"⟩ "NoticeStations") (by decide +kernel)) w_0 (by decide +kernel) ⟨Nat.le_of_ble_eq_true rfl, Nat.le_of_ble_eq_true rfl⟩), w_1, w_2⟩ ⟨pB_blind, va_recv hK hP (ci := 4) (q0 := p_1) rfl hk_60, pB_at hP hD hK hN hE hS (freeA hD hS hA)⟩ rfl rfl hl.1 rfl (lv_room (Nat.le_of_ble_eq_true rfl)) dX4_takePrepare_48 ⟨Nat.le_of_ble_eq_true rfl, Nat.le_of_ble_eq_true rfl⟩) hS oldN (freeN hS hA) (fun r_70 u t9 H1 locs ht hvm hw hB hz1 hk1 hS => ?_)
      have hw_71 := hw
      have hP := keepP hP hk1
      generalize H1 = H at hP hS ⊢
      refine lv_if_eq (tgt := 61) hx hb dX4_takePrepare_51 (by decide) (fun c_72 => ?_) (fun c_72 => ?_)
      · skip
        refine W.widen (k := 2) (n := 1605) (by omega) (by omega) ?_
        exact W.vret hx hb hr (fun t9 ht hW => ⟨⟨(), rfl, trivial, ⟨t, ed, rs, cp, pl, hLe, by omega, hO, (by rw [ht]; exact hP), va_K.moved hW.alike hK, hD⟩⟩, hS.F ht⟩) hS.2.2 dX4_takePrepare_61 hlocks
      · skip
        refine lv_aload_n hx hb dX4_takePrepare_54 rfl (lv_at hl 0 rfl) ?_
        refine lv_iconst (v := 3) hx hb dX4_takePrepare_55 (by decide) ?_
        refine lv_aload_n hx hb dX4_takePrepare_56 rfl (lv_at hl 1 rfl) ?_
        refine lv_null hx hb dX4_takePrepare_57 ?_
        obtain ⟨p_73, hp_73⟩ := hO.k7
        have hFA := (freeA hD hS hA)
        refine va_callv (va_runV (As := [.int 3, .ref a, .null]) (rest := []) ⟨hx, hb, hml, hown, hts⟩ (c_X4_sendBack l hlt D tC dz H.size pl t ad ed cb up rs cp hO 3 a none ha isK.no (by omega)) (cwV 3 hts gX4_takePrepare_X4_sendBack rfl rfl rfl (by decide +kernel) ⟨Nat.le_of_ble_eq_true rfl, Nat.le_of_ble_eq_true rfl⟩) ⟨pB_blind, va_recv hK hP (ci := 5) (q0 := p_73) rfl hp_73, pB_at hP hD hK hN hE hS (freeA hD hS hA)⟩ rfl rfl hl.1 rfl (lv_room (Nat.le_of_ble_eq_true rfl)) dX4_takePrepare_58 ⟨Nat.le_of_ble_eq_true rfl, Nat.le_of_ble_eq_true rfl⟩) hS (fun q _ h => hFA q h) hFA (fun u t9 H1 locs ht hvm hw hB hz1 hk1 hS => ?_)
        have hw_75 := hw
        obtain ⟨t, ed, rs, cp, pl, hle9, hrs9, hO, hP1, _, hD1⟩ := hB
        rw [ht] at hP1
        have hD : va_D A pl := hD1.weaken (fun _ _ _ h9 => hFA _ h9)
        have hP := hP1
        generalize H1 = H at hP hS ⊢
        have hRs : rs ≤ rs0 + 1 := by omega
        have hLe := hLe.trans hle9
        have h_77 := hle9.k ha (by decide)
        refine W.widen (k := 2) (n := 1605) (by omega) (by omega) ?_
        refine W.widen (k := 2) (n := 1605) (by omega) (by omega) ?_
        exact W.vret hx hb hr (fun t9 ht hW => ⟨⟨(), rfl, trivial, ⟨t, ed, rs, cp, pl, hLe, by omega, hO, (by rw [ht]; exact hP), va_K.moved hW.alike hK, hD⟩⟩, hS.F ht⟩) hS.2.2 dX4_takePrepare_61 hlocks
set_option maxHeartbeats 4000000 in
set_option maxRecDepth 100000 in
theorem c_X4_takePrepared (l : Launch) (hlt : l.stackTraces = false) (D : va_G) (tC : Nat → ClassId) (dz sz : Nat) (pl : va_W) (t : Nat → Nat × Nat) (ad : Nat → Nat) (ed : Nat) (cb up : Nat → Int32) (rs cp : Nat) (hO : Ok tC dz t ad ed cb up rs cp pl) (a : Nat) (wr : Nat) (ha : (t a).1 = 3) (hwr : wr < 5) (hrm : rs + 5 ≤ 1000) : Met l yX4_takePrepared wsX4_takePrepared ({ frames := 9, cells := 10, slots := 8025, locals := 239 }) (va_Pc [.ref (ad 0), .ref a, .ref (ad (6 + wr))] (pB D tC dz pl sz)) (va_Qv (fun (_ : Unit) => True) (fun (_ : Unit) t9 => ∃ (t2 : Nat → Nat × Nat) (ed2 rs2 cp2 : Nat) (pl2 : va_W), tLe t t2 ∧ rs2 ≤ rs + 5 ∧ Ok tC dz t2 ad ed2 cb up rs2 cp2 pl2 ∧ pA D tC (va_A pl sz) pl2 t9) (va_A pl sz)) 10 8025 (va_A pl sz) := by
  refine Met.ofW (cc := cX4_takePrepared) (maxL := 4) (ret := none) (by decide) rfl ?_
  intro p e s m args below meth c s₁ B hml hv
  obtain ⟨rfl, hsz, hP, hK, hD0, hN, hE⟩ := hv
  have hx := B.exec
  have hb := B.bytes
  have hr := B.returns
  have hts := atoms_spec (ws := wsX4_takePrepared) B.pre
  have hown : s.vm.findClass RX4 = some m.cls := findClass_of_methodNamed B.named
  have hlocks := B.notSynchronized
  subst hsz
  have hD := hD0.self (sz := s.heap.size)
  have hAm : ∀ q : Nat, xN s.heap.size q → va_A pl s.heap.size q := xN_A
  have hN0 : ∀ q : Nat, s.heap.size ≤ q → xN s.heap.size q := fun _ h => h
  have hE0 := eH_narrow hE hAm
  generalize va_A pl s.heap.size = A at hD hE hAm
  have hA : ∀ q : Nat, s.heap.size ≤ q → A q := fun q h => hAm q h
  have hS : va_S (xN s.heap.size) s.heap s.heap [] := va_S.rf
  obtain ⟨rs0, hrs0⟩ : ∃ z9, z9 = rs := ⟨_, rfl⟩
  obtain ⟨up0, hup0⟩ : ∃ z9, z9 = up := ⟨_, rfl⟩
  obtain ⟨cb0, hcb0⟩ : ∃ z9, z9 = cb := ⟨_, rfl⟩
  have hLe : tLe t t := tLe.rf
  have hRs : rs ≤ rs0 + 0 := by omega
  have hl := lv_entry ([.ref (ad 0), .ref a, .ref (ad (6 + wr))]) (n := 4) (Nat.le_of_ble_eq_true rfl)
  rw [lg_entry_eq]
  generalize (lg_sl ([.ref (ad 0), .ref a, .ref (ad (6 + wr))]) ++ List.replicate (4 - (lg_sl ([.ref (ad 0), .ref a, .ref (ad (6 + wr))])).length) Slot.unset).toArray = ls at hl ⊢
  have hl : lv_has ls 4 [(0, .ref (ad 0)), (1, .ref a), (2, .ref (ad (6 + wr)))] := hl
  have w_0 := hts (.initialized RX1) (by decide +kernel)
  have w_1 := hts (.instanceMethod yX1_isCollecting) (by decide +kernel)
  have w_2 := hts (.selects RX1 yX1_isCollecting yX1_isCollecting) (by decide +kernel)
  have w_3 := hts (.instanceMethod yX1_isOfGroup) (by decide +kernel)
  have w_4 := hts (.selects RX1 yX1_isOfGroup yX1_isOfGroup) (by decide +kernel)
  refine lv_aload_n hx hb dX4_takePrepared_0 rfl (lv_at hl 1 rfl) ?_
  refine lv_aload_n hx hb dX4_takePrepared_1 rfl (lv_at hl 2 rfl) ?_
  refine va_callq (va_runS (As := [.ref a, .ref (ad (6 + wr))]) (rest := []) ⟨hx, hb, hml, hown, hts⟩ (c_X4_openWriteFor l hlt D tC dz s.heap.size pl t ad ed cb up rs cp hO a wr ha hwr) (va_cwS 2 hts gX4_takePrepared_X4_openWriteFor rfl rfl rfl (by decide +kernel) ⟨Nat.le_of_ble_eq_true rfl, Nat.le_of_ble_eq_true rfl⟩) ⟨pB_blind, pB_at hP hD hK hN hE (hS.mono hAm) (freeA hD (hS.mono hAm) hA)⟩ rfl rfl hl.1 rfl (lv_room (Nat.le_of_ble_eq_true rfl)) dX4_takePrepared_2 ⟨Nat.le_of_ble_eq_true rfl, Nat.le_of_ble_eq_true rfl⟩) hS oldN (freeN hS hN0) (fun r_1 u t9 H1 locs ht hvm hw hB hz1 hk1 hS => ?_)
  have hw_2 := hw
  have hP := keepP hP hk1
  generalize H1 = H at hP hS ⊢
  refine lv_astore_nQ (lv' := [(3, va_rf r_1), (0, .ref (ad 0)), (1, .ref a), (2, .ref (ad (6 + wr)))]) hx hb dX4_takePrepared_5 rfl hl (by decide) rfl (fun ls hl => ?_)
  refine lv_aload_nQ hx hb dX4_takePrepared_6 rfl (lv_at hl 0 rfl) ?_
  rcases r_1 with _ | y_3
  · skip
    refine W.eq (g2 := F0 m 7 ls [.null]) rfl ?_
    refine lv_ifnullN (tgt := 44) hx hb dX4_takePrepared_7 (by decide) ?_
    have hS := hS.mono hAm
    refine W.widen (k := 10) (n := 8025) (by omega) (by omega) ?_
    exact W.vret hx hb hr (fun t9 ht hW => ⟨⟨(), rfl, trivial, ⟨t, ed, rs, cp, pl, hLe, by omega, hO, (by rw [ht]; exact hP), va_K.moved hW.alike hK, hD⟩⟩, hS.F ht⟩) hS.2.2 dX4_takePrepared_44 hlocks
  · skip
    have h_4 : (t y_3).1 = 4 := hw_2 _ rfl
    refine W.eq (g2 := F0 m 7 ls [.ref y_3]) rfl ?_
    refine lv_ifnull hx hb dX4_takePrepared_7 ?_
    refine lv_aload_n hx hb dX4_takePrepared_10 rfl (lv_at hl 0 rfl) ?_
    obtain ⟨p_5, nu_6, en_7, g_8, b_9, o_10, hp_5, h_11, h_12, h_13⟩ := hO.k4 h_4
    refine va_calli (va_runVN (As := []) (rest := []) ⟨hx, hb, hml, hown, hts⟩ (c_X1_isCollecting l hlt D tC dz H.size pl t ad ed cb up rs cp hO y_3 h_4) ⟨(va_cnB (host := "NoticeStations") 0 hts gX4_takePrepared_X1_isCollecting_n85 rfl rfl rfl (hN.1 (.methodLinkNest "NoticeStations" 85 ⟨"NoticeStations$OpenWrite", "isCollecting", "()Z"⟩ "NoticeStations") (by decide +kernel)) w_0 (by decide +kernel) ⟨Nat.le_of_ble_eq_true rfl, Nat.le_of_ble_eq_true rfl⟩), w_1, w_2⟩ ⟨pB_blind, va_recv hK hP (ci := 2) (q0 := p_5) rfl hp_5, pB_at hP hD hK hN hE (hS.mono hAm) (freeA hD (hS.mono hAm) hA)⟩ rfl rfl hl.1 rfl (lv_room (Nat.le_of_ble_eq_true rfl)) dX4_takePrepared_11 ⟨Nat.le_of_ble_eq_true rfl, Nat.le_of_ble_eq_true rfl⟩) hS oldN (freeN hS hN0) (fun r_14 u t9 H1 locs ht hvm hw hB hz1 hk1 hS => ?_)
    have hw_15 := hw
    have hP := keepP hP hk1
    generalize H1 = H at hP hS ⊢
    refine lv_if_ne (tgt := 44) hx hb dX4_takePrepared_14 (by decide) (fun c_16 => ?_) (fun c_16 => ?_)
    · skip
      have hS := hS.mono hAm
      refine W.widen (k := 10) (n := 8025) (by omega) (by omega) ?_
      exact W.vret hx hb hr (fun t9 ht hW => ⟨⟨(), rfl, trivial, ⟨t, ed, rs, cp, pl, hLe, by omega, hO, (by rw [ht]; exact hP), va_K.moved hW.alike hK, hD⟩⟩, hS.F ht⟩) hS.2.2 dX4_takePrepared_44 hlocks
    · skip
      refine lv_aload_n hx hb dX4_takePrepared_17 rfl (lv_at hl 0 rfl) ?_
      refine lv_aload_n hx hb dX4_takePrepared_18 rfl (lv_at hl 2 rfl) ?_
      obtain ⟨p_17, kd_18, nu_19, fr_20, to_21, o_22, hp_17, h_23, h_24, h_25⟩ := hO.k3 ha
      refine va_getN (host := "NoticeStations") (D := D) (ci := 1) (v := .int (nI fr_20)) (C := RX0) (T := TX0) (N := 5) hx hb hts in_X4_takePrepared_X0 hown hK hP p_17 hp_17 rfl 1 (by decide) (va_Nw.use rfl (hN.1 (.fieldLinkNest "NoticeStations" 187 "NoticeStations$Letter" "from" "I" "NoticeStations") (by decide +kernel))) (fun _ h9 => h9) rfl dX4_takePrepared_19 ?_
      refine va_calli (va_runVN (As := [.int (nI fr_20)]) (rest := []) ⟨hx, hb, hml, hown, hts⟩ (c_X1_isOfGroup l hlt D tC dz H.size pl t ad ed cb up rs cp hO y_3 fr_20 h_4 h_23) ⟨(va_cnB (host := "NoticeStations") 1 hts gX4_takePrepared_X1_isOfGroup_n277 rfl rfl rfl (hN.1 (.methodLinkNest "NoticeStations" 277 ⟨"NoticeStations$OpenWrite", "isOfGroup", "(I)Z"⟩ "NoticeStations") (by decide +kernel)) w_0 (by decide +kernel) ⟨Nat.le_of_ble_eq_true rfl, Nat.le_of_ble_eq_true rfl⟩), w_3, w_4⟩ ⟨pB_blind, va_recv hK hP (ci := 2) (q0 := p_5) rfl hp_5, pB_at hP hD hK hN hE (hS.mono hAm) (freeA hD (hS.mono hAm) hA)⟩ rfl rfl hl.1 rfl (lv_room (Nat.le_of_ble_eq_true rfl)) dX4_takePrepared_22 ⟨Nat.le_of_ble_eq_true rfl, Nat.le_of_ble_eq_true rfl⟩) hS oldN (freeN hS hN0) (fun r_26 u t9 H1 locs ht hvm hw hB hz1 hk1 hS => ?_)
      have hw_27 := hw
      have hP := keepP hP hk1
      generalize H1 = H at hP hS ⊢
      refine lv_if_eq (tgt := 44) hx hb dX4_takePrepared_25 (by decide) (fun c_28 => ?_) (fun c_28 => ?_)
      · skip
        have hS := hS.mono hAm
        refine W.widen (k := 10) (n := 8025) (by omega) (by omega) ?_
        exact W.vret hx hb hr (fun t9 ht hW => ⟨⟨(), rfl, trivial, ⟨t, ed, rs, cp, pl, hLe, by omega, hO, (by rw [ht]; exact hP), va_K.moved hW.alike hK, hD⟩⟩, hS.F ht⟩) hS.2.2 dX4_takePrepared_44 hlocks
      · skip
        refine lv_aload_n hx hb dX4_takePrepared_28 rfl (lv_at hl 0 rfl) ?_
        refine va_getN (host := "NoticeStations") (D := D) (ci := 2) (v := .ref b_9) (C := RX1) (T := TX1) (N := 5) hx hb hts in_X4_takePrepared_X1 hown hK hP p_5 hp_5 rfl 3 (by decide) (va_Nw.use rfl (hN.1 (.fieldLinkNest "NoticeStations" 319 "NoticeStations$OpenWrite" "prepared" "[Z" "NoticeStations") (by decide +kernel))) (fun _ h9 => h9) rfl dX4_takePrepared_29 ?_
        refine lv_aload_n hx hb dX4_takePrepared_32 rfl (lv_at hl 2 rfl) ?_
        refine va_getN (host := "NoticeStations") (D := D) (ci := 1) (v := .int (nI fr_20)) (C := RX0) (T := TX0) (N := 5) hx hb hts in_X4_takePrepared_X0 hown hK hP p_17 hp_17 rfl 1 (by decide) (va_Nw.use rfl (hN.1 (.fieldLinkNest "NoticeStations" 187 "NoticeStations$Letter" "from" "I" "NoticeStations") (by decide +kernel))) (fun _ h9 => h9) rfl dX4_takePrepared_33 ?_
        refine lv_iconst (v := 1) hx hb dX4_takePrepared_36 (by decide) ?_
        obtain ⟨p_29, f_30, hp_29⟩ := hO.k6 h_12
        have hS := hS.mono hAm
        refine va_zast hx hb hK hP hD hS p_29 1 hp_29 rfl (in5 h_23) dX4_takePrepared_37 (fun H locs hP hD hS => ?_)
        have hO := hO.p6 h_12 hp_29 (f := upd f_30 (nI fr_20).toNatClampNeg 1)
        obtain ⟨pl, hpl9⟩ : ∃ z9, z9 = pl.set p_29 (b_9, wZ tC 5 (upd f_30 (nI fr_20).toNatClampNeg 1)) := ⟨_, rfl⟩
        have hk_31 := setP hp_29 hpl9
        have hP : va_P D vwCl pl H := by rw [hpl9]; exact hP
        have hD : va_D A pl := by rw [hpl9]; exact hD
        have hO : Ok tC dz t ad ed cb up rs cp pl := by rw [hpl9]; exact hO
        refine lv_aload_n hx hb dX4_takePrepared_38 rfl (lv_at hl 1 rfl) ?_
        refine lv_aload_n hx hb dX4_takePrepared_39 rfl (lv_at hl 3 rfl) ?_
        refine lv_aload_n hx hb dX4_takePrepared_40 rfl (lv_at hl 0 rfl) ?_
        obtain ⟨p_32, hp_32⟩ := hO.k7
        have hFA := (freeA hD hS hA)
        refine va_callv (va_runV (As := [.ref (ad (6 + wr)), .ref y_3]) (rest := []) ⟨hx, hb, hml, hown, hts⟩ (c_X4_commitIfAllPrepared l hlt D tC dz H.size pl t ad ed cb up rs cp hO wr y_3 hwr h_4 (by omega)) (cwV 2 hts gX4_takePrepared_X4_commitIfAllPrepared rfl rfl rfl (by decide +kernel) ⟨Nat.le_of_ble_eq_true rfl, Nat.le_of_ble_eq_true rfl⟩) ⟨pB_blind, va_recv hK hP (ci := 5) (q0 := p_32) rfl hp_32, pB_at hP hD hK hN hE hS (freeA hD hS hA)⟩ rfl rfl hl.1 rfl (lv_room (Nat.le_of_ble_eq_true rfl)) dX4_takePrepared_41 ⟨Nat.le_of_ble_eq_true rfl, Nat.le_of_ble_eq_true rfl⟩) hS (fun q _ h => hFA q h) hFA (fun u t9 H1 locs ht hvm hw hB hz1 hk1 hS => ?_)
        have hw_34 := hw
        obtain ⟨t, ed, rs, cp, pl, hle9, hrs9, hO, hP1, _, hD1⟩ := hB
        rw [ht] at hP1
        have hD : va_D A pl := hD1.weaken (fun _ _ _ h9 => hFA _ h9)
        have hP := hP1
        generalize H1 = H at hP hS ⊢
        have hRs : rs ≤ rs0 + 5 := by omega
        have hLe := hLe.trans hle9
        have h_36 := hle9.k ha (by decide)
        have h_37 := hle9.k h_4 (by decide)
        refine W.widen (k := 10) (n := 8025) (by omega) (by omega) ?_
        refine W.widen (k := 10) (n := 8025) (by omega) (by omega) ?_
        exact W.vret hx hb hr (fun t9 ht hW => ⟨⟨(), rfl, trivial, ⟨t, ed, rs, cp, pl, hLe, by omega, hO, (by rw [ht]; exact hP), va_K.moved hW.alike hK, hD⟩⟩, hS.F ht⟩) hS.2.2 dX4_takePrepared_44 hlocks
set_option maxHeartbeats 4000000 in
set_option maxRecDepth 100000 in
theorem c_X4_takeCommit (l : Launch) (hlt : l.stackTraces = false) (D : va_G) (tC : Nat → ClassId) (dz sz : Nat) (pl : va_W) (t : Nat → Nat × Nat) (ad : Nat → Nat) (ed : Nat) (cb up : Nat → Int32) (rs cp : Nat) (hO : Ok tC dz t ad ed cb up rs cp pl) (a : Nat) (wr : Nat) (ha : (t a).1 = 3) (hwr : wr < 5) : Met l yX4_takeCommit wsX4_takeCommit ({ frames := 2, cells := 0, slots := 0, locals := 41 }) (va_Pc [.ref (ad 0), .ref a, .ref (ad (6 + wr))] (pB D tC dz pl sz)) (va_Qv (fun (_ : Unit) => True) (fun (_ : Unit) t9 => ∃ (t2 : Nat → Nat × Nat) (ed2 rs2 cp2 : Nat) (pl2 : va_W), tLe t t2 ∧ rs2 ≤ rs + 0 ∧ Ok tC dz t2 ad ed2 cb up rs2 cp2 pl2 ∧ pA D tC (va_A pl sz) pl2 t9) (va_A pl sz)) 0 0 (va_A pl sz) := by
  refine Met.ofW (cc := cX4_takeCommit) (maxL := 3) (ret := none) (by decide) rfl ?_
  intro p e s m args below meth c s₁ B hml hv
  obtain ⟨rfl, hsz, hP, hK, hD0, hN, hE⟩ := hv
  have hx := B.exec
  have hb := B.bytes
  have hr := B.returns
  have hts := atoms_spec (ws := wsX4_takeCommit) B.pre
  have hown : s.vm.findClass RX4 = some m.cls := findClass_of_methodNamed B.named
  have hlocks := B.notSynchronized
  subst hsz
  have hD := hD0.self (sz := s.heap.size)
  have hAm : ∀ q : Nat, xN s.heap.size q → va_A pl s.heap.size q := xN_A
  have hN0 : ∀ q : Nat, s.heap.size ≤ q → xN s.heap.size q := fun _ h => h
  have hE0 := eH_narrow hE hAm
  generalize va_A pl s.heap.size = A at hD hE hAm
  have hA : ∀ q : Nat, s.heap.size ≤ q → A q := fun q h => hAm q h
  have hS : va_S (xN s.heap.size) s.heap s.heap [] := va_S.rf
  obtain ⟨rs0, hrs0⟩ : ∃ z9, z9 = rs := ⟨_, rfl⟩
  obtain ⟨up0, hup0⟩ : ∃ z9, z9 = up := ⟨_, rfl⟩
  obtain ⟨cb0, hcb0⟩ : ∃ z9, z9 = cb := ⟨_, rfl⟩
  have hLe : tLe t t := tLe.rf
  have hRs : rs ≤ rs0 + 0 := by omega
  have hl := lv_entry ([.ref (ad 0), .ref a, .ref (ad (6 + wr))]) (n := 3) (Nat.le_of_ble_eq_true rfl)
  rw [lg_entry_eq]
  generalize (lg_sl ([.ref (ad 0), .ref a, .ref (ad (6 + wr))]) ++ List.replicate (3 - (lg_sl ([.ref (ad 0), .ref a, .ref (ad (6 + wr))])).length) Slot.unset).toArray = ls at hl ⊢
  have hl : lv_has ls 3 [(0, .ref (ad 0)), (1, .ref a), (2, .ref (ad (6 + wr)))] := hl
  have w_0 := hts (.initialized RX3) (by decide +kernel)
  have w_1 := hts (.instanceMethod yX3_isPreparedFor) (by decide +kernel)
  have w_2 := hts (.selects RX3 yX3_isPreparedFor yX3_isPreparedFor) (by decide +kernel)
  have w_3 := hts (.instanceMethod yX3_endDoubt) (by decide +kernel)
  have w_4 := hts (.selects RX3 yX3_endDoubt yX3_endDoubt) (by decide +kernel)
  refine lv_aload_n hx hb dX4_takeCommit_0 rfl (lv_at hl 2 rfl) ?_
  refine lv_aload_n hx hb dX4_takeCommit_1 rfl (lv_at hl 1 rfl) ?_
  obtain ⟨p_1, kd_2, nu_3, fr_4, to_5, o_6, hp_1, h_7, h_8, h_9⟩ := hO.k3 ha
  refine va_getN (host := "NoticeStations") (D := D) (ci := 1) (v := .int nu_3) (C := RX0) (T := TX0) (N := 5) hx hb hts in_X4_takeCommit_X0 hown hK hP p_1 hp_1 rfl 3 (by decide) (va_Nw.use rfl (hN.1 (.fieldLinkNest "NoticeStations" 217 "NoticeStations$Letter" "number" "I" "NoticeStations") (by decide +kernel))) (fun _ h9 => h9) rfl dX4_takeCommit_2 ?_
  obtain ⟨p_10, st_11, bg_12, pn_13, lk_14, ps_15, o_16, hp_10, h_17, h_18, h_19⟩ := hO.k12 hwr
  refine va_calli (va_runVN (As := [.int nu_3]) (rest := []) ⟨hx, hb, hml, hown, hts⟩ (c_X3_isPreparedFor l hlt D tC dz s.heap.size pl t ad ed cb up rs cp hO wr nu_3 hwr) ⟨(va_cnB (host := "NoticeStations") 1 hts gX4_takeCommit_X3_isPreparedFor_n316 rfl rfl rfl (hN.1 (.methodLinkNest "NoticeStations" 316 ⟨"NoticeStations$Station", "isPreparedFor", "(I)Z"⟩ "NoticeStations") (by decide +kernel)) w_0 (by decide +kernel) ⟨Nat.le_of_ble_eq_true rfl, Nat.le_of_ble_eq_true rfl⟩), w_1, w_2⟩ ⟨pB_blind, va_recv hK hP (ci := 4) (q0 := p_10) rfl hp_10, pB_at hP hD hK hN hE (hS.mono hAm) (freeA hD (hS.mono hAm) hA)⟩ rfl rfl hl.1 rfl (lv_room (Nat.le_of_ble_eq_true rfl)) dX4_takeCommit_5 ⟨Nat.le_of_ble_eq_true rfl, Nat.le_of_ble_eq_true rfl⟩) hS oldN (freeN hS hN0) (fun r_20 u t9 H1 locs ht hvm hw hB hz1 hk1 hS => ?_)
  have hw_21 := hw
  have hP := keepP hP hk1
  generalize H1 = H at hP hS ⊢
  refine lv_if_eq (tgt := 23) hx hb dX4_takeCommit_8 (by decide) (fun c_22 => ?_) (fun c_22 => ?_)
  · skip
    have hS := hS.mono hAm
    refine W.widen (k := 0) (n := 0) (by omega) (by omega) ?_
    exact W.vret hx hb hr (fun t9 ht hW => ⟨⟨(), rfl, trivial, ⟨t, ed, rs, cp, pl, hLe, by omega, hO, (by rw [ht]; exact hP), va_K.moved hW.alike hK, hD⟩⟩, hS.F ht⟩) hS.2.2 dX4_takeCommit_23 hlocks
  · skip
    obtain ⟨p_23, st_24, bg_25, pn_26, lk_27, y_28, o_29, hk_30, h_31, h_32, h_33⟩ := hw_21.resolve_left c_22
    refine lv_aload_n hx hb dX4_takeCommit_11 rfl (lv_at hl 2 rfl) ?_
    refine lv_aload_n hx hb dX4_takeCommit_12 rfl (lv_at hl 2 rfl) ?_
    refine va_getN (host := "NoticeStations") (D := D) (ci := 4) (v := .ref y_28) (C := RX3) (T := TX3) (N := 8) hx hb hts in_X4_takeCommit_X3 hown hK hP p_23 hk_30 rfl 5 (by decide) (va_Nw.use rfl (hN.1 (.fieldLinkNest "NoticeStations" 172 "NoticeStations$Station" "preparedStanding" "LNoticeStations$Standing;" "NoticeStations") (by decide +kernel))) (fun _ h9 => h9) rfl dX4_takeCommit_13 ?_
    have hS := hS.mono hAm
    refine va_putN (host := "NoticeStations") (D := D) (ci := 4) (v := .ref y_28) (ty := .object "NoticeStations$Standing") (C := RX3) (T := TX3) (N := 8) hx hb hts in_X4_takeCommit_X3 tyX3 tyX3_ok nmX3 hown hK hP hD hS p_23 hk_30 rfl 2 (by decide) (va_Nw.use rfl (hN.1 (.fieldLinkNest "NoticeStations" 61 "NoticeStations$Station" "stored" "LNoticeStations$Standing;" "NoticeStations") (by decide +kernel))) (fun _ h9 => h9) rfl (by decide +kernel) (by first | rfl | decide) (by first | rfl | decide) (Nat.le_of_ble_eq_true rfl) dX4_takeCommit_16 (fun H locs hP hD hS => ?_)
    have hO := hO.p12 hwr hk_30 h_32 (isK.so h_32) h_33 (bg := bg_25) (pn := pn_26) (lk := lk_27) (ps := (some y_28)) (op := o_29)
    obtain ⟨pl, hpl9⟩ : ∃ z9, z9 = pl.set p_23 ((ad (6 + wr)), .inr (4, [.int (nI wr), .int (up wr), .ref y_28, .int bg_25, .int pn_26, .ref y_28, .int lk_27, va_rf o_29])) := ⟨_, rfl⟩
    have hk_34 := setP hk_30 hpl9
    have hP : va_P D vwCl pl H := by rw [hpl9]; exact hP
    have hD : va_D A pl := by rw [hpl9]; exact hD
    have hO : Ok tC dz t ad ed cb up rs cp pl := by rw [hpl9]; exact hO
    refine lv_aload_n hx hb dX4_takeCommit_19 rfl (lv_at hl 2 rfl) ?_
    have hFA := (freeA hD hS hA)
    refine va_callv (va_runVN (As := []) (rest := []) ⟨hx, hb, hml, hown, hts⟩ (c_X3_endDoubt l hlt D tC dz H.size pl t ad ed cb up rs cp hO wr hwr) ⟨(va_cnB (host := "NoticeStations") 0 hts gX4_takeCommit_X3_endDoubt_n323 rfl rfl rfl (hN.1 (.methodLinkNest "NoticeStations" 323 ⟨"NoticeStations$Station", "endDoubt", "()V"⟩ "NoticeStations") (by decide +kernel)) w_0 (by decide +kernel) ⟨Nat.le_of_ble_eq_true rfl, Nat.le_of_ble_eq_true rfl⟩), w_3, w_4⟩ ⟨pB_blind, va_recv hK hP (ci := 4) (q0 := p_23) rfl hk_34, pB_at hP hD hK hN hE hS (freeA hD hS hA)⟩ rfl rfl hl.1 rfl (lv_room (Nat.le_of_ble_eq_true rfl)) dX4_takeCommit_20 ⟨Nat.le_of_ble_eq_true rfl, Nat.le_of_ble_eq_true rfl⟩) hS (fun q _ h => hFA q h) hFA (fun u t9 H1 locs ht hvm hw hB hz1 hk1 hS => ?_)
    have hw_36 := hw
    obtain ⟨t, ed, rs, cp, pl, hle9, hrs9, hO, hP1, _, hD1⟩ := hB
    rw [ht] at hP1
    have hD : va_D A pl := hD1.weaken (fun _ _ _ h9 => hFA _ h9)
    have hP := hP1
    generalize H1 = H at hP hS ⊢
    have hRs : rs ≤ rs0 + 0 := by omega
    have hLe := hLe.trans hle9
    have h_38 := hle9.k ha (by decide)
    refine W.widen (k := 0) (n := 0) (by omega) (by omega) ?_
    exact W.vret hx hb hr (fun t9 ht hW => ⟨⟨(), rfl, trivial, ⟨t, ed, rs, cp, pl, hLe, by omega, hO, (by rw [ht]; exact hP), va_K.moved hW.alike hK, hD⟩⟩, hS.F ht⟩) hS.2.2 dX4_takeCommit_23 hlocks
set_option maxHeartbeats 4000000 in
set_option maxRecDepth 100000 in
theorem c_X4_takeAsk (l : Launch) (hlt : l.stackTraces = false) (D : va_G) (tC : Nat → ClassId) (dz sz : Nat) (pl : va_W) (t : Nat → Nat × Nat) (ad : Nat → Nat) (ed : Nat) (cb up : Nat → Int32) (rs cp : Nat) (hO : Ok tC dz t ad ed cb up rs cp pl) (a : Nat) (wr : Nat) (ha : (t a).1 = 3) (hwr : wr < 5) (hrm : rs + 1 ≤ 1000) : Met l yX4_takeAsk wsX4_takeAsk ({ frames := 9, cells := 2, slots := 1605, locals := 239 }) (va_Pc [.ref (ad 0), .ref a, .ref (ad (6 + wr))] (pB D tC dz pl sz)) (va_Qv (fun (_ : Unit) => True) (fun (_ : Unit) t9 => ∃ (t2 : Nat → Nat × Nat) (ed2 rs2 cp2 : Nat) (pl2 : va_W), tLe t t2 ∧ rs2 ≤ rs + 1 ∧ Ok tC dz t2 ad ed2 cb up rs2 cp2 pl2 ∧ pA D tC (va_A pl sz) pl2 t9) (va_A pl sz)) 2 1605 (va_A pl sz) := by
  refine Met.ofW (cc := cX4_takeAsk) (maxL := 3) (ret := none) (by decide) rfl ?_
  intro p e s m args below meth c s₁ B hml hv
  obtain ⟨rfl, hsz, hP, hK, hD0, hN, hE⟩ := hv
  have hx := B.exec
  have hb := B.bytes
  have hr := B.returns
  have hts := atoms_spec (ws := wsX4_takeAsk) B.pre
  have hown : s.vm.findClass RX4 = some m.cls := findClass_of_methodNamed B.named
  have hlocks := B.notSynchronized
  subst hsz
  have hD := hD0.self (sz := s.heap.size)
  have hAm : ∀ q : Nat, xN s.heap.size q → va_A pl s.heap.size q := xN_A
  have hN0 : ∀ q : Nat, s.heap.size ≤ q → xN s.heap.size q := fun _ h => h
  have hE0 := eH_narrow hE hAm
  generalize va_A pl s.heap.size = A at hD hE hAm
  have hA : ∀ q : Nat, s.heap.size ≤ q → A q := fun q h => hAm q h
  have hS : va_S (xN s.heap.size) s.heap s.heap [] := va_S.rf
  obtain ⟨rs0, hrs0⟩ : ∃ z9, z9 = rs := ⟨_, rfl⟩
  obtain ⟨up0, hup0⟩ : ∃ z9, z9 = up := ⟨_, rfl⟩
  obtain ⟨cb0, hcb0⟩ : ∃ z9, z9 = cb := ⟨_, rfl⟩
  have hLe : tLe t t := tLe.rf
  have hRs : rs ≤ rs0 + 0 := by omega
  have hl := lv_entry ([.ref (ad 0), .ref a, .ref (ad (6 + wr))]) (n := 3) (Nat.le_of_ble_eq_true rfl)
  rw [lg_entry_eq]
  generalize (lg_sl ([.ref (ad 0), .ref a, .ref (ad (6 + wr))]) ++ List.replicate (3 - (lg_sl ([.ref (ad 0), .ref a, .ref (ad (6 + wr))])).length) Slot.unset).toArray = ls at hl ⊢
  have hl : lv_has ls 3 [(0, .ref (ad 0)), (1, .ref a), (2, .ref (ad (6 + wr)))] := hl
  have w_0 := hts (.initialized RX2) (by decide +kernel)
  have w_1 := hts (.instanceMethod yX2_hasNumber) (by decide +kernel)
  have w_2 := hts (.selects RX2 yX2_hasNumber yX2_hasNumber) (by decide +kernel)
  have w_3 := hts (.initialized RX3) (by decide +kernel)
  have w_4 := hts (.instanceMethod yX3_hasEndedWrite) (by decide +kernel)
  have w_5 := hts (.selects RX3 yX3_hasEndedWrite yX3_hasEndedWrite) (by decide +kernel)
  have w_6 := hts (.instanceMethod yX2_length) (by decide +kernel)
  have w_7 := hts (.selects RX2 yX2_length yX2_length) (by decide +kernel)
  have w_8 := hts (.initialized RX0) (by decide +kernel)
  have w_9 := hts (.instanceMethod yX0_bookLength) (by decide +kernel)
  have w_10 := hts (.selects RX0 yX0_bookLength yX0_bookLength) (by decide +kernel)
  refine lv_aload_n hx hb dX4_takeAsk_0 rfl (lv_at hl 2 rfl) ?_
  obtain ⟨p_1, st_2, bg_3, pn_4, lk_5, ps_6, o_7, hp_1, h_8, h_9, h_10⟩ := hO.k12 hwr
  refine va_getN (host := "NoticeStations") (D := D) (ci := 4) (v := .ref st_2) (C := RX3) (T := TX3) (N := 8) hx hb hts in_X4_takeAsk_X3 hown hK hP p_1 hp_1 rfl 2 (by decide) (va_Nw.use rfl (hN.1 (.fieldLinkNest "NoticeStations" 61 "NoticeStations$Station" "stored" "LNoticeStations$Standing;" "NoticeStations") (by decide +kernel))) (fun _ h9 => h9) rfl dX4_takeAsk_1 ?_
  refine lv_aload_n hx hb dX4_takeAsk_4 rfl (lv_at hl 1 rfl) ?_
  obtain ⟨p_11, kd_12, nu_13, fr_14, to_15, o_16, hp_11, h_17, h_18, h_19⟩ := hO.k3 ha
  refine va_getN (host := "NoticeStations") (D := D) (ci := 1) (v := .int nu_13) (C := RX0) (T := TX0) (N := 5) hx hb hts in_X4_takeAsk_X0 hown hK hP p_11 hp_11 rfl 3 (by decide) (va_Nw.use rfl (hN.1 (.fieldLinkNest "NoticeStations" 217 "NoticeStations$Letter" "number" "I" "NoticeStations") (by decide +kernel))) (fun _ h9 => h9) rfl dX4_takeAsk_5 ?_
  obtain ⟨n_20, h_21⟩ := tk h_8
  obtain ⟨p_22, e_23, u_24, z_25, d_26, hp_22, h_27, h_28, h_29⟩ := hO.k1 h_21
  refine va_calli (va_runVN (As := [.int nu_13]) (rest := []) ⟨hx, hb, hml, hown, hts⟩ (c_X2_hasNumber l hlt D tC dz s.heap.size pl t ad ed cb up rs cp hO st_2 n_20 nu_13 h_21) ⟨(va_cnB (host := "NoticeStations") 1 hts gX4_takeAsk_X2_hasNumber_n326 rfl rfl rfl (hN.1 (.methodLinkNest "NoticeStations" 326 ⟨"NoticeStations$Standing", "hasNumber", "(I)Z"⟩ "NoticeStations") (by decide +kernel)) w_0 (by decide +kernel) ⟨Nat.le_of_ble_eq_true rfl, Nat.le_of_ble_eq_true rfl⟩), w_1, w_2⟩ ⟨pB_blind, va_recv hK hP (ci := 3) (q0 := p_22) rfl hp_22, pB_at hP hD hK hN hE (hS.mono hAm) (freeA hD (hS.mono hAm) hA)⟩ rfl rfl hl.1 rfl (lv_room (Nat.le_of_ble_eq_true rfl)) dX4_takeAsk_8 ⟨Nat.le_of_ble_eq_true rfl, Nat.le_of_ble_eq_true rfl⟩) hS oldN (freeN hS hN0) (fun r_30 u t9 H1 locs ht hvm hw hB hz1 hk1 hS => ?_)
  have hw_31 := hw
  have hP := keepP hP hk1
  generalize H1 = H at hP hS ⊢
  refine lv_if_eq (tgt := 24) hx hb dX4_takeAsk_11 (by decide) (fun c_32 => ?_) (fun c_32 => ?_)
  · skip
    refine lv_aload_n hx hb dX4_takeAsk_24 rfl (lv_at hl 2 rfl) ?_
    refine lv_aload_n hx hb dX4_takeAsk_25 rfl (lv_at hl 1 rfl) ?_
    refine va_getN (host := "NoticeStations") (D := D) (ci := 1) (v := .int nu_13) (C := RX0) (T := TX0) (N := 5) hx hb hts in_X4_takeAsk_X0 hown hK hP p_11 hp_11 rfl 3 (by decide) (va_Nw.use rfl (hN.1 (.fieldLinkNest "NoticeStations" 217 "NoticeStations$Letter" "number" "I" "NoticeStations") (by decide +kernel))) (fun _ h9 => h9) rfl dX4_takeAsk_26 ?_
    refine va_calli (va_runVN (As := [.int nu_13]) (rest := []) ⟨hx, hb, hml, hown, hts⟩ (c_X3_hasEndedWrite l hlt D tC dz H.size pl t ad ed cb up rs cp hO wr nu_13 hwr) ⟨(va_cnB (host := "NoticeStations") 1 hts gX4_takeAsk_X3_hasEndedWrite_n329 rfl rfl rfl (hN.1 (.methodLinkNest "NoticeStations" 329 ⟨"NoticeStations$Station", "hasEndedWrite", "(I)Z"⟩ "NoticeStations") (by decide +kernel)) w_3 (by decide +kernel) ⟨Nat.le_of_ble_eq_true rfl, Nat.le_of_ble_eq_true rfl⟩), w_4, w_5⟩ ⟨pB_blind, va_recv hK hP (ci := 4) (q0 := p_1) rfl hp_1, pB_at hP hD hK hN hE (hS.mono hAm) (freeA hD (hS.mono hAm) hA)⟩ rfl rfl hl.1 rfl (lv_room (Nat.le_of_ble_eq_true rfl)) dX4_takeAsk_29 ⟨Nat.le_of_ble_eq_true rfl, Nat.le_of_ble_eq_true rfl⟩) hS oldN (freeN hS hN0) (fun r_33 u t9 H1 locs ht hvm hw hB hz1 hk1 hS => ?_)
    have hw_34 := hw
    have hP := keepP hP hk1
    generalize H1 = H at hP hS ⊢
    refine lv_if_ne (tgt := 49) hx hb dX4_takeAsk_32 (by decide) (fun c_35 => ?_) (fun c_35 => ?_)
    · skip
      refine lv_aload_n hx hb dX4_takeAsk_49 rfl (lv_at hl 0 rfl) ?_
      refine lv_iconst (v := 5) hx hb dX4_takeAsk_50 (by decide) ?_
      refine lv_aload_n hx hb dX4_takeAsk_51 rfl (lv_at hl 1 rfl) ?_
      refine lv_null hx hb dX4_takeAsk_52 ?_
      obtain ⟨p_36, hp_36⟩ := hO.k7
      have hFA := (freeA hD (hS.mono hAm) hA)
      refine va_callv (va_runV (As := [.int 5, .ref a, .null]) (rest := []) ⟨hx, hb, hml, hown, hts⟩ (c_X4_sendBack l hlt D tC dz H.size pl t ad ed cb up rs cp hO 5 a none ha isK.no (by omega)) (cwV 3 hts gX4_takeAsk_X4_sendBack rfl rfl rfl (by decide +kernel) ⟨Nat.le_of_ble_eq_true rfl, Nat.le_of_ble_eq_true rfl⟩) ⟨pB_blind, va_recv hK hP (ci := 5) (q0 := p_36) rfl hp_36, pB_at hP hD hK hN hE (hS.mono hAm) (freeA hD (hS.mono hAm) hA)⟩ rfl rfl hl.1 rfl (lv_room (Nat.le_of_ble_eq_true rfl)) dX4_takeAsk_53 ⟨Nat.le_of_ble_eq_true rfl, Nat.le_of_ble_eq_true rfl⟩) (hS.mono hAm) (fun q _ h => hFA q h) hFA (fun u t9 H1 locs ht hvm hw hB hz1 hk1 hS => ?_)
      have hw_38 := hw
      obtain ⟨t, ed, rs, cp, pl, hle9, hrs9, hO, hP1, _, hD1⟩ := hB
      rw [ht] at hP1
      have hD : va_D A pl := hD1.weaken (fun _ _ _ h9 => hFA _ h9)
      have hP := hP1
      generalize H1 = H at hP hS ⊢
      have hRs : rs ≤ rs0 + 1 := by omega
      have hLe := hLe.trans hle9
      have h_40 := hle9.k ha (by decide)
      refine W.widen (k := 2) (n := 1605) (by omega) (by omega) ?_
      refine W.widen (k := 2) (n := 1605) (by omega) (by omega) ?_
      exact W.vret hx hb hr (fun t9 ht hW => ⟨⟨(), rfl, trivial, ⟨t, ed, rs, cp, pl, hLe, by omega, hO, (by rw [ht]; exact hP), va_K.moved hW.alike hK, hD⟩⟩, hS.F ht⟩) hS.2.2 dX4_takeAsk_56 hlocks
    · skip
      refine lv_aload_n hx hb dX4_takeAsk_35 rfl (lv_at hl 2 rfl) ?_
      refine va_getN (host := "NoticeStations") (D := D) (ci := 4) (v := .ref st_2) (C := RX3) (T := TX3) (N := 8) hx hb hts in_X4_takeAsk_X3 hown hK hP p_1 hp_1 rfl 2 (by decide) (va_Nw.use rfl (hN.1 (.fieldLinkNest "NoticeStations" 61 "NoticeStations$Station" "stored" "LNoticeStations$Standing;" "NoticeStations") (by decide +kernel))) (fun _ h9 => h9) rfl dX4_takeAsk_36 ?_
      refine va_calli (va_runVN (As := []) (rest := []) ⟨hx, hb, hml, hown, hts⟩ (c_X2_length l hlt D tC dz H.size pl t ad ed cb up rs cp hO st_2 n_20 h_21) ⟨(va_cnB (host := "NoticeStations") 0 hts gX4_takeAsk_X2_length_n107 rfl rfl rfl (hN.1 (.methodLinkNest "NoticeStations" 107 ⟨"NoticeStations$Standing", "length", "()I"⟩ "NoticeStations") (by decide +kernel)) w_0 (by decide +kernel) ⟨Nat.le_of_ble_eq_true rfl, Nat.le_of_ble_eq_true rfl⟩), w_6, w_7⟩ ⟨pB_blind, va_recv hK hP (ci := 3) (q0 := p_22) rfl hp_22, pB_at hP hD hK hN hE (hS.mono hAm) (freeA hD (hS.mono hAm) hA)⟩ rfl rfl hl.1 rfl (lv_room (Nat.le_of_ble_eq_true rfl)) dX4_takeAsk_39 ⟨Nat.le_of_ble_eq_true rfl, Nat.le_of_ble_eq_true rfl⟩) hS oldN (freeN hS hN0) (fun r_41 u t9 H1 locs ht hvm hw hB hz1 hk1 hS => ?_)
      have hw_42 := hw
      have hP := keepP hP hk1
      generalize H1 = H at hP hS ⊢
      subst hw_42
      refine lv_aload_n hx hb dX4_takeAsk_42 rfl (lv_at hl 1 rfl) ?_
      refine va_calli (va_runVN (As := []) (rest := [.int (nI n_20)]) ⟨hx, hb, hml, hown, hts⟩ (c_X0_bookLength l hlt D tC dz H.size pl t ad ed cb up rs cp hO a ha) ⟨(va_cnB (host := "NoticeStations") 0 hts gX4_takeAsk_X0_bookLength_n332 rfl rfl rfl (hN.1 (.methodLinkNest "NoticeStations" 332 ⟨"NoticeStations$Letter", "bookLength", "()I"⟩ "NoticeStations") (by decide +kernel)) w_8 (by decide +kernel) ⟨Nat.le_of_ble_eq_true rfl, Nat.le_of_ble_eq_true rfl⟩), w_9, w_10⟩ ⟨pB_blind, va_recv hK hP (ci := 1) (q0 := p_11) rfl hp_11, pB_at hP hD hK hN hE (hS.mono hAm) (freeA hD (hS.mono hAm) hA)⟩ rfl rfl hl.1 rfl (lv_room (Nat.le_of_ble_eq_true rfl)) dX4_takeAsk_43 ⟨Nat.le_of_ble_eq_true rfl, Nat.le_of_ble_eq_true rfl⟩) hS oldN (freeN hS hN0) (fun r_43 u t9 H1 locs ht hvm hw hB hz1 hk1 hS => ?_)
      have hw_44 := hw
      have hP := keepP hP hk1
      generalize H1 = H at hP hS ⊢
      refine lv_icmp_lt (tgt := 56) hx hb dX4_takeAsk_46 (by decide) (fun c_45 => ?_) (fun c_45 => ?_)
      · skip
        have hS := hS.mono hAm
        refine W.widen (k := 2) (n := 1605) (by omega) (by omega) ?_
        exact W.vret hx hb hr (fun t9 ht hW => ⟨⟨(), rfl, trivial, ⟨t, ed, rs, cp, pl, hLe, by omega, hO, (by rw [ht]; exact hP), va_K.moved hW.alike hK, hD⟩⟩, hS.F ht⟩) hS.2.2 dX4_takeAsk_56 hlocks
      · skip
        refine lv_aload_n hx hb dX4_takeAsk_49 rfl (lv_at hl 0 rfl) ?_
        refine lv_iconst (v := 5) hx hb dX4_takeAsk_50 (by decide) ?_
        refine lv_aload_n hx hb dX4_takeAsk_51 rfl (lv_at hl 1 rfl) ?_
        refine lv_null hx hb dX4_takeAsk_52 ?_
        obtain ⟨p_46, hp_46⟩ := hO.k7
        have hFA := (freeA hD (hS.mono hAm) hA)
        refine va_callv (va_runV (As := [.int 5, .ref a, .null]) (rest := []) ⟨hx, hb, hml, hown, hts⟩ (c_X4_sendBack l hlt D tC dz H.size pl t ad ed cb up rs cp hO 5 a none ha isK.no (by omega)) (cwV 3 hts gX4_takeAsk_X4_sendBack rfl rfl rfl (by decide +kernel) ⟨Nat.le_of_ble_eq_true rfl, Nat.le_of_ble_eq_true rfl⟩) ⟨pB_blind, va_recv hK hP (ci := 5) (q0 := p_46) rfl hp_46, pB_at hP hD hK hN hE (hS.mono hAm) (freeA hD (hS.mono hAm) hA)⟩ rfl rfl hl.1 rfl (lv_room (Nat.le_of_ble_eq_true rfl)) dX4_takeAsk_53 ⟨Nat.le_of_ble_eq_true rfl, Nat.le_of_ble_eq_true rfl⟩) (hS.mono hAm) (fun q _ h => hFA q h) hFA (fun u t9 H1 locs ht hvm hw hB hz1 hk1 hS => ?_)
        have hw_48 := hw
        obtain ⟨t, ed, rs, cp, pl, hle9, hrs9, hO, hP1, _, hD1⟩ := hB
        rw [ht] at hP1
        have hD : va_D A pl := hD1.weaken (fun _ _ _ h9 => hFA _ h9)
        have hP := hP1
        generalize H1 = H at hP hS ⊢
        have hRs : rs ≤ rs0 + 1 := by omega
        have hLe := hLe.trans hle9
        have h_50 := hle9.k ha (by decide)
        refine W.widen (k := 2) (n := 1605) (by omega) (by omega) ?_
        refine W.widen (k := 2) (n := 1605) (by omega) (by omega) ?_
        exact W.vret hx hb hr (fun t9 ht hW => ⟨⟨(), rfl, trivial, ⟨t, ed, rs, cp, pl, hLe, by omega, hO, (by rw [ht]; exact hP), va_K.moved hW.alike hK, hD⟩⟩, hS.F ht⟩) hS.2.2 dX4_takeAsk_56 hlocks
  · skip
    refine lv_aload_n hx hb dX4_takeAsk_14 rfl (lv_at hl 0 rfl) ?_
    refine lv_iconst (v := 4) hx hb dX4_takeAsk_15 (by decide) ?_
    refine lv_aload_n hx hb dX4_takeAsk_16 rfl (lv_at hl 1 rfl) ?_
    refine lv_null hx hb dX4_takeAsk_17 ?_
    obtain ⟨p_51, hp_51⟩ := hO.k7
    have hFA := (freeA hD (hS.mono hAm) hA)
    refine va_callv (va_runV (As := [.int 4, .ref a, .null]) (rest := []) ⟨hx, hb, hml, hown, hts⟩ (c_X4_sendBack l hlt D tC dz H.size pl t ad ed cb up rs cp hO 4 a none ha isK.no (by omega)) (cwV 3 hts gX4_takeAsk_X4_sendBack rfl rfl rfl (by decide +kernel) ⟨Nat.le_of_ble_eq_true rfl, Nat.le_of_ble_eq_true rfl⟩) ⟨pB_blind, va_recv hK hP (ci := 5) (q0 := p_51) rfl hp_51, pB_at hP hD hK hN hE (hS.mono hAm) (freeA hD (hS.mono hAm) hA)⟩ rfl rfl hl.1 rfl (lv_room (Nat.le_of_ble_eq_true rfl)) dX4_takeAsk_18 ⟨Nat.le_of_ble_eq_true rfl, Nat.le_of_ble_eq_true rfl⟩) (hS.mono hAm) (fun q _ h => hFA q h) hFA (fun u t9 H1 locs ht hvm hw hB hz1 hk1 hS => ?_)
    have hw_53 := hw
    obtain ⟨t, ed, rs, cp, pl, hle9, hrs9, hO, hP1, _, hD1⟩ := hB
    rw [ht] at hP1
    have hD : va_D A pl := hD1.weaken (fun _ _ _ h9 => hFA _ h9)
    have hP := hP1
    generalize H1 = H at hP hS ⊢
    have hRs : rs ≤ rs0 + 1 := by omega
    have hLe := hLe.trans hle9
    have h_55 := hle9.k ha (by decide)
    refine W.widen (k := 2) (n := 1605) (by omega) (by omega) ?_
    refine lv_goto (tgt := 56) hx hb dX4_takeAsk_21 (by decide) ?_
    refine W.widen (k := 2) (n := 1605) (by omega) (by omega) ?_
    exact W.vret hx hb hr (fun t9 ht hW => ⟨⟨(), rfl, trivial, ⟨t, ed, rs, cp, pl, hLe, by omega, hO, (by rw [ht]; exact hP), va_K.moved hW.alike hK, hD⟩⟩, hS.F ht⟩) hS.2.2 dX4_takeAsk_56 hlocks
set_option maxHeartbeats 4000000 in
set_option maxRecDepth 100000 in
theorem c_X4_take (l : Launch) (hlt : l.stackTraces = false) (D : va_G) (tC : Nat → ClassId) (dz sz : Nat) (pl : va_W) (t : Nat → Nat × Nat) (ad : Nat → Nat) (ed : Nat) (cb up : Nat → Int32) (rs cp : Nat) (hO : Ok tC dz t ad ed cb up rs cp pl) (a : Nat) (wr : Nat) (ha : (t a).1 = 3) (hwr : wr < 5) (hrm : rs + 5 ≤ 1000) : Met l yX4_take wsX4_take ({ frames := 10, cells := 10, slots := 8025, locals := 262 }) (va_Pc [.ref (ad 0), .ref a, .ref (ad (6 + wr))] (pB D tC dz pl sz)) (va_Qv (fun (_ : Unit) => True) (fun (_ : Unit) t9 => ∃ (t2 : Nat → Nat × Nat) (ed2 rs2 cp2 : Nat) (pl2 : va_W), tLe t t2 ∧ rs2 ≤ rs + 5 ∧ Ok tC dz t2 ad ed2 cb up rs2 cp2 pl2 ∧ pA D tC (va_A pl sz) pl2 t9) (va_A pl sz)) 10 8025 (va_A pl sz) := by
  refine Met.ofW (cc := cX4_take) (maxL := 3) (ret := none) (by decide) rfl ?_
  intro p e s m args below meth c s₁ B hml hv
  obtain ⟨rfl, hsz, hP, hK, hD0, hN, hE⟩ := hv
  have hx := B.exec
  have hb := B.bytes
  have hr := B.returns
  have hts := atoms_spec (ws := wsX4_take) B.pre
  have hown : s.vm.findClass RX4 = some m.cls := findClass_of_methodNamed B.named
  have hlocks := B.notSynchronized
  subst hsz
  have hD := hD0.self (sz := s.heap.size)
  have hAm : ∀ q : Nat, xN s.heap.size q → va_A pl s.heap.size q := xN_A
  have hN0 : ∀ q : Nat, s.heap.size ≤ q → xN s.heap.size q := fun _ h => h
  have hE0 := eH_narrow hE hAm
  generalize va_A pl s.heap.size = A at hD hE hAm
  have hA : ∀ q : Nat, s.heap.size ≤ q → A q := fun q h => hAm q h
  have hS : va_S (xN s.heap.size) s.heap s.heap [] := va_S.rf
  obtain ⟨rs0, hrs0⟩ : ∃ z9, z9 = rs := ⟨_, rfl⟩
  obtain ⟨up0, hup0⟩ : ∃ z9, z9 = up := ⟨_, rfl⟩
  obtain ⟨cb0, hcb0⟩ : ∃ z9, z9 = cb := ⟨_, rfl⟩
  have hLe : tLe t t := tLe.rf
  have hRs : rs ≤ rs0 + 0 := by omega
  have hl := lv_entry ([.ref (ad 0), .ref a, .ref (ad (6 + wr))]) (n := 3) (Nat.le_of_ble_eq_true rfl)
  rw [lg_entry_eq]
  generalize (lg_sl ([.ref (ad 0), .ref a, .ref (ad (6 + wr))]) ++ List.replicate (3 - (lg_sl ([.ref (ad 0), .ref a, .ref (ad (6 + wr))])).length) Slot.unset).toArray = ls at hl ⊢
  have hl : lv_has ls 3 [(0, .ref (ad 0)), (1, .ref a), (2, .ref (ad (6 + wr)))] := hl
  refine lv_aload_n hx hb dX4_take_0 rfl (lv_at hl 1 rfl) ?_
  obtain ⟨p_1, kd_2, nu_3, fr_4, to_5, o_6, hp_1, h_7, h_8, h_9⟩ := hO.k3 ha
  refine va_getN (host := "NoticeStations") (D := D) (ci := 1) (v := .int kd_2) (C := RX0) (T := TX0) (N := 5) hx hb hts in_X4_take_X0 hown hK hP p_1 hp_1 rfl 0 (by decide) (va_Nw.use rfl (hN.1 (.fieldLinkNest "NoticeStations" 207 "NoticeStations$Letter" "kind" "I" "NoticeStations") (by decide +kernel))) (fun _ h9 => h9) rfl dX4_take_1 ?_
  by_cases q_10 : kd_2 = 0
  · skip
    subst q_10
    refine lv_tableIn (off := 40) (tgt := 44) hx hb dX4_take_4 (by decide) (by decide) (by decide) (by decide) ?_
    refine lv_aload_n hx hb dX4_take_44 rfl (lv_at hl 0 rfl) ?_
    refine lv_aload_n hx hb dX4_take_45 rfl (lv_at hl 1 rfl) ?_
    refine lv_aload_n hx hb dX4_take_46 rfl (lv_at hl 2 rfl) ?_
    obtain ⟨p_11, hp_11⟩ := hO.k7
    have hFA := (freeA hD (hS.mono hAm) hA)
    refine va_callv (va_runV (As := [.ref a, .ref (ad (6 + wr))]) (rest := []) ⟨hx, hb, hml, hown, hts⟩ (c_X4_takeLock l hlt D tC dz s.heap.size pl t ad ed cb up rs cp hO a wr ha hwr (by omega)) (cwV 2 hts gX4_take_X4_takeLock rfl rfl rfl (by decide +kernel) ⟨Nat.le_of_ble_eq_true rfl, Nat.le_of_ble_eq_true rfl⟩) ⟨pB_blind, va_recv hK hP (ci := 5) (q0 := p_11) rfl hp_11, pB_at hP hD hK hN hE (hS.mono hAm) (freeA hD (hS.mono hAm) hA)⟩ rfl rfl hl.1 rfl (lv_room (Nat.le_of_ble_eq_true rfl)) dX4_take_47 ⟨Nat.le_of_ble_eq_true rfl, Nat.le_of_ble_eq_true rfl⟩) (hS.mono hAm) (fun q _ h => hFA q h) hFA (fun u t9 H1 locs ht hvm hw hB hz1 hk1 hS => ?_)
    have hw_13 := hw
    obtain ⟨t, ed, rs, cp, pl, hle9, hrs9, hO, hP1, _, hD1⟩ := hB
    rw [ht] at hP1
    have hD : va_D A pl := hD1.weaken (fun _ _ _ h9 => hFA _ h9)
    have hP := hP1
    generalize H1 = H at hP hS ⊢
    have hRs : rs ≤ rs0 + 1 := by omega
    have hLe := hLe.trans hle9
    have h_15 := hle9.k ha (by decide)
    refine W.widen (k := 2) (n := 1605) (by omega) (by omega) ?_
    refine lv_goto (tgt := 104) hx hb dX4_take_50 (by decide) ?_
    refine W.widen (k := 10) (n := 8025) (by omega) (by omega) ?_
    exact W.vret hx hb hr (fun t9 ht hW => ⟨⟨(), rfl, trivial, ⟨t, ed, rs, cp, pl, hLe, by omega, hO, (by rw [ht]; exact hP), va_K.moved hW.alike hK, hD⟩⟩, hS.F ht⟩) hS.2.2 dX4_take_104 hlocks
  · skip
    by_cases q_16 : kd_2 = 1
    · skip
      subst q_16
      refine lv_tableIn (off := 49) (tgt := 53) hx hb dX4_take_4 (by decide) (by decide) (by decide) (by decide) ?_
      refine lv_aload_n hx hb dX4_take_53 rfl (lv_at hl 0 rfl) ?_
      refine lv_aload_n hx hb dX4_take_54 rfl (lv_at hl 1 rfl) ?_
      refine lv_aload_n hx hb dX4_take_55 rfl (lv_at hl 2 rfl) ?_
      obtain ⟨p_17, hp_17⟩ := hO.k7
      have hFA := (freeA hD (hS.mono hAm) hA)
      refine va_callv (va_runV (As := [.ref a, .ref (ad (6 + wr))]) (rest := []) ⟨hx, hb, hml, hown, hts⟩ (c_X4_takeGrant l hlt D tC dz s.heap.size pl t ad ed cb up rs cp hO a wr ha hwr) (cwV 2 hts gX4_take_X4_takeGrant rfl rfl rfl (by decide +kernel) ⟨Nat.le_of_ble_eq_true rfl, Nat.le_of_ble_eq_true rfl⟩) ⟨pB_blind, va_recv hK hP (ci := 5) (q0 := p_17) rfl hp_17, pB_at hP hD hK hN hE (hS.mono hAm) (freeA hD (hS.mono hAm) hA)⟩ rfl rfl hl.1 rfl (lv_room (Nat.le_of_ble_eq_true rfl)) dX4_take_56 ⟨Nat.le_of_ble_eq_true rfl, Nat.le_of_ble_eq_true rfl⟩) (hS.mono hAm) (fun q _ h => hFA q h) hFA (fun u t9 H1 locs ht hvm hw hB hz1 hk1 hS => ?_)
      have hw_19 := hw
      obtain ⟨t, ed, rs, cp, pl, hle9, hrs9, hO, hP1, _, hD1⟩ := hB
      rw [ht] at hP1
      have hD : va_D A pl := hD1.weaken (fun _ _ _ h9 => hFA _ h9)
      have hP := hP1
      generalize H1 = H at hP hS ⊢
      have hRs : rs ≤ rs0 + 0 := by omega
      have hLe := hLe.trans hle9
      have h_21 := hle9.k ha (by decide)
      refine lv_goto (tgt := 104) hx hb dX4_take_59 (by decide) ?_
      refine W.widen (k := 10) (n := 8025) (by omega) (by omega) ?_
      exact W.vret hx hb hr (fun t9 ht hW => ⟨⟨(), rfl, trivial, ⟨t, ed, rs, cp, pl, hLe, by omega, hO, (by rw [ht]; exact hP), va_K.moved hW.alike hK, hD⟩⟩, hS.F ht⟩) hS.2.2 dX4_take_104 hlocks
    · skip
      by_cases q_22 : kd_2 = 2
      · skip
        subst q_22
        refine lv_tableIn (off := 58) (tgt := 62) hx hb dX4_take_4 (by decide) (by decide) (by decide) (by decide) ?_
        refine lv_aload_n hx hb dX4_take_62 rfl (lv_at hl 0 rfl) ?_
        refine lv_aload_n hx hb dX4_take_63 rfl (lv_at hl 1 rfl) ?_
        refine lv_aload_n hx hb dX4_take_64 rfl (lv_at hl 2 rfl) ?_
        obtain ⟨p_23, hp_23⟩ := hO.k7
        have hFA := (freeA hD (hS.mono hAm) hA)
        refine va_callv (va_runV (As := [.ref a, .ref (ad (6 + wr))]) (rest := []) ⟨hx, hb, hml, hown, hts⟩ (c_X4_takePrepare l hlt D tC dz s.heap.size pl t ad ed cb up rs cp hO a wr ha hwr (by omega)) (cwV 2 hts gX4_take_X4_takePrepare rfl rfl rfl (by decide +kernel) ⟨Nat.le_of_ble_eq_true rfl, Nat.le_of_ble_eq_true rfl⟩) ⟨pB_blind, va_recv hK hP (ci := 5) (q0 := p_23) rfl hp_23, pB_at hP hD hK hN hE (hS.mono hAm) (freeA hD (hS.mono hAm) hA)⟩ rfl rfl hl.1 rfl (lv_room (Nat.le_of_ble_eq_true rfl)) dX4_take_65 ⟨Nat.le_of_ble_eq_true rfl, Nat.le_of_ble_eq_true rfl⟩) (hS.mono hAm) (fun q _ h => hFA q h) hFA (fun u t9 H1 locs ht hvm hw hB hz1 hk1 hS => ?_)
        have hw_25 := hw
        obtain ⟨t, ed, rs, cp, pl, hle9, hrs9, hO, hP1, _, hD1⟩ := hB
        rw [ht] at hP1
        have hD : va_D A pl := hD1.weaken (fun _ _ _ h9 => hFA _ h9)
        have hP := hP1
        generalize H1 = H at hP hS ⊢
        have hRs : rs ≤ rs0 + 1 := by omega
        have hLe := hLe.trans hle9
        have h_27 := hle9.k ha (by decide)
        refine W.widen (k := 2) (n := 1605) (by omega) (by omega) ?_
        refine lv_goto (tgt := 104) hx hb dX4_take_68 (by decide) ?_
        refine W.widen (k := 10) (n := 8025) (by omega) (by omega) ?_
        exact W.vret hx hb hr (fun t9 ht hW => ⟨⟨(), rfl, trivial, ⟨t, ed, rs, cp, pl, hLe, by omega, hO, (by rw [ht]; exact hP), va_K.moved hW.alike hK, hD⟩⟩, hS.F ht⟩) hS.2.2 dX4_take_104 hlocks
      · skip
        by_cases q_28 : kd_2 = 3
        · skip
          subst q_28
          refine lv_tableIn (off := 67) (tgt := 71) hx hb dX4_take_4 (by decide) (by decide) (by decide) (by decide) ?_
          refine lv_aload_n hx hb dX4_take_71 rfl (lv_at hl 0 rfl) ?_
          refine lv_aload_n hx hb dX4_take_72 rfl (lv_at hl 1 rfl) ?_
          refine lv_aload_n hx hb dX4_take_73 rfl (lv_at hl 2 rfl) ?_
          obtain ⟨p_29, hp_29⟩ := hO.k7
          have hFA := (freeA hD (hS.mono hAm) hA)
          refine va_callv (va_runV (As := [.ref a, .ref (ad (6 + wr))]) (rest := []) ⟨hx, hb, hml, hown, hts⟩ (c_X4_takePrepared l hlt D tC dz s.heap.size pl t ad ed cb up rs cp hO a wr ha hwr (by omega)) (cwV 2 hts gX4_take_X4_takePrepared rfl rfl rfl (by decide +kernel) ⟨Nat.le_of_ble_eq_true rfl, Nat.le_of_ble_eq_true rfl⟩) ⟨pB_blind, va_recv hK hP (ci := 5) (q0 := p_29) rfl hp_29, pB_at hP hD hK hN hE (hS.mono hAm) (freeA hD (hS.mono hAm) hA)⟩ rfl rfl hl.1 rfl (lv_room (Nat.le_of_ble_eq_true rfl)) dX4_take_74 ⟨Nat.le_of_ble_eq_true rfl, Nat.le_of_ble_eq_true rfl⟩) (hS.mono hAm) (fun q _ h => hFA q h) hFA (fun u t9 H1 locs ht hvm hw hB hz1 hk1 hS => ?_)
          have hw_31 := hw
          obtain ⟨t, ed, rs, cp, pl, hle9, hrs9, hO, hP1, _, hD1⟩ := hB
          rw [ht] at hP1
          have hD : va_D A pl := hD1.weaken (fun _ _ _ h9 => hFA _ h9)
          have hP := hP1
          generalize H1 = H at hP hS ⊢
          have hRs : rs ≤ rs0 + 5 := by omega
          have hLe := hLe.trans hle9
          have h_33 := hle9.k ha (by decide)
          refine W.widen (k := 10) (n := 8025) (by omega) (by omega) ?_
          refine lv_goto (tgt := 104) hx hb dX4_take_77 (by decide) ?_
          refine W.widen (k := 10) (n := 8025) (by omega) (by omega) ?_
          exact W.vret hx hb hr (fun t9 ht hW => ⟨⟨(), rfl, trivial, ⟨t, ed, rs, cp, pl, hLe, by omega, hO, (by rw [ht]; exact hP), va_K.moved hW.alike hK, hD⟩⟩, hS.F ht⟩) hS.2.2 dX4_take_104 hlocks
        · skip
          by_cases q_34 : kd_2 = 4
          · skip
            subst q_34
            refine lv_tableIn (off := 76) (tgt := 80) hx hb dX4_take_4 (by decide) (by decide) (by decide) (by decide) ?_
            refine lv_aload_n hx hb dX4_take_80 rfl (lv_at hl 0 rfl) ?_
            refine lv_aload_n hx hb dX4_take_81 rfl (lv_at hl 1 rfl) ?_
            refine lv_aload_n hx hb dX4_take_82 rfl (lv_at hl 2 rfl) ?_
            obtain ⟨p_35, hp_35⟩ := hO.k7
            have hFA := (freeA hD (hS.mono hAm) hA)
            refine va_callv (va_runV (As := [.ref a, .ref (ad (6 + wr))]) (rest := []) ⟨hx, hb, hml, hown, hts⟩ (c_X4_takeCommit l hlt D tC dz s.heap.size pl t ad ed cb up rs cp hO a wr ha hwr) (cwV 2 hts gX4_take_X4_takeCommit rfl rfl rfl (by decide +kernel) ⟨Nat.le_of_ble_eq_true rfl, Nat.le_of_ble_eq_true rfl⟩) ⟨pB_blind, va_recv hK hP (ci := 5) (q0 := p_35) rfl hp_35, pB_at hP hD hK hN hE (hS.mono hAm) (freeA hD (hS.mono hAm) hA)⟩ rfl rfl hl.1 rfl (lv_room (Nat.le_of_ble_eq_true rfl)) dX4_take_83 ⟨Nat.le_of_ble_eq_true rfl, Nat.le_of_ble_eq_true rfl⟩) (hS.mono hAm) (fun q _ h => hFA q h) hFA (fun u t9 H1 locs ht hvm hw hB hz1 hk1 hS => ?_)
            have hw_37 := hw
            obtain ⟨t, ed, rs, cp, pl, hle9, hrs9, hO, hP1, _, hD1⟩ := hB
            rw [ht] at hP1
            have hD : va_D A pl := hD1.weaken (fun _ _ _ h9 => hFA _ h9)
            have hP := hP1
            generalize H1 = H at hP hS ⊢
            have hRs : rs ≤ rs0 + 0 := by omega
            have hLe := hLe.trans hle9
            have h_39 := hle9.k ha (by decide)
            refine lv_goto (tgt := 104) hx hb dX4_take_86 (by decide) ?_
            refine W.widen (k := 10) (n := 8025) (by omega) (by omega) ?_
            exact W.vret hx hb hr (fun t9 ht hW => ⟨⟨(), rfl, trivial, ⟨t, ed, rs, cp, pl, hLe, by omega, hO, (by rw [ht]; exact hP), va_K.moved hW.alike hK, hD⟩⟩, hS.F ht⟩) hS.2.2 dX4_take_104 hlocks
          · skip
            by_cases q_40 : kd_2 = 5
            · skip
              subst q_40
              refine lv_tableIn (off := 85) (tgt := 89) hx hb dX4_take_4 (by decide) (by decide) (by decide) (by decide) ?_
              refine lv_aload_n hx hb dX4_take_89 rfl (lv_at hl 0 rfl) ?_
              refine lv_aload_n hx hb dX4_take_90 rfl (lv_at hl 1 rfl) ?_
              refine lv_aload_n hx hb dX4_take_91 rfl (lv_at hl 2 rfl) ?_
              obtain ⟨p_41, hp_41⟩ := hO.k7
              have hFA := (freeA hD (hS.mono hAm) hA)
              refine va_callv (va_runV (As := [.ref a, .ref (ad (6 + wr))]) (rest := []) ⟨hx, hb, hml, hown, hts⟩ (c_X4_takeAbort l hlt D tC dz s.heap.size pl t ad ed cb up rs cp hO a wr ha hwr) (cwV 2 hts gX4_take_X4_takeAbort rfl rfl rfl (by decide +kernel) ⟨Nat.le_of_ble_eq_true rfl, Nat.le_of_ble_eq_true rfl⟩) ⟨pB_blind, va_recv hK hP (ci := 5) (q0 := p_41) rfl hp_41, pB_at hP hD hK hN hE (hS.mono hAm) (freeA hD (hS.mono hAm) hA)⟩ rfl rfl hl.1 rfl (lv_room (Nat.le_of_ble_eq_true rfl)) dX4_take_92 ⟨Nat.le_of_ble_eq_true rfl, Nat.le_of_ble_eq_true rfl⟩) (hS.mono hAm) (fun q _ h => hFA q h) hFA (fun u t9 H1 locs ht hvm hw hB hz1 hk1 hS => ?_)
              have hw_43 := hw
              obtain ⟨t, ed, rs, cp, pl, hle9, hrs9, hO, hP1, _, hD1⟩ := hB
              rw [ht] at hP1
              have hD : va_D A pl := hD1.weaken (fun _ _ _ h9 => hFA _ h9)
              have hP := hP1
              generalize H1 = H at hP hS ⊢
              have hRs : rs ≤ rs0 + 0 := by omega
              have hLe := hLe.trans hle9
              have h_45 := hle9.k ha (by decide)
              refine lv_goto (tgt := 104) hx hb dX4_take_95 (by decide) ?_
              refine W.widen (k := 10) (n := 8025) (by omega) (by omega) ?_
              exact W.vret hx hb hr (fun t9 ht hW => ⟨⟨(), rfl, trivial, ⟨t, ed, rs, cp, pl, hLe, by omega, hO, (by rw [ht]; exact hP), va_K.moved hW.alike hK, hD⟩⟩, hS.F ht⟩) hS.2.2 dX4_take_104 hlocks
            · skip
              refine lv_tableOut (tgt := 98) hx hb dX4_take_4 (by have h9 := swo (z := kd_2) (n := 6) (fun j hj => by rcases (show j = 0 ∨ j = 1 ∨ j = 2 ∨ j = 3 ∨ j = 4 ∨ j = 5 by omega) with rfl | rfl | rfl | rfl | rfl | rfl <;> first | exact q_10 | exact q_16 | exact q_22 | exact q_28 | exact q_34 | exact q_40) (by decide); omega) (by decide) ?_
              refine lv_aload_n hx hb dX4_take_98 rfl (lv_at hl 0 rfl) ?_
              refine lv_aload_n hx hb dX4_take_99 rfl (lv_at hl 1 rfl) ?_
              refine lv_aload_n hx hb dX4_take_100 rfl (lv_at hl 2 rfl) ?_
              obtain ⟨p_46, hp_46⟩ := hO.k7
              have hFA := (freeA hD (hS.mono hAm) hA)
              refine va_callv (va_runV (As := [.ref a, .ref (ad (6 + wr))]) (rest := []) ⟨hx, hb, hml, hown, hts⟩ (c_X4_takeAsk l hlt D tC dz s.heap.size pl t ad ed cb up rs cp hO a wr ha hwr (by omega)) (cwV 2 hts gX4_take_X4_takeAsk rfl rfl rfl (by decide +kernel) ⟨Nat.le_of_ble_eq_true rfl, Nat.le_of_ble_eq_true rfl⟩) ⟨pB_blind, va_recv hK hP (ci := 5) (q0 := p_46) rfl hp_46, pB_at hP hD hK hN hE (hS.mono hAm) (freeA hD (hS.mono hAm) hA)⟩ rfl rfl hl.1 rfl (lv_room (Nat.le_of_ble_eq_true rfl)) dX4_take_101 ⟨Nat.le_of_ble_eq_true rfl, Nat.le_of_ble_eq_true rfl⟩) (hS.mono hAm) (fun q _ h => hFA q h) hFA (fun u t9 H1 locs ht hvm hw hB hz1 hk1 hS => ?_)
              have hw_48 := hw
              obtain ⟨t, ed, rs, cp, pl, hle9, hrs9, hO, hP1, _, hD1⟩ := hB
              rw [ht] at hP1
              have hD : va_D A pl := hD1.weaken (fun _ _ _ h9 => hFA _ h9)
              have hP := hP1
              generalize H1 = H at hP hS ⊢
              have hRs : rs ≤ rs0 + 1 := by omega
              have hLe := hLe.trans hle9
              have h_50 := hle9.k ha (by decide)
              refine W.widen (k := 2) (n := 1605) (by omega) (by omega) ?_
              refine W.widen (k := 10) (n := 8025) (by omega) (by omega) ?_
              exact W.vret hx hb hr (fun t9 ht hW => ⟨⟨(), rfl, trivial, ⟨t, ed, rs, cp, pl, hLe, by omega, hO, (by rw [ht]; exact hP), va_K.moved hW.alike hK, hD⟩⟩, hS.F ht⟩) hS.2.2 dX4_take_104 hlocks
