set_option maxRecDepth 100000 in
theorem dL_allowed_0 : decode cL_allowed 0 = .ok (.aload_n 2, 1) := by decide +kernel
set_option maxRecDepth 100000 in
theorem dL_allowed_1 : decode cL_allowed 1 = .ok (.iconst 0, 1) := by decide +kernel
set_option maxRecDepth 100000 in
theorem dL_allowed_2 : decode cL_allowed 2 = .ok (.aload_n 0, 1) := by decide +kernel
set_option maxRecDepth 100000 in
theorem dL_allowed_3 : decode cL_allowed 3 = .ok (.iload_n 1, 1) := by decide +kernel
set_option maxRecDepth 100000 in
theorem dL_allowed_4 : decode cL_allowed 4 = .ok (.invokevirtual 78, 3) := by decide +kernel
set_option maxRecDepth 20000 in
theorem ggL_allowed_X4_allowed : GoodIn wsL_allowed wsX4_allowed := goodIn_ca (goodIn_r _ [6, 7, 8, 9, 10, 11, 12, 5, 13, 14, 15, 16, 17, 18, 19, 20, 21, 22, 23, 24, 25, 26, 27, 28, 29, 30, 31, 32, 33, 34, 35, 36, 37, 38, 39, 40, 41, 42, 43, 44, 45, 46, 47, 48, 49, 50, 51] (by decide +kernel) (by decide +kernel)) (goodIn_sub (fun _ h => List.mem_cons_of_mem _ (List.mem_append_right _ h)) (by decide +kernel))
set_option maxRecDepth 20000 in
theorem gL_allowed_X4_allowed : GoodIn wsL_allowed (wsV RL 78 RX4 yX4_allowed wsX4_allowed) := goodIn_app (goodIn_of _ (by decide +kernel)) ggL_allowed_X4_allowed
set_option maxRecDepth 100000 in
theorem dL_allowed_19 : decode cL_allowed 19 = .ok (.astore_n 3, 1) := by decide +kernel
set_option maxRecDepth 100000 in
theorem dL_allowed_20 : decode cL_allowed 20 = .ok (.iconst 1, 1) := by decide +kernel
set_option maxRecDepth 100000 in
theorem dL_allowed_21 : decode cL_allowed 21 = .ok (.ireturn, 1) := by decide +kernel
set_option maxRecDepth 100000 in
theorem dL_allowed_7 : decode cL_allowed 7 = .ok (.ifCond .eq 7, 3) := by decide +kernel
set_option maxRecDepth 100000 in
theorem dL_allowed_14 : decode cL_allowed 14 = .ok (.lconst 0, 1) := by decide +kernel
set_option maxRecDepth 100000 in
theorem dL_allowed_15 : decode cL_allowed 15 = .ok (.lastore, 1) := by decide +kernel
set_option maxRecDepth 100000 in
theorem dL_allowed_16 : decode cL_allowed 16 = .ok (.goto 6, 3) := by decide +kernel
set_option maxRecDepth 100000 in
theorem dL_allowed_22 : decode cL_allowed 22 = .ok (.iconst 0, 1) := by decide +kernel
set_option maxRecDepth 100000 in
theorem dL_allowed_23 : decode cL_allowed 23 = .ok (.ireturn, 1) := by decide +kernel
set_option maxRecDepth 100000 in
theorem dL_allowed_10 : decode cL_allowed 10 = .ok (.lconst 1, 1) := by decide +kernel
set_option maxRecDepth 100000 in
theorem dL_allowed_11 : decode cL_allowed 11 = .ok (.goto 4, 3) := by decide +kernel
set_option maxRecDepth 100000 in
theorem dX5_greatest_0 : decode cX5_greatest 0 = .ok (.iconst (-1), 1) := by decide +kernel
set_option maxRecDepth 100000 in
theorem dX5_greatest_1 : decode cX5_greatest 1 = .ok (.istore_n 1, 1) := by decide +kernel
set_option maxRecDepth 100000 in
theorem dX5_greatest_2 : decode cX5_greatest 2 = .ok (.iconst 0, 1) := by decide +kernel
set_option maxRecDepth 100000 in
theorem dX5_greatest_3 : decode cX5_greatest 3 = .ok (.istore_n 2, 1) := by decide +kernel
set_option maxRecDepth 100000 in
theorem dX5_greatest_4 : decode cX5_greatest 4 = .ok (.iload_n 2, 1) := by decide +kernel
set_option maxRecDepth 100000 in
theorem dX5_greatest_5 : decode cX5_greatest 5 = .ok (.iconst 5, 1) := by decide +kernel
set_option maxRecDepth 100000 in
theorem dX5_greatest_6 : decode cX5_greatest 6 = .ok (.if_icmp .ge 53, 3) := by decide +kernel
set_option maxRecDepth 100000 in
theorem dX5_greatest_9 : decode cX5_greatest 9 = .ok (.aload_n 0, 1) := by decide +kernel
set_option maxRecDepth 100000 in
theorem dX5_greatest_10 : decode cX5_greatest 10 = .ok (.getfield 90, 3) := by decide +kernel
set_option maxRecDepth 100000 in
theorem in_X5_greatest_X5 : ∀ w ∈ wsX50, w ∈ wsX5_greatest := fun _ h => List.mem_cons_of_mem _ (List.mem_append_right _ h)
set_option maxRecDepth 100000 in
theorem dX5_greatest_13 : decode cX5_greatest 13 = .ok (.iload_n 2, 1) := by decide +kernel
set_option maxRecDepth 100000 in
theorem dX5_greatest_14 : decode cX5_greatest 14 = .ok (.iaload, 1) := by decide +kernel
set_option maxRecDepth 100000 in
theorem dX5_greatest_15 : decode cX5_greatest 15 = .ok (.ifCond .lt 36, 3) := by decide +kernel
set_option maxRecDepth 100000 in
theorem dX5_greatest_51 : decode cX5_greatest 51 = .ok (.iload_n 1, 1) := by decide +kernel
set_option maxRecDepth 100000 in
theorem dX5_greatest_52 : decode cX5_greatest 52 = .ok (.istore_n 1, 1) := by decide +kernel
set_option maxRecDepth 100000 in
theorem dX5_greatest_53 : decode cX5_greatest 53 = .ok (.iinc 2 1, 3) := by decide +kernel
set_option maxRecDepth 100000 in
theorem dX5_greatest_56 : decode cX5_greatest 56 = .ok (.goto (-52), 3) := by decide +kernel
set_option maxRecDepth 100000 in
theorem dX5_greatest_59 : decode cX5_greatest 59 = .ok (.iload_n 1, 1) := by decide +kernel
set_option maxRecDepth 100000 in
theorem dX5_greatest_60 : decode cX5_greatest 60 = .ok (.ireturn, 1) := by decide +kernel
set_option maxRecDepth 100000 in
theorem dX5_greatest_18 : decode cX5_greatest 18 = .ok (.iload_n 1, 1) := by decide +kernel
set_option maxRecDepth 100000 in
theorem dX5_greatest_19 : decode cX5_greatest 19 = .ok (.ifCond .lt 23, 3) := by decide +kernel
set_option maxRecDepth 100000 in
theorem dX5_greatest_42 : decode cX5_greatest 42 = .ok (.aload_n 0, 1) := by decide +kernel
set_option maxRecDepth 100000 in
theorem dX5_greatest_43 : decode cX5_greatest 43 = .ok (.getfield 90, 3) := by decide +kernel
set_option maxRecDepth 100000 in
theorem dX5_greatest_46 : decode cX5_greatest 46 = .ok (.iload_n 2, 1) := by decide +kernel
set_option maxRecDepth 100000 in
theorem dX5_greatest_47 : decode cX5_greatest 47 = .ok (.iaload, 1) := by decide +kernel
set_option maxRecDepth 100000 in
theorem dX5_greatest_48 : decode cX5_greatest 48 = .ok (.goto 4, 3) := by decide +kernel
set_option maxRecDepth 100000 in
theorem dX5_greatest_22 : decode cX5_greatest 22 = .ok (.aload_n 0, 1) := by decide +kernel
set_option maxRecDepth 100000 in
theorem dX5_greatest_23 : decode cX5_greatest 23 = .ok (.getfield 13, 3) := by decide +kernel
set_option maxRecDepth 100000 in
theorem dX5_greatest_26 : decode cX5_greatest 26 = .ok (.aload_n 0, 1) := by decide +kernel
set_option maxRecDepth 100000 in
theorem dX5_greatest_27 : decode cX5_greatest 27 = .ok (.getfield 90, 3) := by decide +kernel
set_option maxRecDepth 100000 in
theorem dX5_greatest_30 : decode cX5_greatest 30 = .ok (.iload_n 2, 1) := by decide +kernel
set_option maxRecDepth 100000 in
theorem dX5_greatest_31 : decode cX5_greatest 31 = .ok (.iaload, 1) := by decide +kernel
set_option maxRecDepth 100000 in
theorem dX5_greatest_32 : decode cX5_greatest 32 = .ok (.iaload, 1) := by decide +kernel
set_option maxRecDepth 100000 in
theorem dX5_greatest_33 : decode cX5_greatest 33 = .ok (.aload_n 0, 1) := by decide +kernel
set_option maxRecDepth 100000 in
theorem dX5_greatest_34 : decode cX5_greatest 34 = .ok (.getfield 13, 3) := by decide +kernel
set_option maxRecDepth 100000 in
theorem dX5_greatest_37 : decode cX5_greatest 37 = .ok (.iload_n 1, 1) := by decide +kernel
set_option maxRecDepth 100000 in
theorem dX5_greatest_38 : decode cX5_greatest 38 = .ok (.iaload, 1) := by decide +kernel
set_option maxRecDepth 100000 in
theorem dX5_greatest_39 : decode cX5_greatest 39 = .ok (.if_icmp .le 12, 3) := by decide +kernel
set_option maxRecDepth 100000 in
theorem dX5_mayGoOn_0 : decode cX5_mayGoOn 0 = .ok (.aload_n 0, 1) := by decide +kernel
set_option maxRecDepth 100000 in
theorem dX5_mayGoOn_1 : decode cX5_mayGoOn 1 = .ok (.invokevirtual 130, 3) := by decide +kernel
set_option maxRecDepth 20000 in
theorem ggX5_mayGoOn_X5_greatest : GoodIn wsX5_mayGoOn wsX5_greatest := goodIn_r _ [9, 1, 2, 10, 11, 12, 13, 14, 15, 16, 17, 18, 19, 20, 21, 22, 23, 24, 25, 26, 27, 28, 29, 30, 31, 32, 33, 34, 35, 36, 37, 38] (by decide +kernel) (by decide +kernel)
set_option maxRecDepth 20000 in
theorem gX5_mayGoOn_X5_greatest : GoodIn wsX5_mayGoOn (wsV RX5 130 RX5 yX5_greatest wsX5_greatest) := goodIn_app (goodIn_of _ (by decide +kernel)) ggX5_mayGoOn_X5_greatest
set_option maxRecDepth 100000 in
theorem dX5_mayGoOn_4 : decode cX5_mayGoOn 4 = .ok (.istore_n 1, 1) := by decide +kernel
set_option maxRecDepth 100000 in
theorem dX5_mayGoOn_5 : decode cX5_mayGoOn 5 = .ok (.iconst 0, 1) := by decide +kernel
set_option maxRecDepth 100000 in
theorem dX5_mayGoOn_6 : decode cX5_mayGoOn 6 = .ok (.istore_n 2, 1) := by decide +kernel
set_option maxRecDepth 100000 in
theorem dX5_mayGoOn_7 : decode cX5_mayGoOn 7 = .ok (.iconst 0, 1) := by decide +kernel
set_option maxRecDepth 100000 in
theorem dX5_mayGoOn_8 : decode cX5_mayGoOn 8 = .ok (.istore_n 3, 1) := by decide +kernel
set_option maxRecDepth 100000 in
theorem dX5_mayGoOn_9 : decode cX5_mayGoOn 9 = .ok (.iload_n 3, 1) := by decide +kernel
set_option maxRecDepth 100000 in
theorem dX5_mayGoOn_10 : decode cX5_mayGoOn 10 = .ok (.iconst 5, 1) := by decide +kernel
set_option maxRecDepth 100000 in
theorem dX5_mayGoOn_11 : decode cX5_mayGoOn 11 = .ok (.if_icmp .ge 60, 3) := by decide +kernel
set_option maxRecDepth 100000 in
theorem dX5_mayGoOn_14 : decode cX5_mayGoOn 14 = .ok (.iload_n 1, 1) := by decide +kernel
set_option maxRecDepth 100000 in
theorem dX5_mayGoOn_15 : decode cX5_mayGoOn 15 = .ok (.ifCond .lt 56, 3) := by decide +kernel
set_option maxRecDepth 100000 in
theorem dX5_mayGoOn_71 : decode cX5_mayGoOn 71 = .ok (.iload_n 1, 1) := by decide +kernel
set_option maxRecDepth 100000 in
theorem dX5_mayGoOn_72 : decode cX5_mayGoOn 72 = .ok (.ifCond .lt 17, 3) := by decide +kernel
set_option maxRecDepth 100000 in
theorem dX5_mayGoOn_89 : decode cX5_mayGoOn 89 = .ok (.iconst 0, 1) := by decide +kernel
set_option maxRecDepth 100000 in
theorem dX5_mayGoOn_90 : decode cX5_mayGoOn 90 = .ok (.ireturn, 1) := by decide +kernel
set_option maxRecDepth 100000 in
theorem dX5_mayGoOn_18 : decode cX5_mayGoOn 18 = .ok (.aload_n 0, 1) := by decide +kernel
set_option maxRecDepth 100000 in
theorem dX5_mayGoOn_19 : decode cX5_mayGoOn 19 = .ok (.getfield 90, 3) := by decide +kernel
set_option maxRecDepth 100000 in
theorem in_X5_mayGoOn_X5 : ∀ w ∈ wsX50, w ∈ wsX5_mayGoOn := fun _ h => List.mem_cons_of_mem _ (List.mem_append_right _ h)
set_option maxRecDepth 100000 in
theorem dX5_mayGoOn_22 : decode cX5_mayGoOn 22 = .ok (.iload_n 3, 1) := by decide +kernel
set_option maxRecDepth 100000 in
theorem dX5_mayGoOn_23 : decode cX5_mayGoOn 23 = .ok (.iaload, 1) := by decide +kernel
set_option maxRecDepth 100000 in
theorem dX5_mayGoOn_24 : decode cX5_mayGoOn 24 = .ok (.ifCond .lt 41, 3) := by decide +kernel
set_option maxRecDepth 100000 in
theorem dX5_mayGoOn_65 : decode cX5_mayGoOn 65 = .ok (.iinc 3 1, 3) := by decide +kernel
set_option maxRecDepth 100000 in
theorem dX5_mayGoOn_68 : decode cX5_mayGoOn 68 = .ok (.goto (-59), 3) := by decide +kernel
set_option maxRecDepth 100000 in
theorem dX5_mayGoOn_27 : decode cX5_mayGoOn 27 = .ok (.aload_n 0, 1) := by decide +kernel
set_option maxRecDepth 100000 in
theorem dX5_mayGoOn_28 : decode cX5_mayGoOn 28 = .ok (.getfield 13, 3) := by decide +kernel
set_option maxRecDepth 100000 in
theorem dX5_mayGoOn_31 : decode cX5_mayGoOn 31 = .ok (.aload_n 0, 1) := by decide +kernel
set_option maxRecDepth 100000 in
theorem dX5_mayGoOn_32 : decode cX5_mayGoOn 32 = .ok (.getfield 90, 3) := by decide +kernel
set_option maxRecDepth 100000 in
theorem dX5_mayGoOn_35 : decode cX5_mayGoOn 35 = .ok (.iload_n 3, 1) := by decide +kernel
set_option maxRecDepth 100000 in
theorem dX5_mayGoOn_36 : decode cX5_mayGoOn 36 = .ok (.iaload, 1) := by decide +kernel
set_option maxRecDepth 100000 in
theorem dX5_mayGoOn_37 : decode cX5_mayGoOn 37 = .ok (.iaload, 1) := by decide +kernel
set_option maxRecDepth 100000 in
theorem dX5_mayGoOn_38 : decode cX5_mayGoOn 38 = .ok (.aload_n 0, 1) := by decide +kernel
set_option maxRecDepth 100000 in
theorem dX5_mayGoOn_39 : decode cX5_mayGoOn 39 = .ok (.getfield 13, 3) := by decide +kernel
set_option maxRecDepth 100000 in
theorem dX5_mayGoOn_42 : decode cX5_mayGoOn 42 = .ok (.iload_n 1, 1) := by decide +kernel
set_option maxRecDepth 100000 in
theorem dX5_mayGoOn_43 : decode cX5_mayGoOn 43 = .ok (.iaload, 1) := by decide +kernel
set_option maxRecDepth 100000 in
theorem dX5_mayGoOn_44 : decode cX5_mayGoOn 44 = .ok (.if_icmp .ne 21, 3) := by decide +kernel
set_option maxRecDepth 100000 in
theorem dX5_mayGoOn_47 : decode cX5_mayGoOn 47 = .ok (.iload_n 2, 1) := by decide +kernel
set_option maxRecDepth 100000 in
theorem dX5_mayGoOn_48 : decode cX5_mayGoOn 48 = .ok (.iload_n 3, 1) := by decide +kernel
set_option maxRecDepth 100000 in
theorem dX5_mayGoOn_49 : decode cX5_mayGoOn 49 = .ok (.aload_n 0, 1) := by decide +kernel
set_option maxRecDepth 100000 in
theorem dX5_mayGoOn_50 : decode cX5_mayGoOn 50 = .ok (.getfield 29, 3) := by decide +kernel
set_option maxRecDepth 100000 in
theorem dX5_mayGoOn_53 : decode cX5_mayGoOn 53 = .ok (.iload_n 1, 1) := by decide +kernel
set_option maxRecDepth 100000 in
theorem dX5_mayGoOn_54 : decode cX5_mayGoOn 54 = .ok (.iaload, 1) := by decide +kernel
set_option maxRecDepth 100000 in
theorem dX5_mayGoOn_55 : decode cX5_mayGoOn 55 = .ok (.if_icmp .ne 7, 3) := by decide +kernel
set_option maxRecDepth 100000 in
theorem dX5_mayGoOn_62 : decode cX5_mayGoOn 62 = .ok (.iconst 2, 1) := by decide +kernel
set_option maxRecDepth 100000 in
theorem dX5_mayGoOn_63 : decode cX5_mayGoOn 63 = .ok (.iadd, 1) := by decide +kernel
set_option maxRecDepth 100000 in
theorem dX5_mayGoOn_64 : decode cX5_mayGoOn 64 = .ok (.istore_n 2, 1) := by decide +kernel
set_option maxRecDepth 100000 in
theorem dX5_mayGoOn_75 : decode cX5_mayGoOn 75 = .ok (.iload_n 2, 1) := by decide +kernel
set_option maxRecDepth 100000 in
theorem dX5_mayGoOn_76 : decode cX5_mayGoOn 76 = .ok (.aload_n 0, 1) := by decide +kernel
set_option maxRecDepth 100000 in
theorem dX5_mayGoOn_77 : decode cX5_mayGoOn 77 = .ok (.getfield 26, 3) := by decide +kernel
set_option maxRecDepth 100000 in
theorem dX5_mayGoOn_80 : decode cX5_mayGoOn 80 = .ok (.iload_n 1, 1) := by decide +kernel
set_option maxRecDepth 100000 in
theorem dX5_mayGoOn_81 : decode cX5_mayGoOn 81 = .ok (.iaload, 1) := by decide +kernel
set_option maxRecDepth 100000 in
theorem dX5_mayGoOn_82 : decode cX5_mayGoOn 82 = .ok (.if_icmp .le 7, 3) := by decide +kernel
set_option maxRecDepth 100000 in
theorem dX5_mayGoOn_85 : decode cX5_mayGoOn 85 = .ok (.iconst 1, 1) := by decide +kernel
set_option maxRecDepth 100000 in
theorem dX5_mayGoOn_86 : decode cX5_mayGoOn 86 = .ok (.goto 4, 3) := by decide +kernel
set_option maxRecDepth 100000 in
theorem dX5_mayGoOn_58 : decode cX5_mayGoOn 58 = .ok (.iconst 3, 1) := by decide +kernel
set_option maxRecDepth 100000 in
theorem dX5_mayGoOn_59 : decode cX5_mayGoOn 59 = .ok (.goto 4, 3) := by decide +kernel
set_option maxHeartbeats 4000000 in
set_option maxRecDepth 100000 in
theorem c_L_allowed (l : Launch) (hlt : l.stackTraces = false) (D : va_G) (tC : Nat → ClassId) (dz sz : Nat) (x : Nat) (a1 : Nat) (a2 : Nat) (a3 : Nat) (a4 : Nat) (fs : Nat → Option Nat) (qs : Nat → Nat) (gf : Nat → Option Nat) (p0 : Int32) (f : Nat) (e1 : Nat) (e2 : Nat) (z1 : Nat → Int32) (o : Nat) (ov : Nat → Int64) (hfs : ∀ i : Nat, i < 5 → fs i = some (qs i)) : vx_Met l yL_allowed wsL_allowed ({ frames := 7, cells := 1, slots := 6, locals := 105 }) (va_Pc [.ref x, .int p0, .ref o] (pB D tC dz [(x, .inr (5, [.ref a1, .ref a2, .ref a3, .ref a4])), (a1, wT tC 5 fs), (a4, wS tC 5 gf), (f, .inr (3, [.ref e1, .ref e2, .int 5, .int 0])), (e1, wI tC 0 z1), ((qs 0), .inr (4, [.int 0, .int 1, .ref f, .int 0, .int (-1), .null, .int (-1), .null])), ((qs 1), .inr (4, [.int 1, .int 1, .ref f, .int 0, .int (-1), .null, .int (-1), .null])), ((qs 2), .inr (4, [.int 2, .int 1, .ref f, .int 0, .int (-1), .null, .int (-1), .null])), ((qs 3), .inr (4, [.int 3, .int 1, .ref f, .int 0, .int (-1), .null, .int (-1), .null])), ((qs 4), .inr (4, [.int 4, .int 1, .ref f, .int 0, .int (-1), .null, .int (-1), .null])), (o, wL tC 1 ov)] sz)) (va_Qi (fun (r : Int32) (w : Nat → Int64) => (r = (if p0 < 0 ∨ 32 ≤ p0 then 1 else 0)) ∧ (r = 0 → w 0 = (if mayg (bqb p0) then 1 else 0))) (fun (w : Nat → Int64) t => pA D tC (va_A [(x, .inr (5, [.ref a1, .ref a2, .ref a3, .ref a4])), (a1, wT tC 5 fs), (a4, wS tC 5 gf), (f, .inr (3, [.ref e1, .ref e2, .int 5, .int 0])), (e1, wI tC 0 z1), ((qs 0), .inr (4, [.int 0, .int 1, .ref f, .int 0, .int (-1), .null, .int (-1), .null])), ((qs 1), .inr (4, [.int 1, .int 1, .ref f, .int 0, .int (-1), .null, .int (-1), .null])), ((qs 2), .inr (4, [.int 2, .int 1, .ref f, .int 0, .int (-1), .null, .int (-1), .null])), ((qs 3), .inr (4, [.int 3, .int 1, .ref f, .int 0, .int (-1), .null, .int (-1), .null])), ((qs 4), .inr (4, [.int 4, .int 1, .ref f, .int 0, .int (-1), .null, .int (-1), .null])), (o, wL tC 1 ov)] sz) [(o, wL tC 1 w)] t) (va_A [(x, .inr (5, [.ref a1, .ref a2, .ref a3, .ref a4])), (a1, wT tC 5 fs), (a4, wS tC 5 gf), (f, .inr (3, [.ref e1, .ref e2, .int 5, .int 0])), (e1, wI tC 0 z1), ((qs 0), .inr (4, [.int 0, .int 1, .ref f, .int 0, .int (-1), .null, .int (-1), .null])), ((qs 1), .inr (4, [.int 1, .int 1, .ref f, .int 0, .int (-1), .null, .int (-1), .null])), ((qs 2), .inr (4, [.int 2, .int 1, .ref f, .int 0, .int (-1), .null, .int (-1), .null])), ((qs 3), .inr (4, [.int 3, .int 1, .ref f, .int 0, .int (-1), .null, .int (-1), .null])), ((qs 4), .inr (4, [.int 4, .int 1, .ref f, .int 0, .int (-1), .null, .int (-1), .null])), (o, wL tC 1 ov)] sz)) (xX (fun E => False) (va_A [(x, .inr (5, [.ref a1, .ref a2, .ref a3, .ref a4])), (a1, wT tC 5 fs), (a4, wS tC 5 gf), (f, .inr (3, [.ref e1, .ref e2, .int 5, .int 0])), (e1, wI tC 0 z1), ((qs 0), .inr (4, [.int 0, .int 1, .ref f, .int 0, .int (-1), .null, .int (-1), .null])), ((qs 1), .inr (4, [.int 1, .int 1, .ref f, .int 0, .int (-1), .null, .int (-1), .null])), ((qs 2), .inr (4, [.int 2, .int 1, .ref f, .int 0, .int (-1), .null, .int (-1), .null])), ((qs 3), .inr (4, [.int 3, .int 1, .ref f, .int 0, .int (-1), .null, .int (-1), .null])), ((qs 4), .inr (4, [.int 4, .int 1, .ref f, .int 0, .int (-1), .null, .int (-1), .null])), (o, wL tC 1 ov)] sz)) 1 6 (va_A [(x, .inr (5, [.ref a1, .ref a2, .ref a3, .ref a4])), (a1, wT tC 5 fs), (a4, wS tC 5 gf), (f, .inr (3, [.ref e1, .ref e2, .int 5, .int 0])), (e1, wI tC 0 z1), ((qs 0), .inr (4, [.int 0, .int 1, .ref f, .int 0, .int (-1), .null, .int (-1), .null])), ((qs 1), .inr (4, [.int 1, .int 1, .ref f, .int 0, .int (-1), .null, .int (-1), .null])), ((qs 2), .inr (4, [.int 2, .int 1, .ref f, .int 0, .int (-1), .null, .int (-1), .null])), ((qs 3), .inr (4, [.int 3, .int 1, .ref f, .int 0, .int (-1), .null, .int (-1), .null])), ((qs 4), .inr (4, [.int 4, .int 1, .ref f, .int 0, .int (-1), .null, .int (-1), .null])), (o, wL tC 1 ov)] sz) := by
  refine vx_ofWH (cc := cL_allowed) (maxL := 4) (ret := (some .int)) (by decide) rfl ?_
  intro p e s m args below meth c s₁ B hml hv
  obtain ⟨rfl, hsz, hP, hK, hD0, hN, hE⟩ := hv
  have hx := B.exec
  have hb := B.bytes
  have hr := B.returns
  have hts := atoms_spec (ws := wsL_allowed) B.pre
  have hown : s.vm.findClass RL = some m.cls := findClass_of_methodNamed B.named
  have hlocks := B.notSynchronized
  subst hsz
  have hD := hD0.self (sz := s.heap.size)
  generalize hAe : va_A [(x, .inr (5, [.ref a1, .ref a2, .ref a3, .ref a4])), (a1, wT tC 5 fs), (a4, wS tC 5 gf), (f, .inr (3, [.ref e1, .ref e2, .int 5, .int 0])), (e1, wI tC 0 z1), ((qs 0), .inr (4, [.int 0, .int 1, .ref f, .int 0, .int (-1), .null, .int (-1), .null])), ((qs 1), .inr (4, [.int 1, .int 1, .ref f, .int 0, .int (-1), .null, .int (-1), .null])), ((qs 2), .inr (4, [.int 2, .int 1, .ref f, .int 0, .int (-1), .null, .int (-1), .null])), ((qs 3), .inr (4, [.int 3, .int 1, .ref f, .int 0, .int (-1), .null, .int (-1), .null])), ((qs 4), .inr (4, [.int 4, .int 1, .ref f, .int 0, .int (-1), .null, .int (-1), .null])), (o, wL tC 1 ov)] s.heap.size = A at hD hE ⊢
  have hA : ∀ q : Nat, s.heap.size ≤ q → A q := fun q h => by rw [← hAe]; exact Or.inr h
  have hS : va_S A s.heap s.heap [] := va_S.rf
  have hP : va_P D vwCl [(x, .inr (5, [.ref a1, .ref a2, .ref a3, .ref a4])), (a1, wT tC 5 fs), (a4, wS tC 5 gf), (f, .inr (3, [.ref e1, .ref e2, .int 5, .int 0])), (e1, wI tC 0 z1), ((qs 0), .inr (4, [.int 0, .int 1, .ref f, .int 0, .int (-1), .null, .int (-1), .null])), ((qs 1), .inr (4, [.int 1, .int 1, .ref f, .int 0, .int (-1), .null, .int (-1), .null])), ((qs 2), .inr (4, [.int 2, .int 1, .ref f, .int 0, .int (-1), .null, .int (-1), .null])), ((qs 3), .inr (4, [.int 3, .int 1, .ref f, .int 0, .int (-1), .null, .int (-1), .null])), ((qs 4), .inr (4, [.int 4, .int 1, .ref f, .int 0, .int (-1), .null, .int (-1), .null])), (o, wL tC 1 ov)] s.heap := hP
  have hl := lv_entry ([.ref x, .int p0, .ref o]) (n := 4) (Nat.le_of_ble_eq_true rfl)
  rw [lg_entry_eq]
  generalize (lg_sl ([.ref x, .int p0, .ref o]) ++ List.replicate (4 - (lg_sl ([.ref x, .int p0, .ref o])).length) Slot.unset).toArray = ls at hl ⊢
  have hl : lv_has ls 4 [(0, .ref x), (1, .int p0), (2, .ref o)] := hl
  have htab := vx_table (x := yL_allowed) B (hts (.codeWith yL_allowed cL_allowed 4 (some .int) [(0, 16, 19, 19)]) List.mem_cons_self)
  have w_0 := hts (.classLink RL 19 "java/lang/IllegalArgumentException") (by decide +kernel)
  refine lv_aload_n hx hb dL_allowed_0 rfl (lv_at hl 2 rfl) ?_
  refine lv_iconst (v := 0) hx hb dL_allowed_1 (by decide) ?_
  refine lv_aload_n hx hb dL_allowed_2 rfl (lv_at hl 0 rfl) ?_
  refine lv_iload_n hx hb dL_allowed_3 rfl (lv_at hl 1 rfl) ?_
  have hPc := hP.sub (ws' := [(x, .inr (5, [.ref a1, .ref a2, .ref a3, .ref a4])), (a1, wT tC 5 fs), (a4, wS tC 5 gf), (f, .inr (3, [.ref e1, .ref e2, .int 5, .int 0])), (e1, wI tC 0 z1), ((qs 0), .inr (4, [.int 0, .int 1, .ref f, .int 0, .int (-1), .null, .int (-1), .null])), ((qs 1), .inr (4, [.int 1, .int 1, .ref f, .int 0, .int (-1), .null, .int (-1), .null])), ((qs 2), .inr (4, [.int 2, .int 1, .ref f, .int 0, .int (-1), .null, .int (-1), .null])), ((qs 3), .inr (4, [.int 3, .int 1, .ref f, .int 0, .int (-1), .null, .int (-1), .null])), ((qs 4), .inr (4, [.int 4, .int 1, .ref f, .int 0, .int (-1), .null, .int (-1), .null]))]) [0, 1, 2, 3, 4, 5, 6, 7, 8, 9] rfl
  have hDc := hD.sub (ws' := [(x, .inr (5, [.ref a1, .ref a2, .ref a3, .ref a4])), (a1, wT tC 5 fs), (a4, wS tC 5 gf), (f, .inr (3, [.ref e1, .ref e2, .int 5, .int 0])), (e1, wI tC 0 z1), ((qs 0), .inr (4, [.int 0, .int 1, .ref f, .int 0, .int (-1), .null, .int (-1), .null])), ((qs 1), .inr (4, [.int 1, .int 1, .ref f, .int 0, .int (-1), .null, .int (-1), .null])), ((qs 2), .inr (4, [.int 2, .int 1, .ref f, .int 0, .int (-1), .null, .int (-1), .null])), ((qs 3), .inr (4, [.int 3, .int 1, .ref f, .int 0, .int (-1), .null, .int (-1), .null])), ((qs 4), .inr (4, [.int 4, .int 1, .ref f, .int 0, .int (-1), .null, .int (-1), .null]))]) [0, 1, 2, 3, 4, 5, 6, 7, 8, 9] (by decide) rfl
  have hFc := va_free (wc := [(x, .inr (5, [.ref a1, .ref a2, .ref a3, .ref a4])), (a1, wT tC 5 fs), (a4, wS tC 5 gf), (f, .inr (3, [.ref e1, .ref e2, .int 5, .int 0])), (e1, wI tC 0 z1), ((qs 0), .inr (4, [.int 0, .int 1, .ref f, .int 0, .int (-1), .null, .int (-1), .null])), ((qs 1), .inr (4, [.int 1, .int 1, .ref f, .int 0, .int (-1), .null, .int (-1), .null])), ((qs 2), .inr (4, [.int 2, .int 1, .ref f, .int 0, .int (-1), .null, .int (-1), .null])), ((qs 3), .inr (4, [.int 3, .int 1, .ref f, .int 0, .int (-1), .null, .int (-1), .null])), ((qs 4), .inr (4, [.int 4, .int 1, .ref f, .int 0, .int (-1), .null, .int (-1), .null]))]) hD hS hA [0, 1, 2, 3, 4, 5, 6, 7, 8, 9] rfl
  refine vx_calli (vx_runV (As := [.int p0]) (rest := [.int 0, .ref o]) ⟨hx, hb, hml, hown, hts⟩ (c_X4_allowed l hlt D tC dz s.heap.size x a1 a2 a3 a4 fs qs gf p0 f e1 e2 z1 hfs) (cwV 1 hts gL_allowed_X4_allowed rfl rfl rfl (by decide +kernel) ⟨Nat.le_of_ble_eq_true rfl, Nat.le_of_ble_eq_true rfl⟩) ⟨pB_blind, va_recv hK hPc (ci := 5) (q0 := 0) rfl rfl, pB_at hPc hDc hK hN hE hS hFc⟩ rfl rfl hl.1 rfl (lv_room (Nat.le_of_ble_eq_true rfl)) dL_allowed_4 ⟨Nat.le_of_ble_eq_true rfl, Nat.le_of_ble_eq_true rfl⟩) hS (fun q _ h => hFc q h) hFc (fun q _ h => hFc q h) (fun E ce q9 u t H1 locs ht hvm hpx hPE hz1 hk1 hS hce hcv hcl => ?_) (fun r_1 u t H1 locs ht hvm hw hB hz1 hk1 hS => ?_)
  · skip
    obtain ⟨hP, hD⟩ := va_join (wr := [(o, wL tC 1 ov)]) (w1 := []) hP hD [0, 1, 2, 3, 4, 5, 6, 7, 8, 9] [10] rfl rfl (by decide) (by decide) hk1 hFc nilP nilD
    generalize H1 = H at hP hS hce ⊢
    have hP : va_P D vwCl [(o, wL tC 1 ov)] H := hP
    have hD : va_D A [(o, wL tC 1 ov)] := hD
    obtain ⟨rfl, h1⟩ := hPE
    refine hx_catch hown [] ⟨0, 16, 19, 19⟩ [] htab (fun _ h => absurd h List.not_mem_nil) (by decide) (by decide) w_0 (va_Nw.use rfl (hN.2.2.2.2.1 ("java/lang/IllegalArgumentException", "java/lang/IllegalArgumentException") (by decide +kernel))) hce hcv hcl ?_
    refine W.widen (k := 1) (n := 6) (by omega) (by omega) ?_
    refine lv_astore_n (lv' := [(3, .ref q9), (0, .ref x), (1, .int p0), (2, .ref o)]) hx hb dL_allowed_19 rfl hl (by decide) rfl (fun ls hl => ?_)
    refine lv_iconst (v := 1) hx hb dL_allowed_20 (by decide) ?_
    have hP9 := hP.sub (ws' := [(o, wL tC 1 ov)]) [0] rfl
    have hD9 := hD.sub (ws' := [(o, wL tC 1 ov)]) [0] (by decide) rfl
    refine W.widen (k := 1) (n := 6) (by omega) (by omega) ?_
    exact vx_ret (W.iret (v := 1) hx hb hr (fun t ht hW => ⟨⟨1, ov, rfl, ⟨(if_pos h1).symm, fun h => absurd h (by decide)⟩, (by rw [ht]; exact hP9), va_K.moved hW.alike hK, hD9⟩, hS.F ht⟩) hS.2.2 dL_allowed_21 hlocks)
  · skip
    obtain ⟨hP1, _, hD1⟩ := hB
    have hw_2 := hw
    rw [ht] at hP1
    obtain ⟨hP, hD⟩ := va_join (wr := [(o, wL tC 1 ov)]) (w1 := []) hP hD [0, 1, 2, 3, 4, 5, 6, 7, 8, 9] [10] rfl rfl (by decide) (by decide) hk1 hFc hP1 hD1
    generalize H1 = H at hP hS ⊢
    have hP : va_P D vwCl [(o, wL tC 1 ov)] H := hP
    have hD : va_D A [(o, wL tC 1 ov)] := hD
    refine W.widen (k := 1) (n := 6) (by omega) (by omega) ?_
    refine lv_if_eq (tgt := 14) hx hb dL_allowed_7 (by decide) (fun c_3 => ?_) (fun c_3 => ?_)
    · skip
      refine lv_lconst (v := 0) hx hb dL_allowed_14 (by decide) ?_
      refine va_last hx hb hK hP hD hS 0 5 rfl rfl (by unfold vp_in; decide) dL_allowed_15 (fun H locs hP hD hS => ?_)
      have hP : va_P D vwCl [(o, wL tC 1 (vp_updL ov 0 0))] H := hP
      have hD : va_D A [(o, wL tC 1 (vp_updL ov 0 0))] := hD
      refine lv_goto (tgt := 22) hx hb dL_allowed_16 (by decide) ?_
      refine lv_iconst (v := 0) hx hb dL_allowed_22 (by decide) ?_
      have hP9 := hP.sub (ws' := [(o, wL tC 1 (vp_updL ov 0 0))]) [0] rfl
      have hD9 := hD.sub (ws' := [(o, wL tC 1 (vp_updL ov 0 0))]) [0] (by decide) rfl
      refine W.widen (k := 1) (n := 6) (by omega) (by omega) ?_
      exact vx_ret (W.iret (v := 0) hx hb hr (fun t ht hW => ⟨⟨0, (vp_updL ov 0 0), rfl, ⟨(if_neg hw_2.2).symm, fun _ => (if_neg (bv0 hw_2.1 c_3)).symm⟩, (by rw [ht]; exact hP9), va_K.moved hW.alike hK, hD9⟩, hS.F ht⟩) hS.2.2 dL_allowed_23 hlocks)
    · skip
      refine lv_lconst (v := 1) hx hb dL_allowed_10 (by decide) ?_
      refine lv_goto (tgt := 15) hx hb dL_allowed_11 (by decide) ?_
      refine va_last hx hb hK hP hD hS 0 5 rfl rfl (by unfold vp_in; decide) dL_allowed_15 (fun H locs hP hD hS => ?_)
      have hP : va_P D vwCl [(o, wL tC 1 (vp_updL ov 0 1))] H := hP
      have hD : va_D A [(o, wL tC 1 (vp_updL ov 0 1))] := hD
      refine lv_goto (tgt := 22) hx hb dL_allowed_16 (by decide) ?_
      refine lv_iconst (v := 0) hx hb dL_allowed_22 (by decide) ?_
      have hP9 := hP.sub (ws' := [(o, wL tC 1 (vp_updL ov 0 1))]) [0] rfl
      have hD9 := hD.sub (ws' := [(o, wL tC 1 (vp_updL ov 0 1))]) [0] (by decide) rfl
      refine W.widen (k := 1) (n := 6) (by omega) (by omega) ?_
      exact vx_ret (W.iret (v := 0) hx hb hr (fun t ht hW => ⟨⟨0, (vp_updL ov 0 1), rfl, ⟨(if_neg hw_2.2).symm, fun _ => (if_pos (bv1 hw_2.1 c_3)).symm⟩, (by rw [ht]; exact hP9), va_K.moved hW.alike hK, hD9⟩, hS.F ht⟩) hS.2.2 dL_allowed_23 hlocks)
set_option maxHeartbeats 4000000 in
set_option maxRecDepth 100000 in
theorem c_X5_greatest (l : Launch) (hlt : l.stackTraces = false) (D : va_G) (tC : Nat → ClassId) (dz sz : Nat) (mo : Nat) (ma : Nat → Nat) (th : Int32) (af : Nat → Int32) (bt : Nat → Bool) (haf : ∀ j : Nat, j < 5 → af j = if bt j then 0 else -1) : Met l yX5_greatest wsX5_greatest ({ frames := 0, cells := 0, slots := 0, locals := 0 }) (va_Pc [.ref mo] (pB D tC dz [(mo, .inr (6, [.int th, .int 1, .ref (ma 2), .ref (ma 3), .ref (ma 4), .ref (ma 5), .ref (ma 6), .ref (ma 7), .ref (ma 8), .ref (ma 9), .ref (ma 10), .ref (ma 11), .ref (ma 12), .ref (ma 13), .ref (ma 14), .ref (ma 15), .ref (ma 16), .ref (ma 17), .ref (ma 18), .ref (ma 19), .ref (ma 20), .ref (ma 21), .int 0, .ref (ma 23), .ref (ma 24), .ref (ma 25), .ref (ma 26), .ref (ma 27), .ref (ma 28)])), ((ma 28), wI tC 5 af), ((ma 2), wI tC 600 (fun _ => 0))] sz)) (va_Qi (fun (r : Int32) (_ : Unit) => r = if (bt 0 || bt 1 || bt 2 || bt 3 || bt 4) then 0 else -1) (fun (_ : Unit) t => pA D tC (va_A [(mo, .inr (6, [.int th, .int 1, .ref (ma 2), .ref (ma 3), .ref (ma 4), .ref (ma 5), .ref (ma 6), .ref (ma 7), .ref (ma 8), .ref (ma 9), .ref (ma 10), .ref (ma 11), .ref (ma 12), .ref (ma 13), .ref (ma 14), .ref (ma 15), .ref (ma 16), .ref (ma 17), .ref (ma 18), .ref (ma 19), .ref (ma 20), .ref (ma 21), .int 0, .ref (ma 23), .ref (ma 24), .ref (ma 25), .ref (ma 26), .ref (ma 27), .ref (ma 28)])), ((ma 28), wI tC 5 af), ((ma 2), wI tC 600 (fun _ => 0))] sz) [(mo, .inr (6, [.int th, .int 1, .ref (ma 2), .ref (ma 3), .ref (ma 4), .ref (ma 5), .ref (ma 6), .ref (ma 7), .ref (ma 8), .ref (ma 9), .ref (ma 10), .ref (ma 11), .ref (ma 12), .ref (ma 13), .ref (ma 14), .ref (ma 15), .ref (ma 16), .ref (ma 17), .ref (ma 18), .ref (ma 19), .ref (ma 20), .ref (ma 21), .int 0, .ref (ma 23), .ref (ma 24), .ref (ma 25), .ref (ma 26), .ref (ma 27), .ref (ma 28)])), ((ma 28), wI tC 5 af), ((ma 2), wI tC 600 (fun _ => 0))] t) (va_A [(mo, .inr (6, [.int th, .int 1, .ref (ma 2), .ref (ma 3), .ref (ma 4), .ref (ma 5), .ref (ma 6), .ref (ma 7), .ref (ma 8), .ref (ma 9), .ref (ma 10), .ref (ma 11), .ref (ma 12), .ref (ma 13), .ref (ma 14), .ref (ma 15), .ref (ma 16), .ref (ma 17), .ref (ma 18), .ref (ma 19), .ref (ma 20), .ref (ma 21), .int 0, .ref (ma 23), .ref (ma 24), .ref (ma 25), .ref (ma 26), .ref (ma 27), .ref (ma 28)])), ((ma 28), wI tC 5 af), ((ma 2), wI tC 600 (fun _ => 0))] sz)) 0 0 (va_A [(mo, .inr (6, [.int th, .int 1, .ref (ma 2), .ref (ma 3), .ref (ma 4), .ref (ma 5), .ref (ma 6), .ref (ma 7), .ref (ma 8), .ref (ma 9), .ref (ma 10), .ref (ma 11), .ref (ma 12), .ref (ma 13), .ref (ma 14), .ref (ma 15), .ref (ma 16), .ref (ma 17), .ref (ma 18), .ref (ma 19), .ref (ma 20), .ref (ma 21), .int 0, .ref (ma 23), .ref (ma 24), .ref (ma 25), .ref (ma 26), .ref (ma 27), .ref (ma 28)])), ((ma 28), wI tC 5 af), ((ma 2), wI tC 600 (fun _ => 0))] sz) := by
  refine Met.ofW (cc := cX5_greatest) (maxL := 3) (ret := (some .int)) (by decide) rfl ?_
  intro p e s m args below meth c s₁ B hml hv
  obtain ⟨rfl, hsz, hP, hK, hD0, hN, hE⟩ := hv
  have hx := B.exec
  have hb := B.bytes
  have hr := B.returns
  have hts := atoms_spec (ws := wsX5_greatest) B.pre
  have hown : s.vm.findClass RX5 = some m.cls := findClass_of_methodNamed B.named
  have hlocks := B.notSynchronized
  subst hsz
  have hD := hD0.self (sz := s.heap.size)
  generalize hAe : va_A [(mo, .inr (6, [.int th, .int 1, .ref (ma 2), .ref (ma 3), .ref (ma 4), .ref (ma 5), .ref (ma 6), .ref (ma 7), .ref (ma 8), .ref (ma 9), .ref (ma 10), .ref (ma 11), .ref (ma 12), .ref (ma 13), .ref (ma 14), .ref (ma 15), .ref (ma 16), .ref (ma 17), .ref (ma 18), .ref (ma 19), .ref (ma 20), .ref (ma 21), .int 0, .ref (ma 23), .ref (ma 24), .ref (ma 25), .ref (ma 26), .ref (ma 27), .ref (ma 28)])), ((ma 28), wI tC 5 af), ((ma 2), wI tC 600 (fun _ => 0))] s.heap.size = A at hD hE ⊢
  have hA : ∀ q : Nat, s.heap.size ≤ q → A q := fun q h => by rw [← hAe]; exact Or.inr h
  have hS : va_S A s.heap s.heap [] := va_S.rf
  have hP : va_P D vwCl [(mo, .inr (6, [.int th, .int 1, .ref (ma 2), .ref (ma 3), .ref (ma 4), .ref (ma 5), .ref (ma 6), .ref (ma 7), .ref (ma 8), .ref (ma 9), .ref (ma 10), .ref (ma 11), .ref (ma 12), .ref (ma 13), .ref (ma 14), .ref (ma 15), .ref (ma 16), .ref (ma 17), .ref (ma 18), .ref (ma 19), .ref (ma 20), .ref (ma 21), .int 0, .ref (ma 23), .ref (ma 24), .ref (ma 25), .ref (ma 26), .ref (ma 27), .ref (ma 28)])), ((ma 28), wI tC 5 af), ((ma 2), wI tC 600 (fun _ => 0))] s.heap := hP
  have hl := lv_entry ([.ref mo]) (n := 3) (Nat.le_of_ble_eq_true rfl)
  rw [lg_entry_eq]
  generalize (lg_sl ([.ref mo]) ++ List.replicate (3 - (lg_sl ([.ref mo])).length) Slot.unset).toArray = ls at hl ⊢
  have hl : lv_has ls 3 [(0, .ref mo)] := hl
  have w_0 := hts (.fieldLink RX5 90 "NoticeStationsModel" "asked" "[I") (by decide +kernel)
  have w_1 := hts (.fieldLink RX5 13 "NoticeStationsModel" "length" "[I") (by decide +kernel)
  refine lv_iconst (v := (-1)) hx hb dX5_greatest_0 (by decide) ?_
  refine lv_istore_n (lv' := [(1, .int (-1)), (0, .ref mo)]) hx hb dX5_greatest_1 rfl hl (by decide) rfl (fun ls hl => ?_)
  refine lv_iconst (v := 0) hx hb dX5_greatest_2 (by decide) ?_
  refine lv_istore_n (lv' := [(2, .int 0), (1, .int (-1)), (0, .ref mo)]) hx hb dX5_greatest_3 rfl hl (by decide) rfl (fun ls hl => ?_)
  cases hb0 : bt 0
  · skip
    refine lv_iload_n hx hb dX5_greatest_4 rfl (lv_at hl 0 rfl) ?_
    refine lv_iconst (v := 5) hx hb dX5_greatest_5 (by decide) ?_
    refine lv_icmp_ge (tgt := 59) hx hb dX5_greatest_6 (by decide) (fun hc => absurd hc (by decide)) (fun _ => ?_)
    refine lv_aload_n hx hb dX5_greatest_9 rfl (lv_at hl 2 rfl) ?_
    refine va_get (D := D) (ci := 6) (v := .ref (ma 28)) (C := RX5) (T := TX5) (N := 29) hx hb hts in_X5_greatest_X5 hown hK hP 0 rfl rfl 28 (by decide) w_0 (fun _ h9 => h9) rfl dX5_greatest_10 ?_
    refine lv_iload_n hx hb dX5_greatest_13 rfl (lv_at hl 0 rfl) ?_
    refine va_iald hx hb hK hP 1 0 rfl rfl (by unfold vp_in; decide) dX5_greatest_14 ?_
    refine lv_topi (fun z_1 ez_1 => ?_)
    have fz_1 : z_1 = (-1) := ez_1.trans (by rw [show (0 : Int32).toNatClampNeg = 0 by decide, haf 0 (by decide), hb0] <;> rfl)
    subst fz_1
    refine lv_if_lt (tgt := 51) hx hb dX5_greatest_15 (by decide) (fun _ => ?_) (fun hc => absurd (by decide) hc)
    refine lv_iload_n hx hb dX5_greatest_51 rfl (lv_at hl 1 rfl) ?_
    refine lv_istore_n (lv' := [(1, .int (-1)), (2, .int 0), (0, .ref mo)]) hx hb dX5_greatest_52 rfl hl (by decide) rfl (fun ls hl => ?_)
    refine lv_iinc (v := 1) (lv' := [(2, .int 1), (1, .int (-1)), (0, .ref mo)]) hx hb dX5_greatest_53 hl (k := 1) rfl (by decide) (by decide) rfl (fun ls hl => ?_)
    refine lv_goto (tgt := 4) hx hb dX5_greatest_56 (by decide) ?_
    cases hb1 : bt 1
    · skip
      refine lv_iload_n hx hb dX5_greatest_4 rfl (lv_at hl 0 rfl) ?_
      refine lv_iconst (v := 5) hx hb dX5_greatest_5 (by decide) ?_
      refine lv_icmp_ge (tgt := 59) hx hb dX5_greatest_6 (by decide) (fun hc => absurd hc (by decide)) (fun _ => ?_)
      refine lv_aload_n hx hb dX5_greatest_9 rfl (lv_at hl 2 rfl) ?_
      refine va_get (D := D) (ci := 6) (v := .ref (ma 28)) (C := RX5) (T := TX5) (N := 29) hx hb hts in_X5_greatest_X5 hown hK hP 0 rfl rfl 28 (by decide) w_0 (fun _ h9 => h9) rfl dX5_greatest_10 ?_
      refine lv_iload_n hx hb dX5_greatest_13 rfl (lv_at hl 0 rfl) ?_
      refine va_iald hx hb hK hP 1 0 rfl rfl (by unfold vp_in; decide) dX5_greatest_14 ?_
      refine lv_topi (fun z_2 ez_2 => ?_)
      have fz_2 : z_2 = (-1) := ez_2.trans (by rw [show (1 : Int32).toNatClampNeg = 1 by decide, haf 1 (by decide), hb1] <;> rfl)
      subst fz_2
      refine lv_if_lt (tgt := 51) hx hb dX5_greatest_15 (by decide) (fun _ => ?_) (fun hc => absurd (by decide) hc)
      refine lv_iload_n hx hb dX5_greatest_51 rfl (lv_at hl 1 rfl) ?_
      refine lv_istore_n (lv' := [(1, .int (-1)), (2, .int 1), (0, .ref mo)]) hx hb dX5_greatest_52 rfl hl (by decide) rfl (fun ls hl => ?_)
      refine lv_iinc (v := 2) (lv' := [(2, .int 2), (1, .int (-1)), (0, .ref mo)]) hx hb dX5_greatest_53 hl (k := 1) rfl (by decide) (by decide) rfl (fun ls hl => ?_)
      refine lv_goto (tgt := 4) hx hb dX5_greatest_56 (by decide) ?_
      cases hb2 : bt 2
      · skip
        refine lv_iload_n hx hb dX5_greatest_4 rfl (lv_at hl 0 rfl) ?_
        refine lv_iconst (v := 5) hx hb dX5_greatest_5 (by decide) ?_
        refine lv_icmp_ge (tgt := 59) hx hb dX5_greatest_6 (by decide) (fun hc => absurd hc (by decide)) (fun _ => ?_)
        refine lv_aload_n hx hb dX5_greatest_9 rfl (lv_at hl 2 rfl) ?_
        refine va_get (D := D) (ci := 6) (v := .ref (ma 28)) (C := RX5) (T := TX5) (N := 29) hx hb hts in_X5_greatest_X5 hown hK hP 0 rfl rfl 28 (by decide) w_0 (fun _ h9 => h9) rfl dX5_greatest_10 ?_
        refine lv_iload_n hx hb dX5_greatest_13 rfl (lv_at hl 0 rfl) ?_
        refine va_iald hx hb hK hP 1 0 rfl rfl (by unfold vp_in; decide) dX5_greatest_14 ?_
        refine lv_topi (fun z_3 ez_3 => ?_)
        have fz_3 : z_3 = (-1) := ez_3.trans (by rw [show (2 : Int32).toNatClampNeg = 2 by decide, haf 2 (by decide), hb2] <;> rfl)
        subst fz_3
        refine lv_if_lt (tgt := 51) hx hb dX5_greatest_15 (by decide) (fun _ => ?_) (fun hc => absurd (by decide) hc)
        refine lv_iload_n hx hb dX5_greatest_51 rfl (lv_at hl 1 rfl) ?_
        refine lv_istore_n (lv' := [(1, .int (-1)), (2, .int 2), (0, .ref mo)]) hx hb dX5_greatest_52 rfl hl (by decide) rfl (fun ls hl => ?_)
        refine lv_iinc (v := 3) (lv' := [(2, .int 3), (1, .int (-1)), (0, .ref mo)]) hx hb dX5_greatest_53 hl (k := 1) rfl (by decide) (by decide) rfl (fun ls hl => ?_)
        refine lv_goto (tgt := 4) hx hb dX5_greatest_56 (by decide) ?_
        cases hb3 : bt 3
        · skip
          refine lv_iload_n hx hb dX5_greatest_4 rfl (lv_at hl 0 rfl) ?_
          refine lv_iconst (v := 5) hx hb dX5_greatest_5 (by decide) ?_
          refine lv_icmp_ge (tgt := 59) hx hb dX5_greatest_6 (by decide) (fun hc => absurd hc (by decide)) (fun _ => ?_)
          refine lv_aload_n hx hb dX5_greatest_9 rfl (lv_at hl 2 rfl) ?_
          refine va_get (D := D) (ci := 6) (v := .ref (ma 28)) (C := RX5) (T := TX5) (N := 29) hx hb hts in_X5_greatest_X5 hown hK hP 0 rfl rfl 28 (by decide) w_0 (fun _ h9 => h9) rfl dX5_greatest_10 ?_
          refine lv_iload_n hx hb dX5_greatest_13 rfl (lv_at hl 0 rfl) ?_
          refine va_iald hx hb hK hP 1 0 rfl rfl (by unfold vp_in; decide) dX5_greatest_14 ?_
          refine lv_topi (fun z_4 ez_4 => ?_)
          have fz_4 : z_4 = (-1) := ez_4.trans (by rw [show (3 : Int32).toNatClampNeg = 3 by decide, haf 3 (by decide), hb3] <;> rfl)
          subst fz_4
          refine lv_if_lt (tgt := 51) hx hb dX5_greatest_15 (by decide) (fun _ => ?_) (fun hc => absurd (by decide) hc)
          refine lv_iload_n hx hb dX5_greatest_51 rfl (lv_at hl 1 rfl) ?_
          refine lv_istore_n (lv' := [(1, .int (-1)), (2, .int 3), (0, .ref mo)]) hx hb dX5_greatest_52 rfl hl (by decide) rfl (fun ls hl => ?_)
          refine lv_iinc (v := 4) (lv' := [(2, .int 4), (1, .int (-1)), (0, .ref mo)]) hx hb dX5_greatest_53 hl (k := 1) rfl (by decide) (by decide) rfl (fun ls hl => ?_)
          refine lv_goto (tgt := 4) hx hb dX5_greatest_56 (by decide) ?_
          cases hb4 : bt 4
          · skip
            refine lv_iload_n hx hb dX5_greatest_4 rfl (lv_at hl 0 rfl) ?_
            refine lv_iconst (v := 5) hx hb dX5_greatest_5 (by decide) ?_
            refine lv_icmp_ge (tgt := 59) hx hb dX5_greatest_6 (by decide) (fun hc => absurd hc (by decide)) (fun _ => ?_)
            refine lv_aload_n hx hb dX5_greatest_9 rfl (lv_at hl 2 rfl) ?_
            refine va_get (D := D) (ci := 6) (v := .ref (ma 28)) (C := RX5) (T := TX5) (N := 29) hx hb hts in_X5_greatest_X5 hown hK hP 0 rfl rfl 28 (by decide) w_0 (fun _ h9 => h9) rfl dX5_greatest_10 ?_
            refine lv_iload_n hx hb dX5_greatest_13 rfl (lv_at hl 0 rfl) ?_
            refine va_iald hx hb hK hP 1 0 rfl rfl (by unfold vp_in; decide) dX5_greatest_14 ?_
            refine lv_topi (fun z_5 ez_5 => ?_)
            have fz_5 : z_5 = (-1) := ez_5.trans (by rw [show (4 : Int32).toNatClampNeg = 4 by decide, haf 4 (by decide), hb4] <;> rfl)
            subst fz_5
            refine lv_if_lt (tgt := 51) hx hb dX5_greatest_15 (by decide) (fun _ => ?_) (fun hc => absurd (by decide) hc)
            refine lv_iload_n hx hb dX5_greatest_51 rfl (lv_at hl 1 rfl) ?_
            refine lv_istore_n (lv' := [(1, .int (-1)), (2, .int 4), (0, .ref mo)]) hx hb dX5_greatest_52 rfl hl (by decide) rfl (fun ls hl => ?_)
            refine lv_iinc (v := 5) (lv' := [(2, .int 5), (1, .int (-1)), (0, .ref mo)]) hx hb dX5_greatest_53 hl (k := 1) rfl (by decide) (by decide) rfl (fun ls hl => ?_)
            refine lv_goto (tgt := 4) hx hb dX5_greatest_56 (by decide) ?_
            refine lv_iload_n hx hb dX5_greatest_4 rfl (lv_at hl 0 rfl) ?_
            refine lv_iconst (v := 5) hx hb dX5_greatest_5 (by decide) ?_
            refine lv_icmp_ge (tgt := 59) hx hb dX5_greatest_6 (by decide) (fun _ => ?_) (fun hc => absurd (by decide) hc)
            refine lv_iload_n hx hb dX5_greatest_59 rfl (lv_at hl 1 rfl) ?_
            have hP9 := hP.sub (ws' := [(mo, .inr (6, [.int th, .int 1, .ref (ma 2), .ref (ma 3), .ref (ma 4), .ref (ma 5), .ref (ma 6), .ref (ma 7), .ref (ma 8), .ref (ma 9), .ref (ma 10), .ref (ma 11), .ref (ma 12), .ref (ma 13), .ref (ma 14), .ref (ma 15), .ref (ma 16), .ref (ma 17), .ref (ma 18), .ref (ma 19), .ref (ma 20), .ref (ma 21), .int 0, .ref (ma 23), .ref (ma 24), .ref (ma 25), .ref (ma 26), .ref (ma 27), .ref (ma 28)])), ((ma 28), wI tC 5 af), ((ma 2), wI tC 600 (fun _ => 0))]) [0, 1, 2] rfl
            have hD9 := hD.sub (ws' := [(mo, .inr (6, [.int th, .int 1, .ref (ma 2), .ref (ma 3), .ref (ma 4), .ref (ma 5), .ref (ma 6), .ref (ma 7), .ref (ma 8), .ref (ma 9), .ref (ma 10), .ref (ma 11), .ref (ma 12), .ref (ma 13), .ref (ma 14), .ref (ma 15), .ref (ma 16), .ref (ma 17), .ref (ma 18), .ref (ma 19), .ref (ma 20), .ref (ma 21), .int 0, .ref (ma 23), .ref (ma 24), .ref (ma 25), .ref (ma 26), .ref (ma 27), .ref (ma 28)])), ((ma 28), wI tC 5 af), ((ma 2), wI tC 600 (fun _ => 0))]) [0, 1, 2] (by decide) rfl
            refine W.widen (k := 0) (n := 0) (by omega) (by omega) ?_
            exact W.iret (v := (-1)) hx hb hr (fun t ht hW => ⟨⟨(-1), (), rfl, rfl, (by rw [ht]; exact hP9), va_K.moved hW.alike hK, hD9⟩, hS.F ht⟩) hS.2.2 dX5_greatest_60 hlocks
          · skip
            refine lv_iload_n hx hb dX5_greatest_4 rfl (lv_at hl 0 rfl) ?_
            refine lv_iconst (v := 5) hx hb dX5_greatest_5 (by decide) ?_
            refine lv_icmp_ge (tgt := 59) hx hb dX5_greatest_6 (by decide) (fun hc => absurd hc (by decide)) (fun _ => ?_)
            refine lv_aload_n hx hb dX5_greatest_9 rfl (lv_at hl 2 rfl) ?_
            refine va_get (D := D) (ci := 6) (v := .ref (ma 28)) (C := RX5) (T := TX5) (N := 29) hx hb hts in_X5_greatest_X5 hown hK hP 0 rfl rfl 28 (by decide) w_0 (fun _ h9 => h9) rfl dX5_greatest_10 ?_
            refine lv_iload_n hx hb dX5_greatest_13 rfl (lv_at hl 0 rfl) ?_
            refine va_iald hx hb hK hP 1 0 rfl rfl (by unfold vp_in; decide) dX5_greatest_14 ?_
            refine lv_topi (fun z_6 ez_6 => ?_)
            have fz_6 : z_6 = 0 := ez_6.trans (by rw [show (4 : Int32).toNatClampNeg = 4 by decide, haf 4 (by decide), hb4] <;> rfl)
            subst fz_6
            refine lv_if_lt (tgt := 51) hx hb dX5_greatest_15 (by decide) (fun hc => absurd hc (by decide)) (fun _ => ?_)
            refine lv_iload_n hx hb dX5_greatest_18 rfl (lv_at hl 1 rfl) ?_
            refine lv_if_lt (tgt := 42) hx hb dX5_greatest_19 (by decide) (fun _ => ?_) (fun hc => absurd (by decide) hc)
            refine lv_aload_n hx hb dX5_greatest_42 rfl (lv_at hl 2 rfl) ?_
            refine va_get (D := D) (ci := 6) (v := .ref (ma 28)) (C := RX5) (T := TX5) (N := 29) hx hb hts in_X5_greatest_X5 hown hK hP 0 rfl rfl 28 (by decide) w_0 (fun _ h9 => h9) rfl dX5_greatest_43 ?_
            refine lv_iload_n hx hb dX5_greatest_46 rfl (lv_at hl 0 rfl) ?_
            refine va_iald hx hb hK hP 1 0 rfl rfl (by unfold vp_in; decide) dX5_greatest_47 ?_
            refine lv_topi (fun z_7 ez_7 => ?_)
            have fz_7 : z_7 = 0 := ez_7.trans (by rw [show (4 : Int32).toNatClampNeg = 4 by decide, haf 4 (by decide), hb4] <;> rfl)
            subst fz_7
            refine lv_goto (tgt := 52) hx hb dX5_greatest_48 (by decide) ?_
            refine lv_istore_n (lv' := [(1, .int 0), (2, .int 4), (0, .ref mo)]) hx hb dX5_greatest_52 rfl hl (by decide) rfl (fun ls hl => ?_)
            refine lv_iinc (v := 5) (lv' := [(2, .int 5), (1, .int 0), (0, .ref mo)]) hx hb dX5_greatest_53 hl (k := 1) rfl (by decide) (by decide) rfl (fun ls hl => ?_)
            refine lv_goto (tgt := 4) hx hb dX5_greatest_56 (by decide) ?_
            refine lv_iload_n hx hb dX5_greatest_4 rfl (lv_at hl 0 rfl) ?_
            refine lv_iconst (v := 5) hx hb dX5_greatest_5 (by decide) ?_
            refine lv_icmp_ge (tgt := 59) hx hb dX5_greatest_6 (by decide) (fun _ => ?_) (fun hc => absurd (by decide) hc)
            refine lv_iload_n hx hb dX5_greatest_59 rfl (lv_at hl 1 rfl) ?_
            have hP9 := hP.sub (ws' := [(mo, .inr (6, [.int th, .int 1, .ref (ma 2), .ref (ma 3), .ref (ma 4), .ref (ma 5), .ref (ma 6), .ref (ma 7), .ref (ma 8), .ref (ma 9), .ref (ma 10), .ref (ma 11), .ref (ma 12), .ref (ma 13), .ref (ma 14), .ref (ma 15), .ref (ma 16), .ref (ma 17), .ref (ma 18), .ref (ma 19), .ref (ma 20), .ref (ma 21), .int 0, .ref (ma 23), .ref (ma 24), .ref (ma 25), .ref (ma 26), .ref (ma 27), .ref (ma 28)])), ((ma 28), wI tC 5 af), ((ma 2), wI tC 600 (fun _ => 0))]) [0, 1, 2] rfl
            have hD9 := hD.sub (ws' := [(mo, .inr (6, [.int th, .int 1, .ref (ma 2), .ref (ma 3), .ref (ma 4), .ref (ma 5), .ref (ma 6), .ref (ma 7), .ref (ma 8), .ref (ma 9), .ref (ma 10), .ref (ma 11), .ref (ma 12), .ref (ma 13), .ref (ma 14), .ref (ma 15), .ref (ma 16), .ref (ma 17), .ref (ma 18), .ref (ma 19), .ref (ma 20), .ref (ma 21), .int 0, .ref (ma 23), .ref (ma 24), .ref (ma 25), .ref (ma 26), .ref (ma 27), .ref (ma 28)])), ((ma 28), wI tC 5 af), ((ma 2), wI tC 600 (fun _ => 0))]) [0, 1, 2] (by decide) rfl
            refine W.widen (k := 0) (n := 0) (by omega) (by omega) ?_
            exact W.iret (v := 0) hx hb hr (fun t ht hW => ⟨⟨0, (), rfl, rfl, (by rw [ht]; exact hP9), va_K.moved hW.alike hK, hD9⟩, hS.F ht⟩) hS.2.2 dX5_greatest_60 hlocks
        · skip
          refine lv_iload_n hx hb dX5_greatest_4 rfl (lv_at hl 0 rfl) ?_
          refine lv_iconst (v := 5) hx hb dX5_greatest_5 (by decide) ?_
          refine lv_icmp_ge (tgt := 59) hx hb dX5_greatest_6 (by decide) (fun hc => absurd hc (by decide)) (fun _ => ?_)
          refine lv_aload_n hx hb dX5_greatest_9 rfl (lv_at hl 2 rfl) ?_
          refine va_get (D := D) (ci := 6) (v := .ref (ma 28)) (C := RX5) (T := TX5) (N := 29) hx hb hts in_X5_greatest_X5 hown hK hP 0 rfl rfl 28 (by decide) w_0 (fun _ h9 => h9) rfl dX5_greatest_10 ?_
          refine lv_iload_n hx hb dX5_greatest_13 rfl (lv_at hl 0 rfl) ?_
          refine va_iald hx hb hK hP 1 0 rfl rfl (by unfold vp_in; decide) dX5_greatest_14 ?_
          refine lv_topi (fun z_8 ez_8 => ?_)
          have fz_8 : z_8 = 0 := ez_8.trans (by rw [show (3 : Int32).toNatClampNeg = 3 by decide, haf 3 (by decide), hb3] <;> rfl)
          subst fz_8
          refine lv_if_lt (tgt := 51) hx hb dX5_greatest_15 (by decide) (fun hc => absurd hc (by decide)) (fun _ => ?_)
          refine lv_iload_n hx hb dX5_greatest_18 rfl (lv_at hl 1 rfl) ?_
          refine lv_if_lt (tgt := 42) hx hb dX5_greatest_19 (by decide) (fun _ => ?_) (fun hc => absurd (by decide) hc)
          refine lv_aload_n hx hb dX5_greatest_42 rfl (lv_at hl 2 rfl) ?_
          refine va_get (D := D) (ci := 6) (v := .ref (ma 28)) (C := RX5) (T := TX5) (N := 29) hx hb hts in_X5_greatest_X5 hown hK hP 0 rfl rfl 28 (by decide) w_0 (fun _ h9 => h9) rfl dX5_greatest_43 ?_
          refine lv_iload_n hx hb dX5_greatest_46 rfl (lv_at hl 0 rfl) ?_
          refine va_iald hx hb hK hP 1 0 rfl rfl (by unfold vp_in; decide) dX5_greatest_47 ?_
          refine lv_topi (fun z_9 ez_9 => ?_)
          have fz_9 : z_9 = 0 := ez_9.trans (by rw [show (3 : Int32).toNatClampNeg = 3 by decide, haf 3 (by decide), hb3] <;> rfl)
          subst fz_9
          refine lv_goto (tgt := 52) hx hb dX5_greatest_48 (by decide) ?_
          refine lv_istore_n (lv' := [(1, .int 0), (2, .int 3), (0, .ref mo)]) hx hb dX5_greatest_52 rfl hl (by decide) rfl (fun ls hl => ?_)
          refine lv_iinc (v := 4) (lv' := [(2, .int 4), (1, .int 0), (0, .ref mo)]) hx hb dX5_greatest_53 hl (k := 1) rfl (by decide) (by decide) rfl (fun ls hl => ?_)
          refine lv_goto (tgt := 4) hx hb dX5_greatest_56 (by decide) ?_
          cases hb4 : bt 4
          · skip
            refine lv_iload_n hx hb dX5_greatest_4 rfl (lv_at hl 0 rfl) ?_
            refine lv_iconst (v := 5) hx hb dX5_greatest_5 (by decide) ?_
            refine lv_icmp_ge (tgt := 59) hx hb dX5_greatest_6 (by decide) (fun hc => absurd hc (by decide)) (fun _ => ?_)
            refine lv_aload_n hx hb dX5_greatest_9 rfl (lv_at hl 2 rfl) ?_
            refine va_get (D := D) (ci := 6) (v := .ref (ma 28)) (C := RX5) (T := TX5) (N := 29) hx hb hts in_X5_greatest_X5 hown hK hP 0 rfl rfl 28 (by decide) w_0 (fun _ h9 => h9) rfl dX5_greatest_10 ?_
            refine lv_iload_n hx hb dX5_greatest_13 rfl (lv_at hl 0 rfl) ?_
            refine va_iald hx hb hK hP 1 0 rfl rfl (by unfold vp_in; decide) dX5_greatest_14 ?_
            refine lv_topi (fun z_10 ez_10 => ?_)
            have fz_10 : z_10 = (-1) := ez_10.trans (by rw [show (4 : Int32).toNatClampNeg = 4 by decide, haf 4 (by decide), hb4] <;> rfl)
            subst fz_10
            refine lv_if_lt (tgt := 51) hx hb dX5_greatest_15 (by decide) (fun _ => ?_) (fun hc => absurd (by decide) hc)
            refine lv_iload_n hx hb dX5_greatest_51 rfl (lv_at hl 1 rfl) ?_
            refine lv_istore_n (lv' := [(1, .int 0), (2, .int 4), (0, .ref mo)]) hx hb dX5_greatest_52 rfl hl (by decide) rfl (fun ls hl => ?_)
            refine lv_iinc (v := 5) (lv' := [(2, .int 5), (1, .int 0), (0, .ref mo)]) hx hb dX5_greatest_53 hl (k := 1) rfl (by decide) (by decide) rfl (fun ls hl => ?_)
            refine lv_goto (tgt := 4) hx hb dX5_greatest_56 (by decide) ?_
            refine lv_iload_n hx hb dX5_greatest_4 rfl (lv_at hl 0 rfl) ?_
            refine lv_iconst (v := 5) hx hb dX5_greatest_5 (by decide) ?_
            refine lv_icmp_ge (tgt := 59) hx hb dX5_greatest_6 (by decide) (fun _ => ?_) (fun hc => absurd (by decide) hc)
            refine lv_iload_n hx hb dX5_greatest_59 rfl (lv_at hl 1 rfl) ?_
            have hP9 := hP.sub (ws' := [(mo, .inr (6, [.int th, .int 1, .ref (ma 2), .ref (ma 3), .ref (ma 4), .ref (ma 5), .ref (ma 6), .ref (ma 7), .ref (ma 8), .ref (ma 9), .ref (ma 10), .ref (ma 11), .ref (ma 12), .ref (ma 13), .ref (ma 14), .ref (ma 15), .ref (ma 16), .ref (ma 17), .ref (ma 18), .ref (ma 19), .ref (ma 20), .ref (ma 21), .int 0, .ref (ma 23), .ref (ma 24), .ref (ma 25), .ref (ma 26), .ref (ma 27), .ref (ma 28)])), ((ma 28), wI tC 5 af), ((ma 2), wI tC 600 (fun _ => 0))]) [0, 1, 2] rfl
            have hD9 := hD.sub (ws' := [(mo, .inr (6, [.int th, .int 1, .ref (ma 2), .ref (ma 3), .ref (ma 4), .ref (ma 5), .ref (ma 6), .ref (ma 7), .ref (ma 8), .ref (ma 9), .ref (ma 10), .ref (ma 11), .ref (ma 12), .ref (ma 13), .ref (ma 14), .ref (ma 15), .ref (ma 16), .ref (ma 17), .ref (ma 18), .ref (ma 19), .ref (ma 20), .ref (ma 21), .int 0, .ref (ma 23), .ref (ma 24), .ref (ma 25), .ref (ma 26), .ref (ma 27), .ref (ma 28)])), ((ma 28), wI tC 5 af), ((ma 2), wI tC 600 (fun _ => 0))]) [0, 1, 2] (by decide) rfl
            refine W.widen (k := 0) (n := 0) (by omega) (by omega) ?_
            exact W.iret (v := 0) hx hb hr (fun t ht hW => ⟨⟨0, (), rfl, rfl, (by rw [ht]; exact hP9), va_K.moved hW.alike hK, hD9⟩, hS.F ht⟩) hS.2.2 dX5_greatest_60 hlocks
          · skip
            refine lv_iload_n hx hb dX5_greatest_4 rfl (lv_at hl 0 rfl) ?_
            refine lv_iconst (v := 5) hx hb dX5_greatest_5 (by decide) ?_
            refine lv_icmp_ge (tgt := 59) hx hb dX5_greatest_6 (by decide) (fun hc => absurd hc (by decide)) (fun _ => ?_)
            refine lv_aload_n hx hb dX5_greatest_9 rfl (lv_at hl 2 rfl) ?_
            refine va_get (D := D) (ci := 6) (v := .ref (ma 28)) (C := RX5) (T := TX5) (N := 29) hx hb hts in_X5_greatest_X5 hown hK hP 0 rfl rfl 28 (by decide) w_0 (fun _ h9 => h9) rfl dX5_greatest_10 ?_
            refine lv_iload_n hx hb dX5_greatest_13 rfl (lv_at hl 0 rfl) ?_
            refine va_iald hx hb hK hP 1 0 rfl rfl (by unfold vp_in; decide) dX5_greatest_14 ?_
            refine lv_topi (fun z_11 ez_11 => ?_)
            have fz_11 : z_11 = 0 := ez_11.trans (by rw [show (4 : Int32).toNatClampNeg = 4 by decide, haf 4 (by decide), hb4] <;> rfl)
            subst fz_11
            refine lv_if_lt (tgt := 51) hx hb dX5_greatest_15 (by decide) (fun hc => absurd hc (by decide)) (fun _ => ?_)
            refine lv_iload_n hx hb dX5_greatest_18 rfl (lv_at hl 1 rfl) ?_
            refine lv_if_lt (tgt := 42) hx hb dX5_greatest_19 (by decide) (fun hc => absurd hc (by decide)) (fun _ => ?_)
            refine lv_aload_n hx hb dX5_greatest_22 rfl (lv_at hl 2 rfl) ?_
            refine va_get (D := D) (ci := 6) (v := .ref (ma 2)) (C := RX5) (T := TX5) (N := 29) hx hb hts in_X5_greatest_X5 hown hK hP 0 rfl rfl 2 (by decide) w_1 (fun _ h9 => h9) rfl dX5_greatest_23 ?_
            refine lv_aload_n hx hb dX5_greatest_26 rfl (lv_at hl 2 rfl) ?_
            refine va_get (D := D) (ci := 6) (v := .ref (ma 28)) (C := RX5) (T := TX5) (N := 29) hx hb hts in_X5_greatest_X5 hown hK hP 0 rfl rfl 28 (by decide) w_0 (fun _ h9 => h9) rfl dX5_greatest_27 ?_
            refine lv_iload_n hx hb dX5_greatest_30 rfl (lv_at hl 0 rfl) ?_
            refine va_iald hx hb hK hP 1 0 rfl rfl (by unfold vp_in; decide) dX5_greatest_31 ?_
            refine lv_topi (fun z_12 ez_12 => ?_)
            have fz_12 : z_12 = 0 := ez_12.trans (by rw [show (4 : Int32).toNatClampNeg = 4 by decide, haf 4 (by decide), hb4] <;> rfl)
            subst fz_12
            refine va_iald hx hb hK hP 2 0 rfl rfl (by unfold vp_in; decide) dX5_greatest_32 ?_
            refine lv_topi (fun z_13 ez_13 => ?_)
            have fz_13 : z_13 = 0 := ez_13.trans (rfl)
            subst fz_13
            refine lv_aload_n hx hb dX5_greatest_33 rfl (lv_at hl 2 rfl) ?_
            refine va_get (D := D) (ci := 6) (v := .ref (ma 2)) (C := RX5) (T := TX5) (N := 29) hx hb hts in_X5_greatest_X5 hown hK hP 0 rfl rfl 2 (by decide) w_1 (fun _ h9 => h9) rfl dX5_greatest_34 ?_
            refine lv_iload_n hx hb dX5_greatest_37 rfl (lv_at hl 1 rfl) ?_
            refine va_iald hx hb hK hP 2 0 rfl rfl (by unfold vp_in; decide) dX5_greatest_38 ?_
            refine lv_topi (fun z_14 ez_14 => ?_)
            have fz_14 : z_14 = 0 := ez_14.trans (rfl)
            subst fz_14
            refine lv_icmp_le (tgt := 51) hx hb dX5_greatest_39 (by decide) (fun _ => ?_) (fun hc => absurd (by decide) hc)
            refine lv_iload_n hx hb dX5_greatest_51 rfl (lv_at hl 1 rfl) ?_
            refine lv_istore_n (lv' := [(1, .int 0), (2, .int 4), (0, .ref mo)]) hx hb dX5_greatest_52 rfl hl (by decide) rfl (fun ls hl => ?_)
            refine lv_iinc (v := 5) (lv' := [(2, .int 5), (1, .int 0), (0, .ref mo)]) hx hb dX5_greatest_53 hl (k := 1) rfl (by decide) (by decide) rfl (fun ls hl => ?_)
            refine lv_goto (tgt := 4) hx hb dX5_greatest_56 (by decide) ?_
            refine lv_iload_n hx hb dX5_greatest_4 rfl (lv_at hl 0 rfl) ?_
            refine lv_iconst (v := 5) hx hb dX5_greatest_5 (by decide) ?_
            refine lv_icmp_ge (tgt := 59) hx hb dX5_greatest_6 (by decide) (fun _ => ?_) (fun hc => absurd (by decide) hc)
            refine lv_iload_n hx hb dX5_greatest_59 rfl (lv_at hl 1 rfl) ?_
            have hP9 := hP.sub (ws' := [(mo, .inr (6, [.int th, .int 1, .ref (ma 2), .ref (ma 3), .ref (ma 4), .ref (ma 5), .ref (ma 6), .ref (ma 7), .ref (ma 8), .ref (ma 9), .ref (ma 10), .ref (ma 11), .ref (ma 12), .ref (ma 13), .ref (ma 14), .ref (ma 15), .ref (ma 16), .ref (ma 17), .ref (ma 18), .ref (ma 19), .ref (ma 20), .ref (ma 21), .int 0, .ref (ma 23), .ref (ma 24), .ref (ma 25), .ref (ma 26), .ref (ma 27), .ref (ma 28)])), ((ma 28), wI tC 5 af), ((ma 2), wI tC 600 (fun _ => 0))]) [0, 1, 2] rfl
            have hD9 := hD.sub (ws' := [(mo, .inr (6, [.int th, .int 1, .ref (ma 2), .ref (ma 3), .ref (ma 4), .ref (ma 5), .ref (ma 6), .ref (ma 7), .ref (ma 8), .ref (ma 9), .ref (ma 10), .ref (ma 11), .ref (ma 12), .ref (ma 13), .ref (ma 14), .ref (ma 15), .ref (ma 16), .ref (ma 17), .ref (ma 18), .ref (ma 19), .ref (ma 20), .ref (ma 21), .int 0, .ref (ma 23), .ref (ma 24), .ref (ma 25), .ref (ma 26), .ref (ma 27), .ref (ma 28)])), ((ma 28), wI tC 5 af), ((ma 2), wI tC 600 (fun _ => 0))]) [0, 1, 2] (by decide) rfl
            refine W.widen (k := 0) (n := 0) (by omega) (by omega) ?_
            exact W.iret (v := 0) hx hb hr (fun t ht hW => ⟨⟨0, (), rfl, rfl, (by rw [ht]; exact hP9), va_K.moved hW.alike hK, hD9⟩, hS.F ht⟩) hS.2.2 dX5_greatest_60 hlocks
      · skip
        refine lv_iload_n hx hb dX5_greatest_4 rfl (lv_at hl 0 rfl) ?_
        refine lv_iconst (v := 5) hx hb dX5_greatest_5 (by decide) ?_
        refine lv_icmp_ge (tgt := 59) hx hb dX5_greatest_6 (by decide) (fun hc => absurd hc (by decide)) (fun _ => ?_)
        refine lv_aload_n hx hb dX5_greatest_9 rfl (lv_at hl 2 rfl) ?_
        refine va_get (D := D) (ci := 6) (v := .ref (ma 28)) (C := RX5) (T := TX5) (N := 29) hx hb hts in_X5_greatest_X5 hown hK hP 0 rfl rfl 28 (by decide) w_0 (fun _ h9 => h9) rfl dX5_greatest_10 ?_
        refine lv_iload_n hx hb dX5_greatest_13 rfl (lv_at hl 0 rfl) ?_
        refine va_iald hx hb hK hP 1 0 rfl rfl (by unfold vp_in; decide) dX5_greatest_14 ?_
        refine lv_topi (fun z_15 ez_15 => ?_)
        have fz_15 : z_15 = 0 := ez_15.trans (by rw [show (2 : Int32).toNatClampNeg = 2 by decide, haf 2 (by decide), hb2] <;> rfl)
        subst fz_15
        refine lv_if_lt (tgt := 51) hx hb dX5_greatest_15 (by decide) (fun hc => absurd hc (by decide)) (fun _ => ?_)
        refine lv_iload_n hx hb dX5_greatest_18 rfl (lv_at hl 1 rfl) ?_
        refine lv_if_lt (tgt := 42) hx hb dX5_greatest_19 (by decide) (fun _ => ?_) (fun hc => absurd (by decide) hc)
        refine lv_aload_n hx hb dX5_greatest_42 rfl (lv_at hl 2 rfl) ?_
        refine va_get (D := D) (ci := 6) (v := .ref (ma 28)) (C := RX5) (T := TX5) (N := 29) hx hb hts in_X5_greatest_X5 hown hK hP 0 rfl rfl 28 (by decide) w_0 (fun _ h9 => h9) rfl dX5_greatest_43 ?_
        refine lv_iload_n hx hb dX5_greatest_46 rfl (lv_at hl 0 rfl) ?_
        refine va_iald hx hb hK hP 1 0 rfl rfl (by unfold vp_in; decide) dX5_greatest_47 ?_
        refine lv_topi (fun z_16 ez_16 => ?_)
        have fz_16 : z_16 = 0 := ez_16.trans (by rw [show (2 : Int32).toNatClampNeg = 2 by decide, haf 2 (by decide), hb2] <;> rfl)
        subst fz_16
        refine lv_goto (tgt := 52) hx hb dX5_greatest_48 (by decide) ?_
        refine lv_istore_n (lv' := [(1, .int 0), (2, .int 2), (0, .ref mo)]) hx hb dX5_greatest_52 rfl hl (by decide) rfl (fun ls hl => ?_)
        refine lv_iinc (v := 3) (lv' := [(2, .int 3), (1, .int 0), (0, .ref mo)]) hx hb dX5_greatest_53 hl (k := 1) rfl (by decide) (by decide) rfl (fun ls hl => ?_)
        refine lv_goto (tgt := 4) hx hb dX5_greatest_56 (by decide) ?_
        cases hb3 : bt 3
        · skip
          refine lv_iload_n hx hb dX5_greatest_4 rfl (lv_at hl 0 rfl) ?_
          refine lv_iconst (v := 5) hx hb dX5_greatest_5 (by decide) ?_
          refine lv_icmp_ge (tgt := 59) hx hb dX5_greatest_6 (by decide) (fun hc => absurd hc (by decide)) (fun _ => ?_)
          refine lv_aload_n hx hb dX5_greatest_9 rfl (lv_at hl 2 rfl) ?_
          refine va_get (D := D) (ci := 6) (v := .ref (ma 28)) (C := RX5) (T := TX5) (N := 29) hx hb hts in_X5_greatest_X5 hown hK hP 0 rfl rfl 28 (by decide) w_0 (fun _ h9 => h9) rfl dX5_greatest_10 ?_
          refine lv_iload_n hx hb dX5_greatest_13 rfl (lv_at hl 0 rfl) ?_
          refine va_iald hx hb hK hP 1 0 rfl rfl (by unfold vp_in; decide) dX5_greatest_14 ?_
          refine lv_topi (fun z_17 ez_17 => ?_)
          have fz_17 : z_17 = (-1) := ez_17.trans (by rw [show (3 : Int32).toNatClampNeg = 3 by decide, haf 3 (by decide), hb3] <;> rfl)
          subst fz_17
          refine lv_if_lt (tgt := 51) hx hb dX5_greatest_15 (by decide) (fun _ => ?_) (fun hc => absurd (by decide) hc)
          refine lv_iload_n hx hb dX5_greatest_51 rfl (lv_at hl 1 rfl) ?_
          refine lv_istore_n (lv' := [(1, .int 0), (2, .int 3), (0, .ref mo)]) hx hb dX5_greatest_52 rfl hl (by decide) rfl (fun ls hl => ?_)
          refine lv_iinc (v := 4) (lv' := [(2, .int 4), (1, .int 0), (0, .ref mo)]) hx hb dX5_greatest_53 hl (k := 1) rfl (by decide) (by decide) rfl (fun ls hl => ?_)
          refine lv_goto (tgt := 4) hx hb dX5_greatest_56 (by decide) ?_
          cases hb4 : bt 4
          · skip
            refine lv_iload_n hx hb dX5_greatest_4 rfl (lv_at hl 0 rfl) ?_
            refine lv_iconst (v := 5) hx hb dX5_greatest_5 (by decide) ?_
            refine lv_icmp_ge (tgt := 59) hx hb dX5_greatest_6 (by decide) (fun hc => absurd hc (by decide)) (fun _ => ?_)
            refine lv_aload_n hx hb dX5_greatest_9 rfl (lv_at hl 2 rfl) ?_
            refine va_get (D := D) (ci := 6) (v := .ref (ma 28)) (C := RX5) (T := TX5) (N := 29) hx hb hts in_X5_greatest_X5 hown hK hP 0 rfl rfl 28 (by decide) w_0 (fun _ h9 => h9) rfl dX5_greatest_10 ?_
            refine lv_iload_n hx hb dX5_greatest_13 rfl (lv_at hl 0 rfl) ?_
            refine va_iald hx hb hK hP 1 0 rfl rfl (by unfold vp_in; decide) dX5_greatest_14 ?_
            refine lv_topi (fun z_18 ez_18 => ?_)
            have fz_18 : z_18 = (-1) := ez_18.trans (by rw [show (4 : Int32).toNatClampNeg = 4 by decide, haf 4 (by decide), hb4] <;> rfl)
            subst fz_18
            refine lv_if_lt (tgt := 51) hx hb dX5_greatest_15 (by decide) (fun _ => ?_) (fun hc => absurd (by decide) hc)
            refine lv_iload_n hx hb dX5_greatest_51 rfl (lv_at hl 1 rfl) ?_
            refine lv_istore_n (lv' := [(1, .int 0), (2, .int 4), (0, .ref mo)]) hx hb dX5_greatest_52 rfl hl (by decide) rfl (fun ls hl => ?_)
            refine lv_iinc (v := 5) (lv' := [(2, .int 5), (1, .int 0), (0, .ref mo)]) hx hb dX5_greatest_53 hl (k := 1) rfl (by decide) (by decide) rfl (fun ls hl => ?_)
            refine lv_goto (tgt := 4) hx hb dX5_greatest_56 (by decide) ?_
            refine lv_iload_n hx hb dX5_greatest_4 rfl (lv_at hl 0 rfl) ?_
            refine lv_iconst (v := 5) hx hb dX5_greatest_5 (by decide) ?_
            refine lv_icmp_ge (tgt := 59) hx hb dX5_greatest_6 (by decide) (fun _ => ?_) (fun hc => absurd (by decide) hc)
            refine lv_iload_n hx hb dX5_greatest_59 rfl (lv_at hl 1 rfl) ?_
            have hP9 := hP.sub (ws' := [(mo, .inr (6, [.int th, .int 1, .ref (ma 2), .ref (ma 3), .ref (ma 4), .ref (ma 5), .ref (ma 6), .ref (ma 7), .ref (ma 8), .ref (ma 9), .ref (ma 10), .ref (ma 11), .ref (ma 12), .ref (ma 13), .ref (ma 14), .ref (ma 15), .ref (ma 16), .ref (ma 17), .ref (ma 18), .ref (ma 19), .ref (ma 20), .ref (ma 21), .int 0, .ref (ma 23), .ref (ma 24), .ref (ma 25), .ref (ma 26), .ref (ma 27), .ref (ma 28)])), ((ma 28), wI tC 5 af), ((ma 2), wI tC 600 (fun _ => 0))]) [0, 1, 2] rfl
            have hD9 := hD.sub (ws' := [(mo, .inr (6, [.int th, .int 1, .ref (ma 2), .ref (ma 3), .ref (ma 4), .ref (ma 5), .ref (ma 6), .ref (ma 7), .ref (ma 8), .ref (ma 9), .ref (ma 10), .ref (ma 11), .ref (ma 12), .ref (ma 13), .ref (ma 14), .ref (ma 15), .ref (ma 16), .ref (ma 17), .ref (ma 18), .ref (ma 19), .ref (ma 20), .ref (ma 21), .int 0, .ref (ma 23), .ref (ma 24), .ref (ma 25), .ref (ma 26), .ref (ma 27), .ref (ma 28)])), ((ma 28), wI tC 5 af), ((ma 2), wI tC 600 (fun _ => 0))]) [0, 1, 2] (by decide) rfl
            refine W.widen (k := 0) (n := 0) (by omega) (by omega) ?_
            exact W.iret (v := 0) hx hb hr (fun t ht hW => ⟨⟨0, (), rfl, rfl, (by rw [ht]; exact hP9), va_K.moved hW.alike hK, hD9⟩, hS.F ht⟩) hS.2.2 dX5_greatest_60 hlocks
          · skip
            refine lv_iload_n hx hb dX5_greatest_4 rfl (lv_at hl 0 rfl) ?_
            refine lv_iconst (v := 5) hx hb dX5_greatest_5 (by decide) ?_
            refine lv_icmp_ge (tgt := 59) hx hb dX5_greatest_6 (by decide) (fun hc => absurd hc (by decide)) (fun _ => ?_)
            refine lv_aload_n hx hb dX5_greatest_9 rfl (lv_at hl 2 rfl) ?_
            refine va_get (D := D) (ci := 6) (v := .ref (ma 28)) (C := RX5) (T := TX5) (N := 29) hx hb hts in_X5_greatest_X5 hown hK hP 0 rfl rfl 28 (by decide) w_0 (fun _ h9 => h9) rfl dX5_greatest_10 ?_
            refine lv_iload_n hx hb dX5_greatest_13 rfl (lv_at hl 0 rfl) ?_
            refine va_iald hx hb hK hP 1 0 rfl rfl (by unfold vp_in; decide) dX5_greatest_14 ?_
            refine lv_topi (fun z_19 ez_19 => ?_)
            have fz_19 : z_19 = 0 := ez_19.trans (by rw [show (4 : Int32).toNatClampNeg = 4 by decide, haf 4 (by decide), hb4] <;> rfl)
            subst fz_19
            refine lv_if_lt (tgt := 51) hx hb dX5_greatest_15 (by decide) (fun hc => absurd hc (by decide)) (fun _ => ?_)
            refine lv_iload_n hx hb dX5_greatest_18 rfl (lv_at hl 1 rfl) ?_
            refine lv_if_lt (tgt := 42) hx hb dX5_greatest_19 (by decide) (fun hc => absurd hc (by decide)) (fun _ => ?_)
            refine lv_aload_n hx hb dX5_greatest_22 rfl (lv_at hl 2 rfl) ?_
            refine va_get (D := D) (ci := 6) (v := .ref (ma 2)) (C := RX5) (T := TX5) (N := 29) hx hb hts in_X5_greatest_X5 hown hK hP 0 rfl rfl 2 (by decide) w_1 (fun _ h9 => h9) rfl dX5_greatest_23 ?_
            refine lv_aload_n hx hb dX5_greatest_26 rfl (lv_at hl 2 rfl) ?_
            refine va_get (D := D) (ci := 6) (v := .ref (ma 28)) (C := RX5) (T := TX5) (N := 29) hx hb hts in_X5_greatest_X5 hown hK hP 0 rfl rfl 28 (by decide) w_0 (fun _ h9 => h9) rfl dX5_greatest_27 ?_
            refine lv_iload_n hx hb dX5_greatest_30 rfl (lv_at hl 0 rfl) ?_
            refine va_iald hx hb hK hP 1 0 rfl rfl (by unfold vp_in; decide) dX5_greatest_31 ?_
            refine lv_topi (fun z_20 ez_20 => ?_)
            have fz_20 : z_20 = 0 := ez_20.trans (by rw [show (4 : Int32).toNatClampNeg = 4 by decide, haf 4 (by decide), hb4] <;> rfl)
            subst fz_20
            refine va_iald hx hb hK hP 2 0 rfl rfl (by unfold vp_in; decide) dX5_greatest_32 ?_
            refine lv_topi (fun z_21 ez_21 => ?_)
            have fz_21 : z_21 = 0 := ez_21.trans (rfl)
            subst fz_21
            refine lv_aload_n hx hb dX5_greatest_33 rfl (lv_at hl 2 rfl) ?_
            refine va_get (D := D) (ci := 6) (v := .ref (ma 2)) (C := RX5) (T := TX5) (N := 29) hx hb hts in_X5_greatest_X5 hown hK hP 0 rfl rfl 2 (by decide) w_1 (fun _ h9 => h9) rfl dX5_greatest_34 ?_
            refine lv_iload_n hx hb dX5_greatest_37 rfl (lv_at hl 1 rfl) ?_
            refine va_iald hx hb hK hP 2 0 rfl rfl (by unfold vp_in; decide) dX5_greatest_38 ?_
            refine lv_topi (fun z_22 ez_22 => ?_)
            have fz_22 : z_22 = 0 := ez_22.trans (rfl)
            subst fz_22
            refine lv_icmp_le (tgt := 51) hx hb dX5_greatest_39 (by decide) (fun _ => ?_) (fun hc => absurd (by decide) hc)
            refine lv_iload_n hx hb dX5_greatest_51 rfl (lv_at hl 1 rfl) ?_
            refine lv_istore_n (lv' := [(1, .int 0), (2, .int 4), (0, .ref mo)]) hx hb dX5_greatest_52 rfl hl (by decide) rfl (fun ls hl => ?_)
            refine lv_iinc (v := 5) (lv' := [(2, .int 5), (1, .int 0), (0, .ref mo)]) hx hb dX5_greatest_53 hl (k := 1) rfl (by decide) (by decide) rfl (fun ls hl => ?_)
            refine lv_goto (tgt := 4) hx hb dX5_greatest_56 (by decide) ?_
            refine lv_iload_n hx hb dX5_greatest_4 rfl (lv_at hl 0 rfl) ?_
            refine lv_iconst (v := 5) hx hb dX5_greatest_5 (by decide) ?_
            refine lv_icmp_ge (tgt := 59) hx hb dX5_greatest_6 (by decide) (fun _ => ?_) (fun hc => absurd (by decide) hc)
            refine lv_iload_n hx hb dX5_greatest_59 rfl (lv_at hl 1 rfl) ?_
            have hP9 := hP.sub (ws' := [(mo, .inr (6, [.int th, .int 1, .ref (ma 2), .ref (ma 3), .ref (ma 4), .ref (ma 5), .ref (ma 6), .ref (ma 7), .ref (ma 8), .ref (ma 9), .ref (ma 10), .ref (ma 11), .ref (ma 12), .ref (ma 13), .ref (ma 14), .ref (ma 15), .ref (ma 16), .ref (ma 17), .ref (ma 18), .ref (ma 19), .ref (ma 20), .ref (ma 21), .int 0, .ref (ma 23), .ref (ma 24), .ref (ma 25), .ref (ma 26), .ref (ma 27), .ref (ma 28)])), ((ma 28), wI tC 5 af), ((ma 2), wI tC 600 (fun _ => 0))]) [0, 1, 2] rfl
            have hD9 := hD.sub (ws' := [(mo, .inr (6, [.int th, .int 1, .ref (ma 2), .ref (ma 3), .ref (ma 4), .ref (ma 5), .ref (ma 6), .ref (ma 7), .ref (ma 8), .ref (ma 9), .ref (ma 10), .ref (ma 11), .ref (ma 12), .ref (ma 13), .ref (ma 14), .ref (ma 15), .ref (ma 16), .ref (ma 17), .ref (ma 18), .ref (ma 19), .ref (ma 20), .ref (ma 21), .int 0, .ref (ma 23), .ref (ma 24), .ref (ma 25), .ref (ma 26), .ref (ma 27), .ref (ma 28)])), ((ma 28), wI tC 5 af), ((ma 2), wI tC 600 (fun _ => 0))]) [0, 1, 2] (by decide) rfl
            refine W.widen (k := 0) (n := 0) (by omega) (by omega) ?_
            exact W.iret (v := 0) hx hb hr (fun t ht hW => ⟨⟨0, (), rfl, rfl, (by rw [ht]; exact hP9), va_K.moved hW.alike hK, hD9⟩, hS.F ht⟩) hS.2.2 dX5_greatest_60 hlocks
        · skip
          refine lv_iload_n hx hb dX5_greatest_4 rfl (lv_at hl 0 rfl) ?_
          refine lv_iconst (v := 5) hx hb dX5_greatest_5 (by decide) ?_
          refine lv_icmp_ge (tgt := 59) hx hb dX5_greatest_6 (by decide) (fun hc => absurd hc (by decide)) (fun _ => ?_)
          refine lv_aload_n hx hb dX5_greatest_9 rfl (lv_at hl 2 rfl) ?_
          refine va_get (D := D) (ci := 6) (v := .ref (ma 28)) (C := RX5) (T := TX5) (N := 29) hx hb hts in_X5_greatest_X5 hown hK hP 0 rfl rfl 28 (by decide) w_0 (fun _ h9 => h9) rfl dX5_greatest_10 ?_
          refine lv_iload_n hx hb dX5_greatest_13 rfl (lv_at hl 0 rfl) ?_
          refine va_iald hx hb hK hP 1 0 rfl rfl (by unfold vp_in; decide) dX5_greatest_14 ?_
          refine lv_topi (fun z_23 ez_23 => ?_)
          have fz_23 : z_23 = 0 := ez_23.trans (by rw [show (3 : Int32).toNatClampNeg = 3 by decide, haf 3 (by decide), hb3] <;> rfl)
          subst fz_23
          refine lv_if_lt (tgt := 51) hx hb dX5_greatest_15 (by decide) (fun hc => absurd hc (by decide)) (fun _ => ?_)
          refine lv_iload_n hx hb dX5_greatest_18 rfl (lv_at hl 1 rfl) ?_
          refine lv_if_lt (tgt := 42) hx hb dX5_greatest_19 (by decide) (fun hc => absurd hc (by decide)) (fun _ => ?_)
          refine lv_aload_n hx hb dX5_greatest_22 rfl (lv_at hl 2 rfl) ?_
          refine va_get (D := D) (ci := 6) (v := .ref (ma 2)) (C := RX5) (T := TX5) (N := 29) hx hb hts in_X5_greatest_X5 hown hK hP 0 rfl rfl 2 (by decide) w_1 (fun _ h9 => h9) rfl dX5_greatest_23 ?_
          refine lv_aload_n hx hb dX5_greatest_26 rfl (lv_at hl 2 rfl) ?_
          refine va_get (D := D) (ci := 6) (v := .ref (ma 28)) (C := RX5) (T := TX5) (N := 29) hx hb hts in_X5_greatest_X5 hown hK hP 0 rfl rfl 28 (by decide) w_0 (fun _ h9 => h9) rfl dX5_greatest_27 ?_
          refine lv_iload_n hx hb dX5_greatest_30 rfl (lv_at hl 0 rfl) ?_
          refine va_iald hx hb hK hP 1 0 rfl rfl (by unfold vp_in; decide) dX5_greatest_31 ?_
          refine lv_topi (fun z_24 ez_24 => ?_)
          have fz_24 : z_24 = 0 := ez_24.trans (by rw [show (3 : Int32).toNatClampNeg = 3 by decide, haf 3 (by decide), hb3] <;> rfl)
          subst fz_24
          refine va_iald hx hb hK hP 2 0 rfl rfl (by unfold vp_in; decide) dX5_greatest_32 ?_
          refine lv_topi (fun z_25 ez_25 => ?_)
          have fz_25 : z_25 = 0 := ez_25.trans (rfl)
          subst fz_25
          refine lv_aload_n hx hb dX5_greatest_33 rfl (lv_at hl 2 rfl) ?_
          refine va_get (D := D) (ci := 6) (v := .ref (ma 2)) (C := RX5) (T := TX5) (N := 29) hx hb hts in_X5_greatest_X5 hown hK hP 0 rfl rfl 2 (by decide) w_1 (fun _ h9 => h9) rfl dX5_greatest_34 ?_
          refine lv_iload_n hx hb dX5_greatest_37 rfl (lv_at hl 1 rfl) ?_
          refine va_iald hx hb hK hP 2 0 rfl rfl (by unfold vp_in; decide) dX5_greatest_38 ?_
          refine lv_topi (fun z_26 ez_26 => ?_)
          have fz_26 : z_26 = 0 := ez_26.trans (rfl)
          subst fz_26
          refine lv_icmp_le (tgt := 51) hx hb dX5_greatest_39 (by decide) (fun _ => ?_) (fun hc => absurd (by decide) hc)
          refine lv_iload_n hx hb dX5_greatest_51 rfl (lv_at hl 1 rfl) ?_
          refine lv_istore_n (lv' := [(1, .int 0), (2, .int 3), (0, .ref mo)]) hx hb dX5_greatest_52 rfl hl (by decide) rfl (fun ls hl => ?_)
          refine lv_iinc (v := 4) (lv' := [(2, .int 4), (1, .int 0), (0, .ref mo)]) hx hb dX5_greatest_53 hl (k := 1) rfl (by decide) (by decide) rfl (fun ls hl => ?_)
          refine lv_goto (tgt := 4) hx hb dX5_greatest_56 (by decide) ?_
          cases hb4 : bt 4
          · skip
            refine lv_iload_n hx hb dX5_greatest_4 rfl (lv_at hl 0 rfl) ?_
            refine lv_iconst (v := 5) hx hb dX5_greatest_5 (by decide) ?_
            refine lv_icmp_ge (tgt := 59) hx hb dX5_greatest_6 (by decide) (fun hc => absurd hc (by decide)) (fun _ => ?_)
            refine lv_aload_n hx hb dX5_greatest_9 rfl (lv_at hl 2 rfl) ?_
            refine va_get (D := D) (ci := 6) (v := .ref (ma 28)) (C := RX5) (T := TX5) (N := 29) hx hb hts in_X5_greatest_X5 hown hK hP 0 rfl rfl 28 (by decide) w_0 (fun _ h9 => h9) rfl dX5_greatest_10 ?_
            refine lv_iload_n hx hb dX5_greatest_13 rfl (lv_at hl 0 rfl) ?_
            refine va_iald hx hb hK hP 1 0 rfl rfl (by unfold vp_in; decide) dX5_greatest_14 ?_
            refine lv_topi (fun z_27 ez_27 => ?_)
            have fz_27 : z_27 = (-1) := ez_27.trans (by rw [show (4 : Int32).toNatClampNeg = 4 by decide, haf 4 (by decide), hb4] <;> rfl)
            subst fz_27
            refine lv_if_lt (tgt := 51) hx hb dX5_greatest_15 (by decide) (fun _ => ?_) (fun hc => absurd (by decide) hc)
            refine lv_iload_n hx hb dX5_greatest_51 rfl (lv_at hl 1 rfl) ?_
            refine lv_istore_n (lv' := [(1, .int 0), (2, .int 4), (0, .ref mo)]) hx hb dX5_greatest_52 rfl hl (by decide) rfl (fun ls hl => ?_)
            refine lv_iinc (v := 5) (lv' := [(2, .int 5), (1, .int 0), (0, .ref mo)]) hx hb dX5_greatest_53 hl (k := 1) rfl (by decide) (by decide) rfl (fun ls hl => ?_)
            refine lv_goto (tgt := 4) hx hb dX5_greatest_56 (by decide) ?_
            refine lv_iload_n hx hb dX5_greatest_4 rfl (lv_at hl 0 rfl) ?_
            refine lv_iconst (v := 5) hx hb dX5_greatest_5 (by decide) ?_
            refine lv_icmp_ge (tgt := 59) hx hb dX5_greatest_6 (by decide) (fun _ => ?_) (fun hc => absurd (by decide) hc)
            refine lv_iload_n hx hb dX5_greatest_59 rfl (lv_at hl 1 rfl) ?_
            have hP9 := hP.sub (ws' := [(mo, .inr (6, [.int th, .int 1, .ref (ma 2), .ref (ma 3), .ref (ma 4), .ref (ma 5), .ref (ma 6), .ref (ma 7), .ref (ma 8), .ref (ma 9), .ref (ma 10), .ref (ma 11), .ref (ma 12), .ref (ma 13), .ref (ma 14), .ref (ma 15), .ref (ma 16), .ref (ma 17), .ref (ma 18), .ref (ma 19), .ref (ma 20), .ref (ma 21), .int 0, .ref (ma 23), .ref (ma 24), .ref (ma 25), .ref (ma 26), .ref (ma 27), .ref (ma 28)])), ((ma 28), wI tC 5 af), ((ma 2), wI tC 600 (fun _ => 0))]) [0, 1, 2] rfl
            have hD9 := hD.sub (ws' := [(mo, .inr (6, [.int th, .int 1, .ref (ma 2), .ref (ma 3), .ref (ma 4), .ref (ma 5), .ref (ma 6), .ref (ma 7), .ref (ma 8), .ref (ma 9), .ref (ma 10), .ref (ma 11), .ref (ma 12), .ref (ma 13), .ref (ma 14), .ref (ma 15), .ref (ma 16), .ref (ma 17), .ref (ma 18), .ref (ma 19), .ref (ma 20), .ref (ma 21), .int 0, .ref (ma 23), .ref (ma 24), .ref (ma 25), .ref (ma 26), .ref (ma 27), .ref (ma 28)])), ((ma 28), wI tC 5 af), ((ma 2), wI tC 600 (fun _ => 0))]) [0, 1, 2] (by decide) rfl
            refine W.widen (k := 0) (n := 0) (by omega) (by omega) ?_
            exact W.iret (v := 0) hx hb hr (fun t ht hW => ⟨⟨0, (), rfl, rfl, (by rw [ht]; exact hP9), va_K.moved hW.alike hK, hD9⟩, hS.F ht⟩) hS.2.2 dX5_greatest_60 hlocks
          · skip
            refine lv_iload_n hx hb dX5_greatest_4 rfl (lv_at hl 0 rfl) ?_
            refine lv_iconst (v := 5) hx hb dX5_greatest_5 (by decide) ?_
            refine lv_icmp_ge (tgt := 59) hx hb dX5_greatest_6 (by decide) (fun hc => absurd hc (by decide)) (fun _ => ?_)
            refine lv_aload_n hx hb dX5_greatest_9 rfl (lv_at hl 2 rfl) ?_
            refine va_get (D := D) (ci := 6) (v := .ref (ma 28)) (C := RX5) (T := TX5) (N := 29) hx hb hts in_X5_greatest_X5 hown hK hP 0 rfl rfl 28 (by decide) w_0 (fun _ h9 => h9) rfl dX5_greatest_10 ?_
            refine lv_iload_n hx hb dX5_greatest_13 rfl (lv_at hl 0 rfl) ?_
            refine va_iald hx hb hK hP 1 0 rfl rfl (by unfold vp_in; decide) dX5_greatest_14 ?_
            refine lv_topi (fun z_28 ez_28 => ?_)
            have fz_28 : z_28 = 0 := ez_28.trans (by rw [show (4 : Int32).toNatClampNeg = 4 by decide, haf 4 (by decide), hb4] <;> rfl)
            subst fz_28
            refine lv_if_lt (tgt := 51) hx hb dX5_greatest_15 (by decide) (fun hc => absurd hc (by decide)) (fun _ => ?_)
            refine lv_iload_n hx hb dX5_greatest_18 rfl (lv_at hl 1 rfl) ?_
            refine lv_if_lt (tgt := 42) hx hb dX5_greatest_19 (by decide) (fun hc => absurd hc (by decide)) (fun _ => ?_)
            refine lv_aload_n hx hb dX5_greatest_22 rfl (lv_at hl 2 rfl) ?_
            refine va_get (D := D) (ci := 6) (v := .ref (ma 2)) (C := RX5) (T := TX5) (N := 29) hx hb hts in_X5_greatest_X5 hown hK hP 0 rfl rfl 2 (by decide) w_1 (fun _ h9 => h9) rfl dX5_greatest_23 ?_
            refine lv_aload_n hx hb dX5_greatest_26 rfl (lv_at hl 2 rfl) ?_
            refine va_get (D := D) (ci := 6) (v := .ref (ma 28)) (C := RX5) (T := TX5) (N := 29) hx hb hts in_X5_greatest_X5 hown hK hP 0 rfl rfl 28 (by decide) w_0 (fun _ h9 => h9) rfl dX5_greatest_27 ?_
            refine lv_iload_n hx hb dX5_greatest_30 rfl (lv_at hl 0 rfl) ?_
            refine va_iald hx hb hK hP 1 0 rfl rfl (by unfold vp_in; decide) dX5_greatest_31 ?_
            refine lv_topi (fun z_29 ez_29 => ?_)
            have fz_29 : z_29 = 0 := ez_29.trans (by rw [show (4 : Int32).toNatClampNeg = 4 by decide, haf 4 (by decide), hb4] <;> rfl)
            subst fz_29
            refine va_iald hx hb hK hP 2 0 rfl rfl (by unfold vp_in; decide) dX5_greatest_32 ?_
            refine lv_topi (fun z_30 ez_30 => ?_)
            have fz_30 : z_30 = 0 := ez_30.trans (rfl)
            subst fz_30
            refine lv_aload_n hx hb dX5_greatest_33 rfl (lv_at hl 2 rfl) ?_
            refine va_get (D := D) (ci := 6) (v := .ref (ma 2)) (C := RX5) (T := TX5) (N := 29) hx hb hts in_X5_greatest_X5 hown hK hP 0 rfl rfl 2 (by decide) w_1 (fun _ h9 => h9) rfl dX5_greatest_34 ?_
            refine lv_iload_n hx hb dX5_greatest_37 rfl (lv_at hl 1 rfl) ?_
            refine va_iald hx hb hK hP 2 0 rfl rfl (by unfold vp_in; decide) dX5_greatest_38 ?_
            refine lv_topi (fun z_31 ez_31 => ?_)
            have fz_31 : z_31 = 0 := ez_31.trans (rfl)
            subst fz_31
            refine lv_icmp_le (tgt := 51) hx hb dX5_greatest_39 (by decide) (fun _ => ?_) (fun hc => absurd (by decide) hc)
            refine lv_iload_n hx hb dX5_greatest_51 rfl (lv_at hl 1 rfl) ?_
            refine lv_istore_n (lv' := [(1, .int 0), (2, .int 4), (0, .ref mo)]) hx hb dX5_greatest_52 rfl hl (by decide) rfl (fun ls hl => ?_)
            refine lv_iinc (v := 5) (lv' := [(2, .int 5), (1, .int 0), (0, .ref mo)]) hx hb dX5_greatest_53 hl (k := 1) rfl (by decide) (by decide) rfl (fun ls hl => ?_)
            refine lv_goto (tgt := 4) hx hb dX5_greatest_56 (by decide) ?_
            refine lv_iload_n hx hb dX5_greatest_4 rfl (lv_at hl 0 rfl) ?_
            refine lv_iconst (v := 5) hx hb dX5_greatest_5 (by decide) ?_
            refine lv_icmp_ge (tgt := 59) hx hb dX5_greatest_6 (by decide) (fun _ => ?_) (fun hc => absurd (by decide) hc)
            refine lv_iload_n hx hb dX5_greatest_59 rfl (lv_at hl 1 rfl) ?_
            have hP9 := hP.sub (ws' := [(mo, .inr (6, [.int th, .int 1, .ref (ma 2), .ref (ma 3), .ref (ma 4), .ref (ma 5), .ref (ma 6), .ref (ma 7), .ref (ma 8), .ref (ma 9), .ref (ma 10), .ref (ma 11), .ref (ma 12), .ref (ma 13), .ref (ma 14), .ref (ma 15), .ref (ma 16), .ref (ma 17), .ref (ma 18), .ref (ma 19), .ref (ma 20), .ref (ma 21), .int 0, .ref (ma 23), .ref (ma 24), .ref (ma 25), .ref (ma 26), .ref (ma 27), .ref (ma 28)])), ((ma 28), wI tC 5 af), ((ma 2), wI tC 600 (fun _ => 0))]) [0, 1, 2] rfl
            have hD9 := hD.sub (ws' := [(mo, .inr (6, [.int th, .int 1, .ref (ma 2), .ref (ma 3), .ref (ma 4), .ref (ma 5), .ref (ma 6), .ref (ma 7), .ref (ma 8), .ref (ma 9), .ref (ma 10), .ref (ma 11), .ref (ma 12), .ref (ma 13), .ref (ma 14), .ref (ma 15), .ref (ma 16), .ref (ma 17), .ref (ma 18), .ref (ma 19), .ref (ma 20), .ref (ma 21), .int 0, .ref (ma 23), .ref (ma 24), .ref (ma 25), .ref (ma 26), .ref (ma 27), .ref (ma 28)])), ((ma 28), wI tC 5 af), ((ma 2), wI tC 600 (fun _ => 0))]) [0, 1, 2] (by decide) rfl
            refine W.widen (k := 0) (n := 0) (by omega) (by omega) ?_
            exact W.iret (v := 0) hx hb hr (fun t ht hW => ⟨⟨0, (), rfl, rfl, (by rw [ht]; exact hP9), va_K.moved hW.alike hK, hD9⟩, hS.F ht⟩) hS.2.2 dX5_greatest_60 hlocks
    · skip
      refine lv_iload_n hx hb dX5_greatest_4 rfl (lv_at hl 0 rfl) ?_
      refine lv_iconst (v := 5) hx hb dX5_greatest_5 (by decide) ?_
      refine lv_icmp_ge (tgt := 59) hx hb dX5_greatest_6 (by decide) (fun hc => absurd hc (by decide)) (fun _ => ?_)
      refine lv_aload_n hx hb dX5_greatest_9 rfl (lv_at hl 2 rfl) ?_
      refine va_get (D := D) (ci := 6) (v := .ref (ma 28)) (C := RX5) (T := TX5) (N := 29) hx hb hts in_X5_greatest_X5 hown hK hP 0 rfl rfl 28 (by decide) w_0 (fun _ h9 => h9) rfl dX5_greatest_10 ?_
      refine lv_iload_n hx hb dX5_greatest_13 rfl (lv_at hl 0 rfl) ?_
      refine va_iald hx hb hK hP 1 0 rfl rfl (by unfold vp_in; decide) dX5_greatest_14 ?_
      refine lv_topi (fun z_32 ez_32 => ?_)
      have fz_32 : z_32 = 0 := ez_32.trans (by rw [show (1 : Int32).toNatClampNeg = 1 by decide, haf 1 (by decide), hb1] <;> rfl)
      subst fz_32
      refine lv_if_lt (tgt := 51) hx hb dX5_greatest_15 (by decide) (fun hc => absurd hc (by decide)) (fun _ => ?_)
      refine lv_iload_n hx hb dX5_greatest_18 rfl (lv_at hl 1 rfl) ?_
      refine lv_if_lt (tgt := 42) hx hb dX5_greatest_19 (by decide) (fun _ => ?_) (fun hc => absurd (by decide) hc)
      refine lv_aload_n hx hb dX5_greatest_42 rfl (lv_at hl 2 rfl) ?_
      refine va_get (D := D) (ci := 6) (v := .ref (ma 28)) (C := RX5) (T := TX5) (N := 29) hx hb hts in_X5_greatest_X5 hown hK hP 0 rfl rfl 28 (by decide) w_0 (fun _ h9 => h9) rfl dX5_greatest_43 ?_
      refine lv_iload_n hx hb dX5_greatest_46 rfl (lv_at hl 0 rfl) ?_
      refine va_iald hx hb hK hP 1 0 rfl rfl (by unfold vp_in; decide) dX5_greatest_47 ?_
      refine lv_topi (fun z_33 ez_33 => ?_)
      have fz_33 : z_33 = 0 := ez_33.trans (by rw [show (1 : Int32).toNatClampNeg = 1 by decide, haf 1 (by decide), hb1] <;> rfl)
      subst fz_33
      refine lv_goto (tgt := 52) hx hb dX5_greatest_48 (by decide) ?_
      refine lv_istore_n (lv' := [(1, .int 0), (2, .int 1), (0, .ref mo)]) hx hb dX5_greatest_52 rfl hl (by decide) rfl (fun ls hl => ?_)
      refine lv_iinc (v := 2) (lv' := [(2, .int 2), (1, .int 0), (0, .ref mo)]) hx hb dX5_greatest_53 hl (k := 1) rfl (by decide) (by decide) rfl (fun ls hl => ?_)
      refine lv_goto (tgt := 4) hx hb dX5_greatest_56 (by decide) ?_
      cases hb2 : bt 2
      · skip
        refine lv_iload_n hx hb dX5_greatest_4 rfl (lv_at hl 0 rfl) ?_
        refine lv_iconst (v := 5) hx hb dX5_greatest_5 (by decide) ?_
        refine lv_icmp_ge (tgt := 59) hx hb dX5_greatest_6 (by decide) (fun hc => absurd hc (by decide)) (fun _ => ?_)
        refine lv_aload_n hx hb dX5_greatest_9 rfl (lv_at hl 2 rfl) ?_
        refine va_get (D := D) (ci := 6) (v := .ref (ma 28)) (C := RX5) (T := TX5) (N := 29) hx hb hts in_X5_greatest_X5 hown hK hP 0 rfl rfl 28 (by decide) w_0 (fun _ h9 => h9) rfl dX5_greatest_10 ?_
        refine lv_iload_n hx hb dX5_greatest_13 rfl (lv_at hl 0 rfl) ?_
        refine va_iald hx hb hK hP 1 0 rfl rfl (by unfold vp_in; decide) dX5_greatest_14 ?_
        refine lv_topi (fun z_34 ez_34 => ?_)
        have fz_34 : z_34 = (-1) := ez_34.trans (by rw [show (2 : Int32).toNatClampNeg = 2 by decide, haf 2 (by decide), hb2] <;> rfl)
        subst fz_34
        refine lv_if_lt (tgt := 51) hx hb dX5_greatest_15 (by decide) (fun _ => ?_) (fun hc => absurd (by decide) hc)
        refine lv_iload_n hx hb dX5_greatest_51 rfl (lv_at hl 1 rfl) ?_
        refine lv_istore_n (lv' := [(1, .int 0), (2, .int 2), (0, .ref mo)]) hx hb dX5_greatest_52 rfl hl (by decide) rfl (fun ls hl => ?_)
        refine lv_iinc (v := 3) (lv' := [(2, .int 3), (1, .int 0), (0, .ref mo)]) hx hb dX5_greatest_53 hl (k := 1) rfl (by decide) (by decide) rfl (fun ls hl => ?_)
        refine lv_goto (tgt := 4) hx hb dX5_greatest_56 (by decide) ?_
        cases hb3 : bt 3
        · skip
          refine lv_iload_n hx hb dX5_greatest_4 rfl (lv_at hl 0 rfl) ?_
          refine lv_iconst (v := 5) hx hb dX5_greatest_5 (by decide) ?_
          refine lv_icmp_ge (tgt := 59) hx hb dX5_greatest_6 (by decide) (fun hc => absurd hc (by decide)) (fun _ => ?_)
          refine lv_aload_n hx hb dX5_greatest_9 rfl (lv_at hl 2 rfl) ?_
          refine va_get (D := D) (ci := 6) (v := .ref (ma 28)) (C := RX5) (T := TX5) (N := 29) hx hb hts in_X5_greatest_X5 hown hK hP 0 rfl rfl 28 (by decide) w_0 (fun _ h9 => h9) rfl dX5_greatest_10 ?_
          refine lv_iload_n hx hb dX5_greatest_13 rfl (lv_at hl 0 rfl) ?_
          refine va_iald hx hb hK hP 1 0 rfl rfl (by unfold vp_in; decide) dX5_greatest_14 ?_
          refine lv_topi (fun z_35 ez_35 => ?_)
          have fz_35 : z_35 = (-1) := ez_35.trans (by rw [show (3 : Int32).toNatClampNeg = 3 by decide, haf 3 (by decide), hb3] <;> rfl)
          subst fz_35
          refine lv_if_lt (tgt := 51) hx hb dX5_greatest_15 (by decide) (fun _ => ?_) (fun hc => absurd (by decide) hc)
          refine lv_iload_n hx hb dX5_greatest_51 rfl (lv_at hl 1 rfl) ?_
          refine lv_istore_n (lv' := [(1, .int 0), (2, .int 3), (0, .ref mo)]) hx hb dX5_greatest_52 rfl hl (by decide) rfl (fun ls hl => ?_)
          refine lv_iinc (v := 4) (lv' := [(2, .int 4), (1, .int 0), (0, .ref mo)]) hx hb dX5_greatest_53 hl (k := 1) rfl (by decide) (by decide) rfl (fun ls hl => ?_)
          refine lv_goto (tgt := 4) hx hb dX5_greatest_56 (by decide) ?_
          cases hb4 : bt 4
          · skip
            refine lv_iload_n hx hb dX5_greatest_4 rfl (lv_at hl 0 rfl) ?_
            refine lv_iconst (v := 5) hx hb dX5_greatest_5 (by decide) ?_
            refine lv_icmp_ge (tgt := 59) hx hb dX5_greatest_6 (by decide) (fun hc => absurd hc (by decide)) (fun _ => ?_)
            refine lv_aload_n hx hb dX5_greatest_9 rfl (lv_at hl 2 rfl) ?_
            refine va_get (D := D) (ci := 6) (v := .ref (ma 28)) (C := RX5) (T := TX5) (N := 29) hx hb hts in_X5_greatest_X5 hown hK hP 0 rfl rfl 28 (by decide) w_0 (fun _ h9 => h9) rfl dX5_greatest_10 ?_
            refine lv_iload_n hx hb dX5_greatest_13 rfl (lv_at hl 0 rfl) ?_
            refine va_iald hx hb hK hP 1 0 rfl rfl (by unfold vp_in; decide) dX5_greatest_14 ?_
            refine lv_topi (fun z_36 ez_36 => ?_)
            have fz_36 : z_36 = (-1) := ez_36.trans (by rw [show (4 : Int32).toNatClampNeg = 4 by decide, haf 4 (by decide), hb4] <;> rfl)
            subst fz_36
            refine lv_if_lt (tgt := 51) hx hb dX5_greatest_15 (by decide) (fun _ => ?_) (fun hc => absurd (by decide) hc)
            refine lv_iload_n hx hb dX5_greatest_51 rfl (lv_at hl 1 rfl) ?_
            refine lv_istore_n (lv' := [(1, .int 0), (2, .int 4), (0, .ref mo)]) hx hb dX5_greatest_52 rfl hl (by decide) rfl (fun ls hl => ?_)
            refine lv_iinc (v := 5) (lv' := [(2, .int 5), (1, .int 0), (0, .ref mo)]) hx hb dX5_greatest_53 hl (k := 1) rfl (by decide) (by decide) rfl (fun ls hl => ?_)
            refine lv_goto (tgt := 4) hx hb dX5_greatest_56 (by decide) ?_
            refine lv_iload_n hx hb dX5_greatest_4 rfl (lv_at hl 0 rfl) ?_
            refine lv_iconst (v := 5) hx hb dX5_greatest_5 (by decide) ?_
            refine lv_icmp_ge (tgt := 59) hx hb dX5_greatest_6 (by decide) (fun _ => ?_) (fun hc => absurd (by decide) hc)
            refine lv_iload_n hx hb dX5_greatest_59 rfl (lv_at hl 1 rfl) ?_
            have hP9 := hP.sub (ws' := [(mo, .inr (6, [.int th, .int 1, .ref (ma 2), .ref (ma 3), .ref (ma 4), .ref (ma 5), .ref (ma 6), .ref (ma 7), .ref (ma 8), .ref (ma 9), .ref (ma 10), .ref (ma 11), .ref (ma 12), .ref (ma 13), .ref (ma 14), .ref (ma 15), .ref (ma 16), .ref (ma 17), .ref (ma 18), .ref (ma 19), .ref (ma 20), .ref (ma 21), .int 0, .ref (ma 23), .ref (ma 24), .ref (ma 25), .ref (ma 26), .ref (ma 27), .ref (ma 28)])), ((ma 28), wI tC 5 af), ((ma 2), wI tC 600 (fun _ => 0))]) [0, 1, 2] rfl
            have hD9 := hD.sub (ws' := [(mo, .inr (6, [.int th, .int 1, .ref (ma 2), .ref (ma 3), .ref (ma 4), .ref (ma 5), .ref (ma 6), .ref (ma 7), .ref (ma 8), .ref (ma 9), .ref (ma 10), .ref (ma 11), .ref (ma 12), .ref (ma 13), .ref (ma 14), .ref (ma 15), .ref (ma 16), .ref (ma 17), .ref (ma 18), .ref (ma 19), .ref (ma 20), .ref (ma 21), .int 0, .ref (ma 23), .ref (ma 24), .ref (ma 25), .ref (ma 26), .ref (ma 27), .ref (ma 28)])), ((ma 28), wI tC 5 af), ((ma 2), wI tC 600 (fun _ => 0))]) [0, 1, 2] (by decide) rfl
            refine W.widen (k := 0) (n := 0) (by omega) (by omega) ?_
            exact W.iret (v := 0) hx hb hr (fun t ht hW => ⟨⟨0, (), rfl, rfl, (by rw [ht]; exact hP9), va_K.moved hW.alike hK, hD9⟩, hS.F ht⟩) hS.2.2 dX5_greatest_60 hlocks
          · skip
            refine lv_iload_n hx hb dX5_greatest_4 rfl (lv_at hl 0 rfl) ?_
            refine lv_iconst (v := 5) hx hb dX5_greatest_5 (by decide) ?_
            refine lv_icmp_ge (tgt := 59) hx hb dX5_greatest_6 (by decide) (fun hc => absurd hc (by decide)) (fun _ => ?_)
            refine lv_aload_n hx hb dX5_greatest_9 rfl (lv_at hl 2 rfl) ?_
            refine va_get (D := D) (ci := 6) (v := .ref (ma 28)) (C := RX5) (T := TX5) (N := 29) hx hb hts in_X5_greatest_X5 hown hK hP 0 rfl rfl 28 (by decide) w_0 (fun _ h9 => h9) rfl dX5_greatest_10 ?_
            refine lv_iload_n hx hb dX5_greatest_13 rfl (lv_at hl 0 rfl) ?_
            refine va_iald hx hb hK hP 1 0 rfl rfl (by unfold vp_in; decide) dX5_greatest_14 ?_
            refine lv_topi (fun z_37 ez_37 => ?_)
            have fz_37 : z_37 = 0 := ez_37.trans (by rw [show (4 : Int32).toNatClampNeg = 4 by decide, haf 4 (by decide), hb4] <;> rfl)
            subst fz_37
            refine lv_if_lt (tgt := 51) hx hb dX5_greatest_15 (by decide) (fun hc => absurd hc (by decide)) (fun _ => ?_)
            refine lv_iload_n hx hb dX5_greatest_18 rfl (lv_at hl 1 rfl) ?_
            refine lv_if_lt (tgt := 42) hx hb dX5_greatest_19 (by decide) (fun hc => absurd hc (by decide)) (fun _ => ?_)
            refine lv_aload_n hx hb dX5_greatest_22 rfl (lv_at hl 2 rfl) ?_
            refine va_get (D := D) (ci := 6) (v := .ref (ma 2)) (C := RX5) (T := TX5) (N := 29) hx hb hts in_X5_greatest_X5 hown hK hP 0 rfl rfl 2 (by decide) w_1 (fun _ h9 => h9) rfl dX5_greatest_23 ?_
            refine lv_aload_n hx hb dX5_greatest_26 rfl (lv_at hl 2 rfl) ?_
            refine va_get (D := D) (ci := 6) (v := .ref (ma 28)) (C := RX5) (T := TX5) (N := 29) hx hb hts in_X5_greatest_X5 hown hK hP 0 rfl rfl 28 (by decide) w_0 (fun _ h9 => h9) rfl dX5_greatest_27 ?_
            refine lv_iload_n hx hb dX5_greatest_30 rfl (lv_at hl 0 rfl) ?_
            refine va_iald hx hb hK hP 1 0 rfl rfl (by unfold vp_in; decide) dX5_greatest_31 ?_
            refine lv_topi (fun z_38 ez_38 => ?_)
            have fz_38 : z_38 = 0 := ez_38.trans (by rw [show (4 : Int32).toNatClampNeg = 4 by decide, haf 4 (by decide), hb4] <;> rfl)
            subst fz_38
            refine va_iald hx hb hK hP 2 0 rfl rfl (by unfold vp_in; decide) dX5_greatest_32 ?_
            refine lv_topi (fun z_39 ez_39 => ?_)
            have fz_39 : z_39 = 0 := ez_39.trans (rfl)
            subst fz_39
            refine lv_aload_n hx hb dX5_greatest_33 rfl (lv_at hl 2 rfl) ?_
            refine va_get (D := D) (ci := 6) (v := .ref (ma 2)) (C := RX5) (T := TX5) (N := 29) hx hb hts in_X5_greatest_X5 hown hK hP 0 rfl rfl 2 (by decide) w_1 (fun _ h9 => h9) rfl dX5_greatest_34 ?_
            refine lv_iload_n hx hb dX5_greatest_37 rfl (lv_at hl 1 rfl) ?_
            refine va_iald hx hb hK hP 2 0 rfl rfl (by unfold vp_in; decide) dX5_greatest_38 ?_
            refine lv_topi (fun z_40 ez_40 => ?_)
            have fz_40 : z_40 = 0 := ez_40.trans (rfl)
            subst fz_40
            refine lv_icmp_le (tgt := 51) hx hb dX5_greatest_39 (by decide) (fun _ => ?_) (fun hc => absurd (by decide) hc)
            refine lv_iload_n hx hb dX5_greatest_51 rfl (lv_at hl 1 rfl) ?_
            refine lv_istore_n (lv' := [(1, .int 0), (2, .int 4), (0, .ref mo)]) hx hb dX5_greatest_52 rfl hl (by decide) rfl (fun ls hl => ?_)
            refine lv_iinc (v := 5) (lv' := [(2, .int 5), (1, .int 0), (0, .ref mo)]) hx hb dX5_greatest_53 hl (k := 1) rfl (by decide) (by decide) rfl (fun ls hl => ?_)
            refine lv_goto (tgt := 4) hx hb dX5_greatest_56 (by decide) ?_
            refine lv_iload_n hx hb dX5_greatest_4 rfl (lv_at hl 0 rfl) ?_
            refine lv_iconst (v := 5) hx hb dX5_greatest_5 (by decide) ?_
            refine lv_icmp_ge (tgt := 59) hx hb dX5_greatest_6 (by decide) (fun _ => ?_) (fun hc => absurd (by decide) hc)
            refine lv_iload_n hx hb dX5_greatest_59 rfl (lv_at hl 1 rfl) ?_
            have hP9 := hP.sub (ws' := [(mo, .inr (6, [.int th, .int 1, .ref (ma 2), .ref (ma 3), .ref (ma 4), .ref (ma 5), .ref (ma 6), .ref (ma 7), .ref (ma 8), .ref (ma 9), .ref (ma 10), .ref (ma 11), .ref (ma 12), .ref (ma 13), .ref (ma 14), .ref (ma 15), .ref (ma 16), .ref (ma 17), .ref (ma 18), .ref (ma 19), .ref (ma 20), .ref (ma 21), .int 0, .ref (ma 23), .ref (ma 24), .ref (ma 25), .ref (ma 26), .ref (ma 27), .ref (ma 28)])), ((ma 28), wI tC 5 af), ((ma 2), wI tC 600 (fun _ => 0))]) [0, 1, 2] rfl
            have hD9 := hD.sub (ws' := [(mo, .inr (6, [.int th, .int 1, .ref (ma 2), .ref (ma 3), .ref (ma 4), .ref (ma 5), .ref (ma 6), .ref (ma 7), .ref (ma 8), .ref (ma 9), .ref (ma 10), .ref (ma 11), .ref (ma 12), .ref (ma 13), .ref (ma 14), .ref (ma 15), .ref (ma 16), .ref (ma 17), .ref (ma 18), .ref (ma 19), .ref (ma 20), .ref (ma 21), .int 0, .ref (ma 23), .ref (ma 24), .ref (ma 25), .ref (ma 26), .ref (ma 27), .ref (ma 28)])), ((ma 28), wI tC 5 af), ((ma 2), wI tC 600 (fun _ => 0))]) [0, 1, 2] (by decide) rfl
            refine W.widen (k := 0) (n := 0) (by omega) (by omega) ?_
            exact W.iret (v := 0) hx hb hr (fun t ht hW => ⟨⟨0, (), rfl, rfl, (by rw [ht]; exact hP9), va_K.moved hW.alike hK, hD9⟩, hS.F ht⟩) hS.2.2 dX5_greatest_60 hlocks
        · skip
          refine lv_iload_n hx hb dX5_greatest_4 rfl (lv_at hl 0 rfl) ?_
          refine lv_iconst (v := 5) hx hb dX5_greatest_5 (by decide) ?_
          refine lv_icmp_ge (tgt := 59) hx hb dX5_greatest_6 (by decide) (fun hc => absurd hc (by decide)) (fun _ => ?_)
          refine lv_aload_n hx hb dX5_greatest_9 rfl (lv_at hl 2 rfl) ?_
          refine va_get (D := D) (ci := 6) (v := .ref (ma 28)) (C := RX5) (T := TX5) (N := 29) hx hb hts in_X5_greatest_X5 hown hK hP 0 rfl rfl 28 (by decide) w_0 (fun _ h9 => h9) rfl dX5_greatest_10 ?_
          refine lv_iload_n hx hb dX5_greatest_13 rfl (lv_at hl 0 rfl) ?_
          refine va_iald hx hb hK hP 1 0 rfl rfl (by unfold vp_in; decide) dX5_greatest_14 ?_
          refine lv_topi (fun z_41 ez_41 => ?_)
          have fz_41 : z_41 = 0 := ez_41.trans (by rw [show (3 : Int32).toNatClampNeg = 3 by decide, haf 3 (by decide), hb3] <;> rfl)
          subst fz_41
          refine lv_if_lt (tgt := 51) hx hb dX5_greatest_15 (by decide) (fun hc => absurd hc (by decide)) (fun _ => ?_)
          refine lv_iload_n hx hb dX5_greatest_18 rfl (lv_at hl 1 rfl) ?_
          refine lv_if_lt (tgt := 42) hx hb dX5_greatest_19 (by decide) (fun hc => absurd hc (by decide)) (fun _ => ?_)
          refine lv_aload_n hx hb dX5_greatest_22 rfl (lv_at hl 2 rfl) ?_
          refine va_get (D := D) (ci := 6) (v := .ref (ma 2)) (C := RX5) (T := TX5) (N := 29) hx hb hts in_X5_greatest_X5 hown hK hP 0 rfl rfl 2 (by decide) w_1 (fun _ h9 => h9) rfl dX5_greatest_23 ?_
          refine lv_aload_n hx hb dX5_greatest_26 rfl (lv_at hl 2 rfl) ?_
          refine va_get (D := D) (ci := 6) (v := .ref (ma 28)) (C := RX5) (T := TX5) (N := 29) hx hb hts in_X5_greatest_X5 hown hK hP 0 rfl rfl 28 (by decide) w_0 (fun _ h9 => h9) rfl dX5_greatest_27 ?_
          refine lv_iload_n hx hb dX5_greatest_30 rfl (lv_at hl 0 rfl) ?_
          refine va_iald hx hb hK hP 1 0 rfl rfl (by unfold vp_in; decide) dX5_greatest_31 ?_
          refine lv_topi (fun z_42 ez_42 => ?_)
          have fz_42 : z_42 = 0 := ez_42.trans (by rw [show (3 : Int32).toNatClampNeg = 3 by decide, haf 3 (by decide), hb3] <;> rfl)
          subst fz_42
          refine va_iald hx hb hK hP 2 0 rfl rfl (by unfold vp_in; decide) dX5_greatest_32 ?_
          refine lv_topi (fun z_43 ez_43 => ?_)
          have fz_43 : z_43 = 0 := ez_43.trans (rfl)
          subst fz_43
          refine lv_aload_n hx hb dX5_greatest_33 rfl (lv_at hl 2 rfl) ?_
          refine va_get (D := D) (ci := 6) (v := .ref (ma 2)) (C := RX5) (T := TX5) (N := 29) hx hb hts in_X5_greatest_X5 hown hK hP 0 rfl rfl 2 (by decide) w_1 (fun _ h9 => h9) rfl dX5_greatest_34 ?_
          refine lv_iload_n hx hb dX5_greatest_37 rfl (lv_at hl 1 rfl) ?_
          refine va_iald hx hb hK hP 2 0 rfl rfl (by unfold vp_in; decide) dX5_greatest_38 ?_
          refine lv_topi (fun z_44 ez_44 => ?_)
          have fz_44 : z_44 = 0 := ez_44.trans (rfl)
          subst fz_44
          refine lv_icmp_le (tgt := 51) hx hb dX5_greatest_39 (by decide) (fun _ => ?_) (fun hc => absurd (by decide) hc)
          refine lv_iload_n hx hb dX5_greatest_51 rfl (lv_at hl 1 rfl) ?_
          refine lv_istore_n (lv' := [(1, .int 0), (2, .int 3), (0, .ref mo)]) hx hb dX5_greatest_52 rfl hl (by decide) rfl (fun ls hl => ?_)
          refine lv_iinc (v := 4) (lv' := [(2, .int 4), (1, .int 0), (0, .ref mo)]) hx hb dX5_greatest_53 hl (k := 1) rfl (by decide) (by decide) rfl (fun ls hl => ?_)
          refine lv_goto (tgt := 4) hx hb dX5_greatest_56 (by decide) ?_
          cases hb4 : bt 4
          · skip
            refine lv_iload_n hx hb dX5_greatest_4 rfl (lv_at hl 0 rfl) ?_
            refine lv_iconst (v := 5) hx hb dX5_greatest_5 (by decide) ?_
            refine lv_icmp_ge (tgt := 59) hx hb dX5_greatest_6 (by decide) (fun hc => absurd hc (by decide)) (fun _ => ?_)
            refine lv_aload_n hx hb dX5_greatest_9 rfl (lv_at hl 2 rfl) ?_
            refine va_get (D := D) (ci := 6) (v := .ref (ma 28)) (C := RX5) (T := TX5) (N := 29) hx hb hts in_X5_greatest_X5 hown hK hP 0 rfl rfl 28 (by decide) w_0 (fun _ h9 => h9) rfl dX5_greatest_10 ?_
            refine lv_iload_n hx hb dX5_greatest_13 rfl (lv_at hl 0 rfl) ?_
            refine va_iald hx hb hK hP 1 0 rfl rfl (by unfold vp_in; decide) dX5_greatest_14 ?_
            refine lv_topi (fun z_45 ez_45 => ?_)
            have fz_45 : z_45 = (-1) := ez_45.trans (by rw [show (4 : Int32).toNatClampNeg = 4 by decide, haf 4 (by decide), hb4] <;> rfl)
            subst fz_45
            refine lv_if_lt (tgt := 51) hx hb dX5_greatest_15 (by decide) (fun _ => ?_) (fun hc => absurd (by decide) hc)
            refine lv_iload_n hx hb dX5_greatest_51 rfl (lv_at hl 1 rfl) ?_
            refine lv_istore_n (lv' := [(1, .int 0), (2, .int 4), (0, .ref mo)]) hx hb dX5_greatest_52 rfl hl (by decide) rfl (fun ls hl => ?_)
            refine lv_iinc (v := 5) (lv' := [(2, .int 5), (1, .int 0), (0, .ref mo)]) hx hb dX5_greatest_53 hl (k := 1) rfl (by decide) (by decide) rfl (fun ls hl => ?_)
            refine lv_goto (tgt := 4) hx hb dX5_greatest_56 (by decide) ?_
            refine lv_iload_n hx hb dX5_greatest_4 rfl (lv_at hl 0 rfl) ?_
            refine lv_iconst (v := 5) hx hb dX5_greatest_5 (by decide) ?_
            refine lv_icmp_ge (tgt := 59) hx hb dX5_greatest_6 (by decide) (fun _ => ?_) (fun hc => absurd (by decide) hc)
            refine lv_iload_n hx hb dX5_greatest_59 rfl (lv_at hl 1 rfl) ?_
            have hP9 := hP.sub (ws' := [(mo, .inr (6, [.int th, .int 1, .ref (ma 2), .ref (ma 3), .ref (ma 4), .ref (ma 5), .ref (ma 6), .ref (ma 7), .ref (ma 8), .ref (ma 9), .ref (ma 10), .ref (ma 11), .ref (ma 12), .ref (ma 13), .ref (ma 14), .ref (ma 15), .ref (ma 16), .ref (ma 17), .ref (ma 18), .ref (ma 19), .ref (ma 20), .ref (ma 21), .int 0, .ref (ma 23), .ref (ma 24), .ref (ma 25), .ref (ma 26), .ref (ma 27), .ref (ma 28)])), ((ma 28), wI tC 5 af), ((ma 2), wI tC 600 (fun _ => 0))]) [0, 1, 2] rfl
            have hD9 := hD.sub (ws' := [(mo, .inr (6, [.int th, .int 1, .ref (ma 2), .ref (ma 3), .ref (ma 4), .ref (ma 5), .ref (ma 6), .ref (ma 7), .ref (ma 8), .ref (ma 9), .ref (ma 10), .ref (ma 11), .ref (ma 12), .ref (ma 13), .ref (ma 14), .ref (ma 15), .ref (ma 16), .ref (ma 17), .ref (ma 18), .ref (ma 19), .ref (ma 20), .ref (ma 21), .int 0, .ref (ma 23), .ref (ma 24), .ref (ma 25), .ref (ma 26), .ref (ma 27), .ref (ma 28)])), ((ma 28), wI tC 5 af), ((ma 2), wI tC 600 (fun _ => 0))]) [0, 1, 2] (by decide) rfl
            refine W.widen (k := 0) (n := 0) (by omega) (by omega) ?_
            exact W.iret (v := 0) hx hb hr (fun t ht hW => ⟨⟨0, (), rfl, rfl, (by rw [ht]; exact hP9), va_K.moved hW.alike hK, hD9⟩, hS.F ht⟩) hS.2.2 dX5_greatest_60 hlocks
          · skip
            refine lv_iload_n hx hb dX5_greatest_4 rfl (lv_at hl 0 rfl) ?_
            refine lv_iconst (v := 5) hx hb dX5_greatest_5 (by decide) ?_
            refine lv_icmp_ge (tgt := 59) hx hb dX5_greatest_6 (by decide) (fun hc => absurd hc (by decide)) (fun _ => ?_)
            refine lv_aload_n hx hb dX5_greatest_9 rfl (lv_at hl 2 rfl) ?_
            refine va_get (D := D) (ci := 6) (v := .ref (ma 28)) (C := RX5) (T := TX5) (N := 29) hx hb hts in_X5_greatest_X5 hown hK hP 0 rfl rfl 28 (by decide) w_0 (fun _ h9 => h9) rfl dX5_greatest_10 ?_
            refine lv_iload_n hx hb dX5_greatest_13 rfl (lv_at hl 0 rfl) ?_
            refine va_iald hx hb hK hP 1 0 rfl rfl (by unfold vp_in; decide) dX5_greatest_14 ?_
            refine lv_topi (fun z_46 ez_46 => ?_)
            have fz_46 : z_46 = 0 := ez_46.trans (by rw [show (4 : Int32).toNatClampNeg = 4 by decide, haf 4 (by decide), hb4] <;> rfl)
            subst fz_46
            refine lv_if_lt (tgt := 51) hx hb dX5_greatest_15 (by decide) (fun hc => absurd hc (by decide)) (fun _ => ?_)
            refine lv_iload_n hx hb dX5_greatest_18 rfl (lv_at hl 1 rfl) ?_
            refine lv_if_lt (tgt := 42) hx hb dX5_greatest_19 (by decide) (fun hc => absurd hc (by decide)) (fun _ => ?_)
            refine lv_aload_n hx hb dX5_greatest_22 rfl (lv_at hl 2 rfl) ?_
            refine va_get (D := D) (ci := 6) (v := .ref (ma 2)) (C := RX5) (T := TX5) (N := 29) hx hb hts in_X5_greatest_X5 hown hK hP 0 rfl rfl 2 (by decide) w_1 (fun _ h9 => h9) rfl dX5_greatest_23 ?_
            refine lv_aload_n hx hb dX5_greatest_26 rfl (lv_at hl 2 rfl) ?_
            refine va_get (D := D) (ci := 6) (v := .ref (ma 28)) (C := RX5) (T := TX5) (N := 29) hx hb hts in_X5_greatest_X5 hown hK hP 0 rfl rfl 28 (by decide) w_0 (fun _ h9 => h9) rfl dX5_greatest_27 ?_
            refine lv_iload_n hx hb dX5_greatest_30 rfl (lv_at hl 0 rfl) ?_
            refine va_iald hx hb hK hP 1 0 rfl rfl (by unfold vp_in; decide) dX5_greatest_31 ?_
            refine lv_topi (fun z_47 ez_47 => ?_)
            have fz_47 : z_47 = 0 := ez_47.trans (by rw [show (4 : Int32).toNatClampNeg = 4 by decide, haf 4 (by decide), hb4] <;> rfl)
            subst fz_47
            refine va_iald hx hb hK hP 2 0 rfl rfl (by unfold vp_in; decide) dX5_greatest_32 ?_
            refine lv_topi (fun z_48 ez_48 => ?_)
            have fz_48 : z_48 = 0 := ez_48.trans (rfl)
            subst fz_48
            refine lv_aload_n hx hb dX5_greatest_33 rfl (lv_at hl 2 rfl) ?_
            refine va_get (D := D) (ci := 6) (v := .ref (ma 2)) (C := RX5) (T := TX5) (N := 29) hx hb hts in_X5_greatest_X5 hown hK hP 0 rfl rfl 2 (by decide) w_1 (fun _ h9 => h9) rfl dX5_greatest_34 ?_
            refine lv_iload_n hx hb dX5_greatest_37 rfl (lv_at hl 1 rfl) ?_
            refine va_iald hx hb hK hP 2 0 rfl rfl (by unfold vp_in; decide) dX5_greatest_38 ?_
            refine lv_topi (fun z_49 ez_49 => ?_)
            have fz_49 : z_49 = 0 := ez_49.trans (rfl)
            subst fz_49
            refine lv_icmp_le (tgt := 51) hx hb dX5_greatest_39 (by decide) (fun _ => ?_) (fun hc => absurd (by decide) hc)
            refine lv_iload_n hx hb dX5_greatest_51 rfl (lv_at hl 1 rfl) ?_
            refine lv_istore_n (lv' := [(1, .int 0), (2, .int 4), (0, .ref mo)]) hx hb dX5_greatest_52 rfl hl (by decide) rfl (fun ls hl => ?_)
            refine lv_iinc (v := 5) (lv' := [(2, .int 5), (1, .int 0), (0, .ref mo)]) hx hb dX5_greatest_53 hl (k := 1) rfl (by decide) (by decide) rfl (fun ls hl => ?_)
            refine lv_goto (tgt := 4) hx hb dX5_greatest_56 (by decide) ?_
            refine lv_iload_n hx hb dX5_greatest_4 rfl (lv_at hl 0 rfl) ?_
            refine lv_iconst (v := 5) hx hb dX5_greatest_5 (by decide) ?_
            refine lv_icmp_ge (tgt := 59) hx hb dX5_greatest_6 (by decide) (fun _ => ?_) (fun hc => absurd (by decide) hc)
            refine lv_iload_n hx hb dX5_greatest_59 rfl (lv_at hl 1 rfl) ?_
            have hP9 := hP.sub (ws' := [(mo, .inr (6, [.int th, .int 1, .ref (ma 2), .ref (ma 3), .ref (ma 4), .ref (ma 5), .ref (ma 6), .ref (ma 7), .ref (ma 8), .ref (ma 9), .ref (ma 10), .ref (ma 11), .ref (ma 12), .ref (ma 13), .ref (ma 14), .ref (ma 15), .ref (ma 16), .ref (ma 17), .ref (ma 18), .ref (ma 19), .ref (ma 20), .ref (ma 21), .int 0, .ref (ma 23), .ref (ma 24), .ref (ma 25), .ref (ma 26), .ref (ma 27), .ref (ma 28)])), ((ma 28), wI tC 5 af), ((ma 2), wI tC 600 (fun _ => 0))]) [0, 1, 2] rfl
            have hD9 := hD.sub (ws' := [(mo, .inr (6, [.int th, .int 1, .ref (ma 2), .ref (ma 3), .ref (ma 4), .ref (ma 5), .ref (ma 6), .ref (ma 7), .ref (ma 8), .ref (ma 9), .ref (ma 10), .ref (ma 11), .ref (ma 12), .ref (ma 13), .ref (ma 14), .ref (ma 15), .ref (ma 16), .ref (ma 17), .ref (ma 18), .ref (ma 19), .ref (ma 20), .ref (ma 21), .int 0, .ref (ma 23), .ref (ma 24), .ref (ma 25), .ref (ma 26), .ref (ma 27), .ref (ma 28)])), ((ma 28), wI tC 5 af), ((ma 2), wI tC 600 (fun _ => 0))]) [0, 1, 2] (by decide) rfl
            refine W.widen (k := 0) (n := 0) (by omega) (by omega) ?_
            exact W.iret (v := 0) hx hb hr (fun t ht hW => ⟨⟨0, (), rfl, rfl, (by rw [ht]; exact hP9), va_K.moved hW.alike hK, hD9⟩, hS.F ht⟩) hS.2.2 dX5_greatest_60 hlocks
      · skip
        refine lv_iload_n hx hb dX5_greatest_4 rfl (lv_at hl 0 rfl) ?_
        refine lv_iconst (v := 5) hx hb dX5_greatest_5 (by decide) ?_
        refine lv_icmp_ge (tgt := 59) hx hb dX5_greatest_6 (by decide) (fun hc => absurd hc (by decide)) (fun _ => ?_)
        refine lv_aload_n hx hb dX5_greatest_9 rfl (lv_at hl 2 rfl) ?_
        refine va_get (D := D) (ci := 6) (v := .ref (ma 28)) (C := RX5) (T := TX5) (N := 29) hx hb hts in_X5_greatest_X5 hown hK hP 0 rfl rfl 28 (by decide) w_0 (fun _ h9 => h9) rfl dX5_greatest_10 ?_
        refine lv_iload_n hx hb dX5_greatest_13 rfl (lv_at hl 0 rfl) ?_
        refine va_iald hx hb hK hP 1 0 rfl rfl (by unfold vp_in; decide) dX5_greatest_14 ?_
        refine lv_topi (fun z_50 ez_50 => ?_)
        have fz_50 : z_50 = 0 := ez_50.trans (by rw [show (2 : Int32).toNatClampNeg = 2 by decide, haf 2 (by decide), hb2] <;> rfl)
        subst fz_50
        refine lv_if_lt (tgt := 51) hx hb dX5_greatest_15 (by decide) (fun hc => absurd hc (by decide)) (fun _ => ?_)
        refine lv_iload_n hx hb dX5_greatest_18 rfl (lv_at hl 1 rfl) ?_
        refine lv_if_lt (tgt := 42) hx hb dX5_greatest_19 (by decide) (fun hc => absurd hc (by decide)) (fun _ => ?_)
        refine lv_aload_n hx hb dX5_greatest_22 rfl (lv_at hl 2 rfl) ?_
        refine va_get (D := D) (ci := 6) (v := .ref (ma 2)) (C := RX5) (T := TX5) (N := 29) hx hb hts in_X5_greatest_X5 hown hK hP 0 rfl rfl 2 (by decide) w_1 (fun _ h9 => h9) rfl dX5_greatest_23 ?_
        refine lv_aload_n hx hb dX5_greatest_26 rfl (lv_at hl 2 rfl) ?_
        refine va_get (D := D) (ci := 6) (v := .ref (ma 28)) (C := RX5) (T := TX5) (N := 29) hx hb hts in_X5_greatest_X5 hown hK hP 0 rfl rfl 28 (by decide) w_0 (fun _ h9 => h9) rfl dX5_greatest_27 ?_
        refine lv_iload_n hx hb dX5_greatest_30 rfl (lv_at hl 0 rfl) ?_
        refine va_iald hx hb hK hP 1 0 rfl rfl (by unfold vp_in; decide) dX5_greatest_31 ?_
        refine lv_topi (fun z_51 ez_51 => ?_)
        have fz_51 : z_51 = 0 := ez_51.trans (by rw [show (2 : Int32).toNatClampNeg = 2 by decide, haf 2 (by decide), hb2] <;> rfl)
        subst fz_51
        refine va_iald hx hb hK hP 2 0 rfl rfl (by unfold vp_in; decide) dX5_greatest_32 ?_
        refine lv_topi (fun z_52 ez_52 => ?_)
        have fz_52 : z_52 = 0 := ez_52.trans (rfl)
        subst fz_52
        refine lv_aload_n hx hb dX5_greatest_33 rfl (lv_at hl 2 rfl) ?_
        refine va_get (D := D) (ci := 6) (v := .ref (ma 2)) (C := RX5) (T := TX5) (N := 29) hx hb hts in_X5_greatest_X5 hown hK hP 0 rfl rfl 2 (by decide) w_1 (fun _ h9 => h9) rfl dX5_greatest_34 ?_
        refine lv_iload_n hx hb dX5_greatest_37 rfl (lv_at hl 1 rfl) ?_
        refine va_iald hx hb hK hP 2 0 rfl rfl (by unfold vp_in; decide) dX5_greatest_38 ?_
        refine lv_topi (fun z_53 ez_53 => ?_)
        have fz_53 : z_53 = 0 := ez_53.trans (rfl)
        subst fz_53
        refine lv_icmp_le (tgt := 51) hx hb dX5_greatest_39 (by decide) (fun _ => ?_) (fun hc => absurd (by decide) hc)
        refine lv_iload_n hx hb dX5_greatest_51 rfl (lv_at hl 1 rfl) ?_
        refine lv_istore_n (lv' := [(1, .int 0), (2, .int 2), (0, .ref mo)]) hx hb dX5_greatest_52 rfl hl (by decide) rfl (fun ls hl => ?_)
        refine lv_iinc (v := 3) (lv' := [(2, .int 3), (1, .int 0), (0, .ref mo)]) hx hb dX5_greatest_53 hl (k := 1) rfl (by decide) (by decide) rfl (fun ls hl => ?_)
        refine lv_goto (tgt := 4) hx hb dX5_greatest_56 (by decide) ?_
        cases hb3 : bt 3
        · skip
          refine lv_iload_n hx hb dX5_greatest_4 rfl (lv_at hl 0 rfl) ?_
          refine lv_iconst (v := 5) hx hb dX5_greatest_5 (by decide) ?_
          refine lv_icmp_ge (tgt := 59) hx hb dX5_greatest_6 (by decide) (fun hc => absurd hc (by decide)) (fun _ => ?_)
          refine lv_aload_n hx hb dX5_greatest_9 rfl (lv_at hl 2 rfl) ?_
          refine va_get (D := D) (ci := 6) (v := .ref (ma 28)) (C := RX5) (T := TX5) (N := 29) hx hb hts in_X5_greatest_X5 hown hK hP 0 rfl rfl 28 (by decide) w_0 (fun _ h9 => h9) rfl dX5_greatest_10 ?_
          refine lv_iload_n hx hb dX5_greatest_13 rfl (lv_at hl 0 rfl) ?_
          refine va_iald hx hb hK hP 1 0 rfl rfl (by unfold vp_in; decide) dX5_greatest_14 ?_
          refine lv_topi (fun z_54 ez_54 => ?_)
          have fz_54 : z_54 = (-1) := ez_54.trans (by rw [show (3 : Int32).toNatClampNeg = 3 by decide, haf 3 (by decide), hb3] <;> rfl)
          subst fz_54
          refine lv_if_lt (tgt := 51) hx hb dX5_greatest_15 (by decide) (fun _ => ?_) (fun hc => absurd (by decide) hc)
          refine lv_iload_n hx hb dX5_greatest_51 rfl (lv_at hl 1 rfl) ?_
          refine lv_istore_n (lv' := [(1, .int 0), (2, .int 3), (0, .ref mo)]) hx hb dX5_greatest_52 rfl hl (by decide) rfl (fun ls hl => ?_)
          refine lv_iinc (v := 4) (lv' := [(2, .int 4), (1, .int 0), (0, .ref mo)]) hx hb dX5_greatest_53 hl (k := 1) rfl (by decide) (by decide) rfl (fun ls hl => ?_)
          refine lv_goto (tgt := 4) hx hb dX5_greatest_56 (by decide) ?_
          cases hb4 : bt 4
          · skip
            refine lv_iload_n hx hb dX5_greatest_4 rfl (lv_at hl 0 rfl) ?_
            refine lv_iconst (v := 5) hx hb dX5_greatest_5 (by decide) ?_
            refine lv_icmp_ge (tgt := 59) hx hb dX5_greatest_6 (by decide) (fun hc => absurd hc (by decide)) (fun _ => ?_)
            refine lv_aload_n hx hb dX5_greatest_9 rfl (lv_at hl 2 rfl) ?_
            refine va_get (D := D) (ci := 6) (v := .ref (ma 28)) (C := RX5) (T := TX5) (N := 29) hx hb hts in_X5_greatest_X5 hown hK hP 0 rfl rfl 28 (by decide) w_0 (fun _ h9 => h9) rfl dX5_greatest_10 ?_
            refine lv_iload_n hx hb dX5_greatest_13 rfl (lv_at hl 0 rfl) ?_
            refine va_iald hx hb hK hP 1 0 rfl rfl (by unfold vp_in; decide) dX5_greatest_14 ?_
            refine lv_topi (fun z_55 ez_55 => ?_)
            have fz_55 : z_55 = (-1) := ez_55.trans (by rw [show (4 : Int32).toNatClampNeg = 4 by decide, haf 4 (by decide), hb4] <;> rfl)
            subst fz_55
            refine lv_if_lt (tgt := 51) hx hb dX5_greatest_15 (by decide) (fun _ => ?_) (fun hc => absurd (by decide) hc)
            refine lv_iload_n hx hb dX5_greatest_51 rfl (lv_at hl 1 rfl) ?_
            refine lv_istore_n (lv' := [(1, .int 0), (2, .int 4), (0, .ref mo)]) hx hb dX5_greatest_52 rfl hl (by decide) rfl (fun ls hl => ?_)
            refine lv_iinc (v := 5) (lv' := [(2, .int 5), (1, .int 0), (0, .ref mo)]) hx hb dX5_greatest_53 hl (k := 1) rfl (by decide) (by decide) rfl (fun ls hl => ?_)
            refine lv_goto (tgt := 4) hx hb dX5_greatest_56 (by decide) ?_
            refine lv_iload_n hx hb dX5_greatest_4 rfl (lv_at hl 0 rfl) ?_
            refine lv_iconst (v := 5) hx hb dX5_greatest_5 (by decide) ?_
            refine lv_icmp_ge (tgt := 59) hx hb dX5_greatest_6 (by decide) (fun _ => ?_) (fun hc => absurd (by decide) hc)
            refine lv_iload_n hx hb dX5_greatest_59 rfl (lv_at hl 1 rfl) ?_
            have hP9 := hP.sub (ws' := [(mo, .inr (6, [.int th, .int 1, .ref (ma 2), .ref (ma 3), .ref (ma 4), .ref (ma 5), .ref (ma 6), .ref (ma 7), .ref (ma 8), .ref (ma 9), .ref (ma 10), .ref (ma 11), .ref (ma 12), .ref (ma 13), .ref (ma 14), .ref (ma 15), .ref (ma 16), .ref (ma 17), .ref (ma 18), .ref (ma 19), .ref (ma 20), .ref (ma 21), .int 0, .ref (ma 23), .ref (ma 24), .ref (ma 25), .ref (ma 26), .ref (ma 27), .ref (ma 28)])), ((ma 28), wI tC 5 af), ((ma 2), wI tC 600 (fun _ => 0))]) [0, 1, 2] rfl
            have hD9 := hD.sub (ws' := [(mo, .inr (6, [.int th, .int 1, .ref (ma 2), .ref (ma 3), .ref (ma 4), .ref (ma 5), .ref (ma 6), .ref (ma 7), .ref (ma 8), .ref (ma 9), .ref (ma 10), .ref (ma 11), .ref (ma 12), .ref (ma 13), .ref (ma 14), .ref (ma 15), .ref (ma 16), .ref (ma 17), .ref (ma 18), .ref (ma 19), .ref (ma 20), .ref (ma 21), .int 0, .ref (ma 23), .ref (ma 24), .ref (ma 25), .ref (ma 26), .ref (ma 27), .ref (ma 28)])), ((ma 28), wI tC 5 af), ((ma 2), wI tC 600 (fun _ => 0))]) [0, 1, 2] (by decide) rfl
            refine W.widen (k := 0) (n := 0) (by omega) (by omega) ?_
            exact W.iret (v := 0) hx hb hr (fun t ht hW => ⟨⟨0, (), rfl, rfl, (by rw [ht]; exact hP9), va_K.moved hW.alike hK, hD9⟩, hS.F ht⟩) hS.2.2 dX5_greatest_60 hlocks
          · skip
            refine lv_iload_n hx hb dX5_greatest_4 rfl (lv_at hl 0 rfl) ?_
            refine lv_iconst (v := 5) hx hb dX5_greatest_5 (by decide) ?_
            refine lv_icmp_ge (tgt := 59) hx hb dX5_greatest_6 (by decide) (fun hc => absurd hc (by decide)) (fun _ => ?_)
            refine lv_aload_n hx hb dX5_greatest_9 rfl (lv_at hl 2 rfl) ?_
            refine va_get (D := D) (ci := 6) (v := .ref (ma 28)) (C := RX5) (T := TX5) (N := 29) hx hb hts in_X5_greatest_X5 hown hK hP 0 rfl rfl 28 (by decide) w_0 (fun _ h9 => h9) rfl dX5_greatest_10 ?_
            refine lv_iload_n hx hb dX5_greatest_13 rfl (lv_at hl 0 rfl) ?_
            refine va_iald hx hb hK hP 1 0 rfl rfl (by unfold vp_in; decide) dX5_greatest_14 ?_
            refine lv_topi (fun z_56 ez_56 => ?_)
            have fz_56 : z_56 = 0 := ez_56.trans (by rw [show (4 : Int32).toNatClampNeg = 4 by decide, haf 4 (by decide), hb4] <;> rfl)
            subst fz_56
            refine lv_if_lt (tgt := 51) hx hb dX5_greatest_15 (by decide) (fun hc => absurd hc (by decide)) (fun _ => ?_)
            refine lv_iload_n hx hb dX5_greatest_18 rfl (lv_at hl 1 rfl) ?_
            refine lv_if_lt (tgt := 42) hx hb dX5_greatest_19 (by decide) (fun hc => absurd hc (by decide)) (fun _ => ?_)
            refine lv_aload_n hx hb dX5_greatest_22 rfl (lv_at hl 2 rfl) ?_
            refine va_get (D := D) (ci := 6) (v := .ref (ma 2)) (C := RX5) (T := TX5) (N := 29) hx hb hts in_X5_greatest_X5 hown hK hP 0 rfl rfl 2 (by decide) w_1 (fun _ h9 => h9) rfl dX5_greatest_23 ?_
            refine lv_aload_n hx hb dX5_greatest_26 rfl (lv_at hl 2 rfl) ?_
            refine va_get (D := D) (ci := 6) (v := .ref (ma 28)) (C := RX5) (T := TX5) (N := 29) hx hb hts in_X5_greatest_X5 hown hK hP 0 rfl rfl 28 (by decide) w_0 (fun _ h9 => h9) rfl dX5_greatest_27 ?_
            refine lv_iload_n hx hb dX5_greatest_30 rfl (lv_at hl 0 rfl) ?_
            refine va_iald hx hb hK hP 1 0 rfl rfl (by unfold vp_in; decide) dX5_greatest_31 ?_
            refine lv_topi (fun z_57 ez_57 => ?_)
            have fz_57 : z_57 = 0 := ez_57.trans (by rw [show (4 : Int32).toNatClampNeg = 4 by decide, haf 4 (by decide), hb4] <;> rfl)
            subst fz_57
            refine va_iald hx hb hK hP 2 0 rfl rfl (by unfold vp_in; decide) dX5_greatest_32 ?_
            refine lv_topi (fun z_58 ez_58 => ?_)
            have fz_58 : z_58 = 0 := ez_58.trans (rfl)
            subst fz_58
            refine lv_aload_n hx hb dX5_greatest_33 rfl (lv_at hl 2 rfl) ?_
            refine va_get (D := D) (ci := 6) (v := .ref (ma 2)) (C := RX5) (T := TX5) (N := 29) hx hb hts in_X5_greatest_X5 hown hK hP 0 rfl rfl 2 (by decide) w_1 (fun _ h9 => h9) rfl dX5_greatest_34 ?_
            refine lv_iload_n hx hb dX5_greatest_37 rfl (lv_at hl 1 rfl) ?_
            refine va_iald hx hb hK hP 2 0 rfl rfl (by unfold vp_in; decide) dX5_greatest_38 ?_
            refine lv_topi (fun z_59 ez_59 => ?_)
            have fz_59 : z_59 = 0 := ez_59.trans (rfl)
            subst fz_59
            refine lv_icmp_le (tgt := 51) hx hb dX5_greatest_39 (by decide) (fun _ => ?_) (fun hc => absurd (by decide) hc)
            refine lv_iload_n hx hb dX5_greatest_51 rfl (lv_at hl 1 rfl) ?_
            refine lv_istore_n (lv' := [(1, .int 0), (2, .int 4), (0, .ref mo)]) hx hb dX5_greatest_52 rfl hl (by decide) rfl (fun ls hl => ?_)
            refine lv_iinc (v := 5) (lv' := [(2, .int 5), (1, .int 0), (0, .ref mo)]) hx hb dX5_greatest_53 hl (k := 1) rfl (by decide) (by decide) rfl (fun ls hl => ?_)
            refine lv_goto (tgt := 4) hx hb dX5_greatest_56 (by decide) ?_
            refine lv_iload_n hx hb dX5_greatest_4 rfl (lv_at hl 0 rfl) ?_
            refine lv_iconst (v := 5) hx hb dX5_greatest_5 (by decide) ?_
            refine lv_icmp_ge (tgt := 59) hx hb dX5_greatest_6 (by decide) (fun _ => ?_) (fun hc => absurd (by decide) hc)
            refine lv_iload_n hx hb dX5_greatest_59 rfl (lv_at hl 1 rfl) ?_
            have hP9 := hP.sub (ws' := [(mo, .inr (6, [.int th, .int 1, .ref (ma 2), .ref (ma 3), .ref (ma 4), .ref (ma 5), .ref (ma 6), .ref (ma 7), .ref (ma 8), .ref (ma 9), .ref (ma 10), .ref (ma 11), .ref (ma 12), .ref (ma 13), .ref (ma 14), .ref (ma 15), .ref (ma 16), .ref (ma 17), .ref (ma 18), .ref (ma 19), .ref (ma 20), .ref (ma 21), .int 0, .ref (ma 23), .ref (ma 24), .ref (ma 25), .ref (ma 26), .ref (ma 27), .ref (ma 28)])), ((ma 28), wI tC 5 af), ((ma 2), wI tC 600 (fun _ => 0))]) [0, 1, 2] rfl
            have hD9 := hD.sub (ws' := [(mo, .inr (6, [.int th, .int 1, .ref (ma 2), .ref (ma 3), .ref (ma 4), .ref (ma 5), .ref (ma 6), .ref (ma 7), .ref (ma 8), .ref (ma 9), .ref (ma 10), .ref (ma 11), .ref (ma 12), .ref (ma 13), .ref (ma 14), .ref (ma 15), .ref (ma 16), .ref (ma 17), .ref (ma 18), .ref (ma 19), .ref (ma 20), .ref (ma 21), .int 0, .ref (ma 23), .ref (ma 24), .ref (ma 25), .ref (ma 26), .ref (ma 27), .ref (ma 28)])), ((ma 28), wI tC 5 af), ((ma 2), wI tC 600 (fun _ => 0))]) [0, 1, 2] (by decide) rfl
            refine W.widen (k := 0) (n := 0) (by omega) (by omega) ?_
            exact W.iret (v := 0) hx hb hr (fun t ht hW => ⟨⟨0, (), rfl, rfl, (by rw [ht]; exact hP9), va_K.moved hW.alike hK, hD9⟩, hS.F ht⟩) hS.2.2 dX5_greatest_60 hlocks
        · skip
          refine lv_iload_n hx hb dX5_greatest_4 rfl (lv_at hl 0 rfl) ?_
          refine lv_iconst (v := 5) hx hb dX5_greatest_5 (by decide) ?_
          refine lv_icmp_ge (tgt := 59) hx hb dX5_greatest_6 (by decide) (fun hc => absurd hc (by decide)) (fun _ => ?_)
          refine lv_aload_n hx hb dX5_greatest_9 rfl (lv_at hl 2 rfl) ?_
          refine va_get (D := D) (ci := 6) (v := .ref (ma 28)) (C := RX5) (T := TX5) (N := 29) hx hb hts in_X5_greatest_X5 hown hK hP 0 rfl rfl 28 (by decide) w_0 (fun _ h9 => h9) rfl dX5_greatest_10 ?_
          refine lv_iload_n hx hb dX5_greatest_13 rfl (lv_at hl 0 rfl) ?_
          refine va_iald hx hb hK hP 1 0 rfl rfl (by unfold vp_in; decide) dX5_greatest_14 ?_
          refine lv_topi (fun z_60 ez_60 => ?_)
          have fz_60 : z_60 = 0 := ez_60.trans (by rw [show (3 : Int32).toNatClampNeg = 3 by decide, haf 3 (by decide), hb3] <;> rfl)
          subst fz_60
          refine lv_if_lt (tgt := 51) hx hb dX5_greatest_15 (by decide) (fun hc => absurd hc (by decide)) (fun _ => ?_)
          refine lv_iload_n hx hb dX5_greatest_18 rfl (lv_at hl 1 rfl) ?_
          refine lv_if_lt (tgt := 42) hx hb dX5_greatest_19 (by decide) (fun hc => absurd hc (by decide)) (fun _ => ?_)
          refine lv_aload_n hx hb dX5_greatest_22 rfl (lv_at hl 2 rfl) ?_
          refine va_get (D := D) (ci := 6) (v := .ref (ma 2)) (C := RX5) (T := TX5) (N := 29) hx hb hts in_X5_greatest_X5 hown hK hP 0 rfl rfl 2 (by decide) w_1 (fun _ h9 => h9) rfl dX5_greatest_23 ?_
          refine lv_aload_n hx hb dX5_greatest_26 rfl (lv_at hl 2 rfl) ?_
          refine va_get (D := D) (ci := 6) (v := .ref (ma 28)) (C := RX5) (T := TX5) (N := 29) hx hb hts in_X5_greatest_X5 hown hK hP 0 rfl rfl 28 (by decide) w_0 (fun _ h9 => h9) rfl dX5_greatest_27 ?_
          refine lv_iload_n hx hb dX5_greatest_30 rfl (lv_at hl 0 rfl) ?_
          refine va_iald hx hb hK hP 1 0 rfl rfl (by unfold vp_in; decide) dX5_greatest_31 ?_
          refine lv_topi (fun z_61 ez_61 => ?_)
          have fz_61 : z_61 = 0 := ez_61.trans (by rw [show (3 : Int32).toNatClampNeg = 3 by decide, haf 3 (by decide), hb3] <;> rfl)
          subst fz_61
          refine va_iald hx hb hK hP 2 0 rfl rfl (by unfold vp_in; decide) dX5_greatest_32 ?_
          refine lv_topi (fun z_62 ez_62 => ?_)
          have fz_62 : z_62 = 0 := ez_62.trans (rfl)
          subst fz_62
          refine lv_aload_n hx hb dX5_greatest_33 rfl (lv_at hl 2 rfl) ?_
          refine va_get (D := D) (ci := 6) (v := .ref (ma 2)) (C := RX5) (T := TX5) (N := 29) hx hb hts in_X5_greatest_X5 hown hK hP 0 rfl rfl 2 (by decide) w_1 (fun _ h9 => h9) rfl dX5_greatest_34 ?_
          refine lv_iload_n hx hb dX5_greatest_37 rfl (lv_at hl 1 rfl) ?_
          refine va_iald hx hb hK hP 2 0 rfl rfl (by unfold vp_in; decide) dX5_greatest_38 ?_
          refine lv_topi (fun z_63 ez_63 => ?_)
          have fz_63 : z_63 = 0 := ez_63.trans (rfl)
          subst fz_63
          refine lv_icmp_le (tgt := 51) hx hb dX5_greatest_39 (by decide) (fun _ => ?_) (fun hc => absurd (by decide) hc)
          refine lv_iload_n hx hb dX5_greatest_51 rfl (lv_at hl 1 rfl) ?_
          refine lv_istore_n (lv' := [(1, .int 0), (2, .int 3), (0, .ref mo)]) hx hb dX5_greatest_52 rfl hl (by decide) rfl (fun ls hl => ?_)
          refine lv_iinc (v := 4) (lv' := [(2, .int 4), (1, .int 0), (0, .ref mo)]) hx hb dX5_greatest_53 hl (k := 1) rfl (by decide) (by decide) rfl (fun ls hl => ?_)
          refine lv_goto (tgt := 4) hx hb dX5_greatest_56 (by decide) ?_
          cases hb4 : bt 4
          · skip
            refine lv_iload_n hx hb dX5_greatest_4 rfl (lv_at hl 0 rfl) ?_
            refine lv_iconst (v := 5) hx hb dX5_greatest_5 (by decide) ?_
            refine lv_icmp_ge (tgt := 59) hx hb dX5_greatest_6 (by decide) (fun hc => absurd hc (by decide)) (fun _ => ?_)
            refine lv_aload_n hx hb dX5_greatest_9 rfl (lv_at hl 2 rfl) ?_
            refine va_get (D := D) (ci := 6) (v := .ref (ma 28)) (C := RX5) (T := TX5) (N := 29) hx hb hts in_X5_greatest_X5 hown hK hP 0 rfl rfl 28 (by decide) w_0 (fun _ h9 => h9) rfl dX5_greatest_10 ?_
            refine lv_iload_n hx hb dX5_greatest_13 rfl (lv_at hl 0 rfl) ?_
            refine va_iald hx hb hK hP 1 0 rfl rfl (by unfold vp_in; decide) dX5_greatest_14 ?_
            refine lv_topi (fun z_64 ez_64 => ?_)
            have fz_64 : z_64 = (-1) := ez_64.trans (by rw [show (4 : Int32).toNatClampNeg = 4 by decide, haf 4 (by decide), hb4] <;> rfl)
            subst fz_64
            refine lv_if_lt (tgt := 51) hx hb dX5_greatest_15 (by decide) (fun _ => ?_) (fun hc => absurd (by decide) hc)
            refine lv_iload_n hx hb dX5_greatest_51 rfl (lv_at hl 1 rfl) ?_
            refine lv_istore_n (lv' := [(1, .int 0), (2, .int 4), (0, .ref mo)]) hx hb dX5_greatest_52 rfl hl (by decide) rfl (fun ls hl => ?_)
            refine lv_iinc (v := 5) (lv' := [(2, .int 5), (1, .int 0), (0, .ref mo)]) hx hb dX5_greatest_53 hl (k := 1) rfl (by decide) (by decide) rfl (fun ls hl => ?_)
            refine lv_goto (tgt := 4) hx hb dX5_greatest_56 (by decide) ?_
            refine lv_iload_n hx hb dX5_greatest_4 rfl (lv_at hl 0 rfl) ?_
            refine lv_iconst (v := 5) hx hb dX5_greatest_5 (by decide) ?_
            refine lv_icmp_ge (tgt := 59) hx hb dX5_greatest_6 (by decide) (fun _ => ?_) (fun hc => absurd (by decide) hc)
            refine lv_iload_n hx hb dX5_greatest_59 rfl (lv_at hl 1 rfl) ?_
            have hP9 := hP.sub (ws' := [(mo, .inr (6, [.int th, .int 1, .ref (ma 2), .ref (ma 3), .ref (ma 4), .ref (ma 5), .ref (ma 6), .ref (ma 7), .ref (ma 8), .ref (ma 9), .ref (ma 10), .ref (ma 11), .ref (ma 12), .ref (ma 13), .ref (ma 14), .ref (ma 15), .ref (ma 16), .ref (ma 17), .ref (ma 18), .ref (ma 19), .ref (ma 20), .ref (ma 21), .int 0, .ref (ma 23), .ref (ma 24), .ref (ma 25), .ref (ma 26), .ref (ma 27), .ref (ma 28)])), ((ma 28), wI tC 5 af), ((ma 2), wI tC 600 (fun _ => 0))]) [0, 1, 2] rfl
            have hD9 := hD.sub (ws' := [(mo, .inr (6, [.int th, .int 1, .ref (ma 2), .ref (ma 3), .ref (ma 4), .ref (ma 5), .ref (ma 6), .ref (ma 7), .ref (ma 8), .ref (ma 9), .ref (ma 10), .ref (ma 11), .ref (ma 12), .ref (ma 13), .ref (ma 14), .ref (ma 15), .ref (ma 16), .ref (ma 17), .ref (ma 18), .ref (ma 19), .ref (ma 20), .ref (ma 21), .int 0, .ref (ma 23), .ref (ma 24), .ref (ma 25), .ref (ma 26), .ref (ma 27), .ref (ma 28)])), ((ma 28), wI tC 5 af), ((ma 2), wI tC 600 (fun _ => 0))]) [0, 1, 2] (by decide) rfl
            refine W.widen (k := 0) (n := 0) (by omega) (by omega) ?_
            exact W.iret (v := 0) hx hb hr (fun t ht hW => ⟨⟨0, (), rfl, rfl, (by rw [ht]; exact hP9), va_K.moved hW.alike hK, hD9⟩, hS.F ht⟩) hS.2.2 dX5_greatest_60 hlocks
          · skip
            refine lv_iload_n hx hb dX5_greatest_4 rfl (lv_at hl 0 rfl) ?_
            refine lv_iconst (v := 5) hx hb dX5_greatest_5 (by decide) ?_
            refine lv_icmp_ge (tgt := 59) hx hb dX5_greatest_6 (by decide) (fun hc => absurd hc (by decide)) (fun _ => ?_)
            refine lv_aload_n hx hb dX5_greatest_9 rfl (lv_at hl 2 rfl) ?_
            refine va_get (D := D) (ci := 6) (v := .ref (ma 28)) (C := RX5) (T := TX5) (N := 29) hx hb hts in_X5_greatest_X5 hown hK hP 0 rfl rfl 28 (by decide) w_0 (fun _ h9 => h9) rfl dX5_greatest_10 ?_
            refine lv_iload_n hx hb dX5_greatest_13 rfl (lv_at hl 0 rfl) ?_
            refine va_iald hx hb hK hP 1 0 rfl rfl (by unfold vp_in; decide) dX5_greatest_14 ?_
            refine lv_topi (fun z_65 ez_65 => ?_)
            have fz_65 : z_65 = 0 := ez_65.trans (by rw [show (4 : Int32).toNatClampNeg = 4 by decide, haf 4 (by decide), hb4] <;> rfl)
            subst fz_65
            refine lv_if_lt (tgt := 51) hx hb dX5_greatest_15 (by decide) (fun hc => absurd hc (by decide)) (fun _ => ?_)
            refine lv_iload_n hx hb dX5_greatest_18 rfl (lv_at hl 1 rfl) ?_
            refine lv_if_lt (tgt := 42) hx hb dX5_greatest_19 (by decide) (fun hc => absurd hc (by decide)) (fun _ => ?_)
            refine lv_aload_n hx hb dX5_greatest_22 rfl (lv_at hl 2 rfl) ?_
            refine va_get (D := D) (ci := 6) (v := .ref (ma 2)) (C := RX5) (T := TX5) (N := 29) hx hb hts in_X5_greatest_X5 hown hK hP 0 rfl rfl 2 (by decide) w_1 (fun _ h9 => h9) rfl dX5_greatest_23 ?_
            refine lv_aload_n hx hb dX5_greatest_26 rfl (lv_at hl 2 rfl) ?_
            refine va_get (D := D) (ci := 6) (v := .ref (ma 28)) (C := RX5) (T := TX5) (N := 29) hx hb hts in_X5_greatest_X5 hown hK hP 0 rfl rfl 28 (by decide) w_0 (fun _ h9 => h9) rfl dX5_greatest_27 ?_
            refine lv_iload_n hx hb dX5_greatest_30 rfl (lv_at hl 0 rfl) ?_
            refine va_iald hx hb hK hP 1 0 rfl rfl (by unfold vp_in; decide) dX5_greatest_31 ?_
            refine lv_topi (fun z_66 ez_66 => ?_)
            have fz_66 : z_66 = 0 := ez_66.trans (by rw [show (4 : Int32).toNatClampNeg = 4 by decide, haf 4 (by decide), hb4] <;> rfl)
            subst fz_66
            refine va_iald hx hb hK hP 2 0 rfl rfl (by unfold vp_in; decide) dX5_greatest_32 ?_
            refine lv_topi (fun z_67 ez_67 => ?_)
            have fz_67 : z_67 = 0 := ez_67.trans (rfl)
            subst fz_67
            refine lv_aload_n hx hb dX5_greatest_33 rfl (lv_at hl 2 rfl) ?_
            refine va_get (D := D) (ci := 6) (v := .ref (ma 2)) (C := RX5) (T := TX5) (N := 29) hx hb hts in_X5_greatest_X5 hown hK hP 0 rfl rfl 2 (by decide) w_1 (fun _ h9 => h9) rfl dX5_greatest_34 ?_
            refine lv_iload_n hx hb dX5_greatest_37 rfl (lv_at hl 1 rfl) ?_
            refine va_iald hx hb hK hP 2 0 rfl rfl (by unfold vp_in; decide) dX5_greatest_38 ?_
            refine lv_topi (fun z_68 ez_68 => ?_)
            have fz_68 : z_68 = 0 := ez_68.trans (rfl)
            subst fz_68
            refine lv_icmp_le (tgt := 51) hx hb dX5_greatest_39 (by decide) (fun _ => ?_) (fun hc => absurd (by decide) hc)
            refine lv_iload_n hx hb dX5_greatest_51 rfl (lv_at hl 1 rfl) ?_
            refine lv_istore_n (lv' := [(1, .int 0), (2, .int 4), (0, .ref mo)]) hx hb dX5_greatest_52 rfl hl (by decide) rfl (fun ls hl => ?_)
            refine lv_iinc (v := 5) (lv' := [(2, .int 5), (1, .int 0), (0, .ref mo)]) hx hb dX5_greatest_53 hl (k := 1) rfl (by decide) (by decide) rfl (fun ls hl => ?_)
            refine lv_goto (tgt := 4) hx hb dX5_greatest_56 (by decide) ?_
            refine lv_iload_n hx hb dX5_greatest_4 rfl (lv_at hl 0 rfl) ?_
            refine lv_iconst (v := 5) hx hb dX5_greatest_5 (by decide) ?_
            refine lv_icmp_ge (tgt := 59) hx hb dX5_greatest_6 (by decide) (fun _ => ?_) (fun hc => absurd (by decide) hc)
            refine lv_iload_n hx hb dX5_greatest_59 rfl (lv_at hl 1 rfl) ?_
            have hP9 := hP.sub (ws' := [(mo, .inr (6, [.int th, .int 1, .ref (ma 2), .ref (ma 3), .ref (ma 4), .ref (ma 5), .ref (ma 6), .ref (ma 7), .ref (ma 8), .ref (ma 9), .ref (ma 10), .ref (ma 11), .ref (ma 12), .ref (ma 13), .ref (ma 14), .ref (ma 15), .ref (ma 16), .ref (ma 17), .ref (ma 18), .ref (ma 19), .ref (ma 20), .ref (ma 21), .int 0, .ref (ma 23), .ref (ma 24), .ref (ma 25), .ref (ma 26), .ref (ma 27), .ref (ma 28)])), ((ma 28), wI tC 5 af), ((ma 2), wI tC 600 (fun _ => 0))]) [0, 1, 2] rfl
            have hD9 := hD.sub (ws' := [(mo, .inr (6, [.int th, .int 1, .ref (ma 2), .ref (ma 3), .ref (ma 4), .ref (ma 5), .ref (ma 6), .ref (ma 7), .ref (ma 8), .ref (ma 9), .ref (ma 10), .ref (ma 11), .ref (ma 12), .ref (ma 13), .ref (ma 14), .ref (ma 15), .ref (ma 16), .ref (ma 17), .ref (ma 18), .ref (ma 19), .ref (ma 20), .ref (ma 21), .int 0, .ref (ma 23), .ref (ma 24), .ref (ma 25), .ref (ma 26), .ref (ma 27), .ref (ma 28)])), ((ma 28), wI tC 5 af), ((ma 2), wI tC 600 (fun _ => 0))]) [0, 1, 2] (by decide) rfl
            refine W.widen (k := 0) (n := 0) (by omega) (by omega) ?_
            exact W.iret (v := 0) hx hb hr (fun t ht hW => ⟨⟨0, (), rfl, rfl, (by rw [ht]; exact hP9), va_K.moved hW.alike hK, hD9⟩, hS.F ht⟩) hS.2.2 dX5_greatest_60 hlocks
  · skip
    refine lv_iload_n hx hb dX5_greatest_4 rfl (lv_at hl 0 rfl) ?_
    refine lv_iconst (v := 5) hx hb dX5_greatest_5 (by decide) ?_
    refine lv_icmp_ge (tgt := 59) hx hb dX5_greatest_6 (by decide) (fun hc => absurd hc (by decide)) (fun _ => ?_)
    refine lv_aload_n hx hb dX5_greatest_9 rfl (lv_at hl 2 rfl) ?_
    refine va_get (D := D) (ci := 6) (v := .ref (ma 28)) (C := RX5) (T := TX5) (N := 29) hx hb hts in_X5_greatest_X5 hown hK hP 0 rfl rfl 28 (by decide) w_0 (fun _ h9 => h9) rfl dX5_greatest_10 ?_
    refine lv_iload_n hx hb dX5_greatest_13 rfl (lv_at hl 0 rfl) ?_
    refine va_iald hx hb hK hP 1 0 rfl rfl (by unfold vp_in; decide) dX5_greatest_14 ?_
    refine lv_topi (fun z_69 ez_69 => ?_)
    have fz_69 : z_69 = 0 := ez_69.trans (by rw [show (0 : Int32).toNatClampNeg = 0 by decide, haf 0 (by decide), hb0] <;> rfl)
    subst fz_69
    refine lv_if_lt (tgt := 51) hx hb dX5_greatest_15 (by decide) (fun hc => absurd hc (by decide)) (fun _ => ?_)
    refine lv_iload_n hx hb dX5_greatest_18 rfl (lv_at hl 1 rfl) ?_
    refine lv_if_lt (tgt := 42) hx hb dX5_greatest_19 (by decide) (fun _ => ?_) (fun hc => absurd (by decide) hc)
    refine lv_aload_n hx hb dX5_greatest_42 rfl (lv_at hl 2 rfl) ?_
    refine va_get (D := D) (ci := 6) (v := .ref (ma 28)) (C := RX5) (T := TX5) (N := 29) hx hb hts in_X5_greatest_X5 hown hK hP 0 rfl rfl 28 (by decide) w_0 (fun _ h9 => h9) rfl dX5_greatest_43 ?_
    refine lv_iload_n hx hb dX5_greatest_46 rfl (lv_at hl 0 rfl) ?_
    refine va_iald hx hb hK hP 1 0 rfl rfl (by unfold vp_in; decide) dX5_greatest_47 ?_
    refine lv_topi (fun z_70 ez_70 => ?_)
    have fz_70 : z_70 = 0 := ez_70.trans (by rw [show (0 : Int32).toNatClampNeg = 0 by decide, haf 0 (by decide), hb0] <;> rfl)
    subst fz_70
    refine lv_goto (tgt := 52) hx hb dX5_greatest_48 (by decide) ?_
    refine lv_istore_n (lv' := [(1, .int 0), (2, .int 0), (0, .ref mo)]) hx hb dX5_greatest_52 rfl hl (by decide) rfl (fun ls hl => ?_)
    refine lv_iinc (v := 1) (lv' := [(2, .int 1), (1, .int 0), (0, .ref mo)]) hx hb dX5_greatest_53 hl (k := 1) rfl (by decide) (by decide) rfl (fun ls hl => ?_)
    refine lv_goto (tgt := 4) hx hb dX5_greatest_56 (by decide) ?_
    cases hb1 : bt 1
    · skip
      refine lv_iload_n hx hb dX5_greatest_4 rfl (lv_at hl 0 rfl) ?_
      refine lv_iconst (v := 5) hx hb dX5_greatest_5 (by decide) ?_
      refine lv_icmp_ge (tgt := 59) hx hb dX5_greatest_6 (by decide) (fun hc => absurd hc (by decide)) (fun _ => ?_)
      refine lv_aload_n hx hb dX5_greatest_9 rfl (lv_at hl 2 rfl) ?_
      refine va_get (D := D) (ci := 6) (v := .ref (ma 28)) (C := RX5) (T := TX5) (N := 29) hx hb hts in_X5_greatest_X5 hown hK hP 0 rfl rfl 28 (by decide) w_0 (fun _ h9 => h9) rfl dX5_greatest_10 ?_
      refine lv_iload_n hx hb dX5_greatest_13 rfl (lv_at hl 0 rfl) ?_
      refine va_iald hx hb hK hP 1 0 rfl rfl (by unfold vp_in; decide) dX5_greatest_14 ?_
      refine lv_topi (fun z_71 ez_71 => ?_)
      have fz_71 : z_71 = (-1) := ez_71.trans (by rw [show (1 : Int32).toNatClampNeg = 1 by decide, haf 1 (by decide), hb1] <;> rfl)
      subst fz_71
      refine lv_if_lt (tgt := 51) hx hb dX5_greatest_15 (by decide) (fun _ => ?_) (fun hc => absurd (by decide) hc)
      refine lv_iload_n hx hb dX5_greatest_51 rfl (lv_at hl 1 rfl) ?_
      refine lv_istore_n (lv' := [(1, .int 0), (2, .int 1), (0, .ref mo)]) hx hb dX5_greatest_52 rfl hl (by decide) rfl (fun ls hl => ?_)
      refine lv_iinc (v := 2) (lv' := [(2, .int 2), (1, .int 0), (0, .ref mo)]) hx hb dX5_greatest_53 hl (k := 1) rfl (by decide) (by decide) rfl (fun ls hl => ?_)
      refine lv_goto (tgt := 4) hx hb dX5_greatest_56 (by decide) ?_
      cases hb2 : bt 2
      · skip
        refine lv_iload_n hx hb dX5_greatest_4 rfl (lv_at hl 0 rfl) ?_
        refine lv_iconst (v := 5) hx hb dX5_greatest_5 (by decide) ?_
        refine lv_icmp_ge (tgt := 59) hx hb dX5_greatest_6 (by decide) (fun hc => absurd hc (by decide)) (fun _ => ?_)
        refine lv_aload_n hx hb dX5_greatest_9 rfl (lv_at hl 2 rfl) ?_
        refine va_get (D := D) (ci := 6) (v := .ref (ma 28)) (C := RX5) (T := TX5) (N := 29) hx hb hts in_X5_greatest_X5 hown hK hP 0 rfl rfl 28 (by decide) w_0 (fun _ h9 => h9) rfl dX5_greatest_10 ?_
        refine lv_iload_n hx hb dX5_greatest_13 rfl (lv_at hl 0 rfl) ?_
        refine va_iald hx hb hK hP 1 0 rfl rfl (by unfold vp_in; decide) dX5_greatest_14 ?_
        refine lv_topi (fun z_72 ez_72 => ?_)
        have fz_72 : z_72 = (-1) := ez_72.trans (by rw [show (2 : Int32).toNatClampNeg = 2 by decide, haf 2 (by decide), hb2] <;> rfl)
        subst fz_72
        refine lv_if_lt (tgt := 51) hx hb dX5_greatest_15 (by decide) (fun _ => ?_) (fun hc => absurd (by decide) hc)
        refine lv_iload_n hx hb dX5_greatest_51 rfl (lv_at hl 1 rfl) ?_
        refine lv_istore_n (lv' := [(1, .int 0), (2, .int 2), (0, .ref mo)]) hx hb dX5_greatest_52 rfl hl (by decide) rfl (fun ls hl => ?_)
        refine lv_iinc (v := 3) (lv' := [(2, .int 3), (1, .int 0), (0, .ref mo)]) hx hb dX5_greatest_53 hl (k := 1) rfl (by decide) (by decide) rfl (fun ls hl => ?_)
        refine lv_goto (tgt := 4) hx hb dX5_greatest_56 (by decide) ?_
        cases hb3 : bt 3
        · skip
          refine lv_iload_n hx hb dX5_greatest_4 rfl (lv_at hl 0 rfl) ?_
          refine lv_iconst (v := 5) hx hb dX5_greatest_5 (by decide) ?_
          refine lv_icmp_ge (tgt := 59) hx hb dX5_greatest_6 (by decide) (fun hc => absurd hc (by decide)) (fun _ => ?_)
          refine lv_aload_n hx hb dX5_greatest_9 rfl (lv_at hl 2 rfl) ?_
          refine va_get (D := D) (ci := 6) (v := .ref (ma 28)) (C := RX5) (T := TX5) (N := 29) hx hb hts in_X5_greatest_X5 hown hK hP 0 rfl rfl 28 (by decide) w_0 (fun _ h9 => h9) rfl dX5_greatest_10 ?_
          refine lv_iload_n hx hb dX5_greatest_13 rfl (lv_at hl 0 rfl) ?_
          refine va_iald hx hb hK hP 1 0 rfl rfl (by unfold vp_in; decide) dX5_greatest_14 ?_
          refine lv_topi (fun z_73 ez_73 => ?_)
          have fz_73 : z_73 = (-1) := ez_73.trans (by rw [show (3 : Int32).toNatClampNeg = 3 by decide, haf 3 (by decide), hb3] <;> rfl)
          subst fz_73
          refine lv_if_lt (tgt := 51) hx hb dX5_greatest_15 (by decide) (fun _ => ?_) (fun hc => absurd (by decide) hc)
          refine lv_iload_n hx hb dX5_greatest_51 rfl (lv_at hl 1 rfl) ?_
          refine lv_istore_n (lv' := [(1, .int 0), (2, .int 3), (0, .ref mo)]) hx hb dX5_greatest_52 rfl hl (by decide) rfl (fun ls hl => ?_)
          refine lv_iinc (v := 4) (lv' := [(2, .int 4), (1, .int 0), (0, .ref mo)]) hx hb dX5_greatest_53 hl (k := 1) rfl (by decide) (by decide) rfl (fun ls hl => ?_)
          refine lv_goto (tgt := 4) hx hb dX5_greatest_56 (by decide) ?_
          cases hb4 : bt 4
          · skip
            refine lv_iload_n hx hb dX5_greatest_4 rfl (lv_at hl 0 rfl) ?_
            refine lv_iconst (v := 5) hx hb dX5_greatest_5 (by decide) ?_
            refine lv_icmp_ge (tgt := 59) hx hb dX5_greatest_6 (by decide) (fun hc => absurd hc (by decide)) (fun _ => ?_)
            refine lv_aload_n hx hb dX5_greatest_9 rfl (lv_at hl 2 rfl) ?_
            refine va_get (D := D) (ci := 6) (v := .ref (ma 28)) (C := RX5) (T := TX5) (N := 29) hx hb hts in_X5_greatest_X5 hown hK hP 0 rfl rfl 28 (by decide) w_0 (fun _ h9 => h9) rfl dX5_greatest_10 ?_
            refine lv_iload_n hx hb dX5_greatest_13 rfl (lv_at hl 0 rfl) ?_
            refine va_iald hx hb hK hP 1 0 rfl rfl (by unfold vp_in; decide) dX5_greatest_14 ?_
            refine lv_topi (fun z_74 ez_74 => ?_)
            have fz_74 : z_74 = (-1) := ez_74.trans (by rw [show (4 : Int32).toNatClampNeg = 4 by decide, haf 4 (by decide), hb4] <;> rfl)
            subst fz_74
            refine lv_if_lt (tgt := 51) hx hb dX5_greatest_15 (by decide) (fun _ => ?_) (fun hc => absurd (by decide) hc)
            refine lv_iload_n hx hb dX5_greatest_51 rfl (lv_at hl 1 rfl) ?_
            refine lv_istore_n (lv' := [(1, .int 0), (2, .int 4), (0, .ref mo)]) hx hb dX5_greatest_52 rfl hl (by decide) rfl (fun ls hl => ?_)
            refine lv_iinc (v := 5) (lv' := [(2, .int 5), (1, .int 0), (0, .ref mo)]) hx hb dX5_greatest_53 hl (k := 1) rfl (by decide) (by decide) rfl (fun ls hl => ?_)
            refine lv_goto (tgt := 4) hx hb dX5_greatest_56 (by decide) ?_
            refine lv_iload_n hx hb dX5_greatest_4 rfl (lv_at hl 0 rfl) ?_
            refine lv_iconst (v := 5) hx hb dX5_greatest_5 (by decide) ?_
            refine lv_icmp_ge (tgt := 59) hx hb dX5_greatest_6 (by decide) (fun _ => ?_) (fun hc => absurd (by decide) hc)
            refine lv_iload_n hx hb dX5_greatest_59 rfl (lv_at hl 1 rfl) ?_
            have hP9 := hP.sub (ws' := [(mo, .inr (6, [.int th, .int 1, .ref (ma 2), .ref (ma 3), .ref (ma 4), .ref (ma 5), .ref (ma 6), .ref (ma 7), .ref (ma 8), .ref (ma 9), .ref (ma 10), .ref (ma 11), .ref (ma 12), .ref (ma 13), .ref (ma 14), .ref (ma 15), .ref (ma 16), .ref (ma 17), .ref (ma 18), .ref (ma 19), .ref (ma 20), .ref (ma 21), .int 0, .ref (ma 23), .ref (ma 24), .ref (ma 25), .ref (ma 26), .ref (ma 27), .ref (ma 28)])), ((ma 28), wI tC 5 af), ((ma 2), wI tC 600 (fun _ => 0))]) [0, 1, 2] rfl
            have hD9 := hD.sub (ws' := [(mo, .inr (6, [.int th, .int 1, .ref (ma 2), .ref (ma 3), .ref (ma 4), .ref (ma 5), .ref (ma 6), .ref (ma 7), .ref (ma 8), .ref (ma 9), .ref (ma 10), .ref (ma 11), .ref (ma 12), .ref (ma 13), .ref (ma 14), .ref (ma 15), .ref (ma 16), .ref (ma 17), .ref (ma 18), .ref (ma 19), .ref (ma 20), .ref (ma 21), .int 0, .ref (ma 23), .ref (ma 24), .ref (ma 25), .ref (ma 26), .ref (ma 27), .ref (ma 28)])), ((ma 28), wI tC 5 af), ((ma 2), wI tC 600 (fun _ => 0))]) [0, 1, 2] (by decide) rfl
            refine W.widen (k := 0) (n := 0) (by omega) (by omega) ?_
            exact W.iret (v := 0) hx hb hr (fun t ht hW => ⟨⟨0, (), rfl, rfl, (by rw [ht]; exact hP9), va_K.moved hW.alike hK, hD9⟩, hS.F ht⟩) hS.2.2 dX5_greatest_60 hlocks
          · skip
            refine lv_iload_n hx hb dX5_greatest_4 rfl (lv_at hl 0 rfl) ?_
            refine lv_iconst (v := 5) hx hb dX5_greatest_5 (by decide) ?_
            refine lv_icmp_ge (tgt := 59) hx hb dX5_greatest_6 (by decide) (fun hc => absurd hc (by decide)) (fun _ => ?_)
            refine lv_aload_n hx hb dX5_greatest_9 rfl (lv_at hl 2 rfl) ?_
            refine va_get (D := D) (ci := 6) (v := .ref (ma 28)) (C := RX5) (T := TX5) (N := 29) hx hb hts in_X5_greatest_X5 hown hK hP 0 rfl rfl 28 (by decide) w_0 (fun _ h9 => h9) rfl dX5_greatest_10 ?_
            refine lv_iload_n hx hb dX5_greatest_13 rfl (lv_at hl 0 rfl) ?_
            refine va_iald hx hb hK hP 1 0 rfl rfl (by unfold vp_in; decide) dX5_greatest_14 ?_
            refine lv_topi (fun z_75 ez_75 => ?_)
            have fz_75 : z_75 = 0 := ez_75.trans (by rw [show (4 : Int32).toNatClampNeg = 4 by decide, haf 4 (by decide), hb4] <;> rfl)
            subst fz_75
            refine lv_if_lt (tgt := 51) hx hb dX5_greatest_15 (by decide) (fun hc => absurd hc (by decide)) (fun _ => ?_)
            refine lv_iload_n hx hb dX5_greatest_18 rfl (lv_at hl 1 rfl) ?_
            refine lv_if_lt (tgt := 42) hx hb dX5_greatest_19 (by decide) (fun hc => absurd hc (by decide)) (fun _ => ?_)
            refine lv_aload_n hx hb dX5_greatest_22 rfl (lv_at hl 2 rfl) ?_
            refine va_get (D := D) (ci := 6) (v := .ref (ma 2)) (C := RX5) (T := TX5) (N := 29) hx hb hts in_X5_greatest_X5 hown hK hP 0 rfl rfl 2 (by decide) w_1 (fun _ h9 => h9) rfl dX5_greatest_23 ?_
            refine lv_aload_n hx hb dX5_greatest_26 rfl (lv_at hl 2 rfl) ?_
            refine va_get (D := D) (ci := 6) (v := .ref (ma 28)) (C := RX5) (T := TX5) (N := 29) hx hb hts in_X5_greatest_X5 hown hK hP 0 rfl rfl 28 (by decide) w_0 (fun _ h9 => h9) rfl dX5_greatest_27 ?_
            refine lv_iload_n hx hb dX5_greatest_30 rfl (lv_at hl 0 rfl) ?_
            refine va_iald hx hb hK hP 1 0 rfl rfl (by unfold vp_in; decide) dX5_greatest_31 ?_
            refine lv_topi (fun z_76 ez_76 => ?_)
            have fz_76 : z_76 = 0 := ez_76.trans (by rw [show (4 : Int32).toNatClampNeg = 4 by decide, haf 4 (by decide), hb4] <;> rfl)
            subst fz_76
            refine va_iald hx hb hK hP 2 0 rfl rfl (by unfold vp_in; decide) dX5_greatest_32 ?_
            refine lv_topi (fun z_77 ez_77 => ?_)
            have fz_77 : z_77 = 0 := ez_77.trans (rfl)
            subst fz_77
            refine lv_aload_n hx hb dX5_greatest_33 rfl (lv_at hl 2 rfl) ?_
            refine va_get (D := D) (ci := 6) (v := .ref (ma 2)) (C := RX5) (T := TX5) (N := 29) hx hb hts in_X5_greatest_X5 hown hK hP 0 rfl rfl 2 (by decide) w_1 (fun _ h9 => h9) rfl dX5_greatest_34 ?_
            refine lv_iload_n hx hb dX5_greatest_37 rfl (lv_at hl 1 rfl) ?_
            refine va_iald hx hb hK hP 2 0 rfl rfl (by unfold vp_in; decide) dX5_greatest_38 ?_
            refine lv_topi (fun z_78 ez_78 => ?_)
            have fz_78 : z_78 = 0 := ez_78.trans (rfl)
            subst fz_78
            refine lv_icmp_le (tgt := 51) hx hb dX5_greatest_39 (by decide) (fun _ => ?_) (fun hc => absurd (by decide) hc)
            refine lv_iload_n hx hb dX5_greatest_51 rfl (lv_at hl 1 rfl) ?_
            refine lv_istore_n (lv' := [(1, .int 0), (2, .int 4), (0, .ref mo)]) hx hb dX5_greatest_52 rfl hl (by decide) rfl (fun ls hl => ?_)
            refine lv_iinc (v := 5) (lv' := [(2, .int 5), (1, .int 0), (0, .ref mo)]) hx hb dX5_greatest_53 hl (k := 1) rfl (by decide) (by decide) rfl (fun ls hl => ?_)
            refine lv_goto (tgt := 4) hx hb dX5_greatest_56 (by decide) ?_
            refine lv_iload_n hx hb dX5_greatest_4 rfl (lv_at hl 0 rfl) ?_
            refine lv_iconst (v := 5) hx hb dX5_greatest_5 (by decide) ?_
            refine lv_icmp_ge (tgt := 59) hx hb dX5_greatest_6 (by decide) (fun _ => ?_) (fun hc => absurd (by decide) hc)
            refine lv_iload_n hx hb dX5_greatest_59 rfl (lv_at hl 1 rfl) ?_
            have hP9 := hP.sub (ws' := [(mo, .inr (6, [.int th, .int 1, .ref (ma 2), .ref (ma 3), .ref (ma 4), .ref (ma 5), .ref (ma 6), .ref (ma 7), .ref (ma 8), .ref (ma 9), .ref (ma 10), .ref (ma 11), .ref (ma 12), .ref (ma 13), .ref (ma 14), .ref (ma 15), .ref (ma 16), .ref (ma 17), .ref (ma 18), .ref (ma 19), .ref (ma 20), .ref (ma 21), .int 0, .ref (ma 23), .ref (ma 24), .ref (ma 25), .ref (ma 26), .ref (ma 27), .ref (ma 28)])), ((ma 28), wI tC 5 af), ((ma 2), wI tC 600 (fun _ => 0))]) [0, 1, 2] rfl
            have hD9 := hD.sub (ws' := [(mo, .inr (6, [.int th, .int 1, .ref (ma 2), .ref (ma 3), .ref (ma 4), .ref (ma 5), .ref (ma 6), .ref (ma 7), .ref (ma 8), .ref (ma 9), .ref (ma 10), .ref (ma 11), .ref (ma 12), .ref (ma 13), .ref (ma 14), .ref (ma 15), .ref (ma 16), .ref (ma 17), .ref (ma 18), .ref (ma 19), .ref (ma 20), .ref (ma 21), .int 0, .ref (ma 23), .ref (ma 24), .ref (ma 25), .ref (ma 26), .ref (ma 27), .ref (ma 28)])), ((ma 28), wI tC 5 af), ((ma 2), wI tC 600 (fun _ => 0))]) [0, 1, 2] (by decide) rfl
            refine W.widen (k := 0) (n := 0) (by omega) (by omega) ?_
            exact W.iret (v := 0) hx hb hr (fun t ht hW => ⟨⟨0, (), rfl, rfl, (by rw [ht]; exact hP9), va_K.moved hW.alike hK, hD9⟩, hS.F ht⟩) hS.2.2 dX5_greatest_60 hlocks
        · skip
          refine lv_iload_n hx hb dX5_greatest_4 rfl (lv_at hl 0 rfl) ?_
          refine lv_iconst (v := 5) hx hb dX5_greatest_5 (by decide) ?_
          refine lv_icmp_ge (tgt := 59) hx hb dX5_greatest_6 (by decide) (fun hc => absurd hc (by decide)) (fun _ => ?_)
          refine lv_aload_n hx hb dX5_greatest_9 rfl (lv_at hl 2 rfl) ?_
          refine va_get (D := D) (ci := 6) (v := .ref (ma 28)) (C := RX5) (T := TX5) (N := 29) hx hb hts in_X5_greatest_X5 hown hK hP 0 rfl rfl 28 (by decide) w_0 (fun _ h9 => h9) rfl dX5_greatest_10 ?_
          refine lv_iload_n hx hb dX5_greatest_13 rfl (lv_at hl 0 rfl) ?_
          refine va_iald hx hb hK hP 1 0 rfl rfl (by unfold vp_in; decide) dX5_greatest_14 ?_
          refine lv_topi (fun z_79 ez_79 => ?_)
          have fz_79 : z_79 = 0 := ez_79.trans (by rw [show (3 : Int32).toNatClampNeg = 3 by decide, haf 3 (by decide), hb3] <;> rfl)
          subst fz_79
          refine lv_if_lt (tgt := 51) hx hb dX5_greatest_15 (by decide) (fun hc => absurd hc (by decide)) (fun _ => ?_)
          refine lv_iload_n hx hb dX5_greatest_18 rfl (lv_at hl 1 rfl) ?_
          refine lv_if_lt (tgt := 42) hx hb dX5_greatest_19 (by decide) (fun hc => absurd hc (by decide)) (fun _ => ?_)
          refine lv_aload_n hx hb dX5_greatest_22 rfl (lv_at hl 2 rfl) ?_
          refine va_get (D := D) (ci := 6) (v := .ref (ma 2)) (C := RX5) (T := TX5) (N := 29) hx hb hts in_X5_greatest_X5 hown hK hP 0 rfl rfl 2 (by decide) w_1 (fun _ h9 => h9) rfl dX5_greatest_23 ?_
          refine lv_aload_n hx hb dX5_greatest_26 rfl (lv_at hl 2 rfl) ?_
          refine va_get (D := D) (ci := 6) (v := .ref (ma 28)) (C := RX5) (T := TX5) (N := 29) hx hb hts in_X5_greatest_X5 hown hK hP 0 rfl rfl 28 (by decide) w_0 (fun _ h9 => h9) rfl dX5_greatest_27 ?_
          refine lv_iload_n hx hb dX5_greatest_30 rfl (lv_at hl 0 rfl) ?_
          refine va_iald hx hb hK hP 1 0 rfl rfl (by unfold vp_in; decide) dX5_greatest_31 ?_
          refine lv_topi (fun z_80 ez_80 => ?_)
          have fz_80 : z_80 = 0 := ez_80.trans (by rw [show (3 : Int32).toNatClampNeg = 3 by decide, haf 3 (by decide), hb3] <;> rfl)
          subst fz_80
          refine va_iald hx hb hK hP 2 0 rfl rfl (by unfold vp_in; decide) dX5_greatest_32 ?_
          refine lv_topi (fun z_81 ez_81 => ?_)
          have fz_81 : z_81 = 0 := ez_81.trans (rfl)
          subst fz_81
          refine lv_aload_n hx hb dX5_greatest_33 rfl (lv_at hl 2 rfl) ?_
          refine va_get (D := D) (ci := 6) (v := .ref (ma 2)) (C := RX5) (T := TX5) (N := 29) hx hb hts in_X5_greatest_X5 hown hK hP 0 rfl rfl 2 (by decide) w_1 (fun _ h9 => h9) rfl dX5_greatest_34 ?_
          refine lv_iload_n hx hb dX5_greatest_37 rfl (lv_at hl 1 rfl) ?_
          refine va_iald hx hb hK hP 2 0 rfl rfl (by unfold vp_in; decide) dX5_greatest_38 ?_
          refine lv_topi (fun z_82 ez_82 => ?_)
          have fz_82 : z_82 = 0 := ez_82.trans (rfl)
          subst fz_82
          refine lv_icmp_le (tgt := 51) hx hb dX5_greatest_39 (by decide) (fun _ => ?_) (fun hc => absurd (by decide) hc)
          refine lv_iload_n hx hb dX5_greatest_51 rfl (lv_at hl 1 rfl) ?_
          refine lv_istore_n (lv' := [(1, .int 0), (2, .int 3), (0, .ref mo)]) hx hb dX5_greatest_52 rfl hl (by decide) rfl (fun ls hl => ?_)
          refine lv_iinc (v := 4) (lv' := [(2, .int 4), (1, .int 0), (0, .ref mo)]) hx hb dX5_greatest_53 hl (k := 1) rfl (by decide) (by decide) rfl (fun ls hl => ?_)
          refine lv_goto (tgt := 4) hx hb dX5_greatest_56 (by decide) ?_
          cases hb4 : bt 4
          · skip
            refine lv_iload_n hx hb dX5_greatest_4 rfl (lv_at hl 0 rfl) ?_
            refine lv_iconst (v := 5) hx hb dX5_greatest_5 (by decide) ?_
            refine lv_icmp_ge (tgt := 59) hx hb dX5_greatest_6 (by decide) (fun hc => absurd hc (by decide)) (fun _ => ?_)
            refine lv_aload_n hx hb dX5_greatest_9 rfl (lv_at hl 2 rfl) ?_
            refine va_get (D := D) (ci := 6) (v := .ref (ma 28)) (C := RX5) (T := TX5) (N := 29) hx hb hts in_X5_greatest_X5 hown hK hP 0 rfl rfl 28 (by decide) w_0 (fun _ h9 => h9) rfl dX5_greatest_10 ?_
            refine lv_iload_n hx hb dX5_greatest_13 rfl (lv_at hl 0 rfl) ?_
            refine va_iald hx hb hK hP 1 0 rfl rfl (by unfold vp_in; decide) dX5_greatest_14 ?_
            refine lv_topi (fun z_83 ez_83 => ?_)
            have fz_83 : z_83 = (-1) := ez_83.trans (by rw [show (4 : Int32).toNatClampNeg = 4 by decide, haf 4 (by decide), hb4] <;> rfl)
            subst fz_83
            refine lv_if_lt (tgt := 51) hx hb dX5_greatest_15 (by decide) (fun _ => ?_) (fun hc => absurd (by decide) hc)
            refine lv_iload_n hx hb dX5_greatest_51 rfl (lv_at hl 1 rfl) ?_
            refine lv_istore_n (lv' := [(1, .int 0), (2, .int 4), (0, .ref mo)]) hx hb dX5_greatest_52 rfl hl (by decide) rfl (fun ls hl => ?_)
            refine lv_iinc (v := 5) (lv' := [(2, .int 5), (1, .int 0), (0, .ref mo)]) hx hb dX5_greatest_53 hl (k := 1) rfl (by decide) (by decide) rfl (fun ls hl => ?_)
            refine lv_goto (tgt := 4) hx hb dX5_greatest_56 (by decide) ?_
            refine lv_iload_n hx hb dX5_greatest_4 rfl (lv_at hl 0 rfl) ?_
            refine lv_iconst (v := 5) hx hb dX5_greatest_5 (by decide) ?_
            refine lv_icmp_ge (tgt := 59) hx hb dX5_greatest_6 (by decide) (fun _ => ?_) (fun hc => absurd (by decide) hc)
            refine lv_iload_n hx hb dX5_greatest_59 rfl (lv_at hl 1 rfl) ?_
            have hP9 := hP.sub (ws' := [(mo, .inr (6, [.int th, .int 1, .ref (ma 2), .ref (ma 3), .ref (ma 4), .ref (ma 5), .ref (ma 6), .ref (ma 7), .ref (ma 8), .ref (ma 9), .ref (ma 10), .ref (ma 11), .ref (ma 12), .ref (ma 13), .ref (ma 14), .ref (ma 15), .ref (ma 16), .ref (ma 17), .ref (ma 18), .ref (ma 19), .ref (ma 20), .ref (ma 21), .int 0, .ref (ma 23), .ref (ma 24), .ref (ma 25), .ref (ma 26), .ref (ma 27), .ref (ma 28)])), ((ma 28), wI tC 5 af), ((ma 2), wI tC 600 (fun _ => 0))]) [0, 1, 2] rfl
            have hD9 := hD.sub (ws' := [(mo, .inr (6, [.int th, .int 1, .ref (ma 2), .ref (ma 3), .ref (ma 4), .ref (ma 5), .ref (ma 6), .ref (ma 7), .ref (ma 8), .ref (ma 9), .ref (ma 10), .ref (ma 11), .ref (ma 12), .ref (ma 13), .ref (ma 14), .ref (ma 15), .ref (ma 16), .ref (ma 17), .ref (ma 18), .ref (ma 19), .ref (ma 20), .ref (ma 21), .int 0, .ref (ma 23), .ref (ma 24), .ref (ma 25), .ref (ma 26), .ref (ma 27), .ref (ma 28)])), ((ma 28), wI tC 5 af), ((ma 2), wI tC 600 (fun _ => 0))]) [0, 1, 2] (by decide) rfl
            refine W.widen (k := 0) (n := 0) (by omega) (by omega) ?_
            exact W.iret (v := 0) hx hb hr (fun t ht hW => ⟨⟨0, (), rfl, rfl, (by rw [ht]; exact hP9), va_K.moved hW.alike hK, hD9⟩, hS.F ht⟩) hS.2.2 dX5_greatest_60 hlocks
          · skip
            refine lv_iload_n hx hb dX5_greatest_4 rfl (lv_at hl 0 rfl) ?_
            refine lv_iconst (v := 5) hx hb dX5_greatest_5 (by decide) ?_
            refine lv_icmp_ge (tgt := 59) hx hb dX5_greatest_6 (by decide) (fun hc => absurd hc (by decide)) (fun _ => ?_)
            refine lv_aload_n hx hb dX5_greatest_9 rfl (lv_at hl 2 rfl) ?_
            refine va_get (D := D) (ci := 6) (v := .ref (ma 28)) (C := RX5) (T := TX5) (N := 29) hx hb hts in_X5_greatest_X5 hown hK hP 0 rfl rfl 28 (by decide) w_0 (fun _ h9 => h9) rfl dX5_greatest_10 ?_
            refine lv_iload_n hx hb dX5_greatest_13 rfl (lv_at hl 0 rfl) ?_
            refine va_iald hx hb hK hP 1 0 rfl rfl (by unfold vp_in; decide) dX5_greatest_14 ?_
            refine lv_topi (fun z_84 ez_84 => ?_)
            have fz_84 : z_84 = 0 := ez_84.trans (by rw [show (4 : Int32).toNatClampNeg = 4 by decide, haf 4 (by decide), hb4] <;> rfl)
            subst fz_84
            refine lv_if_lt (tgt := 51) hx hb dX5_greatest_15 (by decide) (fun hc => absurd hc (by decide)) (fun _ => ?_)
            refine lv_iload_n hx hb dX5_greatest_18 rfl (lv_at hl 1 rfl) ?_
            refine lv_if_lt (tgt := 42) hx hb dX5_greatest_19 (by decide) (fun hc => absurd hc (by decide)) (fun _ => ?_)
            refine lv_aload_n hx hb dX5_greatest_22 rfl (lv_at hl 2 rfl) ?_
            refine va_get (D := D) (ci := 6) (v := .ref (ma 2)) (C := RX5) (T := TX5) (N := 29) hx hb hts in_X5_greatest_X5 hown hK hP 0 rfl rfl 2 (by decide) w_1 (fun _ h9 => h9) rfl dX5_greatest_23 ?_
            refine lv_aload_n hx hb dX5_greatest_26 rfl (lv_at hl 2 rfl) ?_
            refine va_get (D := D) (ci := 6) (v := .ref (ma 28)) (C := RX5) (T := TX5) (N := 29) hx hb hts in_X5_greatest_X5 hown hK hP 0 rfl rfl 28 (by decide) w_0 (fun _ h9 => h9) rfl dX5_greatest_27 ?_
            refine lv_iload_n hx hb dX5_greatest_30 rfl (lv_at hl 0 rfl) ?_
            refine va_iald hx hb hK hP 1 0 rfl rfl (by unfold vp_in; decide) dX5_greatest_31 ?_
            refine lv_topi (fun z_85 ez_85 => ?_)
            have fz_85 : z_85 = 0 := ez_85.trans (by rw [show (4 : Int32).toNatClampNeg = 4 by decide, haf 4 (by decide), hb4] <;> rfl)
            subst fz_85
            refine va_iald hx hb hK hP 2 0 rfl rfl (by unfold vp_in; decide) dX5_greatest_32 ?_
            refine lv_topi (fun z_86 ez_86 => ?_)
            have fz_86 : z_86 = 0 := ez_86.trans (rfl)
            subst fz_86
            refine lv_aload_n hx hb dX5_greatest_33 rfl (lv_at hl 2 rfl) ?_
            refine va_get (D := D) (ci := 6) (v := .ref (ma 2)) (C := RX5) (T := TX5) (N := 29) hx hb hts in_X5_greatest_X5 hown hK hP 0 rfl rfl 2 (by decide) w_1 (fun _ h9 => h9) rfl dX5_greatest_34 ?_
            refine lv_iload_n hx hb dX5_greatest_37 rfl (lv_at hl 1 rfl) ?_
            refine va_iald hx hb hK hP 2 0 rfl rfl (by unfold vp_in; decide) dX5_greatest_38 ?_
            refine lv_topi (fun z_87 ez_87 => ?_)
            have fz_87 : z_87 = 0 := ez_87.trans (rfl)
            subst fz_87
            refine lv_icmp_le (tgt := 51) hx hb dX5_greatest_39 (by decide) (fun _ => ?_) (fun hc => absurd (by decide) hc)
            refine lv_iload_n hx hb dX5_greatest_51 rfl (lv_at hl 1 rfl) ?_
            refine lv_istore_n (lv' := [(1, .int 0), (2, .int 4), (0, .ref mo)]) hx hb dX5_greatest_52 rfl hl (by decide) rfl (fun ls hl => ?_)
            refine lv_iinc (v := 5) (lv' := [(2, .int 5), (1, .int 0), (0, .ref mo)]) hx hb dX5_greatest_53 hl (k := 1) rfl (by decide) (by decide) rfl (fun ls hl => ?_)
            refine lv_goto (tgt := 4) hx hb dX5_greatest_56 (by decide) ?_
            refine lv_iload_n hx hb dX5_greatest_4 rfl (lv_at hl 0 rfl) ?_
            refine lv_iconst (v := 5) hx hb dX5_greatest_5 (by decide) ?_
            refine lv_icmp_ge (tgt := 59) hx hb dX5_greatest_6 (by decide) (fun _ => ?_) (fun hc => absurd (by decide) hc)
            refine lv_iload_n hx hb dX5_greatest_59 rfl (lv_at hl 1 rfl) ?_
            have hP9 := hP.sub (ws' := [(mo, .inr (6, [.int th, .int 1, .ref (ma 2), .ref (ma 3), .ref (ma 4), .ref (ma 5), .ref (ma 6), .ref (ma 7), .ref (ma 8), .ref (ma 9), .ref (ma 10), .ref (ma 11), .ref (ma 12), .ref (ma 13), .ref (ma 14), .ref (ma 15), .ref (ma 16), .ref (ma 17), .ref (ma 18), .ref (ma 19), .ref (ma 20), .ref (ma 21), .int 0, .ref (ma 23), .ref (ma 24), .ref (ma 25), .ref (ma 26), .ref (ma 27), .ref (ma 28)])), ((ma 28), wI tC 5 af), ((ma 2), wI tC 600 (fun _ => 0))]) [0, 1, 2] rfl
            have hD9 := hD.sub (ws' := [(mo, .inr (6, [.int th, .int 1, .ref (ma 2), .ref (ma 3), .ref (ma 4), .ref (ma 5), .ref (ma 6), .ref (ma 7), .ref (ma 8), .ref (ma 9), .ref (ma 10), .ref (ma 11), .ref (ma 12), .ref (ma 13), .ref (ma 14), .ref (ma 15), .ref (ma 16), .ref (ma 17), .ref (ma 18), .ref (ma 19), .ref (ma 20), .ref (ma 21), .int 0, .ref (ma 23), .ref (ma 24), .ref (ma 25), .ref (ma 26), .ref (ma 27), .ref (ma 28)])), ((ma 28), wI tC 5 af), ((ma 2), wI tC 600 (fun _ => 0))]) [0, 1, 2] (by decide) rfl
            refine W.widen (k := 0) (n := 0) (by omega) (by omega) ?_
            exact W.iret (v := 0) hx hb hr (fun t ht hW => ⟨⟨0, (), rfl, rfl, (by rw [ht]; exact hP9), va_K.moved hW.alike hK, hD9⟩, hS.F ht⟩) hS.2.2 dX5_greatest_60 hlocks
      · skip
        refine lv_iload_n hx hb dX5_greatest_4 rfl (lv_at hl 0 rfl) ?_
        refine lv_iconst (v := 5) hx hb dX5_greatest_5 (by decide) ?_
        refine lv_icmp_ge (tgt := 59) hx hb dX5_greatest_6 (by decide) (fun hc => absurd hc (by decide)) (fun _ => ?_)
        refine lv_aload_n hx hb dX5_greatest_9 rfl (lv_at hl 2 rfl) ?_
        refine va_get (D := D) (ci := 6) (v := .ref (ma 28)) (C := RX5) (T := TX5) (N := 29) hx hb hts in_X5_greatest_X5 hown hK hP 0 rfl rfl 28 (by decide) w_0 (fun _ h9 => h9) rfl dX5_greatest_10 ?_
        refine lv_iload_n hx hb dX5_greatest_13 rfl (lv_at hl 0 rfl) ?_
        refine va_iald hx hb hK hP 1 0 rfl rfl (by unfold vp_in; decide) dX5_greatest_14 ?_
        refine lv_topi (fun z_88 ez_88 => ?_)
        have fz_88 : z_88 = 0 := ez_88.trans (by rw [show (2 : Int32).toNatClampNeg = 2 by decide, haf 2 (by decide), hb2] <;> rfl)
        subst fz_88
        refine lv_if_lt (tgt := 51) hx hb dX5_greatest_15 (by decide) (fun hc => absurd hc (by decide)) (fun _ => ?_)
        refine lv_iload_n hx hb dX5_greatest_18 rfl (lv_at hl 1 rfl) ?_
        refine lv_if_lt (tgt := 42) hx hb dX5_greatest_19 (by decide) (fun hc => absurd hc (by decide)) (fun _ => ?_)
        refine lv_aload_n hx hb dX5_greatest_22 rfl (lv_at hl 2 rfl) ?_
        refine va_get (D := D) (ci := 6) (v := .ref (ma 2)) (C := RX5) (T := TX5) (N := 29) hx hb hts in_X5_greatest_X5 hown hK hP 0 rfl rfl 2 (by decide) w_1 (fun _ h9 => h9) rfl dX5_greatest_23 ?_
        refine lv_aload_n hx hb dX5_greatest_26 rfl (lv_at hl 2 rfl) ?_
        refine va_get (D := D) (ci := 6) (v := .ref (ma 28)) (C := RX5) (T := TX5) (N := 29) hx hb hts in_X5_greatest_X5 hown hK hP 0 rfl rfl 28 (by decide) w_0 (fun _ h9 => h9) rfl dX5_greatest_27 ?_
        refine lv_iload_n hx hb dX5_greatest_30 rfl (lv_at hl 0 rfl) ?_
        refine va_iald hx hb hK hP 1 0 rfl rfl (by unfold vp_in; decide) dX5_greatest_31 ?_
        refine lv_topi (fun z_89 ez_89 => ?_)
        have fz_89 : z_89 = 0 := ez_89.trans (by rw [show (2 : Int32).toNatClampNeg = 2 by decide, haf 2 (by decide), hb2] <;> rfl)
        subst fz_89
        refine va_iald hx hb hK hP 2 0 rfl rfl (by unfold vp_in; decide) dX5_greatest_32 ?_
        refine lv_topi (fun z_90 ez_90 => ?_)
        have fz_90 : z_90 = 0 := ez_90.trans (rfl)
        subst fz_90
        refine lv_aload_n hx hb dX5_greatest_33 rfl (lv_at hl 2 rfl) ?_
        refine va_get (D := D) (ci := 6) (v := .ref (ma 2)) (C := RX5) (T := TX5) (N := 29) hx hb hts in_X5_greatest_X5 hown hK hP 0 rfl rfl 2 (by decide) w_1 (fun _ h9 => h9) rfl dX5_greatest_34 ?_
        refine lv_iload_n hx hb dX5_greatest_37 rfl (lv_at hl 1 rfl) ?_
        refine va_iald hx hb hK hP 2 0 rfl rfl (by unfold vp_in; decide) dX5_greatest_38 ?_
        refine lv_topi (fun z_91 ez_91 => ?_)
        have fz_91 : z_91 = 0 := ez_91.trans (rfl)
        subst fz_91
        refine lv_icmp_le (tgt := 51) hx hb dX5_greatest_39 (by decide) (fun _ => ?_) (fun hc => absurd (by decide) hc)
        refine lv_iload_n hx hb dX5_greatest_51 rfl (lv_at hl 1 rfl) ?_
        refine lv_istore_n (lv' := [(1, .int 0), (2, .int 2), (0, .ref mo)]) hx hb dX5_greatest_52 rfl hl (by decide) rfl (fun ls hl => ?_)
        refine lv_iinc (v := 3) (lv' := [(2, .int 3), (1, .int 0), (0, .ref mo)]) hx hb dX5_greatest_53 hl (k := 1) rfl (by decide) (by decide) rfl (fun ls hl => ?_)
        refine lv_goto (tgt := 4) hx hb dX5_greatest_56 (by decide) ?_
        cases hb3 : bt 3
        · skip
          refine lv_iload_n hx hb dX5_greatest_4 rfl (lv_at hl 0 rfl) ?_
          refine lv_iconst (v := 5) hx hb dX5_greatest_5 (by decide) ?_
          refine lv_icmp_ge (tgt := 59) hx hb dX5_greatest_6 (by decide) (fun hc => absurd hc (by decide)) (fun _ => ?_)
          refine lv_aload_n hx hb dX5_greatest_9 rfl (lv_at hl 2 rfl) ?_
          refine va_get (D := D) (ci := 6) (v := .ref (ma 28)) (C := RX5) (T := TX5) (N := 29) hx hb hts in_X5_greatest_X5 hown hK hP 0 rfl rfl 28 (by decide) w_0 (fun _ h9 => h9) rfl dX5_greatest_10 ?_
          refine lv_iload_n hx hb dX5_greatest_13 rfl (lv_at hl 0 rfl) ?_
          refine va_iald hx hb hK hP 1 0 rfl rfl (by unfold vp_in; decide) dX5_greatest_14 ?_
          refine lv_topi (fun z_92 ez_92 => ?_)
          have fz_92 : z_92 = (-1) := ez_92.trans (by rw [show (3 : Int32).toNatClampNeg = 3 by decide, haf 3 (by decide), hb3] <;> rfl)
          subst fz_92
          refine lv_if_lt (tgt := 51) hx hb dX5_greatest_15 (by decide) (fun _ => ?_) (fun hc => absurd (by decide) hc)
          refine lv_iload_n hx hb dX5_greatest_51 rfl (lv_at hl 1 rfl) ?_
          refine lv_istore_n (lv' := [(1, .int 0), (2, .int 3), (0, .ref mo)]) hx hb dX5_greatest_52 rfl hl (by decide) rfl (fun ls hl => ?_)
          refine lv_iinc (v := 4) (lv' := [(2, .int 4), (1, .int 0), (0, .ref mo)]) hx hb dX5_greatest_53 hl (k := 1) rfl (by decide) (by decide) rfl (fun ls hl => ?_)
          refine lv_goto (tgt := 4) hx hb dX5_greatest_56 (by decide) ?_
          cases hb4 : bt 4
          · skip
            refine lv_iload_n hx hb dX5_greatest_4 rfl (lv_at hl 0 rfl) ?_
            refine lv_iconst (v := 5) hx hb dX5_greatest_5 (by decide) ?_
            refine lv_icmp_ge (tgt := 59) hx hb dX5_greatest_6 (by decide) (fun hc => absurd hc (by decide)) (fun _ => ?_)
            refine lv_aload_n hx hb dX5_greatest_9 rfl (lv_at hl 2 rfl) ?_
            refine va_get (D := D) (ci := 6) (v := .ref (ma 28)) (C := RX5) (T := TX5) (N := 29) hx hb hts in_X5_greatest_X5 hown hK hP 0 rfl rfl 28 (by decide) w_0 (fun _ h9 => h9) rfl dX5_greatest_10 ?_
            refine lv_iload_n hx hb dX5_greatest_13 rfl (lv_at hl 0 rfl) ?_
            refine va_iald hx hb hK hP 1 0 rfl rfl (by unfold vp_in; decide) dX5_greatest_14 ?_
            refine lv_topi (fun z_93 ez_93 => ?_)
            have fz_93 : z_93 = (-1) := ez_93.trans (by rw [show (4 : Int32).toNatClampNeg = 4 by decide, haf 4 (by decide), hb4] <;> rfl)
            subst fz_93
            refine lv_if_lt (tgt := 51) hx hb dX5_greatest_15 (by decide) (fun _ => ?_) (fun hc => absurd (by decide) hc)
            refine lv_iload_n hx hb dX5_greatest_51 rfl (lv_at hl 1 rfl) ?_
            refine lv_istore_n (lv' := [(1, .int 0), (2, .int 4), (0, .ref mo)]) hx hb dX5_greatest_52 rfl hl (by decide) rfl (fun ls hl => ?_)
            refine lv_iinc (v := 5) (lv' := [(2, .int 5), (1, .int 0), (0, .ref mo)]) hx hb dX5_greatest_53 hl (k := 1) rfl (by decide) (by decide) rfl (fun ls hl => ?_)
            refine lv_goto (tgt := 4) hx hb dX5_greatest_56 (by decide) ?_
            refine lv_iload_n hx hb dX5_greatest_4 rfl (lv_at hl 0 rfl) ?_
            refine lv_iconst (v := 5) hx hb dX5_greatest_5 (by decide) ?_
            refine lv_icmp_ge (tgt := 59) hx hb dX5_greatest_6 (by decide) (fun _ => ?_) (fun hc => absurd (by decide) hc)
            refine lv_iload_n hx hb dX5_greatest_59 rfl (lv_at hl 1 rfl) ?_
            have hP9 := hP.sub (ws' := [(mo, .inr (6, [.int th, .int 1, .ref (ma 2), .ref (ma 3), .ref (ma 4), .ref (ma 5), .ref (ma 6), .ref (ma 7), .ref (ma 8), .ref (ma 9), .ref (ma 10), .ref (ma 11), .ref (ma 12), .ref (ma 13), .ref (ma 14), .ref (ma 15), .ref (ma 16), .ref (ma 17), .ref (ma 18), .ref (ma 19), .ref (ma 20), .ref (ma 21), .int 0, .ref (ma 23), .ref (ma 24), .ref (ma 25), .ref (ma 26), .ref (ma 27), .ref (ma 28)])), ((ma 28), wI tC 5 af), ((ma 2), wI tC 600 (fun _ => 0))]) [0, 1, 2] rfl
            have hD9 := hD.sub (ws' := [(mo, .inr (6, [.int th, .int 1, .ref (ma 2), .ref (ma 3), .ref (ma 4), .ref (ma 5), .ref (ma 6), .ref (ma 7), .ref (ma 8), .ref (ma 9), .ref (ma 10), .ref (ma 11), .ref (ma 12), .ref (ma 13), .ref (ma 14), .ref (ma 15), .ref (ma 16), .ref (ma 17), .ref (ma 18), .ref (ma 19), .ref (ma 20), .ref (ma 21), .int 0, .ref (ma 23), .ref (ma 24), .ref (ma 25), .ref (ma 26), .ref (ma 27), .ref (ma 28)])), ((ma 28), wI tC 5 af), ((ma 2), wI tC 600 (fun _ => 0))]) [0, 1, 2] (by decide) rfl
            refine W.widen (k := 0) (n := 0) (by omega) (by omega) ?_
            exact W.iret (v := 0) hx hb hr (fun t ht hW => ⟨⟨0, (), rfl, rfl, (by rw [ht]; exact hP9), va_K.moved hW.alike hK, hD9⟩, hS.F ht⟩) hS.2.2 dX5_greatest_60 hlocks
          · skip
            refine lv_iload_n hx hb dX5_greatest_4 rfl (lv_at hl 0 rfl) ?_
            refine lv_iconst (v := 5) hx hb dX5_greatest_5 (by decide) ?_
            refine lv_icmp_ge (tgt := 59) hx hb dX5_greatest_6 (by decide) (fun hc => absurd hc (by decide)) (fun _ => ?_)
            refine lv_aload_n hx hb dX5_greatest_9 rfl (lv_at hl 2 rfl) ?_
            refine va_get (D := D) (ci := 6) (v := .ref (ma 28)) (C := RX5) (T := TX5) (N := 29) hx hb hts in_X5_greatest_X5 hown hK hP 0 rfl rfl 28 (by decide) w_0 (fun _ h9 => h9) rfl dX5_greatest_10 ?_
            refine lv_iload_n hx hb dX5_greatest_13 rfl (lv_at hl 0 rfl) ?_
            refine va_iald hx hb hK hP 1 0 rfl rfl (by unfold vp_in; decide) dX5_greatest_14 ?_
            refine lv_topi (fun z_94 ez_94 => ?_)
            have fz_94 : z_94 = 0 := ez_94.trans (by rw [show (4 : Int32).toNatClampNeg = 4 by decide, haf 4 (by decide), hb4] <;> rfl)
            subst fz_94
            refine lv_if_lt (tgt := 51) hx hb dX5_greatest_15 (by decide) (fun hc => absurd hc (by decide)) (fun _ => ?_)
            refine lv_iload_n hx hb dX5_greatest_18 rfl (lv_at hl 1 rfl) ?_
            refine lv_if_lt (tgt := 42) hx hb dX5_greatest_19 (by decide) (fun hc => absurd hc (by decide)) (fun _ => ?_)
            refine lv_aload_n hx hb dX5_greatest_22 rfl (lv_at hl 2 rfl) ?_
            refine va_get (D := D) (ci := 6) (v := .ref (ma 2)) (C := RX5) (T := TX5) (N := 29) hx hb hts in_X5_greatest_X5 hown hK hP 0 rfl rfl 2 (by decide) w_1 (fun _ h9 => h9) rfl dX5_greatest_23 ?_
            refine lv_aload_n hx hb dX5_greatest_26 rfl (lv_at hl 2 rfl) ?_
            refine va_get (D := D) (ci := 6) (v := .ref (ma 28)) (C := RX5) (T := TX5) (N := 29) hx hb hts in_X5_greatest_X5 hown hK hP 0 rfl rfl 28 (by decide) w_0 (fun _ h9 => h9) rfl dX5_greatest_27 ?_
            refine lv_iload_n hx hb dX5_greatest_30 rfl (lv_at hl 0 rfl) ?_
            refine va_iald hx hb hK hP 1 0 rfl rfl (by unfold vp_in; decide) dX5_greatest_31 ?_
            refine lv_topi (fun z_95 ez_95 => ?_)
            have fz_95 : z_95 = 0 := ez_95.trans (by rw [show (4 : Int32).toNatClampNeg = 4 by decide, haf 4 (by decide), hb4] <;> rfl)
            subst fz_95
            refine va_iald hx hb hK hP 2 0 rfl rfl (by unfold vp_in; decide) dX5_greatest_32 ?_
            refine lv_topi (fun z_96 ez_96 => ?_)
            have fz_96 : z_96 = 0 := ez_96.trans (rfl)
            subst fz_96
            refine lv_aload_n hx hb dX5_greatest_33 rfl (lv_at hl 2 rfl) ?_
            refine va_get (D := D) (ci := 6) (v := .ref (ma 2)) (C := RX5) (T := TX5) (N := 29) hx hb hts in_X5_greatest_X5 hown hK hP 0 rfl rfl 2 (by decide) w_1 (fun _ h9 => h9) rfl dX5_greatest_34 ?_
            refine lv_iload_n hx hb dX5_greatest_37 rfl (lv_at hl 1 rfl) ?_
            refine va_iald hx hb hK hP 2 0 rfl rfl (by unfold vp_in; decide) dX5_greatest_38 ?_
            refine lv_topi (fun z_97 ez_97 => ?_)
            have fz_97 : z_97 = 0 := ez_97.trans (rfl)
            subst fz_97
            refine lv_icmp_le (tgt := 51) hx hb dX5_greatest_39 (by decide) (fun _ => ?_) (fun hc => absurd (by decide) hc)
            refine lv_iload_n hx hb dX5_greatest_51 rfl (lv_at hl 1 rfl) ?_
            refine lv_istore_n (lv' := [(1, .int 0), (2, .int 4), (0, .ref mo)]) hx hb dX5_greatest_52 rfl hl (by decide) rfl (fun ls hl => ?_)
            refine lv_iinc (v := 5) (lv' := [(2, .int 5), (1, .int 0), (0, .ref mo)]) hx hb dX5_greatest_53 hl (k := 1) rfl (by decide) (by decide) rfl (fun ls hl => ?_)
            refine lv_goto (tgt := 4) hx hb dX5_greatest_56 (by decide) ?_
            refine lv_iload_n hx hb dX5_greatest_4 rfl (lv_at hl 0 rfl) ?_
            refine lv_iconst (v := 5) hx hb dX5_greatest_5 (by decide) ?_
            refine lv_icmp_ge (tgt := 59) hx hb dX5_greatest_6 (by decide) (fun _ => ?_) (fun hc => absurd (by decide) hc)
            refine lv_iload_n hx hb dX5_greatest_59 rfl (lv_at hl 1 rfl) ?_
            have hP9 := hP.sub (ws' := [(mo, .inr (6, [.int th, .int 1, .ref (ma 2), .ref (ma 3), .ref (ma 4), .ref (ma 5), .ref (ma 6), .ref (ma 7), .ref (ma 8), .ref (ma 9), .ref (ma 10), .ref (ma 11), .ref (ma 12), .ref (ma 13), .ref (ma 14), .ref (ma 15), .ref (ma 16), .ref (ma 17), .ref (ma 18), .ref (ma 19), .ref (ma 20), .ref (ma 21), .int 0, .ref (ma 23), .ref (ma 24), .ref (ma 25), .ref (ma 26), .ref (ma 27), .ref (ma 28)])), ((ma 28), wI tC 5 af), ((ma 2), wI tC 600 (fun _ => 0))]) [0, 1, 2] rfl
            have hD9 := hD.sub (ws' := [(mo, .inr (6, [.int th, .int 1, .ref (ma 2), .ref (ma 3), .ref (ma 4), .ref (ma 5), .ref (ma 6), .ref (ma 7), .ref (ma 8), .ref (ma 9), .ref (ma 10), .ref (ma 11), .ref (ma 12), .ref (ma 13), .ref (ma 14), .ref (ma 15), .ref (ma 16), .ref (ma 17), .ref (ma 18), .ref (ma 19), .ref (ma 20), .ref (ma 21), .int 0, .ref (ma 23), .ref (ma 24), .ref (ma 25), .ref (ma 26), .ref (ma 27), .ref (ma 28)])), ((ma 28), wI tC 5 af), ((ma 2), wI tC 600 (fun _ => 0))]) [0, 1, 2] (by decide) rfl
            refine W.widen (k := 0) (n := 0) (by omega) (by omega) ?_
            exact W.iret (v := 0) hx hb hr (fun t ht hW => ⟨⟨0, (), rfl, rfl, (by rw [ht]; exact hP9), va_K.moved hW.alike hK, hD9⟩, hS.F ht⟩) hS.2.2 dX5_greatest_60 hlocks
        · skip
          refine lv_iload_n hx hb dX5_greatest_4 rfl (lv_at hl 0 rfl) ?_
          refine lv_iconst (v := 5) hx hb dX5_greatest_5 (by decide) ?_
          refine lv_icmp_ge (tgt := 59) hx hb dX5_greatest_6 (by decide) (fun hc => absurd hc (by decide)) (fun _ => ?_)
          refine lv_aload_n hx hb dX5_greatest_9 rfl (lv_at hl 2 rfl) ?_
          refine va_get (D := D) (ci := 6) (v := .ref (ma 28)) (C := RX5) (T := TX5) (N := 29) hx hb hts in_X5_greatest_X5 hown hK hP 0 rfl rfl 28 (by decide) w_0 (fun _ h9 => h9) rfl dX5_greatest_10 ?_
          refine lv_iload_n hx hb dX5_greatest_13 rfl (lv_at hl 0 rfl) ?_
          refine va_iald hx hb hK hP 1 0 rfl rfl (by unfold vp_in; decide) dX5_greatest_14 ?_
          refine lv_topi (fun z_98 ez_98 => ?_)
          have fz_98 : z_98 = 0 := ez_98.trans (by rw [show (3 : Int32).toNatClampNeg = 3 by decide, haf 3 (by decide), hb3] <;> rfl)
          subst fz_98
          refine lv_if_lt (tgt := 51) hx hb dX5_greatest_15 (by decide) (fun hc => absurd hc (by decide)) (fun _ => ?_)
          refine lv_iload_n hx hb dX5_greatest_18 rfl (lv_at hl 1 rfl) ?_
          refine lv_if_lt (tgt := 42) hx hb dX5_greatest_19 (by decide) (fun hc => absurd hc (by decide)) (fun _ => ?_)
          refine lv_aload_n hx hb dX5_greatest_22 rfl (lv_at hl 2 rfl) ?_
          refine va_get (D := D) (ci := 6) (v := .ref (ma 2)) (C := RX5) (T := TX5) (N := 29) hx hb hts in_X5_greatest_X5 hown hK hP 0 rfl rfl 2 (by decide) w_1 (fun _ h9 => h9) rfl dX5_greatest_23 ?_
          refine lv_aload_n hx hb dX5_greatest_26 rfl (lv_at hl 2 rfl) ?_
          refine va_get (D := D) (ci := 6) (v := .ref (ma 28)) (C := RX5) (T := TX5) (N := 29) hx hb hts in_X5_greatest_X5 hown hK hP 0 rfl rfl 28 (by decide) w_0 (fun _ h9 => h9) rfl dX5_greatest_27 ?_
          refine lv_iload_n hx hb dX5_greatest_30 rfl (lv_at hl 0 rfl) ?_
          refine va_iald hx hb hK hP 1 0 rfl rfl (by unfold vp_in; decide) dX5_greatest_31 ?_
          refine lv_topi (fun z_99 ez_99 => ?_)
          have fz_99 : z_99 = 0 := ez_99.trans (by rw [show (3 : Int32).toNatClampNeg = 3 by decide, haf 3 (by decide), hb3] <;> rfl)
          subst fz_99
          refine va_iald hx hb hK hP 2 0 rfl rfl (by unfold vp_in; decide) dX5_greatest_32 ?_
          refine lv_topi (fun z_100 ez_100 => ?_)
          have fz_100 : z_100 = 0 := ez_100.trans (rfl)
          subst fz_100
          refine lv_aload_n hx hb dX5_greatest_33 rfl (lv_at hl 2 rfl) ?_
          refine va_get (D := D) (ci := 6) (v := .ref (ma 2)) (C := RX5) (T := TX5) (N := 29) hx hb hts in_X5_greatest_X5 hown hK hP 0 rfl rfl 2 (by decide) w_1 (fun _ h9 => h9) rfl dX5_greatest_34 ?_
          refine lv_iload_n hx hb dX5_greatest_37 rfl (lv_at hl 1 rfl) ?_
          refine va_iald hx hb hK hP 2 0 rfl rfl (by unfold vp_in; decide) dX5_greatest_38 ?_
          refine lv_topi (fun z_101 ez_101 => ?_)
          have fz_101 : z_101 = 0 := ez_101.trans (rfl)
          subst fz_101
          refine lv_icmp_le (tgt := 51) hx hb dX5_greatest_39 (by decide) (fun _ => ?_) (fun hc => absurd (by decide) hc)
          refine lv_iload_n hx hb dX5_greatest_51 rfl (lv_at hl 1 rfl) ?_
          refine lv_istore_n (lv' := [(1, .int 0), (2, .int 3), (0, .ref mo)]) hx hb dX5_greatest_52 rfl hl (by decide) rfl (fun ls hl => ?_)
          refine lv_iinc (v := 4) (lv' := [(2, .int 4), (1, .int 0), (0, .ref mo)]) hx hb dX5_greatest_53 hl (k := 1) rfl (by decide) (by decide) rfl (fun ls hl => ?_)
          refine lv_goto (tgt := 4) hx hb dX5_greatest_56 (by decide) ?_
          cases hb4 : bt 4
          · skip
            refine lv_iload_n hx hb dX5_greatest_4 rfl (lv_at hl 0 rfl) ?_
            refine lv_iconst (v := 5) hx hb dX5_greatest_5 (by decide) ?_
            refine lv_icmp_ge (tgt := 59) hx hb dX5_greatest_6 (by decide) (fun hc => absurd hc (by decide)) (fun _ => ?_)
            refine lv_aload_n hx hb dX5_greatest_9 rfl (lv_at hl 2 rfl) ?_
            refine va_get (D := D) (ci := 6) (v := .ref (ma 28)) (C := RX5) (T := TX5) (N := 29) hx hb hts in_X5_greatest_X5 hown hK hP 0 rfl rfl 28 (by decide) w_0 (fun _ h9 => h9) rfl dX5_greatest_10 ?_
            refine lv_iload_n hx hb dX5_greatest_13 rfl (lv_at hl 0 rfl) ?_
            refine va_iald hx hb hK hP 1 0 rfl rfl (by unfold vp_in; decide) dX5_greatest_14 ?_
            refine lv_topi (fun z_102 ez_102 => ?_)
            have fz_102 : z_102 = (-1) := ez_102.trans (by rw [show (4 : Int32).toNatClampNeg = 4 by decide, haf 4 (by decide), hb4] <;> rfl)
            subst fz_102
            refine lv_if_lt (tgt := 51) hx hb dX5_greatest_15 (by decide) (fun _ => ?_) (fun hc => absurd (by decide) hc)
            refine lv_iload_n hx hb dX5_greatest_51 rfl (lv_at hl 1 rfl) ?_
            refine lv_istore_n (lv' := [(1, .int 0), (2, .int 4), (0, .ref mo)]) hx hb dX5_greatest_52 rfl hl (by decide) rfl (fun ls hl => ?_)
            refine lv_iinc (v := 5) (lv' := [(2, .int 5), (1, .int 0), (0, .ref mo)]) hx hb dX5_greatest_53 hl (k := 1) rfl (by decide) (by decide) rfl (fun ls hl => ?_)
            refine lv_goto (tgt := 4) hx hb dX5_greatest_56 (by decide) ?_
            refine lv_iload_n hx hb dX5_greatest_4 rfl (lv_at hl 0 rfl) ?_
            refine lv_iconst (v := 5) hx hb dX5_greatest_5 (by decide) ?_
            refine lv_icmp_ge (tgt := 59) hx hb dX5_greatest_6 (by decide) (fun _ => ?_) (fun hc => absurd (by decide) hc)
            refine lv_iload_n hx hb dX5_greatest_59 rfl (lv_at hl 1 rfl) ?_
            have hP9 := hP.sub (ws' := [(mo, .inr (6, [.int th, .int 1, .ref (ma 2), .ref (ma 3), .ref (ma 4), .ref (ma 5), .ref (ma 6), .ref (ma 7), .ref (ma 8), .ref (ma 9), .ref (ma 10), .ref (ma 11), .ref (ma 12), .ref (ma 13), .ref (ma 14), .ref (ma 15), .ref (ma 16), .ref (ma 17), .ref (ma 18), .ref (ma 19), .ref (ma 20), .ref (ma 21), .int 0, .ref (ma 23), .ref (ma 24), .ref (ma 25), .ref (ma 26), .ref (ma 27), .ref (ma 28)])), ((ma 28), wI tC 5 af), ((ma 2), wI tC 600 (fun _ => 0))]) [0, 1, 2] rfl
            have hD9 := hD.sub (ws' := [(mo, .inr (6, [.int th, .int 1, .ref (ma 2), .ref (ma 3), .ref (ma 4), .ref (ma 5), .ref (ma 6), .ref (ma 7), .ref (ma 8), .ref (ma 9), .ref (ma 10), .ref (ma 11), .ref (ma 12), .ref (ma 13), .ref (ma 14), .ref (ma 15), .ref (ma 16), .ref (ma 17), .ref (ma 18), .ref (ma 19), .ref (ma 20), .ref (ma 21), .int 0, .ref (ma 23), .ref (ma 24), .ref (ma 25), .ref (ma 26), .ref (ma 27), .ref (ma 28)])), ((ma 28), wI tC 5 af), ((ma 2), wI tC 600 (fun _ => 0))]) [0, 1, 2] (by decide) rfl
            refine W.widen (k := 0) (n := 0) (by omega) (by omega) ?_
            exact W.iret (v := 0) hx hb hr (fun t ht hW => ⟨⟨0, (), rfl, rfl, (by rw [ht]; exact hP9), va_K.moved hW.alike hK, hD9⟩, hS.F ht⟩) hS.2.2 dX5_greatest_60 hlocks
          · skip
            refine lv_iload_n hx hb dX5_greatest_4 rfl (lv_at hl 0 rfl) ?_
            refine lv_iconst (v := 5) hx hb dX5_greatest_5 (by decide) ?_
            refine lv_icmp_ge (tgt := 59) hx hb dX5_greatest_6 (by decide) (fun hc => absurd hc (by decide)) (fun _ => ?_)
            refine lv_aload_n hx hb dX5_greatest_9 rfl (lv_at hl 2 rfl) ?_
            refine va_get (D := D) (ci := 6) (v := .ref (ma 28)) (C := RX5) (T := TX5) (N := 29) hx hb hts in_X5_greatest_X5 hown hK hP 0 rfl rfl 28 (by decide) w_0 (fun _ h9 => h9) rfl dX5_greatest_10 ?_
            refine lv_iload_n hx hb dX5_greatest_13 rfl (lv_at hl 0 rfl) ?_
            refine va_iald hx hb hK hP 1 0 rfl rfl (by unfold vp_in; decide) dX5_greatest_14 ?_
            refine lv_topi (fun z_103 ez_103 => ?_)
            have fz_103 : z_103 = 0 := ez_103.trans (by rw [show (4 : Int32).toNatClampNeg = 4 by decide, haf 4 (by decide), hb4] <;> rfl)
            subst fz_103
            refine lv_if_lt (tgt := 51) hx hb dX5_greatest_15 (by decide) (fun hc => absurd hc (by decide)) (fun _ => ?_)
            refine lv_iload_n hx hb dX5_greatest_18 rfl (lv_at hl 1 rfl) ?_
            refine lv_if_lt (tgt := 42) hx hb dX5_greatest_19 (by decide) (fun hc => absurd hc (by decide)) (fun _ => ?_)
            refine lv_aload_n hx hb dX5_greatest_22 rfl (lv_at hl 2 rfl) ?_
            refine va_get (D := D) (ci := 6) (v := .ref (ma 2)) (C := RX5) (T := TX5) (N := 29) hx hb hts in_X5_greatest_X5 hown hK hP 0 rfl rfl 2 (by decide) w_1 (fun _ h9 => h9) rfl dX5_greatest_23 ?_
            refine lv_aload_n hx hb dX5_greatest_26 rfl (lv_at hl 2 rfl) ?_
            refine va_get (D := D) (ci := 6) (v := .ref (ma 28)) (C := RX5) (T := TX5) (N := 29) hx hb hts in_X5_greatest_X5 hown hK hP 0 rfl rfl 28 (by decide) w_0 (fun _ h9 => h9) rfl dX5_greatest_27 ?_
            refine lv_iload_n hx hb dX5_greatest_30 rfl (lv_at hl 0 rfl) ?_
            refine va_iald hx hb hK hP 1 0 rfl rfl (by unfold vp_in; decide) dX5_greatest_31 ?_
            refine lv_topi (fun z_104 ez_104 => ?_)
            have fz_104 : z_104 = 0 := ez_104.trans (by rw [show (4 : Int32).toNatClampNeg = 4 by decide, haf 4 (by decide), hb4] <;> rfl)
            subst fz_104
            refine va_iald hx hb hK hP 2 0 rfl rfl (by unfold vp_in; decide) dX5_greatest_32 ?_
            refine lv_topi (fun z_105 ez_105 => ?_)
            have fz_105 : z_105 = 0 := ez_105.trans (rfl)
            subst fz_105
            refine lv_aload_n hx hb dX5_greatest_33 rfl (lv_at hl 2 rfl) ?_
            refine va_get (D := D) (ci := 6) (v := .ref (ma 2)) (C := RX5) (T := TX5) (N := 29) hx hb hts in_X5_greatest_X5 hown hK hP 0 rfl rfl 2 (by decide) w_1 (fun _ h9 => h9) rfl dX5_greatest_34 ?_
            refine lv_iload_n hx hb dX5_greatest_37 rfl (lv_at hl 1 rfl) ?_
            refine va_iald hx hb hK hP 2 0 rfl rfl (by unfold vp_in; decide) dX5_greatest_38 ?_
            refine lv_topi (fun z_106 ez_106 => ?_)
            have fz_106 : z_106 = 0 := ez_106.trans (rfl)
            subst fz_106
            refine lv_icmp_le (tgt := 51) hx hb dX5_greatest_39 (by decide) (fun _ => ?_) (fun hc => absurd (by decide) hc)
            refine lv_iload_n hx hb dX5_greatest_51 rfl (lv_at hl 1 rfl) ?_
            refine lv_istore_n (lv' := [(1, .int 0), (2, .int 4), (0, .ref mo)]) hx hb dX5_greatest_52 rfl hl (by decide) rfl (fun ls hl => ?_)
            refine lv_iinc (v := 5) (lv' := [(2, .int 5), (1, .int 0), (0, .ref mo)]) hx hb dX5_greatest_53 hl (k := 1) rfl (by decide) (by decide) rfl (fun ls hl => ?_)
            refine lv_goto (tgt := 4) hx hb dX5_greatest_56 (by decide) ?_
            refine lv_iload_n hx hb dX5_greatest_4 rfl (lv_at hl 0 rfl) ?_
            refine lv_iconst (v := 5) hx hb dX5_greatest_5 (by decide) ?_
            refine lv_icmp_ge (tgt := 59) hx hb dX5_greatest_6 (by decide) (fun _ => ?_) (fun hc => absurd (by decide) hc)
            refine lv_iload_n hx hb dX5_greatest_59 rfl (lv_at hl 1 rfl) ?_
            have hP9 := hP.sub (ws' := [(mo, .inr (6, [.int th, .int 1, .ref (ma 2), .ref (ma 3), .ref (ma 4), .ref (ma 5), .ref (ma 6), .ref (ma 7), .ref (ma 8), .ref (ma 9), .ref (ma 10), .ref (ma 11), .ref (ma 12), .ref (ma 13), .ref (ma 14), .ref (ma 15), .ref (ma 16), .ref (ma 17), .ref (ma 18), .ref (ma 19), .ref (ma 20), .ref (ma 21), .int 0, .ref (ma 23), .ref (ma 24), .ref (ma 25), .ref (ma 26), .ref (ma 27), .ref (ma 28)])), ((ma 28), wI tC 5 af), ((ma 2), wI tC 600 (fun _ => 0))]) [0, 1, 2] rfl
            have hD9 := hD.sub (ws' := [(mo, .inr (6, [.int th, .int 1, .ref (ma 2), .ref (ma 3), .ref (ma 4), .ref (ma 5), .ref (ma 6), .ref (ma 7), .ref (ma 8), .ref (ma 9), .ref (ma 10), .ref (ma 11), .ref (ma 12), .ref (ma 13), .ref (ma 14), .ref (ma 15), .ref (ma 16), .ref (ma 17), .ref (ma 18), .ref (ma 19), .ref (ma 20), .ref (ma 21), .int 0, .ref (ma 23), .ref (ma 24), .ref (ma 25), .ref (ma 26), .ref (ma 27), .ref (ma 28)])), ((ma 28), wI tC 5 af), ((ma 2), wI tC 600 (fun _ => 0))]) [0, 1, 2] (by decide) rfl
            refine W.widen (k := 0) (n := 0) (by omega) (by omega) ?_
            exact W.iret (v := 0) hx hb hr (fun t ht hW => ⟨⟨0, (), rfl, rfl, (by rw [ht]; exact hP9), va_K.moved hW.alike hK, hD9⟩, hS.F ht⟩) hS.2.2 dX5_greatest_60 hlocks
    · skip
      refine lv_iload_n hx hb dX5_greatest_4 rfl (lv_at hl 0 rfl) ?_
      refine lv_iconst (v := 5) hx hb dX5_greatest_5 (by decide) ?_
      refine lv_icmp_ge (tgt := 59) hx hb dX5_greatest_6 (by decide) (fun hc => absurd hc (by decide)) (fun _ => ?_)
      refine lv_aload_n hx hb dX5_greatest_9 rfl (lv_at hl 2 rfl) ?_
      refine va_get (D := D) (ci := 6) (v := .ref (ma 28)) (C := RX5) (T := TX5) (N := 29) hx hb hts in_X5_greatest_X5 hown hK hP 0 rfl rfl 28 (by decide) w_0 (fun _ h9 => h9) rfl dX5_greatest_10 ?_
      refine lv_iload_n hx hb dX5_greatest_13 rfl (lv_at hl 0 rfl) ?_
      refine va_iald hx hb hK hP 1 0 rfl rfl (by unfold vp_in; decide) dX5_greatest_14 ?_
      refine lv_topi (fun z_107 ez_107 => ?_)
      have fz_107 : z_107 = 0 := ez_107.trans (by rw [show (1 : Int32).toNatClampNeg = 1 by decide, haf 1 (by decide), hb1] <;> rfl)
      subst fz_107
      refine lv_if_lt (tgt := 51) hx hb dX5_greatest_15 (by decide) (fun hc => absurd hc (by decide)) (fun _ => ?_)
      refine lv_iload_n hx hb dX5_greatest_18 rfl (lv_at hl 1 rfl) ?_
      refine lv_if_lt (tgt := 42) hx hb dX5_greatest_19 (by decide) (fun hc => absurd hc (by decide)) (fun _ => ?_)
      refine lv_aload_n hx hb dX5_greatest_22 rfl (lv_at hl 2 rfl) ?_
      refine va_get (D := D) (ci := 6) (v := .ref (ma 2)) (C := RX5) (T := TX5) (N := 29) hx hb hts in_X5_greatest_X5 hown hK hP 0 rfl rfl 2 (by decide) w_1 (fun _ h9 => h9) rfl dX5_greatest_23 ?_
      refine lv_aload_n hx hb dX5_greatest_26 rfl (lv_at hl 2 rfl) ?_
      refine va_get (D := D) (ci := 6) (v := .ref (ma 28)) (C := RX5) (T := TX5) (N := 29) hx hb hts in_X5_greatest_X5 hown hK hP 0 rfl rfl 28 (by decide) w_0 (fun _ h9 => h9) rfl dX5_greatest_27 ?_
      refine lv_iload_n hx hb dX5_greatest_30 rfl (lv_at hl 0 rfl) ?_
      refine va_iald hx hb hK hP 1 0 rfl rfl (by unfold vp_in; decide) dX5_greatest_31 ?_
      refine lv_topi (fun z_108 ez_108 => ?_)
      have fz_108 : z_108 = 0 := ez_108.trans (by rw [show (1 : Int32).toNatClampNeg = 1 by decide, haf 1 (by decide), hb1] <;> rfl)
      subst fz_108
      refine va_iald hx hb hK hP 2 0 rfl rfl (by unfold vp_in; decide) dX5_greatest_32 ?_
      refine lv_topi (fun z_109 ez_109 => ?_)
      have fz_109 : z_109 = 0 := ez_109.trans (rfl)
      subst fz_109
      refine lv_aload_n hx hb dX5_greatest_33 rfl (lv_at hl 2 rfl) ?_
      refine va_get (D := D) (ci := 6) (v := .ref (ma 2)) (C := RX5) (T := TX5) (N := 29) hx hb hts in_X5_greatest_X5 hown hK hP 0 rfl rfl 2 (by decide) w_1 (fun _ h9 => h9) rfl dX5_greatest_34 ?_
      refine lv_iload_n hx hb dX5_greatest_37 rfl (lv_at hl 1 rfl) ?_
      refine va_iald hx hb hK hP 2 0 rfl rfl (by unfold vp_in; decide) dX5_greatest_38 ?_
      refine lv_topi (fun z_110 ez_110 => ?_)
      have fz_110 : z_110 = 0 := ez_110.trans (rfl)
      subst fz_110
      refine lv_icmp_le (tgt := 51) hx hb dX5_greatest_39 (by decide) (fun _ => ?_) (fun hc => absurd (by decide) hc)
      refine lv_iload_n hx hb dX5_greatest_51 rfl (lv_at hl 1 rfl) ?_
      refine lv_istore_n (lv' := [(1, .int 0), (2, .int 1), (0, .ref mo)]) hx hb dX5_greatest_52 rfl hl (by decide) rfl (fun ls hl => ?_)
      refine lv_iinc (v := 2) (lv' := [(2, .int 2), (1, .int 0), (0, .ref mo)]) hx hb dX5_greatest_53 hl (k := 1) rfl (by decide) (by decide) rfl (fun ls hl => ?_)
      refine lv_goto (tgt := 4) hx hb dX5_greatest_56 (by decide) ?_
      cases hb2 : bt 2
      · skip
        refine lv_iload_n hx hb dX5_greatest_4 rfl (lv_at hl 0 rfl) ?_
        refine lv_iconst (v := 5) hx hb dX5_greatest_5 (by decide) ?_
        refine lv_icmp_ge (tgt := 59) hx hb dX5_greatest_6 (by decide) (fun hc => absurd hc (by decide)) (fun _ => ?_)
        refine lv_aload_n hx hb dX5_greatest_9 rfl (lv_at hl 2 rfl) ?_
        refine va_get (D := D) (ci := 6) (v := .ref (ma 28)) (C := RX5) (T := TX5) (N := 29) hx hb hts in_X5_greatest_X5 hown hK hP 0 rfl rfl 28 (by decide) w_0 (fun _ h9 => h9) rfl dX5_greatest_10 ?_
        refine lv_iload_n hx hb dX5_greatest_13 rfl (lv_at hl 0 rfl) ?_
        refine va_iald hx hb hK hP 1 0 rfl rfl (by unfold vp_in; decide) dX5_greatest_14 ?_
        refine lv_topi (fun z_111 ez_111 => ?_)
        have fz_111 : z_111 = (-1) := ez_111.trans (by rw [show (2 : Int32).toNatClampNeg = 2 by decide, haf 2 (by decide), hb2] <;> rfl)
        subst fz_111
        refine lv_if_lt (tgt := 51) hx hb dX5_greatest_15 (by decide) (fun _ => ?_) (fun hc => absurd (by decide) hc)
        refine lv_iload_n hx hb dX5_greatest_51 rfl (lv_at hl 1 rfl) ?_
        refine lv_istore_n (lv' := [(1, .int 0), (2, .int 2), (0, .ref mo)]) hx hb dX5_greatest_52 rfl hl (by decide) rfl (fun ls hl => ?_)
        refine lv_iinc (v := 3) (lv' := [(2, .int 3), (1, .int 0), (0, .ref mo)]) hx hb dX5_greatest_53 hl (k := 1) rfl (by decide) (by decide) rfl (fun ls hl => ?_)
        refine lv_goto (tgt := 4) hx hb dX5_greatest_56 (by decide) ?_
        cases hb3 : bt 3
        · skip
          refine lv_iload_n hx hb dX5_greatest_4 rfl (lv_at hl 0 rfl) ?_
          refine lv_iconst (v := 5) hx hb dX5_greatest_5 (by decide) ?_
          refine lv_icmp_ge (tgt := 59) hx hb dX5_greatest_6 (by decide) (fun hc => absurd hc (by decide)) (fun _ => ?_)
          refine lv_aload_n hx hb dX5_greatest_9 rfl (lv_at hl 2 rfl) ?_
          refine va_get (D := D) (ci := 6) (v := .ref (ma 28)) (C := RX5) (T := TX5) (N := 29) hx hb hts in_X5_greatest_X5 hown hK hP 0 rfl rfl 28 (by decide) w_0 (fun _ h9 => h9) rfl dX5_greatest_10 ?_
          refine lv_iload_n hx hb dX5_greatest_13 rfl (lv_at hl 0 rfl) ?_
          refine va_iald hx hb hK hP 1 0 rfl rfl (by unfold vp_in; decide) dX5_greatest_14 ?_
          refine lv_topi (fun z_112 ez_112 => ?_)
          have fz_112 : z_112 = (-1) := ez_112.trans (by rw [show (3 : Int32).toNatClampNeg = 3 by decide, haf 3 (by decide), hb3] <;> rfl)
          subst fz_112
          refine lv_if_lt (tgt := 51) hx hb dX5_greatest_15 (by decide) (fun _ => ?_) (fun hc => absurd (by decide) hc)
          refine lv_iload_n hx hb dX5_greatest_51 rfl (lv_at hl 1 rfl) ?_
          refine lv_istore_n (lv' := [(1, .int 0), (2, .int 3), (0, .ref mo)]) hx hb dX5_greatest_52 rfl hl (by decide) rfl (fun ls hl => ?_)
          refine lv_iinc (v := 4) (lv' := [(2, .int 4), (1, .int 0), (0, .ref mo)]) hx hb dX5_greatest_53 hl (k := 1) rfl (by decide) (by decide) rfl (fun ls hl => ?_)
          refine lv_goto (tgt := 4) hx hb dX5_greatest_56 (by decide) ?_
          cases hb4 : bt 4
          · skip
            refine lv_iload_n hx hb dX5_greatest_4 rfl (lv_at hl 0 rfl) ?_
            refine lv_iconst (v := 5) hx hb dX5_greatest_5 (by decide) ?_
            refine lv_icmp_ge (tgt := 59) hx hb dX5_greatest_6 (by decide) (fun hc => absurd hc (by decide)) (fun _ => ?_)
            refine lv_aload_n hx hb dX5_greatest_9 rfl (lv_at hl 2 rfl) ?_
            refine va_get (D := D) (ci := 6) (v := .ref (ma 28)) (C := RX5) (T := TX5) (N := 29) hx hb hts in_X5_greatest_X5 hown hK hP 0 rfl rfl 28 (by decide) w_0 (fun _ h9 => h9) rfl dX5_greatest_10 ?_
            refine lv_iload_n hx hb dX5_greatest_13 rfl (lv_at hl 0 rfl) ?_
            refine va_iald hx hb hK hP 1 0 rfl rfl (by unfold vp_in; decide) dX5_greatest_14 ?_
            refine lv_topi (fun z_113 ez_113 => ?_)
            have fz_113 : z_113 = (-1) := ez_113.trans (by rw [show (4 : Int32).toNatClampNeg = 4 by decide, haf 4 (by decide), hb4] <;> rfl)
            subst fz_113
            refine lv_if_lt (tgt := 51) hx hb dX5_greatest_15 (by decide) (fun _ => ?_) (fun hc => absurd (by decide) hc)
            refine lv_iload_n hx hb dX5_greatest_51 rfl (lv_at hl 1 rfl) ?_
            refine lv_istore_n (lv' := [(1, .int 0), (2, .int 4), (0, .ref mo)]) hx hb dX5_greatest_52 rfl hl (by decide) rfl (fun ls hl => ?_)
            refine lv_iinc (v := 5) (lv' := [(2, .int 5), (1, .int 0), (0, .ref mo)]) hx hb dX5_greatest_53 hl (k := 1) rfl (by decide) (by decide) rfl (fun ls hl => ?_)
            refine lv_goto (tgt := 4) hx hb dX5_greatest_56 (by decide) ?_
            refine lv_iload_n hx hb dX5_greatest_4 rfl (lv_at hl 0 rfl) ?_
            refine lv_iconst (v := 5) hx hb dX5_greatest_5 (by decide) ?_
            refine lv_icmp_ge (tgt := 59) hx hb dX5_greatest_6 (by decide) (fun _ => ?_) (fun hc => absurd (by decide) hc)
            refine lv_iload_n hx hb dX5_greatest_59 rfl (lv_at hl 1 rfl) ?_
            have hP9 := hP.sub (ws' := [(mo, .inr (6, [.int th, .int 1, .ref (ma 2), .ref (ma 3), .ref (ma 4), .ref (ma 5), .ref (ma 6), .ref (ma 7), .ref (ma 8), .ref (ma 9), .ref (ma 10), .ref (ma 11), .ref (ma 12), .ref (ma 13), .ref (ma 14), .ref (ma 15), .ref (ma 16), .ref (ma 17), .ref (ma 18), .ref (ma 19), .ref (ma 20), .ref (ma 21), .int 0, .ref (ma 23), .ref (ma 24), .ref (ma 25), .ref (ma 26), .ref (ma 27), .ref (ma 28)])), ((ma 28), wI tC 5 af), ((ma 2), wI tC 600 (fun _ => 0))]) [0, 1, 2] rfl
            have hD9 := hD.sub (ws' := [(mo, .inr (6, [.int th, .int 1, .ref (ma 2), .ref (ma 3), .ref (ma 4), .ref (ma 5), .ref (ma 6), .ref (ma 7), .ref (ma 8), .ref (ma 9), .ref (ma 10), .ref (ma 11), .ref (ma 12), .ref (ma 13), .ref (ma 14), .ref (ma 15), .ref (ma 16), .ref (ma 17), .ref (ma 18), .ref (ma 19), .ref (ma 20), .ref (ma 21), .int 0, .ref (ma 23), .ref (ma 24), .ref (ma 25), .ref (ma 26), .ref (ma 27), .ref (ma 28)])), ((ma 28), wI tC 5 af), ((ma 2), wI tC 600 (fun _ => 0))]) [0, 1, 2] (by decide) rfl
            refine W.widen (k := 0) (n := 0) (by omega) (by omega) ?_
            exact W.iret (v := 0) hx hb hr (fun t ht hW => ⟨⟨0, (), rfl, rfl, (by rw [ht]; exact hP9), va_K.moved hW.alike hK, hD9⟩, hS.F ht⟩) hS.2.2 dX5_greatest_60 hlocks
          · skip
            refine lv_iload_n hx hb dX5_greatest_4 rfl (lv_at hl 0 rfl) ?_
            refine lv_iconst (v := 5) hx hb dX5_greatest_5 (by decide) ?_
            refine lv_icmp_ge (tgt := 59) hx hb dX5_greatest_6 (by decide) (fun hc => absurd hc (by decide)) (fun _ => ?_)
            refine lv_aload_n hx hb dX5_greatest_9 rfl (lv_at hl 2 rfl) ?_
            refine va_get (D := D) (ci := 6) (v := .ref (ma 28)) (C := RX5) (T := TX5) (N := 29) hx hb hts in_X5_greatest_X5 hown hK hP 0 rfl rfl 28 (by decide) w_0 (fun _ h9 => h9) rfl dX5_greatest_10 ?_
            refine lv_iload_n hx hb dX5_greatest_13 rfl (lv_at hl 0 rfl) ?_
            refine va_iald hx hb hK hP 1 0 rfl rfl (by unfold vp_in; decide) dX5_greatest_14 ?_
            refine lv_topi (fun z_114 ez_114 => ?_)
            have fz_114 : z_114 = 0 := ez_114.trans (by rw [show (4 : Int32).toNatClampNeg = 4 by decide, haf 4 (by decide), hb4] <;> rfl)
            subst fz_114
            refine lv_if_lt (tgt := 51) hx hb dX5_greatest_15 (by decide) (fun hc => absurd hc (by decide)) (fun _ => ?_)
            refine lv_iload_n hx hb dX5_greatest_18 rfl (lv_at hl 1 rfl) ?_
            refine lv_if_lt (tgt := 42) hx hb dX5_greatest_19 (by decide) (fun hc => absurd hc (by decide)) (fun _ => ?_)
            refine lv_aload_n hx hb dX5_greatest_22 rfl (lv_at hl 2 rfl) ?_
            refine va_get (D := D) (ci := 6) (v := .ref (ma 2)) (C := RX5) (T := TX5) (N := 29) hx hb hts in_X5_greatest_X5 hown hK hP 0 rfl rfl 2 (by decide) w_1 (fun _ h9 => h9) rfl dX5_greatest_23 ?_
            refine lv_aload_n hx hb dX5_greatest_26 rfl (lv_at hl 2 rfl) ?_
            refine va_get (D := D) (ci := 6) (v := .ref (ma 28)) (C := RX5) (T := TX5) (N := 29) hx hb hts in_X5_greatest_X5 hown hK hP 0 rfl rfl 28 (by decide) w_0 (fun _ h9 => h9) rfl dX5_greatest_27 ?_
            refine lv_iload_n hx hb dX5_greatest_30 rfl (lv_at hl 0 rfl) ?_
            refine va_iald hx hb hK hP 1 0 rfl rfl (by unfold vp_in; decide) dX5_greatest_31 ?_
            refine lv_topi (fun z_115 ez_115 => ?_)
            have fz_115 : z_115 = 0 := ez_115.trans (by rw [show (4 : Int32).toNatClampNeg = 4 by decide, haf 4 (by decide), hb4] <;> rfl)
            subst fz_115
            refine va_iald hx hb hK hP 2 0 rfl rfl (by unfold vp_in; decide) dX5_greatest_32 ?_
            refine lv_topi (fun z_116 ez_116 => ?_)
            have fz_116 : z_116 = 0 := ez_116.trans (rfl)
            subst fz_116
            refine lv_aload_n hx hb dX5_greatest_33 rfl (lv_at hl 2 rfl) ?_
            refine va_get (D := D) (ci := 6) (v := .ref (ma 2)) (C := RX5) (T := TX5) (N := 29) hx hb hts in_X5_greatest_X5 hown hK hP 0 rfl rfl 2 (by decide) w_1 (fun _ h9 => h9) rfl dX5_greatest_34 ?_
            refine lv_iload_n hx hb dX5_greatest_37 rfl (lv_at hl 1 rfl) ?_
            refine va_iald hx hb hK hP 2 0 rfl rfl (by unfold vp_in; decide) dX5_greatest_38 ?_
            refine lv_topi (fun z_117 ez_117 => ?_)
            have fz_117 : z_117 = 0 := ez_117.trans (rfl)
            subst fz_117
            refine lv_icmp_le (tgt := 51) hx hb dX5_greatest_39 (by decide) (fun _ => ?_) (fun hc => absurd (by decide) hc)
            refine lv_iload_n hx hb dX5_greatest_51 rfl (lv_at hl 1 rfl) ?_
            refine lv_istore_n (lv' := [(1, .int 0), (2, .int 4), (0, .ref mo)]) hx hb dX5_greatest_52 rfl hl (by decide) rfl (fun ls hl => ?_)
            refine lv_iinc (v := 5) (lv' := [(2, .int 5), (1, .int 0), (0, .ref mo)]) hx hb dX5_greatest_53 hl (k := 1) rfl (by decide) (by decide) rfl (fun ls hl => ?_)
            refine lv_goto (tgt := 4) hx hb dX5_greatest_56 (by decide) ?_
            refine lv_iload_n hx hb dX5_greatest_4 rfl (lv_at hl 0 rfl) ?_
            refine lv_iconst (v := 5) hx hb dX5_greatest_5 (by decide) ?_
            refine lv_icmp_ge (tgt := 59) hx hb dX5_greatest_6 (by decide) (fun _ => ?_) (fun hc => absurd (by decide) hc)
            refine lv_iload_n hx hb dX5_greatest_59 rfl (lv_at hl 1 rfl) ?_
            have hP9 := hP.sub (ws' := [(mo, .inr (6, [.int th, .int 1, .ref (ma 2), .ref (ma 3), .ref (ma 4), .ref (ma 5), .ref (ma 6), .ref (ma 7), .ref (ma 8), .ref (ma 9), .ref (ma 10), .ref (ma 11), .ref (ma 12), .ref (ma 13), .ref (ma 14), .ref (ma 15), .ref (ma 16), .ref (ma 17), .ref (ma 18), .ref (ma 19), .ref (ma 20), .ref (ma 21), .int 0, .ref (ma 23), .ref (ma 24), .ref (ma 25), .ref (ma 26), .ref (ma 27), .ref (ma 28)])), ((ma 28), wI tC 5 af), ((ma 2), wI tC 600 (fun _ => 0))]) [0, 1, 2] rfl
            have hD9 := hD.sub (ws' := [(mo, .inr (6, [.int th, .int 1, .ref (ma 2), .ref (ma 3), .ref (ma 4), .ref (ma 5), .ref (ma 6), .ref (ma 7), .ref (ma 8), .ref (ma 9), .ref (ma 10), .ref (ma 11), .ref (ma 12), .ref (ma 13), .ref (ma 14), .ref (ma 15), .ref (ma 16), .ref (ma 17), .ref (ma 18), .ref (ma 19), .ref (ma 20), .ref (ma 21), .int 0, .ref (ma 23), .ref (ma 24), .ref (ma 25), .ref (ma 26), .ref (ma 27), .ref (ma 28)])), ((ma 28), wI tC 5 af), ((ma 2), wI tC 600 (fun _ => 0))]) [0, 1, 2] (by decide) rfl
            refine W.widen (k := 0) (n := 0) (by omega) (by omega) ?_
            exact W.iret (v := 0) hx hb hr (fun t ht hW => ⟨⟨0, (), rfl, rfl, (by rw [ht]; exact hP9), va_K.moved hW.alike hK, hD9⟩, hS.F ht⟩) hS.2.2 dX5_greatest_60 hlocks
        · skip
          refine lv_iload_n hx hb dX5_greatest_4 rfl (lv_at hl 0 rfl) ?_
          refine lv_iconst (v := 5) hx hb dX5_greatest_5 (by decide) ?_
          refine lv_icmp_ge (tgt := 59) hx hb dX5_greatest_6 (by decide) (fun hc => absurd hc (by decide)) (fun _ => ?_)
          refine lv_aload_n hx hb dX5_greatest_9 rfl (lv_at hl 2 rfl) ?_
          refine va_get (D := D) (ci := 6) (v := .ref (ma 28)) (C := RX5) (T := TX5) (N := 29) hx hb hts in_X5_greatest_X5 hown hK hP 0 rfl rfl 28 (by decide) w_0 (fun _ h9 => h9) rfl dX5_greatest_10 ?_
          refine lv_iload_n hx hb dX5_greatest_13 rfl (lv_at hl 0 rfl) ?_
          refine va_iald hx hb hK hP 1 0 rfl rfl (by unfold vp_in; decide) dX5_greatest_14 ?_
          refine lv_topi (fun z_118 ez_118 => ?_)
          have fz_118 : z_118 = 0 := ez_118.trans (by rw [show (3 : Int32).toNatClampNeg = 3 by decide, haf 3 (by decide), hb3] <;> rfl)
          subst fz_118
          refine lv_if_lt (tgt := 51) hx hb dX5_greatest_15 (by decide) (fun hc => absurd hc (by decide)) (fun _ => ?_)
          refine lv_iload_n hx hb dX5_greatest_18 rfl (lv_at hl 1 rfl) ?_
          refine lv_if_lt (tgt := 42) hx hb dX5_greatest_19 (by decide) (fun hc => absurd hc (by decide)) (fun _ => ?_)
          refine lv_aload_n hx hb dX5_greatest_22 rfl (lv_at hl 2 rfl) ?_
          refine va_get (D := D) (ci := 6) (v := .ref (ma 2)) (C := RX5) (T := TX5) (N := 29) hx hb hts in_X5_greatest_X5 hown hK hP 0 rfl rfl 2 (by decide) w_1 (fun _ h9 => h9) rfl dX5_greatest_23 ?_
          refine lv_aload_n hx hb dX5_greatest_26 rfl (lv_at hl 2 rfl) ?_
          refine va_get (D := D) (ci := 6) (v := .ref (ma 28)) (C := RX5) (T := TX5) (N := 29) hx hb hts in_X5_greatest_X5 hown hK hP 0 rfl rfl 28 (by decide) w_0 (fun _ h9 => h9) rfl dX5_greatest_27 ?_
          refine lv_iload_n hx hb dX5_greatest_30 rfl (lv_at hl 0 rfl) ?_
          refine va_iald hx hb hK hP 1 0 rfl rfl (by unfold vp_in; decide) dX5_greatest_31 ?_
          refine lv_topi (fun z_119 ez_119 => ?_)
          have fz_119 : z_119 = 0 := ez_119.trans (by rw [show (3 : Int32).toNatClampNeg = 3 by decide, haf 3 (by decide), hb3] <;> rfl)
          subst fz_119
          refine va_iald hx hb hK hP 2 0 rfl rfl (by unfold vp_in; decide) dX5_greatest_32 ?_
          refine lv_topi (fun z_120 ez_120 => ?_)
          have fz_120 : z_120 = 0 := ez_120.trans (rfl)
          subst fz_120
          refine lv_aload_n hx hb dX5_greatest_33 rfl (lv_at hl 2 rfl) ?_
          refine va_get (D := D) (ci := 6) (v := .ref (ma 2)) (C := RX5) (T := TX5) (N := 29) hx hb hts in_X5_greatest_X5 hown hK hP 0 rfl rfl 2 (by decide) w_1 (fun _ h9 => h9) rfl dX5_greatest_34 ?_
          refine lv_iload_n hx hb dX5_greatest_37 rfl (lv_at hl 1 rfl) ?_
          refine va_iald hx hb hK hP 2 0 rfl rfl (by unfold vp_in; decide) dX5_greatest_38 ?_
          refine lv_topi (fun z_121 ez_121 => ?_)
          have fz_121 : z_121 = 0 := ez_121.trans (rfl)
          subst fz_121
          refine lv_icmp_le (tgt := 51) hx hb dX5_greatest_39 (by decide) (fun _ => ?_) (fun hc => absurd (by decide) hc)
          refine lv_iload_n hx hb dX5_greatest_51 rfl (lv_at hl 1 rfl) ?_
          refine lv_istore_n (lv' := [(1, .int 0), (2, .int 3), (0, .ref mo)]) hx hb dX5_greatest_52 rfl hl (by decide) rfl (fun ls hl => ?_)
          refine lv_iinc (v := 4) (lv' := [(2, .int 4), (1, .int 0), (0, .ref mo)]) hx hb dX5_greatest_53 hl (k := 1) rfl (by decide) (by decide) rfl (fun ls hl => ?_)
          refine lv_goto (tgt := 4) hx hb dX5_greatest_56 (by decide) ?_
          cases hb4 : bt 4
          · skip
            refine lv_iload_n hx hb dX5_greatest_4 rfl (lv_at hl 0 rfl) ?_
            refine lv_iconst (v := 5) hx hb dX5_greatest_5 (by decide) ?_
            refine lv_icmp_ge (tgt := 59) hx hb dX5_greatest_6 (by decide) (fun hc => absurd hc (by decide)) (fun _ => ?_)
            refine lv_aload_n hx hb dX5_greatest_9 rfl (lv_at hl 2 rfl) ?_
            refine va_get (D := D) (ci := 6) (v := .ref (ma 28)) (C := RX5) (T := TX5) (N := 29) hx hb hts in_X5_greatest_X5 hown hK hP 0 rfl rfl 28 (by decide) w_0 (fun _ h9 => h9) rfl dX5_greatest_10 ?_
            refine lv_iload_n hx hb dX5_greatest_13 rfl (lv_at hl 0 rfl) ?_
            refine va_iald hx hb hK hP 1 0 rfl rfl (by unfold vp_in; decide) dX5_greatest_14 ?_
            refine lv_topi (fun z_122 ez_122 => ?_)
            have fz_122 : z_122 = (-1) := ez_122.trans (by rw [show (4 : Int32).toNatClampNeg = 4 by decide, haf 4 (by decide), hb4] <;> rfl)
            subst fz_122
            refine lv_if_lt (tgt := 51) hx hb dX5_greatest_15 (by decide) (fun _ => ?_) (fun hc => absurd (by decide) hc)
            refine lv_iload_n hx hb dX5_greatest_51 rfl (lv_at hl 1 rfl) ?_
            refine lv_istore_n (lv' := [(1, .int 0), (2, .int 4), (0, .ref mo)]) hx hb dX5_greatest_52 rfl hl (by decide) rfl (fun ls hl => ?_)
            refine lv_iinc (v := 5) (lv' := [(2, .int 5), (1, .int 0), (0, .ref mo)]) hx hb dX5_greatest_53 hl (k := 1) rfl (by decide) (by decide) rfl (fun ls hl => ?_)
            refine lv_goto (tgt := 4) hx hb dX5_greatest_56 (by decide) ?_
            refine lv_iload_n hx hb dX5_greatest_4 rfl (lv_at hl 0 rfl) ?_
            refine lv_iconst (v := 5) hx hb dX5_greatest_5 (by decide) ?_
            refine lv_icmp_ge (tgt := 59) hx hb dX5_greatest_6 (by decide) (fun _ => ?_) (fun hc => absurd (by decide) hc)
            refine lv_iload_n hx hb dX5_greatest_59 rfl (lv_at hl 1 rfl) ?_
            have hP9 := hP.sub (ws' := [(mo, .inr (6, [.int th, .int 1, .ref (ma 2), .ref (ma 3), .ref (ma 4), .ref (ma 5), .ref (ma 6), .ref (ma 7), .ref (ma 8), .ref (ma 9), .ref (ma 10), .ref (ma 11), .ref (ma 12), .ref (ma 13), .ref (ma 14), .ref (ma 15), .ref (ma 16), .ref (ma 17), .ref (ma 18), .ref (ma 19), .ref (ma 20), .ref (ma 21), .int 0, .ref (ma 23), .ref (ma 24), .ref (ma 25), .ref (ma 26), .ref (ma 27), .ref (ma 28)])), ((ma 28), wI tC 5 af), ((ma 2), wI tC 600 (fun _ => 0))]) [0, 1, 2] rfl
            have hD9 := hD.sub (ws' := [(mo, .inr (6, [.int th, .int 1, .ref (ma 2), .ref (ma 3), .ref (ma 4), .ref (ma 5), .ref (ma 6), .ref (ma 7), .ref (ma 8), .ref (ma 9), .ref (ma 10), .ref (ma 11), .ref (ma 12), .ref (ma 13), .ref (ma 14), .ref (ma 15), .ref (ma 16), .ref (ma 17), .ref (ma 18), .ref (ma 19), .ref (ma 20), .ref (ma 21), .int 0, .ref (ma 23), .ref (ma 24), .ref (ma 25), .ref (ma 26), .ref (ma 27), .ref (ma 28)])), ((ma 28), wI tC 5 af), ((ma 2), wI tC 600 (fun _ => 0))]) [0, 1, 2] (by decide) rfl
            refine W.widen (k := 0) (n := 0) (by omega) (by omega) ?_
            exact W.iret (v := 0) hx hb hr (fun t ht hW => ⟨⟨0, (), rfl, rfl, (by rw [ht]; exact hP9), va_K.moved hW.alike hK, hD9⟩, hS.F ht⟩) hS.2.2 dX5_greatest_60 hlocks
          · skip
            refine lv_iload_n hx hb dX5_greatest_4 rfl (lv_at hl 0 rfl) ?_
            refine lv_iconst (v := 5) hx hb dX5_greatest_5 (by decide) ?_
            refine lv_icmp_ge (tgt := 59) hx hb dX5_greatest_6 (by decide) (fun hc => absurd hc (by decide)) (fun _ => ?_)
            refine lv_aload_n hx hb dX5_greatest_9 rfl (lv_at hl 2 rfl) ?_
            refine va_get (D := D) (ci := 6) (v := .ref (ma 28)) (C := RX5) (T := TX5) (N := 29) hx hb hts in_X5_greatest_X5 hown hK hP 0 rfl rfl 28 (by decide) w_0 (fun _ h9 => h9) rfl dX5_greatest_10 ?_
            refine lv_iload_n hx hb dX5_greatest_13 rfl (lv_at hl 0 rfl) ?_
            refine va_iald hx hb hK hP 1 0 rfl rfl (by unfold vp_in; decide) dX5_greatest_14 ?_
            refine lv_topi (fun z_123 ez_123 => ?_)
            have fz_123 : z_123 = 0 := ez_123.trans (by rw [show (4 : Int32).toNatClampNeg = 4 by decide, haf 4 (by decide), hb4] <;> rfl)
            subst fz_123
            refine lv_if_lt (tgt := 51) hx hb dX5_greatest_15 (by decide) (fun hc => absurd hc (by decide)) (fun _ => ?_)
            refine lv_iload_n hx hb dX5_greatest_18 rfl (lv_at hl 1 rfl) ?_
            refine lv_if_lt (tgt := 42) hx hb dX5_greatest_19 (by decide) (fun hc => absurd hc (by decide)) (fun _ => ?_)
            refine lv_aload_n hx hb dX5_greatest_22 rfl (lv_at hl 2 rfl) ?_
            refine va_get (D := D) (ci := 6) (v := .ref (ma 2)) (C := RX5) (T := TX5) (N := 29) hx hb hts in_X5_greatest_X5 hown hK hP 0 rfl rfl 2 (by decide) w_1 (fun _ h9 => h9) rfl dX5_greatest_23 ?_
            refine lv_aload_n hx hb dX5_greatest_26 rfl (lv_at hl 2 rfl) ?_
            refine va_get (D := D) (ci := 6) (v := .ref (ma 28)) (C := RX5) (T := TX5) (N := 29) hx hb hts in_X5_greatest_X5 hown hK hP 0 rfl rfl 28 (by decide) w_0 (fun _ h9 => h9) rfl dX5_greatest_27 ?_
            refine lv_iload_n hx hb dX5_greatest_30 rfl (lv_at hl 0 rfl) ?_
            refine va_iald hx hb hK hP 1 0 rfl rfl (by unfold vp_in; decide) dX5_greatest_31 ?_
            refine lv_topi (fun z_124 ez_124 => ?_)
            have fz_124 : z_124 = 0 := ez_124.trans (by rw [show (4 : Int32).toNatClampNeg = 4 by decide, haf 4 (by decide), hb4] <;> rfl)
            subst fz_124
            refine va_iald hx hb hK hP 2 0 rfl rfl (by unfold vp_in; decide) dX5_greatest_32 ?_
            refine lv_topi (fun z_125 ez_125 => ?_)
            have fz_125 : z_125 = 0 := ez_125.trans (rfl)
            subst fz_125
            refine lv_aload_n hx hb dX5_greatest_33 rfl (lv_at hl 2 rfl) ?_
            refine va_get (D := D) (ci := 6) (v := .ref (ma 2)) (C := RX5) (T := TX5) (N := 29) hx hb hts in_X5_greatest_X5 hown hK hP 0 rfl rfl 2 (by decide) w_1 (fun _ h9 => h9) rfl dX5_greatest_34 ?_
            refine lv_iload_n hx hb dX5_greatest_37 rfl (lv_at hl 1 rfl) ?_
            refine va_iald hx hb hK hP 2 0 rfl rfl (by unfold vp_in; decide) dX5_greatest_38 ?_
            refine lv_topi (fun z_126 ez_126 => ?_)
            have fz_126 : z_126 = 0 := ez_126.trans (rfl)
            subst fz_126
            refine lv_icmp_le (tgt := 51) hx hb dX5_greatest_39 (by decide) (fun _ => ?_) (fun hc => absurd (by decide) hc)
            refine lv_iload_n hx hb dX5_greatest_51 rfl (lv_at hl 1 rfl) ?_
            refine lv_istore_n (lv' := [(1, .int 0), (2, .int 4), (0, .ref mo)]) hx hb dX5_greatest_52 rfl hl (by decide) rfl (fun ls hl => ?_)
            refine lv_iinc (v := 5) (lv' := [(2, .int 5), (1, .int 0), (0, .ref mo)]) hx hb dX5_greatest_53 hl (k := 1) rfl (by decide) (by decide) rfl (fun ls hl => ?_)
            refine lv_goto (tgt := 4) hx hb dX5_greatest_56 (by decide) ?_
            refine lv_iload_n hx hb dX5_greatest_4 rfl (lv_at hl 0 rfl) ?_
            refine lv_iconst (v := 5) hx hb dX5_greatest_5 (by decide) ?_
            refine lv_icmp_ge (tgt := 59) hx hb dX5_greatest_6 (by decide) (fun _ => ?_) (fun hc => absurd (by decide) hc)
            refine lv_iload_n hx hb dX5_greatest_59 rfl (lv_at hl 1 rfl) ?_
            have hP9 := hP.sub (ws' := [(mo, .inr (6, [.int th, .int 1, .ref (ma 2), .ref (ma 3), .ref (ma 4), .ref (ma 5), .ref (ma 6), .ref (ma 7), .ref (ma 8), .ref (ma 9), .ref (ma 10), .ref (ma 11), .ref (ma 12), .ref (ma 13), .ref (ma 14), .ref (ma 15), .ref (ma 16), .ref (ma 17), .ref (ma 18), .ref (ma 19), .ref (ma 20), .ref (ma 21), .int 0, .ref (ma 23), .ref (ma 24), .ref (ma 25), .ref (ma 26), .ref (ma 27), .ref (ma 28)])), ((ma 28), wI tC 5 af), ((ma 2), wI tC 600 (fun _ => 0))]) [0, 1, 2] rfl
            have hD9 := hD.sub (ws' := [(mo, .inr (6, [.int th, .int 1, .ref (ma 2), .ref (ma 3), .ref (ma 4), .ref (ma 5), .ref (ma 6), .ref (ma 7), .ref (ma 8), .ref (ma 9), .ref (ma 10), .ref (ma 11), .ref (ma 12), .ref (ma 13), .ref (ma 14), .ref (ma 15), .ref (ma 16), .ref (ma 17), .ref (ma 18), .ref (ma 19), .ref (ma 20), .ref (ma 21), .int 0, .ref (ma 23), .ref (ma 24), .ref (ma 25), .ref (ma 26), .ref (ma 27), .ref (ma 28)])), ((ma 28), wI tC 5 af), ((ma 2), wI tC 600 (fun _ => 0))]) [0, 1, 2] (by decide) rfl
            refine W.widen (k := 0) (n := 0) (by omega) (by omega) ?_
            exact W.iret (v := 0) hx hb hr (fun t ht hW => ⟨⟨0, (), rfl, rfl, (by rw [ht]; exact hP9), va_K.moved hW.alike hK, hD9⟩, hS.F ht⟩) hS.2.2 dX5_greatest_60 hlocks
      · skip
        refine lv_iload_n hx hb dX5_greatest_4 rfl (lv_at hl 0 rfl) ?_
        refine lv_iconst (v := 5) hx hb dX5_greatest_5 (by decide) ?_
        refine lv_icmp_ge (tgt := 59) hx hb dX5_greatest_6 (by decide) (fun hc => absurd hc (by decide)) (fun _ => ?_)
        refine lv_aload_n hx hb dX5_greatest_9 rfl (lv_at hl 2 rfl) ?_
        refine va_get (D := D) (ci := 6) (v := .ref (ma 28)) (C := RX5) (T := TX5) (N := 29) hx hb hts in_X5_greatest_X5 hown hK hP 0 rfl rfl 28 (by decide) w_0 (fun _ h9 => h9) rfl dX5_greatest_10 ?_
        refine lv_iload_n hx hb dX5_greatest_13 rfl (lv_at hl 0 rfl) ?_
        refine va_iald hx hb hK hP 1 0 rfl rfl (by unfold vp_in; decide) dX5_greatest_14 ?_
        refine lv_topi (fun z_127 ez_127 => ?_)
        have fz_127 : z_127 = 0 := ez_127.trans (by rw [show (2 : Int32).toNatClampNeg = 2 by decide, haf 2 (by decide), hb2] <;> rfl)
        subst fz_127
        refine lv_if_lt (tgt := 51) hx hb dX5_greatest_15 (by decide) (fun hc => absurd hc (by decide)) (fun _ => ?_)
        refine lv_iload_n hx hb dX5_greatest_18 rfl (lv_at hl 1 rfl) ?_
        refine lv_if_lt (tgt := 42) hx hb dX5_greatest_19 (by decide) (fun hc => absurd hc (by decide)) (fun _ => ?_)
        refine lv_aload_n hx hb dX5_greatest_22 rfl (lv_at hl 2 rfl) ?_
        refine va_get (D := D) (ci := 6) (v := .ref (ma 2)) (C := RX5) (T := TX5) (N := 29) hx hb hts in_X5_greatest_X5 hown hK hP 0 rfl rfl 2 (by decide) w_1 (fun _ h9 => h9) rfl dX5_greatest_23 ?_
        refine lv_aload_n hx hb dX5_greatest_26 rfl (lv_at hl 2 rfl) ?_
        refine va_get (D := D) (ci := 6) (v := .ref (ma 28)) (C := RX5) (T := TX5) (N := 29) hx hb hts in_X5_greatest_X5 hown hK hP 0 rfl rfl 28 (by decide) w_0 (fun _ h9 => h9) rfl dX5_greatest_27 ?_
        refine lv_iload_n hx hb dX5_greatest_30 rfl (lv_at hl 0 rfl) ?_
        refine va_iald hx hb hK hP 1 0 rfl rfl (by unfold vp_in; decide) dX5_greatest_31 ?_
        refine lv_topi (fun z_128 ez_128 => ?_)
        have fz_128 : z_128 = 0 := ez_128.trans (by rw [show (2 : Int32).toNatClampNeg = 2 by decide, haf 2 (by decide), hb2] <;> rfl)
        subst fz_128
        refine va_iald hx hb hK hP 2 0 rfl rfl (by unfold vp_in; decide) dX5_greatest_32 ?_
        refine lv_topi (fun z_129 ez_129 => ?_)
        have fz_129 : z_129 = 0 := ez_129.trans (rfl)
        subst fz_129
        refine lv_aload_n hx hb dX5_greatest_33 rfl (lv_at hl 2 rfl) ?_
        refine va_get (D := D) (ci := 6) (v := .ref (ma 2)) (C := RX5) (T := TX5) (N := 29) hx hb hts in_X5_greatest_X5 hown hK hP 0 rfl rfl 2 (by decide) w_1 (fun _ h9 => h9) rfl dX5_greatest_34 ?_
        refine lv_iload_n hx hb dX5_greatest_37 rfl (lv_at hl 1 rfl) ?_
        refine va_iald hx hb hK hP 2 0 rfl rfl (by unfold vp_in; decide) dX5_greatest_38 ?_
        refine lv_topi (fun z_130 ez_130 => ?_)
        have fz_130 : z_130 = 0 := ez_130.trans (rfl)
        subst fz_130
        refine lv_icmp_le (tgt := 51) hx hb dX5_greatest_39 (by decide) (fun _ => ?_) (fun hc => absurd (by decide) hc)
        refine lv_iload_n hx hb dX5_greatest_51 rfl (lv_at hl 1 rfl) ?_
        refine lv_istore_n (lv' := [(1, .int 0), (2, .int 2), (0, .ref mo)]) hx hb dX5_greatest_52 rfl hl (by decide) rfl (fun ls hl => ?_)
        refine lv_iinc (v := 3) (lv' := [(2, .int 3), (1, .int 0), (0, .ref mo)]) hx hb dX5_greatest_53 hl (k := 1) rfl (by decide) (by decide) rfl (fun ls hl => ?_)
        refine lv_goto (tgt := 4) hx hb dX5_greatest_56 (by decide) ?_
        cases hb3 : bt 3
        · skip
          refine lv_iload_n hx hb dX5_greatest_4 rfl (lv_at hl 0 rfl) ?_
          refine lv_iconst (v := 5) hx hb dX5_greatest_5 (by decide) ?_
          refine lv_icmp_ge (tgt := 59) hx hb dX5_greatest_6 (by decide) (fun hc => absurd hc (by decide)) (fun _ => ?_)
          refine lv_aload_n hx hb dX5_greatest_9 rfl (lv_at hl 2 rfl) ?_
          refine va_get (D := D) (ci := 6) (v := .ref (ma 28)) (C := RX5) (T := TX5) (N := 29) hx hb hts in_X5_greatest_X5 hown hK hP 0 rfl rfl 28 (by decide) w_0 (fun _ h9 => h9) rfl dX5_greatest_10 ?_
          refine lv_iload_n hx hb dX5_greatest_13 rfl (lv_at hl 0 rfl) ?_
          refine va_iald hx hb hK hP 1 0 rfl rfl (by unfold vp_in; decide) dX5_greatest_14 ?_
          refine lv_topi (fun z_131 ez_131 => ?_)
          have fz_131 : z_131 = (-1) := ez_131.trans (by rw [show (3 : Int32).toNatClampNeg = 3 by decide, haf 3 (by decide), hb3] <;> rfl)
          subst fz_131
          refine lv_if_lt (tgt := 51) hx hb dX5_greatest_15 (by decide) (fun _ => ?_) (fun hc => absurd (by decide) hc)
          refine lv_iload_n hx hb dX5_greatest_51 rfl (lv_at hl 1 rfl) ?_
          refine lv_istore_n (lv' := [(1, .int 0), (2, .int 3), (0, .ref mo)]) hx hb dX5_greatest_52 rfl hl (by decide) rfl (fun ls hl => ?_)
          refine lv_iinc (v := 4) (lv' := [(2, .int 4), (1, .int 0), (0, .ref mo)]) hx hb dX5_greatest_53 hl (k := 1) rfl (by decide) (by decide) rfl (fun ls hl => ?_)
          refine lv_goto (tgt := 4) hx hb dX5_greatest_56 (by decide) ?_
          cases hb4 : bt 4
          · skip
            refine lv_iload_n hx hb dX5_greatest_4 rfl (lv_at hl 0 rfl) ?_
            refine lv_iconst (v := 5) hx hb dX5_greatest_5 (by decide) ?_
            refine lv_icmp_ge (tgt := 59) hx hb dX5_greatest_6 (by decide) (fun hc => absurd hc (by decide)) (fun _ => ?_)
            refine lv_aload_n hx hb dX5_greatest_9 rfl (lv_at hl 2 rfl) ?_
            refine va_get (D := D) (ci := 6) (v := .ref (ma 28)) (C := RX5) (T := TX5) (N := 29) hx hb hts in_X5_greatest_X5 hown hK hP 0 rfl rfl 28 (by decide) w_0 (fun _ h9 => h9) rfl dX5_greatest_10 ?_
            refine lv_iload_n hx hb dX5_greatest_13 rfl (lv_at hl 0 rfl) ?_
            refine va_iald hx hb hK hP 1 0 rfl rfl (by unfold vp_in; decide) dX5_greatest_14 ?_
            refine lv_topi (fun z_132 ez_132 => ?_)
            have fz_132 : z_132 = (-1) := ez_132.trans (by rw [show (4 : Int32).toNatClampNeg = 4 by decide, haf 4 (by decide), hb4] <;> rfl)
            subst fz_132
            refine lv_if_lt (tgt := 51) hx hb dX5_greatest_15 (by decide) (fun _ => ?_) (fun hc => absurd (by decide) hc)
            refine lv_iload_n hx hb dX5_greatest_51 rfl (lv_at hl 1 rfl) ?_
            refine lv_istore_n (lv' := [(1, .int 0), (2, .int 4), (0, .ref mo)]) hx hb dX5_greatest_52 rfl hl (by decide) rfl (fun ls hl => ?_)
            refine lv_iinc (v := 5) (lv' := [(2, .int 5), (1, .int 0), (0, .ref mo)]) hx hb dX5_greatest_53 hl (k := 1) rfl (by decide) (by decide) rfl (fun ls hl => ?_)
            refine lv_goto (tgt := 4) hx hb dX5_greatest_56 (by decide) ?_
            refine lv_iload_n hx hb dX5_greatest_4 rfl (lv_at hl 0 rfl) ?_
            refine lv_iconst (v := 5) hx hb dX5_greatest_5 (by decide) ?_
            refine lv_icmp_ge (tgt := 59) hx hb dX5_greatest_6 (by decide) (fun _ => ?_) (fun hc => absurd (by decide) hc)
            refine lv_iload_n hx hb dX5_greatest_59 rfl (lv_at hl 1 rfl) ?_
            have hP9 := hP.sub (ws' := [(mo, .inr (6, [.int th, .int 1, .ref (ma 2), .ref (ma 3), .ref (ma 4), .ref (ma 5), .ref (ma 6), .ref (ma 7), .ref (ma 8), .ref (ma 9), .ref (ma 10), .ref (ma 11), .ref (ma 12), .ref (ma 13), .ref (ma 14), .ref (ma 15), .ref (ma 16), .ref (ma 17), .ref (ma 18), .ref (ma 19), .ref (ma 20), .ref (ma 21), .int 0, .ref (ma 23), .ref (ma 24), .ref (ma 25), .ref (ma 26), .ref (ma 27), .ref (ma 28)])), ((ma 28), wI tC 5 af), ((ma 2), wI tC 600 (fun _ => 0))]) [0, 1, 2] rfl
            have hD9 := hD.sub (ws' := [(mo, .inr (6, [.int th, .int 1, .ref (ma 2), .ref (ma 3), .ref (ma 4), .ref (ma 5), .ref (ma 6), .ref (ma 7), .ref (ma 8), .ref (ma 9), .ref (ma 10), .ref (ma 11), .ref (ma 12), .ref (ma 13), .ref (ma 14), .ref (ma 15), .ref (ma 16), .ref (ma 17), .ref (ma 18), .ref (ma 19), .ref (ma 20), .ref (ma 21), .int 0, .ref (ma 23), .ref (ma 24), .ref (ma 25), .ref (ma 26), .ref (ma 27), .ref (ma 28)])), ((ma 28), wI tC 5 af), ((ma 2), wI tC 600 (fun _ => 0))]) [0, 1, 2] (by decide) rfl
            refine W.widen (k := 0) (n := 0) (by omega) (by omega) ?_
            exact W.iret (v := 0) hx hb hr (fun t ht hW => ⟨⟨0, (), rfl, rfl, (by rw [ht]; exact hP9), va_K.moved hW.alike hK, hD9⟩, hS.F ht⟩) hS.2.2 dX5_greatest_60 hlocks
          · skip
            refine lv_iload_n hx hb dX5_greatest_4 rfl (lv_at hl 0 rfl) ?_
            refine lv_iconst (v := 5) hx hb dX5_greatest_5 (by decide) ?_
            refine lv_icmp_ge (tgt := 59) hx hb dX5_greatest_6 (by decide) (fun hc => absurd hc (by decide)) (fun _ => ?_)
            refine lv_aload_n hx hb dX5_greatest_9 rfl (lv_at hl 2 rfl) ?_
            refine va_get (D := D) (ci := 6) (v := .ref (ma 28)) (C := RX5) (T := TX5) (N := 29) hx hb hts in_X5_greatest_X5 hown hK hP 0 rfl rfl 28 (by decide) w_0 (fun _ h9 => h9) rfl dX5_greatest_10 ?_
            refine lv_iload_n hx hb dX5_greatest_13 rfl (lv_at hl 0 rfl) ?_
            refine va_iald hx hb hK hP 1 0 rfl rfl (by unfold vp_in; decide) dX5_greatest_14 ?_
            refine lv_topi (fun z_133 ez_133 => ?_)
            have fz_133 : z_133 = 0 := ez_133.trans (by rw [show (4 : Int32).toNatClampNeg = 4 by decide, haf 4 (by decide), hb4] <;> rfl)
            subst fz_133
            refine lv_if_lt (tgt := 51) hx hb dX5_greatest_15 (by decide) (fun hc => absurd hc (by decide)) (fun _ => ?_)
            refine lv_iload_n hx hb dX5_greatest_18 rfl (lv_at hl 1 rfl) ?_
            refine lv_if_lt (tgt := 42) hx hb dX5_greatest_19 (by decide) (fun hc => absurd hc (by decide)) (fun _ => ?_)
            refine lv_aload_n hx hb dX5_greatest_22 rfl (lv_at hl 2 rfl) ?_
            refine va_get (D := D) (ci := 6) (v := .ref (ma 2)) (C := RX5) (T := TX5) (N := 29) hx hb hts in_X5_greatest_X5 hown hK hP 0 rfl rfl 2 (by decide) w_1 (fun _ h9 => h9) rfl dX5_greatest_23 ?_
            refine lv_aload_n hx hb dX5_greatest_26 rfl (lv_at hl 2 rfl) ?_
            refine va_get (D := D) (ci := 6) (v := .ref (ma 28)) (C := RX5) (T := TX5) (N := 29) hx hb hts in_X5_greatest_X5 hown hK hP 0 rfl rfl 28 (by decide) w_0 (fun _ h9 => h9) rfl dX5_greatest_27 ?_
            refine lv_iload_n hx hb dX5_greatest_30 rfl (lv_at hl 0 rfl) ?_
            refine va_iald hx hb hK hP 1 0 rfl rfl (by unfold vp_in; decide) dX5_greatest_31 ?_
            refine lv_topi (fun z_134 ez_134 => ?_)
            have fz_134 : z_134 = 0 := ez_134.trans (by rw [show (4 : Int32).toNatClampNeg = 4 by decide, haf 4 (by decide), hb4] <;> rfl)
            subst fz_134
            refine va_iald hx hb hK hP 2 0 rfl rfl (by unfold vp_in; decide) dX5_greatest_32 ?_
            refine lv_topi (fun z_135 ez_135 => ?_)
            have fz_135 : z_135 = 0 := ez_135.trans (rfl)
            subst fz_135
            refine lv_aload_n hx hb dX5_greatest_33 rfl (lv_at hl 2 rfl) ?_
            refine va_get (D := D) (ci := 6) (v := .ref (ma 2)) (C := RX5) (T := TX5) (N := 29) hx hb hts in_X5_greatest_X5 hown hK hP 0 rfl rfl 2 (by decide) w_1 (fun _ h9 => h9) rfl dX5_greatest_34 ?_
            refine lv_iload_n hx hb dX5_greatest_37 rfl (lv_at hl 1 rfl) ?_
            refine va_iald hx hb hK hP 2 0 rfl rfl (by unfold vp_in; decide) dX5_greatest_38 ?_
            refine lv_topi (fun z_136 ez_136 => ?_)
            have fz_136 : z_136 = 0 := ez_136.trans (rfl)
            subst fz_136
            refine lv_icmp_le (tgt := 51) hx hb dX5_greatest_39 (by decide) (fun _ => ?_) (fun hc => absurd (by decide) hc)
            refine lv_iload_n hx hb dX5_greatest_51 rfl (lv_at hl 1 rfl) ?_
            refine lv_istore_n (lv' := [(1, .int 0), (2, .int 4), (0, .ref mo)]) hx hb dX5_greatest_52 rfl hl (by decide) rfl (fun ls hl => ?_)
            refine lv_iinc (v := 5) (lv' := [(2, .int 5), (1, .int 0), (0, .ref mo)]) hx hb dX5_greatest_53 hl (k := 1) rfl (by decide) (by decide) rfl (fun ls hl => ?_)
            refine lv_goto (tgt := 4) hx hb dX5_greatest_56 (by decide) ?_
            refine lv_iload_n hx hb dX5_greatest_4 rfl (lv_at hl 0 rfl) ?_
            refine lv_iconst (v := 5) hx hb dX5_greatest_5 (by decide) ?_
            refine lv_icmp_ge (tgt := 59) hx hb dX5_greatest_6 (by decide) (fun _ => ?_) (fun hc => absurd (by decide) hc)
            refine lv_iload_n hx hb dX5_greatest_59 rfl (lv_at hl 1 rfl) ?_
            have hP9 := hP.sub (ws' := [(mo, .inr (6, [.int th, .int 1, .ref (ma 2), .ref (ma 3), .ref (ma 4), .ref (ma 5), .ref (ma 6), .ref (ma 7), .ref (ma 8), .ref (ma 9), .ref (ma 10), .ref (ma 11), .ref (ma 12), .ref (ma 13), .ref (ma 14), .ref (ma 15), .ref (ma 16), .ref (ma 17), .ref (ma 18), .ref (ma 19), .ref (ma 20), .ref (ma 21), .int 0, .ref (ma 23), .ref (ma 24), .ref (ma 25), .ref (ma 26), .ref (ma 27), .ref (ma 28)])), ((ma 28), wI tC 5 af), ((ma 2), wI tC 600 (fun _ => 0))]) [0, 1, 2] rfl
            have hD9 := hD.sub (ws' := [(mo, .inr (6, [.int th, .int 1, .ref (ma 2), .ref (ma 3), .ref (ma 4), .ref (ma 5), .ref (ma 6), .ref (ma 7), .ref (ma 8), .ref (ma 9), .ref (ma 10), .ref (ma 11), .ref (ma 12), .ref (ma 13), .ref (ma 14), .ref (ma 15), .ref (ma 16), .ref (ma 17), .ref (ma 18), .ref (ma 19), .ref (ma 20), .ref (ma 21), .int 0, .ref (ma 23), .ref (ma 24), .ref (ma 25), .ref (ma 26), .ref (ma 27), .ref (ma 28)])), ((ma 28), wI tC 5 af), ((ma 2), wI tC 600 (fun _ => 0))]) [0, 1, 2] (by decide) rfl
            refine W.widen (k := 0) (n := 0) (by omega) (by omega) ?_
            exact W.iret (v := 0) hx hb hr (fun t ht hW => ⟨⟨0, (), rfl, rfl, (by rw [ht]; exact hP9), va_K.moved hW.alike hK, hD9⟩, hS.F ht⟩) hS.2.2 dX5_greatest_60 hlocks
        · skip
          refine lv_iload_n hx hb dX5_greatest_4 rfl (lv_at hl 0 rfl) ?_
          refine lv_iconst (v := 5) hx hb dX5_greatest_5 (by decide) ?_
          refine lv_icmp_ge (tgt := 59) hx hb dX5_greatest_6 (by decide) (fun hc => absurd hc (by decide)) (fun _ => ?_)
          refine lv_aload_n hx hb dX5_greatest_9 rfl (lv_at hl 2 rfl) ?_
          refine va_get (D := D) (ci := 6) (v := .ref (ma 28)) (C := RX5) (T := TX5) (N := 29) hx hb hts in_X5_greatest_X5 hown hK hP 0 rfl rfl 28 (by decide) w_0 (fun _ h9 => h9) rfl dX5_greatest_10 ?_
          refine lv_iload_n hx hb dX5_greatest_13 rfl (lv_at hl 0 rfl) ?_
          refine va_iald hx hb hK hP 1 0 rfl rfl (by unfold vp_in; decide) dX5_greatest_14 ?_
          refine lv_topi (fun z_137 ez_137 => ?_)
          have fz_137 : z_137 = 0 := ez_137.trans (by rw [show (3 : Int32).toNatClampNeg = 3 by decide, haf 3 (by decide), hb3] <;> rfl)
          subst fz_137
          refine lv_if_lt (tgt := 51) hx hb dX5_greatest_15 (by decide) (fun hc => absurd hc (by decide)) (fun _ => ?_)
          refine lv_iload_n hx hb dX5_greatest_18 rfl (lv_at hl 1 rfl) ?_
          refine lv_if_lt (tgt := 42) hx hb dX5_greatest_19 (by decide) (fun hc => absurd hc (by decide)) (fun _ => ?_)
          refine lv_aload_n hx hb dX5_greatest_22 rfl (lv_at hl 2 rfl) ?_
          refine va_get (D := D) (ci := 6) (v := .ref (ma 2)) (C := RX5) (T := TX5) (N := 29) hx hb hts in_X5_greatest_X5 hown hK hP 0 rfl rfl 2 (by decide) w_1 (fun _ h9 => h9) rfl dX5_greatest_23 ?_
          refine lv_aload_n hx hb dX5_greatest_26 rfl (lv_at hl 2 rfl) ?_
          refine va_get (D := D) (ci := 6) (v := .ref (ma 28)) (C := RX5) (T := TX5) (N := 29) hx hb hts in_X5_greatest_X5 hown hK hP 0 rfl rfl 28 (by decide) w_0 (fun _ h9 => h9) rfl dX5_greatest_27 ?_
          refine lv_iload_n hx hb dX5_greatest_30 rfl (lv_at hl 0 rfl) ?_
          refine va_iald hx hb hK hP 1 0 rfl rfl (by unfold vp_in; decide) dX5_greatest_31 ?_
          refine lv_topi (fun z_138 ez_138 => ?_)
          have fz_138 : z_138 = 0 := ez_138.trans (by rw [show (3 : Int32).toNatClampNeg = 3 by decide, haf 3 (by decide), hb3] <;> rfl)
          subst fz_138
          refine va_iald hx hb hK hP 2 0 rfl rfl (by unfold vp_in; decide) dX5_greatest_32 ?_
          refine lv_topi (fun z_139 ez_139 => ?_)
          have fz_139 : z_139 = 0 := ez_139.trans (rfl)
          subst fz_139
          refine lv_aload_n hx hb dX5_greatest_33 rfl (lv_at hl 2 rfl) ?_
          refine va_get (D := D) (ci := 6) (v := .ref (ma 2)) (C := RX5) (T := TX5) (N := 29) hx hb hts in_X5_greatest_X5 hown hK hP 0 rfl rfl 2 (by decide) w_1 (fun _ h9 => h9) rfl dX5_greatest_34 ?_
          refine lv_iload_n hx hb dX5_greatest_37 rfl (lv_at hl 1 rfl) ?_
          refine va_iald hx hb hK hP 2 0 rfl rfl (by unfold vp_in; decide) dX5_greatest_38 ?_
          refine lv_topi (fun z_140 ez_140 => ?_)
          have fz_140 : z_140 = 0 := ez_140.trans (rfl)
          subst fz_140
          refine lv_icmp_le (tgt := 51) hx hb dX5_greatest_39 (by decide) (fun _ => ?_) (fun hc => absurd (by decide) hc)
          refine lv_iload_n hx hb dX5_greatest_51 rfl (lv_at hl 1 rfl) ?_
          refine lv_istore_n (lv' := [(1, .int 0), (2, .int 3), (0, .ref mo)]) hx hb dX5_greatest_52 rfl hl (by decide) rfl (fun ls hl => ?_)
          refine lv_iinc (v := 4) (lv' := [(2, .int 4), (1, .int 0), (0, .ref mo)]) hx hb dX5_greatest_53 hl (k := 1) rfl (by decide) (by decide) rfl (fun ls hl => ?_)
          refine lv_goto (tgt := 4) hx hb dX5_greatest_56 (by decide) ?_
          cases hb4 : bt 4
          · skip
            refine lv_iload_n hx hb dX5_greatest_4 rfl (lv_at hl 0 rfl) ?_
            refine lv_iconst (v := 5) hx hb dX5_greatest_5 (by decide) ?_
            refine lv_icmp_ge (tgt := 59) hx hb dX5_greatest_6 (by decide) (fun hc => absurd hc (by decide)) (fun _ => ?_)
            refine lv_aload_n hx hb dX5_greatest_9 rfl (lv_at hl 2 rfl) ?_
            refine va_get (D := D) (ci := 6) (v := .ref (ma 28)) (C := RX5) (T := TX5) (N := 29) hx hb hts in_X5_greatest_X5 hown hK hP 0 rfl rfl 28 (by decide) w_0 (fun _ h9 => h9) rfl dX5_greatest_10 ?_
            refine lv_iload_n hx hb dX5_greatest_13 rfl (lv_at hl 0 rfl) ?_
            refine va_iald hx hb hK hP 1 0 rfl rfl (by unfold vp_in; decide) dX5_greatest_14 ?_
            refine lv_topi (fun z_141 ez_141 => ?_)
            have fz_141 : z_141 = (-1) := ez_141.trans (by rw [show (4 : Int32).toNatClampNeg = 4 by decide, haf 4 (by decide), hb4] <;> rfl)
            subst fz_141
            refine lv_if_lt (tgt := 51) hx hb dX5_greatest_15 (by decide) (fun _ => ?_) (fun hc => absurd (by decide) hc)
            refine lv_iload_n hx hb dX5_greatest_51 rfl (lv_at hl 1 rfl) ?_
            refine lv_istore_n (lv' := [(1, .int 0), (2, .int 4), (0, .ref mo)]) hx hb dX5_greatest_52 rfl hl (by decide) rfl (fun ls hl => ?_)
            refine lv_iinc (v := 5) (lv' := [(2, .int 5), (1, .int 0), (0, .ref mo)]) hx hb dX5_greatest_53 hl (k := 1) rfl (by decide) (by decide) rfl (fun ls hl => ?_)
            refine lv_goto (tgt := 4) hx hb dX5_greatest_56 (by decide) ?_
            refine lv_iload_n hx hb dX5_greatest_4 rfl (lv_at hl 0 rfl) ?_
            refine lv_iconst (v := 5) hx hb dX5_greatest_5 (by decide) ?_
            refine lv_icmp_ge (tgt := 59) hx hb dX5_greatest_6 (by decide) (fun _ => ?_) (fun hc => absurd (by decide) hc)
            refine lv_iload_n hx hb dX5_greatest_59 rfl (lv_at hl 1 rfl) ?_
            have hP9 := hP.sub (ws' := [(mo, .inr (6, [.int th, .int 1, .ref (ma 2), .ref (ma 3), .ref (ma 4), .ref (ma 5), .ref (ma 6), .ref (ma 7), .ref (ma 8), .ref (ma 9), .ref (ma 10), .ref (ma 11), .ref (ma 12), .ref (ma 13), .ref (ma 14), .ref (ma 15), .ref (ma 16), .ref (ma 17), .ref (ma 18), .ref (ma 19), .ref (ma 20), .ref (ma 21), .int 0, .ref (ma 23), .ref (ma 24), .ref (ma 25), .ref (ma 26), .ref (ma 27), .ref (ma 28)])), ((ma 28), wI tC 5 af), ((ma 2), wI tC 600 (fun _ => 0))]) [0, 1, 2] rfl
            have hD9 := hD.sub (ws' := [(mo, .inr (6, [.int th, .int 1, .ref (ma 2), .ref (ma 3), .ref (ma 4), .ref (ma 5), .ref (ma 6), .ref (ma 7), .ref (ma 8), .ref (ma 9), .ref (ma 10), .ref (ma 11), .ref (ma 12), .ref (ma 13), .ref (ma 14), .ref (ma 15), .ref (ma 16), .ref (ma 17), .ref (ma 18), .ref (ma 19), .ref (ma 20), .ref (ma 21), .int 0, .ref (ma 23), .ref (ma 24), .ref (ma 25), .ref (ma 26), .ref (ma 27), .ref (ma 28)])), ((ma 28), wI tC 5 af), ((ma 2), wI tC 600 (fun _ => 0))]) [0, 1, 2] (by decide) rfl
            refine W.widen (k := 0) (n := 0) (by omega) (by omega) ?_
            exact W.iret (v := 0) hx hb hr (fun t ht hW => ⟨⟨0, (), rfl, rfl, (by rw [ht]; exact hP9), va_K.moved hW.alike hK, hD9⟩, hS.F ht⟩) hS.2.2 dX5_greatest_60 hlocks
          · skip
            refine lv_iload_n hx hb dX5_greatest_4 rfl (lv_at hl 0 rfl) ?_
            refine lv_iconst (v := 5) hx hb dX5_greatest_5 (by decide) ?_
            refine lv_icmp_ge (tgt := 59) hx hb dX5_greatest_6 (by decide) (fun hc => absurd hc (by decide)) (fun _ => ?_)
            refine lv_aload_n hx hb dX5_greatest_9 rfl (lv_at hl 2 rfl) ?_
            refine va_get (D := D) (ci := 6) (v := .ref (ma 28)) (C := RX5) (T := TX5) (N := 29) hx hb hts in_X5_greatest_X5 hown hK hP 0 rfl rfl 28 (by decide) w_0 (fun _ h9 => h9) rfl dX5_greatest_10 ?_
            refine lv_iload_n hx hb dX5_greatest_13 rfl (lv_at hl 0 rfl) ?_
            refine va_iald hx hb hK hP 1 0 rfl rfl (by unfold vp_in; decide) dX5_greatest_14 ?_
            refine lv_topi (fun z_142 ez_142 => ?_)
            have fz_142 : z_142 = 0 := ez_142.trans (by rw [show (4 : Int32).toNatClampNeg = 4 by decide, haf 4 (by decide), hb4] <;> rfl)
            subst fz_142
            refine lv_if_lt (tgt := 51) hx hb dX5_greatest_15 (by decide) (fun hc => absurd hc (by decide)) (fun _ => ?_)
            refine lv_iload_n hx hb dX5_greatest_18 rfl (lv_at hl 1 rfl) ?_
            refine lv_if_lt (tgt := 42) hx hb dX5_greatest_19 (by decide) (fun hc => absurd hc (by decide)) (fun _ => ?_)
            refine lv_aload_n hx hb dX5_greatest_22 rfl (lv_at hl 2 rfl) ?_
            refine va_get (D := D) (ci := 6) (v := .ref (ma 2)) (C := RX5) (T := TX5) (N := 29) hx hb hts in_X5_greatest_X5 hown hK hP 0 rfl rfl 2 (by decide) w_1 (fun _ h9 => h9) rfl dX5_greatest_23 ?_
            refine lv_aload_n hx hb dX5_greatest_26 rfl (lv_at hl 2 rfl) ?_
            refine va_get (D := D) (ci := 6) (v := .ref (ma 28)) (C := RX5) (T := TX5) (N := 29) hx hb hts in_X5_greatest_X5 hown hK hP 0 rfl rfl 28 (by decide) w_0 (fun _ h9 => h9) rfl dX5_greatest_27 ?_
            refine lv_iload_n hx hb dX5_greatest_30 rfl (lv_at hl 0 rfl) ?_
            refine va_iald hx hb hK hP 1 0 rfl rfl (by unfold vp_in; decide) dX5_greatest_31 ?_
            refine lv_topi (fun z_143 ez_143 => ?_)
            have fz_143 : z_143 = 0 := ez_143.trans (by rw [show (4 : Int32).toNatClampNeg = 4 by decide, haf 4 (by decide), hb4] <;> rfl)
            subst fz_143
            refine va_iald hx hb hK hP 2 0 rfl rfl (by unfold vp_in; decide) dX5_greatest_32 ?_
            refine lv_topi (fun z_144 ez_144 => ?_)
            have fz_144 : z_144 = 0 := ez_144.trans (rfl)
            subst fz_144
            refine lv_aload_n hx hb dX5_greatest_33 rfl (lv_at hl 2 rfl) ?_
            refine va_get (D := D) (ci := 6) (v := .ref (ma 2)) (C := RX5) (T := TX5) (N := 29) hx hb hts in_X5_greatest_X5 hown hK hP 0 rfl rfl 2 (by decide) w_1 (fun _ h9 => h9) rfl dX5_greatest_34 ?_
            refine lv_iload_n hx hb dX5_greatest_37 rfl (lv_at hl 1 rfl) ?_
            refine va_iald hx hb hK hP 2 0 rfl rfl (by unfold vp_in; decide) dX5_greatest_38 ?_
            refine lv_topi (fun z_145 ez_145 => ?_)
            have fz_145 : z_145 = 0 := ez_145.trans (rfl)
            subst fz_145
            refine lv_icmp_le (tgt := 51) hx hb dX5_greatest_39 (by decide) (fun _ => ?_) (fun hc => absurd (by decide) hc)
            refine lv_iload_n hx hb dX5_greatest_51 rfl (lv_at hl 1 rfl) ?_
            refine lv_istore_n (lv' := [(1, .int 0), (2, .int 4), (0, .ref mo)]) hx hb dX5_greatest_52 rfl hl (by decide) rfl (fun ls hl => ?_)
            refine lv_iinc (v := 5) (lv' := [(2, .int 5), (1, .int 0), (0, .ref mo)]) hx hb dX5_greatest_53 hl (k := 1) rfl (by decide) (by decide) rfl (fun ls hl => ?_)
            refine lv_goto (tgt := 4) hx hb dX5_greatest_56 (by decide) ?_
            refine lv_iload_n hx hb dX5_greatest_4 rfl (lv_at hl 0 rfl) ?_
            refine lv_iconst (v := 5) hx hb dX5_greatest_5 (by decide) ?_
            refine lv_icmp_ge (tgt := 59) hx hb dX5_greatest_6 (by decide) (fun _ => ?_) (fun hc => absurd (by decide) hc)
            refine lv_iload_n hx hb dX5_greatest_59 rfl (lv_at hl 1 rfl) ?_
            have hP9 := hP.sub (ws' := [(mo, .inr (6, [.int th, .int 1, .ref (ma 2), .ref (ma 3), .ref (ma 4), .ref (ma 5), .ref (ma 6), .ref (ma 7), .ref (ma 8), .ref (ma 9), .ref (ma 10), .ref (ma 11), .ref (ma 12), .ref (ma 13), .ref (ma 14), .ref (ma 15), .ref (ma 16), .ref (ma 17), .ref (ma 18), .ref (ma 19), .ref (ma 20), .ref (ma 21), .int 0, .ref (ma 23), .ref (ma 24), .ref (ma 25), .ref (ma 26), .ref (ma 27), .ref (ma 28)])), ((ma 28), wI tC 5 af), ((ma 2), wI tC 600 (fun _ => 0))]) [0, 1, 2] rfl
            have hD9 := hD.sub (ws' := [(mo, .inr (6, [.int th, .int 1, .ref (ma 2), .ref (ma 3), .ref (ma 4), .ref (ma 5), .ref (ma 6), .ref (ma 7), .ref (ma 8), .ref (ma 9), .ref (ma 10), .ref (ma 11), .ref (ma 12), .ref (ma 13), .ref (ma 14), .ref (ma 15), .ref (ma 16), .ref (ma 17), .ref (ma 18), .ref (ma 19), .ref (ma 20), .ref (ma 21), .int 0, .ref (ma 23), .ref (ma 24), .ref (ma 25), .ref (ma 26), .ref (ma 27), .ref (ma 28)])), ((ma 28), wI tC 5 af), ((ma 2), wI tC 600 (fun _ => 0))]) [0, 1, 2] (by decide) rfl
            refine W.widen (k := 0) (n := 0) (by omega) (by omega) ?_
            exact W.iret (v := 0) hx hb hr (fun t ht hW => ⟨⟨0, (), rfl, rfl, (by rw [ht]; exact hP9), va_K.moved hW.alike hK, hD9⟩, hS.F ht⟩) hS.2.2 dX5_greatest_60 hlocks
set_option maxHeartbeats 4000000 in
set_option maxRecDepth 100000 in
theorem c_X5_mayGoOn (l : Launch) (hlt : l.stackTraces = false) (D : va_G) (tC : Nat → ClassId) (dz sz : Nat) (mo : Nat) (ma : Nat → Nat) (th : Int32) (af : Nat → Int32) (bt : Nat → Bool) (zf : Nat → Int32) (haf : ∀ j : Nat, j < 5 → af j = if bt j then 0 else -1) (hzf : zf 0 = 5) : Met l yX5_mayGoOn wsX5_mayGoOn ({ frames := 1, cells := 0, slots := 0, locals := 22 }) (va_Pc [.ref mo] (pB D tC dz [(mo, .inr (6, [.int th, .int 1, .ref (ma 2), .ref (ma 3), .ref (ma 4), .ref (ma 5), .ref (ma 6), .ref (ma 7), .ref (ma 8), .ref (ma 9), .ref (ma 10), .ref (ma 11), .ref (ma 12), .ref (ma 13), .ref (ma 14), .ref (ma 15), .ref (ma 16), .ref (ma 17), .ref (ma 18), .ref (ma 19), .ref (ma 20), .ref (ma 21), .int 0, .ref (ma 23), .ref (ma 24), .ref (ma 25), .ref (ma 26), .ref (ma 27), .ref (ma 28)])), ((ma 28), wI tC 5 af), ((ma 2), wI tC 600 (fun _ => 0)), ((ma 7), wI tC 600 (fun _ => 0)), ((ma 6), wI tC 600 zf)] sz)) (va_Qi (fun (r : Int32) (_ : Unit) => r = if mayg bt then 1 else 0) (fun (_ : Unit) t => pA D tC (va_A [(mo, .inr (6, [.int th, .int 1, .ref (ma 2), .ref (ma 3), .ref (ma 4), .ref (ma 5), .ref (ma 6), .ref (ma 7), .ref (ma 8), .ref (ma 9), .ref (ma 10), .ref (ma 11), .ref (ma 12), .ref (ma 13), .ref (ma 14), .ref (ma 15), .ref (ma 16), .ref (ma 17), .ref (ma 18), .ref (ma 19), .ref (ma 20), .ref (ma 21), .int 0, .ref (ma 23), .ref (ma 24), .ref (ma 25), .ref (ma 26), .ref (ma 27), .ref (ma 28)])), ((ma 28), wI tC 5 af), ((ma 2), wI tC 600 (fun _ => 0)), ((ma 7), wI tC 600 (fun _ => 0)), ((ma 6), wI tC 600 zf)] sz) [(mo, .inr (6, [.int th, .int 1, .ref (ma 2), .ref (ma 3), .ref (ma 4), .ref (ma 5), .ref (ma 6), .ref (ma 7), .ref (ma 8), .ref (ma 9), .ref (ma 10), .ref (ma 11), .ref (ma 12), .ref (ma 13), .ref (ma 14), .ref (ma 15), .ref (ma 16), .ref (ma 17), .ref (ma 18), .ref (ma 19), .ref (ma 20), .ref (ma 21), .int 0, .ref (ma 23), .ref (ma 24), .ref (ma 25), .ref (ma 26), .ref (ma 27), .ref (ma 28)])), ((ma 28), wI tC 5 af), ((ma 2), wI tC 600 (fun _ => 0)), ((ma 7), wI tC 600 (fun _ => 0)), ((ma 6), wI tC 600 zf)] t) (va_A [(mo, .inr (6, [.int th, .int 1, .ref (ma 2), .ref (ma 3), .ref (ma 4), .ref (ma 5), .ref (ma 6), .ref (ma 7), .ref (ma 8), .ref (ma 9), .ref (ma 10), .ref (ma 11), .ref (ma 12), .ref (ma 13), .ref (ma 14), .ref (ma 15), .ref (ma 16), .ref (ma 17), .ref (ma 18), .ref (ma 19), .ref (ma 20), .ref (ma 21), .int 0, .ref (ma 23), .ref (ma 24), .ref (ma 25), .ref (ma 26), .ref (ma 27), .ref (ma 28)])), ((ma 28), wI tC 5 af), ((ma 2), wI tC 600 (fun _ => 0)), ((ma 7), wI tC 600 (fun _ => 0)), ((ma 6), wI tC 600 zf)] sz)) 0 0 (va_A [(mo, .inr (6, [.int th, .int 1, .ref (ma 2), .ref (ma 3), .ref (ma 4), .ref (ma 5), .ref (ma 6), .ref (ma 7), .ref (ma 8), .ref (ma 9), .ref (ma 10), .ref (ma 11), .ref (ma 12), .ref (ma 13), .ref (ma 14), .ref (ma 15), .ref (ma 16), .ref (ma 17), .ref (ma 18), .ref (ma 19), .ref (ma 20), .ref (ma 21), .int 0, .ref (ma 23), .ref (ma 24), .ref (ma 25), .ref (ma 26), .ref (ma 27), .ref (ma 28)])), ((ma 28), wI tC 5 af), ((ma 2), wI tC 600 (fun _ => 0)), ((ma 7), wI tC 600 (fun _ => 0)), ((ma 6), wI tC 600 zf)] sz) := by
  refine Met.ofW (cc := cX5_mayGoOn) (maxL := 4) (ret := (some .boolean)) (by decide) rfl ?_
  intro p e s m args below meth c s₁ B hml hv
  obtain ⟨rfl, hsz, hP, hK, hD0, hN, hE⟩ := hv
  have hx := B.exec
  have hb := B.bytes
  have hr := B.returns
  have hts := atoms_spec (ws := wsX5_mayGoOn) B.pre
  have hown : s.vm.findClass RX5 = some m.cls := findClass_of_methodNamed B.named
  have hlocks := B.notSynchronized
  subst hsz
  have hD := hD0.self (sz := s.heap.size)
  generalize hAe : va_A [(mo, .inr (6, [.int th, .int 1, .ref (ma 2), .ref (ma 3), .ref (ma 4), .ref (ma 5), .ref (ma 6), .ref (ma 7), .ref (ma 8), .ref (ma 9), .ref (ma 10), .ref (ma 11), .ref (ma 12), .ref (ma 13), .ref (ma 14), .ref (ma 15), .ref (ma 16), .ref (ma 17), .ref (ma 18), .ref (ma 19), .ref (ma 20), .ref (ma 21), .int 0, .ref (ma 23), .ref (ma 24), .ref (ma 25), .ref (ma 26), .ref (ma 27), .ref (ma 28)])), ((ma 28), wI tC 5 af), ((ma 2), wI tC 600 (fun _ => 0)), ((ma 7), wI tC 600 (fun _ => 0)), ((ma 6), wI tC 600 zf)] s.heap.size = A at hD hE ⊢
  have hA : ∀ q : Nat, s.heap.size ≤ q → A q := fun q h => by rw [← hAe]; exact Or.inr h
  have hS : va_S A s.heap s.heap [] := va_S.rf
  have hP : va_P D vwCl [(mo, .inr (6, [.int th, .int 1, .ref (ma 2), .ref (ma 3), .ref (ma 4), .ref (ma 5), .ref (ma 6), .ref (ma 7), .ref (ma 8), .ref (ma 9), .ref (ma 10), .ref (ma 11), .ref (ma 12), .ref (ma 13), .ref (ma 14), .ref (ma 15), .ref (ma 16), .ref (ma 17), .ref (ma 18), .ref (ma 19), .ref (ma 20), .ref (ma 21), .int 0, .ref (ma 23), .ref (ma 24), .ref (ma 25), .ref (ma 26), .ref (ma 27), .ref (ma 28)])), ((ma 28), wI tC 5 af), ((ma 2), wI tC 600 (fun _ => 0)), ((ma 7), wI tC 600 (fun _ => 0)), ((ma 6), wI tC 600 zf)] s.heap := hP
  have hl := lv_entry ([.ref mo]) (n := 4) (Nat.le_of_ble_eq_true rfl)
  rw [lg_entry_eq]
  generalize (lg_sl ([.ref mo]) ++ List.replicate (4 - (lg_sl ([.ref mo])).length) Slot.unset).toArray = ls at hl ⊢
  have hl : lv_has ls 4 [(0, .ref mo)] := hl
  have w_0 := hts (.fieldLink RX5 90 "NoticeStationsModel" "asked" "[I") (by decide +kernel)
  have w_1 := hts (.fieldLink RX5 13 "NoticeStationsModel" "length" "[I") (by decide +kernel)
  have w_2 := hts (.fieldLink RX5 29 "NoticeStationsModel" "namedOf" "[I") (by decide +kernel)
  have w_3 := hts (.fieldLink RX5 26 "NoticeStationsModel" "sizeOf" "[I") (by decide +kernel)
  cases hb0 : bt 0
  · skip
    cases hb1 : bt 1
    · skip
      cases hb2 : bt 2
      · skip
        cases hb3 : bt 3
        · skip
          cases hb4 : bt 4
          · skip
            refine lv_aload_n hx hb dX5_mayGoOn_0 rfl (lv_at hl 0 rfl) ?_
            have hPc := hP.sub (ws' := [(mo, .inr (6, [.int th, .int 1, .ref (ma 2), .ref (ma 3), .ref (ma 4), .ref (ma 5), .ref (ma 6), .ref (ma 7), .ref (ma 8), .ref (ma 9), .ref (ma 10), .ref (ma 11), .ref (ma 12), .ref (ma 13), .ref (ma 14), .ref (ma 15), .ref (ma 16), .ref (ma 17), .ref (ma 18), .ref (ma 19), .ref (ma 20), .ref (ma 21), .int 0, .ref (ma 23), .ref (ma 24), .ref (ma 25), .ref (ma 26), .ref (ma 27), .ref (ma 28)])), ((ma 28), wI tC 5 af), ((ma 2), wI tC 600 (fun _ => 0))]) [0, 1, 2] rfl
            have hDc := hD.sub (ws' := [(mo, .inr (6, [.int th, .int 1, .ref (ma 2), .ref (ma 3), .ref (ma 4), .ref (ma 5), .ref (ma 6), .ref (ma 7), .ref (ma 8), .ref (ma 9), .ref (ma 10), .ref (ma 11), .ref (ma 12), .ref (ma 13), .ref (ma 14), .ref (ma 15), .ref (ma 16), .ref (ma 17), .ref (ma 18), .ref (ma 19), .ref (ma 20), .ref (ma 21), .int 0, .ref (ma 23), .ref (ma 24), .ref (ma 25), .ref (ma 26), .ref (ma 27), .ref (ma 28)])), ((ma 28), wI tC 5 af), ((ma 2), wI tC 600 (fun _ => 0))]) [0, 1, 2] (by decide) rfl
            have hFc := va_free (wc := [(mo, .inr (6, [.int th, .int 1, .ref (ma 2), .ref (ma 3), .ref (ma 4), .ref (ma 5), .ref (ma 6), .ref (ma 7), .ref (ma 8), .ref (ma 9), .ref (ma 10), .ref (ma 11), .ref (ma 12), .ref (ma 13), .ref (ma 14), .ref (ma 15), .ref (ma 16), .ref (ma 17), .ref (ma 18), .ref (ma 19), .ref (ma 20), .ref (ma 21), .int 0, .ref (ma 23), .ref (ma 24), .ref (ma 25), .ref (ma 26), .ref (ma 27), .ref (ma 28)])), ((ma 28), wI tC 5 af), ((ma 2), wI tC 600 (fun _ => 0))]) hD hS hA [0, 1, 2] rfl
            refine va_calli (va_runV (As := []) (rest := []) ⟨hx, hb, hml, hown, hts⟩ (c_X5_greatest l hlt D tC dz s.heap.size mo ma th af bt haf) (cwV 0 hts gX5_mayGoOn_X5_greatest rfl rfl rfl (by decide +kernel) ⟨Nat.le_of_ble_eq_true rfl, Nat.le_of_ble_eq_true rfl⟩) ⟨pB_blind, va_recv hK hPc (ci := 6) (q0 := 0) rfl rfl, pB_at hPc hDc hK hN hE hS hFc⟩ rfl rfl hl.1 rfl (lv_room (Nat.le_of_ble_eq_true rfl)) dX5_mayGoOn_1 ⟨Nat.le_of_ble_eq_true rfl, Nat.le_of_ble_eq_true rfl⟩) hS (fun q _ h => hFc q h) hFc (fun r_1 u t H1 locs ht hvm hw hB hz1 hk1 hS => ?_)
            obtain ⟨hP1, _, hD1⟩ := hB
            have hw_2 := hw
            rw [ht] at hP1
            obtain ⟨hP, hD⟩ := va_join (wr := [((ma 7), wI tC 600 (fun _ => 0)), ((ma 6), wI tC 600 zf)]) (w1 := [(mo, .inr (6, [.int th, .int 1, .ref (ma 2), .ref (ma 3), .ref (ma 4), .ref (ma 5), .ref (ma 6), .ref (ma 7), .ref (ma 8), .ref (ma 9), .ref (ma 10), .ref (ma 11), .ref (ma 12), .ref (ma 13), .ref (ma 14), .ref (ma 15), .ref (ma 16), .ref (ma 17), .ref (ma 18), .ref (ma 19), .ref (ma 20), .ref (ma 21), .int 0, .ref (ma 23), .ref (ma 24), .ref (ma 25), .ref (ma 26), .ref (ma 27), .ref (ma 28)])), ((ma 28), wI tC 5 af), ((ma 2), wI tC 600 (fun _ => 0))]) hP hD [0, 1, 2] [3, 4] rfl rfl (by decide) (by decide) hk1 hFc hP1 hD1
            generalize H1 = H at hP hS ⊢
            have hP : va_P D vwCl [((ma 7), wI tC 600 (fun _ => 0)), ((ma 6), wI tC 600 zf), (mo, .inr (6, [.int th, .int 1, .ref (ma 2), .ref (ma 3), .ref (ma 4), .ref (ma 5), .ref (ma 6), .ref (ma 7), .ref (ma 8), .ref (ma 9), .ref (ma 10), .ref (ma 11), .ref (ma 12), .ref (ma 13), .ref (ma 14), .ref (ma 15), .ref (ma 16), .ref (ma 17), .ref (ma 18), .ref (ma 19), .ref (ma 20), .ref (ma 21), .int 0, .ref (ma 23), .ref (ma 24), .ref (ma 25), .ref (ma 26), .ref (ma 27), .ref (ma 28)])), ((ma 28), wI tC 5 af), ((ma 2), wI tC 600 (fun _ => 0))] H := hP
            have hD : va_D A [((ma 7), wI tC 600 (fun _ => 0)), ((ma 6), wI tC 600 zf), (mo, .inr (6, [.int th, .int 1, .ref (ma 2), .ref (ma 3), .ref (ma 4), .ref (ma 5), .ref (ma 6), .ref (ma 7), .ref (ma 8), .ref (ma 9), .ref (ma 10), .ref (ma 11), .ref (ma 12), .ref (ma 13), .ref (ma 14), .ref (ma 15), .ref (ma 16), .ref (ma 17), .ref (ma 18), .ref (ma 19), .ref (ma 20), .ref (ma 21), .int 0, .ref (ma 23), .ref (ma 24), .ref (ma 25), .ref (ma 26), .ref (ma 27), .ref (ma 28)])), ((ma 28), wI tC 5 af), ((ma 2), wI tC 600 (fun _ => 0))] := hD
            have q1 : r_1 = -1 := hw_2.trans (by rw [hb0, hb1, hb2, hb3, hb4] <;> rfl)
            subst q1
            refine lv_istore_n (lv' := [(1, .int (-1)), (0, .ref mo)]) hx hb dX5_mayGoOn_4 rfl hl (by decide) rfl (fun ls hl => ?_)
            refine lv_iconst (v := 0) hx hb dX5_mayGoOn_5 (by decide) ?_
            refine lv_istore_n (lv' := [(2, .int 0), (1, .int (-1)), (0, .ref mo)]) hx hb dX5_mayGoOn_6 rfl hl (by decide) rfl (fun ls hl => ?_)
            refine lv_iconst (v := 0) hx hb dX5_mayGoOn_7 (by decide) ?_
            refine lv_istore_n (lv' := [(3, .int 0), (2, .int 0), (1, .int (-1)), (0, .ref mo)]) hx hb dX5_mayGoOn_8 rfl hl (by decide) rfl (fun ls hl => ?_)
            refine lv_iload_n hx hb dX5_mayGoOn_9 rfl (lv_at hl 0 rfl) ?_
            refine lv_iconst (v := 5) hx hb dX5_mayGoOn_10 (by decide) ?_
            refine lv_icmp_ge (tgt := 71) hx hb dX5_mayGoOn_11 (by decide) (fun hc => absurd hc (by decide)) (fun _ => ?_)
            refine lv_iload_n hx hb dX5_mayGoOn_14 rfl (lv_at hl 2 rfl) ?_
            refine lv_if_lt (tgt := 71) hx hb dX5_mayGoOn_15 (by decide) (fun _ => ?_) (fun hc => absurd (by decide) hc)
            refine lv_iload_n hx hb dX5_mayGoOn_71 rfl (lv_at hl 2 rfl) ?_
            refine lv_if_lt (tgt := 89) hx hb dX5_mayGoOn_72 (by decide) (fun _ => ?_) (fun hc => absurd (by decide) hc)
            refine lv_iconst (v := 0) hx hb dX5_mayGoOn_89 (by decide) ?_
            have hP9 := hP.sub (ws' := [(mo, .inr (6, [.int th, .int 1, .ref (ma 2), .ref (ma 3), .ref (ma 4), .ref (ma 5), .ref (ma 6), .ref (ma 7), .ref (ma 8), .ref (ma 9), .ref (ma 10), .ref (ma 11), .ref (ma 12), .ref (ma 13), .ref (ma 14), .ref (ma 15), .ref (ma 16), .ref (ma 17), .ref (ma 18), .ref (ma 19), .ref (ma 20), .ref (ma 21), .int 0, .ref (ma 23), .ref (ma 24), .ref (ma 25), .ref (ma 26), .ref (ma 27), .ref (ma 28)])), ((ma 28), wI tC 5 af), ((ma 2), wI tC 600 (fun _ => 0)), ((ma 7), wI tC 600 (fun _ => 0)), ((ma 6), wI tC 600 zf)]) [2, 3, 4, 0, 1] rfl
            have hD9 := hD.sub (ws' := [(mo, .inr (6, [.int th, .int 1, .ref (ma 2), .ref (ma 3), .ref (ma 4), .ref (ma 5), .ref (ma 6), .ref (ma 7), .ref (ma 8), .ref (ma 9), .ref (ma 10), .ref (ma 11), .ref (ma 12), .ref (ma 13), .ref (ma 14), .ref (ma 15), .ref (ma 16), .ref (ma 17), .ref (ma 18), .ref (ma 19), .ref (ma 20), .ref (ma 21), .int 0, .ref (ma 23), .ref (ma 24), .ref (ma 25), .ref (ma 26), .ref (ma 27), .ref (ma 28)])), ((ma 28), wI tC 5 af), ((ma 2), wI tC 600 (fun _ => 0)), ((ma 7), wI tC 600 (fun _ => 0)), ((ma 6), wI tC 600 zf)]) [2, 3, 4, 0, 1] (by decide) rfl
            refine W.widen (k := 0) (n := 0) (by omega) (by omega) ?_
            exact W.zret (v := 0) hx hb hr (by decide) (fun t ht hW => ⟨⟨0, (), rfl, (by unfold mayg cntb; rw [hb0, hb1, hb2, hb3, hb4] <;> decide), (by rw [ht]; exact hP9), va_K.moved hW.alike hK, hD9⟩, hS.F ht⟩) hS.2.2 dX5_mayGoOn_90 hlocks
          · skip
            refine lv_aload_n hx hb dX5_mayGoOn_0 rfl (lv_at hl 0 rfl) ?_
            have hPc := hP.sub (ws' := [(mo, .inr (6, [.int th, .int 1, .ref (ma 2), .ref (ma 3), .ref (ma 4), .ref (ma 5), .ref (ma 6), .ref (ma 7), .ref (ma 8), .ref (ma 9), .ref (ma 10), .ref (ma 11), .ref (ma 12), .ref (ma 13), .ref (ma 14), .ref (ma 15), .ref (ma 16), .ref (ma 17), .ref (ma 18), .ref (ma 19), .ref (ma 20), .ref (ma 21), .int 0, .ref (ma 23), .ref (ma 24), .ref (ma 25), .ref (ma 26), .ref (ma 27), .ref (ma 28)])), ((ma 28), wI tC 5 af), ((ma 2), wI tC 600 (fun _ => 0))]) [0, 1, 2] rfl
            have hDc := hD.sub (ws' := [(mo, .inr (6, [.int th, .int 1, .ref (ma 2), .ref (ma 3), .ref (ma 4), .ref (ma 5), .ref (ma 6), .ref (ma 7), .ref (ma 8), .ref (ma 9), .ref (ma 10), .ref (ma 11), .ref (ma 12), .ref (ma 13), .ref (ma 14), .ref (ma 15), .ref (ma 16), .ref (ma 17), .ref (ma 18), .ref (ma 19), .ref (ma 20), .ref (ma 21), .int 0, .ref (ma 23), .ref (ma 24), .ref (ma 25), .ref (ma 26), .ref (ma 27), .ref (ma 28)])), ((ma 28), wI tC 5 af), ((ma 2), wI tC 600 (fun _ => 0))]) [0, 1, 2] (by decide) rfl
            have hFc := va_free (wc := [(mo, .inr (6, [.int th, .int 1, .ref (ma 2), .ref (ma 3), .ref (ma 4), .ref (ma 5), .ref (ma 6), .ref (ma 7), .ref (ma 8), .ref (ma 9), .ref (ma 10), .ref (ma 11), .ref (ma 12), .ref (ma 13), .ref (ma 14), .ref (ma 15), .ref (ma 16), .ref (ma 17), .ref (ma 18), .ref (ma 19), .ref (ma 20), .ref (ma 21), .int 0, .ref (ma 23), .ref (ma 24), .ref (ma 25), .ref (ma 26), .ref (ma 27), .ref (ma 28)])), ((ma 28), wI tC 5 af), ((ma 2), wI tC 600 (fun _ => 0))]) hD hS hA [0, 1, 2] rfl
            refine va_calli (va_runV (As := []) (rest := []) ⟨hx, hb, hml, hown, hts⟩ (c_X5_greatest l hlt D tC dz s.heap.size mo ma th af bt haf) (cwV 0 hts gX5_mayGoOn_X5_greatest rfl rfl rfl (by decide +kernel) ⟨Nat.le_of_ble_eq_true rfl, Nat.le_of_ble_eq_true rfl⟩) ⟨pB_blind, va_recv hK hPc (ci := 6) (q0 := 0) rfl rfl, pB_at hPc hDc hK hN hE hS hFc⟩ rfl rfl hl.1 rfl (lv_room (Nat.le_of_ble_eq_true rfl)) dX5_mayGoOn_1 ⟨Nat.le_of_ble_eq_true rfl, Nat.le_of_ble_eq_true rfl⟩) hS (fun q _ h => hFc q h) hFc (fun r_3 u t H1 locs ht hvm hw hB hz1 hk1 hS => ?_)
            obtain ⟨hP1, _, hD1⟩ := hB
            have hw_4 := hw
            rw [ht] at hP1
            obtain ⟨hP, hD⟩ := va_join (wr := [((ma 7), wI tC 600 (fun _ => 0)), ((ma 6), wI tC 600 zf)]) (w1 := [(mo, .inr (6, [.int th, .int 1, .ref (ma 2), .ref (ma 3), .ref (ma 4), .ref (ma 5), .ref (ma 6), .ref (ma 7), .ref (ma 8), .ref (ma 9), .ref (ma 10), .ref (ma 11), .ref (ma 12), .ref (ma 13), .ref (ma 14), .ref (ma 15), .ref (ma 16), .ref (ma 17), .ref (ma 18), .ref (ma 19), .ref (ma 20), .ref (ma 21), .int 0, .ref (ma 23), .ref (ma 24), .ref (ma 25), .ref (ma 26), .ref (ma 27), .ref (ma 28)])), ((ma 28), wI tC 5 af), ((ma 2), wI tC 600 (fun _ => 0))]) hP hD [0, 1, 2] [3, 4] rfl rfl (by decide) (by decide) hk1 hFc hP1 hD1
            generalize H1 = H at hP hS ⊢
            have hP : va_P D vwCl [((ma 7), wI tC 600 (fun _ => 0)), ((ma 6), wI tC 600 zf), (mo, .inr (6, [.int th, .int 1, .ref (ma 2), .ref (ma 3), .ref (ma 4), .ref (ma 5), .ref (ma 6), .ref (ma 7), .ref (ma 8), .ref (ma 9), .ref (ma 10), .ref (ma 11), .ref (ma 12), .ref (ma 13), .ref (ma 14), .ref (ma 15), .ref (ma 16), .ref (ma 17), .ref (ma 18), .ref (ma 19), .ref (ma 20), .ref (ma 21), .int 0, .ref (ma 23), .ref (ma 24), .ref (ma 25), .ref (ma 26), .ref (ma 27), .ref (ma 28)])), ((ma 28), wI tC 5 af), ((ma 2), wI tC 600 (fun _ => 0))] H := hP
            have hD : va_D A [((ma 7), wI tC 600 (fun _ => 0)), ((ma 6), wI tC 600 zf), (mo, .inr (6, [.int th, .int 1, .ref (ma 2), .ref (ma 3), .ref (ma 4), .ref (ma 5), .ref (ma 6), .ref (ma 7), .ref (ma 8), .ref (ma 9), .ref (ma 10), .ref (ma 11), .ref (ma 12), .ref (ma 13), .ref (ma 14), .ref (ma 15), .ref (ma 16), .ref (ma 17), .ref (ma 18), .ref (ma 19), .ref (ma 20), .ref (ma 21), .int 0, .ref (ma 23), .ref (ma 24), .ref (ma 25), .ref (ma 26), .ref (ma 27), .ref (ma 28)])), ((ma 28), wI tC 5 af), ((ma 2), wI tC 600 (fun _ => 0))] := hD
            have q1 : r_3 = 0 := hw_4.trans (by rw [hb0, hb1, hb2, hb3, hb4] <;> rfl)
            subst q1
            refine lv_istore_n (lv' := [(1, .int 0), (0, .ref mo)]) hx hb dX5_mayGoOn_4 rfl hl (by decide) rfl (fun ls hl => ?_)
            refine lv_iconst (v := 0) hx hb dX5_mayGoOn_5 (by decide) ?_
            refine lv_istore_n (lv' := [(2, .int 0), (1, .int 0), (0, .ref mo)]) hx hb dX5_mayGoOn_6 rfl hl (by decide) rfl (fun ls hl => ?_)
            refine lv_iconst (v := 0) hx hb dX5_mayGoOn_7 (by decide) ?_
            refine lv_istore_n (lv' := [(3, .int 0), (2, .int 0), (1, .int 0), (0, .ref mo)]) hx hb dX5_mayGoOn_8 rfl hl (by decide) rfl (fun ls hl => ?_)
            refine lv_iload_n hx hb dX5_mayGoOn_9 rfl (lv_at hl 0 rfl) ?_
            refine lv_iconst (v := 5) hx hb dX5_mayGoOn_10 (by decide) ?_
            refine lv_icmp_ge (tgt := 71) hx hb dX5_mayGoOn_11 (by decide) (fun hc => absurd hc (by decide)) (fun _ => ?_)
            refine lv_iload_n hx hb dX5_mayGoOn_14 rfl (lv_at hl 2 rfl) ?_
            refine lv_if_lt (tgt := 71) hx hb dX5_mayGoOn_15 (by decide) (fun hc => absurd hc (by decide)) (fun _ => ?_)
            refine lv_aload_n hx hb dX5_mayGoOn_18 rfl (lv_at hl 3 rfl) ?_
            refine va_get (D := D) (ci := 6) (v := .ref (ma 28)) (C := RX5) (T := TX5) (N := 29) hx hb hts in_X5_mayGoOn_X5 hown hK hP 2 rfl rfl 28 (by decide) w_0 (fun _ h9 => h9) rfl dX5_mayGoOn_19 ?_
            refine lv_iload_n hx hb dX5_mayGoOn_22 rfl (lv_at hl 0 rfl) ?_
            refine va_iald hx hb hK hP 3 0 rfl rfl (by unfold vp_in; decide) dX5_mayGoOn_23 ?_
            refine lv_topi (fun z_5 ez_5 => ?_)
            have fz_5 : z_5 = (-1) := ez_5.trans (by rw [show (0 : Int32).toNatClampNeg = 0 by decide, haf 0 (by decide), hb0] <;> rfl)
            subst fz_5
            refine lv_if_lt (tgt := 65) hx hb dX5_mayGoOn_24 (by decide) (fun _ => ?_) (fun hc => absurd (by decide) hc)
            refine lv_iinc (v := 1) (lv' := [(3, .int 1), (2, .int 0), (1, .int 0), (0, .ref mo)]) hx hb dX5_mayGoOn_65 hl (k := 0) rfl (by decide) (by decide) rfl (fun ls hl => ?_)
            refine lv_goto (tgt := 9) hx hb dX5_mayGoOn_68 (by decide) ?_
            refine lv_iload_n hx hb dX5_mayGoOn_9 rfl (lv_at hl 0 rfl) ?_
            refine lv_iconst (v := 5) hx hb dX5_mayGoOn_10 (by decide) ?_
            refine lv_icmp_ge (tgt := 71) hx hb dX5_mayGoOn_11 (by decide) (fun hc => absurd hc (by decide)) (fun _ => ?_)
            refine lv_iload_n hx hb dX5_mayGoOn_14 rfl (lv_at hl 2 rfl) ?_
            refine lv_if_lt (tgt := 71) hx hb dX5_mayGoOn_15 (by decide) (fun hc => absurd hc (by decide)) (fun _ => ?_)
            refine lv_aload_n hx hb dX5_mayGoOn_18 rfl (lv_at hl 3 rfl) ?_
            refine va_get (D := D) (ci := 6) (v := .ref (ma 28)) (C := RX5) (T := TX5) (N := 29) hx hb hts in_X5_mayGoOn_X5 hown hK hP 2 rfl rfl 28 (by decide) w_0 (fun _ h9 => h9) rfl dX5_mayGoOn_19 ?_
            refine lv_iload_n hx hb dX5_mayGoOn_22 rfl (lv_at hl 0 rfl) ?_
            refine va_iald hx hb hK hP 3 0 rfl rfl (by unfold vp_in; decide) dX5_mayGoOn_23 ?_
            refine lv_topi (fun z_6 ez_6 => ?_)
            have fz_6 : z_6 = (-1) := ez_6.trans (by rw [show (1 : Int32).toNatClampNeg = 1 by decide, haf 1 (by decide), hb1] <;> rfl)
            subst fz_6
            refine lv_if_lt (tgt := 65) hx hb dX5_mayGoOn_24 (by decide) (fun _ => ?_) (fun hc => absurd (by decide) hc)
            refine lv_iinc (v := 2) (lv' := [(3, .int 2), (2, .int 0), (1, .int 0), (0, .ref mo)]) hx hb dX5_mayGoOn_65 hl (k := 0) rfl (by decide) (by decide) rfl (fun ls hl => ?_)
            refine lv_goto (tgt := 9) hx hb dX5_mayGoOn_68 (by decide) ?_
            refine lv_iload_n hx hb dX5_mayGoOn_9 rfl (lv_at hl 0 rfl) ?_
            refine lv_iconst (v := 5) hx hb dX5_mayGoOn_10 (by decide) ?_
            refine lv_icmp_ge (tgt := 71) hx hb dX5_mayGoOn_11 (by decide) (fun hc => absurd hc (by decide)) (fun _ => ?_)
            refine lv_iload_n hx hb dX5_mayGoOn_14 rfl (lv_at hl 2 rfl) ?_
            refine lv_if_lt (tgt := 71) hx hb dX5_mayGoOn_15 (by decide) (fun hc => absurd hc (by decide)) (fun _ => ?_)
            refine lv_aload_n hx hb dX5_mayGoOn_18 rfl (lv_at hl 3 rfl) ?_
            refine va_get (D := D) (ci := 6) (v := .ref (ma 28)) (C := RX5) (T := TX5) (N := 29) hx hb hts in_X5_mayGoOn_X5 hown hK hP 2 rfl rfl 28 (by decide) w_0 (fun _ h9 => h9) rfl dX5_mayGoOn_19 ?_
            refine lv_iload_n hx hb dX5_mayGoOn_22 rfl (lv_at hl 0 rfl) ?_
            refine va_iald hx hb hK hP 3 0 rfl rfl (by unfold vp_in; decide) dX5_mayGoOn_23 ?_
            refine lv_topi (fun z_7 ez_7 => ?_)
            have fz_7 : z_7 = (-1) := ez_7.trans (by rw [show (2 : Int32).toNatClampNeg = 2 by decide, haf 2 (by decide), hb2] <;> rfl)
            subst fz_7
            refine lv_if_lt (tgt := 65) hx hb dX5_mayGoOn_24 (by decide) (fun _ => ?_) (fun hc => absurd (by decide) hc)
            refine lv_iinc (v := 3) (lv' := [(3, .int 3), (2, .int 0), (1, .int 0), (0, .ref mo)]) hx hb dX5_mayGoOn_65 hl (k := 0) rfl (by decide) (by decide) rfl (fun ls hl => ?_)
            refine lv_goto (tgt := 9) hx hb dX5_mayGoOn_68 (by decide) ?_
            refine lv_iload_n hx hb dX5_mayGoOn_9 rfl (lv_at hl 0 rfl) ?_
            refine lv_iconst (v := 5) hx hb dX5_mayGoOn_10 (by decide) ?_
            refine lv_icmp_ge (tgt := 71) hx hb dX5_mayGoOn_11 (by decide) (fun hc => absurd hc (by decide)) (fun _ => ?_)
            refine lv_iload_n hx hb dX5_mayGoOn_14 rfl (lv_at hl 2 rfl) ?_
            refine lv_if_lt (tgt := 71) hx hb dX5_mayGoOn_15 (by decide) (fun hc => absurd hc (by decide)) (fun _ => ?_)
            refine lv_aload_n hx hb dX5_mayGoOn_18 rfl (lv_at hl 3 rfl) ?_
            refine va_get (D := D) (ci := 6) (v := .ref (ma 28)) (C := RX5) (T := TX5) (N := 29) hx hb hts in_X5_mayGoOn_X5 hown hK hP 2 rfl rfl 28 (by decide) w_0 (fun _ h9 => h9) rfl dX5_mayGoOn_19 ?_
            refine lv_iload_n hx hb dX5_mayGoOn_22 rfl (lv_at hl 0 rfl) ?_
            refine va_iald hx hb hK hP 3 0 rfl rfl (by unfold vp_in; decide) dX5_mayGoOn_23 ?_
            refine lv_topi (fun z_8 ez_8 => ?_)
            have fz_8 : z_8 = (-1) := ez_8.trans (by rw [show (3 : Int32).toNatClampNeg = 3 by decide, haf 3 (by decide), hb3] <;> rfl)
            subst fz_8
            refine lv_if_lt (tgt := 65) hx hb dX5_mayGoOn_24 (by decide) (fun _ => ?_) (fun hc => absurd (by decide) hc)
            refine lv_iinc (v := 4) (lv' := [(3, .int 4), (2, .int 0), (1, .int 0), (0, .ref mo)]) hx hb dX5_mayGoOn_65 hl (k := 0) rfl (by decide) (by decide) rfl (fun ls hl => ?_)
            refine lv_goto (tgt := 9) hx hb dX5_mayGoOn_68 (by decide) ?_
            refine lv_iload_n hx hb dX5_mayGoOn_9 rfl (lv_at hl 0 rfl) ?_
            refine lv_iconst (v := 5) hx hb dX5_mayGoOn_10 (by decide) ?_
            refine lv_icmp_ge (tgt := 71) hx hb dX5_mayGoOn_11 (by decide) (fun hc => absurd hc (by decide)) (fun _ => ?_)
            refine lv_iload_n hx hb dX5_mayGoOn_14 rfl (lv_at hl 2 rfl) ?_
            refine lv_if_lt (tgt := 71) hx hb dX5_mayGoOn_15 (by decide) (fun hc => absurd hc (by decide)) (fun _ => ?_)
            refine lv_aload_n hx hb dX5_mayGoOn_18 rfl (lv_at hl 3 rfl) ?_
            refine va_get (D := D) (ci := 6) (v := .ref (ma 28)) (C := RX5) (T := TX5) (N := 29) hx hb hts in_X5_mayGoOn_X5 hown hK hP 2 rfl rfl 28 (by decide) w_0 (fun _ h9 => h9) rfl dX5_mayGoOn_19 ?_
            refine lv_iload_n hx hb dX5_mayGoOn_22 rfl (lv_at hl 0 rfl) ?_
            refine va_iald hx hb hK hP 3 0 rfl rfl (by unfold vp_in; decide) dX5_mayGoOn_23 ?_
            refine lv_topi (fun z_9 ez_9 => ?_)
            have fz_9 : z_9 = 0 := ez_9.trans (by rw [show (4 : Int32).toNatClampNeg = 4 by decide, haf 4 (by decide), hb4] <;> rfl)
            subst fz_9
            refine lv_if_lt (tgt := 65) hx hb dX5_mayGoOn_24 (by decide) (fun hc => absurd hc (by decide)) (fun _ => ?_)
            refine lv_aload_n hx hb dX5_mayGoOn_27 rfl (lv_at hl 3 rfl) ?_
            refine va_get (D := D) (ci := 6) (v := .ref (ma 2)) (C := RX5) (T := TX5) (N := 29) hx hb hts in_X5_mayGoOn_X5 hown hK hP 2 rfl rfl 2 (by decide) w_1 (fun _ h9 => h9) rfl dX5_mayGoOn_28 ?_
            refine lv_aload_n hx hb dX5_mayGoOn_31 rfl (lv_at hl 3 rfl) ?_
            refine va_get (D := D) (ci := 6) (v := .ref (ma 28)) (C := RX5) (T := TX5) (N := 29) hx hb hts in_X5_mayGoOn_X5 hown hK hP 2 rfl rfl 28 (by decide) w_0 (fun _ h9 => h9) rfl dX5_mayGoOn_32 ?_
            refine lv_iload_n hx hb dX5_mayGoOn_35 rfl (lv_at hl 0 rfl) ?_
            refine va_iald hx hb hK hP 3 0 rfl rfl (by unfold vp_in; decide) dX5_mayGoOn_36 ?_
            refine lv_topi (fun z_10 ez_10 => ?_)
            have fz_10 : z_10 = 0 := ez_10.trans (by rw [show (4 : Int32).toNatClampNeg = 4 by decide, haf 4 (by decide), hb4] <;> rfl)
            subst fz_10
            refine va_iald hx hb hK hP 4 0 rfl rfl (by unfold vp_in; decide) dX5_mayGoOn_37 ?_
            refine lv_topi (fun z_11 ez_11 => ?_)
            have fz_11 : z_11 = 0 := ez_11.trans (rfl)
            subst fz_11
            refine lv_aload_n hx hb dX5_mayGoOn_38 rfl (lv_at hl 3 rfl) ?_
            refine va_get (D := D) (ci := 6) (v := .ref (ma 2)) (C := RX5) (T := TX5) (N := 29) hx hb hts in_X5_mayGoOn_X5 hown hK hP 2 rfl rfl 2 (by decide) w_1 (fun _ h9 => h9) rfl dX5_mayGoOn_39 ?_
            refine lv_iload_n hx hb dX5_mayGoOn_42 rfl (lv_at hl 2 rfl) ?_
            refine va_iald hx hb hK hP 4 0 rfl rfl (by unfold vp_in; decide) dX5_mayGoOn_43 ?_
            refine lv_topi (fun z_12 ez_12 => ?_)
            have fz_12 : z_12 = 0 := ez_12.trans (rfl)
            subst fz_12
            refine lv_icmp_ne (tgt := 65) hx hb dX5_mayGoOn_44 (by decide) (fun hc => absurd (by decide) hc) (fun _ => ?_)
            refine lv_iload_n hx hb dX5_mayGoOn_47 rfl (lv_at hl 1 rfl) ?_
            refine lv_iload_n hx hb dX5_mayGoOn_48 rfl (lv_at hl 0 rfl) ?_
            refine lv_aload_n hx hb dX5_mayGoOn_49 rfl (lv_at hl 3 rfl) ?_
            refine va_get (D := D) (ci := 6) (v := .ref (ma 7)) (C := RX5) (T := TX5) (N := 29) hx hb hts in_X5_mayGoOn_X5 hown hK hP 2 rfl rfl 7 (by decide) w_2 (fun _ h9 => h9) rfl dX5_mayGoOn_50 ?_
            refine lv_iload_n hx hb dX5_mayGoOn_53 rfl (lv_at hl 2 rfl) ?_
            refine va_iald hx hb hK hP 0 0 rfl rfl (by unfold vp_in; decide) dX5_mayGoOn_54 ?_
            refine lv_topi (fun z_13 ez_13 => ?_)
            have fz_13 : z_13 = 0 := ez_13.trans (rfl)
            subst fz_13
            refine lv_icmp_ne (tgt := 62) hx hb dX5_mayGoOn_55 (by decide) (fun _ => ?_) (fun hc => absurd hc (by decide))
            refine lv_iconst (v := 2) hx hb dX5_mayGoOn_62 (by decide) ?_
            refine lv_iadd hx hb dX5_mayGoOn_63 ?_
            refine lv_topi (fun z_14 ez_14 => ?_)
            have fz_14 : z_14 = 2 := ez_14.trans (by decide)
            subst fz_14
            refine lv_istore_n (lv' := [(2, .int 2), (3, .int 4), (1, .int 0), (0, .ref mo)]) hx hb dX5_mayGoOn_64 rfl hl (by decide) rfl (fun ls hl => ?_)
            refine lv_iinc (v := 5) (lv' := [(3, .int 5), (2, .int 2), (1, .int 0), (0, .ref mo)]) hx hb dX5_mayGoOn_65 hl (k := 1) rfl (by decide) (by decide) rfl (fun ls hl => ?_)
            refine lv_goto (tgt := 9) hx hb dX5_mayGoOn_68 (by decide) ?_
            refine lv_iload_n hx hb dX5_mayGoOn_9 rfl (lv_at hl 0 rfl) ?_
            refine lv_iconst (v := 5) hx hb dX5_mayGoOn_10 (by decide) ?_
            refine lv_icmp_ge (tgt := 71) hx hb dX5_mayGoOn_11 (by decide) (fun _ => ?_) (fun hc => absurd (by decide) hc)
            refine lv_iload_n hx hb dX5_mayGoOn_71 rfl (lv_at hl 2 rfl) ?_
            refine lv_if_lt (tgt := 89) hx hb dX5_mayGoOn_72 (by decide) (fun hc => absurd hc (by decide)) (fun _ => ?_)
            refine lv_iload_n hx hb dX5_mayGoOn_75 rfl (lv_at hl 1 rfl) ?_
            refine lv_aload_n hx hb dX5_mayGoOn_76 rfl (lv_at hl 3 rfl) ?_
            refine va_get (D := D) (ci := 6) (v := .ref (ma 6)) (C := RX5) (T := TX5) (N := 29) hx hb hts in_X5_mayGoOn_X5 hown hK hP 2 rfl rfl 6 (by decide) w_3 (fun _ h9 => h9) rfl dX5_mayGoOn_77 ?_
            refine lv_iload_n hx hb dX5_mayGoOn_80 rfl (lv_at hl 2 rfl) ?_
            refine va_iald hx hb hK hP 1 0 rfl rfl (by unfold vp_in; decide) dX5_mayGoOn_81 ?_
            refine lv_topi (fun z_15 ez_15 => ?_)
            have fz_15 : z_15 = 5 := ez_15.trans (hzf)
            subst fz_15
            refine lv_icmp_le (tgt := 89) hx hb dX5_mayGoOn_82 (by decide) (fun _ => ?_) (fun hc => absurd (by decide) hc)
            refine lv_iconst (v := 0) hx hb dX5_mayGoOn_89 (by decide) ?_
            have hP9 := hP.sub (ws' := [(mo, .inr (6, [.int th, .int 1, .ref (ma 2), .ref (ma 3), .ref (ma 4), .ref (ma 5), .ref (ma 6), .ref (ma 7), .ref (ma 8), .ref (ma 9), .ref (ma 10), .ref (ma 11), .ref (ma 12), .ref (ma 13), .ref (ma 14), .ref (ma 15), .ref (ma 16), .ref (ma 17), .ref (ma 18), .ref (ma 19), .ref (ma 20), .ref (ma 21), .int 0, .ref (ma 23), .ref (ma 24), .ref (ma 25), .ref (ma 26), .ref (ma 27), .ref (ma 28)])), ((ma 28), wI tC 5 af), ((ma 2), wI tC 600 (fun _ => 0)), ((ma 7), wI tC 600 (fun _ => 0)), ((ma 6), wI tC 600 zf)]) [2, 3, 4, 0, 1] rfl
            have hD9 := hD.sub (ws' := [(mo, .inr (6, [.int th, .int 1, .ref (ma 2), .ref (ma 3), .ref (ma 4), .ref (ma 5), .ref (ma 6), .ref (ma 7), .ref (ma 8), .ref (ma 9), .ref (ma 10), .ref (ma 11), .ref (ma 12), .ref (ma 13), .ref (ma 14), .ref (ma 15), .ref (ma 16), .ref (ma 17), .ref (ma 18), .ref (ma 19), .ref (ma 20), .ref (ma 21), .int 0, .ref (ma 23), .ref (ma 24), .ref (ma 25), .ref (ma 26), .ref (ma 27), .ref (ma 28)])), ((ma 28), wI tC 5 af), ((ma 2), wI tC 600 (fun _ => 0)), ((ma 7), wI tC 600 (fun _ => 0)), ((ma 6), wI tC 600 zf)]) [2, 3, 4, 0, 1] (by decide) rfl
            refine W.widen (k := 0) (n := 0) (by omega) (by omega) ?_
            exact W.zret (v := 0) hx hb hr (by decide) (fun t ht hW => ⟨⟨0, (), rfl, (by unfold mayg cntb; rw [hb0, hb1, hb2, hb3, hb4] <;> decide), (by rw [ht]; exact hP9), va_K.moved hW.alike hK, hD9⟩, hS.F ht⟩) hS.2.2 dX5_mayGoOn_90 hlocks
        · skip
          cases hb4 : bt 4
          · skip
            refine lv_aload_n hx hb dX5_mayGoOn_0 rfl (lv_at hl 0 rfl) ?_
            have hPc := hP.sub (ws' := [(mo, .inr (6, [.int th, .int 1, .ref (ma 2), .ref (ma 3), .ref (ma 4), .ref (ma 5), .ref (ma 6), .ref (ma 7), .ref (ma 8), .ref (ma 9), .ref (ma 10), .ref (ma 11), .ref (ma 12), .ref (ma 13), .ref (ma 14), .ref (ma 15), .ref (ma 16), .ref (ma 17), .ref (ma 18), .ref (ma 19), .ref (ma 20), .ref (ma 21), .int 0, .ref (ma 23), .ref (ma 24), .ref (ma 25), .ref (ma 26), .ref (ma 27), .ref (ma 28)])), ((ma 28), wI tC 5 af), ((ma 2), wI tC 600 (fun _ => 0))]) [0, 1, 2] rfl
            have hDc := hD.sub (ws' := [(mo, .inr (6, [.int th, .int 1, .ref (ma 2), .ref (ma 3), .ref (ma 4), .ref (ma 5), .ref (ma 6), .ref (ma 7), .ref (ma 8), .ref (ma 9), .ref (ma 10), .ref (ma 11), .ref (ma 12), .ref (ma 13), .ref (ma 14), .ref (ma 15), .ref (ma 16), .ref (ma 17), .ref (ma 18), .ref (ma 19), .ref (ma 20), .ref (ma 21), .int 0, .ref (ma 23), .ref (ma 24), .ref (ma 25), .ref (ma 26), .ref (ma 27), .ref (ma 28)])), ((ma 28), wI tC 5 af), ((ma 2), wI tC 600 (fun _ => 0))]) [0, 1, 2] (by decide) rfl
            have hFc := va_free (wc := [(mo, .inr (6, [.int th, .int 1, .ref (ma 2), .ref (ma 3), .ref (ma 4), .ref (ma 5), .ref (ma 6), .ref (ma 7), .ref (ma 8), .ref (ma 9), .ref (ma 10), .ref (ma 11), .ref (ma 12), .ref (ma 13), .ref (ma 14), .ref (ma 15), .ref (ma 16), .ref (ma 17), .ref (ma 18), .ref (ma 19), .ref (ma 20), .ref (ma 21), .int 0, .ref (ma 23), .ref (ma 24), .ref (ma 25), .ref (ma 26), .ref (ma 27), .ref (ma 28)])), ((ma 28), wI tC 5 af), ((ma 2), wI tC 600 (fun _ => 0))]) hD hS hA [0, 1, 2] rfl
            refine va_calli (va_runV (As := []) (rest := []) ⟨hx, hb, hml, hown, hts⟩ (c_X5_greatest l hlt D tC dz s.heap.size mo ma th af bt haf) (cwV 0 hts gX5_mayGoOn_X5_greatest rfl rfl rfl (by decide +kernel) ⟨Nat.le_of_ble_eq_true rfl, Nat.le_of_ble_eq_true rfl⟩) ⟨pB_blind, va_recv hK hPc (ci := 6) (q0 := 0) rfl rfl, pB_at hPc hDc hK hN hE hS hFc⟩ rfl rfl hl.1 rfl (lv_room (Nat.le_of_ble_eq_true rfl)) dX5_mayGoOn_1 ⟨Nat.le_of_ble_eq_true rfl, Nat.le_of_ble_eq_true rfl⟩) hS (fun q _ h => hFc q h) hFc (fun r_16 u t H1 locs ht hvm hw hB hz1 hk1 hS => ?_)
            obtain ⟨hP1, _, hD1⟩ := hB
            have hw_17 := hw
            rw [ht] at hP1
            obtain ⟨hP, hD⟩ := va_join (wr := [((ma 7), wI tC 600 (fun _ => 0)), ((ma 6), wI tC 600 zf)]) (w1 := [(mo, .inr (6, [.int th, .int 1, .ref (ma 2), .ref (ma 3), .ref (ma 4), .ref (ma 5), .ref (ma 6), .ref (ma 7), .ref (ma 8), .ref (ma 9), .ref (ma 10), .ref (ma 11), .ref (ma 12), .ref (ma 13), .ref (ma 14), .ref (ma 15), .ref (ma 16), .ref (ma 17), .ref (ma 18), .ref (ma 19), .ref (ma 20), .ref (ma 21), .int 0, .ref (ma 23), .ref (ma 24), .ref (ma 25), .ref (ma 26), .ref (ma 27), .ref (ma 28)])), ((ma 28), wI tC 5 af), ((ma 2), wI tC 600 (fun _ => 0))]) hP hD [0, 1, 2] [3, 4] rfl rfl (by decide) (by decide) hk1 hFc hP1 hD1
            generalize H1 = H at hP hS ⊢
            have hP : va_P D vwCl [((ma 7), wI tC 600 (fun _ => 0)), ((ma 6), wI tC 600 zf), (mo, .inr (6, [.int th, .int 1, .ref (ma 2), .ref (ma 3), .ref (ma 4), .ref (ma 5), .ref (ma 6), .ref (ma 7), .ref (ma 8), .ref (ma 9), .ref (ma 10), .ref (ma 11), .ref (ma 12), .ref (ma 13), .ref (ma 14), .ref (ma 15), .ref (ma 16), .ref (ma 17), .ref (ma 18), .ref (ma 19), .ref (ma 20), .ref (ma 21), .int 0, .ref (ma 23), .ref (ma 24), .ref (ma 25), .ref (ma 26), .ref (ma 27), .ref (ma 28)])), ((ma 28), wI tC 5 af), ((ma 2), wI tC 600 (fun _ => 0))] H := hP
            have hD : va_D A [((ma 7), wI tC 600 (fun _ => 0)), ((ma 6), wI tC 600 zf), (mo, .inr (6, [.int th, .int 1, .ref (ma 2), .ref (ma 3), .ref (ma 4), .ref (ma 5), .ref (ma 6), .ref (ma 7), .ref (ma 8), .ref (ma 9), .ref (ma 10), .ref (ma 11), .ref (ma 12), .ref (ma 13), .ref (ma 14), .ref (ma 15), .ref (ma 16), .ref (ma 17), .ref (ma 18), .ref (ma 19), .ref (ma 20), .ref (ma 21), .int 0, .ref (ma 23), .ref (ma 24), .ref (ma 25), .ref (ma 26), .ref (ma 27), .ref (ma 28)])), ((ma 28), wI tC 5 af), ((ma 2), wI tC 600 (fun _ => 0))] := hD
            have q1 : r_16 = 0 := hw_17.trans (by rw [hb0, hb1, hb2, hb3, hb4] <;> rfl)
            subst q1
            refine lv_istore_n (lv' := [(1, .int 0), (0, .ref mo)]) hx hb dX5_mayGoOn_4 rfl hl (by decide) rfl (fun ls hl => ?_)
            refine lv_iconst (v := 0) hx hb dX5_mayGoOn_5 (by decide) ?_
            refine lv_istore_n (lv' := [(2, .int 0), (1, .int 0), (0, .ref mo)]) hx hb dX5_mayGoOn_6 rfl hl (by decide) rfl (fun ls hl => ?_)
            refine lv_iconst (v := 0) hx hb dX5_mayGoOn_7 (by decide) ?_
            refine lv_istore_n (lv' := [(3, .int 0), (2, .int 0), (1, .int 0), (0, .ref mo)]) hx hb dX5_mayGoOn_8 rfl hl (by decide) rfl (fun ls hl => ?_)
            refine lv_iload_n hx hb dX5_mayGoOn_9 rfl (lv_at hl 0 rfl) ?_
            refine lv_iconst (v := 5) hx hb dX5_mayGoOn_10 (by decide) ?_
            refine lv_icmp_ge (tgt := 71) hx hb dX5_mayGoOn_11 (by decide) (fun hc => absurd hc (by decide)) (fun _ => ?_)
            refine lv_iload_n hx hb dX5_mayGoOn_14 rfl (lv_at hl 2 rfl) ?_
            refine lv_if_lt (tgt := 71) hx hb dX5_mayGoOn_15 (by decide) (fun hc => absurd hc (by decide)) (fun _ => ?_)
            refine lv_aload_n hx hb dX5_mayGoOn_18 rfl (lv_at hl 3 rfl) ?_
            refine va_get (D := D) (ci := 6) (v := .ref (ma 28)) (C := RX5) (T := TX5) (N := 29) hx hb hts in_X5_mayGoOn_X5 hown hK hP 2 rfl rfl 28 (by decide) w_0 (fun _ h9 => h9) rfl dX5_mayGoOn_19 ?_
            refine lv_iload_n hx hb dX5_mayGoOn_22 rfl (lv_at hl 0 rfl) ?_
            refine va_iald hx hb hK hP 3 0 rfl rfl (by unfold vp_in; decide) dX5_mayGoOn_23 ?_
            refine lv_topi (fun z_18 ez_18 => ?_)
            have fz_18 : z_18 = (-1) := ez_18.trans (by rw [show (0 : Int32).toNatClampNeg = 0 by decide, haf 0 (by decide), hb0] <;> rfl)
            subst fz_18
            refine lv_if_lt (tgt := 65) hx hb dX5_mayGoOn_24 (by decide) (fun _ => ?_) (fun hc => absurd (by decide) hc)
            refine lv_iinc (v := 1) (lv' := [(3, .int 1), (2, .int 0), (1, .int 0), (0, .ref mo)]) hx hb dX5_mayGoOn_65 hl (k := 0) rfl (by decide) (by decide) rfl (fun ls hl => ?_)
            refine lv_goto (tgt := 9) hx hb dX5_mayGoOn_68 (by decide) ?_
            refine lv_iload_n hx hb dX5_mayGoOn_9 rfl (lv_at hl 0 rfl) ?_
            refine lv_iconst (v := 5) hx hb dX5_mayGoOn_10 (by decide) ?_
            refine lv_icmp_ge (tgt := 71) hx hb dX5_mayGoOn_11 (by decide) (fun hc => absurd hc (by decide)) (fun _ => ?_)
            refine lv_iload_n hx hb dX5_mayGoOn_14 rfl (lv_at hl 2 rfl) ?_
            refine lv_if_lt (tgt := 71) hx hb dX5_mayGoOn_15 (by decide) (fun hc => absurd hc (by decide)) (fun _ => ?_)
            refine lv_aload_n hx hb dX5_mayGoOn_18 rfl (lv_at hl 3 rfl) ?_
            refine va_get (D := D) (ci := 6) (v := .ref (ma 28)) (C := RX5) (T := TX5) (N := 29) hx hb hts in_X5_mayGoOn_X5 hown hK hP 2 rfl rfl 28 (by decide) w_0 (fun _ h9 => h9) rfl dX5_mayGoOn_19 ?_
            refine lv_iload_n hx hb dX5_mayGoOn_22 rfl (lv_at hl 0 rfl) ?_
            refine va_iald hx hb hK hP 3 0 rfl rfl (by unfold vp_in; decide) dX5_mayGoOn_23 ?_
            refine lv_topi (fun z_19 ez_19 => ?_)
            have fz_19 : z_19 = (-1) := ez_19.trans (by rw [show (1 : Int32).toNatClampNeg = 1 by decide, haf 1 (by decide), hb1] <;> rfl)
            subst fz_19
            refine lv_if_lt (tgt := 65) hx hb dX5_mayGoOn_24 (by decide) (fun _ => ?_) (fun hc => absurd (by decide) hc)
            refine lv_iinc (v := 2) (lv' := [(3, .int 2), (2, .int 0), (1, .int 0), (0, .ref mo)]) hx hb dX5_mayGoOn_65 hl (k := 0) rfl (by decide) (by decide) rfl (fun ls hl => ?_)
            refine lv_goto (tgt := 9) hx hb dX5_mayGoOn_68 (by decide) ?_
            refine lv_iload_n hx hb dX5_mayGoOn_9 rfl (lv_at hl 0 rfl) ?_
            refine lv_iconst (v := 5) hx hb dX5_mayGoOn_10 (by decide) ?_
            refine lv_icmp_ge (tgt := 71) hx hb dX5_mayGoOn_11 (by decide) (fun hc => absurd hc (by decide)) (fun _ => ?_)
            refine lv_iload_n hx hb dX5_mayGoOn_14 rfl (lv_at hl 2 rfl) ?_
            refine lv_if_lt (tgt := 71) hx hb dX5_mayGoOn_15 (by decide) (fun hc => absurd hc (by decide)) (fun _ => ?_)
            refine lv_aload_n hx hb dX5_mayGoOn_18 rfl (lv_at hl 3 rfl) ?_
            refine va_get (D := D) (ci := 6) (v := .ref (ma 28)) (C := RX5) (T := TX5) (N := 29) hx hb hts in_X5_mayGoOn_X5 hown hK hP 2 rfl rfl 28 (by decide) w_0 (fun _ h9 => h9) rfl dX5_mayGoOn_19 ?_
            refine lv_iload_n hx hb dX5_mayGoOn_22 rfl (lv_at hl 0 rfl) ?_
            refine va_iald hx hb hK hP 3 0 rfl rfl (by unfold vp_in; decide) dX5_mayGoOn_23 ?_
            refine lv_topi (fun z_20 ez_20 => ?_)
            have fz_20 : z_20 = (-1) := ez_20.trans (by rw [show (2 : Int32).toNatClampNeg = 2 by decide, haf 2 (by decide), hb2] <;> rfl)
            subst fz_20
            refine lv_if_lt (tgt := 65) hx hb dX5_mayGoOn_24 (by decide) (fun _ => ?_) (fun hc => absurd (by decide) hc)
            refine lv_iinc (v := 3) (lv' := [(3, .int 3), (2, .int 0), (1, .int 0), (0, .ref mo)]) hx hb dX5_mayGoOn_65 hl (k := 0) rfl (by decide) (by decide) rfl (fun ls hl => ?_)
            refine lv_goto (tgt := 9) hx hb dX5_mayGoOn_68 (by decide) ?_
            refine lv_iload_n hx hb dX5_mayGoOn_9 rfl (lv_at hl 0 rfl) ?_
            refine lv_iconst (v := 5) hx hb dX5_mayGoOn_10 (by decide) ?_
            refine lv_icmp_ge (tgt := 71) hx hb dX5_mayGoOn_11 (by decide) (fun hc => absurd hc (by decide)) (fun _ => ?_)
            refine lv_iload_n hx hb dX5_mayGoOn_14 rfl (lv_at hl 2 rfl) ?_
            refine lv_if_lt (tgt := 71) hx hb dX5_mayGoOn_15 (by decide) (fun hc => absurd hc (by decide)) (fun _ => ?_)
            refine lv_aload_n hx hb dX5_mayGoOn_18 rfl (lv_at hl 3 rfl) ?_
            refine va_get (D := D) (ci := 6) (v := .ref (ma 28)) (C := RX5) (T := TX5) (N := 29) hx hb hts in_X5_mayGoOn_X5 hown hK hP 2 rfl rfl 28 (by decide) w_0 (fun _ h9 => h9) rfl dX5_mayGoOn_19 ?_
            refine lv_iload_n hx hb dX5_mayGoOn_22 rfl (lv_at hl 0 rfl) ?_
            refine va_iald hx hb hK hP 3 0 rfl rfl (by unfold vp_in; decide) dX5_mayGoOn_23 ?_
            refine lv_topi (fun z_21 ez_21 => ?_)
            have fz_21 : z_21 = 0 := ez_21.trans (by rw [show (3 : Int32).toNatClampNeg = 3 by decide, haf 3 (by decide), hb3] <;> rfl)
            subst fz_21
            refine lv_if_lt (tgt := 65) hx hb dX5_mayGoOn_24 (by decide) (fun hc => absurd hc (by decide)) (fun _ => ?_)
            refine lv_aload_n hx hb dX5_mayGoOn_27 rfl (lv_at hl 3 rfl) ?_
            refine va_get (D := D) (ci := 6) (v := .ref (ma 2)) (C := RX5) (T := TX5) (N := 29) hx hb hts in_X5_mayGoOn_X5 hown hK hP 2 rfl rfl 2 (by decide) w_1 (fun _ h9 => h9) rfl dX5_mayGoOn_28 ?_
            refine lv_aload_n hx hb dX5_mayGoOn_31 rfl (lv_at hl 3 rfl) ?_
            refine va_get (D := D) (ci := 6) (v := .ref (ma 28)) (C := RX5) (T := TX5) (N := 29) hx hb hts in_X5_mayGoOn_X5 hown hK hP 2 rfl rfl 28 (by decide) w_0 (fun _ h9 => h9) rfl dX5_mayGoOn_32 ?_
            refine lv_iload_n hx hb dX5_mayGoOn_35 rfl (lv_at hl 0 rfl) ?_
            refine va_iald hx hb hK hP 3 0 rfl rfl (by unfold vp_in; decide) dX5_mayGoOn_36 ?_
            refine lv_topi (fun z_22 ez_22 => ?_)
            have fz_22 : z_22 = 0 := ez_22.trans (by rw [show (3 : Int32).toNatClampNeg = 3 by decide, haf 3 (by decide), hb3] <;> rfl)
            subst fz_22
            refine va_iald hx hb hK hP 4 0 rfl rfl (by unfold vp_in; decide) dX5_mayGoOn_37 ?_
            refine lv_topi (fun z_23 ez_23 => ?_)
            have fz_23 : z_23 = 0 := ez_23.trans (rfl)
            subst fz_23
            refine lv_aload_n hx hb dX5_mayGoOn_38 rfl (lv_at hl 3 rfl) ?_
            refine va_get (D := D) (ci := 6) (v := .ref (ma 2)) (C := RX5) (T := TX5) (N := 29) hx hb hts in_X5_mayGoOn_X5 hown hK hP 2 rfl rfl 2 (by decide) w_1 (fun _ h9 => h9) rfl dX5_mayGoOn_39 ?_
            refine lv_iload_n hx hb dX5_mayGoOn_42 rfl (lv_at hl 2 rfl) ?_
            refine va_iald hx hb hK hP 4 0 rfl rfl (by unfold vp_in; decide) dX5_mayGoOn_43 ?_
            refine lv_topi (fun z_24 ez_24 => ?_)
            have fz_24 : z_24 = 0 := ez_24.trans (rfl)
            subst fz_24
            refine lv_icmp_ne (tgt := 65) hx hb dX5_mayGoOn_44 (by decide) (fun hc => absurd (by decide) hc) (fun _ => ?_)
            refine lv_iload_n hx hb dX5_mayGoOn_47 rfl (lv_at hl 1 rfl) ?_
            refine lv_iload_n hx hb dX5_mayGoOn_48 rfl (lv_at hl 0 rfl) ?_
            refine lv_aload_n hx hb dX5_mayGoOn_49 rfl (lv_at hl 3 rfl) ?_
            refine va_get (D := D) (ci := 6) (v := .ref (ma 7)) (C := RX5) (T := TX5) (N := 29) hx hb hts in_X5_mayGoOn_X5 hown hK hP 2 rfl rfl 7 (by decide) w_2 (fun _ h9 => h9) rfl dX5_mayGoOn_50 ?_
            refine lv_iload_n hx hb dX5_mayGoOn_53 rfl (lv_at hl 2 rfl) ?_
            refine va_iald hx hb hK hP 0 0 rfl rfl (by unfold vp_in; decide) dX5_mayGoOn_54 ?_
            refine lv_topi (fun z_25 ez_25 => ?_)
            have fz_25 : z_25 = 0 := ez_25.trans (rfl)
            subst fz_25
            refine lv_icmp_ne (tgt := 62) hx hb dX5_mayGoOn_55 (by decide) (fun _ => ?_) (fun hc => absurd hc (by decide))
            refine lv_iconst (v := 2) hx hb dX5_mayGoOn_62 (by decide) ?_
            refine lv_iadd hx hb dX5_mayGoOn_63 ?_
            refine lv_topi (fun z_26 ez_26 => ?_)
            have fz_26 : z_26 = 2 := ez_26.trans (by decide)
            subst fz_26
            refine lv_istore_n (lv' := [(2, .int 2), (3, .int 3), (1, .int 0), (0, .ref mo)]) hx hb dX5_mayGoOn_64 rfl hl (by decide) rfl (fun ls hl => ?_)
            refine lv_iinc (v := 4) (lv' := [(3, .int 4), (2, .int 2), (1, .int 0), (0, .ref mo)]) hx hb dX5_mayGoOn_65 hl (k := 1) rfl (by decide) (by decide) rfl (fun ls hl => ?_)
            refine lv_goto (tgt := 9) hx hb dX5_mayGoOn_68 (by decide) ?_
            refine lv_iload_n hx hb dX5_mayGoOn_9 rfl (lv_at hl 0 rfl) ?_
            refine lv_iconst (v := 5) hx hb dX5_mayGoOn_10 (by decide) ?_
            refine lv_icmp_ge (tgt := 71) hx hb dX5_mayGoOn_11 (by decide) (fun hc => absurd hc (by decide)) (fun _ => ?_)
            refine lv_iload_n hx hb dX5_mayGoOn_14 rfl (lv_at hl 2 rfl) ?_
            refine lv_if_lt (tgt := 71) hx hb dX5_mayGoOn_15 (by decide) (fun hc => absurd hc (by decide)) (fun _ => ?_)
            refine lv_aload_n hx hb dX5_mayGoOn_18 rfl (lv_at hl 3 rfl) ?_
            refine va_get (D := D) (ci := 6) (v := .ref (ma 28)) (C := RX5) (T := TX5) (N := 29) hx hb hts in_X5_mayGoOn_X5 hown hK hP 2 rfl rfl 28 (by decide) w_0 (fun _ h9 => h9) rfl dX5_mayGoOn_19 ?_
            refine lv_iload_n hx hb dX5_mayGoOn_22 rfl (lv_at hl 0 rfl) ?_
            refine va_iald hx hb hK hP 3 0 rfl rfl (by unfold vp_in; decide) dX5_mayGoOn_23 ?_
            refine lv_topi (fun z_27 ez_27 => ?_)
            have fz_27 : z_27 = (-1) := ez_27.trans (by rw [show (4 : Int32).toNatClampNeg = 4 by decide, haf 4 (by decide), hb4] <;> rfl)
            subst fz_27
            refine lv_if_lt (tgt := 65) hx hb dX5_mayGoOn_24 (by decide) (fun _ => ?_) (fun hc => absurd (by decide) hc)
            refine lv_iinc (v := 5) (lv' := [(3, .int 5), (2, .int 2), (1, .int 0), (0, .ref mo)]) hx hb dX5_mayGoOn_65 hl (k := 0) rfl (by decide) (by decide) rfl (fun ls hl => ?_)
            refine lv_goto (tgt := 9) hx hb dX5_mayGoOn_68 (by decide) ?_
            refine lv_iload_n hx hb dX5_mayGoOn_9 rfl (lv_at hl 0 rfl) ?_
            refine lv_iconst (v := 5) hx hb dX5_mayGoOn_10 (by decide) ?_
            refine lv_icmp_ge (tgt := 71) hx hb dX5_mayGoOn_11 (by decide) (fun _ => ?_) (fun hc => absurd (by decide) hc)
            refine lv_iload_n hx hb dX5_mayGoOn_71 rfl (lv_at hl 2 rfl) ?_
            refine lv_if_lt (tgt := 89) hx hb dX5_mayGoOn_72 (by decide) (fun hc => absurd hc (by decide)) (fun _ => ?_)
            refine lv_iload_n hx hb dX5_mayGoOn_75 rfl (lv_at hl 1 rfl) ?_
            refine lv_aload_n hx hb dX5_mayGoOn_76 rfl (lv_at hl 3 rfl) ?_
            refine va_get (D := D) (ci := 6) (v := .ref (ma 6)) (C := RX5) (T := TX5) (N := 29) hx hb hts in_X5_mayGoOn_X5 hown hK hP 2 rfl rfl 6 (by decide) w_3 (fun _ h9 => h9) rfl dX5_mayGoOn_77 ?_
            refine lv_iload_n hx hb dX5_mayGoOn_80 rfl (lv_at hl 2 rfl) ?_
            refine va_iald hx hb hK hP 1 0 rfl rfl (by unfold vp_in; decide) dX5_mayGoOn_81 ?_
            refine lv_topi (fun z_28 ez_28 => ?_)
            have fz_28 : z_28 = 5 := ez_28.trans (hzf)
            subst fz_28
            refine lv_icmp_le (tgt := 89) hx hb dX5_mayGoOn_82 (by decide) (fun _ => ?_) (fun hc => absurd (by decide) hc)
            refine lv_iconst (v := 0) hx hb dX5_mayGoOn_89 (by decide) ?_
            have hP9 := hP.sub (ws' := [(mo, .inr (6, [.int th, .int 1, .ref (ma 2), .ref (ma 3), .ref (ma 4), .ref (ma 5), .ref (ma 6), .ref (ma 7), .ref (ma 8), .ref (ma 9), .ref (ma 10), .ref (ma 11), .ref (ma 12), .ref (ma 13), .ref (ma 14), .ref (ma 15), .ref (ma 16), .ref (ma 17), .ref (ma 18), .ref (ma 19), .ref (ma 20), .ref (ma 21), .int 0, .ref (ma 23), .ref (ma 24), .ref (ma 25), .ref (ma 26), .ref (ma 27), .ref (ma 28)])), ((ma 28), wI tC 5 af), ((ma 2), wI tC 600 (fun _ => 0)), ((ma 7), wI tC 600 (fun _ => 0)), ((ma 6), wI tC 600 zf)]) [2, 3, 4, 0, 1] rfl
            have hD9 := hD.sub (ws' := [(mo, .inr (6, [.int th, .int 1, .ref (ma 2), .ref (ma 3), .ref (ma 4), .ref (ma 5), .ref (ma 6), .ref (ma 7), .ref (ma 8), .ref (ma 9), .ref (ma 10), .ref (ma 11), .ref (ma 12), .ref (ma 13), .ref (ma 14), .ref (ma 15), .ref (ma 16), .ref (ma 17), .ref (ma 18), .ref (ma 19), .ref (ma 20), .ref (ma 21), .int 0, .ref (ma 23), .ref (ma 24), .ref (ma 25), .ref (ma 26), .ref (ma 27), .ref (ma 28)])), ((ma 28), wI tC 5 af), ((ma 2), wI tC 600 (fun _ => 0)), ((ma 7), wI tC 600 (fun _ => 0)), ((ma 6), wI tC 600 zf)]) [2, 3, 4, 0, 1] (by decide) rfl
            refine W.widen (k := 0) (n := 0) (by omega) (by omega) ?_
            exact W.zret (v := 0) hx hb hr (by decide) (fun t ht hW => ⟨⟨0, (), rfl, (by unfold mayg cntb; rw [hb0, hb1, hb2, hb3, hb4] <;> decide), (by rw [ht]; exact hP9), va_K.moved hW.alike hK, hD9⟩, hS.F ht⟩) hS.2.2 dX5_mayGoOn_90 hlocks
          · skip
            refine lv_aload_n hx hb dX5_mayGoOn_0 rfl (lv_at hl 0 rfl) ?_
            have hPc := hP.sub (ws' := [(mo, .inr (6, [.int th, .int 1, .ref (ma 2), .ref (ma 3), .ref (ma 4), .ref (ma 5), .ref (ma 6), .ref (ma 7), .ref (ma 8), .ref (ma 9), .ref (ma 10), .ref (ma 11), .ref (ma 12), .ref (ma 13), .ref (ma 14), .ref (ma 15), .ref (ma 16), .ref (ma 17), .ref (ma 18), .ref (ma 19), .ref (ma 20), .ref (ma 21), .int 0, .ref (ma 23), .ref (ma 24), .ref (ma 25), .ref (ma 26), .ref (ma 27), .ref (ma 28)])), ((ma 28), wI tC 5 af), ((ma 2), wI tC 600 (fun _ => 0))]) [0, 1, 2] rfl
            have hDc := hD.sub (ws' := [(mo, .inr (6, [.int th, .int 1, .ref (ma 2), .ref (ma 3), .ref (ma 4), .ref (ma 5), .ref (ma 6), .ref (ma 7), .ref (ma 8), .ref (ma 9), .ref (ma 10), .ref (ma 11), .ref (ma 12), .ref (ma 13), .ref (ma 14), .ref (ma 15), .ref (ma 16), .ref (ma 17), .ref (ma 18), .ref (ma 19), .ref (ma 20), .ref (ma 21), .int 0, .ref (ma 23), .ref (ma 24), .ref (ma 25), .ref (ma 26), .ref (ma 27), .ref (ma 28)])), ((ma 28), wI tC 5 af), ((ma 2), wI tC 600 (fun _ => 0))]) [0, 1, 2] (by decide) rfl
            have hFc := va_free (wc := [(mo, .inr (6, [.int th, .int 1, .ref (ma 2), .ref (ma 3), .ref (ma 4), .ref (ma 5), .ref (ma 6), .ref (ma 7), .ref (ma 8), .ref (ma 9), .ref (ma 10), .ref (ma 11), .ref (ma 12), .ref (ma 13), .ref (ma 14), .ref (ma 15), .ref (ma 16), .ref (ma 17), .ref (ma 18), .ref (ma 19), .ref (ma 20), .ref (ma 21), .int 0, .ref (ma 23), .ref (ma 24), .ref (ma 25), .ref (ma 26), .ref (ma 27), .ref (ma 28)])), ((ma 28), wI tC 5 af), ((ma 2), wI tC 600 (fun _ => 0))]) hD hS hA [0, 1, 2] rfl
            refine va_calli (va_runV (As := []) (rest := []) ⟨hx, hb, hml, hown, hts⟩ (c_X5_greatest l hlt D tC dz s.heap.size mo ma th af bt haf) (cwV 0 hts gX5_mayGoOn_X5_greatest rfl rfl rfl (by decide +kernel) ⟨Nat.le_of_ble_eq_true rfl, Nat.le_of_ble_eq_true rfl⟩) ⟨pB_blind, va_recv hK hPc (ci := 6) (q0 := 0) rfl rfl, pB_at hPc hDc hK hN hE hS hFc⟩ rfl rfl hl.1 rfl (lv_room (Nat.le_of_ble_eq_true rfl)) dX5_mayGoOn_1 ⟨Nat.le_of_ble_eq_true rfl, Nat.le_of_ble_eq_true rfl⟩) hS (fun q _ h => hFc q h) hFc (fun r_29 u t H1 locs ht hvm hw hB hz1 hk1 hS => ?_)
            obtain ⟨hP1, _, hD1⟩ := hB
            have hw_30 := hw
            rw [ht] at hP1
            obtain ⟨hP, hD⟩ := va_join (wr := [((ma 7), wI tC 600 (fun _ => 0)), ((ma 6), wI tC 600 zf)]) (w1 := [(mo, .inr (6, [.int th, .int 1, .ref (ma 2), .ref (ma 3), .ref (ma 4), .ref (ma 5), .ref (ma 6), .ref (ma 7), .ref (ma 8), .ref (ma 9), .ref (ma 10), .ref (ma 11), .ref (ma 12), .ref (ma 13), .ref (ma 14), .ref (ma 15), .ref (ma 16), .ref (ma 17), .ref (ma 18), .ref (ma 19), .ref (ma 20), .ref (ma 21), .int 0, .ref (ma 23), .ref (ma 24), .ref (ma 25), .ref (ma 26), .ref (ma 27), .ref (ma 28)])), ((ma 28), wI tC 5 af), ((ma 2), wI tC 600 (fun _ => 0))]) hP hD [0, 1, 2] [3, 4] rfl rfl (by decide) (by decide) hk1 hFc hP1 hD1
            generalize H1 = H at hP hS ⊢
            have hP : va_P D vwCl [((ma 7), wI tC 600 (fun _ => 0)), ((ma 6), wI tC 600 zf), (mo, .inr (6, [.int th, .int 1, .ref (ma 2), .ref (ma 3), .ref (ma 4), .ref (ma 5), .ref (ma 6), .ref (ma 7), .ref (ma 8), .ref (ma 9), .ref (ma 10), .ref (ma 11), .ref (ma 12), .ref (ma 13), .ref (ma 14), .ref (ma 15), .ref (ma 16), .ref (ma 17), .ref (ma 18), .ref (ma 19), .ref (ma 20), .ref (ma 21), .int 0, .ref (ma 23), .ref (ma 24), .ref (ma 25), .ref (ma 26), .ref (ma 27), .ref (ma 28)])), ((ma 28), wI tC 5 af), ((ma 2), wI tC 600 (fun _ => 0))] H := hP
            have hD : va_D A [((ma 7), wI tC 600 (fun _ => 0)), ((ma 6), wI tC 600 zf), (mo, .inr (6, [.int th, .int 1, .ref (ma 2), .ref (ma 3), .ref (ma 4), .ref (ma 5), .ref (ma 6), .ref (ma 7), .ref (ma 8), .ref (ma 9), .ref (ma 10), .ref (ma 11), .ref (ma 12), .ref (ma 13), .ref (ma 14), .ref (ma 15), .ref (ma 16), .ref (ma 17), .ref (ma 18), .ref (ma 19), .ref (ma 20), .ref (ma 21), .int 0, .ref (ma 23), .ref (ma 24), .ref (ma 25), .ref (ma 26), .ref (ma 27), .ref (ma 28)])), ((ma 28), wI tC 5 af), ((ma 2), wI tC 600 (fun _ => 0))] := hD
            have q1 : r_29 = 0 := hw_30.trans (by rw [hb0, hb1, hb2, hb3, hb4] <;> rfl)
            subst q1
            refine lv_istore_n (lv' := [(1, .int 0), (0, .ref mo)]) hx hb dX5_mayGoOn_4 rfl hl (by decide) rfl (fun ls hl => ?_)
            refine lv_iconst (v := 0) hx hb dX5_mayGoOn_5 (by decide) ?_
            refine lv_istore_n (lv' := [(2, .int 0), (1, .int 0), (0, .ref mo)]) hx hb dX5_mayGoOn_6 rfl hl (by decide) rfl (fun ls hl => ?_)
            refine lv_iconst (v := 0) hx hb dX5_mayGoOn_7 (by decide) ?_
            refine lv_istore_n (lv' := [(3, .int 0), (2, .int 0), (1, .int 0), (0, .ref mo)]) hx hb dX5_mayGoOn_8 rfl hl (by decide) rfl (fun ls hl => ?_)
            refine lv_iload_n hx hb dX5_mayGoOn_9 rfl (lv_at hl 0 rfl) ?_
            refine lv_iconst (v := 5) hx hb dX5_mayGoOn_10 (by decide) ?_
            refine lv_icmp_ge (tgt := 71) hx hb dX5_mayGoOn_11 (by decide) (fun hc => absurd hc (by decide)) (fun _ => ?_)
            refine lv_iload_n hx hb dX5_mayGoOn_14 rfl (lv_at hl 2 rfl) ?_
            refine lv_if_lt (tgt := 71) hx hb dX5_mayGoOn_15 (by decide) (fun hc => absurd hc (by decide)) (fun _ => ?_)
            refine lv_aload_n hx hb dX5_mayGoOn_18 rfl (lv_at hl 3 rfl) ?_
            refine va_get (D := D) (ci := 6) (v := .ref (ma 28)) (C := RX5) (T := TX5) (N := 29) hx hb hts in_X5_mayGoOn_X5 hown hK hP 2 rfl rfl 28 (by decide) w_0 (fun _ h9 => h9) rfl dX5_mayGoOn_19 ?_
            refine lv_iload_n hx hb dX5_mayGoOn_22 rfl (lv_at hl 0 rfl) ?_
            refine va_iald hx hb hK hP 3 0 rfl rfl (by unfold vp_in; decide) dX5_mayGoOn_23 ?_
            refine lv_topi (fun z_31 ez_31 => ?_)
            have fz_31 : z_31 = (-1) := ez_31.trans (by rw [show (0 : Int32).toNatClampNeg = 0 by decide, haf 0 (by decide), hb0] <;> rfl)
            subst fz_31
            refine lv_if_lt (tgt := 65) hx hb dX5_mayGoOn_24 (by decide) (fun _ => ?_) (fun hc => absurd (by decide) hc)
            refine lv_iinc (v := 1) (lv' := [(3, .int 1), (2, .int 0), (1, .int 0), (0, .ref mo)]) hx hb dX5_mayGoOn_65 hl (k := 0) rfl (by decide) (by decide) rfl (fun ls hl => ?_)
            refine lv_goto (tgt := 9) hx hb dX5_mayGoOn_68 (by decide) ?_
            refine lv_iload_n hx hb dX5_mayGoOn_9 rfl (lv_at hl 0 rfl) ?_
            refine lv_iconst (v := 5) hx hb dX5_mayGoOn_10 (by decide) ?_
            refine lv_icmp_ge (tgt := 71) hx hb dX5_mayGoOn_11 (by decide) (fun hc => absurd hc (by decide)) (fun _ => ?_)
            refine lv_iload_n hx hb dX5_mayGoOn_14 rfl (lv_at hl 2 rfl) ?_
            refine lv_if_lt (tgt := 71) hx hb dX5_mayGoOn_15 (by decide) (fun hc => absurd hc (by decide)) (fun _ => ?_)
            refine lv_aload_n hx hb dX5_mayGoOn_18 rfl (lv_at hl 3 rfl) ?_
            refine va_get (D := D) (ci := 6) (v := .ref (ma 28)) (C := RX5) (T := TX5) (N := 29) hx hb hts in_X5_mayGoOn_X5 hown hK hP 2 rfl rfl 28 (by decide) w_0 (fun _ h9 => h9) rfl dX5_mayGoOn_19 ?_
            refine lv_iload_n hx hb dX5_mayGoOn_22 rfl (lv_at hl 0 rfl) ?_
            refine va_iald hx hb hK hP 3 0 rfl rfl (by unfold vp_in; decide) dX5_mayGoOn_23 ?_
            refine lv_topi (fun z_32 ez_32 => ?_)
            have fz_32 : z_32 = (-1) := ez_32.trans (by rw [show (1 : Int32).toNatClampNeg = 1 by decide, haf 1 (by decide), hb1] <;> rfl)
            subst fz_32
            refine lv_if_lt (tgt := 65) hx hb dX5_mayGoOn_24 (by decide) (fun _ => ?_) (fun hc => absurd (by decide) hc)
            refine lv_iinc (v := 2) (lv' := [(3, .int 2), (2, .int 0), (1, .int 0), (0, .ref mo)]) hx hb dX5_mayGoOn_65 hl (k := 0) rfl (by decide) (by decide) rfl (fun ls hl => ?_)
            refine lv_goto (tgt := 9) hx hb dX5_mayGoOn_68 (by decide) ?_
            refine lv_iload_n hx hb dX5_mayGoOn_9 rfl (lv_at hl 0 rfl) ?_
            refine lv_iconst (v := 5) hx hb dX5_mayGoOn_10 (by decide) ?_
            refine lv_icmp_ge (tgt := 71) hx hb dX5_mayGoOn_11 (by decide) (fun hc => absurd hc (by decide)) (fun _ => ?_)
            refine lv_iload_n hx hb dX5_mayGoOn_14 rfl (lv_at hl 2 rfl) ?_
            refine lv_if_lt (tgt := 71) hx hb dX5_mayGoOn_15 (by decide) (fun hc => absurd hc (by decide)) (fun _ => ?_)
            refine lv_aload_n hx hb dX5_mayGoOn_18 rfl (lv_at hl 3 rfl) ?_
            refine va_get (D := D) (ci := 6) (v := .ref (ma 28)) (C := RX5) (T := TX5) (N := 29) hx hb hts in_X5_mayGoOn_X5 hown hK hP 2 rfl rfl 28 (by decide) w_0 (fun _ h9 => h9) rfl dX5_mayGoOn_19 ?_
            refine lv_iload_n hx hb dX5_mayGoOn_22 rfl (lv_at hl 0 rfl) ?_
            refine va_iald hx hb hK hP 3 0 rfl rfl (by unfold vp_in; decide) dX5_mayGoOn_23 ?_
            refine lv_topi (fun z_33 ez_33 => ?_)
            have fz_33 : z_33 = (-1) := ez_33.trans (by rw [show (2 : Int32).toNatClampNeg = 2 by decide, haf 2 (by decide), hb2] <;> rfl)
            subst fz_33
            refine lv_if_lt (tgt := 65) hx hb dX5_mayGoOn_24 (by decide) (fun _ => ?_) (fun hc => absurd (by decide) hc)
            refine lv_iinc (v := 3) (lv' := [(3, .int 3), (2, .int 0), (1, .int 0), (0, .ref mo)]) hx hb dX5_mayGoOn_65 hl (k := 0) rfl (by decide) (by decide) rfl (fun ls hl => ?_)
            refine lv_goto (tgt := 9) hx hb dX5_mayGoOn_68 (by decide) ?_
            refine lv_iload_n hx hb dX5_mayGoOn_9 rfl (lv_at hl 0 rfl) ?_
            refine lv_iconst (v := 5) hx hb dX5_mayGoOn_10 (by decide) ?_
            refine lv_icmp_ge (tgt := 71) hx hb dX5_mayGoOn_11 (by decide) (fun hc => absurd hc (by decide)) (fun _ => ?_)
            refine lv_iload_n hx hb dX5_mayGoOn_14 rfl (lv_at hl 2 rfl) ?_
            refine lv_if_lt (tgt := 71) hx hb dX5_mayGoOn_15 (by decide) (fun hc => absurd hc (by decide)) (fun _ => ?_)
            refine lv_aload_n hx hb dX5_mayGoOn_18 rfl (lv_at hl 3 rfl) ?_
            refine va_get (D := D) (ci := 6) (v := .ref (ma 28)) (C := RX5) (T := TX5) (N := 29) hx hb hts in_X5_mayGoOn_X5 hown hK hP 2 rfl rfl 28 (by decide) w_0 (fun _ h9 => h9) rfl dX5_mayGoOn_19 ?_
            refine lv_iload_n hx hb dX5_mayGoOn_22 rfl (lv_at hl 0 rfl) ?_
            refine va_iald hx hb hK hP 3 0 rfl rfl (by unfold vp_in; decide) dX5_mayGoOn_23 ?_
            refine lv_topi (fun z_34 ez_34 => ?_)
            have fz_34 : z_34 = 0 := ez_34.trans (by rw [show (3 : Int32).toNatClampNeg = 3 by decide, haf 3 (by decide), hb3] <;> rfl)
            subst fz_34
            refine lv_if_lt (tgt := 65) hx hb dX5_mayGoOn_24 (by decide) (fun hc => absurd hc (by decide)) (fun _ => ?_)
            refine lv_aload_n hx hb dX5_mayGoOn_27 rfl (lv_at hl 3 rfl) ?_
            refine va_get (D := D) (ci := 6) (v := .ref (ma 2)) (C := RX5) (T := TX5) (N := 29) hx hb hts in_X5_mayGoOn_X5 hown hK hP 2 rfl rfl 2 (by decide) w_1 (fun _ h9 => h9) rfl dX5_mayGoOn_28 ?_
            refine lv_aload_n hx hb dX5_mayGoOn_31 rfl (lv_at hl 3 rfl) ?_
            refine va_get (D := D) (ci := 6) (v := .ref (ma 28)) (C := RX5) (T := TX5) (N := 29) hx hb hts in_X5_mayGoOn_X5 hown hK hP 2 rfl rfl 28 (by decide) w_0 (fun _ h9 => h9) rfl dX5_mayGoOn_32 ?_
            refine lv_iload_n hx hb dX5_mayGoOn_35 rfl (lv_at hl 0 rfl) ?_
            refine va_iald hx hb hK hP 3 0 rfl rfl (by unfold vp_in; decide) dX5_mayGoOn_36 ?_
            refine lv_topi (fun z_35 ez_35 => ?_)
            have fz_35 : z_35 = 0 := ez_35.trans (by rw [show (3 : Int32).toNatClampNeg = 3 by decide, haf 3 (by decide), hb3] <;> rfl)
            subst fz_35
            refine va_iald hx hb hK hP 4 0 rfl rfl (by unfold vp_in; decide) dX5_mayGoOn_37 ?_
            refine lv_topi (fun z_36 ez_36 => ?_)
            have fz_36 : z_36 = 0 := ez_36.trans (rfl)
            subst fz_36
            refine lv_aload_n hx hb dX5_mayGoOn_38 rfl (lv_at hl 3 rfl) ?_
            refine va_get (D := D) (ci := 6) (v := .ref (ma 2)) (C := RX5) (T := TX5) (N := 29) hx hb hts in_X5_mayGoOn_X5 hown hK hP 2 rfl rfl 2 (by decide) w_1 (fun _ h9 => h9) rfl dX5_mayGoOn_39 ?_
            refine lv_iload_n hx hb dX5_mayGoOn_42 rfl (lv_at hl 2 rfl) ?_
            refine va_iald hx hb hK hP 4 0 rfl rfl (by unfold vp_in; decide) dX5_mayGoOn_43 ?_
            refine lv_topi (fun z_37 ez_37 => ?_)
            have fz_37 : z_37 = 0 := ez_37.trans (rfl)
            subst fz_37
            refine lv_icmp_ne (tgt := 65) hx hb dX5_mayGoOn_44 (by decide) (fun hc => absurd (by decide) hc) (fun _ => ?_)
            refine lv_iload_n hx hb dX5_mayGoOn_47 rfl (lv_at hl 1 rfl) ?_
            refine lv_iload_n hx hb dX5_mayGoOn_48 rfl (lv_at hl 0 rfl) ?_
            refine lv_aload_n hx hb dX5_mayGoOn_49 rfl (lv_at hl 3 rfl) ?_
            refine va_get (D := D) (ci := 6) (v := .ref (ma 7)) (C := RX5) (T := TX5) (N := 29) hx hb hts in_X5_mayGoOn_X5 hown hK hP 2 rfl rfl 7 (by decide) w_2 (fun _ h9 => h9) rfl dX5_mayGoOn_50 ?_
            refine lv_iload_n hx hb dX5_mayGoOn_53 rfl (lv_at hl 2 rfl) ?_
            refine va_iald hx hb hK hP 0 0 rfl rfl (by unfold vp_in; decide) dX5_mayGoOn_54 ?_
            refine lv_topi (fun z_38 ez_38 => ?_)
            have fz_38 : z_38 = 0 := ez_38.trans (rfl)
            subst fz_38
            refine lv_icmp_ne (tgt := 62) hx hb dX5_mayGoOn_55 (by decide) (fun _ => ?_) (fun hc => absurd hc (by decide))
            refine lv_iconst (v := 2) hx hb dX5_mayGoOn_62 (by decide) ?_
            refine lv_iadd hx hb dX5_mayGoOn_63 ?_
            refine lv_topi (fun z_39 ez_39 => ?_)
            have fz_39 : z_39 = 2 := ez_39.trans (by decide)
            subst fz_39
            refine lv_istore_n (lv' := [(2, .int 2), (3, .int 3), (1, .int 0), (0, .ref mo)]) hx hb dX5_mayGoOn_64 rfl hl (by decide) rfl (fun ls hl => ?_)
            refine lv_iinc (v := 4) (lv' := [(3, .int 4), (2, .int 2), (1, .int 0), (0, .ref mo)]) hx hb dX5_mayGoOn_65 hl (k := 1) rfl (by decide) (by decide) rfl (fun ls hl => ?_)
            refine lv_goto (tgt := 9) hx hb dX5_mayGoOn_68 (by decide) ?_
            refine lv_iload_n hx hb dX5_mayGoOn_9 rfl (lv_at hl 0 rfl) ?_
            refine lv_iconst (v := 5) hx hb dX5_mayGoOn_10 (by decide) ?_
            refine lv_icmp_ge (tgt := 71) hx hb dX5_mayGoOn_11 (by decide) (fun hc => absurd hc (by decide)) (fun _ => ?_)
            refine lv_iload_n hx hb dX5_mayGoOn_14 rfl (lv_at hl 2 rfl) ?_
            refine lv_if_lt (tgt := 71) hx hb dX5_mayGoOn_15 (by decide) (fun hc => absurd hc (by decide)) (fun _ => ?_)
            refine lv_aload_n hx hb dX5_mayGoOn_18 rfl (lv_at hl 3 rfl) ?_
            refine va_get (D := D) (ci := 6) (v := .ref (ma 28)) (C := RX5) (T := TX5) (N := 29) hx hb hts in_X5_mayGoOn_X5 hown hK hP 2 rfl rfl 28 (by decide) w_0 (fun _ h9 => h9) rfl dX5_mayGoOn_19 ?_
            refine lv_iload_n hx hb dX5_mayGoOn_22 rfl (lv_at hl 0 rfl) ?_
            refine va_iald hx hb hK hP 3 0 rfl rfl (by unfold vp_in; decide) dX5_mayGoOn_23 ?_
            refine lv_topi (fun z_40 ez_40 => ?_)
            have fz_40 : z_40 = 0 := ez_40.trans (by rw [show (4 : Int32).toNatClampNeg = 4 by decide, haf 4 (by decide), hb4] <;> rfl)
            subst fz_40
            refine lv_if_lt (tgt := 65) hx hb dX5_mayGoOn_24 (by decide) (fun hc => absurd hc (by decide)) (fun _ => ?_)
            refine lv_aload_n hx hb dX5_mayGoOn_27 rfl (lv_at hl 3 rfl) ?_
            refine va_get (D := D) (ci := 6) (v := .ref (ma 2)) (C := RX5) (T := TX5) (N := 29) hx hb hts in_X5_mayGoOn_X5 hown hK hP 2 rfl rfl 2 (by decide) w_1 (fun _ h9 => h9) rfl dX5_mayGoOn_28 ?_
            refine lv_aload_n hx hb dX5_mayGoOn_31 rfl (lv_at hl 3 rfl) ?_
            refine va_get (D := D) (ci := 6) (v := .ref (ma 28)) (C := RX5) (T := TX5) (N := 29) hx hb hts in_X5_mayGoOn_X5 hown hK hP 2 rfl rfl 28 (by decide) w_0 (fun _ h9 => h9) rfl dX5_mayGoOn_32 ?_
            refine lv_iload_n hx hb dX5_mayGoOn_35 rfl (lv_at hl 0 rfl) ?_
            refine va_iald hx hb hK hP 3 0 rfl rfl (by unfold vp_in; decide) dX5_mayGoOn_36 ?_
            refine lv_topi (fun z_41 ez_41 => ?_)
            have fz_41 : z_41 = 0 := ez_41.trans (by rw [show (4 : Int32).toNatClampNeg = 4 by decide, haf 4 (by decide), hb4] <;> rfl)
            subst fz_41
            refine va_iald hx hb hK hP 4 0 rfl rfl (by unfold vp_in; decide) dX5_mayGoOn_37 ?_
            refine lv_topi (fun z_42 ez_42 => ?_)
            have fz_42 : z_42 = 0 := ez_42.trans (rfl)
            subst fz_42
            refine lv_aload_n hx hb dX5_mayGoOn_38 rfl (lv_at hl 3 rfl) ?_
            refine va_get (D := D) (ci := 6) (v := .ref (ma 2)) (C := RX5) (T := TX5) (N := 29) hx hb hts in_X5_mayGoOn_X5 hown hK hP 2 rfl rfl 2 (by decide) w_1 (fun _ h9 => h9) rfl dX5_mayGoOn_39 ?_
            refine lv_iload_n hx hb dX5_mayGoOn_42 rfl (lv_at hl 2 rfl) ?_
            refine va_iald hx hb hK hP 4 0 rfl rfl (by unfold vp_in; decide) dX5_mayGoOn_43 ?_
            refine lv_topi (fun z_43 ez_43 => ?_)
            have fz_43 : z_43 = 0 := ez_43.trans (rfl)
            subst fz_43
            refine lv_icmp_ne (tgt := 65) hx hb dX5_mayGoOn_44 (by decide) (fun hc => absurd (by decide) hc) (fun _ => ?_)
            refine lv_iload_n hx hb dX5_mayGoOn_47 rfl (lv_at hl 1 rfl) ?_
            refine lv_iload_n hx hb dX5_mayGoOn_48 rfl (lv_at hl 0 rfl) ?_
            refine lv_aload_n hx hb dX5_mayGoOn_49 rfl (lv_at hl 3 rfl) ?_
            refine va_get (D := D) (ci := 6) (v := .ref (ma 7)) (C := RX5) (T := TX5) (N := 29) hx hb hts in_X5_mayGoOn_X5 hown hK hP 2 rfl rfl 7 (by decide) w_2 (fun _ h9 => h9) rfl dX5_mayGoOn_50 ?_
            refine lv_iload_n hx hb dX5_mayGoOn_53 rfl (lv_at hl 2 rfl) ?_
            refine va_iald hx hb hK hP 0 0 rfl rfl (by unfold vp_in; decide) dX5_mayGoOn_54 ?_
            refine lv_topi (fun z_44 ez_44 => ?_)
            have fz_44 : z_44 = 0 := ez_44.trans (rfl)
            subst fz_44
            refine lv_icmp_ne (tgt := 62) hx hb dX5_mayGoOn_55 (by decide) (fun _ => ?_) (fun hc => absurd hc (by decide))
            refine lv_iconst (v := 2) hx hb dX5_mayGoOn_62 (by decide) ?_
            refine lv_iadd hx hb dX5_mayGoOn_63 ?_
            refine lv_topi (fun z_45 ez_45 => ?_)
            have fz_45 : z_45 = 4 := ez_45.trans (by decide)
            subst fz_45
            refine lv_istore_n (lv' := [(2, .int 4), (3, .int 4), (1, .int 0), (0, .ref mo)]) hx hb dX5_mayGoOn_64 rfl hl (by decide) rfl (fun ls hl => ?_)
            refine lv_iinc (v := 5) (lv' := [(3, .int 5), (2, .int 4), (1, .int 0), (0, .ref mo)]) hx hb dX5_mayGoOn_65 hl (k := 1) rfl (by decide) (by decide) rfl (fun ls hl => ?_)
            refine lv_goto (tgt := 9) hx hb dX5_mayGoOn_68 (by decide) ?_
            refine lv_iload_n hx hb dX5_mayGoOn_9 rfl (lv_at hl 0 rfl) ?_
            refine lv_iconst (v := 5) hx hb dX5_mayGoOn_10 (by decide) ?_
            refine lv_icmp_ge (tgt := 71) hx hb dX5_mayGoOn_11 (by decide) (fun _ => ?_) (fun hc => absurd (by decide) hc)
            refine lv_iload_n hx hb dX5_mayGoOn_71 rfl (lv_at hl 2 rfl) ?_
            refine lv_if_lt (tgt := 89) hx hb dX5_mayGoOn_72 (by decide) (fun hc => absurd hc (by decide)) (fun _ => ?_)
            refine lv_iload_n hx hb dX5_mayGoOn_75 rfl (lv_at hl 1 rfl) ?_
            refine lv_aload_n hx hb dX5_mayGoOn_76 rfl (lv_at hl 3 rfl) ?_
            refine va_get (D := D) (ci := 6) (v := .ref (ma 6)) (C := RX5) (T := TX5) (N := 29) hx hb hts in_X5_mayGoOn_X5 hown hK hP 2 rfl rfl 6 (by decide) w_3 (fun _ h9 => h9) rfl dX5_mayGoOn_77 ?_
            refine lv_iload_n hx hb dX5_mayGoOn_80 rfl (lv_at hl 2 rfl) ?_
            refine va_iald hx hb hK hP 1 0 rfl rfl (by unfold vp_in; decide) dX5_mayGoOn_81 ?_
            refine lv_topi (fun z_46 ez_46 => ?_)
            have fz_46 : z_46 = 5 := ez_46.trans (hzf)
            subst fz_46
            refine lv_icmp_le (tgt := 89) hx hb dX5_mayGoOn_82 (by decide) (fun _ => ?_) (fun hc => absurd (by decide) hc)
            refine lv_iconst (v := 0) hx hb dX5_mayGoOn_89 (by decide) ?_
            have hP9 := hP.sub (ws' := [(mo, .inr (6, [.int th, .int 1, .ref (ma 2), .ref (ma 3), .ref (ma 4), .ref (ma 5), .ref (ma 6), .ref (ma 7), .ref (ma 8), .ref (ma 9), .ref (ma 10), .ref (ma 11), .ref (ma 12), .ref (ma 13), .ref (ma 14), .ref (ma 15), .ref (ma 16), .ref (ma 17), .ref (ma 18), .ref (ma 19), .ref (ma 20), .ref (ma 21), .int 0, .ref (ma 23), .ref (ma 24), .ref (ma 25), .ref (ma 26), .ref (ma 27), .ref (ma 28)])), ((ma 28), wI tC 5 af), ((ma 2), wI tC 600 (fun _ => 0)), ((ma 7), wI tC 600 (fun _ => 0)), ((ma 6), wI tC 600 zf)]) [2, 3, 4, 0, 1] rfl
            have hD9 := hD.sub (ws' := [(mo, .inr (6, [.int th, .int 1, .ref (ma 2), .ref (ma 3), .ref (ma 4), .ref (ma 5), .ref (ma 6), .ref (ma 7), .ref (ma 8), .ref (ma 9), .ref (ma 10), .ref (ma 11), .ref (ma 12), .ref (ma 13), .ref (ma 14), .ref (ma 15), .ref (ma 16), .ref (ma 17), .ref (ma 18), .ref (ma 19), .ref (ma 20), .ref (ma 21), .int 0, .ref (ma 23), .ref (ma 24), .ref (ma 25), .ref (ma 26), .ref (ma 27), .ref (ma 28)])), ((ma 28), wI tC 5 af), ((ma 2), wI tC 600 (fun _ => 0)), ((ma 7), wI tC 600 (fun _ => 0)), ((ma 6), wI tC 600 zf)]) [2, 3, 4, 0, 1] (by decide) rfl
            refine W.widen (k := 0) (n := 0) (by omega) (by omega) ?_
            exact W.zret (v := 0) hx hb hr (by decide) (fun t ht hW => ⟨⟨0, (), rfl, (by unfold mayg cntb; rw [hb0, hb1, hb2, hb3, hb4] <;> decide), (by rw [ht]; exact hP9), va_K.moved hW.alike hK, hD9⟩, hS.F ht⟩) hS.2.2 dX5_mayGoOn_90 hlocks
      · skip
        cases hb3 : bt 3
        · skip
          cases hb4 : bt 4
          · skip
            refine lv_aload_n hx hb dX5_mayGoOn_0 rfl (lv_at hl 0 rfl) ?_
            have hPc := hP.sub (ws' := [(mo, .inr (6, [.int th, .int 1, .ref (ma 2), .ref (ma 3), .ref (ma 4), .ref (ma 5), .ref (ma 6), .ref (ma 7), .ref (ma 8), .ref (ma 9), .ref (ma 10), .ref (ma 11), .ref (ma 12), .ref (ma 13), .ref (ma 14), .ref (ma 15), .ref (ma 16), .ref (ma 17), .ref (ma 18), .ref (ma 19), .ref (ma 20), .ref (ma 21), .int 0, .ref (ma 23), .ref (ma 24), .ref (ma 25), .ref (ma 26), .ref (ma 27), .ref (ma 28)])), ((ma 28), wI tC 5 af), ((ma 2), wI tC 600 (fun _ => 0))]) [0, 1, 2] rfl
            have hDc := hD.sub (ws' := [(mo, .inr (6, [.int th, .int 1, .ref (ma 2), .ref (ma 3), .ref (ma 4), .ref (ma 5), .ref (ma 6), .ref (ma 7), .ref (ma 8), .ref (ma 9), .ref (ma 10), .ref (ma 11), .ref (ma 12), .ref (ma 13), .ref (ma 14), .ref (ma 15), .ref (ma 16), .ref (ma 17), .ref (ma 18), .ref (ma 19), .ref (ma 20), .ref (ma 21), .int 0, .ref (ma 23), .ref (ma 24), .ref (ma 25), .ref (ma 26), .ref (ma 27), .ref (ma 28)])), ((ma 28), wI tC 5 af), ((ma 2), wI tC 600 (fun _ => 0))]) [0, 1, 2] (by decide) rfl
            have hFc := va_free (wc := [(mo, .inr (6, [.int th, .int 1, .ref (ma 2), .ref (ma 3), .ref (ma 4), .ref (ma 5), .ref (ma 6), .ref (ma 7), .ref (ma 8), .ref (ma 9), .ref (ma 10), .ref (ma 11), .ref (ma 12), .ref (ma 13), .ref (ma 14), .ref (ma 15), .ref (ma 16), .ref (ma 17), .ref (ma 18), .ref (ma 19), .ref (ma 20), .ref (ma 21), .int 0, .ref (ma 23), .ref (ma 24), .ref (ma 25), .ref (ma 26), .ref (ma 27), .ref (ma 28)])), ((ma 28), wI tC 5 af), ((ma 2), wI tC 600 (fun _ => 0))]) hD hS hA [0, 1, 2] rfl
            refine va_calli (va_runV (As := []) (rest := []) ⟨hx, hb, hml, hown, hts⟩ (c_X5_greatest l hlt D tC dz s.heap.size mo ma th af bt haf) (cwV 0 hts gX5_mayGoOn_X5_greatest rfl rfl rfl (by decide +kernel) ⟨Nat.le_of_ble_eq_true rfl, Nat.le_of_ble_eq_true rfl⟩) ⟨pB_blind, va_recv hK hPc (ci := 6) (q0 := 0) rfl rfl, pB_at hPc hDc hK hN hE hS hFc⟩ rfl rfl hl.1 rfl (lv_room (Nat.le_of_ble_eq_true rfl)) dX5_mayGoOn_1 ⟨Nat.le_of_ble_eq_true rfl, Nat.le_of_ble_eq_true rfl⟩) hS (fun q _ h => hFc q h) hFc (fun r_47 u t H1 locs ht hvm hw hB hz1 hk1 hS => ?_)
            obtain ⟨hP1, _, hD1⟩ := hB
            have hw_48 := hw
            rw [ht] at hP1
            obtain ⟨hP, hD⟩ := va_join (wr := [((ma 7), wI tC 600 (fun _ => 0)), ((ma 6), wI tC 600 zf)]) (w1 := [(mo, .inr (6, [.int th, .int 1, .ref (ma 2), .ref (ma 3), .ref (ma 4), .ref (ma 5), .ref (ma 6), .ref (ma 7), .ref (ma 8), .ref (ma 9), .ref (ma 10), .ref (ma 11), .ref (ma 12), .ref (ma 13), .ref (ma 14), .ref (ma 15), .ref (ma 16), .ref (ma 17), .ref (ma 18), .ref (ma 19), .ref (ma 20), .ref (ma 21), .int 0, .ref (ma 23), .ref (ma 24), .ref (ma 25), .ref (ma 26), .ref (ma 27), .ref (ma 28)])), ((ma 28), wI tC 5 af), ((ma 2), wI tC 600 (fun _ => 0))]) hP hD [0, 1, 2] [3, 4] rfl rfl (by decide) (by decide) hk1 hFc hP1 hD1
            generalize H1 = H at hP hS ⊢
            have hP : va_P D vwCl [((ma 7), wI tC 600 (fun _ => 0)), ((ma 6), wI tC 600 zf), (mo, .inr (6, [.int th, .int 1, .ref (ma 2), .ref (ma 3), .ref (ma 4), .ref (ma 5), .ref (ma 6), .ref (ma 7), .ref (ma 8), .ref (ma 9), .ref (ma 10), .ref (ma 11), .ref (ma 12), .ref (ma 13), .ref (ma 14), .ref (ma 15), .ref (ma 16), .ref (ma 17), .ref (ma 18), .ref (ma 19), .ref (ma 20), .ref (ma 21), .int 0, .ref (ma 23), .ref (ma 24), .ref (ma 25), .ref (ma 26), .ref (ma 27), .ref (ma 28)])), ((ma 28), wI tC 5 af), ((ma 2), wI tC 600 (fun _ => 0))] H := hP
            have hD : va_D A [((ma 7), wI tC 600 (fun _ => 0)), ((ma 6), wI tC 600 zf), (mo, .inr (6, [.int th, .int 1, .ref (ma 2), .ref (ma 3), .ref (ma 4), .ref (ma 5), .ref (ma 6), .ref (ma 7), .ref (ma 8), .ref (ma 9), .ref (ma 10), .ref (ma 11), .ref (ma 12), .ref (ma 13), .ref (ma 14), .ref (ma 15), .ref (ma 16), .ref (ma 17), .ref (ma 18), .ref (ma 19), .ref (ma 20), .ref (ma 21), .int 0, .ref (ma 23), .ref (ma 24), .ref (ma 25), .ref (ma 26), .ref (ma 27), .ref (ma 28)])), ((ma 28), wI tC 5 af), ((ma 2), wI tC 600 (fun _ => 0))] := hD
            have q1 : r_47 = 0 := hw_48.trans (by rw [hb0, hb1, hb2, hb3, hb4] <;> rfl)
            subst q1
            refine lv_istore_n (lv' := [(1, .int 0), (0, .ref mo)]) hx hb dX5_mayGoOn_4 rfl hl (by decide) rfl (fun ls hl => ?_)
            refine lv_iconst (v := 0) hx hb dX5_mayGoOn_5 (by decide) ?_
            refine lv_istore_n (lv' := [(2, .int 0), (1, .int 0), (0, .ref mo)]) hx hb dX5_mayGoOn_6 rfl hl (by decide) rfl (fun ls hl => ?_)
            refine lv_iconst (v := 0) hx hb dX5_mayGoOn_7 (by decide) ?_
            refine lv_istore_n (lv' := [(3, .int 0), (2, .int 0), (1, .int 0), (0, .ref mo)]) hx hb dX5_mayGoOn_8 rfl hl (by decide) rfl (fun ls hl => ?_)
            refine lv_iload_n hx hb dX5_mayGoOn_9 rfl (lv_at hl 0 rfl) ?_
            refine lv_iconst (v := 5) hx hb dX5_mayGoOn_10 (by decide) ?_
            refine lv_icmp_ge (tgt := 71) hx hb dX5_mayGoOn_11 (by decide) (fun hc => absurd hc (by decide)) (fun _ => ?_)
            refine lv_iload_n hx hb dX5_mayGoOn_14 rfl (lv_at hl 2 rfl) ?_
            refine lv_if_lt (tgt := 71) hx hb dX5_mayGoOn_15 (by decide) (fun hc => absurd hc (by decide)) (fun _ => ?_)
            refine lv_aload_n hx hb dX5_mayGoOn_18 rfl (lv_at hl 3 rfl) ?_
            refine va_get (D := D) (ci := 6) (v := .ref (ma 28)) (C := RX5) (T := TX5) (N := 29) hx hb hts in_X5_mayGoOn_X5 hown hK hP 2 rfl rfl 28 (by decide) w_0 (fun _ h9 => h9) rfl dX5_mayGoOn_19 ?_
            refine lv_iload_n hx hb dX5_mayGoOn_22 rfl (lv_at hl 0 rfl) ?_
            refine va_iald hx hb hK hP 3 0 rfl rfl (by unfold vp_in; decide) dX5_mayGoOn_23 ?_
            refine lv_topi (fun z_49 ez_49 => ?_)
            have fz_49 : z_49 = (-1) := ez_49.trans (by rw [show (0 : Int32).toNatClampNeg = 0 by decide, haf 0 (by decide), hb0] <;> rfl)
            subst fz_49
            refine lv_if_lt (tgt := 65) hx hb dX5_mayGoOn_24 (by decide) (fun _ => ?_) (fun hc => absurd (by decide) hc)
            refine lv_iinc (v := 1) (lv' := [(3, .int 1), (2, .int 0), (1, .int 0), (0, .ref mo)]) hx hb dX5_mayGoOn_65 hl (k := 0) rfl (by decide) (by decide) rfl (fun ls hl => ?_)
            refine lv_goto (tgt := 9) hx hb dX5_mayGoOn_68 (by decide) ?_
            refine lv_iload_n hx hb dX5_mayGoOn_9 rfl (lv_at hl 0 rfl) ?_
            refine lv_iconst (v := 5) hx hb dX5_mayGoOn_10 (by decide) ?_
            refine lv_icmp_ge (tgt := 71) hx hb dX5_mayGoOn_11 (by decide) (fun hc => absurd hc (by decide)) (fun _ => ?_)
            refine lv_iload_n hx hb dX5_mayGoOn_14 rfl (lv_at hl 2 rfl) ?_
            refine lv_if_lt (tgt := 71) hx hb dX5_mayGoOn_15 (by decide) (fun hc => absurd hc (by decide)) (fun _ => ?_)
            refine lv_aload_n hx hb dX5_mayGoOn_18 rfl (lv_at hl 3 rfl) ?_
            refine va_get (D := D) (ci := 6) (v := .ref (ma 28)) (C := RX5) (T := TX5) (N := 29) hx hb hts in_X5_mayGoOn_X5 hown hK hP 2 rfl rfl 28 (by decide) w_0 (fun _ h9 => h9) rfl dX5_mayGoOn_19 ?_
            refine lv_iload_n hx hb dX5_mayGoOn_22 rfl (lv_at hl 0 rfl) ?_
            refine va_iald hx hb hK hP 3 0 rfl rfl (by unfold vp_in; decide) dX5_mayGoOn_23 ?_
            refine lv_topi (fun z_50 ez_50 => ?_)
            have fz_50 : z_50 = (-1) := ez_50.trans (by rw [show (1 : Int32).toNatClampNeg = 1 by decide, haf 1 (by decide), hb1] <;> rfl)
            subst fz_50
            refine lv_if_lt (tgt := 65) hx hb dX5_mayGoOn_24 (by decide) (fun _ => ?_) (fun hc => absurd (by decide) hc)
            refine lv_iinc (v := 2) (lv' := [(3, .int 2), (2, .int 0), (1, .int 0), (0, .ref mo)]) hx hb dX5_mayGoOn_65 hl (k := 0) rfl (by decide) (by decide) rfl (fun ls hl => ?_)
            refine lv_goto (tgt := 9) hx hb dX5_mayGoOn_68 (by decide) ?_
            refine lv_iload_n hx hb dX5_mayGoOn_9 rfl (lv_at hl 0 rfl) ?_
            refine lv_iconst (v := 5) hx hb dX5_mayGoOn_10 (by decide) ?_
            refine lv_icmp_ge (tgt := 71) hx hb dX5_mayGoOn_11 (by decide) (fun hc => absurd hc (by decide)) (fun _ => ?_)
            refine lv_iload_n hx hb dX5_mayGoOn_14 rfl (lv_at hl 2 rfl) ?_
            refine lv_if_lt (tgt := 71) hx hb dX5_mayGoOn_15 (by decide) (fun hc => absurd hc (by decide)) (fun _ => ?_)
            refine lv_aload_n hx hb dX5_mayGoOn_18 rfl (lv_at hl 3 rfl) ?_
            refine va_get (D := D) (ci := 6) (v := .ref (ma 28)) (C := RX5) (T := TX5) (N := 29) hx hb hts in_X5_mayGoOn_X5 hown hK hP 2 rfl rfl 28 (by decide) w_0 (fun _ h9 => h9) rfl dX5_mayGoOn_19 ?_
            refine lv_iload_n hx hb dX5_mayGoOn_22 rfl (lv_at hl 0 rfl) ?_
            refine va_iald hx hb hK hP 3 0 rfl rfl (by unfold vp_in; decide) dX5_mayGoOn_23 ?_
            refine lv_topi (fun z_51 ez_51 => ?_)
            have fz_51 : z_51 = 0 := ez_51.trans (by rw [show (2 : Int32).toNatClampNeg = 2 by decide, haf 2 (by decide), hb2] <;> rfl)
            subst fz_51
            refine lv_if_lt (tgt := 65) hx hb dX5_mayGoOn_24 (by decide) (fun hc => absurd hc (by decide)) (fun _ => ?_)
            refine lv_aload_n hx hb dX5_mayGoOn_27 rfl (lv_at hl 3 rfl) ?_
            refine va_get (D := D) (ci := 6) (v := .ref (ma 2)) (C := RX5) (T := TX5) (N := 29) hx hb hts in_X5_mayGoOn_X5 hown hK hP 2 rfl rfl 2 (by decide) w_1 (fun _ h9 => h9) rfl dX5_mayGoOn_28 ?_
            refine lv_aload_n hx hb dX5_mayGoOn_31 rfl (lv_at hl 3 rfl) ?_
            refine va_get (D := D) (ci := 6) (v := .ref (ma 28)) (C := RX5) (T := TX5) (N := 29) hx hb hts in_X5_mayGoOn_X5 hown hK hP 2 rfl rfl 28 (by decide) w_0 (fun _ h9 => h9) rfl dX5_mayGoOn_32 ?_
            refine lv_iload_n hx hb dX5_mayGoOn_35 rfl (lv_at hl 0 rfl) ?_
            refine va_iald hx hb hK hP 3 0 rfl rfl (by unfold vp_in; decide) dX5_mayGoOn_36 ?_
            refine lv_topi (fun z_52 ez_52 => ?_)
            have fz_52 : z_52 = 0 := ez_52.trans (by rw [show (2 : Int32).toNatClampNeg = 2 by decide, haf 2 (by decide), hb2] <;> rfl)
            subst fz_52
            refine va_iald hx hb hK hP 4 0 rfl rfl (by unfold vp_in; decide) dX5_mayGoOn_37 ?_
            refine lv_topi (fun z_53 ez_53 => ?_)
            have fz_53 : z_53 = 0 := ez_53.trans (rfl)
            subst fz_53
            refine lv_aload_n hx hb dX5_mayGoOn_38 rfl (lv_at hl 3 rfl) ?_
            refine va_get (D := D) (ci := 6) (v := .ref (ma 2)) (C := RX5) (T := TX5) (N := 29) hx hb hts in_X5_mayGoOn_X5 hown hK hP 2 rfl rfl 2 (by decide) w_1 (fun _ h9 => h9) rfl dX5_mayGoOn_39 ?_
            refine lv_iload_n hx hb dX5_mayGoOn_42 rfl (lv_at hl 2 rfl) ?_
            refine va_iald hx hb hK hP 4 0 rfl rfl (by unfold vp_in; decide) dX5_mayGoOn_43 ?_
            refine lv_topi (fun z_54 ez_54 => ?_)
            have fz_54 : z_54 = 0 := ez_54.trans (rfl)
            subst fz_54
            refine lv_icmp_ne (tgt := 65) hx hb dX5_mayGoOn_44 (by decide) (fun hc => absurd (by decide) hc) (fun _ => ?_)
            refine lv_iload_n hx hb dX5_mayGoOn_47 rfl (lv_at hl 1 rfl) ?_
            refine lv_iload_n hx hb dX5_mayGoOn_48 rfl (lv_at hl 0 rfl) ?_
            refine lv_aload_n hx hb dX5_mayGoOn_49 rfl (lv_at hl 3 rfl) ?_
            refine va_get (D := D) (ci := 6) (v := .ref (ma 7)) (C := RX5) (T := TX5) (N := 29) hx hb hts in_X5_mayGoOn_X5 hown hK hP 2 rfl rfl 7 (by decide) w_2 (fun _ h9 => h9) rfl dX5_mayGoOn_50 ?_
            refine lv_iload_n hx hb dX5_mayGoOn_53 rfl (lv_at hl 2 rfl) ?_
            refine va_iald hx hb hK hP 0 0 rfl rfl (by unfold vp_in; decide) dX5_mayGoOn_54 ?_
            refine lv_topi (fun z_55 ez_55 => ?_)
            have fz_55 : z_55 = 0 := ez_55.trans (rfl)
            subst fz_55
            refine lv_icmp_ne (tgt := 62) hx hb dX5_mayGoOn_55 (by decide) (fun _ => ?_) (fun hc => absurd hc (by decide))
            refine lv_iconst (v := 2) hx hb dX5_mayGoOn_62 (by decide) ?_
            refine lv_iadd hx hb dX5_mayGoOn_63 ?_
            refine lv_topi (fun z_56 ez_56 => ?_)
            have fz_56 : z_56 = 2 := ez_56.trans (by decide)
            subst fz_56
            refine lv_istore_n (lv' := [(2, .int 2), (3, .int 2), (1, .int 0), (0, .ref mo)]) hx hb dX5_mayGoOn_64 rfl hl (by decide) rfl (fun ls hl => ?_)
            refine lv_iinc (v := 3) (lv' := [(3, .int 3), (2, .int 2), (1, .int 0), (0, .ref mo)]) hx hb dX5_mayGoOn_65 hl (k := 1) rfl (by decide) (by decide) rfl (fun ls hl => ?_)
            refine lv_goto (tgt := 9) hx hb dX5_mayGoOn_68 (by decide) ?_
            refine lv_iload_n hx hb dX5_mayGoOn_9 rfl (lv_at hl 0 rfl) ?_
            refine lv_iconst (v := 5) hx hb dX5_mayGoOn_10 (by decide) ?_
            refine lv_icmp_ge (tgt := 71) hx hb dX5_mayGoOn_11 (by decide) (fun hc => absurd hc (by decide)) (fun _ => ?_)
            refine lv_iload_n hx hb dX5_mayGoOn_14 rfl (lv_at hl 2 rfl) ?_
            refine lv_if_lt (tgt := 71) hx hb dX5_mayGoOn_15 (by decide) (fun hc => absurd hc (by decide)) (fun _ => ?_)
            refine lv_aload_n hx hb dX5_mayGoOn_18 rfl (lv_at hl 3 rfl) ?_
            refine va_get (D := D) (ci := 6) (v := .ref (ma 28)) (C := RX5) (T := TX5) (N := 29) hx hb hts in_X5_mayGoOn_X5 hown hK hP 2 rfl rfl 28 (by decide) w_0 (fun _ h9 => h9) rfl dX5_mayGoOn_19 ?_
            refine lv_iload_n hx hb dX5_mayGoOn_22 rfl (lv_at hl 0 rfl) ?_
            refine va_iald hx hb hK hP 3 0 rfl rfl (by unfold vp_in; decide) dX5_mayGoOn_23 ?_
            refine lv_topi (fun z_57 ez_57 => ?_)
            have fz_57 : z_57 = (-1) := ez_57.trans (by rw [show (3 : Int32).toNatClampNeg = 3 by decide, haf 3 (by decide), hb3] <;> rfl)
            subst fz_57
            refine lv_if_lt (tgt := 65) hx hb dX5_mayGoOn_24 (by decide) (fun _ => ?_) (fun hc => absurd (by decide) hc)
            refine lv_iinc (v := 4) (lv' := [(3, .int 4), (2, .int 2), (1, .int 0), (0, .ref mo)]) hx hb dX5_mayGoOn_65 hl (k := 0) rfl (by decide) (by decide) rfl (fun ls hl => ?_)
            refine lv_goto (tgt := 9) hx hb dX5_mayGoOn_68 (by decide) ?_
            refine lv_iload_n hx hb dX5_mayGoOn_9 rfl (lv_at hl 0 rfl) ?_
            refine lv_iconst (v := 5) hx hb dX5_mayGoOn_10 (by decide) ?_
            refine lv_icmp_ge (tgt := 71) hx hb dX5_mayGoOn_11 (by decide) (fun hc => absurd hc (by decide)) (fun _ => ?_)
            refine lv_iload_n hx hb dX5_mayGoOn_14 rfl (lv_at hl 2 rfl) ?_
            refine lv_if_lt (tgt := 71) hx hb dX5_mayGoOn_15 (by decide) (fun hc => absurd hc (by decide)) (fun _ => ?_)
            refine lv_aload_n hx hb dX5_mayGoOn_18 rfl (lv_at hl 3 rfl) ?_
            refine va_get (D := D) (ci := 6) (v := .ref (ma 28)) (C := RX5) (T := TX5) (N := 29) hx hb hts in_X5_mayGoOn_X5 hown hK hP 2 rfl rfl 28 (by decide) w_0 (fun _ h9 => h9) rfl dX5_mayGoOn_19 ?_
            refine lv_iload_n hx hb dX5_mayGoOn_22 rfl (lv_at hl 0 rfl) ?_
            refine va_iald hx hb hK hP 3 0 rfl rfl (by unfold vp_in; decide) dX5_mayGoOn_23 ?_
            refine lv_topi (fun z_58 ez_58 => ?_)
            have fz_58 : z_58 = (-1) := ez_58.trans (by rw [show (4 : Int32).toNatClampNeg = 4 by decide, haf 4 (by decide), hb4] <;> rfl)
            subst fz_58
            refine lv_if_lt (tgt := 65) hx hb dX5_mayGoOn_24 (by decide) (fun _ => ?_) (fun hc => absurd (by decide) hc)
            refine lv_iinc (v := 5) (lv' := [(3, .int 5), (2, .int 2), (1, .int 0), (0, .ref mo)]) hx hb dX5_mayGoOn_65 hl (k := 0) rfl (by decide) (by decide) rfl (fun ls hl => ?_)
            refine lv_goto (tgt := 9) hx hb dX5_mayGoOn_68 (by decide) ?_
            refine lv_iload_n hx hb dX5_mayGoOn_9 rfl (lv_at hl 0 rfl) ?_
            refine lv_iconst (v := 5) hx hb dX5_mayGoOn_10 (by decide) ?_
            refine lv_icmp_ge (tgt := 71) hx hb dX5_mayGoOn_11 (by decide) (fun _ => ?_) (fun hc => absurd (by decide) hc)
            refine lv_iload_n hx hb dX5_mayGoOn_71 rfl (lv_at hl 2 rfl) ?_
            refine lv_if_lt (tgt := 89) hx hb dX5_mayGoOn_72 (by decide) (fun hc => absurd hc (by decide)) (fun _ => ?_)
            refine lv_iload_n hx hb dX5_mayGoOn_75 rfl (lv_at hl 1 rfl) ?_
            refine lv_aload_n hx hb dX5_mayGoOn_76 rfl (lv_at hl 3 rfl) ?_
            refine va_get (D := D) (ci := 6) (v := .ref (ma 6)) (C := RX5) (T := TX5) (N := 29) hx hb hts in_X5_mayGoOn_X5 hown hK hP 2 rfl rfl 6 (by decide) w_3 (fun _ h9 => h9) rfl dX5_mayGoOn_77 ?_
            refine lv_iload_n hx hb dX5_mayGoOn_80 rfl (lv_at hl 2 rfl) ?_
            refine va_iald hx hb hK hP 1 0 rfl rfl (by unfold vp_in; decide) dX5_mayGoOn_81 ?_
            refine lv_topi (fun z_59 ez_59 => ?_)
            have fz_59 : z_59 = 5 := ez_59.trans (hzf)
            subst fz_59
            refine lv_icmp_le (tgt := 89) hx hb dX5_mayGoOn_82 (by decide) (fun _ => ?_) (fun hc => absurd (by decide) hc)
            refine lv_iconst (v := 0) hx hb dX5_mayGoOn_89 (by decide) ?_
            have hP9 := hP.sub (ws' := [(mo, .inr (6, [.int th, .int 1, .ref (ma 2), .ref (ma 3), .ref (ma 4), .ref (ma 5), .ref (ma 6), .ref (ma 7), .ref (ma 8), .ref (ma 9), .ref (ma 10), .ref (ma 11), .ref (ma 12), .ref (ma 13), .ref (ma 14), .ref (ma 15), .ref (ma 16), .ref (ma 17), .ref (ma 18), .ref (ma 19), .ref (ma 20), .ref (ma 21), .int 0, .ref (ma 23), .ref (ma 24), .ref (ma 25), .ref (ma 26), .ref (ma 27), .ref (ma 28)])), ((ma 28), wI tC 5 af), ((ma 2), wI tC 600 (fun _ => 0)), ((ma 7), wI tC 600 (fun _ => 0)), ((ma 6), wI tC 600 zf)]) [2, 3, 4, 0, 1] rfl
            have hD9 := hD.sub (ws' := [(mo, .inr (6, [.int th, .int 1, .ref (ma 2), .ref (ma 3), .ref (ma 4), .ref (ma 5), .ref (ma 6), .ref (ma 7), .ref (ma 8), .ref (ma 9), .ref (ma 10), .ref (ma 11), .ref (ma 12), .ref (ma 13), .ref (ma 14), .ref (ma 15), .ref (ma 16), .ref (ma 17), .ref (ma 18), .ref (ma 19), .ref (ma 20), .ref (ma 21), .int 0, .ref (ma 23), .ref (ma 24), .ref (ma 25), .ref (ma 26), .ref (ma 27), .ref (ma 28)])), ((ma 28), wI tC 5 af), ((ma 2), wI tC 600 (fun _ => 0)), ((ma 7), wI tC 600 (fun _ => 0)), ((ma 6), wI tC 600 zf)]) [2, 3, 4, 0, 1] (by decide) rfl
            refine W.widen (k := 0) (n := 0) (by omega) (by omega) ?_
            exact W.zret (v := 0) hx hb hr (by decide) (fun t ht hW => ⟨⟨0, (), rfl, (by unfold mayg cntb; rw [hb0, hb1, hb2, hb3, hb4] <;> decide), (by rw [ht]; exact hP9), va_K.moved hW.alike hK, hD9⟩, hS.F ht⟩) hS.2.2 dX5_mayGoOn_90 hlocks
          · skip
            refine lv_aload_n hx hb dX5_mayGoOn_0 rfl (lv_at hl 0 rfl) ?_
            have hPc := hP.sub (ws' := [(mo, .inr (6, [.int th, .int 1, .ref (ma 2), .ref (ma 3), .ref (ma 4), .ref (ma 5), .ref (ma 6), .ref (ma 7), .ref (ma 8), .ref (ma 9), .ref (ma 10), .ref (ma 11), .ref (ma 12), .ref (ma 13), .ref (ma 14), .ref (ma 15), .ref (ma 16), .ref (ma 17), .ref (ma 18), .ref (ma 19), .ref (ma 20), .ref (ma 21), .int 0, .ref (ma 23), .ref (ma 24), .ref (ma 25), .ref (ma 26), .ref (ma 27), .ref (ma 28)])), ((ma 28), wI tC 5 af), ((ma 2), wI tC 600 (fun _ => 0))]) [0, 1, 2] rfl
            have hDc := hD.sub (ws' := [(mo, .inr (6, [.int th, .int 1, .ref (ma 2), .ref (ma 3), .ref (ma 4), .ref (ma 5), .ref (ma 6), .ref (ma 7), .ref (ma 8), .ref (ma 9), .ref (ma 10), .ref (ma 11), .ref (ma 12), .ref (ma 13), .ref (ma 14), .ref (ma 15), .ref (ma 16), .ref (ma 17), .ref (ma 18), .ref (ma 19), .ref (ma 20), .ref (ma 21), .int 0, .ref (ma 23), .ref (ma 24), .ref (ma 25), .ref (ma 26), .ref (ma 27), .ref (ma 28)])), ((ma 28), wI tC 5 af), ((ma 2), wI tC 600 (fun _ => 0))]) [0, 1, 2] (by decide) rfl
            have hFc := va_free (wc := [(mo, .inr (6, [.int th, .int 1, .ref (ma 2), .ref (ma 3), .ref (ma 4), .ref (ma 5), .ref (ma 6), .ref (ma 7), .ref (ma 8), .ref (ma 9), .ref (ma 10), .ref (ma 11), .ref (ma 12), .ref (ma 13), .ref (ma 14), .ref (ma 15), .ref (ma 16), .ref (ma 17), .ref (ma 18), .ref (ma 19), .ref (ma 20), .ref (ma 21), .int 0, .ref (ma 23), .ref (ma 24), .ref (ma 25), .ref (ma 26), .ref (ma 27), .ref (ma 28)])), ((ma 28), wI tC 5 af), ((ma 2), wI tC 600 (fun _ => 0))]) hD hS hA [0, 1, 2] rfl
            refine va_calli (va_runV (As := []) (rest := []) ⟨hx, hb, hml, hown, hts⟩ (c_X5_greatest l hlt D tC dz s.heap.size mo ma th af bt haf) (cwV 0 hts gX5_mayGoOn_X5_greatest rfl rfl rfl (by decide +kernel) ⟨Nat.le_of_ble_eq_true rfl, Nat.le_of_ble_eq_true rfl⟩) ⟨pB_blind, va_recv hK hPc (ci := 6) (q0 := 0) rfl rfl, pB_at hPc hDc hK hN hE hS hFc⟩ rfl rfl hl.1 rfl (lv_room (Nat.le_of_ble_eq_true rfl)) dX5_mayGoOn_1 ⟨Nat.le_of_ble_eq_true rfl, Nat.le_of_ble_eq_true rfl⟩) hS (fun q _ h => hFc q h) hFc (fun r_60 u t H1 locs ht hvm hw hB hz1 hk1 hS => ?_)
            obtain ⟨hP1, _, hD1⟩ := hB
            have hw_61 := hw
            rw [ht] at hP1
            obtain ⟨hP, hD⟩ := va_join (wr := [((ma 7), wI tC 600 (fun _ => 0)), ((ma 6), wI tC 600 zf)]) (w1 := [(mo, .inr (6, [.int th, .int 1, .ref (ma 2), .ref (ma 3), .ref (ma 4), .ref (ma 5), .ref (ma 6), .ref (ma 7), .ref (ma 8), .ref (ma 9), .ref (ma 10), .ref (ma 11), .ref (ma 12), .ref (ma 13), .ref (ma 14), .ref (ma 15), .ref (ma 16), .ref (ma 17), .ref (ma 18), .ref (ma 19), .ref (ma 20), .ref (ma 21), .int 0, .ref (ma 23), .ref (ma 24), .ref (ma 25), .ref (ma 26), .ref (ma 27), .ref (ma 28)])), ((ma 28), wI tC 5 af), ((ma 2), wI tC 600 (fun _ => 0))]) hP hD [0, 1, 2] [3, 4] rfl rfl (by decide) (by decide) hk1 hFc hP1 hD1
            generalize H1 = H at hP hS ⊢
            have hP : va_P D vwCl [((ma 7), wI tC 600 (fun _ => 0)), ((ma 6), wI tC 600 zf), (mo, .inr (6, [.int th, .int 1, .ref (ma 2), .ref (ma 3), .ref (ma 4), .ref (ma 5), .ref (ma 6), .ref (ma 7), .ref (ma 8), .ref (ma 9), .ref (ma 10), .ref (ma 11), .ref (ma 12), .ref (ma 13), .ref (ma 14), .ref (ma 15), .ref (ma 16), .ref (ma 17), .ref (ma 18), .ref (ma 19), .ref (ma 20), .ref (ma 21), .int 0, .ref (ma 23), .ref (ma 24), .ref (ma 25), .ref (ma 26), .ref (ma 27), .ref (ma 28)])), ((ma 28), wI tC 5 af), ((ma 2), wI tC 600 (fun _ => 0))] H := hP
            have hD : va_D A [((ma 7), wI tC 600 (fun _ => 0)), ((ma 6), wI tC 600 zf), (mo, .inr (6, [.int th, .int 1, .ref (ma 2), .ref (ma 3), .ref (ma 4), .ref (ma 5), .ref (ma 6), .ref (ma 7), .ref (ma 8), .ref (ma 9), .ref (ma 10), .ref (ma 11), .ref (ma 12), .ref (ma 13), .ref (ma 14), .ref (ma 15), .ref (ma 16), .ref (ma 17), .ref (ma 18), .ref (ma 19), .ref (ma 20), .ref (ma 21), .int 0, .ref (ma 23), .ref (ma 24), .ref (ma 25), .ref (ma 26), .ref (ma 27), .ref (ma 28)])), ((ma 28), wI tC 5 af), ((ma 2), wI tC 600 (fun _ => 0))] := hD
            have q1 : r_60 = 0 := hw_61.trans (by rw [hb0, hb1, hb2, hb3, hb4] <;> rfl)
            subst q1
            refine lv_istore_n (lv' := [(1, .int 0), (0, .ref mo)]) hx hb dX5_mayGoOn_4 rfl hl (by decide) rfl (fun ls hl => ?_)
            refine lv_iconst (v := 0) hx hb dX5_mayGoOn_5 (by decide) ?_
            refine lv_istore_n (lv' := [(2, .int 0), (1, .int 0), (0, .ref mo)]) hx hb dX5_mayGoOn_6 rfl hl (by decide) rfl (fun ls hl => ?_)
            refine lv_iconst (v := 0) hx hb dX5_mayGoOn_7 (by decide) ?_
            refine lv_istore_n (lv' := [(3, .int 0), (2, .int 0), (1, .int 0), (0, .ref mo)]) hx hb dX5_mayGoOn_8 rfl hl (by decide) rfl (fun ls hl => ?_)
            refine lv_iload_n hx hb dX5_mayGoOn_9 rfl (lv_at hl 0 rfl) ?_
            refine lv_iconst (v := 5) hx hb dX5_mayGoOn_10 (by decide) ?_
            refine lv_icmp_ge (tgt := 71) hx hb dX5_mayGoOn_11 (by decide) (fun hc => absurd hc (by decide)) (fun _ => ?_)
            refine lv_iload_n hx hb dX5_mayGoOn_14 rfl (lv_at hl 2 rfl) ?_
            refine lv_if_lt (tgt := 71) hx hb dX5_mayGoOn_15 (by decide) (fun hc => absurd hc (by decide)) (fun _ => ?_)
            refine lv_aload_n hx hb dX5_mayGoOn_18 rfl (lv_at hl 3 rfl) ?_
            refine va_get (D := D) (ci := 6) (v := .ref (ma 28)) (C := RX5) (T := TX5) (N := 29) hx hb hts in_X5_mayGoOn_X5 hown hK hP 2 rfl rfl 28 (by decide) w_0 (fun _ h9 => h9) rfl dX5_mayGoOn_19 ?_
            refine lv_iload_n hx hb dX5_mayGoOn_22 rfl (lv_at hl 0 rfl) ?_
            refine va_iald hx hb hK hP 3 0 rfl rfl (by unfold vp_in; decide) dX5_mayGoOn_23 ?_
            refine lv_topi (fun z_62 ez_62 => ?_)
            have fz_62 : z_62 = (-1) := ez_62.trans (by rw [show (0 : Int32).toNatClampNeg = 0 by decide, haf 0 (by decide), hb0] <;> rfl)
            subst fz_62
            refine lv_if_lt (tgt := 65) hx hb dX5_mayGoOn_24 (by decide) (fun _ => ?_) (fun hc => absurd (by decide) hc)
            refine lv_iinc (v := 1) (lv' := [(3, .int 1), (2, .int 0), (1, .int 0), (0, .ref mo)]) hx hb dX5_mayGoOn_65 hl (k := 0) rfl (by decide) (by decide) rfl (fun ls hl => ?_)
            refine lv_goto (tgt := 9) hx hb dX5_mayGoOn_68 (by decide) ?_
            refine lv_iload_n hx hb dX5_mayGoOn_9 rfl (lv_at hl 0 rfl) ?_
            refine lv_iconst (v := 5) hx hb dX5_mayGoOn_10 (by decide) ?_
            refine lv_icmp_ge (tgt := 71) hx hb dX5_mayGoOn_11 (by decide) (fun hc => absurd hc (by decide)) (fun _ => ?_)
            refine lv_iload_n hx hb dX5_mayGoOn_14 rfl (lv_at hl 2 rfl) ?_
            refine lv_if_lt (tgt := 71) hx hb dX5_mayGoOn_15 (by decide) (fun hc => absurd hc (by decide)) (fun _ => ?_)
            refine lv_aload_n hx hb dX5_mayGoOn_18 rfl (lv_at hl 3 rfl) ?_
            refine va_get (D := D) (ci := 6) (v := .ref (ma 28)) (C := RX5) (T := TX5) (N := 29) hx hb hts in_X5_mayGoOn_X5 hown hK hP 2 rfl rfl 28 (by decide) w_0 (fun _ h9 => h9) rfl dX5_mayGoOn_19 ?_
            refine lv_iload_n hx hb dX5_mayGoOn_22 rfl (lv_at hl 0 rfl) ?_
            refine va_iald hx hb hK hP 3 0 rfl rfl (by unfold vp_in; decide) dX5_mayGoOn_23 ?_
            refine lv_topi (fun z_63 ez_63 => ?_)
            have fz_63 : z_63 = (-1) := ez_63.trans (by rw [show (1 : Int32).toNatClampNeg = 1 by decide, haf 1 (by decide), hb1] <;> rfl)
            subst fz_63
            refine lv_if_lt (tgt := 65) hx hb dX5_mayGoOn_24 (by decide) (fun _ => ?_) (fun hc => absurd (by decide) hc)
            refine lv_iinc (v := 2) (lv' := [(3, .int 2), (2, .int 0), (1, .int 0), (0, .ref mo)]) hx hb dX5_mayGoOn_65 hl (k := 0) rfl (by decide) (by decide) rfl (fun ls hl => ?_)
            refine lv_goto (tgt := 9) hx hb dX5_mayGoOn_68 (by decide) ?_
            refine lv_iload_n hx hb dX5_mayGoOn_9 rfl (lv_at hl 0 rfl) ?_
            refine lv_iconst (v := 5) hx hb dX5_mayGoOn_10 (by decide) ?_
            refine lv_icmp_ge (tgt := 71) hx hb dX5_mayGoOn_11 (by decide) (fun hc => absurd hc (by decide)) (fun _ => ?_)
            refine lv_iload_n hx hb dX5_mayGoOn_14 rfl (lv_at hl 2 rfl) ?_
            refine lv_if_lt (tgt := 71) hx hb dX5_mayGoOn_15 (by decide) (fun hc => absurd hc (by decide)) (fun _ => ?_)
            refine lv_aload_n hx hb dX5_mayGoOn_18 rfl (lv_at hl 3 rfl) ?_
            refine va_get (D := D) (ci := 6) (v := .ref (ma 28)) (C := RX5) (T := TX5) (N := 29) hx hb hts in_X5_mayGoOn_X5 hown hK hP 2 rfl rfl 28 (by decide) w_0 (fun _ h9 => h9) rfl dX5_mayGoOn_19 ?_
            refine lv_iload_n hx hb dX5_mayGoOn_22 rfl (lv_at hl 0 rfl) ?_
            refine va_iald hx hb hK hP 3 0 rfl rfl (by unfold vp_in; decide) dX5_mayGoOn_23 ?_
            refine lv_topi (fun z_64 ez_64 => ?_)
            have fz_64 : z_64 = 0 := ez_64.trans (by rw [show (2 : Int32).toNatClampNeg = 2 by decide, haf 2 (by decide), hb2] <;> rfl)
            subst fz_64
            refine lv_if_lt (tgt := 65) hx hb dX5_mayGoOn_24 (by decide) (fun hc => absurd hc (by decide)) (fun _ => ?_)
            refine lv_aload_n hx hb dX5_mayGoOn_27 rfl (lv_at hl 3 rfl) ?_
            refine va_get (D := D) (ci := 6) (v := .ref (ma 2)) (C := RX5) (T := TX5) (N := 29) hx hb hts in_X5_mayGoOn_X5 hown hK hP 2 rfl rfl 2 (by decide) w_1 (fun _ h9 => h9) rfl dX5_mayGoOn_28 ?_
            refine lv_aload_n hx hb dX5_mayGoOn_31 rfl (lv_at hl 3 rfl) ?_
            refine va_get (D := D) (ci := 6) (v := .ref (ma 28)) (C := RX5) (T := TX5) (N := 29) hx hb hts in_X5_mayGoOn_X5 hown hK hP 2 rfl rfl 28 (by decide) w_0 (fun _ h9 => h9) rfl dX5_mayGoOn_32 ?_
            refine lv_iload_n hx hb dX5_mayGoOn_35 rfl (lv_at hl 0 rfl) ?_
            refine va_iald hx hb hK hP 3 0 rfl rfl (by unfold vp_in; decide) dX5_mayGoOn_36 ?_
            refine lv_topi (fun z_65 ez_65 => ?_)
            have fz_65 : z_65 = 0 := ez_65.trans (by rw [show (2 : Int32).toNatClampNeg = 2 by decide, haf 2 (by decide), hb2] <;> rfl)
            subst fz_65
            refine va_iald hx hb hK hP 4 0 rfl rfl (by unfold vp_in; decide) dX5_mayGoOn_37 ?_
            refine lv_topi (fun z_66 ez_66 => ?_)
            have fz_66 : z_66 = 0 := ez_66.trans (rfl)
            subst fz_66
            refine lv_aload_n hx hb dX5_mayGoOn_38 rfl (lv_at hl 3 rfl) ?_
            refine va_get (D := D) (ci := 6) (v := .ref (ma 2)) (C := RX5) (T := TX5) (N := 29) hx hb hts in_X5_mayGoOn_X5 hown hK hP 2 rfl rfl 2 (by decide) w_1 (fun _ h9 => h9) rfl dX5_mayGoOn_39 ?_
            refine lv_iload_n hx hb dX5_mayGoOn_42 rfl (lv_at hl 2 rfl) ?_
            refine va_iald hx hb hK hP 4 0 rfl rfl (by unfold vp_in; decide) dX5_mayGoOn_43 ?_
            refine lv_topi (fun z_67 ez_67 => ?_)
            have fz_67 : z_67 = 0 := ez_67.trans (rfl)
            subst fz_67
            refine lv_icmp_ne (tgt := 65) hx hb dX5_mayGoOn_44 (by decide) (fun hc => absurd (by decide) hc) (fun _ => ?_)
            refine lv_iload_n hx hb dX5_mayGoOn_47 rfl (lv_at hl 1 rfl) ?_
            refine lv_iload_n hx hb dX5_mayGoOn_48 rfl (lv_at hl 0 rfl) ?_
            refine lv_aload_n hx hb dX5_mayGoOn_49 rfl (lv_at hl 3 rfl) ?_
            refine va_get (D := D) (ci := 6) (v := .ref (ma 7)) (C := RX5) (T := TX5) (N := 29) hx hb hts in_X5_mayGoOn_X5 hown hK hP 2 rfl rfl 7 (by decide) w_2 (fun _ h9 => h9) rfl dX5_mayGoOn_50 ?_
            refine lv_iload_n hx hb dX5_mayGoOn_53 rfl (lv_at hl 2 rfl) ?_
            refine va_iald hx hb hK hP 0 0 rfl rfl (by unfold vp_in; decide) dX5_mayGoOn_54 ?_
            refine lv_topi (fun z_68 ez_68 => ?_)
            have fz_68 : z_68 = 0 := ez_68.trans (rfl)
            subst fz_68
            refine lv_icmp_ne (tgt := 62) hx hb dX5_mayGoOn_55 (by decide) (fun _ => ?_) (fun hc => absurd hc (by decide))
            refine lv_iconst (v := 2) hx hb dX5_mayGoOn_62 (by decide) ?_
            refine lv_iadd hx hb dX5_mayGoOn_63 ?_
            refine lv_topi (fun z_69 ez_69 => ?_)
            have fz_69 : z_69 = 2 := ez_69.trans (by decide)
            subst fz_69
            refine lv_istore_n (lv' := [(2, .int 2), (3, .int 2), (1, .int 0), (0, .ref mo)]) hx hb dX5_mayGoOn_64 rfl hl (by decide) rfl (fun ls hl => ?_)
            refine lv_iinc (v := 3) (lv' := [(3, .int 3), (2, .int 2), (1, .int 0), (0, .ref mo)]) hx hb dX5_mayGoOn_65 hl (k := 1) rfl (by decide) (by decide) rfl (fun ls hl => ?_)
            refine lv_goto (tgt := 9) hx hb dX5_mayGoOn_68 (by decide) ?_
            refine lv_iload_n hx hb dX5_mayGoOn_9 rfl (lv_at hl 0 rfl) ?_
            refine lv_iconst (v := 5) hx hb dX5_mayGoOn_10 (by decide) ?_
            refine lv_icmp_ge (tgt := 71) hx hb dX5_mayGoOn_11 (by decide) (fun hc => absurd hc (by decide)) (fun _ => ?_)
            refine lv_iload_n hx hb dX5_mayGoOn_14 rfl (lv_at hl 2 rfl) ?_
            refine lv_if_lt (tgt := 71) hx hb dX5_mayGoOn_15 (by decide) (fun hc => absurd hc (by decide)) (fun _ => ?_)
            refine lv_aload_n hx hb dX5_mayGoOn_18 rfl (lv_at hl 3 rfl) ?_
            refine va_get (D := D) (ci := 6) (v := .ref (ma 28)) (C := RX5) (T := TX5) (N := 29) hx hb hts in_X5_mayGoOn_X5 hown hK hP 2 rfl rfl 28 (by decide) w_0 (fun _ h9 => h9) rfl dX5_mayGoOn_19 ?_
            refine lv_iload_n hx hb dX5_mayGoOn_22 rfl (lv_at hl 0 rfl) ?_
            refine va_iald hx hb hK hP 3 0 rfl rfl (by unfold vp_in; decide) dX5_mayGoOn_23 ?_
            refine lv_topi (fun z_70 ez_70 => ?_)
            have fz_70 : z_70 = (-1) := ez_70.trans (by rw [show (3 : Int32).toNatClampNeg = 3 by decide, haf 3 (by decide), hb3] <;> rfl)
            subst fz_70
            refine lv_if_lt (tgt := 65) hx hb dX5_mayGoOn_24 (by decide) (fun _ => ?_) (fun hc => absurd (by decide) hc)
            refine lv_iinc (v := 4) (lv' := [(3, .int 4), (2, .int 2), (1, .int 0), (0, .ref mo)]) hx hb dX5_mayGoOn_65 hl (k := 0) rfl (by decide) (by decide) rfl (fun ls hl => ?_)
            refine lv_goto (tgt := 9) hx hb dX5_mayGoOn_68 (by decide) ?_
            refine lv_iload_n hx hb dX5_mayGoOn_9 rfl (lv_at hl 0 rfl) ?_
            refine lv_iconst (v := 5) hx hb dX5_mayGoOn_10 (by decide) ?_
            refine lv_icmp_ge (tgt := 71) hx hb dX5_mayGoOn_11 (by decide) (fun hc => absurd hc (by decide)) (fun _ => ?_)
            refine lv_iload_n hx hb dX5_mayGoOn_14 rfl (lv_at hl 2 rfl) ?_
            refine lv_if_lt (tgt := 71) hx hb dX5_mayGoOn_15 (by decide) (fun hc => absurd hc (by decide)) (fun _ => ?_)
            refine lv_aload_n hx hb dX5_mayGoOn_18 rfl (lv_at hl 3 rfl) ?_
            refine va_get (D := D) (ci := 6) (v := .ref (ma 28)) (C := RX5) (T := TX5) (N := 29) hx hb hts in_X5_mayGoOn_X5 hown hK hP 2 rfl rfl 28 (by decide) w_0 (fun _ h9 => h9) rfl dX5_mayGoOn_19 ?_
            refine lv_iload_n hx hb dX5_mayGoOn_22 rfl (lv_at hl 0 rfl) ?_
            refine va_iald hx hb hK hP 3 0 rfl rfl (by unfold vp_in; decide) dX5_mayGoOn_23 ?_
            refine lv_topi (fun z_71 ez_71 => ?_)
            have fz_71 : z_71 = 0 := ez_71.trans (by rw [show (4 : Int32).toNatClampNeg = 4 by decide, haf 4 (by decide), hb4] <;> rfl)
            subst fz_71
            refine lv_if_lt (tgt := 65) hx hb dX5_mayGoOn_24 (by decide) (fun hc => absurd hc (by decide)) (fun _ => ?_)
            refine lv_aload_n hx hb dX5_mayGoOn_27 rfl (lv_at hl 3 rfl) ?_
            refine va_get (D := D) (ci := 6) (v := .ref (ma 2)) (C := RX5) (T := TX5) (N := 29) hx hb hts in_X5_mayGoOn_X5 hown hK hP 2 rfl rfl 2 (by decide) w_1 (fun _ h9 => h9) rfl dX5_mayGoOn_28 ?_
            refine lv_aload_n hx hb dX5_mayGoOn_31 rfl (lv_at hl 3 rfl) ?_
            refine va_get (D := D) (ci := 6) (v := .ref (ma 28)) (C := RX5) (T := TX5) (N := 29) hx hb hts in_X5_mayGoOn_X5 hown hK hP 2 rfl rfl 28 (by decide) w_0 (fun _ h9 => h9) rfl dX5_mayGoOn_32 ?_
            refine lv_iload_n hx hb dX5_mayGoOn_35 rfl (lv_at hl 0 rfl) ?_
            refine va_iald hx hb hK hP 3 0 rfl rfl (by unfold vp_in; decide) dX5_mayGoOn_36 ?_
            refine lv_topi (fun z_72 ez_72 => ?_)
            have fz_72 : z_72 = 0 := ez_72.trans (by rw [show (4 : Int32).toNatClampNeg = 4 by decide, haf 4 (by decide), hb4] <;> rfl)
            subst fz_72
            refine va_iald hx hb hK hP 4 0 rfl rfl (by unfold vp_in; decide) dX5_mayGoOn_37 ?_
            refine lv_topi (fun z_73 ez_73 => ?_)
            have fz_73 : z_73 = 0 := ez_73.trans (rfl)
            subst fz_73
            refine lv_aload_n hx hb dX5_mayGoOn_38 rfl (lv_at hl 3 rfl) ?_
            refine va_get (D := D) (ci := 6) (v := .ref (ma 2)) (C := RX5) (T := TX5) (N := 29) hx hb hts in_X5_mayGoOn_X5 hown hK hP 2 rfl rfl 2 (by decide) w_1 (fun _ h9 => h9) rfl dX5_mayGoOn_39 ?_
            refine lv_iload_n hx hb dX5_mayGoOn_42 rfl (lv_at hl 2 rfl) ?_
            refine va_iald hx hb hK hP 4 0 rfl rfl (by unfold vp_in; decide) dX5_mayGoOn_43 ?_
            refine lv_topi (fun z_74 ez_74 => ?_)
            have fz_74 : z_74 = 0 := ez_74.trans (rfl)
            subst fz_74
            refine lv_icmp_ne (tgt := 65) hx hb dX5_mayGoOn_44 (by decide) (fun hc => absurd (by decide) hc) (fun _ => ?_)
            refine lv_iload_n hx hb dX5_mayGoOn_47 rfl (lv_at hl 1 rfl) ?_
            refine lv_iload_n hx hb dX5_mayGoOn_48 rfl (lv_at hl 0 rfl) ?_
            refine lv_aload_n hx hb dX5_mayGoOn_49 rfl (lv_at hl 3 rfl) ?_
            refine va_get (D := D) (ci := 6) (v := .ref (ma 7)) (C := RX5) (T := TX5) (N := 29) hx hb hts in_X5_mayGoOn_X5 hown hK hP 2 rfl rfl 7 (by decide) w_2 (fun _ h9 => h9) rfl dX5_mayGoOn_50 ?_
            refine lv_iload_n hx hb dX5_mayGoOn_53 rfl (lv_at hl 2 rfl) ?_
            refine va_iald hx hb hK hP 0 0 rfl rfl (by unfold vp_in; decide) dX5_mayGoOn_54 ?_
            refine lv_topi (fun z_75 ez_75 => ?_)
            have fz_75 : z_75 = 0 := ez_75.trans (rfl)
            subst fz_75
            refine lv_icmp_ne (tgt := 62) hx hb dX5_mayGoOn_55 (by decide) (fun _ => ?_) (fun hc => absurd hc (by decide))
            refine lv_iconst (v := 2) hx hb dX5_mayGoOn_62 (by decide) ?_
            refine lv_iadd hx hb dX5_mayGoOn_63 ?_
            refine lv_topi (fun z_76 ez_76 => ?_)
            have fz_76 : z_76 = 4 := ez_76.trans (by decide)
            subst fz_76
            refine lv_istore_n (lv' := [(2, .int 4), (3, .int 4), (1, .int 0), (0, .ref mo)]) hx hb dX5_mayGoOn_64 rfl hl (by decide) rfl (fun ls hl => ?_)
            refine lv_iinc (v := 5) (lv' := [(3, .int 5), (2, .int 4), (1, .int 0), (0, .ref mo)]) hx hb dX5_mayGoOn_65 hl (k := 1) rfl (by decide) (by decide) rfl (fun ls hl => ?_)
            refine lv_goto (tgt := 9) hx hb dX5_mayGoOn_68 (by decide) ?_
            refine lv_iload_n hx hb dX5_mayGoOn_9 rfl (lv_at hl 0 rfl) ?_
            refine lv_iconst (v := 5) hx hb dX5_mayGoOn_10 (by decide) ?_
            refine lv_icmp_ge (tgt := 71) hx hb dX5_mayGoOn_11 (by decide) (fun _ => ?_) (fun hc => absurd (by decide) hc)
            refine lv_iload_n hx hb dX5_mayGoOn_71 rfl (lv_at hl 2 rfl) ?_
            refine lv_if_lt (tgt := 89) hx hb dX5_mayGoOn_72 (by decide) (fun hc => absurd hc (by decide)) (fun _ => ?_)
            refine lv_iload_n hx hb dX5_mayGoOn_75 rfl (lv_at hl 1 rfl) ?_
            refine lv_aload_n hx hb dX5_mayGoOn_76 rfl (lv_at hl 3 rfl) ?_
            refine va_get (D := D) (ci := 6) (v := .ref (ma 6)) (C := RX5) (T := TX5) (N := 29) hx hb hts in_X5_mayGoOn_X5 hown hK hP 2 rfl rfl 6 (by decide) w_3 (fun _ h9 => h9) rfl dX5_mayGoOn_77 ?_
            refine lv_iload_n hx hb dX5_mayGoOn_80 rfl (lv_at hl 2 rfl) ?_
            refine va_iald hx hb hK hP 1 0 rfl rfl (by unfold vp_in; decide) dX5_mayGoOn_81 ?_
            refine lv_topi (fun z_77 ez_77 => ?_)
            have fz_77 : z_77 = 5 := ez_77.trans (hzf)
            subst fz_77
            refine lv_icmp_le (tgt := 89) hx hb dX5_mayGoOn_82 (by decide) (fun _ => ?_) (fun hc => absurd (by decide) hc)
            refine lv_iconst (v := 0) hx hb dX5_mayGoOn_89 (by decide) ?_
            have hP9 := hP.sub (ws' := [(mo, .inr (6, [.int th, .int 1, .ref (ma 2), .ref (ma 3), .ref (ma 4), .ref (ma 5), .ref (ma 6), .ref (ma 7), .ref (ma 8), .ref (ma 9), .ref (ma 10), .ref (ma 11), .ref (ma 12), .ref (ma 13), .ref (ma 14), .ref (ma 15), .ref (ma 16), .ref (ma 17), .ref (ma 18), .ref (ma 19), .ref (ma 20), .ref (ma 21), .int 0, .ref (ma 23), .ref (ma 24), .ref (ma 25), .ref (ma 26), .ref (ma 27), .ref (ma 28)])), ((ma 28), wI tC 5 af), ((ma 2), wI tC 600 (fun _ => 0)), ((ma 7), wI tC 600 (fun _ => 0)), ((ma 6), wI tC 600 zf)]) [2, 3, 4, 0, 1] rfl
            have hD9 := hD.sub (ws' := [(mo, .inr (6, [.int th, .int 1, .ref (ma 2), .ref (ma 3), .ref (ma 4), .ref (ma 5), .ref (ma 6), .ref (ma 7), .ref (ma 8), .ref (ma 9), .ref (ma 10), .ref (ma 11), .ref (ma 12), .ref (ma 13), .ref (ma 14), .ref (ma 15), .ref (ma 16), .ref (ma 17), .ref (ma 18), .ref (ma 19), .ref (ma 20), .ref (ma 21), .int 0, .ref (ma 23), .ref (ma 24), .ref (ma 25), .ref (ma 26), .ref (ma 27), .ref (ma 28)])), ((ma 28), wI tC 5 af), ((ma 2), wI tC 600 (fun _ => 0)), ((ma 7), wI tC 600 (fun _ => 0)), ((ma 6), wI tC 600 zf)]) [2, 3, 4, 0, 1] (by decide) rfl
            refine W.widen (k := 0) (n := 0) (by omega) (by omega) ?_
            exact W.zret (v := 0) hx hb hr (by decide) (fun t ht hW => ⟨⟨0, (), rfl, (by unfold mayg cntb; rw [hb0, hb1, hb2, hb3, hb4] <;> decide), (by rw [ht]; exact hP9), va_K.moved hW.alike hK, hD9⟩, hS.F ht⟩) hS.2.2 dX5_mayGoOn_90 hlocks
        · skip
          cases hb4 : bt 4
          · skip
            refine lv_aload_n hx hb dX5_mayGoOn_0 rfl (lv_at hl 0 rfl) ?_
            have hPc := hP.sub (ws' := [(mo, .inr (6, [.int th, .int 1, .ref (ma 2), .ref (ma 3), .ref (ma 4), .ref (ma 5), .ref (ma 6), .ref (ma 7), .ref (ma 8), .ref (ma 9), .ref (ma 10), .ref (ma 11), .ref (ma 12), .ref (ma 13), .ref (ma 14), .ref (ma 15), .ref (ma 16), .ref (ma 17), .ref (ma 18), .ref (ma 19), .ref (ma 20), .ref (ma 21), .int 0, .ref (ma 23), .ref (ma 24), .ref (ma 25), .ref (ma 26), .ref (ma 27), .ref (ma 28)])), ((ma 28), wI tC 5 af), ((ma 2), wI tC 600 (fun _ => 0))]) [0, 1, 2] rfl
            have hDc := hD.sub (ws' := [(mo, .inr (6, [.int th, .int 1, .ref (ma 2), .ref (ma 3), .ref (ma 4), .ref (ma 5), .ref (ma 6), .ref (ma 7), .ref (ma 8), .ref (ma 9), .ref (ma 10), .ref (ma 11), .ref (ma 12), .ref (ma 13), .ref (ma 14), .ref (ma 15), .ref (ma 16), .ref (ma 17), .ref (ma 18), .ref (ma 19), .ref (ma 20), .ref (ma 21), .int 0, .ref (ma 23), .ref (ma 24), .ref (ma 25), .ref (ma 26), .ref (ma 27), .ref (ma 28)])), ((ma 28), wI tC 5 af), ((ma 2), wI tC 600 (fun _ => 0))]) [0, 1, 2] (by decide) rfl
            have hFc := va_free (wc := [(mo, .inr (6, [.int th, .int 1, .ref (ma 2), .ref (ma 3), .ref (ma 4), .ref (ma 5), .ref (ma 6), .ref (ma 7), .ref (ma 8), .ref (ma 9), .ref (ma 10), .ref (ma 11), .ref (ma 12), .ref (ma 13), .ref (ma 14), .ref (ma 15), .ref (ma 16), .ref (ma 17), .ref (ma 18), .ref (ma 19), .ref (ma 20), .ref (ma 21), .int 0, .ref (ma 23), .ref (ma 24), .ref (ma 25), .ref (ma 26), .ref (ma 27), .ref (ma 28)])), ((ma 28), wI tC 5 af), ((ma 2), wI tC 600 (fun _ => 0))]) hD hS hA [0, 1, 2] rfl
            refine va_calli (va_runV (As := []) (rest := []) ⟨hx, hb, hml, hown, hts⟩ (c_X5_greatest l hlt D tC dz s.heap.size mo ma th af bt haf) (cwV 0 hts gX5_mayGoOn_X5_greatest rfl rfl rfl (by decide +kernel) ⟨Nat.le_of_ble_eq_true rfl, Nat.le_of_ble_eq_true rfl⟩) ⟨pB_blind, va_recv hK hPc (ci := 6) (q0 := 0) rfl rfl, pB_at hPc hDc hK hN hE hS hFc⟩ rfl rfl hl.1 rfl (lv_room (Nat.le_of_ble_eq_true rfl)) dX5_mayGoOn_1 ⟨Nat.le_of_ble_eq_true rfl, Nat.le_of_ble_eq_true rfl⟩) hS (fun q _ h => hFc q h) hFc (fun r_78 u t H1 locs ht hvm hw hB hz1 hk1 hS => ?_)
            obtain ⟨hP1, _, hD1⟩ := hB
            have hw_79 := hw
            rw [ht] at hP1
            obtain ⟨hP, hD⟩ := va_join (wr := [((ma 7), wI tC 600 (fun _ => 0)), ((ma 6), wI tC 600 zf)]) (w1 := [(mo, .inr (6, [.int th, .int 1, .ref (ma 2), .ref (ma 3), .ref (ma 4), .ref (ma 5), .ref (ma 6), .ref (ma 7), .ref (ma 8), .ref (ma 9), .ref (ma 10), .ref (ma 11), .ref (ma 12), .ref (ma 13), .ref (ma 14), .ref (ma 15), .ref (ma 16), .ref (ma 17), .ref (ma 18), .ref (ma 19), .ref (ma 20), .ref (ma 21), .int 0, .ref (ma 23), .ref (ma 24), .ref (ma 25), .ref (ma 26), .ref (ma 27), .ref (ma 28)])), ((ma 28), wI tC 5 af), ((ma 2), wI tC 600 (fun _ => 0))]) hP hD [0, 1, 2] [3, 4] rfl rfl (by decide) (by decide) hk1 hFc hP1 hD1
            generalize H1 = H at hP hS ⊢
            have hP : va_P D vwCl [((ma 7), wI tC 600 (fun _ => 0)), ((ma 6), wI tC 600 zf), (mo, .inr (6, [.int th, .int 1, .ref (ma 2), .ref (ma 3), .ref (ma 4), .ref (ma 5), .ref (ma 6), .ref (ma 7), .ref (ma 8), .ref (ma 9), .ref (ma 10), .ref (ma 11), .ref (ma 12), .ref (ma 13), .ref (ma 14), .ref (ma 15), .ref (ma 16), .ref (ma 17), .ref (ma 18), .ref (ma 19), .ref (ma 20), .ref (ma 21), .int 0, .ref (ma 23), .ref (ma 24), .ref (ma 25), .ref (ma 26), .ref (ma 27), .ref (ma 28)])), ((ma 28), wI tC 5 af), ((ma 2), wI tC 600 (fun _ => 0))] H := hP
            have hD : va_D A [((ma 7), wI tC 600 (fun _ => 0)), ((ma 6), wI tC 600 zf), (mo, .inr (6, [.int th, .int 1, .ref (ma 2), .ref (ma 3), .ref (ma 4), .ref (ma 5), .ref (ma 6), .ref (ma 7), .ref (ma 8), .ref (ma 9), .ref (ma 10), .ref (ma 11), .ref (ma 12), .ref (ma 13), .ref (ma 14), .ref (ma 15), .ref (ma 16), .ref (ma 17), .ref (ma 18), .ref (ma 19), .ref (ma 20), .ref (ma 21), .int 0, .ref (ma 23), .ref (ma 24), .ref (ma 25), .ref (ma 26), .ref (ma 27), .ref (ma 28)])), ((ma 28), wI tC 5 af), ((ma 2), wI tC 600 (fun _ => 0))] := hD
            have q1 : r_78 = 0 := hw_79.trans (by rw [hb0, hb1, hb2, hb3, hb4] <;> rfl)
            subst q1
            refine lv_istore_n (lv' := [(1, .int 0), (0, .ref mo)]) hx hb dX5_mayGoOn_4 rfl hl (by decide) rfl (fun ls hl => ?_)
            refine lv_iconst (v := 0) hx hb dX5_mayGoOn_5 (by decide) ?_
            refine lv_istore_n (lv' := [(2, .int 0), (1, .int 0), (0, .ref mo)]) hx hb dX5_mayGoOn_6 rfl hl (by decide) rfl (fun ls hl => ?_)
            refine lv_iconst (v := 0) hx hb dX5_mayGoOn_7 (by decide) ?_
            refine lv_istore_n (lv' := [(3, .int 0), (2, .int 0), (1, .int 0), (0, .ref mo)]) hx hb dX5_mayGoOn_8 rfl hl (by decide) rfl (fun ls hl => ?_)
            refine lv_iload_n hx hb dX5_mayGoOn_9 rfl (lv_at hl 0 rfl) ?_
            refine lv_iconst (v := 5) hx hb dX5_mayGoOn_10 (by decide) ?_
            refine lv_icmp_ge (tgt := 71) hx hb dX5_mayGoOn_11 (by decide) (fun hc => absurd hc (by decide)) (fun _ => ?_)
            refine lv_iload_n hx hb dX5_mayGoOn_14 rfl (lv_at hl 2 rfl) ?_
            refine lv_if_lt (tgt := 71) hx hb dX5_mayGoOn_15 (by decide) (fun hc => absurd hc (by decide)) (fun _ => ?_)
            refine lv_aload_n hx hb dX5_mayGoOn_18 rfl (lv_at hl 3 rfl) ?_
            refine va_get (D := D) (ci := 6) (v := .ref (ma 28)) (C := RX5) (T := TX5) (N := 29) hx hb hts in_X5_mayGoOn_X5 hown hK hP 2 rfl rfl 28 (by decide) w_0 (fun _ h9 => h9) rfl dX5_mayGoOn_19 ?_
            refine lv_iload_n hx hb dX5_mayGoOn_22 rfl (lv_at hl 0 rfl) ?_
            refine va_iald hx hb hK hP 3 0 rfl rfl (by unfold vp_in; decide) dX5_mayGoOn_23 ?_
            refine lv_topi (fun z_80 ez_80 => ?_)
            have fz_80 : z_80 = (-1) := ez_80.trans (by rw [show (0 : Int32).toNatClampNeg = 0 by decide, haf 0 (by decide), hb0] <;> rfl)
            subst fz_80
            refine lv_if_lt (tgt := 65) hx hb dX5_mayGoOn_24 (by decide) (fun _ => ?_) (fun hc => absurd (by decide) hc)
            refine lv_iinc (v := 1) (lv' := [(3, .int 1), (2, .int 0), (1, .int 0), (0, .ref mo)]) hx hb dX5_mayGoOn_65 hl (k := 0) rfl (by decide) (by decide) rfl (fun ls hl => ?_)
            refine lv_goto (tgt := 9) hx hb dX5_mayGoOn_68 (by decide) ?_
            refine lv_iload_n hx hb dX5_mayGoOn_9 rfl (lv_at hl 0 rfl) ?_
            refine lv_iconst (v := 5) hx hb dX5_mayGoOn_10 (by decide) ?_
            refine lv_icmp_ge (tgt := 71) hx hb dX5_mayGoOn_11 (by decide) (fun hc => absurd hc (by decide)) (fun _ => ?_)
            refine lv_iload_n hx hb dX5_mayGoOn_14 rfl (lv_at hl 2 rfl) ?_
            refine lv_if_lt (tgt := 71) hx hb dX5_mayGoOn_15 (by decide) (fun hc => absurd hc (by decide)) (fun _ => ?_)
            refine lv_aload_n hx hb dX5_mayGoOn_18 rfl (lv_at hl 3 rfl) ?_
            refine va_get (D := D) (ci := 6) (v := .ref (ma 28)) (C := RX5) (T := TX5) (N := 29) hx hb hts in_X5_mayGoOn_X5 hown hK hP 2 rfl rfl 28 (by decide) w_0 (fun _ h9 => h9) rfl dX5_mayGoOn_19 ?_
            refine lv_iload_n hx hb dX5_mayGoOn_22 rfl (lv_at hl 0 rfl) ?_
            refine va_iald hx hb hK hP 3 0 rfl rfl (by unfold vp_in; decide) dX5_mayGoOn_23 ?_
            refine lv_topi (fun z_81 ez_81 => ?_)
            have fz_81 : z_81 = (-1) := ez_81.trans (by rw [show (1 : Int32).toNatClampNeg = 1 by decide, haf 1 (by decide), hb1] <;> rfl)
            subst fz_81
            refine lv_if_lt (tgt := 65) hx hb dX5_mayGoOn_24 (by decide) (fun _ => ?_) (fun hc => absurd (by decide) hc)
            refine lv_iinc (v := 2) (lv' := [(3, .int 2), (2, .int 0), (1, .int 0), (0, .ref mo)]) hx hb dX5_mayGoOn_65 hl (k := 0) rfl (by decide) (by decide) rfl (fun ls hl => ?_)
            refine lv_goto (tgt := 9) hx hb dX5_mayGoOn_68 (by decide) ?_
            refine lv_iload_n hx hb dX5_mayGoOn_9 rfl (lv_at hl 0 rfl) ?_
            refine lv_iconst (v := 5) hx hb dX5_mayGoOn_10 (by decide) ?_
            refine lv_icmp_ge (tgt := 71) hx hb dX5_mayGoOn_11 (by decide) (fun hc => absurd hc (by decide)) (fun _ => ?_)
            refine lv_iload_n hx hb dX5_mayGoOn_14 rfl (lv_at hl 2 rfl) ?_
            refine lv_if_lt (tgt := 71) hx hb dX5_mayGoOn_15 (by decide) (fun hc => absurd hc (by decide)) (fun _ => ?_)
            refine lv_aload_n hx hb dX5_mayGoOn_18 rfl (lv_at hl 3 rfl) ?_
            refine va_get (D := D) (ci := 6) (v := .ref (ma 28)) (C := RX5) (T := TX5) (N := 29) hx hb hts in_X5_mayGoOn_X5 hown hK hP 2 rfl rfl 28 (by decide) w_0 (fun _ h9 => h9) rfl dX5_mayGoOn_19 ?_
            refine lv_iload_n hx hb dX5_mayGoOn_22 rfl (lv_at hl 0 rfl) ?_
            refine va_iald hx hb hK hP 3 0 rfl rfl (by unfold vp_in; decide) dX5_mayGoOn_23 ?_
            refine lv_topi (fun z_82 ez_82 => ?_)
            have fz_82 : z_82 = 0 := ez_82.trans (by rw [show (2 : Int32).toNatClampNeg = 2 by decide, haf 2 (by decide), hb2] <;> rfl)
            subst fz_82
            refine lv_if_lt (tgt := 65) hx hb dX5_mayGoOn_24 (by decide) (fun hc => absurd hc (by decide)) (fun _ => ?_)
            refine lv_aload_n hx hb dX5_mayGoOn_27 rfl (lv_at hl 3 rfl) ?_
            refine va_get (D := D) (ci := 6) (v := .ref (ma 2)) (C := RX5) (T := TX5) (N := 29) hx hb hts in_X5_mayGoOn_X5 hown hK hP 2 rfl rfl 2 (by decide) w_1 (fun _ h9 => h9) rfl dX5_mayGoOn_28 ?_
            refine lv_aload_n hx hb dX5_mayGoOn_31 rfl (lv_at hl 3 rfl) ?_
            refine va_get (D := D) (ci := 6) (v := .ref (ma 28)) (C := RX5) (T := TX5) (N := 29) hx hb hts in_X5_mayGoOn_X5 hown hK hP 2 rfl rfl 28 (by decide) w_0 (fun _ h9 => h9) rfl dX5_mayGoOn_32 ?_
            refine lv_iload_n hx hb dX5_mayGoOn_35 rfl (lv_at hl 0 rfl) ?_
            refine va_iald hx hb hK hP 3 0 rfl rfl (by unfold vp_in; decide) dX5_mayGoOn_36 ?_
            refine lv_topi (fun z_83 ez_83 => ?_)
            have fz_83 : z_83 = 0 := ez_83.trans (by rw [show (2 : Int32).toNatClampNeg = 2 by decide, haf 2 (by decide), hb2] <;> rfl)
            subst fz_83
            refine va_iald hx hb hK hP 4 0 rfl rfl (by unfold vp_in; decide) dX5_mayGoOn_37 ?_
            refine lv_topi (fun z_84 ez_84 => ?_)
            have fz_84 : z_84 = 0 := ez_84.trans (rfl)
            subst fz_84
            refine lv_aload_n hx hb dX5_mayGoOn_38 rfl (lv_at hl 3 rfl) ?_
            refine va_get (D := D) (ci := 6) (v := .ref (ma 2)) (C := RX5) (T := TX5) (N := 29) hx hb hts in_X5_mayGoOn_X5 hown hK hP 2 rfl rfl 2 (by decide) w_1 (fun _ h9 => h9) rfl dX5_mayGoOn_39 ?_
            refine lv_iload_n hx hb dX5_mayGoOn_42 rfl (lv_at hl 2 rfl) ?_
            refine va_iald hx hb hK hP 4 0 rfl rfl (by unfold vp_in; decide) dX5_mayGoOn_43 ?_
            refine lv_topi (fun z_85 ez_85 => ?_)
            have fz_85 : z_85 = 0 := ez_85.trans (rfl)
            subst fz_85
            refine lv_icmp_ne (tgt := 65) hx hb dX5_mayGoOn_44 (by decide) (fun hc => absurd (by decide) hc) (fun _ => ?_)
            refine lv_iload_n hx hb dX5_mayGoOn_47 rfl (lv_at hl 1 rfl) ?_
            refine lv_iload_n hx hb dX5_mayGoOn_48 rfl (lv_at hl 0 rfl) ?_
            refine lv_aload_n hx hb dX5_mayGoOn_49 rfl (lv_at hl 3 rfl) ?_
            refine va_get (D := D) (ci := 6) (v := .ref (ma 7)) (C := RX5) (T := TX5) (N := 29) hx hb hts in_X5_mayGoOn_X5 hown hK hP 2 rfl rfl 7 (by decide) w_2 (fun _ h9 => h9) rfl dX5_mayGoOn_50 ?_
            refine lv_iload_n hx hb dX5_mayGoOn_53 rfl (lv_at hl 2 rfl) ?_
            refine va_iald hx hb hK hP 0 0 rfl rfl (by unfold vp_in; decide) dX5_mayGoOn_54 ?_
            refine lv_topi (fun z_86 ez_86 => ?_)
            have fz_86 : z_86 = 0 := ez_86.trans (rfl)
            subst fz_86
            refine lv_icmp_ne (tgt := 62) hx hb dX5_mayGoOn_55 (by decide) (fun _ => ?_) (fun hc => absurd hc (by decide))
            refine lv_iconst (v := 2) hx hb dX5_mayGoOn_62 (by decide) ?_
            refine lv_iadd hx hb dX5_mayGoOn_63 ?_
            refine lv_topi (fun z_87 ez_87 => ?_)
            have fz_87 : z_87 = 2 := ez_87.trans (by decide)
            subst fz_87
            refine lv_istore_n (lv' := [(2, .int 2), (3, .int 2), (1, .int 0), (0, .ref mo)]) hx hb dX5_mayGoOn_64 rfl hl (by decide) rfl (fun ls hl => ?_)
            refine lv_iinc (v := 3) (lv' := [(3, .int 3), (2, .int 2), (1, .int 0), (0, .ref mo)]) hx hb dX5_mayGoOn_65 hl (k := 1) rfl (by decide) (by decide) rfl (fun ls hl => ?_)
            refine lv_goto (tgt := 9) hx hb dX5_mayGoOn_68 (by decide) ?_
            refine lv_iload_n hx hb dX5_mayGoOn_9 rfl (lv_at hl 0 rfl) ?_
            refine lv_iconst (v := 5) hx hb dX5_mayGoOn_10 (by decide) ?_
            refine lv_icmp_ge (tgt := 71) hx hb dX5_mayGoOn_11 (by decide) (fun hc => absurd hc (by decide)) (fun _ => ?_)
            refine lv_iload_n hx hb dX5_mayGoOn_14 rfl (lv_at hl 2 rfl) ?_
            refine lv_if_lt (tgt := 71) hx hb dX5_mayGoOn_15 (by decide) (fun hc => absurd hc (by decide)) (fun _ => ?_)
            refine lv_aload_n hx hb dX5_mayGoOn_18 rfl (lv_at hl 3 rfl) ?_
            refine va_get (D := D) (ci := 6) (v := .ref (ma 28)) (C := RX5) (T := TX5) (N := 29) hx hb hts in_X5_mayGoOn_X5 hown hK hP 2 rfl rfl 28 (by decide) w_0 (fun _ h9 => h9) rfl dX5_mayGoOn_19 ?_
            refine lv_iload_n hx hb dX5_mayGoOn_22 rfl (lv_at hl 0 rfl) ?_
            refine va_iald hx hb hK hP 3 0 rfl rfl (by unfold vp_in; decide) dX5_mayGoOn_23 ?_
            refine lv_topi (fun z_88 ez_88 => ?_)
            have fz_88 : z_88 = 0 := ez_88.trans (by rw [show (3 : Int32).toNatClampNeg = 3 by decide, haf 3 (by decide), hb3] <;> rfl)
            subst fz_88
            refine lv_if_lt (tgt := 65) hx hb dX5_mayGoOn_24 (by decide) (fun hc => absurd hc (by decide)) (fun _ => ?_)
            refine lv_aload_n hx hb dX5_mayGoOn_27 rfl (lv_at hl 3 rfl) ?_
            refine va_get (D := D) (ci := 6) (v := .ref (ma 2)) (C := RX5) (T := TX5) (N := 29) hx hb hts in_X5_mayGoOn_X5 hown hK hP 2 rfl rfl 2 (by decide) w_1 (fun _ h9 => h9) rfl dX5_mayGoOn_28 ?_
            refine lv_aload_n hx hb dX5_mayGoOn_31 rfl (lv_at hl 3 rfl) ?_
            refine va_get (D := D) (ci := 6) (v := .ref (ma 28)) (C := RX5) (T := TX5) (N := 29) hx hb hts in_X5_mayGoOn_X5 hown hK hP 2 rfl rfl 28 (by decide) w_0 (fun _ h9 => h9) rfl dX5_mayGoOn_32 ?_
            refine lv_iload_n hx hb dX5_mayGoOn_35 rfl (lv_at hl 0 rfl) ?_
            refine va_iald hx hb hK hP 3 0 rfl rfl (by unfold vp_in; decide) dX5_mayGoOn_36 ?_
            refine lv_topi (fun z_89 ez_89 => ?_)
            have fz_89 : z_89 = 0 := ez_89.trans (by rw [show (3 : Int32).toNatClampNeg = 3 by decide, haf 3 (by decide), hb3] <;> rfl)
            subst fz_89
            refine va_iald hx hb hK hP 4 0 rfl rfl (by unfold vp_in; decide) dX5_mayGoOn_37 ?_
            refine lv_topi (fun z_90 ez_90 => ?_)
            have fz_90 : z_90 = 0 := ez_90.trans (rfl)
            subst fz_90
            refine lv_aload_n hx hb dX5_mayGoOn_38 rfl (lv_at hl 3 rfl) ?_
            refine va_get (D := D) (ci := 6) (v := .ref (ma 2)) (C := RX5) (T := TX5) (N := 29) hx hb hts in_X5_mayGoOn_X5 hown hK hP 2 rfl rfl 2 (by decide) w_1 (fun _ h9 => h9) rfl dX5_mayGoOn_39 ?_
            refine lv_iload_n hx hb dX5_mayGoOn_42 rfl (lv_at hl 2 rfl) ?_
            refine va_iald hx hb hK hP 4 0 rfl rfl (by unfold vp_in; decide) dX5_mayGoOn_43 ?_
            refine lv_topi (fun z_91 ez_91 => ?_)
            have fz_91 : z_91 = 0 := ez_91.trans (rfl)
            subst fz_91
            refine lv_icmp_ne (tgt := 65) hx hb dX5_mayGoOn_44 (by decide) (fun hc => absurd (by decide) hc) (fun _ => ?_)
            refine lv_iload_n hx hb dX5_mayGoOn_47 rfl (lv_at hl 1 rfl) ?_
            refine lv_iload_n hx hb dX5_mayGoOn_48 rfl (lv_at hl 0 rfl) ?_
            refine lv_aload_n hx hb dX5_mayGoOn_49 rfl (lv_at hl 3 rfl) ?_
            refine va_get (D := D) (ci := 6) (v := .ref (ma 7)) (C := RX5) (T := TX5) (N := 29) hx hb hts in_X5_mayGoOn_X5 hown hK hP 2 rfl rfl 7 (by decide) w_2 (fun _ h9 => h9) rfl dX5_mayGoOn_50 ?_
            refine lv_iload_n hx hb dX5_mayGoOn_53 rfl (lv_at hl 2 rfl) ?_
            refine va_iald hx hb hK hP 0 0 rfl rfl (by unfold vp_in; decide) dX5_mayGoOn_54 ?_
            refine lv_topi (fun z_92 ez_92 => ?_)
            have fz_92 : z_92 = 0 := ez_92.trans (rfl)
            subst fz_92
            refine lv_icmp_ne (tgt := 62) hx hb dX5_mayGoOn_55 (by decide) (fun _ => ?_) (fun hc => absurd hc (by decide))
            refine lv_iconst (v := 2) hx hb dX5_mayGoOn_62 (by decide) ?_
            refine lv_iadd hx hb dX5_mayGoOn_63 ?_
            refine lv_topi (fun z_93 ez_93 => ?_)
            have fz_93 : z_93 = 4 := ez_93.trans (by decide)
            subst fz_93
            refine lv_istore_n (lv' := [(2, .int 4), (3, .int 3), (1, .int 0), (0, .ref mo)]) hx hb dX5_mayGoOn_64 rfl hl (by decide) rfl (fun ls hl => ?_)
            refine lv_iinc (v := 4) (lv' := [(3, .int 4), (2, .int 4), (1, .int 0), (0, .ref mo)]) hx hb dX5_mayGoOn_65 hl (k := 1) rfl (by decide) (by decide) rfl (fun ls hl => ?_)
            refine lv_goto (tgt := 9) hx hb dX5_mayGoOn_68 (by decide) ?_
            refine lv_iload_n hx hb dX5_mayGoOn_9 rfl (lv_at hl 0 rfl) ?_
            refine lv_iconst (v := 5) hx hb dX5_mayGoOn_10 (by decide) ?_
            refine lv_icmp_ge (tgt := 71) hx hb dX5_mayGoOn_11 (by decide) (fun hc => absurd hc (by decide)) (fun _ => ?_)
            refine lv_iload_n hx hb dX5_mayGoOn_14 rfl (lv_at hl 2 rfl) ?_
            refine lv_if_lt (tgt := 71) hx hb dX5_mayGoOn_15 (by decide) (fun hc => absurd hc (by decide)) (fun _ => ?_)
            refine lv_aload_n hx hb dX5_mayGoOn_18 rfl (lv_at hl 3 rfl) ?_
            refine va_get (D := D) (ci := 6) (v := .ref (ma 28)) (C := RX5) (T := TX5) (N := 29) hx hb hts in_X5_mayGoOn_X5 hown hK hP 2 rfl rfl 28 (by decide) w_0 (fun _ h9 => h9) rfl dX5_mayGoOn_19 ?_
            refine lv_iload_n hx hb dX5_mayGoOn_22 rfl (lv_at hl 0 rfl) ?_
            refine va_iald hx hb hK hP 3 0 rfl rfl (by unfold vp_in; decide) dX5_mayGoOn_23 ?_
            refine lv_topi (fun z_94 ez_94 => ?_)
            have fz_94 : z_94 = (-1) := ez_94.trans (by rw [show (4 : Int32).toNatClampNeg = 4 by decide, haf 4 (by decide), hb4] <;> rfl)
            subst fz_94
            refine lv_if_lt (tgt := 65) hx hb dX5_mayGoOn_24 (by decide) (fun _ => ?_) (fun hc => absurd (by decide) hc)
            refine lv_iinc (v := 5) (lv' := [(3, .int 5), (2, .int 4), (1, .int 0), (0, .ref mo)]) hx hb dX5_mayGoOn_65 hl (k := 0) rfl (by decide) (by decide) rfl (fun ls hl => ?_)
            refine lv_goto (tgt := 9) hx hb dX5_mayGoOn_68 (by decide) ?_
            refine lv_iload_n hx hb dX5_mayGoOn_9 rfl (lv_at hl 0 rfl) ?_
            refine lv_iconst (v := 5) hx hb dX5_mayGoOn_10 (by decide) ?_
            refine lv_icmp_ge (tgt := 71) hx hb dX5_mayGoOn_11 (by decide) (fun _ => ?_) (fun hc => absurd (by decide) hc)
            refine lv_iload_n hx hb dX5_mayGoOn_71 rfl (lv_at hl 2 rfl) ?_
            refine lv_if_lt (tgt := 89) hx hb dX5_mayGoOn_72 (by decide) (fun hc => absurd hc (by decide)) (fun _ => ?_)
            refine lv_iload_n hx hb dX5_mayGoOn_75 rfl (lv_at hl 1 rfl) ?_
            refine lv_aload_n hx hb dX5_mayGoOn_76 rfl (lv_at hl 3 rfl) ?_
            refine va_get (D := D) (ci := 6) (v := .ref (ma 6)) (C := RX5) (T := TX5) (N := 29) hx hb hts in_X5_mayGoOn_X5 hown hK hP 2 rfl rfl 6 (by decide) w_3 (fun _ h9 => h9) rfl dX5_mayGoOn_77 ?_
            refine lv_iload_n hx hb dX5_mayGoOn_80 rfl (lv_at hl 2 rfl) ?_
            refine va_iald hx hb hK hP 1 0 rfl rfl (by unfold vp_in; decide) dX5_mayGoOn_81 ?_
            refine lv_topi (fun z_95 ez_95 => ?_)
            have fz_95 : z_95 = 5 := ez_95.trans (hzf)
            subst fz_95
            refine lv_icmp_le (tgt := 89) hx hb dX5_mayGoOn_82 (by decide) (fun _ => ?_) (fun hc => absurd (by decide) hc)
            refine lv_iconst (v := 0) hx hb dX5_mayGoOn_89 (by decide) ?_
            have hP9 := hP.sub (ws' := [(mo, .inr (6, [.int th, .int 1, .ref (ma 2), .ref (ma 3), .ref (ma 4), .ref (ma 5), .ref (ma 6), .ref (ma 7), .ref (ma 8), .ref (ma 9), .ref (ma 10), .ref (ma 11), .ref (ma 12), .ref (ma 13), .ref (ma 14), .ref (ma 15), .ref (ma 16), .ref (ma 17), .ref (ma 18), .ref (ma 19), .ref (ma 20), .ref (ma 21), .int 0, .ref (ma 23), .ref (ma 24), .ref (ma 25), .ref (ma 26), .ref (ma 27), .ref (ma 28)])), ((ma 28), wI tC 5 af), ((ma 2), wI tC 600 (fun _ => 0)), ((ma 7), wI tC 600 (fun _ => 0)), ((ma 6), wI tC 600 zf)]) [2, 3, 4, 0, 1] rfl
            have hD9 := hD.sub (ws' := [(mo, .inr (6, [.int th, .int 1, .ref (ma 2), .ref (ma 3), .ref (ma 4), .ref (ma 5), .ref (ma 6), .ref (ma 7), .ref (ma 8), .ref (ma 9), .ref (ma 10), .ref (ma 11), .ref (ma 12), .ref (ma 13), .ref (ma 14), .ref (ma 15), .ref (ma 16), .ref (ma 17), .ref (ma 18), .ref (ma 19), .ref (ma 20), .ref (ma 21), .int 0, .ref (ma 23), .ref (ma 24), .ref (ma 25), .ref (ma 26), .ref (ma 27), .ref (ma 28)])), ((ma 28), wI tC 5 af), ((ma 2), wI tC 600 (fun _ => 0)), ((ma 7), wI tC 600 (fun _ => 0)), ((ma 6), wI tC 600 zf)]) [2, 3, 4, 0, 1] (by decide) rfl
            refine W.widen (k := 0) (n := 0) (by omega) (by omega) ?_
            exact W.zret (v := 0) hx hb hr (by decide) (fun t ht hW => ⟨⟨0, (), rfl, (by unfold mayg cntb; rw [hb0, hb1, hb2, hb3, hb4] <;> decide), (by rw [ht]; exact hP9), va_K.moved hW.alike hK, hD9⟩, hS.F ht⟩) hS.2.2 dX5_mayGoOn_90 hlocks
          · skip
            refine lv_aload_n hx hb dX5_mayGoOn_0 rfl (lv_at hl 0 rfl) ?_
            have hPc := hP.sub (ws' := [(mo, .inr (6, [.int th, .int 1, .ref (ma 2), .ref (ma 3), .ref (ma 4), .ref (ma 5), .ref (ma 6), .ref (ma 7), .ref (ma 8), .ref (ma 9), .ref (ma 10), .ref (ma 11), .ref (ma 12), .ref (ma 13), .ref (ma 14), .ref (ma 15), .ref (ma 16), .ref (ma 17), .ref (ma 18), .ref (ma 19), .ref (ma 20), .ref (ma 21), .int 0, .ref (ma 23), .ref (ma 24), .ref (ma 25), .ref (ma 26), .ref (ma 27), .ref (ma 28)])), ((ma 28), wI tC 5 af), ((ma 2), wI tC 600 (fun _ => 0))]) [0, 1, 2] rfl
            have hDc := hD.sub (ws' := [(mo, .inr (6, [.int th, .int 1, .ref (ma 2), .ref (ma 3), .ref (ma 4), .ref (ma 5), .ref (ma 6), .ref (ma 7), .ref (ma 8), .ref (ma 9), .ref (ma 10), .ref (ma 11), .ref (ma 12), .ref (ma 13), .ref (ma 14), .ref (ma 15), .ref (ma 16), .ref (ma 17), .ref (ma 18), .ref (ma 19), .ref (ma 20), .ref (ma 21), .int 0, .ref (ma 23), .ref (ma 24), .ref (ma 25), .ref (ma 26), .ref (ma 27), .ref (ma 28)])), ((ma 28), wI tC 5 af), ((ma 2), wI tC 600 (fun _ => 0))]) [0, 1, 2] (by decide) rfl
            have hFc := va_free (wc := [(mo, .inr (6, [.int th, .int 1, .ref (ma 2), .ref (ma 3), .ref (ma 4), .ref (ma 5), .ref (ma 6), .ref (ma 7), .ref (ma 8), .ref (ma 9), .ref (ma 10), .ref (ma 11), .ref (ma 12), .ref (ma 13), .ref (ma 14), .ref (ma 15), .ref (ma 16), .ref (ma 17), .ref (ma 18), .ref (ma 19), .ref (ma 20), .ref (ma 21), .int 0, .ref (ma 23), .ref (ma 24), .ref (ma 25), .ref (ma 26), .ref (ma 27), .ref (ma 28)])), ((ma 28), wI tC 5 af), ((ma 2), wI tC 600 (fun _ => 0))]) hD hS hA [0, 1, 2] rfl
            refine va_calli (va_runV (As := []) (rest := []) ⟨hx, hb, hml, hown, hts⟩ (c_X5_greatest l hlt D tC dz s.heap.size mo ma th af bt haf) (cwV 0 hts gX5_mayGoOn_X5_greatest rfl rfl rfl (by decide +kernel) ⟨Nat.le_of_ble_eq_true rfl, Nat.le_of_ble_eq_true rfl⟩) ⟨pB_blind, va_recv hK hPc (ci := 6) (q0 := 0) rfl rfl, pB_at hPc hDc hK hN hE hS hFc⟩ rfl rfl hl.1 rfl (lv_room (Nat.le_of_ble_eq_true rfl)) dX5_mayGoOn_1 ⟨Nat.le_of_ble_eq_true rfl, Nat.le_of_ble_eq_true rfl⟩) hS (fun q _ h => hFc q h) hFc (fun r_96 u t H1 locs ht hvm hw hB hz1 hk1 hS => ?_)
            obtain ⟨hP1, _, hD1⟩ := hB
            have hw_97 := hw
            rw [ht] at hP1
            obtain ⟨hP, hD⟩ := va_join (wr := [((ma 7), wI tC 600 (fun _ => 0)), ((ma 6), wI tC 600 zf)]) (w1 := [(mo, .inr (6, [.int th, .int 1, .ref (ma 2), .ref (ma 3), .ref (ma 4), .ref (ma 5), .ref (ma 6), .ref (ma 7), .ref (ma 8), .ref (ma 9), .ref (ma 10), .ref (ma 11), .ref (ma 12), .ref (ma 13), .ref (ma 14), .ref (ma 15), .ref (ma 16), .ref (ma 17), .ref (ma 18), .ref (ma 19), .ref (ma 20), .ref (ma 21), .int 0, .ref (ma 23), .ref (ma 24), .ref (ma 25), .ref (ma 26), .ref (ma 27), .ref (ma 28)])), ((ma 28), wI tC 5 af), ((ma 2), wI tC 600 (fun _ => 0))]) hP hD [0, 1, 2] [3, 4] rfl rfl (by decide) (by decide) hk1 hFc hP1 hD1
            generalize H1 = H at hP hS ⊢
            have hP : va_P D vwCl [((ma 7), wI tC 600 (fun _ => 0)), ((ma 6), wI tC 600 zf), (mo, .inr (6, [.int th, .int 1, .ref (ma 2), .ref (ma 3), .ref (ma 4), .ref (ma 5), .ref (ma 6), .ref (ma 7), .ref (ma 8), .ref (ma 9), .ref (ma 10), .ref (ma 11), .ref (ma 12), .ref (ma 13), .ref (ma 14), .ref (ma 15), .ref (ma 16), .ref (ma 17), .ref (ma 18), .ref (ma 19), .ref (ma 20), .ref (ma 21), .int 0, .ref (ma 23), .ref (ma 24), .ref (ma 25), .ref (ma 26), .ref (ma 27), .ref (ma 28)])), ((ma 28), wI tC 5 af), ((ma 2), wI tC 600 (fun _ => 0))] H := hP
            have hD : va_D A [((ma 7), wI tC 600 (fun _ => 0)), ((ma 6), wI tC 600 zf), (mo, .inr (6, [.int th, .int 1, .ref (ma 2), .ref (ma 3), .ref (ma 4), .ref (ma 5), .ref (ma 6), .ref (ma 7), .ref (ma 8), .ref (ma 9), .ref (ma 10), .ref (ma 11), .ref (ma 12), .ref (ma 13), .ref (ma 14), .ref (ma 15), .ref (ma 16), .ref (ma 17), .ref (ma 18), .ref (ma 19), .ref (ma 20), .ref (ma 21), .int 0, .ref (ma 23), .ref (ma 24), .ref (ma 25), .ref (ma 26), .ref (ma 27), .ref (ma 28)])), ((ma 28), wI tC 5 af), ((ma 2), wI tC 600 (fun _ => 0))] := hD
            have q1 : r_96 = 0 := hw_97.trans (by rw [hb0, hb1, hb2, hb3, hb4] <;> rfl)
            subst q1
            refine lv_istore_n (lv' := [(1, .int 0), (0, .ref mo)]) hx hb dX5_mayGoOn_4 rfl hl (by decide) rfl (fun ls hl => ?_)
            refine lv_iconst (v := 0) hx hb dX5_mayGoOn_5 (by decide) ?_
            refine lv_istore_n (lv' := [(2, .int 0), (1, .int 0), (0, .ref mo)]) hx hb dX5_mayGoOn_6 rfl hl (by decide) rfl (fun ls hl => ?_)
            refine lv_iconst (v := 0) hx hb dX5_mayGoOn_7 (by decide) ?_
            refine lv_istore_n (lv' := [(3, .int 0), (2, .int 0), (1, .int 0), (0, .ref mo)]) hx hb dX5_mayGoOn_8 rfl hl (by decide) rfl (fun ls hl => ?_)
            refine lv_iload_n hx hb dX5_mayGoOn_9 rfl (lv_at hl 0 rfl) ?_
            refine lv_iconst (v := 5) hx hb dX5_mayGoOn_10 (by decide) ?_
            refine lv_icmp_ge (tgt := 71) hx hb dX5_mayGoOn_11 (by decide) (fun hc => absurd hc (by decide)) (fun _ => ?_)
            refine lv_iload_n hx hb dX5_mayGoOn_14 rfl (lv_at hl 2 rfl) ?_
            refine lv_if_lt (tgt := 71) hx hb dX5_mayGoOn_15 (by decide) (fun hc => absurd hc (by decide)) (fun _ => ?_)
            refine lv_aload_n hx hb dX5_mayGoOn_18 rfl (lv_at hl 3 rfl) ?_
            refine va_get (D := D) (ci := 6) (v := .ref (ma 28)) (C := RX5) (T := TX5) (N := 29) hx hb hts in_X5_mayGoOn_X5 hown hK hP 2 rfl rfl 28 (by decide) w_0 (fun _ h9 => h9) rfl dX5_mayGoOn_19 ?_
            refine lv_iload_n hx hb dX5_mayGoOn_22 rfl (lv_at hl 0 rfl) ?_
            refine va_iald hx hb hK hP 3 0 rfl rfl (by unfold vp_in; decide) dX5_mayGoOn_23 ?_
            refine lv_topi (fun z_98 ez_98 => ?_)
            have fz_98 : z_98 = (-1) := ez_98.trans (by rw [show (0 : Int32).toNatClampNeg = 0 by decide, haf 0 (by decide), hb0] <;> rfl)
            subst fz_98
            refine lv_if_lt (tgt := 65) hx hb dX5_mayGoOn_24 (by decide) (fun _ => ?_) (fun hc => absurd (by decide) hc)
            refine lv_iinc (v := 1) (lv' := [(3, .int 1), (2, .int 0), (1, .int 0), (0, .ref mo)]) hx hb dX5_mayGoOn_65 hl (k := 0) rfl (by decide) (by decide) rfl (fun ls hl => ?_)
            refine lv_goto (tgt := 9) hx hb dX5_mayGoOn_68 (by decide) ?_
            refine lv_iload_n hx hb dX5_mayGoOn_9 rfl (lv_at hl 0 rfl) ?_
            refine lv_iconst (v := 5) hx hb dX5_mayGoOn_10 (by decide) ?_
            refine lv_icmp_ge (tgt := 71) hx hb dX5_mayGoOn_11 (by decide) (fun hc => absurd hc (by decide)) (fun _ => ?_)
            refine lv_iload_n hx hb dX5_mayGoOn_14 rfl (lv_at hl 2 rfl) ?_
            refine lv_if_lt (tgt := 71) hx hb dX5_mayGoOn_15 (by decide) (fun hc => absurd hc (by decide)) (fun _ => ?_)
            refine lv_aload_n hx hb dX5_mayGoOn_18 rfl (lv_at hl 3 rfl) ?_
            refine va_get (D := D) (ci := 6) (v := .ref (ma 28)) (C := RX5) (T := TX5) (N := 29) hx hb hts in_X5_mayGoOn_X5 hown hK hP 2 rfl rfl 28 (by decide) w_0 (fun _ h9 => h9) rfl dX5_mayGoOn_19 ?_
            refine lv_iload_n hx hb dX5_mayGoOn_22 rfl (lv_at hl 0 rfl) ?_
            refine va_iald hx hb hK hP 3 0 rfl rfl (by unfold vp_in; decide) dX5_mayGoOn_23 ?_
            refine lv_topi (fun z_99 ez_99 => ?_)
            have fz_99 : z_99 = (-1) := ez_99.trans (by rw [show (1 : Int32).toNatClampNeg = 1 by decide, haf 1 (by decide), hb1] <;> rfl)
            subst fz_99
            refine lv_if_lt (tgt := 65) hx hb dX5_mayGoOn_24 (by decide) (fun _ => ?_) (fun hc => absurd (by decide) hc)
            refine lv_iinc (v := 2) (lv' := [(3, .int 2), (2, .int 0), (1, .int 0), (0, .ref mo)]) hx hb dX5_mayGoOn_65 hl (k := 0) rfl (by decide) (by decide) rfl (fun ls hl => ?_)
            refine lv_goto (tgt := 9) hx hb dX5_mayGoOn_68 (by decide) ?_
            refine lv_iload_n hx hb dX5_mayGoOn_9 rfl (lv_at hl 0 rfl) ?_
            refine lv_iconst (v := 5) hx hb dX5_mayGoOn_10 (by decide) ?_
            refine lv_icmp_ge (tgt := 71) hx hb dX5_mayGoOn_11 (by decide) (fun hc => absurd hc (by decide)) (fun _ => ?_)
            refine lv_iload_n hx hb dX5_mayGoOn_14 rfl (lv_at hl 2 rfl) ?_
            refine lv_if_lt (tgt := 71) hx hb dX5_mayGoOn_15 (by decide) (fun hc => absurd hc (by decide)) (fun _ => ?_)
            refine lv_aload_n hx hb dX5_mayGoOn_18 rfl (lv_at hl 3 rfl) ?_
            refine va_get (D := D) (ci := 6) (v := .ref (ma 28)) (C := RX5) (T := TX5) (N := 29) hx hb hts in_X5_mayGoOn_X5 hown hK hP 2 rfl rfl 28 (by decide) w_0 (fun _ h9 => h9) rfl dX5_mayGoOn_19 ?_
            refine lv_iload_n hx hb dX5_mayGoOn_22 rfl (lv_at hl 0 rfl) ?_
            refine va_iald hx hb hK hP 3 0 rfl rfl (by unfold vp_in; decide) dX5_mayGoOn_23 ?_
            refine lv_topi (fun z_100 ez_100 => ?_)
            have fz_100 : z_100 = 0 := ez_100.trans (by rw [show (2 : Int32).toNatClampNeg = 2 by decide, haf 2 (by decide), hb2] <;> rfl)
            subst fz_100
            refine lv_if_lt (tgt := 65) hx hb dX5_mayGoOn_24 (by decide) (fun hc => absurd hc (by decide)) (fun _ => ?_)
            refine lv_aload_n hx hb dX5_mayGoOn_27 rfl (lv_at hl 3 rfl) ?_
            refine va_get (D := D) (ci := 6) (v := .ref (ma 2)) (C := RX5) (T := TX5) (N := 29) hx hb hts in_X5_mayGoOn_X5 hown hK hP 2 rfl rfl 2 (by decide) w_1 (fun _ h9 => h9) rfl dX5_mayGoOn_28 ?_
            refine lv_aload_n hx hb dX5_mayGoOn_31 rfl (lv_at hl 3 rfl) ?_
            refine va_get (D := D) (ci := 6) (v := .ref (ma 28)) (C := RX5) (T := TX5) (N := 29) hx hb hts in_X5_mayGoOn_X5 hown hK hP 2 rfl rfl 28 (by decide) w_0 (fun _ h9 => h9) rfl dX5_mayGoOn_32 ?_
            refine lv_iload_n hx hb dX5_mayGoOn_35 rfl (lv_at hl 0 rfl) ?_
            refine va_iald hx hb hK hP 3 0 rfl rfl (by unfold vp_in; decide) dX5_mayGoOn_36 ?_
            refine lv_topi (fun z_101 ez_101 => ?_)
            have fz_101 : z_101 = 0 := ez_101.trans (by rw [show (2 : Int32).toNatClampNeg = 2 by decide, haf 2 (by decide), hb2] <;> rfl)
            subst fz_101
            refine va_iald hx hb hK hP 4 0 rfl rfl (by unfold vp_in; decide) dX5_mayGoOn_37 ?_
            refine lv_topi (fun z_102 ez_102 => ?_)
            have fz_102 : z_102 = 0 := ez_102.trans (rfl)
            subst fz_102
            refine lv_aload_n hx hb dX5_mayGoOn_38 rfl (lv_at hl 3 rfl) ?_
            refine va_get (D := D) (ci := 6) (v := .ref (ma 2)) (C := RX5) (T := TX5) (N := 29) hx hb hts in_X5_mayGoOn_X5 hown hK hP 2 rfl rfl 2 (by decide) w_1 (fun _ h9 => h9) rfl dX5_mayGoOn_39 ?_
            refine lv_iload_n hx hb dX5_mayGoOn_42 rfl (lv_at hl 2 rfl) ?_
            refine va_iald hx hb hK hP 4 0 rfl rfl (by unfold vp_in; decide) dX5_mayGoOn_43 ?_
            refine lv_topi (fun z_103 ez_103 => ?_)
            have fz_103 : z_103 = 0 := ez_103.trans (rfl)
            subst fz_103
            refine lv_icmp_ne (tgt := 65) hx hb dX5_mayGoOn_44 (by decide) (fun hc => absurd (by decide) hc) (fun _ => ?_)
            refine lv_iload_n hx hb dX5_mayGoOn_47 rfl (lv_at hl 1 rfl) ?_
            refine lv_iload_n hx hb dX5_mayGoOn_48 rfl (lv_at hl 0 rfl) ?_
            refine lv_aload_n hx hb dX5_mayGoOn_49 rfl (lv_at hl 3 rfl) ?_
            refine va_get (D := D) (ci := 6) (v := .ref (ma 7)) (C := RX5) (T := TX5) (N := 29) hx hb hts in_X5_mayGoOn_X5 hown hK hP 2 rfl rfl 7 (by decide) w_2 (fun _ h9 => h9) rfl dX5_mayGoOn_50 ?_
            refine lv_iload_n hx hb dX5_mayGoOn_53 rfl (lv_at hl 2 rfl) ?_
            refine va_iald hx hb hK hP 0 0 rfl rfl (by unfold vp_in; decide) dX5_mayGoOn_54 ?_
            refine lv_topi (fun z_104 ez_104 => ?_)
            have fz_104 : z_104 = 0 := ez_104.trans (rfl)
            subst fz_104
            refine lv_icmp_ne (tgt := 62) hx hb dX5_mayGoOn_55 (by decide) (fun _ => ?_) (fun hc => absurd hc (by decide))
            refine lv_iconst (v := 2) hx hb dX5_mayGoOn_62 (by decide) ?_
            refine lv_iadd hx hb dX5_mayGoOn_63 ?_
            refine lv_topi (fun z_105 ez_105 => ?_)
            have fz_105 : z_105 = 2 := ez_105.trans (by decide)
            subst fz_105
            refine lv_istore_n (lv' := [(2, .int 2), (3, .int 2), (1, .int 0), (0, .ref mo)]) hx hb dX5_mayGoOn_64 rfl hl (by decide) rfl (fun ls hl => ?_)
            refine lv_iinc (v := 3) (lv' := [(3, .int 3), (2, .int 2), (1, .int 0), (0, .ref mo)]) hx hb dX5_mayGoOn_65 hl (k := 1) rfl (by decide) (by decide) rfl (fun ls hl => ?_)
            refine lv_goto (tgt := 9) hx hb dX5_mayGoOn_68 (by decide) ?_
            refine lv_iload_n hx hb dX5_mayGoOn_9 rfl (lv_at hl 0 rfl) ?_
            refine lv_iconst (v := 5) hx hb dX5_mayGoOn_10 (by decide) ?_
            refine lv_icmp_ge (tgt := 71) hx hb dX5_mayGoOn_11 (by decide) (fun hc => absurd hc (by decide)) (fun _ => ?_)
            refine lv_iload_n hx hb dX5_mayGoOn_14 rfl (lv_at hl 2 rfl) ?_
            refine lv_if_lt (tgt := 71) hx hb dX5_mayGoOn_15 (by decide) (fun hc => absurd hc (by decide)) (fun _ => ?_)
            refine lv_aload_n hx hb dX5_mayGoOn_18 rfl (lv_at hl 3 rfl) ?_
            refine va_get (D := D) (ci := 6) (v := .ref (ma 28)) (C := RX5) (T := TX5) (N := 29) hx hb hts in_X5_mayGoOn_X5 hown hK hP 2 rfl rfl 28 (by decide) w_0 (fun _ h9 => h9) rfl dX5_mayGoOn_19 ?_
            refine lv_iload_n hx hb dX5_mayGoOn_22 rfl (lv_at hl 0 rfl) ?_
            refine va_iald hx hb hK hP 3 0 rfl rfl (by unfold vp_in; decide) dX5_mayGoOn_23 ?_
            refine lv_topi (fun z_106 ez_106 => ?_)
            have fz_106 : z_106 = 0 := ez_106.trans (by rw [show (3 : Int32).toNatClampNeg = 3 by decide, haf 3 (by decide), hb3] <;> rfl)
            subst fz_106
            refine lv_if_lt (tgt := 65) hx hb dX5_mayGoOn_24 (by decide) (fun hc => absurd hc (by decide)) (fun _ => ?_)
            refine lv_aload_n hx hb dX5_mayGoOn_27 rfl (lv_at hl 3 rfl) ?_
            refine va_get (D := D) (ci := 6) (v := .ref (ma 2)) (C := RX5) (T := TX5) (N := 29) hx hb hts in_X5_mayGoOn_X5 hown hK hP 2 rfl rfl 2 (by decide) w_1 (fun _ h9 => h9) rfl dX5_mayGoOn_28 ?_
            refine lv_aload_n hx hb dX5_mayGoOn_31 rfl (lv_at hl 3 rfl) ?_
            refine va_get (D := D) (ci := 6) (v := .ref (ma 28)) (C := RX5) (T := TX5) (N := 29) hx hb hts in_X5_mayGoOn_X5 hown hK hP 2 rfl rfl 28 (by decide) w_0 (fun _ h9 => h9) rfl dX5_mayGoOn_32 ?_
            refine lv_iload_n hx hb dX5_mayGoOn_35 rfl (lv_at hl 0 rfl) ?_
            refine va_iald hx hb hK hP 3 0 rfl rfl (by unfold vp_in; decide) dX5_mayGoOn_36 ?_
            refine lv_topi (fun z_107 ez_107 => ?_)
            have fz_107 : z_107 = 0 := ez_107.trans (by rw [show (3 : Int32).toNatClampNeg = 3 by decide, haf 3 (by decide), hb3] <;> rfl)
            subst fz_107
            refine va_iald hx hb hK hP 4 0 rfl rfl (by unfold vp_in; decide) dX5_mayGoOn_37 ?_
            refine lv_topi (fun z_108 ez_108 => ?_)
            have fz_108 : z_108 = 0 := ez_108.trans (rfl)
            subst fz_108
            refine lv_aload_n hx hb dX5_mayGoOn_38 rfl (lv_at hl 3 rfl) ?_
            refine va_get (D := D) (ci := 6) (v := .ref (ma 2)) (C := RX5) (T := TX5) (N := 29) hx hb hts in_X5_mayGoOn_X5 hown hK hP 2 rfl rfl 2 (by decide) w_1 (fun _ h9 => h9) rfl dX5_mayGoOn_39 ?_
            refine lv_iload_n hx hb dX5_mayGoOn_42 rfl (lv_at hl 2 rfl) ?_
            refine va_iald hx hb hK hP 4 0 rfl rfl (by unfold vp_in; decide) dX5_mayGoOn_43 ?_
            refine lv_topi (fun z_109 ez_109 => ?_)
            have fz_109 : z_109 = 0 := ez_109.trans (rfl)
            subst fz_109
            refine lv_icmp_ne (tgt := 65) hx hb dX5_mayGoOn_44 (by decide) (fun hc => absurd (by decide) hc) (fun _ => ?_)
            refine lv_iload_n hx hb dX5_mayGoOn_47 rfl (lv_at hl 1 rfl) ?_
            refine lv_iload_n hx hb dX5_mayGoOn_48 rfl (lv_at hl 0 rfl) ?_
            refine lv_aload_n hx hb dX5_mayGoOn_49 rfl (lv_at hl 3 rfl) ?_
            refine va_get (D := D) (ci := 6) (v := .ref (ma 7)) (C := RX5) (T := TX5) (N := 29) hx hb hts in_X5_mayGoOn_X5 hown hK hP 2 rfl rfl 7 (by decide) w_2 (fun _ h9 => h9) rfl dX5_mayGoOn_50 ?_
            refine lv_iload_n hx hb dX5_mayGoOn_53 rfl (lv_at hl 2 rfl) ?_
            refine va_iald hx hb hK hP 0 0 rfl rfl (by unfold vp_in; decide) dX5_mayGoOn_54 ?_
            refine lv_topi (fun z_110 ez_110 => ?_)
            have fz_110 : z_110 = 0 := ez_110.trans (rfl)
            subst fz_110
            refine lv_icmp_ne (tgt := 62) hx hb dX5_mayGoOn_55 (by decide) (fun _ => ?_) (fun hc => absurd hc (by decide))
            refine lv_iconst (v := 2) hx hb dX5_mayGoOn_62 (by decide) ?_
            refine lv_iadd hx hb dX5_mayGoOn_63 ?_
            refine lv_topi (fun z_111 ez_111 => ?_)
            have fz_111 : z_111 = 4 := ez_111.trans (by decide)
            subst fz_111
            refine lv_istore_n (lv' := [(2, .int 4), (3, .int 3), (1, .int 0), (0, .ref mo)]) hx hb dX5_mayGoOn_64 rfl hl (by decide) rfl (fun ls hl => ?_)
            refine lv_iinc (v := 4) (lv' := [(3, .int 4), (2, .int 4), (1, .int 0), (0, .ref mo)]) hx hb dX5_mayGoOn_65 hl (k := 1) rfl (by decide) (by decide) rfl (fun ls hl => ?_)
            refine lv_goto (tgt := 9) hx hb dX5_mayGoOn_68 (by decide) ?_
            refine lv_iload_n hx hb dX5_mayGoOn_9 rfl (lv_at hl 0 rfl) ?_
            refine lv_iconst (v := 5) hx hb dX5_mayGoOn_10 (by decide) ?_
            refine lv_icmp_ge (tgt := 71) hx hb dX5_mayGoOn_11 (by decide) (fun hc => absurd hc (by decide)) (fun _ => ?_)
            refine lv_iload_n hx hb dX5_mayGoOn_14 rfl (lv_at hl 2 rfl) ?_
            refine lv_if_lt (tgt := 71) hx hb dX5_mayGoOn_15 (by decide) (fun hc => absurd hc (by decide)) (fun _ => ?_)
            refine lv_aload_n hx hb dX5_mayGoOn_18 rfl (lv_at hl 3 rfl) ?_
            refine va_get (D := D) (ci := 6) (v := .ref (ma 28)) (C := RX5) (T := TX5) (N := 29) hx hb hts in_X5_mayGoOn_X5 hown hK hP 2 rfl rfl 28 (by decide) w_0 (fun _ h9 => h9) rfl dX5_mayGoOn_19 ?_
            refine lv_iload_n hx hb dX5_mayGoOn_22 rfl (lv_at hl 0 rfl) ?_
            refine va_iald hx hb hK hP 3 0 rfl rfl (by unfold vp_in; decide) dX5_mayGoOn_23 ?_
            refine lv_topi (fun z_112 ez_112 => ?_)
            have fz_112 : z_112 = 0 := ez_112.trans (by rw [show (4 : Int32).toNatClampNeg = 4 by decide, haf 4 (by decide), hb4] <;> rfl)
            subst fz_112
            refine lv_if_lt (tgt := 65) hx hb dX5_mayGoOn_24 (by decide) (fun hc => absurd hc (by decide)) (fun _ => ?_)
            refine lv_aload_n hx hb dX5_mayGoOn_27 rfl (lv_at hl 3 rfl) ?_
            refine va_get (D := D) (ci := 6) (v := .ref (ma 2)) (C := RX5) (T := TX5) (N := 29) hx hb hts in_X5_mayGoOn_X5 hown hK hP 2 rfl rfl 2 (by decide) w_1 (fun _ h9 => h9) rfl dX5_mayGoOn_28 ?_
            refine lv_aload_n hx hb dX5_mayGoOn_31 rfl (lv_at hl 3 rfl) ?_
            refine va_get (D := D) (ci := 6) (v := .ref (ma 28)) (C := RX5) (T := TX5) (N := 29) hx hb hts in_X5_mayGoOn_X5 hown hK hP 2 rfl rfl 28 (by decide) w_0 (fun _ h9 => h9) rfl dX5_mayGoOn_32 ?_
            refine lv_iload_n hx hb dX5_mayGoOn_35 rfl (lv_at hl 0 rfl) ?_
            refine va_iald hx hb hK hP 3 0 rfl rfl (by unfold vp_in; decide) dX5_mayGoOn_36 ?_
            refine lv_topi (fun z_113 ez_113 => ?_)
            have fz_113 : z_113 = 0 := ez_113.trans (by rw [show (4 : Int32).toNatClampNeg = 4 by decide, haf 4 (by decide), hb4] <;> rfl)
            subst fz_113
            refine va_iald hx hb hK hP 4 0 rfl rfl (by unfold vp_in; decide) dX5_mayGoOn_37 ?_
            refine lv_topi (fun z_114 ez_114 => ?_)
            have fz_114 : z_114 = 0 := ez_114.trans (rfl)
            subst fz_114
            refine lv_aload_n hx hb dX5_mayGoOn_38 rfl (lv_at hl 3 rfl) ?_
            refine va_get (D := D) (ci := 6) (v := .ref (ma 2)) (C := RX5) (T := TX5) (N := 29) hx hb hts in_X5_mayGoOn_X5 hown hK hP 2 rfl rfl 2 (by decide) w_1 (fun _ h9 => h9) rfl dX5_mayGoOn_39 ?_
            refine lv_iload_n hx hb dX5_mayGoOn_42 rfl (lv_at hl 2 rfl) ?_
            refine va_iald hx hb hK hP 4 0 rfl rfl (by unfold vp_in; decide) dX5_mayGoOn_43 ?_
            refine lv_topi (fun z_115 ez_115 => ?_)
            have fz_115 : z_115 = 0 := ez_115.trans (rfl)
            subst fz_115
            refine lv_icmp_ne (tgt := 65) hx hb dX5_mayGoOn_44 (by decide) (fun hc => absurd (by decide) hc) (fun _ => ?_)
            refine lv_iload_n hx hb dX5_mayGoOn_47 rfl (lv_at hl 1 rfl) ?_
            refine lv_iload_n hx hb dX5_mayGoOn_48 rfl (lv_at hl 0 rfl) ?_
            refine lv_aload_n hx hb dX5_mayGoOn_49 rfl (lv_at hl 3 rfl) ?_
            refine va_get (D := D) (ci := 6) (v := .ref (ma 7)) (C := RX5) (T := TX5) (N := 29) hx hb hts in_X5_mayGoOn_X5 hown hK hP 2 rfl rfl 7 (by decide) w_2 (fun _ h9 => h9) rfl dX5_mayGoOn_50 ?_
            refine lv_iload_n hx hb dX5_mayGoOn_53 rfl (lv_at hl 2 rfl) ?_
            refine va_iald hx hb hK hP 0 0 rfl rfl (by unfold vp_in; decide) dX5_mayGoOn_54 ?_
            refine lv_topi (fun z_116 ez_116 => ?_)
            have fz_116 : z_116 = 0 := ez_116.trans (rfl)
            subst fz_116
            refine lv_icmp_ne (tgt := 62) hx hb dX5_mayGoOn_55 (by decide) (fun _ => ?_) (fun hc => absurd hc (by decide))
            refine lv_iconst (v := 2) hx hb dX5_mayGoOn_62 (by decide) ?_
            refine lv_iadd hx hb dX5_mayGoOn_63 ?_
            refine lv_topi (fun z_117 ez_117 => ?_)
            have fz_117 : z_117 = 6 := ez_117.trans (by decide)
            subst fz_117
            refine lv_istore_n (lv' := [(2, .int 6), (3, .int 4), (1, .int 0), (0, .ref mo)]) hx hb dX5_mayGoOn_64 rfl hl (by decide) rfl (fun ls hl => ?_)
            refine lv_iinc (v := 5) (lv' := [(3, .int 5), (2, .int 6), (1, .int 0), (0, .ref mo)]) hx hb dX5_mayGoOn_65 hl (k := 1) rfl (by decide) (by decide) rfl (fun ls hl => ?_)
            refine lv_goto (tgt := 9) hx hb dX5_mayGoOn_68 (by decide) ?_
            refine lv_iload_n hx hb dX5_mayGoOn_9 rfl (lv_at hl 0 rfl) ?_
            refine lv_iconst (v := 5) hx hb dX5_mayGoOn_10 (by decide) ?_
            refine lv_icmp_ge (tgt := 71) hx hb dX5_mayGoOn_11 (by decide) (fun _ => ?_) (fun hc => absurd (by decide) hc)
            refine lv_iload_n hx hb dX5_mayGoOn_71 rfl (lv_at hl 2 rfl) ?_
            refine lv_if_lt (tgt := 89) hx hb dX5_mayGoOn_72 (by decide) (fun hc => absurd hc (by decide)) (fun _ => ?_)
            refine lv_iload_n hx hb dX5_mayGoOn_75 rfl (lv_at hl 1 rfl) ?_
            refine lv_aload_n hx hb dX5_mayGoOn_76 rfl (lv_at hl 3 rfl) ?_
            refine va_get (D := D) (ci := 6) (v := .ref (ma 6)) (C := RX5) (T := TX5) (N := 29) hx hb hts in_X5_mayGoOn_X5 hown hK hP 2 rfl rfl 6 (by decide) w_3 (fun _ h9 => h9) rfl dX5_mayGoOn_77 ?_
            refine lv_iload_n hx hb dX5_mayGoOn_80 rfl (lv_at hl 2 rfl) ?_
            refine va_iald hx hb hK hP 1 0 rfl rfl (by unfold vp_in; decide) dX5_mayGoOn_81 ?_
            refine lv_topi (fun z_118 ez_118 => ?_)
            have fz_118 : z_118 = 5 := ez_118.trans (hzf)
            subst fz_118
            refine lv_icmp_le (tgt := 89) hx hb dX5_mayGoOn_82 (by decide) (fun hc => absurd hc (by decide)) (fun _ => ?_)
            refine lv_iconst (v := 1) hx hb dX5_mayGoOn_85 (by decide) ?_
            refine lv_goto (tgt := 90) hx hb dX5_mayGoOn_86 (by decide) ?_
            have hP9 := hP.sub (ws' := [(mo, .inr (6, [.int th, .int 1, .ref (ma 2), .ref (ma 3), .ref (ma 4), .ref (ma 5), .ref (ma 6), .ref (ma 7), .ref (ma 8), .ref (ma 9), .ref (ma 10), .ref (ma 11), .ref (ma 12), .ref (ma 13), .ref (ma 14), .ref (ma 15), .ref (ma 16), .ref (ma 17), .ref (ma 18), .ref (ma 19), .ref (ma 20), .ref (ma 21), .int 0, .ref (ma 23), .ref (ma 24), .ref (ma 25), .ref (ma 26), .ref (ma 27), .ref (ma 28)])), ((ma 28), wI tC 5 af), ((ma 2), wI tC 600 (fun _ => 0)), ((ma 7), wI tC 600 (fun _ => 0)), ((ma 6), wI tC 600 zf)]) [2, 3, 4, 0, 1] rfl
            have hD9 := hD.sub (ws' := [(mo, .inr (6, [.int th, .int 1, .ref (ma 2), .ref (ma 3), .ref (ma 4), .ref (ma 5), .ref (ma 6), .ref (ma 7), .ref (ma 8), .ref (ma 9), .ref (ma 10), .ref (ma 11), .ref (ma 12), .ref (ma 13), .ref (ma 14), .ref (ma 15), .ref (ma 16), .ref (ma 17), .ref (ma 18), .ref (ma 19), .ref (ma 20), .ref (ma 21), .int 0, .ref (ma 23), .ref (ma 24), .ref (ma 25), .ref (ma 26), .ref (ma 27), .ref (ma 28)])), ((ma 28), wI tC 5 af), ((ma 2), wI tC 600 (fun _ => 0)), ((ma 7), wI tC 600 (fun _ => 0)), ((ma 6), wI tC 600 zf)]) [2, 3, 4, 0, 1] (by decide) rfl
            refine W.widen (k := 0) (n := 0) (by omega) (by omega) ?_
            exact W.zret (v := 1) hx hb hr (by decide) (fun t ht hW => ⟨⟨1, (), rfl, (by unfold mayg cntb; rw [hb0, hb1, hb2, hb3, hb4] <;> decide), (by rw [ht]; exact hP9), va_K.moved hW.alike hK, hD9⟩, hS.F ht⟩) hS.2.2 dX5_mayGoOn_90 hlocks
    · skip
      cases hb2 : bt 2
      · skip
        cases hb3 : bt 3
        · skip
          cases hb4 : bt 4
          · skip
            refine lv_aload_n hx hb dX5_mayGoOn_0 rfl (lv_at hl 0 rfl) ?_
            have hPc := hP.sub (ws' := [(mo, .inr (6, [.int th, .int 1, .ref (ma 2), .ref (ma 3), .ref (ma 4), .ref (ma 5), .ref (ma 6), .ref (ma 7), .ref (ma 8), .ref (ma 9), .ref (ma 10), .ref (ma 11), .ref (ma 12), .ref (ma 13), .ref (ma 14), .ref (ma 15), .ref (ma 16), .ref (ma 17), .ref (ma 18), .ref (ma 19), .ref (ma 20), .ref (ma 21), .int 0, .ref (ma 23), .ref (ma 24), .ref (ma 25), .ref (ma 26), .ref (ma 27), .ref (ma 28)])), ((ma 28), wI tC 5 af), ((ma 2), wI tC 600 (fun _ => 0))]) [0, 1, 2] rfl
            have hDc := hD.sub (ws' := [(mo, .inr (6, [.int th, .int 1, .ref (ma 2), .ref (ma 3), .ref (ma 4), .ref (ma 5), .ref (ma 6), .ref (ma 7), .ref (ma 8), .ref (ma 9), .ref (ma 10), .ref (ma 11), .ref (ma 12), .ref (ma 13), .ref (ma 14), .ref (ma 15), .ref (ma 16), .ref (ma 17), .ref (ma 18), .ref (ma 19), .ref (ma 20), .ref (ma 21), .int 0, .ref (ma 23), .ref (ma 24), .ref (ma 25), .ref (ma 26), .ref (ma 27), .ref (ma 28)])), ((ma 28), wI tC 5 af), ((ma 2), wI tC 600 (fun _ => 0))]) [0, 1, 2] (by decide) rfl
            have hFc := va_free (wc := [(mo, .inr (6, [.int th, .int 1, .ref (ma 2), .ref (ma 3), .ref (ma 4), .ref (ma 5), .ref (ma 6), .ref (ma 7), .ref (ma 8), .ref (ma 9), .ref (ma 10), .ref (ma 11), .ref (ma 12), .ref (ma 13), .ref (ma 14), .ref (ma 15), .ref (ma 16), .ref (ma 17), .ref (ma 18), .ref (ma 19), .ref (ma 20), .ref (ma 21), .int 0, .ref (ma 23), .ref (ma 24), .ref (ma 25), .ref (ma 26), .ref (ma 27), .ref (ma 28)])), ((ma 28), wI tC 5 af), ((ma 2), wI tC 600 (fun _ => 0))]) hD hS hA [0, 1, 2] rfl
            refine va_calli (va_runV (As := []) (rest := []) ⟨hx, hb, hml, hown, hts⟩ (c_X5_greatest l hlt D tC dz s.heap.size mo ma th af bt haf) (cwV 0 hts gX5_mayGoOn_X5_greatest rfl rfl rfl (by decide +kernel) ⟨Nat.le_of_ble_eq_true rfl, Nat.le_of_ble_eq_true rfl⟩) ⟨pB_blind, va_recv hK hPc (ci := 6) (q0 := 0) rfl rfl, pB_at hPc hDc hK hN hE hS hFc⟩ rfl rfl hl.1 rfl (lv_room (Nat.le_of_ble_eq_true rfl)) dX5_mayGoOn_1 ⟨Nat.le_of_ble_eq_true rfl, Nat.le_of_ble_eq_true rfl⟩) hS (fun q _ h => hFc q h) hFc (fun r_119 u t H1 locs ht hvm hw hB hz1 hk1 hS => ?_)
            obtain ⟨hP1, _, hD1⟩ := hB
            have hw_120 := hw
            rw [ht] at hP1
            obtain ⟨hP, hD⟩ := va_join (wr := [((ma 7), wI tC 600 (fun _ => 0)), ((ma 6), wI tC 600 zf)]) (w1 := [(mo, .inr (6, [.int th, .int 1, .ref (ma 2), .ref (ma 3), .ref (ma 4), .ref (ma 5), .ref (ma 6), .ref (ma 7), .ref (ma 8), .ref (ma 9), .ref (ma 10), .ref (ma 11), .ref (ma 12), .ref (ma 13), .ref (ma 14), .ref (ma 15), .ref (ma 16), .ref (ma 17), .ref (ma 18), .ref (ma 19), .ref (ma 20), .ref (ma 21), .int 0, .ref (ma 23), .ref (ma 24), .ref (ma 25), .ref (ma 26), .ref (ma 27), .ref (ma 28)])), ((ma 28), wI tC 5 af), ((ma 2), wI tC 600 (fun _ => 0))]) hP hD [0, 1, 2] [3, 4] rfl rfl (by decide) (by decide) hk1 hFc hP1 hD1
            generalize H1 = H at hP hS ⊢
            have hP : va_P D vwCl [((ma 7), wI tC 600 (fun _ => 0)), ((ma 6), wI tC 600 zf), (mo, .inr (6, [.int th, .int 1, .ref (ma 2), .ref (ma 3), .ref (ma 4), .ref (ma 5), .ref (ma 6), .ref (ma 7), .ref (ma 8), .ref (ma 9), .ref (ma 10), .ref (ma 11), .ref (ma 12), .ref (ma 13), .ref (ma 14), .ref (ma 15), .ref (ma 16), .ref (ma 17), .ref (ma 18), .ref (ma 19), .ref (ma 20), .ref (ma 21), .int 0, .ref (ma 23), .ref (ma 24), .ref (ma 25), .ref (ma 26), .ref (ma 27), .ref (ma 28)])), ((ma 28), wI tC 5 af), ((ma 2), wI tC 600 (fun _ => 0))] H := hP
            have hD : va_D A [((ma 7), wI tC 600 (fun _ => 0)), ((ma 6), wI tC 600 zf), (mo, .inr (6, [.int th, .int 1, .ref (ma 2), .ref (ma 3), .ref (ma 4), .ref (ma 5), .ref (ma 6), .ref (ma 7), .ref (ma 8), .ref (ma 9), .ref (ma 10), .ref (ma 11), .ref (ma 12), .ref (ma 13), .ref (ma 14), .ref (ma 15), .ref (ma 16), .ref (ma 17), .ref (ma 18), .ref (ma 19), .ref (ma 20), .ref (ma 21), .int 0, .ref (ma 23), .ref (ma 24), .ref (ma 25), .ref (ma 26), .ref (ma 27), .ref (ma 28)])), ((ma 28), wI tC 5 af), ((ma 2), wI tC 600 (fun _ => 0))] := hD
            have q1 : r_119 = 0 := hw_120.trans (by rw [hb0, hb1, hb2, hb3, hb4] <;> rfl)
            subst q1
            refine lv_istore_n (lv' := [(1, .int 0), (0, .ref mo)]) hx hb dX5_mayGoOn_4 rfl hl (by decide) rfl (fun ls hl => ?_)
            refine lv_iconst (v := 0) hx hb dX5_mayGoOn_5 (by decide) ?_
            refine lv_istore_n (lv' := [(2, .int 0), (1, .int 0), (0, .ref mo)]) hx hb dX5_mayGoOn_6 rfl hl (by decide) rfl (fun ls hl => ?_)
            refine lv_iconst (v := 0) hx hb dX5_mayGoOn_7 (by decide) ?_
            refine lv_istore_n (lv' := [(3, .int 0), (2, .int 0), (1, .int 0), (0, .ref mo)]) hx hb dX5_mayGoOn_8 rfl hl (by decide) rfl (fun ls hl => ?_)
            refine lv_iload_n hx hb dX5_mayGoOn_9 rfl (lv_at hl 0 rfl) ?_
            refine lv_iconst (v := 5) hx hb dX5_mayGoOn_10 (by decide) ?_
            refine lv_icmp_ge (tgt := 71) hx hb dX5_mayGoOn_11 (by decide) (fun hc => absurd hc (by decide)) (fun _ => ?_)
            refine lv_iload_n hx hb dX5_mayGoOn_14 rfl (lv_at hl 2 rfl) ?_
            refine lv_if_lt (tgt := 71) hx hb dX5_mayGoOn_15 (by decide) (fun hc => absurd hc (by decide)) (fun _ => ?_)
            refine lv_aload_n hx hb dX5_mayGoOn_18 rfl (lv_at hl 3 rfl) ?_
            refine va_get (D := D) (ci := 6) (v := .ref (ma 28)) (C := RX5) (T := TX5) (N := 29) hx hb hts in_X5_mayGoOn_X5 hown hK hP 2 rfl rfl 28 (by decide) w_0 (fun _ h9 => h9) rfl dX5_mayGoOn_19 ?_
            refine lv_iload_n hx hb dX5_mayGoOn_22 rfl (lv_at hl 0 rfl) ?_
            refine va_iald hx hb hK hP 3 0 rfl rfl (by unfold vp_in; decide) dX5_mayGoOn_23 ?_
            refine lv_topi (fun z_121 ez_121 => ?_)
            have fz_121 : z_121 = (-1) := ez_121.trans (by rw [show (0 : Int32).toNatClampNeg = 0 by decide, haf 0 (by decide), hb0] <;> rfl)
            subst fz_121
            refine lv_if_lt (tgt := 65) hx hb dX5_mayGoOn_24 (by decide) (fun _ => ?_) (fun hc => absurd (by decide) hc)
            refine lv_iinc (v := 1) (lv' := [(3, .int 1), (2, .int 0), (1, .int 0), (0, .ref mo)]) hx hb dX5_mayGoOn_65 hl (k := 0) rfl (by decide) (by decide) rfl (fun ls hl => ?_)
            refine lv_goto (tgt := 9) hx hb dX5_mayGoOn_68 (by decide) ?_
            refine lv_iload_n hx hb dX5_mayGoOn_9 rfl (lv_at hl 0 rfl) ?_
            refine lv_iconst (v := 5) hx hb dX5_mayGoOn_10 (by decide) ?_
            refine lv_icmp_ge (tgt := 71) hx hb dX5_mayGoOn_11 (by decide) (fun hc => absurd hc (by decide)) (fun _ => ?_)
            refine lv_iload_n hx hb dX5_mayGoOn_14 rfl (lv_at hl 2 rfl) ?_
            refine lv_if_lt (tgt := 71) hx hb dX5_mayGoOn_15 (by decide) (fun hc => absurd hc (by decide)) (fun _ => ?_)
            refine lv_aload_n hx hb dX5_mayGoOn_18 rfl (lv_at hl 3 rfl) ?_
            refine va_get (D := D) (ci := 6) (v := .ref (ma 28)) (C := RX5) (T := TX5) (N := 29) hx hb hts in_X5_mayGoOn_X5 hown hK hP 2 rfl rfl 28 (by decide) w_0 (fun _ h9 => h9) rfl dX5_mayGoOn_19 ?_
            refine lv_iload_n hx hb dX5_mayGoOn_22 rfl (lv_at hl 0 rfl) ?_
            refine va_iald hx hb hK hP 3 0 rfl rfl (by unfold vp_in; decide) dX5_mayGoOn_23 ?_
            refine lv_topi (fun z_122 ez_122 => ?_)
            have fz_122 : z_122 = 0 := ez_122.trans (by rw [show (1 : Int32).toNatClampNeg = 1 by decide, haf 1 (by decide), hb1] <;> rfl)
            subst fz_122
            refine lv_if_lt (tgt := 65) hx hb dX5_mayGoOn_24 (by decide) (fun hc => absurd hc (by decide)) (fun _ => ?_)
            refine lv_aload_n hx hb dX5_mayGoOn_27 rfl (lv_at hl 3 rfl) ?_
            refine va_get (D := D) (ci := 6) (v := .ref (ma 2)) (C := RX5) (T := TX5) (N := 29) hx hb hts in_X5_mayGoOn_X5 hown hK hP 2 rfl rfl 2 (by decide) w_1 (fun _ h9 => h9) rfl dX5_mayGoOn_28 ?_
            refine lv_aload_n hx hb dX5_mayGoOn_31 rfl (lv_at hl 3 rfl) ?_
            refine va_get (D := D) (ci := 6) (v := .ref (ma 28)) (C := RX5) (T := TX5) (N := 29) hx hb hts in_X5_mayGoOn_X5 hown hK hP 2 rfl rfl 28 (by decide) w_0 (fun _ h9 => h9) rfl dX5_mayGoOn_32 ?_
            refine lv_iload_n hx hb dX5_mayGoOn_35 rfl (lv_at hl 0 rfl) ?_
            refine va_iald hx hb hK hP 3 0 rfl rfl (by unfold vp_in; decide) dX5_mayGoOn_36 ?_
            refine lv_topi (fun z_123 ez_123 => ?_)
            have fz_123 : z_123 = 0 := ez_123.trans (by rw [show (1 : Int32).toNatClampNeg = 1 by decide, haf 1 (by decide), hb1] <;> rfl)
            subst fz_123
            refine va_iald hx hb hK hP 4 0 rfl rfl (by unfold vp_in; decide) dX5_mayGoOn_37 ?_
            refine lv_topi (fun z_124 ez_124 => ?_)
            have fz_124 : z_124 = 0 := ez_124.trans (rfl)
            subst fz_124
            refine lv_aload_n hx hb dX5_mayGoOn_38 rfl (lv_at hl 3 rfl) ?_
            refine va_get (D := D) (ci := 6) (v := .ref (ma 2)) (C := RX5) (T := TX5) (N := 29) hx hb hts in_X5_mayGoOn_X5 hown hK hP 2 rfl rfl 2 (by decide) w_1 (fun _ h9 => h9) rfl dX5_mayGoOn_39 ?_
            refine lv_iload_n hx hb dX5_mayGoOn_42 rfl (lv_at hl 2 rfl) ?_
            refine va_iald hx hb hK hP 4 0 rfl rfl (by unfold vp_in; decide) dX5_mayGoOn_43 ?_
            refine lv_topi (fun z_125 ez_125 => ?_)
            have fz_125 : z_125 = 0 := ez_125.trans (rfl)
            subst fz_125
            refine lv_icmp_ne (tgt := 65) hx hb dX5_mayGoOn_44 (by decide) (fun hc => absurd (by decide) hc) (fun _ => ?_)
            refine lv_iload_n hx hb dX5_mayGoOn_47 rfl (lv_at hl 1 rfl) ?_
            refine lv_iload_n hx hb dX5_mayGoOn_48 rfl (lv_at hl 0 rfl) ?_
            refine lv_aload_n hx hb dX5_mayGoOn_49 rfl (lv_at hl 3 rfl) ?_
            refine va_get (D := D) (ci := 6) (v := .ref (ma 7)) (C := RX5) (T := TX5) (N := 29) hx hb hts in_X5_mayGoOn_X5 hown hK hP 2 rfl rfl 7 (by decide) w_2 (fun _ h9 => h9) rfl dX5_mayGoOn_50 ?_
            refine lv_iload_n hx hb dX5_mayGoOn_53 rfl (lv_at hl 2 rfl) ?_
            refine va_iald hx hb hK hP 0 0 rfl rfl (by unfold vp_in; decide) dX5_mayGoOn_54 ?_
            refine lv_topi (fun z_126 ez_126 => ?_)
            have fz_126 : z_126 = 0 := ez_126.trans (rfl)
            subst fz_126
            refine lv_icmp_ne (tgt := 62) hx hb dX5_mayGoOn_55 (by decide) (fun _ => ?_) (fun hc => absurd hc (by decide))
            refine lv_iconst (v := 2) hx hb dX5_mayGoOn_62 (by decide) ?_
            refine lv_iadd hx hb dX5_mayGoOn_63 ?_
            refine lv_topi (fun z_127 ez_127 => ?_)
            have fz_127 : z_127 = 2 := ez_127.trans (by decide)
            subst fz_127
            refine lv_istore_n (lv' := [(2, .int 2), (3, .int 1), (1, .int 0), (0, .ref mo)]) hx hb dX5_mayGoOn_64 rfl hl (by decide) rfl (fun ls hl => ?_)
            refine lv_iinc (v := 2) (lv' := [(3, .int 2), (2, .int 2), (1, .int 0), (0, .ref mo)]) hx hb dX5_mayGoOn_65 hl (k := 1) rfl (by decide) (by decide) rfl (fun ls hl => ?_)
            refine lv_goto (tgt := 9) hx hb dX5_mayGoOn_68 (by decide) ?_
            refine lv_iload_n hx hb dX5_mayGoOn_9 rfl (lv_at hl 0 rfl) ?_
            refine lv_iconst (v := 5) hx hb dX5_mayGoOn_10 (by decide) ?_
            refine lv_icmp_ge (tgt := 71) hx hb dX5_mayGoOn_11 (by decide) (fun hc => absurd hc (by decide)) (fun _ => ?_)
            refine lv_iload_n hx hb dX5_mayGoOn_14 rfl (lv_at hl 2 rfl) ?_
            refine lv_if_lt (tgt := 71) hx hb dX5_mayGoOn_15 (by decide) (fun hc => absurd hc (by decide)) (fun _ => ?_)
            refine lv_aload_n hx hb dX5_mayGoOn_18 rfl (lv_at hl 3 rfl) ?_
            refine va_get (D := D) (ci := 6) (v := .ref (ma 28)) (C := RX5) (T := TX5) (N := 29) hx hb hts in_X5_mayGoOn_X5 hown hK hP 2 rfl rfl 28 (by decide) w_0 (fun _ h9 => h9) rfl dX5_mayGoOn_19 ?_
            refine lv_iload_n hx hb dX5_mayGoOn_22 rfl (lv_at hl 0 rfl) ?_
            refine va_iald hx hb hK hP 3 0 rfl rfl (by unfold vp_in; decide) dX5_mayGoOn_23 ?_
            refine lv_topi (fun z_128 ez_128 => ?_)
            have fz_128 : z_128 = (-1) := ez_128.trans (by rw [show (2 : Int32).toNatClampNeg = 2 by decide, haf 2 (by decide), hb2] <;> rfl)
            subst fz_128
            refine lv_if_lt (tgt := 65) hx hb dX5_mayGoOn_24 (by decide) (fun _ => ?_) (fun hc => absurd (by decide) hc)
            refine lv_iinc (v := 3) (lv' := [(3, .int 3), (2, .int 2), (1, .int 0), (0, .ref mo)]) hx hb dX5_mayGoOn_65 hl (k := 0) rfl (by decide) (by decide) rfl (fun ls hl => ?_)
            refine lv_goto (tgt := 9) hx hb dX5_mayGoOn_68 (by decide) ?_
            refine lv_iload_n hx hb dX5_mayGoOn_9 rfl (lv_at hl 0 rfl) ?_
            refine lv_iconst (v := 5) hx hb dX5_mayGoOn_10 (by decide) ?_
            refine lv_icmp_ge (tgt := 71) hx hb dX5_mayGoOn_11 (by decide) (fun hc => absurd hc (by decide)) (fun _ => ?_)
            refine lv_iload_n hx hb dX5_mayGoOn_14 rfl (lv_at hl 2 rfl) ?_
            refine lv_if_lt (tgt := 71) hx hb dX5_mayGoOn_15 (by decide) (fun hc => absurd hc (by decide)) (fun _ => ?_)
            refine lv_aload_n hx hb dX5_mayGoOn_18 rfl (lv_at hl 3 rfl) ?_
            refine va_get (D := D) (ci := 6) (v := .ref (ma 28)) (C := RX5) (T := TX5) (N := 29) hx hb hts in_X5_mayGoOn_X5 hown hK hP 2 rfl rfl 28 (by decide) w_0 (fun _ h9 => h9) rfl dX5_mayGoOn_19 ?_
            refine lv_iload_n hx hb dX5_mayGoOn_22 rfl (lv_at hl 0 rfl) ?_
            refine va_iald hx hb hK hP 3 0 rfl rfl (by unfold vp_in; decide) dX5_mayGoOn_23 ?_
            refine lv_topi (fun z_129 ez_129 => ?_)
            have fz_129 : z_129 = (-1) := ez_129.trans (by rw [show (3 : Int32).toNatClampNeg = 3 by decide, haf 3 (by decide), hb3] <;> rfl)
            subst fz_129
            refine lv_if_lt (tgt := 65) hx hb dX5_mayGoOn_24 (by decide) (fun _ => ?_) (fun hc => absurd (by decide) hc)
            refine lv_iinc (v := 4) (lv' := [(3, .int 4), (2, .int 2), (1, .int 0), (0, .ref mo)]) hx hb dX5_mayGoOn_65 hl (k := 0) rfl (by decide) (by decide) rfl (fun ls hl => ?_)
            refine lv_goto (tgt := 9) hx hb dX5_mayGoOn_68 (by decide) ?_
            refine lv_iload_n hx hb dX5_mayGoOn_9 rfl (lv_at hl 0 rfl) ?_
            refine lv_iconst (v := 5) hx hb dX5_mayGoOn_10 (by decide) ?_
            refine lv_icmp_ge (tgt := 71) hx hb dX5_mayGoOn_11 (by decide) (fun hc => absurd hc (by decide)) (fun _ => ?_)
            refine lv_iload_n hx hb dX5_mayGoOn_14 rfl (lv_at hl 2 rfl) ?_
            refine lv_if_lt (tgt := 71) hx hb dX5_mayGoOn_15 (by decide) (fun hc => absurd hc (by decide)) (fun _ => ?_)
            refine lv_aload_n hx hb dX5_mayGoOn_18 rfl (lv_at hl 3 rfl) ?_
            refine va_get (D := D) (ci := 6) (v := .ref (ma 28)) (C := RX5) (T := TX5) (N := 29) hx hb hts in_X5_mayGoOn_X5 hown hK hP 2 rfl rfl 28 (by decide) w_0 (fun _ h9 => h9) rfl dX5_mayGoOn_19 ?_
            refine lv_iload_n hx hb dX5_mayGoOn_22 rfl (lv_at hl 0 rfl) ?_
            refine va_iald hx hb hK hP 3 0 rfl rfl (by unfold vp_in; decide) dX5_mayGoOn_23 ?_
            refine lv_topi (fun z_130 ez_130 => ?_)
            have fz_130 : z_130 = (-1) := ez_130.trans (by rw [show (4 : Int32).toNatClampNeg = 4 by decide, haf 4 (by decide), hb4] <;> rfl)
            subst fz_130
            refine lv_if_lt (tgt := 65) hx hb dX5_mayGoOn_24 (by decide) (fun _ => ?_) (fun hc => absurd (by decide) hc)
            refine lv_iinc (v := 5) (lv' := [(3, .int 5), (2, .int 2), (1, .int 0), (0, .ref mo)]) hx hb dX5_mayGoOn_65 hl (k := 0) rfl (by decide) (by decide) rfl (fun ls hl => ?_)
            refine lv_goto (tgt := 9) hx hb dX5_mayGoOn_68 (by decide) ?_
            refine lv_iload_n hx hb dX5_mayGoOn_9 rfl (lv_at hl 0 rfl) ?_
            refine lv_iconst (v := 5) hx hb dX5_mayGoOn_10 (by decide) ?_
            refine lv_icmp_ge (tgt := 71) hx hb dX5_mayGoOn_11 (by decide) (fun _ => ?_) (fun hc => absurd (by decide) hc)
            refine lv_iload_n hx hb dX5_mayGoOn_71 rfl (lv_at hl 2 rfl) ?_
            refine lv_if_lt (tgt := 89) hx hb dX5_mayGoOn_72 (by decide) (fun hc => absurd hc (by decide)) (fun _ => ?_)
            refine lv_iload_n hx hb dX5_mayGoOn_75 rfl (lv_at hl 1 rfl) ?_
            refine lv_aload_n hx hb dX5_mayGoOn_76 rfl (lv_at hl 3 rfl) ?_
            refine va_get (D := D) (ci := 6) (v := .ref (ma 6)) (C := RX5) (T := TX5) (N := 29) hx hb hts in_X5_mayGoOn_X5 hown hK hP 2 rfl rfl 6 (by decide) w_3 (fun _ h9 => h9) rfl dX5_mayGoOn_77 ?_
            refine lv_iload_n hx hb dX5_mayGoOn_80 rfl (lv_at hl 2 rfl) ?_
            refine va_iald hx hb hK hP 1 0 rfl rfl (by unfold vp_in; decide) dX5_mayGoOn_81 ?_
            refine lv_topi (fun z_131 ez_131 => ?_)
            have fz_131 : z_131 = 5 := ez_131.trans (hzf)
            subst fz_131
            refine lv_icmp_le (tgt := 89) hx hb dX5_mayGoOn_82 (by decide) (fun _ => ?_) (fun hc => absurd (by decide) hc)
            refine lv_iconst (v := 0) hx hb dX5_mayGoOn_89 (by decide) ?_
            have hP9 := hP.sub (ws' := [(mo, .inr (6, [.int th, .int 1, .ref (ma 2), .ref (ma 3), .ref (ma 4), .ref (ma 5), .ref (ma 6), .ref (ma 7), .ref (ma 8), .ref (ma 9), .ref (ma 10), .ref (ma 11), .ref (ma 12), .ref (ma 13), .ref (ma 14), .ref (ma 15), .ref (ma 16), .ref (ma 17), .ref (ma 18), .ref (ma 19), .ref (ma 20), .ref (ma 21), .int 0, .ref (ma 23), .ref (ma 24), .ref (ma 25), .ref (ma 26), .ref (ma 27), .ref (ma 28)])), ((ma 28), wI tC 5 af), ((ma 2), wI tC 600 (fun _ => 0)), ((ma 7), wI tC 600 (fun _ => 0)), ((ma 6), wI tC 600 zf)]) [2, 3, 4, 0, 1] rfl
            have hD9 := hD.sub (ws' := [(mo, .inr (6, [.int th, .int 1, .ref (ma 2), .ref (ma 3), .ref (ma 4), .ref (ma 5), .ref (ma 6), .ref (ma 7), .ref (ma 8), .ref (ma 9), .ref (ma 10), .ref (ma 11), .ref (ma 12), .ref (ma 13), .ref (ma 14), .ref (ma 15), .ref (ma 16), .ref (ma 17), .ref (ma 18), .ref (ma 19), .ref (ma 20), .ref (ma 21), .int 0, .ref (ma 23), .ref (ma 24), .ref (ma 25), .ref (ma 26), .ref (ma 27), .ref (ma 28)])), ((ma 28), wI tC 5 af), ((ma 2), wI tC 600 (fun _ => 0)), ((ma 7), wI tC 600 (fun _ => 0)), ((ma 6), wI tC 600 zf)]) [2, 3, 4, 0, 1] (by decide) rfl
            refine W.widen (k := 0) (n := 0) (by omega) (by omega) ?_
            exact W.zret (v := 0) hx hb hr (by decide) (fun t ht hW => ⟨⟨0, (), rfl, (by unfold mayg cntb; rw [hb0, hb1, hb2, hb3, hb4] <;> decide), (by rw [ht]; exact hP9), va_K.moved hW.alike hK, hD9⟩, hS.F ht⟩) hS.2.2 dX5_mayGoOn_90 hlocks
          · skip
            refine lv_aload_n hx hb dX5_mayGoOn_0 rfl (lv_at hl 0 rfl) ?_
            have hPc := hP.sub (ws' := [(mo, .inr (6, [.int th, .int 1, .ref (ma 2), .ref (ma 3), .ref (ma 4), .ref (ma 5), .ref (ma 6), .ref (ma 7), .ref (ma 8), .ref (ma 9), .ref (ma 10), .ref (ma 11), .ref (ma 12), .ref (ma 13), .ref (ma 14), .ref (ma 15), .ref (ma 16), .ref (ma 17), .ref (ma 18), .ref (ma 19), .ref (ma 20), .ref (ma 21), .int 0, .ref (ma 23), .ref (ma 24), .ref (ma 25), .ref (ma 26), .ref (ma 27), .ref (ma 28)])), ((ma 28), wI tC 5 af), ((ma 2), wI tC 600 (fun _ => 0))]) [0, 1, 2] rfl
            have hDc := hD.sub (ws' := [(mo, .inr (6, [.int th, .int 1, .ref (ma 2), .ref (ma 3), .ref (ma 4), .ref (ma 5), .ref (ma 6), .ref (ma 7), .ref (ma 8), .ref (ma 9), .ref (ma 10), .ref (ma 11), .ref (ma 12), .ref (ma 13), .ref (ma 14), .ref (ma 15), .ref (ma 16), .ref (ma 17), .ref (ma 18), .ref (ma 19), .ref (ma 20), .ref (ma 21), .int 0, .ref (ma 23), .ref (ma 24), .ref (ma 25), .ref (ma 26), .ref (ma 27), .ref (ma 28)])), ((ma 28), wI tC 5 af), ((ma 2), wI tC 600 (fun _ => 0))]) [0, 1, 2] (by decide) rfl
            have hFc := va_free (wc := [(mo, .inr (6, [.int th, .int 1, .ref (ma 2), .ref (ma 3), .ref (ma 4), .ref (ma 5), .ref (ma 6), .ref (ma 7), .ref (ma 8), .ref (ma 9), .ref (ma 10), .ref (ma 11), .ref (ma 12), .ref (ma 13), .ref (ma 14), .ref (ma 15), .ref (ma 16), .ref (ma 17), .ref (ma 18), .ref (ma 19), .ref (ma 20), .ref (ma 21), .int 0, .ref (ma 23), .ref (ma 24), .ref (ma 25), .ref (ma 26), .ref (ma 27), .ref (ma 28)])), ((ma 28), wI tC 5 af), ((ma 2), wI tC 600 (fun _ => 0))]) hD hS hA [0, 1, 2] rfl
            refine va_calli (va_runV (As := []) (rest := []) ⟨hx, hb, hml, hown, hts⟩ (c_X5_greatest l hlt D tC dz s.heap.size mo ma th af bt haf) (cwV 0 hts gX5_mayGoOn_X5_greatest rfl rfl rfl (by decide +kernel) ⟨Nat.le_of_ble_eq_true rfl, Nat.le_of_ble_eq_true rfl⟩) ⟨pB_blind, va_recv hK hPc (ci := 6) (q0 := 0) rfl rfl, pB_at hPc hDc hK hN hE hS hFc⟩ rfl rfl hl.1 rfl (lv_room (Nat.le_of_ble_eq_true rfl)) dX5_mayGoOn_1 ⟨Nat.le_of_ble_eq_true rfl, Nat.le_of_ble_eq_true rfl⟩) hS (fun q _ h => hFc q h) hFc (fun r_132 u t H1 locs ht hvm hw hB hz1 hk1 hS => ?_)
            obtain ⟨hP1, _, hD1⟩ := hB
            have hw_133 := hw
            rw [ht] at hP1
            obtain ⟨hP, hD⟩ := va_join (wr := [((ma 7), wI tC 600 (fun _ => 0)), ((ma 6), wI tC 600 zf)]) (w1 := [(mo, .inr (6, [.int th, .int 1, .ref (ma 2), .ref (ma 3), .ref (ma 4), .ref (ma 5), .ref (ma 6), .ref (ma 7), .ref (ma 8), .ref (ma 9), .ref (ma 10), .ref (ma 11), .ref (ma 12), .ref (ma 13), .ref (ma 14), .ref (ma 15), .ref (ma 16), .ref (ma 17), .ref (ma 18), .ref (ma 19), .ref (ma 20), .ref (ma 21), .int 0, .ref (ma 23), .ref (ma 24), .ref (ma 25), .ref (ma 26), .ref (ma 27), .ref (ma 28)])), ((ma 28), wI tC 5 af), ((ma 2), wI tC 600 (fun _ => 0))]) hP hD [0, 1, 2] [3, 4] rfl rfl (by decide) (by decide) hk1 hFc hP1 hD1
            generalize H1 = H at hP hS ⊢
            have hP : va_P D vwCl [((ma 7), wI tC 600 (fun _ => 0)), ((ma 6), wI tC 600 zf), (mo, .inr (6, [.int th, .int 1, .ref (ma 2), .ref (ma 3), .ref (ma 4), .ref (ma 5), .ref (ma 6), .ref (ma 7), .ref (ma 8), .ref (ma 9), .ref (ma 10), .ref (ma 11), .ref (ma 12), .ref (ma 13), .ref (ma 14), .ref (ma 15), .ref (ma 16), .ref (ma 17), .ref (ma 18), .ref (ma 19), .ref (ma 20), .ref (ma 21), .int 0, .ref (ma 23), .ref (ma 24), .ref (ma 25), .ref (ma 26), .ref (ma 27), .ref (ma 28)])), ((ma 28), wI tC 5 af), ((ma 2), wI tC 600 (fun _ => 0))] H := hP
            have hD : va_D A [((ma 7), wI tC 600 (fun _ => 0)), ((ma 6), wI tC 600 zf), (mo, .inr (6, [.int th, .int 1, .ref (ma 2), .ref (ma 3), .ref (ma 4), .ref (ma 5), .ref (ma 6), .ref (ma 7), .ref (ma 8), .ref (ma 9), .ref (ma 10), .ref (ma 11), .ref (ma 12), .ref (ma 13), .ref (ma 14), .ref (ma 15), .ref (ma 16), .ref (ma 17), .ref (ma 18), .ref (ma 19), .ref (ma 20), .ref (ma 21), .int 0, .ref (ma 23), .ref (ma 24), .ref (ma 25), .ref (ma 26), .ref (ma 27), .ref (ma 28)])), ((ma 28), wI tC 5 af), ((ma 2), wI tC 600 (fun _ => 0))] := hD
            have q1 : r_132 = 0 := hw_133.trans (by rw [hb0, hb1, hb2, hb3, hb4] <;> rfl)
            subst q1
            refine lv_istore_n (lv' := [(1, .int 0), (0, .ref mo)]) hx hb dX5_mayGoOn_4 rfl hl (by decide) rfl (fun ls hl => ?_)
            refine lv_iconst (v := 0) hx hb dX5_mayGoOn_5 (by decide) ?_
            refine lv_istore_n (lv' := [(2, .int 0), (1, .int 0), (0, .ref mo)]) hx hb dX5_mayGoOn_6 rfl hl (by decide) rfl (fun ls hl => ?_)
            refine lv_iconst (v := 0) hx hb dX5_mayGoOn_7 (by decide) ?_
            refine lv_istore_n (lv' := [(3, .int 0), (2, .int 0), (1, .int 0), (0, .ref mo)]) hx hb dX5_mayGoOn_8 rfl hl (by decide) rfl (fun ls hl => ?_)
            refine lv_iload_n hx hb dX5_mayGoOn_9 rfl (lv_at hl 0 rfl) ?_
            refine lv_iconst (v := 5) hx hb dX5_mayGoOn_10 (by decide) ?_
            refine lv_icmp_ge (tgt := 71) hx hb dX5_mayGoOn_11 (by decide) (fun hc => absurd hc (by decide)) (fun _ => ?_)
            refine lv_iload_n hx hb dX5_mayGoOn_14 rfl (lv_at hl 2 rfl) ?_
            refine lv_if_lt (tgt := 71) hx hb dX5_mayGoOn_15 (by decide) (fun hc => absurd hc (by decide)) (fun _ => ?_)
            refine lv_aload_n hx hb dX5_mayGoOn_18 rfl (lv_at hl 3 rfl) ?_
            refine va_get (D := D) (ci := 6) (v := .ref (ma 28)) (C := RX5) (T := TX5) (N := 29) hx hb hts in_X5_mayGoOn_X5 hown hK hP 2 rfl rfl 28 (by decide) w_0 (fun _ h9 => h9) rfl dX5_mayGoOn_19 ?_
            refine lv_iload_n hx hb dX5_mayGoOn_22 rfl (lv_at hl 0 rfl) ?_
            refine va_iald hx hb hK hP 3 0 rfl rfl (by unfold vp_in; decide) dX5_mayGoOn_23 ?_
            refine lv_topi (fun z_134 ez_134 => ?_)
            have fz_134 : z_134 = (-1) := ez_134.trans (by rw [show (0 : Int32).toNatClampNeg = 0 by decide, haf 0 (by decide), hb0] <;> rfl)
            subst fz_134
            refine lv_if_lt (tgt := 65) hx hb dX5_mayGoOn_24 (by decide) (fun _ => ?_) (fun hc => absurd (by decide) hc)
            refine lv_iinc (v := 1) (lv' := [(3, .int 1), (2, .int 0), (1, .int 0), (0, .ref mo)]) hx hb dX5_mayGoOn_65 hl (k := 0) rfl (by decide) (by decide) rfl (fun ls hl => ?_)
            refine lv_goto (tgt := 9) hx hb dX5_mayGoOn_68 (by decide) ?_
            refine lv_iload_n hx hb dX5_mayGoOn_9 rfl (lv_at hl 0 rfl) ?_
            refine lv_iconst (v := 5) hx hb dX5_mayGoOn_10 (by decide) ?_
            refine lv_icmp_ge (tgt := 71) hx hb dX5_mayGoOn_11 (by decide) (fun hc => absurd hc (by decide)) (fun _ => ?_)
            refine lv_iload_n hx hb dX5_mayGoOn_14 rfl (lv_at hl 2 rfl) ?_
            refine lv_if_lt (tgt := 71) hx hb dX5_mayGoOn_15 (by decide) (fun hc => absurd hc (by decide)) (fun _ => ?_)
            refine lv_aload_n hx hb dX5_mayGoOn_18 rfl (lv_at hl 3 rfl) ?_
            refine va_get (D := D) (ci := 6) (v := .ref (ma 28)) (C := RX5) (T := TX5) (N := 29) hx hb hts in_X5_mayGoOn_X5 hown hK hP 2 rfl rfl 28 (by decide) w_0 (fun _ h9 => h9) rfl dX5_mayGoOn_19 ?_
            refine lv_iload_n hx hb dX5_mayGoOn_22 rfl (lv_at hl 0 rfl) ?_
            refine va_iald hx hb hK hP 3 0 rfl rfl (by unfold vp_in; decide) dX5_mayGoOn_23 ?_
            refine lv_topi (fun z_135 ez_135 => ?_)
            have fz_135 : z_135 = 0 := ez_135.trans (by rw [show (1 : Int32).toNatClampNeg = 1 by decide, haf 1 (by decide), hb1] <;> rfl)
            subst fz_135
            refine lv_if_lt (tgt := 65) hx hb dX5_mayGoOn_24 (by decide) (fun hc => absurd hc (by decide)) (fun _ => ?_)
            refine lv_aload_n hx hb dX5_mayGoOn_27 rfl (lv_at hl 3 rfl) ?_
            refine va_get (D := D) (ci := 6) (v := .ref (ma 2)) (C := RX5) (T := TX5) (N := 29) hx hb hts in_X5_mayGoOn_X5 hown hK hP 2 rfl rfl 2 (by decide) w_1 (fun _ h9 => h9) rfl dX5_mayGoOn_28 ?_
            refine lv_aload_n hx hb dX5_mayGoOn_31 rfl (lv_at hl 3 rfl) ?_
            refine va_get (D := D) (ci := 6) (v := .ref (ma 28)) (C := RX5) (T := TX5) (N := 29) hx hb hts in_X5_mayGoOn_X5 hown hK hP 2 rfl rfl 28 (by decide) w_0 (fun _ h9 => h9) rfl dX5_mayGoOn_32 ?_
            refine lv_iload_n hx hb dX5_mayGoOn_35 rfl (lv_at hl 0 rfl) ?_
            refine va_iald hx hb hK hP 3 0 rfl rfl (by unfold vp_in; decide) dX5_mayGoOn_36 ?_
            refine lv_topi (fun z_136 ez_136 => ?_)
            have fz_136 : z_136 = 0 := ez_136.trans (by rw [show (1 : Int32).toNatClampNeg = 1 by decide, haf 1 (by decide), hb1] <;> rfl)
            subst fz_136
            refine va_iald hx hb hK hP 4 0 rfl rfl (by unfold vp_in; decide) dX5_mayGoOn_37 ?_
            refine lv_topi (fun z_137 ez_137 => ?_)
            have fz_137 : z_137 = 0 := ez_137.trans (rfl)
            subst fz_137
            refine lv_aload_n hx hb dX5_mayGoOn_38 rfl (lv_at hl 3 rfl) ?_
            refine va_get (D := D) (ci := 6) (v := .ref (ma 2)) (C := RX5) (T := TX5) (N := 29) hx hb hts in_X5_mayGoOn_X5 hown hK hP 2 rfl rfl 2 (by decide) w_1 (fun _ h9 => h9) rfl dX5_mayGoOn_39 ?_
            refine lv_iload_n hx hb dX5_mayGoOn_42 rfl (lv_at hl 2 rfl) ?_
            refine va_iald hx hb hK hP 4 0 rfl rfl (by unfold vp_in; decide) dX5_mayGoOn_43 ?_
            refine lv_topi (fun z_138 ez_138 => ?_)
            have fz_138 : z_138 = 0 := ez_138.trans (rfl)
            subst fz_138
            refine lv_icmp_ne (tgt := 65) hx hb dX5_mayGoOn_44 (by decide) (fun hc => absurd (by decide) hc) (fun _ => ?_)
            refine lv_iload_n hx hb dX5_mayGoOn_47 rfl (lv_at hl 1 rfl) ?_
            refine lv_iload_n hx hb dX5_mayGoOn_48 rfl (lv_at hl 0 rfl) ?_
            refine lv_aload_n hx hb dX5_mayGoOn_49 rfl (lv_at hl 3 rfl) ?_
            refine va_get (D := D) (ci := 6) (v := .ref (ma 7)) (C := RX5) (T := TX5) (N := 29) hx hb hts in_X5_mayGoOn_X5 hown hK hP 2 rfl rfl 7 (by decide) w_2 (fun _ h9 => h9) rfl dX5_mayGoOn_50 ?_
            refine lv_iload_n hx hb dX5_mayGoOn_53 rfl (lv_at hl 2 rfl) ?_
            refine va_iald hx hb hK hP 0 0 rfl rfl (by unfold vp_in; decide) dX5_mayGoOn_54 ?_
            refine lv_topi (fun z_139 ez_139 => ?_)
            have fz_139 : z_139 = 0 := ez_139.trans (rfl)
            subst fz_139
            refine lv_icmp_ne (tgt := 62) hx hb dX5_mayGoOn_55 (by decide) (fun _ => ?_) (fun hc => absurd hc (by decide))
            refine lv_iconst (v := 2) hx hb dX5_mayGoOn_62 (by decide) ?_
            refine lv_iadd hx hb dX5_mayGoOn_63 ?_
            refine lv_topi (fun z_140 ez_140 => ?_)
            have fz_140 : z_140 = 2 := ez_140.trans (by decide)
            subst fz_140
            refine lv_istore_n (lv' := [(2, .int 2), (3, .int 1), (1, .int 0), (0, .ref mo)]) hx hb dX5_mayGoOn_64 rfl hl (by decide) rfl (fun ls hl => ?_)
            refine lv_iinc (v := 2) (lv' := [(3, .int 2), (2, .int 2), (1, .int 0), (0, .ref mo)]) hx hb dX5_mayGoOn_65 hl (k := 1) rfl (by decide) (by decide) rfl (fun ls hl => ?_)
            refine lv_goto (tgt := 9) hx hb dX5_mayGoOn_68 (by decide) ?_
            refine lv_iload_n hx hb dX5_mayGoOn_9 rfl (lv_at hl 0 rfl) ?_
            refine lv_iconst (v := 5) hx hb dX5_mayGoOn_10 (by decide) ?_
            refine lv_icmp_ge (tgt := 71) hx hb dX5_mayGoOn_11 (by decide) (fun hc => absurd hc (by decide)) (fun _ => ?_)
            refine lv_iload_n hx hb dX5_mayGoOn_14 rfl (lv_at hl 2 rfl) ?_
            refine lv_if_lt (tgt := 71) hx hb dX5_mayGoOn_15 (by decide) (fun hc => absurd hc (by decide)) (fun _ => ?_)
            refine lv_aload_n hx hb dX5_mayGoOn_18 rfl (lv_at hl 3 rfl) ?_
            refine va_get (D := D) (ci := 6) (v := .ref (ma 28)) (C := RX5) (T := TX5) (N := 29) hx hb hts in_X5_mayGoOn_X5 hown hK hP 2 rfl rfl 28 (by decide) w_0 (fun _ h9 => h9) rfl dX5_mayGoOn_19 ?_
            refine lv_iload_n hx hb dX5_mayGoOn_22 rfl (lv_at hl 0 rfl) ?_
            refine va_iald hx hb hK hP 3 0 rfl rfl (by unfold vp_in; decide) dX5_mayGoOn_23 ?_
            refine lv_topi (fun z_141 ez_141 => ?_)
            have fz_141 : z_141 = (-1) := ez_141.trans (by rw [show (2 : Int32).toNatClampNeg = 2 by decide, haf 2 (by decide), hb2] <;> rfl)
            subst fz_141
            refine lv_if_lt (tgt := 65) hx hb dX5_mayGoOn_24 (by decide) (fun _ => ?_) (fun hc => absurd (by decide) hc)
            refine lv_iinc (v := 3) (lv' := [(3, .int 3), (2, .int 2), (1, .int 0), (0, .ref mo)]) hx hb dX5_mayGoOn_65 hl (k := 0) rfl (by decide) (by decide) rfl (fun ls hl => ?_)
            refine lv_goto (tgt := 9) hx hb dX5_mayGoOn_68 (by decide) ?_
            refine lv_iload_n hx hb dX5_mayGoOn_9 rfl (lv_at hl 0 rfl) ?_
            refine lv_iconst (v := 5) hx hb dX5_mayGoOn_10 (by decide) ?_
            refine lv_icmp_ge (tgt := 71) hx hb dX5_mayGoOn_11 (by decide) (fun hc => absurd hc (by decide)) (fun _ => ?_)
            refine lv_iload_n hx hb dX5_mayGoOn_14 rfl (lv_at hl 2 rfl) ?_
            refine lv_if_lt (tgt := 71) hx hb dX5_mayGoOn_15 (by decide) (fun hc => absurd hc (by decide)) (fun _ => ?_)
            refine lv_aload_n hx hb dX5_mayGoOn_18 rfl (lv_at hl 3 rfl) ?_
            refine va_get (D := D) (ci := 6) (v := .ref (ma 28)) (C := RX5) (T := TX5) (N := 29) hx hb hts in_X5_mayGoOn_X5 hown hK hP 2 rfl rfl 28 (by decide) w_0 (fun _ h9 => h9) rfl dX5_mayGoOn_19 ?_
            refine lv_iload_n hx hb dX5_mayGoOn_22 rfl (lv_at hl 0 rfl) ?_
            refine va_iald hx hb hK hP 3 0 rfl rfl (by unfold vp_in; decide) dX5_mayGoOn_23 ?_
            refine lv_topi (fun z_142 ez_142 => ?_)
            have fz_142 : z_142 = (-1) := ez_142.trans (by rw [show (3 : Int32).toNatClampNeg = 3 by decide, haf 3 (by decide), hb3] <;> rfl)
            subst fz_142
            refine lv_if_lt (tgt := 65) hx hb dX5_mayGoOn_24 (by decide) (fun _ => ?_) (fun hc => absurd (by decide) hc)
            refine lv_iinc (v := 4) (lv' := [(3, .int 4), (2, .int 2), (1, .int 0), (0, .ref mo)]) hx hb dX5_mayGoOn_65 hl (k := 0) rfl (by decide) (by decide) rfl (fun ls hl => ?_)
            refine lv_goto (tgt := 9) hx hb dX5_mayGoOn_68 (by decide) ?_
            refine lv_iload_n hx hb dX5_mayGoOn_9 rfl (lv_at hl 0 rfl) ?_
            refine lv_iconst (v := 5) hx hb dX5_mayGoOn_10 (by decide) ?_
            refine lv_icmp_ge (tgt := 71) hx hb dX5_mayGoOn_11 (by decide) (fun hc => absurd hc (by decide)) (fun _ => ?_)
            refine lv_iload_n hx hb dX5_mayGoOn_14 rfl (lv_at hl 2 rfl) ?_
            refine lv_if_lt (tgt := 71) hx hb dX5_mayGoOn_15 (by decide) (fun hc => absurd hc (by decide)) (fun _ => ?_)
            refine lv_aload_n hx hb dX5_mayGoOn_18 rfl (lv_at hl 3 rfl) ?_
            refine va_get (D := D) (ci := 6) (v := .ref (ma 28)) (C := RX5) (T := TX5) (N := 29) hx hb hts in_X5_mayGoOn_X5 hown hK hP 2 rfl rfl 28 (by decide) w_0 (fun _ h9 => h9) rfl dX5_mayGoOn_19 ?_
            refine lv_iload_n hx hb dX5_mayGoOn_22 rfl (lv_at hl 0 rfl) ?_
            refine va_iald hx hb hK hP 3 0 rfl rfl (by unfold vp_in; decide) dX5_mayGoOn_23 ?_
            refine lv_topi (fun z_143 ez_143 => ?_)
            have fz_143 : z_143 = 0 := ez_143.trans (by rw [show (4 : Int32).toNatClampNeg = 4 by decide, haf 4 (by decide), hb4] <;> rfl)
            subst fz_143
            refine lv_if_lt (tgt := 65) hx hb dX5_mayGoOn_24 (by decide) (fun hc => absurd hc (by decide)) (fun _ => ?_)
            refine lv_aload_n hx hb dX5_mayGoOn_27 rfl (lv_at hl 3 rfl) ?_
            refine va_get (D := D) (ci := 6) (v := .ref (ma 2)) (C := RX5) (T := TX5) (N := 29) hx hb hts in_X5_mayGoOn_X5 hown hK hP 2 rfl rfl 2 (by decide) w_1 (fun _ h9 => h9) rfl dX5_mayGoOn_28 ?_
            refine lv_aload_n hx hb dX5_mayGoOn_31 rfl (lv_at hl 3 rfl) ?_
            refine va_get (D := D) (ci := 6) (v := .ref (ma 28)) (C := RX5) (T := TX5) (N := 29) hx hb hts in_X5_mayGoOn_X5 hown hK hP 2 rfl rfl 28 (by decide) w_0 (fun _ h9 => h9) rfl dX5_mayGoOn_32 ?_
            refine lv_iload_n hx hb dX5_mayGoOn_35 rfl (lv_at hl 0 rfl) ?_
            refine va_iald hx hb hK hP 3 0 rfl rfl (by unfold vp_in; decide) dX5_mayGoOn_36 ?_
            refine lv_topi (fun z_144 ez_144 => ?_)
            have fz_144 : z_144 = 0 := ez_144.trans (by rw [show (4 : Int32).toNatClampNeg = 4 by decide, haf 4 (by decide), hb4] <;> rfl)
            subst fz_144
            refine va_iald hx hb hK hP 4 0 rfl rfl (by unfold vp_in; decide) dX5_mayGoOn_37 ?_
            refine lv_topi (fun z_145 ez_145 => ?_)
            have fz_145 : z_145 = 0 := ez_145.trans (rfl)
            subst fz_145
            refine lv_aload_n hx hb dX5_mayGoOn_38 rfl (lv_at hl 3 rfl) ?_
            refine va_get (D := D) (ci := 6) (v := .ref (ma 2)) (C := RX5) (T := TX5) (N := 29) hx hb hts in_X5_mayGoOn_X5 hown hK hP 2 rfl rfl 2 (by decide) w_1 (fun _ h9 => h9) rfl dX5_mayGoOn_39 ?_
            refine lv_iload_n hx hb dX5_mayGoOn_42 rfl (lv_at hl 2 rfl) ?_
            refine va_iald hx hb hK hP 4 0 rfl rfl (by unfold vp_in; decide) dX5_mayGoOn_43 ?_
            refine lv_topi (fun z_146 ez_146 => ?_)
            have fz_146 : z_146 = 0 := ez_146.trans (rfl)
            subst fz_146
            refine lv_icmp_ne (tgt := 65) hx hb dX5_mayGoOn_44 (by decide) (fun hc => absurd (by decide) hc) (fun _ => ?_)
            refine lv_iload_n hx hb dX5_mayGoOn_47 rfl (lv_at hl 1 rfl) ?_
            refine lv_iload_n hx hb dX5_mayGoOn_48 rfl (lv_at hl 0 rfl) ?_
            refine lv_aload_n hx hb dX5_mayGoOn_49 rfl (lv_at hl 3 rfl) ?_
            refine va_get (D := D) (ci := 6) (v := .ref (ma 7)) (C := RX5) (T := TX5) (N := 29) hx hb hts in_X5_mayGoOn_X5 hown hK hP 2 rfl rfl 7 (by decide) w_2 (fun _ h9 => h9) rfl dX5_mayGoOn_50 ?_
            refine lv_iload_n hx hb dX5_mayGoOn_53 rfl (lv_at hl 2 rfl) ?_
            refine va_iald hx hb hK hP 0 0 rfl rfl (by unfold vp_in; decide) dX5_mayGoOn_54 ?_
            refine lv_topi (fun z_147 ez_147 => ?_)
            have fz_147 : z_147 = 0 := ez_147.trans (rfl)
            subst fz_147
            refine lv_icmp_ne (tgt := 62) hx hb dX5_mayGoOn_55 (by decide) (fun _ => ?_) (fun hc => absurd hc (by decide))
            refine lv_iconst (v := 2) hx hb dX5_mayGoOn_62 (by decide) ?_
            refine lv_iadd hx hb dX5_mayGoOn_63 ?_
            refine lv_topi (fun z_148 ez_148 => ?_)
            have fz_148 : z_148 = 4 := ez_148.trans (by decide)
            subst fz_148
            refine lv_istore_n (lv' := [(2, .int 4), (3, .int 4), (1, .int 0), (0, .ref mo)]) hx hb dX5_mayGoOn_64 rfl hl (by decide) rfl (fun ls hl => ?_)
            refine lv_iinc (v := 5) (lv' := [(3, .int 5), (2, .int 4), (1, .int 0), (0, .ref mo)]) hx hb dX5_mayGoOn_65 hl (k := 1) rfl (by decide) (by decide) rfl (fun ls hl => ?_)
            refine lv_goto (tgt := 9) hx hb dX5_mayGoOn_68 (by decide) ?_
            refine lv_iload_n hx hb dX5_mayGoOn_9 rfl (lv_at hl 0 rfl) ?_
            refine lv_iconst (v := 5) hx hb dX5_mayGoOn_10 (by decide) ?_
            refine lv_icmp_ge (tgt := 71) hx hb dX5_mayGoOn_11 (by decide) (fun _ => ?_) (fun hc => absurd (by decide) hc)
            refine lv_iload_n hx hb dX5_mayGoOn_71 rfl (lv_at hl 2 rfl) ?_
            refine lv_if_lt (tgt := 89) hx hb dX5_mayGoOn_72 (by decide) (fun hc => absurd hc (by decide)) (fun _ => ?_)
            refine lv_iload_n hx hb dX5_mayGoOn_75 rfl (lv_at hl 1 rfl) ?_
            refine lv_aload_n hx hb dX5_mayGoOn_76 rfl (lv_at hl 3 rfl) ?_
            refine va_get (D := D) (ci := 6) (v := .ref (ma 6)) (C := RX5) (T := TX5) (N := 29) hx hb hts in_X5_mayGoOn_X5 hown hK hP 2 rfl rfl 6 (by decide) w_3 (fun _ h9 => h9) rfl dX5_mayGoOn_77 ?_
            refine lv_iload_n hx hb dX5_mayGoOn_80 rfl (lv_at hl 2 rfl) ?_
            refine va_iald hx hb hK hP 1 0 rfl rfl (by unfold vp_in; decide) dX5_mayGoOn_81 ?_
            refine lv_topi (fun z_149 ez_149 => ?_)
            have fz_149 : z_149 = 5 := ez_149.trans (hzf)
            subst fz_149
            refine lv_icmp_le (tgt := 89) hx hb dX5_mayGoOn_82 (by decide) (fun _ => ?_) (fun hc => absurd (by decide) hc)
            refine lv_iconst (v := 0) hx hb dX5_mayGoOn_89 (by decide) ?_
            have hP9 := hP.sub (ws' := [(mo, .inr (6, [.int th, .int 1, .ref (ma 2), .ref (ma 3), .ref (ma 4), .ref (ma 5), .ref (ma 6), .ref (ma 7), .ref (ma 8), .ref (ma 9), .ref (ma 10), .ref (ma 11), .ref (ma 12), .ref (ma 13), .ref (ma 14), .ref (ma 15), .ref (ma 16), .ref (ma 17), .ref (ma 18), .ref (ma 19), .ref (ma 20), .ref (ma 21), .int 0, .ref (ma 23), .ref (ma 24), .ref (ma 25), .ref (ma 26), .ref (ma 27), .ref (ma 28)])), ((ma 28), wI tC 5 af), ((ma 2), wI tC 600 (fun _ => 0)), ((ma 7), wI tC 600 (fun _ => 0)), ((ma 6), wI tC 600 zf)]) [2, 3, 4, 0, 1] rfl
            have hD9 := hD.sub (ws' := [(mo, .inr (6, [.int th, .int 1, .ref (ma 2), .ref (ma 3), .ref (ma 4), .ref (ma 5), .ref (ma 6), .ref (ma 7), .ref (ma 8), .ref (ma 9), .ref (ma 10), .ref (ma 11), .ref (ma 12), .ref (ma 13), .ref (ma 14), .ref (ma 15), .ref (ma 16), .ref (ma 17), .ref (ma 18), .ref (ma 19), .ref (ma 20), .ref (ma 21), .int 0, .ref (ma 23), .ref (ma 24), .ref (ma 25), .ref (ma 26), .ref (ma 27), .ref (ma 28)])), ((ma 28), wI tC 5 af), ((ma 2), wI tC 600 (fun _ => 0)), ((ma 7), wI tC 600 (fun _ => 0)), ((ma 6), wI tC 600 zf)]) [2, 3, 4, 0, 1] (by decide) rfl
            refine W.widen (k := 0) (n := 0) (by omega) (by omega) ?_
            exact W.zret (v := 0) hx hb hr (by decide) (fun t ht hW => ⟨⟨0, (), rfl, (by unfold mayg cntb; rw [hb0, hb1, hb2, hb3, hb4] <;> decide), (by rw [ht]; exact hP9), va_K.moved hW.alike hK, hD9⟩, hS.F ht⟩) hS.2.2 dX5_mayGoOn_90 hlocks
        · skip
          cases hb4 : bt 4
          · skip
            refine lv_aload_n hx hb dX5_mayGoOn_0 rfl (lv_at hl 0 rfl) ?_
            have hPc := hP.sub (ws' := [(mo, .inr (6, [.int th, .int 1, .ref (ma 2), .ref (ma 3), .ref (ma 4), .ref (ma 5), .ref (ma 6), .ref (ma 7), .ref (ma 8), .ref (ma 9), .ref (ma 10), .ref (ma 11), .ref (ma 12), .ref (ma 13), .ref (ma 14), .ref (ma 15), .ref (ma 16), .ref (ma 17), .ref (ma 18), .ref (ma 19), .ref (ma 20), .ref (ma 21), .int 0, .ref (ma 23), .ref (ma 24), .ref (ma 25), .ref (ma 26), .ref (ma 27), .ref (ma 28)])), ((ma 28), wI tC 5 af), ((ma 2), wI tC 600 (fun _ => 0))]) [0, 1, 2] rfl
            have hDc := hD.sub (ws' := [(mo, .inr (6, [.int th, .int 1, .ref (ma 2), .ref (ma 3), .ref (ma 4), .ref (ma 5), .ref (ma 6), .ref (ma 7), .ref (ma 8), .ref (ma 9), .ref (ma 10), .ref (ma 11), .ref (ma 12), .ref (ma 13), .ref (ma 14), .ref (ma 15), .ref (ma 16), .ref (ma 17), .ref (ma 18), .ref (ma 19), .ref (ma 20), .ref (ma 21), .int 0, .ref (ma 23), .ref (ma 24), .ref (ma 25), .ref (ma 26), .ref (ma 27), .ref (ma 28)])), ((ma 28), wI tC 5 af), ((ma 2), wI tC 600 (fun _ => 0))]) [0, 1, 2] (by decide) rfl
            have hFc := va_free (wc := [(mo, .inr (6, [.int th, .int 1, .ref (ma 2), .ref (ma 3), .ref (ma 4), .ref (ma 5), .ref (ma 6), .ref (ma 7), .ref (ma 8), .ref (ma 9), .ref (ma 10), .ref (ma 11), .ref (ma 12), .ref (ma 13), .ref (ma 14), .ref (ma 15), .ref (ma 16), .ref (ma 17), .ref (ma 18), .ref (ma 19), .ref (ma 20), .ref (ma 21), .int 0, .ref (ma 23), .ref (ma 24), .ref (ma 25), .ref (ma 26), .ref (ma 27), .ref (ma 28)])), ((ma 28), wI tC 5 af), ((ma 2), wI tC 600 (fun _ => 0))]) hD hS hA [0, 1, 2] rfl
            refine va_calli (va_runV (As := []) (rest := []) ⟨hx, hb, hml, hown, hts⟩ (c_X5_greatest l hlt D tC dz s.heap.size mo ma th af bt haf) (cwV 0 hts gX5_mayGoOn_X5_greatest rfl rfl rfl (by decide +kernel) ⟨Nat.le_of_ble_eq_true rfl, Nat.le_of_ble_eq_true rfl⟩) ⟨pB_blind, va_recv hK hPc (ci := 6) (q0 := 0) rfl rfl, pB_at hPc hDc hK hN hE hS hFc⟩ rfl rfl hl.1 rfl (lv_room (Nat.le_of_ble_eq_true rfl)) dX5_mayGoOn_1 ⟨Nat.le_of_ble_eq_true rfl, Nat.le_of_ble_eq_true rfl⟩) hS (fun q _ h => hFc q h) hFc (fun r_150 u t H1 locs ht hvm hw hB hz1 hk1 hS => ?_)
            obtain ⟨hP1, _, hD1⟩ := hB
            have hw_151 := hw
            rw [ht] at hP1
            obtain ⟨hP, hD⟩ := va_join (wr := [((ma 7), wI tC 600 (fun _ => 0)), ((ma 6), wI tC 600 zf)]) (w1 := [(mo, .inr (6, [.int th, .int 1, .ref (ma 2), .ref (ma 3), .ref (ma 4), .ref (ma 5), .ref (ma 6), .ref (ma 7), .ref (ma 8), .ref (ma 9), .ref (ma 10), .ref (ma 11), .ref (ma 12), .ref (ma 13), .ref (ma 14), .ref (ma 15), .ref (ma 16), .ref (ma 17), .ref (ma 18), .ref (ma 19), .ref (ma 20), .ref (ma 21), .int 0, .ref (ma 23), .ref (ma 24), .ref (ma 25), .ref (ma 26), .ref (ma 27), .ref (ma 28)])), ((ma 28), wI tC 5 af), ((ma 2), wI tC 600 (fun _ => 0))]) hP hD [0, 1, 2] [3, 4] rfl rfl (by decide) (by decide) hk1 hFc hP1 hD1
            generalize H1 = H at hP hS ⊢
            have hP : va_P D vwCl [((ma 7), wI tC 600 (fun _ => 0)), ((ma 6), wI tC 600 zf), (mo, .inr (6, [.int th, .int 1, .ref (ma 2), .ref (ma 3), .ref (ma 4), .ref (ma 5), .ref (ma 6), .ref (ma 7), .ref (ma 8), .ref (ma 9), .ref (ma 10), .ref (ma 11), .ref (ma 12), .ref (ma 13), .ref (ma 14), .ref (ma 15), .ref (ma 16), .ref (ma 17), .ref (ma 18), .ref (ma 19), .ref (ma 20), .ref (ma 21), .int 0, .ref (ma 23), .ref (ma 24), .ref (ma 25), .ref (ma 26), .ref (ma 27), .ref (ma 28)])), ((ma 28), wI tC 5 af), ((ma 2), wI tC 600 (fun _ => 0))] H := hP
            have hD : va_D A [((ma 7), wI tC 600 (fun _ => 0)), ((ma 6), wI tC 600 zf), (mo, .inr (6, [.int th, .int 1, .ref (ma 2), .ref (ma 3), .ref (ma 4), .ref (ma 5), .ref (ma 6), .ref (ma 7), .ref (ma 8), .ref (ma 9), .ref (ma 10), .ref (ma 11), .ref (ma 12), .ref (ma 13), .ref (ma 14), .ref (ma 15), .ref (ma 16), .ref (ma 17), .ref (ma 18), .ref (ma 19), .ref (ma 20), .ref (ma 21), .int 0, .ref (ma 23), .ref (ma 24), .ref (ma 25), .ref (ma 26), .ref (ma 27), .ref (ma 28)])), ((ma 28), wI tC 5 af), ((ma 2), wI tC 600 (fun _ => 0))] := hD
            have q1 : r_150 = 0 := hw_151.trans (by rw [hb0, hb1, hb2, hb3, hb4] <;> rfl)
            subst q1
            refine lv_istore_n (lv' := [(1, .int 0), (0, .ref mo)]) hx hb dX5_mayGoOn_4 rfl hl (by decide) rfl (fun ls hl => ?_)
            refine lv_iconst (v := 0) hx hb dX5_mayGoOn_5 (by decide) ?_
            refine lv_istore_n (lv' := [(2, .int 0), (1, .int 0), (0, .ref mo)]) hx hb dX5_mayGoOn_6 rfl hl (by decide) rfl (fun ls hl => ?_)
            refine lv_iconst (v := 0) hx hb dX5_mayGoOn_7 (by decide) ?_
            refine lv_istore_n (lv' := [(3, .int 0), (2, .int 0), (1, .int 0), (0, .ref mo)]) hx hb dX5_mayGoOn_8 rfl hl (by decide) rfl (fun ls hl => ?_)
            refine lv_iload_n hx hb dX5_mayGoOn_9 rfl (lv_at hl 0 rfl) ?_
            refine lv_iconst (v := 5) hx hb dX5_mayGoOn_10 (by decide) ?_
            refine lv_icmp_ge (tgt := 71) hx hb dX5_mayGoOn_11 (by decide) (fun hc => absurd hc (by decide)) (fun _ => ?_)
            refine lv_iload_n hx hb dX5_mayGoOn_14 rfl (lv_at hl 2 rfl) ?_
            refine lv_if_lt (tgt := 71) hx hb dX5_mayGoOn_15 (by decide) (fun hc => absurd hc (by decide)) (fun _ => ?_)
            refine lv_aload_n hx hb dX5_mayGoOn_18 rfl (lv_at hl 3 rfl) ?_
            refine va_get (D := D) (ci := 6) (v := .ref (ma 28)) (C := RX5) (T := TX5) (N := 29) hx hb hts in_X5_mayGoOn_X5 hown hK hP 2 rfl rfl 28 (by decide) w_0 (fun _ h9 => h9) rfl dX5_mayGoOn_19 ?_
            refine lv_iload_n hx hb dX5_mayGoOn_22 rfl (lv_at hl 0 rfl) ?_
            refine va_iald hx hb hK hP 3 0 rfl rfl (by unfold vp_in; decide) dX5_mayGoOn_23 ?_
            refine lv_topi (fun z_152 ez_152 => ?_)
            have fz_152 : z_152 = (-1) := ez_152.trans (by rw [show (0 : Int32).toNatClampNeg = 0 by decide, haf 0 (by decide), hb0] <;> rfl)
            subst fz_152
            refine lv_if_lt (tgt := 65) hx hb dX5_mayGoOn_24 (by decide) (fun _ => ?_) (fun hc => absurd (by decide) hc)
            refine lv_iinc (v := 1) (lv' := [(3, .int 1), (2, .int 0), (1, .int 0), (0, .ref mo)]) hx hb dX5_mayGoOn_65 hl (k := 0) rfl (by decide) (by decide) rfl (fun ls hl => ?_)
            refine lv_goto (tgt := 9) hx hb dX5_mayGoOn_68 (by decide) ?_
            refine lv_iload_n hx hb dX5_mayGoOn_9 rfl (lv_at hl 0 rfl) ?_
            refine lv_iconst (v := 5) hx hb dX5_mayGoOn_10 (by decide) ?_
            refine lv_icmp_ge (tgt := 71) hx hb dX5_mayGoOn_11 (by decide) (fun hc => absurd hc (by decide)) (fun _ => ?_)
            refine lv_iload_n hx hb dX5_mayGoOn_14 rfl (lv_at hl 2 rfl) ?_
            refine lv_if_lt (tgt := 71) hx hb dX5_mayGoOn_15 (by decide) (fun hc => absurd hc (by decide)) (fun _ => ?_)
            refine lv_aload_n hx hb dX5_mayGoOn_18 rfl (lv_at hl 3 rfl) ?_
            refine va_get (D := D) (ci := 6) (v := .ref (ma 28)) (C := RX5) (T := TX5) (N := 29) hx hb hts in_X5_mayGoOn_X5 hown hK hP 2 rfl rfl 28 (by decide) w_0 (fun _ h9 => h9) rfl dX5_mayGoOn_19 ?_
            refine lv_iload_n hx hb dX5_mayGoOn_22 rfl (lv_at hl 0 rfl) ?_
            refine va_iald hx hb hK hP 3 0 rfl rfl (by unfold vp_in; decide) dX5_mayGoOn_23 ?_
            refine lv_topi (fun z_153 ez_153 => ?_)
            have fz_153 : z_153 = 0 := ez_153.trans (by rw [show (1 : Int32).toNatClampNeg = 1 by decide, haf 1 (by decide), hb1] <;> rfl)
            subst fz_153
            refine lv_if_lt (tgt := 65) hx hb dX5_mayGoOn_24 (by decide) (fun hc => absurd hc (by decide)) (fun _ => ?_)
            refine lv_aload_n hx hb dX5_mayGoOn_27 rfl (lv_at hl 3 rfl) ?_
            refine va_get (D := D) (ci := 6) (v := .ref (ma 2)) (C := RX5) (T := TX5) (N := 29) hx hb hts in_X5_mayGoOn_X5 hown hK hP 2 rfl rfl 2 (by decide) w_1 (fun _ h9 => h9) rfl dX5_mayGoOn_28 ?_
            refine lv_aload_n hx hb dX5_mayGoOn_31 rfl (lv_at hl 3 rfl) ?_
            refine va_get (D := D) (ci := 6) (v := .ref (ma 28)) (C := RX5) (T := TX5) (N := 29) hx hb hts in_X5_mayGoOn_X5 hown hK hP 2 rfl rfl 28 (by decide) w_0 (fun _ h9 => h9) rfl dX5_mayGoOn_32 ?_
            refine lv_iload_n hx hb dX5_mayGoOn_35 rfl (lv_at hl 0 rfl) ?_
            refine va_iald hx hb hK hP 3 0 rfl rfl (by unfold vp_in; decide) dX5_mayGoOn_36 ?_
            refine lv_topi (fun z_154 ez_154 => ?_)
            have fz_154 : z_154 = 0 := ez_154.trans (by rw [show (1 : Int32).toNatClampNeg = 1 by decide, haf 1 (by decide), hb1] <;> rfl)
            subst fz_154
            refine va_iald hx hb hK hP 4 0 rfl rfl (by unfold vp_in; decide) dX5_mayGoOn_37 ?_
            refine lv_topi (fun z_155 ez_155 => ?_)
            have fz_155 : z_155 = 0 := ez_155.trans (rfl)
            subst fz_155
            refine lv_aload_n hx hb dX5_mayGoOn_38 rfl (lv_at hl 3 rfl) ?_
            refine va_get (D := D) (ci := 6) (v := .ref (ma 2)) (C := RX5) (T := TX5) (N := 29) hx hb hts in_X5_mayGoOn_X5 hown hK hP 2 rfl rfl 2 (by decide) w_1 (fun _ h9 => h9) rfl dX5_mayGoOn_39 ?_
            refine lv_iload_n hx hb dX5_mayGoOn_42 rfl (lv_at hl 2 rfl) ?_
            refine va_iald hx hb hK hP 4 0 rfl rfl (by unfold vp_in; decide) dX5_mayGoOn_43 ?_
            refine lv_topi (fun z_156 ez_156 => ?_)
            have fz_156 : z_156 = 0 := ez_156.trans (rfl)
            subst fz_156
            refine lv_icmp_ne (tgt := 65) hx hb dX5_mayGoOn_44 (by decide) (fun hc => absurd (by decide) hc) (fun _ => ?_)
            refine lv_iload_n hx hb dX5_mayGoOn_47 rfl (lv_at hl 1 rfl) ?_
            refine lv_iload_n hx hb dX5_mayGoOn_48 rfl (lv_at hl 0 rfl) ?_
            refine lv_aload_n hx hb dX5_mayGoOn_49 rfl (lv_at hl 3 rfl) ?_
            refine va_get (D := D) (ci := 6) (v := .ref (ma 7)) (C := RX5) (T := TX5) (N := 29) hx hb hts in_X5_mayGoOn_X5 hown hK hP 2 rfl rfl 7 (by decide) w_2 (fun _ h9 => h9) rfl dX5_mayGoOn_50 ?_
            refine lv_iload_n hx hb dX5_mayGoOn_53 rfl (lv_at hl 2 rfl) ?_
            refine va_iald hx hb hK hP 0 0 rfl rfl (by unfold vp_in; decide) dX5_mayGoOn_54 ?_
            refine lv_topi (fun z_157 ez_157 => ?_)
            have fz_157 : z_157 = 0 := ez_157.trans (rfl)
            subst fz_157
            refine lv_icmp_ne (tgt := 62) hx hb dX5_mayGoOn_55 (by decide) (fun _ => ?_) (fun hc => absurd hc (by decide))
            refine lv_iconst (v := 2) hx hb dX5_mayGoOn_62 (by decide) ?_
            refine lv_iadd hx hb dX5_mayGoOn_63 ?_
            refine lv_topi (fun z_158 ez_158 => ?_)
            have fz_158 : z_158 = 2 := ez_158.trans (by decide)
            subst fz_158
            refine lv_istore_n (lv' := [(2, .int 2), (3, .int 1), (1, .int 0), (0, .ref mo)]) hx hb dX5_mayGoOn_64 rfl hl (by decide) rfl (fun ls hl => ?_)
            refine lv_iinc (v := 2) (lv' := [(3, .int 2), (2, .int 2), (1, .int 0), (0, .ref mo)]) hx hb dX5_mayGoOn_65 hl (k := 1) rfl (by decide) (by decide) rfl (fun ls hl => ?_)
            refine lv_goto (tgt := 9) hx hb dX5_mayGoOn_68 (by decide) ?_
            refine lv_iload_n hx hb dX5_mayGoOn_9 rfl (lv_at hl 0 rfl) ?_
            refine lv_iconst (v := 5) hx hb dX5_mayGoOn_10 (by decide) ?_
            refine lv_icmp_ge (tgt := 71) hx hb dX5_mayGoOn_11 (by decide) (fun hc => absurd hc (by decide)) (fun _ => ?_)
            refine lv_iload_n hx hb dX5_mayGoOn_14 rfl (lv_at hl 2 rfl) ?_
            refine lv_if_lt (tgt := 71) hx hb dX5_mayGoOn_15 (by decide) (fun hc => absurd hc (by decide)) (fun _ => ?_)
            refine lv_aload_n hx hb dX5_mayGoOn_18 rfl (lv_at hl 3 rfl) ?_
            refine va_get (D := D) (ci := 6) (v := .ref (ma 28)) (C := RX5) (T := TX5) (N := 29) hx hb hts in_X5_mayGoOn_X5 hown hK hP 2 rfl rfl 28 (by decide) w_0 (fun _ h9 => h9) rfl dX5_mayGoOn_19 ?_
            refine lv_iload_n hx hb dX5_mayGoOn_22 rfl (lv_at hl 0 rfl) ?_
            refine va_iald hx hb hK hP 3 0 rfl rfl (by unfold vp_in; decide) dX5_mayGoOn_23 ?_
            refine lv_topi (fun z_159 ez_159 => ?_)
            have fz_159 : z_159 = (-1) := ez_159.trans (by rw [show (2 : Int32).toNatClampNeg = 2 by decide, haf 2 (by decide), hb2] <;> rfl)
            subst fz_159
            refine lv_if_lt (tgt := 65) hx hb dX5_mayGoOn_24 (by decide) (fun _ => ?_) (fun hc => absurd (by decide) hc)
            refine lv_iinc (v := 3) (lv' := [(3, .int 3), (2, .int 2), (1, .int 0), (0, .ref mo)]) hx hb dX5_mayGoOn_65 hl (k := 0) rfl (by decide) (by decide) rfl (fun ls hl => ?_)
            refine lv_goto (tgt := 9) hx hb dX5_mayGoOn_68 (by decide) ?_
            refine lv_iload_n hx hb dX5_mayGoOn_9 rfl (lv_at hl 0 rfl) ?_
            refine lv_iconst (v := 5) hx hb dX5_mayGoOn_10 (by decide) ?_
            refine lv_icmp_ge (tgt := 71) hx hb dX5_mayGoOn_11 (by decide) (fun hc => absurd hc (by decide)) (fun _ => ?_)
            refine lv_iload_n hx hb dX5_mayGoOn_14 rfl (lv_at hl 2 rfl) ?_
            refine lv_if_lt (tgt := 71) hx hb dX5_mayGoOn_15 (by decide) (fun hc => absurd hc (by decide)) (fun _ => ?_)
            refine lv_aload_n hx hb dX5_mayGoOn_18 rfl (lv_at hl 3 rfl) ?_
            refine va_get (D := D) (ci := 6) (v := .ref (ma 28)) (C := RX5) (T := TX5) (N := 29) hx hb hts in_X5_mayGoOn_X5 hown hK hP 2 rfl rfl 28 (by decide) w_0 (fun _ h9 => h9) rfl dX5_mayGoOn_19 ?_
            refine lv_iload_n hx hb dX5_mayGoOn_22 rfl (lv_at hl 0 rfl) ?_
            refine va_iald hx hb hK hP 3 0 rfl rfl (by unfold vp_in; decide) dX5_mayGoOn_23 ?_
            refine lv_topi (fun z_160 ez_160 => ?_)
            have fz_160 : z_160 = 0 := ez_160.trans (by rw [show (3 : Int32).toNatClampNeg = 3 by decide, haf 3 (by decide), hb3] <;> rfl)
            subst fz_160
            refine lv_if_lt (tgt := 65) hx hb dX5_mayGoOn_24 (by decide) (fun hc => absurd hc (by decide)) (fun _ => ?_)
            refine lv_aload_n hx hb dX5_mayGoOn_27 rfl (lv_at hl 3 rfl) ?_
            refine va_get (D := D) (ci := 6) (v := .ref (ma 2)) (C := RX5) (T := TX5) (N := 29) hx hb hts in_X5_mayGoOn_X5 hown hK hP 2 rfl rfl 2 (by decide) w_1 (fun _ h9 => h9) rfl dX5_mayGoOn_28 ?_
            refine lv_aload_n hx hb dX5_mayGoOn_31 rfl (lv_at hl 3 rfl) ?_
            refine va_get (D := D) (ci := 6) (v := .ref (ma 28)) (C := RX5) (T := TX5) (N := 29) hx hb hts in_X5_mayGoOn_X5 hown hK hP 2 rfl rfl 28 (by decide) w_0 (fun _ h9 => h9) rfl dX5_mayGoOn_32 ?_
            refine lv_iload_n hx hb dX5_mayGoOn_35 rfl (lv_at hl 0 rfl) ?_
            refine va_iald hx hb hK hP 3 0 rfl rfl (by unfold vp_in; decide) dX5_mayGoOn_36 ?_
            refine lv_topi (fun z_161 ez_161 => ?_)
            have fz_161 : z_161 = 0 := ez_161.trans (by rw [show (3 : Int32).toNatClampNeg = 3 by decide, haf 3 (by decide), hb3] <;> rfl)
            subst fz_161
            refine va_iald hx hb hK hP 4 0 rfl rfl (by unfold vp_in; decide) dX5_mayGoOn_37 ?_
            refine lv_topi (fun z_162 ez_162 => ?_)
            have fz_162 : z_162 = 0 := ez_162.trans (rfl)
            subst fz_162
            refine lv_aload_n hx hb dX5_mayGoOn_38 rfl (lv_at hl 3 rfl) ?_
            refine va_get (D := D) (ci := 6) (v := .ref (ma 2)) (C := RX5) (T := TX5) (N := 29) hx hb hts in_X5_mayGoOn_X5 hown hK hP 2 rfl rfl 2 (by decide) w_1 (fun _ h9 => h9) rfl dX5_mayGoOn_39 ?_
            refine lv_iload_n hx hb dX5_mayGoOn_42 rfl (lv_at hl 2 rfl) ?_
            refine va_iald hx hb hK hP 4 0 rfl rfl (by unfold vp_in; decide) dX5_mayGoOn_43 ?_
            refine lv_topi (fun z_163 ez_163 => ?_)
            have fz_163 : z_163 = 0 := ez_163.trans (rfl)
            subst fz_163
            refine lv_icmp_ne (tgt := 65) hx hb dX5_mayGoOn_44 (by decide) (fun hc => absurd (by decide) hc) (fun _ => ?_)
            refine lv_iload_n hx hb dX5_mayGoOn_47 rfl (lv_at hl 1 rfl) ?_
            refine lv_iload_n hx hb dX5_mayGoOn_48 rfl (lv_at hl 0 rfl) ?_
            refine lv_aload_n hx hb dX5_mayGoOn_49 rfl (lv_at hl 3 rfl) ?_
            refine va_get (D := D) (ci := 6) (v := .ref (ma 7)) (C := RX5) (T := TX5) (N := 29) hx hb hts in_X5_mayGoOn_X5 hown hK hP 2 rfl rfl 7 (by decide) w_2 (fun _ h9 => h9) rfl dX5_mayGoOn_50 ?_
            refine lv_iload_n hx hb dX5_mayGoOn_53 rfl (lv_at hl 2 rfl) ?_
            refine va_iald hx hb hK hP 0 0 rfl rfl (by unfold vp_in; decide) dX5_mayGoOn_54 ?_
            refine lv_topi (fun z_164 ez_164 => ?_)
            have fz_164 : z_164 = 0 := ez_164.trans (rfl)
            subst fz_164
            refine lv_icmp_ne (tgt := 62) hx hb dX5_mayGoOn_55 (by decide) (fun _ => ?_) (fun hc => absurd hc (by decide))
            refine lv_iconst (v := 2) hx hb dX5_mayGoOn_62 (by decide) ?_
            refine lv_iadd hx hb dX5_mayGoOn_63 ?_
            refine lv_topi (fun z_165 ez_165 => ?_)
            have fz_165 : z_165 = 4 := ez_165.trans (by decide)
            subst fz_165
            refine lv_istore_n (lv' := [(2, .int 4), (3, .int 3), (1, .int 0), (0, .ref mo)]) hx hb dX5_mayGoOn_64 rfl hl (by decide) rfl (fun ls hl => ?_)
            refine lv_iinc (v := 4) (lv' := [(3, .int 4), (2, .int 4), (1, .int 0), (0, .ref mo)]) hx hb dX5_mayGoOn_65 hl (k := 1) rfl (by decide) (by decide) rfl (fun ls hl => ?_)
            refine lv_goto (tgt := 9) hx hb dX5_mayGoOn_68 (by decide) ?_
            refine lv_iload_n hx hb dX5_mayGoOn_9 rfl (lv_at hl 0 rfl) ?_
            refine lv_iconst (v := 5) hx hb dX5_mayGoOn_10 (by decide) ?_
            refine lv_icmp_ge (tgt := 71) hx hb dX5_mayGoOn_11 (by decide) (fun hc => absurd hc (by decide)) (fun _ => ?_)
            refine lv_iload_n hx hb dX5_mayGoOn_14 rfl (lv_at hl 2 rfl) ?_
            refine lv_if_lt (tgt := 71) hx hb dX5_mayGoOn_15 (by decide) (fun hc => absurd hc (by decide)) (fun _ => ?_)
            refine lv_aload_n hx hb dX5_mayGoOn_18 rfl (lv_at hl 3 rfl) ?_
            refine va_get (D := D) (ci := 6) (v := .ref (ma 28)) (C := RX5) (T := TX5) (N := 29) hx hb hts in_X5_mayGoOn_X5 hown hK hP 2 rfl rfl 28 (by decide) w_0 (fun _ h9 => h9) rfl dX5_mayGoOn_19 ?_
            refine lv_iload_n hx hb dX5_mayGoOn_22 rfl (lv_at hl 0 rfl) ?_
            refine va_iald hx hb hK hP 3 0 rfl rfl (by unfold vp_in; decide) dX5_mayGoOn_23 ?_
            refine lv_topi (fun z_166 ez_166 => ?_)
            have fz_166 : z_166 = (-1) := ez_166.trans (by rw [show (4 : Int32).toNatClampNeg = 4 by decide, haf 4 (by decide), hb4] <;> rfl)
            subst fz_166
            refine lv_if_lt (tgt := 65) hx hb dX5_mayGoOn_24 (by decide) (fun _ => ?_) (fun hc => absurd (by decide) hc)
            refine lv_iinc (v := 5) (lv' := [(3, .int 5), (2, .int 4), (1, .int 0), (0, .ref mo)]) hx hb dX5_mayGoOn_65 hl (k := 0) rfl (by decide) (by decide) rfl (fun ls hl => ?_)
            refine lv_goto (tgt := 9) hx hb dX5_mayGoOn_68 (by decide) ?_
            refine lv_iload_n hx hb dX5_mayGoOn_9 rfl (lv_at hl 0 rfl) ?_
            refine lv_iconst (v := 5) hx hb dX5_mayGoOn_10 (by decide) ?_
            refine lv_icmp_ge (tgt := 71) hx hb dX5_mayGoOn_11 (by decide) (fun _ => ?_) (fun hc => absurd (by decide) hc)
            refine lv_iload_n hx hb dX5_mayGoOn_71 rfl (lv_at hl 2 rfl) ?_
            refine lv_if_lt (tgt := 89) hx hb dX5_mayGoOn_72 (by decide) (fun hc => absurd hc (by decide)) (fun _ => ?_)
            refine lv_iload_n hx hb dX5_mayGoOn_75 rfl (lv_at hl 1 rfl) ?_
            refine lv_aload_n hx hb dX5_mayGoOn_76 rfl (lv_at hl 3 rfl) ?_
            refine va_get (D := D) (ci := 6) (v := .ref (ma 6)) (C := RX5) (T := TX5) (N := 29) hx hb hts in_X5_mayGoOn_X5 hown hK hP 2 rfl rfl 6 (by decide) w_3 (fun _ h9 => h9) rfl dX5_mayGoOn_77 ?_
            refine lv_iload_n hx hb dX5_mayGoOn_80 rfl (lv_at hl 2 rfl) ?_
            refine va_iald hx hb hK hP 1 0 rfl rfl (by unfold vp_in; decide) dX5_mayGoOn_81 ?_
            refine lv_topi (fun z_167 ez_167 => ?_)
            have fz_167 : z_167 = 5 := ez_167.trans (hzf)
            subst fz_167
            refine lv_icmp_le (tgt := 89) hx hb dX5_mayGoOn_82 (by decide) (fun _ => ?_) (fun hc => absurd (by decide) hc)
            refine lv_iconst (v := 0) hx hb dX5_mayGoOn_89 (by decide) ?_
            have hP9 := hP.sub (ws' := [(mo, .inr (6, [.int th, .int 1, .ref (ma 2), .ref (ma 3), .ref (ma 4), .ref (ma 5), .ref (ma 6), .ref (ma 7), .ref (ma 8), .ref (ma 9), .ref (ma 10), .ref (ma 11), .ref (ma 12), .ref (ma 13), .ref (ma 14), .ref (ma 15), .ref (ma 16), .ref (ma 17), .ref (ma 18), .ref (ma 19), .ref (ma 20), .ref (ma 21), .int 0, .ref (ma 23), .ref (ma 24), .ref (ma 25), .ref (ma 26), .ref (ma 27), .ref (ma 28)])), ((ma 28), wI tC 5 af), ((ma 2), wI tC 600 (fun _ => 0)), ((ma 7), wI tC 600 (fun _ => 0)), ((ma 6), wI tC 600 zf)]) [2, 3, 4, 0, 1] rfl
            have hD9 := hD.sub (ws' := [(mo, .inr (6, [.int th, .int 1, .ref (ma 2), .ref (ma 3), .ref (ma 4), .ref (ma 5), .ref (ma 6), .ref (ma 7), .ref (ma 8), .ref (ma 9), .ref (ma 10), .ref (ma 11), .ref (ma 12), .ref (ma 13), .ref (ma 14), .ref (ma 15), .ref (ma 16), .ref (ma 17), .ref (ma 18), .ref (ma 19), .ref (ma 20), .ref (ma 21), .int 0, .ref (ma 23), .ref (ma 24), .ref (ma 25), .ref (ma 26), .ref (ma 27), .ref (ma 28)])), ((ma 28), wI tC 5 af), ((ma 2), wI tC 600 (fun _ => 0)), ((ma 7), wI tC 600 (fun _ => 0)), ((ma 6), wI tC 600 zf)]) [2, 3, 4, 0, 1] (by decide) rfl
            refine W.widen (k := 0) (n := 0) (by omega) (by omega) ?_
            exact W.zret (v := 0) hx hb hr (by decide) (fun t ht hW => ⟨⟨0, (), rfl, (by unfold mayg cntb; rw [hb0, hb1, hb2, hb3, hb4] <;> decide), (by rw [ht]; exact hP9), va_K.moved hW.alike hK, hD9⟩, hS.F ht⟩) hS.2.2 dX5_mayGoOn_90 hlocks
          · skip
            refine lv_aload_n hx hb dX5_mayGoOn_0 rfl (lv_at hl 0 rfl) ?_
            have hPc := hP.sub (ws' := [(mo, .inr (6, [.int th, .int 1, .ref (ma 2), .ref (ma 3), .ref (ma 4), .ref (ma 5), .ref (ma 6), .ref (ma 7), .ref (ma 8), .ref (ma 9), .ref (ma 10), .ref (ma 11), .ref (ma 12), .ref (ma 13), .ref (ma 14), .ref (ma 15), .ref (ma 16), .ref (ma 17), .ref (ma 18), .ref (ma 19), .ref (ma 20), .ref (ma 21), .int 0, .ref (ma 23), .ref (ma 24), .ref (ma 25), .ref (ma 26), .ref (ma 27), .ref (ma 28)])), ((ma 28), wI tC 5 af), ((ma 2), wI tC 600 (fun _ => 0))]) [0, 1, 2] rfl
            have hDc := hD.sub (ws' := [(mo, .inr (6, [.int th, .int 1, .ref (ma 2), .ref (ma 3), .ref (ma 4), .ref (ma 5), .ref (ma 6), .ref (ma 7), .ref (ma 8), .ref (ma 9), .ref (ma 10), .ref (ma 11), .ref (ma 12), .ref (ma 13), .ref (ma 14), .ref (ma 15), .ref (ma 16), .ref (ma 17), .ref (ma 18), .ref (ma 19), .ref (ma 20), .ref (ma 21), .int 0, .ref (ma 23), .ref (ma 24), .ref (ma 25), .ref (ma 26), .ref (ma 27), .ref (ma 28)])), ((ma 28), wI tC 5 af), ((ma 2), wI tC 600 (fun _ => 0))]) [0, 1, 2] (by decide) rfl
            have hFc := va_free (wc := [(mo, .inr (6, [.int th, .int 1, .ref (ma 2), .ref (ma 3), .ref (ma 4), .ref (ma 5), .ref (ma 6), .ref (ma 7), .ref (ma 8), .ref (ma 9), .ref (ma 10), .ref (ma 11), .ref (ma 12), .ref (ma 13), .ref (ma 14), .ref (ma 15), .ref (ma 16), .ref (ma 17), .ref (ma 18), .ref (ma 19), .ref (ma 20), .ref (ma 21), .int 0, .ref (ma 23), .ref (ma 24), .ref (ma 25), .ref (ma 26), .ref (ma 27), .ref (ma 28)])), ((ma 28), wI tC 5 af), ((ma 2), wI tC 600 (fun _ => 0))]) hD hS hA [0, 1, 2] rfl
            refine va_calli (va_runV (As := []) (rest := []) ⟨hx, hb, hml, hown, hts⟩ (c_X5_greatest l hlt D tC dz s.heap.size mo ma th af bt haf) (cwV 0 hts gX5_mayGoOn_X5_greatest rfl rfl rfl (by decide +kernel) ⟨Nat.le_of_ble_eq_true rfl, Nat.le_of_ble_eq_true rfl⟩) ⟨pB_blind, va_recv hK hPc (ci := 6) (q0 := 0) rfl rfl, pB_at hPc hDc hK hN hE hS hFc⟩ rfl rfl hl.1 rfl (lv_room (Nat.le_of_ble_eq_true rfl)) dX5_mayGoOn_1 ⟨Nat.le_of_ble_eq_true rfl, Nat.le_of_ble_eq_true rfl⟩) hS (fun q _ h => hFc q h) hFc (fun r_168 u t H1 locs ht hvm hw hB hz1 hk1 hS => ?_)
            obtain ⟨hP1, _, hD1⟩ := hB
            have hw_169 := hw
            rw [ht] at hP1
            obtain ⟨hP, hD⟩ := va_join (wr := [((ma 7), wI tC 600 (fun _ => 0)), ((ma 6), wI tC 600 zf)]) (w1 := [(mo, .inr (6, [.int th, .int 1, .ref (ma 2), .ref (ma 3), .ref (ma 4), .ref (ma 5), .ref (ma 6), .ref (ma 7), .ref (ma 8), .ref (ma 9), .ref (ma 10), .ref (ma 11), .ref (ma 12), .ref (ma 13), .ref (ma 14), .ref (ma 15), .ref (ma 16), .ref (ma 17), .ref (ma 18), .ref (ma 19), .ref (ma 20), .ref (ma 21), .int 0, .ref (ma 23), .ref (ma 24), .ref (ma 25), .ref (ma 26), .ref (ma 27), .ref (ma 28)])), ((ma 28), wI tC 5 af), ((ma 2), wI tC 600 (fun _ => 0))]) hP hD [0, 1, 2] [3, 4] rfl rfl (by decide) (by decide) hk1 hFc hP1 hD1
            generalize H1 = H at hP hS ⊢
            have hP : va_P D vwCl [((ma 7), wI tC 600 (fun _ => 0)), ((ma 6), wI tC 600 zf), (mo, .inr (6, [.int th, .int 1, .ref (ma 2), .ref (ma 3), .ref (ma 4), .ref (ma 5), .ref (ma 6), .ref (ma 7), .ref (ma 8), .ref (ma 9), .ref (ma 10), .ref (ma 11), .ref (ma 12), .ref (ma 13), .ref (ma 14), .ref (ma 15), .ref (ma 16), .ref (ma 17), .ref (ma 18), .ref (ma 19), .ref (ma 20), .ref (ma 21), .int 0, .ref (ma 23), .ref (ma 24), .ref (ma 25), .ref (ma 26), .ref (ma 27), .ref (ma 28)])), ((ma 28), wI tC 5 af), ((ma 2), wI tC 600 (fun _ => 0))] H := hP
            have hD : va_D A [((ma 7), wI tC 600 (fun _ => 0)), ((ma 6), wI tC 600 zf), (mo, .inr (6, [.int th, .int 1, .ref (ma 2), .ref (ma 3), .ref (ma 4), .ref (ma 5), .ref (ma 6), .ref (ma 7), .ref (ma 8), .ref (ma 9), .ref (ma 10), .ref (ma 11), .ref (ma 12), .ref (ma 13), .ref (ma 14), .ref (ma 15), .ref (ma 16), .ref (ma 17), .ref (ma 18), .ref (ma 19), .ref (ma 20), .ref (ma 21), .int 0, .ref (ma 23), .ref (ma 24), .ref (ma 25), .ref (ma 26), .ref (ma 27), .ref (ma 28)])), ((ma 28), wI tC 5 af), ((ma 2), wI tC 600 (fun _ => 0))] := hD
            have q1 : r_168 = 0 := hw_169.trans (by rw [hb0, hb1, hb2, hb3, hb4] <;> rfl)
            subst q1
            refine lv_istore_n (lv' := [(1, .int 0), (0, .ref mo)]) hx hb dX5_mayGoOn_4 rfl hl (by decide) rfl (fun ls hl => ?_)
            refine lv_iconst (v := 0) hx hb dX5_mayGoOn_5 (by decide) ?_
            refine lv_istore_n (lv' := [(2, .int 0), (1, .int 0), (0, .ref mo)]) hx hb dX5_mayGoOn_6 rfl hl (by decide) rfl (fun ls hl => ?_)
            refine lv_iconst (v := 0) hx hb dX5_mayGoOn_7 (by decide) ?_
            refine lv_istore_n (lv' := [(3, .int 0), (2, .int 0), (1, .int 0), (0, .ref mo)]) hx hb dX5_mayGoOn_8 rfl hl (by decide) rfl (fun ls hl => ?_)
            refine lv_iload_n hx hb dX5_mayGoOn_9 rfl (lv_at hl 0 rfl) ?_
            refine lv_iconst (v := 5) hx hb dX5_mayGoOn_10 (by decide) ?_
            refine lv_icmp_ge (tgt := 71) hx hb dX5_mayGoOn_11 (by decide) (fun hc => absurd hc (by decide)) (fun _ => ?_)
            refine lv_iload_n hx hb dX5_mayGoOn_14 rfl (lv_at hl 2 rfl) ?_
            refine lv_if_lt (tgt := 71) hx hb dX5_mayGoOn_15 (by decide) (fun hc => absurd hc (by decide)) (fun _ => ?_)
            refine lv_aload_n hx hb dX5_mayGoOn_18 rfl (lv_at hl 3 rfl) ?_
            refine va_get (D := D) (ci := 6) (v := .ref (ma 28)) (C := RX5) (T := TX5) (N := 29) hx hb hts in_X5_mayGoOn_X5 hown hK hP 2 rfl rfl 28 (by decide) w_0 (fun _ h9 => h9) rfl dX5_mayGoOn_19 ?_
            refine lv_iload_n hx hb dX5_mayGoOn_22 rfl (lv_at hl 0 rfl) ?_
            refine va_iald hx hb hK hP 3 0 rfl rfl (by unfold vp_in; decide) dX5_mayGoOn_23 ?_
            refine lv_topi (fun z_170 ez_170 => ?_)
            have fz_170 : z_170 = (-1) := ez_170.trans (by rw [show (0 : Int32).toNatClampNeg = 0 by decide, haf 0 (by decide), hb0] <;> rfl)
            subst fz_170
            refine lv_if_lt (tgt := 65) hx hb dX5_mayGoOn_24 (by decide) (fun _ => ?_) (fun hc => absurd (by decide) hc)
            refine lv_iinc (v := 1) (lv' := [(3, .int 1), (2, .int 0), (1, .int 0), (0, .ref mo)]) hx hb dX5_mayGoOn_65 hl (k := 0) rfl (by decide) (by decide) rfl (fun ls hl => ?_)
            refine lv_goto (tgt := 9) hx hb dX5_mayGoOn_68 (by decide) ?_
            refine lv_iload_n hx hb dX5_mayGoOn_9 rfl (lv_at hl 0 rfl) ?_
            refine lv_iconst (v := 5) hx hb dX5_mayGoOn_10 (by decide) ?_
            refine lv_icmp_ge (tgt := 71) hx hb dX5_mayGoOn_11 (by decide) (fun hc => absurd hc (by decide)) (fun _ => ?_)
            refine lv_iload_n hx hb dX5_mayGoOn_14 rfl (lv_at hl 2 rfl) ?_
            refine lv_if_lt (tgt := 71) hx hb dX5_mayGoOn_15 (by decide) (fun hc => absurd hc (by decide)) (fun _ => ?_)
            refine lv_aload_n hx hb dX5_mayGoOn_18 rfl (lv_at hl 3 rfl) ?_
            refine va_get (D := D) (ci := 6) (v := .ref (ma 28)) (C := RX5) (T := TX5) (N := 29) hx hb hts in_X5_mayGoOn_X5 hown hK hP 2 rfl rfl 28 (by decide) w_0 (fun _ h9 => h9) rfl dX5_mayGoOn_19 ?_
            refine lv_iload_n hx hb dX5_mayGoOn_22 rfl (lv_at hl 0 rfl) ?_
            refine va_iald hx hb hK hP 3 0 rfl rfl (by unfold vp_in; decide) dX5_mayGoOn_23 ?_
            refine lv_topi (fun z_171 ez_171 => ?_)
            have fz_171 : z_171 = 0 := ez_171.trans (by rw [show (1 : Int32).toNatClampNeg = 1 by decide, haf 1 (by decide), hb1] <;> rfl)
            subst fz_171
            refine lv_if_lt (tgt := 65) hx hb dX5_mayGoOn_24 (by decide) (fun hc => absurd hc (by decide)) (fun _ => ?_)
            refine lv_aload_n hx hb dX5_mayGoOn_27 rfl (lv_at hl 3 rfl) ?_
            refine va_get (D := D) (ci := 6) (v := .ref (ma 2)) (C := RX5) (T := TX5) (N := 29) hx hb hts in_X5_mayGoOn_X5 hown hK hP 2 rfl rfl 2 (by decide) w_1 (fun _ h9 => h9) rfl dX5_mayGoOn_28 ?_
            refine lv_aload_n hx hb dX5_mayGoOn_31 rfl (lv_at hl 3 rfl) ?_
            refine va_get (D := D) (ci := 6) (v := .ref (ma 28)) (C := RX5) (T := TX5) (N := 29) hx hb hts in_X5_mayGoOn_X5 hown hK hP 2 rfl rfl 28 (by decide) w_0 (fun _ h9 => h9) rfl dX5_mayGoOn_32 ?_
            refine lv_iload_n hx hb dX5_mayGoOn_35 rfl (lv_at hl 0 rfl) ?_
            refine va_iald hx hb hK hP 3 0 rfl rfl (by unfold vp_in; decide) dX5_mayGoOn_36 ?_
            refine lv_topi (fun z_172 ez_172 => ?_)
            have fz_172 : z_172 = 0 := ez_172.trans (by rw [show (1 : Int32).toNatClampNeg = 1 by decide, haf 1 (by decide), hb1] <;> rfl)
            subst fz_172
            refine va_iald hx hb hK hP 4 0 rfl rfl (by unfold vp_in; decide) dX5_mayGoOn_37 ?_
            refine lv_topi (fun z_173 ez_173 => ?_)
            have fz_173 : z_173 = 0 := ez_173.trans (rfl)
            subst fz_173
            refine lv_aload_n hx hb dX5_mayGoOn_38 rfl (lv_at hl 3 rfl) ?_
            refine va_get (D := D) (ci := 6) (v := .ref (ma 2)) (C := RX5) (T := TX5) (N := 29) hx hb hts in_X5_mayGoOn_X5 hown hK hP 2 rfl rfl 2 (by decide) w_1 (fun _ h9 => h9) rfl dX5_mayGoOn_39 ?_
            refine lv_iload_n hx hb dX5_mayGoOn_42 rfl (lv_at hl 2 rfl) ?_
            refine va_iald hx hb hK hP 4 0 rfl rfl (by unfold vp_in; decide) dX5_mayGoOn_43 ?_
            refine lv_topi (fun z_174 ez_174 => ?_)
            have fz_174 : z_174 = 0 := ez_174.trans (rfl)
            subst fz_174
            refine lv_icmp_ne (tgt := 65) hx hb dX5_mayGoOn_44 (by decide) (fun hc => absurd (by decide) hc) (fun _ => ?_)
            refine lv_iload_n hx hb dX5_mayGoOn_47 rfl (lv_at hl 1 rfl) ?_
            refine lv_iload_n hx hb dX5_mayGoOn_48 rfl (lv_at hl 0 rfl) ?_
            refine lv_aload_n hx hb dX5_mayGoOn_49 rfl (lv_at hl 3 rfl) ?_
            refine va_get (D := D) (ci := 6) (v := .ref (ma 7)) (C := RX5) (T := TX5) (N := 29) hx hb hts in_X5_mayGoOn_X5 hown hK hP 2 rfl rfl 7 (by decide) w_2 (fun _ h9 => h9) rfl dX5_mayGoOn_50 ?_
            refine lv_iload_n hx hb dX5_mayGoOn_53 rfl (lv_at hl 2 rfl) ?_
            refine va_iald hx hb hK hP 0 0 rfl rfl (by unfold vp_in; decide) dX5_mayGoOn_54 ?_
            refine lv_topi (fun z_175 ez_175 => ?_)
            have fz_175 : z_175 = 0 := ez_175.trans (rfl)
            subst fz_175
            refine lv_icmp_ne (tgt := 62) hx hb dX5_mayGoOn_55 (by decide) (fun _ => ?_) (fun hc => absurd hc (by decide))
            refine lv_iconst (v := 2) hx hb dX5_mayGoOn_62 (by decide) ?_
            refine lv_iadd hx hb dX5_mayGoOn_63 ?_
            refine lv_topi (fun z_176 ez_176 => ?_)
            have fz_176 : z_176 = 2 := ez_176.trans (by decide)
            subst fz_176
            refine lv_istore_n (lv' := [(2, .int 2), (3, .int 1), (1, .int 0), (0, .ref mo)]) hx hb dX5_mayGoOn_64 rfl hl (by decide) rfl (fun ls hl => ?_)
            refine lv_iinc (v := 2) (lv' := [(3, .int 2), (2, .int 2), (1, .int 0), (0, .ref mo)]) hx hb dX5_mayGoOn_65 hl (k := 1) rfl (by decide) (by decide) rfl (fun ls hl => ?_)
            refine lv_goto (tgt := 9) hx hb dX5_mayGoOn_68 (by decide) ?_
            refine lv_iload_n hx hb dX5_mayGoOn_9 rfl (lv_at hl 0 rfl) ?_
            refine lv_iconst (v := 5) hx hb dX5_mayGoOn_10 (by decide) ?_
            refine lv_icmp_ge (tgt := 71) hx hb dX5_mayGoOn_11 (by decide) (fun hc => absurd hc (by decide)) (fun _ => ?_)
            refine lv_iload_n hx hb dX5_mayGoOn_14 rfl (lv_at hl 2 rfl) ?_
            refine lv_if_lt (tgt := 71) hx hb dX5_mayGoOn_15 (by decide) (fun hc => absurd hc (by decide)) (fun _ => ?_)
            refine lv_aload_n hx hb dX5_mayGoOn_18 rfl (lv_at hl 3 rfl) ?_
            refine va_get (D := D) (ci := 6) (v := .ref (ma 28)) (C := RX5) (T := TX5) (N := 29) hx hb hts in_X5_mayGoOn_X5 hown hK hP 2 rfl rfl 28 (by decide) w_0 (fun _ h9 => h9) rfl dX5_mayGoOn_19 ?_
            refine lv_iload_n hx hb dX5_mayGoOn_22 rfl (lv_at hl 0 rfl) ?_
            refine va_iald hx hb hK hP 3 0 rfl rfl (by unfold vp_in; decide) dX5_mayGoOn_23 ?_
            refine lv_topi (fun z_177 ez_177 => ?_)
            have fz_177 : z_177 = (-1) := ez_177.trans (by rw [show (2 : Int32).toNatClampNeg = 2 by decide, haf 2 (by decide), hb2] <;> rfl)
            subst fz_177
            refine lv_if_lt (tgt := 65) hx hb dX5_mayGoOn_24 (by decide) (fun _ => ?_) (fun hc => absurd (by decide) hc)
            refine lv_iinc (v := 3) (lv' := [(3, .int 3), (2, .int 2), (1, .int 0), (0, .ref mo)]) hx hb dX5_mayGoOn_65 hl (k := 0) rfl (by decide) (by decide) rfl (fun ls hl => ?_)
            refine lv_goto (tgt := 9) hx hb dX5_mayGoOn_68 (by decide) ?_
            refine lv_iload_n hx hb dX5_mayGoOn_9 rfl (lv_at hl 0 rfl) ?_
            refine lv_iconst (v := 5) hx hb dX5_mayGoOn_10 (by decide) ?_
            refine lv_icmp_ge (tgt := 71) hx hb dX5_mayGoOn_11 (by decide) (fun hc => absurd hc (by decide)) (fun _ => ?_)
            refine lv_iload_n hx hb dX5_mayGoOn_14 rfl (lv_at hl 2 rfl) ?_
            refine lv_if_lt (tgt := 71) hx hb dX5_mayGoOn_15 (by decide) (fun hc => absurd hc (by decide)) (fun _ => ?_)
            refine lv_aload_n hx hb dX5_mayGoOn_18 rfl (lv_at hl 3 rfl) ?_
            refine va_get (D := D) (ci := 6) (v := .ref (ma 28)) (C := RX5) (T := TX5) (N := 29) hx hb hts in_X5_mayGoOn_X5 hown hK hP 2 rfl rfl 28 (by decide) w_0 (fun _ h9 => h9) rfl dX5_mayGoOn_19 ?_
            refine lv_iload_n hx hb dX5_mayGoOn_22 rfl (lv_at hl 0 rfl) ?_
            refine va_iald hx hb hK hP 3 0 rfl rfl (by unfold vp_in; decide) dX5_mayGoOn_23 ?_
            refine lv_topi (fun z_178 ez_178 => ?_)
            have fz_178 : z_178 = 0 := ez_178.trans (by rw [show (3 : Int32).toNatClampNeg = 3 by decide, haf 3 (by decide), hb3] <;> rfl)
            subst fz_178
            refine lv_if_lt (tgt := 65) hx hb dX5_mayGoOn_24 (by decide) (fun hc => absurd hc (by decide)) (fun _ => ?_)
            refine lv_aload_n hx hb dX5_mayGoOn_27 rfl (lv_at hl 3 rfl) ?_
            refine va_get (D := D) (ci := 6) (v := .ref (ma 2)) (C := RX5) (T := TX5) (N := 29) hx hb hts in_X5_mayGoOn_X5 hown hK hP 2 rfl rfl 2 (by decide) w_1 (fun _ h9 => h9) rfl dX5_mayGoOn_28 ?_
            refine lv_aload_n hx hb dX5_mayGoOn_31 rfl (lv_at hl 3 rfl) ?_
            refine va_get (D := D) (ci := 6) (v := .ref (ma 28)) (C := RX5) (T := TX5) (N := 29) hx hb hts in_X5_mayGoOn_X5 hown hK hP 2 rfl rfl 28 (by decide) w_0 (fun _ h9 => h9) rfl dX5_mayGoOn_32 ?_
            refine lv_iload_n hx hb dX5_mayGoOn_35 rfl (lv_at hl 0 rfl) ?_
            refine va_iald hx hb hK hP 3 0 rfl rfl (by unfold vp_in; decide) dX5_mayGoOn_36 ?_
            refine lv_topi (fun z_179 ez_179 => ?_)
            have fz_179 : z_179 = 0 := ez_179.trans (by rw [show (3 : Int32).toNatClampNeg = 3 by decide, haf 3 (by decide), hb3] <;> rfl)
            subst fz_179
            refine va_iald hx hb hK hP 4 0 rfl rfl (by unfold vp_in; decide) dX5_mayGoOn_37 ?_
            refine lv_topi (fun z_180 ez_180 => ?_)
            have fz_180 : z_180 = 0 := ez_180.trans (rfl)
            subst fz_180
            refine lv_aload_n hx hb dX5_mayGoOn_38 rfl (lv_at hl 3 rfl) ?_
            refine va_get (D := D) (ci := 6) (v := .ref (ma 2)) (C := RX5) (T := TX5) (N := 29) hx hb hts in_X5_mayGoOn_X5 hown hK hP 2 rfl rfl 2 (by decide) w_1 (fun _ h9 => h9) rfl dX5_mayGoOn_39 ?_
            refine lv_iload_n hx hb dX5_mayGoOn_42 rfl (lv_at hl 2 rfl) ?_
            refine va_iald hx hb hK hP 4 0 rfl rfl (by unfold vp_in; decide) dX5_mayGoOn_43 ?_
            refine lv_topi (fun z_181 ez_181 => ?_)
            have fz_181 : z_181 = 0 := ez_181.trans (rfl)
            subst fz_181
            refine lv_icmp_ne (tgt := 65) hx hb dX5_mayGoOn_44 (by decide) (fun hc => absurd (by decide) hc) (fun _ => ?_)
            refine lv_iload_n hx hb dX5_mayGoOn_47 rfl (lv_at hl 1 rfl) ?_
            refine lv_iload_n hx hb dX5_mayGoOn_48 rfl (lv_at hl 0 rfl) ?_
            refine lv_aload_n hx hb dX5_mayGoOn_49 rfl (lv_at hl 3 rfl) ?_
            refine va_get (D := D) (ci := 6) (v := .ref (ma 7)) (C := RX5) (T := TX5) (N := 29) hx hb hts in_X5_mayGoOn_X5 hown hK hP 2 rfl rfl 7 (by decide) w_2 (fun _ h9 => h9) rfl dX5_mayGoOn_50 ?_
            refine lv_iload_n hx hb dX5_mayGoOn_53 rfl (lv_at hl 2 rfl) ?_
            refine va_iald hx hb hK hP 0 0 rfl rfl (by unfold vp_in; decide) dX5_mayGoOn_54 ?_
            refine lv_topi (fun z_182 ez_182 => ?_)
            have fz_182 : z_182 = 0 := ez_182.trans (rfl)
            subst fz_182
            refine lv_icmp_ne (tgt := 62) hx hb dX5_mayGoOn_55 (by decide) (fun _ => ?_) (fun hc => absurd hc (by decide))
            refine lv_iconst (v := 2) hx hb dX5_mayGoOn_62 (by decide) ?_
            refine lv_iadd hx hb dX5_mayGoOn_63 ?_
            refine lv_topi (fun z_183 ez_183 => ?_)
            have fz_183 : z_183 = 4 := ez_183.trans (by decide)
            subst fz_183
            refine lv_istore_n (lv' := [(2, .int 4), (3, .int 3), (1, .int 0), (0, .ref mo)]) hx hb dX5_mayGoOn_64 rfl hl (by decide) rfl (fun ls hl => ?_)
            refine lv_iinc (v := 4) (lv' := [(3, .int 4), (2, .int 4), (1, .int 0), (0, .ref mo)]) hx hb dX5_mayGoOn_65 hl (k := 1) rfl (by decide) (by decide) rfl (fun ls hl => ?_)
            refine lv_goto (tgt := 9) hx hb dX5_mayGoOn_68 (by decide) ?_
            refine lv_iload_n hx hb dX5_mayGoOn_9 rfl (lv_at hl 0 rfl) ?_
            refine lv_iconst (v := 5) hx hb dX5_mayGoOn_10 (by decide) ?_
            refine lv_icmp_ge (tgt := 71) hx hb dX5_mayGoOn_11 (by decide) (fun hc => absurd hc (by decide)) (fun _ => ?_)
            refine lv_iload_n hx hb dX5_mayGoOn_14 rfl (lv_at hl 2 rfl) ?_
            refine lv_if_lt (tgt := 71) hx hb dX5_mayGoOn_15 (by decide) (fun hc => absurd hc (by decide)) (fun _ => ?_)
            refine lv_aload_n hx hb dX5_mayGoOn_18 rfl (lv_at hl 3 rfl) ?_
            refine va_get (D := D) (ci := 6) (v := .ref (ma 28)) (C := RX5) (T := TX5) (N := 29) hx hb hts in_X5_mayGoOn_X5 hown hK hP 2 rfl rfl 28 (by decide) w_0 (fun _ h9 => h9) rfl dX5_mayGoOn_19 ?_
            refine lv_iload_n hx hb dX5_mayGoOn_22 rfl (lv_at hl 0 rfl) ?_
            refine va_iald hx hb hK hP 3 0 rfl rfl (by unfold vp_in; decide) dX5_mayGoOn_23 ?_
            refine lv_topi (fun z_184 ez_184 => ?_)
            have fz_184 : z_184 = 0 := ez_184.trans (by rw [show (4 : Int32).toNatClampNeg = 4 by decide, haf 4 (by decide), hb4] <;> rfl)
            subst fz_184
            refine lv_if_lt (tgt := 65) hx hb dX5_mayGoOn_24 (by decide) (fun hc => absurd hc (by decide)) (fun _ => ?_)
            refine lv_aload_n hx hb dX5_mayGoOn_27 rfl (lv_at hl 3 rfl) ?_
            refine va_get (D := D) (ci := 6) (v := .ref (ma 2)) (C := RX5) (T := TX5) (N := 29) hx hb hts in_X5_mayGoOn_X5 hown hK hP 2 rfl rfl 2 (by decide) w_1 (fun _ h9 => h9) rfl dX5_mayGoOn_28 ?_
            refine lv_aload_n hx hb dX5_mayGoOn_31 rfl (lv_at hl 3 rfl) ?_
            refine va_get (D := D) (ci := 6) (v := .ref (ma 28)) (C := RX5) (T := TX5) (N := 29) hx hb hts in_X5_mayGoOn_X5 hown hK hP 2 rfl rfl 28 (by decide) w_0 (fun _ h9 => h9) rfl dX5_mayGoOn_32 ?_
            refine lv_iload_n hx hb dX5_mayGoOn_35 rfl (lv_at hl 0 rfl) ?_
            refine va_iald hx hb hK hP 3 0 rfl rfl (by unfold vp_in; decide) dX5_mayGoOn_36 ?_
            refine lv_topi (fun z_185 ez_185 => ?_)
            have fz_185 : z_185 = 0 := ez_185.trans (by rw [show (4 : Int32).toNatClampNeg = 4 by decide, haf 4 (by decide), hb4] <;> rfl)
            subst fz_185
            refine va_iald hx hb hK hP 4 0 rfl rfl (by unfold vp_in; decide) dX5_mayGoOn_37 ?_
            refine lv_topi (fun z_186 ez_186 => ?_)
            have fz_186 : z_186 = 0 := ez_186.trans (rfl)
            subst fz_186
            refine lv_aload_n hx hb dX5_mayGoOn_38 rfl (lv_at hl 3 rfl) ?_
            refine va_get (D := D) (ci := 6) (v := .ref (ma 2)) (C := RX5) (T := TX5) (N := 29) hx hb hts in_X5_mayGoOn_X5 hown hK hP 2 rfl rfl 2 (by decide) w_1 (fun _ h9 => h9) rfl dX5_mayGoOn_39 ?_
            refine lv_iload_n hx hb dX5_mayGoOn_42 rfl (lv_at hl 2 rfl) ?_
            refine va_iald hx hb hK hP 4 0 rfl rfl (by unfold vp_in; decide) dX5_mayGoOn_43 ?_
            refine lv_topi (fun z_187 ez_187 => ?_)
            have fz_187 : z_187 = 0 := ez_187.trans (rfl)
            subst fz_187
            refine lv_icmp_ne (tgt := 65) hx hb dX5_mayGoOn_44 (by decide) (fun hc => absurd (by decide) hc) (fun _ => ?_)
            refine lv_iload_n hx hb dX5_mayGoOn_47 rfl (lv_at hl 1 rfl) ?_
            refine lv_iload_n hx hb dX5_mayGoOn_48 rfl (lv_at hl 0 rfl) ?_
            refine lv_aload_n hx hb dX5_mayGoOn_49 rfl (lv_at hl 3 rfl) ?_
            refine va_get (D := D) (ci := 6) (v := .ref (ma 7)) (C := RX5) (T := TX5) (N := 29) hx hb hts in_X5_mayGoOn_X5 hown hK hP 2 rfl rfl 7 (by decide) w_2 (fun _ h9 => h9) rfl dX5_mayGoOn_50 ?_
            refine lv_iload_n hx hb dX5_mayGoOn_53 rfl (lv_at hl 2 rfl) ?_
            refine va_iald hx hb hK hP 0 0 rfl rfl (by unfold vp_in; decide) dX5_mayGoOn_54 ?_
            refine lv_topi (fun z_188 ez_188 => ?_)
            have fz_188 : z_188 = 0 := ez_188.trans (rfl)
            subst fz_188
            refine lv_icmp_ne (tgt := 62) hx hb dX5_mayGoOn_55 (by decide) (fun _ => ?_) (fun hc => absurd hc (by decide))
            refine lv_iconst (v := 2) hx hb dX5_mayGoOn_62 (by decide) ?_
            refine lv_iadd hx hb dX5_mayGoOn_63 ?_
            refine lv_topi (fun z_189 ez_189 => ?_)
            have fz_189 : z_189 = 6 := ez_189.trans (by decide)
            subst fz_189
            refine lv_istore_n (lv' := [(2, .int 6), (3, .int 4), (1, .int 0), (0, .ref mo)]) hx hb dX5_mayGoOn_64 rfl hl (by decide) rfl (fun ls hl => ?_)
            refine lv_iinc (v := 5) (lv' := [(3, .int 5), (2, .int 6), (1, .int 0), (0, .ref mo)]) hx hb dX5_mayGoOn_65 hl (k := 1) rfl (by decide) (by decide) rfl (fun ls hl => ?_)
            refine lv_goto (tgt := 9) hx hb dX5_mayGoOn_68 (by decide) ?_
            refine lv_iload_n hx hb dX5_mayGoOn_9 rfl (lv_at hl 0 rfl) ?_
            refine lv_iconst (v := 5) hx hb dX5_mayGoOn_10 (by decide) ?_
            refine lv_icmp_ge (tgt := 71) hx hb dX5_mayGoOn_11 (by decide) (fun _ => ?_) (fun hc => absurd (by decide) hc)
            refine lv_iload_n hx hb dX5_mayGoOn_71 rfl (lv_at hl 2 rfl) ?_
            refine lv_if_lt (tgt := 89) hx hb dX5_mayGoOn_72 (by decide) (fun hc => absurd hc (by decide)) (fun _ => ?_)
            refine lv_iload_n hx hb dX5_mayGoOn_75 rfl (lv_at hl 1 rfl) ?_
            refine lv_aload_n hx hb dX5_mayGoOn_76 rfl (lv_at hl 3 rfl) ?_
            refine va_get (D := D) (ci := 6) (v := .ref (ma 6)) (C := RX5) (T := TX5) (N := 29) hx hb hts in_X5_mayGoOn_X5 hown hK hP 2 rfl rfl 6 (by decide) w_3 (fun _ h9 => h9) rfl dX5_mayGoOn_77 ?_
            refine lv_iload_n hx hb dX5_mayGoOn_80 rfl (lv_at hl 2 rfl) ?_
            refine va_iald hx hb hK hP 1 0 rfl rfl (by unfold vp_in; decide) dX5_mayGoOn_81 ?_
            refine lv_topi (fun z_190 ez_190 => ?_)
            have fz_190 : z_190 = 5 := ez_190.trans (hzf)
            subst fz_190
            refine lv_icmp_le (tgt := 89) hx hb dX5_mayGoOn_82 (by decide) (fun hc => absurd hc (by decide)) (fun _ => ?_)
            refine lv_iconst (v := 1) hx hb dX5_mayGoOn_85 (by decide) ?_
            refine lv_goto (tgt := 90) hx hb dX5_mayGoOn_86 (by decide) ?_
            have hP9 := hP.sub (ws' := [(mo, .inr (6, [.int th, .int 1, .ref (ma 2), .ref (ma 3), .ref (ma 4), .ref (ma 5), .ref (ma 6), .ref (ma 7), .ref (ma 8), .ref (ma 9), .ref (ma 10), .ref (ma 11), .ref (ma 12), .ref (ma 13), .ref (ma 14), .ref (ma 15), .ref (ma 16), .ref (ma 17), .ref (ma 18), .ref (ma 19), .ref (ma 20), .ref (ma 21), .int 0, .ref (ma 23), .ref (ma 24), .ref (ma 25), .ref (ma 26), .ref (ma 27), .ref (ma 28)])), ((ma 28), wI tC 5 af), ((ma 2), wI tC 600 (fun _ => 0)), ((ma 7), wI tC 600 (fun _ => 0)), ((ma 6), wI tC 600 zf)]) [2, 3, 4, 0, 1] rfl
            have hD9 := hD.sub (ws' := [(mo, .inr (6, [.int th, .int 1, .ref (ma 2), .ref (ma 3), .ref (ma 4), .ref (ma 5), .ref (ma 6), .ref (ma 7), .ref (ma 8), .ref (ma 9), .ref (ma 10), .ref (ma 11), .ref (ma 12), .ref (ma 13), .ref (ma 14), .ref (ma 15), .ref (ma 16), .ref (ma 17), .ref (ma 18), .ref (ma 19), .ref (ma 20), .ref (ma 21), .int 0, .ref (ma 23), .ref (ma 24), .ref (ma 25), .ref (ma 26), .ref (ma 27), .ref (ma 28)])), ((ma 28), wI tC 5 af), ((ma 2), wI tC 600 (fun _ => 0)), ((ma 7), wI tC 600 (fun _ => 0)), ((ma 6), wI tC 600 zf)]) [2, 3, 4, 0, 1] (by decide) rfl
            refine W.widen (k := 0) (n := 0) (by omega) (by omega) ?_
            exact W.zret (v := 1) hx hb hr (by decide) (fun t ht hW => ⟨⟨1, (), rfl, (by unfold mayg cntb; rw [hb0, hb1, hb2, hb3, hb4] <;> decide), (by rw [ht]; exact hP9), va_K.moved hW.alike hK, hD9⟩, hS.F ht⟩) hS.2.2 dX5_mayGoOn_90 hlocks
      · skip
        cases hb3 : bt 3
        · skip
          cases hb4 : bt 4
          · skip
            refine lv_aload_n hx hb dX5_mayGoOn_0 rfl (lv_at hl 0 rfl) ?_
            have hPc := hP.sub (ws' := [(mo, .inr (6, [.int th, .int 1, .ref (ma 2), .ref (ma 3), .ref (ma 4), .ref (ma 5), .ref (ma 6), .ref (ma 7), .ref (ma 8), .ref (ma 9), .ref (ma 10), .ref (ma 11), .ref (ma 12), .ref (ma 13), .ref (ma 14), .ref (ma 15), .ref (ma 16), .ref (ma 17), .ref (ma 18), .ref (ma 19), .ref (ma 20), .ref (ma 21), .int 0, .ref (ma 23), .ref (ma 24), .ref (ma 25), .ref (ma 26), .ref (ma 27), .ref (ma 28)])), ((ma 28), wI tC 5 af), ((ma 2), wI tC 600 (fun _ => 0))]) [0, 1, 2] rfl
            have hDc := hD.sub (ws' := [(mo, .inr (6, [.int th, .int 1, .ref (ma 2), .ref (ma 3), .ref (ma 4), .ref (ma 5), .ref (ma 6), .ref (ma 7), .ref (ma 8), .ref (ma 9), .ref (ma 10), .ref (ma 11), .ref (ma 12), .ref (ma 13), .ref (ma 14), .ref (ma 15), .ref (ma 16), .ref (ma 17), .ref (ma 18), .ref (ma 19), .ref (ma 20), .ref (ma 21), .int 0, .ref (ma 23), .ref (ma 24), .ref (ma 25), .ref (ma 26), .ref (ma 27), .ref (ma 28)])), ((ma 28), wI tC 5 af), ((ma 2), wI tC 600 (fun _ => 0))]) [0, 1, 2] (by decide) rfl
            have hFc := va_free (wc := [(mo, .inr (6, [.int th, .int 1, .ref (ma 2), .ref (ma 3), .ref (ma 4), .ref (ma 5), .ref (ma 6), .ref (ma 7), .ref (ma 8), .ref (ma 9), .ref (ma 10), .ref (ma 11), .ref (ma 12), .ref (ma 13), .ref (ma 14), .ref (ma 15), .ref (ma 16), .ref (ma 17), .ref (ma 18), .ref (ma 19), .ref (ma 20), .ref (ma 21), .int 0, .ref (ma 23), .ref (ma 24), .ref (ma 25), .ref (ma 26), .ref (ma 27), .ref (ma 28)])), ((ma 28), wI tC 5 af), ((ma 2), wI tC 600 (fun _ => 0))]) hD hS hA [0, 1, 2] rfl
            refine va_calli (va_runV (As := []) (rest := []) ⟨hx, hb, hml, hown, hts⟩ (c_X5_greatest l hlt D tC dz s.heap.size mo ma th af bt haf) (cwV 0 hts gX5_mayGoOn_X5_greatest rfl rfl rfl (by decide +kernel) ⟨Nat.le_of_ble_eq_true rfl, Nat.le_of_ble_eq_true rfl⟩) ⟨pB_blind, va_recv hK hPc (ci := 6) (q0 := 0) rfl rfl, pB_at hPc hDc hK hN hE hS hFc⟩ rfl rfl hl.1 rfl (lv_room (Nat.le_of_ble_eq_true rfl)) dX5_mayGoOn_1 ⟨Nat.le_of_ble_eq_true rfl, Nat.le_of_ble_eq_true rfl⟩) hS (fun q _ h => hFc q h) hFc (fun r_191 u t H1 locs ht hvm hw hB hz1 hk1 hS => ?_)
            obtain ⟨hP1, _, hD1⟩ := hB
            have hw_192 := hw
            rw [ht] at hP1
            obtain ⟨hP, hD⟩ := va_join (wr := [((ma 7), wI tC 600 (fun _ => 0)), ((ma 6), wI tC 600 zf)]) (w1 := [(mo, .inr (6, [.int th, .int 1, .ref (ma 2), .ref (ma 3), .ref (ma 4), .ref (ma 5), .ref (ma 6), .ref (ma 7), .ref (ma 8), .ref (ma 9), .ref (ma 10), .ref (ma 11), .ref (ma 12), .ref (ma 13), .ref (ma 14), .ref (ma 15), .ref (ma 16), .ref (ma 17), .ref (ma 18), .ref (ma 19), .ref (ma 20), .ref (ma 21), .int 0, .ref (ma 23), .ref (ma 24), .ref (ma 25), .ref (ma 26), .ref (ma 27), .ref (ma 28)])), ((ma 28), wI tC 5 af), ((ma 2), wI tC 600 (fun _ => 0))]) hP hD [0, 1, 2] [3, 4] rfl rfl (by decide) (by decide) hk1 hFc hP1 hD1
            generalize H1 = H at hP hS ⊢
            have hP : va_P D vwCl [((ma 7), wI tC 600 (fun _ => 0)), ((ma 6), wI tC 600 zf), (mo, .inr (6, [.int th, .int 1, .ref (ma 2), .ref (ma 3), .ref (ma 4), .ref (ma 5), .ref (ma 6), .ref (ma 7), .ref (ma 8), .ref (ma 9), .ref (ma 10), .ref (ma 11), .ref (ma 12), .ref (ma 13), .ref (ma 14), .ref (ma 15), .ref (ma 16), .ref (ma 17), .ref (ma 18), .ref (ma 19), .ref (ma 20), .ref (ma 21), .int 0, .ref (ma 23), .ref (ma 24), .ref (ma 25), .ref (ma 26), .ref (ma 27), .ref (ma 28)])), ((ma 28), wI tC 5 af), ((ma 2), wI tC 600 (fun _ => 0))] H := hP
            have hD : va_D A [((ma 7), wI tC 600 (fun _ => 0)), ((ma 6), wI tC 600 zf), (mo, .inr (6, [.int th, .int 1, .ref (ma 2), .ref (ma 3), .ref (ma 4), .ref (ma 5), .ref (ma 6), .ref (ma 7), .ref (ma 8), .ref (ma 9), .ref (ma 10), .ref (ma 11), .ref (ma 12), .ref (ma 13), .ref (ma 14), .ref (ma 15), .ref (ma 16), .ref (ma 17), .ref (ma 18), .ref (ma 19), .ref (ma 20), .ref (ma 21), .int 0, .ref (ma 23), .ref (ma 24), .ref (ma 25), .ref (ma 26), .ref (ma 27), .ref (ma 28)])), ((ma 28), wI tC 5 af), ((ma 2), wI tC 600 (fun _ => 0))] := hD
            have q1 : r_191 = 0 := hw_192.trans (by rw [hb0, hb1, hb2, hb3, hb4] <;> rfl)
            subst q1
            refine lv_istore_n (lv' := [(1, .int 0), (0, .ref mo)]) hx hb dX5_mayGoOn_4 rfl hl (by decide) rfl (fun ls hl => ?_)
            refine lv_iconst (v := 0) hx hb dX5_mayGoOn_5 (by decide) ?_
            refine lv_istore_n (lv' := [(2, .int 0), (1, .int 0), (0, .ref mo)]) hx hb dX5_mayGoOn_6 rfl hl (by decide) rfl (fun ls hl => ?_)
            refine lv_iconst (v := 0) hx hb dX5_mayGoOn_7 (by decide) ?_
            refine lv_istore_n (lv' := [(3, .int 0), (2, .int 0), (1, .int 0), (0, .ref mo)]) hx hb dX5_mayGoOn_8 rfl hl (by decide) rfl (fun ls hl => ?_)
            refine lv_iload_n hx hb dX5_mayGoOn_9 rfl (lv_at hl 0 rfl) ?_
            refine lv_iconst (v := 5) hx hb dX5_mayGoOn_10 (by decide) ?_
            refine lv_icmp_ge (tgt := 71) hx hb dX5_mayGoOn_11 (by decide) (fun hc => absurd hc (by decide)) (fun _ => ?_)
            refine lv_iload_n hx hb dX5_mayGoOn_14 rfl (lv_at hl 2 rfl) ?_
            refine lv_if_lt (tgt := 71) hx hb dX5_mayGoOn_15 (by decide) (fun hc => absurd hc (by decide)) (fun _ => ?_)
            refine lv_aload_n hx hb dX5_mayGoOn_18 rfl (lv_at hl 3 rfl) ?_
            refine va_get (D := D) (ci := 6) (v := .ref (ma 28)) (C := RX5) (T := TX5) (N := 29) hx hb hts in_X5_mayGoOn_X5 hown hK hP 2 rfl rfl 28 (by decide) w_0 (fun _ h9 => h9) rfl dX5_mayGoOn_19 ?_
            refine lv_iload_n hx hb dX5_mayGoOn_22 rfl (lv_at hl 0 rfl) ?_
            refine va_iald hx hb hK hP 3 0 rfl rfl (by unfold vp_in; decide) dX5_mayGoOn_23 ?_
            refine lv_topi (fun z_193 ez_193 => ?_)
            have fz_193 : z_193 = (-1) := ez_193.trans (by rw [show (0 : Int32).toNatClampNeg = 0 by decide, haf 0 (by decide), hb0] <;> rfl)
            subst fz_193
            refine lv_if_lt (tgt := 65) hx hb dX5_mayGoOn_24 (by decide) (fun _ => ?_) (fun hc => absurd (by decide) hc)
            refine lv_iinc (v := 1) (lv' := [(3, .int 1), (2, .int 0), (1, .int 0), (0, .ref mo)]) hx hb dX5_mayGoOn_65 hl (k := 0) rfl (by decide) (by decide) rfl (fun ls hl => ?_)
            refine lv_goto (tgt := 9) hx hb dX5_mayGoOn_68 (by decide) ?_
            refine lv_iload_n hx hb dX5_mayGoOn_9 rfl (lv_at hl 0 rfl) ?_
            refine lv_iconst (v := 5) hx hb dX5_mayGoOn_10 (by decide) ?_
            refine lv_icmp_ge (tgt := 71) hx hb dX5_mayGoOn_11 (by decide) (fun hc => absurd hc (by decide)) (fun _ => ?_)
            refine lv_iload_n hx hb dX5_mayGoOn_14 rfl (lv_at hl 2 rfl) ?_
            refine lv_if_lt (tgt := 71) hx hb dX5_mayGoOn_15 (by decide) (fun hc => absurd hc (by decide)) (fun _ => ?_)
            refine lv_aload_n hx hb dX5_mayGoOn_18 rfl (lv_at hl 3 rfl) ?_
            refine va_get (D := D) (ci := 6) (v := .ref (ma 28)) (C := RX5) (T := TX5) (N := 29) hx hb hts in_X5_mayGoOn_X5 hown hK hP 2 rfl rfl 28 (by decide) w_0 (fun _ h9 => h9) rfl dX5_mayGoOn_19 ?_
            refine lv_iload_n hx hb dX5_mayGoOn_22 rfl (lv_at hl 0 rfl) ?_
            refine va_iald hx hb hK hP 3 0 rfl rfl (by unfold vp_in; decide) dX5_mayGoOn_23 ?_
            refine lv_topi (fun z_194 ez_194 => ?_)
            have fz_194 : z_194 = 0 := ez_194.trans (by rw [show (1 : Int32).toNatClampNeg = 1 by decide, haf 1 (by decide), hb1] <;> rfl)
            subst fz_194
            refine lv_if_lt (tgt := 65) hx hb dX5_mayGoOn_24 (by decide) (fun hc => absurd hc (by decide)) (fun _ => ?_)
            refine lv_aload_n hx hb dX5_mayGoOn_27 rfl (lv_at hl 3 rfl) ?_
            refine va_get (D := D) (ci := 6) (v := .ref (ma 2)) (C := RX5) (T := TX5) (N := 29) hx hb hts in_X5_mayGoOn_X5 hown hK hP 2 rfl rfl 2 (by decide) w_1 (fun _ h9 => h9) rfl dX5_mayGoOn_28 ?_
            refine lv_aload_n hx hb dX5_mayGoOn_31 rfl (lv_at hl 3 rfl) ?_
            refine va_get (D := D) (ci := 6) (v := .ref (ma 28)) (C := RX5) (T := TX5) (N := 29) hx hb hts in_X5_mayGoOn_X5 hown hK hP 2 rfl rfl 28 (by decide) w_0 (fun _ h9 => h9) rfl dX5_mayGoOn_32 ?_
            refine lv_iload_n hx hb dX5_mayGoOn_35 rfl (lv_at hl 0 rfl) ?_
            refine va_iald hx hb hK hP 3 0 rfl rfl (by unfold vp_in; decide) dX5_mayGoOn_36 ?_
            refine lv_topi (fun z_195 ez_195 => ?_)
            have fz_195 : z_195 = 0 := ez_195.trans (by rw [show (1 : Int32).toNatClampNeg = 1 by decide, haf 1 (by decide), hb1] <;> rfl)
            subst fz_195
            refine va_iald hx hb hK hP 4 0 rfl rfl (by unfold vp_in; decide) dX5_mayGoOn_37 ?_
            refine lv_topi (fun z_196 ez_196 => ?_)
            have fz_196 : z_196 = 0 := ez_196.trans (rfl)
            subst fz_196
            refine lv_aload_n hx hb dX5_mayGoOn_38 rfl (lv_at hl 3 rfl) ?_
            refine va_get (D := D) (ci := 6) (v := .ref (ma 2)) (C := RX5) (T := TX5) (N := 29) hx hb hts in_X5_mayGoOn_X5 hown hK hP 2 rfl rfl 2 (by decide) w_1 (fun _ h9 => h9) rfl dX5_mayGoOn_39 ?_
            refine lv_iload_n hx hb dX5_mayGoOn_42 rfl (lv_at hl 2 rfl) ?_
            refine va_iald hx hb hK hP 4 0 rfl rfl (by unfold vp_in; decide) dX5_mayGoOn_43 ?_
            refine lv_topi (fun z_197 ez_197 => ?_)
            have fz_197 : z_197 = 0 := ez_197.trans (rfl)
            subst fz_197
            refine lv_icmp_ne (tgt := 65) hx hb dX5_mayGoOn_44 (by decide) (fun hc => absurd (by decide) hc) (fun _ => ?_)
            refine lv_iload_n hx hb dX5_mayGoOn_47 rfl (lv_at hl 1 rfl) ?_
            refine lv_iload_n hx hb dX5_mayGoOn_48 rfl (lv_at hl 0 rfl) ?_
            refine lv_aload_n hx hb dX5_mayGoOn_49 rfl (lv_at hl 3 rfl) ?_
            refine va_get (D := D) (ci := 6) (v := .ref (ma 7)) (C := RX5) (T := TX5) (N := 29) hx hb hts in_X5_mayGoOn_X5 hown hK hP 2 rfl rfl 7 (by decide) w_2 (fun _ h9 => h9) rfl dX5_mayGoOn_50 ?_
            refine lv_iload_n hx hb dX5_mayGoOn_53 rfl (lv_at hl 2 rfl) ?_
            refine va_iald hx hb hK hP 0 0 rfl rfl (by unfold vp_in; decide) dX5_mayGoOn_54 ?_
            refine lv_topi (fun z_198 ez_198 => ?_)
            have fz_198 : z_198 = 0 := ez_198.trans (rfl)
            subst fz_198
            refine lv_icmp_ne (tgt := 62) hx hb dX5_mayGoOn_55 (by decide) (fun _ => ?_) (fun hc => absurd hc (by decide))
            refine lv_iconst (v := 2) hx hb dX5_mayGoOn_62 (by decide) ?_
            refine lv_iadd hx hb dX5_mayGoOn_63 ?_
            refine lv_topi (fun z_199 ez_199 => ?_)
            have fz_199 : z_199 = 2 := ez_199.trans (by decide)
            subst fz_199
            refine lv_istore_n (lv' := [(2, .int 2), (3, .int 1), (1, .int 0), (0, .ref mo)]) hx hb dX5_mayGoOn_64 rfl hl (by decide) rfl (fun ls hl => ?_)
            refine lv_iinc (v := 2) (lv' := [(3, .int 2), (2, .int 2), (1, .int 0), (0, .ref mo)]) hx hb dX5_mayGoOn_65 hl (k := 1) rfl (by decide) (by decide) rfl (fun ls hl => ?_)
            refine lv_goto (tgt := 9) hx hb dX5_mayGoOn_68 (by decide) ?_
            refine lv_iload_n hx hb dX5_mayGoOn_9 rfl (lv_at hl 0 rfl) ?_
            refine lv_iconst (v := 5) hx hb dX5_mayGoOn_10 (by decide) ?_
            refine lv_icmp_ge (tgt := 71) hx hb dX5_mayGoOn_11 (by decide) (fun hc => absurd hc (by decide)) (fun _ => ?_)
            refine lv_iload_n hx hb dX5_mayGoOn_14 rfl (lv_at hl 2 rfl) ?_
            refine lv_if_lt (tgt := 71) hx hb dX5_mayGoOn_15 (by decide) (fun hc => absurd hc (by decide)) (fun _ => ?_)
            refine lv_aload_n hx hb dX5_mayGoOn_18 rfl (lv_at hl 3 rfl) ?_
            refine va_get (D := D) (ci := 6) (v := .ref (ma 28)) (C := RX5) (T := TX5) (N := 29) hx hb hts in_X5_mayGoOn_X5 hown hK hP 2 rfl rfl 28 (by decide) w_0 (fun _ h9 => h9) rfl dX5_mayGoOn_19 ?_
            refine lv_iload_n hx hb dX5_mayGoOn_22 rfl (lv_at hl 0 rfl) ?_
            refine va_iald hx hb hK hP 3 0 rfl rfl (by unfold vp_in; decide) dX5_mayGoOn_23 ?_
            refine lv_topi (fun z_200 ez_200 => ?_)
            have fz_200 : z_200 = 0 := ez_200.trans (by rw [show (2 : Int32).toNatClampNeg = 2 by decide, haf 2 (by decide), hb2] <;> rfl)
            subst fz_200
            refine lv_if_lt (tgt := 65) hx hb dX5_mayGoOn_24 (by decide) (fun hc => absurd hc (by decide)) (fun _ => ?_)
            refine lv_aload_n hx hb dX5_mayGoOn_27 rfl (lv_at hl 3 rfl) ?_
            refine va_get (D := D) (ci := 6) (v := .ref (ma 2)) (C := RX5) (T := TX5) (N := 29) hx hb hts in_X5_mayGoOn_X5 hown hK hP 2 rfl rfl 2 (by decide) w_1 (fun _ h9 => h9) rfl dX5_mayGoOn_28 ?_
            refine lv_aload_n hx hb dX5_mayGoOn_31 rfl (lv_at hl 3 rfl) ?_
            refine va_get (D := D) (ci := 6) (v := .ref (ma 28)) (C := RX5) (T := TX5) (N := 29) hx hb hts in_X5_mayGoOn_X5 hown hK hP 2 rfl rfl 28 (by decide) w_0 (fun _ h9 => h9) rfl dX5_mayGoOn_32 ?_
            refine lv_iload_n hx hb dX5_mayGoOn_35 rfl (lv_at hl 0 rfl) ?_
            refine va_iald hx hb hK hP 3 0 rfl rfl (by unfold vp_in; decide) dX5_mayGoOn_36 ?_
            refine lv_topi (fun z_201 ez_201 => ?_)
            have fz_201 : z_201 = 0 := ez_201.trans (by rw [show (2 : Int32).toNatClampNeg = 2 by decide, haf 2 (by decide), hb2] <;> rfl)
            subst fz_201
            refine va_iald hx hb hK hP 4 0 rfl rfl (by unfold vp_in; decide) dX5_mayGoOn_37 ?_
            refine lv_topi (fun z_202 ez_202 => ?_)
            have fz_202 : z_202 = 0 := ez_202.trans (rfl)
            subst fz_202
            refine lv_aload_n hx hb dX5_mayGoOn_38 rfl (lv_at hl 3 rfl) ?_
            refine va_get (D := D) (ci := 6) (v := .ref (ma 2)) (C := RX5) (T := TX5) (N := 29) hx hb hts in_X5_mayGoOn_X5 hown hK hP 2 rfl rfl 2 (by decide) w_1 (fun _ h9 => h9) rfl dX5_mayGoOn_39 ?_
            refine lv_iload_n hx hb dX5_mayGoOn_42 rfl (lv_at hl 2 rfl) ?_
            refine va_iald hx hb hK hP 4 0 rfl rfl (by unfold vp_in; decide) dX5_mayGoOn_43 ?_
            refine lv_topi (fun z_203 ez_203 => ?_)
            have fz_203 : z_203 = 0 := ez_203.trans (rfl)
            subst fz_203
            refine lv_icmp_ne (tgt := 65) hx hb dX5_mayGoOn_44 (by decide) (fun hc => absurd (by decide) hc) (fun _ => ?_)
            refine lv_iload_n hx hb dX5_mayGoOn_47 rfl (lv_at hl 1 rfl) ?_
            refine lv_iload_n hx hb dX5_mayGoOn_48 rfl (lv_at hl 0 rfl) ?_
            refine lv_aload_n hx hb dX5_mayGoOn_49 rfl (lv_at hl 3 rfl) ?_
            refine va_get (D := D) (ci := 6) (v := .ref (ma 7)) (C := RX5) (T := TX5) (N := 29) hx hb hts in_X5_mayGoOn_X5 hown hK hP 2 rfl rfl 7 (by decide) w_2 (fun _ h9 => h9) rfl dX5_mayGoOn_50 ?_
            refine lv_iload_n hx hb dX5_mayGoOn_53 rfl (lv_at hl 2 rfl) ?_
            refine va_iald hx hb hK hP 0 0 rfl rfl (by unfold vp_in; decide) dX5_mayGoOn_54 ?_
            refine lv_topi (fun z_204 ez_204 => ?_)
            have fz_204 : z_204 = 0 := ez_204.trans (rfl)
            subst fz_204
            refine lv_icmp_ne (tgt := 62) hx hb dX5_mayGoOn_55 (by decide) (fun _ => ?_) (fun hc => absurd hc (by decide))
            refine lv_iconst (v := 2) hx hb dX5_mayGoOn_62 (by decide) ?_
            refine lv_iadd hx hb dX5_mayGoOn_63 ?_
            refine lv_topi (fun z_205 ez_205 => ?_)
            have fz_205 : z_205 = 4 := ez_205.trans (by decide)
            subst fz_205
            refine lv_istore_n (lv' := [(2, .int 4), (3, .int 2), (1, .int 0), (0, .ref mo)]) hx hb dX5_mayGoOn_64 rfl hl (by decide) rfl (fun ls hl => ?_)
            refine lv_iinc (v := 3) (lv' := [(3, .int 3), (2, .int 4), (1, .int 0), (0, .ref mo)]) hx hb dX5_mayGoOn_65 hl (k := 1) rfl (by decide) (by decide) rfl (fun ls hl => ?_)
            refine lv_goto (tgt := 9) hx hb dX5_mayGoOn_68 (by decide) ?_
            refine lv_iload_n hx hb dX5_mayGoOn_9 rfl (lv_at hl 0 rfl) ?_
            refine lv_iconst (v := 5) hx hb dX5_mayGoOn_10 (by decide) ?_
            refine lv_icmp_ge (tgt := 71) hx hb dX5_mayGoOn_11 (by decide) (fun hc => absurd hc (by decide)) (fun _ => ?_)
            refine lv_iload_n hx hb dX5_mayGoOn_14 rfl (lv_at hl 2 rfl) ?_
            refine lv_if_lt (tgt := 71) hx hb dX5_mayGoOn_15 (by decide) (fun hc => absurd hc (by decide)) (fun _ => ?_)
            refine lv_aload_n hx hb dX5_mayGoOn_18 rfl (lv_at hl 3 rfl) ?_
            refine va_get (D := D) (ci := 6) (v := .ref (ma 28)) (C := RX5) (T := TX5) (N := 29) hx hb hts in_X5_mayGoOn_X5 hown hK hP 2 rfl rfl 28 (by decide) w_0 (fun _ h9 => h9) rfl dX5_mayGoOn_19 ?_
            refine lv_iload_n hx hb dX5_mayGoOn_22 rfl (lv_at hl 0 rfl) ?_
            refine va_iald hx hb hK hP 3 0 rfl rfl (by unfold vp_in; decide) dX5_mayGoOn_23 ?_
            refine lv_topi (fun z_206 ez_206 => ?_)
            have fz_206 : z_206 = (-1) := ez_206.trans (by rw [show (3 : Int32).toNatClampNeg = 3 by decide, haf 3 (by decide), hb3] <;> rfl)
            subst fz_206
            refine lv_if_lt (tgt := 65) hx hb dX5_mayGoOn_24 (by decide) (fun _ => ?_) (fun hc => absurd (by decide) hc)
            refine lv_iinc (v := 4) (lv' := [(3, .int 4), (2, .int 4), (1, .int 0), (0, .ref mo)]) hx hb dX5_mayGoOn_65 hl (k := 0) rfl (by decide) (by decide) rfl (fun ls hl => ?_)
            refine lv_goto (tgt := 9) hx hb dX5_mayGoOn_68 (by decide) ?_
            refine lv_iload_n hx hb dX5_mayGoOn_9 rfl (lv_at hl 0 rfl) ?_
            refine lv_iconst (v := 5) hx hb dX5_mayGoOn_10 (by decide) ?_
            refine lv_icmp_ge (tgt := 71) hx hb dX5_mayGoOn_11 (by decide) (fun hc => absurd hc (by decide)) (fun _ => ?_)
            refine lv_iload_n hx hb dX5_mayGoOn_14 rfl (lv_at hl 2 rfl) ?_
            refine lv_if_lt (tgt := 71) hx hb dX5_mayGoOn_15 (by decide) (fun hc => absurd hc (by decide)) (fun _ => ?_)
            refine lv_aload_n hx hb dX5_mayGoOn_18 rfl (lv_at hl 3 rfl) ?_
            refine va_get (D := D) (ci := 6) (v := .ref (ma 28)) (C := RX5) (T := TX5) (N := 29) hx hb hts in_X5_mayGoOn_X5 hown hK hP 2 rfl rfl 28 (by decide) w_0 (fun _ h9 => h9) rfl dX5_mayGoOn_19 ?_
            refine lv_iload_n hx hb dX5_mayGoOn_22 rfl (lv_at hl 0 rfl) ?_
            refine va_iald hx hb hK hP 3 0 rfl rfl (by unfold vp_in; decide) dX5_mayGoOn_23 ?_
            refine lv_topi (fun z_207 ez_207 => ?_)
            have fz_207 : z_207 = (-1) := ez_207.trans (by rw [show (4 : Int32).toNatClampNeg = 4 by decide, haf 4 (by decide), hb4] <;> rfl)
            subst fz_207
            refine lv_if_lt (tgt := 65) hx hb dX5_mayGoOn_24 (by decide) (fun _ => ?_) (fun hc => absurd (by decide) hc)
            refine lv_iinc (v := 5) (lv' := [(3, .int 5), (2, .int 4), (1, .int 0), (0, .ref mo)]) hx hb dX5_mayGoOn_65 hl (k := 0) rfl (by decide) (by decide) rfl (fun ls hl => ?_)
            refine lv_goto (tgt := 9) hx hb dX5_mayGoOn_68 (by decide) ?_
            refine lv_iload_n hx hb dX5_mayGoOn_9 rfl (lv_at hl 0 rfl) ?_
            refine lv_iconst (v := 5) hx hb dX5_mayGoOn_10 (by decide) ?_
            refine lv_icmp_ge (tgt := 71) hx hb dX5_mayGoOn_11 (by decide) (fun _ => ?_) (fun hc => absurd (by decide) hc)
            refine lv_iload_n hx hb dX5_mayGoOn_71 rfl (lv_at hl 2 rfl) ?_
            refine lv_if_lt (tgt := 89) hx hb dX5_mayGoOn_72 (by decide) (fun hc => absurd hc (by decide)) (fun _ => ?_)
            refine lv_iload_n hx hb dX5_mayGoOn_75 rfl (lv_at hl 1 rfl) ?_
            refine lv_aload_n hx hb dX5_mayGoOn_76 rfl (lv_at hl 3 rfl) ?_
            refine va_get (D := D) (ci := 6) (v := .ref (ma 6)) (C := RX5) (T := TX5) (N := 29) hx hb hts in_X5_mayGoOn_X5 hown hK hP 2 rfl rfl 6 (by decide) w_3 (fun _ h9 => h9) rfl dX5_mayGoOn_77 ?_
            refine lv_iload_n hx hb dX5_mayGoOn_80 rfl (lv_at hl 2 rfl) ?_
            refine va_iald hx hb hK hP 1 0 rfl rfl (by unfold vp_in; decide) dX5_mayGoOn_81 ?_
            refine lv_topi (fun z_208 ez_208 => ?_)
            have fz_208 : z_208 = 5 := ez_208.trans (hzf)
            subst fz_208
            refine lv_icmp_le (tgt := 89) hx hb dX5_mayGoOn_82 (by decide) (fun _ => ?_) (fun hc => absurd (by decide) hc)
            refine lv_iconst (v := 0) hx hb dX5_mayGoOn_89 (by decide) ?_
            have hP9 := hP.sub (ws' := [(mo, .inr (6, [.int th, .int 1, .ref (ma 2), .ref (ma 3), .ref (ma 4), .ref (ma 5), .ref (ma 6), .ref (ma 7), .ref (ma 8), .ref (ma 9), .ref (ma 10), .ref (ma 11), .ref (ma 12), .ref (ma 13), .ref (ma 14), .ref (ma 15), .ref (ma 16), .ref (ma 17), .ref (ma 18), .ref (ma 19), .ref (ma 20), .ref (ma 21), .int 0, .ref (ma 23), .ref (ma 24), .ref (ma 25), .ref (ma 26), .ref (ma 27), .ref (ma 28)])), ((ma 28), wI tC 5 af), ((ma 2), wI tC 600 (fun _ => 0)), ((ma 7), wI tC 600 (fun _ => 0)), ((ma 6), wI tC 600 zf)]) [2, 3, 4, 0, 1] rfl
            have hD9 := hD.sub (ws' := [(mo, .inr (6, [.int th, .int 1, .ref (ma 2), .ref (ma 3), .ref (ma 4), .ref (ma 5), .ref (ma 6), .ref (ma 7), .ref (ma 8), .ref (ma 9), .ref (ma 10), .ref (ma 11), .ref (ma 12), .ref (ma 13), .ref (ma 14), .ref (ma 15), .ref (ma 16), .ref (ma 17), .ref (ma 18), .ref (ma 19), .ref (ma 20), .ref (ma 21), .int 0, .ref (ma 23), .ref (ma 24), .ref (ma 25), .ref (ma 26), .ref (ma 27), .ref (ma 28)])), ((ma 28), wI tC 5 af), ((ma 2), wI tC 600 (fun _ => 0)), ((ma 7), wI tC 600 (fun _ => 0)), ((ma 6), wI tC 600 zf)]) [2, 3, 4, 0, 1] (by decide) rfl
            refine W.widen (k := 0) (n := 0) (by omega) (by omega) ?_
            exact W.zret (v := 0) hx hb hr (by decide) (fun t ht hW => ⟨⟨0, (), rfl, (by unfold mayg cntb; rw [hb0, hb1, hb2, hb3, hb4] <;> decide), (by rw [ht]; exact hP9), va_K.moved hW.alike hK, hD9⟩, hS.F ht⟩) hS.2.2 dX5_mayGoOn_90 hlocks
          · skip
            refine lv_aload_n hx hb dX5_mayGoOn_0 rfl (lv_at hl 0 rfl) ?_
            have hPc := hP.sub (ws' := [(mo, .inr (6, [.int th, .int 1, .ref (ma 2), .ref (ma 3), .ref (ma 4), .ref (ma 5), .ref (ma 6), .ref (ma 7), .ref (ma 8), .ref (ma 9), .ref (ma 10), .ref (ma 11), .ref (ma 12), .ref (ma 13), .ref (ma 14), .ref (ma 15), .ref (ma 16), .ref (ma 17), .ref (ma 18), .ref (ma 19), .ref (ma 20), .ref (ma 21), .int 0, .ref (ma 23), .ref (ma 24), .ref (ma 25), .ref (ma 26), .ref (ma 27), .ref (ma 28)])), ((ma 28), wI tC 5 af), ((ma 2), wI tC 600 (fun _ => 0))]) [0, 1, 2] rfl
            have hDc := hD.sub (ws' := [(mo, .inr (6, [.int th, .int 1, .ref (ma 2), .ref (ma 3), .ref (ma 4), .ref (ma 5), .ref (ma 6), .ref (ma 7), .ref (ma 8), .ref (ma 9), .ref (ma 10), .ref (ma 11), .ref (ma 12), .ref (ma 13), .ref (ma 14), .ref (ma 15), .ref (ma 16), .ref (ma 17), .ref (ma 18), .ref (ma 19), .ref (ma 20), .ref (ma 21), .int 0, .ref (ma 23), .ref (ma 24), .ref (ma 25), .ref (ma 26), .ref (ma 27), .ref (ma 28)])), ((ma 28), wI tC 5 af), ((ma 2), wI tC 600 (fun _ => 0))]) [0, 1, 2] (by decide) rfl
            have hFc := va_free (wc := [(mo, .inr (6, [.int th, .int 1, .ref (ma 2), .ref (ma 3), .ref (ma 4), .ref (ma 5), .ref (ma 6), .ref (ma 7), .ref (ma 8), .ref (ma 9), .ref (ma 10), .ref (ma 11), .ref (ma 12), .ref (ma 13), .ref (ma 14), .ref (ma 15), .ref (ma 16), .ref (ma 17), .ref (ma 18), .ref (ma 19), .ref (ma 20), .ref (ma 21), .int 0, .ref (ma 23), .ref (ma 24), .ref (ma 25), .ref (ma 26), .ref (ma 27), .ref (ma 28)])), ((ma 28), wI tC 5 af), ((ma 2), wI tC 600 (fun _ => 0))]) hD hS hA [0, 1, 2] rfl
            refine va_calli (va_runV (As := []) (rest := []) ⟨hx, hb, hml, hown, hts⟩ (c_X5_greatest l hlt D tC dz s.heap.size mo ma th af bt haf) (cwV 0 hts gX5_mayGoOn_X5_greatest rfl rfl rfl (by decide +kernel) ⟨Nat.le_of_ble_eq_true rfl, Nat.le_of_ble_eq_true rfl⟩) ⟨pB_blind, va_recv hK hPc (ci := 6) (q0 := 0) rfl rfl, pB_at hPc hDc hK hN hE hS hFc⟩ rfl rfl hl.1 rfl (lv_room (Nat.le_of_ble_eq_true rfl)) dX5_mayGoOn_1 ⟨Nat.le_of_ble_eq_true rfl, Nat.le_of_ble_eq_true rfl⟩) hS (fun q _ h => hFc q h) hFc (fun r_209 u t H1 locs ht hvm hw hB hz1 hk1 hS => ?_)
            obtain ⟨hP1, _, hD1⟩ := hB
            have hw_210 := hw
            rw [ht] at hP1
            obtain ⟨hP, hD⟩ := va_join (wr := [((ma 7), wI tC 600 (fun _ => 0)), ((ma 6), wI tC 600 zf)]) (w1 := [(mo, .inr (6, [.int th, .int 1, .ref (ma 2), .ref (ma 3), .ref (ma 4), .ref (ma 5), .ref (ma 6), .ref (ma 7), .ref (ma 8), .ref (ma 9), .ref (ma 10), .ref (ma 11), .ref (ma 12), .ref (ma 13), .ref (ma 14), .ref (ma 15), .ref (ma 16), .ref (ma 17), .ref (ma 18), .ref (ma 19), .ref (ma 20), .ref (ma 21), .int 0, .ref (ma 23), .ref (ma 24), .ref (ma 25), .ref (ma 26), .ref (ma 27), .ref (ma 28)])), ((ma 28), wI tC 5 af), ((ma 2), wI tC 600 (fun _ => 0))]) hP hD [0, 1, 2] [3, 4] rfl rfl (by decide) (by decide) hk1 hFc hP1 hD1
            generalize H1 = H at hP hS ⊢
            have hP : va_P D vwCl [((ma 7), wI tC 600 (fun _ => 0)), ((ma 6), wI tC 600 zf), (mo, .inr (6, [.int th, .int 1, .ref (ma 2), .ref (ma 3), .ref (ma 4), .ref (ma 5), .ref (ma 6), .ref (ma 7), .ref (ma 8), .ref (ma 9), .ref (ma 10), .ref (ma 11), .ref (ma 12), .ref (ma 13), .ref (ma 14), .ref (ma 15), .ref (ma 16), .ref (ma 17), .ref (ma 18), .ref (ma 19), .ref (ma 20), .ref (ma 21), .int 0, .ref (ma 23), .ref (ma 24), .ref (ma 25), .ref (ma 26), .ref (ma 27), .ref (ma 28)])), ((ma 28), wI tC 5 af), ((ma 2), wI tC 600 (fun _ => 0))] H := hP
            have hD : va_D A [((ma 7), wI tC 600 (fun _ => 0)), ((ma 6), wI tC 600 zf), (mo, .inr (6, [.int th, .int 1, .ref (ma 2), .ref (ma 3), .ref (ma 4), .ref (ma 5), .ref (ma 6), .ref (ma 7), .ref (ma 8), .ref (ma 9), .ref (ma 10), .ref (ma 11), .ref (ma 12), .ref (ma 13), .ref (ma 14), .ref (ma 15), .ref (ma 16), .ref (ma 17), .ref (ma 18), .ref (ma 19), .ref (ma 20), .ref (ma 21), .int 0, .ref (ma 23), .ref (ma 24), .ref (ma 25), .ref (ma 26), .ref (ma 27), .ref (ma 28)])), ((ma 28), wI tC 5 af), ((ma 2), wI tC 600 (fun _ => 0))] := hD
            have q1 : r_209 = 0 := hw_210.trans (by rw [hb0, hb1, hb2, hb3, hb4] <;> rfl)
            subst q1
            refine lv_istore_n (lv' := [(1, .int 0), (0, .ref mo)]) hx hb dX5_mayGoOn_4 rfl hl (by decide) rfl (fun ls hl => ?_)
            refine lv_iconst (v := 0) hx hb dX5_mayGoOn_5 (by decide) ?_
            refine lv_istore_n (lv' := [(2, .int 0), (1, .int 0), (0, .ref mo)]) hx hb dX5_mayGoOn_6 rfl hl (by decide) rfl (fun ls hl => ?_)
            refine lv_iconst (v := 0) hx hb dX5_mayGoOn_7 (by decide) ?_
            refine lv_istore_n (lv' := [(3, .int 0), (2, .int 0), (1, .int 0), (0, .ref mo)]) hx hb dX5_mayGoOn_8 rfl hl (by decide) rfl (fun ls hl => ?_)
            refine lv_iload_n hx hb dX5_mayGoOn_9 rfl (lv_at hl 0 rfl) ?_
            refine lv_iconst (v := 5) hx hb dX5_mayGoOn_10 (by decide) ?_
            refine lv_icmp_ge (tgt := 71) hx hb dX5_mayGoOn_11 (by decide) (fun hc => absurd hc (by decide)) (fun _ => ?_)
            refine lv_iload_n hx hb dX5_mayGoOn_14 rfl (lv_at hl 2 rfl) ?_
            refine lv_if_lt (tgt := 71) hx hb dX5_mayGoOn_15 (by decide) (fun hc => absurd hc (by decide)) (fun _ => ?_)
            refine lv_aload_n hx hb dX5_mayGoOn_18 rfl (lv_at hl 3 rfl) ?_
            refine va_get (D := D) (ci := 6) (v := .ref (ma 28)) (C := RX5) (T := TX5) (N := 29) hx hb hts in_X5_mayGoOn_X5 hown hK hP 2 rfl rfl 28 (by decide) w_0 (fun _ h9 => h9) rfl dX5_mayGoOn_19 ?_
            refine lv_iload_n hx hb dX5_mayGoOn_22 rfl (lv_at hl 0 rfl) ?_
            refine va_iald hx hb hK hP 3 0 rfl rfl (by unfold vp_in; decide) dX5_mayGoOn_23 ?_
            refine lv_topi (fun z_211 ez_211 => ?_)
            have fz_211 : z_211 = (-1) := ez_211.trans (by rw [show (0 : Int32).toNatClampNeg = 0 by decide, haf 0 (by decide), hb0] <;> rfl)
            subst fz_211
            refine lv_if_lt (tgt := 65) hx hb dX5_mayGoOn_24 (by decide) (fun _ => ?_) (fun hc => absurd (by decide) hc)
            refine lv_iinc (v := 1) (lv' := [(3, .int 1), (2, .int 0), (1, .int 0), (0, .ref mo)]) hx hb dX5_mayGoOn_65 hl (k := 0) rfl (by decide) (by decide) rfl (fun ls hl => ?_)
            refine lv_goto (tgt := 9) hx hb dX5_mayGoOn_68 (by decide) ?_
            refine lv_iload_n hx hb dX5_mayGoOn_9 rfl (lv_at hl 0 rfl) ?_
            refine lv_iconst (v := 5) hx hb dX5_mayGoOn_10 (by decide) ?_
            refine lv_icmp_ge (tgt := 71) hx hb dX5_mayGoOn_11 (by decide) (fun hc => absurd hc (by decide)) (fun _ => ?_)
            refine lv_iload_n hx hb dX5_mayGoOn_14 rfl (lv_at hl 2 rfl) ?_
            refine lv_if_lt (tgt := 71) hx hb dX5_mayGoOn_15 (by decide) (fun hc => absurd hc (by decide)) (fun _ => ?_)
            refine lv_aload_n hx hb dX5_mayGoOn_18 rfl (lv_at hl 3 rfl) ?_
            refine va_get (D := D) (ci := 6) (v := .ref (ma 28)) (C := RX5) (T := TX5) (N := 29) hx hb hts in_X5_mayGoOn_X5 hown hK hP 2 rfl rfl 28 (by decide) w_0 (fun _ h9 => h9) rfl dX5_mayGoOn_19 ?_
            refine lv_iload_n hx hb dX5_mayGoOn_22 rfl (lv_at hl 0 rfl) ?_
            refine va_iald hx hb hK hP 3 0 rfl rfl (by unfold vp_in; decide) dX5_mayGoOn_23 ?_
            refine lv_topi (fun z_212 ez_212 => ?_)
            have fz_212 : z_212 = 0 := ez_212.trans (by rw [show (1 : Int32).toNatClampNeg = 1 by decide, haf 1 (by decide), hb1] <;> rfl)
            subst fz_212
            refine lv_if_lt (tgt := 65) hx hb dX5_mayGoOn_24 (by decide) (fun hc => absurd hc (by decide)) (fun _ => ?_)
            refine lv_aload_n hx hb dX5_mayGoOn_27 rfl (lv_at hl 3 rfl) ?_
            refine va_get (D := D) (ci := 6) (v := .ref (ma 2)) (C := RX5) (T := TX5) (N := 29) hx hb hts in_X5_mayGoOn_X5 hown hK hP 2 rfl rfl 2 (by decide) w_1 (fun _ h9 => h9) rfl dX5_mayGoOn_28 ?_
            refine lv_aload_n hx hb dX5_mayGoOn_31 rfl (lv_at hl 3 rfl) ?_
            refine va_get (D := D) (ci := 6) (v := .ref (ma 28)) (C := RX5) (T := TX5) (N := 29) hx hb hts in_X5_mayGoOn_X5 hown hK hP 2 rfl rfl 28 (by decide) w_0 (fun _ h9 => h9) rfl dX5_mayGoOn_32 ?_
            refine lv_iload_n hx hb dX5_mayGoOn_35 rfl (lv_at hl 0 rfl) ?_
            refine va_iald hx hb hK hP 3 0 rfl rfl (by unfold vp_in; decide) dX5_mayGoOn_36 ?_
            refine lv_topi (fun z_213 ez_213 => ?_)
            have fz_213 : z_213 = 0 := ez_213.trans (by rw [show (1 : Int32).toNatClampNeg = 1 by decide, haf 1 (by decide), hb1] <;> rfl)
            subst fz_213
            refine va_iald hx hb hK hP 4 0 rfl rfl (by unfold vp_in; decide) dX5_mayGoOn_37 ?_
            refine lv_topi (fun z_214 ez_214 => ?_)
            have fz_214 : z_214 = 0 := ez_214.trans (rfl)
            subst fz_214
            refine lv_aload_n hx hb dX5_mayGoOn_38 rfl (lv_at hl 3 rfl) ?_
            refine va_get (D := D) (ci := 6) (v := .ref (ma 2)) (C := RX5) (T := TX5) (N := 29) hx hb hts in_X5_mayGoOn_X5 hown hK hP 2 rfl rfl 2 (by decide) w_1 (fun _ h9 => h9) rfl dX5_mayGoOn_39 ?_
            refine lv_iload_n hx hb dX5_mayGoOn_42 rfl (lv_at hl 2 rfl) ?_
            refine va_iald hx hb hK hP 4 0 rfl rfl (by unfold vp_in; decide) dX5_mayGoOn_43 ?_
            refine lv_topi (fun z_215 ez_215 => ?_)
            have fz_215 : z_215 = 0 := ez_215.trans (rfl)
            subst fz_215
            refine lv_icmp_ne (tgt := 65) hx hb dX5_mayGoOn_44 (by decide) (fun hc => absurd (by decide) hc) (fun _ => ?_)
            refine lv_iload_n hx hb dX5_mayGoOn_47 rfl (lv_at hl 1 rfl) ?_
            refine lv_iload_n hx hb dX5_mayGoOn_48 rfl (lv_at hl 0 rfl) ?_
            refine lv_aload_n hx hb dX5_mayGoOn_49 rfl (lv_at hl 3 rfl) ?_
            refine va_get (D := D) (ci := 6) (v := .ref (ma 7)) (C := RX5) (T := TX5) (N := 29) hx hb hts in_X5_mayGoOn_X5 hown hK hP 2 rfl rfl 7 (by decide) w_2 (fun _ h9 => h9) rfl dX5_mayGoOn_50 ?_
            refine lv_iload_n hx hb dX5_mayGoOn_53 rfl (lv_at hl 2 rfl) ?_
            refine va_iald hx hb hK hP 0 0 rfl rfl (by unfold vp_in; decide) dX5_mayGoOn_54 ?_
            refine lv_topi (fun z_216 ez_216 => ?_)
            have fz_216 : z_216 = 0 := ez_216.trans (rfl)
            subst fz_216
            refine lv_icmp_ne (tgt := 62) hx hb dX5_mayGoOn_55 (by decide) (fun _ => ?_) (fun hc => absurd hc (by decide))
            refine lv_iconst (v := 2) hx hb dX5_mayGoOn_62 (by decide) ?_
            refine lv_iadd hx hb dX5_mayGoOn_63 ?_
            refine lv_topi (fun z_217 ez_217 => ?_)
            have fz_217 : z_217 = 2 := ez_217.trans (by decide)
            subst fz_217
            refine lv_istore_n (lv' := [(2, .int 2), (3, .int 1), (1, .int 0), (0, .ref mo)]) hx hb dX5_mayGoOn_64 rfl hl (by decide) rfl (fun ls hl => ?_)
            refine lv_iinc (v := 2) (lv' := [(3, .int 2), (2, .int 2), (1, .int 0), (0, .ref mo)]) hx hb dX5_mayGoOn_65 hl (k := 1) rfl (by decide) (by decide) rfl (fun ls hl => ?_)
            refine lv_goto (tgt := 9) hx hb dX5_mayGoOn_68 (by decide) ?_
            refine lv_iload_n hx hb dX5_mayGoOn_9 rfl (lv_at hl 0 rfl) ?_
            refine lv_iconst (v := 5) hx hb dX5_mayGoOn_10 (by decide) ?_
            refine lv_icmp_ge (tgt := 71) hx hb dX5_mayGoOn_11 (by decide) (fun hc => absurd hc (by decide)) (fun _ => ?_)
            refine lv_iload_n hx hb dX5_mayGoOn_14 rfl (lv_at hl 2 rfl) ?_
            refine lv_if_lt (tgt := 71) hx hb dX5_mayGoOn_15 (by decide) (fun hc => absurd hc (by decide)) (fun _ => ?_)
            refine lv_aload_n hx hb dX5_mayGoOn_18 rfl (lv_at hl 3 rfl) ?_
            refine va_get (D := D) (ci := 6) (v := .ref (ma 28)) (C := RX5) (T := TX5) (N := 29) hx hb hts in_X5_mayGoOn_X5 hown hK hP 2 rfl rfl 28 (by decide) w_0 (fun _ h9 => h9) rfl dX5_mayGoOn_19 ?_
            refine lv_iload_n hx hb dX5_mayGoOn_22 rfl (lv_at hl 0 rfl) ?_
            refine va_iald hx hb hK hP 3 0 rfl rfl (by unfold vp_in; decide) dX5_mayGoOn_23 ?_
            refine lv_topi (fun z_218 ez_218 => ?_)
            have fz_218 : z_218 = 0 := ez_218.trans (by rw [show (2 : Int32).toNatClampNeg = 2 by decide, haf 2 (by decide), hb2] <;> rfl)
            subst fz_218
            refine lv_if_lt (tgt := 65) hx hb dX5_mayGoOn_24 (by decide) (fun hc => absurd hc (by decide)) (fun _ => ?_)
            refine lv_aload_n hx hb dX5_mayGoOn_27 rfl (lv_at hl 3 rfl) ?_
            refine va_get (D := D) (ci := 6) (v := .ref (ma 2)) (C := RX5) (T := TX5) (N := 29) hx hb hts in_X5_mayGoOn_X5 hown hK hP 2 rfl rfl 2 (by decide) w_1 (fun _ h9 => h9) rfl dX5_mayGoOn_28 ?_
            refine lv_aload_n hx hb dX5_mayGoOn_31 rfl (lv_at hl 3 rfl) ?_
            refine va_get (D := D) (ci := 6) (v := .ref (ma 28)) (C := RX5) (T := TX5) (N := 29) hx hb hts in_X5_mayGoOn_X5 hown hK hP 2 rfl rfl 28 (by decide) w_0 (fun _ h9 => h9) rfl dX5_mayGoOn_32 ?_
            refine lv_iload_n hx hb dX5_mayGoOn_35 rfl (lv_at hl 0 rfl) ?_
            refine va_iald hx hb hK hP 3 0 rfl rfl (by unfold vp_in; decide) dX5_mayGoOn_36 ?_
            refine lv_topi (fun z_219 ez_219 => ?_)
            have fz_219 : z_219 = 0 := ez_219.trans (by rw [show (2 : Int32).toNatClampNeg = 2 by decide, haf 2 (by decide), hb2] <;> rfl)
            subst fz_219
            refine va_iald hx hb hK hP 4 0 rfl rfl (by unfold vp_in; decide) dX5_mayGoOn_37 ?_
            refine lv_topi (fun z_220 ez_220 => ?_)
            have fz_220 : z_220 = 0 := ez_220.trans (rfl)
            subst fz_220
            refine lv_aload_n hx hb dX5_mayGoOn_38 rfl (lv_at hl 3 rfl) ?_
            refine va_get (D := D) (ci := 6) (v := .ref (ma 2)) (C := RX5) (T := TX5) (N := 29) hx hb hts in_X5_mayGoOn_X5 hown hK hP 2 rfl rfl 2 (by decide) w_1 (fun _ h9 => h9) rfl dX5_mayGoOn_39 ?_
            refine lv_iload_n hx hb dX5_mayGoOn_42 rfl (lv_at hl 2 rfl) ?_
            refine va_iald hx hb hK hP 4 0 rfl rfl (by unfold vp_in; decide) dX5_mayGoOn_43 ?_
            refine lv_topi (fun z_221 ez_221 => ?_)
            have fz_221 : z_221 = 0 := ez_221.trans (rfl)
            subst fz_221
            refine lv_icmp_ne (tgt := 65) hx hb dX5_mayGoOn_44 (by decide) (fun hc => absurd (by decide) hc) (fun _ => ?_)
            refine lv_iload_n hx hb dX5_mayGoOn_47 rfl (lv_at hl 1 rfl) ?_
            refine lv_iload_n hx hb dX5_mayGoOn_48 rfl (lv_at hl 0 rfl) ?_
            refine lv_aload_n hx hb dX5_mayGoOn_49 rfl (lv_at hl 3 rfl) ?_
            refine va_get (D := D) (ci := 6) (v := .ref (ma 7)) (C := RX5) (T := TX5) (N := 29) hx hb hts in_X5_mayGoOn_X5 hown hK hP 2 rfl rfl 7 (by decide) w_2 (fun _ h9 => h9) rfl dX5_mayGoOn_50 ?_
            refine lv_iload_n hx hb dX5_mayGoOn_53 rfl (lv_at hl 2 rfl) ?_
            refine va_iald hx hb hK hP 0 0 rfl rfl (by unfold vp_in; decide) dX5_mayGoOn_54 ?_
            refine lv_topi (fun z_222 ez_222 => ?_)
            have fz_222 : z_222 = 0 := ez_222.trans (rfl)
            subst fz_222
            refine lv_icmp_ne (tgt := 62) hx hb dX5_mayGoOn_55 (by decide) (fun _ => ?_) (fun hc => absurd hc (by decide))
            refine lv_iconst (v := 2) hx hb dX5_mayGoOn_62 (by decide) ?_
            refine lv_iadd hx hb dX5_mayGoOn_63 ?_
            refine lv_topi (fun z_223 ez_223 => ?_)
            have fz_223 : z_223 = 4 := ez_223.trans (by decide)
            subst fz_223
            refine lv_istore_n (lv' := [(2, .int 4), (3, .int 2), (1, .int 0), (0, .ref mo)]) hx hb dX5_mayGoOn_64 rfl hl (by decide) rfl (fun ls hl => ?_)
            refine lv_iinc (v := 3) (lv' := [(3, .int 3), (2, .int 4), (1, .int 0), (0, .ref mo)]) hx hb dX5_mayGoOn_65 hl (k := 1) rfl (by decide) (by decide) rfl (fun ls hl => ?_)
            refine lv_goto (tgt := 9) hx hb dX5_mayGoOn_68 (by decide) ?_
            refine lv_iload_n hx hb dX5_mayGoOn_9 rfl (lv_at hl 0 rfl) ?_
            refine lv_iconst (v := 5) hx hb dX5_mayGoOn_10 (by decide) ?_
            refine lv_icmp_ge (tgt := 71) hx hb dX5_mayGoOn_11 (by decide) (fun hc => absurd hc (by decide)) (fun _ => ?_)
            refine lv_iload_n hx hb dX5_mayGoOn_14 rfl (lv_at hl 2 rfl) ?_
            refine lv_if_lt (tgt := 71) hx hb dX5_mayGoOn_15 (by decide) (fun hc => absurd hc (by decide)) (fun _ => ?_)
            refine lv_aload_n hx hb dX5_mayGoOn_18 rfl (lv_at hl 3 rfl) ?_
            refine va_get (D := D) (ci := 6) (v := .ref (ma 28)) (C := RX5) (T := TX5) (N := 29) hx hb hts in_X5_mayGoOn_X5 hown hK hP 2 rfl rfl 28 (by decide) w_0 (fun _ h9 => h9) rfl dX5_mayGoOn_19 ?_
            refine lv_iload_n hx hb dX5_mayGoOn_22 rfl (lv_at hl 0 rfl) ?_
            refine va_iald hx hb hK hP 3 0 rfl rfl (by unfold vp_in; decide) dX5_mayGoOn_23 ?_
            refine lv_topi (fun z_224 ez_224 => ?_)
            have fz_224 : z_224 = (-1) := ez_224.trans (by rw [show (3 : Int32).toNatClampNeg = 3 by decide, haf 3 (by decide), hb3] <;> rfl)
            subst fz_224
            refine lv_if_lt (tgt := 65) hx hb dX5_mayGoOn_24 (by decide) (fun _ => ?_) (fun hc => absurd (by decide) hc)
            refine lv_iinc (v := 4) (lv' := [(3, .int 4), (2, .int 4), (1, .int 0), (0, .ref mo)]) hx hb dX5_mayGoOn_65 hl (k := 0) rfl (by decide) (by decide) rfl (fun ls hl => ?_)
            refine lv_goto (tgt := 9) hx hb dX5_mayGoOn_68 (by decide) ?_
            refine lv_iload_n hx hb dX5_mayGoOn_9 rfl (lv_at hl 0 rfl) ?_
            refine lv_iconst (v := 5) hx hb dX5_mayGoOn_10 (by decide) ?_
            refine lv_icmp_ge (tgt := 71) hx hb dX5_mayGoOn_11 (by decide) (fun hc => absurd hc (by decide)) (fun _ => ?_)
            refine lv_iload_n hx hb dX5_mayGoOn_14 rfl (lv_at hl 2 rfl) ?_
            refine lv_if_lt (tgt := 71) hx hb dX5_mayGoOn_15 (by decide) (fun hc => absurd hc (by decide)) (fun _ => ?_)
            refine lv_aload_n hx hb dX5_mayGoOn_18 rfl (lv_at hl 3 rfl) ?_
            refine va_get (D := D) (ci := 6) (v := .ref (ma 28)) (C := RX5) (T := TX5) (N := 29) hx hb hts in_X5_mayGoOn_X5 hown hK hP 2 rfl rfl 28 (by decide) w_0 (fun _ h9 => h9) rfl dX5_mayGoOn_19 ?_
            refine lv_iload_n hx hb dX5_mayGoOn_22 rfl (lv_at hl 0 rfl) ?_
            refine va_iald hx hb hK hP 3 0 rfl rfl (by unfold vp_in; decide) dX5_mayGoOn_23 ?_
            refine lv_topi (fun z_225 ez_225 => ?_)
            have fz_225 : z_225 = 0 := ez_225.trans (by rw [show (4 : Int32).toNatClampNeg = 4 by decide, haf 4 (by decide), hb4] <;> rfl)
            subst fz_225
            refine lv_if_lt (tgt := 65) hx hb dX5_mayGoOn_24 (by decide) (fun hc => absurd hc (by decide)) (fun _ => ?_)
            refine lv_aload_n hx hb dX5_mayGoOn_27 rfl (lv_at hl 3 rfl) ?_
            refine va_get (D := D) (ci := 6) (v := .ref (ma 2)) (C := RX5) (T := TX5) (N := 29) hx hb hts in_X5_mayGoOn_X5 hown hK hP 2 rfl rfl 2 (by decide) w_1 (fun _ h9 => h9) rfl dX5_mayGoOn_28 ?_
            refine lv_aload_n hx hb dX5_mayGoOn_31 rfl (lv_at hl 3 rfl) ?_
            refine va_get (D := D) (ci := 6) (v := .ref (ma 28)) (C := RX5) (T := TX5) (N := 29) hx hb hts in_X5_mayGoOn_X5 hown hK hP 2 rfl rfl 28 (by decide) w_0 (fun _ h9 => h9) rfl dX5_mayGoOn_32 ?_
            refine lv_iload_n hx hb dX5_mayGoOn_35 rfl (lv_at hl 0 rfl) ?_
            refine va_iald hx hb hK hP 3 0 rfl rfl (by unfold vp_in; decide) dX5_mayGoOn_36 ?_
            refine lv_topi (fun z_226 ez_226 => ?_)
            have fz_226 : z_226 = 0 := ez_226.trans (by rw [show (4 : Int32).toNatClampNeg = 4 by decide, haf 4 (by decide), hb4] <;> rfl)
            subst fz_226
            refine va_iald hx hb hK hP 4 0 rfl rfl (by unfold vp_in; decide) dX5_mayGoOn_37 ?_
            refine lv_topi (fun z_227 ez_227 => ?_)
            have fz_227 : z_227 = 0 := ez_227.trans (rfl)
            subst fz_227
            refine lv_aload_n hx hb dX5_mayGoOn_38 rfl (lv_at hl 3 rfl) ?_
            refine va_get (D := D) (ci := 6) (v := .ref (ma 2)) (C := RX5) (T := TX5) (N := 29) hx hb hts in_X5_mayGoOn_X5 hown hK hP 2 rfl rfl 2 (by decide) w_1 (fun _ h9 => h9) rfl dX5_mayGoOn_39 ?_
            refine lv_iload_n hx hb dX5_mayGoOn_42 rfl (lv_at hl 2 rfl) ?_
            refine va_iald hx hb hK hP 4 0 rfl rfl (by unfold vp_in; decide) dX5_mayGoOn_43 ?_
            refine lv_topi (fun z_228 ez_228 => ?_)
            have fz_228 : z_228 = 0 := ez_228.trans (rfl)
            subst fz_228
            refine lv_icmp_ne (tgt := 65) hx hb dX5_mayGoOn_44 (by decide) (fun hc => absurd (by decide) hc) (fun _ => ?_)
            refine lv_iload_n hx hb dX5_mayGoOn_47 rfl (lv_at hl 1 rfl) ?_
            refine lv_iload_n hx hb dX5_mayGoOn_48 rfl (lv_at hl 0 rfl) ?_
            refine lv_aload_n hx hb dX5_mayGoOn_49 rfl (lv_at hl 3 rfl) ?_
            refine va_get (D := D) (ci := 6) (v := .ref (ma 7)) (C := RX5) (T := TX5) (N := 29) hx hb hts in_X5_mayGoOn_X5 hown hK hP 2 rfl rfl 7 (by decide) w_2 (fun _ h9 => h9) rfl dX5_mayGoOn_50 ?_
            refine lv_iload_n hx hb dX5_mayGoOn_53 rfl (lv_at hl 2 rfl) ?_
            refine va_iald hx hb hK hP 0 0 rfl rfl (by unfold vp_in; decide) dX5_mayGoOn_54 ?_
            refine lv_topi (fun z_229 ez_229 => ?_)
            have fz_229 : z_229 = 0 := ez_229.trans (rfl)
            subst fz_229
            refine lv_icmp_ne (tgt := 62) hx hb dX5_mayGoOn_55 (by decide) (fun _ => ?_) (fun hc => absurd hc (by decide))
            refine lv_iconst (v := 2) hx hb dX5_mayGoOn_62 (by decide) ?_
            refine lv_iadd hx hb dX5_mayGoOn_63 ?_
            refine lv_topi (fun z_230 ez_230 => ?_)
            have fz_230 : z_230 = 6 := ez_230.trans (by decide)
            subst fz_230
            refine lv_istore_n (lv' := [(2, .int 6), (3, .int 4), (1, .int 0), (0, .ref mo)]) hx hb dX5_mayGoOn_64 rfl hl (by decide) rfl (fun ls hl => ?_)
            refine lv_iinc (v := 5) (lv' := [(3, .int 5), (2, .int 6), (1, .int 0), (0, .ref mo)]) hx hb dX5_mayGoOn_65 hl (k := 1) rfl (by decide) (by decide) rfl (fun ls hl => ?_)
            refine lv_goto (tgt := 9) hx hb dX5_mayGoOn_68 (by decide) ?_
            refine lv_iload_n hx hb dX5_mayGoOn_9 rfl (lv_at hl 0 rfl) ?_
            refine lv_iconst (v := 5) hx hb dX5_mayGoOn_10 (by decide) ?_
            refine lv_icmp_ge (tgt := 71) hx hb dX5_mayGoOn_11 (by decide) (fun _ => ?_) (fun hc => absurd (by decide) hc)
            refine lv_iload_n hx hb dX5_mayGoOn_71 rfl (lv_at hl 2 rfl) ?_
            refine lv_if_lt (tgt := 89) hx hb dX5_mayGoOn_72 (by decide) (fun hc => absurd hc (by decide)) (fun _ => ?_)
            refine lv_iload_n hx hb dX5_mayGoOn_75 rfl (lv_at hl 1 rfl) ?_
            refine lv_aload_n hx hb dX5_mayGoOn_76 rfl (lv_at hl 3 rfl) ?_
            refine va_get (D := D) (ci := 6) (v := .ref (ma 6)) (C := RX5) (T := TX5) (N := 29) hx hb hts in_X5_mayGoOn_X5 hown hK hP 2 rfl rfl 6 (by decide) w_3 (fun _ h9 => h9) rfl dX5_mayGoOn_77 ?_
            refine lv_iload_n hx hb dX5_mayGoOn_80 rfl (lv_at hl 2 rfl) ?_
            refine va_iald hx hb hK hP 1 0 rfl rfl (by unfold vp_in; decide) dX5_mayGoOn_81 ?_
            refine lv_topi (fun z_231 ez_231 => ?_)
            have fz_231 : z_231 = 5 := ez_231.trans (hzf)
            subst fz_231
            refine lv_icmp_le (tgt := 89) hx hb dX5_mayGoOn_82 (by decide) (fun hc => absurd hc (by decide)) (fun _ => ?_)
            refine lv_iconst (v := 1) hx hb dX5_mayGoOn_85 (by decide) ?_
            refine lv_goto (tgt := 90) hx hb dX5_mayGoOn_86 (by decide) ?_
            have hP9 := hP.sub (ws' := [(mo, .inr (6, [.int th, .int 1, .ref (ma 2), .ref (ma 3), .ref (ma 4), .ref (ma 5), .ref (ma 6), .ref (ma 7), .ref (ma 8), .ref (ma 9), .ref (ma 10), .ref (ma 11), .ref (ma 12), .ref (ma 13), .ref (ma 14), .ref (ma 15), .ref (ma 16), .ref (ma 17), .ref (ma 18), .ref (ma 19), .ref (ma 20), .ref (ma 21), .int 0, .ref (ma 23), .ref (ma 24), .ref (ma 25), .ref (ma 26), .ref (ma 27), .ref (ma 28)])), ((ma 28), wI tC 5 af), ((ma 2), wI tC 600 (fun _ => 0)), ((ma 7), wI tC 600 (fun _ => 0)), ((ma 6), wI tC 600 zf)]) [2, 3, 4, 0, 1] rfl
            have hD9 := hD.sub (ws' := [(mo, .inr (6, [.int th, .int 1, .ref (ma 2), .ref (ma 3), .ref (ma 4), .ref (ma 5), .ref (ma 6), .ref (ma 7), .ref (ma 8), .ref (ma 9), .ref (ma 10), .ref (ma 11), .ref (ma 12), .ref (ma 13), .ref (ma 14), .ref (ma 15), .ref (ma 16), .ref (ma 17), .ref (ma 18), .ref (ma 19), .ref (ma 20), .ref (ma 21), .int 0, .ref (ma 23), .ref (ma 24), .ref (ma 25), .ref (ma 26), .ref (ma 27), .ref (ma 28)])), ((ma 28), wI tC 5 af), ((ma 2), wI tC 600 (fun _ => 0)), ((ma 7), wI tC 600 (fun _ => 0)), ((ma 6), wI tC 600 zf)]) [2, 3, 4, 0, 1] (by decide) rfl
            refine W.widen (k := 0) (n := 0) (by omega) (by omega) ?_
            exact W.zret (v := 1) hx hb hr (by decide) (fun t ht hW => ⟨⟨1, (), rfl, (by unfold mayg cntb; rw [hb0, hb1, hb2, hb3, hb4] <;> decide), (by rw [ht]; exact hP9), va_K.moved hW.alike hK, hD9⟩, hS.F ht⟩) hS.2.2 dX5_mayGoOn_90 hlocks
        · skip
          cases hb4 : bt 4
          · skip
            refine lv_aload_n hx hb dX5_mayGoOn_0 rfl (lv_at hl 0 rfl) ?_
            have hPc := hP.sub (ws' := [(mo, .inr (6, [.int th, .int 1, .ref (ma 2), .ref (ma 3), .ref (ma 4), .ref (ma 5), .ref (ma 6), .ref (ma 7), .ref (ma 8), .ref (ma 9), .ref (ma 10), .ref (ma 11), .ref (ma 12), .ref (ma 13), .ref (ma 14), .ref (ma 15), .ref (ma 16), .ref (ma 17), .ref (ma 18), .ref (ma 19), .ref (ma 20), .ref (ma 21), .int 0, .ref (ma 23), .ref (ma 24), .ref (ma 25), .ref (ma 26), .ref (ma 27), .ref (ma 28)])), ((ma 28), wI tC 5 af), ((ma 2), wI tC 600 (fun _ => 0))]) [0, 1, 2] rfl
            have hDc := hD.sub (ws' := [(mo, .inr (6, [.int th, .int 1, .ref (ma 2), .ref (ma 3), .ref (ma 4), .ref (ma 5), .ref (ma 6), .ref (ma 7), .ref (ma 8), .ref (ma 9), .ref (ma 10), .ref (ma 11), .ref (ma 12), .ref (ma 13), .ref (ma 14), .ref (ma 15), .ref (ma 16), .ref (ma 17), .ref (ma 18), .ref (ma 19), .ref (ma 20), .ref (ma 21), .int 0, .ref (ma 23), .ref (ma 24), .ref (ma 25), .ref (ma 26), .ref (ma 27), .ref (ma 28)])), ((ma 28), wI tC 5 af), ((ma 2), wI tC 600 (fun _ => 0))]) [0, 1, 2] (by decide) rfl
            have hFc := va_free (wc := [(mo, .inr (6, [.int th, .int 1, .ref (ma 2), .ref (ma 3), .ref (ma 4), .ref (ma 5), .ref (ma 6), .ref (ma 7), .ref (ma 8), .ref (ma 9), .ref (ma 10), .ref (ma 11), .ref (ma 12), .ref (ma 13), .ref (ma 14), .ref (ma 15), .ref (ma 16), .ref (ma 17), .ref (ma 18), .ref (ma 19), .ref (ma 20), .ref (ma 21), .int 0, .ref (ma 23), .ref (ma 24), .ref (ma 25), .ref (ma 26), .ref (ma 27), .ref (ma 28)])), ((ma 28), wI tC 5 af), ((ma 2), wI tC 600 (fun _ => 0))]) hD hS hA [0, 1, 2] rfl
            refine va_calli (va_runV (As := []) (rest := []) ⟨hx, hb, hml, hown, hts⟩ (c_X5_greatest l hlt D tC dz s.heap.size mo ma th af bt haf) (cwV 0 hts gX5_mayGoOn_X5_greatest rfl rfl rfl (by decide +kernel) ⟨Nat.le_of_ble_eq_true rfl, Nat.le_of_ble_eq_true rfl⟩) ⟨pB_blind, va_recv hK hPc (ci := 6) (q0 := 0) rfl rfl, pB_at hPc hDc hK hN hE hS hFc⟩ rfl rfl hl.1 rfl (lv_room (Nat.le_of_ble_eq_true rfl)) dX5_mayGoOn_1 ⟨Nat.le_of_ble_eq_true rfl, Nat.le_of_ble_eq_true rfl⟩) hS (fun q _ h => hFc q h) hFc (fun r_232 u t H1 locs ht hvm hw hB hz1 hk1 hS => ?_)
            obtain ⟨hP1, _, hD1⟩ := hB
            have hw_233 := hw
            rw [ht] at hP1
            obtain ⟨hP, hD⟩ := va_join (wr := [((ma 7), wI tC 600 (fun _ => 0)), ((ma 6), wI tC 600 zf)]) (w1 := [(mo, .inr (6, [.int th, .int 1, .ref (ma 2), .ref (ma 3), .ref (ma 4), .ref (ma 5), .ref (ma 6), .ref (ma 7), .ref (ma 8), .ref (ma 9), .ref (ma 10), .ref (ma 11), .ref (ma 12), .ref (ma 13), .ref (ma 14), .ref (ma 15), .ref (ma 16), .ref (ma 17), .ref (ma 18), .ref (ma 19), .ref (ma 20), .ref (ma 21), .int 0, .ref (ma 23), .ref (ma 24), .ref (ma 25), .ref (ma 26), .ref (ma 27), .ref (ma 28)])), ((ma 28), wI tC 5 af), ((ma 2), wI tC 600 (fun _ => 0))]) hP hD [0, 1, 2] [3, 4] rfl rfl (by decide) (by decide) hk1 hFc hP1 hD1
            generalize H1 = H at hP hS ⊢
            have hP : va_P D vwCl [((ma 7), wI tC 600 (fun _ => 0)), ((ma 6), wI tC 600 zf), (mo, .inr (6, [.int th, .int 1, .ref (ma 2), .ref (ma 3), .ref (ma 4), .ref (ma 5), .ref (ma 6), .ref (ma 7), .ref (ma 8), .ref (ma 9), .ref (ma 10), .ref (ma 11), .ref (ma 12), .ref (ma 13), .ref (ma 14), .ref (ma 15), .ref (ma 16), .ref (ma 17), .ref (ma 18), .ref (ma 19), .ref (ma 20), .ref (ma 21), .int 0, .ref (ma 23), .ref (ma 24), .ref (ma 25), .ref (ma 26), .ref (ma 27), .ref (ma 28)])), ((ma 28), wI tC 5 af), ((ma 2), wI tC 600 (fun _ => 0))] H := hP
            have hD : va_D A [((ma 7), wI tC 600 (fun _ => 0)), ((ma 6), wI tC 600 zf), (mo, .inr (6, [.int th, .int 1, .ref (ma 2), .ref (ma 3), .ref (ma 4), .ref (ma 5), .ref (ma 6), .ref (ma 7), .ref (ma 8), .ref (ma 9), .ref (ma 10), .ref (ma 11), .ref (ma 12), .ref (ma 13), .ref (ma 14), .ref (ma 15), .ref (ma 16), .ref (ma 17), .ref (ma 18), .ref (ma 19), .ref (ma 20), .ref (ma 21), .int 0, .ref (ma 23), .ref (ma 24), .ref (ma 25), .ref (ma 26), .ref (ma 27), .ref (ma 28)])), ((ma 28), wI tC 5 af), ((ma 2), wI tC 600 (fun _ => 0))] := hD
            have q1 : r_232 = 0 := hw_233.trans (by rw [hb0, hb1, hb2, hb3, hb4] <;> rfl)
            subst q1
            refine lv_istore_n (lv' := [(1, .int 0), (0, .ref mo)]) hx hb dX5_mayGoOn_4 rfl hl (by decide) rfl (fun ls hl => ?_)
            refine lv_iconst (v := 0) hx hb dX5_mayGoOn_5 (by decide) ?_
            refine lv_istore_n (lv' := [(2, .int 0), (1, .int 0), (0, .ref mo)]) hx hb dX5_mayGoOn_6 rfl hl (by decide) rfl (fun ls hl => ?_)
            refine lv_iconst (v := 0) hx hb dX5_mayGoOn_7 (by decide) ?_
            refine lv_istore_n (lv' := [(3, .int 0), (2, .int 0), (1, .int 0), (0, .ref mo)]) hx hb dX5_mayGoOn_8 rfl hl (by decide) rfl (fun ls hl => ?_)
            refine lv_iload_n hx hb dX5_mayGoOn_9 rfl (lv_at hl 0 rfl) ?_
            refine lv_iconst (v := 5) hx hb dX5_mayGoOn_10 (by decide) ?_
            refine lv_icmp_ge (tgt := 71) hx hb dX5_mayGoOn_11 (by decide) (fun hc => absurd hc (by decide)) (fun _ => ?_)
            refine lv_iload_n hx hb dX5_mayGoOn_14 rfl (lv_at hl 2 rfl) ?_
            refine lv_if_lt (tgt := 71) hx hb dX5_mayGoOn_15 (by decide) (fun hc => absurd hc (by decide)) (fun _ => ?_)
            refine lv_aload_n hx hb dX5_mayGoOn_18 rfl (lv_at hl 3 rfl) ?_
            refine va_get (D := D) (ci := 6) (v := .ref (ma 28)) (C := RX5) (T := TX5) (N := 29) hx hb hts in_X5_mayGoOn_X5 hown hK hP 2 rfl rfl 28 (by decide) w_0 (fun _ h9 => h9) rfl dX5_mayGoOn_19 ?_
            refine lv_iload_n hx hb dX5_mayGoOn_22 rfl (lv_at hl 0 rfl) ?_
            refine va_iald hx hb hK hP 3 0 rfl rfl (by unfold vp_in; decide) dX5_mayGoOn_23 ?_
            refine lv_topi (fun z_234 ez_234 => ?_)
            have fz_234 : z_234 = (-1) := ez_234.trans (by rw [show (0 : Int32).toNatClampNeg = 0 by decide, haf 0 (by decide), hb0] <;> rfl)
            subst fz_234
            refine lv_if_lt (tgt := 65) hx hb dX5_mayGoOn_24 (by decide) (fun _ => ?_) (fun hc => absurd (by decide) hc)
            refine lv_iinc (v := 1) (lv' := [(3, .int 1), (2, .int 0), (1, .int 0), (0, .ref mo)]) hx hb dX5_mayGoOn_65 hl (k := 0) rfl (by decide) (by decide) rfl (fun ls hl => ?_)
            refine lv_goto (tgt := 9) hx hb dX5_mayGoOn_68 (by decide) ?_
            refine lv_iload_n hx hb dX5_mayGoOn_9 rfl (lv_at hl 0 rfl) ?_
            refine lv_iconst (v := 5) hx hb dX5_mayGoOn_10 (by decide) ?_
            refine lv_icmp_ge (tgt := 71) hx hb dX5_mayGoOn_11 (by decide) (fun hc => absurd hc (by decide)) (fun _ => ?_)
            refine lv_iload_n hx hb dX5_mayGoOn_14 rfl (lv_at hl 2 rfl) ?_
            refine lv_if_lt (tgt := 71) hx hb dX5_mayGoOn_15 (by decide) (fun hc => absurd hc (by decide)) (fun _ => ?_)
            refine lv_aload_n hx hb dX5_mayGoOn_18 rfl (lv_at hl 3 rfl) ?_
            refine va_get (D := D) (ci := 6) (v := .ref (ma 28)) (C := RX5) (T := TX5) (N := 29) hx hb hts in_X5_mayGoOn_X5 hown hK hP 2 rfl rfl 28 (by decide) w_0 (fun _ h9 => h9) rfl dX5_mayGoOn_19 ?_
            refine lv_iload_n hx hb dX5_mayGoOn_22 rfl (lv_at hl 0 rfl) ?_
            refine va_iald hx hb hK hP 3 0 rfl rfl (by unfold vp_in; decide) dX5_mayGoOn_23 ?_
            refine lv_topi (fun z_235 ez_235 => ?_)
            have fz_235 : z_235 = 0 := ez_235.trans (by rw [show (1 : Int32).toNatClampNeg = 1 by decide, haf 1 (by decide), hb1] <;> rfl)
            subst fz_235
            refine lv_if_lt (tgt := 65) hx hb dX5_mayGoOn_24 (by decide) (fun hc => absurd hc (by decide)) (fun _ => ?_)
            refine lv_aload_n hx hb dX5_mayGoOn_27 rfl (lv_at hl 3 rfl) ?_
            refine va_get (D := D) (ci := 6) (v := .ref (ma 2)) (C := RX5) (T := TX5) (N := 29) hx hb hts in_X5_mayGoOn_X5 hown hK hP 2 rfl rfl 2 (by decide) w_1 (fun _ h9 => h9) rfl dX5_mayGoOn_28 ?_
            refine lv_aload_n hx hb dX5_mayGoOn_31 rfl (lv_at hl 3 rfl) ?_
            refine va_get (D := D) (ci := 6) (v := .ref (ma 28)) (C := RX5) (T := TX5) (N := 29) hx hb hts in_X5_mayGoOn_X5 hown hK hP 2 rfl rfl 28 (by decide) w_0 (fun _ h9 => h9) rfl dX5_mayGoOn_32 ?_
            refine lv_iload_n hx hb dX5_mayGoOn_35 rfl (lv_at hl 0 rfl) ?_
            refine va_iald hx hb hK hP 3 0 rfl rfl (by unfold vp_in; decide) dX5_mayGoOn_36 ?_
            refine lv_topi (fun z_236 ez_236 => ?_)
            have fz_236 : z_236 = 0 := ez_236.trans (by rw [show (1 : Int32).toNatClampNeg = 1 by decide, haf 1 (by decide), hb1] <;> rfl)
            subst fz_236
            refine va_iald hx hb hK hP 4 0 rfl rfl (by unfold vp_in; decide) dX5_mayGoOn_37 ?_
            refine lv_topi (fun z_237 ez_237 => ?_)
            have fz_237 : z_237 = 0 := ez_237.trans (rfl)
            subst fz_237
            refine lv_aload_n hx hb dX5_mayGoOn_38 rfl (lv_at hl 3 rfl) ?_
            refine va_get (D := D) (ci := 6) (v := .ref (ma 2)) (C := RX5) (T := TX5) (N := 29) hx hb hts in_X5_mayGoOn_X5 hown hK hP 2 rfl rfl 2 (by decide) w_1 (fun _ h9 => h9) rfl dX5_mayGoOn_39 ?_
            refine lv_iload_n hx hb dX5_mayGoOn_42 rfl (lv_at hl 2 rfl) ?_
            refine va_iald hx hb hK hP 4 0 rfl rfl (by unfold vp_in; decide) dX5_mayGoOn_43 ?_
            refine lv_topi (fun z_238 ez_238 => ?_)
            have fz_238 : z_238 = 0 := ez_238.trans (rfl)
            subst fz_238
            refine lv_icmp_ne (tgt := 65) hx hb dX5_mayGoOn_44 (by decide) (fun hc => absurd (by decide) hc) (fun _ => ?_)
            refine lv_iload_n hx hb dX5_mayGoOn_47 rfl (lv_at hl 1 rfl) ?_
            refine lv_iload_n hx hb dX5_mayGoOn_48 rfl (lv_at hl 0 rfl) ?_
            refine lv_aload_n hx hb dX5_mayGoOn_49 rfl (lv_at hl 3 rfl) ?_
            refine va_get (D := D) (ci := 6) (v := .ref (ma 7)) (C := RX5) (T := TX5) (N := 29) hx hb hts in_X5_mayGoOn_X5 hown hK hP 2 rfl rfl 7 (by decide) w_2 (fun _ h9 => h9) rfl dX5_mayGoOn_50 ?_
            refine lv_iload_n hx hb dX5_mayGoOn_53 rfl (lv_at hl 2 rfl) ?_
            refine va_iald hx hb hK hP 0 0 rfl rfl (by unfold vp_in; decide) dX5_mayGoOn_54 ?_
            refine lv_topi (fun z_239 ez_239 => ?_)
            have fz_239 : z_239 = 0 := ez_239.trans (rfl)
            subst fz_239
            refine lv_icmp_ne (tgt := 62) hx hb dX5_mayGoOn_55 (by decide) (fun _ => ?_) (fun hc => absurd hc (by decide))
            refine lv_iconst (v := 2) hx hb dX5_mayGoOn_62 (by decide) ?_
            refine lv_iadd hx hb dX5_mayGoOn_63 ?_
            refine lv_topi (fun z_240 ez_240 => ?_)
            have fz_240 : z_240 = 2 := ez_240.trans (by decide)
            subst fz_240
            refine lv_istore_n (lv' := [(2, .int 2), (3, .int 1), (1, .int 0), (0, .ref mo)]) hx hb dX5_mayGoOn_64 rfl hl (by decide) rfl (fun ls hl => ?_)
            refine lv_iinc (v := 2) (lv' := [(3, .int 2), (2, .int 2), (1, .int 0), (0, .ref mo)]) hx hb dX5_mayGoOn_65 hl (k := 1) rfl (by decide) (by decide) rfl (fun ls hl => ?_)
            refine lv_goto (tgt := 9) hx hb dX5_mayGoOn_68 (by decide) ?_
            refine lv_iload_n hx hb dX5_mayGoOn_9 rfl (lv_at hl 0 rfl) ?_
            refine lv_iconst (v := 5) hx hb dX5_mayGoOn_10 (by decide) ?_
            refine lv_icmp_ge (tgt := 71) hx hb dX5_mayGoOn_11 (by decide) (fun hc => absurd hc (by decide)) (fun _ => ?_)
            refine lv_iload_n hx hb dX5_mayGoOn_14 rfl (lv_at hl 2 rfl) ?_
            refine lv_if_lt (tgt := 71) hx hb dX5_mayGoOn_15 (by decide) (fun hc => absurd hc (by decide)) (fun _ => ?_)
            refine lv_aload_n hx hb dX5_mayGoOn_18 rfl (lv_at hl 3 rfl) ?_
            refine va_get (D := D) (ci := 6) (v := .ref (ma 28)) (C := RX5) (T := TX5) (N := 29) hx hb hts in_X5_mayGoOn_X5 hown hK hP 2 rfl rfl 28 (by decide) w_0 (fun _ h9 => h9) rfl dX5_mayGoOn_19 ?_
            refine lv_iload_n hx hb dX5_mayGoOn_22 rfl (lv_at hl 0 rfl) ?_
            refine va_iald hx hb hK hP 3 0 rfl rfl (by unfold vp_in; decide) dX5_mayGoOn_23 ?_
            refine lv_topi (fun z_241 ez_241 => ?_)
            have fz_241 : z_241 = 0 := ez_241.trans (by rw [show (2 : Int32).toNatClampNeg = 2 by decide, haf 2 (by decide), hb2] <;> rfl)
            subst fz_241
            refine lv_if_lt (tgt := 65) hx hb dX5_mayGoOn_24 (by decide) (fun hc => absurd hc (by decide)) (fun _ => ?_)
            refine lv_aload_n hx hb dX5_mayGoOn_27 rfl (lv_at hl 3 rfl) ?_
            refine va_get (D := D) (ci := 6) (v := .ref (ma 2)) (C := RX5) (T := TX5) (N := 29) hx hb hts in_X5_mayGoOn_X5 hown hK hP 2 rfl rfl 2 (by decide) w_1 (fun _ h9 => h9) rfl dX5_mayGoOn_28 ?_
            refine lv_aload_n hx hb dX5_mayGoOn_31 rfl (lv_at hl 3 rfl) ?_
            refine va_get (D := D) (ci := 6) (v := .ref (ma 28)) (C := RX5) (T := TX5) (N := 29) hx hb hts in_X5_mayGoOn_X5 hown hK hP 2 rfl rfl 28 (by decide) w_0 (fun _ h9 => h9) rfl dX5_mayGoOn_32 ?_
            refine lv_iload_n hx hb dX5_mayGoOn_35 rfl (lv_at hl 0 rfl) ?_
            refine va_iald hx hb hK hP 3 0 rfl rfl (by unfold vp_in; decide) dX5_mayGoOn_36 ?_
            refine lv_topi (fun z_242 ez_242 => ?_)
            have fz_242 : z_242 = 0 := ez_242.trans (by rw [show (2 : Int32).toNatClampNeg = 2 by decide, haf 2 (by decide), hb2] <;> rfl)
            subst fz_242
            refine va_iald hx hb hK hP 4 0 rfl rfl (by unfold vp_in; decide) dX5_mayGoOn_37 ?_
            refine lv_topi (fun z_243 ez_243 => ?_)
            have fz_243 : z_243 = 0 := ez_243.trans (rfl)
            subst fz_243
            refine lv_aload_n hx hb dX5_mayGoOn_38 rfl (lv_at hl 3 rfl) ?_
            refine va_get (D := D) (ci := 6) (v := .ref (ma 2)) (C := RX5) (T := TX5) (N := 29) hx hb hts in_X5_mayGoOn_X5 hown hK hP 2 rfl rfl 2 (by decide) w_1 (fun _ h9 => h9) rfl dX5_mayGoOn_39 ?_
            refine lv_iload_n hx hb dX5_mayGoOn_42 rfl (lv_at hl 2 rfl) ?_
            refine va_iald hx hb hK hP 4 0 rfl rfl (by unfold vp_in; decide) dX5_mayGoOn_43 ?_
            refine lv_topi (fun z_244 ez_244 => ?_)
            have fz_244 : z_244 = 0 := ez_244.trans (rfl)
            subst fz_244
            refine lv_icmp_ne (tgt := 65) hx hb dX5_mayGoOn_44 (by decide) (fun hc => absurd (by decide) hc) (fun _ => ?_)
            refine lv_iload_n hx hb dX5_mayGoOn_47 rfl (lv_at hl 1 rfl) ?_
            refine lv_iload_n hx hb dX5_mayGoOn_48 rfl (lv_at hl 0 rfl) ?_
            refine lv_aload_n hx hb dX5_mayGoOn_49 rfl (lv_at hl 3 rfl) ?_
            refine va_get (D := D) (ci := 6) (v := .ref (ma 7)) (C := RX5) (T := TX5) (N := 29) hx hb hts in_X5_mayGoOn_X5 hown hK hP 2 rfl rfl 7 (by decide) w_2 (fun _ h9 => h9) rfl dX5_mayGoOn_50 ?_
            refine lv_iload_n hx hb dX5_mayGoOn_53 rfl (lv_at hl 2 rfl) ?_
            refine va_iald hx hb hK hP 0 0 rfl rfl (by unfold vp_in; decide) dX5_mayGoOn_54 ?_
            refine lv_topi (fun z_245 ez_245 => ?_)
            have fz_245 : z_245 = 0 := ez_245.trans (rfl)
            subst fz_245
            refine lv_icmp_ne (tgt := 62) hx hb dX5_mayGoOn_55 (by decide) (fun _ => ?_) (fun hc => absurd hc (by decide))
            refine lv_iconst (v := 2) hx hb dX5_mayGoOn_62 (by decide) ?_
            refine lv_iadd hx hb dX5_mayGoOn_63 ?_
            refine lv_topi (fun z_246 ez_246 => ?_)
            have fz_246 : z_246 = 4 := ez_246.trans (by decide)
            subst fz_246
            refine lv_istore_n (lv' := [(2, .int 4), (3, .int 2), (1, .int 0), (0, .ref mo)]) hx hb dX5_mayGoOn_64 rfl hl (by decide) rfl (fun ls hl => ?_)
            refine lv_iinc (v := 3) (lv' := [(3, .int 3), (2, .int 4), (1, .int 0), (0, .ref mo)]) hx hb dX5_mayGoOn_65 hl (k := 1) rfl (by decide) (by decide) rfl (fun ls hl => ?_)
            refine lv_goto (tgt := 9) hx hb dX5_mayGoOn_68 (by decide) ?_
            refine lv_iload_n hx hb dX5_mayGoOn_9 rfl (lv_at hl 0 rfl) ?_
            refine lv_iconst (v := 5) hx hb dX5_mayGoOn_10 (by decide) ?_
            refine lv_icmp_ge (tgt := 71) hx hb dX5_mayGoOn_11 (by decide) (fun hc => absurd hc (by decide)) (fun _ => ?_)
            refine lv_iload_n hx hb dX5_mayGoOn_14 rfl (lv_at hl 2 rfl) ?_
            refine lv_if_lt (tgt := 71) hx hb dX5_mayGoOn_15 (by decide) (fun hc => absurd hc (by decide)) (fun _ => ?_)
            refine lv_aload_n hx hb dX5_mayGoOn_18 rfl (lv_at hl 3 rfl) ?_
            refine va_get (D := D) (ci := 6) (v := .ref (ma 28)) (C := RX5) (T := TX5) (N := 29) hx hb hts in_X5_mayGoOn_X5 hown hK hP 2 rfl rfl 28 (by decide) w_0 (fun _ h9 => h9) rfl dX5_mayGoOn_19 ?_
            refine lv_iload_n hx hb dX5_mayGoOn_22 rfl (lv_at hl 0 rfl) ?_
            refine va_iald hx hb hK hP 3 0 rfl rfl (by unfold vp_in; decide) dX5_mayGoOn_23 ?_
            refine lv_topi (fun z_247 ez_247 => ?_)
            have fz_247 : z_247 = 0 := ez_247.trans (by rw [show (3 : Int32).toNatClampNeg = 3 by decide, haf 3 (by decide), hb3] <;> rfl)
            subst fz_247
            refine lv_if_lt (tgt := 65) hx hb dX5_mayGoOn_24 (by decide) (fun hc => absurd hc (by decide)) (fun _ => ?_)
            refine lv_aload_n hx hb dX5_mayGoOn_27 rfl (lv_at hl 3 rfl) ?_
            refine va_get (D := D) (ci := 6) (v := .ref (ma 2)) (C := RX5) (T := TX5) (N := 29) hx hb hts in_X5_mayGoOn_X5 hown hK hP 2 rfl rfl 2 (by decide) w_1 (fun _ h9 => h9) rfl dX5_mayGoOn_28 ?_
            refine lv_aload_n hx hb dX5_mayGoOn_31 rfl (lv_at hl 3 rfl) ?_
            refine va_get (D := D) (ci := 6) (v := .ref (ma 28)) (C := RX5) (T := TX5) (N := 29) hx hb hts in_X5_mayGoOn_X5 hown hK hP 2 rfl rfl 28 (by decide) w_0 (fun _ h9 => h9) rfl dX5_mayGoOn_32 ?_
            refine lv_iload_n hx hb dX5_mayGoOn_35 rfl (lv_at hl 0 rfl) ?_
            refine va_iald hx hb hK hP 3 0 rfl rfl (by unfold vp_in; decide) dX5_mayGoOn_36 ?_
            refine lv_topi (fun z_248 ez_248 => ?_)
            have fz_248 : z_248 = 0 := ez_248.trans (by rw [show (3 : Int32).toNatClampNeg = 3 by decide, haf 3 (by decide), hb3] <;> rfl)
            subst fz_248
            refine va_iald hx hb hK hP 4 0 rfl rfl (by unfold vp_in; decide) dX5_mayGoOn_37 ?_
            refine lv_topi (fun z_249 ez_249 => ?_)
            have fz_249 : z_249 = 0 := ez_249.trans (rfl)
            subst fz_249
            refine lv_aload_n hx hb dX5_mayGoOn_38 rfl (lv_at hl 3 rfl) ?_
            refine va_get (D := D) (ci := 6) (v := .ref (ma 2)) (C := RX5) (T := TX5) (N := 29) hx hb hts in_X5_mayGoOn_X5 hown hK hP 2 rfl rfl 2 (by decide) w_1 (fun _ h9 => h9) rfl dX5_mayGoOn_39 ?_
            refine lv_iload_n hx hb dX5_mayGoOn_42 rfl (lv_at hl 2 rfl) ?_
            refine va_iald hx hb hK hP 4 0 rfl rfl (by unfold vp_in; decide) dX5_mayGoOn_43 ?_
            refine lv_topi (fun z_250 ez_250 => ?_)
            have fz_250 : z_250 = 0 := ez_250.trans (rfl)
            subst fz_250
            refine lv_icmp_ne (tgt := 65) hx hb dX5_mayGoOn_44 (by decide) (fun hc => absurd (by decide) hc) (fun _ => ?_)
            refine lv_iload_n hx hb dX5_mayGoOn_47 rfl (lv_at hl 1 rfl) ?_
            refine lv_iload_n hx hb dX5_mayGoOn_48 rfl (lv_at hl 0 rfl) ?_
            refine lv_aload_n hx hb dX5_mayGoOn_49 rfl (lv_at hl 3 rfl) ?_
            refine va_get (D := D) (ci := 6) (v := .ref (ma 7)) (C := RX5) (T := TX5) (N := 29) hx hb hts in_X5_mayGoOn_X5 hown hK hP 2 rfl rfl 7 (by decide) w_2 (fun _ h9 => h9) rfl dX5_mayGoOn_50 ?_
            refine lv_iload_n hx hb dX5_mayGoOn_53 rfl (lv_at hl 2 rfl) ?_
            refine va_iald hx hb hK hP 0 0 rfl rfl (by unfold vp_in; decide) dX5_mayGoOn_54 ?_
            refine lv_topi (fun z_251 ez_251 => ?_)
            have fz_251 : z_251 = 0 := ez_251.trans (rfl)
            subst fz_251
            refine lv_icmp_ne (tgt := 62) hx hb dX5_mayGoOn_55 (by decide) (fun _ => ?_) (fun hc => absurd hc (by decide))
            refine lv_iconst (v := 2) hx hb dX5_mayGoOn_62 (by decide) ?_
            refine lv_iadd hx hb dX5_mayGoOn_63 ?_
            refine lv_topi (fun z_252 ez_252 => ?_)
            have fz_252 : z_252 = 6 := ez_252.trans (by decide)
            subst fz_252
            refine lv_istore_n (lv' := [(2, .int 6), (3, .int 3), (1, .int 0), (0, .ref mo)]) hx hb dX5_mayGoOn_64 rfl hl (by decide) rfl (fun ls hl => ?_)
            refine lv_iinc (v := 4) (lv' := [(3, .int 4), (2, .int 6), (1, .int 0), (0, .ref mo)]) hx hb dX5_mayGoOn_65 hl (k := 1) rfl (by decide) (by decide) rfl (fun ls hl => ?_)
            refine lv_goto (tgt := 9) hx hb dX5_mayGoOn_68 (by decide) ?_
            refine lv_iload_n hx hb dX5_mayGoOn_9 rfl (lv_at hl 0 rfl) ?_
            refine lv_iconst (v := 5) hx hb dX5_mayGoOn_10 (by decide) ?_
            refine lv_icmp_ge (tgt := 71) hx hb dX5_mayGoOn_11 (by decide) (fun hc => absurd hc (by decide)) (fun _ => ?_)
            refine lv_iload_n hx hb dX5_mayGoOn_14 rfl (lv_at hl 2 rfl) ?_
            refine lv_if_lt (tgt := 71) hx hb dX5_mayGoOn_15 (by decide) (fun hc => absurd hc (by decide)) (fun _ => ?_)
            refine lv_aload_n hx hb dX5_mayGoOn_18 rfl (lv_at hl 3 rfl) ?_
            refine va_get (D := D) (ci := 6) (v := .ref (ma 28)) (C := RX5) (T := TX5) (N := 29) hx hb hts in_X5_mayGoOn_X5 hown hK hP 2 rfl rfl 28 (by decide) w_0 (fun _ h9 => h9) rfl dX5_mayGoOn_19 ?_
            refine lv_iload_n hx hb dX5_mayGoOn_22 rfl (lv_at hl 0 rfl) ?_
            refine va_iald hx hb hK hP 3 0 rfl rfl (by unfold vp_in; decide) dX5_mayGoOn_23 ?_
            refine lv_topi (fun z_253 ez_253 => ?_)
            have fz_253 : z_253 = (-1) := ez_253.trans (by rw [show (4 : Int32).toNatClampNeg = 4 by decide, haf 4 (by decide), hb4] <;> rfl)
            subst fz_253
            refine lv_if_lt (tgt := 65) hx hb dX5_mayGoOn_24 (by decide) (fun _ => ?_) (fun hc => absurd (by decide) hc)
            refine lv_iinc (v := 5) (lv' := [(3, .int 5), (2, .int 6), (1, .int 0), (0, .ref mo)]) hx hb dX5_mayGoOn_65 hl (k := 0) rfl (by decide) (by decide) rfl (fun ls hl => ?_)
            refine lv_goto (tgt := 9) hx hb dX5_mayGoOn_68 (by decide) ?_
            refine lv_iload_n hx hb dX5_mayGoOn_9 rfl (lv_at hl 0 rfl) ?_
            refine lv_iconst (v := 5) hx hb dX5_mayGoOn_10 (by decide) ?_
            refine lv_icmp_ge (tgt := 71) hx hb dX5_mayGoOn_11 (by decide) (fun _ => ?_) (fun hc => absurd (by decide) hc)
            refine lv_iload_n hx hb dX5_mayGoOn_71 rfl (lv_at hl 2 rfl) ?_
            refine lv_if_lt (tgt := 89) hx hb dX5_mayGoOn_72 (by decide) (fun hc => absurd hc (by decide)) (fun _ => ?_)
            refine lv_iload_n hx hb dX5_mayGoOn_75 rfl (lv_at hl 1 rfl) ?_
            refine lv_aload_n hx hb dX5_mayGoOn_76 rfl (lv_at hl 3 rfl) ?_
            refine va_get (D := D) (ci := 6) (v := .ref (ma 6)) (C := RX5) (T := TX5) (N := 29) hx hb hts in_X5_mayGoOn_X5 hown hK hP 2 rfl rfl 6 (by decide) w_3 (fun _ h9 => h9) rfl dX5_mayGoOn_77 ?_
            refine lv_iload_n hx hb dX5_mayGoOn_80 rfl (lv_at hl 2 rfl) ?_
            refine va_iald hx hb hK hP 1 0 rfl rfl (by unfold vp_in; decide) dX5_mayGoOn_81 ?_
            refine lv_topi (fun z_254 ez_254 => ?_)
            have fz_254 : z_254 = 5 := ez_254.trans (hzf)
            subst fz_254
            refine lv_icmp_le (tgt := 89) hx hb dX5_mayGoOn_82 (by decide) (fun hc => absurd hc (by decide)) (fun _ => ?_)
            refine lv_iconst (v := 1) hx hb dX5_mayGoOn_85 (by decide) ?_
            refine lv_goto (tgt := 90) hx hb dX5_mayGoOn_86 (by decide) ?_
            have hP9 := hP.sub (ws' := [(mo, .inr (6, [.int th, .int 1, .ref (ma 2), .ref (ma 3), .ref (ma 4), .ref (ma 5), .ref (ma 6), .ref (ma 7), .ref (ma 8), .ref (ma 9), .ref (ma 10), .ref (ma 11), .ref (ma 12), .ref (ma 13), .ref (ma 14), .ref (ma 15), .ref (ma 16), .ref (ma 17), .ref (ma 18), .ref (ma 19), .ref (ma 20), .ref (ma 21), .int 0, .ref (ma 23), .ref (ma 24), .ref (ma 25), .ref (ma 26), .ref (ma 27), .ref (ma 28)])), ((ma 28), wI tC 5 af), ((ma 2), wI tC 600 (fun _ => 0)), ((ma 7), wI tC 600 (fun _ => 0)), ((ma 6), wI tC 600 zf)]) [2, 3, 4, 0, 1] rfl
            have hD9 := hD.sub (ws' := [(mo, .inr (6, [.int th, .int 1, .ref (ma 2), .ref (ma 3), .ref (ma 4), .ref (ma 5), .ref (ma 6), .ref (ma 7), .ref (ma 8), .ref (ma 9), .ref (ma 10), .ref (ma 11), .ref (ma 12), .ref (ma 13), .ref (ma 14), .ref (ma 15), .ref (ma 16), .ref (ma 17), .ref (ma 18), .ref (ma 19), .ref (ma 20), .ref (ma 21), .int 0, .ref (ma 23), .ref (ma 24), .ref (ma 25), .ref (ma 26), .ref (ma 27), .ref (ma 28)])), ((ma 28), wI tC 5 af), ((ma 2), wI tC 600 (fun _ => 0)), ((ma 7), wI tC 600 (fun _ => 0)), ((ma 6), wI tC 600 zf)]) [2, 3, 4, 0, 1] (by decide) rfl
            refine W.widen (k := 0) (n := 0) (by omega) (by omega) ?_
            exact W.zret (v := 1) hx hb hr (by decide) (fun t ht hW => ⟨⟨1, (), rfl, (by unfold mayg cntb; rw [hb0, hb1, hb2, hb3, hb4] <;> decide), (by rw [ht]; exact hP9), va_K.moved hW.alike hK, hD9⟩, hS.F ht⟩) hS.2.2 dX5_mayGoOn_90 hlocks
          · skip
            refine lv_aload_n hx hb dX5_mayGoOn_0 rfl (lv_at hl 0 rfl) ?_
            have hPc := hP.sub (ws' := [(mo, .inr (6, [.int th, .int 1, .ref (ma 2), .ref (ma 3), .ref (ma 4), .ref (ma 5), .ref (ma 6), .ref (ma 7), .ref (ma 8), .ref (ma 9), .ref (ma 10), .ref (ma 11), .ref (ma 12), .ref (ma 13), .ref (ma 14), .ref (ma 15), .ref (ma 16), .ref (ma 17), .ref (ma 18), .ref (ma 19), .ref (ma 20), .ref (ma 21), .int 0, .ref (ma 23), .ref (ma 24), .ref (ma 25), .ref (ma 26), .ref (ma 27), .ref (ma 28)])), ((ma 28), wI tC 5 af), ((ma 2), wI tC 600 (fun _ => 0))]) [0, 1, 2] rfl
            have hDc := hD.sub (ws' := [(mo, .inr (6, [.int th, .int 1, .ref (ma 2), .ref (ma 3), .ref (ma 4), .ref (ma 5), .ref (ma 6), .ref (ma 7), .ref (ma 8), .ref (ma 9), .ref (ma 10), .ref (ma 11), .ref (ma 12), .ref (ma 13), .ref (ma 14), .ref (ma 15), .ref (ma 16), .ref (ma 17), .ref (ma 18), .ref (ma 19), .ref (ma 20), .ref (ma 21), .int 0, .ref (ma 23), .ref (ma 24), .ref (ma 25), .ref (ma 26), .ref (ma 27), .ref (ma 28)])), ((ma 28), wI tC 5 af), ((ma 2), wI tC 600 (fun _ => 0))]) [0, 1, 2] (by decide) rfl
            have hFc := va_free (wc := [(mo, .inr (6, [.int th, .int 1, .ref (ma 2), .ref (ma 3), .ref (ma 4), .ref (ma 5), .ref (ma 6), .ref (ma 7), .ref (ma 8), .ref (ma 9), .ref (ma 10), .ref (ma 11), .ref (ma 12), .ref (ma 13), .ref (ma 14), .ref (ma 15), .ref (ma 16), .ref (ma 17), .ref (ma 18), .ref (ma 19), .ref (ma 20), .ref (ma 21), .int 0, .ref (ma 23), .ref (ma 24), .ref (ma 25), .ref (ma 26), .ref (ma 27), .ref (ma 28)])), ((ma 28), wI tC 5 af), ((ma 2), wI tC 600 (fun _ => 0))]) hD hS hA [0, 1, 2] rfl
            refine va_calli (va_runV (As := []) (rest := []) ⟨hx, hb, hml, hown, hts⟩ (c_X5_greatest l hlt D tC dz s.heap.size mo ma th af bt haf) (cwV 0 hts gX5_mayGoOn_X5_greatest rfl rfl rfl (by decide +kernel) ⟨Nat.le_of_ble_eq_true rfl, Nat.le_of_ble_eq_true rfl⟩) ⟨pB_blind, va_recv hK hPc (ci := 6) (q0 := 0) rfl rfl, pB_at hPc hDc hK hN hE hS hFc⟩ rfl rfl hl.1 rfl (lv_room (Nat.le_of_ble_eq_true rfl)) dX5_mayGoOn_1 ⟨Nat.le_of_ble_eq_true rfl, Nat.le_of_ble_eq_true rfl⟩) hS (fun q _ h => hFc q h) hFc (fun r_255 u t H1 locs ht hvm hw hB hz1 hk1 hS => ?_)
            obtain ⟨hP1, _, hD1⟩ := hB
            have hw_256 := hw
            rw [ht] at hP1
            obtain ⟨hP, hD⟩ := va_join (wr := [((ma 7), wI tC 600 (fun _ => 0)), ((ma 6), wI tC 600 zf)]) (w1 := [(mo, .inr (6, [.int th, .int 1, .ref (ma 2), .ref (ma 3), .ref (ma 4), .ref (ma 5), .ref (ma 6), .ref (ma 7), .ref (ma 8), .ref (ma 9), .ref (ma 10), .ref (ma 11), .ref (ma 12), .ref (ma 13), .ref (ma 14), .ref (ma 15), .ref (ma 16), .ref (ma 17), .ref (ma 18), .ref (ma 19), .ref (ma 20), .ref (ma 21), .int 0, .ref (ma 23), .ref (ma 24), .ref (ma 25), .ref (ma 26), .ref (ma 27), .ref (ma 28)])), ((ma 28), wI tC 5 af), ((ma 2), wI tC 600 (fun _ => 0))]) hP hD [0, 1, 2] [3, 4] rfl rfl (by decide) (by decide) hk1 hFc hP1 hD1
            generalize H1 = H at hP hS ⊢
            have hP : va_P D vwCl [((ma 7), wI tC 600 (fun _ => 0)), ((ma 6), wI tC 600 zf), (mo, .inr (6, [.int th, .int 1, .ref (ma 2), .ref (ma 3), .ref (ma 4), .ref (ma 5), .ref (ma 6), .ref (ma 7), .ref (ma 8), .ref (ma 9), .ref (ma 10), .ref (ma 11), .ref (ma 12), .ref (ma 13), .ref (ma 14), .ref (ma 15), .ref (ma 16), .ref (ma 17), .ref (ma 18), .ref (ma 19), .ref (ma 20), .ref (ma 21), .int 0, .ref (ma 23), .ref (ma 24), .ref (ma 25), .ref (ma 26), .ref (ma 27), .ref (ma 28)])), ((ma 28), wI tC 5 af), ((ma 2), wI tC 600 (fun _ => 0))] H := hP
            have hD : va_D A [((ma 7), wI tC 600 (fun _ => 0)), ((ma 6), wI tC 600 zf), (mo, .inr (6, [.int th, .int 1, .ref (ma 2), .ref (ma 3), .ref (ma 4), .ref (ma 5), .ref (ma 6), .ref (ma 7), .ref (ma 8), .ref (ma 9), .ref (ma 10), .ref (ma 11), .ref (ma 12), .ref (ma 13), .ref (ma 14), .ref (ma 15), .ref (ma 16), .ref (ma 17), .ref (ma 18), .ref (ma 19), .ref (ma 20), .ref (ma 21), .int 0, .ref (ma 23), .ref (ma 24), .ref (ma 25), .ref (ma 26), .ref (ma 27), .ref (ma 28)])), ((ma 28), wI tC 5 af), ((ma 2), wI tC 600 (fun _ => 0))] := hD
            have q1 : r_255 = 0 := hw_256.trans (by rw [hb0, hb1, hb2, hb3, hb4] <;> rfl)
            subst q1
            refine lv_istore_n (lv' := [(1, .int 0), (0, .ref mo)]) hx hb dX5_mayGoOn_4 rfl hl (by decide) rfl (fun ls hl => ?_)
            refine lv_iconst (v := 0) hx hb dX5_mayGoOn_5 (by decide) ?_
            refine lv_istore_n (lv' := [(2, .int 0), (1, .int 0), (0, .ref mo)]) hx hb dX5_mayGoOn_6 rfl hl (by decide) rfl (fun ls hl => ?_)
            refine lv_iconst (v := 0) hx hb dX5_mayGoOn_7 (by decide) ?_
            refine lv_istore_n (lv' := [(3, .int 0), (2, .int 0), (1, .int 0), (0, .ref mo)]) hx hb dX5_mayGoOn_8 rfl hl (by decide) rfl (fun ls hl => ?_)
            refine lv_iload_n hx hb dX5_mayGoOn_9 rfl (lv_at hl 0 rfl) ?_
            refine lv_iconst (v := 5) hx hb dX5_mayGoOn_10 (by decide) ?_
            refine lv_icmp_ge (tgt := 71) hx hb dX5_mayGoOn_11 (by decide) (fun hc => absurd hc (by decide)) (fun _ => ?_)
            refine lv_iload_n hx hb dX5_mayGoOn_14 rfl (lv_at hl 2 rfl) ?_
            refine lv_if_lt (tgt := 71) hx hb dX5_mayGoOn_15 (by decide) (fun hc => absurd hc (by decide)) (fun _ => ?_)
            refine lv_aload_n hx hb dX5_mayGoOn_18 rfl (lv_at hl 3 rfl) ?_
            refine va_get (D := D) (ci := 6) (v := .ref (ma 28)) (C := RX5) (T := TX5) (N := 29) hx hb hts in_X5_mayGoOn_X5 hown hK hP 2 rfl rfl 28 (by decide) w_0 (fun _ h9 => h9) rfl dX5_mayGoOn_19 ?_
            refine lv_iload_n hx hb dX5_mayGoOn_22 rfl (lv_at hl 0 rfl) ?_
            refine va_iald hx hb hK hP 3 0 rfl rfl (by unfold vp_in; decide) dX5_mayGoOn_23 ?_
            refine lv_topi (fun z_257 ez_257 => ?_)
            have fz_257 : z_257 = (-1) := ez_257.trans (by rw [show (0 : Int32).toNatClampNeg = 0 by decide, haf 0 (by decide), hb0] <;> rfl)
            subst fz_257
            refine lv_if_lt (tgt := 65) hx hb dX5_mayGoOn_24 (by decide) (fun _ => ?_) (fun hc => absurd (by decide) hc)
            refine lv_iinc (v := 1) (lv' := [(3, .int 1), (2, .int 0), (1, .int 0), (0, .ref mo)]) hx hb dX5_mayGoOn_65 hl (k := 0) rfl (by decide) (by decide) rfl (fun ls hl => ?_)
            refine lv_goto (tgt := 9) hx hb dX5_mayGoOn_68 (by decide) ?_
            refine lv_iload_n hx hb dX5_mayGoOn_9 rfl (lv_at hl 0 rfl) ?_
            refine lv_iconst (v := 5) hx hb dX5_mayGoOn_10 (by decide) ?_
            refine lv_icmp_ge (tgt := 71) hx hb dX5_mayGoOn_11 (by decide) (fun hc => absurd hc (by decide)) (fun _ => ?_)
            refine lv_iload_n hx hb dX5_mayGoOn_14 rfl (lv_at hl 2 rfl) ?_
            refine lv_if_lt (tgt := 71) hx hb dX5_mayGoOn_15 (by decide) (fun hc => absurd hc (by decide)) (fun _ => ?_)
            refine lv_aload_n hx hb dX5_mayGoOn_18 rfl (lv_at hl 3 rfl) ?_
            refine va_get (D := D) (ci := 6) (v := .ref (ma 28)) (C := RX5) (T := TX5) (N := 29) hx hb hts in_X5_mayGoOn_X5 hown hK hP 2 rfl rfl 28 (by decide) w_0 (fun _ h9 => h9) rfl dX5_mayGoOn_19 ?_
            refine lv_iload_n hx hb dX5_mayGoOn_22 rfl (lv_at hl 0 rfl) ?_
            refine va_iald hx hb hK hP 3 0 rfl rfl (by unfold vp_in; decide) dX5_mayGoOn_23 ?_
            refine lv_topi (fun z_258 ez_258 => ?_)
            have fz_258 : z_258 = 0 := ez_258.trans (by rw [show (1 : Int32).toNatClampNeg = 1 by decide, haf 1 (by decide), hb1] <;> rfl)
            subst fz_258
            refine lv_if_lt (tgt := 65) hx hb dX5_mayGoOn_24 (by decide) (fun hc => absurd hc (by decide)) (fun _ => ?_)
            refine lv_aload_n hx hb dX5_mayGoOn_27 rfl (lv_at hl 3 rfl) ?_
            refine va_get (D := D) (ci := 6) (v := .ref (ma 2)) (C := RX5) (T := TX5) (N := 29) hx hb hts in_X5_mayGoOn_X5 hown hK hP 2 rfl rfl 2 (by decide) w_1 (fun _ h9 => h9) rfl dX5_mayGoOn_28 ?_
            refine lv_aload_n hx hb dX5_mayGoOn_31 rfl (lv_at hl 3 rfl) ?_
            refine va_get (D := D) (ci := 6) (v := .ref (ma 28)) (C := RX5) (T := TX5) (N := 29) hx hb hts in_X5_mayGoOn_X5 hown hK hP 2 rfl rfl 28 (by decide) w_0 (fun _ h9 => h9) rfl dX5_mayGoOn_32 ?_
            refine lv_iload_n hx hb dX5_mayGoOn_35 rfl (lv_at hl 0 rfl) ?_
            refine va_iald hx hb hK hP 3 0 rfl rfl (by unfold vp_in; decide) dX5_mayGoOn_36 ?_
            refine lv_topi (fun z_259 ez_259 => ?_)
            have fz_259 : z_259 = 0 := ez_259.trans (by rw [show (1 : Int32).toNatClampNeg = 1 by decide, haf 1 (by decide), hb1] <;> rfl)
            subst fz_259
            refine va_iald hx hb hK hP 4 0 rfl rfl (by unfold vp_in; decide) dX5_mayGoOn_37 ?_
            refine lv_topi (fun z_260 ez_260 => ?_)
            have fz_260 : z_260 = 0 := ez_260.trans (rfl)
            subst fz_260
            refine lv_aload_n hx hb dX5_mayGoOn_38 rfl (lv_at hl 3 rfl) ?_
            refine va_get (D := D) (ci := 6) (v := .ref (ma 2)) (C := RX5) (T := TX5) (N := 29) hx hb hts in_X5_mayGoOn_X5 hown hK hP 2 rfl rfl 2 (by decide) w_1 (fun _ h9 => h9) rfl dX5_mayGoOn_39 ?_
            refine lv_iload_n hx hb dX5_mayGoOn_42 rfl (lv_at hl 2 rfl) ?_
            refine va_iald hx hb hK hP 4 0 rfl rfl (by unfold vp_in; decide) dX5_mayGoOn_43 ?_
            refine lv_topi (fun z_261 ez_261 => ?_)
            have fz_261 : z_261 = 0 := ez_261.trans (rfl)
            subst fz_261
            refine lv_icmp_ne (tgt := 65) hx hb dX5_mayGoOn_44 (by decide) (fun hc => absurd (by decide) hc) (fun _ => ?_)
            refine lv_iload_n hx hb dX5_mayGoOn_47 rfl (lv_at hl 1 rfl) ?_
            refine lv_iload_n hx hb dX5_mayGoOn_48 rfl (lv_at hl 0 rfl) ?_
            refine lv_aload_n hx hb dX5_mayGoOn_49 rfl (lv_at hl 3 rfl) ?_
            refine va_get (D := D) (ci := 6) (v := .ref (ma 7)) (C := RX5) (T := TX5) (N := 29) hx hb hts in_X5_mayGoOn_X5 hown hK hP 2 rfl rfl 7 (by decide) w_2 (fun _ h9 => h9) rfl dX5_mayGoOn_50 ?_
            refine lv_iload_n hx hb dX5_mayGoOn_53 rfl (lv_at hl 2 rfl) ?_
            refine va_iald hx hb hK hP 0 0 rfl rfl (by unfold vp_in; decide) dX5_mayGoOn_54 ?_
            refine lv_topi (fun z_262 ez_262 => ?_)
            have fz_262 : z_262 = 0 := ez_262.trans (rfl)
            subst fz_262
            refine lv_icmp_ne (tgt := 62) hx hb dX5_mayGoOn_55 (by decide) (fun _ => ?_) (fun hc => absurd hc (by decide))
            refine lv_iconst (v := 2) hx hb dX5_mayGoOn_62 (by decide) ?_
            refine lv_iadd hx hb dX5_mayGoOn_63 ?_
            refine lv_topi (fun z_263 ez_263 => ?_)
            have fz_263 : z_263 = 2 := ez_263.trans (by decide)
            subst fz_263
            refine lv_istore_n (lv' := [(2, .int 2), (3, .int 1), (1, .int 0), (0, .ref mo)]) hx hb dX5_mayGoOn_64 rfl hl (by decide) rfl (fun ls hl => ?_)
            refine lv_iinc (v := 2) (lv' := [(3, .int 2), (2, .int 2), (1, .int 0), (0, .ref mo)]) hx hb dX5_mayGoOn_65 hl (k := 1) rfl (by decide) (by decide) rfl (fun ls hl => ?_)
            refine lv_goto (tgt := 9) hx hb dX5_mayGoOn_68 (by decide) ?_
            refine lv_iload_n hx hb dX5_mayGoOn_9 rfl (lv_at hl 0 rfl) ?_
            refine lv_iconst (v := 5) hx hb dX5_mayGoOn_10 (by decide) ?_
            refine lv_icmp_ge (tgt := 71) hx hb dX5_mayGoOn_11 (by decide) (fun hc => absurd hc (by decide)) (fun _ => ?_)
            refine lv_iload_n hx hb dX5_mayGoOn_14 rfl (lv_at hl 2 rfl) ?_
            refine lv_if_lt (tgt := 71) hx hb dX5_mayGoOn_15 (by decide) (fun hc => absurd hc (by decide)) (fun _ => ?_)
            refine lv_aload_n hx hb dX5_mayGoOn_18 rfl (lv_at hl 3 rfl) ?_
            refine va_get (D := D) (ci := 6) (v := .ref (ma 28)) (C := RX5) (T := TX5) (N := 29) hx hb hts in_X5_mayGoOn_X5 hown hK hP 2 rfl rfl 28 (by decide) w_0 (fun _ h9 => h9) rfl dX5_mayGoOn_19 ?_
            refine lv_iload_n hx hb dX5_mayGoOn_22 rfl (lv_at hl 0 rfl) ?_
            refine va_iald hx hb hK hP 3 0 rfl rfl (by unfold vp_in; decide) dX5_mayGoOn_23 ?_
            refine lv_topi (fun z_264 ez_264 => ?_)
            have fz_264 : z_264 = 0 := ez_264.trans (by rw [show (2 : Int32).toNatClampNeg = 2 by decide, haf 2 (by decide), hb2] <;> rfl)
            subst fz_264
            refine lv_if_lt (tgt := 65) hx hb dX5_mayGoOn_24 (by decide) (fun hc => absurd hc (by decide)) (fun _ => ?_)
            refine lv_aload_n hx hb dX5_mayGoOn_27 rfl (lv_at hl 3 rfl) ?_
            refine va_get (D := D) (ci := 6) (v := .ref (ma 2)) (C := RX5) (T := TX5) (N := 29) hx hb hts in_X5_mayGoOn_X5 hown hK hP 2 rfl rfl 2 (by decide) w_1 (fun _ h9 => h9) rfl dX5_mayGoOn_28 ?_
            refine lv_aload_n hx hb dX5_mayGoOn_31 rfl (lv_at hl 3 rfl) ?_
            refine va_get (D := D) (ci := 6) (v := .ref (ma 28)) (C := RX5) (T := TX5) (N := 29) hx hb hts in_X5_mayGoOn_X5 hown hK hP 2 rfl rfl 28 (by decide) w_0 (fun _ h9 => h9) rfl dX5_mayGoOn_32 ?_
            refine lv_iload_n hx hb dX5_mayGoOn_35 rfl (lv_at hl 0 rfl) ?_
            refine va_iald hx hb hK hP 3 0 rfl rfl (by unfold vp_in; decide) dX5_mayGoOn_36 ?_
            refine lv_topi (fun z_265 ez_265 => ?_)
            have fz_265 : z_265 = 0 := ez_265.trans (by rw [show (2 : Int32).toNatClampNeg = 2 by decide, haf 2 (by decide), hb2] <;> rfl)
            subst fz_265
            refine va_iald hx hb hK hP 4 0 rfl rfl (by unfold vp_in; decide) dX5_mayGoOn_37 ?_
            refine lv_topi (fun z_266 ez_266 => ?_)
            have fz_266 : z_266 = 0 := ez_266.trans (rfl)
            subst fz_266
            refine lv_aload_n hx hb dX5_mayGoOn_38 rfl (lv_at hl 3 rfl) ?_
            refine va_get (D := D) (ci := 6) (v := .ref (ma 2)) (C := RX5) (T := TX5) (N := 29) hx hb hts in_X5_mayGoOn_X5 hown hK hP 2 rfl rfl 2 (by decide) w_1 (fun _ h9 => h9) rfl dX5_mayGoOn_39 ?_
            refine lv_iload_n hx hb dX5_mayGoOn_42 rfl (lv_at hl 2 rfl) ?_
            refine va_iald hx hb hK hP 4 0 rfl rfl (by unfold vp_in; decide) dX5_mayGoOn_43 ?_
            refine lv_topi (fun z_267 ez_267 => ?_)
            have fz_267 : z_267 = 0 := ez_267.trans (rfl)
            subst fz_267
            refine lv_icmp_ne (tgt := 65) hx hb dX5_mayGoOn_44 (by decide) (fun hc => absurd (by decide) hc) (fun _ => ?_)
            refine lv_iload_n hx hb dX5_mayGoOn_47 rfl (lv_at hl 1 rfl) ?_
            refine lv_iload_n hx hb dX5_mayGoOn_48 rfl (lv_at hl 0 rfl) ?_
            refine lv_aload_n hx hb dX5_mayGoOn_49 rfl (lv_at hl 3 rfl) ?_
            refine va_get (D := D) (ci := 6) (v := .ref (ma 7)) (C := RX5) (T := TX5) (N := 29) hx hb hts in_X5_mayGoOn_X5 hown hK hP 2 rfl rfl 7 (by decide) w_2 (fun _ h9 => h9) rfl dX5_mayGoOn_50 ?_
            refine lv_iload_n hx hb dX5_mayGoOn_53 rfl (lv_at hl 2 rfl) ?_
            refine va_iald hx hb hK hP 0 0 rfl rfl (by unfold vp_in; decide) dX5_mayGoOn_54 ?_
            refine lv_topi (fun z_268 ez_268 => ?_)
            have fz_268 : z_268 = 0 := ez_268.trans (rfl)
            subst fz_268
            refine lv_icmp_ne (tgt := 62) hx hb dX5_mayGoOn_55 (by decide) (fun _ => ?_) (fun hc => absurd hc (by decide))
            refine lv_iconst (v := 2) hx hb dX5_mayGoOn_62 (by decide) ?_
            refine lv_iadd hx hb dX5_mayGoOn_63 ?_
            refine lv_topi (fun z_269 ez_269 => ?_)
            have fz_269 : z_269 = 4 := ez_269.trans (by decide)
            subst fz_269
            refine lv_istore_n (lv' := [(2, .int 4), (3, .int 2), (1, .int 0), (0, .ref mo)]) hx hb dX5_mayGoOn_64 rfl hl (by decide) rfl (fun ls hl => ?_)
            refine lv_iinc (v := 3) (lv' := [(3, .int 3), (2, .int 4), (1, .int 0), (0, .ref mo)]) hx hb dX5_mayGoOn_65 hl (k := 1) rfl (by decide) (by decide) rfl (fun ls hl => ?_)
            refine lv_goto (tgt := 9) hx hb dX5_mayGoOn_68 (by decide) ?_
            refine lv_iload_n hx hb dX5_mayGoOn_9 rfl (lv_at hl 0 rfl) ?_
            refine lv_iconst (v := 5) hx hb dX5_mayGoOn_10 (by decide) ?_
            refine lv_icmp_ge (tgt := 71) hx hb dX5_mayGoOn_11 (by decide) (fun hc => absurd hc (by decide)) (fun _ => ?_)
            refine lv_iload_n hx hb dX5_mayGoOn_14 rfl (lv_at hl 2 rfl) ?_
            refine lv_if_lt (tgt := 71) hx hb dX5_mayGoOn_15 (by decide) (fun hc => absurd hc (by decide)) (fun _ => ?_)
            refine lv_aload_n hx hb dX5_mayGoOn_18 rfl (lv_at hl 3 rfl) ?_
            refine va_get (D := D) (ci := 6) (v := .ref (ma 28)) (C := RX5) (T := TX5) (N := 29) hx hb hts in_X5_mayGoOn_X5 hown hK hP 2 rfl rfl 28 (by decide) w_0 (fun _ h9 => h9) rfl dX5_mayGoOn_19 ?_
            refine lv_iload_n hx hb dX5_mayGoOn_22 rfl (lv_at hl 0 rfl) ?_
            refine va_iald hx hb hK hP 3 0 rfl rfl (by unfold vp_in; decide) dX5_mayGoOn_23 ?_
            refine lv_topi (fun z_270 ez_270 => ?_)
            have fz_270 : z_270 = 0 := ez_270.trans (by rw [show (3 : Int32).toNatClampNeg = 3 by decide, haf 3 (by decide), hb3] <;> rfl)
            subst fz_270
            refine lv_if_lt (tgt := 65) hx hb dX5_mayGoOn_24 (by decide) (fun hc => absurd hc (by decide)) (fun _ => ?_)
            refine lv_aload_n hx hb dX5_mayGoOn_27 rfl (lv_at hl 3 rfl) ?_
            refine va_get (D := D) (ci := 6) (v := .ref (ma 2)) (C := RX5) (T := TX5) (N := 29) hx hb hts in_X5_mayGoOn_X5 hown hK hP 2 rfl rfl 2 (by decide) w_1 (fun _ h9 => h9) rfl dX5_mayGoOn_28 ?_
            refine lv_aload_n hx hb dX5_mayGoOn_31 rfl (lv_at hl 3 rfl) ?_
            refine va_get (D := D) (ci := 6) (v := .ref (ma 28)) (C := RX5) (T := TX5) (N := 29) hx hb hts in_X5_mayGoOn_X5 hown hK hP 2 rfl rfl 28 (by decide) w_0 (fun _ h9 => h9) rfl dX5_mayGoOn_32 ?_
            refine lv_iload_n hx hb dX5_mayGoOn_35 rfl (lv_at hl 0 rfl) ?_
            refine va_iald hx hb hK hP 3 0 rfl rfl (by unfold vp_in; decide) dX5_mayGoOn_36 ?_
            refine lv_topi (fun z_271 ez_271 => ?_)
            have fz_271 : z_271 = 0 := ez_271.trans (by rw [show (3 : Int32).toNatClampNeg = 3 by decide, haf 3 (by decide), hb3] <;> rfl)
            subst fz_271
            refine va_iald hx hb hK hP 4 0 rfl rfl (by unfold vp_in; decide) dX5_mayGoOn_37 ?_
            refine lv_topi (fun z_272 ez_272 => ?_)
            have fz_272 : z_272 = 0 := ez_272.trans (rfl)
            subst fz_272
            refine lv_aload_n hx hb dX5_mayGoOn_38 rfl (lv_at hl 3 rfl) ?_
            refine va_get (D := D) (ci := 6) (v := .ref (ma 2)) (C := RX5) (T := TX5) (N := 29) hx hb hts in_X5_mayGoOn_X5 hown hK hP 2 rfl rfl 2 (by decide) w_1 (fun _ h9 => h9) rfl dX5_mayGoOn_39 ?_
            refine lv_iload_n hx hb dX5_mayGoOn_42 rfl (lv_at hl 2 rfl) ?_
            refine va_iald hx hb hK hP 4 0 rfl rfl (by unfold vp_in; decide) dX5_mayGoOn_43 ?_
            refine lv_topi (fun z_273 ez_273 => ?_)
            have fz_273 : z_273 = 0 := ez_273.trans (rfl)
            subst fz_273
            refine lv_icmp_ne (tgt := 65) hx hb dX5_mayGoOn_44 (by decide) (fun hc => absurd (by decide) hc) (fun _ => ?_)
            refine lv_iload_n hx hb dX5_mayGoOn_47 rfl (lv_at hl 1 rfl) ?_
            refine lv_iload_n hx hb dX5_mayGoOn_48 rfl (lv_at hl 0 rfl) ?_
            refine lv_aload_n hx hb dX5_mayGoOn_49 rfl (lv_at hl 3 rfl) ?_
            refine va_get (D := D) (ci := 6) (v := .ref (ma 7)) (C := RX5) (T := TX5) (N := 29) hx hb hts in_X5_mayGoOn_X5 hown hK hP 2 rfl rfl 7 (by decide) w_2 (fun _ h9 => h9) rfl dX5_mayGoOn_50 ?_
            refine lv_iload_n hx hb dX5_mayGoOn_53 rfl (lv_at hl 2 rfl) ?_
            refine va_iald hx hb hK hP 0 0 rfl rfl (by unfold vp_in; decide) dX5_mayGoOn_54 ?_
            refine lv_topi (fun z_274 ez_274 => ?_)
            have fz_274 : z_274 = 0 := ez_274.trans (rfl)
            subst fz_274
            refine lv_icmp_ne (tgt := 62) hx hb dX5_mayGoOn_55 (by decide) (fun _ => ?_) (fun hc => absurd hc (by decide))
            refine lv_iconst (v := 2) hx hb dX5_mayGoOn_62 (by decide) ?_
            refine lv_iadd hx hb dX5_mayGoOn_63 ?_
            refine lv_topi (fun z_275 ez_275 => ?_)
            have fz_275 : z_275 = 6 := ez_275.trans (by decide)
            subst fz_275
            refine lv_istore_n (lv' := [(2, .int 6), (3, .int 3), (1, .int 0), (0, .ref mo)]) hx hb dX5_mayGoOn_64 rfl hl (by decide) rfl (fun ls hl => ?_)
            refine lv_iinc (v := 4) (lv' := [(3, .int 4), (2, .int 6), (1, .int 0), (0, .ref mo)]) hx hb dX5_mayGoOn_65 hl (k := 1) rfl (by decide) (by decide) rfl (fun ls hl => ?_)
            refine lv_goto (tgt := 9) hx hb dX5_mayGoOn_68 (by decide) ?_
            refine lv_iload_n hx hb dX5_mayGoOn_9 rfl (lv_at hl 0 rfl) ?_
            refine lv_iconst (v := 5) hx hb dX5_mayGoOn_10 (by decide) ?_
            refine lv_icmp_ge (tgt := 71) hx hb dX5_mayGoOn_11 (by decide) (fun hc => absurd hc (by decide)) (fun _ => ?_)
            refine lv_iload_n hx hb dX5_mayGoOn_14 rfl (lv_at hl 2 rfl) ?_
            refine lv_if_lt (tgt := 71) hx hb dX5_mayGoOn_15 (by decide) (fun hc => absurd hc (by decide)) (fun _ => ?_)
            refine lv_aload_n hx hb dX5_mayGoOn_18 rfl (lv_at hl 3 rfl) ?_
            refine va_get (D := D) (ci := 6) (v := .ref (ma 28)) (C := RX5) (T := TX5) (N := 29) hx hb hts in_X5_mayGoOn_X5 hown hK hP 2 rfl rfl 28 (by decide) w_0 (fun _ h9 => h9) rfl dX5_mayGoOn_19 ?_
            refine lv_iload_n hx hb dX5_mayGoOn_22 rfl (lv_at hl 0 rfl) ?_
            refine va_iald hx hb hK hP 3 0 rfl rfl (by unfold vp_in; decide) dX5_mayGoOn_23 ?_
            refine lv_topi (fun z_276 ez_276 => ?_)
            have fz_276 : z_276 = 0 := ez_276.trans (by rw [show (4 : Int32).toNatClampNeg = 4 by decide, haf 4 (by decide), hb4] <;> rfl)
            subst fz_276
            refine lv_if_lt (tgt := 65) hx hb dX5_mayGoOn_24 (by decide) (fun hc => absurd hc (by decide)) (fun _ => ?_)
            refine lv_aload_n hx hb dX5_mayGoOn_27 rfl (lv_at hl 3 rfl) ?_
            refine va_get (D := D) (ci := 6) (v := .ref (ma 2)) (C := RX5) (T := TX5) (N := 29) hx hb hts in_X5_mayGoOn_X5 hown hK hP 2 rfl rfl 2 (by decide) w_1 (fun _ h9 => h9) rfl dX5_mayGoOn_28 ?_
            refine lv_aload_n hx hb dX5_mayGoOn_31 rfl (lv_at hl 3 rfl) ?_
            refine va_get (D := D) (ci := 6) (v := .ref (ma 28)) (C := RX5) (T := TX5) (N := 29) hx hb hts in_X5_mayGoOn_X5 hown hK hP 2 rfl rfl 28 (by decide) w_0 (fun _ h9 => h9) rfl dX5_mayGoOn_32 ?_
            refine lv_iload_n hx hb dX5_mayGoOn_35 rfl (lv_at hl 0 rfl) ?_
            refine va_iald hx hb hK hP 3 0 rfl rfl (by unfold vp_in; decide) dX5_mayGoOn_36 ?_
            refine lv_topi (fun z_277 ez_277 => ?_)
            have fz_277 : z_277 = 0 := ez_277.trans (by rw [show (4 : Int32).toNatClampNeg = 4 by decide, haf 4 (by decide), hb4] <;> rfl)
            subst fz_277
            refine va_iald hx hb hK hP 4 0 rfl rfl (by unfold vp_in; decide) dX5_mayGoOn_37 ?_
            refine lv_topi (fun z_278 ez_278 => ?_)
            have fz_278 : z_278 = 0 := ez_278.trans (rfl)
            subst fz_278
            refine lv_aload_n hx hb dX5_mayGoOn_38 rfl (lv_at hl 3 rfl) ?_
            refine va_get (D := D) (ci := 6) (v := .ref (ma 2)) (C := RX5) (T := TX5) (N := 29) hx hb hts in_X5_mayGoOn_X5 hown hK hP 2 rfl rfl 2 (by decide) w_1 (fun _ h9 => h9) rfl dX5_mayGoOn_39 ?_
            refine lv_iload_n hx hb dX5_mayGoOn_42 rfl (lv_at hl 2 rfl) ?_
            refine va_iald hx hb hK hP 4 0 rfl rfl (by unfold vp_in; decide) dX5_mayGoOn_43 ?_
            refine lv_topi (fun z_279 ez_279 => ?_)
            have fz_279 : z_279 = 0 := ez_279.trans (rfl)
            subst fz_279
            refine lv_icmp_ne (tgt := 65) hx hb dX5_mayGoOn_44 (by decide) (fun hc => absurd (by decide) hc) (fun _ => ?_)
            refine lv_iload_n hx hb dX5_mayGoOn_47 rfl (lv_at hl 1 rfl) ?_
            refine lv_iload_n hx hb dX5_mayGoOn_48 rfl (lv_at hl 0 rfl) ?_
            refine lv_aload_n hx hb dX5_mayGoOn_49 rfl (lv_at hl 3 rfl) ?_
            refine va_get (D := D) (ci := 6) (v := .ref (ma 7)) (C := RX5) (T := TX5) (N := 29) hx hb hts in_X5_mayGoOn_X5 hown hK hP 2 rfl rfl 7 (by decide) w_2 (fun _ h9 => h9) rfl dX5_mayGoOn_50 ?_
            refine lv_iload_n hx hb dX5_mayGoOn_53 rfl (lv_at hl 2 rfl) ?_
            refine va_iald hx hb hK hP 0 0 rfl rfl (by unfold vp_in; decide) dX5_mayGoOn_54 ?_
            refine lv_topi (fun z_280 ez_280 => ?_)
            have fz_280 : z_280 = 0 := ez_280.trans (rfl)
            subst fz_280
            refine lv_icmp_ne (tgt := 62) hx hb dX5_mayGoOn_55 (by decide) (fun _ => ?_) (fun hc => absurd hc (by decide))
            refine lv_iconst (v := 2) hx hb dX5_mayGoOn_62 (by decide) ?_
            refine lv_iadd hx hb dX5_mayGoOn_63 ?_
            refine lv_topi (fun z_281 ez_281 => ?_)
            have fz_281 : z_281 = 8 := ez_281.trans (by decide)
            subst fz_281
            refine lv_istore_n (lv' := [(2, .int 8), (3, .int 4), (1, .int 0), (0, .ref mo)]) hx hb dX5_mayGoOn_64 rfl hl (by decide) rfl (fun ls hl => ?_)
            refine lv_iinc (v := 5) (lv' := [(3, .int 5), (2, .int 8), (1, .int 0), (0, .ref mo)]) hx hb dX5_mayGoOn_65 hl (k := 1) rfl (by decide) (by decide) rfl (fun ls hl => ?_)
            refine lv_goto (tgt := 9) hx hb dX5_mayGoOn_68 (by decide) ?_
            refine lv_iload_n hx hb dX5_mayGoOn_9 rfl (lv_at hl 0 rfl) ?_
            refine lv_iconst (v := 5) hx hb dX5_mayGoOn_10 (by decide) ?_
            refine lv_icmp_ge (tgt := 71) hx hb dX5_mayGoOn_11 (by decide) (fun _ => ?_) (fun hc => absurd (by decide) hc)
            refine lv_iload_n hx hb dX5_mayGoOn_71 rfl (lv_at hl 2 rfl) ?_
            refine lv_if_lt (tgt := 89) hx hb dX5_mayGoOn_72 (by decide) (fun hc => absurd hc (by decide)) (fun _ => ?_)
            refine lv_iload_n hx hb dX5_mayGoOn_75 rfl (lv_at hl 1 rfl) ?_
            refine lv_aload_n hx hb dX5_mayGoOn_76 rfl (lv_at hl 3 rfl) ?_
            refine va_get (D := D) (ci := 6) (v := .ref (ma 6)) (C := RX5) (T := TX5) (N := 29) hx hb hts in_X5_mayGoOn_X5 hown hK hP 2 rfl rfl 6 (by decide) w_3 (fun _ h9 => h9) rfl dX5_mayGoOn_77 ?_
            refine lv_iload_n hx hb dX5_mayGoOn_80 rfl (lv_at hl 2 rfl) ?_
            refine va_iald hx hb hK hP 1 0 rfl rfl (by unfold vp_in; decide) dX5_mayGoOn_81 ?_
            refine lv_topi (fun z_282 ez_282 => ?_)
            have fz_282 : z_282 = 5 := ez_282.trans (hzf)
            subst fz_282
            refine lv_icmp_le (tgt := 89) hx hb dX5_mayGoOn_82 (by decide) (fun hc => absurd hc (by decide)) (fun _ => ?_)
            refine lv_iconst (v := 1) hx hb dX5_mayGoOn_85 (by decide) ?_
            refine lv_goto (tgt := 90) hx hb dX5_mayGoOn_86 (by decide) ?_
            have hP9 := hP.sub (ws' := [(mo, .inr (6, [.int th, .int 1, .ref (ma 2), .ref (ma 3), .ref (ma 4), .ref (ma 5), .ref (ma 6), .ref (ma 7), .ref (ma 8), .ref (ma 9), .ref (ma 10), .ref (ma 11), .ref (ma 12), .ref (ma 13), .ref (ma 14), .ref (ma 15), .ref (ma 16), .ref (ma 17), .ref (ma 18), .ref (ma 19), .ref (ma 20), .ref (ma 21), .int 0, .ref (ma 23), .ref (ma 24), .ref (ma 25), .ref (ma 26), .ref (ma 27), .ref (ma 28)])), ((ma 28), wI tC 5 af), ((ma 2), wI tC 600 (fun _ => 0)), ((ma 7), wI tC 600 (fun _ => 0)), ((ma 6), wI tC 600 zf)]) [2, 3, 4, 0, 1] rfl
            have hD9 := hD.sub (ws' := [(mo, .inr (6, [.int th, .int 1, .ref (ma 2), .ref (ma 3), .ref (ma 4), .ref (ma 5), .ref (ma 6), .ref (ma 7), .ref (ma 8), .ref (ma 9), .ref (ma 10), .ref (ma 11), .ref (ma 12), .ref (ma 13), .ref (ma 14), .ref (ma 15), .ref (ma 16), .ref (ma 17), .ref (ma 18), .ref (ma 19), .ref (ma 20), .ref (ma 21), .int 0, .ref (ma 23), .ref (ma 24), .ref (ma 25), .ref (ma 26), .ref (ma 27), .ref (ma 28)])), ((ma 28), wI tC 5 af), ((ma 2), wI tC 600 (fun _ => 0)), ((ma 7), wI tC 600 (fun _ => 0)), ((ma 6), wI tC 600 zf)]) [2, 3, 4, 0, 1] (by decide) rfl
            refine W.widen (k := 0) (n := 0) (by omega) (by omega) ?_
            exact W.zret (v := 1) hx hb hr (by decide) (fun t ht hW => ⟨⟨1, (), rfl, (by unfold mayg cntb; rw [hb0, hb1, hb2, hb3, hb4] <;> decide), (by rw [ht]; exact hP9), va_K.moved hW.alike hK, hD9⟩, hS.F ht⟩) hS.2.2 dX5_mayGoOn_90 hlocks
  · skip
    cases hb1 : bt 1
    · skip
      cases hb2 : bt 2
      · skip
        cases hb3 : bt 3
        · skip
          cases hb4 : bt 4
          · skip
            refine lv_aload_n hx hb dX5_mayGoOn_0 rfl (lv_at hl 0 rfl) ?_
            have hPc := hP.sub (ws' := [(mo, .inr (6, [.int th, .int 1, .ref (ma 2), .ref (ma 3), .ref (ma 4), .ref (ma 5), .ref (ma 6), .ref (ma 7), .ref (ma 8), .ref (ma 9), .ref (ma 10), .ref (ma 11), .ref (ma 12), .ref (ma 13), .ref (ma 14), .ref (ma 15), .ref (ma 16), .ref (ma 17), .ref (ma 18), .ref (ma 19), .ref (ma 20), .ref (ma 21), .int 0, .ref (ma 23), .ref (ma 24), .ref (ma 25), .ref (ma 26), .ref (ma 27), .ref (ma 28)])), ((ma 28), wI tC 5 af), ((ma 2), wI tC 600 (fun _ => 0))]) [0, 1, 2] rfl
            have hDc := hD.sub (ws' := [(mo, .inr (6, [.int th, .int 1, .ref (ma 2), .ref (ma 3), .ref (ma 4), .ref (ma 5), .ref (ma 6), .ref (ma 7), .ref (ma 8), .ref (ma 9), .ref (ma 10), .ref (ma 11), .ref (ma 12), .ref (ma 13), .ref (ma 14), .ref (ma 15), .ref (ma 16), .ref (ma 17), .ref (ma 18), .ref (ma 19), .ref (ma 20), .ref (ma 21), .int 0, .ref (ma 23), .ref (ma 24), .ref (ma 25), .ref (ma 26), .ref (ma 27), .ref (ma 28)])), ((ma 28), wI tC 5 af), ((ma 2), wI tC 600 (fun _ => 0))]) [0, 1, 2] (by decide) rfl
            have hFc := va_free (wc := [(mo, .inr (6, [.int th, .int 1, .ref (ma 2), .ref (ma 3), .ref (ma 4), .ref (ma 5), .ref (ma 6), .ref (ma 7), .ref (ma 8), .ref (ma 9), .ref (ma 10), .ref (ma 11), .ref (ma 12), .ref (ma 13), .ref (ma 14), .ref (ma 15), .ref (ma 16), .ref (ma 17), .ref (ma 18), .ref (ma 19), .ref (ma 20), .ref (ma 21), .int 0, .ref (ma 23), .ref (ma 24), .ref (ma 25), .ref (ma 26), .ref (ma 27), .ref (ma 28)])), ((ma 28), wI tC 5 af), ((ma 2), wI tC 600 (fun _ => 0))]) hD hS hA [0, 1, 2] rfl
            refine va_calli (va_runV (As := []) (rest := []) ⟨hx, hb, hml, hown, hts⟩ (c_X5_greatest l hlt D tC dz s.heap.size mo ma th af bt haf) (cwV 0 hts gX5_mayGoOn_X5_greatest rfl rfl rfl (by decide +kernel) ⟨Nat.le_of_ble_eq_true rfl, Nat.le_of_ble_eq_true rfl⟩) ⟨pB_blind, va_recv hK hPc (ci := 6) (q0 := 0) rfl rfl, pB_at hPc hDc hK hN hE hS hFc⟩ rfl rfl hl.1 rfl (lv_room (Nat.le_of_ble_eq_true rfl)) dX5_mayGoOn_1 ⟨Nat.le_of_ble_eq_true rfl, Nat.le_of_ble_eq_true rfl⟩) hS (fun q _ h => hFc q h) hFc (fun r_283 u t H1 locs ht hvm hw hB hz1 hk1 hS => ?_)
            obtain ⟨hP1, _, hD1⟩ := hB
            have hw_284 := hw
            rw [ht] at hP1
            obtain ⟨hP, hD⟩ := va_join (wr := [((ma 7), wI tC 600 (fun _ => 0)), ((ma 6), wI tC 600 zf)]) (w1 := [(mo, .inr (6, [.int th, .int 1, .ref (ma 2), .ref (ma 3), .ref (ma 4), .ref (ma 5), .ref (ma 6), .ref (ma 7), .ref (ma 8), .ref (ma 9), .ref (ma 10), .ref (ma 11), .ref (ma 12), .ref (ma 13), .ref (ma 14), .ref (ma 15), .ref (ma 16), .ref (ma 17), .ref (ma 18), .ref (ma 19), .ref (ma 20), .ref (ma 21), .int 0, .ref (ma 23), .ref (ma 24), .ref (ma 25), .ref (ma 26), .ref (ma 27), .ref (ma 28)])), ((ma 28), wI tC 5 af), ((ma 2), wI tC 600 (fun _ => 0))]) hP hD [0, 1, 2] [3, 4] rfl rfl (by decide) (by decide) hk1 hFc hP1 hD1
            generalize H1 = H at hP hS ⊢
            have hP : va_P D vwCl [((ma 7), wI tC 600 (fun _ => 0)), ((ma 6), wI tC 600 zf), (mo, .inr (6, [.int th, .int 1, .ref (ma 2), .ref (ma 3), .ref (ma 4), .ref (ma 5), .ref (ma 6), .ref (ma 7), .ref (ma 8), .ref (ma 9), .ref (ma 10), .ref (ma 11), .ref (ma 12), .ref (ma 13), .ref (ma 14), .ref (ma 15), .ref (ma 16), .ref (ma 17), .ref (ma 18), .ref (ma 19), .ref (ma 20), .ref (ma 21), .int 0, .ref (ma 23), .ref (ma 24), .ref (ma 25), .ref (ma 26), .ref (ma 27), .ref (ma 28)])), ((ma 28), wI tC 5 af), ((ma 2), wI tC 600 (fun _ => 0))] H := hP
            have hD : va_D A [((ma 7), wI tC 600 (fun _ => 0)), ((ma 6), wI tC 600 zf), (mo, .inr (6, [.int th, .int 1, .ref (ma 2), .ref (ma 3), .ref (ma 4), .ref (ma 5), .ref (ma 6), .ref (ma 7), .ref (ma 8), .ref (ma 9), .ref (ma 10), .ref (ma 11), .ref (ma 12), .ref (ma 13), .ref (ma 14), .ref (ma 15), .ref (ma 16), .ref (ma 17), .ref (ma 18), .ref (ma 19), .ref (ma 20), .ref (ma 21), .int 0, .ref (ma 23), .ref (ma 24), .ref (ma 25), .ref (ma 26), .ref (ma 27), .ref (ma 28)])), ((ma 28), wI tC 5 af), ((ma 2), wI tC 600 (fun _ => 0))] := hD
            have q1 : r_283 = 0 := hw_284.trans (by rw [hb0, hb1, hb2, hb3, hb4] <;> rfl)
            subst q1
            refine lv_istore_n (lv' := [(1, .int 0), (0, .ref mo)]) hx hb dX5_mayGoOn_4 rfl hl (by decide) rfl (fun ls hl => ?_)
            refine lv_iconst (v := 0) hx hb dX5_mayGoOn_5 (by decide) ?_
            refine lv_istore_n (lv' := [(2, .int 0), (1, .int 0), (0, .ref mo)]) hx hb dX5_mayGoOn_6 rfl hl (by decide) rfl (fun ls hl => ?_)
            refine lv_iconst (v := 0) hx hb dX5_mayGoOn_7 (by decide) ?_
            refine lv_istore_n (lv' := [(3, .int 0), (2, .int 0), (1, .int 0), (0, .ref mo)]) hx hb dX5_mayGoOn_8 rfl hl (by decide) rfl (fun ls hl => ?_)
            refine lv_iload_n hx hb dX5_mayGoOn_9 rfl (lv_at hl 0 rfl) ?_
            refine lv_iconst (v := 5) hx hb dX5_mayGoOn_10 (by decide) ?_
            refine lv_icmp_ge (tgt := 71) hx hb dX5_mayGoOn_11 (by decide) (fun hc => absurd hc (by decide)) (fun _ => ?_)
            refine lv_iload_n hx hb dX5_mayGoOn_14 rfl (lv_at hl 2 rfl) ?_
            refine lv_if_lt (tgt := 71) hx hb dX5_mayGoOn_15 (by decide) (fun hc => absurd hc (by decide)) (fun _ => ?_)
            refine lv_aload_n hx hb dX5_mayGoOn_18 rfl (lv_at hl 3 rfl) ?_
            refine va_get (D := D) (ci := 6) (v := .ref (ma 28)) (C := RX5) (T := TX5) (N := 29) hx hb hts in_X5_mayGoOn_X5 hown hK hP 2 rfl rfl 28 (by decide) w_0 (fun _ h9 => h9) rfl dX5_mayGoOn_19 ?_
            refine lv_iload_n hx hb dX5_mayGoOn_22 rfl (lv_at hl 0 rfl) ?_
            refine va_iald hx hb hK hP 3 0 rfl rfl (by unfold vp_in; decide) dX5_mayGoOn_23 ?_
            refine lv_topi (fun z_285 ez_285 => ?_)
            have fz_285 : z_285 = 0 := ez_285.trans (by rw [show (0 : Int32).toNatClampNeg = 0 by decide, haf 0 (by decide), hb0] <;> rfl)
            subst fz_285
            refine lv_if_lt (tgt := 65) hx hb dX5_mayGoOn_24 (by decide) (fun hc => absurd hc (by decide)) (fun _ => ?_)
            refine lv_aload_n hx hb dX5_mayGoOn_27 rfl (lv_at hl 3 rfl) ?_
            refine va_get (D := D) (ci := 6) (v := .ref (ma 2)) (C := RX5) (T := TX5) (N := 29) hx hb hts in_X5_mayGoOn_X5 hown hK hP 2 rfl rfl 2 (by decide) w_1 (fun _ h9 => h9) rfl dX5_mayGoOn_28 ?_
            refine lv_aload_n hx hb dX5_mayGoOn_31 rfl (lv_at hl 3 rfl) ?_
            refine va_get (D := D) (ci := 6) (v := .ref (ma 28)) (C := RX5) (T := TX5) (N := 29) hx hb hts in_X5_mayGoOn_X5 hown hK hP 2 rfl rfl 28 (by decide) w_0 (fun _ h9 => h9) rfl dX5_mayGoOn_32 ?_
            refine lv_iload_n hx hb dX5_mayGoOn_35 rfl (lv_at hl 0 rfl) ?_
            refine va_iald hx hb hK hP 3 0 rfl rfl (by unfold vp_in; decide) dX5_mayGoOn_36 ?_
            refine lv_topi (fun z_286 ez_286 => ?_)
            have fz_286 : z_286 = 0 := ez_286.trans (by rw [show (0 : Int32).toNatClampNeg = 0 by decide, haf 0 (by decide), hb0] <;> rfl)
            subst fz_286
            refine va_iald hx hb hK hP 4 0 rfl rfl (by unfold vp_in; decide) dX5_mayGoOn_37 ?_
            refine lv_topi (fun z_287 ez_287 => ?_)
            have fz_287 : z_287 = 0 := ez_287.trans (rfl)
            subst fz_287
            refine lv_aload_n hx hb dX5_mayGoOn_38 rfl (lv_at hl 3 rfl) ?_
            refine va_get (D := D) (ci := 6) (v := .ref (ma 2)) (C := RX5) (T := TX5) (N := 29) hx hb hts in_X5_mayGoOn_X5 hown hK hP 2 rfl rfl 2 (by decide) w_1 (fun _ h9 => h9) rfl dX5_mayGoOn_39 ?_
            refine lv_iload_n hx hb dX5_mayGoOn_42 rfl (lv_at hl 2 rfl) ?_
            refine va_iald hx hb hK hP 4 0 rfl rfl (by unfold vp_in; decide) dX5_mayGoOn_43 ?_
            refine lv_topi (fun z_288 ez_288 => ?_)
            have fz_288 : z_288 = 0 := ez_288.trans (rfl)
            subst fz_288
            refine lv_icmp_ne (tgt := 65) hx hb dX5_mayGoOn_44 (by decide) (fun hc => absurd (by decide) hc) (fun _ => ?_)
            refine lv_iload_n hx hb dX5_mayGoOn_47 rfl (lv_at hl 1 rfl) ?_
            refine lv_iload_n hx hb dX5_mayGoOn_48 rfl (lv_at hl 0 rfl) ?_
            refine lv_aload_n hx hb dX5_mayGoOn_49 rfl (lv_at hl 3 rfl) ?_
            refine va_get (D := D) (ci := 6) (v := .ref (ma 7)) (C := RX5) (T := TX5) (N := 29) hx hb hts in_X5_mayGoOn_X5 hown hK hP 2 rfl rfl 7 (by decide) w_2 (fun _ h9 => h9) rfl dX5_mayGoOn_50 ?_
            refine lv_iload_n hx hb dX5_mayGoOn_53 rfl (lv_at hl 2 rfl) ?_
            refine va_iald hx hb hK hP 0 0 rfl rfl (by unfold vp_in; decide) dX5_mayGoOn_54 ?_
            refine lv_topi (fun z_289 ez_289 => ?_)
            have fz_289 : z_289 = 0 := ez_289.trans (rfl)
            subst fz_289
            refine lv_icmp_ne (tgt := 62) hx hb dX5_mayGoOn_55 (by decide) (fun hc => absurd (by decide) hc) (fun _ => ?_)
            refine lv_iconst (v := 3) hx hb dX5_mayGoOn_58 (by decide) ?_
            refine lv_goto (tgt := 63) hx hb dX5_mayGoOn_59 (by decide) ?_
            refine lv_iadd hx hb dX5_mayGoOn_63 ?_
            refine lv_topi (fun z_290 ez_290 => ?_)
            have fz_290 : z_290 = 3 := ez_290.trans (by decide)
            subst fz_290
            refine lv_istore_n (lv' := [(2, .int 3), (3, .int 0), (1, .int 0), (0, .ref mo)]) hx hb dX5_mayGoOn_64 rfl hl (by decide) rfl (fun ls hl => ?_)
            refine lv_iinc (v := 1) (lv' := [(3, .int 1), (2, .int 3), (1, .int 0), (0, .ref mo)]) hx hb dX5_mayGoOn_65 hl (k := 1) rfl (by decide) (by decide) rfl (fun ls hl => ?_)
            refine lv_goto (tgt := 9) hx hb dX5_mayGoOn_68 (by decide) ?_
            refine lv_iload_n hx hb dX5_mayGoOn_9 rfl (lv_at hl 0 rfl) ?_
            refine lv_iconst (v := 5) hx hb dX5_mayGoOn_10 (by decide) ?_
            refine lv_icmp_ge (tgt := 71) hx hb dX5_mayGoOn_11 (by decide) (fun hc => absurd hc (by decide)) (fun _ => ?_)
            refine lv_iload_n hx hb dX5_mayGoOn_14 rfl (lv_at hl 2 rfl) ?_
            refine lv_if_lt (tgt := 71) hx hb dX5_mayGoOn_15 (by decide) (fun hc => absurd hc (by decide)) (fun _ => ?_)
            refine lv_aload_n hx hb dX5_mayGoOn_18 rfl (lv_at hl 3 rfl) ?_
            refine va_get (D := D) (ci := 6) (v := .ref (ma 28)) (C := RX5) (T := TX5) (N := 29) hx hb hts in_X5_mayGoOn_X5 hown hK hP 2 rfl rfl 28 (by decide) w_0 (fun _ h9 => h9) rfl dX5_mayGoOn_19 ?_
            refine lv_iload_n hx hb dX5_mayGoOn_22 rfl (lv_at hl 0 rfl) ?_
            refine va_iald hx hb hK hP 3 0 rfl rfl (by unfold vp_in; decide) dX5_mayGoOn_23 ?_
            refine lv_topi (fun z_291 ez_291 => ?_)
            have fz_291 : z_291 = (-1) := ez_291.trans (by rw [show (1 : Int32).toNatClampNeg = 1 by decide, haf 1 (by decide), hb1] <;> rfl)
            subst fz_291
            refine lv_if_lt (tgt := 65) hx hb dX5_mayGoOn_24 (by decide) (fun _ => ?_) (fun hc => absurd (by decide) hc)
            refine lv_iinc (v := 2) (lv' := [(3, .int 2), (2, .int 3), (1, .int 0), (0, .ref mo)]) hx hb dX5_mayGoOn_65 hl (k := 0) rfl (by decide) (by decide) rfl (fun ls hl => ?_)
            refine lv_goto (tgt := 9) hx hb dX5_mayGoOn_68 (by decide) ?_
            refine lv_iload_n hx hb dX5_mayGoOn_9 rfl (lv_at hl 0 rfl) ?_
            refine lv_iconst (v := 5) hx hb dX5_mayGoOn_10 (by decide) ?_
            refine lv_icmp_ge (tgt := 71) hx hb dX5_mayGoOn_11 (by decide) (fun hc => absurd hc (by decide)) (fun _ => ?_)
            refine lv_iload_n hx hb dX5_mayGoOn_14 rfl (lv_at hl 2 rfl) ?_
            refine lv_if_lt (tgt := 71) hx hb dX5_mayGoOn_15 (by decide) (fun hc => absurd hc (by decide)) (fun _ => ?_)
            refine lv_aload_n hx hb dX5_mayGoOn_18 rfl (lv_at hl 3 rfl) ?_
            refine va_get (D := D) (ci := 6) (v := .ref (ma 28)) (C := RX5) (T := TX5) (N := 29) hx hb hts in_X5_mayGoOn_X5 hown hK hP 2 rfl rfl 28 (by decide) w_0 (fun _ h9 => h9) rfl dX5_mayGoOn_19 ?_
            refine lv_iload_n hx hb dX5_mayGoOn_22 rfl (lv_at hl 0 rfl) ?_
            refine va_iald hx hb hK hP 3 0 rfl rfl (by unfold vp_in; decide) dX5_mayGoOn_23 ?_
            refine lv_topi (fun z_292 ez_292 => ?_)
            have fz_292 : z_292 = (-1) := ez_292.trans (by rw [show (2 : Int32).toNatClampNeg = 2 by decide, haf 2 (by decide), hb2] <;> rfl)
            subst fz_292
            refine lv_if_lt (tgt := 65) hx hb dX5_mayGoOn_24 (by decide) (fun _ => ?_) (fun hc => absurd (by decide) hc)
            refine lv_iinc (v := 3) (lv' := [(3, .int 3), (2, .int 3), (1, .int 0), (0, .ref mo)]) hx hb dX5_mayGoOn_65 hl (k := 0) rfl (by decide) (by decide) rfl (fun ls hl => ?_)
            refine lv_goto (tgt := 9) hx hb dX5_mayGoOn_68 (by decide) ?_
            refine lv_iload_n hx hb dX5_mayGoOn_9 rfl (lv_at hl 0 rfl) ?_
            refine lv_iconst (v := 5) hx hb dX5_mayGoOn_10 (by decide) ?_
            refine lv_icmp_ge (tgt := 71) hx hb dX5_mayGoOn_11 (by decide) (fun hc => absurd hc (by decide)) (fun _ => ?_)
            refine lv_iload_n hx hb dX5_mayGoOn_14 rfl (lv_at hl 2 rfl) ?_
            refine lv_if_lt (tgt := 71) hx hb dX5_mayGoOn_15 (by decide) (fun hc => absurd hc (by decide)) (fun _ => ?_)
            refine lv_aload_n hx hb dX5_mayGoOn_18 rfl (lv_at hl 3 rfl) ?_
            refine va_get (D := D) (ci := 6) (v := .ref (ma 28)) (C := RX5) (T := TX5) (N := 29) hx hb hts in_X5_mayGoOn_X5 hown hK hP 2 rfl rfl 28 (by decide) w_0 (fun _ h9 => h9) rfl dX5_mayGoOn_19 ?_
            refine lv_iload_n hx hb dX5_mayGoOn_22 rfl (lv_at hl 0 rfl) ?_
            refine va_iald hx hb hK hP 3 0 rfl rfl (by unfold vp_in; decide) dX5_mayGoOn_23 ?_
            refine lv_topi (fun z_293 ez_293 => ?_)
            have fz_293 : z_293 = (-1) := ez_293.trans (by rw [show (3 : Int32).toNatClampNeg = 3 by decide, haf 3 (by decide), hb3] <;> rfl)
            subst fz_293
            refine lv_if_lt (tgt := 65) hx hb dX5_mayGoOn_24 (by decide) (fun _ => ?_) (fun hc => absurd (by decide) hc)
            refine lv_iinc (v := 4) (lv' := [(3, .int 4), (2, .int 3), (1, .int 0), (0, .ref mo)]) hx hb dX5_mayGoOn_65 hl (k := 0) rfl (by decide) (by decide) rfl (fun ls hl => ?_)
            refine lv_goto (tgt := 9) hx hb dX5_mayGoOn_68 (by decide) ?_
            refine lv_iload_n hx hb dX5_mayGoOn_9 rfl (lv_at hl 0 rfl) ?_
            refine lv_iconst (v := 5) hx hb dX5_mayGoOn_10 (by decide) ?_
            refine lv_icmp_ge (tgt := 71) hx hb dX5_mayGoOn_11 (by decide) (fun hc => absurd hc (by decide)) (fun _ => ?_)
            refine lv_iload_n hx hb dX5_mayGoOn_14 rfl (lv_at hl 2 rfl) ?_
            refine lv_if_lt (tgt := 71) hx hb dX5_mayGoOn_15 (by decide) (fun hc => absurd hc (by decide)) (fun _ => ?_)
            refine lv_aload_n hx hb dX5_mayGoOn_18 rfl (lv_at hl 3 rfl) ?_
            refine va_get (D := D) (ci := 6) (v := .ref (ma 28)) (C := RX5) (T := TX5) (N := 29) hx hb hts in_X5_mayGoOn_X5 hown hK hP 2 rfl rfl 28 (by decide) w_0 (fun _ h9 => h9) rfl dX5_mayGoOn_19 ?_
            refine lv_iload_n hx hb dX5_mayGoOn_22 rfl (lv_at hl 0 rfl) ?_
            refine va_iald hx hb hK hP 3 0 rfl rfl (by unfold vp_in; decide) dX5_mayGoOn_23 ?_
            refine lv_topi (fun z_294 ez_294 => ?_)
            have fz_294 : z_294 = (-1) := ez_294.trans (by rw [show (4 : Int32).toNatClampNeg = 4 by decide, haf 4 (by decide), hb4] <;> rfl)
            subst fz_294
            refine lv_if_lt (tgt := 65) hx hb dX5_mayGoOn_24 (by decide) (fun _ => ?_) (fun hc => absurd (by decide) hc)
            refine lv_iinc (v := 5) (lv' := [(3, .int 5), (2, .int 3), (1, .int 0), (0, .ref mo)]) hx hb dX5_mayGoOn_65 hl (k := 0) rfl (by decide) (by decide) rfl (fun ls hl => ?_)
            refine lv_goto (tgt := 9) hx hb dX5_mayGoOn_68 (by decide) ?_
            refine lv_iload_n hx hb dX5_mayGoOn_9 rfl (lv_at hl 0 rfl) ?_
            refine lv_iconst (v := 5) hx hb dX5_mayGoOn_10 (by decide) ?_
            refine lv_icmp_ge (tgt := 71) hx hb dX5_mayGoOn_11 (by decide) (fun _ => ?_) (fun hc => absurd (by decide) hc)
            refine lv_iload_n hx hb dX5_mayGoOn_71 rfl (lv_at hl 2 rfl) ?_
            refine lv_if_lt (tgt := 89) hx hb dX5_mayGoOn_72 (by decide) (fun hc => absurd hc (by decide)) (fun _ => ?_)
            refine lv_iload_n hx hb dX5_mayGoOn_75 rfl (lv_at hl 1 rfl) ?_
            refine lv_aload_n hx hb dX5_mayGoOn_76 rfl (lv_at hl 3 rfl) ?_
            refine va_get (D := D) (ci := 6) (v := .ref (ma 6)) (C := RX5) (T := TX5) (N := 29) hx hb hts in_X5_mayGoOn_X5 hown hK hP 2 rfl rfl 6 (by decide) w_3 (fun _ h9 => h9) rfl dX5_mayGoOn_77 ?_
            refine lv_iload_n hx hb dX5_mayGoOn_80 rfl (lv_at hl 2 rfl) ?_
            refine va_iald hx hb hK hP 1 0 rfl rfl (by unfold vp_in; decide) dX5_mayGoOn_81 ?_
            refine lv_topi (fun z_295 ez_295 => ?_)
            have fz_295 : z_295 = 5 := ez_295.trans (hzf)
            subst fz_295
            refine lv_icmp_le (tgt := 89) hx hb dX5_mayGoOn_82 (by decide) (fun _ => ?_) (fun hc => absurd (by decide) hc)
            refine lv_iconst (v := 0) hx hb dX5_mayGoOn_89 (by decide) ?_
            have hP9 := hP.sub (ws' := [(mo, .inr (6, [.int th, .int 1, .ref (ma 2), .ref (ma 3), .ref (ma 4), .ref (ma 5), .ref (ma 6), .ref (ma 7), .ref (ma 8), .ref (ma 9), .ref (ma 10), .ref (ma 11), .ref (ma 12), .ref (ma 13), .ref (ma 14), .ref (ma 15), .ref (ma 16), .ref (ma 17), .ref (ma 18), .ref (ma 19), .ref (ma 20), .ref (ma 21), .int 0, .ref (ma 23), .ref (ma 24), .ref (ma 25), .ref (ma 26), .ref (ma 27), .ref (ma 28)])), ((ma 28), wI tC 5 af), ((ma 2), wI tC 600 (fun _ => 0)), ((ma 7), wI tC 600 (fun _ => 0)), ((ma 6), wI tC 600 zf)]) [2, 3, 4, 0, 1] rfl
            have hD9 := hD.sub (ws' := [(mo, .inr (6, [.int th, .int 1, .ref (ma 2), .ref (ma 3), .ref (ma 4), .ref (ma 5), .ref (ma 6), .ref (ma 7), .ref (ma 8), .ref (ma 9), .ref (ma 10), .ref (ma 11), .ref (ma 12), .ref (ma 13), .ref (ma 14), .ref (ma 15), .ref (ma 16), .ref (ma 17), .ref (ma 18), .ref (ma 19), .ref (ma 20), .ref (ma 21), .int 0, .ref (ma 23), .ref (ma 24), .ref (ma 25), .ref (ma 26), .ref (ma 27), .ref (ma 28)])), ((ma 28), wI tC 5 af), ((ma 2), wI tC 600 (fun _ => 0)), ((ma 7), wI tC 600 (fun _ => 0)), ((ma 6), wI tC 600 zf)]) [2, 3, 4, 0, 1] (by decide) rfl
            refine W.widen (k := 0) (n := 0) (by omega) (by omega) ?_
            exact W.zret (v := 0) hx hb hr (by decide) (fun t ht hW => ⟨⟨0, (), rfl, (by unfold mayg cntb; rw [hb0, hb1, hb2, hb3, hb4] <;> decide), (by rw [ht]; exact hP9), va_K.moved hW.alike hK, hD9⟩, hS.F ht⟩) hS.2.2 dX5_mayGoOn_90 hlocks
          · skip
            refine lv_aload_n hx hb dX5_mayGoOn_0 rfl (lv_at hl 0 rfl) ?_
            have hPc := hP.sub (ws' := [(mo, .inr (6, [.int th, .int 1, .ref (ma 2), .ref (ma 3), .ref (ma 4), .ref (ma 5), .ref (ma 6), .ref (ma 7), .ref (ma 8), .ref (ma 9), .ref (ma 10), .ref (ma 11), .ref (ma 12), .ref (ma 13), .ref (ma 14), .ref (ma 15), .ref (ma 16), .ref (ma 17), .ref (ma 18), .ref (ma 19), .ref (ma 20), .ref (ma 21), .int 0, .ref (ma 23), .ref (ma 24), .ref (ma 25), .ref (ma 26), .ref (ma 27), .ref (ma 28)])), ((ma 28), wI tC 5 af), ((ma 2), wI tC 600 (fun _ => 0))]) [0, 1, 2] rfl
            have hDc := hD.sub (ws' := [(mo, .inr (6, [.int th, .int 1, .ref (ma 2), .ref (ma 3), .ref (ma 4), .ref (ma 5), .ref (ma 6), .ref (ma 7), .ref (ma 8), .ref (ma 9), .ref (ma 10), .ref (ma 11), .ref (ma 12), .ref (ma 13), .ref (ma 14), .ref (ma 15), .ref (ma 16), .ref (ma 17), .ref (ma 18), .ref (ma 19), .ref (ma 20), .ref (ma 21), .int 0, .ref (ma 23), .ref (ma 24), .ref (ma 25), .ref (ma 26), .ref (ma 27), .ref (ma 28)])), ((ma 28), wI tC 5 af), ((ma 2), wI tC 600 (fun _ => 0))]) [0, 1, 2] (by decide) rfl
            have hFc := va_free (wc := [(mo, .inr (6, [.int th, .int 1, .ref (ma 2), .ref (ma 3), .ref (ma 4), .ref (ma 5), .ref (ma 6), .ref (ma 7), .ref (ma 8), .ref (ma 9), .ref (ma 10), .ref (ma 11), .ref (ma 12), .ref (ma 13), .ref (ma 14), .ref (ma 15), .ref (ma 16), .ref (ma 17), .ref (ma 18), .ref (ma 19), .ref (ma 20), .ref (ma 21), .int 0, .ref (ma 23), .ref (ma 24), .ref (ma 25), .ref (ma 26), .ref (ma 27), .ref (ma 28)])), ((ma 28), wI tC 5 af), ((ma 2), wI tC 600 (fun _ => 0))]) hD hS hA [0, 1, 2] rfl
            refine va_calli (va_runV (As := []) (rest := []) ⟨hx, hb, hml, hown, hts⟩ (c_X5_greatest l hlt D tC dz s.heap.size mo ma th af bt haf) (cwV 0 hts gX5_mayGoOn_X5_greatest rfl rfl rfl (by decide +kernel) ⟨Nat.le_of_ble_eq_true rfl, Nat.le_of_ble_eq_true rfl⟩) ⟨pB_blind, va_recv hK hPc (ci := 6) (q0 := 0) rfl rfl, pB_at hPc hDc hK hN hE hS hFc⟩ rfl rfl hl.1 rfl (lv_room (Nat.le_of_ble_eq_true rfl)) dX5_mayGoOn_1 ⟨Nat.le_of_ble_eq_true rfl, Nat.le_of_ble_eq_true rfl⟩) hS (fun q _ h => hFc q h) hFc (fun r_296 u t H1 locs ht hvm hw hB hz1 hk1 hS => ?_)
            obtain ⟨hP1, _, hD1⟩ := hB
            have hw_297 := hw
            rw [ht] at hP1
            obtain ⟨hP, hD⟩ := va_join (wr := [((ma 7), wI tC 600 (fun _ => 0)), ((ma 6), wI tC 600 zf)]) (w1 := [(mo, .inr (6, [.int th, .int 1, .ref (ma 2), .ref (ma 3), .ref (ma 4), .ref (ma 5), .ref (ma 6), .ref (ma 7), .ref (ma 8), .ref (ma 9), .ref (ma 10), .ref (ma 11), .ref (ma 12), .ref (ma 13), .ref (ma 14), .ref (ma 15), .ref (ma 16), .ref (ma 17), .ref (ma 18), .ref (ma 19), .ref (ma 20), .ref (ma 21), .int 0, .ref (ma 23), .ref (ma 24), .ref (ma 25), .ref (ma 26), .ref (ma 27), .ref (ma 28)])), ((ma 28), wI tC 5 af), ((ma 2), wI tC 600 (fun _ => 0))]) hP hD [0, 1, 2] [3, 4] rfl rfl (by decide) (by decide) hk1 hFc hP1 hD1
            generalize H1 = H at hP hS ⊢
            have hP : va_P D vwCl [((ma 7), wI tC 600 (fun _ => 0)), ((ma 6), wI tC 600 zf), (mo, .inr (6, [.int th, .int 1, .ref (ma 2), .ref (ma 3), .ref (ma 4), .ref (ma 5), .ref (ma 6), .ref (ma 7), .ref (ma 8), .ref (ma 9), .ref (ma 10), .ref (ma 11), .ref (ma 12), .ref (ma 13), .ref (ma 14), .ref (ma 15), .ref (ma 16), .ref (ma 17), .ref (ma 18), .ref (ma 19), .ref (ma 20), .ref (ma 21), .int 0, .ref (ma 23), .ref (ma 24), .ref (ma 25), .ref (ma 26), .ref (ma 27), .ref (ma 28)])), ((ma 28), wI tC 5 af), ((ma 2), wI tC 600 (fun _ => 0))] H := hP
            have hD : va_D A [((ma 7), wI tC 600 (fun _ => 0)), ((ma 6), wI tC 600 zf), (mo, .inr (6, [.int th, .int 1, .ref (ma 2), .ref (ma 3), .ref (ma 4), .ref (ma 5), .ref (ma 6), .ref (ma 7), .ref (ma 8), .ref (ma 9), .ref (ma 10), .ref (ma 11), .ref (ma 12), .ref (ma 13), .ref (ma 14), .ref (ma 15), .ref (ma 16), .ref (ma 17), .ref (ma 18), .ref (ma 19), .ref (ma 20), .ref (ma 21), .int 0, .ref (ma 23), .ref (ma 24), .ref (ma 25), .ref (ma 26), .ref (ma 27), .ref (ma 28)])), ((ma 28), wI tC 5 af), ((ma 2), wI tC 600 (fun _ => 0))] := hD
            have q1 : r_296 = 0 := hw_297.trans (by rw [hb0, hb1, hb2, hb3, hb4] <;> rfl)
            subst q1
            refine lv_istore_n (lv' := [(1, .int 0), (0, .ref mo)]) hx hb dX5_mayGoOn_4 rfl hl (by decide) rfl (fun ls hl => ?_)
            refine lv_iconst (v := 0) hx hb dX5_mayGoOn_5 (by decide) ?_
            refine lv_istore_n (lv' := [(2, .int 0), (1, .int 0), (0, .ref mo)]) hx hb dX5_mayGoOn_6 rfl hl (by decide) rfl (fun ls hl => ?_)
            refine lv_iconst (v := 0) hx hb dX5_mayGoOn_7 (by decide) ?_
            refine lv_istore_n (lv' := [(3, .int 0), (2, .int 0), (1, .int 0), (0, .ref mo)]) hx hb dX5_mayGoOn_8 rfl hl (by decide) rfl (fun ls hl => ?_)
            refine lv_iload_n hx hb dX5_mayGoOn_9 rfl (lv_at hl 0 rfl) ?_
            refine lv_iconst (v := 5) hx hb dX5_mayGoOn_10 (by decide) ?_
            refine lv_icmp_ge (tgt := 71) hx hb dX5_mayGoOn_11 (by decide) (fun hc => absurd hc (by decide)) (fun _ => ?_)
            refine lv_iload_n hx hb dX5_mayGoOn_14 rfl (lv_at hl 2 rfl) ?_
            refine lv_if_lt (tgt := 71) hx hb dX5_mayGoOn_15 (by decide) (fun hc => absurd hc (by decide)) (fun _ => ?_)
            refine lv_aload_n hx hb dX5_mayGoOn_18 rfl (lv_at hl 3 rfl) ?_
            refine va_get (D := D) (ci := 6) (v := .ref (ma 28)) (C := RX5) (T := TX5) (N := 29) hx hb hts in_X5_mayGoOn_X5 hown hK hP 2 rfl rfl 28 (by decide) w_0 (fun _ h9 => h9) rfl dX5_mayGoOn_19 ?_
            refine lv_iload_n hx hb dX5_mayGoOn_22 rfl (lv_at hl 0 rfl) ?_
            refine va_iald hx hb hK hP 3 0 rfl rfl (by unfold vp_in; decide) dX5_mayGoOn_23 ?_
            refine lv_topi (fun z_298 ez_298 => ?_)
            have fz_298 : z_298 = 0 := ez_298.trans (by rw [show (0 : Int32).toNatClampNeg = 0 by decide, haf 0 (by decide), hb0] <;> rfl)
            subst fz_298
            refine lv_if_lt (tgt := 65) hx hb dX5_mayGoOn_24 (by decide) (fun hc => absurd hc (by decide)) (fun _ => ?_)
            refine lv_aload_n hx hb dX5_mayGoOn_27 rfl (lv_at hl 3 rfl) ?_
            refine va_get (D := D) (ci := 6) (v := .ref (ma 2)) (C := RX5) (T := TX5) (N := 29) hx hb hts in_X5_mayGoOn_X5 hown hK hP 2 rfl rfl 2 (by decide) w_1 (fun _ h9 => h9) rfl dX5_mayGoOn_28 ?_
            refine lv_aload_n hx hb dX5_mayGoOn_31 rfl (lv_at hl 3 rfl) ?_
            refine va_get (D := D) (ci := 6) (v := .ref (ma 28)) (C := RX5) (T := TX5) (N := 29) hx hb hts in_X5_mayGoOn_X5 hown hK hP 2 rfl rfl 28 (by decide) w_0 (fun _ h9 => h9) rfl dX5_mayGoOn_32 ?_
            refine lv_iload_n hx hb dX5_mayGoOn_35 rfl (lv_at hl 0 rfl) ?_
            refine va_iald hx hb hK hP 3 0 rfl rfl (by unfold vp_in; decide) dX5_mayGoOn_36 ?_
            refine lv_topi (fun z_299 ez_299 => ?_)
            have fz_299 : z_299 = 0 := ez_299.trans (by rw [show (0 : Int32).toNatClampNeg = 0 by decide, haf 0 (by decide), hb0] <;> rfl)
            subst fz_299
            refine va_iald hx hb hK hP 4 0 rfl rfl (by unfold vp_in; decide) dX5_mayGoOn_37 ?_
            refine lv_topi (fun z_300 ez_300 => ?_)
            have fz_300 : z_300 = 0 := ez_300.trans (rfl)
            subst fz_300
            refine lv_aload_n hx hb dX5_mayGoOn_38 rfl (lv_at hl 3 rfl) ?_
            refine va_get (D := D) (ci := 6) (v := .ref (ma 2)) (C := RX5) (T := TX5) (N := 29) hx hb hts in_X5_mayGoOn_X5 hown hK hP 2 rfl rfl 2 (by decide) w_1 (fun _ h9 => h9) rfl dX5_mayGoOn_39 ?_
            refine lv_iload_n hx hb dX5_mayGoOn_42 rfl (lv_at hl 2 rfl) ?_
            refine va_iald hx hb hK hP 4 0 rfl rfl (by unfold vp_in; decide) dX5_mayGoOn_43 ?_
            refine lv_topi (fun z_301 ez_301 => ?_)
            have fz_301 : z_301 = 0 := ez_301.trans (rfl)
            subst fz_301
            refine lv_icmp_ne (tgt := 65) hx hb dX5_mayGoOn_44 (by decide) (fun hc => absurd (by decide) hc) (fun _ => ?_)
            refine lv_iload_n hx hb dX5_mayGoOn_47 rfl (lv_at hl 1 rfl) ?_
            refine lv_iload_n hx hb dX5_mayGoOn_48 rfl (lv_at hl 0 rfl) ?_
            refine lv_aload_n hx hb dX5_mayGoOn_49 rfl (lv_at hl 3 rfl) ?_
            refine va_get (D := D) (ci := 6) (v := .ref (ma 7)) (C := RX5) (T := TX5) (N := 29) hx hb hts in_X5_mayGoOn_X5 hown hK hP 2 rfl rfl 7 (by decide) w_2 (fun _ h9 => h9) rfl dX5_mayGoOn_50 ?_
            refine lv_iload_n hx hb dX5_mayGoOn_53 rfl (lv_at hl 2 rfl) ?_
            refine va_iald hx hb hK hP 0 0 rfl rfl (by unfold vp_in; decide) dX5_mayGoOn_54 ?_
            refine lv_topi (fun z_302 ez_302 => ?_)
            have fz_302 : z_302 = 0 := ez_302.trans (rfl)
            subst fz_302
            refine lv_icmp_ne (tgt := 62) hx hb dX5_mayGoOn_55 (by decide) (fun hc => absurd (by decide) hc) (fun _ => ?_)
            refine lv_iconst (v := 3) hx hb dX5_mayGoOn_58 (by decide) ?_
            refine lv_goto (tgt := 63) hx hb dX5_mayGoOn_59 (by decide) ?_
            refine lv_iadd hx hb dX5_mayGoOn_63 ?_
            refine lv_topi (fun z_303 ez_303 => ?_)
            have fz_303 : z_303 = 3 := ez_303.trans (by decide)
            subst fz_303
            refine lv_istore_n (lv' := [(2, .int 3), (3, .int 0), (1, .int 0), (0, .ref mo)]) hx hb dX5_mayGoOn_64 rfl hl (by decide) rfl (fun ls hl => ?_)
            refine lv_iinc (v := 1) (lv' := [(3, .int 1), (2, .int 3), (1, .int 0), (0, .ref mo)]) hx hb dX5_mayGoOn_65 hl (k := 1) rfl (by decide) (by decide) rfl (fun ls hl => ?_)
            refine lv_goto (tgt := 9) hx hb dX5_mayGoOn_68 (by decide) ?_
            refine lv_iload_n hx hb dX5_mayGoOn_9 rfl (lv_at hl 0 rfl) ?_
            refine lv_iconst (v := 5) hx hb dX5_mayGoOn_10 (by decide) ?_
            refine lv_icmp_ge (tgt := 71) hx hb dX5_mayGoOn_11 (by decide) (fun hc => absurd hc (by decide)) (fun _ => ?_)
            refine lv_iload_n hx hb dX5_mayGoOn_14 rfl (lv_at hl 2 rfl) ?_
            refine lv_if_lt (tgt := 71) hx hb dX5_mayGoOn_15 (by decide) (fun hc => absurd hc (by decide)) (fun _ => ?_)
            refine lv_aload_n hx hb dX5_mayGoOn_18 rfl (lv_at hl 3 rfl) ?_
            refine va_get (D := D) (ci := 6) (v := .ref (ma 28)) (C := RX5) (T := TX5) (N := 29) hx hb hts in_X5_mayGoOn_X5 hown hK hP 2 rfl rfl 28 (by decide) w_0 (fun _ h9 => h9) rfl dX5_mayGoOn_19 ?_
            refine lv_iload_n hx hb dX5_mayGoOn_22 rfl (lv_at hl 0 rfl) ?_
            refine va_iald hx hb hK hP 3 0 rfl rfl (by unfold vp_in; decide) dX5_mayGoOn_23 ?_
            refine lv_topi (fun z_304 ez_304 => ?_)
            have fz_304 : z_304 = (-1) := ez_304.trans (by rw [show (1 : Int32).toNatClampNeg = 1 by decide, haf 1 (by decide), hb1] <;> rfl)
            subst fz_304
            refine lv_if_lt (tgt := 65) hx hb dX5_mayGoOn_24 (by decide) (fun _ => ?_) (fun hc => absurd (by decide) hc)
            refine lv_iinc (v := 2) (lv' := [(3, .int 2), (2, .int 3), (1, .int 0), (0, .ref mo)]) hx hb dX5_mayGoOn_65 hl (k := 0) rfl (by decide) (by decide) rfl (fun ls hl => ?_)
            refine lv_goto (tgt := 9) hx hb dX5_mayGoOn_68 (by decide) ?_
            refine lv_iload_n hx hb dX5_mayGoOn_9 rfl (lv_at hl 0 rfl) ?_
            refine lv_iconst (v := 5) hx hb dX5_mayGoOn_10 (by decide) ?_
            refine lv_icmp_ge (tgt := 71) hx hb dX5_mayGoOn_11 (by decide) (fun hc => absurd hc (by decide)) (fun _ => ?_)
            refine lv_iload_n hx hb dX5_mayGoOn_14 rfl (lv_at hl 2 rfl) ?_
            refine lv_if_lt (tgt := 71) hx hb dX5_mayGoOn_15 (by decide) (fun hc => absurd hc (by decide)) (fun _ => ?_)
            refine lv_aload_n hx hb dX5_mayGoOn_18 rfl (lv_at hl 3 rfl) ?_
            refine va_get (D := D) (ci := 6) (v := .ref (ma 28)) (C := RX5) (T := TX5) (N := 29) hx hb hts in_X5_mayGoOn_X5 hown hK hP 2 rfl rfl 28 (by decide) w_0 (fun _ h9 => h9) rfl dX5_mayGoOn_19 ?_
            refine lv_iload_n hx hb dX5_mayGoOn_22 rfl (lv_at hl 0 rfl) ?_
            refine va_iald hx hb hK hP 3 0 rfl rfl (by unfold vp_in; decide) dX5_mayGoOn_23 ?_
            refine lv_topi (fun z_305 ez_305 => ?_)
            have fz_305 : z_305 = (-1) := ez_305.trans (by rw [show (2 : Int32).toNatClampNeg = 2 by decide, haf 2 (by decide), hb2] <;> rfl)
            subst fz_305
            refine lv_if_lt (tgt := 65) hx hb dX5_mayGoOn_24 (by decide) (fun _ => ?_) (fun hc => absurd (by decide) hc)
            refine lv_iinc (v := 3) (lv' := [(3, .int 3), (2, .int 3), (1, .int 0), (0, .ref mo)]) hx hb dX5_mayGoOn_65 hl (k := 0) rfl (by decide) (by decide) rfl (fun ls hl => ?_)
            refine lv_goto (tgt := 9) hx hb dX5_mayGoOn_68 (by decide) ?_
            refine lv_iload_n hx hb dX5_mayGoOn_9 rfl (lv_at hl 0 rfl) ?_
            refine lv_iconst (v := 5) hx hb dX5_mayGoOn_10 (by decide) ?_
            refine lv_icmp_ge (tgt := 71) hx hb dX5_mayGoOn_11 (by decide) (fun hc => absurd hc (by decide)) (fun _ => ?_)
            refine lv_iload_n hx hb dX5_mayGoOn_14 rfl (lv_at hl 2 rfl) ?_
            refine lv_if_lt (tgt := 71) hx hb dX5_mayGoOn_15 (by decide) (fun hc => absurd hc (by decide)) (fun _ => ?_)
            refine lv_aload_n hx hb dX5_mayGoOn_18 rfl (lv_at hl 3 rfl) ?_
            refine va_get (D := D) (ci := 6) (v := .ref (ma 28)) (C := RX5) (T := TX5) (N := 29) hx hb hts in_X5_mayGoOn_X5 hown hK hP 2 rfl rfl 28 (by decide) w_0 (fun _ h9 => h9) rfl dX5_mayGoOn_19 ?_
            refine lv_iload_n hx hb dX5_mayGoOn_22 rfl (lv_at hl 0 rfl) ?_
            refine va_iald hx hb hK hP 3 0 rfl rfl (by unfold vp_in; decide) dX5_mayGoOn_23 ?_
            refine lv_topi (fun z_306 ez_306 => ?_)
            have fz_306 : z_306 = (-1) := ez_306.trans (by rw [show (3 : Int32).toNatClampNeg = 3 by decide, haf 3 (by decide), hb3] <;> rfl)
            subst fz_306
            refine lv_if_lt (tgt := 65) hx hb dX5_mayGoOn_24 (by decide) (fun _ => ?_) (fun hc => absurd (by decide) hc)
            refine lv_iinc (v := 4) (lv' := [(3, .int 4), (2, .int 3), (1, .int 0), (0, .ref mo)]) hx hb dX5_mayGoOn_65 hl (k := 0) rfl (by decide) (by decide) rfl (fun ls hl => ?_)
            refine lv_goto (tgt := 9) hx hb dX5_mayGoOn_68 (by decide) ?_
            refine lv_iload_n hx hb dX5_mayGoOn_9 rfl (lv_at hl 0 rfl) ?_
            refine lv_iconst (v := 5) hx hb dX5_mayGoOn_10 (by decide) ?_
            refine lv_icmp_ge (tgt := 71) hx hb dX5_mayGoOn_11 (by decide) (fun hc => absurd hc (by decide)) (fun _ => ?_)
            refine lv_iload_n hx hb dX5_mayGoOn_14 rfl (lv_at hl 2 rfl) ?_
            refine lv_if_lt (tgt := 71) hx hb dX5_mayGoOn_15 (by decide) (fun hc => absurd hc (by decide)) (fun _ => ?_)
            refine lv_aload_n hx hb dX5_mayGoOn_18 rfl (lv_at hl 3 rfl) ?_
            refine va_get (D := D) (ci := 6) (v := .ref (ma 28)) (C := RX5) (T := TX5) (N := 29) hx hb hts in_X5_mayGoOn_X5 hown hK hP 2 rfl rfl 28 (by decide) w_0 (fun _ h9 => h9) rfl dX5_mayGoOn_19 ?_
            refine lv_iload_n hx hb dX5_mayGoOn_22 rfl (lv_at hl 0 rfl) ?_
            refine va_iald hx hb hK hP 3 0 rfl rfl (by unfold vp_in; decide) dX5_mayGoOn_23 ?_
            refine lv_topi (fun z_307 ez_307 => ?_)
            have fz_307 : z_307 = 0 := ez_307.trans (by rw [show (4 : Int32).toNatClampNeg = 4 by decide, haf 4 (by decide), hb4] <;> rfl)
            subst fz_307
            refine lv_if_lt (tgt := 65) hx hb dX5_mayGoOn_24 (by decide) (fun hc => absurd hc (by decide)) (fun _ => ?_)
            refine lv_aload_n hx hb dX5_mayGoOn_27 rfl (lv_at hl 3 rfl) ?_
            refine va_get (D := D) (ci := 6) (v := .ref (ma 2)) (C := RX5) (T := TX5) (N := 29) hx hb hts in_X5_mayGoOn_X5 hown hK hP 2 rfl rfl 2 (by decide) w_1 (fun _ h9 => h9) rfl dX5_mayGoOn_28 ?_
            refine lv_aload_n hx hb dX5_mayGoOn_31 rfl (lv_at hl 3 rfl) ?_
            refine va_get (D := D) (ci := 6) (v := .ref (ma 28)) (C := RX5) (T := TX5) (N := 29) hx hb hts in_X5_mayGoOn_X5 hown hK hP 2 rfl rfl 28 (by decide) w_0 (fun _ h9 => h9) rfl dX5_mayGoOn_32 ?_
            refine lv_iload_n hx hb dX5_mayGoOn_35 rfl (lv_at hl 0 rfl) ?_
            refine va_iald hx hb hK hP 3 0 rfl rfl (by unfold vp_in; decide) dX5_mayGoOn_36 ?_
            refine lv_topi (fun z_308 ez_308 => ?_)
            have fz_308 : z_308 = 0 := ez_308.trans (by rw [show (4 : Int32).toNatClampNeg = 4 by decide, haf 4 (by decide), hb4] <;> rfl)
            subst fz_308
            refine va_iald hx hb hK hP 4 0 rfl rfl (by unfold vp_in; decide) dX5_mayGoOn_37 ?_
            refine lv_topi (fun z_309 ez_309 => ?_)
            have fz_309 : z_309 = 0 := ez_309.trans (rfl)
            subst fz_309
            refine lv_aload_n hx hb dX5_mayGoOn_38 rfl (lv_at hl 3 rfl) ?_
            refine va_get (D := D) (ci := 6) (v := .ref (ma 2)) (C := RX5) (T := TX5) (N := 29) hx hb hts in_X5_mayGoOn_X5 hown hK hP 2 rfl rfl 2 (by decide) w_1 (fun _ h9 => h9) rfl dX5_mayGoOn_39 ?_
            refine lv_iload_n hx hb dX5_mayGoOn_42 rfl (lv_at hl 2 rfl) ?_
            refine va_iald hx hb hK hP 4 0 rfl rfl (by unfold vp_in; decide) dX5_mayGoOn_43 ?_
            refine lv_topi (fun z_310 ez_310 => ?_)
            have fz_310 : z_310 = 0 := ez_310.trans (rfl)
            subst fz_310
            refine lv_icmp_ne (tgt := 65) hx hb dX5_mayGoOn_44 (by decide) (fun hc => absurd (by decide) hc) (fun _ => ?_)
            refine lv_iload_n hx hb dX5_mayGoOn_47 rfl (lv_at hl 1 rfl) ?_
            refine lv_iload_n hx hb dX5_mayGoOn_48 rfl (lv_at hl 0 rfl) ?_
            refine lv_aload_n hx hb dX5_mayGoOn_49 rfl (lv_at hl 3 rfl) ?_
            refine va_get (D := D) (ci := 6) (v := .ref (ma 7)) (C := RX5) (T := TX5) (N := 29) hx hb hts in_X5_mayGoOn_X5 hown hK hP 2 rfl rfl 7 (by decide) w_2 (fun _ h9 => h9) rfl dX5_mayGoOn_50 ?_
            refine lv_iload_n hx hb dX5_mayGoOn_53 rfl (lv_at hl 2 rfl) ?_
            refine va_iald hx hb hK hP 0 0 rfl rfl (by unfold vp_in; decide) dX5_mayGoOn_54 ?_
            refine lv_topi (fun z_311 ez_311 => ?_)
            have fz_311 : z_311 = 0 := ez_311.trans (rfl)
            subst fz_311
            refine lv_icmp_ne (tgt := 62) hx hb dX5_mayGoOn_55 (by decide) (fun _ => ?_) (fun hc => absurd hc (by decide))
            refine lv_iconst (v := 2) hx hb dX5_mayGoOn_62 (by decide) ?_
            refine lv_iadd hx hb dX5_mayGoOn_63 ?_
            refine lv_topi (fun z_312 ez_312 => ?_)
            have fz_312 : z_312 = 5 := ez_312.trans (by decide)
            subst fz_312
            refine lv_istore_n (lv' := [(2, .int 5), (3, .int 4), (1, .int 0), (0, .ref mo)]) hx hb dX5_mayGoOn_64 rfl hl (by decide) rfl (fun ls hl => ?_)
            refine lv_iinc (v := 5) (lv' := [(3, .int 5), (2, .int 5), (1, .int 0), (0, .ref mo)]) hx hb dX5_mayGoOn_65 hl (k := 1) rfl (by decide) (by decide) rfl (fun ls hl => ?_)
            refine lv_goto (tgt := 9) hx hb dX5_mayGoOn_68 (by decide) ?_
            refine lv_iload_n hx hb dX5_mayGoOn_9 rfl (lv_at hl 0 rfl) ?_
            refine lv_iconst (v := 5) hx hb dX5_mayGoOn_10 (by decide) ?_
            refine lv_icmp_ge (tgt := 71) hx hb dX5_mayGoOn_11 (by decide) (fun _ => ?_) (fun hc => absurd (by decide) hc)
            refine lv_iload_n hx hb dX5_mayGoOn_71 rfl (lv_at hl 2 rfl) ?_
            refine lv_if_lt (tgt := 89) hx hb dX5_mayGoOn_72 (by decide) (fun hc => absurd hc (by decide)) (fun _ => ?_)
            refine lv_iload_n hx hb dX5_mayGoOn_75 rfl (lv_at hl 1 rfl) ?_
            refine lv_aload_n hx hb dX5_mayGoOn_76 rfl (lv_at hl 3 rfl) ?_
            refine va_get (D := D) (ci := 6) (v := .ref (ma 6)) (C := RX5) (T := TX5) (N := 29) hx hb hts in_X5_mayGoOn_X5 hown hK hP 2 rfl rfl 6 (by decide) w_3 (fun _ h9 => h9) rfl dX5_mayGoOn_77 ?_
            refine lv_iload_n hx hb dX5_mayGoOn_80 rfl (lv_at hl 2 rfl) ?_
            refine va_iald hx hb hK hP 1 0 rfl rfl (by unfold vp_in; decide) dX5_mayGoOn_81 ?_
            refine lv_topi (fun z_313 ez_313 => ?_)
            have fz_313 : z_313 = 5 := ez_313.trans (hzf)
            subst fz_313
            refine lv_icmp_le (tgt := 89) hx hb dX5_mayGoOn_82 (by decide) (fun _ => ?_) (fun hc => absurd (by decide) hc)
            refine lv_iconst (v := 0) hx hb dX5_mayGoOn_89 (by decide) ?_
            have hP9 := hP.sub (ws' := [(mo, .inr (6, [.int th, .int 1, .ref (ma 2), .ref (ma 3), .ref (ma 4), .ref (ma 5), .ref (ma 6), .ref (ma 7), .ref (ma 8), .ref (ma 9), .ref (ma 10), .ref (ma 11), .ref (ma 12), .ref (ma 13), .ref (ma 14), .ref (ma 15), .ref (ma 16), .ref (ma 17), .ref (ma 18), .ref (ma 19), .ref (ma 20), .ref (ma 21), .int 0, .ref (ma 23), .ref (ma 24), .ref (ma 25), .ref (ma 26), .ref (ma 27), .ref (ma 28)])), ((ma 28), wI tC 5 af), ((ma 2), wI tC 600 (fun _ => 0)), ((ma 7), wI tC 600 (fun _ => 0)), ((ma 6), wI tC 600 zf)]) [2, 3, 4, 0, 1] rfl
            have hD9 := hD.sub (ws' := [(mo, .inr (6, [.int th, .int 1, .ref (ma 2), .ref (ma 3), .ref (ma 4), .ref (ma 5), .ref (ma 6), .ref (ma 7), .ref (ma 8), .ref (ma 9), .ref (ma 10), .ref (ma 11), .ref (ma 12), .ref (ma 13), .ref (ma 14), .ref (ma 15), .ref (ma 16), .ref (ma 17), .ref (ma 18), .ref (ma 19), .ref (ma 20), .ref (ma 21), .int 0, .ref (ma 23), .ref (ma 24), .ref (ma 25), .ref (ma 26), .ref (ma 27), .ref (ma 28)])), ((ma 28), wI tC 5 af), ((ma 2), wI tC 600 (fun _ => 0)), ((ma 7), wI tC 600 (fun _ => 0)), ((ma 6), wI tC 600 zf)]) [2, 3, 4, 0, 1] (by decide) rfl
            refine W.widen (k := 0) (n := 0) (by omega) (by omega) ?_
            exact W.zret (v := 0) hx hb hr (by decide) (fun t ht hW => ⟨⟨0, (), rfl, (by unfold mayg cntb; rw [hb0, hb1, hb2, hb3, hb4] <;> decide), (by rw [ht]; exact hP9), va_K.moved hW.alike hK, hD9⟩, hS.F ht⟩) hS.2.2 dX5_mayGoOn_90 hlocks
        · skip
          cases hb4 : bt 4
          · skip
            refine lv_aload_n hx hb dX5_mayGoOn_0 rfl (lv_at hl 0 rfl) ?_
            have hPc := hP.sub (ws' := [(mo, .inr (6, [.int th, .int 1, .ref (ma 2), .ref (ma 3), .ref (ma 4), .ref (ma 5), .ref (ma 6), .ref (ma 7), .ref (ma 8), .ref (ma 9), .ref (ma 10), .ref (ma 11), .ref (ma 12), .ref (ma 13), .ref (ma 14), .ref (ma 15), .ref (ma 16), .ref (ma 17), .ref (ma 18), .ref (ma 19), .ref (ma 20), .ref (ma 21), .int 0, .ref (ma 23), .ref (ma 24), .ref (ma 25), .ref (ma 26), .ref (ma 27), .ref (ma 28)])), ((ma 28), wI tC 5 af), ((ma 2), wI tC 600 (fun _ => 0))]) [0, 1, 2] rfl
            have hDc := hD.sub (ws' := [(mo, .inr (6, [.int th, .int 1, .ref (ma 2), .ref (ma 3), .ref (ma 4), .ref (ma 5), .ref (ma 6), .ref (ma 7), .ref (ma 8), .ref (ma 9), .ref (ma 10), .ref (ma 11), .ref (ma 12), .ref (ma 13), .ref (ma 14), .ref (ma 15), .ref (ma 16), .ref (ma 17), .ref (ma 18), .ref (ma 19), .ref (ma 20), .ref (ma 21), .int 0, .ref (ma 23), .ref (ma 24), .ref (ma 25), .ref (ma 26), .ref (ma 27), .ref (ma 28)])), ((ma 28), wI tC 5 af), ((ma 2), wI tC 600 (fun _ => 0))]) [0, 1, 2] (by decide) rfl
            have hFc := va_free (wc := [(mo, .inr (6, [.int th, .int 1, .ref (ma 2), .ref (ma 3), .ref (ma 4), .ref (ma 5), .ref (ma 6), .ref (ma 7), .ref (ma 8), .ref (ma 9), .ref (ma 10), .ref (ma 11), .ref (ma 12), .ref (ma 13), .ref (ma 14), .ref (ma 15), .ref (ma 16), .ref (ma 17), .ref (ma 18), .ref (ma 19), .ref (ma 20), .ref (ma 21), .int 0, .ref (ma 23), .ref (ma 24), .ref (ma 25), .ref (ma 26), .ref (ma 27), .ref (ma 28)])), ((ma 28), wI tC 5 af), ((ma 2), wI tC 600 (fun _ => 0))]) hD hS hA [0, 1, 2] rfl
            refine va_calli (va_runV (As := []) (rest := []) ⟨hx, hb, hml, hown, hts⟩ (c_X5_greatest l hlt D tC dz s.heap.size mo ma th af bt haf) (cwV 0 hts gX5_mayGoOn_X5_greatest rfl rfl rfl (by decide +kernel) ⟨Nat.le_of_ble_eq_true rfl, Nat.le_of_ble_eq_true rfl⟩) ⟨pB_blind, va_recv hK hPc (ci := 6) (q0 := 0) rfl rfl, pB_at hPc hDc hK hN hE hS hFc⟩ rfl rfl hl.1 rfl (lv_room (Nat.le_of_ble_eq_true rfl)) dX5_mayGoOn_1 ⟨Nat.le_of_ble_eq_true rfl, Nat.le_of_ble_eq_true rfl⟩) hS (fun q _ h => hFc q h) hFc (fun r_314 u t H1 locs ht hvm hw hB hz1 hk1 hS => ?_)
            obtain ⟨hP1, _, hD1⟩ := hB
            have hw_315 := hw
            rw [ht] at hP1
            obtain ⟨hP, hD⟩ := va_join (wr := [((ma 7), wI tC 600 (fun _ => 0)), ((ma 6), wI tC 600 zf)]) (w1 := [(mo, .inr (6, [.int th, .int 1, .ref (ma 2), .ref (ma 3), .ref (ma 4), .ref (ma 5), .ref (ma 6), .ref (ma 7), .ref (ma 8), .ref (ma 9), .ref (ma 10), .ref (ma 11), .ref (ma 12), .ref (ma 13), .ref (ma 14), .ref (ma 15), .ref (ma 16), .ref (ma 17), .ref (ma 18), .ref (ma 19), .ref (ma 20), .ref (ma 21), .int 0, .ref (ma 23), .ref (ma 24), .ref (ma 25), .ref (ma 26), .ref (ma 27), .ref (ma 28)])), ((ma 28), wI tC 5 af), ((ma 2), wI tC 600 (fun _ => 0))]) hP hD [0, 1, 2] [3, 4] rfl rfl (by decide) (by decide) hk1 hFc hP1 hD1
            generalize H1 = H at hP hS ⊢
            have hP : va_P D vwCl [((ma 7), wI tC 600 (fun _ => 0)), ((ma 6), wI tC 600 zf), (mo, .inr (6, [.int th, .int 1, .ref (ma 2), .ref (ma 3), .ref (ma 4), .ref (ma 5), .ref (ma 6), .ref (ma 7), .ref (ma 8), .ref (ma 9), .ref (ma 10), .ref (ma 11), .ref (ma 12), .ref (ma 13), .ref (ma 14), .ref (ma 15), .ref (ma 16), .ref (ma 17), .ref (ma 18), .ref (ma 19), .ref (ma 20), .ref (ma 21), .int 0, .ref (ma 23), .ref (ma 24), .ref (ma 25), .ref (ma 26), .ref (ma 27), .ref (ma 28)])), ((ma 28), wI tC 5 af), ((ma 2), wI tC 600 (fun _ => 0))] H := hP
            have hD : va_D A [((ma 7), wI tC 600 (fun _ => 0)), ((ma 6), wI tC 600 zf), (mo, .inr (6, [.int th, .int 1, .ref (ma 2), .ref (ma 3), .ref (ma 4), .ref (ma 5), .ref (ma 6), .ref (ma 7), .ref (ma 8), .ref (ma 9), .ref (ma 10), .ref (ma 11), .ref (ma 12), .ref (ma 13), .ref (ma 14), .ref (ma 15), .ref (ma 16), .ref (ma 17), .ref (ma 18), .ref (ma 19), .ref (ma 20), .ref (ma 21), .int 0, .ref (ma 23), .ref (ma 24), .ref (ma 25), .ref (ma 26), .ref (ma 27), .ref (ma 28)])), ((ma 28), wI tC 5 af), ((ma 2), wI tC 600 (fun _ => 0))] := hD
            have q1 : r_314 = 0 := hw_315.trans (by rw [hb0, hb1, hb2, hb3, hb4] <;> rfl)
            subst q1
            refine lv_istore_n (lv' := [(1, .int 0), (0, .ref mo)]) hx hb dX5_mayGoOn_4 rfl hl (by decide) rfl (fun ls hl => ?_)
            refine lv_iconst (v := 0) hx hb dX5_mayGoOn_5 (by decide) ?_
            refine lv_istore_n (lv' := [(2, .int 0), (1, .int 0), (0, .ref mo)]) hx hb dX5_mayGoOn_6 rfl hl (by decide) rfl (fun ls hl => ?_)
            refine lv_iconst (v := 0) hx hb dX5_mayGoOn_7 (by decide) ?_
            refine lv_istore_n (lv' := [(3, .int 0), (2, .int 0), (1, .int 0), (0, .ref mo)]) hx hb dX5_mayGoOn_8 rfl hl (by decide) rfl (fun ls hl => ?_)
            refine lv_iload_n hx hb dX5_mayGoOn_9 rfl (lv_at hl 0 rfl) ?_
            refine lv_iconst (v := 5) hx hb dX5_mayGoOn_10 (by decide) ?_
            refine lv_icmp_ge (tgt := 71) hx hb dX5_mayGoOn_11 (by decide) (fun hc => absurd hc (by decide)) (fun _ => ?_)
            refine lv_iload_n hx hb dX5_mayGoOn_14 rfl (lv_at hl 2 rfl) ?_
            refine lv_if_lt (tgt := 71) hx hb dX5_mayGoOn_15 (by decide) (fun hc => absurd hc (by decide)) (fun _ => ?_)
            refine lv_aload_n hx hb dX5_mayGoOn_18 rfl (lv_at hl 3 rfl) ?_
            refine va_get (D := D) (ci := 6) (v := .ref (ma 28)) (C := RX5) (T := TX5) (N := 29) hx hb hts in_X5_mayGoOn_X5 hown hK hP 2 rfl rfl 28 (by decide) w_0 (fun _ h9 => h9) rfl dX5_mayGoOn_19 ?_
            refine lv_iload_n hx hb dX5_mayGoOn_22 rfl (lv_at hl 0 rfl) ?_
            refine va_iald hx hb hK hP 3 0 rfl rfl (by unfold vp_in; decide) dX5_mayGoOn_23 ?_
            refine lv_topi (fun z_316 ez_316 => ?_)
            have fz_316 : z_316 = 0 := ez_316.trans (by rw [show (0 : Int32).toNatClampNeg = 0 by decide, haf 0 (by decide), hb0] <;> rfl)
            subst fz_316
            refine lv_if_lt (tgt := 65) hx hb dX5_mayGoOn_24 (by decide) (fun hc => absurd hc (by decide)) (fun _ => ?_)
            refine lv_aload_n hx hb dX5_mayGoOn_27 rfl (lv_at hl 3 rfl) ?_
            refine va_get (D := D) (ci := 6) (v := .ref (ma 2)) (C := RX5) (T := TX5) (N := 29) hx hb hts in_X5_mayGoOn_X5 hown hK hP 2 rfl rfl 2 (by decide) w_1 (fun _ h9 => h9) rfl dX5_mayGoOn_28 ?_
            refine lv_aload_n hx hb dX5_mayGoOn_31 rfl (lv_at hl 3 rfl) ?_
            refine va_get (D := D) (ci := 6) (v := .ref (ma 28)) (C := RX5) (T := TX5) (N := 29) hx hb hts in_X5_mayGoOn_X5 hown hK hP 2 rfl rfl 28 (by decide) w_0 (fun _ h9 => h9) rfl dX5_mayGoOn_32 ?_
            refine lv_iload_n hx hb dX5_mayGoOn_35 rfl (lv_at hl 0 rfl) ?_
            refine va_iald hx hb hK hP 3 0 rfl rfl (by unfold vp_in; decide) dX5_mayGoOn_36 ?_
            refine lv_topi (fun z_317 ez_317 => ?_)
            have fz_317 : z_317 = 0 := ez_317.trans (by rw [show (0 : Int32).toNatClampNeg = 0 by decide, haf 0 (by decide), hb0] <;> rfl)
            subst fz_317
            refine va_iald hx hb hK hP 4 0 rfl rfl (by unfold vp_in; decide) dX5_mayGoOn_37 ?_
            refine lv_topi (fun z_318 ez_318 => ?_)
            have fz_318 : z_318 = 0 := ez_318.trans (rfl)
            subst fz_318
            refine lv_aload_n hx hb dX5_mayGoOn_38 rfl (lv_at hl 3 rfl) ?_
            refine va_get (D := D) (ci := 6) (v := .ref (ma 2)) (C := RX5) (T := TX5) (N := 29) hx hb hts in_X5_mayGoOn_X5 hown hK hP 2 rfl rfl 2 (by decide) w_1 (fun _ h9 => h9) rfl dX5_mayGoOn_39 ?_
            refine lv_iload_n hx hb dX5_mayGoOn_42 rfl (lv_at hl 2 rfl) ?_
            refine va_iald hx hb hK hP 4 0 rfl rfl (by unfold vp_in; decide) dX5_mayGoOn_43 ?_
            refine lv_topi (fun z_319 ez_319 => ?_)
            have fz_319 : z_319 = 0 := ez_319.trans (rfl)
            subst fz_319
            refine lv_icmp_ne (tgt := 65) hx hb dX5_mayGoOn_44 (by decide) (fun hc => absurd (by decide) hc) (fun _ => ?_)
            refine lv_iload_n hx hb dX5_mayGoOn_47 rfl (lv_at hl 1 rfl) ?_
            refine lv_iload_n hx hb dX5_mayGoOn_48 rfl (lv_at hl 0 rfl) ?_
            refine lv_aload_n hx hb dX5_mayGoOn_49 rfl (lv_at hl 3 rfl) ?_
            refine va_get (D := D) (ci := 6) (v := .ref (ma 7)) (C := RX5) (T := TX5) (N := 29) hx hb hts in_X5_mayGoOn_X5 hown hK hP 2 rfl rfl 7 (by decide) w_2 (fun _ h9 => h9) rfl dX5_mayGoOn_50 ?_
            refine lv_iload_n hx hb dX5_mayGoOn_53 rfl (lv_at hl 2 rfl) ?_
            refine va_iald hx hb hK hP 0 0 rfl rfl (by unfold vp_in; decide) dX5_mayGoOn_54 ?_
            refine lv_topi (fun z_320 ez_320 => ?_)
            have fz_320 : z_320 = 0 := ez_320.trans (rfl)
            subst fz_320
            refine lv_icmp_ne (tgt := 62) hx hb dX5_mayGoOn_55 (by decide) (fun hc => absurd (by decide) hc) (fun _ => ?_)
            refine lv_iconst (v := 3) hx hb dX5_mayGoOn_58 (by decide) ?_
            refine lv_goto (tgt := 63) hx hb dX5_mayGoOn_59 (by decide) ?_
            refine lv_iadd hx hb dX5_mayGoOn_63 ?_
            refine lv_topi (fun z_321 ez_321 => ?_)
            have fz_321 : z_321 = 3 := ez_321.trans (by decide)
            subst fz_321
            refine lv_istore_n (lv' := [(2, .int 3), (3, .int 0), (1, .int 0), (0, .ref mo)]) hx hb dX5_mayGoOn_64 rfl hl (by decide) rfl (fun ls hl => ?_)
            refine lv_iinc (v := 1) (lv' := [(3, .int 1), (2, .int 3), (1, .int 0), (0, .ref mo)]) hx hb dX5_mayGoOn_65 hl (k := 1) rfl (by decide) (by decide) rfl (fun ls hl => ?_)
            refine lv_goto (tgt := 9) hx hb dX5_mayGoOn_68 (by decide) ?_
            refine lv_iload_n hx hb dX5_mayGoOn_9 rfl (lv_at hl 0 rfl) ?_
            refine lv_iconst (v := 5) hx hb dX5_mayGoOn_10 (by decide) ?_
            refine lv_icmp_ge (tgt := 71) hx hb dX5_mayGoOn_11 (by decide) (fun hc => absurd hc (by decide)) (fun _ => ?_)
            refine lv_iload_n hx hb dX5_mayGoOn_14 rfl (lv_at hl 2 rfl) ?_
            refine lv_if_lt (tgt := 71) hx hb dX5_mayGoOn_15 (by decide) (fun hc => absurd hc (by decide)) (fun _ => ?_)
            refine lv_aload_n hx hb dX5_mayGoOn_18 rfl (lv_at hl 3 rfl) ?_
            refine va_get (D := D) (ci := 6) (v := .ref (ma 28)) (C := RX5) (T := TX5) (N := 29) hx hb hts in_X5_mayGoOn_X5 hown hK hP 2 rfl rfl 28 (by decide) w_0 (fun _ h9 => h9) rfl dX5_mayGoOn_19 ?_
            refine lv_iload_n hx hb dX5_mayGoOn_22 rfl (lv_at hl 0 rfl) ?_
            refine va_iald hx hb hK hP 3 0 rfl rfl (by unfold vp_in; decide) dX5_mayGoOn_23 ?_
            refine lv_topi (fun z_322 ez_322 => ?_)
            have fz_322 : z_322 = (-1) := ez_322.trans (by rw [show (1 : Int32).toNatClampNeg = 1 by decide, haf 1 (by decide), hb1] <;> rfl)
            subst fz_322
            refine lv_if_lt (tgt := 65) hx hb dX5_mayGoOn_24 (by decide) (fun _ => ?_) (fun hc => absurd (by decide) hc)
            refine lv_iinc (v := 2) (lv' := [(3, .int 2), (2, .int 3), (1, .int 0), (0, .ref mo)]) hx hb dX5_mayGoOn_65 hl (k := 0) rfl (by decide) (by decide) rfl (fun ls hl => ?_)
            refine lv_goto (tgt := 9) hx hb dX5_mayGoOn_68 (by decide) ?_
            refine lv_iload_n hx hb dX5_mayGoOn_9 rfl (lv_at hl 0 rfl) ?_
            refine lv_iconst (v := 5) hx hb dX5_mayGoOn_10 (by decide) ?_
            refine lv_icmp_ge (tgt := 71) hx hb dX5_mayGoOn_11 (by decide) (fun hc => absurd hc (by decide)) (fun _ => ?_)
            refine lv_iload_n hx hb dX5_mayGoOn_14 rfl (lv_at hl 2 rfl) ?_
            refine lv_if_lt (tgt := 71) hx hb dX5_mayGoOn_15 (by decide) (fun hc => absurd hc (by decide)) (fun _ => ?_)
            refine lv_aload_n hx hb dX5_mayGoOn_18 rfl (lv_at hl 3 rfl) ?_
            refine va_get (D := D) (ci := 6) (v := .ref (ma 28)) (C := RX5) (T := TX5) (N := 29) hx hb hts in_X5_mayGoOn_X5 hown hK hP 2 rfl rfl 28 (by decide) w_0 (fun _ h9 => h9) rfl dX5_mayGoOn_19 ?_
            refine lv_iload_n hx hb dX5_mayGoOn_22 rfl (lv_at hl 0 rfl) ?_
            refine va_iald hx hb hK hP 3 0 rfl rfl (by unfold vp_in; decide) dX5_mayGoOn_23 ?_
            refine lv_topi (fun z_323 ez_323 => ?_)
            have fz_323 : z_323 = (-1) := ez_323.trans (by rw [show (2 : Int32).toNatClampNeg = 2 by decide, haf 2 (by decide), hb2] <;> rfl)
            subst fz_323
            refine lv_if_lt (tgt := 65) hx hb dX5_mayGoOn_24 (by decide) (fun _ => ?_) (fun hc => absurd (by decide) hc)
            refine lv_iinc (v := 3) (lv' := [(3, .int 3), (2, .int 3), (1, .int 0), (0, .ref mo)]) hx hb dX5_mayGoOn_65 hl (k := 0) rfl (by decide) (by decide) rfl (fun ls hl => ?_)
            refine lv_goto (tgt := 9) hx hb dX5_mayGoOn_68 (by decide) ?_
            refine lv_iload_n hx hb dX5_mayGoOn_9 rfl (lv_at hl 0 rfl) ?_
            refine lv_iconst (v := 5) hx hb dX5_mayGoOn_10 (by decide) ?_
            refine lv_icmp_ge (tgt := 71) hx hb dX5_mayGoOn_11 (by decide) (fun hc => absurd hc (by decide)) (fun _ => ?_)
            refine lv_iload_n hx hb dX5_mayGoOn_14 rfl (lv_at hl 2 rfl) ?_
            refine lv_if_lt (tgt := 71) hx hb dX5_mayGoOn_15 (by decide) (fun hc => absurd hc (by decide)) (fun _ => ?_)
            refine lv_aload_n hx hb dX5_mayGoOn_18 rfl (lv_at hl 3 rfl) ?_
            refine va_get (D := D) (ci := 6) (v := .ref (ma 28)) (C := RX5) (T := TX5) (N := 29) hx hb hts in_X5_mayGoOn_X5 hown hK hP 2 rfl rfl 28 (by decide) w_0 (fun _ h9 => h9) rfl dX5_mayGoOn_19 ?_
            refine lv_iload_n hx hb dX5_mayGoOn_22 rfl (lv_at hl 0 rfl) ?_
            refine va_iald hx hb hK hP 3 0 rfl rfl (by unfold vp_in; decide) dX5_mayGoOn_23 ?_
            refine lv_topi (fun z_324 ez_324 => ?_)
            have fz_324 : z_324 = 0 := ez_324.trans (by rw [show (3 : Int32).toNatClampNeg = 3 by decide, haf 3 (by decide), hb3] <;> rfl)
            subst fz_324
            refine lv_if_lt (tgt := 65) hx hb dX5_mayGoOn_24 (by decide) (fun hc => absurd hc (by decide)) (fun _ => ?_)
            refine lv_aload_n hx hb dX5_mayGoOn_27 rfl (lv_at hl 3 rfl) ?_
            refine va_get (D := D) (ci := 6) (v := .ref (ma 2)) (C := RX5) (T := TX5) (N := 29) hx hb hts in_X5_mayGoOn_X5 hown hK hP 2 rfl rfl 2 (by decide) w_1 (fun _ h9 => h9) rfl dX5_mayGoOn_28 ?_
            refine lv_aload_n hx hb dX5_mayGoOn_31 rfl (lv_at hl 3 rfl) ?_
            refine va_get (D := D) (ci := 6) (v := .ref (ma 28)) (C := RX5) (T := TX5) (N := 29) hx hb hts in_X5_mayGoOn_X5 hown hK hP 2 rfl rfl 28 (by decide) w_0 (fun _ h9 => h9) rfl dX5_mayGoOn_32 ?_
            refine lv_iload_n hx hb dX5_mayGoOn_35 rfl (lv_at hl 0 rfl) ?_
            refine va_iald hx hb hK hP 3 0 rfl rfl (by unfold vp_in; decide) dX5_mayGoOn_36 ?_
            refine lv_topi (fun z_325 ez_325 => ?_)
            have fz_325 : z_325 = 0 := ez_325.trans (by rw [show (3 : Int32).toNatClampNeg = 3 by decide, haf 3 (by decide), hb3] <;> rfl)
            subst fz_325
            refine va_iald hx hb hK hP 4 0 rfl rfl (by unfold vp_in; decide) dX5_mayGoOn_37 ?_
            refine lv_topi (fun z_326 ez_326 => ?_)
            have fz_326 : z_326 = 0 := ez_326.trans (rfl)
            subst fz_326
            refine lv_aload_n hx hb dX5_mayGoOn_38 rfl (lv_at hl 3 rfl) ?_
            refine va_get (D := D) (ci := 6) (v := .ref (ma 2)) (C := RX5) (T := TX5) (N := 29) hx hb hts in_X5_mayGoOn_X5 hown hK hP 2 rfl rfl 2 (by decide) w_1 (fun _ h9 => h9) rfl dX5_mayGoOn_39 ?_
            refine lv_iload_n hx hb dX5_mayGoOn_42 rfl (lv_at hl 2 rfl) ?_
            refine va_iald hx hb hK hP 4 0 rfl rfl (by unfold vp_in; decide) dX5_mayGoOn_43 ?_
            refine lv_topi (fun z_327 ez_327 => ?_)
            have fz_327 : z_327 = 0 := ez_327.trans (rfl)
            subst fz_327
            refine lv_icmp_ne (tgt := 65) hx hb dX5_mayGoOn_44 (by decide) (fun hc => absurd (by decide) hc) (fun _ => ?_)
            refine lv_iload_n hx hb dX5_mayGoOn_47 rfl (lv_at hl 1 rfl) ?_
            refine lv_iload_n hx hb dX5_mayGoOn_48 rfl (lv_at hl 0 rfl) ?_
            refine lv_aload_n hx hb dX5_mayGoOn_49 rfl (lv_at hl 3 rfl) ?_
            refine va_get (D := D) (ci := 6) (v := .ref (ma 7)) (C := RX5) (T := TX5) (N := 29) hx hb hts in_X5_mayGoOn_X5 hown hK hP 2 rfl rfl 7 (by decide) w_2 (fun _ h9 => h9) rfl dX5_mayGoOn_50 ?_
            refine lv_iload_n hx hb dX5_mayGoOn_53 rfl (lv_at hl 2 rfl) ?_
            refine va_iald hx hb hK hP 0 0 rfl rfl (by unfold vp_in; decide) dX5_mayGoOn_54 ?_
            refine lv_topi (fun z_328 ez_328 => ?_)
            have fz_328 : z_328 = 0 := ez_328.trans (rfl)
            subst fz_328
            refine lv_icmp_ne (tgt := 62) hx hb dX5_mayGoOn_55 (by decide) (fun _ => ?_) (fun hc => absurd hc (by decide))
            refine lv_iconst (v := 2) hx hb dX5_mayGoOn_62 (by decide) ?_
            refine lv_iadd hx hb dX5_mayGoOn_63 ?_
            refine lv_topi (fun z_329 ez_329 => ?_)
            have fz_329 : z_329 = 5 := ez_329.trans (by decide)
            subst fz_329
            refine lv_istore_n (lv' := [(2, .int 5), (3, .int 3), (1, .int 0), (0, .ref mo)]) hx hb dX5_mayGoOn_64 rfl hl (by decide) rfl (fun ls hl => ?_)
            refine lv_iinc (v := 4) (lv' := [(3, .int 4), (2, .int 5), (1, .int 0), (0, .ref mo)]) hx hb dX5_mayGoOn_65 hl (k := 1) rfl (by decide) (by decide) rfl (fun ls hl => ?_)
            refine lv_goto (tgt := 9) hx hb dX5_mayGoOn_68 (by decide) ?_
            refine lv_iload_n hx hb dX5_mayGoOn_9 rfl (lv_at hl 0 rfl) ?_
            refine lv_iconst (v := 5) hx hb dX5_mayGoOn_10 (by decide) ?_
            refine lv_icmp_ge (tgt := 71) hx hb dX5_mayGoOn_11 (by decide) (fun hc => absurd hc (by decide)) (fun _ => ?_)
            refine lv_iload_n hx hb dX5_mayGoOn_14 rfl (lv_at hl 2 rfl) ?_
            refine lv_if_lt (tgt := 71) hx hb dX5_mayGoOn_15 (by decide) (fun hc => absurd hc (by decide)) (fun _ => ?_)
            refine lv_aload_n hx hb dX5_mayGoOn_18 rfl (lv_at hl 3 rfl) ?_
            refine va_get (D := D) (ci := 6) (v := .ref (ma 28)) (C := RX5) (T := TX5) (N := 29) hx hb hts in_X5_mayGoOn_X5 hown hK hP 2 rfl rfl 28 (by decide) w_0 (fun _ h9 => h9) rfl dX5_mayGoOn_19 ?_
            refine lv_iload_n hx hb dX5_mayGoOn_22 rfl (lv_at hl 0 rfl) ?_
            refine va_iald hx hb hK hP 3 0 rfl rfl (by unfold vp_in; decide) dX5_mayGoOn_23 ?_
            refine lv_topi (fun z_330 ez_330 => ?_)
            have fz_330 : z_330 = (-1) := ez_330.trans (by rw [show (4 : Int32).toNatClampNeg = 4 by decide, haf 4 (by decide), hb4] <;> rfl)
            subst fz_330
            refine lv_if_lt (tgt := 65) hx hb dX5_mayGoOn_24 (by decide) (fun _ => ?_) (fun hc => absurd (by decide) hc)
            refine lv_iinc (v := 5) (lv' := [(3, .int 5), (2, .int 5), (1, .int 0), (0, .ref mo)]) hx hb dX5_mayGoOn_65 hl (k := 0) rfl (by decide) (by decide) rfl (fun ls hl => ?_)
            refine lv_goto (tgt := 9) hx hb dX5_mayGoOn_68 (by decide) ?_
            refine lv_iload_n hx hb dX5_mayGoOn_9 rfl (lv_at hl 0 rfl) ?_
            refine lv_iconst (v := 5) hx hb dX5_mayGoOn_10 (by decide) ?_
            refine lv_icmp_ge (tgt := 71) hx hb dX5_mayGoOn_11 (by decide) (fun _ => ?_) (fun hc => absurd (by decide) hc)
            refine lv_iload_n hx hb dX5_mayGoOn_71 rfl (lv_at hl 2 rfl) ?_
            refine lv_if_lt (tgt := 89) hx hb dX5_mayGoOn_72 (by decide) (fun hc => absurd hc (by decide)) (fun _ => ?_)
            refine lv_iload_n hx hb dX5_mayGoOn_75 rfl (lv_at hl 1 rfl) ?_
            refine lv_aload_n hx hb dX5_mayGoOn_76 rfl (lv_at hl 3 rfl) ?_
            refine va_get (D := D) (ci := 6) (v := .ref (ma 6)) (C := RX5) (T := TX5) (N := 29) hx hb hts in_X5_mayGoOn_X5 hown hK hP 2 rfl rfl 6 (by decide) w_3 (fun _ h9 => h9) rfl dX5_mayGoOn_77 ?_
            refine lv_iload_n hx hb dX5_mayGoOn_80 rfl (lv_at hl 2 rfl) ?_
            refine va_iald hx hb hK hP 1 0 rfl rfl (by unfold vp_in; decide) dX5_mayGoOn_81 ?_
            refine lv_topi (fun z_331 ez_331 => ?_)
            have fz_331 : z_331 = 5 := ez_331.trans (hzf)
            subst fz_331
            refine lv_icmp_le (tgt := 89) hx hb dX5_mayGoOn_82 (by decide) (fun _ => ?_) (fun hc => absurd (by decide) hc)
            refine lv_iconst (v := 0) hx hb dX5_mayGoOn_89 (by decide) ?_
            have hP9 := hP.sub (ws' := [(mo, .inr (6, [.int th, .int 1, .ref (ma 2), .ref (ma 3), .ref (ma 4), .ref (ma 5), .ref (ma 6), .ref (ma 7), .ref (ma 8), .ref (ma 9), .ref (ma 10), .ref (ma 11), .ref (ma 12), .ref (ma 13), .ref (ma 14), .ref (ma 15), .ref (ma 16), .ref (ma 17), .ref (ma 18), .ref (ma 19), .ref (ma 20), .ref (ma 21), .int 0, .ref (ma 23), .ref (ma 24), .ref (ma 25), .ref (ma 26), .ref (ma 27), .ref (ma 28)])), ((ma 28), wI tC 5 af), ((ma 2), wI tC 600 (fun _ => 0)), ((ma 7), wI tC 600 (fun _ => 0)), ((ma 6), wI tC 600 zf)]) [2, 3, 4, 0, 1] rfl
            have hD9 := hD.sub (ws' := [(mo, .inr (6, [.int th, .int 1, .ref (ma 2), .ref (ma 3), .ref (ma 4), .ref (ma 5), .ref (ma 6), .ref (ma 7), .ref (ma 8), .ref (ma 9), .ref (ma 10), .ref (ma 11), .ref (ma 12), .ref (ma 13), .ref (ma 14), .ref (ma 15), .ref (ma 16), .ref (ma 17), .ref (ma 18), .ref (ma 19), .ref (ma 20), .ref (ma 21), .int 0, .ref (ma 23), .ref (ma 24), .ref (ma 25), .ref (ma 26), .ref (ma 27), .ref (ma 28)])), ((ma 28), wI tC 5 af), ((ma 2), wI tC 600 (fun _ => 0)), ((ma 7), wI tC 600 (fun _ => 0)), ((ma 6), wI tC 600 zf)]) [2, 3, 4, 0, 1] (by decide) rfl
            refine W.widen (k := 0) (n := 0) (by omega) (by omega) ?_
            exact W.zret (v := 0) hx hb hr (by decide) (fun t ht hW => ⟨⟨0, (), rfl, (by unfold mayg cntb; rw [hb0, hb1, hb2, hb3, hb4] <;> decide), (by rw [ht]; exact hP9), va_K.moved hW.alike hK, hD9⟩, hS.F ht⟩) hS.2.2 dX5_mayGoOn_90 hlocks
          · skip
            refine lv_aload_n hx hb dX5_mayGoOn_0 rfl (lv_at hl 0 rfl) ?_
            have hPc := hP.sub (ws' := [(mo, .inr (6, [.int th, .int 1, .ref (ma 2), .ref (ma 3), .ref (ma 4), .ref (ma 5), .ref (ma 6), .ref (ma 7), .ref (ma 8), .ref (ma 9), .ref (ma 10), .ref (ma 11), .ref (ma 12), .ref (ma 13), .ref (ma 14), .ref (ma 15), .ref (ma 16), .ref (ma 17), .ref (ma 18), .ref (ma 19), .ref (ma 20), .ref (ma 21), .int 0, .ref (ma 23), .ref (ma 24), .ref (ma 25), .ref (ma 26), .ref (ma 27), .ref (ma 28)])), ((ma 28), wI tC 5 af), ((ma 2), wI tC 600 (fun _ => 0))]) [0, 1, 2] rfl
            have hDc := hD.sub (ws' := [(mo, .inr (6, [.int th, .int 1, .ref (ma 2), .ref (ma 3), .ref (ma 4), .ref (ma 5), .ref (ma 6), .ref (ma 7), .ref (ma 8), .ref (ma 9), .ref (ma 10), .ref (ma 11), .ref (ma 12), .ref (ma 13), .ref (ma 14), .ref (ma 15), .ref (ma 16), .ref (ma 17), .ref (ma 18), .ref (ma 19), .ref (ma 20), .ref (ma 21), .int 0, .ref (ma 23), .ref (ma 24), .ref (ma 25), .ref (ma 26), .ref (ma 27), .ref (ma 28)])), ((ma 28), wI tC 5 af), ((ma 2), wI tC 600 (fun _ => 0))]) [0, 1, 2] (by decide) rfl
            have hFc := va_free (wc := [(mo, .inr (6, [.int th, .int 1, .ref (ma 2), .ref (ma 3), .ref (ma 4), .ref (ma 5), .ref (ma 6), .ref (ma 7), .ref (ma 8), .ref (ma 9), .ref (ma 10), .ref (ma 11), .ref (ma 12), .ref (ma 13), .ref (ma 14), .ref (ma 15), .ref (ma 16), .ref (ma 17), .ref (ma 18), .ref (ma 19), .ref (ma 20), .ref (ma 21), .int 0, .ref (ma 23), .ref (ma 24), .ref (ma 25), .ref (ma 26), .ref (ma 27), .ref (ma 28)])), ((ma 28), wI tC 5 af), ((ma 2), wI tC 600 (fun _ => 0))]) hD hS hA [0, 1, 2] rfl
            refine va_calli (va_runV (As := []) (rest := []) ⟨hx, hb, hml, hown, hts⟩ (c_X5_greatest l hlt D tC dz s.heap.size mo ma th af bt haf) (cwV 0 hts gX5_mayGoOn_X5_greatest rfl rfl rfl (by decide +kernel) ⟨Nat.le_of_ble_eq_true rfl, Nat.le_of_ble_eq_true rfl⟩) ⟨pB_blind, va_recv hK hPc (ci := 6) (q0 := 0) rfl rfl, pB_at hPc hDc hK hN hE hS hFc⟩ rfl rfl hl.1 rfl (lv_room (Nat.le_of_ble_eq_true rfl)) dX5_mayGoOn_1 ⟨Nat.le_of_ble_eq_true rfl, Nat.le_of_ble_eq_true rfl⟩) hS (fun q _ h => hFc q h) hFc (fun r_332 u t H1 locs ht hvm hw hB hz1 hk1 hS => ?_)
            obtain ⟨hP1, _, hD1⟩ := hB
            have hw_333 := hw
            rw [ht] at hP1
            obtain ⟨hP, hD⟩ := va_join (wr := [((ma 7), wI tC 600 (fun _ => 0)), ((ma 6), wI tC 600 zf)]) (w1 := [(mo, .inr (6, [.int th, .int 1, .ref (ma 2), .ref (ma 3), .ref (ma 4), .ref (ma 5), .ref (ma 6), .ref (ma 7), .ref (ma 8), .ref (ma 9), .ref (ma 10), .ref (ma 11), .ref (ma 12), .ref (ma 13), .ref (ma 14), .ref (ma 15), .ref (ma 16), .ref (ma 17), .ref (ma 18), .ref (ma 19), .ref (ma 20), .ref (ma 21), .int 0, .ref (ma 23), .ref (ma 24), .ref (ma 25), .ref (ma 26), .ref (ma 27), .ref (ma 28)])), ((ma 28), wI tC 5 af), ((ma 2), wI tC 600 (fun _ => 0))]) hP hD [0, 1, 2] [3, 4] rfl rfl (by decide) (by decide) hk1 hFc hP1 hD1
            generalize H1 = H at hP hS ⊢
            have hP : va_P D vwCl [((ma 7), wI tC 600 (fun _ => 0)), ((ma 6), wI tC 600 zf), (mo, .inr (6, [.int th, .int 1, .ref (ma 2), .ref (ma 3), .ref (ma 4), .ref (ma 5), .ref (ma 6), .ref (ma 7), .ref (ma 8), .ref (ma 9), .ref (ma 10), .ref (ma 11), .ref (ma 12), .ref (ma 13), .ref (ma 14), .ref (ma 15), .ref (ma 16), .ref (ma 17), .ref (ma 18), .ref (ma 19), .ref (ma 20), .ref (ma 21), .int 0, .ref (ma 23), .ref (ma 24), .ref (ma 25), .ref (ma 26), .ref (ma 27), .ref (ma 28)])), ((ma 28), wI tC 5 af), ((ma 2), wI tC 600 (fun _ => 0))] H := hP
            have hD : va_D A [((ma 7), wI tC 600 (fun _ => 0)), ((ma 6), wI tC 600 zf), (mo, .inr (6, [.int th, .int 1, .ref (ma 2), .ref (ma 3), .ref (ma 4), .ref (ma 5), .ref (ma 6), .ref (ma 7), .ref (ma 8), .ref (ma 9), .ref (ma 10), .ref (ma 11), .ref (ma 12), .ref (ma 13), .ref (ma 14), .ref (ma 15), .ref (ma 16), .ref (ma 17), .ref (ma 18), .ref (ma 19), .ref (ma 20), .ref (ma 21), .int 0, .ref (ma 23), .ref (ma 24), .ref (ma 25), .ref (ma 26), .ref (ma 27), .ref (ma 28)])), ((ma 28), wI tC 5 af), ((ma 2), wI tC 600 (fun _ => 0))] := hD
            have q1 : r_332 = 0 := hw_333.trans (by rw [hb0, hb1, hb2, hb3, hb4] <;> rfl)
            subst q1
            refine lv_istore_n (lv' := [(1, .int 0), (0, .ref mo)]) hx hb dX5_mayGoOn_4 rfl hl (by decide) rfl (fun ls hl => ?_)
            refine lv_iconst (v := 0) hx hb dX5_mayGoOn_5 (by decide) ?_
            refine lv_istore_n (lv' := [(2, .int 0), (1, .int 0), (0, .ref mo)]) hx hb dX5_mayGoOn_6 rfl hl (by decide) rfl (fun ls hl => ?_)
            refine lv_iconst (v := 0) hx hb dX5_mayGoOn_7 (by decide) ?_
            refine lv_istore_n (lv' := [(3, .int 0), (2, .int 0), (1, .int 0), (0, .ref mo)]) hx hb dX5_mayGoOn_8 rfl hl (by decide) rfl (fun ls hl => ?_)
            refine lv_iload_n hx hb dX5_mayGoOn_9 rfl (lv_at hl 0 rfl) ?_
            refine lv_iconst (v := 5) hx hb dX5_mayGoOn_10 (by decide) ?_
            refine lv_icmp_ge (tgt := 71) hx hb dX5_mayGoOn_11 (by decide) (fun hc => absurd hc (by decide)) (fun _ => ?_)
            refine lv_iload_n hx hb dX5_mayGoOn_14 rfl (lv_at hl 2 rfl) ?_
            refine lv_if_lt (tgt := 71) hx hb dX5_mayGoOn_15 (by decide) (fun hc => absurd hc (by decide)) (fun _ => ?_)
            refine lv_aload_n hx hb dX5_mayGoOn_18 rfl (lv_at hl 3 rfl) ?_
            refine va_get (D := D) (ci := 6) (v := .ref (ma 28)) (C := RX5) (T := TX5) (N := 29) hx hb hts in_X5_mayGoOn_X5 hown hK hP 2 rfl rfl 28 (by decide) w_0 (fun _ h9 => h9) rfl dX5_mayGoOn_19 ?_
            refine lv_iload_n hx hb dX5_mayGoOn_22 rfl (lv_at hl 0 rfl) ?_
            refine va_iald hx hb hK hP 3 0 rfl rfl (by unfold vp_in; decide) dX5_mayGoOn_23 ?_
            refine lv_topi (fun z_334 ez_334 => ?_)
            have fz_334 : z_334 = 0 := ez_334.trans (by rw [show (0 : Int32).toNatClampNeg = 0 by decide, haf 0 (by decide), hb0] <;> rfl)
            subst fz_334
            refine lv_if_lt (tgt := 65) hx hb dX5_mayGoOn_24 (by decide) (fun hc => absurd hc (by decide)) (fun _ => ?_)
            refine lv_aload_n hx hb dX5_mayGoOn_27 rfl (lv_at hl 3 rfl) ?_
            refine va_get (D := D) (ci := 6) (v := .ref (ma 2)) (C := RX5) (T := TX5) (N := 29) hx hb hts in_X5_mayGoOn_X5 hown hK hP 2 rfl rfl 2 (by decide) w_1 (fun _ h9 => h9) rfl dX5_mayGoOn_28 ?_
            refine lv_aload_n hx hb dX5_mayGoOn_31 rfl (lv_at hl 3 rfl) ?_
            refine va_get (D := D) (ci := 6) (v := .ref (ma 28)) (C := RX5) (T := TX5) (N := 29) hx hb hts in_X5_mayGoOn_X5 hown hK hP 2 rfl rfl 28 (by decide) w_0 (fun _ h9 => h9) rfl dX5_mayGoOn_32 ?_
            refine lv_iload_n hx hb dX5_mayGoOn_35 rfl (lv_at hl 0 rfl) ?_
            refine va_iald hx hb hK hP 3 0 rfl rfl (by unfold vp_in; decide) dX5_mayGoOn_36 ?_
            refine lv_topi (fun z_335 ez_335 => ?_)
            have fz_335 : z_335 = 0 := ez_335.trans (by rw [show (0 : Int32).toNatClampNeg = 0 by decide, haf 0 (by decide), hb0] <;> rfl)
            subst fz_335
            refine va_iald hx hb hK hP 4 0 rfl rfl (by unfold vp_in; decide) dX5_mayGoOn_37 ?_
            refine lv_topi (fun z_336 ez_336 => ?_)
            have fz_336 : z_336 = 0 := ez_336.trans (rfl)
            subst fz_336
            refine lv_aload_n hx hb dX5_mayGoOn_38 rfl (lv_at hl 3 rfl) ?_
            refine va_get (D := D) (ci := 6) (v := .ref (ma 2)) (C := RX5) (T := TX5) (N := 29) hx hb hts in_X5_mayGoOn_X5 hown hK hP 2 rfl rfl 2 (by decide) w_1 (fun _ h9 => h9) rfl dX5_mayGoOn_39 ?_
            refine lv_iload_n hx hb dX5_mayGoOn_42 rfl (lv_at hl 2 rfl) ?_
            refine va_iald hx hb hK hP 4 0 rfl rfl (by unfold vp_in; decide) dX5_mayGoOn_43 ?_
            refine lv_topi (fun z_337 ez_337 => ?_)
            have fz_337 : z_337 = 0 := ez_337.trans (rfl)
            subst fz_337
            refine lv_icmp_ne (tgt := 65) hx hb dX5_mayGoOn_44 (by decide) (fun hc => absurd (by decide) hc) (fun _ => ?_)
            refine lv_iload_n hx hb dX5_mayGoOn_47 rfl (lv_at hl 1 rfl) ?_
            refine lv_iload_n hx hb dX5_mayGoOn_48 rfl (lv_at hl 0 rfl) ?_
            refine lv_aload_n hx hb dX5_mayGoOn_49 rfl (lv_at hl 3 rfl) ?_
            refine va_get (D := D) (ci := 6) (v := .ref (ma 7)) (C := RX5) (T := TX5) (N := 29) hx hb hts in_X5_mayGoOn_X5 hown hK hP 2 rfl rfl 7 (by decide) w_2 (fun _ h9 => h9) rfl dX5_mayGoOn_50 ?_
            refine lv_iload_n hx hb dX5_mayGoOn_53 rfl (lv_at hl 2 rfl) ?_
            refine va_iald hx hb hK hP 0 0 rfl rfl (by unfold vp_in; decide) dX5_mayGoOn_54 ?_
            refine lv_topi (fun z_338 ez_338 => ?_)
            have fz_338 : z_338 = 0 := ez_338.trans (rfl)
            subst fz_338
            refine lv_icmp_ne (tgt := 62) hx hb dX5_mayGoOn_55 (by decide) (fun hc => absurd (by decide) hc) (fun _ => ?_)
            refine lv_iconst (v := 3) hx hb dX5_mayGoOn_58 (by decide) ?_
            refine lv_goto (tgt := 63) hx hb dX5_mayGoOn_59 (by decide) ?_
            refine lv_iadd hx hb dX5_mayGoOn_63 ?_
            refine lv_topi (fun z_339 ez_339 => ?_)
            have fz_339 : z_339 = 3 := ez_339.trans (by decide)
            subst fz_339
            refine lv_istore_n (lv' := [(2, .int 3), (3, .int 0), (1, .int 0), (0, .ref mo)]) hx hb dX5_mayGoOn_64 rfl hl (by decide) rfl (fun ls hl => ?_)
            refine lv_iinc (v := 1) (lv' := [(3, .int 1), (2, .int 3), (1, .int 0), (0, .ref mo)]) hx hb dX5_mayGoOn_65 hl (k := 1) rfl (by decide) (by decide) rfl (fun ls hl => ?_)
            refine lv_goto (tgt := 9) hx hb dX5_mayGoOn_68 (by decide) ?_
            refine lv_iload_n hx hb dX5_mayGoOn_9 rfl (lv_at hl 0 rfl) ?_
            refine lv_iconst (v := 5) hx hb dX5_mayGoOn_10 (by decide) ?_
            refine lv_icmp_ge (tgt := 71) hx hb dX5_mayGoOn_11 (by decide) (fun hc => absurd hc (by decide)) (fun _ => ?_)
            refine lv_iload_n hx hb dX5_mayGoOn_14 rfl (lv_at hl 2 rfl) ?_
            refine lv_if_lt (tgt := 71) hx hb dX5_mayGoOn_15 (by decide) (fun hc => absurd hc (by decide)) (fun _ => ?_)
            refine lv_aload_n hx hb dX5_mayGoOn_18 rfl (lv_at hl 3 rfl) ?_
            refine va_get (D := D) (ci := 6) (v := .ref (ma 28)) (C := RX5) (T := TX5) (N := 29) hx hb hts in_X5_mayGoOn_X5 hown hK hP 2 rfl rfl 28 (by decide) w_0 (fun _ h9 => h9) rfl dX5_mayGoOn_19 ?_
            refine lv_iload_n hx hb dX5_mayGoOn_22 rfl (lv_at hl 0 rfl) ?_
            refine va_iald hx hb hK hP 3 0 rfl rfl (by unfold vp_in; decide) dX5_mayGoOn_23 ?_
            refine lv_topi (fun z_340 ez_340 => ?_)
            have fz_340 : z_340 = (-1) := ez_340.trans (by rw [show (1 : Int32).toNatClampNeg = 1 by decide, haf 1 (by decide), hb1] <;> rfl)
            subst fz_340
            refine lv_if_lt (tgt := 65) hx hb dX5_mayGoOn_24 (by decide) (fun _ => ?_) (fun hc => absurd (by decide) hc)
            refine lv_iinc (v := 2) (lv' := [(3, .int 2), (2, .int 3), (1, .int 0), (0, .ref mo)]) hx hb dX5_mayGoOn_65 hl (k := 0) rfl (by decide) (by decide) rfl (fun ls hl => ?_)
            refine lv_goto (tgt := 9) hx hb dX5_mayGoOn_68 (by decide) ?_
            refine lv_iload_n hx hb dX5_mayGoOn_9 rfl (lv_at hl 0 rfl) ?_
            refine lv_iconst (v := 5) hx hb dX5_mayGoOn_10 (by decide) ?_
            refine lv_icmp_ge (tgt := 71) hx hb dX5_mayGoOn_11 (by decide) (fun hc => absurd hc (by decide)) (fun _ => ?_)
            refine lv_iload_n hx hb dX5_mayGoOn_14 rfl (lv_at hl 2 rfl) ?_
            refine lv_if_lt (tgt := 71) hx hb dX5_mayGoOn_15 (by decide) (fun hc => absurd hc (by decide)) (fun _ => ?_)
            refine lv_aload_n hx hb dX5_mayGoOn_18 rfl (lv_at hl 3 rfl) ?_
            refine va_get (D := D) (ci := 6) (v := .ref (ma 28)) (C := RX5) (T := TX5) (N := 29) hx hb hts in_X5_mayGoOn_X5 hown hK hP 2 rfl rfl 28 (by decide) w_0 (fun _ h9 => h9) rfl dX5_mayGoOn_19 ?_
            refine lv_iload_n hx hb dX5_mayGoOn_22 rfl (lv_at hl 0 rfl) ?_
            refine va_iald hx hb hK hP 3 0 rfl rfl (by unfold vp_in; decide) dX5_mayGoOn_23 ?_
            refine lv_topi (fun z_341 ez_341 => ?_)
            have fz_341 : z_341 = (-1) := ez_341.trans (by rw [show (2 : Int32).toNatClampNeg = 2 by decide, haf 2 (by decide), hb2] <;> rfl)
            subst fz_341
            refine lv_if_lt (tgt := 65) hx hb dX5_mayGoOn_24 (by decide) (fun _ => ?_) (fun hc => absurd (by decide) hc)
            refine lv_iinc (v := 3) (lv' := [(3, .int 3), (2, .int 3), (1, .int 0), (0, .ref mo)]) hx hb dX5_mayGoOn_65 hl (k := 0) rfl (by decide) (by decide) rfl (fun ls hl => ?_)
            refine lv_goto (tgt := 9) hx hb dX5_mayGoOn_68 (by decide) ?_
            refine lv_iload_n hx hb dX5_mayGoOn_9 rfl (lv_at hl 0 rfl) ?_
            refine lv_iconst (v := 5) hx hb dX5_mayGoOn_10 (by decide) ?_
            refine lv_icmp_ge (tgt := 71) hx hb dX5_mayGoOn_11 (by decide) (fun hc => absurd hc (by decide)) (fun _ => ?_)
            refine lv_iload_n hx hb dX5_mayGoOn_14 rfl (lv_at hl 2 rfl) ?_
            refine lv_if_lt (tgt := 71) hx hb dX5_mayGoOn_15 (by decide) (fun hc => absurd hc (by decide)) (fun _ => ?_)
            refine lv_aload_n hx hb dX5_mayGoOn_18 rfl (lv_at hl 3 rfl) ?_
            refine va_get (D := D) (ci := 6) (v := .ref (ma 28)) (C := RX5) (T := TX5) (N := 29) hx hb hts in_X5_mayGoOn_X5 hown hK hP 2 rfl rfl 28 (by decide) w_0 (fun _ h9 => h9) rfl dX5_mayGoOn_19 ?_
            refine lv_iload_n hx hb dX5_mayGoOn_22 rfl (lv_at hl 0 rfl) ?_
            refine va_iald hx hb hK hP 3 0 rfl rfl (by unfold vp_in; decide) dX5_mayGoOn_23 ?_
            refine lv_topi (fun z_342 ez_342 => ?_)
            have fz_342 : z_342 = 0 := ez_342.trans (by rw [show (3 : Int32).toNatClampNeg = 3 by decide, haf 3 (by decide), hb3] <;> rfl)
            subst fz_342
            refine lv_if_lt (tgt := 65) hx hb dX5_mayGoOn_24 (by decide) (fun hc => absurd hc (by decide)) (fun _ => ?_)
            refine lv_aload_n hx hb dX5_mayGoOn_27 rfl (lv_at hl 3 rfl) ?_
            refine va_get (D := D) (ci := 6) (v := .ref (ma 2)) (C := RX5) (T := TX5) (N := 29) hx hb hts in_X5_mayGoOn_X5 hown hK hP 2 rfl rfl 2 (by decide) w_1 (fun _ h9 => h9) rfl dX5_mayGoOn_28 ?_
            refine lv_aload_n hx hb dX5_mayGoOn_31 rfl (lv_at hl 3 rfl) ?_
            refine va_get (D := D) (ci := 6) (v := .ref (ma 28)) (C := RX5) (T := TX5) (N := 29) hx hb hts in_X5_mayGoOn_X5 hown hK hP 2 rfl rfl 28 (by decide) w_0 (fun _ h9 => h9) rfl dX5_mayGoOn_32 ?_
            refine lv_iload_n hx hb dX5_mayGoOn_35 rfl (lv_at hl 0 rfl) ?_
            refine va_iald hx hb hK hP 3 0 rfl rfl (by unfold vp_in; decide) dX5_mayGoOn_36 ?_
            refine lv_topi (fun z_343 ez_343 => ?_)
            have fz_343 : z_343 = 0 := ez_343.trans (by rw [show (3 : Int32).toNatClampNeg = 3 by decide, haf 3 (by decide), hb3] <;> rfl)
            subst fz_343
            refine va_iald hx hb hK hP 4 0 rfl rfl (by unfold vp_in; decide) dX5_mayGoOn_37 ?_
            refine lv_topi (fun z_344 ez_344 => ?_)
            have fz_344 : z_344 = 0 := ez_344.trans (rfl)
            subst fz_344
            refine lv_aload_n hx hb dX5_mayGoOn_38 rfl (lv_at hl 3 rfl) ?_
            refine va_get (D := D) (ci := 6) (v := .ref (ma 2)) (C := RX5) (T := TX5) (N := 29) hx hb hts in_X5_mayGoOn_X5 hown hK hP 2 rfl rfl 2 (by decide) w_1 (fun _ h9 => h9) rfl dX5_mayGoOn_39 ?_
            refine lv_iload_n hx hb dX5_mayGoOn_42 rfl (lv_at hl 2 rfl) ?_
            refine va_iald hx hb hK hP 4 0 rfl rfl (by unfold vp_in; decide) dX5_mayGoOn_43 ?_
            refine lv_topi (fun z_345 ez_345 => ?_)
            have fz_345 : z_345 = 0 := ez_345.trans (rfl)
            subst fz_345
            refine lv_icmp_ne (tgt := 65) hx hb dX5_mayGoOn_44 (by decide) (fun hc => absurd (by decide) hc) (fun _ => ?_)
            refine lv_iload_n hx hb dX5_mayGoOn_47 rfl (lv_at hl 1 rfl) ?_
            refine lv_iload_n hx hb dX5_mayGoOn_48 rfl (lv_at hl 0 rfl) ?_
            refine lv_aload_n hx hb dX5_mayGoOn_49 rfl (lv_at hl 3 rfl) ?_
            refine va_get (D := D) (ci := 6) (v := .ref (ma 7)) (C := RX5) (T := TX5) (N := 29) hx hb hts in_X5_mayGoOn_X5 hown hK hP 2 rfl rfl 7 (by decide) w_2 (fun _ h9 => h9) rfl dX5_mayGoOn_50 ?_
            refine lv_iload_n hx hb dX5_mayGoOn_53 rfl (lv_at hl 2 rfl) ?_
            refine va_iald hx hb hK hP 0 0 rfl rfl (by unfold vp_in; decide) dX5_mayGoOn_54 ?_
            refine lv_topi (fun z_346 ez_346 => ?_)
            have fz_346 : z_346 = 0 := ez_346.trans (rfl)
            subst fz_346
            refine lv_icmp_ne (tgt := 62) hx hb dX5_mayGoOn_55 (by decide) (fun _ => ?_) (fun hc => absurd hc (by decide))
            refine lv_iconst (v := 2) hx hb dX5_mayGoOn_62 (by decide) ?_
            refine lv_iadd hx hb dX5_mayGoOn_63 ?_
            refine lv_topi (fun z_347 ez_347 => ?_)
            have fz_347 : z_347 = 5 := ez_347.trans (by decide)
            subst fz_347
            refine lv_istore_n (lv' := [(2, .int 5), (3, .int 3), (1, .int 0), (0, .ref mo)]) hx hb dX5_mayGoOn_64 rfl hl (by decide) rfl (fun ls hl => ?_)
            refine lv_iinc (v := 4) (lv' := [(3, .int 4), (2, .int 5), (1, .int 0), (0, .ref mo)]) hx hb dX5_mayGoOn_65 hl (k := 1) rfl (by decide) (by decide) rfl (fun ls hl => ?_)
            refine lv_goto (tgt := 9) hx hb dX5_mayGoOn_68 (by decide) ?_
            refine lv_iload_n hx hb dX5_mayGoOn_9 rfl (lv_at hl 0 rfl) ?_
            refine lv_iconst (v := 5) hx hb dX5_mayGoOn_10 (by decide) ?_
            refine lv_icmp_ge (tgt := 71) hx hb dX5_mayGoOn_11 (by decide) (fun hc => absurd hc (by decide)) (fun _ => ?_)
            refine lv_iload_n hx hb dX5_mayGoOn_14 rfl (lv_at hl 2 rfl) ?_
            refine lv_if_lt (tgt := 71) hx hb dX5_mayGoOn_15 (by decide) (fun hc => absurd hc (by decide)) (fun _ => ?_)
            refine lv_aload_n hx hb dX5_mayGoOn_18 rfl (lv_at hl 3 rfl) ?_
            refine va_get (D := D) (ci := 6) (v := .ref (ma 28)) (C := RX5) (T := TX5) (N := 29) hx hb hts in_X5_mayGoOn_X5 hown hK hP 2 rfl rfl 28 (by decide) w_0 (fun _ h9 => h9) rfl dX5_mayGoOn_19 ?_
            refine lv_iload_n hx hb dX5_mayGoOn_22 rfl (lv_at hl 0 rfl) ?_
            refine va_iald hx hb hK hP 3 0 rfl rfl (by unfold vp_in; decide) dX5_mayGoOn_23 ?_
            refine lv_topi (fun z_348 ez_348 => ?_)
            have fz_348 : z_348 = 0 := ez_348.trans (by rw [show (4 : Int32).toNatClampNeg = 4 by decide, haf 4 (by decide), hb4] <;> rfl)
            subst fz_348
            refine lv_if_lt (tgt := 65) hx hb dX5_mayGoOn_24 (by decide) (fun hc => absurd hc (by decide)) (fun _ => ?_)
            refine lv_aload_n hx hb dX5_mayGoOn_27 rfl (lv_at hl 3 rfl) ?_
            refine va_get (D := D) (ci := 6) (v := .ref (ma 2)) (C := RX5) (T := TX5) (N := 29) hx hb hts in_X5_mayGoOn_X5 hown hK hP 2 rfl rfl 2 (by decide) w_1 (fun _ h9 => h9) rfl dX5_mayGoOn_28 ?_
            refine lv_aload_n hx hb dX5_mayGoOn_31 rfl (lv_at hl 3 rfl) ?_
            refine va_get (D := D) (ci := 6) (v := .ref (ma 28)) (C := RX5) (T := TX5) (N := 29) hx hb hts in_X5_mayGoOn_X5 hown hK hP 2 rfl rfl 28 (by decide) w_0 (fun _ h9 => h9) rfl dX5_mayGoOn_32 ?_
            refine lv_iload_n hx hb dX5_mayGoOn_35 rfl (lv_at hl 0 rfl) ?_
            refine va_iald hx hb hK hP 3 0 rfl rfl (by unfold vp_in; decide) dX5_mayGoOn_36 ?_
            refine lv_topi (fun z_349 ez_349 => ?_)
            have fz_349 : z_349 = 0 := ez_349.trans (by rw [show (4 : Int32).toNatClampNeg = 4 by decide, haf 4 (by decide), hb4] <;> rfl)
            subst fz_349
            refine va_iald hx hb hK hP 4 0 rfl rfl (by unfold vp_in; decide) dX5_mayGoOn_37 ?_
            refine lv_topi (fun z_350 ez_350 => ?_)
            have fz_350 : z_350 = 0 := ez_350.trans (rfl)
            subst fz_350
            refine lv_aload_n hx hb dX5_mayGoOn_38 rfl (lv_at hl 3 rfl) ?_
            refine va_get (D := D) (ci := 6) (v := .ref (ma 2)) (C := RX5) (T := TX5) (N := 29) hx hb hts in_X5_mayGoOn_X5 hown hK hP 2 rfl rfl 2 (by decide) w_1 (fun _ h9 => h9) rfl dX5_mayGoOn_39 ?_
            refine lv_iload_n hx hb dX5_mayGoOn_42 rfl (lv_at hl 2 rfl) ?_
            refine va_iald hx hb hK hP 4 0 rfl rfl (by unfold vp_in; decide) dX5_mayGoOn_43 ?_
            refine lv_topi (fun z_351 ez_351 => ?_)
            have fz_351 : z_351 = 0 := ez_351.trans (rfl)
            subst fz_351
            refine lv_icmp_ne (tgt := 65) hx hb dX5_mayGoOn_44 (by decide) (fun hc => absurd (by decide) hc) (fun _ => ?_)
            refine lv_iload_n hx hb dX5_mayGoOn_47 rfl (lv_at hl 1 rfl) ?_
            refine lv_iload_n hx hb dX5_mayGoOn_48 rfl (lv_at hl 0 rfl) ?_
            refine lv_aload_n hx hb dX5_mayGoOn_49 rfl (lv_at hl 3 rfl) ?_
            refine va_get (D := D) (ci := 6) (v := .ref (ma 7)) (C := RX5) (T := TX5) (N := 29) hx hb hts in_X5_mayGoOn_X5 hown hK hP 2 rfl rfl 7 (by decide) w_2 (fun _ h9 => h9) rfl dX5_mayGoOn_50 ?_
            refine lv_iload_n hx hb dX5_mayGoOn_53 rfl (lv_at hl 2 rfl) ?_
            refine va_iald hx hb hK hP 0 0 rfl rfl (by unfold vp_in; decide) dX5_mayGoOn_54 ?_
            refine lv_topi (fun z_352 ez_352 => ?_)
            have fz_352 : z_352 = 0 := ez_352.trans (rfl)
            subst fz_352
            refine lv_icmp_ne (tgt := 62) hx hb dX5_mayGoOn_55 (by decide) (fun _ => ?_) (fun hc => absurd hc (by decide))
            refine lv_iconst (v := 2) hx hb dX5_mayGoOn_62 (by decide) ?_
            refine lv_iadd hx hb dX5_mayGoOn_63 ?_
            refine lv_topi (fun z_353 ez_353 => ?_)
            have fz_353 : z_353 = 7 := ez_353.trans (by decide)
            subst fz_353
            refine lv_istore_n (lv' := [(2, .int 7), (3, .int 4), (1, .int 0), (0, .ref mo)]) hx hb dX5_mayGoOn_64 rfl hl (by decide) rfl (fun ls hl => ?_)
            refine lv_iinc (v := 5) (lv' := [(3, .int 5), (2, .int 7), (1, .int 0), (0, .ref mo)]) hx hb dX5_mayGoOn_65 hl (k := 1) rfl (by decide) (by decide) rfl (fun ls hl => ?_)
            refine lv_goto (tgt := 9) hx hb dX5_mayGoOn_68 (by decide) ?_
            refine lv_iload_n hx hb dX5_mayGoOn_9 rfl (lv_at hl 0 rfl) ?_
            refine lv_iconst (v := 5) hx hb dX5_mayGoOn_10 (by decide) ?_
            refine lv_icmp_ge (tgt := 71) hx hb dX5_mayGoOn_11 (by decide) (fun _ => ?_) (fun hc => absurd (by decide) hc)
            refine lv_iload_n hx hb dX5_mayGoOn_71 rfl (lv_at hl 2 rfl) ?_
            refine lv_if_lt (tgt := 89) hx hb dX5_mayGoOn_72 (by decide) (fun hc => absurd hc (by decide)) (fun _ => ?_)
            refine lv_iload_n hx hb dX5_mayGoOn_75 rfl (lv_at hl 1 rfl) ?_
            refine lv_aload_n hx hb dX5_mayGoOn_76 rfl (lv_at hl 3 rfl) ?_
            refine va_get (D := D) (ci := 6) (v := .ref (ma 6)) (C := RX5) (T := TX5) (N := 29) hx hb hts in_X5_mayGoOn_X5 hown hK hP 2 rfl rfl 6 (by decide) w_3 (fun _ h9 => h9) rfl dX5_mayGoOn_77 ?_
            refine lv_iload_n hx hb dX5_mayGoOn_80 rfl (lv_at hl 2 rfl) ?_
            refine va_iald hx hb hK hP 1 0 rfl rfl (by unfold vp_in; decide) dX5_mayGoOn_81 ?_
            refine lv_topi (fun z_354 ez_354 => ?_)
            have fz_354 : z_354 = 5 := ez_354.trans (hzf)
            subst fz_354
            refine lv_icmp_le (tgt := 89) hx hb dX5_mayGoOn_82 (by decide) (fun hc => absurd hc (by decide)) (fun _ => ?_)
            refine lv_iconst (v := 1) hx hb dX5_mayGoOn_85 (by decide) ?_
            refine lv_goto (tgt := 90) hx hb dX5_mayGoOn_86 (by decide) ?_
            have hP9 := hP.sub (ws' := [(mo, .inr (6, [.int th, .int 1, .ref (ma 2), .ref (ma 3), .ref (ma 4), .ref (ma 5), .ref (ma 6), .ref (ma 7), .ref (ma 8), .ref (ma 9), .ref (ma 10), .ref (ma 11), .ref (ma 12), .ref (ma 13), .ref (ma 14), .ref (ma 15), .ref (ma 16), .ref (ma 17), .ref (ma 18), .ref (ma 19), .ref (ma 20), .ref (ma 21), .int 0, .ref (ma 23), .ref (ma 24), .ref (ma 25), .ref (ma 26), .ref (ma 27), .ref (ma 28)])), ((ma 28), wI tC 5 af), ((ma 2), wI tC 600 (fun _ => 0)), ((ma 7), wI tC 600 (fun _ => 0)), ((ma 6), wI tC 600 zf)]) [2, 3, 4, 0, 1] rfl
            have hD9 := hD.sub (ws' := [(mo, .inr (6, [.int th, .int 1, .ref (ma 2), .ref (ma 3), .ref (ma 4), .ref (ma 5), .ref (ma 6), .ref (ma 7), .ref (ma 8), .ref (ma 9), .ref (ma 10), .ref (ma 11), .ref (ma 12), .ref (ma 13), .ref (ma 14), .ref (ma 15), .ref (ma 16), .ref (ma 17), .ref (ma 18), .ref (ma 19), .ref (ma 20), .ref (ma 21), .int 0, .ref (ma 23), .ref (ma 24), .ref (ma 25), .ref (ma 26), .ref (ma 27), .ref (ma 28)])), ((ma 28), wI tC 5 af), ((ma 2), wI tC 600 (fun _ => 0)), ((ma 7), wI tC 600 (fun _ => 0)), ((ma 6), wI tC 600 zf)]) [2, 3, 4, 0, 1] (by decide) rfl
            refine W.widen (k := 0) (n := 0) (by omega) (by omega) ?_
            exact W.zret (v := 1) hx hb hr (by decide) (fun t ht hW => ⟨⟨1, (), rfl, (by unfold mayg cntb; rw [hb0, hb1, hb2, hb3, hb4] <;> decide), (by rw [ht]; exact hP9), va_K.moved hW.alike hK, hD9⟩, hS.F ht⟩) hS.2.2 dX5_mayGoOn_90 hlocks
      · skip
        cases hb3 : bt 3
        · skip
          cases hb4 : bt 4
          · skip
            refine lv_aload_n hx hb dX5_mayGoOn_0 rfl (lv_at hl 0 rfl) ?_
            have hPc := hP.sub (ws' := [(mo, .inr (6, [.int th, .int 1, .ref (ma 2), .ref (ma 3), .ref (ma 4), .ref (ma 5), .ref (ma 6), .ref (ma 7), .ref (ma 8), .ref (ma 9), .ref (ma 10), .ref (ma 11), .ref (ma 12), .ref (ma 13), .ref (ma 14), .ref (ma 15), .ref (ma 16), .ref (ma 17), .ref (ma 18), .ref (ma 19), .ref (ma 20), .ref (ma 21), .int 0, .ref (ma 23), .ref (ma 24), .ref (ma 25), .ref (ma 26), .ref (ma 27), .ref (ma 28)])), ((ma 28), wI tC 5 af), ((ma 2), wI tC 600 (fun _ => 0))]) [0, 1, 2] rfl
            have hDc := hD.sub (ws' := [(mo, .inr (6, [.int th, .int 1, .ref (ma 2), .ref (ma 3), .ref (ma 4), .ref (ma 5), .ref (ma 6), .ref (ma 7), .ref (ma 8), .ref (ma 9), .ref (ma 10), .ref (ma 11), .ref (ma 12), .ref (ma 13), .ref (ma 14), .ref (ma 15), .ref (ma 16), .ref (ma 17), .ref (ma 18), .ref (ma 19), .ref (ma 20), .ref (ma 21), .int 0, .ref (ma 23), .ref (ma 24), .ref (ma 25), .ref (ma 26), .ref (ma 27), .ref (ma 28)])), ((ma 28), wI tC 5 af), ((ma 2), wI tC 600 (fun _ => 0))]) [0, 1, 2] (by decide) rfl
            have hFc := va_free (wc := [(mo, .inr (6, [.int th, .int 1, .ref (ma 2), .ref (ma 3), .ref (ma 4), .ref (ma 5), .ref (ma 6), .ref (ma 7), .ref (ma 8), .ref (ma 9), .ref (ma 10), .ref (ma 11), .ref (ma 12), .ref (ma 13), .ref (ma 14), .ref (ma 15), .ref (ma 16), .ref (ma 17), .ref (ma 18), .ref (ma 19), .ref (ma 20), .ref (ma 21), .int 0, .ref (ma 23), .ref (ma 24), .ref (ma 25), .ref (ma 26), .ref (ma 27), .ref (ma 28)])), ((ma 28), wI tC 5 af), ((ma 2), wI tC 600 (fun _ => 0))]) hD hS hA [0, 1, 2] rfl
            refine va_calli (va_runV (As := []) (rest := []) ⟨hx, hb, hml, hown, hts⟩ (c_X5_greatest l hlt D tC dz s.heap.size mo ma th af bt haf) (cwV 0 hts gX5_mayGoOn_X5_greatest rfl rfl rfl (by decide +kernel) ⟨Nat.le_of_ble_eq_true rfl, Nat.le_of_ble_eq_true rfl⟩) ⟨pB_blind, va_recv hK hPc (ci := 6) (q0 := 0) rfl rfl, pB_at hPc hDc hK hN hE hS hFc⟩ rfl rfl hl.1 rfl (lv_room (Nat.le_of_ble_eq_true rfl)) dX5_mayGoOn_1 ⟨Nat.le_of_ble_eq_true rfl, Nat.le_of_ble_eq_true rfl⟩) hS (fun q _ h => hFc q h) hFc (fun r_355 u t H1 locs ht hvm hw hB hz1 hk1 hS => ?_)
            obtain ⟨hP1, _, hD1⟩ := hB
            have hw_356 := hw
            rw [ht] at hP1
            obtain ⟨hP, hD⟩ := va_join (wr := [((ma 7), wI tC 600 (fun _ => 0)), ((ma 6), wI tC 600 zf)]) (w1 := [(mo, .inr (6, [.int th, .int 1, .ref (ma 2), .ref (ma 3), .ref (ma 4), .ref (ma 5), .ref (ma 6), .ref (ma 7), .ref (ma 8), .ref (ma 9), .ref (ma 10), .ref (ma 11), .ref (ma 12), .ref (ma 13), .ref (ma 14), .ref (ma 15), .ref (ma 16), .ref (ma 17), .ref (ma 18), .ref (ma 19), .ref (ma 20), .ref (ma 21), .int 0, .ref (ma 23), .ref (ma 24), .ref (ma 25), .ref (ma 26), .ref (ma 27), .ref (ma 28)])), ((ma 28), wI tC 5 af), ((ma 2), wI tC 600 (fun _ => 0))]) hP hD [0, 1, 2] [3, 4] rfl rfl (by decide) (by decide) hk1 hFc hP1 hD1
            generalize H1 = H at hP hS ⊢
            have hP : va_P D vwCl [((ma 7), wI tC 600 (fun _ => 0)), ((ma 6), wI tC 600 zf), (mo, .inr (6, [.int th, .int 1, .ref (ma 2), .ref (ma 3), .ref (ma 4), .ref (ma 5), .ref (ma 6), .ref (ma 7), .ref (ma 8), .ref (ma 9), .ref (ma 10), .ref (ma 11), .ref (ma 12), .ref (ma 13), .ref (ma 14), .ref (ma 15), .ref (ma 16), .ref (ma 17), .ref (ma 18), .ref (ma 19), .ref (ma 20), .ref (ma 21), .int 0, .ref (ma 23), .ref (ma 24), .ref (ma 25), .ref (ma 26), .ref (ma 27), .ref (ma 28)])), ((ma 28), wI tC 5 af), ((ma 2), wI tC 600 (fun _ => 0))] H := hP
            have hD : va_D A [((ma 7), wI tC 600 (fun _ => 0)), ((ma 6), wI tC 600 zf), (mo, .inr (6, [.int th, .int 1, .ref (ma 2), .ref (ma 3), .ref (ma 4), .ref (ma 5), .ref (ma 6), .ref (ma 7), .ref (ma 8), .ref (ma 9), .ref (ma 10), .ref (ma 11), .ref (ma 12), .ref (ma 13), .ref (ma 14), .ref (ma 15), .ref (ma 16), .ref (ma 17), .ref (ma 18), .ref (ma 19), .ref (ma 20), .ref (ma 21), .int 0, .ref (ma 23), .ref (ma 24), .ref (ma 25), .ref (ma 26), .ref (ma 27), .ref (ma 28)])), ((ma 28), wI tC 5 af), ((ma 2), wI tC 600 (fun _ => 0))] := hD
            have q1 : r_355 = 0 := hw_356.trans (by rw [hb0, hb1, hb2, hb3, hb4] <;> rfl)
            subst q1
            refine lv_istore_n (lv' := [(1, .int 0), (0, .ref mo)]) hx hb dX5_mayGoOn_4 rfl hl (by decide) rfl (fun ls hl => ?_)
            refine lv_iconst (v := 0) hx hb dX5_mayGoOn_5 (by decide) ?_
            refine lv_istore_n (lv' := [(2, .int 0), (1, .int 0), (0, .ref mo)]) hx hb dX5_mayGoOn_6 rfl hl (by decide) rfl (fun ls hl => ?_)
            refine lv_iconst (v := 0) hx hb dX5_mayGoOn_7 (by decide) ?_
            refine lv_istore_n (lv' := [(3, .int 0), (2, .int 0), (1, .int 0), (0, .ref mo)]) hx hb dX5_mayGoOn_8 rfl hl (by decide) rfl (fun ls hl => ?_)
            refine lv_iload_n hx hb dX5_mayGoOn_9 rfl (lv_at hl 0 rfl) ?_
            refine lv_iconst (v := 5) hx hb dX5_mayGoOn_10 (by decide) ?_
            refine lv_icmp_ge (tgt := 71) hx hb dX5_mayGoOn_11 (by decide) (fun hc => absurd hc (by decide)) (fun _ => ?_)
            refine lv_iload_n hx hb dX5_mayGoOn_14 rfl (lv_at hl 2 rfl) ?_
            refine lv_if_lt (tgt := 71) hx hb dX5_mayGoOn_15 (by decide) (fun hc => absurd hc (by decide)) (fun _ => ?_)
            refine lv_aload_n hx hb dX5_mayGoOn_18 rfl (lv_at hl 3 rfl) ?_
            refine va_get (D := D) (ci := 6) (v := .ref (ma 28)) (C := RX5) (T := TX5) (N := 29) hx hb hts in_X5_mayGoOn_X5 hown hK hP 2 rfl rfl 28 (by decide) w_0 (fun _ h9 => h9) rfl dX5_mayGoOn_19 ?_
            refine lv_iload_n hx hb dX5_mayGoOn_22 rfl (lv_at hl 0 rfl) ?_
            refine va_iald hx hb hK hP 3 0 rfl rfl (by unfold vp_in; decide) dX5_mayGoOn_23 ?_
            refine lv_topi (fun z_357 ez_357 => ?_)
            have fz_357 : z_357 = 0 := ez_357.trans (by rw [show (0 : Int32).toNatClampNeg = 0 by decide, haf 0 (by decide), hb0] <;> rfl)
            subst fz_357
            refine lv_if_lt (tgt := 65) hx hb dX5_mayGoOn_24 (by decide) (fun hc => absurd hc (by decide)) (fun _ => ?_)
            refine lv_aload_n hx hb dX5_mayGoOn_27 rfl (lv_at hl 3 rfl) ?_
            refine va_get (D := D) (ci := 6) (v := .ref (ma 2)) (C := RX5) (T := TX5) (N := 29) hx hb hts in_X5_mayGoOn_X5 hown hK hP 2 rfl rfl 2 (by decide) w_1 (fun _ h9 => h9) rfl dX5_mayGoOn_28 ?_
            refine lv_aload_n hx hb dX5_mayGoOn_31 rfl (lv_at hl 3 rfl) ?_
            refine va_get (D := D) (ci := 6) (v := .ref (ma 28)) (C := RX5) (T := TX5) (N := 29) hx hb hts in_X5_mayGoOn_X5 hown hK hP 2 rfl rfl 28 (by decide) w_0 (fun _ h9 => h9) rfl dX5_mayGoOn_32 ?_
            refine lv_iload_n hx hb dX5_mayGoOn_35 rfl (lv_at hl 0 rfl) ?_
            refine va_iald hx hb hK hP 3 0 rfl rfl (by unfold vp_in; decide) dX5_mayGoOn_36 ?_
            refine lv_topi (fun z_358 ez_358 => ?_)
            have fz_358 : z_358 = 0 := ez_358.trans (by rw [show (0 : Int32).toNatClampNeg = 0 by decide, haf 0 (by decide), hb0] <;> rfl)
            subst fz_358
            refine va_iald hx hb hK hP 4 0 rfl rfl (by unfold vp_in; decide) dX5_mayGoOn_37 ?_
            refine lv_topi (fun z_359 ez_359 => ?_)
            have fz_359 : z_359 = 0 := ez_359.trans (rfl)
            subst fz_359
            refine lv_aload_n hx hb dX5_mayGoOn_38 rfl (lv_at hl 3 rfl) ?_
            refine va_get (D := D) (ci := 6) (v := .ref (ma 2)) (C := RX5) (T := TX5) (N := 29) hx hb hts in_X5_mayGoOn_X5 hown hK hP 2 rfl rfl 2 (by decide) w_1 (fun _ h9 => h9) rfl dX5_mayGoOn_39 ?_
            refine lv_iload_n hx hb dX5_mayGoOn_42 rfl (lv_at hl 2 rfl) ?_
            refine va_iald hx hb hK hP 4 0 rfl rfl (by unfold vp_in; decide) dX5_mayGoOn_43 ?_
            refine lv_topi (fun z_360 ez_360 => ?_)
            have fz_360 : z_360 = 0 := ez_360.trans (rfl)
            subst fz_360
            refine lv_icmp_ne (tgt := 65) hx hb dX5_mayGoOn_44 (by decide) (fun hc => absurd (by decide) hc) (fun _ => ?_)
            refine lv_iload_n hx hb dX5_mayGoOn_47 rfl (lv_at hl 1 rfl) ?_
            refine lv_iload_n hx hb dX5_mayGoOn_48 rfl (lv_at hl 0 rfl) ?_
            refine lv_aload_n hx hb dX5_mayGoOn_49 rfl (lv_at hl 3 rfl) ?_
            refine va_get (D := D) (ci := 6) (v := .ref (ma 7)) (C := RX5) (T := TX5) (N := 29) hx hb hts in_X5_mayGoOn_X5 hown hK hP 2 rfl rfl 7 (by decide) w_2 (fun _ h9 => h9) rfl dX5_mayGoOn_50 ?_
            refine lv_iload_n hx hb dX5_mayGoOn_53 rfl (lv_at hl 2 rfl) ?_
            refine va_iald hx hb hK hP 0 0 rfl rfl (by unfold vp_in; decide) dX5_mayGoOn_54 ?_
            refine lv_topi (fun z_361 ez_361 => ?_)
            have fz_361 : z_361 = 0 := ez_361.trans (rfl)
            subst fz_361
            refine lv_icmp_ne (tgt := 62) hx hb dX5_mayGoOn_55 (by decide) (fun hc => absurd (by decide) hc) (fun _ => ?_)
            refine lv_iconst (v := 3) hx hb dX5_mayGoOn_58 (by decide) ?_
            refine lv_goto (tgt := 63) hx hb dX5_mayGoOn_59 (by decide) ?_
            refine lv_iadd hx hb dX5_mayGoOn_63 ?_
            refine lv_topi (fun z_362 ez_362 => ?_)
            have fz_362 : z_362 = 3 := ez_362.trans (by decide)
            subst fz_362
            refine lv_istore_n (lv' := [(2, .int 3), (3, .int 0), (1, .int 0), (0, .ref mo)]) hx hb dX5_mayGoOn_64 rfl hl (by decide) rfl (fun ls hl => ?_)
            refine lv_iinc (v := 1) (lv' := [(3, .int 1), (2, .int 3), (1, .int 0), (0, .ref mo)]) hx hb dX5_mayGoOn_65 hl (k := 1) rfl (by decide) (by decide) rfl (fun ls hl => ?_)
            refine lv_goto (tgt := 9) hx hb dX5_mayGoOn_68 (by decide) ?_
            refine lv_iload_n hx hb dX5_mayGoOn_9 rfl (lv_at hl 0 rfl) ?_
            refine lv_iconst (v := 5) hx hb dX5_mayGoOn_10 (by decide) ?_
            refine lv_icmp_ge (tgt := 71) hx hb dX5_mayGoOn_11 (by decide) (fun hc => absurd hc (by decide)) (fun _ => ?_)
            refine lv_iload_n hx hb dX5_mayGoOn_14 rfl (lv_at hl 2 rfl) ?_
            refine lv_if_lt (tgt := 71) hx hb dX5_mayGoOn_15 (by decide) (fun hc => absurd hc (by decide)) (fun _ => ?_)
            refine lv_aload_n hx hb dX5_mayGoOn_18 rfl (lv_at hl 3 rfl) ?_
            refine va_get (D := D) (ci := 6) (v := .ref (ma 28)) (C := RX5) (T := TX5) (N := 29) hx hb hts in_X5_mayGoOn_X5 hown hK hP 2 rfl rfl 28 (by decide) w_0 (fun _ h9 => h9) rfl dX5_mayGoOn_19 ?_
            refine lv_iload_n hx hb dX5_mayGoOn_22 rfl (lv_at hl 0 rfl) ?_
            refine va_iald hx hb hK hP 3 0 rfl rfl (by unfold vp_in; decide) dX5_mayGoOn_23 ?_
            refine lv_topi (fun z_363 ez_363 => ?_)
            have fz_363 : z_363 = (-1) := ez_363.trans (by rw [show (1 : Int32).toNatClampNeg = 1 by decide, haf 1 (by decide), hb1] <;> rfl)
            subst fz_363
            refine lv_if_lt (tgt := 65) hx hb dX5_mayGoOn_24 (by decide) (fun _ => ?_) (fun hc => absurd (by decide) hc)
            refine lv_iinc (v := 2) (lv' := [(3, .int 2), (2, .int 3), (1, .int 0), (0, .ref mo)]) hx hb dX5_mayGoOn_65 hl (k := 0) rfl (by decide) (by decide) rfl (fun ls hl => ?_)
            refine lv_goto (tgt := 9) hx hb dX5_mayGoOn_68 (by decide) ?_
            refine lv_iload_n hx hb dX5_mayGoOn_9 rfl (lv_at hl 0 rfl) ?_
            refine lv_iconst (v := 5) hx hb dX5_mayGoOn_10 (by decide) ?_
            refine lv_icmp_ge (tgt := 71) hx hb dX5_mayGoOn_11 (by decide) (fun hc => absurd hc (by decide)) (fun _ => ?_)
            refine lv_iload_n hx hb dX5_mayGoOn_14 rfl (lv_at hl 2 rfl) ?_
            refine lv_if_lt (tgt := 71) hx hb dX5_mayGoOn_15 (by decide) (fun hc => absurd hc (by decide)) (fun _ => ?_)
            refine lv_aload_n hx hb dX5_mayGoOn_18 rfl (lv_at hl 3 rfl) ?_
            refine va_get (D := D) (ci := 6) (v := .ref (ma 28)) (C := RX5) (T := TX5) (N := 29) hx hb hts in_X5_mayGoOn_X5 hown hK hP 2 rfl rfl 28 (by decide) w_0 (fun _ h9 => h9) rfl dX5_mayGoOn_19 ?_
            refine lv_iload_n hx hb dX5_mayGoOn_22 rfl (lv_at hl 0 rfl) ?_
            refine va_iald hx hb hK hP 3 0 rfl rfl (by unfold vp_in; decide) dX5_mayGoOn_23 ?_
            refine lv_topi (fun z_364 ez_364 => ?_)
            have fz_364 : z_364 = 0 := ez_364.trans (by rw [show (2 : Int32).toNatClampNeg = 2 by decide, haf 2 (by decide), hb2] <;> rfl)
            subst fz_364
            refine lv_if_lt (tgt := 65) hx hb dX5_mayGoOn_24 (by decide) (fun hc => absurd hc (by decide)) (fun _ => ?_)
            refine lv_aload_n hx hb dX5_mayGoOn_27 rfl (lv_at hl 3 rfl) ?_
            refine va_get (D := D) (ci := 6) (v := .ref (ma 2)) (C := RX5) (T := TX5) (N := 29) hx hb hts in_X5_mayGoOn_X5 hown hK hP 2 rfl rfl 2 (by decide) w_1 (fun _ h9 => h9) rfl dX5_mayGoOn_28 ?_
            refine lv_aload_n hx hb dX5_mayGoOn_31 rfl (lv_at hl 3 rfl) ?_
            refine va_get (D := D) (ci := 6) (v := .ref (ma 28)) (C := RX5) (T := TX5) (N := 29) hx hb hts in_X5_mayGoOn_X5 hown hK hP 2 rfl rfl 28 (by decide) w_0 (fun _ h9 => h9) rfl dX5_mayGoOn_32 ?_
            refine lv_iload_n hx hb dX5_mayGoOn_35 rfl (lv_at hl 0 rfl) ?_
            refine va_iald hx hb hK hP 3 0 rfl rfl (by unfold vp_in; decide) dX5_mayGoOn_36 ?_
            refine lv_topi (fun z_365 ez_365 => ?_)
            have fz_365 : z_365 = 0 := ez_365.trans (by rw [show (2 : Int32).toNatClampNeg = 2 by decide, haf 2 (by decide), hb2] <;> rfl)
            subst fz_365
            refine va_iald hx hb hK hP 4 0 rfl rfl (by unfold vp_in; decide) dX5_mayGoOn_37 ?_
            refine lv_topi (fun z_366 ez_366 => ?_)
            have fz_366 : z_366 = 0 := ez_366.trans (rfl)
            subst fz_366
            refine lv_aload_n hx hb dX5_mayGoOn_38 rfl (lv_at hl 3 rfl) ?_
            refine va_get (D := D) (ci := 6) (v := .ref (ma 2)) (C := RX5) (T := TX5) (N := 29) hx hb hts in_X5_mayGoOn_X5 hown hK hP 2 rfl rfl 2 (by decide) w_1 (fun _ h9 => h9) rfl dX5_mayGoOn_39 ?_
            refine lv_iload_n hx hb dX5_mayGoOn_42 rfl (lv_at hl 2 rfl) ?_
            refine va_iald hx hb hK hP 4 0 rfl rfl (by unfold vp_in; decide) dX5_mayGoOn_43 ?_
            refine lv_topi (fun z_367 ez_367 => ?_)
            have fz_367 : z_367 = 0 := ez_367.trans (rfl)
            subst fz_367
            refine lv_icmp_ne (tgt := 65) hx hb dX5_mayGoOn_44 (by decide) (fun hc => absurd (by decide) hc) (fun _ => ?_)
            refine lv_iload_n hx hb dX5_mayGoOn_47 rfl (lv_at hl 1 rfl) ?_
            refine lv_iload_n hx hb dX5_mayGoOn_48 rfl (lv_at hl 0 rfl) ?_
            refine lv_aload_n hx hb dX5_mayGoOn_49 rfl (lv_at hl 3 rfl) ?_
            refine va_get (D := D) (ci := 6) (v := .ref (ma 7)) (C := RX5) (T := TX5) (N := 29) hx hb hts in_X5_mayGoOn_X5 hown hK hP 2 rfl rfl 7 (by decide) w_2 (fun _ h9 => h9) rfl dX5_mayGoOn_50 ?_
            refine lv_iload_n hx hb dX5_mayGoOn_53 rfl (lv_at hl 2 rfl) ?_
            refine va_iald hx hb hK hP 0 0 rfl rfl (by unfold vp_in; decide) dX5_mayGoOn_54 ?_
            refine lv_topi (fun z_368 ez_368 => ?_)
            have fz_368 : z_368 = 0 := ez_368.trans (rfl)
            subst fz_368
            refine lv_icmp_ne (tgt := 62) hx hb dX5_mayGoOn_55 (by decide) (fun _ => ?_) (fun hc => absurd hc (by decide))
            refine lv_iconst (v := 2) hx hb dX5_mayGoOn_62 (by decide) ?_
            refine lv_iadd hx hb dX5_mayGoOn_63 ?_
            refine lv_topi (fun z_369 ez_369 => ?_)
            have fz_369 : z_369 = 5 := ez_369.trans (by decide)
            subst fz_369
            refine lv_istore_n (lv' := [(2, .int 5), (3, .int 2), (1, .int 0), (0, .ref mo)]) hx hb dX5_mayGoOn_64 rfl hl (by decide) rfl (fun ls hl => ?_)
            refine lv_iinc (v := 3) (lv' := [(3, .int 3), (2, .int 5), (1, .int 0), (0, .ref mo)]) hx hb dX5_mayGoOn_65 hl (k := 1) rfl (by decide) (by decide) rfl (fun ls hl => ?_)
            refine lv_goto (tgt := 9) hx hb dX5_mayGoOn_68 (by decide) ?_
            refine lv_iload_n hx hb dX5_mayGoOn_9 rfl (lv_at hl 0 rfl) ?_
            refine lv_iconst (v := 5) hx hb dX5_mayGoOn_10 (by decide) ?_
            refine lv_icmp_ge (tgt := 71) hx hb dX5_mayGoOn_11 (by decide) (fun hc => absurd hc (by decide)) (fun _ => ?_)
            refine lv_iload_n hx hb dX5_mayGoOn_14 rfl (lv_at hl 2 rfl) ?_
            refine lv_if_lt (tgt := 71) hx hb dX5_mayGoOn_15 (by decide) (fun hc => absurd hc (by decide)) (fun _ => ?_)
            refine lv_aload_n hx hb dX5_mayGoOn_18 rfl (lv_at hl 3 rfl) ?_
            refine va_get (D := D) (ci := 6) (v := .ref (ma 28)) (C := RX5) (T := TX5) (N := 29) hx hb hts in_X5_mayGoOn_X5 hown hK hP 2 rfl rfl 28 (by decide) w_0 (fun _ h9 => h9) rfl dX5_mayGoOn_19 ?_
            refine lv_iload_n hx hb dX5_mayGoOn_22 rfl (lv_at hl 0 rfl) ?_
            refine va_iald hx hb hK hP 3 0 rfl rfl (by unfold vp_in; decide) dX5_mayGoOn_23 ?_
            refine lv_topi (fun z_370 ez_370 => ?_)
            have fz_370 : z_370 = (-1) := ez_370.trans (by rw [show (3 : Int32).toNatClampNeg = 3 by decide, haf 3 (by decide), hb3] <;> rfl)
            subst fz_370
            refine lv_if_lt (tgt := 65) hx hb dX5_mayGoOn_24 (by decide) (fun _ => ?_) (fun hc => absurd (by decide) hc)
            refine lv_iinc (v := 4) (lv' := [(3, .int 4), (2, .int 5), (1, .int 0), (0, .ref mo)]) hx hb dX5_mayGoOn_65 hl (k := 0) rfl (by decide) (by decide) rfl (fun ls hl => ?_)
            refine lv_goto (tgt := 9) hx hb dX5_mayGoOn_68 (by decide) ?_
            refine lv_iload_n hx hb dX5_mayGoOn_9 rfl (lv_at hl 0 rfl) ?_
            refine lv_iconst (v := 5) hx hb dX5_mayGoOn_10 (by decide) ?_
            refine lv_icmp_ge (tgt := 71) hx hb dX5_mayGoOn_11 (by decide) (fun hc => absurd hc (by decide)) (fun _ => ?_)
            refine lv_iload_n hx hb dX5_mayGoOn_14 rfl (lv_at hl 2 rfl) ?_
            refine lv_if_lt (tgt := 71) hx hb dX5_mayGoOn_15 (by decide) (fun hc => absurd hc (by decide)) (fun _ => ?_)
            refine lv_aload_n hx hb dX5_mayGoOn_18 rfl (lv_at hl 3 rfl) ?_
            refine va_get (D := D) (ci := 6) (v := .ref (ma 28)) (C := RX5) (T := TX5) (N := 29) hx hb hts in_X5_mayGoOn_X5 hown hK hP 2 rfl rfl 28 (by decide) w_0 (fun _ h9 => h9) rfl dX5_mayGoOn_19 ?_
            refine lv_iload_n hx hb dX5_mayGoOn_22 rfl (lv_at hl 0 rfl) ?_
            refine va_iald hx hb hK hP 3 0 rfl rfl (by unfold vp_in; decide) dX5_mayGoOn_23 ?_
            refine lv_topi (fun z_371 ez_371 => ?_)
            have fz_371 : z_371 = (-1) := ez_371.trans (by rw [show (4 : Int32).toNatClampNeg = 4 by decide, haf 4 (by decide), hb4] <;> rfl)
            subst fz_371
            refine lv_if_lt (tgt := 65) hx hb dX5_mayGoOn_24 (by decide) (fun _ => ?_) (fun hc => absurd (by decide) hc)
            refine lv_iinc (v := 5) (lv' := [(3, .int 5), (2, .int 5), (1, .int 0), (0, .ref mo)]) hx hb dX5_mayGoOn_65 hl (k := 0) rfl (by decide) (by decide) rfl (fun ls hl => ?_)
            refine lv_goto (tgt := 9) hx hb dX5_mayGoOn_68 (by decide) ?_
            refine lv_iload_n hx hb dX5_mayGoOn_9 rfl (lv_at hl 0 rfl) ?_
            refine lv_iconst (v := 5) hx hb dX5_mayGoOn_10 (by decide) ?_
            refine lv_icmp_ge (tgt := 71) hx hb dX5_mayGoOn_11 (by decide) (fun _ => ?_) (fun hc => absurd (by decide) hc)
            refine lv_iload_n hx hb dX5_mayGoOn_71 rfl (lv_at hl 2 rfl) ?_
            refine lv_if_lt (tgt := 89) hx hb dX5_mayGoOn_72 (by decide) (fun hc => absurd hc (by decide)) (fun _ => ?_)
            refine lv_iload_n hx hb dX5_mayGoOn_75 rfl (lv_at hl 1 rfl) ?_
            refine lv_aload_n hx hb dX5_mayGoOn_76 rfl (lv_at hl 3 rfl) ?_
            refine va_get (D := D) (ci := 6) (v := .ref (ma 6)) (C := RX5) (T := TX5) (N := 29) hx hb hts in_X5_mayGoOn_X5 hown hK hP 2 rfl rfl 6 (by decide) w_3 (fun _ h9 => h9) rfl dX5_mayGoOn_77 ?_
            refine lv_iload_n hx hb dX5_mayGoOn_80 rfl (lv_at hl 2 rfl) ?_
            refine va_iald hx hb hK hP 1 0 rfl rfl (by unfold vp_in; decide) dX5_mayGoOn_81 ?_
            refine lv_topi (fun z_372 ez_372 => ?_)
            have fz_372 : z_372 = 5 := ez_372.trans (hzf)
            subst fz_372
            refine lv_icmp_le (tgt := 89) hx hb dX5_mayGoOn_82 (by decide) (fun _ => ?_) (fun hc => absurd (by decide) hc)
            refine lv_iconst (v := 0) hx hb dX5_mayGoOn_89 (by decide) ?_
            have hP9 := hP.sub (ws' := [(mo, .inr (6, [.int th, .int 1, .ref (ma 2), .ref (ma 3), .ref (ma 4), .ref (ma 5), .ref (ma 6), .ref (ma 7), .ref (ma 8), .ref (ma 9), .ref (ma 10), .ref (ma 11), .ref (ma 12), .ref (ma 13), .ref (ma 14), .ref (ma 15), .ref (ma 16), .ref (ma 17), .ref (ma 18), .ref (ma 19), .ref (ma 20), .ref (ma 21), .int 0, .ref (ma 23), .ref (ma 24), .ref (ma 25), .ref (ma 26), .ref (ma 27), .ref (ma 28)])), ((ma 28), wI tC 5 af), ((ma 2), wI tC 600 (fun _ => 0)), ((ma 7), wI tC 600 (fun _ => 0)), ((ma 6), wI tC 600 zf)]) [2, 3, 4, 0, 1] rfl
            have hD9 := hD.sub (ws' := [(mo, .inr (6, [.int th, .int 1, .ref (ma 2), .ref (ma 3), .ref (ma 4), .ref (ma 5), .ref (ma 6), .ref (ma 7), .ref (ma 8), .ref (ma 9), .ref (ma 10), .ref (ma 11), .ref (ma 12), .ref (ma 13), .ref (ma 14), .ref (ma 15), .ref (ma 16), .ref (ma 17), .ref (ma 18), .ref (ma 19), .ref (ma 20), .ref (ma 21), .int 0, .ref (ma 23), .ref (ma 24), .ref (ma 25), .ref (ma 26), .ref (ma 27), .ref (ma 28)])), ((ma 28), wI tC 5 af), ((ma 2), wI tC 600 (fun _ => 0)), ((ma 7), wI tC 600 (fun _ => 0)), ((ma 6), wI tC 600 zf)]) [2, 3, 4, 0, 1] (by decide) rfl
            refine W.widen (k := 0) (n := 0) (by omega) (by omega) ?_
            exact W.zret (v := 0) hx hb hr (by decide) (fun t ht hW => ⟨⟨0, (), rfl, (by unfold mayg cntb; rw [hb0, hb1, hb2, hb3, hb4] <;> decide), (by rw [ht]; exact hP9), va_K.moved hW.alike hK, hD9⟩, hS.F ht⟩) hS.2.2 dX5_mayGoOn_90 hlocks
          · skip
            refine lv_aload_n hx hb dX5_mayGoOn_0 rfl (lv_at hl 0 rfl) ?_
            have hPc := hP.sub (ws' := [(mo, .inr (6, [.int th, .int 1, .ref (ma 2), .ref (ma 3), .ref (ma 4), .ref (ma 5), .ref (ma 6), .ref (ma 7), .ref (ma 8), .ref (ma 9), .ref (ma 10), .ref (ma 11), .ref (ma 12), .ref (ma 13), .ref (ma 14), .ref (ma 15), .ref (ma 16), .ref (ma 17), .ref (ma 18), .ref (ma 19), .ref (ma 20), .ref (ma 21), .int 0, .ref (ma 23), .ref (ma 24), .ref (ma 25), .ref (ma 26), .ref (ma 27), .ref (ma 28)])), ((ma 28), wI tC 5 af), ((ma 2), wI tC 600 (fun _ => 0))]) [0, 1, 2] rfl
            have hDc := hD.sub (ws' := [(mo, .inr (6, [.int th, .int 1, .ref (ma 2), .ref (ma 3), .ref (ma 4), .ref (ma 5), .ref (ma 6), .ref (ma 7), .ref (ma 8), .ref (ma 9), .ref (ma 10), .ref (ma 11), .ref (ma 12), .ref (ma 13), .ref (ma 14), .ref (ma 15), .ref (ma 16), .ref (ma 17), .ref (ma 18), .ref (ma 19), .ref (ma 20), .ref (ma 21), .int 0, .ref (ma 23), .ref (ma 24), .ref (ma 25), .ref (ma 26), .ref (ma 27), .ref (ma 28)])), ((ma 28), wI tC 5 af), ((ma 2), wI tC 600 (fun _ => 0))]) [0, 1, 2] (by decide) rfl
            have hFc := va_free (wc := [(mo, .inr (6, [.int th, .int 1, .ref (ma 2), .ref (ma 3), .ref (ma 4), .ref (ma 5), .ref (ma 6), .ref (ma 7), .ref (ma 8), .ref (ma 9), .ref (ma 10), .ref (ma 11), .ref (ma 12), .ref (ma 13), .ref (ma 14), .ref (ma 15), .ref (ma 16), .ref (ma 17), .ref (ma 18), .ref (ma 19), .ref (ma 20), .ref (ma 21), .int 0, .ref (ma 23), .ref (ma 24), .ref (ma 25), .ref (ma 26), .ref (ma 27), .ref (ma 28)])), ((ma 28), wI tC 5 af), ((ma 2), wI tC 600 (fun _ => 0))]) hD hS hA [0, 1, 2] rfl
            refine va_calli (va_runV (As := []) (rest := []) ⟨hx, hb, hml, hown, hts⟩ (c_X5_greatest l hlt D tC dz s.heap.size mo ma th af bt haf) (cwV 0 hts gX5_mayGoOn_X5_greatest rfl rfl rfl (by decide +kernel) ⟨Nat.le_of_ble_eq_true rfl, Nat.le_of_ble_eq_true rfl⟩) ⟨pB_blind, va_recv hK hPc (ci := 6) (q0 := 0) rfl rfl, pB_at hPc hDc hK hN hE hS hFc⟩ rfl rfl hl.1 rfl (lv_room (Nat.le_of_ble_eq_true rfl)) dX5_mayGoOn_1 ⟨Nat.le_of_ble_eq_true rfl, Nat.le_of_ble_eq_true rfl⟩) hS (fun q _ h => hFc q h) hFc (fun r_373 u t H1 locs ht hvm hw hB hz1 hk1 hS => ?_)
            obtain ⟨hP1, _, hD1⟩ := hB
            have hw_374 := hw
            rw [ht] at hP1
            obtain ⟨hP, hD⟩ := va_join (wr := [((ma 7), wI tC 600 (fun _ => 0)), ((ma 6), wI tC 600 zf)]) (w1 := [(mo, .inr (6, [.int th, .int 1, .ref (ma 2), .ref (ma 3), .ref (ma 4), .ref (ma 5), .ref (ma 6), .ref (ma 7), .ref (ma 8), .ref (ma 9), .ref (ma 10), .ref (ma 11), .ref (ma 12), .ref (ma 13), .ref (ma 14), .ref (ma 15), .ref (ma 16), .ref (ma 17), .ref (ma 18), .ref (ma 19), .ref (ma 20), .ref (ma 21), .int 0, .ref (ma 23), .ref (ma 24), .ref (ma 25), .ref (ma 26), .ref (ma 27), .ref (ma 28)])), ((ma 28), wI tC 5 af), ((ma 2), wI tC 600 (fun _ => 0))]) hP hD [0, 1, 2] [3, 4] rfl rfl (by decide) (by decide) hk1 hFc hP1 hD1
            generalize H1 = H at hP hS ⊢
            have hP : va_P D vwCl [((ma 7), wI tC 600 (fun _ => 0)), ((ma 6), wI tC 600 zf), (mo, .inr (6, [.int th, .int 1, .ref (ma 2), .ref (ma 3), .ref (ma 4), .ref (ma 5), .ref (ma 6), .ref (ma 7), .ref (ma 8), .ref (ma 9), .ref (ma 10), .ref (ma 11), .ref (ma 12), .ref (ma 13), .ref (ma 14), .ref (ma 15), .ref (ma 16), .ref (ma 17), .ref (ma 18), .ref (ma 19), .ref (ma 20), .ref (ma 21), .int 0, .ref (ma 23), .ref (ma 24), .ref (ma 25), .ref (ma 26), .ref (ma 27), .ref (ma 28)])), ((ma 28), wI tC 5 af), ((ma 2), wI tC 600 (fun _ => 0))] H := hP
            have hD : va_D A [((ma 7), wI tC 600 (fun _ => 0)), ((ma 6), wI tC 600 zf), (mo, .inr (6, [.int th, .int 1, .ref (ma 2), .ref (ma 3), .ref (ma 4), .ref (ma 5), .ref (ma 6), .ref (ma 7), .ref (ma 8), .ref (ma 9), .ref (ma 10), .ref (ma 11), .ref (ma 12), .ref (ma 13), .ref (ma 14), .ref (ma 15), .ref (ma 16), .ref (ma 17), .ref (ma 18), .ref (ma 19), .ref (ma 20), .ref (ma 21), .int 0, .ref (ma 23), .ref (ma 24), .ref (ma 25), .ref (ma 26), .ref (ma 27), .ref (ma 28)])), ((ma 28), wI tC 5 af), ((ma 2), wI tC 600 (fun _ => 0))] := hD
            have q1 : r_373 = 0 := hw_374.trans (by rw [hb0, hb1, hb2, hb3, hb4] <;> rfl)
            subst q1
            refine lv_istore_n (lv' := [(1, .int 0), (0, .ref mo)]) hx hb dX5_mayGoOn_4 rfl hl (by decide) rfl (fun ls hl => ?_)
            refine lv_iconst (v := 0) hx hb dX5_mayGoOn_5 (by decide) ?_
            refine lv_istore_n (lv' := [(2, .int 0), (1, .int 0), (0, .ref mo)]) hx hb dX5_mayGoOn_6 rfl hl (by decide) rfl (fun ls hl => ?_)
            refine lv_iconst (v := 0) hx hb dX5_mayGoOn_7 (by decide) ?_
            refine lv_istore_n (lv' := [(3, .int 0), (2, .int 0), (1, .int 0), (0, .ref mo)]) hx hb dX5_mayGoOn_8 rfl hl (by decide) rfl (fun ls hl => ?_)
            refine lv_iload_n hx hb dX5_mayGoOn_9 rfl (lv_at hl 0 rfl) ?_
            refine lv_iconst (v := 5) hx hb dX5_mayGoOn_10 (by decide) ?_
            refine lv_icmp_ge (tgt := 71) hx hb dX5_mayGoOn_11 (by decide) (fun hc => absurd hc (by decide)) (fun _ => ?_)
            refine lv_iload_n hx hb dX5_mayGoOn_14 rfl (lv_at hl 2 rfl) ?_
            refine lv_if_lt (tgt := 71) hx hb dX5_mayGoOn_15 (by decide) (fun hc => absurd hc (by decide)) (fun _ => ?_)
            refine lv_aload_n hx hb dX5_mayGoOn_18 rfl (lv_at hl 3 rfl) ?_
            refine va_get (D := D) (ci := 6) (v := .ref (ma 28)) (C := RX5) (T := TX5) (N := 29) hx hb hts in_X5_mayGoOn_X5 hown hK hP 2 rfl rfl 28 (by decide) w_0 (fun _ h9 => h9) rfl dX5_mayGoOn_19 ?_
            refine lv_iload_n hx hb dX5_mayGoOn_22 rfl (lv_at hl 0 rfl) ?_
            refine va_iald hx hb hK hP 3 0 rfl rfl (by unfold vp_in; decide) dX5_mayGoOn_23 ?_
            refine lv_topi (fun z_375 ez_375 => ?_)
            have fz_375 : z_375 = 0 := ez_375.trans (by rw [show (0 : Int32).toNatClampNeg = 0 by decide, haf 0 (by decide), hb0] <;> rfl)
            subst fz_375
            refine lv_if_lt (tgt := 65) hx hb dX5_mayGoOn_24 (by decide) (fun hc => absurd hc (by decide)) (fun _ => ?_)
            refine lv_aload_n hx hb dX5_mayGoOn_27 rfl (lv_at hl 3 rfl) ?_
            refine va_get (D := D) (ci := 6) (v := .ref (ma 2)) (C := RX5) (T := TX5) (N := 29) hx hb hts in_X5_mayGoOn_X5 hown hK hP 2 rfl rfl 2 (by decide) w_1 (fun _ h9 => h9) rfl dX5_mayGoOn_28 ?_
            refine lv_aload_n hx hb dX5_mayGoOn_31 rfl (lv_at hl 3 rfl) ?_
            refine va_get (D := D) (ci := 6) (v := .ref (ma 28)) (C := RX5) (T := TX5) (N := 29) hx hb hts in_X5_mayGoOn_X5 hown hK hP 2 rfl rfl 28 (by decide) w_0 (fun _ h9 => h9) rfl dX5_mayGoOn_32 ?_
            refine lv_iload_n hx hb dX5_mayGoOn_35 rfl (lv_at hl 0 rfl) ?_
            refine va_iald hx hb hK hP 3 0 rfl rfl (by unfold vp_in; decide) dX5_mayGoOn_36 ?_
            refine lv_topi (fun z_376 ez_376 => ?_)
            have fz_376 : z_376 = 0 := ez_376.trans (by rw [show (0 : Int32).toNatClampNeg = 0 by decide, haf 0 (by decide), hb0] <;> rfl)
            subst fz_376
            refine va_iald hx hb hK hP 4 0 rfl rfl (by unfold vp_in; decide) dX5_mayGoOn_37 ?_
            refine lv_topi (fun z_377 ez_377 => ?_)
            have fz_377 : z_377 = 0 := ez_377.trans (rfl)
            subst fz_377
            refine lv_aload_n hx hb dX5_mayGoOn_38 rfl (lv_at hl 3 rfl) ?_
            refine va_get (D := D) (ci := 6) (v := .ref (ma 2)) (C := RX5) (T := TX5) (N := 29) hx hb hts in_X5_mayGoOn_X5 hown hK hP 2 rfl rfl 2 (by decide) w_1 (fun _ h9 => h9) rfl dX5_mayGoOn_39 ?_
            refine lv_iload_n hx hb dX5_mayGoOn_42 rfl (lv_at hl 2 rfl) ?_
            refine va_iald hx hb hK hP 4 0 rfl rfl (by unfold vp_in; decide) dX5_mayGoOn_43 ?_
            refine lv_topi (fun z_378 ez_378 => ?_)
            have fz_378 : z_378 = 0 := ez_378.trans (rfl)
            subst fz_378
            refine lv_icmp_ne (tgt := 65) hx hb dX5_mayGoOn_44 (by decide) (fun hc => absurd (by decide) hc) (fun _ => ?_)
            refine lv_iload_n hx hb dX5_mayGoOn_47 rfl (lv_at hl 1 rfl) ?_
            refine lv_iload_n hx hb dX5_mayGoOn_48 rfl (lv_at hl 0 rfl) ?_
            refine lv_aload_n hx hb dX5_mayGoOn_49 rfl (lv_at hl 3 rfl) ?_
            refine va_get (D := D) (ci := 6) (v := .ref (ma 7)) (C := RX5) (T := TX5) (N := 29) hx hb hts in_X5_mayGoOn_X5 hown hK hP 2 rfl rfl 7 (by decide) w_2 (fun _ h9 => h9) rfl dX5_mayGoOn_50 ?_
            refine lv_iload_n hx hb dX5_mayGoOn_53 rfl (lv_at hl 2 rfl) ?_
            refine va_iald hx hb hK hP 0 0 rfl rfl (by unfold vp_in; decide) dX5_mayGoOn_54 ?_
            refine lv_topi (fun z_379 ez_379 => ?_)
            have fz_379 : z_379 = 0 := ez_379.trans (rfl)
            subst fz_379
            refine lv_icmp_ne (tgt := 62) hx hb dX5_mayGoOn_55 (by decide) (fun hc => absurd (by decide) hc) (fun _ => ?_)
            refine lv_iconst (v := 3) hx hb dX5_mayGoOn_58 (by decide) ?_
            refine lv_goto (tgt := 63) hx hb dX5_mayGoOn_59 (by decide) ?_
            refine lv_iadd hx hb dX5_mayGoOn_63 ?_
            refine lv_topi (fun z_380 ez_380 => ?_)
            have fz_380 : z_380 = 3 := ez_380.trans (by decide)
            subst fz_380
            refine lv_istore_n (lv' := [(2, .int 3), (3, .int 0), (1, .int 0), (0, .ref mo)]) hx hb dX5_mayGoOn_64 rfl hl (by decide) rfl (fun ls hl => ?_)
            refine lv_iinc (v := 1) (lv' := [(3, .int 1), (2, .int 3), (1, .int 0), (0, .ref mo)]) hx hb dX5_mayGoOn_65 hl (k := 1) rfl (by decide) (by decide) rfl (fun ls hl => ?_)
            refine lv_goto (tgt := 9) hx hb dX5_mayGoOn_68 (by decide) ?_
            refine lv_iload_n hx hb dX5_mayGoOn_9 rfl (lv_at hl 0 rfl) ?_
            refine lv_iconst (v := 5) hx hb dX5_mayGoOn_10 (by decide) ?_
            refine lv_icmp_ge (tgt := 71) hx hb dX5_mayGoOn_11 (by decide) (fun hc => absurd hc (by decide)) (fun _ => ?_)
            refine lv_iload_n hx hb dX5_mayGoOn_14 rfl (lv_at hl 2 rfl) ?_
            refine lv_if_lt (tgt := 71) hx hb dX5_mayGoOn_15 (by decide) (fun hc => absurd hc (by decide)) (fun _ => ?_)
            refine lv_aload_n hx hb dX5_mayGoOn_18 rfl (lv_at hl 3 rfl) ?_
            refine va_get (D := D) (ci := 6) (v := .ref (ma 28)) (C := RX5) (T := TX5) (N := 29) hx hb hts in_X5_mayGoOn_X5 hown hK hP 2 rfl rfl 28 (by decide) w_0 (fun _ h9 => h9) rfl dX5_mayGoOn_19 ?_
            refine lv_iload_n hx hb dX5_mayGoOn_22 rfl (lv_at hl 0 rfl) ?_
            refine va_iald hx hb hK hP 3 0 rfl rfl (by unfold vp_in; decide) dX5_mayGoOn_23 ?_
            refine lv_topi (fun z_381 ez_381 => ?_)
            have fz_381 : z_381 = (-1) := ez_381.trans (by rw [show (1 : Int32).toNatClampNeg = 1 by decide, haf 1 (by decide), hb1] <;> rfl)
            subst fz_381
            refine lv_if_lt (tgt := 65) hx hb dX5_mayGoOn_24 (by decide) (fun _ => ?_) (fun hc => absurd (by decide) hc)
            refine lv_iinc (v := 2) (lv' := [(3, .int 2), (2, .int 3), (1, .int 0), (0, .ref mo)]) hx hb dX5_mayGoOn_65 hl (k := 0) rfl (by decide) (by decide) rfl (fun ls hl => ?_)
            refine lv_goto (tgt := 9) hx hb dX5_mayGoOn_68 (by decide) ?_
            refine lv_iload_n hx hb dX5_mayGoOn_9 rfl (lv_at hl 0 rfl) ?_
            refine lv_iconst (v := 5) hx hb dX5_mayGoOn_10 (by decide) ?_
            refine lv_icmp_ge (tgt := 71) hx hb dX5_mayGoOn_11 (by decide) (fun hc => absurd hc (by decide)) (fun _ => ?_)
            refine lv_iload_n hx hb dX5_mayGoOn_14 rfl (lv_at hl 2 rfl) ?_
            refine lv_if_lt (tgt := 71) hx hb dX5_mayGoOn_15 (by decide) (fun hc => absurd hc (by decide)) (fun _ => ?_)
            refine lv_aload_n hx hb dX5_mayGoOn_18 rfl (lv_at hl 3 rfl) ?_
            refine va_get (D := D) (ci := 6) (v := .ref (ma 28)) (C := RX5) (T := TX5) (N := 29) hx hb hts in_X5_mayGoOn_X5 hown hK hP 2 rfl rfl 28 (by decide) w_0 (fun _ h9 => h9) rfl dX5_mayGoOn_19 ?_
            refine lv_iload_n hx hb dX5_mayGoOn_22 rfl (lv_at hl 0 rfl) ?_
            refine va_iald hx hb hK hP 3 0 rfl rfl (by unfold vp_in; decide) dX5_mayGoOn_23 ?_
            refine lv_topi (fun z_382 ez_382 => ?_)
            have fz_382 : z_382 = 0 := ez_382.trans (by rw [show (2 : Int32).toNatClampNeg = 2 by decide, haf 2 (by decide), hb2] <;> rfl)
            subst fz_382
            refine lv_if_lt (tgt := 65) hx hb dX5_mayGoOn_24 (by decide) (fun hc => absurd hc (by decide)) (fun _ => ?_)
            refine lv_aload_n hx hb dX5_mayGoOn_27 rfl (lv_at hl 3 rfl) ?_
            refine va_get (D := D) (ci := 6) (v := .ref (ma 2)) (C := RX5) (T := TX5) (N := 29) hx hb hts in_X5_mayGoOn_X5 hown hK hP 2 rfl rfl 2 (by decide) w_1 (fun _ h9 => h9) rfl dX5_mayGoOn_28 ?_
            refine lv_aload_n hx hb dX5_mayGoOn_31 rfl (lv_at hl 3 rfl) ?_
            refine va_get (D := D) (ci := 6) (v := .ref (ma 28)) (C := RX5) (T := TX5) (N := 29) hx hb hts in_X5_mayGoOn_X5 hown hK hP 2 rfl rfl 28 (by decide) w_0 (fun _ h9 => h9) rfl dX5_mayGoOn_32 ?_
            refine lv_iload_n hx hb dX5_mayGoOn_35 rfl (lv_at hl 0 rfl) ?_
            refine va_iald hx hb hK hP 3 0 rfl rfl (by unfold vp_in; decide) dX5_mayGoOn_36 ?_
            refine lv_topi (fun z_383 ez_383 => ?_)
            have fz_383 : z_383 = 0 := ez_383.trans (by rw [show (2 : Int32).toNatClampNeg = 2 by decide, haf 2 (by decide), hb2] <;> rfl)
            subst fz_383
            refine va_iald hx hb hK hP 4 0 rfl rfl (by unfold vp_in; decide) dX5_mayGoOn_37 ?_
            refine lv_topi (fun z_384 ez_384 => ?_)
            have fz_384 : z_384 = 0 := ez_384.trans (rfl)
            subst fz_384
            refine lv_aload_n hx hb dX5_mayGoOn_38 rfl (lv_at hl 3 rfl) ?_
            refine va_get (D := D) (ci := 6) (v := .ref (ma 2)) (C := RX5) (T := TX5) (N := 29) hx hb hts in_X5_mayGoOn_X5 hown hK hP 2 rfl rfl 2 (by decide) w_1 (fun _ h9 => h9) rfl dX5_mayGoOn_39 ?_
            refine lv_iload_n hx hb dX5_mayGoOn_42 rfl (lv_at hl 2 rfl) ?_
            refine va_iald hx hb hK hP 4 0 rfl rfl (by unfold vp_in; decide) dX5_mayGoOn_43 ?_
            refine lv_topi (fun z_385 ez_385 => ?_)
            have fz_385 : z_385 = 0 := ez_385.trans (rfl)
            subst fz_385
            refine lv_icmp_ne (tgt := 65) hx hb dX5_mayGoOn_44 (by decide) (fun hc => absurd (by decide) hc) (fun _ => ?_)
            refine lv_iload_n hx hb dX5_mayGoOn_47 rfl (lv_at hl 1 rfl) ?_
            refine lv_iload_n hx hb dX5_mayGoOn_48 rfl (lv_at hl 0 rfl) ?_
            refine lv_aload_n hx hb dX5_mayGoOn_49 rfl (lv_at hl 3 rfl) ?_
            refine va_get (D := D) (ci := 6) (v := .ref (ma 7)) (C := RX5) (T := TX5) (N := 29) hx hb hts in_X5_mayGoOn_X5 hown hK hP 2 rfl rfl 7 (by decide) w_2 (fun _ h9 => h9) rfl dX5_mayGoOn_50 ?_
            refine lv_iload_n hx hb dX5_mayGoOn_53 rfl (lv_at hl 2 rfl) ?_
            refine va_iald hx hb hK hP 0 0 rfl rfl (by unfold vp_in; decide) dX5_mayGoOn_54 ?_
            refine lv_topi (fun z_386 ez_386 => ?_)
            have fz_386 : z_386 = 0 := ez_386.trans (rfl)
            subst fz_386
            refine lv_icmp_ne (tgt := 62) hx hb dX5_mayGoOn_55 (by decide) (fun _ => ?_) (fun hc => absurd hc (by decide))
            refine lv_iconst (v := 2) hx hb dX5_mayGoOn_62 (by decide) ?_
            refine lv_iadd hx hb dX5_mayGoOn_63 ?_
            refine lv_topi (fun z_387 ez_387 => ?_)
            have fz_387 : z_387 = 5 := ez_387.trans (by decide)
            subst fz_387
            refine lv_istore_n (lv' := [(2, .int 5), (3, .int 2), (1, .int 0), (0, .ref mo)]) hx hb dX5_mayGoOn_64 rfl hl (by decide) rfl (fun ls hl => ?_)
            refine lv_iinc (v := 3) (lv' := [(3, .int 3), (2, .int 5), (1, .int 0), (0, .ref mo)]) hx hb dX5_mayGoOn_65 hl (k := 1) rfl (by decide) (by decide) rfl (fun ls hl => ?_)
            refine lv_goto (tgt := 9) hx hb dX5_mayGoOn_68 (by decide) ?_
            refine lv_iload_n hx hb dX5_mayGoOn_9 rfl (lv_at hl 0 rfl) ?_
            refine lv_iconst (v := 5) hx hb dX5_mayGoOn_10 (by decide) ?_
            refine lv_icmp_ge (tgt := 71) hx hb dX5_mayGoOn_11 (by decide) (fun hc => absurd hc (by decide)) (fun _ => ?_)
            refine lv_iload_n hx hb dX5_mayGoOn_14 rfl (lv_at hl 2 rfl) ?_
            refine lv_if_lt (tgt := 71) hx hb dX5_mayGoOn_15 (by decide) (fun hc => absurd hc (by decide)) (fun _ => ?_)
            refine lv_aload_n hx hb dX5_mayGoOn_18 rfl (lv_at hl 3 rfl) ?_
            refine va_get (D := D) (ci := 6) (v := .ref (ma 28)) (C := RX5) (T := TX5) (N := 29) hx hb hts in_X5_mayGoOn_X5 hown hK hP 2 rfl rfl 28 (by decide) w_0 (fun _ h9 => h9) rfl dX5_mayGoOn_19 ?_
            refine lv_iload_n hx hb dX5_mayGoOn_22 rfl (lv_at hl 0 rfl) ?_
            refine va_iald hx hb hK hP 3 0 rfl rfl (by unfold vp_in; decide) dX5_mayGoOn_23 ?_
            refine lv_topi (fun z_388 ez_388 => ?_)
            have fz_388 : z_388 = (-1) := ez_388.trans (by rw [show (3 : Int32).toNatClampNeg = 3 by decide, haf 3 (by decide), hb3] <;> rfl)
            subst fz_388
            refine lv_if_lt (tgt := 65) hx hb dX5_mayGoOn_24 (by decide) (fun _ => ?_) (fun hc => absurd (by decide) hc)
            refine lv_iinc (v := 4) (lv' := [(3, .int 4), (2, .int 5), (1, .int 0), (0, .ref mo)]) hx hb dX5_mayGoOn_65 hl (k := 0) rfl (by decide) (by decide) rfl (fun ls hl => ?_)
            refine lv_goto (tgt := 9) hx hb dX5_mayGoOn_68 (by decide) ?_
            refine lv_iload_n hx hb dX5_mayGoOn_9 rfl (lv_at hl 0 rfl) ?_
            refine lv_iconst (v := 5) hx hb dX5_mayGoOn_10 (by decide) ?_
            refine lv_icmp_ge (tgt := 71) hx hb dX5_mayGoOn_11 (by decide) (fun hc => absurd hc (by decide)) (fun _ => ?_)
            refine lv_iload_n hx hb dX5_mayGoOn_14 rfl (lv_at hl 2 rfl) ?_
            refine lv_if_lt (tgt := 71) hx hb dX5_mayGoOn_15 (by decide) (fun hc => absurd hc (by decide)) (fun _ => ?_)
            refine lv_aload_n hx hb dX5_mayGoOn_18 rfl (lv_at hl 3 rfl) ?_
            refine va_get (D := D) (ci := 6) (v := .ref (ma 28)) (C := RX5) (T := TX5) (N := 29) hx hb hts in_X5_mayGoOn_X5 hown hK hP 2 rfl rfl 28 (by decide) w_0 (fun _ h9 => h9) rfl dX5_mayGoOn_19 ?_
            refine lv_iload_n hx hb dX5_mayGoOn_22 rfl (lv_at hl 0 rfl) ?_
            refine va_iald hx hb hK hP 3 0 rfl rfl (by unfold vp_in; decide) dX5_mayGoOn_23 ?_
            refine lv_topi (fun z_389 ez_389 => ?_)
            have fz_389 : z_389 = 0 := ez_389.trans (by rw [show (4 : Int32).toNatClampNeg = 4 by decide, haf 4 (by decide), hb4] <;> rfl)
            subst fz_389
            refine lv_if_lt (tgt := 65) hx hb dX5_mayGoOn_24 (by decide) (fun hc => absurd hc (by decide)) (fun _ => ?_)
            refine lv_aload_n hx hb dX5_mayGoOn_27 rfl (lv_at hl 3 rfl) ?_
            refine va_get (D := D) (ci := 6) (v := .ref (ma 2)) (C := RX5) (T := TX5) (N := 29) hx hb hts in_X5_mayGoOn_X5 hown hK hP 2 rfl rfl 2 (by decide) w_1 (fun _ h9 => h9) rfl dX5_mayGoOn_28 ?_
            refine lv_aload_n hx hb dX5_mayGoOn_31 rfl (lv_at hl 3 rfl) ?_
            refine va_get (D := D) (ci := 6) (v := .ref (ma 28)) (C := RX5) (T := TX5) (N := 29) hx hb hts in_X5_mayGoOn_X5 hown hK hP 2 rfl rfl 28 (by decide) w_0 (fun _ h9 => h9) rfl dX5_mayGoOn_32 ?_
            refine lv_iload_n hx hb dX5_mayGoOn_35 rfl (lv_at hl 0 rfl) ?_
            refine va_iald hx hb hK hP 3 0 rfl rfl (by unfold vp_in; decide) dX5_mayGoOn_36 ?_
            refine lv_topi (fun z_390 ez_390 => ?_)
            have fz_390 : z_390 = 0 := ez_390.trans (by rw [show (4 : Int32).toNatClampNeg = 4 by decide, haf 4 (by decide), hb4] <;> rfl)
            subst fz_390
            refine va_iald hx hb hK hP 4 0 rfl rfl (by unfold vp_in; decide) dX5_mayGoOn_37 ?_
            refine lv_topi (fun z_391 ez_391 => ?_)
            have fz_391 : z_391 = 0 := ez_391.trans (rfl)
            subst fz_391
            refine lv_aload_n hx hb dX5_mayGoOn_38 rfl (lv_at hl 3 rfl) ?_
            refine va_get (D := D) (ci := 6) (v := .ref (ma 2)) (C := RX5) (T := TX5) (N := 29) hx hb hts in_X5_mayGoOn_X5 hown hK hP 2 rfl rfl 2 (by decide) w_1 (fun _ h9 => h9) rfl dX5_mayGoOn_39 ?_
            refine lv_iload_n hx hb dX5_mayGoOn_42 rfl (lv_at hl 2 rfl) ?_
            refine va_iald hx hb hK hP 4 0 rfl rfl (by unfold vp_in; decide) dX5_mayGoOn_43 ?_
            refine lv_topi (fun z_392 ez_392 => ?_)
            have fz_392 : z_392 = 0 := ez_392.trans (rfl)
            subst fz_392
            refine lv_icmp_ne (tgt := 65) hx hb dX5_mayGoOn_44 (by decide) (fun hc => absurd (by decide) hc) (fun _ => ?_)
            refine lv_iload_n hx hb dX5_mayGoOn_47 rfl (lv_at hl 1 rfl) ?_
            refine lv_iload_n hx hb dX5_mayGoOn_48 rfl (lv_at hl 0 rfl) ?_
            refine lv_aload_n hx hb dX5_mayGoOn_49 rfl (lv_at hl 3 rfl) ?_
            refine va_get (D := D) (ci := 6) (v := .ref (ma 7)) (C := RX5) (T := TX5) (N := 29) hx hb hts in_X5_mayGoOn_X5 hown hK hP 2 rfl rfl 7 (by decide) w_2 (fun _ h9 => h9) rfl dX5_mayGoOn_50 ?_
            refine lv_iload_n hx hb dX5_mayGoOn_53 rfl (lv_at hl 2 rfl) ?_
            refine va_iald hx hb hK hP 0 0 rfl rfl (by unfold vp_in; decide) dX5_mayGoOn_54 ?_
            refine lv_topi (fun z_393 ez_393 => ?_)
            have fz_393 : z_393 = 0 := ez_393.trans (rfl)
            subst fz_393
            refine lv_icmp_ne (tgt := 62) hx hb dX5_mayGoOn_55 (by decide) (fun _ => ?_) (fun hc => absurd hc (by decide))
            refine lv_iconst (v := 2) hx hb dX5_mayGoOn_62 (by decide) ?_
            refine lv_iadd hx hb dX5_mayGoOn_63 ?_
            refine lv_topi (fun z_394 ez_394 => ?_)
            have fz_394 : z_394 = 7 := ez_394.trans (by decide)
            subst fz_394
            refine lv_istore_n (lv' := [(2, .int 7), (3, .int 4), (1, .int 0), (0, .ref mo)]) hx hb dX5_mayGoOn_64 rfl hl (by decide) rfl (fun ls hl => ?_)
            refine lv_iinc (v := 5) (lv' := [(3, .int 5), (2, .int 7), (1, .int 0), (0, .ref mo)]) hx hb dX5_mayGoOn_65 hl (k := 1) rfl (by decide) (by decide) rfl (fun ls hl => ?_)
            refine lv_goto (tgt := 9) hx hb dX5_mayGoOn_68 (by decide) ?_
            refine lv_iload_n hx hb dX5_mayGoOn_9 rfl (lv_at hl 0 rfl) ?_
            refine lv_iconst (v := 5) hx hb dX5_mayGoOn_10 (by decide) ?_
            refine lv_icmp_ge (tgt := 71) hx hb dX5_mayGoOn_11 (by decide) (fun _ => ?_) (fun hc => absurd (by decide) hc)
            refine lv_iload_n hx hb dX5_mayGoOn_71 rfl (lv_at hl 2 rfl) ?_
            refine lv_if_lt (tgt := 89) hx hb dX5_mayGoOn_72 (by decide) (fun hc => absurd hc (by decide)) (fun _ => ?_)
            refine lv_iload_n hx hb dX5_mayGoOn_75 rfl (lv_at hl 1 rfl) ?_
            refine lv_aload_n hx hb dX5_mayGoOn_76 rfl (lv_at hl 3 rfl) ?_
            refine va_get (D := D) (ci := 6) (v := .ref (ma 6)) (C := RX5) (T := TX5) (N := 29) hx hb hts in_X5_mayGoOn_X5 hown hK hP 2 rfl rfl 6 (by decide) w_3 (fun _ h9 => h9) rfl dX5_mayGoOn_77 ?_
            refine lv_iload_n hx hb dX5_mayGoOn_80 rfl (lv_at hl 2 rfl) ?_
            refine va_iald hx hb hK hP 1 0 rfl rfl (by unfold vp_in; decide) dX5_mayGoOn_81 ?_
            refine lv_topi (fun z_395 ez_395 => ?_)
            have fz_395 : z_395 = 5 := ez_395.trans (hzf)
            subst fz_395
            refine lv_icmp_le (tgt := 89) hx hb dX5_mayGoOn_82 (by decide) (fun hc => absurd hc (by decide)) (fun _ => ?_)
            refine lv_iconst (v := 1) hx hb dX5_mayGoOn_85 (by decide) ?_
            refine lv_goto (tgt := 90) hx hb dX5_mayGoOn_86 (by decide) ?_
            have hP9 := hP.sub (ws' := [(mo, .inr (6, [.int th, .int 1, .ref (ma 2), .ref (ma 3), .ref (ma 4), .ref (ma 5), .ref (ma 6), .ref (ma 7), .ref (ma 8), .ref (ma 9), .ref (ma 10), .ref (ma 11), .ref (ma 12), .ref (ma 13), .ref (ma 14), .ref (ma 15), .ref (ma 16), .ref (ma 17), .ref (ma 18), .ref (ma 19), .ref (ma 20), .ref (ma 21), .int 0, .ref (ma 23), .ref (ma 24), .ref (ma 25), .ref (ma 26), .ref (ma 27), .ref (ma 28)])), ((ma 28), wI tC 5 af), ((ma 2), wI tC 600 (fun _ => 0)), ((ma 7), wI tC 600 (fun _ => 0)), ((ma 6), wI tC 600 zf)]) [2, 3, 4, 0, 1] rfl
            have hD9 := hD.sub (ws' := [(mo, .inr (6, [.int th, .int 1, .ref (ma 2), .ref (ma 3), .ref (ma 4), .ref (ma 5), .ref (ma 6), .ref (ma 7), .ref (ma 8), .ref (ma 9), .ref (ma 10), .ref (ma 11), .ref (ma 12), .ref (ma 13), .ref (ma 14), .ref (ma 15), .ref (ma 16), .ref (ma 17), .ref (ma 18), .ref (ma 19), .ref (ma 20), .ref (ma 21), .int 0, .ref (ma 23), .ref (ma 24), .ref (ma 25), .ref (ma 26), .ref (ma 27), .ref (ma 28)])), ((ma 28), wI tC 5 af), ((ma 2), wI tC 600 (fun _ => 0)), ((ma 7), wI tC 600 (fun _ => 0)), ((ma 6), wI tC 600 zf)]) [2, 3, 4, 0, 1] (by decide) rfl
            refine W.widen (k := 0) (n := 0) (by omega) (by omega) ?_
            exact W.zret (v := 1) hx hb hr (by decide) (fun t ht hW => ⟨⟨1, (), rfl, (by unfold mayg cntb; rw [hb0, hb1, hb2, hb3, hb4] <;> decide), (by rw [ht]; exact hP9), va_K.moved hW.alike hK, hD9⟩, hS.F ht⟩) hS.2.2 dX5_mayGoOn_90 hlocks
        · skip
          cases hb4 : bt 4
          · skip
            refine lv_aload_n hx hb dX5_mayGoOn_0 rfl (lv_at hl 0 rfl) ?_
            have hPc := hP.sub (ws' := [(mo, .inr (6, [.int th, .int 1, .ref (ma 2), .ref (ma 3), .ref (ma 4), .ref (ma 5), .ref (ma 6), .ref (ma 7), .ref (ma 8), .ref (ma 9), .ref (ma 10), .ref (ma 11), .ref (ma 12), .ref (ma 13), .ref (ma 14), .ref (ma 15), .ref (ma 16), .ref (ma 17), .ref (ma 18), .ref (ma 19), .ref (ma 20), .ref (ma 21), .int 0, .ref (ma 23), .ref (ma 24), .ref (ma 25), .ref (ma 26), .ref (ma 27), .ref (ma 28)])), ((ma 28), wI tC 5 af), ((ma 2), wI tC 600 (fun _ => 0))]) [0, 1, 2] rfl
            have hDc := hD.sub (ws' := [(mo, .inr (6, [.int th, .int 1, .ref (ma 2), .ref (ma 3), .ref (ma 4), .ref (ma 5), .ref (ma 6), .ref (ma 7), .ref (ma 8), .ref (ma 9), .ref (ma 10), .ref (ma 11), .ref (ma 12), .ref (ma 13), .ref (ma 14), .ref (ma 15), .ref (ma 16), .ref (ma 17), .ref (ma 18), .ref (ma 19), .ref (ma 20), .ref (ma 21), .int 0, .ref (ma 23), .ref (ma 24), .ref (ma 25), .ref (ma 26), .ref (ma 27), .ref (ma 28)])), ((ma 28), wI tC 5 af), ((ma 2), wI tC 600 (fun _ => 0))]) [0, 1, 2] (by decide) rfl
            have hFc := va_free (wc := [(mo, .inr (6, [.int th, .int 1, .ref (ma 2), .ref (ma 3), .ref (ma 4), .ref (ma 5), .ref (ma 6), .ref (ma 7), .ref (ma 8), .ref (ma 9), .ref (ma 10), .ref (ma 11), .ref (ma 12), .ref (ma 13), .ref (ma 14), .ref (ma 15), .ref (ma 16), .ref (ma 17), .ref (ma 18), .ref (ma 19), .ref (ma 20), .ref (ma 21), .int 0, .ref (ma 23), .ref (ma 24), .ref (ma 25), .ref (ma 26), .ref (ma 27), .ref (ma 28)])), ((ma 28), wI tC 5 af), ((ma 2), wI tC 600 (fun _ => 0))]) hD hS hA [0, 1, 2] rfl
            refine va_calli (va_runV (As := []) (rest := []) ⟨hx, hb, hml, hown, hts⟩ (c_X5_greatest l hlt D tC dz s.heap.size mo ma th af bt haf) (cwV 0 hts gX5_mayGoOn_X5_greatest rfl rfl rfl (by decide +kernel) ⟨Nat.le_of_ble_eq_true rfl, Nat.le_of_ble_eq_true rfl⟩) ⟨pB_blind, va_recv hK hPc (ci := 6) (q0 := 0) rfl rfl, pB_at hPc hDc hK hN hE hS hFc⟩ rfl rfl hl.1 rfl (lv_room (Nat.le_of_ble_eq_true rfl)) dX5_mayGoOn_1 ⟨Nat.le_of_ble_eq_true rfl, Nat.le_of_ble_eq_true rfl⟩) hS (fun q _ h => hFc q h) hFc (fun r_396 u t H1 locs ht hvm hw hB hz1 hk1 hS => ?_)
            obtain ⟨hP1, _, hD1⟩ := hB
            have hw_397 := hw
            rw [ht] at hP1
            obtain ⟨hP, hD⟩ := va_join (wr := [((ma 7), wI tC 600 (fun _ => 0)), ((ma 6), wI tC 600 zf)]) (w1 := [(mo, .inr (6, [.int th, .int 1, .ref (ma 2), .ref (ma 3), .ref (ma 4), .ref (ma 5), .ref (ma 6), .ref (ma 7), .ref (ma 8), .ref (ma 9), .ref (ma 10), .ref (ma 11), .ref (ma 12), .ref (ma 13), .ref (ma 14), .ref (ma 15), .ref (ma 16), .ref (ma 17), .ref (ma 18), .ref (ma 19), .ref (ma 20), .ref (ma 21), .int 0, .ref (ma 23), .ref (ma 24), .ref (ma 25), .ref (ma 26), .ref (ma 27), .ref (ma 28)])), ((ma 28), wI tC 5 af), ((ma 2), wI tC 600 (fun _ => 0))]) hP hD [0, 1, 2] [3, 4] rfl rfl (by decide) (by decide) hk1 hFc hP1 hD1
            generalize H1 = H at hP hS ⊢
            have hP : va_P D vwCl [((ma 7), wI tC 600 (fun _ => 0)), ((ma 6), wI tC 600 zf), (mo, .inr (6, [.int th, .int 1, .ref (ma 2), .ref (ma 3), .ref (ma 4), .ref (ma 5), .ref (ma 6), .ref (ma 7), .ref (ma 8), .ref (ma 9), .ref (ma 10), .ref (ma 11), .ref (ma 12), .ref (ma 13), .ref (ma 14), .ref (ma 15), .ref (ma 16), .ref (ma 17), .ref (ma 18), .ref (ma 19), .ref (ma 20), .ref (ma 21), .int 0, .ref (ma 23), .ref (ma 24), .ref (ma 25), .ref (ma 26), .ref (ma 27), .ref (ma 28)])), ((ma 28), wI tC 5 af), ((ma 2), wI tC 600 (fun _ => 0))] H := hP
            have hD : va_D A [((ma 7), wI tC 600 (fun _ => 0)), ((ma 6), wI tC 600 zf), (mo, .inr (6, [.int th, .int 1, .ref (ma 2), .ref (ma 3), .ref (ma 4), .ref (ma 5), .ref (ma 6), .ref (ma 7), .ref (ma 8), .ref (ma 9), .ref (ma 10), .ref (ma 11), .ref (ma 12), .ref (ma 13), .ref (ma 14), .ref (ma 15), .ref (ma 16), .ref (ma 17), .ref (ma 18), .ref (ma 19), .ref (ma 20), .ref (ma 21), .int 0, .ref (ma 23), .ref (ma 24), .ref (ma 25), .ref (ma 26), .ref (ma 27), .ref (ma 28)])), ((ma 28), wI tC 5 af), ((ma 2), wI tC 600 (fun _ => 0))] := hD
            have q1 : r_396 = 0 := hw_397.trans (by rw [hb0, hb1, hb2, hb3, hb4] <;> rfl)
            subst q1
            refine lv_istore_n (lv' := [(1, .int 0), (0, .ref mo)]) hx hb dX5_mayGoOn_4 rfl hl (by decide) rfl (fun ls hl => ?_)
            refine lv_iconst (v := 0) hx hb dX5_mayGoOn_5 (by decide) ?_
            refine lv_istore_n (lv' := [(2, .int 0), (1, .int 0), (0, .ref mo)]) hx hb dX5_mayGoOn_6 rfl hl (by decide) rfl (fun ls hl => ?_)
            refine lv_iconst (v := 0) hx hb dX5_mayGoOn_7 (by decide) ?_
            refine lv_istore_n (lv' := [(3, .int 0), (2, .int 0), (1, .int 0), (0, .ref mo)]) hx hb dX5_mayGoOn_8 rfl hl (by decide) rfl (fun ls hl => ?_)
            refine lv_iload_n hx hb dX5_mayGoOn_9 rfl (lv_at hl 0 rfl) ?_
            refine lv_iconst (v := 5) hx hb dX5_mayGoOn_10 (by decide) ?_
            refine lv_icmp_ge (tgt := 71) hx hb dX5_mayGoOn_11 (by decide) (fun hc => absurd hc (by decide)) (fun _ => ?_)
            refine lv_iload_n hx hb dX5_mayGoOn_14 rfl (lv_at hl 2 rfl) ?_
            refine lv_if_lt (tgt := 71) hx hb dX5_mayGoOn_15 (by decide) (fun hc => absurd hc (by decide)) (fun _ => ?_)
            refine lv_aload_n hx hb dX5_mayGoOn_18 rfl (lv_at hl 3 rfl) ?_
            refine va_get (D := D) (ci := 6) (v := .ref (ma 28)) (C := RX5) (T := TX5) (N := 29) hx hb hts in_X5_mayGoOn_X5 hown hK hP 2 rfl rfl 28 (by decide) w_0 (fun _ h9 => h9) rfl dX5_mayGoOn_19 ?_
            refine lv_iload_n hx hb dX5_mayGoOn_22 rfl (lv_at hl 0 rfl) ?_
            refine va_iald hx hb hK hP 3 0 rfl rfl (by unfold vp_in; decide) dX5_mayGoOn_23 ?_
            refine lv_topi (fun z_398 ez_398 => ?_)
            have fz_398 : z_398 = 0 := ez_398.trans (by rw [show (0 : Int32).toNatClampNeg = 0 by decide, haf 0 (by decide), hb0] <;> rfl)
            subst fz_398
            refine lv_if_lt (tgt := 65) hx hb dX5_mayGoOn_24 (by decide) (fun hc => absurd hc (by decide)) (fun _ => ?_)
            refine lv_aload_n hx hb dX5_mayGoOn_27 rfl (lv_at hl 3 rfl) ?_
            refine va_get (D := D) (ci := 6) (v := .ref (ma 2)) (C := RX5) (T := TX5) (N := 29) hx hb hts in_X5_mayGoOn_X5 hown hK hP 2 rfl rfl 2 (by decide) w_1 (fun _ h9 => h9) rfl dX5_mayGoOn_28 ?_
            refine lv_aload_n hx hb dX5_mayGoOn_31 rfl (lv_at hl 3 rfl) ?_
            refine va_get (D := D) (ci := 6) (v := .ref (ma 28)) (C := RX5) (T := TX5) (N := 29) hx hb hts in_X5_mayGoOn_X5 hown hK hP 2 rfl rfl 28 (by decide) w_0 (fun _ h9 => h9) rfl dX5_mayGoOn_32 ?_
            refine lv_iload_n hx hb dX5_mayGoOn_35 rfl (lv_at hl 0 rfl) ?_
            refine va_iald hx hb hK hP 3 0 rfl rfl (by unfold vp_in; decide) dX5_mayGoOn_36 ?_
            refine lv_topi (fun z_399 ez_399 => ?_)
            have fz_399 : z_399 = 0 := ez_399.trans (by rw [show (0 : Int32).toNatClampNeg = 0 by decide, haf 0 (by decide), hb0] <;> rfl)
            subst fz_399
            refine va_iald hx hb hK hP 4 0 rfl rfl (by unfold vp_in; decide) dX5_mayGoOn_37 ?_
            refine lv_topi (fun z_400 ez_400 => ?_)
            have fz_400 : z_400 = 0 := ez_400.trans (rfl)
            subst fz_400
            refine lv_aload_n hx hb dX5_mayGoOn_38 rfl (lv_at hl 3 rfl) ?_
            refine va_get (D := D) (ci := 6) (v := .ref (ma 2)) (C := RX5) (T := TX5) (N := 29) hx hb hts in_X5_mayGoOn_X5 hown hK hP 2 rfl rfl 2 (by decide) w_1 (fun _ h9 => h9) rfl dX5_mayGoOn_39 ?_
            refine lv_iload_n hx hb dX5_mayGoOn_42 rfl (lv_at hl 2 rfl) ?_
            refine va_iald hx hb hK hP 4 0 rfl rfl (by unfold vp_in; decide) dX5_mayGoOn_43 ?_
            refine lv_topi (fun z_401 ez_401 => ?_)
            have fz_401 : z_401 = 0 := ez_401.trans (rfl)
            subst fz_401
            refine lv_icmp_ne (tgt := 65) hx hb dX5_mayGoOn_44 (by decide) (fun hc => absurd (by decide) hc) (fun _ => ?_)
            refine lv_iload_n hx hb dX5_mayGoOn_47 rfl (lv_at hl 1 rfl) ?_
            refine lv_iload_n hx hb dX5_mayGoOn_48 rfl (lv_at hl 0 rfl) ?_
            refine lv_aload_n hx hb dX5_mayGoOn_49 rfl (lv_at hl 3 rfl) ?_
            refine va_get (D := D) (ci := 6) (v := .ref (ma 7)) (C := RX5) (T := TX5) (N := 29) hx hb hts in_X5_mayGoOn_X5 hown hK hP 2 rfl rfl 7 (by decide) w_2 (fun _ h9 => h9) rfl dX5_mayGoOn_50 ?_
            refine lv_iload_n hx hb dX5_mayGoOn_53 rfl (lv_at hl 2 rfl) ?_
            refine va_iald hx hb hK hP 0 0 rfl rfl (by unfold vp_in; decide) dX5_mayGoOn_54 ?_
            refine lv_topi (fun z_402 ez_402 => ?_)
            have fz_402 : z_402 = 0 := ez_402.trans (rfl)
            subst fz_402
            refine lv_icmp_ne (tgt := 62) hx hb dX5_mayGoOn_55 (by decide) (fun hc => absurd (by decide) hc) (fun _ => ?_)
            refine lv_iconst (v := 3) hx hb dX5_mayGoOn_58 (by decide) ?_
            refine lv_goto (tgt := 63) hx hb dX5_mayGoOn_59 (by decide) ?_
            refine lv_iadd hx hb dX5_mayGoOn_63 ?_
            refine lv_topi (fun z_403 ez_403 => ?_)
            have fz_403 : z_403 = 3 := ez_403.trans (by decide)
            subst fz_403
            refine lv_istore_n (lv' := [(2, .int 3), (3, .int 0), (1, .int 0), (0, .ref mo)]) hx hb dX5_mayGoOn_64 rfl hl (by decide) rfl (fun ls hl => ?_)
            refine lv_iinc (v := 1) (lv' := [(3, .int 1), (2, .int 3), (1, .int 0), (0, .ref mo)]) hx hb dX5_mayGoOn_65 hl (k := 1) rfl (by decide) (by decide) rfl (fun ls hl => ?_)
            refine lv_goto (tgt := 9) hx hb dX5_mayGoOn_68 (by decide) ?_
            refine lv_iload_n hx hb dX5_mayGoOn_9 rfl (lv_at hl 0 rfl) ?_
            refine lv_iconst (v := 5) hx hb dX5_mayGoOn_10 (by decide) ?_
            refine lv_icmp_ge (tgt := 71) hx hb dX5_mayGoOn_11 (by decide) (fun hc => absurd hc (by decide)) (fun _ => ?_)
            refine lv_iload_n hx hb dX5_mayGoOn_14 rfl (lv_at hl 2 rfl) ?_
            refine lv_if_lt (tgt := 71) hx hb dX5_mayGoOn_15 (by decide) (fun hc => absurd hc (by decide)) (fun _ => ?_)
            refine lv_aload_n hx hb dX5_mayGoOn_18 rfl (lv_at hl 3 rfl) ?_
            refine va_get (D := D) (ci := 6) (v := .ref (ma 28)) (C := RX5) (T := TX5) (N := 29) hx hb hts in_X5_mayGoOn_X5 hown hK hP 2 rfl rfl 28 (by decide) w_0 (fun _ h9 => h9) rfl dX5_mayGoOn_19 ?_
            refine lv_iload_n hx hb dX5_mayGoOn_22 rfl (lv_at hl 0 rfl) ?_
            refine va_iald hx hb hK hP 3 0 rfl rfl (by unfold vp_in; decide) dX5_mayGoOn_23 ?_
            refine lv_topi (fun z_404 ez_404 => ?_)
            have fz_404 : z_404 = (-1) := ez_404.trans (by rw [show (1 : Int32).toNatClampNeg = 1 by decide, haf 1 (by decide), hb1] <;> rfl)
            subst fz_404
            refine lv_if_lt (tgt := 65) hx hb dX5_mayGoOn_24 (by decide) (fun _ => ?_) (fun hc => absurd (by decide) hc)
            refine lv_iinc (v := 2) (lv' := [(3, .int 2), (2, .int 3), (1, .int 0), (0, .ref mo)]) hx hb dX5_mayGoOn_65 hl (k := 0) rfl (by decide) (by decide) rfl (fun ls hl => ?_)
            refine lv_goto (tgt := 9) hx hb dX5_mayGoOn_68 (by decide) ?_
            refine lv_iload_n hx hb dX5_mayGoOn_9 rfl (lv_at hl 0 rfl) ?_
            refine lv_iconst (v := 5) hx hb dX5_mayGoOn_10 (by decide) ?_
            refine lv_icmp_ge (tgt := 71) hx hb dX5_mayGoOn_11 (by decide) (fun hc => absurd hc (by decide)) (fun _ => ?_)
            refine lv_iload_n hx hb dX5_mayGoOn_14 rfl (lv_at hl 2 rfl) ?_
            refine lv_if_lt (tgt := 71) hx hb dX5_mayGoOn_15 (by decide) (fun hc => absurd hc (by decide)) (fun _ => ?_)
            refine lv_aload_n hx hb dX5_mayGoOn_18 rfl (lv_at hl 3 rfl) ?_
            refine va_get (D := D) (ci := 6) (v := .ref (ma 28)) (C := RX5) (T := TX5) (N := 29) hx hb hts in_X5_mayGoOn_X5 hown hK hP 2 rfl rfl 28 (by decide) w_0 (fun _ h9 => h9) rfl dX5_mayGoOn_19 ?_
            refine lv_iload_n hx hb dX5_mayGoOn_22 rfl (lv_at hl 0 rfl) ?_
            refine va_iald hx hb hK hP 3 0 rfl rfl (by unfold vp_in; decide) dX5_mayGoOn_23 ?_
            refine lv_topi (fun z_405 ez_405 => ?_)
            have fz_405 : z_405 = 0 := ez_405.trans (by rw [show (2 : Int32).toNatClampNeg = 2 by decide, haf 2 (by decide), hb2] <;> rfl)
            subst fz_405
            refine lv_if_lt (tgt := 65) hx hb dX5_mayGoOn_24 (by decide) (fun hc => absurd hc (by decide)) (fun _ => ?_)
            refine lv_aload_n hx hb dX5_mayGoOn_27 rfl (lv_at hl 3 rfl) ?_
            refine va_get (D := D) (ci := 6) (v := .ref (ma 2)) (C := RX5) (T := TX5) (N := 29) hx hb hts in_X5_mayGoOn_X5 hown hK hP 2 rfl rfl 2 (by decide) w_1 (fun _ h9 => h9) rfl dX5_mayGoOn_28 ?_
            refine lv_aload_n hx hb dX5_mayGoOn_31 rfl (lv_at hl 3 rfl) ?_
            refine va_get (D := D) (ci := 6) (v := .ref (ma 28)) (C := RX5) (T := TX5) (N := 29) hx hb hts in_X5_mayGoOn_X5 hown hK hP 2 rfl rfl 28 (by decide) w_0 (fun _ h9 => h9) rfl dX5_mayGoOn_32 ?_
            refine lv_iload_n hx hb dX5_mayGoOn_35 rfl (lv_at hl 0 rfl) ?_
            refine va_iald hx hb hK hP 3 0 rfl rfl (by unfold vp_in; decide) dX5_mayGoOn_36 ?_
            refine lv_topi (fun z_406 ez_406 => ?_)
            have fz_406 : z_406 = 0 := ez_406.trans (by rw [show (2 : Int32).toNatClampNeg = 2 by decide, haf 2 (by decide), hb2] <;> rfl)
            subst fz_406
            refine va_iald hx hb hK hP 4 0 rfl rfl (by unfold vp_in; decide) dX5_mayGoOn_37 ?_
            refine lv_topi (fun z_407 ez_407 => ?_)
            have fz_407 : z_407 = 0 := ez_407.trans (rfl)
            subst fz_407
            refine lv_aload_n hx hb dX5_mayGoOn_38 rfl (lv_at hl 3 rfl) ?_
            refine va_get (D := D) (ci := 6) (v := .ref (ma 2)) (C := RX5) (T := TX5) (N := 29) hx hb hts in_X5_mayGoOn_X5 hown hK hP 2 rfl rfl 2 (by decide) w_1 (fun _ h9 => h9) rfl dX5_mayGoOn_39 ?_
            refine lv_iload_n hx hb dX5_mayGoOn_42 rfl (lv_at hl 2 rfl) ?_
            refine va_iald hx hb hK hP 4 0 rfl rfl (by unfold vp_in; decide) dX5_mayGoOn_43 ?_
            refine lv_topi (fun z_408 ez_408 => ?_)
            have fz_408 : z_408 = 0 := ez_408.trans (rfl)
            subst fz_408
            refine lv_icmp_ne (tgt := 65) hx hb dX5_mayGoOn_44 (by decide) (fun hc => absurd (by decide) hc) (fun _ => ?_)
            refine lv_iload_n hx hb dX5_mayGoOn_47 rfl (lv_at hl 1 rfl) ?_
            refine lv_iload_n hx hb dX5_mayGoOn_48 rfl (lv_at hl 0 rfl) ?_
            refine lv_aload_n hx hb dX5_mayGoOn_49 rfl (lv_at hl 3 rfl) ?_
            refine va_get (D := D) (ci := 6) (v := .ref (ma 7)) (C := RX5) (T := TX5) (N := 29) hx hb hts in_X5_mayGoOn_X5 hown hK hP 2 rfl rfl 7 (by decide) w_2 (fun _ h9 => h9) rfl dX5_mayGoOn_50 ?_
            refine lv_iload_n hx hb dX5_mayGoOn_53 rfl (lv_at hl 2 rfl) ?_
            refine va_iald hx hb hK hP 0 0 rfl rfl (by unfold vp_in; decide) dX5_mayGoOn_54 ?_
            refine lv_topi (fun z_409 ez_409 => ?_)
            have fz_409 : z_409 = 0 := ez_409.trans (rfl)
            subst fz_409
            refine lv_icmp_ne (tgt := 62) hx hb dX5_mayGoOn_55 (by decide) (fun _ => ?_) (fun hc => absurd hc (by decide))
            refine lv_iconst (v := 2) hx hb dX5_mayGoOn_62 (by decide) ?_
            refine lv_iadd hx hb dX5_mayGoOn_63 ?_
            refine lv_topi (fun z_410 ez_410 => ?_)
            have fz_410 : z_410 = 5 := ez_410.trans (by decide)
            subst fz_410
            refine lv_istore_n (lv' := [(2, .int 5), (3, .int 2), (1, .int 0), (0, .ref mo)]) hx hb dX5_mayGoOn_64 rfl hl (by decide) rfl (fun ls hl => ?_)
            refine lv_iinc (v := 3) (lv' := [(3, .int 3), (2, .int 5), (1, .int 0), (0, .ref mo)]) hx hb dX5_mayGoOn_65 hl (k := 1) rfl (by decide) (by decide) rfl (fun ls hl => ?_)
            refine lv_goto (tgt := 9) hx hb dX5_mayGoOn_68 (by decide) ?_
            refine lv_iload_n hx hb dX5_mayGoOn_9 rfl (lv_at hl 0 rfl) ?_
            refine lv_iconst (v := 5) hx hb dX5_mayGoOn_10 (by decide) ?_
            refine lv_icmp_ge (tgt := 71) hx hb dX5_mayGoOn_11 (by decide) (fun hc => absurd hc (by decide)) (fun _ => ?_)
            refine lv_iload_n hx hb dX5_mayGoOn_14 rfl (lv_at hl 2 rfl) ?_
            refine lv_if_lt (tgt := 71) hx hb dX5_mayGoOn_15 (by decide) (fun hc => absurd hc (by decide)) (fun _ => ?_)
            refine lv_aload_n hx hb dX5_mayGoOn_18 rfl (lv_at hl 3 rfl) ?_
            refine va_get (D := D) (ci := 6) (v := .ref (ma 28)) (C := RX5) (T := TX5) (N := 29) hx hb hts in_X5_mayGoOn_X5 hown hK hP 2 rfl rfl 28 (by decide) w_0 (fun _ h9 => h9) rfl dX5_mayGoOn_19 ?_
            refine lv_iload_n hx hb dX5_mayGoOn_22 rfl (lv_at hl 0 rfl) ?_
            refine va_iald hx hb hK hP 3 0 rfl rfl (by unfold vp_in; decide) dX5_mayGoOn_23 ?_
            refine lv_topi (fun z_411 ez_411 => ?_)
            have fz_411 : z_411 = 0 := ez_411.trans (by rw [show (3 : Int32).toNatClampNeg = 3 by decide, haf 3 (by decide), hb3] <;> rfl)
            subst fz_411
            refine lv_if_lt (tgt := 65) hx hb dX5_mayGoOn_24 (by decide) (fun hc => absurd hc (by decide)) (fun _ => ?_)
            refine lv_aload_n hx hb dX5_mayGoOn_27 rfl (lv_at hl 3 rfl) ?_
            refine va_get (D := D) (ci := 6) (v := .ref (ma 2)) (C := RX5) (T := TX5) (N := 29) hx hb hts in_X5_mayGoOn_X5 hown hK hP 2 rfl rfl 2 (by decide) w_1 (fun _ h9 => h9) rfl dX5_mayGoOn_28 ?_
            refine lv_aload_n hx hb dX5_mayGoOn_31 rfl (lv_at hl 3 rfl) ?_
            refine va_get (D := D) (ci := 6) (v := .ref (ma 28)) (C := RX5) (T := TX5) (N := 29) hx hb hts in_X5_mayGoOn_X5 hown hK hP 2 rfl rfl 28 (by decide) w_0 (fun _ h9 => h9) rfl dX5_mayGoOn_32 ?_
            refine lv_iload_n hx hb dX5_mayGoOn_35 rfl (lv_at hl 0 rfl) ?_
            refine va_iald hx hb hK hP 3 0 rfl rfl (by unfold vp_in; decide) dX5_mayGoOn_36 ?_
            refine lv_topi (fun z_412 ez_412 => ?_)
            have fz_412 : z_412 = 0 := ez_412.trans (by rw [show (3 : Int32).toNatClampNeg = 3 by decide, haf 3 (by decide), hb3] <;> rfl)
            subst fz_412
            refine va_iald hx hb hK hP 4 0 rfl rfl (by unfold vp_in; decide) dX5_mayGoOn_37 ?_
            refine lv_topi (fun z_413 ez_413 => ?_)
            have fz_413 : z_413 = 0 := ez_413.trans (rfl)
            subst fz_413
            refine lv_aload_n hx hb dX5_mayGoOn_38 rfl (lv_at hl 3 rfl) ?_
            refine va_get (D := D) (ci := 6) (v := .ref (ma 2)) (C := RX5) (T := TX5) (N := 29) hx hb hts in_X5_mayGoOn_X5 hown hK hP 2 rfl rfl 2 (by decide) w_1 (fun _ h9 => h9) rfl dX5_mayGoOn_39 ?_
            refine lv_iload_n hx hb dX5_mayGoOn_42 rfl (lv_at hl 2 rfl) ?_
            refine va_iald hx hb hK hP 4 0 rfl rfl (by unfold vp_in; decide) dX5_mayGoOn_43 ?_
            refine lv_topi (fun z_414 ez_414 => ?_)
            have fz_414 : z_414 = 0 := ez_414.trans (rfl)
            subst fz_414
            refine lv_icmp_ne (tgt := 65) hx hb dX5_mayGoOn_44 (by decide) (fun hc => absurd (by decide) hc) (fun _ => ?_)
            refine lv_iload_n hx hb dX5_mayGoOn_47 rfl (lv_at hl 1 rfl) ?_
            refine lv_iload_n hx hb dX5_mayGoOn_48 rfl (lv_at hl 0 rfl) ?_
            refine lv_aload_n hx hb dX5_mayGoOn_49 rfl (lv_at hl 3 rfl) ?_
            refine va_get (D := D) (ci := 6) (v := .ref (ma 7)) (C := RX5) (T := TX5) (N := 29) hx hb hts in_X5_mayGoOn_X5 hown hK hP 2 rfl rfl 7 (by decide) w_2 (fun _ h9 => h9) rfl dX5_mayGoOn_50 ?_
            refine lv_iload_n hx hb dX5_mayGoOn_53 rfl (lv_at hl 2 rfl) ?_
            refine va_iald hx hb hK hP 0 0 rfl rfl (by unfold vp_in; decide) dX5_mayGoOn_54 ?_
            refine lv_topi (fun z_415 ez_415 => ?_)
            have fz_415 : z_415 = 0 := ez_415.trans (rfl)
            subst fz_415
            refine lv_icmp_ne (tgt := 62) hx hb dX5_mayGoOn_55 (by decide) (fun _ => ?_) (fun hc => absurd hc (by decide))
            refine lv_iconst (v := 2) hx hb dX5_mayGoOn_62 (by decide) ?_
            refine lv_iadd hx hb dX5_mayGoOn_63 ?_
            refine lv_topi (fun z_416 ez_416 => ?_)
            have fz_416 : z_416 = 7 := ez_416.trans (by decide)
            subst fz_416
            refine lv_istore_n (lv' := [(2, .int 7), (3, .int 3), (1, .int 0), (0, .ref mo)]) hx hb dX5_mayGoOn_64 rfl hl (by decide) rfl (fun ls hl => ?_)
            refine lv_iinc (v := 4) (lv' := [(3, .int 4), (2, .int 7), (1, .int 0), (0, .ref mo)]) hx hb dX5_mayGoOn_65 hl (k := 1) rfl (by decide) (by decide) rfl (fun ls hl => ?_)
            refine lv_goto (tgt := 9) hx hb dX5_mayGoOn_68 (by decide) ?_
            refine lv_iload_n hx hb dX5_mayGoOn_9 rfl (lv_at hl 0 rfl) ?_
            refine lv_iconst (v := 5) hx hb dX5_mayGoOn_10 (by decide) ?_
            refine lv_icmp_ge (tgt := 71) hx hb dX5_mayGoOn_11 (by decide) (fun hc => absurd hc (by decide)) (fun _ => ?_)
            refine lv_iload_n hx hb dX5_mayGoOn_14 rfl (lv_at hl 2 rfl) ?_
            refine lv_if_lt (tgt := 71) hx hb dX5_mayGoOn_15 (by decide) (fun hc => absurd hc (by decide)) (fun _ => ?_)
            refine lv_aload_n hx hb dX5_mayGoOn_18 rfl (lv_at hl 3 rfl) ?_
            refine va_get (D := D) (ci := 6) (v := .ref (ma 28)) (C := RX5) (T := TX5) (N := 29) hx hb hts in_X5_mayGoOn_X5 hown hK hP 2 rfl rfl 28 (by decide) w_0 (fun _ h9 => h9) rfl dX5_mayGoOn_19 ?_
            refine lv_iload_n hx hb dX5_mayGoOn_22 rfl (lv_at hl 0 rfl) ?_
            refine va_iald hx hb hK hP 3 0 rfl rfl (by unfold vp_in; decide) dX5_mayGoOn_23 ?_
            refine lv_topi (fun z_417 ez_417 => ?_)
            have fz_417 : z_417 = (-1) := ez_417.trans (by rw [show (4 : Int32).toNatClampNeg = 4 by decide, haf 4 (by decide), hb4] <;> rfl)
            subst fz_417
            refine lv_if_lt (tgt := 65) hx hb dX5_mayGoOn_24 (by decide) (fun _ => ?_) (fun hc => absurd (by decide) hc)
            refine lv_iinc (v := 5) (lv' := [(3, .int 5), (2, .int 7), (1, .int 0), (0, .ref mo)]) hx hb dX5_mayGoOn_65 hl (k := 0) rfl (by decide) (by decide) rfl (fun ls hl => ?_)
            refine lv_goto (tgt := 9) hx hb dX5_mayGoOn_68 (by decide) ?_
            refine lv_iload_n hx hb dX5_mayGoOn_9 rfl (lv_at hl 0 rfl) ?_
            refine lv_iconst (v := 5) hx hb dX5_mayGoOn_10 (by decide) ?_
            refine lv_icmp_ge (tgt := 71) hx hb dX5_mayGoOn_11 (by decide) (fun _ => ?_) (fun hc => absurd (by decide) hc)
            refine lv_iload_n hx hb dX5_mayGoOn_71 rfl (lv_at hl 2 rfl) ?_
            refine lv_if_lt (tgt := 89) hx hb dX5_mayGoOn_72 (by decide) (fun hc => absurd hc (by decide)) (fun _ => ?_)
            refine lv_iload_n hx hb dX5_mayGoOn_75 rfl (lv_at hl 1 rfl) ?_
            refine lv_aload_n hx hb dX5_mayGoOn_76 rfl (lv_at hl 3 rfl) ?_
            refine va_get (D := D) (ci := 6) (v := .ref (ma 6)) (C := RX5) (T := TX5) (N := 29) hx hb hts in_X5_mayGoOn_X5 hown hK hP 2 rfl rfl 6 (by decide) w_3 (fun _ h9 => h9) rfl dX5_mayGoOn_77 ?_
            refine lv_iload_n hx hb dX5_mayGoOn_80 rfl (lv_at hl 2 rfl) ?_
            refine va_iald hx hb hK hP 1 0 rfl rfl (by unfold vp_in; decide) dX5_mayGoOn_81 ?_
            refine lv_topi (fun z_418 ez_418 => ?_)
            have fz_418 : z_418 = 5 := ez_418.trans (hzf)
            subst fz_418
            refine lv_icmp_le (tgt := 89) hx hb dX5_mayGoOn_82 (by decide) (fun hc => absurd hc (by decide)) (fun _ => ?_)
            refine lv_iconst (v := 1) hx hb dX5_mayGoOn_85 (by decide) ?_
            refine lv_goto (tgt := 90) hx hb dX5_mayGoOn_86 (by decide) ?_
            have hP9 := hP.sub (ws' := [(mo, .inr (6, [.int th, .int 1, .ref (ma 2), .ref (ma 3), .ref (ma 4), .ref (ma 5), .ref (ma 6), .ref (ma 7), .ref (ma 8), .ref (ma 9), .ref (ma 10), .ref (ma 11), .ref (ma 12), .ref (ma 13), .ref (ma 14), .ref (ma 15), .ref (ma 16), .ref (ma 17), .ref (ma 18), .ref (ma 19), .ref (ma 20), .ref (ma 21), .int 0, .ref (ma 23), .ref (ma 24), .ref (ma 25), .ref (ma 26), .ref (ma 27), .ref (ma 28)])), ((ma 28), wI tC 5 af), ((ma 2), wI tC 600 (fun _ => 0)), ((ma 7), wI tC 600 (fun _ => 0)), ((ma 6), wI tC 600 zf)]) [2, 3, 4, 0, 1] rfl
            have hD9 := hD.sub (ws' := [(mo, .inr (6, [.int th, .int 1, .ref (ma 2), .ref (ma 3), .ref (ma 4), .ref (ma 5), .ref (ma 6), .ref (ma 7), .ref (ma 8), .ref (ma 9), .ref (ma 10), .ref (ma 11), .ref (ma 12), .ref (ma 13), .ref (ma 14), .ref (ma 15), .ref (ma 16), .ref (ma 17), .ref (ma 18), .ref (ma 19), .ref (ma 20), .ref (ma 21), .int 0, .ref (ma 23), .ref (ma 24), .ref (ma 25), .ref (ma 26), .ref (ma 27), .ref (ma 28)])), ((ma 28), wI tC 5 af), ((ma 2), wI tC 600 (fun _ => 0)), ((ma 7), wI tC 600 (fun _ => 0)), ((ma 6), wI tC 600 zf)]) [2, 3, 4, 0, 1] (by decide) rfl
            refine W.widen (k := 0) (n := 0) (by omega) (by omega) ?_
            exact W.zret (v := 1) hx hb hr (by decide) (fun t ht hW => ⟨⟨1, (), rfl, (by unfold mayg cntb; rw [hb0, hb1, hb2, hb3, hb4] <;> decide), (by rw [ht]; exact hP9), va_K.moved hW.alike hK, hD9⟩, hS.F ht⟩) hS.2.2 dX5_mayGoOn_90 hlocks
          · skip
            refine lv_aload_n hx hb dX5_mayGoOn_0 rfl (lv_at hl 0 rfl) ?_
            have hPc := hP.sub (ws' := [(mo, .inr (6, [.int th, .int 1, .ref (ma 2), .ref (ma 3), .ref (ma 4), .ref (ma 5), .ref (ma 6), .ref (ma 7), .ref (ma 8), .ref (ma 9), .ref (ma 10), .ref (ma 11), .ref (ma 12), .ref (ma 13), .ref (ma 14), .ref (ma 15), .ref (ma 16), .ref (ma 17), .ref (ma 18), .ref (ma 19), .ref (ma 20), .ref (ma 21), .int 0, .ref (ma 23), .ref (ma 24), .ref (ma 25), .ref (ma 26), .ref (ma 27), .ref (ma 28)])), ((ma 28), wI tC 5 af), ((ma 2), wI tC 600 (fun _ => 0))]) [0, 1, 2] rfl
            have hDc := hD.sub (ws' := [(mo, .inr (6, [.int th, .int 1, .ref (ma 2), .ref (ma 3), .ref (ma 4), .ref (ma 5), .ref (ma 6), .ref (ma 7), .ref (ma 8), .ref (ma 9), .ref (ma 10), .ref (ma 11), .ref (ma 12), .ref (ma 13), .ref (ma 14), .ref (ma 15), .ref (ma 16), .ref (ma 17), .ref (ma 18), .ref (ma 19), .ref (ma 20), .ref (ma 21), .int 0, .ref (ma 23), .ref (ma 24), .ref (ma 25), .ref (ma 26), .ref (ma 27), .ref (ma 28)])), ((ma 28), wI tC 5 af), ((ma 2), wI tC 600 (fun _ => 0))]) [0, 1, 2] (by decide) rfl
            have hFc := va_free (wc := [(mo, .inr (6, [.int th, .int 1, .ref (ma 2), .ref (ma 3), .ref (ma 4), .ref (ma 5), .ref (ma 6), .ref (ma 7), .ref (ma 8), .ref (ma 9), .ref (ma 10), .ref (ma 11), .ref (ma 12), .ref (ma 13), .ref (ma 14), .ref (ma 15), .ref (ma 16), .ref (ma 17), .ref (ma 18), .ref (ma 19), .ref (ma 20), .ref (ma 21), .int 0, .ref (ma 23), .ref (ma 24), .ref (ma 25), .ref (ma 26), .ref (ma 27), .ref (ma 28)])), ((ma 28), wI tC 5 af), ((ma 2), wI tC 600 (fun _ => 0))]) hD hS hA [0, 1, 2] rfl
            refine va_calli (va_runV (As := []) (rest := []) ⟨hx, hb, hml, hown, hts⟩ (c_X5_greatest l hlt D tC dz s.heap.size mo ma th af bt haf) (cwV 0 hts gX5_mayGoOn_X5_greatest rfl rfl rfl (by decide +kernel) ⟨Nat.le_of_ble_eq_true rfl, Nat.le_of_ble_eq_true rfl⟩) ⟨pB_blind, va_recv hK hPc (ci := 6) (q0 := 0) rfl rfl, pB_at hPc hDc hK hN hE hS hFc⟩ rfl rfl hl.1 rfl (lv_room (Nat.le_of_ble_eq_true rfl)) dX5_mayGoOn_1 ⟨Nat.le_of_ble_eq_true rfl, Nat.le_of_ble_eq_true rfl⟩) hS (fun q _ h => hFc q h) hFc (fun r_419 u t H1 locs ht hvm hw hB hz1 hk1 hS => ?_)
            obtain ⟨hP1, _, hD1⟩ := hB
            have hw_420 := hw
            rw [ht] at hP1
            obtain ⟨hP, hD⟩ := va_join (wr := [((ma 7), wI tC 600 (fun _ => 0)), ((ma 6), wI tC 600 zf)]) (w1 := [(mo, .inr (6, [.int th, .int 1, .ref (ma 2), .ref (ma 3), .ref (ma 4), .ref (ma 5), .ref (ma 6), .ref (ma 7), .ref (ma 8), .ref (ma 9), .ref (ma 10), .ref (ma 11), .ref (ma 12), .ref (ma 13), .ref (ma 14), .ref (ma 15), .ref (ma 16), .ref (ma 17), .ref (ma 18), .ref (ma 19), .ref (ma 20), .ref (ma 21), .int 0, .ref (ma 23), .ref (ma 24), .ref (ma 25), .ref (ma 26), .ref (ma 27), .ref (ma 28)])), ((ma 28), wI tC 5 af), ((ma 2), wI tC 600 (fun _ => 0))]) hP hD [0, 1, 2] [3, 4] rfl rfl (by decide) (by decide) hk1 hFc hP1 hD1
            generalize H1 = H at hP hS ⊢
            have hP : va_P D vwCl [((ma 7), wI tC 600 (fun _ => 0)), ((ma 6), wI tC 600 zf), (mo, .inr (6, [.int th, .int 1, .ref (ma 2), .ref (ma 3), .ref (ma 4), .ref (ma 5), .ref (ma 6), .ref (ma 7), .ref (ma 8), .ref (ma 9), .ref (ma 10), .ref (ma 11), .ref (ma 12), .ref (ma 13), .ref (ma 14), .ref (ma 15), .ref (ma 16), .ref (ma 17), .ref (ma 18), .ref (ma 19), .ref (ma 20), .ref (ma 21), .int 0, .ref (ma 23), .ref (ma 24), .ref (ma 25), .ref (ma 26), .ref (ma 27), .ref (ma 28)])), ((ma 28), wI tC 5 af), ((ma 2), wI tC 600 (fun _ => 0))] H := hP
            have hD : va_D A [((ma 7), wI tC 600 (fun _ => 0)), ((ma 6), wI tC 600 zf), (mo, .inr (6, [.int th, .int 1, .ref (ma 2), .ref (ma 3), .ref (ma 4), .ref (ma 5), .ref (ma 6), .ref (ma 7), .ref (ma 8), .ref (ma 9), .ref (ma 10), .ref (ma 11), .ref (ma 12), .ref (ma 13), .ref (ma 14), .ref (ma 15), .ref (ma 16), .ref (ma 17), .ref (ma 18), .ref (ma 19), .ref (ma 20), .ref (ma 21), .int 0, .ref (ma 23), .ref (ma 24), .ref (ma 25), .ref (ma 26), .ref (ma 27), .ref (ma 28)])), ((ma 28), wI tC 5 af), ((ma 2), wI tC 600 (fun _ => 0))] := hD
            have q1 : r_419 = 0 := hw_420.trans (by rw [hb0, hb1, hb2, hb3, hb4] <;> rfl)
            subst q1
            refine lv_istore_n (lv' := [(1, .int 0), (0, .ref mo)]) hx hb dX5_mayGoOn_4 rfl hl (by decide) rfl (fun ls hl => ?_)
            refine lv_iconst (v := 0) hx hb dX5_mayGoOn_5 (by decide) ?_
            refine lv_istore_n (lv' := [(2, .int 0), (1, .int 0), (0, .ref mo)]) hx hb dX5_mayGoOn_6 rfl hl (by decide) rfl (fun ls hl => ?_)
            refine lv_iconst (v := 0) hx hb dX5_mayGoOn_7 (by decide) ?_
            refine lv_istore_n (lv' := [(3, .int 0), (2, .int 0), (1, .int 0), (0, .ref mo)]) hx hb dX5_mayGoOn_8 rfl hl (by decide) rfl (fun ls hl => ?_)
            refine lv_iload_n hx hb dX5_mayGoOn_9 rfl (lv_at hl 0 rfl) ?_
            refine lv_iconst (v := 5) hx hb dX5_mayGoOn_10 (by decide) ?_
            refine lv_icmp_ge (tgt := 71) hx hb dX5_mayGoOn_11 (by decide) (fun hc => absurd hc (by decide)) (fun _ => ?_)
            refine lv_iload_n hx hb dX5_mayGoOn_14 rfl (lv_at hl 2 rfl) ?_
            refine lv_if_lt (tgt := 71) hx hb dX5_mayGoOn_15 (by decide) (fun hc => absurd hc (by decide)) (fun _ => ?_)
            refine lv_aload_n hx hb dX5_mayGoOn_18 rfl (lv_at hl 3 rfl) ?_
            refine va_get (D := D) (ci := 6) (v := .ref (ma 28)) (C := RX5) (T := TX5) (N := 29) hx hb hts in_X5_mayGoOn_X5 hown hK hP 2 rfl rfl 28 (by decide) w_0 (fun _ h9 => h9) rfl dX5_mayGoOn_19 ?_
            refine lv_iload_n hx hb dX5_mayGoOn_22 rfl (lv_at hl 0 rfl) ?_
            refine va_iald hx hb hK hP 3 0 rfl rfl (by unfold vp_in; decide) dX5_mayGoOn_23 ?_
            refine lv_topi (fun z_421 ez_421 => ?_)
            have fz_421 : z_421 = 0 := ez_421.trans (by rw [show (0 : Int32).toNatClampNeg = 0 by decide, haf 0 (by decide), hb0] <;> rfl)
            subst fz_421
            refine lv_if_lt (tgt := 65) hx hb dX5_mayGoOn_24 (by decide) (fun hc => absurd hc (by decide)) (fun _ => ?_)
            refine lv_aload_n hx hb dX5_mayGoOn_27 rfl (lv_at hl 3 rfl) ?_
            refine va_get (D := D) (ci := 6) (v := .ref (ma 2)) (C := RX5) (T := TX5) (N := 29) hx hb hts in_X5_mayGoOn_X5 hown hK hP 2 rfl rfl 2 (by decide) w_1 (fun _ h9 => h9) rfl dX5_mayGoOn_28 ?_
            refine lv_aload_n hx hb dX5_mayGoOn_31 rfl (lv_at hl 3 rfl) ?_
            refine va_get (D := D) (ci := 6) (v := .ref (ma 28)) (C := RX5) (T := TX5) (N := 29) hx hb hts in_X5_mayGoOn_X5 hown hK hP 2 rfl rfl 28 (by decide) w_0 (fun _ h9 => h9) rfl dX5_mayGoOn_32 ?_
            refine lv_iload_n hx hb dX5_mayGoOn_35 rfl (lv_at hl 0 rfl) ?_
            refine va_iald hx hb hK hP 3 0 rfl rfl (by unfold vp_in; decide) dX5_mayGoOn_36 ?_
            refine lv_topi (fun z_422 ez_422 => ?_)
            have fz_422 : z_422 = 0 := ez_422.trans (by rw [show (0 : Int32).toNatClampNeg = 0 by decide, haf 0 (by decide), hb0] <;> rfl)
            subst fz_422
            refine va_iald hx hb hK hP 4 0 rfl rfl (by unfold vp_in; decide) dX5_mayGoOn_37 ?_
            refine lv_topi (fun z_423 ez_423 => ?_)
            have fz_423 : z_423 = 0 := ez_423.trans (rfl)
            subst fz_423
            refine lv_aload_n hx hb dX5_mayGoOn_38 rfl (lv_at hl 3 rfl) ?_
            refine va_get (D := D) (ci := 6) (v := .ref (ma 2)) (C := RX5) (T := TX5) (N := 29) hx hb hts in_X5_mayGoOn_X5 hown hK hP 2 rfl rfl 2 (by decide) w_1 (fun _ h9 => h9) rfl dX5_mayGoOn_39 ?_
            refine lv_iload_n hx hb dX5_mayGoOn_42 rfl (lv_at hl 2 rfl) ?_
            refine va_iald hx hb hK hP 4 0 rfl rfl (by unfold vp_in; decide) dX5_mayGoOn_43 ?_
            refine lv_topi (fun z_424 ez_424 => ?_)
            have fz_424 : z_424 = 0 := ez_424.trans (rfl)
            subst fz_424
            refine lv_icmp_ne (tgt := 65) hx hb dX5_mayGoOn_44 (by decide) (fun hc => absurd (by decide) hc) (fun _ => ?_)
            refine lv_iload_n hx hb dX5_mayGoOn_47 rfl (lv_at hl 1 rfl) ?_
            refine lv_iload_n hx hb dX5_mayGoOn_48 rfl (lv_at hl 0 rfl) ?_
            refine lv_aload_n hx hb dX5_mayGoOn_49 rfl (lv_at hl 3 rfl) ?_
            refine va_get (D := D) (ci := 6) (v := .ref (ma 7)) (C := RX5) (T := TX5) (N := 29) hx hb hts in_X5_mayGoOn_X5 hown hK hP 2 rfl rfl 7 (by decide) w_2 (fun _ h9 => h9) rfl dX5_mayGoOn_50 ?_
            refine lv_iload_n hx hb dX5_mayGoOn_53 rfl (lv_at hl 2 rfl) ?_
            refine va_iald hx hb hK hP 0 0 rfl rfl (by unfold vp_in; decide) dX5_mayGoOn_54 ?_
            refine lv_topi (fun z_425 ez_425 => ?_)
            have fz_425 : z_425 = 0 := ez_425.trans (rfl)
            subst fz_425
            refine lv_icmp_ne (tgt := 62) hx hb dX5_mayGoOn_55 (by decide) (fun hc => absurd (by decide) hc) (fun _ => ?_)
            refine lv_iconst (v := 3) hx hb dX5_mayGoOn_58 (by decide) ?_
            refine lv_goto (tgt := 63) hx hb dX5_mayGoOn_59 (by decide) ?_
            refine lv_iadd hx hb dX5_mayGoOn_63 ?_
            refine lv_topi (fun z_426 ez_426 => ?_)
            have fz_426 : z_426 = 3 := ez_426.trans (by decide)
            subst fz_426
            refine lv_istore_n (lv' := [(2, .int 3), (3, .int 0), (1, .int 0), (0, .ref mo)]) hx hb dX5_mayGoOn_64 rfl hl (by decide) rfl (fun ls hl => ?_)
            refine lv_iinc (v := 1) (lv' := [(3, .int 1), (2, .int 3), (1, .int 0), (0, .ref mo)]) hx hb dX5_mayGoOn_65 hl (k := 1) rfl (by decide) (by decide) rfl (fun ls hl => ?_)
            refine lv_goto (tgt := 9) hx hb dX5_mayGoOn_68 (by decide) ?_
            refine lv_iload_n hx hb dX5_mayGoOn_9 rfl (lv_at hl 0 rfl) ?_
            refine lv_iconst (v := 5) hx hb dX5_mayGoOn_10 (by decide) ?_
            refine lv_icmp_ge (tgt := 71) hx hb dX5_mayGoOn_11 (by decide) (fun hc => absurd hc (by decide)) (fun _ => ?_)
            refine lv_iload_n hx hb dX5_mayGoOn_14 rfl (lv_at hl 2 rfl) ?_
            refine lv_if_lt (tgt := 71) hx hb dX5_mayGoOn_15 (by decide) (fun hc => absurd hc (by decide)) (fun _ => ?_)
            refine lv_aload_n hx hb dX5_mayGoOn_18 rfl (lv_at hl 3 rfl) ?_
            refine va_get (D := D) (ci := 6) (v := .ref (ma 28)) (C := RX5) (T := TX5) (N := 29) hx hb hts in_X5_mayGoOn_X5 hown hK hP 2 rfl rfl 28 (by decide) w_0 (fun _ h9 => h9) rfl dX5_mayGoOn_19 ?_
            refine lv_iload_n hx hb dX5_mayGoOn_22 rfl (lv_at hl 0 rfl) ?_
            refine va_iald hx hb hK hP 3 0 rfl rfl (by unfold vp_in; decide) dX5_mayGoOn_23 ?_
            refine lv_topi (fun z_427 ez_427 => ?_)
            have fz_427 : z_427 = (-1) := ez_427.trans (by rw [show (1 : Int32).toNatClampNeg = 1 by decide, haf 1 (by decide), hb1] <;> rfl)
            subst fz_427
            refine lv_if_lt (tgt := 65) hx hb dX5_mayGoOn_24 (by decide) (fun _ => ?_) (fun hc => absurd (by decide) hc)
            refine lv_iinc (v := 2) (lv' := [(3, .int 2), (2, .int 3), (1, .int 0), (0, .ref mo)]) hx hb dX5_mayGoOn_65 hl (k := 0) rfl (by decide) (by decide) rfl (fun ls hl => ?_)
            refine lv_goto (tgt := 9) hx hb dX5_mayGoOn_68 (by decide) ?_
            refine lv_iload_n hx hb dX5_mayGoOn_9 rfl (lv_at hl 0 rfl) ?_
            refine lv_iconst (v := 5) hx hb dX5_mayGoOn_10 (by decide) ?_
            refine lv_icmp_ge (tgt := 71) hx hb dX5_mayGoOn_11 (by decide) (fun hc => absurd hc (by decide)) (fun _ => ?_)
            refine lv_iload_n hx hb dX5_mayGoOn_14 rfl (lv_at hl 2 rfl) ?_
            refine lv_if_lt (tgt := 71) hx hb dX5_mayGoOn_15 (by decide) (fun hc => absurd hc (by decide)) (fun _ => ?_)
            refine lv_aload_n hx hb dX5_mayGoOn_18 rfl (lv_at hl 3 rfl) ?_
            refine va_get (D := D) (ci := 6) (v := .ref (ma 28)) (C := RX5) (T := TX5) (N := 29) hx hb hts in_X5_mayGoOn_X5 hown hK hP 2 rfl rfl 28 (by decide) w_0 (fun _ h9 => h9) rfl dX5_mayGoOn_19 ?_
            refine lv_iload_n hx hb dX5_mayGoOn_22 rfl (lv_at hl 0 rfl) ?_
            refine va_iald hx hb hK hP 3 0 rfl rfl (by unfold vp_in; decide) dX5_mayGoOn_23 ?_
            refine lv_topi (fun z_428 ez_428 => ?_)
            have fz_428 : z_428 = 0 := ez_428.trans (by rw [show (2 : Int32).toNatClampNeg = 2 by decide, haf 2 (by decide), hb2] <;> rfl)
            subst fz_428
            refine lv_if_lt (tgt := 65) hx hb dX5_mayGoOn_24 (by decide) (fun hc => absurd hc (by decide)) (fun _ => ?_)
            refine lv_aload_n hx hb dX5_mayGoOn_27 rfl (lv_at hl 3 rfl) ?_
            refine va_get (D := D) (ci := 6) (v := .ref (ma 2)) (C := RX5) (T := TX5) (N := 29) hx hb hts in_X5_mayGoOn_X5 hown hK hP 2 rfl rfl 2 (by decide) w_1 (fun _ h9 => h9) rfl dX5_mayGoOn_28 ?_
            refine lv_aload_n hx hb dX5_mayGoOn_31 rfl (lv_at hl 3 rfl) ?_
            refine va_get (D := D) (ci := 6) (v := .ref (ma 28)) (C := RX5) (T := TX5) (N := 29) hx hb hts in_X5_mayGoOn_X5 hown hK hP 2 rfl rfl 28 (by decide) w_0 (fun _ h9 => h9) rfl dX5_mayGoOn_32 ?_
            refine lv_iload_n hx hb dX5_mayGoOn_35 rfl (lv_at hl 0 rfl) ?_
            refine va_iald hx hb hK hP 3 0 rfl rfl (by unfold vp_in; decide) dX5_mayGoOn_36 ?_
            refine lv_topi (fun z_429 ez_429 => ?_)
            have fz_429 : z_429 = 0 := ez_429.trans (by rw [show (2 : Int32).toNatClampNeg = 2 by decide, haf 2 (by decide), hb2] <;> rfl)
            subst fz_429
            refine va_iald hx hb hK hP 4 0 rfl rfl (by unfold vp_in; decide) dX5_mayGoOn_37 ?_
            refine lv_topi (fun z_430 ez_430 => ?_)
            have fz_430 : z_430 = 0 := ez_430.trans (rfl)
            subst fz_430
            refine lv_aload_n hx hb dX5_mayGoOn_38 rfl (lv_at hl 3 rfl) ?_
            refine va_get (D := D) (ci := 6) (v := .ref (ma 2)) (C := RX5) (T := TX5) (N := 29) hx hb hts in_X5_mayGoOn_X5 hown hK hP 2 rfl rfl 2 (by decide) w_1 (fun _ h9 => h9) rfl dX5_mayGoOn_39 ?_
            refine lv_iload_n hx hb dX5_mayGoOn_42 rfl (lv_at hl 2 rfl) ?_
            refine va_iald hx hb hK hP 4 0 rfl rfl (by unfold vp_in; decide) dX5_mayGoOn_43 ?_
            refine lv_topi (fun z_431 ez_431 => ?_)
            have fz_431 : z_431 = 0 := ez_431.trans (rfl)
            subst fz_431
            refine lv_icmp_ne (tgt := 65) hx hb dX5_mayGoOn_44 (by decide) (fun hc => absurd (by decide) hc) (fun _ => ?_)
            refine lv_iload_n hx hb dX5_mayGoOn_47 rfl (lv_at hl 1 rfl) ?_
            refine lv_iload_n hx hb dX5_mayGoOn_48 rfl (lv_at hl 0 rfl) ?_
            refine lv_aload_n hx hb dX5_mayGoOn_49 rfl (lv_at hl 3 rfl) ?_
            refine va_get (D := D) (ci := 6) (v := .ref (ma 7)) (C := RX5) (T := TX5) (N := 29) hx hb hts in_X5_mayGoOn_X5 hown hK hP 2 rfl rfl 7 (by decide) w_2 (fun _ h9 => h9) rfl dX5_mayGoOn_50 ?_
            refine lv_iload_n hx hb dX5_mayGoOn_53 rfl (lv_at hl 2 rfl) ?_
            refine va_iald hx hb hK hP 0 0 rfl rfl (by unfold vp_in; decide) dX5_mayGoOn_54 ?_
            refine lv_topi (fun z_432 ez_432 => ?_)
            have fz_432 : z_432 = 0 := ez_432.trans (rfl)
            subst fz_432
            refine lv_icmp_ne (tgt := 62) hx hb dX5_mayGoOn_55 (by decide) (fun _ => ?_) (fun hc => absurd hc (by decide))
            refine lv_iconst (v := 2) hx hb dX5_mayGoOn_62 (by decide) ?_
            refine lv_iadd hx hb dX5_mayGoOn_63 ?_
            refine lv_topi (fun z_433 ez_433 => ?_)
            have fz_433 : z_433 = 5 := ez_433.trans (by decide)
            subst fz_433
            refine lv_istore_n (lv' := [(2, .int 5), (3, .int 2), (1, .int 0), (0, .ref mo)]) hx hb dX5_mayGoOn_64 rfl hl (by decide) rfl (fun ls hl => ?_)
            refine lv_iinc (v := 3) (lv' := [(3, .int 3), (2, .int 5), (1, .int 0), (0, .ref mo)]) hx hb dX5_mayGoOn_65 hl (k := 1) rfl (by decide) (by decide) rfl (fun ls hl => ?_)
            refine lv_goto (tgt := 9) hx hb dX5_mayGoOn_68 (by decide) ?_
            refine lv_iload_n hx hb dX5_mayGoOn_9 rfl (lv_at hl 0 rfl) ?_
            refine lv_iconst (v := 5) hx hb dX5_mayGoOn_10 (by decide) ?_
            refine lv_icmp_ge (tgt := 71) hx hb dX5_mayGoOn_11 (by decide) (fun hc => absurd hc (by decide)) (fun _ => ?_)
            refine lv_iload_n hx hb dX5_mayGoOn_14 rfl (lv_at hl 2 rfl) ?_
            refine lv_if_lt (tgt := 71) hx hb dX5_mayGoOn_15 (by decide) (fun hc => absurd hc (by decide)) (fun _ => ?_)
            refine lv_aload_n hx hb dX5_mayGoOn_18 rfl (lv_at hl 3 rfl) ?_
            refine va_get (D := D) (ci := 6) (v := .ref (ma 28)) (C := RX5) (T := TX5) (N := 29) hx hb hts in_X5_mayGoOn_X5 hown hK hP 2 rfl rfl 28 (by decide) w_0 (fun _ h9 => h9) rfl dX5_mayGoOn_19 ?_
            refine lv_iload_n hx hb dX5_mayGoOn_22 rfl (lv_at hl 0 rfl) ?_
            refine va_iald hx hb hK hP 3 0 rfl rfl (by unfold vp_in; decide) dX5_mayGoOn_23 ?_
            refine lv_topi (fun z_434 ez_434 => ?_)
            have fz_434 : z_434 = 0 := ez_434.trans (by rw [show (3 : Int32).toNatClampNeg = 3 by decide, haf 3 (by decide), hb3] <;> rfl)
            subst fz_434
            refine lv_if_lt (tgt := 65) hx hb dX5_mayGoOn_24 (by decide) (fun hc => absurd hc (by decide)) (fun _ => ?_)
            refine lv_aload_n hx hb dX5_mayGoOn_27 rfl (lv_at hl 3 rfl) ?_
            refine va_get (D := D) (ci := 6) (v := .ref (ma 2)) (C := RX5) (T := TX5) (N := 29) hx hb hts in_X5_mayGoOn_X5 hown hK hP 2 rfl rfl 2 (by decide) w_1 (fun _ h9 => h9) rfl dX5_mayGoOn_28 ?_
            refine lv_aload_n hx hb dX5_mayGoOn_31 rfl (lv_at hl 3 rfl) ?_
            refine va_get (D := D) (ci := 6) (v := .ref (ma 28)) (C := RX5) (T := TX5) (N := 29) hx hb hts in_X5_mayGoOn_X5 hown hK hP 2 rfl rfl 28 (by decide) w_0 (fun _ h9 => h9) rfl dX5_mayGoOn_32 ?_
            refine lv_iload_n hx hb dX5_mayGoOn_35 rfl (lv_at hl 0 rfl) ?_
            refine va_iald hx hb hK hP 3 0 rfl rfl (by unfold vp_in; decide) dX5_mayGoOn_36 ?_
            refine lv_topi (fun z_435 ez_435 => ?_)
            have fz_435 : z_435 = 0 := ez_435.trans (by rw [show (3 : Int32).toNatClampNeg = 3 by decide, haf 3 (by decide), hb3] <;> rfl)
            subst fz_435
            refine va_iald hx hb hK hP 4 0 rfl rfl (by unfold vp_in; decide) dX5_mayGoOn_37 ?_
            refine lv_topi (fun z_436 ez_436 => ?_)
            have fz_436 : z_436 = 0 := ez_436.trans (rfl)
            subst fz_436
            refine lv_aload_n hx hb dX5_mayGoOn_38 rfl (lv_at hl 3 rfl) ?_
            refine va_get (D := D) (ci := 6) (v := .ref (ma 2)) (C := RX5) (T := TX5) (N := 29) hx hb hts in_X5_mayGoOn_X5 hown hK hP 2 rfl rfl 2 (by decide) w_1 (fun _ h9 => h9) rfl dX5_mayGoOn_39 ?_
            refine lv_iload_n hx hb dX5_mayGoOn_42 rfl (lv_at hl 2 rfl) ?_
            refine va_iald hx hb hK hP 4 0 rfl rfl (by unfold vp_in; decide) dX5_mayGoOn_43 ?_
            refine lv_topi (fun z_437 ez_437 => ?_)
            have fz_437 : z_437 = 0 := ez_437.trans (rfl)
            subst fz_437
            refine lv_icmp_ne (tgt := 65) hx hb dX5_mayGoOn_44 (by decide) (fun hc => absurd (by decide) hc) (fun _ => ?_)
            refine lv_iload_n hx hb dX5_mayGoOn_47 rfl (lv_at hl 1 rfl) ?_
            refine lv_iload_n hx hb dX5_mayGoOn_48 rfl (lv_at hl 0 rfl) ?_
            refine lv_aload_n hx hb dX5_mayGoOn_49 rfl (lv_at hl 3 rfl) ?_
            refine va_get (D := D) (ci := 6) (v := .ref (ma 7)) (C := RX5) (T := TX5) (N := 29) hx hb hts in_X5_mayGoOn_X5 hown hK hP 2 rfl rfl 7 (by decide) w_2 (fun _ h9 => h9) rfl dX5_mayGoOn_50 ?_
            refine lv_iload_n hx hb dX5_mayGoOn_53 rfl (lv_at hl 2 rfl) ?_
            refine va_iald hx hb hK hP 0 0 rfl rfl (by unfold vp_in; decide) dX5_mayGoOn_54 ?_
            refine lv_topi (fun z_438 ez_438 => ?_)
            have fz_438 : z_438 = 0 := ez_438.trans (rfl)
            subst fz_438
            refine lv_icmp_ne (tgt := 62) hx hb dX5_mayGoOn_55 (by decide) (fun _ => ?_) (fun hc => absurd hc (by decide))
            refine lv_iconst (v := 2) hx hb dX5_mayGoOn_62 (by decide) ?_
            refine lv_iadd hx hb dX5_mayGoOn_63 ?_
            refine lv_topi (fun z_439 ez_439 => ?_)
            have fz_439 : z_439 = 7 := ez_439.trans (by decide)
            subst fz_439
            refine lv_istore_n (lv' := [(2, .int 7), (3, .int 3), (1, .int 0), (0, .ref mo)]) hx hb dX5_mayGoOn_64 rfl hl (by decide) rfl (fun ls hl => ?_)
            refine lv_iinc (v := 4) (lv' := [(3, .int 4), (2, .int 7), (1, .int 0), (0, .ref mo)]) hx hb dX5_mayGoOn_65 hl (k := 1) rfl (by decide) (by decide) rfl (fun ls hl => ?_)
            refine lv_goto (tgt := 9) hx hb dX5_mayGoOn_68 (by decide) ?_
            refine lv_iload_n hx hb dX5_mayGoOn_9 rfl (lv_at hl 0 rfl) ?_
            refine lv_iconst (v := 5) hx hb dX5_mayGoOn_10 (by decide) ?_
            refine lv_icmp_ge (tgt := 71) hx hb dX5_mayGoOn_11 (by decide) (fun hc => absurd hc (by decide)) (fun _ => ?_)
            refine lv_iload_n hx hb dX5_mayGoOn_14 rfl (lv_at hl 2 rfl) ?_
            refine lv_if_lt (tgt := 71) hx hb dX5_mayGoOn_15 (by decide) (fun hc => absurd hc (by decide)) (fun _ => ?_)
            refine lv_aload_n hx hb dX5_mayGoOn_18 rfl (lv_at hl 3 rfl) ?_
            refine va_get (D := D) (ci := 6) (v := .ref (ma 28)) (C := RX5) (T := TX5) (N := 29) hx hb hts in_X5_mayGoOn_X5 hown hK hP 2 rfl rfl 28 (by decide) w_0 (fun _ h9 => h9) rfl dX5_mayGoOn_19 ?_
            refine lv_iload_n hx hb dX5_mayGoOn_22 rfl (lv_at hl 0 rfl) ?_
            refine va_iald hx hb hK hP 3 0 rfl rfl (by unfold vp_in; decide) dX5_mayGoOn_23 ?_
            refine lv_topi (fun z_440 ez_440 => ?_)
            have fz_440 : z_440 = 0 := ez_440.trans (by rw [show (4 : Int32).toNatClampNeg = 4 by decide, haf 4 (by decide), hb4] <;> rfl)
            subst fz_440
            refine lv_if_lt (tgt := 65) hx hb dX5_mayGoOn_24 (by decide) (fun hc => absurd hc (by decide)) (fun _ => ?_)
            refine lv_aload_n hx hb dX5_mayGoOn_27 rfl (lv_at hl 3 rfl) ?_
            refine va_get (D := D) (ci := 6) (v := .ref (ma 2)) (C := RX5) (T := TX5) (N := 29) hx hb hts in_X5_mayGoOn_X5 hown hK hP 2 rfl rfl 2 (by decide) w_1 (fun _ h9 => h9) rfl dX5_mayGoOn_28 ?_
            refine lv_aload_n hx hb dX5_mayGoOn_31 rfl (lv_at hl 3 rfl) ?_
            refine va_get (D := D) (ci := 6) (v := .ref (ma 28)) (C := RX5) (T := TX5) (N := 29) hx hb hts in_X5_mayGoOn_X5 hown hK hP 2 rfl rfl 28 (by decide) w_0 (fun _ h9 => h9) rfl dX5_mayGoOn_32 ?_
            refine lv_iload_n hx hb dX5_mayGoOn_35 rfl (lv_at hl 0 rfl) ?_
            refine va_iald hx hb hK hP 3 0 rfl rfl (by unfold vp_in; decide) dX5_mayGoOn_36 ?_
            refine lv_topi (fun z_441 ez_441 => ?_)
            have fz_441 : z_441 = 0 := ez_441.trans (by rw [show (4 : Int32).toNatClampNeg = 4 by decide, haf 4 (by decide), hb4] <;> rfl)
            subst fz_441
            refine va_iald hx hb hK hP 4 0 rfl rfl (by unfold vp_in; decide) dX5_mayGoOn_37 ?_
            refine lv_topi (fun z_442 ez_442 => ?_)
            have fz_442 : z_442 = 0 := ez_442.trans (rfl)
            subst fz_442
            refine lv_aload_n hx hb dX5_mayGoOn_38 rfl (lv_at hl 3 rfl) ?_
            refine va_get (D := D) (ci := 6) (v := .ref (ma 2)) (C := RX5) (T := TX5) (N := 29) hx hb hts in_X5_mayGoOn_X5 hown hK hP 2 rfl rfl 2 (by decide) w_1 (fun _ h9 => h9) rfl dX5_mayGoOn_39 ?_
            refine lv_iload_n hx hb dX5_mayGoOn_42 rfl (lv_at hl 2 rfl) ?_
            refine va_iald hx hb hK hP 4 0 rfl rfl (by unfold vp_in; decide) dX5_mayGoOn_43 ?_
            refine lv_topi (fun z_443 ez_443 => ?_)
            have fz_443 : z_443 = 0 := ez_443.trans (rfl)
            subst fz_443
            refine lv_icmp_ne (tgt := 65) hx hb dX5_mayGoOn_44 (by decide) (fun hc => absurd (by decide) hc) (fun _ => ?_)
            refine lv_iload_n hx hb dX5_mayGoOn_47 rfl (lv_at hl 1 rfl) ?_
            refine lv_iload_n hx hb dX5_mayGoOn_48 rfl (lv_at hl 0 rfl) ?_
            refine lv_aload_n hx hb dX5_mayGoOn_49 rfl (lv_at hl 3 rfl) ?_
            refine va_get (D := D) (ci := 6) (v := .ref (ma 7)) (C := RX5) (T := TX5) (N := 29) hx hb hts in_X5_mayGoOn_X5 hown hK hP 2 rfl rfl 7 (by decide) w_2 (fun _ h9 => h9) rfl dX5_mayGoOn_50 ?_
            refine lv_iload_n hx hb dX5_mayGoOn_53 rfl (lv_at hl 2 rfl) ?_
            refine va_iald hx hb hK hP 0 0 rfl rfl (by unfold vp_in; decide) dX5_mayGoOn_54 ?_
            refine lv_topi (fun z_444 ez_444 => ?_)
            have fz_444 : z_444 = 0 := ez_444.trans (rfl)
            subst fz_444
            refine lv_icmp_ne (tgt := 62) hx hb dX5_mayGoOn_55 (by decide) (fun _ => ?_) (fun hc => absurd hc (by decide))
            refine lv_iconst (v := 2) hx hb dX5_mayGoOn_62 (by decide) ?_
            refine lv_iadd hx hb dX5_mayGoOn_63 ?_
            refine lv_topi (fun z_445 ez_445 => ?_)
            have fz_445 : z_445 = 9 := ez_445.trans (by decide)
            subst fz_445
            refine lv_istore_n (lv' := [(2, .int 9), (3, .int 4), (1, .int 0), (0, .ref mo)]) hx hb dX5_mayGoOn_64 rfl hl (by decide) rfl (fun ls hl => ?_)
            refine lv_iinc (v := 5) (lv' := [(3, .int 5), (2, .int 9), (1, .int 0), (0, .ref mo)]) hx hb dX5_mayGoOn_65 hl (k := 1) rfl (by decide) (by decide) rfl (fun ls hl => ?_)
            refine lv_goto (tgt := 9) hx hb dX5_mayGoOn_68 (by decide) ?_
            refine lv_iload_n hx hb dX5_mayGoOn_9 rfl (lv_at hl 0 rfl) ?_
            refine lv_iconst (v := 5) hx hb dX5_mayGoOn_10 (by decide) ?_
            refine lv_icmp_ge (tgt := 71) hx hb dX5_mayGoOn_11 (by decide) (fun _ => ?_) (fun hc => absurd (by decide) hc)
            refine lv_iload_n hx hb dX5_mayGoOn_71 rfl (lv_at hl 2 rfl) ?_
            refine lv_if_lt (tgt := 89) hx hb dX5_mayGoOn_72 (by decide) (fun hc => absurd hc (by decide)) (fun _ => ?_)
            refine lv_iload_n hx hb dX5_mayGoOn_75 rfl (lv_at hl 1 rfl) ?_
            refine lv_aload_n hx hb dX5_mayGoOn_76 rfl (lv_at hl 3 rfl) ?_
            refine va_get (D := D) (ci := 6) (v := .ref (ma 6)) (C := RX5) (T := TX5) (N := 29) hx hb hts in_X5_mayGoOn_X5 hown hK hP 2 rfl rfl 6 (by decide) w_3 (fun _ h9 => h9) rfl dX5_mayGoOn_77 ?_
            refine lv_iload_n hx hb dX5_mayGoOn_80 rfl (lv_at hl 2 rfl) ?_
            refine va_iald hx hb hK hP 1 0 rfl rfl (by unfold vp_in; decide) dX5_mayGoOn_81 ?_
            refine lv_topi (fun z_446 ez_446 => ?_)
            have fz_446 : z_446 = 5 := ez_446.trans (hzf)
            subst fz_446
            refine lv_icmp_le (tgt := 89) hx hb dX5_mayGoOn_82 (by decide) (fun hc => absurd hc (by decide)) (fun _ => ?_)
            refine lv_iconst (v := 1) hx hb dX5_mayGoOn_85 (by decide) ?_
            refine lv_goto (tgt := 90) hx hb dX5_mayGoOn_86 (by decide) ?_
            have hP9 := hP.sub (ws' := [(mo, .inr (6, [.int th, .int 1, .ref (ma 2), .ref (ma 3), .ref (ma 4), .ref (ma 5), .ref (ma 6), .ref (ma 7), .ref (ma 8), .ref (ma 9), .ref (ma 10), .ref (ma 11), .ref (ma 12), .ref (ma 13), .ref (ma 14), .ref (ma 15), .ref (ma 16), .ref (ma 17), .ref (ma 18), .ref (ma 19), .ref (ma 20), .ref (ma 21), .int 0, .ref (ma 23), .ref (ma 24), .ref (ma 25), .ref (ma 26), .ref (ma 27), .ref (ma 28)])), ((ma 28), wI tC 5 af), ((ma 2), wI tC 600 (fun _ => 0)), ((ma 7), wI tC 600 (fun _ => 0)), ((ma 6), wI tC 600 zf)]) [2, 3, 4, 0, 1] rfl
            have hD9 := hD.sub (ws' := [(mo, .inr (6, [.int th, .int 1, .ref (ma 2), .ref (ma 3), .ref (ma 4), .ref (ma 5), .ref (ma 6), .ref (ma 7), .ref (ma 8), .ref (ma 9), .ref (ma 10), .ref (ma 11), .ref (ma 12), .ref (ma 13), .ref (ma 14), .ref (ma 15), .ref (ma 16), .ref (ma 17), .ref (ma 18), .ref (ma 19), .ref (ma 20), .ref (ma 21), .int 0, .ref (ma 23), .ref (ma 24), .ref (ma 25), .ref (ma 26), .ref (ma 27), .ref (ma 28)])), ((ma 28), wI tC 5 af), ((ma 2), wI tC 600 (fun _ => 0)), ((ma 7), wI tC 600 (fun _ => 0)), ((ma 6), wI tC 600 zf)]) [2, 3, 4, 0, 1] (by decide) rfl
            refine W.widen (k := 0) (n := 0) (by omega) (by omega) ?_
            exact W.zret (v := 1) hx hb hr (by decide) (fun t ht hW => ⟨⟨1, (), rfl, (by unfold mayg cntb; rw [hb0, hb1, hb2, hb3, hb4] <;> decide), (by rw [ht]; exact hP9), va_K.moved hW.alike hK, hD9⟩, hS.F ht⟩) hS.2.2 dX5_mayGoOn_90 hlocks
    · skip
      cases hb2 : bt 2
      · skip
        cases hb3 : bt 3
        · skip
          cases hb4 : bt 4
          · skip
            refine lv_aload_n hx hb dX5_mayGoOn_0 rfl (lv_at hl 0 rfl) ?_
            have hPc := hP.sub (ws' := [(mo, .inr (6, [.int th, .int 1, .ref (ma 2), .ref (ma 3), .ref (ma 4), .ref (ma 5), .ref (ma 6), .ref (ma 7), .ref (ma 8), .ref (ma 9), .ref (ma 10), .ref (ma 11), .ref (ma 12), .ref (ma 13), .ref (ma 14), .ref (ma 15), .ref (ma 16), .ref (ma 17), .ref (ma 18), .ref (ma 19), .ref (ma 20), .ref (ma 21), .int 0, .ref (ma 23), .ref (ma 24), .ref (ma 25), .ref (ma 26), .ref (ma 27), .ref (ma 28)])), ((ma 28), wI tC 5 af), ((ma 2), wI tC 600 (fun _ => 0))]) [0, 1, 2] rfl
            have hDc := hD.sub (ws' := [(mo, .inr (6, [.int th, .int 1, .ref (ma 2), .ref (ma 3), .ref (ma 4), .ref (ma 5), .ref (ma 6), .ref (ma 7), .ref (ma 8), .ref (ma 9), .ref (ma 10), .ref (ma 11), .ref (ma 12), .ref (ma 13), .ref (ma 14), .ref (ma 15), .ref (ma 16), .ref (ma 17), .ref (ma 18), .ref (ma 19), .ref (ma 20), .ref (ma 21), .int 0, .ref (ma 23), .ref (ma 24), .ref (ma 25), .ref (ma 26), .ref (ma 27), .ref (ma 28)])), ((ma 28), wI tC 5 af), ((ma 2), wI tC 600 (fun _ => 0))]) [0, 1, 2] (by decide) rfl
            have hFc := va_free (wc := [(mo, .inr (6, [.int th, .int 1, .ref (ma 2), .ref (ma 3), .ref (ma 4), .ref (ma 5), .ref (ma 6), .ref (ma 7), .ref (ma 8), .ref (ma 9), .ref (ma 10), .ref (ma 11), .ref (ma 12), .ref (ma 13), .ref (ma 14), .ref (ma 15), .ref (ma 16), .ref (ma 17), .ref (ma 18), .ref (ma 19), .ref (ma 20), .ref (ma 21), .int 0, .ref (ma 23), .ref (ma 24), .ref (ma 25), .ref (ma 26), .ref (ma 27), .ref (ma 28)])), ((ma 28), wI tC 5 af), ((ma 2), wI tC 600 (fun _ => 0))]) hD hS hA [0, 1, 2] rfl
            refine va_calli (va_runV (As := []) (rest := []) ⟨hx, hb, hml, hown, hts⟩ (c_X5_greatest l hlt D tC dz s.heap.size mo ma th af bt haf) (cwV 0 hts gX5_mayGoOn_X5_greatest rfl rfl rfl (by decide +kernel) ⟨Nat.le_of_ble_eq_true rfl, Nat.le_of_ble_eq_true rfl⟩) ⟨pB_blind, va_recv hK hPc (ci := 6) (q0 := 0) rfl rfl, pB_at hPc hDc hK hN hE hS hFc⟩ rfl rfl hl.1 rfl (lv_room (Nat.le_of_ble_eq_true rfl)) dX5_mayGoOn_1 ⟨Nat.le_of_ble_eq_true rfl, Nat.le_of_ble_eq_true rfl⟩) hS (fun q _ h => hFc q h) hFc (fun r_447 u t H1 locs ht hvm hw hB hz1 hk1 hS => ?_)
            obtain ⟨hP1, _, hD1⟩ := hB
            have hw_448 := hw
            rw [ht] at hP1
            obtain ⟨hP, hD⟩ := va_join (wr := [((ma 7), wI tC 600 (fun _ => 0)), ((ma 6), wI tC 600 zf)]) (w1 := [(mo, .inr (6, [.int th, .int 1, .ref (ma 2), .ref (ma 3), .ref (ma 4), .ref (ma 5), .ref (ma 6), .ref (ma 7), .ref (ma 8), .ref (ma 9), .ref (ma 10), .ref (ma 11), .ref (ma 12), .ref (ma 13), .ref (ma 14), .ref (ma 15), .ref (ma 16), .ref (ma 17), .ref (ma 18), .ref (ma 19), .ref (ma 20), .ref (ma 21), .int 0, .ref (ma 23), .ref (ma 24), .ref (ma 25), .ref (ma 26), .ref (ma 27), .ref (ma 28)])), ((ma 28), wI tC 5 af), ((ma 2), wI tC 600 (fun _ => 0))]) hP hD [0, 1, 2] [3, 4] rfl rfl (by decide) (by decide) hk1 hFc hP1 hD1
            generalize H1 = H at hP hS ⊢
            have hP : va_P D vwCl [((ma 7), wI tC 600 (fun _ => 0)), ((ma 6), wI tC 600 zf), (mo, .inr (6, [.int th, .int 1, .ref (ma 2), .ref (ma 3), .ref (ma 4), .ref (ma 5), .ref (ma 6), .ref (ma 7), .ref (ma 8), .ref (ma 9), .ref (ma 10), .ref (ma 11), .ref (ma 12), .ref (ma 13), .ref (ma 14), .ref (ma 15), .ref (ma 16), .ref (ma 17), .ref (ma 18), .ref (ma 19), .ref (ma 20), .ref (ma 21), .int 0, .ref (ma 23), .ref (ma 24), .ref (ma 25), .ref (ma 26), .ref (ma 27), .ref (ma 28)])), ((ma 28), wI tC 5 af), ((ma 2), wI tC 600 (fun _ => 0))] H := hP
            have hD : va_D A [((ma 7), wI tC 600 (fun _ => 0)), ((ma 6), wI tC 600 zf), (mo, .inr (6, [.int th, .int 1, .ref (ma 2), .ref (ma 3), .ref (ma 4), .ref (ma 5), .ref (ma 6), .ref (ma 7), .ref (ma 8), .ref (ma 9), .ref (ma 10), .ref (ma 11), .ref (ma 12), .ref (ma 13), .ref (ma 14), .ref (ma 15), .ref (ma 16), .ref (ma 17), .ref (ma 18), .ref (ma 19), .ref (ma 20), .ref (ma 21), .int 0, .ref (ma 23), .ref (ma 24), .ref (ma 25), .ref (ma 26), .ref (ma 27), .ref (ma 28)])), ((ma 28), wI tC 5 af), ((ma 2), wI tC 600 (fun _ => 0))] := hD
            have q1 : r_447 = 0 := hw_448.trans (by rw [hb0, hb1, hb2, hb3, hb4] <;> rfl)
            subst q1
            refine lv_istore_n (lv' := [(1, .int 0), (0, .ref mo)]) hx hb dX5_mayGoOn_4 rfl hl (by decide) rfl (fun ls hl => ?_)
            refine lv_iconst (v := 0) hx hb dX5_mayGoOn_5 (by decide) ?_
            refine lv_istore_n (lv' := [(2, .int 0), (1, .int 0), (0, .ref mo)]) hx hb dX5_mayGoOn_6 rfl hl (by decide) rfl (fun ls hl => ?_)
            refine lv_iconst (v := 0) hx hb dX5_mayGoOn_7 (by decide) ?_
            refine lv_istore_n (lv' := [(3, .int 0), (2, .int 0), (1, .int 0), (0, .ref mo)]) hx hb dX5_mayGoOn_8 rfl hl (by decide) rfl (fun ls hl => ?_)
            refine lv_iload_n hx hb dX5_mayGoOn_9 rfl (lv_at hl 0 rfl) ?_
            refine lv_iconst (v := 5) hx hb dX5_mayGoOn_10 (by decide) ?_
            refine lv_icmp_ge (tgt := 71) hx hb dX5_mayGoOn_11 (by decide) (fun hc => absurd hc (by decide)) (fun _ => ?_)
            refine lv_iload_n hx hb dX5_mayGoOn_14 rfl (lv_at hl 2 rfl) ?_
            refine lv_if_lt (tgt := 71) hx hb dX5_mayGoOn_15 (by decide) (fun hc => absurd hc (by decide)) (fun _ => ?_)
            refine lv_aload_n hx hb dX5_mayGoOn_18 rfl (lv_at hl 3 rfl) ?_
            refine va_get (D := D) (ci := 6) (v := .ref (ma 28)) (C := RX5) (T := TX5) (N := 29) hx hb hts in_X5_mayGoOn_X5 hown hK hP 2 rfl rfl 28 (by decide) w_0 (fun _ h9 => h9) rfl dX5_mayGoOn_19 ?_
            refine lv_iload_n hx hb dX5_mayGoOn_22 rfl (lv_at hl 0 rfl) ?_
            refine va_iald hx hb hK hP 3 0 rfl rfl (by unfold vp_in; decide) dX5_mayGoOn_23 ?_
            refine lv_topi (fun z_449 ez_449 => ?_)
            have fz_449 : z_449 = 0 := ez_449.trans (by rw [show (0 : Int32).toNatClampNeg = 0 by decide, haf 0 (by decide), hb0] <;> rfl)
            subst fz_449
            refine lv_if_lt (tgt := 65) hx hb dX5_mayGoOn_24 (by decide) (fun hc => absurd hc (by decide)) (fun _ => ?_)
            refine lv_aload_n hx hb dX5_mayGoOn_27 rfl (lv_at hl 3 rfl) ?_
            refine va_get (D := D) (ci := 6) (v := .ref (ma 2)) (C := RX5) (T := TX5) (N := 29) hx hb hts in_X5_mayGoOn_X5 hown hK hP 2 rfl rfl 2 (by decide) w_1 (fun _ h9 => h9) rfl dX5_mayGoOn_28 ?_
            refine lv_aload_n hx hb dX5_mayGoOn_31 rfl (lv_at hl 3 rfl) ?_
            refine va_get (D := D) (ci := 6) (v := .ref (ma 28)) (C := RX5) (T := TX5) (N := 29) hx hb hts in_X5_mayGoOn_X5 hown hK hP 2 rfl rfl 28 (by decide) w_0 (fun _ h9 => h9) rfl dX5_mayGoOn_32 ?_
            refine lv_iload_n hx hb dX5_mayGoOn_35 rfl (lv_at hl 0 rfl) ?_
            refine va_iald hx hb hK hP 3 0 rfl rfl (by unfold vp_in; decide) dX5_mayGoOn_36 ?_
            refine lv_topi (fun z_450 ez_450 => ?_)
            have fz_450 : z_450 = 0 := ez_450.trans (by rw [show (0 : Int32).toNatClampNeg = 0 by decide, haf 0 (by decide), hb0] <;> rfl)
            subst fz_450
            refine va_iald hx hb hK hP 4 0 rfl rfl (by unfold vp_in; decide) dX5_mayGoOn_37 ?_
            refine lv_topi (fun z_451 ez_451 => ?_)
            have fz_451 : z_451 = 0 := ez_451.trans (rfl)
            subst fz_451
            refine lv_aload_n hx hb dX5_mayGoOn_38 rfl (lv_at hl 3 rfl) ?_
            refine va_get (D := D) (ci := 6) (v := .ref (ma 2)) (C := RX5) (T := TX5) (N := 29) hx hb hts in_X5_mayGoOn_X5 hown hK hP 2 rfl rfl 2 (by decide) w_1 (fun _ h9 => h9) rfl dX5_mayGoOn_39 ?_
            refine lv_iload_n hx hb dX5_mayGoOn_42 rfl (lv_at hl 2 rfl) ?_
            refine va_iald hx hb hK hP 4 0 rfl rfl (by unfold vp_in; decide) dX5_mayGoOn_43 ?_
            refine lv_topi (fun z_452 ez_452 => ?_)
            have fz_452 : z_452 = 0 := ez_452.trans (rfl)
            subst fz_452
            refine lv_icmp_ne (tgt := 65) hx hb dX5_mayGoOn_44 (by decide) (fun hc => absurd (by decide) hc) (fun _ => ?_)
            refine lv_iload_n hx hb dX5_mayGoOn_47 rfl (lv_at hl 1 rfl) ?_
            refine lv_iload_n hx hb dX5_mayGoOn_48 rfl (lv_at hl 0 rfl) ?_
            refine lv_aload_n hx hb dX5_mayGoOn_49 rfl (lv_at hl 3 rfl) ?_
            refine va_get (D := D) (ci := 6) (v := .ref (ma 7)) (C := RX5) (T := TX5) (N := 29) hx hb hts in_X5_mayGoOn_X5 hown hK hP 2 rfl rfl 7 (by decide) w_2 (fun _ h9 => h9) rfl dX5_mayGoOn_50 ?_
            refine lv_iload_n hx hb dX5_mayGoOn_53 rfl (lv_at hl 2 rfl) ?_
            refine va_iald hx hb hK hP 0 0 rfl rfl (by unfold vp_in; decide) dX5_mayGoOn_54 ?_
            refine lv_topi (fun z_453 ez_453 => ?_)
            have fz_453 : z_453 = 0 := ez_453.trans (rfl)
            subst fz_453
            refine lv_icmp_ne (tgt := 62) hx hb dX5_mayGoOn_55 (by decide) (fun hc => absurd (by decide) hc) (fun _ => ?_)
            refine lv_iconst (v := 3) hx hb dX5_mayGoOn_58 (by decide) ?_
            refine lv_goto (tgt := 63) hx hb dX5_mayGoOn_59 (by decide) ?_
            refine lv_iadd hx hb dX5_mayGoOn_63 ?_
            refine lv_topi (fun z_454 ez_454 => ?_)
            have fz_454 : z_454 = 3 := ez_454.trans (by decide)
            subst fz_454
            refine lv_istore_n (lv' := [(2, .int 3), (3, .int 0), (1, .int 0), (0, .ref mo)]) hx hb dX5_mayGoOn_64 rfl hl (by decide) rfl (fun ls hl => ?_)
            refine lv_iinc (v := 1) (lv' := [(3, .int 1), (2, .int 3), (1, .int 0), (0, .ref mo)]) hx hb dX5_mayGoOn_65 hl (k := 1) rfl (by decide) (by decide) rfl (fun ls hl => ?_)
            refine lv_goto (tgt := 9) hx hb dX5_mayGoOn_68 (by decide) ?_
            refine lv_iload_n hx hb dX5_mayGoOn_9 rfl (lv_at hl 0 rfl) ?_
            refine lv_iconst (v := 5) hx hb dX5_mayGoOn_10 (by decide) ?_
            refine lv_icmp_ge (tgt := 71) hx hb dX5_mayGoOn_11 (by decide) (fun hc => absurd hc (by decide)) (fun _ => ?_)
            refine lv_iload_n hx hb dX5_mayGoOn_14 rfl (lv_at hl 2 rfl) ?_
            refine lv_if_lt (tgt := 71) hx hb dX5_mayGoOn_15 (by decide) (fun hc => absurd hc (by decide)) (fun _ => ?_)
            refine lv_aload_n hx hb dX5_mayGoOn_18 rfl (lv_at hl 3 rfl) ?_
            refine va_get (D := D) (ci := 6) (v := .ref (ma 28)) (C := RX5) (T := TX5) (N := 29) hx hb hts in_X5_mayGoOn_X5 hown hK hP 2 rfl rfl 28 (by decide) w_0 (fun _ h9 => h9) rfl dX5_mayGoOn_19 ?_
            refine lv_iload_n hx hb dX5_mayGoOn_22 rfl (lv_at hl 0 rfl) ?_
            refine va_iald hx hb hK hP 3 0 rfl rfl (by unfold vp_in; decide) dX5_mayGoOn_23 ?_
            refine lv_topi (fun z_455 ez_455 => ?_)
            have fz_455 : z_455 = 0 := ez_455.trans (by rw [show (1 : Int32).toNatClampNeg = 1 by decide, haf 1 (by decide), hb1] <;> rfl)
            subst fz_455
            refine lv_if_lt (tgt := 65) hx hb dX5_mayGoOn_24 (by decide) (fun hc => absurd hc (by decide)) (fun _ => ?_)
            refine lv_aload_n hx hb dX5_mayGoOn_27 rfl (lv_at hl 3 rfl) ?_
            refine va_get (D := D) (ci := 6) (v := .ref (ma 2)) (C := RX5) (T := TX5) (N := 29) hx hb hts in_X5_mayGoOn_X5 hown hK hP 2 rfl rfl 2 (by decide) w_1 (fun _ h9 => h9) rfl dX5_mayGoOn_28 ?_
            refine lv_aload_n hx hb dX5_mayGoOn_31 rfl (lv_at hl 3 rfl) ?_
            refine va_get (D := D) (ci := 6) (v := .ref (ma 28)) (C := RX5) (T := TX5) (N := 29) hx hb hts in_X5_mayGoOn_X5 hown hK hP 2 rfl rfl 28 (by decide) w_0 (fun _ h9 => h9) rfl dX5_mayGoOn_32 ?_
            refine lv_iload_n hx hb dX5_mayGoOn_35 rfl (lv_at hl 0 rfl) ?_
            refine va_iald hx hb hK hP 3 0 rfl rfl (by unfold vp_in; decide) dX5_mayGoOn_36 ?_
            refine lv_topi (fun z_456 ez_456 => ?_)
            have fz_456 : z_456 = 0 := ez_456.trans (by rw [show (1 : Int32).toNatClampNeg = 1 by decide, haf 1 (by decide), hb1] <;> rfl)
            subst fz_456
            refine va_iald hx hb hK hP 4 0 rfl rfl (by unfold vp_in; decide) dX5_mayGoOn_37 ?_
            refine lv_topi (fun z_457 ez_457 => ?_)
            have fz_457 : z_457 = 0 := ez_457.trans (rfl)
            subst fz_457
            refine lv_aload_n hx hb dX5_mayGoOn_38 rfl (lv_at hl 3 rfl) ?_
            refine va_get (D := D) (ci := 6) (v := .ref (ma 2)) (C := RX5) (T := TX5) (N := 29) hx hb hts in_X5_mayGoOn_X5 hown hK hP 2 rfl rfl 2 (by decide) w_1 (fun _ h9 => h9) rfl dX5_mayGoOn_39 ?_
            refine lv_iload_n hx hb dX5_mayGoOn_42 rfl (lv_at hl 2 rfl) ?_
            refine va_iald hx hb hK hP 4 0 rfl rfl (by unfold vp_in; decide) dX5_mayGoOn_43 ?_
            refine lv_topi (fun z_458 ez_458 => ?_)
            have fz_458 : z_458 = 0 := ez_458.trans (rfl)
            subst fz_458
            refine lv_icmp_ne (tgt := 65) hx hb dX5_mayGoOn_44 (by decide) (fun hc => absurd (by decide) hc) (fun _ => ?_)
            refine lv_iload_n hx hb dX5_mayGoOn_47 rfl (lv_at hl 1 rfl) ?_
            refine lv_iload_n hx hb dX5_mayGoOn_48 rfl (lv_at hl 0 rfl) ?_
            refine lv_aload_n hx hb dX5_mayGoOn_49 rfl (lv_at hl 3 rfl) ?_
            refine va_get (D := D) (ci := 6) (v := .ref (ma 7)) (C := RX5) (T := TX5) (N := 29) hx hb hts in_X5_mayGoOn_X5 hown hK hP 2 rfl rfl 7 (by decide) w_2 (fun _ h9 => h9) rfl dX5_mayGoOn_50 ?_
            refine lv_iload_n hx hb dX5_mayGoOn_53 rfl (lv_at hl 2 rfl) ?_
            refine va_iald hx hb hK hP 0 0 rfl rfl (by unfold vp_in; decide) dX5_mayGoOn_54 ?_
            refine lv_topi (fun z_459 ez_459 => ?_)
            have fz_459 : z_459 = 0 := ez_459.trans (rfl)
            subst fz_459
            refine lv_icmp_ne (tgt := 62) hx hb dX5_mayGoOn_55 (by decide) (fun _ => ?_) (fun hc => absurd hc (by decide))
            refine lv_iconst (v := 2) hx hb dX5_mayGoOn_62 (by decide) ?_
            refine lv_iadd hx hb dX5_mayGoOn_63 ?_
            refine lv_topi (fun z_460 ez_460 => ?_)
            have fz_460 : z_460 = 5 := ez_460.trans (by decide)
            subst fz_460
            refine lv_istore_n (lv' := [(2, .int 5), (3, .int 1), (1, .int 0), (0, .ref mo)]) hx hb dX5_mayGoOn_64 rfl hl (by decide) rfl (fun ls hl => ?_)
            refine lv_iinc (v := 2) (lv' := [(3, .int 2), (2, .int 5), (1, .int 0), (0, .ref mo)]) hx hb dX5_mayGoOn_65 hl (k := 1) rfl (by decide) (by decide) rfl (fun ls hl => ?_)
            refine lv_goto (tgt := 9) hx hb dX5_mayGoOn_68 (by decide) ?_
            refine lv_iload_n hx hb dX5_mayGoOn_9 rfl (lv_at hl 0 rfl) ?_
            refine lv_iconst (v := 5) hx hb dX5_mayGoOn_10 (by decide) ?_
            refine lv_icmp_ge (tgt := 71) hx hb dX5_mayGoOn_11 (by decide) (fun hc => absurd hc (by decide)) (fun _ => ?_)
            refine lv_iload_n hx hb dX5_mayGoOn_14 rfl (lv_at hl 2 rfl) ?_
            refine lv_if_lt (tgt := 71) hx hb dX5_mayGoOn_15 (by decide) (fun hc => absurd hc (by decide)) (fun _ => ?_)
            refine lv_aload_n hx hb dX5_mayGoOn_18 rfl (lv_at hl 3 rfl) ?_
            refine va_get (D := D) (ci := 6) (v := .ref (ma 28)) (C := RX5) (T := TX5) (N := 29) hx hb hts in_X5_mayGoOn_X5 hown hK hP 2 rfl rfl 28 (by decide) w_0 (fun _ h9 => h9) rfl dX5_mayGoOn_19 ?_
            refine lv_iload_n hx hb dX5_mayGoOn_22 rfl (lv_at hl 0 rfl) ?_
            refine va_iald hx hb hK hP 3 0 rfl rfl (by unfold vp_in; decide) dX5_mayGoOn_23 ?_
            refine lv_topi (fun z_461 ez_461 => ?_)
            have fz_461 : z_461 = (-1) := ez_461.trans (by rw [show (2 : Int32).toNatClampNeg = 2 by decide, haf 2 (by decide), hb2] <;> rfl)
            subst fz_461
            refine lv_if_lt (tgt := 65) hx hb dX5_mayGoOn_24 (by decide) (fun _ => ?_) (fun hc => absurd (by decide) hc)
            refine lv_iinc (v := 3) (lv' := [(3, .int 3), (2, .int 5), (1, .int 0), (0, .ref mo)]) hx hb dX5_mayGoOn_65 hl (k := 0) rfl (by decide) (by decide) rfl (fun ls hl => ?_)
            refine lv_goto (tgt := 9) hx hb dX5_mayGoOn_68 (by decide) ?_
            refine lv_iload_n hx hb dX5_mayGoOn_9 rfl (lv_at hl 0 rfl) ?_
            refine lv_iconst (v := 5) hx hb dX5_mayGoOn_10 (by decide) ?_
            refine lv_icmp_ge (tgt := 71) hx hb dX5_mayGoOn_11 (by decide) (fun hc => absurd hc (by decide)) (fun _ => ?_)
            refine lv_iload_n hx hb dX5_mayGoOn_14 rfl (lv_at hl 2 rfl) ?_
            refine lv_if_lt (tgt := 71) hx hb dX5_mayGoOn_15 (by decide) (fun hc => absurd hc (by decide)) (fun _ => ?_)
            refine lv_aload_n hx hb dX5_mayGoOn_18 rfl (lv_at hl 3 rfl) ?_
            refine va_get (D := D) (ci := 6) (v := .ref (ma 28)) (C := RX5) (T := TX5) (N := 29) hx hb hts in_X5_mayGoOn_X5 hown hK hP 2 rfl rfl 28 (by decide) w_0 (fun _ h9 => h9) rfl dX5_mayGoOn_19 ?_
            refine lv_iload_n hx hb dX5_mayGoOn_22 rfl (lv_at hl 0 rfl) ?_
            refine va_iald hx hb hK hP 3 0 rfl rfl (by unfold vp_in; decide) dX5_mayGoOn_23 ?_
            refine lv_topi (fun z_462 ez_462 => ?_)
            have fz_462 : z_462 = (-1) := ez_462.trans (by rw [show (3 : Int32).toNatClampNeg = 3 by decide, haf 3 (by decide), hb3] <;> rfl)
            subst fz_462
            refine lv_if_lt (tgt := 65) hx hb dX5_mayGoOn_24 (by decide) (fun _ => ?_) (fun hc => absurd (by decide) hc)
            refine lv_iinc (v := 4) (lv' := [(3, .int 4), (2, .int 5), (1, .int 0), (0, .ref mo)]) hx hb dX5_mayGoOn_65 hl (k := 0) rfl (by decide) (by decide) rfl (fun ls hl => ?_)
            refine lv_goto (tgt := 9) hx hb dX5_mayGoOn_68 (by decide) ?_
            refine lv_iload_n hx hb dX5_mayGoOn_9 rfl (lv_at hl 0 rfl) ?_
            refine lv_iconst (v := 5) hx hb dX5_mayGoOn_10 (by decide) ?_
            refine lv_icmp_ge (tgt := 71) hx hb dX5_mayGoOn_11 (by decide) (fun hc => absurd hc (by decide)) (fun _ => ?_)
            refine lv_iload_n hx hb dX5_mayGoOn_14 rfl (lv_at hl 2 rfl) ?_
            refine lv_if_lt (tgt := 71) hx hb dX5_mayGoOn_15 (by decide) (fun hc => absurd hc (by decide)) (fun _ => ?_)
            refine lv_aload_n hx hb dX5_mayGoOn_18 rfl (lv_at hl 3 rfl) ?_
            refine va_get (D := D) (ci := 6) (v := .ref (ma 28)) (C := RX5) (T := TX5) (N := 29) hx hb hts in_X5_mayGoOn_X5 hown hK hP 2 rfl rfl 28 (by decide) w_0 (fun _ h9 => h9) rfl dX5_mayGoOn_19 ?_
            refine lv_iload_n hx hb dX5_mayGoOn_22 rfl (lv_at hl 0 rfl) ?_
            refine va_iald hx hb hK hP 3 0 rfl rfl (by unfold vp_in; decide) dX5_mayGoOn_23 ?_
            refine lv_topi (fun z_463 ez_463 => ?_)
            have fz_463 : z_463 = (-1) := ez_463.trans (by rw [show (4 : Int32).toNatClampNeg = 4 by decide, haf 4 (by decide), hb4] <;> rfl)
            subst fz_463
            refine lv_if_lt (tgt := 65) hx hb dX5_mayGoOn_24 (by decide) (fun _ => ?_) (fun hc => absurd (by decide) hc)
            refine lv_iinc (v := 5) (lv' := [(3, .int 5), (2, .int 5), (1, .int 0), (0, .ref mo)]) hx hb dX5_mayGoOn_65 hl (k := 0) rfl (by decide) (by decide) rfl (fun ls hl => ?_)
            refine lv_goto (tgt := 9) hx hb dX5_mayGoOn_68 (by decide) ?_
            refine lv_iload_n hx hb dX5_mayGoOn_9 rfl (lv_at hl 0 rfl) ?_
            refine lv_iconst (v := 5) hx hb dX5_mayGoOn_10 (by decide) ?_
            refine lv_icmp_ge (tgt := 71) hx hb dX5_mayGoOn_11 (by decide) (fun _ => ?_) (fun hc => absurd (by decide) hc)
            refine lv_iload_n hx hb dX5_mayGoOn_71 rfl (lv_at hl 2 rfl) ?_
            refine lv_if_lt (tgt := 89) hx hb dX5_mayGoOn_72 (by decide) (fun hc => absurd hc (by decide)) (fun _ => ?_)
            refine lv_iload_n hx hb dX5_mayGoOn_75 rfl (lv_at hl 1 rfl) ?_
            refine lv_aload_n hx hb dX5_mayGoOn_76 rfl (lv_at hl 3 rfl) ?_
            refine va_get (D := D) (ci := 6) (v := .ref (ma 6)) (C := RX5) (T := TX5) (N := 29) hx hb hts in_X5_mayGoOn_X5 hown hK hP 2 rfl rfl 6 (by decide) w_3 (fun _ h9 => h9) rfl dX5_mayGoOn_77 ?_
            refine lv_iload_n hx hb dX5_mayGoOn_80 rfl (lv_at hl 2 rfl) ?_
            refine va_iald hx hb hK hP 1 0 rfl rfl (by unfold vp_in; decide) dX5_mayGoOn_81 ?_
            refine lv_topi (fun z_464 ez_464 => ?_)
            have fz_464 : z_464 = 5 := ez_464.trans (hzf)
            subst fz_464
            refine lv_icmp_le (tgt := 89) hx hb dX5_mayGoOn_82 (by decide) (fun _ => ?_) (fun hc => absurd (by decide) hc)
            refine lv_iconst (v := 0) hx hb dX5_mayGoOn_89 (by decide) ?_
            have hP9 := hP.sub (ws' := [(mo, .inr (6, [.int th, .int 1, .ref (ma 2), .ref (ma 3), .ref (ma 4), .ref (ma 5), .ref (ma 6), .ref (ma 7), .ref (ma 8), .ref (ma 9), .ref (ma 10), .ref (ma 11), .ref (ma 12), .ref (ma 13), .ref (ma 14), .ref (ma 15), .ref (ma 16), .ref (ma 17), .ref (ma 18), .ref (ma 19), .ref (ma 20), .ref (ma 21), .int 0, .ref (ma 23), .ref (ma 24), .ref (ma 25), .ref (ma 26), .ref (ma 27), .ref (ma 28)])), ((ma 28), wI tC 5 af), ((ma 2), wI tC 600 (fun _ => 0)), ((ma 7), wI tC 600 (fun _ => 0)), ((ma 6), wI tC 600 zf)]) [2, 3, 4, 0, 1] rfl
            have hD9 := hD.sub (ws' := [(mo, .inr (6, [.int th, .int 1, .ref (ma 2), .ref (ma 3), .ref (ma 4), .ref (ma 5), .ref (ma 6), .ref (ma 7), .ref (ma 8), .ref (ma 9), .ref (ma 10), .ref (ma 11), .ref (ma 12), .ref (ma 13), .ref (ma 14), .ref (ma 15), .ref (ma 16), .ref (ma 17), .ref (ma 18), .ref (ma 19), .ref (ma 20), .ref (ma 21), .int 0, .ref (ma 23), .ref (ma 24), .ref (ma 25), .ref (ma 26), .ref (ma 27), .ref (ma 28)])), ((ma 28), wI tC 5 af), ((ma 2), wI tC 600 (fun _ => 0)), ((ma 7), wI tC 600 (fun _ => 0)), ((ma 6), wI tC 600 zf)]) [2, 3, 4, 0, 1] (by decide) rfl
            refine W.widen (k := 0) (n := 0) (by omega) (by omega) ?_
            exact W.zret (v := 0) hx hb hr (by decide) (fun t ht hW => ⟨⟨0, (), rfl, (by unfold mayg cntb; rw [hb0, hb1, hb2, hb3, hb4] <;> decide), (by rw [ht]; exact hP9), va_K.moved hW.alike hK, hD9⟩, hS.F ht⟩) hS.2.2 dX5_mayGoOn_90 hlocks
          · skip
            refine lv_aload_n hx hb dX5_mayGoOn_0 rfl (lv_at hl 0 rfl) ?_
            have hPc := hP.sub (ws' := [(mo, .inr (6, [.int th, .int 1, .ref (ma 2), .ref (ma 3), .ref (ma 4), .ref (ma 5), .ref (ma 6), .ref (ma 7), .ref (ma 8), .ref (ma 9), .ref (ma 10), .ref (ma 11), .ref (ma 12), .ref (ma 13), .ref (ma 14), .ref (ma 15), .ref (ma 16), .ref (ma 17), .ref (ma 18), .ref (ma 19), .ref (ma 20), .ref (ma 21), .int 0, .ref (ma 23), .ref (ma 24), .ref (ma 25), .ref (ma 26), .ref (ma 27), .ref (ma 28)])), ((ma 28), wI tC 5 af), ((ma 2), wI tC 600 (fun _ => 0))]) [0, 1, 2] rfl
            have hDc := hD.sub (ws' := [(mo, .inr (6, [.int th, .int 1, .ref (ma 2), .ref (ma 3), .ref (ma 4), .ref (ma 5), .ref (ma 6), .ref (ma 7), .ref (ma 8), .ref (ma 9), .ref (ma 10), .ref (ma 11), .ref (ma 12), .ref (ma 13), .ref (ma 14), .ref (ma 15), .ref (ma 16), .ref (ma 17), .ref (ma 18), .ref (ma 19), .ref (ma 20), .ref (ma 21), .int 0, .ref (ma 23), .ref (ma 24), .ref (ma 25), .ref (ma 26), .ref (ma 27), .ref (ma 28)])), ((ma 28), wI tC 5 af), ((ma 2), wI tC 600 (fun _ => 0))]) [0, 1, 2] (by decide) rfl
            have hFc := va_free (wc := [(mo, .inr (6, [.int th, .int 1, .ref (ma 2), .ref (ma 3), .ref (ma 4), .ref (ma 5), .ref (ma 6), .ref (ma 7), .ref (ma 8), .ref (ma 9), .ref (ma 10), .ref (ma 11), .ref (ma 12), .ref (ma 13), .ref (ma 14), .ref (ma 15), .ref (ma 16), .ref (ma 17), .ref (ma 18), .ref (ma 19), .ref (ma 20), .ref (ma 21), .int 0, .ref (ma 23), .ref (ma 24), .ref (ma 25), .ref (ma 26), .ref (ma 27), .ref (ma 28)])), ((ma 28), wI tC 5 af), ((ma 2), wI tC 600 (fun _ => 0))]) hD hS hA [0, 1, 2] rfl
            refine va_calli (va_runV (As := []) (rest := []) ⟨hx, hb, hml, hown, hts⟩ (c_X5_greatest l hlt D tC dz s.heap.size mo ma th af bt haf) (cwV 0 hts gX5_mayGoOn_X5_greatest rfl rfl rfl (by decide +kernel) ⟨Nat.le_of_ble_eq_true rfl, Nat.le_of_ble_eq_true rfl⟩) ⟨pB_blind, va_recv hK hPc (ci := 6) (q0 := 0) rfl rfl, pB_at hPc hDc hK hN hE hS hFc⟩ rfl rfl hl.1 rfl (lv_room (Nat.le_of_ble_eq_true rfl)) dX5_mayGoOn_1 ⟨Nat.le_of_ble_eq_true rfl, Nat.le_of_ble_eq_true rfl⟩) hS (fun q _ h => hFc q h) hFc (fun r_465 u t H1 locs ht hvm hw hB hz1 hk1 hS => ?_)
            obtain ⟨hP1, _, hD1⟩ := hB
            have hw_466 := hw
            rw [ht] at hP1
            obtain ⟨hP, hD⟩ := va_join (wr := [((ma 7), wI tC 600 (fun _ => 0)), ((ma 6), wI tC 600 zf)]) (w1 := [(mo, .inr (6, [.int th, .int 1, .ref (ma 2), .ref (ma 3), .ref (ma 4), .ref (ma 5), .ref (ma 6), .ref (ma 7), .ref (ma 8), .ref (ma 9), .ref (ma 10), .ref (ma 11), .ref (ma 12), .ref (ma 13), .ref (ma 14), .ref (ma 15), .ref (ma 16), .ref (ma 17), .ref (ma 18), .ref (ma 19), .ref (ma 20), .ref (ma 21), .int 0, .ref (ma 23), .ref (ma 24), .ref (ma 25), .ref (ma 26), .ref (ma 27), .ref (ma 28)])), ((ma 28), wI tC 5 af), ((ma 2), wI tC 600 (fun _ => 0))]) hP hD [0, 1, 2] [3, 4] rfl rfl (by decide) (by decide) hk1 hFc hP1 hD1
            generalize H1 = H at hP hS ⊢
            have hP : va_P D vwCl [((ma 7), wI tC 600 (fun _ => 0)), ((ma 6), wI tC 600 zf), (mo, .inr (6, [.int th, .int 1, .ref (ma 2), .ref (ma 3), .ref (ma 4), .ref (ma 5), .ref (ma 6), .ref (ma 7), .ref (ma 8), .ref (ma 9), .ref (ma 10), .ref (ma 11), .ref (ma 12), .ref (ma 13), .ref (ma 14), .ref (ma 15), .ref (ma 16), .ref (ma 17), .ref (ma 18), .ref (ma 19), .ref (ma 20), .ref (ma 21), .int 0, .ref (ma 23), .ref (ma 24), .ref (ma 25), .ref (ma 26), .ref (ma 27), .ref (ma 28)])), ((ma 28), wI tC 5 af), ((ma 2), wI tC 600 (fun _ => 0))] H := hP
            have hD : va_D A [((ma 7), wI tC 600 (fun _ => 0)), ((ma 6), wI tC 600 zf), (mo, .inr (6, [.int th, .int 1, .ref (ma 2), .ref (ma 3), .ref (ma 4), .ref (ma 5), .ref (ma 6), .ref (ma 7), .ref (ma 8), .ref (ma 9), .ref (ma 10), .ref (ma 11), .ref (ma 12), .ref (ma 13), .ref (ma 14), .ref (ma 15), .ref (ma 16), .ref (ma 17), .ref (ma 18), .ref (ma 19), .ref (ma 20), .ref (ma 21), .int 0, .ref (ma 23), .ref (ma 24), .ref (ma 25), .ref (ma 26), .ref (ma 27), .ref (ma 28)])), ((ma 28), wI tC 5 af), ((ma 2), wI tC 600 (fun _ => 0))] := hD
            have q1 : r_465 = 0 := hw_466.trans (by rw [hb0, hb1, hb2, hb3, hb4] <;> rfl)
            subst q1
            refine lv_istore_n (lv' := [(1, .int 0), (0, .ref mo)]) hx hb dX5_mayGoOn_4 rfl hl (by decide) rfl (fun ls hl => ?_)
            refine lv_iconst (v := 0) hx hb dX5_mayGoOn_5 (by decide) ?_
            refine lv_istore_n (lv' := [(2, .int 0), (1, .int 0), (0, .ref mo)]) hx hb dX5_mayGoOn_6 rfl hl (by decide) rfl (fun ls hl => ?_)
            refine lv_iconst (v := 0) hx hb dX5_mayGoOn_7 (by decide) ?_
            refine lv_istore_n (lv' := [(3, .int 0), (2, .int 0), (1, .int 0), (0, .ref mo)]) hx hb dX5_mayGoOn_8 rfl hl (by decide) rfl (fun ls hl => ?_)
            refine lv_iload_n hx hb dX5_mayGoOn_9 rfl (lv_at hl 0 rfl) ?_
            refine lv_iconst (v := 5) hx hb dX5_mayGoOn_10 (by decide) ?_
            refine lv_icmp_ge (tgt := 71) hx hb dX5_mayGoOn_11 (by decide) (fun hc => absurd hc (by decide)) (fun _ => ?_)
            refine lv_iload_n hx hb dX5_mayGoOn_14 rfl (lv_at hl 2 rfl) ?_
            refine lv_if_lt (tgt := 71) hx hb dX5_mayGoOn_15 (by decide) (fun hc => absurd hc (by decide)) (fun _ => ?_)
            refine lv_aload_n hx hb dX5_mayGoOn_18 rfl (lv_at hl 3 rfl) ?_
            refine va_get (D := D) (ci := 6) (v := .ref (ma 28)) (C := RX5) (T := TX5) (N := 29) hx hb hts in_X5_mayGoOn_X5 hown hK hP 2 rfl rfl 28 (by decide) w_0 (fun _ h9 => h9) rfl dX5_mayGoOn_19 ?_
            refine lv_iload_n hx hb dX5_mayGoOn_22 rfl (lv_at hl 0 rfl) ?_
            refine va_iald hx hb hK hP 3 0 rfl rfl (by unfold vp_in; decide) dX5_mayGoOn_23 ?_
            refine lv_topi (fun z_467 ez_467 => ?_)
            have fz_467 : z_467 = 0 := ez_467.trans (by rw [show (0 : Int32).toNatClampNeg = 0 by decide, haf 0 (by decide), hb0] <;> rfl)
            subst fz_467
            refine lv_if_lt (tgt := 65) hx hb dX5_mayGoOn_24 (by decide) (fun hc => absurd hc (by decide)) (fun _ => ?_)
            refine lv_aload_n hx hb dX5_mayGoOn_27 rfl (lv_at hl 3 rfl) ?_
            refine va_get (D := D) (ci := 6) (v := .ref (ma 2)) (C := RX5) (T := TX5) (N := 29) hx hb hts in_X5_mayGoOn_X5 hown hK hP 2 rfl rfl 2 (by decide) w_1 (fun _ h9 => h9) rfl dX5_mayGoOn_28 ?_
            refine lv_aload_n hx hb dX5_mayGoOn_31 rfl (lv_at hl 3 rfl) ?_
            refine va_get (D := D) (ci := 6) (v := .ref (ma 28)) (C := RX5) (T := TX5) (N := 29) hx hb hts in_X5_mayGoOn_X5 hown hK hP 2 rfl rfl 28 (by decide) w_0 (fun _ h9 => h9) rfl dX5_mayGoOn_32 ?_
            refine lv_iload_n hx hb dX5_mayGoOn_35 rfl (lv_at hl 0 rfl) ?_
            refine va_iald hx hb hK hP 3 0 rfl rfl (by unfold vp_in; decide) dX5_mayGoOn_36 ?_
            refine lv_topi (fun z_468 ez_468 => ?_)
            have fz_468 : z_468 = 0 := ez_468.trans (by rw [show (0 : Int32).toNatClampNeg = 0 by decide, haf 0 (by decide), hb0] <;> rfl)
            subst fz_468
            refine va_iald hx hb hK hP 4 0 rfl rfl (by unfold vp_in; decide) dX5_mayGoOn_37 ?_
            refine lv_topi (fun z_469 ez_469 => ?_)
            have fz_469 : z_469 = 0 := ez_469.trans (rfl)
            subst fz_469
            refine lv_aload_n hx hb dX5_mayGoOn_38 rfl (lv_at hl 3 rfl) ?_
            refine va_get (D := D) (ci := 6) (v := .ref (ma 2)) (C := RX5) (T := TX5) (N := 29) hx hb hts in_X5_mayGoOn_X5 hown hK hP 2 rfl rfl 2 (by decide) w_1 (fun _ h9 => h9) rfl dX5_mayGoOn_39 ?_
            refine lv_iload_n hx hb dX5_mayGoOn_42 rfl (lv_at hl 2 rfl) ?_
            refine va_iald hx hb hK hP 4 0 rfl rfl (by unfold vp_in; decide) dX5_mayGoOn_43 ?_
            refine lv_topi (fun z_470 ez_470 => ?_)
            have fz_470 : z_470 = 0 := ez_470.trans (rfl)
            subst fz_470
            refine lv_icmp_ne (tgt := 65) hx hb dX5_mayGoOn_44 (by decide) (fun hc => absurd (by decide) hc) (fun _ => ?_)
            refine lv_iload_n hx hb dX5_mayGoOn_47 rfl (lv_at hl 1 rfl) ?_
            refine lv_iload_n hx hb dX5_mayGoOn_48 rfl (lv_at hl 0 rfl) ?_
            refine lv_aload_n hx hb dX5_mayGoOn_49 rfl (lv_at hl 3 rfl) ?_
            refine va_get (D := D) (ci := 6) (v := .ref (ma 7)) (C := RX5) (T := TX5) (N := 29) hx hb hts in_X5_mayGoOn_X5 hown hK hP 2 rfl rfl 7 (by decide) w_2 (fun _ h9 => h9) rfl dX5_mayGoOn_50 ?_
            refine lv_iload_n hx hb dX5_mayGoOn_53 rfl (lv_at hl 2 rfl) ?_
            refine va_iald hx hb hK hP 0 0 rfl rfl (by unfold vp_in; decide) dX5_mayGoOn_54 ?_
            refine lv_topi (fun z_471 ez_471 => ?_)
            have fz_471 : z_471 = 0 := ez_471.trans (rfl)
            subst fz_471
            refine lv_icmp_ne (tgt := 62) hx hb dX5_mayGoOn_55 (by decide) (fun hc => absurd (by decide) hc) (fun _ => ?_)
            refine lv_iconst (v := 3) hx hb dX5_mayGoOn_58 (by decide) ?_
            refine lv_goto (tgt := 63) hx hb dX5_mayGoOn_59 (by decide) ?_
            refine lv_iadd hx hb dX5_mayGoOn_63 ?_
            refine lv_topi (fun z_472 ez_472 => ?_)
            have fz_472 : z_472 = 3 := ez_472.trans (by decide)
            subst fz_472
            refine lv_istore_n (lv' := [(2, .int 3), (3, .int 0), (1, .int 0), (0, .ref mo)]) hx hb dX5_mayGoOn_64 rfl hl (by decide) rfl (fun ls hl => ?_)
            refine lv_iinc (v := 1) (lv' := [(3, .int 1), (2, .int 3), (1, .int 0), (0, .ref mo)]) hx hb dX5_mayGoOn_65 hl (k := 1) rfl (by decide) (by decide) rfl (fun ls hl => ?_)
            refine lv_goto (tgt := 9) hx hb dX5_mayGoOn_68 (by decide) ?_
            refine lv_iload_n hx hb dX5_mayGoOn_9 rfl (lv_at hl 0 rfl) ?_
            refine lv_iconst (v := 5) hx hb dX5_mayGoOn_10 (by decide) ?_
            refine lv_icmp_ge (tgt := 71) hx hb dX5_mayGoOn_11 (by decide) (fun hc => absurd hc (by decide)) (fun _ => ?_)
            refine lv_iload_n hx hb dX5_mayGoOn_14 rfl (lv_at hl 2 rfl) ?_
            refine lv_if_lt (tgt := 71) hx hb dX5_mayGoOn_15 (by decide) (fun hc => absurd hc (by decide)) (fun _ => ?_)
            refine lv_aload_n hx hb dX5_mayGoOn_18 rfl (lv_at hl 3 rfl) ?_
            refine va_get (D := D) (ci := 6) (v := .ref (ma 28)) (C := RX5) (T := TX5) (N := 29) hx hb hts in_X5_mayGoOn_X5 hown hK hP 2 rfl rfl 28 (by decide) w_0 (fun _ h9 => h9) rfl dX5_mayGoOn_19 ?_
            refine lv_iload_n hx hb dX5_mayGoOn_22 rfl (lv_at hl 0 rfl) ?_
            refine va_iald hx hb hK hP 3 0 rfl rfl (by unfold vp_in; decide) dX5_mayGoOn_23 ?_
            refine lv_topi (fun z_473 ez_473 => ?_)
            have fz_473 : z_473 = 0 := ez_473.trans (by rw [show (1 : Int32).toNatClampNeg = 1 by decide, haf 1 (by decide), hb1] <;> rfl)
            subst fz_473
            refine lv_if_lt (tgt := 65) hx hb dX5_mayGoOn_24 (by decide) (fun hc => absurd hc (by decide)) (fun _ => ?_)
            refine lv_aload_n hx hb dX5_mayGoOn_27 rfl (lv_at hl 3 rfl) ?_
            refine va_get (D := D) (ci := 6) (v := .ref (ma 2)) (C := RX5) (T := TX5) (N := 29) hx hb hts in_X5_mayGoOn_X5 hown hK hP 2 rfl rfl 2 (by decide) w_1 (fun _ h9 => h9) rfl dX5_mayGoOn_28 ?_
            refine lv_aload_n hx hb dX5_mayGoOn_31 rfl (lv_at hl 3 rfl) ?_
            refine va_get (D := D) (ci := 6) (v := .ref (ma 28)) (C := RX5) (T := TX5) (N := 29) hx hb hts in_X5_mayGoOn_X5 hown hK hP 2 rfl rfl 28 (by decide) w_0 (fun _ h9 => h9) rfl dX5_mayGoOn_32 ?_
            refine lv_iload_n hx hb dX5_mayGoOn_35 rfl (lv_at hl 0 rfl) ?_
            refine va_iald hx hb hK hP 3 0 rfl rfl (by unfold vp_in; decide) dX5_mayGoOn_36 ?_
            refine lv_topi (fun z_474 ez_474 => ?_)
            have fz_474 : z_474 = 0 := ez_474.trans (by rw [show (1 : Int32).toNatClampNeg = 1 by decide, haf 1 (by decide), hb1] <;> rfl)
            subst fz_474
            refine va_iald hx hb hK hP 4 0 rfl rfl (by unfold vp_in; decide) dX5_mayGoOn_37 ?_
            refine lv_topi (fun z_475 ez_475 => ?_)
            have fz_475 : z_475 = 0 := ez_475.trans (rfl)
            subst fz_475
            refine lv_aload_n hx hb dX5_mayGoOn_38 rfl (lv_at hl 3 rfl) ?_
            refine va_get (D := D) (ci := 6) (v := .ref (ma 2)) (C := RX5) (T := TX5) (N := 29) hx hb hts in_X5_mayGoOn_X5 hown hK hP 2 rfl rfl 2 (by decide) w_1 (fun _ h9 => h9) rfl dX5_mayGoOn_39 ?_
            refine lv_iload_n hx hb dX5_mayGoOn_42 rfl (lv_at hl 2 rfl) ?_
            refine va_iald hx hb hK hP 4 0 rfl rfl (by unfold vp_in; decide) dX5_mayGoOn_43 ?_
            refine lv_topi (fun z_476 ez_476 => ?_)
            have fz_476 : z_476 = 0 := ez_476.trans (rfl)
            subst fz_476
            refine lv_icmp_ne (tgt := 65) hx hb dX5_mayGoOn_44 (by decide) (fun hc => absurd (by decide) hc) (fun _ => ?_)
            refine lv_iload_n hx hb dX5_mayGoOn_47 rfl (lv_at hl 1 rfl) ?_
            refine lv_iload_n hx hb dX5_mayGoOn_48 rfl (lv_at hl 0 rfl) ?_
            refine lv_aload_n hx hb dX5_mayGoOn_49 rfl (lv_at hl 3 rfl) ?_
            refine va_get (D := D) (ci := 6) (v := .ref (ma 7)) (C := RX5) (T := TX5) (N := 29) hx hb hts in_X5_mayGoOn_X5 hown hK hP 2 rfl rfl 7 (by decide) w_2 (fun _ h9 => h9) rfl dX5_mayGoOn_50 ?_
            refine lv_iload_n hx hb dX5_mayGoOn_53 rfl (lv_at hl 2 rfl) ?_
            refine va_iald hx hb hK hP 0 0 rfl rfl (by unfold vp_in; decide) dX5_mayGoOn_54 ?_
            refine lv_topi (fun z_477 ez_477 => ?_)
            have fz_477 : z_477 = 0 := ez_477.trans (rfl)
            subst fz_477
            refine lv_icmp_ne (tgt := 62) hx hb dX5_mayGoOn_55 (by decide) (fun _ => ?_) (fun hc => absurd hc (by decide))
            refine lv_iconst (v := 2) hx hb dX5_mayGoOn_62 (by decide) ?_
            refine lv_iadd hx hb dX5_mayGoOn_63 ?_
            refine lv_topi (fun z_478 ez_478 => ?_)
            have fz_478 : z_478 = 5 := ez_478.trans (by decide)
            subst fz_478
            refine lv_istore_n (lv' := [(2, .int 5), (3, .int 1), (1, .int 0), (0, .ref mo)]) hx hb dX5_mayGoOn_64 rfl hl (by decide) rfl (fun ls hl => ?_)
            refine lv_iinc (v := 2) (lv' := [(3, .int 2), (2, .int 5), (1, .int 0), (0, .ref mo)]) hx hb dX5_mayGoOn_65 hl (k := 1) rfl (by decide) (by decide) rfl (fun ls hl => ?_)
            refine lv_goto (tgt := 9) hx hb dX5_mayGoOn_68 (by decide) ?_
            refine lv_iload_n hx hb dX5_mayGoOn_9 rfl (lv_at hl 0 rfl) ?_
            refine lv_iconst (v := 5) hx hb dX5_mayGoOn_10 (by decide) ?_
            refine lv_icmp_ge (tgt := 71) hx hb dX5_mayGoOn_11 (by decide) (fun hc => absurd hc (by decide)) (fun _ => ?_)
            refine lv_iload_n hx hb dX5_mayGoOn_14 rfl (lv_at hl 2 rfl) ?_
            refine lv_if_lt (tgt := 71) hx hb dX5_mayGoOn_15 (by decide) (fun hc => absurd hc (by decide)) (fun _ => ?_)
            refine lv_aload_n hx hb dX5_mayGoOn_18 rfl (lv_at hl 3 rfl) ?_
            refine va_get (D := D) (ci := 6) (v := .ref (ma 28)) (C := RX5) (T := TX5) (N := 29) hx hb hts in_X5_mayGoOn_X5 hown hK hP 2 rfl rfl 28 (by decide) w_0 (fun _ h9 => h9) rfl dX5_mayGoOn_19 ?_
            refine lv_iload_n hx hb dX5_mayGoOn_22 rfl (lv_at hl 0 rfl) ?_
            refine va_iald hx hb hK hP 3 0 rfl rfl (by unfold vp_in; decide) dX5_mayGoOn_23 ?_
            refine lv_topi (fun z_479 ez_479 => ?_)
            have fz_479 : z_479 = (-1) := ez_479.trans (by rw [show (2 : Int32).toNatClampNeg = 2 by decide, haf 2 (by decide), hb2] <;> rfl)
            subst fz_479
            refine lv_if_lt (tgt := 65) hx hb dX5_mayGoOn_24 (by decide) (fun _ => ?_) (fun hc => absurd (by decide) hc)
            refine lv_iinc (v := 3) (lv' := [(3, .int 3), (2, .int 5), (1, .int 0), (0, .ref mo)]) hx hb dX5_mayGoOn_65 hl (k := 0) rfl (by decide) (by decide) rfl (fun ls hl => ?_)
            refine lv_goto (tgt := 9) hx hb dX5_mayGoOn_68 (by decide) ?_
            refine lv_iload_n hx hb dX5_mayGoOn_9 rfl (lv_at hl 0 rfl) ?_
            refine lv_iconst (v := 5) hx hb dX5_mayGoOn_10 (by decide) ?_
            refine lv_icmp_ge (tgt := 71) hx hb dX5_mayGoOn_11 (by decide) (fun hc => absurd hc (by decide)) (fun _ => ?_)
            refine lv_iload_n hx hb dX5_mayGoOn_14 rfl (lv_at hl 2 rfl) ?_
            refine lv_if_lt (tgt := 71) hx hb dX5_mayGoOn_15 (by decide) (fun hc => absurd hc (by decide)) (fun _ => ?_)
            refine lv_aload_n hx hb dX5_mayGoOn_18 rfl (lv_at hl 3 rfl) ?_
            refine va_get (D := D) (ci := 6) (v := .ref (ma 28)) (C := RX5) (T := TX5) (N := 29) hx hb hts in_X5_mayGoOn_X5 hown hK hP 2 rfl rfl 28 (by decide) w_0 (fun _ h9 => h9) rfl dX5_mayGoOn_19 ?_
            refine lv_iload_n hx hb dX5_mayGoOn_22 rfl (lv_at hl 0 rfl) ?_
            refine va_iald hx hb hK hP 3 0 rfl rfl (by unfold vp_in; decide) dX5_mayGoOn_23 ?_
            refine lv_topi (fun z_480 ez_480 => ?_)
            have fz_480 : z_480 = (-1) := ez_480.trans (by rw [show (3 : Int32).toNatClampNeg = 3 by decide, haf 3 (by decide), hb3] <;> rfl)
            subst fz_480
            refine lv_if_lt (tgt := 65) hx hb dX5_mayGoOn_24 (by decide) (fun _ => ?_) (fun hc => absurd (by decide) hc)
            refine lv_iinc (v := 4) (lv' := [(3, .int 4), (2, .int 5), (1, .int 0), (0, .ref mo)]) hx hb dX5_mayGoOn_65 hl (k := 0) rfl (by decide) (by decide) rfl (fun ls hl => ?_)
            refine lv_goto (tgt := 9) hx hb dX5_mayGoOn_68 (by decide) ?_
            refine lv_iload_n hx hb dX5_mayGoOn_9 rfl (lv_at hl 0 rfl) ?_
            refine lv_iconst (v := 5) hx hb dX5_mayGoOn_10 (by decide) ?_
            refine lv_icmp_ge (tgt := 71) hx hb dX5_mayGoOn_11 (by decide) (fun hc => absurd hc (by decide)) (fun _ => ?_)
            refine lv_iload_n hx hb dX5_mayGoOn_14 rfl (lv_at hl 2 rfl) ?_
            refine lv_if_lt (tgt := 71) hx hb dX5_mayGoOn_15 (by decide) (fun hc => absurd hc (by decide)) (fun _ => ?_)
            refine lv_aload_n hx hb dX5_mayGoOn_18 rfl (lv_at hl 3 rfl) ?_
            refine va_get (D := D) (ci := 6) (v := .ref (ma 28)) (C := RX5) (T := TX5) (N := 29) hx hb hts in_X5_mayGoOn_X5 hown hK hP 2 rfl rfl 28 (by decide) w_0 (fun _ h9 => h9) rfl dX5_mayGoOn_19 ?_
            refine lv_iload_n hx hb dX5_mayGoOn_22 rfl (lv_at hl 0 rfl) ?_
            refine va_iald hx hb hK hP 3 0 rfl rfl (by unfold vp_in; decide) dX5_mayGoOn_23 ?_
            refine lv_topi (fun z_481 ez_481 => ?_)
            have fz_481 : z_481 = 0 := ez_481.trans (by rw [show (4 : Int32).toNatClampNeg = 4 by decide, haf 4 (by decide), hb4] <;> rfl)
            subst fz_481
            refine lv_if_lt (tgt := 65) hx hb dX5_mayGoOn_24 (by decide) (fun hc => absurd hc (by decide)) (fun _ => ?_)
            refine lv_aload_n hx hb dX5_mayGoOn_27 rfl (lv_at hl 3 rfl) ?_
            refine va_get (D := D) (ci := 6) (v := .ref (ma 2)) (C := RX5) (T := TX5) (N := 29) hx hb hts in_X5_mayGoOn_X5 hown hK hP 2 rfl rfl 2 (by decide) w_1 (fun _ h9 => h9) rfl dX5_mayGoOn_28 ?_
            refine lv_aload_n hx hb dX5_mayGoOn_31 rfl (lv_at hl 3 rfl) ?_
            refine va_get (D := D) (ci := 6) (v := .ref (ma 28)) (C := RX5) (T := TX5) (N := 29) hx hb hts in_X5_mayGoOn_X5 hown hK hP 2 rfl rfl 28 (by decide) w_0 (fun _ h9 => h9) rfl dX5_mayGoOn_32 ?_
            refine lv_iload_n hx hb dX5_mayGoOn_35 rfl (lv_at hl 0 rfl) ?_
            refine va_iald hx hb hK hP 3 0 rfl rfl (by unfold vp_in; decide) dX5_mayGoOn_36 ?_
            refine lv_topi (fun z_482 ez_482 => ?_)
            have fz_482 : z_482 = 0 := ez_482.trans (by rw [show (4 : Int32).toNatClampNeg = 4 by decide, haf 4 (by decide), hb4] <;> rfl)
            subst fz_482
            refine va_iald hx hb hK hP 4 0 rfl rfl (by unfold vp_in; decide) dX5_mayGoOn_37 ?_
            refine lv_topi (fun z_483 ez_483 => ?_)
            have fz_483 : z_483 = 0 := ez_483.trans (rfl)
            subst fz_483
            refine lv_aload_n hx hb dX5_mayGoOn_38 rfl (lv_at hl 3 rfl) ?_
            refine va_get (D := D) (ci := 6) (v := .ref (ma 2)) (C := RX5) (T := TX5) (N := 29) hx hb hts in_X5_mayGoOn_X5 hown hK hP 2 rfl rfl 2 (by decide) w_1 (fun _ h9 => h9) rfl dX5_mayGoOn_39 ?_
            refine lv_iload_n hx hb dX5_mayGoOn_42 rfl (lv_at hl 2 rfl) ?_
            refine va_iald hx hb hK hP 4 0 rfl rfl (by unfold vp_in; decide) dX5_mayGoOn_43 ?_
            refine lv_topi (fun z_484 ez_484 => ?_)
            have fz_484 : z_484 = 0 := ez_484.trans (rfl)
            subst fz_484
            refine lv_icmp_ne (tgt := 65) hx hb dX5_mayGoOn_44 (by decide) (fun hc => absurd (by decide) hc) (fun _ => ?_)
            refine lv_iload_n hx hb dX5_mayGoOn_47 rfl (lv_at hl 1 rfl) ?_
            refine lv_iload_n hx hb dX5_mayGoOn_48 rfl (lv_at hl 0 rfl) ?_
            refine lv_aload_n hx hb dX5_mayGoOn_49 rfl (lv_at hl 3 rfl) ?_
            refine va_get (D := D) (ci := 6) (v := .ref (ma 7)) (C := RX5) (T := TX5) (N := 29) hx hb hts in_X5_mayGoOn_X5 hown hK hP 2 rfl rfl 7 (by decide) w_2 (fun _ h9 => h9) rfl dX5_mayGoOn_50 ?_
            refine lv_iload_n hx hb dX5_mayGoOn_53 rfl (lv_at hl 2 rfl) ?_
            refine va_iald hx hb hK hP 0 0 rfl rfl (by unfold vp_in; decide) dX5_mayGoOn_54 ?_
            refine lv_topi (fun z_485 ez_485 => ?_)
            have fz_485 : z_485 = 0 := ez_485.trans (rfl)
            subst fz_485
            refine lv_icmp_ne (tgt := 62) hx hb dX5_mayGoOn_55 (by decide) (fun _ => ?_) (fun hc => absurd hc (by decide))
            refine lv_iconst (v := 2) hx hb dX5_mayGoOn_62 (by decide) ?_
            refine lv_iadd hx hb dX5_mayGoOn_63 ?_
            refine lv_topi (fun z_486 ez_486 => ?_)
            have fz_486 : z_486 = 7 := ez_486.trans (by decide)
            subst fz_486
            refine lv_istore_n (lv' := [(2, .int 7), (3, .int 4), (1, .int 0), (0, .ref mo)]) hx hb dX5_mayGoOn_64 rfl hl (by decide) rfl (fun ls hl => ?_)
            refine lv_iinc (v := 5) (lv' := [(3, .int 5), (2, .int 7), (1, .int 0), (0, .ref mo)]) hx hb dX5_mayGoOn_65 hl (k := 1) rfl (by decide) (by decide) rfl (fun ls hl => ?_)
            refine lv_goto (tgt := 9) hx hb dX5_mayGoOn_68 (by decide) ?_
            refine lv_iload_n hx hb dX5_mayGoOn_9 rfl (lv_at hl 0 rfl) ?_
            refine lv_iconst (v := 5) hx hb dX5_mayGoOn_10 (by decide) ?_
            refine lv_icmp_ge (tgt := 71) hx hb dX5_mayGoOn_11 (by decide) (fun _ => ?_) (fun hc => absurd (by decide) hc)
            refine lv_iload_n hx hb dX5_mayGoOn_71 rfl (lv_at hl 2 rfl) ?_
            refine lv_if_lt (tgt := 89) hx hb dX5_mayGoOn_72 (by decide) (fun hc => absurd hc (by decide)) (fun _ => ?_)
            refine lv_iload_n hx hb dX5_mayGoOn_75 rfl (lv_at hl 1 rfl) ?_
            refine lv_aload_n hx hb dX5_mayGoOn_76 rfl (lv_at hl 3 rfl) ?_
            refine va_get (D := D) (ci := 6) (v := .ref (ma 6)) (C := RX5) (T := TX5) (N := 29) hx hb hts in_X5_mayGoOn_X5 hown hK hP 2 rfl rfl 6 (by decide) w_3 (fun _ h9 => h9) rfl dX5_mayGoOn_77 ?_
            refine lv_iload_n hx hb dX5_mayGoOn_80 rfl (lv_at hl 2 rfl) ?_
            refine va_iald hx hb hK hP 1 0 rfl rfl (by unfold vp_in; decide) dX5_mayGoOn_81 ?_
            refine lv_topi (fun z_487 ez_487 => ?_)
            have fz_487 : z_487 = 5 := ez_487.trans (hzf)
            subst fz_487
            refine lv_icmp_le (tgt := 89) hx hb dX5_mayGoOn_82 (by decide) (fun hc => absurd hc (by decide)) (fun _ => ?_)
            refine lv_iconst (v := 1) hx hb dX5_mayGoOn_85 (by decide) ?_
            refine lv_goto (tgt := 90) hx hb dX5_mayGoOn_86 (by decide) ?_
            have hP9 := hP.sub (ws' := [(mo, .inr (6, [.int th, .int 1, .ref (ma 2), .ref (ma 3), .ref (ma 4), .ref (ma 5), .ref (ma 6), .ref (ma 7), .ref (ma 8), .ref (ma 9), .ref (ma 10), .ref (ma 11), .ref (ma 12), .ref (ma 13), .ref (ma 14), .ref (ma 15), .ref (ma 16), .ref (ma 17), .ref (ma 18), .ref (ma 19), .ref (ma 20), .ref (ma 21), .int 0, .ref (ma 23), .ref (ma 24), .ref (ma 25), .ref (ma 26), .ref (ma 27), .ref (ma 28)])), ((ma 28), wI tC 5 af), ((ma 2), wI tC 600 (fun _ => 0)), ((ma 7), wI tC 600 (fun _ => 0)), ((ma 6), wI tC 600 zf)]) [2, 3, 4, 0, 1] rfl
            have hD9 := hD.sub (ws' := [(mo, .inr (6, [.int th, .int 1, .ref (ma 2), .ref (ma 3), .ref (ma 4), .ref (ma 5), .ref (ma 6), .ref (ma 7), .ref (ma 8), .ref (ma 9), .ref (ma 10), .ref (ma 11), .ref (ma 12), .ref (ma 13), .ref (ma 14), .ref (ma 15), .ref (ma 16), .ref (ma 17), .ref (ma 18), .ref (ma 19), .ref (ma 20), .ref (ma 21), .int 0, .ref (ma 23), .ref (ma 24), .ref (ma 25), .ref (ma 26), .ref (ma 27), .ref (ma 28)])), ((ma 28), wI tC 5 af), ((ma 2), wI tC 600 (fun _ => 0)), ((ma 7), wI tC 600 (fun _ => 0)), ((ma 6), wI tC 600 zf)]) [2, 3, 4, 0, 1] (by decide) rfl
            refine W.widen (k := 0) (n := 0) (by omega) (by omega) ?_
            exact W.zret (v := 1) hx hb hr (by decide) (fun t ht hW => ⟨⟨1, (), rfl, (by unfold mayg cntb; rw [hb0, hb1, hb2, hb3, hb4] <;> decide), (by rw [ht]; exact hP9), va_K.moved hW.alike hK, hD9⟩, hS.F ht⟩) hS.2.2 dX5_mayGoOn_90 hlocks
        · skip
          cases hb4 : bt 4
          · skip
            refine lv_aload_n hx hb dX5_mayGoOn_0 rfl (lv_at hl 0 rfl) ?_
            have hPc := hP.sub (ws' := [(mo, .inr (6, [.int th, .int 1, .ref (ma 2), .ref (ma 3), .ref (ma 4), .ref (ma 5), .ref (ma 6), .ref (ma 7), .ref (ma 8), .ref (ma 9), .ref (ma 10), .ref (ma 11), .ref (ma 12), .ref (ma 13), .ref (ma 14), .ref (ma 15), .ref (ma 16), .ref (ma 17), .ref (ma 18), .ref (ma 19), .ref (ma 20), .ref (ma 21), .int 0, .ref (ma 23), .ref (ma 24), .ref (ma 25), .ref (ma 26), .ref (ma 27), .ref (ma 28)])), ((ma 28), wI tC 5 af), ((ma 2), wI tC 600 (fun _ => 0))]) [0, 1, 2] rfl
            have hDc := hD.sub (ws' := [(mo, .inr (6, [.int th, .int 1, .ref (ma 2), .ref (ma 3), .ref (ma 4), .ref (ma 5), .ref (ma 6), .ref (ma 7), .ref (ma 8), .ref (ma 9), .ref (ma 10), .ref (ma 11), .ref (ma 12), .ref (ma 13), .ref (ma 14), .ref (ma 15), .ref (ma 16), .ref (ma 17), .ref (ma 18), .ref (ma 19), .ref (ma 20), .ref (ma 21), .int 0, .ref (ma 23), .ref (ma 24), .ref (ma 25), .ref (ma 26), .ref (ma 27), .ref (ma 28)])), ((ma 28), wI tC 5 af), ((ma 2), wI tC 600 (fun _ => 0))]) [0, 1, 2] (by decide) rfl
            have hFc := va_free (wc := [(mo, .inr (6, [.int th, .int 1, .ref (ma 2), .ref (ma 3), .ref (ma 4), .ref (ma 5), .ref (ma 6), .ref (ma 7), .ref (ma 8), .ref (ma 9), .ref (ma 10), .ref (ma 11), .ref (ma 12), .ref (ma 13), .ref (ma 14), .ref (ma 15), .ref (ma 16), .ref (ma 17), .ref (ma 18), .ref (ma 19), .ref (ma 20), .ref (ma 21), .int 0, .ref (ma 23), .ref (ma 24), .ref (ma 25), .ref (ma 26), .ref (ma 27), .ref (ma 28)])), ((ma 28), wI tC 5 af), ((ma 2), wI tC 600 (fun _ => 0))]) hD hS hA [0, 1, 2] rfl
            refine va_calli (va_runV (As := []) (rest := []) ⟨hx, hb, hml, hown, hts⟩ (c_X5_greatest l hlt D tC dz s.heap.size mo ma th af bt haf) (cwV 0 hts gX5_mayGoOn_X5_greatest rfl rfl rfl (by decide +kernel) ⟨Nat.le_of_ble_eq_true rfl, Nat.le_of_ble_eq_true rfl⟩) ⟨pB_blind, va_recv hK hPc (ci := 6) (q0 := 0) rfl rfl, pB_at hPc hDc hK hN hE hS hFc⟩ rfl rfl hl.1 rfl (lv_room (Nat.le_of_ble_eq_true rfl)) dX5_mayGoOn_1 ⟨Nat.le_of_ble_eq_true rfl, Nat.le_of_ble_eq_true rfl⟩) hS (fun q _ h => hFc q h) hFc (fun r_488 u t H1 locs ht hvm hw hB hz1 hk1 hS => ?_)
            obtain ⟨hP1, _, hD1⟩ := hB
            have hw_489 := hw
            rw [ht] at hP1
            obtain ⟨hP, hD⟩ := va_join (wr := [((ma 7), wI tC 600 (fun _ => 0)), ((ma 6), wI tC 600 zf)]) (w1 := [(mo, .inr (6, [.int th, .int 1, .ref (ma 2), .ref (ma 3), .ref (ma 4), .ref (ma 5), .ref (ma 6), .ref (ma 7), .ref (ma 8), .ref (ma 9), .ref (ma 10), .ref (ma 11), .ref (ma 12), .ref (ma 13), .ref (ma 14), .ref (ma 15), .ref (ma 16), .ref (ma 17), .ref (ma 18), .ref (ma 19), .ref (ma 20), .ref (ma 21), .int 0, .ref (ma 23), .ref (ma 24), .ref (ma 25), .ref (ma 26), .ref (ma 27), .ref (ma 28)])), ((ma 28), wI tC 5 af), ((ma 2), wI tC 600 (fun _ => 0))]) hP hD [0, 1, 2] [3, 4] rfl rfl (by decide) (by decide) hk1 hFc hP1 hD1
            generalize H1 = H at hP hS ⊢
            have hP : va_P D vwCl [((ma 7), wI tC 600 (fun _ => 0)), ((ma 6), wI tC 600 zf), (mo, .inr (6, [.int th, .int 1, .ref (ma 2), .ref (ma 3), .ref (ma 4), .ref (ma 5), .ref (ma 6), .ref (ma 7), .ref (ma 8), .ref (ma 9), .ref (ma 10), .ref (ma 11), .ref (ma 12), .ref (ma 13), .ref (ma 14), .ref (ma 15), .ref (ma 16), .ref (ma 17), .ref (ma 18), .ref (ma 19), .ref (ma 20), .ref (ma 21), .int 0, .ref (ma 23), .ref (ma 24), .ref (ma 25), .ref (ma 26), .ref (ma 27), .ref (ma 28)])), ((ma 28), wI tC 5 af), ((ma 2), wI tC 600 (fun _ => 0))] H := hP
            have hD : va_D A [((ma 7), wI tC 600 (fun _ => 0)), ((ma 6), wI tC 600 zf), (mo, .inr (6, [.int th, .int 1, .ref (ma 2), .ref (ma 3), .ref (ma 4), .ref (ma 5), .ref (ma 6), .ref (ma 7), .ref (ma 8), .ref (ma 9), .ref (ma 10), .ref (ma 11), .ref (ma 12), .ref (ma 13), .ref (ma 14), .ref (ma 15), .ref (ma 16), .ref (ma 17), .ref (ma 18), .ref (ma 19), .ref (ma 20), .ref (ma 21), .int 0, .ref (ma 23), .ref (ma 24), .ref (ma 25), .ref (ma 26), .ref (ma 27), .ref (ma 28)])), ((ma 28), wI tC 5 af), ((ma 2), wI tC 600 (fun _ => 0))] := hD
            have q1 : r_488 = 0 := hw_489.trans (by rw [hb0, hb1, hb2, hb3, hb4] <;> rfl)
            subst q1
            refine lv_istore_n (lv' := [(1, .int 0), (0, .ref mo)]) hx hb dX5_mayGoOn_4 rfl hl (by decide) rfl (fun ls hl => ?_)
            refine lv_iconst (v := 0) hx hb dX5_mayGoOn_5 (by decide) ?_
            refine lv_istore_n (lv' := [(2, .int 0), (1, .int 0), (0, .ref mo)]) hx hb dX5_mayGoOn_6 rfl hl (by decide) rfl (fun ls hl => ?_)
            refine lv_iconst (v := 0) hx hb dX5_mayGoOn_7 (by decide) ?_
            refine lv_istore_n (lv' := [(3, .int 0), (2, .int 0), (1, .int 0), (0, .ref mo)]) hx hb dX5_mayGoOn_8 rfl hl (by decide) rfl (fun ls hl => ?_)
            refine lv_iload_n hx hb dX5_mayGoOn_9 rfl (lv_at hl 0 rfl) ?_
            refine lv_iconst (v := 5) hx hb dX5_mayGoOn_10 (by decide) ?_
            refine lv_icmp_ge (tgt := 71) hx hb dX5_mayGoOn_11 (by decide) (fun hc => absurd hc (by decide)) (fun _ => ?_)
            refine lv_iload_n hx hb dX5_mayGoOn_14 rfl (lv_at hl 2 rfl) ?_
            refine lv_if_lt (tgt := 71) hx hb dX5_mayGoOn_15 (by decide) (fun hc => absurd hc (by decide)) (fun _ => ?_)
            refine lv_aload_n hx hb dX5_mayGoOn_18 rfl (lv_at hl 3 rfl) ?_
            refine va_get (D := D) (ci := 6) (v := .ref (ma 28)) (C := RX5) (T := TX5) (N := 29) hx hb hts in_X5_mayGoOn_X5 hown hK hP 2 rfl rfl 28 (by decide) w_0 (fun _ h9 => h9) rfl dX5_mayGoOn_19 ?_
            refine lv_iload_n hx hb dX5_mayGoOn_22 rfl (lv_at hl 0 rfl) ?_
            refine va_iald hx hb hK hP 3 0 rfl rfl (by unfold vp_in; decide) dX5_mayGoOn_23 ?_
            refine lv_topi (fun z_490 ez_490 => ?_)
            have fz_490 : z_490 = 0 := ez_490.trans (by rw [show (0 : Int32).toNatClampNeg = 0 by decide, haf 0 (by decide), hb0] <;> rfl)
            subst fz_490
            refine lv_if_lt (tgt := 65) hx hb dX5_mayGoOn_24 (by decide) (fun hc => absurd hc (by decide)) (fun _ => ?_)
            refine lv_aload_n hx hb dX5_mayGoOn_27 rfl (lv_at hl 3 rfl) ?_
            refine va_get (D := D) (ci := 6) (v := .ref (ma 2)) (C := RX5) (T := TX5) (N := 29) hx hb hts in_X5_mayGoOn_X5 hown hK hP 2 rfl rfl 2 (by decide) w_1 (fun _ h9 => h9) rfl dX5_mayGoOn_28 ?_
            refine lv_aload_n hx hb dX5_mayGoOn_31 rfl (lv_at hl 3 rfl) ?_
            refine va_get (D := D) (ci := 6) (v := .ref (ma 28)) (C := RX5) (T := TX5) (N := 29) hx hb hts in_X5_mayGoOn_X5 hown hK hP 2 rfl rfl 28 (by decide) w_0 (fun _ h9 => h9) rfl dX5_mayGoOn_32 ?_
            refine lv_iload_n hx hb dX5_mayGoOn_35 rfl (lv_at hl 0 rfl) ?_
            refine va_iald hx hb hK hP 3 0 rfl rfl (by unfold vp_in; decide) dX5_mayGoOn_36 ?_
            refine lv_topi (fun z_491 ez_491 => ?_)
            have fz_491 : z_491 = 0 := ez_491.trans (by rw [show (0 : Int32).toNatClampNeg = 0 by decide, haf 0 (by decide), hb0] <;> rfl)
            subst fz_491
            refine va_iald hx hb hK hP 4 0 rfl rfl (by unfold vp_in; decide) dX5_mayGoOn_37 ?_
            refine lv_topi (fun z_492 ez_492 => ?_)
            have fz_492 : z_492 = 0 := ez_492.trans (rfl)
            subst fz_492
            refine lv_aload_n hx hb dX5_mayGoOn_38 rfl (lv_at hl 3 rfl) ?_
            refine va_get (D := D) (ci := 6) (v := .ref (ma 2)) (C := RX5) (T := TX5) (N := 29) hx hb hts in_X5_mayGoOn_X5 hown hK hP 2 rfl rfl 2 (by decide) w_1 (fun _ h9 => h9) rfl dX5_mayGoOn_39 ?_
            refine lv_iload_n hx hb dX5_mayGoOn_42 rfl (lv_at hl 2 rfl) ?_
            refine va_iald hx hb hK hP 4 0 rfl rfl (by unfold vp_in; decide) dX5_mayGoOn_43 ?_
            refine lv_topi (fun z_493 ez_493 => ?_)
            have fz_493 : z_493 = 0 := ez_493.trans (rfl)
            subst fz_493
            refine lv_icmp_ne (tgt := 65) hx hb dX5_mayGoOn_44 (by decide) (fun hc => absurd (by decide) hc) (fun _ => ?_)
            refine lv_iload_n hx hb dX5_mayGoOn_47 rfl (lv_at hl 1 rfl) ?_
            refine lv_iload_n hx hb dX5_mayGoOn_48 rfl (lv_at hl 0 rfl) ?_
            refine lv_aload_n hx hb dX5_mayGoOn_49 rfl (lv_at hl 3 rfl) ?_
            refine va_get (D := D) (ci := 6) (v := .ref (ma 7)) (C := RX5) (T := TX5) (N := 29) hx hb hts in_X5_mayGoOn_X5 hown hK hP 2 rfl rfl 7 (by decide) w_2 (fun _ h9 => h9) rfl dX5_mayGoOn_50 ?_
            refine lv_iload_n hx hb dX5_mayGoOn_53 rfl (lv_at hl 2 rfl) ?_
            refine va_iald hx hb hK hP 0 0 rfl rfl (by unfold vp_in; decide) dX5_mayGoOn_54 ?_
            refine lv_topi (fun z_494 ez_494 => ?_)
            have fz_494 : z_494 = 0 := ez_494.trans (rfl)
            subst fz_494
            refine lv_icmp_ne (tgt := 62) hx hb dX5_mayGoOn_55 (by decide) (fun hc => absurd (by decide) hc) (fun _ => ?_)
            refine lv_iconst (v := 3) hx hb dX5_mayGoOn_58 (by decide) ?_
            refine lv_goto (tgt := 63) hx hb dX5_mayGoOn_59 (by decide) ?_
            refine lv_iadd hx hb dX5_mayGoOn_63 ?_
            refine lv_topi (fun z_495 ez_495 => ?_)
            have fz_495 : z_495 = 3 := ez_495.trans (by decide)
            subst fz_495
            refine lv_istore_n (lv' := [(2, .int 3), (3, .int 0), (1, .int 0), (0, .ref mo)]) hx hb dX5_mayGoOn_64 rfl hl (by decide) rfl (fun ls hl => ?_)
            refine lv_iinc (v := 1) (lv' := [(3, .int 1), (2, .int 3), (1, .int 0), (0, .ref mo)]) hx hb dX5_mayGoOn_65 hl (k := 1) rfl (by decide) (by decide) rfl (fun ls hl => ?_)
            refine lv_goto (tgt := 9) hx hb dX5_mayGoOn_68 (by decide) ?_
            refine lv_iload_n hx hb dX5_mayGoOn_9 rfl (lv_at hl 0 rfl) ?_
            refine lv_iconst (v := 5) hx hb dX5_mayGoOn_10 (by decide) ?_
            refine lv_icmp_ge (tgt := 71) hx hb dX5_mayGoOn_11 (by decide) (fun hc => absurd hc (by decide)) (fun _ => ?_)
            refine lv_iload_n hx hb dX5_mayGoOn_14 rfl (lv_at hl 2 rfl) ?_
            refine lv_if_lt (tgt := 71) hx hb dX5_mayGoOn_15 (by decide) (fun hc => absurd hc (by decide)) (fun _ => ?_)
            refine lv_aload_n hx hb dX5_mayGoOn_18 rfl (lv_at hl 3 rfl) ?_
            refine va_get (D := D) (ci := 6) (v := .ref (ma 28)) (C := RX5) (T := TX5) (N := 29) hx hb hts in_X5_mayGoOn_X5 hown hK hP 2 rfl rfl 28 (by decide) w_0 (fun _ h9 => h9) rfl dX5_mayGoOn_19 ?_
            refine lv_iload_n hx hb dX5_mayGoOn_22 rfl (lv_at hl 0 rfl) ?_
            refine va_iald hx hb hK hP 3 0 rfl rfl (by unfold vp_in; decide) dX5_mayGoOn_23 ?_
            refine lv_topi (fun z_496 ez_496 => ?_)
            have fz_496 : z_496 = 0 := ez_496.trans (by rw [show (1 : Int32).toNatClampNeg = 1 by decide, haf 1 (by decide), hb1] <;> rfl)
            subst fz_496
            refine lv_if_lt (tgt := 65) hx hb dX5_mayGoOn_24 (by decide) (fun hc => absurd hc (by decide)) (fun _ => ?_)
            refine lv_aload_n hx hb dX5_mayGoOn_27 rfl (lv_at hl 3 rfl) ?_
            refine va_get (D := D) (ci := 6) (v := .ref (ma 2)) (C := RX5) (T := TX5) (N := 29) hx hb hts in_X5_mayGoOn_X5 hown hK hP 2 rfl rfl 2 (by decide) w_1 (fun _ h9 => h9) rfl dX5_mayGoOn_28 ?_
            refine lv_aload_n hx hb dX5_mayGoOn_31 rfl (lv_at hl 3 rfl) ?_
            refine va_get (D := D) (ci := 6) (v := .ref (ma 28)) (C := RX5) (T := TX5) (N := 29) hx hb hts in_X5_mayGoOn_X5 hown hK hP 2 rfl rfl 28 (by decide) w_0 (fun _ h9 => h9) rfl dX5_mayGoOn_32 ?_
            refine lv_iload_n hx hb dX5_mayGoOn_35 rfl (lv_at hl 0 rfl) ?_
            refine va_iald hx hb hK hP 3 0 rfl rfl (by unfold vp_in; decide) dX5_mayGoOn_36 ?_
            refine lv_topi (fun z_497 ez_497 => ?_)
            have fz_497 : z_497 = 0 := ez_497.trans (by rw [show (1 : Int32).toNatClampNeg = 1 by decide, haf 1 (by decide), hb1] <;> rfl)
            subst fz_497
            refine va_iald hx hb hK hP 4 0 rfl rfl (by unfold vp_in; decide) dX5_mayGoOn_37 ?_
            refine lv_topi (fun z_498 ez_498 => ?_)
            have fz_498 : z_498 = 0 := ez_498.trans (rfl)
            subst fz_498
            refine lv_aload_n hx hb dX5_mayGoOn_38 rfl (lv_at hl 3 rfl) ?_
            refine va_get (D := D) (ci := 6) (v := .ref (ma 2)) (C := RX5) (T := TX5) (N := 29) hx hb hts in_X5_mayGoOn_X5 hown hK hP 2 rfl rfl 2 (by decide) w_1 (fun _ h9 => h9) rfl dX5_mayGoOn_39 ?_
            refine lv_iload_n hx hb dX5_mayGoOn_42 rfl (lv_at hl 2 rfl) ?_
            refine va_iald hx hb hK hP 4 0 rfl rfl (by unfold vp_in; decide) dX5_mayGoOn_43 ?_
            refine lv_topi (fun z_499 ez_499 => ?_)
            have fz_499 : z_499 = 0 := ez_499.trans (rfl)
            subst fz_499
            refine lv_icmp_ne (tgt := 65) hx hb dX5_mayGoOn_44 (by decide) (fun hc => absurd (by decide) hc) (fun _ => ?_)
            refine lv_iload_n hx hb dX5_mayGoOn_47 rfl (lv_at hl 1 rfl) ?_
            refine lv_iload_n hx hb dX5_mayGoOn_48 rfl (lv_at hl 0 rfl) ?_
            refine lv_aload_n hx hb dX5_mayGoOn_49 rfl (lv_at hl 3 rfl) ?_
            refine va_get (D := D) (ci := 6) (v := .ref (ma 7)) (C := RX5) (T := TX5) (N := 29) hx hb hts in_X5_mayGoOn_X5 hown hK hP 2 rfl rfl 7 (by decide) w_2 (fun _ h9 => h9) rfl dX5_mayGoOn_50 ?_
            refine lv_iload_n hx hb dX5_mayGoOn_53 rfl (lv_at hl 2 rfl) ?_
            refine va_iald hx hb hK hP 0 0 rfl rfl (by unfold vp_in; decide) dX5_mayGoOn_54 ?_
            refine lv_topi (fun z_500 ez_500 => ?_)
            have fz_500 : z_500 = 0 := ez_500.trans (rfl)
            subst fz_500
            refine lv_icmp_ne (tgt := 62) hx hb dX5_mayGoOn_55 (by decide) (fun _ => ?_) (fun hc => absurd hc (by decide))
            refine lv_iconst (v := 2) hx hb dX5_mayGoOn_62 (by decide) ?_
            refine lv_iadd hx hb dX5_mayGoOn_63 ?_
            refine lv_topi (fun z_501 ez_501 => ?_)
            have fz_501 : z_501 = 5 := ez_501.trans (by decide)
            subst fz_501
            refine lv_istore_n (lv' := [(2, .int 5), (3, .int 1), (1, .int 0), (0, .ref mo)]) hx hb dX5_mayGoOn_64 rfl hl (by decide) rfl (fun ls hl => ?_)
            refine lv_iinc (v := 2) (lv' := [(3, .int 2), (2, .int 5), (1, .int 0), (0, .ref mo)]) hx hb dX5_mayGoOn_65 hl (k := 1) rfl (by decide) (by decide) rfl (fun ls hl => ?_)
            refine lv_goto (tgt := 9) hx hb dX5_mayGoOn_68 (by decide) ?_
            refine lv_iload_n hx hb dX5_mayGoOn_9 rfl (lv_at hl 0 rfl) ?_
            refine lv_iconst (v := 5) hx hb dX5_mayGoOn_10 (by decide) ?_
            refine lv_icmp_ge (tgt := 71) hx hb dX5_mayGoOn_11 (by decide) (fun hc => absurd hc (by decide)) (fun _ => ?_)
            refine lv_iload_n hx hb dX5_mayGoOn_14 rfl (lv_at hl 2 rfl) ?_
            refine lv_if_lt (tgt := 71) hx hb dX5_mayGoOn_15 (by decide) (fun hc => absurd hc (by decide)) (fun _ => ?_)
            refine lv_aload_n hx hb dX5_mayGoOn_18 rfl (lv_at hl 3 rfl) ?_
            refine va_get (D := D) (ci := 6) (v := .ref (ma 28)) (C := RX5) (T := TX5) (N := 29) hx hb hts in_X5_mayGoOn_X5 hown hK hP 2 rfl rfl 28 (by decide) w_0 (fun _ h9 => h9) rfl dX5_mayGoOn_19 ?_
            refine lv_iload_n hx hb dX5_mayGoOn_22 rfl (lv_at hl 0 rfl) ?_
            refine va_iald hx hb hK hP 3 0 rfl rfl (by unfold vp_in; decide) dX5_mayGoOn_23 ?_
            refine lv_topi (fun z_502 ez_502 => ?_)
            have fz_502 : z_502 = (-1) := ez_502.trans (by rw [show (2 : Int32).toNatClampNeg = 2 by decide, haf 2 (by decide), hb2] <;> rfl)
            subst fz_502
            refine lv_if_lt (tgt := 65) hx hb dX5_mayGoOn_24 (by decide) (fun _ => ?_) (fun hc => absurd (by decide) hc)
            refine lv_iinc (v := 3) (lv' := [(3, .int 3), (2, .int 5), (1, .int 0), (0, .ref mo)]) hx hb dX5_mayGoOn_65 hl (k := 0) rfl (by decide) (by decide) rfl (fun ls hl => ?_)
            refine lv_goto (tgt := 9) hx hb dX5_mayGoOn_68 (by decide) ?_
            refine lv_iload_n hx hb dX5_mayGoOn_9 rfl (lv_at hl 0 rfl) ?_
            refine lv_iconst (v := 5) hx hb dX5_mayGoOn_10 (by decide) ?_
            refine lv_icmp_ge (tgt := 71) hx hb dX5_mayGoOn_11 (by decide) (fun hc => absurd hc (by decide)) (fun _ => ?_)
            refine lv_iload_n hx hb dX5_mayGoOn_14 rfl (lv_at hl 2 rfl) ?_
            refine lv_if_lt (tgt := 71) hx hb dX5_mayGoOn_15 (by decide) (fun hc => absurd hc (by decide)) (fun _ => ?_)
            refine lv_aload_n hx hb dX5_mayGoOn_18 rfl (lv_at hl 3 rfl) ?_
            refine va_get (D := D) (ci := 6) (v := .ref (ma 28)) (C := RX5) (T := TX5) (N := 29) hx hb hts in_X5_mayGoOn_X5 hown hK hP 2 rfl rfl 28 (by decide) w_0 (fun _ h9 => h9) rfl dX5_mayGoOn_19 ?_
            refine lv_iload_n hx hb dX5_mayGoOn_22 rfl (lv_at hl 0 rfl) ?_
            refine va_iald hx hb hK hP 3 0 rfl rfl (by unfold vp_in; decide) dX5_mayGoOn_23 ?_
            refine lv_topi (fun z_503 ez_503 => ?_)
            have fz_503 : z_503 = 0 := ez_503.trans (by rw [show (3 : Int32).toNatClampNeg = 3 by decide, haf 3 (by decide), hb3] <;> rfl)
            subst fz_503
            refine lv_if_lt (tgt := 65) hx hb dX5_mayGoOn_24 (by decide) (fun hc => absurd hc (by decide)) (fun _ => ?_)
            refine lv_aload_n hx hb dX5_mayGoOn_27 rfl (lv_at hl 3 rfl) ?_
            refine va_get (D := D) (ci := 6) (v := .ref (ma 2)) (C := RX5) (T := TX5) (N := 29) hx hb hts in_X5_mayGoOn_X5 hown hK hP 2 rfl rfl 2 (by decide) w_1 (fun _ h9 => h9) rfl dX5_mayGoOn_28 ?_
            refine lv_aload_n hx hb dX5_mayGoOn_31 rfl (lv_at hl 3 rfl) ?_
            refine va_get (D := D) (ci := 6) (v := .ref (ma 28)) (C := RX5) (T := TX5) (N := 29) hx hb hts in_X5_mayGoOn_X5 hown hK hP 2 rfl rfl 28 (by decide) w_0 (fun _ h9 => h9) rfl dX5_mayGoOn_32 ?_
            refine lv_iload_n hx hb dX5_mayGoOn_35 rfl (lv_at hl 0 rfl) ?_
            refine va_iald hx hb hK hP 3 0 rfl rfl (by unfold vp_in; decide) dX5_mayGoOn_36 ?_
            refine lv_topi (fun z_504 ez_504 => ?_)
            have fz_504 : z_504 = 0 := ez_504.trans (by rw [show (3 : Int32).toNatClampNeg = 3 by decide, haf 3 (by decide), hb3] <;> rfl)
            subst fz_504
            refine va_iald hx hb hK hP 4 0 rfl rfl (by unfold vp_in; decide) dX5_mayGoOn_37 ?_
            refine lv_topi (fun z_505 ez_505 => ?_)
            have fz_505 : z_505 = 0 := ez_505.trans (rfl)
            subst fz_505
            refine lv_aload_n hx hb dX5_mayGoOn_38 rfl (lv_at hl 3 rfl) ?_
            refine va_get (D := D) (ci := 6) (v := .ref (ma 2)) (C := RX5) (T := TX5) (N := 29) hx hb hts in_X5_mayGoOn_X5 hown hK hP 2 rfl rfl 2 (by decide) w_1 (fun _ h9 => h9) rfl dX5_mayGoOn_39 ?_
            refine lv_iload_n hx hb dX5_mayGoOn_42 rfl (lv_at hl 2 rfl) ?_
            refine va_iald hx hb hK hP 4 0 rfl rfl (by unfold vp_in; decide) dX5_mayGoOn_43 ?_
            refine lv_topi (fun z_506 ez_506 => ?_)
            have fz_506 : z_506 = 0 := ez_506.trans (rfl)
            subst fz_506
            refine lv_icmp_ne (tgt := 65) hx hb dX5_mayGoOn_44 (by decide) (fun hc => absurd (by decide) hc) (fun _ => ?_)
            refine lv_iload_n hx hb dX5_mayGoOn_47 rfl (lv_at hl 1 rfl) ?_
            refine lv_iload_n hx hb dX5_mayGoOn_48 rfl (lv_at hl 0 rfl) ?_
            refine lv_aload_n hx hb dX5_mayGoOn_49 rfl (lv_at hl 3 rfl) ?_
            refine va_get (D := D) (ci := 6) (v := .ref (ma 7)) (C := RX5) (T := TX5) (N := 29) hx hb hts in_X5_mayGoOn_X5 hown hK hP 2 rfl rfl 7 (by decide) w_2 (fun _ h9 => h9) rfl dX5_mayGoOn_50 ?_
            refine lv_iload_n hx hb dX5_mayGoOn_53 rfl (lv_at hl 2 rfl) ?_
            refine va_iald hx hb hK hP 0 0 rfl rfl (by unfold vp_in; decide) dX5_mayGoOn_54 ?_
            refine lv_topi (fun z_507 ez_507 => ?_)
            have fz_507 : z_507 = 0 := ez_507.trans (rfl)
            subst fz_507
            refine lv_icmp_ne (tgt := 62) hx hb dX5_mayGoOn_55 (by decide) (fun _ => ?_) (fun hc => absurd hc (by decide))
            refine lv_iconst (v := 2) hx hb dX5_mayGoOn_62 (by decide) ?_
            refine lv_iadd hx hb dX5_mayGoOn_63 ?_
            refine lv_topi (fun z_508 ez_508 => ?_)
            have fz_508 : z_508 = 7 := ez_508.trans (by decide)
            subst fz_508
            refine lv_istore_n (lv' := [(2, .int 7), (3, .int 3), (1, .int 0), (0, .ref mo)]) hx hb dX5_mayGoOn_64 rfl hl (by decide) rfl (fun ls hl => ?_)
            refine lv_iinc (v := 4) (lv' := [(3, .int 4), (2, .int 7), (1, .int 0), (0, .ref mo)]) hx hb dX5_mayGoOn_65 hl (k := 1) rfl (by decide) (by decide) rfl (fun ls hl => ?_)
            refine lv_goto (tgt := 9) hx hb dX5_mayGoOn_68 (by decide) ?_
            refine lv_iload_n hx hb dX5_mayGoOn_9 rfl (lv_at hl 0 rfl) ?_
            refine lv_iconst (v := 5) hx hb dX5_mayGoOn_10 (by decide) ?_
            refine lv_icmp_ge (tgt := 71) hx hb dX5_mayGoOn_11 (by decide) (fun hc => absurd hc (by decide)) (fun _ => ?_)
            refine lv_iload_n hx hb dX5_mayGoOn_14 rfl (lv_at hl 2 rfl) ?_
            refine lv_if_lt (tgt := 71) hx hb dX5_mayGoOn_15 (by decide) (fun hc => absurd hc (by decide)) (fun _ => ?_)
            refine lv_aload_n hx hb dX5_mayGoOn_18 rfl (lv_at hl 3 rfl) ?_
            refine va_get (D := D) (ci := 6) (v := .ref (ma 28)) (C := RX5) (T := TX5) (N := 29) hx hb hts in_X5_mayGoOn_X5 hown hK hP 2 rfl rfl 28 (by decide) w_0 (fun _ h9 => h9) rfl dX5_mayGoOn_19 ?_
            refine lv_iload_n hx hb dX5_mayGoOn_22 rfl (lv_at hl 0 rfl) ?_
            refine va_iald hx hb hK hP 3 0 rfl rfl (by unfold vp_in; decide) dX5_mayGoOn_23 ?_
            refine lv_topi (fun z_509 ez_509 => ?_)
            have fz_509 : z_509 = (-1) := ez_509.trans (by rw [show (4 : Int32).toNatClampNeg = 4 by decide, haf 4 (by decide), hb4] <;> rfl)
            subst fz_509
            refine lv_if_lt (tgt := 65) hx hb dX5_mayGoOn_24 (by decide) (fun _ => ?_) (fun hc => absurd (by decide) hc)
            refine lv_iinc (v := 5) (lv' := [(3, .int 5), (2, .int 7), (1, .int 0), (0, .ref mo)]) hx hb dX5_mayGoOn_65 hl (k := 0) rfl (by decide) (by decide) rfl (fun ls hl => ?_)
            refine lv_goto (tgt := 9) hx hb dX5_mayGoOn_68 (by decide) ?_
            refine lv_iload_n hx hb dX5_mayGoOn_9 rfl (lv_at hl 0 rfl) ?_
            refine lv_iconst (v := 5) hx hb dX5_mayGoOn_10 (by decide) ?_
            refine lv_icmp_ge (tgt := 71) hx hb dX5_mayGoOn_11 (by decide) (fun _ => ?_) (fun hc => absurd (by decide) hc)
            refine lv_iload_n hx hb dX5_mayGoOn_71 rfl (lv_at hl 2 rfl) ?_
            refine lv_if_lt (tgt := 89) hx hb dX5_mayGoOn_72 (by decide) (fun hc => absurd hc (by decide)) (fun _ => ?_)
            refine lv_iload_n hx hb dX5_mayGoOn_75 rfl (lv_at hl 1 rfl) ?_
            refine lv_aload_n hx hb dX5_mayGoOn_76 rfl (lv_at hl 3 rfl) ?_
            refine va_get (D := D) (ci := 6) (v := .ref (ma 6)) (C := RX5) (T := TX5) (N := 29) hx hb hts in_X5_mayGoOn_X5 hown hK hP 2 rfl rfl 6 (by decide) w_3 (fun _ h9 => h9) rfl dX5_mayGoOn_77 ?_
            refine lv_iload_n hx hb dX5_mayGoOn_80 rfl (lv_at hl 2 rfl) ?_
            refine va_iald hx hb hK hP 1 0 rfl rfl (by unfold vp_in; decide) dX5_mayGoOn_81 ?_
            refine lv_topi (fun z_510 ez_510 => ?_)
            have fz_510 : z_510 = 5 := ez_510.trans (hzf)
            subst fz_510
            refine lv_icmp_le (tgt := 89) hx hb dX5_mayGoOn_82 (by decide) (fun hc => absurd hc (by decide)) (fun _ => ?_)
            refine lv_iconst (v := 1) hx hb dX5_mayGoOn_85 (by decide) ?_
            refine lv_goto (tgt := 90) hx hb dX5_mayGoOn_86 (by decide) ?_
            have hP9 := hP.sub (ws' := [(mo, .inr (6, [.int th, .int 1, .ref (ma 2), .ref (ma 3), .ref (ma 4), .ref (ma 5), .ref (ma 6), .ref (ma 7), .ref (ma 8), .ref (ma 9), .ref (ma 10), .ref (ma 11), .ref (ma 12), .ref (ma 13), .ref (ma 14), .ref (ma 15), .ref (ma 16), .ref (ma 17), .ref (ma 18), .ref (ma 19), .ref (ma 20), .ref (ma 21), .int 0, .ref (ma 23), .ref (ma 24), .ref (ma 25), .ref (ma 26), .ref (ma 27), .ref (ma 28)])), ((ma 28), wI tC 5 af), ((ma 2), wI tC 600 (fun _ => 0)), ((ma 7), wI tC 600 (fun _ => 0)), ((ma 6), wI tC 600 zf)]) [2, 3, 4, 0, 1] rfl
            have hD9 := hD.sub (ws' := [(mo, .inr (6, [.int th, .int 1, .ref (ma 2), .ref (ma 3), .ref (ma 4), .ref (ma 5), .ref (ma 6), .ref (ma 7), .ref (ma 8), .ref (ma 9), .ref (ma 10), .ref (ma 11), .ref (ma 12), .ref (ma 13), .ref (ma 14), .ref (ma 15), .ref (ma 16), .ref (ma 17), .ref (ma 18), .ref (ma 19), .ref (ma 20), .ref (ma 21), .int 0, .ref (ma 23), .ref (ma 24), .ref (ma 25), .ref (ma 26), .ref (ma 27), .ref (ma 28)])), ((ma 28), wI tC 5 af), ((ma 2), wI tC 600 (fun _ => 0)), ((ma 7), wI tC 600 (fun _ => 0)), ((ma 6), wI tC 600 zf)]) [2, 3, 4, 0, 1] (by decide) rfl
            refine W.widen (k := 0) (n := 0) (by omega) (by omega) ?_
            exact W.zret (v := 1) hx hb hr (by decide) (fun t ht hW => ⟨⟨1, (), rfl, (by unfold mayg cntb; rw [hb0, hb1, hb2, hb3, hb4] <;> decide), (by rw [ht]; exact hP9), va_K.moved hW.alike hK, hD9⟩, hS.F ht⟩) hS.2.2 dX5_mayGoOn_90 hlocks
          · skip
            refine lv_aload_n hx hb dX5_mayGoOn_0 rfl (lv_at hl 0 rfl) ?_
            have hPc := hP.sub (ws' := [(mo, .inr (6, [.int th, .int 1, .ref (ma 2), .ref (ma 3), .ref (ma 4), .ref (ma 5), .ref (ma 6), .ref (ma 7), .ref (ma 8), .ref (ma 9), .ref (ma 10), .ref (ma 11), .ref (ma 12), .ref (ma 13), .ref (ma 14), .ref (ma 15), .ref (ma 16), .ref (ma 17), .ref (ma 18), .ref (ma 19), .ref (ma 20), .ref (ma 21), .int 0, .ref (ma 23), .ref (ma 24), .ref (ma 25), .ref (ma 26), .ref (ma 27), .ref (ma 28)])), ((ma 28), wI tC 5 af), ((ma 2), wI tC 600 (fun _ => 0))]) [0, 1, 2] rfl
            have hDc := hD.sub (ws' := [(mo, .inr (6, [.int th, .int 1, .ref (ma 2), .ref (ma 3), .ref (ma 4), .ref (ma 5), .ref (ma 6), .ref (ma 7), .ref (ma 8), .ref (ma 9), .ref (ma 10), .ref (ma 11), .ref (ma 12), .ref (ma 13), .ref (ma 14), .ref (ma 15), .ref (ma 16), .ref (ma 17), .ref (ma 18), .ref (ma 19), .ref (ma 20), .ref (ma 21), .int 0, .ref (ma 23), .ref (ma 24), .ref (ma 25), .ref (ma 26), .ref (ma 27), .ref (ma 28)])), ((ma 28), wI tC 5 af), ((ma 2), wI tC 600 (fun _ => 0))]) [0, 1, 2] (by decide) rfl
            have hFc := va_free (wc := [(mo, .inr (6, [.int th, .int 1, .ref (ma 2), .ref (ma 3), .ref (ma 4), .ref (ma 5), .ref (ma 6), .ref (ma 7), .ref (ma 8), .ref (ma 9), .ref (ma 10), .ref (ma 11), .ref (ma 12), .ref (ma 13), .ref (ma 14), .ref (ma 15), .ref (ma 16), .ref (ma 17), .ref (ma 18), .ref (ma 19), .ref (ma 20), .ref (ma 21), .int 0, .ref (ma 23), .ref (ma 24), .ref (ma 25), .ref (ma 26), .ref (ma 27), .ref (ma 28)])), ((ma 28), wI tC 5 af), ((ma 2), wI tC 600 (fun _ => 0))]) hD hS hA [0, 1, 2] rfl
            refine va_calli (va_runV (As := []) (rest := []) ⟨hx, hb, hml, hown, hts⟩ (c_X5_greatest l hlt D tC dz s.heap.size mo ma th af bt haf) (cwV 0 hts gX5_mayGoOn_X5_greatest rfl rfl rfl (by decide +kernel) ⟨Nat.le_of_ble_eq_true rfl, Nat.le_of_ble_eq_true rfl⟩) ⟨pB_blind, va_recv hK hPc (ci := 6) (q0 := 0) rfl rfl, pB_at hPc hDc hK hN hE hS hFc⟩ rfl rfl hl.1 rfl (lv_room (Nat.le_of_ble_eq_true rfl)) dX5_mayGoOn_1 ⟨Nat.le_of_ble_eq_true rfl, Nat.le_of_ble_eq_true rfl⟩) hS (fun q _ h => hFc q h) hFc (fun r_511 u t H1 locs ht hvm hw hB hz1 hk1 hS => ?_)
            obtain ⟨hP1, _, hD1⟩ := hB
            have hw_512 := hw
            rw [ht] at hP1
            obtain ⟨hP, hD⟩ := va_join (wr := [((ma 7), wI tC 600 (fun _ => 0)), ((ma 6), wI tC 600 zf)]) (w1 := [(mo, .inr (6, [.int th, .int 1, .ref (ma 2), .ref (ma 3), .ref (ma 4), .ref (ma 5), .ref (ma 6), .ref (ma 7), .ref (ma 8), .ref (ma 9), .ref (ma 10), .ref (ma 11), .ref (ma 12), .ref (ma 13), .ref (ma 14), .ref (ma 15), .ref (ma 16), .ref (ma 17), .ref (ma 18), .ref (ma 19), .ref (ma 20), .ref (ma 21), .int 0, .ref (ma 23), .ref (ma 24), .ref (ma 25), .ref (ma 26), .ref (ma 27), .ref (ma 28)])), ((ma 28), wI tC 5 af), ((ma 2), wI tC 600 (fun _ => 0))]) hP hD [0, 1, 2] [3, 4] rfl rfl (by decide) (by decide) hk1 hFc hP1 hD1
            generalize H1 = H at hP hS ⊢
            have hP : va_P D vwCl [((ma 7), wI tC 600 (fun _ => 0)), ((ma 6), wI tC 600 zf), (mo, .inr (6, [.int th, .int 1, .ref (ma 2), .ref (ma 3), .ref (ma 4), .ref (ma 5), .ref (ma 6), .ref (ma 7), .ref (ma 8), .ref (ma 9), .ref (ma 10), .ref (ma 11), .ref (ma 12), .ref (ma 13), .ref (ma 14), .ref (ma 15), .ref (ma 16), .ref (ma 17), .ref (ma 18), .ref (ma 19), .ref (ma 20), .ref (ma 21), .int 0, .ref (ma 23), .ref (ma 24), .ref (ma 25), .ref (ma 26), .ref (ma 27), .ref (ma 28)])), ((ma 28), wI tC 5 af), ((ma 2), wI tC 600 (fun _ => 0))] H := hP
            have hD : va_D A [((ma 7), wI tC 600 (fun _ => 0)), ((ma 6), wI tC 600 zf), (mo, .inr (6, [.int th, .int 1, .ref (ma 2), .ref (ma 3), .ref (ma 4), .ref (ma 5), .ref (ma 6), .ref (ma 7), .ref (ma 8), .ref (ma 9), .ref (ma 10), .ref (ma 11), .ref (ma 12), .ref (ma 13), .ref (ma 14), .ref (ma 15), .ref (ma 16), .ref (ma 17), .ref (ma 18), .ref (ma 19), .ref (ma 20), .ref (ma 21), .int 0, .ref (ma 23), .ref (ma 24), .ref (ma 25), .ref (ma 26), .ref (ma 27), .ref (ma 28)])), ((ma 28), wI tC 5 af), ((ma 2), wI tC 600 (fun _ => 0))] := hD
            have q1 : r_511 = 0 := hw_512.trans (by rw [hb0, hb1, hb2, hb3, hb4] <;> rfl)
            subst q1
            refine lv_istore_n (lv' := [(1, .int 0), (0, .ref mo)]) hx hb dX5_mayGoOn_4 rfl hl (by decide) rfl (fun ls hl => ?_)
            refine lv_iconst (v := 0) hx hb dX5_mayGoOn_5 (by decide) ?_
            refine lv_istore_n (lv' := [(2, .int 0), (1, .int 0), (0, .ref mo)]) hx hb dX5_mayGoOn_6 rfl hl (by decide) rfl (fun ls hl => ?_)
            refine lv_iconst (v := 0) hx hb dX5_mayGoOn_7 (by decide) ?_
            refine lv_istore_n (lv' := [(3, .int 0), (2, .int 0), (1, .int 0), (0, .ref mo)]) hx hb dX5_mayGoOn_8 rfl hl (by decide) rfl (fun ls hl => ?_)
            refine lv_iload_n hx hb dX5_mayGoOn_9 rfl (lv_at hl 0 rfl) ?_
            refine lv_iconst (v := 5) hx hb dX5_mayGoOn_10 (by decide) ?_
            refine lv_icmp_ge (tgt := 71) hx hb dX5_mayGoOn_11 (by decide) (fun hc => absurd hc (by decide)) (fun _ => ?_)
            refine lv_iload_n hx hb dX5_mayGoOn_14 rfl (lv_at hl 2 rfl) ?_
            refine lv_if_lt (tgt := 71) hx hb dX5_mayGoOn_15 (by decide) (fun hc => absurd hc (by decide)) (fun _ => ?_)
            refine lv_aload_n hx hb dX5_mayGoOn_18 rfl (lv_at hl 3 rfl) ?_
            refine va_get (D := D) (ci := 6) (v := .ref (ma 28)) (C := RX5) (T := TX5) (N := 29) hx hb hts in_X5_mayGoOn_X5 hown hK hP 2 rfl rfl 28 (by decide) w_0 (fun _ h9 => h9) rfl dX5_mayGoOn_19 ?_
            refine lv_iload_n hx hb dX5_mayGoOn_22 rfl (lv_at hl 0 rfl) ?_
            refine va_iald hx hb hK hP 3 0 rfl rfl (by unfold vp_in; decide) dX5_mayGoOn_23 ?_
            refine lv_topi (fun z_513 ez_513 => ?_)
            have fz_513 : z_513 = 0 := ez_513.trans (by rw [show (0 : Int32).toNatClampNeg = 0 by decide, haf 0 (by decide), hb0] <;> rfl)
            subst fz_513
            refine lv_if_lt (tgt := 65) hx hb dX5_mayGoOn_24 (by decide) (fun hc => absurd hc (by decide)) (fun _ => ?_)
            refine lv_aload_n hx hb dX5_mayGoOn_27 rfl (lv_at hl 3 rfl) ?_
            refine va_get (D := D) (ci := 6) (v := .ref (ma 2)) (C := RX5) (T := TX5) (N := 29) hx hb hts in_X5_mayGoOn_X5 hown hK hP 2 rfl rfl 2 (by decide) w_1 (fun _ h9 => h9) rfl dX5_mayGoOn_28 ?_
            refine lv_aload_n hx hb dX5_mayGoOn_31 rfl (lv_at hl 3 rfl) ?_
            refine va_get (D := D) (ci := 6) (v := .ref (ma 28)) (C := RX5) (T := TX5) (N := 29) hx hb hts in_X5_mayGoOn_X5 hown hK hP 2 rfl rfl 28 (by decide) w_0 (fun _ h9 => h9) rfl dX5_mayGoOn_32 ?_
            refine lv_iload_n hx hb dX5_mayGoOn_35 rfl (lv_at hl 0 rfl) ?_
            refine va_iald hx hb hK hP 3 0 rfl rfl (by unfold vp_in; decide) dX5_mayGoOn_36 ?_
            refine lv_topi (fun z_514 ez_514 => ?_)
            have fz_514 : z_514 = 0 := ez_514.trans (by rw [show (0 : Int32).toNatClampNeg = 0 by decide, haf 0 (by decide), hb0] <;> rfl)
            subst fz_514
            refine va_iald hx hb hK hP 4 0 rfl rfl (by unfold vp_in; decide) dX5_mayGoOn_37 ?_
            refine lv_topi (fun z_515 ez_515 => ?_)
            have fz_515 : z_515 = 0 := ez_515.trans (rfl)
            subst fz_515
            refine lv_aload_n hx hb dX5_mayGoOn_38 rfl (lv_at hl 3 rfl) ?_
            refine va_get (D := D) (ci := 6) (v := .ref (ma 2)) (C := RX5) (T := TX5) (N := 29) hx hb hts in_X5_mayGoOn_X5 hown hK hP 2 rfl rfl 2 (by decide) w_1 (fun _ h9 => h9) rfl dX5_mayGoOn_39 ?_
            refine lv_iload_n hx hb dX5_mayGoOn_42 rfl (lv_at hl 2 rfl) ?_
            refine va_iald hx hb hK hP 4 0 rfl rfl (by unfold vp_in; decide) dX5_mayGoOn_43 ?_
            refine lv_topi (fun z_516 ez_516 => ?_)
            have fz_516 : z_516 = 0 := ez_516.trans (rfl)
            subst fz_516
            refine lv_icmp_ne (tgt := 65) hx hb dX5_mayGoOn_44 (by decide) (fun hc => absurd (by decide) hc) (fun _ => ?_)
            refine lv_iload_n hx hb dX5_mayGoOn_47 rfl (lv_at hl 1 rfl) ?_
            refine lv_iload_n hx hb dX5_mayGoOn_48 rfl (lv_at hl 0 rfl) ?_
            refine lv_aload_n hx hb dX5_mayGoOn_49 rfl (lv_at hl 3 rfl) ?_
            refine va_get (D := D) (ci := 6) (v := .ref (ma 7)) (C := RX5) (T := TX5) (N := 29) hx hb hts in_X5_mayGoOn_X5 hown hK hP 2 rfl rfl 7 (by decide) w_2 (fun _ h9 => h9) rfl dX5_mayGoOn_50 ?_
            refine lv_iload_n hx hb dX5_mayGoOn_53 rfl (lv_at hl 2 rfl) ?_
            refine va_iald hx hb hK hP 0 0 rfl rfl (by unfold vp_in; decide) dX5_mayGoOn_54 ?_
            refine lv_topi (fun z_517 ez_517 => ?_)
            have fz_517 : z_517 = 0 := ez_517.trans (rfl)
            subst fz_517
            refine lv_icmp_ne (tgt := 62) hx hb dX5_mayGoOn_55 (by decide) (fun hc => absurd (by decide) hc) (fun _ => ?_)
            refine lv_iconst (v := 3) hx hb dX5_mayGoOn_58 (by decide) ?_
            refine lv_goto (tgt := 63) hx hb dX5_mayGoOn_59 (by decide) ?_
            refine lv_iadd hx hb dX5_mayGoOn_63 ?_
            refine lv_topi (fun z_518 ez_518 => ?_)
            have fz_518 : z_518 = 3 := ez_518.trans (by decide)
            subst fz_518
            refine lv_istore_n (lv' := [(2, .int 3), (3, .int 0), (1, .int 0), (0, .ref mo)]) hx hb dX5_mayGoOn_64 rfl hl (by decide) rfl (fun ls hl => ?_)
            refine lv_iinc (v := 1) (lv' := [(3, .int 1), (2, .int 3), (1, .int 0), (0, .ref mo)]) hx hb dX5_mayGoOn_65 hl (k := 1) rfl (by decide) (by decide) rfl (fun ls hl => ?_)
            refine lv_goto (tgt := 9) hx hb dX5_mayGoOn_68 (by decide) ?_
            refine lv_iload_n hx hb dX5_mayGoOn_9 rfl (lv_at hl 0 rfl) ?_
            refine lv_iconst (v := 5) hx hb dX5_mayGoOn_10 (by decide) ?_
            refine lv_icmp_ge (tgt := 71) hx hb dX5_mayGoOn_11 (by decide) (fun hc => absurd hc (by decide)) (fun _ => ?_)
            refine lv_iload_n hx hb dX5_mayGoOn_14 rfl (lv_at hl 2 rfl) ?_
            refine lv_if_lt (tgt := 71) hx hb dX5_mayGoOn_15 (by decide) (fun hc => absurd hc (by decide)) (fun _ => ?_)
            refine lv_aload_n hx hb dX5_mayGoOn_18 rfl (lv_at hl 3 rfl) ?_
            refine va_get (D := D) (ci := 6) (v := .ref (ma 28)) (C := RX5) (T := TX5) (N := 29) hx hb hts in_X5_mayGoOn_X5 hown hK hP 2 rfl rfl 28 (by decide) w_0 (fun _ h9 => h9) rfl dX5_mayGoOn_19 ?_
            refine lv_iload_n hx hb dX5_mayGoOn_22 rfl (lv_at hl 0 rfl) ?_
            refine va_iald hx hb hK hP 3 0 rfl rfl (by unfold vp_in; decide) dX5_mayGoOn_23 ?_
            refine lv_topi (fun z_519 ez_519 => ?_)
            have fz_519 : z_519 = 0 := ez_519.trans (by rw [show (1 : Int32).toNatClampNeg = 1 by decide, haf 1 (by decide), hb1] <;> rfl)
            subst fz_519
            refine lv_if_lt (tgt := 65) hx hb dX5_mayGoOn_24 (by decide) (fun hc => absurd hc (by decide)) (fun _ => ?_)
            refine lv_aload_n hx hb dX5_mayGoOn_27 rfl (lv_at hl 3 rfl) ?_
            refine va_get (D := D) (ci := 6) (v := .ref (ma 2)) (C := RX5) (T := TX5) (N := 29) hx hb hts in_X5_mayGoOn_X5 hown hK hP 2 rfl rfl 2 (by decide) w_1 (fun _ h9 => h9) rfl dX5_mayGoOn_28 ?_
            refine lv_aload_n hx hb dX5_mayGoOn_31 rfl (lv_at hl 3 rfl) ?_
            refine va_get (D := D) (ci := 6) (v := .ref (ma 28)) (C := RX5) (T := TX5) (N := 29) hx hb hts in_X5_mayGoOn_X5 hown hK hP 2 rfl rfl 28 (by decide) w_0 (fun _ h9 => h9) rfl dX5_mayGoOn_32 ?_
            refine lv_iload_n hx hb dX5_mayGoOn_35 rfl (lv_at hl 0 rfl) ?_
            refine va_iald hx hb hK hP 3 0 rfl rfl (by unfold vp_in; decide) dX5_mayGoOn_36 ?_
            refine lv_topi (fun z_520 ez_520 => ?_)
            have fz_520 : z_520 = 0 := ez_520.trans (by rw [show (1 : Int32).toNatClampNeg = 1 by decide, haf 1 (by decide), hb1] <;> rfl)
            subst fz_520
            refine va_iald hx hb hK hP 4 0 rfl rfl (by unfold vp_in; decide) dX5_mayGoOn_37 ?_
            refine lv_topi (fun z_521 ez_521 => ?_)
            have fz_521 : z_521 = 0 := ez_521.trans (rfl)
            subst fz_521
            refine lv_aload_n hx hb dX5_mayGoOn_38 rfl (lv_at hl 3 rfl) ?_
            refine va_get (D := D) (ci := 6) (v := .ref (ma 2)) (C := RX5) (T := TX5) (N := 29) hx hb hts in_X5_mayGoOn_X5 hown hK hP 2 rfl rfl 2 (by decide) w_1 (fun _ h9 => h9) rfl dX5_mayGoOn_39 ?_
            refine lv_iload_n hx hb dX5_mayGoOn_42 rfl (lv_at hl 2 rfl) ?_
            refine va_iald hx hb hK hP 4 0 rfl rfl (by unfold vp_in; decide) dX5_mayGoOn_43 ?_
            refine lv_topi (fun z_522 ez_522 => ?_)
            have fz_522 : z_522 = 0 := ez_522.trans (rfl)
            subst fz_522
            refine lv_icmp_ne (tgt := 65) hx hb dX5_mayGoOn_44 (by decide) (fun hc => absurd (by decide) hc) (fun _ => ?_)
            refine lv_iload_n hx hb dX5_mayGoOn_47 rfl (lv_at hl 1 rfl) ?_
            refine lv_iload_n hx hb dX5_mayGoOn_48 rfl (lv_at hl 0 rfl) ?_
            refine lv_aload_n hx hb dX5_mayGoOn_49 rfl (lv_at hl 3 rfl) ?_
            refine va_get (D := D) (ci := 6) (v := .ref (ma 7)) (C := RX5) (T := TX5) (N := 29) hx hb hts in_X5_mayGoOn_X5 hown hK hP 2 rfl rfl 7 (by decide) w_2 (fun _ h9 => h9) rfl dX5_mayGoOn_50 ?_
            refine lv_iload_n hx hb dX5_mayGoOn_53 rfl (lv_at hl 2 rfl) ?_
            refine va_iald hx hb hK hP 0 0 rfl rfl (by unfold vp_in; decide) dX5_mayGoOn_54 ?_
            refine lv_topi (fun z_523 ez_523 => ?_)
            have fz_523 : z_523 = 0 := ez_523.trans (rfl)
            subst fz_523
            refine lv_icmp_ne (tgt := 62) hx hb dX5_mayGoOn_55 (by decide) (fun _ => ?_) (fun hc => absurd hc (by decide))
            refine lv_iconst (v := 2) hx hb dX5_mayGoOn_62 (by decide) ?_
            refine lv_iadd hx hb dX5_mayGoOn_63 ?_
            refine lv_topi (fun z_524 ez_524 => ?_)
            have fz_524 : z_524 = 5 := ez_524.trans (by decide)
            subst fz_524
            refine lv_istore_n (lv' := [(2, .int 5), (3, .int 1), (1, .int 0), (0, .ref mo)]) hx hb dX5_mayGoOn_64 rfl hl (by decide) rfl (fun ls hl => ?_)
            refine lv_iinc (v := 2) (lv' := [(3, .int 2), (2, .int 5), (1, .int 0), (0, .ref mo)]) hx hb dX5_mayGoOn_65 hl (k := 1) rfl (by decide) (by decide) rfl (fun ls hl => ?_)
            refine lv_goto (tgt := 9) hx hb dX5_mayGoOn_68 (by decide) ?_
            refine lv_iload_n hx hb dX5_mayGoOn_9 rfl (lv_at hl 0 rfl) ?_
            refine lv_iconst (v := 5) hx hb dX5_mayGoOn_10 (by decide) ?_
            refine lv_icmp_ge (tgt := 71) hx hb dX5_mayGoOn_11 (by decide) (fun hc => absurd hc (by decide)) (fun _ => ?_)
            refine lv_iload_n hx hb dX5_mayGoOn_14 rfl (lv_at hl 2 rfl) ?_
            refine lv_if_lt (tgt := 71) hx hb dX5_mayGoOn_15 (by decide) (fun hc => absurd hc (by decide)) (fun _ => ?_)
            refine lv_aload_n hx hb dX5_mayGoOn_18 rfl (lv_at hl 3 rfl) ?_
            refine va_get (D := D) (ci := 6) (v := .ref (ma 28)) (C := RX5) (T := TX5) (N := 29) hx hb hts in_X5_mayGoOn_X5 hown hK hP 2 rfl rfl 28 (by decide) w_0 (fun _ h9 => h9) rfl dX5_mayGoOn_19 ?_
            refine lv_iload_n hx hb dX5_mayGoOn_22 rfl (lv_at hl 0 rfl) ?_
            refine va_iald hx hb hK hP 3 0 rfl rfl (by unfold vp_in; decide) dX5_mayGoOn_23 ?_
            refine lv_topi (fun z_525 ez_525 => ?_)
            have fz_525 : z_525 = (-1) := ez_525.trans (by rw [show (2 : Int32).toNatClampNeg = 2 by decide, haf 2 (by decide), hb2] <;> rfl)
            subst fz_525
            refine lv_if_lt (tgt := 65) hx hb dX5_mayGoOn_24 (by decide) (fun _ => ?_) (fun hc => absurd (by decide) hc)
            refine lv_iinc (v := 3) (lv' := [(3, .int 3), (2, .int 5), (1, .int 0), (0, .ref mo)]) hx hb dX5_mayGoOn_65 hl (k := 0) rfl (by decide) (by decide) rfl (fun ls hl => ?_)
            refine lv_goto (tgt := 9) hx hb dX5_mayGoOn_68 (by decide) ?_
            refine lv_iload_n hx hb dX5_mayGoOn_9 rfl (lv_at hl 0 rfl) ?_
            refine lv_iconst (v := 5) hx hb dX5_mayGoOn_10 (by decide) ?_
            refine lv_icmp_ge (tgt := 71) hx hb dX5_mayGoOn_11 (by decide) (fun hc => absurd hc (by decide)) (fun _ => ?_)
            refine lv_iload_n hx hb dX5_mayGoOn_14 rfl (lv_at hl 2 rfl) ?_
            refine lv_if_lt (tgt := 71) hx hb dX5_mayGoOn_15 (by decide) (fun hc => absurd hc (by decide)) (fun _ => ?_)
            refine lv_aload_n hx hb dX5_mayGoOn_18 rfl (lv_at hl 3 rfl) ?_
            refine va_get (D := D) (ci := 6) (v := .ref (ma 28)) (C := RX5) (T := TX5) (N := 29) hx hb hts in_X5_mayGoOn_X5 hown hK hP 2 rfl rfl 28 (by decide) w_0 (fun _ h9 => h9) rfl dX5_mayGoOn_19 ?_
            refine lv_iload_n hx hb dX5_mayGoOn_22 rfl (lv_at hl 0 rfl) ?_
            refine va_iald hx hb hK hP 3 0 rfl rfl (by unfold vp_in; decide) dX5_mayGoOn_23 ?_
            refine lv_topi (fun z_526 ez_526 => ?_)
            have fz_526 : z_526 = 0 := ez_526.trans (by rw [show (3 : Int32).toNatClampNeg = 3 by decide, haf 3 (by decide), hb3] <;> rfl)
            subst fz_526
            refine lv_if_lt (tgt := 65) hx hb dX5_mayGoOn_24 (by decide) (fun hc => absurd hc (by decide)) (fun _ => ?_)
            refine lv_aload_n hx hb dX5_mayGoOn_27 rfl (lv_at hl 3 rfl) ?_
            refine va_get (D := D) (ci := 6) (v := .ref (ma 2)) (C := RX5) (T := TX5) (N := 29) hx hb hts in_X5_mayGoOn_X5 hown hK hP 2 rfl rfl 2 (by decide) w_1 (fun _ h9 => h9) rfl dX5_mayGoOn_28 ?_
            refine lv_aload_n hx hb dX5_mayGoOn_31 rfl (lv_at hl 3 rfl) ?_
            refine va_get (D := D) (ci := 6) (v := .ref (ma 28)) (C := RX5) (T := TX5) (N := 29) hx hb hts in_X5_mayGoOn_X5 hown hK hP 2 rfl rfl 28 (by decide) w_0 (fun _ h9 => h9) rfl dX5_mayGoOn_32 ?_
            refine lv_iload_n hx hb dX5_mayGoOn_35 rfl (lv_at hl 0 rfl) ?_
            refine va_iald hx hb hK hP 3 0 rfl rfl (by unfold vp_in; decide) dX5_mayGoOn_36 ?_
            refine lv_topi (fun z_527 ez_527 => ?_)
            have fz_527 : z_527 = 0 := ez_527.trans (by rw [show (3 : Int32).toNatClampNeg = 3 by decide, haf 3 (by decide), hb3] <;> rfl)
            subst fz_527
            refine va_iald hx hb hK hP 4 0 rfl rfl (by unfold vp_in; decide) dX5_mayGoOn_37 ?_
            refine lv_topi (fun z_528 ez_528 => ?_)
            have fz_528 : z_528 = 0 := ez_528.trans (rfl)
            subst fz_528
            refine lv_aload_n hx hb dX5_mayGoOn_38 rfl (lv_at hl 3 rfl) ?_
            refine va_get (D := D) (ci := 6) (v := .ref (ma 2)) (C := RX5) (T := TX5) (N := 29) hx hb hts in_X5_mayGoOn_X5 hown hK hP 2 rfl rfl 2 (by decide) w_1 (fun _ h9 => h9) rfl dX5_mayGoOn_39 ?_
            refine lv_iload_n hx hb dX5_mayGoOn_42 rfl (lv_at hl 2 rfl) ?_
            refine va_iald hx hb hK hP 4 0 rfl rfl (by unfold vp_in; decide) dX5_mayGoOn_43 ?_
            refine lv_topi (fun z_529 ez_529 => ?_)
            have fz_529 : z_529 = 0 := ez_529.trans (rfl)
            subst fz_529
            refine lv_icmp_ne (tgt := 65) hx hb dX5_mayGoOn_44 (by decide) (fun hc => absurd (by decide) hc) (fun _ => ?_)
            refine lv_iload_n hx hb dX5_mayGoOn_47 rfl (lv_at hl 1 rfl) ?_
            refine lv_iload_n hx hb dX5_mayGoOn_48 rfl (lv_at hl 0 rfl) ?_
            refine lv_aload_n hx hb dX5_mayGoOn_49 rfl (lv_at hl 3 rfl) ?_
            refine va_get (D := D) (ci := 6) (v := .ref (ma 7)) (C := RX5) (T := TX5) (N := 29) hx hb hts in_X5_mayGoOn_X5 hown hK hP 2 rfl rfl 7 (by decide) w_2 (fun _ h9 => h9) rfl dX5_mayGoOn_50 ?_
            refine lv_iload_n hx hb dX5_mayGoOn_53 rfl (lv_at hl 2 rfl) ?_
            refine va_iald hx hb hK hP 0 0 rfl rfl (by unfold vp_in; decide) dX5_mayGoOn_54 ?_
            refine lv_topi (fun z_530 ez_530 => ?_)
            have fz_530 : z_530 = 0 := ez_530.trans (rfl)
            subst fz_530
            refine lv_icmp_ne (tgt := 62) hx hb dX5_mayGoOn_55 (by decide) (fun _ => ?_) (fun hc => absurd hc (by decide))
            refine lv_iconst (v := 2) hx hb dX5_mayGoOn_62 (by decide) ?_
            refine lv_iadd hx hb dX5_mayGoOn_63 ?_
            refine lv_topi (fun z_531 ez_531 => ?_)
            have fz_531 : z_531 = 7 := ez_531.trans (by decide)
            subst fz_531
            refine lv_istore_n (lv' := [(2, .int 7), (3, .int 3), (1, .int 0), (0, .ref mo)]) hx hb dX5_mayGoOn_64 rfl hl (by decide) rfl (fun ls hl => ?_)
            refine lv_iinc (v := 4) (lv' := [(3, .int 4), (2, .int 7), (1, .int 0), (0, .ref mo)]) hx hb dX5_mayGoOn_65 hl (k := 1) rfl (by decide) (by decide) rfl (fun ls hl => ?_)
            refine lv_goto (tgt := 9) hx hb dX5_mayGoOn_68 (by decide) ?_
            refine lv_iload_n hx hb dX5_mayGoOn_9 rfl (lv_at hl 0 rfl) ?_
            refine lv_iconst (v := 5) hx hb dX5_mayGoOn_10 (by decide) ?_
            refine lv_icmp_ge (tgt := 71) hx hb dX5_mayGoOn_11 (by decide) (fun hc => absurd hc (by decide)) (fun _ => ?_)
            refine lv_iload_n hx hb dX5_mayGoOn_14 rfl (lv_at hl 2 rfl) ?_
            refine lv_if_lt (tgt := 71) hx hb dX5_mayGoOn_15 (by decide) (fun hc => absurd hc (by decide)) (fun _ => ?_)
            refine lv_aload_n hx hb dX5_mayGoOn_18 rfl (lv_at hl 3 rfl) ?_
            refine va_get (D := D) (ci := 6) (v := .ref (ma 28)) (C := RX5) (T := TX5) (N := 29) hx hb hts in_X5_mayGoOn_X5 hown hK hP 2 rfl rfl 28 (by decide) w_0 (fun _ h9 => h9) rfl dX5_mayGoOn_19 ?_
            refine lv_iload_n hx hb dX5_mayGoOn_22 rfl (lv_at hl 0 rfl) ?_
            refine va_iald hx hb hK hP 3 0 rfl rfl (by unfold vp_in; decide) dX5_mayGoOn_23 ?_
            refine lv_topi (fun z_532 ez_532 => ?_)
            have fz_532 : z_532 = 0 := ez_532.trans (by rw [show (4 : Int32).toNatClampNeg = 4 by decide, haf 4 (by decide), hb4] <;> rfl)
            subst fz_532
            refine lv_if_lt (tgt := 65) hx hb dX5_mayGoOn_24 (by decide) (fun hc => absurd hc (by decide)) (fun _ => ?_)
            refine lv_aload_n hx hb dX5_mayGoOn_27 rfl (lv_at hl 3 rfl) ?_
            refine va_get (D := D) (ci := 6) (v := .ref (ma 2)) (C := RX5) (T := TX5) (N := 29) hx hb hts in_X5_mayGoOn_X5 hown hK hP 2 rfl rfl 2 (by decide) w_1 (fun _ h9 => h9) rfl dX5_mayGoOn_28 ?_
            refine lv_aload_n hx hb dX5_mayGoOn_31 rfl (lv_at hl 3 rfl) ?_
            refine va_get (D := D) (ci := 6) (v := .ref (ma 28)) (C := RX5) (T := TX5) (N := 29) hx hb hts in_X5_mayGoOn_X5 hown hK hP 2 rfl rfl 28 (by decide) w_0 (fun _ h9 => h9) rfl dX5_mayGoOn_32 ?_
            refine lv_iload_n hx hb dX5_mayGoOn_35 rfl (lv_at hl 0 rfl) ?_
            refine va_iald hx hb hK hP 3 0 rfl rfl (by unfold vp_in; decide) dX5_mayGoOn_36 ?_
            refine lv_topi (fun z_533 ez_533 => ?_)
            have fz_533 : z_533 = 0 := ez_533.trans (by rw [show (4 : Int32).toNatClampNeg = 4 by decide, haf 4 (by decide), hb4] <;> rfl)
            subst fz_533
            refine va_iald hx hb hK hP 4 0 rfl rfl (by unfold vp_in; decide) dX5_mayGoOn_37 ?_
            refine lv_topi (fun z_534 ez_534 => ?_)
            have fz_534 : z_534 = 0 := ez_534.trans (rfl)
            subst fz_534
            refine lv_aload_n hx hb dX5_mayGoOn_38 rfl (lv_at hl 3 rfl) ?_
            refine va_get (D := D) (ci := 6) (v := .ref (ma 2)) (C := RX5) (T := TX5) (N := 29) hx hb hts in_X5_mayGoOn_X5 hown hK hP 2 rfl rfl 2 (by decide) w_1 (fun _ h9 => h9) rfl dX5_mayGoOn_39 ?_
            refine lv_iload_n hx hb dX5_mayGoOn_42 rfl (lv_at hl 2 rfl) ?_
            refine va_iald hx hb hK hP 4 0 rfl rfl (by unfold vp_in; decide) dX5_mayGoOn_43 ?_
            refine lv_topi (fun z_535 ez_535 => ?_)
            have fz_535 : z_535 = 0 := ez_535.trans (rfl)
            subst fz_535
            refine lv_icmp_ne (tgt := 65) hx hb dX5_mayGoOn_44 (by decide) (fun hc => absurd (by decide) hc) (fun _ => ?_)
            refine lv_iload_n hx hb dX5_mayGoOn_47 rfl (lv_at hl 1 rfl) ?_
            refine lv_iload_n hx hb dX5_mayGoOn_48 rfl (lv_at hl 0 rfl) ?_
            refine lv_aload_n hx hb dX5_mayGoOn_49 rfl (lv_at hl 3 rfl) ?_
            refine va_get (D := D) (ci := 6) (v := .ref (ma 7)) (C := RX5) (T := TX5) (N := 29) hx hb hts in_X5_mayGoOn_X5 hown hK hP 2 rfl rfl 7 (by decide) w_2 (fun _ h9 => h9) rfl dX5_mayGoOn_50 ?_
            refine lv_iload_n hx hb dX5_mayGoOn_53 rfl (lv_at hl 2 rfl) ?_
            refine va_iald hx hb hK hP 0 0 rfl rfl (by unfold vp_in; decide) dX5_mayGoOn_54 ?_
            refine lv_topi (fun z_536 ez_536 => ?_)
            have fz_536 : z_536 = 0 := ez_536.trans (rfl)
            subst fz_536
            refine lv_icmp_ne (tgt := 62) hx hb dX5_mayGoOn_55 (by decide) (fun _ => ?_) (fun hc => absurd hc (by decide))
            refine lv_iconst (v := 2) hx hb dX5_mayGoOn_62 (by decide) ?_
            refine lv_iadd hx hb dX5_mayGoOn_63 ?_
            refine lv_topi (fun z_537 ez_537 => ?_)
            have fz_537 : z_537 = 9 := ez_537.trans (by decide)
            subst fz_537
            refine lv_istore_n (lv' := [(2, .int 9), (3, .int 4), (1, .int 0), (0, .ref mo)]) hx hb dX5_mayGoOn_64 rfl hl (by decide) rfl (fun ls hl => ?_)
            refine lv_iinc (v := 5) (lv' := [(3, .int 5), (2, .int 9), (1, .int 0), (0, .ref mo)]) hx hb dX5_mayGoOn_65 hl (k := 1) rfl (by decide) (by decide) rfl (fun ls hl => ?_)
            refine lv_goto (tgt := 9) hx hb dX5_mayGoOn_68 (by decide) ?_
            refine lv_iload_n hx hb dX5_mayGoOn_9 rfl (lv_at hl 0 rfl) ?_
            refine lv_iconst (v := 5) hx hb dX5_mayGoOn_10 (by decide) ?_
            refine lv_icmp_ge (tgt := 71) hx hb dX5_mayGoOn_11 (by decide) (fun _ => ?_) (fun hc => absurd (by decide) hc)
            refine lv_iload_n hx hb dX5_mayGoOn_71 rfl (lv_at hl 2 rfl) ?_
            refine lv_if_lt (tgt := 89) hx hb dX5_mayGoOn_72 (by decide) (fun hc => absurd hc (by decide)) (fun _ => ?_)
            refine lv_iload_n hx hb dX5_mayGoOn_75 rfl (lv_at hl 1 rfl) ?_
            refine lv_aload_n hx hb dX5_mayGoOn_76 rfl (lv_at hl 3 rfl) ?_
            refine va_get (D := D) (ci := 6) (v := .ref (ma 6)) (C := RX5) (T := TX5) (N := 29) hx hb hts in_X5_mayGoOn_X5 hown hK hP 2 rfl rfl 6 (by decide) w_3 (fun _ h9 => h9) rfl dX5_mayGoOn_77 ?_
            refine lv_iload_n hx hb dX5_mayGoOn_80 rfl (lv_at hl 2 rfl) ?_
            refine va_iald hx hb hK hP 1 0 rfl rfl (by unfold vp_in; decide) dX5_mayGoOn_81 ?_
            refine lv_topi (fun z_538 ez_538 => ?_)
            have fz_538 : z_538 = 5 := ez_538.trans (hzf)
            subst fz_538
            refine lv_icmp_le (tgt := 89) hx hb dX5_mayGoOn_82 (by decide) (fun hc => absurd hc (by decide)) (fun _ => ?_)
            refine lv_iconst (v := 1) hx hb dX5_mayGoOn_85 (by decide) ?_
            refine lv_goto (tgt := 90) hx hb dX5_mayGoOn_86 (by decide) ?_
            have hP9 := hP.sub (ws' := [(mo, .inr (6, [.int th, .int 1, .ref (ma 2), .ref (ma 3), .ref (ma 4), .ref (ma 5), .ref (ma 6), .ref (ma 7), .ref (ma 8), .ref (ma 9), .ref (ma 10), .ref (ma 11), .ref (ma 12), .ref (ma 13), .ref (ma 14), .ref (ma 15), .ref (ma 16), .ref (ma 17), .ref (ma 18), .ref (ma 19), .ref (ma 20), .ref (ma 21), .int 0, .ref (ma 23), .ref (ma 24), .ref (ma 25), .ref (ma 26), .ref (ma 27), .ref (ma 28)])), ((ma 28), wI tC 5 af), ((ma 2), wI tC 600 (fun _ => 0)), ((ma 7), wI tC 600 (fun _ => 0)), ((ma 6), wI tC 600 zf)]) [2, 3, 4, 0, 1] rfl
            have hD9 := hD.sub (ws' := [(mo, .inr (6, [.int th, .int 1, .ref (ma 2), .ref (ma 3), .ref (ma 4), .ref (ma 5), .ref (ma 6), .ref (ma 7), .ref (ma 8), .ref (ma 9), .ref (ma 10), .ref (ma 11), .ref (ma 12), .ref (ma 13), .ref (ma 14), .ref (ma 15), .ref (ma 16), .ref (ma 17), .ref (ma 18), .ref (ma 19), .ref (ma 20), .ref (ma 21), .int 0, .ref (ma 23), .ref (ma 24), .ref (ma 25), .ref (ma 26), .ref (ma 27), .ref (ma 28)])), ((ma 28), wI tC 5 af), ((ma 2), wI tC 600 (fun _ => 0)), ((ma 7), wI tC 600 (fun _ => 0)), ((ma 6), wI tC 600 zf)]) [2, 3, 4, 0, 1] (by decide) rfl
            refine W.widen (k := 0) (n := 0) (by omega) (by omega) ?_
            exact W.zret (v := 1) hx hb hr (by decide) (fun t ht hW => ⟨⟨1, (), rfl, (by unfold mayg cntb; rw [hb0, hb1, hb2, hb3, hb4] <;> decide), (by rw [ht]; exact hP9), va_K.moved hW.alike hK, hD9⟩, hS.F ht⟩) hS.2.2 dX5_mayGoOn_90 hlocks
      · skip
        cases hb3 : bt 3
        · skip
          cases hb4 : bt 4
          · skip
            refine lv_aload_n hx hb dX5_mayGoOn_0 rfl (lv_at hl 0 rfl) ?_
            have hPc := hP.sub (ws' := [(mo, .inr (6, [.int th, .int 1, .ref (ma 2), .ref (ma 3), .ref (ma 4), .ref (ma 5), .ref (ma 6), .ref (ma 7), .ref (ma 8), .ref (ma 9), .ref (ma 10), .ref (ma 11), .ref (ma 12), .ref (ma 13), .ref (ma 14), .ref (ma 15), .ref (ma 16), .ref (ma 17), .ref (ma 18), .ref (ma 19), .ref (ma 20), .ref (ma 21), .int 0, .ref (ma 23), .ref (ma 24), .ref (ma 25), .ref (ma 26), .ref (ma 27), .ref (ma 28)])), ((ma 28), wI tC 5 af), ((ma 2), wI tC 600 (fun _ => 0))]) [0, 1, 2] rfl
            have hDc := hD.sub (ws' := [(mo, .inr (6, [.int th, .int 1, .ref (ma 2), .ref (ma 3), .ref (ma 4), .ref (ma 5), .ref (ma 6), .ref (ma 7), .ref (ma 8), .ref (ma 9), .ref (ma 10), .ref (ma 11), .ref (ma 12), .ref (ma 13), .ref (ma 14), .ref (ma 15), .ref (ma 16), .ref (ma 17), .ref (ma 18), .ref (ma 19), .ref (ma 20), .ref (ma 21), .int 0, .ref (ma 23), .ref (ma 24), .ref (ma 25), .ref (ma 26), .ref (ma 27), .ref (ma 28)])), ((ma 28), wI tC 5 af), ((ma 2), wI tC 600 (fun _ => 0))]) [0, 1, 2] (by decide) rfl
            have hFc := va_free (wc := [(mo, .inr (6, [.int th, .int 1, .ref (ma 2), .ref (ma 3), .ref (ma 4), .ref (ma 5), .ref (ma 6), .ref (ma 7), .ref (ma 8), .ref (ma 9), .ref (ma 10), .ref (ma 11), .ref (ma 12), .ref (ma 13), .ref (ma 14), .ref (ma 15), .ref (ma 16), .ref (ma 17), .ref (ma 18), .ref (ma 19), .ref (ma 20), .ref (ma 21), .int 0, .ref (ma 23), .ref (ma 24), .ref (ma 25), .ref (ma 26), .ref (ma 27), .ref (ma 28)])), ((ma 28), wI tC 5 af), ((ma 2), wI tC 600 (fun _ => 0))]) hD hS hA [0, 1, 2] rfl
            refine va_calli (va_runV (As := []) (rest := []) ⟨hx, hb, hml, hown, hts⟩ (c_X5_greatest l hlt D tC dz s.heap.size mo ma th af bt haf) (cwV 0 hts gX5_mayGoOn_X5_greatest rfl rfl rfl (by decide +kernel) ⟨Nat.le_of_ble_eq_true rfl, Nat.le_of_ble_eq_true rfl⟩) ⟨pB_blind, va_recv hK hPc (ci := 6) (q0 := 0) rfl rfl, pB_at hPc hDc hK hN hE hS hFc⟩ rfl rfl hl.1 rfl (lv_room (Nat.le_of_ble_eq_true rfl)) dX5_mayGoOn_1 ⟨Nat.le_of_ble_eq_true rfl, Nat.le_of_ble_eq_true rfl⟩) hS (fun q _ h => hFc q h) hFc (fun r_539 u t H1 locs ht hvm hw hB hz1 hk1 hS => ?_)
            obtain ⟨hP1, _, hD1⟩ := hB
            have hw_540 := hw
            rw [ht] at hP1
            obtain ⟨hP, hD⟩ := va_join (wr := [((ma 7), wI tC 600 (fun _ => 0)), ((ma 6), wI tC 600 zf)]) (w1 := [(mo, .inr (6, [.int th, .int 1, .ref (ma 2), .ref (ma 3), .ref (ma 4), .ref (ma 5), .ref (ma 6), .ref (ma 7), .ref (ma 8), .ref (ma 9), .ref (ma 10), .ref (ma 11), .ref (ma 12), .ref (ma 13), .ref (ma 14), .ref (ma 15), .ref (ma 16), .ref (ma 17), .ref (ma 18), .ref (ma 19), .ref (ma 20), .ref (ma 21), .int 0, .ref (ma 23), .ref (ma 24), .ref (ma 25), .ref (ma 26), .ref (ma 27), .ref (ma 28)])), ((ma 28), wI tC 5 af), ((ma 2), wI tC 600 (fun _ => 0))]) hP hD [0, 1, 2] [3, 4] rfl rfl (by decide) (by decide) hk1 hFc hP1 hD1
            generalize H1 = H at hP hS ⊢
            have hP : va_P D vwCl [((ma 7), wI tC 600 (fun _ => 0)), ((ma 6), wI tC 600 zf), (mo, .inr (6, [.int th, .int 1, .ref (ma 2), .ref (ma 3), .ref (ma 4), .ref (ma 5), .ref (ma 6), .ref (ma 7), .ref (ma 8), .ref (ma 9), .ref (ma 10), .ref (ma 11), .ref (ma 12), .ref (ma 13), .ref (ma 14), .ref (ma 15), .ref (ma 16), .ref (ma 17), .ref (ma 18), .ref (ma 19), .ref (ma 20), .ref (ma 21), .int 0, .ref (ma 23), .ref (ma 24), .ref (ma 25), .ref (ma 26), .ref (ma 27), .ref (ma 28)])), ((ma 28), wI tC 5 af), ((ma 2), wI tC 600 (fun _ => 0))] H := hP
            have hD : va_D A [((ma 7), wI tC 600 (fun _ => 0)), ((ma 6), wI tC 600 zf), (mo, .inr (6, [.int th, .int 1, .ref (ma 2), .ref (ma 3), .ref (ma 4), .ref (ma 5), .ref (ma 6), .ref (ma 7), .ref (ma 8), .ref (ma 9), .ref (ma 10), .ref (ma 11), .ref (ma 12), .ref (ma 13), .ref (ma 14), .ref (ma 15), .ref (ma 16), .ref (ma 17), .ref (ma 18), .ref (ma 19), .ref (ma 20), .ref (ma 21), .int 0, .ref (ma 23), .ref (ma 24), .ref (ma 25), .ref (ma 26), .ref (ma 27), .ref (ma 28)])), ((ma 28), wI tC 5 af), ((ma 2), wI tC 600 (fun _ => 0))] := hD
            have q1 : r_539 = 0 := hw_540.trans (by rw [hb0, hb1, hb2, hb3, hb4] <;> rfl)
            subst q1
            refine lv_istore_n (lv' := [(1, .int 0), (0, .ref mo)]) hx hb dX5_mayGoOn_4 rfl hl (by decide) rfl (fun ls hl => ?_)
            refine lv_iconst (v := 0) hx hb dX5_mayGoOn_5 (by decide) ?_
            refine lv_istore_n (lv' := [(2, .int 0), (1, .int 0), (0, .ref mo)]) hx hb dX5_mayGoOn_6 rfl hl (by decide) rfl (fun ls hl => ?_)
            refine lv_iconst (v := 0) hx hb dX5_mayGoOn_7 (by decide) ?_
            refine lv_istore_n (lv' := [(3, .int 0), (2, .int 0), (1, .int 0), (0, .ref mo)]) hx hb dX5_mayGoOn_8 rfl hl (by decide) rfl (fun ls hl => ?_)
            refine lv_iload_n hx hb dX5_mayGoOn_9 rfl (lv_at hl 0 rfl) ?_
            refine lv_iconst (v := 5) hx hb dX5_mayGoOn_10 (by decide) ?_
            refine lv_icmp_ge (tgt := 71) hx hb dX5_mayGoOn_11 (by decide) (fun hc => absurd hc (by decide)) (fun _ => ?_)
            refine lv_iload_n hx hb dX5_mayGoOn_14 rfl (lv_at hl 2 rfl) ?_
            refine lv_if_lt (tgt := 71) hx hb dX5_mayGoOn_15 (by decide) (fun hc => absurd hc (by decide)) (fun _ => ?_)
            refine lv_aload_n hx hb dX5_mayGoOn_18 rfl (lv_at hl 3 rfl) ?_
            refine va_get (D := D) (ci := 6) (v := .ref (ma 28)) (C := RX5) (T := TX5) (N := 29) hx hb hts in_X5_mayGoOn_X5 hown hK hP 2 rfl rfl 28 (by decide) w_0 (fun _ h9 => h9) rfl dX5_mayGoOn_19 ?_
            refine lv_iload_n hx hb dX5_mayGoOn_22 rfl (lv_at hl 0 rfl) ?_
            refine va_iald hx hb hK hP 3 0 rfl rfl (by unfold vp_in; decide) dX5_mayGoOn_23 ?_
            refine lv_topi (fun z_541 ez_541 => ?_)
            have fz_541 : z_541 = 0 := ez_541.trans (by rw [show (0 : Int32).toNatClampNeg = 0 by decide, haf 0 (by decide), hb0] <;> rfl)
            subst fz_541
            refine lv_if_lt (tgt := 65) hx hb dX5_mayGoOn_24 (by decide) (fun hc => absurd hc (by decide)) (fun _ => ?_)
            refine lv_aload_n hx hb dX5_mayGoOn_27 rfl (lv_at hl 3 rfl) ?_
            refine va_get (D := D) (ci := 6) (v := .ref (ma 2)) (C := RX5) (T := TX5) (N := 29) hx hb hts in_X5_mayGoOn_X5 hown hK hP 2 rfl rfl 2 (by decide) w_1 (fun _ h9 => h9) rfl dX5_mayGoOn_28 ?_
            refine lv_aload_n hx hb dX5_mayGoOn_31 rfl (lv_at hl 3 rfl) ?_
            refine va_get (D := D) (ci := 6) (v := .ref (ma 28)) (C := RX5) (T := TX5) (N := 29) hx hb hts in_X5_mayGoOn_X5 hown hK hP 2 rfl rfl 28 (by decide) w_0 (fun _ h9 => h9) rfl dX5_mayGoOn_32 ?_
            refine lv_iload_n hx hb dX5_mayGoOn_35 rfl (lv_at hl 0 rfl) ?_
            refine va_iald hx hb hK hP 3 0 rfl rfl (by unfold vp_in; decide) dX5_mayGoOn_36 ?_
            refine lv_topi (fun z_542 ez_542 => ?_)
            have fz_542 : z_542 = 0 := ez_542.trans (by rw [show (0 : Int32).toNatClampNeg = 0 by decide, haf 0 (by decide), hb0] <;> rfl)
            subst fz_542
            refine va_iald hx hb hK hP 4 0 rfl rfl (by unfold vp_in; decide) dX5_mayGoOn_37 ?_
            refine lv_topi (fun z_543 ez_543 => ?_)
            have fz_543 : z_543 = 0 := ez_543.trans (rfl)
            subst fz_543
            refine lv_aload_n hx hb dX5_mayGoOn_38 rfl (lv_at hl 3 rfl) ?_
            refine va_get (D := D) (ci := 6) (v := .ref (ma 2)) (C := RX5) (T := TX5) (N := 29) hx hb hts in_X5_mayGoOn_X5 hown hK hP 2 rfl rfl 2 (by decide) w_1 (fun _ h9 => h9) rfl dX5_mayGoOn_39 ?_
            refine lv_iload_n hx hb dX5_mayGoOn_42 rfl (lv_at hl 2 rfl) ?_
            refine va_iald hx hb hK hP 4 0 rfl rfl (by unfold vp_in; decide) dX5_mayGoOn_43 ?_
            refine lv_topi (fun z_544 ez_544 => ?_)
            have fz_544 : z_544 = 0 := ez_544.trans (rfl)
            subst fz_544
            refine lv_icmp_ne (tgt := 65) hx hb dX5_mayGoOn_44 (by decide) (fun hc => absurd (by decide) hc) (fun _ => ?_)
            refine lv_iload_n hx hb dX5_mayGoOn_47 rfl (lv_at hl 1 rfl) ?_
            refine lv_iload_n hx hb dX5_mayGoOn_48 rfl (lv_at hl 0 rfl) ?_
            refine lv_aload_n hx hb dX5_mayGoOn_49 rfl (lv_at hl 3 rfl) ?_
            refine va_get (D := D) (ci := 6) (v := .ref (ma 7)) (C := RX5) (T := TX5) (N := 29) hx hb hts in_X5_mayGoOn_X5 hown hK hP 2 rfl rfl 7 (by decide) w_2 (fun _ h9 => h9) rfl dX5_mayGoOn_50 ?_
            refine lv_iload_n hx hb dX5_mayGoOn_53 rfl (lv_at hl 2 rfl) ?_
            refine va_iald hx hb hK hP 0 0 rfl rfl (by unfold vp_in; decide) dX5_mayGoOn_54 ?_
            refine lv_topi (fun z_545 ez_545 => ?_)
            have fz_545 : z_545 = 0 := ez_545.trans (rfl)
            subst fz_545
            refine lv_icmp_ne (tgt := 62) hx hb dX5_mayGoOn_55 (by decide) (fun hc => absurd (by decide) hc) (fun _ => ?_)
            refine lv_iconst (v := 3) hx hb dX5_mayGoOn_58 (by decide) ?_
            refine lv_goto (tgt := 63) hx hb dX5_mayGoOn_59 (by decide) ?_
            refine lv_iadd hx hb dX5_mayGoOn_63 ?_
            refine lv_topi (fun z_546 ez_546 => ?_)
            have fz_546 : z_546 = 3 := ez_546.trans (by decide)
            subst fz_546
            refine lv_istore_n (lv' := [(2, .int 3), (3, .int 0), (1, .int 0), (0, .ref mo)]) hx hb dX5_mayGoOn_64 rfl hl (by decide) rfl (fun ls hl => ?_)
            refine lv_iinc (v := 1) (lv' := [(3, .int 1), (2, .int 3), (1, .int 0), (0, .ref mo)]) hx hb dX5_mayGoOn_65 hl (k := 1) rfl (by decide) (by decide) rfl (fun ls hl => ?_)
            refine lv_goto (tgt := 9) hx hb dX5_mayGoOn_68 (by decide) ?_
            refine lv_iload_n hx hb dX5_mayGoOn_9 rfl (lv_at hl 0 rfl) ?_
            refine lv_iconst (v := 5) hx hb dX5_mayGoOn_10 (by decide) ?_
            refine lv_icmp_ge (tgt := 71) hx hb dX5_mayGoOn_11 (by decide) (fun hc => absurd hc (by decide)) (fun _ => ?_)
            refine lv_iload_n hx hb dX5_mayGoOn_14 rfl (lv_at hl 2 rfl) ?_
            refine lv_if_lt (tgt := 71) hx hb dX5_mayGoOn_15 (by decide) (fun hc => absurd hc (by decide)) (fun _ => ?_)
            refine lv_aload_n hx hb dX5_mayGoOn_18 rfl (lv_at hl 3 rfl) ?_
            refine va_get (D := D) (ci := 6) (v := .ref (ma 28)) (C := RX5) (T := TX5) (N := 29) hx hb hts in_X5_mayGoOn_X5 hown hK hP 2 rfl rfl 28 (by decide) w_0 (fun _ h9 => h9) rfl dX5_mayGoOn_19 ?_
            refine lv_iload_n hx hb dX5_mayGoOn_22 rfl (lv_at hl 0 rfl) ?_
            refine va_iald hx hb hK hP 3 0 rfl rfl (by unfold vp_in; decide) dX5_mayGoOn_23 ?_
            refine lv_topi (fun z_547 ez_547 => ?_)
            have fz_547 : z_547 = 0 := ez_547.trans (by rw [show (1 : Int32).toNatClampNeg = 1 by decide, haf 1 (by decide), hb1] <;> rfl)
            subst fz_547
            refine lv_if_lt (tgt := 65) hx hb dX5_mayGoOn_24 (by decide) (fun hc => absurd hc (by decide)) (fun _ => ?_)
            refine lv_aload_n hx hb dX5_mayGoOn_27 rfl (lv_at hl 3 rfl) ?_
            refine va_get (D := D) (ci := 6) (v := .ref (ma 2)) (C := RX5) (T := TX5) (N := 29) hx hb hts in_X5_mayGoOn_X5 hown hK hP 2 rfl rfl 2 (by decide) w_1 (fun _ h9 => h9) rfl dX5_mayGoOn_28 ?_
            refine lv_aload_n hx hb dX5_mayGoOn_31 rfl (lv_at hl 3 rfl) ?_
            refine va_get (D := D) (ci := 6) (v := .ref (ma 28)) (C := RX5) (T := TX5) (N := 29) hx hb hts in_X5_mayGoOn_X5 hown hK hP 2 rfl rfl 28 (by decide) w_0 (fun _ h9 => h9) rfl dX5_mayGoOn_32 ?_
            refine lv_iload_n hx hb dX5_mayGoOn_35 rfl (lv_at hl 0 rfl) ?_
            refine va_iald hx hb hK hP 3 0 rfl rfl (by unfold vp_in; decide) dX5_mayGoOn_36 ?_
            refine lv_topi (fun z_548 ez_548 => ?_)
            have fz_548 : z_548 = 0 := ez_548.trans (by rw [show (1 : Int32).toNatClampNeg = 1 by decide, haf 1 (by decide), hb1] <;> rfl)
            subst fz_548
            refine va_iald hx hb hK hP 4 0 rfl rfl (by unfold vp_in; decide) dX5_mayGoOn_37 ?_
            refine lv_topi (fun z_549 ez_549 => ?_)
            have fz_549 : z_549 = 0 := ez_549.trans (rfl)
            subst fz_549
            refine lv_aload_n hx hb dX5_mayGoOn_38 rfl (lv_at hl 3 rfl) ?_
            refine va_get (D := D) (ci := 6) (v := .ref (ma 2)) (C := RX5) (T := TX5) (N := 29) hx hb hts in_X5_mayGoOn_X5 hown hK hP 2 rfl rfl 2 (by decide) w_1 (fun _ h9 => h9) rfl dX5_mayGoOn_39 ?_
            refine lv_iload_n hx hb dX5_mayGoOn_42 rfl (lv_at hl 2 rfl) ?_
            refine va_iald hx hb hK hP 4 0 rfl rfl (by unfold vp_in; decide) dX5_mayGoOn_43 ?_
            refine lv_topi (fun z_550 ez_550 => ?_)
            have fz_550 : z_550 = 0 := ez_550.trans (rfl)
            subst fz_550
            refine lv_icmp_ne (tgt := 65) hx hb dX5_mayGoOn_44 (by decide) (fun hc => absurd (by decide) hc) (fun _ => ?_)
            refine lv_iload_n hx hb dX5_mayGoOn_47 rfl (lv_at hl 1 rfl) ?_
            refine lv_iload_n hx hb dX5_mayGoOn_48 rfl (lv_at hl 0 rfl) ?_
            refine lv_aload_n hx hb dX5_mayGoOn_49 rfl (lv_at hl 3 rfl) ?_
            refine va_get (D := D) (ci := 6) (v := .ref (ma 7)) (C := RX5) (T := TX5) (N := 29) hx hb hts in_X5_mayGoOn_X5 hown hK hP 2 rfl rfl 7 (by decide) w_2 (fun _ h9 => h9) rfl dX5_mayGoOn_50 ?_
            refine lv_iload_n hx hb dX5_mayGoOn_53 rfl (lv_at hl 2 rfl) ?_
            refine va_iald hx hb hK hP 0 0 rfl rfl (by unfold vp_in; decide) dX5_mayGoOn_54 ?_
            refine lv_topi (fun z_551 ez_551 => ?_)
            have fz_551 : z_551 = 0 := ez_551.trans (rfl)
            subst fz_551
            refine lv_icmp_ne (tgt := 62) hx hb dX5_mayGoOn_55 (by decide) (fun _ => ?_) (fun hc => absurd hc (by decide))
            refine lv_iconst (v := 2) hx hb dX5_mayGoOn_62 (by decide) ?_
            refine lv_iadd hx hb dX5_mayGoOn_63 ?_
            refine lv_topi (fun z_552 ez_552 => ?_)
            have fz_552 : z_552 = 5 := ez_552.trans (by decide)
            subst fz_552
            refine lv_istore_n (lv' := [(2, .int 5), (3, .int 1), (1, .int 0), (0, .ref mo)]) hx hb dX5_mayGoOn_64 rfl hl (by decide) rfl (fun ls hl => ?_)
            refine lv_iinc (v := 2) (lv' := [(3, .int 2), (2, .int 5), (1, .int 0), (0, .ref mo)]) hx hb dX5_mayGoOn_65 hl (k := 1) rfl (by decide) (by decide) rfl (fun ls hl => ?_)
            refine lv_goto (tgt := 9) hx hb dX5_mayGoOn_68 (by decide) ?_
            refine lv_iload_n hx hb dX5_mayGoOn_9 rfl (lv_at hl 0 rfl) ?_
            refine lv_iconst (v := 5) hx hb dX5_mayGoOn_10 (by decide) ?_
            refine lv_icmp_ge (tgt := 71) hx hb dX5_mayGoOn_11 (by decide) (fun hc => absurd hc (by decide)) (fun _ => ?_)
            refine lv_iload_n hx hb dX5_mayGoOn_14 rfl (lv_at hl 2 rfl) ?_
            refine lv_if_lt (tgt := 71) hx hb dX5_mayGoOn_15 (by decide) (fun hc => absurd hc (by decide)) (fun _ => ?_)
            refine lv_aload_n hx hb dX5_mayGoOn_18 rfl (lv_at hl 3 rfl) ?_
            refine va_get (D := D) (ci := 6) (v := .ref (ma 28)) (C := RX5) (T := TX5) (N := 29) hx hb hts in_X5_mayGoOn_X5 hown hK hP 2 rfl rfl 28 (by decide) w_0 (fun _ h9 => h9) rfl dX5_mayGoOn_19 ?_
            refine lv_iload_n hx hb dX5_mayGoOn_22 rfl (lv_at hl 0 rfl) ?_
            refine va_iald hx hb hK hP 3 0 rfl rfl (by unfold vp_in; decide) dX5_mayGoOn_23 ?_
            refine lv_topi (fun z_553 ez_553 => ?_)
            have fz_553 : z_553 = 0 := ez_553.trans (by rw [show (2 : Int32).toNatClampNeg = 2 by decide, haf 2 (by decide), hb2] <;> rfl)
            subst fz_553
            refine lv_if_lt (tgt := 65) hx hb dX5_mayGoOn_24 (by decide) (fun hc => absurd hc (by decide)) (fun _ => ?_)
            refine lv_aload_n hx hb dX5_mayGoOn_27 rfl (lv_at hl 3 rfl) ?_
            refine va_get (D := D) (ci := 6) (v := .ref (ma 2)) (C := RX5) (T := TX5) (N := 29) hx hb hts in_X5_mayGoOn_X5 hown hK hP 2 rfl rfl 2 (by decide) w_1 (fun _ h9 => h9) rfl dX5_mayGoOn_28 ?_
            refine lv_aload_n hx hb dX5_mayGoOn_31 rfl (lv_at hl 3 rfl) ?_
            refine va_get (D := D) (ci := 6) (v := .ref (ma 28)) (C := RX5) (T := TX5) (N := 29) hx hb hts in_X5_mayGoOn_X5 hown hK hP 2 rfl rfl 28 (by decide) w_0 (fun _ h9 => h9) rfl dX5_mayGoOn_32 ?_
            refine lv_iload_n hx hb dX5_mayGoOn_35 rfl (lv_at hl 0 rfl) ?_
            refine va_iald hx hb hK hP 3 0 rfl rfl (by unfold vp_in; decide) dX5_mayGoOn_36 ?_
            refine lv_topi (fun z_554 ez_554 => ?_)
            have fz_554 : z_554 = 0 := ez_554.trans (by rw [show (2 : Int32).toNatClampNeg = 2 by decide, haf 2 (by decide), hb2] <;> rfl)
            subst fz_554
            refine va_iald hx hb hK hP 4 0 rfl rfl (by unfold vp_in; decide) dX5_mayGoOn_37 ?_
            refine lv_topi (fun z_555 ez_555 => ?_)
            have fz_555 : z_555 = 0 := ez_555.trans (rfl)
            subst fz_555
            refine lv_aload_n hx hb dX5_mayGoOn_38 rfl (lv_at hl 3 rfl) ?_
            refine va_get (D := D) (ci := 6) (v := .ref (ma 2)) (C := RX5) (T := TX5) (N := 29) hx hb hts in_X5_mayGoOn_X5 hown hK hP 2 rfl rfl 2 (by decide) w_1 (fun _ h9 => h9) rfl dX5_mayGoOn_39 ?_
            refine lv_iload_n hx hb dX5_mayGoOn_42 rfl (lv_at hl 2 rfl) ?_
            refine va_iald hx hb hK hP 4 0 rfl rfl (by unfold vp_in; decide) dX5_mayGoOn_43 ?_
            refine lv_topi (fun z_556 ez_556 => ?_)
            have fz_556 : z_556 = 0 := ez_556.trans (rfl)
            subst fz_556
            refine lv_icmp_ne (tgt := 65) hx hb dX5_mayGoOn_44 (by decide) (fun hc => absurd (by decide) hc) (fun _ => ?_)
            refine lv_iload_n hx hb dX5_mayGoOn_47 rfl (lv_at hl 1 rfl) ?_
            refine lv_iload_n hx hb dX5_mayGoOn_48 rfl (lv_at hl 0 rfl) ?_
            refine lv_aload_n hx hb dX5_mayGoOn_49 rfl (lv_at hl 3 rfl) ?_
            refine va_get (D := D) (ci := 6) (v := .ref (ma 7)) (C := RX5) (T := TX5) (N := 29) hx hb hts in_X5_mayGoOn_X5 hown hK hP 2 rfl rfl 7 (by decide) w_2 (fun _ h9 => h9) rfl dX5_mayGoOn_50 ?_
            refine lv_iload_n hx hb dX5_mayGoOn_53 rfl (lv_at hl 2 rfl) ?_
            refine va_iald hx hb hK hP 0 0 rfl rfl (by unfold vp_in; decide) dX5_mayGoOn_54 ?_
            refine lv_topi (fun z_557 ez_557 => ?_)
            have fz_557 : z_557 = 0 := ez_557.trans (rfl)
            subst fz_557
            refine lv_icmp_ne (tgt := 62) hx hb dX5_mayGoOn_55 (by decide) (fun _ => ?_) (fun hc => absurd hc (by decide))
            refine lv_iconst (v := 2) hx hb dX5_mayGoOn_62 (by decide) ?_
            refine lv_iadd hx hb dX5_mayGoOn_63 ?_
            refine lv_topi (fun z_558 ez_558 => ?_)
            have fz_558 : z_558 = 7 := ez_558.trans (by decide)
            subst fz_558
            refine lv_istore_n (lv' := [(2, .int 7), (3, .int 2), (1, .int 0), (0, .ref mo)]) hx hb dX5_mayGoOn_64 rfl hl (by decide) rfl (fun ls hl => ?_)
            refine lv_iinc (v := 3) (lv' := [(3, .int 3), (2, .int 7), (1, .int 0), (0, .ref mo)]) hx hb dX5_mayGoOn_65 hl (k := 1) rfl (by decide) (by decide) rfl (fun ls hl => ?_)
            refine lv_goto (tgt := 9) hx hb dX5_mayGoOn_68 (by decide) ?_
            refine lv_iload_n hx hb dX5_mayGoOn_9 rfl (lv_at hl 0 rfl) ?_
            refine lv_iconst (v := 5) hx hb dX5_mayGoOn_10 (by decide) ?_
            refine lv_icmp_ge (tgt := 71) hx hb dX5_mayGoOn_11 (by decide) (fun hc => absurd hc (by decide)) (fun _ => ?_)
            refine lv_iload_n hx hb dX5_mayGoOn_14 rfl (lv_at hl 2 rfl) ?_
            refine lv_if_lt (tgt := 71) hx hb dX5_mayGoOn_15 (by decide) (fun hc => absurd hc (by decide)) (fun _ => ?_)
            refine lv_aload_n hx hb dX5_mayGoOn_18 rfl (lv_at hl 3 rfl) ?_
            refine va_get (D := D) (ci := 6) (v := .ref (ma 28)) (C := RX5) (T := TX5) (N := 29) hx hb hts in_X5_mayGoOn_X5 hown hK hP 2 rfl rfl 28 (by decide) w_0 (fun _ h9 => h9) rfl dX5_mayGoOn_19 ?_
            refine lv_iload_n hx hb dX5_mayGoOn_22 rfl (lv_at hl 0 rfl) ?_
            refine va_iald hx hb hK hP 3 0 rfl rfl (by unfold vp_in; decide) dX5_mayGoOn_23 ?_
            refine lv_topi (fun z_559 ez_559 => ?_)
            have fz_559 : z_559 = (-1) := ez_559.trans (by rw [show (3 : Int32).toNatClampNeg = 3 by decide, haf 3 (by decide), hb3] <;> rfl)
            subst fz_559
            refine lv_if_lt (tgt := 65) hx hb dX5_mayGoOn_24 (by decide) (fun _ => ?_) (fun hc => absurd (by decide) hc)
            refine lv_iinc (v := 4) (lv' := [(3, .int 4), (2, .int 7), (1, .int 0), (0, .ref mo)]) hx hb dX5_mayGoOn_65 hl (k := 0) rfl (by decide) (by decide) rfl (fun ls hl => ?_)
            refine lv_goto (tgt := 9) hx hb dX5_mayGoOn_68 (by decide) ?_
            refine lv_iload_n hx hb dX5_mayGoOn_9 rfl (lv_at hl 0 rfl) ?_
            refine lv_iconst (v := 5) hx hb dX5_mayGoOn_10 (by decide) ?_
            refine lv_icmp_ge (tgt := 71) hx hb dX5_mayGoOn_11 (by decide) (fun hc => absurd hc (by decide)) (fun _ => ?_)
            refine lv_iload_n hx hb dX5_mayGoOn_14 rfl (lv_at hl 2 rfl) ?_
            refine lv_if_lt (tgt := 71) hx hb dX5_mayGoOn_15 (by decide) (fun hc => absurd hc (by decide)) (fun _ => ?_)
            refine lv_aload_n hx hb dX5_mayGoOn_18 rfl (lv_at hl 3 rfl) ?_
            refine va_get (D := D) (ci := 6) (v := .ref (ma 28)) (C := RX5) (T := TX5) (N := 29) hx hb hts in_X5_mayGoOn_X5 hown hK hP 2 rfl rfl 28 (by decide) w_0 (fun _ h9 => h9) rfl dX5_mayGoOn_19 ?_
            refine lv_iload_n hx hb dX5_mayGoOn_22 rfl (lv_at hl 0 rfl) ?_
            refine va_iald hx hb hK hP 3 0 rfl rfl (by unfold vp_in; decide) dX5_mayGoOn_23 ?_
            refine lv_topi (fun z_560 ez_560 => ?_)
            have fz_560 : z_560 = (-1) := ez_560.trans (by rw [show (4 : Int32).toNatClampNeg = 4 by decide, haf 4 (by decide), hb4] <;> rfl)
            subst fz_560
            refine lv_if_lt (tgt := 65) hx hb dX5_mayGoOn_24 (by decide) (fun _ => ?_) (fun hc => absurd (by decide) hc)
            refine lv_iinc (v := 5) (lv' := [(3, .int 5), (2, .int 7), (1, .int 0), (0, .ref mo)]) hx hb dX5_mayGoOn_65 hl (k := 0) rfl (by decide) (by decide) rfl (fun ls hl => ?_)
            refine lv_goto (tgt := 9) hx hb dX5_mayGoOn_68 (by decide) ?_
            refine lv_iload_n hx hb dX5_mayGoOn_9 rfl (lv_at hl 0 rfl) ?_
            refine lv_iconst (v := 5) hx hb dX5_mayGoOn_10 (by decide) ?_
            refine lv_icmp_ge (tgt := 71) hx hb dX5_mayGoOn_11 (by decide) (fun _ => ?_) (fun hc => absurd (by decide) hc)
            refine lv_iload_n hx hb dX5_mayGoOn_71 rfl (lv_at hl 2 rfl) ?_
            refine lv_if_lt (tgt := 89) hx hb dX5_mayGoOn_72 (by decide) (fun hc => absurd hc (by decide)) (fun _ => ?_)
            refine lv_iload_n hx hb dX5_mayGoOn_75 rfl (lv_at hl 1 rfl) ?_
            refine lv_aload_n hx hb dX5_mayGoOn_76 rfl (lv_at hl 3 rfl) ?_
            refine va_get (D := D) (ci := 6) (v := .ref (ma 6)) (C := RX5) (T := TX5) (N := 29) hx hb hts in_X5_mayGoOn_X5 hown hK hP 2 rfl rfl 6 (by decide) w_3 (fun _ h9 => h9) rfl dX5_mayGoOn_77 ?_
            refine lv_iload_n hx hb dX5_mayGoOn_80 rfl (lv_at hl 2 rfl) ?_
            refine va_iald hx hb hK hP 1 0 rfl rfl (by unfold vp_in; decide) dX5_mayGoOn_81 ?_
            refine lv_topi (fun z_561 ez_561 => ?_)
            have fz_561 : z_561 = 5 := ez_561.trans (hzf)
            subst fz_561
            refine lv_icmp_le (tgt := 89) hx hb dX5_mayGoOn_82 (by decide) (fun hc => absurd hc (by decide)) (fun _ => ?_)
            refine lv_iconst (v := 1) hx hb dX5_mayGoOn_85 (by decide) ?_
            refine lv_goto (tgt := 90) hx hb dX5_mayGoOn_86 (by decide) ?_
            have hP9 := hP.sub (ws' := [(mo, .inr (6, [.int th, .int 1, .ref (ma 2), .ref (ma 3), .ref (ma 4), .ref (ma 5), .ref (ma 6), .ref (ma 7), .ref (ma 8), .ref (ma 9), .ref (ma 10), .ref (ma 11), .ref (ma 12), .ref (ma 13), .ref (ma 14), .ref (ma 15), .ref (ma 16), .ref (ma 17), .ref (ma 18), .ref (ma 19), .ref (ma 20), .ref (ma 21), .int 0, .ref (ma 23), .ref (ma 24), .ref (ma 25), .ref (ma 26), .ref (ma 27), .ref (ma 28)])), ((ma 28), wI tC 5 af), ((ma 2), wI tC 600 (fun _ => 0)), ((ma 7), wI tC 600 (fun _ => 0)), ((ma 6), wI tC 600 zf)]) [2, 3, 4, 0, 1] rfl
            have hD9 := hD.sub (ws' := [(mo, .inr (6, [.int th, .int 1, .ref (ma 2), .ref (ma 3), .ref (ma 4), .ref (ma 5), .ref (ma 6), .ref (ma 7), .ref (ma 8), .ref (ma 9), .ref (ma 10), .ref (ma 11), .ref (ma 12), .ref (ma 13), .ref (ma 14), .ref (ma 15), .ref (ma 16), .ref (ma 17), .ref (ma 18), .ref (ma 19), .ref (ma 20), .ref (ma 21), .int 0, .ref (ma 23), .ref (ma 24), .ref (ma 25), .ref (ma 26), .ref (ma 27), .ref (ma 28)])), ((ma 28), wI tC 5 af), ((ma 2), wI tC 600 (fun _ => 0)), ((ma 7), wI tC 600 (fun _ => 0)), ((ma 6), wI tC 600 zf)]) [2, 3, 4, 0, 1] (by decide) rfl
            refine W.widen (k := 0) (n := 0) (by omega) (by omega) ?_
            exact W.zret (v := 1) hx hb hr (by decide) (fun t ht hW => ⟨⟨1, (), rfl, (by unfold mayg cntb; rw [hb0, hb1, hb2, hb3, hb4] <;> decide), (by rw [ht]; exact hP9), va_K.moved hW.alike hK, hD9⟩, hS.F ht⟩) hS.2.2 dX5_mayGoOn_90 hlocks
          · skip
            refine lv_aload_n hx hb dX5_mayGoOn_0 rfl (lv_at hl 0 rfl) ?_
            have hPc := hP.sub (ws' := [(mo, .inr (6, [.int th, .int 1, .ref (ma 2), .ref (ma 3), .ref (ma 4), .ref (ma 5), .ref (ma 6), .ref (ma 7), .ref (ma 8), .ref (ma 9), .ref (ma 10), .ref (ma 11), .ref (ma 12), .ref (ma 13), .ref (ma 14), .ref (ma 15), .ref (ma 16), .ref (ma 17), .ref (ma 18), .ref (ma 19), .ref (ma 20), .ref (ma 21), .int 0, .ref (ma 23), .ref (ma 24), .ref (ma 25), .ref (ma 26), .ref (ma 27), .ref (ma 28)])), ((ma 28), wI tC 5 af), ((ma 2), wI tC 600 (fun _ => 0))]) [0, 1, 2] rfl
            have hDc := hD.sub (ws' := [(mo, .inr (6, [.int th, .int 1, .ref (ma 2), .ref (ma 3), .ref (ma 4), .ref (ma 5), .ref (ma 6), .ref (ma 7), .ref (ma 8), .ref (ma 9), .ref (ma 10), .ref (ma 11), .ref (ma 12), .ref (ma 13), .ref (ma 14), .ref (ma 15), .ref (ma 16), .ref (ma 17), .ref (ma 18), .ref (ma 19), .ref (ma 20), .ref (ma 21), .int 0, .ref (ma 23), .ref (ma 24), .ref (ma 25), .ref (ma 26), .ref (ma 27), .ref (ma 28)])), ((ma 28), wI tC 5 af), ((ma 2), wI tC 600 (fun _ => 0))]) [0, 1, 2] (by decide) rfl
            have hFc := va_free (wc := [(mo, .inr (6, [.int th, .int 1, .ref (ma 2), .ref (ma 3), .ref (ma 4), .ref (ma 5), .ref (ma 6), .ref (ma 7), .ref (ma 8), .ref (ma 9), .ref (ma 10), .ref (ma 11), .ref (ma 12), .ref (ma 13), .ref (ma 14), .ref (ma 15), .ref (ma 16), .ref (ma 17), .ref (ma 18), .ref (ma 19), .ref (ma 20), .ref (ma 21), .int 0, .ref (ma 23), .ref (ma 24), .ref (ma 25), .ref (ma 26), .ref (ma 27), .ref (ma 28)])), ((ma 28), wI tC 5 af), ((ma 2), wI tC 600 (fun _ => 0))]) hD hS hA [0, 1, 2] rfl
            refine va_calli (va_runV (As := []) (rest := []) ⟨hx, hb, hml, hown, hts⟩ (c_X5_greatest l hlt D tC dz s.heap.size mo ma th af bt haf) (cwV 0 hts gX5_mayGoOn_X5_greatest rfl rfl rfl (by decide +kernel) ⟨Nat.le_of_ble_eq_true rfl, Nat.le_of_ble_eq_true rfl⟩) ⟨pB_blind, va_recv hK hPc (ci := 6) (q0 := 0) rfl rfl, pB_at hPc hDc hK hN hE hS hFc⟩ rfl rfl hl.1 rfl (lv_room (Nat.le_of_ble_eq_true rfl)) dX5_mayGoOn_1 ⟨Nat.le_of_ble_eq_true rfl, Nat.le_of_ble_eq_true rfl⟩) hS (fun q _ h => hFc q h) hFc (fun r_562 u t H1 locs ht hvm hw hB hz1 hk1 hS => ?_)
            obtain ⟨hP1, _, hD1⟩ := hB
            have hw_563 := hw
            rw [ht] at hP1
            obtain ⟨hP, hD⟩ := va_join (wr := [((ma 7), wI tC 600 (fun _ => 0)), ((ma 6), wI tC 600 zf)]) (w1 := [(mo, .inr (6, [.int th, .int 1, .ref (ma 2), .ref (ma 3), .ref (ma 4), .ref (ma 5), .ref (ma 6), .ref (ma 7), .ref (ma 8), .ref (ma 9), .ref (ma 10), .ref (ma 11), .ref (ma 12), .ref (ma 13), .ref (ma 14), .ref (ma 15), .ref (ma 16), .ref (ma 17), .ref (ma 18), .ref (ma 19), .ref (ma 20), .ref (ma 21), .int 0, .ref (ma 23), .ref (ma 24), .ref (ma 25), .ref (ma 26), .ref (ma 27), .ref (ma 28)])), ((ma 28), wI tC 5 af), ((ma 2), wI tC 600 (fun _ => 0))]) hP hD [0, 1, 2] [3, 4] rfl rfl (by decide) (by decide) hk1 hFc hP1 hD1
            generalize H1 = H at hP hS ⊢
            have hP : va_P D vwCl [((ma 7), wI tC 600 (fun _ => 0)), ((ma 6), wI tC 600 zf), (mo, .inr (6, [.int th, .int 1, .ref (ma 2), .ref (ma 3), .ref (ma 4), .ref (ma 5), .ref (ma 6), .ref (ma 7), .ref (ma 8), .ref (ma 9), .ref (ma 10), .ref (ma 11), .ref (ma 12), .ref (ma 13), .ref (ma 14), .ref (ma 15), .ref (ma 16), .ref (ma 17), .ref (ma 18), .ref (ma 19), .ref (ma 20), .ref (ma 21), .int 0, .ref (ma 23), .ref (ma 24), .ref (ma 25), .ref (ma 26), .ref (ma 27), .ref (ma 28)])), ((ma 28), wI tC 5 af), ((ma 2), wI tC 600 (fun _ => 0))] H := hP
            have hD : va_D A [((ma 7), wI tC 600 (fun _ => 0)), ((ma 6), wI tC 600 zf), (mo, .inr (6, [.int th, .int 1, .ref (ma 2), .ref (ma 3), .ref (ma 4), .ref (ma 5), .ref (ma 6), .ref (ma 7), .ref (ma 8), .ref (ma 9), .ref (ma 10), .ref (ma 11), .ref (ma 12), .ref (ma 13), .ref (ma 14), .ref (ma 15), .ref (ma 16), .ref (ma 17), .ref (ma 18), .ref (ma 19), .ref (ma 20), .ref (ma 21), .int 0, .ref (ma 23), .ref (ma 24), .ref (ma 25), .ref (ma 26), .ref (ma 27), .ref (ma 28)])), ((ma 28), wI tC 5 af), ((ma 2), wI tC 600 (fun _ => 0))] := hD
            have q1 : r_562 = 0 := hw_563.trans (by rw [hb0, hb1, hb2, hb3, hb4] <;> rfl)
            subst q1
            refine lv_istore_n (lv' := [(1, .int 0), (0, .ref mo)]) hx hb dX5_mayGoOn_4 rfl hl (by decide) rfl (fun ls hl => ?_)
            refine lv_iconst (v := 0) hx hb dX5_mayGoOn_5 (by decide) ?_
            refine lv_istore_n (lv' := [(2, .int 0), (1, .int 0), (0, .ref mo)]) hx hb dX5_mayGoOn_6 rfl hl (by decide) rfl (fun ls hl => ?_)
            refine lv_iconst (v := 0) hx hb dX5_mayGoOn_7 (by decide) ?_
            refine lv_istore_n (lv' := [(3, .int 0), (2, .int 0), (1, .int 0), (0, .ref mo)]) hx hb dX5_mayGoOn_8 rfl hl (by decide) rfl (fun ls hl => ?_)
            refine lv_iload_n hx hb dX5_mayGoOn_9 rfl (lv_at hl 0 rfl) ?_
            refine lv_iconst (v := 5) hx hb dX5_mayGoOn_10 (by decide) ?_
            refine lv_icmp_ge (tgt := 71) hx hb dX5_mayGoOn_11 (by decide) (fun hc => absurd hc (by decide)) (fun _ => ?_)
            refine lv_iload_n hx hb dX5_mayGoOn_14 rfl (lv_at hl 2 rfl) ?_
            refine lv_if_lt (tgt := 71) hx hb dX5_mayGoOn_15 (by decide) (fun hc => absurd hc (by decide)) (fun _ => ?_)
            refine lv_aload_n hx hb dX5_mayGoOn_18 rfl (lv_at hl 3 rfl) ?_
            refine va_get (D := D) (ci := 6) (v := .ref (ma 28)) (C := RX5) (T := TX5) (N := 29) hx hb hts in_X5_mayGoOn_X5 hown hK hP 2 rfl rfl 28 (by decide) w_0 (fun _ h9 => h9) rfl dX5_mayGoOn_19 ?_
            refine lv_iload_n hx hb dX5_mayGoOn_22 rfl (lv_at hl 0 rfl) ?_
            refine va_iald hx hb hK hP 3 0 rfl rfl (by unfold vp_in; decide) dX5_mayGoOn_23 ?_
            refine lv_topi (fun z_564 ez_564 => ?_)
            have fz_564 : z_564 = 0 := ez_564.trans (by rw [show (0 : Int32).toNatClampNeg = 0 by decide, haf 0 (by decide), hb0] <;> rfl)
            subst fz_564
            refine lv_if_lt (tgt := 65) hx hb dX5_mayGoOn_24 (by decide) (fun hc => absurd hc (by decide)) (fun _ => ?_)
            refine lv_aload_n hx hb dX5_mayGoOn_27 rfl (lv_at hl 3 rfl) ?_
            refine va_get (D := D) (ci := 6) (v := .ref (ma 2)) (C := RX5) (T := TX5) (N := 29) hx hb hts in_X5_mayGoOn_X5 hown hK hP 2 rfl rfl 2 (by decide) w_1 (fun _ h9 => h9) rfl dX5_mayGoOn_28 ?_
            refine lv_aload_n hx hb dX5_mayGoOn_31 rfl (lv_at hl 3 rfl) ?_
            refine va_get (D := D) (ci := 6) (v := .ref (ma 28)) (C := RX5) (T := TX5) (N := 29) hx hb hts in_X5_mayGoOn_X5 hown hK hP 2 rfl rfl 28 (by decide) w_0 (fun _ h9 => h9) rfl dX5_mayGoOn_32 ?_
            refine lv_iload_n hx hb dX5_mayGoOn_35 rfl (lv_at hl 0 rfl) ?_
            refine va_iald hx hb hK hP 3 0 rfl rfl (by unfold vp_in; decide) dX5_mayGoOn_36 ?_
            refine lv_topi (fun z_565 ez_565 => ?_)
            have fz_565 : z_565 = 0 := ez_565.trans (by rw [show (0 : Int32).toNatClampNeg = 0 by decide, haf 0 (by decide), hb0] <;> rfl)
            subst fz_565
            refine va_iald hx hb hK hP 4 0 rfl rfl (by unfold vp_in; decide) dX5_mayGoOn_37 ?_
            refine lv_topi (fun z_566 ez_566 => ?_)
            have fz_566 : z_566 = 0 := ez_566.trans (rfl)
            subst fz_566
            refine lv_aload_n hx hb dX5_mayGoOn_38 rfl (lv_at hl 3 rfl) ?_
            refine va_get (D := D) (ci := 6) (v := .ref (ma 2)) (C := RX5) (T := TX5) (N := 29) hx hb hts in_X5_mayGoOn_X5 hown hK hP 2 rfl rfl 2 (by decide) w_1 (fun _ h9 => h9) rfl dX5_mayGoOn_39 ?_
            refine lv_iload_n hx hb dX5_mayGoOn_42 rfl (lv_at hl 2 rfl) ?_
            refine va_iald hx hb hK hP 4 0 rfl rfl (by unfold vp_in; decide) dX5_mayGoOn_43 ?_
            refine lv_topi (fun z_567 ez_567 => ?_)
            have fz_567 : z_567 = 0 := ez_567.trans (rfl)
            subst fz_567
            refine lv_icmp_ne (tgt := 65) hx hb dX5_mayGoOn_44 (by decide) (fun hc => absurd (by decide) hc) (fun _ => ?_)
            refine lv_iload_n hx hb dX5_mayGoOn_47 rfl (lv_at hl 1 rfl) ?_
            refine lv_iload_n hx hb dX5_mayGoOn_48 rfl (lv_at hl 0 rfl) ?_
            refine lv_aload_n hx hb dX5_mayGoOn_49 rfl (lv_at hl 3 rfl) ?_
            refine va_get (D := D) (ci := 6) (v := .ref (ma 7)) (C := RX5) (T := TX5) (N := 29) hx hb hts in_X5_mayGoOn_X5 hown hK hP 2 rfl rfl 7 (by decide) w_2 (fun _ h9 => h9) rfl dX5_mayGoOn_50 ?_
            refine lv_iload_n hx hb dX5_mayGoOn_53 rfl (lv_at hl 2 rfl) ?_
            refine va_iald hx hb hK hP 0 0 rfl rfl (by unfold vp_in; decide) dX5_mayGoOn_54 ?_
            refine lv_topi (fun z_568 ez_568 => ?_)
            have fz_568 : z_568 = 0 := ez_568.trans (rfl)
            subst fz_568
            refine lv_icmp_ne (tgt := 62) hx hb dX5_mayGoOn_55 (by decide) (fun hc => absurd (by decide) hc) (fun _ => ?_)
            refine lv_iconst (v := 3) hx hb dX5_mayGoOn_58 (by decide) ?_
            refine lv_goto (tgt := 63) hx hb dX5_mayGoOn_59 (by decide) ?_
            refine lv_iadd hx hb dX5_mayGoOn_63 ?_
            refine lv_topi (fun z_569 ez_569 => ?_)
            have fz_569 : z_569 = 3 := ez_569.trans (by decide)
            subst fz_569
            refine lv_istore_n (lv' := [(2, .int 3), (3, .int 0), (1, .int 0), (0, .ref mo)]) hx hb dX5_mayGoOn_64 rfl hl (by decide) rfl (fun ls hl => ?_)
            refine lv_iinc (v := 1) (lv' := [(3, .int 1), (2, .int 3), (1, .int 0), (0, .ref mo)]) hx hb dX5_mayGoOn_65 hl (k := 1) rfl (by decide) (by decide) rfl (fun ls hl => ?_)
            refine lv_goto (tgt := 9) hx hb dX5_mayGoOn_68 (by decide) ?_
            refine lv_iload_n hx hb dX5_mayGoOn_9 rfl (lv_at hl 0 rfl) ?_
            refine lv_iconst (v := 5) hx hb dX5_mayGoOn_10 (by decide) ?_
            refine lv_icmp_ge (tgt := 71) hx hb dX5_mayGoOn_11 (by decide) (fun hc => absurd hc (by decide)) (fun _ => ?_)
            refine lv_iload_n hx hb dX5_mayGoOn_14 rfl (lv_at hl 2 rfl) ?_
            refine lv_if_lt (tgt := 71) hx hb dX5_mayGoOn_15 (by decide) (fun hc => absurd hc (by decide)) (fun _ => ?_)
            refine lv_aload_n hx hb dX5_mayGoOn_18 rfl (lv_at hl 3 rfl) ?_
            refine va_get (D := D) (ci := 6) (v := .ref (ma 28)) (C := RX5) (T := TX5) (N := 29) hx hb hts in_X5_mayGoOn_X5 hown hK hP 2 rfl rfl 28 (by decide) w_0 (fun _ h9 => h9) rfl dX5_mayGoOn_19 ?_
            refine lv_iload_n hx hb dX5_mayGoOn_22 rfl (lv_at hl 0 rfl) ?_
            refine va_iald hx hb hK hP 3 0 rfl rfl (by unfold vp_in; decide) dX5_mayGoOn_23 ?_
            refine lv_topi (fun z_570 ez_570 => ?_)
            have fz_570 : z_570 = 0 := ez_570.trans (by rw [show (1 : Int32).toNatClampNeg = 1 by decide, haf 1 (by decide), hb1] <;> rfl)
            subst fz_570
            refine lv_if_lt (tgt := 65) hx hb dX5_mayGoOn_24 (by decide) (fun hc => absurd hc (by decide)) (fun _ => ?_)
            refine lv_aload_n hx hb dX5_mayGoOn_27 rfl (lv_at hl 3 rfl) ?_
            refine va_get (D := D) (ci := 6) (v := .ref (ma 2)) (C := RX5) (T := TX5) (N := 29) hx hb hts in_X5_mayGoOn_X5 hown hK hP 2 rfl rfl 2 (by decide) w_1 (fun _ h9 => h9) rfl dX5_mayGoOn_28 ?_
            refine lv_aload_n hx hb dX5_mayGoOn_31 rfl (lv_at hl 3 rfl) ?_
            refine va_get (D := D) (ci := 6) (v := .ref (ma 28)) (C := RX5) (T := TX5) (N := 29) hx hb hts in_X5_mayGoOn_X5 hown hK hP 2 rfl rfl 28 (by decide) w_0 (fun _ h9 => h9) rfl dX5_mayGoOn_32 ?_
            refine lv_iload_n hx hb dX5_mayGoOn_35 rfl (lv_at hl 0 rfl) ?_
            refine va_iald hx hb hK hP 3 0 rfl rfl (by unfold vp_in; decide) dX5_mayGoOn_36 ?_
            refine lv_topi (fun z_571 ez_571 => ?_)
            have fz_571 : z_571 = 0 := ez_571.trans (by rw [show (1 : Int32).toNatClampNeg = 1 by decide, haf 1 (by decide), hb1] <;> rfl)
            subst fz_571
            refine va_iald hx hb hK hP 4 0 rfl rfl (by unfold vp_in; decide) dX5_mayGoOn_37 ?_
            refine lv_topi (fun z_572 ez_572 => ?_)
            have fz_572 : z_572 = 0 := ez_572.trans (rfl)
            subst fz_572
            refine lv_aload_n hx hb dX5_mayGoOn_38 rfl (lv_at hl 3 rfl) ?_
            refine va_get (D := D) (ci := 6) (v := .ref (ma 2)) (C := RX5) (T := TX5) (N := 29) hx hb hts in_X5_mayGoOn_X5 hown hK hP 2 rfl rfl 2 (by decide) w_1 (fun _ h9 => h9) rfl dX5_mayGoOn_39 ?_
            refine lv_iload_n hx hb dX5_mayGoOn_42 rfl (lv_at hl 2 rfl) ?_
            refine va_iald hx hb hK hP 4 0 rfl rfl (by unfold vp_in; decide) dX5_mayGoOn_43 ?_
            refine lv_topi (fun z_573 ez_573 => ?_)
            have fz_573 : z_573 = 0 := ez_573.trans (rfl)
            subst fz_573
            refine lv_icmp_ne (tgt := 65) hx hb dX5_mayGoOn_44 (by decide) (fun hc => absurd (by decide) hc) (fun _ => ?_)
            refine lv_iload_n hx hb dX5_mayGoOn_47 rfl (lv_at hl 1 rfl) ?_
            refine lv_iload_n hx hb dX5_mayGoOn_48 rfl (lv_at hl 0 rfl) ?_
            refine lv_aload_n hx hb dX5_mayGoOn_49 rfl (lv_at hl 3 rfl) ?_
            refine va_get (D := D) (ci := 6) (v := .ref (ma 7)) (C := RX5) (T := TX5) (N := 29) hx hb hts in_X5_mayGoOn_X5 hown hK hP 2 rfl rfl 7 (by decide) w_2 (fun _ h9 => h9) rfl dX5_mayGoOn_50 ?_
            refine lv_iload_n hx hb dX5_mayGoOn_53 rfl (lv_at hl 2 rfl) ?_
            refine va_iald hx hb hK hP 0 0 rfl rfl (by unfold vp_in; decide) dX5_mayGoOn_54 ?_
            refine lv_topi (fun z_574 ez_574 => ?_)
            have fz_574 : z_574 = 0 := ez_574.trans (rfl)
            subst fz_574
            refine lv_icmp_ne (tgt := 62) hx hb dX5_mayGoOn_55 (by decide) (fun _ => ?_) (fun hc => absurd hc (by decide))
            refine lv_iconst (v := 2) hx hb dX5_mayGoOn_62 (by decide) ?_
            refine lv_iadd hx hb dX5_mayGoOn_63 ?_
            refine lv_topi (fun z_575 ez_575 => ?_)
            have fz_575 : z_575 = 5 := ez_575.trans (by decide)
            subst fz_575
            refine lv_istore_n (lv' := [(2, .int 5), (3, .int 1), (1, .int 0), (0, .ref mo)]) hx hb dX5_mayGoOn_64 rfl hl (by decide) rfl (fun ls hl => ?_)
            refine lv_iinc (v := 2) (lv' := [(3, .int 2), (2, .int 5), (1, .int 0), (0, .ref mo)]) hx hb dX5_mayGoOn_65 hl (k := 1) rfl (by decide) (by decide) rfl (fun ls hl => ?_)
            refine lv_goto (tgt := 9) hx hb dX5_mayGoOn_68 (by decide) ?_
            refine lv_iload_n hx hb dX5_mayGoOn_9 rfl (lv_at hl 0 rfl) ?_
            refine lv_iconst (v := 5) hx hb dX5_mayGoOn_10 (by decide) ?_
            refine lv_icmp_ge (tgt := 71) hx hb dX5_mayGoOn_11 (by decide) (fun hc => absurd hc (by decide)) (fun _ => ?_)
            refine lv_iload_n hx hb dX5_mayGoOn_14 rfl (lv_at hl 2 rfl) ?_
            refine lv_if_lt (tgt := 71) hx hb dX5_mayGoOn_15 (by decide) (fun hc => absurd hc (by decide)) (fun _ => ?_)
            refine lv_aload_n hx hb dX5_mayGoOn_18 rfl (lv_at hl 3 rfl) ?_
            refine va_get (D := D) (ci := 6) (v := .ref (ma 28)) (C := RX5) (T := TX5) (N := 29) hx hb hts in_X5_mayGoOn_X5 hown hK hP 2 rfl rfl 28 (by decide) w_0 (fun _ h9 => h9) rfl dX5_mayGoOn_19 ?_
            refine lv_iload_n hx hb dX5_mayGoOn_22 rfl (lv_at hl 0 rfl) ?_
            refine va_iald hx hb hK hP 3 0 rfl rfl (by unfold vp_in; decide) dX5_mayGoOn_23 ?_
            refine lv_topi (fun z_576 ez_576 => ?_)
            have fz_576 : z_576 = 0 := ez_576.trans (by rw [show (2 : Int32).toNatClampNeg = 2 by decide, haf 2 (by decide), hb2] <;> rfl)
            subst fz_576
            refine lv_if_lt (tgt := 65) hx hb dX5_mayGoOn_24 (by decide) (fun hc => absurd hc (by decide)) (fun _ => ?_)
            refine lv_aload_n hx hb dX5_mayGoOn_27 rfl (lv_at hl 3 rfl) ?_
            refine va_get (D := D) (ci := 6) (v := .ref (ma 2)) (C := RX5) (T := TX5) (N := 29) hx hb hts in_X5_mayGoOn_X5 hown hK hP 2 rfl rfl 2 (by decide) w_1 (fun _ h9 => h9) rfl dX5_mayGoOn_28 ?_
            refine lv_aload_n hx hb dX5_mayGoOn_31 rfl (lv_at hl 3 rfl) ?_
            refine va_get (D := D) (ci := 6) (v := .ref (ma 28)) (C := RX5) (T := TX5) (N := 29) hx hb hts in_X5_mayGoOn_X5 hown hK hP 2 rfl rfl 28 (by decide) w_0 (fun _ h9 => h9) rfl dX5_mayGoOn_32 ?_
            refine lv_iload_n hx hb dX5_mayGoOn_35 rfl (lv_at hl 0 rfl) ?_
            refine va_iald hx hb hK hP 3 0 rfl rfl (by unfold vp_in; decide) dX5_mayGoOn_36 ?_
            refine lv_topi (fun z_577 ez_577 => ?_)
            have fz_577 : z_577 = 0 := ez_577.trans (by rw [show (2 : Int32).toNatClampNeg = 2 by decide, haf 2 (by decide), hb2] <;> rfl)
            subst fz_577
            refine va_iald hx hb hK hP 4 0 rfl rfl (by unfold vp_in; decide) dX5_mayGoOn_37 ?_
            refine lv_topi (fun z_578 ez_578 => ?_)
            have fz_578 : z_578 = 0 := ez_578.trans (rfl)
            subst fz_578
            refine lv_aload_n hx hb dX5_mayGoOn_38 rfl (lv_at hl 3 rfl) ?_
            refine va_get (D := D) (ci := 6) (v := .ref (ma 2)) (C := RX5) (T := TX5) (N := 29) hx hb hts in_X5_mayGoOn_X5 hown hK hP 2 rfl rfl 2 (by decide) w_1 (fun _ h9 => h9) rfl dX5_mayGoOn_39 ?_
            refine lv_iload_n hx hb dX5_mayGoOn_42 rfl (lv_at hl 2 rfl) ?_
            refine va_iald hx hb hK hP 4 0 rfl rfl (by unfold vp_in; decide) dX5_mayGoOn_43 ?_
            refine lv_topi (fun z_579 ez_579 => ?_)
            have fz_579 : z_579 = 0 := ez_579.trans (rfl)
            subst fz_579
            refine lv_icmp_ne (tgt := 65) hx hb dX5_mayGoOn_44 (by decide) (fun hc => absurd (by decide) hc) (fun _ => ?_)
            refine lv_iload_n hx hb dX5_mayGoOn_47 rfl (lv_at hl 1 rfl) ?_
            refine lv_iload_n hx hb dX5_mayGoOn_48 rfl (lv_at hl 0 rfl) ?_
            refine lv_aload_n hx hb dX5_mayGoOn_49 rfl (lv_at hl 3 rfl) ?_
            refine va_get (D := D) (ci := 6) (v := .ref (ma 7)) (C := RX5) (T := TX5) (N := 29) hx hb hts in_X5_mayGoOn_X5 hown hK hP 2 rfl rfl 7 (by decide) w_2 (fun _ h9 => h9) rfl dX5_mayGoOn_50 ?_
            refine lv_iload_n hx hb dX5_mayGoOn_53 rfl (lv_at hl 2 rfl) ?_
            refine va_iald hx hb hK hP 0 0 rfl rfl (by unfold vp_in; decide) dX5_mayGoOn_54 ?_
            refine lv_topi (fun z_580 ez_580 => ?_)
            have fz_580 : z_580 = 0 := ez_580.trans (rfl)
            subst fz_580
            refine lv_icmp_ne (tgt := 62) hx hb dX5_mayGoOn_55 (by decide) (fun _ => ?_) (fun hc => absurd hc (by decide))
            refine lv_iconst (v := 2) hx hb dX5_mayGoOn_62 (by decide) ?_
            refine lv_iadd hx hb dX5_mayGoOn_63 ?_
            refine lv_topi (fun z_581 ez_581 => ?_)
            have fz_581 : z_581 = 7 := ez_581.trans (by decide)
            subst fz_581
            refine lv_istore_n (lv' := [(2, .int 7), (3, .int 2), (1, .int 0), (0, .ref mo)]) hx hb dX5_mayGoOn_64 rfl hl (by decide) rfl (fun ls hl => ?_)
            refine lv_iinc (v := 3) (lv' := [(3, .int 3), (2, .int 7), (1, .int 0), (0, .ref mo)]) hx hb dX5_mayGoOn_65 hl (k := 1) rfl (by decide) (by decide) rfl (fun ls hl => ?_)
            refine lv_goto (tgt := 9) hx hb dX5_mayGoOn_68 (by decide) ?_
            refine lv_iload_n hx hb dX5_mayGoOn_9 rfl (lv_at hl 0 rfl) ?_
            refine lv_iconst (v := 5) hx hb dX5_mayGoOn_10 (by decide) ?_
            refine lv_icmp_ge (tgt := 71) hx hb dX5_mayGoOn_11 (by decide) (fun hc => absurd hc (by decide)) (fun _ => ?_)
            refine lv_iload_n hx hb dX5_mayGoOn_14 rfl (lv_at hl 2 rfl) ?_
            refine lv_if_lt (tgt := 71) hx hb dX5_mayGoOn_15 (by decide) (fun hc => absurd hc (by decide)) (fun _ => ?_)
            refine lv_aload_n hx hb dX5_mayGoOn_18 rfl (lv_at hl 3 rfl) ?_
            refine va_get (D := D) (ci := 6) (v := .ref (ma 28)) (C := RX5) (T := TX5) (N := 29) hx hb hts in_X5_mayGoOn_X5 hown hK hP 2 rfl rfl 28 (by decide) w_0 (fun _ h9 => h9) rfl dX5_mayGoOn_19 ?_
            refine lv_iload_n hx hb dX5_mayGoOn_22 rfl (lv_at hl 0 rfl) ?_
            refine va_iald hx hb hK hP 3 0 rfl rfl (by unfold vp_in; decide) dX5_mayGoOn_23 ?_
            refine lv_topi (fun z_582 ez_582 => ?_)
            have fz_582 : z_582 = (-1) := ez_582.trans (by rw [show (3 : Int32).toNatClampNeg = 3 by decide, haf 3 (by decide), hb3] <;> rfl)
            subst fz_582
            refine lv_if_lt (tgt := 65) hx hb dX5_mayGoOn_24 (by decide) (fun _ => ?_) (fun hc => absurd (by decide) hc)
            refine lv_iinc (v := 4) (lv' := [(3, .int 4), (2, .int 7), (1, .int 0), (0, .ref mo)]) hx hb dX5_mayGoOn_65 hl (k := 0) rfl (by decide) (by decide) rfl (fun ls hl => ?_)
            refine lv_goto (tgt := 9) hx hb dX5_mayGoOn_68 (by decide) ?_
            refine lv_iload_n hx hb dX5_mayGoOn_9 rfl (lv_at hl 0 rfl) ?_
            refine lv_iconst (v := 5) hx hb dX5_mayGoOn_10 (by decide) ?_
            refine lv_icmp_ge (tgt := 71) hx hb dX5_mayGoOn_11 (by decide) (fun hc => absurd hc (by decide)) (fun _ => ?_)
            refine lv_iload_n hx hb dX5_mayGoOn_14 rfl (lv_at hl 2 rfl) ?_
            refine lv_if_lt (tgt := 71) hx hb dX5_mayGoOn_15 (by decide) (fun hc => absurd hc (by decide)) (fun _ => ?_)
            refine lv_aload_n hx hb dX5_mayGoOn_18 rfl (lv_at hl 3 rfl) ?_
            refine va_get (D := D) (ci := 6) (v := .ref (ma 28)) (C := RX5) (T := TX5) (N := 29) hx hb hts in_X5_mayGoOn_X5 hown hK hP 2 rfl rfl 28 (by decide) w_0 (fun _ h9 => h9) rfl dX5_mayGoOn_19 ?_
            refine lv_iload_n hx hb dX5_mayGoOn_22 rfl (lv_at hl 0 rfl) ?_
            refine va_iald hx hb hK hP 3 0 rfl rfl (by unfold vp_in; decide) dX5_mayGoOn_23 ?_
            refine lv_topi (fun z_583 ez_583 => ?_)
            have fz_583 : z_583 = 0 := ez_583.trans (by rw [show (4 : Int32).toNatClampNeg = 4 by decide, haf 4 (by decide), hb4] <;> rfl)
            subst fz_583
            refine lv_if_lt (tgt := 65) hx hb dX5_mayGoOn_24 (by decide) (fun hc => absurd hc (by decide)) (fun _ => ?_)
            refine lv_aload_n hx hb dX5_mayGoOn_27 rfl (lv_at hl 3 rfl) ?_
            refine va_get (D := D) (ci := 6) (v := .ref (ma 2)) (C := RX5) (T := TX5) (N := 29) hx hb hts in_X5_mayGoOn_X5 hown hK hP 2 rfl rfl 2 (by decide) w_1 (fun _ h9 => h9) rfl dX5_mayGoOn_28 ?_
            refine lv_aload_n hx hb dX5_mayGoOn_31 rfl (lv_at hl 3 rfl) ?_
            refine va_get (D := D) (ci := 6) (v := .ref (ma 28)) (C := RX5) (T := TX5) (N := 29) hx hb hts in_X5_mayGoOn_X5 hown hK hP 2 rfl rfl 28 (by decide) w_0 (fun _ h9 => h9) rfl dX5_mayGoOn_32 ?_
            refine lv_iload_n hx hb dX5_mayGoOn_35 rfl (lv_at hl 0 rfl) ?_
            refine va_iald hx hb hK hP 3 0 rfl rfl (by unfold vp_in; decide) dX5_mayGoOn_36 ?_
            refine lv_topi (fun z_584 ez_584 => ?_)
            have fz_584 : z_584 = 0 := ez_584.trans (by rw [show (4 : Int32).toNatClampNeg = 4 by decide, haf 4 (by decide), hb4] <;> rfl)
            subst fz_584
            refine va_iald hx hb hK hP 4 0 rfl rfl (by unfold vp_in; decide) dX5_mayGoOn_37 ?_
            refine lv_topi (fun z_585 ez_585 => ?_)
            have fz_585 : z_585 = 0 := ez_585.trans (rfl)
            subst fz_585
            refine lv_aload_n hx hb dX5_mayGoOn_38 rfl (lv_at hl 3 rfl) ?_
            refine va_get (D := D) (ci := 6) (v := .ref (ma 2)) (C := RX5) (T := TX5) (N := 29) hx hb hts in_X5_mayGoOn_X5 hown hK hP 2 rfl rfl 2 (by decide) w_1 (fun _ h9 => h9) rfl dX5_mayGoOn_39 ?_
            refine lv_iload_n hx hb dX5_mayGoOn_42 rfl (lv_at hl 2 rfl) ?_
            refine va_iald hx hb hK hP 4 0 rfl rfl (by unfold vp_in; decide) dX5_mayGoOn_43 ?_
            refine lv_topi (fun z_586 ez_586 => ?_)
            have fz_586 : z_586 = 0 := ez_586.trans (rfl)
            subst fz_586
            refine lv_icmp_ne (tgt := 65) hx hb dX5_mayGoOn_44 (by decide) (fun hc => absurd (by decide) hc) (fun _ => ?_)
            refine lv_iload_n hx hb dX5_mayGoOn_47 rfl (lv_at hl 1 rfl) ?_
            refine lv_iload_n hx hb dX5_mayGoOn_48 rfl (lv_at hl 0 rfl) ?_
            refine lv_aload_n hx hb dX5_mayGoOn_49 rfl (lv_at hl 3 rfl) ?_
            refine va_get (D := D) (ci := 6) (v := .ref (ma 7)) (C := RX5) (T := TX5) (N := 29) hx hb hts in_X5_mayGoOn_X5 hown hK hP 2 rfl rfl 7 (by decide) w_2 (fun _ h9 => h9) rfl dX5_mayGoOn_50 ?_
            refine lv_iload_n hx hb dX5_mayGoOn_53 rfl (lv_at hl 2 rfl) ?_
            refine va_iald hx hb hK hP 0 0 rfl rfl (by unfold vp_in; decide) dX5_mayGoOn_54 ?_
            refine lv_topi (fun z_587 ez_587 => ?_)
            have fz_587 : z_587 = 0 := ez_587.trans (rfl)
            subst fz_587
            refine lv_icmp_ne (tgt := 62) hx hb dX5_mayGoOn_55 (by decide) (fun _ => ?_) (fun hc => absurd hc (by decide))
            refine lv_iconst (v := 2) hx hb dX5_mayGoOn_62 (by decide) ?_
            refine lv_iadd hx hb dX5_mayGoOn_63 ?_
            refine lv_topi (fun z_588 ez_588 => ?_)
            have fz_588 : z_588 = 9 := ez_588.trans (by decide)
            subst fz_588
            refine lv_istore_n (lv' := [(2, .int 9), (3, .int 4), (1, .int 0), (0, .ref mo)]) hx hb dX5_mayGoOn_64 rfl hl (by decide) rfl (fun ls hl => ?_)
            refine lv_iinc (v := 5) (lv' := [(3, .int 5), (2, .int 9), (1, .int 0), (0, .ref mo)]) hx hb dX5_mayGoOn_65 hl (k := 1) rfl (by decide) (by decide) rfl (fun ls hl => ?_)
            refine lv_goto (tgt := 9) hx hb dX5_mayGoOn_68 (by decide) ?_
            refine lv_iload_n hx hb dX5_mayGoOn_9 rfl (lv_at hl 0 rfl) ?_
            refine lv_iconst (v := 5) hx hb dX5_mayGoOn_10 (by decide) ?_
            refine lv_icmp_ge (tgt := 71) hx hb dX5_mayGoOn_11 (by decide) (fun _ => ?_) (fun hc => absurd (by decide) hc)
            refine lv_iload_n hx hb dX5_mayGoOn_71 rfl (lv_at hl 2 rfl) ?_
            refine lv_if_lt (tgt := 89) hx hb dX5_mayGoOn_72 (by decide) (fun hc => absurd hc (by decide)) (fun _ => ?_)
            refine lv_iload_n hx hb dX5_mayGoOn_75 rfl (lv_at hl 1 rfl) ?_
            refine lv_aload_n hx hb dX5_mayGoOn_76 rfl (lv_at hl 3 rfl) ?_
            refine va_get (D := D) (ci := 6) (v := .ref (ma 6)) (C := RX5) (T := TX5) (N := 29) hx hb hts in_X5_mayGoOn_X5 hown hK hP 2 rfl rfl 6 (by decide) w_3 (fun _ h9 => h9) rfl dX5_mayGoOn_77 ?_
            refine lv_iload_n hx hb dX5_mayGoOn_80 rfl (lv_at hl 2 rfl) ?_
            refine va_iald hx hb hK hP 1 0 rfl rfl (by unfold vp_in; decide) dX5_mayGoOn_81 ?_
            refine lv_topi (fun z_589 ez_589 => ?_)
            have fz_589 : z_589 = 5 := ez_589.trans (hzf)
            subst fz_589
            refine lv_icmp_le (tgt := 89) hx hb dX5_mayGoOn_82 (by decide) (fun hc => absurd hc (by decide)) (fun _ => ?_)
            refine lv_iconst (v := 1) hx hb dX5_mayGoOn_85 (by decide) ?_
            refine lv_goto (tgt := 90) hx hb dX5_mayGoOn_86 (by decide) ?_
            have hP9 := hP.sub (ws' := [(mo, .inr (6, [.int th, .int 1, .ref (ma 2), .ref (ma 3), .ref (ma 4), .ref (ma 5), .ref (ma 6), .ref (ma 7), .ref (ma 8), .ref (ma 9), .ref (ma 10), .ref (ma 11), .ref (ma 12), .ref (ma 13), .ref (ma 14), .ref (ma 15), .ref (ma 16), .ref (ma 17), .ref (ma 18), .ref (ma 19), .ref (ma 20), .ref (ma 21), .int 0, .ref (ma 23), .ref (ma 24), .ref (ma 25), .ref (ma 26), .ref (ma 27), .ref (ma 28)])), ((ma 28), wI tC 5 af), ((ma 2), wI tC 600 (fun _ => 0)), ((ma 7), wI tC 600 (fun _ => 0)), ((ma 6), wI tC 600 zf)]) [2, 3, 4, 0, 1] rfl
            have hD9 := hD.sub (ws' := [(mo, .inr (6, [.int th, .int 1, .ref (ma 2), .ref (ma 3), .ref (ma 4), .ref (ma 5), .ref (ma 6), .ref (ma 7), .ref (ma 8), .ref (ma 9), .ref (ma 10), .ref (ma 11), .ref (ma 12), .ref (ma 13), .ref (ma 14), .ref (ma 15), .ref (ma 16), .ref (ma 17), .ref (ma 18), .ref (ma 19), .ref (ma 20), .ref (ma 21), .int 0, .ref (ma 23), .ref (ma 24), .ref (ma 25), .ref (ma 26), .ref (ma 27), .ref (ma 28)])), ((ma 28), wI tC 5 af), ((ma 2), wI tC 600 (fun _ => 0)), ((ma 7), wI tC 600 (fun _ => 0)), ((ma 6), wI tC 600 zf)]) [2, 3, 4, 0, 1] (by decide) rfl
            refine W.widen (k := 0) (n := 0) (by omega) (by omega) ?_
            exact W.zret (v := 1) hx hb hr (by decide) (fun t ht hW => ⟨⟨1, (), rfl, (by unfold mayg cntb; rw [hb0, hb1, hb2, hb3, hb4] <;> decide), (by rw [ht]; exact hP9), va_K.moved hW.alike hK, hD9⟩, hS.F ht⟩) hS.2.2 dX5_mayGoOn_90 hlocks
        · skip
          cases hb4 : bt 4
          · skip
            refine lv_aload_n hx hb dX5_mayGoOn_0 rfl (lv_at hl 0 rfl) ?_
            have hPc := hP.sub (ws' := [(mo, .inr (6, [.int th, .int 1, .ref (ma 2), .ref (ma 3), .ref (ma 4), .ref (ma 5), .ref (ma 6), .ref (ma 7), .ref (ma 8), .ref (ma 9), .ref (ma 10), .ref (ma 11), .ref (ma 12), .ref (ma 13), .ref (ma 14), .ref (ma 15), .ref (ma 16), .ref (ma 17), .ref (ma 18), .ref (ma 19), .ref (ma 20), .ref (ma 21), .int 0, .ref (ma 23), .ref (ma 24), .ref (ma 25), .ref (ma 26), .ref (ma 27), .ref (ma 28)])), ((ma 28), wI tC 5 af), ((ma 2), wI tC 600 (fun _ => 0))]) [0, 1, 2] rfl
            have hDc := hD.sub (ws' := [(mo, .inr (6, [.int th, .int 1, .ref (ma 2), .ref (ma 3), .ref (ma 4), .ref (ma 5), .ref (ma 6), .ref (ma 7), .ref (ma 8), .ref (ma 9), .ref (ma 10), .ref (ma 11), .ref (ma 12), .ref (ma 13), .ref (ma 14), .ref (ma 15), .ref (ma 16), .ref (ma 17), .ref (ma 18), .ref (ma 19), .ref (ma 20), .ref (ma 21), .int 0, .ref (ma 23), .ref (ma 24), .ref (ma 25), .ref (ma 26), .ref (ma 27), .ref (ma 28)])), ((ma 28), wI tC 5 af), ((ma 2), wI tC 600 (fun _ => 0))]) [0, 1, 2] (by decide) rfl
            have hFc := va_free (wc := [(mo, .inr (6, [.int th, .int 1, .ref (ma 2), .ref (ma 3), .ref (ma 4), .ref (ma 5), .ref (ma 6), .ref (ma 7), .ref (ma 8), .ref (ma 9), .ref (ma 10), .ref (ma 11), .ref (ma 12), .ref (ma 13), .ref (ma 14), .ref (ma 15), .ref (ma 16), .ref (ma 17), .ref (ma 18), .ref (ma 19), .ref (ma 20), .ref (ma 21), .int 0, .ref (ma 23), .ref (ma 24), .ref (ma 25), .ref (ma 26), .ref (ma 27), .ref (ma 28)])), ((ma 28), wI tC 5 af), ((ma 2), wI tC 600 (fun _ => 0))]) hD hS hA [0, 1, 2] rfl
            refine va_calli (va_runV (As := []) (rest := []) ⟨hx, hb, hml, hown, hts⟩ (c_X5_greatest l hlt D tC dz s.heap.size mo ma th af bt haf) (cwV 0 hts gX5_mayGoOn_X5_greatest rfl rfl rfl (by decide +kernel) ⟨Nat.le_of_ble_eq_true rfl, Nat.le_of_ble_eq_true rfl⟩) ⟨pB_blind, va_recv hK hPc (ci := 6) (q0 := 0) rfl rfl, pB_at hPc hDc hK hN hE hS hFc⟩ rfl rfl hl.1 rfl (lv_room (Nat.le_of_ble_eq_true rfl)) dX5_mayGoOn_1 ⟨Nat.le_of_ble_eq_true rfl, Nat.le_of_ble_eq_true rfl⟩) hS (fun q _ h => hFc q h) hFc (fun r_590 u t H1 locs ht hvm hw hB hz1 hk1 hS => ?_)
            obtain ⟨hP1, _, hD1⟩ := hB
            have hw_591 := hw
            rw [ht] at hP1
            obtain ⟨hP, hD⟩ := va_join (wr := [((ma 7), wI tC 600 (fun _ => 0)), ((ma 6), wI tC 600 zf)]) (w1 := [(mo, .inr (6, [.int th, .int 1, .ref (ma 2), .ref (ma 3), .ref (ma 4), .ref (ma 5), .ref (ma 6), .ref (ma 7), .ref (ma 8), .ref (ma 9), .ref (ma 10), .ref (ma 11), .ref (ma 12), .ref (ma 13), .ref (ma 14), .ref (ma 15), .ref (ma 16), .ref (ma 17), .ref (ma 18), .ref (ma 19), .ref (ma 20), .ref (ma 21), .int 0, .ref (ma 23), .ref (ma 24), .ref (ma 25), .ref (ma 26), .ref (ma 27), .ref (ma 28)])), ((ma 28), wI tC 5 af), ((ma 2), wI tC 600 (fun _ => 0))]) hP hD [0, 1, 2] [3, 4] rfl rfl (by decide) (by decide) hk1 hFc hP1 hD1
            generalize H1 = H at hP hS ⊢
            have hP : va_P D vwCl [((ma 7), wI tC 600 (fun _ => 0)), ((ma 6), wI tC 600 zf), (mo, .inr (6, [.int th, .int 1, .ref (ma 2), .ref (ma 3), .ref (ma 4), .ref (ma 5), .ref (ma 6), .ref (ma 7), .ref (ma 8), .ref (ma 9), .ref (ma 10), .ref (ma 11), .ref (ma 12), .ref (ma 13), .ref (ma 14), .ref (ma 15), .ref (ma 16), .ref (ma 17), .ref (ma 18), .ref (ma 19), .ref (ma 20), .ref (ma 21), .int 0, .ref (ma 23), .ref (ma 24), .ref (ma 25), .ref (ma 26), .ref (ma 27), .ref (ma 28)])), ((ma 28), wI tC 5 af), ((ma 2), wI tC 600 (fun _ => 0))] H := hP
            have hD : va_D A [((ma 7), wI tC 600 (fun _ => 0)), ((ma 6), wI tC 600 zf), (mo, .inr (6, [.int th, .int 1, .ref (ma 2), .ref (ma 3), .ref (ma 4), .ref (ma 5), .ref (ma 6), .ref (ma 7), .ref (ma 8), .ref (ma 9), .ref (ma 10), .ref (ma 11), .ref (ma 12), .ref (ma 13), .ref (ma 14), .ref (ma 15), .ref (ma 16), .ref (ma 17), .ref (ma 18), .ref (ma 19), .ref (ma 20), .ref (ma 21), .int 0, .ref (ma 23), .ref (ma 24), .ref (ma 25), .ref (ma 26), .ref (ma 27), .ref (ma 28)])), ((ma 28), wI tC 5 af), ((ma 2), wI tC 600 (fun _ => 0))] := hD
            have q1 : r_590 = 0 := hw_591.trans (by rw [hb0, hb1, hb2, hb3, hb4] <;> rfl)
            subst q1
            refine lv_istore_n (lv' := [(1, .int 0), (0, .ref mo)]) hx hb dX5_mayGoOn_4 rfl hl (by decide) rfl (fun ls hl => ?_)
            refine lv_iconst (v := 0) hx hb dX5_mayGoOn_5 (by decide) ?_
            refine lv_istore_n (lv' := [(2, .int 0), (1, .int 0), (0, .ref mo)]) hx hb dX5_mayGoOn_6 rfl hl (by decide) rfl (fun ls hl => ?_)
            refine lv_iconst (v := 0) hx hb dX5_mayGoOn_7 (by decide) ?_
            refine lv_istore_n (lv' := [(3, .int 0), (2, .int 0), (1, .int 0), (0, .ref mo)]) hx hb dX5_mayGoOn_8 rfl hl (by decide) rfl (fun ls hl => ?_)
            refine lv_iload_n hx hb dX5_mayGoOn_9 rfl (lv_at hl 0 rfl) ?_
            refine lv_iconst (v := 5) hx hb dX5_mayGoOn_10 (by decide) ?_
            refine lv_icmp_ge (tgt := 71) hx hb dX5_mayGoOn_11 (by decide) (fun hc => absurd hc (by decide)) (fun _ => ?_)
            refine lv_iload_n hx hb dX5_mayGoOn_14 rfl (lv_at hl 2 rfl) ?_
            refine lv_if_lt (tgt := 71) hx hb dX5_mayGoOn_15 (by decide) (fun hc => absurd hc (by decide)) (fun _ => ?_)
            refine lv_aload_n hx hb dX5_mayGoOn_18 rfl (lv_at hl 3 rfl) ?_
            refine va_get (D := D) (ci := 6) (v := .ref (ma 28)) (C := RX5) (T := TX5) (N := 29) hx hb hts in_X5_mayGoOn_X5 hown hK hP 2 rfl rfl 28 (by decide) w_0 (fun _ h9 => h9) rfl dX5_mayGoOn_19 ?_
            refine lv_iload_n hx hb dX5_mayGoOn_22 rfl (lv_at hl 0 rfl) ?_
            refine va_iald hx hb hK hP 3 0 rfl rfl (by unfold vp_in; decide) dX5_mayGoOn_23 ?_
            refine lv_topi (fun z_592 ez_592 => ?_)
            have fz_592 : z_592 = 0 := ez_592.trans (by rw [show (0 : Int32).toNatClampNeg = 0 by decide, haf 0 (by decide), hb0] <;> rfl)
            subst fz_592
            refine lv_if_lt (tgt := 65) hx hb dX5_mayGoOn_24 (by decide) (fun hc => absurd hc (by decide)) (fun _ => ?_)
            refine lv_aload_n hx hb dX5_mayGoOn_27 rfl (lv_at hl 3 rfl) ?_
            refine va_get (D := D) (ci := 6) (v := .ref (ma 2)) (C := RX5) (T := TX5) (N := 29) hx hb hts in_X5_mayGoOn_X5 hown hK hP 2 rfl rfl 2 (by decide) w_1 (fun _ h9 => h9) rfl dX5_mayGoOn_28 ?_
            refine lv_aload_n hx hb dX5_mayGoOn_31 rfl (lv_at hl 3 rfl) ?_
            refine va_get (D := D) (ci := 6) (v := .ref (ma 28)) (C := RX5) (T := TX5) (N := 29) hx hb hts in_X5_mayGoOn_X5 hown hK hP 2 rfl rfl 28 (by decide) w_0 (fun _ h9 => h9) rfl dX5_mayGoOn_32 ?_
            refine lv_iload_n hx hb dX5_mayGoOn_35 rfl (lv_at hl 0 rfl) ?_
            refine va_iald hx hb hK hP 3 0 rfl rfl (by unfold vp_in; decide) dX5_mayGoOn_36 ?_
            refine lv_topi (fun z_593 ez_593 => ?_)
            have fz_593 : z_593 = 0 := ez_593.trans (by rw [show (0 : Int32).toNatClampNeg = 0 by decide, haf 0 (by decide), hb0] <;> rfl)
            subst fz_593
            refine va_iald hx hb hK hP 4 0 rfl rfl (by unfold vp_in; decide) dX5_mayGoOn_37 ?_
            refine lv_topi (fun z_594 ez_594 => ?_)
            have fz_594 : z_594 = 0 := ez_594.trans (rfl)
            subst fz_594
            refine lv_aload_n hx hb dX5_mayGoOn_38 rfl (lv_at hl 3 rfl) ?_
            refine va_get (D := D) (ci := 6) (v := .ref (ma 2)) (C := RX5) (T := TX5) (N := 29) hx hb hts in_X5_mayGoOn_X5 hown hK hP 2 rfl rfl 2 (by decide) w_1 (fun _ h9 => h9) rfl dX5_mayGoOn_39 ?_
            refine lv_iload_n hx hb dX5_mayGoOn_42 rfl (lv_at hl 2 rfl) ?_
            refine va_iald hx hb hK hP 4 0 rfl rfl (by unfold vp_in; decide) dX5_mayGoOn_43 ?_
            refine lv_topi (fun z_595 ez_595 => ?_)
            have fz_595 : z_595 = 0 := ez_595.trans (rfl)
            subst fz_595
            refine lv_icmp_ne (tgt := 65) hx hb dX5_mayGoOn_44 (by decide) (fun hc => absurd (by decide) hc) (fun _ => ?_)
            refine lv_iload_n hx hb dX5_mayGoOn_47 rfl (lv_at hl 1 rfl) ?_
            refine lv_iload_n hx hb dX5_mayGoOn_48 rfl (lv_at hl 0 rfl) ?_
            refine lv_aload_n hx hb dX5_mayGoOn_49 rfl (lv_at hl 3 rfl) ?_
            refine va_get (D := D) (ci := 6) (v := .ref (ma 7)) (C := RX5) (T := TX5) (N := 29) hx hb hts in_X5_mayGoOn_X5 hown hK hP 2 rfl rfl 7 (by decide) w_2 (fun _ h9 => h9) rfl dX5_mayGoOn_50 ?_
            refine lv_iload_n hx hb dX5_mayGoOn_53 rfl (lv_at hl 2 rfl) ?_
            refine va_iald hx hb hK hP 0 0 rfl rfl (by unfold vp_in; decide) dX5_mayGoOn_54 ?_
            refine lv_topi (fun z_596 ez_596 => ?_)
            have fz_596 : z_596 = 0 := ez_596.trans (rfl)
            subst fz_596
            refine lv_icmp_ne (tgt := 62) hx hb dX5_mayGoOn_55 (by decide) (fun hc => absurd (by decide) hc) (fun _ => ?_)
            refine lv_iconst (v := 3) hx hb dX5_mayGoOn_58 (by decide) ?_
            refine lv_goto (tgt := 63) hx hb dX5_mayGoOn_59 (by decide) ?_
            refine lv_iadd hx hb dX5_mayGoOn_63 ?_
            refine lv_topi (fun z_597 ez_597 => ?_)
            have fz_597 : z_597 = 3 := ez_597.trans (by decide)
            subst fz_597
            refine lv_istore_n (lv' := [(2, .int 3), (3, .int 0), (1, .int 0), (0, .ref mo)]) hx hb dX5_mayGoOn_64 rfl hl (by decide) rfl (fun ls hl => ?_)
            refine lv_iinc (v := 1) (lv' := [(3, .int 1), (2, .int 3), (1, .int 0), (0, .ref mo)]) hx hb dX5_mayGoOn_65 hl (k := 1) rfl (by decide) (by decide) rfl (fun ls hl => ?_)
            refine lv_goto (tgt := 9) hx hb dX5_mayGoOn_68 (by decide) ?_
            refine lv_iload_n hx hb dX5_mayGoOn_9 rfl (lv_at hl 0 rfl) ?_
            refine lv_iconst (v := 5) hx hb dX5_mayGoOn_10 (by decide) ?_
            refine lv_icmp_ge (tgt := 71) hx hb dX5_mayGoOn_11 (by decide) (fun hc => absurd hc (by decide)) (fun _ => ?_)
            refine lv_iload_n hx hb dX5_mayGoOn_14 rfl (lv_at hl 2 rfl) ?_
            refine lv_if_lt (tgt := 71) hx hb dX5_mayGoOn_15 (by decide) (fun hc => absurd hc (by decide)) (fun _ => ?_)
            refine lv_aload_n hx hb dX5_mayGoOn_18 rfl (lv_at hl 3 rfl) ?_
            refine va_get (D := D) (ci := 6) (v := .ref (ma 28)) (C := RX5) (T := TX5) (N := 29) hx hb hts in_X5_mayGoOn_X5 hown hK hP 2 rfl rfl 28 (by decide) w_0 (fun _ h9 => h9) rfl dX5_mayGoOn_19 ?_
            refine lv_iload_n hx hb dX5_mayGoOn_22 rfl (lv_at hl 0 rfl) ?_
            refine va_iald hx hb hK hP 3 0 rfl rfl (by unfold vp_in; decide) dX5_mayGoOn_23 ?_
            refine lv_topi (fun z_598 ez_598 => ?_)
            have fz_598 : z_598 = 0 := ez_598.trans (by rw [show (1 : Int32).toNatClampNeg = 1 by decide, haf 1 (by decide), hb1] <;> rfl)
            subst fz_598
            refine lv_if_lt (tgt := 65) hx hb dX5_mayGoOn_24 (by decide) (fun hc => absurd hc (by decide)) (fun _ => ?_)
            refine lv_aload_n hx hb dX5_mayGoOn_27 rfl (lv_at hl 3 rfl) ?_
            refine va_get (D := D) (ci := 6) (v := .ref (ma 2)) (C := RX5) (T := TX5) (N := 29) hx hb hts in_X5_mayGoOn_X5 hown hK hP 2 rfl rfl 2 (by decide) w_1 (fun _ h9 => h9) rfl dX5_mayGoOn_28 ?_
            refine lv_aload_n hx hb dX5_mayGoOn_31 rfl (lv_at hl 3 rfl) ?_
            refine va_get (D := D) (ci := 6) (v := .ref (ma 28)) (C := RX5) (T := TX5) (N := 29) hx hb hts in_X5_mayGoOn_X5 hown hK hP 2 rfl rfl 28 (by decide) w_0 (fun _ h9 => h9) rfl dX5_mayGoOn_32 ?_
            refine lv_iload_n hx hb dX5_mayGoOn_35 rfl (lv_at hl 0 rfl) ?_
            refine va_iald hx hb hK hP 3 0 rfl rfl (by unfold vp_in; decide) dX5_mayGoOn_36 ?_
            refine lv_topi (fun z_599 ez_599 => ?_)
            have fz_599 : z_599 = 0 := ez_599.trans (by rw [show (1 : Int32).toNatClampNeg = 1 by decide, haf 1 (by decide), hb1] <;> rfl)
            subst fz_599
            refine va_iald hx hb hK hP 4 0 rfl rfl (by unfold vp_in; decide) dX5_mayGoOn_37 ?_
            refine lv_topi (fun z_600 ez_600 => ?_)
            have fz_600 : z_600 = 0 := ez_600.trans (rfl)
            subst fz_600
            refine lv_aload_n hx hb dX5_mayGoOn_38 rfl (lv_at hl 3 rfl) ?_
            refine va_get (D := D) (ci := 6) (v := .ref (ma 2)) (C := RX5) (T := TX5) (N := 29) hx hb hts in_X5_mayGoOn_X5 hown hK hP 2 rfl rfl 2 (by decide) w_1 (fun _ h9 => h9) rfl dX5_mayGoOn_39 ?_
            refine lv_iload_n hx hb dX5_mayGoOn_42 rfl (lv_at hl 2 rfl) ?_
            refine va_iald hx hb hK hP 4 0 rfl rfl (by unfold vp_in; decide) dX5_mayGoOn_43 ?_
            refine lv_topi (fun z_601 ez_601 => ?_)
            have fz_601 : z_601 = 0 := ez_601.trans (rfl)
            subst fz_601
            refine lv_icmp_ne (tgt := 65) hx hb dX5_mayGoOn_44 (by decide) (fun hc => absurd (by decide) hc) (fun _ => ?_)
            refine lv_iload_n hx hb dX5_mayGoOn_47 rfl (lv_at hl 1 rfl) ?_
            refine lv_iload_n hx hb dX5_mayGoOn_48 rfl (lv_at hl 0 rfl) ?_
            refine lv_aload_n hx hb dX5_mayGoOn_49 rfl (lv_at hl 3 rfl) ?_
            refine va_get (D := D) (ci := 6) (v := .ref (ma 7)) (C := RX5) (T := TX5) (N := 29) hx hb hts in_X5_mayGoOn_X5 hown hK hP 2 rfl rfl 7 (by decide) w_2 (fun _ h9 => h9) rfl dX5_mayGoOn_50 ?_
            refine lv_iload_n hx hb dX5_mayGoOn_53 rfl (lv_at hl 2 rfl) ?_
            refine va_iald hx hb hK hP 0 0 rfl rfl (by unfold vp_in; decide) dX5_mayGoOn_54 ?_
            refine lv_topi (fun z_602 ez_602 => ?_)
            have fz_602 : z_602 = 0 := ez_602.trans (rfl)
            subst fz_602
            refine lv_icmp_ne (tgt := 62) hx hb dX5_mayGoOn_55 (by decide) (fun _ => ?_) (fun hc => absurd hc (by decide))
            refine lv_iconst (v := 2) hx hb dX5_mayGoOn_62 (by decide) ?_
            refine lv_iadd hx hb dX5_mayGoOn_63 ?_
            refine lv_topi (fun z_603 ez_603 => ?_)
            have fz_603 : z_603 = 5 := ez_603.trans (by decide)
            subst fz_603
            refine lv_istore_n (lv' := [(2, .int 5), (3, .int 1), (1, .int 0), (0, .ref mo)]) hx hb dX5_mayGoOn_64 rfl hl (by decide) rfl (fun ls hl => ?_)
            refine lv_iinc (v := 2) (lv' := [(3, .int 2), (2, .int 5), (1, .int 0), (0, .ref mo)]) hx hb dX5_mayGoOn_65 hl (k := 1) rfl (by decide) (by decide) rfl (fun ls hl => ?_)
            refine lv_goto (tgt := 9) hx hb dX5_mayGoOn_68 (by decide) ?_
            refine lv_iload_n hx hb dX5_mayGoOn_9 rfl (lv_at hl 0 rfl) ?_
            refine lv_iconst (v := 5) hx hb dX5_mayGoOn_10 (by decide) ?_
            refine lv_icmp_ge (tgt := 71) hx hb dX5_mayGoOn_11 (by decide) (fun hc => absurd hc (by decide)) (fun _ => ?_)
            refine lv_iload_n hx hb dX5_mayGoOn_14 rfl (lv_at hl 2 rfl) ?_
            refine lv_if_lt (tgt := 71) hx hb dX5_mayGoOn_15 (by decide) (fun hc => absurd hc (by decide)) (fun _ => ?_)
            refine lv_aload_n hx hb dX5_mayGoOn_18 rfl (lv_at hl 3 rfl) ?_
            refine va_get (D := D) (ci := 6) (v := .ref (ma 28)) (C := RX5) (T := TX5) (N := 29) hx hb hts in_X5_mayGoOn_X5 hown hK hP 2 rfl rfl 28 (by decide) w_0 (fun _ h9 => h9) rfl dX5_mayGoOn_19 ?_
            refine lv_iload_n hx hb dX5_mayGoOn_22 rfl (lv_at hl 0 rfl) ?_
            refine va_iald hx hb hK hP 3 0 rfl rfl (by unfold vp_in; decide) dX5_mayGoOn_23 ?_
            refine lv_topi (fun z_604 ez_604 => ?_)
            have fz_604 : z_604 = 0 := ez_604.trans (by rw [show (2 : Int32).toNatClampNeg = 2 by decide, haf 2 (by decide), hb2] <;> rfl)
            subst fz_604
            refine lv_if_lt (tgt := 65) hx hb dX5_mayGoOn_24 (by decide) (fun hc => absurd hc (by decide)) (fun _ => ?_)
            refine lv_aload_n hx hb dX5_mayGoOn_27 rfl (lv_at hl 3 rfl) ?_
            refine va_get (D := D) (ci := 6) (v := .ref (ma 2)) (C := RX5) (T := TX5) (N := 29) hx hb hts in_X5_mayGoOn_X5 hown hK hP 2 rfl rfl 2 (by decide) w_1 (fun _ h9 => h9) rfl dX5_mayGoOn_28 ?_
            refine lv_aload_n hx hb dX5_mayGoOn_31 rfl (lv_at hl 3 rfl) ?_
            refine va_get (D := D) (ci := 6) (v := .ref (ma 28)) (C := RX5) (T := TX5) (N := 29) hx hb hts in_X5_mayGoOn_X5 hown hK hP 2 rfl rfl 28 (by decide) w_0 (fun _ h9 => h9) rfl dX5_mayGoOn_32 ?_
            refine lv_iload_n hx hb dX5_mayGoOn_35 rfl (lv_at hl 0 rfl) ?_
            refine va_iald hx hb hK hP 3 0 rfl rfl (by unfold vp_in; decide) dX5_mayGoOn_36 ?_
            refine lv_topi (fun z_605 ez_605 => ?_)
            have fz_605 : z_605 = 0 := ez_605.trans (by rw [show (2 : Int32).toNatClampNeg = 2 by decide, haf 2 (by decide), hb2] <;> rfl)
            subst fz_605
            refine va_iald hx hb hK hP 4 0 rfl rfl (by unfold vp_in; decide) dX5_mayGoOn_37 ?_
            refine lv_topi (fun z_606 ez_606 => ?_)
            have fz_606 : z_606 = 0 := ez_606.trans (rfl)
            subst fz_606
            refine lv_aload_n hx hb dX5_mayGoOn_38 rfl (lv_at hl 3 rfl) ?_
            refine va_get (D := D) (ci := 6) (v := .ref (ma 2)) (C := RX5) (T := TX5) (N := 29) hx hb hts in_X5_mayGoOn_X5 hown hK hP 2 rfl rfl 2 (by decide) w_1 (fun _ h9 => h9) rfl dX5_mayGoOn_39 ?_
            refine lv_iload_n hx hb dX5_mayGoOn_42 rfl (lv_at hl 2 rfl) ?_
            refine va_iald hx hb hK hP 4 0 rfl rfl (by unfold vp_in; decide) dX5_mayGoOn_43 ?_
            refine lv_topi (fun z_607 ez_607 => ?_)
            have fz_607 : z_607 = 0 := ez_607.trans (rfl)
            subst fz_607
            refine lv_icmp_ne (tgt := 65) hx hb dX5_mayGoOn_44 (by decide) (fun hc => absurd (by decide) hc) (fun _ => ?_)
            refine lv_iload_n hx hb dX5_mayGoOn_47 rfl (lv_at hl 1 rfl) ?_
            refine lv_iload_n hx hb dX5_mayGoOn_48 rfl (lv_at hl 0 rfl) ?_
            refine lv_aload_n hx hb dX5_mayGoOn_49 rfl (lv_at hl 3 rfl) ?_
            refine va_get (D := D) (ci := 6) (v := .ref (ma 7)) (C := RX5) (T := TX5) (N := 29) hx hb hts in_X5_mayGoOn_X5 hown hK hP 2 rfl rfl 7 (by decide) w_2 (fun _ h9 => h9) rfl dX5_mayGoOn_50 ?_
            refine lv_iload_n hx hb dX5_mayGoOn_53 rfl (lv_at hl 2 rfl) ?_
            refine va_iald hx hb hK hP 0 0 rfl rfl (by unfold vp_in; decide) dX5_mayGoOn_54 ?_
            refine lv_topi (fun z_608 ez_608 => ?_)
            have fz_608 : z_608 = 0 := ez_608.trans (rfl)
            subst fz_608
            refine lv_icmp_ne (tgt := 62) hx hb dX5_mayGoOn_55 (by decide) (fun _ => ?_) (fun hc => absurd hc (by decide))
            refine lv_iconst (v := 2) hx hb dX5_mayGoOn_62 (by decide) ?_
            refine lv_iadd hx hb dX5_mayGoOn_63 ?_
            refine lv_topi (fun z_609 ez_609 => ?_)
            have fz_609 : z_609 = 7 := ez_609.trans (by decide)
            subst fz_609
            refine lv_istore_n (lv' := [(2, .int 7), (3, .int 2), (1, .int 0), (0, .ref mo)]) hx hb dX5_mayGoOn_64 rfl hl (by decide) rfl (fun ls hl => ?_)
            refine lv_iinc (v := 3) (lv' := [(3, .int 3), (2, .int 7), (1, .int 0), (0, .ref mo)]) hx hb dX5_mayGoOn_65 hl (k := 1) rfl (by decide) (by decide) rfl (fun ls hl => ?_)
            refine lv_goto (tgt := 9) hx hb dX5_mayGoOn_68 (by decide) ?_
            refine lv_iload_n hx hb dX5_mayGoOn_9 rfl (lv_at hl 0 rfl) ?_
            refine lv_iconst (v := 5) hx hb dX5_mayGoOn_10 (by decide) ?_
            refine lv_icmp_ge (tgt := 71) hx hb dX5_mayGoOn_11 (by decide) (fun hc => absurd hc (by decide)) (fun _ => ?_)
            refine lv_iload_n hx hb dX5_mayGoOn_14 rfl (lv_at hl 2 rfl) ?_
            refine lv_if_lt (tgt := 71) hx hb dX5_mayGoOn_15 (by decide) (fun hc => absurd hc (by decide)) (fun _ => ?_)
            refine lv_aload_n hx hb dX5_mayGoOn_18 rfl (lv_at hl 3 rfl) ?_
            refine va_get (D := D) (ci := 6) (v := .ref (ma 28)) (C := RX5) (T := TX5) (N := 29) hx hb hts in_X5_mayGoOn_X5 hown hK hP 2 rfl rfl 28 (by decide) w_0 (fun _ h9 => h9) rfl dX5_mayGoOn_19 ?_
            refine lv_iload_n hx hb dX5_mayGoOn_22 rfl (lv_at hl 0 rfl) ?_
            refine va_iald hx hb hK hP 3 0 rfl rfl (by unfold vp_in; decide) dX5_mayGoOn_23 ?_
            refine lv_topi (fun z_610 ez_610 => ?_)
            have fz_610 : z_610 = 0 := ez_610.trans (by rw [show (3 : Int32).toNatClampNeg = 3 by decide, haf 3 (by decide), hb3] <;> rfl)
            subst fz_610
            refine lv_if_lt (tgt := 65) hx hb dX5_mayGoOn_24 (by decide) (fun hc => absurd hc (by decide)) (fun _ => ?_)
            refine lv_aload_n hx hb dX5_mayGoOn_27 rfl (lv_at hl 3 rfl) ?_
            refine va_get (D := D) (ci := 6) (v := .ref (ma 2)) (C := RX5) (T := TX5) (N := 29) hx hb hts in_X5_mayGoOn_X5 hown hK hP 2 rfl rfl 2 (by decide) w_1 (fun _ h9 => h9) rfl dX5_mayGoOn_28 ?_
            refine lv_aload_n hx hb dX5_mayGoOn_31 rfl (lv_at hl 3 rfl) ?_
            refine va_get (D := D) (ci := 6) (v := .ref (ma 28)) (C := RX5) (T := TX5) (N := 29) hx hb hts in_X5_mayGoOn_X5 hown hK hP 2 rfl rfl 28 (by decide) w_0 (fun _ h9 => h9) rfl dX5_mayGoOn_32 ?_
            refine lv_iload_n hx hb dX5_mayGoOn_35 rfl (lv_at hl 0 rfl) ?_
            refine va_iald hx hb hK hP 3 0 rfl rfl (by unfold vp_in; decide) dX5_mayGoOn_36 ?_
            refine lv_topi (fun z_611 ez_611 => ?_)
            have fz_611 : z_611 = 0 := ez_611.trans (by rw [show (3 : Int32).toNatClampNeg = 3 by decide, haf 3 (by decide), hb3] <;> rfl)
            subst fz_611
            refine va_iald hx hb hK hP 4 0 rfl rfl (by unfold vp_in; decide) dX5_mayGoOn_37 ?_
            refine lv_topi (fun z_612 ez_612 => ?_)
            have fz_612 : z_612 = 0 := ez_612.trans (rfl)
            subst fz_612
            refine lv_aload_n hx hb dX5_mayGoOn_38 rfl (lv_at hl 3 rfl) ?_
            refine va_get (D := D) (ci := 6) (v := .ref (ma 2)) (C := RX5) (T := TX5) (N := 29) hx hb hts in_X5_mayGoOn_X5 hown hK hP 2 rfl rfl 2 (by decide) w_1 (fun _ h9 => h9) rfl dX5_mayGoOn_39 ?_
            refine lv_iload_n hx hb dX5_mayGoOn_42 rfl (lv_at hl 2 rfl) ?_
            refine va_iald hx hb hK hP 4 0 rfl rfl (by unfold vp_in; decide) dX5_mayGoOn_43 ?_
            refine lv_topi (fun z_613 ez_613 => ?_)
            have fz_613 : z_613 = 0 := ez_613.trans (rfl)
            subst fz_613
            refine lv_icmp_ne (tgt := 65) hx hb dX5_mayGoOn_44 (by decide) (fun hc => absurd (by decide) hc) (fun _ => ?_)
            refine lv_iload_n hx hb dX5_mayGoOn_47 rfl (lv_at hl 1 rfl) ?_
            refine lv_iload_n hx hb dX5_mayGoOn_48 rfl (lv_at hl 0 rfl) ?_
            refine lv_aload_n hx hb dX5_mayGoOn_49 rfl (lv_at hl 3 rfl) ?_
            refine va_get (D := D) (ci := 6) (v := .ref (ma 7)) (C := RX5) (T := TX5) (N := 29) hx hb hts in_X5_mayGoOn_X5 hown hK hP 2 rfl rfl 7 (by decide) w_2 (fun _ h9 => h9) rfl dX5_mayGoOn_50 ?_
            refine lv_iload_n hx hb dX5_mayGoOn_53 rfl (lv_at hl 2 rfl) ?_
            refine va_iald hx hb hK hP 0 0 rfl rfl (by unfold vp_in; decide) dX5_mayGoOn_54 ?_
            refine lv_topi (fun z_614 ez_614 => ?_)
            have fz_614 : z_614 = 0 := ez_614.trans (rfl)
            subst fz_614
            refine lv_icmp_ne (tgt := 62) hx hb dX5_mayGoOn_55 (by decide) (fun _ => ?_) (fun hc => absurd hc (by decide))
            refine lv_iconst (v := 2) hx hb dX5_mayGoOn_62 (by decide) ?_
            refine lv_iadd hx hb dX5_mayGoOn_63 ?_
            refine lv_topi (fun z_615 ez_615 => ?_)
            have fz_615 : z_615 = 9 := ez_615.trans (by decide)
            subst fz_615
            refine lv_istore_n (lv' := [(2, .int 9), (3, .int 3), (1, .int 0), (0, .ref mo)]) hx hb dX5_mayGoOn_64 rfl hl (by decide) rfl (fun ls hl => ?_)
            refine lv_iinc (v := 4) (lv' := [(3, .int 4), (2, .int 9), (1, .int 0), (0, .ref mo)]) hx hb dX5_mayGoOn_65 hl (k := 1) rfl (by decide) (by decide) rfl (fun ls hl => ?_)
            refine lv_goto (tgt := 9) hx hb dX5_mayGoOn_68 (by decide) ?_
            refine lv_iload_n hx hb dX5_mayGoOn_9 rfl (lv_at hl 0 rfl) ?_
            refine lv_iconst (v := 5) hx hb dX5_mayGoOn_10 (by decide) ?_
            refine lv_icmp_ge (tgt := 71) hx hb dX5_mayGoOn_11 (by decide) (fun hc => absurd hc (by decide)) (fun _ => ?_)
            refine lv_iload_n hx hb dX5_mayGoOn_14 rfl (lv_at hl 2 rfl) ?_
            refine lv_if_lt (tgt := 71) hx hb dX5_mayGoOn_15 (by decide) (fun hc => absurd hc (by decide)) (fun _ => ?_)
            refine lv_aload_n hx hb dX5_mayGoOn_18 rfl (lv_at hl 3 rfl) ?_
            refine va_get (D := D) (ci := 6) (v := .ref (ma 28)) (C := RX5) (T := TX5) (N := 29) hx hb hts in_X5_mayGoOn_X5 hown hK hP 2 rfl rfl 28 (by decide) w_0 (fun _ h9 => h9) rfl dX5_mayGoOn_19 ?_
            refine lv_iload_n hx hb dX5_mayGoOn_22 rfl (lv_at hl 0 rfl) ?_
            refine va_iald hx hb hK hP 3 0 rfl rfl (by unfold vp_in; decide) dX5_mayGoOn_23 ?_
            refine lv_topi (fun z_616 ez_616 => ?_)
            have fz_616 : z_616 = (-1) := ez_616.trans (by rw [show (4 : Int32).toNatClampNeg = 4 by decide, haf 4 (by decide), hb4] <;> rfl)
            subst fz_616
            refine lv_if_lt (tgt := 65) hx hb dX5_mayGoOn_24 (by decide) (fun _ => ?_) (fun hc => absurd (by decide) hc)
            refine lv_iinc (v := 5) (lv' := [(3, .int 5), (2, .int 9), (1, .int 0), (0, .ref mo)]) hx hb dX5_mayGoOn_65 hl (k := 0) rfl (by decide) (by decide) rfl (fun ls hl => ?_)
            refine lv_goto (tgt := 9) hx hb dX5_mayGoOn_68 (by decide) ?_
            refine lv_iload_n hx hb dX5_mayGoOn_9 rfl (lv_at hl 0 rfl) ?_
            refine lv_iconst (v := 5) hx hb dX5_mayGoOn_10 (by decide) ?_
            refine lv_icmp_ge (tgt := 71) hx hb dX5_mayGoOn_11 (by decide) (fun _ => ?_) (fun hc => absurd (by decide) hc)
            refine lv_iload_n hx hb dX5_mayGoOn_71 rfl (lv_at hl 2 rfl) ?_
            refine lv_if_lt (tgt := 89) hx hb dX5_mayGoOn_72 (by decide) (fun hc => absurd hc (by decide)) (fun _ => ?_)
            refine lv_iload_n hx hb dX5_mayGoOn_75 rfl (lv_at hl 1 rfl) ?_
            refine lv_aload_n hx hb dX5_mayGoOn_76 rfl (lv_at hl 3 rfl) ?_
            refine va_get (D := D) (ci := 6) (v := .ref (ma 6)) (C := RX5) (T := TX5) (N := 29) hx hb hts in_X5_mayGoOn_X5 hown hK hP 2 rfl rfl 6 (by decide) w_3 (fun _ h9 => h9) rfl dX5_mayGoOn_77 ?_
            refine lv_iload_n hx hb dX5_mayGoOn_80 rfl (lv_at hl 2 rfl) ?_
            refine va_iald hx hb hK hP 1 0 rfl rfl (by unfold vp_in; decide) dX5_mayGoOn_81 ?_
            refine lv_topi (fun z_617 ez_617 => ?_)
            have fz_617 : z_617 = 5 := ez_617.trans (hzf)
            subst fz_617
            refine lv_icmp_le (tgt := 89) hx hb dX5_mayGoOn_82 (by decide) (fun hc => absurd hc (by decide)) (fun _ => ?_)
            refine lv_iconst (v := 1) hx hb dX5_mayGoOn_85 (by decide) ?_
            refine lv_goto (tgt := 90) hx hb dX5_mayGoOn_86 (by decide) ?_
            have hP9 := hP.sub (ws' := [(mo, .inr (6, [.int th, .int 1, .ref (ma 2), .ref (ma 3), .ref (ma 4), .ref (ma 5), .ref (ma 6), .ref (ma 7), .ref (ma 8), .ref (ma 9), .ref (ma 10), .ref (ma 11), .ref (ma 12), .ref (ma 13), .ref (ma 14), .ref (ma 15), .ref (ma 16), .ref (ma 17), .ref (ma 18), .ref (ma 19), .ref (ma 20), .ref (ma 21), .int 0, .ref (ma 23), .ref (ma 24), .ref (ma 25), .ref (ma 26), .ref (ma 27), .ref (ma 28)])), ((ma 28), wI tC 5 af), ((ma 2), wI tC 600 (fun _ => 0)), ((ma 7), wI tC 600 (fun _ => 0)), ((ma 6), wI tC 600 zf)]) [2, 3, 4, 0, 1] rfl
            have hD9 := hD.sub (ws' := [(mo, .inr (6, [.int th, .int 1, .ref (ma 2), .ref (ma 3), .ref (ma 4), .ref (ma 5), .ref (ma 6), .ref (ma 7), .ref (ma 8), .ref (ma 9), .ref (ma 10), .ref (ma 11), .ref (ma 12), .ref (ma 13), .ref (ma 14), .ref (ma 15), .ref (ma 16), .ref (ma 17), .ref (ma 18), .ref (ma 19), .ref (ma 20), .ref (ma 21), .int 0, .ref (ma 23), .ref (ma 24), .ref (ma 25), .ref (ma 26), .ref (ma 27), .ref (ma 28)])), ((ma 28), wI tC 5 af), ((ma 2), wI tC 600 (fun _ => 0)), ((ma 7), wI tC 600 (fun _ => 0)), ((ma 6), wI tC 600 zf)]) [2, 3, 4, 0, 1] (by decide) rfl
            refine W.widen (k := 0) (n := 0) (by omega) (by omega) ?_
            exact W.zret (v := 1) hx hb hr (by decide) (fun t ht hW => ⟨⟨1, (), rfl, (by unfold mayg cntb; rw [hb0, hb1, hb2, hb3, hb4] <;> decide), (by rw [ht]; exact hP9), va_K.moved hW.alike hK, hD9⟩, hS.F ht⟩) hS.2.2 dX5_mayGoOn_90 hlocks
          · skip
            refine lv_aload_n hx hb dX5_mayGoOn_0 rfl (lv_at hl 0 rfl) ?_
            have hPc := hP.sub (ws' := [(mo, .inr (6, [.int th, .int 1, .ref (ma 2), .ref (ma 3), .ref (ma 4), .ref (ma 5), .ref (ma 6), .ref (ma 7), .ref (ma 8), .ref (ma 9), .ref (ma 10), .ref (ma 11), .ref (ma 12), .ref (ma 13), .ref (ma 14), .ref (ma 15), .ref (ma 16), .ref (ma 17), .ref (ma 18), .ref (ma 19), .ref (ma 20), .ref (ma 21), .int 0, .ref (ma 23), .ref (ma 24), .ref (ma 25), .ref (ma 26), .ref (ma 27), .ref (ma 28)])), ((ma 28), wI tC 5 af), ((ma 2), wI tC 600 (fun _ => 0))]) [0, 1, 2] rfl
            have hDc := hD.sub (ws' := [(mo, .inr (6, [.int th, .int 1, .ref (ma 2), .ref (ma 3), .ref (ma 4), .ref (ma 5), .ref (ma 6), .ref (ma 7), .ref (ma 8), .ref (ma 9), .ref (ma 10), .ref (ma 11), .ref (ma 12), .ref (ma 13), .ref (ma 14), .ref (ma 15), .ref (ma 16), .ref (ma 17), .ref (ma 18), .ref (ma 19), .ref (ma 20), .ref (ma 21), .int 0, .ref (ma 23), .ref (ma 24), .ref (ma 25), .ref (ma 26), .ref (ma 27), .ref (ma 28)])), ((ma 28), wI tC 5 af), ((ma 2), wI tC 600 (fun _ => 0))]) [0, 1, 2] (by decide) rfl
            have hFc := va_free (wc := [(mo, .inr (6, [.int th, .int 1, .ref (ma 2), .ref (ma 3), .ref (ma 4), .ref (ma 5), .ref (ma 6), .ref (ma 7), .ref (ma 8), .ref (ma 9), .ref (ma 10), .ref (ma 11), .ref (ma 12), .ref (ma 13), .ref (ma 14), .ref (ma 15), .ref (ma 16), .ref (ma 17), .ref (ma 18), .ref (ma 19), .ref (ma 20), .ref (ma 21), .int 0, .ref (ma 23), .ref (ma 24), .ref (ma 25), .ref (ma 26), .ref (ma 27), .ref (ma 28)])), ((ma 28), wI tC 5 af), ((ma 2), wI tC 600 (fun _ => 0))]) hD hS hA [0, 1, 2] rfl
            refine va_calli (va_runV (As := []) (rest := []) ⟨hx, hb, hml, hown, hts⟩ (c_X5_greatest l hlt D tC dz s.heap.size mo ma th af bt haf) (cwV 0 hts gX5_mayGoOn_X5_greatest rfl rfl rfl (by decide +kernel) ⟨Nat.le_of_ble_eq_true rfl, Nat.le_of_ble_eq_true rfl⟩) ⟨pB_blind, va_recv hK hPc (ci := 6) (q0 := 0) rfl rfl, pB_at hPc hDc hK hN hE hS hFc⟩ rfl rfl hl.1 rfl (lv_room (Nat.le_of_ble_eq_true rfl)) dX5_mayGoOn_1 ⟨Nat.le_of_ble_eq_true rfl, Nat.le_of_ble_eq_true rfl⟩) hS (fun q _ h => hFc q h) hFc (fun r_618 u t H1 locs ht hvm hw hB hz1 hk1 hS => ?_)
            obtain ⟨hP1, _, hD1⟩ := hB
            have hw_619 := hw
            rw [ht] at hP1
            obtain ⟨hP, hD⟩ := va_join (wr := [((ma 7), wI tC 600 (fun _ => 0)), ((ma 6), wI tC 600 zf)]) (w1 := [(mo, .inr (6, [.int th, .int 1, .ref (ma 2), .ref (ma 3), .ref (ma 4), .ref (ma 5), .ref (ma 6), .ref (ma 7), .ref (ma 8), .ref (ma 9), .ref (ma 10), .ref (ma 11), .ref (ma 12), .ref (ma 13), .ref (ma 14), .ref (ma 15), .ref (ma 16), .ref (ma 17), .ref (ma 18), .ref (ma 19), .ref (ma 20), .ref (ma 21), .int 0, .ref (ma 23), .ref (ma 24), .ref (ma 25), .ref (ma 26), .ref (ma 27), .ref (ma 28)])), ((ma 28), wI tC 5 af), ((ma 2), wI tC 600 (fun _ => 0))]) hP hD [0, 1, 2] [3, 4] rfl rfl (by decide) (by decide) hk1 hFc hP1 hD1
            generalize H1 = H at hP hS ⊢
            have hP : va_P D vwCl [((ma 7), wI tC 600 (fun _ => 0)), ((ma 6), wI tC 600 zf), (mo, .inr (6, [.int th, .int 1, .ref (ma 2), .ref (ma 3), .ref (ma 4), .ref (ma 5), .ref (ma 6), .ref (ma 7), .ref (ma 8), .ref (ma 9), .ref (ma 10), .ref (ma 11), .ref (ma 12), .ref (ma 13), .ref (ma 14), .ref (ma 15), .ref (ma 16), .ref (ma 17), .ref (ma 18), .ref (ma 19), .ref (ma 20), .ref (ma 21), .int 0, .ref (ma 23), .ref (ma 24), .ref (ma 25), .ref (ma 26), .ref (ma 27), .ref (ma 28)])), ((ma 28), wI tC 5 af), ((ma 2), wI tC 600 (fun _ => 0))] H := hP
            have hD : va_D A [((ma 7), wI tC 600 (fun _ => 0)), ((ma 6), wI tC 600 zf), (mo, .inr (6, [.int th, .int 1, .ref (ma 2), .ref (ma 3), .ref (ma 4), .ref (ma 5), .ref (ma 6), .ref (ma 7), .ref (ma 8), .ref (ma 9), .ref (ma 10), .ref (ma 11), .ref (ma 12), .ref (ma 13), .ref (ma 14), .ref (ma 15), .ref (ma 16), .ref (ma 17), .ref (ma 18), .ref (ma 19), .ref (ma 20), .ref (ma 21), .int 0, .ref (ma 23), .ref (ma 24), .ref (ma 25), .ref (ma 26), .ref (ma 27), .ref (ma 28)])), ((ma 28), wI tC 5 af), ((ma 2), wI tC 600 (fun _ => 0))] := hD
            have q1 : r_618 = 0 := hw_619.trans (by rw [hb0, hb1, hb2, hb3, hb4] <;> rfl)
            subst q1
            refine lv_istore_n (lv' := [(1, .int 0), (0, .ref mo)]) hx hb dX5_mayGoOn_4 rfl hl (by decide) rfl (fun ls hl => ?_)
            refine lv_iconst (v := 0) hx hb dX5_mayGoOn_5 (by decide) ?_
            refine lv_istore_n (lv' := [(2, .int 0), (1, .int 0), (0, .ref mo)]) hx hb dX5_mayGoOn_6 rfl hl (by decide) rfl (fun ls hl => ?_)
            refine lv_iconst (v := 0) hx hb dX5_mayGoOn_7 (by decide) ?_
            refine lv_istore_n (lv' := [(3, .int 0), (2, .int 0), (1, .int 0), (0, .ref mo)]) hx hb dX5_mayGoOn_8 rfl hl (by decide) rfl (fun ls hl => ?_)
            refine lv_iload_n hx hb dX5_mayGoOn_9 rfl (lv_at hl 0 rfl) ?_
            refine lv_iconst (v := 5) hx hb dX5_mayGoOn_10 (by decide) ?_
            refine lv_icmp_ge (tgt := 71) hx hb dX5_mayGoOn_11 (by decide) (fun hc => absurd hc (by decide)) (fun _ => ?_)
            refine lv_iload_n hx hb dX5_mayGoOn_14 rfl (lv_at hl 2 rfl) ?_
            refine lv_if_lt (tgt := 71) hx hb dX5_mayGoOn_15 (by decide) (fun hc => absurd hc (by decide)) (fun _ => ?_)
            refine lv_aload_n hx hb dX5_mayGoOn_18 rfl (lv_at hl 3 rfl) ?_
            refine va_get (D := D) (ci := 6) (v := .ref (ma 28)) (C := RX5) (T := TX5) (N := 29) hx hb hts in_X5_mayGoOn_X5 hown hK hP 2 rfl rfl 28 (by decide) w_0 (fun _ h9 => h9) rfl dX5_mayGoOn_19 ?_
            refine lv_iload_n hx hb dX5_mayGoOn_22 rfl (lv_at hl 0 rfl) ?_
            refine va_iald hx hb hK hP 3 0 rfl rfl (by unfold vp_in; decide) dX5_mayGoOn_23 ?_
            refine lv_topi (fun z_620 ez_620 => ?_)
            have fz_620 : z_620 = 0 := ez_620.trans (by rw [show (0 : Int32).toNatClampNeg = 0 by decide, haf 0 (by decide), hb0] <;> rfl)
            subst fz_620
            refine lv_if_lt (tgt := 65) hx hb dX5_mayGoOn_24 (by decide) (fun hc => absurd hc (by decide)) (fun _ => ?_)
            refine lv_aload_n hx hb dX5_mayGoOn_27 rfl (lv_at hl 3 rfl) ?_
            refine va_get (D := D) (ci := 6) (v := .ref (ma 2)) (C := RX5) (T := TX5) (N := 29) hx hb hts in_X5_mayGoOn_X5 hown hK hP 2 rfl rfl 2 (by decide) w_1 (fun _ h9 => h9) rfl dX5_mayGoOn_28 ?_
            refine lv_aload_n hx hb dX5_mayGoOn_31 rfl (lv_at hl 3 rfl) ?_
            refine va_get (D := D) (ci := 6) (v := .ref (ma 28)) (C := RX5) (T := TX5) (N := 29) hx hb hts in_X5_mayGoOn_X5 hown hK hP 2 rfl rfl 28 (by decide) w_0 (fun _ h9 => h9) rfl dX5_mayGoOn_32 ?_
            refine lv_iload_n hx hb dX5_mayGoOn_35 rfl (lv_at hl 0 rfl) ?_
            refine va_iald hx hb hK hP 3 0 rfl rfl (by unfold vp_in; decide) dX5_mayGoOn_36 ?_
            refine lv_topi (fun z_621 ez_621 => ?_)
            have fz_621 : z_621 = 0 := ez_621.trans (by rw [show (0 : Int32).toNatClampNeg = 0 by decide, haf 0 (by decide), hb0] <;> rfl)
            subst fz_621
            refine va_iald hx hb hK hP 4 0 rfl rfl (by unfold vp_in; decide) dX5_mayGoOn_37 ?_
            refine lv_topi (fun z_622 ez_622 => ?_)
            have fz_622 : z_622 = 0 := ez_622.trans (rfl)
            subst fz_622
            refine lv_aload_n hx hb dX5_mayGoOn_38 rfl (lv_at hl 3 rfl) ?_
            refine va_get (D := D) (ci := 6) (v := .ref (ma 2)) (C := RX5) (T := TX5) (N := 29) hx hb hts in_X5_mayGoOn_X5 hown hK hP 2 rfl rfl 2 (by decide) w_1 (fun _ h9 => h9) rfl dX5_mayGoOn_39 ?_
            refine lv_iload_n hx hb dX5_mayGoOn_42 rfl (lv_at hl 2 rfl) ?_
            refine va_iald hx hb hK hP 4 0 rfl rfl (by unfold vp_in; decide) dX5_mayGoOn_43 ?_
            refine lv_topi (fun z_623 ez_623 => ?_)
            have fz_623 : z_623 = 0 := ez_623.trans (rfl)
            subst fz_623
            refine lv_icmp_ne (tgt := 65) hx hb dX5_mayGoOn_44 (by decide) (fun hc => absurd (by decide) hc) (fun _ => ?_)
            refine lv_iload_n hx hb dX5_mayGoOn_47 rfl (lv_at hl 1 rfl) ?_
            refine lv_iload_n hx hb dX5_mayGoOn_48 rfl (lv_at hl 0 rfl) ?_
            refine lv_aload_n hx hb dX5_mayGoOn_49 rfl (lv_at hl 3 rfl) ?_
            refine va_get (D := D) (ci := 6) (v := .ref (ma 7)) (C := RX5) (T := TX5) (N := 29) hx hb hts in_X5_mayGoOn_X5 hown hK hP 2 rfl rfl 7 (by decide) w_2 (fun _ h9 => h9) rfl dX5_mayGoOn_50 ?_
            refine lv_iload_n hx hb dX5_mayGoOn_53 rfl (lv_at hl 2 rfl) ?_
            refine va_iald hx hb hK hP 0 0 rfl rfl (by unfold vp_in; decide) dX5_mayGoOn_54 ?_
            refine lv_topi (fun z_624 ez_624 => ?_)
            have fz_624 : z_624 = 0 := ez_624.trans (rfl)
            subst fz_624
            refine lv_icmp_ne (tgt := 62) hx hb dX5_mayGoOn_55 (by decide) (fun hc => absurd (by decide) hc) (fun _ => ?_)
            refine lv_iconst (v := 3) hx hb dX5_mayGoOn_58 (by decide) ?_
            refine lv_goto (tgt := 63) hx hb dX5_mayGoOn_59 (by decide) ?_
            refine lv_iadd hx hb dX5_mayGoOn_63 ?_
            refine lv_topi (fun z_625 ez_625 => ?_)
            have fz_625 : z_625 = 3 := ez_625.trans (by decide)
            subst fz_625
            refine lv_istore_n (lv' := [(2, .int 3), (3, .int 0), (1, .int 0), (0, .ref mo)]) hx hb dX5_mayGoOn_64 rfl hl (by decide) rfl (fun ls hl => ?_)
            refine lv_iinc (v := 1) (lv' := [(3, .int 1), (2, .int 3), (1, .int 0), (0, .ref mo)]) hx hb dX5_mayGoOn_65 hl (k := 1) rfl (by decide) (by decide) rfl (fun ls hl => ?_)
            refine lv_goto (tgt := 9) hx hb dX5_mayGoOn_68 (by decide) ?_
            refine lv_iload_n hx hb dX5_mayGoOn_9 rfl (lv_at hl 0 rfl) ?_
            refine lv_iconst (v := 5) hx hb dX5_mayGoOn_10 (by decide) ?_
            refine lv_icmp_ge (tgt := 71) hx hb dX5_mayGoOn_11 (by decide) (fun hc => absurd hc (by decide)) (fun _ => ?_)
            refine lv_iload_n hx hb dX5_mayGoOn_14 rfl (lv_at hl 2 rfl) ?_
            refine lv_if_lt (tgt := 71) hx hb dX5_mayGoOn_15 (by decide) (fun hc => absurd hc (by decide)) (fun _ => ?_)
            refine lv_aload_n hx hb dX5_mayGoOn_18 rfl (lv_at hl 3 rfl) ?_
            refine va_get (D := D) (ci := 6) (v := .ref (ma 28)) (C := RX5) (T := TX5) (N := 29) hx hb hts in_X5_mayGoOn_X5 hown hK hP 2 rfl rfl 28 (by decide) w_0 (fun _ h9 => h9) rfl dX5_mayGoOn_19 ?_
            refine lv_iload_n hx hb dX5_mayGoOn_22 rfl (lv_at hl 0 rfl) ?_
            refine va_iald hx hb hK hP 3 0 rfl rfl (by unfold vp_in; decide) dX5_mayGoOn_23 ?_
            refine lv_topi (fun z_626 ez_626 => ?_)
            have fz_626 : z_626 = 0 := ez_626.trans (by rw [show (1 : Int32).toNatClampNeg = 1 by decide, haf 1 (by decide), hb1] <;> rfl)
            subst fz_626
            refine lv_if_lt (tgt := 65) hx hb dX5_mayGoOn_24 (by decide) (fun hc => absurd hc (by decide)) (fun _ => ?_)
            refine lv_aload_n hx hb dX5_mayGoOn_27 rfl (lv_at hl 3 rfl) ?_
            refine va_get (D := D) (ci := 6) (v := .ref (ma 2)) (C := RX5) (T := TX5) (N := 29) hx hb hts in_X5_mayGoOn_X5 hown hK hP 2 rfl rfl 2 (by decide) w_1 (fun _ h9 => h9) rfl dX5_mayGoOn_28 ?_
            refine lv_aload_n hx hb dX5_mayGoOn_31 rfl (lv_at hl 3 rfl) ?_
            refine va_get (D := D) (ci := 6) (v := .ref (ma 28)) (C := RX5) (T := TX5) (N := 29) hx hb hts in_X5_mayGoOn_X5 hown hK hP 2 rfl rfl 28 (by decide) w_0 (fun _ h9 => h9) rfl dX5_mayGoOn_32 ?_
            refine lv_iload_n hx hb dX5_mayGoOn_35 rfl (lv_at hl 0 rfl) ?_
            refine va_iald hx hb hK hP 3 0 rfl rfl (by unfold vp_in; decide) dX5_mayGoOn_36 ?_
            refine lv_topi (fun z_627 ez_627 => ?_)
            have fz_627 : z_627 = 0 := ez_627.trans (by rw [show (1 : Int32).toNatClampNeg = 1 by decide, haf 1 (by decide), hb1] <;> rfl)
            subst fz_627
            refine va_iald hx hb hK hP 4 0 rfl rfl (by unfold vp_in; decide) dX5_mayGoOn_37 ?_
            refine lv_topi (fun z_628 ez_628 => ?_)
            have fz_628 : z_628 = 0 := ez_628.trans (rfl)
            subst fz_628
            refine lv_aload_n hx hb dX5_mayGoOn_38 rfl (lv_at hl 3 rfl) ?_
            refine va_get (D := D) (ci := 6) (v := .ref (ma 2)) (C := RX5) (T := TX5) (N := 29) hx hb hts in_X5_mayGoOn_X5 hown hK hP 2 rfl rfl 2 (by decide) w_1 (fun _ h9 => h9) rfl dX5_mayGoOn_39 ?_
            refine lv_iload_n hx hb dX5_mayGoOn_42 rfl (lv_at hl 2 rfl) ?_
            refine va_iald hx hb hK hP 4 0 rfl rfl (by unfold vp_in; decide) dX5_mayGoOn_43 ?_
            refine lv_topi (fun z_629 ez_629 => ?_)
            have fz_629 : z_629 = 0 := ez_629.trans (rfl)
            subst fz_629
            refine lv_icmp_ne (tgt := 65) hx hb dX5_mayGoOn_44 (by decide) (fun hc => absurd (by decide) hc) (fun _ => ?_)
            refine lv_iload_n hx hb dX5_mayGoOn_47 rfl (lv_at hl 1 rfl) ?_
            refine lv_iload_n hx hb dX5_mayGoOn_48 rfl (lv_at hl 0 rfl) ?_
            refine lv_aload_n hx hb dX5_mayGoOn_49 rfl (lv_at hl 3 rfl) ?_
            refine va_get (D := D) (ci := 6) (v := .ref (ma 7)) (C := RX5) (T := TX5) (N := 29) hx hb hts in_X5_mayGoOn_X5 hown hK hP 2 rfl rfl 7 (by decide) w_2 (fun _ h9 => h9) rfl dX5_mayGoOn_50 ?_
            refine lv_iload_n hx hb dX5_mayGoOn_53 rfl (lv_at hl 2 rfl) ?_
            refine va_iald hx hb hK hP 0 0 rfl rfl (by unfold vp_in; decide) dX5_mayGoOn_54 ?_
            refine lv_topi (fun z_630 ez_630 => ?_)
            have fz_630 : z_630 = 0 := ez_630.trans (rfl)
            subst fz_630
            refine lv_icmp_ne (tgt := 62) hx hb dX5_mayGoOn_55 (by decide) (fun _ => ?_) (fun hc => absurd hc (by decide))
            refine lv_iconst (v := 2) hx hb dX5_mayGoOn_62 (by decide) ?_
            refine lv_iadd hx hb dX5_mayGoOn_63 ?_
            refine lv_topi (fun z_631 ez_631 => ?_)
            have fz_631 : z_631 = 5 := ez_631.trans (by decide)
            subst fz_631
            refine lv_istore_n (lv' := [(2, .int 5), (3, .int 1), (1, .int 0), (0, .ref mo)]) hx hb dX5_mayGoOn_64 rfl hl (by decide) rfl (fun ls hl => ?_)
            refine lv_iinc (v := 2) (lv' := [(3, .int 2), (2, .int 5), (1, .int 0), (0, .ref mo)]) hx hb dX5_mayGoOn_65 hl (k := 1) rfl (by decide) (by decide) rfl (fun ls hl => ?_)
            refine lv_goto (tgt := 9) hx hb dX5_mayGoOn_68 (by decide) ?_
            refine lv_iload_n hx hb dX5_mayGoOn_9 rfl (lv_at hl 0 rfl) ?_
            refine lv_iconst (v := 5) hx hb dX5_mayGoOn_10 (by decide) ?_
            refine lv_icmp_ge (tgt := 71) hx hb dX5_mayGoOn_11 (by decide) (fun hc => absurd hc (by decide)) (fun _ => ?_)
            refine lv_iload_n hx hb dX5_mayGoOn_14 rfl (lv_at hl 2 rfl) ?_
            refine lv_if_lt (tgt := 71) hx hb dX5_mayGoOn_15 (by decide) (fun hc => absurd hc (by decide)) (fun _ => ?_)
            refine lv_aload_n hx hb dX5_mayGoOn_18 rfl (lv_at hl 3 rfl) ?_
            refine va_get (D := D) (ci := 6) (v := .ref (ma 28)) (C := RX5) (T := TX5) (N := 29) hx hb hts in_X5_mayGoOn_X5 hown hK hP 2 rfl rfl 28 (by decide) w_0 (fun _ h9 => h9) rfl dX5_mayGoOn_19 ?_
            refine lv_iload_n hx hb dX5_mayGoOn_22 rfl (lv_at hl 0 rfl) ?_
            refine va_iald hx hb hK hP 3 0 rfl rfl (by unfold vp_in; decide) dX5_mayGoOn_23 ?_
            refine lv_topi (fun z_632 ez_632 => ?_)
            have fz_632 : z_632 = 0 := ez_632.trans (by rw [show (2 : Int32).toNatClampNeg = 2 by decide, haf 2 (by decide), hb2] <;> rfl)
            subst fz_632
            refine lv_if_lt (tgt := 65) hx hb dX5_mayGoOn_24 (by decide) (fun hc => absurd hc (by decide)) (fun _ => ?_)
            refine lv_aload_n hx hb dX5_mayGoOn_27 rfl (lv_at hl 3 rfl) ?_
            refine va_get (D := D) (ci := 6) (v := .ref (ma 2)) (C := RX5) (T := TX5) (N := 29) hx hb hts in_X5_mayGoOn_X5 hown hK hP 2 rfl rfl 2 (by decide) w_1 (fun _ h9 => h9) rfl dX5_mayGoOn_28 ?_
            refine lv_aload_n hx hb dX5_mayGoOn_31 rfl (lv_at hl 3 rfl) ?_
            refine va_get (D := D) (ci := 6) (v := .ref (ma 28)) (C := RX5) (T := TX5) (N := 29) hx hb hts in_X5_mayGoOn_X5 hown hK hP 2 rfl rfl 28 (by decide) w_0 (fun _ h9 => h9) rfl dX5_mayGoOn_32 ?_
            refine lv_iload_n hx hb dX5_mayGoOn_35 rfl (lv_at hl 0 rfl) ?_
            refine va_iald hx hb hK hP 3 0 rfl rfl (by unfold vp_in; decide) dX5_mayGoOn_36 ?_
            refine lv_topi (fun z_633 ez_633 => ?_)
            have fz_633 : z_633 = 0 := ez_633.trans (by rw [show (2 : Int32).toNatClampNeg = 2 by decide, haf 2 (by decide), hb2] <;> rfl)
            subst fz_633
            refine va_iald hx hb hK hP 4 0 rfl rfl (by unfold vp_in; decide) dX5_mayGoOn_37 ?_
            refine lv_topi (fun z_634 ez_634 => ?_)
            have fz_634 : z_634 = 0 := ez_634.trans (rfl)
            subst fz_634
            refine lv_aload_n hx hb dX5_mayGoOn_38 rfl (lv_at hl 3 rfl) ?_
            refine va_get (D := D) (ci := 6) (v := .ref (ma 2)) (C := RX5) (T := TX5) (N := 29) hx hb hts in_X5_mayGoOn_X5 hown hK hP 2 rfl rfl 2 (by decide) w_1 (fun _ h9 => h9) rfl dX5_mayGoOn_39 ?_
            refine lv_iload_n hx hb dX5_mayGoOn_42 rfl (lv_at hl 2 rfl) ?_
            refine va_iald hx hb hK hP 4 0 rfl rfl (by unfold vp_in; decide) dX5_mayGoOn_43 ?_
            refine lv_topi (fun z_635 ez_635 => ?_)
            have fz_635 : z_635 = 0 := ez_635.trans (rfl)
            subst fz_635
            refine lv_icmp_ne (tgt := 65) hx hb dX5_mayGoOn_44 (by decide) (fun hc => absurd (by decide) hc) (fun _ => ?_)
            refine lv_iload_n hx hb dX5_mayGoOn_47 rfl (lv_at hl 1 rfl) ?_
            refine lv_iload_n hx hb dX5_mayGoOn_48 rfl (lv_at hl 0 rfl) ?_
            refine lv_aload_n hx hb dX5_mayGoOn_49 rfl (lv_at hl 3 rfl) ?_
            refine va_get (D := D) (ci := 6) (v := .ref (ma 7)) (C := RX5) (T := TX5) (N := 29) hx hb hts in_X5_mayGoOn_X5 hown hK hP 2 rfl rfl 7 (by decide) w_2 (fun _ h9 => h9) rfl dX5_mayGoOn_50 ?_
            refine lv_iload_n hx hb dX5_mayGoOn_53 rfl (lv_at hl 2 rfl) ?_
            refine va_iald hx hb hK hP 0 0 rfl rfl (by unfold vp_in; decide) dX5_mayGoOn_54 ?_
            refine lv_topi (fun z_636 ez_636 => ?_)
            have fz_636 : z_636 = 0 := ez_636.trans (rfl)
            subst fz_636
            refine lv_icmp_ne (tgt := 62) hx hb dX5_mayGoOn_55 (by decide) (fun _ => ?_) (fun hc => absurd hc (by decide))
            refine lv_iconst (v := 2) hx hb dX5_mayGoOn_62 (by decide) ?_
            refine lv_iadd hx hb dX5_mayGoOn_63 ?_
            refine lv_topi (fun z_637 ez_637 => ?_)
            have fz_637 : z_637 = 7 := ez_637.trans (by decide)
            subst fz_637
            refine lv_istore_n (lv' := [(2, .int 7), (3, .int 2), (1, .int 0), (0, .ref mo)]) hx hb dX5_mayGoOn_64 rfl hl (by decide) rfl (fun ls hl => ?_)
            refine lv_iinc (v := 3) (lv' := [(3, .int 3), (2, .int 7), (1, .int 0), (0, .ref mo)]) hx hb dX5_mayGoOn_65 hl (k := 1) rfl (by decide) (by decide) rfl (fun ls hl => ?_)
            refine lv_goto (tgt := 9) hx hb dX5_mayGoOn_68 (by decide) ?_
            refine lv_iload_n hx hb dX5_mayGoOn_9 rfl (lv_at hl 0 rfl) ?_
            refine lv_iconst (v := 5) hx hb dX5_mayGoOn_10 (by decide) ?_
            refine lv_icmp_ge (tgt := 71) hx hb dX5_mayGoOn_11 (by decide) (fun hc => absurd hc (by decide)) (fun _ => ?_)
            refine lv_iload_n hx hb dX5_mayGoOn_14 rfl (lv_at hl 2 rfl) ?_
            refine lv_if_lt (tgt := 71) hx hb dX5_mayGoOn_15 (by decide) (fun hc => absurd hc (by decide)) (fun _ => ?_)
            refine lv_aload_n hx hb dX5_mayGoOn_18 rfl (lv_at hl 3 rfl) ?_
            refine va_get (D := D) (ci := 6) (v := .ref (ma 28)) (C := RX5) (T := TX5) (N := 29) hx hb hts in_X5_mayGoOn_X5 hown hK hP 2 rfl rfl 28 (by decide) w_0 (fun _ h9 => h9) rfl dX5_mayGoOn_19 ?_
            refine lv_iload_n hx hb dX5_mayGoOn_22 rfl (lv_at hl 0 rfl) ?_
            refine va_iald hx hb hK hP 3 0 rfl rfl (by unfold vp_in; decide) dX5_mayGoOn_23 ?_
            refine lv_topi (fun z_638 ez_638 => ?_)
            have fz_638 : z_638 = 0 := ez_638.trans (by rw [show (3 : Int32).toNatClampNeg = 3 by decide, haf 3 (by decide), hb3] <;> rfl)
            subst fz_638
            refine lv_if_lt (tgt := 65) hx hb dX5_mayGoOn_24 (by decide) (fun hc => absurd hc (by decide)) (fun _ => ?_)
            refine lv_aload_n hx hb dX5_mayGoOn_27 rfl (lv_at hl 3 rfl) ?_
            refine va_get (D := D) (ci := 6) (v := .ref (ma 2)) (C := RX5) (T := TX5) (N := 29) hx hb hts in_X5_mayGoOn_X5 hown hK hP 2 rfl rfl 2 (by decide) w_1 (fun _ h9 => h9) rfl dX5_mayGoOn_28 ?_
            refine lv_aload_n hx hb dX5_mayGoOn_31 rfl (lv_at hl 3 rfl) ?_
            refine va_get (D := D) (ci := 6) (v := .ref (ma 28)) (C := RX5) (T := TX5) (N := 29) hx hb hts in_X5_mayGoOn_X5 hown hK hP 2 rfl rfl 28 (by decide) w_0 (fun _ h9 => h9) rfl dX5_mayGoOn_32 ?_
            refine lv_iload_n hx hb dX5_mayGoOn_35 rfl (lv_at hl 0 rfl) ?_
            refine va_iald hx hb hK hP 3 0 rfl rfl (by unfold vp_in; decide) dX5_mayGoOn_36 ?_
            refine lv_topi (fun z_639 ez_639 => ?_)
            have fz_639 : z_639 = 0 := ez_639.trans (by rw [show (3 : Int32).toNatClampNeg = 3 by decide, haf 3 (by decide), hb3] <;> rfl)
            subst fz_639
            refine va_iald hx hb hK hP 4 0 rfl rfl (by unfold vp_in; decide) dX5_mayGoOn_37 ?_
            refine lv_topi (fun z_640 ez_640 => ?_)
            have fz_640 : z_640 = 0 := ez_640.trans (rfl)
            subst fz_640
            refine lv_aload_n hx hb dX5_mayGoOn_38 rfl (lv_at hl 3 rfl) ?_
            refine va_get (D := D) (ci := 6) (v := .ref (ma 2)) (C := RX5) (T := TX5) (N := 29) hx hb hts in_X5_mayGoOn_X5 hown hK hP 2 rfl rfl 2 (by decide) w_1 (fun _ h9 => h9) rfl dX5_mayGoOn_39 ?_
            refine lv_iload_n hx hb dX5_mayGoOn_42 rfl (lv_at hl 2 rfl) ?_
            refine va_iald hx hb hK hP 4 0 rfl rfl (by unfold vp_in; decide) dX5_mayGoOn_43 ?_
            refine lv_topi (fun z_641 ez_641 => ?_)
            have fz_641 : z_641 = 0 := ez_641.trans (rfl)
            subst fz_641
            refine lv_icmp_ne (tgt := 65) hx hb dX5_mayGoOn_44 (by decide) (fun hc => absurd (by decide) hc) (fun _ => ?_)
            refine lv_iload_n hx hb dX5_mayGoOn_47 rfl (lv_at hl 1 rfl) ?_
            refine lv_iload_n hx hb dX5_mayGoOn_48 rfl (lv_at hl 0 rfl) ?_
            refine lv_aload_n hx hb dX5_mayGoOn_49 rfl (lv_at hl 3 rfl) ?_
            refine va_get (D := D) (ci := 6) (v := .ref (ma 7)) (C := RX5) (T := TX5) (N := 29) hx hb hts in_X5_mayGoOn_X5 hown hK hP 2 rfl rfl 7 (by decide) w_2 (fun _ h9 => h9) rfl dX5_mayGoOn_50 ?_
            refine lv_iload_n hx hb dX5_mayGoOn_53 rfl (lv_at hl 2 rfl) ?_
            refine va_iald hx hb hK hP 0 0 rfl rfl (by unfold vp_in; decide) dX5_mayGoOn_54 ?_
            refine lv_topi (fun z_642 ez_642 => ?_)
            have fz_642 : z_642 = 0 := ez_642.trans (rfl)
            subst fz_642
            refine lv_icmp_ne (tgt := 62) hx hb dX5_mayGoOn_55 (by decide) (fun _ => ?_) (fun hc => absurd hc (by decide))
            refine lv_iconst (v := 2) hx hb dX5_mayGoOn_62 (by decide) ?_
            refine lv_iadd hx hb dX5_mayGoOn_63 ?_
            refine lv_topi (fun z_643 ez_643 => ?_)
            have fz_643 : z_643 = 9 := ez_643.trans (by decide)
            subst fz_643
            refine lv_istore_n (lv' := [(2, .int 9), (3, .int 3), (1, .int 0), (0, .ref mo)]) hx hb dX5_mayGoOn_64 rfl hl (by decide) rfl (fun ls hl => ?_)
            refine lv_iinc (v := 4) (lv' := [(3, .int 4), (2, .int 9), (1, .int 0), (0, .ref mo)]) hx hb dX5_mayGoOn_65 hl (k := 1) rfl (by decide) (by decide) rfl (fun ls hl => ?_)
            refine lv_goto (tgt := 9) hx hb dX5_mayGoOn_68 (by decide) ?_
            refine lv_iload_n hx hb dX5_mayGoOn_9 rfl (lv_at hl 0 rfl) ?_
            refine lv_iconst (v := 5) hx hb dX5_mayGoOn_10 (by decide) ?_
            refine lv_icmp_ge (tgt := 71) hx hb dX5_mayGoOn_11 (by decide) (fun hc => absurd hc (by decide)) (fun _ => ?_)
            refine lv_iload_n hx hb dX5_mayGoOn_14 rfl (lv_at hl 2 rfl) ?_
            refine lv_if_lt (tgt := 71) hx hb dX5_mayGoOn_15 (by decide) (fun hc => absurd hc (by decide)) (fun _ => ?_)
            refine lv_aload_n hx hb dX5_mayGoOn_18 rfl (lv_at hl 3 rfl) ?_
            refine va_get (D := D) (ci := 6) (v := .ref (ma 28)) (C := RX5) (T := TX5) (N := 29) hx hb hts in_X5_mayGoOn_X5 hown hK hP 2 rfl rfl 28 (by decide) w_0 (fun _ h9 => h9) rfl dX5_mayGoOn_19 ?_
            refine lv_iload_n hx hb dX5_mayGoOn_22 rfl (lv_at hl 0 rfl) ?_
            refine va_iald hx hb hK hP 3 0 rfl rfl (by unfold vp_in; decide) dX5_mayGoOn_23 ?_
            refine lv_topi (fun z_644 ez_644 => ?_)
            have fz_644 : z_644 = 0 := ez_644.trans (by rw [show (4 : Int32).toNatClampNeg = 4 by decide, haf 4 (by decide), hb4] <;> rfl)
            subst fz_644
            refine lv_if_lt (tgt := 65) hx hb dX5_mayGoOn_24 (by decide) (fun hc => absurd hc (by decide)) (fun _ => ?_)
            refine lv_aload_n hx hb dX5_mayGoOn_27 rfl (lv_at hl 3 rfl) ?_
            refine va_get (D := D) (ci := 6) (v := .ref (ma 2)) (C := RX5) (T := TX5) (N := 29) hx hb hts in_X5_mayGoOn_X5 hown hK hP 2 rfl rfl 2 (by decide) w_1 (fun _ h9 => h9) rfl dX5_mayGoOn_28 ?_
            refine lv_aload_n hx hb dX5_mayGoOn_31 rfl (lv_at hl 3 rfl) ?_
            refine va_get (D := D) (ci := 6) (v := .ref (ma 28)) (C := RX5) (T := TX5) (N := 29) hx hb hts in_X5_mayGoOn_X5 hown hK hP 2 rfl rfl 28 (by decide) w_0 (fun _ h9 => h9) rfl dX5_mayGoOn_32 ?_
            refine lv_iload_n hx hb dX5_mayGoOn_35 rfl (lv_at hl 0 rfl) ?_
            refine va_iald hx hb hK hP 3 0 rfl rfl (by unfold vp_in; decide) dX5_mayGoOn_36 ?_
            refine lv_topi (fun z_645 ez_645 => ?_)
            have fz_645 : z_645 = 0 := ez_645.trans (by rw [show (4 : Int32).toNatClampNeg = 4 by decide, haf 4 (by decide), hb4] <;> rfl)
            subst fz_645
            refine va_iald hx hb hK hP 4 0 rfl rfl (by unfold vp_in; decide) dX5_mayGoOn_37 ?_
            refine lv_topi (fun z_646 ez_646 => ?_)
            have fz_646 : z_646 = 0 := ez_646.trans (rfl)
            subst fz_646
            refine lv_aload_n hx hb dX5_mayGoOn_38 rfl (lv_at hl 3 rfl) ?_
            refine va_get (D := D) (ci := 6) (v := .ref (ma 2)) (C := RX5) (T := TX5) (N := 29) hx hb hts in_X5_mayGoOn_X5 hown hK hP 2 rfl rfl 2 (by decide) w_1 (fun _ h9 => h9) rfl dX5_mayGoOn_39 ?_
            refine lv_iload_n hx hb dX5_mayGoOn_42 rfl (lv_at hl 2 rfl) ?_
            refine va_iald hx hb hK hP 4 0 rfl rfl (by unfold vp_in; decide) dX5_mayGoOn_43 ?_
            refine lv_topi (fun z_647 ez_647 => ?_)
            have fz_647 : z_647 = 0 := ez_647.trans (rfl)
            subst fz_647
            refine lv_icmp_ne (tgt := 65) hx hb dX5_mayGoOn_44 (by decide) (fun hc => absurd (by decide) hc) (fun _ => ?_)
            refine lv_iload_n hx hb dX5_mayGoOn_47 rfl (lv_at hl 1 rfl) ?_
            refine lv_iload_n hx hb dX5_mayGoOn_48 rfl (lv_at hl 0 rfl) ?_
            refine lv_aload_n hx hb dX5_mayGoOn_49 rfl (lv_at hl 3 rfl) ?_
            refine va_get (D := D) (ci := 6) (v := .ref (ma 7)) (C := RX5) (T := TX5) (N := 29) hx hb hts in_X5_mayGoOn_X5 hown hK hP 2 rfl rfl 7 (by decide) w_2 (fun _ h9 => h9) rfl dX5_mayGoOn_50 ?_
            refine lv_iload_n hx hb dX5_mayGoOn_53 rfl (lv_at hl 2 rfl) ?_
            refine va_iald hx hb hK hP 0 0 rfl rfl (by unfold vp_in; decide) dX5_mayGoOn_54 ?_
            refine lv_topi (fun z_648 ez_648 => ?_)
            have fz_648 : z_648 = 0 := ez_648.trans (rfl)
            subst fz_648
            refine lv_icmp_ne (tgt := 62) hx hb dX5_mayGoOn_55 (by decide) (fun _ => ?_) (fun hc => absurd hc (by decide))
            refine lv_iconst (v := 2) hx hb dX5_mayGoOn_62 (by decide) ?_
            refine lv_iadd hx hb dX5_mayGoOn_63 ?_
            refine lv_topi (fun z_649 ez_649 => ?_)
            have fz_649 : z_649 = 11 := ez_649.trans (by decide)
            subst fz_649
            refine lv_istore_n (lv' := [(2, .int 11), (3, .int 4), (1, .int 0), (0, .ref mo)]) hx hb dX5_mayGoOn_64 rfl hl (by decide) rfl (fun ls hl => ?_)
            refine lv_iinc (v := 5) (lv' := [(3, .int 5), (2, .int 11), (1, .int 0), (0, .ref mo)]) hx hb dX5_mayGoOn_65 hl (k := 1) rfl (by decide) (by decide) rfl (fun ls hl => ?_)
            refine lv_goto (tgt := 9) hx hb dX5_mayGoOn_68 (by decide) ?_
            refine lv_iload_n hx hb dX5_mayGoOn_9 rfl (lv_at hl 0 rfl) ?_
            refine lv_iconst (v := 5) hx hb dX5_mayGoOn_10 (by decide) ?_
            refine lv_icmp_ge (tgt := 71) hx hb dX5_mayGoOn_11 (by decide) (fun _ => ?_) (fun hc => absurd (by decide) hc)
            refine lv_iload_n hx hb dX5_mayGoOn_71 rfl (lv_at hl 2 rfl) ?_
            refine lv_if_lt (tgt := 89) hx hb dX5_mayGoOn_72 (by decide) (fun hc => absurd hc (by decide)) (fun _ => ?_)
            refine lv_iload_n hx hb dX5_mayGoOn_75 rfl (lv_at hl 1 rfl) ?_
            refine lv_aload_n hx hb dX5_mayGoOn_76 rfl (lv_at hl 3 rfl) ?_
            refine va_get (D := D) (ci := 6) (v := .ref (ma 6)) (C := RX5) (T := TX5) (N := 29) hx hb hts in_X5_mayGoOn_X5 hown hK hP 2 rfl rfl 6 (by decide) w_3 (fun _ h9 => h9) rfl dX5_mayGoOn_77 ?_
            refine lv_iload_n hx hb dX5_mayGoOn_80 rfl (lv_at hl 2 rfl) ?_
            refine va_iald hx hb hK hP 1 0 rfl rfl (by unfold vp_in; decide) dX5_mayGoOn_81 ?_
            refine lv_topi (fun z_650 ez_650 => ?_)
            have fz_650 : z_650 = 5 := ez_650.trans (hzf)
            subst fz_650
            refine lv_icmp_le (tgt := 89) hx hb dX5_mayGoOn_82 (by decide) (fun hc => absurd hc (by decide)) (fun _ => ?_)
            refine lv_iconst (v := 1) hx hb dX5_mayGoOn_85 (by decide) ?_
            refine lv_goto (tgt := 90) hx hb dX5_mayGoOn_86 (by decide) ?_
            have hP9 := hP.sub (ws' := [(mo, .inr (6, [.int th, .int 1, .ref (ma 2), .ref (ma 3), .ref (ma 4), .ref (ma 5), .ref (ma 6), .ref (ma 7), .ref (ma 8), .ref (ma 9), .ref (ma 10), .ref (ma 11), .ref (ma 12), .ref (ma 13), .ref (ma 14), .ref (ma 15), .ref (ma 16), .ref (ma 17), .ref (ma 18), .ref (ma 19), .ref (ma 20), .ref (ma 21), .int 0, .ref (ma 23), .ref (ma 24), .ref (ma 25), .ref (ma 26), .ref (ma 27), .ref (ma 28)])), ((ma 28), wI tC 5 af), ((ma 2), wI tC 600 (fun _ => 0)), ((ma 7), wI tC 600 (fun _ => 0)), ((ma 6), wI tC 600 zf)]) [2, 3, 4, 0, 1] rfl
            have hD9 := hD.sub (ws' := [(mo, .inr (6, [.int th, .int 1, .ref (ma 2), .ref (ma 3), .ref (ma 4), .ref (ma 5), .ref (ma 6), .ref (ma 7), .ref (ma 8), .ref (ma 9), .ref (ma 10), .ref (ma 11), .ref (ma 12), .ref (ma 13), .ref (ma 14), .ref (ma 15), .ref (ma 16), .ref (ma 17), .ref (ma 18), .ref (ma 19), .ref (ma 20), .ref (ma 21), .int 0, .ref (ma 23), .ref (ma 24), .ref (ma 25), .ref (ma 26), .ref (ma 27), .ref (ma 28)])), ((ma 28), wI tC 5 af), ((ma 2), wI tC 600 (fun _ => 0)), ((ma 7), wI tC 600 (fun _ => 0)), ((ma 6), wI tC 600 zf)]) [2, 3, 4, 0, 1] (by decide) rfl
            refine W.widen (k := 0) (n := 0) (by omega) (by omega) ?_
            exact W.zret (v := 1) hx hb hr (by decide) (fun t ht hW => ⟨⟨1, (), rfl, (by unfold mayg cntb; rw [hb0, hb1, hb2, hb3, hb4] <;> decide), (by rw [ht]; exact hP9), va_K.moved hW.alike hK, hD9⟩, hS.F ht⟩) hS.2.2 dX5_mayGoOn_90 hlocks
