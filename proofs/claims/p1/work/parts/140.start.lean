set_option maxRecDepth 100000 in
theorem dL_law_0 : decode cL_law 0 = .ok (.new 8, 3) := by decide +kernel
set_option maxRecDepth 100000 in
theorem dL_law_3 : decode cL_law 3 = .ok (.dup, 1) := by decide +kernel
set_option maxRecDepth 100000 in
theorem dL_law_4 : decode cL_law 4 = .ok (.invokespecial 85, 3) := by decide +kernel
set_option maxRecDepth 20000 in
theorem ggL_law_X4_init : GoodIn wsL_law wsX4_init := goodIn_r _ [9, 10, 11, 12, 13, 14, 15, 16, 17, 18, 19, 20, 21, 22, 23, 24, 25, 26, 27, 28, 29, 30, 31, 32, 33, 34, 35, 36, 37, 38, 39, 40, 41, 42, 43, 44, 45, 46, 47, 48, 49, 50, 51, 52, 53, 54, 55, 56, 57, 58, 59, 707, 708, 709, 710, 740, 741, 742, 743, 744, 745, 746, 747, 748, 749, 750, 751, 752, 753, 754] (by decide +kernel) (by decide +kernel)
set_option maxRecDepth 20000 in
theorem gL_law_X4_init : GoodIn wsL_law (wsX4_init) := ggL_law_X4_init
set_option maxRecDepth 100000 in
theorem dL_law_7 : decode cL_law 7 = .ok (.astore_n 1, 1) := by decide +kernel
set_option maxRecDepth 100000 in
theorem dL_law_8 : decode cL_law 8 = .ok (.new 86, 3) := by decide +kernel
set_option maxRecDepth 100000 in
theorem dL_law_11 : decode cL_law 11 = .ok (.dup, 1) := by decide +kernel
set_option maxRecDepth 100000 in
theorem dL_law_12 : decode cL_law 12 = .ok (.invokespecial 88, 3) := by decide +kernel
set_option maxRecDepth 20000 in
theorem ggL_law_X5_init : GoodIn wsL_law wsX5_init := goodIn_r _ [62, 63, 11, 12, 64, 15, 65, 66, 67, 68, 69, 70, 71, 72, 73, 74, 75, 76, 77, 78, 79, 80, 81, 82, 83, 84, 85, 86, 87, 88, 89, 90, 91, 711, 712, 713, 714, 715, 716, 717, 718, 719, 720, 721, 722, 723, 724, 725, 726, 727, 728, 729, 730, 731, 732, 733, 734, 735, 736, 737, 738, 739] (by decide +kernel) (by decide +kernel)
set_option maxRecDepth 20000 in
theorem gL_law_X5_init : GoodIn wsL_law (wsX5_init) := ggL_law_X5_init
set_option maxRecDepth 100000 in
theorem dL_law_15 : decode cL_law 15 = .ok (.astore_n 2, 1) := by decide +kernel
set_option maxRecDepth 100000 in
theorem dL_law_16 : decode cL_law 16 = .ok (.iconst 1, 1) := by decide +kernel
set_option maxRecDepth 100000 in
theorem dL_law_17 : decode cL_law 17 = .ok (.newarray .long, 2) := by decide +kernel
set_option maxRecDepth 100000 in
theorem dL_law_19 : decode cL_law 19 = .ok (.astore_n 3, 1) := by decide +kernel
set_option maxRecDepth 100000 in
theorem dL_law_20 : decode cL_law 20 = .ok (.iconst 0, 1) := by decide +kernel
set_option maxRecDepth 100000 in
theorem dL_law_21 : decode cL_law 21 = .ok (.istore 4, 2) := by decide +kernel
set_option maxRecDepth 100000 in
theorem dL_law_32 : decode cL_law 32 = .ok (.aload_n 0, 1) := by decide +kernel
set_option maxRecDepth 100000 in
theorem dL_law_33 : decode cL_law 33 = .ok (.iload 4, 2) := by decide +kernel
set_option maxRecDepth 100000 in
theorem dL_law_35 : decode cL_law 35 = .ok (.iaload, 1) := by decide +kernel
set_option maxRecDepth 100000 in
theorem dL_law_36 : decode cL_law 36 = .ok (.bipush 31, 2) := by decide +kernel
set_option maxRecDepth 100000 in
theorem dL_law_38 : decode cL_law 38 = .ok (.iand, 1) := by decide +kernel
set_option maxRecDepth 100000 in
theorem dL_law_39 : decode cL_law 39 = .ok (.tableswitch 1293 0 19 #[93, 196, 288, 356, 419, 455, 511, 547, 595, 658, 721, 734, 790, 826, 862, 930, 986, 1082, 1150, 1213], 93) := by decide +kernel
set_option maxHeartbeats 8000000 in
set_option maxRecDepth 100000 in
theorem whole_start {p : Program} {e : Env} {s : State} {m : MethodId} {below : List Frame} {meth : Method} {c : Code} (l : Launch) (hlt : l.stackTraces = false) {b L : Nat} {xs : Nat → Int32} (hL : L ≤ 5) (C0 : lw_At p s m meth c b L xs) : W p l e room_1 s m #[Value.ref b] below meth c s.heap [] 0 0 (lw_Z below #[Value.ref b] s) (entryFrame m ([Value.ref b] : List Value).toArray 7) := by
  have C9 := C0
  obtain ⟨hx, hb, hr, hml, hown, hts0, hX, hbl, hlocks, hgv⟩ := C0
  have hts : ∀ w ∈ wsL_law, w.before #[Value.ref b] s = true := fun w h => hts0 w (wsL_law_in w h)
  have hown : s.vm.findClass RL = some m.cls := hown
  obtain ⟨D, tC, hK⟩ := K_start hts0
  have hN := eN_start hts0 hgv
  obtain ⟨dz, hE⟩ := eH_start hts0 hgv
  obtain ⟨A, hAe⟩ : ∃ A : Nat → Prop, A = fun q : Nat => s.heap.size ≤ q := ⟨_, rfl⟩
  rw [← hAe] at hE
  have hA : ∀ q : Nat, s.heap.size ≤ q → A q := fun q h => by rw [hAe]; exact h
  have hbA : ¬ A b := by rw [hAe]; exact Nat.not_le.mpr hbl
  have hS : va_S A s.heap s.heap [] := va_S.rf
  have hP : va_P D vwCl [] s.heap := nilP
  have hD : va_D A [] := nilD
  have hl := lv_entry ([.ref b]) (n := 7) (Nat.le_of_ble_eq_true rfl)
  rw [lg_entry_eq]
  generalize (lg_sl ([.ref b]) ++ List.replicate (7 - (lg_sl ([.ref b])).length) Slot.unset).toArray = ls at hl ⊢
  have hl : lv_has ls 7 [(0, .ref b)] := hl
  have w_0 := hts (.classLink RL 8 RX4) (by decide +kernel)
  have w_1 := hts (.instantiable RX4 4) (by decide +kernel)
  have w_2 := hts (.initialized RX4) (by decide +kernel)
  have w_3 := hts (.methodLink RL 85 yX4_init) (by decide +kernel)
  have w_4 := hts (.instanceMethod yX4_init) (by decide +kernel)
  have w_5 := hts (.classLink RL 86 RX5) (by decide +kernel)
  have w_6 := hts (.instantiable RX5 29) (by decide +kernel)
  have w_7 := hts (.initialized RX5) (by decide +kernel)
  have w_8 := hts (.methodLink RL 88 yX5_init) (by decide +kernel)
  have w_9 := hts (.instanceMethod yX5_init) (by decide +kernel)
  have w_10 := hts (.arrayClass .long) (by decide +kernel)
  refine va_new (ci := 5) (fs := [.null, .null, .null, .null]) (C := RX4) (T := TX4) (N := 4) hx hb hts inlX4 tyX4 tyX4_ok hown w_0 w_1 w_2 hK hP hD hS hA rfl (by decide +kernel) (Nat.le_of_ble_eq_true rfl) (Nat.le_of_ble_eq_true rfl) dL_law_0 (fun x H hP hD hS => ?_)
  have hP : va_P D vwCl [(x, .inr (5, [.null, .null, .null, .null]))] H := hP
  have hD : va_D A [(x, .inr (5, [.null, .null, .null, .null]))] := hD
  refine W.widen (k := 1) (n := 4) (by omega) (by omega) ?_
  refine lv_dup hx hb dL_law_3 rfl ?_
  have hPc := hP.sub (ws' := [(x, .inr (5, [.null, .null, .null, .null]))]) [0] rfl
  have hDc := hD.sub (ws' := [(x, .inr (5, [.null, .null, .null, .null]))]) [0] (by decide) rfl
  have hFc := va_free (wc := [(x, .inr (5, [.null, .null, .null, .null]))]) hD hS hA [0] rfl
  refine va_callv (va_runI (As := []) (rest := [.ref x]) ⟨hx, hb, hml, hown, hts⟩ (c_X4_init l hlt D tC dz H.size x ) (cwI 0 hts gL_law_X4_init rfl rfl rfl w_2 w_3 w_4 rfl (by decide +kernel) ⟨Nat.le_of_ble_eq_true rfl, Nat.le_of_ble_eq_true rfl⟩) ⟨pB_blind, pB_at hPc hDc hK hN hE hS hFc⟩ rfl rfl hl.1 rfl (lv_room (Nat.le_of_ble_eq_true rfl)) dL_law_4 ⟨Nat.le_of_ble_eq_true rfl, Nat.le_of_ble_eq_true rfl⟩) hS (fun q _ h => hFc q h) hFc (fun u t H1 locs ht hvm hw hB hz1 hk1 hS => ?_)
  obtain ⟨a1_2, a2_3, a3_4, a4_5, f_6, e1_7, e2_8, qs_9, fs_10, cb_11, k_12, k_13, hP1, _, hD1⟩ := hB
  have hw_14 := hw
  rw [ht] at hP1
  obtain ⟨hP, hD⟩ := va_join (wr := []) (w1 := [(x, .inr (5, [.ref a1_2, .ref a2_3, .ref a3_4, .ref a4_5])), (a1_2, wT tC 5 fs_10), (a2_3, wI tC 5 cb_11), (a3_4, .inr (0, [.int 0, .ref dz, .int 0])), (a4_5, wS tC 5 (fun _ => none)), (f_6, .inr (3, [.ref e1_7, .ref e2_8, .int 5, .int 0])), (e1_7, wI tC 0 (fun _ => 0)), ((qs_9 0), .inr (4, [.int 0, .int 1, .ref f_6, .int 0, .int (-1), .null, .int (-1), .null])), ((qs_9 1), .inr (4, [.int 1, .int 1, .ref f_6, .int 0, .int (-1), .null, .int (-1), .null])), ((qs_9 2), .inr (4, [.int 2, .int 1, .ref f_6, .int 0, .int (-1), .null, .int (-1), .null])), ((qs_9 3), .inr (4, [.int 3, .int 1, .ref f_6, .int 0, .int (-1), .null, .int (-1), .null])), ((qs_9 4), .inr (4, [.int 4, .int 1, .ref f_6, .int 0, .int (-1), .null, .int (-1), .null]))]) hP hD [0] [] rfl rfl (by decide) (by decide) hk1 hFc hP1 hD1
  generalize H1 = H at hP hS ⊢
  have hP : va_P D vwCl [(x, .inr (5, [.ref a1_2, .ref a2_3, .ref a3_4, .ref a4_5])), (a1_2, wT tC 5 fs_10), (a2_3, wI tC 5 cb_11), (a3_4, .inr (0, [.int 0, .ref dz, .int 0])), (a4_5, wS tC 5 (fun _ => none)), (f_6, .inr (3, [.ref e1_7, .ref e2_8, .int 5, .int 0])), (e1_7, wI tC 0 (fun _ => 0)), ((qs_9 0), .inr (4, [.int 0, .int 1, .ref f_6, .int 0, .int (-1), .null, .int (-1), .null])), ((qs_9 1), .inr (4, [.int 1, .int 1, .ref f_6, .int 0, .int (-1), .null, .int (-1), .null])), ((qs_9 2), .inr (4, [.int 2, .int 1, .ref f_6, .int 0, .int (-1), .null, .int (-1), .null])), ((qs_9 3), .inr (4, [.int 3, .int 1, .ref f_6, .int 0, .int (-1), .null, .int (-1), .null])), ((qs_9 4), .inr (4, [.int 4, .int 1, .ref f_6, .int 0, .int (-1), .null, .int (-1), .null]))] H := hP
  have hD : va_D A [(x, .inr (5, [.ref a1_2, .ref a2_3, .ref a3_4, .ref a4_5])), (a1_2, wT tC 5 fs_10), (a2_3, wI tC 5 cb_11), (a3_4, .inr (0, [.int 0, .ref dz, .int 0])), (a4_5, wS tC 5 (fun _ => none)), (f_6, .inr (3, [.ref e1_7, .ref e2_8, .int 5, .int 0])), (e1_7, wI tC 0 (fun _ => 0)), ((qs_9 0), .inr (4, [.int 0, .int 1, .ref f_6, .int 0, .int (-1), .null, .int (-1), .null])), ((qs_9 1), .inr (4, [.int 1, .int 1, .ref f_6, .int 0, .int (-1), .null, .int (-1), .null])), ((qs_9 2), .inr (4, [.int 2, .int 1, .ref f_6, .int 0, .int (-1), .null, .int (-1), .null])), ((qs_9 3), .inr (4, [.int 3, .int 1, .ref f_6, .int 0, .int (-1), .null, .int (-1), .null])), ((qs_9 4), .inr (4, [.int 4, .int 1, .ref f_6, .int 0, .int (-1), .null, .int (-1), .null]))] := hD
  refine W.widen (k := 13) (n := 66) (by omega) (by omega) ?_
  refine lv_astore_n (lv' := [(1, .ref x), (0, .ref b)]) hx hb dL_law_7 rfl hl (by decide) rfl (fun ls hl => ?_)
  refine va_new (ci := 6) (fs := [.int 0, .int 0, .null, .null, .null, .null, .null, .null, .null, .null, .null, .null, .null, .null, .null, .null, .null, .null, .null, .null, .null, .null, .int 0, .null, .null, .null, .null, .null, .null]) (C := RX5) (T := TX5) (N := 29) hx hb hts inlX5 tyX5 tyX5_ok hown w_5 w_6 w_7 hK hP hD hS hA rfl (by decide +kernel) (Nat.le_of_ble_eq_true rfl) (Nat.le_of_ble_eq_true rfl) dL_law_8 (fun mo H hP hD hS => ?_)
  have hP : va_P D vwCl [(x, .inr (5, [.ref a1_2, .ref a2_3, .ref a3_4, .ref a4_5])), (a1_2, wT tC 5 fs_10), (a2_3, wI tC 5 cb_11), (a3_4, .inr (0, [.int 0, .ref dz, .int 0])), (a4_5, wS tC 5 (fun _ => none)), (f_6, .inr (3, [.ref e1_7, .ref e2_8, .int 5, .int 0])), (e1_7, wI tC 0 (fun _ => 0)), ((qs_9 0), .inr (4, [.int 0, .int 1, .ref f_6, .int 0, .int (-1), .null, .int (-1), .null])), ((qs_9 1), .inr (4, [.int 1, .int 1, .ref f_6, .int 0, .int (-1), .null, .int (-1), .null])), ((qs_9 2), .inr (4, [.int 2, .int 1, .ref f_6, .int 0, .int (-1), .null, .int (-1), .null])), ((qs_9 3), .inr (4, [.int 3, .int 1, .ref f_6, .int 0, .int (-1), .null, .int (-1), .null])), ((qs_9 4), .inr (4, [.int 4, .int 1, .ref f_6, .int 0, .int (-1), .null, .int (-1), .null])), (mo, .inr (6, [.int 0, .int 0, .null, .null, .null, .null, .null, .null, .null, .null, .null, .null, .null, .null, .null, .null, .null, .null, .null, .null, .null, .null, .int 0, .null, .null, .null, .null, .null, .null]))] H := hP
  have hD : va_D A [(x, .inr (5, [.ref a1_2, .ref a2_3, .ref a3_4, .ref a4_5])), (a1_2, wT tC 5 fs_10), (a2_3, wI tC 5 cb_11), (a3_4, .inr (0, [.int 0, .ref dz, .int 0])), (a4_5, wS tC 5 (fun _ => none)), (f_6, .inr (3, [.ref e1_7, .ref e2_8, .int 5, .int 0])), (e1_7, wI tC 0 (fun _ => 0)), ((qs_9 0), .inr (4, [.int 0, .int 1, .ref f_6, .int 0, .int (-1), .null, .int (-1), .null])), ((qs_9 1), .inr (4, [.int 1, .int 1, .ref f_6, .int 0, .int (-1), .null, .int (-1), .null])), ((qs_9 2), .inr (4, [.int 2, .int 1, .ref f_6, .int 0, .int (-1), .null, .int (-1), .null])), ((qs_9 3), .inr (4, [.int 3, .int 1, .ref f_6, .int 0, .int (-1), .null, .int (-1), .null])), ((qs_9 4), .inr (4, [.int 4, .int 1, .ref f_6, .int 0, .int (-1), .null, .int (-1), .null])), (mo, .inr (6, [.int 0, .int 0, .null, .null, .null, .null, .null, .null, .null, .null, .null, .null, .null, .null, .null, .null, .null, .null, .null, .null, .null, .null, .int 0, .null, .null, .null, .null, .null, .null]))] := hD
  refine W.widen (k := 14) (n := 95) (by omega) (by omega) ?_
  refine lv_dup hx hb dL_law_11 rfl ?_
  have hPc := hP.sub (ws' := [(mo, .inr (6, [.int 0, .int 0, .null, .null, .null, .null, .null, .null, .null, .null, .null, .null, .null, .null, .null, .null, .null, .null, .null, .null, .null, .null, .int 0, .null, .null, .null, .null, .null, .null]))]) [12] rfl
  have hDc := hD.sub (ws' := [(mo, .inr (6, [.int 0, .int 0, .null, .null, .null, .null, .null, .null, .null, .null, .null, .null, .null, .null, .null, .null, .null, .null, .null, .null, .null, .null, .int 0, .null, .null, .null, .null, .null, .null]))]) [12] (by decide) rfl
  have hFc := va_free (wc := [(mo, .inr (6, [.int 0, .int 0, .null, .null, .null, .null, .null, .null, .null, .null, .null, .null, .null, .null, .null, .null, .null, .null, .null, .null, .null, .null, .int 0, .null, .null, .null, .null, .null, .null]))]) hD hS hA [12] rfl
  refine va_callv (va_runI (As := []) (rest := [.ref mo]) ⟨hx, hb, hml, hown, hts⟩ (c_X5_init l hlt D tC dz H.size mo ) (cwI 0 hts gL_law_X5_init rfl rfl rfl w_7 w_8 w_9 rfl (by decide +kernel) ⟨Nat.le_of_ble_eq_true rfl, Nat.le_of_ble_eq_true rfl⟩) ⟨pB_blind, pB_at hPc hDc hK hN hE hS hFc⟩ rfl rfl hl.1 rfl (lv_room (Nat.le_of_ble_eq_true rfl)) dL_law_12 ⟨Nat.le_of_ble_eq_true rfl, Nat.le_of_ble_eq_true rfl⟩) hS (fun q _ h => hFc q h) hFc (fun u t H1 locs ht hvm hw hB hz1 hk1 hS => ?_)
  obtain ⟨ma_16, pf_17, lf_18, op_19, zf_20, k_21, k_22, k_23, k_24, hP1, _, hD1⟩ := hB
  have hw_25 := hw
  rw [ht] at hP1
  obtain ⟨hP, hD⟩ := va_join (wr := [(x, .inr (5, [.ref a1_2, .ref a2_3, .ref a3_4, .ref a4_5])), (a1_2, wT tC 5 fs_10), (a2_3, wI tC 5 cb_11), (a3_4, .inr (0, [.int 0, .ref dz, .int 0])), (a4_5, wS tC 5 (fun _ => none)), (f_6, .inr (3, [.ref e1_7, .ref e2_8, .int 5, .int 0])), (e1_7, wI tC 0 (fun _ => 0)), ((qs_9 0), .inr (4, [.int 0, .int 1, .ref f_6, .int 0, .int (-1), .null, .int (-1), .null])), ((qs_9 1), .inr (4, [.int 1, .int 1, .ref f_6, .int 0, .int (-1), .null, .int (-1), .null])), ((qs_9 2), .inr (4, [.int 2, .int 1, .ref f_6, .int 0, .int (-1), .null, .int (-1), .null])), ((qs_9 3), .inr (4, [.int 3, .int 1, .ref f_6, .int 0, .int (-1), .null, .int (-1), .null])), ((qs_9 4), .inr (4, [.int 4, .int 1, .ref f_6, .int 0, .int (-1), .null, .int (-1), .null]))]) (w1 := [(mo, .inr (6, [.int 0, .int 1, .ref (ma_16 2), .ref (ma_16 3), .ref (ma_16 4), .ref (ma_16 5), .ref (ma_16 6), .ref (ma_16 7), .ref (ma_16 8), .ref (ma_16 9), .ref (ma_16 10), .ref (ma_16 11), .ref (ma_16 12), .ref (ma_16 13), .ref (ma_16 14), .ref (ma_16 15), .ref (ma_16 16), .ref (ma_16 17), .ref (ma_16 18), .ref (ma_16 19), .ref (ma_16 20), .ref (ma_16 21), .int 0, .ref (ma_16 23), .ref (ma_16 24), .ref (ma_16 25), .ref (ma_16 26), .ref (ma_16 27), .ref (ma_16 28)])), ((ma_16 2), wI tC 600 (fun _ => 0)), ((ma_16 6), wI tC 600 zf_20), ((ma_16 7), wI tC 600 (fun _ => 0)), ((ma_16 8), wI tC 5 (fun _ => 0)), ((ma_16 9), wI tC 5 (fun _ => 0)), ((ma_16 10), wI tC 5 pf_17), ((ma_16 12), wZ tC 5 (fun _ => 0)), ((ma_16 13), wI tC 5 lf_18), ((ma_16 14), wI tC 5 op_19), ((ma_16 15), wI tC 5 (fun _ => 0)), ((ma_16 16), wI tC 5 (fun _ => 0)), ((ma_16 18), wI tC 5 (fun _ => 0)), ((ma_16 19), wI tC 25 (fun _ => 0)), ((ma_16 20), wZ tC 25 (fun _ => 0)), ((ma_16 23), wI tC 41 (fun _ => 0)), ((ma_16 24), wI tC 41 (fun _ => 0)), ((ma_16 25), wI tC 41 (fun _ => 0)), ((ma_16 26), wI tC 41 (fun _ => 0)), ((ma_16 27), wI tC 41 (fun _ => 0)), ((ma_16 28), wI tC 5 (fun _ => 0))]) hP hD [12] [0, 1, 2, 3, 4, 5, 6, 7, 8, 9, 10, 11] rfl rfl (by decide) (by decide) hk1 hFc hP1 hD1
  generalize H1 = H at hP hS ⊢
  have hP : va_P D vwCl [(x, .inr (5, [.ref a1_2, .ref a2_3, .ref a3_4, .ref a4_5])), (a1_2, wT tC 5 fs_10), (a2_3, wI tC 5 cb_11), (a3_4, .inr (0, [.int 0, .ref dz, .int 0])), (a4_5, wS tC 5 (fun _ => none)), (f_6, .inr (3, [.ref e1_7, .ref e2_8, .int 5, .int 0])), (e1_7, wI tC 0 (fun _ => 0)), ((qs_9 0), .inr (4, [.int 0, .int 1, .ref f_6, .int 0, .int (-1), .null, .int (-1), .null])), ((qs_9 1), .inr (4, [.int 1, .int 1, .ref f_6, .int 0, .int (-1), .null, .int (-1), .null])), ((qs_9 2), .inr (4, [.int 2, .int 1, .ref f_6, .int 0, .int (-1), .null, .int (-1), .null])), ((qs_9 3), .inr (4, [.int 3, .int 1, .ref f_6, .int 0, .int (-1), .null, .int (-1), .null])), ((qs_9 4), .inr (4, [.int 4, .int 1, .ref f_6, .int 0, .int (-1), .null, .int (-1), .null])), (mo, .inr (6, [.int 0, .int 1, .ref (ma_16 2), .ref (ma_16 3), .ref (ma_16 4), .ref (ma_16 5), .ref (ma_16 6), .ref (ma_16 7), .ref (ma_16 8), .ref (ma_16 9), .ref (ma_16 10), .ref (ma_16 11), .ref (ma_16 12), .ref (ma_16 13), .ref (ma_16 14), .ref (ma_16 15), .ref (ma_16 16), .ref (ma_16 17), .ref (ma_16 18), .ref (ma_16 19), .ref (ma_16 20), .ref (ma_16 21), .int 0, .ref (ma_16 23), .ref (ma_16 24), .ref (ma_16 25), .ref (ma_16 26), .ref (ma_16 27), .ref (ma_16 28)])), ((ma_16 2), wI tC 600 (fun _ => 0)), ((ma_16 6), wI tC 600 zf_20), ((ma_16 7), wI tC 600 (fun _ => 0)), ((ma_16 8), wI tC 5 (fun _ => 0)), ((ma_16 9), wI tC 5 (fun _ => 0)), ((ma_16 10), wI tC 5 pf_17), ((ma_16 12), wZ tC 5 (fun _ => 0)), ((ma_16 13), wI tC 5 lf_18), ((ma_16 14), wI tC 5 op_19), ((ma_16 15), wI tC 5 (fun _ => 0)), ((ma_16 16), wI tC 5 (fun _ => 0)), ((ma_16 18), wI tC 5 (fun _ => 0)), ((ma_16 19), wI tC 25 (fun _ => 0)), ((ma_16 20), wZ tC 25 (fun _ => 0)), ((ma_16 23), wI tC 41 (fun _ => 0)), ((ma_16 24), wI tC 41 (fun _ => 0)), ((ma_16 25), wI tC 41 (fun _ => 0)), ((ma_16 26), wI tC 41 (fun _ => 0)), ((ma_16 27), wI tC 41 (fun _ => 0)), ((ma_16 28), wI tC 5 (fun _ => 0))] H := hP
  have hD : va_D A [(x, .inr (5, [.ref a1_2, .ref a2_3, .ref a3_4, .ref a4_5])), (a1_2, wT tC 5 fs_10), (a2_3, wI tC 5 cb_11), (a3_4, .inr (0, [.int 0, .ref dz, .int 0])), (a4_5, wS tC 5 (fun _ => none)), (f_6, .inr (3, [.ref e1_7, .ref e2_8, .int 5, .int 0])), (e1_7, wI tC 0 (fun _ => 0)), ((qs_9 0), .inr (4, [.int 0, .int 1, .ref f_6, .int 0, .int (-1), .null, .int (-1), .null])), ((qs_9 1), .inr (4, [.int 1, .int 1, .ref f_6, .int 0, .int (-1), .null, .int (-1), .null])), ((qs_9 2), .inr (4, [.int 2, .int 1, .ref f_6, .int 0, .int (-1), .null, .int (-1), .null])), ((qs_9 3), .inr (4, [.int 3, .int 1, .ref f_6, .int 0, .int (-1), .null, .int (-1), .null])), ((qs_9 4), .inr (4, [.int 4, .int 1, .ref f_6, .int 0, .int (-1), .null, .int (-1), .null])), (mo, .inr (6, [.int 0, .int 1, .ref (ma_16 2), .ref (ma_16 3), .ref (ma_16 4), .ref (ma_16 5), .ref (ma_16 6), .ref (ma_16 7), .ref (ma_16 8), .ref (ma_16 9), .ref (ma_16 10), .ref (ma_16 11), .ref (ma_16 12), .ref (ma_16 13), .ref (ma_16 14), .ref (ma_16 15), .ref (ma_16 16), .ref (ma_16 17), .ref (ma_16 18), .ref (ma_16 19), .ref (ma_16 20), .ref (ma_16 21), .int 0, .ref (ma_16 23), .ref (ma_16 24), .ref (ma_16 25), .ref (ma_16 26), .ref (ma_16 27), .ref (ma_16 28)])), ((ma_16 2), wI tC 600 (fun _ => 0)), ((ma_16 6), wI tC 600 zf_20), ((ma_16 7), wI tC 600 (fun _ => 0)), ((ma_16 8), wI tC 5 (fun _ => 0)), ((ma_16 9), wI tC 5 (fun _ => 0)), ((ma_16 10), wI tC 5 pf_17), ((ma_16 12), wZ tC 5 (fun _ => 0)), ((ma_16 13), wI tC 5 lf_18), ((ma_16 14), wI tC 5 op_19), ((ma_16 15), wI tC 5 (fun _ => 0)), ((ma_16 16), wI tC 5 (fun _ => 0)), ((ma_16 18), wI tC 5 (fun _ => 0)), ((ma_16 19), wI tC 25 (fun _ => 0)), ((ma_16 20), wZ tC 25 (fun _ => 0)), ((ma_16 23), wI tC 41 (fun _ => 0)), ((ma_16 24), wI tC 41 (fun _ => 0)), ((ma_16 25), wI tC 41 (fun _ => 0)), ((ma_16 26), wI tC 41 (fun _ => 0)), ((ma_16 27), wI tC 41 (fun _ => 0)), ((ma_16 28), wI tC 5 (fun _ => 0))] := hD
  refine W.widen (k := 40) (n := 4015) (by omega) (by omega) ?_
  refine lv_astore_n (lv' := [(2, .ref mo), (1, .ref x), (0, .ref b)]) hx hb dL_law_15 rfl hl (by decide) rfl (fun ls hl => ?_)
  refine lv_iconst (v := 1) hx hb dL_law_16 (by decide) ?_
  refine x_newa (N' := 1) (ty := .long) (a0 := (1, .inr (.inl (fun _ => 0)))) hx hb w_10 rfl hK hP hD hS hA (i := 5) rfl (fun cA => x_newL cA _) (by decide) (by decide) (by decide) (Nat.le_of_ble_eq_true rfl) (Nat.le_of_ble_eq_true rfl) dL_law_17 (fun o H hP hD hS => ?_)
  have hP : va_P D vwCl [(x, .inr (5, [.ref a1_2, .ref a2_3, .ref a3_4, .ref a4_5])), (a1_2, wT tC 5 fs_10), (a2_3, wI tC 5 cb_11), (a3_4, .inr (0, [.int 0, .ref dz, .int 0])), (a4_5, wS tC 5 (fun _ => none)), (f_6, .inr (3, [.ref e1_7, .ref e2_8, .int 5, .int 0])), (e1_7, wI tC 0 (fun _ => 0)), ((qs_9 0), .inr (4, [.int 0, .int 1, .ref f_6, .int 0, .int (-1), .null, .int (-1), .null])), ((qs_9 1), .inr (4, [.int 1, .int 1, .ref f_6, .int 0, .int (-1), .null, .int (-1), .null])), ((qs_9 2), .inr (4, [.int 2, .int 1, .ref f_6, .int 0, .int (-1), .null, .int (-1), .null])), ((qs_9 3), .inr (4, [.int 3, .int 1, .ref f_6, .int 0, .int (-1), .null, .int (-1), .null])), ((qs_9 4), .inr (4, [.int 4, .int 1, .ref f_6, .int 0, .int (-1), .null, .int (-1), .null])), (mo, .inr (6, [.int 0, .int 1, .ref (ma_16 2), .ref (ma_16 3), .ref (ma_16 4), .ref (ma_16 5), .ref (ma_16 6), .ref (ma_16 7), .ref (ma_16 8), .ref (ma_16 9), .ref (ma_16 10), .ref (ma_16 11), .ref (ma_16 12), .ref (ma_16 13), .ref (ma_16 14), .ref (ma_16 15), .ref (ma_16 16), .ref (ma_16 17), .ref (ma_16 18), .ref (ma_16 19), .ref (ma_16 20), .ref (ma_16 21), .int 0, .ref (ma_16 23), .ref (ma_16 24), .ref (ma_16 25), .ref (ma_16 26), .ref (ma_16 27), .ref (ma_16 28)])), ((ma_16 2), wI tC 600 (fun _ => 0)), ((ma_16 6), wI tC 600 zf_20), ((ma_16 7), wI tC 600 (fun _ => 0)), ((ma_16 8), wI tC 5 (fun _ => 0)), ((ma_16 9), wI tC 5 (fun _ => 0)), ((ma_16 10), wI tC 5 pf_17), ((ma_16 12), wZ tC 5 (fun _ => 0)), ((ma_16 13), wI tC 5 lf_18), ((ma_16 14), wI tC 5 op_19), ((ma_16 15), wI tC 5 (fun _ => 0)), ((ma_16 16), wI tC 5 (fun _ => 0)), ((ma_16 18), wI tC 5 (fun _ => 0)), ((ma_16 19), wI tC 25 (fun _ => 0)), ((ma_16 20), wZ tC 25 (fun _ => 0)), ((ma_16 23), wI tC 41 (fun _ => 0)), ((ma_16 24), wI tC 41 (fun _ => 0)), ((ma_16 25), wI tC 41 (fun _ => 0)), ((ma_16 26), wI tC 41 (fun _ => 0)), ((ma_16 27), wI tC 41 (fun _ => 0)), ((ma_16 28), wI tC 5 (fun _ => 0)), (o, wL tC 1 (fun _ => 0))] H := hP
  have hD : va_D A [(x, .inr (5, [.ref a1_2, .ref a2_3, .ref a3_4, .ref a4_5])), (a1_2, wT tC 5 fs_10), (a2_3, wI tC 5 cb_11), (a3_4, .inr (0, [.int 0, .ref dz, .int 0])), (a4_5, wS tC 5 (fun _ => none)), (f_6, .inr (3, [.ref e1_7, .ref e2_8, .int 5, .int 0])), (e1_7, wI tC 0 (fun _ => 0)), ((qs_9 0), .inr (4, [.int 0, .int 1, .ref f_6, .int 0, .int (-1), .null, .int (-1), .null])), ((qs_9 1), .inr (4, [.int 1, .int 1, .ref f_6, .int 0, .int (-1), .null, .int (-1), .null])), ((qs_9 2), .inr (4, [.int 2, .int 1, .ref f_6, .int 0, .int (-1), .null, .int (-1), .null])), ((qs_9 3), .inr (4, [.int 3, .int 1, .ref f_6, .int 0, .int (-1), .null, .int (-1), .null])), ((qs_9 4), .inr (4, [.int 4, .int 1, .ref f_6, .int 0, .int (-1), .null, .int (-1), .null])), (mo, .inr (6, [.int 0, .int 1, .ref (ma_16 2), .ref (ma_16 3), .ref (ma_16 4), .ref (ma_16 5), .ref (ma_16 6), .ref (ma_16 7), .ref (ma_16 8), .ref (ma_16 9), .ref (ma_16 10), .ref (ma_16 11), .ref (ma_16 12), .ref (ma_16 13), .ref (ma_16 14), .ref (ma_16 15), .ref (ma_16 16), .ref (ma_16 17), .ref (ma_16 18), .ref (ma_16 19), .ref (ma_16 20), .ref (ma_16 21), .int 0, .ref (ma_16 23), .ref (ma_16 24), .ref (ma_16 25), .ref (ma_16 26), .ref (ma_16 27), .ref (ma_16 28)])), ((ma_16 2), wI tC 600 (fun _ => 0)), ((ma_16 6), wI tC 600 zf_20), ((ma_16 7), wI tC 600 (fun _ => 0)), ((ma_16 8), wI tC 5 (fun _ => 0)), ((ma_16 9), wI tC 5 (fun _ => 0)), ((ma_16 10), wI tC 5 pf_17), ((ma_16 12), wZ tC 5 (fun _ => 0)), ((ma_16 13), wI tC 5 lf_18), ((ma_16 14), wI tC 5 op_19), ((ma_16 15), wI tC 5 (fun _ => 0)), ((ma_16 16), wI tC 5 (fun _ => 0)), ((ma_16 18), wI tC 5 (fun _ => 0)), ((ma_16 19), wI tC 25 (fun _ => 0)), ((ma_16 20), wZ tC 25 (fun _ => 0)), ((ma_16 23), wI tC 41 (fun _ => 0)), ((ma_16 24), wI tC 41 (fun _ => 0)), ((ma_16 25), wI tC 41 (fun _ => 0)), ((ma_16 26), wI tC 41 (fun _ => 0)), ((ma_16 27), wI tC 41 (fun _ => 0)), ((ma_16 28), wI tC 5 (fun _ => 0)), (o, wL tC 1 (fun _ => 0))] := hD
  refine W.widen (k := 41) (n := 4016) (by omega) (by omega) ?_
  refine lv_astore_n (lv' := [(3, .ref o), (2, .ref mo), (1, .ref x), (0, .ref b)]) hx hb dL_law_19 rfl hl (by decide) rfl (fun ls hl => ?_)
  refine lv_iconst (v := 0) hx hb dL_law_20 (by decide) ?_
  refine lv_istore (lv' := [(4, .int 0), (3, .ref o), (2, .ref mo), (1, .ref x), (0, .ref b)]) hx hb dL_law_21 hl (by decide) rfl (fun ls hl => ?_)
  rcases (show L = 0 ∨ L = 1 ∨ L = 2 ∨ L = 3 ∨ L = 4 ∨ L = 5 by omega) with rfl | rfl | rfl | rfl | rfl | rfl
  · skip
    refine lv_iload hx hb dL_law_23 (lv_at hl 0 rfl) ?_
    refine lv_aload_n hx hb dL_law_25 rfl (lv_at hl 4 rfl) ?_
    refine va_slen hx hb hX hbl hbA hS dL_law_26 ?_
    refine lv_topi (fun z_27 ez_27 => ?_)
    have fz_27 : z_27 = 0 := ez_27.trans (by decide)
    subst fz_27
    refine lv_iconst (v := 5) hx hb dL_law_27 (by decide) ?_
    refine lv_isub hx hb dL_law_28 ?_
    refine lv_topi (fun z_28 ez_28 => ?_)
    have fz_28 : z_28 = (-5) := ez_28.trans (by decide)
    subst fz_28
    refine lv_icmp_gt (tgt := 1338) hx hb dL_law_29 (by decide) (fun _ => ?_) (fun hc => absurd (by decide) hc)
    refine lv_iconst (v := 1) hx hb dL_law_1338 (by decide) ?_
    refine va_forget (fun q hq => by have h9 := hS.2.2 q hq; rw [hAe] at h9; exact h9) ?_
    refine W.widen (k := 600002) (n := 7302232) (by decide) (by decide) ?_
    exact lw_ret hx hb hr hlocks dL_law_1339
  · skip
    refine lv_iload hx hb dL_law_23 (lv_at hl 0 rfl) ?_
    refine lv_aload_n hx hb dL_law_25 rfl (lv_at hl 4 rfl) ?_
    refine va_slen hx hb hX hbl hbA hS dL_law_26 ?_
    refine lv_topi (fun z_29 ez_29 => ?_)
    have fz_29 : z_29 = 1 := ez_29.trans (by decide)
    subst fz_29
    refine lv_iconst (v := 5) hx hb dL_law_27 (by decide) ?_
    refine lv_isub hx hb dL_law_28 ?_
    refine lv_topi (fun z_30 ez_30 => ?_)
    have fz_30 : z_30 = (-4) := ez_30.trans (by decide)
    subst fz_30
    refine lv_icmp_gt (tgt := 1338) hx hb dL_law_29 (by decide) (fun _ => ?_) (fun hc => absurd (by decide) hc)
    refine lv_iconst (v := 1) hx hb dL_law_1338 (by decide) ?_
    refine va_forget (fun q hq => by have h9 := hS.2.2 q hq; rw [hAe] at h9; exact h9) ?_
    refine W.widen (k := 600002) (n := 7302232) (by decide) (by decide) ?_
    exact lw_ret hx hb hr hlocks dL_law_1339
  · skip
    refine lv_iload hx hb dL_law_23 (lv_at hl 0 rfl) ?_
    refine lv_aload_n hx hb dL_law_25 rfl (lv_at hl 4 rfl) ?_
    refine va_slen hx hb hX hbl hbA hS dL_law_26 ?_
    refine lv_topi (fun z_31 ez_31 => ?_)
    have fz_31 : z_31 = 2 := ez_31.trans (by decide)
    subst fz_31
    refine lv_iconst (v := 5) hx hb dL_law_27 (by decide) ?_
    refine lv_isub hx hb dL_law_28 ?_
    refine lv_topi (fun z_32 ez_32 => ?_)
    have fz_32 : z_32 = (-3) := ez_32.trans (by decide)
    subst fz_32
    refine lv_icmp_gt (tgt := 1338) hx hb dL_law_29 (by decide) (fun _ => ?_) (fun hc => absurd (by decide) hc)
    refine lv_iconst (v := 1) hx hb dL_law_1338 (by decide) ?_
    refine va_forget (fun q hq => by have h9 := hS.2.2 q hq; rw [hAe] at h9; exact h9) ?_
    refine W.widen (k := 600002) (n := 7302232) (by decide) (by decide) ?_
    exact lw_ret hx hb hr hlocks dL_law_1339
  · skip
    refine lv_iload hx hb dL_law_23 (lv_at hl 0 rfl) ?_
    refine lv_aload_n hx hb dL_law_25 rfl (lv_at hl 4 rfl) ?_
    refine va_slen hx hb hX hbl hbA hS dL_law_26 ?_
    refine lv_topi (fun z_33 ez_33 => ?_)
    have fz_33 : z_33 = 3 := ez_33.trans (by decide)
    subst fz_33
    refine lv_iconst (v := 5) hx hb dL_law_27 (by decide) ?_
    refine lv_isub hx hb dL_law_28 ?_
    refine lv_topi (fun z_34 ez_34 => ?_)
    have fz_34 : z_34 = (-2) := ez_34.trans (by decide)
    subst fz_34
    refine lv_icmp_gt (tgt := 1338) hx hb dL_law_29 (by decide) (fun _ => ?_) (fun hc => absurd (by decide) hc)
    refine lv_iconst (v := 1) hx hb dL_law_1338 (by decide) ?_
    refine va_forget (fun q hq => by have h9 := hS.2.2 q hq; rw [hAe] at h9; exact h9) ?_
    refine W.widen (k := 600002) (n := 7302232) (by decide) (by decide) ?_
    exact lw_ret hx hb hr hlocks dL_law_1339
  · skip
    refine lv_iload hx hb dL_law_23 (lv_at hl 0 rfl) ?_
    refine lv_aload_n hx hb dL_law_25 rfl (lv_at hl 4 rfl) ?_
    refine va_slen hx hb hX hbl hbA hS dL_law_26 ?_
    refine lv_topi (fun z_35 ez_35 => ?_)
    have fz_35 : z_35 = 4 := ez_35.trans (by decide)
    subst fz_35
    refine lv_iconst (v := 5) hx hb dL_law_27 (by decide) ?_
    refine lv_isub hx hb dL_law_28 ?_
    refine lv_topi (fun z_36 ez_36 => ?_)
    have fz_36 : z_36 = (-1) := ez_36.trans (by decide)
    subst fz_36
    refine lv_icmp_gt (tgt := 1338) hx hb dL_law_29 (by decide) (fun _ => ?_) (fun hc => absurd (by decide) hc)
    refine lv_iconst (v := 1) hx hb dL_law_1338 (by decide) ?_
    refine va_forget (fun q hq => by have h9 := hS.2.2 q hq; rw [hAe] at h9; exact h9) ?_
    refine W.widen (k := 600002) (n := 7302232) (by decide) (by decide) ?_
    exact lw_ret hx hb hr hlocks dL_law_1339
  · skip
    refine lv_iload hx hb dL_law_23 (lv_at hl 0 rfl) ?_
    refine lv_aload_n hx hb dL_law_25 rfl (lv_at hl 4 rfl) ?_
    refine va_slen hx hb hX hbl hbA hS dL_law_26 ?_
    refine lv_topi (fun z_37 ez_37 => ?_)
    have fz_37 : z_37 = 5 := ez_37.trans (by decide)
    subst fz_37
    refine lv_iconst (v := 5) hx hb dL_law_27 (by decide) ?_
    refine lv_isub hx hb dL_law_28 ?_
    refine lv_topi (fun z_38 ez_38 => ?_)
    have fz_38 : z_38 = 0 := ez_38.trans (by decide)
    subst fz_38
    refine lv_icmp_gt (tgt := 1338) hx hb dL_law_29 (by decide) (fun hc => absurd hc (by decide)) (fun _ => ?_)
    refine lv_aload_n hx hb dL_law_32 rfl (lv_at hl 4 rfl) ?_
    refine lv_iload hx hb dL_law_33 (lv_at hl 0 rfl) ?_
    refine va_sld hx hb hX hbl hbA hS (by unfold vp_in; decide) dL_law_35 ?_
    refine lv_topi (fun z_39 ez_39 => ?_)
    have fz_39 : z_39 = xs 0 := ez_39.trans (rfl)
    subst fz_39
    refine lv_bipush (v := 31) hx hb dL_law_36 (by decide) ?_
    refine lv_iand hx hb dL_law_38 ?_
    refine lv_topi (fun z_40 ez_40 => ?_)
    obtain ⟨j, hj, ej⟩ := pk_andE (xs 0) (m := 31) 5 (by decide)
    have ez9 : z_40 = nI j := ez_40.trans ej
    rcases (show j = 0 ∨ j = 1 ∨ j = 2 ∨ j = 3 ∨ j = 4 ∨ j = 5 ∨ j = 6 ∨ j = 7 ∨ j = 8 ∨ j = 9 ∨ j = 10 ∨ j = 11 ∨ j = 12 ∨ j = 13 ∨ j = 14 ∨ j = 15 ∨ j = 16 ∨ j = 17 ∨ j = 18 ∨ j = 19 ∨ 20 ≤ j by omega) with rfl | rfl | rfl | rfl | rfl | rfl | rfl | rfl | rfl | rfl | rfl | rfl | rfl | rfl | rfl | rfl | rfl | rfl | rfl | rfl | h20
    · have fz9 : z_40 = 0 := ez9.trans (by decide)
      subst fz9
      refine lv_tableIn (off := 93) (tgt := 132) hx hb dL_law_39 (by decide) (by decide) (by decide) (by decide) ?_
      subst hAe
      exact lc_0 hlt C9 D tC dz x a1_2 a2_3 a3_4 a4_5 f_6 e1_7 e2_8 qs_9 fs_10 cb_11 mo ma_16 pf_17 lf_18 op_19 zf_20 o k_12 k_13 k_21 k_22 k_23 k_24 hK hN hE H _ (hP.sub [0, 1, 2, 3, 4, 5, 6, 7, 8, 9, 10, 11, 12, 13, 14, 15, 16, 17, 18, 19, 20, 21, 22, 23, 24, 25, 26, 27, 28, 29, 30, 31, 32, 33] rfl) (hD.sub [0, 1, 2, 3, 4, 5, 6, 7, 8, 9, 10, 11, 12, 13, 14, 15, 16, 17, 18, 19, 20, 21, 22, 23, 24, 25, 26, 27, 28, 29, 30, 31, 32, 33] (by decide) rfl) hS ls (lv_sub hl [0, 1, 2, 3, 4] rfl)
    · have fz9 : z_40 = 1 := ez9.trans (by decide)
      subst fz9
      refine lv_tableIn (off := 196) (tgt := 235) hx hb dL_law_39 (by decide) (by decide) (by decide) (by decide) ?_
      subst hAe
      exact lc_1 hlt C9 D tC dz x a1_2 a2_3 a3_4 a4_5 f_6 e1_7 e2_8 qs_9 fs_10 cb_11 mo ma_16 pf_17 lf_18 op_19 zf_20 o k_12 k_13 k_21 k_22 k_23 k_24 hK hN hE H _ (hP.sub [0, 1, 2, 3, 4, 5, 6, 7, 8, 9, 10, 11, 12, 13, 14, 15, 16, 17, 18, 19, 20, 21, 22, 23, 24, 25, 26, 27, 28, 29, 30, 31, 32, 33] rfl) (hD.sub [0, 1, 2, 3, 4, 5, 6, 7, 8, 9, 10, 11, 12, 13, 14, 15, 16, 17, 18, 19, 20, 21, 22, 23, 24, 25, 26, 27, 28, 29, 30, 31, 32, 33] (by decide) rfl) hS ls (lv_sub hl [0, 1, 2, 3, 4] rfl)
    · have fz9 : z_40 = 2 := ez9.trans (by decide)
      subst fz9
      refine lv_tableIn (off := 288) (tgt := 327) hx hb dL_law_39 (by decide) (by decide) (by decide) (by decide) ?_
      subst hAe
      exact lc_2 hlt C9 D tC dz x a1_2 a2_3 a3_4 a4_5 f_6 e1_7 e2_8 qs_9 fs_10 cb_11 mo ma_16 pf_17 lf_18 op_19 zf_20 o k_12 k_13 k_21 k_22 k_23 k_24 hK hN hE H _ (hP.sub [0, 1, 2, 3, 4, 5, 6, 7, 8, 9, 10, 11, 12, 13, 14, 15, 16, 17, 18, 19, 20, 21, 22, 23, 24, 25, 26, 27, 28, 29, 30, 31, 32, 33] rfl) (hD.sub [0, 1, 2, 3, 4, 5, 6, 7, 8, 9, 10, 11, 12, 13, 14, 15, 16, 17, 18, 19, 20, 21, 22, 23, 24, 25, 26, 27, 28, 29, 30, 31, 32, 33] (by decide) rfl) hS ls (lv_sub hl [0, 1, 2, 3, 4] rfl)
    · have fz9 : z_40 = 3 := ez9.trans (by decide)
      subst fz9
      refine lv_tableIn (off := 356) (tgt := 395) hx hb dL_law_39 (by decide) (by decide) (by decide) (by decide) ?_
      subst hAe
      exact lc_3 hlt C9 D tC dz x a1_2 a2_3 a3_4 a4_5 f_6 e1_7 e2_8 qs_9 fs_10 cb_11 mo ma_16 pf_17 lf_18 op_19 zf_20 o k_12 k_13 k_21 k_22 k_23 k_24 hK hN hE H _ (hP.sub [0, 1, 2, 3, 4, 5, 6, 7, 8, 9, 10, 11, 12, 13, 14, 15, 16, 17, 18, 19, 20, 21, 22, 23, 24, 25, 26, 27, 28, 29, 30, 31, 32, 33] rfl) (hD.sub [0, 1, 2, 3, 4, 5, 6, 7, 8, 9, 10, 11, 12, 13, 14, 15, 16, 17, 18, 19, 20, 21, 22, 23, 24, 25, 26, 27, 28, 29, 30, 31, 32, 33] (by decide) rfl) hS ls (lv_sub hl [0, 1, 2, 3, 4] rfl)
    · have fz9 : z_40 = 4 := ez9.trans (by decide)
      subst fz9
      refine lv_tableIn (off := 419) (tgt := 458) hx hb dL_law_39 (by decide) (by decide) (by decide) (by decide) ?_
      subst hAe
      exact lc_4 hlt C9 D tC dz x a1_2 a2_3 a3_4 a4_5 f_6 e1_7 e2_8 qs_9 fs_10 cb_11 mo ma_16 pf_17 lf_18 op_19 zf_20 o k_12 k_13 k_21 k_22 k_23 k_24 hK hN hE H _ (hP.sub [0, 1, 2, 3, 4, 5, 6, 7, 8, 9, 10, 11, 12, 13, 14, 15, 16, 17, 18, 19, 20, 21, 22, 23, 24, 25, 26, 27, 28, 29, 30, 31, 32, 33] rfl) (hD.sub [0, 1, 2, 3, 4, 5, 6, 7, 8, 9, 10, 11, 12, 13, 14, 15, 16, 17, 18, 19, 20, 21, 22, 23, 24, 25, 26, 27, 28, 29, 30, 31, 32, 33] (by decide) rfl) hS ls (lv_sub hl [0, 1, 2, 3, 4] rfl)
    · have fz9 : z_40 = 5 := ez9.trans (by decide)
      subst fz9
      refine lv_tableIn (off := 455) (tgt := 494) hx hb dL_law_39 (by decide) (by decide) (by decide) (by decide) ?_
      subst hAe
      exact lc_5 hlt C9 D tC dz x a1_2 a2_3 a3_4 a4_5 f_6 e1_7 e2_8 qs_9 fs_10 cb_11 mo ma_16 pf_17 lf_18 op_19 zf_20 o k_12 k_13 k_21 k_22 k_23 k_24 hK hN hE H _ (hP.sub [0, 1, 2, 3, 4, 5, 6, 7, 8, 9, 10, 11, 12, 13, 14, 15, 16, 17, 18, 19, 20, 21, 22, 23, 24, 25, 26, 27, 28, 29, 30, 31, 32, 33] rfl) (hD.sub [0, 1, 2, 3, 4, 5, 6, 7, 8, 9, 10, 11, 12, 13, 14, 15, 16, 17, 18, 19, 20, 21, 22, 23, 24, 25, 26, 27, 28, 29, 30, 31, 32, 33] (by decide) rfl) hS ls (lv_sub hl [0, 1, 2, 3, 4] rfl)
    · have fz9 : z_40 = 6 := ez9.trans (by decide)
      subst fz9
      refine lv_tableIn (off := 511) (tgt := 550) hx hb dL_law_39 (by decide) (by decide) (by decide) (by decide) ?_
      subst hAe
      exact lc_6 hlt C9 D tC dz x a1_2 a2_3 a3_4 a4_5 f_6 e1_7 e2_8 qs_9 fs_10 cb_11 mo ma_16 pf_17 lf_18 op_19 zf_20 o k_12 k_13 k_21 k_22 k_23 k_24 hK hN hE H _ (hP.sub [0, 1, 2, 3, 4, 5, 6, 7, 8, 9, 10, 11, 12, 13, 14, 15, 16, 17, 18, 19, 20, 21, 22, 23, 24, 25, 26, 27, 28, 29, 30, 31, 32, 33] rfl) (hD.sub [0, 1, 2, 3, 4, 5, 6, 7, 8, 9, 10, 11, 12, 13, 14, 15, 16, 17, 18, 19, 20, 21, 22, 23, 24, 25, 26, 27, 28, 29, 30, 31, 32, 33] (by decide) rfl) hS ls (lv_sub hl [0, 1, 2, 3, 4] rfl)
    · have fz9 : z_40 = 7 := ez9.trans (by decide)
      subst fz9
      refine lv_tableIn (off := 547) (tgt := 586) hx hb dL_law_39 (by decide) (by decide) (by decide) (by decide) ?_
      subst hAe
      exact lc_7 hlt C9 D tC dz x a1_2 a2_3 a3_4 a4_5 f_6 e1_7 e2_8 qs_9 fs_10 cb_11 mo ma_16 pf_17 lf_18 op_19 zf_20 o k_12 k_13 k_21 k_22 k_23 k_24 hK hN hE H _ (hP.sub [0, 1, 2, 3, 4, 5, 6, 7, 8, 9, 10, 11, 12, 13, 14, 15, 16, 17, 18, 19, 20, 21, 22, 23, 24, 25, 26, 27, 28, 29, 30, 31, 32, 33] rfl) (hD.sub [0, 1, 2, 3, 4, 5, 6, 7, 8, 9, 10, 11, 12, 13, 14, 15, 16, 17, 18, 19, 20, 21, 22, 23, 24, 25, 26, 27, 28, 29, 30, 31, 32, 33] (by decide) rfl) hS ls (lv_sub hl [0, 1, 2, 3, 4] rfl)
    · have fz9 : z_40 = 8 := ez9.trans (by decide)
      subst fz9
      refine lv_tableIn (off := 595) (tgt := 634) hx hb dL_law_39 (by decide) (by decide) (by decide) (by decide) ?_
      subst hAe
      exact lc_8 hlt C9 D tC dz x a1_2 a2_3 a3_4 a4_5 f_6 e1_7 e2_8 qs_9 fs_10 cb_11 mo ma_16 pf_17 lf_18 op_19 zf_20 o k_12 k_13 k_21 k_22 k_23 k_24 hK hN hE H _ (hP.sub [0, 1, 2, 3, 4, 5, 6, 7, 8, 9, 10, 11, 12, 13, 14, 15, 16, 17, 18, 19, 20, 21, 22, 23, 24, 25, 26, 27, 28, 29, 30, 31, 32, 33] rfl) (hD.sub [0, 1, 2, 3, 4, 5, 6, 7, 8, 9, 10, 11, 12, 13, 14, 15, 16, 17, 18, 19, 20, 21, 22, 23, 24, 25, 26, 27, 28, 29, 30, 31, 32, 33] (by decide) rfl) hS ls (lv_sub hl [0, 1, 2, 3, 4] rfl)
    · have fz9 : z_40 = 9 := ez9.trans (by decide)
      subst fz9
      refine lv_tableIn (off := 658) (tgt := 697) hx hb dL_law_39 (by decide) (by decide) (by decide) (by decide) ?_
      subst hAe
      exact lc_9 hlt C9 D tC dz x a1_2 a2_3 a3_4 a4_5 f_6 e1_7 e2_8 qs_9 fs_10 cb_11 mo ma_16 pf_17 lf_18 op_19 zf_20 o k_12 k_13 k_21 k_22 k_23 k_24 hK hN hE H _ (hP.sub [0, 1, 2, 3, 4, 5, 6, 7, 8, 9, 10, 11, 12, 13, 14, 15, 16, 17, 18, 19, 20, 21, 22, 23, 24, 25, 26, 27, 28, 29, 30, 31, 32, 33] rfl) (hD.sub [0, 1, 2, 3, 4, 5, 6, 7, 8, 9, 10, 11, 12, 13, 14, 15, 16, 17, 18, 19, 20, 21, 22, 23, 24, 25, 26, 27, 28, 29, 30, 31, 32, 33] (by decide) rfl) hS ls (lv_sub hl [0, 1, 2, 3, 4] rfl)
    · have fz9 : z_40 = 10 := ez9.trans (by decide)
      subst fz9
      refine lv_tableIn (off := 721) (tgt := 760) hx hb dL_law_39 (by decide) (by decide) (by decide) (by decide) ?_
      subst hAe
      exact lc_10 hlt C9 D tC dz x a1_2 a2_3 a3_4 a4_5 f_6 e1_7 e2_8 qs_9 fs_10 cb_11 mo ma_16 pf_17 lf_18 op_19 zf_20 o k_12 k_13 k_21 k_22 k_23 k_24 hK hN hE H _ (hP.sub [0, 1, 2, 3, 4, 5, 6, 7, 8, 9, 10, 11, 12, 13, 14, 15, 16, 17, 18, 19, 20, 21, 22, 23, 24, 25, 26, 27, 28, 29, 30, 31, 32, 33] rfl) (hD.sub [0, 1, 2, 3, 4, 5, 6, 7, 8, 9, 10, 11, 12, 13, 14, 15, 16, 17, 18, 19, 20, 21, 22, 23, 24, 25, 26, 27, 28, 29, 30, 31, 32, 33] (by decide) rfl) hS ls (lv_sub hl [0, 1, 2, 3, 4] rfl)
    · have fz9 : z_40 = 11 := ez9.trans (by decide)
      subst fz9
      refine lv_tableIn (off := 734) (tgt := 773) hx hb dL_law_39 (by decide) (by decide) (by decide) (by decide) ?_
      subst hAe
      exact lc_11 hlt C9 D tC dz x a1_2 a2_3 a3_4 a4_5 f_6 e1_7 e2_8 qs_9 fs_10 cb_11 mo ma_16 pf_17 lf_18 op_19 zf_20 o k_12 k_13 k_21 k_22 k_23 k_24 hK hN hE H _ (hP.sub [0, 1, 2, 3, 4, 5, 6, 7, 8, 9, 10, 11, 12, 13, 14, 15, 16, 17, 18, 19, 20, 21, 22, 23, 24, 25, 26, 27, 28, 29, 30, 31, 32, 33] rfl) (hD.sub [0, 1, 2, 3, 4, 5, 6, 7, 8, 9, 10, 11, 12, 13, 14, 15, 16, 17, 18, 19, 20, 21, 22, 23, 24, 25, 26, 27, 28, 29, 30, 31, 32, 33] (by decide) rfl) hS ls (lv_sub hl [0, 1, 2, 3, 4] rfl)
    · have fz9 : z_40 = 12 := ez9.trans (by decide)
      subst fz9
      refine lv_tableIn (off := 790) (tgt := 829) hx hb dL_law_39 (by decide) (by decide) (by decide) (by decide) ?_
      subst hAe
      exact lc_12 hlt C9 D tC dz x a1_2 a2_3 a3_4 a4_5 f_6 e1_7 e2_8 qs_9 fs_10 cb_11 mo ma_16 pf_17 lf_18 op_19 zf_20 o k_12 k_13 k_21 k_22 k_23 k_24 hK hN hE H _ (hP.sub [0, 1, 2, 3, 4, 5, 6, 7, 8, 9, 10, 11, 12, 13, 14, 15, 16, 17, 18, 19, 20, 21, 22, 23, 24, 25, 26, 27, 28, 29, 30, 31, 32, 33] rfl) (hD.sub [0, 1, 2, 3, 4, 5, 6, 7, 8, 9, 10, 11, 12, 13, 14, 15, 16, 17, 18, 19, 20, 21, 22, 23, 24, 25, 26, 27, 28, 29, 30, 31, 32, 33] (by decide) rfl) hS ls (lv_sub hl [0, 1, 2, 3, 4] rfl)
    · have fz9 : z_40 = 13 := ez9.trans (by decide)
      subst fz9
      refine lv_tableIn (off := 826) (tgt := 865) hx hb dL_law_39 (by decide) (by decide) (by decide) (by decide) ?_
      subst hAe
      exact lc_13 hlt C9 D tC dz x a1_2 a2_3 a3_4 a4_5 f_6 e1_7 e2_8 qs_9 fs_10 cb_11 mo ma_16 pf_17 lf_18 op_19 zf_20 o k_12 k_13 k_21 k_22 k_23 k_24 hK hN hE H _ (hP.sub [0, 1, 2, 3, 4, 5, 6, 7, 8, 9, 10, 11, 12, 13, 14, 15, 16, 17, 18, 19, 20, 21, 22, 23, 24, 25, 26, 27, 28, 29, 30, 31, 32, 33] rfl) (hD.sub [0, 1, 2, 3, 4, 5, 6, 7, 8, 9, 10, 11, 12, 13, 14, 15, 16, 17, 18, 19, 20, 21, 22, 23, 24, 25, 26, 27, 28, 29, 30, 31, 32, 33] (by decide) rfl) hS ls (lv_sub hl [0, 1, 2, 3, 4] rfl)
    · have fz9 : z_40 = 14 := ez9.trans (by decide)
      subst fz9
      refine lv_tableIn (off := 862) (tgt := 901) hx hb dL_law_39 (by decide) (by decide) (by decide) (by decide) ?_
      subst hAe
      exact lc_14 hlt C9 D tC dz x a1_2 a2_3 a3_4 a4_5 f_6 e1_7 e2_8 qs_9 fs_10 cb_11 mo ma_16 pf_17 lf_18 op_19 zf_20 o k_12 k_13 k_21 k_22 k_23 k_24 hK hN hE H _ (hP.sub [0, 1, 2, 3, 4, 5, 6, 7, 8, 9, 10, 11, 12, 13, 14, 15, 16, 17, 18, 19, 20, 21, 22, 23, 24, 25, 26, 27, 28, 29, 30, 31, 32, 33] rfl) (hD.sub [0, 1, 2, 3, 4, 5, 6, 7, 8, 9, 10, 11, 12, 13, 14, 15, 16, 17, 18, 19, 20, 21, 22, 23, 24, 25, 26, 27, 28, 29, 30, 31, 32, 33] (by decide) rfl) hS ls (lv_sub hl [0, 1, 2, 3, 4] rfl)
    · have fz9 : z_40 = 15 := ez9.trans (by decide)
      subst fz9
      refine lv_tableIn (off := 930) (tgt := 969) hx hb dL_law_39 (by decide) (by decide) (by decide) (by decide) ?_
      subst hAe
      exact lc_15 hlt C9 D tC dz x a1_2 a2_3 a3_4 a4_5 f_6 e1_7 e2_8 qs_9 fs_10 cb_11 mo ma_16 pf_17 lf_18 op_19 zf_20 o k_12 k_13 k_21 k_22 k_23 k_24 hK hN hE H _ (hP.sub [0, 1, 2, 3, 4, 5, 6, 7, 8, 9, 10, 11, 12, 13, 14, 15, 16, 17, 18, 19, 20, 21, 22, 23, 24, 25, 26, 27, 28, 29, 30, 31, 32, 33] rfl) (hD.sub [0, 1, 2, 3, 4, 5, 6, 7, 8, 9, 10, 11, 12, 13, 14, 15, 16, 17, 18, 19, 20, 21, 22, 23, 24, 25, 26, 27, 28, 29, 30, 31, 32, 33] (by decide) rfl) hS ls (lv_sub hl [0, 1, 2, 3, 4] rfl)
    · have fz9 : z_40 = 16 := ez9.trans (by decide)
      subst fz9
      refine lv_tableIn (off := 986) (tgt := 1025) hx hb dL_law_39 (by decide) (by decide) (by decide) (by decide) ?_
      subst hAe
      exact lc_16 hlt C9 D tC dz x a1_2 a2_3 a3_4 a4_5 f_6 e1_7 e2_8 qs_9 fs_10 cb_11 mo ma_16 pf_17 lf_18 op_19 zf_20 o k_12 k_13 k_21 k_22 k_23 k_24 hK hN hE H _ (hP.sub [0, 1, 2, 3, 4, 5, 6, 7, 8, 9, 10, 11, 12, 13, 14, 15, 16, 17, 18, 19, 20, 21, 22, 23, 24, 25, 26, 27, 28, 29, 30, 31, 32, 33] rfl) (hD.sub [0, 1, 2, 3, 4, 5, 6, 7, 8, 9, 10, 11, 12, 13, 14, 15, 16, 17, 18, 19, 20, 21, 22, 23, 24, 25, 26, 27, 28, 29, 30, 31, 32, 33] (by decide) rfl) hS ls (lv_sub hl [0, 1, 2, 3, 4] rfl)
    · have fz9 : z_40 = 17 := ez9.trans (by decide)
      subst fz9
      refine lv_tableIn (off := 1082) (tgt := 1121) hx hb dL_law_39 (by decide) (by decide) (by decide) (by decide) ?_
      subst hAe
      exact lc_17 hlt C9 D tC dz x a1_2 a2_3 a3_4 a4_5 f_6 e1_7 e2_8 qs_9 fs_10 cb_11 mo ma_16 pf_17 lf_18 op_19 zf_20 o k_12 k_13 k_21 k_22 k_23 k_24 hK hN hE H _ (hP.sub [0, 1, 2, 3, 4, 5, 6, 7, 8, 9, 10, 11, 12, 13, 14, 15, 16, 17, 18, 19, 20, 21, 22, 23, 24, 25, 26, 27, 28, 29, 30, 31, 32, 33] rfl) (hD.sub [0, 1, 2, 3, 4, 5, 6, 7, 8, 9, 10, 11, 12, 13, 14, 15, 16, 17, 18, 19, 20, 21, 22, 23, 24, 25, 26, 27, 28, 29, 30, 31, 32, 33] (by decide) rfl) hS ls (lv_sub hl [0, 1, 2, 3, 4] rfl)
    · have fz9 : z_40 = 18 := ez9.trans (by decide)
      subst fz9
      refine lv_tableIn (off := 1150) (tgt := 1189) hx hb dL_law_39 (by decide) (by decide) (by decide) (by decide) ?_
      subst hAe
      exact lc_18 hlt C9 D tC dz x a1_2 a2_3 a3_4 a4_5 f_6 e1_7 e2_8 qs_9 fs_10 cb_11 mo ma_16 pf_17 lf_18 op_19 zf_20 o k_12 k_13 k_21 k_22 k_23 k_24 hK hN hE H _ (hP.sub [0, 1, 2, 3, 4, 5, 6, 7, 8, 9, 10, 11, 12, 13, 14, 15, 16, 17, 18, 19, 20, 21, 22, 23, 24, 25, 26, 27, 28, 29, 30, 31, 32, 33] rfl) (hD.sub [0, 1, 2, 3, 4, 5, 6, 7, 8, 9, 10, 11, 12, 13, 14, 15, 16, 17, 18, 19, 20, 21, 22, 23, 24, 25, 26, 27, 28, 29, 30, 31, 32, 33] (by decide) rfl) hS ls (lv_sub hl [0, 1, 2, 3, 4] rfl)
    · have fz9 : z_40 = 19 := ez9.trans (by decide)
      subst fz9
      refine lv_tableIn (off := 1213) (tgt := 1252) hx hb dL_law_39 (by decide) (by decide) (by decide) (by decide) ?_
      subst hAe
      exact lc_19 hlt C9 D tC dz x a1_2 a2_3 a3_4 a4_5 f_6 e1_7 e2_8 qs_9 fs_10 cb_11 mo ma_16 pf_17 lf_18 op_19 zf_20 o k_12 k_13 k_21 k_22 k_23 k_24 hK hN hE H _ (hP.sub [0, 1, 2, 3, 4, 5, 6, 7, 8, 9, 10, 11, 12, 13, 14, 15, 16, 17, 18, 19, 20, 21, 22, 23, 24, 25, 26, 27, 28, 29, 30, 31, 32, 33] rfl) (hD.sub [0, 1, 2, 3, 4, 5, 6, 7, 8, 9, 10, 11, 12, 13, 14, 15, 16, 17, 18, 19, 20, 21, 22, 23, 24, 25, 26, 27, 28, 29, 30, 31, 32, 33] (by decide) rfl) hS ls (lv_sub hl [0, 1, 2, 3, 4] rfl)
    · refine lv_tableOut (tgt := 1332) hx hb dL_law_39 (Or.inr (by rw [ez9, nI_toInt (by omega)]; omega)) (by decide) ?_
      exact lw_tail C9 hAe hS (lv_sub hl [0, 4] rfl) (by decide) (by decide)
