set_option maxRecDepth 100000 in
theorem dL_law_1332 : decode cL_law 1332 = .ok (.iinc 4 5, 3) := by decide +kernel
set_option maxRecDepth 100000 in
theorem dL_law_1335 : decode cL_law 1335 = .ok (.goto (-1312), 3) := by decide +kernel
set_option maxRecDepth 100000 in
theorem dL_law_23 : decode cL_law 23 = .ok (.iload 4, 2) := by decide +kernel
set_option maxRecDepth 100000 in
theorem dL_law_25 : decode cL_law 25 = .ok (.aload_n 0, 1) := by decide +kernel
set_option maxRecDepth 100000 in
theorem dL_law_26 : decode cL_law 26 = .ok (.arraylength, 1) := by decide +kernel
set_option maxRecDepth 100000 in
theorem dL_law_27 : decode cL_law 27 = .ok (.iconst 5, 1) := by decide +kernel
set_option maxRecDepth 100000 in
theorem dL_law_28 : decode cL_law 28 = .ok (.isub, 1) := by decide +kernel
set_option maxRecDepth 100000 in
theorem dL_law_29 : decode cL_law 29 = .ok (.if_icmp .gt 1309, 3) := by decide +kernel
set_option maxRecDepth 100000 in
theorem dL_law_1338 : decode cL_law 1338 = .ok (.iconst 1, 1) := by decide +kernel
set_option maxRecDepth 100000 in
theorem dL_law_1339 : decode cL_law 1339 = .ok (.ireturn, 1) := by decide +kernel
set_option maxHeartbeats 4000000 in
set_option maxRecDepth 100000 in
theorem lw_tail {p : Program} {l : Launch} {e : Env} {s : State} {m : MethodId} {below : List Frame} {meth : Method} {c : Code} {b : Nat} {xs : Nat → Int32} (C0 : lw_At p s m meth c b 5 xs) {H : Heap} {locs : List Loc} {cells slots : Nat} {A : Nat → Prop} (hAe : A = fun q : Nat => s.heap.size ≤ q) (hS : va_S A s.heap H locs) {ls : Array Slot} (hl : lv_has ls 7 [(4, .int 0), (0, .ref b)]) (hc : cells ≤ 600002) (hs : slots ≤ 7302232) : W p l e room_1 s m #[Value.ref b] below meth c H locs cells slots (lw_Z below #[Value.ref b] s) (F0 m 1332 ls []) := by
  obtain ⟨hx, hb, hr, hml, hown, hts0, hX, hbl, hlocks, hgv⟩ := C0
  have hbA : ¬ A b := by rw [hAe]; exact Nat.not_le.mpr hbl
  refine lv_iinc (v := 5) (lv' := [(4, .int 5), (0, .ref b)]) hx hb dL_law_1332 hl (k := 0) rfl (by decide) (by decide) rfl (fun ls hl => ?_)
  refine lv_goto (tgt := 23) hx hb dL_law_1335 (by decide) ?_
  refine lv_iload hx hb dL_law_23 (lv_at hl 0 rfl) ?_
  refine lv_aload_n hx hb dL_law_25 rfl (lv_at hl 1 rfl) ?_
  refine va_slen hx hb hX hbl hbA hS dL_law_26 ?_
  refine lv_iconst (v := 5) hx hb dL_law_27 (by decide) ?_
  refine lv_isub hx hb dL_law_28 ?_
  refine lv_topi (fun z ez => ?_)
  have fz : z = 0 := ez.trans (by decide)
  subst fz
  refine lv_icmp_gt (tgt := 1338) hx hb dL_law_29 (by decide) (fun _ => ?_) (fun hc => absurd (by decide) hc)
  refine lv_iconst (v := 1) hx hb dL_law_1338 (by decide) ?_
  refine va_forget (fun q hq => by have := hS.2.2 q hq; rw [hAe] at this; exact this) ?_
  refine W.widen (k := 600002) (n := 7302232) hc hs ?_
  exact lw_ret hx hb hr hlocks dL_law_1339
