set_option maxHeartbeats 4000000 in
set_option maxRecDepth 100000 in
theorem c_write2 (l : Launch) (hlt : l.stackTraces = false) (D : va_G) (tC : Nat → ClassId) (dz sz : Nat) (x : Nat) (a1 : Nat) (a2 : Nat) (a3 : Nat) (a4 : Nat) (fs : Nat → Option Nat) (p0 : Int32) (p1 : Int32) (p2 : Int32) (p3 : Int32) (md : Int32) (f : Nat) (e1 : Nat) (e2 : Nat) (z1 : Nat → Int32) (q : Nat) (ow : Int32) (hq : ∀ k : Nat, k < 5 → p0 = nI k → fs k = some q) (ho : ∀ k : Nat, k < 5 → p0 = nI k → ow = p0) : vx_Met l yX4_write wsX4_write ({ frames := 8, cells := 9, slots := 51, locals := 172 }) (va_Pc [.ref x, .int p0, .int p1, .int p2, .int p3] (pB D tC dz [(x, .inr (5, [.ref a1, .ref a2, .ref a3, .ref a4])), (a1, wT tC 5 fs), (a3, .inr (0, [.int md, .ref dz, .int 0])), (q, .inr (4, [.int ow, .int 1, .ref f, .int 0, .int (-1), .null, .int (-1), .null])), (f, .inr (3, [.ref e1, .ref e2, .int 5, .int 0])), (e1, wI tC 0 z1)] sz)) (va_Qi (fun (r : Int32) (_ : Unit) => r = 5 + p0 ∧ ¬ (p0 < 0 ∨ 5 ≤ p0) ∧ ¬ ((p1 < 0 ∨ 4 ≤ p1) ∨ (p2 < 0 ∨ 100 ≤ p2) ∨ (p3 < 0 ∨ 100 ≤ p3))) (fun (_ : Unit) t => pA D tC (va_A [(x, .inr (5, [.ref a1, .ref a2, .ref a3, .ref a4])), (a1, wT tC 5 fs), (a3, .inr (0, [.int md, .ref dz, .int 0])), (q, .inr (4, [.int ow, .int 1, .ref f, .int 0, .int (-1), .null, .int (-1), .null])), (f, .inr (3, [.ref e1, .ref e2, .int 5, .int 0])), (e1, wI tC 0 z1)] sz) [] t) (va_A [(x, .inr (5, [.ref a1, .ref a2, .ref a3, .ref a4])), (a1, wT tC 5 fs), (a3, .inr (0, [.int md, .ref dz, .int 0])), (q, .inr (4, [.int ow, .int 1, .ref f, .int 0, .int (-1), .null, .int (-1), .null])), (f, .inr (3, [.ref e1, .ref e2, .int 5, .int 0])), (e1, wI tC 0 z1)] sz)) (xX (fun E => (E = "java/lang/IndexOutOfBoundsException" ∧ (p0 < 0 ∨ 5 ≤ p0)) ∨ (E = "java/lang/IllegalArgumentException" ∧ ¬ (p0 < 0 ∨ 5 ≤ p0) ∧ ((p1 < 0 ∨ 4 ≤ p1) ∨ (p2 < 0 ∨ 100 ≤ p2) ∨ (p3 < 0 ∨ 100 ≤ p3)))) (va_A [(x, .inr (5, [.ref a1, .ref a2, .ref a3, .ref a4])), (a1, wT tC 5 fs), (a3, .inr (0, [.int md, .ref dz, .int 0])), (q, .inr (4, [.int ow, .int 1, .ref f, .int 0, .int (-1), .null, .int (-1), .null])), (f, .inr (3, [.ref e1, .ref e2, .int 5, .int 0])), (e1, wI tC 0 z1)] sz)) 9 51 (va_A [(x, .inr (5, [.ref a1, .ref a2, .ref a3, .ref a4])), (a1, wT tC 5 fs), (a3, .inr (0, [.int md, .ref dz, .int 0])), (q, .inr (4, [.int ow, .int 1, .ref f, .int 0, .int (-1), .null, .int (-1), .null])), (f, .inr (3, [.ref e1, .ref e2, .int 5, .int 0])), (e1, wI tC 0 z1)] sz) := by
  refine vx_ofW (cc := cX4_write) (maxL := 6) (ret := (some .int)) (by decide) rfl ?_
  intro p e s m args below meth c s₁ B hml hnx hv
  obtain ⟨rfl, hsz, hP, hK, hD0, hN, hE⟩ := hv
  have hx := B.exec
  have hb := B.bytes
  have hr := B.returns
  have hts := atoms_spec (ws := wsX4_write) B.pre
  have hown : s.vm.findClass RX4 = some m.cls := findClass_of_methodNamed B.named
  have hlocks := B.notSynchronized
  subst hsz
  have hD := hD0.self (sz := s.heap.size)
  generalize hAe : va_A [(x, .inr (5, [.ref a1, .ref a2, .ref a3, .ref a4])), (a1, wT tC 5 fs), (a3, .inr (0, [.int md, .ref dz, .int 0])), (q, .inr (4, [.int ow, .int 1, .ref f, .int 0, .int (-1), .null, .int (-1), .null])), (f, .inr (3, [.ref e1, .ref e2, .int 5, .int 0])), (e1, wI tC 0 z1)] s.heap.size = A at hD hE ⊢
  have hA : ∀ q : Nat, s.heap.size ≤ q → A q := fun q h => by rw [← hAe]; exact Or.inr h
  have hS : va_S A s.heap s.heap [] := va_S.rf
  have hP : va_P D vwCl [(x, .inr (5, [.ref a1, .ref a2, .ref a3, .ref a4])), (a1, wT tC 5 fs), (a3, .inr (0, [.int md, .ref dz, .int 0])), (q, .inr (4, [.int ow, .int 1, .ref f, .int 0, .int (-1), .null, .int (-1), .null])), (f, .inr (3, [.ref e1, .ref e2, .int 5, .int 0])), (e1, wI tC 0 z1)] s.heap := hP
  have hl := lv_entry ([.ref x, .int p0, .int p1, .int p2, .int p3]) (n := 6) (Nat.le_of_ble_eq_true rfl)
  rw [lg_entry_eq]
  generalize (lg_sl ([.ref x, .int p0, .int p1, .int p2, .int p3]) ++ List.replicate (6 - (lg_sl ([.ref x, .int p0, .int p1, .int p2, .int p3])).length) Slot.unset).toArray = ls at hl ⊢
  have hl : lv_has ls 6 [(0, .ref x), (1, .int p0), (2, .int p1), (3, .int p2), (4, .int p3)] := hl
  have w_0 := hts (.classLink RX4 50 "java/lang/IllegalArgumentException") (by decide +kernel)
  have w_1 := hts (.initialized "java/lang/IllegalArgumentException") (by decide +kernel)
  refine lv_aload_n hx hb dX4_write_0 rfl (lv_at hl 0 rfl) ?_
  refine lv_iload_n hx hb dX4_write_1 rfl (lv_at hl 1 rfl) ?_
  have hPc := hP.sub (ws' := [(x, .inr (5, [.ref a1, .ref a2, .ref a3, .ref a4])), (a1, wT tC 5 fs)]) [0, 1] rfl
  have hDc := hD.sub (ws' := [(x, .inr (5, [.ref a1, .ref a2, .ref a3, .ref a4])), (a1, wT tC 5 fs)]) [0, 1] (by decide) rfl
  have hFc := va_free (wc := [(x, .inr (5, [.ref a1, .ref a2, .ref a3, .ref a4])), (a1, wT tC 5 fs)]) hD hS hA [0, 1] rfl
  refine vx_callr (vx_runV (As := [.int p0]) (rest := []) ⟨hx, hb, hml, hown, hts⟩ (c_X4_stationAt l hlt D tC dz s.heap.size x a1 a2 a3 a4 fs p0 q hq) (cwV 1 hts gX4_write_X4_stationAt rfl rfl rfl (by decide +kernel) ⟨Nat.le_of_ble_eq_true rfl, Nat.le_of_ble_eq_true rfl⟩) ⟨pB_blind, va_recv hK hPc (ci := 5) (q0 := 0) rfl rfl, pB_at hPc hDc hK hN hE hS hFc⟩ rfl rfl hl.1 rfl (lv_room (Nat.le_of_ble_eq_true rfl)) dX4_write_2 ⟨Nat.le_of_ble_eq_true rfl, Nat.le_of_ble_eq_true rfl⟩) hS (fun q _ h => hFc q h) hFc (fun q _ h => hFc q h) (fun E ce q9 u t H1 locs ht hvm hpx hPE hz1 hk1 hS hce hcv hcl => ?_) (fun u r1 t H1 locs ht hvm hw hB hz1 hk1 hS => ?_)
  · skip
    exact vx_out (fun x h => (hnx x h).elim) hlocks hce hcv hcl (fun t9 h9 _ => ⟨(), trivial, Or.inl hPE, hS.F h9⟩) hS.2.2 (Nat.le_of_ble_eq_true rfl) (Nat.le_of_ble_eq_true rfl)
  · skip
    obtain ⟨k_1, k_2, hP1, _, hD1⟩ := hB
    have hw_3 := hw
    rw [ht] at hP1
    obtain ⟨hP, hD⟩ := va_join (wr := [(a3, .inr (0, [.int md, .ref dz, .int 0])), (q, .inr (4, [.int ow, .int 1, .ref f, .int 0, .int (-1), .null, .int (-1), .null])), (f, .inr (3, [.ref e1, .ref e2, .int 5, .int 0])), (e1, wI tC 0 z1)]) (w1 := [(x, .inr (5, [.ref a1, .ref a2, .ref a3, .ref a4])), (a1, wT tC 5 fs)]) hP hD [0, 1] [2, 3, 4, 5] rfl rfl (by decide) (by decide) hk1 hFc hP1 hD1
    generalize H1 = H at hP hS ⊢
    have hP : va_P D vwCl [(a3, .inr (0, [.int md, .ref dz, .int 0])), (q, .inr (4, [.int ow, .int 1, .ref f, .int 0, .int (-1), .null, .int (-1), .null])), (f, .inr (3, [.ref e1, .ref e2, .int 5, .int 0])), (e1, wI tC 0 z1), (x, .inr (5, [.ref a1, .ref a2, .ref a3, .ref a4])), (a1, wT tC 5 fs)] H := hP
    have hD : va_D A [(a3, .inr (0, [.int md, .ref dz, .int 0])), (q, .inr (4, [.int ow, .int 1, .ref f, .int 0, .int (-1), .null, .int (-1), .null])), (f, .inr (3, [.ref e1, .ref e2, .int 5, .int 0])), (e1, wI tC 0 z1), (x, .inr (5, [.ref a1, .ref a2, .ref a3, .ref a4])), (a1, wT tC 5 fs)] := hD
    refine W.widen (k := 1) (n := 6) (by omega) (by omega) ?_
    rw [k_1]
    refine lv_astore (lv' := [(5, .ref q), (0, .ref x), (1, .int p0), (2, .int p1), (3, .int p2), (4, .int p3)]) hx hb dX4_write_5 hl (by decide) rfl (fun ls hl => ?_)
    refine lv_iload_n hx hb dX4_write_7 rfl (lv_at hl 3 rfl) ?_
    refine lv_iconst (v := 4) hx hb dX4_write_8 (by decide) ?_
    have hPc := hP.sub (ws' := []) [] rfl
    have hDc := hD.sub (ws' := []) [] (by decide) rfl
    have hFc := va_free (wc := []) hD hS hA [] rfl
    refine va_calli (va_runS (As := [.int p1, .int 4]) (rest := []) ⟨hx, hb, hml, hown, hts⟩ (c_X4_isBelow l hlt D tC dz H.size p1 4 ) (va_cwS 2 hts gX4_write_X4_isBelow rfl rfl rfl (by decide +kernel) ⟨Nat.le_of_ble_eq_true rfl, Nat.le_of_ble_eq_true rfl⟩) ⟨pB_blind, pB_at hPc hDc hK hN hE hS hFc⟩ rfl rfl hl.1 rfl (lv_room (Nat.le_of_ble_eq_true rfl)) dX4_write_9 ⟨Nat.le_of_ble_eq_true rfl, Nat.le_of_ble_eq_true rfl⟩) hS (fun q _ h => hFc q h) hFc (fun r_4 u t H1 locs ht hvm hw hB hz1 hk1 hS => ?_)
    obtain ⟨hP1, _, hD1⟩ := hB
    have hw_5 := hw
    rw [ht] at hP1
    obtain ⟨hP, hD⟩ := va_join (wr := [(a3, .inr (0, [.int md, .ref dz, .int 0])), (q, .inr (4, [.int ow, .int 1, .ref f, .int 0, .int (-1), .null, .int (-1), .null])), (f, .inr (3, [.ref e1, .ref e2, .int 5, .int 0])), (e1, wI tC 0 z1), (x, .inr (5, [.ref a1, .ref a2, .ref a3, .ref a4])), (a1, wT tC 5 fs)]) (w1 := []) hP hD [] [0, 1, 2, 3, 4, 5] rfl rfl (by decide) (by decide) hk1 hFc hP1 hD1
    generalize H1 = H at hP hS ⊢
    have hP : va_P D vwCl [(a3, .inr (0, [.int md, .ref dz, .int 0])), (q, .inr (4, [.int ow, .int 1, .ref f, .int 0, .int (-1), .null, .int (-1), .null])), (f, .inr (3, [.ref e1, .ref e2, .int 5, .int 0])), (e1, wI tC 0 z1), (x, .inr (5, [.ref a1, .ref a2, .ref a3, .ref a4])), (a1, wT tC 5 fs)] H := hP
    have hD : va_D A [(a3, .inr (0, [.int md, .ref dz, .int 0])), (q, .inr (4, [.int ow, .int 1, .ref f, .int 0, .int (-1), .null, .int (-1), .null])), (f, .inr (3, [.ref e1, .ref e2, .int 5, .int 0])), (e1, wI tC 0 z1), (x, .inr (5, [.ref a1, .ref a2, .ref a3, .ref a4])), (a1, wT tC 5 fs)] := hD
    refine lv_if_eq (tgt := 34) hx hb dX4_write_12 (by decide) (fun c_6 => ?_) (fun c_6 => ?_)
    · skip
      obtain ⟨sa, hstr⟩ := hN.2.1 (52, "no such notice") (by decide +kernel)
      exact vx_throwS hx hb hlt hown (by decide +kernel) (by decide +kernel) w_0 w_1 hstr (vx_hat (fun w hw => hts w (th_X4_write_IAE w hw)) at_IAE_rest (at_IAE_hat hN)) at_IAE_ok hE.1 hE.2.1 hS (by rw [hml]; exact hl.1) dX4_write_34 dX4_write_37 dX4_write_38 dX4_write_40 dX4_write_43 (fun x h => (hnx x h).elim) (by decide) (by decide) (Nat.le_of_ble_eq_true rfl) (Nat.le_of_ble_eq_true rfl) hlocks (fun t _ h1 h2 => ⟨(), trivial, Or.inr ⟨rfl, k_2, Or.inl (bl0 hw_5 c_6)⟩, xF hS h1 h2⟩) hS.2.2 (Nat.le_of_ble_eq_true rfl) (Nat.le_of_ble_eq_true rfl)
    · skip
      refine lv_iload_n hx hb dX4_write_15 rfl (lv_at hl 4 rfl) ?_
      refine lv_bipush (v := 100) hx hb dX4_write_16 (by decide) ?_
      have hPc := hP.sub (ws' := []) [] rfl
      have hDc := hD.sub (ws' := []) [] (by decide) rfl
      have hFc := va_free (wc := []) hD hS hA [] rfl
      refine va_calli (va_runS (As := [.int p2, .int 100]) (rest := []) ⟨hx, hb, hml, hown, hts⟩ (c_X4_isBelow l hlt D tC dz H.size p2 100 ) (va_cwS 2 hts gX4_write_X4_isBelow rfl rfl rfl (by decide +kernel) ⟨Nat.le_of_ble_eq_true rfl, Nat.le_of_ble_eq_true rfl⟩) ⟨pB_blind, pB_at hPc hDc hK hN hE hS hFc⟩ rfl rfl hl.1 rfl (lv_room (Nat.le_of_ble_eq_true rfl)) dX4_write_18 ⟨Nat.le_of_ble_eq_true rfl, Nat.le_of_ble_eq_true rfl⟩) hS (fun q _ h => hFc q h) hFc (fun r_7 u t H1 locs ht hvm hw hB hz1 hk1 hS => ?_)
      obtain ⟨hP1, _, hD1⟩ := hB
      have hw_8 := hw
      rw [ht] at hP1
      obtain ⟨hP, hD⟩ := va_join (wr := [(a3, .inr (0, [.int md, .ref dz, .int 0])), (q, .inr (4, [.int ow, .int 1, .ref f, .int 0, .int (-1), .null, .int (-1), .null])), (f, .inr (3, [.ref e1, .ref e2, .int 5, .int 0])), (e1, wI tC 0 z1), (x, .inr (5, [.ref a1, .ref a2, .ref a3, .ref a4])), (a1, wT tC 5 fs)]) (w1 := []) hP hD [] [0, 1, 2, 3, 4, 5] rfl rfl (by decide) (by decide) hk1 hFc hP1 hD1
      generalize H1 = H at hP hS ⊢
      have hP : va_P D vwCl [(a3, .inr (0, [.int md, .ref dz, .int 0])), (q, .inr (4, [.int ow, .int 1, .ref f, .int 0, .int (-1), .null, .int (-1), .null])), (f, .inr (3, [.ref e1, .ref e2, .int 5, .int 0])), (e1, wI tC 0 z1), (x, .inr (5, [.ref a1, .ref a2, .ref a3, .ref a4])), (a1, wT tC 5 fs)] H := hP
      have hD : va_D A [(a3, .inr (0, [.int md, .ref dz, .int 0])), (q, .inr (4, [.int ow, .int 1, .ref f, .int 0, .int (-1), .null, .int (-1), .null])), (f, .inr (3, [.ref e1, .ref e2, .int 5, .int 0])), (e1, wI tC 0 z1), (x, .inr (5, [.ref a1, .ref a2, .ref a3, .ref a4])), (a1, wT tC 5 fs)] := hD
      refine lv_if_eq (tgt := 34) hx hb dX4_write_21 (by decide) (fun c_9 => ?_) (fun c_9 => ?_)
      · skip
        obtain ⟨sa, hstr⟩ := hN.2.1 (52, "no such notice") (by decide +kernel)
        exact vx_throwS hx hb hlt hown (by decide +kernel) (by decide +kernel) w_0 w_1 hstr (vx_hat (fun w hw => hts w (th_X4_write_IAE w hw)) at_IAE_rest (at_IAE_hat hN)) at_IAE_ok hE.1 hE.2.1 hS (by rw [hml]; exact hl.1) dX4_write_34 dX4_write_37 dX4_write_38 dX4_write_40 dX4_write_43 (fun x h => (hnx x h).elim) (by decide) (by decide) (Nat.le_of_ble_eq_true rfl) (Nat.le_of_ble_eq_true rfl) hlocks (fun t _ h1 h2 => ⟨(), trivial, Or.inr ⟨rfl, k_2, Or.inr (Or.inl (bl0 hw_8 c_9))⟩, xF hS h1 h2⟩) hS.2.2 (Nat.le_of_ble_eq_true rfl) (Nat.le_of_ble_eq_true rfl)
      · skip
        refine lv_iload hx hb dX4_write_24 (lv_at hl 5 rfl) ?_
        refine lv_bipush (v := 100) hx hb dX4_write_26 (by decide) ?_
        have hPc := hP.sub (ws' := []) [] rfl
        have hDc := hD.sub (ws' := []) [] (by decide) rfl
        have hFc := va_free (wc := []) hD hS hA [] rfl
        refine va_calli (va_runS (As := [.int p3, .int 100]) (rest := []) ⟨hx, hb, hml, hown, hts⟩ (c_X4_isBelow l hlt D tC dz H.size p3 100 ) (va_cwS 2 hts gX4_write_X4_isBelow rfl rfl rfl (by decide +kernel) ⟨Nat.le_of_ble_eq_true rfl, Nat.le_of_ble_eq_true rfl⟩) ⟨pB_blind, pB_at hPc hDc hK hN hE hS hFc⟩ rfl rfl hl.1 rfl (lv_room (Nat.le_of_ble_eq_true rfl)) dX4_write_28 ⟨Nat.le_of_ble_eq_true rfl, Nat.le_of_ble_eq_true rfl⟩) hS (fun q _ h => hFc q h) hFc (fun r_10 u t H1 locs ht hvm hw hB hz1 hk1 hS => ?_)
        obtain ⟨hP1, _, hD1⟩ := hB
        have hw_11 := hw
        rw [ht] at hP1
        obtain ⟨hP, hD⟩ := va_join (wr := [(a3, .inr (0, [.int md, .ref dz, .int 0])), (q, .inr (4, [.int ow, .int 1, .ref f, .int 0, .int (-1), .null, .int (-1), .null])), (f, .inr (3, [.ref e1, .ref e2, .int 5, .int 0])), (e1, wI tC 0 z1), (x, .inr (5, [.ref a1, .ref a2, .ref a3, .ref a4])), (a1, wT tC 5 fs)]) (w1 := []) hP hD [] [0, 1, 2, 3, 4, 5] rfl rfl (by decide) (by decide) hk1 hFc hP1 hD1
        generalize H1 = H at hP hS ⊢
        have hP : va_P D vwCl [(a3, .inr (0, [.int md, .ref dz, .int 0])), (q, .inr (4, [.int ow, .int 1, .ref f, .int 0, .int (-1), .null, .int (-1), .null])), (f, .inr (3, [.ref e1, .ref e2, .int 5, .int 0])), (e1, wI tC 0 z1), (x, .inr (5, [.ref a1, .ref a2, .ref a3, .ref a4])), (a1, wT tC 5 fs)] H := hP
        have hD : va_D A [(a3, .inr (0, [.int md, .ref dz, .int 0])), (q, .inr (4, [.int ow, .int 1, .ref f, .int 0, .int (-1), .null, .int (-1), .null])), (f, .inr (3, [.ref e1, .ref e2, .int 5, .int 0])), (e1, wI tC 0 z1), (x, .inr (5, [.ref a1, .ref a2, .ref a3, .ref a4])), (a1, wT tC 5 fs)] := hD
        refine lv_if_ne (tgt := 44) hx hb dX4_write_31 (by decide) (fun c_12 => ?_) (fun c_12 => ?_)
        · skip
          refine lv_aload_n hx hb dX4_write_44 rfl (lv_at hl 1 rfl) ?_
          refine lv_aload hx hb dX4_write_45 (lv_at hl 0 rfl) ?_
          refine lv_iload_n hx hb dX4_write_47 rfl (lv_at hl 3 rfl) ?_
          refine lv_iconst (v := 4) hx hb dX4_write_48 (by decide) ?_
          refine lv_iload_n hx hb dX4_write_49 rfl (lv_at hl 4 rfl) ?_
          refine lv_imul hx hb dX4_write_50 ?_
          refine lv_topi (fun z_13 ez_13 => ?_)
          refine lv_iadd hx hb dX4_write_51 ?_
          refine lv_topi (fun z_14 ez_14 => ?_)
          refine lv_sipush (v := 400) hx hb dX4_write_52 (by decide) ?_
          refine lv_iload hx hb dX4_write_55 (lv_at hl 5 rfl) ?_
          refine lv_imul hx hb dX4_write_57 ?_
          refine lv_topi (fun z_15 ez_15 => ?_)
          refine lv_iadd hx hb dX4_write_58 ?_
          refine lv_topi (fun z_16 ez_16 => ?_)
          obtain ⟨k, hk, ek⟩ := ix5 k_2
          have hPc := hP.sub (ws' := [(x, .inr (5, [.ref a1, .ref a2, .ref a3, .ref a4])), (a3, .inr (0, [.int md, .ref dz, .int 0])), (q, .inr (4, [.int ow, .int 1, .ref f, .int 0, .int (-1), .null, .int (-1), .null])), (f, .inr (3, [.ref e1, .ref e2, .int 5, .int 0])), (e1, wI tC 0 z1)]) [4, 0, 1, 2, 3] rfl
          have hDc := hD.sub (ws' := [(x, .inr (5, [.ref a1, .ref a2, .ref a3, .ref a4])), (a3, .inr (0, [.int md, .ref dz, .int 0])), (q, .inr (4, [.int ow, .int 1, .ref f, .int 0, .int (-1), .null, .int (-1), .null])), (f, .inr (3, [.ref e1, .ref e2, .int 5, .int 0])), (e1, wI tC 0 z1)]) [4, 0, 1, 2, 3] (by decide) rfl
          have hFc := va_free (wc := [(x, .inr (5, [.ref a1, .ref a2, .ref a3, .ref a4])), (a3, .inr (0, [.int md, .ref dz, .int 0])), (q, .inr (4, [.int ow, .int 1, .ref f, .int 0, .int (-1), .null, .int (-1), .null])), (f, .inr (3, [.ref e1, .ref e2, .int 5, .int 0])), (e1, wI tC 0 z1)]) hD hS hA [4, 0, 1, 2, 3] rfl
          refine va_calli (va_runV (As := [.ref q, .int z_16]) (rest := []) ⟨hx, hb, hml, hown, hts⟩ (c_X4_beginWrite l hlt D tC dz H.size x a1 a2 a3 a4 md f e1 e2 z1 q ow z_16 k hk ((ho k hk ek).trans ek)) (cwV 2 hts gX4_write_X4_beginWrite rfl rfl rfl (by decide +kernel) ⟨Nat.le_of_ble_eq_true rfl, Nat.le_of_ble_eq_true rfl⟩) ⟨pB_blind, va_recv hK hPc (ci := 5) (q0 := 0) rfl rfl, pB_at hPc hDc hK hN hE hS hFc⟩ rfl rfl hl.1 rfl (lv_room (Nat.le_of_ble_eq_true rfl)) dX4_write_59 ⟨Nat.le_of_ble_eq_true rfl, Nat.le_of_ble_eq_true rfl⟩) hS (fun q _ h => hFc q h) hFc (fun r_17 u t H1 locs ht hvm hw hB hz1 hk1 hS => ?_)
          obtain ⟨hP1, _, hD1⟩ := hB
          have hw_18 := hw
          rw [ht] at hP1
          obtain ⟨hP, hD⟩ := va_join (wr := [(a1, wT tC 5 fs)]) (w1 := []) hP hD [4, 0, 1, 2, 3] [5] rfl rfl (by decide) (by decide) hk1 hFc hP1 hD1
          generalize H1 = H at hP hS ⊢
          have hP : va_P D vwCl [(a1, wT tC 5 fs)] H := hP
          have hD : va_D A [(a1, wT tC 5 fs)] := hD
          refine W.widen (k := 9) (n := 51) (by omega) (by omega) ?_
          have hP9 := hP.sub (ws' := []) [] rfl
          have hD9 := hD.sub (ws' := []) [] (by decide) rfl
          refine W.widen (k := 9) (n := 51) (by omega) (by omega) ?_
          exact vx_ret (W.iret (v := r_17) hx hb hr (fun t ht hW => ⟨⟨r_17, (), rfl, ⟨by rw [hw_18, ho k hk ek], k_2, (fun h => h.elim (bl1 hw_5 c_6) (fun h => h.elim (bl1 hw_8 c_9) (bl1 hw_11 c_12)))⟩, (by rw [ht]; exact hP9), va_K.moved hW.alike hK, hD9⟩, hS.F ht⟩) hS.2.2 dX4_write_62 hlocks)
        · skip
          obtain ⟨sa, hstr⟩ := hN.2.1 (52, "no such notice") (by decide +kernel)
          exact vx_throwS hx hb hlt hown (by decide +kernel) (by decide +kernel) w_0 w_1 hstr (vx_hat (fun w hw => hts w (th_X4_write_IAE w hw)) at_IAE_rest (at_IAE_hat hN)) at_IAE_ok hE.1 hE.2.1 hS (by rw [hml]; exact hl.1) dX4_write_34 dX4_write_37 dX4_write_38 dX4_write_40 dX4_write_43 (fun x h => (hnx x h).elim) (by decide) (by decide) (Nat.le_of_ble_eq_true rfl) (Nat.le_of_ble_eq_true rfl) hlocks (fun t _ h1 h2 => ⟨(), trivial, Or.inr ⟨rfl, k_2, Or.inr (Or.inr (bl0 hw_11 c_12))⟩, xF hS h1 h2⟩) hS.2.2 (Nat.le_of_ble_eq_true rfl) (Nat.le_of_ble_eq_true rfl)
set_option maxHeartbeats 4000000 in
set_option maxRecDepth 100000 in
theorem c_L_write2 (l : Launch) (hlt : l.stackTraces = false) (D : va_G) (tC : Nat → ClassId) (dz sz : Nat) (x : Nat) (a1 : Nat) (a2 : Nat) (a3 : Nat) (a4 : Nat) (fs : Nat → Option Nat) (p0 : Int32) (p1 : Int32) (p2 : Int32) (p3 : Int32) (md : Int32) (f : Nat) (e1 : Nat) (e2 : Nat) (z1 : Nat → Int32) (q : Nat) (ow : Int32) (o : Nat) (ov : Nat → Int64) (hq : ∀ k : Nat, k < 5 → p0 = nI k → fs k = some q) (ho : ∀ k : Nat, k < 5 → p0 = nI k → ow = p0) : vx_Met l yL_write wsL_write ({ frames := 9, cells := 9, slots := 51, locals := 197 }) (va_Pc [.ref x, .int p0, .int p1, .int p2, .int p3, .ref o] (pB D tC dz [(x, .inr (5, [.ref a1, .ref a2, .ref a3, .ref a4])), (a1, wT tC 5 fs), (a3, .inr (0, [.int md, .ref dz, .int 0])), (q, .inr (4, [.int ow, .int 1, .ref f, .int 0, .int (-1), .null, .int (-1), .null])), (f, .inr (3, [.ref e1, .ref e2, .int 5, .int 0])), (e1, wI tC 0 z1), (o, wL tC 1 ov)] sz)) (va_Qi (fun (r : Int32) (w : Nat → Int64) => (r = (if p0 < 0 ∨ 5 ≤ p0 then 1 else if (p1 < 0 ∨ 4 ≤ p1) ∨ (p2 < 0 ∨ 100 ≤ p2) ∨ (p3 < 0 ∨ 100 ≤ p3) then 2 else 0)) ∧ (r = 0 → w 0 = ((5 + p0).toInt64))) (fun (w : Nat → Int64) t => pA D tC (va_A [(x, .inr (5, [.ref a1, .ref a2, .ref a3, .ref a4])), (a1, wT tC 5 fs), (a3, .inr (0, [.int md, .ref dz, .int 0])), (q, .inr (4, [.int ow, .int 1, .ref f, .int 0, .int (-1), .null, .int (-1), .null])), (f, .inr (3, [.ref e1, .ref e2, .int 5, .int 0])), (e1, wI tC 0 z1), (o, wL tC 1 ov)] sz) [(o, wL tC 1 w)] t) (va_A [(x, .inr (5, [.ref a1, .ref a2, .ref a3, .ref a4])), (a1, wT tC 5 fs), (a3, .inr (0, [.int md, .ref dz, .int 0])), (q, .inr (4, [.int ow, .int 1, .ref f, .int 0, .int (-1), .null, .int (-1), .null])), (f, .inr (3, [.ref e1, .ref e2, .int 5, .int 0])), (e1, wI tC 0 z1), (o, wL tC 1 ov)] sz)) (xX (fun E => False) (va_A [(x, .inr (5, [.ref a1, .ref a2, .ref a3, .ref a4])), (a1, wT tC 5 fs), (a3, .inr (0, [.int md, .ref dz, .int 0])), (q, .inr (4, [.int ow, .int 1, .ref f, .int 0, .int (-1), .null, .int (-1), .null])), (f, .inr (3, [.ref e1, .ref e2, .int 5, .int 0])), (e1, wI tC 0 z1), (o, wL tC 1 ov)] sz)) 9 51 (va_A [(x, .inr (5, [.ref a1, .ref a2, .ref a3, .ref a4])), (a1, wT tC 5 fs), (a3, .inr (0, [.int md, .ref dz, .int 0])), (q, .inr (4, [.int ow, .int 1, .ref f, .int 0, .int (-1), .null, .int (-1), .null])), (f, .inr (3, [.ref e1, .ref e2, .int 5, .int 0])), (e1, wI tC 0 z1), (o, wL tC 1 ov)] sz) := by
  refine vx_ofWH (cc := cL_write) (maxL := 7) (ret := (some .int)) (by decide) rfl ?_
  intro p e s m args below meth c s₁ B hml hv
  obtain ⟨rfl, hsz, hP, hK, hD0, hN, hE⟩ := hv
  have hx := B.exec
  have hb := B.bytes
  have hr := B.returns
  have hts := atoms_spec (ws := wsL_write) B.pre
  have hown : s.vm.findClass RL = some m.cls := findClass_of_methodNamed B.named
  have hlocks := B.notSynchronized
  subst hsz
  have hD := hD0.self (sz := s.heap.size)
  generalize hAe : va_A [(x, .inr (5, [.ref a1, .ref a2, .ref a3, .ref a4])), (a1, wT tC 5 fs), (a3, .inr (0, [.int md, .ref dz, .int 0])), (q, .inr (4, [.int ow, .int 1, .ref f, .int 0, .int (-1), .null, .int (-1), .null])), (f, .inr (3, [.ref e1, .ref e2, .int 5, .int 0])), (e1, wI tC 0 z1), (o, wL tC 1 ov)] s.heap.size = A at hD hE ⊢
  have hA : ∀ q : Nat, s.heap.size ≤ q → A q := fun q h => by rw [← hAe]; exact Or.inr h
  have hS : va_S A s.heap s.heap [] := va_S.rf
  have hP : va_P D vwCl [(x, .inr (5, [.ref a1, .ref a2, .ref a3, .ref a4])), (a1, wT tC 5 fs), (a3, .inr (0, [.int md, .ref dz, .int 0])), (q, .inr (4, [.int ow, .int 1, .ref f, .int 0, .int (-1), .null, .int (-1), .null])), (f, .inr (3, [.ref e1, .ref e2, .int 5, .int 0])), (e1, wI tC 0 z1), (o, wL tC 1 ov)] s.heap := hP
  have hl := lv_entry ([.ref x, .int p0, .int p1, .int p2, .int p3, .ref o]) (n := 7) (Nat.le_of_ble_eq_true rfl)
  rw [lg_entry_eq]
  generalize (lg_sl ([.ref x, .int p0, .int p1, .int p2, .int p3, .ref o]) ++ List.replicate (7 - (lg_sl ([.ref x, .int p0, .int p1, .int p2, .int p3, .ref o])).length) Slot.unset).toArray = ls at hl ⊢
  have hl : lv_has ls 7 [(0, .ref x), (1, .int p0), (2, .int p1), (3, .int p2), (4, .int p3), (5, .ref o)] := hl
  have htab := vx_table (x := yL_write) B (hts (.codeWith yL_write cL_write 7 (some .int) [(0, 14, 17, 13), (0, 14, 21, 19), (0, 14, 25, 21), (0, 14, 29, 23)]) List.mem_cons_self)
  have w_0 := hts (.classLink RL 13 "java/lang/IndexOutOfBoundsException") (by decide +kernel)
  have w_1 := hts (.classLink RL 19 "java/lang/IllegalArgumentException") (by decide +kernel)
  refine lv_aload hx hb dL_write_0 (lv_at hl 5 rfl) ?_
  refine lv_iconst (v := 0) hx hb dL_write_2 (by decide) ?_
  refine lv_aload_n hx hb dL_write_3 rfl (lv_at hl 0 rfl) ?_
  refine lv_iload_n hx hb dL_write_4 rfl (lv_at hl 1 rfl) ?_
  refine lv_iload_n hx hb dL_write_5 rfl (lv_at hl 2 rfl) ?_
  refine lv_iload_n hx hb dL_write_6 rfl (lv_at hl 3 rfl) ?_
  refine lv_iload hx hb dL_write_7 (lv_at hl 4 rfl) ?_
  have hPc := hP.sub (ws' := [(x, .inr (5, [.ref a1, .ref a2, .ref a3, .ref a4])), (a1, wT tC 5 fs), (a3, .inr (0, [.int md, .ref dz, .int 0])), (q, .inr (4, [.int ow, .int 1, .ref f, .int 0, .int (-1), .null, .int (-1), .null])), (f, .inr (3, [.ref e1, .ref e2, .int 5, .int 0])), (e1, wI tC 0 z1)]) [0, 1, 2, 3, 4, 5] rfl
  have hDc := hD.sub (ws' := [(x, .inr (5, [.ref a1, .ref a2, .ref a3, .ref a4])), (a1, wT tC 5 fs), (a3, .inr (0, [.int md, .ref dz, .int 0])), (q, .inr (4, [.int ow, .int 1, .ref f, .int 0, .int (-1), .null, .int (-1), .null])), (f, .inr (3, [.ref e1, .ref e2, .int 5, .int 0])), (e1, wI tC 0 z1)]) [0, 1, 2, 3, 4, 5] (by decide) rfl
  have hFc := va_free (wc := [(x, .inr (5, [.ref a1, .ref a2, .ref a3, .ref a4])), (a1, wT tC 5 fs), (a3, .inr (0, [.int md, .ref dz, .int 0])), (q, .inr (4, [.int ow, .int 1, .ref f, .int 0, .int (-1), .null, .int (-1), .null])), (f, .inr (3, [.ref e1, .ref e2, .int 5, .int 0])), (e1, wI tC 0 z1)]) hD hS hA [0, 1, 2, 3, 4, 5] rfl
  refine vx_calli (vx_runV (As := [.int p0, .int p1, .int p2, .int p3]) (rest := [.int 0, .ref o]) ⟨hx, hb, hml, hown, hts⟩ (c_write2 l hlt D tC dz s.heap.size x a1 a2 a3 a4 fs p0 p1 p2 p3 md f e1 e2 z1 q ow hq ho) (cwV 4 hts gL_write_X4_write rfl rfl rfl (by decide +kernel) ⟨Nat.le_of_ble_eq_true rfl, Nat.le_of_ble_eq_true rfl⟩) ⟨pB_blind, va_recv hK hPc (ci := 5) (q0 := 0) rfl rfl, pB_at hPc hDc hK hN hE hS hFc⟩ rfl rfl hl.1 rfl (lv_room (Nat.le_of_ble_eq_true rfl)) dL_write_9 ⟨Nat.le_of_ble_eq_true rfl, Nat.le_of_ble_eq_true rfl⟩) hS (fun q _ h => hFc q h) hFc (fun q _ h => hFc q h) (fun E ce q9 u t H1 locs ht hvm hpx hPE hz1 hk1 hS hce hcv hcl => ?_) (fun r_1 u t H1 locs ht hvm hw hB hz1 hk1 hS => ?_)
  · skip
    obtain ⟨hP, hD⟩ := va_join (wr := [(o, wL tC 1 ov)]) (w1 := []) hP hD [0, 1, 2, 3, 4, 5] [6] rfl rfl (by decide) (by decide) hk1 hFc nilP nilD
    generalize H1 = H at hP hS hce ⊢
    have hP : va_P D vwCl [(o, wL tC 1 ov)] H := hP
    have hD : va_D A [(o, wL tC 1 ov)] := hD
    rcases hPE with ⟨rfl, h1⟩ | ⟨rfl, h1⟩
    · skip
      refine hx_catch hown [] ⟨0, 14, 17, 13⟩ [⟨0, 14, 21, 19⟩, ⟨0, 14, 25, 21⟩, ⟨0, 14, 29, 23⟩] htab (fun _ h => absurd h List.not_mem_nil) (by decide) (by decide) w_0 (va_Nw.use rfl (hN.2.2.2.2.1 ("java/lang/IndexOutOfBoundsException", "java/lang/IndexOutOfBoundsException") (by decide +kernel))) hce hcv hcl ?_
      refine W.widen (k := 9) (n := 51) (by omega) (by omega) ?_
      refine lv_astore (lv' := [(6, .ref q9), (0, .ref x), (1, .int p0), (2, .int p1), (3, .int p2), (4, .int p3), (5, .ref o)]) hx hb dL_write_17 hl (by decide) rfl (fun ls hl => ?_)
      refine lv_iconst (v := 1) hx hb dL_write_19 (by decide) ?_
      have hP9 := hP.sub (ws' := [(o, wL tC 1 ov)]) [0] rfl
      have hD9 := hD.sub (ws' := [(o, wL tC 1 ov)]) [0] (by decide) rfl
      refine W.widen (k := 9) (n := 51) (by omega) (by omega) ?_
      exact vx_ret (W.iret (v := 1) hx hb hr (fun t ht hW => ⟨⟨1, ov, rfl, ⟨(if_pos h1).symm, fun h => absurd h (by decide)⟩, (by rw [ht]; exact hP9), va_K.moved hW.alike hK, hD9⟩, hS.F ht⟩) hS.2.2 dL_write_20 hlocks)
    · skip
      refine hx_catch hown [⟨0, 14, 17, 13⟩] ⟨0, 14, 21, 19⟩ [⟨0, 14, 25, 21⟩, ⟨0, 14, 29, 23⟩] htab (List.forall_mem_cons.mpr ⟨Or.inr ⟨by decide, _, w_0, hN.2.2.1 ("java/lang/IllegalArgumentException", "java/lang/IndexOutOfBoundsException") (by decide +kernel)⟩, (fun _ h => absurd h List.not_mem_nil)⟩) (by decide) (by decide) w_1 (va_Nw.use rfl (hN.2.2.2.2.1 ("java/lang/IllegalArgumentException", "java/lang/IllegalArgumentException") (by decide +kernel))) hce hcv hcl ?_
      refine W.widen (k := 9) (n := 51) (by omega) (by omega) ?_
      refine lv_astore (lv' := [(6, .ref q9), (0, .ref x), (1, .int p0), (2, .int p1), (3, .int p2), (4, .int p3), (5, .ref o)]) hx hb dL_write_21 hl (by decide) rfl (fun ls hl => ?_)
      refine lv_iconst (v := 2) hx hb dL_write_23 (by decide) ?_
      have hP9 := hP.sub (ws' := [(o, wL tC 1 ov)]) [0] rfl
      have hD9 := hD.sub (ws' := [(o, wL tC 1 ov)]) [0] (by decide) rfl
      refine W.widen (k := 9) (n := 51) (by omega) (by omega) ?_
      exact vx_ret (W.iret (v := 2) hx hb hr (fun t ht hW => ⟨⟨2, ov, rfl, ⟨(by rw [if_neg h1.1, if_pos h1.2]), fun h => absurd h (by decide)⟩, (by rw [ht]; exact hP9), va_K.moved hW.alike hK, hD9⟩, hS.F ht⟩) hS.2.2 dL_write_24 hlocks)
  · skip
    obtain ⟨hP1, _, hD1⟩ := hB
    have hw_2 := hw
    rw [ht] at hP1
    obtain ⟨hP, hD⟩ := va_join (wr := [(o, wL tC 1 ov)]) (w1 := []) hP hD [0, 1, 2, 3, 4, 5] [6] rfl rfl (by decide) (by decide) hk1 hFc hP1 hD1
    generalize H1 = H at hP hS ⊢
    have hP : va_P D vwCl [(o, wL tC 1 ov)] H := hP
    have hD : va_D A [(o, wL tC 1 ov)] := hD
    refine W.widen (k := 9) (n := 51) (by omega) (by omega) ?_
    refine lv_i2l (v := r_1.toInt64) hx hb dL_write_12 rfl ?_
    refine va_last hx hb hK hP hD hS 0 5 rfl rfl (by unfold vp_in; decide) dL_write_13 (fun H locs hP hD hS => ?_)
    have hP : va_P D vwCl [(o, wL tC 1 (vp_updL ov 0 (r_1.toInt64)))] H := hP
    have hD : va_D A [(o, wL tC 1 (vp_updL ov 0 (r_1.toInt64)))] := hD
    refine lv_goto (tgt := 33) hx hb dL_write_14 (by decide) ?_
    refine lv_iconst (v := 0) hx hb dL_write_33 (by decide) ?_
    have hP9 := hP.sub (ws' := [(o, wL tC 1 (vp_updL ov 0 (r_1.toInt64)))]) [0] rfl
    have hD9 := hD.sub (ws' := [(o, wL tC 1 (vp_updL ov 0 (r_1.toInt64)))]) [0] (by decide) rfl
    refine W.widen (k := 9) (n := 51) (by omega) (by omega) ?_
    exact vx_ret (W.iret (v := 0) hx hb hr (fun t ht hW => ⟨⟨0, (vp_updL ov 0 (r_1.toInt64)), rfl, ⟨(by rw [if_neg hw_2.2.1, if_neg hw_2.2.2]), fun _ => (by show Int32.toInt64 _ = _; rw [hw_2.1])⟩, (by rw [ht]; exact hP9), va_K.moved hW.alike hK, hD9⟩, hS.F ht⟩) hS.2.2 dL_write_34 hlocks)
