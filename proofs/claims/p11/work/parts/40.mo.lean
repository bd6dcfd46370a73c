/-! THE REFERENCE'S WORLD: its object at mo, its array j at ma j (the fields in their order: 0 thrown, 1 states, 22 letters are numbers, the others arrays) holding F j. -/
def updF (F : Nat → Nat → Int32) (j : Nat) (f : Nat → Int32) : Nat → Nat → Int32 := fun i => if i = j then f else F i
theorem updF_at {F : Nat → Nat → Int32} {j : Nat} {f : Nat → Int32} : updF F j f j = f := if_pos rfl
theorem updF_ne {F : Nat → Nat → Int32} {i j : Nat} {f : Nat → Int32} (h : i ≠ j) : updF F j f i = F i := if_neg h
def mW (tC : Nat → ClassId) (mo : Nat) (ma : Nat → Nat) (F : Nat → Nat → Int32) (th : Int32) (N L : Nat) : va_W := [(mo, .inr (6, [.int th, .int (nI N), .ref (ma 2), .ref (ma 3), .ref (ma 4), .ref (ma 5), .ref (ma 6), .ref (ma 7), .ref (ma 8), .ref (ma 9), .ref (ma 10), .ref (ma 11), .ref (ma 12), .ref (ma 13), .ref (ma 14), .ref (ma 15), .ref (ma 16), .ref (ma 17), .ref (ma 18), .ref (ma 19), .ref (ma 20), .ref (ma 21), .int (nI L), .ref (ma 23), .ref (ma 24), .ref (ma 25), .ref (ma 26), .ref (ma 27), .ref (ma 28)])), (ma 2, wI tC 600 (F 2)), (ma 3, wI tC 600 (F 3)), (ma 4, wI tC 600 (F 4)), (ma 5, wI tC 600 (F 5)), (ma 6, wI tC 600 (F 6)), (ma 7, wI tC 600 (F 7)), (ma 8, wI tC 5 (F 8)), (ma 9, wI tC 5 (F 9)), (ma 10, wI tC 5 (F 10)), (ma 11, wI tC 5 (F 11)), (ma 12, wZ tC 5 (F 12)), (ma 13, wI tC 5 (F 13)), (ma 14, wI tC 5 (F 14)), (ma 15, wI tC 5 (F 15)), (ma 16, wI tC 5 (F 16)), (ma 17, wI tC 5 (F 17)), (ma 18, wI tC 5 (F 18)), (ma 19, wI tC 25 (F 19)), (ma 20, wZ tC 25 (F 20)), (ma 21, wI tC 5 (F 21)), (ma 23, wI tC 41 (F 23)), (ma 24, wI tC 41 (F 24)), (ma 25, wI tC 41 (F 25)), (ma 26, wI tC 41 (F 26)), (ma 27, wI tC 41 (F 27)), (ma 28, wI tC 5 (F 28))]
theorem mW_0 {tC : Nat → ClassId} {mo : Nat} {ma : Nat → Nat} {F : Nat → Nat → Int32} {th : Int32} {N L : Nat} : (mW tC mo ma F th N L)[0]? = some (mo, .inr (6, [.int th, .int (nI N), .ref (ma 2), .ref (ma 3), .ref (ma 4), .ref (ma 5), .ref (ma 6), .ref (ma 7), .ref (ma 8), .ref (ma 9), .ref (ma 10), .ref (ma 11), .ref (ma 12), .ref (ma 13), .ref (ma 14), .ref (ma 15), .ref (ma 16), .ref (ma 17), .ref (ma 18), .ref (ma 19), .ref (ma 20), .ref (ma 21), .int (nI L), .ref (ma 23), .ref (ma 24), .ref (ma 25), .ref (ma 26), .ref (ma 27), .ref (ma 28)])) := rfl
theorem mW_2 {tC : Nat → ClassId} {mo : Nat} {ma : Nat → Nat} {F : Nat → Nat → Int32} {th : Int32} {N L : Nat} : (mW tC mo ma F th N L)[1]? = some (ma 2, wI tC 600 (F 2)) := rfl
theorem mS_2 {tC : Nat → ClassId} {mo : Nat} {ma : Nat → Nat} {F : Nat → Nat → Int32} {th : Int32} {N L : Nat} : ∀ f : Nat → Int32, (mW tC mo ma F th N L).set 1 (ma 2, wI tC 600 f) = mW tC mo ma (updF F 2 f) th N L := fun _ => rfl
theorem mW_3 {tC : Nat → ClassId} {mo : Nat} {ma : Nat → Nat} {F : Nat → Nat → Int32} {th : Int32} {N L : Nat} : (mW tC mo ma F th N L)[2]? = some (ma 3, wI tC 600 (F 3)) := rfl
theorem mS_3 {tC : Nat → ClassId} {mo : Nat} {ma : Nat → Nat} {F : Nat → Nat → Int32} {th : Int32} {N L : Nat} : ∀ f : Nat → Int32, (mW tC mo ma F th N L).set 2 (ma 3, wI tC 600 f) = mW tC mo ma (updF F 3 f) th N L := fun _ => rfl
theorem mW_4 {tC : Nat → ClassId} {mo : Nat} {ma : Nat → Nat} {F : Nat → Nat → Int32} {th : Int32} {N L : Nat} : (mW tC mo ma F th N L)[3]? = some (ma 4, wI tC 600 (F 4)) := rfl
theorem mS_4 {tC : Nat → ClassId} {mo : Nat} {ma : Nat → Nat} {F : Nat → Nat → Int32} {th : Int32} {N L : Nat} : ∀ f : Nat → Int32, (mW tC mo ma F th N L).set 3 (ma 4, wI tC 600 f) = mW tC mo ma (updF F 4 f) th N L := fun _ => rfl
theorem mW_5 {tC : Nat → ClassId} {mo : Nat} {ma : Nat → Nat} {F : Nat → Nat → Int32} {th : Int32} {N L : Nat} : (mW tC mo ma F th N L)[4]? = some (ma 5, wI tC 600 (F 5)) := rfl
theorem mS_5 {tC : Nat → ClassId} {mo : Nat} {ma : Nat → Nat} {F : Nat → Nat → Int32} {th : Int32} {N L : Nat} : ∀ f : Nat → Int32, (mW tC mo ma F th N L).set 4 (ma 5, wI tC 600 f) = mW tC mo ma (updF F 5 f) th N L := fun _ => rfl
theorem mW_6 {tC : Nat → ClassId} {mo : Nat} {ma : Nat → Nat} {F : Nat → Nat → Int32} {th : Int32} {N L : Nat} : (mW tC mo ma F th N L)[5]? = some (ma 6, wI tC 600 (F 6)) := rfl
theorem mS_6 {tC : Nat → ClassId} {mo : Nat} {ma : Nat → Nat} {F : Nat → Nat → Int32} {th : Int32} {N L : Nat} : ∀ f : Nat → Int32, (mW tC mo ma F th N L).set 5 (ma 6, wI tC 600 f) = mW tC mo ma (updF F 6 f) th N L := fun _ => rfl
theorem mW_7 {tC : Nat → ClassId} {mo : Nat} {ma : Nat → Nat} {F : Nat → Nat → Int32} {th : Int32} {N L : Nat} : (mW tC mo ma F th N L)[6]? = some (ma 7, wI tC 600 (F 7)) := rfl
theorem mS_7 {tC : Nat → ClassId} {mo : Nat} {ma : Nat → Nat} {F : Nat → Nat → Int32} {th : Int32} {N L : Nat} : ∀ f : Nat → Int32, (mW tC mo ma F th N L).set 6 (ma 7, wI tC 600 f) = mW tC mo ma (updF F 7 f) th N L := fun _ => rfl
theorem mW_8 {tC : Nat → ClassId} {mo : Nat} {ma : Nat → Nat} {F : Nat → Nat → Int32} {th : Int32} {N L : Nat} : (mW tC mo ma F th N L)[7]? = some (ma 8, wI tC 5 (F 8)) := rfl
theorem mS_8 {tC : Nat → ClassId} {mo : Nat} {ma : Nat → Nat} {F : Nat → Nat → Int32} {th : Int32} {N L : Nat} : ∀ f : Nat → Int32, (mW tC mo ma F th N L).set 7 (ma 8, wI tC 5 f) = mW tC mo ma (updF F 8 f) th N L := fun _ => rfl
theorem mW_9 {tC : Nat → ClassId} {mo : Nat} {ma : Nat → Nat} {F : Nat → Nat → Int32} {th : Int32} {N L : Nat} : (mW tC mo ma F th N L)[8]? = some (ma 9, wI tC 5 (F 9)) := rfl
theorem mS_9 {tC : Nat → ClassId} {mo : Nat} {ma : Nat → Nat} {F : Nat → Nat → Int32} {th : Int32} {N L : Nat} : ∀ f : Nat → Int32, (mW tC mo ma F th N L).set 8 (ma 9, wI tC 5 f) = mW tC mo ma (updF F 9 f) th N L := fun _ => rfl
theorem mW_10 {tC : Nat → ClassId} {mo : Nat} {ma : Nat → Nat} {F : Nat → Nat → Int32} {th : Int32} {N L : Nat} : (mW tC mo ma F th N L)[9]? = some (ma 10, wI tC 5 (F 10)) := rfl
theorem mS_10 {tC : Nat → ClassId} {mo : Nat} {ma : Nat → Nat} {F : Nat → Nat → Int32} {th : Int32} {N L : Nat} : ∀ f : Nat → Int32, (mW tC mo ma F th N L).set 9 (ma 10, wI tC 5 f) = mW tC mo ma (updF F 10 f) th N L := fun _ => rfl
theorem mW_11 {tC : Nat → ClassId} {mo : Nat} {ma : Nat → Nat} {F : Nat → Nat → Int32} {th : Int32} {N L : Nat} : (mW tC mo ma F th N L)[10]? = some (ma 11, wI tC 5 (F 11)) := rfl
theorem mS_11 {tC : Nat → ClassId} {mo : Nat} {ma : Nat → Nat} {F : Nat → Nat → Int32} {th : Int32} {N L : Nat} : ∀ f : Nat → Int32, (mW tC mo ma F th N L).set 10 (ma 11, wI tC 5 f) = mW tC mo ma (updF F 11 f) th N L := fun _ => rfl
theorem mW_12 {tC : Nat → ClassId} {mo : Nat} {ma : Nat → Nat} {F : Nat → Nat → Int32} {th : Int32} {N L : Nat} : (mW tC mo ma F th N L)[11]? = some (ma 12, wZ tC 5 (F 12)) := rfl
theorem mS_12 {tC : Nat → ClassId} {mo : Nat} {ma : Nat → Nat} {F : Nat → Nat → Int32} {th : Int32} {N L : Nat} : ∀ f : Nat → Int32, (mW tC mo ma F th N L).set 11 (ma 12, wZ tC 5 f) = mW tC mo ma (updF F 12 f) th N L := fun _ => rfl
theorem mW_13 {tC : Nat → ClassId} {mo : Nat} {ma : Nat → Nat} {F : Nat → Nat → Int32} {th : Int32} {N L : Nat} : (mW tC mo ma F th N L)[12]? = some (ma 13, wI tC 5 (F 13)) := rfl
theorem mS_13 {tC : Nat → ClassId} {mo : Nat} {ma : Nat → Nat} {F : Nat → Nat → Int32} {th : Int32} {N L : Nat} : ∀ f : Nat → Int32, (mW tC mo ma F th N L).set 12 (ma 13, wI tC 5 f) = mW tC mo ma (updF F 13 f) th N L := fun _ => rfl
theorem mW_14 {tC : Nat → ClassId} {mo : Nat} {ma : Nat → Nat} {F : Nat → Nat → Int32} {th : Int32} {N L : Nat} : (mW tC mo ma F th N L)[13]? = some (ma 14, wI tC 5 (F 14)) := rfl
theorem mS_14 {tC : Nat → ClassId} {mo : Nat} {ma : Nat → Nat} {F : Nat → Nat → Int32} {th : Int32} {N L : Nat} : ∀ f : Nat → Int32, (mW tC mo ma F th N L).set 13 (ma 14, wI tC 5 f) = mW tC mo ma (updF F 14 f) th N L := fun _ => rfl
theorem mW_15 {tC : Nat → ClassId} {mo : Nat} {ma : Nat → Nat} {F : Nat → Nat → Int32} {th : Int32} {N L : Nat} : (mW tC mo ma F th N L)[14]? = some (ma 15, wI tC 5 (F 15)) := rfl
theorem mS_15 {tC : Nat → ClassId} {mo : Nat} {ma : Nat → Nat} {F : Nat → Nat → Int32} {th : Int32} {N L : Nat} : ∀ f : Nat → Int32, (mW tC mo ma F th N L).set 14 (ma 15, wI tC 5 f) = mW tC mo ma (updF F 15 f) th N L := fun _ => rfl
theorem mW_16 {tC : Nat → ClassId} {mo : Nat} {ma : Nat → Nat} {F : Nat → Nat → Int32} {th : Int32} {N L : Nat} : (mW tC mo ma F th N L)[15]? = some (ma 16, wI tC 5 (F 16)) := rfl
theorem mS_16 {tC : Nat → ClassId} {mo : Nat} {ma : Nat → Nat} {F : Nat → Nat → Int32} {th : Int32} {N L : Nat} : ∀ f : Nat → Int32, (mW tC mo ma F th N L).set 15 (ma 16, wI tC 5 f) = mW tC mo ma (updF F 16 f) th N L := fun _ => rfl
theorem mW_17 {tC : Nat → ClassId} {mo : Nat} {ma : Nat → Nat} {F : Nat → Nat → Int32} {th : Int32} {N L : Nat} : (mW tC mo ma F th N L)[16]? = some (ma 17, wI tC 5 (F 17)) := rfl
theorem mS_17 {tC : Nat → ClassId} {mo : Nat} {ma : Nat → Nat} {F : Nat → Nat → Int32} {th : Int32} {N L : Nat} : ∀ f : Nat → Int32, (mW tC mo ma F th N L).set 16 (ma 17, wI tC 5 f) = mW tC mo ma (updF F 17 f) th N L := fun _ => rfl
theorem mW_18 {tC : Nat → ClassId} {mo : Nat} {ma : Nat → Nat} {F : Nat → Nat → Int32} {th : Int32} {N L : Nat} : (mW tC mo ma F th N L)[17]? = some (ma 18, wI tC 5 (F 18)) := rfl
theorem mS_18 {tC : Nat → ClassId} {mo : Nat} {ma : Nat → Nat} {F : Nat → Nat → Int32} {th : Int32} {N L : Nat} : ∀ f : Nat → Int32, (mW tC mo ma F th N L).set 17 (ma 18, wI tC 5 f) = mW tC mo ma (updF F 18 f) th N L := fun _ => rfl
theorem mW_19 {tC : Nat → ClassId} {mo : Nat} {ma : Nat → Nat} {F : Nat → Nat → Int32} {th : Int32} {N L : Nat} : (mW tC mo ma F th N L)[18]? = some (ma 19, wI tC 25 (F 19)) := rfl
theorem mS_19 {tC : Nat → ClassId} {mo : Nat} {ma : Nat → Nat} {F : Nat → Nat → Int32} {th : Int32} {N L : Nat} : ∀ f : Nat → Int32, (mW tC mo ma F th N L).set 18 (ma 19, wI tC 25 f) = mW tC mo ma (updF F 19 f) th N L := fun _ => rfl
theorem mW_20 {tC : Nat → ClassId} {mo : Nat} {ma : Nat → Nat} {F : Nat → Nat → Int32} {th : Int32} {N L : Nat} : (mW tC mo ma F th N L)[19]? = some (ma 20, wZ tC 25 (F 20)) := rfl
theorem mS_20 {tC : Nat → ClassId} {mo : Nat} {ma : Nat → Nat} {F : Nat → Nat → Int32} {th : Int32} {N L : Nat} : ∀ f : Nat → Int32, (mW tC mo ma F th N L).set 19 (ma 20, wZ tC 25 f) = mW tC mo ma (updF F 20 f) th N L := fun _ => rfl
theorem mW_21 {tC : Nat → ClassId} {mo : Nat} {ma : Nat → Nat} {F : Nat → Nat → Int32} {th : Int32} {N L : Nat} : (mW tC mo ma F th N L)[20]? = some (ma 21, wI tC 5 (F 21)) := rfl
theorem mS_21 {tC : Nat → ClassId} {mo : Nat} {ma : Nat → Nat} {F : Nat → Nat → Int32} {th : Int32} {N L : Nat} : ∀ f : Nat → Int32, (mW tC mo ma F th N L).set 20 (ma 21, wI tC 5 f) = mW tC mo ma (updF F 21 f) th N L := fun _ => rfl
theorem mW_23 {tC : Nat → ClassId} {mo : Nat} {ma : Nat → Nat} {F : Nat → Nat → Int32} {th : Int32} {N L : Nat} : (mW tC mo ma F th N L)[21]? = some (ma 23, wI tC 41 (F 23)) := rfl
theorem mS_23 {tC : Nat → ClassId} {mo : Nat} {ma : Nat → Nat} {F : Nat → Nat → Int32} {th : Int32} {N L : Nat} : ∀ f : Nat → Int32, (mW tC mo ma F th N L).set 21 (ma 23, wI tC 41 f) = mW tC mo ma (updF F 23 f) th N L := fun _ => rfl
theorem mW_24 {tC : Nat → ClassId} {mo : Nat} {ma : Nat → Nat} {F : Nat → Nat → Int32} {th : Int32} {N L : Nat} : (mW tC mo ma F th N L)[22]? = some (ma 24, wI tC 41 (F 24)) := rfl
theorem mS_24 {tC : Nat → ClassId} {mo : Nat} {ma : Nat → Nat} {F : Nat → Nat → Int32} {th : Int32} {N L : Nat} : ∀ f : Nat → Int32, (mW tC mo ma F th N L).set 22 (ma 24, wI tC 41 f) = mW tC mo ma (updF F 24 f) th N L := fun _ => rfl
theorem mW_25 {tC : Nat → ClassId} {mo : Nat} {ma : Nat → Nat} {F : Nat → Nat → Int32} {th : Int32} {N L : Nat} : (mW tC mo ma F th N L)[23]? = some (ma 25, wI tC 41 (F 25)) := rfl
theorem mS_25 {tC : Nat → ClassId} {mo : Nat} {ma : Nat → Nat} {F : Nat → Nat → Int32} {th : Int32} {N L : Nat} : ∀ f : Nat → Int32, (mW tC mo ma F th N L).set 23 (ma 25, wI tC 41 f) = mW tC mo ma (updF F 25 f) th N L := fun _ => rfl
theorem mW_26 {tC : Nat → ClassId} {mo : Nat} {ma : Nat → Nat} {F : Nat → Nat → Int32} {th : Int32} {N L : Nat} : (mW tC mo ma F th N L)[24]? = some (ma 26, wI tC 41 (F 26)) := rfl
theorem mS_26 {tC : Nat → ClassId} {mo : Nat} {ma : Nat → Nat} {F : Nat → Nat → Int32} {th : Int32} {N L : Nat} : ∀ f : Nat → Int32, (mW tC mo ma F th N L).set 24 (ma 26, wI tC 41 f) = mW tC mo ma (updF F 26 f) th N L := fun _ => rfl
theorem mW_27 {tC : Nat → ClassId} {mo : Nat} {ma : Nat → Nat} {F : Nat → Nat → Int32} {th : Int32} {N L : Nat} : (mW tC mo ma F th N L)[25]? = some (ma 27, wI tC 41 (F 27)) := rfl
theorem mS_27 {tC : Nat → ClassId} {mo : Nat} {ma : Nat → Nat} {F : Nat → Nat → Int32} {th : Int32} {N L : Nat} : ∀ f : Nat → Int32, (mW tC mo ma F th N L).set 25 (ma 27, wI tC 41 f) = mW tC mo ma (updF F 27 f) th N L := fun _ => rfl
theorem mW_28 {tC : Nat → ClassId} {mo : Nat} {ma : Nat → Nat} {F : Nat → Nat → Int32} {th : Int32} {N L : Nat} : (mW tC mo ma F th N L)[26]? = some (ma 28, wI tC 5 (F 28)) := rfl
theorem mS_28 {tC : Nat → ClassId} {mo : Nat} {ma : Nat → Nat} {F : Nat → Nat → Int32} {th : Int32} {N L : Nat} : ∀ f : Nat → Int32, (mW tC mo ma F th N L).set 26 (ma 28, wI tC 5 f) = mW tC mo ma (updF F 28 f) th N L := fun _ => rfl
section MST
variable {p : Program} {l : Launch} {e : Env} {R : Room} {s : State} {m : MethodId} {args : Array Value} {below : List Frame} {meth : Method} {c : Code} {H : Heap} {locs : List Loc} {cells slots : Nat} {Q : State → Prop} {D : va_G} {A : Nat → Prop} {H0 : Heap}
variable {cc : ByteArray} {pc : Nat} {ls : Array Slot} {rest : List Value} {tC : Nat → ClassId} {mo : Nat} {ma : Nat → Nat} {F : Nat → Nat → Int32} {th : Int32} {N L : Nat}
theorem m_ild (hexec : p.tables.exec = Jvm.exec) (hb : c.code = cc) (hK : va_K D vwCl (tY tC) s) {ws : va_W} (hP : va_P D vwCl ws H) (q0 : Nat) {a n k : Nat} {f : Nat → Int32} (ha : ws[q0]? = some (a, wI tC n f)) (hk : k < n) (hn : n < 2 ^ 31) (hdg : decode cc pc = .ok (.iaload, 1))
    (kk : W p l e R s m args below meth c H locs cells slots Q (F0 m (pc + 1) ls (.int (f k) :: rest))) : W p l e R s m args below meth c H locs cells slots Q (F0 m pc ls (.int (nI k) :: .ref a :: rest)) := by
  refine va_iald hexec hb hK hP q0 0 ha rfl (vp_in_nI hk hn) hdg ?_
  rw [nI_clamp (Nat.lt_trans hk hn)]
  exact kk
theorem m_zld (hexec : p.tables.exec = Jvm.exec) (hb : c.code = cc) (hK : va_K D vwCl (tY tC) s) {ws : va_W} (hP : va_P D vwCl ws H) (q0 : Nat) {a n k : Nat} {f : Nat → Int32} (ha : ws[q0]? = some (a, wZ tC n f)) (hk : k < n) (hn : n < 2 ^ 31) (hdg : decode cc pc = .ok (.baload, 1))
    (kk : W p l e R s m args below meth c H locs cells slots Q (F0 m (pc + 1) ls (.int (f k) :: rest))) : W p l e R s m args below meth c H locs cells slots Q (F0 m pc ls (.int (nI k) :: .ref a :: rest)) := by
  refine va_zald hexec hb hK hP q0 1 ha rfl (vp_in_nI hk hn) hdg ?_
  rw [nI_clamp (Nat.lt_trans hk hn)]
  exact kk
theorem m_ist (hexec : p.tables.exec = Jvm.exec) (hb : c.code = cc) (hK : va_K D vwCl (tY tC) s) (hP : va_P D vwCl (mW tC mo ma F th N L) H) (hD : va_D A (mW tC mo ma F th N L)) (hS : va_S A H0 H locs) (q0 : Nat) {j n k : Nat} {x : Int32} (ha : (mW tC mo ma F th N L)[q0]? = some (ma j, wI tC n (F j))) (hs : ∀ f : Nat → Int32, (mW tC mo ma F th N L).set q0 (ma j, wI tC n f) = mW tC mo ma (updF F j f) th N L) (hk : k < n) (hn : n < 2 ^ 31) (hdg : decode cc pc = .ok (.iastore, 1))
    (kk : ∀ (F2 : Nat → Nat → Int32) (H1 : Heap) (locs1 : List Loc), F2 = updF F j (upd (F j) k x) → va_P D vwCl (mW tC mo ma F2 th N L) H1 → va_D A (mW tC mo ma F2 th N L) → va_S A H0 H1 locs1 → W p l e R s m args below meth c H1 locs1 cells slots Q (F0 m (pc + 1) ls rest)) : W p l e R s m args below meth c H locs cells slots Q (F0 m pc ls (.int x :: .int (nI k) :: .ref (ma j) :: rest)) := by
  refine va_iast hexec hb hK hP hD hS q0 0 ha rfl (vp_in_nI hk hn) hdg (fun H1 locs1 hP1 hD1 hS1 => ?_)
  rw [nI_clamp (Nat.lt_trans hk hn), hs] at hP1 hD1
  exact kk _ H1 locs1 rfl hP1 hD1 hS1
theorem m_zst (hexec : p.tables.exec = Jvm.exec) (hb : c.code = cc) (hK : va_K D vwCl (tY tC) s) (hP : va_P D vwCl (mW tC mo ma F th N L) H) (hD : va_D A (mW tC mo ma F th N L)) (hS : va_S A H0 H locs) (q0 : Nat) {j n k : Nat} {x y : Int32} (ha : (mW tC mo ma F th N L)[q0]? = some (ma j, wZ tC n (F j))) (hs : ∀ f : Nat → Int32, (mW tC mo ma F th N L).set q0 (ma j, wZ tC n f) = mW tC mo ma (updF F j f) th N L) (hk : k < n) (hn : n < 2 ^ 31) (hy : vp_nar .boolean x = y) (hdg : decode cc pc = .ok (.bastore, 1))
    (kk : ∀ (F2 : Nat → Nat → Int32) (H1 : Heap) (locs1 : List Loc), F2 = updF F j (upd (F j) k y) → va_P D vwCl (mW tC mo ma F2 th N L) H1 → va_D A (mW tC mo ma F2 th N L) → va_S A H0 H1 locs1 → W p l e R s m args below meth c H1 locs1 cells slots Q (F0 m (pc + 1) ls rest)) : W p l e R s m args below meth c H locs cells slots Q (F0 m pc ls (.int x :: .int (nI k) :: .ref (ma j) :: rest)) := by
  refine va_zast hexec hb hK hP hD hS q0 1 ha rfl (vp_in_nI hk hn) hdg (fun H1 locs1 hP1 hD1 hS1 => ?_)
  rw [nI_clamp (Nat.lt_trans hk hn), hy, hs] at hP1 hD1
  exact kk _ H1 locs1 rfl hP1 hD1 hS1
/-- a loop that counts up to N, and changes the world ws -/
theorem lpS {S : Type} (N i0 : Nat) (Iv : Nat → S → Prop) (ws : S → va_W) (lvf : Nat → S → List (Nat × Value)) {nL : Nat} {u0 : S}
    (done : ∀ (u : S) (H : Heap) (locs : List Loc) (ls : Array Slot), Iv N u → va_P D vwCl (ws u) H → va_D A (ws u) → va_S A H0 H locs → lv_has ls nL (lvf N u) → W p l e R s m args below meth c H locs cells slots Q (F0 m pc ls []))
    (step : ∀ (i : Nat) (u : S) (H : Heap) (locs : List Loc) (ls : Array Slot), i < N → Iv i u → va_P D vwCl (ws u) H → va_D A (ws u) → va_S A H0 H locs → lv_has ls nL (lvf i u) → (∀ (u : S) (H : Heap) (locs : List Loc) (ls : Array Slot), Iv (i + 1) u → va_P D vwCl (ws u) H → va_D A (ws u) → va_S A H0 H locs → lv_has ls nL (lvf (i + 1) u) → W p l e R s m args below meth c H locs cells slots Q (F0 m pc ls [])) → W p l e R s m args below meth c H locs cells slots Q (F0 m pc ls []))
    (h0 : i0 ≤ N) (hI : Iv i0 u0) (hP : va_P D vwCl (ws u0) H) (hD : va_D A (ws u0)) (hS : va_S A H0 H locs) (hl : lv_has ls nL (lvf i0 u0)) : W p l e R s m args below meth c H locs cells slots Q (F0 m pc ls []) := by
  have key : ∀ (k i : Nat), i + k = N → ∀ (u : S) (H : Heap) (locs : List Loc) (ls : Array Slot), Iv i u → va_P D vwCl (ws u) H → va_D A (ws u) → va_S A H0 H locs → lv_has ls nL (lvf i u) → W p l e R s m args below meth c H locs cells slots Q (F0 m pc ls []) := by
    intro k
    induction k with
    | zero =>
      intro i hi u H locs ls g1 g2 g3 g4 g5
      have e : i = N := by omega
      subst e
      exact done u H locs ls g1 g2 g3 g4 g5
    | succ k ih =>
      intro i hi u H locs ls g1 g2 g3 g4 g5
      exact step i u H locs ls (by omega) g1 g2 g3 g4 g5 (fun u H locs ls q1 q2 q3 q4 q5 => ih (i + 1) (by omega) u H locs ls q1 q2 q3 q4 q5)
  exact key (N - i0) i0 (by omega) u0 H locs ls hI hP hD hS hl
/-- a loop that ends since me falls, and leaves the world as it is -/
theorem lpW {S : Type} (me : S → Nat) (Iv : S → Prop) {pl : va_W} (lvf : S → List (Nat × Value)) {nL : Nat} {u0 : S}
    (step : ∀ (u : S) (H : Heap) (locs : List Loc) (ls : Array Slot), Iv u → va_P D vwCl pl H → va_S A H0 H locs → lv_has ls nL (lvf u) → (∀ (u2 : S) (H : Heap) (locs : List Loc) (ls : Array Slot), me u2 < me u → Iv u2 → va_P D vwCl pl H → va_S A H0 H locs → lv_has ls nL (lvf u2) → W p l e R s m args below meth c H locs cells slots Q (F0 m pc ls [])) → W p l e R s m args below meth c H locs cells slots Q (F0 m pc ls []))
    (hI : Iv u0) (hP : va_P D vwCl pl H) (hS : va_S A H0 H locs) (hl : lv_has ls nL (lvf u0)) : W p l e R s m args below meth c H locs cells slots Q (F0 m pc ls []) := by
  have key : ∀ (n : Nat) (u : S) (H : Heap) (locs : List Loc) (ls : Array Slot), me u < n → Iv u → va_P D vwCl pl H → va_S A H0 H locs → lv_has ls nL (lvf u) → W p l e R s m args below meth c H locs cells slots Q (F0 m pc ls []) := by
    intro n
    induction n with
    | zero => intro u H locs ls h; exact absurd h (Nat.not_lt_zero _)
    | succ n ih =>
      intro u H locs ls h g1 g2 g3 g4
      exact step u H locs ls g1 g2 g3 g4 (fun u2 H locs ls q q1 q2 q3 q4 => ih u2 H locs ls (by omega) q1 q2 q3 q4)
  exact key (me u0 + 1) u0 H locs ls (Nat.lt_succ_self _) hI hP hS hl
theorem lv_eqi {x v : Int32} (h : x = v) (kk : W p l e R s m args below meth c H locs cells slots Q (F0 m pc ls (.int v :: rest))) : W p l e R s m args below meth c H locs cells slots Q (F0 m pc ls (.int x :: rest)) := by
  subst h
  exact kk
end MST
/-! THE REFERENCE'S INVARIANT: what is an index is one -/
def iX (n : Nat) (x : Int32) : Prop := ∃ k : Nat, k < n ∧ x = nI k
def iXn (n : Nat) (x : Int32) : Prop := x < 0 ∨ iX n x
theorem iX.le {n n2 : Nat} {x : Int32} (h : iX n x) (h2 : n ≤ n2) : iX n2 x := by
  obtain ⟨k, h3, h4⟩ := h
  exact ⟨k, by omega, h4⟩
theorem iXn.le {n n2 : Nat} {x : Int32} (h : iXn n x) (h2 : n ≤ n2) : iXn n2 x := h.imp id (fun h => h.le h2)
def MI (F : Nat → Nat → Int32) (N L : Nat) : Prop :=
  (∀ y : Nat, y < N → ∃ n : Nat, n ≤ 16 ∧ F 2 y = nI n ∧ (0 < n → iX y (F 3 y))) ∧
  (∀ i : Nat, i < 5 → iX N (F 8 i)) ∧ (∀ i : Nat, i < 5 → iX N (F 11 i)) ∧ (∀ i : Nat, i < 25 → iX N (F 19 i)) ∧
  (∀ i : Nat, i < 5 → iXn N (F 16 i)) ∧ (∀ i : Nat, i < 5 → iXn N (F 28 i)) ∧
  (∀ i : Nat, i < L → iX 5 (F 24 i) ∧ iX 5 (F 25 i) ∧ (F 23 i = 1 ∨ F 23 i = 2 → iX N (F 27 i))) ∧ N ≤ 500 ∧ L ≤ 41
section MIS
variable {F F2 : Nat → Nat → Int32} {N L j k : Nat} {v : Int32} {f : Nat → Int32}
def mfree (j : Nat) : Bool := !([2, 3, 8, 11, 16, 19, 23, 24, 25, 27, 28].contains j)
theorem MI.fr (h : MI F N L) (e : F2 = updF F j f) (hj : mfree j = true) : MI F2 N L := by
  subst e
  have ne : ∀ i : Nat, mfree i = false → updF F j f i = F i := fun i hi => updF_ne (fun q => by subst q; rw [hi] at hj; cases hj)
  unfold MI
  rw [ne 2 (by decide), ne 3 (by decide), ne 8 (by decide), ne 11 (by decide), ne 16 (by decide), ne 19 (by decide), ne 23 (by decide), ne 24 (by decide), ne 25 (by decide), ne 27 (by decide), ne 28 (by decide)]
  exact h
theorem upd_iX {n : Nat} {g : Nat → Int32} {i : Nat} (h : iX n (g i)) (hv : iX n v) : iX n (upd g k v i) := by
  by_cases e : i = k
  · rw [e, pk_us]; exact hv
  · rw [pk_un e]; exact h
theorem upd_iXn {n : Nat} {g : Nat → Int32} {i : Nat} (h : iXn n (g i)) (hv : iXn n v) : iXn n (upd g k v i) := by
  by_cases e : i = k
  · rw [e, pk_us]; exact hv
  · rw [pk_un e]; exact h
theorem MI.p8 (h : MI F N L) (e : F2 = updF F 8 (upd (F 8) k v)) (hv : iX N v) : MI F2 N L := by
  subst e
  obtain ⟨a1, a2, a3, a4, a5, a6, a7, a8⟩ := h
  exact ⟨a1, fun i hi => upd_iX (a2 i hi) hv, a3, a4, a5, a6, a7, a8⟩
theorem MI.p11 (h : MI F N L) (e : F2 = updF F 11 (upd (F 11) k v)) (hv : iX N v) : MI F2 N L := by
  subst e
  obtain ⟨a1, a2, a3, a4, a5, a6, a7, a8⟩ := h
  exact ⟨a1, a2, fun i hi => upd_iX (a3 i hi) hv, a4, a5, a6, a7, a8⟩
theorem MI.p19 (h : MI F N L) (e : F2 = updF F 19 (upd (F 19) k v)) (hv : iX N v) : MI F2 N L := by
  subst e
  obtain ⟨a1, a2, a3, a4, a5, a6, a7, a8⟩ := h
  exact ⟨a1, a2, a3, fun i hi => upd_iX (a4 i hi) hv, a5, a6, a7, a8⟩
theorem MI.p16 (h : MI F N L) (e : F2 = updF F 16 (upd (F 16) k v)) (hv : iXn N v) : MI F2 N L := by
  subst e
  obtain ⟨a1, a2, a3, a4, a5, a6, a7, a8⟩ := h
  exact ⟨a1, a2, a3, a4, fun i hi => upd_iXn (a5 i hi) hv, a6, a7, a8⟩
theorem MI.p28 (h : MI F N L) (e : F2 = updF F 28 (upd (F 28) k v)) (hv : iXn N v) : MI F2 N L := by
  subst e
  obtain ⟨a1, a2, a3, a4, a5, a6, a7, a8⟩ := h
  exact ⟨a1, a2, a3, a4, a5, fun i hi => upd_iXn (a6 i hi) hv, a7, a8⟩
theorem MI.p2 (h : MI F N L) (e : F2 = updF F 2 (upd (F 2) k v)) (hk : N ≤ k) : MI F2 N L := by
  subst e
  obtain ⟨a1, a2, a3, a4, a5, a6, a7, a8⟩ := h
  refine ⟨fun y hy => ?_, a2, a3, a4, a5, a6, a7, a8⟩
  show ∃ n : Nat, n ≤ 16 ∧ upd (F 2) k v y = nI n ∧ (0 < n → iX y (F 3 y))
  rw [pk_un (by omega)]
  exact a1 y hy
theorem MI.p3 (h : MI F N L) (e : F2 = updF F 3 (upd (F 3) k v)) (hk : N ≤ k) : MI F2 N L := by
  subst e
  obtain ⟨a1, a2, a3, a4, a5, a6, a7, a8⟩ := h
  refine ⟨fun y hy => ?_, a2, a3, a4, a5, a6, a7, a8⟩
  show ∃ n : Nat, n ≤ 16 ∧ F 2 y = nI n ∧ (0 < n → iX y (upd (F 3) k v y))
  rw [pk_un (by omega)]
  exact a1 y hy
theorem MI.p23 (h : MI F N L) (e : F2 = updF F 23 (upd (F 23) k v)) (hk : L ≤ k) : MI F2 N L := by
  subst e
  obtain ⟨a1, a2, a3, a4, a5, a6, a7, a8⟩ := h
  refine ⟨a1, a2, a3, a4, a5, a6, fun i hi => ?_, a8⟩
  show iX 5 (F 24 i) ∧ iX 5 (F 25 i) ∧ (upd (F 23) k v i = 1 ∨ upd (F 23) k v i = 2 → iX N (F 27 i))
  rw [pk_un (by omega)]
  exact a7 i hi
theorem MI.p24 (h : MI F N L) (e : F2 = updF F 24 (upd (F 24) k v)) (hk : L ≤ k) : MI F2 N L := by
  subst e
  obtain ⟨a1, a2, a3, a4, a5, a6, a7, a8⟩ := h
  refine ⟨a1, a2, a3, a4, a5, a6, fun i hi => ?_, a8⟩
  show iX 5 (upd (F 24) k v i) ∧ iX 5 (F 25 i) ∧ (F 23 i = 1 ∨ F 23 i = 2 → iX N (F 27 i))
  rw [pk_un (by omega)]
  exact a7 i hi
theorem MI.p25 (h : MI F N L) (e : F2 = updF F 25 (upd (F 25) k v)) (hk : L ≤ k) : MI F2 N L := by
  subst e
  obtain ⟨a1, a2, a3, a4, a5, a6, a7, a8⟩ := h
  refine ⟨a1, a2, a3, a4, a5, a6, fun i hi => ?_, a8⟩
  show iX 5 (F 24 i) ∧ iX 5 (upd (F 25) k v i) ∧ (F 23 i = 1 ∨ F 23 i = 2 → iX N (F 27 i))
  rw [pk_un (by omega)]
  exact a7 i hi
theorem MI.p27 (h : MI F N L) (e : F2 = updF F 27 (upd (F 27) k v)) (hk : L ≤ k) : MI F2 N L := by
  subst e
  obtain ⟨a1, a2, a3, a4, a5, a6, a7, a8⟩ := h
  refine ⟨a1, a2, a3, a4, a5, a6, fun i hi => ?_, a8⟩
  show iX 5 (F 24 i) ∧ iX 5 (F 25 i) ∧ (F 23 i = 1 ∨ F 23 i = 2 → iX N (upd (F 27) k v i))
  rw [pk_un (by omega)]
  exact a7 i hi
/-- a state more -/
theorem MI.bN (h : MI F N L) {n : Nat} (hn : n ≤ 16) (h2 : F 2 N = nI n) (h3 : iX N (F 3 N)) (hN : N + 1 ≤ 500) : MI F (N + 1) L := by
  obtain ⟨a1, a2, a3, a4, a5, a6, a7, -, a9⟩ := h
  refine ⟨fun y hy => ?_, fun i hi => (a2 i hi).le (Nat.le_succ N), fun i hi => (a3 i hi).le (Nat.le_succ N), fun i hi => (a4 i hi).le (Nat.le_succ N), fun i hi => (a5 i hi).le (Nat.le_succ N), fun i hi => (a6 i hi).le (Nat.le_succ N), fun i hi => ⟨(a7 i hi).1, (a7 i hi).2.1, fun q => ((a7 i hi).2.2 q).le (Nat.le_succ N)⟩, hN, a9⟩
  by_cases e : y = N
  · subst e
    exact ⟨n, hn, h2, fun _ => h3⟩
  · exact a1 y (by omega)
/-- a letter more -/
theorem MI.bL (h : MI F N L) (h4 : iX 5 (F 24 L)) (h5 : iX 5 (F 25 L)) (h7 : F 23 L = 1 ∨ F 23 L = 2 → iX N (F 27 L)) (hL : L + 1 ≤ 41) : MI F N (L + 1) := by
  obtain ⟨a1, a2, a3, a4, a5, a6, a7, a8, -⟩ := h
  refine ⟨a1, a2, a3, a4, a5, a6, fun i hi => ?_, a8, hL⟩
  by_cases e : i = L
  · subst e
    exact ⟨h4, h5, h7⟩
  · exact a7 i (by omega)
theorem MI.lss {L2 : Nat} (h : MI F N L) (h2 : L2 ≤ L) : MI F N L2 := by
  obtain ⟨a1, a2, a3, a4, a5, a6, a7, a8, a9⟩ := h
  exact ⟨a1, a2, a3, a4, a5, a6, fun i hi => a7 i (by omega), a8, by omega⟩
/-- a letter's place gets the next one's -/
theorem MI.sh {F1 F3 F4 F5 : Nat → Nat → Int32} (h : MI F N L) (hk : k + 1 < L) (e1 : F1 = updF F 23 (upd (F 23) k (F 23 (k + 1)))) (e2 : F2 = updF F1 24 (upd (F1 24) k (F1 24 (k + 1)))) (e3 : F3 = updF F2 25 (upd (F2 25) k (F2 25 (k + 1)))) (e4 : F4 = updF F3 26 (upd (F3 26) k (F3 26 (k + 1)))) (e5 : F5 = updF F4 27 (upd (F4 27) k (F4 27 (k + 1)))) : MI F5 N L := by
  subst e5
  subst e4
  subst e3
  subst e2
  subst e1
  obtain ⟨a1, a2, a3, a4, a5, a6, a7, a8⟩ := h
  refine ⟨a1, a2, a3, a4, a5, a6, fun i hi => ?_, a8⟩
  show iX 5 (upd (F 24) k (F 24 (k + 1)) i) ∧ iX 5 (upd (F 25) k (F 25 (k + 1)) i) ∧ (upd (F 23) k (F 23 (k + 1)) i = 1 ∨ upd (F 23) k (F 23 (k + 1)) i = 2 → iX N (upd (F 27) k (F 27 (k + 1)) i))
  by_cases e : i = k
  · subst e
    rw [pk_us, pk_us, pk_us, pk_us]
    exact a7 (i + 1) hk
  · rw [pk_un e, pk_un e, pk_un e, pk_un e]
    exact a7 i hi
theorem MI.i2 (h : MI F N L) {y : Nat} (hy : y < N) : ∃ n : Nat, n ≤ 16 ∧ F 2 y = nI n ∧ (0 < n → iX y (F 3 y)) := h.1 y hy
theorem MI.i8 (h : MI F N L) {i : Nat} (hi : i < 5) : iX N (F 8 i) := h.2.1 i hi
theorem MI.i11 (h : MI F N L) {i : Nat} (hi : i < 5) : iX N (F 11 i) := h.2.2.1 i hi
theorem MI.i19 (h : MI F N L) {i : Nat} (hi : i < 25) : iX N (F 19 i) := h.2.2.2.1 i hi
theorem MI.i16 (h : MI F N L) {i : Nat} (hi : i < 5) : iXn N (F 16 i) := h.2.2.2.2.1 i hi
theorem MI.i28 (h : MI F N L) {i : Nat} (hi : i < 5) : iXn N (F 28 i) := h.2.2.2.2.2.1 i hi
theorem MI.i24 (h : MI F N L) {i : Nat} (hi : i < L) : iX 5 (F 24 i) := (h.2.2.2.2.2.2.1 i hi).1
theorem MI.i25 (h : MI F N L) {i : Nat} (hi : i < L) : iX 5 (F 25 i) := (h.2.2.2.2.2.2.1 i hi).2.1
theorem MI.i27 (h : MI F N L) {i : Nat} (hi : i < L) : F 23 i = 1 ∨ F 23 i = 2 → iX N (F 27 i) := (h.2.2.2.2.2.2.1 i hi).2.2
theorem MI.n9 (h : MI F N L) : N ≤ 500 := h.2.2.2.2.2.2.2.1
theorem MI.l9 (h : MI F N L) : L ≤ 41 := h.2.2.2.2.2.2.2.2
end MIS
/-! sets of stations -/
abbrev hasb (x y : Int32) : Prop := (x >>> (y &&& 31)) &&& 1 = 1
def mny (x : Int32) : Nat → Nat
  | 0 => 0
  | i + 1 => mny x i + if hasb x (nI i) then 1 else 0
def cnt (x : Int32) (s : Nat) : Nat → Nat
  | 0 => 0
  | i + 1 => cnt x s i + if i ≠ s ∧ hasb x (nI i) then 1 else 0
theorem mny_le (x : Int32) (i : Nat) : mny x i ≤ i := by
  induction i with
  | zero => exact Nat.le_refl 0
  | succ i ih =>
    show mny x i + _ ≤ i + 1
    split <;> omega
theorem cnt_le (x : Int32) (s i : Nat) : cnt x s i ≤ mny x i := by
  induction i with
  | zero => exact Nat.le_refl 0
  | succ i ih =>
    show cnt x s i + (if i ≠ s ∧ hasb x (nI i) then 1 else 0) ≤ mny x i + (if hasb x (nI i) then 1 else 0)
    by_cases h : hasb x (nI i)
    · rw [if_pos h]; split <;> omega
    · rw [if_neg h, if_neg (fun q => h q.2)]; omega
theorem cnt_mono (x : Int32) (s : Nat) {i j : Nat} (h : i ≤ j) : cnt x s i ≤ cnt x s j := by
  induction j with
  | zero => have : i = 0 := by omega
            subst this; exact Nat.le_refl _
  | succ j ih =>
    by_cases e : i = j + 1
    · subst e; exact Nat.le_refl _
    · have := ih (by omega)
      show cnt x s i ≤ cnt x s j + _
      omega
theorem cnt_own {s : Nat} (hs : s < 5) : cnt ((1 : Int32) <<< (nI s &&& 31)) s 5 = 0 := by
  rcases (show s = 0 ∨ s = 1 ∨ s = 2 ∨ s = 3 ∨ s = 4 by omega) with rfl | rfl | rfl | rfl | rfl <;> decide +kernel
theorem cnt_31 {s : Nat} (hs : s < 5) : cnt 31 s 5 = 4 := by
  rcases (show s = 0 ∨ s = 1 ∨ s = 2 ∨ s = 3 ∨ s = 4 by omega) with rfl | rfl | rfl | rfl | rfl <;> decide +kernel
theorem tt_put {F F2 : Nat → Nat → Int32} {f12 f20 f : Nat → Int32} {j : Nat} (h : F 12 = f12 ∧ F 20 = f20) (e : F2 = updF F j f) (h1 : 12 ≠ j) (h2 : 20 ≠ j) : F2 12 = f12 ∧ F2 20 = f20 := by
  subst e
  exact ⟨(updF_ne h1).trans h.1, (updF_ne h2).trans h.2⟩
theorem mm_put {F F2 : Nat → Nat → Int32} {f : Nat → Int32} {i j x : Nat} {v : Int32} (h : F i x = v) (e : F2 = updF F j f) (h1 : i ≠ j) : F2 i x = v := by
  subst e
  exact (congrFun (updF_ne h1) x).trans h
theorem mm_at {F F2 : Nat → Nat → Int32} {j k : Nat} {v : Int32} (e : F2 = updF F j (upd (F j) k v)) : F2 j k = v := by
  subst e
  rw [updF_at, pk_us]
theorem ff_put {F F2 : Nat → Nat → Int32} {f : Nat → Int32} {i j : Nat} {g : Nat → Int32} (h : F i = g) (e : F2 = updF F j f) (h1 : i ≠ j) : F2 i = g := by
  subst e
  exact (updF_ne h1).trans h
theorem hb1 {P : Prop} [Decidable P] {r : Int32} (hw : r = if P then 1 else 0) (h : ¬ r = 0) : P := by
  by_cases q : P
  · exact q
  · rw [if_neg q] at hw; exact absurd hw h
theorem hb0 {P : Prop} [Decidable P] {r : Int32} (hw : r = if P then 1 else 0) (h : r = 0) : ¬ P := by
  intro q
  rw [if_pos q, h] at hw
  exact absurd hw (by decide)
theorem i_full {L n : Nat} {v : Int32} (h : nI L + v ≤ 40) (hv : v = nI n) (hL : L ≤ 41) (hn : n ≤ 100) : L + n ≤ 40 := by
  subst hv
  rw [nI_add] at h
  exact (nI_leI (b := 40) (by omega) (by omega)).mp h
theorem i_full1 {L n : Nat} {v : Int32} (h : nI L + v ≤ 40) (hv : v = nI n - 1) (hL : L ≤ 41) (hn : n ≤ 100) : L + n ≤ 41 := by
  subst hv
  have e : nI L + (nI n - 1) + 1 = nI (L + n) := by rw [← nI_add]; rw [Int32.add_assoc, Int32.sub_add_cancel]
  have h1 : (nI L + (nI n - 1)).toInt = (L : Int) + n - 1 := by
    have h2 : nI L + (nI n - 1) = nI (L + n) - nI 1 := by
      rw [← e]
      exact (Int32.add_sub_cancel _ _).symm
    rw [h2, pk_sub_toInt (by omega) (by omega)]
    omega
  have h3 := Int32.le_iff_toInt_le.mp h
  rw [h1] at h3
  have h4 : (40 : Int32).toInt = 40 := by decide
  rw [h4] at h3
  omega
theorem i_full2 {L n : Nat} {v : Int32} (h : nI L + v ≤ 40) (hv : v = nI n - 2) (hL : L ≤ 41) (hn : n ≤ 100) : L + n ≤ 42 := by
  subst hv
  have e : nI L + (nI n - 2) + 2 = nI (L + n) := by rw [← nI_add]; rw [Int32.add_assoc, Int32.sub_add_cancel]
  have h1 : (nI L + (nI n - 2)).toInt = (L : Int) + n - 2 := by
    have h2 : nI L + (nI n - 2) = nI (L + n) - nI 2 := by
      rw [← e]
      exact (Int32.add_sub_cancel _ _).symm
    rw [h2, pk_sub_toInt (by omega) (by omega)]
    omega
  have h3 := Int32.le_iff_toInt_le.mp h
  rw [h1] at h3
  have h4 : (40 : Int32).toInt = 40 := by decide
  rw [h4] at h3
  omega

