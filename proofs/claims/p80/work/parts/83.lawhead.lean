
def R_law : String := "MergeJudgeLaw"
def lw_P (b : Addr) (xs : List Int32) (args : Array Value) (s : State) : Prop := args = #[.ref b] ∧ s.IntsAt b xs ∧ xs.length ≤ 3072 ∧ (Jvm.Cond.and given_1 narrow_1).before args s = true
def lw_Q (_ : Array Value) (s : State) (o : Outcome) (t : State) : Prop := o = .returned (some (.int 1)) ∧ Framed s o t [] 600000 7302250
def lw_Z (below : List Frame) (a : Array Value) (s : State) : State → Prop := fun t => ∃ o, t.status = .running ∧ Ended t below o ∧ lw_Q a s o t
/-- the law's own end, with 1 on the stack, nothing written that was there before, its room as the claim has it -/
theorem lw_ret {p : Program} {l : Launch} {e : Env} {s : State} {m : MethodId} {below : List Frame} {meth : Method} {c : Code} {b : Nat} (hx : p.tables.exec = Jvm.exec) (hb : c.code = code) (hr : meth.sig.returnType = ret) (hlocks : meth.locks = false) {pc : Nat} {H : Heap} {ls : Array Slot} (hdg : decode code pc = .ok (.ireturn, 1)) : W p l e room_1 s m #[Value.ref b] below meth c H [] 600000 7302250 (lw_Z below #[Value.ref b] s) (F0 m pc ls [.int 1]) := by
  intro T hT X
  obtain ⟨fs, hret, hrun, hended, hW, hframe⟩ := X.leave (v := some (.int 1)) (hlocks := hlocks) (fun h => by rw [hr] at h; cases h)
  have hmeth' : T.vm.method? m = some meth := X.method'
  refine ⟨T.setFrames fs, ?_, .returned (some (.int 1)), hrun, hended, rfl, ⟨_, rfl⟩, hW, hframe⟩
  jvm_step X.here [X.here.top, hx, hb, hdg, hmeth', hr, ret, narrow_b1]
  (try refine ⟨rfl, ?_⟩); (try refine ⟨rfl, ?_⟩)
  first | (intro acts; rw [hret _ acts rfl rfl rfl]) | rw [hret _ _ rfl rfl rfl]
  exact Steps.refl _
/-- what holds at the law's entry: the machine, the code, the tables' words (any of lw_tbl by 'hts w (by decide +kernel)'), the script of L ints xs at the cell b, what the Statement gives of the start (any of its parts by flat_of_before) -/
def lw_At (p : Program) (s : State) (m : MethodId) (meth : Method) (c : Code) (b L : Nat) (xs : Nat → Int32) : Prop :=
  p.tables.exec = Jvm.exec ∧ c.code = code ∧ meth.sig.returnType = ret ∧ c.maxLocals = 4 ∧ s.vm.findClass R_law = some m.cls ∧ (∀ w ∈ lw_tbl, w.before #[Value.ref b] s = true) ∧ va_X b L xs s s.heap ∧ b < s.heap.size ∧ meth.locks = false ∧ (Jvm.Cond.and given_1 narrow_1).before #[Value.ref b] s = true

set_option maxHeartbeats 4000000 in
set_option maxRecDepth 100000 in
theorem law_K {s : State} {b : Nat} (hts : ∀ w ∈ lw_tbl, w.before #[Value.ref b] s = true) : ∃ (D : va_G) (cs : Nat → ClassId), va_K D vwCl (mtyA cs) s ∧ mEnv s := by
  obtain ⟨c0, iS0, hKn0⟩ := u_known (C := RX0) (T := TX0) (N := 15) (n := 15) hts uIm_X0 (hts (.instantiable RX0 15) (tin_1 _ (List.mem_of_getElem? (i := 45) rfl)))
  obtain ⟨c1, iS1, hKn1⟩ := u_known (C := RX1) (T := TX1) (N := 4) (n := 4) hts uIm_X1 (hts (.instantiable RX1 4) (tin_2 _ (List.mem_of_getElem? (i := 32) rfl)))
  obtain ⟨c2, iS2, hKn2⟩ := u_known (C := RX2) (T := TX2) (N := 12) (n := 12) hts uIm_X2 (hts (.instantiable RX2 12) (tin_1 _ (List.mem_of_getElem? (i := 216) rfl)))
  obtain ⟨c3, iS3, hKn3⟩ := u_known (C := RX3) (T := TX3) (N := 1) (n := 1) hts uIm_X3 (hts (.instantiable RX3 1) (tin_1 _ (List.mem_of_getElem? (i := 222) rfl)))
  obtain ⟨c4, iS4, hKn4⟩ := u_known (C := RX4) (T := TX4) (N := 9) (n := 9) hts uIm_X4 (hts (.instantiable RX4 9) (tin_1 _ (List.mem_of_getElem? (i := 139) rfl)))
  obtain ⟨c5, iS5, hKn5⟩ := u_known (C := RX5) (T := TX5) (N := 4) (n := 4) hts uIm_X5 (hts (.instantiable RX5 4) (tin_2 _ (List.mem_of_getElem? (i := 53) rfl)))
  obtain ⟨c6, iS6, hKn6⟩ := u_known (C := RX6) (T := TX6) (N := 8) (n := 8) hts uIm_X6 (hts (.instantiable RX6 8) (tin_1 _ (List.mem_of_getElem? (i := 175) rfl)))
  obtain ⟨c7, iS7, hKn7⟩ := u_known (C := RX7) (T := TX7) (N := 2) (n := 2) hts uIm_X7 (hts (.instantiable RX7 2) (tin_1 _ (List.mem_of_getElem? (i := 28) rfl)))
  obtain ⟨c8, iS8, hKn8⟩ := u_known (C := RX8) (T := TX8) (N := 10) (n := 10) hts uIm_X8 (hts (.instantiable RX8 10) (tin_1 _ (List.mem_of_getElem? (i := 20) rfl)))
  obtain ⟨c9, iS9, hKn9⟩ := u_known (C := RX9) (T := TX9) (N := 42) (n := 42) hts uIm_X9 (hts (.instantiable RX9 42) (tin_5 _ (List.mem_of_getElem? (i := 235) rfl)))
  obtain ⟨a0, ka0, co0, p0, q0, r0⟩ := Cond.arrayClass_spec (hts (.arrayClass .byte) (tin_1 _ (List.mem_of_getElem? (i := 43) rfl)))
  obtain ⟨a1, ka1, co1, p1, q1, r1⟩ := Cond.arrayClass_spec (hts (.arrayClass .int) (tin_1 _ (List.mem_of_getElem? (i := 137) rfl)))
  obtain ⟨a2, ka2, co2, p2, q2, r2⟩ := Cond.arrayClass_spec (hts (.arrayClass .long) (tin_1 _ (List.mem_of_getElem? (i := 214) rfl)))
  obtain ⟨a3, ka3, co3, p3, q3, r3⟩ := Cond.arrayClass_spec (hts (.arrayClass .boolean) (tin_2 _ (List.mem_of_getElem? (i := 77) rfl)))
  have ho4 := hts (.arrayOver (.object "MergeJudge$Base")) (tin_2 _ (List.mem_of_getElem? (i := 50) rfl))
  obtain ⟨co4, a4, ka4, p4, x4, q4, r4, n4⟩ := Cond.arrayOver_spec ho4
  have ho5 := hts (.arrayOver (.object "MergeJudge$Slot")) (tin_2 _ (List.mem_of_getElem? (i := 52) rfl))
  obtain ⟨co5, a5, ka5, p5, x5, q5, r5, n5⟩ := Cond.arrayOver_spec ho5
  refine ⟨(fun k => if k = 0 then c0 else if k = 1 then c1 else if k = 2 then c2 else if k = 3 then c3 else if k = 4 then c4 else if k = 5 then c5 else if k = 6 then c6 else if k = 7 then c7 else if k = 8 then c8 else c9, fun k => if k = 0 then iS0 else if k = 1 then iS1 else if k = 2 then iS2 else if k = 3 then iS3 else if k = 4 then iS4 else if k = 5 then iS5 else if k = 6 then iS6 else if k = 7 then iS7 else if k = 8 then iS8 else iS9), fun k => if k = 0 then a0 else if k = 1 then a1 else if k = 2 then a2 else if k = 3 then a3 else if k = 4 then a4 else a5, ⟨?_, ?_⟩, ?_⟩
  · intro k q hq
    match k, hq with
    | 0, hq => cases hq; exact hKn0
    | 1, hq => cases hq; exact hKn1
    | 2, hq => cases hq; exact hKn2
    | 3, hq => cases hq; exact hKn3
    | 4, hq => cases hq; exact hKn4
    | 5, hq => cases hq; exact hKn5
    | 6, hq => cases hq; exact hKn6
    | 7, hq => cases hq; exact hKn7
    | 8, hq => cases hq; exact hKn8
    | 9, hq => cases hq; exact hKn9
    | k + 10, hq => simp [vwCl] at hq
  · intro k q hq
    match k, hq with
    | 0, hq => cases hq; exact ⟨fun n z => ⟨fun k h => (by cases h), ka0, q0, co0, r0⟩, p0⟩
    | 1, hq => cases hq; exact ⟨fun n z => ⟨fun k h => (by cases h), ka1, q1, co1, r1⟩, p1⟩
    | 2, hq => cases hq; exact ⟨fun n z => ⟨fun k h => (by cases h), ka2, q2, co2, r2⟩, p2⟩
    | 3, hq => cases hq; exact ⟨fun n z => ⟨fun k h => (by cases h), ka3, q3, co3, r3⟩, p3⟩
    | 4, hq => cases hq; exact ⟨fun n z => ⟨fun k h => (by cases h), ka4, q4, co4, r4⟩, ka4, co4, q4, r4, p4, n4⟩
    | 5, hq => cases hq; exact ⟨fun n z => ⟨fun k h => (by cases h), ka5, q5, co5, r5⟩, ka5, co5, q5, r5, p5, n5⟩
    | k + 6, hq => simp [mtyA] at hq
  · exact ⟨va_Nw.of rfl (hts (.methodLinkNest "MergeJudge" 9 yX7_init "MergeJudge") (tin_1 _ (List.mem_of_getElem? (i := 29) rfl))), va_Nw.of rfl (hts (.methodLinkNest "MergeJudge" 18 yX0_init "MergeJudge") (tin_1 _ (List.mem_of_getElem? (i := 46) rfl))), va_Nw.of rfl (hts (.methodLinkNest "MergeJudge" 37 yX6_init "MergeJudge") (tin_1 _ (List.mem_of_getElem? (i := 176) rfl))), va_Nw.of rfl (hts (.methodLinkNest "MergeJudge" 74 yX5_init "MergeJudge") (tin_2 _ (List.mem_of_getElem? (i := 54) rfl))), va_Nw.of rfl (hts (.methodLinkNest "MergeJudge$Judge" 11 yX3_init "MergeJudge") (tin_1 _ (List.mem_of_getElem? (i := 223) rfl))), va_AO.of ho4, va_AO.of ho5⟩

def lawW (cs : Nat → ClassId) (x0 : Nat) (ax : Nat → Nat) (y0 : Nat) (ay : Nat → Nat) (vn : Nat → Nat) (vi : Nat → Int32) (vl : Nat → Int64) (fi : Nat → Nat → Int32) (fl : Nat → Nat → Int64) : va_W := [(x0, .inr (8, [.ref (ax 0), .ref (ax 1), .ref (ax 2), .ref (ax 3), .ref (ax 4), .ref (ax 5), .ref (ax 6), .ref (ax 7), .ref (ax 8), .ref (ax 9)])), (ax 0, .inr (7, [.ref (ax 10), .int (nI (vn 0))])), (ax 10, .inl (cs 0, 400, .inl (fi 0))), (ax 1, .inr (0, [.int (vi 0), .int (nI (vn 1)), .int (vi 1), .int (vi 2), .int (nI (vn 2)), .int (nI (vn 3)), .int (nI (vn 4)), .int (nI (vn 5)), .int (vi 3), .int (vi 4), .ref (ax 11), .ref (ax 12), .ref (ax 13), .ref (ax 14), .ref (ax 15)])), (ax 11, .inl (cs 1, 3, .inl (fi 1))), (ax 12, .inl (cs 1, 25, .inl (fi 2))), (ax 13, .inl (cs 1, 20, .inl (fi 3))), (ax 14, .inl (cs 1, 20, .inl (fi 4))), (ax 15, .inl (cs 1, 20, .inl (fi 5))), (ax 2, .inr (0, [.int (vi 5), .int (nI (vn 6)), .int (vi 6), .int (vi 7), .int (nI (vn 7)), .int (nI (vn 8)), .int (nI (vn 9)), .int (nI (vn 10)), .int (vi 8), .int (vi 9), .ref (ax 16), .ref (ax 17), .ref (ax 18), .ref (ax 19), .ref (ax 20)])), (ax 16, .inl (cs 1, 3, .inl (fi 6))), (ax 17, .inl (cs 1, 25, .inl (fi 7))), (ax 18, .inl (cs 1, 20, .inl (fi 8))), (ax 19, .inl (cs 1, 20, .inl (fi 9))), (ax 20, .inl (cs 1, 20, .inl (fi 10))), (ax 3, .inr (4, [.ref (ax 0), .ref (ax 1), .int (vi 10), .int (nI (vn 11)), .int (nI (vn 12)), .int (vi 11), .int (vi 12), .int (vi 13), .int (vi 14)])), (ax 4, .inr (6, [.int (nI (vn 13)), .int (nI (vn 14)), .int (nI (vn 15)), .long (vl 0), .ref (ax 21), .ref (ax 22), .ref (ax 23), .ref (ax 24)])), (ax 21, .inl (cs 1, 3, .inl (fi 11))), (ax 22, .inl (cs 1, 64, .inl (fi 12))), (ax 23, .inl (cs 2, 5, .inr (.inl (fl 0)))), (ax 24, .inl (cs 1, 320, .inl (fi 13))), (ax 5, .inr (2, [.ref (ax 2), .ref (ax 4), .ref (ax 25), .int (vi 15), .int (vi 16), .long (vl 1), .ref (ax 26), .ref (ax 27), .ref (ax 28), .ref (ax 29), .ref (ax 30), .ref (ax 31)])), (ax 25, .inr (3, [.ref (ax 32)])), (ax 32, .inl (cs 1, 192, .inl (fi 14))), (ax 26, .inl (cs 1, 64, .inl (fi 15))), (ax 27, .inl (cs 2, 64, .inr (.inl (fl 1)))), (ax 28, .inl (cs 2, 64, .inr (.inl (fl 2)))), (ax 29, .inl (cs 2, 3, .inr (.inl (fl 3)))), (ax 30, .inl (cs 1, 5, .inl (fi 16))), (ax 31, .inl (cs 1, 5, .inl (fi 17))), (ax 6, .inr (1, [.ref (ax 2), .ref (ax 5), .ref (ax 33), .ref (ax 34)])), (ax 33, .inl (cs 1, 32, .inl (fi 18))), (ax 34, .inl (cs 1, 4, .inl (fi 19))), (ax 7, .inl (cs 4, 3, .inr (.inr (.inr (.inr (va_up (va_up (va_up (fun _ => none) 0 (some (ax 35))) 1 (some (ax 36))) 2 (some (ax 37)))))))), (ax 8, .inl (cs 3, 3, .inl (fi 20))), (ax 35, .inr (0, [.int (vi 17), .int (nI (vn 16)), .int (vi 18), .int (vi 19), .int (nI (vn 17)), .int (nI (vn 18)), .int (nI (vn 19)), .int (nI (vn 20)), .int (vi 20), .int (vi 21), .ref (ax 38), .ref (ax 39), .ref (ax 40), .ref (ax 41), .ref (ax 42)])), (ax 38, .inl (cs 1, 3, .inl (fi 21))), (ax 39, .inl (cs 1, 25, .inl (fi 22))), (ax 40, .inl (cs 1, 20, .inl (fi 23))), (ax 41, .inl (cs 1, 20, .inl (fi 24))), (ax 42, .inl (cs 1, 20, .inl (fi 25))), (ax 36, .inr (0, [.int (vi 22), .int (nI (vn 21)), .int (vi 23), .int (vi 24), .int (nI (vn 22)), .int (nI (vn 23)), .int (nI (vn 24)), .int (nI (vn 25)), .int (vi 25), .int (vi 26), .ref (ax 43), .ref (ax 44), .ref (ax 45), .ref (ax 46), .ref (ax 47)])), (ax 43, .inl (cs 1, 3, .inl (fi 26))), (ax 44, .inl (cs 1, 25, .inl (fi 27))), (ax 45, .inl (cs 1, 20, .inl (fi 28))), (ax 46, .inl (cs 1, 20, .inl (fi 29))), (ax 47, .inl (cs 1, 20, .inl (fi 30))), (ax 37, .inr (0, [.int (vi 27), .int (nI (vn 26)), .int (vi 28), .int (vi 29), .int (nI (vn 27)), .int (nI (vn 28)), .int (nI (vn 29)), .int (nI (vn 30)), .int (vi 30), .int (vi 31), .ref (ax 48), .ref (ax 49), .ref (ax 50), .ref (ax 51), .ref (ax 52)])), (ax 48, .inl (cs 1, 3, .inl (fi 31))), (ax 49, .inl (cs 1, 25, .inl (fi 32))), (ax 50, .inl (cs 1, 20, .inl (fi 33))), (ax 51, .inl (cs 1, 20, .inl (fi 34))), (ax 52, .inl (cs 1, 20, .inl (fi 35))), (ax 9, .inl (cs 5, 4, .inr (.inr (.inr (.inr (va_up (va_up (va_up (va_up (fun _ => none) 0 (some (ax 53))) 1 (some (ax 54))) 2 (some (ax 55))) 3 (some (ax 56)))))))), (ax 53, .inr (5, [.int (vi 32), .int (vi 33), .int (nI (vn 31)), .ref (ax 57)])), (ax 57, .inl (cs 2, 60, .inr (.inl (fl 4)))), (ax 54, .inr (5, [.int (vi 34), .int (vi 35), .int (nI (vn 32)), .ref (ax 58)])), (ax 58, .inl (cs 2, 60, .inr (.inl (fl 5)))), (ax 55, .inr (5, [.int (vi 36), .int (vi 37), .int (nI (vn 33)), .ref (ax 59)])), (ax 59, .inl (cs 2, 60, .inr (.inl (fl 6)))), (ax 56, .inr (5, [.int (vi 38), .int (vi 39), .int (nI (vn 34)), .ref (ax 60)])), (ax 60, .inl (cs 2, 60, .inr (.inl (fl 7)))), (y0, .inr (9, [.int (vi 40), .ref (ay 0), .ref (ay 1), .ref (ay 2), .ref (ay 3), .int (nI (vn 35)), .ref (ay 4), .int (nI (vn 36)), .int (nI (vn 37)), .int (nI (vn 38)), .int (vi 41), .int (vi 42), .int (vi 43), .int (vi 44), .ref (ay 5), .ref (ay 6), .int (vi 45), .int (vi 46), .int (vi 47), .ref (ay 7), .ref (ay 8), .ref (ay 9), .ref (ay 10), .ref (ay 11), .ref (ay 12), .int (vi 48), .int (vi 49), .int (vi 50), .int (vi 51), .int (vi 52), .int (vi 53), .int (vi 54), .int (vi 55), .int (vi 56), .ref (ay 13), .long (vl 2), .long (vl 3), .long (vl 4), .ref (ay 14), .ref (ay 15), .ref (ay 16), .ref (ay 17)])), (ay 0, .inl (cs 1, 76, .inl (fi 36))), (ay 1, .inl (cs 1, 228, .inl (fi 37))), (ay 2, .inl (cs 3, 3, .inl (fi 38))), (ay 3, .inl (cs 0, 400, .inl (fi 39))), (ay 4, .inl (cs 1, 5, .inl (fi 40))), (ay 5, .inl (cs 1, 76, .inl (fi 41))), (ay 6, .inl (cs 1, 3, .inl (fi 42))), (ay 7, .inl (cs 3, 64, .inl (fi 43))), (ay 8, .inl (cs 1, 320, .inl (fi 44))), (ay 9, .inl (cs 1, 64, .inl (fi 45))), (ay 10, .inl (cs 1, 64, .inl (fi 46))), (ay 11, .inl (cs 3, 4096, .inl (fi 47))), (ay 12, .inl (cs 1, 5, .inl (fi 48))), (ay 13, .inl (cs 1, 32, .inl (fi 49))), (ay 14, .inl (cs 1, 4, .inl (fi 50))), (ay 15, .inl (cs 1, 4, .inl (fi 51))), (ay 16, .inl (cs 2, 240, .inr (.inl (fl 8)))), (ay 17, .inl (cs 2, 60, .inr (.inl (fl 9))))]
def LInv (vn : Nat → Nat) (vi : Nat → Int32) (vl : Nat → Int64) (fi : Nat → Nat → Int32) (fl : Nat → Nat → Int64) : Prop := vn 0 ≤ 400 ∧ vn 1 ≤ 3 ∧ vn 2 ≤ 3 ∧ vn 3 ≤ 5 ∧ vn 4 ≤ 5 ∧ vn 5 ≤ 20 ∧ vn 6 ≤ 3 ∧ vn 7 ≤ 3 ∧ vn 8 ≤ 5 ∧ vn 9 ≤ 5 ∧ vn 10 ≤ 20 ∧ vn 13 ≤ 64 ∧ vn 14 ≤ 3 ∧ vn 15 ≤ 3 ∧ RES (fi 13) ∧ vn 16 ≤ 3 ∧ vn 17 ≤ 3 ∧ vn 18 ≤ 5 ∧ vn 19 ≤ 5 ∧ vn 20 ≤ 20 ∧ vn 21 ≤ 3 ∧ vn 22 ≤ 3 ∧ vn 23 ≤ 5 ∧ vn 24 ≤ 5 ∧ vn 25 ≤ 20 ∧ vn 26 ≤ 3 ∧ vn 27 ≤ 3 ∧ vn 28 ≤ 5 ∧ vn 29 ≤ 5 ∧ vn 30 ≤ 20 ∧ vn 31 ≤ 60 ∧ vn 32 ≤ 60 ∧ vn 33 ≤ 60 ∧ vn 34 ≤ 60 ∧ vn 35 ≤ 400 ∧ vn 36 ≤ 400 ∧ RES (fi 44) ∧ WOK (fi 36) ∧ MOK (fi 50) ∧ IOK (fi 37) ∧ SR (vi 32) (vi 33) (vn 31) (fi 50) (fi 51) 0 ∧ SR (vi 34) (vi 35) (vn 32) (fi 50) (fi 51) 1 ∧ SR (vi 36) (vi 37) (vn 33) (fi 50) (fi 51) 2 ∧ SR (vi 38) (vi 39) (vn 34) (fi 50) (fi 51) 3
theorem small_gt2 {i L : Nat} (hL : L ≤ 3072) (hi : i ≤ 4000) (h : L < i + 6) : nI i > Int32.ofNat L - 6 := by
  rw [gt_iff_lt, Int32.lt_iff_toInt_lt, show Int32.ofNat L - 6 = nI L - nI 6 from rfl, pk_sub_toInt (by omega) (by decide), nI_toInt (by omega)]
  omega
theorem small_le {i L : Nat} (hL : L ≤ 3072) (h : i + 6 ≤ L) : ¬ nI i > Int32.ofNat L - 6 := by
  rw [gt_iff_lt, Int32.lt_iff_toInt_lt, show Int32.ofNat L - 6 = nI L - nI 6 from rfl, pk_sub_toInt (by omega) (by decide), nI_toInt (by omega)]
  omega
set_option maxHeartbeats 8000000 in
set_option maxRecDepth 100000 in
theorem law_fin {p : Program} {e : Env} {s : State} {m : MethodId} {below : List Frame} {meth : Method} {c : Code} (l : Launch) {b L : Nat} {xs : Nat → Int32} (C0 : lw_At p s m meth c b L xs) {H : Heap} {locs : List Loc} {ls : Array Slot} (hS : va_S (fun q : Nat => s.heap.size ≤ q) s.heap H locs) {k n : Nat} (hk : k ≤ 600000) (hn : n ≤ 7302250) : W p l e room_1 s m #[Value.ref b] below meth c H locs k n (lw_Z below #[Value.ref b] s) (F0 m 2477 ls []) := by
  obtain ⟨hx, hb, hr, hml, hown, hts, hX, hbl, hlocks, hgv⟩ := id C0
  have hA : ∀ q : Nat, s.heap.size ≤ q → (fun q : Nat => s.heap.size ≤ q) q := fun _ h => h
  have hbA : ¬ (fun q : Nat => s.heap.size ≤ q) b := Nat.not_le.mpr hbl
  have hFix := (⟨hx, hb, hml, hown, hts⟩ : CallFix p m c _ _ s #[Value.ref b] lw_tbl RL)
  refine va_forget hS.2.2 ?_
  refine W.widen (k := 600000) (n := 7302250) hk hn ?_
  refine lv_iconst (v := 1) hx hb dL_law_2477 (by decide) ?_
  exact lw_ret hx hb hr hlocks dL_law_2478
set_option maxHeartbeats 8000000 in
set_option maxRecDepth 100000 in
theorem law_end {p : Program} {e : Env} {s : State} {m : MethodId} {below : List Frame} {meth : Method} {c : Code} (l : Launch) {b L : Nat} {xs : Nat → Int32} (C0 : lw_At p s m meth c b L xs) {i : Nat} {x0 y0 : Nat} {H : Heap} {locs : List Loc} (I1 : ∀ ls : Array Slot, lv_has ls 4 [(3, .int (nI (i + 6))), (2, .ref y0), (1, .ref x0), (0, .ref b)] → W p l e room_1 s m #[Value.ref b] below meth c H locs 81 7838 (lw_Z below #[Value.ref b] s) (F0 m 18 ls [])) {ls : Array Slot} (hl : lv_has ls 4 [(3, .int (nI i)), (2, .ref y0), (1, .ref x0), (0, .ref b)]) : W p l e room_1 s m #[Value.ref b] below meth c H locs 81 7838 (lw_Z below #[Value.ref b] s) (F0 m 2471 ls []) := by
  obtain ⟨hx, hb, hr, hml, hown, hts, hX, hbl, hlocks, hgv⟩ := id C0
  have hA : ∀ q : Nat, s.heap.size ≤ q → (fun q : Nat => s.heap.size ≤ q) q := fun _ h => h
  have hbA : ¬ (fun q : Nat => s.heap.size ≤ q) b := Nat.not_le.mpr hbl
  have hFix := (⟨hx, hb, hml, hown, hts⟩ : CallFix p m c _ _ s #[Value.ref b] lw_tbl RL)
  refine lv_iinc (v := nI (i + 6)) (lv' := [(3, .int (nI (i + 6))), (2, .ref y0), (1, .ref x0), (0, .ref b)]) hx hb dL_law_2471 hl (k := 0) rfl (nI_add i 6) (by decide) rfl (fun ls hl => ?_)
  refine lv_goto (tgt := 18) hx hb dL_law_2474 (by decide) ?_
  exact I1 ls hl
