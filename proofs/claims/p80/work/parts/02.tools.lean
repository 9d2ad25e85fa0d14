/-! own tools: a contract's shape, its entry, its end, a call -/
section MjTools
abbrev mtyA (cs : Nat → ClassId) : List (ClassId × FieldType) := [(cs 0, .byte), (cs 1, .int), (cs 2, .long), (cs 3, .boolean), (cs 4, .object "MergeJudge$Base"), (cs 5, .object "MergeJudge$Slot")]
/-- what the tables say of nest mates' constructors, and of arrays of references -/
def mEnv (U : State) : Prop := va_Nw (.methodLinkNest "MergeJudge" 9 yX7_init "MergeJudge") U ∧ va_Nw (.methodLinkNest "MergeJudge" 18 yX0_init "MergeJudge") U ∧ va_Nw (.methodLinkNest "MergeJudge" 37 yX6_init "MergeJudge") U ∧ va_Nw (.methodLinkNest "MergeJudge" 74 yX5_init "MergeJudge") U ∧ va_Nw (.methodLinkNest "MergeJudge$Judge" 11 yX3_init "MergeJudge") U ∧ va_AO "MergeJudge$Base" U ∧ va_AO "MergeJudge$Slot" U
theorem mEnv.warm {s U : State} (h : mEnv s) (hW : s.WarmedH U.vm) : mEnv U := ⟨h.1.warmM hW, h.2.1.warmM hW, h.2.2.1.warmM hW, h.2.2.2.1.warmM hW, h.2.2.2.2.1.warmM hW, h.2.2.2.2.2.1.moved hW.alike, h.2.2.2.2.2.2.moved hW.alike⟩
theorem mEnv.call {U : State} (h : mEnv U) (g : JFrame) (mk : MethodId) (a : Array Value) : mEnv (U.calling g mk a) := ⟨h.1.same (U := U.calling g mk a) rfl rfl, h.2.1.same (U := U.calling g mk a) rfl rfl, h.2.2.1.same (U := U.calling g mk a) rfl rfl, h.2.2.2.1.same (U := U.calling g mk a) rfl rfl, h.2.2.2.2.1.same (U := U.calling g mk a) rfl rfl, h.2.2.2.2.2.1.moved (U := U.calling g mk a) (Vm.Alike.refl U.vm), h.2.2.2.2.2.2.moved (U := U.calling g mk a) (Vm.Alike.refl U.vm)⟩
def mpre (D : va_G) (cs : Nat → ClassId) (W : va_W) (sz : Nat) (U : State) : Prop := U.heap.size = sz ∧ va_P D vwCl W U.heap ∧ va_K D vwCl (mtyA cs) U ∧ va_D (fun _ => True) W ∧ mEnv U
def mpost {S : Type} (D : va_G) (A : Nat → Prop) (w : S → va_W) (u : S) (t : State) : Prop := va_P D vwCl (w u) t.heap ∧ va_D A (w u)
abbrev mRm (fr mc ms lo : Nat) : Room := { frames := fr, cells := mc, slots := ms, locals := lo }
abbrev Mi (l : Launch) (D : va_G) (cs : Nat → ClassId) (y : MethodName) (ws : List Cond) (fr lo mc ms : Nat) (As : List Value) (W : va_W) (sz : Nat) {S : Type} (post : Int32 → S → Prop) (w : S → va_W) : Prop :=
  Met l y ws (mRm fr mc ms lo) (va_Pc As (mpre D cs W sz)) (va_Qi post (mpost D (va_A W sz) w) (va_A W sz)) mc ms (va_A W sz)
abbrev Ml (l : Launch) (D : va_G) (cs : Nat → ClassId) (y : MethodName) (ws : List Cond) (fr lo mc ms : Nat) (As : List Value) (W : va_W) (sz : Nat) {S : Type} (post : Int64 → S → Prop) (w : S → va_W) : Prop :=
  Met l y ws (mRm fr mc ms lo) (va_Pc As (mpre D cs W sz)) (va_Ql post (mpost D (va_A W sz) w) (va_A W sz)) mc ms (va_A W sz)
abbrev Mv (l : Launch) (D : va_G) (cs : Nat → ClassId) (y : MethodName) (ws : List Cond) (fr lo mc ms : Nat) (As : List Value) (W : va_W) (sz : Nat) {S : Type} (post : S → Prop) (w : S → va_W) : Prop :=
  Met l y ws (mRm fr mc ms lo) (va_Pc As (mpre D cs W sz)) (va_Qv post (mpost D (va_A W sz) w) (va_A W sz)) mc ms (va_A W sz)
theorem fm_of_map {α : Type} {l : List Nat} {W0 wc : List α} (h : l.map (fun i => W0[i]?) = wc.map some) : l.filterMap (fun i => W0[i]?) = wc := by
  have h1 := congrArg (List.filterMap id) h
  simpa [List.filterMap_map] using h1
/-- the entry: what every body of a method begins with -/
theorem ent {l : Launch} {D : va_G} {cs : Nat → ClassId} {y : MethodName} {ws ws' : List Cond} {fr lo mc ms maxL sz : Nat} {ret : Option FieldType} {cc : ByteArray} {As : List Value} {W0 : va_W} {Qx : (Nat → Prop) → Array Value → State → Outcome → State → Prop} (hy : plainName y.cls = true) (hw : ws = Cond.code y cc maxL ret :: ws') (hn : (lg_sl As).length ≤ maxL)
    (body : ∀ (p : Program) (e : Env) (s : State) (m : MethodId) (below : List Frame) (meth : Method) (c : Code) (A : Nat → Prop) (ls : Array Slot), p.tables.exec = Jvm.exec → c.code = cc → meth.sig.returnType = ret → c.maxLocals = maxL → meth.locks = false → s.vm.findClass y.cls = some m.cls → (∀ w ∈ ws, w.before As.toArray s = true) → meth.name = y.name → va_K D vwCl (mtyA cs) s → mEnv s → va_P D vwCl W0 s.heap → va_D A W0 → (∀ q, s.heap.size ≤ q → A q) → va_S A s.heap s.heap [] → lv_has ls maxL (lv_args 0 As) →
      W p l e (mRm fr mc ms lo) s m As.toArray below meth c s.heap [] 0 0 (MQ below (Qx A) As.toArray s mc ms A) (F0 m 0 ls [])) :
    Met l y ws (mRm fr mc ms lo) (va_Pc As (mpre D cs W0 sz)) (Qx (va_A W0 sz)) mc ms (va_A W0 sz) := by
  refine Met.ofW (cc := cc) (maxL := maxL) (ret := ret) hy hw ?_
  intro p e s m args below meth c s₁ B hml hv
  obtain ⟨rfl, hsz, hP, hK, hD0, hE⟩ := hv
  subst hsz
  rw [lg_entry_eq]
  exact body p e s m below meth c _ _ B.exec B.bytes B.returns hml B.notSynchronized (findClass_of_methodNamed B.named) (atoms_spec (ws := ws) B.pre) (name_of_methodNamed B.named B.method).1 hK hE hP hD0.self (fun q h => Or.inr h) va_S.rf (lv_entry As hn)
variable {p : Program} {l : Launch} {e : Env} {R : Room} {s : State} {m : MethodId} {args : Array Value} {below : List Frame} {meth : Method} {c : Code} {H : Heap} {locs : List Loc} {cells slots : Nat} {Q : State → Prop}
variable {cc : ByteArray} {pc : Nat} {ls : Array Slot} {rest : List Value} {D : va_G} {cs : Nat → ClassId} {A : Nat → Prop}
/-- a computed number is replaced by an equal one -/
theorem cf_i {x : Int32} (y : Int32) (h : x = y) (k : W p l e R s m args below meth c H locs cells slots Q (F0 m pc ls (.int y :: rest))) : W p l e R s m args below meth c H locs cells slots Q (F0 m pc ls (.int x :: rest)) := by rw [h]; exact k
theorem cf_l {x : Int64} (y : Int64) (h : x = y) (k : W p l e R s m args below meth c H locs cells slots Q (F0 m pc ls (.long y :: rest))) : W p l e R s m args below meth c H locs cells slots Q (F0 m pc ls (.long x :: rest)) := by rw [h]; exact k
theorem cf_v {x : Value} (y : Value) (h : x = y) (k : W p l e R s m args below meth c H locs cells slots Q (F0 m pc ls (y :: rest))) : W p l e R s m args below meth c H locs cells slots Q (F0 m pc ls (x :: rest)) := by rw [h]; exact k
theorem ret_i {S : Type} {post : Int32 → S → Prop} {w : S → va_W} {v : Int32} {mc ms : Nat} (hx : p.tables.exec = Jvm.exec) (hb : c.code = cc) (hr : meth.sig.returnType = some .int) (hlk : meth.locks = false) (hS : va_S A s.heap H locs) (hcm : cells ≤ mc) (hsm : slots ≤ ms) (u : S) (hp : post v u) (hP : va_P D vwCl (w u) H) (hD : va_D A (w u)) (hdg : decode cc pc = .ok (.ireturn, 1)) :
    W p l e R s m args below meth c H locs cells slots (MQ below (va_Qi post (mpost D A w) A) args s mc ms A) (F0 m pc ls [.int v]) :=
  W.widen hcm hsm (W.iret hx hb hr (fun t ht _ => ⟨⟨v, u, rfl, hp, by rw [ht]; exact hP, hD⟩, hS.F ht⟩) hS.2.2 hdg hlk)
theorem ret_z {S : Type} {post : Int32 → S → Prop} {w : S → va_W} {v : Int32} {mc ms : Nat} (hx : p.tables.exec = Jvm.exec) (hb : c.code = cc) (hr : meth.sig.returnType = some .boolean) (hlk : meth.locks = false) (hS : va_S A s.heap H locs) (hcm : cells ≤ mc) (hsm : slots ≤ ms) (hnz : narrow .boolean (.int v) = .int v) (u : S) (hp : post v u) (hP : va_P D vwCl (w u) H) (hD : va_D A (w u)) (hdg : decode cc pc = .ok (.ireturn, 1)) :
    W p l e R s m args below meth c H locs cells slots (MQ below (va_Qi post (mpost D A w) A) args s mc ms A) (F0 m pc ls [.int v]) :=
  W.widen hcm hsm (W.zret hx hb hr hnz (fun t ht _ => ⟨⟨v, u, rfl, hp, by rw [ht]; exact hP, hD⟩, hS.F ht⟩) hS.2.2 hdg hlk)
theorem ret_l {S : Type} {post : Int64 → S → Prop} {w : S → va_W} {v : Int64} {mc ms : Nat} (hx : p.tables.exec = Jvm.exec) (hb : c.code = cc) (hr : meth.sig.returnType = some .long) (hlk : meth.locks = false) (hS : va_S A s.heap H locs) (hcm : cells ≤ mc) (hsm : slots ≤ ms) (u : S) (hp : post v u) (hP : va_P D vwCl (w u) H) (hD : va_D A (w u)) (hdg : decode cc pc = .ok (.lreturn, 1)) :
    W p l e R s m args below meth c H locs cells slots (MQ below (va_Ql post (mpost D A w) A) args s mc ms A) (F0 m pc ls [.long v]) :=
  W.widen hcm hsm (W.lret hx hb hr (fun t ht _ => ⟨⟨v, u, rfl, hp, by rw [ht]; exact hP, hD⟩, hS.F ht⟩) hS.2.2 hdg hlk)
theorem ret_v {S : Type} {post : S → Prop} {w : S → va_W} {mc ms : Nat} (hx : p.tables.exec = Jvm.exec) (hb : c.code = cc) (hr : meth.sig.returnType = none) (hlk : meth.locks = false) (hS : va_S A s.heap H locs) (hcm : cells ≤ mc) (hsm : slots ≤ ms) (u : S) (hp : post u) (hP : va_P D vwCl (w u) H) (hD : va_D A (w u)) (hdg : decode cc pc = .ok (.return_, 1)) :
    W p l e R s m args below meth c H locs cells slots (MQ below (va_Qv post (mpost D A w) A) args s mc ms A) (F0 m pc ls []) :=
  W.widen hcm hsm (W.vret hx hb hr (fun t ht _ => ⟨⟨u, rfl, hp, by rw [ht]; exact hP, hD⟩, hS.F ht⟩) hS.2.2 hdg hlk)
/-- what a call needs of its caller, and how its state comes back: the callee's cells by its contract, the others as they were -/
theorem aft_i {S : Type} {post : Int32 → S → Prop} {w : S → va_W} {W0 wc wr : va_W} {st0 : List Value} {mc ms : Nat} {a : Array Value} (hP : va_P D vwCl W0 H) (hD : va_D A W0) (hS : va_S A s.heap H locs) (hA : ∀ q, s.heap.size ≤ q → A q) (isC isR : List Nat) (hC : isC.map (fun i => W0[i]?) = wc.map some) (hR : isR.map (fun i => W0[i]?) = wr.map some) (hn : va_nd isR = true) (hdis : ∀ i ∈ isR, i ∉ isC)
    (hr : va_Run p l e R s m args below meth c H locs cells slots mc ms (F0 m pc ls st0) rest (va_Qi post (mpost D (va_A wc H.size) w) (va_A wc H.size) a) (va_A wc H.size))
    (kk : ∀ (r : Int32) (u : S) (H1 : Heap) (locs1 : List Loc), post r u → va_P D vwCl (wr ++ w u) H1 → va_D A (wr ++ w u) → va_S A s.heap H1 locs1 → W p l e R s m args below meth c H1 locs1 (cells + mc) (slots + ms) Q (F0 m (pc + 3) ls (.int r :: rest))) : W p l e R s m args below meth c H locs cells slots Q (F0 m pc ls st0) := by
  have hFc := va_free (wc := wc) hD hS hA isC hC
  refine va_calli hr hS (fun q _ h => hFc q h) hFc (fun r u t H1 locs1 ht hvm hp hB hz hk hS1 => ?_)
  obtain ⟨hP1, hD1⟩ := hB
  rw [ht] at hP1
  obtain ⟨hP2, hD2⟩ := va_join hP hD isC isR hC hR hn hdis hk hFc hP1 hD1
  exact kk r u H1 locs1 hp hP2 hD2 hS1
theorem aft_l {S : Type} {post : Int64 → S → Prop} {w : S → va_W} {W0 wc wr : va_W} {st0 : List Value} {mc ms : Nat} {a : Array Value} (hP : va_P D vwCl W0 H) (hD : va_D A W0) (hS : va_S A s.heap H locs) (hA : ∀ q, s.heap.size ≤ q → A q) (isC isR : List Nat) (hC : isC.map (fun i => W0[i]?) = wc.map some) (hR : isR.map (fun i => W0[i]?) = wr.map some) (hn : va_nd isR = true) (hdis : ∀ i ∈ isR, i ∉ isC)
    (hr : va_Run p l e R s m args below meth c H locs cells slots mc ms (F0 m pc ls st0) rest (va_Ql post (mpost D (va_A wc H.size) w) (va_A wc H.size) a) (va_A wc H.size))
    (kk : ∀ (r : Int64) (u : S) (H1 : Heap) (locs1 : List Loc), post r u → va_P D vwCl (wr ++ w u) H1 → va_D A (wr ++ w u) → va_S A s.heap H1 locs1 → W p l e R s m args below meth c H1 locs1 (cells + mc) (slots + ms) Q (F0 m (pc + 3) ls (.long r :: rest))) : W p l e R s m args below meth c H locs cells slots Q (F0 m pc ls st0) := by
  have hFc := va_free (wc := wc) hD hS hA isC hC
  refine va_calll hr hS (fun q _ h => hFc q h) hFc (fun r u t H1 locs1 ht hvm hp hB hz hk hS1 => ?_)
  obtain ⟨hP1, hD1⟩ := hB
  rw [ht] at hP1
  obtain ⟨hP2, hD2⟩ := va_join hP hD isC isR hC hR hn hdis hk hFc hP1 hD1
  exact kk r u H1 locs1 hp hP2 hD2 hS1
theorem aft_v {S : Type} {post : S → Prop} {w : S → va_W} {W0 wc wr : va_W} {st0 : List Value} {mc ms : Nat} {a : Array Value} (hP : va_P D vwCl W0 H) (hD : va_D A W0) (hS : va_S A s.heap H locs) (hA : ∀ q, s.heap.size ≤ q → A q) (isC isR : List Nat) (hC : isC.map (fun i => W0[i]?) = wc.map some) (hR : isR.map (fun i => W0[i]?) = wr.map some) (hn : va_nd isR = true) (hdis : ∀ i ∈ isR, i ∉ isC)
    (hr : va_Run p l e R s m args below meth c H locs cells slots mc ms (F0 m pc ls st0) rest (va_Qv post (mpost D (va_A wc H.size) w) (va_A wc H.size) a) (va_A wc H.size))
    (kk : ∀ (u : S) (H1 : Heap) (locs1 : List Loc), post u → va_P D vwCl (wr ++ w u) H1 → va_D A (wr ++ w u) → va_S A s.heap H1 locs1 → W p l e R s m args below meth c H1 locs1 (cells + mc) (slots + ms) Q (F0 m (pc + 3) ls rest)) : W p l e R s m args below meth c H locs cells slots Q (F0 m pc ls st0) := by
  have hFc := va_free (wc := wc) hD hS hA isC hC
  refine va_callv hr hS (fun q _ h => hFc q h) hFc (fun u t H1 locs1 ht hvm hp hB hz hk hS1 => ?_)
  obtain ⟨hP1, hD1⟩ := hB
  rw [ht] at hP1
  obtain ⟨hP2, hD2⟩ := va_join hP hD isC isR hC hR hn hdis hk hFc hP1 hD1
  exact kk u H1 locs1 hp hP2 hD2 hS1
/-- a contract's start at a call -/
theorem at_pre {wc W0 : va_W} {As : List Value} (hK : va_K D vwCl (mtyA cs) s) (hE : mEnv s) (hP : va_P D vwCl W0 H) (hD : va_D A W0) (isC : List Nat) (hC : isC.map (fun i => W0[i]?) = wc.map some) (hn : va_nd isC = true) : ∀ U : State, U.heap = H → s.WarmedH U.vm → va_Pc As (mpre D cs wc H.size) As.toArray U := by
  intro U hU hW
  refine ⟨rfl, by rw [hU], ?_, va_K.moved hW.alike hK, (hD.sub isC hn hC).weaken (fun _ _ _ _ => trivial), hE.warm hW⟩
  rw [hU]
  exact hP.sub isC (fm_of_map hC)
theorem run_v {y : MethodName} {bytes : ByteArray} {maxL nL mc ms n index ci NN : Nat} {T : u_T} {ret : Option FieldType} {ws : List Cond} {rm : Room} {Ts : List Cond} {own C : String} {b : Addr} {fs : List Value} {As : List Value} {W0 wc : va_W} {st0 : List Value} {Qc : Array Value → State → Outcome → State → Prop} {free : Addr → Prop}
    (S0 : CallFix p m c cc nL s args Ts own) (hK : va_K D vwCl (mtyA cs) s) (hE : mEnv s) (hP : va_P D vwCl W0 H) (hD : va_D A W0) (isC : List Nat)
    (hM : Met l y ws rm (va_Pc (.ref b :: As) (mpre D cs wc H.size)) Qc mc ms free) (cw : CallW R s args own C index y bytes maxL ret ws rm mc ms n)
    (hC : isC.map (fun i => W0[i]?) = wc.map some) (hn : va_nd isC = true) (hq : wc[0]? = some (b, .inr (ci, fs))) (hc : vwCl[ci]? = some (C, T, NN))
    (hlen : As.length = n) (hnl : ls.size = nL) (hst : st0 = As.reverse ++ .ref b :: rest) (hW : (rest.map fun v => v.category).sum ≤ 8) (hdg : decode cc pc = .ok (.invokevirtual index, 3)) (hcell : cells + mc ≤ R.cells ∧ slots + ms ≤ R.slots) :
    va_Run p l e R s m args below meth c H locs cells slots mc ms (F0 m pc ls st0) rest (Qc (Value.ref b :: As).toArray) free :=
  va_runV (As := As) (rest := rest) S0 hM cw ⟨fun a U g mk q => by
      obtain ⟨q0, q1, qP, qK, qD, qE⟩ := q
      exact ⟨q0, q1, qP, va_K.moved (u := U) (U := U.calling g mk a) (Vm.Alike.refl U.vm) qK, qD, qE.call g mk a⟩,
    va_recv hK (hP.sub isC (fm_of_map hC)) hc hq, at_pre hK hE hP hD isC hC hn⟩ rfl hlen hnl hst (lv_room hW) hdg hcell
theorem run_s {y : MethodName} {bytes : ByteArray} {maxL nL mc ms n index : Nat} {ret : Option FieldType} {ws : List Cond} {rm : Room} {Ts : List Cond} {own : String} {As : List Value} {W0 wc : va_W} {st0 : List Value} {Qc : Array Value → State → Outcome → State → Prop} {free : Addr → Prop}
    (S0 : CallFix p m c cc nL s args Ts own) (hK : va_K D vwCl (mtyA cs) s) (hE : mEnv s) (hP : va_P D vwCl W0 H) (hD : va_D A W0) (isC : List Nat)
    (hM : Met l y ws rm (va_Pc As (mpre D cs wc H.size)) Qc mc ms free) (cw : CallB R s args own index y bytes maxL ret ws rm mc ms n ∧ (Cond.static y).before args s = true)
    (hC : isC.map (fun i => W0[i]?) = wc.map some) (hn : va_nd isC = true)
    (hlen : As.length = n) (hnl : ls.size = nL) (hst : st0 = As.reverse ++ rest) (hW : (rest.map fun v => v.category).sum ≤ 8) (hdg : decode cc pc = .ok (.invokestatic index, 3)) (hcell : cells + mc ≤ R.cells ∧ slots + ms ≤ R.slots) :
    va_Run p l e R s m args below meth c H locs cells slots mc ms (F0 m pc ls st0) rest (Qc As.toArray) free :=
  va_runS (As := As) (rest := rest) S0 hM cw ⟨fun a U g mk q => by
      obtain ⟨q0, q1, qP, qK, qD, qE⟩ := q
      exact ⟨q0, q1, qP, va_K.moved (u := U) (U := U.calling g mk a) (Vm.Alike.refl U.vm) qK, qD, qE.call g mk a⟩, at_pre hK hE hP hD isC hC hn⟩ rfl hlen hnl hst (lv_room hW) hdg hcell
theorem run_i {y : MethodName} {bytes : ByteArray} {maxL nL mc ms n index : Nat} {ws : List Cond} {rm : Room} {Ts : List Cond} {own : String} {b : Addr} {As : List Value} {W0 wc : va_W} {st0 : List Value} {Qc : Array Value → State → Outcome → State → Prop} {free : Addr → Prop}
    (S0 : CallFix p m c cc nL s args Ts own) (hK : va_K D vwCl (mtyA cs) s) (hE : mEnv s) (hP : va_P D vwCl W0 H) (hD : va_D A W0) (isC : List Nat)
    (hM : Met l y ws rm (va_Pc (.ref b :: As) (mpre D cs wc H.size)) Qc mc ms free) (cw : CallB R s args own index y bytes maxL none ws rm mc ms n ∧ y.name = "<init>" ∧ (Cond.instanceMethod y).before args s = true)
    (hC : isC.map (fun i => W0[i]?) = wc.map some) (hn : va_nd isC = true)
    (hlen : As.length = n) (hnl : ls.size = nL) (hst : st0 = As.reverse ++ .ref b :: rest) (hW : (rest.map fun v => v.category).sum ≤ 8) (hdg : decode cc pc = .ok (.invokespecial index, 3)) (hcell : cells + mc ≤ R.cells ∧ slots + ms ≤ R.slots) :
    va_Run p l e R s m args below meth c H locs cells slots mc ms (F0 m pc ls st0) rest (Qc (Value.ref b :: As).toArray) free :=
  va_runI (As := As) (rest := rest) S0 hM cw ⟨fun a U g mk q => by
      obtain ⟨q0, q1, qP, qK, qD, qE⟩ := q
      exact ⟨q0, q1, qP, va_K.moved (u := U) (U := U.calling g mk a) (Vm.Alike.refl U.vm) qK, qD, qE.call g mk a⟩, at_pre hK hE hP hD isC hC hn⟩ rfl hlen hnl hst (lv_room hW) hdg hcell
theorem run_in {y : MethodName} {bytes : ByteArray} {maxL nL mc ms n index : Nat} {ws : List Cond} {rm : Room} {Ts : List Cond} {own host : String} {b : Addr} {As : List Value} {W0 wc : va_W} {st0 : List Value} {Qc : Array Value → State → Outcome → State → Prop} {free : Addr → Prop}
    (S0 : CallFix p m c cc nL s args Ts own) (hK : va_K D vwCl (mtyA cs) s) (hE : mEnv s) (hP : va_P D vwCl W0 H) (hD : va_D A W0) (isC : List Nat)
    (hM : Met l y ws rm (va_Pc (.ref b :: As) (mpre D cs wc H.size)) Qc mc ms free) (cw : va_CN R s args own index y host bytes maxL none ws rm mc ms n ∧ y.name = "<init>" ∧ (Cond.instanceMethod y).before args s = true)
    (hC : isC.map (fun i => W0[i]?) = wc.map some) (hn : va_nd isC = true)
    (hlen : As.length = n) (hnl : ls.size = nL) (hst : st0 = As.reverse ++ .ref b :: rest) (hW : (rest.map fun v => v.category).sum ≤ 8) (hdg : decode cc pc = .ok (.invokespecial index, 3)) (hcell : cells + mc ≤ R.cells ∧ slots + ms ≤ R.slots) :
    va_Run p l e R s m args below meth c H locs cells slots mc ms (F0 m pc ls st0) rest (Qc (Value.ref b :: As).toArray) free :=
  va_runIN (As := As) (rest := rest) S0 hM cw ⟨fun a U g mk q => by
      obtain ⟨q0, q1, qP, qK, qD, qE⟩ := q
      exact ⟨q0, q1, qP, va_K.moved (u := U) (U := U.calling g mk a) (Vm.Alike.refl U.vm) qK, qD, qE.call g mk a⟩, at_pre hK hE hP hD isC hC hn⟩ rfl hlen hnl hst (lv_room hW) hdg hcell
/-- a new array of a kind that is known already is of that kind's class -/
theorem one_ty {tys : List (ClassId × FieldType)} {cA cB : ClassId} {ty : FieldType} {nm : String} (t0 t1 : Nat) (h0 : tys[t0]? = some (cA, ty)) (h1 : tys[t1]? = some (cB, ty)) (hK : va_K D vwCl tys s) (nmr : ∀ {x : ClassId}, va_RA s x ty → s.vm.findClass nm = some x) : cB = cA :=
  Option.some.inj ((nmr (hK.2 t1 _ h1).2).symm.trans (nmr (hK.2 t0 _ h0).2))
end MjTools
theorem lt_nI {i n : Nat} (h : ¬ nI n ≤ nI i) (hn : n < 2 ^ 31) (hi : i < 2 ^ 31) : i < n := by
  rcases Nat.lt_or_ge i n with q | q
  · exact q
  · exact absurd (nI_le q hi) h
theorem i32_toInt_inj {x y : Int32} (h : x.toInt = y.toInt) : x = y := Int32.toInt_inj.mp h
theorem sp_3 {k : Int32} (h1 : ¬ k < 0) (h2 : ¬ 3 ≤ k) : k = 0 ∨ k = 1 ∨ k = 2 := by
  rw [Int32.lt_iff_toInt_lt] at h1
  rw [Int32.le_iff_toInt_le] at h2
  have e0 : (0 : Int32).toInt = 0 := by decide
  have e3 : (3 : Int32).toInt = 3 := by decide
  rw [e0] at h1
  rw [e3] at h2
  rcases (show k.toInt = 0 ∨ k.toInt = 1 ∨ k.toInt = 2 by omega) with h | h | h
  · exact Or.inl (i32_toInt_inj h)
  · exact Or.inr (Or.inl (i32_toInt_inj h))
  · exact Or.inr (Or.inr (i32_toInt_inj h))
theorem sp_4 {k : Int32} (h1 : ¬ k < 0) (h2 : ¬ 4 ≤ k) : k = 0 ∨ k = 1 ∨ k = 2 ∨ k = 3 := by
  rw [Int32.lt_iff_toInt_lt] at h1
  rw [Int32.le_iff_toInt_le] at h2
  have e0 : (0 : Int32).toInt = 0 := by decide
  have e3 : (4 : Int32).toInt = 4 := by decide
  rw [e0] at h1
  rw [e3] at h2
  rcases (show k.toInt = 0 ∨ k.toInt = 1 ∨ k.toInt = 2 ∨ k.toInt = 3 by omega) with h | h | h | h
  · exact Or.inl (i32_toInt_inj h)
  · exact Or.inr (Or.inl (i32_toInt_inj h))
  · exact Or.inr (Or.inr (Or.inl (i32_toInt_inj h)))
  · exact Or.inr (Or.inr (Or.inr (i32_toInt_inj h)))
