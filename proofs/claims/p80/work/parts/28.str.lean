/-! own tools: the literals, by their places; what the JDK's own members need -/
def nJS : Nat := 28
def chJS : List (List Nat) := [[98, 97, 115, 101], [116, 111, 112], [108, 97, 119], [111, 100, 100, 115], [99, 101, 108, 108], [109, 97, 120], [109, 105, 110], [97, 100, 100], [108, 97, 116, 101], [114, 117, 108, 101], [109, 111, 115, 116], [108, 101, 97, 115, 116], [117, 110, 108, 105, 107, 101], [115, 117, 109], [111, 114, 100, 101, 114], [105, 102], [65, 78], [65, 66, 83], [65, 78, 65, 78], [65, 66], [111, 112], [109, 111, 114, 101], [108, 101, 115, 115], [115, 101, 116], [109, 111, 118, 101], [65, 66, 80], [65, 80], []]
def lenJS : List Nat := [4, 3, 3, 4, 4, 3, 3, 3, 4, 4, 4, 5, 6, 3, 5, 2, 2, 3, 4, 2, 2, 4, 4, 3, 4, 3, 2, 0]
def bytJS : List (List Int32) := [[98, 97, 115, 101], [116, 111, 112], [108, 97, 119], [111, 100, 100, 115], [99, 101, 108, 108], [109, 97, 120], [109, 105, 110], [97, 100, 100], [108, 97, 116, 101], [114, 117, 108, 101], [109, 111, 115, 116], [108, 101, 97, 115, 116], [117, 110, 108, 105, 107, 101], [115, 117, 109], [111, 114, 100, 101, 114], [105, 102], [65, 78], [65, 66, 83], [65, 78, 65, 78], [65, 66], [111, 112], [109, 111, 114, 101], [108, 101, 115, 115], [115, 101, 116], [109, 111, 118, 101], [65, 66, 80], [65, 80], []]
def sTab : List (String × Nat × String × Nat) := [(RX4, 82, "base", 0), (RX4, 87, "top", 1), (RX4, 95, "law", 2), (RX4, 99, "odds", 3), (RX4, 59, "cell", 4), (RX4, 143, "max", 5), (RX4, 145, "min", 6), (RX4, 147, "add", 7), (RX4, 149, "late", 8), (RX4, 68, "rule", 9), (RX4, 151, "most", 10), (RX4, 153, "least", 11), (RX4, 155, "unlike", 12), (RX4, 157, "sum", 13), (RX4, 159, "order", 14), (RX4, 161, "if", 15), (RX4, 171, "AN", 16), (RX4, 173, "ABS", 17), (RX4, 175, "ANAN", 18), (RX4, 177, "AB", 19), (RX4, 73, "op", 20), (RX4, 163, "more", 21), (RX4, 165, "less", 22), (RX4, 167, "set", 23), (RX4, 169, "move", 24), (RX4, 179, "ABP", 25), (RX4, 181, "AP", 26), (RX9, 172, "base", 0), (RX9, 174, "top", 1), (RX9, 180, "law", 2), (RX9, 182, "odds", 3), (RX9, 222, "cell", 4), (RX9, 224, "rule", 9), (RX9, 226, "op", 20), (RX9, 231, "max", 5), (RX9, 232, "min", 6), (RX9, 233, "add", 7), (RX9, 235, "late", 8), (RX9, 220, "", 27), (RX9, 194, "most", 10), (RX9, 196, "least", 11), (RX9, 198, "unlike", 12), (RX9, 200, "sum", 13), (RX9, 202, "order", 14), (RX9, 204, "if", 15), (RX9, 212, "more", 21), (RX9, 214, "less", 22), (RX9, 216, "set", 23), (RX9, 218, "move", 24)]
/-- a literal's length, its char at a place -/
def sl (i : Nat) : Nat := lenJS.getD i 0
def sch (i k : Nat) : Nat := (chJS.getD i []).getD k 0
theorem sl_all : ∀ i, i < nJS → sl i ≤ 6 := by decide +kernel
theorem sl_le {i : Nat} (h : i < nJS) : sl i ≤ 6 := sl_all i h
theorem sl_31 {i : Nat} (h : i < nJS) : lenJS.getD i 0 < 2 ^ 31 := by
  have h6 := sl_le h
  unfold sl at h6
  omega
theorem sch_all : ∀ i, i < nJS → ∀ k, k < 6 → (k < sl i → ((bytJS.getD i []).getD k 0 = nI (sch i k) ∧ sch i k < 128)) := by decide +kernel
theorem sch_lt {i k : Nat} (h : i < nJS) (hk : k < sl i) : sch i k < 128 := (sch_all i h k (by have := sl_le h; omega) hk).2
theorem sch_at {i k : Nat} (h : i < nJS) (hk : k < sl i) : Value.int ((bytJS.getD i []).getD (nI k).toNatClampNeg 0) = .int (nI (sch i k)) := by
  have h6 := sl_le h
  rw [nI_clamp (by omega), (sch_all i h k (by omega) hk).1]
theorem and255 : ∀ j, j < 128 → nI j &&& 255 = nI j := by decide +kernel
theorem i2c_nI : ∀ j, j < 128 → ((nI j).toUInt32 % 65536).toInt32 = nI j := by decide +kernel
theorem nar_c : ∀ j, j < 128 → narrow .char (.int (nI j)) = .int (nI j) := by decide +kernel
section MjStr
def sEnv (aK aV : Nat → Nat) (A : Nat → Prop) (U : State) (H : Heap) : Prop := vk_S nJS lenJS bytJS aK aV A U H ∧ va_Z "java/lang/String" "COMPACT_STRINGS" "Z" (.int 1) A U H ∧ va_Zq "jdk/internal/util/Preconditions" "SIOOBE_FORMATTER" "Ljava/util/function/BiFunction;" A U H ∧ ∀ q ∈ sTab, vk_R q.1 q.2.1 q.2.2.1 (aK q.2.2.2) U
theorem sEnv.go {aK aV : Nat → Nat} {A B : Nat → Prop} {s U : State} {H : Heap} {locs : List Loc} (h : sEnv aK aV A s s.heap) (hS : va_S A s.heap H locs) (hB : ∀ q, B q → A q) (hU : U.heap = H) (hW : s.WarmedH U.vm) : sEnv aK aV B U U.heap := by
  rw [hU]
  exact ⟨((h.1.kept hS.2.1).narrow hB).moved hW.alike, ((h.2.1.kept hS.2.1).narrow hB).moved hW.alike, ((h.2.2.1.kept hS.2.1).narrow hB).moved hW.alike, fun q hq => vk_R.warm hW (h.2.2.2 q hq)⟩
theorem sEnv.call {aK aV : Nat → Nat} {A : Nat → Prop} {U : State} {H : Heap} (h : sEnv aK aV A U H) (g : JFrame) (mk : MethodId) (a : Array Value) : sEnv aK aV A (U.calling g mk a) H :=
  ⟨h.1.moved (U := U.calling g mk a) (Vm.Alike.refl U.vm), h.2.1.moved (U := U.calling g mk a) (Vm.Alike.refl U.vm), h.2.2.1.moved (U := U.calling g mk a) (Vm.Alike.refl U.vm), fun q hq => vk_R.same (u := U) (U := U.calling g mk a) rfl (h.2.2.2 q hq)⟩
def mpreS (D : va_G) (cs : Nat → ClassId) (W : va_W) (sz : Nat) (aK aV : Nat → Nat) (U : State) : Prop := mpre D cs W sz U ∧ sEnv aK aV (va_A W sz) U U.heap
abbrev Si (l : Launch) (D : va_G) (cs : Nat → ClassId) (aK aV : Nat → Nat) (y : MethodName) (ws : List Cond) (fr lo mc ms : Nat) (As : List Value) (W : va_W) (sz : Nat) {S : Type} (post : Int32 → S → Prop) (w : S → va_W) : Prop :=
  Met l y ws (mRm fr mc ms lo) (va_Pc As (mpreS D cs W sz aK aV)) (va_Qi post (mpost D (va_A W sz) w) (va_A W sz)) mc ms (va_A W sz)
abbrev Sl (l : Launch) (D : va_G) (cs : Nat → ClassId) (aK aV : Nat → Nat) (y : MethodName) (ws : List Cond) (fr lo mc ms : Nat) (As : List Value) (W : va_W) (sz : Nat) {S : Type} (post : Int64 → S → Prop) (w : S → va_W) : Prop :=
  Met l y ws (mRm fr mc ms lo) (va_Pc As (mpreS D cs W sz aK aV)) (va_Ql post (mpost D (va_A W sz) w) (va_A W sz)) mc ms (va_A W sz)
abbrev Sv (l : Launch) (D : va_G) (cs : Nat → ClassId) (aK aV : Nat → Nat) (y : MethodName) (ws : List Cond) (fr lo mc ms : Nat) (As : List Value) (W : va_W) (sz : Nat) {S : Type} (post : S → Prop) (w : S → va_W) : Prop :=
  Met l y ws (mRm fr mc ms lo) (va_Pc As (mpreS D cs W sz aK aV)) (va_Qv post (mpost D (va_A W sz) w) (va_A W sz)) mc ms (va_A W sz)
def mpostR {S : Type} (D : va_G) (A : Nat → Prop) (ad : S → Nat) (w : S → va_W) (u : S) (a : Nat) (t : State) : Prop := a = ad u ∧ va_P D vwCl (w u) t.heap ∧ va_D A (w u)
abbrev Sr (l : Launch) (D : va_G) (cs : Nat → ClassId) (aK aV : Nat → Nat) (y : MethodName) (ws : List Cond) (fr lo mc ms : Nat) (As : List Value) (W : va_W) (sz : Nat) {S : Type} (post : S → Prop) (ad : S → Nat) (w : S → va_W) : Prop :=
  Met l y ws (mRm fr mc ms lo) (va_Pc As (mpreS D cs W sz aK aV)) (va_Qr post (mpostR D (va_A W sz) ad w) (va_A W sz)) mc ms (va_A W sz)
theorem entS {l : Launch} {D : va_G} {cs : Nat → ClassId} {aK aV : Nat → Nat} {y : MethodName} {ws ws' : List Cond} {fr lo mc ms maxL sz : Nat} {ret : Option FieldType} {cc : ByteArray} {As : List Value} {W0 : va_W} {Qx : (Nat → Prop) → Array Value → State → Outcome → State → Prop} (hy : plainName y.cls = true) (hw : ws = Cond.code y cc maxL ret :: ws') (hn : (lg_sl As).length ≤ maxL)
    (body : ∀ (p : Program) (e : Env) (s : State) (m : MethodId) (below : List Frame) (meth : Method) (c : Code) (A : Nat → Prop) (ls : Array Slot), p.tables.exec = Jvm.exec → c.code = cc → meth.sig.returnType = ret → c.maxLocals = maxL → meth.locks = false → s.vm.findClass y.cls = some m.cls → (∀ w ∈ ws, w.before As.toArray s = true) → meth.name = y.name → va_K D vwCl (mtyA cs) s → mEnv s → sEnv aK aV A s s.heap → va_P D vwCl W0 s.heap → va_D A W0 → (∀ q, s.heap.size ≤ q → A q) → va_S A s.heap s.heap [] → lv_has ls maxL (lv_args 0 As) →
      W p l e (mRm fr mc ms lo) s m As.toArray below meth c s.heap [] 0 0 (MQ below (Qx A) As.toArray s mc ms A) (F0 m 0 ls [])) :
    Met l y ws (mRm fr mc ms lo) (va_Pc As (mpreS D cs W0 sz aK aV)) (Qx (va_A W0 sz)) mc ms (va_A W0 sz) := by
  refine Met.ofW (cc := cc) (maxL := maxL) (ret := ret) hy hw ?_
  intro p e s m args below meth c s₁ B hml hv
  obtain ⟨rfl, ⟨hsz, hP, hK, hD0, hE⟩, hV⟩ := hv
  subst hsz
  rw [lg_entry_eq]
  exact body p e s m below meth c _ _ B.exec B.bytes B.returns hml B.notSynchronized (findClass_of_methodNamed B.named) (atoms_spec (ws := ws) B.pre) (name_of_methodNamed B.named B.method).1 hK hE hV hP hD0.self (fun q h => Or.inr h) va_S.rf (lv_entry As hn)
variable {p : Program} {l : Launch} {e : Env} {R : Room} {s : State} {m : MethodId} {args : Array Value} {below : List Frame} {meth : Method} {c : Code} {H : Heap} {locs : List Loc} {cells slots : Nat} {Q : State → Prop}
variable {cc : ByteArray} {pc : Nat} {ls : Array Slot} {rest : List Value} {D : va_G} {cs : Nat → ClassId} {A : Nat → Prop} {aK aV : Nat → Nat}
theorem ret_n {S : Type} {post : Int32 → S → Prop} {w : S → va_W} {v : Int32} {mc ms : Nat} {ty : FieldType} (hx : p.tables.exec = Jvm.exec) (hb : c.code = cc) (hr : meth.sig.returnType = some ty) (hlk : meth.locks = false) (hS : va_S A s.heap H locs) (hcm : cells ≤ mc) (hsm : slots ≤ ms) (hnz : narrow ty (.int v) = .int v) (u : S) (hp : post v u) (hP : va_P D vwCl (w u) H) (hD : va_D A (w u)) (hdg : decode cc pc = .ok (.ireturn, 1)) :
    W p l e R s m args below meth c H locs cells slots (MQ below (va_Qi post (mpost D A w) A) args s mc ms A) (F0 m pc ls [.int v]) :=
  W.widen hcm hsm (W.zret hx hb hr hnz (fun t ht _ => ⟨⟨v, u, rfl, hp, by rw [ht]; exact hP, hD⟩, hS.F ht⟩) hS.2.2 hdg hlk)
theorem ret_r {S : Type} {post : S → Prop} {ad : S → Nat} {w : S → va_W} {v mc ms : Nat} {n : String} (hx : p.tables.exec = Jvm.exec) (hb : c.code = cc) (hr : meth.sig.returnType = some (.object n)) (hlk : meth.locks = false) (hS : va_S A s.heap H locs) (hcm : cells ≤ mc) (hsm : slots ≤ ms) (u : S) (hp : post u) (hv : v = ad u) (hP : va_P D vwCl (w u) H) (hD : va_D A (w u)) (hdg : decode cc pc = .ok (.areturn, 1)) :
    W p l e R s m args below meth c H locs cells slots (MQ below (va_Qr post (mpostR D A ad w) A) args s mc ms A) (F0 m pc ls [.ref v]) :=
  W.widen hcm hsm (W.aret hx hb hr (Or.inl ⟨n, rfl⟩) (Or.inr ⟨v, rfl⟩) (fun t ht _ => ⟨⟨u, v, rfl, hp, hv, by rw [ht]; exact hP, hD⟩, hS.F ht⟩) hS.2.2 hdg hlk)
theorem aft_r {S : Type} {post : S → Prop} {ad : S → Nat} {w : S → va_W} {W0 wc wr : va_W} {st0 : List Value} {mc ms : Nat} {a : Array Value} (hP : va_P D vwCl W0 H) (hD : va_D A W0) (hS : va_S A s.heap H locs) (hA : ∀ q, s.heap.size ≤ q → A q) (isC isR : List Nat) (hC : isC.map (fun i => W0[i]?) = wc.map some) (hR : isR.map (fun i => W0[i]?) = wr.map some) (hn : va_nd isR = true) (hdis : ∀ i ∈ isR, i ∉ isC)
    (hr : va_Run p l e R s m args below meth c H locs cells slots mc ms (F0 m pc ls st0) rest (va_Qr post (mpostR D (va_A wc H.size) ad w) (va_A wc H.size) a) (va_A wc H.size))
    (kk : ∀ (u : S) (H1 : Heap) (locs1 : List Loc), post u → va_P D vwCl (wr ++ w u) H1 → va_D A (wr ++ w u) → va_S A s.heap H1 locs1 → W p l e R s m args below meth c H1 locs1 (cells + mc) (slots + ms) Q (F0 m (pc + 3) ls (.ref (ad u) :: rest))) : W p l e R s m args below meth c H locs cells slots Q (F0 m pc ls st0) := by
  have hFc := va_free (wc := wc) hD hS hA isC hC
  refine va_callr hr hS (fun q _ h => hFc q h) hFc (fun u ra t H1 locs1 ht hvm hp hB hz hk hS1 => ?_)
  obtain ⟨rfl, hP1, hD1⟩ := hB
  rw [ht] at hP1
  obtain ⟨hP2, hD2⟩ := va_join hP hD isC isR hC hR hn hdis hk hFc hP1 hD1
  exact kk u H1 locs1 hp hP2 hD2 hS1
theorem at_preS {wc W0 : va_W} {As : List Value} (hK : va_K D vwCl (mtyA cs) s) (hE : mEnv s) (hV : sEnv aK aV A s s.heap) (hP : va_P D vwCl W0 H) (hD : va_D A W0) (hS : va_S A s.heap H locs) (hA : ∀ q, s.heap.size ≤ q → A q) (isC : List Nat) (hC : isC.map (fun i => W0[i]?) = wc.map some) (hn : va_nd isC = true) : ∀ U : State, U.heap = H → s.WarmedH U.vm → va_Pc As (mpreS D cs wc H.size aK aV) As.toArray U := by
  intro U hU hW
  have hFc := va_free (wc := wc) hD hS hA isC hC
  exact ⟨rfl, (at_pre (As := As) hK hE hP hD isC hC hn U hU hW).2, hV.go hS hFc hU hW⟩
theorem go_callS {As : List Value} {wc : va_W} {sz : Nat} (a : Array Value) (U : State) (g : JFrame) (mk : MethodId) (q : va_Pc As (mpreS D cs wc sz aK aV) a U) : va_Pc As (mpreS D cs wc sz aK aV) a (U.calling g mk a) := by
  obtain ⟨q0, ⟨q1, qP, qK, qD, qE⟩, qV⟩ := q
  exact ⟨q0, ⟨q1, qP, va_K.moved (u := U) (U := U.calling g mk a) (Vm.Alike.refl U.vm) qK, qD, qE.call g mk a⟩, qV.call g mk a⟩
theorem run_vS {y : MethodName} {bytes : ByteArray} {maxL nL mc ms n index : Nat} {ret : Option FieldType} {ws : List Cond} {rm : Room} {Ts : List Cond} {own C : String} {b : Addr} {As : List Value} {W0 wc : va_W} {st0 : List Value} {Qc : Array Value → State → Outcome → State → Prop} {free : Addr → Prop}
    (S0 : CallFix p m c cc nL s args Ts own) (hK : va_K D vwCl (mtyA cs) s) (hE : mEnv s) (hV : sEnv aK aV A s s.heap) (hP : va_P D vwCl W0 H) (hD : va_D A W0) (hS : va_S A s.heap H locs) (hA : ∀ q, s.heap.size ≤ q → A q) (isC : List Nat)
    (hM : Met l y ws rm (va_Pc (.ref b :: As) (mpreS D cs wc H.size aK aV)) Qc mc ms free) (cw : CallW R s args own C index y bytes maxL ret ws rm mc ms n)
    (hC : isC.map (fun i => W0[i]?) = wc.map some) (hn : va_nd isC = true) (hrv : ∃ cell : Cell, H[b]? = some cell ∧ cell.vm.isStatics = false ∧ s.vm.findClass C = some cell.cls)
    (hlen : As.length = n) (hnl : ls.size = nL) (hst : st0 = As.reverse ++ .ref b :: rest) (hW : (rest.map fun v => v.category).sum ≤ 8) (hdg : decode cc pc = .ok (.invokevirtual index, 3)) (hcell : cells + mc ≤ R.cells ∧ slots + ms ≤ R.slots) :
    va_Run p l e R s m args below meth c H locs cells slots mc ms (F0 m pc ls st0) rest (Qc (Value.ref b :: As).toArray) free :=
  va_runV (As := As) (rest := rest) S0 hM cw ⟨go_callS, hrv, at_preS hK hE hV hP hD hS hA isC hC hn⟩ rfl hlen hnl hst (lv_room hW) hdg hcell
theorem rcv {b ci NN : Nat} {T : u_T} {C : String} {fs : List Value} {wc W0 : va_W} (hK : va_K D vwCl (mtyA cs) s) (hP : va_P D vwCl W0 H) (isC : List Nat) (hC : isC.map (fun i => W0[i]?) = wc.map some) (hq : wc[0]? = some (b, .inr (ci, fs))) (hc : vwCl[ci]? = some (C, T, NN)) : ∃ cell : Cell, H[b]? = some cell ∧ cell.vm.isStatics = false ∧ s.vm.findClass C = some cell.cls := va_recv hK (hP.sub isC (fm_of_map hC)) hc hq
theorem run_sS {y : MethodName} {bytes : ByteArray} {maxL nL mc ms n index : Nat} {ret : Option FieldType} {ws : List Cond} {rm : Room} {Ts : List Cond} {own : String} {As : List Value} {W0 wc : va_W} {st0 : List Value} {Qc : Array Value → State → Outcome → State → Prop} {free : Addr → Prop}
    (S0 : CallFix p m c cc nL s args Ts own) (hK : va_K D vwCl (mtyA cs) s) (hE : mEnv s) (hV : sEnv aK aV A s s.heap) (hP : va_P D vwCl W0 H) (hD : va_D A W0) (hS : va_S A s.heap H locs) (hA : ∀ q, s.heap.size ≤ q → A q) (isC : List Nat)
    (hM : Met l y ws rm (va_Pc As (mpreS D cs wc H.size aK aV)) Qc mc ms free) (cw : CallB R s args own index y bytes maxL ret ws rm mc ms n ∧ (Cond.static y).before args s = true)
    (hC : isC.map (fun i => W0[i]?) = wc.map some) (hn : va_nd isC = true)
    (hlen : As.length = n) (hnl : ls.size = nL) (hst : st0 = As.reverse ++ rest) (hW : (rest.map fun v => v.category).sum ≤ 8) (hdg : decode cc pc = .ok (.invokestatic index, 3)) (hcell : cells + mc ≤ R.cells ∧ slots + ms ≤ R.slots) :
    va_Run p l e R s m args below meth c H locs cells slots mc ms (F0 m pc ls st0) rest (Qc As.toArray) free :=
  va_runS (As := As) (rest := rest) S0 hM cw ⟨go_callS, at_preS hK hE hV hP hD hS hA isC hC hn⟩ rfl hlen hnl hst (lv_room hW) hdg hcell
end MjStr
