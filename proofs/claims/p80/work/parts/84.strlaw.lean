/-! own lemmas: the literals at the law's entry; the first contents -/
theorem va_OF_inj {o n d : String} {a u v : Nat} {A : Nat → Prop} {U : State} {H : Heap} (h1 : va_OF o n d (.ref u) a A U H) (h2 : va_OF o n d (.ref v) a A U H) : u = v := by
  obtain ⟨cf, k, i, f, cell, e1, -, e2, -, e3, -⟩ := h1
  obtain ⟨cf', k', i', f', cell', g1, -, g2, -, g3, -⟩ := h2
  rw [e1] at g1
  simp only [Option.some.injEq, Prod.mk.injEq] at g1
  obtain ⟨-, -, -, rfl⟩ := g1
  rw [e2] at g2
  obtain rfl := Option.some.inj g2
  rw [e3] at g3
  have := Option.some.inj g3
  injection this
theorem va_T_inj {ty : FieldType} {t n n' : Nat} {f f' : Nat → Int32} {A : Nat → Prop} {U : State} {H : Heap} (hn : n < 2 ^ 31) (hn' : n' < 2 ^ 31) (h1 : va_T ty t n (fun j => .int (f j)) A U H) (h2 : va_T ty t n' (fun j => .int (f' j)) A U H) : n = n' ∧ ∀ j, j < n → f j = f' j := by
  obtain ⟨cell, e1, -, -, -, e2, e3, -⟩ := h1
  obtain ⟨cell', g1, -, -, -, g2, g3, -⟩ := h2
  rw [e1] at g1
  obtain rfl := Option.some.inj g1
  have en : n = n' := (nI_eq hn hn').mp (e2.symm.trans g2)
  subst en
  refine ⟨rfl, fun j hj => ?_⟩
  have := (e3 j hj).symm.trans (g3 j hj)
  have := Option.some.inj this
  injection this
theorem my_strs {args : Array Value} {s : State} {N : Nat} {tm : Nat → Term} {len : List Nat} {byt : List (List Int32)} {A : Nat → Prop} (hN : ∀ i : Nat, i < N → len.getD i 0 < 2 ^ 31) (hex : ∀ i : Nat, i < N → (Cond.exactly (tm i) "java/lang/String").before args s = true) (hco : ∀ i : Nat, i < N → (Cond.eq (.field (tm i) "java/lang/String" "coder" "B") (.int 0)).before args s = true)
    (har : ∀ i : Nat, i < N → (Cond.arrayOf (.field (tm i) "java/lang/String" "value" "[B") .byte).before args s = true) (hle : ∀ i : Nat, i < N → (Cond.eq (.length (.field (tm i) "java/lang/String" "value" "[B")) (.int (Int32.ofNat (len.getD i 0)))).before args s = true)
    (hel : ∀ i : Nat, i < N → ∀ j : Nat, j < len.getD i 0 → (Cond.eq (.elem (.field (tm i) "java/lang/String" "value" "[B") (.int (Int32.ofNat j))) (.int ((byt.getD i []).getD j 0))).before args s = true)
    (hA : ∀ a : Nat, a < s.heap.size → ¬ A a)
    (hd : ∀ i, i < N → ∀ j, j < N → len.getD i 0 = len.getD j 0 → (∀ q, q < len.getD i 0 → (byt.getD i []).getD q 0 = (byt.getD j []).getD q 0) → i = j) :
    ∃ aK aV : Nat → Nat, vk_S N len byt aK aV A s s.heap ∧ ∀ i : Nat, i < N → (tm i).eval args s none [] s = some (.ref (aK i)) := by
  have each : ∀ i : Nat, ∃ q : Nat × Nat, i < N → ((tm i).eval args s none [] s = some (.ref q.1) ∧ (va_O "java/lang/String" q.1 A s s.heap ∧ va_OF "java/lang/String" "coder" "B" (.int 0) q.1 A s s.heap ∧ va_OF "java/lang/String" "value" "[B" (.ref q.2) q.1 A s s.heap ∧ va_T .byte q.2 (len.getD i 0) (fun j => .int ((byt.getD i []).getD j 0)) A s s.heap)) := fun i => by
    rcases Nat.lt_or_ge i N with hi | hi
    · obtain ⟨a, c, cA, kA, q1, q2, q3, q4, q5, q6, -⟩ := Cond.exactly_spec (args := args) (first := s) (o := none) (s := s) (idx := []) (t := tm i) (cls := "java/lang/String") (hex i hi)
      obtain ⟨t, ht, hT⟩ := va_Tof (f := fun j => .int ((byt.getD i []).getD j 0)) (A := A) (hN i hi) (har i hi) (va_eqt (hle i hi)) (fun j hj => va_eqt (hel i hi j hj)) hA
      exact ⟨(a, t), fun _ => ⟨q1, ⟨cA, q3, q5, by rw [q6]; exact q2, hA a (Array.getElem?_eq_some_iff.mp q3).1⟩, vk_OFof q1 (va_eqt (hco i hi)) hA, vk_OFof q1 ht hA, hT⟩⟩
    · exact ⟨(0, 0), fun h => absurd h (Nat.not_lt.mpr hi)⟩
  obtain ⟨ad, had⟩ := Classical.axiomOfChoice each
  refine ⟨fun i => (ad i).1, fun i => (ad i).2, ⟨fun i hi => (had i hi).2, fun i j hi hj e => ?_⟩, fun i hi => (had i hi).1⟩
  have e : (ad i).1 = (ad j).1 := e
  have v1 := (had i hi).2.2.2.1
  have v2 := (had j hj).2.2.2.1
  rw [← e] at v2
  have ev := va_OF_inj v1 v2
  have t1 := (had i hi).2.2.2.2
  have t2 := (had j hj).2.2.2.2
  rw [← ev] at t2
  obtain ⟨h1, h2⟩ := va_T_inj (hN i hi) (hN j hj) t1 t2
  exact hd i hi j hj h1 h2
theorem str_same {args : Array Value} {s : State} {t u : Term} {a : Nat} (h : (Cond.eq t u).before args s = true) (ht : t.eval args s none [] s = some (.ref a)) : u.eval args s none [] s = some (.ref a) := by
  cases hu : u.eval args s none [] s with
  | none => simp [Cond.before, Cond.holds, Cond.value, ht, hu] at h
  | some v =>
    simp only [Cond.before, Cond.holds, Cond.value, ht, hu] at h
    cases v <;> simp_all
theorem res_z {f : Nat → Int32} (h : ∀ k, f k = 0) : RES f := fun k _ => Or.inr ⟨0, by decide, h k⟩
theorem wok_z {f : Nat → Int32} (h : ∀ k, f k = 0) : WOK f := ⟨hok_z (fun k _ => h k), rok_z (fun k _ => h k)⟩
theorem mok_z {f : Nat → Int32} (h : ∀ k, k < 4 → f k = -1) : MOK f := fun k hk => Or.inl (h k hk)
theorem iok_z {f : Nat → Int32} (h : ∀ k, f k = 0) : IOK f := fun k _ => ⟨hok_z (fun j _ => h _), rok_z (fun j _ => h _)⟩
/-- the terms of the literals, each by its first place -/
def tmS (i : Nat) : Term := ([Term.string RX4 82, Term.string RX4 87, Term.string RX4 95, Term.string RX4 99, Term.string RX4 59, Term.string RX4 143, Term.string RX4 145, Term.string RX4 147, Term.string RX4 149, Term.string RX4 68, Term.string RX4 151, Term.string RX4 153, Term.string RX4 155, Term.string RX4 157, Term.string RX4 159, Term.string RX4 161, Term.string RX4 171, Term.string RX4 173, Term.string RX4 175, Term.string RX4 177, Term.string RX4 73, Term.string RX4 163, Term.string RX4 165, Term.string RX4 167, Term.string RX4 169, Term.string RX4 179, Term.string RX4 181, Term.string RX9 220] : List Term).getD i (Term.string RX4 82)
set_option maxHeartbeats 8000000 in
set_option maxRecDepth 100000 in
theorem str_env {s : State} {b : Nat} (hts : ∀ w ∈ lw_tbl, w.before #[Value.ref b] s = true) (hgv : (Jvm.Cond.and given_1 narrow_1).before #[Value.ref b] s = true) : ∃ aK aV : Nat → Nat, sEnv aK aV (fun q : Nat => s.heap.size ≤ q) s s.heap := by
  have hs := flat_of_before _ hgv
  have hA : ∀ a : Nat, a < s.heap.size → ¬ (fun q : Nat => s.heap.size ≤ q) a := fun a h => Nat.not_le.mpr h
  obtain ⟨aK, aV, h1, h2⟩ := my_strs (tm := tmS) (N := nJS) (len := lenJS) (byt := bytJS) (A := (fun q : Nat => s.heap.size ≤ q)) (fun i hi => sl_31 hi)
    (fun i hi => hs _ ((by decide +kernel : ∀ i, i < nJS → Cond.exactly (tmS i) "java/lang/String" ∈ flatC (Jvm.Cond.and given_1 narrow_1)) i hi))
    (fun i hi => hs _ ((by decide +kernel : ∀ i, i < nJS → Cond.eq (.field (tmS i) "java/lang/String" "coder" "B") (.int 0) ∈ flatC (Jvm.Cond.and given_1 narrow_1)) i hi))
    (fun i hi => hs _ ((by decide +kernel : ∀ i, i < nJS → Cond.arrayOf (.field (tmS i) "java/lang/String" "value" "[B") .byte ∈ flatC (Jvm.Cond.and given_1 narrow_1)) i hi))
    (fun i hi => hs _ ((by decide +kernel : ∀ i, i < nJS → Cond.eq (.length (.field (tmS i) "java/lang/String" "value" "[B")) (.int (Int32.ofNat (lenJS.getD i 0))) ∈ flatC (Jvm.Cond.and given_1 narrow_1)) i hi))
    (fun i hi j hj => hs _ ((by decide +kernel : ∀ i, i < nJS → ∀ j, j < lenJS.getD i 0 → Cond.eq (.elem (.field (tmS i) "java/lang/String" "value" "[B") (.int (Int32.ofNat j))) (.int ((bytJS.getD i []).getD j 0)) ∈ flatC (Jvm.Cond.and given_1 narrow_1)) i hi j hj))
    hA (by decide +kernel)
  refine ⟨aK, aV, h1, ?_, ?_, ?_⟩
  · exact va_Zof (hts (.laysStatic "java/lang/String" "COMPACT_STRINGS" "Z") (tin_2 _ (List.mem_of_getElem? (i := 174) rfl))) (hts (.initialized "java/lang/String") (tin_1 _ (List.mem_of_getElem? (i := 12) rfl))) (va_eqt (hs _ (by decide +kernel))) hA
  · exact va_Zqof (hts (.laysStatic "jdk/internal/util/Preconditions" "SIOOBE_FORMATTER" "Ljava/util/function/BiFunction;") (tin_2 _ (List.mem_of_getElem? (i := 190) rfl))) (hts (.initialized "jdk/internal/util/Preconditions") (tin_1 _ (List.mem_of_getElem? (i := 14) rfl))) (hs _ (by decide +kernel)) hA
  · intro q hq
    simp only [sTab, List.mem_cons, List.not_mem_nil, or_false] at hq
    rcases hq with rfl | rfl | rfl | rfl | rfl | rfl | rfl | rfl | rfl | rfl | rfl | rfl | rfl | rfl | rfl | rfl | rfl | rfl | rfl | rfl | rfl | rfl | rfl | rfl | rfl | rfl | rfl | rfl | rfl | rfl | rfl | rfl | rfl | rfl | rfl | rfl | rfl | rfl | rfl | rfl | rfl | rfl | rfl | rfl | rfl | rfl | rfl | rfl | rfl
    · exact vk_R.of (hts (.stringRef RX4 82 "base") (tin_2 _ (List.mem_of_getElem? (i := 156) rfl))) (h2 0 (by decide))
    · exact vk_R.of (hts (.stringRef RX4 87 "top") (tin_2 _ (List.mem_of_getElem? (i := 217) rfl))) (h2 1 (by decide))
    · exact vk_R.of (hts (.stringRef RX4 95 "law") (tin_2 _ (List.mem_of_getElem? (i := 222) rfl))) (h2 2 (by decide))
    · exact vk_R.of (hts (.stringRef RX4 99 "odds") (tin_2 _ (List.mem_of_getElem? (i := 223) rfl))) (h2 3 (by decide))
    · exact vk_R.of (hts (.stringRef RX4 59 "cell") (tin_2 _ (List.mem_of_getElem? (i := 224) rfl))) (h2 4 (by decide))
    · exact vk_R.of (hts (.stringRef RX4 143 "max") (tin_2 _ (List.mem_of_getElem? (i := 233) rfl))) (h2 5 (by decide))
    · exact vk_R.of (hts (.stringRef RX4 145 "min") (tin_2 _ (List.mem_of_getElem? (i := 234) rfl))) (h2 6 (by decide))
    · exact vk_R.of (hts (.stringRef RX4 147 "add") (tin_2 _ (List.mem_of_getElem? (i := 235) rfl))) (h2 7 (by decide))
    · exact vk_R.of (hts (.stringRef RX4 149 "late") (tin_2 _ (List.mem_of_getElem? (i := 236) rfl))) (h2 8 (by decide))
    · exact vk_R.of (hts (.stringRef RX4 68 "rule") (tin_2 _ (List.mem_of_getElem? (i := 237) rfl))) (h2 9 (by decide))
    · exact vk_R.of (hts (.stringRef RX4 151 "most") (tin_3 _ (List.mem_of_getElem? (i := 6) rfl))) (h2 10 (by decide))
    · exact vk_R.of (hts (.stringRef RX4 153 "least") (tin_3 _ (List.mem_of_getElem? (i := 7) rfl))) (h2 11 (by decide))
    · exact vk_R.of (hts (.stringRef RX4 155 "unlike") (tin_3 _ (List.mem_of_getElem? (i := 8) rfl))) (h2 12 (by decide))
    · exact vk_R.of (hts (.stringRef RX4 157 "sum") (tin_3 _ (List.mem_of_getElem? (i := 9) rfl))) (h2 13 (by decide))
    · exact vk_R.of (hts (.stringRef RX4 159 "order") (tin_3 _ (List.mem_of_getElem? (i := 10) rfl))) (h2 14 (by decide))
    · exact vk_R.of (hts (.stringRef RX4 161 "if") (tin_3 _ (List.mem_of_getElem? (i := 11) rfl))) (h2 15 (by decide))
    · exact vk_R.of (hts (.stringRef RX4 171 "AN") (tin_3 _ (List.mem_of_getElem? (i := 15) rfl))) (h2 16 (by decide))
    · exact vk_R.of (hts (.stringRef RX4 173 "ABS") (tin_3 _ (List.mem_of_getElem? (i := 16) rfl))) (h2 17 (by decide))
    · exact vk_R.of (hts (.stringRef RX4 175 "ANAN") (tin_3 _ (List.mem_of_getElem? (i := 17) rfl))) (h2 18 (by decide))
    · exact vk_R.of (hts (.stringRef RX4 177 "AB") (tin_3 _ (List.mem_of_getElem? (i := 18) rfl))) (h2 19 (by decide))
    · exact vk_R.of (hts (.stringRef RX4 73 "op") (tin_3 _ (List.mem_of_getElem? (i := 27) rfl))) (h2 20 (by decide))
    · exact vk_R.of (hts (.stringRef RX4 163 "more") (tin_3 _ (List.mem_of_getElem? (i := 36) rfl))) (h2 21 (by decide))
    · exact vk_R.of (hts (.stringRef RX4 165 "less") (tin_3 _ (List.mem_of_getElem? (i := 37) rfl))) (h2 22 (by decide))
    · exact vk_R.of (hts (.stringRef RX4 167 "set") (tin_3 _ (List.mem_of_getElem? (i := 38) rfl))) (h2 23 (by decide))
    · exact vk_R.of (hts (.stringRef RX4 169 "move") (tin_3 _ (List.mem_of_getElem? (i := 39) rfl))) (h2 24 (by decide))
    · exact vk_R.of (hts (.stringRef RX4 179 "ABP") (tin_3 _ (List.mem_of_getElem? (i := 43) rfl))) (h2 25 (by decide))
    · exact vk_R.of (hts (.stringRef RX4 181 "AP") (tin_3 _ (List.mem_of_getElem? (i := 44) rfl))) (h2 26 (by decide))
    · exact vk_R.of (hts (.stringRef RX9 172 "base") (tin_6 _ (List.mem_of_getElem? (i := 180) rfl))) ((str_same (t := tmS 0) (hs (Cond.eq (tmS 0) (Term.string RX9 172)) (by decide +kernel)) (h2 0 (by decide))))
    · exact vk_R.of (hts (.stringRef RX9 174 "top") (tin_6 _ (List.mem_of_getElem? (i := 199) rfl))) ((str_same (t := tmS 1) (hs (Cond.eq (tmS 1) (Term.string RX9 174)) (by decide +kernel)) (h2 1 (by decide))))
    · exact vk_R.of (hts (.stringRef RX9 180 "law") (tin_6 _ (List.mem_of_getElem? (i := 208) rfl))) ((str_same (t := tmS 2) (hs (Cond.eq (tmS 2) (Term.string RX9 180)) (by decide +kernel)) (h2 2 (by decide))))
    · exact vk_R.of (hts (.stringRef RX9 182 "odds") (tin_6 _ (List.mem_of_getElem? (i := 209) rfl))) ((str_same (t := tmS 3) (hs (Cond.eq (tmS 3) (Term.string RX9 182)) (by decide +kernel)) (h2 3 (by decide))))
    · exact vk_R.of (hts (.stringRef RX9 222 "cell") (tin_6 _ (List.mem_of_getElem? (i := 214) rfl))) ((str_same (t := tmS 4) (hs (Cond.eq (tmS 4) (Term.string RX9 222)) (by decide +kernel)) (h2 4 (by decide))))
    · exact vk_R.of (hts (.stringRef RX9 224 "rule") (tin_6 _ (List.mem_of_getElem? (i := 215) rfl))) ((str_same (t := tmS 9) (hs (Cond.eq (tmS 9) (Term.string RX9 224)) (by decide +kernel)) (h2 9 (by decide))))
    · exact vk_R.of (hts (.stringRef RX9 226 "op") (tin_6 _ (List.mem_of_getElem? (i := 216) rfl))) ((str_same (t := tmS 20) (hs (Cond.eq (tmS 20) (Term.string RX9 226)) (by decide +kernel)) (h2 20 (by decide))))
    · exact vk_R.of (hts (.stringRef RX9 231 "max") (tin_6 _ (List.mem_of_getElem? (i := 221) rfl))) ((str_same (t := tmS 5) (hs (Cond.eq (tmS 5) (Term.string RX9 231)) (by decide +kernel)) (h2 5 (by decide))))
    · exact vk_R.of (hts (.stringRef RX9 232 "min") (tin_6 _ (List.mem_of_getElem? (i := 222) rfl))) ((str_same (t := tmS 6) (hs (Cond.eq (tmS 6) (Term.string RX9 232)) (by decide +kernel)) (h2 6 (by decide))))
    · exact vk_R.of (hts (.stringRef RX9 233 "add") (tin_6 _ (List.mem_of_getElem? (i := 223) rfl))) ((str_same (t := tmS 7) (hs (Cond.eq (tmS 7) (Term.string RX9 233)) (by decide +kernel)) (h2 7 (by decide))))
    · exact vk_R.of (hts (.stringRef RX9 235 "late") (tin_6 _ (List.mem_of_getElem? (i := 224) rfl))) ((str_same (t := tmS 8) (hs (Cond.eq (tmS 8) (Term.string RX9 235)) (by decide +kernel)) (h2 8 (by decide))))
    · exact vk_R.of (hts (.stringRef RX9 220 "") (tin_6 _ (List.mem_of_getElem? (i := 225) rfl))) (h2 27 (by decide))
    · exact vk_R.of (hts (.stringRef RX9 194 "most") (tin_6 _ (List.mem_of_getElem? (i := 239) rfl))) ((str_same (t := tmS 10) (hs (Cond.eq (tmS 10) (Term.string RX9 194)) (by decide +kernel)) (h2 10 (by decide))))
    · exact vk_R.of (hts (.stringRef RX9 196 "least") (tin_7 _ (List.mem_of_getElem? (i := 0) rfl))) ((str_same (t := tmS 11) (hs (Cond.eq (tmS 11) (Term.string RX9 196)) (by decide +kernel)) (h2 11 (by decide))))
    · exact vk_R.of (hts (.stringRef RX9 198 "unlike") (tin_7 _ (List.mem_of_getElem? (i := 1) rfl))) ((str_same (t := tmS 12) (hs (Cond.eq (tmS 12) (Term.string RX9 198)) (by decide +kernel)) (h2 12 (by decide))))
    · exact vk_R.of (hts (.stringRef RX9 200 "sum") (tin_7 _ (List.mem_of_getElem? (i := 2) rfl))) ((str_same (t := tmS 13) (hs (Cond.eq (tmS 13) (Term.string RX9 200)) (by decide +kernel)) (h2 13 (by decide))))
    · exact vk_R.of (hts (.stringRef RX9 202 "order") (tin_7 _ (List.mem_of_getElem? (i := 3) rfl))) ((str_same (t := tmS 14) (hs (Cond.eq (tmS 14) (Term.string RX9 202)) (by decide +kernel)) (h2 14 (by decide))))
    · exact vk_R.of (hts (.stringRef RX9 204 "if") (tin_7 _ (List.mem_of_getElem? (i := 4) rfl))) ((str_same (t := tmS 15) (hs (Cond.eq (tmS 15) (Term.string RX9 204)) (by decide +kernel)) (h2 15 (by decide))))
    · exact vk_R.of (hts (.stringRef RX9 212 "more") (tin_7 _ (List.mem_of_getElem? (i := 17) rfl))) ((str_same (t := tmS 21) (hs (Cond.eq (tmS 21) (Term.string RX9 212)) (by decide +kernel)) (h2 21 (by decide))))
    · exact vk_R.of (hts (.stringRef RX9 214 "less") (tin_7 _ (List.mem_of_getElem? (i := 18) rfl))) ((str_same (t := tmS 22) (hs (Cond.eq (tmS 22) (Term.string RX9 214)) (by decide +kernel)) (h2 22 (by decide))))
    · exact vk_R.of (hts (.stringRef RX9 216 "set") (tin_7 _ (List.mem_of_getElem? (i := 19) rfl))) ((str_same (t := tmS 23) (hs (Cond.eq (tmS 23) (Term.string RX9 216)) (by decide +kernel)) (h2 23 (by decide))))
    · exact vk_R.of (hts (.stringRef RX9 218 "move") (tin_7 _ (List.mem_of_getElem? (i := 20) rfl))) ((str_same (t := tmS 24) (hs (Cond.eq (tmS 24) (Term.string RX9 218)) (by decide +kernel)) (h2 24 (by decide))))
