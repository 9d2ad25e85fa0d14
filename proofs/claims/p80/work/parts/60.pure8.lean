/-! own lemmas: the reference's reader, tape and slots -/
/-- the search of a word, letter by letter -/
def ISI (f : Nat → Int32) (fk tk : Int32) (fr at' wi : Nat) (ok : Int32) (i : Nat) : Prop := (ok = 1 ∧ (fk = 0 ∧ tk = 1 ∧ at' = fr + sl wi) ∧ ∀ q, q < i → f (fr + q) = nI (sch wi q)) ∨ (ok = 0 ∧ ¬ ISW f fk tk fr at' wi)
theorem isi_y {f : Nat → Int32} {fk tk : Int32} {fr a wi i j : Nat} (h : (fk = 0 ∧ tk = 1 ∧ a = fr + sl wi) ∧ ∀ q, q < i → f (fr + q) = nI (sch wi q)) (e : f (fr + i) = nI j) (ej : j = sch wi i) : ISI f fk tk fr a wi 1 (i + 1) := by
  refine Or.inl ⟨rfl, h.1, fun q hq => ?_⟩
  rcases Nat.lt_succ_iff_lt_or_eq.mp hq with h1 | h1
  · exact h.2 q h1
  · subst h1; rw [e, ej]
theorem isi_n {f : Nat → Int32} {fk tk : Int32} {fr a wi i j k : Nat} (hi : i < sl wi) (e : ¬ f (fr + i) = nI j) (ej : j = sch wi i) : ISI f fk tk fr a wi 0 k := Or.inr ⟨rfl, fun h => e ((h.2.2.2 i hi).trans (by rw [ej]))⟩
theorem isi_end {f : Nat → Int32} {fk tk ok : Int32} {fr a wi i : Nat} (h : ISI f fk tk fr a wi ok i) (hi : sl wi ≤ i) : (ok = 1 ∧ ISW f fk tk fr a wi) ∨ (ok = 0 ∧ ¬ ISW f fk tk fr a wi) := by
  rcases h with ⟨h1, h2, h3⟩ | h
  · exact Or.inl ⟨h1, h2.1, h2.2.1, h2.2.2, fun q hq => h3 q (by omega)⟩
  · exact Or.inr h
def LET (j : Nat) : Prop := (97 : Int64) ≤ (nI j).toInt64 ∧ (nI j).toInt64 ≤ 122
theorem semi_l {f : Nat → Int32} {fr a j : Nat} {t : Int32} (h : fr ≤ a) (h1 : a = fr → LET (seeN f a)) (h2 : ¬ ((97 : Int64) ≤ (nI j).toInt64 ∧ (nI j).toInt64 ≤ 122)) (ej : j = seeN f a) : SEMI t fr a := fun _ => by
  rcases Nat.eq_or_lt_of_le h with e | e
  · exfalso; subst ej; exact h2 (h1 e.symm)
  · exact e
/-- an op's rows put -/
theorem rok_op3 {f : Nat → Int32} {i q a n : Nat} {kd : Int32} (h : ROK f) (hi : i = 36 + 4 * q) (hq : q < 5) (ha : a ≤ 2) (hn : n ≤ 3) (hk : kd = 0 ∨ kd = 1 ∨ kd = 2 ∨ n ≤ 2) : ROK (upd (upd (upd f (nI i).toNatClampNeg kd) (nI (i + 1)).toNatClampNeg (nI a)) (nI (i + 2)).toNatClampNeg (nI n)) := by
  rw [nI_clamp (by omega), nI_clamp (by omega), nI_clamp (by omega)]
  subst hi
  refine rok_op (q := q) (kd := kd) h hq ?_ ?_ ?_ ha hn hk ?_
  · rw [upd_ne (by omega), upd_ne (by omega), upd_at]
  · rw [upd_ne (by omega), upd_at]
  · rw [upd_at]
  · intro k hk1 hk2
    rw [upd_ne (by omega), upd_ne (by omega), upd_ne (by omega)]
theorem rok_op4 {f : Nat → Int32} {i q a n : Nat} {kd x : Int32} (h : ROK f) (hi : i = 36 + 4 * q) (hq : q < 5) (ha : a ≤ 2) (hn : n ≤ 3) (hk : kd = 0 ∨ kd = 1 ∨ kd = 2 ∨ n ≤ 2) : ROK (upd (upd (upd (upd f (nI i).toNatClampNeg kd) (nI (i + 1)).toNatClampNeg (nI a)) (nI (i + 2)).toNatClampNeg (nI n)) (nI (i + 3)).toNatClampNeg x) := by
  rw [nI_clamp (by omega), nI_clamp (by omega), nI_clamp (by omega), nI_clamp (by omega)]
  subst hi
  refine rok_op (q := q) (kd := kd) h hq ?_ ?_ ?_ ha hn hk ?_
  · rw [upd_ne (by omega), upd_ne (by omega), upd_ne (by omega), upd_at]
  · rw [upd_ne (by omega), upd_ne (by omega), upd_at]
  · rw [upd_ne (by omega), upd_at]
  · intro k hk1 hk2
    rw [upd_ne (by omega), upd_ne (by omega), upd_ne (by omega), upd_ne (by omega)]
/-- the tape -/
theorem fd_y {n : Nat} (h : n + 20 ≤ 400) : nI (n + 20) = fdr n ∧ n + 20 = fdn n := by
  unfold fdr fdn; rw [if_pos h, if_pos h]; exact ⟨rfl, rfl⟩
theorem fd_n {n : Nat} (h : ¬ n + 20 ≤ 400) : -1 = fdr n ∧ n = fdn n := by
  unfold fdr fdn; rw [if_neg h, if_neg h]; exact ⟨rfl, rfl⟩
theorem en_y {j n : Nat} (h : j ≤ n) (hn : n ≤ 400) : nI j = enr (nI j) n ∧ j = enn (nI j) n := by
  unfold enr enn
  rw [nI_toInt (by omega), if_pos (by omega), if_pos (by omega), nI_clamp (by omega)]
  exact ⟨rfl, rfl⟩
theorem en_n {x : Int32} {n : Nat} (hn : n ≤ 400) (h : ¬ (0 ≤ x.toInt64 ∧ x.toInt64 ≤ (nI n).toInt64)) : -1 = enr x n ∧ n = enn x n := by
  have h2 : ¬ (0 ≤ x.toInt ∧ x.toInt ≤ (n : Int)) := fun q => h ((in_32 0 (n : Int) j0 (by rw [Int32.toInt_toInt64, nI_toInt (by omega)])).mpr q)
  unfold enr enn
  rw [if_neg h2, if_neg h2]
  exact ⟨rfl, rfl⟩
/-- slots -/
theorem sl4 {j : Nat} (hj : j < 4) : 0 ≤ (nI j).toInt ∧ (nI j).toInt ≤ 3 := by rw [nI_toInt (by omega)]; omega
theorem rw_a {x w n : Int32} (h : ¬ (0 ≤ x.toInt ∧ x.toInt ≤ 3)) : -2 = rwr x w n := (if_pos (Or.inl h)).symm
theorem rw_b {x w n : Int32} (h : ¬ (0 ≤ w.toInt64 ∧ w.toInt64 ≤ 3)) : -2 = rwr x w n := (if_pos (Or.inr (Or.inl (fun h2 => h ((in_32 0 3 j0 j3).mpr h2))))).symm
theorem rw_c {x w n : Int32} (h : ¬ n ≤ 60) : -2 = rwr x w n := (if_pos (Or.inr (Or.inr (by rw [Int32.le_iff_toInt_le, i60] at h; omega)))).symm
theorem rw_d {j : Nat} {w n : Int32} (hj : j < 4) (hw : 0 ≤ w.toInt64 ∧ w.toInt64 ≤ 3) (h : n ≤ 60) (h0 : ¬ n ≥ 0) : -3 = rwr (nI j) w n := by
  unfold rwr
  rw [Int32.le_iff_toInt_le, i60] at h
  rw [ge_iff_le, Int32.le_iff_toInt_le, i0] at h0
  rw [if_neg (fun q => by
    rcases q with q | q | q
    · exact q (sl4 hj)
    · exact q ((in_32 0 3 j0 j3).mp hw)
    · omega), if_pos (by omega)]
theorem rw_e {j k : Nat} {w : Int32} (hj : j < 4) (hw : 0 ≤ w.toInt64 ∧ w.toInt64 ≤ 3) (h : k ≤ 60) : 0 = rwr (nI j) w (nI k) := by
  unfold rwr
  rw [if_neg (fun q => by
    rcases q with q | q | q
    · exact q (sl4 hj)
    · exact q ((in_32 0 3 j0 j3).mp hw)
    · rw [nI_toInt (by omega)] at q; omega), if_neg (by rw [nI_toInt (by omega)]; omega)]
theorem rwm_n {x w n v r : Int32} {f : Nat → Int32} (h : r = rwr x w n) (hr : ¬ r = 0) : f = rwm x w n v f := (if_neg (fun q => hr (h.trans q))).symm
theorem rwm_y {x w n v : Int32} {f : Nat → Int32} (h : 0 = rwr x w n) : upd f x.toNatClampNeg v = rwm x w n v f := (if_pos h.symm).symm
theorem n60 {n : Int32} (h : n ≤ 60) (h0 : n ≥ 0) : ∃ j : Nat, j ≤ 60 ∧ n = nI j := by
  rw [Int32.le_iff_toInt_le, i60] at h
  rw [ge_iff_le, Int32.le_iff_toInt_le, i0] at h0
  obtain ⟨j, hj, e⟩ := ex_i (k := n) (n := 61) ⟨h0, by omega⟩ (by omega)
  exact ⟨j, by omega, e⟩
theorem wr_a {x i : Int32} {m : Nat → Int32} (h : ¬ (0 ≤ x.toInt ∧ x.toInt ≤ 3)) : -2 = wrR x i m := (if_neg h).symm
theorem wr_b {j : Nat} {i : Int32} {m : Nat → Int32} (hj : j < 4) (h : m j = -1) : -6 = wrR (nI j) i m := by
  unfold wrR
  rw [if_pos (sl4 hj), nI_clamp (by omega), if_pos h]
theorem mok_m1 {m : Int32} (hm : m = -1 ∨ ∃ j : Nat, j ≤ 60 ∧ m = nI j) : (m - (1 : Int32)).toInt = m.toInt - 1 := by
  rcases hm with rfl | ⟨n, hn, rfl⟩
  · decide
  · rw [nI_m1 (by omega), nI_toInt (by omega)]
theorem wr_c {j : Nat} {i : Int32} {m : Nat → Int32} (hj : j < 4) (hm : MOK m) (h : ¬ m j = -1) (h2 : ¬ (0 ≤ i.toInt64 ∧ i.toInt64 ≤ (m j - (1 : Int32)).toInt64)) : -7 = wrR (nI j) i m := by
  unfold wrR
  rw [if_pos (sl4 hj), nI_clamp (by omega), if_neg h, if_neg (fun q => h2 ((in_32 0 (m j - (1 : Int32)).toInt j0 (Int32.toInt_toInt64 _)).mpr ⟨q.1, by rw [mok_m1 (hm j hj)]; omega⟩))]
theorem wr_d {j k : Nat} {m : Nat → Int32} (hj : j < 4) (hm : MOK m) (h : ¬ m j = -1) (hk : k < (m j).toInt.toNat) : 0 = wrR (nI j) (nI k) m := by
  have hb := mok_b hm hj
  unfold wrR
  rw [if_pos (sl4 hj), nI_clamp (by omega), if_neg h, if_pos (by rw [nI_toInt (by omega)]; omega)]
theorem pst2 {i k n m1 m2 : Int32} (h1 : ¬ i < 0) (h2 : ¬ k < 0) (h3 : ¬ n < 0) (h4 : ¬ lg_cmp (i.toInt64 + n.toInt64) m1.toInt64 > 0) (h5 : ¬ lg_cmp (k.toInt64 + n.toInt64) m2.toInt64 > 0) (e1 : m1.toInt.toNat ≤ 60) (e2 : m2.toInt.toNat ≤ 60) : ∃ a b c : Nat, (a + c ≤ m1.toInt.toNat ∧ b + c ≤ m2.toInt.toNat) ∧ i = nI a ∧ k = nI b ∧ n = nI c := by
  obtain ⟨a, c, ha, hc, hac⟩ := pst h1 h3 h4 e1
  obtain ⟨b, c', hb, hc', hbc⟩ := pst h2 h3 h5 e2
  have hcc : c = c' := by
    have e := congrArg Int32.toNatClampNeg (hc.symm.trans hc')
    rw [nI_clamp (by omega), nI_clamp (by omega)] at e
    exact e
  exact ⟨a, b, c, ⟨hac, by omega⟩, ha, hb, hc⟩
theorem pa_a {x i y k n : Int32} {m d : Nat → Int32} (h : ¬ (0 ≤ x.toInt ∧ x.toInt ≤ 3)) : -2 = paR x i y k n m d := (if_neg (fun q => h q.1)).symm
theorem pa_b {x i y k n : Int32} {m d : Nat → Int32} (h : ¬ (0 ≤ y.toInt ∧ y.toInt ≤ 3)) : -2 = paR x i y k n m d := (if_neg (fun q => h q.2)).symm
theorem pa_c {a b : Nat} {i k n : Int32} {m d : Nat → Int32} (ha : a < 4) (hb : b < 4) (h : m a = -1 ∨ m b = -1) : -6 = paR (nI a) i (nI b) k n m d := by
  unfold paR
  rw [if_pos ⟨sl4 ha, sl4 hb⟩, nI_clamp (by omega), nI_clamp (by omega), if_pos h]
theorem pa_d {a b : Nat} {i k n : Int32} {m d : Nat → Int32} (ha : a < 4) (hb : b < 4) (h1 : ¬ m a = -1) (h2 : ¬ m b = -1) (h : ¬ d a = d b) : -8 = paR (nI a) i (nI b) k n m d := by
  unfold paR
  rw [if_pos ⟨sl4 ha, sl4 hb⟩, nI_clamp (by omega), nI_clamp (by omega), if_neg (fun q => q.elim h1 h2), if_pos h]
theorem lgx {i n m : Int32} (h1 : 0 ≤ i.toInt) (h2 : 0 ≤ n.toInt) (h : lg_cmp (i.toInt64 + n.toInt64) m.toInt64 > 0) : ¬ i.toInt + n.toInt ≤ m.toInt := by
  have hi := Int32.toInt_lt i
  have hn := Int32.toInt_lt n
  rw [gt_iff_lt, lg_cmp_gt, Int64.lt_iff_toInt_lt, Int32.toInt_toInt64, Int64.toInt_add, Int32.toInt_toInt64, Int32.toInt_toInt64, Int.bmod_eq_of_le (by omega) (by omega)] at h
  omega
theorem pa_e {a b : Nat} {i k n : Int32} {m d : Nat → Int32} (ha : a < 4) (hb : b < 4) (h1 : ¬ m a = -1) (h2 : ¬ m b = -1) (h : d a = d b) (h3 : ¬ (0 ≤ i.toInt ∧ 0 ≤ k.toInt ∧ 0 ≤ n.toInt ∧ i.toInt + n.toInt ≤ (m a).toInt ∧ k.toInt + n.toInt ≤ (m b).toInt)) : -7 = paR (nI a) i (nI b) k n m d := by
  unfold paR
  rw [if_pos ⟨sl4 ha, sl4 hb⟩, nI_clamp (by omega), nI_clamp (by omega), if_neg (fun q => q.elim h1 h2), if_neg (fun q => q h), if_neg h3]
theorem p7_1 {i k n m1 m2 : Int32} (h : i < 0) : ¬ (0 ≤ i.toInt ∧ 0 ≤ k.toInt ∧ 0 ≤ n.toInt ∧ i.toInt + n.toInt ≤ m1.toInt ∧ k.toInt + n.toInt ≤ m2.toInt) := fun q => by rw [Int32.lt_iff_toInt_lt, i0] at h; omega
theorem p7_2 {i k n m1 m2 : Int32} (h : k < 0) : ¬ (0 ≤ i.toInt ∧ 0 ≤ k.toInt ∧ 0 ≤ n.toInt ∧ i.toInt + n.toInt ≤ m1.toInt ∧ k.toInt + n.toInt ≤ m2.toInt) := fun q => by rw [Int32.lt_iff_toInt_lt, i0] at h; omega
theorem p7_3 {i k n m1 m2 : Int32} (h : n < 0) : ¬ (0 ≤ i.toInt ∧ 0 ≤ k.toInt ∧ 0 ≤ n.toInt ∧ i.toInt + n.toInt ≤ m1.toInt ∧ k.toInt + n.toInt ≤ m2.toInt) := fun q => by rw [Int32.lt_iff_toInt_lt, i0] at h; omega
theorem p7_4 {i k n m1 m2 : Int32} (h : lg_cmp (i.toInt64 + n.toInt64) m1.toInt64 > 0) : ¬ (0 ≤ i.toInt ∧ 0 ≤ k.toInt ∧ 0 ≤ n.toInt ∧ i.toInt + n.toInt ≤ m1.toInt ∧ k.toInt + n.toInt ≤ m2.toInt) := fun q => lgx q.1 q.2.2.1 h q.2.2.2.1
theorem p7_5 {i k n m1 m2 : Int32} (h : lg_cmp (k.toInt64 + n.toInt64) m2.toInt64 > 0) : ¬ (0 ≤ i.toInt ∧ 0 ≤ k.toInt ∧ 0 ≤ n.toInt ∧ i.toInt + n.toInt ≤ m1.toInt ∧ k.toInt + n.toInt ≤ m2.toInt) := fun q => lgx q.2.1 q.2.2.1 h q.2.2.2.2
theorem pa_f {a b i k n : Nat} {m d : Nat → Int32} (ha : a < 4) (hb : b < 4) (hm : MOK m) (h1 : ¬ m a = -1) (h2 : ¬ m b = -1) (h : d a = d b) (h3 : i + n ≤ (m a).toInt.toNat ∧ k + n ≤ (m b).toInt.toNat) : 0 = paR (nI a) (nI i) (nI b) (nI k) (nI n) m d := by
  have hb1 := mok_b hm ha
  have hb2 := mok_b hm hb
  have q1 : 0 ≤ (m a).toInt := by rcases hm a ha with e | ⟨j, hj, e⟩; exact absurd e h1; rw [e, nI_toInt (by omega)]; omega
  have q2 : 0 ≤ (m b).toInt := by rcases hm b hb with e | ⟨j, hj, e⟩; exact absurd e h2; rw [e, nI_toInt (by omega)]; omega
  unfold paR
  rw [if_pos ⟨sl4 ha, sl4 hb⟩, nI_clamp (by omega), nI_clamp (by omega), if_neg (fun q => q.elim h1 h2), if_neg (fun q => q h), if_pos]
  rw [nI_toInt (by omega), nI_toInt (by omega), nI_toInt (by omega)]
  omega
