/-! own lemmas: which states a rule holds in -/
def dgR (fa : Nat → Int32) (s : Nat) (c : Int32) : Int32 := (fa s >>> (((6 : Int32) * c) &&& 31)) &&& 3
def hlR (g : Nat → Int32) (i : Nat) (fa : Nat → Int32) (s : Nat) : Prop := if g i = 0 then dgR fa s (g (i + 1)) ≤ g (i + 2) else if g i = 1 then g (i + 2) ≤ dgR fa s (g (i + 1)) else if g i = 2 then ¬ dgR fa s (g (i + 1)) = dgR fa s (g (i + 2)) else if g i = 3 then dgR fa s (g (i + 1)) + dgR fa s (g (i + 2)) ≤ g (i + 3) else if g i = 4 then dgR fa s (g (i + 1)) ≤ dgR fa s (g (i + 2)) else (dgR fa s (g (i + 1)) < g (i + 2) ∨ g (i + 4) ≤ dgR fa s (g (i + 3)))
theorem hl_0 {g fa : Nat → Int32} {i s : Nat} (h : 0 = g i) : hlR g i fa s ↔ dgR fa s (g (i + 1)) ≤ g (i + 2) := by
  unfold hlR; rw [if_pos h.symm]
theorem hl_1 {g fa : Nat → Int32} {i s : Nat} (h : 1 = g i) : hlR g i fa s ↔ g (i + 2) ≤ dgR fa s (g (i + 1)) := by
  unfold hlR; rw [if_neg (by rw [← h]; decide), if_pos h.symm]
theorem hl_2 {g fa : Nat → Int32} {i s : Nat} (h : 2 = g i) : hlR g i fa s ↔ ¬ dgR fa s (g (i + 1)) = dgR fa s (g (i + 2)) := by
  unfold hlR; rw [if_neg (by rw [← h]; decide), if_neg (by rw [← h]; decide), if_pos h.symm]
theorem hl_3 {g fa : Nat → Int32} {i s : Nat} (h : 3 = g i) : hlR g i fa s ↔ dgR fa s (g (i + 1)) + dgR fa s (g (i + 2)) ≤ g (i + 3) := by
  unfold hlR; rw [if_neg (by rw [← h]; decide), if_neg (by rw [← h]; decide), if_neg (by rw [← h]; decide), if_pos h.symm]
theorem hl_4 {g fa : Nat → Int32} {i s : Nat} (h : 4 = g i) : hlR g i fa s ↔ dgR fa s (g (i + 1)) ≤ dgR fa s (g (i + 2)) := by
  unfold hlR; rw [if_neg (by rw [← h]; decide), if_neg (by rw [← h]; decide), if_neg (by rw [← h]; decide), if_neg (by rw [← h]; decide), if_pos h.symm]
theorem hl_5 {g fa : Nat → Int32} {i s : Nat} {y : Int32} (e : y = g i) (h0 : ¬ y = 0) (h1 : ¬ y = 1) (h2 : ¬ y = 2) (h3 : ¬ y = 3) (h4 : ¬ y = 4) : hlR g i fa s ↔ (dgR fa s (g (i + 1)) < g (i + 2) ∨ g (i + 4) ≤ dgR fa s (g (i + 3))) := by
  subst e
  unfold hlR; rw [if_neg h0, if_neg h1, if_neg h2, if_neg h3, if_neg h4]
/-- a set of states as bits -/
def HB (x : Int64) (n : Nat) (P : Nat → Prop) : Prop := ∀ q, q < 64 → (x.toBitVec.getLsbD q = true ↔ (q < n ∧ P q))
theorem hb_0 {P : Nat → Prop} : HB 0 0 P := fun q _ => by
  rw [show (0 : Int64).toBitVec = 0#64 from rfl]
  simp
theorem sh64 : ∀ i, i < 64 → ((1 : Int64) <<< ((nI i).toInt64 &&& 63)).toBitVec = BitVec.twoPow 64 i := by decide +kernel
theorem hb_1 {x : Int64} {i : Nat} {P : Nat → Prop} (h : HB x i P) (hi : i < 64) (hp : P i) : HB (x ||| ((1 : Int64) <<< ((nI i).toInt64 &&& 63))) (i + 1) P := fun q hq => by
  have a := h q hq
  rw [Int64.toBitVec_or, BitVec.getLsbD_or, sh64 i hi, BitVec.getLsbD_twoPow]
  by_cases e : i = q
  · subst e
    simp [hi, hp]
  · simp only [e, decide_false, Bool.and_false, Bool.or_false]
    rw [a]
    exact ⟨fun z => ⟨by omega, z.2⟩, fun z => ⟨by omega, z.2⟩⟩
theorem hb_n {x : Int64} {i : Nat} {P : Nat → Prop} (h : HB x i P) (hp : ¬ P i) : HB x (i + 1) P := fun q hq => by
  rw [h q hq]
  exact ⟨fun z => ⟨by omega, z.2⟩, fun z => ⟨by
    rcases Nat.lt_or_ge q i with k | k
    · exact k
    · exact absurd ((show q = i by omega) ▸ z.2) hp, z.2⟩⟩
theorem hbl_put {f : Nat → Int64} {i z : Nat} {y : Int64} {P : Nat → Nat → Prop} (h : ∀ r, r < i → HB (f r) z (P r)) (hi : i < 2 ^ 31) (hy : HB y z (P i)) : ∀ r, r < i + 1 → HB (vp_updL f (nI i).toNatClampNeg y r) z (P r) := fun r hr => by
  rw [nI_clamp hi]
  by_cases e : r = i
  · subst e; rw [show vp_updL f r y r = y from by simp [vp_updL]]; exact hy
  · rw [show vp_updL f i y r = f r from by simp [vp_updL, e]]; exact h r (by omega)
def HLC (li : Int32) (tp nr zs : Nat) (f1 fa : Nat → Int32) (fh : Nat → Int64) : Prop := ¬ li = 0 ∧ 1 ≤ tp → ∀ r, r < nr → HB (fh r) zs (fun q => hlR f1 (5 * r) fa q)
theorem shamt : ∀ i, i < 64 → ((nI i).toInt64.toUInt64 &&& Int64.toUInt64 63).toBitVec = BitVec.ofNat 64 i := by decide +kernel
theorem kp_bit {x : Int64} {i : Nat} (hi : i < 64) : ((x.toUInt64 >>> ((nI i).toInt64.toUInt64 &&& Int64.toUInt64 63)).toInt64 &&& 1) = 0 ↔ ¬ x.toBitVec.getLsbD i = true := by
  have e : ((x.toUInt64 >>> ((nI i).toInt64.toUInt64 &&& Int64.toUInt64 63)).toInt64 &&& 1).toBitVec = (x.toBitVec >>> i) &&& 1#64 := by
    rw [Int64.toBitVec_and]
    show (x.toUInt64 >>> ((nI i).toInt64.toUInt64 &&& Int64.toUInt64 63)).toBitVec &&& 1#64 = _
    rw [UInt64.toBitVec_shiftRight, shamt i hi]
    congr 1
    show x.toBitVec >>> (BitVec.ofNat 64 i % 64) = x.toBitVec >>> i
    apply BitVec.eq_of_toNat_eq
    simp only [BitVec.toNat_ushiftRight, BitVec.ushiftRight_eq']
    congr 1
    simp only [BitVec.toNat_umod, BitVec.toNat_ofNat]
    rw [show (64 : BitVec 64).toNat = 64 from rfl]
    omega
  rw [← Int64.toBitVec_inj, e]
  constructor
  · intro h q
    have e2 := congrArg (fun v => BitVec.getLsbD v 0) h
    simp [q] at e2
  · intro q
    apply BitVec.eq_of_getLsbD_eq
    intro j hj
    rw [BitVec.getLsbD_and, BitVec.getLsbD_ushiftRight]
    rcases Nat.eq_zero_or_pos j with rfl | hp
    · simp only [Nat.add_zero]
      rw [show x.toBitVec.getLsbD i = false from by simpa using q]
      simp
    · have : (1#64).getLsbD j = false := by
        rw [BitVec.getLsbD_one]
        simp; omega
      rw [this]; simp
/-- the same, by the reference's row -/
def hlT (g : Nat → Int32) (i b s : Nat) : Prop := if g i = 0 then nI (dgt b (wN g (i + 1)) s) ≤ g (i + 2) else if g i = 1 then g (i + 2) ≤ nI (dgt b (wN g (i + 1)) s) else if g i = 2 then ¬ nI (dgt b (wN g (i + 1)) s) = nI (dgt b (wN g (i + 2)) s) else if g i = 3 then nI (dgt b (wN g (i + 1)) s) + nI (dgt b (wN g (i + 2)) s) ≤ g (i + 3) else if g i = 4 then nI (dgt b (wN g (i + 1)) s) ≤ nI (dgt b (wN g (i + 2)) s) else (nI (dgt b (wN g (i + 1)) s) < g (i + 2) ∨ g (i + 4) ≤ nI (dgt b (wN g (i + 3)) s))
theorem ht_0 {g : Nat → Int32} {i b s : Nat} (h : 0 = g i) : hlT g i b s ↔ nI (dgt b (wN g (i + 1)) s) ≤ g (i + 2) := by
  unfold hlT; rw [if_pos h.symm]
theorem ht_1 {g : Nat → Int32} {i b s : Nat} (h : 1 = g i) : hlT g i b s ↔ g (i + 2) ≤ nI (dgt b (wN g (i + 1)) s) := by
  unfold hlT; rw [if_neg (by rw [← h]; decide), if_pos h.symm]
theorem ht_2 {g : Nat → Int32} {i b s : Nat} (h : 2 = g i) : hlT g i b s ↔ ¬ nI (dgt b (wN g (i + 1)) s) = nI (dgt b (wN g (i + 2)) s) := by
  unfold hlT; rw [if_neg (by rw [← h]; decide), if_neg (by rw [← h]; decide), if_pos h.symm]
theorem ht_3 {g : Nat → Int32} {i b s : Nat} (h : 3 = g i) : hlT g i b s ↔ nI (dgt b (wN g (i + 1)) s) + nI (dgt b (wN g (i + 2)) s) ≤ g (i + 3) := by
  unfold hlT; rw [if_neg (by rw [← h]; decide), if_neg (by rw [← h]; decide), if_neg (by rw [← h]; decide), if_pos h.symm]
theorem ht_4 {g : Nat → Int32} {i b s : Nat} (h : 4 = g i) : hlT g i b s ↔ nI (dgt b (wN g (i + 1)) s) ≤ nI (dgt b (wN g (i + 2)) s) := by
  unfold hlT; rw [if_neg (by rw [← h]; decide), if_neg (by rw [← h]; decide), if_neg (by rw [← h]; decide), if_neg (by rw [← h]; decide), if_pos h.symm]
theorem ht_5 {g : Nat → Int32} {i b s : Nat} {y : Int32} (e : y = g i) (h0 : ¬ y = 0) (h1 : ¬ y = 1) (h2 : ¬ y = 2) (h3 : ¬ y = 3) (h4 : ¬ y = 4) : hlT g i b s ↔ (nI (dgt b (wN g (i + 1)) s) < g (i + 2) ∨ g (i + 4) ≤ nI (dgt b (wN g (i + 3)) s)) := by
  subst e
  unfold hlT; rw [if_neg h0, if_neg h1, if_neg h2, if_neg h3, if_neg h4]
/-- a rule's row is one of its kind, its cells are there -/
def RVw (w : Nat → Int32) (c r : Nat) : Prop := ∃ kd : Nat, kd < 6 ∧ w (11 + 5 * r) = nI kd ∧ (∃ a, a < c ∧ w (11 + 5 * r + 1) = nI a) ∧ ((kd = 2 ∨ kd = 3 ∨ kd = 4) → ∃ a, a < c ∧ w (11 + 5 * r + 2) = nI a) ∧ (kd = 5 → ∃ a, a < c ∧ w (11 + 5 * r + 3) = nI a)
def VR (w : Nat → Int32) : Prop := ∀ r, r < wN w 4 → RVw w (wN w 3) r
theorem rv_c {w v : Nat → Int32} {c d r : Nat} (h : RVw w c r) (hc : c ≤ d) (hw : ∀ j, j < 5 → v (11 + 5 * r + j) = w (11 + 5 * r + j)) : RVw v d r := by
  obtain ⟨kd, h1, h2, ⟨a, a1, a2⟩, h4, h5⟩ := h
  refine ⟨kd, h1, (hw 0 (by decide)).trans h2, ⟨a, by omega, (hw 1 (by decide)).trans a2⟩, fun q => ?_, fun q => ?_⟩
  · obtain ⟨b, b1, b2⟩ := h4 q
    exact ⟨b, by omega, (hw 2 (by decide)).trans b2⟩
  · obtain ⟨b, b1, b2⟩ := h5 q
    exact ⟨b, by omega, (hw 3 (by decide)).trans b2⟩
theorem vr_kp {w v : Nat → Int32} (hw : HOK w) (h : VR w) (hk : KP w v) : VR v := by
  have e3 : wN v 3 = wN w 3 := by unfold wN; rw [hk 3 (by decide) (by decide) (by decide)]
  have e4 : wN v 4 = wN w 4 := by unfold wN; rw [hk 4 (by decide) (by decide) (by decide)]
  have b4 := hok_b4 hw
  intro r hr
  rw [e4] at hr
  rw [e3]
  exact rv_c (h r hr) (Nat.le_refl _) (fun j hj => hk _ (by omega) (by omega) (by omega))
/-- class and reference say the same of a state -/
theorem dgR_d {tp nc c s : Nat} {fa : Nat → Int32} (h1 : 1 ≤ tp) (h3 : tp ≤ 3) (h4 : nc ≤ 3) (hp : PKD fa tp nc) (hs : s < (tp + 1) ^ nc) (hc : c < nc) : dgR fa s (nI c) = nI (dgt (tp + 1) c s) := by
  unfold dgR
  rw [hp s hs, show (6 : Int32) = nI 6 from rfl, pk_mul]
  exact pk_dig h1 h3 h4 hs hc
theorem hl_eq {tp nc s r : Nat} {fa f1 w : Nat → Int32} (h1 : 1 ≤ tp) (h3 : tp ≤ 3) (h4 : nc ≤ 3) (hp : PKD fa tp nc) (hs : s < (tp + 1) ^ nc) (hr : RRow f1 w r) (hv : RVw w nc r) : hlR f1 (5 * r) fa s ↔ hlT w (11 + 5 * r) (tp + 1) s := by
  obtain ⟨kd, k1, k2, k3, k4, k5⟩ := hr
  obtain ⟨kd', v1, v2, ⟨a, a1, a2⟩, v4, v5⟩ := hv
  obtain rfl : kd' = kd := (nI_eq (by omega) (by omega)).mp (v2.symm.trans k3)
  have hm := ruM_b kd'
  have d : ∀ c, c < nc → dgR fa s (nI c) = nI (dgt (tp + 1) c s) := fun c hc => dgR_d h1 h3 h4 hp hs hc
  have g1 : f1 (5 * r + 1) = nI a := (k4 1 (by decide) (by omega)).trans a2
  have g2 : f1 (5 * r + 2) = w (11 + 5 * r + 2) := k4 2 (by decide) (by omega)
  have n1 : wN w (11 + 5 * r + 1) = a := wN_of a2 (by omega)
  rcases (show kd' = 0 ∨ kd' = 1 ∨ kd' = 2 ∨ kd' = 3 ∨ kd' = 4 ∨ kd' = 5 by omega) with rfl | rfl | rfl | rfl | rfl | rfl
  · rw [hl_0 k2.symm, ht_0 k3.symm, g1, d a a1, g2, n1]
  · rw [hl_1 k2.symm, ht_1 k3.symm, g1, d a a1, g2, n1]
  · obtain ⟨b, b1, b2⟩ := v4 (by decide)
    rw [hl_2 k2.symm, ht_2 k3.symm, g1, d a a1, g2, b2, d b b1, n1, wN_of b2 (by omega)]
  · obtain ⟨b, b1, b2⟩ := v4 (by decide)
    rw [hl_3 k2.symm, ht_3 k3.symm, g1, d a a1, g2, b2, d b b1, n1, wN_of b2 (by omega), k4 3 (by decide) (by decide)]
  · obtain ⟨b, b1, b2⟩ := v4 (by decide)
    rw [hl_4 k2.symm, ht_4 k3.symm, g1, d a a1, g2, b2, d b b1, n1, wN_of b2 (by omega)]
  · obtain ⟨b, b1, b2⟩ := v5 rfl
    rw [hl_5 k2.symm (by decide) (by decide) (by decide) (by decide) (by decide), ht_5 k3.symm (by decide) (by decide) (by decide) (by decide) (by decide), g1, d a a1, g2, k4 3 (by decide) (by decide), b2, d b b1, n1, wN_of b2 (by omega), k4 4 (by decide) (by decide)]
/-- holds(), on both sides -/
def hoP (C : Prop) (P : Prop) (r : Int32) : Prop := (¬ C → r = -2) ∧ (C → P → r = 1) ∧ (C → ¬ P → r = 0)
theorem ho_n {C P : Prop} (h : ¬ C) : hoP C P (-2) := ⟨fun _ => rfl, fun c => absurd c h, fun c => absurd c h⟩
theorem ho_1 {C P : Prop} (hc : C) (h : P) : hoP C P 1 := ⟨fun c => absurd hc c, fun _ _ => rfl, fun _ q => absurd h q⟩
theorem ho_0 {C P : Prop} (hc : C) (h : ¬ P) : hoP C P 0 := ⟨fun c => absurd hc c, fun _ q => absurd q h, fun _ _ => rfl⟩
theorem ho_eq {C C' P P' : Prop} {r r' : Int32} (h : hoP C P r) (h' : hoP C' P' r') (hc : C ↔ C') (hp : C → (P ↔ P')) : r = r' := by
  by_cases c : C
  · by_cases p : P
    · rw [h.2.1 c p, h'.2.1 (hc.mp c) ((hp c).mp p)]
    · rw [h.2.2 c p, h'.2.2 (hc.mp c) (fun q => p ((hp c).mpr q))]
  · rw [h.1 c, h'.1 (fun q => c (hc.mpr q))]
theorem hs_eq {li x y : Int32} {tp nc nr no zs sc st : Nat} {f1 f2 w fa : Nat → Int32} {fh : Nat → Int64} {r r' : Int32} (h : DP li tp nc nr no f1 f2 w) (hs : SPC li tp nc zs sc st fa) (hl : LT li tp) (hf : HLC li tp nr zs f1 fa fh) (hv : VR w) (h3 : tp ≤ 3) (h4 : nc ≤ 3) (h5 : nr ≤ 5) (hz : zs ≤ 64)
    (a : hoP ((0 ≤ x.toInt ∧ x.toInt < (nr : Int)) ∧ (0 ≤ y.toInt ∧ y.toInt < (zs : Int))) ((fh x.toNatClampNeg).toBitVec.getLsbD y.toNatClampNeg = true) r) (b : hoP ((0 ≤ x.toInt ∧ x.toInt < (wN w 4 : Int)) ∧ (0 < (w 7).toInt ∧ 0 ≤ y.toInt ∧ y.toInt < (SM w : Int))) (hlT w (11 + 5 * x.toNatClampNeg) (wN w 0 + 1) y.toNatClampNeg) r') : r = r' := by
  have hi := in_eq (x := y) h hs hl h3 h4
  obtain ⟨e7, e0, e3, es⟩ := dp_sm h h3 h4
  have e4 : wN w 4 = nr := wN_of h.1.2.2.2.1 (by omega)
  refine ho_eq a b ?_ ?_
  · rw [e4]
    exact ⟨fun q => ⟨q.1, hi.mp ⟨trivial, q.2⟩⟩, fun q => ⟨q.1, (hi.mpr q.2).2⟩⟩
  · intro c
    have c7 := (hi.mp ⟨trivial, c.2⟩).1
    rw [e7] at c7
    obtain ⟨i, hi1, rfl⟩ := ex_i (k := x) (n := nr) c.1 (by omega)
    obtain ⟨j, hj1, rfl⟩ := ex_i (k := y) (n := zs) c.2 (by omega)
    rw [nI_clamp (by omega), nI_clamp (by omega)]
    have l1 : ¬ li = 0 := fun e => by rw [e] at c7; exact absurd c7 (by decide)
    have t1 : 1 ≤ tp := by
      rcases hl with q | q
      · exact absurd q l1
      · exact q.2
    have hz2 := (hs.2.2.2 ⟨l1, t1⟩)
    have hb := hf ⟨l1, t1⟩ i hi1 j (by omega)
    rw [hb, e0]
    have he := hl_eq (s := j) t1 h3 h4 hz2.2 (by rw [← hz2.1]; exact hj1) (h.2.1 i hi1) (e3 ▸ hv i (by rw [e4]; exact hi1))
    exact ⟨fun q => he.mp q.2, fun q => ⟨hj1, he.mpr q⟩⟩
/-- rows of rules that were read are as their kinds say -/
theorem noS_z {f : Nat → Int32} {n a : Nat} {hi : Int} {q : Int32 × Nat} (h : (noS f n q a hi).1 = 0) : q.1 = 0 ∧ ((noS f n q a hi).2.2 : Int) ≤ hi := by
  unfold noS at h ⊢
  by_cases e : q.1 = 0 ∧ tT f n q.2 = 2 ∧ tV f n q.2 = a
  · rw [if_pos e] at h; exact absurd h (show ¬ (2 : Int32) = 0 by decide)
  · rw [if_neg e] at h ⊢
    exact ⟨(nuS_z h).1, (nuS_z h).2.2⟩
theorem ruS_v {f : Nat → Int32} {n s kd nc top : Nat} (hk : kd < 6) (h : (ruS f n s kd nc top).1 = 0) : (vS (ruS f n s kd nc top) 1 : Int) ≤ (nc : Int) - 1 ∧ ((kd = 2 ∨ kd = 3 ∨ kd = 4) → (vS (ruS f n s kd nc top) 2 : Int) ≤ (nc : Int) - 1) ∧ (kd = 5 → (vS (ruS f n s kd nc top) 3 : Int) ≤ (nc : Int) - 1) := by
  rcases (show kd = 0 ∨ kd = 1 ∨ kd = 2 ∨ kd = 3 ∨ kd = 4 ∨ kd = 5 by omega) with rfl | rfl | rfl | rfl | rfl | rfl
  · have h : (shAN f n s nc top).1 = 0 := h
    have a := nuS_z (nuS_z (show (nuS f n _ 0 (top : Int)).1 = 0 from h)).1
    exact ⟨a.2.2, fun q => by omega, fun q => by omega⟩
  · have h : (shAN f n s nc top).1 = 0 := h
    have a := nuS_z (nuS_z (show (nuS f n _ 0 (top : Int)).1 = 0 from h)).1
    exact ⟨a.2.2, fun q => by omega, fun q => by omega⟩
  · have h : (shAB f n s nc top).1 = 0 := h
    have b := noS_z (show (noS f n _ _ _).1 = 0 from h)
    have a := nuS_z b.1
    exact ⟨a.2.2, fun _ => b.2, fun q => by omega⟩
  · have h : (shABS f n s nc top).1 = 0 := h
    have c := nuS_z (show (nuS f n _ 0 _).1 = 0 from h)
    have b := noS_z c.1
    have a := nuS_z b.1
    exact ⟨a.2.2, fun _ => b.2, fun q => by omega⟩
  · have h : (shAB f n s nc top).1 = 0 := h
    have b := noS_z (show (noS f n _ _ _).1 = 0 from h)
    have a := nuS_z b.1
    exact ⟨a.2.2, fun _ => b.2, fun q => by omega⟩
  · have h : (shANAN f n s nc top).1 = 0 := h
    have d := nuS_z (show (nuS f n _ 0 _).1 = 0 from h)
    have c := nuS_z d.1
    have b := nuS_z c.1
    have a := nuS_z b.1
    exact ⟨a.2.2, fun q => by omega, fun _ => c.2.2⟩
theorem kd_lt {f : Nat → Int32} {n s : Nat} : kdS f n s [10, 11, 12, 13, 14, 15] ≤ 6 := by
  have e : ∀ ws : List Nat, kdS f n s ws ≤ ws.length := by
    intro ws
    induction ws with
    | nil => exact Nat.le_refl _
    | cons w ws ih =>
      by_cases h : WD f n s w
      · rw [kd_0 h]; exact Nat.zero_le _
      · rw [kd_s h]; exact Nat.succ_le_succ ih
  exact e _
theorem hok_putS {w : Nat → Int32} {i kd m : Nat} {x : S4} (h : HOK w) (hi : 8 ≤ i) : HOK (putS w i kd m x) := by
  unfold putS
  (try dsimp only)
  have a : HOK (upd (upd (upd w i (nI kd)) (i + 1) (nI x.2.2.1)) (i + 2) (nI x.2.2.2.1)) := hok_any (hok_any (hok_any h (by omega)) (by omega)) (by omega)
  split
  · exact a
  · split
    · exact hok_any a (by omega)
    · exact hok_any (hok_any a (by omega)) (by omega)
theorem vr_li {f : Nat → Int32} {n s : Nat} {w : Nat → Int32} (hw : HOK w) (hv : VR w) (h : (liS f n s w).1 = 0) : HOK (liS f n s w).2.2 ∧ VR (liS f n s w).2.2 := by
  have k3 : ¬ (3 : Int32) = 0 := by decide
  have k1 : ¬ (1 : Int32) = 0 := by decide
  have b3 := hok_b3 hw
  have b4 := hok_b4 hw
  have b5 := hok_b5 hw
  by_cases c : w 7 = 0
  · rw [li_h c] at h ⊢
    have hd : ∃ v1 v2 v3 : Nat, v1 ≤ 3 ∧ v3 ≤ 10 ∧ (hdS f n s w).2.2 = upd (upd (upd w 0 (nI v1)) 1 (nI v2)) 2 (nI v3) := by
      unfold hdS at h ⊢
      dsimp only at h ⊢
      generalize exW f n (exW f n (0, s) 0) 1 = q2 at h ⊢
      have a1 := nuS_z h
      have a2 := exW_z a1.1
      have a3 := (nuS_z a2).1
      have a4 := exW_z a3
      have a5 := nuS_z a4
      exact ⟨_, _, _, by have := a5.2.2; omega, by have := a1.2.2; omega, rfl⟩
    obtain ⟨v1, v2, v3, l1, l3, e⟩ := hd
    rw [e]
    refine ⟨hok_put2 (hok_any (hok_put0 hw l1) (by decide)) l3, fun r hr => ?_⟩
    have e3 : wN (upd (upd (upd w 0 (nI v1)) 1 (nI v2)) 2 (nI v3)) 3 = wN w 3 := by rw [wN_ne (by decide), wN_ne (by decide), wN_ne (by decide)]
    have e4 : wN (upd (upd (upd w 0 (nI v1)) 1 (nI v2)) 2 (nI v3)) 4 = wN w 4 := by rw [wN_ne (by decide), wN_ne (by decide), wN_ne (by decide)]
    rw [e4] at hr
    rw [e3]
    exact rv_c (hv r hr) (Nat.le_refl _) (fun j hj => by rw [upd_ne (by omega), upd_ne (by omega), upd_ne (by omega)])
  · by_cases c4 : WD f n s 4
    · rw [li_c c c4] at h ⊢
      unfold ceS at h ⊢
      by_cases d : wN w 3 = 3
      · rw [if_pos d] at h; exact absurd h k3
      · rw [if_neg d] at h ⊢
        by_cases d2 : kdS f n (nx f n s) [5, 6, 7, 8] = 4
        · rw [if_pos d2] at h; exact absurd h k1
        · rw [if_neg d2]
          refine ⟨hok_put3 (hok_any hw (by omega)) (by omega), fun r hr => ?_⟩
          dsimp only at hr ⊢
          rw [wN_ne (by decide), wN_ne (by omega)] at hr
          rw [wN_put (by omega)]
          exact rv_c (hv r hr) (by omega) (fun j hj => by rw [upd_ne (by omega), upd_ne (by omega)])
    · by_cases c9 : WD f n s 9
      · rw [li_r c c4 c9] at h ⊢
        unfold ruL at h ⊢
        by_cases d : wN w 4 = 5
        · rw [if_pos d] at h; exact absurd h k3
        · rw [if_neg d] at h ⊢
          have hk6 := kd_lt (f := f) (n := n) (s := nx f n s)
          by_cases d2 : kdS f n (nx f n s) [10, 11, 12, 13, 14, 15] = 6
          · rw [if_pos d2] at h; exact absurd h k1
          · rw [if_neg d2] at h ⊢
            generalize kdS f n (nx f n s) [10, 11, 12, 13, 14, 15] = kd at h d2 hk6 ⊢
            have hx := ruS_v (by omega) h
            have hm := ruM_b kd
            generalize ruS f n (nx f n (nx f n s)) kd (wN w 3) (wN w 0) = X at h hx ⊢
            refine ⟨hok_put4 (hok_putS hw (by omega)) (by omega), fun r hr => ?_⟩
            dsimp only at hr ⊢
            rw [wN_put (by omega)] at hr
            have e3 : wN (upd (putS w (11 + 5 * wN w 4) kd (ruM kd) X) 4 (nI (wN w 4 + 1))) 3 = wN w 3 := by
              unfold wN
              rw [upd_ne (by decide), putS_07 (by omega) (by decide)]
            rw [e3]
            by_cases e : r = wN w 4
            · subst e
              refine ⟨kd, by omega, by rw [upd_ne (by omega), putS_0], ⟨vS X 1, by have := hx.1; omega, by rw [upd_ne (by omega)]; exact putS_v hm (by decide) (by omega)⟩, fun q => ⟨vS X 2, by have := hx.2.1 q; omega, by rw [upd_ne (by omega)]; exact putS_v hm (by decide) (by omega)⟩, fun q => ⟨vS X 3, by have := hx.2.2 q; omega, by rw [upd_ne (by omega)]; exact putS_v hm (by decide) (by subst q; decide)⟩⟩
            · exact rv_c (hv r (by omega)) (Nat.le_refl _) (fun j hj => by rw [upd_ne (by omega), putS_o hm (by omega)])
      · by_cases c0 : WD f n s 20
        · rw [li_o c c4 c9 c0] at h ⊢
          unfold opL at h ⊢
          by_cases d : wN w 5 = 5
          · rw [if_pos d] at h; exact absurd h k3
          · rw [if_neg d] at h ⊢
            by_cases d2 : kdS f n (nx f n s) [21, 22, 23, 24] = 4
            · rw [if_pos d2] at h; exact absurd h k1
            · rw [if_neg d2]
              generalize kdS f n (nx f n s) [21, 22, 23, 24] = kd
              have hm := opM_b kd
              generalize opS f n (nx f n (nx f n s)) kd (wN w 3) (wN w 0) = X
              refine ⟨hok_put5 (hok_putS hw (by omega)) (by omega), fun r hr => ?_⟩
              dsimp only at hr ⊢
              have e3 : wN (upd (putS w (36 + 4 * wN w 5) kd (opM kd) X) 5 (nI (wN w 5 + 1))) 3 = wN w 3 := by
                unfold wN
                rw [upd_ne (by decide), putS_07 (by omega) (by decide)]
              have e4 : wN (upd (putS w (36 + 4 * wN w 5) kd (opM kd) X) 5 (nI (wN w 5 + 1))) 4 = wN w 4 := by
                unfold wN
                rw [upd_ne (by decide), putS_07 (by omega) (by decide)]
              rw [e4] at hr
              rw [e3]
              exact rv_c (hv r hr) (Nat.le_refl _) (fun j hj => by rw [upd_ne (by omega), putS_o (by omega) (by omega)])
        · rw [li_x c c4 c9 c0] at h; exact absurd h k1
theorem vr_ln {f : Nat → Int32} {n s : Nat} {w : Nat → Int32} (hw : HOK w) (hv : VR w) (h : (lnS f n s w).1 = 0) : HOK (lnS f n s w).2.2 ∧ VR (lnS f n s w).2.2 := by
  have li0 : (liS f n s w).1 = 0 := by
    by_cases e : (liS f n s w).1 = 0
    · exact e
    · rw [ln_n e] at h; exact absurd h e
  have t3 : tT f n (liS f n s w).2.1 = 3 := by
    by_cases e : tT f n (liS f n s w).2.1 = 3
    · exact e
    · rw [ln_1 li0 e] at h; exact absurd h (show ¬ (1 : Int32) = 0 by decide)
  obtain ⟨a, b⟩ := vr_li hw hv li0
  rw [ln_y li0 t3]
  refine ⟨hok_any a (by decide), fun r hr => ?_⟩
  dsimp only at hr ⊢
  rw [wN_ne (by decide)] at hr ⊢
  exact rv_c (b r hr) (Nat.le_refl _) (fun j hj => by rw [upd_ne (by omega)])
theorem vr_rd {f : Nat → Int32} {n : Nat} : ∀ m (x : Int32 × Nat × (Nat → Int32)), HOK x.2.2 → VR x.2.2 → (rdS f n m x).1 = 0 → VR (rdS f n m x).2.2 := by
  intro m
  induction m with
  | zero => intro x _ hv _; exact hv
  | succ m ih =>
    intro x hw hv h
    by_cases c : x.1 = 0 ∧ ¬ tT f n x.2.1 = 0
    · have e : rdS f n (m + 1) x = rdS f n m (lnS f n x.2.1 x.2.2) := if_pos c
      rw [e] at h ⊢
      by_cases k0 : (lnS f n x.2.1 x.2.2).1 = 0
      · have q := vr_ln hw hv k0
        exact ih _ q.1 q.2 h
      · rw [rd_stop (fun q => k0 q.1)] at h
        exact absurd h k0
    · rw [rd_stop c]; exact hv
theorem vr_z {w : Nat → Int32} (h : Z76 w) : VR w := fun r hr => by
  have e : wN w 4 = 0 := by unfold wN; rw [h 4 (by decide)]; decide
  rw [e] at hr
  exact absurd hr (Nat.not_lt_zero _)
theorem hok_bx {f : Nat → Int32} {n : Nat} {w0 w : Nat → Int32} : Z76 w0 → HOK w0 := fun h => hok_z h
theorem vr_76 {w v : Nat → Int32} (h : VR w) (hk : ∀ j, j < 76 → v j = w j) (hb : wN w 4 ≤ 5) : VR v := by
  have e3 : wN v 3 = wN w 3 := by unfold wN; rw [hk 3 (by decide)]
  have e4 : wN v 4 = wN w 4 := by unfold wN; rw [hk 4 (by decide)]
  intro r hr
  rw [e4] at hr
  rw [e3]
  exact rv_c (h r hr) (Nat.le_refl _) (fun j hj => hk _ (by omega))
theorem vr_base {f : Nat → Int32} {n : Nat} {w v : Nat → Int32} (hR : BDR f n w v) (h : VR w) (hv : HOK v) : VR v := by
  obtain ⟨w0, h0, hy, hn⟩ := hR
  by_cases e : (BX f n w0).1 = 0
  · have q := vr_rd (f := f) (n := n) (n + 1) (0, tS f n 0, w0) (hok_z h0) (vr_z h0) e
    have q : VR (BX f n w0).2.2 := q
    have e4 : wN v 4 = wN (BX f n w0).2.2 4 := by unfold wN; rw [hy e 4 (by decide)]
    exact vr_76 q (hy e) (by rw [← e4]; exact hok_b4 hv)
  · rw [hn e]; exact h
theorem vr_img {x : Int32} {k : Nat} {w f g : Nat → Int32} (hk : k < 3) (hR : IMR x w f g) (hw : WOK w) (hf : IOK f) (ht : VR w) (h : VR (fun j => f (76 * k + j))) : VR (fun j => g (76 * k + j)) := by
  by_cases e : 0 = imr x ∧ x.toNatClampNeg = k
  · exact vr_76 ht ((hR k hk).1 e) (hok_b4 hw.1)
  · exact vr_76 h ((hR k hk).2 e) (hok_b4 (hf k hk).1)
theorem vr_back {x : Int32} {m w f v : Nat → Int32} (hR : BKR x m w f v) (hf : IOK f) (ht : VR w) (h0 : VR (fun j => f (76 * 0 + j))) (h1 : VR (fun j => f (76 * 1 + j))) (h2 : VR (fun j => f (76 * 2 + j))) : VR v := by
  by_cases e : 0 = bkr x m
  · have hv := hR.1 e
    rcases bkr_3 e with k | k | k
    · rw [k] at hv; exact vr_76 h0 hv (hok_b4 (hf 0 (by decide)).1)
    · rw [k] at hv; exact vr_76 h1 hv (hok_b4 (hf 1 (by decide)).1)
    · rw [k] at hv; exact vr_76 h2 hv (hok_b4 (hf 2 (by decide)).1)
  · rw [hR.2 e]; exact ht
theorem hlc_z {f1 fa : Nat → Int32} {fh : Nat → Int64} : HLC 0 0 0 0 f1 fa fh := fun q => absurd rfl q.1
theorem rv_5 {k : Nat} {y : Int32} (hk : k < 6) (e : nI k = y) (h0 : ¬ y = 0) (h1 : ¬ y = 1) (h2 : ¬ y = 2) (h3 : ¬ y = 3) (h4 : ¬ y = 4) : k = 5 := by
  subst e
  rcases (show k = 0 ∨ k = 1 ∨ k = 2 ∨ k = 3 ∨ k = 4 ∨ k = 5 by omega) with rfl | rfl | rfl | rfl | rfl | rfl
  · exact absurd rfl h0
  · exact absurd rfl h1
  · exact absurd rfl h2
  · exact absurd rfl h3
  · exact absurd rfl h4
  · rfl
