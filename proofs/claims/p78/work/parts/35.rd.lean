set_option maxHeartbeats 4000000 in
set_option maxRecDepth 100000 in
theorem k_X4_isLetterNext (l : Launch) (D : va_G) (cs : Nat → ClassId) (sz : Nat) (aR : Nat) (aT : Nat) (aD : Nat) (rt : Int32) (rn : Int32) (rp : Int32) (rk : Int32) (rf : Int32) (tb : Nat) (ft : Nat → Int32) (rs : Nat) (ra : Nat) (nt : Nat) (hnt : nt ≤ 400) (hat : ra < 400) : Mi l D cs yX4_isLetterNext W_X4_isLetterNext 0 0 0 0 [.ref aR] [(aR, .inr (4, [.ref aT, .ref aD, .int rt, .int (nI rs), .int (nI ra), .int rn, .int rp, .int rk, .int rf])), (aT, .inr (7, [.ref tb, .int (nI nt)])), (tb, .inl (cs 0, 400, .inl ft))] sz (fun (r : Int32) (u : Unit) => ((r = 1 ∧ True) ∨ (r = 0 ∧ True))) (fun (u : Unit) => [(aR, .inr (4, [.ref aT, .ref aD, .int rt, .int (nI rs), .int (nI ra), .int rn, .int rp, .int rk, .int rf])), (aT, .inr (7, [.ref tb, .int (nI nt)])), (tb, .inl (cs 0, 400, .inl ft))]) := by
  refine ent (D := D) (cs := cs) (y := yX4_isLetterNext) (ws := W_X4_isLetterNext) (As := [.ref aR]) (W0 := [(aR, .inr (4, [.ref aT, .ref aD, .int rt, .int (nI rs), .int (nI ra), .int rn, .int rp, .int rk, .int rf])), (aT, .inr (7, [.ref tb, .int (nI nt)])), (tb, .inl (cs 0, 400, .inl ft))]) (Qx := fun A => va_Qi (fun (r : Int32) (u : Unit) => ((r = 1 ∧ True) ∨ (r = 0 ∧ True))) (mpost D A (fun (u : Unit) => [(aR, .inr (4, [.ref aT, .ref aD, .int rt, .int (nI rs), .int (nI ra), .int rn, .int rp, .int rk, .int rf])), (aT, .inr (7, [.ref tb, .int (nI nt)])), (tb, .inl (cs 0, 400, .inl ft))])) A) (maxL := 1) (ret := (some .boolean)) (by decide) rfl (Nat.le_of_ble_eq_true rfl) ?_
  intro p e s m below meth c A ls hx hb hr hml hlk hown hts hin hK hE hP hD hA hS hl
  have hl : lv_has ls 1 [(0, .ref aR)] := hl
  generalize hHe : s.heap = H at hP
  have hS : va_S A s.heap H [] := hHe ▸ hS
  generalize hLe : ([] : List Loc) = locs at hS ⊢
  have htw : ∀ w ∈ O_X4_isLetterNext, w.before ([.ref aR] : List Value).toArray s = true := fun w h => hts w (List.mem_cons_of_mem _ (List.mem_append_left _ h))
  have hFix := (⟨hx, hb, hml, hown, hts⟩ : CallFix p m c _ _ s _ _ _)
  refine lv_aload_n hx hb dX4_isLetterNext_0 rfl (lv_at hl 0 rfl) ?_
  refine va_get (D := D) (ci := 4) (v := .ref aT) (C := RX4) (T := TX4) (N := 9) hx hb hts iuX4_isLetterNext_X4 hown hK hP 0 rfl rfl 0 (by decide) (htw (.fieldLink RX4 33 "MergeJudge$Reader" "tape" "LMergeJudge$Tape;") (List.mem_of_getElem? (i := 0) rfl)) (fun _ h9 => h9) rfl dX4_isLetterNext_1 ?_
  refine va_get (D := D) (ci := 7) (v := .ref tb) (C := RX7) (T := TX7) (N := 2) hx hb hts iuX4_isLetterNext_X7 hown hK hP 1 rfl rfl 0 (by decide) (htw (.fieldLink RX4 201 "MergeJudge$Tape" "bytes" "[B") (List.mem_of_getElem? (i := 1) rfl)) (fun _ h9 => h9) rfl dX4_isLetterNext_4 ?_
  refine lv_aload_n hx hb dX4_isLetterNext_7 rfl (lv_at hl 0 rfl) ?_
  refine va_get (D := D) (ci := 4) (v := .int (nI ra)) (C := RX4) (T := TX4) (N := 9) hx hb hts iuX4_isLetterNext_X4 hown hK hP 0 rfl rfl 4 (by decide) (htw (.fieldLink RX4 18 "MergeJudge$Reader" "at" "I") (List.mem_of_getElem? (i := 2) rfl)) (fun _ h9 => h9) rfl dX4_isLetterNext_8 ?_
  refine va_bald hx hb hK hP 2 0 rfl rfl (vp_in_nI (by omega) (by omega)) dX4_isLetterNext_11 ?_
  rw [nI_clamp (by omega)]
  refine lv_bipush (v := 97) hx hb dX4_isLetterNext_12 (by decide) ?_
  refine lv_icmp_lt (tgt := 38) hx hb dX4_isLetterNext_14 (by decide) (fun c_1 => ?_) (fun c_1 => ?_)
  ·
    refine lv_iconst (v := 0) hx hb dX4_isLetterNext_38 (by decide) ?_
    exact ret_z hx hb hr hlk hS (Nat.le_of_ble_eq_true rfl) (Nat.le_of_ble_eq_true rfl) (by decide) () (Or.inr (⟨rfl, trivial⟩)) (hP.sub [0, 1, 2] rfl) (hD.sub [0, 1, 2] (by decide) rfl) dX4_isLetterNext_39
  ·
    refine lv_aload_n hx hb dX4_isLetterNext_17 rfl (lv_at hl 0 rfl) ?_
    refine va_get (D := D) (ci := 4) (v := .ref aT) (C := RX4) (T := TX4) (N := 9) hx hb hts iuX4_isLetterNext_X4 hown hK hP 0 rfl rfl 0 (by decide) (htw (.fieldLink RX4 33 "MergeJudge$Reader" "tape" "LMergeJudge$Tape;") (List.mem_of_getElem? (i := 0) rfl)) (fun _ h9 => h9) rfl dX4_isLetterNext_18 ?_
    refine va_get (D := D) (ci := 7) (v := .ref tb) (C := RX7) (T := TX7) (N := 2) hx hb hts iuX4_isLetterNext_X7 hown hK hP 1 rfl rfl 0 (by decide) (htw (.fieldLink RX4 201 "MergeJudge$Tape" "bytes" "[B") (List.mem_of_getElem? (i := 1) rfl)) (fun _ h9 => h9) rfl dX4_isLetterNext_21 ?_
    refine lv_aload_n hx hb dX4_isLetterNext_24 rfl (lv_at hl 0 rfl) ?_
    refine va_get (D := D) (ci := 4) (v := .int (nI ra)) (C := RX4) (T := TX4) (N := 9) hx hb hts iuX4_isLetterNext_X4 hown hK hP 0 rfl rfl 4 (by decide) (htw (.fieldLink RX4 18 "MergeJudge$Reader" "at" "I") (List.mem_of_getElem? (i := 2) rfl)) (fun _ h9 => h9) rfl dX4_isLetterNext_25 ?_
    refine va_bald hx hb hK hP 2 0 rfl rfl (vp_in_nI (by omega) (by omega)) dX4_isLetterNext_28 ?_
    rw [nI_clamp (by omega)]
    refine lv_bipush (v := 122) hx hb dX4_isLetterNext_29 (by decide) ?_
    refine lv_icmp_gt (tgt := 38) hx hb dX4_isLetterNext_31 (by decide) (fun c_2 => ?_) (fun c_2 => ?_)
    ·
      refine lv_iconst (v := 0) hx hb dX4_isLetterNext_38 (by decide) ?_
      exact ret_z hx hb hr hlk hS (Nat.le_of_ble_eq_true rfl) (Nat.le_of_ble_eq_true rfl) (by decide) () (Or.inr (⟨rfl, trivial⟩)) (hP.sub [0, 1, 2] rfl) (hD.sub [0, 1, 2] (by decide) rfl) dX4_isLetterNext_39
    ·
      refine lv_iconst (v := 1) hx hb dX4_isLetterNext_34 (by decide) ?_
      refine lv_goto (tgt := 39) hx hb dX4_isLetterNext_35 (by decide) ?_
      exact ret_z hx hb hr hlk hS (Nat.le_of_ble_eq_true rfl) (Nat.le_of_ble_eq_true rfl) (by decide) () (Or.inl ⟨rfl, trivial⟩) (hP.sub [0, 1, 2] rfl) (hD.sub [0, 1, 2] (by decide) rfl) dX4_isLetterNext_39

set_option maxHeartbeats 4000000 in
set_option maxRecDepth 100000 in
theorem k_X4_isDigitNext (l : Launch) (D : va_G) (cs : Nat → ClassId) (sz : Nat) (aR : Nat) (aT : Nat) (aD : Nat) (rt : Int32) (rn : Int32) (rp : Int32) (rk : Int32) (rf : Int32) (tb : Nat) (ft : Nat → Int32) (rs : Nat) (ra : Nat) (nt : Nat) (hnt : nt ≤ 400) (hat : ra < 400) : Mi l D cs yX4_isDigitNext W_X4_isDigitNext 0 0 0 0 [.ref aR] [(aR, .inr (4, [.ref aT, .ref aD, .int rt, .int (nI rs), .int (nI ra), .int rn, .int rp, .int rk, .int rf])), (aT, .inr (7, [.ref tb, .int (nI nt)])), (tb, .inl (cs 0, 400, .inl ft))] sz (fun (r : Int32) (u : Unit) => ((r = 1 ∧ True) ∨ (r = 0 ∧ True))) (fun (u : Unit) => [(aR, .inr (4, [.ref aT, .ref aD, .int rt, .int (nI rs), .int (nI ra), .int rn, .int rp, .int rk, .int rf])), (aT, .inr (7, [.ref tb, .int (nI nt)])), (tb, .inl (cs 0, 400, .inl ft))]) := by
  refine ent (D := D) (cs := cs) (y := yX4_isDigitNext) (ws := W_X4_isDigitNext) (As := [.ref aR]) (W0 := [(aR, .inr (4, [.ref aT, .ref aD, .int rt, .int (nI rs), .int (nI ra), .int rn, .int rp, .int rk, .int rf])), (aT, .inr (7, [.ref tb, .int (nI nt)])), (tb, .inl (cs 0, 400, .inl ft))]) (Qx := fun A => va_Qi (fun (r : Int32) (u : Unit) => ((r = 1 ∧ True) ∨ (r = 0 ∧ True))) (mpost D A (fun (u : Unit) => [(aR, .inr (4, [.ref aT, .ref aD, .int rt, .int (nI rs), .int (nI ra), .int rn, .int rp, .int rk, .int rf])), (aT, .inr (7, [.ref tb, .int (nI nt)])), (tb, .inl (cs 0, 400, .inl ft))])) A) (maxL := 1) (ret := (some .boolean)) (by decide) rfl (Nat.le_of_ble_eq_true rfl) ?_
  intro p e s m below meth c A ls hx hb hr hml hlk hown hts hin hK hE hP hD hA hS hl
  have hl : lv_has ls 1 [(0, .ref aR)] := hl
  generalize hHe : s.heap = H at hP
  have hS : va_S A s.heap H [] := hHe ▸ hS
  generalize hLe : ([] : List Loc) = locs at hS ⊢
  have htw : ∀ w ∈ O_X4_isDigitNext, w.before ([.ref aR] : List Value).toArray s = true := fun w h => hts w (List.mem_cons_of_mem _ (List.mem_append_left _ h))
  have hFix := (⟨hx, hb, hml, hown, hts⟩ : CallFix p m c _ _ s _ _ _)
  refine lv_aload_n hx hb dX4_isDigitNext_0 rfl (lv_at hl 0 rfl) ?_
  refine va_get (D := D) (ci := 4) (v := .ref aT) (C := RX4) (T := TX4) (N := 9) hx hb hts iuX4_isDigitNext_X4 hown hK hP 0 rfl rfl 0 (by decide) (htw (.fieldLink RX4 33 "MergeJudge$Reader" "tape" "LMergeJudge$Tape;") (List.mem_of_getElem? (i := 0) rfl)) (fun _ h9 => h9) rfl dX4_isDigitNext_1 ?_
  refine va_get (D := D) (ci := 7) (v := .ref tb) (C := RX7) (T := TX7) (N := 2) hx hb hts iuX4_isDigitNext_X7 hown hK hP 1 rfl rfl 0 (by decide) (htw (.fieldLink RX4 201 "MergeJudge$Tape" "bytes" "[B") (List.mem_of_getElem? (i := 1) rfl)) (fun _ h9 => h9) rfl dX4_isDigitNext_4 ?_
  refine lv_aload_n hx hb dX4_isDigitNext_7 rfl (lv_at hl 0 rfl) ?_
  refine va_get (D := D) (ci := 4) (v := .int (nI ra)) (C := RX4) (T := TX4) (N := 9) hx hb hts iuX4_isDigitNext_X4 hown hK hP 0 rfl rfl 4 (by decide) (htw (.fieldLink RX4 18 "MergeJudge$Reader" "at" "I") (List.mem_of_getElem? (i := 2) rfl)) (fun _ h9 => h9) rfl dX4_isDigitNext_8 ?_
  refine va_bald hx hb hK hP 2 0 rfl rfl (vp_in_nI (by omega) (by omega)) dX4_isDigitNext_11 ?_
  rw [nI_clamp (by omega)]
  refine lv_bipush (v := 48) hx hb dX4_isDigitNext_12 (by decide) ?_
  refine lv_icmp_lt (tgt := 38) hx hb dX4_isDigitNext_14 (by decide) (fun c_1 => ?_) (fun c_1 => ?_)
  ·
    refine lv_iconst (v := 0) hx hb dX4_isDigitNext_38 (by decide) ?_
    exact ret_z hx hb hr hlk hS (Nat.le_of_ble_eq_true rfl) (Nat.le_of_ble_eq_true rfl) (by decide) () (Or.inr (⟨rfl, trivial⟩)) (hP.sub [0, 1, 2] rfl) (hD.sub [0, 1, 2] (by decide) rfl) dX4_isDigitNext_39
  ·
    refine lv_aload_n hx hb dX4_isDigitNext_17 rfl (lv_at hl 0 rfl) ?_
    refine va_get (D := D) (ci := 4) (v := .ref aT) (C := RX4) (T := TX4) (N := 9) hx hb hts iuX4_isDigitNext_X4 hown hK hP 0 rfl rfl 0 (by decide) (htw (.fieldLink RX4 33 "MergeJudge$Reader" "tape" "LMergeJudge$Tape;") (List.mem_of_getElem? (i := 0) rfl)) (fun _ h9 => h9) rfl dX4_isDigitNext_18 ?_
    refine va_get (D := D) (ci := 7) (v := .ref tb) (C := RX7) (T := TX7) (N := 2) hx hb hts iuX4_isDigitNext_X7 hown hK hP 1 rfl rfl 0 (by decide) (htw (.fieldLink RX4 201 "MergeJudge$Tape" "bytes" "[B") (List.mem_of_getElem? (i := 1) rfl)) (fun _ h9 => h9) rfl dX4_isDigitNext_21 ?_
    refine lv_aload_n hx hb dX4_isDigitNext_24 rfl (lv_at hl 0 rfl) ?_
    refine va_get (D := D) (ci := 4) (v := .int (nI ra)) (C := RX4) (T := TX4) (N := 9) hx hb hts iuX4_isDigitNext_X4 hown hK hP 0 rfl rfl 4 (by decide) (htw (.fieldLink RX4 18 "MergeJudge$Reader" "at" "I") (List.mem_of_getElem? (i := 2) rfl)) (fun _ h9 => h9) rfl dX4_isDigitNext_25 ?_
    refine va_bald hx hb hK hP 2 0 rfl rfl (vp_in_nI (by omega) (by omega)) dX4_isDigitNext_28 ?_
    rw [nI_clamp (by omega)]
    refine lv_bipush (v := 57) hx hb dX4_isDigitNext_29 (by decide) ?_
    refine lv_icmp_gt (tgt := 38) hx hb dX4_isDigitNext_31 (by decide) (fun c_2 => ?_) (fun c_2 => ?_)
    ·
      refine lv_iconst (v := 0) hx hb dX4_isDigitNext_38 (by decide) ?_
      exact ret_z hx hb hr hlk hS (Nat.le_of_ble_eq_true rfl) (Nat.le_of_ble_eq_true rfl) (by decide) () (Or.inr (⟨rfl, trivial⟩)) (hP.sub [0, 1, 2] rfl) (hD.sub [0, 1, 2] (by decide) rfl) dX4_isDigitNext_39
    ·
      refine lv_iconst (v := 1) hx hb dX4_isDigitNext_34 (by decide) ?_
      refine lv_goto (tgt := 39) hx hb dX4_isDigitNext_35 (by decide) ?_
      exact ret_z hx hb hr hlk hS (Nat.le_of_ble_eq_true rfl) (Nat.le_of_ble_eq_true rfl) (by decide) () (Or.inl ⟨rfl, trivial⟩) (hP.sub [0, 1, 2] rfl) (hD.sub [0, 1, 2] (by decide) rfl) dX4_isDigitNext_39

set_option maxHeartbeats 4000000 in
set_option maxRecDepth 100000 in
theorem k_X4_next (l : Launch) (D : va_G) (cs : Nat → ClassId) (sz : Nat) (aR : Nat) (aT : Nat) (aD : Nat) (rt : Int32) (rn : Int32) (rp : Int32) (rk : Int32) (rf : Int32) (tb : Nat) (ft : Nat → Int32) (rs : Nat) (ra : Nat) (nt : Nat) (hnt : nt ≤ 400) (hrt : ra ≤ nt) : Mv l D cs yX4_next W_X4_next 1 20 0 0 [.ref aR] [(aR, .inr (4, [.ref aT, .ref aD, .int rt, .int (nI rs), .int (nI ra), .int rn, .int rp, .int rk, .int rf])), (aT, .inr (7, [.ref tb, .int (nI nt)])), (tb, .inl (cs 0, 400, .inl ft))] sz (fun (u : Int32 × Nat × Nat × Int32) => (u.2.1 ≤ u.2.2.1) ∧ (u.2.2.1 ≤ nt)) (fun (u : Int32 × Nat × Nat × Int32) => [(aR, .inr (4, [.ref aT, .ref aD, .int u.1, .int (nI u.2.1), .int (nI u.2.2.1), .int u.2.2.2, .int rp, .int rk, .int rf])), (aT, .inr (7, [.ref tb, .int (nI nt)])), (tb, .inl (cs 0, 400, .inl ft))]) := by
  refine ent (D := D) (cs := cs) (y := yX4_next) (ws := W_X4_next) (As := [.ref aR]) (W0 := [(aR, .inr (4, [.ref aT, .ref aD, .int rt, .int (nI rs), .int (nI ra), .int rn, .int rp, .int rk, .int rf])), (aT, .inr (7, [.ref tb, .int (nI nt)])), (tb, .inl (cs 0, 400, .inl ft))]) (Qx := fun A => va_Qv (fun (u : Int32 × Nat × Nat × Int32) => (u.2.1 ≤ u.2.2.1) ∧ (u.2.2.1 ≤ nt)) (mpost D A (fun (u : Int32 × Nat × Nat × Int32) => [(aR, .inr (4, [.ref aT, .ref aD, .int u.1, .int (nI u.2.1), .int (nI u.2.2.1), .int u.2.2.2, .int rp, .int rk, .int rf])), (aT, .inr (7, [.ref tb, .int (nI nt)])), (tb, .inl (cs 0, 400, .inl ft))])) A) (maxL := 1) (ret := none) (by decide) rfl (Nat.le_of_ble_eq_true rfl) ?_
  intro p e s m below meth c A ls hx hb hr hml hlk hown hts hin hK hE hP hD hA hS hl
  have hl : lv_has ls 1 [(0, .ref aR)] := hl
  generalize hHe : s.heap = H at hP
  have hS : va_S A s.heap H [] := hHe ▸ hS
  generalize hLe : ([] : List Loc) = locs at hS ⊢
  have htw : ∀ w ∈ O_X4_next, w.before ([.ref aR] : List Value).toArray s = true := fun w h => hts w (List.mem_cons_of_mem _ (List.mem_append_left _ h))
  have hFix := (⟨hx, hb, hml, hown, hts⟩ : CallFix p m c _ _ s _ _ _)
  have lp_1 : ∀ (nfu : Nat) (g0_a : Nat) (H : Heap) (locs : List Loc) (ls : Array Slot) (hw0_a : g0_a ≤ nt), nt - g0_a < nfu → va_P D vwCl [(aR, .inr (4, [.ref aT, .ref aD, .int rt, .int (nI rs), .int (nI g0_a), .int rn, .int rp, .int rk, .int rf])), (aT, .inr (7, [.ref tb, .int (nI nt)])), (tb, .inl (cs 0, 400, .inl ft))] H → va_D A [(aR, .inr (4, [.ref aT, .ref aD, .int rt, .int (nI rs), .int (nI g0_a), .int rn, .int rp, .int rk, .int rf])), (aT, .inr (7, [.ref tb, .int (nI nt)])), (tb, .inl (cs 0, 400, .inl ft))] → va_S A s.heap H locs → lv_has ls 1 [(0, .ref aR)] → W p l e (mRm 1 0 0 20) s m ([.ref aR] : List Value).toArray below meth c H locs 0 0 (MQ below (va_Qv (fun (u : Int32 × Nat × Nat × Int32) => (u.2.1 ≤ u.2.2.1) ∧ (u.2.2.1 ≤ nt)) (mpost D A (fun (u : Int32 × Nat × Nat × Int32) => [(aR, .inr (4, [.ref aT, .ref aD, .int u.1, .int (nI u.2.1), .int (nI u.2.2.1), .int u.2.2.2, .int rp, .int rk, .int rf])), (aT, .inr (7, [.ref tb, .int (nI nt)])), (tb, .inl (cs 0, 400, .inl ft))])) A) ([.ref aR] : List Value).toArray s 0 0 A) (F0 m 0 ls []) := by
    intro nfu
    induction nfu with
    | zero => intro g0_a H locs ls hw0_a hmu; exact absurd hmu (Nat.not_lt_zero _)
    | succ nfu ih =>
      intro g0_a H locs ls hw0_a hmu hP hD hS hl
      have ih_lp_1 := @ih
      refine lv_aload_n hx hb dX4_next_0 rfl (lv_at hl 0 rfl) ?_
      refine va_get (D := D) (ci := 4) (v := .int (nI g0_a)) (C := RX4) (T := TX4) (N := 9) hx hb hts iuX4_next_X4 hown hK hP 0 rfl rfl 4 (by decide) (htw (.fieldLink RX4 18 "MergeJudge$Reader" "at" "I") (List.mem_of_getElem? (i := 0) rfl)) (fun _ h9 => h9) rfl dX4_next_1 ?_
      refine lv_aload_n hx hb dX4_next_4 rfl (lv_at hl 0 rfl) ?_
      refine va_get (D := D) (ci := 4) (v := .ref aT) (C := RX4) (T := TX4) (N := 9) hx hb hts iuX4_next_X4 hown hK hP 0 rfl rfl 0 (by decide) (htw (.fieldLink RX4 33 "MergeJudge$Reader" "tape" "LMergeJudge$Tape;") (List.mem_of_getElem? (i := 1) rfl)) (fun _ h9 => h9) rfl dX4_next_5 ?_
      refine va_get (D := D) (ci := 7) (v := .int (nI nt)) (C := RX7) (T := TX7) (N := 2) hx hb hts iuX4_next_X7 hown hK hP 1 rfl rfl 1 (by decide) (htw (.fieldLink RX4 196 "MergeJudge$Tape" "size" "I") (List.mem_of_getElem? (i := 2) rfl)) (fun _ h9 => h9) rfl dX4_next_8 ?_
      refine lv_icmp_ge (tgt := 61) hx hb dX4_next_11 (by decide) (fun c_2 => ?_) (fun c_2 => ?_)
      ·
        have hn_2 := bge_t (a := g0_a) (b := nt) c_2 (by omega) (by omega)
        refine lv_aload_n hx hb dX4_next_61 rfl (lv_at hl 0 rfl) ?_
        refine lv_aload_n hx hb dX4_next_62 rfl (lv_at hl 0 rfl) ?_
        refine va_get (D := D) (ci := 4) (v := .int (nI g0_a)) (C := RX4) (T := TX4) (N := 9) hx hb hts iuX4_next_X4 hown hK hP 0 rfl rfl 4 (by decide) (htw (.fieldLink RX4 18 "MergeJudge$Reader" "at" "I") (List.mem_of_getElem? (i := 0) rfl)) (fun _ h9 => h9) rfl dX4_next_63 ?_
        refine va_put (D := D) (ci := 4) (v := .int (nI g0_a)) (ty := .int) (C := RX4) (T := TX4) (N := 9) hx hb hts iuX4_next_X4 tyX4 tyX4_ok nmX4 hown hK hP hD hS 0 rfl rfl 3 (by decide) (htw (.fieldLink RX4 15 "MergeJudge$Reader" "start" "I") (List.mem_of_getElem? (i := 4) rfl)) (fun _ h9 => h9) rfl (by decide +kernel) rfl rfl (Nat.le_of_ble_eq_true rfl) dX4_next_66 (fun H locs hP hD hS => ?_)
        have hP : va_P D vwCl [(aR, .inr (4, [.ref aT, .ref aD, .int rt, .int (nI g0_a), .int (nI g0_a), .int rn, .int rp, .int rk, .int rf])), (aT, .inr (7, [.ref tb, .int (nI nt)])), (tb, .inl (cs 0, 400, .inl ft))] H := hP
        have hD : va_D A [(aR, .inr (4, [.ref aT, .ref aD, .int rt, .int (nI g0_a), .int (nI g0_a), .int rn, .int rp, .int rk, .int rf])), (aT, .inr (7, [.ref tb, .int (nI nt)])), (tb, .inl (cs 0, 400, .inl ft))] := hD
        refine lv_aload_n hx hb dX4_next_69 rfl (lv_at hl 0 rfl) ?_
        refine lv_iconst (v := 0) hx hb dX4_next_70 (by decide) ?_
        refine va_put (D := D) (ci := 4) (v := .int 0) (ty := .int) (C := RX4) (T := TX4) (N := 9) hx hb hts iuX4_next_X4 tyX4 tyX4_ok nmX4 hown hK hP hD hS 0 rfl rfl 5 (by decide) (htw (.fieldLink RX4 21 "MergeJudge$Reader" "number" "I") (List.mem_of_getElem? (i := 5) rfl)) (fun _ h9 => h9) rfl (by decide +kernel) rfl rfl (Nat.le_of_ble_eq_true rfl) dX4_next_71 (fun H locs hP hD hS => ?_)
        have hP : va_P D vwCl [(aR, .inr (4, [.ref aT, .ref aD, .int rt, .int (nI g0_a), .int (nI g0_a), .int 0, .int rp, .int rk, .int rf])), (aT, .inr (7, [.ref tb, .int (nI nt)])), (tb, .inl (cs 0, 400, .inl ft))] H := hP
        have hD : va_D A [(aR, .inr (4, [.ref aT, .ref aD, .int rt, .int (nI g0_a), .int (nI g0_a), .int 0, .int rp, .int rk, .int rf])), (aT, .inr (7, [.ref tb, .int (nI nt)])), (tb, .inl (cs 0, 400, .inl ft))] := hD
        refine lv_aload_n hx hb dX4_next_74 rfl (lv_at hl 0 rfl) ?_
        refine va_get (D := D) (ci := 4) (v := .int (nI g0_a)) (C := RX4) (T := TX4) (N := 9) hx hb hts iuX4_next_X4 hown hK hP 0 rfl rfl 4 (by decide) (htw (.fieldLink RX4 18 "MergeJudge$Reader" "at" "I") (List.mem_of_getElem? (i := 0) rfl)) (fun _ h9 => h9) rfl dX4_next_75 ?_
        refine lv_aload_n hx hb dX4_next_78 rfl (lv_at hl 0 rfl) ?_
        refine va_get (D := D) (ci := 4) (v := .ref aT) (C := RX4) (T := TX4) (N := 9) hx hb hts iuX4_next_X4 hown hK hP 0 rfl rfl 0 (by decide) (htw (.fieldLink RX4 33 "MergeJudge$Reader" "tape" "LMergeJudge$Tape;") (List.mem_of_getElem? (i := 1) rfl)) (fun _ h9 => h9) rfl dX4_next_79 ?_
        refine va_get (D := D) (ci := 7) (v := .int (nI nt)) (C := RX7) (T := TX7) (N := 2) hx hb hts iuX4_next_X7 hown hK hP 1 rfl rfl 1 (by decide) (htw (.fieldLink RX4 196 "MergeJudge$Tape" "size" "I") (List.mem_of_getElem? (i := 2) rfl)) (fun _ h9 => h9) rfl dX4_next_82 ?_
        refine lv_icmp_lt (tgt := 94) hx hb dX4_next_85 (by decide) (fun c_3 => ?_) (fun c_3 => ?_)
        ·
          have hn_3 := blt_t (a := g0_a) (b := nt) c_3 (by omega) (by omega)
          refine lv_aload_n hx hb dX4_next_94 rfl (lv_at hl 0 rfl) ?_
          refine aft_i (wr := []) hP hD hS hA [0, 1, 2] [] rfl rfl (by decide) (by decide) (run_v (As := []) (rest := []) hFix hK hE hP hD [0, 1, 2] (k_X4_isLetterNext l D cs _ aR aT aD rt 0 rp rk rf tb ft g0_a g0_a nt (by first | assumption | decide | omega) (by first | assumption | decide | omega)) (cwV 0 hts gc_X4_next_205_X4_isLetterNext rfl rfl rfl (by decide +kernel) ⟨Nat.le_of_ble_eq_true rfl, Nat.le_of_ble_eq_true rfl⟩) rfl (by decide) rfl rfl rfl hl.1 rfl (Nat.le_of_ble_eq_true rfl) dX4_next_95 ⟨Nat.le_of_ble_eq_true rfl, Nat.le_of_ble_eq_true rfl⟩) (fun r_4 u_4 H locs hq_4 hP hD hS => ?_)
          have hP : va_P D vwCl [(aR, .inr (4, [.ref aT, .ref aD, .int rt, .int (nI g0_a), .int (nI g0_a), .int 0, .int rp, .int rk, .int rf])), (aT, .inr (7, [.ref tb, .int (nI nt)])), (tb, .inl (cs 0, 400, .inl ft))] H := hP
          have hD : va_D A [(aR, .inr (4, [.ref aT, .ref aD, .int rt, .int (nI g0_a), .int (nI g0_a), .int 0, .int rp, .int rk, .int rf])), (aT, .inr (7, [.ref tb, .int (nI nt)])), (tb, .inl (cs 0, 400, .inl ft))] := hD
          replace hq_4 : ((r_4 = 1 ∧ True) ∨ (r_4 = 0 ∧ True)) := hq_4
          rcases hq_4 with ⟨rfl, hq_4⟩ | ⟨rfl, hq_4⟩
          ·
            refine lv_if_eq (tgt := 140) hx hb dX4_next_98 (by decide) (fun h9 => absurd h9 (by decide)) (fun _ => ?_)
            refine lv_aload_n hx hb dX4_next_101 rfl (lv_at hl 0 rfl) ?_
            refine lv_iconst (v := 1) hx hb dX4_next_102 (by decide) ?_
            refine va_put (D := D) (ci := 4) (v := .int 1) (ty := .int) (C := RX4) (T := TX4) (N := 9) hx hb hts iuX4_next_X4 tyX4 tyX4_ok nmX4 hown hK hP hD hS 0 rfl rfl 2 (by decide) (htw (.fieldLink RX4 11 "MergeJudge$Reader" "token" "I") (List.mem_of_getElem? (i := 6) rfl)) (fun _ h9 => h9) rfl (by decide +kernel) rfl rfl (Nat.le_of_ble_eq_true rfl) dX4_next_103 (fun H locs hP hD hS => ?_)
            have hP : va_P D vwCl [(aR, .inr (4, [.ref aT, .ref aD, .int 1, .int (nI g0_a), .int (nI g0_a), .int 0, .int rp, .int rk, .int rf])), (aT, .inr (7, [.ref tb, .int (nI nt)])), (tb, .inl (cs 0, 400, .inl ft))] H := hP
            have hD : va_D A [(aR, .inr (4, [.ref aT, .ref aD, .int 1, .int (nI g0_a), .int (nI g0_a), .int 0, .int rp, .int rk, .int rf])), (aT, .inr (7, [.ref tb, .int (nI nt)])), (tb, .inl (cs 0, 400, .inl ft))] := hD
            have lp_5 : ∀ (nfu : Nat) (g0_b : Nat) (H : Heap) (locs : List Loc) (ls : Array Slot) (hw0_b : g0_b ≤ nt) (hw1_b : g0_a ≤ g0_b), nt - g0_b < nfu → va_P D vwCl [(aR, .inr (4, [.ref aT, .ref aD, .int 1, .int (nI g0_a), .int (nI g0_b), .int 0, .int rp, .int rk, .int rf])), (aT, .inr (7, [.ref tb, .int (nI nt)])), (tb, .inl (cs 0, 400, .inl ft))] H → va_D A [(aR, .inr (4, [.ref aT, .ref aD, .int 1, .int (nI g0_a), .int (nI g0_b), .int 0, .int rp, .int rk, .int rf])), (aT, .inr (7, [.ref tb, .int (nI nt)])), (tb, .inl (cs 0, 400, .inl ft))] → va_S A s.heap H locs → lv_has ls 1 [(0, .ref aR)] → W p l e (mRm 1 0 0 20) s m ([.ref aR] : List Value).toArray below meth c H locs 0 0 (MQ below (va_Qv (fun (u : Int32 × Nat × Nat × Int32) => (u.2.1 ≤ u.2.2.1) ∧ (u.2.2.1 ≤ nt)) (mpost D A (fun (u : Int32 × Nat × Nat × Int32) => [(aR, .inr (4, [.ref aT, .ref aD, .int u.1, .int (nI u.2.1), .int (nI u.2.2.1), .int u.2.2.2, .int rp, .int rk, .int rf])), (aT, .inr (7, [.ref tb, .int (nI nt)])), (tb, .inl (cs 0, 400, .inl ft))])) A) ([.ref aR] : List Value).toArray s 0 0 A) (F0 m 106 ls []) := by
              intro nfu
              induction nfu with
              | zero => intro g0_b H locs ls hw0_b hw1_b hmu; exact absurd hmu (Nat.not_lt_zero _)
              | succ nfu ih =>
                intro g0_b H locs ls hw0_b hw1_b hmu hP hD hS hl
                have ih_lp_5 := @ih
                refine lv_aload_n hx hb dX4_next_106 rfl (lv_at hl 0 rfl) ?_
                refine va_get (D := D) (ci := 4) (v := .int (nI g0_b)) (C := RX4) (T := TX4) (N := 9) hx hb hts iuX4_next_X4 hown hK hP 0 rfl rfl 4 (by decide) (htw (.fieldLink RX4 18 "MergeJudge$Reader" "at" "I") (List.mem_of_getElem? (i := 0) rfl)) (fun _ h9 => h9) rfl dX4_next_107 ?_
                refine lv_aload_n hx hb dX4_next_110 rfl (lv_at hl 0 rfl) ?_
                refine va_get (D := D) (ci := 4) (v := .ref aT) (C := RX4) (T := TX4) (N := 9) hx hb hts iuX4_next_X4 hown hK hP 0 rfl rfl 0 (by decide) (htw (.fieldLink RX4 33 "MergeJudge$Reader" "tape" "LMergeJudge$Tape;") (List.mem_of_getElem? (i := 1) rfl)) (fun _ h9 => h9) rfl dX4_next_111 ?_
                refine va_get (D := D) (ci := 7) (v := .int (nI nt)) (C := RX7) (T := TX7) (N := 2) hx hb hts iuX4_next_X7 hown hK hP 1 rfl rfl 1 (by decide) (htw (.fieldLink RX4 196 "MergeJudge$Tape" "size" "I") (List.mem_of_getElem? (i := 2) rfl)) (fun _ h9 => h9) rfl dX4_next_114 ?_
                refine lv_icmp_ge (tgt := 255) hx hb dX4_next_117 (by decide) (fun c_6 => ?_) (fun c_6 => ?_)
                ·
                  have hn_6 := bge_t (a := g0_b) (b := nt) c_6 (by omega) (by omega)
                  exact ret_v hx hb hr hlk hS (Nat.le_of_ble_eq_true rfl) (Nat.le_of_ble_eq_true rfl) (1, g0_a, g0_b, 0) (⟨(by omega), (by omega)⟩) (hP.sub [0, 1, 2] rfl) (hD.sub [0, 1, 2] (by decide) rfl) dX4_next_255
                ·
                  have hn_6 := bge_f (a := g0_b) (b := nt) c_6 (by omega) (by omega)
                  refine lv_aload_n hx hb dX4_next_120 rfl (lv_at hl 0 rfl) ?_
                  refine aft_i (wr := []) hP hD hS hA [0, 1, 2] [] rfl rfl (by decide) (by decide) (run_v (As := []) (rest := []) hFix hK hE hP hD [0, 1, 2] (k_X4_isLetterNext l D cs _ aR aT aD 1 0 rp rk rf tb ft g0_a g0_b nt (by first | assumption | decide | omega) (by first | assumption | decide | omega)) (cwV 0 hts gc_X4_next_205_X4_isLetterNext rfl rfl rfl (by decide +kernel) ⟨Nat.le_of_ble_eq_true rfl, Nat.le_of_ble_eq_true rfl⟩) rfl (by decide) rfl rfl rfl hl.1 rfl (Nat.le_of_ble_eq_true rfl) dX4_next_121 ⟨Nat.le_of_ble_eq_true rfl, Nat.le_of_ble_eq_true rfl⟩) (fun r_7 u_7 H locs hq_7 hP hD hS => ?_)
                  have hP : va_P D vwCl [(aR, .inr (4, [.ref aT, .ref aD, .int 1, .int (nI g0_a), .int (nI g0_b), .int 0, .int rp, .int rk, .int rf])), (aT, .inr (7, [.ref tb, .int (nI nt)])), (tb, .inl (cs 0, 400, .inl ft))] H := hP
                  have hD : va_D A [(aR, .inr (4, [.ref aT, .ref aD, .int 1, .int (nI g0_a), .int (nI g0_b), .int 0, .int rp, .int rk, .int rf])), (aT, .inr (7, [.ref tb, .int (nI nt)])), (tb, .inl (cs 0, 400, .inl ft))] := hD
                  replace hq_7 : ((r_7 = 1 ∧ True) ∨ (r_7 = 0 ∧ True)) := hq_7
                  rcases hq_7 with ⟨rfl, hq_7⟩ | ⟨rfl, hq_7⟩
                  ·
                    refine lv_if_eq (tgt := 255) hx hb dX4_next_124 (by decide) (fun h9 => absurd h9 (by decide)) (fun _ => ?_)
                    refine lv_aload_n hx hb dX4_next_127 rfl (lv_at hl 0 rfl) ?_
                    refine lv_dup hx hb dX4_next_128 rfl ?_
                    refine va_get (D := D) (ci := 4) (v := .int (nI g0_b)) (C := RX4) (T := TX4) (N := 9) hx hb hts iuX4_next_X4 hown hK hP 0 rfl rfl 4 (by decide) (htw (.fieldLink RX4 18 "MergeJudge$Reader" "at" "I") (List.mem_of_getElem? (i := 0) rfl)) (fun _ h9 => h9) rfl dX4_next_129 ?_
                    refine lv_iconst (v := 1) hx hb dX4_next_132 (by decide) ?_
                    refine lv_iadd hx hb dX4_next_133 ?_
                    refine cf_i (nI (g0_b + 1)) (nI_add g0_b 1) ?_
                    refine va_put (D := D) (ci := 4) (v := .int (nI (g0_b + 1))) (ty := .int) (C := RX4) (T := TX4) (N := 9) hx hb hts iuX4_next_X4 tyX4 tyX4_ok nmX4 hown hK hP hD hS 0 rfl rfl 4 (by decide) (htw (.fieldLink RX4 18 "MergeJudge$Reader" "at" "I") (List.mem_of_getElem? (i := 0) rfl)) (fun _ h9 => h9) rfl (by decide +kernel) rfl rfl (Nat.le_of_ble_eq_true rfl) dX4_next_134 (fun H locs hP hD hS => ?_)
                    have hP : va_P D vwCl [(aR, .inr (4, [.ref aT, .ref aD, .int 1, .int (nI g0_a), .int (nI (g0_b + 1)), .int 0, .int rp, .int rk, .int rf])), (aT, .inr (7, [.ref tb, .int (nI nt)])), (tb, .inl (cs 0, 400, .inl ft))] H := hP
                    have hD : va_D A [(aR, .inr (4, [.ref aT, .ref aD, .int 1, .int (nI g0_a), .int (nI (g0_b + 1)), .int 0, .int rp, .int rk, .int rf])), (aT, .inr (7, [.ref tb, .int (nI nt)])), (tb, .inl (cs 0, 400, .inl ft))] := hD
                    refine lv_goto (tgt := 106) hx hb dX4_next_137 (by decide) ?_
                    exact ih_lp_5 (g0_b + 1) H locs ls (by omega) (by omega) (by omega) (hP.sub [0, 1, 2] rfl) (hD.sub [0, 1, 2] (by decide) rfl) hS (lv_sub hl [0] rfl)
                  ·
                    refine lv_if_eq (tgt := 255) hx hb dX4_next_124 (by decide) (fun _ => ?_) (fun h9 => absurd h9 (by decide))
                    exact ret_v hx hb hr hlk hS (Nat.le_of_ble_eq_true rfl) (Nat.le_of_ble_eq_true rfl) (1, g0_a, g0_b, 0) (⟨(by omega), (by omega)⟩) (hP.sub [0, 1, 2] rfl) (hD.sub [0, 1, 2] (by decide) rfl) dX4_next_255
            exact lp_5 _ g0_a H locs ls (by omega) (by omega) (Nat.lt_succ_self _) (hP.sub [0, 1, 2] rfl) (hD.sub [0, 1, 2] (by decide) rfl) hS (lv_sub hl [0] rfl)
          ·
            refine lv_if_eq (tgt := 140) hx hb dX4_next_98 (by decide) (fun _ => ?_) (fun h9 => absurd h9 (by decide))
            refine lv_aload_n hx hb dX4_next_140 rfl (lv_at hl 0 rfl) ?_
            refine aft_i (wr := []) hP hD hS hA [0, 1, 2] [] rfl rfl (by decide) (by decide) (run_v (As := []) (rest := []) hFix hK hE hP hD [0, 1, 2] (k_X4_isDigitNext l D cs _ aR aT aD rt 0 rp rk rf tb ft g0_a g0_a nt (by first | assumption | decide | omega) (by first | assumption | decide | omega)) (cwV 0 hts gc_X4_next_208_X4_isDigitNext rfl rfl rfl (by decide +kernel) ⟨Nat.le_of_ble_eq_true rfl, Nat.le_of_ble_eq_true rfl⟩) rfl (by decide) rfl rfl rfl hl.1 rfl (Nat.le_of_ble_eq_true rfl) dX4_next_141 ⟨Nat.le_of_ble_eq_true rfl, Nat.le_of_ble_eq_true rfl⟩) (fun r_8 u_8 H locs hq_8 hP hD hS => ?_)
            have hP : va_P D vwCl [(aR, .inr (4, [.ref aT, .ref aD, .int rt, .int (nI g0_a), .int (nI g0_a), .int 0, .int rp, .int rk, .int rf])), (aT, .inr (7, [.ref tb, .int (nI nt)])), (tb, .inl (cs 0, 400, .inl ft))] H := hP
            have hD : va_D A [(aR, .inr (4, [.ref aT, .ref aD, .int rt, .int (nI g0_a), .int (nI g0_a), .int 0, .int rp, .int rk, .int rf])), (aT, .inr (7, [.ref tb, .int (nI nt)])), (tb, .inl (cs 0, 400, .inl ft))] := hD
            replace hq_8 : ((r_8 = 1 ∧ True) ∨ (r_8 = 0 ∧ True)) := hq_8
            rcases hq_8 with ⟨rfl, hq_8⟩ | ⟨rfl, hq_8⟩
            ·
              refine lv_if_eq (tgt := 219) hx hb dX4_next_144 (by decide) (fun h9 => absurd h9 (by decide)) (fun _ => ?_)
              refine lv_aload_n hx hb dX4_next_147 rfl (lv_at hl 0 rfl) ?_
              refine lv_iconst (v := 2) hx hb dX4_next_148 (by decide) ?_
              refine va_put (D := D) (ci := 4) (v := .int 2) (ty := .int) (C := RX4) (T := TX4) (N := 9) hx hb hts iuX4_next_X4 tyX4 tyX4_ok nmX4 hown hK hP hD hS 0 rfl rfl 2 (by decide) (htw (.fieldLink RX4 11 "MergeJudge$Reader" "token" "I") (List.mem_of_getElem? (i := 6) rfl)) (fun _ h9 => h9) rfl (by decide +kernel) rfl rfl (Nat.le_of_ble_eq_true rfl) dX4_next_149 (fun H locs hP hD hS => ?_)
              have hP : va_P D vwCl [(aR, .inr (4, [.ref aT, .ref aD, .int 2, .int (nI g0_a), .int (nI g0_a), .int 0, .int rp, .int rk, .int rf])), (aT, .inr (7, [.ref tb, .int (nI nt)])), (tb, .inl (cs 0, 400, .inl ft))] H := hP
              have hD : va_D A [(aR, .inr (4, [.ref aT, .ref aD, .int 2, .int (nI g0_a), .int (nI g0_a), .int 0, .int rp, .int rk, .int rf])), (aT, .inr (7, [.ref tb, .int (nI nt)])), (tb, .inl (cs 0, 400, .inl ft))] := hD
              have lp_9 : ∀ (nfu : Nat) (g0_c : Nat) (g1_c : Int32) (H : Heap) (locs : List Loc) (ls : Array Slot) (hw0_c : g0_c ≤ nt) (hw1_c : g0_a ≤ g0_c), nt - g0_c < nfu → va_P D vwCl [(aR, .inr (4, [.ref aT, .ref aD, .int 2, .int (nI g0_a), .int (nI g0_c), .int g1_c, .int rp, .int rk, .int rf])), (aT, .inr (7, [.ref tb, .int (nI nt)])), (tb, .inl (cs 0, 400, .inl ft))] H → va_D A [(aR, .inr (4, [.ref aT, .ref aD, .int 2, .int (nI g0_a), .int (nI g0_c), .int g1_c, .int rp, .int rk, .int rf])), (aT, .inr (7, [.ref tb, .int (nI nt)])), (tb, .inl (cs 0, 400, .inl ft))] → va_S A s.heap H locs → lv_has ls 1 [(0, .ref aR)] → W p l e (mRm 1 0 0 20) s m ([.ref aR] : List Value).toArray below meth c H locs 0 0 (MQ below (va_Qv (fun (u : Int32 × Nat × Nat × Int32) => (u.2.1 ≤ u.2.2.1) ∧ (u.2.2.1 ≤ nt)) (mpost D A (fun (u : Int32 × Nat × Nat × Int32) => [(aR, .inr (4, [.ref aT, .ref aD, .int u.1, .int (nI u.2.1), .int (nI u.2.2.1), .int u.2.2.2, .int rp, .int rk, .int rf])), (aT, .inr (7, [.ref tb, .int (nI nt)])), (tb, .inl (cs 0, 400, .inl ft))])) A) ([.ref aR] : List Value).toArray s 0 0 A) (F0 m 152 ls []) := by
                intro nfu
                induction nfu with
                | zero => intro g0_c g1_c H locs ls hw0_c hw1_c hmu; exact absurd hmu (Nat.not_lt_zero _)
                | succ nfu ih =>
                  intro g0_c g1_c H locs ls hw0_c hw1_c hmu hP hD hS hl
                  have ih_lp_9 := @ih
                  refine lv_aload_n hx hb dX4_next_152 rfl (lv_at hl 0 rfl) ?_
                  refine va_get (D := D) (ci := 4) (v := .int (nI g0_c)) (C := RX4) (T := TX4) (N := 9) hx hb hts iuX4_next_X4 hown hK hP 0 rfl rfl 4 (by decide) (htw (.fieldLink RX4 18 "MergeJudge$Reader" "at" "I") (List.mem_of_getElem? (i := 0) rfl)) (fun _ h9 => h9) rfl dX4_next_153 ?_
                  refine lv_aload_n hx hb dX4_next_156 rfl (lv_at hl 0 rfl) ?_
                  refine va_get (D := D) (ci := 4) (v := .ref aT) (C := RX4) (T := TX4) (N := 9) hx hb hts iuX4_next_X4 hown hK hP 0 rfl rfl 0 (by decide) (htw (.fieldLink RX4 33 "MergeJudge$Reader" "tape" "LMergeJudge$Tape;") (List.mem_of_getElem? (i := 1) rfl)) (fun _ h9 => h9) rfl dX4_next_157 ?_
                  refine va_get (D := D) (ci := 7) (v := .int (nI nt)) (C := RX7) (T := TX7) (N := 2) hx hb hts iuX4_next_X7 hown hK hP 1 rfl rfl 1 (by decide) (htw (.fieldLink RX4 196 "MergeJudge$Tape" "size" "I") (List.mem_of_getElem? (i := 2) rfl)) (fun _ h9 => h9) rfl dX4_next_160 ?_
                  refine lv_icmp_ge (tgt := 255) hx hb dX4_next_163 (by decide) (fun c_10 => ?_) (fun c_10 => ?_)
                  ·
                    have hn_10 := bge_t (a := g0_c) (b := nt) c_10 (by omega) (by omega)
                    exact ret_v hx hb hr hlk hS (Nat.le_of_ble_eq_true rfl) (Nat.le_of_ble_eq_true rfl) (2, g0_a, g0_c, g1_c) (⟨(by omega), (by omega)⟩) (hP.sub [0, 1, 2] rfl) (hD.sub [0, 1, 2] (by decide) rfl) dX4_next_255
                  ·
                    have hn_10 := bge_f (a := g0_c) (b := nt) c_10 (by omega) (by omega)
                    refine lv_aload_n hx hb dX4_next_166 rfl (lv_at hl 0 rfl) ?_
                    refine aft_i (wr := []) hP hD hS hA [0, 1, 2] [] rfl rfl (by decide) (by decide) (run_v (As := []) (rest := []) hFix hK hE hP hD [0, 1, 2] (k_X4_isDigitNext l D cs _ aR aT aD 2 g1_c rp rk rf tb ft g0_a g0_c nt (by first | assumption | decide | omega) (by first | assumption | decide | omega)) (cwV 0 hts gc_X4_next_208_X4_isDigitNext rfl rfl rfl (by decide +kernel) ⟨Nat.le_of_ble_eq_true rfl, Nat.le_of_ble_eq_true rfl⟩) rfl (by decide) rfl rfl rfl hl.1 rfl (Nat.le_of_ble_eq_true rfl) dX4_next_167 ⟨Nat.le_of_ble_eq_true rfl, Nat.le_of_ble_eq_true rfl⟩) (fun r_11 u_11 H locs hq_11 hP hD hS => ?_)
                    have hP : va_P D vwCl [(aR, .inr (4, [.ref aT, .ref aD, .int 2, .int (nI g0_a), .int (nI g0_c), .int g1_c, .int rp, .int rk, .int rf])), (aT, .inr (7, [.ref tb, .int (nI nt)])), (tb, .inl (cs 0, 400, .inl ft))] H := hP
                    have hD : va_D A [(aR, .inr (4, [.ref aT, .ref aD, .int 2, .int (nI g0_a), .int (nI g0_c), .int g1_c, .int rp, .int rk, .int rf])), (aT, .inr (7, [.ref tb, .int (nI nt)])), (tb, .inl (cs 0, 400, .inl ft))] := hD
                    replace hq_11 : ((r_11 = 1 ∧ True) ∨ (r_11 = 0 ∧ True)) := hq_11
                    rcases hq_11 with ⟨rfl, hq_11⟩ | ⟨rfl, hq_11⟩
                    ·
                      refine lv_if_eq (tgt := 255) hx hb dX4_next_170 (by decide) (fun h9 => absurd h9 (by decide)) (fun _ => ?_)
                      refine lv_aload_n hx hb dX4_next_173 rfl (lv_at hl 0 rfl) ?_
                      refine lv_sipush (v := 1000) hx hb dX4_next_174 (by decide) ?_
                      refine lv_aload_n hx hb dX4_next_177 rfl (lv_at hl 0 rfl) ?_
                      refine va_get (D := D) (ci := 4) (v := .int g1_c) (C := RX4) (T := TX4) (N := 9) hx hb hts iuX4_next_X4 hown hK hP 0 rfl rfl 5 (by decide) (htw (.fieldLink RX4 21 "MergeJudge$Reader" "number" "I") (List.mem_of_getElem? (i := 5) rfl)) (fun _ h9 => h9) rfl dX4_next_178 ?_
                      refine lv_bipush (v := 10) hx hb dX4_next_181 (by decide) ?_
                      refine lv_imul hx hb dX4_next_183 ?_
                      refine lv_aload_n hx hb dX4_next_184 rfl (lv_at hl 0 rfl) ?_
                      refine va_get (D := D) (ci := 4) (v := .ref aT) (C := RX4) (T := TX4) (N := 9) hx hb hts iuX4_next_X4 hown hK hP 0 rfl rfl 0 (by decide) (htw (.fieldLink RX4 33 "MergeJudge$Reader" "tape" "LMergeJudge$Tape;") (List.mem_of_getElem? (i := 1) rfl)) (fun _ h9 => h9) rfl dX4_next_185 ?_
                      refine va_get (D := D) (ci := 7) (v := .ref tb) (C := RX7) (T := TX7) (N := 2) hx hb hts iuX4_next_X7 hown hK hP 1 rfl rfl 0 (by decide) (htw (.fieldLink RX4 201 "MergeJudge$Tape" "bytes" "[B") (List.mem_of_getElem? (i := 3) rfl)) (fun _ h9 => h9) rfl dX4_next_188 ?_
                      refine lv_aload_n hx hb dX4_next_191 rfl (lv_at hl 0 rfl) ?_
                      refine va_get (D := D) (ci := 4) (v := .int (nI g0_c)) (C := RX4) (T := TX4) (N := 9) hx hb hts iuX4_next_X4 hown hK hP 0 rfl rfl 4 (by decide) (htw (.fieldLink RX4 18 "MergeJudge$Reader" "at" "I") (List.mem_of_getElem? (i := 0) rfl)) (fun _ h9 => h9) rfl dX4_next_192 ?_
                      refine va_bald hx hb hK hP 2 0 rfl rfl (vp_in_nI (by omega) (by omega)) dX4_next_195 ?_
                      rw [nI_clamp (by omega)]
                      refine lv_iadd hx hb dX4_next_196 ?_
                      refine lv_bipush (v := 48) hx hb dX4_next_197 (by decide) ?_
                      refine lv_isub hx hb dX4_next_199 ?_
                      refine va_mmin hx hb (hml.trans hl.1.symm) hown (htw (.methodLink RX4 211 Lib.Math.min.name) (List.mem_of_getElem? (i := 14) rfl)) (htw (.static Lib.Math.min.name) (List.mem_of_getElem? (i := 15) rfl)) (htw (.initialized "java/lang/Math") (List.mem_of_getElem? (i := 16) rfl)) (htw (.code Lib.Math.min.name Lib.Math.min.code 2 (some .int)) (List.mem_of_getElem? (i := 17) rfl)) (Nat.le_of_ble_eq_true rfl) (Nat.le_of_ble_eq_true rfl) (Nat.le_of_ble_eq_true rfl) (Nat.le_of_ble_eq_true rfl) dX4_next_200 ?_
                      refine va_put (D := D) (ci := 4) (v := .int (if ((g1_c * (10 : Int32)) + (ft g0_c)) - (48 : Int32) < 1000 then ((g1_c * (10 : Int32)) + (ft g0_c)) - (48 : Int32) else 1000)) (ty := .int) (C := RX4) (T := TX4) (N := 9) hx hb hts iuX4_next_X4 tyX4 tyX4_ok nmX4 hown hK hP hD hS 0 rfl rfl 5 (by decide) (htw (.fieldLink RX4 21 "MergeJudge$Reader" "number" "I") (List.mem_of_getElem? (i := 5) rfl)) (fun _ h9 => h9) rfl (by decide +kernel) rfl rfl (Nat.le_of_ble_eq_true rfl) dX4_next_203 (fun H locs hP hD hS => ?_)
                      have hP : va_P D vwCl [(aR, .inr (4, [.ref aT, .ref aD, .int 2, .int (nI g0_a), .int (nI g0_c), .int (if ((g1_c * (10 : Int32)) + (ft g0_c)) - (48 : Int32) < 1000 then ((g1_c * (10 : Int32)) + (ft g0_c)) - (48 : Int32) else 1000), .int rp, .int rk, .int rf])), (aT, .inr (7, [.ref tb, .int (nI nt)])), (tb, .inl (cs 0, 400, .inl ft))] H := hP
                      have hD : va_D A [(aR, .inr (4, [.ref aT, .ref aD, .int 2, .int (nI g0_a), .int (nI g0_c), .int (if ((g1_c * (10 : Int32)) + (ft g0_c)) - (48 : Int32) < 1000 then ((g1_c * (10 : Int32)) + (ft g0_c)) - (48 : Int32) else 1000), .int rp, .int rk, .int rf])), (aT, .inr (7, [.ref tb, .int (nI nt)])), (tb, .inl (cs 0, 400, .inl ft))] := hD
                      refine lv_aload_n hx hb dX4_next_206 rfl (lv_at hl 0 rfl) ?_
                      refine lv_dup hx hb dX4_next_207 rfl ?_
                      refine va_get (D := D) (ci := 4) (v := .int (nI g0_c)) (C := RX4) (T := TX4) (N := 9) hx hb hts iuX4_next_X4 hown hK hP 0 rfl rfl 4 (by decide) (htw (.fieldLink RX4 18 "MergeJudge$Reader" "at" "I") (List.mem_of_getElem? (i := 0) rfl)) (fun _ h9 => h9) rfl dX4_next_208 ?_
                      refine lv_iconst (v := 1) hx hb dX4_next_211 (by decide) ?_
                      refine lv_iadd hx hb dX4_next_212 ?_
                      refine cf_i (nI (g0_c + 1)) (nI_add g0_c 1) ?_
                      refine va_put (D := D) (ci := 4) (v := .int (nI (g0_c + 1))) (ty := .int) (C := RX4) (T := TX4) (N := 9) hx hb hts iuX4_next_X4 tyX4 tyX4_ok nmX4 hown hK hP hD hS 0 rfl rfl 4 (by decide) (htw (.fieldLink RX4 18 "MergeJudge$Reader" "at" "I") (List.mem_of_getElem? (i := 0) rfl)) (fun _ h9 => h9) rfl (by decide +kernel) rfl rfl (Nat.le_of_ble_eq_true rfl) dX4_next_213 (fun H locs hP hD hS => ?_)
                      have hP : va_P D vwCl [(aR, .inr (4, [.ref aT, .ref aD, .int 2, .int (nI g0_a), .int (nI (g0_c + 1)), .int (if ((g1_c * (10 : Int32)) + (ft g0_c)) - (48 : Int32) < 1000 then ((g1_c * (10 : Int32)) + (ft g0_c)) - (48 : Int32) else 1000), .int rp, .int rk, .int rf])), (aT, .inr (7, [.ref tb, .int (nI nt)])), (tb, .inl (cs 0, 400, .inl ft))] H := hP
                      have hD : va_D A [(aR, .inr (4, [.ref aT, .ref aD, .int 2, .int (nI g0_a), .int (nI (g0_c + 1)), .int (if ((g1_c * (10 : Int32)) + (ft g0_c)) - (48 : Int32) < 1000 then ((g1_c * (10 : Int32)) + (ft g0_c)) - (48 : Int32) else 1000), .int rp, .int rk, .int rf])), (aT, .inr (7, [.ref tb, .int (nI nt)])), (tb, .inl (cs 0, 400, .inl ft))] := hD
                      refine lv_goto (tgt := 152) hx hb dX4_next_216 (by decide) ?_
                      exact ih_lp_9 (g0_c + 1) (if ((g1_c * (10 : Int32)) + (ft g0_c)) - (48 : Int32) < 1000 then ((g1_c * (10 : Int32)) + (ft g0_c)) - (48 : Int32) else 1000) H locs ls (by omega) (by omega) (by omega) (hP.sub [0, 1, 2] rfl) (hD.sub [0, 1, 2] (by decide) rfl) hS (lv_sub hl [0] rfl)
                    ·
                      refine lv_if_eq (tgt := 255) hx hb dX4_next_170 (by decide) (fun _ => ?_) (fun h9 => absurd h9 (by decide))
                      exact ret_v hx hb hr hlk hS (Nat.le_of_ble_eq_true rfl) (Nat.le_of_ble_eq_true rfl) (2, g0_a, g0_c, g1_c) (⟨(by omega), (by omega)⟩) (hP.sub [0, 1, 2] rfl) (hD.sub [0, 1, 2] (by decide) rfl) dX4_next_255
              exact lp_9 _ g0_a 0 H locs ls (by omega) (by omega) (Nat.lt_succ_self _) (hP.sub [0, 1, 2] rfl) (hD.sub [0, 1, 2] (by decide) rfl) hS (lv_sub hl [0] rfl)
            ·
              refine lv_if_eq (tgt := 219) hx hb dX4_next_144 (by decide) (fun _ => ?_) (fun h9 => absurd h9 (by decide))
              refine lv_aload_n hx hb dX4_next_219 rfl (lv_at hl 0 rfl) ?_
              refine lv_aload_n hx hb dX4_next_220 rfl (lv_at hl 0 rfl) ?_
              refine va_get (D := D) (ci := 4) (v := .ref aT) (C := RX4) (T := TX4) (N := 9) hx hb hts iuX4_next_X4 hown hK hP 0 rfl rfl 0 (by decide) (htw (.fieldLink RX4 33 "MergeJudge$Reader" "tape" "LMergeJudge$Tape;") (List.mem_of_getElem? (i := 1) rfl)) (fun _ h9 => h9) rfl dX4_next_221 ?_
              refine va_get (D := D) (ci := 7) (v := .ref tb) (C := RX7) (T := TX7) (N := 2) hx hb hts iuX4_next_X7 hown hK hP 1 rfl rfl 0 (by decide) (htw (.fieldLink RX4 201 "MergeJudge$Tape" "bytes" "[B") (List.mem_of_getElem? (i := 3) rfl)) (fun _ h9 => h9) rfl dX4_next_224 ?_
              refine lv_aload_n hx hb dX4_next_227 rfl (lv_at hl 0 rfl) ?_
              refine va_get (D := D) (ci := 4) (v := .int (nI g0_a)) (C := RX4) (T := TX4) (N := 9) hx hb hts iuX4_next_X4 hown hK hP 0 rfl rfl 4 (by decide) (htw (.fieldLink RX4 18 "MergeJudge$Reader" "at" "I") (List.mem_of_getElem? (i := 0) rfl)) (fun _ h9 => h9) rfl dX4_next_228 ?_
              refine va_bald hx hb hK hP 2 0 rfl rfl (vp_in_nI (by omega) (by omega)) dX4_next_231 ?_
              rw [nI_clamp (by omega)]
              refine lv_bipush (v := 59) hx hb dX4_next_232 (by decide) ?_
              refine lv_icmp_ne (tgt := 241) hx hb dX4_next_234 (by decide) (fun c_12 => ?_) (fun c_12 => ?_)
              ·
                refine lv_iconst (v := 4) hx hb dX4_next_241 (by decide) ?_
                refine va_put (D := D) (ci := 4) (v := .int 4) (ty := .int) (C := RX4) (T := TX4) (N := 9) hx hb hts iuX4_next_X4 tyX4 tyX4_ok nmX4 hown hK hP hD hS 0 rfl rfl 2 (by decide) (htw (.fieldLink RX4 11 "MergeJudge$Reader" "token" "I") (List.mem_of_getElem? (i := 6) rfl)) (fun _ h9 => h9) rfl (by decide +kernel) rfl rfl (Nat.le_of_ble_eq_true rfl) dX4_next_242 (fun H locs hP hD hS => ?_)
                have hP : va_P D vwCl [(aR, .inr (4, [.ref aT, .ref aD, .int 4, .int (nI g0_a), .int (nI g0_a), .int 0, .int rp, .int rk, .int rf])), (aT, .inr (7, [.ref tb, .int (nI nt)])), (tb, .inl (cs 0, 400, .inl ft))] H := hP
                have hD : va_D A [(aR, .inr (4, [.ref aT, .ref aD, .int 4, .int (nI g0_a), .int (nI g0_a), .int 0, .int rp, .int rk, .int rf])), (aT, .inr (7, [.ref tb, .int (nI nt)])), (tb, .inl (cs 0, 400, .inl ft))] := hD
                refine lv_aload_n hx hb dX4_next_245 rfl (lv_at hl 0 rfl) ?_
                refine lv_dup hx hb dX4_next_246 rfl ?_
                refine va_get (D := D) (ci := 4) (v := .int (nI g0_a)) (C := RX4) (T := TX4) (N := 9) hx hb hts iuX4_next_X4 hown hK hP 0 rfl rfl 4 (by decide) (htw (.fieldLink RX4 18 "MergeJudge$Reader" "at" "I") (List.mem_of_getElem? (i := 0) rfl)) (fun _ h9 => h9) rfl dX4_next_247 ?_
                refine lv_iconst (v := 1) hx hb dX4_next_250 (by decide) ?_
                refine lv_iadd hx hb dX4_next_251 ?_
                refine cf_i (nI (g0_a + 1)) (nI_add g0_a 1) ?_
                refine va_put (D := D) (ci := 4) (v := .int (nI (g0_a + 1))) (ty := .int) (C := RX4) (T := TX4) (N := 9) hx hb hts iuX4_next_X4 tyX4 tyX4_ok nmX4 hown hK hP hD hS 0 rfl rfl 4 (by decide) (htw (.fieldLink RX4 18 "MergeJudge$Reader" "at" "I") (List.mem_of_getElem? (i := 0) rfl)) (fun _ h9 => h9) rfl (by decide +kernel) rfl rfl (Nat.le_of_ble_eq_true rfl) dX4_next_252 (fun H locs hP hD hS => ?_)
                have hP : va_P D vwCl [(aR, .inr (4, [.ref aT, .ref aD, .int 4, .int (nI g0_a), .int (nI (g0_a + 1)), .int 0, .int rp, .int rk, .int rf])), (aT, .inr (7, [.ref tb, .int (nI nt)])), (tb, .inl (cs 0, 400, .inl ft))] H := hP
                have hD : va_D A [(aR, .inr (4, [.ref aT, .ref aD, .int 4, .int (nI g0_a), .int (nI (g0_a + 1)), .int 0, .int rp, .int rk, .int rf])), (aT, .inr (7, [.ref tb, .int (nI nt)])), (tb, .inl (cs 0, 400, .inl ft))] := hD
                exact ret_v hx hb hr hlk hS (Nat.le_of_ble_eq_true rfl) (Nat.le_of_ble_eq_true rfl) (4, g0_a, g0_a + 1, 0) (⟨(by omega), (by omega)⟩) (hP.sub [0, 1, 2] rfl) (hD.sub [0, 1, 2] (by decide) rfl) dX4_next_255
              ·
                refine lv_iconst (v := 3) hx hb dX4_next_237 (by decide) ?_
                refine lv_goto (tgt := 242) hx hb dX4_next_238 (by decide) ?_
                refine va_put (D := D) (ci := 4) (v := .int 3) (ty := .int) (C := RX4) (T := TX4) (N := 9) hx hb hts iuX4_next_X4 tyX4 tyX4_ok nmX4 hown hK hP hD hS 0 rfl rfl 2 (by decide) (htw (.fieldLink RX4 11 "MergeJudge$Reader" "token" "I") (List.mem_of_getElem? (i := 6) rfl)) (fun _ h9 => h9) rfl (by decide +kernel) rfl rfl (Nat.le_of_ble_eq_true rfl) dX4_next_242 (fun H locs hP hD hS => ?_)
                have hP : va_P D vwCl [(aR, .inr (4, [.ref aT, .ref aD, .int 3, .int (nI g0_a), .int (nI g0_a), .int 0, .int rp, .int rk, .int rf])), (aT, .inr (7, [.ref tb, .int (nI nt)])), (tb, .inl (cs 0, 400, .inl ft))] H := hP
                have hD : va_D A [(aR, .inr (4, [.ref aT, .ref aD, .int 3, .int (nI g0_a), .int (nI g0_a), .int 0, .int rp, .int rk, .int rf])), (aT, .inr (7, [.ref tb, .int (nI nt)])), (tb, .inl (cs 0, 400, .inl ft))] := hD
                refine lv_aload_n hx hb dX4_next_245 rfl (lv_at hl 0 rfl) ?_
                refine lv_dup hx hb dX4_next_246 rfl ?_
                refine va_get (D := D) (ci := 4) (v := .int (nI g0_a)) (C := RX4) (T := TX4) (N := 9) hx hb hts iuX4_next_X4 hown hK hP 0 rfl rfl 4 (by decide) (htw (.fieldLink RX4 18 "MergeJudge$Reader" "at" "I") (List.mem_of_getElem? (i := 0) rfl)) (fun _ h9 => h9) rfl dX4_next_247 ?_
                refine lv_iconst (v := 1) hx hb dX4_next_250 (by decide) ?_
                refine lv_iadd hx hb dX4_next_251 ?_
                refine cf_i (nI (g0_a + 1)) (nI_add g0_a 1) ?_
                refine va_put (D := D) (ci := 4) (v := .int (nI (g0_a + 1))) (ty := .int) (C := RX4) (T := TX4) (N := 9) hx hb hts iuX4_next_X4 tyX4 tyX4_ok nmX4 hown hK hP hD hS 0 rfl rfl 4 (by decide) (htw (.fieldLink RX4 18 "MergeJudge$Reader" "at" "I") (List.mem_of_getElem? (i := 0) rfl)) (fun _ h9 => h9) rfl (by decide +kernel) rfl rfl (Nat.le_of_ble_eq_true rfl) dX4_next_252 (fun H locs hP hD hS => ?_)
                have hP : va_P D vwCl [(aR, .inr (4, [.ref aT, .ref aD, .int 3, .int (nI g0_a), .int (nI (g0_a + 1)), .int 0, .int rp, .int rk, .int rf])), (aT, .inr (7, [.ref tb, .int (nI nt)])), (tb, .inl (cs 0, 400, .inl ft))] H := hP
                have hD : va_D A [(aR, .inr (4, [.ref aT, .ref aD, .int 3, .int (nI g0_a), .int (nI (g0_a + 1)), .int 0, .int rp, .int rk, .int rf])), (aT, .inr (7, [.ref tb, .int (nI nt)])), (tb, .inl (cs 0, 400, .inl ft))] := hD
                exact ret_v hx hb hr hlk hS (Nat.le_of_ble_eq_true rfl) (Nat.le_of_ble_eq_true rfl) (3, g0_a, g0_a + 1, 0) (⟨(by omega), (by omega)⟩) (hP.sub [0, 1, 2] rfl) (hD.sub [0, 1, 2] (by decide) rfl) dX4_next_255
        ·
          have hn_3 := blt_f (a := g0_a) (b := nt) c_3 (by omega) (by omega)
          refine lv_aload_n hx hb dX4_next_88 rfl (lv_at hl 0 rfl) ?_
          refine lv_iconst (v := 0) hx hb dX4_next_89 (by decide) ?_
          refine va_put (D := D) (ci := 4) (v := .int 0) (ty := .int) (C := RX4) (T := TX4) (N := 9) hx hb hts iuX4_next_X4 tyX4 tyX4_ok nmX4 hown hK hP hD hS 0 rfl rfl 2 (by decide) (htw (.fieldLink RX4 11 "MergeJudge$Reader" "token" "I") (List.mem_of_getElem? (i := 6) rfl)) (fun _ h9 => h9) rfl (by decide +kernel) rfl rfl (Nat.le_of_ble_eq_true rfl) dX4_next_90 (fun H locs hP hD hS => ?_)
          have hP : va_P D vwCl [(aR, .inr (4, [.ref aT, .ref aD, .int 0, .int (nI g0_a), .int (nI g0_a), .int 0, .int rp, .int rk, .int rf])), (aT, .inr (7, [.ref tb, .int (nI nt)])), (tb, .inl (cs 0, 400, .inl ft))] H := hP
          have hD : va_D A [(aR, .inr (4, [.ref aT, .ref aD, .int 0, .int (nI g0_a), .int (nI g0_a), .int 0, .int rp, .int rk, .int rf])), (aT, .inr (7, [.ref tb, .int (nI nt)])), (tb, .inl (cs 0, 400, .inl ft))] := hD
          exact ret_v hx hb hr hlk hS (Nat.le_of_ble_eq_true rfl) (Nat.le_of_ble_eq_true rfl) (0, g0_a, g0_a, 0) (⟨(by omega), (by omega)⟩) (hP.sub [0, 1, 2] rfl) (hD.sub [0, 1, 2] (by decide) rfl) dX4_next_93
      ·
        have hn_2 := bge_f (a := g0_a) (b := nt) c_2 (by omega) (by omega)
        refine lv_aload_n hx hb dX4_next_14 rfl (lv_at hl 0 rfl) ?_
        refine va_get (D := D) (ci := 4) (v := .ref aT) (C := RX4) (T := TX4) (N := 9) hx hb hts iuX4_next_X4 hown hK hP 0 rfl rfl 0 (by decide) (htw (.fieldLink RX4 33 "MergeJudge$Reader" "tape" "LMergeJudge$Tape;") (List.mem_of_getElem? (i := 1) rfl)) (fun _ h9 => h9) rfl dX4_next_15 ?_
        refine va_get (D := D) (ci := 7) (v := .ref tb) (C := RX7) (T := TX7) (N := 2) hx hb hts iuX4_next_X7 hown hK hP 1 rfl rfl 0 (by decide) (htw (.fieldLink RX4 201 "MergeJudge$Tape" "bytes" "[B") (List.mem_of_getElem? (i := 3) rfl)) (fun _ h9 => h9) rfl dX4_next_18 ?_
        refine lv_aload_n hx hb dX4_next_21 rfl (lv_at hl 0 rfl) ?_
        refine va_get (D := D) (ci := 4) (v := .int (nI g0_a)) (C := RX4) (T := TX4) (N := 9) hx hb hts iuX4_next_X4 hown hK hP 0 rfl rfl 4 (by decide) (htw (.fieldLink RX4 18 "MergeJudge$Reader" "at" "I") (List.mem_of_getElem? (i := 0) rfl)) (fun _ h9 => h9) rfl dX4_next_22 ?_
        refine va_bald hx hb hK hP 2 0 rfl rfl (vp_in_nI (by omega) (by omega)) dX4_next_25 ?_
        rw [nI_clamp (by omega)]
        refine lv_bipush (v := 32) hx hb dX4_next_26 (by decide) ?_
        refine lv_icmp_eq (tgt := 48) hx hb dX4_next_28 (by decide) (fun c_13 => ?_) (fun c_13 => ?_)
        ·
          refine lv_aload_n hx hb dX4_next_48 rfl (lv_at hl 0 rfl) ?_
          refine lv_dup hx hb dX4_next_49 rfl ?_
          refine va_get (D := D) (ci := 4) (v := .int (nI g0_a)) (C := RX4) (T := TX4) (N := 9) hx hb hts iuX4_next_X4 hown hK hP 0 rfl rfl 4 (by decide) (htw (.fieldLink RX4 18 "MergeJudge$Reader" "at" "I") (List.mem_of_getElem? (i := 0) rfl)) (fun _ h9 => h9) rfl dX4_next_50 ?_
          refine lv_iconst (v := 1) hx hb dX4_next_53 (by decide) ?_
          refine lv_iadd hx hb dX4_next_54 ?_
          refine cf_i (nI (g0_a + 1)) (nI_add g0_a 1) ?_
          refine va_put (D := D) (ci := 4) (v := .int (nI (g0_a + 1))) (ty := .int) (C := RX4) (T := TX4) (N := 9) hx hb hts iuX4_next_X4 tyX4 tyX4_ok nmX4 hown hK hP hD hS 0 rfl rfl 4 (by decide) (htw (.fieldLink RX4 18 "MergeJudge$Reader" "at" "I") (List.mem_of_getElem? (i := 0) rfl)) (fun _ h9 => h9) rfl (by decide +kernel) rfl rfl (Nat.le_of_ble_eq_true rfl) dX4_next_55 (fun H locs hP hD hS => ?_)
          have hP : va_P D vwCl [(aR, .inr (4, [.ref aT, .ref aD, .int rt, .int (nI rs), .int (nI (g0_a + 1)), .int rn, .int rp, .int rk, .int rf])), (aT, .inr (7, [.ref tb, .int (nI nt)])), (tb, .inl (cs 0, 400, .inl ft))] H := hP
          have hD : va_D A [(aR, .inr (4, [.ref aT, .ref aD, .int rt, .int (nI rs), .int (nI (g0_a + 1)), .int rn, .int rp, .int rk, .int rf])), (aT, .inr (7, [.ref tb, .int (nI nt)])), (tb, .inl (cs 0, 400, .inl ft))] := hD
          refine lv_goto (tgt := 0) hx hb dX4_next_58 (by decide) ?_
          exact ih_lp_1 (g0_a + 1) H locs ls (by omega) (by omega) (hP.sub [0, 1, 2] rfl) (hD.sub [0, 1, 2] (by decide) rfl) hS (lv_sub hl [0] rfl)
        ·
          refine lv_aload_n hx hb dX4_next_31 rfl (lv_at hl 0 rfl) ?_
          refine va_get (D := D) (ci := 4) (v := .ref aT) (C := RX4) (T := TX4) (N := 9) hx hb hts iuX4_next_X4 hown hK hP 0 rfl rfl 0 (by decide) (htw (.fieldLink RX4 33 "MergeJudge$Reader" "tape" "LMergeJudge$Tape;") (List.mem_of_getElem? (i := 1) rfl)) (fun _ h9 => h9) rfl dX4_next_32 ?_
          refine va_get (D := D) (ci := 7) (v := .ref tb) (C := RX7) (T := TX7) (N := 2) hx hb hts iuX4_next_X7 hown hK hP 1 rfl rfl 0 (by decide) (htw (.fieldLink RX4 201 "MergeJudge$Tape" "bytes" "[B") (List.mem_of_getElem? (i := 3) rfl)) (fun _ h9 => h9) rfl dX4_next_35 ?_
          refine lv_aload_n hx hb dX4_next_38 rfl (lv_at hl 0 rfl) ?_
          refine va_get (D := D) (ci := 4) (v := .int (nI g0_a)) (C := RX4) (T := TX4) (N := 9) hx hb hts iuX4_next_X4 hown hK hP 0 rfl rfl 4 (by decide) (htw (.fieldLink RX4 18 "MergeJudge$Reader" "at" "I") (List.mem_of_getElem? (i := 0) rfl)) (fun _ h9 => h9) rfl dX4_next_39 ?_
          refine va_bald hx hb hK hP 2 0 rfl rfl (vp_in_nI (by omega) (by omega)) dX4_next_42 ?_
          rw [nI_clamp (by omega)]
          refine lv_bipush (v := 10) hx hb dX4_next_43 (by decide) ?_
          refine lv_icmp_ne (tgt := 61) hx hb dX4_next_45 (by decide) (fun c_14 => ?_) (fun c_14 => ?_)
          ·
            refine lv_aload_n hx hb dX4_next_61 rfl (lv_at hl 0 rfl) ?_
            refine lv_aload_n hx hb dX4_next_62 rfl (lv_at hl 0 rfl) ?_
            refine va_get (D := D) (ci := 4) (v := .int (nI g0_a)) (C := RX4) (T := TX4) (N := 9) hx hb hts iuX4_next_X4 hown hK hP 0 rfl rfl 4 (by decide) (htw (.fieldLink RX4 18 "MergeJudge$Reader" "at" "I") (List.mem_of_getElem? (i := 0) rfl)) (fun _ h9 => h9) rfl dX4_next_63 ?_
            refine va_put (D := D) (ci := 4) (v := .int (nI g0_a)) (ty := .int) (C := RX4) (T := TX4) (N := 9) hx hb hts iuX4_next_X4 tyX4 tyX4_ok nmX4 hown hK hP hD hS 0 rfl rfl 3 (by decide) (htw (.fieldLink RX4 15 "MergeJudge$Reader" "start" "I") (List.mem_of_getElem? (i := 4) rfl)) (fun _ h9 => h9) rfl (by decide +kernel) rfl rfl (Nat.le_of_ble_eq_true rfl) dX4_next_66 (fun H locs hP hD hS => ?_)
            have hP : va_P D vwCl [(aR, .inr (4, [.ref aT, .ref aD, .int rt, .int (nI g0_a), .int (nI g0_a), .int rn, .int rp, .int rk, .int rf])), (aT, .inr (7, [.ref tb, .int (nI nt)])), (tb, .inl (cs 0, 400, .inl ft))] H := hP
            have hD : va_D A [(aR, .inr (4, [.ref aT, .ref aD, .int rt, .int (nI g0_a), .int (nI g0_a), .int rn, .int rp, .int rk, .int rf])), (aT, .inr (7, [.ref tb, .int (nI nt)])), (tb, .inl (cs 0, 400, .inl ft))] := hD
            refine lv_aload_n hx hb dX4_next_69 rfl (lv_at hl 0 rfl) ?_
            refine lv_iconst (v := 0) hx hb dX4_next_70 (by decide) ?_
            refine va_put (D := D) (ci := 4) (v := .int 0) (ty := .int) (C := RX4) (T := TX4) (N := 9) hx hb hts iuX4_next_X4 tyX4 tyX4_ok nmX4 hown hK hP hD hS 0 rfl rfl 5 (by decide) (htw (.fieldLink RX4 21 "MergeJudge$Reader" "number" "I") (List.mem_of_getElem? (i := 5) rfl)) (fun _ h9 => h9) rfl (by decide +kernel) rfl rfl (Nat.le_of_ble_eq_true rfl) dX4_next_71 (fun H locs hP hD hS => ?_)
            have hP : va_P D vwCl [(aR, .inr (4, [.ref aT, .ref aD, .int rt, .int (nI g0_a), .int (nI g0_a), .int 0, .int rp, .int rk, .int rf])), (aT, .inr (7, [.ref tb, .int (nI nt)])), (tb, .inl (cs 0, 400, .inl ft))] H := hP
            have hD : va_D A [(aR, .inr (4, [.ref aT, .ref aD, .int rt, .int (nI g0_a), .int (nI g0_a), .int 0, .int rp, .int rk, .int rf])), (aT, .inr (7, [.ref tb, .int (nI nt)])), (tb, .inl (cs 0, 400, .inl ft))] := hD
            refine lv_aload_n hx hb dX4_next_74 rfl (lv_at hl 0 rfl) ?_
            refine va_get (D := D) (ci := 4) (v := .int (nI g0_a)) (C := RX4) (T := TX4) (N := 9) hx hb hts iuX4_next_X4 hown hK hP 0 rfl rfl 4 (by decide) (htw (.fieldLink RX4 18 "MergeJudge$Reader" "at" "I") (List.mem_of_getElem? (i := 0) rfl)) (fun _ h9 => h9) rfl dX4_next_75 ?_
            refine lv_aload_n hx hb dX4_next_78 rfl (lv_at hl 0 rfl) ?_
            refine va_get (D := D) (ci := 4) (v := .ref aT) (C := RX4) (T := TX4) (N := 9) hx hb hts iuX4_next_X4 hown hK hP 0 rfl rfl 0 (by decide) (htw (.fieldLink RX4 33 "MergeJudge$Reader" "tape" "LMergeJudge$Tape;") (List.mem_of_getElem? (i := 1) rfl)) (fun _ h9 => h9) rfl dX4_next_79 ?_
            refine va_get (D := D) (ci := 7) (v := .int (nI nt)) (C := RX7) (T := TX7) (N := 2) hx hb hts iuX4_next_X7 hown hK hP 1 rfl rfl 1 (by decide) (htw (.fieldLink RX4 196 "MergeJudge$Tape" "size" "I") (List.mem_of_getElem? (i := 2) rfl)) (fun _ h9 => h9) rfl dX4_next_82 ?_
            refine lv_icmp_lt (tgt := 94) hx hb dX4_next_85 (by decide) (fun c_15 => ?_) (fun c_15 => ?_)
            ·
              have hn_15 := blt_t (a := g0_a) (b := nt) c_15 (by omega) (by omega)
              refine lv_aload_n hx hb dX4_next_94 rfl (lv_at hl 0 rfl) ?_
              refine aft_i (wr := []) hP hD hS hA [0, 1, 2] [] rfl rfl (by decide) (by decide) (run_v (As := []) (rest := []) hFix hK hE hP hD [0, 1, 2] (k_X4_isLetterNext l D cs _ aR aT aD rt 0 rp rk rf tb ft g0_a g0_a nt (by first | assumption | decide | omega) (by first | assumption | decide | omega)) (cwV 0 hts gc_X4_next_205_X4_isLetterNext rfl rfl rfl (by decide +kernel) ⟨Nat.le_of_ble_eq_true rfl, Nat.le_of_ble_eq_true rfl⟩) rfl (by decide) rfl rfl rfl hl.1 rfl (Nat.le_of_ble_eq_true rfl) dX4_next_95 ⟨Nat.le_of_ble_eq_true rfl, Nat.le_of_ble_eq_true rfl⟩) (fun r_16 u_16 H locs hq_16 hP hD hS => ?_)
              have hP : va_P D vwCl [(aR, .inr (4, [.ref aT, .ref aD, .int rt, .int (nI g0_a), .int (nI g0_a), .int 0, .int rp, .int rk, .int rf])), (aT, .inr (7, [.ref tb, .int (nI nt)])), (tb, .inl (cs 0, 400, .inl ft))] H := hP
              have hD : va_D A [(aR, .inr (4, [.ref aT, .ref aD, .int rt, .int (nI g0_a), .int (nI g0_a), .int 0, .int rp, .int rk, .int rf])), (aT, .inr (7, [.ref tb, .int (nI nt)])), (tb, .inl (cs 0, 400, .inl ft))] := hD
              replace hq_16 : ((r_16 = 1 ∧ True) ∨ (r_16 = 0 ∧ True)) := hq_16
              rcases hq_16 with ⟨rfl, hq_16⟩ | ⟨rfl, hq_16⟩
              ·
                refine lv_if_eq (tgt := 140) hx hb dX4_next_98 (by decide) (fun h9 => absurd h9 (by decide)) (fun _ => ?_)
                refine lv_aload_n hx hb dX4_next_101 rfl (lv_at hl 0 rfl) ?_
                refine lv_iconst (v := 1) hx hb dX4_next_102 (by decide) ?_
                refine va_put (D := D) (ci := 4) (v := .int 1) (ty := .int) (C := RX4) (T := TX4) (N := 9) hx hb hts iuX4_next_X4 tyX4 tyX4_ok nmX4 hown hK hP hD hS 0 rfl rfl 2 (by decide) (htw (.fieldLink RX4 11 "MergeJudge$Reader" "token" "I") (List.mem_of_getElem? (i := 6) rfl)) (fun _ h9 => h9) rfl (by decide +kernel) rfl rfl (Nat.le_of_ble_eq_true rfl) dX4_next_103 (fun H locs hP hD hS => ?_)
                have hP : va_P D vwCl [(aR, .inr (4, [.ref aT, .ref aD, .int 1, .int (nI g0_a), .int (nI g0_a), .int 0, .int rp, .int rk, .int rf])), (aT, .inr (7, [.ref tb, .int (nI nt)])), (tb, .inl (cs 0, 400, .inl ft))] H := hP
                have hD : va_D A [(aR, .inr (4, [.ref aT, .ref aD, .int 1, .int (nI g0_a), .int (nI g0_a), .int 0, .int rp, .int rk, .int rf])), (aT, .inr (7, [.ref tb, .int (nI nt)])), (tb, .inl (cs 0, 400, .inl ft))] := hD
                have lp_17 : ∀ (nfu : Nat) (g0_b : Nat) (H : Heap) (locs : List Loc) (ls : Array Slot) (hw0_b : g0_b ≤ nt) (hw1_b : g0_a ≤ g0_b), nt - g0_b < nfu → va_P D vwCl [(aR, .inr (4, [.ref aT, .ref aD, .int 1, .int (nI g0_a), .int (nI g0_b), .int 0, .int rp, .int rk, .int rf])), (aT, .inr (7, [.ref tb, .int (nI nt)])), (tb, .inl (cs 0, 400, .inl ft))] H → va_D A [(aR, .inr (4, [.ref aT, .ref aD, .int 1, .int (nI g0_a), .int (nI g0_b), .int 0, .int rp, .int rk, .int rf])), (aT, .inr (7, [.ref tb, .int (nI nt)])), (tb, .inl (cs 0, 400, .inl ft))] → va_S A s.heap H locs → lv_has ls 1 [(0, .ref aR)] → W p l e (mRm 1 0 0 20) s m ([.ref aR] : List Value).toArray below meth c H locs 0 0 (MQ below (va_Qv (fun (u : Int32 × Nat × Nat × Int32) => (u.2.1 ≤ u.2.2.1) ∧ (u.2.2.1 ≤ nt)) (mpost D A (fun (u : Int32 × Nat × Nat × Int32) => [(aR, .inr (4, [.ref aT, .ref aD, .int u.1, .int (nI u.2.1), .int (nI u.2.2.1), .int u.2.2.2, .int rp, .int rk, .int rf])), (aT, .inr (7, [.ref tb, .int (nI nt)])), (tb, .inl (cs 0, 400, .inl ft))])) A) ([.ref aR] : List Value).toArray s 0 0 A) (F0 m 106 ls []) := by
                  intro nfu
                  induction nfu with
                  | zero => intro g0_b H locs ls hw0_b hw1_b hmu; exact absurd hmu (Nat.not_lt_zero _)
                  | succ nfu ih =>
                    intro g0_b H locs ls hw0_b hw1_b hmu hP hD hS hl
                    have ih_lp_17 := @ih
                    refine lv_aload_n hx hb dX4_next_106 rfl (lv_at hl 0 rfl) ?_
                    refine va_get (D := D) (ci := 4) (v := .int (nI g0_b)) (C := RX4) (T := TX4) (N := 9) hx hb hts iuX4_next_X4 hown hK hP 0 rfl rfl 4 (by decide) (htw (.fieldLink RX4 18 "MergeJudge$Reader" "at" "I") (List.mem_of_getElem? (i := 0) rfl)) (fun _ h9 => h9) rfl dX4_next_107 ?_
                    refine lv_aload_n hx hb dX4_next_110 rfl (lv_at hl 0 rfl) ?_
                    refine va_get (D := D) (ci := 4) (v := .ref aT) (C := RX4) (T := TX4) (N := 9) hx hb hts iuX4_next_X4 hown hK hP 0 rfl rfl 0 (by decide) (htw (.fieldLink RX4 33 "MergeJudge$Reader" "tape" "LMergeJudge$Tape;") (List.mem_of_getElem? (i := 1) rfl)) (fun _ h9 => h9) rfl dX4_next_111 ?_
                    refine va_get (D := D) (ci := 7) (v := .int (nI nt)) (C := RX7) (T := TX7) (N := 2) hx hb hts iuX4_next_X7 hown hK hP 1 rfl rfl 1 (by decide) (htw (.fieldLink RX4 196 "MergeJudge$Tape" "size" "I") (List.mem_of_getElem? (i := 2) rfl)) (fun _ h9 => h9) rfl dX4_next_114 ?_
                    refine lv_icmp_ge (tgt := 255) hx hb dX4_next_117 (by decide) (fun c_18 => ?_) (fun c_18 => ?_)
                    ·
                      have hn_18 := bge_t (a := g0_b) (b := nt) c_18 (by omega) (by omega)
                      exact ret_v hx hb hr hlk hS (Nat.le_of_ble_eq_true rfl) (Nat.le_of_ble_eq_true rfl) (1, g0_a, g0_b, 0) (⟨(by omega), (by omega)⟩) (hP.sub [0, 1, 2] rfl) (hD.sub [0, 1, 2] (by decide) rfl) dX4_next_255
                    ·
                      have hn_18 := bge_f (a := g0_b) (b := nt) c_18 (by omega) (by omega)
                      refine lv_aload_n hx hb dX4_next_120 rfl (lv_at hl 0 rfl) ?_
                      refine aft_i (wr := []) hP hD hS hA [0, 1, 2] [] rfl rfl (by decide) (by decide) (run_v (As := []) (rest := []) hFix hK hE hP hD [0, 1, 2] (k_X4_isLetterNext l D cs _ aR aT aD 1 0 rp rk rf tb ft g0_a g0_b nt (by first | assumption | decide | omega) (by first | assumption | decide | omega)) (cwV 0 hts gc_X4_next_205_X4_isLetterNext rfl rfl rfl (by decide +kernel) ⟨Nat.le_of_ble_eq_true rfl, Nat.le_of_ble_eq_true rfl⟩) rfl (by decide) rfl rfl rfl hl.1 rfl (Nat.le_of_ble_eq_true rfl) dX4_next_121 ⟨Nat.le_of_ble_eq_true rfl, Nat.le_of_ble_eq_true rfl⟩) (fun r_19 u_19 H locs hq_19 hP hD hS => ?_)
                      have hP : va_P D vwCl [(aR, .inr (4, [.ref aT, .ref aD, .int 1, .int (nI g0_a), .int (nI g0_b), .int 0, .int rp, .int rk, .int rf])), (aT, .inr (7, [.ref tb, .int (nI nt)])), (tb, .inl (cs 0, 400, .inl ft))] H := hP
                      have hD : va_D A [(aR, .inr (4, [.ref aT, .ref aD, .int 1, .int (nI g0_a), .int (nI g0_b), .int 0, .int rp, .int rk, .int rf])), (aT, .inr (7, [.ref tb, .int (nI nt)])), (tb, .inl (cs 0, 400, .inl ft))] := hD
                      replace hq_19 : ((r_19 = 1 ∧ True) ∨ (r_19 = 0 ∧ True)) := hq_19
                      rcases hq_19 with ⟨rfl, hq_19⟩ | ⟨rfl, hq_19⟩
                      ·
                        refine lv_if_eq (tgt := 255) hx hb dX4_next_124 (by decide) (fun h9 => absurd h9 (by decide)) (fun _ => ?_)
                        refine lv_aload_n hx hb dX4_next_127 rfl (lv_at hl 0 rfl) ?_
                        refine lv_dup hx hb dX4_next_128 rfl ?_
                        refine va_get (D := D) (ci := 4) (v := .int (nI g0_b)) (C := RX4) (T := TX4) (N := 9) hx hb hts iuX4_next_X4 hown hK hP 0 rfl rfl 4 (by decide) (htw (.fieldLink RX4 18 "MergeJudge$Reader" "at" "I") (List.mem_of_getElem? (i := 0) rfl)) (fun _ h9 => h9) rfl dX4_next_129 ?_
                        refine lv_iconst (v := 1) hx hb dX4_next_132 (by decide) ?_
                        refine lv_iadd hx hb dX4_next_133 ?_
                        refine cf_i (nI (g0_b + 1)) (nI_add g0_b 1) ?_
                        refine va_put (D := D) (ci := 4) (v := .int (nI (g0_b + 1))) (ty := .int) (C := RX4) (T := TX4) (N := 9) hx hb hts iuX4_next_X4 tyX4 tyX4_ok nmX4 hown hK hP hD hS 0 rfl rfl 4 (by decide) (htw (.fieldLink RX4 18 "MergeJudge$Reader" "at" "I") (List.mem_of_getElem? (i := 0) rfl)) (fun _ h9 => h9) rfl (by decide +kernel) rfl rfl (Nat.le_of_ble_eq_true rfl) dX4_next_134 (fun H locs hP hD hS => ?_)
                        have hP : va_P D vwCl [(aR, .inr (4, [.ref aT, .ref aD, .int 1, .int (nI g0_a), .int (nI (g0_b + 1)), .int 0, .int rp, .int rk, .int rf])), (aT, .inr (7, [.ref tb, .int (nI nt)])), (tb, .inl (cs 0, 400, .inl ft))] H := hP
                        have hD : va_D A [(aR, .inr (4, [.ref aT, .ref aD, .int 1, .int (nI g0_a), .int (nI (g0_b + 1)), .int 0, .int rp, .int rk, .int rf])), (aT, .inr (7, [.ref tb, .int (nI nt)])), (tb, .inl (cs 0, 400, .inl ft))] := hD
                        refine lv_goto (tgt := 106) hx hb dX4_next_137 (by decide) ?_
                        exact ih_lp_17 (g0_b + 1) H locs ls (by omega) (by omega) (by omega) (hP.sub [0, 1, 2] rfl) (hD.sub [0, 1, 2] (by decide) rfl) hS (lv_sub hl [0] rfl)
                      ·
                        refine lv_if_eq (tgt := 255) hx hb dX4_next_124 (by decide) (fun _ => ?_) (fun h9 => absurd h9 (by decide))
                        exact ret_v hx hb hr hlk hS (Nat.le_of_ble_eq_true rfl) (Nat.le_of_ble_eq_true rfl) (1, g0_a, g0_b, 0) (⟨(by omega), (by omega)⟩) (hP.sub [0, 1, 2] rfl) (hD.sub [0, 1, 2] (by decide) rfl) dX4_next_255
                exact lp_17 _ g0_a H locs ls (by omega) (by omega) (Nat.lt_succ_self _) (hP.sub [0, 1, 2] rfl) (hD.sub [0, 1, 2] (by decide) rfl) hS (lv_sub hl [0] rfl)
              ·
                refine lv_if_eq (tgt := 140) hx hb dX4_next_98 (by decide) (fun _ => ?_) (fun h9 => absurd h9 (by decide))
                refine lv_aload_n hx hb dX4_next_140 rfl (lv_at hl 0 rfl) ?_
                refine aft_i (wr := []) hP hD hS hA [0, 1, 2] [] rfl rfl (by decide) (by decide) (run_v (As := []) (rest := []) hFix hK hE hP hD [0, 1, 2] (k_X4_isDigitNext l D cs _ aR aT aD rt 0 rp rk rf tb ft g0_a g0_a nt (by first | assumption | decide | omega) (by first | assumption | decide | omega)) (cwV 0 hts gc_X4_next_208_X4_isDigitNext rfl rfl rfl (by decide +kernel) ⟨Nat.le_of_ble_eq_true rfl, Nat.le_of_ble_eq_true rfl⟩) rfl (by decide) rfl rfl rfl hl.1 rfl (Nat.le_of_ble_eq_true rfl) dX4_next_141 ⟨Nat.le_of_ble_eq_true rfl, Nat.le_of_ble_eq_true rfl⟩) (fun r_20 u_20 H locs hq_20 hP hD hS => ?_)
                have hP : va_P D vwCl [(aR, .inr (4, [.ref aT, .ref aD, .int rt, .int (nI g0_a), .int (nI g0_a), .int 0, .int rp, .int rk, .int rf])), (aT, .inr (7, [.ref tb, .int (nI nt)])), (tb, .inl (cs 0, 400, .inl ft))] H := hP
                have hD : va_D A [(aR, .inr (4, [.ref aT, .ref aD, .int rt, .int (nI g0_a), .int (nI g0_a), .int 0, .int rp, .int rk, .int rf])), (aT, .inr (7, [.ref tb, .int (nI nt)])), (tb, .inl (cs 0, 400, .inl ft))] := hD
                replace hq_20 : ((r_20 = 1 ∧ True) ∨ (r_20 = 0 ∧ True)) := hq_20
                rcases hq_20 with ⟨rfl, hq_20⟩ | ⟨rfl, hq_20⟩
                ·
                  refine lv_if_eq (tgt := 219) hx hb dX4_next_144 (by decide) (fun h9 => absurd h9 (by decide)) (fun _ => ?_)
                  refine lv_aload_n hx hb dX4_next_147 rfl (lv_at hl 0 rfl) ?_
                  refine lv_iconst (v := 2) hx hb dX4_next_148 (by decide) ?_
                  refine va_put (D := D) (ci := 4) (v := .int 2) (ty := .int) (C := RX4) (T := TX4) (N := 9) hx hb hts iuX4_next_X4 tyX4 tyX4_ok nmX4 hown hK hP hD hS 0 rfl rfl 2 (by decide) (htw (.fieldLink RX4 11 "MergeJudge$Reader" "token" "I") (List.mem_of_getElem? (i := 6) rfl)) (fun _ h9 => h9) rfl (by decide +kernel) rfl rfl (Nat.le_of_ble_eq_true rfl) dX4_next_149 (fun H locs hP hD hS => ?_)
                  have hP : va_P D vwCl [(aR, .inr (4, [.ref aT, .ref aD, .int 2, .int (nI g0_a), .int (nI g0_a), .int 0, .int rp, .int rk, .int rf])), (aT, .inr (7, [.ref tb, .int (nI nt)])), (tb, .inl (cs 0, 400, .inl ft))] H := hP
                  have hD : va_D A [(aR, .inr (4, [.ref aT, .ref aD, .int 2, .int (nI g0_a), .int (nI g0_a), .int 0, .int rp, .int rk, .int rf])), (aT, .inr (7, [.ref tb, .int (nI nt)])), (tb, .inl (cs 0, 400, .inl ft))] := hD
                  have lp_21 : ∀ (nfu : Nat) (g0_c : Nat) (g1_c : Int32) (H : Heap) (locs : List Loc) (ls : Array Slot) (hw0_c : g0_c ≤ nt) (hw1_c : g0_a ≤ g0_c), nt - g0_c < nfu → va_P D vwCl [(aR, .inr (4, [.ref aT, .ref aD, .int 2, .int (nI g0_a), .int (nI g0_c), .int g1_c, .int rp, .int rk, .int rf])), (aT, .inr (7, [.ref tb, .int (nI nt)])), (tb, .inl (cs 0, 400, .inl ft))] H → va_D A [(aR, .inr (4, [.ref aT, .ref aD, .int 2, .int (nI g0_a), .int (nI g0_c), .int g1_c, .int rp, .int rk, .int rf])), (aT, .inr (7, [.ref tb, .int (nI nt)])), (tb, .inl (cs 0, 400, .inl ft))] → va_S A s.heap H locs → lv_has ls 1 [(0, .ref aR)] → W p l e (mRm 1 0 0 20) s m ([.ref aR] : List Value).toArray below meth c H locs 0 0 (MQ below (va_Qv (fun (u : Int32 × Nat × Nat × Int32) => (u.2.1 ≤ u.2.2.1) ∧ (u.2.2.1 ≤ nt)) (mpost D A (fun (u : Int32 × Nat × Nat × Int32) => [(aR, .inr (4, [.ref aT, .ref aD, .int u.1, .int (nI u.2.1), .int (nI u.2.2.1), .int u.2.2.2, .int rp, .int rk, .int rf])), (aT, .inr (7, [.ref tb, .int (nI nt)])), (tb, .inl (cs 0, 400, .inl ft))])) A) ([.ref aR] : List Value).toArray s 0 0 A) (F0 m 152 ls []) := by
                    intro nfu
                    induction nfu with
                    | zero => intro g0_c g1_c H locs ls hw0_c hw1_c hmu; exact absurd hmu (Nat.not_lt_zero _)
                    | succ nfu ih =>
                      intro g0_c g1_c H locs ls hw0_c hw1_c hmu hP hD hS hl
                      have ih_lp_21 := @ih
                      refine lv_aload_n hx hb dX4_next_152 rfl (lv_at hl 0 rfl) ?_
                      refine va_get (D := D) (ci := 4) (v := .int (nI g0_c)) (C := RX4) (T := TX4) (N := 9) hx hb hts iuX4_next_X4 hown hK hP 0 rfl rfl 4 (by decide) (htw (.fieldLink RX4 18 "MergeJudge$Reader" "at" "I") (List.mem_of_getElem? (i := 0) rfl)) (fun _ h9 => h9) rfl dX4_next_153 ?_
                      refine lv_aload_n hx hb dX4_next_156 rfl (lv_at hl 0 rfl) ?_
                      refine va_get (D := D) (ci := 4) (v := .ref aT) (C := RX4) (T := TX4) (N := 9) hx hb hts iuX4_next_X4 hown hK hP 0 rfl rfl 0 (by decide) (htw (.fieldLink RX4 33 "MergeJudge$Reader" "tape" "LMergeJudge$Tape;") (List.mem_of_getElem? (i := 1) rfl)) (fun _ h9 => h9) rfl dX4_next_157 ?_
                      refine va_get (D := D) (ci := 7) (v := .int (nI nt)) (C := RX7) (T := TX7) (N := 2) hx hb hts iuX4_next_X7 hown hK hP 1 rfl rfl 1 (by decide) (htw (.fieldLink RX4 196 "MergeJudge$Tape" "size" "I") (List.mem_of_getElem? (i := 2) rfl)) (fun _ h9 => h9) rfl dX4_next_160 ?_
                      refine lv_icmp_ge (tgt := 255) hx hb dX4_next_163 (by decide) (fun c_22 => ?_) (fun c_22 => ?_)
                      ·
                        have hn_22 := bge_t (a := g0_c) (b := nt) c_22 (by omega) (by omega)
                        exact ret_v hx hb hr hlk hS (Nat.le_of_ble_eq_true rfl) (Nat.le_of_ble_eq_true rfl) (2, g0_a, g0_c, g1_c) (⟨(by omega), (by omega)⟩) (hP.sub [0, 1, 2] rfl) (hD.sub [0, 1, 2] (by decide) rfl) dX4_next_255
                      ·
                        have hn_22 := bge_f (a := g0_c) (b := nt) c_22 (by omega) (by omega)
                        refine lv_aload_n hx hb dX4_next_166 rfl (lv_at hl 0 rfl) ?_
                        refine aft_i (wr := []) hP hD hS hA [0, 1, 2] [] rfl rfl (by decide) (by decide) (run_v (As := []) (rest := []) hFix hK hE hP hD [0, 1, 2] (k_X4_isDigitNext l D cs _ aR aT aD 2 g1_c rp rk rf tb ft g0_a g0_c nt (by first | assumption | decide | omega) (by first | assumption | decide | omega)) (cwV 0 hts gc_X4_next_208_X4_isDigitNext rfl rfl rfl (by decide +kernel) ⟨Nat.le_of_ble_eq_true rfl, Nat.le_of_ble_eq_true rfl⟩) rfl (by decide) rfl rfl rfl hl.1 rfl (Nat.le_of_ble_eq_true rfl) dX4_next_167 ⟨Nat.le_of_ble_eq_true rfl, Nat.le_of_ble_eq_true rfl⟩) (fun r_23 u_23 H locs hq_23 hP hD hS => ?_)
                        have hP : va_P D vwCl [(aR, .inr (4, [.ref aT, .ref aD, .int 2, .int (nI g0_a), .int (nI g0_c), .int g1_c, .int rp, .int rk, .int rf])), (aT, .inr (7, [.ref tb, .int (nI nt)])), (tb, .inl (cs 0, 400, .inl ft))] H := hP
                        have hD : va_D A [(aR, .inr (4, [.ref aT, .ref aD, .int 2, .int (nI g0_a), .int (nI g0_c), .int g1_c, .int rp, .int rk, .int rf])), (aT, .inr (7, [.ref tb, .int (nI nt)])), (tb, .inl (cs 0, 400, .inl ft))] := hD
                        replace hq_23 : ((r_23 = 1 ∧ True) ∨ (r_23 = 0 ∧ True)) := hq_23
                        rcases hq_23 with ⟨rfl, hq_23⟩ | ⟨rfl, hq_23⟩
                        ·
                          refine lv_if_eq (tgt := 255) hx hb dX4_next_170 (by decide) (fun h9 => absurd h9 (by decide)) (fun _ => ?_)
                          refine lv_aload_n hx hb dX4_next_173 rfl (lv_at hl 0 rfl) ?_
                          refine lv_sipush (v := 1000) hx hb dX4_next_174 (by decide) ?_
                          refine lv_aload_n hx hb dX4_next_177 rfl (lv_at hl 0 rfl) ?_
                          refine va_get (D := D) (ci := 4) (v := .int g1_c) (C := RX4) (T := TX4) (N := 9) hx hb hts iuX4_next_X4 hown hK hP 0 rfl rfl 5 (by decide) (htw (.fieldLink RX4 21 "MergeJudge$Reader" "number" "I") (List.mem_of_getElem? (i := 5) rfl)) (fun _ h9 => h9) rfl dX4_next_178 ?_
                          refine lv_bipush (v := 10) hx hb dX4_next_181 (by decide) ?_
                          refine lv_imul hx hb dX4_next_183 ?_
                          refine lv_aload_n hx hb dX4_next_184 rfl (lv_at hl 0 rfl) ?_
                          refine va_get (D := D) (ci := 4) (v := .ref aT) (C := RX4) (T := TX4) (N := 9) hx hb hts iuX4_next_X4 hown hK hP 0 rfl rfl 0 (by decide) (htw (.fieldLink RX4 33 "MergeJudge$Reader" "tape" "LMergeJudge$Tape;") (List.mem_of_getElem? (i := 1) rfl)) (fun _ h9 => h9) rfl dX4_next_185 ?_
                          refine va_get (D := D) (ci := 7) (v := .ref tb) (C := RX7) (T := TX7) (N := 2) hx hb hts iuX4_next_X7 hown hK hP 1 rfl rfl 0 (by decide) (htw (.fieldLink RX4 201 "MergeJudge$Tape" "bytes" "[B") (List.mem_of_getElem? (i := 3) rfl)) (fun _ h9 => h9) rfl dX4_next_188 ?_
                          refine lv_aload_n hx hb dX4_next_191 rfl (lv_at hl 0 rfl) ?_
                          refine va_get (D := D) (ci := 4) (v := .int (nI g0_c)) (C := RX4) (T := TX4) (N := 9) hx hb hts iuX4_next_X4 hown hK hP 0 rfl rfl 4 (by decide) (htw (.fieldLink RX4 18 "MergeJudge$Reader" "at" "I") (List.mem_of_getElem? (i := 0) rfl)) (fun _ h9 => h9) rfl dX4_next_192 ?_
                          refine va_bald hx hb hK hP 2 0 rfl rfl (vp_in_nI (by omega) (by omega)) dX4_next_195 ?_
                          rw [nI_clamp (by omega)]
                          refine lv_iadd hx hb dX4_next_196 ?_
                          refine lv_bipush (v := 48) hx hb dX4_next_197 (by decide) ?_
                          refine lv_isub hx hb dX4_next_199 ?_
                          refine va_mmin hx hb (hml.trans hl.1.symm) hown (htw (.methodLink RX4 211 Lib.Math.min.name) (List.mem_of_getElem? (i := 14) rfl)) (htw (.static Lib.Math.min.name) (List.mem_of_getElem? (i := 15) rfl)) (htw (.initialized "java/lang/Math") (List.mem_of_getElem? (i := 16) rfl)) (htw (.code Lib.Math.min.name Lib.Math.min.code 2 (some .int)) (List.mem_of_getElem? (i := 17) rfl)) (Nat.le_of_ble_eq_true rfl) (Nat.le_of_ble_eq_true rfl) (Nat.le_of_ble_eq_true rfl) (Nat.le_of_ble_eq_true rfl) dX4_next_200 ?_
                          refine va_put (D := D) (ci := 4) (v := .int (if ((g1_c * (10 : Int32)) + (ft g0_c)) - (48 : Int32) < 1000 then ((g1_c * (10 : Int32)) + (ft g0_c)) - (48 : Int32) else 1000)) (ty := .int) (C := RX4) (T := TX4) (N := 9) hx hb hts iuX4_next_X4 tyX4 tyX4_ok nmX4 hown hK hP hD hS 0 rfl rfl 5 (by decide) (htw (.fieldLink RX4 21 "MergeJudge$Reader" "number" "I") (List.mem_of_getElem? (i := 5) rfl)) (fun _ h9 => h9) rfl (by decide +kernel) rfl rfl (Nat.le_of_ble_eq_true rfl) dX4_next_203 (fun H locs hP hD hS => ?_)
                          have hP : va_P D vwCl [(aR, .inr (4, [.ref aT, .ref aD, .int 2, .int (nI g0_a), .int (nI g0_c), .int (if ((g1_c * (10 : Int32)) + (ft g0_c)) - (48 : Int32) < 1000 then ((g1_c * (10 : Int32)) + (ft g0_c)) - (48 : Int32) else 1000), .int rp, .int rk, .int rf])), (aT, .inr (7, [.ref tb, .int (nI nt)])), (tb, .inl (cs 0, 400, .inl ft))] H := hP
                          have hD : va_D A [(aR, .inr (4, [.ref aT, .ref aD, .int 2, .int (nI g0_a), .int (nI g0_c), .int (if ((g1_c * (10 : Int32)) + (ft g0_c)) - (48 : Int32) < 1000 then ((g1_c * (10 : Int32)) + (ft g0_c)) - (48 : Int32) else 1000), .int rp, .int rk, .int rf])), (aT, .inr (7, [.ref tb, .int (nI nt)])), (tb, .inl (cs 0, 400, .inl ft))] := hD
                          refine lv_aload_n hx hb dX4_next_206 rfl (lv_at hl 0 rfl) ?_
                          refine lv_dup hx hb dX4_next_207 rfl ?_
                          refine va_get (D := D) (ci := 4) (v := .int (nI g0_c)) (C := RX4) (T := TX4) (N := 9) hx hb hts iuX4_next_X4 hown hK hP 0 rfl rfl 4 (by decide) (htw (.fieldLink RX4 18 "MergeJudge$Reader" "at" "I") (List.mem_of_getElem? (i := 0) rfl)) (fun _ h9 => h9) rfl dX4_next_208 ?_
                          refine lv_iconst (v := 1) hx hb dX4_next_211 (by decide) ?_
                          refine lv_iadd hx hb dX4_next_212 ?_
                          refine cf_i (nI (g0_c + 1)) (nI_add g0_c 1) ?_
                          refine va_put (D := D) (ci := 4) (v := .int (nI (g0_c + 1))) (ty := .int) (C := RX4) (T := TX4) (N := 9) hx hb hts iuX4_next_X4 tyX4 tyX4_ok nmX4 hown hK hP hD hS 0 rfl rfl 4 (by decide) (htw (.fieldLink RX4 18 "MergeJudge$Reader" "at" "I") (List.mem_of_getElem? (i := 0) rfl)) (fun _ h9 => h9) rfl (by decide +kernel) rfl rfl (Nat.le_of_ble_eq_true rfl) dX4_next_213 (fun H locs hP hD hS => ?_)
                          have hP : va_P D vwCl [(aR, .inr (4, [.ref aT, .ref aD, .int 2, .int (nI g0_a), .int (nI (g0_c + 1)), .int (if ((g1_c * (10 : Int32)) + (ft g0_c)) - (48 : Int32) < 1000 then ((g1_c * (10 : Int32)) + (ft g0_c)) - (48 : Int32) else 1000), .int rp, .int rk, .int rf])), (aT, .inr (7, [.ref tb, .int (nI nt)])), (tb, .inl (cs 0, 400, .inl ft))] H := hP
                          have hD : va_D A [(aR, .inr (4, [.ref aT, .ref aD, .int 2, .int (nI g0_a), .int (nI (g0_c + 1)), .int (if ((g1_c * (10 : Int32)) + (ft g0_c)) - (48 : Int32) < 1000 then ((g1_c * (10 : Int32)) + (ft g0_c)) - (48 : Int32) else 1000), .int rp, .int rk, .int rf])), (aT, .inr (7, [.ref tb, .int (nI nt)])), (tb, .inl (cs 0, 400, .inl ft))] := hD
                          refine lv_goto (tgt := 152) hx hb dX4_next_216 (by decide) ?_
                          exact ih_lp_21 (g0_c + 1) (if ((g1_c * (10 : Int32)) + (ft g0_c)) - (48 : Int32) < 1000 then ((g1_c * (10 : Int32)) + (ft g0_c)) - (48 : Int32) else 1000) H locs ls (by omega) (by omega) (by omega) (hP.sub [0, 1, 2] rfl) (hD.sub [0, 1, 2] (by decide) rfl) hS (lv_sub hl [0] rfl)
                        ·
                          refine lv_if_eq (tgt := 255) hx hb dX4_next_170 (by decide) (fun _ => ?_) (fun h9 => absurd h9 (by decide))
                          exact ret_v hx hb hr hlk hS (Nat.le_of_ble_eq_true rfl) (Nat.le_of_ble_eq_true rfl) (2, g0_a, g0_c, g1_c) (⟨(by omega), (by omega)⟩) (hP.sub [0, 1, 2] rfl) (hD.sub [0, 1, 2] (by decide) rfl) dX4_next_255
                  exact lp_21 _ g0_a 0 H locs ls (by omega) (by omega) (Nat.lt_succ_self _) (hP.sub [0, 1, 2] rfl) (hD.sub [0, 1, 2] (by decide) rfl) hS (lv_sub hl [0] rfl)
                ·
                  refine lv_if_eq (tgt := 219) hx hb dX4_next_144 (by decide) (fun _ => ?_) (fun h9 => absurd h9 (by decide))
                  refine lv_aload_n hx hb dX4_next_219 rfl (lv_at hl 0 rfl) ?_
                  refine lv_aload_n hx hb dX4_next_220 rfl (lv_at hl 0 rfl) ?_
                  refine va_get (D := D) (ci := 4) (v := .ref aT) (C := RX4) (T := TX4) (N := 9) hx hb hts iuX4_next_X4 hown hK hP 0 rfl rfl 0 (by decide) (htw (.fieldLink RX4 33 "MergeJudge$Reader" "tape" "LMergeJudge$Tape;") (List.mem_of_getElem? (i := 1) rfl)) (fun _ h9 => h9) rfl dX4_next_221 ?_
                  refine va_get (D := D) (ci := 7) (v := .ref tb) (C := RX7) (T := TX7) (N := 2) hx hb hts iuX4_next_X7 hown hK hP 1 rfl rfl 0 (by decide) (htw (.fieldLink RX4 201 "MergeJudge$Tape" "bytes" "[B") (List.mem_of_getElem? (i := 3) rfl)) (fun _ h9 => h9) rfl dX4_next_224 ?_
                  refine lv_aload_n hx hb dX4_next_227 rfl (lv_at hl 0 rfl) ?_
                  refine va_get (D := D) (ci := 4) (v := .int (nI g0_a)) (C := RX4) (T := TX4) (N := 9) hx hb hts iuX4_next_X4 hown hK hP 0 rfl rfl 4 (by decide) (htw (.fieldLink RX4 18 "MergeJudge$Reader" "at" "I") (List.mem_of_getElem? (i := 0) rfl)) (fun _ h9 => h9) rfl dX4_next_228 ?_
                  refine va_bald hx hb hK hP 2 0 rfl rfl (vp_in_nI (by omega) (by omega)) dX4_next_231 ?_
                  rw [nI_clamp (by omega)]
                  refine lv_bipush (v := 59) hx hb dX4_next_232 (by decide) ?_
                  refine lv_icmp_ne (tgt := 241) hx hb dX4_next_234 (by decide) (fun c_24 => ?_) (fun c_24 => ?_)
                  ·
                    refine lv_iconst (v := 4) hx hb dX4_next_241 (by decide) ?_
                    refine va_put (D := D) (ci := 4) (v := .int 4) (ty := .int) (C := RX4) (T := TX4) (N := 9) hx hb hts iuX4_next_X4 tyX4 tyX4_ok nmX4 hown hK hP hD hS 0 rfl rfl 2 (by decide) (htw (.fieldLink RX4 11 "MergeJudge$Reader" "token" "I") (List.mem_of_getElem? (i := 6) rfl)) (fun _ h9 => h9) rfl (by decide +kernel) rfl rfl (Nat.le_of_ble_eq_true rfl) dX4_next_242 (fun H locs hP hD hS => ?_)
                    have hP : va_P D vwCl [(aR, .inr (4, [.ref aT, .ref aD, .int 4, .int (nI g0_a), .int (nI g0_a), .int 0, .int rp, .int rk, .int rf])), (aT, .inr (7, [.ref tb, .int (nI nt)])), (tb, .inl (cs 0, 400, .inl ft))] H := hP
                    have hD : va_D A [(aR, .inr (4, [.ref aT, .ref aD, .int 4, .int (nI g0_a), .int (nI g0_a), .int 0, .int rp, .int rk, .int rf])), (aT, .inr (7, [.ref tb, .int (nI nt)])), (tb, .inl (cs 0, 400, .inl ft))] := hD
                    refine lv_aload_n hx hb dX4_next_245 rfl (lv_at hl 0 rfl) ?_
                    refine lv_dup hx hb dX4_next_246 rfl ?_
                    refine va_get (D := D) (ci := 4) (v := .int (nI g0_a)) (C := RX4) (T := TX4) (N := 9) hx hb hts iuX4_next_X4 hown hK hP 0 rfl rfl 4 (by decide) (htw (.fieldLink RX4 18 "MergeJudge$Reader" "at" "I") (List.mem_of_getElem? (i := 0) rfl)) (fun _ h9 => h9) rfl dX4_next_247 ?_
                    refine lv_iconst (v := 1) hx hb dX4_next_250 (by decide) ?_
                    refine lv_iadd hx hb dX4_next_251 ?_
                    refine cf_i (nI (g0_a + 1)) (nI_add g0_a 1) ?_
                    refine va_put (D := D) (ci := 4) (v := .int (nI (g0_a + 1))) (ty := .int) (C := RX4) (T := TX4) (N := 9) hx hb hts iuX4_next_X4 tyX4 tyX4_ok nmX4 hown hK hP hD hS 0 rfl rfl 4 (by decide) (htw (.fieldLink RX4 18 "MergeJudge$Reader" "at" "I") (List.mem_of_getElem? (i := 0) rfl)) (fun _ h9 => h9) rfl (by decide +kernel) rfl rfl (Nat.le_of_ble_eq_true rfl) dX4_next_252 (fun H locs hP hD hS => ?_)
                    have hP : va_P D vwCl [(aR, .inr (4, [.ref aT, .ref aD, .int 4, .int (nI g0_a), .int (nI (g0_a + 1)), .int 0, .int rp, .int rk, .int rf])), (aT, .inr (7, [.ref tb, .int (nI nt)])), (tb, .inl (cs 0, 400, .inl ft))] H := hP
                    have hD : va_D A [(aR, .inr (4, [.ref aT, .ref aD, .int 4, .int (nI g0_a), .int (nI (g0_a + 1)), .int 0, .int rp, .int rk, .int rf])), (aT, .inr (7, [.ref tb, .int (nI nt)])), (tb, .inl (cs 0, 400, .inl ft))] := hD
                    exact ret_v hx hb hr hlk hS (Nat.le_of_ble_eq_true rfl) (Nat.le_of_ble_eq_true rfl) (4, g0_a, g0_a + 1, 0) (⟨(by omega), (by omega)⟩) (hP.sub [0, 1, 2] rfl) (hD.sub [0, 1, 2] (by decide) rfl) dX4_next_255
                  ·
                    refine lv_iconst (v := 3) hx hb dX4_next_237 (by decide) ?_
                    refine lv_goto (tgt := 242) hx hb dX4_next_238 (by decide) ?_
                    refine va_put (D := D) (ci := 4) (v := .int 3) (ty := .int) (C := RX4) (T := TX4) (N := 9) hx hb hts iuX4_next_X4 tyX4 tyX4_ok nmX4 hown hK hP hD hS 0 rfl rfl 2 (by decide) (htw (.fieldLink RX4 11 "MergeJudge$Reader" "token" "I") (List.mem_of_getElem? (i := 6) rfl)) (fun _ h9 => h9) rfl (by decide +kernel) rfl rfl (Nat.le_of_ble_eq_true rfl) dX4_next_242 (fun H locs hP hD hS => ?_)
                    have hP : va_P D vwCl [(aR, .inr (4, [.ref aT, .ref aD, .int 3, .int (nI g0_a), .int (nI g0_a), .int 0, .int rp, .int rk, .int rf])), (aT, .inr (7, [.ref tb, .int (nI nt)])), (tb, .inl (cs 0, 400, .inl ft))] H := hP
                    have hD : va_D A [(aR, .inr (4, [.ref aT, .ref aD, .int 3, .int (nI g0_a), .int (nI g0_a), .int 0, .int rp, .int rk, .int rf])), (aT, .inr (7, [.ref tb, .int (nI nt)])), (tb, .inl (cs 0, 400, .inl ft))] := hD
                    refine lv_aload_n hx hb dX4_next_245 rfl (lv_at hl 0 rfl) ?_
                    refine lv_dup hx hb dX4_next_246 rfl ?_
                    refine va_get (D := D) (ci := 4) (v := .int (nI g0_a)) (C := RX4) (T := TX4) (N := 9) hx hb hts iuX4_next_X4 hown hK hP 0 rfl rfl 4 (by decide) (htw (.fieldLink RX4 18 "MergeJudge$Reader" "at" "I") (List.mem_of_getElem? (i := 0) rfl)) (fun _ h9 => h9) rfl dX4_next_247 ?_
                    refine lv_iconst (v := 1) hx hb dX4_next_250 (by decide) ?_
                    refine lv_iadd hx hb dX4_next_251 ?_
                    refine cf_i (nI (g0_a + 1)) (nI_add g0_a 1) ?_
                    refine va_put (D := D) (ci := 4) (v := .int (nI (g0_a + 1))) (ty := .int) (C := RX4) (T := TX4) (N := 9) hx hb hts iuX4_next_X4 tyX4 tyX4_ok nmX4 hown hK hP hD hS 0 rfl rfl 4 (by decide) (htw (.fieldLink RX4 18 "MergeJudge$Reader" "at" "I") (List.mem_of_getElem? (i := 0) rfl)) (fun _ h9 => h9) rfl (by decide +kernel) rfl rfl (Nat.le_of_ble_eq_true rfl) dX4_next_252 (fun H locs hP hD hS => ?_)
                    have hP : va_P D vwCl [(aR, .inr (4, [.ref aT, .ref aD, .int 3, .int (nI g0_a), .int (nI (g0_a + 1)), .int 0, .int rp, .int rk, .int rf])), (aT, .inr (7, [.ref tb, .int (nI nt)])), (tb, .inl (cs 0, 400, .inl ft))] H := hP
                    have hD : va_D A [(aR, .inr (4, [.ref aT, .ref aD, .int 3, .int (nI g0_a), .int (nI (g0_a + 1)), .int 0, .int rp, .int rk, .int rf])), (aT, .inr (7, [.ref tb, .int (nI nt)])), (tb, .inl (cs 0, 400, .inl ft))] := hD
                    exact ret_v hx hb hr hlk hS (Nat.le_of_ble_eq_true rfl) (Nat.le_of_ble_eq_true rfl) (3, g0_a, g0_a + 1, 0) (⟨(by omega), (by omega)⟩) (hP.sub [0, 1, 2] rfl) (hD.sub [0, 1, 2] (by decide) rfl) dX4_next_255
            ·
              have hn_15 := blt_f (a := g0_a) (b := nt) c_15 (by omega) (by omega)
              refine lv_aload_n hx hb dX4_next_88 rfl (lv_at hl 0 rfl) ?_
              refine lv_iconst (v := 0) hx hb dX4_next_89 (by decide) ?_
              refine va_put (D := D) (ci := 4) (v := .int 0) (ty := .int) (C := RX4) (T := TX4) (N := 9) hx hb hts iuX4_next_X4 tyX4 tyX4_ok nmX4 hown hK hP hD hS 0 rfl rfl 2 (by decide) (htw (.fieldLink RX4 11 "MergeJudge$Reader" "token" "I") (List.mem_of_getElem? (i := 6) rfl)) (fun _ h9 => h9) rfl (by decide +kernel) rfl rfl (Nat.le_of_ble_eq_true rfl) dX4_next_90 (fun H locs hP hD hS => ?_)
              have hP : va_P D vwCl [(aR, .inr (4, [.ref aT, .ref aD, .int 0, .int (nI g0_a), .int (nI g0_a), .int 0, .int rp, .int rk, .int rf])), (aT, .inr (7, [.ref tb, .int (nI nt)])), (tb, .inl (cs 0, 400, .inl ft))] H := hP
              have hD : va_D A [(aR, .inr (4, [.ref aT, .ref aD, .int 0, .int (nI g0_a), .int (nI g0_a), .int 0, .int rp, .int rk, .int rf])), (aT, .inr (7, [.ref tb, .int (nI nt)])), (tb, .inl (cs 0, 400, .inl ft))] := hD
              exact ret_v hx hb hr hlk hS (Nat.le_of_ble_eq_true rfl) (Nat.le_of_ble_eq_true rfl) (0, g0_a, g0_a, 0) (⟨(by omega), (by omega)⟩) (hP.sub [0, 1, 2] rfl) (hD.sub [0, 1, 2] (by decide) rfl) dX4_next_93
          ·
            refine lv_aload_n hx hb dX4_next_48 rfl (lv_at hl 0 rfl) ?_
            refine lv_dup hx hb dX4_next_49 rfl ?_
            refine va_get (D := D) (ci := 4) (v := .int (nI g0_a)) (C := RX4) (T := TX4) (N := 9) hx hb hts iuX4_next_X4 hown hK hP 0 rfl rfl 4 (by decide) (htw (.fieldLink RX4 18 "MergeJudge$Reader" "at" "I") (List.mem_of_getElem? (i := 0) rfl)) (fun _ h9 => h9) rfl dX4_next_50 ?_
            refine lv_iconst (v := 1) hx hb dX4_next_53 (by decide) ?_
            refine lv_iadd hx hb dX4_next_54 ?_
            refine cf_i (nI (g0_a + 1)) (nI_add g0_a 1) ?_
            refine va_put (D := D) (ci := 4) (v := .int (nI (g0_a + 1))) (ty := .int) (C := RX4) (T := TX4) (N := 9) hx hb hts iuX4_next_X4 tyX4 tyX4_ok nmX4 hown hK hP hD hS 0 rfl rfl 4 (by decide) (htw (.fieldLink RX4 18 "MergeJudge$Reader" "at" "I") (List.mem_of_getElem? (i := 0) rfl)) (fun _ h9 => h9) rfl (by decide +kernel) rfl rfl (Nat.le_of_ble_eq_true rfl) dX4_next_55 (fun H locs hP hD hS => ?_)
            have hP : va_P D vwCl [(aR, .inr (4, [.ref aT, .ref aD, .int rt, .int (nI rs), .int (nI (g0_a + 1)), .int rn, .int rp, .int rk, .int rf])), (aT, .inr (7, [.ref tb, .int (nI nt)])), (tb, .inl (cs 0, 400, .inl ft))] H := hP
            have hD : va_D A [(aR, .inr (4, [.ref aT, .ref aD, .int rt, .int (nI rs), .int (nI (g0_a + 1)), .int rn, .int rp, .int rk, .int rf])), (aT, .inr (7, [.ref tb, .int (nI nt)])), (tb, .inl (cs 0, 400, .inl ft))] := hD
            refine lv_goto (tgt := 0) hx hb dX4_next_58 (by decide) ?_
            exact ih_lp_1 (g0_a + 1) H locs ls (by omega) (by omega) (hP.sub [0, 1, 2] rfl) (hD.sub [0, 1, 2] (by decide) rfl) hS (lv_sub hl [0] rfl)
  exact lp_1 _ ra H locs ls (by omega) (Nat.lt_succ_self _) (hP.sub [0, 1, 2] rfl) (hD.sub [0, 1, 2] (by decide) rfl) hS (lv_sub hl [0] rfl)

set_option maxHeartbeats 4000000 in
set_option maxRecDepth 100000 in
theorem k_X4_isWord (l : Launch) (D : va_G) (cs : Nat → ClassId) (sz : Nat) (aK aV : Nat → Nat) (aR : Nat) (wi : Nat) (aT : Nat) (aD : Nat) (rt : Int32) (rn : Int32) (rp : Int32) (rk : Int32) (rf : Int32) (tb : Nat) (ft : Nat → Int32) (rs : Nat) (ra : Nat) (nt : Nat) (hnt : nt ≤ 400) (hra : rs ≤ ra) (hrt : ra ≤ nt) (hnj : wi < nJS) : Si l D cs aK aV yX4_isWord W_X4_isWord 4 85 0 0 [.ref aR, .ref (aK wi)] [(aR, .inr (4, [.ref aT, .ref aD, .int rt, .int (nI rs), .int (nI ra), .int rn, .int rp, .int rk, .int rf])), (aT, .inr (7, [.ref tb, .int (nI nt)])), (tb, .inl (cs 0, 400, .inl ft))] sz (fun (r : Int32) (u : Unit) => ((r = 1 ∧ True) ∨ (r = 0 ∧ True))) (fun (u : Unit) => [(aR, .inr (4, [.ref aT, .ref aD, .int rt, .int (nI rs), .int (nI ra), .int rn, .int rp, .int rk, .int rf])), (aT, .inr (7, [.ref tb, .int (nI nt)])), (tb, .inl (cs 0, 400, .inl ft))]) := by
  refine entS (D := D) (cs := cs) (y := yX4_isWord) (ws := W_X4_isWord) (As := [.ref aR, .ref (aK wi)]) (W0 := [(aR, .inr (4, [.ref aT, .ref aD, .int rt, .int (nI rs), .int (nI ra), .int rn, .int rp, .int rk, .int rf])), (aT, .inr (7, [.ref tb, .int (nI nt)])), (tb, .inl (cs 0, 400, .inl ft))]) (Qx := fun A => va_Qi (fun (r : Int32) (u : Unit) => ((r = 1 ∧ True) ∨ (r = 0 ∧ True))) (mpost D A (fun (u : Unit) => [(aR, .inr (4, [.ref aT, .ref aD, .int rt, .int (nI rs), .int (nI ra), .int rn, .int rp, .int rk, .int rf])), (aT, .inr (7, [.ref tb, .int (nI nt)])), (tb, .inl (cs 0, 400, .inl ft))])) A) (maxL := 3) (ret := (some .boolean)) (by decide) rfl (Nat.le_of_ble_eq_true rfl) ?_
  intro p e s m below meth c A ls hx hb hr hml hlk hown hts hin hK hE hV hP hD hA hS hl
  have hl : lv_has ls 3 [(0, .ref aR), (1, .ref (aK wi))] := hl
  generalize hHe : s.heap = H at hP
  have hS : va_S A s.heap H [] := hHe ▸ hS
  generalize hLe : ([] : List Loc) = locs at hS ⊢
  have htw : ∀ w ∈ O_X4_isWord, w.before ([.ref aR, .ref (aK wi)] : List Value).toArray s = true := fun w h => hts w (List.mem_cons_of_mem _ (List.mem_append_left _ h))
  have hFix := (⟨hx, hb, hml, hown, hts⟩ : CallFix p m c _ _ s _ _ _)
  have hsl := sl_le (i := wi) (by assumption)
  refine lv_aload_n hx hb dX4_isWord_0 rfl (lv_at hl 0 rfl) ?_
  refine va_get (D := D) (ci := 4) (v := .int rt) (C := RX4) (T := TX4) (N := 9) hx hb hts iuX4_isWord_X4 hown hK hP 0 rfl rfl 2 (by decide) (htw (.fieldLink RX4 11 "MergeJudge$Reader" "token" "I") (List.mem_of_getElem? (i := 0) rfl)) (fun _ h9 => h9) rfl dX4_isWord_1 ?_
  refine lv_iconst (v := 1) hx hb dX4_isWord_4 (by decide) ?_
  refine lv_icmp_ne (tgt := 38) hx hb dX4_isWord_5 (by decide) (fun c_1 => ?_) (fun c_1 => ?_)
  ·
    refine lv_iconst (v := 0) hx hb dX4_isWord_38 (by decide) ?_
    exact ret_z hx hb hr hlk hS (Nat.le_of_ble_eq_true rfl) (Nat.le_of_ble_eq_true rfl) (by decide) () (Or.inr (⟨rfl, trivial⟩)) (hP.sub [0, 1, 2] rfl) (hD.sub [0, 1, 2] (by decide) rfl) dX4_isWord_39
  ·
    refine lv_aload_n hx hb dX4_isWord_8 rfl (lv_at hl 0 rfl) ?_
    refine va_get (D := D) (ci := 4) (v := .int (nI ra)) (C := RX4) (T := TX4) (N := 9) hx hb hts iuX4_isWord_X4 hown hK hP 0 rfl rfl 4 (by decide) (htw (.fieldLink RX4 18 "MergeJudge$Reader" "at" "I") (List.mem_of_getElem? (i := 1) rfl)) (fun _ h9 => h9) rfl dX4_isWord_9 ?_
    refine lv_aload_n hx hb dX4_isWord_12 rfl (lv_at hl 0 rfl) ?_
    refine va_get (D := D) (ci := 4) (v := .int (nI rs)) (C := RX4) (T := TX4) (N := 9) hx hb hts iuX4_isWord_X4 hown hK hP 0 rfl rfl 3 (by decide) (htw (.fieldLink RX4 15 "MergeJudge$Reader" "start" "I") (List.mem_of_getElem? (i := 2) rfl)) (fun _ h9 => h9) rfl dX4_isWord_13 ?_
    refine lv_isub hx hb dX4_isWord_16 ?_
    refine cf_i (nI (ra - rs)) (pk_sub (a := ra) (b := rs) (by omega)) ?_
    refine lv_aload_n hx hb dX4_isWord_17 rfl (lv_at hl 1 rfl) ?_
    refine aft_i (wr := [(aR, .inr (4, [.ref aT, .ref aD, .int rt, .int (nI rs), .int (nI ra), .int rn, .int rp, .int rk, .int rf])), (aT, .inr (7, [.ref tb, .int (nI nt)])), (tb, .inl (cs 0, 400, .inl ft))]) hP hD hS hA [] [0, 1, 2] rfl rfl (by decide) (by decide) (run_vS (As := []) (rest := [.int (nI (ra - rs))]) hFix hK hE hV hP hD hS hA [] (k_J0_length_8abf5 l D cs _ aK aV wi (by first | assumption | decide | omega)) (cwV 0 hts gc_X4_isWord_183_J0_length_8abf5 rfl rfl rfl (by decide +kernel) ⟨Nat.le_of_ble_eq_true rfl, Nat.le_of_ble_eq_true rfl⟩) rfl (by decide) (vk_recv hV.1 (by assumption) hS) rfl hl.1 rfl (Nat.le_of_ble_eq_true rfl) dX4_isWord_18 ⟨Nat.le_of_ble_eq_true rfl, Nat.le_of_ble_eq_true rfl⟩) (fun r_2 u_2 H locs hq_2 hP hD hS => ?_)
    obtain ⟨j_2, rfl⟩ : ∃ z, z = u_2 := ⟨_, rfl⟩
    have hP : va_P D vwCl [(aR, .inr (4, [.ref aT, .ref aD, .int rt, .int (nI rs), .int (nI ra), .int rn, .int rp, .int rk, .int rf])), (aT, .inr (7, [.ref tb, .int (nI nt)])), (tb, .inl (cs 0, 400, .inl ft))] H := hP
    have hD : va_D A [(aR, .inr (4, [.ref aT, .ref aD, .int rt, .int (nI rs), .int (nI ra), .int rn, .int rp, .int rk, .int rf])), (aT, .inr (7, [.ref tb, .int (nI nt)])), (tb, .inl (cs 0, 400, .inl ft))] := hD
    replace hq_2 : ((r_2 = nI j_2 ∧ j_2 = sl wi)) := hq_2
    obtain ⟨rfl, hq_2⟩ := hq_2
    ·
      refine lv_icmp_ne (tgt := 38) hx hb dX4_isWord_21 (by decide) (fun c_3 => ?_) (fun c_3 => ?_)
      ·
        have hn_3 := bne_t (a := ra - rs) (b := j_2) c_3 (by omega) (by omega)
        refine lv_iconst (v := 0) hx hb dX4_isWord_38 (by decide) ?_
        exact ret_z hx hb hr hlk hS (Nat.le_of_ble_eq_true rfl) (Nat.le_of_ble_eq_true rfl) (by decide) () (Or.inr (⟨rfl, trivial⟩)) (hP.sub [0, 1, 2] rfl) (hD.sub [0, 1, 2] (by decide) rfl) dX4_isWord_39
      ·
        have hn_3 := bne_f (a := ra - rs) (b := j_2) c_3 (by omega) (by omega)
        refine lv_aload_n hx hb dX4_isWord_24 rfl (lv_at hl 0 rfl) ?_
        refine va_get (D := D) (ci := 4) (v := .int (nI ra)) (C := RX4) (T := TX4) (N := 9) hx hb hts iuX4_isWord_X4 hown hK hP 0 rfl rfl 4 (by decide) (htw (.fieldLink RX4 18 "MergeJudge$Reader" "at" "I") (List.mem_of_getElem? (i := 1) rfl)) (fun _ h9 => h9) rfl dX4_isWord_25 ?_
        refine lv_aload_n hx hb dX4_isWord_28 rfl (lv_at hl 0 rfl) ?_
        refine va_get (D := D) (ci := 4) (v := .ref aT) (C := RX4) (T := TX4) (N := 9) hx hb hts iuX4_isWord_X4 hown hK hP 0 rfl rfl 0 (by decide) (htw (.fieldLink RX4 33 "MergeJudge$Reader" "tape" "LMergeJudge$Tape;") (List.mem_of_getElem? (i := 7) rfl)) (fun _ h9 => h9) rfl dX4_isWord_29 ?_
        refine va_get (D := D) (ci := 7) (v := .int (nI nt)) (C := RX7) (T := TX7) (N := 2) hx hb hts iuX4_isWord_X7 hown hK hP 1 rfl rfl 1 (by decide) (htw (.fieldLink RX4 196 "MergeJudge$Tape" "size" "I") (List.mem_of_getElem? (i := 8) rfl)) (fun _ h9 => h9) rfl dX4_isWord_32 ?_
        refine lv_icmp_le (tgt := 40) hx hb dX4_isWord_35 (by decide) (fun c_4 => ?_) (fun c_4 => ?_)
        ·
          have hn_4 := ble_t (a := ra) (b := nt) c_4 (by omega) (by omega)
          refine lv_iconst (v := 0) hx hb dX4_isWord_40 (by decide) ?_
          refine lv_istore_n (lv' := [(2, .int 0), (0, .ref aR), (1, .ref (aK wi))]) hx hb dX4_isWord_41 rfl hl (by decide) rfl (fun ls hl => ?_)
          have lp_5 : ∀ (nfu : Nat) (g0_a : Nat) (H : Heap) (locs : List Loc) (ls : Array Slot) (hw0_a : g0_a ≤ sl wi), sl wi - g0_a < nfu → va_P D vwCl [(aR, .inr (4, [.ref aT, .ref aD, .int rt, .int (nI rs), .int (nI ra), .int rn, .int rp, .int rk, .int rf])), (aT, .inr (7, [.ref tb, .int (nI nt)])), (tb, .inl (cs 0, 400, .inl ft))] H → va_D A [(aR, .inr (4, [.ref aT, .ref aD, .int rt, .int (nI rs), .int (nI ra), .int rn, .int rp, .int rk, .int rf])), (aT, .inr (7, [.ref tb, .int (nI nt)])), (tb, .inl (cs 0, 400, .inl ft))] → va_S A s.heap H locs → lv_has ls 3 [(2, .int (nI g0_a)), (0, .ref aR), (1, .ref (aK wi))] → W p l e (mRm 4 0 0 85) s m ([.ref aR, .ref (aK wi)] : List Value).toArray below meth c H locs 0 0 (MQ below (va_Qi (fun (r : Int32) (u : Unit) => ((r = 1 ∧ True) ∨ (r = 0 ∧ True))) (mpost D A (fun (u : Unit) => [(aR, .inr (4, [.ref aT, .ref aD, .int rt, .int (nI rs), .int (nI ra), .int rn, .int rp, .int rk, .int rf])), (aT, .inr (7, [.ref tb, .int (nI nt)])), (tb, .inl (cs 0, 400, .inl ft))])) A) ([.ref aR, .ref (aK wi)] : List Value).toArray s 0 0 A) (F0 m 42 ls []) := by
            intro nfu
            induction nfu with
            | zero => intro g0_a H locs ls hw0_a hmu; exact absurd hmu (Nat.not_lt_zero _)
            | succ nfu ih =>
              intro g0_a H locs ls hw0_a hmu hP hD hS hl
              have ih_lp_5 := @ih
              refine lv_iload_n hx hb dX4_isWord_42 rfl (lv_at hl 0 rfl) ?_
              refine lv_aload_n hx hb dX4_isWord_43 rfl (lv_at hl 2 rfl) ?_
              refine aft_i (wr := [(aR, .inr (4, [.ref aT, .ref aD, .int rt, .int (nI rs), .int (nI ra), .int rn, .int rp, .int rk, .int rf])), (aT, .inr (7, [.ref tb, .int (nI nt)])), (tb, .inl (cs 0, 400, .inl ft))]) hP hD hS hA [] [0, 1, 2] rfl rfl (by decide) (by decide) (run_vS (As := []) (rest := [.int (nI g0_a)]) hFix hK hE hV hP hD hS hA [] (k_J0_length_8abf5 l D cs _ aK aV wi (by first | assumption | decide | omega)) (cwV 0 hts gc_X4_isWord_183_J0_length_8abf5 rfl rfl rfl (by decide +kernel) ⟨Nat.le_of_ble_eq_true rfl, Nat.le_of_ble_eq_true rfl⟩) rfl (by decide) (vk_recv hV.1 (by assumption) hS) rfl hl.1 rfl (Nat.le_of_ble_eq_true rfl) dX4_isWord_44 ⟨Nat.le_of_ble_eq_true rfl, Nat.le_of_ble_eq_true rfl⟩) (fun r_6 u_6 H locs hq_6 hP hD hS => ?_)
              obtain ⟨j_6, rfl⟩ : ∃ z, z = u_6 := ⟨_, rfl⟩
              have hP : va_P D vwCl [(aR, .inr (4, [.ref aT, .ref aD, .int rt, .int (nI rs), .int (nI ra), .int rn, .int rp, .int rk, .int rf])), (aT, .inr (7, [.ref tb, .int (nI nt)])), (tb, .inl (cs 0, 400, .inl ft))] H := hP
              have hD : va_D A [(aR, .inr (4, [.ref aT, .ref aD, .int rt, .int (nI rs), .int (nI ra), .int rn, .int rp, .int rk, .int rf])), (aT, .inr (7, [.ref tb, .int (nI nt)])), (tb, .inl (cs 0, 400, .inl ft))] := hD
              replace hq_6 : ((r_6 = nI j_6 ∧ j_6 = sl wi)) := hq_6
              obtain ⟨rfl, hq_6⟩ := hq_6
              ·
                refine lv_icmp_ge (tgt := 80) hx hb dX4_isWord_47 (by decide) (fun c_7 => ?_) (fun c_7 => ?_)
                ·
                  have hn_7 := bge_t (a := g0_a) (b := j_6) c_7 (by omega) (by omega)
                  refine lv_iconst (v := 1) hx hb dX4_isWord_80 (by decide) ?_
                  exact ret_z hx hb hr hlk hS (Nat.le_of_ble_eq_true rfl) (Nat.le_of_ble_eq_true rfl) (by decide) () (Or.inl ⟨rfl, trivial⟩) (hP.sub [0, 1, 2] rfl) (hD.sub [0, 1, 2] (by decide) rfl) dX4_isWord_81
                ·
                  have hn_7 := bge_f (a := g0_a) (b := j_6) c_7 (by omega) (by omega)
                  refine lv_aload_n hx hb dX4_isWord_50 rfl (lv_at hl 1 rfl) ?_
                  refine va_get (D := D) (ci := 4) (v := .ref aT) (C := RX4) (T := TX4) (N := 9) hx hb hts iuX4_isWord_X4 hown hK hP 0 rfl rfl 0 (by decide) (htw (.fieldLink RX4 33 "MergeJudge$Reader" "tape" "LMergeJudge$Tape;") (List.mem_of_getElem? (i := 7) rfl)) (fun _ h9 => h9) rfl dX4_isWord_51 ?_
                  refine va_get (D := D) (ci := 7) (v := .ref tb) (C := RX7) (T := TX7) (N := 2) hx hb hts iuX4_isWord_X7 hown hK hP 1 rfl rfl 0 (by decide) (htw (.fieldLink RX4 201 "MergeJudge$Tape" "bytes" "[B") (List.mem_of_getElem? (i := 9) rfl)) (fun _ h9 => h9) rfl dX4_isWord_54 ?_
                  refine lv_aload_n hx hb dX4_isWord_57 rfl (lv_at hl 1 rfl) ?_
                  refine va_get (D := D) (ci := 4) (v := .int (nI rs)) (C := RX4) (T := TX4) (N := 9) hx hb hts iuX4_isWord_X4 hown hK hP 0 rfl rfl 3 (by decide) (htw (.fieldLink RX4 15 "MergeJudge$Reader" "start" "I") (List.mem_of_getElem? (i := 2) rfl)) (fun _ h9 => h9) rfl dX4_isWord_58 ?_
                  refine lv_iload_n hx hb dX4_isWord_61 rfl (lv_at hl 0 rfl) ?_
                  refine lv_iadd hx hb dX4_isWord_62 ?_
                  refine cf_i (nI (rs + g0_a)) (nI_add rs g0_a) ?_
                  refine va_bald hx hb hK hP 2 0 rfl rfl (vp_in_nI (by omega) (by omega)) dX4_isWord_63 ?_
                  rw [nI_clamp (by omega)]
                  refine lv_aload_n hx hb dX4_isWord_64 rfl (lv_at hl 2 rfl) ?_
                  refine lv_iload_n hx hb dX4_isWord_65 rfl (lv_at hl 0 rfl) ?_
                  refine aft_i (wr := [(aR, .inr (4, [.ref aT, .ref aD, .int rt, .int (nI rs), .int (nI ra), .int rn, .int rp, .int rk, .int rf])), (aT, .inr (7, [.ref tb, .int (nI nt)])), (tb, .inl (cs 0, 400, .inl ft))]) hP hD hS hA [] [0, 1, 2] rfl rfl (by decide) (by decide) (run_vS (As := [.int (nI g0_a)]) (rest := [.int (ft (rs + g0_a))]) hFix hK hE hV hP hD hS hA [] (k_J0_charAt_5068e l D cs _ aK aV wi g0_a (by first | assumption | decide | omega) (by first | assumption | decide | omega)) (cwV 1 hts gc_X4_isWord_188_J0_charAt_5068e rfl rfl rfl (by decide +kernel) ⟨Nat.le_of_ble_eq_true rfl, Nat.le_of_ble_eq_true rfl⟩) rfl (by decide) (vk_recv hV.1 (by assumption) hS) rfl hl.1 rfl (Nat.le_of_ble_eq_true rfl) dX4_isWord_66 ⟨Nat.le_of_ble_eq_true rfl, Nat.le_of_ble_eq_true rfl⟩) (fun r_8 u_8 H locs hq_8 hP hD hS => ?_)
                  obtain ⟨j_8, rfl⟩ : ∃ z, z = u_8 := ⟨_, rfl⟩
                  have hP : va_P D vwCl [(aR, .inr (4, [.ref aT, .ref aD, .int rt, .int (nI rs), .int (nI ra), .int rn, .int rp, .int rk, .int rf])), (aT, .inr (7, [.ref tb, .int (nI nt)])), (tb, .inl (cs 0, 400, .inl ft))] H := hP
                  have hD : va_D A [(aR, .inr (4, [.ref aT, .ref aD, .int rt, .int (nI rs), .int (nI ra), .int rn, .int rp, .int rk, .int rf])), (aT, .inr (7, [.ref tb, .int (nI nt)])), (tb, .inl (cs 0, 400, .inl ft))] := hD
                  replace hq_8 : ((r_8 = nI j_8 ∧ j_8 = sch wi g0_a ∧ j_8 < 128)) := hq_8
                  obtain ⟨rfl, hq_8⟩ := hq_8
                  ·
                    refine lv_icmp_eq (tgt := 74) hx hb dX4_isWord_69 (by decide) (fun c_9 => ?_) (fun c_9 => ?_)
                    ·
                      refine lv_iinc (v := (nI (g0_a + 1))) (lv' := [(2, .int (nI (g0_a + 1))), (0, .ref aR), (1, .ref (aK wi))]) hx hb dX4_isWord_74 hl (k := 0) rfl (nI_1 _) (by decide) rfl (fun ls hl => ?_)
                      refine lv_goto (tgt := 42) hx hb dX4_isWord_77 (by decide) ?_
                      exact ih_lp_5 (g0_a + 1) H locs ls (by omega) (by omega) (hP.sub [0, 1, 2] rfl) (hD.sub [0, 1, 2] (by decide) rfl) hS (lv_sub hl [0, 1, 2] rfl)
                    ·
                      refine lv_iconst (v := 0) hx hb dX4_isWord_72 (by decide) ?_
                      exact ret_z hx hb hr hlk hS (Nat.le_of_ble_eq_true rfl) (Nat.le_of_ble_eq_true rfl) (by decide) () (Or.inr (⟨rfl, trivial⟩)) (hP.sub [0, 1, 2] rfl) (hD.sub [0, 1, 2] (by decide) rfl) dX4_isWord_73
          exact lp_5 _ 0 H locs ls (by omega) (Nat.lt_succ_self _) (hP.sub [0, 1, 2] rfl) (hD.sub [0, 1, 2] (by decide) rfl) hS (lv_sub hl [0, 1, 2] rfl)
        ·
          have hn_4 := ble_f (a := ra) (b := nt) c_4 (by omega) (by omega)
          refine lv_iconst (v := 0) hx hb dX4_isWord_38 (by decide) ?_
          exact ret_z hx hb hr hlk hS (Nat.le_of_ble_eq_true rfl) (Nat.le_of_ble_eq_true rfl) (by decide) () (Or.inr (⟨rfl, trivial⟩)) (hP.sub [0, 1, 2] rfl) (hD.sub [0, 1, 2] (by decide) rfl) dX4_isWord_39

set_option maxHeartbeats 4000000 in
set_option maxRecDepth 100000 in
theorem k_X4_failed (l : Launch) (D : va_G) (cs : Nat → ClassId) (sz : Nat) (aR : Nat) (ki : Int32) (aT : Nat) (aD : Nat) (rt : Int32) (rn : Int32) (rp : Int32) (rk : Int32) (rf : Int32) (rs : Nat) (ra : Nat)  : Mi l D cs yX4_failed W_X4_failed 0 0 0 0 [.ref aR, .int ki] [(aR, .inr (4, [.ref aT, .ref aD, .int rt, .int (nI rs), .int (nI ra), .int rn, .int rp, .int rk, .int rf]))] sz (fun (r : Int32) (u : Int32 × Int32) => ((r = 0 ∧ True))) (fun (u : Int32 × Int32) => [(aR, .inr (4, [.ref aT, .ref aD, .int rt, .int (nI rs), .int (nI ra), .int rn, .int rp, .int u.1, .int u.2]))]) := by
  refine ent (D := D) (cs := cs) (y := yX4_failed) (ws := W_X4_failed) (As := [.ref aR, .int ki]) (W0 := [(aR, .inr (4, [.ref aT, .ref aD, .int rt, .int (nI rs), .int (nI ra), .int rn, .int rp, .int rk, .int rf]))]) (Qx := fun A => va_Qi (fun (r : Int32) (u : Int32 × Int32) => ((r = 0 ∧ True))) (mpost D A (fun (u : Int32 × Int32) => [(aR, .inr (4, [.ref aT, .ref aD, .int rt, .int (nI rs), .int (nI ra), .int rn, .int rp, .int u.1, .int u.2]))])) A) (maxL := 2) (ret := (some .boolean)) (by decide) rfl (Nat.le_of_ble_eq_true rfl) ?_
  intro p e s m below meth c A ls hx hb hr hml hlk hown hts hin hK hE hP hD hA hS hl
  have hl : lv_has ls 2 [(0, .ref aR), (1, .int ki)] := hl
  generalize hHe : s.heap = H at hP
  have hS : va_S A s.heap H [] := hHe ▸ hS
  generalize hLe : ([] : List Loc) = locs at hS ⊢
  have htw : ∀ w ∈ O_X4_failed, w.before ([.ref aR, .int ki] : List Value).toArray s = true := fun w h => hts w (List.mem_cons_of_mem _ (List.mem_append_left _ h))
  have hFix := (⟨hx, hb, hml, hown, hts⟩ : CallFix p m c _ _ s _ _ _)
  refine lv_aload_n hx hb dX4_failed_0 rfl (lv_at hl 0 rfl) ?_
  refine lv_iload_n hx hb dX4_failed_1 rfl (lv_at hl 1 rfl) ?_
  refine va_put (D := D) (ci := 4) (v := .int ki) (ty := .int) (C := RX4) (T := TX4) (N := 9) hx hb hts iuX4_failed_X4 tyX4 tyX4_ok nmX4 hown hK hP hD hS 0 rfl rfl 7 (by decide) (htw (.fieldLink RX4 27 "MergeJudge$Reader" "faultKind" "I") (List.mem_of_getElem? (i := 0) rfl)) (fun _ h9 => h9) rfl (by decide +kernel) rfl rfl (Nat.le_of_ble_eq_true rfl) dX4_failed_2 (fun H locs hP hD hS => ?_)
  have hP : va_P D vwCl [(aR, .inr (4, [.ref aT, .ref aD, .int rt, .int (nI rs), .int (nI ra), .int rn, .int rp, .int ki, .int rf]))] H := hP
  have hD : va_D A [(aR, .inr (4, [.ref aT, .ref aD, .int rt, .int (nI rs), .int (nI ra), .int rn, .int rp, .int ki, .int rf]))] := hD
  refine lv_aload_n hx hb dX4_failed_5 rfl (lv_at hl 0 rfl) ?_
  refine lv_aload_n hx hb dX4_failed_6 rfl (lv_at hl 0 rfl) ?_
  refine va_get (D := D) (ci := 4) (v := .int (nI rs)) (C := RX4) (T := TX4) (N := 9) hx hb hts iuX4_failed_X4 hown hK hP 0 rfl rfl 3 (by decide) (htw (.fieldLink RX4 15 "MergeJudge$Reader" "start" "I") (List.mem_of_getElem? (i := 1) rfl)) (fun _ h9 => h9) rfl dX4_failed_7 ?_
  refine va_put (D := D) (ci := 4) (v := .int (nI rs)) (ty := .int) (C := RX4) (T := TX4) (N := 9) hx hb hts iuX4_failed_X4 tyX4 tyX4_ok nmX4 hown hK hP hD hS 0 rfl rfl 8 (by decide) (htw (.fieldLink RX4 30 "MergeJudge$Reader" "faultPlace" "I") (List.mem_of_getElem? (i := 2) rfl)) (fun _ h9 => h9) rfl (by decide +kernel) rfl rfl (Nat.le_of_ble_eq_true rfl) dX4_failed_10 (fun H locs hP hD hS => ?_)
  have hP : va_P D vwCl [(aR, .inr (4, [.ref aT, .ref aD, .int rt, .int (nI rs), .int (nI ra), .int rn, .int rp, .int ki, .int (nI rs)]))] H := hP
  have hD : va_D A [(aR, .inr (4, [.ref aT, .ref aD, .int rt, .int (nI rs), .int (nI ra), .int rn, .int rp, .int ki, .int (nI rs)]))] := hD
  refine lv_iconst (v := 0) hx hb dX4_failed_13 (by decide) ?_
  exact ret_z hx hb hr hlk hS (Nat.le_of_ble_eq_true rfl) (Nat.le_of_ble_eq_true rfl) (by decide) (ki, nI rs) (⟨rfl, trivial⟩) (hP.sub [0] rfl) (hD.sub [0] (by decide) rfl) dX4_failed_14

set_option maxHeartbeats 4000000 in
set_option maxRecDepth 100000 in
theorem k_X4_passWord (l : Launch) (D : va_G) (cs : Nat → ClassId) (sz : Nat) (aK aV : Nat → Nat) (aR : Nat) (wi : Nat) (aT : Nat) (aD : Nat) (rt : Int32) (rn : Int32) (rp : Int32) (rk : Int32) (rf : Int32) (tb : Nat) (ft : Nat → Int32) (rs : Nat) (ra : Nat) (nt : Nat) (hnt : nt ≤ 400) (hra : rs ≤ ra) (hrt : ra ≤ nt) (hnj : wi < nJS) : Si l D cs aK aV yX4_passWord W_X4_passWord 5 107 0 0 [.ref aR, .ref (aK wi)] [(aR, .inr (4, [.ref aT, .ref aD, .int rt, .int (nI rs), .int (nI ra), .int rn, .int rp, .int rk, .int rf])), (aT, .inr (7, [.ref tb, .int (nI nt)])), (tb, .inl (cs 0, 400, .inl ft))] sz (fun (r : Int32) (u : Int32 × Nat × Nat × Int32 × Int32 × Int32) => (u.2.1 ≤ u.2.2.1) ∧ (u.2.2.1 ≤ nt) ∧ ((r = 1 ∧ True) ∨ (r = 0 ∧ True))) (fun (u : Int32 × Nat × Nat × Int32 × Int32 × Int32) => [(aR, .inr (4, [.ref aT, .ref aD, .int u.1, .int (nI u.2.1), .int (nI u.2.2.1), .int u.2.2.2.1, .int rp, .int u.2.2.2.2.1, .int u.2.2.2.2.2])), (aT, .inr (7, [.ref tb, .int (nI nt)])), (tb, .inl (cs 0, 400, .inl ft))]) := by
  refine entS (D := D) (cs := cs) (y := yX4_passWord) (ws := W_X4_passWord) (As := [.ref aR, .ref (aK wi)]) (W0 := [(aR, .inr (4, [.ref aT, .ref aD, .int rt, .int (nI rs), .int (nI ra), .int rn, .int rp, .int rk, .int rf])), (aT, .inr (7, [.ref tb, .int (nI nt)])), (tb, .inl (cs 0, 400, .inl ft))]) (Qx := fun A => va_Qi (fun (r : Int32) (u : Int32 × Nat × Nat × Int32 × Int32 × Int32) => (u.2.1 ≤ u.2.2.1) ∧ (u.2.2.1 ≤ nt) ∧ ((r = 1 ∧ True) ∨ (r = 0 ∧ True))) (mpost D A (fun (u : Int32 × Nat × Nat × Int32 × Int32 × Int32) => [(aR, .inr (4, [.ref aT, .ref aD, .int u.1, .int (nI u.2.1), .int (nI u.2.2.1), .int u.2.2.2.1, .int rp, .int u.2.2.2.2.1, .int u.2.2.2.2.2])), (aT, .inr (7, [.ref tb, .int (nI nt)])), (tb, .inl (cs 0, 400, .inl ft))])) A) (maxL := 2) (ret := (some .boolean)) (by decide) rfl (Nat.le_of_ble_eq_true rfl) ?_
  intro p e s m below meth c A ls hx hb hr hml hlk hown hts hin hK hE hV hP hD hA hS hl
  have hl : lv_has ls 2 [(0, .ref aR), (1, .ref (aK wi))] := hl
  generalize hHe : s.heap = H at hP
  have hS : va_S A s.heap H [] := hHe ▸ hS
  generalize hLe : ([] : List Loc) = locs at hS ⊢
  have htw : ∀ w ∈ O_X4_passWord, w.before ([.ref aR, .ref (aK wi)] : List Value).toArray s = true := fun w h => hts w (List.mem_cons_of_mem _ (List.mem_append_left _ h))
  have hFix := (⟨hx, hb, hml, hown, hts⟩ : CallFix p m c _ _ s _ _ _)
  refine lv_aload_n hx hb dX4_passWord_0 rfl (lv_at hl 0 rfl) ?_
  refine lv_aload_n hx hb dX4_passWord_1 rfl (lv_at hl 1 rfl) ?_
  refine aft_i (wr := []) hP hD hS hA [0, 1, 2] [] rfl rfl (by decide) (by decide) (run_vS (As := [.ref (aK wi)]) (rest := []) hFix hK hE hV hP hD hS hA [0, 1, 2] (k_X4_isWord l D cs _ aK aV aR wi aT aD rt rn rp rk rf tb ft rs ra nt (by first | assumption | decide | omega) (by first | assumption | decide | omega) (by first | assumption | decide | omega) (by first | assumption | decide | omega)) (cwV 1 hts gc_X4_passWord_61_X4_isWord rfl rfl rfl (by decide +kernel) ⟨Nat.le_of_ble_eq_true rfl, Nat.le_of_ble_eq_true rfl⟩) rfl (by decide) (rcv hK hP [0, 1, 2] rfl rfl rfl) rfl hl.1 rfl (Nat.le_of_ble_eq_true rfl) dX4_passWord_2 ⟨Nat.le_of_ble_eq_true rfl, Nat.le_of_ble_eq_true rfl⟩) (fun r_1 u_1 H locs hq_1 hP hD hS => ?_)
  have hP : va_P D vwCl [(aR, .inr (4, [.ref aT, .ref aD, .int rt, .int (nI rs), .int (nI ra), .int rn, .int rp, .int rk, .int rf])), (aT, .inr (7, [.ref tb, .int (nI nt)])), (tb, .inl (cs 0, 400, .inl ft))] H := hP
  have hD : va_D A [(aR, .inr (4, [.ref aT, .ref aD, .int rt, .int (nI rs), .int (nI ra), .int rn, .int rp, .int rk, .int rf])), (aT, .inr (7, [.ref tb, .int (nI nt)])), (tb, .inl (cs 0, 400, .inl ft))] := hD
  replace hq_1 : ((r_1 = 1 ∧ True) ∨ (r_1 = 0 ∧ True)) := hq_1
  rcases hq_1 with ⟨rfl, hq_1⟩ | ⟨rfl, hq_1⟩
  ·
    refine lv_if_ne (tgt := 14) hx hb dX4_passWord_5 (by decide) (fun _ => ?_) (fun h9 => absurd h9 (by decide))
    refine lv_aload_n hx hb dX4_passWord_14 rfl (lv_at hl 0 rfl) ?_
    refine aft_v (wr := []) hP hD hS hA [0, 1, 2] [] rfl rfl (by decide) (by decide) (run_v (As := []) (rest := []) hFix hK hE hP hD [0, 1, 2] (k_X4_next l D cs _ aR aT aD rt rn rp rk rf tb ft rs ra nt (by first | assumption | decide | omega) (by first | assumption | decide | omega)) (cwV 0 hts gc_X4_passWord_46_X4_next rfl rfl rfl (by decide +kernel) ⟨Nat.le_of_ble_eq_true rfl, Nat.le_of_ble_eq_true rfl⟩) rfl (by decide) rfl rfl rfl hl.1 rfl (Nat.le_of_ble_eq_true rfl) dX4_passWord_15 ⟨Nat.le_of_ble_eq_true rfl, Nat.le_of_ble_eq_true rfl⟩) (fun u_2 H locs hq_2 hP hD hS => ?_)
    obtain ⟨rt1_2, rs1_2, ra1_2, rn1_2⟩ := u_2
    have hP : va_P D vwCl [(aR, .inr (4, [.ref aT, .ref aD, .int rt1_2, .int (nI rs1_2), .int (nI ra1_2), .int rn1_2, .int rp, .int rk, .int rf])), (aT, .inr (7, [.ref tb, .int (nI nt)])), (tb, .inl (cs 0, 400, .inl ft))] H := hP
    have hD : va_D A [(aR, .inr (4, [.ref aT, .ref aD, .int rt1_2, .int (nI rs1_2), .int (nI ra1_2), .int rn1_2, .int rp, .int rk, .int rf])), (aT, .inr (7, [.ref tb, .int (nI nt)])), (tb, .inl (cs 0, 400, .inl ft))] := hD
    replace hq_2 : (rs1_2 ≤ ra1_2) ∧ (ra1_2 ≤ nt) := hq_2
    obtain ⟨hp_2_0, hp_2_1⟩ := hq_2
    refine lv_iconst (v := 1) hx hb dX4_passWord_18 (by decide) ?_
    exact ret_z hx hb hr hlk hS (Nat.le_of_ble_eq_true rfl) (Nat.le_of_ble_eq_true rfl) (by decide) (rt1_2, rs1_2, ra1_2, rn1_2, rk, rf) (⟨(by omega), (by omega), Or.inl ⟨rfl, trivial⟩⟩) (hP.sub [0, 1, 2] rfl) (hD.sub [0, 1, 2] (by decide) rfl) dX4_passWord_19
  ·
    refine lv_if_ne (tgt := 14) hx hb dX4_passWord_5 (by decide) (fun h9 => absurd h9 (by decide)) (fun _ => ?_)
    refine lv_aload_n hx hb dX4_passWord_8 rfl (lv_at hl 0 rfl) ?_
    refine lv_iconst (v := 1) hx hb dX4_passWord_9 (by decide) ?_
    refine aft_i (wr := [(aT, .inr (7, [.ref tb, .int (nI nt)])), (tb, .inl (cs 0, 400, .inl ft))]) hP hD hS hA [0] [1, 2] rfl rfl (by decide) (by decide) (run_v (As := [.int 1]) (rest := []) hFix hK hE hP hD [0] (k_X4_failed l D cs _ aR 1 aT aD rt rn rp rk rf rs ra) (cwV 1 hts gc_X4_passWord_78_X4_failed rfl rfl rfl (by decide +kernel) ⟨Nat.le_of_ble_eq_true rfl, Nat.le_of_ble_eq_true rfl⟩) rfl (by decide) rfl rfl rfl hl.1 rfl (Nat.le_of_ble_eq_true rfl) dX4_passWord_10 ⟨Nat.le_of_ble_eq_true rfl, Nat.le_of_ble_eq_true rfl⟩) (fun r_3 u_3 H locs hq_3 hP hD hS => ?_)
    obtain ⟨rk1_3, rf1_3⟩ := u_3
    have hP : va_P D vwCl [(aT, .inr (7, [.ref tb, .int (nI nt)])), (tb, .inl (cs 0, 400, .inl ft)), (aR, .inr (4, [.ref aT, .ref aD, .int rt, .int (nI rs), .int (nI ra), .int rn, .int rp, .int rk1_3, .int rf1_3]))] H := hP
    have hD : va_D A [(aT, .inr (7, [.ref tb, .int (nI nt)])), (tb, .inl (cs 0, 400, .inl ft)), (aR, .inr (4, [.ref aT, .ref aD, .int rt, .int (nI rs), .int (nI ra), .int rn, .int rp, .int rk1_3, .int rf1_3]))] := hD
    replace hq_3 : ((r_3 = 0 ∧ True)) := hq_3
    obtain ⟨rfl, hq_3⟩ := hq_3
    ·
      exact ret_z hx hb hr hlk hS (Nat.le_of_ble_eq_true rfl) (Nat.le_of_ble_eq_true rfl) (by decide) (rt, rs, ra, rn, rk1_3, rf1_3) (⟨(by omega), (by omega), Or.inr (⟨rfl, trivial⟩)⟩) (hP.sub [2, 0, 1] rfl) (hD.sub [2, 0, 1] (by decide) rfl) dX4_passWord_13

set_option maxHeartbeats 4000000 in
set_option maxRecDepth 100000 in
theorem k_X4_passNumber (l : Launch) (D : va_G) (cs : Nat → ClassId) (sz : Nat) (aR : Nat) (lo : Nat) (hi : Nat) (aT : Nat) (aD : Nat) (rt : Int32) (rn : Int32) (rp : Int32) (rk : Int32) (rf : Int32) (tb : Nat) (ft : Nat → Int32) (rs : Nat) (ra : Nat) (nt : Nat) (hnt : nt ≤ 400) (ha_lo : lo < 100) (ha_hi : hi < 100) (hra : rs ≤ ra) (hrt : ra ≤ nt) : Mi l D cs yX4_passNumber W_X4_passNumber 2 40 0 0 [.ref aR, .int (nI lo), .int (nI hi)] [(aR, .inr (4, [.ref aT, .ref aD, .int rt, .int (nI rs), .int (nI ra), .int rn, .int rp, .int rk, .int rf])), (aT, .inr (7, [.ref tb, .int (nI nt)])), (tb, .inl (cs 0, 400, .inl ft))] sz (fun (r : Int32) (u : Int32 × Nat × Nat × Int32 × Int32 × Int32 × Int32) => (u.2.1 ≤ u.2.2.1) ∧ (u.2.2.1 ≤ nt) ∧ ((r = 1 ∧ ∃ j9, j9 < hi + 1 ∧ u.2.2.2.2.1 = nI j9) ∨ (r = 0 ∧ True))) (fun (u : Int32 × Nat × Nat × Int32 × Int32 × Int32 × Int32) => [(aR, .inr (4, [.ref aT, .ref aD, .int u.1, .int (nI u.2.1), .int (nI u.2.2.1), .int u.2.2.2.1, .int u.2.2.2.2.1, .int u.2.2.2.2.2.1, .int u.2.2.2.2.2.2])), (aT, .inr (7, [.ref tb, .int (nI nt)])), (tb, .inl (cs 0, 400, .inl ft))]) := by
  refine ent (D := D) (cs := cs) (y := yX4_passNumber) (ws := W_X4_passNumber) (As := [.ref aR, .int (nI lo), .int (nI hi)]) (W0 := [(aR, .inr (4, [.ref aT, .ref aD, .int rt, .int (nI rs), .int (nI ra), .int rn, .int rp, .int rk, .int rf])), (aT, .inr (7, [.ref tb, .int (nI nt)])), (tb, .inl (cs 0, 400, .inl ft))]) (Qx := fun A => va_Qi (fun (r : Int32) (u : Int32 × Nat × Nat × Int32 × Int32 × Int32 × Int32) => (u.2.1 ≤ u.2.2.1) ∧ (u.2.2.1 ≤ nt) ∧ ((r = 1 ∧ ∃ j9, j9 < hi + 1 ∧ u.2.2.2.2.1 = nI j9) ∨ (r = 0 ∧ True))) (mpost D A (fun (u : Int32 × Nat × Nat × Int32 × Int32 × Int32 × Int32) => [(aR, .inr (4, [.ref aT, .ref aD, .int u.1, .int (nI u.2.1), .int (nI u.2.2.1), .int u.2.2.2.1, .int u.2.2.2.2.1, .int u.2.2.2.2.2.1, .int u.2.2.2.2.2.2])), (aT, .inr (7, [.ref tb, .int (nI nt)])), (tb, .inl (cs 0, 400, .inl ft))])) A) (maxL := 3) (ret := (some .boolean)) (by decide) rfl (Nat.le_of_ble_eq_true rfl) ?_
  intro p e s m below meth c A ls hx hb hr hml hlk hown hts hin hK hE hP hD hA hS hl
  have hl : lv_has ls 3 [(0, .ref aR), (1, .int (nI lo)), (2, .int (nI hi))] := hl
  generalize hHe : s.heap = H at hP
  have hS : va_S A s.heap H [] := hHe ▸ hS
  generalize hLe : ([] : List Loc) = locs at hS ⊢
  have htw : ∀ w ∈ O_X4_passNumber, w.before ([.ref aR, .int (nI lo), .int (nI hi)] : List Value).toArray s = true := fun w h => hts w (List.mem_cons_of_mem _ (List.mem_append_left _ h))
  have hFix := (⟨hx, hb, hml, hown, hts⟩ : CallFix p m c _ _ s _ _ _)
  refine lv_aload_n hx hb dX4_passNumber_0 rfl (lv_at hl 0 rfl) ?_
  refine va_get (D := D) (ci := 4) (v := .int rt) (C := RX4) (T := TX4) (N := 9) hx hb hts iuX4_passNumber_X4 hown hK hP 0 rfl rfl 2 (by decide) (htw (.fieldLink RX4 11 "MergeJudge$Reader" "token" "I") (List.mem_of_getElem? (i := 0) rfl)) (fun _ h9 => h9) rfl dX4_passNumber_1 ?_
  refine lv_iconst (v := 2) hx hb dX4_passNumber_4 (by decide) ?_
  refine lv_icmp_eq (tgt := 14) hx hb dX4_passNumber_5 (by decide) (fun c_1 => ?_) (fun c_1 => ?_)
  ·
    refine lv_aload_n hx hb dX4_passNumber_14 rfl (lv_at hl 0 rfl) ?_
    refine va_get (D := D) (ci := 4) (v := .int rn) (C := RX4) (T := TX4) (N := 9) hx hb hts iuX4_passNumber_X4 hown hK hP 0 rfl rfl 5 (by decide) (htw (.fieldLink RX4 21 "MergeJudge$Reader" "number" "I") (List.mem_of_getElem? (i := 5) rfl)) (fun _ h9 => h9) rfl dX4_passNumber_15 ?_
    refine lv_iload_n hx hb dX4_passNumber_18 rfl (lv_at hl 1 rfl) ?_
    refine lv_icmp_lt (tgt := 30) hx hb dX4_passNumber_19 (by decide) (fun c_2 => ?_) (fun c_2 => ?_)
    ·
      refine lv_aload_n hx hb dX4_passNumber_30 rfl (lv_at hl 0 rfl) ?_
      refine lv_iconst (v := 2) hx hb dX4_passNumber_31 (by decide) ?_
      refine aft_i (wr := [(aT, .inr (7, [.ref tb, .int (nI nt)])), (tb, .inl (cs 0, 400, .inl ft))]) hP hD hS hA [0] [1, 2] rfl rfl (by decide) (by decide) (run_v (As := [.int 2]) (rest := []) hFix hK hE hP hD [0] (k_X4_failed l D cs _ aR 2 aT aD rt rn rp rk rf rs ra) (cwV 1 hts gc_X4_passNumber_78_X4_failed rfl rfl rfl (by decide +kernel) ⟨Nat.le_of_ble_eq_true rfl, Nat.le_of_ble_eq_true rfl⟩) rfl (by decide) rfl rfl rfl hl.1 rfl (Nat.le_of_ble_eq_true rfl) dX4_passNumber_32 ⟨Nat.le_of_ble_eq_true rfl, Nat.le_of_ble_eq_true rfl⟩) (fun r_3 u_3 H locs hq_3 hP hD hS => ?_)
      obtain ⟨rk1_3, rf1_3⟩ := u_3
      have hP : va_P D vwCl [(aT, .inr (7, [.ref tb, .int (nI nt)])), (tb, .inl (cs 0, 400, .inl ft)), (aR, .inr (4, [.ref aT, .ref aD, .int rt, .int (nI rs), .int (nI ra), .int rn, .int rp, .int rk1_3, .int rf1_3]))] H := hP
      have hD : va_D A [(aT, .inr (7, [.ref tb, .int (nI nt)])), (tb, .inl (cs 0, 400, .inl ft)), (aR, .inr (4, [.ref aT, .ref aD, .int rt, .int (nI rs), .int (nI ra), .int rn, .int rp, .int rk1_3, .int rf1_3]))] := hD
      replace hq_3 : ((r_3 = 0 ∧ True)) := hq_3
      obtain ⟨rfl, hq_3⟩ := hq_3
      ·
        exact ret_z hx hb hr hlk hS (Nat.le_of_ble_eq_true rfl) (Nat.le_of_ble_eq_true rfl) (by decide) (rt, rs, ra, rn, rp, rk1_3, rf1_3) (⟨(by omega), (by omega), Or.inr (⟨rfl, trivial⟩)⟩) (hP.sub [2, 0, 1] rfl) (hD.sub [2, 0, 1] (by decide) rfl) dX4_passNumber_35
    ·
      refine lv_aload_n hx hb dX4_passNumber_22 rfl (lv_at hl 0 rfl) ?_
      refine va_get (D := D) (ci := 4) (v := .int rn) (C := RX4) (T := TX4) (N := 9) hx hb hts iuX4_passNumber_X4 hown hK hP 0 rfl rfl 5 (by decide) (htw (.fieldLink RX4 21 "MergeJudge$Reader" "number" "I") (List.mem_of_getElem? (i := 5) rfl)) (fun _ h9 => h9) rfl dX4_passNumber_23 ?_
      refine lv_iload_n hx hb dX4_passNumber_26 rfl (lv_at hl 2 rfl) ?_
      refine lv_icmp_le (tgt := 36) hx hb dX4_passNumber_27 (by decide) (fun c_4 => ?_) (fun c_4 => ?_)
      ·
        refine lv_aload_n hx hb dX4_passNumber_36 rfl (lv_at hl 0 rfl) ?_
        refine lv_aload_n hx hb dX4_passNumber_37 rfl (lv_at hl 0 rfl) ?_
        refine va_get (D := D) (ci := 4) (v := .int rn) (C := RX4) (T := TX4) (N := 9) hx hb hts iuX4_passNumber_X4 hown hK hP 0 rfl rfl 5 (by decide) (htw (.fieldLink RX4 21 "MergeJudge$Reader" "number" "I") (List.mem_of_getElem? (i := 5) rfl)) (fun _ h9 => h9) rfl dX4_passNumber_38 ?_
        refine va_put (D := D) (ci := 4) (v := .int rn) (ty := .int) (C := RX4) (T := TX4) (N := 9) hx hb hts iuX4_passNumber_X4 tyX4 tyX4_ok nmX4 hown hK hP hD hS 0 rfl rfl 6 (by decide) (htw (.fieldLink RX4 24 "MergeJudge$Reader" "passed" "I") (List.mem_of_getElem? (i := 6) rfl)) (fun _ h9 => h9) rfl (by decide +kernel) rfl rfl (Nat.le_of_ble_eq_true rfl) dX4_passNumber_41 (fun H locs hP hD hS => ?_)
        have hP : va_P D vwCl [(aR, .inr (4, [.ref aT, .ref aD, .int rt, .int (nI rs), .int (nI ra), .int rn, .int rn, .int rk, .int rf])), (aT, .inr (7, [.ref tb, .int (nI nt)])), (tb, .inl (cs 0, 400, .inl ft))] H := hP
        have hD : va_D A [(aR, .inr (4, [.ref aT, .ref aD, .int rt, .int (nI rs), .int (nI ra), .int rn, .int rn, .int rk, .int rf])), (aT, .inr (7, [.ref tb, .int (nI nt)])), (tb, .inl (cs 0, 400, .inl ft))] := hD
        refine lv_aload_n hx hb dX4_passNumber_44 rfl (lv_at hl 0 rfl) ?_
        refine aft_v (wr := []) hP hD hS hA [0, 1, 2] [] rfl rfl (by decide) (by decide) (run_v (As := []) (rest := []) hFix hK hE hP hD [0, 1, 2] (k_X4_next l D cs _ aR aT aD rt rn rn rk rf tb ft rs ra nt (by first | assumption | decide | omega) (by first | assumption | decide | omega)) (cwV 0 hts gc_X4_passNumber_46_X4_next rfl rfl rfl (by decide +kernel) ⟨Nat.le_of_ble_eq_true rfl, Nat.le_of_ble_eq_true rfl⟩) rfl (by decide) rfl rfl rfl hl.1 rfl (Nat.le_of_ble_eq_true rfl) dX4_passNumber_45 ⟨Nat.le_of_ble_eq_true rfl, Nat.le_of_ble_eq_true rfl⟩) (fun u_5 H locs hq_5 hP hD hS => ?_)
        obtain ⟨rt1_5, rs1_5, ra1_5, rn1_5⟩ := u_5
        have hP : va_P D vwCl [(aR, .inr (4, [.ref aT, .ref aD, .int rt1_5, .int (nI rs1_5), .int (nI ra1_5), .int rn1_5, .int rn, .int rk, .int rf])), (aT, .inr (7, [.ref tb, .int (nI nt)])), (tb, .inl (cs 0, 400, .inl ft))] H := hP
        have hD : va_D A [(aR, .inr (4, [.ref aT, .ref aD, .int rt1_5, .int (nI rs1_5), .int (nI ra1_5), .int rn1_5, .int rn, .int rk, .int rf])), (aT, .inr (7, [.ref tb, .int (nI nt)])), (tb, .inl (cs 0, 400, .inl ft))] := hD
        replace hq_5 : (rs1_5 ≤ ra1_5) ∧ (ra1_5 ≤ nt) := hq_5
        obtain ⟨hp_5_0, hp_5_1⟩ := hq_5
        refine lv_iconst (v := 1) hx hb dX4_passNumber_48 (by decide) ?_
        exact ret_z hx hb hr hlk hS (Nat.le_of_ble_eq_true rfl) (Nat.le_of_ble_eq_true rfl) (by decide) (rt1_5, rs1_5, ra1_5, rn1_5, rn, rk, rf) (⟨(by omega), (by omega), Or.inl ⟨rfl, (ex_rng c_2 c_4 (by omega) (by omega))⟩⟩) (hP.sub [0, 1, 2] rfl) (hD.sub [0, 1, 2] (by decide) rfl) dX4_passNumber_49
      ·
        refine lv_aload_n hx hb dX4_passNumber_30 rfl (lv_at hl 0 rfl) ?_
        refine lv_iconst (v := 2) hx hb dX4_passNumber_31 (by decide) ?_
        refine aft_i (wr := [(aT, .inr (7, [.ref tb, .int (nI nt)])), (tb, .inl (cs 0, 400, .inl ft))]) hP hD hS hA [0] [1, 2] rfl rfl (by decide) (by decide) (run_v (As := [.int 2]) (rest := []) hFix hK hE hP hD [0] (k_X4_failed l D cs _ aR 2 aT aD rt rn rp rk rf rs ra) (cwV 1 hts gc_X4_passNumber_78_X4_failed rfl rfl rfl (by decide +kernel) ⟨Nat.le_of_ble_eq_true rfl, Nat.le_of_ble_eq_true rfl⟩) rfl (by decide) rfl rfl rfl hl.1 rfl (Nat.le_of_ble_eq_true rfl) dX4_passNumber_32 ⟨Nat.le_of_ble_eq_true rfl, Nat.le_of_ble_eq_true rfl⟩) (fun r_6 u_6 H locs hq_6 hP hD hS => ?_)
        obtain ⟨rk1_6, rf1_6⟩ := u_6
        have hP : va_P D vwCl [(aT, .inr (7, [.ref tb, .int (nI nt)])), (tb, .inl (cs 0, 400, .inl ft)), (aR, .inr (4, [.ref aT, .ref aD, .int rt, .int (nI rs), .int (nI ra), .int rn, .int rp, .int rk1_6, .int rf1_6]))] H := hP
        have hD : va_D A [(aT, .inr (7, [.ref tb, .int (nI nt)])), (tb, .inl (cs 0, 400, .inl ft)), (aR, .inr (4, [.ref aT, .ref aD, .int rt, .int (nI rs), .int (nI ra), .int rn, .int rp, .int rk1_6, .int rf1_6]))] := hD
        replace hq_6 : ((r_6 = 0 ∧ True)) := hq_6
        obtain ⟨rfl, hq_6⟩ := hq_6
        ·
          exact ret_z hx hb hr hlk hS (Nat.le_of_ble_eq_true rfl) (Nat.le_of_ble_eq_true rfl) (by decide) (rt, rs, ra, rn, rp, rk1_6, rf1_6) (⟨(by omega), (by omega), Or.inr (⟨rfl, trivial⟩)⟩) (hP.sub [2, 0, 1] rfl) (hD.sub [2, 0, 1] (by decide) rfl) dX4_passNumber_35
  ·
    refine lv_aload_n hx hb dX4_passNumber_8 rfl (lv_at hl 0 rfl) ?_
    refine lv_iconst (v := 1) hx hb dX4_passNumber_9 (by decide) ?_
    refine aft_i (wr := [(aT, .inr (7, [.ref tb, .int (nI nt)])), (tb, .inl (cs 0, 400, .inl ft))]) hP hD hS hA [0] [1, 2] rfl rfl (by decide) (by decide) (run_v (As := [.int 1]) (rest := []) hFix hK hE hP hD [0] (k_X4_failed l D cs _ aR 1 aT aD rt rn rp rk rf rs ra) (cwV 1 hts gc_X4_passNumber_78_X4_failed rfl rfl rfl (by decide +kernel) ⟨Nat.le_of_ble_eq_true rfl, Nat.le_of_ble_eq_true rfl⟩) rfl (by decide) rfl rfl rfl hl.1 rfl (Nat.le_of_ble_eq_true rfl) dX4_passNumber_10 ⟨Nat.le_of_ble_eq_true rfl, Nat.le_of_ble_eq_true rfl⟩) (fun r_7 u_7 H locs hq_7 hP hD hS => ?_)
    obtain ⟨rk1_7, rf1_7⟩ := u_7
    have hP : va_P D vwCl [(aT, .inr (7, [.ref tb, .int (nI nt)])), (tb, .inl (cs 0, 400, .inl ft)), (aR, .inr (4, [.ref aT, .ref aD, .int rt, .int (nI rs), .int (nI ra), .int rn, .int rp, .int rk1_7, .int rf1_7]))] H := hP
    have hD : va_D A [(aT, .inr (7, [.ref tb, .int (nI nt)])), (tb, .inl (cs 0, 400, .inl ft)), (aR, .inr (4, [.ref aT, .ref aD, .int rt, .int (nI rs), .int (nI ra), .int rn, .int rp, .int rk1_7, .int rf1_7]))] := hD
    replace hq_7 : ((r_7 = 0 ∧ True)) := hq_7
    obtain ⟨rfl, hq_7⟩ := hq_7
    ·
      exact ret_z hx hb hr hlk hS (Nat.le_of_ble_eq_true rfl) (Nat.le_of_ble_eq_true rfl) (by decide) (rt, rs, ra, rn, rp, rk1_7, rf1_7) (⟨(by omega), (by omega), Or.inr (⟨rfl, trivial⟩)⟩) (hP.sub [2, 0, 1] rfl) (hD.sub [2, 0, 1] (by decide) rfl) dX4_passNumber_13

set_option maxHeartbeats 4000000 in
set_option maxRecDepth 100000 in
theorem k_X4_readHead (l : Launch) (D : va_G) (cs : Nat → ClassId) (sz : Nat) (aK aV : Nat → Nat) (aR : Nat) (aT : Nat) (aD : Nat) (rt : Int32) (rn : Int32) (rp : Int32) (rk : Int32) (rf : Int32) (tb : Nat) (ft : Nat → Int32) (qli : Int32) (qlw : Int32) (qod : Int32) (qdr : Int32) (qlo : Int32) (qr0 : Nat) (qr1 : Nat) (qr2 : Nat) (qr3 : Nat) (qr4 : Nat) (rs : Nat) (ra : Nat) (nt : Nat) (qtp : Nat) (qnc : Nat) (qnr : Nat) (qno : Nat) (qna : Nat) (hnt : nt ≤ 400) (hqtp : qtp ≤ 3) (hqnc : qnc ≤ 3) (hqnr : qnr ≤ 5) (hqno : qno ≤ 5) (hqna : qna ≤ 20) (hra : rs ≤ ra) (hrt : ra ≤ nt) : Si l D cs aK aV yX4_readHead W_X4_readHead 6 128 0 0 [.ref aR] [(aR, .inr (4, [.ref aT, .ref aD, .int rt, .int (nI rs), .int (nI ra), .int rn, .int rp, .int rk, .int rf])), (aT, .inr (7, [.ref tb, .int (nI nt)])), (tb, .inl (cs 0, 400, .inl ft)), (aD, .inr (0, [.int qli, .int (nI qtp), .int qlw, .int qod, .int (nI qnc), .int (nI qnr), .int (nI qno), .int (nI qna), .int qdr, .int qlo, .ref qr0, .ref qr1, .ref qr2, .ref qr3, .ref qr4]))] sz (fun (r : Int32) (u : Int32 × Nat × Nat × Int32 × Int32 × Int32 × Int32 × Nat × Int32 × Int32) => (u.2.1 ≤ u.2.2.1) ∧ (u.2.2.1 ≤ nt) ∧ (u.2.2.2.2.2.2.2.1 ≤ 3) ∧ ((r = 1 ∧ True) ∨ (r = 0 ∧ True))) (fun (u : Int32 × Nat × Nat × Int32 × Int32 × Int32 × Int32 × Nat × Int32 × Int32) => [(aR, .inr (4, [.ref aT, .ref aD, .int u.1, .int (nI u.2.1), .int (nI u.2.2.1), .int u.2.2.2.1, .int u.2.2.2.2.1, .int u.2.2.2.2.2.1, .int u.2.2.2.2.2.2.1])), (aT, .inr (7, [.ref tb, .int (nI nt)])), (tb, .inl (cs 0, 400, .inl ft)), (aD, .inr (0, [.int qli, .int (nI u.2.2.2.2.2.2.2.1), .int u.2.2.2.2.2.2.2.2.1, .int u.2.2.2.2.2.2.2.2.2, .int (nI qnc), .int (nI qnr), .int (nI qno), .int (nI qna), .int qdr, .int qlo, .ref qr0, .ref qr1, .ref qr2, .ref qr3, .ref qr4]))]) := by
  refine entS (D := D) (cs := cs) (y := yX4_readHead) (ws := W_X4_readHead) (As := [.ref aR]) (W0 := [(aR, .inr (4, [.ref aT, .ref aD, .int rt, .int (nI rs), .int (nI ra), .int rn, .int rp, .int rk, .int rf])), (aT, .inr (7, [.ref tb, .int (nI nt)])), (tb, .inl (cs 0, 400, .inl ft)), (aD, .inr (0, [.int qli, .int (nI qtp), .int qlw, .int qod, .int (nI qnc), .int (nI qnr), .int (nI qno), .int (nI qna), .int qdr, .int qlo, .ref qr0, .ref qr1, .ref qr2, .ref qr3, .ref qr4]))]) (Qx := fun A => va_Qi (fun (r : Int32) (u : Int32 × Nat × Nat × Int32 × Int32 × Int32 × Int32 × Nat × Int32 × Int32) => (u.2.1 ≤ u.2.2.1) ∧ (u.2.2.1 ≤ nt) ∧ (u.2.2.2.2.2.2.2.1 ≤ 3) ∧ ((r = 1 ∧ True) ∨ (r = 0 ∧ True))) (mpost D A (fun (u : Int32 × Nat × Nat × Int32 × Int32 × Int32 × Int32 × Nat × Int32 × Int32) => [(aR, .inr (4, [.ref aT, .ref aD, .int u.1, .int (nI u.2.1), .int (nI u.2.2.1), .int u.2.2.2.1, .int u.2.2.2.2.1, .int u.2.2.2.2.2.1, .int u.2.2.2.2.2.2.1])), (aT, .inr (7, [.ref tb, .int (nI nt)])), (tb, .inl (cs 0, 400, .inl ft)), (aD, .inr (0, [.int qli, .int (nI u.2.2.2.2.2.2.2.1), .int u.2.2.2.2.2.2.2.2.1, .int u.2.2.2.2.2.2.2.2.2, .int (nI qnc), .int (nI qnr), .int (nI qno), .int (nI qna), .int qdr, .int qlo, .ref qr0, .ref qr1, .ref qr2, .ref qr3, .ref qr4]))])) A) (maxL := 1) (ret := (some .boolean)) (by decide) rfl (Nat.le_of_ble_eq_true rfl) ?_
  intro p e s m below meth c A ls hx hb hr hml hlk hown hts hin hK hE hV hP hD hA hS hl
  have hl : lv_has ls 1 [(0, .ref aR)] := hl
  generalize hHe : s.heap = H at hP
  have hS : va_S A s.heap H [] := hHe ▸ hS
  generalize hLe : ([] : List Loc) = locs at hS ⊢
  have htw : ∀ w ∈ O_X4_readHead, w.before ([.ref aR] : List Value).toArray s = true := fun w h => hts w (List.mem_cons_of_mem _ (List.mem_append_left _ h))
  have hFix := (⟨hx, hb, hml, hown, hts⟩ : CallFix p m c _ _ s _ _ _)
  refine lv_aload_n hx hb dX4_readHead_0 rfl (lv_at hl 0 rfl) ?_
  refine va_ldcS hx hb hown (hV.2.2.2 (RX4, 82, "base", 0) (List.mem_of_getElem? (i := 0) rfl)) dX4_readHead_1 ?_
  refine aft_i (wr := [(aD, .inr (0, [.int qli, .int (nI qtp), .int qlw, .int qod, .int (nI qnc), .int (nI qnr), .int (nI qno), .int (nI qna), .int qdr, .int qlo, .ref qr0, .ref qr1, .ref qr2, .ref qr3, .ref qr4]))]) hP hD hS hA [0, 1, 2] [3] rfl rfl (by decide) (by decide) (run_vS (As := [.ref (aK 0)]) (rest := []) hFix hK hE hV hP hD hS hA [0, 1, 2] (k_X4_passWord l D cs _ aK aV aR 0 aT aD rt rn rp rk rf tb ft rs ra nt (by first | assumption | decide | omega) (by first | assumption | decide | omega) (by first | assumption | decide | omega) (by first | assumption | decide | omega)) (cwV 1 hts gc_X4_readHead_84_X4_passWord rfl rfl rfl (by decide +kernel) ⟨Nat.le_of_ble_eq_true rfl, Nat.le_of_ble_eq_true rfl⟩) rfl (by decide) (rcv hK hP [0, 1, 2] rfl rfl rfl) rfl hl.1 rfl (Nat.le_of_ble_eq_true rfl) dX4_readHead_3 ⟨Nat.le_of_ble_eq_true rfl, Nat.le_of_ble_eq_true rfl⟩) (fun r_1 u_1 H locs hq_1 hP hD hS => ?_)
  obtain ⟨rt1_1, rs1_1, ra1_1, rn1_1, rk1_1, rf1_1⟩ := u_1
  have hP : va_P D vwCl [(aD, .inr (0, [.int qli, .int (nI qtp), .int qlw, .int qod, .int (nI qnc), .int (nI qnr), .int (nI qno), .int (nI qna), .int qdr, .int qlo, .ref qr0, .ref qr1, .ref qr2, .ref qr3, .ref qr4])), (aR, .inr (4, [.ref aT, .ref aD, .int rt1_1, .int (nI rs1_1), .int (nI ra1_1), .int rn1_1, .int rp, .int rk1_1, .int rf1_1])), (aT, .inr (7, [.ref tb, .int (nI nt)])), (tb, .inl (cs 0, 400, .inl ft))] H := hP
  have hD : va_D A [(aD, .inr (0, [.int qli, .int (nI qtp), .int qlw, .int qod, .int (nI qnc), .int (nI qnr), .int (nI qno), .int (nI qna), .int qdr, .int qlo, .ref qr0, .ref qr1, .ref qr2, .ref qr3, .ref qr4])), (aR, .inr (4, [.ref aT, .ref aD, .int rt1_1, .int (nI rs1_1), .int (nI ra1_1), .int rn1_1, .int rp, .int rk1_1, .int rf1_1])), (aT, .inr (7, [.ref tb, .int (nI nt)])), (tb, .inl (cs 0, 400, .inl ft))] := hD
  replace hq_1 : (rs1_1 ≤ ra1_1) ∧ (ra1_1 ≤ nt) ∧ ((r_1 = 1 ∧ True) ∨ (r_1 = 0 ∧ True)) := hq_1
  obtain ⟨hp_1_0, hp_1_1, hq_1⟩ := hq_1
  rcases hq_1 with ⟨rfl, hq_1⟩ | ⟨rfl, hq_1⟩
  ·
    refine lv_if_eq (tgt := 27) hx hb dX4_readHead_6 (by decide) (fun h9 => absurd h9 (by decide)) (fun _ => ?_)
    refine lv_aload_n hx hb dX4_readHead_9 rfl (lv_at hl 0 rfl) ?_
    refine va_ldcS hx hb hown (hV.2.2.2 (RX4, 87, "top", 1) (List.mem_of_getElem? (i := 1) rfl)) dX4_readHead_10 ?_
    refine aft_i (wr := [(aD, .inr (0, [.int qli, .int (nI qtp), .int qlw, .int qod, .int (nI qnc), .int (nI qnr), .int (nI qno), .int (nI qna), .int qdr, .int qlo, .ref qr0, .ref qr1, .ref qr2, .ref qr3, .ref qr4]))]) hP hD hS hA [1, 2, 3] [0] rfl rfl (by decide) (by decide) (run_vS (As := [.ref (aK 1)]) (rest := []) hFix hK hE hV hP hD hS hA [1, 2, 3] (k_X4_passWord l D cs _ aK aV aR 1 aT aD rt1_1 rn1_1 rp rk1_1 rf1_1 tb ft rs1_1 ra1_1 nt (by first | assumption | decide | omega) (by first | assumption | decide | omega) (by first | assumption | decide | omega) (by first | assumption | decide | omega)) (cwV 1 hts gc_X4_readHead_84_X4_passWord rfl rfl rfl (by decide +kernel) ⟨Nat.le_of_ble_eq_true rfl, Nat.le_of_ble_eq_true rfl⟩) rfl (by decide) (rcv hK hP [1, 2, 3] rfl rfl rfl) rfl hl.1 rfl (Nat.le_of_ble_eq_true rfl) dX4_readHead_12 ⟨Nat.le_of_ble_eq_true rfl, Nat.le_of_ble_eq_true rfl⟩) (fun r_2 u_2 H locs hq_2 hP hD hS => ?_)
    obtain ⟨rt1_2, rs1_2, ra1_2, rn1_2, rk1_2, rf1_2⟩ := u_2
    have hP : va_P D vwCl [(aD, .inr (0, [.int qli, .int (nI qtp), .int qlw, .int qod, .int (nI qnc), .int (nI qnr), .int (nI qno), .int (nI qna), .int qdr, .int qlo, .ref qr0, .ref qr1, .ref qr2, .ref qr3, .ref qr4])), (aR, .inr (4, [.ref aT, .ref aD, .int rt1_2, .int (nI rs1_2), .int (nI ra1_2), .int rn1_2, .int rp, .int rk1_2, .int rf1_2])), (aT, .inr (7, [.ref tb, .int (nI nt)])), (tb, .inl (cs 0, 400, .inl ft))] H := hP
    have hD : va_D A [(aD, .inr (0, [.int qli, .int (nI qtp), .int qlw, .int qod, .int (nI qnc), .int (nI qnr), .int (nI qno), .int (nI qna), .int qdr, .int qlo, .ref qr0, .ref qr1, .ref qr2, .ref qr3, .ref qr4])), (aR, .inr (4, [.ref aT, .ref aD, .int rt1_2, .int (nI rs1_2), .int (nI ra1_2), .int rn1_2, .int rp, .int rk1_2, .int rf1_2])), (aT, .inr (7, [.ref tb, .int (nI nt)])), (tb, .inl (cs 0, 400, .inl ft))] := hD
    replace hq_2 : (rs1_2 ≤ ra1_2) ∧ (ra1_2 ≤ nt) ∧ ((r_2 = 1 ∧ True) ∨ (r_2 = 0 ∧ True)) := hq_2
    obtain ⟨hp_2_0, hp_2_1, hq_2⟩ := hq_2
    rcases hq_2 with ⟨rfl, hq_2⟩ | ⟨rfl, hq_2⟩
    ·
      refine lv_if_eq (tgt := 27) hx hb dX4_readHead_15 (by decide) (fun h9 => absurd h9 (by decide)) (fun _ => ?_)
      refine lv_aload_n hx hb dX4_readHead_18 rfl (lv_at hl 0 rfl) ?_
      refine lv_iconst (v := 1) hx hb dX4_readHead_19 (by decide) ?_
      refine lv_iconst (v := 3) hx hb dX4_readHead_20 (by decide) ?_
      refine aft_i (wr := [(aD, .inr (0, [.int qli, .int (nI qtp), .int qlw, .int qod, .int (nI qnc), .int (nI qnr), .int (nI qno), .int (nI qna), .int qdr, .int qlo, .ref qr0, .ref qr1, .ref qr2, .ref qr3, .ref qr4]))]) hP hD hS hA [1, 2, 3] [0] rfl rfl (by decide) (by decide) (run_v (As := [.int 1, .int 3]) (rest := []) hFix hK hE hP hD [1, 2, 3] (k_X4_passNumber l D cs _ aR 1 3 aT aD rt1_2 rn1_2 rp rk1_2 rf1_2 tb ft rs1_2 ra1_2 nt (by first | assumption | decide | omega) (by first | assumption | decide | omega) (by first | assumption | decide | omega) (by first | assumption | decide | omega) (by first | assumption | decide | omega)) (cwV 2 hts gc_X4_readHead_89_X4_passNumber rfl rfl rfl (by decide +kernel) ⟨Nat.le_of_ble_eq_true rfl, Nat.le_of_ble_eq_true rfl⟩) rfl (by decide) rfl rfl rfl hl.1 rfl (Nat.le_of_ble_eq_true rfl) dX4_readHead_21 ⟨Nat.le_of_ble_eq_true rfl, Nat.le_of_ble_eq_true rfl⟩) (fun r_3 u_3 H locs hq_3 hP hD hS => ?_)
      obtain ⟨rt1_3, rs1_3, ra1_3, rn1_3, rp1_3, rk1_3, rf1_3⟩ := u_3
      have hP : va_P D vwCl [(aD, .inr (0, [.int qli, .int (nI qtp), .int qlw, .int qod, .int (nI qnc), .int (nI qnr), .int (nI qno), .int (nI qna), .int qdr, .int qlo, .ref qr0, .ref qr1, .ref qr2, .ref qr3, .ref qr4])), (aR, .inr (4, [.ref aT, .ref aD, .int rt1_3, .int (nI rs1_3), .int (nI ra1_3), .int rn1_3, .int rp1_3, .int rk1_3, .int rf1_3])), (aT, .inr (7, [.ref tb, .int (nI nt)])), (tb, .inl (cs 0, 400, .inl ft))] H := hP
      have hD : va_D A [(aD, .inr (0, [.int qli, .int (nI qtp), .int qlw, .int qod, .int (nI qnc), .int (nI qnr), .int (nI qno), .int (nI qna), .int qdr, .int qlo, .ref qr0, .ref qr1, .ref qr2, .ref qr3, .ref qr4])), (aR, .inr (4, [.ref aT, .ref aD, .int rt1_3, .int (nI rs1_3), .int (nI ra1_3), .int rn1_3, .int rp1_3, .int rk1_3, .int rf1_3])), (aT, .inr (7, [.ref tb, .int (nI nt)])), (tb, .inl (cs 0, 400, .inl ft))] := hD
      replace hq_3 : (rs1_3 ≤ ra1_3) ∧ (ra1_3 ≤ nt) ∧ ((r_3 = 1 ∧ ∃ j9, j9 < 3 + 1 ∧ rp1_3 = nI j9) ∨ (r_3 = 0 ∧ True)) := hq_3
      obtain ⟨hp_3_0, hp_3_1, hq_3⟩ := hq_3
      rcases hq_3 with ⟨rfl, hq_3⟩ | ⟨rfl, hq_3⟩
      ·
        obtain ⟨j_4, hj_4, rfl⟩ := hq_3
        refine lv_if_ne (tgt := 29) hx hb dX4_readHead_24 (by decide) (fun _ => ?_) (fun h9 => absurd h9 (by decide))
        refine lv_aload_n hx hb dX4_readHead_29 rfl (lv_at hl 0 rfl) ?_
        refine va_get (D := D) (ci := 4) (v := .ref aD) (C := RX4) (T := TX4) (N := 9) hx hb hts iuX4_readHead_X4 hown hK hP 1 rfl rfl 1 (by decide) (htw (.fieldLink RX4 37 "MergeJudge$Reader" "draft" "LMergeJudge$Base;") (List.mem_of_getElem? (i := 7) rfl)) (fun _ h9 => h9) rfl dX4_readHead_30 ?_
        refine lv_aload_n hx hb dX4_readHead_33 rfl (lv_at hl 0 rfl) ?_
        refine va_get (D := D) (ci := 4) (v := .int (nI j_4)) (C := RX4) (T := TX4) (N := 9) hx hb hts iuX4_readHead_X4 hown hK hP 1 rfl rfl 6 (by decide) (htw (.fieldLink RX4 24 "MergeJudge$Reader" "passed" "I") (List.mem_of_getElem? (i := 8) rfl)) (fun _ h9 => h9) rfl dX4_readHead_34 ?_
        refine va_put (D := D) (ci := 0) (v := .int (nI j_4)) (ty := .int) (C := RX0) (T := TX0) (N := 15) hx hb hts iuX4_readHead_X0 tyX0 tyX0_ok nmX0 hown hK hP hD hS 0 rfl rfl 1 (by decide) (htw (.fieldLink RX4 93 "MergeJudge$Base" "top" "I") (List.mem_of_getElem? (i := 9) rfl)) (fun _ h9 => h9) rfl (by decide +kernel) rfl rfl (Nat.le_of_ble_eq_true rfl) dX4_readHead_37 (fun H locs hP hD hS => ?_)
        have hP : va_P D vwCl [(aD, .inr (0, [.int qli, .int (nI j_4), .int qlw, .int qod, .int (nI qnc), .int (nI qnr), .int (nI qno), .int (nI qna), .int qdr, .int qlo, .ref qr0, .ref qr1, .ref qr2, .ref qr3, .ref qr4])), (aR, .inr (4, [.ref aT, .ref aD, .int rt1_3, .int (nI rs1_3), .int (nI ra1_3), .int rn1_3, .int (nI j_4), .int rk1_3, .int rf1_3])), (aT, .inr (7, [.ref tb, .int (nI nt)])), (tb, .inl (cs 0, 400, .inl ft))] H := hP
        have hD : va_D A [(aD, .inr (0, [.int qli, .int (nI j_4), .int qlw, .int qod, .int (nI qnc), .int (nI qnr), .int (nI qno), .int (nI qna), .int qdr, .int qlo, .ref qr0, .ref qr1, .ref qr2, .ref qr3, .ref qr4])), (aR, .inr (4, [.ref aT, .ref aD, .int rt1_3, .int (nI rs1_3), .int (nI ra1_3), .int rn1_3, .int (nI j_4), .int rk1_3, .int rf1_3])), (aT, .inr (7, [.ref tb, .int (nI nt)])), (tb, .inl (cs 0, 400, .inl ft))] := hD
        refine lv_aload_n hx hb dX4_readHead_40 rfl (lv_at hl 0 rfl) ?_
        refine va_ldcS hx hb hown (hV.2.2.2 (RX4, 95, "law", 2) (List.mem_of_getElem? (i := 2) rfl)) dX4_readHead_41 ?_
        refine aft_i (wr := [(aD, .inr (0, [.int qli, .int (nI j_4), .int qlw, .int qod, .int (nI qnc), .int (nI qnr), .int (nI qno), .int (nI qna), .int qdr, .int qlo, .ref qr0, .ref qr1, .ref qr2, .ref qr3, .ref qr4]))]) hP hD hS hA [1, 2, 3] [0] rfl rfl (by decide) (by decide) (run_vS (As := [.ref (aK 2)]) (rest := []) hFix hK hE hV hP hD hS hA [1, 2, 3] (k_X4_passWord l D cs _ aK aV aR 2 aT aD rt1_3 rn1_3 (nI j_4) rk1_3 rf1_3 tb ft rs1_3 ra1_3 nt (by first | assumption | decide | omega) (by first | assumption | decide | omega) (by first | assumption | decide | omega) (by first | assumption | decide | omega)) (cwV 1 hts gc_X4_readHead_84_X4_passWord rfl rfl rfl (by decide +kernel) ⟨Nat.le_of_ble_eq_true rfl, Nat.le_of_ble_eq_true rfl⟩) rfl (by decide) (rcv hK hP [1, 2, 3] rfl rfl rfl) rfl hl.1 rfl (Nat.le_of_ble_eq_true rfl) dX4_readHead_43 ⟨Nat.le_of_ble_eq_true rfl, Nat.le_of_ble_eq_true rfl⟩) (fun r_5 u_5 H locs hq_5 hP hD hS => ?_)
        obtain ⟨rt1_5, rs1_5, ra1_5, rn1_5, rk1_5, rf1_5⟩ := u_5
        have hP : va_P D vwCl [(aD, .inr (0, [.int qli, .int (nI j_4), .int qlw, .int qod, .int (nI qnc), .int (nI qnr), .int (nI qno), .int (nI qna), .int qdr, .int qlo, .ref qr0, .ref qr1, .ref qr2, .ref qr3, .ref qr4])), (aR, .inr (4, [.ref aT, .ref aD, .int rt1_5, .int (nI rs1_5), .int (nI ra1_5), .int rn1_5, .int (nI j_4), .int rk1_5, .int rf1_5])), (aT, .inr (7, [.ref tb, .int (nI nt)])), (tb, .inl (cs 0, 400, .inl ft))] H := hP
        have hD : va_D A [(aD, .inr (0, [.int qli, .int (nI j_4), .int qlw, .int qod, .int (nI qnc), .int (nI qnr), .int (nI qno), .int (nI qna), .int qdr, .int qlo, .ref qr0, .ref qr1, .ref qr2, .ref qr3, .ref qr4])), (aR, .inr (4, [.ref aT, .ref aD, .int rt1_5, .int (nI rs1_5), .int (nI ra1_5), .int rn1_5, .int (nI j_4), .int rk1_5, .int rf1_5])), (aT, .inr (7, [.ref tb, .int (nI nt)])), (tb, .inl (cs 0, 400, .inl ft))] := hD
        replace hq_5 : (rs1_5 ≤ ra1_5) ∧ (ra1_5 ≤ nt) ∧ ((r_5 = 1 ∧ True) ∨ (r_5 = 0 ∧ True)) := hq_5
        obtain ⟨hp_5_0, hp_5_1, hq_5⟩ := hq_5
        rcases hq_5 with ⟨rfl, hq_5⟩ | ⟨rfl, hq_5⟩
        ·
          refine lv_if_eq (tgt := 58) hx hb dX4_readHead_46 (by decide) (fun h9 => absurd h9 (by decide)) (fun _ => ?_)
          refine lv_aload_n hx hb dX4_readHead_49 rfl (lv_at hl 0 rfl) ?_
          refine lv_iconst (v := 0) hx hb dX4_readHead_50 (by decide) ?_
          refine lv_iconst (v := 3) hx hb dX4_readHead_51 (by decide) ?_
          refine aft_i (wr := [(aD, .inr (0, [.int qli, .int (nI j_4), .int qlw, .int qod, .int (nI qnc), .int (nI qnr), .int (nI qno), .int (nI qna), .int qdr, .int qlo, .ref qr0, .ref qr1, .ref qr2, .ref qr3, .ref qr4]))]) hP hD hS hA [1, 2, 3] [0] rfl rfl (by decide) (by decide) (run_v (As := [.int 0, .int 3]) (rest := []) hFix hK hE hP hD [1, 2, 3] (k_X4_passNumber l D cs _ aR 0 3 aT aD rt1_5 rn1_5 (nI j_4) rk1_5 rf1_5 tb ft rs1_5 ra1_5 nt (by first | assumption | decide | omega) (by first | assumption | decide | omega) (by first | assumption | decide | omega) (by first | assumption | decide | omega) (by first | assumption | decide | omega)) (cwV 2 hts gc_X4_readHead_89_X4_passNumber rfl rfl rfl (by decide +kernel) ⟨Nat.le_of_ble_eq_true rfl, Nat.le_of_ble_eq_true rfl⟩) rfl (by decide) rfl rfl rfl hl.1 rfl (Nat.le_of_ble_eq_true rfl) dX4_readHead_52 ⟨Nat.le_of_ble_eq_true rfl, Nat.le_of_ble_eq_true rfl⟩) (fun r_6 u_6 H locs hq_6 hP hD hS => ?_)
          obtain ⟨rt1_6, rs1_6, ra1_6, rn1_6, rp1_6, rk1_6, rf1_6⟩ := u_6
          have hP : va_P D vwCl [(aD, .inr (0, [.int qli, .int (nI j_4), .int qlw, .int qod, .int (nI qnc), .int (nI qnr), .int (nI qno), .int (nI qna), .int qdr, .int qlo, .ref qr0, .ref qr1, .ref qr2, .ref qr3, .ref qr4])), (aR, .inr (4, [.ref aT, .ref aD, .int rt1_6, .int (nI rs1_6), .int (nI ra1_6), .int rn1_6, .int rp1_6, .int rk1_6, .int rf1_6])), (aT, .inr (7, [.ref tb, .int (nI nt)])), (tb, .inl (cs 0, 400, .inl ft))] H := hP
          have hD : va_D A [(aD, .inr (0, [.int qli, .int (nI j_4), .int qlw, .int qod, .int (nI qnc), .int (nI qnr), .int (nI qno), .int (nI qna), .int qdr, .int qlo, .ref qr0, .ref qr1, .ref qr2, .ref qr3, .ref qr4])), (aR, .inr (4, [.ref aT, .ref aD, .int rt1_6, .int (nI rs1_6), .int (nI ra1_6), .int rn1_6, .int rp1_6, .int rk1_6, .int rf1_6])), (aT, .inr (7, [.ref tb, .int (nI nt)])), (tb, .inl (cs 0, 400, .inl ft))] := hD
          replace hq_6 : (rs1_6 ≤ ra1_6) ∧ (ra1_6 ≤ nt) ∧ ((r_6 = 1 ∧ ∃ j9, j9 < 3 + 1 ∧ rp1_6 = nI j9) ∨ (r_6 = 0 ∧ True)) := hq_6
          obtain ⟨hp_6_0, hp_6_1, hq_6⟩ := hq_6
          rcases hq_6 with ⟨rfl, hq_6⟩ | ⟨rfl, hq_6⟩
          ·
            obtain ⟨j_7, hj_7, rfl⟩ := hq_6
            refine lv_if_ne (tgt := 60) hx hb dX4_readHead_55 (by decide) (fun _ => ?_) (fun h9 => absurd h9 (by decide))
            refine lv_aload_n hx hb dX4_readHead_60 rfl (lv_at hl 0 rfl) ?_
            refine va_get (D := D) (ci := 4) (v := .ref aD) (C := RX4) (T := TX4) (N := 9) hx hb hts iuX4_readHead_X4 hown hK hP 1 rfl rfl 1 (by decide) (htw (.fieldLink RX4 37 "MergeJudge$Reader" "draft" "LMergeJudge$Base;") (List.mem_of_getElem? (i := 7) rfl)) (fun _ h9 => h9) rfl dX4_readHead_61 ?_
            refine lv_aload_n hx hb dX4_readHead_64 rfl (lv_at hl 0 rfl) ?_
            refine va_get (D := D) (ci := 4) (v := .int (nI j_7)) (C := RX4) (T := TX4) (N := 9) hx hb hts iuX4_readHead_X4 hown hK hP 1 rfl rfl 6 (by decide) (htw (.fieldLink RX4 24 "MergeJudge$Reader" "passed" "I") (List.mem_of_getElem? (i := 8) rfl)) (fun _ h9 => h9) rfl dX4_readHead_65 ?_
            refine va_put (D := D) (ci := 0) (v := .int (nI j_7)) (ty := .int) (C := RX0) (T := TX0) (N := 15) hx hb hts iuX4_readHead_X0 tyX0 tyX0_ok nmX0 hown hK hP hD hS 0 rfl rfl 2 (by decide) (htw (.fieldLink RX4 97 "MergeJudge$Base" "law" "I") (List.mem_of_getElem? (i := 10) rfl)) (fun _ h9 => h9) rfl (by decide +kernel) rfl rfl (Nat.le_of_ble_eq_true rfl) dX4_readHead_68 (fun H locs hP hD hS => ?_)
            have hP : va_P D vwCl [(aD, .inr (0, [.int qli, .int (nI j_4), .int (nI j_7), .int qod, .int (nI qnc), .int (nI qnr), .int (nI qno), .int (nI qna), .int qdr, .int qlo, .ref qr0, .ref qr1, .ref qr2, .ref qr3, .ref qr4])), (aR, .inr (4, [.ref aT, .ref aD, .int rt1_6, .int (nI rs1_6), .int (nI ra1_6), .int rn1_6, .int (nI j_7), .int rk1_6, .int rf1_6])), (aT, .inr (7, [.ref tb, .int (nI nt)])), (tb, .inl (cs 0, 400, .inl ft))] H := hP
            have hD : va_D A [(aD, .inr (0, [.int qli, .int (nI j_4), .int (nI j_7), .int qod, .int (nI qnc), .int (nI qnr), .int (nI qno), .int (nI qna), .int qdr, .int qlo, .ref qr0, .ref qr1, .ref qr2, .ref qr3, .ref qr4])), (aR, .inr (4, [.ref aT, .ref aD, .int rt1_6, .int (nI rs1_6), .int (nI ra1_6), .int rn1_6, .int (nI j_7), .int rk1_6, .int rf1_6])), (aT, .inr (7, [.ref tb, .int (nI nt)])), (tb, .inl (cs 0, 400, .inl ft))] := hD
            refine lv_aload_n hx hb dX4_readHead_71 rfl (lv_at hl 0 rfl) ?_
            refine va_ldcS hx hb hown (hV.2.2.2 (RX4, 99, "odds", 3) (List.mem_of_getElem? (i := 3) rfl)) dX4_readHead_72 ?_
            refine aft_i (wr := [(aD, .inr (0, [.int qli, .int (nI j_4), .int (nI j_7), .int qod, .int (nI qnc), .int (nI qnr), .int (nI qno), .int (nI qna), .int qdr, .int qlo, .ref qr0, .ref qr1, .ref qr2, .ref qr3, .ref qr4]))]) hP hD hS hA [1, 2, 3] [0] rfl rfl (by decide) (by decide) (run_vS (As := [.ref (aK 3)]) (rest := []) hFix hK hE hV hP hD hS hA [1, 2, 3] (k_X4_passWord l D cs _ aK aV aR 3 aT aD rt1_6 rn1_6 (nI j_7) rk1_6 rf1_6 tb ft rs1_6 ra1_6 nt (by first | assumption | decide | omega) (by first | assumption | decide | omega) (by first | assumption | decide | omega) (by first | assumption | decide | omega)) (cwV 1 hts gc_X4_readHead_84_X4_passWord rfl rfl rfl (by decide +kernel) ⟨Nat.le_of_ble_eq_true rfl, Nat.le_of_ble_eq_true rfl⟩) rfl (by decide) (rcv hK hP [1, 2, 3] rfl rfl rfl) rfl hl.1 rfl (Nat.le_of_ble_eq_true rfl) dX4_readHead_74 ⟨Nat.le_of_ble_eq_true rfl, Nat.le_of_ble_eq_true rfl⟩) (fun r_8 u_8 H locs hq_8 hP hD hS => ?_)
            obtain ⟨rt1_8, rs1_8, ra1_8, rn1_8, rk1_8, rf1_8⟩ := u_8
            have hP : va_P D vwCl [(aD, .inr (0, [.int qli, .int (nI j_4), .int (nI j_7), .int qod, .int (nI qnc), .int (nI qnr), .int (nI qno), .int (nI qna), .int qdr, .int qlo, .ref qr0, .ref qr1, .ref qr2, .ref qr3, .ref qr4])), (aR, .inr (4, [.ref aT, .ref aD, .int rt1_8, .int (nI rs1_8), .int (nI ra1_8), .int rn1_8, .int (nI j_7), .int rk1_8, .int rf1_8])), (aT, .inr (7, [.ref tb, .int (nI nt)])), (tb, .inl (cs 0, 400, .inl ft))] H := hP
            have hD : va_D A [(aD, .inr (0, [.int qli, .int (nI j_4), .int (nI j_7), .int qod, .int (nI qnc), .int (nI qnr), .int (nI qno), .int (nI qna), .int qdr, .int qlo, .ref qr0, .ref qr1, .ref qr2, .ref qr3, .ref qr4])), (aR, .inr (4, [.ref aT, .ref aD, .int rt1_8, .int (nI rs1_8), .int (nI ra1_8), .int rn1_8, .int (nI j_7), .int rk1_8, .int rf1_8])), (aT, .inr (7, [.ref tb, .int (nI nt)])), (tb, .inl (cs 0, 400, .inl ft))] := hD
            replace hq_8 : (rs1_8 ≤ ra1_8) ∧ (ra1_8 ≤ nt) ∧ ((r_8 = 1 ∧ True) ∨ (r_8 = 0 ∧ True)) := hq_8
            obtain ⟨hp_8_0, hp_8_1, hq_8⟩ := hq_8
            rcases hq_8 with ⟨rfl, hq_8⟩ | ⟨rfl, hq_8⟩
            ·
              refine lv_if_eq (tgt := 90) hx hb dX4_readHead_77 (by decide) (fun h9 => absurd h9 (by decide)) (fun _ => ?_)
              refine lv_aload_n hx hb dX4_readHead_80 rfl (lv_at hl 0 rfl) ?_
              refine lv_iconst (v := 0) hx hb dX4_readHead_81 (by decide) ?_
              refine lv_bipush (v := 10) hx hb dX4_readHead_82 (by decide) ?_
              refine aft_i (wr := [(aD, .inr (0, [.int qli, .int (nI j_4), .int (nI j_7), .int qod, .int (nI qnc), .int (nI qnr), .int (nI qno), .int (nI qna), .int qdr, .int qlo, .ref qr0, .ref qr1, .ref qr2, .ref qr3, .ref qr4]))]) hP hD hS hA [1, 2, 3] [0] rfl rfl (by decide) (by decide) (run_v (As := [.int 0, .int 10]) (rest := []) hFix hK hE hP hD [1, 2, 3] (k_X4_passNumber l D cs _ aR 0 10 aT aD rt1_8 rn1_8 (nI j_7) rk1_8 rf1_8 tb ft rs1_8 ra1_8 nt (by first | assumption | decide | omega) (by first | assumption | decide | omega) (by first | assumption | decide | omega) (by first | assumption | decide | omega) (by first | assumption | decide | omega)) (cwV 2 hts gc_X4_readHead_89_X4_passNumber rfl rfl rfl (by decide +kernel) ⟨Nat.le_of_ble_eq_true rfl, Nat.le_of_ble_eq_true rfl⟩) rfl (by decide) rfl rfl rfl hl.1 rfl (Nat.le_of_ble_eq_true rfl) dX4_readHead_84 ⟨Nat.le_of_ble_eq_true rfl, Nat.le_of_ble_eq_true rfl⟩) (fun r_9 u_9 H locs hq_9 hP hD hS => ?_)
              obtain ⟨rt1_9, rs1_9, ra1_9, rn1_9, rp1_9, rk1_9, rf1_9⟩ := u_9
              have hP : va_P D vwCl [(aD, .inr (0, [.int qli, .int (nI j_4), .int (nI j_7), .int qod, .int (nI qnc), .int (nI qnr), .int (nI qno), .int (nI qna), .int qdr, .int qlo, .ref qr0, .ref qr1, .ref qr2, .ref qr3, .ref qr4])), (aR, .inr (4, [.ref aT, .ref aD, .int rt1_9, .int (nI rs1_9), .int (nI ra1_9), .int rn1_9, .int rp1_9, .int rk1_9, .int rf1_9])), (aT, .inr (7, [.ref tb, .int (nI nt)])), (tb, .inl (cs 0, 400, .inl ft))] H := hP
              have hD : va_D A [(aD, .inr (0, [.int qli, .int (nI j_4), .int (nI j_7), .int qod, .int (nI qnc), .int (nI qnr), .int (nI qno), .int (nI qna), .int qdr, .int qlo, .ref qr0, .ref qr1, .ref qr2, .ref qr3, .ref qr4])), (aR, .inr (4, [.ref aT, .ref aD, .int rt1_9, .int (nI rs1_9), .int (nI ra1_9), .int rn1_9, .int rp1_9, .int rk1_9, .int rf1_9])), (aT, .inr (7, [.ref tb, .int (nI nt)])), (tb, .inl (cs 0, 400, .inl ft))] := hD
              replace hq_9 : (rs1_9 ≤ ra1_9) ∧ (ra1_9 ≤ nt) ∧ ((r_9 = 1 ∧ ∃ j9, j9 < 10 + 1 ∧ rp1_9 = nI j9) ∨ (r_9 = 0 ∧ True)) := hq_9
              obtain ⟨hp_9_0, hp_9_1, hq_9⟩ := hq_9
              rcases hq_9 with ⟨rfl, hq_9⟩ | ⟨rfl, hq_9⟩
              ·
                obtain ⟨j_10, hj_10, rfl⟩ := hq_9
                refine lv_if_ne (tgt := 92) hx hb dX4_readHead_87 (by decide) (fun _ => ?_) (fun h9 => absurd h9 (by decide))
                refine lv_aload_n hx hb dX4_readHead_92 rfl (lv_at hl 0 rfl) ?_
                refine va_get (D := D) (ci := 4) (v := .ref aD) (C := RX4) (T := TX4) (N := 9) hx hb hts iuX4_readHead_X4 hown hK hP 1 rfl rfl 1 (by decide) (htw (.fieldLink RX4 37 "MergeJudge$Reader" "draft" "LMergeJudge$Base;") (List.mem_of_getElem? (i := 7) rfl)) (fun _ h9 => h9) rfl dX4_readHead_93 ?_
                refine lv_aload_n hx hb dX4_readHead_96 rfl (lv_at hl 0 rfl) ?_
                refine va_get (D := D) (ci := 4) (v := .int (nI j_10)) (C := RX4) (T := TX4) (N := 9) hx hb hts iuX4_readHead_X4 hown hK hP 1 rfl rfl 6 (by decide) (htw (.fieldLink RX4 24 "MergeJudge$Reader" "passed" "I") (List.mem_of_getElem? (i := 8) rfl)) (fun _ h9 => h9) rfl dX4_readHead_97 ?_
                refine va_put (D := D) (ci := 0) (v := .int (nI j_10)) (ty := .int) (C := RX0) (T := TX0) (N := 15) hx hb hts iuX4_readHead_X0 tyX0 tyX0_ok nmX0 hown hK hP hD hS 0 rfl rfl 3 (by decide) (htw (.fieldLink RX4 101 "MergeJudge$Base" "odds" "I") (List.mem_of_getElem? (i := 11) rfl)) (fun _ h9 => h9) rfl (by decide +kernel) rfl rfl (Nat.le_of_ble_eq_true rfl) dX4_readHead_100 (fun H locs hP hD hS => ?_)
                have hP : va_P D vwCl [(aD, .inr (0, [.int qli, .int (nI j_4), .int (nI j_7), .int (nI j_10), .int (nI qnc), .int (nI qnr), .int (nI qno), .int (nI qna), .int qdr, .int qlo, .ref qr0, .ref qr1, .ref qr2, .ref qr3, .ref qr4])), (aR, .inr (4, [.ref aT, .ref aD, .int rt1_9, .int (nI rs1_9), .int (nI ra1_9), .int rn1_9, .int (nI j_10), .int rk1_9, .int rf1_9])), (aT, .inr (7, [.ref tb, .int (nI nt)])), (tb, .inl (cs 0, 400, .inl ft))] H := hP
                have hD : va_D A [(aD, .inr (0, [.int qli, .int (nI j_4), .int (nI j_7), .int (nI j_10), .int (nI qnc), .int (nI qnr), .int (nI qno), .int (nI qna), .int qdr, .int qlo, .ref qr0, .ref qr1, .ref qr2, .ref qr3, .ref qr4])), (aR, .inr (4, [.ref aT, .ref aD, .int rt1_9, .int (nI rs1_9), .int (nI ra1_9), .int rn1_9, .int (nI j_10), .int rk1_9, .int rf1_9])), (aT, .inr (7, [.ref tb, .int (nI nt)])), (tb, .inl (cs 0, 400, .inl ft))] := hD
                refine lv_iconst (v := 1) hx hb dX4_readHead_103 (by decide) ?_
                exact ret_z hx hb hr hlk hS (Nat.le_of_ble_eq_true rfl) (Nat.le_of_ble_eq_true rfl) (by decide) (rt1_9, rs1_9, ra1_9, rn1_9, nI j_10, rk1_9, rf1_9, j_4, nI j_7, nI j_10) (⟨(by omega), (by omega), (by omega), Or.inl ⟨rfl, trivial⟩⟩) (hP.sub [1, 2, 3, 0] rfl) (hD.sub [1, 2, 3, 0] (by decide) rfl) dX4_readHead_104
              ·
                refine lv_if_ne (tgt := 92) hx hb dX4_readHead_87 (by decide) (fun h9 => absurd h9 (by decide)) (fun _ => ?_)
                refine lv_iconst (v := 0) hx hb dX4_readHead_90 (by decide) ?_
                exact ret_z hx hb hr hlk hS (Nat.le_of_ble_eq_true rfl) (Nat.le_of_ble_eq_true rfl) (by decide) (rt1_9, rs1_9, ra1_9, rn1_9, rp1_9, rk1_9, rf1_9, j_4, nI j_7, qod) (⟨(by omega), (by omega), (by omega), Or.inr (⟨rfl, trivial⟩)⟩) (hP.sub [1, 2, 3, 0] rfl) (hD.sub [1, 2, 3, 0] (by decide) rfl) dX4_readHead_91
            ·
              refine lv_if_eq (tgt := 90) hx hb dX4_readHead_77 (by decide) (fun _ => ?_) (fun h9 => absurd h9 (by decide))
              refine lv_iconst (v := 0) hx hb dX4_readHead_90 (by decide) ?_
              exact ret_z hx hb hr hlk hS (Nat.le_of_ble_eq_true rfl) (Nat.le_of_ble_eq_true rfl) (by decide) (rt1_8, rs1_8, ra1_8, rn1_8, nI j_7, rk1_8, rf1_8, j_4, nI j_7, qod) (⟨(by omega), (by omega), (by omega), Or.inr (⟨rfl, trivial⟩)⟩) (hP.sub [1, 2, 3, 0] rfl) (hD.sub [1, 2, 3, 0] (by decide) rfl) dX4_readHead_91
          ·
            refine lv_if_ne (tgt := 60) hx hb dX4_readHead_55 (by decide) (fun h9 => absurd h9 (by decide)) (fun _ => ?_)
            refine lv_iconst (v := 0) hx hb dX4_readHead_58 (by decide) ?_
            exact ret_z hx hb hr hlk hS (Nat.le_of_ble_eq_true rfl) (Nat.le_of_ble_eq_true rfl) (by decide) (rt1_6, rs1_6, ra1_6, rn1_6, rp1_6, rk1_6, rf1_6, j_4, qlw, qod) (⟨(by omega), (by omega), (by omega), Or.inr (⟨rfl, trivial⟩)⟩) (hP.sub [1, 2, 3, 0] rfl) (hD.sub [1, 2, 3, 0] (by decide) rfl) dX4_readHead_59
        ·
          refine lv_if_eq (tgt := 58) hx hb dX4_readHead_46 (by decide) (fun _ => ?_) (fun h9 => absurd h9 (by decide))
          refine lv_iconst (v := 0) hx hb dX4_readHead_58 (by decide) ?_
          exact ret_z hx hb hr hlk hS (Nat.le_of_ble_eq_true rfl) (Nat.le_of_ble_eq_true rfl) (by decide) (rt1_5, rs1_5, ra1_5, rn1_5, nI j_4, rk1_5, rf1_5, j_4, qlw, qod) (⟨(by omega), (by omega), (by omega), Or.inr (⟨rfl, trivial⟩)⟩) (hP.sub [1, 2, 3, 0] rfl) (hD.sub [1, 2, 3, 0] (by decide) rfl) dX4_readHead_59
      ·
        refine lv_if_ne (tgt := 29) hx hb dX4_readHead_24 (by decide) (fun h9 => absurd h9 (by decide)) (fun _ => ?_)
        refine lv_iconst (v := 0) hx hb dX4_readHead_27 (by decide) ?_
        exact ret_z hx hb hr hlk hS (Nat.le_of_ble_eq_true rfl) (Nat.le_of_ble_eq_true rfl) (by decide) (rt1_3, rs1_3, ra1_3, rn1_3, rp1_3, rk1_3, rf1_3, qtp, qlw, qod) (⟨(by omega), (by omega), (by omega), Or.inr (⟨rfl, trivial⟩)⟩) (hP.sub [1, 2, 3, 0] rfl) (hD.sub [1, 2, 3, 0] (by decide) rfl) dX4_readHead_28
    ·
      refine lv_if_eq (tgt := 27) hx hb dX4_readHead_15 (by decide) (fun _ => ?_) (fun h9 => absurd h9 (by decide))
      refine lv_iconst (v := 0) hx hb dX4_readHead_27 (by decide) ?_
      exact ret_z hx hb hr hlk hS (Nat.le_of_ble_eq_true rfl) (Nat.le_of_ble_eq_true rfl) (by decide) (rt1_2, rs1_2, ra1_2, rn1_2, rp, rk1_2, rf1_2, qtp, qlw, qod) (⟨(by omega), (by omega), (by omega), Or.inr (⟨rfl, trivial⟩)⟩) (hP.sub [1, 2, 3, 0] rfl) (hD.sub [1, 2, 3, 0] (by decide) rfl) dX4_readHead_28
  ·
    refine lv_if_eq (tgt := 27) hx hb dX4_readHead_6 (by decide) (fun _ => ?_) (fun h9 => absurd h9 (by decide))
    refine lv_iconst (v := 0) hx hb dX4_readHead_27 (by decide) ?_
    exact ret_z hx hb hr hlk hS (Nat.le_of_ble_eq_true rfl) (Nat.le_of_ble_eq_true rfl) (by decide) (rt1_1, rs1_1, ra1_1, rn1_1, rp, rk1_1, rf1_1, qtp, qlw, qod) (⟨(by omega), (by omega), (by omega), Or.inr (⟨rfl, trivial⟩)⟩) (hP.sub [1, 2, 3, 0] rfl) (hD.sub [1, 2, 3, 0] (by decide) rfl) dX4_readHead_28

set_option maxHeartbeats 4000000 in
set_option maxRecDepth 100000 in
theorem k_X4_cellKind (l : Launch) (D : va_G) (cs : Nat → ClassId) (sz : Nat) (aK aV : Nat → Nat) (aR : Nat) (aT : Nat) (aD : Nat) (rt : Int32) (rn : Int32) (rp : Int32) (rk : Int32) (rf : Int32) (tb : Nat) (ft : Nat → Int32) (rs : Nat) (ra : Nat) (nt : Nat) (hnt : nt ≤ 400) (hra : rs ≤ ra) (hrt : ra ≤ nt) : Si l D cs aK aV yX4_cellKind W_X4_cellKind 5 107 0 0 [.ref aR] [(aR, .inr (4, [.ref aT, .ref aD, .int rt, .int (nI rs), .int (nI ra), .int rn, .int rp, .int rk, .int rf])), (aT, .inr (7, [.ref tb, .int (nI nt)])), (tb, .inl (cs 0, 400, .inl ft))] sz (fun (r : Int32) (u : Unit) => ((r = (-1) ∧ True) ∨ (r = 0 ∧ True) ∨ (r = 1 ∧ True) ∨ (r = 2 ∧ True) ∨ (r = 3 ∧ True))) (fun (u : Unit) => [(aR, .inr (4, [.ref aT, .ref aD, .int rt, .int (nI rs), .int (nI ra), .int rn, .int rp, .int rk, .int rf])), (aT, .inr (7, [.ref tb, .int (nI nt)])), (tb, .inl (cs 0, 400, .inl ft))]) := by
  refine entS (D := D) (cs := cs) (y := yX4_cellKind) (ws := W_X4_cellKind) (As := [.ref aR]) (W0 := [(aR, .inr (4, [.ref aT, .ref aD, .int rt, .int (nI rs), .int (nI ra), .int rn, .int rp, .int rk, .int rf])), (aT, .inr (7, [.ref tb, .int (nI nt)])), (tb, .inl (cs 0, 400, .inl ft))]) (Qx := fun A => va_Qi (fun (r : Int32) (u : Unit) => ((r = (-1) ∧ True) ∨ (r = 0 ∧ True) ∨ (r = 1 ∧ True) ∨ (r = 2 ∧ True) ∨ (r = 3 ∧ True))) (mpost D A (fun (u : Unit) => [(aR, .inr (4, [.ref aT, .ref aD, .int rt, .int (nI rs), .int (nI ra), .int rn, .int rp, .int rk, .int rf])), (aT, .inr (7, [.ref tb, .int (nI nt)])), (tb, .inl (cs 0, 400, .inl ft))])) A) (maxL := 1) (ret := (some .int)) (by decide) rfl (Nat.le_of_ble_eq_true rfl) ?_
  intro p e s m below meth c A ls hx hb hr hml hlk hown hts hin hK hE hV hP hD hA hS hl
  have hl : lv_has ls 1 [(0, .ref aR)] := hl
  generalize hHe : s.heap = H at hP
  have hS : va_S A s.heap H [] := hHe ▸ hS
  generalize hLe : ([] : List Loc) = locs at hS ⊢
  have htw : ∀ w ∈ O_X4_cellKind, w.before ([.ref aR] : List Value).toArray s = true := fun w h => hts w (List.mem_cons_of_mem _ (List.mem_append_left _ h))
  have hFix := (⟨hx, hb, hml, hown, hts⟩ : CallFix p m c _ _ s _ _ _)
  refine lv_aload_n hx hb dX4_cellKind_0 rfl (lv_at hl 0 rfl) ?_
  refine va_ldcS hx hb hown (hV.2.2.2 (RX4, 143, "max", 5) (List.mem_of_getElem? (i := 5) rfl)) dX4_cellKind_1 ?_
  refine aft_i (wr := []) hP hD hS hA [0, 1, 2] [] rfl rfl (by decide) (by decide) (run_vS (As := [.ref (aK 5)]) (rest := []) hFix hK hE hV hP hD hS hA [0, 1, 2] (k_X4_isWord l D cs _ aK aV aR 5 aT aD rt rn rp rk rf tb ft rs ra nt (by first | assumption | decide | omega) (by first | assumption | decide | omega) (by first | assumption | decide | omega) (by first | assumption | decide | omega)) (cwV 1 hts gc_X4_cellKind_61_X4_isWord rfl rfl rfl (by decide +kernel) ⟨Nat.le_of_ble_eq_true rfl, Nat.le_of_ble_eq_true rfl⟩) rfl (by decide) (rcv hK hP [0, 1, 2] rfl rfl rfl) rfl hl.1 rfl (Nat.le_of_ble_eq_true rfl) dX4_cellKind_3 ⟨Nat.le_of_ble_eq_true rfl, Nat.le_of_ble_eq_true rfl⟩) (fun r_1 u_1 H locs hq_1 hP hD hS => ?_)
  have hP : va_P D vwCl [(aR, .inr (4, [.ref aT, .ref aD, .int rt, .int (nI rs), .int (nI ra), .int rn, .int rp, .int rk, .int rf])), (aT, .inr (7, [.ref tb, .int (nI nt)])), (tb, .inl (cs 0, 400, .inl ft))] H := hP
  have hD : va_D A [(aR, .inr (4, [.ref aT, .ref aD, .int rt, .int (nI rs), .int (nI ra), .int rn, .int rp, .int rk, .int rf])), (aT, .inr (7, [.ref tb, .int (nI nt)])), (tb, .inl (cs 0, 400, .inl ft))] := hD
  replace hq_1 : ((r_1 = 1 ∧ True) ∨ (r_1 = 0 ∧ True)) := hq_1
  rcases hq_1 with ⟨rfl, hq_1⟩ | ⟨rfl, hq_1⟩
  ·
    refine lv_if_eq (tgt := 13) hx hb dX4_cellKind_6 (by decide) (fun h9 => absurd h9 (by decide)) (fun _ => ?_)
    refine lv_iconst (v := 0) hx hb dX4_cellKind_9 (by decide) ?_
    refine lv_goto (tgt := 53) hx hb dX4_cellKind_10 (by decide) ?_
    exact ret_i hx hb hr hlk hS (Nat.le_of_ble_eq_true rfl) (Nat.le_of_ble_eq_true rfl) () (Or.inr (Or.inl ⟨rfl, trivial⟩)) (hP.sub [0, 1, 2] rfl) (hD.sub [0, 1, 2] (by decide) rfl) dX4_cellKind_53
  ·
    refine lv_if_eq (tgt := 13) hx hb dX4_cellKind_6 (by decide) (fun _ => ?_) (fun h9 => absurd h9 (by decide))
    refine lv_aload_n hx hb dX4_cellKind_13 rfl (lv_at hl 0 rfl) ?_
    refine va_ldcS hx hb hown (hV.2.2.2 (RX4, 145, "min", 6) (List.mem_of_getElem? (i := 6) rfl)) dX4_cellKind_14 ?_
    refine aft_i (wr := []) hP hD hS hA [0, 1, 2] [] rfl rfl (by decide) (by decide) (run_vS (As := [.ref (aK 6)]) (rest := []) hFix hK hE hV hP hD hS hA [0, 1, 2] (k_X4_isWord l D cs _ aK aV aR 6 aT aD rt rn rp rk rf tb ft rs ra nt (by first | assumption | decide | omega) (by first | assumption | decide | omega) (by first | assumption | decide | omega) (by first | assumption | decide | omega)) (cwV 1 hts gc_X4_cellKind_61_X4_isWord rfl rfl rfl (by decide +kernel) ⟨Nat.le_of_ble_eq_true rfl, Nat.le_of_ble_eq_true rfl⟩) rfl (by decide) (rcv hK hP [0, 1, 2] rfl rfl rfl) rfl hl.1 rfl (Nat.le_of_ble_eq_true rfl) dX4_cellKind_16 ⟨Nat.le_of_ble_eq_true rfl, Nat.le_of_ble_eq_true rfl⟩) (fun r_2 u_2 H locs hq_2 hP hD hS => ?_)
    have hP : va_P D vwCl [(aR, .inr (4, [.ref aT, .ref aD, .int rt, .int (nI rs), .int (nI ra), .int rn, .int rp, .int rk, .int rf])), (aT, .inr (7, [.ref tb, .int (nI nt)])), (tb, .inl (cs 0, 400, .inl ft))] H := hP
    have hD : va_D A [(aR, .inr (4, [.ref aT, .ref aD, .int rt, .int (nI rs), .int (nI ra), .int rn, .int rp, .int rk, .int rf])), (aT, .inr (7, [.ref tb, .int (nI nt)])), (tb, .inl (cs 0, 400, .inl ft))] := hD
    replace hq_2 : ((r_2 = 1 ∧ True) ∨ (r_2 = 0 ∧ True)) := hq_2
    rcases hq_2 with ⟨rfl, hq_2⟩ | ⟨rfl, hq_2⟩
    ·
      refine lv_if_eq (tgt := 26) hx hb dX4_cellKind_19 (by decide) (fun h9 => absurd h9 (by decide)) (fun _ => ?_)
      refine lv_iconst (v := 1) hx hb dX4_cellKind_22 (by decide) ?_
      refine lv_goto (tgt := 53) hx hb dX4_cellKind_23 (by decide) ?_
      exact ret_i hx hb hr hlk hS (Nat.le_of_ble_eq_true rfl) (Nat.le_of_ble_eq_true rfl) () (Or.inr (Or.inr (Or.inl ⟨rfl, trivial⟩))) (hP.sub [0, 1, 2] rfl) (hD.sub [0, 1, 2] (by decide) rfl) dX4_cellKind_53
    ·
      refine lv_if_eq (tgt := 26) hx hb dX4_cellKind_19 (by decide) (fun _ => ?_) (fun h9 => absurd h9 (by decide))
      refine lv_aload_n hx hb dX4_cellKind_26 rfl (lv_at hl 0 rfl) ?_
      refine va_ldcS hx hb hown (hV.2.2.2 (RX4, 147, "add", 7) (List.mem_of_getElem? (i := 7) rfl)) dX4_cellKind_27 ?_
      refine aft_i (wr := []) hP hD hS hA [0, 1, 2] [] rfl rfl (by decide) (by decide) (run_vS (As := [.ref (aK 7)]) (rest := []) hFix hK hE hV hP hD hS hA [0, 1, 2] (k_X4_isWord l D cs _ aK aV aR 7 aT aD rt rn rp rk rf tb ft rs ra nt (by first | assumption | decide | omega) (by first | assumption | decide | omega) (by first | assumption | decide | omega) (by first | assumption | decide | omega)) (cwV 1 hts gc_X4_cellKind_61_X4_isWord rfl rfl rfl (by decide +kernel) ⟨Nat.le_of_ble_eq_true rfl, Nat.le_of_ble_eq_true rfl⟩) rfl (by decide) (rcv hK hP [0, 1, 2] rfl rfl rfl) rfl hl.1 rfl (Nat.le_of_ble_eq_true rfl) dX4_cellKind_29 ⟨Nat.le_of_ble_eq_true rfl, Nat.le_of_ble_eq_true rfl⟩) (fun r_3 u_3 H locs hq_3 hP hD hS => ?_)
      have hP : va_P D vwCl [(aR, .inr (4, [.ref aT, .ref aD, .int rt, .int (nI rs), .int (nI ra), .int rn, .int rp, .int rk, .int rf])), (aT, .inr (7, [.ref tb, .int (nI nt)])), (tb, .inl (cs 0, 400, .inl ft))] H := hP
      have hD : va_D A [(aR, .inr (4, [.ref aT, .ref aD, .int rt, .int (nI rs), .int (nI ra), .int rn, .int rp, .int rk, .int rf])), (aT, .inr (7, [.ref tb, .int (nI nt)])), (tb, .inl (cs 0, 400, .inl ft))] := hD
      replace hq_3 : ((r_3 = 1 ∧ True) ∨ (r_3 = 0 ∧ True)) := hq_3
      rcases hq_3 with ⟨rfl, hq_3⟩ | ⟨rfl, hq_3⟩
      ·
        refine lv_if_eq (tgt := 39) hx hb dX4_cellKind_32 (by decide) (fun h9 => absurd h9 (by decide)) (fun _ => ?_)
        refine lv_iconst (v := 2) hx hb dX4_cellKind_35 (by decide) ?_
        refine lv_goto (tgt := 53) hx hb dX4_cellKind_36 (by decide) ?_
        exact ret_i hx hb hr hlk hS (Nat.le_of_ble_eq_true rfl) (Nat.le_of_ble_eq_true rfl) () (Or.inr (Or.inr (Or.inr (Or.inl ⟨rfl, trivial⟩)))) (hP.sub [0, 1, 2] rfl) (hD.sub [0, 1, 2] (by decide) rfl) dX4_cellKind_53
      ·
        refine lv_if_eq (tgt := 39) hx hb dX4_cellKind_32 (by decide) (fun _ => ?_) (fun h9 => absurd h9 (by decide))
        refine lv_aload_n hx hb dX4_cellKind_39 rfl (lv_at hl 0 rfl) ?_
        refine va_ldcS hx hb hown (hV.2.2.2 (RX4, 149, "late", 8) (List.mem_of_getElem? (i := 8) rfl)) dX4_cellKind_40 ?_
        refine aft_i (wr := []) hP hD hS hA [0, 1, 2] [] rfl rfl (by decide) (by decide) (run_vS (As := [.ref (aK 8)]) (rest := []) hFix hK hE hV hP hD hS hA [0, 1, 2] (k_X4_isWord l D cs _ aK aV aR 8 aT aD rt rn rp rk rf tb ft rs ra nt (by first | assumption | decide | omega) (by first | assumption | decide | omega) (by first | assumption | decide | omega) (by first | assumption | decide | omega)) (cwV 1 hts gc_X4_cellKind_61_X4_isWord rfl rfl rfl (by decide +kernel) ⟨Nat.le_of_ble_eq_true rfl, Nat.le_of_ble_eq_true rfl⟩) rfl (by decide) (rcv hK hP [0, 1, 2] rfl rfl rfl) rfl hl.1 rfl (Nat.le_of_ble_eq_true rfl) dX4_cellKind_42 ⟨Nat.le_of_ble_eq_true rfl, Nat.le_of_ble_eq_true rfl⟩) (fun r_4 u_4 H locs hq_4 hP hD hS => ?_)
        have hP : va_P D vwCl [(aR, .inr (4, [.ref aT, .ref aD, .int rt, .int (nI rs), .int (nI ra), .int rn, .int rp, .int rk, .int rf])), (aT, .inr (7, [.ref tb, .int (nI nt)])), (tb, .inl (cs 0, 400, .inl ft))] H := hP
        have hD : va_D A [(aR, .inr (4, [.ref aT, .ref aD, .int rt, .int (nI rs), .int (nI ra), .int rn, .int rp, .int rk, .int rf])), (aT, .inr (7, [.ref tb, .int (nI nt)])), (tb, .inl (cs 0, 400, .inl ft))] := hD
        replace hq_4 : ((r_4 = 1 ∧ True) ∨ (r_4 = 0 ∧ True)) := hq_4
        rcases hq_4 with ⟨rfl, hq_4⟩ | ⟨rfl, hq_4⟩
        ·
          refine lv_if_eq (tgt := 52) hx hb dX4_cellKind_45 (by decide) (fun h9 => absurd h9 (by decide)) (fun _ => ?_)
          refine lv_iconst (v := 3) hx hb dX4_cellKind_48 (by decide) ?_
          refine lv_goto (tgt := 53) hx hb dX4_cellKind_49 (by decide) ?_
          exact ret_i hx hb hr hlk hS (Nat.le_of_ble_eq_true rfl) (Nat.le_of_ble_eq_true rfl) () (Or.inr (Or.inr (Or.inr (Or.inr (⟨rfl, trivial⟩))))) (hP.sub [0, 1, 2] rfl) (hD.sub [0, 1, 2] (by decide) rfl) dX4_cellKind_53
        ·
          refine lv_if_eq (tgt := 52) hx hb dX4_cellKind_45 (by decide) (fun _ => ?_) (fun h9 => absurd h9 (by decide))
          refine lv_iconst (v := (-1)) hx hb dX4_cellKind_52 (by decide) ?_
          exact ret_i hx hb hr hlk hS (Nat.le_of_ble_eq_true rfl) (Nat.le_of_ble_eq_true rfl) () (Or.inl ⟨rfl, trivial⟩) (hP.sub [0, 1, 2] rfl) (hD.sub [0, 1, 2] (by decide) rfl) dX4_cellKind_53

set_option maxHeartbeats 4000000 in
set_option maxRecDepth 100000 in
theorem k_X4_ruleKind (l : Launch) (D : va_G) (cs : Nat → ClassId) (sz : Nat) (aK aV : Nat → Nat) (aR : Nat) (aT : Nat) (aD : Nat) (rt : Int32) (rn : Int32) (rp : Int32) (rk : Int32) (rf : Int32) (tb : Nat) (ft : Nat → Int32) (rs : Nat) (ra : Nat) (nt : Nat) (hnt : nt ≤ 400) (hra : rs ≤ ra) (hrt : ra ≤ nt) : Si l D cs aK aV yX4_ruleKind W_X4_ruleKind 5 107 0 0 [.ref aR] [(aR, .inr (4, [.ref aT, .ref aD, .int rt, .int (nI rs), .int (nI ra), .int rn, .int rp, .int rk, .int rf])), (aT, .inr (7, [.ref tb, .int (nI nt)])), (tb, .inl (cs 0, 400, .inl ft))] sz (fun (r : Int32) (u : Unit) => ((r = (-1) ∧ True) ∨ (r = 0 ∧ True) ∨ (r = 1 ∧ True) ∨ (r = 2 ∧ True) ∨ (r = 3 ∧ True) ∨ (r = 4 ∧ True) ∨ (r = 5 ∧ True))) (fun (u : Unit) => [(aR, .inr (4, [.ref aT, .ref aD, .int rt, .int (nI rs), .int (nI ra), .int rn, .int rp, .int rk, .int rf])), (aT, .inr (7, [.ref tb, .int (nI nt)])), (tb, .inl (cs 0, 400, .inl ft))]) := by
  refine entS (D := D) (cs := cs) (y := yX4_ruleKind) (ws := W_X4_ruleKind) (As := [.ref aR]) (W0 := [(aR, .inr (4, [.ref aT, .ref aD, .int rt, .int (nI rs), .int (nI ra), .int rn, .int rp, .int rk, .int rf])), (aT, .inr (7, [.ref tb, .int (nI nt)])), (tb, .inl (cs 0, 400, .inl ft))]) (Qx := fun A => va_Qi (fun (r : Int32) (u : Unit) => ((r = (-1) ∧ True) ∨ (r = 0 ∧ True) ∨ (r = 1 ∧ True) ∨ (r = 2 ∧ True) ∨ (r = 3 ∧ True) ∨ (r = 4 ∧ True) ∨ (r = 5 ∧ True))) (mpost D A (fun (u : Unit) => [(aR, .inr (4, [.ref aT, .ref aD, .int rt, .int (nI rs), .int (nI ra), .int rn, .int rp, .int rk, .int rf])), (aT, .inr (7, [.ref tb, .int (nI nt)])), (tb, .inl (cs 0, 400, .inl ft))])) A) (maxL := 1) (ret := (some .int)) (by decide) rfl (Nat.le_of_ble_eq_true rfl) ?_
  intro p e s m below meth c A ls hx hb hr hml hlk hown hts hin hK hE hV hP hD hA hS hl
  have hl : lv_has ls 1 [(0, .ref aR)] := hl
  generalize hHe : s.heap = H at hP
  have hS : va_S A s.heap H [] := hHe ▸ hS
  generalize hLe : ([] : List Loc) = locs at hS ⊢
  have htw : ∀ w ∈ O_X4_ruleKind, w.before ([.ref aR] : List Value).toArray s = true := fun w h => hts w (List.mem_cons_of_mem _ (List.mem_append_left _ h))
  have hFix := (⟨hx, hb, hml, hown, hts⟩ : CallFix p m c _ _ s _ _ _)
  refine lv_aload_n hx hb dX4_ruleKind_0 rfl (lv_at hl 0 rfl) ?_
  refine va_ldcS hx hb hown (hV.2.2.2 (RX4, 151, "most", 10) (List.mem_of_getElem? (i := 10) rfl)) dX4_ruleKind_1 ?_
  refine aft_i (wr := []) hP hD hS hA [0, 1, 2] [] rfl rfl (by decide) (by decide) (run_vS (As := [.ref (aK 10)]) (rest := []) hFix hK hE hV hP hD hS hA [0, 1, 2] (k_X4_isWord l D cs _ aK aV aR 10 aT aD rt rn rp rk rf tb ft rs ra nt (by first | assumption | decide | omega) (by first | assumption | decide | omega) (by first | assumption | decide | omega) (by first | assumption | decide | omega)) (cwV 1 hts gc_X4_ruleKind_61_X4_isWord rfl rfl rfl (by decide +kernel) ⟨Nat.le_of_ble_eq_true rfl, Nat.le_of_ble_eq_true rfl⟩) rfl (by decide) (rcv hK hP [0, 1, 2] rfl rfl rfl) rfl hl.1 rfl (Nat.le_of_ble_eq_true rfl) dX4_ruleKind_3 ⟨Nat.le_of_ble_eq_true rfl, Nat.le_of_ble_eq_true rfl⟩) (fun r_1 u_1 H locs hq_1 hP hD hS => ?_)
  have hP : va_P D vwCl [(aR, .inr (4, [.ref aT, .ref aD, .int rt, .int (nI rs), .int (nI ra), .int rn, .int rp, .int rk, .int rf])), (aT, .inr (7, [.ref tb, .int (nI nt)])), (tb, .inl (cs 0, 400, .inl ft))] H := hP
  have hD : va_D A [(aR, .inr (4, [.ref aT, .ref aD, .int rt, .int (nI rs), .int (nI ra), .int rn, .int rp, .int rk, .int rf])), (aT, .inr (7, [.ref tb, .int (nI nt)])), (tb, .inl (cs 0, 400, .inl ft))] := hD
  replace hq_1 : ((r_1 = 1 ∧ True) ∨ (r_1 = 0 ∧ True)) := hq_1
  rcases hq_1 with ⟨rfl, hq_1⟩ | ⟨rfl, hq_1⟩
  ·
    refine lv_if_eq (tgt := 11) hx hb dX4_ruleKind_6 (by decide) (fun h9 => absurd h9 (by decide)) (fun _ => ?_)
    refine lv_iconst (v := 0) hx hb dX4_ruleKind_9 (by decide) ?_
    exact ret_i hx hb hr hlk hS (Nat.le_of_ble_eq_true rfl) (Nat.le_of_ble_eq_true rfl) () (Or.inr (Or.inl ⟨rfl, trivial⟩)) (hP.sub [0, 1, 2] rfl) (hD.sub [0, 1, 2] (by decide) rfl) dX4_ruleKind_10
  ·
    refine lv_if_eq (tgt := 11) hx hb dX4_ruleKind_6 (by decide) (fun _ => ?_) (fun h9 => absurd h9 (by decide))
    refine lv_aload_n hx hb dX4_ruleKind_11 rfl (lv_at hl 0 rfl) ?_
    refine va_ldcS hx hb hown (hV.2.2.2 (RX4, 153, "least", 11) (List.mem_of_getElem? (i := 11) rfl)) dX4_ruleKind_12 ?_
    refine aft_i (wr := []) hP hD hS hA [0, 1, 2] [] rfl rfl (by decide) (by decide) (run_vS (As := [.ref (aK 11)]) (rest := []) hFix hK hE hV hP hD hS hA [0, 1, 2] (k_X4_isWord l D cs _ aK aV aR 11 aT aD rt rn rp rk rf tb ft rs ra nt (by first | assumption | decide | omega) (by first | assumption | decide | omega) (by first | assumption | decide | omega) (by first | assumption | decide | omega)) (cwV 1 hts gc_X4_ruleKind_61_X4_isWord rfl rfl rfl (by decide +kernel) ⟨Nat.le_of_ble_eq_true rfl, Nat.le_of_ble_eq_true rfl⟩) rfl (by decide) (rcv hK hP [0, 1, 2] rfl rfl rfl) rfl hl.1 rfl (Nat.le_of_ble_eq_true rfl) dX4_ruleKind_14 ⟨Nat.le_of_ble_eq_true rfl, Nat.le_of_ble_eq_true rfl⟩) (fun r_2 u_2 H locs hq_2 hP hD hS => ?_)
    have hP : va_P D vwCl [(aR, .inr (4, [.ref aT, .ref aD, .int rt, .int (nI rs), .int (nI ra), .int rn, .int rp, .int rk, .int rf])), (aT, .inr (7, [.ref tb, .int (nI nt)])), (tb, .inl (cs 0, 400, .inl ft))] H := hP
    have hD : va_D A [(aR, .inr (4, [.ref aT, .ref aD, .int rt, .int (nI rs), .int (nI ra), .int rn, .int rp, .int rk, .int rf])), (aT, .inr (7, [.ref tb, .int (nI nt)])), (tb, .inl (cs 0, 400, .inl ft))] := hD
    replace hq_2 : ((r_2 = 1 ∧ True) ∨ (r_2 = 0 ∧ True)) := hq_2
    rcases hq_2 with ⟨rfl, hq_2⟩ | ⟨rfl, hq_2⟩
    ·
      refine lv_if_eq (tgt := 22) hx hb dX4_ruleKind_17 (by decide) (fun h9 => absurd h9 (by decide)) (fun _ => ?_)
      refine lv_iconst (v := 1) hx hb dX4_ruleKind_20 (by decide) ?_
      exact ret_i hx hb hr hlk hS (Nat.le_of_ble_eq_true rfl) (Nat.le_of_ble_eq_true rfl) () (Or.inr (Or.inr (Or.inl ⟨rfl, trivial⟩))) (hP.sub [0, 1, 2] rfl) (hD.sub [0, 1, 2] (by decide) rfl) dX4_ruleKind_21
    ·
      refine lv_if_eq (tgt := 22) hx hb dX4_ruleKind_17 (by decide) (fun _ => ?_) (fun h9 => absurd h9 (by decide))
      refine lv_aload_n hx hb dX4_ruleKind_22 rfl (lv_at hl 0 rfl) ?_
      refine va_ldcS hx hb hown (hV.2.2.2 (RX4, 155, "unlike", 12) (List.mem_of_getElem? (i := 12) rfl)) dX4_ruleKind_23 ?_
      refine aft_i (wr := []) hP hD hS hA [0, 1, 2] [] rfl rfl (by decide) (by decide) (run_vS (As := [.ref (aK 12)]) (rest := []) hFix hK hE hV hP hD hS hA [0, 1, 2] (k_X4_isWord l D cs _ aK aV aR 12 aT aD rt rn rp rk rf tb ft rs ra nt (by first | assumption | decide | omega) (by first | assumption | decide | omega) (by first | assumption | decide | omega) (by first | assumption | decide | omega)) (cwV 1 hts gc_X4_ruleKind_61_X4_isWord rfl rfl rfl (by decide +kernel) ⟨Nat.le_of_ble_eq_true rfl, Nat.le_of_ble_eq_true rfl⟩) rfl (by decide) (rcv hK hP [0, 1, 2] rfl rfl rfl) rfl hl.1 rfl (Nat.le_of_ble_eq_true rfl) dX4_ruleKind_25 ⟨Nat.le_of_ble_eq_true rfl, Nat.le_of_ble_eq_true rfl⟩) (fun r_3 u_3 H locs hq_3 hP hD hS => ?_)
      have hP : va_P D vwCl [(aR, .inr (4, [.ref aT, .ref aD, .int rt, .int (nI rs), .int (nI ra), .int rn, .int rp, .int rk, .int rf])), (aT, .inr (7, [.ref tb, .int (nI nt)])), (tb, .inl (cs 0, 400, .inl ft))] H := hP
      have hD : va_D A [(aR, .inr (4, [.ref aT, .ref aD, .int rt, .int (nI rs), .int (nI ra), .int rn, .int rp, .int rk, .int rf])), (aT, .inr (7, [.ref tb, .int (nI nt)])), (tb, .inl (cs 0, 400, .inl ft))] := hD
      replace hq_3 : ((r_3 = 1 ∧ True) ∨ (r_3 = 0 ∧ True)) := hq_3
      rcases hq_3 with ⟨rfl, hq_3⟩ | ⟨rfl, hq_3⟩
      ·
        refine lv_if_eq (tgt := 33) hx hb dX4_ruleKind_28 (by decide) (fun h9 => absurd h9 (by decide)) (fun _ => ?_)
        refine lv_iconst (v := 2) hx hb dX4_ruleKind_31 (by decide) ?_
        exact ret_i hx hb hr hlk hS (Nat.le_of_ble_eq_true rfl) (Nat.le_of_ble_eq_true rfl) () (Or.inr (Or.inr (Or.inr (Or.inl ⟨rfl, trivial⟩)))) (hP.sub [0, 1, 2] rfl) (hD.sub [0, 1, 2] (by decide) rfl) dX4_ruleKind_32
      ·
        refine lv_if_eq (tgt := 33) hx hb dX4_ruleKind_28 (by decide) (fun _ => ?_) (fun h9 => absurd h9 (by decide))
        refine lv_aload_n hx hb dX4_ruleKind_33 rfl (lv_at hl 0 rfl) ?_
        refine va_ldcS hx hb hown (hV.2.2.2 (RX4, 157, "sum", 13) (List.mem_of_getElem? (i := 13) rfl)) dX4_ruleKind_34 ?_
        refine aft_i (wr := []) hP hD hS hA [0, 1, 2] [] rfl rfl (by decide) (by decide) (run_vS (As := [.ref (aK 13)]) (rest := []) hFix hK hE hV hP hD hS hA [0, 1, 2] (k_X4_isWord l D cs _ aK aV aR 13 aT aD rt rn rp rk rf tb ft rs ra nt (by first | assumption | decide | omega) (by first | assumption | decide | omega) (by first | assumption | decide | omega) (by first | assumption | decide | omega)) (cwV 1 hts gc_X4_ruleKind_61_X4_isWord rfl rfl rfl (by decide +kernel) ⟨Nat.le_of_ble_eq_true rfl, Nat.le_of_ble_eq_true rfl⟩) rfl (by decide) (rcv hK hP [0, 1, 2] rfl rfl rfl) rfl hl.1 rfl (Nat.le_of_ble_eq_true rfl) dX4_ruleKind_36 ⟨Nat.le_of_ble_eq_true rfl, Nat.le_of_ble_eq_true rfl⟩) (fun r_4 u_4 H locs hq_4 hP hD hS => ?_)
        have hP : va_P D vwCl [(aR, .inr (4, [.ref aT, .ref aD, .int rt, .int (nI rs), .int (nI ra), .int rn, .int rp, .int rk, .int rf])), (aT, .inr (7, [.ref tb, .int (nI nt)])), (tb, .inl (cs 0, 400, .inl ft))] H := hP
        have hD : va_D A [(aR, .inr (4, [.ref aT, .ref aD, .int rt, .int (nI rs), .int (nI ra), .int rn, .int rp, .int rk, .int rf])), (aT, .inr (7, [.ref tb, .int (nI nt)])), (tb, .inl (cs 0, 400, .inl ft))] := hD
        replace hq_4 : ((r_4 = 1 ∧ True) ∨ (r_4 = 0 ∧ True)) := hq_4
        rcases hq_4 with ⟨rfl, hq_4⟩ | ⟨rfl, hq_4⟩
        ·
          refine lv_if_eq (tgt := 44) hx hb dX4_ruleKind_39 (by decide) (fun h9 => absurd h9 (by decide)) (fun _ => ?_)
          refine lv_iconst (v := 3) hx hb dX4_ruleKind_42 (by decide) ?_
          exact ret_i hx hb hr hlk hS (Nat.le_of_ble_eq_true rfl) (Nat.le_of_ble_eq_true rfl) () (Or.inr (Or.inr (Or.inr (Or.inr (Or.inl ⟨rfl, trivial⟩))))) (hP.sub [0, 1, 2] rfl) (hD.sub [0, 1, 2] (by decide) rfl) dX4_ruleKind_43
        ·
          refine lv_if_eq (tgt := 44) hx hb dX4_ruleKind_39 (by decide) (fun _ => ?_) (fun h9 => absurd h9 (by decide))
          refine lv_aload_n hx hb dX4_ruleKind_44 rfl (lv_at hl 0 rfl) ?_
          refine va_ldcS hx hb hown (hV.2.2.2 (RX4, 159, "order", 14) (List.mem_of_getElem? (i := 14) rfl)) dX4_ruleKind_45 ?_
          refine aft_i (wr := []) hP hD hS hA [0, 1, 2] [] rfl rfl (by decide) (by decide) (run_vS (As := [.ref (aK 14)]) (rest := []) hFix hK hE hV hP hD hS hA [0, 1, 2] (k_X4_isWord l D cs _ aK aV aR 14 aT aD rt rn rp rk rf tb ft rs ra nt (by first | assumption | decide | omega) (by first | assumption | decide | omega) (by first | assumption | decide | omega) (by first | assumption | decide | omega)) (cwV 1 hts gc_X4_ruleKind_61_X4_isWord rfl rfl rfl (by decide +kernel) ⟨Nat.le_of_ble_eq_true rfl, Nat.le_of_ble_eq_true rfl⟩) rfl (by decide) (rcv hK hP [0, 1, 2] rfl rfl rfl) rfl hl.1 rfl (Nat.le_of_ble_eq_true rfl) dX4_ruleKind_47 ⟨Nat.le_of_ble_eq_true rfl, Nat.le_of_ble_eq_true rfl⟩) (fun r_5 u_5 H locs hq_5 hP hD hS => ?_)
          have hP : va_P D vwCl [(aR, .inr (4, [.ref aT, .ref aD, .int rt, .int (nI rs), .int (nI ra), .int rn, .int rp, .int rk, .int rf])), (aT, .inr (7, [.ref tb, .int (nI nt)])), (tb, .inl (cs 0, 400, .inl ft))] H := hP
          have hD : va_D A [(aR, .inr (4, [.ref aT, .ref aD, .int rt, .int (nI rs), .int (nI ra), .int rn, .int rp, .int rk, .int rf])), (aT, .inr (7, [.ref tb, .int (nI nt)])), (tb, .inl (cs 0, 400, .inl ft))] := hD
          replace hq_5 : ((r_5 = 1 ∧ True) ∨ (r_5 = 0 ∧ True)) := hq_5
          rcases hq_5 with ⟨rfl, hq_5⟩ | ⟨rfl, hq_5⟩
          ·
            refine lv_if_eq (tgt := 55) hx hb dX4_ruleKind_50 (by decide) (fun h9 => absurd h9 (by decide)) (fun _ => ?_)
            refine lv_iconst (v := 4) hx hb dX4_ruleKind_53 (by decide) ?_
            exact ret_i hx hb hr hlk hS (Nat.le_of_ble_eq_true rfl) (Nat.le_of_ble_eq_true rfl) () (Or.inr (Or.inr (Or.inr (Or.inr (Or.inr (Or.inl ⟨rfl, trivial⟩)))))) (hP.sub [0, 1, 2] rfl) (hD.sub [0, 1, 2] (by decide) rfl) dX4_ruleKind_54
          ·
            refine lv_if_eq (tgt := 55) hx hb dX4_ruleKind_50 (by decide) (fun _ => ?_) (fun h9 => absurd h9 (by decide))
            refine lv_aload_n hx hb dX4_ruleKind_55 rfl (lv_at hl 0 rfl) ?_
            refine va_ldcS hx hb hown (hV.2.2.2 (RX4, 161, "if", 15) (List.mem_of_getElem? (i := 15) rfl)) dX4_ruleKind_56 ?_
            refine aft_i (wr := []) hP hD hS hA [0, 1, 2] [] rfl rfl (by decide) (by decide) (run_vS (As := [.ref (aK 15)]) (rest := []) hFix hK hE hV hP hD hS hA [0, 1, 2] (k_X4_isWord l D cs _ aK aV aR 15 aT aD rt rn rp rk rf tb ft rs ra nt (by first | assumption | decide | omega) (by first | assumption | decide | omega) (by first | assumption | decide | omega) (by first | assumption | decide | omega)) (cwV 1 hts gc_X4_ruleKind_61_X4_isWord rfl rfl rfl (by decide +kernel) ⟨Nat.le_of_ble_eq_true rfl, Nat.le_of_ble_eq_true rfl⟩) rfl (by decide) (rcv hK hP [0, 1, 2] rfl rfl rfl) rfl hl.1 rfl (Nat.le_of_ble_eq_true rfl) dX4_ruleKind_58 ⟨Nat.le_of_ble_eq_true rfl, Nat.le_of_ble_eq_true rfl⟩) (fun r_6 u_6 H locs hq_6 hP hD hS => ?_)
            have hP : va_P D vwCl [(aR, .inr (4, [.ref aT, .ref aD, .int rt, .int (nI rs), .int (nI ra), .int rn, .int rp, .int rk, .int rf])), (aT, .inr (7, [.ref tb, .int (nI nt)])), (tb, .inl (cs 0, 400, .inl ft))] H := hP
            have hD : va_D A [(aR, .inr (4, [.ref aT, .ref aD, .int rt, .int (nI rs), .int (nI ra), .int rn, .int rp, .int rk, .int rf])), (aT, .inr (7, [.ref tb, .int (nI nt)])), (tb, .inl (cs 0, 400, .inl ft))] := hD
            replace hq_6 : ((r_6 = 1 ∧ True) ∨ (r_6 = 0 ∧ True)) := hq_6
            rcases hq_6 with ⟨rfl, hq_6⟩ | ⟨rfl, hq_6⟩
            ·
              refine lv_if_eq (tgt := 68) hx hb dX4_ruleKind_61 (by decide) (fun h9 => absurd h9 (by decide)) (fun _ => ?_)
              refine lv_iconst (v := 5) hx hb dX4_ruleKind_64 (by decide) ?_
              refine lv_goto (tgt := 69) hx hb dX4_ruleKind_65 (by decide) ?_
              exact ret_i hx hb hr hlk hS (Nat.le_of_ble_eq_true rfl) (Nat.le_of_ble_eq_true rfl) () (Or.inr (Or.inr (Or.inr (Or.inr (Or.inr (Or.inr (⟨rfl, trivial⟩))))))) (hP.sub [0, 1, 2] rfl) (hD.sub [0, 1, 2] (by decide) rfl) dX4_ruleKind_69
            ·
              refine lv_if_eq (tgt := 68) hx hb dX4_ruleKind_61 (by decide) (fun _ => ?_) (fun h9 => absurd h9 (by decide))
              refine lv_iconst (v := (-1)) hx hb dX4_ruleKind_68 (by decide) ?_
              exact ret_i hx hb hr hlk hS (Nat.le_of_ble_eq_true rfl) (Nat.le_of_ble_eq_true rfl) () (Or.inl ⟨rfl, trivial⟩) (hP.sub [0, 1, 2] rfl) (hD.sub [0, 1, 2] (by decide) rfl) dX4_ruleKind_69

set_option maxHeartbeats 4000000 in
set_option maxRecDepth 100000 in
theorem k_X4_opKind (l : Launch) (D : va_G) (cs : Nat → ClassId) (sz : Nat) (aK aV : Nat → Nat) (aR : Nat) (aT : Nat) (aD : Nat) (rt : Int32) (rn : Int32) (rp : Int32) (rk : Int32) (rf : Int32) (tb : Nat) (ft : Nat → Int32) (rs : Nat) (ra : Nat) (nt : Nat) (hnt : nt ≤ 400) (hra : rs ≤ ra) (hrt : ra ≤ nt) : Si l D cs aK aV yX4_opKind W_X4_opKind 5 107 0 0 [.ref aR] [(aR, .inr (4, [.ref aT, .ref aD, .int rt, .int (nI rs), .int (nI ra), .int rn, .int rp, .int rk, .int rf])), (aT, .inr (7, [.ref tb, .int (nI nt)])), (tb, .inl (cs 0, 400, .inl ft))] sz (fun (r : Int32) (u : Unit) => ((r = (-1) ∧ True) ∨ (r = 0 ∧ True) ∨ (r = 1 ∧ True) ∨ (r = 2 ∧ True) ∨ (r = 3 ∧ True))) (fun (u : Unit) => [(aR, .inr (4, [.ref aT, .ref aD, .int rt, .int (nI rs), .int (nI ra), .int rn, .int rp, .int rk, .int rf])), (aT, .inr (7, [.ref tb, .int (nI nt)])), (tb, .inl (cs 0, 400, .inl ft))]) := by
  refine entS (D := D) (cs := cs) (y := yX4_opKind) (ws := W_X4_opKind) (As := [.ref aR]) (W0 := [(aR, .inr (4, [.ref aT, .ref aD, .int rt, .int (nI rs), .int (nI ra), .int rn, .int rp, .int rk, .int rf])), (aT, .inr (7, [.ref tb, .int (nI nt)])), (tb, .inl (cs 0, 400, .inl ft))]) (Qx := fun A => va_Qi (fun (r : Int32) (u : Unit) => ((r = (-1) ∧ True) ∨ (r = 0 ∧ True) ∨ (r = 1 ∧ True) ∨ (r = 2 ∧ True) ∨ (r = 3 ∧ True))) (mpost D A (fun (u : Unit) => [(aR, .inr (4, [.ref aT, .ref aD, .int rt, .int (nI rs), .int (nI ra), .int rn, .int rp, .int rk, .int rf])), (aT, .inr (7, [.ref tb, .int (nI nt)])), (tb, .inl (cs 0, 400, .inl ft))])) A) (maxL := 1) (ret := (some .int)) (by decide) rfl (Nat.le_of_ble_eq_true rfl) ?_
  intro p e s m below meth c A ls hx hb hr hml hlk hown hts hin hK hE hV hP hD hA hS hl
  have hl : lv_has ls 1 [(0, .ref aR)] := hl
  generalize hHe : s.heap = H at hP
  have hS : va_S A s.heap H [] := hHe ▸ hS
  generalize hLe : ([] : List Loc) = locs at hS ⊢
  have htw : ∀ w ∈ O_X4_opKind, w.before ([.ref aR] : List Value).toArray s = true := fun w h => hts w (List.mem_cons_of_mem _ (List.mem_append_left _ h))
  have hFix := (⟨hx, hb, hml, hown, hts⟩ : CallFix p m c _ _ s _ _ _)
  refine lv_aload_n hx hb dX4_opKind_0 rfl (lv_at hl 0 rfl) ?_
  refine va_ldcS hx hb hown (hV.2.2.2 (RX4, 163, "more", 21) (List.mem_of_getElem? (i := 21) rfl)) dX4_opKind_1 ?_
  refine aft_i (wr := []) hP hD hS hA [0, 1, 2] [] rfl rfl (by decide) (by decide) (run_vS (As := [.ref (aK 21)]) (rest := []) hFix hK hE hV hP hD hS hA [0, 1, 2] (k_X4_isWord l D cs _ aK aV aR 21 aT aD rt rn rp rk rf tb ft rs ra nt (by first | assumption | decide | omega) (by first | assumption | decide | omega) (by first | assumption | decide | omega) (by first | assumption | decide | omega)) (cwV 1 hts gc_X4_opKind_61_X4_isWord rfl rfl rfl (by decide +kernel) ⟨Nat.le_of_ble_eq_true rfl, Nat.le_of_ble_eq_true rfl⟩) rfl (by decide) (rcv hK hP [0, 1, 2] rfl rfl rfl) rfl hl.1 rfl (Nat.le_of_ble_eq_true rfl) dX4_opKind_3 ⟨Nat.le_of_ble_eq_true rfl, Nat.le_of_ble_eq_true rfl⟩) (fun r_1 u_1 H locs hq_1 hP hD hS => ?_)
  have hP : va_P D vwCl [(aR, .inr (4, [.ref aT, .ref aD, .int rt, .int (nI rs), .int (nI ra), .int rn, .int rp, .int rk, .int rf])), (aT, .inr (7, [.ref tb, .int (nI nt)])), (tb, .inl (cs 0, 400, .inl ft))] H := hP
  have hD : va_D A [(aR, .inr (4, [.ref aT, .ref aD, .int rt, .int (nI rs), .int (nI ra), .int rn, .int rp, .int rk, .int rf])), (aT, .inr (7, [.ref tb, .int (nI nt)])), (tb, .inl (cs 0, 400, .inl ft))] := hD
  replace hq_1 : ((r_1 = 1 ∧ True) ∨ (r_1 = 0 ∧ True)) := hq_1
  rcases hq_1 with ⟨rfl, hq_1⟩ | ⟨rfl, hq_1⟩
  ·
    refine lv_if_eq (tgt := 13) hx hb dX4_opKind_6 (by decide) (fun h9 => absurd h9 (by decide)) (fun _ => ?_)
    refine lv_iconst (v := 0) hx hb dX4_opKind_9 (by decide) ?_
    refine lv_goto (tgt := 53) hx hb dX4_opKind_10 (by decide) ?_
    exact ret_i hx hb hr hlk hS (Nat.le_of_ble_eq_true rfl) (Nat.le_of_ble_eq_true rfl) () (Or.inr (Or.inl ⟨rfl, trivial⟩)) (hP.sub [0, 1, 2] rfl) (hD.sub [0, 1, 2] (by decide) rfl) dX4_opKind_53
  ·
    refine lv_if_eq (tgt := 13) hx hb dX4_opKind_6 (by decide) (fun _ => ?_) (fun h9 => absurd h9 (by decide))
    refine lv_aload_n hx hb dX4_opKind_13 rfl (lv_at hl 0 rfl) ?_
    refine va_ldcS hx hb hown (hV.2.2.2 (RX4, 165, "less", 22) (List.mem_of_getElem? (i := 22) rfl)) dX4_opKind_14 ?_
    refine aft_i (wr := []) hP hD hS hA [0, 1, 2] [] rfl rfl (by decide) (by decide) (run_vS (As := [.ref (aK 22)]) (rest := []) hFix hK hE hV hP hD hS hA [0, 1, 2] (k_X4_isWord l D cs _ aK aV aR 22 aT aD rt rn rp rk rf tb ft rs ra nt (by first | assumption | decide | omega) (by first | assumption | decide | omega) (by first | assumption | decide | omega) (by first | assumption | decide | omega)) (cwV 1 hts gc_X4_opKind_61_X4_isWord rfl rfl rfl (by decide +kernel) ⟨Nat.le_of_ble_eq_true rfl, Nat.le_of_ble_eq_true rfl⟩) rfl (by decide) (rcv hK hP [0, 1, 2] rfl rfl rfl) rfl hl.1 rfl (Nat.le_of_ble_eq_true rfl) dX4_opKind_16 ⟨Nat.le_of_ble_eq_true rfl, Nat.le_of_ble_eq_true rfl⟩) (fun r_2 u_2 H locs hq_2 hP hD hS => ?_)
    have hP : va_P D vwCl [(aR, .inr (4, [.ref aT, .ref aD, .int rt, .int (nI rs), .int (nI ra), .int rn, .int rp, .int rk, .int rf])), (aT, .inr (7, [.ref tb, .int (nI nt)])), (tb, .inl (cs 0, 400, .inl ft))] H := hP
    have hD : va_D A [(aR, .inr (4, [.ref aT, .ref aD, .int rt, .int (nI rs), .int (nI ra), .int rn, .int rp, .int rk, .int rf])), (aT, .inr (7, [.ref tb, .int (nI nt)])), (tb, .inl (cs 0, 400, .inl ft))] := hD
    replace hq_2 : ((r_2 = 1 ∧ True) ∨ (r_2 = 0 ∧ True)) := hq_2
    rcases hq_2 with ⟨rfl, hq_2⟩ | ⟨rfl, hq_2⟩
    ·
      refine lv_if_eq (tgt := 26) hx hb dX4_opKind_19 (by decide) (fun h9 => absurd h9 (by decide)) (fun _ => ?_)
      refine lv_iconst (v := 1) hx hb dX4_opKind_22 (by decide) ?_
      refine lv_goto (tgt := 53) hx hb dX4_opKind_23 (by decide) ?_
      exact ret_i hx hb hr hlk hS (Nat.le_of_ble_eq_true rfl) (Nat.le_of_ble_eq_true rfl) () (Or.inr (Or.inr (Or.inl ⟨rfl, trivial⟩))) (hP.sub [0, 1, 2] rfl) (hD.sub [0, 1, 2] (by decide) rfl) dX4_opKind_53
    ·
      refine lv_if_eq (tgt := 26) hx hb dX4_opKind_19 (by decide) (fun _ => ?_) (fun h9 => absurd h9 (by decide))
      refine lv_aload_n hx hb dX4_opKind_26 rfl (lv_at hl 0 rfl) ?_
      refine va_ldcS hx hb hown (hV.2.2.2 (RX4, 167, "set", 23) (List.mem_of_getElem? (i := 23) rfl)) dX4_opKind_27 ?_
      refine aft_i (wr := []) hP hD hS hA [0, 1, 2] [] rfl rfl (by decide) (by decide) (run_vS (As := [.ref (aK 23)]) (rest := []) hFix hK hE hV hP hD hS hA [0, 1, 2] (k_X4_isWord l D cs _ aK aV aR 23 aT aD rt rn rp rk rf tb ft rs ra nt (by first | assumption | decide | omega) (by first | assumption | decide | omega) (by first | assumption | decide | omega) (by first | assumption | decide | omega)) (cwV 1 hts gc_X4_opKind_61_X4_isWord rfl rfl rfl (by decide +kernel) ⟨Nat.le_of_ble_eq_true rfl, Nat.le_of_ble_eq_true rfl⟩) rfl (by decide) (rcv hK hP [0, 1, 2] rfl rfl rfl) rfl hl.1 rfl (Nat.le_of_ble_eq_true rfl) dX4_opKind_29 ⟨Nat.le_of_ble_eq_true rfl, Nat.le_of_ble_eq_true rfl⟩) (fun r_3 u_3 H locs hq_3 hP hD hS => ?_)
      have hP : va_P D vwCl [(aR, .inr (4, [.ref aT, .ref aD, .int rt, .int (nI rs), .int (nI ra), .int rn, .int rp, .int rk, .int rf])), (aT, .inr (7, [.ref tb, .int (nI nt)])), (tb, .inl (cs 0, 400, .inl ft))] H := hP
      have hD : va_D A [(aR, .inr (4, [.ref aT, .ref aD, .int rt, .int (nI rs), .int (nI ra), .int rn, .int rp, .int rk, .int rf])), (aT, .inr (7, [.ref tb, .int (nI nt)])), (tb, .inl (cs 0, 400, .inl ft))] := hD
      replace hq_3 : ((r_3 = 1 ∧ True) ∨ (r_3 = 0 ∧ True)) := hq_3
      rcases hq_3 with ⟨rfl, hq_3⟩ | ⟨rfl, hq_3⟩
      ·
        refine lv_if_eq (tgt := 39) hx hb dX4_opKind_32 (by decide) (fun h9 => absurd h9 (by decide)) (fun _ => ?_)
        refine lv_iconst (v := 2) hx hb dX4_opKind_35 (by decide) ?_
        refine lv_goto (tgt := 53) hx hb dX4_opKind_36 (by decide) ?_
        exact ret_i hx hb hr hlk hS (Nat.le_of_ble_eq_true rfl) (Nat.le_of_ble_eq_true rfl) () (Or.inr (Or.inr (Or.inr (Or.inl ⟨rfl, trivial⟩)))) (hP.sub [0, 1, 2] rfl) (hD.sub [0, 1, 2] (by decide) rfl) dX4_opKind_53
      ·
        refine lv_if_eq (tgt := 39) hx hb dX4_opKind_32 (by decide) (fun _ => ?_) (fun h9 => absurd h9 (by decide))
        refine lv_aload_n hx hb dX4_opKind_39 rfl (lv_at hl 0 rfl) ?_
        refine va_ldcS hx hb hown (hV.2.2.2 (RX4, 169, "move", 24) (List.mem_of_getElem? (i := 24) rfl)) dX4_opKind_40 ?_
        refine aft_i (wr := []) hP hD hS hA [0, 1, 2] [] rfl rfl (by decide) (by decide) (run_vS (As := [.ref (aK 24)]) (rest := []) hFix hK hE hV hP hD hS hA [0, 1, 2] (k_X4_isWord l D cs _ aK aV aR 24 aT aD rt rn rp rk rf tb ft rs ra nt (by first | assumption | decide | omega) (by first | assumption | decide | omega) (by first | assumption | decide | omega) (by first | assumption | decide | omega)) (cwV 1 hts gc_X4_opKind_61_X4_isWord rfl rfl rfl (by decide +kernel) ⟨Nat.le_of_ble_eq_true rfl, Nat.le_of_ble_eq_true rfl⟩) rfl (by decide) (rcv hK hP [0, 1, 2] rfl rfl rfl) rfl hl.1 rfl (Nat.le_of_ble_eq_true rfl) dX4_opKind_42 ⟨Nat.le_of_ble_eq_true rfl, Nat.le_of_ble_eq_true rfl⟩) (fun r_4 u_4 H locs hq_4 hP hD hS => ?_)
        have hP : va_P D vwCl [(aR, .inr (4, [.ref aT, .ref aD, .int rt, .int (nI rs), .int (nI ra), .int rn, .int rp, .int rk, .int rf])), (aT, .inr (7, [.ref tb, .int (nI nt)])), (tb, .inl (cs 0, 400, .inl ft))] H := hP
        have hD : va_D A [(aR, .inr (4, [.ref aT, .ref aD, .int rt, .int (nI rs), .int (nI ra), .int rn, .int rp, .int rk, .int rf])), (aT, .inr (7, [.ref tb, .int (nI nt)])), (tb, .inl (cs 0, 400, .inl ft))] := hD
        replace hq_4 : ((r_4 = 1 ∧ True) ∨ (r_4 = 0 ∧ True)) := hq_4
        rcases hq_4 with ⟨rfl, hq_4⟩ | ⟨rfl, hq_4⟩
        ·
          refine lv_if_eq (tgt := 52) hx hb dX4_opKind_45 (by decide) (fun h9 => absurd h9 (by decide)) (fun _ => ?_)
          refine lv_iconst (v := 3) hx hb dX4_opKind_48 (by decide) ?_
          refine lv_goto (tgt := 53) hx hb dX4_opKind_49 (by decide) ?_
          exact ret_i hx hb hr hlk hS (Nat.le_of_ble_eq_true rfl) (Nat.le_of_ble_eq_true rfl) () (Or.inr (Or.inr (Or.inr (Or.inr (⟨rfl, trivial⟩))))) (hP.sub [0, 1, 2] rfl) (hD.sub [0, 1, 2] (by decide) rfl) dX4_opKind_53
        ·
          refine lv_if_eq (tgt := 52) hx hb dX4_opKind_45 (by decide) (fun _ => ?_) (fun h9 => absurd h9 (by decide))
          refine lv_iconst (v := (-1)) hx hb dX4_opKind_52 (by decide) ?_
          exact ret_i hx hb hr hlk hS (Nat.le_of_ble_eq_true rfl) (Nat.le_of_ble_eq_true rfl) () (Or.inl ⟨rfl, trivial⟩) (hP.sub [0, 1, 2] rfl) (hD.sub [0, 1, 2] (by decide) rfl) dX4_opKind_53

set_option maxHeartbeats 4000000 in
set_option maxRecDepth 100000 in
theorem k_X4_ruleShape (l : Launch) (D : va_G) (cs : Nat → ClassId) (sz : Nat) (aK aV : Nat → Nat) (ki : Int32)  : Sr l D cs aK aV yX4_ruleShape W_X4_ruleShape 0 0 0 0 [.int ki] [] sz (fun (u : Nat) => (u < nJS)) (fun (u : Nat) => aK u) (fun (u : Nat) => []) := by
  refine entS (D := D) (cs := cs) (y := yX4_ruleShape) (ws := W_X4_ruleShape) (As := [.int ki]) (W0 := []) (Qx := fun A => va_Qr (fun (u : Nat) => (u < nJS)) (mpostR D A (fun (u : Nat) => aK u) (fun (u : Nat) => [])) A) (maxL := 1) (ret := (some (.object "java/lang/String"))) (by decide) rfl (Nat.le_of_ble_eq_true rfl) ?_
  intro p e s m below meth c A ls hx hb hr hml hlk hown hts hin hK hE hV hP hD hA hS hl
  have hl : lv_has ls 1 [(0, .int ki)] := hl
  generalize hHe : s.heap = H at hP
  have hS : va_S A s.heap H [] := hHe ▸ hS
  generalize hLe : ([] : List Loc) = locs at hS ⊢
  have htw : ∀ w ∈ O_X4_ruleShape, w.before ([.int ki] : List Value).toArray s = true := fun w h => hts w (List.mem_cons_of_mem _ h)
  have hFix := (⟨hx, hb, hml, hown, hts⟩ : CallFix p m c _ _ s _ _ _)
  refine lv_iload_n hx hb dX4_ruleShape_0 rfl (lv_at hl 0 rfl) ?_
  refine lv_topi (fun y_1 ey_1 => ?_)
  by_cases hs_1_0 : y_1 = 0
  ·
    subst hs_1_0
    refine lv_tableIn (off := 39) (tgt := 40) hx hb dX4_ruleShape_1 (by decide) (by decide) (by decide) (by decide) ?_
    refine va_ldcS hx hb hown (hV.2.2.2 (RX4, 171, "AN", 16) (List.mem_of_getElem? (i := 16) rfl)) dX4_ruleShape_40 ?_
    exact ret_r hx hb hr hlk hS (Nat.le_of_ble_eq_true rfl) (Nat.le_of_ble_eq_true rfl) (16) ((by decide)) (rfl) (hP.sub [] rfl) (hD.sub [] (by decide) rfl) dX4_ruleShape_42
  ·
    by_cases hs_1_1 : y_1 = 1
    ·
      subst hs_1_1
      refine lv_tableIn (off := 39) (tgt := 40) hx hb dX4_ruleShape_1 (by decide) (by decide) (by decide) (by decide) ?_
      refine va_ldcS hx hb hown (hV.2.2.2 (RX4, 171, "AN", 16) (List.mem_of_getElem? (i := 16) rfl)) dX4_ruleShape_40 ?_
      exact ret_r hx hb hr hlk hS (Nat.le_of_ble_eq_true rfl) (Nat.le_of_ble_eq_true rfl) (16) ((by decide)) (rfl) (hP.sub [] rfl) (hD.sub [] (by decide) rfl) dX4_ruleShape_42
    ·
      by_cases hs_1_2 : y_1 = 2
      ·
        subst hs_1_2
        refine lv_tableIn (off := 48) (tgt := 49) hx hb dX4_ruleShape_1 (by decide) (by decide) (by decide) (by decide) ?_
        refine va_ldcS hx hb hown (hV.2.2.2 (RX4, 177, "AB", 19) (List.mem_of_getElem? (i := 19) rfl)) dX4_ruleShape_49 ?_
        exact ret_r hx hb hr hlk hS (Nat.le_of_ble_eq_true rfl) (Nat.le_of_ble_eq_true rfl) (19) ((by decide)) (rfl) (hP.sub [] rfl) (hD.sub [] (by decide) rfl) dX4_ruleShape_51
      ·
        by_cases hs_1_3 : y_1 = 3
        ·
          subst hs_1_3
          refine lv_tableIn (off := 42) (tgt := 43) hx hb dX4_ruleShape_1 (by decide) (by decide) (by decide) (by decide) ?_
          refine va_ldcS hx hb hown (hV.2.2.2 (RX4, 173, "ABS", 17) (List.mem_of_getElem? (i := 17) rfl)) dX4_ruleShape_43 ?_
          exact ret_r hx hb hr hlk hS (Nat.le_of_ble_eq_true rfl) (Nat.le_of_ble_eq_true rfl) (17) ((by decide)) (rfl) (hP.sub [] rfl) (hD.sub [] (by decide) rfl) dX4_ruleShape_45
        ·
          by_cases hs_1_4 : y_1 = 4
          ·
            subst hs_1_4
            refine lv_tableIn (off := 48) (tgt := 49) hx hb dX4_ruleShape_1 (by decide) (by decide) (by decide) (by decide) ?_
            refine va_ldcS hx hb hown (hV.2.2.2 (RX4, 177, "AB", 19) (List.mem_of_getElem? (i := 19) rfl)) dX4_ruleShape_49 ?_
            exact ret_r hx hb hr hlk hS (Nat.le_of_ble_eq_true rfl) (Nat.le_of_ble_eq_true rfl) (19) ((by decide)) (rfl) (hP.sub [] rfl) (hD.sub [] (by decide) rfl) dX4_ruleShape_51
          ·
            by_cases hs_1_5 : y_1 = 5
            ·
              subst hs_1_5
              refine lv_tableIn (off := 45) (tgt := 46) hx hb dX4_ruleShape_1 (by decide) (by decide) (by decide) (by decide) ?_
              refine va_ldcS hx hb hown (hV.2.2.2 (RX4, 175, "ANAN", 18) (List.mem_of_getElem? (i := 18) rfl)) dX4_ruleShape_46 ?_
              exact ret_r hx hb hr hlk hS (Nat.le_of_ble_eq_true rfl) (Nat.le_of_ble_eq_true rfl) (18) ((by decide)) (rfl) (hP.sub [] rfl) (hD.sub [] (by decide) rfl) dX4_ruleShape_48
            ·
              have fhs_1_0 : ¬ y_1.toInt = 0 := fun e9 => hs_1_0 (i32_toInt_inj (y := 0) (e9.trans (by decide)))
              have fhs_1_1 : ¬ y_1.toInt = 1 := fun e9 => hs_1_1 (i32_toInt_inj (y := 1) (e9.trans (by decide)))
              have fhs_1_2 : ¬ y_1.toInt = 2 := fun e9 => hs_1_2 (i32_toInt_inj (y := 2) (e9.trans (by decide)))
              have fhs_1_3 : ¬ y_1.toInt = 3 := fun e9 => hs_1_3 (i32_toInt_inj (y := 3) (e9.trans (by decide)))
              have fhs_1_4 : ¬ y_1.toInt = 4 := fun e9 => hs_1_4 (i32_toInt_inj (y := 4) (e9.trans (by decide)))
              have fhs_1_5 : ¬ y_1.toInt = 5 := fun e9 => hs_1_5 (i32_toInt_inj (y := 5) (e9.trans (by decide)))
              refine lv_tableOut (tgt := 49) hx hb dX4_ruleShape_1 (by omega) (by decide) ?_
              refine va_ldcS hx hb hown (hV.2.2.2 (RX4, 177, "AB", 19) (List.mem_of_getElem? (i := 19) rfl)) dX4_ruleShape_49 ?_
              exact ret_r hx hb hr hlk hS (Nat.le_of_ble_eq_true rfl) (Nat.le_of_ble_eq_true rfl) (19) ((by decide)) (rfl) (hP.sub [] rfl) (hD.sub [] (by decide) rfl) dX4_ruleShape_51

set_option maxHeartbeats 4000000 in
set_option maxRecDepth 100000 in
theorem k_X4_opShape (l : Launch) (D : va_G) (cs : Nat → ClassId) (sz : Nat) (aK aV : Nat → Nat) (ki : Int32)  : Sr l D cs aK aV yX4_opShape W_X4_opShape 0 0 0 0 [.int ki] [] sz (fun (u : Nat) => (u < nJS)) (fun (u : Nat) => aK u) (fun (u : Nat) => []) := by
  refine entS (D := D) (cs := cs) (y := yX4_opShape) (ws := W_X4_opShape) (As := [.int ki]) (W0 := []) (Qx := fun A => va_Qr (fun (u : Nat) => (u < nJS)) (mpostR D A (fun (u : Nat) => aK u) (fun (u : Nat) => [])) A) (maxL := 1) (ret := (some (.object "java/lang/String"))) (by decide) rfl (Nat.le_of_ble_eq_true rfl) ?_
  intro p e s m below meth c A ls hx hb hr hml hlk hown hts hin hK hE hV hP hD hA hS hl
  have hl : lv_has ls 1 [(0, .int ki)] := hl
  generalize hHe : s.heap = H at hP
  have hS : va_S A s.heap H [] := hHe ▸ hS
  generalize hLe : ([] : List Loc) = locs at hS ⊢
  have htw : ∀ w ∈ O_X4_opShape, w.before ([.int ki] : List Value).toArray s = true := fun w h => hts w (List.mem_cons_of_mem _ h)
  have hFix := (⟨hx, hb, hml, hown, hts⟩ : CallFix p m c _ _ s _ _ _)
  refine lv_iload_n hx hb dX4_opShape_0 rfl (lv_at hl 0 rfl) ?_
  refine lv_topi (fun y_1 ey_1 => ?_)
  by_cases hs_1_2 : y_1 = 2
  ·
    subst hs_1_2
    refine lv_lookup (off := 27) (tgt := 28) hx hb dX4_opShape_1 (by decide) (by decide) (by decide) ?_
    refine va_ldcS hx hb hown (hV.2.2.2 (RX4, 171, "AN", 16) (List.mem_of_getElem? (i := 16) rfl)) dX4_opShape_28 ?_
    exact ret_r hx hb hr hlk hS (Nat.le_of_ble_eq_true rfl) (Nat.le_of_ble_eq_true rfl) (16) ((by decide)) (rfl) (hP.sub [] rfl) (hD.sub [] (by decide) rfl) dX4_opShape_30
  ·
    by_cases hs_1_3 : y_1 = 3
    ·
      subst hs_1_3
      refine lv_lookup (off := 30) (tgt := 31) hx hb dX4_opShape_1 (by decide) (by decide) (by decide) ?_
      refine va_ldcS hx hb hown (hV.2.2.2 (RX4, 179, "ABP", 25) (List.mem_of_getElem? (i := 25) rfl)) dX4_opShape_31 ?_
      exact ret_r hx hb hr hlk hS (Nat.le_of_ble_eq_true rfl) (Nat.le_of_ble_eq_true rfl) (25) ((by decide)) (rfl) (hP.sub [] rfl) (hD.sub [] (by decide) rfl) dX4_opShape_33
    ·
      refine lv_lookup (off := 33) (tgt := 34) hx hb dX4_opShape_1 (by decide) (show Op.lookupswitch.offset [(2, 27), (3, 30)] 33 y_1.toInt = 33 from ((lv_osw hs_1_2 (by decide))).trans (lv_osw hs_1_3 (by decide))) (by decide) ?_
      refine va_ldcS hx hb hown (hV.2.2.2 (RX4, 181, "AP", 26) (List.mem_of_getElem? (i := 26) rfl)) dX4_opShape_34 ?_
      exact ret_r hx hb hr hlk hS (Nat.le_of_ble_eq_true rfl) (Nat.le_of_ble_eq_true rfl) (26) ((by decide)) (rfl) (hP.sub [] rfl) (hD.sub [] (by decide) rfl) dX4_opShape_36

set_option maxHeartbeats 4000000 in
set_option maxRecDepth 100000 in
theorem k_X4_readCell (l : Launch) (D : va_G) (cs : Nat → ClassId) (sz : Nat) (aK aV : Nat → Nat) (aR : Nat) (aT : Nat) (aD : Nat) (rt : Int32) (rn : Int32) (rp : Int32) (rk : Int32) (rf : Int32) (tb : Nat) (ft : Nat → Int32) (qli : Int32) (qlw : Int32) (qod : Int32) (qdr : Int32) (qlo : Int32) (qr0 : Nat) (qr1 : Nat) (qr2 : Nat) (qr3 : Nat) (qr4 : Nat) (qf0 : Nat → Int32) (rs : Nat) (ra : Nat) (nt : Nat) (qtp : Nat) (qnc : Nat) (qnr : Nat) (qno : Nat) (qna : Nat) (hnt : nt ≤ 400) (hqtp : qtp ≤ 3) (hqnc : qnc ≤ 3) (hqnr : qnr ≤ 5) (hqno : qno ≤ 5) (hqna : qna ≤ 20) (hra : rs ≤ ra) (hrt : ra ≤ nt) : Si l D cs aK aV yX4_readCell W_X4_readCell 6 127 0 0 [.ref aR] [(aR, .inr (4, [.ref aT, .ref aD, .int rt, .int (nI rs), .int (nI ra), .int rn, .int rp, .int rk, .int rf])), (aT, .inr (7, [.ref tb, .int (nI nt)])), (tb, .inl (cs 0, 400, .inl ft)), (aD, .inr (0, [.int qli, .int (nI qtp), .int qlw, .int qod, .int (nI qnc), .int (nI qnr), .int (nI qno), .int (nI qna), .int qdr, .int qlo, .ref qr0, .ref qr1, .ref qr2, .ref qr3, .ref qr4])), (qr0, .inl (cs 1, 3, .inl qf0))] sz (fun (r : Int32) (u : Int32 × Nat × Nat × Int32 × Int32 × Int32 × Nat × (Nat → Int32)) => (u.2.1 ≤ u.2.2.1) ∧ (u.2.2.1 ≤ nt) ∧ (u.2.2.2.2.2.2.1 ≤ 3) ∧ ((r = 1 ∧ True) ∨ (r = 0 ∧ True))) (fun (u : Int32 × Nat × Nat × Int32 × Int32 × Int32 × Nat × (Nat → Int32)) => [(aR, .inr (4, [.ref aT, .ref aD, .int u.1, .int (nI u.2.1), .int (nI u.2.2.1), .int u.2.2.2.1, .int rp, .int u.2.2.2.2.1, .int u.2.2.2.2.2.1])), (aT, .inr (7, [.ref tb, .int (nI nt)])), (tb, .inl (cs 0, 400, .inl ft)), (aD, .inr (0, [.int qli, .int (nI qtp), .int qlw, .int qod, .int (nI u.2.2.2.2.2.2.1), .int (nI qnr), .int (nI qno), .int (nI qna), .int qdr, .int qlo, .ref qr0, .ref qr1, .ref qr2, .ref qr3, .ref qr4])), (qr0, .inl (cs 1, 3, .inl u.2.2.2.2.2.2.2))]) := by
  refine entS (D := D) (cs := cs) (y := yX4_readCell) (ws := W_X4_readCell) (As := [.ref aR]) (W0 := [(aR, .inr (4, [.ref aT, .ref aD, .int rt, .int (nI rs), .int (nI ra), .int rn, .int rp, .int rk, .int rf])), (aT, .inr (7, [.ref tb, .int (nI nt)])), (tb, .inl (cs 0, 400, .inl ft)), (aD, .inr (0, [.int qli, .int (nI qtp), .int qlw, .int qod, .int (nI qnc), .int (nI qnr), .int (nI qno), .int (nI qna), .int qdr, .int qlo, .ref qr0, .ref qr1, .ref qr2, .ref qr3, .ref qr4])), (qr0, .inl (cs 1, 3, .inl qf0))]) (Qx := fun A => va_Qi (fun (r : Int32) (u : Int32 × Nat × Nat × Int32 × Int32 × Int32 × Nat × (Nat → Int32)) => (u.2.1 ≤ u.2.2.1) ∧ (u.2.2.1 ≤ nt) ∧ (u.2.2.2.2.2.2.1 ≤ 3) ∧ ((r = 1 ∧ True) ∨ (r = 0 ∧ True))) (mpost D A (fun (u : Int32 × Nat × Nat × Int32 × Int32 × Int32 × Nat × (Nat → Int32)) => [(aR, .inr (4, [.ref aT, .ref aD, .int u.1, .int (nI u.2.1), .int (nI u.2.2.1), .int u.2.2.2.1, .int rp, .int u.2.2.2.2.1, .int u.2.2.2.2.2.1])), (aT, .inr (7, [.ref tb, .int (nI nt)])), (tb, .inl (cs 0, 400, .inl ft)), (aD, .inr (0, [.int qli, .int (nI qtp), .int qlw, .int qod, .int (nI u.2.2.2.2.2.2.1), .int (nI qnr), .int (nI qno), .int (nI qna), .int qdr, .int qlo, .ref qr0, .ref qr1, .ref qr2, .ref qr3, .ref qr4])), (qr0, .inl (cs 1, 3, .inl u.2.2.2.2.2.2.2))])) A) (maxL := 2) (ret := (some .boolean)) (by decide) rfl (Nat.le_of_ble_eq_true rfl) ?_
  intro p e s m below meth c A ls hx hb hr hml hlk hown hts hin hK hE hV hP hD hA hS hl
  have hl : lv_has ls 2 [(0, .ref aR)] := hl
  generalize hHe : s.heap = H at hP
  have hS : va_S A s.heap H [] := hHe ▸ hS
  generalize hLe : ([] : List Loc) = locs at hS ⊢
  have htw : ∀ w ∈ O_X4_readCell, w.before ([.ref aR] : List Value).toArray s = true := fun w h => hts w (List.mem_cons_of_mem _ (List.mem_append_left _ h))
  have hFix := (⟨hx, hb, hml, hown, hts⟩ : CallFix p m c _ _ s _ _ _)
  refine lv_aload_n hx hb dX4_readCell_0 rfl (lv_at hl 0 rfl) ?_
  refine va_get (D := D) (ci := 4) (v := .ref aD) (C := RX4) (T := TX4) (N := 9) hx hb hts iuX4_readCell_X4 hown hK hP 0 rfl rfl 1 (by decide) (htw (.fieldLink RX4 37 "MergeJudge$Reader" "draft" "LMergeJudge$Base;") (List.mem_of_getElem? (i := 0) rfl)) (fun _ h9 => h9) rfl dX4_readCell_1 ?_
  refine va_get (D := D) (ci := 0) (v := .int (nI qnc)) (C := RX0) (T := TX0) (N := 15) hx hb hts iuX4_readCell_X0 hown hK hP 3 rfl rfl 4 (by decide) (htw (.fieldLink RX4 103 "MergeJudge$Base" "cells" "I") (List.mem_of_getElem? (i := 1) rfl)) (fun _ h9 => h9) rfl dX4_readCell_4 ?_
  refine lv_iconst (v := 3) hx hb dX4_readCell_7 (by decide) ?_
  refine lv_icmp_lt (tgt := 17) hx hb dX4_readCell_8 (by decide) (fun c_1 => ?_) (fun c_1 => ?_)
  ·
    have hn_1 := blt_t (a := qnc) (b := 3) c_1 (by omega) (by omega)
    refine lv_aload_n hx hb dX4_readCell_17 rfl (lv_at hl 0 rfl) ?_
    refine aft_v (wr := [(aD, .inr (0, [.int qli, .int (nI qtp), .int qlw, .int qod, .int (nI qnc), .int (nI qnr), .int (nI qno), .int (nI qna), .int qdr, .int qlo, .ref qr0, .ref qr1, .ref qr2, .ref qr3, .ref qr4])), (qr0, .inl (cs 1, 3, .inl qf0))]) hP hD hS hA [0, 1, 2] [3, 4] rfl rfl (by decide) (by decide) (run_v (As := []) (rest := []) hFix hK hE hP hD [0, 1, 2] (k_X4_next l D cs _ aR aT aD rt rn rp rk rf tb ft rs ra nt (by first | assumption | decide | omega) (by first | assumption | decide | omega)) (cwV 0 hts gc_X4_readCell_46_X4_next rfl rfl rfl (by decide +kernel) ⟨Nat.le_of_ble_eq_true rfl, Nat.le_of_ble_eq_true rfl⟩) rfl (by decide) rfl rfl rfl hl.1 rfl (Nat.le_of_ble_eq_true rfl) dX4_readCell_18 ⟨Nat.le_of_ble_eq_true rfl, Nat.le_of_ble_eq_true rfl⟩) (fun u_2 H locs hq_2 hP hD hS => ?_)
    obtain ⟨rt1_2, rs1_2, ra1_2, rn1_2⟩ := u_2
    have hP : va_P D vwCl [(aD, .inr (0, [.int qli, .int (nI qtp), .int qlw, .int qod, .int (nI qnc), .int (nI qnr), .int (nI qno), .int (nI qna), .int qdr, .int qlo, .ref qr0, .ref qr1, .ref qr2, .ref qr3, .ref qr4])), (qr0, .inl (cs 1, 3, .inl qf0)), (aR, .inr (4, [.ref aT, .ref aD, .int rt1_2, .int (nI rs1_2), .int (nI ra1_2), .int rn1_2, .int rp, .int rk, .int rf])), (aT, .inr (7, [.ref tb, .int (nI nt)])), (tb, .inl (cs 0, 400, .inl ft))] H := hP
    have hD : va_D A [(aD, .inr (0, [.int qli, .int (nI qtp), .int qlw, .int qod, .int (nI qnc), .int (nI qnr), .int (nI qno), .int (nI qna), .int qdr, .int qlo, .ref qr0, .ref qr1, .ref qr2, .ref qr3, .ref qr4])), (qr0, .inl (cs 1, 3, .inl qf0)), (aR, .inr (4, [.ref aT, .ref aD, .int rt1_2, .int (nI rs1_2), .int (nI ra1_2), .int rn1_2, .int rp, .int rk, .int rf])), (aT, .inr (7, [.ref tb, .int (nI nt)])), (tb, .inl (cs 0, 400, .inl ft))] := hD
    replace hq_2 : (rs1_2 ≤ ra1_2) ∧ (ra1_2 ≤ nt) := hq_2
    obtain ⟨hp_2_0, hp_2_1⟩ := hq_2
    refine lv_aload_n hx hb dX4_readCell_21 rfl (lv_at hl 0 rfl) ?_
    refine aft_i (wr := [(aD, .inr (0, [.int qli, .int (nI qtp), .int qlw, .int qod, .int (nI qnc), .int (nI qnr), .int (nI qno), .int (nI qna), .int qdr, .int qlo, .ref qr0, .ref qr1, .ref qr2, .ref qr3, .ref qr4])), (qr0, .inl (cs 1, 3, .inl qf0))]) hP hD hS hA [2, 3, 4] [0, 1] rfl rfl (by decide) (by decide) (run_vS (As := []) (rest := []) hFix hK hE hV hP hD hS hA [2, 3, 4] (k_X4_cellKind l D cs _ aK aV aR aT aD rt1_2 rn1_2 rp rk rf tb ft rs1_2 ra1_2 nt (by first | assumption | decide | omega) (by first | assumption | decide | omega) (by first | assumption | decide | omega)) (cwV 0 hts gc_X4_readCell_106_X4_cellKind rfl rfl rfl (by decide +kernel) ⟨Nat.le_of_ble_eq_true rfl, Nat.le_of_ble_eq_true rfl⟩) rfl (by decide) (rcv hK hP [2, 3, 4] rfl rfl rfl) rfl hl.1 rfl (Nat.le_of_ble_eq_true rfl) dX4_readCell_22 ⟨Nat.le_of_ble_eq_true rfl, Nat.le_of_ble_eq_true rfl⟩) (fun r_3 u_3 H locs hq_3 hP hD hS => ?_)
    have hP : va_P D vwCl [(aD, .inr (0, [.int qli, .int (nI qtp), .int qlw, .int qod, .int (nI qnc), .int (nI qnr), .int (nI qno), .int (nI qna), .int qdr, .int qlo, .ref qr0, .ref qr1, .ref qr2, .ref qr3, .ref qr4])), (qr0, .inl (cs 1, 3, .inl qf0)), (aR, .inr (4, [.ref aT, .ref aD, .int rt1_2, .int (nI rs1_2), .int (nI ra1_2), .int rn1_2, .int rp, .int rk, .int rf])), (aT, .inr (7, [.ref tb, .int (nI nt)])), (tb, .inl (cs 0, 400, .inl ft))] H := hP
    have hD : va_D A [(aD, .inr (0, [.int qli, .int (nI qtp), .int qlw, .int qod, .int (nI qnc), .int (nI qnr), .int (nI qno), .int (nI qna), .int qdr, .int qlo, .ref qr0, .ref qr1, .ref qr2, .ref qr3, .ref qr4])), (qr0, .inl (cs 1, 3, .inl qf0)), (aR, .inr (4, [.ref aT, .ref aD, .int rt1_2, .int (nI rs1_2), .int (nI ra1_2), .int rn1_2, .int rp, .int rk, .int rf])), (aT, .inr (7, [.ref tb, .int (nI nt)])), (tb, .inl (cs 0, 400, .inl ft))] := hD
    replace hq_3 : ((r_3 = (-1) ∧ True) ∨ (r_3 = 0 ∧ True) ∨ (r_3 = 1 ∧ True) ∨ (r_3 = 2 ∧ True) ∨ (r_3 = 3 ∧ True)) := hq_3
    rcases hq_3 with ⟨rfl, hq_3⟩ | ⟨rfl, hq_3⟩ | ⟨rfl, hq_3⟩ | ⟨rfl, hq_3⟩ | ⟨rfl, hq_3⟩
    ·
      refine lv_istore_n (lv' := [(1, .int (-1)), (0, .ref aR)]) hx hb dX4_readCell_25 rfl hl (by decide) rfl (fun ls hl => ?_)
      refine lv_iload_n hx hb dX4_readCell_26 rfl (lv_at hl 0 rfl) ?_
      refine lv_iconst (v := (-1)) hx hb dX4_readCell_27 (by decide) ?_
      refine lv_icmp_ne (tgt := 37) hx hb dX4_readCell_28 (by decide) (fun h9 => absurd h9 (by decide)) (fun _ => ?_)
      refine lv_aload_n hx hb dX4_readCell_31 rfl (lv_at hl 1 rfl) ?_
      refine lv_iconst (v := 1) hx hb dX4_readCell_32 (by decide) ?_
      refine aft_i (wr := [(aD, .inr (0, [.int qli, .int (nI qtp), .int qlw, .int qod, .int (nI qnc), .int (nI qnr), .int (nI qno), .int (nI qna), .int qdr, .int qlo, .ref qr0, .ref qr1, .ref qr2, .ref qr3, .ref qr4])), (qr0, .inl (cs 1, 3, .inl qf0)), (aT, .inr (7, [.ref tb, .int (nI nt)])), (tb, .inl (cs 0, 400, .inl ft))]) hP hD hS hA [2] [0, 1, 3, 4] rfl rfl (by decide) (by decide) (run_v (As := [.int 1]) (rest := []) hFix hK hE hP hD [2] (k_X4_failed l D cs _ aR 1 aT aD rt1_2 rn1_2 rp rk rf rs1_2 ra1_2) (cwV 1 hts gc_X4_readCell_78_X4_failed rfl rfl rfl (by decide +kernel) ⟨Nat.le_of_ble_eq_true rfl, Nat.le_of_ble_eq_true rfl⟩) rfl (by decide) rfl rfl rfl hl.1 rfl (Nat.le_of_ble_eq_true rfl) dX4_readCell_33 ⟨Nat.le_of_ble_eq_true rfl, Nat.le_of_ble_eq_true rfl⟩) (fun r_4 u_4 H locs hq_4 hP hD hS => ?_)
      obtain ⟨rk1_4, rf1_4⟩ := u_4
      have hP : va_P D vwCl [(aD, .inr (0, [.int qli, .int (nI qtp), .int qlw, .int qod, .int (nI qnc), .int (nI qnr), .int (nI qno), .int (nI qna), .int qdr, .int qlo, .ref qr0, .ref qr1, .ref qr2, .ref qr3, .ref qr4])), (qr0, .inl (cs 1, 3, .inl qf0)), (aT, .inr (7, [.ref tb, .int (nI nt)])), (tb, .inl (cs 0, 400, .inl ft)), (aR, .inr (4, [.ref aT, .ref aD, .int rt1_2, .int (nI rs1_2), .int (nI ra1_2), .int rn1_2, .int rp, .int rk1_4, .int rf1_4]))] H := hP
      have hD : va_D A [(aD, .inr (0, [.int qli, .int (nI qtp), .int qlw, .int qod, .int (nI qnc), .int (nI qnr), .int (nI qno), .int (nI qna), .int qdr, .int qlo, .ref qr0, .ref qr1, .ref qr2, .ref qr3, .ref qr4])), (qr0, .inl (cs 1, 3, .inl qf0)), (aT, .inr (7, [.ref tb, .int (nI nt)])), (tb, .inl (cs 0, 400, .inl ft)), (aR, .inr (4, [.ref aT, .ref aD, .int rt1_2, .int (nI rs1_2), .int (nI ra1_2), .int rn1_2, .int rp, .int rk1_4, .int rf1_4]))] := hD
      replace hq_4 : ((r_4 = 0 ∧ True)) := hq_4
      obtain ⟨rfl, hq_4⟩ := hq_4
      ·
        exact ret_z hx hb hr hlk hS (Nat.le_of_ble_eq_true rfl) (Nat.le_of_ble_eq_true rfl) (by decide) (rt1_2, rs1_2, ra1_2, rn1_2, rk1_4, rf1_4, qnc, qf0) (⟨(by omega), (by omega), (by omega), Or.inr (⟨rfl, trivial⟩)⟩) (hP.sub [4, 2, 3, 0, 1] rfl) (hD.sub [4, 2, 3, 0, 1] (by decide) rfl) dX4_readCell_36
    ·
      refine lv_istore_n (lv' := [(1, .int 0), (0, .ref aR)]) hx hb dX4_readCell_25 rfl hl (by decide) rfl (fun ls hl => ?_)
      refine lv_iload_n hx hb dX4_readCell_26 rfl (lv_at hl 0 rfl) ?_
      refine lv_iconst (v := (-1)) hx hb dX4_readCell_27 (by decide) ?_
      refine lv_icmp_ne (tgt := 37) hx hb dX4_readCell_28 (by decide) (fun _ => ?_) (fun h9 => absurd h9 (by decide))
      refine lv_aload_n hx hb dX4_readCell_37 rfl (lv_at hl 1 rfl) ?_
      refine aft_v (wr := [(aD, .inr (0, [.int qli, .int (nI qtp), .int qlw, .int qod, .int (nI qnc), .int (nI qnr), .int (nI qno), .int (nI qna), .int qdr, .int qlo, .ref qr0, .ref qr1, .ref qr2, .ref qr3, .ref qr4])), (qr0, .inl (cs 1, 3, .inl qf0))]) hP hD hS hA [2, 3, 4] [0, 1] rfl rfl (by decide) (by decide) (run_v (As := []) (rest := []) hFix hK hE hP hD [2, 3, 4] (k_X4_next l D cs _ aR aT aD rt1_2 rn1_2 rp rk rf tb ft rs1_2 ra1_2 nt (by first | assumption | decide | omega) (by first | assumption | decide | omega)) (cwV 0 hts gc_X4_readCell_46_X4_next rfl rfl rfl (by decide +kernel) ⟨Nat.le_of_ble_eq_true rfl, Nat.le_of_ble_eq_true rfl⟩) rfl (by decide) rfl rfl rfl hl.1 rfl (Nat.le_of_ble_eq_true rfl) dX4_readCell_38 ⟨Nat.le_of_ble_eq_true rfl, Nat.le_of_ble_eq_true rfl⟩) (fun u_5 H locs hq_5 hP hD hS => ?_)
      obtain ⟨rt1_5, rs1_5, ra1_5, rn1_5⟩ := u_5
      have hP : va_P D vwCl [(aD, .inr (0, [.int qli, .int (nI qtp), .int qlw, .int qod, .int (nI qnc), .int (nI qnr), .int (nI qno), .int (nI qna), .int qdr, .int qlo, .ref qr0, .ref qr1, .ref qr2, .ref qr3, .ref qr4])), (qr0, .inl (cs 1, 3, .inl qf0)), (aR, .inr (4, [.ref aT, .ref aD, .int rt1_5, .int (nI rs1_5), .int (nI ra1_5), .int rn1_5, .int rp, .int rk, .int rf])), (aT, .inr (7, [.ref tb, .int (nI nt)])), (tb, .inl (cs 0, 400, .inl ft))] H := hP
      have hD : va_D A [(aD, .inr (0, [.int qli, .int (nI qtp), .int qlw, .int qod, .int (nI qnc), .int (nI qnr), .int (nI qno), .int (nI qna), .int qdr, .int qlo, .ref qr0, .ref qr1, .ref qr2, .ref qr3, .ref qr4])), (qr0, .inl (cs 1, 3, .inl qf0)), (aR, .inr (4, [.ref aT, .ref aD, .int rt1_5, .int (nI rs1_5), .int (nI ra1_5), .int rn1_5, .int rp, .int rk, .int rf])), (aT, .inr (7, [.ref tb, .int (nI nt)])), (tb, .inl (cs 0, 400, .inl ft))] := hD
      replace hq_5 : (rs1_5 ≤ ra1_5) ∧ (ra1_5 ≤ nt) := hq_5
      obtain ⟨hp_5_0, hp_5_1⟩ := hq_5
      refine lv_aload_n hx hb dX4_readCell_41 rfl (lv_at hl 1 rfl) ?_
      refine va_get (D := D) (ci := 4) (v := .ref aD) (C := RX4) (T := TX4) (N := 9) hx hb hts iuX4_readCell_X4 hown hK hP 2 rfl rfl 1 (by decide) (htw (.fieldLink RX4 37 "MergeJudge$Reader" "draft" "LMergeJudge$Base;") (List.mem_of_getElem? (i := 0) rfl)) (fun _ h9 => h9) rfl dX4_readCell_42 ?_
      refine va_get (D := D) (ci := 0) (v := .ref qr0) (C := RX0) (T := TX0) (N := 15) hx hb hts iuX4_readCell_X0 hown hK hP 0 rfl rfl 10 (by decide) (htw (.fieldLink RX4 110 "MergeJudge$Base" "kinds" "[I") (List.mem_of_getElem? (i := 12) rfl)) (fun _ h9 => h9) rfl dX4_readCell_45 ?_
      refine lv_aload_n hx hb dX4_readCell_48 rfl (lv_at hl 1 rfl) ?_
      refine va_get (D := D) (ci := 4) (v := .ref aD) (C := RX4) (T := TX4) (N := 9) hx hb hts iuX4_readCell_X4 hown hK hP 2 rfl rfl 1 (by decide) (htw (.fieldLink RX4 37 "MergeJudge$Reader" "draft" "LMergeJudge$Base;") (List.mem_of_getElem? (i := 0) rfl)) (fun _ h9 => h9) rfl dX4_readCell_49 ?_
      refine va_get (D := D) (ci := 0) (v := .int (nI qnc)) (C := RX0) (T := TX0) (N := 15) hx hb hts iuX4_readCell_X0 hown hK hP 0 rfl rfl 4 (by decide) (htw (.fieldLink RX4 103 "MergeJudge$Base" "cells" "I") (List.mem_of_getElem? (i := 1) rfl)) (fun _ h9 => h9) rfl dX4_readCell_52 ?_
      refine lv_iload_n hx hb dX4_readCell_55 rfl (lv_at hl 0 rfl) ?_
      refine va_iast hx hb hK hP hD hS 1 1 rfl rfl (vp_in_nI (by omega) (by omega)) dX4_readCell_56 (fun H locs hP hD hS => ?_)
      have hP : va_P D vwCl [(aD, .inr (0, [.int qli, .int (nI qtp), .int qlw, .int qod, .int (nI qnc), .int (nI qnr), .int (nI qno), .int (nI qna), .int qdr, .int qlo, .ref qr0, .ref qr1, .ref qr2, .ref qr3, .ref qr4])), (qr0, .inl (cs 1, 3, .inl (upd qf0 ((nI qnc).toNatClampNeg) 0))), (aR, .inr (4, [.ref aT, .ref aD, .int rt1_5, .int (nI rs1_5), .int (nI ra1_5), .int rn1_5, .int rp, .int rk, .int rf])), (aT, .inr (7, [.ref tb, .int (nI nt)])), (tb, .inl (cs 0, 400, .inl ft))] H := hP
      have hD : va_D A [(aD, .inr (0, [.int qli, .int (nI qtp), .int qlw, .int qod, .int (nI qnc), .int (nI qnr), .int (nI qno), .int (nI qna), .int qdr, .int qlo, .ref qr0, .ref qr1, .ref qr2, .ref qr3, .ref qr4])), (qr0, .inl (cs 1, 3, .inl (upd qf0 ((nI qnc).toNatClampNeg) 0))), (aR, .inr (4, [.ref aT, .ref aD, .int rt1_5, .int (nI rs1_5), .int (nI ra1_5), .int rn1_5, .int rp, .int rk, .int rf])), (aT, .inr (7, [.ref tb, .int (nI nt)])), (tb, .inl (cs 0, 400, .inl ft))] := hD
      refine lv_aload_n hx hb dX4_readCell_57 rfl (lv_at hl 1 rfl) ?_
      refine va_get (D := D) (ci := 4) (v := .ref aD) (C := RX4) (T := TX4) (N := 9) hx hb hts iuX4_readCell_X4 hown hK hP 2 rfl rfl 1 (by decide) (htw (.fieldLink RX4 37 "MergeJudge$Reader" "draft" "LMergeJudge$Base;") (List.mem_of_getElem? (i := 0) rfl)) (fun _ h9 => h9) rfl dX4_readCell_58 ?_
      refine lv_dup hx hb dX4_readCell_61 rfl ?_
      refine va_get (D := D) (ci := 0) (v := .int (nI qnc)) (C := RX0) (T := TX0) (N := 15) hx hb hts iuX4_readCell_X0 hown hK hP 0 rfl rfl 4 (by decide) (htw (.fieldLink RX4 103 "MergeJudge$Base" "cells" "I") (List.mem_of_getElem? (i := 1) rfl)) (fun _ h9 => h9) rfl dX4_readCell_62 ?_
      refine lv_iconst (v := 1) hx hb dX4_readCell_65 (by decide) ?_
      refine lv_iadd hx hb dX4_readCell_66 ?_
      refine cf_i (nI (qnc + 1)) (nI_add qnc 1) ?_
      refine va_put (D := D) (ci := 0) (v := .int (nI (qnc + 1))) (ty := .int) (C := RX0) (T := TX0) (N := 15) hx hb hts iuX4_readCell_X0 tyX0 tyX0_ok nmX0 hown hK hP hD hS 0 rfl rfl 4 (by decide) (htw (.fieldLink RX4 103 "MergeJudge$Base" "cells" "I") (List.mem_of_getElem? (i := 1) rfl)) (fun _ h9 => h9) rfl (by decide +kernel) rfl rfl (Nat.le_of_ble_eq_true rfl) dX4_readCell_67 (fun H locs hP hD hS => ?_)
      have hP : va_P D vwCl [(aD, .inr (0, [.int qli, .int (nI qtp), .int qlw, .int qod, .int (nI (qnc + 1)), .int (nI qnr), .int (nI qno), .int (nI qna), .int qdr, .int qlo, .ref qr0, .ref qr1, .ref qr2, .ref qr3, .ref qr4])), (qr0, .inl (cs 1, 3, .inl (upd qf0 ((nI qnc).toNatClampNeg) 0))), (aR, .inr (4, [.ref aT, .ref aD, .int rt1_5, .int (nI rs1_5), .int (nI ra1_5), .int rn1_5, .int rp, .int rk, .int rf])), (aT, .inr (7, [.ref tb, .int (nI nt)])), (tb, .inl (cs 0, 400, .inl ft))] H := hP
      have hD : va_D A [(aD, .inr (0, [.int qli, .int (nI qtp), .int qlw, .int qod, .int (nI (qnc + 1)), .int (nI qnr), .int (nI qno), .int (nI qna), .int qdr, .int qlo, .ref qr0, .ref qr1, .ref qr2, .ref qr3, .ref qr4])), (qr0, .inl (cs 1, 3, .inl (upd qf0 ((nI qnc).toNatClampNeg) 0))), (aR, .inr (4, [.ref aT, .ref aD, .int rt1_5, .int (nI rs1_5), .int (nI ra1_5), .int rn1_5, .int rp, .int rk, .int rf])), (aT, .inr (7, [.ref tb, .int (nI nt)])), (tb, .inl (cs 0, 400, .inl ft))] := hD
      refine lv_iconst (v := 1) hx hb dX4_readCell_70 (by decide) ?_
      exact ret_z hx hb hr hlk hS (Nat.le_of_ble_eq_true rfl) (Nat.le_of_ble_eq_true rfl) (by decide) (rt1_5, rs1_5, ra1_5, rn1_5, rk, rf, qnc + 1, upd qf0 ((nI qnc).toNatClampNeg) 0) (⟨(by omega), (by omega), (by omega), Or.inl ⟨rfl, trivial⟩⟩) (hP.sub [2, 3, 4, 0, 1] rfl) (hD.sub [2, 3, 4, 0, 1] (by decide) rfl) dX4_readCell_71
    ·
      refine lv_istore_n (lv' := [(1, .int 1), (0, .ref aR)]) hx hb dX4_readCell_25 rfl hl (by decide) rfl (fun ls hl => ?_)
      refine lv_iload_n hx hb dX4_readCell_26 rfl (lv_at hl 0 rfl) ?_
      refine lv_iconst (v := (-1)) hx hb dX4_readCell_27 (by decide) ?_
      refine lv_icmp_ne (tgt := 37) hx hb dX4_readCell_28 (by decide) (fun _ => ?_) (fun h9 => absurd h9 (by decide))
      refine lv_aload_n hx hb dX4_readCell_37 rfl (lv_at hl 1 rfl) ?_
      refine aft_v (wr := [(aD, .inr (0, [.int qli, .int (nI qtp), .int qlw, .int qod, .int (nI qnc), .int (nI qnr), .int (nI qno), .int (nI qna), .int qdr, .int qlo, .ref qr0, .ref qr1, .ref qr2, .ref qr3, .ref qr4])), (qr0, .inl (cs 1, 3, .inl qf0))]) hP hD hS hA [2, 3, 4] [0, 1] rfl rfl (by decide) (by decide) (run_v (As := []) (rest := []) hFix hK hE hP hD [2, 3, 4] (k_X4_next l D cs _ aR aT aD rt1_2 rn1_2 rp rk rf tb ft rs1_2 ra1_2 nt (by first | assumption | decide | omega) (by first | assumption | decide | omega)) (cwV 0 hts gc_X4_readCell_46_X4_next rfl rfl rfl (by decide +kernel) ⟨Nat.le_of_ble_eq_true rfl, Nat.le_of_ble_eq_true rfl⟩) rfl (by decide) rfl rfl rfl hl.1 rfl (Nat.le_of_ble_eq_true rfl) dX4_readCell_38 ⟨Nat.le_of_ble_eq_true rfl, Nat.le_of_ble_eq_true rfl⟩) (fun u_6 H locs hq_6 hP hD hS => ?_)
      obtain ⟨rt1_6, rs1_6, ra1_6, rn1_6⟩ := u_6
      have hP : va_P D vwCl [(aD, .inr (0, [.int qli, .int (nI qtp), .int qlw, .int qod, .int (nI qnc), .int (nI qnr), .int (nI qno), .int (nI qna), .int qdr, .int qlo, .ref qr0, .ref qr1, .ref qr2, .ref qr3, .ref qr4])), (qr0, .inl (cs 1, 3, .inl qf0)), (aR, .inr (4, [.ref aT, .ref aD, .int rt1_6, .int (nI rs1_6), .int (nI ra1_6), .int rn1_6, .int rp, .int rk, .int rf])), (aT, .inr (7, [.ref tb, .int (nI nt)])), (tb, .inl (cs 0, 400, .inl ft))] H := hP
      have hD : va_D A [(aD, .inr (0, [.int qli, .int (nI qtp), .int qlw, .int qod, .int (nI qnc), .int (nI qnr), .int (nI qno), .int (nI qna), .int qdr, .int qlo, .ref qr0, .ref qr1, .ref qr2, .ref qr3, .ref qr4])), (qr0, .inl (cs 1, 3, .inl qf0)), (aR, .inr (4, [.ref aT, .ref aD, .int rt1_6, .int (nI rs1_6), .int (nI ra1_6), .int rn1_6, .int rp, .int rk, .int rf])), (aT, .inr (7, [.ref tb, .int (nI nt)])), (tb, .inl (cs 0, 400, .inl ft))] := hD
      replace hq_6 : (rs1_6 ≤ ra1_6) ∧ (ra1_6 ≤ nt) := hq_6
      obtain ⟨hp_6_0, hp_6_1⟩ := hq_6
      refine lv_aload_n hx hb dX4_readCell_41 rfl (lv_at hl 1 rfl) ?_
      refine va_get (D := D) (ci := 4) (v := .ref aD) (C := RX4) (T := TX4) (N := 9) hx hb hts iuX4_readCell_X4 hown hK hP 2 rfl rfl 1 (by decide) (htw (.fieldLink RX4 37 "MergeJudge$Reader" "draft" "LMergeJudge$Base;") (List.mem_of_getElem? (i := 0) rfl)) (fun _ h9 => h9) rfl dX4_readCell_42 ?_
      refine va_get (D := D) (ci := 0) (v := .ref qr0) (C := RX0) (T := TX0) (N := 15) hx hb hts iuX4_readCell_X0 hown hK hP 0 rfl rfl 10 (by decide) (htw (.fieldLink RX4 110 "MergeJudge$Base" "kinds" "[I") (List.mem_of_getElem? (i := 12) rfl)) (fun _ h9 => h9) rfl dX4_readCell_45 ?_
      refine lv_aload_n hx hb dX4_readCell_48 rfl (lv_at hl 1 rfl) ?_
      refine va_get (D := D) (ci := 4) (v := .ref aD) (C := RX4) (T := TX4) (N := 9) hx hb hts iuX4_readCell_X4 hown hK hP 2 rfl rfl 1 (by decide) (htw (.fieldLink RX4 37 "MergeJudge$Reader" "draft" "LMergeJudge$Base;") (List.mem_of_getElem? (i := 0) rfl)) (fun _ h9 => h9) rfl dX4_readCell_49 ?_
      refine va_get (D := D) (ci := 0) (v := .int (nI qnc)) (C := RX0) (T := TX0) (N := 15) hx hb hts iuX4_readCell_X0 hown hK hP 0 rfl rfl 4 (by decide) (htw (.fieldLink RX4 103 "MergeJudge$Base" "cells" "I") (List.mem_of_getElem? (i := 1) rfl)) (fun _ h9 => h9) rfl dX4_readCell_52 ?_
      refine lv_iload_n hx hb dX4_readCell_55 rfl (lv_at hl 0 rfl) ?_
      refine va_iast hx hb hK hP hD hS 1 1 rfl rfl (vp_in_nI (by omega) (by omega)) dX4_readCell_56 (fun H locs hP hD hS => ?_)
      have hP : va_P D vwCl [(aD, .inr (0, [.int qli, .int (nI qtp), .int qlw, .int qod, .int (nI qnc), .int (nI qnr), .int (nI qno), .int (nI qna), .int qdr, .int qlo, .ref qr0, .ref qr1, .ref qr2, .ref qr3, .ref qr4])), (qr0, .inl (cs 1, 3, .inl (upd qf0 ((nI qnc).toNatClampNeg) 1))), (aR, .inr (4, [.ref aT, .ref aD, .int rt1_6, .int (nI rs1_6), .int (nI ra1_6), .int rn1_6, .int rp, .int rk, .int rf])), (aT, .inr (7, [.ref tb, .int (nI nt)])), (tb, .inl (cs 0, 400, .inl ft))] H := hP
      have hD : va_D A [(aD, .inr (0, [.int qli, .int (nI qtp), .int qlw, .int qod, .int (nI qnc), .int (nI qnr), .int (nI qno), .int (nI qna), .int qdr, .int qlo, .ref qr0, .ref qr1, .ref qr2, .ref qr3, .ref qr4])), (qr0, .inl (cs 1, 3, .inl (upd qf0 ((nI qnc).toNatClampNeg) 1))), (aR, .inr (4, [.ref aT, .ref aD, .int rt1_6, .int (nI rs1_6), .int (nI ra1_6), .int rn1_6, .int rp, .int rk, .int rf])), (aT, .inr (7, [.ref tb, .int (nI nt)])), (tb, .inl (cs 0, 400, .inl ft))] := hD
      refine lv_aload_n hx hb dX4_readCell_57 rfl (lv_at hl 1 rfl) ?_
      refine va_get (D := D) (ci := 4) (v := .ref aD) (C := RX4) (T := TX4) (N := 9) hx hb hts iuX4_readCell_X4 hown hK hP 2 rfl rfl 1 (by decide) (htw (.fieldLink RX4 37 "MergeJudge$Reader" "draft" "LMergeJudge$Base;") (List.mem_of_getElem? (i := 0) rfl)) (fun _ h9 => h9) rfl dX4_readCell_58 ?_
      refine lv_dup hx hb dX4_readCell_61 rfl ?_
      refine va_get (D := D) (ci := 0) (v := .int (nI qnc)) (C := RX0) (T := TX0) (N := 15) hx hb hts iuX4_readCell_X0 hown hK hP 0 rfl rfl 4 (by decide) (htw (.fieldLink RX4 103 "MergeJudge$Base" "cells" "I") (List.mem_of_getElem? (i := 1) rfl)) (fun _ h9 => h9) rfl dX4_readCell_62 ?_
      refine lv_iconst (v := 1) hx hb dX4_readCell_65 (by decide) ?_
      refine lv_iadd hx hb dX4_readCell_66 ?_
      refine cf_i (nI (qnc + 1)) (nI_add qnc 1) ?_
      refine va_put (D := D) (ci := 0) (v := .int (nI (qnc + 1))) (ty := .int) (C := RX0) (T := TX0) (N := 15) hx hb hts iuX4_readCell_X0 tyX0 tyX0_ok nmX0 hown hK hP hD hS 0 rfl rfl 4 (by decide) (htw (.fieldLink RX4 103 "MergeJudge$Base" "cells" "I") (List.mem_of_getElem? (i := 1) rfl)) (fun _ h9 => h9) rfl (by decide +kernel) rfl rfl (Nat.le_of_ble_eq_true rfl) dX4_readCell_67 (fun H locs hP hD hS => ?_)
      have hP : va_P D vwCl [(aD, .inr (0, [.int qli, .int (nI qtp), .int qlw, .int qod, .int (nI (qnc + 1)), .int (nI qnr), .int (nI qno), .int (nI qna), .int qdr, .int qlo, .ref qr0, .ref qr1, .ref qr2, .ref qr3, .ref qr4])), (qr0, .inl (cs 1, 3, .inl (upd qf0 ((nI qnc).toNatClampNeg) 1))), (aR, .inr (4, [.ref aT, .ref aD, .int rt1_6, .int (nI rs1_6), .int (nI ra1_6), .int rn1_6, .int rp, .int rk, .int rf])), (aT, .inr (7, [.ref tb, .int (nI nt)])), (tb, .inl (cs 0, 400, .inl ft))] H := hP
      have hD : va_D A [(aD, .inr (0, [.int qli, .int (nI qtp), .int qlw, .int qod, .int (nI (qnc + 1)), .int (nI qnr), .int (nI qno), .int (nI qna), .int qdr, .int qlo, .ref qr0, .ref qr1, .ref qr2, .ref qr3, .ref qr4])), (qr0, .inl (cs 1, 3, .inl (upd qf0 ((nI qnc).toNatClampNeg) 1))), (aR, .inr (4, [.ref aT, .ref aD, .int rt1_6, .int (nI rs1_6), .int (nI ra1_6), .int rn1_6, .int rp, .int rk, .int rf])), (aT, .inr (7, [.ref tb, .int (nI nt)])), (tb, .inl (cs 0, 400, .inl ft))] := hD
      refine lv_iconst (v := 1) hx hb dX4_readCell_70 (by decide) ?_
      exact ret_z hx hb hr hlk hS (Nat.le_of_ble_eq_true rfl) (Nat.le_of_ble_eq_true rfl) (by decide) (rt1_6, rs1_6, ra1_6, rn1_6, rk, rf, qnc + 1, upd qf0 ((nI qnc).toNatClampNeg) 1) (⟨(by omega), (by omega), (by omega), Or.inl ⟨rfl, trivial⟩⟩) (hP.sub [2, 3, 4, 0, 1] rfl) (hD.sub [2, 3, 4, 0, 1] (by decide) rfl) dX4_readCell_71
    ·
      refine lv_istore_n (lv' := [(1, .int 2), (0, .ref aR)]) hx hb dX4_readCell_25 rfl hl (by decide) rfl (fun ls hl => ?_)
      refine lv_iload_n hx hb dX4_readCell_26 rfl (lv_at hl 0 rfl) ?_
      refine lv_iconst (v := (-1)) hx hb dX4_readCell_27 (by decide) ?_
      refine lv_icmp_ne (tgt := 37) hx hb dX4_readCell_28 (by decide) (fun _ => ?_) (fun h9 => absurd h9 (by decide))
      refine lv_aload_n hx hb dX4_readCell_37 rfl (lv_at hl 1 rfl) ?_
      refine aft_v (wr := [(aD, .inr (0, [.int qli, .int (nI qtp), .int qlw, .int qod, .int (nI qnc), .int (nI qnr), .int (nI qno), .int (nI qna), .int qdr, .int qlo, .ref qr0, .ref qr1, .ref qr2, .ref qr3, .ref qr4])), (qr0, .inl (cs 1, 3, .inl qf0))]) hP hD hS hA [2, 3, 4] [0, 1] rfl rfl (by decide) (by decide) (run_v (As := []) (rest := []) hFix hK hE hP hD [2, 3, 4] (k_X4_next l D cs _ aR aT aD rt1_2 rn1_2 rp rk rf tb ft rs1_2 ra1_2 nt (by first | assumption | decide | omega) (by first | assumption | decide | omega)) (cwV 0 hts gc_X4_readCell_46_X4_next rfl rfl rfl (by decide +kernel) ⟨Nat.le_of_ble_eq_true rfl, Nat.le_of_ble_eq_true rfl⟩) rfl (by decide) rfl rfl rfl hl.1 rfl (Nat.le_of_ble_eq_true rfl) dX4_readCell_38 ⟨Nat.le_of_ble_eq_true rfl, Nat.le_of_ble_eq_true rfl⟩) (fun u_7 H locs hq_7 hP hD hS => ?_)
      obtain ⟨rt1_7, rs1_7, ra1_7, rn1_7⟩ := u_7
      have hP : va_P D vwCl [(aD, .inr (0, [.int qli, .int (nI qtp), .int qlw, .int qod, .int (nI qnc), .int (nI qnr), .int (nI qno), .int (nI qna), .int qdr, .int qlo, .ref qr0, .ref qr1, .ref qr2, .ref qr3, .ref qr4])), (qr0, .inl (cs 1, 3, .inl qf0)), (aR, .inr (4, [.ref aT, .ref aD, .int rt1_7, .int (nI rs1_7), .int (nI ra1_7), .int rn1_7, .int rp, .int rk, .int rf])), (aT, .inr (7, [.ref tb, .int (nI nt)])), (tb, .inl (cs 0, 400, .inl ft))] H := hP
      have hD : va_D A [(aD, .inr (0, [.int qli, .int (nI qtp), .int qlw, .int qod, .int (nI qnc), .int (nI qnr), .int (nI qno), .int (nI qna), .int qdr, .int qlo, .ref qr0, .ref qr1, .ref qr2, .ref qr3, .ref qr4])), (qr0, .inl (cs 1, 3, .inl qf0)), (aR, .inr (4, [.ref aT, .ref aD, .int rt1_7, .int (nI rs1_7), .int (nI ra1_7), .int rn1_7, .int rp, .int rk, .int rf])), (aT, .inr (7, [.ref tb, .int (nI nt)])), (tb, .inl (cs 0, 400, .inl ft))] := hD
      replace hq_7 : (rs1_7 ≤ ra1_7) ∧ (ra1_7 ≤ nt) := hq_7
      obtain ⟨hp_7_0, hp_7_1⟩ := hq_7
      refine lv_aload_n hx hb dX4_readCell_41 rfl (lv_at hl 1 rfl) ?_
      refine va_get (D := D) (ci := 4) (v := .ref aD) (C := RX4) (T := TX4) (N := 9) hx hb hts iuX4_readCell_X4 hown hK hP 2 rfl rfl 1 (by decide) (htw (.fieldLink RX4 37 "MergeJudge$Reader" "draft" "LMergeJudge$Base;") (List.mem_of_getElem? (i := 0) rfl)) (fun _ h9 => h9) rfl dX4_readCell_42 ?_
      refine va_get (D := D) (ci := 0) (v := .ref qr0) (C := RX0) (T := TX0) (N := 15) hx hb hts iuX4_readCell_X0 hown hK hP 0 rfl rfl 10 (by decide) (htw (.fieldLink RX4 110 "MergeJudge$Base" "kinds" "[I") (List.mem_of_getElem? (i := 12) rfl)) (fun _ h9 => h9) rfl dX4_readCell_45 ?_
      refine lv_aload_n hx hb dX4_readCell_48 rfl (lv_at hl 1 rfl) ?_
      refine va_get (D := D) (ci := 4) (v := .ref aD) (C := RX4) (T := TX4) (N := 9) hx hb hts iuX4_readCell_X4 hown hK hP 2 rfl rfl 1 (by decide) (htw (.fieldLink RX4 37 "MergeJudge$Reader" "draft" "LMergeJudge$Base;") (List.mem_of_getElem? (i := 0) rfl)) (fun _ h9 => h9) rfl dX4_readCell_49 ?_
      refine va_get (D := D) (ci := 0) (v := .int (nI qnc)) (C := RX0) (T := TX0) (N := 15) hx hb hts iuX4_readCell_X0 hown hK hP 0 rfl rfl 4 (by decide) (htw (.fieldLink RX4 103 "MergeJudge$Base" "cells" "I") (List.mem_of_getElem? (i := 1) rfl)) (fun _ h9 => h9) rfl dX4_readCell_52 ?_
      refine lv_iload_n hx hb dX4_readCell_55 rfl (lv_at hl 0 rfl) ?_
      refine va_iast hx hb hK hP hD hS 1 1 rfl rfl (vp_in_nI (by omega) (by omega)) dX4_readCell_56 (fun H locs hP hD hS => ?_)
      have hP : va_P D vwCl [(aD, .inr (0, [.int qli, .int (nI qtp), .int qlw, .int qod, .int (nI qnc), .int (nI qnr), .int (nI qno), .int (nI qna), .int qdr, .int qlo, .ref qr0, .ref qr1, .ref qr2, .ref qr3, .ref qr4])), (qr0, .inl (cs 1, 3, .inl (upd qf0 ((nI qnc).toNatClampNeg) 2))), (aR, .inr (4, [.ref aT, .ref aD, .int rt1_7, .int (nI rs1_7), .int (nI ra1_7), .int rn1_7, .int rp, .int rk, .int rf])), (aT, .inr (7, [.ref tb, .int (nI nt)])), (tb, .inl (cs 0, 400, .inl ft))] H := hP
      have hD : va_D A [(aD, .inr (0, [.int qli, .int (nI qtp), .int qlw, .int qod, .int (nI qnc), .int (nI qnr), .int (nI qno), .int (nI qna), .int qdr, .int qlo, .ref qr0, .ref qr1, .ref qr2, .ref qr3, .ref qr4])), (qr0, .inl (cs 1, 3, .inl (upd qf0 ((nI qnc).toNatClampNeg) 2))), (aR, .inr (4, [.ref aT, .ref aD, .int rt1_7, .int (nI rs1_7), .int (nI ra1_7), .int rn1_7, .int rp, .int rk, .int rf])), (aT, .inr (7, [.ref tb, .int (nI nt)])), (tb, .inl (cs 0, 400, .inl ft))] := hD
      refine lv_aload_n hx hb dX4_readCell_57 rfl (lv_at hl 1 rfl) ?_
      refine va_get (D := D) (ci := 4) (v := .ref aD) (C := RX4) (T := TX4) (N := 9) hx hb hts iuX4_readCell_X4 hown hK hP 2 rfl rfl 1 (by decide) (htw (.fieldLink RX4 37 "MergeJudge$Reader" "draft" "LMergeJudge$Base;") (List.mem_of_getElem? (i := 0) rfl)) (fun _ h9 => h9) rfl dX4_readCell_58 ?_
      refine lv_dup hx hb dX4_readCell_61 rfl ?_
      refine va_get (D := D) (ci := 0) (v := .int (nI qnc)) (C := RX0) (T := TX0) (N := 15) hx hb hts iuX4_readCell_X0 hown hK hP 0 rfl rfl 4 (by decide) (htw (.fieldLink RX4 103 "MergeJudge$Base" "cells" "I") (List.mem_of_getElem? (i := 1) rfl)) (fun _ h9 => h9) rfl dX4_readCell_62 ?_
      refine lv_iconst (v := 1) hx hb dX4_readCell_65 (by decide) ?_
      refine lv_iadd hx hb dX4_readCell_66 ?_
      refine cf_i (nI (qnc + 1)) (nI_add qnc 1) ?_
      refine va_put (D := D) (ci := 0) (v := .int (nI (qnc + 1))) (ty := .int) (C := RX0) (T := TX0) (N := 15) hx hb hts iuX4_readCell_X0 tyX0 tyX0_ok nmX0 hown hK hP hD hS 0 rfl rfl 4 (by decide) (htw (.fieldLink RX4 103 "MergeJudge$Base" "cells" "I") (List.mem_of_getElem? (i := 1) rfl)) (fun _ h9 => h9) rfl (by decide +kernel) rfl rfl (Nat.le_of_ble_eq_true rfl) dX4_readCell_67 (fun H locs hP hD hS => ?_)
      have hP : va_P D vwCl [(aD, .inr (0, [.int qli, .int (nI qtp), .int qlw, .int qod, .int (nI (qnc + 1)), .int (nI qnr), .int (nI qno), .int (nI qna), .int qdr, .int qlo, .ref qr0, .ref qr1, .ref qr2, .ref qr3, .ref qr4])), (qr0, .inl (cs 1, 3, .inl (upd qf0 ((nI qnc).toNatClampNeg) 2))), (aR, .inr (4, [.ref aT, .ref aD, .int rt1_7, .int (nI rs1_7), .int (nI ra1_7), .int rn1_7, .int rp, .int rk, .int rf])), (aT, .inr (7, [.ref tb, .int (nI nt)])), (tb, .inl (cs 0, 400, .inl ft))] H := hP
      have hD : va_D A [(aD, .inr (0, [.int qli, .int (nI qtp), .int qlw, .int qod, .int (nI (qnc + 1)), .int (nI qnr), .int (nI qno), .int (nI qna), .int qdr, .int qlo, .ref qr0, .ref qr1, .ref qr2, .ref qr3, .ref qr4])), (qr0, .inl (cs 1, 3, .inl (upd qf0 ((nI qnc).toNatClampNeg) 2))), (aR, .inr (4, [.ref aT, .ref aD, .int rt1_7, .int (nI rs1_7), .int (nI ra1_7), .int rn1_7, .int rp, .int rk, .int rf])), (aT, .inr (7, [.ref tb, .int (nI nt)])), (tb, .inl (cs 0, 400, .inl ft))] := hD
      refine lv_iconst (v := 1) hx hb dX4_readCell_70 (by decide) ?_
      exact ret_z hx hb hr hlk hS (Nat.le_of_ble_eq_true rfl) (Nat.le_of_ble_eq_true rfl) (by decide) (rt1_7, rs1_7, ra1_7, rn1_7, rk, rf, qnc + 1, upd qf0 ((nI qnc).toNatClampNeg) 2) (⟨(by omega), (by omega), (by omega), Or.inl ⟨rfl, trivial⟩⟩) (hP.sub [2, 3, 4, 0, 1] rfl) (hD.sub [2, 3, 4, 0, 1] (by decide) rfl) dX4_readCell_71
    ·
      refine lv_istore_n (lv' := [(1, .int 3), (0, .ref aR)]) hx hb dX4_readCell_25 rfl hl (by decide) rfl (fun ls hl => ?_)
      refine lv_iload_n hx hb dX4_readCell_26 rfl (lv_at hl 0 rfl) ?_
      refine lv_iconst (v := (-1)) hx hb dX4_readCell_27 (by decide) ?_
      refine lv_icmp_ne (tgt := 37) hx hb dX4_readCell_28 (by decide) (fun _ => ?_) (fun h9 => absurd h9 (by decide))
      refine lv_aload_n hx hb dX4_readCell_37 rfl (lv_at hl 1 rfl) ?_
      refine aft_v (wr := [(aD, .inr (0, [.int qli, .int (nI qtp), .int qlw, .int qod, .int (nI qnc), .int (nI qnr), .int (nI qno), .int (nI qna), .int qdr, .int qlo, .ref qr0, .ref qr1, .ref qr2, .ref qr3, .ref qr4])), (qr0, .inl (cs 1, 3, .inl qf0))]) hP hD hS hA [2, 3, 4] [0, 1] rfl rfl (by decide) (by decide) (run_v (As := []) (rest := []) hFix hK hE hP hD [2, 3, 4] (k_X4_next l D cs _ aR aT aD rt1_2 rn1_2 rp rk rf tb ft rs1_2 ra1_2 nt (by first | assumption | decide | omega) (by first | assumption | decide | omega)) (cwV 0 hts gc_X4_readCell_46_X4_next rfl rfl rfl (by decide +kernel) ⟨Nat.le_of_ble_eq_true rfl, Nat.le_of_ble_eq_true rfl⟩) rfl (by decide) rfl rfl rfl hl.1 rfl (Nat.le_of_ble_eq_true rfl) dX4_readCell_38 ⟨Nat.le_of_ble_eq_true rfl, Nat.le_of_ble_eq_true rfl⟩) (fun u_8 H locs hq_8 hP hD hS => ?_)
      obtain ⟨rt1_8, rs1_8, ra1_8, rn1_8⟩ := u_8
      have hP : va_P D vwCl [(aD, .inr (0, [.int qli, .int (nI qtp), .int qlw, .int qod, .int (nI qnc), .int (nI qnr), .int (nI qno), .int (nI qna), .int qdr, .int qlo, .ref qr0, .ref qr1, .ref qr2, .ref qr3, .ref qr4])), (qr0, .inl (cs 1, 3, .inl qf0)), (aR, .inr (4, [.ref aT, .ref aD, .int rt1_8, .int (nI rs1_8), .int (nI ra1_8), .int rn1_8, .int rp, .int rk, .int rf])), (aT, .inr (7, [.ref tb, .int (nI nt)])), (tb, .inl (cs 0, 400, .inl ft))] H := hP
      have hD : va_D A [(aD, .inr (0, [.int qli, .int (nI qtp), .int qlw, .int qod, .int (nI qnc), .int (nI qnr), .int (nI qno), .int (nI qna), .int qdr, .int qlo, .ref qr0, .ref qr1, .ref qr2, .ref qr3, .ref qr4])), (qr0, .inl (cs 1, 3, .inl qf0)), (aR, .inr (4, [.ref aT, .ref aD, .int rt1_8, .int (nI rs1_8), .int (nI ra1_8), .int rn1_8, .int rp, .int rk, .int rf])), (aT, .inr (7, [.ref tb, .int (nI nt)])), (tb, .inl (cs 0, 400, .inl ft))] := hD
      replace hq_8 : (rs1_8 ≤ ra1_8) ∧ (ra1_8 ≤ nt) := hq_8
      obtain ⟨hp_8_0, hp_8_1⟩ := hq_8
      refine lv_aload_n hx hb dX4_readCell_41 rfl (lv_at hl 1 rfl) ?_
      refine va_get (D := D) (ci := 4) (v := .ref aD) (C := RX4) (T := TX4) (N := 9) hx hb hts iuX4_readCell_X4 hown hK hP 2 rfl rfl 1 (by decide) (htw (.fieldLink RX4 37 "MergeJudge$Reader" "draft" "LMergeJudge$Base;") (List.mem_of_getElem? (i := 0) rfl)) (fun _ h9 => h9) rfl dX4_readCell_42 ?_
      refine va_get (D := D) (ci := 0) (v := .ref qr0) (C := RX0) (T := TX0) (N := 15) hx hb hts iuX4_readCell_X0 hown hK hP 0 rfl rfl 10 (by decide) (htw (.fieldLink RX4 110 "MergeJudge$Base" "kinds" "[I") (List.mem_of_getElem? (i := 12) rfl)) (fun _ h9 => h9) rfl dX4_readCell_45 ?_
      refine lv_aload_n hx hb dX4_readCell_48 rfl (lv_at hl 1 rfl) ?_
      refine va_get (D := D) (ci := 4) (v := .ref aD) (C := RX4) (T := TX4) (N := 9) hx hb hts iuX4_readCell_X4 hown hK hP 2 rfl rfl 1 (by decide) (htw (.fieldLink RX4 37 "MergeJudge$Reader" "draft" "LMergeJudge$Base;") (List.mem_of_getElem? (i := 0) rfl)) (fun _ h9 => h9) rfl dX4_readCell_49 ?_
      refine va_get (D := D) (ci := 0) (v := .int (nI qnc)) (C := RX0) (T := TX0) (N := 15) hx hb hts iuX4_readCell_X0 hown hK hP 0 rfl rfl 4 (by decide) (htw (.fieldLink RX4 103 "MergeJudge$Base" "cells" "I") (List.mem_of_getElem? (i := 1) rfl)) (fun _ h9 => h9) rfl dX4_readCell_52 ?_
      refine lv_iload_n hx hb dX4_readCell_55 rfl (lv_at hl 0 rfl) ?_
      refine va_iast hx hb hK hP hD hS 1 1 rfl rfl (vp_in_nI (by omega) (by omega)) dX4_readCell_56 (fun H locs hP hD hS => ?_)
      have hP : va_P D vwCl [(aD, .inr (0, [.int qli, .int (nI qtp), .int qlw, .int qod, .int (nI qnc), .int (nI qnr), .int (nI qno), .int (nI qna), .int qdr, .int qlo, .ref qr0, .ref qr1, .ref qr2, .ref qr3, .ref qr4])), (qr0, .inl (cs 1, 3, .inl (upd qf0 ((nI qnc).toNatClampNeg) 3))), (aR, .inr (4, [.ref aT, .ref aD, .int rt1_8, .int (nI rs1_8), .int (nI ra1_8), .int rn1_8, .int rp, .int rk, .int rf])), (aT, .inr (7, [.ref tb, .int (nI nt)])), (tb, .inl (cs 0, 400, .inl ft))] H := hP
      have hD : va_D A [(aD, .inr (0, [.int qli, .int (nI qtp), .int qlw, .int qod, .int (nI qnc), .int (nI qnr), .int (nI qno), .int (nI qna), .int qdr, .int qlo, .ref qr0, .ref qr1, .ref qr2, .ref qr3, .ref qr4])), (qr0, .inl (cs 1, 3, .inl (upd qf0 ((nI qnc).toNatClampNeg) 3))), (aR, .inr (4, [.ref aT, .ref aD, .int rt1_8, .int (nI rs1_8), .int (nI ra1_8), .int rn1_8, .int rp, .int rk, .int rf])), (aT, .inr (7, [.ref tb, .int (nI nt)])), (tb, .inl (cs 0, 400, .inl ft))] := hD
      refine lv_aload_n hx hb dX4_readCell_57 rfl (lv_at hl 1 rfl) ?_
      refine va_get (D := D) (ci := 4) (v := .ref aD) (C := RX4) (T := TX4) (N := 9) hx hb hts iuX4_readCell_X4 hown hK hP 2 rfl rfl 1 (by decide) (htw (.fieldLink RX4 37 "MergeJudge$Reader" "draft" "LMergeJudge$Base;") (List.mem_of_getElem? (i := 0) rfl)) (fun _ h9 => h9) rfl dX4_readCell_58 ?_
      refine lv_dup hx hb dX4_readCell_61 rfl ?_
      refine va_get (D := D) (ci := 0) (v := .int (nI qnc)) (C := RX0) (T := TX0) (N := 15) hx hb hts iuX4_readCell_X0 hown hK hP 0 rfl rfl 4 (by decide) (htw (.fieldLink RX4 103 "MergeJudge$Base" "cells" "I") (List.mem_of_getElem? (i := 1) rfl)) (fun _ h9 => h9) rfl dX4_readCell_62 ?_
      refine lv_iconst (v := 1) hx hb dX4_readCell_65 (by decide) ?_
      refine lv_iadd hx hb dX4_readCell_66 ?_
      refine cf_i (nI (qnc + 1)) (nI_add qnc 1) ?_
      refine va_put (D := D) (ci := 0) (v := .int (nI (qnc + 1))) (ty := .int) (C := RX0) (T := TX0) (N := 15) hx hb hts iuX4_readCell_X0 tyX0 tyX0_ok nmX0 hown hK hP hD hS 0 rfl rfl 4 (by decide) (htw (.fieldLink RX4 103 "MergeJudge$Base" "cells" "I") (List.mem_of_getElem? (i := 1) rfl)) (fun _ h9 => h9) rfl (by decide +kernel) rfl rfl (Nat.le_of_ble_eq_true rfl) dX4_readCell_67 (fun H locs hP hD hS => ?_)
      have hP : va_P D vwCl [(aD, .inr (0, [.int qli, .int (nI qtp), .int qlw, .int qod, .int (nI (qnc + 1)), .int (nI qnr), .int (nI qno), .int (nI qna), .int qdr, .int qlo, .ref qr0, .ref qr1, .ref qr2, .ref qr3, .ref qr4])), (qr0, .inl (cs 1, 3, .inl (upd qf0 ((nI qnc).toNatClampNeg) 3))), (aR, .inr (4, [.ref aT, .ref aD, .int rt1_8, .int (nI rs1_8), .int (nI ra1_8), .int rn1_8, .int rp, .int rk, .int rf])), (aT, .inr (7, [.ref tb, .int (nI nt)])), (tb, .inl (cs 0, 400, .inl ft))] H := hP
      have hD : va_D A [(aD, .inr (0, [.int qli, .int (nI qtp), .int qlw, .int qod, .int (nI (qnc + 1)), .int (nI qnr), .int (nI qno), .int (nI qna), .int qdr, .int qlo, .ref qr0, .ref qr1, .ref qr2, .ref qr3, .ref qr4])), (qr0, .inl (cs 1, 3, .inl (upd qf0 ((nI qnc).toNatClampNeg) 3))), (aR, .inr (4, [.ref aT, .ref aD, .int rt1_8, .int (nI rs1_8), .int (nI ra1_8), .int rn1_8, .int rp, .int rk, .int rf])), (aT, .inr (7, [.ref tb, .int (nI nt)])), (tb, .inl (cs 0, 400, .inl ft))] := hD
      refine lv_iconst (v := 1) hx hb dX4_readCell_70 (by decide) ?_
      exact ret_z hx hb hr hlk hS (Nat.le_of_ble_eq_true rfl) (Nat.le_of_ble_eq_true rfl) (by decide) (rt1_8, rs1_8, ra1_8, rn1_8, rk, rf, qnc + 1, upd qf0 ((nI qnc).toNatClampNeg) 3) (⟨(by omega), (by omega), (by omega), Or.inl ⟨rfl, trivial⟩⟩) (hP.sub [2, 3, 4, 0, 1] rfl) (hD.sub [2, 3, 4, 0, 1] (by decide) rfl) dX4_readCell_71
  ·
    have hn_1 := blt_f (a := qnc) (b := 3) c_1 (by omega) (by omega)
    refine lv_aload_n hx hb dX4_readCell_11 rfl (lv_at hl 0 rfl) ?_
    refine lv_iconst (v := 3) hx hb dX4_readCell_12 (by decide) ?_
    refine aft_i (wr := [(aT, .inr (7, [.ref tb, .int (nI nt)])), (tb, .inl (cs 0, 400, .inl ft)), (aD, .inr (0, [.int qli, .int (nI qtp), .int qlw, .int qod, .int (nI qnc), .int (nI qnr), .int (nI qno), .int (nI qna), .int qdr, .int qlo, .ref qr0, .ref qr1, .ref qr2, .ref qr3, .ref qr4])), (qr0, .inl (cs 1, 3, .inl qf0))]) hP hD hS hA [0] [1, 2, 3, 4] rfl rfl (by decide) (by decide) (run_v (As := [.int 3]) (rest := []) hFix hK hE hP hD [0] (k_X4_failed l D cs _ aR 3 aT aD rt rn rp rk rf rs ra) (cwV 1 hts gc_X4_readCell_78_X4_failed rfl rfl rfl (by decide +kernel) ⟨Nat.le_of_ble_eq_true rfl, Nat.le_of_ble_eq_true rfl⟩) rfl (by decide) rfl rfl rfl hl.1 rfl (Nat.le_of_ble_eq_true rfl) dX4_readCell_13 ⟨Nat.le_of_ble_eq_true rfl, Nat.le_of_ble_eq_true rfl⟩) (fun r_9 u_9 H locs hq_9 hP hD hS => ?_)
    obtain ⟨rk1_9, rf1_9⟩ := u_9
    have hP : va_P D vwCl [(aT, .inr (7, [.ref tb, .int (nI nt)])), (tb, .inl (cs 0, 400, .inl ft)), (aD, .inr (0, [.int qli, .int (nI qtp), .int qlw, .int qod, .int (nI qnc), .int (nI qnr), .int (nI qno), .int (nI qna), .int qdr, .int qlo, .ref qr0, .ref qr1, .ref qr2, .ref qr3, .ref qr4])), (qr0, .inl (cs 1, 3, .inl qf0)), (aR, .inr (4, [.ref aT, .ref aD, .int rt, .int (nI rs), .int (nI ra), .int rn, .int rp, .int rk1_9, .int rf1_9]))] H := hP
    have hD : va_D A [(aT, .inr (7, [.ref tb, .int (nI nt)])), (tb, .inl (cs 0, 400, .inl ft)), (aD, .inr (0, [.int qli, .int (nI qtp), .int qlw, .int qod, .int (nI qnc), .int (nI qnr), .int (nI qno), .int (nI qna), .int qdr, .int qlo, .ref qr0, .ref qr1, .ref qr2, .ref qr3, .ref qr4])), (qr0, .inl (cs 1, 3, .inl qf0)), (aR, .inr (4, [.ref aT, .ref aD, .int rt, .int (nI rs), .int (nI ra), .int rn, .int rp, .int rk1_9, .int rf1_9]))] := hD
    replace hq_9 : ((r_9 = 0 ∧ True)) := hq_9
    obtain ⟨rfl, hq_9⟩ := hq_9
    ·
      exact ret_z hx hb hr hlk hS (Nat.le_of_ble_eq_true rfl) (Nat.le_of_ble_eq_true rfl) (by decide) (rt, rs, ra, rn, rk1_9, rf1_9, qnc, qf0) (⟨(by omega), (by omega), (by omega), Or.inr (⟨rfl, trivial⟩)⟩) (hP.sub [4, 0, 1, 2, 3] rfl) (hD.sub [4, 0, 1, 2, 3] (by decide) rfl) dX4_readCell_16

set_option maxHeartbeats 4000000 in
set_option maxRecDepth 100000 in
theorem k_X4_highestOf (l : Launch) (D : va_G) (cs : Nat → ClassId) (sz : Nat) (aR : Nat) (so : Int32) (aT : Nat) (aD : Nat) (rt : Int32) (rn : Int32) (rp : Int32) (rk : Int32) (rf : Int32) (qli : Int32) (qlw : Int32) (qod : Int32) (qdr : Int32) (qlo : Int32) (qr0 : Nat) (qr1 : Nat) (qr2 : Nat) (qr3 : Nat) (qr4 : Nat) (rs : Nat) (ra : Nat) (qtp : Nat) (qnc : Nat) (qnr : Nat) (qno : Nat) (qna : Nat) (hqtp : qtp ≤ 3) (hqnc : qnc ≤ 3) (hqnr : qnr ≤ 5) (hqno : qno ≤ 5) (hqna : qna ≤ 20) : Mi l D cs yX4_highestOf W_X4_highestOf 0 0 0 0 [.ref aR, .int so] [(aR, .inr (4, [.ref aT, .ref aD, .int rt, .int (nI rs), .int (nI ra), .int rn, .int rp, .int rk, .int rf])), (aD, .inr (0, [.int qli, .int (nI qtp), .int qlw, .int qod, .int (nI qnc), .int (nI qnr), .int (nI qno), .int (nI qna), .int qdr, .int qlo, .ref qr0, .ref qr1, .ref qr2, .ref qr3, .ref qr4]))] sz (fun (r : Int32) (u : Unit) => True) (fun (u : Unit) => [(aR, .inr (4, [.ref aT, .ref aD, .int rt, .int (nI rs), .int (nI ra), .int rn, .int rp, .int rk, .int rf])), (aD, .inr (0, [.int qli, .int (nI qtp), .int qlw, .int qod, .int (nI qnc), .int (nI qnr), .int (nI qno), .int (nI qna), .int qdr, .int qlo, .ref qr0, .ref qr1, .ref qr2, .ref qr3, .ref qr4]))]) := by
  refine ent (D := D) (cs := cs) (y := yX4_highestOf) (ws := W_X4_highestOf) (As := [.ref aR, .int so]) (W0 := [(aR, .inr (4, [.ref aT, .ref aD, .int rt, .int (nI rs), .int (nI ra), .int rn, .int rp, .int rk, .int rf])), (aD, .inr (0, [.int qli, .int (nI qtp), .int qlw, .int qod, .int (nI qnc), .int (nI qnr), .int (nI qno), .int (nI qna), .int qdr, .int qlo, .ref qr0, .ref qr1, .ref qr2, .ref qr3, .ref qr4]))]) (Qx := fun A => va_Qi (fun (r : Int32) (u : Unit) => True) (mpost D A (fun (u : Unit) => [(aR, .inr (4, [.ref aT, .ref aD, .int rt, .int (nI rs), .int (nI ra), .int rn, .int rp, .int rk, .int rf])), (aD, .inr (0, [.int qli, .int (nI qtp), .int qlw, .int qod, .int (nI qnc), .int (nI qnr), .int (nI qno), .int (nI qna), .int qdr, .int qlo, .ref qr0, .ref qr1, .ref qr2, .ref qr3, .ref qr4]))])) A) (maxL := 2) (ret := (some .int)) (by decide) rfl (Nat.le_of_ble_eq_true rfl) ?_
  intro p e s m below meth c A ls hx hb hr hml hlk hown hts hin hK hE hP hD hA hS hl
  have hl : lv_has ls 2 [(0, .ref aR), (1, .int so)] := hl
  generalize hHe : s.heap = H at hP
  have hS : va_S A s.heap H [] := hHe ▸ hS
  generalize hLe : ([] : List Loc) = locs at hS ⊢
  have htw : ∀ w ∈ O_X4_highestOf, w.before ([.ref aR, .int so] : List Value).toArray s = true := fun w h => hts w (List.mem_cons_of_mem _ (List.mem_append_left _ h))
  have hFix := (⟨hx, hb, hml, hown, hts⟩ : CallFix p m c _ _ s _ _ _)
  refine lv_iload_n hx hb dX4_highestOf_0 rfl (lv_at hl 1 rfl) ?_
  refine lv_bipush (v := 65) hx hb dX4_highestOf_1 (by decide) ?_
  refine lv_icmp_eq (tgt := 12) hx hb dX4_highestOf_3 (by decide) (fun c_1 => ?_) (fun c_1 => ?_)
  ·
    refine lv_aload_n hx hb dX4_highestOf_12 rfl (lv_at hl 0 rfl) ?_
    refine va_get (D := D) (ci := 4) (v := .ref aD) (C := RX4) (T := TX4) (N := 9) hx hb hts iuX4_highestOf_X4 hown hK hP 0 rfl rfl 1 (by decide) (htw (.fieldLink RX4 37 "MergeJudge$Reader" "draft" "LMergeJudge$Base;") (List.mem_of_getElem? (i := 0) rfl)) (fun _ h9 => h9) rfl dX4_highestOf_13 ?_
    refine va_get (D := D) (ci := 0) (v := .int (nI qnc)) (C := RX0) (T := TX0) (N := 15) hx hb hts iuX4_highestOf_X0 hown hK hP 1 rfl rfl 4 (by decide) (htw (.fieldLink RX4 103 "MergeJudge$Base" "cells" "I") (List.mem_of_getElem? (i := 1) rfl)) (fun _ h9 => h9) rfl dX4_highestOf_16 ?_
    refine lv_iconst (v := 1) hx hb dX4_highestOf_19 (by decide) ?_
    refine lv_isub hx hb dX4_highestOf_20 ?_
    exact ret_i hx hb hr hlk hS (Nat.le_of_ble_eq_true rfl) (Nat.le_of_ble_eq_true rfl) () (trivial) (hP.sub [0, 1] rfl) (hD.sub [0, 1] (by decide) rfl) dX4_highestOf_21
  ·
    refine lv_iload_n hx hb dX4_highestOf_6 rfl (lv_at hl 1 rfl) ?_
    refine lv_bipush (v := 66) hx hb dX4_highestOf_7 (by decide) ?_
    refine lv_icmp_ne (tgt := 22) hx hb dX4_highestOf_9 (by decide) (fun c_2 => ?_) (fun c_2 => ?_)
    ·
      refine lv_iload_n hx hb dX4_highestOf_22 rfl (lv_at hl 1 rfl) ?_
      refine lv_bipush (v := 83) hx hb dX4_highestOf_23 (by decide) ?_
      refine lv_icmp_ne (tgt := 33) hx hb dX4_highestOf_25 (by decide) (fun c_3 => ?_) (fun c_3 => ?_)
      ·
        refine lv_aload_n hx hb dX4_highestOf_33 rfl (lv_at hl 0 rfl) ?_
        refine va_get (D := D) (ci := 4) (v := .ref aD) (C := RX4) (T := TX4) (N := 9) hx hb hts iuX4_highestOf_X4 hown hK hP 0 rfl rfl 1 (by decide) (htw (.fieldLink RX4 37 "MergeJudge$Reader" "draft" "LMergeJudge$Base;") (List.mem_of_getElem? (i := 0) rfl)) (fun _ h9 => h9) rfl dX4_highestOf_34 ?_
        refine va_get (D := D) (ci := 0) (v := .int (nI qtp)) (C := RX0) (T := TX0) (N := 15) hx hb hts iuX4_highestOf_X0 hown hK hP 1 rfl rfl 1 (by decide) (htw (.fieldLink RX4 93 "MergeJudge$Base" "top" "I") (List.mem_of_getElem? (i := 2) rfl)) (fun _ h9 => h9) rfl dX4_highestOf_37 ?_
        exact ret_i hx hb hr hlk hS (Nat.le_of_ble_eq_true rfl) (Nat.le_of_ble_eq_true rfl) () (trivial) (hP.sub [0, 1] rfl) (hD.sub [0, 1] (by decide) rfl) dX4_highestOf_40
      ·
        refine lv_bipush (v := 6) hx hb dX4_highestOf_28 (by decide) ?_
        refine lv_goto (tgt := 40) hx hb dX4_highestOf_30 (by decide) ?_
        exact ret_i hx hb hr hlk hS (Nat.le_of_ble_eq_true rfl) (Nat.le_of_ble_eq_true rfl) () (trivial) (hP.sub [0, 1] rfl) (hD.sub [0, 1] (by decide) rfl) dX4_highestOf_40
    ·
      refine lv_aload_n hx hb dX4_highestOf_12 rfl (lv_at hl 0 rfl) ?_
      refine va_get (D := D) (ci := 4) (v := .ref aD) (C := RX4) (T := TX4) (N := 9) hx hb hts iuX4_highestOf_X4 hown hK hP 0 rfl rfl 1 (by decide) (htw (.fieldLink RX4 37 "MergeJudge$Reader" "draft" "LMergeJudge$Base;") (List.mem_of_getElem? (i := 0) rfl)) (fun _ h9 => h9) rfl dX4_highestOf_13 ?_
      refine va_get (D := D) (ci := 0) (v := .int (nI qnc)) (C := RX0) (T := TX0) (N := 15) hx hb hts iuX4_highestOf_X0 hown hK hP 1 rfl rfl 4 (by decide) (htw (.fieldLink RX4 103 "MergeJudge$Base" "cells" "I") (List.mem_of_getElem? (i := 1) rfl)) (fun _ h9 => h9) rfl dX4_highestOf_16 ?_
      refine lv_iconst (v := 1) hx hb dX4_highestOf_19 (by decide) ?_
      refine lv_isub hx hb dX4_highestOf_20 ?_
      exact ret_i hx hb hr hlk hS (Nat.le_of_ble_eq_true rfl) (Nat.le_of_ble_eq_true rfl) () (trivial) (hP.sub [0, 1] rfl) (hD.sub [0, 1] (by decide) rfl) dX4_highestOf_21

set_option maxHeartbeats 4000000 in
set_option maxRecDepth 100000 in
theorem k_X4_passNumbers_r (l : Launch) (D : va_G) (cs : Nat → ClassId) (sz : Nat) (aK aV : Nat → Nat) (aR : Nat) (ki : Int32) (qr1 : Nat) (fo : Nat) (wi : Nat) (aT : Nat) (aD : Nat) (rt : Int32) (rn : Int32) (rp : Int32) (rk : Int32) (rf : Int32) (tb : Nat) (ft : Nat → Int32) (qli : Int32) (qlw : Int32) (qod : Int32) (qdr : Int32) (qlo : Int32) (qr0 : Nat) (qr2 : Nat) (qr3 : Nat) (qr4 : Nat) (qf1 : Nat → Int32) (rs : Nat) (ra : Nat) (nt : Nat) (qtp : Nat) (qnc : Nat) (qnr : Nat) (qno : Nat) (qna : Nat) (hnt : nt ≤ 400) (hqtp : qtp ≤ 3) (hqnc : qnc ≤ 3) (hqnr : qnr ≤ 5) (hqno : qno ≤ 5) (hqna : qna ≤ 20) (ha_fo : fo < 21) (hra : rs ≤ ra) (hrt : ra ≤ nt) (hnj : wi < nJS) : Si l D cs aK aV yX4_passNumbers W_X4_passNumbers 4 85 0 0 [.ref aR, .int ki, .ref (aK wi), .ref qr1, .int (nI fo), .int 5] [(aR, .inr (4, [.ref aT, .ref aD, .int rt, .int (nI rs), .int (nI ra), .int rn, .int rp, .int rk, .int rf])), (aT, .inr (7, [.ref tb, .int (nI nt)])), (tb, .inl (cs 0, 400, .inl ft)), (aD, .inr (0, [.int qli, .int (nI qtp), .int qlw, .int qod, .int (nI qnc), .int (nI qnr), .int (nI qno), .int (nI qna), .int qdr, .int qlo, .ref qr0, .ref qr1, .ref qr2, .ref qr3, .ref qr4])), (qr1, .inl (cs 1, 25, .inl qf1))] sz (fun (r : Int32) (u : Int32 × Nat × Nat × Int32 × Int32 × Int32 × (Nat → Int32)) => (u.2.1 ≤ u.2.2.1) ∧ (u.2.2.1 ≤ nt) ∧ ((r = 1 ∧ True) ∨ (r = 0 ∧ True))) (fun (u : Int32 × Nat × Nat × Int32 × Int32 × Int32 × (Nat → Int32)) => [(aR, .inr (4, [.ref aT, .ref aD, .int u.1, .int (nI u.2.1), .int (nI u.2.2.1), .int u.2.2.2.1, .int rp, .int u.2.2.2.2.1, .int u.2.2.2.2.2.1])), (aT, .inr (7, [.ref tb, .int (nI nt)])), (tb, .inl (cs 0, 400, .inl ft)), (aD, .inr (0, [.int qli, .int (nI qtp), .int qlw, .int qod, .int (nI qnc), .int (nI qnr), .int (nI qno), .int (nI qna), .int qdr, .int qlo, .ref qr0, .ref qr1, .ref qr2, .ref qr3, .ref qr4])), (qr1, .inl (cs 1, 25, .inl u.2.2.2.2.2.2))]) := by
  refine entS (D := D) (cs := cs) (y := yX4_passNumbers) (ws := W_X4_passNumbers) (As := [.ref aR, .int ki, .ref (aK wi), .ref qr1, .int (nI fo), .int 5]) (W0 := [(aR, .inr (4, [.ref aT, .ref aD, .int rt, .int (nI rs), .int (nI ra), .int rn, .int rp, .int rk, .int rf])), (aT, .inr (7, [.ref tb, .int (nI nt)])), (tb, .inl (cs 0, 400, .inl ft)), (aD, .inr (0, [.int qli, .int (nI qtp), .int qlw, .int qod, .int (nI qnc), .int (nI qnr), .int (nI qno), .int (nI qna), .int qdr, .int qlo, .ref qr0, .ref qr1, .ref qr2, .ref qr3, .ref qr4])), (qr1, .inl (cs 1, 25, .inl qf1))]) (Qx := fun A => va_Qi (fun (r : Int32) (u : Int32 × Nat × Nat × Int32 × Int32 × Int32 × (Nat → Int32)) => (u.2.1 ≤ u.2.2.1) ∧ (u.2.2.1 ≤ nt) ∧ ((r = 1 ∧ True) ∨ (r = 0 ∧ True))) (mpost D A (fun (u : Int32 × Nat × Nat × Int32 × Int32 × Int32 × (Nat → Int32)) => [(aR, .inr (4, [.ref aT, .ref aD, .int u.1, .int (nI u.2.1), .int (nI u.2.2.1), .int u.2.2.2.1, .int rp, .int u.2.2.2.2.1, .int u.2.2.2.2.2.1])), (aT, .inr (7, [.ref tb, .int (nI nt)])), (tb, .inl (cs 0, 400, .inl ft)), (aD, .inr (0, [.int qli, .int (nI qtp), .int qlw, .int qod, .int (nI qnc), .int (nI qnr), .int (nI qno), .int (nI qna), .int qdr, .int qlo, .ref qr0, .ref qr1, .ref qr2, .ref qr3, .ref qr4])), (qr1, .inl (cs 1, 25, .inl u.2.2.2.2.2.2))])) A) (maxL := 9) (ret := (some .boolean)) (by decide) rfl (Nat.le_of_ble_eq_true rfl) ?_
  intro p e s m below meth c A ls hx hb hr hml hlk hown hts hin hK hE hV hP hD hA hS hl
  have hl : lv_has ls 9 [(0, .ref aR), (1, .int ki), (2, .ref (aK wi)), (3, .ref qr1), (4, .int (nI fo)), (5, .int 5)] := hl
  generalize hHe : s.heap = H at hP
  have hS : va_S A s.heap H [] := hHe ▸ hS
  generalize hLe : ([] : List Loc) = locs at hS ⊢
  have htw : ∀ w ∈ O_X4_passNumbers, w.before ([.ref aR, .int ki, .ref (aK wi), .ref qr1, .int (nI fo), .int 5] : List Value).toArray s = true := fun w h => hts w (List.mem_cons_of_mem _ (List.mem_append_left _ h))
  have hFix := (⟨hx, hb, hml, hown, hts⟩ : CallFix p m c _ _ s _ _ _)
  have hsl := sl_le (i := wi) (by assumption)
  refine lv_iload hx hb dX4_passNumbers_0 (lv_at hl 4 rfl) ?_
  refine lv_if_lt (tgt := 24) hx hb dX4_passNumbers_2 (by decide) (fun h9 => False.elim (nneg_l0 (a := fo) h9 (by omega) (by decide))) (fun _ => ?_)
  refine lv_iload hx hb dX4_passNumbers_5 (lv_at hl 4 rfl) ?_
  refine lv_iload hx hb dX4_passNumbers_7 (lv_at hl 5 rfl) ?_
  refine lv_iadd hx hb dX4_passNumbers_9 ?_
  refine cf_i (nI (fo + 5)) (nI_add fo 5) ?_
  refine lv_aload_n hx hb dX4_passNumbers_10 rfl (lv_at hl 3 rfl) ?_
  refine va_alen (v := 25) hx hb hK hP 4 1 rfl rfl rfl dX4_passNumbers_11 ?_
  refine lv_icmp_gt (tgt := 24) hx hb dX4_passNumbers_12 (by decide) (fun c_2 => ?_) (fun c_2 => ?_)
  ·
    have hn_2 := bgt_t (a := fo + 5) (b := 25) c_2 (by omega) (by omega)
    refine lv_aload_n hx hb dX4_passNumbers_24 rfl (lv_at hl 0 rfl) ?_
    refine lv_iconst (v := 3) hx hb dX4_passNumbers_25 (by decide) ?_
    refine aft_i (wr := [(aT, .inr (7, [.ref tb, .int (nI nt)])), (tb, .inl (cs 0, 400, .inl ft)), (aD, .inr (0, [.int qli, .int (nI qtp), .int qlw, .int qod, .int (nI qnc), .int (nI qnr), .int (nI qno), .int (nI qna), .int qdr, .int qlo, .ref qr0, .ref qr1, .ref qr2, .ref qr3, .ref qr4])), (qr1, .inl (cs 1, 25, .inl qf1))]) hP hD hS hA [0] [1, 2, 3, 4] rfl rfl (by decide) (by decide) (run_v (As := [.int 3]) (rest := []) hFix hK hE hP hD [0] (k_X4_failed l D cs _ aR 3 aT aD rt rn rp rk rf rs ra) (cwV 1 hts gc_X4_passNumbers_78_X4_failed rfl rfl rfl (by decide +kernel) ⟨Nat.le_of_ble_eq_true rfl, Nat.le_of_ble_eq_true rfl⟩) rfl (by decide) rfl rfl rfl hl.1 rfl (Nat.le_of_ble_eq_true rfl) dX4_passNumbers_26 ⟨Nat.le_of_ble_eq_true rfl, Nat.le_of_ble_eq_true rfl⟩) (fun r_3 u_3 H locs hq_3 hP hD hS => ?_)
    obtain ⟨rk1_3, rf1_3⟩ := u_3
    have hP : va_P D vwCl [(aT, .inr (7, [.ref tb, .int (nI nt)])), (tb, .inl (cs 0, 400, .inl ft)), (aD, .inr (0, [.int qli, .int (nI qtp), .int qlw, .int qod, .int (nI qnc), .int (nI qnr), .int (nI qno), .int (nI qna), .int qdr, .int qlo, .ref qr0, .ref qr1, .ref qr2, .ref qr3, .ref qr4])), (qr1, .inl (cs 1, 25, .inl qf1)), (aR, .inr (4, [.ref aT, .ref aD, .int rt, .int (nI rs), .int (nI ra), .int rn, .int rp, .int rk1_3, .int rf1_3]))] H := hP
    have hD : va_D A [(aT, .inr (7, [.ref tb, .int (nI nt)])), (tb, .inl (cs 0, 400, .inl ft)), (aD, .inr (0, [.int qli, .int (nI qtp), .int qlw, .int qod, .int (nI qnc), .int (nI qnr), .int (nI qno), .int (nI qna), .int qdr, .int qlo, .ref qr0, .ref qr1, .ref qr2, .ref qr3, .ref qr4])), (qr1, .inl (cs 1, 25, .inl qf1)), (aR, .inr (4, [.ref aT, .ref aD, .int rt, .int (nI rs), .int (nI ra), .int rn, .int rp, .int rk1_3, .int rf1_3]))] := hD
    replace hq_3 : ((r_3 = 0 ∧ True)) := hq_3
    obtain ⟨rfl, hq_3⟩ := hq_3
    ·
      exact ret_z hx hb hr hlk hS (Nat.le_of_ble_eq_true rfl) (Nat.le_of_ble_eq_true rfl) (by decide) (rt, rs, ra, rn, rk1_3, rf1_3, qf1) (⟨(by omega), (by omega), Or.inr (⟨rfl, trivial⟩)⟩) (hP.sub [4, 0, 1, 2, 3] rfl) (hD.sub [4, 0, 1, 2, 3] (by decide) rfl) dX4_passNumbers_29
  ·
    have hn_2 := bgt_f (a := fo + 5) (b := 25) c_2 (by omega) (by omega)
    refine lv_aload_n hx hb dX4_passNumbers_15 rfl (lv_at hl 2 rfl) ?_
    refine aft_i (wr := [(aR, .inr (4, [.ref aT, .ref aD, .int rt, .int (nI rs), .int (nI ra), .int rn, .int rp, .int rk, .int rf])), (aT, .inr (7, [.ref tb, .int (nI nt)])), (tb, .inl (cs 0, 400, .inl ft)), (aD, .inr (0, [.int qli, .int (nI qtp), .int qlw, .int qod, .int (nI qnc), .int (nI qnr), .int (nI qno), .int (nI qna), .int qdr, .int qlo, .ref qr0, .ref qr1, .ref qr2, .ref qr3, .ref qr4])), (qr1, .inl (cs 1, 25, .inl qf1))]) hP hD hS hA [] [0, 1, 2, 3, 4] rfl rfl (by decide) (by decide) (run_vS (As := []) (rest := []) hFix hK hE hV hP hD hS hA [] (k_J0_length_8abf5 l D cs _ aK aV wi (by first | assumption | decide | omega)) (cwV 0 hts gc_X4_passNumbers_183_J0_length_8abf5 rfl rfl rfl (by decide +kernel) ⟨Nat.le_of_ble_eq_true rfl, Nat.le_of_ble_eq_true rfl⟩) rfl (by decide) (vk_recv hV.1 (by assumption) hS) rfl hl.1 rfl (Nat.le_of_ble_eq_true rfl) dX4_passNumbers_16 ⟨Nat.le_of_ble_eq_true rfl, Nat.le_of_ble_eq_true rfl⟩) (fun r_4 u_4 H locs hq_4 hP hD hS => ?_)
    obtain ⟨j_4, rfl⟩ : ∃ z, z = u_4 := ⟨_, rfl⟩
    have hP : va_P D vwCl [(aR, .inr (4, [.ref aT, .ref aD, .int rt, .int (nI rs), .int (nI ra), .int rn, .int rp, .int rk, .int rf])), (aT, .inr (7, [.ref tb, .int (nI nt)])), (tb, .inl (cs 0, 400, .inl ft)), (aD, .inr (0, [.int qli, .int (nI qtp), .int qlw, .int qod, .int (nI qnc), .int (nI qnr), .int (nI qno), .int (nI qna), .int qdr, .int qlo, .ref qr0, .ref qr1, .ref qr2, .ref qr3, .ref qr4])), (qr1, .inl (cs 1, 25, .inl qf1))] H := hP
    have hD : va_D A [(aR, .inr (4, [.ref aT, .ref aD, .int rt, .int (nI rs), .int (nI ra), .int rn, .int rp, .int rk, .int rf])), (aT, .inr (7, [.ref tb, .int (nI nt)])), (tb, .inl (cs 0, 400, .inl ft)), (aD, .inr (0, [.int qli, .int (nI qtp), .int qlw, .int qod, .int (nI qnc), .int (nI qnr), .int (nI qno), .int (nI qna), .int qdr, .int qlo, .ref qr0, .ref qr1, .ref qr2, .ref qr3, .ref qr4])), (qr1, .inl (cs 1, 25, .inl qf1))] := hD
    replace hq_4 : ((r_4 = nI j_4 ∧ j_4 = sl wi)) := hq_4
    obtain ⟨rfl, hq_4⟩ := hq_4
    ·
      refine lv_iload hx hb dX4_passNumbers_19 (lv_at hl 5 rfl) ?_
      refine lv_icmp_lt (tgt := 30) hx hb dX4_passNumbers_21 (by decide) (fun c_5 => ?_) (fun c_5 => ?_)
      ·
        have hn_5 := blt_t (a := j_4) (b := 5) c_5 (by omega) (by omega)
        refine lv_aload_n hx hb dX4_passNumbers_30 rfl (lv_at hl 3 rfl) ?_
        refine lv_iload hx hb dX4_passNumbers_31 (lv_at hl 4 rfl) ?_
        refine lv_iload_n hx hb dX4_passNumbers_33 rfl (lv_at hl 1 rfl) ?_
        refine va_iast hx hb hK hP hD hS 4 1 rfl rfl (vp_in_nI (by omega) (by omega)) dX4_passNumbers_34 (fun H locs hP hD hS => ?_)
        have hP : va_P D vwCl [(aR, .inr (4, [.ref aT, .ref aD, .int rt, .int (nI rs), .int (nI ra), .int rn, .int rp, .int rk, .int rf])), (aT, .inr (7, [.ref tb, .int (nI nt)])), (tb, .inl (cs 0, 400, .inl ft)), (aD, .inr (0, [.int qli, .int (nI qtp), .int qlw, .int qod, .int (nI qnc), .int (nI qnr), .int (nI qno), .int (nI qna), .int qdr, .int qlo, .ref qr0, .ref qr1, .ref qr2, .ref qr3, .ref qr4])), (qr1, .inl (cs 1, 25, .inl (upd qf1 ((nI fo).toNatClampNeg) ki)))] H := hP
        have hD : va_D A [(aR, .inr (4, [.ref aT, .ref aD, .int rt, .int (nI rs), .int (nI ra), .int rn, .int rp, .int rk, .int rf])), (aT, .inr (7, [.ref tb, .int (nI nt)])), (tb, .inl (cs 0, 400, .inl ft)), (aD, .inr (0, [.int qli, .int (nI qtp), .int qlw, .int qod, .int (nI qnc), .int (nI qnr), .int (nI qno), .int (nI qna), .int qdr, .int qlo, .ref qr0, .ref qr1, .ref qr2, .ref qr3, .ref qr4])), (qr1, .inl (cs 1, 25, .inl (upd qf1 ((nI fo).toNatClampNeg) ki)))] := hD
        refine lv_iconst (v := 1) hx hb dX4_passNumbers_35 (by decide) ?_
        refine lv_istore (lv' := [(6, .int 1), (0, .ref aR), (1, .int ki), (2, .ref (aK wi)), (3, .ref qr1), (4, .int (nI fo)), (5, .int 5)]) hx hb dX4_passNumbers_36 hl (by decide) rfl (fun ls hl => ?_)
        have lp_7 : ∀ (nfu : Nat) (i_6 : Nat) (m0_6 : Nat → Int32) (H : Heap) (locs : List Loc) (ls : Array Slot) (hi_6 : i_6 ≤ 5), 5 - i_6 < nfu → va_P D vwCl [(aR, .inr (4, [.ref aT, .ref aD, .int rt, .int (nI rs), .int (nI ra), .int rn, .int rp, .int rk, .int rf])), (aT, .inr (7, [.ref tb, .int (nI nt)])), (tb, .inl (cs 0, 400, .inl ft)), (aD, .inr (0, [.int qli, .int (nI qtp), .int qlw, .int qod, .int (nI qnc), .int (nI qnr), .int (nI qno), .int (nI qna), .int qdr, .int qlo, .ref qr0, .ref qr1, .ref qr2, .ref qr3, .ref qr4])), (qr1, .inl (cs 1, 25, .inl m0_6))] H → va_D A [(aR, .inr (4, [.ref aT, .ref aD, .int rt, .int (nI rs), .int (nI ra), .int rn, .int rp, .int rk, .int rf])), (aT, .inr (7, [.ref tb, .int (nI nt)])), (tb, .inl (cs 0, 400, .inl ft)), (aD, .inr (0, [.int qli, .int (nI qtp), .int qlw, .int qod, .int (nI qnc), .int (nI qnr), .int (nI qno), .int (nI qna), .int qdr, .int qlo, .ref qr0, .ref qr1, .ref qr2, .ref qr3, .ref qr4])), (qr1, .inl (cs 1, 25, .inl m0_6))] → va_S A s.heap H locs → lv_has ls 9 [(6, .int (nI i_6)), (0, .ref aR), (1, .int ki), (2, .ref (aK wi)), (3, .ref qr1), (4, .int (nI fo)), (5, .int 5)] → W p l e (mRm 4 0 0 85) s m ([.ref aR, .int ki, .ref (aK wi), .ref qr1, .int (nI fo), .int 5] : List Value).toArray below meth c H locs 0 0 (MQ below (va_Qi (fun (r : Int32) (u : Int32 × Nat × Nat × Int32 × Int32 × Int32 × (Nat → Int32)) => (u.2.1 ≤ u.2.2.1) ∧ (u.2.2.1 ≤ nt) ∧ ((r = 1 ∧ True) ∨ (r = 0 ∧ True))) (mpost D A (fun (u : Int32 × Nat × Nat × Int32 × Int32 × Int32 × (Nat → Int32)) => [(aR, .inr (4, [.ref aT, .ref aD, .int u.1, .int (nI u.2.1), .int (nI u.2.2.1), .int u.2.2.2.1, .int rp, .int u.2.2.2.2.1, .int u.2.2.2.2.2.1])), (aT, .inr (7, [.ref tb, .int (nI nt)])), (tb, .inl (cs 0, 400, .inl ft)), (aD, .inr (0, [.int qli, .int (nI qtp), .int qlw, .int qod, .int (nI qnc), .int (nI qnr), .int (nI qno), .int (nI qna), .int qdr, .int qlo, .ref qr0, .ref qr1, .ref qr2, .ref qr3, .ref qr4])), (qr1, .inl (cs 1, 25, .inl u.2.2.2.2.2.2))])) A) ([.ref aR, .int ki, .ref (aK wi), .ref qr1, .int (nI fo), .int 5] : List Value).toArray s 0 0 A) (F0 m 38 ls []) := by
          intro nfu
          induction nfu with
          | zero => intro i_6 m0_6 H locs ls hi_6 hmu; exact absurd hmu (Nat.not_lt_zero _)
          | succ nfu ih =>
            intro i_6 m0_6 H locs ls hi_6 hmu hP hD hS hl
            have ih_lp_7 := @ih
            refine lv_iload hx hb dX4_passNumbers_38 (lv_at hl 0 rfl) ?_
            refine lv_iload hx hb dX4_passNumbers_40 (lv_at hl 6 rfl) ?_
            refine lv_icmp_ge (tgt := 59) hx hb dX4_passNumbers_42 (by decide) (fun c_8 => ?_) (fun c_8 => ?_)
            ·
              have hn_8 := bge_t (a := i_6) (b := 5) c_8 (by omega) (by omega)
              refine lv_iconst (v := 0) hx hb dX4_passNumbers_59 (by decide) ?_
              refine lv_istore (lv' := [(6, .int 0), (0, .ref aR), (1, .int ki), (2, .ref (aK wi)), (3, .ref qr1), (4, .int (nI fo)), (5, .int 5)]) hx hb dX4_passNumbers_60 hl (by decide) rfl (fun ls hl => ?_)
              have lp_9 : ∀ (nfu : Nat) (g0_a : Int32) (g1_a : Nat) (g2_a : Nat) (g3_a : Int32) (g4_a : Nat → Int32) (g5_a : Nat) (H : Heap) (locs : List Loc) (ls : Array Slot) (hw0_a : g5_a ≤ sl wi) (hw1_a : g1_a ≤ g2_a) (hw2_a : g2_a ≤ nt), sl wi - g5_a < nfu → va_P D vwCl [(aR, .inr (4, [.ref aT, .ref aD, .int g0_a, .int (nI g1_a), .int (nI g2_a), .int g3_a, .int rp, .int rk, .int rf])), (aT, .inr (7, [.ref tb, .int (nI nt)])), (tb, .inl (cs 0, 400, .inl ft)), (aD, .inr (0, [.int qli, .int (nI qtp), .int qlw, .int qod, .int (nI qnc), .int (nI qnr), .int (nI qno), .int (nI qna), .int qdr, .int qlo, .ref qr0, .ref qr1, .ref qr2, .ref qr3, .ref qr4])), (qr1, .inl (cs 1, 25, .inl g4_a))] H → va_D A [(aR, .inr (4, [.ref aT, .ref aD, .int g0_a, .int (nI g1_a), .int (nI g2_a), .int g3_a, .int rp, .int rk, .int rf])), (aT, .inr (7, [.ref tb, .int (nI nt)])), (tb, .inl (cs 0, 400, .inl ft)), (aD, .inr (0, [.int qli, .int (nI qtp), .int qlw, .int qod, .int (nI qnc), .int (nI qnr), .int (nI qno), .int (nI qna), .int qdr, .int qlo, .ref qr0, .ref qr1, .ref qr2, .ref qr3, .ref qr4])), (qr1, .inl (cs 1, 25, .inl g4_a))] → va_S A s.heap H locs → lv_has ls 9 [(6, .int (nI g5_a)), (0, .ref aR), (1, .int ki), (2, .ref (aK wi)), (3, .ref qr1), (4, .int (nI fo)), (5, .int 5)] → W p l e (mRm 4 0 0 85) s m ([.ref aR, .int ki, .ref (aK wi), .ref qr1, .int (nI fo), .int 5] : List Value).toArray below meth c H locs 0 0 (MQ below (va_Qi (fun (r : Int32) (u : Int32 × Nat × Nat × Int32 × Int32 × Int32 × (Nat → Int32)) => (u.2.1 ≤ u.2.2.1) ∧ (u.2.2.1 ≤ nt) ∧ ((r = 1 ∧ True) ∨ (r = 0 ∧ True))) (mpost D A (fun (u : Int32 × Nat × Nat × Int32 × Int32 × Int32 × (Nat → Int32)) => [(aR, .inr (4, [.ref aT, .ref aD, .int u.1, .int (nI u.2.1), .int (nI u.2.2.1), .int u.2.2.2.1, .int rp, .int u.2.2.2.2.1, .int u.2.2.2.2.2.1])), (aT, .inr (7, [.ref tb, .int (nI nt)])), (tb, .inl (cs 0, 400, .inl ft)), (aD, .inr (0, [.int qli, .int (nI qtp), .int qlw, .int qod, .int (nI qnc), .int (nI qnr), .int (nI qno), .int (nI qna), .int qdr, .int qlo, .ref qr0, .ref qr1, .ref qr2, .ref qr3, .ref qr4])), (qr1, .inl (cs 1, 25, .inl u.2.2.2.2.2.2))])) A) ([.ref aR, .int ki, .ref (aK wi), .ref qr1, .int (nI fo), .int 5] : List Value).toArray s 0 0 A) (F0 m 62 ls []) := by
                intro nfu
                induction nfu with
                | zero => intro g0_a g1_a g2_a g3_a g4_a g5_a H locs ls hw0_a hw1_a hw2_a hmu; exact absurd hmu (Nat.not_lt_zero _)
                | succ nfu ih =>
                  intro g0_a g1_a g2_a g3_a g4_a g5_a H locs ls hw0_a hw1_a hw2_a hmu hP hD hS hl
                  have ih_lp_9 := @ih
                  refine lv_iload hx hb dX4_passNumbers_62 (lv_at hl 0 rfl) ?_
                  refine lv_aload_n hx hb dX4_passNumbers_64 rfl (lv_at hl 3 rfl) ?_
                  refine aft_i (wr := [(aR, .inr (4, [.ref aT, .ref aD, .int g0_a, .int (nI g1_a), .int (nI g2_a), .int g3_a, .int rp, .int rk, .int rf])), (aT, .inr (7, [.ref tb, .int (nI nt)])), (tb, .inl (cs 0, 400, .inl ft)), (aD, .inr (0, [.int qli, .int (nI qtp), .int qlw, .int qod, .int (nI qnc), .int (nI qnr), .int (nI qno), .int (nI qna), .int qdr, .int qlo, .ref qr0, .ref qr1, .ref qr2, .ref qr3, .ref qr4])), (qr1, .inl (cs 1, 25, .inl g4_a))]) hP hD hS hA [] [0, 1, 2, 3, 4] rfl rfl (by decide) (by decide) (run_vS (As := []) (rest := [.int (nI g5_a)]) hFix hK hE hV hP hD hS hA [] (k_J0_length_8abf5 l D cs _ aK aV wi (by first | assumption | decide | omega)) (cwV 0 hts gc_X4_passNumbers_183_J0_length_8abf5 rfl rfl rfl (by decide +kernel) ⟨Nat.le_of_ble_eq_true rfl, Nat.le_of_ble_eq_true rfl⟩) rfl (by decide) (vk_recv hV.1 (by assumption) hS) rfl hl.1 rfl (Nat.le_of_ble_eq_true rfl) dX4_passNumbers_65 ⟨Nat.le_of_ble_eq_true rfl, Nat.le_of_ble_eq_true rfl⟩) (fun r_10 u_10 H locs hq_10 hP hD hS => ?_)
                  obtain ⟨j_10, rfl⟩ : ∃ z, z = u_10 := ⟨_, rfl⟩
                  have hP : va_P D vwCl [(aR, .inr (4, [.ref aT, .ref aD, .int g0_a, .int (nI g1_a), .int (nI g2_a), .int g3_a, .int rp, .int rk, .int rf])), (aT, .inr (7, [.ref tb, .int (nI nt)])), (tb, .inl (cs 0, 400, .inl ft)), (aD, .inr (0, [.int qli, .int (nI qtp), .int qlw, .int qod, .int (nI qnc), .int (nI qnr), .int (nI qno), .int (nI qna), .int qdr, .int qlo, .ref qr0, .ref qr1, .ref qr2, .ref qr3, .ref qr4])), (qr1, .inl (cs 1, 25, .inl g4_a))] H := hP
                  have hD : va_D A [(aR, .inr (4, [.ref aT, .ref aD, .int g0_a, .int (nI g1_a), .int (nI g2_a), .int g3_a, .int rp, .int rk, .int rf])), (aT, .inr (7, [.ref tb, .int (nI nt)])), (tb, .inl (cs 0, 400, .inl ft)), (aD, .inr (0, [.int qli, .int (nI qtp), .int qlw, .int qod, .int (nI qnc), .int (nI qnr), .int (nI qno), .int (nI qna), .int qdr, .int qlo, .ref qr0, .ref qr1, .ref qr2, .ref qr3, .ref qr4])), (qr1, .inl (cs 1, 25, .inl g4_a))] := hD
                  replace hq_10 : ((r_10 = nI j_10 ∧ j_10 = sl wi)) := hq_10
                  obtain ⟨rfl, hq_10⟩ := hq_10
                  ·
                    refine lv_icmp_ge (tgt := 181) hx hb dX4_passNumbers_68 (by decide) (fun c_11 => ?_) (fun c_11 => ?_)
                    ·
                      have hn_11 := bge_t (a := g5_a) (b := j_10) c_11 (by omega) (by omega)
                      refine lv_iconst (v := 1) hx hb dX4_passNumbers_181 (by decide) ?_
                      exact ret_z hx hb hr hlk hS (Nat.le_of_ble_eq_true rfl) (Nat.le_of_ble_eq_true rfl) (by decide) (g0_a, g1_a, g2_a, g3_a, rk, rf, g4_a) (⟨(by omega), (by omega), Or.inl ⟨rfl, trivial⟩⟩) (hP.sub [0, 1, 2, 3, 4] rfl) (hD.sub [0, 1, 2, 3, 4] (by decide) rfl) dX4_passNumbers_182
                    ·
                      have hn_11 := bge_f (a := g5_a) (b := j_10) c_11 (by omega) (by omega)
                      refine lv_aload_n hx hb dX4_passNumbers_71 rfl (lv_at hl 3 rfl) ?_
                      refine lv_iload hx hb dX4_passNumbers_72 (lv_at hl 0 rfl) ?_
                      refine aft_i (wr := [(aR, .inr (4, [.ref aT, .ref aD, .int g0_a, .int (nI g1_a), .int (nI g2_a), .int g3_a, .int rp, .int rk, .int rf])), (aT, .inr (7, [.ref tb, .int (nI nt)])), (tb, .inl (cs 0, 400, .inl ft)), (aD, .inr (0, [.int qli, .int (nI qtp), .int qlw, .int qod, .int (nI qnc), .int (nI qnr), .int (nI qno), .int (nI qna), .int qdr, .int qlo, .ref qr0, .ref qr1, .ref qr2, .ref qr3, .ref qr4])), (qr1, .inl (cs 1, 25, .inl g4_a))]) hP hD hS hA [] [0, 1, 2, 3, 4] rfl rfl (by decide) (by decide) (run_vS (As := [.int (nI g5_a)]) (rest := []) hFix hK hE hV hP hD hS hA [] (k_J0_charAt_5068e l D cs _ aK aV wi g5_a (by first | assumption | decide | omega) (by first | assumption | decide | omega)) (cwV 1 hts gc_X4_passNumbers_188_J0_charAt_5068e rfl rfl rfl (by decide +kernel) ⟨Nat.le_of_ble_eq_true rfl, Nat.le_of_ble_eq_true rfl⟩) rfl (by decide) (vk_recv hV.1 (by assumption) hS) rfl hl.1 rfl (Nat.le_of_ble_eq_true rfl) dX4_passNumbers_74 ⟨Nat.le_of_ble_eq_true rfl, Nat.le_of_ble_eq_true rfl⟩) (fun r_12 u_12 H locs hq_12 hP hD hS => ?_)
                      obtain ⟨j_12, rfl⟩ : ∃ z, z = u_12 := ⟨_, rfl⟩
                      have hP : va_P D vwCl [(aR, .inr (4, [.ref aT, .ref aD, .int g0_a, .int (nI g1_a), .int (nI g2_a), .int g3_a, .int rp, .int rk, .int rf])), (aT, .inr (7, [.ref tb, .int (nI nt)])), (tb, .inl (cs 0, 400, .inl ft)), (aD, .inr (0, [.int qli, .int (nI qtp), .int qlw, .int qod, .int (nI qnc), .int (nI qnr), .int (nI qno), .int (nI qna), .int qdr, .int qlo, .ref qr0, .ref qr1, .ref qr2, .ref qr3, .ref qr4])), (qr1, .inl (cs 1, 25, .inl g4_a))] H := hP
                      have hD : va_D A [(aR, .inr (4, [.ref aT, .ref aD, .int g0_a, .int (nI g1_a), .int (nI g2_a), .int g3_a, .int rp, .int rk, .int rf])), (aT, .inr (7, [.ref tb, .int (nI nt)])), (tb, .inl (cs 0, 400, .inl ft)), (aD, .inr (0, [.int qli, .int (nI qtp), .int qlw, .int qod, .int (nI qnc), .int (nI qnr), .int (nI qno), .int (nI qna), .int qdr, .int qlo, .ref qr0, .ref qr1, .ref qr2, .ref qr3, .ref qr4])), (qr1, .inl (cs 1, 25, .inl g4_a))] := hD
                      replace hq_12 : ((r_12 = nI j_12 ∧ j_12 = sch wi g5_a ∧ j_12 < 128)) := hq_12
                      obtain ⟨rfl, hq_12⟩ := hq_12
                      ·
                        refine lv_istore (lv' := [(7, .int (nI j_12)), (6, .int (nI g5_a)), (0, .ref aR), (1, .int ki), (2, .ref (aK wi)), (3, .ref qr1), (4, .int (nI fo)), (5, .int 5)]) hx hb dX4_passNumbers_77 hl (by decide) rfl (fun ls hl => ?_)
                        refine lv_aload_n hx hb dX4_passNumbers_79 rfl (lv_at hl 2 rfl) ?_
                        refine va_get (D := D) (ci := 4) (v := .int g0_a) (C := RX4) (T := TX4) (N := 9) hx hb hts iuX4_passNumbers_X4 hown hK hP 0 rfl rfl 2 (by decide) (htw (.fieldLink RX4 11 "MergeJudge$Reader" "token" "I") (List.mem_of_getElem? (i := 11) rfl)) (fun _ h9 => h9) rfl dX4_passNumbers_80 ?_
                        refine lv_iconst (v := 2) hx hb dX4_passNumbers_83 (by decide) ?_
                        refine lv_icmp_eq (tgt := 93) hx hb dX4_passNumbers_84 (by decide) (fun c_13 => ?_) (fun c_13 => ?_)
                        ·
                          refine lv_iload hx hb dX4_passNumbers_93 (lv_at hl 0 rfl) ?_
                          refine lv_bipush (v := 66) hx hb dX4_passNumbers_95 (by decide) ?_
                          refine lv_icmp_ne (tgt := 117) hx hb dX4_passNumbers_97 (by decide) (fun c_14 => ?_) (fun c_14 => ?_)
                          ·
                            have hn_14 := bne_t (a := j_12) (b := 66) c_14 (by omega) (by omega)
                            refine lv_iconst (v := 0) hx hb dX4_passNumbers_117 (by decide) ?_
                            refine lv_istore (lv' := [(8, .int 0), (7, .int (nI j_12)), (6, .int (nI g5_a)), (0, .ref aR), (1, .int ki), (2, .ref (aK wi)), (3, .ref qr1), (4, .int (nI fo)), (5, .int 5)]) hx hb dX4_passNumbers_118 hl (by decide) rfl (fun ls hl => ?_)
                            refine lv_iload hx hb dX4_passNumbers_120 (lv_at hl 0 rfl) ?_
                            refine lv_if_ne (tgt := 152) hx hb dX4_passNumbers_122 (by decide) (fun h9 => absurd h9 (by decide)) (fun _ => ?_)
                            refine lv_aload_n hx hb dX4_passNumbers_125 rfl (lv_at hl 3 rfl) ?_
                            refine va_get (D := D) (ci := 4) (v := .int g3_a) (C := RX4) (T := TX4) (N := 9) hx hb hts iuX4_passNumbers_X4 hown hK hP 0 rfl rfl 5 (by decide) (htw (.fieldLink RX4 21 "MergeJudge$Reader" "number" "I") (List.mem_of_getElem? (i := 12) rfl)) (fun _ h9 => h9) rfl dX4_passNumbers_126 ?_
                            refine lv_aload_n hx hb dX4_passNumbers_129 rfl (lv_at hl 3 rfl) ?_
                            refine lv_iload hx hb dX4_passNumbers_130 (lv_at hl 1 rfl) ?_
                            refine aft_i (wr := [(aT, .inr (7, [.ref tb, .int (nI nt)])), (tb, .inl (cs 0, 400, .inl ft)), (qr1, .inl (cs 1, 25, .inl g4_a))]) hP hD hS hA [0, 3] [1, 2, 4] rfl rfl (by decide) (by decide) (run_v (As := [.int (nI j_12)]) (rest := [.int g3_a]) hFix hK hE hP hD [0, 3] (k_X4_highestOf l D cs _ aR (nI j_12) aT aD g0_a g3_a rp rk rf qli qlw qod qdr qlo qr0 qr1 qr2 qr3 qr4 g1_a g2_a qtp qnc qnr qno qna (by first | assumption | decide | omega) (by first | assumption | decide | omega) (by first | assumption | decide | omega) (by first | assumption | decide | omega) (by first | assumption | decide | omega)) (cwV 1 hts gc_X4_passNumbers_192_X4_highestOf rfl rfl rfl (by decide +kernel) ⟨Nat.le_of_ble_eq_true rfl, Nat.le_of_ble_eq_true rfl⟩) rfl (by decide) rfl rfl rfl hl.1 rfl (Nat.le_of_ble_eq_true rfl) dX4_passNumbers_132 ⟨Nat.le_of_ble_eq_true rfl, Nat.le_of_ble_eq_true rfl⟩) (fun r_15 u_15 H locs hq_15 hP hD hS => ?_)
                            have hP : va_P D vwCl [(aT, .inr (7, [.ref tb, .int (nI nt)])), (tb, .inl (cs 0, 400, .inl ft)), (qr1, .inl (cs 1, 25, .inl g4_a)), (aR, .inr (4, [.ref aT, .ref aD, .int g0_a, .int (nI g1_a), .int (nI g2_a), .int g3_a, .int rp, .int rk, .int rf])), (aD, .inr (0, [.int qli, .int (nI qtp), .int qlw, .int qod, .int (nI qnc), .int (nI qnr), .int (nI qno), .int (nI qna), .int qdr, .int qlo, .ref qr0, .ref qr1, .ref qr2, .ref qr3, .ref qr4]))] H := hP
                            have hD : va_D A [(aT, .inr (7, [.ref tb, .int (nI nt)])), (tb, .inl (cs 0, 400, .inl ft)), (qr1, .inl (cs 1, 25, .inl g4_a)), (aR, .inr (4, [.ref aT, .ref aD, .int g0_a, .int (nI g1_a), .int (nI g2_a), .int g3_a, .int rp, .int rk, .int rf])), (aD, .inr (0, [.int qli, .int (nI qtp), .int qlw, .int qod, .int (nI qnc), .int (nI qnr), .int (nI qno), .int (nI qna), .int qdr, .int qlo, .ref qr0, .ref qr1, .ref qr2, .ref qr3, .ref qr4]))] := hD
                            refine lv_icmp_gt (tgt := 152) hx hb dX4_passNumbers_135 (by decide) (fun c_16 => ?_) (fun c_16 => ?_)
                            ·
                              refine lv_aload_n hx hb dX4_passNumbers_152 rfl (lv_at hl 3 rfl) ?_
                              refine lv_iconst (v := 2) hx hb dX4_passNumbers_153 (by decide) ?_
                              refine aft_i (wr := [(aT, .inr (7, [.ref tb, .int (nI nt)])), (tb, .inl (cs 0, 400, .inl ft)), (qr1, .inl (cs 1, 25, .inl g4_a)), (aD, .inr (0, [.int qli, .int (nI qtp), .int qlw, .int qod, .int (nI qnc), .int (nI qnr), .int (nI qno), .int (nI qna), .int qdr, .int qlo, .ref qr0, .ref qr1, .ref qr2, .ref qr3, .ref qr4]))]) hP hD hS hA [3] [0, 1, 2, 4] rfl rfl (by decide) (by decide) (run_v (As := [.int 2]) (rest := []) hFix hK hE hP hD [3] (k_X4_failed l D cs _ aR 2 aT aD g0_a g3_a rp rk rf g1_a g2_a) (cwV 1 hts gc_X4_passNumbers_78_X4_failed rfl rfl rfl (by decide +kernel) ⟨Nat.le_of_ble_eq_true rfl, Nat.le_of_ble_eq_true rfl⟩) rfl (by decide) rfl rfl rfl hl.1 rfl (Nat.le_of_ble_eq_true rfl) dX4_passNumbers_154 ⟨Nat.le_of_ble_eq_true rfl, Nat.le_of_ble_eq_true rfl⟩) (fun r_17 u_17 H locs hq_17 hP hD hS => ?_)
                              obtain ⟨rk1_17, rf1_17⟩ := u_17
                              have hP : va_P D vwCl [(aT, .inr (7, [.ref tb, .int (nI nt)])), (tb, .inl (cs 0, 400, .inl ft)), (qr1, .inl (cs 1, 25, .inl g4_a)), (aD, .inr (0, [.int qli, .int (nI qtp), .int qlw, .int qod, .int (nI qnc), .int (nI qnr), .int (nI qno), .int (nI qna), .int qdr, .int qlo, .ref qr0, .ref qr1, .ref qr2, .ref qr3, .ref qr4])), (aR, .inr (4, [.ref aT, .ref aD, .int g0_a, .int (nI g1_a), .int (nI g2_a), .int g3_a, .int rp, .int rk1_17, .int rf1_17]))] H := hP
                              have hD : va_D A [(aT, .inr (7, [.ref tb, .int (nI nt)])), (tb, .inl (cs 0, 400, .inl ft)), (qr1, .inl (cs 1, 25, .inl g4_a)), (aD, .inr (0, [.int qli, .int (nI qtp), .int qlw, .int qod, .int (nI qnc), .int (nI qnr), .int (nI qno), .int (nI qna), .int qdr, .int qlo, .ref qr0, .ref qr1, .ref qr2, .ref qr3, .ref qr4])), (aR, .inr (4, [.ref aT, .ref aD, .int g0_a, .int (nI g1_a), .int (nI g2_a), .int g3_a, .int rp, .int rk1_17, .int rf1_17]))] := hD
                              replace hq_17 : ((r_17 = 0 ∧ True)) := hq_17
                              obtain ⟨rfl, hq_17⟩ := hq_17
                              ·
                                exact ret_z hx hb hr hlk hS (Nat.le_of_ble_eq_true rfl) (Nat.le_of_ble_eq_true rfl) (by decide) (g0_a, g1_a, g2_a, g3_a, rk1_17, rf1_17, g4_a) (⟨(by omega), (by omega), Or.inr (⟨rfl, trivial⟩)⟩) (hP.sub [4, 0, 1, 3, 2] rfl) (hD.sub [4, 0, 1, 3, 2] (by decide) rfl) dX4_passNumbers_157
                            ·
                              refine lv_iload hx hb dX4_passNumbers_138 (lv_at hl 1 rfl) ?_
                              refine lv_bipush (v := 80) hx hb dX4_passNumbers_140 (by decide) ?_
                              refine lv_icmp_ne (tgt := 158) hx hb dX4_passNumbers_142 (by decide) (fun c_18 => ?_) (fun c_18 => ?_)
                              ·
                                have hn_18 := bne_t (a := j_12) (b := 80) c_18 (by omega) (by omega)
                                refine lv_aload_n hx hb dX4_passNumbers_158 rfl (lv_at hl 6 rfl) ?_
                                refine lv_iload hx hb dX4_passNumbers_159 (lv_at hl 7 rfl) ?_
                                refine lv_iconst (v := 1) hx hb dX4_passNumbers_161 (by decide) ?_
                                refine lv_iadd hx hb dX4_passNumbers_162 ?_
                                refine cf_i (nI (fo + 1)) (nI_add fo 1) ?_
                                refine lv_iload hx hb dX4_passNumbers_163 (lv_at hl 2 rfl) ?_
                                refine lv_iadd hx hb dX4_passNumbers_165 ?_
                                refine cf_i (nI (fo + 1 + g5_a)) (nI_add (fo + 1) g5_a) ?_
                                refine lv_aload_n hx hb dX4_passNumbers_166 rfl (lv_at hl 3 rfl) ?_
                                refine va_get (D := D) (ci := 4) (v := .int g3_a) (C := RX4) (T := TX4) (N := 9) hx hb hts iuX4_passNumbers_X4 hown hK hP 3 rfl rfl 5 (by decide) (htw (.fieldLink RX4 21 "MergeJudge$Reader" "number" "I") (List.mem_of_getElem? (i := 12) rfl)) (fun _ h9 => h9) rfl dX4_passNumbers_167 ?_
                                refine va_iast hx hb hK hP hD hS 2 1 rfl rfl (vp_in_nI (by omega) (by omega)) dX4_passNumbers_170 (fun H locs hP hD hS => ?_)
                                have hP : va_P D vwCl [(aT, .inr (7, [.ref tb, .int (nI nt)])), (tb, .inl (cs 0, 400, .inl ft)), (qr1, .inl (cs 1, 25, .inl (upd g4_a ((nI (fo + 1 + g5_a)).toNatClampNeg) g3_a))), (aR, .inr (4, [.ref aT, .ref aD, .int g0_a, .int (nI g1_a), .int (nI g2_a), .int g3_a, .int rp, .int rk, .int rf])), (aD, .inr (0, [.int qli, .int (nI qtp), .int qlw, .int qod, .int (nI qnc), .int (nI qnr), .int (nI qno), .int (nI qna), .int qdr, .int qlo, .ref qr0, .ref qr1, .ref qr2, .ref qr3, .ref qr4]))] H := hP
                                have hD : va_D A [(aT, .inr (7, [.ref tb, .int (nI nt)])), (tb, .inl (cs 0, 400, .inl ft)), (qr1, .inl (cs 1, 25, .inl (upd g4_a ((nI (fo + 1 + g5_a)).toNatClampNeg) g3_a))), (aR, .inr (4, [.ref aT, .ref aD, .int g0_a, .int (nI g1_a), .int (nI g2_a), .int g3_a, .int rp, .int rk, .int rf])), (aD, .inr (0, [.int qli, .int (nI qtp), .int qlw, .int qod, .int (nI qnc), .int (nI qnr), .int (nI qno), .int (nI qna), .int qdr, .int qlo, .ref qr0, .ref qr1, .ref qr2, .ref qr3, .ref qr4]))] := hD
                                refine lv_aload_n hx hb dX4_passNumbers_171 rfl (lv_at hl 3 rfl) ?_
                                refine aft_v (wr := [(qr1, .inl (cs 1, 25, .inl (upd g4_a ((nI (fo + 1 + g5_a)).toNatClampNeg) g3_a))), (aD, .inr (0, [.int qli, .int (nI qtp), .int qlw, .int qod, .int (nI qnc), .int (nI qnr), .int (nI qno), .int (nI qna), .int qdr, .int qlo, .ref qr0, .ref qr1, .ref qr2, .ref qr3, .ref qr4]))]) hP hD hS hA [3, 0, 1] [2, 4] rfl rfl (by decide) (by decide) (run_v (As := []) (rest := []) hFix hK hE hP hD [3, 0, 1] (k_X4_next l D cs _ aR aT aD g0_a g3_a rp rk rf tb ft g1_a g2_a nt (by first | assumption | decide | omega) (by first | assumption | decide | omega)) (cwV 0 hts gc_X4_passNumbers_46_X4_next rfl rfl rfl (by decide +kernel) ⟨Nat.le_of_ble_eq_true rfl, Nat.le_of_ble_eq_true rfl⟩) rfl (by decide) rfl rfl rfl hl.1 rfl (Nat.le_of_ble_eq_true rfl) dX4_passNumbers_172 ⟨Nat.le_of_ble_eq_true rfl, Nat.le_of_ble_eq_true rfl⟩) (fun u_19 H locs hq_19 hP hD hS => ?_)
                                obtain ⟨rt1_19, rs1_19, ra1_19, rn1_19⟩ := u_19
                                have hP : va_P D vwCl [(qr1, .inl (cs 1, 25, .inl (upd g4_a ((nI (fo + 1 + g5_a)).toNatClampNeg) g3_a))), (aD, .inr (0, [.int qli, .int (nI qtp), .int qlw, .int qod, .int (nI qnc), .int (nI qnr), .int (nI qno), .int (nI qna), .int qdr, .int qlo, .ref qr0, .ref qr1, .ref qr2, .ref qr3, .ref qr4])), (aR, .inr (4, [.ref aT, .ref aD, .int rt1_19, .int (nI rs1_19), .int (nI ra1_19), .int rn1_19, .int rp, .int rk, .int rf])), (aT, .inr (7, [.ref tb, .int (nI nt)])), (tb, .inl (cs 0, 400, .inl ft))] H := hP
                                have hD : va_D A [(qr1, .inl (cs 1, 25, .inl (upd g4_a ((nI (fo + 1 + g5_a)).toNatClampNeg) g3_a))), (aD, .inr (0, [.int qli, .int (nI qtp), .int qlw, .int qod, .int (nI qnc), .int (nI qnr), .int (nI qno), .int (nI qna), .int qdr, .int qlo, .ref qr0, .ref qr1, .ref qr2, .ref qr3, .ref qr4])), (aR, .inr (4, [.ref aT, .ref aD, .int rt1_19, .int (nI rs1_19), .int (nI ra1_19), .int rn1_19, .int rp, .int rk, .int rf])), (aT, .inr (7, [.ref tb, .int (nI nt)])), (tb, .inl (cs 0, 400, .inl ft))] := hD
                                replace hq_19 : (rs1_19 ≤ ra1_19) ∧ (ra1_19 ≤ nt) := hq_19
                                obtain ⟨hp_19_0, hp_19_1⟩ := hq_19
                                refine lv_iinc (v := (nI (g5_a + 1))) (lv' := [(6, .int (nI (g5_a + 1))), (8, .int 0), (7, .int (nI j_12)), (0, .ref aR), (1, .int ki), (2, .ref (aK wi)), (3, .ref qr1), (4, .int (nI fo)), (5, .int 5)]) hx hb dX4_passNumbers_175 hl (k := 2) rfl (nI_1 _) (by decide) rfl (fun ls hl => ?_)
                                refine lv_goto (tgt := 62) hx hb dX4_passNumbers_178 (by decide) ?_
                                exact ih_lp_9 rt1_19 rs1_19 ra1_19 rn1_19 (upd g4_a ((nI (fo + 1 + g5_a)).toNatClampNeg) g3_a) (g5_a + 1) H locs ls (by omega) (by omega) (by omega) (by omega) (hP.sub [2, 3, 4, 1, 0] rfl) (hD.sub [2, 3, 4, 1, 0] (by decide) rfl) hS (lv_sub hl [0, 3, 4, 5, 6, 7, 8] rfl)
                              ·
                                have hn_18 := bne_f (a := j_12) (b := 80) c_18 (by omega) (by omega)
                                refine lv_aload_n hx hb dX4_passNumbers_145 rfl (lv_at hl 3 rfl) ?_
                                refine va_get (D := D) (ci := 4) (v := .int g3_a) (C := RX4) (T := TX4) (N := 9) hx hb hts iuX4_passNumbers_X4 hown hK hP 3 rfl rfl 5 (by decide) (htw (.fieldLink RX4 21 "MergeJudge$Reader" "number" "I") (List.mem_of_getElem? (i := 12) rfl)) (fun _ h9 => h9) rfl dX4_passNumbers_146 ?_
                                refine lv_if_ne (tgt := 158) hx hb dX4_passNumbers_149 (by decide) (fun c_20 => ?_) (fun c_20 => ?_)
                                ·
                                  refine lv_aload_n hx hb dX4_passNumbers_158 rfl (lv_at hl 6 rfl) ?_
                                  refine lv_iload hx hb dX4_passNumbers_159 (lv_at hl 7 rfl) ?_
                                  refine lv_iconst (v := 1) hx hb dX4_passNumbers_161 (by decide) ?_
                                  refine lv_iadd hx hb dX4_passNumbers_162 ?_
                                  refine cf_i (nI (fo + 1)) (nI_add fo 1) ?_
                                  refine lv_iload hx hb dX4_passNumbers_163 (lv_at hl 2 rfl) ?_
                                  refine lv_iadd hx hb dX4_passNumbers_165 ?_
                                  refine cf_i (nI (fo + 1 + g5_a)) (nI_add (fo + 1) g5_a) ?_
                                  refine lv_aload_n hx hb dX4_passNumbers_166 rfl (lv_at hl 3 rfl) ?_
                                  refine va_get (D := D) (ci := 4) (v := .int g3_a) (C := RX4) (T := TX4) (N := 9) hx hb hts iuX4_passNumbers_X4 hown hK hP 3 rfl rfl 5 (by decide) (htw (.fieldLink RX4 21 "MergeJudge$Reader" "number" "I") (List.mem_of_getElem? (i := 12) rfl)) (fun _ h9 => h9) rfl dX4_passNumbers_167 ?_
                                  refine va_iast hx hb hK hP hD hS 2 1 rfl rfl (vp_in_nI (by omega) (by omega)) dX4_passNumbers_170 (fun H locs hP hD hS => ?_)
                                  have hP : va_P D vwCl [(aT, .inr (7, [.ref tb, .int (nI nt)])), (tb, .inl (cs 0, 400, .inl ft)), (qr1, .inl (cs 1, 25, .inl (upd g4_a ((nI (fo + 1 + g5_a)).toNatClampNeg) g3_a))), (aR, .inr (4, [.ref aT, .ref aD, .int g0_a, .int (nI g1_a), .int (nI g2_a), .int g3_a, .int rp, .int rk, .int rf])), (aD, .inr (0, [.int qli, .int (nI qtp), .int qlw, .int qod, .int (nI qnc), .int (nI qnr), .int (nI qno), .int (nI qna), .int qdr, .int qlo, .ref qr0, .ref qr1, .ref qr2, .ref qr3, .ref qr4]))] H := hP
                                  have hD : va_D A [(aT, .inr (7, [.ref tb, .int (nI nt)])), (tb, .inl (cs 0, 400, .inl ft)), (qr1, .inl (cs 1, 25, .inl (upd g4_a ((nI (fo + 1 + g5_a)).toNatClampNeg) g3_a))), (aR, .inr (4, [.ref aT, .ref aD, .int g0_a, .int (nI g1_a), .int (nI g2_a), .int g3_a, .int rp, .int rk, .int rf])), (aD, .inr (0, [.int qli, .int (nI qtp), .int qlw, .int qod, .int (nI qnc), .int (nI qnr), .int (nI qno), .int (nI qna), .int qdr, .int qlo, .ref qr0, .ref qr1, .ref qr2, .ref qr3, .ref qr4]))] := hD
                                  refine lv_aload_n hx hb dX4_passNumbers_171 rfl (lv_at hl 3 rfl) ?_
                                  refine aft_v (wr := [(qr1, .inl (cs 1, 25, .inl (upd g4_a ((nI (fo + 1 + g5_a)).toNatClampNeg) g3_a))), (aD, .inr (0, [.int qli, .int (nI qtp), .int qlw, .int qod, .int (nI qnc), .int (nI qnr), .int (nI qno), .int (nI qna), .int qdr, .int qlo, .ref qr0, .ref qr1, .ref qr2, .ref qr3, .ref qr4]))]) hP hD hS hA [3, 0, 1] [2, 4] rfl rfl (by decide) (by decide) (run_v (As := []) (rest := []) hFix hK hE hP hD [3, 0, 1] (k_X4_next l D cs _ aR aT aD g0_a g3_a rp rk rf tb ft g1_a g2_a nt (by first | assumption | decide | omega) (by first | assumption | decide | omega)) (cwV 0 hts gc_X4_passNumbers_46_X4_next rfl rfl rfl (by decide +kernel) ⟨Nat.le_of_ble_eq_true rfl, Nat.le_of_ble_eq_true rfl⟩) rfl (by decide) rfl rfl rfl hl.1 rfl (Nat.le_of_ble_eq_true rfl) dX4_passNumbers_172 ⟨Nat.le_of_ble_eq_true rfl, Nat.le_of_ble_eq_true rfl⟩) (fun u_21 H locs hq_21 hP hD hS => ?_)
                                  obtain ⟨rt1_21, rs1_21, ra1_21, rn1_21⟩ := u_21
                                  have hP : va_P D vwCl [(qr1, .inl (cs 1, 25, .inl (upd g4_a ((nI (fo + 1 + g5_a)).toNatClampNeg) g3_a))), (aD, .inr (0, [.int qli, .int (nI qtp), .int qlw, .int qod, .int (nI qnc), .int (nI qnr), .int (nI qno), .int (nI qna), .int qdr, .int qlo, .ref qr0, .ref qr1, .ref qr2, .ref qr3, .ref qr4])), (aR, .inr (4, [.ref aT, .ref aD, .int rt1_21, .int (nI rs1_21), .int (nI ra1_21), .int rn1_21, .int rp, .int rk, .int rf])), (aT, .inr (7, [.ref tb, .int (nI nt)])), (tb, .inl (cs 0, 400, .inl ft))] H := hP
                                  have hD : va_D A [(qr1, .inl (cs 1, 25, .inl (upd g4_a ((nI (fo + 1 + g5_a)).toNatClampNeg) g3_a))), (aD, .inr (0, [.int qli, .int (nI qtp), .int qlw, .int qod, .int (nI qnc), .int (nI qnr), .int (nI qno), .int (nI qna), .int qdr, .int qlo, .ref qr0, .ref qr1, .ref qr2, .ref qr3, .ref qr4])), (aR, .inr (4, [.ref aT, .ref aD, .int rt1_21, .int (nI rs1_21), .int (nI ra1_21), .int rn1_21, .int rp, .int rk, .int rf])), (aT, .inr (7, [.ref tb, .int (nI nt)])), (tb, .inl (cs 0, 400, .inl ft))] := hD
                                  replace hq_21 : (rs1_21 ≤ ra1_21) ∧ (ra1_21 ≤ nt) := hq_21
                                  obtain ⟨hp_21_0, hp_21_1⟩ := hq_21
                                  refine lv_iinc (v := (nI (g5_a + 1))) (lv' := [(6, .int (nI (g5_a + 1))), (8, .int 0), (7, .int (nI j_12)), (0, .ref aR), (1, .int ki), (2, .ref (aK wi)), (3, .ref qr1), (4, .int (nI fo)), (5, .int 5)]) hx hb dX4_passNumbers_175 hl (k := 2) rfl (nI_1 _) (by decide) rfl (fun ls hl => ?_)
                                  refine lv_goto (tgt := 62) hx hb dX4_passNumbers_178 (by decide) ?_
                                  exact ih_lp_9 rt1_21 rs1_21 ra1_21 rn1_21 (upd g4_a ((nI (fo + 1 + g5_a)).toNatClampNeg) g3_a) (g5_a + 1) H locs ls (by omega) (by omega) (by omega) (by omega) (hP.sub [2, 3, 4, 1, 0] rfl) (hD.sub [2, 3, 4, 1, 0] (by decide) rfl) hS (lv_sub hl [0, 3, 4, 5, 6, 7, 8] rfl)
                                ·
                                  refine lv_aload_n hx hb dX4_passNumbers_152 rfl (lv_at hl 3 rfl) ?_
                                  refine lv_iconst (v := 2) hx hb dX4_passNumbers_153 (by decide) ?_
                                  refine aft_i (wr := [(aT, .inr (7, [.ref tb, .int (nI nt)])), (tb, .inl (cs 0, 400, .inl ft)), (qr1, .inl (cs 1, 25, .inl g4_a)), (aD, .inr (0, [.int qli, .int (nI qtp), .int qlw, .int qod, .int (nI qnc), .int (nI qnr), .int (nI qno), .int (nI qna), .int qdr, .int qlo, .ref qr0, .ref qr1, .ref qr2, .ref qr3, .ref qr4]))]) hP hD hS hA [3] [0, 1, 2, 4] rfl rfl (by decide) (by decide) (run_v (As := [.int 2]) (rest := []) hFix hK hE hP hD [3] (k_X4_failed l D cs _ aR 2 aT aD g0_a g3_a rp rk rf g1_a g2_a) (cwV 1 hts gc_X4_passNumbers_78_X4_failed rfl rfl rfl (by decide +kernel) ⟨Nat.le_of_ble_eq_true rfl, Nat.le_of_ble_eq_true rfl⟩) rfl (by decide) rfl rfl rfl hl.1 rfl (Nat.le_of_ble_eq_true rfl) dX4_passNumbers_154 ⟨Nat.le_of_ble_eq_true rfl, Nat.le_of_ble_eq_true rfl⟩) (fun r_22 u_22 H locs hq_22 hP hD hS => ?_)
                                  obtain ⟨rk1_22, rf1_22⟩ := u_22
                                  have hP : va_P D vwCl [(aT, .inr (7, [.ref tb, .int (nI nt)])), (tb, .inl (cs 0, 400, .inl ft)), (qr1, .inl (cs 1, 25, .inl g4_a)), (aD, .inr (0, [.int qli, .int (nI qtp), .int qlw, .int qod, .int (nI qnc), .int (nI qnr), .int (nI qno), .int (nI qna), .int qdr, .int qlo, .ref qr0, .ref qr1, .ref qr2, .ref qr3, .ref qr4])), (aR, .inr (4, [.ref aT, .ref aD, .int g0_a, .int (nI g1_a), .int (nI g2_a), .int g3_a, .int rp, .int rk1_22, .int rf1_22]))] H := hP
                                  have hD : va_D A [(aT, .inr (7, [.ref tb, .int (nI nt)])), (tb, .inl (cs 0, 400, .inl ft)), (qr1, .inl (cs 1, 25, .inl g4_a)), (aD, .inr (0, [.int qli, .int (nI qtp), .int qlw, .int qod, .int (nI qnc), .int (nI qnr), .int (nI qno), .int (nI qna), .int qdr, .int qlo, .ref qr0, .ref qr1, .ref qr2, .ref qr3, .ref qr4])), (aR, .inr (4, [.ref aT, .ref aD, .int g0_a, .int (nI g1_a), .int (nI g2_a), .int g3_a, .int rp, .int rk1_22, .int rf1_22]))] := hD
                                  replace hq_22 : ((r_22 = 0 ∧ True)) := hq_22
                                  obtain ⟨rfl, hq_22⟩ := hq_22
                                  ·
                                    exact ret_z hx hb hr hlk hS (Nat.le_of_ble_eq_true rfl) (Nat.le_of_ble_eq_true rfl) (by decide) (g0_a, g1_a, g2_a, g3_a, rk1_22, rf1_22, g4_a) (⟨(by omega), (by omega), Or.inr (⟨rfl, trivial⟩)⟩) (hP.sub [4, 0, 1, 3, 2] rfl) (hD.sub [4, 0, 1, 3, 2] (by decide) rfl) dX4_passNumbers_157
                          ·
                            have hn_14 := bne_f (a := j_12) (b := 66) c_14 (by omega) (by omega)
                            refine lv_aload_n hx hb dX4_passNumbers_100 rfl (lv_at hl 2 rfl) ?_
                            refine va_get (D := D) (ci := 4) (v := .int g3_a) (C := RX4) (T := TX4) (N := 9) hx hb hts iuX4_passNumbers_X4 hown hK hP 0 rfl rfl 5 (by decide) (htw (.fieldLink RX4 21 "MergeJudge$Reader" "number" "I") (List.mem_of_getElem? (i := 12) rfl)) (fun _ h9 => h9) rfl dX4_passNumbers_101 ?_
                            refine lv_aload_n hx hb dX4_passNumbers_104 rfl (lv_at hl 5 rfl) ?_
                            refine lv_iload hx hb dX4_passNumbers_105 (lv_at hl 6 rfl) ?_
                            refine lv_iconst (v := 1) hx hb dX4_passNumbers_107 (by decide) ?_
                            refine lv_iadd hx hb dX4_passNumbers_108 ?_
                            refine cf_i (nI (fo + 1)) (nI_add fo 1) ?_
                            refine va_iald hx hb hK hP 4 1 rfl rfl (vp_in_nI (by omega) (by omega)) dX4_passNumbers_109 ?_
                            rw [nI_clamp (by omega)]
                            refine lv_icmp_ne (tgt := 117) hx hb dX4_passNumbers_110 (by decide) (fun c_23 => ?_) (fun c_23 => ?_)
                            ·
                              refine lv_iconst (v := 0) hx hb dX4_passNumbers_117 (by decide) ?_
                              refine lv_istore (lv' := [(8, .int 0), (7, .int (nI j_12)), (6, .int (nI g5_a)), (0, .ref aR), (1, .int ki), (2, .ref (aK wi)), (3, .ref qr1), (4, .int (nI fo)), (5, .int 5)]) hx hb dX4_passNumbers_118 hl (by decide) rfl (fun ls hl => ?_)
                              refine lv_iload hx hb dX4_passNumbers_120 (lv_at hl 0 rfl) ?_
                              refine lv_if_ne (tgt := 152) hx hb dX4_passNumbers_122 (by decide) (fun h9 => absurd h9 (by decide)) (fun _ => ?_)
                              refine lv_aload_n hx hb dX4_passNumbers_125 rfl (lv_at hl 3 rfl) ?_
                              refine va_get (D := D) (ci := 4) (v := .int g3_a) (C := RX4) (T := TX4) (N := 9) hx hb hts iuX4_passNumbers_X4 hown hK hP 0 rfl rfl 5 (by decide) (htw (.fieldLink RX4 21 "MergeJudge$Reader" "number" "I") (List.mem_of_getElem? (i := 12) rfl)) (fun _ h9 => h9) rfl dX4_passNumbers_126 ?_
                              refine lv_aload_n hx hb dX4_passNumbers_129 rfl (lv_at hl 3 rfl) ?_
                              refine lv_iload hx hb dX4_passNumbers_130 (lv_at hl 1 rfl) ?_
                              refine aft_i (wr := [(aT, .inr (7, [.ref tb, .int (nI nt)])), (tb, .inl (cs 0, 400, .inl ft)), (qr1, .inl (cs 1, 25, .inl g4_a))]) hP hD hS hA [0, 3] [1, 2, 4] rfl rfl (by decide) (by decide) (run_v (As := [.int (nI j_12)]) (rest := [.int g3_a]) hFix hK hE hP hD [0, 3] (k_X4_highestOf l D cs _ aR (nI j_12) aT aD g0_a g3_a rp rk rf qli qlw qod qdr qlo qr0 qr1 qr2 qr3 qr4 g1_a g2_a qtp qnc qnr qno qna (by first | assumption | decide | omega) (by first | assumption | decide | omega) (by first | assumption | decide | omega) (by first | assumption | decide | omega) (by first | assumption | decide | omega)) (cwV 1 hts gc_X4_passNumbers_192_X4_highestOf rfl rfl rfl (by decide +kernel) ⟨Nat.le_of_ble_eq_true rfl, Nat.le_of_ble_eq_true rfl⟩) rfl (by decide) rfl rfl rfl hl.1 rfl (Nat.le_of_ble_eq_true rfl) dX4_passNumbers_132 ⟨Nat.le_of_ble_eq_true rfl, Nat.le_of_ble_eq_true rfl⟩) (fun r_24 u_24 H locs hq_24 hP hD hS => ?_)
                              have hP : va_P D vwCl [(aT, .inr (7, [.ref tb, .int (nI nt)])), (tb, .inl (cs 0, 400, .inl ft)), (qr1, .inl (cs 1, 25, .inl g4_a)), (aR, .inr (4, [.ref aT, .ref aD, .int g0_a, .int (nI g1_a), .int (nI g2_a), .int g3_a, .int rp, .int rk, .int rf])), (aD, .inr (0, [.int qli, .int (nI qtp), .int qlw, .int qod, .int (nI qnc), .int (nI qnr), .int (nI qno), .int (nI qna), .int qdr, .int qlo, .ref qr0, .ref qr1, .ref qr2, .ref qr3, .ref qr4]))] H := hP
                              have hD : va_D A [(aT, .inr (7, [.ref tb, .int (nI nt)])), (tb, .inl (cs 0, 400, .inl ft)), (qr1, .inl (cs 1, 25, .inl g4_a)), (aR, .inr (4, [.ref aT, .ref aD, .int g0_a, .int (nI g1_a), .int (nI g2_a), .int g3_a, .int rp, .int rk, .int rf])), (aD, .inr (0, [.int qli, .int (nI qtp), .int qlw, .int qod, .int (nI qnc), .int (nI qnr), .int (nI qno), .int (nI qna), .int qdr, .int qlo, .ref qr0, .ref qr1, .ref qr2, .ref qr3, .ref qr4]))] := hD
                              refine lv_icmp_gt (tgt := 152) hx hb dX4_passNumbers_135 (by decide) (fun c_25 => ?_) (fun c_25 => ?_)
                              ·
                                refine lv_aload_n hx hb dX4_passNumbers_152 rfl (lv_at hl 3 rfl) ?_
                                refine lv_iconst (v := 2) hx hb dX4_passNumbers_153 (by decide) ?_
                                refine aft_i (wr := [(aT, .inr (7, [.ref tb, .int (nI nt)])), (tb, .inl (cs 0, 400, .inl ft)), (qr1, .inl (cs 1, 25, .inl g4_a)), (aD, .inr (0, [.int qli, .int (nI qtp), .int qlw, .int qod, .int (nI qnc), .int (nI qnr), .int (nI qno), .int (nI qna), .int qdr, .int qlo, .ref qr0, .ref qr1, .ref qr2, .ref qr3, .ref qr4]))]) hP hD hS hA [3] [0, 1, 2, 4] rfl rfl (by decide) (by decide) (run_v (As := [.int 2]) (rest := []) hFix hK hE hP hD [3] (k_X4_failed l D cs _ aR 2 aT aD g0_a g3_a rp rk rf g1_a g2_a) (cwV 1 hts gc_X4_passNumbers_78_X4_failed rfl rfl rfl (by decide +kernel) ⟨Nat.le_of_ble_eq_true rfl, Nat.le_of_ble_eq_true rfl⟩) rfl (by decide) rfl rfl rfl hl.1 rfl (Nat.le_of_ble_eq_true rfl) dX4_passNumbers_154 ⟨Nat.le_of_ble_eq_true rfl, Nat.le_of_ble_eq_true rfl⟩) (fun r_26 u_26 H locs hq_26 hP hD hS => ?_)
                                obtain ⟨rk1_26, rf1_26⟩ := u_26
                                have hP : va_P D vwCl [(aT, .inr (7, [.ref tb, .int (nI nt)])), (tb, .inl (cs 0, 400, .inl ft)), (qr1, .inl (cs 1, 25, .inl g4_a)), (aD, .inr (0, [.int qli, .int (nI qtp), .int qlw, .int qod, .int (nI qnc), .int (nI qnr), .int (nI qno), .int (nI qna), .int qdr, .int qlo, .ref qr0, .ref qr1, .ref qr2, .ref qr3, .ref qr4])), (aR, .inr (4, [.ref aT, .ref aD, .int g0_a, .int (nI g1_a), .int (nI g2_a), .int g3_a, .int rp, .int rk1_26, .int rf1_26]))] H := hP
                                have hD : va_D A [(aT, .inr (7, [.ref tb, .int (nI nt)])), (tb, .inl (cs 0, 400, .inl ft)), (qr1, .inl (cs 1, 25, .inl g4_a)), (aD, .inr (0, [.int qli, .int (nI qtp), .int qlw, .int qod, .int (nI qnc), .int (nI qnr), .int (nI qno), .int (nI qna), .int qdr, .int qlo, .ref qr0, .ref qr1, .ref qr2, .ref qr3, .ref qr4])), (aR, .inr (4, [.ref aT, .ref aD, .int g0_a, .int (nI g1_a), .int (nI g2_a), .int g3_a, .int rp, .int rk1_26, .int rf1_26]))] := hD
                                replace hq_26 : ((r_26 = 0 ∧ True)) := hq_26
                                obtain ⟨rfl, hq_26⟩ := hq_26
                                ·
                                  exact ret_z hx hb hr hlk hS (Nat.le_of_ble_eq_true rfl) (Nat.le_of_ble_eq_true rfl) (by decide) (g0_a, g1_a, g2_a, g3_a, rk1_26, rf1_26, g4_a) (⟨(by omega), (by omega), Or.inr (⟨rfl, trivial⟩)⟩) (hP.sub [4, 0, 1, 3, 2] rfl) (hD.sub [4, 0, 1, 3, 2] (by decide) rfl) dX4_passNumbers_157
                              ·
                                refine lv_iload hx hb dX4_passNumbers_138 (lv_at hl 1 rfl) ?_
                                refine lv_bipush (v := 80) hx hb dX4_passNumbers_140 (by decide) ?_
                                refine lv_icmp_ne (tgt := 158) hx hb dX4_passNumbers_142 (by decide) (fun c_27 => ?_) (fun c_27 => ?_)
                                ·
                                  have hn_27 := bne_t (a := j_12) (b := 80) c_27 (by omega) (by omega)
                                  refine lv_aload_n hx hb dX4_passNumbers_158 rfl (lv_at hl 6 rfl) ?_
                                  refine lv_iload hx hb dX4_passNumbers_159 (lv_at hl 7 rfl) ?_
                                  refine lv_iconst (v := 1) hx hb dX4_passNumbers_161 (by decide) ?_
                                  refine lv_iadd hx hb dX4_passNumbers_162 ?_
                                  refine cf_i (nI (fo + 1)) (nI_add fo 1) ?_
                                  refine lv_iload hx hb dX4_passNumbers_163 (lv_at hl 2 rfl) ?_
                                  refine lv_iadd hx hb dX4_passNumbers_165 ?_
                                  refine cf_i (nI (fo + 1 + g5_a)) (nI_add (fo + 1) g5_a) ?_
                                  refine lv_aload_n hx hb dX4_passNumbers_166 rfl (lv_at hl 3 rfl) ?_
                                  refine va_get (D := D) (ci := 4) (v := .int g3_a) (C := RX4) (T := TX4) (N := 9) hx hb hts iuX4_passNumbers_X4 hown hK hP 3 rfl rfl 5 (by decide) (htw (.fieldLink RX4 21 "MergeJudge$Reader" "number" "I") (List.mem_of_getElem? (i := 12) rfl)) (fun _ h9 => h9) rfl dX4_passNumbers_167 ?_
                                  refine va_iast hx hb hK hP hD hS 2 1 rfl rfl (vp_in_nI (by omega) (by omega)) dX4_passNumbers_170 (fun H locs hP hD hS => ?_)
                                  have hP : va_P D vwCl [(aT, .inr (7, [.ref tb, .int (nI nt)])), (tb, .inl (cs 0, 400, .inl ft)), (qr1, .inl (cs 1, 25, .inl (upd g4_a ((nI (fo + 1 + g5_a)).toNatClampNeg) g3_a))), (aR, .inr (4, [.ref aT, .ref aD, .int g0_a, .int (nI g1_a), .int (nI g2_a), .int g3_a, .int rp, .int rk, .int rf])), (aD, .inr (0, [.int qli, .int (nI qtp), .int qlw, .int qod, .int (nI qnc), .int (nI qnr), .int (nI qno), .int (nI qna), .int qdr, .int qlo, .ref qr0, .ref qr1, .ref qr2, .ref qr3, .ref qr4]))] H := hP
                                  have hD : va_D A [(aT, .inr (7, [.ref tb, .int (nI nt)])), (tb, .inl (cs 0, 400, .inl ft)), (qr1, .inl (cs 1, 25, .inl (upd g4_a ((nI (fo + 1 + g5_a)).toNatClampNeg) g3_a))), (aR, .inr (4, [.ref aT, .ref aD, .int g0_a, .int (nI g1_a), .int (nI g2_a), .int g3_a, .int rp, .int rk, .int rf])), (aD, .inr (0, [.int qli, .int (nI qtp), .int qlw, .int qod, .int (nI qnc), .int (nI qnr), .int (nI qno), .int (nI qna), .int qdr, .int qlo, .ref qr0, .ref qr1, .ref qr2, .ref qr3, .ref qr4]))] := hD
                                  refine lv_aload_n hx hb dX4_passNumbers_171 rfl (lv_at hl 3 rfl) ?_
                                  refine aft_v (wr := [(qr1, .inl (cs 1, 25, .inl (upd g4_a ((nI (fo + 1 + g5_a)).toNatClampNeg) g3_a))), (aD, .inr (0, [.int qli, .int (nI qtp), .int qlw, .int qod, .int (nI qnc), .int (nI qnr), .int (nI qno), .int (nI qna), .int qdr, .int qlo, .ref qr0, .ref qr1, .ref qr2, .ref qr3, .ref qr4]))]) hP hD hS hA [3, 0, 1] [2, 4] rfl rfl (by decide) (by decide) (run_v (As := []) (rest := []) hFix hK hE hP hD [3, 0, 1] (k_X4_next l D cs _ aR aT aD g0_a g3_a rp rk rf tb ft g1_a g2_a nt (by first | assumption | decide | omega) (by first | assumption | decide | omega)) (cwV 0 hts gc_X4_passNumbers_46_X4_next rfl rfl rfl (by decide +kernel) ⟨Nat.le_of_ble_eq_true rfl, Nat.le_of_ble_eq_true rfl⟩) rfl (by decide) rfl rfl rfl hl.1 rfl (Nat.le_of_ble_eq_true rfl) dX4_passNumbers_172 ⟨Nat.le_of_ble_eq_true rfl, Nat.le_of_ble_eq_true rfl⟩) (fun u_28 H locs hq_28 hP hD hS => ?_)
                                  obtain ⟨rt1_28, rs1_28, ra1_28, rn1_28⟩ := u_28
                                  have hP : va_P D vwCl [(qr1, .inl (cs 1, 25, .inl (upd g4_a ((nI (fo + 1 + g5_a)).toNatClampNeg) g3_a))), (aD, .inr (0, [.int qli, .int (nI qtp), .int qlw, .int qod, .int (nI qnc), .int (nI qnr), .int (nI qno), .int (nI qna), .int qdr, .int qlo, .ref qr0, .ref qr1, .ref qr2, .ref qr3, .ref qr4])), (aR, .inr (4, [.ref aT, .ref aD, .int rt1_28, .int (nI rs1_28), .int (nI ra1_28), .int rn1_28, .int rp, .int rk, .int rf])), (aT, .inr (7, [.ref tb, .int (nI nt)])), (tb, .inl (cs 0, 400, .inl ft))] H := hP
                                  have hD : va_D A [(qr1, .inl (cs 1, 25, .inl (upd g4_a ((nI (fo + 1 + g5_a)).toNatClampNeg) g3_a))), (aD, .inr (0, [.int qli, .int (nI qtp), .int qlw, .int qod, .int (nI qnc), .int (nI qnr), .int (nI qno), .int (nI qna), .int qdr, .int qlo, .ref qr0, .ref qr1, .ref qr2, .ref qr3, .ref qr4])), (aR, .inr (4, [.ref aT, .ref aD, .int rt1_28, .int (nI rs1_28), .int (nI ra1_28), .int rn1_28, .int rp, .int rk, .int rf])), (aT, .inr (7, [.ref tb, .int (nI nt)])), (tb, .inl (cs 0, 400, .inl ft))] := hD
                                  replace hq_28 : (rs1_28 ≤ ra1_28) ∧ (ra1_28 ≤ nt) := hq_28
                                  obtain ⟨hp_28_0, hp_28_1⟩ := hq_28
                                  refine lv_iinc (v := (nI (g5_a + 1))) (lv' := [(6, .int (nI (g5_a + 1))), (8, .int 0), (7, .int (nI j_12)), (0, .ref aR), (1, .int ki), (2, .ref (aK wi)), (3, .ref qr1), (4, .int (nI fo)), (5, .int 5)]) hx hb dX4_passNumbers_175 hl (k := 2) rfl (nI_1 _) (by decide) rfl (fun ls hl => ?_)
                                  refine lv_goto (tgt := 62) hx hb dX4_passNumbers_178 (by decide) ?_
                                  exact ih_lp_9 rt1_28 rs1_28 ra1_28 rn1_28 (upd g4_a ((nI (fo + 1 + g5_a)).toNatClampNeg) g3_a) (g5_a + 1) H locs ls (by omega) (by omega) (by omega) (by omega) (hP.sub [2, 3, 4, 1, 0] rfl) (hD.sub [2, 3, 4, 1, 0] (by decide) rfl) hS (lv_sub hl [0, 3, 4, 5, 6, 7, 8] rfl)
                                ·
                                  have hn_27 := bne_f (a := j_12) (b := 80) c_27 (by omega) (by omega)
                                  refine lv_aload_n hx hb dX4_passNumbers_145 rfl (lv_at hl 3 rfl) ?_
                                  refine va_get (D := D) (ci := 4) (v := .int g3_a) (C := RX4) (T := TX4) (N := 9) hx hb hts iuX4_passNumbers_X4 hown hK hP 3 rfl rfl 5 (by decide) (htw (.fieldLink RX4 21 "MergeJudge$Reader" "number" "I") (List.mem_of_getElem? (i := 12) rfl)) (fun _ h9 => h9) rfl dX4_passNumbers_146 ?_
                                  refine lv_if_ne (tgt := 158) hx hb dX4_passNumbers_149 (by decide) (fun c_29 => ?_) (fun c_29 => ?_)
                                  ·
                                    refine lv_aload_n hx hb dX4_passNumbers_158 rfl (lv_at hl 6 rfl) ?_
                                    refine lv_iload hx hb dX4_passNumbers_159 (lv_at hl 7 rfl) ?_
                                    refine lv_iconst (v := 1) hx hb dX4_passNumbers_161 (by decide) ?_
                                    refine lv_iadd hx hb dX4_passNumbers_162 ?_
                                    refine cf_i (nI (fo + 1)) (nI_add fo 1) ?_
                                    refine lv_iload hx hb dX4_passNumbers_163 (lv_at hl 2 rfl) ?_
                                    refine lv_iadd hx hb dX4_passNumbers_165 ?_
                                    refine cf_i (nI (fo + 1 + g5_a)) (nI_add (fo + 1) g5_a) ?_
                                    refine lv_aload_n hx hb dX4_passNumbers_166 rfl (lv_at hl 3 rfl) ?_
                                    refine va_get (D := D) (ci := 4) (v := .int g3_a) (C := RX4) (T := TX4) (N := 9) hx hb hts iuX4_passNumbers_X4 hown hK hP 3 rfl rfl 5 (by decide) (htw (.fieldLink RX4 21 "MergeJudge$Reader" "number" "I") (List.mem_of_getElem? (i := 12) rfl)) (fun _ h9 => h9) rfl dX4_passNumbers_167 ?_
                                    refine va_iast hx hb hK hP hD hS 2 1 rfl rfl (vp_in_nI (by omega) (by omega)) dX4_passNumbers_170 (fun H locs hP hD hS => ?_)
                                    have hP : va_P D vwCl [(aT, .inr (7, [.ref tb, .int (nI nt)])), (tb, .inl (cs 0, 400, .inl ft)), (qr1, .inl (cs 1, 25, .inl (upd g4_a ((nI (fo + 1 + g5_a)).toNatClampNeg) g3_a))), (aR, .inr (4, [.ref aT, .ref aD, .int g0_a, .int (nI g1_a), .int (nI g2_a), .int g3_a, .int rp, .int rk, .int rf])), (aD, .inr (0, [.int qli, .int (nI qtp), .int qlw, .int qod, .int (nI qnc), .int (nI qnr), .int (nI qno), .int (nI qna), .int qdr, .int qlo, .ref qr0, .ref qr1, .ref qr2, .ref qr3, .ref qr4]))] H := hP
                                    have hD : va_D A [(aT, .inr (7, [.ref tb, .int (nI nt)])), (tb, .inl (cs 0, 400, .inl ft)), (qr1, .inl (cs 1, 25, .inl (upd g4_a ((nI (fo + 1 + g5_a)).toNatClampNeg) g3_a))), (aR, .inr (4, [.ref aT, .ref aD, .int g0_a, .int (nI g1_a), .int (nI g2_a), .int g3_a, .int rp, .int rk, .int rf])), (aD, .inr (0, [.int qli, .int (nI qtp), .int qlw, .int qod, .int (nI qnc), .int (nI qnr), .int (nI qno), .int (nI qna), .int qdr, .int qlo, .ref qr0, .ref qr1, .ref qr2, .ref qr3, .ref qr4]))] := hD
                                    refine lv_aload_n hx hb dX4_passNumbers_171 rfl (lv_at hl 3 rfl) ?_
                                    refine aft_v (wr := [(qr1, .inl (cs 1, 25, .inl (upd g4_a ((nI (fo + 1 + g5_a)).toNatClampNeg) g3_a))), (aD, .inr (0, [.int qli, .int (nI qtp), .int qlw, .int qod, .int (nI qnc), .int (nI qnr), .int (nI qno), .int (nI qna), .int qdr, .int qlo, .ref qr0, .ref qr1, .ref qr2, .ref qr3, .ref qr4]))]) hP hD hS hA [3, 0, 1] [2, 4] rfl rfl (by decide) (by decide) (run_v (As := []) (rest := []) hFix hK hE hP hD [3, 0, 1] (k_X4_next l D cs _ aR aT aD g0_a g3_a rp rk rf tb ft g1_a g2_a nt (by first | assumption | decide | omega) (by first | assumption | decide | omega)) (cwV 0 hts gc_X4_passNumbers_46_X4_next rfl rfl rfl (by decide +kernel) ⟨Nat.le_of_ble_eq_true rfl, Nat.le_of_ble_eq_true rfl⟩) rfl (by decide) rfl rfl rfl hl.1 rfl (Nat.le_of_ble_eq_true rfl) dX4_passNumbers_172 ⟨Nat.le_of_ble_eq_true rfl, Nat.le_of_ble_eq_true rfl⟩) (fun u_30 H locs hq_30 hP hD hS => ?_)
                                    obtain ⟨rt1_30, rs1_30, ra1_30, rn1_30⟩ := u_30
                                    have hP : va_P D vwCl [(qr1, .inl (cs 1, 25, .inl (upd g4_a ((nI (fo + 1 + g5_a)).toNatClampNeg) g3_a))), (aD, .inr (0, [.int qli, .int (nI qtp), .int qlw, .int qod, .int (nI qnc), .int (nI qnr), .int (nI qno), .int (nI qna), .int qdr, .int qlo, .ref qr0, .ref qr1, .ref qr2, .ref qr3, .ref qr4])), (aR, .inr (4, [.ref aT, .ref aD, .int rt1_30, .int (nI rs1_30), .int (nI ra1_30), .int rn1_30, .int rp, .int rk, .int rf])), (aT, .inr (7, [.ref tb, .int (nI nt)])), (tb, .inl (cs 0, 400, .inl ft))] H := hP
                                    have hD : va_D A [(qr1, .inl (cs 1, 25, .inl (upd g4_a ((nI (fo + 1 + g5_a)).toNatClampNeg) g3_a))), (aD, .inr (0, [.int qli, .int (nI qtp), .int qlw, .int qod, .int (nI qnc), .int (nI qnr), .int (nI qno), .int (nI qna), .int qdr, .int qlo, .ref qr0, .ref qr1, .ref qr2, .ref qr3, .ref qr4])), (aR, .inr (4, [.ref aT, .ref aD, .int rt1_30, .int (nI rs1_30), .int (nI ra1_30), .int rn1_30, .int rp, .int rk, .int rf])), (aT, .inr (7, [.ref tb, .int (nI nt)])), (tb, .inl (cs 0, 400, .inl ft))] := hD
                                    replace hq_30 : (rs1_30 ≤ ra1_30) ∧ (ra1_30 ≤ nt) := hq_30
                                    obtain ⟨hp_30_0, hp_30_1⟩ := hq_30
                                    refine lv_iinc (v := (nI (g5_a + 1))) (lv' := [(6, .int (nI (g5_a + 1))), (8, .int 0), (7, .int (nI j_12)), (0, .ref aR), (1, .int ki), (2, .ref (aK wi)), (3, .ref qr1), (4, .int (nI fo)), (5, .int 5)]) hx hb dX4_passNumbers_175 hl (k := 2) rfl (nI_1 _) (by decide) rfl (fun ls hl => ?_)
                                    refine lv_goto (tgt := 62) hx hb dX4_passNumbers_178 (by decide) ?_
                                    exact ih_lp_9 rt1_30 rs1_30 ra1_30 rn1_30 (upd g4_a ((nI (fo + 1 + g5_a)).toNatClampNeg) g3_a) (g5_a + 1) H locs ls (by omega) (by omega) (by omega) (by omega) (hP.sub [2, 3, 4, 1, 0] rfl) (hD.sub [2, 3, 4, 1, 0] (by decide) rfl) hS (lv_sub hl [0, 3, 4, 5, 6, 7, 8] rfl)
                                  ·
                                    refine lv_aload_n hx hb dX4_passNumbers_152 rfl (lv_at hl 3 rfl) ?_
                                    refine lv_iconst (v := 2) hx hb dX4_passNumbers_153 (by decide) ?_
                                    refine aft_i (wr := [(aT, .inr (7, [.ref tb, .int (nI nt)])), (tb, .inl (cs 0, 400, .inl ft)), (qr1, .inl (cs 1, 25, .inl g4_a)), (aD, .inr (0, [.int qli, .int (nI qtp), .int qlw, .int qod, .int (nI qnc), .int (nI qnr), .int (nI qno), .int (nI qna), .int qdr, .int qlo, .ref qr0, .ref qr1, .ref qr2, .ref qr3, .ref qr4]))]) hP hD hS hA [3] [0, 1, 2, 4] rfl rfl (by decide) (by decide) (run_v (As := [.int 2]) (rest := []) hFix hK hE hP hD [3] (k_X4_failed l D cs _ aR 2 aT aD g0_a g3_a rp rk rf g1_a g2_a) (cwV 1 hts gc_X4_passNumbers_78_X4_failed rfl rfl rfl (by decide +kernel) ⟨Nat.le_of_ble_eq_true rfl, Nat.le_of_ble_eq_true rfl⟩) rfl (by decide) rfl rfl rfl hl.1 rfl (Nat.le_of_ble_eq_true rfl) dX4_passNumbers_154 ⟨Nat.le_of_ble_eq_true rfl, Nat.le_of_ble_eq_true rfl⟩) (fun r_31 u_31 H locs hq_31 hP hD hS => ?_)
                                    obtain ⟨rk1_31, rf1_31⟩ := u_31
                                    have hP : va_P D vwCl [(aT, .inr (7, [.ref tb, .int (nI nt)])), (tb, .inl (cs 0, 400, .inl ft)), (qr1, .inl (cs 1, 25, .inl g4_a)), (aD, .inr (0, [.int qli, .int (nI qtp), .int qlw, .int qod, .int (nI qnc), .int (nI qnr), .int (nI qno), .int (nI qna), .int qdr, .int qlo, .ref qr0, .ref qr1, .ref qr2, .ref qr3, .ref qr4])), (aR, .inr (4, [.ref aT, .ref aD, .int g0_a, .int (nI g1_a), .int (nI g2_a), .int g3_a, .int rp, .int rk1_31, .int rf1_31]))] H := hP
                                    have hD : va_D A [(aT, .inr (7, [.ref tb, .int (nI nt)])), (tb, .inl (cs 0, 400, .inl ft)), (qr1, .inl (cs 1, 25, .inl g4_a)), (aD, .inr (0, [.int qli, .int (nI qtp), .int qlw, .int qod, .int (nI qnc), .int (nI qnr), .int (nI qno), .int (nI qna), .int qdr, .int qlo, .ref qr0, .ref qr1, .ref qr2, .ref qr3, .ref qr4])), (aR, .inr (4, [.ref aT, .ref aD, .int g0_a, .int (nI g1_a), .int (nI g2_a), .int g3_a, .int rp, .int rk1_31, .int rf1_31]))] := hD
                                    replace hq_31 : ((r_31 = 0 ∧ True)) := hq_31
                                    obtain ⟨rfl, hq_31⟩ := hq_31
                                    ·
                                      exact ret_z hx hb hr hlk hS (Nat.le_of_ble_eq_true rfl) (Nat.le_of_ble_eq_true rfl) (by decide) (g0_a, g1_a, g2_a, g3_a, rk1_31, rf1_31, g4_a) (⟨(by omega), (by omega), Or.inr (⟨rfl, trivial⟩)⟩) (hP.sub [4, 0, 1, 3, 2] rfl) (hD.sub [4, 0, 1, 3, 2] (by decide) rfl) dX4_passNumbers_157
                            ·
                              refine lv_iconst (v := 1) hx hb dX4_passNumbers_113 (by decide) ?_
                              refine lv_goto (tgt := 118) hx hb dX4_passNumbers_114 (by decide) ?_
                              refine lv_istore (lv' := [(8, .int 1), (7, .int (nI j_12)), (6, .int (nI g5_a)), (0, .ref aR), (1, .int ki), (2, .ref (aK wi)), (3, .ref qr1), (4, .int (nI fo)), (5, .int 5)]) hx hb dX4_passNumbers_118 hl (by decide) rfl (fun ls hl => ?_)
                              refine lv_iload hx hb dX4_passNumbers_120 (lv_at hl 0 rfl) ?_
                              refine lv_if_ne (tgt := 152) hx hb dX4_passNumbers_122 (by decide) (fun _ => ?_) (fun h9 => absurd h9 (by decide))
                              refine lv_aload_n hx hb dX4_passNumbers_152 rfl (lv_at hl 3 rfl) ?_
                              refine lv_iconst (v := 2) hx hb dX4_passNumbers_153 (by decide) ?_
                              refine aft_i (wr := [(aT, .inr (7, [.ref tb, .int (nI nt)])), (tb, .inl (cs 0, 400, .inl ft)), (aD, .inr (0, [.int qli, .int (nI qtp), .int qlw, .int qod, .int (nI qnc), .int (nI qnr), .int (nI qno), .int (nI qna), .int qdr, .int qlo, .ref qr0, .ref qr1, .ref qr2, .ref qr3, .ref qr4])), (qr1, .inl (cs 1, 25, .inl g4_a))]) hP hD hS hA [0] [1, 2, 3, 4] rfl rfl (by decide) (by decide) (run_v (As := [.int 2]) (rest := []) hFix hK hE hP hD [0] (k_X4_failed l D cs _ aR 2 aT aD g0_a g3_a rp rk rf g1_a g2_a) (cwV 1 hts gc_X4_passNumbers_78_X4_failed rfl rfl rfl (by decide +kernel) ⟨Nat.le_of_ble_eq_true rfl, Nat.le_of_ble_eq_true rfl⟩) rfl (by decide) rfl rfl rfl hl.1 rfl (Nat.le_of_ble_eq_true rfl) dX4_passNumbers_154 ⟨Nat.le_of_ble_eq_true rfl, Nat.le_of_ble_eq_true rfl⟩) (fun r_32 u_32 H locs hq_32 hP hD hS => ?_)
                              obtain ⟨rk1_32, rf1_32⟩ := u_32
                              have hP : va_P D vwCl [(aT, .inr (7, [.ref tb, .int (nI nt)])), (tb, .inl (cs 0, 400, .inl ft)), (aD, .inr (0, [.int qli, .int (nI qtp), .int qlw, .int qod, .int (nI qnc), .int (nI qnr), .int (nI qno), .int (nI qna), .int qdr, .int qlo, .ref qr0, .ref qr1, .ref qr2, .ref qr3, .ref qr4])), (qr1, .inl (cs 1, 25, .inl g4_a)), (aR, .inr (4, [.ref aT, .ref aD, .int g0_a, .int (nI g1_a), .int (nI g2_a), .int g3_a, .int rp, .int rk1_32, .int rf1_32]))] H := hP
                              have hD : va_D A [(aT, .inr (7, [.ref tb, .int (nI nt)])), (tb, .inl (cs 0, 400, .inl ft)), (aD, .inr (0, [.int qli, .int (nI qtp), .int qlw, .int qod, .int (nI qnc), .int (nI qnr), .int (nI qno), .int (nI qna), .int qdr, .int qlo, .ref qr0, .ref qr1, .ref qr2, .ref qr3, .ref qr4])), (qr1, .inl (cs 1, 25, .inl g4_a)), (aR, .inr (4, [.ref aT, .ref aD, .int g0_a, .int (nI g1_a), .int (nI g2_a), .int g3_a, .int rp, .int rk1_32, .int rf1_32]))] := hD
                              replace hq_32 : ((r_32 = 0 ∧ True)) := hq_32
                              obtain ⟨rfl, hq_32⟩ := hq_32
                              ·
                                exact ret_z hx hb hr hlk hS (Nat.le_of_ble_eq_true rfl) (Nat.le_of_ble_eq_true rfl) (by decide) (g0_a, g1_a, g2_a, g3_a, rk1_32, rf1_32, g4_a) (⟨(by omega), (by omega), Or.inr (⟨rfl, trivial⟩)⟩) (hP.sub [4, 0, 1, 2, 3] rfl) (hD.sub [4, 0, 1, 2, 3] (by decide) rfl) dX4_passNumbers_157
                        ·
                          refine lv_aload_n hx hb dX4_passNumbers_87 rfl (lv_at hl 2 rfl) ?_
                          refine lv_iconst (v := 1) hx hb dX4_passNumbers_88 (by decide) ?_
                          refine aft_i (wr := [(aT, .inr (7, [.ref tb, .int (nI nt)])), (tb, .inl (cs 0, 400, .inl ft)), (aD, .inr (0, [.int qli, .int (nI qtp), .int qlw, .int qod, .int (nI qnc), .int (nI qnr), .int (nI qno), .int (nI qna), .int qdr, .int qlo, .ref qr0, .ref qr1, .ref qr2, .ref qr3, .ref qr4])), (qr1, .inl (cs 1, 25, .inl g4_a))]) hP hD hS hA [0] [1, 2, 3, 4] rfl rfl (by decide) (by decide) (run_v (As := [.int 1]) (rest := []) hFix hK hE hP hD [0] (k_X4_failed l D cs _ aR 1 aT aD g0_a g3_a rp rk rf g1_a g2_a) (cwV 1 hts gc_X4_passNumbers_78_X4_failed rfl rfl rfl (by decide +kernel) ⟨Nat.le_of_ble_eq_true rfl, Nat.le_of_ble_eq_true rfl⟩) rfl (by decide) rfl rfl rfl hl.1 rfl (Nat.le_of_ble_eq_true rfl) dX4_passNumbers_89 ⟨Nat.le_of_ble_eq_true rfl, Nat.le_of_ble_eq_true rfl⟩) (fun r_33 u_33 H locs hq_33 hP hD hS => ?_)
                          obtain ⟨rk1_33, rf1_33⟩ := u_33
                          have hP : va_P D vwCl [(aT, .inr (7, [.ref tb, .int (nI nt)])), (tb, .inl (cs 0, 400, .inl ft)), (aD, .inr (0, [.int qli, .int (nI qtp), .int qlw, .int qod, .int (nI qnc), .int (nI qnr), .int (nI qno), .int (nI qna), .int qdr, .int qlo, .ref qr0, .ref qr1, .ref qr2, .ref qr3, .ref qr4])), (qr1, .inl (cs 1, 25, .inl g4_a)), (aR, .inr (4, [.ref aT, .ref aD, .int g0_a, .int (nI g1_a), .int (nI g2_a), .int g3_a, .int rp, .int rk1_33, .int rf1_33]))] H := hP
                          have hD : va_D A [(aT, .inr (7, [.ref tb, .int (nI nt)])), (tb, .inl (cs 0, 400, .inl ft)), (aD, .inr (0, [.int qli, .int (nI qtp), .int qlw, .int qod, .int (nI qnc), .int (nI qnr), .int (nI qno), .int (nI qna), .int qdr, .int qlo, .ref qr0, .ref qr1, .ref qr2, .ref qr3, .ref qr4])), (qr1, .inl (cs 1, 25, .inl g4_a)), (aR, .inr (4, [.ref aT, .ref aD, .int g0_a, .int (nI g1_a), .int (nI g2_a), .int g3_a, .int rp, .int rk1_33, .int rf1_33]))] := hD
                          replace hq_33 : ((r_33 = 0 ∧ True)) := hq_33
                          obtain ⟨rfl, hq_33⟩ := hq_33
                          ·
                            exact ret_z hx hb hr hlk hS (Nat.le_of_ble_eq_true rfl) (Nat.le_of_ble_eq_true rfl) (by decide) (g0_a, g1_a, g2_a, g3_a, rk1_33, rf1_33, g4_a) (⟨(by omega), (by omega), Or.inr (⟨rfl, trivial⟩)⟩) (hP.sub [4, 0, 1, 2, 3] rfl) (hD.sub [4, 0, 1, 2, 3] (by decide) rfl) dX4_passNumbers_92
              exact lp_9 _ rt rs ra rn m0_6 0 H locs ls (by omega) (by omega) (by omega) (Nat.lt_succ_self _) (hP.sub [0, 1, 2, 3, 4] rfl) (hD.sub [0, 1, 2, 3, 4] (by decide) rfl) hS (lv_sub hl [0, 1, 2, 3, 4, 5, 6] rfl)
            ·
              have hn_8 := bge_f (a := i_6) (b := 5) c_8 (by omega) (by omega)
              refine lv_aload_n hx hb dX4_passNumbers_45 rfl (lv_at hl 4 rfl) ?_
              refine lv_iload hx hb dX4_passNumbers_46 (lv_at hl 5 rfl) ?_
              refine lv_iload hx hb dX4_passNumbers_48 (lv_at hl 0 rfl) ?_
              refine lv_iadd hx hb dX4_passNumbers_50 ?_
              refine cf_i (nI (fo + i_6)) (nI_add fo i_6) ?_
              refine lv_iconst (v := (-1)) hx hb dX4_passNumbers_51 (by decide) ?_
              refine va_iast hx hb hK hP hD hS 4 1 rfl rfl (vp_in_nI (by omega) (by omega)) dX4_passNumbers_52 (fun H locs hP hD hS => ?_)
              have hP : va_P D vwCl [(aR, .inr (4, [.ref aT, .ref aD, .int rt, .int (nI rs), .int (nI ra), .int rn, .int rp, .int rk, .int rf])), (aT, .inr (7, [.ref tb, .int (nI nt)])), (tb, .inl (cs 0, 400, .inl ft)), (aD, .inr (0, [.int qli, .int (nI qtp), .int qlw, .int qod, .int (nI qnc), .int (nI qnr), .int (nI qno), .int (nI qna), .int qdr, .int qlo, .ref qr0, .ref qr1, .ref qr2, .ref qr3, .ref qr4])), (qr1, .inl (cs 1, 25, .inl (upd m0_6 ((nI (fo + i_6)).toNatClampNeg) (-1))))] H := hP
              have hD : va_D A [(aR, .inr (4, [.ref aT, .ref aD, .int rt, .int (nI rs), .int (nI ra), .int rn, .int rp, .int rk, .int rf])), (aT, .inr (7, [.ref tb, .int (nI nt)])), (tb, .inl (cs 0, 400, .inl ft)), (aD, .inr (0, [.int qli, .int (nI qtp), .int qlw, .int qod, .int (nI qnc), .int (nI qnr), .int (nI qno), .int (nI qna), .int qdr, .int qlo, .ref qr0, .ref qr1, .ref qr2, .ref qr3, .ref qr4])), (qr1, .inl (cs 1, 25, .inl (upd m0_6 ((nI (fo + i_6)).toNatClampNeg) (-1))))] := hD
              refine lv_iinc (v := (nI (i_6 + 1))) (lv' := [(6, .int (nI (i_6 + 1))), (0, .ref aR), (1, .int ki), (2, .ref (aK wi)), (3, .ref qr1), (4, .int (nI fo)), (5, .int 5)]) hx hb dX4_passNumbers_53 hl (k := 0) rfl (nI_1 _) (by decide) rfl (fun ls hl => ?_)
              refine lv_goto (tgt := 38) hx hb dX4_passNumbers_56 (by decide) ?_
              exact ih_lp_7 (i_6 + 1) (upd m0_6 ((nI (fo + i_6)).toNatClampNeg) (-1)) H locs ls (by omega) (by omega) (hP.sub [0, 1, 2, 3, 4] rfl) (hD.sub [0, 1, 2, 3, 4] (by decide) rfl) hS (lv_sub hl [0, 1, 2, 3, 4, 5, 6] rfl)
        exact lp_7 _ 1 (upd qf1 ((nI fo).toNatClampNeg) ki) H locs ls (by omega) (Nat.lt_succ_self _) (hP.sub [0, 1, 2, 3, 4] rfl) (hD.sub [0, 1, 2, 3, 4] (by decide) rfl) hS (lv_sub hl [0, 1, 2, 3, 4, 5, 6] rfl)
      ·
        have hn_5 := blt_f (a := j_4) (b := 5) c_5 (by omega) (by omega)
        refine lv_aload_n hx hb dX4_passNumbers_24 rfl (lv_at hl 0 rfl) ?_
        refine lv_iconst (v := 3) hx hb dX4_passNumbers_25 (by decide) ?_
        refine aft_i (wr := [(aT, .inr (7, [.ref tb, .int (nI nt)])), (tb, .inl (cs 0, 400, .inl ft)), (aD, .inr (0, [.int qli, .int (nI qtp), .int qlw, .int qod, .int (nI qnc), .int (nI qnr), .int (nI qno), .int (nI qna), .int qdr, .int qlo, .ref qr0, .ref qr1, .ref qr2, .ref qr3, .ref qr4])), (qr1, .inl (cs 1, 25, .inl qf1))]) hP hD hS hA [0] [1, 2, 3, 4] rfl rfl (by decide) (by decide) (run_v (As := [.int 3]) (rest := []) hFix hK hE hP hD [0] (k_X4_failed l D cs _ aR 3 aT aD rt rn rp rk rf rs ra) (cwV 1 hts gc_X4_passNumbers_78_X4_failed rfl rfl rfl (by decide +kernel) ⟨Nat.le_of_ble_eq_true rfl, Nat.le_of_ble_eq_true rfl⟩) rfl (by decide) rfl rfl rfl hl.1 rfl (Nat.le_of_ble_eq_true rfl) dX4_passNumbers_26 ⟨Nat.le_of_ble_eq_true rfl, Nat.le_of_ble_eq_true rfl⟩) (fun r_34 u_34 H locs hq_34 hP hD hS => ?_)
        obtain ⟨rk1_34, rf1_34⟩ := u_34
        have hP : va_P D vwCl [(aT, .inr (7, [.ref tb, .int (nI nt)])), (tb, .inl (cs 0, 400, .inl ft)), (aD, .inr (0, [.int qli, .int (nI qtp), .int qlw, .int qod, .int (nI qnc), .int (nI qnr), .int (nI qno), .int (nI qna), .int qdr, .int qlo, .ref qr0, .ref qr1, .ref qr2, .ref qr3, .ref qr4])), (qr1, .inl (cs 1, 25, .inl qf1)), (aR, .inr (4, [.ref aT, .ref aD, .int rt, .int (nI rs), .int (nI ra), .int rn, .int rp, .int rk1_34, .int rf1_34]))] H := hP
        have hD : va_D A [(aT, .inr (7, [.ref tb, .int (nI nt)])), (tb, .inl (cs 0, 400, .inl ft)), (aD, .inr (0, [.int qli, .int (nI qtp), .int qlw, .int qod, .int (nI qnc), .int (nI qnr), .int (nI qno), .int (nI qna), .int qdr, .int qlo, .ref qr0, .ref qr1, .ref qr2, .ref qr3, .ref qr4])), (qr1, .inl (cs 1, 25, .inl qf1)), (aR, .inr (4, [.ref aT, .ref aD, .int rt, .int (nI rs), .int (nI ra), .int rn, .int rp, .int rk1_34, .int rf1_34]))] := hD
        replace hq_34 : ((r_34 = 0 ∧ True)) := hq_34
        obtain ⟨rfl, hq_34⟩ := hq_34
        ·
          exact ret_z hx hb hr hlk hS (Nat.le_of_ble_eq_true rfl) (Nat.le_of_ble_eq_true rfl) (by decide) (rt, rs, ra, rn, rk1_34, rf1_34, qf1) (⟨(by omega), (by omega), Or.inr (⟨rfl, trivial⟩)⟩) (hP.sub [4, 0, 1, 2, 3] rfl) (hD.sub [4, 0, 1, 2, 3] (by decide) rfl) dX4_passNumbers_29

set_option maxHeartbeats 4000000 in
set_option maxRecDepth 100000 in
theorem k_X4_passNumbers_o (l : Launch) (D : va_G) (cs : Nat → ClassId) (sz : Nat) (aK aV : Nat → Nat) (aR : Nat) (ki : Int32) (qr2 : Nat) (fo : Nat) (wi : Nat) (aT : Nat) (aD : Nat) (rt : Int32) (rn : Int32) (rp : Int32) (rk : Int32) (rf : Int32) (tb : Nat) (ft : Nat → Int32) (qli : Int32) (qlw : Int32) (qod : Int32) (qdr : Int32) (qlo : Int32) (qr0 : Nat) (qr1 : Nat) (qr3 : Nat) (qr4 : Nat) (qf2 : Nat → Int32) (rs : Nat) (ra : Nat) (nt : Nat) (qtp : Nat) (qnc : Nat) (qnr : Nat) (qno : Nat) (qna : Nat) (hnt : nt ≤ 400) (hqtp : qtp ≤ 3) (hqnc : qnc ≤ 3) (hqnr : qnr ≤ 5) (hqno : qno ≤ 5) (hqna : qna ≤ 20) (ha_fo : fo < 17) (hra : rs ≤ ra) (hrt : ra ≤ nt) (hnj : wi < nJS) : Si l D cs aK aV yX4_passNumbers W_X4_passNumbers 4 85 0 0 [.ref aR, .int ki, .ref (aK wi), .ref qr2, .int (nI fo), .int 4] [(aR, .inr (4, [.ref aT, .ref aD, .int rt, .int (nI rs), .int (nI ra), .int rn, .int rp, .int rk, .int rf])), (aT, .inr (7, [.ref tb, .int (nI nt)])), (tb, .inl (cs 0, 400, .inl ft)), (aD, .inr (0, [.int qli, .int (nI qtp), .int qlw, .int qod, .int (nI qnc), .int (nI qnr), .int (nI qno), .int (nI qna), .int qdr, .int qlo, .ref qr0, .ref qr1, .ref qr2, .ref qr3, .ref qr4])), (qr2, .inl (cs 1, 20, .inl qf2))] sz (fun (r : Int32) (u : Int32 × Nat × Nat × Int32 × Int32 × Int32 × (Nat → Int32)) => (u.2.1 ≤ u.2.2.1) ∧ (u.2.2.1 ≤ nt) ∧ ((r = 1 ∧ True) ∨ (r = 0 ∧ True))) (fun (u : Int32 × Nat × Nat × Int32 × Int32 × Int32 × (Nat → Int32)) => [(aR, .inr (4, [.ref aT, .ref aD, .int u.1, .int (nI u.2.1), .int (nI u.2.2.1), .int u.2.2.2.1, .int rp, .int u.2.2.2.2.1, .int u.2.2.2.2.2.1])), (aT, .inr (7, [.ref tb, .int (nI nt)])), (tb, .inl (cs 0, 400, .inl ft)), (aD, .inr (0, [.int qli, .int (nI qtp), .int qlw, .int qod, .int (nI qnc), .int (nI qnr), .int (nI qno), .int (nI qna), .int qdr, .int qlo, .ref qr0, .ref qr1, .ref qr2, .ref qr3, .ref qr4])), (qr2, .inl (cs 1, 20, .inl u.2.2.2.2.2.2))]) := by
  refine entS (D := D) (cs := cs) (y := yX4_passNumbers) (ws := W_X4_passNumbers) (As := [.ref aR, .int ki, .ref (aK wi), .ref qr2, .int (nI fo), .int 4]) (W0 := [(aR, .inr (4, [.ref aT, .ref aD, .int rt, .int (nI rs), .int (nI ra), .int rn, .int rp, .int rk, .int rf])), (aT, .inr (7, [.ref tb, .int (nI nt)])), (tb, .inl (cs 0, 400, .inl ft)), (aD, .inr (0, [.int qli, .int (nI qtp), .int qlw, .int qod, .int (nI qnc), .int (nI qnr), .int (nI qno), .int (nI qna), .int qdr, .int qlo, .ref qr0, .ref qr1, .ref qr2, .ref qr3, .ref qr4])), (qr2, .inl (cs 1, 20, .inl qf2))]) (Qx := fun A => va_Qi (fun (r : Int32) (u : Int32 × Nat × Nat × Int32 × Int32 × Int32 × (Nat → Int32)) => (u.2.1 ≤ u.2.2.1) ∧ (u.2.2.1 ≤ nt) ∧ ((r = 1 ∧ True) ∨ (r = 0 ∧ True))) (mpost D A (fun (u : Int32 × Nat × Nat × Int32 × Int32 × Int32 × (Nat → Int32)) => [(aR, .inr (4, [.ref aT, .ref aD, .int u.1, .int (nI u.2.1), .int (nI u.2.2.1), .int u.2.2.2.1, .int rp, .int u.2.2.2.2.1, .int u.2.2.2.2.2.1])), (aT, .inr (7, [.ref tb, .int (nI nt)])), (tb, .inl (cs 0, 400, .inl ft)), (aD, .inr (0, [.int qli, .int (nI qtp), .int qlw, .int qod, .int (nI qnc), .int (nI qnr), .int (nI qno), .int (nI qna), .int qdr, .int qlo, .ref qr0, .ref qr1, .ref qr2, .ref qr3, .ref qr4])), (qr2, .inl (cs 1, 20, .inl u.2.2.2.2.2.2))])) A) (maxL := 9) (ret := (some .boolean)) (by decide) rfl (Nat.le_of_ble_eq_true rfl) ?_
  intro p e s m below meth c A ls hx hb hr hml hlk hown hts hin hK hE hV hP hD hA hS hl
  have hl : lv_has ls 9 [(0, .ref aR), (1, .int ki), (2, .ref (aK wi)), (3, .ref qr2), (4, .int (nI fo)), (5, .int 4)] := hl
  generalize hHe : s.heap = H at hP
  have hS : va_S A s.heap H [] := hHe ▸ hS
  generalize hLe : ([] : List Loc) = locs at hS ⊢
  have htw : ∀ w ∈ O_X4_passNumbers, w.before ([.ref aR, .int ki, .ref (aK wi), .ref qr2, .int (nI fo), .int 4] : List Value).toArray s = true := fun w h => hts w (List.mem_cons_of_mem _ (List.mem_append_left _ h))
  have hFix := (⟨hx, hb, hml, hown, hts⟩ : CallFix p m c _ _ s _ _ _)
  have hsl := sl_le (i := wi) (by assumption)
  refine lv_iload hx hb dX4_passNumbers_0 (lv_at hl 4 rfl) ?_
  refine lv_if_lt (tgt := 24) hx hb dX4_passNumbers_2 (by decide) (fun h9 => False.elim (nneg_l0 (a := fo) h9 (by omega) (by decide))) (fun _ => ?_)
  refine lv_iload hx hb dX4_passNumbers_5 (lv_at hl 4 rfl) ?_
  refine lv_iload hx hb dX4_passNumbers_7 (lv_at hl 5 rfl) ?_
  refine lv_iadd hx hb dX4_passNumbers_9 ?_
  refine cf_i (nI (fo + 4)) (nI_add fo 4) ?_
  refine lv_aload_n hx hb dX4_passNumbers_10 rfl (lv_at hl 3 rfl) ?_
  refine va_alen (v := 20) hx hb hK hP 4 1 rfl rfl rfl dX4_passNumbers_11 ?_
  refine lv_icmp_gt (tgt := 24) hx hb dX4_passNumbers_12 (by decide) (fun c_2 => ?_) (fun c_2 => ?_)
  ·
    have hn_2 := bgt_t (a := fo + 4) (b := 20) c_2 (by omega) (by omega)
    refine lv_aload_n hx hb dX4_passNumbers_24 rfl (lv_at hl 0 rfl) ?_
    refine lv_iconst (v := 3) hx hb dX4_passNumbers_25 (by decide) ?_
    refine aft_i (wr := [(aT, .inr (7, [.ref tb, .int (nI nt)])), (tb, .inl (cs 0, 400, .inl ft)), (aD, .inr (0, [.int qli, .int (nI qtp), .int qlw, .int qod, .int (nI qnc), .int (nI qnr), .int (nI qno), .int (nI qna), .int qdr, .int qlo, .ref qr0, .ref qr1, .ref qr2, .ref qr3, .ref qr4])), (qr2, .inl (cs 1, 20, .inl qf2))]) hP hD hS hA [0] [1, 2, 3, 4] rfl rfl (by decide) (by decide) (run_v (As := [.int 3]) (rest := []) hFix hK hE hP hD [0] (k_X4_failed l D cs _ aR 3 aT aD rt rn rp rk rf rs ra) (cwV 1 hts gc_X4_passNumbers_78_X4_failed rfl rfl rfl (by decide +kernel) ⟨Nat.le_of_ble_eq_true rfl, Nat.le_of_ble_eq_true rfl⟩) rfl (by decide) rfl rfl rfl hl.1 rfl (Nat.le_of_ble_eq_true rfl) dX4_passNumbers_26 ⟨Nat.le_of_ble_eq_true rfl, Nat.le_of_ble_eq_true rfl⟩) (fun r_3 u_3 H locs hq_3 hP hD hS => ?_)
    obtain ⟨rk1_3, rf1_3⟩ := u_3
    have hP : va_P D vwCl [(aT, .inr (7, [.ref tb, .int (nI nt)])), (tb, .inl (cs 0, 400, .inl ft)), (aD, .inr (0, [.int qli, .int (nI qtp), .int qlw, .int qod, .int (nI qnc), .int (nI qnr), .int (nI qno), .int (nI qna), .int qdr, .int qlo, .ref qr0, .ref qr1, .ref qr2, .ref qr3, .ref qr4])), (qr2, .inl (cs 1, 20, .inl qf2)), (aR, .inr (4, [.ref aT, .ref aD, .int rt, .int (nI rs), .int (nI ra), .int rn, .int rp, .int rk1_3, .int rf1_3]))] H := hP
    have hD : va_D A [(aT, .inr (7, [.ref tb, .int (nI nt)])), (tb, .inl (cs 0, 400, .inl ft)), (aD, .inr (0, [.int qli, .int (nI qtp), .int qlw, .int qod, .int (nI qnc), .int (nI qnr), .int (nI qno), .int (nI qna), .int qdr, .int qlo, .ref qr0, .ref qr1, .ref qr2, .ref qr3, .ref qr4])), (qr2, .inl (cs 1, 20, .inl qf2)), (aR, .inr (4, [.ref aT, .ref aD, .int rt, .int (nI rs), .int (nI ra), .int rn, .int rp, .int rk1_3, .int rf1_3]))] := hD
    replace hq_3 : ((r_3 = 0 ∧ True)) := hq_3
    obtain ⟨rfl, hq_3⟩ := hq_3
    ·
      exact ret_z hx hb hr hlk hS (Nat.le_of_ble_eq_true rfl) (Nat.le_of_ble_eq_true rfl) (by decide) (rt, rs, ra, rn, rk1_3, rf1_3, qf2) (⟨(by omega), (by omega), Or.inr (⟨rfl, trivial⟩)⟩) (hP.sub [4, 0, 1, 2, 3] rfl) (hD.sub [4, 0, 1, 2, 3] (by decide) rfl) dX4_passNumbers_29
  ·
    have hn_2 := bgt_f (a := fo + 4) (b := 20) c_2 (by omega) (by omega)
    refine lv_aload_n hx hb dX4_passNumbers_15 rfl (lv_at hl 2 rfl) ?_
    refine aft_i (wr := [(aR, .inr (4, [.ref aT, .ref aD, .int rt, .int (nI rs), .int (nI ra), .int rn, .int rp, .int rk, .int rf])), (aT, .inr (7, [.ref tb, .int (nI nt)])), (tb, .inl (cs 0, 400, .inl ft)), (aD, .inr (0, [.int qli, .int (nI qtp), .int qlw, .int qod, .int (nI qnc), .int (nI qnr), .int (nI qno), .int (nI qna), .int qdr, .int qlo, .ref qr0, .ref qr1, .ref qr2, .ref qr3, .ref qr4])), (qr2, .inl (cs 1, 20, .inl qf2))]) hP hD hS hA [] [0, 1, 2, 3, 4] rfl rfl (by decide) (by decide) (run_vS (As := []) (rest := []) hFix hK hE hV hP hD hS hA [] (k_J0_length_8abf5 l D cs _ aK aV wi (by first | assumption | decide | omega)) (cwV 0 hts gc_X4_passNumbers_183_J0_length_8abf5 rfl rfl rfl (by decide +kernel) ⟨Nat.le_of_ble_eq_true rfl, Nat.le_of_ble_eq_true rfl⟩) rfl (by decide) (vk_recv hV.1 (by assumption) hS) rfl hl.1 rfl (Nat.le_of_ble_eq_true rfl) dX4_passNumbers_16 ⟨Nat.le_of_ble_eq_true rfl, Nat.le_of_ble_eq_true rfl⟩) (fun r_4 u_4 H locs hq_4 hP hD hS => ?_)
    obtain ⟨j_4, rfl⟩ : ∃ z, z = u_4 := ⟨_, rfl⟩
    have hP : va_P D vwCl [(aR, .inr (4, [.ref aT, .ref aD, .int rt, .int (nI rs), .int (nI ra), .int rn, .int rp, .int rk, .int rf])), (aT, .inr (7, [.ref tb, .int (nI nt)])), (tb, .inl (cs 0, 400, .inl ft)), (aD, .inr (0, [.int qli, .int (nI qtp), .int qlw, .int qod, .int (nI qnc), .int (nI qnr), .int (nI qno), .int (nI qna), .int qdr, .int qlo, .ref qr0, .ref qr1, .ref qr2, .ref qr3, .ref qr4])), (qr2, .inl (cs 1, 20, .inl qf2))] H := hP
    have hD : va_D A [(aR, .inr (4, [.ref aT, .ref aD, .int rt, .int (nI rs), .int (nI ra), .int rn, .int rp, .int rk, .int rf])), (aT, .inr (7, [.ref tb, .int (nI nt)])), (tb, .inl (cs 0, 400, .inl ft)), (aD, .inr (0, [.int qli, .int (nI qtp), .int qlw, .int qod, .int (nI qnc), .int (nI qnr), .int (nI qno), .int (nI qna), .int qdr, .int qlo, .ref qr0, .ref qr1, .ref qr2, .ref qr3, .ref qr4])), (qr2, .inl (cs 1, 20, .inl qf2))] := hD
    replace hq_4 : ((r_4 = nI j_4 ∧ j_4 = sl wi)) := hq_4
    obtain ⟨rfl, hq_4⟩ := hq_4
    ·
      refine lv_iload hx hb dX4_passNumbers_19 (lv_at hl 5 rfl) ?_
      refine lv_icmp_lt (tgt := 30) hx hb dX4_passNumbers_21 (by decide) (fun c_5 => ?_) (fun c_5 => ?_)
      ·
        have hn_5 := blt_t (a := j_4) (b := 4) c_5 (by omega) (by omega)
        refine lv_aload_n hx hb dX4_passNumbers_30 rfl (lv_at hl 3 rfl) ?_
        refine lv_iload hx hb dX4_passNumbers_31 (lv_at hl 4 rfl) ?_
        refine lv_iload_n hx hb dX4_passNumbers_33 rfl (lv_at hl 1 rfl) ?_
        refine va_iast hx hb hK hP hD hS 4 1 rfl rfl (vp_in_nI (by omega) (by omega)) dX4_passNumbers_34 (fun H locs hP hD hS => ?_)
        have hP : va_P D vwCl [(aR, .inr (4, [.ref aT, .ref aD, .int rt, .int (nI rs), .int (nI ra), .int rn, .int rp, .int rk, .int rf])), (aT, .inr (7, [.ref tb, .int (nI nt)])), (tb, .inl (cs 0, 400, .inl ft)), (aD, .inr (0, [.int qli, .int (nI qtp), .int qlw, .int qod, .int (nI qnc), .int (nI qnr), .int (nI qno), .int (nI qna), .int qdr, .int qlo, .ref qr0, .ref qr1, .ref qr2, .ref qr3, .ref qr4])), (qr2, .inl (cs 1, 20, .inl (upd qf2 ((nI fo).toNatClampNeg) ki)))] H := hP
        have hD : va_D A [(aR, .inr (4, [.ref aT, .ref aD, .int rt, .int (nI rs), .int (nI ra), .int rn, .int rp, .int rk, .int rf])), (aT, .inr (7, [.ref tb, .int (nI nt)])), (tb, .inl (cs 0, 400, .inl ft)), (aD, .inr (0, [.int qli, .int (nI qtp), .int qlw, .int qod, .int (nI qnc), .int (nI qnr), .int (nI qno), .int (nI qna), .int qdr, .int qlo, .ref qr0, .ref qr1, .ref qr2, .ref qr3, .ref qr4])), (qr2, .inl (cs 1, 20, .inl (upd qf2 ((nI fo).toNatClampNeg) ki)))] := hD
        refine lv_iconst (v := 1) hx hb dX4_passNumbers_35 (by decide) ?_
        refine lv_istore (lv' := [(6, .int 1), (0, .ref aR), (1, .int ki), (2, .ref (aK wi)), (3, .ref qr2), (4, .int (nI fo)), (5, .int 4)]) hx hb dX4_passNumbers_36 hl (by decide) rfl (fun ls hl => ?_)
        have lp_7 : ∀ (nfu : Nat) (i_6 : Nat) (m0_6 : Nat → Int32) (H : Heap) (locs : List Loc) (ls : Array Slot) (hi_6 : i_6 ≤ 4), 4 - i_6 < nfu → va_P D vwCl [(aR, .inr (4, [.ref aT, .ref aD, .int rt, .int (nI rs), .int (nI ra), .int rn, .int rp, .int rk, .int rf])), (aT, .inr (7, [.ref tb, .int (nI nt)])), (tb, .inl (cs 0, 400, .inl ft)), (aD, .inr (0, [.int qli, .int (nI qtp), .int qlw, .int qod, .int (nI qnc), .int (nI qnr), .int (nI qno), .int (nI qna), .int qdr, .int qlo, .ref qr0, .ref qr1, .ref qr2, .ref qr3, .ref qr4])), (qr2, .inl (cs 1, 20, .inl m0_6))] H → va_D A [(aR, .inr (4, [.ref aT, .ref aD, .int rt, .int (nI rs), .int (nI ra), .int rn, .int rp, .int rk, .int rf])), (aT, .inr (7, [.ref tb, .int (nI nt)])), (tb, .inl (cs 0, 400, .inl ft)), (aD, .inr (0, [.int qli, .int (nI qtp), .int qlw, .int qod, .int (nI qnc), .int (nI qnr), .int (nI qno), .int (nI qna), .int qdr, .int qlo, .ref qr0, .ref qr1, .ref qr2, .ref qr3, .ref qr4])), (qr2, .inl (cs 1, 20, .inl m0_6))] → va_S A s.heap H locs → lv_has ls 9 [(6, .int (nI i_6)), (0, .ref aR), (1, .int ki), (2, .ref (aK wi)), (3, .ref qr2), (4, .int (nI fo)), (5, .int 4)] → W p l e (mRm 4 0 0 85) s m ([.ref aR, .int ki, .ref (aK wi), .ref qr2, .int (nI fo), .int 4] : List Value).toArray below meth c H locs 0 0 (MQ below (va_Qi (fun (r : Int32) (u : Int32 × Nat × Nat × Int32 × Int32 × Int32 × (Nat → Int32)) => (u.2.1 ≤ u.2.2.1) ∧ (u.2.2.1 ≤ nt) ∧ ((r = 1 ∧ True) ∨ (r = 0 ∧ True))) (mpost D A (fun (u : Int32 × Nat × Nat × Int32 × Int32 × Int32 × (Nat → Int32)) => [(aR, .inr (4, [.ref aT, .ref aD, .int u.1, .int (nI u.2.1), .int (nI u.2.2.1), .int u.2.2.2.1, .int rp, .int u.2.2.2.2.1, .int u.2.2.2.2.2.1])), (aT, .inr (7, [.ref tb, .int (nI nt)])), (tb, .inl (cs 0, 400, .inl ft)), (aD, .inr (0, [.int qli, .int (nI qtp), .int qlw, .int qod, .int (nI qnc), .int (nI qnr), .int (nI qno), .int (nI qna), .int qdr, .int qlo, .ref qr0, .ref qr1, .ref qr2, .ref qr3, .ref qr4])), (qr2, .inl (cs 1, 20, .inl u.2.2.2.2.2.2))])) A) ([.ref aR, .int ki, .ref (aK wi), .ref qr2, .int (nI fo), .int 4] : List Value).toArray s 0 0 A) (F0 m 38 ls []) := by
          intro nfu
          induction nfu with
          | zero => intro i_6 m0_6 H locs ls hi_6 hmu; exact absurd hmu (Nat.not_lt_zero _)
          | succ nfu ih =>
            intro i_6 m0_6 H locs ls hi_6 hmu hP hD hS hl
            have ih_lp_7 := @ih
            refine lv_iload hx hb dX4_passNumbers_38 (lv_at hl 0 rfl) ?_
            refine lv_iload hx hb dX4_passNumbers_40 (lv_at hl 6 rfl) ?_
            refine lv_icmp_ge (tgt := 59) hx hb dX4_passNumbers_42 (by decide) (fun c_8 => ?_) (fun c_8 => ?_)
            ·
              have hn_8 := bge_t (a := i_6) (b := 4) c_8 (by omega) (by omega)
              refine lv_iconst (v := 0) hx hb dX4_passNumbers_59 (by decide) ?_
              refine lv_istore (lv' := [(6, .int 0), (0, .ref aR), (1, .int ki), (2, .ref (aK wi)), (3, .ref qr2), (4, .int (nI fo)), (5, .int 4)]) hx hb dX4_passNumbers_60 hl (by decide) rfl (fun ls hl => ?_)
              have lp_9 : ∀ (nfu : Nat) (g0_a : Int32) (g1_a : Nat) (g2_a : Nat) (g3_a : Int32) (g4_a : Nat → Int32) (g5_a : Nat) (H : Heap) (locs : List Loc) (ls : Array Slot) (hw0_a : g5_a ≤ sl wi) (hw1_a : g1_a ≤ g2_a) (hw2_a : g2_a ≤ nt), sl wi - g5_a < nfu → va_P D vwCl [(aR, .inr (4, [.ref aT, .ref aD, .int g0_a, .int (nI g1_a), .int (nI g2_a), .int g3_a, .int rp, .int rk, .int rf])), (aT, .inr (7, [.ref tb, .int (nI nt)])), (tb, .inl (cs 0, 400, .inl ft)), (aD, .inr (0, [.int qli, .int (nI qtp), .int qlw, .int qod, .int (nI qnc), .int (nI qnr), .int (nI qno), .int (nI qna), .int qdr, .int qlo, .ref qr0, .ref qr1, .ref qr2, .ref qr3, .ref qr4])), (qr2, .inl (cs 1, 20, .inl g4_a))] H → va_D A [(aR, .inr (4, [.ref aT, .ref aD, .int g0_a, .int (nI g1_a), .int (nI g2_a), .int g3_a, .int rp, .int rk, .int rf])), (aT, .inr (7, [.ref tb, .int (nI nt)])), (tb, .inl (cs 0, 400, .inl ft)), (aD, .inr (0, [.int qli, .int (nI qtp), .int qlw, .int qod, .int (nI qnc), .int (nI qnr), .int (nI qno), .int (nI qna), .int qdr, .int qlo, .ref qr0, .ref qr1, .ref qr2, .ref qr3, .ref qr4])), (qr2, .inl (cs 1, 20, .inl g4_a))] → va_S A s.heap H locs → lv_has ls 9 [(6, .int (nI g5_a)), (0, .ref aR), (1, .int ki), (2, .ref (aK wi)), (3, .ref qr2), (4, .int (nI fo)), (5, .int 4)] → W p l e (mRm 4 0 0 85) s m ([.ref aR, .int ki, .ref (aK wi), .ref qr2, .int (nI fo), .int 4] : List Value).toArray below meth c H locs 0 0 (MQ below (va_Qi (fun (r : Int32) (u : Int32 × Nat × Nat × Int32 × Int32 × Int32 × (Nat → Int32)) => (u.2.1 ≤ u.2.2.1) ∧ (u.2.2.1 ≤ nt) ∧ ((r = 1 ∧ True) ∨ (r = 0 ∧ True))) (mpost D A (fun (u : Int32 × Nat × Nat × Int32 × Int32 × Int32 × (Nat → Int32)) => [(aR, .inr (4, [.ref aT, .ref aD, .int u.1, .int (nI u.2.1), .int (nI u.2.2.1), .int u.2.2.2.1, .int rp, .int u.2.2.2.2.1, .int u.2.2.2.2.2.1])), (aT, .inr (7, [.ref tb, .int (nI nt)])), (tb, .inl (cs 0, 400, .inl ft)), (aD, .inr (0, [.int qli, .int (nI qtp), .int qlw, .int qod, .int (nI qnc), .int (nI qnr), .int (nI qno), .int (nI qna), .int qdr, .int qlo, .ref qr0, .ref qr1, .ref qr2, .ref qr3, .ref qr4])), (qr2, .inl (cs 1, 20, .inl u.2.2.2.2.2.2))])) A) ([.ref aR, .int ki, .ref (aK wi), .ref qr2, .int (nI fo), .int 4] : List Value).toArray s 0 0 A) (F0 m 62 ls []) := by
                intro nfu
                induction nfu with
                | zero => intro g0_a g1_a g2_a g3_a g4_a g5_a H locs ls hw0_a hw1_a hw2_a hmu; exact absurd hmu (Nat.not_lt_zero _)
                | succ nfu ih =>
                  intro g0_a g1_a g2_a g3_a g4_a g5_a H locs ls hw0_a hw1_a hw2_a hmu hP hD hS hl
                  have ih_lp_9 := @ih
                  refine lv_iload hx hb dX4_passNumbers_62 (lv_at hl 0 rfl) ?_
                  refine lv_aload_n hx hb dX4_passNumbers_64 rfl (lv_at hl 3 rfl) ?_
                  refine aft_i (wr := [(aR, .inr (4, [.ref aT, .ref aD, .int g0_a, .int (nI g1_a), .int (nI g2_a), .int g3_a, .int rp, .int rk, .int rf])), (aT, .inr (7, [.ref tb, .int (nI nt)])), (tb, .inl (cs 0, 400, .inl ft)), (aD, .inr (0, [.int qli, .int (nI qtp), .int qlw, .int qod, .int (nI qnc), .int (nI qnr), .int (nI qno), .int (nI qna), .int qdr, .int qlo, .ref qr0, .ref qr1, .ref qr2, .ref qr3, .ref qr4])), (qr2, .inl (cs 1, 20, .inl g4_a))]) hP hD hS hA [] [0, 1, 2, 3, 4] rfl rfl (by decide) (by decide) (run_vS (As := []) (rest := [.int (nI g5_a)]) hFix hK hE hV hP hD hS hA [] (k_J0_length_8abf5 l D cs _ aK aV wi (by first | assumption | decide | omega)) (cwV 0 hts gc_X4_passNumbers_183_J0_length_8abf5 rfl rfl rfl (by decide +kernel) ⟨Nat.le_of_ble_eq_true rfl, Nat.le_of_ble_eq_true rfl⟩) rfl (by decide) (vk_recv hV.1 (by assumption) hS) rfl hl.1 rfl (Nat.le_of_ble_eq_true rfl) dX4_passNumbers_65 ⟨Nat.le_of_ble_eq_true rfl, Nat.le_of_ble_eq_true rfl⟩) (fun r_10 u_10 H locs hq_10 hP hD hS => ?_)
                  obtain ⟨j_10, rfl⟩ : ∃ z, z = u_10 := ⟨_, rfl⟩
                  have hP : va_P D vwCl [(aR, .inr (4, [.ref aT, .ref aD, .int g0_a, .int (nI g1_a), .int (nI g2_a), .int g3_a, .int rp, .int rk, .int rf])), (aT, .inr (7, [.ref tb, .int (nI nt)])), (tb, .inl (cs 0, 400, .inl ft)), (aD, .inr (0, [.int qli, .int (nI qtp), .int qlw, .int qod, .int (nI qnc), .int (nI qnr), .int (nI qno), .int (nI qna), .int qdr, .int qlo, .ref qr0, .ref qr1, .ref qr2, .ref qr3, .ref qr4])), (qr2, .inl (cs 1, 20, .inl g4_a))] H := hP
                  have hD : va_D A [(aR, .inr (4, [.ref aT, .ref aD, .int g0_a, .int (nI g1_a), .int (nI g2_a), .int g3_a, .int rp, .int rk, .int rf])), (aT, .inr (7, [.ref tb, .int (nI nt)])), (tb, .inl (cs 0, 400, .inl ft)), (aD, .inr (0, [.int qli, .int (nI qtp), .int qlw, .int qod, .int (nI qnc), .int (nI qnr), .int (nI qno), .int (nI qna), .int qdr, .int qlo, .ref qr0, .ref qr1, .ref qr2, .ref qr3, .ref qr4])), (qr2, .inl (cs 1, 20, .inl g4_a))] := hD
                  replace hq_10 : ((r_10 = nI j_10 ∧ j_10 = sl wi)) := hq_10
                  obtain ⟨rfl, hq_10⟩ := hq_10
                  ·
                    refine lv_icmp_ge (tgt := 181) hx hb dX4_passNumbers_68 (by decide) (fun c_11 => ?_) (fun c_11 => ?_)
                    ·
                      have hn_11 := bge_t (a := g5_a) (b := j_10) c_11 (by omega) (by omega)
                      refine lv_iconst (v := 1) hx hb dX4_passNumbers_181 (by decide) ?_
                      exact ret_z hx hb hr hlk hS (Nat.le_of_ble_eq_true rfl) (Nat.le_of_ble_eq_true rfl) (by decide) (g0_a, g1_a, g2_a, g3_a, rk, rf, g4_a) (⟨(by omega), (by omega), Or.inl ⟨rfl, trivial⟩⟩) (hP.sub [0, 1, 2, 3, 4] rfl) (hD.sub [0, 1, 2, 3, 4] (by decide) rfl) dX4_passNumbers_182
                    ·
                      have hn_11 := bge_f (a := g5_a) (b := j_10) c_11 (by omega) (by omega)
                      refine lv_aload_n hx hb dX4_passNumbers_71 rfl (lv_at hl 3 rfl) ?_
                      refine lv_iload hx hb dX4_passNumbers_72 (lv_at hl 0 rfl) ?_
                      refine aft_i (wr := [(aR, .inr (4, [.ref aT, .ref aD, .int g0_a, .int (nI g1_a), .int (nI g2_a), .int g3_a, .int rp, .int rk, .int rf])), (aT, .inr (7, [.ref tb, .int (nI nt)])), (tb, .inl (cs 0, 400, .inl ft)), (aD, .inr (0, [.int qli, .int (nI qtp), .int qlw, .int qod, .int (nI qnc), .int (nI qnr), .int (nI qno), .int (nI qna), .int qdr, .int qlo, .ref qr0, .ref qr1, .ref qr2, .ref qr3, .ref qr4])), (qr2, .inl (cs 1, 20, .inl g4_a))]) hP hD hS hA [] [0, 1, 2, 3, 4] rfl rfl (by decide) (by decide) (run_vS (As := [.int (nI g5_a)]) (rest := []) hFix hK hE hV hP hD hS hA [] (k_J0_charAt_5068e l D cs _ aK aV wi g5_a (by first | assumption | decide | omega) (by first | assumption | decide | omega)) (cwV 1 hts gc_X4_passNumbers_188_J0_charAt_5068e rfl rfl rfl (by decide +kernel) ⟨Nat.le_of_ble_eq_true rfl, Nat.le_of_ble_eq_true rfl⟩) rfl (by decide) (vk_recv hV.1 (by assumption) hS) rfl hl.1 rfl (Nat.le_of_ble_eq_true rfl) dX4_passNumbers_74 ⟨Nat.le_of_ble_eq_true rfl, Nat.le_of_ble_eq_true rfl⟩) (fun r_12 u_12 H locs hq_12 hP hD hS => ?_)
                      obtain ⟨j_12, rfl⟩ : ∃ z, z = u_12 := ⟨_, rfl⟩
                      have hP : va_P D vwCl [(aR, .inr (4, [.ref aT, .ref aD, .int g0_a, .int (nI g1_a), .int (nI g2_a), .int g3_a, .int rp, .int rk, .int rf])), (aT, .inr (7, [.ref tb, .int (nI nt)])), (tb, .inl (cs 0, 400, .inl ft)), (aD, .inr (0, [.int qli, .int (nI qtp), .int qlw, .int qod, .int (nI qnc), .int (nI qnr), .int (nI qno), .int (nI qna), .int qdr, .int qlo, .ref qr0, .ref qr1, .ref qr2, .ref qr3, .ref qr4])), (qr2, .inl (cs 1, 20, .inl g4_a))] H := hP
                      have hD : va_D A [(aR, .inr (4, [.ref aT, .ref aD, .int g0_a, .int (nI g1_a), .int (nI g2_a), .int g3_a, .int rp, .int rk, .int rf])), (aT, .inr (7, [.ref tb, .int (nI nt)])), (tb, .inl (cs 0, 400, .inl ft)), (aD, .inr (0, [.int qli, .int (nI qtp), .int qlw, .int qod, .int (nI qnc), .int (nI qnr), .int (nI qno), .int (nI qna), .int qdr, .int qlo, .ref qr0, .ref qr1, .ref qr2, .ref qr3, .ref qr4])), (qr2, .inl (cs 1, 20, .inl g4_a))] := hD
                      replace hq_12 : ((r_12 = nI j_12 ∧ j_12 = sch wi g5_a ∧ j_12 < 128)) := hq_12
                      obtain ⟨rfl, hq_12⟩ := hq_12
                      ·
                        refine lv_istore (lv' := [(7, .int (nI j_12)), (6, .int (nI g5_a)), (0, .ref aR), (1, .int ki), (2, .ref (aK wi)), (3, .ref qr2), (4, .int (nI fo)), (5, .int 4)]) hx hb dX4_passNumbers_77 hl (by decide) rfl (fun ls hl => ?_)
                        refine lv_aload_n hx hb dX4_passNumbers_79 rfl (lv_at hl 2 rfl) ?_
                        refine va_get (D := D) (ci := 4) (v := .int g0_a) (C := RX4) (T := TX4) (N := 9) hx hb hts iuX4_passNumbers_X4 hown hK hP 0 rfl rfl 2 (by decide) (htw (.fieldLink RX4 11 "MergeJudge$Reader" "token" "I") (List.mem_of_getElem? (i := 11) rfl)) (fun _ h9 => h9) rfl dX4_passNumbers_80 ?_
                        refine lv_iconst (v := 2) hx hb dX4_passNumbers_83 (by decide) ?_
                        refine lv_icmp_eq (tgt := 93) hx hb dX4_passNumbers_84 (by decide) (fun c_13 => ?_) (fun c_13 => ?_)
                        ·
                          refine lv_iload hx hb dX4_passNumbers_93 (lv_at hl 0 rfl) ?_
                          refine lv_bipush (v := 66) hx hb dX4_passNumbers_95 (by decide) ?_
                          refine lv_icmp_ne (tgt := 117) hx hb dX4_passNumbers_97 (by decide) (fun c_14 => ?_) (fun c_14 => ?_)
                          ·
                            have hn_14 := bne_t (a := j_12) (b := 66) c_14 (by omega) (by omega)
                            refine lv_iconst (v := 0) hx hb dX4_passNumbers_117 (by decide) ?_
                            refine lv_istore (lv' := [(8, .int 0), (7, .int (nI j_12)), (6, .int (nI g5_a)), (0, .ref aR), (1, .int ki), (2, .ref (aK wi)), (3, .ref qr2), (4, .int (nI fo)), (5, .int 4)]) hx hb dX4_passNumbers_118 hl (by decide) rfl (fun ls hl => ?_)
                            refine lv_iload hx hb dX4_passNumbers_120 (lv_at hl 0 rfl) ?_
                            refine lv_if_ne (tgt := 152) hx hb dX4_passNumbers_122 (by decide) (fun h9 => absurd h9 (by decide)) (fun _ => ?_)
                            refine lv_aload_n hx hb dX4_passNumbers_125 rfl (lv_at hl 3 rfl) ?_
                            refine va_get (D := D) (ci := 4) (v := .int g3_a) (C := RX4) (T := TX4) (N := 9) hx hb hts iuX4_passNumbers_X4 hown hK hP 0 rfl rfl 5 (by decide) (htw (.fieldLink RX4 21 "MergeJudge$Reader" "number" "I") (List.mem_of_getElem? (i := 12) rfl)) (fun _ h9 => h9) rfl dX4_passNumbers_126 ?_
                            refine lv_aload_n hx hb dX4_passNumbers_129 rfl (lv_at hl 3 rfl) ?_
                            refine lv_iload hx hb dX4_passNumbers_130 (lv_at hl 1 rfl) ?_
                            refine aft_i (wr := [(aT, .inr (7, [.ref tb, .int (nI nt)])), (tb, .inl (cs 0, 400, .inl ft)), (qr2, .inl (cs 1, 20, .inl g4_a))]) hP hD hS hA [0, 3] [1, 2, 4] rfl rfl (by decide) (by decide) (run_v (As := [.int (nI j_12)]) (rest := [.int g3_a]) hFix hK hE hP hD [0, 3] (k_X4_highestOf l D cs _ aR (nI j_12) aT aD g0_a g3_a rp rk rf qli qlw qod qdr qlo qr0 qr1 qr2 qr3 qr4 g1_a g2_a qtp qnc qnr qno qna (by first | assumption | decide | omega) (by first | assumption | decide | omega) (by first | assumption | decide | omega) (by first | assumption | decide | omega) (by first | assumption | decide | omega)) (cwV 1 hts gc_X4_passNumbers_192_X4_highestOf rfl rfl rfl (by decide +kernel) ⟨Nat.le_of_ble_eq_true rfl, Nat.le_of_ble_eq_true rfl⟩) rfl (by decide) rfl rfl rfl hl.1 rfl (Nat.le_of_ble_eq_true rfl) dX4_passNumbers_132 ⟨Nat.le_of_ble_eq_true rfl, Nat.le_of_ble_eq_true rfl⟩) (fun r_15 u_15 H locs hq_15 hP hD hS => ?_)
                            have hP : va_P D vwCl [(aT, .inr (7, [.ref tb, .int (nI nt)])), (tb, .inl (cs 0, 400, .inl ft)), (qr2, .inl (cs 1, 20, .inl g4_a)), (aR, .inr (4, [.ref aT, .ref aD, .int g0_a, .int (nI g1_a), .int (nI g2_a), .int g3_a, .int rp, .int rk, .int rf])), (aD, .inr (0, [.int qli, .int (nI qtp), .int qlw, .int qod, .int (nI qnc), .int (nI qnr), .int (nI qno), .int (nI qna), .int qdr, .int qlo, .ref qr0, .ref qr1, .ref qr2, .ref qr3, .ref qr4]))] H := hP
                            have hD : va_D A [(aT, .inr (7, [.ref tb, .int (nI nt)])), (tb, .inl (cs 0, 400, .inl ft)), (qr2, .inl (cs 1, 20, .inl g4_a)), (aR, .inr (4, [.ref aT, .ref aD, .int g0_a, .int (nI g1_a), .int (nI g2_a), .int g3_a, .int rp, .int rk, .int rf])), (aD, .inr (0, [.int qli, .int (nI qtp), .int qlw, .int qod, .int (nI qnc), .int (nI qnr), .int (nI qno), .int (nI qna), .int qdr, .int qlo, .ref qr0, .ref qr1, .ref qr2, .ref qr3, .ref qr4]))] := hD
                            refine lv_icmp_gt (tgt := 152) hx hb dX4_passNumbers_135 (by decide) (fun c_16 => ?_) (fun c_16 => ?_)
                            ·
                              refine lv_aload_n hx hb dX4_passNumbers_152 rfl (lv_at hl 3 rfl) ?_
                              refine lv_iconst (v := 2) hx hb dX4_passNumbers_153 (by decide) ?_
                              refine aft_i (wr := [(aT, .inr (7, [.ref tb, .int (nI nt)])), (tb, .inl (cs 0, 400, .inl ft)), (qr2, .inl (cs 1, 20, .inl g4_a)), (aD, .inr (0, [.int qli, .int (nI qtp), .int qlw, .int qod, .int (nI qnc), .int (nI qnr), .int (nI qno), .int (nI qna), .int qdr, .int qlo, .ref qr0, .ref qr1, .ref qr2, .ref qr3, .ref qr4]))]) hP hD hS hA [3] [0, 1, 2, 4] rfl rfl (by decide) (by decide) (run_v (As := [.int 2]) (rest := []) hFix hK hE hP hD [3] (k_X4_failed l D cs _ aR 2 aT aD g0_a g3_a rp rk rf g1_a g2_a) (cwV 1 hts gc_X4_passNumbers_78_X4_failed rfl rfl rfl (by decide +kernel) ⟨Nat.le_of_ble_eq_true rfl, Nat.le_of_ble_eq_true rfl⟩) rfl (by decide) rfl rfl rfl hl.1 rfl (Nat.le_of_ble_eq_true rfl) dX4_passNumbers_154 ⟨Nat.le_of_ble_eq_true rfl, Nat.le_of_ble_eq_true rfl⟩) (fun r_17 u_17 H locs hq_17 hP hD hS => ?_)
                              obtain ⟨rk1_17, rf1_17⟩ := u_17
                              have hP : va_P D vwCl [(aT, .inr (7, [.ref tb, .int (nI nt)])), (tb, .inl (cs 0, 400, .inl ft)), (qr2, .inl (cs 1, 20, .inl g4_a)), (aD, .inr (0, [.int qli, .int (nI qtp), .int qlw, .int qod, .int (nI qnc), .int (nI qnr), .int (nI qno), .int (nI qna), .int qdr, .int qlo, .ref qr0, .ref qr1, .ref qr2, .ref qr3, .ref qr4])), (aR, .inr (4, [.ref aT, .ref aD, .int g0_a, .int (nI g1_a), .int (nI g2_a), .int g3_a, .int rp, .int rk1_17, .int rf1_17]))] H := hP
                              have hD : va_D A [(aT, .inr (7, [.ref tb, .int (nI nt)])), (tb, .inl (cs 0, 400, .inl ft)), (qr2, .inl (cs 1, 20, .inl g4_a)), (aD, .inr (0, [.int qli, .int (nI qtp), .int qlw, .int qod, .int (nI qnc), .int (nI qnr), .int (nI qno), .int (nI qna), .int qdr, .int qlo, .ref qr0, .ref qr1, .ref qr2, .ref qr3, .ref qr4])), (aR, .inr (4, [.ref aT, .ref aD, .int g0_a, .int (nI g1_a), .int (nI g2_a), .int g3_a, .int rp, .int rk1_17, .int rf1_17]))] := hD
                              replace hq_17 : ((r_17 = 0 ∧ True)) := hq_17
                              obtain ⟨rfl, hq_17⟩ := hq_17
                              ·
                                exact ret_z hx hb hr hlk hS (Nat.le_of_ble_eq_true rfl) (Nat.le_of_ble_eq_true rfl) (by decide) (g0_a, g1_a, g2_a, g3_a, rk1_17, rf1_17, g4_a) (⟨(by omega), (by omega), Or.inr (⟨rfl, trivial⟩)⟩) (hP.sub [4, 0, 1, 3, 2] rfl) (hD.sub [4, 0, 1, 3, 2] (by decide) rfl) dX4_passNumbers_157
                            ·
                              refine lv_iload hx hb dX4_passNumbers_138 (lv_at hl 1 rfl) ?_
                              refine lv_bipush (v := 80) hx hb dX4_passNumbers_140 (by decide) ?_
                              refine lv_icmp_ne (tgt := 158) hx hb dX4_passNumbers_142 (by decide) (fun c_18 => ?_) (fun c_18 => ?_)
                              ·
                                have hn_18 := bne_t (a := j_12) (b := 80) c_18 (by omega) (by omega)
                                refine lv_aload_n hx hb dX4_passNumbers_158 rfl (lv_at hl 6 rfl) ?_
                                refine lv_iload hx hb dX4_passNumbers_159 (lv_at hl 7 rfl) ?_
                                refine lv_iconst (v := 1) hx hb dX4_passNumbers_161 (by decide) ?_
                                refine lv_iadd hx hb dX4_passNumbers_162 ?_
                                refine cf_i (nI (fo + 1)) (nI_add fo 1) ?_
                                refine lv_iload hx hb dX4_passNumbers_163 (lv_at hl 2 rfl) ?_
                                refine lv_iadd hx hb dX4_passNumbers_165 ?_
                                refine cf_i (nI (fo + 1 + g5_a)) (nI_add (fo + 1) g5_a) ?_
                                refine lv_aload_n hx hb dX4_passNumbers_166 rfl (lv_at hl 3 rfl) ?_
                                refine va_get (D := D) (ci := 4) (v := .int g3_a) (C := RX4) (T := TX4) (N := 9) hx hb hts iuX4_passNumbers_X4 hown hK hP 3 rfl rfl 5 (by decide) (htw (.fieldLink RX4 21 "MergeJudge$Reader" "number" "I") (List.mem_of_getElem? (i := 12) rfl)) (fun _ h9 => h9) rfl dX4_passNumbers_167 ?_
                                refine va_iast hx hb hK hP hD hS 2 1 rfl rfl (vp_in_nI (by omega) (by omega)) dX4_passNumbers_170 (fun H locs hP hD hS => ?_)
                                have hP : va_P D vwCl [(aT, .inr (7, [.ref tb, .int (nI nt)])), (tb, .inl (cs 0, 400, .inl ft)), (qr2, .inl (cs 1, 20, .inl (upd g4_a ((nI (fo + 1 + g5_a)).toNatClampNeg) g3_a))), (aR, .inr (4, [.ref aT, .ref aD, .int g0_a, .int (nI g1_a), .int (nI g2_a), .int g3_a, .int rp, .int rk, .int rf])), (aD, .inr (0, [.int qli, .int (nI qtp), .int qlw, .int qod, .int (nI qnc), .int (nI qnr), .int (nI qno), .int (nI qna), .int qdr, .int qlo, .ref qr0, .ref qr1, .ref qr2, .ref qr3, .ref qr4]))] H := hP
                                have hD : va_D A [(aT, .inr (7, [.ref tb, .int (nI nt)])), (tb, .inl (cs 0, 400, .inl ft)), (qr2, .inl (cs 1, 20, .inl (upd g4_a ((nI (fo + 1 + g5_a)).toNatClampNeg) g3_a))), (aR, .inr (4, [.ref aT, .ref aD, .int g0_a, .int (nI g1_a), .int (nI g2_a), .int g3_a, .int rp, .int rk, .int rf])), (aD, .inr (0, [.int qli, .int (nI qtp), .int qlw, .int qod, .int (nI qnc), .int (nI qnr), .int (nI qno), .int (nI qna), .int qdr, .int qlo, .ref qr0, .ref qr1, .ref qr2, .ref qr3, .ref qr4]))] := hD
                                refine lv_aload_n hx hb dX4_passNumbers_171 rfl (lv_at hl 3 rfl) ?_
                                refine aft_v (wr := [(qr2, .inl (cs 1, 20, .inl (upd g4_a ((nI (fo + 1 + g5_a)).toNatClampNeg) g3_a))), (aD, .inr (0, [.int qli, .int (nI qtp), .int qlw, .int qod, .int (nI qnc), .int (nI qnr), .int (nI qno), .int (nI qna), .int qdr, .int qlo, .ref qr0, .ref qr1, .ref qr2, .ref qr3, .ref qr4]))]) hP hD hS hA [3, 0, 1] [2, 4] rfl rfl (by decide) (by decide) (run_v (As := []) (rest := []) hFix hK hE hP hD [3, 0, 1] (k_X4_next l D cs _ aR aT aD g0_a g3_a rp rk rf tb ft g1_a g2_a nt (by first | assumption | decide | omega) (by first | assumption | decide | omega)) (cwV 0 hts gc_X4_passNumbers_46_X4_next rfl rfl rfl (by decide +kernel) ⟨Nat.le_of_ble_eq_true rfl, Nat.le_of_ble_eq_true rfl⟩) rfl (by decide) rfl rfl rfl hl.1 rfl (Nat.le_of_ble_eq_true rfl) dX4_passNumbers_172 ⟨Nat.le_of_ble_eq_true rfl, Nat.le_of_ble_eq_true rfl⟩) (fun u_19 H locs hq_19 hP hD hS => ?_)
                                obtain ⟨rt1_19, rs1_19, ra1_19, rn1_19⟩ := u_19
                                have hP : va_P D vwCl [(qr2, .inl (cs 1, 20, .inl (upd g4_a ((nI (fo + 1 + g5_a)).toNatClampNeg) g3_a))), (aD, .inr (0, [.int qli, .int (nI qtp), .int qlw, .int qod, .int (nI qnc), .int (nI qnr), .int (nI qno), .int (nI qna), .int qdr, .int qlo, .ref qr0, .ref qr1, .ref qr2, .ref qr3, .ref qr4])), (aR, .inr (4, [.ref aT, .ref aD, .int rt1_19, .int (nI rs1_19), .int (nI ra1_19), .int rn1_19, .int rp, .int rk, .int rf])), (aT, .inr (7, [.ref tb, .int (nI nt)])), (tb, .inl (cs 0, 400, .inl ft))] H := hP
                                have hD : va_D A [(qr2, .inl (cs 1, 20, .inl (upd g4_a ((nI (fo + 1 + g5_a)).toNatClampNeg) g3_a))), (aD, .inr (0, [.int qli, .int (nI qtp), .int qlw, .int qod, .int (nI qnc), .int (nI qnr), .int (nI qno), .int (nI qna), .int qdr, .int qlo, .ref qr0, .ref qr1, .ref qr2, .ref qr3, .ref qr4])), (aR, .inr (4, [.ref aT, .ref aD, .int rt1_19, .int (nI rs1_19), .int (nI ra1_19), .int rn1_19, .int rp, .int rk, .int rf])), (aT, .inr (7, [.ref tb, .int (nI nt)])), (tb, .inl (cs 0, 400, .inl ft))] := hD
                                replace hq_19 : (rs1_19 ≤ ra1_19) ∧ (ra1_19 ≤ nt) := hq_19
                                obtain ⟨hp_19_0, hp_19_1⟩ := hq_19
                                refine lv_iinc (v := (nI (g5_a + 1))) (lv' := [(6, .int (nI (g5_a + 1))), (8, .int 0), (7, .int (nI j_12)), (0, .ref aR), (1, .int ki), (2, .ref (aK wi)), (3, .ref qr2), (4, .int (nI fo)), (5, .int 4)]) hx hb dX4_passNumbers_175 hl (k := 2) rfl (nI_1 _) (by decide) rfl (fun ls hl => ?_)
                                refine lv_goto (tgt := 62) hx hb dX4_passNumbers_178 (by decide) ?_
                                exact ih_lp_9 rt1_19 rs1_19 ra1_19 rn1_19 (upd g4_a ((nI (fo + 1 + g5_a)).toNatClampNeg) g3_a) (g5_a + 1) H locs ls (by omega) (by omega) (by omega) (by omega) (hP.sub [2, 3, 4, 1, 0] rfl) (hD.sub [2, 3, 4, 1, 0] (by decide) rfl) hS (lv_sub hl [0, 3, 4, 5, 6, 7, 8] rfl)
                              ·
                                have hn_18 := bne_f (a := j_12) (b := 80) c_18 (by omega) (by omega)
                                refine lv_aload_n hx hb dX4_passNumbers_145 rfl (lv_at hl 3 rfl) ?_
                                refine va_get (D := D) (ci := 4) (v := .int g3_a) (C := RX4) (T := TX4) (N := 9) hx hb hts iuX4_passNumbers_X4 hown hK hP 3 rfl rfl 5 (by decide) (htw (.fieldLink RX4 21 "MergeJudge$Reader" "number" "I") (List.mem_of_getElem? (i := 12) rfl)) (fun _ h9 => h9) rfl dX4_passNumbers_146 ?_
                                refine lv_if_ne (tgt := 158) hx hb dX4_passNumbers_149 (by decide) (fun c_20 => ?_) (fun c_20 => ?_)
                                ·
                                  refine lv_aload_n hx hb dX4_passNumbers_158 rfl (lv_at hl 6 rfl) ?_
                                  refine lv_iload hx hb dX4_passNumbers_159 (lv_at hl 7 rfl) ?_
                                  refine lv_iconst (v := 1) hx hb dX4_passNumbers_161 (by decide) ?_
                                  refine lv_iadd hx hb dX4_passNumbers_162 ?_
                                  refine cf_i (nI (fo + 1)) (nI_add fo 1) ?_
                                  refine lv_iload hx hb dX4_passNumbers_163 (lv_at hl 2 rfl) ?_
                                  refine lv_iadd hx hb dX4_passNumbers_165 ?_
                                  refine cf_i (nI (fo + 1 + g5_a)) (nI_add (fo + 1) g5_a) ?_
                                  refine lv_aload_n hx hb dX4_passNumbers_166 rfl (lv_at hl 3 rfl) ?_
                                  refine va_get (D := D) (ci := 4) (v := .int g3_a) (C := RX4) (T := TX4) (N := 9) hx hb hts iuX4_passNumbers_X4 hown hK hP 3 rfl rfl 5 (by decide) (htw (.fieldLink RX4 21 "MergeJudge$Reader" "number" "I") (List.mem_of_getElem? (i := 12) rfl)) (fun _ h9 => h9) rfl dX4_passNumbers_167 ?_
                                  refine va_iast hx hb hK hP hD hS 2 1 rfl rfl (vp_in_nI (by omega) (by omega)) dX4_passNumbers_170 (fun H locs hP hD hS => ?_)
                                  have hP : va_P D vwCl [(aT, .inr (7, [.ref tb, .int (nI nt)])), (tb, .inl (cs 0, 400, .inl ft)), (qr2, .inl (cs 1, 20, .inl (upd g4_a ((nI (fo + 1 + g5_a)).toNatClampNeg) g3_a))), (aR, .inr (4, [.ref aT, .ref aD, .int g0_a, .int (nI g1_a), .int (nI g2_a), .int g3_a, .int rp, .int rk, .int rf])), (aD, .inr (0, [.int qli, .int (nI qtp), .int qlw, .int qod, .int (nI qnc), .int (nI qnr), .int (nI qno), .int (nI qna), .int qdr, .int qlo, .ref qr0, .ref qr1, .ref qr2, .ref qr3, .ref qr4]))] H := hP
                                  have hD : va_D A [(aT, .inr (7, [.ref tb, .int (nI nt)])), (tb, .inl (cs 0, 400, .inl ft)), (qr2, .inl (cs 1, 20, .inl (upd g4_a ((nI (fo + 1 + g5_a)).toNatClampNeg) g3_a))), (aR, .inr (4, [.ref aT, .ref aD, .int g0_a, .int (nI g1_a), .int (nI g2_a), .int g3_a, .int rp, .int rk, .int rf])), (aD, .inr (0, [.int qli, .int (nI qtp), .int qlw, .int qod, .int (nI qnc), .int (nI qnr), .int (nI qno), .int (nI qna), .int qdr, .int qlo, .ref qr0, .ref qr1, .ref qr2, .ref qr3, .ref qr4]))] := hD
                                  refine lv_aload_n hx hb dX4_passNumbers_171 rfl (lv_at hl 3 rfl) ?_
                                  refine aft_v (wr := [(qr2, .inl (cs 1, 20, .inl (upd g4_a ((nI (fo + 1 + g5_a)).toNatClampNeg) g3_a))), (aD, .inr (0, [.int qli, .int (nI qtp), .int qlw, .int qod, .int (nI qnc), .int (nI qnr), .int (nI qno), .int (nI qna), .int qdr, .int qlo, .ref qr0, .ref qr1, .ref qr2, .ref qr3, .ref qr4]))]) hP hD hS hA [3, 0, 1] [2, 4] rfl rfl (by decide) (by decide) (run_v (As := []) (rest := []) hFix hK hE hP hD [3, 0, 1] (k_X4_next l D cs _ aR aT aD g0_a g3_a rp rk rf tb ft g1_a g2_a nt (by first | assumption | decide | omega) (by first | assumption | decide | omega)) (cwV 0 hts gc_X4_passNumbers_46_X4_next rfl rfl rfl (by decide +kernel) ⟨Nat.le_of_ble_eq_true rfl, Nat.le_of_ble_eq_true rfl⟩) rfl (by decide) rfl rfl rfl hl.1 rfl (Nat.le_of_ble_eq_true rfl) dX4_passNumbers_172 ⟨Nat.le_of_ble_eq_true rfl, Nat.le_of_ble_eq_true rfl⟩) (fun u_21 H locs hq_21 hP hD hS => ?_)
                                  obtain ⟨rt1_21, rs1_21, ra1_21, rn1_21⟩ := u_21
                                  have hP : va_P D vwCl [(qr2, .inl (cs 1, 20, .inl (upd g4_a ((nI (fo + 1 + g5_a)).toNatClampNeg) g3_a))), (aD, .inr (0, [.int qli, .int (nI qtp), .int qlw, .int qod, .int (nI qnc), .int (nI qnr), .int (nI qno), .int (nI qna), .int qdr, .int qlo, .ref qr0, .ref qr1, .ref qr2, .ref qr3, .ref qr4])), (aR, .inr (4, [.ref aT, .ref aD, .int rt1_21, .int (nI rs1_21), .int (nI ra1_21), .int rn1_21, .int rp, .int rk, .int rf])), (aT, .inr (7, [.ref tb, .int (nI nt)])), (tb, .inl (cs 0, 400, .inl ft))] H := hP
                                  have hD : va_D A [(qr2, .inl (cs 1, 20, .inl (upd g4_a ((nI (fo + 1 + g5_a)).toNatClampNeg) g3_a))), (aD, .inr (0, [.int qli, .int (nI qtp), .int qlw, .int qod, .int (nI qnc), .int (nI qnr), .int (nI qno), .int (nI qna), .int qdr, .int qlo, .ref qr0, .ref qr1, .ref qr2, .ref qr3, .ref qr4])), (aR, .inr (4, [.ref aT, .ref aD, .int rt1_21, .int (nI rs1_21), .int (nI ra1_21), .int rn1_21, .int rp, .int rk, .int rf])), (aT, .inr (7, [.ref tb, .int (nI nt)])), (tb, .inl (cs 0, 400, .inl ft))] := hD
                                  replace hq_21 : (rs1_21 ≤ ra1_21) ∧ (ra1_21 ≤ nt) := hq_21
                                  obtain ⟨hp_21_0, hp_21_1⟩ := hq_21
                                  refine lv_iinc (v := (nI (g5_a + 1))) (lv' := [(6, .int (nI (g5_a + 1))), (8, .int 0), (7, .int (nI j_12)), (0, .ref aR), (1, .int ki), (2, .ref (aK wi)), (3, .ref qr2), (4, .int (nI fo)), (5, .int 4)]) hx hb dX4_passNumbers_175 hl (k := 2) rfl (nI_1 _) (by decide) rfl (fun ls hl => ?_)
                                  refine lv_goto (tgt := 62) hx hb dX4_passNumbers_178 (by decide) ?_
                                  exact ih_lp_9 rt1_21 rs1_21 ra1_21 rn1_21 (upd g4_a ((nI (fo + 1 + g5_a)).toNatClampNeg) g3_a) (g5_a + 1) H locs ls (by omega) (by omega) (by omega) (by omega) (hP.sub [2, 3, 4, 1, 0] rfl) (hD.sub [2, 3, 4, 1, 0] (by decide) rfl) hS (lv_sub hl [0, 3, 4, 5, 6, 7, 8] rfl)
                                ·
                                  refine lv_aload_n hx hb dX4_passNumbers_152 rfl (lv_at hl 3 rfl) ?_
                                  refine lv_iconst (v := 2) hx hb dX4_passNumbers_153 (by decide) ?_
                                  refine aft_i (wr := [(aT, .inr (7, [.ref tb, .int (nI nt)])), (tb, .inl (cs 0, 400, .inl ft)), (qr2, .inl (cs 1, 20, .inl g4_a)), (aD, .inr (0, [.int qli, .int (nI qtp), .int qlw, .int qod, .int (nI qnc), .int (nI qnr), .int (nI qno), .int (nI qna), .int qdr, .int qlo, .ref qr0, .ref qr1, .ref qr2, .ref qr3, .ref qr4]))]) hP hD hS hA [3] [0, 1, 2, 4] rfl rfl (by decide) (by decide) (run_v (As := [.int 2]) (rest := []) hFix hK hE hP hD [3] (k_X4_failed l D cs _ aR 2 aT aD g0_a g3_a rp rk rf g1_a g2_a) (cwV 1 hts gc_X4_passNumbers_78_X4_failed rfl rfl rfl (by decide +kernel) ⟨Nat.le_of_ble_eq_true rfl, Nat.le_of_ble_eq_true rfl⟩) rfl (by decide) rfl rfl rfl hl.1 rfl (Nat.le_of_ble_eq_true rfl) dX4_passNumbers_154 ⟨Nat.le_of_ble_eq_true rfl, Nat.le_of_ble_eq_true rfl⟩) (fun r_22 u_22 H locs hq_22 hP hD hS => ?_)
                                  obtain ⟨rk1_22, rf1_22⟩ := u_22
                                  have hP : va_P D vwCl [(aT, .inr (7, [.ref tb, .int (nI nt)])), (tb, .inl (cs 0, 400, .inl ft)), (qr2, .inl (cs 1, 20, .inl g4_a)), (aD, .inr (0, [.int qli, .int (nI qtp), .int qlw, .int qod, .int (nI qnc), .int (nI qnr), .int (nI qno), .int (nI qna), .int qdr, .int qlo, .ref qr0, .ref qr1, .ref qr2, .ref qr3, .ref qr4])), (aR, .inr (4, [.ref aT, .ref aD, .int g0_a, .int (nI g1_a), .int (nI g2_a), .int g3_a, .int rp, .int rk1_22, .int rf1_22]))] H := hP
                                  have hD : va_D A [(aT, .inr (7, [.ref tb, .int (nI nt)])), (tb, .inl (cs 0, 400, .inl ft)), (qr2, .inl (cs 1, 20, .inl g4_a)), (aD, .inr (0, [.int qli, .int (nI qtp), .int qlw, .int qod, .int (nI qnc), .int (nI qnr), .int (nI qno), .int (nI qna), .int qdr, .int qlo, .ref qr0, .ref qr1, .ref qr2, .ref qr3, .ref qr4])), (aR, .inr (4, [.ref aT, .ref aD, .int g0_a, .int (nI g1_a), .int (nI g2_a), .int g3_a, .int rp, .int rk1_22, .int rf1_22]))] := hD
                                  replace hq_22 : ((r_22 = 0 ∧ True)) := hq_22
                                  obtain ⟨rfl, hq_22⟩ := hq_22
                                  ·
                                    exact ret_z hx hb hr hlk hS (Nat.le_of_ble_eq_true rfl) (Nat.le_of_ble_eq_true rfl) (by decide) (g0_a, g1_a, g2_a, g3_a, rk1_22, rf1_22, g4_a) (⟨(by omega), (by omega), Or.inr (⟨rfl, trivial⟩)⟩) (hP.sub [4, 0, 1, 3, 2] rfl) (hD.sub [4, 0, 1, 3, 2] (by decide) rfl) dX4_passNumbers_157
                          ·
                            have hn_14 := bne_f (a := j_12) (b := 66) c_14 (by omega) (by omega)
                            refine lv_aload_n hx hb dX4_passNumbers_100 rfl (lv_at hl 2 rfl) ?_
                            refine va_get (D := D) (ci := 4) (v := .int g3_a) (C := RX4) (T := TX4) (N := 9) hx hb hts iuX4_passNumbers_X4 hown hK hP 0 rfl rfl 5 (by decide) (htw (.fieldLink RX4 21 "MergeJudge$Reader" "number" "I") (List.mem_of_getElem? (i := 12) rfl)) (fun _ h9 => h9) rfl dX4_passNumbers_101 ?_
                            refine lv_aload_n hx hb dX4_passNumbers_104 rfl (lv_at hl 5 rfl) ?_
                            refine lv_iload hx hb dX4_passNumbers_105 (lv_at hl 6 rfl) ?_
                            refine lv_iconst (v := 1) hx hb dX4_passNumbers_107 (by decide) ?_
                            refine lv_iadd hx hb dX4_passNumbers_108 ?_
                            refine cf_i (nI (fo + 1)) (nI_add fo 1) ?_
                            refine va_iald hx hb hK hP 4 1 rfl rfl (vp_in_nI (by omega) (by omega)) dX4_passNumbers_109 ?_
                            rw [nI_clamp (by omega)]
                            refine lv_icmp_ne (tgt := 117) hx hb dX4_passNumbers_110 (by decide) (fun c_23 => ?_) (fun c_23 => ?_)
                            ·
                              refine lv_iconst (v := 0) hx hb dX4_passNumbers_117 (by decide) ?_
                              refine lv_istore (lv' := [(8, .int 0), (7, .int (nI j_12)), (6, .int (nI g5_a)), (0, .ref aR), (1, .int ki), (2, .ref (aK wi)), (3, .ref qr2), (4, .int (nI fo)), (5, .int 4)]) hx hb dX4_passNumbers_118 hl (by decide) rfl (fun ls hl => ?_)
                              refine lv_iload hx hb dX4_passNumbers_120 (lv_at hl 0 rfl) ?_
                              refine lv_if_ne (tgt := 152) hx hb dX4_passNumbers_122 (by decide) (fun h9 => absurd h9 (by decide)) (fun _ => ?_)
                              refine lv_aload_n hx hb dX4_passNumbers_125 rfl (lv_at hl 3 rfl) ?_
                              refine va_get (D := D) (ci := 4) (v := .int g3_a) (C := RX4) (T := TX4) (N := 9) hx hb hts iuX4_passNumbers_X4 hown hK hP 0 rfl rfl 5 (by decide) (htw (.fieldLink RX4 21 "MergeJudge$Reader" "number" "I") (List.mem_of_getElem? (i := 12) rfl)) (fun _ h9 => h9) rfl dX4_passNumbers_126 ?_
                              refine lv_aload_n hx hb dX4_passNumbers_129 rfl (lv_at hl 3 rfl) ?_
                              refine lv_iload hx hb dX4_passNumbers_130 (lv_at hl 1 rfl) ?_
                              refine aft_i (wr := [(aT, .inr (7, [.ref tb, .int (nI nt)])), (tb, .inl (cs 0, 400, .inl ft)), (qr2, .inl (cs 1, 20, .inl g4_a))]) hP hD hS hA [0, 3] [1, 2, 4] rfl rfl (by decide) (by decide) (run_v (As := [.int (nI j_12)]) (rest := [.int g3_a]) hFix hK hE hP hD [0, 3] (k_X4_highestOf l D cs _ aR (nI j_12) aT aD g0_a g3_a rp rk rf qli qlw qod qdr qlo qr0 qr1 qr2 qr3 qr4 g1_a g2_a qtp qnc qnr qno qna (by first | assumption | decide | omega) (by first | assumption | decide | omega) (by first | assumption | decide | omega) (by first | assumption | decide | omega) (by first | assumption | decide | omega)) (cwV 1 hts gc_X4_passNumbers_192_X4_highestOf rfl rfl rfl (by decide +kernel) ⟨Nat.le_of_ble_eq_true rfl, Nat.le_of_ble_eq_true rfl⟩) rfl (by decide) rfl rfl rfl hl.1 rfl (Nat.le_of_ble_eq_true rfl) dX4_passNumbers_132 ⟨Nat.le_of_ble_eq_true rfl, Nat.le_of_ble_eq_true rfl⟩) (fun r_24 u_24 H locs hq_24 hP hD hS => ?_)
                              have hP : va_P D vwCl [(aT, .inr (7, [.ref tb, .int (nI nt)])), (tb, .inl (cs 0, 400, .inl ft)), (qr2, .inl (cs 1, 20, .inl g4_a)), (aR, .inr (4, [.ref aT, .ref aD, .int g0_a, .int (nI g1_a), .int (nI g2_a), .int g3_a, .int rp, .int rk, .int rf])), (aD, .inr (0, [.int qli, .int (nI qtp), .int qlw, .int qod, .int (nI qnc), .int (nI qnr), .int (nI qno), .int (nI qna), .int qdr, .int qlo, .ref qr0, .ref qr1, .ref qr2, .ref qr3, .ref qr4]))] H := hP
                              have hD : va_D A [(aT, .inr (7, [.ref tb, .int (nI nt)])), (tb, .inl (cs 0, 400, .inl ft)), (qr2, .inl (cs 1, 20, .inl g4_a)), (aR, .inr (4, [.ref aT, .ref aD, .int g0_a, .int (nI g1_a), .int (nI g2_a), .int g3_a, .int rp, .int rk, .int rf])), (aD, .inr (0, [.int qli, .int (nI qtp), .int qlw, .int qod, .int (nI qnc), .int (nI qnr), .int (nI qno), .int (nI qna), .int qdr, .int qlo, .ref qr0, .ref qr1, .ref qr2, .ref qr3, .ref qr4]))] := hD
                              refine lv_icmp_gt (tgt := 152) hx hb dX4_passNumbers_135 (by decide) (fun c_25 => ?_) (fun c_25 => ?_)
                              ·
                                refine lv_aload_n hx hb dX4_passNumbers_152 rfl (lv_at hl 3 rfl) ?_
                                refine lv_iconst (v := 2) hx hb dX4_passNumbers_153 (by decide) ?_
                                refine aft_i (wr := [(aT, .inr (7, [.ref tb, .int (nI nt)])), (tb, .inl (cs 0, 400, .inl ft)), (qr2, .inl (cs 1, 20, .inl g4_a)), (aD, .inr (0, [.int qli, .int (nI qtp), .int qlw, .int qod, .int (nI qnc), .int (nI qnr), .int (nI qno), .int (nI qna), .int qdr, .int qlo, .ref qr0, .ref qr1, .ref qr2, .ref qr3, .ref qr4]))]) hP hD hS hA [3] [0, 1, 2, 4] rfl rfl (by decide) (by decide) (run_v (As := [.int 2]) (rest := []) hFix hK hE hP hD [3] (k_X4_failed l D cs _ aR 2 aT aD g0_a g3_a rp rk rf g1_a g2_a) (cwV 1 hts gc_X4_passNumbers_78_X4_failed rfl rfl rfl (by decide +kernel) ⟨Nat.le_of_ble_eq_true rfl, Nat.le_of_ble_eq_true rfl⟩) rfl (by decide) rfl rfl rfl hl.1 rfl (Nat.le_of_ble_eq_true rfl) dX4_passNumbers_154 ⟨Nat.le_of_ble_eq_true rfl, Nat.le_of_ble_eq_true rfl⟩) (fun r_26 u_26 H locs hq_26 hP hD hS => ?_)
                                obtain ⟨rk1_26, rf1_26⟩ := u_26
                                have hP : va_P D vwCl [(aT, .inr (7, [.ref tb, .int (nI nt)])), (tb, .inl (cs 0, 400, .inl ft)), (qr2, .inl (cs 1, 20, .inl g4_a)), (aD, .inr (0, [.int qli, .int (nI qtp), .int qlw, .int qod, .int (nI qnc), .int (nI qnr), .int (nI qno), .int (nI qna), .int qdr, .int qlo, .ref qr0, .ref qr1, .ref qr2, .ref qr3, .ref qr4])), (aR, .inr (4, [.ref aT, .ref aD, .int g0_a, .int (nI g1_a), .int (nI g2_a), .int g3_a, .int rp, .int rk1_26, .int rf1_26]))] H := hP
                                have hD : va_D A [(aT, .inr (7, [.ref tb, .int (nI nt)])), (tb, .inl (cs 0, 400, .inl ft)), (qr2, .inl (cs 1, 20, .inl g4_a)), (aD, .inr (0, [.int qli, .int (nI qtp), .int qlw, .int qod, .int (nI qnc), .int (nI qnr), .int (nI qno), .int (nI qna), .int qdr, .int qlo, .ref qr0, .ref qr1, .ref qr2, .ref qr3, .ref qr4])), (aR, .inr (4, [.ref aT, .ref aD, .int g0_a, .int (nI g1_a), .int (nI g2_a), .int g3_a, .int rp, .int rk1_26, .int rf1_26]))] := hD
                                replace hq_26 : ((r_26 = 0 ∧ True)) := hq_26
                                obtain ⟨rfl, hq_26⟩ := hq_26
                                ·
                                  exact ret_z hx hb hr hlk hS (Nat.le_of_ble_eq_true rfl) (Nat.le_of_ble_eq_true rfl) (by decide) (g0_a, g1_a, g2_a, g3_a, rk1_26, rf1_26, g4_a) (⟨(by omega), (by omega), Or.inr (⟨rfl, trivial⟩)⟩) (hP.sub [4, 0, 1, 3, 2] rfl) (hD.sub [4, 0, 1, 3, 2] (by decide) rfl) dX4_passNumbers_157
                              ·
                                refine lv_iload hx hb dX4_passNumbers_138 (lv_at hl 1 rfl) ?_
                                refine lv_bipush (v := 80) hx hb dX4_passNumbers_140 (by decide) ?_
                                refine lv_icmp_ne (tgt := 158) hx hb dX4_passNumbers_142 (by decide) (fun c_27 => ?_) (fun c_27 => ?_)
                                ·
                                  have hn_27 := bne_t (a := j_12) (b := 80) c_27 (by omega) (by omega)
                                  refine lv_aload_n hx hb dX4_passNumbers_158 rfl (lv_at hl 6 rfl) ?_
                                  refine lv_iload hx hb dX4_passNumbers_159 (lv_at hl 7 rfl) ?_
                                  refine lv_iconst (v := 1) hx hb dX4_passNumbers_161 (by decide) ?_
                                  refine lv_iadd hx hb dX4_passNumbers_162 ?_
                                  refine cf_i (nI (fo + 1)) (nI_add fo 1) ?_
                                  refine lv_iload hx hb dX4_passNumbers_163 (lv_at hl 2 rfl) ?_
                                  refine lv_iadd hx hb dX4_passNumbers_165 ?_
                                  refine cf_i (nI (fo + 1 + g5_a)) (nI_add (fo + 1) g5_a) ?_
                                  refine lv_aload_n hx hb dX4_passNumbers_166 rfl (lv_at hl 3 rfl) ?_
                                  refine va_get (D := D) (ci := 4) (v := .int g3_a) (C := RX4) (T := TX4) (N := 9) hx hb hts iuX4_passNumbers_X4 hown hK hP 3 rfl rfl 5 (by decide) (htw (.fieldLink RX4 21 "MergeJudge$Reader" "number" "I") (List.mem_of_getElem? (i := 12) rfl)) (fun _ h9 => h9) rfl dX4_passNumbers_167 ?_
                                  refine va_iast hx hb hK hP hD hS 2 1 rfl rfl (vp_in_nI (by omega) (by omega)) dX4_passNumbers_170 (fun H locs hP hD hS => ?_)
                                  have hP : va_P D vwCl [(aT, .inr (7, [.ref tb, .int (nI nt)])), (tb, .inl (cs 0, 400, .inl ft)), (qr2, .inl (cs 1, 20, .inl (upd g4_a ((nI (fo + 1 + g5_a)).toNatClampNeg) g3_a))), (aR, .inr (4, [.ref aT, .ref aD, .int g0_a, .int (nI g1_a), .int (nI g2_a), .int g3_a, .int rp, .int rk, .int rf])), (aD, .inr (0, [.int qli, .int (nI qtp), .int qlw, .int qod, .int (nI qnc), .int (nI qnr), .int (nI qno), .int (nI qna), .int qdr, .int qlo, .ref qr0, .ref qr1, .ref qr2, .ref qr3, .ref qr4]))] H := hP
                                  have hD : va_D A [(aT, .inr (7, [.ref tb, .int (nI nt)])), (tb, .inl (cs 0, 400, .inl ft)), (qr2, .inl (cs 1, 20, .inl (upd g4_a ((nI (fo + 1 + g5_a)).toNatClampNeg) g3_a))), (aR, .inr (4, [.ref aT, .ref aD, .int g0_a, .int (nI g1_a), .int (nI g2_a), .int g3_a, .int rp, .int rk, .int rf])), (aD, .inr (0, [.int qli, .int (nI qtp), .int qlw, .int qod, .int (nI qnc), .int (nI qnr), .int (nI qno), .int (nI qna), .int qdr, .int qlo, .ref qr0, .ref qr1, .ref qr2, .ref qr3, .ref qr4]))] := hD
                                  refine lv_aload_n hx hb dX4_passNumbers_171 rfl (lv_at hl 3 rfl) ?_
                                  refine aft_v (wr := [(qr2, .inl (cs 1, 20, .inl (upd g4_a ((nI (fo + 1 + g5_a)).toNatClampNeg) g3_a))), (aD, .inr (0, [.int qli, .int (nI qtp), .int qlw, .int qod, .int (nI qnc), .int (nI qnr), .int (nI qno), .int (nI qna), .int qdr, .int qlo, .ref qr0, .ref qr1, .ref qr2, .ref qr3, .ref qr4]))]) hP hD hS hA [3, 0, 1] [2, 4] rfl rfl (by decide) (by decide) (run_v (As := []) (rest := []) hFix hK hE hP hD [3, 0, 1] (k_X4_next l D cs _ aR aT aD g0_a g3_a rp rk rf tb ft g1_a g2_a nt (by first | assumption | decide | omega) (by first | assumption | decide | omega)) (cwV 0 hts gc_X4_passNumbers_46_X4_next rfl rfl rfl (by decide +kernel) ⟨Nat.le_of_ble_eq_true rfl, Nat.le_of_ble_eq_true rfl⟩) rfl (by decide) rfl rfl rfl hl.1 rfl (Nat.le_of_ble_eq_true rfl) dX4_passNumbers_172 ⟨Nat.le_of_ble_eq_true rfl, Nat.le_of_ble_eq_true rfl⟩) (fun u_28 H locs hq_28 hP hD hS => ?_)
                                  obtain ⟨rt1_28, rs1_28, ra1_28, rn1_28⟩ := u_28
                                  have hP : va_P D vwCl [(qr2, .inl (cs 1, 20, .inl (upd g4_a ((nI (fo + 1 + g5_a)).toNatClampNeg) g3_a))), (aD, .inr (0, [.int qli, .int (nI qtp), .int qlw, .int qod, .int (nI qnc), .int (nI qnr), .int (nI qno), .int (nI qna), .int qdr, .int qlo, .ref qr0, .ref qr1, .ref qr2, .ref qr3, .ref qr4])), (aR, .inr (4, [.ref aT, .ref aD, .int rt1_28, .int (nI rs1_28), .int (nI ra1_28), .int rn1_28, .int rp, .int rk, .int rf])), (aT, .inr (7, [.ref tb, .int (nI nt)])), (tb, .inl (cs 0, 400, .inl ft))] H := hP
                                  have hD : va_D A [(qr2, .inl (cs 1, 20, .inl (upd g4_a ((nI (fo + 1 + g5_a)).toNatClampNeg) g3_a))), (aD, .inr (0, [.int qli, .int (nI qtp), .int qlw, .int qod, .int (nI qnc), .int (nI qnr), .int (nI qno), .int (nI qna), .int qdr, .int qlo, .ref qr0, .ref qr1, .ref qr2, .ref qr3, .ref qr4])), (aR, .inr (4, [.ref aT, .ref aD, .int rt1_28, .int (nI rs1_28), .int (nI ra1_28), .int rn1_28, .int rp, .int rk, .int rf])), (aT, .inr (7, [.ref tb, .int (nI nt)])), (tb, .inl (cs 0, 400, .inl ft))] := hD
                                  replace hq_28 : (rs1_28 ≤ ra1_28) ∧ (ra1_28 ≤ nt) := hq_28
                                  obtain ⟨hp_28_0, hp_28_1⟩ := hq_28
                                  refine lv_iinc (v := (nI (g5_a + 1))) (lv' := [(6, .int (nI (g5_a + 1))), (8, .int 0), (7, .int (nI j_12)), (0, .ref aR), (1, .int ki), (2, .ref (aK wi)), (3, .ref qr2), (4, .int (nI fo)), (5, .int 4)]) hx hb dX4_passNumbers_175 hl (k := 2) rfl (nI_1 _) (by decide) rfl (fun ls hl => ?_)
                                  refine lv_goto (tgt := 62) hx hb dX4_passNumbers_178 (by decide) ?_
                                  exact ih_lp_9 rt1_28 rs1_28 ra1_28 rn1_28 (upd g4_a ((nI (fo + 1 + g5_a)).toNatClampNeg) g3_a) (g5_a + 1) H locs ls (by omega) (by omega) (by omega) (by omega) (hP.sub [2, 3, 4, 1, 0] rfl) (hD.sub [2, 3, 4, 1, 0] (by decide) rfl) hS (lv_sub hl [0, 3, 4, 5, 6, 7, 8] rfl)
                                ·
                                  have hn_27 := bne_f (a := j_12) (b := 80) c_27 (by omega) (by omega)
                                  refine lv_aload_n hx hb dX4_passNumbers_145 rfl (lv_at hl 3 rfl) ?_
                                  refine va_get (D := D) (ci := 4) (v := .int g3_a) (C := RX4) (T := TX4) (N := 9) hx hb hts iuX4_passNumbers_X4 hown hK hP 3 rfl rfl 5 (by decide) (htw (.fieldLink RX4 21 "MergeJudge$Reader" "number" "I") (List.mem_of_getElem? (i := 12) rfl)) (fun _ h9 => h9) rfl dX4_passNumbers_146 ?_
                                  refine lv_if_ne (tgt := 158) hx hb dX4_passNumbers_149 (by decide) (fun c_29 => ?_) (fun c_29 => ?_)
                                  ·
                                    refine lv_aload_n hx hb dX4_passNumbers_158 rfl (lv_at hl 6 rfl) ?_
                                    refine lv_iload hx hb dX4_passNumbers_159 (lv_at hl 7 rfl) ?_
                                    refine lv_iconst (v := 1) hx hb dX4_passNumbers_161 (by decide) ?_
                                    refine lv_iadd hx hb dX4_passNumbers_162 ?_
                                    refine cf_i (nI (fo + 1)) (nI_add fo 1) ?_
                                    refine lv_iload hx hb dX4_passNumbers_163 (lv_at hl 2 rfl) ?_
                                    refine lv_iadd hx hb dX4_passNumbers_165 ?_
                                    refine cf_i (nI (fo + 1 + g5_a)) (nI_add (fo + 1) g5_a) ?_
                                    refine lv_aload_n hx hb dX4_passNumbers_166 rfl (lv_at hl 3 rfl) ?_
                                    refine va_get (D := D) (ci := 4) (v := .int g3_a) (C := RX4) (T := TX4) (N := 9) hx hb hts iuX4_passNumbers_X4 hown hK hP 3 rfl rfl 5 (by decide) (htw (.fieldLink RX4 21 "MergeJudge$Reader" "number" "I") (List.mem_of_getElem? (i := 12) rfl)) (fun _ h9 => h9) rfl dX4_passNumbers_167 ?_
                                    refine va_iast hx hb hK hP hD hS 2 1 rfl rfl (vp_in_nI (by omega) (by omega)) dX4_passNumbers_170 (fun H locs hP hD hS => ?_)
                                    have hP : va_P D vwCl [(aT, .inr (7, [.ref tb, .int (nI nt)])), (tb, .inl (cs 0, 400, .inl ft)), (qr2, .inl (cs 1, 20, .inl (upd g4_a ((nI (fo + 1 + g5_a)).toNatClampNeg) g3_a))), (aR, .inr (4, [.ref aT, .ref aD, .int g0_a, .int (nI g1_a), .int (nI g2_a), .int g3_a, .int rp, .int rk, .int rf])), (aD, .inr (0, [.int qli, .int (nI qtp), .int qlw, .int qod, .int (nI qnc), .int (nI qnr), .int (nI qno), .int (nI qna), .int qdr, .int qlo, .ref qr0, .ref qr1, .ref qr2, .ref qr3, .ref qr4]))] H := hP
                                    have hD : va_D A [(aT, .inr (7, [.ref tb, .int (nI nt)])), (tb, .inl (cs 0, 400, .inl ft)), (qr2, .inl (cs 1, 20, .inl (upd g4_a ((nI (fo + 1 + g5_a)).toNatClampNeg) g3_a))), (aR, .inr (4, [.ref aT, .ref aD, .int g0_a, .int (nI g1_a), .int (nI g2_a), .int g3_a, .int rp, .int rk, .int rf])), (aD, .inr (0, [.int qli, .int (nI qtp), .int qlw, .int qod, .int (nI qnc), .int (nI qnr), .int (nI qno), .int (nI qna), .int qdr, .int qlo, .ref qr0, .ref qr1, .ref qr2, .ref qr3, .ref qr4]))] := hD
                                    refine lv_aload_n hx hb dX4_passNumbers_171 rfl (lv_at hl 3 rfl) ?_
                                    refine aft_v (wr := [(qr2, .inl (cs 1, 20, .inl (upd g4_a ((nI (fo + 1 + g5_a)).toNatClampNeg) g3_a))), (aD, .inr (0, [.int qli, .int (nI qtp), .int qlw, .int qod, .int (nI qnc), .int (nI qnr), .int (nI qno), .int (nI qna), .int qdr, .int qlo, .ref qr0, .ref qr1, .ref qr2, .ref qr3, .ref qr4]))]) hP hD hS hA [3, 0, 1] [2, 4] rfl rfl (by decide) (by decide) (run_v (As := []) (rest := []) hFix hK hE hP hD [3, 0, 1] (k_X4_next l D cs _ aR aT aD g0_a g3_a rp rk rf tb ft g1_a g2_a nt (by first | assumption | decide | omega) (by first | assumption | decide | omega)) (cwV 0 hts gc_X4_passNumbers_46_X4_next rfl rfl rfl (by decide +kernel) ⟨Nat.le_of_ble_eq_true rfl, Nat.le_of_ble_eq_true rfl⟩) rfl (by decide) rfl rfl rfl hl.1 rfl (Nat.le_of_ble_eq_true rfl) dX4_passNumbers_172 ⟨Nat.le_of_ble_eq_true rfl, Nat.le_of_ble_eq_true rfl⟩) (fun u_30 H locs hq_30 hP hD hS => ?_)
                                    obtain ⟨rt1_30, rs1_30, ra1_30, rn1_30⟩ := u_30
                                    have hP : va_P D vwCl [(qr2, .inl (cs 1, 20, .inl (upd g4_a ((nI (fo + 1 + g5_a)).toNatClampNeg) g3_a))), (aD, .inr (0, [.int qli, .int (nI qtp), .int qlw, .int qod, .int (nI qnc), .int (nI qnr), .int (nI qno), .int (nI qna), .int qdr, .int qlo, .ref qr0, .ref qr1, .ref qr2, .ref qr3, .ref qr4])), (aR, .inr (4, [.ref aT, .ref aD, .int rt1_30, .int (nI rs1_30), .int (nI ra1_30), .int rn1_30, .int rp, .int rk, .int rf])), (aT, .inr (7, [.ref tb, .int (nI nt)])), (tb, .inl (cs 0, 400, .inl ft))] H := hP
                                    have hD : va_D A [(qr2, .inl (cs 1, 20, .inl (upd g4_a ((nI (fo + 1 + g5_a)).toNatClampNeg) g3_a))), (aD, .inr (0, [.int qli, .int (nI qtp), .int qlw, .int qod, .int (nI qnc), .int (nI qnr), .int (nI qno), .int (nI qna), .int qdr, .int qlo, .ref qr0, .ref qr1, .ref qr2, .ref qr3, .ref qr4])), (aR, .inr (4, [.ref aT, .ref aD, .int rt1_30, .int (nI rs1_30), .int (nI ra1_30), .int rn1_30, .int rp, .int rk, .int rf])), (aT, .inr (7, [.ref tb, .int (nI nt)])), (tb, .inl (cs 0, 400, .inl ft))] := hD
                                    replace hq_30 : (rs1_30 ≤ ra1_30) ∧ (ra1_30 ≤ nt) := hq_30
                                    obtain ⟨hp_30_0, hp_30_1⟩ := hq_30
                                    refine lv_iinc (v := (nI (g5_a + 1))) (lv' := [(6, .int (nI (g5_a + 1))), (8, .int 0), (7, .int (nI j_12)), (0, .ref aR), (1, .int ki), (2, .ref (aK wi)), (3, .ref qr2), (4, .int (nI fo)), (5, .int 4)]) hx hb dX4_passNumbers_175 hl (k := 2) rfl (nI_1 _) (by decide) rfl (fun ls hl => ?_)
                                    refine lv_goto (tgt := 62) hx hb dX4_passNumbers_178 (by decide) ?_
                                    exact ih_lp_9 rt1_30 rs1_30 ra1_30 rn1_30 (upd g4_a ((nI (fo + 1 + g5_a)).toNatClampNeg) g3_a) (g5_a + 1) H locs ls (by omega) (by omega) (by omega) (by omega) (hP.sub [2, 3, 4, 1, 0] rfl) (hD.sub [2, 3, 4, 1, 0] (by decide) rfl) hS (lv_sub hl [0, 3, 4, 5, 6, 7, 8] rfl)
                                  ·
                                    refine lv_aload_n hx hb dX4_passNumbers_152 rfl (lv_at hl 3 rfl) ?_
                                    refine lv_iconst (v := 2) hx hb dX4_passNumbers_153 (by decide) ?_
                                    refine aft_i (wr := [(aT, .inr (7, [.ref tb, .int (nI nt)])), (tb, .inl (cs 0, 400, .inl ft)), (qr2, .inl (cs 1, 20, .inl g4_a)), (aD, .inr (0, [.int qli, .int (nI qtp), .int qlw, .int qod, .int (nI qnc), .int (nI qnr), .int (nI qno), .int (nI qna), .int qdr, .int qlo, .ref qr0, .ref qr1, .ref qr2, .ref qr3, .ref qr4]))]) hP hD hS hA [3] [0, 1, 2, 4] rfl rfl (by decide) (by decide) (run_v (As := [.int 2]) (rest := []) hFix hK hE hP hD [3] (k_X4_failed l D cs _ aR 2 aT aD g0_a g3_a rp rk rf g1_a g2_a) (cwV 1 hts gc_X4_passNumbers_78_X4_failed rfl rfl rfl (by decide +kernel) ⟨Nat.le_of_ble_eq_true rfl, Nat.le_of_ble_eq_true rfl⟩) rfl (by decide) rfl rfl rfl hl.1 rfl (Nat.le_of_ble_eq_true rfl) dX4_passNumbers_154 ⟨Nat.le_of_ble_eq_true rfl, Nat.le_of_ble_eq_true rfl⟩) (fun r_31 u_31 H locs hq_31 hP hD hS => ?_)
                                    obtain ⟨rk1_31, rf1_31⟩ := u_31
                                    have hP : va_P D vwCl [(aT, .inr (7, [.ref tb, .int (nI nt)])), (tb, .inl (cs 0, 400, .inl ft)), (qr2, .inl (cs 1, 20, .inl g4_a)), (aD, .inr (0, [.int qli, .int (nI qtp), .int qlw, .int qod, .int (nI qnc), .int (nI qnr), .int (nI qno), .int (nI qna), .int qdr, .int qlo, .ref qr0, .ref qr1, .ref qr2, .ref qr3, .ref qr4])), (aR, .inr (4, [.ref aT, .ref aD, .int g0_a, .int (nI g1_a), .int (nI g2_a), .int g3_a, .int rp, .int rk1_31, .int rf1_31]))] H := hP
                                    have hD : va_D A [(aT, .inr (7, [.ref tb, .int (nI nt)])), (tb, .inl (cs 0, 400, .inl ft)), (qr2, .inl (cs 1, 20, .inl g4_a)), (aD, .inr (0, [.int qli, .int (nI qtp), .int qlw, .int qod, .int (nI qnc), .int (nI qnr), .int (nI qno), .int (nI qna), .int qdr, .int qlo, .ref qr0, .ref qr1, .ref qr2, .ref qr3, .ref qr4])), (aR, .inr (4, [.ref aT, .ref aD, .int g0_a, .int (nI g1_a), .int (nI g2_a), .int g3_a, .int rp, .int rk1_31, .int rf1_31]))] := hD
                                    replace hq_31 : ((r_31 = 0 ∧ True)) := hq_31
                                    obtain ⟨rfl, hq_31⟩ := hq_31
                                    ·
                                      exact ret_z hx hb hr hlk hS (Nat.le_of_ble_eq_true rfl) (Nat.le_of_ble_eq_true rfl) (by decide) (g0_a, g1_a, g2_a, g3_a, rk1_31, rf1_31, g4_a) (⟨(by omega), (by omega), Or.inr (⟨rfl, trivial⟩)⟩) (hP.sub [4, 0, 1, 3, 2] rfl) (hD.sub [4, 0, 1, 3, 2] (by decide) rfl) dX4_passNumbers_157
                            ·
                              refine lv_iconst (v := 1) hx hb dX4_passNumbers_113 (by decide) ?_
                              refine lv_goto (tgt := 118) hx hb dX4_passNumbers_114 (by decide) ?_
                              refine lv_istore (lv' := [(8, .int 1), (7, .int (nI j_12)), (6, .int (nI g5_a)), (0, .ref aR), (1, .int ki), (2, .ref (aK wi)), (3, .ref qr2), (4, .int (nI fo)), (5, .int 4)]) hx hb dX4_passNumbers_118 hl (by decide) rfl (fun ls hl => ?_)
                              refine lv_iload hx hb dX4_passNumbers_120 (lv_at hl 0 rfl) ?_
                              refine lv_if_ne (tgt := 152) hx hb dX4_passNumbers_122 (by decide) (fun _ => ?_) (fun h9 => absurd h9 (by decide))
                              refine lv_aload_n hx hb dX4_passNumbers_152 rfl (lv_at hl 3 rfl) ?_
                              refine lv_iconst (v := 2) hx hb dX4_passNumbers_153 (by decide) ?_
                              refine aft_i (wr := [(aT, .inr (7, [.ref tb, .int (nI nt)])), (tb, .inl (cs 0, 400, .inl ft)), (aD, .inr (0, [.int qli, .int (nI qtp), .int qlw, .int qod, .int (nI qnc), .int (nI qnr), .int (nI qno), .int (nI qna), .int qdr, .int qlo, .ref qr0, .ref qr1, .ref qr2, .ref qr3, .ref qr4])), (qr2, .inl (cs 1, 20, .inl g4_a))]) hP hD hS hA [0] [1, 2, 3, 4] rfl rfl (by decide) (by decide) (run_v (As := [.int 2]) (rest := []) hFix hK hE hP hD [0] (k_X4_failed l D cs _ aR 2 aT aD g0_a g3_a rp rk rf g1_a g2_a) (cwV 1 hts gc_X4_passNumbers_78_X4_failed rfl rfl rfl (by decide +kernel) ⟨Nat.le_of_ble_eq_true rfl, Nat.le_of_ble_eq_true rfl⟩) rfl (by decide) rfl rfl rfl hl.1 rfl (Nat.le_of_ble_eq_true rfl) dX4_passNumbers_154 ⟨Nat.le_of_ble_eq_true rfl, Nat.le_of_ble_eq_true rfl⟩) (fun r_32 u_32 H locs hq_32 hP hD hS => ?_)
                              obtain ⟨rk1_32, rf1_32⟩ := u_32
                              have hP : va_P D vwCl [(aT, .inr (7, [.ref tb, .int (nI nt)])), (tb, .inl (cs 0, 400, .inl ft)), (aD, .inr (0, [.int qli, .int (nI qtp), .int qlw, .int qod, .int (nI qnc), .int (nI qnr), .int (nI qno), .int (nI qna), .int qdr, .int qlo, .ref qr0, .ref qr1, .ref qr2, .ref qr3, .ref qr4])), (qr2, .inl (cs 1, 20, .inl g4_a)), (aR, .inr (4, [.ref aT, .ref aD, .int g0_a, .int (nI g1_a), .int (nI g2_a), .int g3_a, .int rp, .int rk1_32, .int rf1_32]))] H := hP
                              have hD : va_D A [(aT, .inr (7, [.ref tb, .int (nI nt)])), (tb, .inl (cs 0, 400, .inl ft)), (aD, .inr (0, [.int qli, .int (nI qtp), .int qlw, .int qod, .int (nI qnc), .int (nI qnr), .int (nI qno), .int (nI qna), .int qdr, .int qlo, .ref qr0, .ref qr1, .ref qr2, .ref qr3, .ref qr4])), (qr2, .inl (cs 1, 20, .inl g4_a)), (aR, .inr (4, [.ref aT, .ref aD, .int g0_a, .int (nI g1_a), .int (nI g2_a), .int g3_a, .int rp, .int rk1_32, .int rf1_32]))] := hD
                              replace hq_32 : ((r_32 = 0 ∧ True)) := hq_32
                              obtain ⟨rfl, hq_32⟩ := hq_32
                              ·
                                exact ret_z hx hb hr hlk hS (Nat.le_of_ble_eq_true rfl) (Nat.le_of_ble_eq_true rfl) (by decide) (g0_a, g1_a, g2_a, g3_a, rk1_32, rf1_32, g4_a) (⟨(by omega), (by omega), Or.inr (⟨rfl, trivial⟩)⟩) (hP.sub [4, 0, 1, 2, 3] rfl) (hD.sub [4, 0, 1, 2, 3] (by decide) rfl) dX4_passNumbers_157
                        ·
                          refine lv_aload_n hx hb dX4_passNumbers_87 rfl (lv_at hl 2 rfl) ?_
                          refine lv_iconst (v := 1) hx hb dX4_passNumbers_88 (by decide) ?_
                          refine aft_i (wr := [(aT, .inr (7, [.ref tb, .int (nI nt)])), (tb, .inl (cs 0, 400, .inl ft)), (aD, .inr (0, [.int qli, .int (nI qtp), .int qlw, .int qod, .int (nI qnc), .int (nI qnr), .int (nI qno), .int (nI qna), .int qdr, .int qlo, .ref qr0, .ref qr1, .ref qr2, .ref qr3, .ref qr4])), (qr2, .inl (cs 1, 20, .inl g4_a))]) hP hD hS hA [0] [1, 2, 3, 4] rfl rfl (by decide) (by decide) (run_v (As := [.int 1]) (rest := []) hFix hK hE hP hD [0] (k_X4_failed l D cs _ aR 1 aT aD g0_a g3_a rp rk rf g1_a g2_a) (cwV 1 hts gc_X4_passNumbers_78_X4_failed rfl rfl rfl (by decide +kernel) ⟨Nat.le_of_ble_eq_true rfl, Nat.le_of_ble_eq_true rfl⟩) rfl (by decide) rfl rfl rfl hl.1 rfl (Nat.le_of_ble_eq_true rfl) dX4_passNumbers_89 ⟨Nat.le_of_ble_eq_true rfl, Nat.le_of_ble_eq_true rfl⟩) (fun r_33 u_33 H locs hq_33 hP hD hS => ?_)
                          obtain ⟨rk1_33, rf1_33⟩ := u_33
                          have hP : va_P D vwCl [(aT, .inr (7, [.ref tb, .int (nI nt)])), (tb, .inl (cs 0, 400, .inl ft)), (aD, .inr (0, [.int qli, .int (nI qtp), .int qlw, .int qod, .int (nI qnc), .int (nI qnr), .int (nI qno), .int (nI qna), .int qdr, .int qlo, .ref qr0, .ref qr1, .ref qr2, .ref qr3, .ref qr4])), (qr2, .inl (cs 1, 20, .inl g4_a)), (aR, .inr (4, [.ref aT, .ref aD, .int g0_a, .int (nI g1_a), .int (nI g2_a), .int g3_a, .int rp, .int rk1_33, .int rf1_33]))] H := hP
                          have hD : va_D A [(aT, .inr (7, [.ref tb, .int (nI nt)])), (tb, .inl (cs 0, 400, .inl ft)), (aD, .inr (0, [.int qli, .int (nI qtp), .int qlw, .int qod, .int (nI qnc), .int (nI qnr), .int (nI qno), .int (nI qna), .int qdr, .int qlo, .ref qr0, .ref qr1, .ref qr2, .ref qr3, .ref qr4])), (qr2, .inl (cs 1, 20, .inl g4_a)), (aR, .inr (4, [.ref aT, .ref aD, .int g0_a, .int (nI g1_a), .int (nI g2_a), .int g3_a, .int rp, .int rk1_33, .int rf1_33]))] := hD
                          replace hq_33 : ((r_33 = 0 ∧ True)) := hq_33
                          obtain ⟨rfl, hq_33⟩ := hq_33
                          ·
                            exact ret_z hx hb hr hlk hS (Nat.le_of_ble_eq_true rfl) (Nat.le_of_ble_eq_true rfl) (by decide) (g0_a, g1_a, g2_a, g3_a, rk1_33, rf1_33, g4_a) (⟨(by omega), (by omega), Or.inr (⟨rfl, trivial⟩)⟩) (hP.sub [4, 0, 1, 2, 3] rfl) (hD.sub [4, 0, 1, 2, 3] (by decide) rfl) dX4_passNumbers_92
              exact lp_9 _ rt rs ra rn m0_6 0 H locs ls (by omega) (by omega) (by omega) (Nat.lt_succ_self _) (hP.sub [0, 1, 2, 3, 4] rfl) (hD.sub [0, 1, 2, 3, 4] (by decide) rfl) hS (lv_sub hl [0, 1, 2, 3, 4, 5, 6] rfl)
            ·
              have hn_8 := bge_f (a := i_6) (b := 4) c_8 (by omega) (by omega)
              refine lv_aload_n hx hb dX4_passNumbers_45 rfl (lv_at hl 4 rfl) ?_
              refine lv_iload hx hb dX4_passNumbers_46 (lv_at hl 5 rfl) ?_
              refine lv_iload hx hb dX4_passNumbers_48 (lv_at hl 0 rfl) ?_
              refine lv_iadd hx hb dX4_passNumbers_50 ?_
              refine cf_i (nI (fo + i_6)) (nI_add fo i_6) ?_
              refine lv_iconst (v := (-1)) hx hb dX4_passNumbers_51 (by decide) ?_
              refine va_iast hx hb hK hP hD hS 4 1 rfl rfl (vp_in_nI (by omega) (by omega)) dX4_passNumbers_52 (fun H locs hP hD hS => ?_)
              have hP : va_P D vwCl [(aR, .inr (4, [.ref aT, .ref aD, .int rt, .int (nI rs), .int (nI ra), .int rn, .int rp, .int rk, .int rf])), (aT, .inr (7, [.ref tb, .int (nI nt)])), (tb, .inl (cs 0, 400, .inl ft)), (aD, .inr (0, [.int qli, .int (nI qtp), .int qlw, .int qod, .int (nI qnc), .int (nI qnr), .int (nI qno), .int (nI qna), .int qdr, .int qlo, .ref qr0, .ref qr1, .ref qr2, .ref qr3, .ref qr4])), (qr2, .inl (cs 1, 20, .inl (upd m0_6 ((nI (fo + i_6)).toNatClampNeg) (-1))))] H := hP
              have hD : va_D A [(aR, .inr (4, [.ref aT, .ref aD, .int rt, .int (nI rs), .int (nI ra), .int rn, .int rp, .int rk, .int rf])), (aT, .inr (7, [.ref tb, .int (nI nt)])), (tb, .inl (cs 0, 400, .inl ft)), (aD, .inr (0, [.int qli, .int (nI qtp), .int qlw, .int qod, .int (nI qnc), .int (nI qnr), .int (nI qno), .int (nI qna), .int qdr, .int qlo, .ref qr0, .ref qr1, .ref qr2, .ref qr3, .ref qr4])), (qr2, .inl (cs 1, 20, .inl (upd m0_6 ((nI (fo + i_6)).toNatClampNeg) (-1))))] := hD
              refine lv_iinc (v := (nI (i_6 + 1))) (lv' := [(6, .int (nI (i_6 + 1))), (0, .ref aR), (1, .int ki), (2, .ref (aK wi)), (3, .ref qr2), (4, .int (nI fo)), (5, .int 4)]) hx hb dX4_passNumbers_53 hl (k := 0) rfl (nI_1 _) (by decide) rfl (fun ls hl => ?_)
              refine lv_goto (tgt := 38) hx hb dX4_passNumbers_56 (by decide) ?_
              exact ih_lp_7 (i_6 + 1) (upd m0_6 ((nI (fo + i_6)).toNatClampNeg) (-1)) H locs ls (by omega) (by omega) (hP.sub [0, 1, 2, 3, 4] rfl) (hD.sub [0, 1, 2, 3, 4] (by decide) rfl) hS (lv_sub hl [0, 1, 2, 3, 4, 5, 6] rfl)
        exact lp_7 _ 1 (upd qf2 ((nI fo).toNatClampNeg) ki) H locs ls (by omega) (Nat.lt_succ_self _) (hP.sub [0, 1, 2, 3, 4] rfl) (hD.sub [0, 1, 2, 3, 4] (by decide) rfl) hS (lv_sub hl [0, 1, 2, 3, 4, 5, 6] rfl)
      ·
        have hn_5 := blt_f (a := j_4) (b := 4) c_5 (by omega) (by omega)
        refine lv_aload_n hx hb dX4_passNumbers_24 rfl (lv_at hl 0 rfl) ?_
        refine lv_iconst (v := 3) hx hb dX4_passNumbers_25 (by decide) ?_
        refine aft_i (wr := [(aT, .inr (7, [.ref tb, .int (nI nt)])), (tb, .inl (cs 0, 400, .inl ft)), (aD, .inr (0, [.int qli, .int (nI qtp), .int qlw, .int qod, .int (nI qnc), .int (nI qnr), .int (nI qno), .int (nI qna), .int qdr, .int qlo, .ref qr0, .ref qr1, .ref qr2, .ref qr3, .ref qr4])), (qr2, .inl (cs 1, 20, .inl qf2))]) hP hD hS hA [0] [1, 2, 3, 4] rfl rfl (by decide) (by decide) (run_v (As := [.int 3]) (rest := []) hFix hK hE hP hD [0] (k_X4_failed l D cs _ aR 3 aT aD rt rn rp rk rf rs ra) (cwV 1 hts gc_X4_passNumbers_78_X4_failed rfl rfl rfl (by decide +kernel) ⟨Nat.le_of_ble_eq_true rfl, Nat.le_of_ble_eq_true rfl⟩) rfl (by decide) rfl rfl rfl hl.1 rfl (Nat.le_of_ble_eq_true rfl) dX4_passNumbers_26 ⟨Nat.le_of_ble_eq_true rfl, Nat.le_of_ble_eq_true rfl⟩) (fun r_34 u_34 H locs hq_34 hP hD hS => ?_)
        obtain ⟨rk1_34, rf1_34⟩ := u_34
        have hP : va_P D vwCl [(aT, .inr (7, [.ref tb, .int (nI nt)])), (tb, .inl (cs 0, 400, .inl ft)), (aD, .inr (0, [.int qli, .int (nI qtp), .int qlw, .int qod, .int (nI qnc), .int (nI qnr), .int (nI qno), .int (nI qna), .int qdr, .int qlo, .ref qr0, .ref qr1, .ref qr2, .ref qr3, .ref qr4])), (qr2, .inl (cs 1, 20, .inl qf2)), (aR, .inr (4, [.ref aT, .ref aD, .int rt, .int (nI rs), .int (nI ra), .int rn, .int rp, .int rk1_34, .int rf1_34]))] H := hP
        have hD : va_D A [(aT, .inr (7, [.ref tb, .int (nI nt)])), (tb, .inl (cs 0, 400, .inl ft)), (aD, .inr (0, [.int qli, .int (nI qtp), .int qlw, .int qod, .int (nI qnc), .int (nI qnr), .int (nI qno), .int (nI qna), .int qdr, .int qlo, .ref qr0, .ref qr1, .ref qr2, .ref qr3, .ref qr4])), (qr2, .inl (cs 1, 20, .inl qf2)), (aR, .inr (4, [.ref aT, .ref aD, .int rt, .int (nI rs), .int (nI ra), .int rn, .int rp, .int rk1_34, .int rf1_34]))] := hD
        replace hq_34 : ((r_34 = 0 ∧ True)) := hq_34
        obtain ⟨rfl, hq_34⟩ := hq_34
        ·
          exact ret_z hx hb hr hlk hS (Nat.le_of_ble_eq_true rfl) (Nat.le_of_ble_eq_true rfl) (by decide) (rt, rs, ra, rn, rk1_34, rf1_34, qf2) (⟨(by omega), (by omega), Or.inr (⟨rfl, trivial⟩)⟩) (hP.sub [4, 0, 1, 2, 3] rfl) (hD.sub [4, 0, 1, 2, 3] (by decide) rfl) dX4_passNumbers_29

set_option maxHeartbeats 4000000 in
set_option maxRecDepth 100000 in
theorem k_X4_readRule (l : Launch) (D : va_G) (cs : Nat → ClassId) (sz : Nat) (aK aV : Nat → Nat) (aR : Nat) (aT : Nat) (aD : Nat) (rt : Int32) (rn : Int32) (rp : Int32) (rk : Int32) (rf : Int32) (tb : Nat) (ft : Nat → Int32) (qli : Int32) (qlw : Int32) (qod : Int32) (qdr : Int32) (qlo : Int32) (qr0 : Nat) (qr1 : Nat) (qr2 : Nat) (qr3 : Nat) (qr4 : Nat) (qf1 : Nat → Int32) (rs : Nat) (ra : Nat) (nt : Nat) (qtp : Nat) (qnc : Nat) (qnr : Nat) (qno : Nat) (qna : Nat) (hnt : nt ≤ 400) (hqtp : qtp ≤ 3) (hqnc : qnc ≤ 3) (hqnr : qnr ≤ 5) (hqno : qno ≤ 5) (hqna : qna ≤ 20) (hra : rs ≤ ra) (hrt : ra ≤ nt) : Si l D cs aK aV yX4_readRule W_X4_readRule 6 127 0 0 [.ref aR] [(aR, .inr (4, [.ref aT, .ref aD, .int rt, .int (nI rs), .int (nI ra), .int rn, .int rp, .int rk, .int rf])), (aT, .inr (7, [.ref tb, .int (nI nt)])), (tb, .inl (cs 0, 400, .inl ft)), (aD, .inr (0, [.int qli, .int (nI qtp), .int qlw, .int qod, .int (nI qnc), .int (nI qnr), .int (nI qno), .int (nI qna), .int qdr, .int qlo, .ref qr0, .ref qr1, .ref qr2, .ref qr3, .ref qr4])), (qr1, .inl (cs 1, 25, .inl qf1))] sz (fun (r : Int32) (u : Int32 × Nat × Nat × Int32 × Int32 × Int32 × Nat × (Nat → Int32)) => (u.2.1 ≤ u.2.2.1) ∧ (u.2.2.1 ≤ nt) ∧ (u.2.2.2.2.2.2.1 ≤ 5) ∧ ((r = 1 ∧ True) ∨ (r = 0 ∧ True))) (fun (u : Int32 × Nat × Nat × Int32 × Int32 × Int32 × Nat × (Nat → Int32)) => [(aR, .inr (4, [.ref aT, .ref aD, .int u.1, .int (nI u.2.1), .int (nI u.2.2.1), .int u.2.2.2.1, .int rp, .int u.2.2.2.2.1, .int u.2.2.2.2.2.1])), (aT, .inr (7, [.ref tb, .int (nI nt)])), (tb, .inl (cs 0, 400, .inl ft)), (aD, .inr (0, [.int qli, .int (nI qtp), .int qlw, .int qod, .int (nI qnc), .int (nI u.2.2.2.2.2.2.1), .int (nI qno), .int (nI qna), .int qdr, .int qlo, .ref qr0, .ref qr1, .ref qr2, .ref qr3, .ref qr4])), (qr1, .inl (cs 1, 25, .inl u.2.2.2.2.2.2.2))]) := by
  refine entS (D := D) (cs := cs) (y := yX4_readRule) (ws := W_X4_readRule) (As := [.ref aR]) (W0 := [(aR, .inr (4, [.ref aT, .ref aD, .int rt, .int (nI rs), .int (nI ra), .int rn, .int rp, .int rk, .int rf])), (aT, .inr (7, [.ref tb, .int (nI nt)])), (tb, .inl (cs 0, 400, .inl ft)), (aD, .inr (0, [.int qli, .int (nI qtp), .int qlw, .int qod, .int (nI qnc), .int (nI qnr), .int (nI qno), .int (nI qna), .int qdr, .int qlo, .ref qr0, .ref qr1, .ref qr2, .ref qr3, .ref qr4])), (qr1, .inl (cs 1, 25, .inl qf1))]) (Qx := fun A => va_Qi (fun (r : Int32) (u : Int32 × Nat × Nat × Int32 × Int32 × Int32 × Nat × (Nat → Int32)) => (u.2.1 ≤ u.2.2.1) ∧ (u.2.2.1 ≤ nt) ∧ (u.2.2.2.2.2.2.1 ≤ 5) ∧ ((r = 1 ∧ True) ∨ (r = 0 ∧ True))) (mpost D A (fun (u : Int32 × Nat × Nat × Int32 × Int32 × Int32 × Nat × (Nat → Int32)) => [(aR, .inr (4, [.ref aT, .ref aD, .int u.1, .int (nI u.2.1), .int (nI u.2.2.1), .int u.2.2.2.1, .int rp, .int u.2.2.2.2.1, .int u.2.2.2.2.2.1])), (aT, .inr (7, [.ref tb, .int (nI nt)])), (tb, .inl (cs 0, 400, .inl ft)), (aD, .inr (0, [.int qli, .int (nI qtp), .int qlw, .int qod, .int (nI qnc), .int (nI u.2.2.2.2.2.2.1), .int (nI qno), .int (nI qna), .int qdr, .int qlo, .ref qr0, .ref qr1, .ref qr2, .ref qr3, .ref qr4])), (qr1, .inl (cs 1, 25, .inl u.2.2.2.2.2.2.2))])) A) (maxL := 2) (ret := (some .boolean)) (by decide) rfl (Nat.le_of_ble_eq_true rfl) ?_
  intro p e s m below meth c A ls hx hb hr hml hlk hown hts hin hK hE hV hP hD hA hS hl
  have hl : lv_has ls 2 [(0, .ref aR)] := hl
  generalize hHe : s.heap = H at hP
  have hS : va_S A s.heap H [] := hHe ▸ hS
  generalize hLe : ([] : List Loc) = locs at hS ⊢
  have htw : ∀ w ∈ O_X4_readRule, w.before ([.ref aR] : List Value).toArray s = true := fun w h => hts w (List.mem_cons_of_mem _ (List.mem_append_left _ h))
  have hFix := (⟨hx, hb, hml, hown, hts⟩ : CallFix p m c _ _ s _ _ _)
  refine lv_aload_n hx hb dX4_readRule_0 rfl (lv_at hl 0 rfl) ?_
  refine va_get (D := D) (ci := 4) (v := .ref aD) (C := RX4) (T := TX4) (N := 9) hx hb hts iuX4_readRule_X4 hown hK hP 0 rfl rfl 1 (by decide) (htw (.fieldLink RX4 37 "MergeJudge$Reader" "draft" "LMergeJudge$Base;") (List.mem_of_getElem? (i := 0) rfl)) (fun _ h9 => h9) rfl dX4_readRule_1 ?_
  refine va_get (D := D) (ci := 0) (v := .int (nI qnr)) (C := RX0) (T := TX0) (N := 15) hx hb hts iuX4_readRule_X0 hown hK hP 3 rfl rfl 5 (by decide) (htw (.fieldLink RX4 114 "MergeJudge$Base" "rules" "I") (List.mem_of_getElem? (i := 1) rfl)) (fun _ h9 => h9) rfl dX4_readRule_4 ?_
  refine lv_iconst (v := 5) hx hb dX4_readRule_7 (by decide) ?_
  refine lv_icmp_lt (tgt := 17) hx hb dX4_readRule_8 (by decide) (fun c_1 => ?_) (fun c_1 => ?_)
  ·
    have hn_1 := blt_t (a := qnr) (b := 5) c_1 (by omega) (by omega)
    refine lv_aload_n hx hb dX4_readRule_17 rfl (lv_at hl 0 rfl) ?_
    refine aft_v (wr := [(aD, .inr (0, [.int qli, .int (nI qtp), .int qlw, .int qod, .int (nI qnc), .int (nI qnr), .int (nI qno), .int (nI qna), .int qdr, .int qlo, .ref qr0, .ref qr1, .ref qr2, .ref qr3, .ref qr4])), (qr1, .inl (cs 1, 25, .inl qf1))]) hP hD hS hA [0, 1, 2] [3, 4] rfl rfl (by decide) (by decide) (run_v (As := []) (rest := []) hFix hK hE hP hD [0, 1, 2] (k_X4_next l D cs _ aR aT aD rt rn rp rk rf tb ft rs ra nt (by first | assumption | decide | omega) (by first | assumption | decide | omega)) (cwV 0 hts gc_X4_readRule_46_X4_next rfl rfl rfl (by decide +kernel) ⟨Nat.le_of_ble_eq_true rfl, Nat.le_of_ble_eq_true rfl⟩) rfl (by decide) rfl rfl rfl hl.1 rfl (Nat.le_of_ble_eq_true rfl) dX4_readRule_18 ⟨Nat.le_of_ble_eq_true rfl, Nat.le_of_ble_eq_true rfl⟩) (fun u_2 H locs hq_2 hP hD hS => ?_)
    obtain ⟨rt1_2, rs1_2, ra1_2, rn1_2⟩ := u_2
    have hP : va_P D vwCl [(aD, .inr (0, [.int qli, .int (nI qtp), .int qlw, .int qod, .int (nI qnc), .int (nI qnr), .int (nI qno), .int (nI qna), .int qdr, .int qlo, .ref qr0, .ref qr1, .ref qr2, .ref qr3, .ref qr4])), (qr1, .inl (cs 1, 25, .inl qf1)), (aR, .inr (4, [.ref aT, .ref aD, .int rt1_2, .int (nI rs1_2), .int (nI ra1_2), .int rn1_2, .int rp, .int rk, .int rf])), (aT, .inr (7, [.ref tb, .int (nI nt)])), (tb, .inl (cs 0, 400, .inl ft))] H := hP
    have hD : va_D A [(aD, .inr (0, [.int qli, .int (nI qtp), .int qlw, .int qod, .int (nI qnc), .int (nI qnr), .int (nI qno), .int (nI qna), .int qdr, .int qlo, .ref qr0, .ref qr1, .ref qr2, .ref qr3, .ref qr4])), (qr1, .inl (cs 1, 25, .inl qf1)), (aR, .inr (4, [.ref aT, .ref aD, .int rt1_2, .int (nI rs1_2), .int (nI ra1_2), .int rn1_2, .int rp, .int rk, .int rf])), (aT, .inr (7, [.ref tb, .int (nI nt)])), (tb, .inl (cs 0, 400, .inl ft))] := hD
    replace hq_2 : (rs1_2 ≤ ra1_2) ∧ (ra1_2 ≤ nt) := hq_2
    obtain ⟨hp_2_0, hp_2_1⟩ := hq_2
    refine lv_aload_n hx hb dX4_readRule_21 rfl (lv_at hl 0 rfl) ?_
    refine aft_i (wr := [(aD, .inr (0, [.int qli, .int (nI qtp), .int qlw, .int qod, .int (nI qnc), .int (nI qnr), .int (nI qno), .int (nI qna), .int qdr, .int qlo, .ref qr0, .ref qr1, .ref qr2, .ref qr3, .ref qr4])), (qr1, .inl (cs 1, 25, .inl qf1))]) hP hD hS hA [2, 3, 4] [0, 1] rfl rfl (by decide) (by decide) (run_vS (As := []) (rest := []) hFix hK hE hV hP hD hS hA [2, 3, 4] (k_X4_ruleKind l D cs _ aK aV aR aT aD rt1_2 rn1_2 rp rk rf tb ft rs1_2 ra1_2 nt (by first | assumption | decide | omega) (by first | assumption | decide | omega) (by first | assumption | decide | omega)) (cwV 0 hts gc_X4_readRule_117_X4_ruleKind rfl rfl rfl (by decide +kernel) ⟨Nat.le_of_ble_eq_true rfl, Nat.le_of_ble_eq_true rfl⟩) rfl (by decide) (rcv hK hP [2, 3, 4] rfl rfl rfl) rfl hl.1 rfl (Nat.le_of_ble_eq_true rfl) dX4_readRule_22 ⟨Nat.le_of_ble_eq_true rfl, Nat.le_of_ble_eq_true rfl⟩) (fun r_3 u_3 H locs hq_3 hP hD hS => ?_)
    have hP : va_P D vwCl [(aD, .inr (0, [.int qli, .int (nI qtp), .int qlw, .int qod, .int (nI qnc), .int (nI qnr), .int (nI qno), .int (nI qna), .int qdr, .int qlo, .ref qr0, .ref qr1, .ref qr2, .ref qr3, .ref qr4])), (qr1, .inl (cs 1, 25, .inl qf1)), (aR, .inr (4, [.ref aT, .ref aD, .int rt1_2, .int (nI rs1_2), .int (nI ra1_2), .int rn1_2, .int rp, .int rk, .int rf])), (aT, .inr (7, [.ref tb, .int (nI nt)])), (tb, .inl (cs 0, 400, .inl ft))] H := hP
    have hD : va_D A [(aD, .inr (0, [.int qli, .int (nI qtp), .int qlw, .int qod, .int (nI qnc), .int (nI qnr), .int (nI qno), .int (nI qna), .int qdr, .int qlo, .ref qr0, .ref qr1, .ref qr2, .ref qr3, .ref qr4])), (qr1, .inl (cs 1, 25, .inl qf1)), (aR, .inr (4, [.ref aT, .ref aD, .int rt1_2, .int (nI rs1_2), .int (nI ra1_2), .int rn1_2, .int rp, .int rk, .int rf])), (aT, .inr (7, [.ref tb, .int (nI nt)])), (tb, .inl (cs 0, 400, .inl ft))] := hD
    replace hq_3 : ((r_3 = (-1) ∧ True) ∨ (r_3 = 0 ∧ True) ∨ (r_3 = 1 ∧ True) ∨ (r_3 = 2 ∧ True) ∨ (r_3 = 3 ∧ True) ∨ (r_3 = 4 ∧ True) ∨ (r_3 = 5 ∧ True)) := hq_3
    rcases hq_3 with ⟨rfl, hq_3⟩ | ⟨rfl, hq_3⟩ | ⟨rfl, hq_3⟩ | ⟨rfl, hq_3⟩ | ⟨rfl, hq_3⟩ | ⟨rfl, hq_3⟩ | ⟨rfl, hq_3⟩
    ·
      refine lv_istore_n (lv' := [(1, .int (-1)), (0, .ref aR)]) hx hb dX4_readRule_25 rfl hl (by decide) rfl (fun ls hl => ?_)
      refine lv_iload_n hx hb dX4_readRule_26 rfl (lv_at hl 0 rfl) ?_
      refine lv_iconst (v := (-1)) hx hb dX4_readRule_27 (by decide) ?_
      refine lv_icmp_ne (tgt := 37) hx hb dX4_readRule_28 (by decide) (fun h9 => absurd h9 (by decide)) (fun _ => ?_)
      refine lv_aload_n hx hb dX4_readRule_31 rfl (lv_at hl 1 rfl) ?_
      refine lv_iconst (v := 1) hx hb dX4_readRule_32 (by decide) ?_
      refine aft_i (wr := [(aD, .inr (0, [.int qli, .int (nI qtp), .int qlw, .int qod, .int (nI qnc), .int (nI qnr), .int (nI qno), .int (nI qna), .int qdr, .int qlo, .ref qr0, .ref qr1, .ref qr2, .ref qr3, .ref qr4])), (qr1, .inl (cs 1, 25, .inl qf1)), (aT, .inr (7, [.ref tb, .int (nI nt)])), (tb, .inl (cs 0, 400, .inl ft))]) hP hD hS hA [2] [0, 1, 3, 4] rfl rfl (by decide) (by decide) (run_v (As := [.int 1]) (rest := []) hFix hK hE hP hD [2] (k_X4_failed l D cs _ aR 1 aT aD rt1_2 rn1_2 rp rk rf rs1_2 ra1_2) (cwV 1 hts gc_X4_readRule_78_X4_failed rfl rfl rfl (by decide +kernel) ⟨Nat.le_of_ble_eq_true rfl, Nat.le_of_ble_eq_true rfl⟩) rfl (by decide) rfl rfl rfl hl.1 rfl (Nat.le_of_ble_eq_true rfl) dX4_readRule_33 ⟨Nat.le_of_ble_eq_true rfl, Nat.le_of_ble_eq_true rfl⟩) (fun r_4 u_4 H locs hq_4 hP hD hS => ?_)
      obtain ⟨rk1_4, rf1_4⟩ := u_4
      have hP : va_P D vwCl [(aD, .inr (0, [.int qli, .int (nI qtp), .int qlw, .int qod, .int (nI qnc), .int (nI qnr), .int (nI qno), .int (nI qna), .int qdr, .int qlo, .ref qr0, .ref qr1, .ref qr2, .ref qr3, .ref qr4])), (qr1, .inl (cs 1, 25, .inl qf1)), (aT, .inr (7, [.ref tb, .int (nI nt)])), (tb, .inl (cs 0, 400, .inl ft)), (aR, .inr (4, [.ref aT, .ref aD, .int rt1_2, .int (nI rs1_2), .int (nI ra1_2), .int rn1_2, .int rp, .int rk1_4, .int rf1_4]))] H := hP
      have hD : va_D A [(aD, .inr (0, [.int qli, .int (nI qtp), .int qlw, .int qod, .int (nI qnc), .int (nI qnr), .int (nI qno), .int (nI qna), .int qdr, .int qlo, .ref qr0, .ref qr1, .ref qr2, .ref qr3, .ref qr4])), (qr1, .inl (cs 1, 25, .inl qf1)), (aT, .inr (7, [.ref tb, .int (nI nt)])), (tb, .inl (cs 0, 400, .inl ft)), (aR, .inr (4, [.ref aT, .ref aD, .int rt1_2, .int (nI rs1_2), .int (nI ra1_2), .int rn1_2, .int rp, .int rk1_4, .int rf1_4]))] := hD
      replace hq_4 : ((r_4 = 0 ∧ True)) := hq_4
      obtain ⟨rfl, hq_4⟩ := hq_4
      ·
        exact ret_z hx hb hr hlk hS (Nat.le_of_ble_eq_true rfl) (Nat.le_of_ble_eq_true rfl) (by decide) (rt1_2, rs1_2, ra1_2, rn1_2, rk1_4, rf1_4, qnr, qf1) (⟨(by omega), (by omega), (by omega), Or.inr (⟨rfl, trivial⟩)⟩) (hP.sub [4, 2, 3, 0, 1] rfl) (hD.sub [4, 2, 3, 0, 1] (by decide) rfl) dX4_readRule_36
    ·
      refine lv_istore_n (lv' := [(1, .int 0), (0, .ref aR)]) hx hb dX4_readRule_25 rfl hl (by decide) rfl (fun ls hl => ?_)
      refine lv_iload_n hx hb dX4_readRule_26 rfl (lv_at hl 0 rfl) ?_
      refine lv_iconst (v := (-1)) hx hb dX4_readRule_27 (by decide) ?_
      refine lv_icmp_ne (tgt := 37) hx hb dX4_readRule_28 (by decide) (fun _ => ?_) (fun h9 => absurd h9 (by decide))
      refine lv_aload_n hx hb dX4_readRule_37 rfl (lv_at hl 1 rfl) ?_
      refine aft_v (wr := [(aD, .inr (0, [.int qli, .int (nI qtp), .int qlw, .int qod, .int (nI qnc), .int (nI qnr), .int (nI qno), .int (nI qna), .int qdr, .int qlo, .ref qr0, .ref qr1, .ref qr2, .ref qr3, .ref qr4])), (qr1, .inl (cs 1, 25, .inl qf1))]) hP hD hS hA [2, 3, 4] [0, 1] rfl rfl (by decide) (by decide) (run_v (As := []) (rest := []) hFix hK hE hP hD [2, 3, 4] (k_X4_next l D cs _ aR aT aD rt1_2 rn1_2 rp rk rf tb ft rs1_2 ra1_2 nt (by first | assumption | decide | omega) (by first | assumption | decide | omega)) (cwV 0 hts gc_X4_readRule_46_X4_next rfl rfl rfl (by decide +kernel) ⟨Nat.le_of_ble_eq_true rfl, Nat.le_of_ble_eq_true rfl⟩) rfl (by decide) rfl rfl rfl hl.1 rfl (Nat.le_of_ble_eq_true rfl) dX4_readRule_38 ⟨Nat.le_of_ble_eq_true rfl, Nat.le_of_ble_eq_true rfl⟩) (fun u_5 H locs hq_5 hP hD hS => ?_)
      obtain ⟨rt1_5, rs1_5, ra1_5, rn1_5⟩ := u_5
      have hP : va_P D vwCl [(aD, .inr (0, [.int qli, .int (nI qtp), .int qlw, .int qod, .int (nI qnc), .int (nI qnr), .int (nI qno), .int (nI qna), .int qdr, .int qlo, .ref qr0, .ref qr1, .ref qr2, .ref qr3, .ref qr4])), (qr1, .inl (cs 1, 25, .inl qf1)), (aR, .inr (4, [.ref aT, .ref aD, .int rt1_5, .int (nI rs1_5), .int (nI ra1_5), .int rn1_5, .int rp, .int rk, .int rf])), (aT, .inr (7, [.ref tb, .int (nI nt)])), (tb, .inl (cs 0, 400, .inl ft))] H := hP
      have hD : va_D A [(aD, .inr (0, [.int qli, .int (nI qtp), .int qlw, .int qod, .int (nI qnc), .int (nI qnr), .int (nI qno), .int (nI qna), .int qdr, .int qlo, .ref qr0, .ref qr1, .ref qr2, .ref qr3, .ref qr4])), (qr1, .inl (cs 1, 25, .inl qf1)), (aR, .inr (4, [.ref aT, .ref aD, .int rt1_5, .int (nI rs1_5), .int (nI ra1_5), .int rn1_5, .int rp, .int rk, .int rf])), (aT, .inr (7, [.ref tb, .int (nI nt)])), (tb, .inl (cs 0, 400, .inl ft))] := hD
      replace hq_5 : (rs1_5 ≤ ra1_5) ∧ (ra1_5 ≤ nt) := hq_5
      obtain ⟨hp_5_0, hp_5_1⟩ := hq_5
      refine lv_aload_n hx hb dX4_readRule_41 rfl (lv_at hl 1 rfl) ?_
      refine lv_iload_n hx hb dX4_readRule_42 rfl (lv_at hl 0 rfl) ?_
      refine lv_iload_n hx hb dX4_readRule_43 rfl (lv_at hl 0 rfl) ?_
      refine aft_r (wr := [(aD, .inr (0, [.int qli, .int (nI qtp), .int qlw, .int qod, .int (nI qnc), .int (nI qnr), .int (nI qno), .int (nI qna), .int qdr, .int qlo, .ref qr0, .ref qr1, .ref qr2, .ref qr3, .ref qr4])), (qr1, .inl (cs 1, 25, .inl qf1)), (aR, .inr (4, [.ref aT, .ref aD, .int rt1_5, .int (nI rs1_5), .int (nI ra1_5), .int rn1_5, .int rp, .int rk, .int rf])), (aT, .inr (7, [.ref tb, .int (nI nt)])), (tb, .inl (cs 0, 400, .inl ft))]) hP hD hS hA [] [0, 1, 2, 3, 4] rfl rfl (by decide) (by decide) (run_sS (As := [.int 0]) (rest := [.int 0, .ref aR]) hFix hK hE hV hP hD hS hA [] (k_X4_ruleShape l D cs _ aK aV 0) (va_cwS 1 hts gc_X4_readRule_120_X4_ruleShape rfl rfl rfl (by decide +kernel) ⟨Nat.le_of_ble_eq_true rfl, Nat.le_of_ble_eq_true rfl⟩) rfl (by decide) rfl hl.1 rfl (Nat.le_of_ble_eq_true rfl) dX4_readRule_44 ⟨Nat.le_of_ble_eq_true rfl, Nat.le_of_ble_eq_true rfl⟩) (fun u_6 H locs hq_6 hP hD hS => ?_)
      obtain ⟨w9_6, rfl⟩ : ∃ z, z = u_6 := ⟨_, rfl⟩
      have hP : va_P D vwCl [(aD, .inr (0, [.int qli, .int (nI qtp), .int qlw, .int qod, .int (nI qnc), .int (nI qnr), .int (nI qno), .int (nI qna), .int qdr, .int qlo, .ref qr0, .ref qr1, .ref qr2, .ref qr3, .ref qr4])), (qr1, .inl (cs 1, 25, .inl qf1)), (aR, .inr (4, [.ref aT, .ref aD, .int rt1_5, .int (nI rs1_5), .int (nI ra1_5), .int rn1_5, .int rp, .int rk, .int rf])), (aT, .inr (7, [.ref tb, .int (nI nt)])), (tb, .inl (cs 0, 400, .inl ft))] H := hP
      have hD : va_D A [(aD, .inr (0, [.int qli, .int (nI qtp), .int qlw, .int qod, .int (nI qnc), .int (nI qnr), .int (nI qno), .int (nI qna), .int qdr, .int qlo, .ref qr0, .ref qr1, .ref qr2, .ref qr3, .ref qr4])), (qr1, .inl (cs 1, 25, .inl qf1)), (aR, .inr (4, [.ref aT, .ref aD, .int rt1_5, .int (nI rs1_5), .int (nI ra1_5), .int rn1_5, .int rp, .int rk, .int rf])), (aT, .inr (7, [.ref tb, .int (nI nt)])), (tb, .inl (cs 0, 400, .inl ft))] := hD
      replace hq_6 : (w9_6 < nJS) := hq_6
      have hp_6_0 := hq_6
      refine lv_aload_n hx hb dX4_readRule_47 rfl (lv_at hl 1 rfl) ?_
      refine va_get (D := D) (ci := 4) (v := .ref aD) (C := RX4) (T := TX4) (N := 9) hx hb hts iuX4_readRule_X4 hown hK hP 2 rfl rfl 1 (by decide) (htw (.fieldLink RX4 37 "MergeJudge$Reader" "draft" "LMergeJudge$Base;") (List.mem_of_getElem? (i := 0) rfl)) (fun _ h9 => h9) rfl dX4_readRule_48 ?_
      refine va_get (D := D) (ci := 0) (v := .ref qr1) (C := RX0) (T := TX0) (N := 15) hx hb hts iuX4_readRule_X0 hown hK hP 0 rfl rfl 11 (by decide) (htw (.fieldLink RX4 124 "MergeJudge$Base" "ruleRows" "[I") (List.mem_of_getElem? (i := 14) rfl)) (fun _ h9 => h9) rfl dX4_readRule_51 ?_
      refine lv_aload_n hx hb dX4_readRule_54 rfl (lv_at hl 1 rfl) ?_
      refine va_get (D := D) (ci := 4) (v := .ref aD) (C := RX4) (T := TX4) (N := 9) hx hb hts iuX4_readRule_X4 hown hK hP 2 rfl rfl 1 (by decide) (htw (.fieldLink RX4 37 "MergeJudge$Reader" "draft" "LMergeJudge$Base;") (List.mem_of_getElem? (i := 0) rfl)) (fun _ h9 => h9) rfl dX4_readRule_55 ?_
      refine va_get (D := D) (ci := 0) (v := .int (nI qnr)) (C := RX0) (T := TX0) (N := 15) hx hb hts iuX4_readRule_X0 hown hK hP 0 rfl rfl 5 (by decide) (htw (.fieldLink RX4 114 "MergeJudge$Base" "rules" "I") (List.mem_of_getElem? (i := 1) rfl)) (fun _ h9 => h9) rfl dX4_readRule_58 ?_
      refine lv_iconst (v := 5) hx hb dX4_readRule_61 (by decide) ?_
      refine lv_imul hx hb dX4_readRule_62 ?_
      refine cf_i (nI (qnr * 5)) (pk_mul qnr 5) ?_
      refine lv_iconst (v := 5) hx hb dX4_readRule_63 (by decide) ?_
      refine aft_i (wr := []) hP hD hS hA [2, 3, 4, 0, 1] [] rfl rfl (by decide) (by decide) (run_vS (As := [.int 0, .ref (aK w9_6), .ref qr1, .int (nI (qnr * 5)), .int 5]) (rest := []) hFix hK hE hV hP hD hS hA [2, 3, 4, 0, 1] (k_X4_passNumbers_r l D cs _ aK aV aR 0 qr1 (qnr * 5) w9_6 aT aD rt1_5 rn1_5 rp rk rf tb ft qli qlw qod qdr qlo qr0 qr2 qr3 qr4 qf1 rs1_5 ra1_5 nt qtp qnc qnr qno qna (by first | assumption | decide | omega) (by first | assumption | decide | omega) (by first | assumption | decide | omega) (by first | assumption | decide | omega) (by first | assumption | decide | omega) (by first | assumption | decide | omega) (by first | assumption | decide | omega) (by first | assumption | decide | omega) (by first | assumption | decide | omega) (by first | assumption | decide | omega)) (cwV 5 hts gc_X4_readRule_127_X4_passNumbers rfl rfl rfl (by decide +kernel) ⟨Nat.le_of_ble_eq_true rfl, Nat.le_of_ble_eq_true rfl⟩) rfl (by decide) (rcv hK hP [2, 3, 4, 0, 1] rfl rfl rfl) rfl hl.1 rfl (Nat.le_of_ble_eq_true rfl) dX4_readRule_64 ⟨Nat.le_of_ble_eq_true rfl, Nat.le_of_ble_eq_true rfl⟩) (fun r_7 u_7 H locs hq_7 hP hD hS => ?_)
      obtain ⟨rt1_7, rs1_7, ra1_7, rn1_7, rk1_7, rf1_7, qf11_7⟩ := u_7
      have hP : va_P D vwCl [(aR, .inr (4, [.ref aT, .ref aD, .int rt1_7, .int (nI rs1_7), .int (nI ra1_7), .int rn1_7, .int rp, .int rk1_7, .int rf1_7])), (aT, .inr (7, [.ref tb, .int (nI nt)])), (tb, .inl (cs 0, 400, .inl ft)), (aD, .inr (0, [.int qli, .int (nI qtp), .int qlw, .int qod, .int (nI qnc), .int (nI qnr), .int (nI qno), .int (nI qna), .int qdr, .int qlo, .ref qr0, .ref qr1, .ref qr2, .ref qr3, .ref qr4])), (qr1, .inl (cs 1, 25, .inl qf11_7))] H := hP
      have hD : va_D A [(aR, .inr (4, [.ref aT, .ref aD, .int rt1_7, .int (nI rs1_7), .int (nI ra1_7), .int rn1_7, .int rp, .int rk1_7, .int rf1_7])), (aT, .inr (7, [.ref tb, .int (nI nt)])), (tb, .inl (cs 0, 400, .inl ft)), (aD, .inr (0, [.int qli, .int (nI qtp), .int qlw, .int qod, .int (nI qnc), .int (nI qnr), .int (nI qno), .int (nI qna), .int qdr, .int qlo, .ref qr0, .ref qr1, .ref qr2, .ref qr3, .ref qr4])), (qr1, .inl (cs 1, 25, .inl qf11_7))] := hD
      replace hq_7 : (rs1_7 ≤ ra1_7) ∧ (ra1_7 ≤ nt) ∧ ((r_7 = 1 ∧ True) ∨ (r_7 = 0 ∧ True)) := hq_7
      obtain ⟨hp_7_0, hp_7_1, hq_7⟩ := hq_7
      rcases hq_7 with ⟨rfl, hq_7⟩ | ⟨rfl, hq_7⟩
      ·
        refine lv_if_ne (tgt := 72) hx hb dX4_readRule_67 (by decide) (fun _ => ?_) (fun h9 => absurd h9 (by decide))
        refine lv_aload_n hx hb dX4_readRule_72 rfl (lv_at hl 1 rfl) ?_
        refine va_get (D := D) (ci := 4) (v := .ref aD) (C := RX4) (T := TX4) (N := 9) hx hb hts iuX4_readRule_X4 hown hK hP 0 rfl rfl 1 (by decide) (htw (.fieldLink RX4 37 "MergeJudge$Reader" "draft" "LMergeJudge$Base;") (List.mem_of_getElem? (i := 0) rfl)) (fun _ h9 => h9) rfl dX4_readRule_73 ?_
        refine lv_dup hx hb dX4_readRule_76 rfl ?_
        refine va_get (D := D) (ci := 0) (v := .int (nI qnr)) (C := RX0) (T := TX0) (N := 15) hx hb hts iuX4_readRule_X0 hown hK hP 3 rfl rfl 5 (by decide) (htw (.fieldLink RX4 114 "MergeJudge$Base" "rules" "I") (List.mem_of_getElem? (i := 1) rfl)) (fun _ h9 => h9) rfl dX4_readRule_77 ?_
        refine lv_iconst (v := 1) hx hb dX4_readRule_80 (by decide) ?_
        refine lv_iadd hx hb dX4_readRule_81 ?_
        refine cf_i (nI (qnr + 1)) (nI_add qnr 1) ?_
        refine va_put (D := D) (ci := 0) (v := .int (nI (qnr + 1))) (ty := .int) (C := RX0) (T := TX0) (N := 15) hx hb hts iuX4_readRule_X0 tyX0 tyX0_ok nmX0 hown hK hP hD hS 3 rfl rfl 5 (by decide) (htw (.fieldLink RX4 114 "MergeJudge$Base" "rules" "I") (List.mem_of_getElem? (i := 1) rfl)) (fun _ h9 => h9) rfl (by decide +kernel) rfl rfl (Nat.le_of_ble_eq_true rfl) dX4_readRule_82 (fun H locs hP hD hS => ?_)
        have hP : va_P D vwCl [(aR, .inr (4, [.ref aT, .ref aD, .int rt1_7, .int (nI rs1_7), .int (nI ra1_7), .int rn1_7, .int rp, .int rk1_7, .int rf1_7])), (aT, .inr (7, [.ref tb, .int (nI nt)])), (tb, .inl (cs 0, 400, .inl ft)), (aD, .inr (0, [.int qli, .int (nI qtp), .int qlw, .int qod, .int (nI qnc), .int (nI (qnr + 1)), .int (nI qno), .int (nI qna), .int qdr, .int qlo, .ref qr0, .ref qr1, .ref qr2, .ref qr3, .ref qr4])), (qr1, .inl (cs 1, 25, .inl qf11_7))] H := hP
        have hD : va_D A [(aR, .inr (4, [.ref aT, .ref aD, .int rt1_7, .int (nI rs1_7), .int (nI ra1_7), .int rn1_7, .int rp, .int rk1_7, .int rf1_7])), (aT, .inr (7, [.ref tb, .int (nI nt)])), (tb, .inl (cs 0, 400, .inl ft)), (aD, .inr (0, [.int qli, .int (nI qtp), .int qlw, .int qod, .int (nI qnc), .int (nI (qnr + 1)), .int (nI qno), .int (nI qna), .int qdr, .int qlo, .ref qr0, .ref qr1, .ref qr2, .ref qr3, .ref qr4])), (qr1, .inl (cs 1, 25, .inl qf11_7))] := hD
        refine lv_iconst (v := 1) hx hb dX4_readRule_85 (by decide) ?_
        exact ret_z hx hb hr hlk hS (Nat.le_of_ble_eq_true rfl) (Nat.le_of_ble_eq_true rfl) (by decide) (rt1_7, rs1_7, ra1_7, rn1_7, rk1_7, rf1_7, qnr + 1, qf11_7) (⟨(by omega), (by omega), (by omega), Or.inl ⟨rfl, trivial⟩⟩) (hP.sub [0, 1, 2, 3, 4] rfl) (hD.sub [0, 1, 2, 3, 4] (by decide) rfl) dX4_readRule_86
      ·
        refine lv_if_ne (tgt := 72) hx hb dX4_readRule_67 (by decide) (fun h9 => absurd h9 (by decide)) (fun _ => ?_)
        refine lv_iconst (v := 0) hx hb dX4_readRule_70 (by decide) ?_
        exact ret_z hx hb hr hlk hS (Nat.le_of_ble_eq_true rfl) (Nat.le_of_ble_eq_true rfl) (by decide) (rt1_7, rs1_7, ra1_7, rn1_7, rk1_7, rf1_7, qnr, qf11_7) (⟨(by omega), (by omega), (by omega), Or.inr (⟨rfl, trivial⟩)⟩) (hP.sub [0, 1, 2, 3, 4] rfl) (hD.sub [0, 1, 2, 3, 4] (by decide) rfl) dX4_readRule_71
    ·
      refine lv_istore_n (lv' := [(1, .int 1), (0, .ref aR)]) hx hb dX4_readRule_25 rfl hl (by decide) rfl (fun ls hl => ?_)
      refine lv_iload_n hx hb dX4_readRule_26 rfl (lv_at hl 0 rfl) ?_
      refine lv_iconst (v := (-1)) hx hb dX4_readRule_27 (by decide) ?_
      refine lv_icmp_ne (tgt := 37) hx hb dX4_readRule_28 (by decide) (fun _ => ?_) (fun h9 => absurd h9 (by decide))
      refine lv_aload_n hx hb dX4_readRule_37 rfl (lv_at hl 1 rfl) ?_
      refine aft_v (wr := [(aD, .inr (0, [.int qli, .int (nI qtp), .int qlw, .int qod, .int (nI qnc), .int (nI qnr), .int (nI qno), .int (nI qna), .int qdr, .int qlo, .ref qr0, .ref qr1, .ref qr2, .ref qr3, .ref qr4])), (qr1, .inl (cs 1, 25, .inl qf1))]) hP hD hS hA [2, 3, 4] [0, 1] rfl rfl (by decide) (by decide) (run_v (As := []) (rest := []) hFix hK hE hP hD [2, 3, 4] (k_X4_next l D cs _ aR aT aD rt1_2 rn1_2 rp rk rf tb ft rs1_2 ra1_2 nt (by first | assumption | decide | omega) (by first | assumption | decide | omega)) (cwV 0 hts gc_X4_readRule_46_X4_next rfl rfl rfl (by decide +kernel) ⟨Nat.le_of_ble_eq_true rfl, Nat.le_of_ble_eq_true rfl⟩) rfl (by decide) rfl rfl rfl hl.1 rfl (Nat.le_of_ble_eq_true rfl) dX4_readRule_38 ⟨Nat.le_of_ble_eq_true rfl, Nat.le_of_ble_eq_true rfl⟩) (fun u_8 H locs hq_8 hP hD hS => ?_)
      obtain ⟨rt1_8, rs1_8, ra1_8, rn1_8⟩ := u_8
      have hP : va_P D vwCl [(aD, .inr (0, [.int qli, .int (nI qtp), .int qlw, .int qod, .int (nI qnc), .int (nI qnr), .int (nI qno), .int (nI qna), .int qdr, .int qlo, .ref qr0, .ref qr1, .ref qr2, .ref qr3, .ref qr4])), (qr1, .inl (cs 1, 25, .inl qf1)), (aR, .inr (4, [.ref aT, .ref aD, .int rt1_8, .int (nI rs1_8), .int (nI ra1_8), .int rn1_8, .int rp, .int rk, .int rf])), (aT, .inr (7, [.ref tb, .int (nI nt)])), (tb, .inl (cs 0, 400, .inl ft))] H := hP
      have hD : va_D A [(aD, .inr (0, [.int qli, .int (nI qtp), .int qlw, .int qod, .int (nI qnc), .int (nI qnr), .int (nI qno), .int (nI qna), .int qdr, .int qlo, .ref qr0, .ref qr1, .ref qr2, .ref qr3, .ref qr4])), (qr1, .inl (cs 1, 25, .inl qf1)), (aR, .inr (4, [.ref aT, .ref aD, .int rt1_8, .int (nI rs1_8), .int (nI ra1_8), .int rn1_8, .int rp, .int rk, .int rf])), (aT, .inr (7, [.ref tb, .int (nI nt)])), (tb, .inl (cs 0, 400, .inl ft))] := hD
      replace hq_8 : (rs1_8 ≤ ra1_8) ∧ (ra1_8 ≤ nt) := hq_8
      obtain ⟨hp_8_0, hp_8_1⟩ := hq_8
      refine lv_aload_n hx hb dX4_readRule_41 rfl (lv_at hl 1 rfl) ?_
      refine lv_iload_n hx hb dX4_readRule_42 rfl (lv_at hl 0 rfl) ?_
      refine lv_iload_n hx hb dX4_readRule_43 rfl (lv_at hl 0 rfl) ?_
      refine aft_r (wr := [(aD, .inr (0, [.int qli, .int (nI qtp), .int qlw, .int qod, .int (nI qnc), .int (nI qnr), .int (nI qno), .int (nI qna), .int qdr, .int qlo, .ref qr0, .ref qr1, .ref qr2, .ref qr3, .ref qr4])), (qr1, .inl (cs 1, 25, .inl qf1)), (aR, .inr (4, [.ref aT, .ref aD, .int rt1_8, .int (nI rs1_8), .int (nI ra1_8), .int rn1_8, .int rp, .int rk, .int rf])), (aT, .inr (7, [.ref tb, .int (nI nt)])), (tb, .inl (cs 0, 400, .inl ft))]) hP hD hS hA [] [0, 1, 2, 3, 4] rfl rfl (by decide) (by decide) (run_sS (As := [.int 1]) (rest := [.int 1, .ref aR]) hFix hK hE hV hP hD hS hA [] (k_X4_ruleShape l D cs _ aK aV 1) (va_cwS 1 hts gc_X4_readRule_120_X4_ruleShape rfl rfl rfl (by decide +kernel) ⟨Nat.le_of_ble_eq_true rfl, Nat.le_of_ble_eq_true rfl⟩) rfl (by decide) rfl hl.1 rfl (Nat.le_of_ble_eq_true rfl) dX4_readRule_44 ⟨Nat.le_of_ble_eq_true rfl, Nat.le_of_ble_eq_true rfl⟩) (fun u_9 H locs hq_9 hP hD hS => ?_)
      obtain ⟨w9_9, rfl⟩ : ∃ z, z = u_9 := ⟨_, rfl⟩
      have hP : va_P D vwCl [(aD, .inr (0, [.int qli, .int (nI qtp), .int qlw, .int qod, .int (nI qnc), .int (nI qnr), .int (nI qno), .int (nI qna), .int qdr, .int qlo, .ref qr0, .ref qr1, .ref qr2, .ref qr3, .ref qr4])), (qr1, .inl (cs 1, 25, .inl qf1)), (aR, .inr (4, [.ref aT, .ref aD, .int rt1_8, .int (nI rs1_8), .int (nI ra1_8), .int rn1_8, .int rp, .int rk, .int rf])), (aT, .inr (7, [.ref tb, .int (nI nt)])), (tb, .inl (cs 0, 400, .inl ft))] H := hP
      have hD : va_D A [(aD, .inr (0, [.int qli, .int (nI qtp), .int qlw, .int qod, .int (nI qnc), .int (nI qnr), .int (nI qno), .int (nI qna), .int qdr, .int qlo, .ref qr0, .ref qr1, .ref qr2, .ref qr3, .ref qr4])), (qr1, .inl (cs 1, 25, .inl qf1)), (aR, .inr (4, [.ref aT, .ref aD, .int rt1_8, .int (nI rs1_8), .int (nI ra1_8), .int rn1_8, .int rp, .int rk, .int rf])), (aT, .inr (7, [.ref tb, .int (nI nt)])), (tb, .inl (cs 0, 400, .inl ft))] := hD
      replace hq_9 : (w9_9 < nJS) := hq_9
      have hp_9_0 := hq_9
      refine lv_aload_n hx hb dX4_readRule_47 rfl (lv_at hl 1 rfl) ?_
      refine va_get (D := D) (ci := 4) (v := .ref aD) (C := RX4) (T := TX4) (N := 9) hx hb hts iuX4_readRule_X4 hown hK hP 2 rfl rfl 1 (by decide) (htw (.fieldLink RX4 37 "MergeJudge$Reader" "draft" "LMergeJudge$Base;") (List.mem_of_getElem? (i := 0) rfl)) (fun _ h9 => h9) rfl dX4_readRule_48 ?_
      refine va_get (D := D) (ci := 0) (v := .ref qr1) (C := RX0) (T := TX0) (N := 15) hx hb hts iuX4_readRule_X0 hown hK hP 0 rfl rfl 11 (by decide) (htw (.fieldLink RX4 124 "MergeJudge$Base" "ruleRows" "[I") (List.mem_of_getElem? (i := 14) rfl)) (fun _ h9 => h9) rfl dX4_readRule_51 ?_
      refine lv_aload_n hx hb dX4_readRule_54 rfl (lv_at hl 1 rfl) ?_
      refine va_get (D := D) (ci := 4) (v := .ref aD) (C := RX4) (T := TX4) (N := 9) hx hb hts iuX4_readRule_X4 hown hK hP 2 rfl rfl 1 (by decide) (htw (.fieldLink RX4 37 "MergeJudge$Reader" "draft" "LMergeJudge$Base;") (List.mem_of_getElem? (i := 0) rfl)) (fun _ h9 => h9) rfl dX4_readRule_55 ?_
      refine va_get (D := D) (ci := 0) (v := .int (nI qnr)) (C := RX0) (T := TX0) (N := 15) hx hb hts iuX4_readRule_X0 hown hK hP 0 rfl rfl 5 (by decide) (htw (.fieldLink RX4 114 "MergeJudge$Base" "rules" "I") (List.mem_of_getElem? (i := 1) rfl)) (fun _ h9 => h9) rfl dX4_readRule_58 ?_
      refine lv_iconst (v := 5) hx hb dX4_readRule_61 (by decide) ?_
      refine lv_imul hx hb dX4_readRule_62 ?_
      refine cf_i (nI (qnr * 5)) (pk_mul qnr 5) ?_
      refine lv_iconst (v := 5) hx hb dX4_readRule_63 (by decide) ?_
      refine aft_i (wr := []) hP hD hS hA [2, 3, 4, 0, 1] [] rfl rfl (by decide) (by decide) (run_vS (As := [.int 1, .ref (aK w9_9), .ref qr1, .int (nI (qnr * 5)), .int 5]) (rest := []) hFix hK hE hV hP hD hS hA [2, 3, 4, 0, 1] (k_X4_passNumbers_r l D cs _ aK aV aR 1 qr1 (qnr * 5) w9_9 aT aD rt1_8 rn1_8 rp rk rf tb ft qli qlw qod qdr qlo qr0 qr2 qr3 qr4 qf1 rs1_8 ra1_8 nt qtp qnc qnr qno qna (by first | assumption | decide | omega) (by first | assumption | decide | omega) (by first | assumption | decide | omega) (by first | assumption | decide | omega) (by first | assumption | decide | omega) (by first | assumption | decide | omega) (by first | assumption | decide | omega) (by first | assumption | decide | omega) (by first | assumption | decide | omega) (by first | assumption | decide | omega)) (cwV 5 hts gc_X4_readRule_127_X4_passNumbers rfl rfl rfl (by decide +kernel) ⟨Nat.le_of_ble_eq_true rfl, Nat.le_of_ble_eq_true rfl⟩) rfl (by decide) (rcv hK hP [2, 3, 4, 0, 1] rfl rfl rfl) rfl hl.1 rfl (Nat.le_of_ble_eq_true rfl) dX4_readRule_64 ⟨Nat.le_of_ble_eq_true rfl, Nat.le_of_ble_eq_true rfl⟩) (fun r_10 u_10 H locs hq_10 hP hD hS => ?_)
      obtain ⟨rt1_10, rs1_10, ra1_10, rn1_10, rk1_10, rf1_10, qf11_10⟩ := u_10
      have hP : va_P D vwCl [(aR, .inr (4, [.ref aT, .ref aD, .int rt1_10, .int (nI rs1_10), .int (nI ra1_10), .int rn1_10, .int rp, .int rk1_10, .int rf1_10])), (aT, .inr (7, [.ref tb, .int (nI nt)])), (tb, .inl (cs 0, 400, .inl ft)), (aD, .inr (0, [.int qli, .int (nI qtp), .int qlw, .int qod, .int (nI qnc), .int (nI qnr), .int (nI qno), .int (nI qna), .int qdr, .int qlo, .ref qr0, .ref qr1, .ref qr2, .ref qr3, .ref qr4])), (qr1, .inl (cs 1, 25, .inl qf11_10))] H := hP
      have hD : va_D A [(aR, .inr (4, [.ref aT, .ref aD, .int rt1_10, .int (nI rs1_10), .int (nI ra1_10), .int rn1_10, .int rp, .int rk1_10, .int rf1_10])), (aT, .inr (7, [.ref tb, .int (nI nt)])), (tb, .inl (cs 0, 400, .inl ft)), (aD, .inr (0, [.int qli, .int (nI qtp), .int qlw, .int qod, .int (nI qnc), .int (nI qnr), .int (nI qno), .int (nI qna), .int qdr, .int qlo, .ref qr0, .ref qr1, .ref qr2, .ref qr3, .ref qr4])), (qr1, .inl (cs 1, 25, .inl qf11_10))] := hD
      replace hq_10 : (rs1_10 ≤ ra1_10) ∧ (ra1_10 ≤ nt) ∧ ((r_10 = 1 ∧ True) ∨ (r_10 = 0 ∧ True)) := hq_10
      obtain ⟨hp_10_0, hp_10_1, hq_10⟩ := hq_10
      rcases hq_10 with ⟨rfl, hq_10⟩ | ⟨rfl, hq_10⟩
      ·
        refine lv_if_ne (tgt := 72) hx hb dX4_readRule_67 (by decide) (fun _ => ?_) (fun h9 => absurd h9 (by decide))
        refine lv_aload_n hx hb dX4_readRule_72 rfl (lv_at hl 1 rfl) ?_
        refine va_get (D := D) (ci := 4) (v := .ref aD) (C := RX4) (T := TX4) (N := 9) hx hb hts iuX4_readRule_X4 hown hK hP 0 rfl rfl 1 (by decide) (htw (.fieldLink RX4 37 "MergeJudge$Reader" "draft" "LMergeJudge$Base;") (List.mem_of_getElem? (i := 0) rfl)) (fun _ h9 => h9) rfl dX4_readRule_73 ?_
        refine lv_dup hx hb dX4_readRule_76 rfl ?_
        refine va_get (D := D) (ci := 0) (v := .int (nI qnr)) (C := RX0) (T := TX0) (N := 15) hx hb hts iuX4_readRule_X0 hown hK hP 3 rfl rfl 5 (by decide) (htw (.fieldLink RX4 114 "MergeJudge$Base" "rules" "I") (List.mem_of_getElem? (i := 1) rfl)) (fun _ h9 => h9) rfl dX4_readRule_77 ?_
        refine lv_iconst (v := 1) hx hb dX4_readRule_80 (by decide) ?_
        refine lv_iadd hx hb dX4_readRule_81 ?_
        refine cf_i (nI (qnr + 1)) (nI_add qnr 1) ?_
        refine va_put (D := D) (ci := 0) (v := .int (nI (qnr + 1))) (ty := .int) (C := RX0) (T := TX0) (N := 15) hx hb hts iuX4_readRule_X0 tyX0 tyX0_ok nmX0 hown hK hP hD hS 3 rfl rfl 5 (by decide) (htw (.fieldLink RX4 114 "MergeJudge$Base" "rules" "I") (List.mem_of_getElem? (i := 1) rfl)) (fun _ h9 => h9) rfl (by decide +kernel) rfl rfl (Nat.le_of_ble_eq_true rfl) dX4_readRule_82 (fun H locs hP hD hS => ?_)
        have hP : va_P D vwCl [(aR, .inr (4, [.ref aT, .ref aD, .int rt1_10, .int (nI rs1_10), .int (nI ra1_10), .int rn1_10, .int rp, .int rk1_10, .int rf1_10])), (aT, .inr (7, [.ref tb, .int (nI nt)])), (tb, .inl (cs 0, 400, .inl ft)), (aD, .inr (0, [.int qli, .int (nI qtp), .int qlw, .int qod, .int (nI qnc), .int (nI (qnr + 1)), .int (nI qno), .int (nI qna), .int qdr, .int qlo, .ref qr0, .ref qr1, .ref qr2, .ref qr3, .ref qr4])), (qr1, .inl (cs 1, 25, .inl qf11_10))] H := hP
        have hD : va_D A [(aR, .inr (4, [.ref aT, .ref aD, .int rt1_10, .int (nI rs1_10), .int (nI ra1_10), .int rn1_10, .int rp, .int rk1_10, .int rf1_10])), (aT, .inr (7, [.ref tb, .int (nI nt)])), (tb, .inl (cs 0, 400, .inl ft)), (aD, .inr (0, [.int qli, .int (nI qtp), .int qlw, .int qod, .int (nI qnc), .int (nI (qnr + 1)), .int (nI qno), .int (nI qna), .int qdr, .int qlo, .ref qr0, .ref qr1, .ref qr2, .ref qr3, .ref qr4])), (qr1, .inl (cs 1, 25, .inl qf11_10))] := hD
        refine lv_iconst (v := 1) hx hb dX4_readRule_85 (by decide) ?_
        exact ret_z hx hb hr hlk hS (Nat.le_of_ble_eq_true rfl) (Nat.le_of_ble_eq_true rfl) (by decide) (rt1_10, rs1_10, ra1_10, rn1_10, rk1_10, rf1_10, qnr + 1, qf11_10) (⟨(by omega), (by omega), (by omega), Or.inl ⟨rfl, trivial⟩⟩) (hP.sub [0, 1, 2, 3, 4] rfl) (hD.sub [0, 1, 2, 3, 4] (by decide) rfl) dX4_readRule_86
      ·
        refine lv_if_ne (tgt := 72) hx hb dX4_readRule_67 (by decide) (fun h9 => absurd h9 (by decide)) (fun _ => ?_)
        refine lv_iconst (v := 0) hx hb dX4_readRule_70 (by decide) ?_
        exact ret_z hx hb hr hlk hS (Nat.le_of_ble_eq_true rfl) (Nat.le_of_ble_eq_true rfl) (by decide) (rt1_10, rs1_10, ra1_10, rn1_10, rk1_10, rf1_10, qnr, qf11_10) (⟨(by omega), (by omega), (by omega), Or.inr (⟨rfl, trivial⟩)⟩) (hP.sub [0, 1, 2, 3, 4] rfl) (hD.sub [0, 1, 2, 3, 4] (by decide) rfl) dX4_readRule_71
    ·
      refine lv_istore_n (lv' := [(1, .int 2), (0, .ref aR)]) hx hb dX4_readRule_25 rfl hl (by decide) rfl (fun ls hl => ?_)
      refine lv_iload_n hx hb dX4_readRule_26 rfl (lv_at hl 0 rfl) ?_
      refine lv_iconst (v := (-1)) hx hb dX4_readRule_27 (by decide) ?_
      refine lv_icmp_ne (tgt := 37) hx hb dX4_readRule_28 (by decide) (fun _ => ?_) (fun h9 => absurd h9 (by decide))
      refine lv_aload_n hx hb dX4_readRule_37 rfl (lv_at hl 1 rfl) ?_
      refine aft_v (wr := [(aD, .inr (0, [.int qli, .int (nI qtp), .int qlw, .int qod, .int (nI qnc), .int (nI qnr), .int (nI qno), .int (nI qna), .int qdr, .int qlo, .ref qr0, .ref qr1, .ref qr2, .ref qr3, .ref qr4])), (qr1, .inl (cs 1, 25, .inl qf1))]) hP hD hS hA [2, 3, 4] [0, 1] rfl rfl (by decide) (by decide) (run_v (As := []) (rest := []) hFix hK hE hP hD [2, 3, 4] (k_X4_next l D cs _ aR aT aD rt1_2 rn1_2 rp rk rf tb ft rs1_2 ra1_2 nt (by first | assumption | decide | omega) (by first | assumption | decide | omega)) (cwV 0 hts gc_X4_readRule_46_X4_next rfl rfl rfl (by decide +kernel) ⟨Nat.le_of_ble_eq_true rfl, Nat.le_of_ble_eq_true rfl⟩) rfl (by decide) rfl rfl rfl hl.1 rfl (Nat.le_of_ble_eq_true rfl) dX4_readRule_38 ⟨Nat.le_of_ble_eq_true rfl, Nat.le_of_ble_eq_true rfl⟩) (fun u_11 H locs hq_11 hP hD hS => ?_)
      obtain ⟨rt1_11, rs1_11, ra1_11, rn1_11⟩ := u_11
      have hP : va_P D vwCl [(aD, .inr (0, [.int qli, .int (nI qtp), .int qlw, .int qod, .int (nI qnc), .int (nI qnr), .int (nI qno), .int (nI qna), .int qdr, .int qlo, .ref qr0, .ref qr1, .ref qr2, .ref qr3, .ref qr4])), (qr1, .inl (cs 1, 25, .inl qf1)), (aR, .inr (4, [.ref aT, .ref aD, .int rt1_11, .int (nI rs1_11), .int (nI ra1_11), .int rn1_11, .int rp, .int rk, .int rf])), (aT, .inr (7, [.ref tb, .int (nI nt)])), (tb, .inl (cs 0, 400, .inl ft))] H := hP
      have hD : va_D A [(aD, .inr (0, [.int qli, .int (nI qtp), .int qlw, .int qod, .int (nI qnc), .int (nI qnr), .int (nI qno), .int (nI qna), .int qdr, .int qlo, .ref qr0, .ref qr1, .ref qr2, .ref qr3, .ref qr4])), (qr1, .inl (cs 1, 25, .inl qf1)), (aR, .inr (4, [.ref aT, .ref aD, .int rt1_11, .int (nI rs1_11), .int (nI ra1_11), .int rn1_11, .int rp, .int rk, .int rf])), (aT, .inr (7, [.ref tb, .int (nI nt)])), (tb, .inl (cs 0, 400, .inl ft))] := hD
      replace hq_11 : (rs1_11 ≤ ra1_11) ∧ (ra1_11 ≤ nt) := hq_11
      obtain ⟨hp_11_0, hp_11_1⟩ := hq_11
      refine lv_aload_n hx hb dX4_readRule_41 rfl (lv_at hl 1 rfl) ?_
      refine lv_iload_n hx hb dX4_readRule_42 rfl (lv_at hl 0 rfl) ?_
      refine lv_iload_n hx hb dX4_readRule_43 rfl (lv_at hl 0 rfl) ?_
      refine aft_r (wr := [(aD, .inr (0, [.int qli, .int (nI qtp), .int qlw, .int qod, .int (nI qnc), .int (nI qnr), .int (nI qno), .int (nI qna), .int qdr, .int qlo, .ref qr0, .ref qr1, .ref qr2, .ref qr3, .ref qr4])), (qr1, .inl (cs 1, 25, .inl qf1)), (aR, .inr (4, [.ref aT, .ref aD, .int rt1_11, .int (nI rs1_11), .int (nI ra1_11), .int rn1_11, .int rp, .int rk, .int rf])), (aT, .inr (7, [.ref tb, .int (nI nt)])), (tb, .inl (cs 0, 400, .inl ft))]) hP hD hS hA [] [0, 1, 2, 3, 4] rfl rfl (by decide) (by decide) (run_sS (As := [.int 2]) (rest := [.int 2, .ref aR]) hFix hK hE hV hP hD hS hA [] (k_X4_ruleShape l D cs _ aK aV 2) (va_cwS 1 hts gc_X4_readRule_120_X4_ruleShape rfl rfl rfl (by decide +kernel) ⟨Nat.le_of_ble_eq_true rfl, Nat.le_of_ble_eq_true rfl⟩) rfl (by decide) rfl hl.1 rfl (Nat.le_of_ble_eq_true rfl) dX4_readRule_44 ⟨Nat.le_of_ble_eq_true rfl, Nat.le_of_ble_eq_true rfl⟩) (fun u_12 H locs hq_12 hP hD hS => ?_)
      obtain ⟨w9_12, rfl⟩ : ∃ z, z = u_12 := ⟨_, rfl⟩
      have hP : va_P D vwCl [(aD, .inr (0, [.int qli, .int (nI qtp), .int qlw, .int qod, .int (nI qnc), .int (nI qnr), .int (nI qno), .int (nI qna), .int qdr, .int qlo, .ref qr0, .ref qr1, .ref qr2, .ref qr3, .ref qr4])), (qr1, .inl (cs 1, 25, .inl qf1)), (aR, .inr (4, [.ref aT, .ref aD, .int rt1_11, .int (nI rs1_11), .int (nI ra1_11), .int rn1_11, .int rp, .int rk, .int rf])), (aT, .inr (7, [.ref tb, .int (nI nt)])), (tb, .inl (cs 0, 400, .inl ft))] H := hP
      have hD : va_D A [(aD, .inr (0, [.int qli, .int (nI qtp), .int qlw, .int qod, .int (nI qnc), .int (nI qnr), .int (nI qno), .int (nI qna), .int qdr, .int qlo, .ref qr0, .ref qr1, .ref qr2, .ref qr3, .ref qr4])), (qr1, .inl (cs 1, 25, .inl qf1)), (aR, .inr (4, [.ref aT, .ref aD, .int rt1_11, .int (nI rs1_11), .int (nI ra1_11), .int rn1_11, .int rp, .int rk, .int rf])), (aT, .inr (7, [.ref tb, .int (nI nt)])), (tb, .inl (cs 0, 400, .inl ft))] := hD
      replace hq_12 : (w9_12 < nJS) := hq_12
      have hp_12_0 := hq_12
      refine lv_aload_n hx hb dX4_readRule_47 rfl (lv_at hl 1 rfl) ?_
      refine va_get (D := D) (ci := 4) (v := .ref aD) (C := RX4) (T := TX4) (N := 9) hx hb hts iuX4_readRule_X4 hown hK hP 2 rfl rfl 1 (by decide) (htw (.fieldLink RX4 37 "MergeJudge$Reader" "draft" "LMergeJudge$Base;") (List.mem_of_getElem? (i := 0) rfl)) (fun _ h9 => h9) rfl dX4_readRule_48 ?_
      refine va_get (D := D) (ci := 0) (v := .ref qr1) (C := RX0) (T := TX0) (N := 15) hx hb hts iuX4_readRule_X0 hown hK hP 0 rfl rfl 11 (by decide) (htw (.fieldLink RX4 124 "MergeJudge$Base" "ruleRows" "[I") (List.mem_of_getElem? (i := 14) rfl)) (fun _ h9 => h9) rfl dX4_readRule_51 ?_
      refine lv_aload_n hx hb dX4_readRule_54 rfl (lv_at hl 1 rfl) ?_
      refine va_get (D := D) (ci := 4) (v := .ref aD) (C := RX4) (T := TX4) (N := 9) hx hb hts iuX4_readRule_X4 hown hK hP 2 rfl rfl 1 (by decide) (htw (.fieldLink RX4 37 "MergeJudge$Reader" "draft" "LMergeJudge$Base;") (List.mem_of_getElem? (i := 0) rfl)) (fun _ h9 => h9) rfl dX4_readRule_55 ?_
      refine va_get (D := D) (ci := 0) (v := .int (nI qnr)) (C := RX0) (T := TX0) (N := 15) hx hb hts iuX4_readRule_X0 hown hK hP 0 rfl rfl 5 (by decide) (htw (.fieldLink RX4 114 "MergeJudge$Base" "rules" "I") (List.mem_of_getElem? (i := 1) rfl)) (fun _ h9 => h9) rfl dX4_readRule_58 ?_
      refine lv_iconst (v := 5) hx hb dX4_readRule_61 (by decide) ?_
      refine lv_imul hx hb dX4_readRule_62 ?_
      refine cf_i (nI (qnr * 5)) (pk_mul qnr 5) ?_
      refine lv_iconst (v := 5) hx hb dX4_readRule_63 (by decide) ?_
      refine aft_i (wr := []) hP hD hS hA [2, 3, 4, 0, 1] [] rfl rfl (by decide) (by decide) (run_vS (As := [.int 2, .ref (aK w9_12), .ref qr1, .int (nI (qnr * 5)), .int 5]) (rest := []) hFix hK hE hV hP hD hS hA [2, 3, 4, 0, 1] (k_X4_passNumbers_r l D cs _ aK aV aR 2 qr1 (qnr * 5) w9_12 aT aD rt1_11 rn1_11 rp rk rf tb ft qli qlw qod qdr qlo qr0 qr2 qr3 qr4 qf1 rs1_11 ra1_11 nt qtp qnc qnr qno qna (by first | assumption | decide | omega) (by first | assumption | decide | omega) (by first | assumption | decide | omega) (by first | assumption | decide | omega) (by first | assumption | decide | omega) (by first | assumption | decide | omega) (by first | assumption | decide | omega) (by first | assumption | decide | omega) (by first | assumption | decide | omega) (by first | assumption | decide | omega)) (cwV 5 hts gc_X4_readRule_127_X4_passNumbers rfl rfl rfl (by decide +kernel) ⟨Nat.le_of_ble_eq_true rfl, Nat.le_of_ble_eq_true rfl⟩) rfl (by decide) (rcv hK hP [2, 3, 4, 0, 1] rfl rfl rfl) rfl hl.1 rfl (Nat.le_of_ble_eq_true rfl) dX4_readRule_64 ⟨Nat.le_of_ble_eq_true rfl, Nat.le_of_ble_eq_true rfl⟩) (fun r_13 u_13 H locs hq_13 hP hD hS => ?_)
      obtain ⟨rt1_13, rs1_13, ra1_13, rn1_13, rk1_13, rf1_13, qf11_13⟩ := u_13
      have hP : va_P D vwCl [(aR, .inr (4, [.ref aT, .ref aD, .int rt1_13, .int (nI rs1_13), .int (nI ra1_13), .int rn1_13, .int rp, .int rk1_13, .int rf1_13])), (aT, .inr (7, [.ref tb, .int (nI nt)])), (tb, .inl (cs 0, 400, .inl ft)), (aD, .inr (0, [.int qli, .int (nI qtp), .int qlw, .int qod, .int (nI qnc), .int (nI qnr), .int (nI qno), .int (nI qna), .int qdr, .int qlo, .ref qr0, .ref qr1, .ref qr2, .ref qr3, .ref qr4])), (qr1, .inl (cs 1, 25, .inl qf11_13))] H := hP
      have hD : va_D A [(aR, .inr (4, [.ref aT, .ref aD, .int rt1_13, .int (nI rs1_13), .int (nI ra1_13), .int rn1_13, .int rp, .int rk1_13, .int rf1_13])), (aT, .inr (7, [.ref tb, .int (nI nt)])), (tb, .inl (cs 0, 400, .inl ft)), (aD, .inr (0, [.int qli, .int (nI qtp), .int qlw, .int qod, .int (nI qnc), .int (nI qnr), .int (nI qno), .int (nI qna), .int qdr, .int qlo, .ref qr0, .ref qr1, .ref qr2, .ref qr3, .ref qr4])), (qr1, .inl (cs 1, 25, .inl qf11_13))] := hD
      replace hq_13 : (rs1_13 ≤ ra1_13) ∧ (ra1_13 ≤ nt) ∧ ((r_13 = 1 ∧ True) ∨ (r_13 = 0 ∧ True)) := hq_13
      obtain ⟨hp_13_0, hp_13_1, hq_13⟩ := hq_13
      rcases hq_13 with ⟨rfl, hq_13⟩ | ⟨rfl, hq_13⟩
      ·
        refine lv_if_ne (tgt := 72) hx hb dX4_readRule_67 (by decide) (fun _ => ?_) (fun h9 => absurd h9 (by decide))
        refine lv_aload_n hx hb dX4_readRule_72 rfl (lv_at hl 1 rfl) ?_
        refine va_get (D := D) (ci := 4) (v := .ref aD) (C := RX4) (T := TX4) (N := 9) hx hb hts iuX4_readRule_X4 hown hK hP 0 rfl rfl 1 (by decide) (htw (.fieldLink RX4 37 "MergeJudge$Reader" "draft" "LMergeJudge$Base;") (List.mem_of_getElem? (i := 0) rfl)) (fun _ h9 => h9) rfl dX4_readRule_73 ?_
        refine lv_dup hx hb dX4_readRule_76 rfl ?_
        refine va_get (D := D) (ci := 0) (v := .int (nI qnr)) (C := RX0) (T := TX0) (N := 15) hx hb hts iuX4_readRule_X0 hown hK hP 3 rfl rfl 5 (by decide) (htw (.fieldLink RX4 114 "MergeJudge$Base" "rules" "I") (List.mem_of_getElem? (i := 1) rfl)) (fun _ h9 => h9) rfl dX4_readRule_77 ?_
        refine lv_iconst (v := 1) hx hb dX4_readRule_80 (by decide) ?_
        refine lv_iadd hx hb dX4_readRule_81 ?_
        refine cf_i (nI (qnr + 1)) (nI_add qnr 1) ?_
        refine va_put (D := D) (ci := 0) (v := .int (nI (qnr + 1))) (ty := .int) (C := RX0) (T := TX0) (N := 15) hx hb hts iuX4_readRule_X0 tyX0 tyX0_ok nmX0 hown hK hP hD hS 3 rfl rfl 5 (by decide) (htw (.fieldLink RX4 114 "MergeJudge$Base" "rules" "I") (List.mem_of_getElem? (i := 1) rfl)) (fun _ h9 => h9) rfl (by decide +kernel) rfl rfl (Nat.le_of_ble_eq_true rfl) dX4_readRule_82 (fun H locs hP hD hS => ?_)
        have hP : va_P D vwCl [(aR, .inr (4, [.ref aT, .ref aD, .int rt1_13, .int (nI rs1_13), .int (nI ra1_13), .int rn1_13, .int rp, .int rk1_13, .int rf1_13])), (aT, .inr (7, [.ref tb, .int (nI nt)])), (tb, .inl (cs 0, 400, .inl ft)), (aD, .inr (0, [.int qli, .int (nI qtp), .int qlw, .int qod, .int (nI qnc), .int (nI (qnr + 1)), .int (nI qno), .int (nI qna), .int qdr, .int qlo, .ref qr0, .ref qr1, .ref qr2, .ref qr3, .ref qr4])), (qr1, .inl (cs 1, 25, .inl qf11_13))] H := hP
        have hD : va_D A [(aR, .inr (4, [.ref aT, .ref aD, .int rt1_13, .int (nI rs1_13), .int (nI ra1_13), .int rn1_13, .int rp, .int rk1_13, .int rf1_13])), (aT, .inr (7, [.ref tb, .int (nI nt)])), (tb, .inl (cs 0, 400, .inl ft)), (aD, .inr (0, [.int qli, .int (nI qtp), .int qlw, .int qod, .int (nI qnc), .int (nI (qnr + 1)), .int (nI qno), .int (nI qna), .int qdr, .int qlo, .ref qr0, .ref qr1, .ref qr2, .ref qr3, .ref qr4])), (qr1, .inl (cs 1, 25, .inl qf11_13))] := hD
        refine lv_iconst (v := 1) hx hb dX4_readRule_85 (by decide) ?_
        exact ret_z hx hb hr hlk hS (Nat.le_of_ble_eq_true rfl) (Nat.le_of_ble_eq_true rfl) (by decide) (rt1_13, rs1_13, ra1_13, rn1_13, rk1_13, rf1_13, qnr + 1, qf11_13) (⟨(by omega), (by omega), (by omega), Or.inl ⟨rfl, trivial⟩⟩) (hP.sub [0, 1, 2, 3, 4] rfl) (hD.sub [0, 1, 2, 3, 4] (by decide) rfl) dX4_readRule_86
      ·
        refine lv_if_ne (tgt := 72) hx hb dX4_readRule_67 (by decide) (fun h9 => absurd h9 (by decide)) (fun _ => ?_)
        refine lv_iconst (v := 0) hx hb dX4_readRule_70 (by decide) ?_
        exact ret_z hx hb hr hlk hS (Nat.le_of_ble_eq_true rfl) (Nat.le_of_ble_eq_true rfl) (by decide) (rt1_13, rs1_13, ra1_13, rn1_13, rk1_13, rf1_13, qnr, qf11_13) (⟨(by omega), (by omega), (by omega), Or.inr (⟨rfl, trivial⟩)⟩) (hP.sub [0, 1, 2, 3, 4] rfl) (hD.sub [0, 1, 2, 3, 4] (by decide) rfl) dX4_readRule_71
    ·
      refine lv_istore_n (lv' := [(1, .int 3), (0, .ref aR)]) hx hb dX4_readRule_25 rfl hl (by decide) rfl (fun ls hl => ?_)
      refine lv_iload_n hx hb dX4_readRule_26 rfl (lv_at hl 0 rfl) ?_
      refine lv_iconst (v := (-1)) hx hb dX4_readRule_27 (by decide) ?_
      refine lv_icmp_ne (tgt := 37) hx hb dX4_readRule_28 (by decide) (fun _ => ?_) (fun h9 => absurd h9 (by decide))
      refine lv_aload_n hx hb dX4_readRule_37 rfl (lv_at hl 1 rfl) ?_
      refine aft_v (wr := [(aD, .inr (0, [.int qli, .int (nI qtp), .int qlw, .int qod, .int (nI qnc), .int (nI qnr), .int (nI qno), .int (nI qna), .int qdr, .int qlo, .ref qr0, .ref qr1, .ref qr2, .ref qr3, .ref qr4])), (qr1, .inl (cs 1, 25, .inl qf1))]) hP hD hS hA [2, 3, 4] [0, 1] rfl rfl (by decide) (by decide) (run_v (As := []) (rest := []) hFix hK hE hP hD [2, 3, 4] (k_X4_next l D cs _ aR aT aD rt1_2 rn1_2 rp rk rf tb ft rs1_2 ra1_2 nt (by first | assumption | decide | omega) (by first | assumption | decide | omega)) (cwV 0 hts gc_X4_readRule_46_X4_next rfl rfl rfl (by decide +kernel) ⟨Nat.le_of_ble_eq_true rfl, Nat.le_of_ble_eq_true rfl⟩) rfl (by decide) rfl rfl rfl hl.1 rfl (Nat.le_of_ble_eq_true rfl) dX4_readRule_38 ⟨Nat.le_of_ble_eq_true rfl, Nat.le_of_ble_eq_true rfl⟩) (fun u_14 H locs hq_14 hP hD hS => ?_)
      obtain ⟨rt1_14, rs1_14, ra1_14, rn1_14⟩ := u_14
      have hP : va_P D vwCl [(aD, .inr (0, [.int qli, .int (nI qtp), .int qlw, .int qod, .int (nI qnc), .int (nI qnr), .int (nI qno), .int (nI qna), .int qdr, .int qlo, .ref qr0, .ref qr1, .ref qr2, .ref qr3, .ref qr4])), (qr1, .inl (cs 1, 25, .inl qf1)), (aR, .inr (4, [.ref aT, .ref aD, .int rt1_14, .int (nI rs1_14), .int (nI ra1_14), .int rn1_14, .int rp, .int rk, .int rf])), (aT, .inr (7, [.ref tb, .int (nI nt)])), (tb, .inl (cs 0, 400, .inl ft))] H := hP
      have hD : va_D A [(aD, .inr (0, [.int qli, .int (nI qtp), .int qlw, .int qod, .int (nI qnc), .int (nI qnr), .int (nI qno), .int (nI qna), .int qdr, .int qlo, .ref qr0, .ref qr1, .ref qr2, .ref qr3, .ref qr4])), (qr1, .inl (cs 1, 25, .inl qf1)), (aR, .inr (4, [.ref aT, .ref aD, .int rt1_14, .int (nI rs1_14), .int (nI ra1_14), .int rn1_14, .int rp, .int rk, .int rf])), (aT, .inr (7, [.ref tb, .int (nI nt)])), (tb, .inl (cs 0, 400, .inl ft))] := hD
      replace hq_14 : (rs1_14 ≤ ra1_14) ∧ (ra1_14 ≤ nt) := hq_14
      obtain ⟨hp_14_0, hp_14_1⟩ := hq_14
      refine lv_aload_n hx hb dX4_readRule_41 rfl (lv_at hl 1 rfl) ?_
      refine lv_iload_n hx hb dX4_readRule_42 rfl (lv_at hl 0 rfl) ?_
      refine lv_iload_n hx hb dX4_readRule_43 rfl (lv_at hl 0 rfl) ?_
      refine aft_r (wr := [(aD, .inr (0, [.int qli, .int (nI qtp), .int qlw, .int qod, .int (nI qnc), .int (nI qnr), .int (nI qno), .int (nI qna), .int qdr, .int qlo, .ref qr0, .ref qr1, .ref qr2, .ref qr3, .ref qr4])), (qr1, .inl (cs 1, 25, .inl qf1)), (aR, .inr (4, [.ref aT, .ref aD, .int rt1_14, .int (nI rs1_14), .int (nI ra1_14), .int rn1_14, .int rp, .int rk, .int rf])), (aT, .inr (7, [.ref tb, .int (nI nt)])), (tb, .inl (cs 0, 400, .inl ft))]) hP hD hS hA [] [0, 1, 2, 3, 4] rfl rfl (by decide) (by decide) (run_sS (As := [.int 3]) (rest := [.int 3, .ref aR]) hFix hK hE hV hP hD hS hA [] (k_X4_ruleShape l D cs _ aK aV 3) (va_cwS 1 hts gc_X4_readRule_120_X4_ruleShape rfl rfl rfl (by decide +kernel) ⟨Nat.le_of_ble_eq_true rfl, Nat.le_of_ble_eq_true rfl⟩) rfl (by decide) rfl hl.1 rfl (Nat.le_of_ble_eq_true rfl) dX4_readRule_44 ⟨Nat.le_of_ble_eq_true rfl, Nat.le_of_ble_eq_true rfl⟩) (fun u_15 H locs hq_15 hP hD hS => ?_)
      obtain ⟨w9_15, rfl⟩ : ∃ z, z = u_15 := ⟨_, rfl⟩
      have hP : va_P D vwCl [(aD, .inr (0, [.int qli, .int (nI qtp), .int qlw, .int qod, .int (nI qnc), .int (nI qnr), .int (nI qno), .int (nI qna), .int qdr, .int qlo, .ref qr0, .ref qr1, .ref qr2, .ref qr3, .ref qr4])), (qr1, .inl (cs 1, 25, .inl qf1)), (aR, .inr (4, [.ref aT, .ref aD, .int rt1_14, .int (nI rs1_14), .int (nI ra1_14), .int rn1_14, .int rp, .int rk, .int rf])), (aT, .inr (7, [.ref tb, .int (nI nt)])), (tb, .inl (cs 0, 400, .inl ft))] H := hP
      have hD : va_D A [(aD, .inr (0, [.int qli, .int (nI qtp), .int qlw, .int qod, .int (nI qnc), .int (nI qnr), .int (nI qno), .int (nI qna), .int qdr, .int qlo, .ref qr0, .ref qr1, .ref qr2, .ref qr3, .ref qr4])), (qr1, .inl (cs 1, 25, .inl qf1)), (aR, .inr (4, [.ref aT, .ref aD, .int rt1_14, .int (nI rs1_14), .int (nI ra1_14), .int rn1_14, .int rp, .int rk, .int rf])), (aT, .inr (7, [.ref tb, .int (nI nt)])), (tb, .inl (cs 0, 400, .inl ft))] := hD
      replace hq_15 : (w9_15 < nJS) := hq_15
      have hp_15_0 := hq_15
      refine lv_aload_n hx hb dX4_readRule_47 rfl (lv_at hl 1 rfl) ?_
      refine va_get (D := D) (ci := 4) (v := .ref aD) (C := RX4) (T := TX4) (N := 9) hx hb hts iuX4_readRule_X4 hown hK hP 2 rfl rfl 1 (by decide) (htw (.fieldLink RX4 37 "MergeJudge$Reader" "draft" "LMergeJudge$Base;") (List.mem_of_getElem? (i := 0) rfl)) (fun _ h9 => h9) rfl dX4_readRule_48 ?_
      refine va_get (D := D) (ci := 0) (v := .ref qr1) (C := RX0) (T := TX0) (N := 15) hx hb hts iuX4_readRule_X0 hown hK hP 0 rfl rfl 11 (by decide) (htw (.fieldLink RX4 124 "MergeJudge$Base" "ruleRows" "[I") (List.mem_of_getElem? (i := 14) rfl)) (fun _ h9 => h9) rfl dX4_readRule_51 ?_
      refine lv_aload_n hx hb dX4_readRule_54 rfl (lv_at hl 1 rfl) ?_
      refine va_get (D := D) (ci := 4) (v := .ref aD) (C := RX4) (T := TX4) (N := 9) hx hb hts iuX4_readRule_X4 hown hK hP 2 rfl rfl 1 (by decide) (htw (.fieldLink RX4 37 "MergeJudge$Reader" "draft" "LMergeJudge$Base;") (List.mem_of_getElem? (i := 0) rfl)) (fun _ h9 => h9) rfl dX4_readRule_55 ?_
      refine va_get (D := D) (ci := 0) (v := .int (nI qnr)) (C := RX0) (T := TX0) (N := 15) hx hb hts iuX4_readRule_X0 hown hK hP 0 rfl rfl 5 (by decide) (htw (.fieldLink RX4 114 "MergeJudge$Base" "rules" "I") (List.mem_of_getElem? (i := 1) rfl)) (fun _ h9 => h9) rfl dX4_readRule_58 ?_
      refine lv_iconst (v := 5) hx hb dX4_readRule_61 (by decide) ?_
      refine lv_imul hx hb dX4_readRule_62 ?_
      refine cf_i (nI (qnr * 5)) (pk_mul qnr 5) ?_
      refine lv_iconst (v := 5) hx hb dX4_readRule_63 (by decide) ?_
      refine aft_i (wr := []) hP hD hS hA [2, 3, 4, 0, 1] [] rfl rfl (by decide) (by decide) (run_vS (As := [.int 3, .ref (aK w9_15), .ref qr1, .int (nI (qnr * 5)), .int 5]) (rest := []) hFix hK hE hV hP hD hS hA [2, 3, 4, 0, 1] (k_X4_passNumbers_r l D cs _ aK aV aR 3 qr1 (qnr * 5) w9_15 aT aD rt1_14 rn1_14 rp rk rf tb ft qli qlw qod qdr qlo qr0 qr2 qr3 qr4 qf1 rs1_14 ra1_14 nt qtp qnc qnr qno qna (by first | assumption | decide | omega) (by first | assumption | decide | omega) (by first | assumption | decide | omega) (by first | assumption | decide | omega) (by first | assumption | decide | omega) (by first | assumption | decide | omega) (by first | assumption | decide | omega) (by first | assumption | decide | omega) (by first | assumption | decide | omega) (by first | assumption | decide | omega)) (cwV 5 hts gc_X4_readRule_127_X4_passNumbers rfl rfl rfl (by decide +kernel) ⟨Nat.le_of_ble_eq_true rfl, Nat.le_of_ble_eq_true rfl⟩) rfl (by decide) (rcv hK hP [2, 3, 4, 0, 1] rfl rfl rfl) rfl hl.1 rfl (Nat.le_of_ble_eq_true rfl) dX4_readRule_64 ⟨Nat.le_of_ble_eq_true rfl, Nat.le_of_ble_eq_true rfl⟩) (fun r_16 u_16 H locs hq_16 hP hD hS => ?_)
      obtain ⟨rt1_16, rs1_16, ra1_16, rn1_16, rk1_16, rf1_16, qf11_16⟩ := u_16
      have hP : va_P D vwCl [(aR, .inr (4, [.ref aT, .ref aD, .int rt1_16, .int (nI rs1_16), .int (nI ra1_16), .int rn1_16, .int rp, .int rk1_16, .int rf1_16])), (aT, .inr (7, [.ref tb, .int (nI nt)])), (tb, .inl (cs 0, 400, .inl ft)), (aD, .inr (0, [.int qli, .int (nI qtp), .int qlw, .int qod, .int (nI qnc), .int (nI qnr), .int (nI qno), .int (nI qna), .int qdr, .int qlo, .ref qr0, .ref qr1, .ref qr2, .ref qr3, .ref qr4])), (qr1, .inl (cs 1, 25, .inl qf11_16))] H := hP
      have hD : va_D A [(aR, .inr (4, [.ref aT, .ref aD, .int rt1_16, .int (nI rs1_16), .int (nI ra1_16), .int rn1_16, .int rp, .int rk1_16, .int rf1_16])), (aT, .inr (7, [.ref tb, .int (nI nt)])), (tb, .inl (cs 0, 400, .inl ft)), (aD, .inr (0, [.int qli, .int (nI qtp), .int qlw, .int qod, .int (nI qnc), .int (nI qnr), .int (nI qno), .int (nI qna), .int qdr, .int qlo, .ref qr0, .ref qr1, .ref qr2, .ref qr3, .ref qr4])), (qr1, .inl (cs 1, 25, .inl qf11_16))] := hD
      replace hq_16 : (rs1_16 ≤ ra1_16) ∧ (ra1_16 ≤ nt) ∧ ((r_16 = 1 ∧ True) ∨ (r_16 = 0 ∧ True)) := hq_16
      obtain ⟨hp_16_0, hp_16_1, hq_16⟩ := hq_16
      rcases hq_16 with ⟨rfl, hq_16⟩ | ⟨rfl, hq_16⟩
      ·
        refine lv_if_ne (tgt := 72) hx hb dX4_readRule_67 (by decide) (fun _ => ?_) (fun h9 => absurd h9 (by decide))
        refine lv_aload_n hx hb dX4_readRule_72 rfl (lv_at hl 1 rfl) ?_
        refine va_get (D := D) (ci := 4) (v := .ref aD) (C := RX4) (T := TX4) (N := 9) hx hb hts iuX4_readRule_X4 hown hK hP 0 rfl rfl 1 (by decide) (htw (.fieldLink RX4 37 "MergeJudge$Reader" "draft" "LMergeJudge$Base;") (List.mem_of_getElem? (i := 0) rfl)) (fun _ h9 => h9) rfl dX4_readRule_73 ?_
        refine lv_dup hx hb dX4_readRule_76 rfl ?_
        refine va_get (D := D) (ci := 0) (v := .int (nI qnr)) (C := RX0) (T := TX0) (N := 15) hx hb hts iuX4_readRule_X0 hown hK hP 3 rfl rfl 5 (by decide) (htw (.fieldLink RX4 114 "MergeJudge$Base" "rules" "I") (List.mem_of_getElem? (i := 1) rfl)) (fun _ h9 => h9) rfl dX4_readRule_77 ?_
        refine lv_iconst (v := 1) hx hb dX4_readRule_80 (by decide) ?_
        refine lv_iadd hx hb dX4_readRule_81 ?_
        refine cf_i (nI (qnr + 1)) (nI_add qnr 1) ?_
        refine va_put (D := D) (ci := 0) (v := .int (nI (qnr + 1))) (ty := .int) (C := RX0) (T := TX0) (N := 15) hx hb hts iuX4_readRule_X0 tyX0 tyX0_ok nmX0 hown hK hP hD hS 3 rfl rfl 5 (by decide) (htw (.fieldLink RX4 114 "MergeJudge$Base" "rules" "I") (List.mem_of_getElem? (i := 1) rfl)) (fun _ h9 => h9) rfl (by decide +kernel) rfl rfl (Nat.le_of_ble_eq_true rfl) dX4_readRule_82 (fun H locs hP hD hS => ?_)
        have hP : va_P D vwCl [(aR, .inr (4, [.ref aT, .ref aD, .int rt1_16, .int (nI rs1_16), .int (nI ra1_16), .int rn1_16, .int rp, .int rk1_16, .int rf1_16])), (aT, .inr (7, [.ref tb, .int (nI nt)])), (tb, .inl (cs 0, 400, .inl ft)), (aD, .inr (0, [.int qli, .int (nI qtp), .int qlw, .int qod, .int (nI qnc), .int (nI (qnr + 1)), .int (nI qno), .int (nI qna), .int qdr, .int qlo, .ref qr0, .ref qr1, .ref qr2, .ref qr3, .ref qr4])), (qr1, .inl (cs 1, 25, .inl qf11_16))] H := hP
        have hD : va_D A [(aR, .inr (4, [.ref aT, .ref aD, .int rt1_16, .int (nI rs1_16), .int (nI ra1_16), .int rn1_16, .int rp, .int rk1_16, .int rf1_16])), (aT, .inr (7, [.ref tb, .int (nI nt)])), (tb, .inl (cs 0, 400, .inl ft)), (aD, .inr (0, [.int qli, .int (nI qtp), .int qlw, .int qod, .int (nI qnc), .int (nI (qnr + 1)), .int (nI qno), .int (nI qna), .int qdr, .int qlo, .ref qr0, .ref qr1, .ref qr2, .ref qr3, .ref qr4])), (qr1, .inl (cs 1, 25, .inl qf11_16))] := hD
        refine lv_iconst (v := 1) hx hb dX4_readRule_85 (by decide) ?_
        exact ret_z hx hb hr hlk hS (Nat.le_of_ble_eq_true rfl) (Nat.le_of_ble_eq_true rfl) (by decide) (rt1_16, rs1_16, ra1_16, rn1_16, rk1_16, rf1_16, qnr + 1, qf11_16) (⟨(by omega), (by omega), (by omega), Or.inl ⟨rfl, trivial⟩⟩) (hP.sub [0, 1, 2, 3, 4] rfl) (hD.sub [0, 1, 2, 3, 4] (by decide) rfl) dX4_readRule_86
      ·
        refine lv_if_ne (tgt := 72) hx hb dX4_readRule_67 (by decide) (fun h9 => absurd h9 (by decide)) (fun _ => ?_)
        refine lv_iconst (v := 0) hx hb dX4_readRule_70 (by decide) ?_
        exact ret_z hx hb hr hlk hS (Nat.le_of_ble_eq_true rfl) (Nat.le_of_ble_eq_true rfl) (by decide) (rt1_16, rs1_16, ra1_16, rn1_16, rk1_16, rf1_16, qnr, qf11_16) (⟨(by omega), (by omega), (by omega), Or.inr (⟨rfl, trivial⟩)⟩) (hP.sub [0, 1, 2, 3, 4] rfl) (hD.sub [0, 1, 2, 3, 4] (by decide) rfl) dX4_readRule_71
    ·
      refine lv_istore_n (lv' := [(1, .int 4), (0, .ref aR)]) hx hb dX4_readRule_25 rfl hl (by decide) rfl (fun ls hl => ?_)
      refine lv_iload_n hx hb dX4_readRule_26 rfl (lv_at hl 0 rfl) ?_
      refine lv_iconst (v := (-1)) hx hb dX4_readRule_27 (by decide) ?_
      refine lv_icmp_ne (tgt := 37) hx hb dX4_readRule_28 (by decide) (fun _ => ?_) (fun h9 => absurd h9 (by decide))
      refine lv_aload_n hx hb dX4_readRule_37 rfl (lv_at hl 1 rfl) ?_
      refine aft_v (wr := [(aD, .inr (0, [.int qli, .int (nI qtp), .int qlw, .int qod, .int (nI qnc), .int (nI qnr), .int (nI qno), .int (nI qna), .int qdr, .int qlo, .ref qr0, .ref qr1, .ref qr2, .ref qr3, .ref qr4])), (qr1, .inl (cs 1, 25, .inl qf1))]) hP hD hS hA [2, 3, 4] [0, 1] rfl rfl (by decide) (by decide) (run_v (As := []) (rest := []) hFix hK hE hP hD [2, 3, 4] (k_X4_next l D cs _ aR aT aD rt1_2 rn1_2 rp rk rf tb ft rs1_2 ra1_2 nt (by first | assumption | decide | omega) (by first | assumption | decide | omega)) (cwV 0 hts gc_X4_readRule_46_X4_next rfl rfl rfl (by decide +kernel) ⟨Nat.le_of_ble_eq_true rfl, Nat.le_of_ble_eq_true rfl⟩) rfl (by decide) rfl rfl rfl hl.1 rfl (Nat.le_of_ble_eq_true rfl) dX4_readRule_38 ⟨Nat.le_of_ble_eq_true rfl, Nat.le_of_ble_eq_true rfl⟩) (fun u_17 H locs hq_17 hP hD hS => ?_)
      obtain ⟨rt1_17, rs1_17, ra1_17, rn1_17⟩ := u_17
      have hP : va_P D vwCl [(aD, .inr (0, [.int qli, .int (nI qtp), .int qlw, .int qod, .int (nI qnc), .int (nI qnr), .int (nI qno), .int (nI qna), .int qdr, .int qlo, .ref qr0, .ref qr1, .ref qr2, .ref qr3, .ref qr4])), (qr1, .inl (cs 1, 25, .inl qf1)), (aR, .inr (4, [.ref aT, .ref aD, .int rt1_17, .int (nI rs1_17), .int (nI ra1_17), .int rn1_17, .int rp, .int rk, .int rf])), (aT, .inr (7, [.ref tb, .int (nI nt)])), (tb, .inl (cs 0, 400, .inl ft))] H := hP
      have hD : va_D A [(aD, .inr (0, [.int qli, .int (nI qtp), .int qlw, .int qod, .int (nI qnc), .int (nI qnr), .int (nI qno), .int (nI qna), .int qdr, .int qlo, .ref qr0, .ref qr1, .ref qr2, .ref qr3, .ref qr4])), (qr1, .inl (cs 1, 25, .inl qf1)), (aR, .inr (4, [.ref aT, .ref aD, .int rt1_17, .int (nI rs1_17), .int (nI ra1_17), .int rn1_17, .int rp, .int rk, .int rf])), (aT, .inr (7, [.ref tb, .int (nI nt)])), (tb, .inl (cs 0, 400, .inl ft))] := hD
      replace hq_17 : (rs1_17 ≤ ra1_17) ∧ (ra1_17 ≤ nt) := hq_17
      obtain ⟨hp_17_0, hp_17_1⟩ := hq_17
      refine lv_aload_n hx hb dX4_readRule_41 rfl (lv_at hl 1 rfl) ?_
      refine lv_iload_n hx hb dX4_readRule_42 rfl (lv_at hl 0 rfl) ?_
      refine lv_iload_n hx hb dX4_readRule_43 rfl (lv_at hl 0 rfl) ?_
      refine aft_r (wr := [(aD, .inr (0, [.int qli, .int (nI qtp), .int qlw, .int qod, .int (nI qnc), .int (nI qnr), .int (nI qno), .int (nI qna), .int qdr, .int qlo, .ref qr0, .ref qr1, .ref qr2, .ref qr3, .ref qr4])), (qr1, .inl (cs 1, 25, .inl qf1)), (aR, .inr (4, [.ref aT, .ref aD, .int rt1_17, .int (nI rs1_17), .int (nI ra1_17), .int rn1_17, .int rp, .int rk, .int rf])), (aT, .inr (7, [.ref tb, .int (nI nt)])), (tb, .inl (cs 0, 400, .inl ft))]) hP hD hS hA [] [0, 1, 2, 3, 4] rfl rfl (by decide) (by decide) (run_sS (As := [.int 4]) (rest := [.int 4, .ref aR]) hFix hK hE hV hP hD hS hA [] (k_X4_ruleShape l D cs _ aK aV 4) (va_cwS 1 hts gc_X4_readRule_120_X4_ruleShape rfl rfl rfl (by decide +kernel) ⟨Nat.le_of_ble_eq_true rfl, Nat.le_of_ble_eq_true rfl⟩) rfl (by decide) rfl hl.1 rfl (Nat.le_of_ble_eq_true rfl) dX4_readRule_44 ⟨Nat.le_of_ble_eq_true rfl, Nat.le_of_ble_eq_true rfl⟩) (fun u_18 H locs hq_18 hP hD hS => ?_)
      obtain ⟨w9_18, rfl⟩ : ∃ z, z = u_18 := ⟨_, rfl⟩
      have hP : va_P D vwCl [(aD, .inr (0, [.int qli, .int (nI qtp), .int qlw, .int qod, .int (nI qnc), .int (nI qnr), .int (nI qno), .int (nI qna), .int qdr, .int qlo, .ref qr0, .ref qr1, .ref qr2, .ref qr3, .ref qr4])), (qr1, .inl (cs 1, 25, .inl qf1)), (aR, .inr (4, [.ref aT, .ref aD, .int rt1_17, .int (nI rs1_17), .int (nI ra1_17), .int rn1_17, .int rp, .int rk, .int rf])), (aT, .inr (7, [.ref tb, .int (nI nt)])), (tb, .inl (cs 0, 400, .inl ft))] H := hP
      have hD : va_D A [(aD, .inr (0, [.int qli, .int (nI qtp), .int qlw, .int qod, .int (nI qnc), .int (nI qnr), .int (nI qno), .int (nI qna), .int qdr, .int qlo, .ref qr0, .ref qr1, .ref qr2, .ref qr3, .ref qr4])), (qr1, .inl (cs 1, 25, .inl qf1)), (aR, .inr (4, [.ref aT, .ref aD, .int rt1_17, .int (nI rs1_17), .int (nI ra1_17), .int rn1_17, .int rp, .int rk, .int rf])), (aT, .inr (7, [.ref tb, .int (nI nt)])), (tb, .inl (cs 0, 400, .inl ft))] := hD
      replace hq_18 : (w9_18 < nJS) := hq_18
      have hp_18_0 := hq_18
      refine lv_aload_n hx hb dX4_readRule_47 rfl (lv_at hl 1 rfl) ?_
      refine va_get (D := D) (ci := 4) (v := .ref aD) (C := RX4) (T := TX4) (N := 9) hx hb hts iuX4_readRule_X4 hown hK hP 2 rfl rfl 1 (by decide) (htw (.fieldLink RX4 37 "MergeJudge$Reader" "draft" "LMergeJudge$Base;") (List.mem_of_getElem? (i := 0) rfl)) (fun _ h9 => h9) rfl dX4_readRule_48 ?_
      refine va_get (D := D) (ci := 0) (v := .ref qr1) (C := RX0) (T := TX0) (N := 15) hx hb hts iuX4_readRule_X0 hown hK hP 0 rfl rfl 11 (by decide) (htw (.fieldLink RX4 124 "MergeJudge$Base" "ruleRows" "[I") (List.mem_of_getElem? (i := 14) rfl)) (fun _ h9 => h9) rfl dX4_readRule_51 ?_
      refine lv_aload_n hx hb dX4_readRule_54 rfl (lv_at hl 1 rfl) ?_
      refine va_get (D := D) (ci := 4) (v := .ref aD) (C := RX4) (T := TX4) (N := 9) hx hb hts iuX4_readRule_X4 hown hK hP 2 rfl rfl 1 (by decide) (htw (.fieldLink RX4 37 "MergeJudge$Reader" "draft" "LMergeJudge$Base;") (List.mem_of_getElem? (i := 0) rfl)) (fun _ h9 => h9) rfl dX4_readRule_55 ?_
      refine va_get (D := D) (ci := 0) (v := .int (nI qnr)) (C := RX0) (T := TX0) (N := 15) hx hb hts iuX4_readRule_X0 hown hK hP 0 rfl rfl 5 (by decide) (htw (.fieldLink RX4 114 "MergeJudge$Base" "rules" "I") (List.mem_of_getElem? (i := 1) rfl)) (fun _ h9 => h9) rfl dX4_readRule_58 ?_
      refine lv_iconst (v := 5) hx hb dX4_readRule_61 (by decide) ?_
      refine lv_imul hx hb dX4_readRule_62 ?_
      refine cf_i (nI (qnr * 5)) (pk_mul qnr 5) ?_
      refine lv_iconst (v := 5) hx hb dX4_readRule_63 (by decide) ?_
      refine aft_i (wr := []) hP hD hS hA [2, 3, 4, 0, 1] [] rfl rfl (by decide) (by decide) (run_vS (As := [.int 4, .ref (aK w9_18), .ref qr1, .int (nI (qnr * 5)), .int 5]) (rest := []) hFix hK hE hV hP hD hS hA [2, 3, 4, 0, 1] (k_X4_passNumbers_r l D cs _ aK aV aR 4 qr1 (qnr * 5) w9_18 aT aD rt1_17 rn1_17 rp rk rf tb ft qli qlw qod qdr qlo qr0 qr2 qr3 qr4 qf1 rs1_17 ra1_17 nt qtp qnc qnr qno qna (by first | assumption | decide | omega) (by first | assumption | decide | omega) (by first | assumption | decide | omega) (by first | assumption | decide | omega) (by first | assumption | decide | omega) (by first | assumption | decide | omega) (by first | assumption | decide | omega) (by first | assumption | decide | omega) (by first | assumption | decide | omega) (by first | assumption | decide | omega)) (cwV 5 hts gc_X4_readRule_127_X4_passNumbers rfl rfl rfl (by decide +kernel) ⟨Nat.le_of_ble_eq_true rfl, Nat.le_of_ble_eq_true rfl⟩) rfl (by decide) (rcv hK hP [2, 3, 4, 0, 1] rfl rfl rfl) rfl hl.1 rfl (Nat.le_of_ble_eq_true rfl) dX4_readRule_64 ⟨Nat.le_of_ble_eq_true rfl, Nat.le_of_ble_eq_true rfl⟩) (fun r_19 u_19 H locs hq_19 hP hD hS => ?_)
      obtain ⟨rt1_19, rs1_19, ra1_19, rn1_19, rk1_19, rf1_19, qf11_19⟩ := u_19
      have hP : va_P D vwCl [(aR, .inr (4, [.ref aT, .ref aD, .int rt1_19, .int (nI rs1_19), .int (nI ra1_19), .int rn1_19, .int rp, .int rk1_19, .int rf1_19])), (aT, .inr (7, [.ref tb, .int (nI nt)])), (tb, .inl (cs 0, 400, .inl ft)), (aD, .inr (0, [.int qli, .int (nI qtp), .int qlw, .int qod, .int (nI qnc), .int (nI qnr), .int (nI qno), .int (nI qna), .int qdr, .int qlo, .ref qr0, .ref qr1, .ref qr2, .ref qr3, .ref qr4])), (qr1, .inl (cs 1, 25, .inl qf11_19))] H := hP
      have hD : va_D A [(aR, .inr (4, [.ref aT, .ref aD, .int rt1_19, .int (nI rs1_19), .int (nI ra1_19), .int rn1_19, .int rp, .int rk1_19, .int rf1_19])), (aT, .inr (7, [.ref tb, .int (nI nt)])), (tb, .inl (cs 0, 400, .inl ft)), (aD, .inr (0, [.int qli, .int (nI qtp), .int qlw, .int qod, .int (nI qnc), .int (nI qnr), .int (nI qno), .int (nI qna), .int qdr, .int qlo, .ref qr0, .ref qr1, .ref qr2, .ref qr3, .ref qr4])), (qr1, .inl (cs 1, 25, .inl qf11_19))] := hD
      replace hq_19 : (rs1_19 ≤ ra1_19) ∧ (ra1_19 ≤ nt) ∧ ((r_19 = 1 ∧ True) ∨ (r_19 = 0 ∧ True)) := hq_19
      obtain ⟨hp_19_0, hp_19_1, hq_19⟩ := hq_19
      rcases hq_19 with ⟨rfl, hq_19⟩ | ⟨rfl, hq_19⟩
      ·
        refine lv_if_ne (tgt := 72) hx hb dX4_readRule_67 (by decide) (fun _ => ?_) (fun h9 => absurd h9 (by decide))
        refine lv_aload_n hx hb dX4_readRule_72 rfl (lv_at hl 1 rfl) ?_
        refine va_get (D := D) (ci := 4) (v := .ref aD) (C := RX4) (T := TX4) (N := 9) hx hb hts iuX4_readRule_X4 hown hK hP 0 rfl rfl 1 (by decide) (htw (.fieldLink RX4 37 "MergeJudge$Reader" "draft" "LMergeJudge$Base;") (List.mem_of_getElem? (i := 0) rfl)) (fun _ h9 => h9) rfl dX4_readRule_73 ?_
        refine lv_dup hx hb dX4_readRule_76 rfl ?_
        refine va_get (D := D) (ci := 0) (v := .int (nI qnr)) (C := RX0) (T := TX0) (N := 15) hx hb hts iuX4_readRule_X0 hown hK hP 3 rfl rfl 5 (by decide) (htw (.fieldLink RX4 114 "MergeJudge$Base" "rules" "I") (List.mem_of_getElem? (i := 1) rfl)) (fun _ h9 => h9) rfl dX4_readRule_77 ?_
        refine lv_iconst (v := 1) hx hb dX4_readRule_80 (by decide) ?_
        refine lv_iadd hx hb dX4_readRule_81 ?_
        refine cf_i (nI (qnr + 1)) (nI_add qnr 1) ?_
        refine va_put (D := D) (ci := 0) (v := .int (nI (qnr + 1))) (ty := .int) (C := RX0) (T := TX0) (N := 15) hx hb hts iuX4_readRule_X0 tyX0 tyX0_ok nmX0 hown hK hP hD hS 3 rfl rfl 5 (by decide) (htw (.fieldLink RX4 114 "MergeJudge$Base" "rules" "I") (List.mem_of_getElem? (i := 1) rfl)) (fun _ h9 => h9) rfl (by decide +kernel) rfl rfl (Nat.le_of_ble_eq_true rfl) dX4_readRule_82 (fun H locs hP hD hS => ?_)
        have hP : va_P D vwCl [(aR, .inr (4, [.ref aT, .ref aD, .int rt1_19, .int (nI rs1_19), .int (nI ra1_19), .int rn1_19, .int rp, .int rk1_19, .int rf1_19])), (aT, .inr (7, [.ref tb, .int (nI nt)])), (tb, .inl (cs 0, 400, .inl ft)), (aD, .inr (0, [.int qli, .int (nI qtp), .int qlw, .int qod, .int (nI qnc), .int (nI (qnr + 1)), .int (nI qno), .int (nI qna), .int qdr, .int qlo, .ref qr0, .ref qr1, .ref qr2, .ref qr3, .ref qr4])), (qr1, .inl (cs 1, 25, .inl qf11_19))] H := hP
        have hD : va_D A [(aR, .inr (4, [.ref aT, .ref aD, .int rt1_19, .int (nI rs1_19), .int (nI ra1_19), .int rn1_19, .int rp, .int rk1_19, .int rf1_19])), (aT, .inr (7, [.ref tb, .int (nI nt)])), (tb, .inl (cs 0, 400, .inl ft)), (aD, .inr (0, [.int qli, .int (nI qtp), .int qlw, .int qod, .int (nI qnc), .int (nI (qnr + 1)), .int (nI qno), .int (nI qna), .int qdr, .int qlo, .ref qr0, .ref qr1, .ref qr2, .ref qr3, .ref qr4])), (qr1, .inl (cs 1, 25, .inl qf11_19))] := hD
        refine lv_iconst (v := 1) hx hb dX4_readRule_85 (by decide) ?_
        exact ret_z hx hb hr hlk hS (Nat.le_of_ble_eq_true rfl) (Nat.le_of_ble_eq_true rfl) (by decide) (rt1_19, rs1_19, ra1_19, rn1_19, rk1_19, rf1_19, qnr + 1, qf11_19) (⟨(by omega), (by omega), (by omega), Or.inl ⟨rfl, trivial⟩⟩) (hP.sub [0, 1, 2, 3, 4] rfl) (hD.sub [0, 1, 2, 3, 4] (by decide) rfl) dX4_readRule_86
      ·
        refine lv_if_ne (tgt := 72) hx hb dX4_readRule_67 (by decide) (fun h9 => absurd h9 (by decide)) (fun _ => ?_)
        refine lv_iconst (v := 0) hx hb dX4_readRule_70 (by decide) ?_
        exact ret_z hx hb hr hlk hS (Nat.le_of_ble_eq_true rfl) (Nat.le_of_ble_eq_true rfl) (by decide) (rt1_19, rs1_19, ra1_19, rn1_19, rk1_19, rf1_19, qnr, qf11_19) (⟨(by omega), (by omega), (by omega), Or.inr (⟨rfl, trivial⟩)⟩) (hP.sub [0, 1, 2, 3, 4] rfl) (hD.sub [0, 1, 2, 3, 4] (by decide) rfl) dX4_readRule_71
    ·
      refine lv_istore_n (lv' := [(1, .int 5), (0, .ref aR)]) hx hb dX4_readRule_25 rfl hl (by decide) rfl (fun ls hl => ?_)
      refine lv_iload_n hx hb dX4_readRule_26 rfl (lv_at hl 0 rfl) ?_
      refine lv_iconst (v := (-1)) hx hb dX4_readRule_27 (by decide) ?_
      refine lv_icmp_ne (tgt := 37) hx hb dX4_readRule_28 (by decide) (fun _ => ?_) (fun h9 => absurd h9 (by decide))
      refine lv_aload_n hx hb dX4_readRule_37 rfl (lv_at hl 1 rfl) ?_
      refine aft_v (wr := [(aD, .inr (0, [.int qli, .int (nI qtp), .int qlw, .int qod, .int (nI qnc), .int (nI qnr), .int (nI qno), .int (nI qna), .int qdr, .int qlo, .ref qr0, .ref qr1, .ref qr2, .ref qr3, .ref qr4])), (qr1, .inl (cs 1, 25, .inl qf1))]) hP hD hS hA [2, 3, 4] [0, 1] rfl rfl (by decide) (by decide) (run_v (As := []) (rest := []) hFix hK hE hP hD [2, 3, 4] (k_X4_next l D cs _ aR aT aD rt1_2 rn1_2 rp rk rf tb ft rs1_2 ra1_2 nt (by first | assumption | decide | omega) (by first | assumption | decide | omega)) (cwV 0 hts gc_X4_readRule_46_X4_next rfl rfl rfl (by decide +kernel) ⟨Nat.le_of_ble_eq_true rfl, Nat.le_of_ble_eq_true rfl⟩) rfl (by decide) rfl rfl rfl hl.1 rfl (Nat.le_of_ble_eq_true rfl) dX4_readRule_38 ⟨Nat.le_of_ble_eq_true rfl, Nat.le_of_ble_eq_true rfl⟩) (fun u_20 H locs hq_20 hP hD hS => ?_)
      obtain ⟨rt1_20, rs1_20, ra1_20, rn1_20⟩ := u_20
      have hP : va_P D vwCl [(aD, .inr (0, [.int qli, .int (nI qtp), .int qlw, .int qod, .int (nI qnc), .int (nI qnr), .int (nI qno), .int (nI qna), .int qdr, .int qlo, .ref qr0, .ref qr1, .ref qr2, .ref qr3, .ref qr4])), (qr1, .inl (cs 1, 25, .inl qf1)), (aR, .inr (4, [.ref aT, .ref aD, .int rt1_20, .int (nI rs1_20), .int (nI ra1_20), .int rn1_20, .int rp, .int rk, .int rf])), (aT, .inr (7, [.ref tb, .int (nI nt)])), (tb, .inl (cs 0, 400, .inl ft))] H := hP
      have hD : va_D A [(aD, .inr (0, [.int qli, .int (nI qtp), .int qlw, .int qod, .int (nI qnc), .int (nI qnr), .int (nI qno), .int (nI qna), .int qdr, .int qlo, .ref qr0, .ref qr1, .ref qr2, .ref qr3, .ref qr4])), (qr1, .inl (cs 1, 25, .inl qf1)), (aR, .inr (4, [.ref aT, .ref aD, .int rt1_20, .int (nI rs1_20), .int (nI ra1_20), .int rn1_20, .int rp, .int rk, .int rf])), (aT, .inr (7, [.ref tb, .int (nI nt)])), (tb, .inl (cs 0, 400, .inl ft))] := hD
      replace hq_20 : (rs1_20 ≤ ra1_20) ∧ (ra1_20 ≤ nt) := hq_20
      obtain ⟨hp_20_0, hp_20_1⟩ := hq_20
      refine lv_aload_n hx hb dX4_readRule_41 rfl (lv_at hl 1 rfl) ?_
      refine lv_iload_n hx hb dX4_readRule_42 rfl (lv_at hl 0 rfl) ?_
      refine lv_iload_n hx hb dX4_readRule_43 rfl (lv_at hl 0 rfl) ?_
      refine aft_r (wr := [(aD, .inr (0, [.int qli, .int (nI qtp), .int qlw, .int qod, .int (nI qnc), .int (nI qnr), .int (nI qno), .int (nI qna), .int qdr, .int qlo, .ref qr0, .ref qr1, .ref qr2, .ref qr3, .ref qr4])), (qr1, .inl (cs 1, 25, .inl qf1)), (aR, .inr (4, [.ref aT, .ref aD, .int rt1_20, .int (nI rs1_20), .int (nI ra1_20), .int rn1_20, .int rp, .int rk, .int rf])), (aT, .inr (7, [.ref tb, .int (nI nt)])), (tb, .inl (cs 0, 400, .inl ft))]) hP hD hS hA [] [0, 1, 2, 3, 4] rfl rfl (by decide) (by decide) (run_sS (As := [.int 5]) (rest := [.int 5, .ref aR]) hFix hK hE hV hP hD hS hA [] (k_X4_ruleShape l D cs _ aK aV 5) (va_cwS 1 hts gc_X4_readRule_120_X4_ruleShape rfl rfl rfl (by decide +kernel) ⟨Nat.le_of_ble_eq_true rfl, Nat.le_of_ble_eq_true rfl⟩) rfl (by decide) rfl hl.1 rfl (Nat.le_of_ble_eq_true rfl) dX4_readRule_44 ⟨Nat.le_of_ble_eq_true rfl, Nat.le_of_ble_eq_true rfl⟩) (fun u_21 H locs hq_21 hP hD hS => ?_)
      obtain ⟨w9_21, rfl⟩ : ∃ z, z = u_21 := ⟨_, rfl⟩
      have hP : va_P D vwCl [(aD, .inr (0, [.int qli, .int (nI qtp), .int qlw, .int qod, .int (nI qnc), .int (nI qnr), .int (nI qno), .int (nI qna), .int qdr, .int qlo, .ref qr0, .ref qr1, .ref qr2, .ref qr3, .ref qr4])), (qr1, .inl (cs 1, 25, .inl qf1)), (aR, .inr (4, [.ref aT, .ref aD, .int rt1_20, .int (nI rs1_20), .int (nI ra1_20), .int rn1_20, .int rp, .int rk, .int rf])), (aT, .inr (7, [.ref tb, .int (nI nt)])), (tb, .inl (cs 0, 400, .inl ft))] H := hP
      have hD : va_D A [(aD, .inr (0, [.int qli, .int (nI qtp), .int qlw, .int qod, .int (nI qnc), .int (nI qnr), .int (nI qno), .int (nI qna), .int qdr, .int qlo, .ref qr0, .ref qr1, .ref qr2, .ref qr3, .ref qr4])), (qr1, .inl (cs 1, 25, .inl qf1)), (aR, .inr (4, [.ref aT, .ref aD, .int rt1_20, .int (nI rs1_20), .int (nI ra1_20), .int rn1_20, .int rp, .int rk, .int rf])), (aT, .inr (7, [.ref tb, .int (nI nt)])), (tb, .inl (cs 0, 400, .inl ft))] := hD
      replace hq_21 : (w9_21 < nJS) := hq_21
      have hp_21_0 := hq_21
      refine lv_aload_n hx hb dX4_readRule_47 rfl (lv_at hl 1 rfl) ?_
      refine va_get (D := D) (ci := 4) (v := .ref aD) (C := RX4) (T := TX4) (N := 9) hx hb hts iuX4_readRule_X4 hown hK hP 2 rfl rfl 1 (by decide) (htw (.fieldLink RX4 37 "MergeJudge$Reader" "draft" "LMergeJudge$Base;") (List.mem_of_getElem? (i := 0) rfl)) (fun _ h9 => h9) rfl dX4_readRule_48 ?_
      refine va_get (D := D) (ci := 0) (v := .ref qr1) (C := RX0) (T := TX0) (N := 15) hx hb hts iuX4_readRule_X0 hown hK hP 0 rfl rfl 11 (by decide) (htw (.fieldLink RX4 124 "MergeJudge$Base" "ruleRows" "[I") (List.mem_of_getElem? (i := 14) rfl)) (fun _ h9 => h9) rfl dX4_readRule_51 ?_
      refine lv_aload_n hx hb dX4_readRule_54 rfl (lv_at hl 1 rfl) ?_
      refine va_get (D := D) (ci := 4) (v := .ref aD) (C := RX4) (T := TX4) (N := 9) hx hb hts iuX4_readRule_X4 hown hK hP 2 rfl rfl 1 (by decide) (htw (.fieldLink RX4 37 "MergeJudge$Reader" "draft" "LMergeJudge$Base;") (List.mem_of_getElem? (i := 0) rfl)) (fun _ h9 => h9) rfl dX4_readRule_55 ?_
      refine va_get (D := D) (ci := 0) (v := .int (nI qnr)) (C := RX0) (T := TX0) (N := 15) hx hb hts iuX4_readRule_X0 hown hK hP 0 rfl rfl 5 (by decide) (htw (.fieldLink RX4 114 "MergeJudge$Base" "rules" "I") (List.mem_of_getElem? (i := 1) rfl)) (fun _ h9 => h9) rfl dX4_readRule_58 ?_
      refine lv_iconst (v := 5) hx hb dX4_readRule_61 (by decide) ?_
      refine lv_imul hx hb dX4_readRule_62 ?_
      refine cf_i (nI (qnr * 5)) (pk_mul qnr 5) ?_
      refine lv_iconst (v := 5) hx hb dX4_readRule_63 (by decide) ?_
      refine aft_i (wr := []) hP hD hS hA [2, 3, 4, 0, 1] [] rfl rfl (by decide) (by decide) (run_vS (As := [.int 5, .ref (aK w9_21), .ref qr1, .int (nI (qnr * 5)), .int 5]) (rest := []) hFix hK hE hV hP hD hS hA [2, 3, 4, 0, 1] (k_X4_passNumbers_r l D cs _ aK aV aR 5 qr1 (qnr * 5) w9_21 aT aD rt1_20 rn1_20 rp rk rf tb ft qli qlw qod qdr qlo qr0 qr2 qr3 qr4 qf1 rs1_20 ra1_20 nt qtp qnc qnr qno qna (by first | assumption | decide | omega) (by first | assumption | decide | omega) (by first | assumption | decide | omega) (by first | assumption | decide | omega) (by first | assumption | decide | omega) (by first | assumption | decide | omega) (by first | assumption | decide | omega) (by first | assumption | decide | omega) (by first | assumption | decide | omega) (by first | assumption | decide | omega)) (cwV 5 hts gc_X4_readRule_127_X4_passNumbers rfl rfl rfl (by decide +kernel) ⟨Nat.le_of_ble_eq_true rfl, Nat.le_of_ble_eq_true rfl⟩) rfl (by decide) (rcv hK hP [2, 3, 4, 0, 1] rfl rfl rfl) rfl hl.1 rfl (Nat.le_of_ble_eq_true rfl) dX4_readRule_64 ⟨Nat.le_of_ble_eq_true rfl, Nat.le_of_ble_eq_true rfl⟩) (fun r_22 u_22 H locs hq_22 hP hD hS => ?_)
      obtain ⟨rt1_22, rs1_22, ra1_22, rn1_22, rk1_22, rf1_22, qf11_22⟩ := u_22
      have hP : va_P D vwCl [(aR, .inr (4, [.ref aT, .ref aD, .int rt1_22, .int (nI rs1_22), .int (nI ra1_22), .int rn1_22, .int rp, .int rk1_22, .int rf1_22])), (aT, .inr (7, [.ref tb, .int (nI nt)])), (tb, .inl (cs 0, 400, .inl ft)), (aD, .inr (0, [.int qli, .int (nI qtp), .int qlw, .int qod, .int (nI qnc), .int (nI qnr), .int (nI qno), .int (nI qna), .int qdr, .int qlo, .ref qr0, .ref qr1, .ref qr2, .ref qr3, .ref qr4])), (qr1, .inl (cs 1, 25, .inl qf11_22))] H := hP
      have hD : va_D A [(aR, .inr (4, [.ref aT, .ref aD, .int rt1_22, .int (nI rs1_22), .int (nI ra1_22), .int rn1_22, .int rp, .int rk1_22, .int rf1_22])), (aT, .inr (7, [.ref tb, .int (nI nt)])), (tb, .inl (cs 0, 400, .inl ft)), (aD, .inr (0, [.int qli, .int (nI qtp), .int qlw, .int qod, .int (nI qnc), .int (nI qnr), .int (nI qno), .int (nI qna), .int qdr, .int qlo, .ref qr0, .ref qr1, .ref qr2, .ref qr3, .ref qr4])), (qr1, .inl (cs 1, 25, .inl qf11_22))] := hD
      replace hq_22 : (rs1_22 ≤ ra1_22) ∧ (ra1_22 ≤ nt) ∧ ((r_22 = 1 ∧ True) ∨ (r_22 = 0 ∧ True)) := hq_22
      obtain ⟨hp_22_0, hp_22_1, hq_22⟩ := hq_22
      rcases hq_22 with ⟨rfl, hq_22⟩ | ⟨rfl, hq_22⟩
      ·
        refine lv_if_ne (tgt := 72) hx hb dX4_readRule_67 (by decide) (fun _ => ?_) (fun h9 => absurd h9 (by decide))
        refine lv_aload_n hx hb dX4_readRule_72 rfl (lv_at hl 1 rfl) ?_
        refine va_get (D := D) (ci := 4) (v := .ref aD) (C := RX4) (T := TX4) (N := 9) hx hb hts iuX4_readRule_X4 hown hK hP 0 rfl rfl 1 (by decide) (htw (.fieldLink RX4 37 "MergeJudge$Reader" "draft" "LMergeJudge$Base;") (List.mem_of_getElem? (i := 0) rfl)) (fun _ h9 => h9) rfl dX4_readRule_73 ?_
        refine lv_dup hx hb dX4_readRule_76 rfl ?_
        refine va_get (D := D) (ci := 0) (v := .int (nI qnr)) (C := RX0) (T := TX0) (N := 15) hx hb hts iuX4_readRule_X0 hown hK hP 3 rfl rfl 5 (by decide) (htw (.fieldLink RX4 114 "MergeJudge$Base" "rules" "I") (List.mem_of_getElem? (i := 1) rfl)) (fun _ h9 => h9) rfl dX4_readRule_77 ?_
        refine lv_iconst (v := 1) hx hb dX4_readRule_80 (by decide) ?_
        refine lv_iadd hx hb dX4_readRule_81 ?_
        refine cf_i (nI (qnr + 1)) (nI_add qnr 1) ?_
        refine va_put (D := D) (ci := 0) (v := .int (nI (qnr + 1))) (ty := .int) (C := RX0) (T := TX0) (N := 15) hx hb hts iuX4_readRule_X0 tyX0 tyX0_ok nmX0 hown hK hP hD hS 3 rfl rfl 5 (by decide) (htw (.fieldLink RX4 114 "MergeJudge$Base" "rules" "I") (List.mem_of_getElem? (i := 1) rfl)) (fun _ h9 => h9) rfl (by decide +kernel) rfl rfl (Nat.le_of_ble_eq_true rfl) dX4_readRule_82 (fun H locs hP hD hS => ?_)
        have hP : va_P D vwCl [(aR, .inr (4, [.ref aT, .ref aD, .int rt1_22, .int (nI rs1_22), .int (nI ra1_22), .int rn1_22, .int rp, .int rk1_22, .int rf1_22])), (aT, .inr (7, [.ref tb, .int (nI nt)])), (tb, .inl (cs 0, 400, .inl ft)), (aD, .inr (0, [.int qli, .int (nI qtp), .int qlw, .int qod, .int (nI qnc), .int (nI (qnr + 1)), .int (nI qno), .int (nI qna), .int qdr, .int qlo, .ref qr0, .ref qr1, .ref qr2, .ref qr3, .ref qr4])), (qr1, .inl (cs 1, 25, .inl qf11_22))] H := hP
        have hD : va_D A [(aR, .inr (4, [.ref aT, .ref aD, .int rt1_22, .int (nI rs1_22), .int (nI ra1_22), .int rn1_22, .int rp, .int rk1_22, .int rf1_22])), (aT, .inr (7, [.ref tb, .int (nI nt)])), (tb, .inl (cs 0, 400, .inl ft)), (aD, .inr (0, [.int qli, .int (nI qtp), .int qlw, .int qod, .int (nI qnc), .int (nI (qnr + 1)), .int (nI qno), .int (nI qna), .int qdr, .int qlo, .ref qr0, .ref qr1, .ref qr2, .ref qr3, .ref qr4])), (qr1, .inl (cs 1, 25, .inl qf11_22))] := hD
        refine lv_iconst (v := 1) hx hb dX4_readRule_85 (by decide) ?_
        exact ret_z hx hb hr hlk hS (Nat.le_of_ble_eq_true rfl) (Nat.le_of_ble_eq_true rfl) (by decide) (rt1_22, rs1_22, ra1_22, rn1_22, rk1_22, rf1_22, qnr + 1, qf11_22) (⟨(by omega), (by omega), (by omega), Or.inl ⟨rfl, trivial⟩⟩) (hP.sub [0, 1, 2, 3, 4] rfl) (hD.sub [0, 1, 2, 3, 4] (by decide) rfl) dX4_readRule_86
      ·
        refine lv_if_ne (tgt := 72) hx hb dX4_readRule_67 (by decide) (fun h9 => absurd h9 (by decide)) (fun _ => ?_)
        refine lv_iconst (v := 0) hx hb dX4_readRule_70 (by decide) ?_
        exact ret_z hx hb hr hlk hS (Nat.le_of_ble_eq_true rfl) (Nat.le_of_ble_eq_true rfl) (by decide) (rt1_22, rs1_22, ra1_22, rn1_22, rk1_22, rf1_22, qnr, qf11_22) (⟨(by omega), (by omega), (by omega), Or.inr (⟨rfl, trivial⟩)⟩) (hP.sub [0, 1, 2, 3, 4] rfl) (hD.sub [0, 1, 2, 3, 4] (by decide) rfl) dX4_readRule_71
  ·
    have hn_1 := blt_f (a := qnr) (b := 5) c_1 (by omega) (by omega)
    refine lv_aload_n hx hb dX4_readRule_11 rfl (lv_at hl 0 rfl) ?_
    refine lv_iconst (v := 3) hx hb dX4_readRule_12 (by decide) ?_
    refine aft_i (wr := [(aT, .inr (7, [.ref tb, .int (nI nt)])), (tb, .inl (cs 0, 400, .inl ft)), (aD, .inr (0, [.int qli, .int (nI qtp), .int qlw, .int qod, .int (nI qnc), .int (nI qnr), .int (nI qno), .int (nI qna), .int qdr, .int qlo, .ref qr0, .ref qr1, .ref qr2, .ref qr3, .ref qr4])), (qr1, .inl (cs 1, 25, .inl qf1))]) hP hD hS hA [0] [1, 2, 3, 4] rfl rfl (by decide) (by decide) (run_v (As := [.int 3]) (rest := []) hFix hK hE hP hD [0] (k_X4_failed l D cs _ aR 3 aT aD rt rn rp rk rf rs ra) (cwV 1 hts gc_X4_readRule_78_X4_failed rfl rfl rfl (by decide +kernel) ⟨Nat.le_of_ble_eq_true rfl, Nat.le_of_ble_eq_true rfl⟩) rfl (by decide) rfl rfl rfl hl.1 rfl (Nat.le_of_ble_eq_true rfl) dX4_readRule_13 ⟨Nat.le_of_ble_eq_true rfl, Nat.le_of_ble_eq_true rfl⟩) (fun r_23 u_23 H locs hq_23 hP hD hS => ?_)
    obtain ⟨rk1_23, rf1_23⟩ := u_23
    have hP : va_P D vwCl [(aT, .inr (7, [.ref tb, .int (nI nt)])), (tb, .inl (cs 0, 400, .inl ft)), (aD, .inr (0, [.int qli, .int (nI qtp), .int qlw, .int qod, .int (nI qnc), .int (nI qnr), .int (nI qno), .int (nI qna), .int qdr, .int qlo, .ref qr0, .ref qr1, .ref qr2, .ref qr3, .ref qr4])), (qr1, .inl (cs 1, 25, .inl qf1)), (aR, .inr (4, [.ref aT, .ref aD, .int rt, .int (nI rs), .int (nI ra), .int rn, .int rp, .int rk1_23, .int rf1_23]))] H := hP
    have hD : va_D A [(aT, .inr (7, [.ref tb, .int (nI nt)])), (tb, .inl (cs 0, 400, .inl ft)), (aD, .inr (0, [.int qli, .int (nI qtp), .int qlw, .int qod, .int (nI qnc), .int (nI qnr), .int (nI qno), .int (nI qna), .int qdr, .int qlo, .ref qr0, .ref qr1, .ref qr2, .ref qr3, .ref qr4])), (qr1, .inl (cs 1, 25, .inl qf1)), (aR, .inr (4, [.ref aT, .ref aD, .int rt, .int (nI rs), .int (nI ra), .int rn, .int rp, .int rk1_23, .int rf1_23]))] := hD
    replace hq_23 : ((r_23 = 0 ∧ True)) := hq_23
    obtain ⟨rfl, hq_23⟩ := hq_23
    ·
      exact ret_z hx hb hr hlk hS (Nat.le_of_ble_eq_true rfl) (Nat.le_of_ble_eq_true rfl) (by decide) (rt, rs, ra, rn, rk1_23, rf1_23, qnr, qf1) (⟨(by omega), (by omega), (by omega), Or.inr (⟨rfl, trivial⟩)⟩) (hP.sub [4, 0, 1, 2, 3] rfl) (hD.sub [4, 0, 1, 2, 3] (by decide) rfl) dX4_readRule_16

set_option maxHeartbeats 4000000 in
set_option maxRecDepth 100000 in
theorem k_X4_readOp (l : Launch) (D : va_G) (cs : Nat → ClassId) (sz : Nat) (aK aV : Nat → Nat) (aR : Nat) (aT : Nat) (aD : Nat) (rt : Int32) (rn : Int32) (rp : Int32) (rk : Int32) (rf : Int32) (tb : Nat) (ft : Nat → Int32) (qli : Int32) (qlw : Int32) (qod : Int32) (qdr : Int32) (qlo : Int32) (qr0 : Nat) (qr1 : Nat) (qr2 : Nat) (qr3 : Nat) (qr4 : Nat) (qf2 : Nat → Int32) (rs : Nat) (ra : Nat) (nt : Nat) (qtp : Nat) (qnc : Nat) (qnr : Nat) (qno : Nat) (qna : Nat) (hnt : nt ≤ 400) (hqtp : qtp ≤ 3) (hqnc : qnc ≤ 3) (hqnr : qnr ≤ 5) (hqno : qno ≤ 5) (hqna : qna ≤ 20) (hra : rs ≤ ra) (hrt : ra ≤ nt) : Si l D cs aK aV yX4_readOp W_X4_readOp 6 127 0 0 [.ref aR] [(aR, .inr (4, [.ref aT, .ref aD, .int rt, .int (nI rs), .int (nI ra), .int rn, .int rp, .int rk, .int rf])), (aT, .inr (7, [.ref tb, .int (nI nt)])), (tb, .inl (cs 0, 400, .inl ft)), (aD, .inr (0, [.int qli, .int (nI qtp), .int qlw, .int qod, .int (nI qnc), .int (nI qnr), .int (nI qno), .int (nI qna), .int qdr, .int qlo, .ref qr0, .ref qr1, .ref qr2, .ref qr3, .ref qr4])), (qr2, .inl (cs 1, 20, .inl qf2))] sz (fun (r : Int32) (u : Int32 × Nat × Nat × Int32 × Int32 × Int32 × Nat × (Nat → Int32)) => (u.2.1 ≤ u.2.2.1) ∧ (u.2.2.1 ≤ nt) ∧ (u.2.2.2.2.2.2.1 ≤ 5) ∧ ((r = 1 ∧ True) ∨ (r = 0 ∧ True))) (fun (u : Int32 × Nat × Nat × Int32 × Int32 × Int32 × Nat × (Nat → Int32)) => [(aR, .inr (4, [.ref aT, .ref aD, .int u.1, .int (nI u.2.1), .int (nI u.2.2.1), .int u.2.2.2.1, .int rp, .int u.2.2.2.2.1, .int u.2.2.2.2.2.1])), (aT, .inr (7, [.ref tb, .int (nI nt)])), (tb, .inl (cs 0, 400, .inl ft)), (aD, .inr (0, [.int qli, .int (nI qtp), .int qlw, .int qod, .int (nI qnc), .int (nI qnr), .int (nI u.2.2.2.2.2.2.1), .int (nI qna), .int qdr, .int qlo, .ref qr0, .ref qr1, .ref qr2, .ref qr3, .ref qr4])), (qr2, .inl (cs 1, 20, .inl u.2.2.2.2.2.2.2))]) := by
  refine entS (D := D) (cs := cs) (y := yX4_readOp) (ws := W_X4_readOp) (As := [.ref aR]) (W0 := [(aR, .inr (4, [.ref aT, .ref aD, .int rt, .int (nI rs), .int (nI ra), .int rn, .int rp, .int rk, .int rf])), (aT, .inr (7, [.ref tb, .int (nI nt)])), (tb, .inl (cs 0, 400, .inl ft)), (aD, .inr (0, [.int qli, .int (nI qtp), .int qlw, .int qod, .int (nI qnc), .int (nI qnr), .int (nI qno), .int (nI qna), .int qdr, .int qlo, .ref qr0, .ref qr1, .ref qr2, .ref qr3, .ref qr4])), (qr2, .inl (cs 1, 20, .inl qf2))]) (Qx := fun A => va_Qi (fun (r : Int32) (u : Int32 × Nat × Nat × Int32 × Int32 × Int32 × Nat × (Nat → Int32)) => (u.2.1 ≤ u.2.2.1) ∧ (u.2.2.1 ≤ nt) ∧ (u.2.2.2.2.2.2.1 ≤ 5) ∧ ((r = 1 ∧ True) ∨ (r = 0 ∧ True))) (mpost D A (fun (u : Int32 × Nat × Nat × Int32 × Int32 × Int32 × Nat × (Nat → Int32)) => [(aR, .inr (4, [.ref aT, .ref aD, .int u.1, .int (nI u.2.1), .int (nI u.2.2.1), .int u.2.2.2.1, .int rp, .int u.2.2.2.2.1, .int u.2.2.2.2.2.1])), (aT, .inr (7, [.ref tb, .int (nI nt)])), (tb, .inl (cs 0, 400, .inl ft)), (aD, .inr (0, [.int qli, .int (nI qtp), .int qlw, .int qod, .int (nI qnc), .int (nI qnr), .int (nI u.2.2.2.2.2.2.1), .int (nI qna), .int qdr, .int qlo, .ref qr0, .ref qr1, .ref qr2, .ref qr3, .ref qr4])), (qr2, .inl (cs 1, 20, .inl u.2.2.2.2.2.2.2))])) A) (maxL := 2) (ret := (some .boolean)) (by decide) rfl (Nat.le_of_ble_eq_true rfl) ?_
  intro p e s m below meth c A ls hx hb hr hml hlk hown hts hin hK hE hV hP hD hA hS hl
  have hl : lv_has ls 2 [(0, .ref aR)] := hl
  generalize hHe : s.heap = H at hP
  have hS : va_S A s.heap H [] := hHe ▸ hS
  generalize hLe : ([] : List Loc) = locs at hS ⊢
  have htw : ∀ w ∈ O_X4_readOp, w.before ([.ref aR] : List Value).toArray s = true := fun w h => hts w (List.mem_cons_of_mem _ (List.mem_append_left _ h))
  have hFix := (⟨hx, hb, hml, hown, hts⟩ : CallFix p m c _ _ s _ _ _)
  refine lv_aload_n hx hb dX4_readOp_0 rfl (lv_at hl 0 rfl) ?_
  refine va_get (D := D) (ci := 4) (v := .ref aD) (C := RX4) (T := TX4) (N := 9) hx hb hts iuX4_readOp_X4 hown hK hP 0 rfl rfl 1 (by decide) (htw (.fieldLink RX4 37 "MergeJudge$Reader" "draft" "LMergeJudge$Base;") (List.mem_of_getElem? (i := 0) rfl)) (fun _ h9 => h9) rfl dX4_readOp_1 ?_
  refine va_get (D := D) (ci := 0) (v := .int (nI qno)) (C := RX0) (T := TX0) (N := 15) hx hb hts iuX4_readOp_X0 hown hK hP 3 rfl rfl 6 (by decide) (htw (.fieldLink RX4 131 "MergeJudge$Base" "ops" "I") (List.mem_of_getElem? (i := 1) rfl)) (fun _ h9 => h9) rfl dX4_readOp_4 ?_
  refine lv_iconst (v := 5) hx hb dX4_readOp_7 (by decide) ?_
  refine lv_icmp_lt (tgt := 17) hx hb dX4_readOp_8 (by decide) (fun c_1 => ?_) (fun c_1 => ?_)
  ·
    have hn_1 := blt_t (a := qno) (b := 5) c_1 (by omega) (by omega)
    refine lv_aload_n hx hb dX4_readOp_17 rfl (lv_at hl 0 rfl) ?_
    refine aft_v (wr := [(aD, .inr (0, [.int qli, .int (nI qtp), .int qlw, .int qod, .int (nI qnc), .int (nI qnr), .int (nI qno), .int (nI qna), .int qdr, .int qlo, .ref qr0, .ref qr1, .ref qr2, .ref qr3, .ref qr4])), (qr2, .inl (cs 1, 20, .inl qf2))]) hP hD hS hA [0, 1, 2] [3, 4] rfl rfl (by decide) (by decide) (run_v (As := []) (rest := []) hFix hK hE hP hD [0, 1, 2] (k_X4_next l D cs _ aR aT aD rt rn rp rk rf tb ft rs ra nt (by first | assumption | decide | omega) (by first | assumption | decide | omega)) (cwV 0 hts gc_X4_readOp_46_X4_next rfl rfl rfl (by decide +kernel) ⟨Nat.le_of_ble_eq_true rfl, Nat.le_of_ble_eq_true rfl⟩) rfl (by decide) rfl rfl rfl hl.1 rfl (Nat.le_of_ble_eq_true rfl) dX4_readOp_18 ⟨Nat.le_of_ble_eq_true rfl, Nat.le_of_ble_eq_true rfl⟩) (fun u_2 H locs hq_2 hP hD hS => ?_)
    obtain ⟨rt1_2, rs1_2, ra1_2, rn1_2⟩ := u_2
    have hP : va_P D vwCl [(aD, .inr (0, [.int qli, .int (nI qtp), .int qlw, .int qod, .int (nI qnc), .int (nI qnr), .int (nI qno), .int (nI qna), .int qdr, .int qlo, .ref qr0, .ref qr1, .ref qr2, .ref qr3, .ref qr4])), (qr2, .inl (cs 1, 20, .inl qf2)), (aR, .inr (4, [.ref aT, .ref aD, .int rt1_2, .int (nI rs1_2), .int (nI ra1_2), .int rn1_2, .int rp, .int rk, .int rf])), (aT, .inr (7, [.ref tb, .int (nI nt)])), (tb, .inl (cs 0, 400, .inl ft))] H := hP
    have hD : va_D A [(aD, .inr (0, [.int qli, .int (nI qtp), .int qlw, .int qod, .int (nI qnc), .int (nI qnr), .int (nI qno), .int (nI qna), .int qdr, .int qlo, .ref qr0, .ref qr1, .ref qr2, .ref qr3, .ref qr4])), (qr2, .inl (cs 1, 20, .inl qf2)), (aR, .inr (4, [.ref aT, .ref aD, .int rt1_2, .int (nI rs1_2), .int (nI ra1_2), .int rn1_2, .int rp, .int rk, .int rf])), (aT, .inr (7, [.ref tb, .int (nI nt)])), (tb, .inl (cs 0, 400, .inl ft))] := hD
    replace hq_2 : (rs1_2 ≤ ra1_2) ∧ (ra1_2 ≤ nt) := hq_2
    obtain ⟨hp_2_0, hp_2_1⟩ := hq_2
    refine lv_aload_n hx hb dX4_readOp_21 rfl (lv_at hl 0 rfl) ?_
    refine aft_i (wr := [(aD, .inr (0, [.int qli, .int (nI qtp), .int qlw, .int qod, .int (nI qnc), .int (nI qnr), .int (nI qno), .int (nI qna), .int qdr, .int qlo, .ref qr0, .ref qr1, .ref qr2, .ref qr3, .ref qr4])), (qr2, .inl (cs 1, 20, .inl qf2))]) hP hD hS hA [2, 3, 4] [0, 1] rfl rfl (by decide) (by decide) (run_vS (As := []) (rest := []) hFix hK hE hV hP hD hS hA [2, 3, 4] (k_X4_opKind l D cs _ aK aV aR aT aD rt1_2 rn1_2 rp rk rf tb ft rs1_2 ra1_2 nt (by first | assumption | decide | omega) (by first | assumption | decide | omega) (by first | assumption | decide | omega)) (cwV 0 hts gc_X4_readOp_134_X4_opKind rfl rfl rfl (by decide +kernel) ⟨Nat.le_of_ble_eq_true rfl, Nat.le_of_ble_eq_true rfl⟩) rfl (by decide) (rcv hK hP [2, 3, 4] rfl rfl rfl) rfl hl.1 rfl (Nat.le_of_ble_eq_true rfl) dX4_readOp_22 ⟨Nat.le_of_ble_eq_true rfl, Nat.le_of_ble_eq_true rfl⟩) (fun r_3 u_3 H locs hq_3 hP hD hS => ?_)
    have hP : va_P D vwCl [(aD, .inr (0, [.int qli, .int (nI qtp), .int qlw, .int qod, .int (nI qnc), .int (nI qnr), .int (nI qno), .int (nI qna), .int qdr, .int qlo, .ref qr0, .ref qr1, .ref qr2, .ref qr3, .ref qr4])), (qr2, .inl (cs 1, 20, .inl qf2)), (aR, .inr (4, [.ref aT, .ref aD, .int rt1_2, .int (nI rs1_2), .int (nI ra1_2), .int rn1_2, .int rp, .int rk, .int rf])), (aT, .inr (7, [.ref tb, .int (nI nt)])), (tb, .inl (cs 0, 400, .inl ft))] H := hP
    have hD : va_D A [(aD, .inr (0, [.int qli, .int (nI qtp), .int qlw, .int qod, .int (nI qnc), .int (nI qnr), .int (nI qno), .int (nI qna), .int qdr, .int qlo, .ref qr0, .ref qr1, .ref qr2, .ref qr3, .ref qr4])), (qr2, .inl (cs 1, 20, .inl qf2)), (aR, .inr (4, [.ref aT, .ref aD, .int rt1_2, .int (nI rs1_2), .int (nI ra1_2), .int rn1_2, .int rp, .int rk, .int rf])), (aT, .inr (7, [.ref tb, .int (nI nt)])), (tb, .inl (cs 0, 400, .inl ft))] := hD
    replace hq_3 : ((r_3 = (-1) ∧ True) ∨ (r_3 = 0 ∧ True) ∨ (r_3 = 1 ∧ True) ∨ (r_3 = 2 ∧ True) ∨ (r_3 = 3 ∧ True)) := hq_3
    rcases hq_3 with ⟨rfl, hq_3⟩ | ⟨rfl, hq_3⟩ | ⟨rfl, hq_3⟩ | ⟨rfl, hq_3⟩ | ⟨rfl, hq_3⟩
    ·
      refine lv_istore_n (lv' := [(1, .int (-1)), (0, .ref aR)]) hx hb dX4_readOp_25 rfl hl (by decide) rfl (fun ls hl => ?_)
      refine lv_iload_n hx hb dX4_readOp_26 rfl (lv_at hl 0 rfl) ?_
      refine lv_iconst (v := (-1)) hx hb dX4_readOp_27 (by decide) ?_
      refine lv_icmp_ne (tgt := 37) hx hb dX4_readOp_28 (by decide) (fun h9 => absurd h9 (by decide)) (fun _ => ?_)
      refine lv_aload_n hx hb dX4_readOp_31 rfl (lv_at hl 1 rfl) ?_
      refine lv_iconst (v := 1) hx hb dX4_readOp_32 (by decide) ?_
      refine aft_i (wr := [(aD, .inr (0, [.int qli, .int (nI qtp), .int qlw, .int qod, .int (nI qnc), .int (nI qnr), .int (nI qno), .int (nI qna), .int qdr, .int qlo, .ref qr0, .ref qr1, .ref qr2, .ref qr3, .ref qr4])), (qr2, .inl (cs 1, 20, .inl qf2)), (aT, .inr (7, [.ref tb, .int (nI nt)])), (tb, .inl (cs 0, 400, .inl ft))]) hP hD hS hA [2] [0, 1, 3, 4] rfl rfl (by decide) (by decide) (run_v (As := [.int 1]) (rest := []) hFix hK hE hP hD [2] (k_X4_failed l D cs _ aR 1 aT aD rt1_2 rn1_2 rp rk rf rs1_2 ra1_2) (cwV 1 hts gc_X4_readOp_78_X4_failed rfl rfl rfl (by decide +kernel) ⟨Nat.le_of_ble_eq_true rfl, Nat.le_of_ble_eq_true rfl⟩) rfl (by decide) rfl rfl rfl hl.1 rfl (Nat.le_of_ble_eq_true rfl) dX4_readOp_33 ⟨Nat.le_of_ble_eq_true rfl, Nat.le_of_ble_eq_true rfl⟩) (fun r_4 u_4 H locs hq_4 hP hD hS => ?_)
      obtain ⟨rk1_4, rf1_4⟩ := u_4
      have hP : va_P D vwCl [(aD, .inr (0, [.int qli, .int (nI qtp), .int qlw, .int qod, .int (nI qnc), .int (nI qnr), .int (nI qno), .int (nI qna), .int qdr, .int qlo, .ref qr0, .ref qr1, .ref qr2, .ref qr3, .ref qr4])), (qr2, .inl (cs 1, 20, .inl qf2)), (aT, .inr (7, [.ref tb, .int (nI nt)])), (tb, .inl (cs 0, 400, .inl ft)), (aR, .inr (4, [.ref aT, .ref aD, .int rt1_2, .int (nI rs1_2), .int (nI ra1_2), .int rn1_2, .int rp, .int rk1_4, .int rf1_4]))] H := hP
      have hD : va_D A [(aD, .inr (0, [.int qli, .int (nI qtp), .int qlw, .int qod, .int (nI qnc), .int (nI qnr), .int (nI qno), .int (nI qna), .int qdr, .int qlo, .ref qr0, .ref qr1, .ref qr2, .ref qr3, .ref qr4])), (qr2, .inl (cs 1, 20, .inl qf2)), (aT, .inr (7, [.ref tb, .int (nI nt)])), (tb, .inl (cs 0, 400, .inl ft)), (aR, .inr (4, [.ref aT, .ref aD, .int rt1_2, .int (nI rs1_2), .int (nI ra1_2), .int rn1_2, .int rp, .int rk1_4, .int rf1_4]))] := hD
      replace hq_4 : ((r_4 = 0 ∧ True)) := hq_4
      obtain ⟨rfl, hq_4⟩ := hq_4
      ·
        exact ret_z hx hb hr hlk hS (Nat.le_of_ble_eq_true rfl) (Nat.le_of_ble_eq_true rfl) (by decide) (rt1_2, rs1_2, ra1_2, rn1_2, rk1_4, rf1_4, qno, qf2) (⟨(by omega), (by omega), (by omega), Or.inr (⟨rfl, trivial⟩)⟩) (hP.sub [4, 2, 3, 0, 1] rfl) (hD.sub [4, 2, 3, 0, 1] (by decide) rfl) dX4_readOp_36
    ·
      refine lv_istore_n (lv' := [(1, .int 0), (0, .ref aR)]) hx hb dX4_readOp_25 rfl hl (by decide) rfl (fun ls hl => ?_)
      refine lv_iload_n hx hb dX4_readOp_26 rfl (lv_at hl 0 rfl) ?_
      refine lv_iconst (v := (-1)) hx hb dX4_readOp_27 (by decide) ?_
      refine lv_icmp_ne (tgt := 37) hx hb dX4_readOp_28 (by decide) (fun _ => ?_) (fun h9 => absurd h9 (by decide))
      refine lv_aload_n hx hb dX4_readOp_37 rfl (lv_at hl 1 rfl) ?_
      refine aft_v (wr := [(aD, .inr (0, [.int qli, .int (nI qtp), .int qlw, .int qod, .int (nI qnc), .int (nI qnr), .int (nI qno), .int (nI qna), .int qdr, .int qlo, .ref qr0, .ref qr1, .ref qr2, .ref qr3, .ref qr4])), (qr2, .inl (cs 1, 20, .inl qf2))]) hP hD hS hA [2, 3, 4] [0, 1] rfl rfl (by decide) (by decide) (run_v (As := []) (rest := []) hFix hK hE hP hD [2, 3, 4] (k_X4_next l D cs _ aR aT aD rt1_2 rn1_2 rp rk rf tb ft rs1_2 ra1_2 nt (by first | assumption | decide | omega) (by first | assumption | decide | omega)) (cwV 0 hts gc_X4_readOp_46_X4_next rfl rfl rfl (by decide +kernel) ⟨Nat.le_of_ble_eq_true rfl, Nat.le_of_ble_eq_true rfl⟩) rfl (by decide) rfl rfl rfl hl.1 rfl (Nat.le_of_ble_eq_true rfl) dX4_readOp_38 ⟨Nat.le_of_ble_eq_true rfl, Nat.le_of_ble_eq_true rfl⟩) (fun u_5 H locs hq_5 hP hD hS => ?_)
      obtain ⟨rt1_5, rs1_5, ra1_5, rn1_5⟩ := u_5
      have hP : va_P D vwCl [(aD, .inr (0, [.int qli, .int (nI qtp), .int qlw, .int qod, .int (nI qnc), .int (nI qnr), .int (nI qno), .int (nI qna), .int qdr, .int qlo, .ref qr0, .ref qr1, .ref qr2, .ref qr3, .ref qr4])), (qr2, .inl (cs 1, 20, .inl qf2)), (aR, .inr (4, [.ref aT, .ref aD, .int rt1_5, .int (nI rs1_5), .int (nI ra1_5), .int rn1_5, .int rp, .int rk, .int rf])), (aT, .inr (7, [.ref tb, .int (nI nt)])), (tb, .inl (cs 0, 400, .inl ft))] H := hP
      have hD : va_D A [(aD, .inr (0, [.int qli, .int (nI qtp), .int qlw, .int qod, .int (nI qnc), .int (nI qnr), .int (nI qno), .int (nI qna), .int qdr, .int qlo, .ref qr0, .ref qr1, .ref qr2, .ref qr3, .ref qr4])), (qr2, .inl (cs 1, 20, .inl qf2)), (aR, .inr (4, [.ref aT, .ref aD, .int rt1_5, .int (nI rs1_5), .int (nI ra1_5), .int rn1_5, .int rp, .int rk, .int rf])), (aT, .inr (7, [.ref tb, .int (nI nt)])), (tb, .inl (cs 0, 400, .inl ft))] := hD
      replace hq_5 : (rs1_5 ≤ ra1_5) ∧ (ra1_5 ≤ nt) := hq_5
      obtain ⟨hp_5_0, hp_5_1⟩ := hq_5
      refine lv_aload_n hx hb dX4_readOp_41 rfl (lv_at hl 1 rfl) ?_
      refine lv_iload_n hx hb dX4_readOp_42 rfl (lv_at hl 0 rfl) ?_
      refine lv_iload_n hx hb dX4_readOp_43 rfl (lv_at hl 0 rfl) ?_
      refine aft_r (wr := [(aD, .inr (0, [.int qli, .int (nI qtp), .int qlw, .int qod, .int (nI qnc), .int (nI qnr), .int (nI qno), .int (nI qna), .int qdr, .int qlo, .ref qr0, .ref qr1, .ref qr2, .ref qr3, .ref qr4])), (qr2, .inl (cs 1, 20, .inl qf2)), (aR, .inr (4, [.ref aT, .ref aD, .int rt1_5, .int (nI rs1_5), .int (nI ra1_5), .int rn1_5, .int rp, .int rk, .int rf])), (aT, .inr (7, [.ref tb, .int (nI nt)])), (tb, .inl (cs 0, 400, .inl ft))]) hP hD hS hA [] [0, 1, 2, 3, 4] rfl rfl (by decide) (by decide) (run_sS (As := [.int 0]) (rest := [.int 0, .ref aR]) hFix hK hE hV hP hD hS hA [] (k_X4_opShape l D cs _ aK aV 0) (va_cwS 1 hts gc_X4_readOp_137_X4_opShape rfl rfl rfl (by decide +kernel) ⟨Nat.le_of_ble_eq_true rfl, Nat.le_of_ble_eq_true rfl⟩) rfl (by decide) rfl hl.1 rfl (Nat.le_of_ble_eq_true rfl) dX4_readOp_44 ⟨Nat.le_of_ble_eq_true rfl, Nat.le_of_ble_eq_true rfl⟩) (fun u_6 H locs hq_6 hP hD hS => ?_)
      obtain ⟨w9_6, rfl⟩ : ∃ z, z = u_6 := ⟨_, rfl⟩
      have hP : va_P D vwCl [(aD, .inr (0, [.int qli, .int (nI qtp), .int qlw, .int qod, .int (nI qnc), .int (nI qnr), .int (nI qno), .int (nI qna), .int qdr, .int qlo, .ref qr0, .ref qr1, .ref qr2, .ref qr3, .ref qr4])), (qr2, .inl (cs 1, 20, .inl qf2)), (aR, .inr (4, [.ref aT, .ref aD, .int rt1_5, .int (nI rs1_5), .int (nI ra1_5), .int rn1_5, .int rp, .int rk, .int rf])), (aT, .inr (7, [.ref tb, .int (nI nt)])), (tb, .inl (cs 0, 400, .inl ft))] H := hP
      have hD : va_D A [(aD, .inr (0, [.int qli, .int (nI qtp), .int qlw, .int qod, .int (nI qnc), .int (nI qnr), .int (nI qno), .int (nI qna), .int qdr, .int qlo, .ref qr0, .ref qr1, .ref qr2, .ref qr3, .ref qr4])), (qr2, .inl (cs 1, 20, .inl qf2)), (aR, .inr (4, [.ref aT, .ref aD, .int rt1_5, .int (nI rs1_5), .int (nI ra1_5), .int rn1_5, .int rp, .int rk, .int rf])), (aT, .inr (7, [.ref tb, .int (nI nt)])), (tb, .inl (cs 0, 400, .inl ft))] := hD
      replace hq_6 : (w9_6 < nJS) := hq_6
      have hp_6_0 := hq_6
      refine lv_aload_n hx hb dX4_readOp_47 rfl (lv_at hl 1 rfl) ?_
      refine va_get (D := D) (ci := 4) (v := .ref aD) (C := RX4) (T := TX4) (N := 9) hx hb hts iuX4_readOp_X4 hown hK hP 2 rfl rfl 1 (by decide) (htw (.fieldLink RX4 37 "MergeJudge$Reader" "draft" "LMergeJudge$Base;") (List.mem_of_getElem? (i := 0) rfl)) (fun _ h9 => h9) rfl dX4_readOp_48 ?_
      refine va_get (D := D) (ci := 0) (v := .ref qr2) (C := RX0) (T := TX0) (N := 15) hx hb hts iuX4_readOp_X0 hown hK hP 0 rfl rfl 12 (by decide) (htw (.fieldLink RX4 140 "MergeJudge$Base" "opRows" "[I") (List.mem_of_getElem? (i := 14) rfl)) (fun _ h9 => h9) rfl dX4_readOp_51 ?_
      refine lv_aload_n hx hb dX4_readOp_54 rfl (lv_at hl 1 rfl) ?_
      refine va_get (D := D) (ci := 4) (v := .ref aD) (C := RX4) (T := TX4) (N := 9) hx hb hts iuX4_readOp_X4 hown hK hP 2 rfl rfl 1 (by decide) (htw (.fieldLink RX4 37 "MergeJudge$Reader" "draft" "LMergeJudge$Base;") (List.mem_of_getElem? (i := 0) rfl)) (fun _ h9 => h9) rfl dX4_readOp_55 ?_
      refine va_get (D := D) (ci := 0) (v := .int (nI qno)) (C := RX0) (T := TX0) (N := 15) hx hb hts iuX4_readOp_X0 hown hK hP 0 rfl rfl 6 (by decide) (htw (.fieldLink RX4 131 "MergeJudge$Base" "ops" "I") (List.mem_of_getElem? (i := 1) rfl)) (fun _ h9 => h9) rfl dX4_readOp_58 ?_
      refine lv_iconst (v := 4) hx hb dX4_readOp_61 (by decide) ?_
      refine lv_imul hx hb dX4_readOp_62 ?_
      refine cf_i (nI (qno * 4)) (pk_mul qno 4) ?_
      refine lv_iconst (v := 4) hx hb dX4_readOp_63 (by decide) ?_
      refine aft_i (wr := []) hP hD hS hA [2, 3, 4, 0, 1] [] rfl rfl (by decide) (by decide) (run_vS (As := [.int 0, .ref (aK w9_6), .ref qr2, .int (nI (qno * 4)), .int 4]) (rest := []) hFix hK hE hV hP hD hS hA [2, 3, 4, 0, 1] (k_X4_passNumbers_o l D cs _ aK aV aR 0 qr2 (qno * 4) w9_6 aT aD rt1_5 rn1_5 rp rk rf tb ft qli qlw qod qdr qlo qr0 qr1 qr3 qr4 qf2 rs1_5 ra1_5 nt qtp qnc qnr qno qna (by first | assumption | decide | omega) (by first | assumption | decide | omega) (by first | assumption | decide | omega) (by first | assumption | decide | omega) (by first | assumption | decide | omega) (by first | assumption | decide | omega) (by first | assumption | decide | omega) (by first | assumption | decide | omega) (by first | assumption | decide | omega) (by first | assumption | decide | omega)) (cwV 5 hts gc_X4_readOp_127_X4_passNumbers rfl rfl rfl (by decide +kernel) ⟨Nat.le_of_ble_eq_true rfl, Nat.le_of_ble_eq_true rfl⟩) rfl (by decide) (rcv hK hP [2, 3, 4, 0, 1] rfl rfl rfl) rfl hl.1 rfl (Nat.le_of_ble_eq_true rfl) dX4_readOp_64 ⟨Nat.le_of_ble_eq_true rfl, Nat.le_of_ble_eq_true rfl⟩) (fun r_7 u_7 H locs hq_7 hP hD hS => ?_)
      obtain ⟨rt1_7, rs1_7, ra1_7, rn1_7, rk1_7, rf1_7, qf21_7⟩ := u_7
      have hP : va_P D vwCl [(aR, .inr (4, [.ref aT, .ref aD, .int rt1_7, .int (nI rs1_7), .int (nI ra1_7), .int rn1_7, .int rp, .int rk1_7, .int rf1_7])), (aT, .inr (7, [.ref tb, .int (nI nt)])), (tb, .inl (cs 0, 400, .inl ft)), (aD, .inr (0, [.int qli, .int (nI qtp), .int qlw, .int qod, .int (nI qnc), .int (nI qnr), .int (nI qno), .int (nI qna), .int qdr, .int qlo, .ref qr0, .ref qr1, .ref qr2, .ref qr3, .ref qr4])), (qr2, .inl (cs 1, 20, .inl qf21_7))] H := hP
      have hD : va_D A [(aR, .inr (4, [.ref aT, .ref aD, .int rt1_7, .int (nI rs1_7), .int (nI ra1_7), .int rn1_7, .int rp, .int rk1_7, .int rf1_7])), (aT, .inr (7, [.ref tb, .int (nI nt)])), (tb, .inl (cs 0, 400, .inl ft)), (aD, .inr (0, [.int qli, .int (nI qtp), .int qlw, .int qod, .int (nI qnc), .int (nI qnr), .int (nI qno), .int (nI qna), .int qdr, .int qlo, .ref qr0, .ref qr1, .ref qr2, .ref qr3, .ref qr4])), (qr2, .inl (cs 1, 20, .inl qf21_7))] := hD
      replace hq_7 : (rs1_7 ≤ ra1_7) ∧ (ra1_7 ≤ nt) ∧ ((r_7 = 1 ∧ True) ∨ (r_7 = 0 ∧ True)) := hq_7
      obtain ⟨hp_7_0, hp_7_1, hq_7⟩ := hq_7
      rcases hq_7 with ⟨rfl, hq_7⟩ | ⟨rfl, hq_7⟩
      ·
        refine lv_if_ne (tgt := 72) hx hb dX4_readOp_67 (by decide) (fun _ => ?_) (fun h9 => absurd h9 (by decide))
        refine lv_aload_n hx hb dX4_readOp_72 rfl (lv_at hl 1 rfl) ?_
        refine va_get (D := D) (ci := 4) (v := .ref aD) (C := RX4) (T := TX4) (N := 9) hx hb hts iuX4_readOp_X4 hown hK hP 0 rfl rfl 1 (by decide) (htw (.fieldLink RX4 37 "MergeJudge$Reader" "draft" "LMergeJudge$Base;") (List.mem_of_getElem? (i := 0) rfl)) (fun _ h9 => h9) rfl dX4_readOp_73 ?_
        refine lv_dup hx hb dX4_readOp_76 rfl ?_
        refine va_get (D := D) (ci := 0) (v := .int (nI qno)) (C := RX0) (T := TX0) (N := 15) hx hb hts iuX4_readOp_X0 hown hK hP 3 rfl rfl 6 (by decide) (htw (.fieldLink RX4 131 "MergeJudge$Base" "ops" "I") (List.mem_of_getElem? (i := 1) rfl)) (fun _ h9 => h9) rfl dX4_readOp_77 ?_
        refine lv_iconst (v := 1) hx hb dX4_readOp_80 (by decide) ?_
        refine lv_iadd hx hb dX4_readOp_81 ?_
        refine cf_i (nI (qno + 1)) (nI_add qno 1) ?_
        refine va_put (D := D) (ci := 0) (v := .int (nI (qno + 1))) (ty := .int) (C := RX0) (T := TX0) (N := 15) hx hb hts iuX4_readOp_X0 tyX0 tyX0_ok nmX0 hown hK hP hD hS 3 rfl rfl 6 (by decide) (htw (.fieldLink RX4 131 "MergeJudge$Base" "ops" "I") (List.mem_of_getElem? (i := 1) rfl)) (fun _ h9 => h9) rfl (by decide +kernel) rfl rfl (Nat.le_of_ble_eq_true rfl) dX4_readOp_82 (fun H locs hP hD hS => ?_)
        have hP : va_P D vwCl [(aR, .inr (4, [.ref aT, .ref aD, .int rt1_7, .int (nI rs1_7), .int (nI ra1_7), .int rn1_7, .int rp, .int rk1_7, .int rf1_7])), (aT, .inr (7, [.ref tb, .int (nI nt)])), (tb, .inl (cs 0, 400, .inl ft)), (aD, .inr (0, [.int qli, .int (nI qtp), .int qlw, .int qod, .int (nI qnc), .int (nI qnr), .int (nI (qno + 1)), .int (nI qna), .int qdr, .int qlo, .ref qr0, .ref qr1, .ref qr2, .ref qr3, .ref qr4])), (qr2, .inl (cs 1, 20, .inl qf21_7))] H := hP
        have hD : va_D A [(aR, .inr (4, [.ref aT, .ref aD, .int rt1_7, .int (nI rs1_7), .int (nI ra1_7), .int rn1_7, .int rp, .int rk1_7, .int rf1_7])), (aT, .inr (7, [.ref tb, .int (nI nt)])), (tb, .inl (cs 0, 400, .inl ft)), (aD, .inr (0, [.int qli, .int (nI qtp), .int qlw, .int qod, .int (nI qnc), .int (nI qnr), .int (nI (qno + 1)), .int (nI qna), .int qdr, .int qlo, .ref qr0, .ref qr1, .ref qr2, .ref qr3, .ref qr4])), (qr2, .inl (cs 1, 20, .inl qf21_7))] := hD
        refine lv_iconst (v := 1) hx hb dX4_readOp_85 (by decide) ?_
        exact ret_z hx hb hr hlk hS (Nat.le_of_ble_eq_true rfl) (Nat.le_of_ble_eq_true rfl) (by decide) (rt1_7, rs1_7, ra1_7, rn1_7, rk1_7, rf1_7, qno + 1, qf21_7) (⟨(by omega), (by omega), (by omega), Or.inl ⟨rfl, trivial⟩⟩) (hP.sub [0, 1, 2, 3, 4] rfl) (hD.sub [0, 1, 2, 3, 4] (by decide) rfl) dX4_readOp_86
      ·
        refine lv_if_ne (tgt := 72) hx hb dX4_readOp_67 (by decide) (fun h9 => absurd h9 (by decide)) (fun _ => ?_)
        refine lv_iconst (v := 0) hx hb dX4_readOp_70 (by decide) ?_
        exact ret_z hx hb hr hlk hS (Nat.le_of_ble_eq_true rfl) (Nat.le_of_ble_eq_true rfl) (by decide) (rt1_7, rs1_7, ra1_7, rn1_7, rk1_7, rf1_7, qno, qf21_7) (⟨(by omega), (by omega), (by omega), Or.inr (⟨rfl, trivial⟩)⟩) (hP.sub [0, 1, 2, 3, 4] rfl) (hD.sub [0, 1, 2, 3, 4] (by decide) rfl) dX4_readOp_71
    ·
      refine lv_istore_n (lv' := [(1, .int 1), (0, .ref aR)]) hx hb dX4_readOp_25 rfl hl (by decide) rfl (fun ls hl => ?_)
      refine lv_iload_n hx hb dX4_readOp_26 rfl (lv_at hl 0 rfl) ?_
      refine lv_iconst (v := (-1)) hx hb dX4_readOp_27 (by decide) ?_
      refine lv_icmp_ne (tgt := 37) hx hb dX4_readOp_28 (by decide) (fun _ => ?_) (fun h9 => absurd h9 (by decide))
      refine lv_aload_n hx hb dX4_readOp_37 rfl (lv_at hl 1 rfl) ?_
      refine aft_v (wr := [(aD, .inr (0, [.int qli, .int (nI qtp), .int qlw, .int qod, .int (nI qnc), .int (nI qnr), .int (nI qno), .int (nI qna), .int qdr, .int qlo, .ref qr0, .ref qr1, .ref qr2, .ref qr3, .ref qr4])), (qr2, .inl (cs 1, 20, .inl qf2))]) hP hD hS hA [2, 3, 4] [0, 1] rfl rfl (by decide) (by decide) (run_v (As := []) (rest := []) hFix hK hE hP hD [2, 3, 4] (k_X4_next l D cs _ aR aT aD rt1_2 rn1_2 rp rk rf tb ft rs1_2 ra1_2 nt (by first | assumption | decide | omega) (by first | assumption | decide | omega)) (cwV 0 hts gc_X4_readOp_46_X4_next rfl rfl rfl (by decide +kernel) ⟨Nat.le_of_ble_eq_true rfl, Nat.le_of_ble_eq_true rfl⟩) rfl (by decide) rfl rfl rfl hl.1 rfl (Nat.le_of_ble_eq_true rfl) dX4_readOp_38 ⟨Nat.le_of_ble_eq_true rfl, Nat.le_of_ble_eq_true rfl⟩) (fun u_8 H locs hq_8 hP hD hS => ?_)
      obtain ⟨rt1_8, rs1_8, ra1_8, rn1_8⟩ := u_8
      have hP : va_P D vwCl [(aD, .inr (0, [.int qli, .int (nI qtp), .int qlw, .int qod, .int (nI qnc), .int (nI qnr), .int (nI qno), .int (nI qna), .int qdr, .int qlo, .ref qr0, .ref qr1, .ref qr2, .ref qr3, .ref qr4])), (qr2, .inl (cs 1, 20, .inl qf2)), (aR, .inr (4, [.ref aT, .ref aD, .int rt1_8, .int (nI rs1_8), .int (nI ra1_8), .int rn1_8, .int rp, .int rk, .int rf])), (aT, .inr (7, [.ref tb, .int (nI nt)])), (tb, .inl (cs 0, 400, .inl ft))] H := hP
      have hD : va_D A [(aD, .inr (0, [.int qli, .int (nI qtp), .int qlw, .int qod, .int (nI qnc), .int (nI qnr), .int (nI qno), .int (nI qna), .int qdr, .int qlo, .ref qr0, .ref qr1, .ref qr2, .ref qr3, .ref qr4])), (qr2, .inl (cs 1, 20, .inl qf2)), (aR, .inr (4, [.ref aT, .ref aD, .int rt1_8, .int (nI rs1_8), .int (nI ra1_8), .int rn1_8, .int rp, .int rk, .int rf])), (aT, .inr (7, [.ref tb, .int (nI nt)])), (tb, .inl (cs 0, 400, .inl ft))] := hD
      replace hq_8 : (rs1_8 ≤ ra1_8) ∧ (ra1_8 ≤ nt) := hq_8
      obtain ⟨hp_8_0, hp_8_1⟩ := hq_8
      refine lv_aload_n hx hb dX4_readOp_41 rfl (lv_at hl 1 rfl) ?_
      refine lv_iload_n hx hb dX4_readOp_42 rfl (lv_at hl 0 rfl) ?_
      refine lv_iload_n hx hb dX4_readOp_43 rfl (lv_at hl 0 rfl) ?_
      refine aft_r (wr := [(aD, .inr (0, [.int qli, .int (nI qtp), .int qlw, .int qod, .int (nI qnc), .int (nI qnr), .int (nI qno), .int (nI qna), .int qdr, .int qlo, .ref qr0, .ref qr1, .ref qr2, .ref qr3, .ref qr4])), (qr2, .inl (cs 1, 20, .inl qf2)), (aR, .inr (4, [.ref aT, .ref aD, .int rt1_8, .int (nI rs1_8), .int (nI ra1_8), .int rn1_8, .int rp, .int rk, .int rf])), (aT, .inr (7, [.ref tb, .int (nI nt)])), (tb, .inl (cs 0, 400, .inl ft))]) hP hD hS hA [] [0, 1, 2, 3, 4] rfl rfl (by decide) (by decide) (run_sS (As := [.int 1]) (rest := [.int 1, .ref aR]) hFix hK hE hV hP hD hS hA [] (k_X4_opShape l D cs _ aK aV 1) (va_cwS 1 hts gc_X4_readOp_137_X4_opShape rfl rfl rfl (by decide +kernel) ⟨Nat.le_of_ble_eq_true rfl, Nat.le_of_ble_eq_true rfl⟩) rfl (by decide) rfl hl.1 rfl (Nat.le_of_ble_eq_true rfl) dX4_readOp_44 ⟨Nat.le_of_ble_eq_true rfl, Nat.le_of_ble_eq_true rfl⟩) (fun u_9 H locs hq_9 hP hD hS => ?_)
      obtain ⟨w9_9, rfl⟩ : ∃ z, z = u_9 := ⟨_, rfl⟩
      have hP : va_P D vwCl [(aD, .inr (0, [.int qli, .int (nI qtp), .int qlw, .int qod, .int (nI qnc), .int (nI qnr), .int (nI qno), .int (nI qna), .int qdr, .int qlo, .ref qr0, .ref qr1, .ref qr2, .ref qr3, .ref qr4])), (qr2, .inl (cs 1, 20, .inl qf2)), (aR, .inr (4, [.ref aT, .ref aD, .int rt1_8, .int (nI rs1_8), .int (nI ra1_8), .int rn1_8, .int rp, .int rk, .int rf])), (aT, .inr (7, [.ref tb, .int (nI nt)])), (tb, .inl (cs 0, 400, .inl ft))] H := hP
      have hD : va_D A [(aD, .inr (0, [.int qli, .int (nI qtp), .int qlw, .int qod, .int (nI qnc), .int (nI qnr), .int (nI qno), .int (nI qna), .int qdr, .int qlo, .ref qr0, .ref qr1, .ref qr2, .ref qr3, .ref qr4])), (qr2, .inl (cs 1, 20, .inl qf2)), (aR, .inr (4, [.ref aT, .ref aD, .int rt1_8, .int (nI rs1_8), .int (nI ra1_8), .int rn1_8, .int rp, .int rk, .int rf])), (aT, .inr (7, [.ref tb, .int (nI nt)])), (tb, .inl (cs 0, 400, .inl ft))] := hD
      replace hq_9 : (w9_9 < nJS) := hq_9
      have hp_9_0 := hq_9
      refine lv_aload_n hx hb dX4_readOp_47 rfl (lv_at hl 1 rfl) ?_
      refine va_get (D := D) (ci := 4) (v := .ref aD) (C := RX4) (T := TX4) (N := 9) hx hb hts iuX4_readOp_X4 hown hK hP 2 rfl rfl 1 (by decide) (htw (.fieldLink RX4 37 "MergeJudge$Reader" "draft" "LMergeJudge$Base;") (List.mem_of_getElem? (i := 0) rfl)) (fun _ h9 => h9) rfl dX4_readOp_48 ?_
      refine va_get (D := D) (ci := 0) (v := .ref qr2) (C := RX0) (T := TX0) (N := 15) hx hb hts iuX4_readOp_X0 hown hK hP 0 rfl rfl 12 (by decide) (htw (.fieldLink RX4 140 "MergeJudge$Base" "opRows" "[I") (List.mem_of_getElem? (i := 14) rfl)) (fun _ h9 => h9) rfl dX4_readOp_51 ?_
      refine lv_aload_n hx hb dX4_readOp_54 rfl (lv_at hl 1 rfl) ?_
      refine va_get (D := D) (ci := 4) (v := .ref aD) (C := RX4) (T := TX4) (N := 9) hx hb hts iuX4_readOp_X4 hown hK hP 2 rfl rfl 1 (by decide) (htw (.fieldLink RX4 37 "MergeJudge$Reader" "draft" "LMergeJudge$Base;") (List.mem_of_getElem? (i := 0) rfl)) (fun _ h9 => h9) rfl dX4_readOp_55 ?_
      refine va_get (D := D) (ci := 0) (v := .int (nI qno)) (C := RX0) (T := TX0) (N := 15) hx hb hts iuX4_readOp_X0 hown hK hP 0 rfl rfl 6 (by decide) (htw (.fieldLink RX4 131 "MergeJudge$Base" "ops" "I") (List.mem_of_getElem? (i := 1) rfl)) (fun _ h9 => h9) rfl dX4_readOp_58 ?_
      refine lv_iconst (v := 4) hx hb dX4_readOp_61 (by decide) ?_
      refine lv_imul hx hb dX4_readOp_62 ?_
      refine cf_i (nI (qno * 4)) (pk_mul qno 4) ?_
      refine lv_iconst (v := 4) hx hb dX4_readOp_63 (by decide) ?_
      refine aft_i (wr := []) hP hD hS hA [2, 3, 4, 0, 1] [] rfl rfl (by decide) (by decide) (run_vS (As := [.int 1, .ref (aK w9_9), .ref qr2, .int (nI (qno * 4)), .int 4]) (rest := []) hFix hK hE hV hP hD hS hA [2, 3, 4, 0, 1] (k_X4_passNumbers_o l D cs _ aK aV aR 1 qr2 (qno * 4) w9_9 aT aD rt1_8 rn1_8 rp rk rf tb ft qli qlw qod qdr qlo qr0 qr1 qr3 qr4 qf2 rs1_8 ra1_8 nt qtp qnc qnr qno qna (by first | assumption | decide | omega) (by first | assumption | decide | omega) (by first | assumption | decide | omega) (by first | assumption | decide | omega) (by first | assumption | decide | omega) (by first | assumption | decide | omega) (by first | assumption | decide | omega) (by first | assumption | decide | omega) (by first | assumption | decide | omega) (by first | assumption | decide | omega)) (cwV 5 hts gc_X4_readOp_127_X4_passNumbers rfl rfl rfl (by decide +kernel) ⟨Nat.le_of_ble_eq_true rfl, Nat.le_of_ble_eq_true rfl⟩) rfl (by decide) (rcv hK hP [2, 3, 4, 0, 1] rfl rfl rfl) rfl hl.1 rfl (Nat.le_of_ble_eq_true rfl) dX4_readOp_64 ⟨Nat.le_of_ble_eq_true rfl, Nat.le_of_ble_eq_true rfl⟩) (fun r_10 u_10 H locs hq_10 hP hD hS => ?_)
      obtain ⟨rt1_10, rs1_10, ra1_10, rn1_10, rk1_10, rf1_10, qf21_10⟩ := u_10
      have hP : va_P D vwCl [(aR, .inr (4, [.ref aT, .ref aD, .int rt1_10, .int (nI rs1_10), .int (nI ra1_10), .int rn1_10, .int rp, .int rk1_10, .int rf1_10])), (aT, .inr (7, [.ref tb, .int (nI nt)])), (tb, .inl (cs 0, 400, .inl ft)), (aD, .inr (0, [.int qli, .int (nI qtp), .int qlw, .int qod, .int (nI qnc), .int (nI qnr), .int (nI qno), .int (nI qna), .int qdr, .int qlo, .ref qr0, .ref qr1, .ref qr2, .ref qr3, .ref qr4])), (qr2, .inl (cs 1, 20, .inl qf21_10))] H := hP
      have hD : va_D A [(aR, .inr (4, [.ref aT, .ref aD, .int rt1_10, .int (nI rs1_10), .int (nI ra1_10), .int rn1_10, .int rp, .int rk1_10, .int rf1_10])), (aT, .inr (7, [.ref tb, .int (nI nt)])), (tb, .inl (cs 0, 400, .inl ft)), (aD, .inr (0, [.int qli, .int (nI qtp), .int qlw, .int qod, .int (nI qnc), .int (nI qnr), .int (nI qno), .int (nI qna), .int qdr, .int qlo, .ref qr0, .ref qr1, .ref qr2, .ref qr3, .ref qr4])), (qr2, .inl (cs 1, 20, .inl qf21_10))] := hD
      replace hq_10 : (rs1_10 ≤ ra1_10) ∧ (ra1_10 ≤ nt) ∧ ((r_10 = 1 ∧ True) ∨ (r_10 = 0 ∧ True)) := hq_10
      obtain ⟨hp_10_0, hp_10_1, hq_10⟩ := hq_10
      rcases hq_10 with ⟨rfl, hq_10⟩ | ⟨rfl, hq_10⟩
      ·
        refine lv_if_ne (tgt := 72) hx hb dX4_readOp_67 (by decide) (fun _ => ?_) (fun h9 => absurd h9 (by decide))
        refine lv_aload_n hx hb dX4_readOp_72 rfl (lv_at hl 1 rfl) ?_
        refine va_get (D := D) (ci := 4) (v := .ref aD) (C := RX4) (T := TX4) (N := 9) hx hb hts iuX4_readOp_X4 hown hK hP 0 rfl rfl 1 (by decide) (htw (.fieldLink RX4 37 "MergeJudge$Reader" "draft" "LMergeJudge$Base;") (List.mem_of_getElem? (i := 0) rfl)) (fun _ h9 => h9) rfl dX4_readOp_73 ?_
        refine lv_dup hx hb dX4_readOp_76 rfl ?_
        refine va_get (D := D) (ci := 0) (v := .int (nI qno)) (C := RX0) (T := TX0) (N := 15) hx hb hts iuX4_readOp_X0 hown hK hP 3 rfl rfl 6 (by decide) (htw (.fieldLink RX4 131 "MergeJudge$Base" "ops" "I") (List.mem_of_getElem? (i := 1) rfl)) (fun _ h9 => h9) rfl dX4_readOp_77 ?_
        refine lv_iconst (v := 1) hx hb dX4_readOp_80 (by decide) ?_
        refine lv_iadd hx hb dX4_readOp_81 ?_
        refine cf_i (nI (qno + 1)) (nI_add qno 1) ?_
        refine va_put (D := D) (ci := 0) (v := .int (nI (qno + 1))) (ty := .int) (C := RX0) (T := TX0) (N := 15) hx hb hts iuX4_readOp_X0 tyX0 tyX0_ok nmX0 hown hK hP hD hS 3 rfl rfl 6 (by decide) (htw (.fieldLink RX4 131 "MergeJudge$Base" "ops" "I") (List.mem_of_getElem? (i := 1) rfl)) (fun _ h9 => h9) rfl (by decide +kernel) rfl rfl (Nat.le_of_ble_eq_true rfl) dX4_readOp_82 (fun H locs hP hD hS => ?_)
        have hP : va_P D vwCl [(aR, .inr (4, [.ref aT, .ref aD, .int rt1_10, .int (nI rs1_10), .int (nI ra1_10), .int rn1_10, .int rp, .int rk1_10, .int rf1_10])), (aT, .inr (7, [.ref tb, .int (nI nt)])), (tb, .inl (cs 0, 400, .inl ft)), (aD, .inr (0, [.int qli, .int (nI qtp), .int qlw, .int qod, .int (nI qnc), .int (nI qnr), .int (nI (qno + 1)), .int (nI qna), .int qdr, .int qlo, .ref qr0, .ref qr1, .ref qr2, .ref qr3, .ref qr4])), (qr2, .inl (cs 1, 20, .inl qf21_10))] H := hP
        have hD : va_D A [(aR, .inr (4, [.ref aT, .ref aD, .int rt1_10, .int (nI rs1_10), .int (nI ra1_10), .int rn1_10, .int rp, .int rk1_10, .int rf1_10])), (aT, .inr (7, [.ref tb, .int (nI nt)])), (tb, .inl (cs 0, 400, .inl ft)), (aD, .inr (0, [.int qli, .int (nI qtp), .int qlw, .int qod, .int (nI qnc), .int (nI qnr), .int (nI (qno + 1)), .int (nI qna), .int qdr, .int qlo, .ref qr0, .ref qr1, .ref qr2, .ref qr3, .ref qr4])), (qr2, .inl (cs 1, 20, .inl qf21_10))] := hD
        refine lv_iconst (v := 1) hx hb dX4_readOp_85 (by decide) ?_
        exact ret_z hx hb hr hlk hS (Nat.le_of_ble_eq_true rfl) (Nat.le_of_ble_eq_true rfl) (by decide) (rt1_10, rs1_10, ra1_10, rn1_10, rk1_10, rf1_10, qno + 1, qf21_10) (⟨(by omega), (by omega), (by omega), Or.inl ⟨rfl, trivial⟩⟩) (hP.sub [0, 1, 2, 3, 4] rfl) (hD.sub [0, 1, 2, 3, 4] (by decide) rfl) dX4_readOp_86
      ·
        refine lv_if_ne (tgt := 72) hx hb dX4_readOp_67 (by decide) (fun h9 => absurd h9 (by decide)) (fun _ => ?_)
        refine lv_iconst (v := 0) hx hb dX4_readOp_70 (by decide) ?_
        exact ret_z hx hb hr hlk hS (Nat.le_of_ble_eq_true rfl) (Nat.le_of_ble_eq_true rfl) (by decide) (rt1_10, rs1_10, ra1_10, rn1_10, rk1_10, rf1_10, qno, qf21_10) (⟨(by omega), (by omega), (by omega), Or.inr (⟨rfl, trivial⟩)⟩) (hP.sub [0, 1, 2, 3, 4] rfl) (hD.sub [0, 1, 2, 3, 4] (by decide) rfl) dX4_readOp_71
    ·
      refine lv_istore_n (lv' := [(1, .int 2), (0, .ref aR)]) hx hb dX4_readOp_25 rfl hl (by decide) rfl (fun ls hl => ?_)
      refine lv_iload_n hx hb dX4_readOp_26 rfl (lv_at hl 0 rfl) ?_
      refine lv_iconst (v := (-1)) hx hb dX4_readOp_27 (by decide) ?_
      refine lv_icmp_ne (tgt := 37) hx hb dX4_readOp_28 (by decide) (fun _ => ?_) (fun h9 => absurd h9 (by decide))
      refine lv_aload_n hx hb dX4_readOp_37 rfl (lv_at hl 1 rfl) ?_
      refine aft_v (wr := [(aD, .inr (0, [.int qli, .int (nI qtp), .int qlw, .int qod, .int (nI qnc), .int (nI qnr), .int (nI qno), .int (nI qna), .int qdr, .int qlo, .ref qr0, .ref qr1, .ref qr2, .ref qr3, .ref qr4])), (qr2, .inl (cs 1, 20, .inl qf2))]) hP hD hS hA [2, 3, 4] [0, 1] rfl rfl (by decide) (by decide) (run_v (As := []) (rest := []) hFix hK hE hP hD [2, 3, 4] (k_X4_next l D cs _ aR aT aD rt1_2 rn1_2 rp rk rf tb ft rs1_2 ra1_2 nt (by first | assumption | decide | omega) (by first | assumption | decide | omega)) (cwV 0 hts gc_X4_readOp_46_X4_next rfl rfl rfl (by decide +kernel) ⟨Nat.le_of_ble_eq_true rfl, Nat.le_of_ble_eq_true rfl⟩) rfl (by decide) rfl rfl rfl hl.1 rfl (Nat.le_of_ble_eq_true rfl) dX4_readOp_38 ⟨Nat.le_of_ble_eq_true rfl, Nat.le_of_ble_eq_true rfl⟩) (fun u_11 H locs hq_11 hP hD hS => ?_)
      obtain ⟨rt1_11, rs1_11, ra1_11, rn1_11⟩ := u_11
      have hP : va_P D vwCl [(aD, .inr (0, [.int qli, .int (nI qtp), .int qlw, .int qod, .int (nI qnc), .int (nI qnr), .int (nI qno), .int (nI qna), .int qdr, .int qlo, .ref qr0, .ref qr1, .ref qr2, .ref qr3, .ref qr4])), (qr2, .inl (cs 1, 20, .inl qf2)), (aR, .inr (4, [.ref aT, .ref aD, .int rt1_11, .int (nI rs1_11), .int (nI ra1_11), .int rn1_11, .int rp, .int rk, .int rf])), (aT, .inr (7, [.ref tb, .int (nI nt)])), (tb, .inl (cs 0, 400, .inl ft))] H := hP
      have hD : va_D A [(aD, .inr (0, [.int qli, .int (nI qtp), .int qlw, .int qod, .int (nI qnc), .int (nI qnr), .int (nI qno), .int (nI qna), .int qdr, .int qlo, .ref qr0, .ref qr1, .ref qr2, .ref qr3, .ref qr4])), (qr2, .inl (cs 1, 20, .inl qf2)), (aR, .inr (4, [.ref aT, .ref aD, .int rt1_11, .int (nI rs1_11), .int (nI ra1_11), .int rn1_11, .int rp, .int rk, .int rf])), (aT, .inr (7, [.ref tb, .int (nI nt)])), (tb, .inl (cs 0, 400, .inl ft))] := hD
      replace hq_11 : (rs1_11 ≤ ra1_11) ∧ (ra1_11 ≤ nt) := hq_11
      obtain ⟨hp_11_0, hp_11_1⟩ := hq_11
      refine lv_aload_n hx hb dX4_readOp_41 rfl (lv_at hl 1 rfl) ?_
      refine lv_iload_n hx hb dX4_readOp_42 rfl (lv_at hl 0 rfl) ?_
      refine lv_iload_n hx hb dX4_readOp_43 rfl (lv_at hl 0 rfl) ?_
      refine aft_r (wr := [(aD, .inr (0, [.int qli, .int (nI qtp), .int qlw, .int qod, .int (nI qnc), .int (nI qnr), .int (nI qno), .int (nI qna), .int qdr, .int qlo, .ref qr0, .ref qr1, .ref qr2, .ref qr3, .ref qr4])), (qr2, .inl (cs 1, 20, .inl qf2)), (aR, .inr (4, [.ref aT, .ref aD, .int rt1_11, .int (nI rs1_11), .int (nI ra1_11), .int rn1_11, .int rp, .int rk, .int rf])), (aT, .inr (7, [.ref tb, .int (nI nt)])), (tb, .inl (cs 0, 400, .inl ft))]) hP hD hS hA [] [0, 1, 2, 3, 4] rfl rfl (by decide) (by decide) (run_sS (As := [.int 2]) (rest := [.int 2, .ref aR]) hFix hK hE hV hP hD hS hA [] (k_X4_opShape l D cs _ aK aV 2) (va_cwS 1 hts gc_X4_readOp_137_X4_opShape rfl rfl rfl (by decide +kernel) ⟨Nat.le_of_ble_eq_true rfl, Nat.le_of_ble_eq_true rfl⟩) rfl (by decide) rfl hl.1 rfl (Nat.le_of_ble_eq_true rfl) dX4_readOp_44 ⟨Nat.le_of_ble_eq_true rfl, Nat.le_of_ble_eq_true rfl⟩) (fun u_12 H locs hq_12 hP hD hS => ?_)
      obtain ⟨w9_12, rfl⟩ : ∃ z, z = u_12 := ⟨_, rfl⟩
      have hP : va_P D vwCl [(aD, .inr (0, [.int qli, .int (nI qtp), .int qlw, .int qod, .int (nI qnc), .int (nI qnr), .int (nI qno), .int (nI qna), .int qdr, .int qlo, .ref qr0, .ref qr1, .ref qr2, .ref qr3, .ref qr4])), (qr2, .inl (cs 1, 20, .inl qf2)), (aR, .inr (4, [.ref aT, .ref aD, .int rt1_11, .int (nI rs1_11), .int (nI ra1_11), .int rn1_11, .int rp, .int rk, .int rf])), (aT, .inr (7, [.ref tb, .int (nI nt)])), (tb, .inl (cs 0, 400, .inl ft))] H := hP
      have hD : va_D A [(aD, .inr (0, [.int qli, .int (nI qtp), .int qlw, .int qod, .int (nI qnc), .int (nI qnr), .int (nI qno), .int (nI qna), .int qdr, .int qlo, .ref qr0, .ref qr1, .ref qr2, .ref qr3, .ref qr4])), (qr2, .inl (cs 1, 20, .inl qf2)), (aR, .inr (4, [.ref aT, .ref aD, .int rt1_11, .int (nI rs1_11), .int (nI ra1_11), .int rn1_11, .int rp, .int rk, .int rf])), (aT, .inr (7, [.ref tb, .int (nI nt)])), (tb, .inl (cs 0, 400, .inl ft))] := hD
      replace hq_12 : (w9_12 < nJS) := hq_12
      have hp_12_0 := hq_12
      refine lv_aload_n hx hb dX4_readOp_47 rfl (lv_at hl 1 rfl) ?_
      refine va_get (D := D) (ci := 4) (v := .ref aD) (C := RX4) (T := TX4) (N := 9) hx hb hts iuX4_readOp_X4 hown hK hP 2 rfl rfl 1 (by decide) (htw (.fieldLink RX4 37 "MergeJudge$Reader" "draft" "LMergeJudge$Base;") (List.mem_of_getElem? (i := 0) rfl)) (fun _ h9 => h9) rfl dX4_readOp_48 ?_
      refine va_get (D := D) (ci := 0) (v := .ref qr2) (C := RX0) (T := TX0) (N := 15) hx hb hts iuX4_readOp_X0 hown hK hP 0 rfl rfl 12 (by decide) (htw (.fieldLink RX4 140 "MergeJudge$Base" "opRows" "[I") (List.mem_of_getElem? (i := 14) rfl)) (fun _ h9 => h9) rfl dX4_readOp_51 ?_
      refine lv_aload_n hx hb dX4_readOp_54 rfl (lv_at hl 1 rfl) ?_
      refine va_get (D := D) (ci := 4) (v := .ref aD) (C := RX4) (T := TX4) (N := 9) hx hb hts iuX4_readOp_X4 hown hK hP 2 rfl rfl 1 (by decide) (htw (.fieldLink RX4 37 "MergeJudge$Reader" "draft" "LMergeJudge$Base;") (List.mem_of_getElem? (i := 0) rfl)) (fun _ h9 => h9) rfl dX4_readOp_55 ?_
      refine va_get (D := D) (ci := 0) (v := .int (nI qno)) (C := RX0) (T := TX0) (N := 15) hx hb hts iuX4_readOp_X0 hown hK hP 0 rfl rfl 6 (by decide) (htw (.fieldLink RX4 131 "MergeJudge$Base" "ops" "I") (List.mem_of_getElem? (i := 1) rfl)) (fun _ h9 => h9) rfl dX4_readOp_58 ?_
      refine lv_iconst (v := 4) hx hb dX4_readOp_61 (by decide) ?_
      refine lv_imul hx hb dX4_readOp_62 ?_
      refine cf_i (nI (qno * 4)) (pk_mul qno 4) ?_
      refine lv_iconst (v := 4) hx hb dX4_readOp_63 (by decide) ?_
      refine aft_i (wr := []) hP hD hS hA [2, 3, 4, 0, 1] [] rfl rfl (by decide) (by decide) (run_vS (As := [.int 2, .ref (aK w9_12), .ref qr2, .int (nI (qno * 4)), .int 4]) (rest := []) hFix hK hE hV hP hD hS hA [2, 3, 4, 0, 1] (k_X4_passNumbers_o l D cs _ aK aV aR 2 qr2 (qno * 4) w9_12 aT aD rt1_11 rn1_11 rp rk rf tb ft qli qlw qod qdr qlo qr0 qr1 qr3 qr4 qf2 rs1_11 ra1_11 nt qtp qnc qnr qno qna (by first | assumption | decide | omega) (by first | assumption | decide | omega) (by first | assumption | decide | omega) (by first | assumption | decide | omega) (by first | assumption | decide | omega) (by first | assumption | decide | omega) (by first | assumption | decide | omega) (by first | assumption | decide | omega) (by first | assumption | decide | omega) (by first | assumption | decide | omega)) (cwV 5 hts gc_X4_readOp_127_X4_passNumbers rfl rfl rfl (by decide +kernel) ⟨Nat.le_of_ble_eq_true rfl, Nat.le_of_ble_eq_true rfl⟩) rfl (by decide) (rcv hK hP [2, 3, 4, 0, 1] rfl rfl rfl) rfl hl.1 rfl (Nat.le_of_ble_eq_true rfl) dX4_readOp_64 ⟨Nat.le_of_ble_eq_true rfl, Nat.le_of_ble_eq_true rfl⟩) (fun r_13 u_13 H locs hq_13 hP hD hS => ?_)
      obtain ⟨rt1_13, rs1_13, ra1_13, rn1_13, rk1_13, rf1_13, qf21_13⟩ := u_13
      have hP : va_P D vwCl [(aR, .inr (4, [.ref aT, .ref aD, .int rt1_13, .int (nI rs1_13), .int (nI ra1_13), .int rn1_13, .int rp, .int rk1_13, .int rf1_13])), (aT, .inr (7, [.ref tb, .int (nI nt)])), (tb, .inl (cs 0, 400, .inl ft)), (aD, .inr (0, [.int qli, .int (nI qtp), .int qlw, .int qod, .int (nI qnc), .int (nI qnr), .int (nI qno), .int (nI qna), .int qdr, .int qlo, .ref qr0, .ref qr1, .ref qr2, .ref qr3, .ref qr4])), (qr2, .inl (cs 1, 20, .inl qf21_13))] H := hP
      have hD : va_D A [(aR, .inr (4, [.ref aT, .ref aD, .int rt1_13, .int (nI rs1_13), .int (nI ra1_13), .int rn1_13, .int rp, .int rk1_13, .int rf1_13])), (aT, .inr (7, [.ref tb, .int (nI nt)])), (tb, .inl (cs 0, 400, .inl ft)), (aD, .inr (0, [.int qli, .int (nI qtp), .int qlw, .int qod, .int (nI qnc), .int (nI qnr), .int (nI qno), .int (nI qna), .int qdr, .int qlo, .ref qr0, .ref qr1, .ref qr2, .ref qr3, .ref qr4])), (qr2, .inl (cs 1, 20, .inl qf21_13))] := hD
      replace hq_13 : (rs1_13 ≤ ra1_13) ∧ (ra1_13 ≤ nt) ∧ ((r_13 = 1 ∧ True) ∨ (r_13 = 0 ∧ True)) := hq_13
      obtain ⟨hp_13_0, hp_13_1, hq_13⟩ := hq_13
      rcases hq_13 with ⟨rfl, hq_13⟩ | ⟨rfl, hq_13⟩
      ·
        refine lv_if_ne (tgt := 72) hx hb dX4_readOp_67 (by decide) (fun _ => ?_) (fun h9 => absurd h9 (by decide))
        refine lv_aload_n hx hb dX4_readOp_72 rfl (lv_at hl 1 rfl) ?_
        refine va_get (D := D) (ci := 4) (v := .ref aD) (C := RX4) (T := TX4) (N := 9) hx hb hts iuX4_readOp_X4 hown hK hP 0 rfl rfl 1 (by decide) (htw (.fieldLink RX4 37 "MergeJudge$Reader" "draft" "LMergeJudge$Base;") (List.mem_of_getElem? (i := 0) rfl)) (fun _ h9 => h9) rfl dX4_readOp_73 ?_
        refine lv_dup hx hb dX4_readOp_76 rfl ?_
        refine va_get (D := D) (ci := 0) (v := .int (nI qno)) (C := RX0) (T := TX0) (N := 15) hx hb hts iuX4_readOp_X0 hown hK hP 3 rfl rfl 6 (by decide) (htw (.fieldLink RX4 131 "MergeJudge$Base" "ops" "I") (List.mem_of_getElem? (i := 1) rfl)) (fun _ h9 => h9) rfl dX4_readOp_77 ?_
        refine lv_iconst (v := 1) hx hb dX4_readOp_80 (by decide) ?_
        refine lv_iadd hx hb dX4_readOp_81 ?_
        refine cf_i (nI (qno + 1)) (nI_add qno 1) ?_
        refine va_put (D := D) (ci := 0) (v := .int (nI (qno + 1))) (ty := .int) (C := RX0) (T := TX0) (N := 15) hx hb hts iuX4_readOp_X0 tyX0 tyX0_ok nmX0 hown hK hP hD hS 3 rfl rfl 6 (by decide) (htw (.fieldLink RX4 131 "MergeJudge$Base" "ops" "I") (List.mem_of_getElem? (i := 1) rfl)) (fun _ h9 => h9) rfl (by decide +kernel) rfl rfl (Nat.le_of_ble_eq_true rfl) dX4_readOp_82 (fun H locs hP hD hS => ?_)
        have hP : va_P D vwCl [(aR, .inr (4, [.ref aT, .ref aD, .int rt1_13, .int (nI rs1_13), .int (nI ra1_13), .int rn1_13, .int rp, .int rk1_13, .int rf1_13])), (aT, .inr (7, [.ref tb, .int (nI nt)])), (tb, .inl (cs 0, 400, .inl ft)), (aD, .inr (0, [.int qli, .int (nI qtp), .int qlw, .int qod, .int (nI qnc), .int (nI qnr), .int (nI (qno + 1)), .int (nI qna), .int qdr, .int qlo, .ref qr0, .ref qr1, .ref qr2, .ref qr3, .ref qr4])), (qr2, .inl (cs 1, 20, .inl qf21_13))] H := hP
        have hD : va_D A [(aR, .inr (4, [.ref aT, .ref aD, .int rt1_13, .int (nI rs1_13), .int (nI ra1_13), .int rn1_13, .int rp, .int rk1_13, .int rf1_13])), (aT, .inr (7, [.ref tb, .int (nI nt)])), (tb, .inl (cs 0, 400, .inl ft)), (aD, .inr (0, [.int qli, .int (nI qtp), .int qlw, .int qod, .int (nI qnc), .int (nI qnr), .int (nI (qno + 1)), .int (nI qna), .int qdr, .int qlo, .ref qr0, .ref qr1, .ref qr2, .ref qr3, .ref qr4])), (qr2, .inl (cs 1, 20, .inl qf21_13))] := hD
        refine lv_iconst (v := 1) hx hb dX4_readOp_85 (by decide) ?_
        exact ret_z hx hb hr hlk hS (Nat.le_of_ble_eq_true rfl) (Nat.le_of_ble_eq_true rfl) (by decide) (rt1_13, rs1_13, ra1_13, rn1_13, rk1_13, rf1_13, qno + 1, qf21_13) (⟨(by omega), (by omega), (by omega), Or.inl ⟨rfl, trivial⟩⟩) (hP.sub [0, 1, 2, 3, 4] rfl) (hD.sub [0, 1, 2, 3, 4] (by decide) rfl) dX4_readOp_86
      ·
        refine lv_if_ne (tgt := 72) hx hb dX4_readOp_67 (by decide) (fun h9 => absurd h9 (by decide)) (fun _ => ?_)
        refine lv_iconst (v := 0) hx hb dX4_readOp_70 (by decide) ?_
        exact ret_z hx hb hr hlk hS (Nat.le_of_ble_eq_true rfl) (Nat.le_of_ble_eq_true rfl) (by decide) (rt1_13, rs1_13, ra1_13, rn1_13, rk1_13, rf1_13, qno, qf21_13) (⟨(by omega), (by omega), (by omega), Or.inr (⟨rfl, trivial⟩)⟩) (hP.sub [0, 1, 2, 3, 4] rfl) (hD.sub [0, 1, 2, 3, 4] (by decide) rfl) dX4_readOp_71
    ·
      refine lv_istore_n (lv' := [(1, .int 3), (0, .ref aR)]) hx hb dX4_readOp_25 rfl hl (by decide) rfl (fun ls hl => ?_)
      refine lv_iload_n hx hb dX4_readOp_26 rfl (lv_at hl 0 rfl) ?_
      refine lv_iconst (v := (-1)) hx hb dX4_readOp_27 (by decide) ?_
      refine lv_icmp_ne (tgt := 37) hx hb dX4_readOp_28 (by decide) (fun _ => ?_) (fun h9 => absurd h9 (by decide))
      refine lv_aload_n hx hb dX4_readOp_37 rfl (lv_at hl 1 rfl) ?_
      refine aft_v (wr := [(aD, .inr (0, [.int qli, .int (nI qtp), .int qlw, .int qod, .int (nI qnc), .int (nI qnr), .int (nI qno), .int (nI qna), .int qdr, .int qlo, .ref qr0, .ref qr1, .ref qr2, .ref qr3, .ref qr4])), (qr2, .inl (cs 1, 20, .inl qf2))]) hP hD hS hA [2, 3, 4] [0, 1] rfl rfl (by decide) (by decide) (run_v (As := []) (rest := []) hFix hK hE hP hD [2, 3, 4] (k_X4_next l D cs _ aR aT aD rt1_2 rn1_2 rp rk rf tb ft rs1_2 ra1_2 nt (by first | assumption | decide | omega) (by first | assumption | decide | omega)) (cwV 0 hts gc_X4_readOp_46_X4_next rfl rfl rfl (by decide +kernel) ⟨Nat.le_of_ble_eq_true rfl, Nat.le_of_ble_eq_true rfl⟩) rfl (by decide) rfl rfl rfl hl.1 rfl (Nat.le_of_ble_eq_true rfl) dX4_readOp_38 ⟨Nat.le_of_ble_eq_true rfl, Nat.le_of_ble_eq_true rfl⟩) (fun u_14 H locs hq_14 hP hD hS => ?_)
      obtain ⟨rt1_14, rs1_14, ra1_14, rn1_14⟩ := u_14
      have hP : va_P D vwCl [(aD, .inr (0, [.int qli, .int (nI qtp), .int qlw, .int qod, .int (nI qnc), .int (nI qnr), .int (nI qno), .int (nI qna), .int qdr, .int qlo, .ref qr0, .ref qr1, .ref qr2, .ref qr3, .ref qr4])), (qr2, .inl (cs 1, 20, .inl qf2)), (aR, .inr (4, [.ref aT, .ref aD, .int rt1_14, .int (nI rs1_14), .int (nI ra1_14), .int rn1_14, .int rp, .int rk, .int rf])), (aT, .inr (7, [.ref tb, .int (nI nt)])), (tb, .inl (cs 0, 400, .inl ft))] H := hP
      have hD : va_D A [(aD, .inr (0, [.int qli, .int (nI qtp), .int qlw, .int qod, .int (nI qnc), .int (nI qnr), .int (nI qno), .int (nI qna), .int qdr, .int qlo, .ref qr0, .ref qr1, .ref qr2, .ref qr3, .ref qr4])), (qr2, .inl (cs 1, 20, .inl qf2)), (aR, .inr (4, [.ref aT, .ref aD, .int rt1_14, .int (nI rs1_14), .int (nI ra1_14), .int rn1_14, .int rp, .int rk, .int rf])), (aT, .inr (7, [.ref tb, .int (nI nt)])), (tb, .inl (cs 0, 400, .inl ft))] := hD
      replace hq_14 : (rs1_14 ≤ ra1_14) ∧ (ra1_14 ≤ nt) := hq_14
      obtain ⟨hp_14_0, hp_14_1⟩ := hq_14
      refine lv_aload_n hx hb dX4_readOp_41 rfl (lv_at hl 1 rfl) ?_
      refine lv_iload_n hx hb dX4_readOp_42 rfl (lv_at hl 0 rfl) ?_
      refine lv_iload_n hx hb dX4_readOp_43 rfl (lv_at hl 0 rfl) ?_
      refine aft_r (wr := [(aD, .inr (0, [.int qli, .int (nI qtp), .int qlw, .int qod, .int (nI qnc), .int (nI qnr), .int (nI qno), .int (nI qna), .int qdr, .int qlo, .ref qr0, .ref qr1, .ref qr2, .ref qr3, .ref qr4])), (qr2, .inl (cs 1, 20, .inl qf2)), (aR, .inr (4, [.ref aT, .ref aD, .int rt1_14, .int (nI rs1_14), .int (nI ra1_14), .int rn1_14, .int rp, .int rk, .int rf])), (aT, .inr (7, [.ref tb, .int (nI nt)])), (tb, .inl (cs 0, 400, .inl ft))]) hP hD hS hA [] [0, 1, 2, 3, 4] rfl rfl (by decide) (by decide) (run_sS (As := [.int 3]) (rest := [.int 3, .ref aR]) hFix hK hE hV hP hD hS hA [] (k_X4_opShape l D cs _ aK aV 3) (va_cwS 1 hts gc_X4_readOp_137_X4_opShape rfl rfl rfl (by decide +kernel) ⟨Nat.le_of_ble_eq_true rfl, Nat.le_of_ble_eq_true rfl⟩) rfl (by decide) rfl hl.1 rfl (Nat.le_of_ble_eq_true rfl) dX4_readOp_44 ⟨Nat.le_of_ble_eq_true rfl, Nat.le_of_ble_eq_true rfl⟩) (fun u_15 H locs hq_15 hP hD hS => ?_)
      obtain ⟨w9_15, rfl⟩ : ∃ z, z = u_15 := ⟨_, rfl⟩
      have hP : va_P D vwCl [(aD, .inr (0, [.int qli, .int (nI qtp), .int qlw, .int qod, .int (nI qnc), .int (nI qnr), .int (nI qno), .int (nI qna), .int qdr, .int qlo, .ref qr0, .ref qr1, .ref qr2, .ref qr3, .ref qr4])), (qr2, .inl (cs 1, 20, .inl qf2)), (aR, .inr (4, [.ref aT, .ref aD, .int rt1_14, .int (nI rs1_14), .int (nI ra1_14), .int rn1_14, .int rp, .int rk, .int rf])), (aT, .inr (7, [.ref tb, .int (nI nt)])), (tb, .inl (cs 0, 400, .inl ft))] H := hP
      have hD : va_D A [(aD, .inr (0, [.int qli, .int (nI qtp), .int qlw, .int qod, .int (nI qnc), .int (nI qnr), .int (nI qno), .int (nI qna), .int qdr, .int qlo, .ref qr0, .ref qr1, .ref qr2, .ref qr3, .ref qr4])), (qr2, .inl (cs 1, 20, .inl qf2)), (aR, .inr (4, [.ref aT, .ref aD, .int rt1_14, .int (nI rs1_14), .int (nI ra1_14), .int rn1_14, .int rp, .int rk, .int rf])), (aT, .inr (7, [.ref tb, .int (nI nt)])), (tb, .inl (cs 0, 400, .inl ft))] := hD
      replace hq_15 : (w9_15 < nJS) := hq_15
      have hp_15_0 := hq_15
      refine lv_aload_n hx hb dX4_readOp_47 rfl (lv_at hl 1 rfl) ?_
      refine va_get (D := D) (ci := 4) (v := .ref aD) (C := RX4) (T := TX4) (N := 9) hx hb hts iuX4_readOp_X4 hown hK hP 2 rfl rfl 1 (by decide) (htw (.fieldLink RX4 37 "MergeJudge$Reader" "draft" "LMergeJudge$Base;") (List.mem_of_getElem? (i := 0) rfl)) (fun _ h9 => h9) rfl dX4_readOp_48 ?_
      refine va_get (D := D) (ci := 0) (v := .ref qr2) (C := RX0) (T := TX0) (N := 15) hx hb hts iuX4_readOp_X0 hown hK hP 0 rfl rfl 12 (by decide) (htw (.fieldLink RX4 140 "MergeJudge$Base" "opRows" "[I") (List.mem_of_getElem? (i := 14) rfl)) (fun _ h9 => h9) rfl dX4_readOp_51 ?_
      refine lv_aload_n hx hb dX4_readOp_54 rfl (lv_at hl 1 rfl) ?_
      refine va_get (D := D) (ci := 4) (v := .ref aD) (C := RX4) (T := TX4) (N := 9) hx hb hts iuX4_readOp_X4 hown hK hP 2 rfl rfl 1 (by decide) (htw (.fieldLink RX4 37 "MergeJudge$Reader" "draft" "LMergeJudge$Base;") (List.mem_of_getElem? (i := 0) rfl)) (fun _ h9 => h9) rfl dX4_readOp_55 ?_
      refine va_get (D := D) (ci := 0) (v := .int (nI qno)) (C := RX0) (T := TX0) (N := 15) hx hb hts iuX4_readOp_X0 hown hK hP 0 rfl rfl 6 (by decide) (htw (.fieldLink RX4 131 "MergeJudge$Base" "ops" "I") (List.mem_of_getElem? (i := 1) rfl)) (fun _ h9 => h9) rfl dX4_readOp_58 ?_
      refine lv_iconst (v := 4) hx hb dX4_readOp_61 (by decide) ?_
      refine lv_imul hx hb dX4_readOp_62 ?_
      refine cf_i (nI (qno * 4)) (pk_mul qno 4) ?_
      refine lv_iconst (v := 4) hx hb dX4_readOp_63 (by decide) ?_
      refine aft_i (wr := []) hP hD hS hA [2, 3, 4, 0, 1] [] rfl rfl (by decide) (by decide) (run_vS (As := [.int 3, .ref (aK w9_15), .ref qr2, .int (nI (qno * 4)), .int 4]) (rest := []) hFix hK hE hV hP hD hS hA [2, 3, 4, 0, 1] (k_X4_passNumbers_o l D cs _ aK aV aR 3 qr2 (qno * 4) w9_15 aT aD rt1_14 rn1_14 rp rk rf tb ft qli qlw qod qdr qlo qr0 qr1 qr3 qr4 qf2 rs1_14 ra1_14 nt qtp qnc qnr qno qna (by first | assumption | decide | omega) (by first | assumption | decide | omega) (by first | assumption | decide | omega) (by first | assumption | decide | omega) (by first | assumption | decide | omega) (by first | assumption | decide | omega) (by first | assumption | decide | omega) (by first | assumption | decide | omega) (by first | assumption | decide | omega) (by first | assumption | decide | omega)) (cwV 5 hts gc_X4_readOp_127_X4_passNumbers rfl rfl rfl (by decide +kernel) ⟨Nat.le_of_ble_eq_true rfl, Nat.le_of_ble_eq_true rfl⟩) rfl (by decide) (rcv hK hP [2, 3, 4, 0, 1] rfl rfl rfl) rfl hl.1 rfl (Nat.le_of_ble_eq_true rfl) dX4_readOp_64 ⟨Nat.le_of_ble_eq_true rfl, Nat.le_of_ble_eq_true rfl⟩) (fun r_16 u_16 H locs hq_16 hP hD hS => ?_)
      obtain ⟨rt1_16, rs1_16, ra1_16, rn1_16, rk1_16, rf1_16, qf21_16⟩ := u_16
      have hP : va_P D vwCl [(aR, .inr (4, [.ref aT, .ref aD, .int rt1_16, .int (nI rs1_16), .int (nI ra1_16), .int rn1_16, .int rp, .int rk1_16, .int rf1_16])), (aT, .inr (7, [.ref tb, .int (nI nt)])), (tb, .inl (cs 0, 400, .inl ft)), (aD, .inr (0, [.int qli, .int (nI qtp), .int qlw, .int qod, .int (nI qnc), .int (nI qnr), .int (nI qno), .int (nI qna), .int qdr, .int qlo, .ref qr0, .ref qr1, .ref qr2, .ref qr3, .ref qr4])), (qr2, .inl (cs 1, 20, .inl qf21_16))] H := hP
      have hD : va_D A [(aR, .inr (4, [.ref aT, .ref aD, .int rt1_16, .int (nI rs1_16), .int (nI ra1_16), .int rn1_16, .int rp, .int rk1_16, .int rf1_16])), (aT, .inr (7, [.ref tb, .int (nI nt)])), (tb, .inl (cs 0, 400, .inl ft)), (aD, .inr (0, [.int qli, .int (nI qtp), .int qlw, .int qod, .int (nI qnc), .int (nI qnr), .int (nI qno), .int (nI qna), .int qdr, .int qlo, .ref qr0, .ref qr1, .ref qr2, .ref qr3, .ref qr4])), (qr2, .inl (cs 1, 20, .inl qf21_16))] := hD
      replace hq_16 : (rs1_16 ≤ ra1_16) ∧ (ra1_16 ≤ nt) ∧ ((r_16 = 1 ∧ True) ∨ (r_16 = 0 ∧ True)) := hq_16
      obtain ⟨hp_16_0, hp_16_1, hq_16⟩ := hq_16
      rcases hq_16 with ⟨rfl, hq_16⟩ | ⟨rfl, hq_16⟩
      ·
        refine lv_if_ne (tgt := 72) hx hb dX4_readOp_67 (by decide) (fun _ => ?_) (fun h9 => absurd h9 (by decide))
        refine lv_aload_n hx hb dX4_readOp_72 rfl (lv_at hl 1 rfl) ?_
        refine va_get (D := D) (ci := 4) (v := .ref aD) (C := RX4) (T := TX4) (N := 9) hx hb hts iuX4_readOp_X4 hown hK hP 0 rfl rfl 1 (by decide) (htw (.fieldLink RX4 37 "MergeJudge$Reader" "draft" "LMergeJudge$Base;") (List.mem_of_getElem? (i := 0) rfl)) (fun _ h9 => h9) rfl dX4_readOp_73 ?_
        refine lv_dup hx hb dX4_readOp_76 rfl ?_
        refine va_get (D := D) (ci := 0) (v := .int (nI qno)) (C := RX0) (T := TX0) (N := 15) hx hb hts iuX4_readOp_X0 hown hK hP 3 rfl rfl 6 (by decide) (htw (.fieldLink RX4 131 "MergeJudge$Base" "ops" "I") (List.mem_of_getElem? (i := 1) rfl)) (fun _ h9 => h9) rfl dX4_readOp_77 ?_
        refine lv_iconst (v := 1) hx hb dX4_readOp_80 (by decide) ?_
        refine lv_iadd hx hb dX4_readOp_81 ?_
        refine cf_i (nI (qno + 1)) (nI_add qno 1) ?_
        refine va_put (D := D) (ci := 0) (v := .int (nI (qno + 1))) (ty := .int) (C := RX0) (T := TX0) (N := 15) hx hb hts iuX4_readOp_X0 tyX0 tyX0_ok nmX0 hown hK hP hD hS 3 rfl rfl 6 (by decide) (htw (.fieldLink RX4 131 "MergeJudge$Base" "ops" "I") (List.mem_of_getElem? (i := 1) rfl)) (fun _ h9 => h9) rfl (by decide +kernel) rfl rfl (Nat.le_of_ble_eq_true rfl) dX4_readOp_82 (fun H locs hP hD hS => ?_)
        have hP : va_P D vwCl [(aR, .inr (4, [.ref aT, .ref aD, .int rt1_16, .int (nI rs1_16), .int (nI ra1_16), .int rn1_16, .int rp, .int rk1_16, .int rf1_16])), (aT, .inr (7, [.ref tb, .int (nI nt)])), (tb, .inl (cs 0, 400, .inl ft)), (aD, .inr (0, [.int qli, .int (nI qtp), .int qlw, .int qod, .int (nI qnc), .int (nI qnr), .int (nI (qno + 1)), .int (nI qna), .int qdr, .int qlo, .ref qr0, .ref qr1, .ref qr2, .ref qr3, .ref qr4])), (qr2, .inl (cs 1, 20, .inl qf21_16))] H := hP
        have hD : va_D A [(aR, .inr (4, [.ref aT, .ref aD, .int rt1_16, .int (nI rs1_16), .int (nI ra1_16), .int rn1_16, .int rp, .int rk1_16, .int rf1_16])), (aT, .inr (7, [.ref tb, .int (nI nt)])), (tb, .inl (cs 0, 400, .inl ft)), (aD, .inr (0, [.int qli, .int (nI qtp), .int qlw, .int qod, .int (nI qnc), .int (nI qnr), .int (nI (qno + 1)), .int (nI qna), .int qdr, .int qlo, .ref qr0, .ref qr1, .ref qr2, .ref qr3, .ref qr4])), (qr2, .inl (cs 1, 20, .inl qf21_16))] := hD
        refine lv_iconst (v := 1) hx hb dX4_readOp_85 (by decide) ?_
        exact ret_z hx hb hr hlk hS (Nat.le_of_ble_eq_true rfl) (Nat.le_of_ble_eq_true rfl) (by decide) (rt1_16, rs1_16, ra1_16, rn1_16, rk1_16, rf1_16, qno + 1, qf21_16) (⟨(by omega), (by omega), (by omega), Or.inl ⟨rfl, trivial⟩⟩) (hP.sub [0, 1, 2, 3, 4] rfl) (hD.sub [0, 1, 2, 3, 4] (by decide) rfl) dX4_readOp_86
      ·
        refine lv_if_ne (tgt := 72) hx hb dX4_readOp_67 (by decide) (fun h9 => absurd h9 (by decide)) (fun _ => ?_)
        refine lv_iconst (v := 0) hx hb dX4_readOp_70 (by decide) ?_
        exact ret_z hx hb hr hlk hS (Nat.le_of_ble_eq_true rfl) (Nat.le_of_ble_eq_true rfl) (by decide) (rt1_16, rs1_16, ra1_16, rn1_16, rk1_16, rf1_16, qno, qf21_16) (⟨(by omega), (by omega), (by omega), Or.inr (⟨rfl, trivial⟩)⟩) (hP.sub [0, 1, 2, 3, 4] rfl) (hD.sub [0, 1, 2, 3, 4] (by decide) rfl) dX4_readOp_71
  ·
    have hn_1 := blt_f (a := qno) (b := 5) c_1 (by omega) (by omega)
    refine lv_aload_n hx hb dX4_readOp_11 rfl (lv_at hl 0 rfl) ?_
    refine lv_iconst (v := 3) hx hb dX4_readOp_12 (by decide) ?_
    refine aft_i (wr := [(aT, .inr (7, [.ref tb, .int (nI nt)])), (tb, .inl (cs 0, 400, .inl ft)), (aD, .inr (0, [.int qli, .int (nI qtp), .int qlw, .int qod, .int (nI qnc), .int (nI qnr), .int (nI qno), .int (nI qna), .int qdr, .int qlo, .ref qr0, .ref qr1, .ref qr2, .ref qr3, .ref qr4])), (qr2, .inl (cs 1, 20, .inl qf2))]) hP hD hS hA [0] [1, 2, 3, 4] rfl rfl (by decide) (by decide) (run_v (As := [.int 3]) (rest := []) hFix hK hE hP hD [0] (k_X4_failed l D cs _ aR 3 aT aD rt rn rp rk rf rs ra) (cwV 1 hts gc_X4_readOp_78_X4_failed rfl rfl rfl (by decide +kernel) ⟨Nat.le_of_ble_eq_true rfl, Nat.le_of_ble_eq_true rfl⟩) rfl (by decide) rfl rfl rfl hl.1 rfl (Nat.le_of_ble_eq_true rfl) dX4_readOp_13 ⟨Nat.le_of_ble_eq_true rfl, Nat.le_of_ble_eq_true rfl⟩) (fun r_17 u_17 H locs hq_17 hP hD hS => ?_)
    obtain ⟨rk1_17, rf1_17⟩ := u_17
    have hP : va_P D vwCl [(aT, .inr (7, [.ref tb, .int (nI nt)])), (tb, .inl (cs 0, 400, .inl ft)), (aD, .inr (0, [.int qli, .int (nI qtp), .int qlw, .int qod, .int (nI qnc), .int (nI qnr), .int (nI qno), .int (nI qna), .int qdr, .int qlo, .ref qr0, .ref qr1, .ref qr2, .ref qr3, .ref qr4])), (qr2, .inl (cs 1, 20, .inl qf2)), (aR, .inr (4, [.ref aT, .ref aD, .int rt, .int (nI rs), .int (nI ra), .int rn, .int rp, .int rk1_17, .int rf1_17]))] H := hP
    have hD : va_D A [(aT, .inr (7, [.ref tb, .int (nI nt)])), (tb, .inl (cs 0, 400, .inl ft)), (aD, .inr (0, [.int qli, .int (nI qtp), .int qlw, .int qod, .int (nI qnc), .int (nI qnr), .int (nI qno), .int (nI qna), .int qdr, .int qlo, .ref qr0, .ref qr1, .ref qr2, .ref qr3, .ref qr4])), (qr2, .inl (cs 1, 20, .inl qf2)), (aR, .inr (4, [.ref aT, .ref aD, .int rt, .int (nI rs), .int (nI ra), .int rn, .int rp, .int rk1_17, .int rf1_17]))] := hD
    replace hq_17 : ((r_17 = 0 ∧ True)) := hq_17
    obtain ⟨rfl, hq_17⟩ := hq_17
    ·
      exact ret_z hx hb hr hlk hS (Nat.le_of_ble_eq_true rfl) (Nat.le_of_ble_eq_true rfl) (by decide) (rt, rs, ra, rn, rk1_17, rf1_17, qno, qf2) (⟨(by omega), (by omega), (by omega), Or.inr (⟨rfl, trivial⟩)⟩) (hP.sub [4, 0, 1, 2, 3] rfl) (hD.sub [4, 0, 1, 2, 3] (by decide) rfl) dX4_readOp_16

set_option maxHeartbeats 4000000 in
set_option maxRecDepth 100000 in
theorem k_X4_readLine (l : Launch) (D : va_G) (cs : Nat → ClassId) (sz : Nat) (aK aV : Nat → Nat) (aR : Nat) (aT : Nat) (aD : Nat) (rt : Int32) (rn : Int32) (rp : Int32) (rk : Int32) (rf : Int32) (tb : Nat) (ft : Nat → Int32) (qli : Int32) (qlw : Int32) (qod : Int32) (qdr : Int32) (qlo : Int32) (qr0 : Nat) (qr1 : Nat) (qr2 : Nat) (qr3 : Nat) (qr4 : Nat) (qf0 : Nat → Int32) (qf1 : Nat → Int32) (qf2 : Nat → Int32) (rs : Nat) (ra : Nat) (nt : Nat) (qtp : Nat) (qnc : Nat) (qnr : Nat) (qno : Nat) (qna : Nat) (hnt : nt ≤ 400) (hqtp : qtp ≤ 3) (hqnc : qnc ≤ 3) (hqnr : qnr ≤ 5) (hqno : qno ≤ 5) (hqna : qna ≤ 20) (hra : rs ≤ ra) (hrt : ra ≤ nt) : Si l D cs aK aV yX4_readLine W_X4_readLine 7 148 0 0 [.ref aR] [(aR, .inr (4, [.ref aT, .ref aD, .int rt, .int (nI rs), .int (nI ra), .int rn, .int rp, .int rk, .int rf])), (aT, .inr (7, [.ref tb, .int (nI nt)])), (tb, .inl (cs 0, 400, .inl ft)), (aD, .inr (0, [.int qli, .int (nI qtp), .int qlw, .int qod, .int (nI qnc), .int (nI qnr), .int (nI qno), .int (nI qna), .int qdr, .int qlo, .ref qr0, .ref qr1, .ref qr2, .ref qr3, .ref qr4])), (qr0, .inl (cs 1, 3, .inl qf0)), (qr1, .inl (cs 1, 25, .inl qf1)), (qr2, .inl (cs 1, 20, .inl qf2))] sz (fun (r : Int32) (u : Int32 × Nat × Nat × Int32 × Int32 × Int32 × Int32 × Int32 × Nat × Int32 × Int32 × Nat × Nat × Nat × (Nat → Int32) × (Nat → Int32) × (Nat → Int32)) => (u.2.1 ≤ u.2.2.1) ∧ (u.2.2.1 ≤ nt) ∧ (u.2.2.2.2.2.2.2.2.1 ≤ 3) ∧ (u.2.2.2.2.2.2.2.2.2.2.2.1 ≤ 3) ∧ (u.2.2.2.2.2.2.2.2.2.2.2.2.1 ≤ 5) ∧ (u.2.2.2.2.2.2.2.2.2.2.2.2.2.1 ≤ 5) ∧ ((r = 1 ∧ True) ∨ (r = 0 ∧ True))) (fun (u : Int32 × Nat × Nat × Int32 × Int32 × Int32 × Int32 × Int32 × Nat × Int32 × Int32 × Nat × Nat × Nat × (Nat → Int32) × (Nat → Int32) × (Nat → Int32)) => [(aR, .inr (4, [.ref aT, .ref aD, .int u.1, .int (nI u.2.1), .int (nI u.2.2.1), .int u.2.2.2.1, .int u.2.2.2.2.1, .int u.2.2.2.2.2.1, .int u.2.2.2.2.2.2.1])), (aT, .inr (7, [.ref tb, .int (nI nt)])), (tb, .inl (cs 0, 400, .inl ft)), (aD, .inr (0, [.int u.2.2.2.2.2.2.2.1, .int (nI u.2.2.2.2.2.2.2.2.1), .int u.2.2.2.2.2.2.2.2.2.1, .int u.2.2.2.2.2.2.2.2.2.2.1, .int (nI u.2.2.2.2.2.2.2.2.2.2.2.1), .int (nI u.2.2.2.2.2.2.2.2.2.2.2.2.1), .int (nI u.2.2.2.2.2.2.2.2.2.2.2.2.2.1), .int (nI qna), .int qdr, .int qlo, .ref qr0, .ref qr1, .ref qr2, .ref qr3, .ref qr4])), (qr0, .inl (cs 1, 3, .inl u.2.2.2.2.2.2.2.2.2.2.2.2.2.2.1)), (qr1, .inl (cs 1, 25, .inl u.2.2.2.2.2.2.2.2.2.2.2.2.2.2.2.1)), (qr2, .inl (cs 1, 20, .inl u.2.2.2.2.2.2.2.2.2.2.2.2.2.2.2.2))]) := by
  refine entS (D := D) (cs := cs) (y := yX4_readLine) (ws := W_X4_readLine) (As := [.ref aR]) (W0 := [(aR, .inr (4, [.ref aT, .ref aD, .int rt, .int (nI rs), .int (nI ra), .int rn, .int rp, .int rk, .int rf])), (aT, .inr (7, [.ref tb, .int (nI nt)])), (tb, .inl (cs 0, 400, .inl ft)), (aD, .inr (0, [.int qli, .int (nI qtp), .int qlw, .int qod, .int (nI qnc), .int (nI qnr), .int (nI qno), .int (nI qna), .int qdr, .int qlo, .ref qr0, .ref qr1, .ref qr2, .ref qr3, .ref qr4])), (qr0, .inl (cs 1, 3, .inl qf0)), (qr1, .inl (cs 1, 25, .inl qf1)), (qr2, .inl (cs 1, 20, .inl qf2))]) (Qx := fun A => va_Qi (fun (r : Int32) (u : Int32 × Nat × Nat × Int32 × Int32 × Int32 × Int32 × Int32 × Nat × Int32 × Int32 × Nat × Nat × Nat × (Nat → Int32) × (Nat → Int32) × (Nat → Int32)) => (u.2.1 ≤ u.2.2.1) ∧ (u.2.2.1 ≤ nt) ∧ (u.2.2.2.2.2.2.2.2.1 ≤ 3) ∧ (u.2.2.2.2.2.2.2.2.2.2.2.1 ≤ 3) ∧ (u.2.2.2.2.2.2.2.2.2.2.2.2.1 ≤ 5) ∧ (u.2.2.2.2.2.2.2.2.2.2.2.2.2.1 ≤ 5) ∧ ((r = 1 ∧ True) ∨ (r = 0 ∧ True))) (mpost D A (fun (u : Int32 × Nat × Nat × Int32 × Int32 × Int32 × Int32 × Int32 × Nat × Int32 × Int32 × Nat × Nat × Nat × (Nat → Int32) × (Nat → Int32) × (Nat → Int32)) => [(aR, .inr (4, [.ref aT, .ref aD, .int u.1, .int (nI u.2.1), .int (nI u.2.2.1), .int u.2.2.2.1, .int u.2.2.2.2.1, .int u.2.2.2.2.2.1, .int u.2.2.2.2.2.2.1])), (aT, .inr (7, [.ref tb, .int (nI nt)])), (tb, .inl (cs 0, 400, .inl ft)), (aD, .inr (0, [.int u.2.2.2.2.2.2.2.1, .int (nI u.2.2.2.2.2.2.2.2.1), .int u.2.2.2.2.2.2.2.2.2.1, .int u.2.2.2.2.2.2.2.2.2.2.1, .int (nI u.2.2.2.2.2.2.2.2.2.2.2.1), .int (nI u.2.2.2.2.2.2.2.2.2.2.2.2.1), .int (nI u.2.2.2.2.2.2.2.2.2.2.2.2.2.1), .int (nI qna), .int qdr, .int qlo, .ref qr0, .ref qr1, .ref qr2, .ref qr3, .ref qr4])), (qr0, .inl (cs 1, 3, .inl u.2.2.2.2.2.2.2.2.2.2.2.2.2.2.1)), (qr1, .inl (cs 1, 25, .inl u.2.2.2.2.2.2.2.2.2.2.2.2.2.2.2.1)), (qr2, .inl (cs 1, 20, .inl u.2.2.2.2.2.2.2.2.2.2.2.2.2.2.2.2))])) A) (maxL := 2) (ret := (some .boolean)) (by decide) rfl (Nat.le_of_ble_eq_true rfl) ?_
  intro p e s m below meth c A ls hx hb hr hml hlk hown hts hin hK hE hV hP hD hA hS hl
  have hl : lv_has ls 2 [(0, .ref aR)] := hl
  generalize hHe : s.heap = H at hP
  have hS : va_S A s.heap H [] := hHe ▸ hS
  generalize hLe : ([] : List Loc) = locs at hS ⊢
  have htw : ∀ w ∈ O_X4_readLine, w.before ([.ref aR] : List Value).toArray s = true := fun w h => hts w (List.mem_cons_of_mem _ (List.mem_append_left _ h))
  have hFix := (⟨hx, hb, hml, hown, hts⟩ : CallFix p m c _ _ s _ _ _)
  refine lv_aload_n hx hb dX4_readLine_0 rfl (lv_at hl 0 rfl) ?_
  refine va_get (D := D) (ci := 4) (v := .ref aD) (C := RX4) (T := TX4) (N := 9) hx hb hts iuX4_readLine_X4 hown hK hP 0 rfl rfl 1 (by decide) (htw (.fieldLink RX4 37 "MergeJudge$Reader" "draft" "LMergeJudge$Base;") (List.mem_of_getElem? (i := 0) rfl)) (fun _ h9 => h9) rfl dX4_readLine_1 ?_
  refine va_get (D := D) (ci := 0) (v := .int qli) (C := RX0) (T := TX0) (N := 15) hx hb hts iuX4_readLine_X0 hown hK hP 3 rfl rfl 0 (by decide) (htw (.fieldLink RX4 53 "MergeJudge$Base" "lines" "I") (List.mem_of_getElem? (i := 1) rfl)) (fun _ h9 => h9) rfl dX4_readLine_4 ?_
  refine lv_if_ne (tgt := 18) hx hb dX4_readLine_7 (by decide) (fun c_1 => ?_) (fun c_1 => ?_)
  ·
    refine lv_aload_n hx hb dX4_readLine_18 rfl (lv_at hl 0 rfl) ?_
    refine va_ldcS hx hb hown (hV.2.2.2 (RX4, 59, "cell", 4) (List.mem_of_getElem? (i := 4) rfl)) dX4_readLine_19 ?_
    refine aft_i (wr := [(aD, .inr (0, [.int qli, .int (nI qtp), .int qlw, .int qod, .int (nI qnc), .int (nI qnr), .int (nI qno), .int (nI qna), .int qdr, .int qlo, .ref qr0, .ref qr1, .ref qr2, .ref qr3, .ref qr4])), (qr0, .inl (cs 1, 3, .inl qf0)), (qr1, .inl (cs 1, 25, .inl qf1)), (qr2, .inl (cs 1, 20, .inl qf2))]) hP hD hS hA [0, 1, 2] [3, 4, 5, 6] rfl rfl (by decide) (by decide) (run_vS (As := [.ref (aK 4)]) (rest := []) hFix hK hE hV hP hD hS hA [0, 1, 2] (k_X4_isWord l D cs _ aK aV aR 4 aT aD rt rn rp rk rf tb ft rs ra nt (by first | assumption | decide | omega) (by first | assumption | decide | omega) (by first | assumption | decide | omega) (by first | assumption | decide | omega)) (cwV 1 hts gc_X4_readLine_61_X4_isWord rfl rfl rfl (by decide +kernel) ⟨Nat.le_of_ble_eq_true rfl, Nat.le_of_ble_eq_true rfl⟩) rfl (by decide) (rcv hK hP [0, 1, 2] rfl rfl rfl) rfl hl.1 rfl (Nat.le_of_ble_eq_true rfl) dX4_readLine_21 ⟨Nat.le_of_ble_eq_true rfl, Nat.le_of_ble_eq_true rfl⟩) (fun r_2 u_2 H locs hq_2 hP hD hS => ?_)
    have hP : va_P D vwCl [(aD, .inr (0, [.int qli, .int (nI qtp), .int qlw, .int qod, .int (nI qnc), .int (nI qnr), .int (nI qno), .int (nI qna), .int qdr, .int qlo, .ref qr0, .ref qr1, .ref qr2, .ref qr3, .ref qr4])), (qr0, .inl (cs 1, 3, .inl qf0)), (qr1, .inl (cs 1, 25, .inl qf1)), (qr2, .inl (cs 1, 20, .inl qf2)), (aR, .inr (4, [.ref aT, .ref aD, .int rt, .int (nI rs), .int (nI ra), .int rn, .int rp, .int rk, .int rf])), (aT, .inr (7, [.ref tb, .int (nI nt)])), (tb, .inl (cs 0, 400, .inl ft))] H := hP
    have hD : va_D A [(aD, .inr (0, [.int qli, .int (nI qtp), .int qlw, .int qod, .int (nI qnc), .int (nI qnr), .int (nI qno), .int (nI qna), .int qdr, .int qlo, .ref qr0, .ref qr1, .ref qr2, .ref qr3, .ref qr4])), (qr0, .inl (cs 1, 3, .inl qf0)), (qr1, .inl (cs 1, 25, .inl qf1)), (qr2, .inl (cs 1, 20, .inl qf2)), (aR, .inr (4, [.ref aT, .ref aD, .int rt, .int (nI rs), .int (nI ra), .int rn, .int rp, .int rk, .int rf])), (aT, .inr (7, [.ref tb, .int (nI nt)])), (tb, .inl (cs 0, 400, .inl ft))] := hD
    replace hq_2 : ((r_2 = 1 ∧ True) ∨ (r_2 = 0 ∧ True)) := hq_2
    rcases hq_2 with ⟨rfl, hq_2⟩ | ⟨rfl, hq_2⟩
    ·
      refine lv_if_eq (tgt := 35) hx hb dX4_readLine_24 (by decide) (fun h9 => absurd h9 (by decide)) (fun _ => ?_)
      refine lv_aload_n hx hb dX4_readLine_27 rfl (lv_at hl 0 rfl) ?_
      refine aft_i (wr := [(qr1, .inl (cs 1, 25, .inl qf1)), (qr2, .inl (cs 1, 20, .inl qf2))]) hP hD hS hA [4, 5, 6, 0, 1] [2, 3] rfl rfl (by decide) (by decide) (run_vS (As := []) (rest := []) hFix hK hE hV hP hD hS hA [4, 5, 6, 0, 1] (k_X4_readCell l D cs _ aK aV aR aT aD rt rn rp rk rf tb ft qli qlw qod qdr qlo qr0 qr1 qr2 qr3 qr4 qf0 rs ra nt qtp qnc qnr qno qna (by first | assumption | decide | omega) (by first | assumption | decide | omega) (by first | assumption | decide | omega) (by first | assumption | decide | omega) (by first | assumption | decide | omega) (by first | assumption | decide | omega) (by first | assumption | decide | omega) (by first | assumption | decide | omega)) (cwV 0 hts gc_X4_readLine_65_X4_readCell rfl rfl rfl (by decide +kernel) ⟨Nat.le_of_ble_eq_true rfl, Nat.le_of_ble_eq_true rfl⟩) rfl (by decide) (rcv hK hP [4, 5, 6, 0, 1] rfl rfl rfl) rfl hl.1 rfl (Nat.le_of_ble_eq_true rfl) dX4_readLine_28 ⟨Nat.le_of_ble_eq_true rfl, Nat.le_of_ble_eq_true rfl⟩) (fun r_3 u_3 H locs hq_3 hP hD hS => ?_)
      obtain ⟨rt1_3, rs1_3, ra1_3, rn1_3, rk1_3, rf1_3, qnc1_3, qf01_3⟩ := u_3
      have hP : va_P D vwCl [(qr1, .inl (cs 1, 25, .inl qf1)), (qr2, .inl (cs 1, 20, .inl qf2)), (aR, .inr (4, [.ref aT, .ref aD, .int rt1_3, .int (nI rs1_3), .int (nI ra1_3), .int rn1_3, .int rp, .int rk1_3, .int rf1_3])), (aT, .inr (7, [.ref tb, .int (nI nt)])), (tb, .inl (cs 0, 400, .inl ft)), (aD, .inr (0, [.int qli, .int (nI qtp), .int qlw, .int qod, .int (nI qnc1_3), .int (nI qnr), .int (nI qno), .int (nI qna), .int qdr, .int qlo, .ref qr0, .ref qr1, .ref qr2, .ref qr3, .ref qr4])), (qr0, .inl (cs 1, 3, .inl qf01_3))] H := hP
      have hD : va_D A [(qr1, .inl (cs 1, 25, .inl qf1)), (qr2, .inl (cs 1, 20, .inl qf2)), (aR, .inr (4, [.ref aT, .ref aD, .int rt1_3, .int (nI rs1_3), .int (nI ra1_3), .int rn1_3, .int rp, .int rk1_3, .int rf1_3])), (aT, .inr (7, [.ref tb, .int (nI nt)])), (tb, .inl (cs 0, 400, .inl ft)), (aD, .inr (0, [.int qli, .int (nI qtp), .int qlw, .int qod, .int (nI qnc1_3), .int (nI qnr), .int (nI qno), .int (nI qna), .int qdr, .int qlo, .ref qr0, .ref qr1, .ref qr2, .ref qr3, .ref qr4])), (qr0, .inl (cs 1, 3, .inl qf01_3))] := hD
      replace hq_3 : (rs1_3 ≤ ra1_3) ∧ (ra1_3 ≤ nt) ∧ (qnc1_3 ≤ 3) ∧ ((r_3 = 1 ∧ True) ∨ (r_3 = 0 ∧ True)) := hq_3
      obtain ⟨hp_3_0, hp_3_1, hp_3_2, hq_3⟩ := hq_3
      rcases hq_3 with ⟨rfl, hq_3⟩ | ⟨rfl, hq_3⟩
      ·
        refine lv_istore_n (lv' := [(1, .int 1), (0, .ref aR)]) hx hb dX4_readLine_31 rfl hl (by decide) rfl (fun ls hl => ?_)
        refine lv_goto (tgt := 75) hx hb dX4_readLine_32 (by decide) ?_
        refine lv_iload_n hx hb dX4_readLine_75 rfl (lv_at hl 0 rfl) ?_
        refine lv_if_ne (tgt := 81) hx hb dX4_readLine_76 (by decide) (fun _ => ?_) (fun h9 => absurd h9 (by decide))
        refine lv_aload_n hx hb dX4_readLine_81 rfl (lv_at hl 1 rfl) ?_
        refine va_get (D := D) (ci := 4) (v := .int rt1_3) (C := RX4) (T := TX4) (N := 9) hx hb hts iuX4_readLine_X4 hown hK hP 2 rfl rfl 2 (by decide) (htw (.fieldLink RX4 11 "MergeJudge$Reader" "token" "I") (List.mem_of_getElem? (i := 21) rfl)) (fun _ h9 => h9) rfl dX4_readLine_82 ?_
        refine lv_iconst (v := 3) hx hb dX4_readLine_85 (by decide) ?_
        refine lv_icmp_eq (tgt := 95) hx hb dX4_readLine_86 (by decide) (fun c_4 => ?_) (fun c_4 => ?_)
        ·
          refine lv_aload_n hx hb dX4_readLine_95 rfl (lv_at hl 1 rfl) ?_
          refine aft_v (wr := [(qr1, .inl (cs 1, 25, .inl qf1)), (qr2, .inl (cs 1, 20, .inl qf2)), (aD, .inr (0, [.int qli, .int (nI qtp), .int qlw, .int qod, .int (nI qnc1_3), .int (nI qnr), .int (nI qno), .int (nI qna), .int qdr, .int qlo, .ref qr0, .ref qr1, .ref qr2, .ref qr3, .ref qr4])), (qr0, .inl (cs 1, 3, .inl qf01_3))]) hP hD hS hA [2, 3, 4] [0, 1, 5, 6] rfl rfl (by decide) (by decide) (run_v (As := []) (rest := []) hFix hK hE hP hD [2, 3, 4] (k_X4_next l D cs _ aR aT aD rt1_3 rn1_3 rp rk1_3 rf1_3 tb ft rs1_3 ra1_3 nt (by first | assumption | decide | omega) (by first | assumption | decide | omega)) (cwV 0 hts gc_X4_readLine_46_X4_next rfl rfl rfl (by decide +kernel) ⟨Nat.le_of_ble_eq_true rfl, Nat.le_of_ble_eq_true rfl⟩) rfl (by decide) rfl rfl rfl hl.1 rfl (Nat.le_of_ble_eq_true rfl) dX4_readLine_96 ⟨Nat.le_of_ble_eq_true rfl, Nat.le_of_ble_eq_true rfl⟩) (fun u_5 H locs hq_5 hP hD hS => ?_)
          obtain ⟨rt1_5, rs1_5, ra1_5, rn1_5⟩ := u_5
          have hP : va_P D vwCl [(qr1, .inl (cs 1, 25, .inl qf1)), (qr2, .inl (cs 1, 20, .inl qf2)), (aD, .inr (0, [.int qli, .int (nI qtp), .int qlw, .int qod, .int (nI qnc1_3), .int (nI qnr), .int (nI qno), .int (nI qna), .int qdr, .int qlo, .ref qr0, .ref qr1, .ref qr2, .ref qr3, .ref qr4])), (qr0, .inl (cs 1, 3, .inl qf01_3)), (aR, .inr (4, [.ref aT, .ref aD, .int rt1_5, .int (nI rs1_5), .int (nI ra1_5), .int rn1_5, .int rp, .int rk1_3, .int rf1_3])), (aT, .inr (7, [.ref tb, .int (nI nt)])), (tb, .inl (cs 0, 400, .inl ft))] H := hP
          have hD : va_D A [(qr1, .inl (cs 1, 25, .inl qf1)), (qr2, .inl (cs 1, 20, .inl qf2)), (aD, .inr (0, [.int qli, .int (nI qtp), .int qlw, .int qod, .int (nI qnc1_3), .int (nI qnr), .int (nI qno), .int (nI qna), .int qdr, .int qlo, .ref qr0, .ref qr1, .ref qr2, .ref qr3, .ref qr4])), (qr0, .inl (cs 1, 3, .inl qf01_3)), (aR, .inr (4, [.ref aT, .ref aD, .int rt1_5, .int (nI rs1_5), .int (nI ra1_5), .int rn1_5, .int rp, .int rk1_3, .int rf1_3])), (aT, .inr (7, [.ref tb, .int (nI nt)])), (tb, .inl (cs 0, 400, .inl ft))] := hD
          replace hq_5 : (rs1_5 ≤ ra1_5) ∧ (ra1_5 ≤ nt) := hq_5
          obtain ⟨hp_5_0, hp_5_1⟩ := hq_5
          refine lv_aload_n hx hb dX4_readLine_99 rfl (lv_at hl 1 rfl) ?_
          refine va_get (D := D) (ci := 4) (v := .ref aD) (C := RX4) (T := TX4) (N := 9) hx hb hts iuX4_readLine_X4 hown hK hP 4 rfl rfl 1 (by decide) (htw (.fieldLink RX4 37 "MergeJudge$Reader" "draft" "LMergeJudge$Base;") (List.mem_of_getElem? (i := 0) rfl)) (fun _ h9 => h9) rfl dX4_readLine_100 ?_
          refine lv_dup hx hb dX4_readLine_103 rfl ?_
          refine va_get (D := D) (ci := 0) (v := .int qli) (C := RX0) (T := TX0) (N := 15) hx hb hts iuX4_readLine_X0 hown hK hP 2 rfl rfl 0 (by decide) (htw (.fieldLink RX4 53 "MergeJudge$Base" "lines" "I") (List.mem_of_getElem? (i := 1) rfl)) (fun _ h9 => h9) rfl dX4_readLine_104 ?_
          refine lv_iconst (v := 1) hx hb dX4_readLine_107 (by decide) ?_
          refine lv_iadd hx hb dX4_readLine_108 ?_
          refine va_put (D := D) (ci := 0) (v := .int (qli + (1 : Int32))) (ty := .int) (C := RX0) (T := TX0) (N := 15) hx hb hts iuX4_readLine_X0 tyX0 tyX0_ok nmX0 hown hK hP hD hS 2 rfl rfl 0 (by decide) (htw (.fieldLink RX4 53 "MergeJudge$Base" "lines" "I") (List.mem_of_getElem? (i := 1) rfl)) (fun _ h9 => h9) rfl (by decide +kernel) rfl rfl (Nat.le_of_ble_eq_true rfl) dX4_readLine_109 (fun H locs hP hD hS => ?_)
          have hP : va_P D vwCl [(qr1, .inl (cs 1, 25, .inl qf1)), (qr2, .inl (cs 1, 20, .inl qf2)), (aD, .inr (0, [.int (qli + (1 : Int32)), .int (nI qtp), .int qlw, .int qod, .int (nI qnc1_3), .int (nI qnr), .int (nI qno), .int (nI qna), .int qdr, .int qlo, .ref qr0, .ref qr1, .ref qr2, .ref qr3, .ref qr4])), (qr0, .inl (cs 1, 3, .inl qf01_3)), (aR, .inr (4, [.ref aT, .ref aD, .int rt1_5, .int (nI rs1_5), .int (nI ra1_5), .int rn1_5, .int rp, .int rk1_3, .int rf1_3])), (aT, .inr (7, [.ref tb, .int (nI nt)])), (tb, .inl (cs 0, 400, .inl ft))] H := hP
          have hD : va_D A [(qr1, .inl (cs 1, 25, .inl qf1)), (qr2, .inl (cs 1, 20, .inl qf2)), (aD, .inr (0, [.int (qli + (1 : Int32)), .int (nI qtp), .int qlw, .int qod, .int (nI qnc1_3), .int (nI qnr), .int (nI qno), .int (nI qna), .int qdr, .int qlo, .ref qr0, .ref qr1, .ref qr2, .ref qr3, .ref qr4])), (qr0, .inl (cs 1, 3, .inl qf01_3)), (aR, .inr (4, [.ref aT, .ref aD, .int rt1_5, .int (nI rs1_5), .int (nI ra1_5), .int rn1_5, .int rp, .int rk1_3, .int rf1_3])), (aT, .inr (7, [.ref tb, .int (nI nt)])), (tb, .inl (cs 0, 400, .inl ft))] := hD
          refine lv_iconst (v := 1) hx hb dX4_readLine_112 (by decide) ?_
          exact ret_z hx hb hr hlk hS (Nat.le_of_ble_eq_true rfl) (Nat.le_of_ble_eq_true rfl) (by decide) (rt1_5, rs1_5, ra1_5, rn1_5, rp, rk1_3, rf1_3, qli + (1 : Int32), qtp, qlw, qod, qnc1_3, qnr, qno, qf01_3, qf1, qf2) (⟨(by omega), (by omega), (by omega), (by omega), (by omega), (by omega), Or.inl ⟨rfl, trivial⟩⟩) (hP.sub [4, 5, 6, 2, 3, 0, 1] rfl) (hD.sub [4, 5, 6, 2, 3, 0, 1] (by decide) rfl) dX4_readLine_113
        ·
          refine lv_aload_n hx hb dX4_readLine_89 rfl (lv_at hl 1 rfl) ?_
          refine lv_iconst (v := 1) hx hb dX4_readLine_90 (by decide) ?_
          refine aft_i (wr := [(qr1, .inl (cs 1, 25, .inl qf1)), (qr2, .inl (cs 1, 20, .inl qf2)), (aT, .inr (7, [.ref tb, .int (nI nt)])), (tb, .inl (cs 0, 400, .inl ft)), (aD, .inr (0, [.int qli, .int (nI qtp), .int qlw, .int qod, .int (nI qnc1_3), .int (nI qnr), .int (nI qno), .int (nI qna), .int qdr, .int qlo, .ref qr0, .ref qr1, .ref qr2, .ref qr3, .ref qr4])), (qr0, .inl (cs 1, 3, .inl qf01_3))]) hP hD hS hA [2] [0, 1, 3, 4, 5, 6] rfl rfl (by decide) (by decide) (run_v (As := [.int 1]) (rest := []) hFix hK hE hP hD [2] (k_X4_failed l D cs _ aR 1 aT aD rt1_3 rn1_3 rp rk1_3 rf1_3 rs1_3 ra1_3) (cwV 1 hts gc_X4_readLine_78_X4_failed rfl rfl rfl (by decide +kernel) ⟨Nat.le_of_ble_eq_true rfl, Nat.le_of_ble_eq_true rfl⟩) rfl (by decide) rfl rfl rfl hl.1 rfl (Nat.le_of_ble_eq_true rfl) dX4_readLine_91 ⟨Nat.le_of_ble_eq_true rfl, Nat.le_of_ble_eq_true rfl⟩) (fun r_6 u_6 H locs hq_6 hP hD hS => ?_)
          obtain ⟨rk1_6, rf1_6⟩ := u_6
          have hP : va_P D vwCl [(qr1, .inl (cs 1, 25, .inl qf1)), (qr2, .inl (cs 1, 20, .inl qf2)), (aT, .inr (7, [.ref tb, .int (nI nt)])), (tb, .inl (cs 0, 400, .inl ft)), (aD, .inr (0, [.int qli, .int (nI qtp), .int qlw, .int qod, .int (nI qnc1_3), .int (nI qnr), .int (nI qno), .int (nI qna), .int qdr, .int qlo, .ref qr0, .ref qr1, .ref qr2, .ref qr3, .ref qr4])), (qr0, .inl (cs 1, 3, .inl qf01_3)), (aR, .inr (4, [.ref aT, .ref aD, .int rt1_3, .int (nI rs1_3), .int (nI ra1_3), .int rn1_3, .int rp, .int rk1_6, .int rf1_6]))] H := hP
          have hD : va_D A [(qr1, .inl (cs 1, 25, .inl qf1)), (qr2, .inl (cs 1, 20, .inl qf2)), (aT, .inr (7, [.ref tb, .int (nI nt)])), (tb, .inl (cs 0, 400, .inl ft)), (aD, .inr (0, [.int qli, .int (nI qtp), .int qlw, .int qod, .int (nI qnc1_3), .int (nI qnr), .int (nI qno), .int (nI qna), .int qdr, .int qlo, .ref qr0, .ref qr1, .ref qr2, .ref qr3, .ref qr4])), (qr0, .inl (cs 1, 3, .inl qf01_3)), (aR, .inr (4, [.ref aT, .ref aD, .int rt1_3, .int (nI rs1_3), .int (nI ra1_3), .int rn1_3, .int rp, .int rk1_6, .int rf1_6]))] := hD
          replace hq_6 : ((r_6 = 0 ∧ True)) := hq_6
          obtain ⟨rfl, hq_6⟩ := hq_6
          ·
            exact ret_z hx hb hr hlk hS (Nat.le_of_ble_eq_true rfl) (Nat.le_of_ble_eq_true rfl) (by decide) (rt1_3, rs1_3, ra1_3, rn1_3, rp, rk1_6, rf1_6, qli, qtp, qlw, qod, qnc1_3, qnr, qno, qf01_3, qf1, qf2) (⟨(by omega), (by omega), (by omega), (by omega), (by omega), (by omega), Or.inr (⟨rfl, trivial⟩)⟩) (hP.sub [6, 2, 3, 4, 5, 0, 1] rfl) (hD.sub [6, 2, 3, 4, 5, 0, 1] (by decide) rfl) dX4_readLine_94
      ·
        refine lv_istore_n (lv' := [(1, .int 0), (0, .ref aR)]) hx hb dX4_readLine_31 rfl hl (by decide) rfl (fun ls hl => ?_)
        refine lv_goto (tgt := 75) hx hb dX4_readLine_32 (by decide) ?_
        refine lv_iload_n hx hb dX4_readLine_75 rfl (lv_at hl 0 rfl) ?_
        refine lv_if_ne (tgt := 81) hx hb dX4_readLine_76 (by decide) (fun h9 => absurd h9 (by decide)) (fun _ => ?_)
        refine lv_iconst (v := 0) hx hb dX4_readLine_79 (by decide) ?_
        exact ret_z hx hb hr hlk hS (Nat.le_of_ble_eq_true rfl) (Nat.le_of_ble_eq_true rfl) (by decide) (rt1_3, rs1_3, ra1_3, rn1_3, rp, rk1_3, rf1_3, qli, qtp, qlw, qod, qnc1_3, qnr, qno, qf01_3, qf1, qf2) (⟨(by omega), (by omega), (by omega), (by omega), (by omega), (by omega), Or.inr (⟨rfl, trivial⟩)⟩) (hP.sub [2, 3, 4, 5, 6, 0, 1] rfl) (hD.sub [2, 3, 4, 5, 6, 0, 1] (by decide) rfl) dX4_readLine_80
    ·
      refine lv_if_eq (tgt := 35) hx hb dX4_readLine_24 (by decide) (fun _ => ?_) (fun h9 => absurd h9 (by decide))
      refine lv_aload_n hx hb dX4_readLine_35 rfl (lv_at hl 0 rfl) ?_
      refine va_ldcS hx hb hown (hV.2.2.2 (RX4, 68, "rule", 9) (List.mem_of_getElem? (i := 9) rfl)) dX4_readLine_36 ?_
      refine aft_i (wr := [(aD, .inr (0, [.int qli, .int (nI qtp), .int qlw, .int qod, .int (nI qnc), .int (nI qnr), .int (nI qno), .int (nI qna), .int qdr, .int qlo, .ref qr0, .ref qr1, .ref qr2, .ref qr3, .ref qr4])), (qr0, .inl (cs 1, 3, .inl qf0)), (qr1, .inl (cs 1, 25, .inl qf1)), (qr2, .inl (cs 1, 20, .inl qf2))]) hP hD hS hA [4, 5, 6] [0, 1, 2, 3] rfl rfl (by decide) (by decide) (run_vS (As := [.ref (aK 9)]) (rest := []) hFix hK hE hV hP hD hS hA [4, 5, 6] (k_X4_isWord l D cs _ aK aV aR 9 aT aD rt rn rp rk rf tb ft rs ra nt (by first | assumption | decide | omega) (by first | assumption | decide | omega) (by first | assumption | decide | omega) (by first | assumption | decide | omega)) (cwV 1 hts gc_X4_readLine_61_X4_isWord rfl rfl rfl (by decide +kernel) ⟨Nat.le_of_ble_eq_true rfl, Nat.le_of_ble_eq_true rfl⟩) rfl (by decide) (rcv hK hP [4, 5, 6] rfl rfl rfl) rfl hl.1 rfl (Nat.le_of_ble_eq_true rfl) dX4_readLine_38 ⟨Nat.le_of_ble_eq_true rfl, Nat.le_of_ble_eq_true rfl⟩) (fun r_7 u_7 H locs hq_7 hP hD hS => ?_)
      have hP : va_P D vwCl [(aD, .inr (0, [.int qli, .int (nI qtp), .int qlw, .int qod, .int (nI qnc), .int (nI qnr), .int (nI qno), .int (nI qna), .int qdr, .int qlo, .ref qr0, .ref qr1, .ref qr2, .ref qr3, .ref qr4])), (qr0, .inl (cs 1, 3, .inl qf0)), (qr1, .inl (cs 1, 25, .inl qf1)), (qr2, .inl (cs 1, 20, .inl qf2)), (aR, .inr (4, [.ref aT, .ref aD, .int rt, .int (nI rs), .int (nI ra), .int rn, .int rp, .int rk, .int rf])), (aT, .inr (7, [.ref tb, .int (nI nt)])), (tb, .inl (cs 0, 400, .inl ft))] H := hP
      have hD : va_D A [(aD, .inr (0, [.int qli, .int (nI qtp), .int qlw, .int qod, .int (nI qnc), .int (nI qnr), .int (nI qno), .int (nI qna), .int qdr, .int qlo, .ref qr0, .ref qr1, .ref qr2, .ref qr3, .ref qr4])), (qr0, .inl (cs 1, 3, .inl qf0)), (qr1, .inl (cs 1, 25, .inl qf1)), (qr2, .inl (cs 1, 20, .inl qf2)), (aR, .inr (4, [.ref aT, .ref aD, .int rt, .int (nI rs), .int (nI ra), .int rn, .int rp, .int rk, .int rf])), (aT, .inr (7, [.ref tb, .int (nI nt)])), (tb, .inl (cs 0, 400, .inl ft))] := hD
      replace hq_7 : ((r_7 = 1 ∧ True) ∨ (r_7 = 0 ∧ True)) := hq_7
      rcases hq_7 with ⟨rfl, hq_7⟩ | ⟨rfl, hq_7⟩
      ·
        refine lv_if_eq (tgt := 52) hx hb dX4_readLine_41 (by decide) (fun h9 => absurd h9 (by decide)) (fun _ => ?_)
        refine lv_aload_n hx hb dX4_readLine_44 rfl (lv_at hl 0 rfl) ?_
        refine aft_i (wr := [(qr0, .inl (cs 1, 3, .inl qf0)), (qr2, .inl (cs 1, 20, .inl qf2))]) hP hD hS hA [4, 5, 6, 0, 2] [1, 3] rfl rfl (by decide) (by decide) (run_vS (As := []) (rest := []) hFix hK hE hV hP hD hS hA [4, 5, 6, 0, 2] (k_X4_readRule l D cs _ aK aV aR aT aD rt rn rp rk rf tb ft qli qlw qod qdr qlo qr0 qr1 qr2 qr3 qr4 qf1 rs ra nt qtp qnc qnr qno qna (by first | assumption | decide | omega) (by first | assumption | decide | omega) (by first | assumption | decide | omega) (by first | assumption | decide | omega) (by first | assumption | decide | omega) (by first | assumption | decide | omega) (by first | assumption | decide | omega) (by first | assumption | decide | omega)) (cwV 0 hts gc_X4_readLine_70_X4_readRule rfl rfl rfl (by decide +kernel) ⟨Nat.le_of_ble_eq_true rfl, Nat.le_of_ble_eq_true rfl⟩) rfl (by decide) (rcv hK hP [4, 5, 6, 0, 2] rfl rfl rfl) rfl hl.1 rfl (Nat.le_of_ble_eq_true rfl) dX4_readLine_45 ⟨Nat.le_of_ble_eq_true rfl, Nat.le_of_ble_eq_true rfl⟩) (fun r_8 u_8 H locs hq_8 hP hD hS => ?_)
        obtain ⟨rt1_8, rs1_8, ra1_8, rn1_8, rk1_8, rf1_8, qnr1_8, qf11_8⟩ := u_8
        have hP : va_P D vwCl [(qr0, .inl (cs 1, 3, .inl qf0)), (qr2, .inl (cs 1, 20, .inl qf2)), (aR, .inr (4, [.ref aT, .ref aD, .int rt1_8, .int (nI rs1_8), .int (nI ra1_8), .int rn1_8, .int rp, .int rk1_8, .int rf1_8])), (aT, .inr (7, [.ref tb, .int (nI nt)])), (tb, .inl (cs 0, 400, .inl ft)), (aD, .inr (0, [.int qli, .int (nI qtp), .int qlw, .int qod, .int (nI qnc), .int (nI qnr1_8), .int (nI qno), .int (nI qna), .int qdr, .int qlo, .ref qr0, .ref qr1, .ref qr2, .ref qr3, .ref qr4])), (qr1, .inl (cs 1, 25, .inl qf11_8))] H := hP
        have hD : va_D A [(qr0, .inl (cs 1, 3, .inl qf0)), (qr2, .inl (cs 1, 20, .inl qf2)), (aR, .inr (4, [.ref aT, .ref aD, .int rt1_8, .int (nI rs1_8), .int (nI ra1_8), .int rn1_8, .int rp, .int rk1_8, .int rf1_8])), (aT, .inr (7, [.ref tb, .int (nI nt)])), (tb, .inl (cs 0, 400, .inl ft)), (aD, .inr (0, [.int qli, .int (nI qtp), .int qlw, .int qod, .int (nI qnc), .int (nI qnr1_8), .int (nI qno), .int (nI qna), .int qdr, .int qlo, .ref qr0, .ref qr1, .ref qr2, .ref qr3, .ref qr4])), (qr1, .inl (cs 1, 25, .inl qf11_8))] := hD
        replace hq_8 : (rs1_8 ≤ ra1_8) ∧ (ra1_8 ≤ nt) ∧ (qnr1_8 ≤ 5) ∧ ((r_8 = 1 ∧ True) ∨ (r_8 = 0 ∧ True)) := hq_8
        obtain ⟨hp_8_0, hp_8_1, hp_8_2, hq_8⟩ := hq_8
        rcases hq_8 with ⟨rfl, hq_8⟩ | ⟨rfl, hq_8⟩
        ·
          refine lv_istore_n (lv' := [(1, .int 1), (0, .ref aR)]) hx hb dX4_readLine_48 rfl hl (by decide) rfl (fun ls hl => ?_)
          refine lv_goto (tgt := 75) hx hb dX4_readLine_49 (by decide) ?_
          refine lv_iload_n hx hb dX4_readLine_75 rfl (lv_at hl 0 rfl) ?_
          refine lv_if_ne (tgt := 81) hx hb dX4_readLine_76 (by decide) (fun _ => ?_) (fun h9 => absurd h9 (by decide))
          refine lv_aload_n hx hb dX4_readLine_81 rfl (lv_at hl 1 rfl) ?_
          refine va_get (D := D) (ci := 4) (v := .int rt1_8) (C := RX4) (T := TX4) (N := 9) hx hb hts iuX4_readLine_X4 hown hK hP 2 rfl rfl 2 (by decide) (htw (.fieldLink RX4 11 "MergeJudge$Reader" "token" "I") (List.mem_of_getElem? (i := 21) rfl)) (fun _ h9 => h9) rfl dX4_readLine_82 ?_
          refine lv_iconst (v := 3) hx hb dX4_readLine_85 (by decide) ?_
          refine lv_icmp_eq (tgt := 95) hx hb dX4_readLine_86 (by decide) (fun c_9 => ?_) (fun c_9 => ?_)
          ·
            refine lv_aload_n hx hb dX4_readLine_95 rfl (lv_at hl 1 rfl) ?_
            refine aft_v (wr := [(qr0, .inl (cs 1, 3, .inl qf0)), (qr2, .inl (cs 1, 20, .inl qf2)), (aD, .inr (0, [.int qli, .int (nI qtp), .int qlw, .int qod, .int (nI qnc), .int (nI qnr1_8), .int (nI qno), .int (nI qna), .int qdr, .int qlo, .ref qr0, .ref qr1, .ref qr2, .ref qr3, .ref qr4])), (qr1, .inl (cs 1, 25, .inl qf11_8))]) hP hD hS hA [2, 3, 4] [0, 1, 5, 6] rfl rfl (by decide) (by decide) (run_v (As := []) (rest := []) hFix hK hE hP hD [2, 3, 4] (k_X4_next l D cs _ aR aT aD rt1_8 rn1_8 rp rk1_8 rf1_8 tb ft rs1_8 ra1_8 nt (by first | assumption | decide | omega) (by first | assumption | decide | omega)) (cwV 0 hts gc_X4_readLine_46_X4_next rfl rfl rfl (by decide +kernel) ⟨Nat.le_of_ble_eq_true rfl, Nat.le_of_ble_eq_true rfl⟩) rfl (by decide) rfl rfl rfl hl.1 rfl (Nat.le_of_ble_eq_true rfl) dX4_readLine_96 ⟨Nat.le_of_ble_eq_true rfl, Nat.le_of_ble_eq_true rfl⟩) (fun u_10 H locs hq_10 hP hD hS => ?_)
            obtain ⟨rt1_10, rs1_10, ra1_10, rn1_10⟩ := u_10
            have hP : va_P D vwCl [(qr0, .inl (cs 1, 3, .inl qf0)), (qr2, .inl (cs 1, 20, .inl qf2)), (aD, .inr (0, [.int qli, .int (nI qtp), .int qlw, .int qod, .int (nI qnc), .int (nI qnr1_8), .int (nI qno), .int (nI qna), .int qdr, .int qlo, .ref qr0, .ref qr1, .ref qr2, .ref qr3, .ref qr4])), (qr1, .inl (cs 1, 25, .inl qf11_8)), (aR, .inr (4, [.ref aT, .ref aD, .int rt1_10, .int (nI rs1_10), .int (nI ra1_10), .int rn1_10, .int rp, .int rk1_8, .int rf1_8])), (aT, .inr (7, [.ref tb, .int (nI nt)])), (tb, .inl (cs 0, 400, .inl ft))] H := hP
            have hD : va_D A [(qr0, .inl (cs 1, 3, .inl qf0)), (qr2, .inl (cs 1, 20, .inl qf2)), (aD, .inr (0, [.int qli, .int (nI qtp), .int qlw, .int qod, .int (nI qnc), .int (nI qnr1_8), .int (nI qno), .int (nI qna), .int qdr, .int qlo, .ref qr0, .ref qr1, .ref qr2, .ref qr3, .ref qr4])), (qr1, .inl (cs 1, 25, .inl qf11_8)), (aR, .inr (4, [.ref aT, .ref aD, .int rt1_10, .int (nI rs1_10), .int (nI ra1_10), .int rn1_10, .int rp, .int rk1_8, .int rf1_8])), (aT, .inr (7, [.ref tb, .int (nI nt)])), (tb, .inl (cs 0, 400, .inl ft))] := hD
            replace hq_10 : (rs1_10 ≤ ra1_10) ∧ (ra1_10 ≤ nt) := hq_10
            obtain ⟨hp_10_0, hp_10_1⟩ := hq_10
            refine lv_aload_n hx hb dX4_readLine_99 rfl (lv_at hl 1 rfl) ?_
            refine va_get (D := D) (ci := 4) (v := .ref aD) (C := RX4) (T := TX4) (N := 9) hx hb hts iuX4_readLine_X4 hown hK hP 4 rfl rfl 1 (by decide) (htw (.fieldLink RX4 37 "MergeJudge$Reader" "draft" "LMergeJudge$Base;") (List.mem_of_getElem? (i := 0) rfl)) (fun _ h9 => h9) rfl dX4_readLine_100 ?_
            refine lv_dup hx hb dX4_readLine_103 rfl ?_
            refine va_get (D := D) (ci := 0) (v := .int qli) (C := RX0) (T := TX0) (N := 15) hx hb hts iuX4_readLine_X0 hown hK hP 2 rfl rfl 0 (by decide) (htw (.fieldLink RX4 53 "MergeJudge$Base" "lines" "I") (List.mem_of_getElem? (i := 1) rfl)) (fun _ h9 => h9) rfl dX4_readLine_104 ?_
            refine lv_iconst (v := 1) hx hb dX4_readLine_107 (by decide) ?_
            refine lv_iadd hx hb dX4_readLine_108 ?_
            refine va_put (D := D) (ci := 0) (v := .int (qli + (1 : Int32))) (ty := .int) (C := RX0) (T := TX0) (N := 15) hx hb hts iuX4_readLine_X0 tyX0 tyX0_ok nmX0 hown hK hP hD hS 2 rfl rfl 0 (by decide) (htw (.fieldLink RX4 53 "MergeJudge$Base" "lines" "I") (List.mem_of_getElem? (i := 1) rfl)) (fun _ h9 => h9) rfl (by decide +kernel) rfl rfl (Nat.le_of_ble_eq_true rfl) dX4_readLine_109 (fun H locs hP hD hS => ?_)
            have hP : va_P D vwCl [(qr0, .inl (cs 1, 3, .inl qf0)), (qr2, .inl (cs 1, 20, .inl qf2)), (aD, .inr (0, [.int (qli + (1 : Int32)), .int (nI qtp), .int qlw, .int qod, .int (nI qnc), .int (nI qnr1_8), .int (nI qno), .int (nI qna), .int qdr, .int qlo, .ref qr0, .ref qr1, .ref qr2, .ref qr3, .ref qr4])), (qr1, .inl (cs 1, 25, .inl qf11_8)), (aR, .inr (4, [.ref aT, .ref aD, .int rt1_10, .int (nI rs1_10), .int (nI ra1_10), .int rn1_10, .int rp, .int rk1_8, .int rf1_8])), (aT, .inr (7, [.ref tb, .int (nI nt)])), (tb, .inl (cs 0, 400, .inl ft))] H := hP
            have hD : va_D A [(qr0, .inl (cs 1, 3, .inl qf0)), (qr2, .inl (cs 1, 20, .inl qf2)), (aD, .inr (0, [.int (qli + (1 : Int32)), .int (nI qtp), .int qlw, .int qod, .int (nI qnc), .int (nI qnr1_8), .int (nI qno), .int (nI qna), .int qdr, .int qlo, .ref qr0, .ref qr1, .ref qr2, .ref qr3, .ref qr4])), (qr1, .inl (cs 1, 25, .inl qf11_8)), (aR, .inr (4, [.ref aT, .ref aD, .int rt1_10, .int (nI rs1_10), .int (nI ra1_10), .int rn1_10, .int rp, .int rk1_8, .int rf1_8])), (aT, .inr (7, [.ref tb, .int (nI nt)])), (tb, .inl (cs 0, 400, .inl ft))] := hD
            refine lv_iconst (v := 1) hx hb dX4_readLine_112 (by decide) ?_
            exact ret_z hx hb hr hlk hS (Nat.le_of_ble_eq_true rfl) (Nat.le_of_ble_eq_true rfl) (by decide) (rt1_10, rs1_10, ra1_10, rn1_10, rp, rk1_8, rf1_8, qli + (1 : Int32), qtp, qlw, qod, qnc, qnr1_8, qno, qf0, qf11_8, qf2) (⟨(by omega), (by omega), (by omega), (by omega), (by omega), (by omega), Or.inl ⟨rfl, trivial⟩⟩) (hP.sub [4, 5, 6, 2, 0, 3, 1] rfl) (hD.sub [4, 5, 6, 2, 0, 3, 1] (by decide) rfl) dX4_readLine_113
          ·
            refine lv_aload_n hx hb dX4_readLine_89 rfl (lv_at hl 1 rfl) ?_
            refine lv_iconst (v := 1) hx hb dX4_readLine_90 (by decide) ?_
            refine aft_i (wr := [(qr0, .inl (cs 1, 3, .inl qf0)), (qr2, .inl (cs 1, 20, .inl qf2)), (aT, .inr (7, [.ref tb, .int (nI nt)])), (tb, .inl (cs 0, 400, .inl ft)), (aD, .inr (0, [.int qli, .int (nI qtp), .int qlw, .int qod, .int (nI qnc), .int (nI qnr1_8), .int (nI qno), .int (nI qna), .int qdr, .int qlo, .ref qr0, .ref qr1, .ref qr2, .ref qr3, .ref qr4])), (qr1, .inl (cs 1, 25, .inl qf11_8))]) hP hD hS hA [2] [0, 1, 3, 4, 5, 6] rfl rfl (by decide) (by decide) (run_v (As := [.int 1]) (rest := []) hFix hK hE hP hD [2] (k_X4_failed l D cs _ aR 1 aT aD rt1_8 rn1_8 rp rk1_8 rf1_8 rs1_8 ra1_8) (cwV 1 hts gc_X4_readLine_78_X4_failed rfl rfl rfl (by decide +kernel) ⟨Nat.le_of_ble_eq_true rfl, Nat.le_of_ble_eq_true rfl⟩) rfl (by decide) rfl rfl rfl hl.1 rfl (Nat.le_of_ble_eq_true rfl) dX4_readLine_91 ⟨Nat.le_of_ble_eq_true rfl, Nat.le_of_ble_eq_true rfl⟩) (fun r_11 u_11 H locs hq_11 hP hD hS => ?_)
            obtain ⟨rk1_11, rf1_11⟩ := u_11
            have hP : va_P D vwCl [(qr0, .inl (cs 1, 3, .inl qf0)), (qr2, .inl (cs 1, 20, .inl qf2)), (aT, .inr (7, [.ref tb, .int (nI nt)])), (tb, .inl (cs 0, 400, .inl ft)), (aD, .inr (0, [.int qli, .int (nI qtp), .int qlw, .int qod, .int (nI qnc), .int (nI qnr1_8), .int (nI qno), .int (nI qna), .int qdr, .int qlo, .ref qr0, .ref qr1, .ref qr2, .ref qr3, .ref qr4])), (qr1, .inl (cs 1, 25, .inl qf11_8)), (aR, .inr (4, [.ref aT, .ref aD, .int rt1_8, .int (nI rs1_8), .int (nI ra1_8), .int rn1_8, .int rp, .int rk1_11, .int rf1_11]))] H := hP
            have hD : va_D A [(qr0, .inl (cs 1, 3, .inl qf0)), (qr2, .inl (cs 1, 20, .inl qf2)), (aT, .inr (7, [.ref tb, .int (nI nt)])), (tb, .inl (cs 0, 400, .inl ft)), (aD, .inr (0, [.int qli, .int (nI qtp), .int qlw, .int qod, .int (nI qnc), .int (nI qnr1_8), .int (nI qno), .int (nI qna), .int qdr, .int qlo, .ref qr0, .ref qr1, .ref qr2, .ref qr3, .ref qr4])), (qr1, .inl (cs 1, 25, .inl qf11_8)), (aR, .inr (4, [.ref aT, .ref aD, .int rt1_8, .int (nI rs1_8), .int (nI ra1_8), .int rn1_8, .int rp, .int rk1_11, .int rf1_11]))] := hD
            replace hq_11 : ((r_11 = 0 ∧ True)) := hq_11
            obtain ⟨rfl, hq_11⟩ := hq_11
            ·
              exact ret_z hx hb hr hlk hS (Nat.le_of_ble_eq_true rfl) (Nat.le_of_ble_eq_true rfl) (by decide) (rt1_8, rs1_8, ra1_8, rn1_8, rp, rk1_11, rf1_11, qli, qtp, qlw, qod, qnc, qnr1_8, qno, qf0, qf11_8, qf2) (⟨(by omega), (by omega), (by omega), (by omega), (by omega), (by omega), Or.inr (⟨rfl, trivial⟩)⟩) (hP.sub [6, 2, 3, 4, 0, 5, 1] rfl) (hD.sub [6, 2, 3, 4, 0, 5, 1] (by decide) rfl) dX4_readLine_94
        ·
          refine lv_istore_n (lv' := [(1, .int 0), (0, .ref aR)]) hx hb dX4_readLine_48 rfl hl (by decide) rfl (fun ls hl => ?_)
          refine lv_goto (tgt := 75) hx hb dX4_readLine_49 (by decide) ?_
          refine lv_iload_n hx hb dX4_readLine_75 rfl (lv_at hl 0 rfl) ?_
          refine lv_if_ne (tgt := 81) hx hb dX4_readLine_76 (by decide) (fun h9 => absurd h9 (by decide)) (fun _ => ?_)
          refine lv_iconst (v := 0) hx hb dX4_readLine_79 (by decide) ?_
          exact ret_z hx hb hr hlk hS (Nat.le_of_ble_eq_true rfl) (Nat.le_of_ble_eq_true rfl) (by decide) (rt1_8, rs1_8, ra1_8, rn1_8, rp, rk1_8, rf1_8, qli, qtp, qlw, qod, qnc, qnr1_8, qno, qf0, qf11_8, qf2) (⟨(by omega), (by omega), (by omega), (by omega), (by omega), (by omega), Or.inr (⟨rfl, trivial⟩)⟩) (hP.sub [2, 3, 4, 5, 0, 6, 1] rfl) (hD.sub [2, 3, 4, 5, 0, 6, 1] (by decide) rfl) dX4_readLine_80
      ·
        refine lv_if_eq (tgt := 52) hx hb dX4_readLine_41 (by decide) (fun _ => ?_) (fun h9 => absurd h9 (by decide))
        refine lv_aload_n hx hb dX4_readLine_52 rfl (lv_at hl 0 rfl) ?_
        refine va_ldcS hx hb hown (hV.2.2.2 (RX4, 73, "op", 20) (List.mem_of_getElem? (i := 20) rfl)) dX4_readLine_53 ?_
        refine aft_i (wr := [(aD, .inr (0, [.int qli, .int (nI qtp), .int qlw, .int qod, .int (nI qnc), .int (nI qnr), .int (nI qno), .int (nI qna), .int qdr, .int qlo, .ref qr0, .ref qr1, .ref qr2, .ref qr3, .ref qr4])), (qr0, .inl (cs 1, 3, .inl qf0)), (qr1, .inl (cs 1, 25, .inl qf1)), (qr2, .inl (cs 1, 20, .inl qf2))]) hP hD hS hA [4, 5, 6] [0, 1, 2, 3] rfl rfl (by decide) (by decide) (run_vS (As := [.ref (aK 20)]) (rest := []) hFix hK hE hV hP hD hS hA [4, 5, 6] (k_X4_isWord l D cs _ aK aV aR 20 aT aD rt rn rp rk rf tb ft rs ra nt (by first | assumption | decide | omega) (by first | assumption | decide | omega) (by first | assumption | decide | omega) (by first | assumption | decide | omega)) (cwV 1 hts gc_X4_readLine_61_X4_isWord rfl rfl rfl (by decide +kernel) ⟨Nat.le_of_ble_eq_true rfl, Nat.le_of_ble_eq_true rfl⟩) rfl (by decide) (rcv hK hP [4, 5, 6] rfl rfl rfl) rfl hl.1 rfl (Nat.le_of_ble_eq_true rfl) dX4_readLine_55 ⟨Nat.le_of_ble_eq_true rfl, Nat.le_of_ble_eq_true rfl⟩) (fun r_12 u_12 H locs hq_12 hP hD hS => ?_)
        have hP : va_P D vwCl [(aD, .inr (0, [.int qli, .int (nI qtp), .int qlw, .int qod, .int (nI qnc), .int (nI qnr), .int (nI qno), .int (nI qna), .int qdr, .int qlo, .ref qr0, .ref qr1, .ref qr2, .ref qr3, .ref qr4])), (qr0, .inl (cs 1, 3, .inl qf0)), (qr1, .inl (cs 1, 25, .inl qf1)), (qr2, .inl (cs 1, 20, .inl qf2)), (aR, .inr (4, [.ref aT, .ref aD, .int rt, .int (nI rs), .int (nI ra), .int rn, .int rp, .int rk, .int rf])), (aT, .inr (7, [.ref tb, .int (nI nt)])), (tb, .inl (cs 0, 400, .inl ft))] H := hP
        have hD : va_D A [(aD, .inr (0, [.int qli, .int (nI qtp), .int qlw, .int qod, .int (nI qnc), .int (nI qnr), .int (nI qno), .int (nI qna), .int qdr, .int qlo, .ref qr0, .ref qr1, .ref qr2, .ref qr3, .ref qr4])), (qr0, .inl (cs 1, 3, .inl qf0)), (qr1, .inl (cs 1, 25, .inl qf1)), (qr2, .inl (cs 1, 20, .inl qf2)), (aR, .inr (4, [.ref aT, .ref aD, .int rt, .int (nI rs), .int (nI ra), .int rn, .int rp, .int rk, .int rf])), (aT, .inr (7, [.ref tb, .int (nI nt)])), (tb, .inl (cs 0, 400, .inl ft))] := hD
        replace hq_12 : ((r_12 = 1 ∧ True) ∨ (r_12 = 0 ∧ True)) := hq_12
        rcases hq_12 with ⟨rfl, hq_12⟩ | ⟨rfl, hq_12⟩
        ·
          refine lv_if_eq (tgt := 69) hx hb dX4_readLine_58 (by decide) (fun h9 => absurd h9 (by decide)) (fun _ => ?_)
          refine lv_aload_n hx hb dX4_readLine_61 rfl (lv_at hl 0 rfl) ?_
          refine aft_i (wr := [(qr0, .inl (cs 1, 3, .inl qf0)), (qr1, .inl (cs 1, 25, .inl qf1))]) hP hD hS hA [4, 5, 6, 0, 3] [1, 2] rfl rfl (by decide) (by decide) (run_vS (As := []) (rest := []) hFix hK hE hV hP hD hS hA [4, 5, 6, 0, 3] (k_X4_readOp l D cs _ aK aV aR aT aD rt rn rp rk rf tb ft qli qlw qod qdr qlo qr0 qr1 qr2 qr3 qr4 qf2 rs ra nt qtp qnc qnr qno qna (by first | assumption | decide | omega) (by first | assumption | decide | omega) (by first | assumption | decide | omega) (by first | assumption | decide | omega) (by first | assumption | decide | omega) (by first | assumption | decide | omega) (by first | assumption | decide | omega) (by first | assumption | decide | omega)) (cwV 0 hts gc_X4_readLine_75_X4_readOp rfl rfl rfl (by decide +kernel) ⟨Nat.le_of_ble_eq_true rfl, Nat.le_of_ble_eq_true rfl⟩) rfl (by decide) (rcv hK hP [4, 5, 6, 0, 3] rfl rfl rfl) rfl hl.1 rfl (Nat.le_of_ble_eq_true rfl) dX4_readLine_62 ⟨Nat.le_of_ble_eq_true rfl, Nat.le_of_ble_eq_true rfl⟩) (fun r_13 u_13 H locs hq_13 hP hD hS => ?_)
          obtain ⟨rt1_13, rs1_13, ra1_13, rn1_13, rk1_13, rf1_13, qno1_13, qf21_13⟩ := u_13
          have hP : va_P D vwCl [(qr0, .inl (cs 1, 3, .inl qf0)), (qr1, .inl (cs 1, 25, .inl qf1)), (aR, .inr (4, [.ref aT, .ref aD, .int rt1_13, .int (nI rs1_13), .int (nI ra1_13), .int rn1_13, .int rp, .int rk1_13, .int rf1_13])), (aT, .inr (7, [.ref tb, .int (nI nt)])), (tb, .inl (cs 0, 400, .inl ft)), (aD, .inr (0, [.int qli, .int (nI qtp), .int qlw, .int qod, .int (nI qnc), .int (nI qnr), .int (nI qno1_13), .int (nI qna), .int qdr, .int qlo, .ref qr0, .ref qr1, .ref qr2, .ref qr3, .ref qr4])), (qr2, .inl (cs 1, 20, .inl qf21_13))] H := hP
          have hD : va_D A [(qr0, .inl (cs 1, 3, .inl qf0)), (qr1, .inl (cs 1, 25, .inl qf1)), (aR, .inr (4, [.ref aT, .ref aD, .int rt1_13, .int (nI rs1_13), .int (nI ra1_13), .int rn1_13, .int rp, .int rk1_13, .int rf1_13])), (aT, .inr (7, [.ref tb, .int (nI nt)])), (tb, .inl (cs 0, 400, .inl ft)), (aD, .inr (0, [.int qli, .int (nI qtp), .int qlw, .int qod, .int (nI qnc), .int (nI qnr), .int (nI qno1_13), .int (nI qna), .int qdr, .int qlo, .ref qr0, .ref qr1, .ref qr2, .ref qr3, .ref qr4])), (qr2, .inl (cs 1, 20, .inl qf21_13))] := hD
          replace hq_13 : (rs1_13 ≤ ra1_13) ∧ (ra1_13 ≤ nt) ∧ (qno1_13 ≤ 5) ∧ ((r_13 = 1 ∧ True) ∨ (r_13 = 0 ∧ True)) := hq_13
          obtain ⟨hp_13_0, hp_13_1, hp_13_2, hq_13⟩ := hq_13
          rcases hq_13 with ⟨rfl, hq_13⟩ | ⟨rfl, hq_13⟩
          ·
            refine lv_istore_n (lv' := [(1, .int 1), (0, .ref aR)]) hx hb dX4_readLine_65 rfl hl (by decide) rfl (fun ls hl => ?_)
            refine lv_goto (tgt := 75) hx hb dX4_readLine_66 (by decide) ?_
            refine lv_iload_n hx hb dX4_readLine_75 rfl (lv_at hl 0 rfl) ?_
            refine lv_if_ne (tgt := 81) hx hb dX4_readLine_76 (by decide) (fun _ => ?_) (fun h9 => absurd h9 (by decide))
            refine lv_aload_n hx hb dX4_readLine_81 rfl (lv_at hl 1 rfl) ?_
            refine va_get (D := D) (ci := 4) (v := .int rt1_13) (C := RX4) (T := TX4) (N := 9) hx hb hts iuX4_readLine_X4 hown hK hP 2 rfl rfl 2 (by decide) (htw (.fieldLink RX4 11 "MergeJudge$Reader" "token" "I") (List.mem_of_getElem? (i := 21) rfl)) (fun _ h9 => h9) rfl dX4_readLine_82 ?_
            refine lv_iconst (v := 3) hx hb dX4_readLine_85 (by decide) ?_
            refine lv_icmp_eq (tgt := 95) hx hb dX4_readLine_86 (by decide) (fun c_14 => ?_) (fun c_14 => ?_)
            ·
              refine lv_aload_n hx hb dX4_readLine_95 rfl (lv_at hl 1 rfl) ?_
              refine aft_v (wr := [(qr0, .inl (cs 1, 3, .inl qf0)), (qr1, .inl (cs 1, 25, .inl qf1)), (aD, .inr (0, [.int qli, .int (nI qtp), .int qlw, .int qod, .int (nI qnc), .int (nI qnr), .int (nI qno1_13), .int (nI qna), .int qdr, .int qlo, .ref qr0, .ref qr1, .ref qr2, .ref qr3, .ref qr4])), (qr2, .inl (cs 1, 20, .inl qf21_13))]) hP hD hS hA [2, 3, 4] [0, 1, 5, 6] rfl rfl (by decide) (by decide) (run_v (As := []) (rest := []) hFix hK hE hP hD [2, 3, 4] (k_X4_next l D cs _ aR aT aD rt1_13 rn1_13 rp rk1_13 rf1_13 tb ft rs1_13 ra1_13 nt (by first | assumption | decide | omega) (by first | assumption | decide | omega)) (cwV 0 hts gc_X4_readLine_46_X4_next rfl rfl rfl (by decide +kernel) ⟨Nat.le_of_ble_eq_true rfl, Nat.le_of_ble_eq_true rfl⟩) rfl (by decide) rfl rfl rfl hl.1 rfl (Nat.le_of_ble_eq_true rfl) dX4_readLine_96 ⟨Nat.le_of_ble_eq_true rfl, Nat.le_of_ble_eq_true rfl⟩) (fun u_15 H locs hq_15 hP hD hS => ?_)
              obtain ⟨rt1_15, rs1_15, ra1_15, rn1_15⟩ := u_15
              have hP : va_P D vwCl [(qr0, .inl (cs 1, 3, .inl qf0)), (qr1, .inl (cs 1, 25, .inl qf1)), (aD, .inr (0, [.int qli, .int (nI qtp), .int qlw, .int qod, .int (nI qnc), .int (nI qnr), .int (nI qno1_13), .int (nI qna), .int qdr, .int qlo, .ref qr0, .ref qr1, .ref qr2, .ref qr3, .ref qr4])), (qr2, .inl (cs 1, 20, .inl qf21_13)), (aR, .inr (4, [.ref aT, .ref aD, .int rt1_15, .int (nI rs1_15), .int (nI ra1_15), .int rn1_15, .int rp, .int rk1_13, .int rf1_13])), (aT, .inr (7, [.ref tb, .int (nI nt)])), (tb, .inl (cs 0, 400, .inl ft))] H := hP
              have hD : va_D A [(qr0, .inl (cs 1, 3, .inl qf0)), (qr1, .inl (cs 1, 25, .inl qf1)), (aD, .inr (0, [.int qli, .int (nI qtp), .int qlw, .int qod, .int (nI qnc), .int (nI qnr), .int (nI qno1_13), .int (nI qna), .int qdr, .int qlo, .ref qr0, .ref qr1, .ref qr2, .ref qr3, .ref qr4])), (qr2, .inl (cs 1, 20, .inl qf21_13)), (aR, .inr (4, [.ref aT, .ref aD, .int rt1_15, .int (nI rs1_15), .int (nI ra1_15), .int rn1_15, .int rp, .int rk1_13, .int rf1_13])), (aT, .inr (7, [.ref tb, .int (nI nt)])), (tb, .inl (cs 0, 400, .inl ft))] := hD
              replace hq_15 : (rs1_15 ≤ ra1_15) ∧ (ra1_15 ≤ nt) := hq_15
              obtain ⟨hp_15_0, hp_15_1⟩ := hq_15
              refine lv_aload_n hx hb dX4_readLine_99 rfl (lv_at hl 1 rfl) ?_
              refine va_get (D := D) (ci := 4) (v := .ref aD) (C := RX4) (T := TX4) (N := 9) hx hb hts iuX4_readLine_X4 hown hK hP 4 rfl rfl 1 (by decide) (htw (.fieldLink RX4 37 "MergeJudge$Reader" "draft" "LMergeJudge$Base;") (List.mem_of_getElem? (i := 0) rfl)) (fun _ h9 => h9) rfl dX4_readLine_100 ?_
              refine lv_dup hx hb dX4_readLine_103 rfl ?_
              refine va_get (D := D) (ci := 0) (v := .int qli) (C := RX0) (T := TX0) (N := 15) hx hb hts iuX4_readLine_X0 hown hK hP 2 rfl rfl 0 (by decide) (htw (.fieldLink RX4 53 "MergeJudge$Base" "lines" "I") (List.mem_of_getElem? (i := 1) rfl)) (fun _ h9 => h9) rfl dX4_readLine_104 ?_
              refine lv_iconst (v := 1) hx hb dX4_readLine_107 (by decide) ?_
              refine lv_iadd hx hb dX4_readLine_108 ?_
              refine va_put (D := D) (ci := 0) (v := .int (qli + (1 : Int32))) (ty := .int) (C := RX0) (T := TX0) (N := 15) hx hb hts iuX4_readLine_X0 tyX0 tyX0_ok nmX0 hown hK hP hD hS 2 rfl rfl 0 (by decide) (htw (.fieldLink RX4 53 "MergeJudge$Base" "lines" "I") (List.mem_of_getElem? (i := 1) rfl)) (fun _ h9 => h9) rfl (by decide +kernel) rfl rfl (Nat.le_of_ble_eq_true rfl) dX4_readLine_109 (fun H locs hP hD hS => ?_)
              have hP : va_P D vwCl [(qr0, .inl (cs 1, 3, .inl qf0)), (qr1, .inl (cs 1, 25, .inl qf1)), (aD, .inr (0, [.int (qli + (1 : Int32)), .int (nI qtp), .int qlw, .int qod, .int (nI qnc), .int (nI qnr), .int (nI qno1_13), .int (nI qna), .int qdr, .int qlo, .ref qr0, .ref qr1, .ref qr2, .ref qr3, .ref qr4])), (qr2, .inl (cs 1, 20, .inl qf21_13)), (aR, .inr (4, [.ref aT, .ref aD, .int rt1_15, .int (nI rs1_15), .int (nI ra1_15), .int rn1_15, .int rp, .int rk1_13, .int rf1_13])), (aT, .inr (7, [.ref tb, .int (nI nt)])), (tb, .inl (cs 0, 400, .inl ft))] H := hP
              have hD : va_D A [(qr0, .inl (cs 1, 3, .inl qf0)), (qr1, .inl (cs 1, 25, .inl qf1)), (aD, .inr (0, [.int (qli + (1 : Int32)), .int (nI qtp), .int qlw, .int qod, .int (nI qnc), .int (nI qnr), .int (nI qno1_13), .int (nI qna), .int qdr, .int qlo, .ref qr0, .ref qr1, .ref qr2, .ref qr3, .ref qr4])), (qr2, .inl (cs 1, 20, .inl qf21_13)), (aR, .inr (4, [.ref aT, .ref aD, .int rt1_15, .int (nI rs1_15), .int (nI ra1_15), .int rn1_15, .int rp, .int rk1_13, .int rf1_13])), (aT, .inr (7, [.ref tb, .int (nI nt)])), (tb, .inl (cs 0, 400, .inl ft))] := hD
              refine lv_iconst (v := 1) hx hb dX4_readLine_112 (by decide) ?_
              exact ret_z hx hb hr hlk hS (Nat.le_of_ble_eq_true rfl) (Nat.le_of_ble_eq_true rfl) (by decide) (rt1_15, rs1_15, ra1_15, rn1_15, rp, rk1_13, rf1_13, qli + (1 : Int32), qtp, qlw, qod, qnc, qnr, qno1_13, qf0, qf1, qf21_13) (⟨(by omega), (by omega), (by omega), (by omega), (by omega), (by omega), Or.inl ⟨rfl, trivial⟩⟩) (hP.sub [4, 5, 6, 2, 0, 1, 3] rfl) (hD.sub [4, 5, 6, 2, 0, 1, 3] (by decide) rfl) dX4_readLine_113
            ·
              refine lv_aload_n hx hb dX4_readLine_89 rfl (lv_at hl 1 rfl) ?_
              refine lv_iconst (v := 1) hx hb dX4_readLine_90 (by decide) ?_
              refine aft_i (wr := [(qr0, .inl (cs 1, 3, .inl qf0)), (qr1, .inl (cs 1, 25, .inl qf1)), (aT, .inr (7, [.ref tb, .int (nI nt)])), (tb, .inl (cs 0, 400, .inl ft)), (aD, .inr (0, [.int qli, .int (nI qtp), .int qlw, .int qod, .int (nI qnc), .int (nI qnr), .int (nI qno1_13), .int (nI qna), .int qdr, .int qlo, .ref qr0, .ref qr1, .ref qr2, .ref qr3, .ref qr4])), (qr2, .inl (cs 1, 20, .inl qf21_13))]) hP hD hS hA [2] [0, 1, 3, 4, 5, 6] rfl rfl (by decide) (by decide) (run_v (As := [.int 1]) (rest := []) hFix hK hE hP hD [2] (k_X4_failed l D cs _ aR 1 aT aD rt1_13 rn1_13 rp rk1_13 rf1_13 rs1_13 ra1_13) (cwV 1 hts gc_X4_readLine_78_X4_failed rfl rfl rfl (by decide +kernel) ⟨Nat.le_of_ble_eq_true rfl, Nat.le_of_ble_eq_true rfl⟩) rfl (by decide) rfl rfl rfl hl.1 rfl (Nat.le_of_ble_eq_true rfl) dX4_readLine_91 ⟨Nat.le_of_ble_eq_true rfl, Nat.le_of_ble_eq_true rfl⟩) (fun r_16 u_16 H locs hq_16 hP hD hS => ?_)
              obtain ⟨rk1_16, rf1_16⟩ := u_16
              have hP : va_P D vwCl [(qr0, .inl (cs 1, 3, .inl qf0)), (qr1, .inl (cs 1, 25, .inl qf1)), (aT, .inr (7, [.ref tb, .int (nI nt)])), (tb, .inl (cs 0, 400, .inl ft)), (aD, .inr (0, [.int qli, .int (nI qtp), .int qlw, .int qod, .int (nI qnc), .int (nI qnr), .int (nI qno1_13), .int (nI qna), .int qdr, .int qlo, .ref qr0, .ref qr1, .ref qr2, .ref qr3, .ref qr4])), (qr2, .inl (cs 1, 20, .inl qf21_13)), (aR, .inr (4, [.ref aT, .ref aD, .int rt1_13, .int (nI rs1_13), .int (nI ra1_13), .int rn1_13, .int rp, .int rk1_16, .int rf1_16]))] H := hP
              have hD : va_D A [(qr0, .inl (cs 1, 3, .inl qf0)), (qr1, .inl (cs 1, 25, .inl qf1)), (aT, .inr (7, [.ref tb, .int (nI nt)])), (tb, .inl (cs 0, 400, .inl ft)), (aD, .inr (0, [.int qli, .int (nI qtp), .int qlw, .int qod, .int (nI qnc), .int (nI qnr), .int (nI qno1_13), .int (nI qna), .int qdr, .int qlo, .ref qr0, .ref qr1, .ref qr2, .ref qr3, .ref qr4])), (qr2, .inl (cs 1, 20, .inl qf21_13)), (aR, .inr (4, [.ref aT, .ref aD, .int rt1_13, .int (nI rs1_13), .int (nI ra1_13), .int rn1_13, .int rp, .int rk1_16, .int rf1_16]))] := hD
              replace hq_16 : ((r_16 = 0 ∧ True)) := hq_16
              obtain ⟨rfl, hq_16⟩ := hq_16
              ·
                exact ret_z hx hb hr hlk hS (Nat.le_of_ble_eq_true rfl) (Nat.le_of_ble_eq_true rfl) (by decide) (rt1_13, rs1_13, ra1_13, rn1_13, rp, rk1_16, rf1_16, qli, qtp, qlw, qod, qnc, qnr, qno1_13, qf0, qf1, qf21_13) (⟨(by omega), (by omega), (by omega), (by omega), (by omega), (by omega), Or.inr (⟨rfl, trivial⟩)⟩) (hP.sub [6, 2, 3, 4, 0, 1, 5] rfl) (hD.sub [6, 2, 3, 4, 0, 1, 5] (by decide) rfl) dX4_readLine_94
          ·
            refine lv_istore_n (lv' := [(1, .int 0), (0, .ref aR)]) hx hb dX4_readLine_65 rfl hl (by decide) rfl (fun ls hl => ?_)
            refine lv_goto (tgt := 75) hx hb dX4_readLine_66 (by decide) ?_
            refine lv_iload_n hx hb dX4_readLine_75 rfl (lv_at hl 0 rfl) ?_
            refine lv_if_ne (tgt := 81) hx hb dX4_readLine_76 (by decide) (fun h9 => absurd h9 (by decide)) (fun _ => ?_)
            refine lv_iconst (v := 0) hx hb dX4_readLine_79 (by decide) ?_
            exact ret_z hx hb hr hlk hS (Nat.le_of_ble_eq_true rfl) (Nat.le_of_ble_eq_true rfl) (by decide) (rt1_13, rs1_13, ra1_13, rn1_13, rp, rk1_13, rf1_13, qli, qtp, qlw, qod, qnc, qnr, qno1_13, qf0, qf1, qf21_13) (⟨(by omega), (by omega), (by omega), (by omega), (by omega), (by omega), Or.inr (⟨rfl, trivial⟩)⟩) (hP.sub [2, 3, 4, 5, 0, 1, 6] rfl) (hD.sub [2, 3, 4, 5, 0, 1, 6] (by decide) rfl) dX4_readLine_80
        ·
          refine lv_if_eq (tgt := 69) hx hb dX4_readLine_58 (by decide) (fun _ => ?_) (fun h9 => absurd h9 (by decide))
          refine lv_aload_n hx hb dX4_readLine_69 rfl (lv_at hl 0 rfl) ?_
          refine lv_iconst (v := 1) hx hb dX4_readLine_70 (by decide) ?_
          refine aft_i (wr := [(aD, .inr (0, [.int qli, .int (nI qtp), .int qlw, .int qod, .int (nI qnc), .int (nI qnr), .int (nI qno), .int (nI qna), .int qdr, .int qlo, .ref qr0, .ref qr1, .ref qr2, .ref qr3, .ref qr4])), (qr0, .inl (cs 1, 3, .inl qf0)), (qr1, .inl (cs 1, 25, .inl qf1)), (qr2, .inl (cs 1, 20, .inl qf2)), (aT, .inr (7, [.ref tb, .int (nI nt)])), (tb, .inl (cs 0, 400, .inl ft))]) hP hD hS hA [4] [0, 1, 2, 3, 5, 6] rfl rfl (by decide) (by decide) (run_v (As := [.int 1]) (rest := []) hFix hK hE hP hD [4] (k_X4_failed l D cs _ aR 1 aT aD rt rn rp rk rf rs ra) (cwV 1 hts gc_X4_readLine_78_X4_failed rfl rfl rfl (by decide +kernel) ⟨Nat.le_of_ble_eq_true rfl, Nat.le_of_ble_eq_true rfl⟩) rfl (by decide) rfl rfl rfl hl.1 rfl (Nat.le_of_ble_eq_true rfl) dX4_readLine_71 ⟨Nat.le_of_ble_eq_true rfl, Nat.le_of_ble_eq_true rfl⟩) (fun r_17 u_17 H locs hq_17 hP hD hS => ?_)
          obtain ⟨rk1_17, rf1_17⟩ := u_17
          have hP : va_P D vwCl [(aD, .inr (0, [.int qli, .int (nI qtp), .int qlw, .int qod, .int (nI qnc), .int (nI qnr), .int (nI qno), .int (nI qna), .int qdr, .int qlo, .ref qr0, .ref qr1, .ref qr2, .ref qr3, .ref qr4])), (qr0, .inl (cs 1, 3, .inl qf0)), (qr1, .inl (cs 1, 25, .inl qf1)), (qr2, .inl (cs 1, 20, .inl qf2)), (aT, .inr (7, [.ref tb, .int (nI nt)])), (tb, .inl (cs 0, 400, .inl ft)), (aR, .inr (4, [.ref aT, .ref aD, .int rt, .int (nI rs), .int (nI ra), .int rn, .int rp, .int rk1_17, .int rf1_17]))] H := hP
          have hD : va_D A [(aD, .inr (0, [.int qli, .int (nI qtp), .int qlw, .int qod, .int (nI qnc), .int (nI qnr), .int (nI qno), .int (nI qna), .int qdr, .int qlo, .ref qr0, .ref qr1, .ref qr2, .ref qr3, .ref qr4])), (qr0, .inl (cs 1, 3, .inl qf0)), (qr1, .inl (cs 1, 25, .inl qf1)), (qr2, .inl (cs 1, 20, .inl qf2)), (aT, .inr (7, [.ref tb, .int (nI nt)])), (tb, .inl (cs 0, 400, .inl ft)), (aR, .inr (4, [.ref aT, .ref aD, .int rt, .int (nI rs), .int (nI ra), .int rn, .int rp, .int rk1_17, .int rf1_17]))] := hD
          replace hq_17 : ((r_17 = 0 ∧ True)) := hq_17
          obtain ⟨rfl, hq_17⟩ := hq_17
          ·
            refine lv_istore_n (lv' := [(1, .int 0), (0, .ref aR)]) hx hb dX4_readLine_74 rfl hl (by decide) rfl (fun ls hl => ?_)
            refine lv_iload_n hx hb dX4_readLine_75 rfl (lv_at hl 0 rfl) ?_
            refine lv_if_ne (tgt := 81) hx hb dX4_readLine_76 (by decide) (fun h9 => absurd h9 (by decide)) (fun _ => ?_)
            refine lv_iconst (v := 0) hx hb dX4_readLine_79 (by decide) ?_
            exact ret_z hx hb hr hlk hS (Nat.le_of_ble_eq_true rfl) (Nat.le_of_ble_eq_true rfl) (by decide) (rt, rs, ra, rn, rp, rk1_17, rf1_17, qli, qtp, qlw, qod, qnc, qnr, qno, qf0, qf1, qf2) (⟨(by omega), (by omega), (by omega), (by omega), (by omega), (by omega), Or.inr (⟨rfl, trivial⟩)⟩) (hP.sub [6, 4, 5, 0, 1, 2, 3] rfl) (hD.sub [6, 4, 5, 0, 1, 2, 3] (by decide) rfl) dX4_readLine_80
  ·
    refine lv_aload_n hx hb dX4_readLine_10 rfl (lv_at hl 0 rfl) ?_
    refine aft_i (wr := [(qr0, .inl (cs 1, 3, .inl qf0)), (qr1, .inl (cs 1, 25, .inl qf1)), (qr2, .inl (cs 1, 20, .inl qf2))]) hP hD hS hA [0, 1, 2, 3] [4, 5, 6] rfl rfl (by decide) (by decide) (run_vS (As := []) (rest := []) hFix hK hE hV hP hD hS hA [0, 1, 2, 3] (k_X4_readHead l D cs _ aK aV aR aT aD rt rn rp rk rf tb ft qli qlw qod qdr qlo qr0 qr1 qr2 qr3 qr4 rs ra nt qtp qnc qnr qno qna (by first | assumption | decide | omega) (by first | assumption | decide | omega) (by first | assumption | decide | omega) (by first | assumption | decide | omega) (by first | assumption | decide | omega) (by first | assumption | decide | omega) (by first | assumption | decide | omega) (by first | assumption | decide | omega)) (cwV 0 hts gc_X4_readLine_56_X4_readHead rfl rfl rfl (by decide +kernel) ⟨Nat.le_of_ble_eq_true rfl, Nat.le_of_ble_eq_true rfl⟩) rfl (by decide) (rcv hK hP [0, 1, 2, 3] rfl rfl rfl) rfl hl.1 rfl (Nat.le_of_ble_eq_true rfl) dX4_readLine_11 ⟨Nat.le_of_ble_eq_true rfl, Nat.le_of_ble_eq_true rfl⟩) (fun r_18 u_18 H locs hq_18 hP hD hS => ?_)
    obtain ⟨rt1_18, rs1_18, ra1_18, rn1_18, rp1_18, rk1_18, rf1_18, qtp1_18, qlw1_18, qod1_18⟩ := u_18
    have hP : va_P D vwCl [(qr0, .inl (cs 1, 3, .inl qf0)), (qr1, .inl (cs 1, 25, .inl qf1)), (qr2, .inl (cs 1, 20, .inl qf2)), (aR, .inr (4, [.ref aT, .ref aD, .int rt1_18, .int (nI rs1_18), .int (nI ra1_18), .int rn1_18, .int rp1_18, .int rk1_18, .int rf1_18])), (aT, .inr (7, [.ref tb, .int (nI nt)])), (tb, .inl (cs 0, 400, .inl ft)), (aD, .inr (0, [.int qli, .int (nI qtp1_18), .int qlw1_18, .int qod1_18, .int (nI qnc), .int (nI qnr), .int (nI qno), .int (nI qna), .int qdr, .int qlo, .ref qr0, .ref qr1, .ref qr2, .ref qr3, .ref qr4]))] H := hP
    have hD : va_D A [(qr0, .inl (cs 1, 3, .inl qf0)), (qr1, .inl (cs 1, 25, .inl qf1)), (qr2, .inl (cs 1, 20, .inl qf2)), (aR, .inr (4, [.ref aT, .ref aD, .int rt1_18, .int (nI rs1_18), .int (nI ra1_18), .int rn1_18, .int rp1_18, .int rk1_18, .int rf1_18])), (aT, .inr (7, [.ref tb, .int (nI nt)])), (tb, .inl (cs 0, 400, .inl ft)), (aD, .inr (0, [.int qli, .int (nI qtp1_18), .int qlw1_18, .int qod1_18, .int (nI qnc), .int (nI qnr), .int (nI qno), .int (nI qna), .int qdr, .int qlo, .ref qr0, .ref qr1, .ref qr2, .ref qr3, .ref qr4]))] := hD
    replace hq_18 : (rs1_18 ≤ ra1_18) ∧ (ra1_18 ≤ nt) ∧ (qtp1_18 ≤ 3) ∧ ((r_18 = 1 ∧ True) ∨ (r_18 = 0 ∧ True)) := hq_18
    obtain ⟨hp_18_0, hp_18_1, hp_18_2, hq_18⟩ := hq_18
    rcases hq_18 with ⟨rfl, hq_18⟩ | ⟨rfl, hq_18⟩
    ·
      refine lv_istore_n (lv' := [(1, .int 1), (0, .ref aR)]) hx hb dX4_readLine_14 rfl hl (by decide) rfl (fun ls hl => ?_)
      refine lv_goto (tgt := 75) hx hb dX4_readLine_15 (by decide) ?_
      refine lv_iload_n hx hb dX4_readLine_75 rfl (lv_at hl 0 rfl) ?_
      refine lv_if_ne (tgt := 81) hx hb dX4_readLine_76 (by decide) (fun _ => ?_) (fun h9 => absurd h9 (by decide))
      refine lv_aload_n hx hb dX4_readLine_81 rfl (lv_at hl 1 rfl) ?_
      refine va_get (D := D) (ci := 4) (v := .int rt1_18) (C := RX4) (T := TX4) (N := 9) hx hb hts iuX4_readLine_X4 hown hK hP 3 rfl rfl 2 (by decide) (htw (.fieldLink RX4 11 "MergeJudge$Reader" "token" "I") (List.mem_of_getElem? (i := 21) rfl)) (fun _ h9 => h9) rfl dX4_readLine_82 ?_
      refine lv_iconst (v := 3) hx hb dX4_readLine_85 (by decide) ?_
      refine lv_icmp_eq (tgt := 95) hx hb dX4_readLine_86 (by decide) (fun c_19 => ?_) (fun c_19 => ?_)
      ·
        refine lv_aload_n hx hb dX4_readLine_95 rfl (lv_at hl 1 rfl) ?_
        refine aft_v (wr := [(qr0, .inl (cs 1, 3, .inl qf0)), (qr1, .inl (cs 1, 25, .inl qf1)), (qr2, .inl (cs 1, 20, .inl qf2)), (aD, .inr (0, [.int qli, .int (nI qtp1_18), .int qlw1_18, .int qod1_18, .int (nI qnc), .int (nI qnr), .int (nI qno), .int (nI qna), .int qdr, .int qlo, .ref qr0, .ref qr1, .ref qr2, .ref qr3, .ref qr4]))]) hP hD hS hA [3, 4, 5] [0, 1, 2, 6] rfl rfl (by decide) (by decide) (run_v (As := []) (rest := []) hFix hK hE hP hD [3, 4, 5] (k_X4_next l D cs _ aR aT aD rt1_18 rn1_18 rp1_18 rk1_18 rf1_18 tb ft rs1_18 ra1_18 nt (by first | assumption | decide | omega) (by first | assumption | decide | omega)) (cwV 0 hts gc_X4_readLine_46_X4_next rfl rfl rfl (by decide +kernel) ⟨Nat.le_of_ble_eq_true rfl, Nat.le_of_ble_eq_true rfl⟩) rfl (by decide) rfl rfl rfl hl.1 rfl (Nat.le_of_ble_eq_true rfl) dX4_readLine_96 ⟨Nat.le_of_ble_eq_true rfl, Nat.le_of_ble_eq_true rfl⟩) (fun u_20 H locs hq_20 hP hD hS => ?_)
        obtain ⟨rt1_20, rs1_20, ra1_20, rn1_20⟩ := u_20
        have hP : va_P D vwCl [(qr0, .inl (cs 1, 3, .inl qf0)), (qr1, .inl (cs 1, 25, .inl qf1)), (qr2, .inl (cs 1, 20, .inl qf2)), (aD, .inr (0, [.int qli, .int (nI qtp1_18), .int qlw1_18, .int qod1_18, .int (nI qnc), .int (nI qnr), .int (nI qno), .int (nI qna), .int qdr, .int qlo, .ref qr0, .ref qr1, .ref qr2, .ref qr3, .ref qr4])), (aR, .inr (4, [.ref aT, .ref aD, .int rt1_20, .int (nI rs1_20), .int (nI ra1_20), .int rn1_20, .int rp1_18, .int rk1_18, .int rf1_18])), (aT, .inr (7, [.ref tb, .int (nI nt)])), (tb, .inl (cs 0, 400, .inl ft))] H := hP
        have hD : va_D A [(qr0, .inl (cs 1, 3, .inl qf0)), (qr1, .inl (cs 1, 25, .inl qf1)), (qr2, .inl (cs 1, 20, .inl qf2)), (aD, .inr (0, [.int qli, .int (nI qtp1_18), .int qlw1_18, .int qod1_18, .int (nI qnc), .int (nI qnr), .int (nI qno), .int (nI qna), .int qdr, .int qlo, .ref qr0, .ref qr1, .ref qr2, .ref qr3, .ref qr4])), (aR, .inr (4, [.ref aT, .ref aD, .int rt1_20, .int (nI rs1_20), .int (nI ra1_20), .int rn1_20, .int rp1_18, .int rk1_18, .int rf1_18])), (aT, .inr (7, [.ref tb, .int (nI nt)])), (tb, .inl (cs 0, 400, .inl ft))] := hD
        replace hq_20 : (rs1_20 ≤ ra1_20) ∧ (ra1_20 ≤ nt) := hq_20
        obtain ⟨hp_20_0, hp_20_1⟩ := hq_20
        refine lv_aload_n hx hb dX4_readLine_99 rfl (lv_at hl 1 rfl) ?_
        refine va_get (D := D) (ci := 4) (v := .ref aD) (C := RX4) (T := TX4) (N := 9) hx hb hts iuX4_readLine_X4 hown hK hP 4 rfl rfl 1 (by decide) (htw (.fieldLink RX4 37 "MergeJudge$Reader" "draft" "LMergeJudge$Base;") (List.mem_of_getElem? (i := 0) rfl)) (fun _ h9 => h9) rfl dX4_readLine_100 ?_
        refine lv_dup hx hb dX4_readLine_103 rfl ?_
        refine va_get (D := D) (ci := 0) (v := .int qli) (C := RX0) (T := TX0) (N := 15) hx hb hts iuX4_readLine_X0 hown hK hP 3 rfl rfl 0 (by decide) (htw (.fieldLink RX4 53 "MergeJudge$Base" "lines" "I") (List.mem_of_getElem? (i := 1) rfl)) (fun _ h9 => h9) rfl dX4_readLine_104 ?_
        refine lv_iconst (v := 1) hx hb dX4_readLine_107 (by decide) ?_
        refine lv_iadd hx hb dX4_readLine_108 ?_
        refine va_put (D := D) (ci := 0) (v := .int (qli + (1 : Int32))) (ty := .int) (C := RX0) (T := TX0) (N := 15) hx hb hts iuX4_readLine_X0 tyX0 tyX0_ok nmX0 hown hK hP hD hS 3 rfl rfl 0 (by decide) (htw (.fieldLink RX4 53 "MergeJudge$Base" "lines" "I") (List.mem_of_getElem? (i := 1) rfl)) (fun _ h9 => h9) rfl (by decide +kernel) rfl rfl (Nat.le_of_ble_eq_true rfl) dX4_readLine_109 (fun H locs hP hD hS => ?_)
        have hP : va_P D vwCl [(qr0, .inl (cs 1, 3, .inl qf0)), (qr1, .inl (cs 1, 25, .inl qf1)), (qr2, .inl (cs 1, 20, .inl qf2)), (aD, .inr (0, [.int (qli + (1 : Int32)), .int (nI qtp1_18), .int qlw1_18, .int qod1_18, .int (nI qnc), .int (nI qnr), .int (nI qno), .int (nI qna), .int qdr, .int qlo, .ref qr0, .ref qr1, .ref qr2, .ref qr3, .ref qr4])), (aR, .inr (4, [.ref aT, .ref aD, .int rt1_20, .int (nI rs1_20), .int (nI ra1_20), .int rn1_20, .int rp1_18, .int rk1_18, .int rf1_18])), (aT, .inr (7, [.ref tb, .int (nI nt)])), (tb, .inl (cs 0, 400, .inl ft))] H := hP
        have hD : va_D A [(qr0, .inl (cs 1, 3, .inl qf0)), (qr1, .inl (cs 1, 25, .inl qf1)), (qr2, .inl (cs 1, 20, .inl qf2)), (aD, .inr (0, [.int (qli + (1 : Int32)), .int (nI qtp1_18), .int qlw1_18, .int qod1_18, .int (nI qnc), .int (nI qnr), .int (nI qno), .int (nI qna), .int qdr, .int qlo, .ref qr0, .ref qr1, .ref qr2, .ref qr3, .ref qr4])), (aR, .inr (4, [.ref aT, .ref aD, .int rt1_20, .int (nI rs1_20), .int (nI ra1_20), .int rn1_20, .int rp1_18, .int rk1_18, .int rf1_18])), (aT, .inr (7, [.ref tb, .int (nI nt)])), (tb, .inl (cs 0, 400, .inl ft))] := hD
        refine lv_iconst (v := 1) hx hb dX4_readLine_112 (by decide) ?_
        exact ret_z hx hb hr hlk hS (Nat.le_of_ble_eq_true rfl) (Nat.le_of_ble_eq_true rfl) (by decide) (rt1_20, rs1_20, ra1_20, rn1_20, rp1_18, rk1_18, rf1_18, qli + (1 : Int32), qtp1_18, qlw1_18, qod1_18, qnc, qnr, qno, qf0, qf1, qf2) (⟨(by omega), (by omega), (by omega), (by omega), (by omega), (by omega), Or.inl ⟨rfl, trivial⟩⟩) (hP.sub [4, 5, 6, 3, 0, 1, 2] rfl) (hD.sub [4, 5, 6, 3, 0, 1, 2] (by decide) rfl) dX4_readLine_113
      ·
        refine lv_aload_n hx hb dX4_readLine_89 rfl (lv_at hl 1 rfl) ?_
        refine lv_iconst (v := 1) hx hb dX4_readLine_90 (by decide) ?_
        refine aft_i (wr := [(qr0, .inl (cs 1, 3, .inl qf0)), (qr1, .inl (cs 1, 25, .inl qf1)), (qr2, .inl (cs 1, 20, .inl qf2)), (aT, .inr (7, [.ref tb, .int (nI nt)])), (tb, .inl (cs 0, 400, .inl ft)), (aD, .inr (0, [.int qli, .int (nI qtp1_18), .int qlw1_18, .int qod1_18, .int (nI qnc), .int (nI qnr), .int (nI qno), .int (nI qna), .int qdr, .int qlo, .ref qr0, .ref qr1, .ref qr2, .ref qr3, .ref qr4]))]) hP hD hS hA [3] [0, 1, 2, 4, 5, 6] rfl rfl (by decide) (by decide) (run_v (As := [.int 1]) (rest := []) hFix hK hE hP hD [3] (k_X4_failed l D cs _ aR 1 aT aD rt1_18 rn1_18 rp1_18 rk1_18 rf1_18 rs1_18 ra1_18) (cwV 1 hts gc_X4_readLine_78_X4_failed rfl rfl rfl (by decide +kernel) ⟨Nat.le_of_ble_eq_true rfl, Nat.le_of_ble_eq_true rfl⟩) rfl (by decide) rfl rfl rfl hl.1 rfl (Nat.le_of_ble_eq_true rfl) dX4_readLine_91 ⟨Nat.le_of_ble_eq_true rfl, Nat.le_of_ble_eq_true rfl⟩) (fun r_21 u_21 H locs hq_21 hP hD hS => ?_)
        obtain ⟨rk1_21, rf1_21⟩ := u_21
        have hP : va_P D vwCl [(qr0, .inl (cs 1, 3, .inl qf0)), (qr1, .inl (cs 1, 25, .inl qf1)), (qr2, .inl (cs 1, 20, .inl qf2)), (aT, .inr (7, [.ref tb, .int (nI nt)])), (tb, .inl (cs 0, 400, .inl ft)), (aD, .inr (0, [.int qli, .int (nI qtp1_18), .int qlw1_18, .int qod1_18, .int (nI qnc), .int (nI qnr), .int (nI qno), .int (nI qna), .int qdr, .int qlo, .ref qr0, .ref qr1, .ref qr2, .ref qr3, .ref qr4])), (aR, .inr (4, [.ref aT, .ref aD, .int rt1_18, .int (nI rs1_18), .int (nI ra1_18), .int rn1_18, .int rp1_18, .int rk1_21, .int rf1_21]))] H := hP
        have hD : va_D A [(qr0, .inl (cs 1, 3, .inl qf0)), (qr1, .inl (cs 1, 25, .inl qf1)), (qr2, .inl (cs 1, 20, .inl qf2)), (aT, .inr (7, [.ref tb, .int (nI nt)])), (tb, .inl (cs 0, 400, .inl ft)), (aD, .inr (0, [.int qli, .int (nI qtp1_18), .int qlw1_18, .int qod1_18, .int (nI qnc), .int (nI qnr), .int (nI qno), .int (nI qna), .int qdr, .int qlo, .ref qr0, .ref qr1, .ref qr2, .ref qr3, .ref qr4])), (aR, .inr (4, [.ref aT, .ref aD, .int rt1_18, .int (nI rs1_18), .int (nI ra1_18), .int rn1_18, .int rp1_18, .int rk1_21, .int rf1_21]))] := hD
        replace hq_21 : ((r_21 = 0 ∧ True)) := hq_21
        obtain ⟨rfl, hq_21⟩ := hq_21
        ·
          exact ret_z hx hb hr hlk hS (Nat.le_of_ble_eq_true rfl) (Nat.le_of_ble_eq_true rfl) (by decide) (rt1_18, rs1_18, ra1_18, rn1_18, rp1_18, rk1_21, rf1_21, qli, qtp1_18, qlw1_18, qod1_18, qnc, qnr, qno, qf0, qf1, qf2) (⟨(by omega), (by omega), (by omega), (by omega), (by omega), (by omega), Or.inr (⟨rfl, trivial⟩)⟩) (hP.sub [6, 3, 4, 5, 0, 1, 2] rfl) (hD.sub [6, 3, 4, 5, 0, 1, 2] (by decide) rfl) dX4_readLine_94
    ·
      refine lv_istore_n (lv' := [(1, .int 0), (0, .ref aR)]) hx hb dX4_readLine_14 rfl hl (by decide) rfl (fun ls hl => ?_)
      refine lv_goto (tgt := 75) hx hb dX4_readLine_15 (by decide) ?_
      refine lv_iload_n hx hb dX4_readLine_75 rfl (lv_at hl 0 rfl) ?_
      refine lv_if_ne (tgt := 81) hx hb dX4_readLine_76 (by decide) (fun h9 => absurd h9 (by decide)) (fun _ => ?_)
      refine lv_iconst (v := 0) hx hb dX4_readLine_79 (by decide) ?_
      exact ret_z hx hb hr hlk hS (Nat.le_of_ble_eq_true rfl) (Nat.le_of_ble_eq_true rfl) (by decide) (rt1_18, rs1_18, ra1_18, rn1_18, rp1_18, rk1_18, rf1_18, qli, qtp1_18, qlw1_18, qod1_18, qnc, qnr, qno, qf0, qf1, qf2) (⟨(by omega), (by omega), (by omega), (by omega), (by omega), (by omega), Or.inr (⟨rfl, trivial⟩)⟩) (hP.sub [3, 4, 5, 6, 0, 1, 2] rfl) (hD.sub [3, 4, 5, 6, 0, 1, 2] (by decide) rfl) dX4_readLine_80

set_option maxHeartbeats 4000000 in
set_option maxRecDepth 100000 in
theorem k_X4_readTape (l : Launch) (D : va_G) (cs : Nat → ClassId) (sz : Nat) (aK aV : Nat → Nat) (aR : Nat) (aT : Nat) (aD : Nat) (rt : Int32) (rn : Int32) (rp : Int32) (rk : Int32) (rf : Int32) (tb : Nat) (ft : Nat → Int32) (qli : Int32) (qlw : Int32) (qod : Int32) (qdr : Int32) (qlo : Int32) (qr0 : Nat) (qr1 : Nat) (qr2 : Nat) (qr3 : Nat) (qr4 : Nat) (qf0 : Nat → Int32) (qf1 : Nat → Int32) (qf2 : Nat → Int32) (rs : Nat) (ra : Nat) (nt : Nat) (qtp : Nat) (qnc : Nat) (qnr : Nat) (qno : Nat) (qna : Nat) (hnt : nt ≤ 400) (hqtp : qtp ≤ 3) (hqnc : qnc ≤ 3) (hqnr : qnr ≤ 5) (hqno : qno ≤ 5) (hqna : qna ≤ 20) : Si l D cs aK aV yX4_readTape W_X4_readTape 8 169 0 0 [.ref aR] [(aR, .inr (4, [.ref aT, .ref aD, .int rt, .int (nI rs), .int (nI ra), .int rn, .int rp, .int rk, .int rf])), (aT, .inr (7, [.ref tb, .int (nI nt)])), (tb, .inl (cs 0, 400, .inl ft)), (aD, .inr (0, [.int qli, .int (nI qtp), .int qlw, .int qod, .int (nI qnc), .int (nI qnr), .int (nI qno), .int (nI qna), .int qdr, .int qlo, .ref qr0, .ref qr1, .ref qr2, .ref qr3, .ref qr4])), (qr0, .inl (cs 1, 3, .inl qf0)), (qr1, .inl (cs 1, 25, .inl qf1)), (qr2, .inl (cs 1, 20, .inl qf2))] sz (fun (r : Int32) (u : Int32 × Nat × Nat × Int32 × Int32 × Int32 × Int32 × Int32 × Nat × Int32 × Int32 × Nat × Nat × Nat × Nat × Int32 × Int32 × (Nat → Int32) × (Nat → Int32) × (Nat → Int32)) => (u.2.1 ≤ u.2.2.1) ∧ (u.2.2.1 ≤ nt) ∧ (u.2.2.2.2.2.2.2.2.1 ≤ 3) ∧ (u.2.2.2.2.2.2.2.2.2.2.2.1 ≤ 3) ∧ (u.2.2.2.2.2.2.2.2.2.2.2.2.1 ≤ 5) ∧ (u.2.2.2.2.2.2.2.2.2.2.2.2.2.1 ≤ 5) ∧ (u.2.2.2.2.2.2.2.2.2.2.2.2.2.2.1 ≤ 20) ∧ ((r = 1 ∧ True) ∨ (r = 0 ∧ True))) (fun (u : Int32 × Nat × Nat × Int32 × Int32 × Int32 × Int32 × Int32 × Nat × Int32 × Int32 × Nat × Nat × Nat × Nat × Int32 × Int32 × (Nat → Int32) × (Nat → Int32) × (Nat → Int32)) => [(aR, .inr (4, [.ref aT, .ref aD, .int u.1, .int (nI u.2.1), .int (nI u.2.2.1), .int u.2.2.2.1, .int u.2.2.2.2.1, .int u.2.2.2.2.2.1, .int u.2.2.2.2.2.2.1])), (aT, .inr (7, [.ref tb, .int (nI nt)])), (tb, .inl (cs 0, 400, .inl ft)), (aD, .inr (0, [.int u.2.2.2.2.2.2.2.1, .int (nI u.2.2.2.2.2.2.2.2.1), .int u.2.2.2.2.2.2.2.2.2.1, .int u.2.2.2.2.2.2.2.2.2.2.1, .int (nI u.2.2.2.2.2.2.2.2.2.2.2.1), .int (nI u.2.2.2.2.2.2.2.2.2.2.2.2.1), .int (nI u.2.2.2.2.2.2.2.2.2.2.2.2.2.1), .int (nI u.2.2.2.2.2.2.2.2.2.2.2.2.2.2.1), .int u.2.2.2.2.2.2.2.2.2.2.2.2.2.2.2.1, .int u.2.2.2.2.2.2.2.2.2.2.2.2.2.2.2.2.1, .ref qr0, .ref qr1, .ref qr2, .ref qr3, .ref qr4])), (qr0, .inl (cs 1, 3, .inl u.2.2.2.2.2.2.2.2.2.2.2.2.2.2.2.2.2.1)), (qr1, .inl (cs 1, 25, .inl u.2.2.2.2.2.2.2.2.2.2.2.2.2.2.2.2.2.2.1)), (qr2, .inl (cs 1, 20, .inl u.2.2.2.2.2.2.2.2.2.2.2.2.2.2.2.2.2.2.2))]) := by
  refine entS (D := D) (cs := cs) (y := yX4_readTape) (ws := W_X4_readTape) (As := [.ref aR]) (W0 := [(aR, .inr (4, [.ref aT, .ref aD, .int rt, .int (nI rs), .int (nI ra), .int rn, .int rp, .int rk, .int rf])), (aT, .inr (7, [.ref tb, .int (nI nt)])), (tb, .inl (cs 0, 400, .inl ft)), (aD, .inr (0, [.int qli, .int (nI qtp), .int qlw, .int qod, .int (nI qnc), .int (nI qnr), .int (nI qno), .int (nI qna), .int qdr, .int qlo, .ref qr0, .ref qr1, .ref qr2, .ref qr3, .ref qr4])), (qr0, .inl (cs 1, 3, .inl qf0)), (qr1, .inl (cs 1, 25, .inl qf1)), (qr2, .inl (cs 1, 20, .inl qf2))]) (Qx := fun A => va_Qi (fun (r : Int32) (u : Int32 × Nat × Nat × Int32 × Int32 × Int32 × Int32 × Int32 × Nat × Int32 × Int32 × Nat × Nat × Nat × Nat × Int32 × Int32 × (Nat → Int32) × (Nat → Int32) × (Nat → Int32)) => (u.2.1 ≤ u.2.2.1) ∧ (u.2.2.1 ≤ nt) ∧ (u.2.2.2.2.2.2.2.2.1 ≤ 3) ∧ (u.2.2.2.2.2.2.2.2.2.2.2.1 ≤ 3) ∧ (u.2.2.2.2.2.2.2.2.2.2.2.2.1 ≤ 5) ∧ (u.2.2.2.2.2.2.2.2.2.2.2.2.2.1 ≤ 5) ∧ (u.2.2.2.2.2.2.2.2.2.2.2.2.2.2.1 ≤ 20) ∧ ((r = 1 ∧ True) ∨ (r = 0 ∧ True))) (mpost D A (fun (u : Int32 × Nat × Nat × Int32 × Int32 × Int32 × Int32 × Int32 × Nat × Int32 × Int32 × Nat × Nat × Nat × Nat × Int32 × Int32 × (Nat → Int32) × (Nat → Int32) × (Nat → Int32)) => [(aR, .inr (4, [.ref aT, .ref aD, .int u.1, .int (nI u.2.1), .int (nI u.2.2.1), .int u.2.2.2.1, .int u.2.2.2.2.1, .int u.2.2.2.2.2.1, .int u.2.2.2.2.2.2.1])), (aT, .inr (7, [.ref tb, .int (nI nt)])), (tb, .inl (cs 0, 400, .inl ft)), (aD, .inr (0, [.int u.2.2.2.2.2.2.2.1, .int (nI u.2.2.2.2.2.2.2.2.1), .int u.2.2.2.2.2.2.2.2.2.1, .int u.2.2.2.2.2.2.2.2.2.2.1, .int (nI u.2.2.2.2.2.2.2.2.2.2.2.1), .int (nI u.2.2.2.2.2.2.2.2.2.2.2.2.1), .int (nI u.2.2.2.2.2.2.2.2.2.2.2.2.2.1), .int (nI u.2.2.2.2.2.2.2.2.2.2.2.2.2.2.1), .int u.2.2.2.2.2.2.2.2.2.2.2.2.2.2.2.1, .int u.2.2.2.2.2.2.2.2.2.2.2.2.2.2.2.2.1, .ref qr0, .ref qr1, .ref qr2, .ref qr3, .ref qr4])), (qr0, .inl (cs 1, 3, .inl u.2.2.2.2.2.2.2.2.2.2.2.2.2.2.2.2.2.1)), (qr1, .inl (cs 1, 25, .inl u.2.2.2.2.2.2.2.2.2.2.2.2.2.2.2.2.2.2.1)), (qr2, .inl (cs 1, 20, .inl u.2.2.2.2.2.2.2.2.2.2.2.2.2.2.2.2.2.2.2))])) A) (maxL := 2) (ret := (some .boolean)) (by decide) rfl (Nat.le_of_ble_eq_true rfl) ?_
  intro p e s m below meth c A ls hx hb hr hml hlk hown hts hin hK hE hV hP hD hA hS hl
  have hl : lv_has ls 2 [(0, .ref aR)] := hl
  generalize hHe : s.heap = H at hP
  have hS : va_S A s.heap H [] := hHe ▸ hS
  generalize hLe : ([] : List Loc) = locs at hS ⊢
  have htw : ∀ w ∈ O_X4_readTape, w.before ([.ref aR] : List Value).toArray s = true := fun w h => hts w (List.mem_cons_of_mem _ (List.mem_append_left _ h))
  have hFix := (⟨hx, hb, hml, hown, hts⟩ : CallFix p m c _ _ s _ _ _)
  refine lv_aload_n hx hb dX4_readTape_0 rfl (lv_at hl 0 rfl) ?_
  refine va_get (D := D) (ci := 4) (v := .ref aD) (C := RX4) (T := TX4) (N := 9) hx hb hts iuX4_readTape_X4 hown hK hP 0 rfl rfl 1 (by decide) (htw (.fieldLink RX4 37 "MergeJudge$Reader" "draft" "LMergeJudge$Base;") (List.mem_of_getElem? (i := 0) rfl)) (fun _ h9 => h9) rfl dX4_readTape_1 ?_
  refine aft_v (wr := [(aR, .inr (4, [.ref aT, .ref aD, .int rt, .int (nI rs), .int (nI ra), .int rn, .int rp, .int rk, .int rf])), (aT, .inr (7, [.ref tb, .int (nI nt)])), (tb, .inl (cs 0, 400, .inl ft)), (qr0, .inl (cs 1, 3, .inl qf0)), (qr1, .inl (cs 1, 25, .inl qf1)), (qr2, .inl (cs 1, 20, .inl qf2))]) hP hD hS hA [3] [0, 1, 2, 4, 5, 6] rfl rfl (by decide) (by decide) (run_v (As := []) (rest := []) hFix hK hE hP hD [3] (k_X0_clear l D cs _ aD qli qlw qod qdr qlo qr0 qr1 qr2 qr3 qr4 qtp qnc qnr qno qna (by first | assumption | decide | omega) (by first | assumption | decide | omega) (by first | assumption | decide | omega) (by first | assumption | decide | omega) (by first | assumption | decide | omega)) (cwV 0 hts gc_X4_readTape_41_X0_clear rfl rfl rfl (by decide +kernel) ⟨Nat.le_of_ble_eq_true rfl, Nat.le_of_ble_eq_true rfl⟩) rfl (by decide) rfl rfl rfl hl.1 rfl (Nat.le_of_ble_eq_true rfl) dX4_readTape_4 ⟨Nat.le_of_ble_eq_true rfl, Nat.le_of_ble_eq_true rfl⟩) (fun u_1 H locs hq_1 hP hD hS => ?_)
  have hP : va_P D vwCl [(aR, .inr (4, [.ref aT, .ref aD, .int rt, .int (nI rs), .int (nI ra), .int rn, .int rp, .int rk, .int rf])), (aT, .inr (7, [.ref tb, .int (nI nt)])), (tb, .inl (cs 0, 400, .inl ft)), (qr0, .inl (cs 1, 3, .inl qf0)), (qr1, .inl (cs 1, 25, .inl qf1)), (qr2, .inl (cs 1, 20, .inl qf2)), (aD, .inr (0, [.int 0, .int 0, .int 0, .int 0, .int 0, .int 0, .int 0, .int 0, .int 0, .int 0, .ref qr0, .ref qr1, .ref qr2, .ref qr3, .ref qr4]))] H := hP
  have hD : va_D A [(aR, .inr (4, [.ref aT, .ref aD, .int rt, .int (nI rs), .int (nI ra), .int rn, .int rp, .int rk, .int rf])), (aT, .inr (7, [.ref tb, .int (nI nt)])), (tb, .inl (cs 0, 400, .inl ft)), (qr0, .inl (cs 1, 3, .inl qf0)), (qr1, .inl (cs 1, 25, .inl qf1)), (qr2, .inl (cs 1, 20, .inl qf2)), (aD, .inr (0, [.int 0, .int 0, .int 0, .int 0, .int 0, .int 0, .int 0, .int 0, .int 0, .int 0, .ref qr0, .ref qr1, .ref qr2, .ref qr3, .ref qr4]))] := hD
  refine lv_aload_n hx hb dX4_readTape_7 rfl (lv_at hl 0 rfl) ?_
  refine lv_iconst (v := 0) hx hb dX4_readTape_8 (by decide) ?_
  refine va_put (D := D) (ci := 4) (v := .int 0) (ty := .int) (C := RX4) (T := TX4) (N := 9) hx hb hts iuX4_readTape_X4 tyX4 tyX4_ok nmX4 hown hK hP hD hS 0 rfl rfl 7 (by decide) (htw (.fieldLink RX4 27 "MergeJudge$Reader" "faultKind" "I") (List.mem_of_getElem? (i := 5) rfl)) (fun _ h9 => h9) rfl (by decide +kernel) rfl rfl (Nat.le_of_ble_eq_true rfl) dX4_readTape_9 (fun H locs hP hD hS => ?_)
  have hP : va_P D vwCl [(aR, .inr (4, [.ref aT, .ref aD, .int rt, .int (nI rs), .int (nI ra), .int rn, .int rp, .int 0, .int rf])), (aT, .inr (7, [.ref tb, .int (nI nt)])), (tb, .inl (cs 0, 400, .inl ft)), (qr0, .inl (cs 1, 3, .inl qf0)), (qr1, .inl (cs 1, 25, .inl qf1)), (qr2, .inl (cs 1, 20, .inl qf2)), (aD, .inr (0, [.int 0, .int 0, .int 0, .int 0, .int 0, .int 0, .int 0, .int 0, .int 0, .int 0, .ref qr0, .ref qr1, .ref qr2, .ref qr3, .ref qr4]))] H := hP
  have hD : va_D A [(aR, .inr (4, [.ref aT, .ref aD, .int rt, .int (nI rs), .int (nI ra), .int rn, .int rp, .int 0, .int rf])), (aT, .inr (7, [.ref tb, .int (nI nt)])), (tb, .inl (cs 0, 400, .inl ft)), (qr0, .inl (cs 1, 3, .inl qf0)), (qr1, .inl (cs 1, 25, .inl qf1)), (qr2, .inl (cs 1, 20, .inl qf2)), (aD, .inr (0, [.int 0, .int 0, .int 0, .int 0, .int 0, .int 0, .int 0, .int 0, .int 0, .int 0, .ref qr0, .ref qr1, .ref qr2, .ref qr3, .ref qr4]))] := hD
  refine lv_aload_n hx hb dX4_readTape_12 rfl (lv_at hl 0 rfl) ?_
  refine lv_iconst (v := (-1)) hx hb dX4_readTape_13 (by decide) ?_
  refine va_put (D := D) (ci := 4) (v := .int (-1)) (ty := .int) (C := RX4) (T := TX4) (N := 9) hx hb hts iuX4_readTape_X4 tyX4 tyX4_ok nmX4 hown hK hP hD hS 0 rfl rfl 8 (by decide) (htw (.fieldLink RX4 30 "MergeJudge$Reader" "faultPlace" "I") (List.mem_of_getElem? (i := 6) rfl)) (fun _ h9 => h9) rfl (by decide +kernel) rfl rfl (Nat.le_of_ble_eq_true rfl) dX4_readTape_14 (fun H locs hP hD hS => ?_)
  have hP : va_P D vwCl [(aR, .inr (4, [.ref aT, .ref aD, .int rt, .int (nI rs), .int (nI ra), .int rn, .int rp, .int 0, .int (-1)])), (aT, .inr (7, [.ref tb, .int (nI nt)])), (tb, .inl (cs 0, 400, .inl ft)), (qr0, .inl (cs 1, 3, .inl qf0)), (qr1, .inl (cs 1, 25, .inl qf1)), (qr2, .inl (cs 1, 20, .inl qf2)), (aD, .inr (0, [.int 0, .int 0, .int 0, .int 0, .int 0, .int 0, .int 0, .int 0, .int 0, .int 0, .ref qr0, .ref qr1, .ref qr2, .ref qr3, .ref qr4]))] H := hP
  have hD : va_D A [(aR, .inr (4, [.ref aT, .ref aD, .int rt, .int (nI rs), .int (nI ra), .int rn, .int rp, .int 0, .int (-1)])), (aT, .inr (7, [.ref tb, .int (nI nt)])), (tb, .inl (cs 0, 400, .inl ft)), (qr0, .inl (cs 1, 3, .inl qf0)), (qr1, .inl (cs 1, 25, .inl qf1)), (qr2, .inl (cs 1, 20, .inl qf2)), (aD, .inr (0, [.int 0, .int 0, .int 0, .int 0, .int 0, .int 0, .int 0, .int 0, .int 0, .int 0, .ref qr0, .ref qr1, .ref qr2, .ref qr3, .ref qr4]))] := hD
  refine lv_aload_n hx hb dX4_readTape_17 rfl (lv_at hl 0 rfl) ?_
  refine lv_iconst (v := 0) hx hb dX4_readTape_18 (by decide) ?_
  refine va_put (D := D) (ci := 4) (v := .int 0) (ty := .int) (C := RX4) (T := TX4) (N := 9) hx hb hts iuX4_readTape_X4 tyX4 tyX4_ok nmX4 hown hK hP hD hS 0 rfl rfl 4 (by decide) (htw (.fieldLink RX4 18 "MergeJudge$Reader" "at" "I") (List.mem_of_getElem? (i := 7) rfl)) (fun _ h9 => h9) rfl (by decide +kernel) rfl rfl (Nat.le_of_ble_eq_true rfl) dX4_readTape_19 (fun H locs hP hD hS => ?_)
  have hP : va_P D vwCl [(aR, .inr (4, [.ref aT, .ref aD, .int rt, .int (nI rs), .int 0, .int rn, .int rp, .int 0, .int (-1)])), (aT, .inr (7, [.ref tb, .int (nI nt)])), (tb, .inl (cs 0, 400, .inl ft)), (qr0, .inl (cs 1, 3, .inl qf0)), (qr1, .inl (cs 1, 25, .inl qf1)), (qr2, .inl (cs 1, 20, .inl qf2)), (aD, .inr (0, [.int 0, .int 0, .int 0, .int 0, .int 0, .int 0, .int 0, .int 0, .int 0, .int 0, .ref qr0, .ref qr1, .ref qr2, .ref qr3, .ref qr4]))] H := hP
  have hD : va_D A [(aR, .inr (4, [.ref aT, .ref aD, .int rt, .int (nI rs), .int 0, .int rn, .int rp, .int 0, .int (-1)])), (aT, .inr (7, [.ref tb, .int (nI nt)])), (tb, .inl (cs 0, 400, .inl ft)), (qr0, .inl (cs 1, 3, .inl qf0)), (qr1, .inl (cs 1, 25, .inl qf1)), (qr2, .inl (cs 1, 20, .inl qf2)), (aD, .inr (0, [.int 0, .int 0, .int 0, .int 0, .int 0, .int 0, .int 0, .int 0, .int 0, .int 0, .ref qr0, .ref qr1, .ref qr2, .ref qr3, .ref qr4]))] := hD
  refine lv_aload_n hx hb dX4_readTape_22 rfl (lv_at hl 0 rfl) ?_
  refine aft_v (wr := [(qr0, .inl (cs 1, 3, .inl qf0)), (qr1, .inl (cs 1, 25, .inl qf1)), (qr2, .inl (cs 1, 20, .inl qf2)), (aD, .inr (0, [.int 0, .int 0, .int 0, .int 0, .int 0, .int 0, .int 0, .int 0, .int 0, .int 0, .ref qr0, .ref qr1, .ref qr2, .ref qr3, .ref qr4]))]) hP hD hS hA [0, 1, 2] [3, 4, 5, 6] rfl rfl (by decide) (by decide) (run_v (As := []) (rest := []) hFix hK hE hP hD [0, 1, 2] (k_X4_next l D cs _ aR aT aD rt rn rp 0 (-1) tb ft rs 0 nt (by first | assumption | decide | omega) (by first | assumption | decide | omega)) (cwV 0 hts gc_X4_readTape_46_X4_next rfl rfl rfl (by decide +kernel) ⟨Nat.le_of_ble_eq_true rfl, Nat.le_of_ble_eq_true rfl⟩) rfl (by decide) rfl rfl rfl hl.1 rfl (Nat.le_of_ble_eq_true rfl) dX4_readTape_23 ⟨Nat.le_of_ble_eq_true rfl, Nat.le_of_ble_eq_true rfl⟩) (fun u_2 H locs hq_2 hP hD hS => ?_)
  obtain ⟨rt1_2, rs1_2, ra1_2, rn1_2⟩ := u_2
  have hP : va_P D vwCl [(qr0, .inl (cs 1, 3, .inl qf0)), (qr1, .inl (cs 1, 25, .inl qf1)), (qr2, .inl (cs 1, 20, .inl qf2)), (aD, .inr (0, [.int 0, .int 0, .int 0, .int 0, .int 0, .int 0, .int 0, .int 0, .int 0, .int 0, .ref qr0, .ref qr1, .ref qr2, .ref qr3, .ref qr4])), (aR, .inr (4, [.ref aT, .ref aD, .int rt1_2, .int (nI rs1_2), .int (nI ra1_2), .int rn1_2, .int rp, .int 0, .int (-1)])), (aT, .inr (7, [.ref tb, .int (nI nt)])), (tb, .inl (cs 0, 400, .inl ft))] H := hP
  have hD : va_D A [(qr0, .inl (cs 1, 3, .inl qf0)), (qr1, .inl (cs 1, 25, .inl qf1)), (qr2, .inl (cs 1, 20, .inl qf2)), (aD, .inr (0, [.int 0, .int 0, .int 0, .int 0, .int 0, .int 0, .int 0, .int 0, .int 0, .int 0, .ref qr0, .ref qr1, .ref qr2, .ref qr3, .ref qr4])), (aR, .inr (4, [.ref aT, .ref aD, .int rt1_2, .int (nI rs1_2), .int (nI ra1_2), .int rn1_2, .int rp, .int 0, .int (-1)])), (aT, .inr (7, [.ref tb, .int (nI nt)])), (tb, .inl (cs 0, 400, .inl ft))] := hD
  replace hq_2 : (rs1_2 ≤ ra1_2) ∧ (ra1_2 ≤ nt) := hq_2
  obtain ⟨hp_2_0, hp_2_1⟩ := hq_2
  refine lv_iconst (v := 0) hx hb dX4_readTape_26 (by decide) ?_
  refine lv_istore_n (lv' := [(1, .int 0), (0, .ref aR)]) hx hb dX4_readTape_27 rfl hl (by decide) rfl (fun ls hl => ?_)
  have lp_4 : ∀ (nfu : Nat) (i_3 : Nat) (m0_3 : Nat → Int32) (m1_3 : Nat → Int32) (m2_3 : Nat → Int32) (m3_3 : Int32) (m4_3 : Nat) (m5_3 : Int32) (m6_3 : Int32) (m7_3 : Nat) (m8_3 : Nat) (m9_3 : Nat) (m10_3 : Int32) (m11_3 : Nat) (m12_3 : Nat) (m13_3 : Int32) (m14_3 : Int32) (m15_3 : Int32) (m16_3 : Int32) (H : Heap) (locs : List Loc) (ls : Array Slot) (hi_3 : i_3 ≤ 400) (hv0_3 : m11_3 ≤ m12_3) (hv1_3 : m12_3 ≤ nt) (hv2_3 : m4_3 ≤ 3) (hv3_3 : m7_3 ≤ 3) (hv4_3 : m8_3 ≤ 5) (hv5_3 : m9_3 ≤ 5), 400 - i_3 < nfu → va_P D vwCl [(qr0, .inl (cs 1, 3, .inl m0_3)), (qr1, .inl (cs 1, 25, .inl m1_3)), (qr2, .inl (cs 1, 20, .inl m2_3)), (aD, .inr (0, [.int m3_3, .int (nI m4_3), .int m5_3, .int m6_3, .int (nI m7_3), .int (nI m8_3), .int (nI m9_3), .int 0, .int 0, .int 0, .ref qr0, .ref qr1, .ref qr2, .ref qr3, .ref qr4])), (aR, .inr (4, [.ref aT, .ref aD, .int m10_3, .int (nI m11_3), .int (nI m12_3), .int m13_3, .int m14_3, .int m15_3, .int m16_3])), (aT, .inr (7, [.ref tb, .int (nI nt)])), (tb, .inl (cs 0, 400, .inl ft))] H → va_D A [(qr0, .inl (cs 1, 3, .inl m0_3)), (qr1, .inl (cs 1, 25, .inl m1_3)), (qr2, .inl (cs 1, 20, .inl m2_3)), (aD, .inr (0, [.int m3_3, .int (nI m4_3), .int m5_3, .int m6_3, .int (nI m7_3), .int (nI m8_3), .int (nI m9_3), .int 0, .int 0, .int 0, .ref qr0, .ref qr1, .ref qr2, .ref qr3, .ref qr4])), (aR, .inr (4, [.ref aT, .ref aD, .int m10_3, .int (nI m11_3), .int (nI m12_3), .int m13_3, .int m14_3, .int m15_3, .int m16_3])), (aT, .inr (7, [.ref tb, .int (nI nt)])), (tb, .inl (cs 0, 400, .inl ft))] → va_S A s.heap H locs → lv_has ls 2 [(1, .int (nI i_3)), (0, .ref aR)] → W p l e (mRm 8 0 0 169) s m ([.ref aR] : List Value).toArray below meth c H locs 0 0 (MQ below (va_Qi (fun (r : Int32) (u : Int32 × Nat × Nat × Int32 × Int32 × Int32 × Int32 × Int32 × Nat × Int32 × Int32 × Nat × Nat × Nat × Nat × Int32 × Int32 × (Nat → Int32) × (Nat → Int32) × (Nat → Int32)) => (u.2.1 ≤ u.2.2.1) ∧ (u.2.2.1 ≤ nt) ∧ (u.2.2.2.2.2.2.2.2.1 ≤ 3) ∧ (u.2.2.2.2.2.2.2.2.2.2.2.1 ≤ 3) ∧ (u.2.2.2.2.2.2.2.2.2.2.2.2.1 ≤ 5) ∧ (u.2.2.2.2.2.2.2.2.2.2.2.2.2.1 ≤ 5) ∧ (u.2.2.2.2.2.2.2.2.2.2.2.2.2.2.1 ≤ 20) ∧ ((r = 1 ∧ True) ∨ (r = 0 ∧ True))) (mpost D A (fun (u : Int32 × Nat × Nat × Int32 × Int32 × Int32 × Int32 × Int32 × Nat × Int32 × Int32 × Nat × Nat × Nat × Nat × Int32 × Int32 × (Nat → Int32) × (Nat → Int32) × (Nat → Int32)) => [(aR, .inr (4, [.ref aT, .ref aD, .int u.1, .int (nI u.2.1), .int (nI u.2.2.1), .int u.2.2.2.1, .int u.2.2.2.2.1, .int u.2.2.2.2.2.1, .int u.2.2.2.2.2.2.1])), (aT, .inr (7, [.ref tb, .int (nI nt)])), (tb, .inl (cs 0, 400, .inl ft)), (aD, .inr (0, [.int u.2.2.2.2.2.2.2.1, .int (nI u.2.2.2.2.2.2.2.2.1), .int u.2.2.2.2.2.2.2.2.2.1, .int u.2.2.2.2.2.2.2.2.2.2.1, .int (nI u.2.2.2.2.2.2.2.2.2.2.2.1), .int (nI u.2.2.2.2.2.2.2.2.2.2.2.2.1), .int (nI u.2.2.2.2.2.2.2.2.2.2.2.2.2.1), .int (nI u.2.2.2.2.2.2.2.2.2.2.2.2.2.2.1), .int u.2.2.2.2.2.2.2.2.2.2.2.2.2.2.2.1, .int u.2.2.2.2.2.2.2.2.2.2.2.2.2.2.2.2.1, .ref qr0, .ref qr1, .ref qr2, .ref qr3, .ref qr4])), (qr0, .inl (cs 1, 3, .inl u.2.2.2.2.2.2.2.2.2.2.2.2.2.2.2.2.2.1)), (qr1, .inl (cs 1, 25, .inl u.2.2.2.2.2.2.2.2.2.2.2.2.2.2.2.2.2.2.1)), (qr2, .inl (cs 1, 20, .inl u.2.2.2.2.2.2.2.2.2.2.2.2.2.2.2.2.2.2.2))])) A) ([.ref aR] : List Value).toArray s 0 0 A) (F0 m 28 ls []) := by
    intro nfu
    induction nfu with
    | zero => intro i_3 m0_3 m1_3 m2_3 m3_3 m4_3 m5_3 m6_3 m7_3 m8_3 m9_3 m10_3 m11_3 m12_3 m13_3 m14_3 m15_3 m16_3 H locs ls hi_3 hv0_3 hv1_3 hv2_3 hv3_3 hv4_3 hv5_3 hmu; exact absurd hmu (Nat.not_lt_zero _)
    | succ nfu ih =>
      intro i_3 m0_3 m1_3 m2_3 m3_3 m4_3 m5_3 m6_3 m7_3 m8_3 m9_3 m10_3 m11_3 m12_3 m13_3 m14_3 m15_3 m16_3 H locs ls hi_3 hv0_3 hv1_3 hv2_3 hv3_3 hv4_3 hv5_3 hmu hP hD hS hl
      have ih_lp_4 := @ih
      refine lv_iload_n hx hb dX4_readTape_28 rfl (lv_at hl 0 rfl) ?_
      refine lv_sipush (v := 400) hx hb dX4_readTape_29 (by decide) ?_
      refine lv_icmp_ge (tgt := 57) hx hb dX4_readTape_32 (by decide) (fun c_5 => ?_) (fun c_5 => ?_)
      ·
        have hn_5 := bge_t (a := i_3) (b := 400) c_5 (by omega) (by omega)
        refine lv_iconst (v := 1) hx hb dX4_readTape_57 (by decide) ?_
        exact ret_z hx hb hr hlk hS (Nat.le_of_ble_eq_true rfl) (Nat.le_of_ble_eq_true rfl) (by decide) (m10_3, m11_3, m12_3, m13_3, m14_3, m15_3, m16_3, m3_3, m4_3, m5_3, m6_3, m7_3, m8_3, m9_3, 0, 0, 0, m0_3, m1_3, m2_3) (⟨(by omega), (by omega), (by omega), (by omega), (by omega), (by omega), (by omega), Or.inl ⟨rfl, trivial⟩⟩) (hP.sub [4, 5, 6, 3, 0, 1, 2] rfl) (hD.sub [4, 5, 6, 3, 0, 1, 2] (by decide) rfl) dX4_readTape_58
      ·
        have hn_5 := bge_f (a := i_3) (b := 400) c_5 (by omega) (by omega)
        refine lv_aload_n hx hb dX4_readTape_35 rfl (lv_at hl 1 rfl) ?_
        refine va_get (D := D) (ci := 4) (v := .int m10_3) (C := RX4) (T := TX4) (N := 9) hx hb hts iuX4_readTape_X4 hown hK hP 4 rfl rfl 2 (by decide) (htw (.fieldLink RX4 11 "MergeJudge$Reader" "token" "I") (List.mem_of_getElem? (i := 12) rfl)) (fun _ h9 => h9) rfl dX4_readTape_36 ?_
        refine lv_if_eq (tgt := 57) hx hb dX4_readTape_39 (by decide) (fun c_6 => ?_) (fun c_6 => ?_)
        ·
          refine lv_iconst (v := 1) hx hb dX4_readTape_57 (by decide) ?_
          exact ret_z hx hb hr hlk hS (Nat.le_of_ble_eq_true rfl) (Nat.le_of_ble_eq_true rfl) (by decide) (m10_3, m11_3, m12_3, m13_3, m14_3, m15_3, m16_3, m3_3, m4_3, m5_3, m6_3, m7_3, m8_3, m9_3, 0, 0, 0, m0_3, m1_3, m2_3) (⟨(by omega), (by omega), (by omega), (by omega), (by omega), (by omega), (by omega), Or.inl ⟨rfl, trivial⟩⟩) (hP.sub [4, 5, 6, 3, 0, 1, 2] rfl) (hD.sub [4, 5, 6, 3, 0, 1, 2] (by decide) rfl) dX4_readTape_58
        ·
          refine lv_aload_n hx hb dX4_readTape_42 rfl (lv_at hl 1 rfl) ?_
          refine aft_i (wr := []) hP hD hS hA [4, 5, 6, 3, 0, 1, 2] [] rfl rfl (by decide) (by decide) (run_vS (As := []) (rest := []) hFix hK hE hV hP hD hS hA [4, 5, 6, 3, 0, 1, 2] (k_X4_readLine l D cs _ aK aV aR aT aD m10_3 m13_3 m14_3 m15_3 m16_3 tb ft m3_3 m5_3 m6_3 0 0 qr0 qr1 qr2 qr3 qr4 m0_3 m1_3 m2_3 m11_3 m12_3 nt m4_3 m7_3 m8_3 m9_3 0 (by first | assumption | decide | omega) (by first | assumption | decide | omega) (by first | assumption | decide | omega) (by first | assumption | decide | omega) (by first | assumption | decide | omega) (by first | assumption | decide | omega) (by first | assumption | decide | omega) (by first | assumption | decide | omega)) (cwV 0 hts gc_X4_readTape_49_X4_readLine rfl rfl rfl (by decide +kernel) ⟨Nat.le_of_ble_eq_true rfl, Nat.le_of_ble_eq_true rfl⟩) rfl (by decide) (rcv hK hP [4, 5, 6, 3, 0, 1, 2] rfl rfl rfl) rfl hl.1 rfl (Nat.le_of_ble_eq_true rfl) dX4_readTape_43 ⟨Nat.le_of_ble_eq_true rfl, Nat.le_of_ble_eq_true rfl⟩) (fun r_7 u_7 H locs hq_7 hP hD hS => ?_)
          obtain ⟨rt1_7, rs1_7, ra1_7, rn1_7, rp1_7, rk1_7, rf1_7, qli1_7, qtp1_7, qlw1_7, qod1_7, qnc1_7, qnr1_7, qno1_7, qf01_7, qf11_7, qf21_7⟩ := u_7
          have hP : va_P D vwCl [(aR, .inr (4, [.ref aT, .ref aD, .int rt1_7, .int (nI rs1_7), .int (nI ra1_7), .int rn1_7, .int rp1_7, .int rk1_7, .int rf1_7])), (aT, .inr (7, [.ref tb, .int (nI nt)])), (tb, .inl (cs 0, 400, .inl ft)), (aD, .inr (0, [.int qli1_7, .int (nI qtp1_7), .int qlw1_7, .int qod1_7, .int (nI qnc1_7), .int (nI qnr1_7), .int (nI qno1_7), .int 0, .int 0, .int 0, .ref qr0, .ref qr1, .ref qr2, .ref qr3, .ref qr4])), (qr0, .inl (cs 1, 3, .inl qf01_7)), (qr1, .inl (cs 1, 25, .inl qf11_7)), (qr2, .inl (cs 1, 20, .inl qf21_7))] H := hP
          have hD : va_D A [(aR, .inr (4, [.ref aT, .ref aD, .int rt1_7, .int (nI rs1_7), .int (nI ra1_7), .int rn1_7, .int rp1_7, .int rk1_7, .int rf1_7])), (aT, .inr (7, [.ref tb, .int (nI nt)])), (tb, .inl (cs 0, 400, .inl ft)), (aD, .inr (0, [.int qli1_7, .int (nI qtp1_7), .int qlw1_7, .int qod1_7, .int (nI qnc1_7), .int (nI qnr1_7), .int (nI qno1_7), .int 0, .int 0, .int 0, .ref qr0, .ref qr1, .ref qr2, .ref qr3, .ref qr4])), (qr0, .inl (cs 1, 3, .inl qf01_7)), (qr1, .inl (cs 1, 25, .inl qf11_7)), (qr2, .inl (cs 1, 20, .inl qf21_7))] := hD
          replace hq_7 : (rs1_7 ≤ ra1_7) ∧ (ra1_7 ≤ nt) ∧ (qtp1_7 ≤ 3) ∧ (qnc1_7 ≤ 3) ∧ (qnr1_7 ≤ 5) ∧ (qno1_7 ≤ 5) ∧ ((r_7 = 1 ∧ True) ∨ (r_7 = 0 ∧ True)) := hq_7
          obtain ⟨hp_7_0, hp_7_1, hp_7_2, hp_7_3, hp_7_4, hp_7_5, hq_7⟩ := hq_7
          rcases hq_7 with ⟨rfl, hq_7⟩ | ⟨rfl, hq_7⟩
          ·
            refine lv_if_ne (tgt := 51) hx hb dX4_readTape_46 (by decide) (fun _ => ?_) (fun h9 => absurd h9 (by decide))
            refine lv_iinc (v := (nI (i_3 + 1))) (lv' := [(1, .int (nI (i_3 + 1))), (0, .ref aR)]) hx hb dX4_readTape_51 hl (k := 0) rfl (nI_1 _) (by decide) rfl (fun ls hl => ?_)
            refine lv_goto (tgt := 28) hx hb dX4_readTape_54 (by decide) ?_
            exact ih_lp_4 (i_3 + 1) qf01_7 qf11_7 qf21_7 qli1_7 qtp1_7 qlw1_7 qod1_7 qnc1_7 qnr1_7 qno1_7 rt1_7 rs1_7 ra1_7 rn1_7 rp1_7 rk1_7 rf1_7 H locs ls (by omega) (by omega) (by omega) (by omega) (by omega) (by omega) (by omega) (by omega) (hP.sub [4, 5, 6, 3, 0, 1, 2] rfl) (hD.sub [4, 5, 6, 3, 0, 1, 2] (by decide) rfl) hS (lv_sub hl [0, 1] rfl)
          ·
            refine lv_if_ne (tgt := 51) hx hb dX4_readTape_46 (by decide) (fun h9 => absurd h9 (by decide)) (fun _ => ?_)
            refine lv_iconst (v := 0) hx hb dX4_readTape_49 (by decide) ?_
            exact ret_z hx hb hr hlk hS (Nat.le_of_ble_eq_true rfl) (Nat.le_of_ble_eq_true rfl) (by decide) (rt1_7, rs1_7, ra1_7, rn1_7, rp1_7, rk1_7, rf1_7, qli1_7, qtp1_7, qlw1_7, qod1_7, qnc1_7, qnr1_7, qno1_7, 0, 0, 0, qf01_7, qf11_7, qf21_7) (⟨(by omega), (by omega), (by omega), (by omega), (by omega), (by omega), (by omega), Or.inr (⟨rfl, trivial⟩)⟩) (hP.sub [0, 1, 2, 3, 4, 5, 6] rfl) (hD.sub [0, 1, 2, 3, 4, 5, 6] (by decide) rfl) dX4_readTape_50
  exact lp_4 _ 0 qf0 qf1 qf2 0 0 0 0 0 0 0 rt1_2 rs1_2 ra1_2 rn1_2 rp 0 (-1) H locs ls (by omega) (by omega) (by omega) (by omega) (by omega) (by omega) (by omega) (Nat.lt_succ_self _) (hP.sub [0, 1, 2, 3, 4, 5, 6] rfl) (hD.sub [0, 1, 2, 3, 4, 5, 6] (by decide) rfl) hS (lv_sub hl [0, 1] rfl)
