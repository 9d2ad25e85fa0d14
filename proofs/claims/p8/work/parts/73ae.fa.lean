set_option maxHeartbeats 4000000 in
set_option maxRecDepth 100000 in
theorem k_X4_isLetterNext_f (l : Launch) (D : va_G) (cs : Nat → ClassId) (sz : Nat) (aR : Nat) (aT : Nat) (aD : Nat) (rt : Int32) (rn : Int32) (rp : Int32) (rk : Int32) (rf : Int32) (tb : Nat) (ft : Nat → Int32) (rs : Nat) (ra : Nat) (nt : Nat) (hnt : nt ≤ 400) (hat : ra < 400) : Mi l D cs yX4_isLetterNext W_X4_isLetterNext 0 0 0 0 [.ref aR] [(aR, .inr (4, [.ref aT, .ref aD, .int rt, .int (nI rs), .int (nI ra), .int rn, .int rp, .int rk, .int rf])), (aT, .inr (7, [.ref tb, .int (nI nt)])), (tb, .inl (cs 0, 400, .inl ft))] sz (fun (r : Int32) (u : Unit) => ((r = 1 ∧ bL (ft ra) = true) ∨ (r = 0 ∧ bL (ft ra) = false))) (fun (u : Unit) => [(aR, .inr (4, [.ref aT, .ref aD, .int rt, .int (nI rs), .int (nI ra), .int rn, .int rp, .int rk, .int rf])), (aT, .inr (7, [.ref tb, .int (nI nt)])), (tb, .inl (cs 0, 400, .inl ft))]) := by
  refine ent (D := D) (cs := cs) (y := yX4_isLetterNext) (ws := W_X4_isLetterNext) (As := [.ref aR]) (W0 := [(aR, .inr (4, [.ref aT, .ref aD, .int rt, .int (nI rs), .int (nI ra), .int rn, .int rp, .int rk, .int rf])), (aT, .inr (7, [.ref tb, .int (nI nt)])), (tb, .inl (cs 0, 400, .inl ft))]) (Qx := fun A => va_Qi (fun (r : Int32) (u : Unit) => ((r = 1 ∧ bL (ft ra) = true) ∨ (r = 0 ∧ bL (ft ra) = false))) (mpost D A (fun (u : Unit) => [(aR, .inr (4, [.ref aT, .ref aD, .int rt, .int (nI rs), .int (nI ra), .int rn, .int rp, .int rk, .int rf])), (aT, .inr (7, [.ref tb, .int (nI nt)])), (tb, .inl (cs 0, 400, .inl ft))])) A) (maxL := 1) (ret := (some .boolean)) (by decide) rfl (Nat.le_of_ble_eq_true rfl) ?_
  intro p e s m below meth c A ls hx hb hr hml hlk hown hts hin hK hE hP hD hA hS hl
  have hl : lv_has ls 1 [(0, .ref aR)] := hl
  generalize hHe : s.heap = H at hP
  have hS : va_S A s.heap H [] := hHe ▸ hS
  generalize hLe : ([] : List Loc) = locs at hS ⊢
  have htw : ∀ w ∈ O_X4_isLetterNext, w.before ([.ref aR] : List Value).toArray s = true := fun w h => hts w (List.mem_cons_of_mem _ (List.mem_append_left _ h))
  have hFix := (⟨hx, hb, hml, hown, hts⟩ : CallFix p m c _ _ s _ _ _)
  refine lv_aload_n hx hb dX4_isLetterNext_0 rfl (lv_at hl 0 rfl) ?_
  refine va_get (D := D) (ci := 4) (v := .ref aT) (C := RX4) (T := TX4) (N := 9) hx hb hts iuX4_isLetterNext_X4 hown hK hP 0 rfl rfl 0 (by decide) (htw (.fieldLink RX4 33 "MergeJudge$Reader" "tape" "LMergeJudge$Tape;") (List.mem_of_getElem? (i := 0) rfl)) (fun _ h9 => h9) rfl dX4_isLetterNext_1 ?_
  refine va_get (D := D) (ci := 7) (v := .ref tb) (C := RX7) (T := TX7) (N := 2) hx hb hts iuX4_isLetterNext_X7 hown hK hP 1 rfl rfl 0 (by decide) (htw (.fieldLink RX4 201 "MergeJudge$Tape" "bytes" "[B") (List.mem_of_getElem? (i := 1) rfl)) (fun _ h9 => h9) rfl dX4_isLetterNext_4 ?_
  refine lv_aload_n hx hb dX4_isLetterNext_7 rfl (lv_at hl 0 rfl) ?_
  refine va_get (D := D) (ci := 4) (v := .int (nI ra)) (C := RX4) (T := TX4) (N := 9) hx hb hts iuX4_isLetterNext_X4 hown hK hP 0 rfl rfl 4 (by decide) (htw (.fieldLink RX4 18 "MergeJudge$Reader" "at" "I") (List.mem_of_getElem? (i := 2) rfl)) (fun _ h9 => h9) rfl dX4_isLetterNext_8 ?_
  refine va_bald hx hb hK hP 2 0 rfl rfl (vp_in_nI (by omega) (by omega)) dX4_isLetterNext_11 ?_
  rw [nI_clamp (by omega)]
  refine lv_bipush (v := 97) hx hb dX4_isLetterNext_12 (by decide) ?_
  refine lv_icmp_lt (tgt := 38) hx hb dX4_isLetterNext_14 (by decide) (fun c_1 => ?_) (fun c_1 => ?_)
  ·
    refine lv_iconst (v := 0) hx hb dX4_isLetterNext_38 (by decide) ?_
    exact ret_z hx hb hr hlk hS (Nat.le_of_ble_eq_true rfl) (Nat.le_of_ble_eq_true rfl) (by decide) () (Or.inr (⟨rfl, (bL_n (by have e0 := c_1; simp only [gt_iff_lt, Int32.lt_iff_toInt_lt, q97, q122] at e0; omega))⟩)) (hP.sub [0, 1, 2] rfl) (hD.sub [0, 1, 2] (by decide) rfl) dX4_isLetterNext_39
  ·
    refine lv_aload_n hx hb dX4_isLetterNext_17 rfl (lv_at hl 0 rfl) ?_
    refine va_get (D := D) (ci := 4) (v := .ref aT) (C := RX4) (T := TX4) (N := 9) hx hb hts iuX4_isLetterNext_X4 hown hK hP 0 rfl rfl 0 (by decide) (htw (.fieldLink RX4 33 "MergeJudge$Reader" "tape" "LMergeJudge$Tape;") (List.mem_of_getElem? (i := 0) rfl)) (fun _ h9 => h9) rfl dX4_isLetterNext_18 ?_
    refine va_get (D := D) (ci := 7) (v := .ref tb) (C := RX7) (T := TX7) (N := 2) hx hb hts iuX4_isLetterNext_X7 hown hK hP 1 rfl rfl 0 (by decide) (htw (.fieldLink RX4 201 "MergeJudge$Tape" "bytes" "[B") (List.mem_of_getElem? (i := 1) rfl)) (fun _ h9 => h9) rfl dX4_isLetterNext_21 ?_
    refine lv_aload_n hx hb dX4_isLetterNext_24 rfl (lv_at hl 0 rfl) ?_
    refine va_get (D := D) (ci := 4) (v := .int (nI ra)) (C := RX4) (T := TX4) (N := 9) hx hb hts iuX4_isLetterNext_X4 hown hK hP 0 rfl rfl 4 (by decide) (htw (.fieldLink RX4 18 "MergeJudge$Reader" "at" "I") (List.mem_of_getElem? (i := 2) rfl)) (fun _ h9 => h9) rfl dX4_isLetterNext_25 ?_
    refine va_bald hx hb hK hP 2 0 rfl rfl (vp_in_nI (by omega) (by omega)) dX4_isLetterNext_28 ?_
    rw [nI_clamp (by omega)]
    refine lv_bipush (v := 122) hx hb dX4_isLetterNext_29 (by decide) ?_
    refine lv_icmp_gt (tgt := 38) hx hb dX4_isLetterNext_31 (by decide) (fun c_2 => ?_) (fun c_2 => ?_)
    ·
      refine lv_iconst (v := 0) hx hb dX4_isLetterNext_38 (by decide) ?_
      exact ret_z hx hb hr hlk hS (Nat.le_of_ble_eq_true rfl) (Nat.le_of_ble_eq_true rfl) (by decide) () (Or.inr (⟨rfl, (bL_n (by have e0 := c_1; have e1 := c_2; simp only [gt_iff_lt, Int32.lt_iff_toInt_lt, q97, q122] at e0 e1; omega))⟩)) (hP.sub [0, 1, 2] rfl) (hD.sub [0, 1, 2] (by decide) rfl) dX4_isLetterNext_39
    ·
      refine lv_iconst (v := 1) hx hb dX4_isLetterNext_34 (by decide) ?_
      refine lv_goto (tgt := 39) hx hb dX4_isLetterNext_35 (by decide) ?_
      exact ret_z hx hb hr hlk hS (Nat.le_of_ble_eq_true rfl) (Nat.le_of_ble_eq_true rfl) (by decide) () (Or.inl ⟨rfl, (bL_y (by have e0 := c_1; have e1 := c_2; simp only [gt_iff_lt, Int32.lt_iff_toInt_lt, q97, q122] at e0 e1; omega))⟩) (hP.sub [0, 1, 2] rfl) (hD.sub [0, 1, 2] (by decide) rfl) dX4_isLetterNext_39

set_option maxHeartbeats 4000000 in
set_option maxRecDepth 100000 in
theorem k_X4_isDigitNext_f (l : Launch) (D : va_G) (cs : Nat → ClassId) (sz : Nat) (aR : Nat) (aT : Nat) (aD : Nat) (rt : Int32) (rn : Int32) (rp : Int32) (rk : Int32) (rf : Int32) (tb : Nat) (ft : Nat → Int32) (rs : Nat) (ra : Nat) (nt : Nat) (hnt : nt ≤ 400) (hat : ra < 400) : Mi l D cs yX4_isDigitNext W_X4_isDigitNext 0 0 0 0 [.ref aR] [(aR, .inr (4, [.ref aT, .ref aD, .int rt, .int (nI rs), .int (nI ra), .int rn, .int rp, .int rk, .int rf])), (aT, .inr (7, [.ref tb, .int (nI nt)])), (tb, .inl (cs 0, 400, .inl ft))] sz (fun (r : Int32) (u : Unit) => ((r = 1 ∧ bD (ft ra) = true) ∨ (r = 0 ∧ bD (ft ra) = false))) (fun (u : Unit) => [(aR, .inr (4, [.ref aT, .ref aD, .int rt, .int (nI rs), .int (nI ra), .int rn, .int rp, .int rk, .int rf])), (aT, .inr (7, [.ref tb, .int (nI nt)])), (tb, .inl (cs 0, 400, .inl ft))]) := by
  refine ent (D := D) (cs := cs) (y := yX4_isDigitNext) (ws := W_X4_isDigitNext) (As := [.ref aR]) (W0 := [(aR, .inr (4, [.ref aT, .ref aD, .int rt, .int (nI rs), .int (nI ra), .int rn, .int rp, .int rk, .int rf])), (aT, .inr (7, [.ref tb, .int (nI nt)])), (tb, .inl (cs 0, 400, .inl ft))]) (Qx := fun A => va_Qi (fun (r : Int32) (u : Unit) => ((r = 1 ∧ bD (ft ra) = true) ∨ (r = 0 ∧ bD (ft ra) = false))) (mpost D A (fun (u : Unit) => [(aR, .inr (4, [.ref aT, .ref aD, .int rt, .int (nI rs), .int (nI ra), .int rn, .int rp, .int rk, .int rf])), (aT, .inr (7, [.ref tb, .int (nI nt)])), (tb, .inl (cs 0, 400, .inl ft))])) A) (maxL := 1) (ret := (some .boolean)) (by decide) rfl (Nat.le_of_ble_eq_true rfl) ?_
  intro p e s m below meth c A ls hx hb hr hml hlk hown hts hin hK hE hP hD hA hS hl
  have hl : lv_has ls 1 [(0, .ref aR)] := hl
  generalize hHe : s.heap = H at hP
  have hS : va_S A s.heap H [] := hHe ▸ hS
  generalize hLe : ([] : List Loc) = locs at hS ⊢
  have htw : ∀ w ∈ O_X4_isDigitNext, w.before ([.ref aR] : List Value).toArray s = true := fun w h => hts w (List.mem_cons_of_mem _ (List.mem_append_left _ h))
  have hFix := (⟨hx, hb, hml, hown, hts⟩ : CallFix p m c _ _ s _ _ _)
  refine lv_aload_n hx hb dX4_isDigitNext_0 rfl (lv_at hl 0 rfl) ?_
  refine va_get (D := D) (ci := 4) (v := .ref aT) (C := RX4) (T := TX4) (N := 9) hx hb hts iuX4_isDigitNext_X4 hown hK hP 0 rfl rfl 0 (by decide) (htw (.fieldLink RX4 33 "MergeJudge$Reader" "tape" "LMergeJudge$Tape;") (List.mem_of_getElem? (i := 0) rfl)) (fun _ h9 => h9) rfl dX4_isDigitNext_1 ?_
  refine va_get (D := D) (ci := 7) (v := .ref tb) (C := RX7) (T := TX7) (N := 2) hx hb hts iuX4_isDigitNext_X7 hown hK hP 1 rfl rfl 0 (by decide) (htw (.fieldLink RX4 201 "MergeJudge$Tape" "bytes" "[B") (List.mem_of_getElem? (i := 1) rfl)) (fun _ h9 => h9) rfl dX4_isDigitNext_4 ?_
  refine lv_aload_n hx hb dX4_isDigitNext_7 rfl (lv_at hl 0 rfl) ?_
  refine va_get (D := D) (ci := 4) (v := .int (nI ra)) (C := RX4) (T := TX4) (N := 9) hx hb hts iuX4_isDigitNext_X4 hown hK hP 0 rfl rfl 4 (by decide) (htw (.fieldLink RX4 18 "MergeJudge$Reader" "at" "I") (List.mem_of_getElem? (i := 2) rfl)) (fun _ h9 => h9) rfl dX4_isDigitNext_8 ?_
  refine va_bald hx hb hK hP 2 0 rfl rfl (vp_in_nI (by omega) (by omega)) dX4_isDigitNext_11 ?_
  rw [nI_clamp (by omega)]
  refine lv_bipush (v := 48) hx hb dX4_isDigitNext_12 (by decide) ?_
  refine lv_icmp_lt (tgt := 38) hx hb dX4_isDigitNext_14 (by decide) (fun c_1 => ?_) (fun c_1 => ?_)
  ·
    refine lv_iconst (v := 0) hx hb dX4_isDigitNext_38 (by decide) ?_
    exact ret_z hx hb hr hlk hS (Nat.le_of_ble_eq_true rfl) (Nat.le_of_ble_eq_true rfl) (by decide) () (Or.inr (⟨rfl, (bD_n (by have e0 := c_1; simp only [gt_iff_lt, Int32.lt_iff_toInt_lt, q48, q57] at e0; omega))⟩)) (hP.sub [0, 1, 2] rfl) (hD.sub [0, 1, 2] (by decide) rfl) dX4_isDigitNext_39
  ·
    refine lv_aload_n hx hb dX4_isDigitNext_17 rfl (lv_at hl 0 rfl) ?_
    refine va_get (D := D) (ci := 4) (v := .ref aT) (C := RX4) (T := TX4) (N := 9) hx hb hts iuX4_isDigitNext_X4 hown hK hP 0 rfl rfl 0 (by decide) (htw (.fieldLink RX4 33 "MergeJudge$Reader" "tape" "LMergeJudge$Tape;") (List.mem_of_getElem? (i := 0) rfl)) (fun _ h9 => h9) rfl dX4_isDigitNext_18 ?_
    refine va_get (D := D) (ci := 7) (v := .ref tb) (C := RX7) (T := TX7) (N := 2) hx hb hts iuX4_isDigitNext_X7 hown hK hP 1 rfl rfl 0 (by decide) (htw (.fieldLink RX4 201 "MergeJudge$Tape" "bytes" "[B") (List.mem_of_getElem? (i := 1) rfl)) (fun _ h9 => h9) rfl dX4_isDigitNext_21 ?_
    refine lv_aload_n hx hb dX4_isDigitNext_24 rfl (lv_at hl 0 rfl) ?_
    refine va_get (D := D) (ci := 4) (v := .int (nI ra)) (C := RX4) (T := TX4) (N := 9) hx hb hts iuX4_isDigitNext_X4 hown hK hP 0 rfl rfl 4 (by decide) (htw (.fieldLink RX4 18 "MergeJudge$Reader" "at" "I") (List.mem_of_getElem? (i := 2) rfl)) (fun _ h9 => h9) rfl dX4_isDigitNext_25 ?_
    refine va_bald hx hb hK hP 2 0 rfl rfl (vp_in_nI (by omega) (by omega)) dX4_isDigitNext_28 ?_
    rw [nI_clamp (by omega)]
    refine lv_bipush (v := 57) hx hb dX4_isDigitNext_29 (by decide) ?_
    refine lv_icmp_gt (tgt := 38) hx hb dX4_isDigitNext_31 (by decide) (fun c_2 => ?_) (fun c_2 => ?_)
    ·
      refine lv_iconst (v := 0) hx hb dX4_isDigitNext_38 (by decide) ?_
      exact ret_z hx hb hr hlk hS (Nat.le_of_ble_eq_true rfl) (Nat.le_of_ble_eq_true rfl) (by decide) () (Or.inr (⟨rfl, (bD_n (by have e0 := c_1; have e1 := c_2; simp only [gt_iff_lt, Int32.lt_iff_toInt_lt, q48, q57] at e0 e1; omega))⟩)) (hP.sub [0, 1, 2] rfl) (hD.sub [0, 1, 2] (by decide) rfl) dX4_isDigitNext_39
    ·
      refine lv_iconst (v := 1) hx hb dX4_isDigitNext_34 (by decide) ?_
      refine lv_goto (tgt := 39) hx hb dX4_isDigitNext_35 (by decide) ?_
      exact ret_z hx hb hr hlk hS (Nat.le_of_ble_eq_true rfl) (Nat.le_of_ble_eq_true rfl) (by decide) () (Or.inl ⟨rfl, (bD_y (by have e0 := c_1; have e1 := c_2; simp only [gt_iff_lt, Int32.lt_iff_toInt_lt, q48, q57] at e0 e1; omega))⟩) (hP.sub [0, 1, 2] rfl) (hD.sub [0, 1, 2] (by decide) rfl) dX4_isDigitNext_39

set_option maxHeartbeats 4000000 in
set_option maxRecDepth 100000 in
theorem k_X4_next_f (l : Launch) (D : va_G) (cs : Nat → ClassId) (sz : Nat) (aR : Nat) (aT : Nat) (aD : Nat) (rt : Int32) (rn : Int32) (rp : Int32) (rk : Int32) (rf : Int32) (tb : Nat) (ft : Nat → Int32) (rs : Nat) (ra : Nat) (nt : Nat) (hnt : nt ≤ 400) (hrt : ra ≤ nt) : Mv l D cs yX4_next W_X4_next 1 20 0 0 [.ref aR] [(aR, .inr (4, [.ref aT, .ref aD, .int rt, .int (nI rs), .int (nI ra), .int rn, .int rp, .int rk, .int rf])), (aT, .inr (7, [.ref tb, .int (nI nt)])), (tb, .inl (cs 0, 400, .inl ft))] sz (fun (u : Int32 × Nat × Nat × Int32) => (u.2.1 = tS ft nt ra) ∧ (TKc ft nt u.2.1 u.2.2.1 u.1 u.2.2.2) ∧ (u.2.1 ≤ u.2.2.1) ∧ (u.2.2.1 ≤ nt)) (fun (u : Int32 × Nat × Nat × Int32) => [(aR, .inr (4, [.ref aT, .ref aD, .int u.1, .int (nI u.2.1), .int (nI u.2.2.1), .int u.2.2.2, .int rp, .int rk, .int rf])), (aT, .inr (7, [.ref tb, .int (nI nt)])), (tb, .inl (cs 0, 400, .inl ft))]) := by
  refine ent (D := D) (cs := cs) (y := yX4_next) (ws := W_X4_next) (As := [.ref aR]) (W0 := [(aR, .inr (4, [.ref aT, .ref aD, .int rt, .int (nI rs), .int (nI ra), .int rn, .int rp, .int rk, .int rf])), (aT, .inr (7, [.ref tb, .int (nI nt)])), (tb, .inl (cs 0, 400, .inl ft))]) (Qx := fun A => va_Qv (fun (u : Int32 × Nat × Nat × Int32) => (u.2.1 = tS ft nt ra) ∧ (TKc ft nt u.2.1 u.2.2.1 u.1 u.2.2.2) ∧ (u.2.1 ≤ u.2.2.1) ∧ (u.2.2.1 ≤ nt)) (mpost D A (fun (u : Int32 × Nat × Nat × Int32) => [(aR, .inr (4, [.ref aT, .ref aD, .int u.1, .int (nI u.2.1), .int (nI u.2.2.1), .int u.2.2.2, .int rp, .int rk, .int rf])), (aT, .inr (7, [.ref tb, .int (nI nt)])), (tb, .inl (cs 0, 400, .inl ft))])) A) (maxL := 1) (ret := none) (by decide) rfl (Nat.le_of_ble_eq_true rfl) ?_
  intro p e s m below meth c A ls hx hb hr hml hlk hown hts hin hK hE hP hD hA hS hl
  have hl : lv_has ls 1 [(0, .ref aR)] := hl
  generalize hHe : s.heap = H at hP
  have hS : va_S A s.heap H [] := hHe ▸ hS
  generalize hLe : ([] : List Loc) = locs at hS ⊢
  have htw : ∀ w ∈ O_X4_next, w.before ([.ref aR] : List Value).toArray s = true := fun w h => hts w (List.mem_cons_of_mem _ (List.mem_append_left _ h))
  have hFix := (⟨hx, hb, hml, hown, hts⟩ : CallFix p m c _ _ s _ _ _)
  have lp_1 : ∀ (nfu : Nat) (g0_a : Nat) (H : Heap) (locs : List Loc) (ls : Array Slot) (hw0_a : g0_a ≤ nt) (hw1_a : rnT bS ft nt g0_a = tS ft nt ra), nt - g0_a < nfu → va_P D vwCl [(aR, .inr (4, [.ref aT, .ref aD, .int rt, .int (nI rs), .int (nI g0_a), .int rn, .int rp, .int rk, .int rf])), (aT, .inr (7, [.ref tb, .int (nI nt)])), (tb, .inl (cs 0, 400, .inl ft))] H → va_D A [(aR, .inr (4, [.ref aT, .ref aD, .int rt, .int (nI rs), .int (nI g0_a), .int rn, .int rp, .int rk, .int rf])), (aT, .inr (7, [.ref tb, .int (nI nt)])), (tb, .inl (cs 0, 400, .inl ft))] → va_S A s.heap H locs → lv_has ls 1 [(0, .ref aR)] → W p l e (mRm 1 0 0 20) s m ([.ref aR] : List Value).toArray below meth c H locs 0 0 (MQ below (va_Qv (fun (u : Int32 × Nat × Nat × Int32) => (u.2.1 = tS ft nt ra) ∧ (TKc ft nt u.2.1 u.2.2.1 u.1 u.2.2.2) ∧ (u.2.1 ≤ u.2.2.1) ∧ (u.2.2.1 ≤ nt)) (mpost D A (fun (u : Int32 × Nat × Nat × Int32) => [(aR, .inr (4, [.ref aT, .ref aD, .int u.1, .int (nI u.2.1), .int (nI u.2.2.1), .int u.2.2.2, .int rp, .int rk, .int rf])), (aT, .inr (7, [.ref tb, .int (nI nt)])), (tb, .inl (cs 0, 400, .inl ft))])) A) ([.ref aR] : List Value).toArray s 0 0 A) (F0 m 0 ls []) := by
    intro nfu
    induction nfu with
    | zero => intro g0_a H locs ls hw0_a hw1_a hmu; exact absurd hmu (Nat.not_lt_zero _)
    | succ nfu ih =>
      intro g0_a H locs ls hw0_a hw1_a hmu hP hD hS hl
      have ih_lp_1 := @ih
      refine lv_aload_n hx hb dX4_next_0 rfl (lv_at hl 0 rfl) ?_
      refine va_get (D := D) (ci := 4) (v := .int (nI g0_a)) (C := RX4) (T := TX4) (N := 9) hx hb hts iuX4_next_X4 hown hK hP 0 rfl rfl 4 (by decide) (htw (.fieldLink RX4 18 "MergeJudge$Reader" "at" "I") (List.mem_of_getElem? (i := 0) rfl)) (fun _ h9 => h9) rfl dX4_next_1 ?_
      refine lv_aload_n hx hb dX4_next_4 rfl (lv_at hl 0 rfl) ?_
      refine va_get (D := D) (ci := 4) (v := .ref aT) (C := RX4) (T := TX4) (N := 9) hx hb hts iuX4_next_X4 hown hK hP 0 rfl rfl 0 (by decide) (htw (.fieldLink RX4 33 "MergeJudge$Reader" "tape" "LMergeJudge$Tape;") (List.mem_of_getElem? (i := 1) rfl)) (fun _ h9 => h9) rfl dX4_next_5 ?_
      refine va_get (D := D) (ci := 7) (v := .int (nI nt)) (C := RX7) (T := TX7) (N := 2) hx hb hts iuX4_next_X7 hown hK hP 1 rfl rfl 1 (by decide) (htw (.fieldLink RX4 196 "MergeJudge$Tape" "size" "I") (List.mem_of_getElem? (i := 2) rfl)) (fun _ h9 => h9) rfl dX4_next_8 ?_
      refine lv_icmp_ge (tgt := 61) hx hb dX4_next_11 (by decide) (fun c_2 => ?_) (fun c_2 => ?_)
      ·
        have hn_2 := bge_t (a := g0_a) (b := nt) c_2 (by omega) (by omega)
        have hS9 : g0_a = tS ft nt ra := (rn_e (by omega)).symm.trans hw1_a
        refine lv_aload_n hx hb dX4_next_61 rfl (lv_at hl 0 rfl) ?_
        refine lv_aload_n hx hb dX4_next_62 rfl (lv_at hl 0 rfl) ?_
        refine va_get (D := D) (ci := 4) (v := .int (nI g0_a)) (C := RX4) (T := TX4) (N := 9) hx hb hts iuX4_next_X4 hown hK hP 0 rfl rfl 4 (by decide) (htw (.fieldLink RX4 18 "MergeJudge$Reader" "at" "I") (List.mem_of_getElem? (i := 0) rfl)) (fun _ h9 => h9) rfl dX4_next_63 ?_
        refine va_put (D := D) (ci := 4) (v := .int (nI g0_a)) (ty := .int) (C := RX4) (T := TX4) (N := 9) hx hb hts iuX4_next_X4 tyX4 tyX4_ok nmX4 hown hK hP hD hS 0 rfl rfl 3 (by decide) (htw (.fieldLink RX4 15 "MergeJudge$Reader" "start" "I") (List.mem_of_getElem? (i := 4) rfl)) (fun _ h9 => h9) rfl (by decide +kernel) rfl rfl (Nat.le_of_ble_eq_true rfl) dX4_next_66 (fun H locs hP hD hS => ?_)
        have hP : va_P D vwCl [(aR, .inr (4, [.ref aT, .ref aD, .int rt, .int (nI g0_a), .int (nI g0_a), .int rn, .int rp, .int rk, .int rf])), (aT, .inr (7, [.ref tb, .int (nI nt)])), (tb, .inl (cs 0, 400, .inl ft))] H := hP
        have hD : va_D A [(aR, .inr (4, [.ref aT, .ref aD, .int rt, .int (nI g0_a), .int (nI g0_a), .int rn, .int rp, .int rk, .int rf])), (aT, .inr (7, [.ref tb, .int (nI nt)])), (tb, .inl (cs 0, 400, .inl ft))] := hD
        refine lv_aload_n hx hb dX4_next_69 rfl (lv_at hl 0 rfl) ?_
        refine lv_iconst (v := 0) hx hb dX4_next_70 (by decide) ?_
        refine va_put (D := D) (ci := 4) (v := .int 0) (ty := .int) (C := RX4) (T := TX4) (N := 9) hx hb hts iuX4_next_X4 tyX4 tyX4_ok nmX4 hown hK hP hD hS 0 rfl rfl 5 (by decide) (htw (.fieldLink RX4 21 "MergeJudge$Reader" "number" "I") (List.mem_of_getElem? (i := 5) rfl)) (fun _ h9 => h9) rfl (by decide +kernel) rfl rfl (Nat.le_of_ble_eq_true rfl) dX4_next_71 (fun H locs hP hD hS => ?_)
        have hP : va_P D vwCl [(aR, .inr (4, [.ref aT, .ref aD, .int rt, .int (nI g0_a), .int (nI g0_a), .int 0, .int rp, .int rk, .int rf])), (aT, .inr (7, [.ref tb, .int (nI nt)])), (tb, .inl (cs 0, 400, .inl ft))] H := hP
        have hD : va_D A [(aR, .inr (4, [.ref aT, .ref aD, .int rt, .int (nI g0_a), .int (nI g0_a), .int 0, .int rp, .int rk, .int rf])), (aT, .inr (7, [.ref tb, .int (nI nt)])), (tb, .inl (cs 0, 400, .inl ft))] := hD
        refine lv_aload_n hx hb dX4_next_74 rfl (lv_at hl 0 rfl) ?_
        refine va_get (D := D) (ci := 4) (v := .int (nI g0_a)) (C := RX4) (T := TX4) (N := 9) hx hb hts iuX4_next_X4 hown hK hP 0 rfl rfl 4 (by decide) (htw (.fieldLink RX4 18 "MergeJudge$Reader" "at" "I") (List.mem_of_getElem? (i := 0) rfl)) (fun _ h9 => h9) rfl dX4_next_75 ?_
        refine lv_aload_n hx hb dX4_next_78 rfl (lv_at hl 0 rfl) ?_
        refine va_get (D := D) (ci := 4) (v := .ref aT) (C := RX4) (T := TX4) (N := 9) hx hb hts iuX4_next_X4 hown hK hP 0 rfl rfl 0 (by decide) (htw (.fieldLink RX4 33 "MergeJudge$Reader" "tape" "LMergeJudge$Tape;") (List.mem_of_getElem? (i := 1) rfl)) (fun _ h9 => h9) rfl dX4_next_79 ?_
        refine va_get (D := D) (ci := 7) (v := .int (nI nt)) (C := RX7) (T := TX7) (N := 2) hx hb hts iuX4_next_X7 hown hK hP 1 rfl rfl 1 (by decide) (htw (.fieldLink RX4 196 "MergeJudge$Tape" "size" "I") (List.mem_of_getElem? (i := 2) rfl)) (fun _ h9 => h9) rfl dX4_next_82 ?_
        refine lv_icmp_lt (tgt := 94) hx hb dX4_next_85 (by decide) (fun c_3 => ?_) (fun c_3 => ?_)
        ·
          have hn_3 := blt_t (a := g0_a) (b := nt) c_3 (by omega) (by omega)
          refine lv_aload_n hx hb dX4_next_94 rfl (lv_at hl 0 rfl) ?_
          refine aft_i (wr := []) hP hD hS hA [0, 1, 2] [] rfl rfl (by decide) (by decide) (run_v (As := []) (rest := []) hFix hK hE hP hD [0, 1, 2] (k_X4_isLetterNext_f l D cs _ aR aT aD rt 0 rp rk rf tb ft g0_a g0_a nt (by first | assumption | decide | omega) (by first | assumption | decide | omega)) (cwV 0 hts gc_X4_next_205_X4_isLetterNext rfl rfl rfl (by decide +kernel) ⟨Nat.le_of_ble_eq_true rfl, Nat.le_of_ble_eq_true rfl⟩) rfl (by decide) rfl rfl rfl hl.1 rfl (Nat.le_of_ble_eq_true rfl) dX4_next_95 ⟨Nat.le_of_ble_eq_true rfl, Nat.le_of_ble_eq_true rfl⟩) (fun r_4 u_4 H locs hq_4 hP hD hS => ?_)
          have hP : va_P D vwCl [(aR, .inr (4, [.ref aT, .ref aD, .int rt, .int (nI g0_a), .int (nI g0_a), .int 0, .int rp, .int rk, .int rf])), (aT, .inr (7, [.ref tb, .int (nI nt)])), (tb, .inl (cs 0, 400, .inl ft))] H := hP
          have hD : va_D A [(aR, .inr (4, [.ref aT, .ref aD, .int rt, .int (nI g0_a), .int (nI g0_a), .int 0, .int rp, .int rk, .int rf])), (aT, .inr (7, [.ref tb, .int (nI nt)])), (tb, .inl (cs 0, 400, .inl ft))] := hD
          replace hq_4 : ((r_4 = 1 ∧ bL (ft g0_a) = true) ∨ (r_4 = 0 ∧ bL (ft g0_a) = false)) := hq_4
          rcases hq_4 with ⟨rfl, hq_4⟩ | ⟨rfl, hq_4⟩
          ·
            refine lv_if_eq (tgt := 140) hx hb dX4_next_98 (by decide) (fun h9 => absurd h9 (by decide)) (fun _ => ?_)
            refine lv_aload_n hx hb dX4_next_101 rfl (lv_at hl 0 rfl) ?_
            refine lv_iconst (v := 1) hx hb dX4_next_102 (by decide) ?_
            refine va_put (D := D) (ci := 4) (v := .int 1) (ty := .int) (C := RX4) (T := TX4) (N := 9) hx hb hts iuX4_next_X4 tyX4 tyX4_ok nmX4 hown hK hP hD hS 0 rfl rfl 2 (by decide) (htw (.fieldLink RX4 11 "MergeJudge$Reader" "token" "I") (List.mem_of_getElem? (i := 6) rfl)) (fun _ h9 => h9) rfl (by decide +kernel) rfl rfl (Nat.le_of_ble_eq_true rfl) dX4_next_103 (fun H locs hP hD hS => ?_)
            have hP : va_P D vwCl [(aR, .inr (4, [.ref aT, .ref aD, .int 1, .int (nI g0_a), .int (nI g0_a), .int 0, .int rp, .int rk, .int rf])), (aT, .inr (7, [.ref tb, .int (nI nt)])), (tb, .inl (cs 0, 400, .inl ft))] H := hP
            have hD : va_D A [(aR, .inr (4, [.ref aT, .ref aD, .int 1, .int (nI g0_a), .int (nI g0_a), .int 0, .int rp, .int rk, .int rf])), (aT, .inr (7, [.ref tb, .int (nI nt)])), (tb, .inl (cs 0, 400, .inl ft))] := hD
            have lp_5 : ∀ (nfu : Nat) (g0_b : Nat) (H : Heap) (locs : List Loc) (ls : Array Slot) (hw0_b : g0_b ≤ nt) (hw1_b : g0_a ≤ g0_b) (hw2_b : rnT bL ft nt g0_b = rnT bL ft nt g0_a), nt - g0_b < nfu → va_P D vwCl [(aR, .inr (4, [.ref aT, .ref aD, .int 1, .int (nI g0_a), .int (nI g0_b), .int 0, .int rp, .int rk, .int rf])), (aT, .inr (7, [.ref tb, .int (nI nt)])), (tb, .inl (cs 0, 400, .inl ft))] H → va_D A [(aR, .inr (4, [.ref aT, .ref aD, .int 1, .int (nI g0_a), .int (nI g0_b), .int 0, .int rp, .int rk, .int rf])), (aT, .inr (7, [.ref tb, .int (nI nt)])), (tb, .inl (cs 0, 400, .inl ft))] → va_S A s.heap H locs → lv_has ls 1 [(0, .ref aR)] → W p l e (mRm 1 0 0 20) s m ([.ref aR] : List Value).toArray below meth c H locs 0 0 (MQ below (va_Qv (fun (u : Int32 × Nat × Nat × Int32) => (u.2.1 = tS ft nt ra) ∧ (TKc ft nt u.2.1 u.2.2.1 u.1 u.2.2.2) ∧ (u.2.1 ≤ u.2.2.1) ∧ (u.2.2.1 ≤ nt)) (mpost D A (fun (u : Int32 × Nat × Nat × Int32) => [(aR, .inr (4, [.ref aT, .ref aD, .int u.1, .int (nI u.2.1), .int (nI u.2.2.1), .int u.2.2.2, .int rp, .int rk, .int rf])), (aT, .inr (7, [.ref tb, .int (nI nt)])), (tb, .inl (cs 0, 400, .inl ft))])) A) ([.ref aR] : List Value).toArray s 0 0 A) (F0 m 106 ls []) := by
              intro nfu
              induction nfu with
              | zero => intro g0_b H locs ls hw0_b hw1_b hw2_b hmu; exact absurd hmu (Nat.not_lt_zero _)
              | succ nfu ih =>
                intro g0_b H locs ls hw0_b hw1_b hw2_b hmu hP hD hS hl
                have ih_lp_5 := @ih
                refine lv_aload_n hx hb dX4_next_106 rfl (lv_at hl 0 rfl) ?_
                refine va_get (D := D) (ci := 4) (v := .int (nI g0_b)) (C := RX4) (T := TX4) (N := 9) hx hb hts iuX4_next_X4 hown hK hP 0 rfl rfl 4 (by decide) (htw (.fieldLink RX4 18 "MergeJudge$Reader" "at" "I") (List.mem_of_getElem? (i := 0) rfl)) (fun _ h9 => h9) rfl dX4_next_107 ?_
                refine lv_aload_n hx hb dX4_next_110 rfl (lv_at hl 0 rfl) ?_
                refine va_get (D := D) (ci := 4) (v := .ref aT) (C := RX4) (T := TX4) (N := 9) hx hb hts iuX4_next_X4 hown hK hP 0 rfl rfl 0 (by decide) (htw (.fieldLink RX4 33 "MergeJudge$Reader" "tape" "LMergeJudge$Tape;") (List.mem_of_getElem? (i := 1) rfl)) (fun _ h9 => h9) rfl dX4_next_111 ?_
                refine va_get (D := D) (ci := 7) (v := .int (nI nt)) (C := RX7) (T := TX7) (N := 2) hx hb hts iuX4_next_X7 hown hK hP 1 rfl rfl 1 (by decide) (htw (.fieldLink RX4 196 "MergeJudge$Tape" "size" "I") (List.mem_of_getElem? (i := 2) rfl)) (fun _ h9 => h9) rfl dX4_next_114 ?_
                refine lv_icmp_ge (tgt := 255) hx hb dX4_next_117 (by decide) (fun c_6 => ?_) (fun c_6 => ?_)
                ·
                  have hn_6 := bge_t (a := g0_b) (b := nt) c_6 (by omega) (by omega)
                  have hE9 : g0_b = rnT bL ft nt g0_a := (rn_e (by omega)).symm.trans hw2_b
                  exact ret_v hx hb hr hlk hS (Nat.le_of_ble_eq_true rfl) (Nat.le_of_ble_eq_true rfl) (1, g0_a, g0_b, 0) (⟨hS9, (show TKc ft nt g0_a g0_b 1 0 from (tk_1 (by omega) hq_4 hE9).1), (by first | omega | (dsimp only; omega)), (by first | omega | (dsimp only; omega))⟩) (hP.sub [0, 1, 2] rfl) (hD.sub [0, 1, 2] (by decide) rfl) dX4_next_255
                ·
                  have hn_6 := bge_f (a := g0_b) (b := nt) c_6 (by omega) (by omega)
                  refine lv_aload_n hx hb dX4_next_120 rfl (lv_at hl 0 rfl) ?_
                  refine aft_i (wr := []) hP hD hS hA [0, 1, 2] [] rfl rfl (by decide) (by decide) (run_v (As := []) (rest := []) hFix hK hE hP hD [0, 1, 2] (k_X4_isLetterNext_f l D cs _ aR aT aD 1 0 rp rk rf tb ft g0_a g0_b nt (by first | assumption | decide | omega) (by first | assumption | decide | omega)) (cwV 0 hts gc_X4_next_205_X4_isLetterNext rfl rfl rfl (by decide +kernel) ⟨Nat.le_of_ble_eq_true rfl, Nat.le_of_ble_eq_true rfl⟩) rfl (by decide) rfl rfl rfl hl.1 rfl (Nat.le_of_ble_eq_true rfl) dX4_next_121 ⟨Nat.le_of_ble_eq_true rfl, Nat.le_of_ble_eq_true rfl⟩) (fun r_7 u_7 H locs hq_7 hP hD hS => ?_)
                  have hP : va_P D vwCl [(aR, .inr (4, [.ref aT, .ref aD, .int 1, .int (nI g0_a), .int (nI g0_b), .int 0, .int rp, .int rk, .int rf])), (aT, .inr (7, [.ref tb, .int (nI nt)])), (tb, .inl (cs 0, 400, .inl ft))] H := hP
                  have hD : va_D A [(aR, .inr (4, [.ref aT, .ref aD, .int 1, .int (nI g0_a), .int (nI g0_b), .int 0, .int rp, .int rk, .int rf])), (aT, .inr (7, [.ref tb, .int (nI nt)])), (tb, .inl (cs 0, 400, .inl ft))] := hD
                  replace hq_7 : ((r_7 = 1 ∧ bL (ft g0_b) = true) ∨ (r_7 = 0 ∧ bL (ft g0_b) = false)) := hq_7
                  rcases hq_7 with ⟨rfl, hq_7⟩ | ⟨rfl, hq_7⟩
                  ·
                    refine lv_if_eq (tgt := 255) hx hb dX4_next_124 (by decide) (fun h9 => absurd h9 (by decide)) (fun _ => ?_)
                    refine lv_aload_n hx hb dX4_next_127 rfl (lv_at hl 0 rfl) ?_
                    refine lv_dup hx hb dX4_next_128 rfl ?_
                    refine va_get (D := D) (ci := 4) (v := .int (nI g0_b)) (C := RX4) (T := TX4) (N := 9) hx hb hts iuX4_next_X4 hown hK hP 0 rfl rfl 4 (by decide) (htw (.fieldLink RX4 18 "MergeJudge$Reader" "at" "I") (List.mem_of_getElem? (i := 0) rfl)) (fun _ h9 => h9) rfl dX4_next_129 ?_
                    refine lv_iconst (v := 1) hx hb dX4_next_132 (by decide) ?_
                    refine lv_iadd hx hb dX4_next_133 ?_
                    refine cf_i (nI (g0_b + 1)) (nI_add g0_b 1) ?_
                    refine va_put (D := D) (ci := 4) (v := .int (nI (g0_b + 1))) (ty := .int) (C := RX4) (T := TX4) (N := 9) hx hb hts iuX4_next_X4 tyX4 tyX4_ok nmX4 hown hK hP hD hS 0 rfl rfl 4 (by decide) (htw (.fieldLink RX4 18 "MergeJudge$Reader" "at" "I") (List.mem_of_getElem? (i := 0) rfl)) (fun _ h9 => h9) rfl (by decide +kernel) rfl rfl (Nat.le_of_ble_eq_true rfl) dX4_next_134 (fun H locs hP hD hS => ?_)
                    have hP : va_P D vwCl [(aR, .inr (4, [.ref aT, .ref aD, .int 1, .int (nI g0_a), .int (nI (g0_b + 1)), .int 0, .int rp, .int rk, .int rf])), (aT, .inr (7, [.ref tb, .int (nI nt)])), (tb, .inl (cs 0, 400, .inl ft))] H := hP
                    have hD : va_D A [(aR, .inr (4, [.ref aT, .ref aD, .int 1, .int (nI g0_a), .int (nI (g0_b + 1)), .int 0, .int rp, .int rk, .int rf])), (aT, .inr (7, [.ref tb, .int (nI nt)])), (tb, .inl (cs 0, 400, .inl ft))] := hD
                    refine lv_goto (tgt := 106) hx hb dX4_next_137 (by decide) ?_
                    exact ih_lp_5 (g0_b + 1) H locs ls (by first | omega | (dsimp only; omega)) (by first | omega | (dsimp only; omega)) ((rn_y (by omega) hq_7).symm.trans hw2_b) (by omega) (hP.sub [0, 1, 2] rfl) (hD.sub [0, 1, 2] (by decide) rfl) hS (lv_sub hl [0] rfl)
                  ·
                    refine lv_if_eq (tgt := 255) hx hb dX4_next_124 (by decide) (fun _ => ?_) (fun h9 => absurd h9 (by decide))
                    have hE9 : g0_b = rnT bL ft nt g0_a := (rn_n hq_7).symm.trans hw2_b
                    exact ret_v hx hb hr hlk hS (Nat.le_of_ble_eq_true rfl) (Nat.le_of_ble_eq_true rfl) (1, g0_a, g0_b, 0) (⟨hS9, (show TKc ft nt g0_a g0_b 1 0 from (tk_1 (by omega) hq_4 hE9).1), (by first | omega | (dsimp only; omega)), (by first | omega | (dsimp only; omega))⟩) (hP.sub [0, 1, 2] rfl) (hD.sub [0, 1, 2] (by decide) rfl) dX4_next_255
            exact lp_5 _ g0_a H locs ls (by first | omega | (dsimp only; omega)) (by first | omega | (dsimp only; omega)) rfl (Nat.lt_succ_self _) (hP.sub [0, 1, 2] rfl) (hD.sub [0, 1, 2] (by decide) rfl) hS (lv_sub hl [0] rfl)
          ·
            refine lv_if_eq (tgt := 140) hx hb dX4_next_98 (by decide) (fun _ => ?_) (fun h9 => absurd h9 (by decide))
            refine lv_aload_n hx hb dX4_next_140 rfl (lv_at hl 0 rfl) ?_
            refine aft_i (wr := []) hP hD hS hA [0, 1, 2] [] rfl rfl (by decide) (by decide) (run_v (As := []) (rest := []) hFix hK hE hP hD [0, 1, 2] (k_X4_isDigitNext_f l D cs _ aR aT aD rt 0 rp rk rf tb ft g0_a g0_a nt (by first | assumption | decide | omega) (by first | assumption | decide | omega)) (cwV 0 hts gc_X4_next_208_X4_isDigitNext rfl rfl rfl (by decide +kernel) ⟨Nat.le_of_ble_eq_true rfl, Nat.le_of_ble_eq_true rfl⟩) rfl (by decide) rfl rfl rfl hl.1 rfl (Nat.le_of_ble_eq_true rfl) dX4_next_141 ⟨Nat.le_of_ble_eq_true rfl, Nat.le_of_ble_eq_true rfl⟩) (fun r_8 u_8 H locs hq_8 hP hD hS => ?_)
            have hP : va_P D vwCl [(aR, .inr (4, [.ref aT, .ref aD, .int rt, .int (nI g0_a), .int (nI g0_a), .int 0, .int rp, .int rk, .int rf])), (aT, .inr (7, [.ref tb, .int (nI nt)])), (tb, .inl (cs 0, 400, .inl ft))] H := hP
            have hD : va_D A [(aR, .inr (4, [.ref aT, .ref aD, .int rt, .int (nI g0_a), .int (nI g0_a), .int 0, .int rp, .int rk, .int rf])), (aT, .inr (7, [.ref tb, .int (nI nt)])), (tb, .inl (cs 0, 400, .inl ft))] := hD
            replace hq_8 : ((r_8 = 1 ∧ bD (ft g0_a) = true) ∨ (r_8 = 0 ∧ bD (ft g0_a) = false)) := hq_8
            rcases hq_8 with ⟨rfl, hq_8⟩ | ⟨rfl, hq_8⟩
            ·
              refine lv_if_eq (tgt := 219) hx hb dX4_next_144 (by decide) (fun h9 => absurd h9 (by decide)) (fun _ => ?_)
              refine lv_aload_n hx hb dX4_next_147 rfl (lv_at hl 0 rfl) ?_
              refine lv_iconst (v := 2) hx hb dX4_next_148 (by decide) ?_
              refine va_put (D := D) (ci := 4) (v := .int 2) (ty := .int) (C := RX4) (T := TX4) (N := 9) hx hb hts iuX4_next_X4 tyX4 tyX4_ok nmX4 hown hK hP hD hS 0 rfl rfl 2 (by decide) (htw (.fieldLink RX4 11 "MergeJudge$Reader" "token" "I") (List.mem_of_getElem? (i := 6) rfl)) (fun _ h9 => h9) rfl (by decide +kernel) rfl rfl (Nat.le_of_ble_eq_true rfl) dX4_next_149 (fun H locs hP hD hS => ?_)
              have hP : va_P D vwCl [(aR, .inr (4, [.ref aT, .ref aD, .int 2, .int (nI g0_a), .int (nI g0_a), .int 0, .int rp, .int rk, .int rf])), (aT, .inr (7, [.ref tb, .int (nI nt)])), (tb, .inl (cs 0, 400, .inl ft))] H := hP
              have hD : va_D A [(aR, .inr (4, [.ref aT, .ref aD, .int 2, .int (nI g0_a), .int (nI g0_a), .int 0, .int rp, .int rk, .int rf])), (aT, .inr (7, [.ref tb, .int (nI nt)])), (tb, .inl (cs 0, 400, .inl ft))] := hD
              have lp_9 : ∀ (nfu : Nat) (g0_c : Nat) (g1_c : Int32) (H : Heap) (locs : List Loc) (ls : Array Slot) (hw0_c : g0_c ≤ nt) (hw1_c : g0_a ≤ g0_c) (hw2_c : rnT bD ft nt g0_c = rnT bD ft nt g0_a) (hw3_c : g1_c = nI (min 1000 (dv ft g0_a (g0_c - g0_a)))), nt - g0_c < nfu → va_P D vwCl [(aR, .inr (4, [.ref aT, .ref aD, .int 2, .int (nI g0_a), .int (nI g0_c), .int g1_c, .int rp, .int rk, .int rf])), (aT, .inr (7, [.ref tb, .int (nI nt)])), (tb, .inl (cs 0, 400, .inl ft))] H → va_D A [(aR, .inr (4, [.ref aT, .ref aD, .int 2, .int (nI g0_a), .int (nI g0_c), .int g1_c, .int rp, .int rk, .int rf])), (aT, .inr (7, [.ref tb, .int (nI nt)])), (tb, .inl (cs 0, 400, .inl ft))] → va_S A s.heap H locs → lv_has ls 1 [(0, .ref aR)] → W p l e (mRm 1 0 0 20) s m ([.ref aR] : List Value).toArray below meth c H locs 0 0 (MQ below (va_Qv (fun (u : Int32 × Nat × Nat × Int32) => (u.2.1 = tS ft nt ra) ∧ (TKc ft nt u.2.1 u.2.2.1 u.1 u.2.2.2) ∧ (u.2.1 ≤ u.2.2.1) ∧ (u.2.2.1 ≤ nt)) (mpost D A (fun (u : Int32 × Nat × Nat × Int32) => [(aR, .inr (4, [.ref aT, .ref aD, .int u.1, .int (nI u.2.1), .int (nI u.2.2.1), .int u.2.2.2, .int rp, .int rk, .int rf])), (aT, .inr (7, [.ref tb, .int (nI nt)])), (tb, .inl (cs 0, 400, .inl ft))])) A) ([.ref aR] : List Value).toArray s 0 0 A) (F0 m 152 ls []) := by
                intro nfu
                induction nfu with
                | zero => intro g0_c g1_c H locs ls hw0_c hw1_c hw2_c hw3_c hmu; exact absurd hmu (Nat.not_lt_zero _)
                | succ nfu ih =>
                  intro g0_c g1_c H locs ls hw0_c hw1_c hw2_c hw3_c hmu hP hD hS hl
                  have ih_lp_9 := @ih
                  refine lv_aload_n hx hb dX4_next_152 rfl (lv_at hl 0 rfl) ?_
                  refine va_get (D := D) (ci := 4) (v := .int (nI g0_c)) (C := RX4) (T := TX4) (N := 9) hx hb hts iuX4_next_X4 hown hK hP 0 rfl rfl 4 (by decide) (htw (.fieldLink RX4 18 "MergeJudge$Reader" "at" "I") (List.mem_of_getElem? (i := 0) rfl)) (fun _ h9 => h9) rfl dX4_next_153 ?_
                  refine lv_aload_n hx hb dX4_next_156 rfl (lv_at hl 0 rfl) ?_
                  refine va_get (D := D) (ci := 4) (v := .ref aT) (C := RX4) (T := TX4) (N := 9) hx hb hts iuX4_next_X4 hown hK hP 0 rfl rfl 0 (by decide) (htw (.fieldLink RX4 33 "MergeJudge$Reader" "tape" "LMergeJudge$Tape;") (List.mem_of_getElem? (i := 1) rfl)) (fun _ h9 => h9) rfl dX4_next_157 ?_
                  refine va_get (D := D) (ci := 7) (v := .int (nI nt)) (C := RX7) (T := TX7) (N := 2) hx hb hts iuX4_next_X7 hown hK hP 1 rfl rfl 1 (by decide) (htw (.fieldLink RX4 196 "MergeJudge$Tape" "size" "I") (List.mem_of_getElem? (i := 2) rfl)) (fun _ h9 => h9) rfl dX4_next_160 ?_
                  refine lv_icmp_ge (tgt := 255) hx hb dX4_next_163 (by decide) (fun c_10 => ?_) (fun c_10 => ?_)
                  ·
                    have hn_10 := bge_t (a := g0_c) (b := nt) c_10 (by omega) (by omega)
                    have hE9 : g0_c = rnT bD ft nt g0_a := (rn_e (by omega)).symm.trans hw2_c
                    exact ret_v hx hb hr hlk hS (Nat.le_of_ble_eq_true rfl) (Nat.le_of_ble_eq_true rfl) (2, g0_a, g0_c, g1_c) (⟨hS9, (show TKc ft nt g0_a g0_c 2 g1_c from tk_2c (by omega) hq_4 hq_8 hE9 hw3_c), (by first | omega | (dsimp only; omega)), (by first | omega | (dsimp only; omega))⟩) (hP.sub [0, 1, 2] rfl) (hD.sub [0, 1, 2] (by decide) rfl) dX4_next_255
                  ·
                    have hn_10 := bge_f (a := g0_c) (b := nt) c_10 (by omega) (by omega)
                    refine lv_aload_n hx hb dX4_next_166 rfl (lv_at hl 0 rfl) ?_
                    refine aft_i (wr := []) hP hD hS hA [0, 1, 2] [] rfl rfl (by decide) (by decide) (run_v (As := []) (rest := []) hFix hK hE hP hD [0, 1, 2] (k_X4_isDigitNext_f l D cs _ aR aT aD 2 g1_c rp rk rf tb ft g0_a g0_c nt (by first | assumption | decide | omega) (by first | assumption | decide | omega)) (cwV 0 hts gc_X4_next_208_X4_isDigitNext rfl rfl rfl (by decide +kernel) ⟨Nat.le_of_ble_eq_true rfl, Nat.le_of_ble_eq_true rfl⟩) rfl (by decide) rfl rfl rfl hl.1 rfl (Nat.le_of_ble_eq_true rfl) dX4_next_167 ⟨Nat.le_of_ble_eq_true rfl, Nat.le_of_ble_eq_true rfl⟩) (fun r_11 u_11 H locs hq_11 hP hD hS => ?_)
                    have hP : va_P D vwCl [(aR, .inr (4, [.ref aT, .ref aD, .int 2, .int (nI g0_a), .int (nI g0_c), .int g1_c, .int rp, .int rk, .int rf])), (aT, .inr (7, [.ref tb, .int (nI nt)])), (tb, .inl (cs 0, 400, .inl ft))] H := hP
                    have hD : va_D A [(aR, .inr (4, [.ref aT, .ref aD, .int 2, .int (nI g0_a), .int (nI g0_c), .int g1_c, .int rp, .int rk, .int rf])), (aT, .inr (7, [.ref tb, .int (nI nt)])), (tb, .inl (cs 0, 400, .inl ft))] := hD
                    replace hq_11 : ((r_11 = 1 ∧ bD (ft g0_c) = true) ∨ (r_11 = 0 ∧ bD (ft g0_c) = false)) := hq_11
                    rcases hq_11 with ⟨rfl, hq_11⟩ | ⟨rfl, hq_11⟩
                    ·
                      refine lv_if_eq (tgt := 255) hx hb dX4_next_170 (by decide) (fun h9 => absurd h9 (by decide)) (fun _ => ?_)
                      refine lv_aload_n hx hb dX4_next_173 rfl (lv_at hl 0 rfl) ?_
                      refine lv_sipush (v := 1000) hx hb dX4_next_174 (by decide) ?_
                      refine lv_aload_n hx hb dX4_next_177 rfl (lv_at hl 0 rfl) ?_
                      refine va_get (D := D) (ci := 4) (v := .int g1_c) (C := RX4) (T := TX4) (N := 9) hx hb hts iuX4_next_X4 hown hK hP 0 rfl rfl 5 (by decide) (htw (.fieldLink RX4 21 "MergeJudge$Reader" "number" "I") (List.mem_of_getElem? (i := 5) rfl)) (fun _ h9 => h9) rfl dX4_next_178 ?_
                      refine lv_bipush (v := 10) hx hb dX4_next_181 (by decide) ?_
                      refine lv_imul hx hb dX4_next_183 ?_
                      refine lv_aload_n hx hb dX4_next_184 rfl (lv_at hl 0 rfl) ?_
                      refine va_get (D := D) (ci := 4) (v := .ref aT) (C := RX4) (T := TX4) (N := 9) hx hb hts iuX4_next_X4 hown hK hP 0 rfl rfl 0 (by decide) (htw (.fieldLink RX4 33 "MergeJudge$Reader" "tape" "LMergeJudge$Tape;") (List.mem_of_getElem? (i := 1) rfl)) (fun _ h9 => h9) rfl dX4_next_185 ?_
                      refine va_get (D := D) (ci := 7) (v := .ref tb) (C := RX7) (T := TX7) (N := 2) hx hb hts iuX4_next_X7 hown hK hP 1 rfl rfl 0 (by decide) (htw (.fieldLink RX4 201 "MergeJudge$Tape" "bytes" "[B") (List.mem_of_getElem? (i := 3) rfl)) (fun _ h9 => h9) rfl dX4_next_188 ?_
                      refine lv_aload_n hx hb dX4_next_191 rfl (lv_at hl 0 rfl) ?_
                      refine va_get (D := D) (ci := 4) (v := .int (nI g0_c)) (C := RX4) (T := TX4) (N := 9) hx hb hts iuX4_next_X4 hown hK hP 0 rfl rfl 4 (by decide) (htw (.fieldLink RX4 18 "MergeJudge$Reader" "at" "I") (List.mem_of_getElem? (i := 0) rfl)) (fun _ h9 => h9) rfl dX4_next_192 ?_
                      refine va_bald hx hb hK hP 2 0 rfl rfl (vp_in_nI (by omega) (by omega)) dX4_next_195 ?_
                      rw [nI_clamp (by omega)]
                      refine lv_iadd hx hb dX4_next_196 ?_
                      refine lv_bipush (v := 48) hx hb dX4_next_197 (by decide) ?_
                      refine lv_isub hx hb dX4_next_199 ?_
                      refine va_mmin hx hb (hml.trans hl.1.symm) hown (htw (.methodLink RX4 211 Lib.Math.min.name) (List.mem_of_getElem? (i := 14) rfl)) (htw (.static Lib.Math.min.name) (List.mem_of_getElem? (i := 15) rfl)) (htw (.initialized "java/lang/Math") (List.mem_of_getElem? (i := 16) rfl)) (htw (.code Lib.Math.min.name Lib.Math.min.code 2 (some .int)) (List.mem_of_getElem? (i := 17) rfl)) (Nat.le_of_ble_eq_true rfl) (Nat.le_of_ble_eq_true rfl) (Nat.le_of_ble_eq_true rfl) (Nat.le_of_ble_eq_true rfl) dX4_next_200 ?_
                      refine va_put (D := D) (ci := 4) (v := .int (if ((g1_c * (10 : Int32)) + (ft g0_c)) - (48 : Int32) < 1000 then ((g1_c * (10 : Int32)) + (ft g0_c)) - (48 : Int32) else 1000)) (ty := .int) (C := RX4) (T := TX4) (N := 9) hx hb hts iuX4_next_X4 tyX4 tyX4_ok nmX4 hown hK hP hD hS 0 rfl rfl 5 (by decide) (htw (.fieldLink RX4 21 "MergeJudge$Reader" "number" "I") (List.mem_of_getElem? (i := 5) rfl)) (fun _ h9 => h9) rfl (by decide +kernel) rfl rfl (Nat.le_of_ble_eq_true rfl) dX4_next_203 (fun H locs hP hD hS => ?_)
                      have hP : va_P D vwCl [(aR, .inr (4, [.ref aT, .ref aD, .int 2, .int (nI g0_a), .int (nI g0_c), .int (if ((g1_c * (10 : Int32)) + (ft g0_c)) - (48 : Int32) < 1000 then ((g1_c * (10 : Int32)) + (ft g0_c)) - (48 : Int32) else 1000), .int rp, .int rk, .int rf])), (aT, .inr (7, [.ref tb, .int (nI nt)])), (tb, .inl (cs 0, 400, .inl ft))] H := hP
                      have hD : va_D A [(aR, .inr (4, [.ref aT, .ref aD, .int 2, .int (nI g0_a), .int (nI g0_c), .int (if ((g1_c * (10 : Int32)) + (ft g0_c)) - (48 : Int32) < 1000 then ((g1_c * (10 : Int32)) + (ft g0_c)) - (48 : Int32) else 1000), .int rp, .int rk, .int rf])), (aT, .inr (7, [.ref tb, .int (nI nt)])), (tb, .inl (cs 0, 400, .inl ft))] := hD
                      refine lv_aload_n hx hb dX4_next_206 rfl (lv_at hl 0 rfl) ?_
                      refine lv_dup hx hb dX4_next_207 rfl ?_
                      refine va_get (D := D) (ci := 4) (v := .int (nI g0_c)) (C := RX4) (T := TX4) (N := 9) hx hb hts iuX4_next_X4 hown hK hP 0 rfl rfl 4 (by decide) (htw (.fieldLink RX4 18 "MergeJudge$Reader" "at" "I") (List.mem_of_getElem? (i := 0) rfl)) (fun _ h9 => h9) rfl dX4_next_208 ?_
                      refine lv_iconst (v := 1) hx hb dX4_next_211 (by decide) ?_
                      refine lv_iadd hx hb dX4_next_212 ?_
                      refine cf_i (nI (g0_c + 1)) (nI_add g0_c 1) ?_
                      refine va_put (D := D) (ci := 4) (v := .int (nI (g0_c + 1))) (ty := .int) (C := RX4) (T := TX4) (N := 9) hx hb hts iuX4_next_X4 tyX4 tyX4_ok nmX4 hown hK hP hD hS 0 rfl rfl 4 (by decide) (htw (.fieldLink RX4 18 "MergeJudge$Reader" "at" "I") (List.mem_of_getElem? (i := 0) rfl)) (fun _ h9 => h9) rfl (by decide +kernel) rfl rfl (Nat.le_of_ble_eq_true rfl) dX4_next_213 (fun H locs hP hD hS => ?_)
                      have hP : va_P D vwCl [(aR, .inr (4, [.ref aT, .ref aD, .int 2, .int (nI g0_a), .int (nI (g0_c + 1)), .int (if ((g1_c * (10 : Int32)) + (ft g0_c)) - (48 : Int32) < 1000 then ((g1_c * (10 : Int32)) + (ft g0_c)) - (48 : Int32) else 1000), .int rp, .int rk, .int rf])), (aT, .inr (7, [.ref tb, .int (nI nt)])), (tb, .inl (cs 0, 400, .inl ft))] H := hP
                      have hD : va_D A [(aR, .inr (4, [.ref aT, .ref aD, .int 2, .int (nI g0_a), .int (nI (g0_c + 1)), .int (if ((g1_c * (10 : Int32)) + (ft g0_c)) - (48 : Int32) < 1000 then ((g1_c * (10 : Int32)) + (ft g0_c)) - (48 : Int32) else 1000), .int rp, .int rk, .int rf])), (aT, .inr (7, [.ref tb, .int (nI nt)])), (tb, .inl (cs 0, 400, .inl ft))] := hD
                      refine lv_goto (tgt := 152) hx hb dX4_next_216 (by decide) ?_
                      exact ih_lp_9 (g0_c + 1) (if ((g1_c * (10 : Int32)) + (ft g0_c)) - (48 : Int32) < 1000 then ((g1_c * (10 : Int32)) + (ft g0_c)) - (48 : Int32) else 1000) H locs ls (by first | omega | (dsimp only; omega)) (by first | omega | (dsimp only; omega)) ((rn_y (by omega) hq_11).symm.trans hw2_c) (by rw [dvs_s (by omega)]; exact cap_c1 hw3_c hq_11) (by omega) (hP.sub [0, 1, 2] rfl) (hD.sub [0, 1, 2] (by decide) rfl) hS (lv_sub hl [0] rfl)
                    ·
                      refine lv_if_eq (tgt := 255) hx hb dX4_next_170 (by decide) (fun _ => ?_) (fun h9 => absurd h9 (by decide))
                      have hE9 : g0_c = rnT bD ft nt g0_a := (rn_n hq_11).symm.trans hw2_c
                      exact ret_v hx hb hr hlk hS (Nat.le_of_ble_eq_true rfl) (Nat.le_of_ble_eq_true rfl) (2, g0_a, g0_c, g1_c) (⟨hS9, (show TKc ft nt g0_a g0_c 2 g1_c from tk_2c (by omega) hq_4 hq_8 hE9 hw3_c), (by first | omega | (dsimp only; omega)), (by first | omega | (dsimp only; omega))⟩) (hP.sub [0, 1, 2] rfl) (hD.sub [0, 1, 2] (by decide) rfl) dX4_next_255
              exact lp_9 _ g0_a 0 H locs ls (by first | omega | (dsimp only; omega)) (by first | omega | (dsimp only; omega)) rfl (by rw [Nat.sub_self]; rfl) (Nat.lt_succ_self _) (hP.sub [0, 1, 2] rfl) (hD.sub [0, 1, 2] (by decide) rfl) hS (lv_sub hl [0] rfl)
            ·
              refine lv_if_eq (tgt := 219) hx hb dX4_next_144 (by decide) (fun _ => ?_) (fun h9 => absurd h9 (by decide))
              refine lv_aload_n hx hb dX4_next_219 rfl (lv_at hl 0 rfl) ?_
              refine lv_aload_n hx hb dX4_next_220 rfl (lv_at hl 0 rfl) ?_
              refine va_get (D := D) (ci := 4) (v := .ref aT) (C := RX4) (T := TX4) (N := 9) hx hb hts iuX4_next_X4 hown hK hP 0 rfl rfl 0 (by decide) (htw (.fieldLink RX4 33 "MergeJudge$Reader" "tape" "LMergeJudge$Tape;") (List.mem_of_getElem? (i := 1) rfl)) (fun _ h9 => h9) rfl dX4_next_221 ?_
              refine va_get (D := D) (ci := 7) (v := .ref tb) (C := RX7) (T := TX7) (N := 2) hx hb hts iuX4_next_X7 hown hK hP 1 rfl rfl 0 (by decide) (htw (.fieldLink RX4 201 "MergeJudge$Tape" "bytes" "[B") (List.mem_of_getElem? (i := 3) rfl)) (fun _ h9 => h9) rfl dX4_next_224 ?_
              refine lv_aload_n hx hb dX4_next_227 rfl (lv_at hl 0 rfl) ?_
              refine va_get (D := D) (ci := 4) (v := .int (nI g0_a)) (C := RX4) (T := TX4) (N := 9) hx hb hts iuX4_next_X4 hown hK hP 0 rfl rfl 4 (by decide) (htw (.fieldLink RX4 18 "MergeJudge$Reader" "at" "I") (List.mem_of_getElem? (i := 0) rfl)) (fun _ h9 => h9) rfl dX4_next_228 ?_
              refine va_bald hx hb hK hP 2 0 rfl rfl (vp_in_nI (by omega) (by omega)) dX4_next_231 ?_
              rw [nI_clamp (by omega)]
              refine lv_bipush (v := 59) hx hb dX4_next_232 (by decide) ?_
              refine lv_icmp_ne (tgt := 241) hx hb dX4_next_234 (by decide) (fun c_12 => ?_) (fun c_12 => ?_)
              ·
                refine lv_iconst (v := 4) hx hb dX4_next_241 (by decide) ?_
                refine va_put (D := D) (ci := 4) (v := .int 4) (ty := .int) (C := RX4) (T := TX4) (N := 9) hx hb hts iuX4_next_X4 tyX4 tyX4_ok nmX4 hown hK hP hD hS 0 rfl rfl 2 (by decide) (htw (.fieldLink RX4 11 "MergeJudge$Reader" "token" "I") (List.mem_of_getElem? (i := 6) rfl)) (fun _ h9 => h9) rfl (by decide +kernel) rfl rfl (Nat.le_of_ble_eq_true rfl) dX4_next_242 (fun H locs hP hD hS => ?_)
                have hP : va_P D vwCl [(aR, .inr (4, [.ref aT, .ref aD, .int 4, .int (nI g0_a), .int (nI g0_a), .int 0, .int rp, .int rk, .int rf])), (aT, .inr (7, [.ref tb, .int (nI nt)])), (tb, .inl (cs 0, 400, .inl ft))] H := hP
                have hD : va_D A [(aR, .inr (4, [.ref aT, .ref aD, .int 4, .int (nI g0_a), .int (nI g0_a), .int 0, .int rp, .int rk, .int rf])), (aT, .inr (7, [.ref tb, .int (nI nt)])), (tb, .inl (cs 0, 400, .inl ft))] := hD
                refine lv_aload_n hx hb dX4_next_245 rfl (lv_at hl 0 rfl) ?_
                refine lv_dup hx hb dX4_next_246 rfl ?_
                refine va_get (D := D) (ci := 4) (v := .int (nI g0_a)) (C := RX4) (T := TX4) (N := 9) hx hb hts iuX4_next_X4 hown hK hP 0 rfl rfl 4 (by decide) (htw (.fieldLink RX4 18 "MergeJudge$Reader" "at" "I") (List.mem_of_getElem? (i := 0) rfl)) (fun _ h9 => h9) rfl dX4_next_247 ?_
                refine lv_iconst (v := 1) hx hb dX4_next_250 (by decide) ?_
                refine lv_iadd hx hb dX4_next_251 ?_
                refine cf_i (nI (g0_a + 1)) (nI_add g0_a 1) ?_
                refine va_put (D := D) (ci := 4) (v := .int (nI (g0_a + 1))) (ty := .int) (C := RX4) (T := TX4) (N := 9) hx hb hts iuX4_next_X4 tyX4 tyX4_ok nmX4 hown hK hP hD hS 0 rfl rfl 4 (by decide) (htw (.fieldLink RX4 18 "MergeJudge$Reader" "at" "I") (List.mem_of_getElem? (i := 0) rfl)) (fun _ h9 => h9) rfl (by decide +kernel) rfl rfl (Nat.le_of_ble_eq_true rfl) dX4_next_252 (fun H locs hP hD hS => ?_)
                have hP : va_P D vwCl [(aR, .inr (4, [.ref aT, .ref aD, .int 4, .int (nI g0_a), .int (nI (g0_a + 1)), .int 0, .int rp, .int rk, .int rf])), (aT, .inr (7, [.ref tb, .int (nI nt)])), (tb, .inl (cs 0, 400, .inl ft))] H := hP
                have hD : va_D A [(aR, .inr (4, [.ref aT, .ref aD, .int 4, .int (nI g0_a), .int (nI (g0_a + 1)), .int 0, .int rp, .int rk, .int rf])), (aT, .inr (7, [.ref tb, .int (nI nt)])), (tb, .inl (cs 0, 400, .inl ft))] := hD
                exact ret_v hx hb hr hlk hS (Nat.le_of_ble_eq_true rfl) (Nat.le_of_ble_eq_true rfl) (4, g0_a, g0_a + 1, 0) (⟨hS9, (show TKc ft nt g0_a (g0_a + 1) 4 0 from (tk_4 (by omega) hq_4 hq_8 c_12).1), (by first | omega | (dsimp only; omega)), (by first | omega | (dsimp only; omega))⟩) (hP.sub [0, 1, 2] rfl) (hD.sub [0, 1, 2] (by decide) rfl) dX4_next_255
              ·
                refine lv_iconst (v := 3) hx hb dX4_next_237 (by decide) ?_
                refine lv_goto (tgt := 242) hx hb dX4_next_238 (by decide) ?_
                refine va_put (D := D) (ci := 4) (v := .int 3) (ty := .int) (C := RX4) (T := TX4) (N := 9) hx hb hts iuX4_next_X4 tyX4 tyX4_ok nmX4 hown hK hP hD hS 0 rfl rfl 2 (by decide) (htw (.fieldLink RX4 11 "MergeJudge$Reader" "token" "I") (List.mem_of_getElem? (i := 6) rfl)) (fun _ h9 => h9) rfl (by decide +kernel) rfl rfl (Nat.le_of_ble_eq_true rfl) dX4_next_242 (fun H locs hP hD hS => ?_)
                have hP : va_P D vwCl [(aR, .inr (4, [.ref aT, .ref aD, .int 3, .int (nI g0_a), .int (nI g0_a), .int 0, .int rp, .int rk, .int rf])), (aT, .inr (7, [.ref tb, .int (nI nt)])), (tb, .inl (cs 0, 400, .inl ft))] H := hP
                have hD : va_D A [(aR, .inr (4, [.ref aT, .ref aD, .int 3, .int (nI g0_a), .int (nI g0_a), .int 0, .int rp, .int rk, .int rf])), (aT, .inr (7, [.ref tb, .int (nI nt)])), (tb, .inl (cs 0, 400, .inl ft))] := hD
                refine lv_aload_n hx hb dX4_next_245 rfl (lv_at hl 0 rfl) ?_
                refine lv_dup hx hb dX4_next_246 rfl ?_
                refine va_get (D := D) (ci := 4) (v := .int (nI g0_a)) (C := RX4) (T := TX4) (N := 9) hx hb hts iuX4_next_X4 hown hK hP 0 rfl rfl 4 (by decide) (htw (.fieldLink RX4 18 "MergeJudge$Reader" "at" "I") (List.mem_of_getElem? (i := 0) rfl)) (fun _ h9 => h9) rfl dX4_next_247 ?_
                refine lv_iconst (v := 1) hx hb dX4_next_250 (by decide) ?_
                refine lv_iadd hx hb dX4_next_251 ?_
                refine cf_i (nI (g0_a + 1)) (nI_add g0_a 1) ?_
                refine va_put (D := D) (ci := 4) (v := .int (nI (g0_a + 1))) (ty := .int) (C := RX4) (T := TX4) (N := 9) hx hb hts iuX4_next_X4 tyX4 tyX4_ok nmX4 hown hK hP hD hS 0 rfl rfl 4 (by decide) (htw (.fieldLink RX4 18 "MergeJudge$Reader" "at" "I") (List.mem_of_getElem? (i := 0) rfl)) (fun _ h9 => h9) rfl (by decide +kernel) rfl rfl (Nat.le_of_ble_eq_true rfl) dX4_next_252 (fun H locs hP hD hS => ?_)
                have hP : va_P D vwCl [(aR, .inr (4, [.ref aT, .ref aD, .int 3, .int (nI g0_a), .int (nI (g0_a + 1)), .int 0, .int rp, .int rk, .int rf])), (aT, .inr (7, [.ref tb, .int (nI nt)])), (tb, .inl (cs 0, 400, .inl ft))] H := hP
                have hD : va_D A [(aR, .inr (4, [.ref aT, .ref aD, .int 3, .int (nI g0_a), .int (nI (g0_a + 1)), .int 0, .int rp, .int rk, .int rf])), (aT, .inr (7, [.ref tb, .int (nI nt)])), (tb, .inl (cs 0, 400, .inl ft))] := hD
                exact ret_v hx hb hr hlk hS (Nat.le_of_ble_eq_true rfl) (Nat.le_of_ble_eq_true rfl) (3, g0_a, g0_a + 1, 0) (⟨hS9, (show TKc ft nt g0_a (g0_a + 1) 3 0 from (tk_3 (by omega) hq_4 hq_8 c_12).1), (by first | omega | (dsimp only; omega)), (by first | omega | (dsimp only; omega))⟩) (hP.sub [0, 1, 2] rfl) (hD.sub [0, 1, 2] (by decide) rfl) dX4_next_255
        ·
          have hn_3 := blt_f (a := g0_a) (b := nt) c_3 (by omega) (by omega)
          refine lv_aload_n hx hb dX4_next_88 rfl (lv_at hl 0 rfl) ?_
          refine lv_iconst (v := 0) hx hb dX4_next_89 (by decide) ?_
          refine va_put (D := D) (ci := 4) (v := .int 0) (ty := .int) (C := RX4) (T := TX4) (N := 9) hx hb hts iuX4_next_X4 tyX4 tyX4_ok nmX4 hown hK hP hD hS 0 rfl rfl 2 (by decide) (htw (.fieldLink RX4 11 "MergeJudge$Reader" "token" "I") (List.mem_of_getElem? (i := 6) rfl)) (fun _ h9 => h9) rfl (by decide +kernel) rfl rfl (Nat.le_of_ble_eq_true rfl) dX4_next_90 (fun H locs hP hD hS => ?_)
          have hP : va_P D vwCl [(aR, .inr (4, [.ref aT, .ref aD, .int 0, .int (nI g0_a), .int (nI g0_a), .int 0, .int rp, .int rk, .int rf])), (aT, .inr (7, [.ref tb, .int (nI nt)])), (tb, .inl (cs 0, 400, .inl ft))] H := hP
          have hD : va_D A [(aR, .inr (4, [.ref aT, .ref aD, .int 0, .int (nI g0_a), .int (nI g0_a), .int 0, .int rp, .int rk, .int rf])), (aT, .inr (7, [.ref tb, .int (nI nt)])), (tb, .inl (cs 0, 400, .inl ft))] := hD
          exact ret_v hx hb hr hlk hS (Nat.le_of_ble_eq_true rfl) (Nat.le_of_ble_eq_true rfl) (0, g0_a, g0_a, 0) (⟨hS9, (show TKc ft nt g0_a g0_a 0 0 from (tk_0 (by omega)).1), (by first | omega | (dsimp only; omega)), (by first | omega | (dsimp only; omega))⟩) (hP.sub [0, 1, 2] rfl) (hD.sub [0, 1, 2] (by decide) rfl) dX4_next_93
      ·
        have hn_2 := bge_f (a := g0_a) (b := nt) c_2 (by omega) (by omega)
        refine lv_aload_n hx hb dX4_next_14 rfl (lv_at hl 0 rfl) ?_
        refine va_get (D := D) (ci := 4) (v := .ref aT) (C := RX4) (T := TX4) (N := 9) hx hb hts iuX4_next_X4 hown hK hP 0 rfl rfl 0 (by decide) (htw (.fieldLink RX4 33 "MergeJudge$Reader" "tape" "LMergeJudge$Tape;") (List.mem_of_getElem? (i := 1) rfl)) (fun _ h9 => h9) rfl dX4_next_15 ?_
        refine va_get (D := D) (ci := 7) (v := .ref tb) (C := RX7) (T := TX7) (N := 2) hx hb hts iuX4_next_X7 hown hK hP 1 rfl rfl 0 (by decide) (htw (.fieldLink RX4 201 "MergeJudge$Tape" "bytes" "[B") (List.mem_of_getElem? (i := 3) rfl)) (fun _ h9 => h9) rfl dX4_next_18 ?_
        refine lv_aload_n hx hb dX4_next_21 rfl (lv_at hl 0 rfl) ?_
        refine va_get (D := D) (ci := 4) (v := .int (nI g0_a)) (C := RX4) (T := TX4) (N := 9) hx hb hts iuX4_next_X4 hown hK hP 0 rfl rfl 4 (by decide) (htw (.fieldLink RX4 18 "MergeJudge$Reader" "at" "I") (List.mem_of_getElem? (i := 0) rfl)) (fun _ h9 => h9) rfl dX4_next_22 ?_
        refine va_bald hx hb hK hP 2 0 rfl rfl (vp_in_nI (by omega) (by omega)) dX4_next_25 ?_
        rw [nI_clamp (by omega)]
        refine lv_bipush (v := 32) hx hb dX4_next_26 (by decide) ?_
        refine lv_icmp_eq (tgt := 48) hx hb dX4_next_28 (by decide) (fun c_13 => ?_) (fun c_13 => ?_)
        ·
          refine lv_aload_n hx hb dX4_next_48 rfl (lv_at hl 0 rfl) ?_
          refine lv_dup hx hb dX4_next_49 rfl ?_
          refine va_get (D := D) (ci := 4) (v := .int (nI g0_a)) (C := RX4) (T := TX4) (N := 9) hx hb hts iuX4_next_X4 hown hK hP 0 rfl rfl 4 (by decide) (htw (.fieldLink RX4 18 "MergeJudge$Reader" "at" "I") (List.mem_of_getElem? (i := 0) rfl)) (fun _ h9 => h9) rfl dX4_next_50 ?_
          refine lv_iconst (v := 1) hx hb dX4_next_53 (by decide) ?_
          refine lv_iadd hx hb dX4_next_54 ?_
          refine cf_i (nI (g0_a + 1)) (nI_add g0_a 1) ?_
          refine va_put (D := D) (ci := 4) (v := .int (nI (g0_a + 1))) (ty := .int) (C := RX4) (T := TX4) (N := 9) hx hb hts iuX4_next_X4 tyX4 tyX4_ok nmX4 hown hK hP hD hS 0 rfl rfl 4 (by decide) (htw (.fieldLink RX4 18 "MergeJudge$Reader" "at" "I") (List.mem_of_getElem? (i := 0) rfl)) (fun _ h9 => h9) rfl (by decide +kernel) rfl rfl (Nat.le_of_ble_eq_true rfl) dX4_next_55 (fun H locs hP hD hS => ?_)
          have hP : va_P D vwCl [(aR, .inr (4, [.ref aT, .ref aD, .int rt, .int (nI rs), .int (nI (g0_a + 1)), .int rn, .int rp, .int rk, .int rf])), (aT, .inr (7, [.ref tb, .int (nI nt)])), (tb, .inl (cs 0, 400, .inl ft))] H := hP
          have hD : va_D A [(aR, .inr (4, [.ref aT, .ref aD, .int rt, .int (nI rs), .int (nI (g0_a + 1)), .int rn, .int rp, .int rk, .int rf])), (aT, .inr (7, [.ref tb, .int (nI nt)])), (tb, .inl (cs 0, 400, .inl ft))] := hD
          refine lv_goto (tgt := 0) hx hb dX4_next_58 (by decide) ?_
          exact ih_lp_1 (g0_a + 1) H locs ls (by first | omega | (dsimp only; omega)) ((rn_y (by omega) (bS_y (Or.inl c_13))).symm.trans hw1_a) (by omega) (hP.sub [0, 1, 2] rfl) (hD.sub [0, 1, 2] (by decide) rfl) hS (lv_sub hl [0] rfl)
        ·
          refine lv_aload_n hx hb dX4_next_31 rfl (lv_at hl 0 rfl) ?_
          refine va_get (D := D) (ci := 4) (v := .ref aT) (C := RX4) (T := TX4) (N := 9) hx hb hts iuX4_next_X4 hown hK hP 0 rfl rfl 0 (by decide) (htw (.fieldLink RX4 33 "MergeJudge$Reader" "tape" "LMergeJudge$Tape;") (List.mem_of_getElem? (i := 1) rfl)) (fun _ h9 => h9) rfl dX4_next_32 ?_
          refine va_get (D := D) (ci := 7) (v := .ref tb) (C := RX7) (T := TX7) (N := 2) hx hb hts iuX4_next_X7 hown hK hP 1 rfl rfl 0 (by decide) (htw (.fieldLink RX4 201 "MergeJudge$Tape" "bytes" "[B") (List.mem_of_getElem? (i := 3) rfl)) (fun _ h9 => h9) rfl dX4_next_35 ?_
          refine lv_aload_n hx hb dX4_next_38 rfl (lv_at hl 0 rfl) ?_
          refine va_get (D := D) (ci := 4) (v := .int (nI g0_a)) (C := RX4) (T := TX4) (N := 9) hx hb hts iuX4_next_X4 hown hK hP 0 rfl rfl 4 (by decide) (htw (.fieldLink RX4 18 "MergeJudge$Reader" "at" "I") (List.mem_of_getElem? (i := 0) rfl)) (fun _ h9 => h9) rfl dX4_next_39 ?_
          refine va_bald hx hb hK hP 2 0 rfl rfl (vp_in_nI (by omega) (by omega)) dX4_next_42 ?_
          rw [nI_clamp (by omega)]
          refine lv_bipush (v := 10) hx hb dX4_next_43 (by decide) ?_
          refine lv_icmp_ne (tgt := 61) hx hb dX4_next_45 (by decide) (fun c_14 => ?_) (fun c_14 => ?_)
          ·
            have hS9 : g0_a = tS ft nt ra := (rn_n (bS_n c_13 c_14)).symm.trans hw1_a
            refine lv_aload_n hx hb dX4_next_61 rfl (lv_at hl 0 rfl) ?_
            refine lv_aload_n hx hb dX4_next_62 rfl (lv_at hl 0 rfl) ?_
            refine va_get (D := D) (ci := 4) (v := .int (nI g0_a)) (C := RX4) (T := TX4) (N := 9) hx hb hts iuX4_next_X4 hown hK hP 0 rfl rfl 4 (by decide) (htw (.fieldLink RX4 18 "MergeJudge$Reader" "at" "I") (List.mem_of_getElem? (i := 0) rfl)) (fun _ h9 => h9) rfl dX4_next_63 ?_
            refine va_put (D := D) (ci := 4) (v := .int (nI g0_a)) (ty := .int) (C := RX4) (T := TX4) (N := 9) hx hb hts iuX4_next_X4 tyX4 tyX4_ok nmX4 hown hK hP hD hS 0 rfl rfl 3 (by decide) (htw (.fieldLink RX4 15 "MergeJudge$Reader" "start" "I") (List.mem_of_getElem? (i := 4) rfl)) (fun _ h9 => h9) rfl (by decide +kernel) rfl rfl (Nat.le_of_ble_eq_true rfl) dX4_next_66 (fun H locs hP hD hS => ?_)
            have hP : va_P D vwCl [(aR, .inr (4, [.ref aT, .ref aD, .int rt, .int (nI g0_a), .int (nI g0_a), .int rn, .int rp, .int rk, .int rf])), (aT, .inr (7, [.ref tb, .int (nI nt)])), (tb, .inl (cs 0, 400, .inl ft))] H := hP
            have hD : va_D A [(aR, .inr (4, [.ref aT, .ref aD, .int rt, .int (nI g0_a), .int (nI g0_a), .int rn, .int rp, .int rk, .int rf])), (aT, .inr (7, [.ref tb, .int (nI nt)])), (tb, .inl (cs 0, 400, .inl ft))] := hD
            refine lv_aload_n hx hb dX4_next_69 rfl (lv_at hl 0 rfl) ?_
            refine lv_iconst (v := 0) hx hb dX4_next_70 (by decide) ?_
            refine va_put (D := D) (ci := 4) (v := .int 0) (ty := .int) (C := RX4) (T := TX4) (N := 9) hx hb hts iuX4_next_X4 tyX4 tyX4_ok nmX4 hown hK hP hD hS 0 rfl rfl 5 (by decide) (htw (.fieldLink RX4 21 "MergeJudge$Reader" "number" "I") (List.mem_of_getElem? (i := 5) rfl)) (fun _ h9 => h9) rfl (by decide +kernel) rfl rfl (Nat.le_of_ble_eq_true rfl) dX4_next_71 (fun H locs hP hD hS => ?_)
            have hP : va_P D vwCl [(aR, .inr (4, [.ref aT, .ref aD, .int rt, .int (nI g0_a), .int (nI g0_a), .int 0, .int rp, .int rk, .int rf])), (aT, .inr (7, [.ref tb, .int (nI nt)])), (tb, .inl (cs 0, 400, .inl ft))] H := hP
            have hD : va_D A [(aR, .inr (4, [.ref aT, .ref aD, .int rt, .int (nI g0_a), .int (nI g0_a), .int 0, .int rp, .int rk, .int rf])), (aT, .inr (7, [.ref tb, .int (nI nt)])), (tb, .inl (cs 0, 400, .inl ft))] := hD
            refine lv_aload_n hx hb dX4_next_74 rfl (lv_at hl 0 rfl) ?_
            refine va_get (D := D) (ci := 4) (v := .int (nI g0_a)) (C := RX4) (T := TX4) (N := 9) hx hb hts iuX4_next_X4 hown hK hP 0 rfl rfl 4 (by decide) (htw (.fieldLink RX4 18 "MergeJudge$Reader" "at" "I") (List.mem_of_getElem? (i := 0) rfl)) (fun _ h9 => h9) rfl dX4_next_75 ?_
            refine lv_aload_n hx hb dX4_next_78 rfl (lv_at hl 0 rfl) ?_
            refine va_get (D := D) (ci := 4) (v := .ref aT) (C := RX4) (T := TX4) (N := 9) hx hb hts iuX4_next_X4 hown hK hP 0 rfl rfl 0 (by decide) (htw (.fieldLink RX4 33 "MergeJudge$Reader" "tape" "LMergeJudge$Tape;") (List.mem_of_getElem? (i := 1) rfl)) (fun _ h9 => h9) rfl dX4_next_79 ?_
            refine va_get (D := D) (ci := 7) (v := .int (nI nt)) (C := RX7) (T := TX7) (N := 2) hx hb hts iuX4_next_X7 hown hK hP 1 rfl rfl 1 (by decide) (htw (.fieldLink RX4 196 "MergeJudge$Tape" "size" "I") (List.mem_of_getElem? (i := 2) rfl)) (fun _ h9 => h9) rfl dX4_next_82 ?_
            refine lv_icmp_lt (tgt := 94) hx hb dX4_next_85 (by decide) (fun c_15 => ?_) (fun c_15 => ?_)
            ·
              have hn_15 := blt_t (a := g0_a) (b := nt) c_15 (by omega) (by omega)
              refine lv_aload_n hx hb dX4_next_94 rfl (lv_at hl 0 rfl) ?_
              refine aft_i (wr := []) hP hD hS hA [0, 1, 2] [] rfl rfl (by decide) (by decide) (run_v (As := []) (rest := []) hFix hK hE hP hD [0, 1, 2] (k_X4_isLetterNext_f l D cs _ aR aT aD rt 0 rp rk rf tb ft g0_a g0_a nt (by first | assumption | decide | omega) (by first | assumption | decide | omega)) (cwV 0 hts gc_X4_next_205_X4_isLetterNext rfl rfl rfl (by decide +kernel) ⟨Nat.le_of_ble_eq_true rfl, Nat.le_of_ble_eq_true rfl⟩) rfl (by decide) rfl rfl rfl hl.1 rfl (Nat.le_of_ble_eq_true rfl) dX4_next_95 ⟨Nat.le_of_ble_eq_true rfl, Nat.le_of_ble_eq_true rfl⟩) (fun r_16 u_16 H locs hq_16 hP hD hS => ?_)
              have hP : va_P D vwCl [(aR, .inr (4, [.ref aT, .ref aD, .int rt, .int (nI g0_a), .int (nI g0_a), .int 0, .int rp, .int rk, .int rf])), (aT, .inr (7, [.ref tb, .int (nI nt)])), (tb, .inl (cs 0, 400, .inl ft))] H := hP
              have hD : va_D A [(aR, .inr (4, [.ref aT, .ref aD, .int rt, .int (nI g0_a), .int (nI g0_a), .int 0, .int rp, .int rk, .int rf])), (aT, .inr (7, [.ref tb, .int (nI nt)])), (tb, .inl (cs 0, 400, .inl ft))] := hD
              replace hq_16 : ((r_16 = 1 ∧ bL (ft g0_a) = true) ∨ (r_16 = 0 ∧ bL (ft g0_a) = false)) := hq_16
              rcases hq_16 with ⟨rfl, hq_16⟩ | ⟨rfl, hq_16⟩
              ·
                refine lv_if_eq (tgt := 140) hx hb dX4_next_98 (by decide) (fun h9 => absurd h9 (by decide)) (fun _ => ?_)
                refine lv_aload_n hx hb dX4_next_101 rfl (lv_at hl 0 rfl) ?_
                refine lv_iconst (v := 1) hx hb dX4_next_102 (by decide) ?_
                refine va_put (D := D) (ci := 4) (v := .int 1) (ty := .int) (C := RX4) (T := TX4) (N := 9) hx hb hts iuX4_next_X4 tyX4 tyX4_ok nmX4 hown hK hP hD hS 0 rfl rfl 2 (by decide) (htw (.fieldLink RX4 11 "MergeJudge$Reader" "token" "I") (List.mem_of_getElem? (i := 6) rfl)) (fun _ h9 => h9) rfl (by decide +kernel) rfl rfl (Nat.le_of_ble_eq_true rfl) dX4_next_103 (fun H locs hP hD hS => ?_)
                have hP : va_P D vwCl [(aR, .inr (4, [.ref aT, .ref aD, .int 1, .int (nI g0_a), .int (nI g0_a), .int 0, .int rp, .int rk, .int rf])), (aT, .inr (7, [.ref tb, .int (nI nt)])), (tb, .inl (cs 0, 400, .inl ft))] H := hP
                have hD : va_D A [(aR, .inr (4, [.ref aT, .ref aD, .int 1, .int (nI g0_a), .int (nI g0_a), .int 0, .int rp, .int rk, .int rf])), (aT, .inr (7, [.ref tb, .int (nI nt)])), (tb, .inl (cs 0, 400, .inl ft))] := hD
                have lp_17 : ∀ (nfu : Nat) (g0_b : Nat) (H : Heap) (locs : List Loc) (ls : Array Slot) (hw0_b : g0_b ≤ nt) (hw1_b : g0_a ≤ g0_b) (hw2_b : rnT bL ft nt g0_b = rnT bL ft nt g0_a), nt - g0_b < nfu → va_P D vwCl [(aR, .inr (4, [.ref aT, .ref aD, .int 1, .int (nI g0_a), .int (nI g0_b), .int 0, .int rp, .int rk, .int rf])), (aT, .inr (7, [.ref tb, .int (nI nt)])), (tb, .inl (cs 0, 400, .inl ft))] H → va_D A [(aR, .inr (4, [.ref aT, .ref aD, .int 1, .int (nI g0_a), .int (nI g0_b), .int 0, .int rp, .int rk, .int rf])), (aT, .inr (7, [.ref tb, .int (nI nt)])), (tb, .inl (cs 0, 400, .inl ft))] → va_S A s.heap H locs → lv_has ls 1 [(0, .ref aR)] → W p l e (mRm 1 0 0 20) s m ([.ref aR] : List Value).toArray below meth c H locs 0 0 (MQ below (va_Qv (fun (u : Int32 × Nat × Nat × Int32) => (u.2.1 = tS ft nt ra) ∧ (TKc ft nt u.2.1 u.2.2.1 u.1 u.2.2.2) ∧ (u.2.1 ≤ u.2.2.1) ∧ (u.2.2.1 ≤ nt)) (mpost D A (fun (u : Int32 × Nat × Nat × Int32) => [(aR, .inr (4, [.ref aT, .ref aD, .int u.1, .int (nI u.2.1), .int (nI u.2.2.1), .int u.2.2.2, .int rp, .int rk, .int rf])), (aT, .inr (7, [.ref tb, .int (nI nt)])), (tb, .inl (cs 0, 400, .inl ft))])) A) ([.ref aR] : List Value).toArray s 0 0 A) (F0 m 106 ls []) := by
                  intro nfu
                  induction nfu with
                  | zero => intro g0_b H locs ls hw0_b hw1_b hw2_b hmu; exact absurd hmu (Nat.not_lt_zero _)
                  | succ nfu ih =>
                    intro g0_b H locs ls hw0_b hw1_b hw2_b hmu hP hD hS hl
                    have ih_lp_17 := @ih
                    refine lv_aload_n hx hb dX4_next_106 rfl (lv_at hl 0 rfl) ?_
                    refine va_get (D := D) (ci := 4) (v := .int (nI g0_b)) (C := RX4) (T := TX4) (N := 9) hx hb hts iuX4_next_X4 hown hK hP 0 rfl rfl 4 (by decide) (htw (.fieldLink RX4 18 "MergeJudge$Reader" "at" "I") (List.mem_of_getElem? (i := 0) rfl)) (fun _ h9 => h9) rfl dX4_next_107 ?_
                    refine lv_aload_n hx hb dX4_next_110 rfl (lv_at hl 0 rfl) ?_
                    refine va_get (D := D) (ci := 4) (v := .ref aT) (C := RX4) (T := TX4) (N := 9) hx hb hts iuX4_next_X4 hown hK hP 0 rfl rfl 0 (by decide) (htw (.fieldLink RX4 33 "MergeJudge$Reader" "tape" "LMergeJudge$Tape;") (List.mem_of_getElem? (i := 1) rfl)) (fun _ h9 => h9) rfl dX4_next_111 ?_
                    refine va_get (D := D) (ci := 7) (v := .int (nI nt)) (C := RX7) (T := TX7) (N := 2) hx hb hts iuX4_next_X7 hown hK hP 1 rfl rfl 1 (by decide) (htw (.fieldLink RX4 196 "MergeJudge$Tape" "size" "I") (List.mem_of_getElem? (i := 2) rfl)) (fun _ h9 => h9) rfl dX4_next_114 ?_
                    refine lv_icmp_ge (tgt := 255) hx hb dX4_next_117 (by decide) (fun c_18 => ?_) (fun c_18 => ?_)
                    ·
                      have hn_18 := bge_t (a := g0_b) (b := nt) c_18 (by omega) (by omega)
                      have hE9 : g0_b = rnT bL ft nt g0_a := (rn_e (by omega)).symm.trans hw2_b
                      exact ret_v hx hb hr hlk hS (Nat.le_of_ble_eq_true rfl) (Nat.le_of_ble_eq_true rfl) (1, g0_a, g0_b, 0) (⟨hS9, (show TKc ft nt g0_a g0_b 1 0 from (tk_1 (by omega) hq_16 hE9).1), (by first | omega | (dsimp only; omega)), (by first | omega | (dsimp only; omega))⟩) (hP.sub [0, 1, 2] rfl) (hD.sub [0, 1, 2] (by decide) rfl) dX4_next_255
                    ·
                      have hn_18 := bge_f (a := g0_b) (b := nt) c_18 (by omega) (by omega)
                      refine lv_aload_n hx hb dX4_next_120 rfl (lv_at hl 0 rfl) ?_
                      refine aft_i (wr := []) hP hD hS hA [0, 1, 2] [] rfl rfl (by decide) (by decide) (run_v (As := []) (rest := []) hFix hK hE hP hD [0, 1, 2] (k_X4_isLetterNext_f l D cs _ aR aT aD 1 0 rp rk rf tb ft g0_a g0_b nt (by first | assumption | decide | omega) (by first | assumption | decide | omega)) (cwV 0 hts gc_X4_next_205_X4_isLetterNext rfl rfl rfl (by decide +kernel) ⟨Nat.le_of_ble_eq_true rfl, Nat.le_of_ble_eq_true rfl⟩) rfl (by decide) rfl rfl rfl hl.1 rfl (Nat.le_of_ble_eq_true rfl) dX4_next_121 ⟨Nat.le_of_ble_eq_true rfl, Nat.le_of_ble_eq_true rfl⟩) (fun r_19 u_19 H locs hq_19 hP hD hS => ?_)
                      have hP : va_P D vwCl [(aR, .inr (4, [.ref aT, .ref aD, .int 1, .int (nI g0_a), .int (nI g0_b), .int 0, .int rp, .int rk, .int rf])), (aT, .inr (7, [.ref tb, .int (nI nt)])), (tb, .inl (cs 0, 400, .inl ft))] H := hP
                      have hD : va_D A [(aR, .inr (4, [.ref aT, .ref aD, .int 1, .int (nI g0_a), .int (nI g0_b), .int 0, .int rp, .int rk, .int rf])), (aT, .inr (7, [.ref tb, .int (nI nt)])), (tb, .inl (cs 0, 400, .inl ft))] := hD
                      replace hq_19 : ((r_19 = 1 ∧ bL (ft g0_b) = true) ∨ (r_19 = 0 ∧ bL (ft g0_b) = false)) := hq_19
                      rcases hq_19 with ⟨rfl, hq_19⟩ | ⟨rfl, hq_19⟩
                      ·
                        refine lv_if_eq (tgt := 255) hx hb dX4_next_124 (by decide) (fun h9 => absurd h9 (by decide)) (fun _ => ?_)
                        refine lv_aload_n hx hb dX4_next_127 rfl (lv_at hl 0 rfl) ?_
                        refine lv_dup hx hb dX4_next_128 rfl ?_
                        refine va_get (D := D) (ci := 4) (v := .int (nI g0_b)) (C := RX4) (T := TX4) (N := 9) hx hb hts iuX4_next_X4 hown hK hP 0 rfl rfl 4 (by decide) (htw (.fieldLink RX4 18 "MergeJudge$Reader" "at" "I") (List.mem_of_getElem? (i := 0) rfl)) (fun _ h9 => h9) rfl dX4_next_129 ?_
                        refine lv_iconst (v := 1) hx hb dX4_next_132 (by decide) ?_
                        refine lv_iadd hx hb dX4_next_133 ?_
                        refine cf_i (nI (g0_b + 1)) (nI_add g0_b 1) ?_
                        refine va_put (D := D) (ci := 4) (v := .int (nI (g0_b + 1))) (ty := .int) (C := RX4) (T := TX4) (N := 9) hx hb hts iuX4_next_X4 tyX4 tyX4_ok nmX4 hown hK hP hD hS 0 rfl rfl 4 (by decide) (htw (.fieldLink RX4 18 "MergeJudge$Reader" "at" "I") (List.mem_of_getElem? (i := 0) rfl)) (fun _ h9 => h9) rfl (by decide +kernel) rfl rfl (Nat.le_of_ble_eq_true rfl) dX4_next_134 (fun H locs hP hD hS => ?_)
                        have hP : va_P D vwCl [(aR, .inr (4, [.ref aT, .ref aD, .int 1, .int (nI g0_a), .int (nI (g0_b + 1)), .int 0, .int rp, .int rk, .int rf])), (aT, .inr (7, [.ref tb, .int (nI nt)])), (tb, .inl (cs 0, 400, .inl ft))] H := hP
                        have hD : va_D A [(aR, .inr (4, [.ref aT, .ref aD, .int 1, .int (nI g0_a), .int (nI (g0_b + 1)), .int 0, .int rp, .int rk, .int rf])), (aT, .inr (7, [.ref tb, .int (nI nt)])), (tb, .inl (cs 0, 400, .inl ft))] := hD
                        refine lv_goto (tgt := 106) hx hb dX4_next_137 (by decide) ?_
                        exact ih_lp_17 (g0_b + 1) H locs ls (by first | omega | (dsimp only; omega)) (by first | omega | (dsimp only; omega)) ((rn_y (by omega) hq_19).symm.trans hw2_b) (by omega) (hP.sub [0, 1, 2] rfl) (hD.sub [0, 1, 2] (by decide) rfl) hS (lv_sub hl [0] rfl)
                      ·
                        refine lv_if_eq (tgt := 255) hx hb dX4_next_124 (by decide) (fun _ => ?_) (fun h9 => absurd h9 (by decide))
                        have hE9 : g0_b = rnT bL ft nt g0_a := (rn_n hq_19).symm.trans hw2_b
                        exact ret_v hx hb hr hlk hS (Nat.le_of_ble_eq_true rfl) (Nat.le_of_ble_eq_true rfl) (1, g0_a, g0_b, 0) (⟨hS9, (show TKc ft nt g0_a g0_b 1 0 from (tk_1 (by omega) hq_16 hE9).1), (by first | omega | (dsimp only; omega)), (by first | omega | (dsimp only; omega))⟩) (hP.sub [0, 1, 2] rfl) (hD.sub [0, 1, 2] (by decide) rfl) dX4_next_255
                exact lp_17 _ g0_a H locs ls (by first | omega | (dsimp only; omega)) (by first | omega | (dsimp only; omega)) rfl (Nat.lt_succ_self _) (hP.sub [0, 1, 2] rfl) (hD.sub [0, 1, 2] (by decide) rfl) hS (lv_sub hl [0] rfl)
              ·
                refine lv_if_eq (tgt := 140) hx hb dX4_next_98 (by decide) (fun _ => ?_) (fun h9 => absurd h9 (by decide))
                refine lv_aload_n hx hb dX4_next_140 rfl (lv_at hl 0 rfl) ?_
                refine aft_i (wr := []) hP hD hS hA [0, 1, 2] [] rfl rfl (by decide) (by decide) (run_v (As := []) (rest := []) hFix hK hE hP hD [0, 1, 2] (k_X4_isDigitNext_f l D cs _ aR aT aD rt 0 rp rk rf tb ft g0_a g0_a nt (by first | assumption | decide | omega) (by first | assumption | decide | omega)) (cwV 0 hts gc_X4_next_208_X4_isDigitNext rfl rfl rfl (by decide +kernel) ⟨Nat.le_of_ble_eq_true rfl, Nat.le_of_ble_eq_true rfl⟩) rfl (by decide) rfl rfl rfl hl.1 rfl (Nat.le_of_ble_eq_true rfl) dX4_next_141 ⟨Nat.le_of_ble_eq_true rfl, Nat.le_of_ble_eq_true rfl⟩) (fun r_20 u_20 H locs hq_20 hP hD hS => ?_)
                have hP : va_P D vwCl [(aR, .inr (4, [.ref aT, .ref aD, .int rt, .int (nI g0_a), .int (nI g0_a), .int 0, .int rp, .int rk, .int rf])), (aT, .inr (7, [.ref tb, .int (nI nt)])), (tb, .inl (cs 0, 400, .inl ft))] H := hP
                have hD : va_D A [(aR, .inr (4, [.ref aT, .ref aD, .int rt, .int (nI g0_a), .int (nI g0_a), .int 0, .int rp, .int rk, .int rf])), (aT, .inr (7, [.ref tb, .int (nI nt)])), (tb, .inl (cs 0, 400, .inl ft))] := hD
                replace hq_20 : ((r_20 = 1 ∧ bD (ft g0_a) = true) ∨ (r_20 = 0 ∧ bD (ft g0_a) = false)) := hq_20
                rcases hq_20 with ⟨rfl, hq_20⟩ | ⟨rfl, hq_20⟩
                ·
                  refine lv_if_eq (tgt := 219) hx hb dX4_next_144 (by decide) (fun h9 => absurd h9 (by decide)) (fun _ => ?_)
                  refine lv_aload_n hx hb dX4_next_147 rfl (lv_at hl 0 rfl) ?_
                  refine lv_iconst (v := 2) hx hb dX4_next_148 (by decide) ?_
                  refine va_put (D := D) (ci := 4) (v := .int 2) (ty := .int) (C := RX4) (T := TX4) (N := 9) hx hb hts iuX4_next_X4 tyX4 tyX4_ok nmX4 hown hK hP hD hS 0 rfl rfl 2 (by decide) (htw (.fieldLink RX4 11 "MergeJudge$Reader" "token" "I") (List.mem_of_getElem? (i := 6) rfl)) (fun _ h9 => h9) rfl (by decide +kernel) rfl rfl (Nat.le_of_ble_eq_true rfl) dX4_next_149 (fun H locs hP hD hS => ?_)
                  have hP : va_P D vwCl [(aR, .inr (4, [.ref aT, .ref aD, .int 2, .int (nI g0_a), .int (nI g0_a), .int 0, .int rp, .int rk, .int rf])), (aT, .inr (7, [.ref tb, .int (nI nt)])), (tb, .inl (cs 0, 400, .inl ft))] H := hP
                  have hD : va_D A [(aR, .inr (4, [.ref aT, .ref aD, .int 2, .int (nI g0_a), .int (nI g0_a), .int 0, .int rp, .int rk, .int rf])), (aT, .inr (7, [.ref tb, .int (nI nt)])), (tb, .inl (cs 0, 400, .inl ft))] := hD
                  have lp_21 : ∀ (nfu : Nat) (g0_c : Nat) (g1_c : Int32) (H : Heap) (locs : List Loc) (ls : Array Slot) (hw0_c : g0_c ≤ nt) (hw1_c : g0_a ≤ g0_c) (hw2_c : rnT bD ft nt g0_c = rnT bD ft nt g0_a) (hw3_c : g1_c = nI (min 1000 (dv ft g0_a (g0_c - g0_a)))), nt - g0_c < nfu → va_P D vwCl [(aR, .inr (4, [.ref aT, .ref aD, .int 2, .int (nI g0_a), .int (nI g0_c), .int g1_c, .int rp, .int rk, .int rf])), (aT, .inr (7, [.ref tb, .int (nI nt)])), (tb, .inl (cs 0, 400, .inl ft))] H → va_D A [(aR, .inr (4, [.ref aT, .ref aD, .int 2, .int (nI g0_a), .int (nI g0_c), .int g1_c, .int rp, .int rk, .int rf])), (aT, .inr (7, [.ref tb, .int (nI nt)])), (tb, .inl (cs 0, 400, .inl ft))] → va_S A s.heap H locs → lv_has ls 1 [(0, .ref aR)] → W p l e (mRm 1 0 0 20) s m ([.ref aR] : List Value).toArray below meth c H locs 0 0 (MQ below (va_Qv (fun (u : Int32 × Nat × Nat × Int32) => (u.2.1 = tS ft nt ra) ∧ (TKc ft nt u.2.1 u.2.2.1 u.1 u.2.2.2) ∧ (u.2.1 ≤ u.2.2.1) ∧ (u.2.2.1 ≤ nt)) (mpost D A (fun (u : Int32 × Nat × Nat × Int32) => [(aR, .inr (4, [.ref aT, .ref aD, .int u.1, .int (nI u.2.1), .int (nI u.2.2.1), .int u.2.2.2, .int rp, .int rk, .int rf])), (aT, .inr (7, [.ref tb, .int (nI nt)])), (tb, .inl (cs 0, 400, .inl ft))])) A) ([.ref aR] : List Value).toArray s 0 0 A) (F0 m 152 ls []) := by
                    intro nfu
                    induction nfu with
                    | zero => intro g0_c g1_c H locs ls hw0_c hw1_c hw2_c hw3_c hmu; exact absurd hmu (Nat.not_lt_zero _)
                    | succ nfu ih =>
                      intro g0_c g1_c H locs ls hw0_c hw1_c hw2_c hw3_c hmu hP hD hS hl
                      have ih_lp_21 := @ih
                      refine lv_aload_n hx hb dX4_next_152 rfl (lv_at hl 0 rfl) ?_
                      refine va_get (D := D) (ci := 4) (v := .int (nI g0_c)) (C := RX4) (T := TX4) (N := 9) hx hb hts iuX4_next_X4 hown hK hP 0 rfl rfl 4 (by decide) (htw (.fieldLink RX4 18 "MergeJudge$Reader" "at" "I") (List.mem_of_getElem? (i := 0) rfl)) (fun _ h9 => h9) rfl dX4_next_153 ?_
                      refine lv_aload_n hx hb dX4_next_156 rfl (lv_at hl 0 rfl) ?_
                      refine va_get (D := D) (ci := 4) (v := .ref aT) (C := RX4) (T := TX4) (N := 9) hx hb hts iuX4_next_X4 hown hK hP 0 rfl rfl 0 (by decide) (htw (.fieldLink RX4 33 "MergeJudge$Reader" "tape" "LMergeJudge$Tape;") (List.mem_of_getElem? (i := 1) rfl)) (fun _ h9 => h9) rfl dX4_next_157 ?_
                      refine va_get (D := D) (ci := 7) (v := .int (nI nt)) (C := RX7) (T := TX7) (N := 2) hx hb hts iuX4_next_X7 hown hK hP 1 rfl rfl 1 (by decide) (htw (.fieldLink RX4 196 "MergeJudge$Tape" "size" "I") (List.mem_of_getElem? (i := 2) rfl)) (fun _ h9 => h9) rfl dX4_next_160 ?_
                      refine lv_icmp_ge (tgt := 255) hx hb dX4_next_163 (by decide) (fun c_22 => ?_) (fun c_22 => ?_)
                      ·
                        have hn_22 := bge_t (a := g0_c) (b := nt) c_22 (by omega) (by omega)
                        have hE9 : g0_c = rnT bD ft nt g0_a := (rn_e (by omega)).symm.trans hw2_c
                        exact ret_v hx hb hr hlk hS (Nat.le_of_ble_eq_true rfl) (Nat.le_of_ble_eq_true rfl) (2, g0_a, g0_c, g1_c) (⟨hS9, (show TKc ft nt g0_a g0_c 2 g1_c from tk_2c (by omega) hq_16 hq_20 hE9 hw3_c), (by first | omega | (dsimp only; omega)), (by first | omega | (dsimp only; omega))⟩) (hP.sub [0, 1, 2] rfl) (hD.sub [0, 1, 2] (by decide) rfl) dX4_next_255
                      ·
                        have hn_22 := bge_f (a := g0_c) (b := nt) c_22 (by omega) (by omega)
                        refine lv_aload_n hx hb dX4_next_166 rfl (lv_at hl 0 rfl) ?_
                        refine aft_i (wr := []) hP hD hS hA [0, 1, 2] [] rfl rfl (by decide) (by decide) (run_v (As := []) (rest := []) hFix hK hE hP hD [0, 1, 2] (k_X4_isDigitNext_f l D cs _ aR aT aD 2 g1_c rp rk rf tb ft g0_a g0_c nt (by first | assumption | decide | omega) (by first | assumption | decide | omega)) (cwV 0 hts gc_X4_next_208_X4_isDigitNext rfl rfl rfl (by decide +kernel) ⟨Nat.le_of_ble_eq_true rfl, Nat.le_of_ble_eq_true rfl⟩) rfl (by decide) rfl rfl rfl hl.1 rfl (Nat.le_of_ble_eq_true rfl) dX4_next_167 ⟨Nat.le_of_ble_eq_true rfl, Nat.le_of_ble_eq_true rfl⟩) (fun r_23 u_23 H locs hq_23 hP hD hS => ?_)
                        have hP : va_P D vwCl [(aR, .inr (4, [.ref aT, .ref aD, .int 2, .int (nI g0_a), .int (nI g0_c), .int g1_c, .int rp, .int rk, .int rf])), (aT, .inr (7, [.ref tb, .int (nI nt)])), (tb, .inl (cs 0, 400, .inl ft))] H := hP
                        have hD : va_D A [(aR, .inr (4, [.ref aT, .ref aD, .int 2, .int (nI g0_a), .int (nI g0_c), .int g1_c, .int rp, .int rk, .int rf])), (aT, .inr (7, [.ref tb, .int (nI nt)])), (tb, .inl (cs 0, 400, .inl ft))] := hD
                        replace hq_23 : ((r_23 = 1 ∧ bD (ft g0_c) = true) ∨ (r_23 = 0 ∧ bD (ft g0_c) = false)) := hq_23
                        rcases hq_23 with ⟨rfl, hq_23⟩ | ⟨rfl, hq_23⟩
                        ·
                          refine lv_if_eq (tgt := 255) hx hb dX4_next_170 (by decide) (fun h9 => absurd h9 (by decide)) (fun _ => ?_)
                          refine lv_aload_n hx hb dX4_next_173 rfl (lv_at hl 0 rfl) ?_
                          refine lv_sipush (v := 1000) hx hb dX4_next_174 (by decide) ?_
                          refine lv_aload_n hx hb dX4_next_177 rfl (lv_at hl 0 rfl) ?_
                          refine va_get (D := D) (ci := 4) (v := .int g1_c) (C := RX4) (T := TX4) (N := 9) hx hb hts iuX4_next_X4 hown hK hP 0 rfl rfl 5 (by decide) (htw (.fieldLink RX4 21 "MergeJudge$Reader" "number" "I") (List.mem_of_getElem? (i := 5) rfl)) (fun _ h9 => h9) rfl dX4_next_178 ?_
                          refine lv_bipush (v := 10) hx hb dX4_next_181 (by decide) ?_
                          refine lv_imul hx hb dX4_next_183 ?_
                          refine lv_aload_n hx hb dX4_next_184 rfl (lv_at hl 0 rfl) ?_
                          refine va_get (D := D) (ci := 4) (v := .ref aT) (C := RX4) (T := TX4) (N := 9) hx hb hts iuX4_next_X4 hown hK hP 0 rfl rfl 0 (by decide) (htw (.fieldLink RX4 33 "MergeJudge$Reader" "tape" "LMergeJudge$Tape;") (List.mem_of_getElem? (i := 1) rfl)) (fun _ h9 => h9) rfl dX4_next_185 ?_
                          refine va_get (D := D) (ci := 7) (v := .ref tb) (C := RX7) (T := TX7) (N := 2) hx hb hts iuX4_next_X7 hown hK hP 1 rfl rfl 0 (by decide) (htw (.fieldLink RX4 201 "MergeJudge$Tape" "bytes" "[B") (List.mem_of_getElem? (i := 3) rfl)) (fun _ h9 => h9) rfl dX4_next_188 ?_
                          refine lv_aload_n hx hb dX4_next_191 rfl (lv_at hl 0 rfl) ?_
                          refine va_get (D := D) (ci := 4) (v := .int (nI g0_c)) (C := RX4) (T := TX4) (N := 9) hx hb hts iuX4_next_X4 hown hK hP 0 rfl rfl 4 (by decide) (htw (.fieldLink RX4 18 "MergeJudge$Reader" "at" "I") (List.mem_of_getElem? (i := 0) rfl)) (fun _ h9 => h9) rfl dX4_next_192 ?_
                          refine va_bald hx hb hK hP 2 0 rfl rfl (vp_in_nI (by omega) (by omega)) dX4_next_195 ?_
                          rw [nI_clamp (by omega)]
                          refine lv_iadd hx hb dX4_next_196 ?_
                          refine lv_bipush (v := 48) hx hb dX4_next_197 (by decide) ?_
                          refine lv_isub hx hb dX4_next_199 ?_
                          refine va_mmin hx hb (hml.trans hl.1.symm) hown (htw (.methodLink RX4 211 Lib.Math.min.name) (List.mem_of_getElem? (i := 14) rfl)) (htw (.static Lib.Math.min.name) (List.mem_of_getElem? (i := 15) rfl)) (htw (.initialized "java/lang/Math") (List.mem_of_getElem? (i := 16) rfl)) (htw (.code Lib.Math.min.name Lib.Math.min.code 2 (some .int)) (List.mem_of_getElem? (i := 17) rfl)) (Nat.le_of_ble_eq_true rfl) (Nat.le_of_ble_eq_true rfl) (Nat.le_of_ble_eq_true rfl) (Nat.le_of_ble_eq_true rfl) dX4_next_200 ?_
                          refine va_put (D := D) (ci := 4) (v := .int (if ((g1_c * (10 : Int32)) + (ft g0_c)) - (48 : Int32) < 1000 then ((g1_c * (10 : Int32)) + (ft g0_c)) - (48 : Int32) else 1000)) (ty := .int) (C := RX4) (T := TX4) (N := 9) hx hb hts iuX4_next_X4 tyX4 tyX4_ok nmX4 hown hK hP hD hS 0 rfl rfl 5 (by decide) (htw (.fieldLink RX4 21 "MergeJudge$Reader" "number" "I") (List.mem_of_getElem? (i := 5) rfl)) (fun _ h9 => h9) rfl (by decide +kernel) rfl rfl (Nat.le_of_ble_eq_true rfl) dX4_next_203 (fun H locs hP hD hS => ?_)
                          have hP : va_P D vwCl [(aR, .inr (4, [.ref aT, .ref aD, .int 2, .int (nI g0_a), .int (nI g0_c), .int (if ((g1_c * (10 : Int32)) + (ft g0_c)) - (48 : Int32) < 1000 then ((g1_c * (10 : Int32)) + (ft g0_c)) - (48 : Int32) else 1000), .int rp, .int rk, .int rf])), (aT, .inr (7, [.ref tb, .int (nI nt)])), (tb, .inl (cs 0, 400, .inl ft))] H := hP
                          have hD : va_D A [(aR, .inr (4, [.ref aT, .ref aD, .int 2, .int (nI g0_a), .int (nI g0_c), .int (if ((g1_c * (10 : Int32)) + (ft g0_c)) - (48 : Int32) < 1000 then ((g1_c * (10 : Int32)) + (ft g0_c)) - (48 : Int32) else 1000), .int rp, .int rk, .int rf])), (aT, .inr (7, [.ref tb, .int (nI nt)])), (tb, .inl (cs 0, 400, .inl ft))] := hD
                          refine lv_aload_n hx hb dX4_next_206 rfl (lv_at hl 0 rfl) ?_
                          refine lv_dup hx hb dX4_next_207 rfl ?_
                          refine va_get (D := D) (ci := 4) (v := .int (nI g0_c)) (C := RX4) (T := TX4) (N := 9) hx hb hts iuX4_next_X4 hown hK hP 0 rfl rfl 4 (by decide) (htw (.fieldLink RX4 18 "MergeJudge$Reader" "at" "I") (List.mem_of_getElem? (i := 0) rfl)) (fun _ h9 => h9) rfl dX4_next_208 ?_
                          refine lv_iconst (v := 1) hx hb dX4_next_211 (by decide) ?_
                          refine lv_iadd hx hb dX4_next_212 ?_
                          refine cf_i (nI (g0_c + 1)) (nI_add g0_c 1) ?_
                          refine va_put (D := D) (ci := 4) (v := .int (nI (g0_c + 1))) (ty := .int) (C := RX4) (T := TX4) (N := 9) hx hb hts iuX4_next_X4 tyX4 tyX4_ok nmX4 hown hK hP hD hS 0 rfl rfl 4 (by decide) (htw (.fieldLink RX4 18 "MergeJudge$Reader" "at" "I") (List.mem_of_getElem? (i := 0) rfl)) (fun _ h9 => h9) rfl (by decide +kernel) rfl rfl (Nat.le_of_ble_eq_true rfl) dX4_next_213 (fun H locs hP hD hS => ?_)
                          have hP : va_P D vwCl [(aR, .inr (4, [.ref aT, .ref aD, .int 2, .int (nI g0_a), .int (nI (g0_c + 1)), .int (if ((g1_c * (10 : Int32)) + (ft g0_c)) - (48 : Int32) < 1000 then ((g1_c * (10 : Int32)) + (ft g0_c)) - (48 : Int32) else 1000), .int rp, .int rk, .int rf])), (aT, .inr (7, [.ref tb, .int (nI nt)])), (tb, .inl (cs 0, 400, .inl ft))] H := hP
                          have hD : va_D A [(aR, .inr (4, [.ref aT, .ref aD, .int 2, .int (nI g0_a), .int (nI (g0_c + 1)), .int (if ((g1_c * (10 : Int32)) + (ft g0_c)) - (48 : Int32) < 1000 then ((g1_c * (10 : Int32)) + (ft g0_c)) - (48 : Int32) else 1000), .int rp, .int rk, .int rf])), (aT, .inr (7, [.ref tb, .int (nI nt)])), (tb, .inl (cs 0, 400, .inl ft))] := hD
                          refine lv_goto (tgt := 152) hx hb dX4_next_216 (by decide) ?_
                          exact ih_lp_21 (g0_c + 1) (if ((g1_c * (10 : Int32)) + (ft g0_c)) - (48 : Int32) < 1000 then ((g1_c * (10 : Int32)) + (ft g0_c)) - (48 : Int32) else 1000) H locs ls (by first | omega | (dsimp only; omega)) (by first | omega | (dsimp only; omega)) ((rn_y (by omega) hq_23).symm.trans hw2_c) (by rw [dvs_s (by omega)]; exact cap_c1 hw3_c hq_23) (by omega) (hP.sub [0, 1, 2] rfl) (hD.sub [0, 1, 2] (by decide) rfl) hS (lv_sub hl [0] rfl)
                        ·
                          refine lv_if_eq (tgt := 255) hx hb dX4_next_170 (by decide) (fun _ => ?_) (fun h9 => absurd h9 (by decide))
                          have hE9 : g0_c = rnT bD ft nt g0_a := (rn_n hq_23).symm.trans hw2_c
                          exact ret_v hx hb hr hlk hS (Nat.le_of_ble_eq_true rfl) (Nat.le_of_ble_eq_true rfl) (2, g0_a, g0_c, g1_c) (⟨hS9, (show TKc ft nt g0_a g0_c 2 g1_c from tk_2c (by omega) hq_16 hq_20 hE9 hw3_c), (by first | omega | (dsimp only; omega)), (by first | omega | (dsimp only; omega))⟩) (hP.sub [0, 1, 2] rfl) (hD.sub [0, 1, 2] (by decide) rfl) dX4_next_255
                  exact lp_21 _ g0_a 0 H locs ls (by first | omega | (dsimp only; omega)) (by first | omega | (dsimp only; omega)) rfl (by rw [Nat.sub_self]; rfl) (Nat.lt_succ_self _) (hP.sub [0, 1, 2] rfl) (hD.sub [0, 1, 2] (by decide) rfl) hS (lv_sub hl [0] rfl)
                ·
                  refine lv_if_eq (tgt := 219) hx hb dX4_next_144 (by decide) (fun _ => ?_) (fun h9 => absurd h9 (by decide))
                  refine lv_aload_n hx hb dX4_next_219 rfl (lv_at hl 0 rfl) ?_
                  refine lv_aload_n hx hb dX4_next_220 rfl (lv_at hl 0 rfl) ?_
                  refine va_get (D := D) (ci := 4) (v := .ref aT) (C := RX4) (T := TX4) (N := 9) hx hb hts iuX4_next_X4 hown hK hP 0 rfl rfl 0 (by decide) (htw (.fieldLink RX4 33 "MergeJudge$Reader" "tape" "LMergeJudge$Tape;") (List.mem_of_getElem? (i := 1) rfl)) (fun _ h9 => h9) rfl dX4_next_221 ?_
                  refine va_get (D := D) (ci := 7) (v := .ref tb) (C := RX7) (T := TX7) (N := 2) hx hb hts iuX4_next_X7 hown hK hP 1 rfl rfl 0 (by decide) (htw (.fieldLink RX4 201 "MergeJudge$Tape" "bytes" "[B") (List.mem_of_getElem? (i := 3) rfl)) (fun _ h9 => h9) rfl dX4_next_224 ?_
                  refine lv_aload_n hx hb dX4_next_227 rfl (lv_at hl 0 rfl) ?_
                  refine va_get (D := D) (ci := 4) (v := .int (nI g0_a)) (C := RX4) (T := TX4) (N := 9) hx hb hts iuX4_next_X4 hown hK hP 0 rfl rfl 4 (by decide) (htw (.fieldLink RX4 18 "MergeJudge$Reader" "at" "I") (List.mem_of_getElem? (i := 0) rfl)) (fun _ h9 => h9) rfl dX4_next_228 ?_
                  refine va_bald hx hb hK hP 2 0 rfl rfl (vp_in_nI (by omega) (by omega)) dX4_next_231 ?_
                  rw [nI_clamp (by omega)]
                  refine lv_bipush (v := 59) hx hb dX4_next_232 (by decide) ?_
                  refine lv_icmp_ne (tgt := 241) hx hb dX4_next_234 (by decide) (fun c_24 => ?_) (fun c_24 => ?_)
                  ·
                    refine lv_iconst (v := 4) hx hb dX4_next_241 (by decide) ?_
                    refine va_put (D := D) (ci := 4) (v := .int 4) (ty := .int) (C := RX4) (T := TX4) (N := 9) hx hb hts iuX4_next_X4 tyX4 tyX4_ok nmX4 hown hK hP hD hS 0 rfl rfl 2 (by decide) (htw (.fieldLink RX4 11 "MergeJudge$Reader" "token" "I") (List.mem_of_getElem? (i := 6) rfl)) (fun _ h9 => h9) rfl (by decide +kernel) rfl rfl (Nat.le_of_ble_eq_true rfl) dX4_next_242 (fun H locs hP hD hS => ?_)
                    have hP : va_P D vwCl [(aR, .inr (4, [.ref aT, .ref aD, .int 4, .int (nI g0_a), .int (nI g0_a), .int 0, .int rp, .int rk, .int rf])), (aT, .inr (7, [.ref tb, .int (nI nt)])), (tb, .inl (cs 0, 400, .inl ft))] H := hP
                    have hD : va_D A [(aR, .inr (4, [.ref aT, .ref aD, .int 4, .int (nI g0_a), .int (nI g0_a), .int 0, .int rp, .int rk, .int rf])), (aT, .inr (7, [.ref tb, .int (nI nt)])), (tb, .inl (cs 0, 400, .inl ft))] := hD
                    refine lv_aload_n hx hb dX4_next_245 rfl (lv_at hl 0 rfl) ?_
                    refine lv_dup hx hb dX4_next_246 rfl ?_
                    refine va_get (D := D) (ci := 4) (v := .int (nI g0_a)) (C := RX4) (T := TX4) (N := 9) hx hb hts iuX4_next_X4 hown hK hP 0 rfl rfl 4 (by decide) (htw (.fieldLink RX4 18 "MergeJudge$Reader" "at" "I") (List.mem_of_getElem? (i := 0) rfl)) (fun _ h9 => h9) rfl dX4_next_247 ?_
                    refine lv_iconst (v := 1) hx hb dX4_next_250 (by decide) ?_
                    refine lv_iadd hx hb dX4_next_251 ?_
                    refine cf_i (nI (g0_a + 1)) (nI_add g0_a 1) ?_
                    refine va_put (D := D) (ci := 4) (v := .int (nI (g0_a + 1))) (ty := .int) (C := RX4) (T := TX4) (N := 9) hx hb hts iuX4_next_X4 tyX4 tyX4_ok nmX4 hown hK hP hD hS 0 rfl rfl 4 (by decide) (htw (.fieldLink RX4 18 "MergeJudge$Reader" "at" "I") (List.mem_of_getElem? (i := 0) rfl)) (fun _ h9 => h9) rfl (by decide +kernel) rfl rfl (Nat.le_of_ble_eq_true rfl) dX4_next_252 (fun H locs hP hD hS => ?_)
                    have hP : va_P D vwCl [(aR, .inr (4, [.ref aT, .ref aD, .int 4, .int (nI g0_a), .int (nI (g0_a + 1)), .int 0, .int rp, .int rk, .int rf])), (aT, .inr (7, [.ref tb, .int (nI nt)])), (tb, .inl (cs 0, 400, .inl ft))] H := hP
                    have hD : va_D A [(aR, .inr (4, [.ref aT, .ref aD, .int 4, .int (nI g0_a), .int (nI (g0_a + 1)), .int 0, .int rp, .int rk, .int rf])), (aT, .inr (7, [.ref tb, .int (nI nt)])), (tb, .inl (cs 0, 400, .inl ft))] := hD
                    exact ret_v hx hb hr hlk hS (Nat.le_of_ble_eq_true rfl) (Nat.le_of_ble_eq_true rfl) (4, g0_a, g0_a + 1, 0) (⟨hS9, (show TKc ft nt g0_a (g0_a + 1) 4 0 from (tk_4 (by omega) hq_16 hq_20 c_24).1), (by first | omega | (dsimp only; omega)), (by first | omega | (dsimp only; omega))⟩) (hP.sub [0, 1, 2] rfl) (hD.sub [0, 1, 2] (by decide) rfl) dX4_next_255
                  ·
                    refine lv_iconst (v := 3) hx hb dX4_next_237 (by decide) ?_
                    refine lv_goto (tgt := 242) hx hb dX4_next_238 (by decide) ?_
                    refine va_put (D := D) (ci := 4) (v := .int 3) (ty := .int) (C := RX4) (T := TX4) (N := 9) hx hb hts iuX4_next_X4 tyX4 tyX4_ok nmX4 hown hK hP hD hS 0 rfl rfl 2 (by decide) (htw (.fieldLink RX4 11 "MergeJudge$Reader" "token" "I") (List.mem_of_getElem? (i := 6) rfl)) (fun _ h9 => h9) rfl (by decide +kernel) rfl rfl (Nat.le_of_ble_eq_true rfl) dX4_next_242 (fun H locs hP hD hS => ?_)
                    have hP : va_P D vwCl [(aR, .inr (4, [.ref aT, .ref aD, .int 3, .int (nI g0_a), .int (nI g0_a), .int 0, .int rp, .int rk, .int rf])), (aT, .inr (7, [.ref tb, .int (nI nt)])), (tb, .inl (cs 0, 400, .inl ft))] H := hP
                    have hD : va_D A [(aR, .inr (4, [.ref aT, .ref aD, .int 3, .int (nI g0_a), .int (nI g0_a), .int 0, .int rp, .int rk, .int rf])), (aT, .inr (7, [.ref tb, .int (nI nt)])), (tb, .inl (cs 0, 400, .inl ft))] := hD
                    refine lv_aload_n hx hb dX4_next_245 rfl (lv_at hl 0 rfl) ?_
                    refine lv_dup hx hb dX4_next_246 rfl ?_
                    refine va_get (D := D) (ci := 4) (v := .int (nI g0_a)) (C := RX4) (T := TX4) (N := 9) hx hb hts iuX4_next_X4 hown hK hP 0 rfl rfl 4 (by decide) (htw (.fieldLink RX4 18 "MergeJudge$Reader" "at" "I") (List.mem_of_getElem? (i := 0) rfl)) (fun _ h9 => h9) rfl dX4_next_247 ?_
                    refine lv_iconst (v := 1) hx hb dX4_next_250 (by decide) ?_
                    refine lv_iadd hx hb dX4_next_251 ?_
                    refine cf_i (nI (g0_a + 1)) (nI_add g0_a 1) ?_
                    refine va_put (D := D) (ci := 4) (v := .int (nI (g0_a + 1))) (ty := .int) (C := RX4) (T := TX4) (N := 9) hx hb hts iuX4_next_X4 tyX4 tyX4_ok nmX4 hown hK hP hD hS 0 rfl rfl 4 (by decide) (htw (.fieldLink RX4 18 "MergeJudge$Reader" "at" "I") (List.mem_of_getElem? (i := 0) rfl)) (fun _ h9 => h9) rfl (by decide +kernel) rfl rfl (Nat.le_of_ble_eq_true rfl) dX4_next_252 (fun H locs hP hD hS => ?_)
                    have hP : va_P D vwCl [(aR, .inr (4, [.ref aT, .ref aD, .int 3, .int (nI g0_a), .int (nI (g0_a + 1)), .int 0, .int rp, .int rk, .int rf])), (aT, .inr (7, [.ref tb, .int (nI nt)])), (tb, .inl (cs 0, 400, .inl ft))] H := hP
                    have hD : va_D A [(aR, .inr (4, [.ref aT, .ref aD, .int 3, .int (nI g0_a), .int (nI (g0_a + 1)), .int 0, .int rp, .int rk, .int rf])), (aT, .inr (7, [.ref tb, .int (nI nt)])), (tb, .inl (cs 0, 400, .inl ft))] := hD
                    exact ret_v hx hb hr hlk hS (Nat.le_of_ble_eq_true rfl) (Nat.le_of_ble_eq_true rfl) (3, g0_a, g0_a + 1, 0) (⟨hS9, (show TKc ft nt g0_a (g0_a + 1) 3 0 from (tk_3 (by omega) hq_16 hq_20 c_24).1), (by first | omega | (dsimp only; omega)), (by first | omega | (dsimp only; omega))⟩) (hP.sub [0, 1, 2] rfl) (hD.sub [0, 1, 2] (by decide) rfl) dX4_next_255
            ·
              have hn_15 := blt_f (a := g0_a) (b := nt) c_15 (by omega) (by omega)
              refine lv_aload_n hx hb dX4_next_88 rfl (lv_at hl 0 rfl) ?_
              refine lv_iconst (v := 0) hx hb dX4_next_89 (by decide) ?_
              refine va_put (D := D) (ci := 4) (v := .int 0) (ty := .int) (C := RX4) (T := TX4) (N := 9) hx hb hts iuX4_next_X4 tyX4 tyX4_ok nmX4 hown hK hP hD hS 0 rfl rfl 2 (by decide) (htw (.fieldLink RX4 11 "MergeJudge$Reader" "token" "I") (List.mem_of_getElem? (i := 6) rfl)) (fun _ h9 => h9) rfl (by decide +kernel) rfl rfl (Nat.le_of_ble_eq_true rfl) dX4_next_90 (fun H locs hP hD hS => ?_)
              have hP : va_P D vwCl [(aR, .inr (4, [.ref aT, .ref aD, .int 0, .int (nI g0_a), .int (nI g0_a), .int 0, .int rp, .int rk, .int rf])), (aT, .inr (7, [.ref tb, .int (nI nt)])), (tb, .inl (cs 0, 400, .inl ft))] H := hP
              have hD : va_D A [(aR, .inr (4, [.ref aT, .ref aD, .int 0, .int (nI g0_a), .int (nI g0_a), .int 0, .int rp, .int rk, .int rf])), (aT, .inr (7, [.ref tb, .int (nI nt)])), (tb, .inl (cs 0, 400, .inl ft))] := hD
              exact ret_v hx hb hr hlk hS (Nat.le_of_ble_eq_true rfl) (Nat.le_of_ble_eq_true rfl) (0, g0_a, g0_a, 0) (⟨hS9, (show TKc ft nt g0_a g0_a 0 0 from (tk_0 (by omega)).1), (by first | omega | (dsimp only; omega)), (by first | omega | (dsimp only; omega))⟩) (hP.sub [0, 1, 2] rfl) (hD.sub [0, 1, 2] (by decide) rfl) dX4_next_93
          ·
            refine lv_aload_n hx hb dX4_next_48 rfl (lv_at hl 0 rfl) ?_
            refine lv_dup hx hb dX4_next_49 rfl ?_
            refine va_get (D := D) (ci := 4) (v := .int (nI g0_a)) (C := RX4) (T := TX4) (N := 9) hx hb hts iuX4_next_X4 hown hK hP 0 rfl rfl 4 (by decide) (htw (.fieldLink RX4 18 "MergeJudge$Reader" "at" "I") (List.mem_of_getElem? (i := 0) rfl)) (fun _ h9 => h9) rfl dX4_next_50 ?_
            refine lv_iconst (v := 1) hx hb dX4_next_53 (by decide) ?_
            refine lv_iadd hx hb dX4_next_54 ?_
            refine cf_i (nI (g0_a + 1)) (nI_add g0_a 1) ?_
            refine va_put (D := D) (ci := 4) (v := .int (nI (g0_a + 1))) (ty := .int) (C := RX4) (T := TX4) (N := 9) hx hb hts iuX4_next_X4 tyX4 tyX4_ok nmX4 hown hK hP hD hS 0 rfl rfl 4 (by decide) (htw (.fieldLink RX4 18 "MergeJudge$Reader" "at" "I") (List.mem_of_getElem? (i := 0) rfl)) (fun _ h9 => h9) rfl (by decide +kernel) rfl rfl (Nat.le_of_ble_eq_true rfl) dX4_next_55 (fun H locs hP hD hS => ?_)
            have hP : va_P D vwCl [(aR, .inr (4, [.ref aT, .ref aD, .int rt, .int (nI rs), .int (nI (g0_a + 1)), .int rn, .int rp, .int rk, .int rf])), (aT, .inr (7, [.ref tb, .int (nI nt)])), (tb, .inl (cs 0, 400, .inl ft))] H := hP
            have hD : va_D A [(aR, .inr (4, [.ref aT, .ref aD, .int rt, .int (nI rs), .int (nI (g0_a + 1)), .int rn, .int rp, .int rk, .int rf])), (aT, .inr (7, [.ref tb, .int (nI nt)])), (tb, .inl (cs 0, 400, .inl ft))] := hD
            refine lv_goto (tgt := 0) hx hb dX4_next_58 (by decide) ?_
            exact ih_lp_1 (g0_a + 1) H locs ls (by first | omega | (dsimp only; omega)) ((rn_y (by omega) (bS_y (Or.inr c_14))).symm.trans hw1_a) (by omega) (hP.sub [0, 1, 2] rfl) (hD.sub [0, 1, 2] (by decide) rfl) hS (lv_sub hl [0] rfl)
  exact lp_1 _ ra H locs ls (by first | omega | (dsimp only; omega)) rfl (Nat.lt_succ_self _) (hP.sub [0, 1, 2] rfl) (hD.sub [0, 1, 2] (by decide) rfl) hS (lv_sub hl [0] rfl)
