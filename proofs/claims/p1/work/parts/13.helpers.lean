set_option maxHeartbeats 4000000 in
set_option maxRecDepth 100000 in
theorem k_X8_noCell (l : Launch) (D : va_G) (cs : Nat → ClassId) (sz : Nat) (a0 : Nat) (k : Int32) (aT : Nat) (aD : Nat) (aO : Nat) (aR : Nat) (aS : Nat) (aJ : Nat) (aC : Nat) (aI : Nat) (aK : Nat) (aL : Nat) (o1 : Nat) (o2 : Nat) (o3 : Nat) (o4 : Nat) (o5 : Nat)  : Mi l D cs yX8_noCell W_X8_noCell 0 0 0 0 [.ref a0, .int k] [(a0, .inr (8, [.ref aT, .ref aD, .ref aO, .ref aR, .ref aS, .ref aJ, .ref aC, .ref aI, .ref aK, .ref aL])), (aO, .inr (0, [.int 0, .int 0, .int 0, .int 0, .int 0, .int 0, .int 0, .int 0, .int 0, .int 0, .ref o1, .ref o2, .ref o3, .ref o4, .ref o5]))] sz (fun (r : Int32) (u : Unit) => r = 1) (fun (u : Unit) => [(a0, .inr (8, [.ref aT, .ref aD, .ref aO, .ref aR, .ref aS, .ref aJ, .ref aC, .ref aI, .ref aK, .ref aL])), (aO, .inr (0, [.int 0, .int 0, .int 0, .int 0, .int 0, .int 0, .int 0, .int 0, .int 0, .int 0, .ref o1, .ref o2, .ref o3, .ref o4, .ref o5]))]) := by
  refine ent (D := D) (cs := cs) (y := yX8_noCell) (ws := W_X8_noCell) (As := [.ref a0, .int k]) (W0 := [(a0, .inr (8, [.ref aT, .ref aD, .ref aO, .ref aR, .ref aS, .ref aJ, .ref aC, .ref aI, .ref aK, .ref aL])), (aO, .inr (0, [.int 0, .int 0, .int 0, .int 0, .int 0, .int 0, .int 0, .int 0, .int 0, .int 0, .ref o1, .ref o2, .ref o3, .ref o4, .ref o5]))]) (Qx := fun A => va_Qi (fun (r : Int32) (u : Unit) => r = 1) (mpost D A (fun (u : Unit) => [(a0, .inr (8, [.ref aT, .ref aD, .ref aO, .ref aR, .ref aS, .ref aJ, .ref aC, .ref aI, .ref aK, .ref aL])), (aO, .inr (0, [.int 0, .int 0, .int 0, .int 0, .int 0, .int 0, .int 0, .int 0, .int 0, .int 0, .ref o1, .ref o2, .ref o3, .ref o4, .ref o5]))])) A) (maxL := 2) (ret := (some .boolean)) (by decide) rfl (Nat.le_of_ble_eq_true rfl) ?_
  intro p e s m below meth c A ls hx hb hr hml hlk hown hts hin hK hE hP hD hA hS hl
  have hl : lv_has ls 2 [(0, .ref a0), (1, .int k)] := hl
  generalize hHe : s.heap = H at hP
  have hS : va_S A s.heap H [] := hHe ▸ hS
  have htw : ∀ w ∈ O_X8_noCell, w.before ([.ref a0, .int k] : List Value).toArray s = true := fun w h => hts w (List.mem_cons_of_mem _ (List.mem_append_left _ h))
  have hFix := (⟨hx, hb, hml, hown, hts⟩ : CallFix p m c _ _ s _ _ _)
  refine lv_iload_n hx hb dX8_noCell_0 rfl (lv_at hl 1 rfl) ?_
  refine lv_if_lt (tgt := 15) hx hb dX8_noCell_1 (by decide) (fun c_1 => ?_) (fun c_1 => ?_)
  ·
    refine lv_iconst (v := 1) hx hb dX8_noCell_15 (by decide) ?_
    refine lv_goto (tgt := 20) hx hb dX8_noCell_16 (by decide) ?_
    exact ret_z hx hb hr hlk hS (Nat.le_of_ble_eq_true rfl) (Nat.le_of_ble_eq_true rfl) (by decide) () (rfl) (hP.sub [0, 1] rfl) (hD.sub [0, 1] (by decide) rfl) dX8_noCell_20
  ·
    refine lv_iload_n hx hb dX8_noCell_4 rfl (lv_at hl 1 rfl) ?_
    refine lv_aload_n hx hb dX8_noCell_5 rfl (lv_at hl 0 rfl) ?_
    refine va_get (D := D) (ci := 8) (v := .ref aO) (C := RX8) (T := TX8) (N := 10) hx hb hts iuX8_noCell_X8 hown hK hP 0 rfl rfl 2 (by decide) (htw (.fieldLink RX8 23 "MergeJudge" "told" "LMergeJudge$Base;") (List.mem_of_getElem? (i := 0) rfl)) (fun _ h9 => h9) rfl dX8_noCell_6 ?_
    refine va_get (D := D) (ci := 0) (v := .int 0) (C := RX0) (T := TX0) (N := 15) hx hb hts iuX8_noCell_X0 hown hK hP 1 rfl rfl 4 (by decide) (htw (.fieldLink RX8 158 "MergeJudge$Base" "cells" "I") (List.mem_of_getElem? (i := 1) rfl)) (fun _ h9 => h9) rfl dX8_noCell_9 ?_
    refine lv_icmp_lt (tgt := 19) hx hb dX8_noCell_12 (by decide) (fun h9 => absurd h9 c_1) (fun _ => ?_)
    refine lv_iconst (v := 1) hx hb dX8_noCell_15 (by decide) ?_
    refine lv_goto (tgt := 20) hx hb dX8_noCell_16 (by decide) ?_
    exact ret_z hx hb hr hlk hS (Nat.le_of_ble_eq_true rfl) (Nat.le_of_ble_eq_true rfl) (by decide) () (rfl) (hP.sub [0, 1] rfl) (hD.sub [0, 1] (by decide) rfl) dX8_noCell_20

set_option maxHeartbeats 4000000 in
set_option maxRecDepth 100000 in
theorem k_X8_noRule (l : Launch) (D : va_G) (cs : Nat → ClassId) (sz : Nat) (a0 : Nat) (k : Int32) (aT : Nat) (aD : Nat) (aO : Nat) (aR : Nat) (aS : Nat) (aJ : Nat) (aC : Nat) (aI : Nat) (aK : Nat) (aL : Nat) (o1 : Nat) (o2 : Nat) (o3 : Nat) (o4 : Nat) (o5 : Nat)  : Mi l D cs yX8_noRule W_X8_noRule 0 0 0 0 [.ref a0, .int k] [(a0, .inr (8, [.ref aT, .ref aD, .ref aO, .ref aR, .ref aS, .ref aJ, .ref aC, .ref aI, .ref aK, .ref aL])), (aO, .inr (0, [.int 0, .int 0, .int 0, .int 0, .int 0, .int 0, .int 0, .int 0, .int 0, .int 0, .ref o1, .ref o2, .ref o3, .ref o4, .ref o5]))] sz (fun (r : Int32) (u : Unit) => r = 1) (fun (u : Unit) => [(a0, .inr (8, [.ref aT, .ref aD, .ref aO, .ref aR, .ref aS, .ref aJ, .ref aC, .ref aI, .ref aK, .ref aL])), (aO, .inr (0, [.int 0, .int 0, .int 0, .int 0, .int 0, .int 0, .int 0, .int 0, .int 0, .int 0, .ref o1, .ref o2, .ref o3, .ref o4, .ref o5]))]) := by
  refine ent (D := D) (cs := cs) (y := yX8_noRule) (ws := W_X8_noRule) (As := [.ref a0, .int k]) (W0 := [(a0, .inr (8, [.ref aT, .ref aD, .ref aO, .ref aR, .ref aS, .ref aJ, .ref aC, .ref aI, .ref aK, .ref aL])), (aO, .inr (0, [.int 0, .int 0, .int 0, .int 0, .int 0, .int 0, .int 0, .int 0, .int 0, .int 0, .ref o1, .ref o2, .ref o3, .ref o4, .ref o5]))]) (Qx := fun A => va_Qi (fun (r : Int32) (u : Unit) => r = 1) (mpost D A (fun (u : Unit) => [(a0, .inr (8, [.ref aT, .ref aD, .ref aO, .ref aR, .ref aS, .ref aJ, .ref aC, .ref aI, .ref aK, .ref aL])), (aO, .inr (0, [.int 0, .int 0, .int 0, .int 0, .int 0, .int 0, .int 0, .int 0, .int 0, .int 0, .ref o1, .ref o2, .ref o3, .ref o4, .ref o5]))])) A) (maxL := 2) (ret := (some .boolean)) (by decide) rfl (Nat.le_of_ble_eq_true rfl) ?_
  intro p e s m below meth c A ls hx hb hr hml hlk hown hts hin hK hE hP hD hA hS hl
  have hl : lv_has ls 2 [(0, .ref a0), (1, .int k)] := hl
  generalize hHe : s.heap = H at hP
  have hS : va_S A s.heap H [] := hHe ▸ hS
  have htw : ∀ w ∈ O_X8_noRule, w.before ([.ref a0, .int k] : List Value).toArray s = true := fun w h => hts w (List.mem_cons_of_mem _ (List.mem_append_left _ h))
  have hFix := (⟨hx, hb, hml, hown, hts⟩ : CallFix p m c _ _ s _ _ _)
  refine lv_iload_n hx hb dX8_noRule_0 rfl (lv_at hl 1 rfl) ?_
  refine lv_if_lt (tgt := 15) hx hb dX8_noRule_1 (by decide) (fun c_1 => ?_) (fun c_1 => ?_)
  ·
    refine lv_iconst (v := 1) hx hb dX8_noRule_15 (by decide) ?_
    refine lv_goto (tgt := 20) hx hb dX8_noRule_16 (by decide) ?_
    exact ret_z hx hb hr hlk hS (Nat.le_of_ble_eq_true rfl) (Nat.le_of_ble_eq_true rfl) (by decide) () (rfl) (hP.sub [0, 1] rfl) (hD.sub [0, 1] (by decide) rfl) dX8_noRule_20
  ·
    refine lv_iload_n hx hb dX8_noRule_4 rfl (lv_at hl 1 rfl) ?_
    refine lv_aload_n hx hb dX8_noRule_5 rfl (lv_at hl 0 rfl) ?_
    refine va_get (D := D) (ci := 8) (v := .ref aO) (C := RX8) (T := TX8) (N := 10) hx hb hts iuX8_noRule_X8 hown hK hP 0 rfl rfl 2 (by decide) (htw (.fieldLink RX8 23 "MergeJudge" "told" "LMergeJudge$Base;") (List.mem_of_getElem? (i := 0) rfl)) (fun _ h9 => h9) rfl dX8_noRule_6 ?_
    refine va_get (D := D) (ci := 0) (v := .int 0) (C := RX0) (T := TX0) (N := 15) hx hb hts iuX8_noRule_X0 hown hK hP 1 rfl rfl 5 (by decide) (htw (.fieldLink RX8 164 "MergeJudge$Base" "rules" "I") (List.mem_of_getElem? (i := 1) rfl)) (fun _ h9 => h9) rfl dX8_noRule_9 ?_
    refine lv_icmp_lt (tgt := 19) hx hb dX8_noRule_12 (by decide) (fun h9 => absurd h9 c_1) (fun _ => ?_)
    refine lv_iconst (v := 1) hx hb dX8_noRule_15 (by decide) ?_
    refine lv_goto (tgt := 20) hx hb dX8_noRule_16 (by decide) ?_
    exact ret_z hx hb hr hlk hS (Nat.le_of_ble_eq_true rfl) (Nat.le_of_ble_eq_true rfl) (by decide) () (rfl) (hP.sub [0, 1] rfl) (hD.sub [0, 1] (by decide) rfl) dX8_noRule_20

set_option maxHeartbeats 4000000 in
set_option maxRecDepth 100000 in
theorem k_X8_noOp (l : Launch) (D : va_G) (cs : Nat → ClassId) (sz : Nat) (a0 : Nat) (k : Int32) (aT : Nat) (aD : Nat) (aO : Nat) (aR : Nat) (aS : Nat) (aJ : Nat) (aC : Nat) (aI : Nat) (aK : Nat) (aL : Nat) (o1 : Nat) (o2 : Nat) (o3 : Nat) (o4 : Nat) (o5 : Nat)  : Mi l D cs yX8_noOp W_X8_noOp 0 0 0 0 [.ref a0, .int k] [(a0, .inr (8, [.ref aT, .ref aD, .ref aO, .ref aR, .ref aS, .ref aJ, .ref aC, .ref aI, .ref aK, .ref aL])), (aO, .inr (0, [.int 0, .int 0, .int 0, .int 0, .int 0, .int 0, .int 0, .int 0, .int 0, .int 0, .ref o1, .ref o2, .ref o3, .ref o4, .ref o5]))] sz (fun (r : Int32) (u : Unit) => r = 1) (fun (u : Unit) => [(a0, .inr (8, [.ref aT, .ref aD, .ref aO, .ref aR, .ref aS, .ref aJ, .ref aC, .ref aI, .ref aK, .ref aL])), (aO, .inr (0, [.int 0, .int 0, .int 0, .int 0, .int 0, .int 0, .int 0, .int 0, .int 0, .int 0, .ref o1, .ref o2, .ref o3, .ref o4, .ref o5]))]) := by
  refine ent (D := D) (cs := cs) (y := yX8_noOp) (ws := W_X8_noOp) (As := [.ref a0, .int k]) (W0 := [(a0, .inr (8, [.ref aT, .ref aD, .ref aO, .ref aR, .ref aS, .ref aJ, .ref aC, .ref aI, .ref aK, .ref aL])), (aO, .inr (0, [.int 0, .int 0, .int 0, .int 0, .int 0, .int 0, .int 0, .int 0, .int 0, .int 0, .ref o1, .ref o2, .ref o3, .ref o4, .ref o5]))]) (Qx := fun A => va_Qi (fun (r : Int32) (u : Unit) => r = 1) (mpost D A (fun (u : Unit) => [(a0, .inr (8, [.ref aT, .ref aD, .ref aO, .ref aR, .ref aS, .ref aJ, .ref aC, .ref aI, .ref aK, .ref aL])), (aO, .inr (0, [.int 0, .int 0, .int 0, .int 0, .int 0, .int 0, .int 0, .int 0, .int 0, .int 0, .ref o1, .ref o2, .ref o3, .ref o4, .ref o5]))])) A) (maxL := 2) (ret := (some .boolean)) (by decide) rfl (Nat.le_of_ble_eq_true rfl) ?_
  intro p e s m below meth c A ls hx hb hr hml hlk hown hts hin hK hE hP hD hA hS hl
  have hl : lv_has ls 2 [(0, .ref a0), (1, .int k)] := hl
  generalize hHe : s.heap = H at hP
  have hS : va_S A s.heap H [] := hHe ▸ hS
  have htw : ∀ w ∈ O_X8_noOp, w.before ([.ref a0, .int k] : List Value).toArray s = true := fun w h => hts w (List.mem_cons_of_mem _ (List.mem_append_left _ h))
  have hFix := (⟨hx, hb, hml, hown, hts⟩ : CallFix p m c _ _ s _ _ _)
  refine lv_iload_n hx hb dX8_noOp_0 rfl (lv_at hl 1 rfl) ?_
  refine lv_if_lt (tgt := 15) hx hb dX8_noOp_1 (by decide) (fun c_1 => ?_) (fun c_1 => ?_)
  ·
    refine lv_iconst (v := 1) hx hb dX8_noOp_15 (by decide) ?_
    refine lv_goto (tgt := 20) hx hb dX8_noOp_16 (by decide) ?_
    exact ret_z hx hb hr hlk hS (Nat.le_of_ble_eq_true rfl) (Nat.le_of_ble_eq_true rfl) (by decide) () (rfl) (hP.sub [0, 1] rfl) (hD.sub [0, 1] (by decide) rfl) dX8_noOp_20
  ·
    refine lv_iload_n hx hb dX8_noOp_4 rfl (lv_at hl 1 rfl) ?_
    refine lv_aload_n hx hb dX8_noOp_5 rfl (lv_at hl 0 rfl) ?_
    refine va_get (D := D) (ci := 8) (v := .ref aO) (C := RX8) (T := TX8) (N := 10) hx hb hts iuX8_noOp_X8 hown hK hP 0 rfl rfl 2 (by decide) (htw (.fieldLink RX8 23 "MergeJudge" "told" "LMergeJudge$Base;") (List.mem_of_getElem? (i := 0) rfl)) (fun _ h9 => h9) rfl dX8_noOp_6 ?_
    refine va_get (D := D) (ci := 0) (v := .int 0) (C := RX0) (T := TX0) (N := 15) hx hb hts iuX8_noOp_X0 hown hK hP 1 rfl rfl 6 (by decide) (htw (.fieldLink RX8 183 "MergeJudge$Base" "ops" "I") (List.mem_of_getElem? (i := 1) rfl)) (fun _ h9 => h9) rfl dX8_noOp_9 ?_
    refine lv_icmp_lt (tgt := 19) hx hb dX8_noOp_12 (by decide) (fun h9 => absurd h9 c_1) (fun _ => ?_)
    refine lv_iconst (v := 1) hx hb dX8_noOp_15 (by decide) ?_
    refine lv_goto (tgt := 20) hx hb dX8_noOp_16 (by decide) ?_
    exact ret_z hx hb hr hlk hS (Nat.le_of_ble_eq_true rfl) (Nat.le_of_ble_eq_true rfl) (by decide) () (rfl) (hP.sub [0, 1] rfl) (hD.sub [0, 1] (by decide) rfl) dX8_noOp_20

set_option maxHeartbeats 4000000 in
set_option maxRecDepth 100000 in
theorem k_X8_noState (l : Launch) (D : va_G) (cs : Nat → ClassId) (sz : Nat) (a0 : Nat) (k : Int32) (aT : Nat) (aD : Nat) (aO : Nat) (aR : Nat) (aS : Nat) (aJ : Nat) (aC : Nat) (aI : Nat) (aK : Nat) (aL : Nat) (s1 : Nat) (s2 : Nat) (s3 : Nat) (s4 : Nat)  : Mi l D cs yX8_noState W_X8_noState 0 0 0 0 [.ref a0, .int k] [(a0, .inr (8, [.ref aT, .ref aD, .ref aO, .ref aR, .ref aS, .ref aJ, .ref aC, .ref aI, .ref aK, .ref aL])), (aS, .inr (6, [.int 0, .int 0, .int 0, .long 0, .ref s1, .ref s2, .ref s3, .ref s4]))] sz (fun (r : Int32) (u : Unit) => r = 1) (fun (u : Unit) => [(a0, .inr (8, [.ref aT, .ref aD, .ref aO, .ref aR, .ref aS, .ref aJ, .ref aC, .ref aI, .ref aK, .ref aL])), (aS, .inr (6, [.int 0, .int 0, .int 0, .long 0, .ref s1, .ref s2, .ref s3, .ref s4]))]) := by
  refine ent (D := D) (cs := cs) (y := yX8_noState) (ws := W_X8_noState) (As := [.ref a0, .int k]) (W0 := [(a0, .inr (8, [.ref aT, .ref aD, .ref aO, .ref aR, .ref aS, .ref aJ, .ref aC, .ref aI, .ref aK, .ref aL])), (aS, .inr (6, [.int 0, .int 0, .int 0, .long 0, .ref s1, .ref s2, .ref s3, .ref s4]))]) (Qx := fun A => va_Qi (fun (r : Int32) (u : Unit) => r = 1) (mpost D A (fun (u : Unit) => [(a0, .inr (8, [.ref aT, .ref aD, .ref aO, .ref aR, .ref aS, .ref aJ, .ref aC, .ref aI, .ref aK, .ref aL])), (aS, .inr (6, [.int 0, .int 0, .int 0, .long 0, .ref s1, .ref s2, .ref s3, .ref s4]))])) A) (maxL := 2) (ret := (some .boolean)) (by decide) rfl (Nat.le_of_ble_eq_true rfl) ?_
  intro p e s m below meth c A ls hx hb hr hml hlk hown hts hin hK hE hP hD hA hS hl
  have hl : lv_has ls 2 [(0, .ref a0), (1, .int k)] := hl
  generalize hHe : s.heap = H at hP
  have hS : va_S A s.heap H [] := hHe ▸ hS
  have htw : ∀ w ∈ O_X8_noState, w.before ([.ref a0, .int k] : List Value).toArray s = true := fun w h => hts w (List.mem_cons_of_mem _ (List.mem_append_left _ h))
  have hFix := (⟨hx, hb, hml, hown, hts⟩ : CallFix p m c _ _ s _ _ _)
  refine lv_iload_n hx hb dX8_noState_0 rfl (lv_at hl 1 rfl) ?_
  refine lv_if_lt (tgt := 15) hx hb dX8_noState_1 (by decide) (fun c_1 => ?_) (fun c_1 => ?_)
  ·
    refine lv_iconst (v := 1) hx hb dX8_noState_15 (by decide) ?_
    refine lv_goto (tgt := 20) hx hb dX8_noState_16 (by decide) ?_
    exact ret_z hx hb hr hlk hS (Nat.le_of_ble_eq_true rfl) (Nat.le_of_ble_eq_true rfl) (by decide) () (rfl) (hP.sub [0, 1] rfl) (hD.sub [0, 1] (by decide) rfl) dX8_noState_20
  ·
    refine lv_iload_n hx hb dX8_noState_4 rfl (lv_at hl 1 rfl) ?_
    refine lv_aload_n hx hb dX8_noState_5 rfl (lv_at hl 0 rfl) ?_
    refine va_get (D := D) (ci := 8) (v := .ref aS) (C := RX8) (T := TX8) (N := 10) hx hb hts iuX8_noState_X8 hown hK hP 0 rfl rfl 4 (by decide) (htw (.fieldLink RX8 38 "MergeJudge" "space" "LMergeJudge$Space;") (List.mem_of_getElem? (i := 0) rfl)) (fun _ h9 => h9) rfl dX8_noState_6 ?_
    refine va_get (D := D) (ci := 6) (v := .int 0) (C := RX6) (T := TX6) (N := 8) hx hb hts iuX8_noState_X6 hown hK hP 1 rfl rfl 0 (by decide) (htw (.fieldLink RX8 123 "MergeJudge$Space" "size" "I") (List.mem_of_getElem? (i := 1) rfl)) (fun _ h9 => h9) rfl dX8_noState_9 ?_
    refine lv_icmp_lt (tgt := 19) hx hb dX8_noState_12 (by decide) (fun h9 => absurd h9 c_1) (fun _ => ?_)
    refine lv_iconst (v := 1) hx hb dX8_noState_15 (by decide) ?_
    refine lv_goto (tgt := 20) hx hb dX8_noState_16 (by decide) ?_
    exact ret_z hx hb hr hlk hS (Nat.le_of_ble_eq_true rfl) (Nat.le_of_ble_eq_true rfl) (by decide) () (rfl) (hP.sub [0, 1] rfl) (hD.sub [0, 1] (by decide) rfl) dX8_noState_20

set_option maxHeartbeats 4000000 in
set_option maxRecDepth 100000 in
theorem k_X8_isTold (l : Launch) (D : va_G) (cs : Nat → ClassId) (sz : Nat) (a0 : Nat) (aT : Nat) (aD : Nat) (aO : Nat) (aR : Nat) (aS : Nat) (aJ : Nat) (aC : Nat) (aI : Nat) (aK : Nat) (aL : Nat) (o1 : Nat) (o2 : Nat) (o3 : Nat) (o4 : Nat) (o5 : Nat)  : Mi l D cs yX8_isTold W_X8_isTold 0 0 0 0 [.ref a0] [(a0, .inr (8, [.ref aT, .ref aD, .ref aO, .ref aR, .ref aS, .ref aJ, .ref aC, .ref aI, .ref aK, .ref aL])), (aO, .inr (0, [.int 0, .int 0, .int 0, .int 0, .int 0, .int 0, .int 0, .int 0, .int 0, .int 0, .ref o1, .ref o2, .ref o3, .ref o4, .ref o5]))] sz (fun (r : Int32) (u : Unit) => r = 0) (fun (u : Unit) => [(a0, .inr (8, [.ref aT, .ref aD, .ref aO, .ref aR, .ref aS, .ref aJ, .ref aC, .ref aI, .ref aK, .ref aL])), (aO, .inr (0, [.int 0, .int 0, .int 0, .int 0, .int 0, .int 0, .int 0, .int 0, .int 0, .int 0, .ref o1, .ref o2, .ref o3, .ref o4, .ref o5]))]) := by
  refine ent (D := D) (cs := cs) (y := yX8_isTold) (ws := W_X8_isTold) (As := [.ref a0]) (W0 := [(a0, .inr (8, [.ref aT, .ref aD, .ref aO, .ref aR, .ref aS, .ref aJ, .ref aC, .ref aI, .ref aK, .ref aL])), (aO, .inr (0, [.int 0, .int 0, .int 0, .int 0, .int 0, .int 0, .int 0, .int 0, .int 0, .int 0, .ref o1, .ref o2, .ref o3, .ref o4, .ref o5]))]) (Qx := fun A => va_Qi (fun (r : Int32) (u : Unit) => r = 0) (mpost D A (fun (u : Unit) => [(a0, .inr (8, [.ref aT, .ref aD, .ref aO, .ref aR, .ref aS, .ref aJ, .ref aC, .ref aI, .ref aK, .ref aL])), (aO, .inr (0, [.int 0, .int 0, .int 0, .int 0, .int 0, .int 0, .int 0, .int 0, .int 0, .int 0, .ref o1, .ref o2, .ref o3, .ref o4, .ref o5]))])) A) (maxL := 1) (ret := (some .boolean)) (by decide) rfl (Nat.le_of_ble_eq_true rfl) ?_
  intro p e s m below meth c A ls hx hb hr hml hlk hown hts hin hK hE hP hD hA hS hl
  have hl : lv_has ls 1 [(0, .ref a0)] := hl
  generalize hHe : s.heap = H at hP
  have hS : va_S A s.heap H [] := hHe ▸ hS
  have htw : ∀ w ∈ O_X8_isTold, w.before ([.ref a0] : List Value).toArray s = true := fun w h => hts w (List.mem_cons_of_mem _ (List.mem_append_left _ h))
  have hFix := (⟨hx, hb, hml, hown, hts⟩ : CallFix p m c _ _ s _ _ _)
  refine lv_aload_n hx hb dX8_isTold_0 rfl (lv_at hl 0 rfl) ?_
  refine va_get (D := D) (ci := 8) (v := .ref aO) (C := RX8) (T := TX8) (N := 10) hx hb hts iuX8_isTold_X8 hown hK hP 0 rfl rfl 2 (by decide) (htw (.fieldLink RX8 23 "MergeJudge" "told" "LMergeJudge$Base;") (List.mem_of_getElem? (i := 0) rfl)) (fun _ h9 => h9) rfl dX8_isTold_1 ?_
  refine va_get (D := D) (ci := 0) (v := .int 0) (C := RX0) (T := TX0) (N := 15) hx hb hts iuX8_isTold_X0 hown hK hP 1 rfl rfl 0 (by decide) (htw (.fieldLink RX8 91 "MergeJudge$Base" "lines" "I") (List.mem_of_getElem? (i := 1) rfl)) (fun _ h9 => h9) rfl dX8_isTold_4 ?_
  refine lv_if_le (tgt := 14) hx hb dX8_isTold_7 (by decide) (fun _ => ?_) (fun h9 => absurd h9 (by decide))
  refine lv_iconst (v := 0) hx hb dX8_isTold_14 (by decide) ?_
  exact ret_z hx hb hr hlk hS (Nat.le_of_ble_eq_true rfl) (Nat.le_of_ble_eq_true rfl) (by decide) () (rfl) (hP.sub [0, 1] rfl) (hD.sub [0, 1] (by decide) rfl) dX8_isTold_15

set_option maxHeartbeats 4000000 in
set_option maxRecDepth 100000 in
theorem k_X8_noDepth (l : Launch) (D : va_G) (cs : Nat → ClassId) (sz : Nat) (a0 : Nat) (k : Int32) (aT : Nat) (aD : Nat) (aO : Nat) (aR : Nat) (aS : Nat) (aJ : Nat) (aC : Nat) (aI : Nat) (aK : Nat) (aL : Nat) (o1 : Nat) (o2 : Nat) (o3 : Nat) (o4 : Nat) (o5 : Nat)  : Mi l D cs yX8_noDepth W_X8_noDepth 1 20 0 0 [.ref a0, .int k] [(a0, .inr (8, [.ref aT, .ref aD, .ref aO, .ref aR, .ref aS, .ref aJ, .ref aC, .ref aI, .ref aK, .ref aL])), (aO, .inr (0, [.int 0, .int 0, .int 0, .int 0, .int 0, .int 0, .int 0, .int 0, .int 0, .int 0, .ref o1, .ref o2, .ref o3, .ref o4, .ref o5]))] sz (fun (r : Int32) (u : Unit) => r = 1) (fun (u : Unit) => [(a0, .inr (8, [.ref aT, .ref aD, .ref aO, .ref aR, .ref aS, .ref aJ, .ref aC, .ref aI, .ref aK, .ref aL])), (aO, .inr (0, [.int 0, .int 0, .int 0, .int 0, .int 0, .int 0, .int 0, .int 0, .int 0, .int 0, .ref o1, .ref o2, .ref o3, .ref o4, .ref o5]))]) := by
  refine ent (D := D) (cs := cs) (y := yX8_noDepth) (ws := W_X8_noDepth) (As := [.ref a0, .int k]) (W0 := [(a0, .inr (8, [.ref aT, .ref aD, .ref aO, .ref aR, .ref aS, .ref aJ, .ref aC, .ref aI, .ref aK, .ref aL])), (aO, .inr (0, [.int 0, .int 0, .int 0, .int 0, .int 0, .int 0, .int 0, .int 0, .int 0, .int 0, .ref o1, .ref o2, .ref o3, .ref o4, .ref o5]))]) (Qx := fun A => va_Qi (fun (r : Int32) (u : Unit) => r = 1) (mpost D A (fun (u : Unit) => [(a0, .inr (8, [.ref aT, .ref aD, .ref aO, .ref aR, .ref aS, .ref aJ, .ref aC, .ref aI, .ref aK, .ref aL])), (aO, .inr (0, [.int 0, .int 0, .int 0, .int 0, .int 0, .int 0, .int 0, .int 0, .int 0, .int 0, .ref o1, .ref o2, .ref o3, .ref o4, .ref o5]))])) A) (maxL := 2) (ret := (some .boolean)) (by decide) rfl (Nat.le_of_ble_eq_true rfl) ?_
  intro p e s m below meth c A ls hx hb hr hml hlk hown hts hin hK hE hP hD hA hS hl
  have hl : lv_has ls 2 [(0, .ref a0), (1, .int k)] := hl
  generalize hHe : s.heap = H at hP
  have hS : va_S A s.heap H [] := hHe ▸ hS
  have htw : ∀ w ∈ O_X8_noDepth, w.before ([.ref a0, .int k] : List Value).toArray s = true := fun w h => hts w (List.mem_cons_of_mem _ (List.mem_append_left _ h))
  have hFix := (⟨hx, hb, hml, hown, hts⟩ : CallFix p m c _ _ s _ _ _)
  refine lv_aload_n hx hb dX8_noDepth_0 rfl (lv_at hl 0 rfl) ?_
  refine aft_i (wr := []) hP hD hS hA [0, 1] [] rfl rfl (by decide) (by decide) (run_v (As := []) (rest := []) hFix hK hE hP hD [0, 1] (k_X8_isTold l D cs _ a0 aT aD aO aR aS aJ aC aI aK aL o1 o2 o3 o4 o5) (cwV 0 hts gc_X8_noDepth_120_X8_isTold rfl rfl rfl (by decide +kernel) ⟨Nat.le_of_ble_eq_true rfl, Nat.le_of_ble_eq_true rfl⟩) rfl (by decide) rfl rfl rfl hl.1 rfl (Nat.le_of_ble_eq_true rfl) dX8_noDepth_1 ⟨Nat.le_of_ble_eq_true rfl, Nat.le_of_ble_eq_true rfl⟩) (fun r_1 u_1 H locs hq_1 hP hD hS => ?_)
  have hP : va_P D vwCl [(a0, .inr (8, [.ref aT, .ref aD, .ref aO, .ref aR, .ref aS, .ref aJ, .ref aC, .ref aI, .ref aK, .ref aL])), (aO, .inr (0, [.int 0, .int 0, .int 0, .int 0, .int 0, .int 0, .int 0, .int 0, .int 0, .int 0, .ref o1, .ref o2, .ref o3, .ref o4, .ref o5]))] H := hP
  have hD : va_D A [(a0, .inr (8, [.ref aT, .ref aD, .ref aO, .ref aR, .ref aS, .ref aJ, .ref aC, .ref aI, .ref aK, .ref aL])), (aO, .inr (0, [.int 0, .int 0, .int 0, .int 0, .int 0, .int 0, .int 0, .int 0, .int 0, .int 0, .ref o1, .ref o2, .ref o3, .ref o4, .ref o5]))] := hD
  replace hq_1 : r_1 = 0 := hq_1
  subst hq_1
  refine lv_if_eq (tgt := 16) hx hb dX8_noDepth_4 (by decide) (fun _ => ?_) (fun h9 => absurd h9 (by decide))
  refine lv_iconst (v := 1) hx hb dX8_noDepth_16 (by decide) ?_
  refine lv_goto (tgt := 21) hx hb dX8_noDepth_17 (by decide) ?_
  exact ret_z hx hb hr hlk hS (Nat.le_of_ble_eq_true rfl) (Nat.le_of_ble_eq_true rfl) (by decide) () (rfl) (hP.sub [0, 1] rfl) (hD.sub [0, 1] (by decide) rfl) dX8_noDepth_21

set_option maxHeartbeats 4000000 in
set_option maxRecDepth 100000 in
theorem k_X8_noGame (l : Launch) (D : va_G) (cs : Nat → ClassId) (sz : Nat) (a0 : Nat) (k : Int32) (k2 : Int32) (aT : Nat) (aD : Nat) (aO : Nat) (aR : Nat) (aS : Nat) (aJ : Nat) (aC : Nat) (aI : Nat) (aK : Nat) (aL : Nat) (o1 : Nat) (o2 : Nat) (o3 : Nat) (o4 : Nat) (o5 : Nat)  : Mi l D cs yX8_noGame W_X8_noGame 1 21 0 0 [.ref a0, .int k, .int k2] [(a0, .inr (8, [.ref aT, .ref aD, .ref aO, .ref aR, .ref aS, .ref aJ, .ref aC, .ref aI, .ref aK, .ref aL])), (aO, .inr (0, [.int 0, .int 0, .int 0, .int 0, .int 0, .int 0, .int 0, .int 0, .int 0, .int 0, .ref o1, .ref o2, .ref o3, .ref o4, .ref o5]))] sz (fun (r : Int32) (u : Unit) => r = 1) (fun (u : Unit) => [(a0, .inr (8, [.ref aT, .ref aD, .ref aO, .ref aR, .ref aS, .ref aJ, .ref aC, .ref aI, .ref aK, .ref aL])), (aO, .inr (0, [.int 0, .int 0, .int 0, .int 0, .int 0, .int 0, .int 0, .int 0, .int 0, .int 0, .ref o1, .ref o2, .ref o3, .ref o4, .ref o5]))]) := by
  refine ent (D := D) (cs := cs) (y := yX8_noGame) (ws := W_X8_noGame) (As := [.ref a0, .int k, .int k2]) (W0 := [(a0, .inr (8, [.ref aT, .ref aD, .ref aO, .ref aR, .ref aS, .ref aJ, .ref aC, .ref aI, .ref aK, .ref aL])), (aO, .inr (0, [.int 0, .int 0, .int 0, .int 0, .int 0, .int 0, .int 0, .int 0, .int 0, .int 0, .ref o1, .ref o2, .ref o3, .ref o4, .ref o5]))]) (Qx := fun A => va_Qi (fun (r : Int32) (u : Unit) => r = 1) (mpost D A (fun (u : Unit) => [(a0, .inr (8, [.ref aT, .ref aD, .ref aO, .ref aR, .ref aS, .ref aJ, .ref aC, .ref aI, .ref aK, .ref aL])), (aO, .inr (0, [.int 0, .int 0, .int 0, .int 0, .int 0, .int 0, .int 0, .int 0, .int 0, .int 0, .ref o1, .ref o2, .ref o3, .ref o4, .ref o5]))])) A) (maxL := 3) (ret := (some .boolean)) (by decide) rfl (Nat.le_of_ble_eq_true rfl) ?_
  intro p e s m below meth c A ls hx hb hr hml hlk hown hts hin hK hE hP hD hA hS hl
  have hl : lv_has ls 3 [(0, .ref a0), (1, .int k), (2, .int k2)] := hl
  generalize hHe : s.heap = H at hP
  have hS : va_S A s.heap H [] := hHe ▸ hS
  have htw : ∀ w ∈ O_X8_noGame, w.before ([.ref a0, .int k, .int k2] : List Value).toArray s = true := fun w h => hts w (List.mem_cons_of_mem _ (List.mem_append_left _ h))
  have hFix := (⟨hx, hb, hml, hown, hts⟩ : CallFix p m c _ _ s _ _ _)
  refine lv_aload_n hx hb dX8_noGame_0 rfl (lv_at hl 0 rfl) ?_
  refine lv_iload_n hx hb dX8_noGame_1 rfl (lv_at hl 1 rfl) ?_
  refine aft_i (wr := []) hP hD hS hA [0, 1] [] rfl rfl (by decide) (by decide) (run_v (As := [.int k]) (rest := []) hFix hK hE hP hD [0, 1] (k_X8_noOp l D cs _ a0 k aT aD aO aR aS aJ aC aI aK aL o1 o2 o3 o4 o5) (cwV 1 hts gc_X8_noGame_114_X8_noOp rfl rfl rfl (by decide +kernel) ⟨Nat.le_of_ble_eq_true rfl, Nat.le_of_ble_eq_true rfl⟩) rfl (by decide) rfl rfl rfl hl.1 rfl (Nat.le_of_ble_eq_true rfl) dX8_noGame_2 ⟨Nat.le_of_ble_eq_true rfl, Nat.le_of_ble_eq_true rfl⟩) (fun r_1 u_1 H locs hq_1 hP hD hS => ?_)
  have hP : va_P D vwCl [(a0, .inr (8, [.ref aT, .ref aD, .ref aO, .ref aR, .ref aS, .ref aJ, .ref aC, .ref aI, .ref aK, .ref aL])), (aO, .inr (0, [.int 0, .int 0, .int 0, .int 0, .int 0, .int 0, .int 0, .int 0, .int 0, .int 0, .ref o1, .ref o2, .ref o3, .ref o4, .ref o5]))] H := hP
  have hD : va_D A [(a0, .inr (8, [.ref aT, .ref aD, .ref aO, .ref aR, .ref aS, .ref aJ, .ref aC, .ref aI, .ref aK, .ref aL])), (aO, .inr (0, [.int 0, .int 0, .int 0, .int 0, .int 0, .int 0, .int 0, .int 0, .int 0, .int 0, .ref o1, .ref o2, .ref o3, .ref o4, .ref o5]))] := hD
  replace hq_1 : r_1 = 1 := hq_1
  subst hq_1
  refine lv_if_ne (tgt := 21) hx hb dX8_noGame_5 (by decide) (fun _ => ?_) (fun h9 => absurd h9 (by decide))
  refine lv_iconst (v := 1) hx hb dX8_noGame_21 (by decide) ?_
  refine lv_goto (tgt := 26) hx hb dX8_noGame_22 (by decide) ?_
  exact ret_z hx hb hr hlk hS (Nat.le_of_ble_eq_true rfl) (Nat.le_of_ble_eq_true rfl) (by decide) () (rfl) (hP.sub [0, 1] rfl) (hD.sub [0, 1] (by decide) rfl) dX8_noGame_26

set_option maxHeartbeats 4000000 in
set_option maxRecDepth 100000 in
theorem k_X8_noSlot (l : Launch) (D : va_G) (cs : Nat → ClassId) (sz : Nat) (a0 : Nat) (k : Int32) (aT : Nat) (aD : Nat) (aO : Nat) (aR : Nat) (aS : Nat) (aJ : Nat) (aC : Nat) (aI : Nat) (aK : Nat) (aL : Nat)  : Mi l D cs yX8_noSlot W_X8_noSlot 0 0 0 0 [.ref a0, .int k] [(a0, .inr (8, [.ref aT, .ref aD, .ref aO, .ref aR, .ref aS, .ref aJ, .ref aC, .ref aI, .ref aK, .ref aL]))] sz (fun (r : Int32) (u : Unit) => (r = 1 ∧ ¬ (0 ≤ k.toInt ∧ k.toInt ≤ 3)) ∨ (r = 0 ∧ (0 ≤ k.toInt ∧ k.toInt ≤ 3))) (fun (u : Unit) => [(a0, .inr (8, [.ref aT, .ref aD, .ref aO, .ref aR, .ref aS, .ref aJ, .ref aC, .ref aI, .ref aK, .ref aL]))]) := by
  refine ent (D := D) (cs := cs) (y := yX8_noSlot) (ws := W_X8_noSlot) (As := [.ref a0, .int k]) (W0 := [(a0, .inr (8, [.ref aT, .ref aD, .ref aO, .ref aR, .ref aS, .ref aJ, .ref aC, .ref aI, .ref aK, .ref aL]))]) (Qx := fun A => va_Qi (fun (r : Int32) (u : Unit) => (r = 1 ∧ ¬ (0 ≤ k.toInt ∧ k.toInt ≤ 3)) ∨ (r = 0 ∧ (0 ≤ k.toInt ∧ k.toInt ≤ 3))) (mpost D A (fun (u : Unit) => [(a0, .inr (8, [.ref aT, .ref aD, .ref aO, .ref aR, .ref aS, .ref aJ, .ref aC, .ref aI, .ref aK, .ref aL]))])) A) (maxL := 2) (ret := (some .boolean)) (by decide) rfl (Nat.le_of_ble_eq_true rfl) ?_
  intro p e s m below meth c A ls hx hb hr hml hlk hown hts hin hK hE hP hD hA hS hl
  have hl : lv_has ls 2 [(0, .ref a0), (1, .int k)] := hl
  generalize hHe : s.heap = H at hP
  have hS : va_S A s.heap H [] := hHe ▸ hS
  have htw : ∀ w ∈ O_X8_noSlot, w.before ([.ref a0, .int k] : List Value).toArray s = true := fun w h => hts w (List.mem_cons_of_mem _ h)
  have hFix := (⟨hx, hb, hml, hown, hts⟩ : CallFix p m c _ _ s _ _ _)
  refine lv_iload_n hx hb dX8_noSlot_0 rfl (lv_at hl 1 rfl) ?_
  refine lv_if_lt (tgt := 9) hx hb dX8_noSlot_1 (by decide) (fun c_1 => ?_) (fun c_1 => ?_)
  ·
    refine lv_iconst (v := 1) hx hb dX8_noSlot_9 (by decide) ?_
    refine lv_goto (tgt := 14) hx hb dX8_noSlot_10 (by decide) ?_
    exact ret_z hx hb hr hlk hS (Nat.le_of_ble_eq_true rfl) (Nat.le_of_ble_eq_true rfl) (by decide) () (Or.inl ⟨rfl, ns_1 c_1⟩) (hP.sub [0] rfl) (hD.sub [0] (by decide) rfl) dX8_noSlot_14
  ·
    refine lv_iload_n hx hb dX8_noSlot_4 rfl (lv_at hl 1 rfl) ?_
    refine lv_iconst (v := 4) hx hb dX8_noSlot_5 (by decide) ?_
    refine lv_icmp_lt (tgt := 13) hx hb dX8_noSlot_6 (by decide) (fun c_2 => ?_) (fun c_2 => ?_)
    ·
      refine lv_iconst (v := 0) hx hb dX8_noSlot_13 (by decide) ?_
      exact ret_z hx hb hr hlk hS (Nat.le_of_ble_eq_true rfl) (Nat.le_of_ble_eq_true rfl) (by decide) () (Or.inr (⟨rfl, ns_0 c_1 c_2⟩)) (hP.sub [0] rfl) (hD.sub [0] (by decide) rfl) dX8_noSlot_14
    ·
      refine lv_iconst (v := 1) hx hb dX8_noSlot_9 (by decide) ?_
      refine lv_goto (tgt := 14) hx hb dX8_noSlot_10 (by decide) ?_
      exact ret_z hx hb hr hlk hS (Nat.le_of_ble_eq_true rfl) (Nat.le_of_ble_eq_true rfl) (by decide) () (Or.inl ⟨rfl, ns_2 c_2⟩) (hP.sub [0] rfl) (hD.sub [0] (by decide) rfl) dX8_noSlot_14
