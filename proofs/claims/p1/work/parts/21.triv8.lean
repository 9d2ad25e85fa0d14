set_option maxHeartbeats 4000000 in
set_option maxRecDepth 100000 in
theorem k_X8_refusalOfRow (l : Launch) (D : va_G) (cs : Nat → ClassId) (sz : Nat) (a0 : Nat) (k : Int32) (aT : Nat) (aD : Nat) (aO : Nat) (aR : Nat) (aS : Nat) (aJ : Nat) (aC : Nat) (aI : Nat) (aK : Nat) (aL : Nat) (o1 : Nat) (o2 : Nat) (o3 : Nat) (o4 : Nat) (o5 : Nat)  : Mi l D cs yX8_refusalOfRow W_X8_refusalOfRow 1 20 0 0 [.ref a0, .int k] [(a0, .inr (8, [.ref aT, .ref aD, .ref aO, .ref aR, .ref aS, .ref aJ, .ref aC, .ref aI, .ref aK, .ref aL])), (aO, .inr (0, [.int 0, .int 0, .int 0, .int 0, .int 0, .int 0, .int 0, .int 0, .int 0, .int 0, .ref o1, .ref o2, .ref o3, .ref o4, .ref o5]))] sz (fun (r : Int32) (u : Unit) => r = (-2)) (fun (u : Unit) => [(a0, .inr (8, [.ref aT, .ref aD, .ref aO, .ref aR, .ref aS, .ref aJ, .ref aC, .ref aI, .ref aK, .ref aL])), (aO, .inr (0, [.int 0, .int 0, .int 0, .int 0, .int 0, .int 0, .int 0, .int 0, .int 0, .int 0, .ref o1, .ref o2, .ref o3, .ref o4, .ref o5]))]) := by
  refine ent (D := D) (cs := cs) (y := yX8_refusalOfRow) (ws := W_X8_refusalOfRow) (As := [.ref a0, .int k]) (W0 := [(a0, .inr (8, [.ref aT, .ref aD, .ref aO, .ref aR, .ref aS, .ref aJ, .ref aC, .ref aI, .ref aK, .ref aL])), (aO, .inr (0, [.int 0, .int 0, .int 0, .int 0, .int 0, .int 0, .int 0, .int 0, .int 0, .int 0, .ref o1, .ref o2, .ref o3, .ref o4, .ref o5]))]) (Qx := fun A => va_Qi (fun (r : Int32) (u : Unit) => r = (-2)) (mpost D A (fun (u : Unit) => [(a0, .inr (8, [.ref aT, .ref aD, .ref aO, .ref aR, .ref aS, .ref aJ, .ref aC, .ref aI, .ref aK, .ref aL])), (aO, .inr (0, [.int 0, .int 0, .int 0, .int 0, .int 0, .int 0, .int 0, .int 0, .int 0, .int 0, .ref o1, .ref o2, .ref o3, .ref o4, .ref o5]))])) A) (maxL := 4) (ret := (some .int)) (by decide) rfl (Nat.le_of_ble_eq_true rfl) ?_
  intro p e s m below meth c A ls hx hb hr hml hlk hown hts hin hK hE hP hD hA hS hl
  have hl : lv_has ls 4 [(0, .ref a0), (1, .int k)] := hl
  generalize hHe : s.heap = H at hP
  have hS : va_S A s.heap H [] := hHe ▸ hS
  have htw : ∀ w ∈ O_X8_refusalOfRow, w.before ([.ref a0, .int k] : List Value).toArray s = true := fun w h => hts w (List.mem_cons_of_mem _ (List.mem_append_left _ h))
  have hFix := (⟨hx, hb, hml, hown, hts⟩ : CallFix p m c _ _ s _ _ _)
  refine lv_aload_n hx hb dX8_refusalOfRow_0 rfl (lv_at hl 0 rfl) ?_
  refine aft_i (wr := []) hP hD hS hA [0, 1] [] rfl rfl (by decide) (by decide) (run_v (As := []) (rest := []) hFix hK hE hP hD [0, 1] (k_X8_isTold l D cs _ a0 aT aD aO aR aS aJ aC aI aK aL o1 o2 o3 o4 o5) (cwV 0 hts gc_X8_refusalOfRow_120_X8_isTold rfl rfl rfl (by decide +kernel) ⟨Nat.le_of_ble_eq_true rfl, Nat.le_of_ble_eq_true rfl⟩) rfl (by decide) rfl rfl rfl hl.1 rfl (Nat.le_of_ble_eq_true rfl) dX8_refusalOfRow_1 ⟨Nat.le_of_ble_eq_true rfl, Nat.le_of_ble_eq_true rfl⟩) (fun r_1 u_1 H locs hq_1 hP hD hS => ?_)
  have hP : va_P D vwCl [(a0, .inr (8, [.ref aT, .ref aD, .ref aO, .ref aR, .ref aS, .ref aJ, .ref aC, .ref aI, .ref aK, .ref aL])), (aO, .inr (0, [.int 0, .int 0, .int 0, .int 0, .int 0, .int 0, .int 0, .int 0, .int 0, .int 0, .ref o1, .ref o2, .ref o3, .ref o4, .ref o5]))] H := hP
  have hD : va_D A [(a0, .inr (8, [.ref aT, .ref aD, .ref aO, .ref aR, .ref aS, .ref aJ, .ref aC, .ref aI, .ref aK, .ref aL])), (aO, .inr (0, [.int 0, .int 0, .int 0, .int 0, .int 0, .int 0, .int 0, .int 0, .int 0, .int 0, .ref o1, .ref o2, .ref o3, .ref o4, .ref o5]))] := hD
  replace hq_1 : r_1 = 0 := hq_1
  subst hq_1
  refine lv_if_eq (tgt := 15) hx hb dX8_refusalOfRow_4 (by decide) (fun _ => ?_) (fun h9 => absurd h9 (by decide))
  refine lv_bipush (v := (-2)) hx hb dX8_refusalOfRow_15 (by decide) ?_
  exact ret_i hx hb hr hlk hS (Nat.le_of_ble_eq_true rfl) (Nat.le_of_ble_eq_true rfl) () (rfl) (hP.sub [0, 1] rfl) (hD.sub [0, 1] (by decide) rfl) dX8_refusalOfRow_17

set_option maxHeartbeats 4000000 in
set_option maxRecDepth 100000 in
theorem k_X8_cell (l : Launch) (D : va_G) (cs : Nat → ClassId) (sz : Nat) (a0 : Nat) (k : Int32) (aT : Nat) (aD : Nat) (aO : Nat) (aR : Nat) (aS : Nat) (aJ : Nat) (aC : Nat) (aI : Nat) (aK : Nat) (aL : Nat) (o1 : Nat) (o2 : Nat) (o3 : Nat) (o4 : Nat) (o5 : Nat) (s1 : Nat) (s2 : Nat) (s3 : Nat) (s4 : Nat)  : Mi l D cs yX8_cell W_X8_cell 1 21 0 0 [.ref a0, .int k] [(a0, .inr (8, [.ref aT, .ref aD, .ref aO, .ref aR, .ref aS, .ref aJ, .ref aC, .ref aI, .ref aK, .ref aL])), (aO, .inr (0, [.int 0, .int 0, .int 0, .int 0, .int 0, .int 0, .int 0, .int 0, .int 0, .int 0, .ref o1, .ref o2, .ref o3, .ref o4, .ref o5])), (aS, .inr (6, [.int 0, .int 0, .int 0, .long 0, .ref s1, .ref s2, .ref s3, .ref s4]))] sz (fun (r : Int32) (u : Unit) => r = (-2)) (fun (u : Unit) => []) := by
  refine ent (D := D) (cs := cs) (y := yX8_cell) (ws := W_X8_cell) (As := [.ref a0, .int k]) (W0 := [(a0, .inr (8, [.ref aT, .ref aD, .ref aO, .ref aR, .ref aS, .ref aJ, .ref aC, .ref aI, .ref aK, .ref aL])), (aO, .inr (0, [.int 0, .int 0, .int 0, .int 0, .int 0, .int 0, .int 0, .int 0, .int 0, .int 0, .ref o1, .ref o2, .ref o3, .ref o4, .ref o5])), (aS, .inr (6, [.int 0, .int 0, .int 0, .long 0, .ref s1, .ref s2, .ref s3, .ref s4]))]) (Qx := fun A => va_Qi (fun (r : Int32) (u : Unit) => r = (-2)) (mpost D A (fun (u : Unit) => [])) A) (maxL := 2) (ret := (some .int)) (by decide) rfl (Nat.le_of_ble_eq_true rfl) ?_
  intro p e s m below meth c A ls hx hb hr hml hlk hown hts hin hK hE hP hD hA hS hl
  have hl : lv_has ls 2 [(0, .ref a0), (1, .int k)] := hl
  generalize hHe : s.heap = H at hP
  have hS : va_S A s.heap H [] := hHe ▸ hS
  have htw : ∀ w ∈ O_X8_cell, w.before ([.ref a0, .int k] : List Value).toArray s = true := fun w h => hts w (List.mem_cons_of_mem _ (List.mem_append_left _ h))
  have hFix := (⟨hx, hb, hml, hown, hts⟩ : CallFix p m c _ _ s _ _ _)
  refine lv_aload_n hx hb dX8_cell_0 rfl (lv_at hl 0 rfl) ?_
  refine lv_iload_n hx hb dX8_cell_1 rfl (lv_at hl 1 rfl) ?_
  refine aft_i (wr := [(aS, .inr (6, [.int 0, .int 0, .int 0, .long 0, .ref s1, .ref s2, .ref s3, .ref s4]))]) hP hD hS hA [0, 1] [2] rfl rfl (by decide) (by decide) (run_v (As := [.int k]) (rest := []) hFix hK hE hP hD [0, 1] (k_X8_noCell l D cs _ a0 k aT aD aO aR aS aJ aC aI aK aL o1 o2 o3 o4 o5) (cwV 1 hts gc_X8_cell_100_X8_noCell rfl rfl rfl (by decide +kernel) ⟨Nat.le_of_ble_eq_true rfl, Nat.le_of_ble_eq_true rfl⟩) rfl (by decide) rfl rfl rfl hl.1 rfl (Nat.le_of_ble_eq_true rfl) dX8_cell_2 ⟨Nat.le_of_ble_eq_true rfl, Nat.le_of_ble_eq_true rfl⟩) (fun r_1 u_1 H locs hq_1 hP hD hS => ?_)
  have hP : va_P D vwCl [(aS, .inr (6, [.int 0, .int 0, .int 0, .long 0, .ref s1, .ref s2, .ref s3, .ref s4])), (a0, .inr (8, [.ref aT, .ref aD, .ref aO, .ref aR, .ref aS, .ref aJ, .ref aC, .ref aI, .ref aK, .ref aL])), (aO, .inr (0, [.int 0, .int 0, .int 0, .int 0, .int 0, .int 0, .int 0, .int 0, .int 0, .int 0, .ref o1, .ref o2, .ref o3, .ref o4, .ref o5]))] H := hP
  have hD : va_D A [(aS, .inr (6, [.int 0, .int 0, .int 0, .long 0, .ref s1, .ref s2, .ref s3, .ref s4])), (a0, .inr (8, [.ref aT, .ref aD, .ref aO, .ref aR, .ref aS, .ref aJ, .ref aC, .ref aI, .ref aK, .ref aL])), (aO, .inr (0, [.int 0, .int 0, .int 0, .int 0, .int 0, .int 0, .int 0, .int 0, .int 0, .int 0, .ref o1, .ref o2, .ref o3, .ref o4, .ref o5]))] := hD
  replace hq_1 : r_1 = 1 := hq_1
  subst hq_1
  refine lv_if_eq (tgt := 13) hx hb dX8_cell_5 (by decide) (fun h9 => absurd h9 (by decide)) (fun _ => ?_)
  refine lv_bipush (v := (-2)) hx hb dX8_cell_8 (by decide) ?_
  refine lv_goto (tgt := 22) hx hb dX8_cell_10 (by decide) ?_
  exact ret_i hx hb hr hlk hS (Nat.le_of_ble_eq_true rfl) (Nat.le_of_ble_eq_true rfl) () (rfl) (hP.sub [] rfl) (hD.sub [] (by decide) rfl) dX8_cell_22

set_option maxHeartbeats 4000000 in
set_option maxRecDepth 100000 in
theorem k_X8_rule (l : Launch) (D : va_G) (cs : Nat → ClassId) (sz : Nat) (a0 : Nat) (k : Int32) (k2 : Int32) (aT : Nat) (aD : Nat) (aO : Nat) (aR : Nat) (aS : Nat) (aJ : Nat) (aC : Nat) (aI : Nat) (aK : Nat) (aL : Nat) (o1 : Nat) (o2 : Nat) (o3 : Nat) (o4 : Nat) (o5 : Nat) (s1 : Nat) (s2 : Nat) (s3 : Nat) (s4 : Nat)  : Mi l D cs yX8_rule W_X8_rule 1 21 0 0 [.ref a0, .int k, .int k2] [(a0, .inr (8, [.ref aT, .ref aD, .ref aO, .ref aR, .ref aS, .ref aJ, .ref aC, .ref aI, .ref aK, .ref aL])), (aO, .inr (0, [.int 0, .int 0, .int 0, .int 0, .int 0, .int 0, .int 0, .int 0, .int 0, .int 0, .ref o1, .ref o2, .ref o3, .ref o4, .ref o5])), (aS, .inr (6, [.int 0, .int 0, .int 0, .long 0, .ref s1, .ref s2, .ref s3, .ref s4]))] sz (fun (r : Int32) (u : Unit) => r = (-2)) (fun (u : Unit) => []) := by
  refine ent (D := D) (cs := cs) (y := yX8_rule) (ws := W_X8_rule) (As := [.ref a0, .int k, .int k2]) (W0 := [(a0, .inr (8, [.ref aT, .ref aD, .ref aO, .ref aR, .ref aS, .ref aJ, .ref aC, .ref aI, .ref aK, .ref aL])), (aO, .inr (0, [.int 0, .int 0, .int 0, .int 0, .int 0, .int 0, .int 0, .int 0, .int 0, .int 0, .ref o1, .ref o2, .ref o3, .ref o4, .ref o5])), (aS, .inr (6, [.int 0, .int 0, .int 0, .long 0, .ref s1, .ref s2, .ref s3, .ref s4]))]) (Qx := fun A => va_Qi (fun (r : Int32) (u : Unit) => r = (-2)) (mpost D A (fun (u : Unit) => [])) A) (maxL := 3) (ret := (some .int)) (by decide) rfl (Nat.le_of_ble_eq_true rfl) ?_
  intro p e s m below meth c A ls hx hb hr hml hlk hown hts hin hK hE hP hD hA hS hl
  have hl : lv_has ls 3 [(0, .ref a0), (1, .int k), (2, .int k2)] := hl
  generalize hHe : s.heap = H at hP
  have hS : va_S A s.heap H [] := hHe ▸ hS
  have htw : ∀ w ∈ O_X8_rule, w.before ([.ref a0, .int k, .int k2] : List Value).toArray s = true := fun w h => hts w (List.mem_cons_of_mem _ (List.mem_append_left _ h))
  have hFix := (⟨hx, hb, hml, hown, hts⟩ : CallFix p m c _ _ s _ _ _)
  refine lv_aload_n hx hb dX8_rule_0 rfl (lv_at hl 0 rfl) ?_
  refine lv_iload_n hx hb dX8_rule_1 rfl (lv_at hl 1 rfl) ?_
  refine aft_i (wr := [(aS, .inr (6, [.int 0, .int 0, .int 0, .long 0, .ref s1, .ref s2, .ref s3, .ref s4]))]) hP hD hS hA [0, 1] [2] rfl rfl (by decide) (by decide) (run_v (As := [.int k]) (rest := []) hFix hK hE hP hD [0, 1] (k_X8_noRule l D cs _ a0 k aT aD aO aR aS aJ aC aI aK aL o1 o2 o3 o4 o5) (cwV 1 hts gc_X8_rule_108_X8_noRule rfl rfl rfl (by decide +kernel) ⟨Nat.le_of_ble_eq_true rfl, Nat.le_of_ble_eq_true rfl⟩) rfl (by decide) rfl rfl rfl hl.1 rfl (Nat.le_of_ble_eq_true rfl) dX8_rule_2 ⟨Nat.le_of_ble_eq_true rfl, Nat.le_of_ble_eq_true rfl⟩) (fun r_1 u_1 H locs hq_1 hP hD hS => ?_)
  have hP : va_P D vwCl [(aS, .inr (6, [.int 0, .int 0, .int 0, .long 0, .ref s1, .ref s2, .ref s3, .ref s4])), (a0, .inr (8, [.ref aT, .ref aD, .ref aO, .ref aR, .ref aS, .ref aJ, .ref aC, .ref aI, .ref aK, .ref aL])), (aO, .inr (0, [.int 0, .int 0, .int 0, .int 0, .int 0, .int 0, .int 0, .int 0, .int 0, .int 0, .ref o1, .ref o2, .ref o3, .ref o4, .ref o5]))] H := hP
  have hD : va_D A [(aS, .inr (6, [.int 0, .int 0, .int 0, .long 0, .ref s1, .ref s2, .ref s3, .ref s4])), (a0, .inr (8, [.ref aT, .ref aD, .ref aO, .ref aR, .ref aS, .ref aJ, .ref aC, .ref aI, .ref aK, .ref aL])), (aO, .inr (0, [.int 0, .int 0, .int 0, .int 0, .int 0, .int 0, .int 0, .int 0, .int 0, .int 0, .ref o1, .ref o2, .ref o3, .ref o4, .ref o5]))] := hD
  replace hq_1 : r_1 = 1 := hq_1
  subst hq_1
  refine lv_if_ne (tgt := 17) hx hb dX8_rule_5 (by decide) (fun _ => ?_) (fun h9 => absurd h9 (by decide))
  refine lv_bipush (v := (-2)) hx hb dX8_rule_17 (by decide) ?_
  exact ret_i hx hb hr hlk hS (Nat.le_of_ble_eq_true rfl) (Nat.le_of_ble_eq_true rfl) () (rfl) (hP.sub [] rfl) (hD.sub [] (by decide) rfl) dX8_rule_19

set_option maxHeartbeats 4000000 in
set_option maxRecDepth 100000 in
theorem k_X8_op (l : Launch) (D : va_G) (cs : Nat → ClassId) (sz : Nat) (a0 : Nat) (k : Int32) (k2 : Int32) (aT : Nat) (aD : Nat) (aO : Nat) (aR : Nat) (aS : Nat) (aJ : Nat) (aC : Nat) (aI : Nat) (aK : Nat) (aL : Nat) (o1 : Nat) (o2 : Nat) (o3 : Nat) (o4 : Nat) (o5 : Nat) (s1 : Nat) (s2 : Nat) (s3 : Nat) (s4 : Nat)  : Mi l D cs yX8_op W_X8_op 1 21 0 0 [.ref a0, .int k, .int k2] [(a0, .inr (8, [.ref aT, .ref aD, .ref aO, .ref aR, .ref aS, .ref aJ, .ref aC, .ref aI, .ref aK, .ref aL])), (aO, .inr (0, [.int 0, .int 0, .int 0, .int 0, .int 0, .int 0, .int 0, .int 0, .int 0, .int 0, .ref o1, .ref o2, .ref o3, .ref o4, .ref o5])), (aS, .inr (6, [.int 0, .int 0, .int 0, .long 0, .ref s1, .ref s2, .ref s3, .ref s4]))] sz (fun (r : Int32) (u : Unit) => r = (-2)) (fun (u : Unit) => []) := by
  refine ent (D := D) (cs := cs) (y := yX8_op) (ws := W_X8_op) (As := [.ref a0, .int k, .int k2]) (W0 := [(a0, .inr (8, [.ref aT, .ref aD, .ref aO, .ref aR, .ref aS, .ref aJ, .ref aC, .ref aI, .ref aK, .ref aL])), (aO, .inr (0, [.int 0, .int 0, .int 0, .int 0, .int 0, .int 0, .int 0, .int 0, .int 0, .int 0, .ref o1, .ref o2, .ref o3, .ref o4, .ref o5])), (aS, .inr (6, [.int 0, .int 0, .int 0, .long 0, .ref s1, .ref s2, .ref s3, .ref s4]))]) (Qx := fun A => va_Qi (fun (r : Int32) (u : Unit) => r = (-2)) (mpost D A (fun (u : Unit) => [])) A) (maxL := 3) (ret := (some .int)) (by decide) rfl (Nat.le_of_ble_eq_true rfl) ?_
  intro p e s m below meth c A ls hx hb hr hml hlk hown hts hin hK hE hP hD hA hS hl
  have hl : lv_has ls 3 [(0, .ref a0), (1, .int k), (2, .int k2)] := hl
  generalize hHe : s.heap = H at hP
  have hS : va_S A s.heap H [] := hHe ▸ hS
  have htw : ∀ w ∈ O_X8_op, w.before ([.ref a0, .int k, .int k2] : List Value).toArray s = true := fun w h => hts w (List.mem_cons_of_mem _ (List.mem_append_left _ h))
  have hFix := (⟨hx, hb, hml, hown, hts⟩ : CallFix p m c _ _ s _ _ _)
  refine lv_aload_n hx hb dX8_op_0 rfl (lv_at hl 0 rfl) ?_
  refine lv_iload_n hx hb dX8_op_1 rfl (lv_at hl 1 rfl) ?_
  refine aft_i (wr := [(aS, .inr (6, [.int 0, .int 0, .int 0, .long 0, .ref s1, .ref s2, .ref s3, .ref s4]))]) hP hD hS hA [0, 1] [2] rfl rfl (by decide) (by decide) (run_v (As := [.int k]) (rest := []) hFix hK hE hP hD [0, 1] (k_X8_noOp l D cs _ a0 k aT aD aO aR aS aJ aC aI aK aL o1 o2 o3 o4 o5) (cwV 1 hts gc_X8_op_114_X8_noOp rfl rfl rfl (by decide +kernel) ⟨Nat.le_of_ble_eq_true rfl, Nat.le_of_ble_eq_true rfl⟩) rfl (by decide) rfl rfl rfl hl.1 rfl (Nat.le_of_ble_eq_true rfl) dX8_op_2 ⟨Nat.le_of_ble_eq_true rfl, Nat.le_of_ble_eq_true rfl⟩) (fun r_1 u_1 H locs hq_1 hP hD hS => ?_)
  have hP : va_P D vwCl [(aS, .inr (6, [.int 0, .int 0, .int 0, .long 0, .ref s1, .ref s2, .ref s3, .ref s4])), (a0, .inr (8, [.ref aT, .ref aD, .ref aO, .ref aR, .ref aS, .ref aJ, .ref aC, .ref aI, .ref aK, .ref aL])), (aO, .inr (0, [.int 0, .int 0, .int 0, .int 0, .int 0, .int 0, .int 0, .int 0, .int 0, .int 0, .ref o1, .ref o2, .ref o3, .ref o4, .ref o5]))] H := hP
  have hD : va_D A [(aS, .inr (6, [.int 0, .int 0, .int 0, .long 0, .ref s1, .ref s2, .ref s3, .ref s4])), (a0, .inr (8, [.ref aT, .ref aD, .ref aO, .ref aR, .ref aS, .ref aJ, .ref aC, .ref aI, .ref aK, .ref aL])), (aO, .inr (0, [.int 0, .int 0, .int 0, .int 0, .int 0, .int 0, .int 0, .int 0, .int 0, .int 0, .ref o1, .ref o2, .ref o3, .ref o4, .ref o5]))] := hD
  replace hq_1 : r_1 = 1 := hq_1
  subst hq_1
  refine lv_if_ne (tgt := 17) hx hb dX8_op_5 (by decide) (fun _ => ?_) (fun h9 => absurd h9 (by decide))
  refine lv_bipush (v := (-2)) hx hb dX8_op_17 (by decide) ?_
  exact ret_i hx hb hr hlk hS (Nat.le_of_ble_eq_true rfl) (Nat.le_of_ble_eq_true rfl) () (rfl) (hP.sub [] rfl) (hD.sub [] (by decide) rfl) dX8_op_19

set_option maxHeartbeats 4000000 in
set_option maxRecDepth 100000 in
theorem k_X8_states (l : Launch) (D : va_G) (cs : Nat → ClassId) (sz : Nat) (a0 : Nat) (aT : Nat) (aD : Nat) (aO : Nat) (aR : Nat) (aS : Nat) (aJ : Nat) (aC : Nat) (aI : Nat) (aK : Nat) (aL : Nat) (o1 : Nat) (o2 : Nat) (o3 : Nat) (o4 : Nat) (o5 : Nat) (s1 : Nat) (s2 : Nat) (s3 : Nat) (s4 : Nat)  : Mi l D cs yX8_states W_X8_states 1 20 0 0 [.ref a0] [(a0, .inr (8, [.ref aT, .ref aD, .ref aO, .ref aR, .ref aS, .ref aJ, .ref aC, .ref aI, .ref aK, .ref aL])), (aO, .inr (0, [.int 0, .int 0, .int 0, .int 0, .int 0, .int 0, .int 0, .int 0, .int 0, .int 0, .ref o1, .ref o2, .ref o3, .ref o4, .ref o5])), (aS, .inr (6, [.int 0, .int 0, .int 0, .long 0, .ref s1, .ref s2, .ref s3, .ref s4]))] sz (fun (r : Int32) (u : Unit) => r = (-2)) (fun (u : Unit) => []) := by
  refine ent (D := D) (cs := cs) (y := yX8_states) (ws := W_X8_states) (As := [.ref a0]) (W0 := [(a0, .inr (8, [.ref aT, .ref aD, .ref aO, .ref aR, .ref aS, .ref aJ, .ref aC, .ref aI, .ref aK, .ref aL])), (aO, .inr (0, [.int 0, .int 0, .int 0, .int 0, .int 0, .int 0, .int 0, .int 0, .int 0, .int 0, .ref o1, .ref o2, .ref o3, .ref o4, .ref o5])), (aS, .inr (6, [.int 0, .int 0, .int 0, .long 0, .ref s1, .ref s2, .ref s3, .ref s4]))]) (Qx := fun A => va_Qi (fun (r : Int32) (u : Unit) => r = (-2)) (mpost D A (fun (u : Unit) => [])) A) (maxL := 1) (ret := (some .int)) (by decide) rfl (Nat.le_of_ble_eq_true rfl) ?_
  intro p e s m below meth c A ls hx hb hr hml hlk hown hts hin hK hE hP hD hA hS hl
  have hl : lv_has ls 1 [(0, .ref a0)] := hl
  generalize hHe : s.heap = H at hP
  have hS : va_S A s.heap H [] := hHe ▸ hS
  have htw : ∀ w ∈ O_X8_states, w.before ([.ref a0] : List Value).toArray s = true := fun w h => hts w (List.mem_cons_of_mem _ (List.mem_append_left _ h))
  have hFix := (⟨hx, hb, hml, hown, hts⟩ : CallFix p m c _ _ s _ _ _)
  refine lv_aload_n hx hb dX8_states_0 rfl (lv_at hl 0 rfl) ?_
  refine aft_i (wr := [(aS, .inr (6, [.int 0, .int 0, .int 0, .long 0, .ref s1, .ref s2, .ref s3, .ref s4]))]) hP hD hS hA [0, 1] [2] rfl rfl (by decide) (by decide) (run_v (As := []) (rest := []) hFix hK hE hP hD [0, 1] (k_X8_isTold l D cs _ a0 aT aD aO aR aS aJ aC aI aK aL o1 o2 o3 o4 o5) (cwV 0 hts gc_X8_states_120_X8_isTold rfl rfl rfl (by decide +kernel) ⟨Nat.le_of_ble_eq_true rfl, Nat.le_of_ble_eq_true rfl⟩) rfl (by decide) rfl rfl rfl hl.1 rfl (Nat.le_of_ble_eq_true rfl) dX8_states_1 ⟨Nat.le_of_ble_eq_true rfl, Nat.le_of_ble_eq_true rfl⟩) (fun r_1 u_1 H locs hq_1 hP hD hS => ?_)
  have hP : va_P D vwCl [(aS, .inr (6, [.int 0, .int 0, .int 0, .long 0, .ref s1, .ref s2, .ref s3, .ref s4])), (a0, .inr (8, [.ref aT, .ref aD, .ref aO, .ref aR, .ref aS, .ref aJ, .ref aC, .ref aI, .ref aK, .ref aL])), (aO, .inr (0, [.int 0, .int 0, .int 0, .int 0, .int 0, .int 0, .int 0, .int 0, .int 0, .int 0, .ref o1, .ref o2, .ref o3, .ref o4, .ref o5]))] H := hP
  have hD : va_D A [(aS, .inr (6, [.int 0, .int 0, .int 0, .long 0, .ref s1, .ref s2, .ref s3, .ref s4])), (a0, .inr (8, [.ref aT, .ref aD, .ref aO, .ref aR, .ref aS, .ref aJ, .ref aC, .ref aI, .ref aK, .ref aL])), (aO, .inr (0, [.int 0, .int 0, .int 0, .int 0, .int 0, .int 0, .int 0, .int 0, .int 0, .int 0, .ref o1, .ref o2, .ref o3, .ref o4, .ref o5]))] := hD
  replace hq_1 : r_1 = 0 := hq_1
  subst hq_1
  refine lv_if_eq (tgt := 17) hx hb dX8_states_4 (by decide) (fun _ => ?_) (fun h9 => absurd h9 (by decide))
  refine lv_bipush (v := (-2)) hx hb dX8_states_17 (by decide) ?_
  exact ret_i hx hb hr hlk hS (Nat.le_of_ble_eq_true rfl) (Nat.le_of_ble_eq_true rfl) () (rfl) (hP.sub [] rfl) (hD.sub [] (by decide) rfl) dX8_states_19

set_option maxHeartbeats 4000000 in
set_option maxRecDepth 100000 in
theorem k_X8_value (l : Launch) (D : va_G) (cs : Nat → ClassId) (sz : Nat) (a0 : Nat) (k : Int32) (k2 : Int32) (aT : Nat) (aD : Nat) (aO : Nat) (aR : Nat) (aS : Nat) (aJ : Nat) (aC : Nat) (aI : Nat) (aK : Nat) (aL : Nat) (o1 : Nat) (o2 : Nat) (o3 : Nat) (o4 : Nat) (o5 : Nat) (s1 : Nat) (s2 : Nat) (s3 : Nat) (s4 : Nat)  : Mi l D cs yX8_value W_X8_value 1 21 0 0 [.ref a0, .int k, .int k2] [(a0, .inr (8, [.ref aT, .ref aD, .ref aO, .ref aR, .ref aS, .ref aJ, .ref aC, .ref aI, .ref aK, .ref aL])), (aO, .inr (0, [.int 0, .int 0, .int 0, .int 0, .int 0, .int 0, .int 0, .int 0, .int 0, .int 0, .ref o1, .ref o2, .ref o3, .ref o4, .ref o5])), (aS, .inr (6, [.int 0, .int 0, .int 0, .long 0, .ref s1, .ref s2, .ref s3, .ref s4]))] sz (fun (r : Int32) (u : Unit) => r = (-2)) (fun (u : Unit) => []) := by
  refine ent (D := D) (cs := cs) (y := yX8_value) (ws := W_X8_value) (As := [.ref a0, .int k, .int k2]) (W0 := [(a0, .inr (8, [.ref aT, .ref aD, .ref aO, .ref aR, .ref aS, .ref aJ, .ref aC, .ref aI, .ref aK, .ref aL])), (aO, .inr (0, [.int 0, .int 0, .int 0, .int 0, .int 0, .int 0, .int 0, .int 0, .int 0, .int 0, .ref o1, .ref o2, .ref o3, .ref o4, .ref o5])), (aS, .inr (6, [.int 0, .int 0, .int 0, .long 0, .ref s1, .ref s2, .ref s3, .ref s4]))]) (Qx := fun A => va_Qi (fun (r : Int32) (u : Unit) => r = (-2)) (mpost D A (fun (u : Unit) => [])) A) (maxL := 3) (ret := (some .int)) (by decide) rfl (Nat.le_of_ble_eq_true rfl) ?_
  intro p e s m below meth c A ls hx hb hr hml hlk hown hts hin hK hE hP hD hA hS hl
  have hl : lv_has ls 3 [(0, .ref a0), (1, .int k), (2, .int k2)] := hl
  generalize hHe : s.heap = H at hP
  have hS : va_S A s.heap H [] := hHe ▸ hS
  have htw : ∀ w ∈ O_X8_value, w.before ([.ref a0, .int k, .int k2] : List Value).toArray s = true := fun w h => hts w (List.mem_cons_of_mem _ (List.mem_append_left _ h))
  have hFix := (⟨hx, hb, hml, hown, hts⟩ : CallFix p m c _ _ s _ _ _)
  refine lv_aload_n hx hb dX8_value_0 rfl (lv_at hl 0 rfl) ?_
  refine lv_iload_n hx hb dX8_value_1 rfl (lv_at hl 1 rfl) ?_
  refine aft_i (wr := [(aO, .inr (0, [.int 0, .int 0, .int 0, .int 0, .int 0, .int 0, .int 0, .int 0, .int 0, .int 0, .ref o1, .ref o2, .ref o3, .ref o4, .ref o5]))]) hP hD hS hA [0, 2] [1] rfl rfl (by decide) (by decide) (run_v (As := [.int k]) (rest := []) hFix hK hE hP hD [0, 2] (k_X8_noState l D cs _ a0 k aT aD aO aR aS aJ aC aI aK aL s1 s2 s3 s4) (cwV 1 hts gc_X8_value_124_X8_noState rfl rfl rfl (by decide +kernel) ⟨Nat.le_of_ble_eq_true rfl, Nat.le_of_ble_eq_true rfl⟩) rfl (by decide) rfl rfl rfl hl.1 rfl (Nat.le_of_ble_eq_true rfl) dX8_value_2 ⟨Nat.le_of_ble_eq_true rfl, Nat.le_of_ble_eq_true rfl⟩) (fun r_1 u_1 H locs hq_1 hP hD hS => ?_)
  have hP : va_P D vwCl [(aO, .inr (0, [.int 0, .int 0, .int 0, .int 0, .int 0, .int 0, .int 0, .int 0, .int 0, .int 0, .ref o1, .ref o2, .ref o3, .ref o4, .ref o5])), (a0, .inr (8, [.ref aT, .ref aD, .ref aO, .ref aR, .ref aS, .ref aJ, .ref aC, .ref aI, .ref aK, .ref aL])), (aS, .inr (6, [.int 0, .int 0, .int 0, .long 0, .ref s1, .ref s2, .ref s3, .ref s4]))] H := hP
  have hD : va_D A [(aO, .inr (0, [.int 0, .int 0, .int 0, .int 0, .int 0, .int 0, .int 0, .int 0, .int 0, .int 0, .ref o1, .ref o2, .ref o3, .ref o4, .ref o5])), (a0, .inr (8, [.ref aT, .ref aD, .ref aO, .ref aR, .ref aS, .ref aJ, .ref aC, .ref aI, .ref aK, .ref aL])), (aS, .inr (6, [.int 0, .int 0, .int 0, .long 0, .ref s1, .ref s2, .ref s3, .ref s4]))] := hD
  replace hq_1 : r_1 = 1 := hq_1
  subst hq_1
  refine lv_if_ne (tgt := 16) hx hb dX8_value_5 (by decide) (fun _ => ?_) (fun h9 => absurd h9 (by decide))
  refine lv_bipush (v := (-2)) hx hb dX8_value_16 (by decide) ?_
  exact ret_i hx hb hr hlk hS (Nat.le_of_ble_eq_true rfl) (Nat.le_of_ble_eq_true rfl) () (rfl) (hP.sub [] rfl) (hD.sub [] (by decide) rfl) dX8_value_18

set_option maxHeartbeats 4000000 in
set_option maxRecDepth 100000 in
theorem k_X8_holds (l : Launch) (D : va_G) (cs : Nat → ClassId) (sz : Nat) (a0 : Nat) (k : Int32) (k2 : Int32) (aT : Nat) (aD : Nat) (aO : Nat) (aR : Nat) (aS : Nat) (aJ : Nat) (aC : Nat) (aI : Nat) (aK : Nat) (aL : Nat) (o1 : Nat) (o2 : Nat) (o3 : Nat) (o4 : Nat) (o5 : Nat) (s1 : Nat) (s2 : Nat) (s3 : Nat) (s4 : Nat)  : Mi l D cs yX8_holds W_X8_holds 1 21 0 0 [.ref a0, .int k, .int k2] [(a0, .inr (8, [.ref aT, .ref aD, .ref aO, .ref aR, .ref aS, .ref aJ, .ref aC, .ref aI, .ref aK, .ref aL])), (aO, .inr (0, [.int 0, .int 0, .int 0, .int 0, .int 0, .int 0, .int 0, .int 0, .int 0, .int 0, .ref o1, .ref o2, .ref o3, .ref o4, .ref o5])), (aS, .inr (6, [.int 0, .int 0, .int 0, .long 0, .ref s1, .ref s2, .ref s3, .ref s4]))] sz (fun (r : Int32) (u : Unit) => r = (-2)) (fun (u : Unit) => []) := by
  refine ent (D := D) (cs := cs) (y := yX8_holds) (ws := W_X8_holds) (As := [.ref a0, .int k, .int k2]) (W0 := [(a0, .inr (8, [.ref aT, .ref aD, .ref aO, .ref aR, .ref aS, .ref aJ, .ref aC, .ref aI, .ref aK, .ref aL])), (aO, .inr (0, [.int 0, .int 0, .int 0, .int 0, .int 0, .int 0, .int 0, .int 0, .int 0, .int 0, .ref o1, .ref o2, .ref o3, .ref o4, .ref o5])), (aS, .inr (6, [.int 0, .int 0, .int 0, .long 0, .ref s1, .ref s2, .ref s3, .ref s4]))]) (Qx := fun A => va_Qi (fun (r : Int32) (u : Unit) => r = (-2)) (mpost D A (fun (u : Unit) => [])) A) (maxL := 3) (ret := (some .int)) (by decide) rfl (Nat.le_of_ble_eq_true rfl) ?_
  intro p e s m below meth c A ls hx hb hr hml hlk hown hts hin hK hE hP hD hA hS hl
  have hl : lv_has ls 3 [(0, .ref a0), (1, .int k), (2, .int k2)] := hl
  generalize hHe : s.heap = H at hP
  have hS : va_S A s.heap H [] := hHe ▸ hS
  have htw : ∀ w ∈ O_X8_holds, w.before ([.ref a0, .int k, .int k2] : List Value).toArray s = true := fun w h => hts w (List.mem_cons_of_mem _ (List.mem_append_left _ h))
  have hFix := (⟨hx, hb, hml, hown, hts⟩ : CallFix p m c _ _ s _ _ _)
  refine lv_aload_n hx hb dX8_holds_0 rfl (lv_at hl 0 rfl) ?_
  refine lv_iload_n hx hb dX8_holds_1 rfl (lv_at hl 1 rfl) ?_
  refine aft_i (wr := [(aS, .inr (6, [.int 0, .int 0, .int 0, .long 0, .ref s1, .ref s2, .ref s3, .ref s4]))]) hP hD hS hA [0, 1] [2] rfl rfl (by decide) (by decide) (run_v (As := [.int k]) (rest := []) hFix hK hE hP hD [0, 1] (k_X8_noRule l D cs _ a0 k aT aD aO aR aS aJ aC aI aK aL o1 o2 o3 o4 o5) (cwV 1 hts gc_X8_holds_108_X8_noRule rfl rfl rfl (by decide +kernel) ⟨Nat.le_of_ble_eq_true rfl, Nat.le_of_ble_eq_true rfl⟩) rfl (by decide) rfl rfl rfl hl.1 rfl (Nat.le_of_ble_eq_true rfl) dX8_holds_2 ⟨Nat.le_of_ble_eq_true rfl, Nat.le_of_ble_eq_true rfl⟩) (fun r_1 u_1 H locs hq_1 hP hD hS => ?_)
  have hP : va_P D vwCl [(aS, .inr (6, [.int 0, .int 0, .int 0, .long 0, .ref s1, .ref s2, .ref s3, .ref s4])), (a0, .inr (8, [.ref aT, .ref aD, .ref aO, .ref aR, .ref aS, .ref aJ, .ref aC, .ref aI, .ref aK, .ref aL])), (aO, .inr (0, [.int 0, .int 0, .int 0, .int 0, .int 0, .int 0, .int 0, .int 0, .int 0, .int 0, .ref o1, .ref o2, .ref o3, .ref o4, .ref o5]))] H := hP
  have hD : va_D A [(aS, .inr (6, [.int 0, .int 0, .int 0, .long 0, .ref s1, .ref s2, .ref s3, .ref s4])), (a0, .inr (8, [.ref aT, .ref aD, .ref aO, .ref aR, .ref aS, .ref aJ, .ref aC, .ref aI, .ref aK, .ref aL])), (aO, .inr (0, [.int 0, .int 0, .int 0, .int 0, .int 0, .int 0, .int 0, .int 0, .int 0, .int 0, .ref o1, .ref o2, .ref o3, .ref o4, .ref o5]))] := hD
  replace hq_1 : r_1 = 1 := hq_1
  subst hq_1
  refine lv_if_ne (tgt := 16) hx hb dX8_holds_5 (by decide) (fun _ => ?_) (fun h9 => absurd h9 (by decide))
  refine lv_bipush (v := (-2)) hx hb dX8_holds_16 (by decide) ?_
  exact ret_i hx hb hr hlk hS (Nat.le_of_ble_eq_true rfl) (Nat.le_of_ble_eq_true rfl) () (rfl) (hP.sub [] rfl) (hD.sub [] (by decide) rfl) dX8_holds_18

set_option maxHeartbeats 4000000 in
set_option maxRecDepth 100000 in
theorem k_X8_dropped (l : Launch) (D : va_G) (cs : Nat → ClassId) (sz : Nat) (a0 : Nat) (aT : Nat) (aD : Nat) (aO : Nat) (aR : Nat) (aS : Nat) (aJ : Nat) (aC : Nat) (aI : Nat) (aK : Nat) (aL : Nat) (o1 : Nat) (o2 : Nat) (o3 : Nat) (o4 : Nat) (o5 : Nat) (s1 : Nat) (s2 : Nat) (s3 : Nat) (s4 : Nat)  : Mi l D cs yX8_dropped W_X8_dropped 1 20 0 0 [.ref a0] [(a0, .inr (8, [.ref aT, .ref aD, .ref aO, .ref aR, .ref aS, .ref aJ, .ref aC, .ref aI, .ref aK, .ref aL])), (aO, .inr (0, [.int 0, .int 0, .int 0, .int 0, .int 0, .int 0, .int 0, .int 0, .int 0, .int 0, .ref o1, .ref o2, .ref o3, .ref o4, .ref o5])), (aS, .inr (6, [.int 0, .int 0, .int 0, .long 0, .ref s1, .ref s2, .ref s3, .ref s4]))] sz (fun (r : Int32) (u : Unit) => r = (-2)) (fun (u : Unit) => []) := by
  refine ent (D := D) (cs := cs) (y := yX8_dropped) (ws := W_X8_dropped) (As := [.ref a0]) (W0 := [(a0, .inr (8, [.ref aT, .ref aD, .ref aO, .ref aR, .ref aS, .ref aJ, .ref aC, .ref aI, .ref aK, .ref aL])), (aO, .inr (0, [.int 0, .int 0, .int 0, .int 0, .int 0, .int 0, .int 0, .int 0, .int 0, .int 0, .ref o1, .ref o2, .ref o3, .ref o4, .ref o5])), (aS, .inr (6, [.int 0, .int 0, .int 0, .long 0, .ref s1, .ref s2, .ref s3, .ref s4]))]) (Qx := fun A => va_Qi (fun (r : Int32) (u : Unit) => r = (-2)) (mpost D A (fun (u : Unit) => [])) A) (maxL := 1) (ret := (some .int)) (by decide) rfl (Nat.le_of_ble_eq_true rfl) ?_
  intro p e s m below meth c A ls hx hb hr hml hlk hown hts hin hK hE hP hD hA hS hl
  have hl : lv_has ls 1 [(0, .ref a0)] := hl
  generalize hHe : s.heap = H at hP
  have hS : va_S A s.heap H [] := hHe ▸ hS
  have htw : ∀ w ∈ O_X8_dropped, w.before ([.ref a0] : List Value).toArray s = true := fun w h => hts w (List.mem_cons_of_mem _ (List.mem_append_left _ h))
  have hFix := (⟨hx, hb, hml, hown, hts⟩ : CallFix p m c _ _ s _ _ _)
  refine lv_aload_n hx hb dX8_dropped_0 rfl (lv_at hl 0 rfl) ?_
  refine aft_i (wr := [(aS, .inr (6, [.int 0, .int 0, .int 0, .long 0, .ref s1, .ref s2, .ref s3, .ref s4]))]) hP hD hS hA [0, 1] [2] rfl rfl (by decide) (by decide) (run_v (As := []) (rest := []) hFix hK hE hP hD [0, 1] (k_X8_isTold l D cs _ a0 aT aD aO aR aS aJ aC aI aK aL o1 o2 o3 o4 o5) (cwV 0 hts gc_X8_dropped_120_X8_isTold rfl rfl rfl (by decide +kernel) ⟨Nat.le_of_ble_eq_true rfl, Nat.le_of_ble_eq_true rfl⟩) rfl (by decide) rfl rfl rfl hl.1 rfl (Nat.le_of_ble_eq_true rfl) dX8_dropped_1 ⟨Nat.le_of_ble_eq_true rfl, Nat.le_of_ble_eq_true rfl⟩) (fun r_1 u_1 H locs hq_1 hP hD hS => ?_)
  have hP : va_P D vwCl [(aS, .inr (6, [.int 0, .int 0, .int 0, .long 0, .ref s1, .ref s2, .ref s3, .ref s4])), (a0, .inr (8, [.ref aT, .ref aD, .ref aO, .ref aR, .ref aS, .ref aJ, .ref aC, .ref aI, .ref aK, .ref aL])), (aO, .inr (0, [.int 0, .int 0, .int 0, .int 0, .int 0, .int 0, .int 0, .int 0, .int 0, .int 0, .ref o1, .ref o2, .ref o3, .ref o4, .ref o5]))] H := hP
  have hD : va_D A [(aS, .inr (6, [.int 0, .int 0, .int 0, .long 0, .ref s1, .ref s2, .ref s3, .ref s4])), (a0, .inr (8, [.ref aT, .ref aD, .ref aO, .ref aR, .ref aS, .ref aJ, .ref aC, .ref aI, .ref aK, .ref aL])), (aO, .inr (0, [.int 0, .int 0, .int 0, .int 0, .int 0, .int 0, .int 0, .int 0, .int 0, .int 0, .ref o1, .ref o2, .ref o3, .ref o4, .ref o5]))] := hD
  replace hq_1 : r_1 = 0 := hq_1
  subst hq_1
  refine lv_if_eq (tgt := 17) hx hb dX8_dropped_4 (by decide) (fun _ => ?_) (fun h9 => absurd h9 (by decide))
  refine lv_bipush (v := (-2)) hx hb dX8_dropped_17 (by decide) ?_
  exact ret_i hx hb hr hlk hS (Nat.le_of_ble_eq_true rfl) (Nat.le_of_ble_eq_true rfl) () (rfl) (hP.sub [] rfl) (hD.sub [] (by decide) rfl) dX8_dropped_19

set_option maxHeartbeats 4000000 in
set_option maxRecDepth 100000 in
theorem k_X8_locked (l : Launch) (D : va_G) (cs : Nat → ClassId) (sz : Nat) (a0 : Nat) (aT : Nat) (aD : Nat) (aO : Nat) (aR : Nat) (aS : Nat) (aJ : Nat) (aC : Nat) (aI : Nat) (aK : Nat) (aL : Nat) (o1 : Nat) (o2 : Nat) (o3 : Nat) (o4 : Nat) (o5 : Nat) (s1 : Nat) (s2 : Nat) (s3 : Nat) (s4 : Nat)  : Mi l D cs yX8_locked W_X8_locked 1 20 0 0 [.ref a0] [(a0, .inr (8, [.ref aT, .ref aD, .ref aO, .ref aR, .ref aS, .ref aJ, .ref aC, .ref aI, .ref aK, .ref aL])), (aO, .inr (0, [.int 0, .int 0, .int 0, .int 0, .int 0, .int 0, .int 0, .int 0, .int 0, .int 0, .ref o1, .ref o2, .ref o3, .ref o4, .ref o5])), (aS, .inr (6, [.int 0, .int 0, .int 0, .long 0, .ref s1, .ref s2, .ref s3, .ref s4]))] sz (fun (r : Int32) (u : Unit) => r = (-2)) (fun (u : Unit) => []) := by
  refine ent (D := D) (cs := cs) (y := yX8_locked) (ws := W_X8_locked) (As := [.ref a0]) (W0 := [(a0, .inr (8, [.ref aT, .ref aD, .ref aO, .ref aR, .ref aS, .ref aJ, .ref aC, .ref aI, .ref aK, .ref aL])), (aO, .inr (0, [.int 0, .int 0, .int 0, .int 0, .int 0, .int 0, .int 0, .int 0, .int 0, .int 0, .ref o1, .ref o2, .ref o3, .ref o4, .ref o5])), (aS, .inr (6, [.int 0, .int 0, .int 0, .long 0, .ref s1, .ref s2, .ref s3, .ref s4]))]) (Qx := fun A => va_Qi (fun (r : Int32) (u : Unit) => r = (-2)) (mpost D A (fun (u : Unit) => [])) A) (maxL := 1) (ret := (some .int)) (by decide) rfl (Nat.le_of_ble_eq_true rfl) ?_
  intro p e s m below meth c A ls hx hb hr hml hlk hown hts hin hK hE hP hD hA hS hl
  have hl : lv_has ls 1 [(0, .ref a0)] := hl
  generalize hHe : s.heap = H at hP
  have hS : va_S A s.heap H [] := hHe ▸ hS
  have htw : ∀ w ∈ O_X8_locked, w.before ([.ref a0] : List Value).toArray s = true := fun w h => hts w (List.mem_cons_of_mem _ (List.mem_append_left _ h))
  have hFix := (⟨hx, hb, hml, hown, hts⟩ : CallFix p m c _ _ s _ _ _)
  refine lv_aload_n hx hb dX8_locked_0 rfl (lv_at hl 0 rfl) ?_
  refine aft_i (wr := [(aS, .inr (6, [.int 0, .int 0, .int 0, .long 0, .ref s1, .ref s2, .ref s3, .ref s4]))]) hP hD hS hA [0, 1] [2] rfl rfl (by decide) (by decide) (run_v (As := []) (rest := []) hFix hK hE hP hD [0, 1] (k_X8_isTold l D cs _ a0 aT aD aO aR aS aJ aC aI aK aL o1 o2 o3 o4 o5) (cwV 0 hts gc_X8_locked_120_X8_isTold rfl rfl rfl (by decide +kernel) ⟨Nat.le_of_ble_eq_true rfl, Nat.le_of_ble_eq_true rfl⟩) rfl (by decide) rfl rfl rfl hl.1 rfl (Nat.le_of_ble_eq_true rfl) dX8_locked_1 ⟨Nat.le_of_ble_eq_true rfl, Nat.le_of_ble_eq_true rfl⟩) (fun r_1 u_1 H locs hq_1 hP hD hS => ?_)
  have hP : va_P D vwCl [(aS, .inr (6, [.int 0, .int 0, .int 0, .long 0, .ref s1, .ref s2, .ref s3, .ref s4])), (a0, .inr (8, [.ref aT, .ref aD, .ref aO, .ref aR, .ref aS, .ref aJ, .ref aC, .ref aI, .ref aK, .ref aL])), (aO, .inr (0, [.int 0, .int 0, .int 0, .int 0, .int 0, .int 0, .int 0, .int 0, .int 0, .int 0, .ref o1, .ref o2, .ref o3, .ref o4, .ref o5]))] H := hP
  have hD : va_D A [(aS, .inr (6, [.int 0, .int 0, .int 0, .long 0, .ref s1, .ref s2, .ref s3, .ref s4])), (a0, .inr (8, [.ref aT, .ref aD, .ref aO, .ref aR, .ref aS, .ref aJ, .ref aC, .ref aI, .ref aK, .ref aL])), (aO, .inr (0, [.int 0, .int 0, .int 0, .int 0, .int 0, .int 0, .int 0, .int 0, .int 0, .int 0, .ref o1, .ref o2, .ref o3, .ref o4, .ref o5]))] := hD
  replace hq_1 : r_1 = 0 := hq_1
  subst hq_1
  refine lv_if_eq (tgt := 17) hx hb dX8_locked_4 (by decide) (fun _ => ?_) (fun h9 => absurd h9 (by decide))
  refine lv_bipush (v := (-2)) hx hb dX8_locked_17 (by decide) ?_
  exact ret_i hx hb hr hlk hS (Nat.le_of_ble_eq_true rfl) (Nat.le_of_ble_eq_true rfl) () (rfl) (hP.sub [] rfl) (hD.sub [] (by decide) rfl) dX8_locked_19

set_option maxHeartbeats 4000000 in
set_option maxRecDepth 100000 in
theorem k_X8_valid (l : Launch) (D : va_G) (cs : Nat → ClassId) (sz : Nat) (a0 : Nat) (k : Int32) (aT : Nat) (aD : Nat) (aO : Nat) (aR : Nat) (aS : Nat) (aJ : Nat) (aC : Nat) (aI : Nat) (aK : Nat) (aL : Nat) (o1 : Nat) (o2 : Nat) (o3 : Nat) (o4 : Nat) (o5 : Nat) (s1 : Nat) (s2 : Nat) (s3 : Nat) (s4 : Nat)  : Mi l D cs yX8_valid W_X8_valid 1 21 0 0 [.ref a0, .int k] [(a0, .inr (8, [.ref aT, .ref aD, .ref aO, .ref aR, .ref aS, .ref aJ, .ref aC, .ref aI, .ref aK, .ref aL])), (aO, .inr (0, [.int 0, .int 0, .int 0, .int 0, .int 0, .int 0, .int 0, .int 0, .int 0, .int 0, .ref o1, .ref o2, .ref o3, .ref o4, .ref o5])), (aS, .inr (6, [.int 0, .int 0, .int 0, .long 0, .ref s1, .ref s2, .ref s3, .ref s4]))] sz (fun (r : Int32) (u : Unit) => r = (-2)) (fun (u : Unit) => []) := by
  refine ent (D := D) (cs := cs) (y := yX8_valid) (ws := W_X8_valid) (As := [.ref a0, .int k]) (W0 := [(a0, .inr (8, [.ref aT, .ref aD, .ref aO, .ref aR, .ref aS, .ref aJ, .ref aC, .ref aI, .ref aK, .ref aL])), (aO, .inr (0, [.int 0, .int 0, .int 0, .int 0, .int 0, .int 0, .int 0, .int 0, .int 0, .int 0, .ref o1, .ref o2, .ref o3, .ref o4, .ref o5])), (aS, .inr (6, [.int 0, .int 0, .int 0, .long 0, .ref s1, .ref s2, .ref s3, .ref s4]))]) (Qx := fun A => va_Qi (fun (r : Int32) (u : Unit) => r = (-2)) (mpost D A (fun (u : Unit) => [])) A) (maxL := 2) (ret := (some .int)) (by decide) rfl (Nat.le_of_ble_eq_true rfl) ?_
  intro p e s m below meth c A ls hx hb hr hml hlk hown hts hin hK hE hP hD hA hS hl
  have hl : lv_has ls 2 [(0, .ref a0), (1, .int k)] := hl
  generalize hHe : s.heap = H at hP
  have hS : va_S A s.heap H [] := hHe ▸ hS
  have htw : ∀ w ∈ O_X8_valid, w.before ([.ref a0, .int k] : List Value).toArray s = true := fun w h => hts w (List.mem_cons_of_mem _ (List.mem_append_left _ h))
  have hFix := (⟨hx, hb, hml, hown, hts⟩ : CallFix p m c _ _ s _ _ _)
  refine lv_aload_n hx hb dX8_valid_0 rfl (lv_at hl 0 rfl) ?_
  refine lv_iload_n hx hb dX8_valid_1 rfl (lv_at hl 1 rfl) ?_
  refine aft_i (wr := [(aO, .inr (0, [.int 0, .int 0, .int 0, .int 0, .int 0, .int 0, .int 0, .int 0, .int 0, .int 0, .ref o1, .ref o2, .ref o3, .ref o4, .ref o5]))]) hP hD hS hA [0, 2] [1] rfl rfl (by decide) (by decide) (run_v (As := [.int k]) (rest := []) hFix hK hE hP hD [0, 2] (k_X8_noState l D cs _ a0 k aT aD aO aR aS aJ aC aI aK aL s1 s2 s3 s4) (cwV 1 hts gc_X8_valid_124_X8_noState rfl rfl rfl (by decide +kernel) ⟨Nat.le_of_ble_eq_true rfl, Nat.le_of_ble_eq_true rfl⟩) rfl (by decide) rfl rfl rfl hl.1 rfl (Nat.le_of_ble_eq_true rfl) dX8_valid_2 ⟨Nat.le_of_ble_eq_true rfl, Nat.le_of_ble_eq_true rfl⟩) (fun r_1 u_1 H locs hq_1 hP hD hS => ?_)
  have hP : va_P D vwCl [(aO, .inr (0, [.int 0, .int 0, .int 0, .int 0, .int 0, .int 0, .int 0, .int 0, .int 0, .int 0, .ref o1, .ref o2, .ref o3, .ref o4, .ref o5])), (a0, .inr (8, [.ref aT, .ref aD, .ref aO, .ref aR, .ref aS, .ref aJ, .ref aC, .ref aI, .ref aK, .ref aL])), (aS, .inr (6, [.int 0, .int 0, .int 0, .long 0, .ref s1, .ref s2, .ref s3, .ref s4]))] H := hP
  have hD : va_D A [(aO, .inr (0, [.int 0, .int 0, .int 0, .int 0, .int 0, .int 0, .int 0, .int 0, .int 0, .int 0, .ref o1, .ref o2, .ref o3, .ref o4, .ref o5])), (a0, .inr (8, [.ref aT, .ref aD, .ref aO, .ref aR, .ref aS, .ref aJ, .ref aC, .ref aI, .ref aK, .ref aL])), (aS, .inr (6, [.int 0, .int 0, .int 0, .long 0, .ref s1, .ref s2, .ref s3, .ref s4]))] := hD
  replace hq_1 : r_1 = 1 := hq_1
  subst hq_1
  refine lv_if_eq (tgt := 11) hx hb dX8_valid_5 (by decide) (fun h9 => absurd h9 (by decide)) (fun _ => ?_)
  refine lv_bipush (v := (-2)) hx hb dX8_valid_8 (by decide) ?_
  exact ret_i hx hb hr hlk hS (Nat.le_of_ble_eq_true rfl) (Nat.le_of_ble_eq_true rfl) () (rfl) (hP.sub [] rfl) (hD.sub [] (by decide) rfl) dX8_valid_10

set_option maxHeartbeats 4000000 in
set_option maxRecDepth 100000 in
theorem k_X8_valids (l : Launch) (D : va_G) (cs : Nat → ClassId) (sz : Nat) (a0 : Nat) (aT : Nat) (aD : Nat) (aO : Nat) (aR : Nat) (aS : Nat) (aJ : Nat) (aC : Nat) (aI : Nat) (aK : Nat) (aL : Nat) (o1 : Nat) (o2 : Nat) (o3 : Nat) (o4 : Nat) (o5 : Nat) (s1 : Nat) (s2 : Nat) (s3 : Nat) (s4 : Nat)  : Mi l D cs yX8_valids W_X8_valids 1 20 0 0 [.ref a0] [(a0, .inr (8, [.ref aT, .ref aD, .ref aO, .ref aR, .ref aS, .ref aJ, .ref aC, .ref aI, .ref aK, .ref aL])), (aO, .inr (0, [.int 0, .int 0, .int 0, .int 0, .int 0, .int 0, .int 0, .int 0, .int 0, .int 0, .ref o1, .ref o2, .ref o3, .ref o4, .ref o5])), (aS, .inr (6, [.int 0, .int 0, .int 0, .long 0, .ref s1, .ref s2, .ref s3, .ref s4]))] sz (fun (r : Int32) (u : Unit) => r = (-2)) (fun (u : Unit) => []) := by
  refine ent (D := D) (cs := cs) (y := yX8_valids) (ws := W_X8_valids) (As := [.ref a0]) (W0 := [(a0, .inr (8, [.ref aT, .ref aD, .ref aO, .ref aR, .ref aS, .ref aJ, .ref aC, .ref aI, .ref aK, .ref aL])), (aO, .inr (0, [.int 0, .int 0, .int 0, .int 0, .int 0, .int 0, .int 0, .int 0, .int 0, .int 0, .ref o1, .ref o2, .ref o3, .ref o4, .ref o5])), (aS, .inr (6, [.int 0, .int 0, .int 0, .long 0, .ref s1, .ref s2, .ref s3, .ref s4]))]) (Qx := fun A => va_Qi (fun (r : Int32) (u : Unit) => r = (-2)) (mpost D A (fun (u : Unit) => [])) A) (maxL := 1) (ret := (some .int)) (by decide) rfl (Nat.le_of_ble_eq_true rfl) ?_
  intro p e s m below meth c A ls hx hb hr hml hlk hown hts hin hK hE hP hD hA hS hl
  have hl : lv_has ls 1 [(0, .ref a0)] := hl
  generalize hHe : s.heap = H at hP
  have hS : va_S A s.heap H [] := hHe ▸ hS
  have htw : ∀ w ∈ O_X8_valids, w.before ([.ref a0] : List Value).toArray s = true := fun w h => hts w (List.mem_cons_of_mem _ (List.mem_append_left _ h))
  have hFix := (⟨hx, hb, hml, hown, hts⟩ : CallFix p m c _ _ s _ _ _)
  refine lv_aload_n hx hb dX8_valids_0 rfl (lv_at hl 0 rfl) ?_
  refine aft_i (wr := [(aS, .inr (6, [.int 0, .int 0, .int 0, .long 0, .ref s1, .ref s2, .ref s3, .ref s4]))]) hP hD hS hA [0, 1] [2] rfl rfl (by decide) (by decide) (run_v (As := []) (rest := []) hFix hK hE hP hD [0, 1] (k_X8_isTold l D cs _ a0 aT aD aO aR aS aJ aC aI aK aL o1 o2 o3 o4 o5) (cwV 0 hts gc_X8_valids_120_X8_isTold rfl rfl rfl (by decide +kernel) ⟨Nat.le_of_ble_eq_true rfl, Nat.le_of_ble_eq_true rfl⟩) rfl (by decide) rfl rfl rfl hl.1 rfl (Nat.le_of_ble_eq_true rfl) dX8_valids_1 ⟨Nat.le_of_ble_eq_true rfl, Nat.le_of_ble_eq_true rfl⟩) (fun r_1 u_1 H locs hq_1 hP hD hS => ?_)
  have hP : va_P D vwCl [(aS, .inr (6, [.int 0, .int 0, .int 0, .long 0, .ref s1, .ref s2, .ref s3, .ref s4])), (a0, .inr (8, [.ref aT, .ref aD, .ref aO, .ref aR, .ref aS, .ref aJ, .ref aC, .ref aI, .ref aK, .ref aL])), (aO, .inr (0, [.int 0, .int 0, .int 0, .int 0, .int 0, .int 0, .int 0, .int 0, .int 0, .int 0, .ref o1, .ref o2, .ref o3, .ref o4, .ref o5]))] H := hP
  have hD : va_D A [(aS, .inr (6, [.int 0, .int 0, .int 0, .long 0, .ref s1, .ref s2, .ref s3, .ref s4])), (a0, .inr (8, [.ref aT, .ref aD, .ref aO, .ref aR, .ref aS, .ref aJ, .ref aC, .ref aI, .ref aK, .ref aL])), (aO, .inr (0, [.int 0, .int 0, .int 0, .int 0, .int 0, .int 0, .int 0, .int 0, .int 0, .int 0, .ref o1, .ref o2, .ref o3, .ref o4, .ref o5]))] := hD
  replace hq_1 : r_1 = 0 := hq_1
  subst hq_1
  refine lv_if_eq (tgt := 20) hx hb dX8_valids_4 (by decide) (fun _ => ?_) (fun h9 => absurd h9 (by decide))
  refine lv_bipush (v := (-2)) hx hb dX8_valids_20 (by decide) ?_
  exact ret_i hx hb hr hlk hS (Nat.le_of_ble_eq_true rfl) (Nat.le_of_ble_eq_true rfl) () (rfl) (hP.sub [] rfl) (hD.sub [] (by decide) rfl) dX8_valids_22

set_option maxHeartbeats 4000000 in
set_option maxRecDepth 100000 in
theorem k_X8_breaks (l : Launch) (D : va_G) (cs : Nat → ClassId) (sz : Nat) (a0 : Nat) (k : Int32) (aT : Nat) (aD : Nat) (aO : Nat) (aR : Nat) (aS : Nat) (aJ : Nat) (aC : Nat) (aI : Nat) (aK : Nat) (aL : Nat) (o1 : Nat) (o2 : Nat) (o3 : Nat) (o4 : Nat) (o5 : Nat) (s1 : Nat) (s2 : Nat) (s3 : Nat) (s4 : Nat)  : Mi l D cs yX8_breaks W_X8_breaks 1 21 0 0 [.ref a0, .int k] [(a0, .inr (8, [.ref aT, .ref aD, .ref aO, .ref aR, .ref aS, .ref aJ, .ref aC, .ref aI, .ref aK, .ref aL])), (aO, .inr (0, [.int 0, .int 0, .int 0, .int 0, .int 0, .int 0, .int 0, .int 0, .int 0, .int 0, .ref o1, .ref o2, .ref o3, .ref o4, .ref o5])), (aS, .inr (6, [.int 0, .int 0, .int 0, .long 0, .ref s1, .ref s2, .ref s3, .ref s4]))] sz (fun (r : Int32) (u : Unit) => r = (-2)) (fun (u : Unit) => []) := by
  refine ent (D := D) (cs := cs) (y := yX8_breaks) (ws := W_X8_breaks) (As := [.ref a0, .int k]) (W0 := [(a0, .inr (8, [.ref aT, .ref aD, .ref aO, .ref aR, .ref aS, .ref aJ, .ref aC, .ref aI, .ref aK, .ref aL])), (aO, .inr (0, [.int 0, .int 0, .int 0, .int 0, .int 0, .int 0, .int 0, .int 0, .int 0, .int 0, .ref o1, .ref o2, .ref o3, .ref o4, .ref o5])), (aS, .inr (6, [.int 0, .int 0, .int 0, .long 0, .ref s1, .ref s2, .ref s3, .ref s4]))]) (Qx := fun A => va_Qi (fun (r : Int32) (u : Unit) => r = (-2)) (mpost D A (fun (u : Unit) => [])) A) (maxL := 2) (ret := (some .int)) (by decide) rfl (Nat.le_of_ble_eq_true rfl) ?_
  intro p e s m below meth c A ls hx hb hr hml hlk hown hts hin hK hE hP hD hA hS hl
  have hl : lv_has ls 2 [(0, .ref a0), (1, .int k)] := hl
  generalize hHe : s.heap = H at hP
  have hS : va_S A s.heap H [] := hHe ▸ hS
  have htw : ∀ w ∈ O_X8_breaks, w.before ([.ref a0, .int k] : List Value).toArray s = true := fun w h => hts w (List.mem_cons_of_mem _ (List.mem_append_left _ h))
  have hFix := (⟨hx, hb, hml, hown, hts⟩ : CallFix p m c _ _ s _ _ _)
  refine lv_aload_n hx hb dX8_breaks_0 rfl (lv_at hl 0 rfl) ?_
  refine lv_iload_n hx hb dX8_breaks_1 rfl (lv_at hl 1 rfl) ?_
  refine aft_i (wr := [(aO, .inr (0, [.int 0, .int 0, .int 0, .int 0, .int 0, .int 0, .int 0, .int 0, .int 0, .int 0, .ref o1, .ref o2, .ref o3, .ref o4, .ref o5]))]) hP hD hS hA [0, 2] [1] rfl rfl (by decide) (by decide) (run_v (As := [.int k]) (rest := []) hFix hK hE hP hD [0, 2] (k_X8_noState l D cs _ a0 k aT aD aO aR aS aJ aC aI aK aL s1 s2 s3 s4) (cwV 1 hts gc_X8_breaks_124_X8_noState rfl rfl rfl (by decide +kernel) ⟨Nat.le_of_ble_eq_true rfl, Nat.le_of_ble_eq_true rfl⟩) rfl (by decide) rfl rfl rfl hl.1 rfl (Nat.le_of_ble_eq_true rfl) dX8_breaks_2 ⟨Nat.le_of_ble_eq_true rfl, Nat.le_of_ble_eq_true rfl⟩) (fun r_1 u_1 H locs hq_1 hP hD hS => ?_)
  have hP : va_P D vwCl [(aO, .inr (0, [.int 0, .int 0, .int 0, .int 0, .int 0, .int 0, .int 0, .int 0, .int 0, .int 0, .ref o1, .ref o2, .ref o3, .ref o4, .ref o5])), (a0, .inr (8, [.ref aT, .ref aD, .ref aO, .ref aR, .ref aS, .ref aJ, .ref aC, .ref aI, .ref aK, .ref aL])), (aS, .inr (6, [.int 0, .int 0, .int 0, .long 0, .ref s1, .ref s2, .ref s3, .ref s4]))] H := hP
  have hD : va_D A [(aO, .inr (0, [.int 0, .int 0, .int 0, .int 0, .int 0, .int 0, .int 0, .int 0, .int 0, .int 0, .ref o1, .ref o2, .ref o3, .ref o4, .ref o5])), (a0, .inr (8, [.ref aT, .ref aD, .ref aO, .ref aR, .ref aS, .ref aJ, .ref aC, .ref aI, .ref aK, .ref aL])), (aS, .inr (6, [.int 0, .int 0, .int 0, .long 0, .ref s1, .ref s2, .ref s3, .ref s4]))] := hD
  replace hq_1 : r_1 = 1 := hq_1
  subst hq_1
  refine lv_if_eq (tgt := 13) hx hb dX8_breaks_5 (by decide) (fun h9 => absurd h9 (by decide)) (fun _ => ?_)
  refine lv_bipush (v := (-2)) hx hb dX8_breaks_8 (by decide) ?_
  refine lv_goto (tgt := 21) hx hb dX8_breaks_10 (by decide) ?_
  exact ret_i hx hb hr hlk hS (Nat.le_of_ble_eq_true rfl) (Nat.le_of_ble_eq_true rfl) () (rfl) (hP.sub [] rfl) (hD.sub [] (by decide) rfl) dX8_breaks_21

set_option maxHeartbeats 4000000 in
set_option maxRecDepth 100000 in
theorem k_X8_weight (l : Launch) (D : va_G) (cs : Nat → ClassId) (sz : Nat) (a0 : Nat) (k : Int32) (aT : Nat) (aD : Nat) (aO : Nat) (aR : Nat) (aS : Nat) (aJ : Nat) (aC : Nat) (aI : Nat) (aK : Nat) (aL : Nat) (o1 : Nat) (o2 : Nat) (o3 : Nat) (o4 : Nat) (o5 : Nat) (s1 : Nat) (s2 : Nat) (s3 : Nat) (s4 : Nat)  : Mi l D cs yX8_weight W_X8_weight 1 21 0 0 [.ref a0, .int k] [(a0, .inr (8, [.ref aT, .ref aD, .ref aO, .ref aR, .ref aS, .ref aJ, .ref aC, .ref aI, .ref aK, .ref aL])), (aO, .inr (0, [.int 0, .int 0, .int 0, .int 0, .int 0, .int 0, .int 0, .int 0, .int 0, .int 0, .ref o1, .ref o2, .ref o3, .ref o4, .ref o5])), (aS, .inr (6, [.int 0, .int 0, .int 0, .long 0, .ref s1, .ref s2, .ref s3, .ref s4]))] sz (fun (r : Int32) (u : Unit) => r = (-2)) (fun (u : Unit) => []) := by
  refine ent (D := D) (cs := cs) (y := yX8_weight) (ws := W_X8_weight) (As := [.ref a0, .int k]) (W0 := [(a0, .inr (8, [.ref aT, .ref aD, .ref aO, .ref aR, .ref aS, .ref aJ, .ref aC, .ref aI, .ref aK, .ref aL])), (aO, .inr (0, [.int 0, .int 0, .int 0, .int 0, .int 0, .int 0, .int 0, .int 0, .int 0, .int 0, .ref o1, .ref o2, .ref o3, .ref o4, .ref o5])), (aS, .inr (6, [.int 0, .int 0, .int 0, .long 0, .ref s1, .ref s2, .ref s3, .ref s4]))]) (Qx := fun A => va_Qi (fun (r : Int32) (u : Unit) => r = (-2)) (mpost D A (fun (u : Unit) => [])) A) (maxL := 4) (ret := (some .int)) (by decide) rfl (Nat.le_of_ble_eq_true rfl) ?_
  intro p e s m below meth c A ls hx hb hr hml hlk hown hts hin hK hE hP hD hA hS hl
  have hl : lv_has ls 4 [(0, .ref a0), (1, .int k)] := hl
  generalize hHe : s.heap = H at hP
  have hS : va_S A s.heap H [] := hHe ▸ hS
  have htw : ∀ w ∈ O_X8_weight, w.before ([.ref a0, .int k] : List Value).toArray s = true := fun w h => hts w (List.mem_cons_of_mem _ (List.mem_append_left _ h))
  have hFix := (⟨hx, hb, hml, hown, hts⟩ : CallFix p m c _ _ s _ _ _)
  refine lv_aload_n hx hb dX8_weight_0 rfl (lv_at hl 0 rfl) ?_
  refine lv_iload_n hx hb dX8_weight_1 rfl (lv_at hl 1 rfl) ?_
  refine aft_i (wr := [(aO, .inr (0, [.int 0, .int 0, .int 0, .int 0, .int 0, .int 0, .int 0, .int 0, .int 0, .int 0, .ref o1, .ref o2, .ref o3, .ref o4, .ref o5]))]) hP hD hS hA [0, 2] [1] rfl rfl (by decide) (by decide) (run_v (As := [.int k]) (rest := []) hFix hK hE hP hD [0, 2] (k_X8_noState l D cs _ a0 k aT aD aO aR aS aJ aC aI aK aL s1 s2 s3 s4) (cwV 1 hts gc_X8_weight_124_X8_noState rfl rfl rfl (by decide +kernel) ⟨Nat.le_of_ble_eq_true rfl, Nat.le_of_ble_eq_true rfl⟩) rfl (by decide) rfl rfl rfl hl.1 rfl (Nat.le_of_ble_eq_true rfl) dX8_weight_2 ⟨Nat.le_of_ble_eq_true rfl, Nat.le_of_ble_eq_true rfl⟩) (fun r_1 u_1 H locs hq_1 hP hD hS => ?_)
  have hP : va_P D vwCl [(aO, .inr (0, [.int 0, .int 0, .int 0, .int 0, .int 0, .int 0, .int 0, .int 0, .int 0, .int 0, .ref o1, .ref o2, .ref o3, .ref o4, .ref o5])), (a0, .inr (8, [.ref aT, .ref aD, .ref aO, .ref aR, .ref aS, .ref aJ, .ref aC, .ref aI, .ref aK, .ref aL])), (aS, .inr (6, [.int 0, .int 0, .int 0, .long 0, .ref s1, .ref s2, .ref s3, .ref s4]))] H := hP
  have hD : va_D A [(aO, .inr (0, [.int 0, .int 0, .int 0, .int 0, .int 0, .int 0, .int 0, .int 0, .int 0, .int 0, .ref o1, .ref o2, .ref o3, .ref o4, .ref o5])), (a0, .inr (8, [.ref aT, .ref aD, .ref aO, .ref aR, .ref aS, .ref aJ, .ref aC, .ref aI, .ref aK, .ref aL])), (aS, .inr (6, [.int 0, .int 0, .int 0, .long 0, .ref s1, .ref s2, .ref s3, .ref s4]))] := hD
  replace hq_1 : r_1 = 1 := hq_1
  subst hq_1
  refine lv_if_eq (tgt := 11) hx hb dX8_weight_5 (by decide) (fun h9 => absurd h9 (by decide)) (fun _ => ?_)
  refine lv_bipush (v := (-2)) hx hb dX8_weight_8 (by decide) ?_
  exact ret_i hx hb hr hlk hS (Nat.le_of_ble_eq_true rfl) (Nat.le_of_ble_eq_true rfl) () (rfl) (hP.sub [] rfl) (hD.sub [] (by decide) rfl) dX8_weight_10

set_option maxHeartbeats 4000000 in
set_option maxRecDepth 100000 in
theorem k_X8_nearest (l : Launch) (D : va_G) (cs : Nat → ClassId) (sz : Nat) (a0 : Nat) (k : Int32) (aT : Nat) (aD : Nat) (aO : Nat) (aR : Nat) (aS : Nat) (aJ : Nat) (aC : Nat) (aI : Nat) (aK : Nat) (aL : Nat) (o1 : Nat) (o2 : Nat) (o3 : Nat) (o4 : Nat) (o5 : Nat) (s1 : Nat) (s2 : Nat) (s3 : Nat) (s4 : Nat)  : Mi l D cs yX8_nearest W_X8_nearest 1 21 0 0 [.ref a0, .int k] [(a0, .inr (8, [.ref aT, .ref aD, .ref aO, .ref aR, .ref aS, .ref aJ, .ref aC, .ref aI, .ref aK, .ref aL])), (aO, .inr (0, [.int 0, .int 0, .int 0, .int 0, .int 0, .int 0, .int 0, .int 0, .int 0, .int 0, .ref o1, .ref o2, .ref o3, .ref o4, .ref o5])), (aS, .inr (6, [.int 0, .int 0, .int 0, .long 0, .ref s1, .ref s2, .ref s3, .ref s4]))] sz (fun (r : Int32) (u : Unit) => r = (-2)) (fun (u : Unit) => []) := by
  refine ent (D := D) (cs := cs) (y := yX8_nearest) (ws := W_X8_nearest) (As := [.ref a0, .int k]) (W0 := [(a0, .inr (8, [.ref aT, .ref aD, .ref aO, .ref aR, .ref aS, .ref aJ, .ref aC, .ref aI, .ref aK, .ref aL])), (aO, .inr (0, [.int 0, .int 0, .int 0, .int 0, .int 0, .int 0, .int 0, .int 0, .int 0, .int 0, .ref o1, .ref o2, .ref o3, .ref o4, .ref o5])), (aS, .inr (6, [.int 0, .int 0, .int 0, .long 0, .ref s1, .ref s2, .ref s3, .ref s4]))]) (Qx := fun A => va_Qi (fun (r : Int32) (u : Unit) => r = (-2)) (mpost D A (fun (u : Unit) => [])) A) (maxL := 6) (ret := (some .int)) (by decide) rfl (Nat.le_of_ble_eq_true rfl) ?_
  intro p e s m below meth c A ls hx hb hr hml hlk hown hts hin hK hE hP hD hA hS hl
  have hl : lv_has ls 6 [(0, .ref a0), (1, .int k)] := hl
  generalize hHe : s.heap = H at hP
  have hS : va_S A s.heap H [] := hHe ▸ hS
  have htw : ∀ w ∈ O_X8_nearest, w.before ([.ref a0, .int k] : List Value).toArray s = true := fun w h => hts w (List.mem_cons_of_mem _ (List.mem_append_left _ h))
  have hFix := (⟨hx, hb, hml, hown, hts⟩ : CallFix p m c _ _ s _ _ _)
  refine lv_aload_n hx hb dX8_nearest_0 rfl (lv_at hl 0 rfl) ?_
  refine lv_iload_n hx hb dX8_nearest_1 rfl (lv_at hl 1 rfl) ?_
  refine aft_i (wr := [(aO, .inr (0, [.int 0, .int 0, .int 0, .int 0, .int 0, .int 0, .int 0, .int 0, .int 0, .int 0, .ref o1, .ref o2, .ref o3, .ref o4, .ref o5]))]) hP hD hS hA [0, 2] [1] rfl rfl (by decide) (by decide) (run_v (As := [.int k]) (rest := []) hFix hK hE hP hD [0, 2] (k_X8_noState l D cs _ a0 k aT aD aO aR aS aJ aC aI aK aL s1 s2 s3 s4) (cwV 1 hts gc_X8_nearest_124_X8_noState rfl rfl rfl (by decide +kernel) ⟨Nat.le_of_ble_eq_true rfl, Nat.le_of_ble_eq_true rfl⟩) rfl (by decide) rfl rfl rfl hl.1 rfl (Nat.le_of_ble_eq_true rfl) dX8_nearest_2 ⟨Nat.le_of_ble_eq_true rfl, Nat.le_of_ble_eq_true rfl⟩) (fun r_1 u_1 H locs hq_1 hP hD hS => ?_)
  have hP : va_P D vwCl [(aO, .inr (0, [.int 0, .int 0, .int 0, .int 0, .int 0, .int 0, .int 0, .int 0, .int 0, .int 0, .ref o1, .ref o2, .ref o3, .ref o4, .ref o5])), (a0, .inr (8, [.ref aT, .ref aD, .ref aO, .ref aR, .ref aS, .ref aJ, .ref aC, .ref aI, .ref aK, .ref aL])), (aS, .inr (6, [.int 0, .int 0, .int 0, .long 0, .ref s1, .ref s2, .ref s3, .ref s4]))] H := hP
  have hD : va_D A [(aO, .inr (0, [.int 0, .int 0, .int 0, .int 0, .int 0, .int 0, .int 0, .int 0, .int 0, .int 0, .ref o1, .ref o2, .ref o3, .ref o4, .ref o5])), (a0, .inr (8, [.ref aT, .ref aD, .ref aO, .ref aR, .ref aS, .ref aJ, .ref aC, .ref aI, .ref aK, .ref aL])), (aS, .inr (6, [.int 0, .int 0, .int 0, .long 0, .ref s1, .ref s2, .ref s3, .ref s4]))] := hD
  replace hq_1 : r_1 = 1 := hq_1
  subst hq_1
  refine lv_if_eq (tgt := 11) hx hb dX8_nearest_5 (by decide) (fun h9 => absurd h9 (by decide)) (fun _ => ?_)
  refine lv_bipush (v := (-2)) hx hb dX8_nearest_8 (by decide) ?_
  exact ret_i hx hb hr hlk hS (Nat.le_of_ble_eq_true rfl) (Nat.le_of_ble_eq_true rfl) () (rfl) (hP.sub [] rfl) (hD.sub [] (by decide) rfl) dX8_nearest_10

set_option maxHeartbeats 4000000 in
set_option maxRecDepth 100000 in
theorem k_X8_hard (l : Launch) (D : va_G) (cs : Nat → ClassId) (sz : Nat) (a0 : Nat) (aT : Nat) (aD : Nat) (aO : Nat) (aR : Nat) (aS : Nat) (aJ : Nat) (aC : Nat) (aI : Nat) (aK : Nat) (aL : Nat) (o1 : Nat) (o2 : Nat) (o3 : Nat) (o4 : Nat) (o5 : Nat) (s1 : Nat) (s2 : Nat) (s3 : Nat) (s4 : Nat)  : Mi l D cs yX8_hard W_X8_hard 1 20 0 0 [.ref a0] [(a0, .inr (8, [.ref aT, .ref aD, .ref aO, .ref aR, .ref aS, .ref aJ, .ref aC, .ref aI, .ref aK, .ref aL])), (aO, .inr (0, [.int 0, .int 0, .int 0, .int 0, .int 0, .int 0, .int 0, .int 0, .int 0, .int 0, .ref o1, .ref o2, .ref o3, .ref o4, .ref o5])), (aS, .inr (6, [.int 0, .int 0, .int 0, .long 0, .ref s1, .ref s2, .ref s3, .ref s4]))] sz (fun (r : Int32) (u : Unit) => r = (-2)) (fun (u : Unit) => []) := by
  refine ent (D := D) (cs := cs) (y := yX8_hard) (ws := W_X8_hard) (As := [.ref a0]) (W0 := [(a0, .inr (8, [.ref aT, .ref aD, .ref aO, .ref aR, .ref aS, .ref aJ, .ref aC, .ref aI, .ref aK, .ref aL])), (aO, .inr (0, [.int 0, .int 0, .int 0, .int 0, .int 0, .int 0, .int 0, .int 0, .int 0, .int 0, .ref o1, .ref o2, .ref o3, .ref o4, .ref o5])), (aS, .inr (6, [.int 0, .int 0, .int 0, .long 0, .ref s1, .ref s2, .ref s3, .ref s4]))]) (Qx := fun A => va_Qi (fun (r : Int32) (u : Unit) => r = (-2)) (mpost D A (fun (u : Unit) => [])) A) (maxL := 5) (ret := (some .int)) (by decide) rfl (Nat.le_of_ble_eq_true rfl) ?_
  intro p e s m below meth c A ls hx hb hr hml hlk hown hts hin hK hE hP hD hA hS hl
  have hl : lv_has ls 5 [(0, .ref a0)] := hl
  generalize hHe : s.heap = H at hP
  have hS : va_S A s.heap H [] := hHe ▸ hS
  have htw : ∀ w ∈ O_X8_hard, w.before ([.ref a0] : List Value).toArray s = true := fun w h => hts w (List.mem_cons_of_mem _ (List.mem_append_left _ h))
  have hFix := (⟨hx, hb, hml, hown, hts⟩ : CallFix p m c _ _ s _ _ _)
  refine lv_aload_n hx hb dX8_hard_0 rfl (lv_at hl 0 rfl) ?_
  refine aft_i (wr := [(aS, .inr (6, [.int 0, .int 0, .int 0, .long 0, .ref s1, .ref s2, .ref s3, .ref s4]))]) hP hD hS hA [0, 1] [2] rfl rfl (by decide) (by decide) (run_v (As := []) (rest := []) hFix hK hE hP hD [0, 1] (k_X8_isTold l D cs _ a0 aT aD aO aR aS aJ aC aI aK aL o1 o2 o3 o4 o5) (cwV 0 hts gc_X8_hard_120_X8_isTold rfl rfl rfl (by decide +kernel) ⟨Nat.le_of_ble_eq_true rfl, Nat.le_of_ble_eq_true rfl⟩) rfl (by decide) rfl rfl rfl hl.1 rfl (Nat.le_of_ble_eq_true rfl) dX8_hard_1 ⟨Nat.le_of_ble_eq_true rfl, Nat.le_of_ble_eq_true rfl⟩) (fun r_1 u_1 H locs hq_1 hP hD hS => ?_)
  have hP : va_P D vwCl [(aS, .inr (6, [.int 0, .int 0, .int 0, .long 0, .ref s1, .ref s2, .ref s3, .ref s4])), (a0, .inr (8, [.ref aT, .ref aD, .ref aO, .ref aR, .ref aS, .ref aJ, .ref aC, .ref aI, .ref aK, .ref aL])), (aO, .inr (0, [.int 0, .int 0, .int 0, .int 0, .int 0, .int 0, .int 0, .int 0, .int 0, .int 0, .ref o1, .ref o2, .ref o3, .ref o4, .ref o5]))] H := hP
  have hD : va_D A [(aS, .inr (6, [.int 0, .int 0, .int 0, .long 0, .ref s1, .ref s2, .ref s3, .ref s4])), (a0, .inr (8, [.ref aT, .ref aD, .ref aO, .ref aR, .ref aS, .ref aJ, .ref aC, .ref aI, .ref aK, .ref aL])), (aO, .inr (0, [.int 0, .int 0, .int 0, .int 0, .int 0, .int 0, .int 0, .int 0, .int 0, .int 0, .ref o1, .ref o2, .ref o3, .ref o4, .ref o5]))] := hD
  replace hq_1 : r_1 = 0 := hq_1
  subst hq_1
  refine lv_if_ne (tgt := 10) hx hb dX8_hard_4 (by decide) (fun h9 => absurd h9 (by decide)) (fun _ => ?_)
  refine lv_bipush (v := (-2)) hx hb dX8_hard_7 (by decide) ?_
  exact ret_i hx hb hr hlk hS (Nat.le_of_ble_eq_true rfl) (Nat.le_of_ble_eq_true rfl) () (rfl) (hP.sub [] rfl) (hD.sub [] (by decide) rfl) dX8_hard_9

set_option maxHeartbeats 4000000 in
set_option maxRecDepth 100000 in
theorem k_X8_spare (l : Launch) (D : va_G) (cs : Nat → ClassId) (sz : Nat) (a0 : Nat) (k : Int32) (aT : Nat) (aD : Nat) (aO : Nat) (aR : Nat) (aS : Nat) (aJ : Nat) (aC : Nat) (aI : Nat) (aK : Nat) (aL : Nat) (o1 : Nat) (o2 : Nat) (o3 : Nat) (o4 : Nat) (o5 : Nat) (s1 : Nat) (s2 : Nat) (s3 : Nat) (s4 : Nat)  : Mi l D cs yX8_spare W_X8_spare 1 21 0 0 [.ref a0, .int k] [(a0, .inr (8, [.ref aT, .ref aD, .ref aO, .ref aR, .ref aS, .ref aJ, .ref aC, .ref aI, .ref aK, .ref aL])), (aO, .inr (0, [.int 0, .int 0, .int 0, .int 0, .int 0, .int 0, .int 0, .int 0, .int 0, .int 0, .ref o1, .ref o2, .ref o3, .ref o4, .ref o5])), (aS, .inr (6, [.int 0, .int 0, .int 0, .long 0, .ref s1, .ref s2, .ref s3, .ref s4]))] sz (fun (r : Int32) (u : Unit) => r = (-2)) (fun (u : Unit) => []) := by
  refine ent (D := D) (cs := cs) (y := yX8_spare) (ws := W_X8_spare) (As := [.ref a0, .int k]) (W0 := [(a0, .inr (8, [.ref aT, .ref aD, .ref aO, .ref aR, .ref aS, .ref aJ, .ref aC, .ref aI, .ref aK, .ref aL])), (aO, .inr (0, [.int 0, .int 0, .int 0, .int 0, .int 0, .int 0, .int 0, .int 0, .int 0, .int 0, .ref o1, .ref o2, .ref o3, .ref o4, .ref o5])), (aS, .inr (6, [.int 0, .int 0, .int 0, .long 0, .ref s1, .ref s2, .ref s3, .ref s4]))]) (Qx := fun A => va_Qi (fun (r : Int32) (u : Unit) => r = (-2)) (mpost D A (fun (u : Unit) => [])) A) (maxL := 2) (ret := (some .int)) (by decide) rfl (Nat.le_of_ble_eq_true rfl) ?_
  intro p e s m below meth c A ls hx hb hr hml hlk hown hts hin hK hE hP hD hA hS hl
  have hl : lv_has ls 2 [(0, .ref a0), (1, .int k)] := hl
  generalize hHe : s.heap = H at hP
  have hS : va_S A s.heap H [] := hHe ▸ hS
  have htw : ∀ w ∈ O_X8_spare, w.before ([.ref a0, .int k] : List Value).toArray s = true := fun w h => hts w (List.mem_cons_of_mem _ (List.mem_append_left _ h))
  have hFix := (⟨hx, hb, hml, hown, hts⟩ : CallFix p m c _ _ s _ _ _)
  refine lv_aload_n hx hb dX8_spare_0 rfl (lv_at hl 0 rfl) ?_
  refine lv_iload_n hx hb dX8_spare_1 rfl (lv_at hl 1 rfl) ?_
  refine aft_i (wr := [(aS, .inr (6, [.int 0, .int 0, .int 0, .long 0, .ref s1, .ref s2, .ref s3, .ref s4]))]) hP hD hS hA [0, 1] [2] rfl rfl (by decide) (by decide) (run_v (As := [.int k]) (rest := []) hFix hK hE hP hD [0, 1] (k_X8_noRule l D cs _ a0 k aT aD aO aR aS aJ aC aI aK aL o1 o2 o3 o4 o5) (cwV 1 hts gc_X8_spare_108_X8_noRule rfl rfl rfl (by decide +kernel) ⟨Nat.le_of_ble_eq_true rfl, Nat.le_of_ble_eq_true rfl⟩) rfl (by decide) rfl rfl rfl hl.1 rfl (Nat.le_of_ble_eq_true rfl) dX8_spare_2 ⟨Nat.le_of_ble_eq_true rfl, Nat.le_of_ble_eq_true rfl⟩) (fun r_1 u_1 H locs hq_1 hP hD hS => ?_)
  have hP : va_P D vwCl [(aS, .inr (6, [.int 0, .int 0, .int 0, .long 0, .ref s1, .ref s2, .ref s3, .ref s4])), (a0, .inr (8, [.ref aT, .ref aD, .ref aO, .ref aR, .ref aS, .ref aJ, .ref aC, .ref aI, .ref aK, .ref aL])), (aO, .inr (0, [.int 0, .int 0, .int 0, .int 0, .int 0, .int 0, .int 0, .int 0, .int 0, .int 0, .ref o1, .ref o2, .ref o3, .ref o4, .ref o5]))] H := hP
  have hD : va_D A [(aS, .inr (6, [.int 0, .int 0, .int 0, .long 0, .ref s1, .ref s2, .ref s3, .ref s4])), (a0, .inr (8, [.ref aT, .ref aD, .ref aO, .ref aR, .ref aS, .ref aJ, .ref aC, .ref aI, .ref aK, .ref aL])), (aO, .inr (0, [.int 0, .int 0, .int 0, .int 0, .int 0, .int 0, .int 0, .int 0, .int 0, .int 0, .ref o1, .ref o2, .ref o3, .ref o4, .ref o5]))] := hD
  replace hq_1 : r_1 = 1 := hq_1
  subst hq_1
  refine lv_if_eq (tgt := 11) hx hb dX8_spare_5 (by decide) (fun h9 => absurd h9 (by decide)) (fun _ => ?_)
  refine lv_bipush (v := (-2)) hx hb dX8_spare_8 (by decide) ?_
  exact ret_i hx hb hr hlk hS (Nat.le_of_ble_eq_true rfl) (Nat.le_of_ble_eq_true rfl) () (rfl) (hP.sub [] rfl) (hD.sub [] (by decide) rfl) dX8_spare_10

set_option maxHeartbeats 4000000 in
set_option maxRecDepth 100000 in
theorem k_X8_room (l : Launch) (D : va_G) (cs : Nat → ClassId) (sz : Nat) (a0 : Nat) (k : Int32) (aT : Nat) (aD : Nat) (aO : Nat) (aR : Nat) (aS : Nat) (aJ : Nat) (aC : Nat) (aI : Nat) (aK : Nat) (aL : Nat) (o1 : Nat) (o2 : Nat) (o3 : Nat) (o4 : Nat) (o5 : Nat) (s1 : Nat) (s2 : Nat) (s3 : Nat) (s4 : Nat)  : Mi l D cs yX8_room W_X8_room 1 21 0 0 [.ref a0, .int k] [(a0, .inr (8, [.ref aT, .ref aD, .ref aO, .ref aR, .ref aS, .ref aJ, .ref aC, .ref aI, .ref aK, .ref aL])), (aO, .inr (0, [.int 0, .int 0, .int 0, .int 0, .int 0, .int 0, .int 0, .int 0, .int 0, .int 0, .ref o1, .ref o2, .ref o3, .ref o4, .ref o5])), (aS, .inr (6, [.int 0, .int 0, .int 0, .long 0, .ref s1, .ref s2, .ref s3, .ref s4]))] sz (fun (r : Int32) (u : Unit) => r = (-2)) (fun (u : Unit) => []) := by
  refine ent (D := D) (cs := cs) (y := yX8_room) (ws := W_X8_room) (As := [.ref a0, .int k]) (W0 := [(a0, .inr (8, [.ref aT, .ref aD, .ref aO, .ref aR, .ref aS, .ref aJ, .ref aC, .ref aI, .ref aK, .ref aL])), (aO, .inr (0, [.int 0, .int 0, .int 0, .int 0, .int 0, .int 0, .int 0, .int 0, .int 0, .int 0, .ref o1, .ref o2, .ref o3, .ref o4, .ref o5])), (aS, .inr (6, [.int 0, .int 0, .int 0, .long 0, .ref s1, .ref s2, .ref s3, .ref s4]))]) (Qx := fun A => va_Qi (fun (r : Int32) (u : Unit) => r = (-2)) (mpost D A (fun (u : Unit) => [])) A) (maxL := 4) (ret := (some .int)) (by decide) rfl (Nat.le_of_ble_eq_true rfl) ?_
  intro p e s m below meth c A ls hx hb hr hml hlk hown hts hin hK hE hP hD hA hS hl
  have hl : lv_has ls 4 [(0, .ref a0), (1, .int k)] := hl
  generalize hHe : s.heap = H at hP
  have hS : va_S A s.heap H [] := hHe ▸ hS
  have htw : ∀ w ∈ O_X8_room, w.before ([.ref a0, .int k] : List Value).toArray s = true := fun w h => hts w (List.mem_cons_of_mem _ (List.mem_append_left _ h))
  have hFix := (⟨hx, hb, hml, hown, hts⟩ : CallFix p m c _ _ s _ _ _)
  refine lv_aload_n hx hb dX8_room_0 rfl (lv_at hl 0 rfl) ?_
  refine lv_iload_n hx hb dX8_room_1 rfl (lv_at hl 1 rfl) ?_
  refine aft_i (wr := [(aS, .inr (6, [.int 0, .int 0, .int 0, .long 0, .ref s1, .ref s2, .ref s3, .ref s4]))]) hP hD hS hA [0, 1] [2] rfl rfl (by decide) (by decide) (run_v (As := [.int k]) (rest := []) hFix hK hE hP hD [0, 1] (k_X8_noCell l D cs _ a0 k aT aD aO aR aS aJ aC aI aK aL o1 o2 o3 o4 o5) (cwV 1 hts gc_X8_room_100_X8_noCell rfl rfl rfl (by decide +kernel) ⟨Nat.le_of_ble_eq_true rfl, Nat.le_of_ble_eq_true rfl⟩) rfl (by decide) rfl rfl rfl hl.1 rfl (Nat.le_of_ble_eq_true rfl) dX8_room_2 ⟨Nat.le_of_ble_eq_true rfl, Nat.le_of_ble_eq_true rfl⟩) (fun r_1 u_1 H locs hq_1 hP hD hS => ?_)
  have hP : va_P D vwCl [(aS, .inr (6, [.int 0, .int 0, .int 0, .long 0, .ref s1, .ref s2, .ref s3, .ref s4])), (a0, .inr (8, [.ref aT, .ref aD, .ref aO, .ref aR, .ref aS, .ref aJ, .ref aC, .ref aI, .ref aK, .ref aL])), (aO, .inr (0, [.int 0, .int 0, .int 0, .int 0, .int 0, .int 0, .int 0, .int 0, .int 0, .int 0, .ref o1, .ref o2, .ref o3, .ref o4, .ref o5]))] H := hP
  have hD : va_D A [(aS, .inr (6, [.int 0, .int 0, .int 0, .long 0, .ref s1, .ref s2, .ref s3, .ref s4])), (a0, .inr (8, [.ref aT, .ref aD, .ref aO, .ref aR, .ref aS, .ref aJ, .ref aC, .ref aI, .ref aK, .ref aL])), (aO, .inr (0, [.int 0, .int 0, .int 0, .int 0, .int 0, .int 0, .int 0, .int 0, .int 0, .int 0, .ref o1, .ref o2, .ref o3, .ref o4, .ref o5]))] := hD
  replace hq_1 : r_1 = 1 := hq_1
  subst hq_1
  refine lv_if_eq (tgt := 11) hx hb dX8_room_5 (by decide) (fun h9 => absurd h9 (by decide)) (fun _ => ?_)
  refine lv_bipush (v := (-2)) hx hb dX8_room_8 (by decide) ?_
  exact ret_i hx hb hr hlk hS (Nat.le_of_ble_eq_true rfl) (Nat.le_of_ble_eq_true rfl) () (rfl) (hP.sub [] rfl) (hD.sub [] (by decide) rfl) dX8_room_10

set_option maxHeartbeats 4000000 in
set_option maxRecDepth 100000 in
theorem k_X8_does (l : Launch) (D : va_G) (cs : Nat → ClassId) (sz : Nat) (a0 : Nat) (k : Int32) (k2 : Int32) (aT : Nat) (aD : Nat) (aO : Nat) (aR : Nat) (aS : Nat) (aJ : Nat) (aC : Nat) (aI : Nat) (aK : Nat) (aL : Nat) (o1 : Nat) (o2 : Nat) (o3 : Nat) (o4 : Nat) (o5 : Nat) (s1 : Nat) (s2 : Nat) (s3 : Nat) (s4 : Nat)  : Mi l D cs yX8_does W_X8_does 1 21 0 0 [.ref a0, .int k, .int k2] [(a0, .inr (8, [.ref aT, .ref aD, .ref aO, .ref aR, .ref aS, .ref aJ, .ref aC, .ref aI, .ref aK, .ref aL])), (aO, .inr (0, [.int 0, .int 0, .int 0, .int 0, .int 0, .int 0, .int 0, .int 0, .int 0, .int 0, .ref o1, .ref o2, .ref o3, .ref o4, .ref o5])), (aS, .inr (6, [.int 0, .int 0, .int 0, .long 0, .ref s1, .ref s2, .ref s3, .ref s4]))] sz (fun (r : Int32) (u : Unit) => r = (-2)) (fun (u : Unit) => []) := by
  refine ent (D := D) (cs := cs) (y := yX8_does) (ws := W_X8_does) (As := [.ref a0, .int k, .int k2]) (W0 := [(a0, .inr (8, [.ref aT, .ref aD, .ref aO, .ref aR, .ref aS, .ref aJ, .ref aC, .ref aI, .ref aK, .ref aL])), (aO, .inr (0, [.int 0, .int 0, .int 0, .int 0, .int 0, .int 0, .int 0, .int 0, .int 0, .int 0, .ref o1, .ref o2, .ref o3, .ref o4, .ref o5])), (aS, .inr (6, [.int 0, .int 0, .int 0, .long 0, .ref s1, .ref s2, .ref s3, .ref s4]))]) (Qx := fun A => va_Qi (fun (r : Int32) (u : Unit) => r = (-2)) (mpost D A (fun (u : Unit) => [])) A) (maxL := 3) (ret := (some .int)) (by decide) rfl (Nat.le_of_ble_eq_true rfl) ?_
  intro p e s m below meth c A ls hx hb hr hml hlk hown hts hin hK hE hP hD hA hS hl
  have hl : lv_has ls 3 [(0, .ref a0), (1, .int k), (2, .int k2)] := hl
  generalize hHe : s.heap = H at hP
  have hS : va_S A s.heap H [] := hHe ▸ hS
  have htw : ∀ w ∈ O_X8_does, w.before ([.ref a0, .int k, .int k2] : List Value).toArray s = true := fun w h => hts w (List.mem_cons_of_mem _ (List.mem_append_left _ h))
  have hFix := (⟨hx, hb, hml, hown, hts⟩ : CallFix p m c _ _ s _ _ _)
  refine lv_aload_n hx hb dX8_does_0 rfl (lv_at hl 0 rfl) ?_
  refine lv_iload_n hx hb dX8_does_1 rfl (lv_at hl 1 rfl) ?_
  refine aft_i (wr := [(aS, .inr (6, [.int 0, .int 0, .int 0, .long 0, .ref s1, .ref s2, .ref s3, .ref s4]))]) hP hD hS hA [0, 1] [2] rfl rfl (by decide) (by decide) (run_v (As := [.int k]) (rest := []) hFix hK hE hP hD [0, 1] (k_X8_noOp l D cs _ a0 k aT aD aO aR aS aJ aC aI aK aL o1 o2 o3 o4 o5) (cwV 1 hts gc_X8_does_114_X8_noOp rfl rfl rfl (by decide +kernel) ⟨Nat.le_of_ble_eq_true rfl, Nat.le_of_ble_eq_true rfl⟩) rfl (by decide) rfl rfl rfl hl.1 rfl (Nat.le_of_ble_eq_true rfl) dX8_does_2 ⟨Nat.le_of_ble_eq_true rfl, Nat.le_of_ble_eq_true rfl⟩) (fun r_1 u_1 H locs hq_1 hP hD hS => ?_)
  have hP : va_P D vwCl [(aS, .inr (6, [.int 0, .int 0, .int 0, .long 0, .ref s1, .ref s2, .ref s3, .ref s4])), (a0, .inr (8, [.ref aT, .ref aD, .ref aO, .ref aR, .ref aS, .ref aJ, .ref aC, .ref aI, .ref aK, .ref aL])), (aO, .inr (0, [.int 0, .int 0, .int 0, .int 0, .int 0, .int 0, .int 0, .int 0, .int 0, .int 0, .ref o1, .ref o2, .ref o3, .ref o4, .ref o5]))] H := hP
  have hD : va_D A [(aS, .inr (6, [.int 0, .int 0, .int 0, .long 0, .ref s1, .ref s2, .ref s3, .ref s4])), (a0, .inr (8, [.ref aT, .ref aD, .ref aO, .ref aR, .ref aS, .ref aJ, .ref aC, .ref aI, .ref aK, .ref aL])), (aO, .inr (0, [.int 0, .int 0, .int 0, .int 0, .int 0, .int 0, .int 0, .int 0, .int 0, .int 0, .ref o1, .ref o2, .ref o3, .ref o4, .ref o5]))] := hD
  replace hq_1 : r_1 = 1 := hq_1
  subst hq_1
  refine lv_if_ne (tgt := 16) hx hb dX8_does_5 (by decide) (fun _ => ?_) (fun h9 => absurd h9 (by decide))
  refine lv_bipush (v := (-2)) hx hb dX8_does_16 (by decide) ?_
  refine lv_goto (tgt := 30) hx hb dX8_does_18 (by decide) ?_
  exact ret_i hx hb hr hlk hS (Nat.le_of_ble_eq_true rfl) (Nat.le_of_ble_eq_true rfl) () (rfl) (hP.sub [] rfl) (hD.sub [] (by decide) rfl) dX8_does_30

set_option maxHeartbeats 4000000 in
set_option maxRecDepth 100000 in
theorem k_X8_works (l : Launch) (D : va_G) (cs : Nat → ClassId) (sz : Nat) (a0 : Nat) (k : Int32) (aT : Nat) (aD : Nat) (aO : Nat) (aR : Nat) (aS : Nat) (aJ : Nat) (aC : Nat) (aI : Nat) (aK : Nat) (aL : Nat) (o1 : Nat) (o2 : Nat) (o3 : Nat) (o4 : Nat) (o5 : Nat) (s1 : Nat) (s2 : Nat) (s3 : Nat) (s4 : Nat)  : Mi l D cs yX8_works W_X8_works 1 21 0 0 [.ref a0, .int k] [(a0, .inr (8, [.ref aT, .ref aD, .ref aO, .ref aR, .ref aS, .ref aJ, .ref aC, .ref aI, .ref aK, .ref aL])), (aO, .inr (0, [.int 0, .int 0, .int 0, .int 0, .int 0, .int 0, .int 0, .int 0, .int 0, .int 0, .ref o1, .ref o2, .ref o3, .ref o4, .ref o5])), (aS, .inr (6, [.int 0, .int 0, .int 0, .long 0, .ref s1, .ref s2, .ref s3, .ref s4]))] sz (fun (r : Int32) (u : Unit) => r = (-2)) (fun (u : Unit) => []) := by
  refine ent (D := D) (cs := cs) (y := yX8_works) (ws := W_X8_works) (As := [.ref a0, .int k]) (W0 := [(a0, .inr (8, [.ref aT, .ref aD, .ref aO, .ref aR, .ref aS, .ref aJ, .ref aC, .ref aI, .ref aK, .ref aL])), (aO, .inr (0, [.int 0, .int 0, .int 0, .int 0, .int 0, .int 0, .int 0, .int 0, .int 0, .int 0, .ref o1, .ref o2, .ref o3, .ref o4, .ref o5])), (aS, .inr (6, [.int 0, .int 0, .int 0, .long 0, .ref s1, .ref s2, .ref s3, .ref s4]))]) (Qx := fun A => va_Qi (fun (r : Int32) (u : Unit) => r = (-2)) (mpost D A (fun (u : Unit) => [])) A) (maxL := 2) (ret := (some .int)) (by decide) rfl (Nat.le_of_ble_eq_true rfl) ?_
  intro p e s m below meth c A ls hx hb hr hml hlk hown hts hin hK hE hP hD hA hS hl
  have hl : lv_has ls 2 [(0, .ref a0), (1, .int k)] := hl
  generalize hHe : s.heap = H at hP
  have hS : va_S A s.heap H [] := hHe ▸ hS
  have htw : ∀ w ∈ O_X8_works, w.before ([.ref a0, .int k] : List Value).toArray s = true := fun w h => hts w (List.mem_cons_of_mem _ (List.mem_append_left _ h))
  have hFix := (⟨hx, hb, hml, hown, hts⟩ : CallFix p m c _ _ s _ _ _)
  refine lv_aload_n hx hb dX8_works_0 rfl (lv_at hl 0 rfl) ?_
  refine lv_iload_n hx hb dX8_works_1 rfl (lv_at hl 1 rfl) ?_
  refine aft_i (wr := [(aS, .inr (6, [.int 0, .int 0, .int 0, .long 0, .ref s1, .ref s2, .ref s3, .ref s4]))]) hP hD hS hA [0, 1] [2] rfl rfl (by decide) (by decide) (run_v (As := [.int k]) (rest := []) hFix hK hE hP hD [0, 1] (k_X8_noOp l D cs _ a0 k aT aD aO aR aS aJ aC aI aK aL o1 o2 o3 o4 o5) (cwV 1 hts gc_X8_works_114_X8_noOp rfl rfl rfl (by decide +kernel) ⟨Nat.le_of_ble_eq_true rfl, Nat.le_of_ble_eq_true rfl⟩) rfl (by decide) rfl rfl rfl hl.1 rfl (Nat.le_of_ble_eq_true rfl) dX8_works_2 ⟨Nat.le_of_ble_eq_true rfl, Nat.le_of_ble_eq_true rfl⟩) (fun r_1 u_1 H locs hq_1 hP hD hS => ?_)
  have hP : va_P D vwCl [(aS, .inr (6, [.int 0, .int 0, .int 0, .long 0, .ref s1, .ref s2, .ref s3, .ref s4])), (a0, .inr (8, [.ref aT, .ref aD, .ref aO, .ref aR, .ref aS, .ref aJ, .ref aC, .ref aI, .ref aK, .ref aL])), (aO, .inr (0, [.int 0, .int 0, .int 0, .int 0, .int 0, .int 0, .int 0, .int 0, .int 0, .int 0, .ref o1, .ref o2, .ref o3, .ref o4, .ref o5]))] H := hP
  have hD : va_D A [(aS, .inr (6, [.int 0, .int 0, .int 0, .long 0, .ref s1, .ref s2, .ref s3, .ref s4])), (a0, .inr (8, [.ref aT, .ref aD, .ref aO, .ref aR, .ref aS, .ref aJ, .ref aC, .ref aI, .ref aK, .ref aL])), (aO, .inr (0, [.int 0, .int 0, .int 0, .int 0, .int 0, .int 0, .int 0, .int 0, .int 0, .int 0, .ref o1, .ref o2, .ref o3, .ref o4, .ref o5]))] := hD
  replace hq_1 : r_1 = 1 := hq_1
  subst hq_1
  refine lv_if_eq (tgt := 13) hx hb dX8_works_5 (by decide) (fun h9 => absurd h9 (by decide)) (fun _ => ?_)
  refine lv_bipush (v := (-2)) hx hb dX8_works_8 (by decide) ?_
  refine lv_goto (tgt := 21) hx hb dX8_works_10 (by decide) ?_
  exact ret_i hx hb hr hlk hS (Nat.le_of_ble_eq_true rfl) (Nat.le_of_ble_eq_true rfl) () (rfl) (hP.sub [] rfl) (hD.sub [] (by decide) rfl) dX8_works_21

set_option maxHeartbeats 4000000 in
set_option maxRecDepth 100000 in
theorem k_X8_commute (l : Launch) (D : va_G) (cs : Nat → ClassId) (sz : Nat) (a0 : Nat) (k : Int32) (k2 : Int32) (aT : Nat) (aD : Nat) (aO : Nat) (aR : Nat) (aS : Nat) (aJ : Nat) (aC : Nat) (aI : Nat) (aK : Nat) (aL : Nat) (o1 : Nat) (o2 : Nat) (o3 : Nat) (o4 : Nat) (o5 : Nat) (s1 : Nat) (s2 : Nat) (s3 : Nat) (s4 : Nat)  : Mi l D cs yX8_commute W_X8_commute 1 21 0 0 [.ref a0, .int k, .int k2] [(a0, .inr (8, [.ref aT, .ref aD, .ref aO, .ref aR, .ref aS, .ref aJ, .ref aC, .ref aI, .ref aK, .ref aL])), (aO, .inr (0, [.int 0, .int 0, .int 0, .int 0, .int 0, .int 0, .int 0, .int 0, .int 0, .int 0, .ref o1, .ref o2, .ref o3, .ref o4, .ref o5])), (aS, .inr (6, [.int 0, .int 0, .int 0, .long 0, .ref s1, .ref s2, .ref s3, .ref s4]))] sz (fun (r : Int32) (u : Unit) => r = (-2)) (fun (u : Unit) => []) := by
  refine ent (D := D) (cs := cs) (y := yX8_commute) (ws := W_X8_commute) (As := [.ref a0, .int k, .int k2]) (W0 := [(a0, .inr (8, [.ref aT, .ref aD, .ref aO, .ref aR, .ref aS, .ref aJ, .ref aC, .ref aI, .ref aK, .ref aL])), (aO, .inr (0, [.int 0, .int 0, .int 0, .int 0, .int 0, .int 0, .int 0, .int 0, .int 0, .int 0, .ref o1, .ref o2, .ref o3, .ref o4, .ref o5])), (aS, .inr (6, [.int 0, .int 0, .int 0, .long 0, .ref s1, .ref s2, .ref s3, .ref s4]))]) (Qx := fun A => va_Qi (fun (r : Int32) (u : Unit) => r = (-2)) (mpost D A (fun (u : Unit) => [])) A) (maxL := 3) (ret := (some .int)) (by decide) rfl (Nat.le_of_ble_eq_true rfl) ?_
  intro p e s m below meth c A ls hx hb hr hml hlk hown hts hin hK hE hP hD hA hS hl
  have hl : lv_has ls 3 [(0, .ref a0), (1, .int k), (2, .int k2)] := hl
  generalize hHe : s.heap = H at hP
  have hS : va_S A s.heap H [] := hHe ▸ hS
  have htw : ∀ w ∈ O_X8_commute, w.before ([.ref a0, .int k, .int k2] : List Value).toArray s = true := fun w h => hts w (List.mem_cons_of_mem _ (List.mem_append_left _ h))
  have hFix := (⟨hx, hb, hml, hown, hts⟩ : CallFix p m c _ _ s _ _ _)
  refine lv_aload_n hx hb dX8_commute_0 rfl (lv_at hl 0 rfl) ?_
  refine lv_iload_n hx hb dX8_commute_1 rfl (lv_at hl 1 rfl) ?_
  refine aft_i (wr := [(aS, .inr (6, [.int 0, .int 0, .int 0, .long 0, .ref s1, .ref s2, .ref s3, .ref s4]))]) hP hD hS hA [0, 1] [2] rfl rfl (by decide) (by decide) (run_v (As := [.int k]) (rest := []) hFix hK hE hP hD [0, 1] (k_X8_noOp l D cs _ a0 k aT aD aO aR aS aJ aC aI aK aL o1 o2 o3 o4 o5) (cwV 1 hts gc_X8_commute_114_X8_noOp rfl rfl rfl (by decide +kernel) ⟨Nat.le_of_ble_eq_true rfl, Nat.le_of_ble_eq_true rfl⟩) rfl (by decide) rfl rfl rfl hl.1 rfl (Nat.le_of_ble_eq_true rfl) dX8_commute_2 ⟨Nat.le_of_ble_eq_true rfl, Nat.le_of_ble_eq_true rfl⟩) (fun r_1 u_1 H locs hq_1 hP hD hS => ?_)
  have hP : va_P D vwCl [(aS, .inr (6, [.int 0, .int 0, .int 0, .long 0, .ref s1, .ref s2, .ref s3, .ref s4])), (a0, .inr (8, [.ref aT, .ref aD, .ref aO, .ref aR, .ref aS, .ref aJ, .ref aC, .ref aI, .ref aK, .ref aL])), (aO, .inr (0, [.int 0, .int 0, .int 0, .int 0, .int 0, .int 0, .int 0, .int 0, .int 0, .int 0, .ref o1, .ref o2, .ref o3, .ref o4, .ref o5]))] H := hP
  have hD : va_D A [(aS, .inr (6, [.int 0, .int 0, .int 0, .long 0, .ref s1, .ref s2, .ref s3, .ref s4])), (a0, .inr (8, [.ref aT, .ref aD, .ref aO, .ref aR, .ref aS, .ref aJ, .ref aC, .ref aI, .ref aK, .ref aL])), (aO, .inr (0, [.int 0, .int 0, .int 0, .int 0, .int 0, .int 0, .int 0, .int 0, .int 0, .int 0, .ref o1, .ref o2, .ref o3, .ref o4, .ref o5]))] := hD
  replace hq_1 : r_1 = 1 := hq_1
  subst hq_1
  refine lv_if_ne (tgt := 16) hx hb dX8_commute_5 (by decide) (fun _ => ?_) (fun h9 => absurd h9 (by decide))
  refine lv_bipush (v := (-2)) hx hb dX8_commute_16 (by decide) ?_
  exact ret_i hx hb hr hlk hS (Nat.le_of_ble_eq_true rfl) (Nat.le_of_ble_eq_true rfl) () (rfl) (hP.sub [] rfl) (hD.sub [] (by decide) rfl) dX8_commute_18

set_option maxHeartbeats 4000000 in
set_option maxRecDepth 100000 in
theorem k_X8_table (l : Launch) (D : va_G) (cs : Nat → ClassId) (sz : Nat) (a0 : Nat) (aT : Nat) (aD : Nat) (aO : Nat) (aR : Nat) (aS : Nat) (aJ : Nat) (aC : Nat) (aI : Nat) (aK : Nat) (aL : Nat) (o1 : Nat) (o2 : Nat) (o3 : Nat) (o4 : Nat) (o5 : Nat) (s1 : Nat) (s2 : Nat) (s3 : Nat) (s4 : Nat)  : Mi l D cs yX8_table W_X8_table 1 20 0 0 [.ref a0] [(a0, .inr (8, [.ref aT, .ref aD, .ref aO, .ref aR, .ref aS, .ref aJ, .ref aC, .ref aI, .ref aK, .ref aL])), (aO, .inr (0, [.int 0, .int 0, .int 0, .int 0, .int 0, .int 0, .int 0, .int 0, .int 0, .int 0, .ref o1, .ref o2, .ref o3, .ref o4, .ref o5])), (aS, .inr (6, [.int 0, .int 0, .int 0, .long 0, .ref s1, .ref s2, .ref s3, .ref s4]))] sz (fun (r : Int32) (u : Unit) => r = (-2)) (fun (u : Unit) => []) := by
  refine ent (D := D) (cs := cs) (y := yX8_table) (ws := W_X8_table) (As := [.ref a0]) (W0 := [(a0, .inr (8, [.ref aT, .ref aD, .ref aO, .ref aR, .ref aS, .ref aJ, .ref aC, .ref aI, .ref aK, .ref aL])), (aO, .inr (0, [.int 0, .int 0, .int 0, .int 0, .int 0, .int 0, .int 0, .int 0, .int 0, .int 0, .ref o1, .ref o2, .ref o3, .ref o4, .ref o5])), (aS, .inr (6, [.int 0, .int 0, .int 0, .long 0, .ref s1, .ref s2, .ref s3, .ref s4]))]) (Qx := fun A => va_Qi (fun (r : Int32) (u : Unit) => r = (-2)) (mpost D A (fun (u : Unit) => [])) A) (maxL := 4) (ret := (some .int)) (by decide) rfl (Nat.le_of_ble_eq_true rfl) ?_
  intro p e s m below meth c A ls hx hb hr hml hlk hown hts hin hK hE hP hD hA hS hl
  have hl : lv_has ls 4 [(0, .ref a0)] := hl
  generalize hHe : s.heap = H at hP
  have hS : va_S A s.heap H [] := hHe ▸ hS
  have htw : ∀ w ∈ O_X8_table, w.before ([.ref a0] : List Value).toArray s = true := fun w h => hts w (List.mem_cons_of_mem _ (List.mem_append_left _ h))
  have hFix := (⟨hx, hb, hml, hown, hts⟩ : CallFix p m c _ _ s _ _ _)
  refine lv_aload_n hx hb dX8_table_0 rfl (lv_at hl 0 rfl) ?_
  refine aft_i (wr := [(aS, .inr (6, [.int 0, .int 0, .int 0, .long 0, .ref s1, .ref s2, .ref s3, .ref s4]))]) hP hD hS hA [0, 1] [2] rfl rfl (by decide) (by decide) (run_v (As := []) (rest := []) hFix hK hE hP hD [0, 1] (k_X8_isTold l D cs _ a0 aT aD aO aR aS aJ aC aI aK aL o1 o2 o3 o4 o5) (cwV 0 hts gc_X8_table_120_X8_isTold rfl rfl rfl (by decide +kernel) ⟨Nat.le_of_ble_eq_true rfl, Nat.le_of_ble_eq_true rfl⟩) rfl (by decide) rfl rfl rfl hl.1 rfl (Nat.le_of_ble_eq_true rfl) dX8_table_1 ⟨Nat.le_of_ble_eq_true rfl, Nat.le_of_ble_eq_true rfl⟩) (fun r_1 u_1 H locs hq_1 hP hD hS => ?_)
  have hP : va_P D vwCl [(aS, .inr (6, [.int 0, .int 0, .int 0, .long 0, .ref s1, .ref s2, .ref s3, .ref s4])), (a0, .inr (8, [.ref aT, .ref aD, .ref aO, .ref aR, .ref aS, .ref aJ, .ref aC, .ref aI, .ref aK, .ref aL])), (aO, .inr (0, [.int 0, .int 0, .int 0, .int 0, .int 0, .int 0, .int 0, .int 0, .int 0, .int 0, .ref o1, .ref o2, .ref o3, .ref o4, .ref o5]))] H := hP
  have hD : va_D A [(aS, .inr (6, [.int 0, .int 0, .int 0, .long 0, .ref s1, .ref s2, .ref s3, .ref s4])), (a0, .inr (8, [.ref aT, .ref aD, .ref aO, .ref aR, .ref aS, .ref aJ, .ref aC, .ref aI, .ref aK, .ref aL])), (aO, .inr (0, [.int 0, .int 0, .int 0, .int 0, .int 0, .int 0, .int 0, .int 0, .int 0, .int 0, .ref o1, .ref o2, .ref o3, .ref o4, .ref o5]))] := hD
  replace hq_1 : r_1 = 0 := hq_1
  subst hq_1
  refine lv_if_ne (tgt := 10) hx hb dX8_table_4 (by decide) (fun h9 => absurd h9 (by decide)) (fun _ => ?_)
  refine lv_bipush (v := (-2)) hx hb dX8_table_7 (by decide) ?_
  exact ret_i hx hb hr hlk hS (Nat.le_of_ble_eq_true rfl) (Nat.le_of_ble_eq_true rfl) () (rfl) (hP.sub [] rfl) (hD.sub [] (by decide) rfl) dX8_table_9

set_option maxHeartbeats 4000000 in
set_option maxRecDepth 100000 in
theorem k_X8_opens (l : Launch) (D : va_G) (cs : Nat → ClassId) (sz : Nat) (a0 : Nat) (k : Int32) (aT : Nat) (aD : Nat) (aO : Nat) (aR : Nat) (aS : Nat) (aJ : Nat) (aC : Nat) (aI : Nat) (aK : Nat) (aL : Nat) (o1 : Nat) (o2 : Nat) (o3 : Nat) (o4 : Nat) (o5 : Nat) (s1 : Nat) (s2 : Nat) (s3 : Nat) (s4 : Nat)  : Mi l D cs yX8_opens W_X8_opens 1 21 0 0 [.ref a0, .int k] [(a0, .inr (8, [.ref aT, .ref aD, .ref aO, .ref aR, .ref aS, .ref aJ, .ref aC, .ref aI, .ref aK, .ref aL])), (aO, .inr (0, [.int 0, .int 0, .int 0, .int 0, .int 0, .int 0, .int 0, .int 0, .int 0, .int 0, .ref o1, .ref o2, .ref o3, .ref o4, .ref o5])), (aS, .inr (6, [.int 0, .int 0, .int 0, .long 0, .ref s1, .ref s2, .ref s3, .ref s4]))] sz (fun (r : Int32) (u : Unit) => r = (-2)) (fun (u : Unit) => []) := by
  refine ent (D := D) (cs := cs) (y := yX8_opens) (ws := W_X8_opens) (As := [.ref a0, .int k]) (W0 := [(a0, .inr (8, [.ref aT, .ref aD, .ref aO, .ref aR, .ref aS, .ref aJ, .ref aC, .ref aI, .ref aK, .ref aL])), (aO, .inr (0, [.int 0, .int 0, .int 0, .int 0, .int 0, .int 0, .int 0, .int 0, .int 0, .int 0, .ref o1, .ref o2, .ref o3, .ref o4, .ref o5])), (aS, .inr (6, [.int 0, .int 0, .int 0, .long 0, .ref s1, .ref s2, .ref s3, .ref s4]))]) (Qx := fun A => va_Qi (fun (r : Int32) (u : Unit) => r = (-2)) (mpost D A (fun (u : Unit) => [])) A) (maxL := 2) (ret := (some .int)) (by decide) rfl (Nat.le_of_ble_eq_true rfl) ?_
  intro p e s m below meth c A ls hx hb hr hml hlk hown hts hin hK hE hP hD hA hS hl
  have hl : lv_has ls 2 [(0, .ref a0), (1, .int k)] := hl
  generalize hHe : s.heap = H at hP
  have hS : va_S A s.heap H [] := hHe ▸ hS
  have htw : ∀ w ∈ O_X8_opens, w.before ([.ref a0, .int k] : List Value).toArray s = true := fun w h => hts w (List.mem_cons_of_mem _ (List.mem_append_left _ h))
  have hFix := (⟨hx, hb, hml, hown, hts⟩ : CallFix p m c _ _ s _ _ _)
  refine lv_aload_n hx hb dX8_opens_0 rfl (lv_at hl 0 rfl) ?_
  refine lv_iload_n hx hb dX8_opens_1 rfl (lv_at hl 1 rfl) ?_
  refine aft_i (wr := [(aO, .inr (0, [.int 0, .int 0, .int 0, .int 0, .int 0, .int 0, .int 0, .int 0, .int 0, .int 0, .ref o1, .ref o2, .ref o3, .ref o4, .ref o5]))]) hP hD hS hA [0, 2] [1] rfl rfl (by decide) (by decide) (run_v (As := [.int k]) (rest := []) hFix hK hE hP hD [0, 2] (k_X8_noState l D cs _ a0 k aT aD aO aR aS aJ aC aI aK aL s1 s2 s3 s4) (cwV 1 hts gc_X8_opens_124_X8_noState rfl rfl rfl (by decide +kernel) ⟨Nat.le_of_ble_eq_true rfl, Nat.le_of_ble_eq_true rfl⟩) rfl (by decide) rfl rfl rfl hl.1 rfl (Nat.le_of_ble_eq_true rfl) dX8_opens_2 ⟨Nat.le_of_ble_eq_true rfl, Nat.le_of_ble_eq_true rfl⟩) (fun r_1 u_1 H locs hq_1 hP hD hS => ?_)
  have hP : va_P D vwCl [(aO, .inr (0, [.int 0, .int 0, .int 0, .int 0, .int 0, .int 0, .int 0, .int 0, .int 0, .int 0, .ref o1, .ref o2, .ref o3, .ref o4, .ref o5])), (a0, .inr (8, [.ref aT, .ref aD, .ref aO, .ref aR, .ref aS, .ref aJ, .ref aC, .ref aI, .ref aK, .ref aL])), (aS, .inr (6, [.int 0, .int 0, .int 0, .long 0, .ref s1, .ref s2, .ref s3, .ref s4]))] H := hP
  have hD : va_D A [(aO, .inr (0, [.int 0, .int 0, .int 0, .int 0, .int 0, .int 0, .int 0, .int 0, .int 0, .int 0, .ref o1, .ref o2, .ref o3, .ref o4, .ref o5])), (a0, .inr (8, [.ref aT, .ref aD, .ref aO, .ref aR, .ref aS, .ref aJ, .ref aC, .ref aI, .ref aK, .ref aL])), (aS, .inr (6, [.int 0, .int 0, .int 0, .long 0, .ref s1, .ref s2, .ref s3, .ref s4]))] := hD
  replace hq_1 : r_1 = 1 := hq_1
  subst hq_1
  refine lv_if_eq (tgt := 13) hx hb dX8_opens_5 (by decide) (fun h9 => absurd h9 (by decide)) (fun _ => ?_)
  refine lv_bipush (v := (-2)) hx hb dX8_opens_8 (by decide) ?_
  refine lv_goto (tgt := 21) hx hb dX8_opens_10 (by decide) ?_
  exact ret_i hx hb hr hlk hS (Nat.le_of_ble_eq_true rfl) (Nat.le_of_ble_eq_true rfl) () (rfl) (hP.sub [] rfl) (hD.sub [] (by decide) rfl) dX8_opens_21

set_option maxHeartbeats 4000000 in
set_option maxRecDepth 100000 in
theorem k_X8_dead (l : Launch) (D : va_G) (cs : Nat → ClassId) (sz : Nat) (a0 : Nat) (aT : Nat) (aD : Nat) (aO : Nat) (aR : Nat) (aS : Nat) (aJ : Nat) (aC : Nat) (aI : Nat) (aK : Nat) (aL : Nat) (o1 : Nat) (o2 : Nat) (o3 : Nat) (o4 : Nat) (o5 : Nat) (s1 : Nat) (s2 : Nat) (s3 : Nat) (s4 : Nat)  : Mi l D cs yX8_dead W_X8_dead 1 20 0 0 [.ref a0] [(a0, .inr (8, [.ref aT, .ref aD, .ref aO, .ref aR, .ref aS, .ref aJ, .ref aC, .ref aI, .ref aK, .ref aL])), (aO, .inr (0, [.int 0, .int 0, .int 0, .int 0, .int 0, .int 0, .int 0, .int 0, .int 0, .int 0, .ref o1, .ref o2, .ref o3, .ref o4, .ref o5])), (aS, .inr (6, [.int 0, .int 0, .int 0, .long 0, .ref s1, .ref s2, .ref s3, .ref s4]))] sz (fun (r : Int32) (u : Unit) => r = (-2)) (fun (u : Unit) => []) := by
  refine ent (D := D) (cs := cs) (y := yX8_dead) (ws := W_X8_dead) (As := [.ref a0]) (W0 := [(a0, .inr (8, [.ref aT, .ref aD, .ref aO, .ref aR, .ref aS, .ref aJ, .ref aC, .ref aI, .ref aK, .ref aL])), (aO, .inr (0, [.int 0, .int 0, .int 0, .int 0, .int 0, .int 0, .int 0, .int 0, .int 0, .int 0, .ref o1, .ref o2, .ref o3, .ref o4, .ref o5])), (aS, .inr (6, [.int 0, .int 0, .int 0, .long 0, .ref s1, .ref s2, .ref s3, .ref s4]))]) (Qx := fun A => va_Qi (fun (r : Int32) (u : Unit) => r = (-2)) (mpost D A (fun (u : Unit) => [])) A) (maxL := 3) (ret := (some .int)) (by decide) rfl (Nat.le_of_ble_eq_true rfl) ?_
  intro p e s m below meth c A ls hx hb hr hml hlk hown hts hin hK hE hP hD hA hS hl
  have hl : lv_has ls 3 [(0, .ref a0)] := hl
  generalize hHe : s.heap = H at hP
  have hS : va_S A s.heap H [] := hHe ▸ hS
  have htw : ∀ w ∈ O_X8_dead, w.before ([.ref a0] : List Value).toArray s = true := fun w h => hts w (List.mem_cons_of_mem _ (List.mem_append_left _ h))
  have hFix := (⟨hx, hb, hml, hown, hts⟩ : CallFix p m c _ _ s _ _ _)
  refine lv_aload_n hx hb dX8_dead_0 rfl (lv_at hl 0 rfl) ?_
  refine aft_i (wr := [(aS, .inr (6, [.int 0, .int 0, .int 0, .long 0, .ref s1, .ref s2, .ref s3, .ref s4]))]) hP hD hS hA [0, 1] [2] rfl rfl (by decide) (by decide) (run_v (As := []) (rest := []) hFix hK hE hP hD [0, 1] (k_X8_isTold l D cs _ a0 aT aD aO aR aS aJ aC aI aK aL o1 o2 o3 o4 o5) (cwV 0 hts gc_X8_dead_120_X8_isTold rfl rfl rfl (by decide +kernel) ⟨Nat.le_of_ble_eq_true rfl, Nat.le_of_ble_eq_true rfl⟩) rfl (by decide) rfl rfl rfl hl.1 rfl (Nat.le_of_ble_eq_true rfl) dX8_dead_1 ⟨Nat.le_of_ble_eq_true rfl, Nat.le_of_ble_eq_true rfl⟩) (fun r_1 u_1 H locs hq_1 hP hD hS => ?_)
  have hP : va_P D vwCl [(aS, .inr (6, [.int 0, .int 0, .int 0, .long 0, .ref s1, .ref s2, .ref s3, .ref s4])), (a0, .inr (8, [.ref aT, .ref aD, .ref aO, .ref aR, .ref aS, .ref aJ, .ref aC, .ref aI, .ref aK, .ref aL])), (aO, .inr (0, [.int 0, .int 0, .int 0, .int 0, .int 0, .int 0, .int 0, .int 0, .int 0, .int 0, .ref o1, .ref o2, .ref o3, .ref o4, .ref o5]))] H := hP
  have hD : va_D A [(aS, .inr (6, [.int 0, .int 0, .int 0, .long 0, .ref s1, .ref s2, .ref s3, .ref s4])), (a0, .inr (8, [.ref aT, .ref aD, .ref aO, .ref aR, .ref aS, .ref aJ, .ref aC, .ref aI, .ref aK, .ref aL])), (aO, .inr (0, [.int 0, .int 0, .int 0, .int 0, .int 0, .int 0, .int 0, .int 0, .int 0, .int 0, .ref o1, .ref o2, .ref o3, .ref o4, .ref o5]))] := hD
  replace hq_1 : r_1 = 0 := hq_1
  subst hq_1
  refine lv_if_ne (tgt := 10) hx hb dX8_dead_4 (by decide) (fun h9 => absurd h9 (by decide)) (fun _ => ?_)
  refine lv_bipush (v := (-2)) hx hb dX8_dead_7 (by decide) ?_
  exact ret_i hx hb hr hlk hS (Nat.le_of_ble_eq_true rfl) (Nat.le_of_ble_eq_true rfl) () (rfl) (hP.sub [] rfl) (hD.sub [] (by decide) rfl) dX8_dead_9

set_option maxHeartbeats 4000000 in
set_option maxRecDepth 100000 in
theorem k_X8_merge (l : Launch) (D : va_G) (cs : Nat → ClassId) (sz : Nat) (a0 : Nat) (k : Int32) (k2 : Int32) (k3 : Int32) (aT : Nat) (aD : Nat) (aO : Nat) (aR : Nat) (aS : Nat) (aJ : Nat) (aC : Nat) (aI : Nat) (aK : Nat) (aL : Nat) (o1 : Nat) (o2 : Nat) (o3 : Nat) (o4 : Nat) (o5 : Nat) (s1 : Nat) (s2 : Nat) (s3 : Nat) (s4 : Nat)  : Mi l D cs yX8_merge W_X8_merge 1 21 0 0 [.ref a0, .int k, .int k2, .int k3] [(a0, .inr (8, [.ref aT, .ref aD, .ref aO, .ref aR, .ref aS, .ref aJ, .ref aC, .ref aI, .ref aK, .ref aL])), (aO, .inr (0, [.int 0, .int 0, .int 0, .int 0, .int 0, .int 0, .int 0, .int 0, .int 0, .int 0, .ref o1, .ref o2, .ref o3, .ref o4, .ref o5])), (aS, .inr (6, [.int 0, .int 0, .int 0, .long 0, .ref s1, .ref s2, .ref s3, .ref s4]))] sz (fun (r : Int32) (u : Unit) => r = (-2)) (fun (u : Unit) => []) := by
  refine ent (D := D) (cs := cs) (y := yX8_merge) (ws := W_X8_merge) (As := [.ref a0, .int k, .int k2, .int k3]) (W0 := [(a0, .inr (8, [.ref aT, .ref aD, .ref aO, .ref aR, .ref aS, .ref aJ, .ref aC, .ref aI, .ref aK, .ref aL])), (aO, .inr (0, [.int 0, .int 0, .int 0, .int 0, .int 0, .int 0, .int 0, .int 0, .int 0, .int 0, .ref o1, .ref o2, .ref o3, .ref o4, .ref o5])), (aS, .inr (6, [.int 0, .int 0, .int 0, .long 0, .ref s1, .ref s2, .ref s3, .ref s4]))]) (Qx := fun A => va_Qi (fun (r : Int32) (u : Unit) => r = (-2)) (mpost D A (fun (u : Unit) => [])) A) (maxL := 4) (ret := (some .int)) (by decide) rfl (Nat.le_of_ble_eq_true rfl) ?_
  intro p e s m below meth c A ls hx hb hr hml hlk hown hts hin hK hE hP hD hA hS hl
  have hl : lv_has ls 4 [(0, .ref a0), (1, .int k), (2, .int k2), (3, .int k3)] := hl
  generalize hHe : s.heap = H at hP
  have hS : va_S A s.heap H [] := hHe ▸ hS
  have htw : ∀ w ∈ O_X8_merge, w.before ([.ref a0, .int k, .int k2, .int k3] : List Value).toArray s = true := fun w h => hts w (List.mem_cons_of_mem _ (List.mem_append_left _ h))
  have hFix := (⟨hx, hb, hml, hown, hts⟩ : CallFix p m c _ _ s _ _ _)
  refine lv_aload_n hx hb dX8_merge_0 rfl (lv_at hl 0 rfl) ?_
  refine lv_iload_n hx hb dX8_merge_1 rfl (lv_at hl 1 rfl) ?_
  refine aft_i (wr := [(aO, .inr (0, [.int 0, .int 0, .int 0, .int 0, .int 0, .int 0, .int 0, .int 0, .int 0, .int 0, .ref o1, .ref o2, .ref o3, .ref o4, .ref o5]))]) hP hD hS hA [0, 2] [1] rfl rfl (by decide) (by decide) (run_v (As := [.int k]) (rest := []) hFix hK hE hP hD [0, 2] (k_X8_noState l D cs _ a0 k aT aD aO aR aS aJ aC aI aK aL s1 s2 s3 s4) (cwV 1 hts gc_X8_merge_124_X8_noState rfl rfl rfl (by decide +kernel) ⟨Nat.le_of_ble_eq_true rfl, Nat.le_of_ble_eq_true rfl⟩) rfl (by decide) rfl rfl rfl hl.1 rfl (Nat.le_of_ble_eq_true rfl) dX8_merge_2 ⟨Nat.le_of_ble_eq_true rfl, Nat.le_of_ble_eq_true rfl⟩) (fun r_1 u_1 H locs hq_1 hP hD hS => ?_)
  have hP : va_P D vwCl [(aO, .inr (0, [.int 0, .int 0, .int 0, .int 0, .int 0, .int 0, .int 0, .int 0, .int 0, .int 0, .ref o1, .ref o2, .ref o3, .ref o4, .ref o5])), (a0, .inr (8, [.ref aT, .ref aD, .ref aO, .ref aR, .ref aS, .ref aJ, .ref aC, .ref aI, .ref aK, .ref aL])), (aS, .inr (6, [.int 0, .int 0, .int 0, .long 0, .ref s1, .ref s2, .ref s3, .ref s4]))] H := hP
  have hD : va_D A [(aO, .inr (0, [.int 0, .int 0, .int 0, .int 0, .int 0, .int 0, .int 0, .int 0, .int 0, .int 0, .ref o1, .ref o2, .ref o3, .ref o4, .ref o5])), (a0, .inr (8, [.ref aT, .ref aD, .ref aO, .ref aR, .ref aS, .ref aJ, .ref aC, .ref aI, .ref aK, .ref aL])), (aS, .inr (6, [.int 0, .int 0, .int 0, .long 0, .ref s1, .ref s2, .ref s3, .ref s4]))] := hD
  replace hq_1 : r_1 = 1 := hq_1
  subst hq_1
  refine lv_if_ne (tgt := 24) hx hb dX8_merge_5 (by decide) (fun _ => ?_) (fun h9 => absurd h9 (by decide))
  refine lv_bipush (v := (-2)) hx hb dX8_merge_24 (by decide) ?_
  exact ret_i hx hb hr hlk hS (Nat.le_of_ble_eq_true rfl) (Nat.le_of_ble_eq_true rfl) () (rfl) (hP.sub [] rfl) (hD.sub [] (by decide) rfl) dX8_merge_26

set_option maxHeartbeats 4000000 in
set_option maxRecDepth 100000 in
theorem k_X8_even (l : Launch) (D : va_G) (cs : Nat → ClassId) (sz : Nat) (a0 : Nat) (k : Int32) (k2 : Int32) (k3 : Int32) (aT : Nat) (aD : Nat) (aO : Nat) (aR : Nat) (aS : Nat) (aJ : Nat) (aC : Nat) (aI : Nat) (aK : Nat) (aL : Nat) (o1 : Nat) (o2 : Nat) (o3 : Nat) (o4 : Nat) (o5 : Nat) (s1 : Nat) (s2 : Nat) (s3 : Nat) (s4 : Nat)  : Mi l D cs yX8_even W_X8_even 1 21 0 0 [.ref a0, .int k, .int k2, .int k3] [(a0, .inr (8, [.ref aT, .ref aD, .ref aO, .ref aR, .ref aS, .ref aJ, .ref aC, .ref aI, .ref aK, .ref aL])), (aO, .inr (0, [.int 0, .int 0, .int 0, .int 0, .int 0, .int 0, .int 0, .int 0, .int 0, .int 0, .ref o1, .ref o2, .ref o3, .ref o4, .ref o5])), (aS, .inr (6, [.int 0, .int 0, .int 0, .long 0, .ref s1, .ref s2, .ref s3, .ref s4]))] sz (fun (r : Int32) (u : Unit) => r = (-2)) (fun (u : Unit) => []) := by
  refine ent (D := D) (cs := cs) (y := yX8_even) (ws := W_X8_even) (As := [.ref a0, .int k, .int k2, .int k3]) (W0 := [(a0, .inr (8, [.ref aT, .ref aD, .ref aO, .ref aR, .ref aS, .ref aJ, .ref aC, .ref aI, .ref aK, .ref aL])), (aO, .inr (0, [.int 0, .int 0, .int 0, .int 0, .int 0, .int 0, .int 0, .int 0, .int 0, .int 0, .ref o1, .ref o2, .ref o3, .ref o4, .ref o5])), (aS, .inr (6, [.int 0, .int 0, .int 0, .long 0, .ref s1, .ref s2, .ref s3, .ref s4]))]) (Qx := fun A => va_Qi (fun (r : Int32) (u : Unit) => r = (-2)) (mpost D A (fun (u : Unit) => [])) A) (maxL := 4) (ret := (some .int)) (by decide) rfl (Nat.le_of_ble_eq_true rfl) ?_
  intro p e s m below meth c A ls hx hb hr hml hlk hown hts hin hK hE hP hD hA hS hl
  have hl : lv_has ls 4 [(0, .ref a0), (1, .int k), (2, .int k2), (3, .int k3)] := hl
  generalize hHe : s.heap = H at hP
  have hS : va_S A s.heap H [] := hHe ▸ hS
  have htw : ∀ w ∈ O_X8_even, w.before ([.ref a0, .int k, .int k2, .int k3] : List Value).toArray s = true := fun w h => hts w (List.mem_cons_of_mem _ (List.mem_append_left _ h))
  have hFix := (⟨hx, hb, hml, hown, hts⟩ : CallFix p m c _ _ s _ _ _)
  refine lv_aload_n hx hb dX8_even_0 rfl (lv_at hl 0 rfl) ?_
  refine lv_iload_n hx hb dX8_even_1 rfl (lv_at hl 1 rfl) ?_
  refine aft_i (wr := [(aO, .inr (0, [.int 0, .int 0, .int 0, .int 0, .int 0, .int 0, .int 0, .int 0, .int 0, .int 0, .ref o1, .ref o2, .ref o3, .ref o4, .ref o5]))]) hP hD hS hA [0, 2] [1] rfl rfl (by decide) (by decide) (run_v (As := [.int k]) (rest := []) hFix hK hE hP hD [0, 2] (k_X8_noState l D cs _ a0 k aT aD aO aR aS aJ aC aI aK aL s1 s2 s3 s4) (cwV 1 hts gc_X8_even_124_X8_noState rfl rfl rfl (by decide +kernel) ⟨Nat.le_of_ble_eq_true rfl, Nat.le_of_ble_eq_true rfl⟩) rfl (by decide) rfl rfl rfl hl.1 rfl (Nat.le_of_ble_eq_true rfl) dX8_even_2 ⟨Nat.le_of_ble_eq_true rfl, Nat.le_of_ble_eq_true rfl⟩) (fun r_1 u_1 H locs hq_1 hP hD hS => ?_)
  have hP : va_P D vwCl [(aO, .inr (0, [.int 0, .int 0, .int 0, .int 0, .int 0, .int 0, .int 0, .int 0, .int 0, .int 0, .ref o1, .ref o2, .ref o3, .ref o4, .ref o5])), (a0, .inr (8, [.ref aT, .ref aD, .ref aO, .ref aR, .ref aS, .ref aJ, .ref aC, .ref aI, .ref aK, .ref aL])), (aS, .inr (6, [.int 0, .int 0, .int 0, .long 0, .ref s1, .ref s2, .ref s3, .ref s4]))] H := hP
  have hD : va_D A [(aO, .inr (0, [.int 0, .int 0, .int 0, .int 0, .int 0, .int 0, .int 0, .int 0, .int 0, .int 0, .ref o1, .ref o2, .ref o3, .ref o4, .ref o5])), (a0, .inr (8, [.ref aT, .ref aD, .ref aO, .ref aR, .ref aS, .ref aJ, .ref aC, .ref aI, .ref aK, .ref aL])), (aS, .inr (6, [.int 0, .int 0, .int 0, .long 0, .ref s1, .ref s2, .ref s3, .ref s4]))] := hD
  replace hq_1 : r_1 = 1 := hq_1
  subst hq_1
  refine lv_if_ne (tgt := 24) hx hb dX8_even_5 (by decide) (fun _ => ?_) (fun h9 => absurd h9 (by decide))
  refine lv_bipush (v := (-2)) hx hb dX8_even_24 (by decide) ?_
  exact ret_i hx hb hr hlk hS (Nat.le_of_ble_eq_true rfl) (Nat.le_of_ble_eq_true rfl) () (rfl) (hP.sub [] rfl) (hD.sub [] (by decide) rfl) dX8_even_26

set_option maxHeartbeats 4000000 in
set_option maxRecDepth 100000 in
theorem k_X8_clashes (l : Launch) (D : va_G) (cs : Nat → ClassId) (sz : Nat) (a0 : Nat) (k : Int32) (k2 : Int32) (aT : Nat) (aD : Nat) (aO : Nat) (aR : Nat) (aS : Nat) (aJ : Nat) (aC : Nat) (aI : Nat) (aK : Nat) (aL : Nat) (o1 : Nat) (o2 : Nat) (o3 : Nat) (o4 : Nat) (o5 : Nat) (s1 : Nat) (s2 : Nat) (s3 : Nat) (s4 : Nat)  : Mi l D cs yX8_clashes W_X8_clashes 1 21 0 0 [.ref a0, .int k, .int k2] [(a0, .inr (8, [.ref aT, .ref aD, .ref aO, .ref aR, .ref aS, .ref aJ, .ref aC, .ref aI, .ref aK, .ref aL])), (aO, .inr (0, [.int 0, .int 0, .int 0, .int 0, .int 0, .int 0, .int 0, .int 0, .int 0, .int 0, .ref o1, .ref o2, .ref o3, .ref o4, .ref o5])), (aS, .inr (6, [.int 0, .int 0, .int 0, .long 0, .ref s1, .ref s2, .ref s3, .ref s4]))] sz (fun (r : Int32) (u : Unit) => r = (-2)) (fun (u : Unit) => []) := by
  refine ent (D := D) (cs := cs) (y := yX8_clashes) (ws := W_X8_clashes) (As := [.ref a0, .int k, .int k2]) (W0 := [(a0, .inr (8, [.ref aT, .ref aD, .ref aO, .ref aR, .ref aS, .ref aJ, .ref aC, .ref aI, .ref aK, .ref aL])), (aO, .inr (0, [.int 0, .int 0, .int 0, .int 0, .int 0, .int 0, .int 0, .int 0, .int 0, .int 0, .ref o1, .ref o2, .ref o3, .ref o4, .ref o5])), (aS, .inr (6, [.int 0, .int 0, .int 0, .long 0, .ref s1, .ref s2, .ref s3, .ref s4]))]) (Qx := fun A => va_Qi (fun (r : Int32) (u : Unit) => r = (-2)) (mpost D A (fun (u : Unit) => [])) A) (maxL := 3) (ret := (some .int)) (by decide) rfl (Nat.le_of_ble_eq_true rfl) ?_
  intro p e s m below meth c A ls hx hb hr hml hlk hown hts hin hK hE hP hD hA hS hl
  have hl : lv_has ls 3 [(0, .ref a0), (1, .int k), (2, .int k2)] := hl
  generalize hHe : s.heap = H at hP
  have hS : va_S A s.heap H [] := hHe ▸ hS
  have htw : ∀ w ∈ O_X8_clashes, w.before ([.ref a0, .int k, .int k2] : List Value).toArray s = true := fun w h => hts w (List.mem_cons_of_mem _ (List.mem_append_left _ h))
  have hFix := (⟨hx, hb, hml, hown, hts⟩ : CallFix p m c _ _ s _ _ _)
  refine lv_aload_n hx hb dX8_clashes_0 rfl (lv_at hl 0 rfl) ?_
  refine lv_iload_n hx hb dX8_clashes_1 rfl (lv_at hl 1 rfl) ?_
  refine aft_i (wr := [(aS, .inr (6, [.int 0, .int 0, .int 0, .long 0, .ref s1, .ref s2, .ref s3, .ref s4]))]) hP hD hS hA [0, 1] [2] rfl rfl (by decide) (by decide) (run_v (As := [.int k]) (rest := []) hFix hK hE hP hD [0, 1] (k_X8_noOp l D cs _ a0 k aT aD aO aR aS aJ aC aI aK aL o1 o2 o3 o4 o5) (cwV 1 hts gc_X8_clashes_114_X8_noOp rfl rfl rfl (by decide +kernel) ⟨Nat.le_of_ble_eq_true rfl, Nat.le_of_ble_eq_true rfl⟩) rfl (by decide) rfl rfl rfl hl.1 rfl (Nat.le_of_ble_eq_true rfl) dX8_clashes_2 ⟨Nat.le_of_ble_eq_true rfl, Nat.le_of_ble_eq_true rfl⟩) (fun r_1 u_1 H locs hq_1 hP hD hS => ?_)
  have hP : va_P D vwCl [(aS, .inr (6, [.int 0, .int 0, .int 0, .long 0, .ref s1, .ref s2, .ref s3, .ref s4])), (a0, .inr (8, [.ref aT, .ref aD, .ref aO, .ref aR, .ref aS, .ref aJ, .ref aC, .ref aI, .ref aK, .ref aL])), (aO, .inr (0, [.int 0, .int 0, .int 0, .int 0, .int 0, .int 0, .int 0, .int 0, .int 0, .int 0, .ref o1, .ref o2, .ref o3, .ref o4, .ref o5]))] H := hP
  have hD : va_D A [(aS, .inr (6, [.int 0, .int 0, .int 0, .long 0, .ref s1, .ref s2, .ref s3, .ref s4])), (a0, .inr (8, [.ref aT, .ref aD, .ref aO, .ref aR, .ref aS, .ref aJ, .ref aC, .ref aI, .ref aK, .ref aL])), (aO, .inr (0, [.int 0, .int 0, .int 0, .int 0, .int 0, .int 0, .int 0, .int 0, .int 0, .int 0, .ref o1, .ref o2, .ref o3, .ref o4, .ref o5]))] := hD
  replace hq_1 : r_1 = 1 := hq_1
  subst hq_1
  refine lv_if_ne (tgt := 16) hx hb dX8_clashes_5 (by decide) (fun _ => ?_) (fun h9 => absurd h9 (by decide))
  refine lv_bipush (v := (-2)) hx hb dX8_clashes_16 (by decide) ?_
  refine lv_goto (tgt := 30) hx hb dX8_clashes_18 (by decide) ?_
  exact ret_i hx hb hr hlk hS (Nat.le_of_ble_eq_true rfl) (Nat.le_of_ble_eq_true rfl) () (rfl) (hP.sub [] rfl) (hD.sub [] (by decide) rfl) dX8_clashes_30

set_option maxHeartbeats 4000000 in
set_option maxRecDepth 100000 in
theorem k_X8_reach (l : Launch) (D : va_G) (cs : Nat → ClassId) (sz : Nat) (a0 : Nat) (k : Int32) (k2 : Int32) (aT : Nat) (aD : Nat) (aO : Nat) (aR : Nat) (aS : Nat) (aJ : Nat) (aC : Nat) (aI : Nat) (aK : Nat) (aL : Nat) (o1 : Nat) (o2 : Nat) (o3 : Nat) (o4 : Nat) (o5 : Nat) (s1 : Nat) (s2 : Nat) (s3 : Nat) (s4 : Nat)  : Mi l D cs yX8_reach W_X8_reach 1 21 0 0 [.ref a0, .int k, .int k2] [(a0, .inr (8, [.ref aT, .ref aD, .ref aO, .ref aR, .ref aS, .ref aJ, .ref aC, .ref aI, .ref aK, .ref aL])), (aO, .inr (0, [.int 0, .int 0, .int 0, .int 0, .int 0, .int 0, .int 0, .int 0, .int 0, .int 0, .ref o1, .ref o2, .ref o3, .ref o4, .ref o5])), (aS, .inr (6, [.int 0, .int 0, .int 0, .long 0, .ref s1, .ref s2, .ref s3, .ref s4]))] sz (fun (r : Int32) (u : Unit) => r = (-2)) (fun (u : Unit) => []) := by
  refine ent (D := D) (cs := cs) (y := yX8_reach) (ws := W_X8_reach) (As := [.ref a0, .int k, .int k2]) (W0 := [(a0, .inr (8, [.ref aT, .ref aD, .ref aO, .ref aR, .ref aS, .ref aJ, .ref aC, .ref aI, .ref aK, .ref aL])), (aO, .inr (0, [.int 0, .int 0, .int 0, .int 0, .int 0, .int 0, .int 0, .int 0, .int 0, .int 0, .ref o1, .ref o2, .ref o3, .ref o4, .ref o5])), (aS, .inr (6, [.int 0, .int 0, .int 0, .long 0, .ref s1, .ref s2, .ref s3, .ref s4]))]) (Qx := fun A => va_Qi (fun (r : Int32) (u : Unit) => r = (-2)) (mpost D A (fun (u : Unit) => [])) A) (maxL := 3) (ret := (some .int)) (by decide) rfl (Nat.le_of_ble_eq_true rfl) ?_
  intro p e s m below meth c A ls hx hb hr hml hlk hown hts hin hK hE hP hD hA hS hl
  have hl : lv_has ls 3 [(0, .ref a0), (1, .int k), (2, .int k2)] := hl
  generalize hHe : s.heap = H at hP
  have hS : va_S A s.heap H [] := hHe ▸ hS
  have htw : ∀ w ∈ O_X8_reach, w.before ([.ref a0, .int k, .int k2] : List Value).toArray s = true := fun w h => hts w (List.mem_cons_of_mem _ (List.mem_append_left _ h))
  have hFix := (⟨hx, hb, hml, hown, hts⟩ : CallFix p m c _ _ s _ _ _)
  refine lv_aload_n hx hb dX8_reach_0 rfl (lv_at hl 0 rfl) ?_
  refine lv_iload_n hx hb dX8_reach_1 rfl (lv_at hl 1 rfl) ?_
  refine aft_i (wr := [(aO, .inr (0, [.int 0, .int 0, .int 0, .int 0, .int 0, .int 0, .int 0, .int 0, .int 0, .int 0, .ref o1, .ref o2, .ref o3, .ref o4, .ref o5]))]) hP hD hS hA [0, 2] [1] rfl rfl (by decide) (by decide) (run_v (As := [.int k]) (rest := []) hFix hK hE hP hD [0, 2] (k_X8_noState l D cs _ a0 k aT aD aO aR aS aJ aC aI aK aL s1 s2 s3 s4) (cwV 1 hts gc_X8_reach_124_X8_noState rfl rfl rfl (by decide +kernel) ⟨Nat.le_of_ble_eq_true rfl, Nat.le_of_ble_eq_true rfl⟩) rfl (by decide) rfl rfl rfl hl.1 rfl (Nat.le_of_ble_eq_true rfl) dX8_reach_2 ⟨Nat.le_of_ble_eq_true rfl, Nat.le_of_ble_eq_true rfl⟩) (fun r_1 u_1 H locs hq_1 hP hD hS => ?_)
  have hP : va_P D vwCl [(aO, .inr (0, [.int 0, .int 0, .int 0, .int 0, .int 0, .int 0, .int 0, .int 0, .int 0, .int 0, .ref o1, .ref o2, .ref o3, .ref o4, .ref o5])), (a0, .inr (8, [.ref aT, .ref aD, .ref aO, .ref aR, .ref aS, .ref aJ, .ref aC, .ref aI, .ref aK, .ref aL])), (aS, .inr (6, [.int 0, .int 0, .int 0, .long 0, .ref s1, .ref s2, .ref s3, .ref s4]))] H := hP
  have hD : va_D A [(aO, .inr (0, [.int 0, .int 0, .int 0, .int 0, .int 0, .int 0, .int 0, .int 0, .int 0, .int 0, .ref o1, .ref o2, .ref o3, .ref o4, .ref o5])), (a0, .inr (8, [.ref aT, .ref aD, .ref aO, .ref aR, .ref aS, .ref aJ, .ref aC, .ref aI, .ref aK, .ref aL])), (aS, .inr (6, [.int 0, .int 0, .int 0, .long 0, .ref s1, .ref s2, .ref s3, .ref s4]))] := hD
  replace hq_1 : r_1 = 1 := hq_1
  subst hq_1
  refine lv_if_ne (tgt := 16) hx hb dX8_reach_5 (by decide) (fun _ => ?_) (fun h9 => absurd h9 (by decide))
  refine lv_bipush (v := (-2)) hx hb dX8_reach_16 (by decide) ?_
  exact ret_i hx hb hr hlk hS (Nat.le_of_ble_eq_true rfl) (Nat.le_of_ble_eq_true rfl) () (rfl) (hP.sub [] rfl) (hD.sub [] (by decide) rfl) dX8_reach_18

set_option maxHeartbeats 4000000 in
set_option maxRecDepth 100000 in
theorem k_X8_far (l : Launch) (D : va_G) (cs : Nat → ClassId) (sz : Nat) (a0 : Nat) (k : Int32) (k2 : Int32) (aT : Nat) (aD : Nat) (aO : Nat) (aR : Nat) (aS : Nat) (aJ : Nat) (aC : Nat) (aI : Nat) (aK : Nat) (aL : Nat) (o1 : Nat) (o2 : Nat) (o3 : Nat) (o4 : Nat) (o5 : Nat) (s1 : Nat) (s2 : Nat) (s3 : Nat) (s4 : Nat)  : Mi l D cs yX8_far W_X8_far 1 21 0 0 [.ref a0, .int k, .int k2] [(a0, .inr (8, [.ref aT, .ref aD, .ref aO, .ref aR, .ref aS, .ref aJ, .ref aC, .ref aI, .ref aK, .ref aL])), (aO, .inr (0, [.int 0, .int 0, .int 0, .int 0, .int 0, .int 0, .int 0, .int 0, .int 0, .int 0, .ref o1, .ref o2, .ref o3, .ref o4, .ref o5])), (aS, .inr (6, [.int 0, .int 0, .int 0, .long 0, .ref s1, .ref s2, .ref s3, .ref s4]))] sz (fun (r : Int32) (u : Unit) => r = (-2)) (fun (u : Unit) => []) := by
  refine ent (D := D) (cs := cs) (y := yX8_far) (ws := W_X8_far) (As := [.ref a0, .int k, .int k2]) (W0 := [(a0, .inr (8, [.ref aT, .ref aD, .ref aO, .ref aR, .ref aS, .ref aJ, .ref aC, .ref aI, .ref aK, .ref aL])), (aO, .inr (0, [.int 0, .int 0, .int 0, .int 0, .int 0, .int 0, .int 0, .int 0, .int 0, .int 0, .ref o1, .ref o2, .ref o3, .ref o4, .ref o5])), (aS, .inr (6, [.int 0, .int 0, .int 0, .long 0, .ref s1, .ref s2, .ref s3, .ref s4]))]) (Qx := fun A => va_Qi (fun (r : Int32) (u : Unit) => r = (-2)) (mpost D A (fun (u : Unit) => [])) A) (maxL := 3) (ret := (some .int)) (by decide) rfl (Nat.le_of_ble_eq_true rfl) ?_
  intro p e s m below meth c A ls hx hb hr hml hlk hown hts hin hK hE hP hD hA hS hl
  have hl : lv_has ls 3 [(0, .ref a0), (1, .int k), (2, .int k2)] := hl
  generalize hHe : s.heap = H at hP
  have hS : va_S A s.heap H [] := hHe ▸ hS
  have htw : ∀ w ∈ O_X8_far, w.before ([.ref a0, .int k, .int k2] : List Value).toArray s = true := fun w h => hts w (List.mem_cons_of_mem _ (List.mem_append_left _ h))
  have hFix := (⟨hx, hb, hml, hown, hts⟩ : CallFix p m c _ _ s _ _ _)
  refine lv_aload_n hx hb dX8_far_0 rfl (lv_at hl 0 rfl) ?_
  refine lv_iload_n hx hb dX8_far_1 rfl (lv_at hl 1 rfl) ?_
  refine aft_i (wr := [(aO, .inr (0, [.int 0, .int 0, .int 0, .int 0, .int 0, .int 0, .int 0, .int 0, .int 0, .int 0, .ref o1, .ref o2, .ref o3, .ref o4, .ref o5]))]) hP hD hS hA [0, 2] [1] rfl rfl (by decide) (by decide) (run_v (As := [.int k]) (rest := []) hFix hK hE hP hD [0, 2] (k_X8_noState l D cs _ a0 k aT aD aO aR aS aJ aC aI aK aL s1 s2 s3 s4) (cwV 1 hts gc_X8_far_124_X8_noState rfl rfl rfl (by decide +kernel) ⟨Nat.le_of_ble_eq_true rfl, Nat.le_of_ble_eq_true rfl⟩) rfl (by decide) rfl rfl rfl hl.1 rfl (Nat.le_of_ble_eq_true rfl) dX8_far_2 ⟨Nat.le_of_ble_eq_true rfl, Nat.le_of_ble_eq_true rfl⟩) (fun r_1 u_1 H locs hq_1 hP hD hS => ?_)
  have hP : va_P D vwCl [(aO, .inr (0, [.int 0, .int 0, .int 0, .int 0, .int 0, .int 0, .int 0, .int 0, .int 0, .int 0, .ref o1, .ref o2, .ref o3, .ref o4, .ref o5])), (a0, .inr (8, [.ref aT, .ref aD, .ref aO, .ref aR, .ref aS, .ref aJ, .ref aC, .ref aI, .ref aK, .ref aL])), (aS, .inr (6, [.int 0, .int 0, .int 0, .long 0, .ref s1, .ref s2, .ref s3, .ref s4]))] H := hP
  have hD : va_D A [(aO, .inr (0, [.int 0, .int 0, .int 0, .int 0, .int 0, .int 0, .int 0, .int 0, .int 0, .int 0, .ref o1, .ref o2, .ref o3, .ref o4, .ref o5])), (a0, .inr (8, [.ref aT, .ref aD, .ref aO, .ref aR, .ref aS, .ref aJ, .ref aC, .ref aI, .ref aK, .ref aL])), (aS, .inr (6, [.int 0, .int 0, .int 0, .long 0, .ref s1, .ref s2, .ref s3, .ref s4]))] := hD
  replace hq_1 : r_1 = 1 := hq_1
  subst hq_1
  refine lv_if_ne (tgt := 16) hx hb dX8_far_5 (by decide) (fun _ => ?_) (fun h9 => absurd h9 (by decide))
  refine lv_bipush (v := (-2)) hx hb dX8_far_16 (by decide) ?_
  refine lv_goto (tgt := 30) hx hb dX8_far_18 (by decide) ?_
  exact ret_i hx hb hr hlk hS (Nat.le_of_ble_eq_true rfl) (Nat.le_of_ble_eq_true rfl) () (rfl) (hP.sub [] rfl) (hD.sub [] (by decide) rfl) dX8_far_30

set_option maxHeartbeats 4000000 in
set_option maxRecDepth 100000 in
theorem k_X8_step (l : Launch) (D : va_G) (cs : Nat → ClassId) (sz : Nat) (a0 : Nat) (k : Int32) (k2 : Int32) (aT : Nat) (aD : Nat) (aO : Nat) (aR : Nat) (aS : Nat) (aJ : Nat) (aC : Nat) (aI : Nat) (aK : Nat) (aL : Nat) (o1 : Nat) (o2 : Nat) (o3 : Nat) (o4 : Nat) (o5 : Nat) (s1 : Nat) (s2 : Nat) (s3 : Nat) (s4 : Nat)  : Mi l D cs yX8_step W_X8_step 1 21 0 0 [.ref a0, .int k, .int k2] [(a0, .inr (8, [.ref aT, .ref aD, .ref aO, .ref aR, .ref aS, .ref aJ, .ref aC, .ref aI, .ref aK, .ref aL])), (aO, .inr (0, [.int 0, .int 0, .int 0, .int 0, .int 0, .int 0, .int 0, .int 0, .int 0, .int 0, .ref o1, .ref o2, .ref o3, .ref o4, .ref o5])), (aS, .inr (6, [.int 0, .int 0, .int 0, .long 0, .ref s1, .ref s2, .ref s3, .ref s4]))] sz (fun (r : Int32) (u : Unit) => r = (-2)) (fun (u : Unit) => []) := by
  refine ent (D := D) (cs := cs) (y := yX8_step) (ws := W_X8_step) (As := [.ref a0, .int k, .int k2]) (W0 := [(a0, .inr (8, [.ref aT, .ref aD, .ref aO, .ref aR, .ref aS, .ref aJ, .ref aC, .ref aI, .ref aK, .ref aL])), (aO, .inr (0, [.int 0, .int 0, .int 0, .int 0, .int 0, .int 0, .int 0, .int 0, .int 0, .int 0, .ref o1, .ref o2, .ref o3, .ref o4, .ref o5])), (aS, .inr (6, [.int 0, .int 0, .int 0, .long 0, .ref s1, .ref s2, .ref s3, .ref s4]))]) (Qx := fun A => va_Qi (fun (r : Int32) (u : Unit) => r = (-2)) (mpost D A (fun (u : Unit) => [])) A) (maxL := 3) (ret := (some .int)) (by decide) rfl (Nat.le_of_ble_eq_true rfl) ?_
  intro p e s m below meth c A ls hx hb hr hml hlk hown hts hin hK hE hP hD hA hS hl
  have hl : lv_has ls 3 [(0, .ref a0), (1, .int k), (2, .int k2)] := hl
  generalize hHe : s.heap = H at hP
  have hS : va_S A s.heap H [] := hHe ▸ hS
  have htw : ∀ w ∈ O_X8_step, w.before ([.ref a0, .int k, .int k2] : List Value).toArray s = true := fun w h => hts w (List.mem_cons_of_mem _ (List.mem_append_left _ h))
  have hFix := (⟨hx, hb, hml, hown, hts⟩ : CallFix p m c _ _ s _ _ _)
  refine lv_aload_n hx hb dX8_step_0 rfl (lv_at hl 0 rfl) ?_
  refine lv_iload_n hx hb dX8_step_1 rfl (lv_at hl 1 rfl) ?_
  refine aft_i (wr := [(aO, .inr (0, [.int 0, .int 0, .int 0, .int 0, .int 0, .int 0, .int 0, .int 0, .int 0, .int 0, .ref o1, .ref o2, .ref o3, .ref o4, .ref o5]))]) hP hD hS hA [0, 2] [1] rfl rfl (by decide) (by decide) (run_v (As := [.int k]) (rest := []) hFix hK hE hP hD [0, 2] (k_X8_noState l D cs _ a0 k aT aD aO aR aS aJ aC aI aK aL s1 s2 s3 s4) (cwV 1 hts gc_X8_step_124_X8_noState rfl rfl rfl (by decide +kernel) ⟨Nat.le_of_ble_eq_true rfl, Nat.le_of_ble_eq_true rfl⟩) rfl (by decide) rfl rfl rfl hl.1 rfl (Nat.le_of_ble_eq_true rfl) dX8_step_2 ⟨Nat.le_of_ble_eq_true rfl, Nat.le_of_ble_eq_true rfl⟩) (fun r_1 u_1 H locs hq_1 hP hD hS => ?_)
  have hP : va_P D vwCl [(aO, .inr (0, [.int 0, .int 0, .int 0, .int 0, .int 0, .int 0, .int 0, .int 0, .int 0, .int 0, .ref o1, .ref o2, .ref o3, .ref o4, .ref o5])), (a0, .inr (8, [.ref aT, .ref aD, .ref aO, .ref aR, .ref aS, .ref aJ, .ref aC, .ref aI, .ref aK, .ref aL])), (aS, .inr (6, [.int 0, .int 0, .int 0, .long 0, .ref s1, .ref s2, .ref s3, .ref s4]))] H := hP
  have hD : va_D A [(aO, .inr (0, [.int 0, .int 0, .int 0, .int 0, .int 0, .int 0, .int 0, .int 0, .int 0, .int 0, .ref o1, .ref o2, .ref o3, .ref o4, .ref o5])), (a0, .inr (8, [.ref aT, .ref aD, .ref aO, .ref aR, .ref aS, .ref aJ, .ref aC, .ref aI, .ref aK, .ref aL])), (aS, .inr (6, [.int 0, .int 0, .int 0, .long 0, .ref s1, .ref s2, .ref s3, .ref s4]))] := hD
  replace hq_1 : r_1 = 1 := hq_1
  subst hq_1
  refine lv_if_ne (tgt := 16) hx hb dX8_step_5 (by decide) (fun _ => ?_) (fun h9 => absurd h9 (by decide))
  refine lv_bipush (v := (-2)) hx hb dX8_step_16 (by decide) ?_
  refine lv_goto (tgt := 30) hx hb dX8_step_18 (by decide) ?_
  exact ret_i hx hb hr hlk hS (Nat.le_of_ble_eq_true rfl) (Nat.le_of_ble_eq_true rfl) () (rfl) (hP.sub [] rfl) (hD.sub [] (by decide) rfl) dX8_step_30

set_option maxHeartbeats 4000000 in
set_option maxRecDepth 100000 in
theorem k_X8_freely (l : Launch) (D : va_G) (cs : Nat → ClassId) (sz : Nat) (a0 : Nat) (k : Int32) (k2 : Int32) (aT : Nat) (aD : Nat) (aO : Nat) (aR : Nat) (aS : Nat) (aJ : Nat) (aC : Nat) (aI : Nat) (aK : Nat) (aL : Nat) (o1 : Nat) (o2 : Nat) (o3 : Nat) (o4 : Nat) (o5 : Nat) (s1 : Nat) (s2 : Nat) (s3 : Nat) (s4 : Nat)  : Mi l D cs yX8_freely W_X8_freely 1 21 0 0 [.ref a0, .int k, .int k2] [(a0, .inr (8, [.ref aT, .ref aD, .ref aO, .ref aR, .ref aS, .ref aJ, .ref aC, .ref aI, .ref aK, .ref aL])), (aO, .inr (0, [.int 0, .int 0, .int 0, .int 0, .int 0, .int 0, .int 0, .int 0, .int 0, .int 0, .ref o1, .ref o2, .ref o3, .ref o4, .ref o5])), (aS, .inr (6, [.int 0, .int 0, .int 0, .long 0, .ref s1, .ref s2, .ref s3, .ref s4]))] sz (fun (r : Int32) (u : Unit) => r = (-2)) (fun (u : Unit) => []) := by
  refine ent (D := D) (cs := cs) (y := yX8_freely) (ws := W_X8_freely) (As := [.ref a0, .int k, .int k2]) (W0 := [(a0, .inr (8, [.ref aT, .ref aD, .ref aO, .ref aR, .ref aS, .ref aJ, .ref aC, .ref aI, .ref aK, .ref aL])), (aO, .inr (0, [.int 0, .int 0, .int 0, .int 0, .int 0, .int 0, .int 0, .int 0, .int 0, .int 0, .ref o1, .ref o2, .ref o3, .ref o4, .ref o5])), (aS, .inr (6, [.int 0, .int 0, .int 0, .long 0, .ref s1, .ref s2, .ref s3, .ref s4]))]) (Qx := fun A => va_Qi (fun (r : Int32) (u : Unit) => r = (-2)) (mpost D A (fun (u : Unit) => [])) A) (maxL := 3) (ret := (some .int)) (by decide) rfl (Nat.le_of_ble_eq_true rfl) ?_
  intro p e s m below meth c A ls hx hb hr hml hlk hown hts hin hK hE hP hD hA hS hl
  have hl : lv_has ls 3 [(0, .ref a0), (1, .int k), (2, .int k2)] := hl
  generalize hHe : s.heap = H at hP
  have hS : va_S A s.heap H [] := hHe ▸ hS
  have htw : ∀ w ∈ O_X8_freely, w.before ([.ref a0, .int k, .int k2] : List Value).toArray s = true := fun w h => hts w (List.mem_cons_of_mem _ (List.mem_append_left _ h))
  have hFix := (⟨hx, hb, hml, hown, hts⟩ : CallFix p m c _ _ s _ _ _)
  refine lv_aload_n hx hb dX8_freely_0 rfl (lv_at hl 0 rfl) ?_
  refine lv_iload_n hx hb dX8_freely_1 rfl (lv_at hl 1 rfl) ?_
  refine aft_i (wr := [(aO, .inr (0, [.int 0, .int 0, .int 0, .int 0, .int 0, .int 0, .int 0, .int 0, .int 0, .int 0, .ref o1, .ref o2, .ref o3, .ref o4, .ref o5]))]) hP hD hS hA [0, 2] [1] rfl rfl (by decide) (by decide) (run_v (As := [.int k]) (rest := []) hFix hK hE hP hD [0, 2] (k_X8_noState l D cs _ a0 k aT aD aO aR aS aJ aC aI aK aL s1 s2 s3 s4) (cwV 1 hts gc_X8_freely_124_X8_noState rfl rfl rfl (by decide +kernel) ⟨Nat.le_of_ble_eq_true rfl, Nat.le_of_ble_eq_true rfl⟩) rfl (by decide) rfl rfl rfl hl.1 rfl (Nat.le_of_ble_eq_true rfl) dX8_freely_2 ⟨Nat.le_of_ble_eq_true rfl, Nat.le_of_ble_eq_true rfl⟩) (fun r_1 u_1 H locs hq_1 hP hD hS => ?_)
  have hP : va_P D vwCl [(aO, .inr (0, [.int 0, .int 0, .int 0, .int 0, .int 0, .int 0, .int 0, .int 0, .int 0, .int 0, .ref o1, .ref o2, .ref o3, .ref o4, .ref o5])), (a0, .inr (8, [.ref aT, .ref aD, .ref aO, .ref aR, .ref aS, .ref aJ, .ref aC, .ref aI, .ref aK, .ref aL])), (aS, .inr (6, [.int 0, .int 0, .int 0, .long 0, .ref s1, .ref s2, .ref s3, .ref s4]))] H := hP
  have hD : va_D A [(aO, .inr (0, [.int 0, .int 0, .int 0, .int 0, .int 0, .int 0, .int 0, .int 0, .int 0, .int 0, .ref o1, .ref o2, .ref o3, .ref o4, .ref o5])), (a0, .inr (8, [.ref aT, .ref aD, .ref aO, .ref aR, .ref aS, .ref aJ, .ref aC, .ref aI, .ref aK, .ref aL])), (aS, .inr (6, [.int 0, .int 0, .int 0, .long 0, .ref s1, .ref s2, .ref s3, .ref s4]))] := hD
  replace hq_1 : r_1 = 1 := hq_1
  subst hq_1
  refine lv_if_ne (tgt := 16) hx hb dX8_freely_5 (by decide) (fun _ => ?_) (fun h9 => absurd h9 (by decide))
  refine lv_bipush (v := (-2)) hx hb dX8_freely_16 (by decide) ?_
  exact ret_i hx hb hr hlk hS (Nat.le_of_ble_eq_true rfl) (Nat.le_of_ble_eq_true rfl) () (rfl) (hP.sub [] rfl) (hD.sub [] (by decide) rfl) dX8_freely_18

set_option maxHeartbeats 4000000 in
set_option maxRecDepth 100000 in
theorem k_X8_asked (l : Launch) (D : va_G) (cs : Nat → ClassId) (sz : Nat) (a0 : Nat) (k : Int32) (k2 : Int32) (aT : Nat) (aD : Nat) (aO : Nat) (aR : Nat) (aS : Nat) (aJ : Nat) (aC : Nat) (aI : Nat) (aK : Nat) (aL : Nat) (o1 : Nat) (o2 : Nat) (o3 : Nat) (o4 : Nat) (o5 : Nat) (s1 : Nat) (s2 : Nat) (s3 : Nat) (s4 : Nat)  : Mi l D cs yX8_asked W_X8_asked 1 21 0 0 [.ref a0, .int k, .int k2] [(a0, .inr (8, [.ref aT, .ref aD, .ref aO, .ref aR, .ref aS, .ref aJ, .ref aC, .ref aI, .ref aK, .ref aL])), (aO, .inr (0, [.int 0, .int 0, .int 0, .int 0, .int 0, .int 0, .int 0, .int 0, .int 0, .int 0, .ref o1, .ref o2, .ref o3, .ref o4, .ref o5])), (aS, .inr (6, [.int 0, .int 0, .int 0, .long 0, .ref s1, .ref s2, .ref s3, .ref s4]))] sz (fun (r : Int32) (u : Unit) => r = (-2)) (fun (u : Unit) => []) := by
  refine ent (D := D) (cs := cs) (y := yX8_asked) (ws := W_X8_asked) (As := [.ref a0, .int k, .int k2]) (W0 := [(a0, .inr (8, [.ref aT, .ref aD, .ref aO, .ref aR, .ref aS, .ref aJ, .ref aC, .ref aI, .ref aK, .ref aL])), (aO, .inr (0, [.int 0, .int 0, .int 0, .int 0, .int 0, .int 0, .int 0, .int 0, .int 0, .int 0, .ref o1, .ref o2, .ref o3, .ref o4, .ref o5])), (aS, .inr (6, [.int 0, .int 0, .int 0, .long 0, .ref s1, .ref s2, .ref s3, .ref s4]))]) (Qx := fun A => va_Qi (fun (r : Int32) (u : Unit) => r = (-2)) (mpost D A (fun (u : Unit) => [])) A) (maxL := 6) (ret := (some .int)) (by decide) rfl (Nat.le_of_ble_eq_true rfl) ?_
  intro p e s m below meth c A ls hx hb hr hml hlk hown hts hin hK hE hP hD hA hS hl
  have hl : lv_has ls 6 [(0, .ref a0), (1, .int k), (2, .int k2)] := hl
  generalize hHe : s.heap = H at hP
  have hS : va_S A s.heap H [] := hHe ▸ hS
  have htw : ∀ w ∈ O_X8_asked, w.before ([.ref a0, .int k, .int k2] : List Value).toArray s = true := fun w h => hts w (List.mem_cons_of_mem _ (List.mem_append_left _ h))
  have hFix := (⟨hx, hb, hml, hown, hts⟩ : CallFix p m c _ _ s _ _ _)
  refine lv_aload_n hx hb dX8_asked_0 rfl (lv_at hl 0 rfl) ?_
  refine lv_iload_n hx hb dX8_asked_1 rfl (lv_at hl 1 rfl) ?_
  refine aft_i (wr := [(aO, .inr (0, [.int 0, .int 0, .int 0, .int 0, .int 0, .int 0, .int 0, .int 0, .int 0, .int 0, .ref o1, .ref o2, .ref o3, .ref o4, .ref o5]))]) hP hD hS hA [0, 2] [1] rfl rfl (by decide) (by decide) (run_v (As := [.int k]) (rest := []) hFix hK hE hP hD [0, 2] (k_X8_noState l D cs _ a0 k aT aD aO aR aS aJ aC aI aK aL s1 s2 s3 s4) (cwV 1 hts gc_X8_asked_124_X8_noState rfl rfl rfl (by decide +kernel) ⟨Nat.le_of_ble_eq_true rfl, Nat.le_of_ble_eq_true rfl⟩) rfl (by decide) rfl rfl rfl hl.1 rfl (Nat.le_of_ble_eq_true rfl) dX8_asked_2 ⟨Nat.le_of_ble_eq_true rfl, Nat.le_of_ble_eq_true rfl⟩) (fun r_1 u_1 H locs hq_1 hP hD hS => ?_)
  have hP : va_P D vwCl [(aO, .inr (0, [.int 0, .int 0, .int 0, .int 0, .int 0, .int 0, .int 0, .int 0, .int 0, .int 0, .ref o1, .ref o2, .ref o3, .ref o4, .ref o5])), (a0, .inr (8, [.ref aT, .ref aD, .ref aO, .ref aR, .ref aS, .ref aJ, .ref aC, .ref aI, .ref aK, .ref aL])), (aS, .inr (6, [.int 0, .int 0, .int 0, .long 0, .ref s1, .ref s2, .ref s3, .ref s4]))] H := hP
  have hD : va_D A [(aO, .inr (0, [.int 0, .int 0, .int 0, .int 0, .int 0, .int 0, .int 0, .int 0, .int 0, .int 0, .ref o1, .ref o2, .ref o3, .ref o4, .ref o5])), (a0, .inr (8, [.ref aT, .ref aD, .ref aO, .ref aR, .ref aS, .ref aJ, .ref aC, .ref aI, .ref aK, .ref aL])), (aS, .inr (6, [.int 0, .int 0, .int 0, .long 0, .ref s1, .ref s2, .ref s3, .ref s4]))] := hD
  replace hq_1 : r_1 = 1 := hq_1
  subst hq_1
  refine lv_if_ne (tgt := 16) hx hb dX8_asked_5 (by decide) (fun _ => ?_) (fun h9 => absurd h9 (by decide))
  refine lv_bipush (v := (-2)) hx hb dX8_asked_16 (by decide) ?_
  exact ret_i hx hb hr hlk hS (Nat.le_of_ble_eq_true rfl) (Nat.le_of_ble_eq_true rfl) () (rfl) (hP.sub [] rfl) (hD.sub [] (by decide) rfl) dX8_asked_18

set_option maxHeartbeats 4000000 in
set_option maxRecDepth 100000 in
theorem k_X8_bad (l : Launch) (D : va_G) (cs : Nat → ClassId) (sz : Nat) (a0 : Nat) (k : Int32) (k2 : Int32) (aT : Nat) (aD : Nat) (aO : Nat) (aR : Nat) (aS : Nat) (aJ : Nat) (aC : Nat) (aI : Nat) (aK : Nat) (aL : Nat) (o1 : Nat) (o2 : Nat) (o3 : Nat) (o4 : Nat) (o5 : Nat) (s1 : Nat) (s2 : Nat) (s3 : Nat) (s4 : Nat)  : Mi l D cs yX8_bad W_X8_bad 1 21 0 0 [.ref a0, .int k, .int k2] [(a0, .inr (8, [.ref aT, .ref aD, .ref aO, .ref aR, .ref aS, .ref aJ, .ref aC, .ref aI, .ref aK, .ref aL])), (aO, .inr (0, [.int 0, .int 0, .int 0, .int 0, .int 0, .int 0, .int 0, .int 0, .int 0, .int 0, .ref o1, .ref o2, .ref o3, .ref o4, .ref o5])), (aS, .inr (6, [.int 0, .int 0, .int 0, .long 0, .ref s1, .ref s2, .ref s3, .ref s4]))] sz (fun (r : Int32) (u : Unit) => r = (-2)) (fun (u : Unit) => []) := by
  refine ent (D := D) (cs := cs) (y := yX8_bad) (ws := W_X8_bad) (As := [.ref a0, .int k, .int k2]) (W0 := [(a0, .inr (8, [.ref aT, .ref aD, .ref aO, .ref aR, .ref aS, .ref aJ, .ref aC, .ref aI, .ref aK, .ref aL])), (aO, .inr (0, [.int 0, .int 0, .int 0, .int 0, .int 0, .int 0, .int 0, .int 0, .int 0, .int 0, .ref o1, .ref o2, .ref o3, .ref o4, .ref o5])), (aS, .inr (6, [.int 0, .int 0, .int 0, .long 0, .ref s1, .ref s2, .ref s3, .ref s4]))]) (Qx := fun A => va_Qi (fun (r : Int32) (u : Unit) => r = (-2)) (mpost D A (fun (u : Unit) => [])) A) (maxL := 3) (ret := (some .int)) (by decide) rfl (Nat.le_of_ble_eq_true rfl) ?_
  intro p e s m below meth c A ls hx hb hr hml hlk hown hts hin hK hE hP hD hA hS hl
  have hl : lv_has ls 3 [(0, .ref a0), (1, .int k), (2, .int k2)] := hl
  generalize hHe : s.heap = H at hP
  have hS : va_S A s.heap H [] := hHe ▸ hS
  have htw : ∀ w ∈ O_X8_bad, w.before ([.ref a0, .int k, .int k2] : List Value).toArray s = true := fun w h => hts w (List.mem_cons_of_mem _ (List.mem_append_left _ h))
  have hFix := (⟨hx, hb, hml, hown, hts⟩ : CallFix p m c _ _ s _ _ _)
  refine lv_aload_n hx hb dX8_bad_0 rfl (lv_at hl 0 rfl) ?_
  refine lv_iload_n hx hb dX8_bad_1 rfl (lv_at hl 1 rfl) ?_
  refine aft_i (wr := [(aO, .inr (0, [.int 0, .int 0, .int 0, .int 0, .int 0, .int 0, .int 0, .int 0, .int 0, .int 0, .ref o1, .ref o2, .ref o3, .ref o4, .ref o5]))]) hP hD hS hA [0, 2] [1] rfl rfl (by decide) (by decide) (run_v (As := [.int k]) (rest := []) hFix hK hE hP hD [0, 2] (k_X8_noState l D cs _ a0 k aT aD aO aR aS aJ aC aI aK aL s1 s2 s3 s4) (cwV 1 hts gc_X8_bad_124_X8_noState rfl rfl rfl (by decide +kernel) ⟨Nat.le_of_ble_eq_true rfl, Nat.le_of_ble_eq_true rfl⟩) rfl (by decide) rfl rfl rfl hl.1 rfl (Nat.le_of_ble_eq_true rfl) dX8_bad_2 ⟨Nat.le_of_ble_eq_true rfl, Nat.le_of_ble_eq_true rfl⟩) (fun r_1 u_1 H locs hq_1 hP hD hS => ?_)
  have hP : va_P D vwCl [(aO, .inr (0, [.int 0, .int 0, .int 0, .int 0, .int 0, .int 0, .int 0, .int 0, .int 0, .int 0, .ref o1, .ref o2, .ref o3, .ref o4, .ref o5])), (a0, .inr (8, [.ref aT, .ref aD, .ref aO, .ref aR, .ref aS, .ref aJ, .ref aC, .ref aI, .ref aK, .ref aL])), (aS, .inr (6, [.int 0, .int 0, .int 0, .long 0, .ref s1, .ref s2, .ref s3, .ref s4]))] H := hP
  have hD : va_D A [(aO, .inr (0, [.int 0, .int 0, .int 0, .int 0, .int 0, .int 0, .int 0, .int 0, .int 0, .int 0, .ref o1, .ref o2, .ref o3, .ref o4, .ref o5])), (a0, .inr (8, [.ref aT, .ref aD, .ref aO, .ref aR, .ref aS, .ref aJ, .ref aC, .ref aI, .ref aK, .ref aL])), (aS, .inr (6, [.int 0, .int 0, .int 0, .long 0, .ref s1, .ref s2, .ref s3, .ref s4]))] := hD
  replace hq_1 : r_1 = 1 := hq_1
  subst hq_1
  refine lv_if_ne (tgt := 16) hx hb dX8_bad_5 (by decide) (fun _ => ?_) (fun h9 => absurd h9 (by decide))
  refine lv_bipush (v := (-2)) hx hb dX8_bad_16 (by decide) ?_
  refine lv_goto (tgt := 30) hx hb dX8_bad_18 (by decide) ?_
  exact ret_i hx hb hr hlk hS (Nat.le_of_ble_eq_true rfl) (Nat.le_of_ble_eq_true rfl) () (rfl) (hP.sub [] rfl) (hD.sub [] (by decide) rfl) dX8_bad_30

set_option maxHeartbeats 4000000 in
set_option maxRecDepth 100000 in
theorem k_X8_all (l : Launch) (D : va_G) (cs : Nat → ClassId) (sz : Nat) (a0 : Nat) (k : Int32) (aT : Nat) (aD : Nat) (aO : Nat) (aR : Nat) (aS : Nat) (aJ : Nat) (aC : Nat) (aI : Nat) (aK : Nat) (aL : Nat) (o1 : Nat) (o2 : Nat) (o3 : Nat) (o4 : Nat) (o5 : Nat) (s1 : Nat) (s2 : Nat) (s3 : Nat) (s4 : Nat)  : Mi l D cs yX8_all W_X8_all 2 41 0 0 [.ref a0, .int k] [(a0, .inr (8, [.ref aT, .ref aD, .ref aO, .ref aR, .ref aS, .ref aJ, .ref aC, .ref aI, .ref aK, .ref aL])), (aO, .inr (0, [.int 0, .int 0, .int 0, .int 0, .int 0, .int 0, .int 0, .int 0, .int 0, .int 0, .ref o1, .ref o2, .ref o3, .ref o4, .ref o5])), (aS, .inr (6, [.int 0, .int 0, .int 0, .long 0, .ref s1, .ref s2, .ref s3, .ref s4]))] sz (fun (r : Int32) (u : Unit) => r = (-2)) (fun (u : Unit) => []) := by
  refine ent (D := D) (cs := cs) (y := yX8_all) (ws := W_X8_all) (As := [.ref a0, .int k]) (W0 := [(a0, .inr (8, [.ref aT, .ref aD, .ref aO, .ref aR, .ref aS, .ref aJ, .ref aC, .ref aI, .ref aK, .ref aL])), (aO, .inr (0, [.int 0, .int 0, .int 0, .int 0, .int 0, .int 0, .int 0, .int 0, .int 0, .int 0, .ref o1, .ref o2, .ref o3, .ref o4, .ref o5])), (aS, .inr (6, [.int 0, .int 0, .int 0, .long 0, .ref s1, .ref s2, .ref s3, .ref s4]))]) (Qx := fun A => va_Qi (fun (r : Int32) (u : Unit) => r = (-2)) (mpost D A (fun (u : Unit) => [])) A) (maxL := 2) (ret := (some .int)) (by decide) rfl (Nat.le_of_ble_eq_true rfl) ?_
  intro p e s m below meth c A ls hx hb hr hml hlk hown hts hin hK hE hP hD hA hS hl
  have hl : lv_has ls 2 [(0, .ref a0), (1, .int k)] := hl
  generalize hHe : s.heap = H at hP
  have hS : va_S A s.heap H [] := hHe ▸ hS
  have htw : ∀ w ∈ O_X8_all, w.before ([.ref a0, .int k] : List Value).toArray s = true := fun w h => hts w (List.mem_cons_of_mem _ (List.mem_append_left _ h))
  have hFix := (⟨hx, hb, hml, hown, hts⟩ : CallFix p m c _ _ s _ _ _)
  refine lv_aload_n hx hb dX8_all_0 rfl (lv_at hl 0 rfl) ?_
  refine lv_iload_n hx hb dX8_all_1 rfl (lv_at hl 1 rfl) ?_
  refine aft_i (wr := [(aS, .inr (6, [.int 0, .int 0, .int 0, .long 0, .ref s1, .ref s2, .ref s3, .ref s4]))]) hP hD hS hA [0, 1] [2] rfl rfl (by decide) (by decide) (run_v (As := [.int k]) (rest := []) hFix hK hE hP hD [0, 1] (k_X8_noDepth l D cs _ a0 k aT aD aO aR aS aJ aC aI aK aL o1 o2 o3 o4 o5) (cwV 1 hts gc_X8_all_196_X8_noDepth rfl rfl rfl (by decide +kernel) ⟨Nat.le_of_ble_eq_true rfl, Nat.le_of_ble_eq_true rfl⟩) rfl (by decide) rfl rfl rfl hl.1 rfl (Nat.le_of_ble_eq_true rfl) dX8_all_2 ⟨Nat.le_of_ble_eq_true rfl, Nat.le_of_ble_eq_true rfl⟩) (fun r_1 u_1 H locs hq_1 hP hD hS => ?_)
  have hP : va_P D vwCl [(aS, .inr (6, [.int 0, .int 0, .int 0, .long 0, .ref s1, .ref s2, .ref s3, .ref s4])), (a0, .inr (8, [.ref aT, .ref aD, .ref aO, .ref aR, .ref aS, .ref aJ, .ref aC, .ref aI, .ref aK, .ref aL])), (aO, .inr (0, [.int 0, .int 0, .int 0, .int 0, .int 0, .int 0, .int 0, .int 0, .int 0, .int 0, .ref o1, .ref o2, .ref o3, .ref o4, .ref o5]))] H := hP
  have hD : va_D A [(aS, .inr (6, [.int 0, .int 0, .int 0, .long 0, .ref s1, .ref s2, .ref s3, .ref s4])), (a0, .inr (8, [.ref aT, .ref aD, .ref aO, .ref aR, .ref aS, .ref aJ, .ref aC, .ref aI, .ref aK, .ref aL])), (aO, .inr (0, [.int 0, .int 0, .int 0, .int 0, .int 0, .int 0, .int 0, .int 0, .int 0, .int 0, .ref o1, .ref o2, .ref o3, .ref o4, .ref o5]))] := hD
  replace hq_1 : r_1 = 1 := hq_1
  subst hq_1
  refine lv_if_eq (tgt := 13) hx hb dX8_all_5 (by decide) (fun h9 => absurd h9 (by decide)) (fun _ => ?_)
  refine lv_bipush (v := (-2)) hx hb dX8_all_8 (by decide) ?_
  refine lv_goto (tgt := 21) hx hb dX8_all_10 (by decide) ?_
  exact ret_i hx hb hr hlk hS (Nat.le_of_ble_eq_true rfl) (Nat.le_of_ble_eq_true rfl) () (rfl) (hP.sub [] rfl) (hD.sub [] (by decide) rfl) dX8_all_21

set_option maxHeartbeats 4000000 in
set_option maxRecDepth 100000 in
theorem k_X8_pairs (l : Launch) (D : va_G) (cs : Nat → ClassId) (sz : Nat) (a0 : Nat) (k : Int32) (aT : Nat) (aD : Nat) (aO : Nat) (aR : Nat) (aS : Nat) (aJ : Nat) (aC : Nat) (aI : Nat) (aK : Nat) (aL : Nat) (o1 : Nat) (o2 : Nat) (o3 : Nat) (o4 : Nat) (o5 : Nat) (s1 : Nat) (s2 : Nat) (s3 : Nat) (s4 : Nat)  : Mi l D cs yX8_pairs W_X8_pairs 2 41 0 0 [.ref a0, .int k] [(a0, .inr (8, [.ref aT, .ref aD, .ref aO, .ref aR, .ref aS, .ref aJ, .ref aC, .ref aI, .ref aK, .ref aL])), (aO, .inr (0, [.int 0, .int 0, .int 0, .int 0, .int 0, .int 0, .int 0, .int 0, .int 0, .int 0, .ref o1, .ref o2, .ref o3, .ref o4, .ref o5])), (aS, .inr (6, [.int 0, .int 0, .int 0, .long 0, .ref s1, .ref s2, .ref s3, .ref s4]))] sz (fun (r : Int32) (u : Unit) => r = (-2)) (fun (u : Unit) => []) := by
  refine ent (D := D) (cs := cs) (y := yX8_pairs) (ws := W_X8_pairs) (As := [.ref a0, .int k]) (W0 := [(a0, .inr (8, [.ref aT, .ref aD, .ref aO, .ref aR, .ref aS, .ref aJ, .ref aC, .ref aI, .ref aK, .ref aL])), (aO, .inr (0, [.int 0, .int 0, .int 0, .int 0, .int 0, .int 0, .int 0, .int 0, .int 0, .int 0, .ref o1, .ref o2, .ref o3, .ref o4, .ref o5])), (aS, .inr (6, [.int 0, .int 0, .int 0, .long 0, .ref s1, .ref s2, .ref s3, .ref s4]))]) (Qx := fun A => va_Qi (fun (r : Int32) (u : Unit) => r = (-2)) (mpost D A (fun (u : Unit) => [])) A) (maxL := 2) (ret := (some .int)) (by decide) rfl (Nat.le_of_ble_eq_true rfl) ?_
  intro p e s m below meth c A ls hx hb hr hml hlk hown hts hin hK hE hP hD hA hS hl
  have hl : lv_has ls 2 [(0, .ref a0), (1, .int k)] := hl
  generalize hHe : s.heap = H at hP
  have hS : va_S A s.heap H [] := hHe ▸ hS
  have htw : ∀ w ∈ O_X8_pairs, w.before ([.ref a0, .int k] : List Value).toArray s = true := fun w h => hts w (List.mem_cons_of_mem _ (List.mem_append_left _ h))
  have hFix := (⟨hx, hb, hml, hown, hts⟩ : CallFix p m c _ _ s _ _ _)
  refine lv_aload_n hx hb dX8_pairs_0 rfl (lv_at hl 0 rfl) ?_
  refine lv_iload_n hx hb dX8_pairs_1 rfl (lv_at hl 1 rfl) ?_
  refine aft_i (wr := [(aS, .inr (6, [.int 0, .int 0, .int 0, .long 0, .ref s1, .ref s2, .ref s3, .ref s4]))]) hP hD hS hA [0, 1] [2] rfl rfl (by decide) (by decide) (run_v (As := [.int k]) (rest := []) hFix hK hE hP hD [0, 1] (k_X8_noDepth l D cs _ a0 k aT aD aO aR aS aJ aC aI aK aL o1 o2 o3 o4 o5) (cwV 1 hts gc_X8_pairs_196_X8_noDepth rfl rfl rfl (by decide +kernel) ⟨Nat.le_of_ble_eq_true rfl, Nat.le_of_ble_eq_true rfl⟩) rfl (by decide) rfl rfl rfl hl.1 rfl (Nat.le_of_ble_eq_true rfl) dX8_pairs_2 ⟨Nat.le_of_ble_eq_true rfl, Nat.le_of_ble_eq_true rfl⟩) (fun r_1 u_1 H locs hq_1 hP hD hS => ?_)
  have hP : va_P D vwCl [(aS, .inr (6, [.int 0, .int 0, .int 0, .long 0, .ref s1, .ref s2, .ref s3, .ref s4])), (a0, .inr (8, [.ref aT, .ref aD, .ref aO, .ref aR, .ref aS, .ref aJ, .ref aC, .ref aI, .ref aK, .ref aL])), (aO, .inr (0, [.int 0, .int 0, .int 0, .int 0, .int 0, .int 0, .int 0, .int 0, .int 0, .int 0, .ref o1, .ref o2, .ref o3, .ref o4, .ref o5]))] H := hP
  have hD : va_D A [(aS, .inr (6, [.int 0, .int 0, .int 0, .long 0, .ref s1, .ref s2, .ref s3, .ref s4])), (a0, .inr (8, [.ref aT, .ref aD, .ref aO, .ref aR, .ref aS, .ref aJ, .ref aC, .ref aI, .ref aK, .ref aL])), (aO, .inr (0, [.int 0, .int 0, .int 0, .int 0, .int 0, .int 0, .int 0, .int 0, .int 0, .int 0, .ref o1, .ref o2, .ref o3, .ref o4, .ref o5]))] := hD
  replace hq_1 : r_1 = 1 := hq_1
  subst hq_1
  refine lv_if_eq (tgt := 13) hx hb dX8_pairs_5 (by decide) (fun h9 => absurd h9 (by decide)) (fun _ => ?_)
  refine lv_bipush (v := (-2)) hx hb dX8_pairs_8 (by decide) ?_
  refine lv_goto (tgt := 21) hx hb dX8_pairs_10 (by decide) ?_
  exact ret_i hx hb hr hlk hS (Nat.le_of_ble_eq_true rfl) (Nat.le_of_ble_eq_true rfl) () (rfl) (hP.sub [] rfl) (hD.sub [] (by decide) rfl) dX8_pairs_21

set_option maxHeartbeats 4000000 in
set_option maxRecDepth 100000 in
theorem k_X8_safe (l : Launch) (D : va_G) (cs : Nat → ClassId) (sz : Nat) (a0 : Nat) (k : Int32) (aT : Nat) (aD : Nat) (aO : Nat) (aR : Nat) (aS : Nat) (aJ : Nat) (aC : Nat) (aI : Nat) (aK : Nat) (aL : Nat) (o1 : Nat) (o2 : Nat) (o3 : Nat) (o4 : Nat) (o5 : Nat) (s1 : Nat) (s2 : Nat) (s3 : Nat) (s4 : Nat)  : Mi l D cs yX8_safe W_X8_safe 2 41 0 0 [.ref a0, .int k] [(a0, .inr (8, [.ref aT, .ref aD, .ref aO, .ref aR, .ref aS, .ref aJ, .ref aC, .ref aI, .ref aK, .ref aL])), (aO, .inr (0, [.int 0, .int 0, .int 0, .int 0, .int 0, .int 0, .int 0, .int 0, .int 0, .int 0, .ref o1, .ref o2, .ref o3, .ref o4, .ref o5])), (aS, .inr (6, [.int 0, .int 0, .int 0, .long 0, .ref s1, .ref s2, .ref s3, .ref s4]))] sz (fun (r : Int32) (u : Unit) => r = (-2)) (fun (u : Unit) => []) := by
  refine ent (D := D) (cs := cs) (y := yX8_safe) (ws := W_X8_safe) (As := [.ref a0, .int k]) (W0 := [(a0, .inr (8, [.ref aT, .ref aD, .ref aO, .ref aR, .ref aS, .ref aJ, .ref aC, .ref aI, .ref aK, .ref aL])), (aO, .inr (0, [.int 0, .int 0, .int 0, .int 0, .int 0, .int 0, .int 0, .int 0, .int 0, .int 0, .ref o1, .ref o2, .ref o3, .ref o4, .ref o5])), (aS, .inr (6, [.int 0, .int 0, .int 0, .long 0, .ref s1, .ref s2, .ref s3, .ref s4]))]) (Qx := fun A => va_Qi (fun (r : Int32) (u : Unit) => r = (-2)) (mpost D A (fun (u : Unit) => [])) A) (maxL := 2) (ret := (some .int)) (by decide) rfl (Nat.le_of_ble_eq_true rfl) ?_
  intro p e s m below meth c A ls hx hb hr hml hlk hown hts hin hK hE hP hD hA hS hl
  have hl : lv_has ls 2 [(0, .ref a0), (1, .int k)] := hl
  generalize hHe : s.heap = H at hP
  have hS : va_S A s.heap H [] := hHe ▸ hS
  have htw : ∀ w ∈ O_X8_safe, w.before ([.ref a0, .int k] : List Value).toArray s = true := fun w h => hts w (List.mem_cons_of_mem _ (List.mem_append_left _ h))
  have hFix := (⟨hx, hb, hml, hown, hts⟩ : CallFix p m c _ _ s _ _ _)
  refine lv_aload_n hx hb dX8_safe_0 rfl (lv_at hl 0 rfl) ?_
  refine lv_iload_n hx hb dX8_safe_1 rfl (lv_at hl 1 rfl) ?_
  refine aft_i (wr := [(aS, .inr (6, [.int 0, .int 0, .int 0, .long 0, .ref s1, .ref s2, .ref s3, .ref s4]))]) hP hD hS hA [0, 1] [2] rfl rfl (by decide) (by decide) (run_v (As := [.int k]) (rest := []) hFix hK hE hP hD [0, 1] (k_X8_noDepth l D cs _ a0 k aT aD aO aR aS aJ aC aI aK aL o1 o2 o3 o4 o5) (cwV 1 hts gc_X8_safe_196_X8_noDepth rfl rfl rfl (by decide +kernel) ⟨Nat.le_of_ble_eq_true rfl, Nat.le_of_ble_eq_true rfl⟩) rfl (by decide) rfl rfl rfl hl.1 rfl (Nat.le_of_ble_eq_true rfl) dX8_safe_2 ⟨Nat.le_of_ble_eq_true rfl, Nat.le_of_ble_eq_true rfl⟩) (fun r_1 u_1 H locs hq_1 hP hD hS => ?_)
  have hP : va_P D vwCl [(aS, .inr (6, [.int 0, .int 0, .int 0, .long 0, .ref s1, .ref s2, .ref s3, .ref s4])), (a0, .inr (8, [.ref aT, .ref aD, .ref aO, .ref aR, .ref aS, .ref aJ, .ref aC, .ref aI, .ref aK, .ref aL])), (aO, .inr (0, [.int 0, .int 0, .int 0, .int 0, .int 0, .int 0, .int 0, .int 0, .int 0, .int 0, .ref o1, .ref o2, .ref o3, .ref o4, .ref o5]))] H := hP
  have hD : va_D A [(aS, .inr (6, [.int 0, .int 0, .int 0, .long 0, .ref s1, .ref s2, .ref s3, .ref s4])), (a0, .inr (8, [.ref aT, .ref aD, .ref aO, .ref aR, .ref aS, .ref aJ, .ref aC, .ref aI, .ref aK, .ref aL])), (aO, .inr (0, [.int 0, .int 0, .int 0, .int 0, .int 0, .int 0, .int 0, .int 0, .int 0, .int 0, .ref o1, .ref o2, .ref o3, .ref o4, .ref o5]))] := hD
  replace hq_1 : r_1 = 1 := hq_1
  subst hq_1
  refine lv_if_eq (tgt := 11) hx hb dX8_safe_5 (by decide) (fun h9 => absurd h9 (by decide)) (fun _ => ?_)
  refine lv_bipush (v := (-2)) hx hb dX8_safe_8 (by decide) ?_
  exact ret_i hx hb hr hlk hS (Nat.le_of_ble_eq_true rfl) (Nat.le_of_ble_eq_true rfl) () (rfl) (hP.sub [] rfl) (hD.sub [] (by decide) rfl) dX8_safe_10

set_option maxHeartbeats 4000000 in
set_option maxRecDepth 100000 in
theorem k_X8_bound (l : Launch) (D : va_G) (cs : Nat → ClassId) (sz : Nat) (a0 : Nat) (aT : Nat) (aD : Nat) (aO : Nat) (aR : Nat) (aS : Nat) (aJ : Nat) (aC : Nat) (aI : Nat) (aK : Nat) (aL : Nat) (o1 : Nat) (o2 : Nat) (o3 : Nat) (o4 : Nat) (o5 : Nat) (s1 : Nat) (s2 : Nat) (s3 : Nat) (s4 : Nat)  : Mi l D cs yX8_bound W_X8_bound 1 20 0 0 [.ref a0] [(a0, .inr (8, [.ref aT, .ref aD, .ref aO, .ref aR, .ref aS, .ref aJ, .ref aC, .ref aI, .ref aK, .ref aL])), (aO, .inr (0, [.int 0, .int 0, .int 0, .int 0, .int 0, .int 0, .int 0, .int 0, .int 0, .int 0, .ref o1, .ref o2, .ref o3, .ref o4, .ref o5])), (aS, .inr (6, [.int 0, .int 0, .int 0, .long 0, .ref s1, .ref s2, .ref s3, .ref s4]))] sz (fun (r : Int32) (u : Unit) => r = (-2)) (fun (u : Unit) => []) := by
  refine ent (D := D) (cs := cs) (y := yX8_bound) (ws := W_X8_bound) (As := [.ref a0]) (W0 := [(a0, .inr (8, [.ref aT, .ref aD, .ref aO, .ref aR, .ref aS, .ref aJ, .ref aC, .ref aI, .ref aK, .ref aL])), (aO, .inr (0, [.int 0, .int 0, .int 0, .int 0, .int 0, .int 0, .int 0, .int 0, .int 0, .int 0, .ref o1, .ref o2, .ref o3, .ref o4, .ref o5])), (aS, .inr (6, [.int 0, .int 0, .int 0, .long 0, .ref s1, .ref s2, .ref s3, .ref s4]))]) (Qx := fun A => va_Qi (fun (r : Int32) (u : Unit) => r = (-2)) (mpost D A (fun (u : Unit) => [])) A) (maxL := 2) (ret := (some .int)) (by decide) rfl (Nat.le_of_ble_eq_true rfl) ?_
  intro p e s m below meth c A ls hx hb hr hml hlk hown hts hin hK hE hP hD hA hS hl
  have hl : lv_has ls 2 [(0, .ref a0)] := hl
  generalize hHe : s.heap = H at hP
  have hS : va_S A s.heap H [] := hHe ▸ hS
  have htw : ∀ w ∈ O_X8_bound, w.before ([.ref a0] : List Value).toArray s = true := fun w h => hts w (List.mem_cons_of_mem _ (List.mem_append_left _ h))
  have hFix := (⟨hx, hb, hml, hown, hts⟩ : CallFix p m c _ _ s _ _ _)
  refine lv_aload_n hx hb dX8_bound_0 rfl (lv_at hl 0 rfl) ?_
  refine aft_i (wr := [(aS, .inr (6, [.int 0, .int 0, .int 0, .long 0, .ref s1, .ref s2, .ref s3, .ref s4]))]) hP hD hS hA [0, 1] [2] rfl rfl (by decide) (by decide) (run_v (As := []) (rest := []) hFix hK hE hP hD [0, 1] (k_X8_isTold l D cs _ a0 aT aD aO aR aS aJ aC aI aK aL o1 o2 o3 o4 o5) (cwV 0 hts gc_X8_bound_120_X8_isTold rfl rfl rfl (by decide +kernel) ⟨Nat.le_of_ble_eq_true rfl, Nat.le_of_ble_eq_true rfl⟩) rfl (by decide) rfl rfl rfl hl.1 rfl (Nat.le_of_ble_eq_true rfl) dX8_bound_1 ⟨Nat.le_of_ble_eq_true rfl, Nat.le_of_ble_eq_true rfl⟩) (fun r_1 u_1 H locs hq_1 hP hD hS => ?_)
  have hP : va_P D vwCl [(aS, .inr (6, [.int 0, .int 0, .int 0, .long 0, .ref s1, .ref s2, .ref s3, .ref s4])), (a0, .inr (8, [.ref aT, .ref aD, .ref aO, .ref aR, .ref aS, .ref aJ, .ref aC, .ref aI, .ref aK, .ref aL])), (aO, .inr (0, [.int 0, .int 0, .int 0, .int 0, .int 0, .int 0, .int 0, .int 0, .int 0, .int 0, .ref o1, .ref o2, .ref o3, .ref o4, .ref o5]))] H := hP
  have hD : va_D A [(aS, .inr (6, [.int 0, .int 0, .int 0, .long 0, .ref s1, .ref s2, .ref s3, .ref s4])), (a0, .inr (8, [.ref aT, .ref aD, .ref aO, .ref aR, .ref aS, .ref aJ, .ref aC, .ref aI, .ref aK, .ref aL])), (aO, .inr (0, [.int 0, .int 0, .int 0, .int 0, .int 0, .int 0, .int 0, .int 0, .int 0, .int 0, .ref o1, .ref o2, .ref o3, .ref o4, .ref o5]))] := hD
  replace hq_1 : r_1 = 0 := hq_1
  subst hq_1
  refine lv_if_ne (tgt := 10) hx hb dX8_bound_4 (by decide) (fun h9 => absurd h9 (by decide)) (fun _ => ?_)
  refine lv_bipush (v := (-2)) hx hb dX8_bound_7 (by decide) ?_
  exact ret_i hx hb hr hlk hS (Nat.le_of_ble_eq_true rfl) (Nat.le_of_ble_eq_true rfl) () (rfl) (hP.sub [] rfl) (hD.sub [] (by decide) rfl) dX8_bound_9

set_option maxHeartbeats 4000000 in
set_option maxRecDepth 100000 in
theorem k_X8_least (l : Launch) (D : va_G) (cs : Nat → ClassId) (sz : Nat) (a0 : Nat) (k : Int32) (k2 : Int32) (aT : Nat) (aD : Nat) (aO : Nat) (aR : Nat) (aS : Nat) (aJ : Nat) (aC : Nat) (aI : Nat) (aK : Nat) (aL : Nat) (o1 : Nat) (o2 : Nat) (o3 : Nat) (o4 : Nat) (o5 : Nat) (s1 : Nat) (s2 : Nat) (s3 : Nat) (s4 : Nat)  : Mi l D cs yX8_least W_X8_least 2 41 0 0 [.ref a0, .int k, .int k2] [(a0, .inr (8, [.ref aT, .ref aD, .ref aO, .ref aR, .ref aS, .ref aJ, .ref aC, .ref aI, .ref aK, .ref aL])), (aO, .inr (0, [.int 0, .int 0, .int 0, .int 0, .int 0, .int 0, .int 0, .int 0, .int 0, .int 0, .ref o1, .ref o2, .ref o3, .ref o4, .ref o5])), (aS, .inr (6, [.int 0, .int 0, .int 0, .long 0, .ref s1, .ref s2, .ref s3, .ref s4]))] sz (fun (r : Int32) (u : Unit) => r = (-2)) (fun (u : Unit) => []) := by
  refine ent (D := D) (cs := cs) (y := yX8_least) (ws := W_X8_least) (As := [.ref a0, .int k, .int k2]) (W0 := [(a0, .inr (8, [.ref aT, .ref aD, .ref aO, .ref aR, .ref aS, .ref aJ, .ref aC, .ref aI, .ref aK, .ref aL])), (aO, .inr (0, [.int 0, .int 0, .int 0, .int 0, .int 0, .int 0, .int 0, .int 0, .int 0, .int 0, .ref o1, .ref o2, .ref o3, .ref o4, .ref o5])), (aS, .inr (6, [.int 0, .int 0, .int 0, .long 0, .ref s1, .ref s2, .ref s3, .ref s4]))]) (Qx := fun A => va_Qi (fun (r : Int32) (u : Unit) => r = (-2)) (mpost D A (fun (u : Unit) => [])) A) (maxL := 3) (ret := (some .int)) (by decide) rfl (Nat.le_of_ble_eq_true rfl) ?_
  intro p e s m below meth c A ls hx hb hr hml hlk hown hts hin hK hE hP hD hA hS hl
  have hl : lv_has ls 3 [(0, .ref a0), (1, .int k), (2, .int k2)] := hl
  generalize hHe : s.heap = H at hP
  have hS : va_S A s.heap H [] := hHe ▸ hS
  have htw : ∀ w ∈ O_X8_least, w.before ([.ref a0, .int k, .int k2] : List Value).toArray s = true := fun w h => hts w (List.mem_cons_of_mem _ (List.mem_append_left _ h))
  have hFix := (⟨hx, hb, hml, hown, hts⟩ : CallFix p m c _ _ s _ _ _)
  refine lv_aload_n hx hb dX8_least_0 rfl (lv_at hl 0 rfl) ?_
  refine lv_iload_n hx hb dX8_least_1 rfl (lv_at hl 1 rfl) ?_
  refine aft_i (wr := [(aS, .inr (6, [.int 0, .int 0, .int 0, .long 0, .ref s1, .ref s2, .ref s3, .ref s4]))]) hP hD hS hA [0, 1] [2] rfl rfl (by decide) (by decide) (run_v (As := [.int k]) (rest := []) hFix hK hE hP hD [0, 1] (k_X8_noDepth l D cs _ a0 k aT aD aO aR aS aJ aC aI aK aL o1 o2 o3 o4 o5) (cwV 1 hts gc_X8_least_196_X8_noDepth rfl rfl rfl (by decide +kernel) ⟨Nat.le_of_ble_eq_true rfl, Nat.le_of_ble_eq_true rfl⟩) rfl (by decide) rfl rfl rfl hl.1 rfl (Nat.le_of_ble_eq_true rfl) dX8_least_2 ⟨Nat.le_of_ble_eq_true rfl, Nat.le_of_ble_eq_true rfl⟩) (fun r_1 u_1 H locs hq_1 hP hD hS => ?_)
  have hP : va_P D vwCl [(aS, .inr (6, [.int 0, .int 0, .int 0, .long 0, .ref s1, .ref s2, .ref s3, .ref s4])), (a0, .inr (8, [.ref aT, .ref aD, .ref aO, .ref aR, .ref aS, .ref aJ, .ref aC, .ref aI, .ref aK, .ref aL])), (aO, .inr (0, [.int 0, .int 0, .int 0, .int 0, .int 0, .int 0, .int 0, .int 0, .int 0, .int 0, .ref o1, .ref o2, .ref o3, .ref o4, .ref o5]))] H := hP
  have hD : va_D A [(aS, .inr (6, [.int 0, .int 0, .int 0, .long 0, .ref s1, .ref s2, .ref s3, .ref s4])), (a0, .inr (8, [.ref aT, .ref aD, .ref aO, .ref aR, .ref aS, .ref aJ, .ref aC, .ref aI, .ref aK, .ref aL])), (aO, .inr (0, [.int 0, .int 0, .int 0, .int 0, .int 0, .int 0, .int 0, .int 0, .int 0, .int 0, .ref o1, .ref o2, .ref o3, .ref o4, .ref o5]))] := hD
  replace hq_1 : r_1 = 1 := hq_1
  subst hq_1
  refine lv_if_ne (tgt := 17) hx hb dX8_least_5 (by decide) (fun _ => ?_) (fun h9 => absurd h9 (by decide))
  refine lv_bipush (v := (-2)) hx hb dX8_least_17 (by decide) ?_
  exact ret_i hx hb hr hlk hS (Nat.le_of_ble_eq_true rfl) (Nat.le_of_ble_eq_true rfl) () (rfl) (hP.sub [] rfl) (hD.sub [] (by decide) rfl) dX8_least_19

set_option maxHeartbeats 4000000 in
set_option maxRecDepth 100000 in
theorem k_X8_culprit (l : Launch) (D : va_G) (cs : Nat → ClassId) (sz : Nat) (a0 : Nat) (k : Int32) (aT : Nat) (aD : Nat) (aO : Nat) (aR : Nat) (aS : Nat) (aJ : Nat) (aC : Nat) (aI : Nat) (aK : Nat) (aL : Nat) (o1 : Nat) (o2 : Nat) (o3 : Nat) (o4 : Nat) (o5 : Nat) (s1 : Nat) (s2 : Nat) (s3 : Nat) (s4 : Nat)  : Mi l D cs yX8_culprit W_X8_culprit 2 41 0 0 [.ref a0, .int k] [(a0, .inr (8, [.ref aT, .ref aD, .ref aO, .ref aR, .ref aS, .ref aJ, .ref aC, .ref aI, .ref aK, .ref aL])), (aO, .inr (0, [.int 0, .int 0, .int 0, .int 0, .int 0, .int 0, .int 0, .int 0, .int 0, .int 0, .ref o1, .ref o2, .ref o3, .ref o4, .ref o5])), (aS, .inr (6, [.int 0, .int 0, .int 0, .long 0, .ref s1, .ref s2, .ref s3, .ref s4]))] sz (fun (r : Int32) (u : Unit) => r = (-2)) (fun (u : Unit) => []) := by
  refine ent (D := D) (cs := cs) (y := yX8_culprit) (ws := W_X8_culprit) (As := [.ref a0, .int k]) (W0 := [(a0, .inr (8, [.ref aT, .ref aD, .ref aO, .ref aR, .ref aS, .ref aJ, .ref aC, .ref aI, .ref aK, .ref aL])), (aO, .inr (0, [.int 0, .int 0, .int 0, .int 0, .int 0, .int 0, .int 0, .int 0, .int 0, .int 0, .ref o1, .ref o2, .ref o3, .ref o4, .ref o5])), (aS, .inr (6, [.int 0, .int 0, .int 0, .long 0, .ref s1, .ref s2, .ref s3, .ref s4]))]) (Qx := fun A => va_Qi (fun (r : Int32) (u : Unit) => r = (-2)) (mpost D A (fun (u : Unit) => [])) A) (maxL := 2) (ret := (some .int)) (by decide) rfl (Nat.le_of_ble_eq_true rfl) ?_
  intro p e s m below meth c A ls hx hb hr hml hlk hown hts hin hK hE hP hD hA hS hl
  have hl : lv_has ls 2 [(0, .ref a0), (1, .int k)] := hl
  generalize hHe : s.heap = H at hP
  have hS : va_S A s.heap H [] := hHe ▸ hS
  have htw : ∀ w ∈ O_X8_culprit, w.before ([.ref a0, .int k] : List Value).toArray s = true := fun w h => hts w (List.mem_cons_of_mem _ (List.mem_append_left _ h))
  have hFix := (⟨hx, hb, hml, hown, hts⟩ : CallFix p m c _ _ s _ _ _)
  refine lv_aload_n hx hb dX8_culprit_0 rfl (lv_at hl 0 rfl) ?_
  refine lv_iload_n hx hb dX8_culprit_1 rfl (lv_at hl 1 rfl) ?_
  refine aft_i (wr := [(aS, .inr (6, [.int 0, .int 0, .int 0, .long 0, .ref s1, .ref s2, .ref s3, .ref s4]))]) hP hD hS hA [0, 1] [2] rfl rfl (by decide) (by decide) (run_v (As := [.int k]) (rest := []) hFix hK hE hP hD [0, 1] (k_X8_noDepth l D cs _ a0 k aT aD aO aR aS aJ aC aI aK aL o1 o2 o3 o4 o5) (cwV 1 hts gc_X8_culprit_196_X8_noDepth rfl rfl rfl (by decide +kernel) ⟨Nat.le_of_ble_eq_true rfl, Nat.le_of_ble_eq_true rfl⟩) rfl (by decide) rfl rfl rfl hl.1 rfl (Nat.le_of_ble_eq_true rfl) dX8_culprit_2 ⟨Nat.le_of_ble_eq_true rfl, Nat.le_of_ble_eq_true rfl⟩) (fun r_1 u_1 H locs hq_1 hP hD hS => ?_)
  have hP : va_P D vwCl [(aS, .inr (6, [.int 0, .int 0, .int 0, .long 0, .ref s1, .ref s2, .ref s3, .ref s4])), (a0, .inr (8, [.ref aT, .ref aD, .ref aO, .ref aR, .ref aS, .ref aJ, .ref aC, .ref aI, .ref aK, .ref aL])), (aO, .inr (0, [.int 0, .int 0, .int 0, .int 0, .int 0, .int 0, .int 0, .int 0, .int 0, .int 0, .ref o1, .ref o2, .ref o3, .ref o4, .ref o5]))] H := hP
  have hD : va_D A [(aS, .inr (6, [.int 0, .int 0, .int 0, .long 0, .ref s1, .ref s2, .ref s3, .ref s4])), (a0, .inr (8, [.ref aT, .ref aD, .ref aO, .ref aR, .ref aS, .ref aJ, .ref aC, .ref aI, .ref aK, .ref aL])), (aO, .inr (0, [.int 0, .int 0, .int 0, .int 0, .int 0, .int 0, .int 0, .int 0, .int 0, .int 0, .ref o1, .ref o2, .ref o3, .ref o4, .ref o5]))] := hD
  replace hq_1 : r_1 = 1 := hq_1
  subst hq_1
  refine lv_if_eq (tgt := 11) hx hb dX8_culprit_5 (by decide) (fun h9 => absurd h9 (by decide)) (fun _ => ?_)
  refine lv_bipush (v := (-2)) hx hb dX8_culprit_8 (by decide) ?_
  exact ret_i hx hb hr hlk hS (Nat.le_of_ble_eq_true rfl) (Nat.le_of_ble_eq_true rfl) () (rfl) (hP.sub [] rfl) (hD.sub [] (by decide) rfl) dX8_culprit_10

set_option maxHeartbeats 4000000 in
set_option maxRecDepth 100000 in
theorem k_X8_hits (l : Launch) (D : va_G) (cs : Nat → ClassId) (sz : Nat) (a0 : Nat) (k : Int32) (k2 : Int32) (aT : Nat) (aD : Nat) (aO : Nat) (aR : Nat) (aS : Nat) (aJ : Nat) (aC : Nat) (aI : Nat) (aK : Nat) (aL : Nat) (o1 : Nat) (o2 : Nat) (o3 : Nat) (o4 : Nat) (o5 : Nat) (s1 : Nat) (s2 : Nat) (s3 : Nat) (s4 : Nat)  : Mi l D cs yX8_hits W_X8_hits 1 21 0 0 [.ref a0, .int k, .int k2] [(a0, .inr (8, [.ref aT, .ref aD, .ref aO, .ref aR, .ref aS, .ref aJ, .ref aC, .ref aI, .ref aK, .ref aL])), (aO, .inr (0, [.int 0, .int 0, .int 0, .int 0, .int 0, .int 0, .int 0, .int 0, .int 0, .int 0, .ref o1, .ref o2, .ref o3, .ref o4, .ref o5])), (aS, .inr (6, [.int 0, .int 0, .int 0, .long 0, .ref s1, .ref s2, .ref s3, .ref s4]))] sz (fun (r : Int32) (u : Unit) => r = (-2)) (fun (u : Unit) => []) := by
  refine ent (D := D) (cs := cs) (y := yX8_hits) (ws := W_X8_hits) (As := [.ref a0, .int k, .int k2]) (W0 := [(a0, .inr (8, [.ref aT, .ref aD, .ref aO, .ref aR, .ref aS, .ref aJ, .ref aC, .ref aI, .ref aK, .ref aL])), (aO, .inr (0, [.int 0, .int 0, .int 0, .int 0, .int 0, .int 0, .int 0, .int 0, .int 0, .int 0, .ref o1, .ref o2, .ref o3, .ref o4, .ref o5])), (aS, .inr (6, [.int 0, .int 0, .int 0, .long 0, .ref s1, .ref s2, .ref s3, .ref s4]))]) (Qx := fun A => va_Qi (fun (r : Int32) (u : Unit) => r = (-2)) (mpost D A (fun (u : Unit) => [])) A) (maxL := 3) (ret := (some .int)) (by decide) rfl (Nat.le_of_ble_eq_true rfl) ?_
  intro p e s m below meth c A ls hx hb hr hml hlk hown hts hin hK hE hP hD hA hS hl
  have hl : lv_has ls 3 [(0, .ref a0), (1, .int k), (2, .int k2)] := hl
  generalize hHe : s.heap = H at hP
  have hS : va_S A s.heap H [] := hHe ▸ hS
  have htw : ∀ w ∈ O_X8_hits, w.before ([.ref a0, .int k, .int k2] : List Value).toArray s = true := fun w h => hts w (List.mem_cons_of_mem _ (List.mem_append_left _ h))
  have hFix := (⟨hx, hb, hml, hown, hts⟩ : CallFix p m c _ _ s _ _ _)
  refine lv_aload_n hx hb dX8_hits_0 rfl (lv_at hl 0 rfl) ?_
  refine lv_iload_n hx hb dX8_hits_1 rfl (lv_at hl 1 rfl) ?_
  refine aft_i (wr := [(aS, .inr (6, [.int 0, .int 0, .int 0, .long 0, .ref s1, .ref s2, .ref s3, .ref s4]))]) hP hD hS hA [0, 1] [2] rfl rfl (by decide) (by decide) (run_v (As := [.int k]) (rest := []) hFix hK hE hP hD [0, 1] (k_X8_noRule l D cs _ a0 k aT aD aO aR aS aJ aC aI aK aL o1 o2 o3 o4 o5) (cwV 1 hts gc_X8_hits_108_X8_noRule rfl rfl rfl (by decide +kernel) ⟨Nat.le_of_ble_eq_true rfl, Nat.le_of_ble_eq_true rfl⟩) rfl (by decide) rfl rfl rfl hl.1 rfl (Nat.le_of_ble_eq_true rfl) dX8_hits_2 ⟨Nat.le_of_ble_eq_true rfl, Nat.le_of_ble_eq_true rfl⟩) (fun r_1 u_1 H locs hq_1 hP hD hS => ?_)
  have hP : va_P D vwCl [(aS, .inr (6, [.int 0, .int 0, .int 0, .long 0, .ref s1, .ref s2, .ref s3, .ref s4])), (a0, .inr (8, [.ref aT, .ref aD, .ref aO, .ref aR, .ref aS, .ref aJ, .ref aC, .ref aI, .ref aK, .ref aL])), (aO, .inr (0, [.int 0, .int 0, .int 0, .int 0, .int 0, .int 0, .int 0, .int 0, .int 0, .int 0, .ref o1, .ref o2, .ref o3, .ref o4, .ref o5]))] H := hP
  have hD : va_D A [(aS, .inr (6, [.int 0, .int 0, .int 0, .long 0, .ref s1, .ref s2, .ref s3, .ref s4])), (a0, .inr (8, [.ref aT, .ref aD, .ref aO, .ref aR, .ref aS, .ref aJ, .ref aC, .ref aI, .ref aK, .ref aL])), (aO, .inr (0, [.int 0, .int 0, .int 0, .int 0, .int 0, .int 0, .int 0, .int 0, .int 0, .int 0, .ref o1, .ref o2, .ref o3, .ref o4, .ref o5]))] := hD
  replace hq_1 : r_1 = 1 := hq_1
  subst hq_1
  refine lv_if_ne (tgt := 16) hx hb dX8_hits_5 (by decide) (fun _ => ?_) (fun h9 => absurd h9 (by decide))
  refine lv_bipush (v := (-2)) hx hb dX8_hits_16 (by decide) ?_
  exact ret_i hx hb hr hlk hS (Nat.le_of_ble_eq_true rfl) (Nat.le_of_ble_eq_true rfl) () (rfl) (hP.sub [] rfl) (hD.sub [] (by decide) rfl) dX8_hits_18

set_option maxHeartbeats 4000000 in
set_option maxRecDepth 100000 in
theorem k_X8_worst (l : Launch) (D : va_G) (cs : Nat → ClassId) (sz : Nat) (a0 : Nat) (k : Int32) (aT : Nat) (aD : Nat) (aO : Nat) (aR : Nat) (aS : Nat) (aJ : Nat) (aC : Nat) (aI : Nat) (aK : Nat) (aL : Nat) (o1 : Nat) (o2 : Nat) (o3 : Nat) (o4 : Nat) (o5 : Nat) (s1 : Nat) (s2 : Nat) (s3 : Nat) (s4 : Nat)  : Mi l D cs yX8_worst W_X8_worst 2 41 0 0 [.ref a0, .int k] [(a0, .inr (8, [.ref aT, .ref aD, .ref aO, .ref aR, .ref aS, .ref aJ, .ref aC, .ref aI, .ref aK, .ref aL])), (aO, .inr (0, [.int 0, .int 0, .int 0, .int 0, .int 0, .int 0, .int 0, .int 0, .int 0, .int 0, .ref o1, .ref o2, .ref o3, .ref o4, .ref o5])), (aS, .inr (6, [.int 0, .int 0, .int 0, .long 0, .ref s1, .ref s2, .ref s3, .ref s4]))] sz (fun (r : Int32) (u : Unit) => r = (-2)) (fun (u : Unit) => []) := by
  refine ent (D := D) (cs := cs) (y := yX8_worst) (ws := W_X8_worst) (As := [.ref a0, .int k]) (W0 := [(a0, .inr (8, [.ref aT, .ref aD, .ref aO, .ref aR, .ref aS, .ref aJ, .ref aC, .ref aI, .ref aK, .ref aL])), (aO, .inr (0, [.int 0, .int 0, .int 0, .int 0, .int 0, .int 0, .int 0, .int 0, .int 0, .int 0, .ref o1, .ref o2, .ref o3, .ref o4, .ref o5])), (aS, .inr (6, [.int 0, .int 0, .int 0, .long 0, .ref s1, .ref s2, .ref s3, .ref s4]))]) (Qx := fun A => va_Qi (fun (r : Int32) (u : Unit) => r = (-2)) (mpost D A (fun (u : Unit) => [])) A) (maxL := 5) (ret := (some .int)) (by decide) rfl (Nat.le_of_ble_eq_true rfl) ?_
  intro p e s m below meth c A ls hx hb hr hml hlk hown hts hin hK hE hP hD hA hS hl
  have hl : lv_has ls 5 [(0, .ref a0), (1, .int k)] := hl
  generalize hHe : s.heap = H at hP
  have hS : va_S A s.heap H [] := hHe ▸ hS
  have htw : ∀ w ∈ O_X8_worst, w.before ([.ref a0, .int k] : List Value).toArray s = true := fun w h => hts w (List.mem_cons_of_mem _ (List.mem_append_left _ h))
  have hFix := (⟨hx, hb, hml, hown, hts⟩ : CallFix p m c _ _ s _ _ _)
  refine lv_aload_n hx hb dX8_worst_0 rfl (lv_at hl 0 rfl) ?_
  refine lv_iload_n hx hb dX8_worst_1 rfl (lv_at hl 1 rfl) ?_
  refine aft_i (wr := [(aS, .inr (6, [.int 0, .int 0, .int 0, .long 0, .ref s1, .ref s2, .ref s3, .ref s4]))]) hP hD hS hA [0, 1] [2] rfl rfl (by decide) (by decide) (run_v (As := [.int k]) (rest := []) hFix hK hE hP hD [0, 1] (k_X8_noDepth l D cs _ a0 k aT aD aO aR aS aJ aC aI aK aL o1 o2 o3 o4 o5) (cwV 1 hts gc_X8_worst_196_X8_noDepth rfl rfl rfl (by decide +kernel) ⟨Nat.le_of_ble_eq_true rfl, Nat.le_of_ble_eq_true rfl⟩) rfl (by decide) rfl rfl rfl hl.1 rfl (Nat.le_of_ble_eq_true rfl) dX8_worst_2 ⟨Nat.le_of_ble_eq_true rfl, Nat.le_of_ble_eq_true rfl⟩) (fun r_1 u_1 H locs hq_1 hP hD hS => ?_)
  have hP : va_P D vwCl [(aS, .inr (6, [.int 0, .int 0, .int 0, .long 0, .ref s1, .ref s2, .ref s3, .ref s4])), (a0, .inr (8, [.ref aT, .ref aD, .ref aO, .ref aR, .ref aS, .ref aJ, .ref aC, .ref aI, .ref aK, .ref aL])), (aO, .inr (0, [.int 0, .int 0, .int 0, .int 0, .int 0, .int 0, .int 0, .int 0, .int 0, .int 0, .ref o1, .ref o2, .ref o3, .ref o4, .ref o5]))] H := hP
  have hD : va_D A [(aS, .inr (6, [.int 0, .int 0, .int 0, .long 0, .ref s1, .ref s2, .ref s3, .ref s4])), (a0, .inr (8, [.ref aT, .ref aD, .ref aO, .ref aR, .ref aS, .ref aJ, .ref aC, .ref aI, .ref aK, .ref aL])), (aO, .inr (0, [.int 0, .int 0, .int 0, .int 0, .int 0, .int 0, .int 0, .int 0, .int 0, .int 0, .ref o1, .ref o2, .ref o3, .ref o4, .ref o5]))] := hD
  replace hq_1 : r_1 = 1 := hq_1
  subst hq_1
  refine lv_if_eq (tgt := 11) hx hb dX8_worst_5 (by decide) (fun h9 => absurd h9 (by decide)) (fun _ => ?_)
  refine lv_bipush (v := (-2)) hx hb dX8_worst_8 (by decide) ?_
  exact ret_i hx hb hr hlk hS (Nat.le_of_ble_eq_true rfl) (Nat.le_of_ble_eq_true rfl) () (rfl) (hP.sub [] rfl) (hD.sub [] (by decide) rfl) dX8_worst_10

set_option maxHeartbeats 4000000 in
set_option maxRecDepth 100000 in
theorem k_X8_bare (l : Launch) (D : va_G) (cs : Nat → ClassId) (sz : Nat) (a0 : Nat) (k : Int32) (aT : Nat) (aD : Nat) (aO : Nat) (aR : Nat) (aS : Nat) (aJ : Nat) (aC : Nat) (aI : Nat) (aK : Nat) (aL : Nat) (o1 : Nat) (o2 : Nat) (o3 : Nat) (o4 : Nat) (o5 : Nat) (s1 : Nat) (s2 : Nat) (s3 : Nat) (s4 : Nat)  : Mi l D cs yX8_bare W_X8_bare 2 41 0 0 [.ref a0, .int k] [(a0, .inr (8, [.ref aT, .ref aD, .ref aO, .ref aR, .ref aS, .ref aJ, .ref aC, .ref aI, .ref aK, .ref aL])), (aO, .inr (0, [.int 0, .int 0, .int 0, .int 0, .int 0, .int 0, .int 0, .int 0, .int 0, .int 0, .ref o1, .ref o2, .ref o3, .ref o4, .ref o5])), (aS, .inr (6, [.int 0, .int 0, .int 0, .long 0, .ref s1, .ref s2, .ref s3, .ref s4]))] sz (fun (r : Int32) (u : Unit) => r = (-2)) (fun (u : Unit) => []) := by
  refine ent (D := D) (cs := cs) (y := yX8_bare) (ws := W_X8_bare) (As := [.ref a0, .int k]) (W0 := [(a0, .inr (8, [.ref aT, .ref aD, .ref aO, .ref aR, .ref aS, .ref aJ, .ref aC, .ref aI, .ref aK, .ref aL])), (aO, .inr (0, [.int 0, .int 0, .int 0, .int 0, .int 0, .int 0, .int 0, .int 0, .int 0, .int 0, .ref o1, .ref o2, .ref o3, .ref o4, .ref o5])), (aS, .inr (6, [.int 0, .int 0, .int 0, .long 0, .ref s1, .ref s2, .ref s3, .ref s4]))]) (Qx := fun A => va_Qi (fun (r : Int32) (u : Unit) => r = (-2)) (mpost D A (fun (u : Unit) => [])) A) (maxL := 4) (ret := (some .int)) (by decide) rfl (Nat.le_of_ble_eq_true rfl) ?_
  intro p e s m below meth c A ls hx hb hr hml hlk hown hts hin hK hE hP hD hA hS hl
  have hl : lv_has ls 4 [(0, .ref a0), (1, .int k)] := hl
  generalize hHe : s.heap = H at hP
  have hS : va_S A s.heap H [] := hHe ▸ hS
  have htw : ∀ w ∈ O_X8_bare, w.before ([.ref a0, .int k] : List Value).toArray s = true := fun w h => hts w (List.mem_cons_of_mem _ (List.mem_append_left _ h))
  have hFix := (⟨hx, hb, hml, hown, hts⟩ : CallFix p m c _ _ s _ _ _)
  refine lv_aload_n hx hb dX8_bare_0 rfl (lv_at hl 0 rfl) ?_
  refine lv_iload_n hx hb dX8_bare_1 rfl (lv_at hl 1 rfl) ?_
  refine aft_i (wr := [(aS, .inr (6, [.int 0, .int 0, .int 0, .long 0, .ref s1, .ref s2, .ref s3, .ref s4]))]) hP hD hS hA [0, 1] [2] rfl rfl (by decide) (by decide) (run_v (As := [.int k]) (rest := []) hFix hK hE hP hD [0, 1] (k_X8_noDepth l D cs _ a0 k aT aD aO aR aS aJ aC aI aK aL o1 o2 o3 o4 o5) (cwV 1 hts gc_X8_bare_196_X8_noDepth rfl rfl rfl (by decide +kernel) ⟨Nat.le_of_ble_eq_true rfl, Nat.le_of_ble_eq_true rfl⟩) rfl (by decide) rfl rfl rfl hl.1 rfl (Nat.le_of_ble_eq_true rfl) dX8_bare_2 ⟨Nat.le_of_ble_eq_true rfl, Nat.le_of_ble_eq_true rfl⟩) (fun r_1 u_1 H locs hq_1 hP hD hS => ?_)
  have hP : va_P D vwCl [(aS, .inr (6, [.int 0, .int 0, .int 0, .long 0, .ref s1, .ref s2, .ref s3, .ref s4])), (a0, .inr (8, [.ref aT, .ref aD, .ref aO, .ref aR, .ref aS, .ref aJ, .ref aC, .ref aI, .ref aK, .ref aL])), (aO, .inr (0, [.int 0, .int 0, .int 0, .int 0, .int 0, .int 0, .int 0, .int 0, .int 0, .int 0, .ref o1, .ref o2, .ref o3, .ref o4, .ref o5]))] H := hP
  have hD : va_D A [(aS, .inr (6, [.int 0, .int 0, .int 0, .long 0, .ref s1, .ref s2, .ref s3, .ref s4])), (a0, .inr (8, [.ref aT, .ref aD, .ref aO, .ref aR, .ref aS, .ref aJ, .ref aC, .ref aI, .ref aK, .ref aL])), (aO, .inr (0, [.int 0, .int 0, .int 0, .int 0, .int 0, .int 0, .int 0, .int 0, .int 0, .int 0, .ref o1, .ref o2, .ref o3, .ref o4, .ref o5]))] := hD
  replace hq_1 : r_1 = 1 := hq_1
  subst hq_1
  refine lv_if_eq (tgt := 11) hx hb dX8_bare_5 (by decide) (fun h9 => absurd h9 (by decide)) (fun _ => ?_)
  refine lv_bipush (v := (-2)) hx hb dX8_bare_8 (by decide) ?_
  exact ret_i hx hb hr hlk hS (Nat.le_of_ble_eq_true rfl) (Nat.le_of_ble_eq_true rfl) () (rfl) (hP.sub [] rfl) (hD.sub [] (by decide) rfl) dX8_bare_10

set_option maxHeartbeats 4000000 in
set_option maxRecDepth 100000 in
theorem k_X8_calm (l : Launch) (D : va_G) (cs : Nat → ClassId) (sz : Nat) (a0 : Nat) (k : Int32) (aT : Nat) (aD : Nat) (aO : Nat) (aR : Nat) (aS : Nat) (aJ : Nat) (aC : Nat) (aI : Nat) (aK : Nat) (aL : Nat) (o1 : Nat) (o2 : Nat) (o3 : Nat) (o4 : Nat) (o5 : Nat) (s1 : Nat) (s2 : Nat) (s3 : Nat) (s4 : Nat)  : Mi l D cs yX8_calm W_X8_calm 1 21 0 0 [.ref a0, .int k] [(a0, .inr (8, [.ref aT, .ref aD, .ref aO, .ref aR, .ref aS, .ref aJ, .ref aC, .ref aI, .ref aK, .ref aL])), (aO, .inr (0, [.int 0, .int 0, .int 0, .int 0, .int 0, .int 0, .int 0, .int 0, .int 0, .int 0, .ref o1, .ref o2, .ref o3, .ref o4, .ref o5])), (aS, .inr (6, [.int 0, .int 0, .int 0, .long 0, .ref s1, .ref s2, .ref s3, .ref s4]))] sz (fun (r : Int32) (u : Unit) => r = (-2)) (fun (u : Unit) => []) := by
  refine ent (D := D) (cs := cs) (y := yX8_calm) (ws := W_X8_calm) (As := [.ref a0, .int k]) (W0 := [(a0, .inr (8, [.ref aT, .ref aD, .ref aO, .ref aR, .ref aS, .ref aJ, .ref aC, .ref aI, .ref aK, .ref aL])), (aO, .inr (0, [.int 0, .int 0, .int 0, .int 0, .int 0, .int 0, .int 0, .int 0, .int 0, .int 0, .ref o1, .ref o2, .ref o3, .ref o4, .ref o5])), (aS, .inr (6, [.int 0, .int 0, .int 0, .long 0, .ref s1, .ref s2, .ref s3, .ref s4]))]) (Qx := fun A => va_Qi (fun (r : Int32) (u : Unit) => r = (-2)) (mpost D A (fun (u : Unit) => [])) A) (maxL := 3) (ret := (some .int)) (by decide) rfl (Nat.le_of_ble_eq_true rfl) ?_
  intro p e s m below meth c A ls hx hb hr hml hlk hown hts hin hK hE hP hD hA hS hl
  have hl : lv_has ls 3 [(0, .ref a0), (1, .int k)] := hl
  generalize hHe : s.heap = H at hP
  have hS : va_S A s.heap H [] := hHe ▸ hS
  have htw : ∀ w ∈ O_X8_calm, w.before ([.ref a0, .int k] : List Value).toArray s = true := fun w h => hts w (List.mem_cons_of_mem _ (List.mem_append_left _ h))
  have hFix := (⟨hx, hb, hml, hown, hts⟩ : CallFix p m c _ _ s _ _ _)
  refine lv_aload_n hx hb dX8_calm_0 rfl (lv_at hl 0 rfl) ?_
  refine lv_iload_n hx hb dX8_calm_1 rfl (lv_at hl 1 rfl) ?_
  refine aft_i (wr := [(aO, .inr (0, [.int 0, .int 0, .int 0, .int 0, .int 0, .int 0, .int 0, .int 0, .int 0, .int 0, .ref o1, .ref o2, .ref o3, .ref o4, .ref o5]))]) hP hD hS hA [0, 2] [1] rfl rfl (by decide) (by decide) (run_v (As := [.int k]) (rest := []) hFix hK hE hP hD [0, 2] (k_X8_noState l D cs _ a0 k aT aD aO aR aS aJ aC aI aK aL s1 s2 s3 s4) (cwV 1 hts gc_X8_calm_124_X8_noState rfl rfl rfl (by decide +kernel) ⟨Nat.le_of_ble_eq_true rfl, Nat.le_of_ble_eq_true rfl⟩) rfl (by decide) rfl rfl rfl hl.1 rfl (Nat.le_of_ble_eq_true rfl) dX8_calm_2 ⟨Nat.le_of_ble_eq_true rfl, Nat.le_of_ble_eq_true rfl⟩) (fun r_1 u_1 H locs hq_1 hP hD hS => ?_)
  have hP : va_P D vwCl [(aO, .inr (0, [.int 0, .int 0, .int 0, .int 0, .int 0, .int 0, .int 0, .int 0, .int 0, .int 0, .ref o1, .ref o2, .ref o3, .ref o4, .ref o5])), (a0, .inr (8, [.ref aT, .ref aD, .ref aO, .ref aR, .ref aS, .ref aJ, .ref aC, .ref aI, .ref aK, .ref aL])), (aS, .inr (6, [.int 0, .int 0, .int 0, .long 0, .ref s1, .ref s2, .ref s3, .ref s4]))] H := hP
  have hD : va_D A [(aO, .inr (0, [.int 0, .int 0, .int 0, .int 0, .int 0, .int 0, .int 0, .int 0, .int 0, .int 0, .ref o1, .ref o2, .ref o3, .ref o4, .ref o5])), (a0, .inr (8, [.ref aT, .ref aD, .ref aO, .ref aR, .ref aS, .ref aJ, .ref aC, .ref aI, .ref aK, .ref aL])), (aS, .inr (6, [.int 0, .int 0, .int 0, .long 0, .ref s1, .ref s2, .ref s3, .ref s4]))] := hD
  replace hq_1 : r_1 = 1 := hq_1
  subst hq_1
  refine lv_if_eq (tgt := 11) hx hb dX8_calm_5 (by decide) (fun h9 => absurd h9 (by decide)) (fun _ => ?_)
  refine lv_bipush (v := (-2)) hx hb dX8_calm_8 (by decide) ?_
  exact ret_i hx hb hr hlk hS (Nat.le_of_ble_eq_true rfl) (Nat.le_of_ble_eq_true rfl) () (rfl) (hP.sub [] rfl) (hD.sub [] (by decide) rfl) dX8_calm_10

set_option maxHeartbeats 4000000 in
set_option maxRecDepth 100000 in
theorem k_X8_hot (l : Launch) (D : va_G) (cs : Nat → ClassId) (sz : Nat) (a0 : Nat) (k : Int32) (aT : Nat) (aD : Nat) (aO : Nat) (aR : Nat) (aS : Nat) (aJ : Nat) (aC : Nat) (aI : Nat) (aK : Nat) (aL : Nat) (o1 : Nat) (o2 : Nat) (o3 : Nat) (o4 : Nat) (o5 : Nat) (s1 : Nat) (s2 : Nat) (s3 : Nat) (s4 : Nat)  : Mi l D cs yX8_hot W_X8_hot 2 41 0 0 [.ref a0, .int k] [(a0, .inr (8, [.ref aT, .ref aD, .ref aO, .ref aR, .ref aS, .ref aJ, .ref aC, .ref aI, .ref aK, .ref aL])), (aO, .inr (0, [.int 0, .int 0, .int 0, .int 0, .int 0, .int 0, .int 0, .int 0, .int 0, .int 0, .ref o1, .ref o2, .ref o3, .ref o4, .ref o5])), (aS, .inr (6, [.int 0, .int 0, .int 0, .long 0, .ref s1, .ref s2, .ref s3, .ref s4]))] sz (fun (r : Int32) (u : Unit) => r = (-2)) (fun (u : Unit) => []) := by
  refine ent (D := D) (cs := cs) (y := yX8_hot) (ws := W_X8_hot) (As := [.ref a0, .int k]) (W0 := [(a0, .inr (8, [.ref aT, .ref aD, .ref aO, .ref aR, .ref aS, .ref aJ, .ref aC, .ref aI, .ref aK, .ref aL])), (aO, .inr (0, [.int 0, .int 0, .int 0, .int 0, .int 0, .int 0, .int 0, .int 0, .int 0, .int 0, .ref o1, .ref o2, .ref o3, .ref o4, .ref o5])), (aS, .inr (6, [.int 0, .int 0, .int 0, .long 0, .ref s1, .ref s2, .ref s3, .ref s4]))]) (Qx := fun A => va_Qi (fun (r : Int32) (u : Unit) => r = (-2)) (mpost D A (fun (u : Unit) => [])) A) (maxL := 6) (ret := (some .int)) (by decide) rfl (Nat.le_of_ble_eq_true rfl) ?_
  intro p e s m below meth c A ls hx hb hr hml hlk hown hts hin hK hE hP hD hA hS hl
  have hl : lv_has ls 6 [(0, .ref a0), (1, .int k)] := hl
  generalize hHe : s.heap = H at hP
  have hS : va_S A s.heap H [] := hHe ▸ hS
  have htw : ∀ w ∈ O_X8_hot, w.before ([.ref a0, .int k] : List Value).toArray s = true := fun w h => hts w (List.mem_cons_of_mem _ (List.mem_append_left _ h))
  have hFix := (⟨hx, hb, hml, hown, hts⟩ : CallFix p m c _ _ s _ _ _)
  refine lv_aload_n hx hb dX8_hot_0 rfl (lv_at hl 0 rfl) ?_
  refine lv_iload_n hx hb dX8_hot_1 rfl (lv_at hl 1 rfl) ?_
  refine aft_i (wr := [(aS, .inr (6, [.int 0, .int 0, .int 0, .long 0, .ref s1, .ref s2, .ref s3, .ref s4]))]) hP hD hS hA [0, 1] [2] rfl rfl (by decide) (by decide) (run_v (As := [.int k]) (rest := []) hFix hK hE hP hD [0, 1] (k_X8_noDepth l D cs _ a0 k aT aD aO aR aS aJ aC aI aK aL o1 o2 o3 o4 o5) (cwV 1 hts gc_X8_hot_196_X8_noDepth rfl rfl rfl (by decide +kernel) ⟨Nat.le_of_ble_eq_true rfl, Nat.le_of_ble_eq_true rfl⟩) rfl (by decide) rfl rfl rfl hl.1 rfl (Nat.le_of_ble_eq_true rfl) dX8_hot_2 ⟨Nat.le_of_ble_eq_true rfl, Nat.le_of_ble_eq_true rfl⟩) (fun r_1 u_1 H locs hq_1 hP hD hS => ?_)
  have hP : va_P D vwCl [(aS, .inr (6, [.int 0, .int 0, .int 0, .long 0, .ref s1, .ref s2, .ref s3, .ref s4])), (a0, .inr (8, [.ref aT, .ref aD, .ref aO, .ref aR, .ref aS, .ref aJ, .ref aC, .ref aI, .ref aK, .ref aL])), (aO, .inr (0, [.int 0, .int 0, .int 0, .int 0, .int 0, .int 0, .int 0, .int 0, .int 0, .int 0, .ref o1, .ref o2, .ref o3, .ref o4, .ref o5]))] H := hP
  have hD : va_D A [(aS, .inr (6, [.int 0, .int 0, .int 0, .long 0, .ref s1, .ref s2, .ref s3, .ref s4])), (a0, .inr (8, [.ref aT, .ref aD, .ref aO, .ref aR, .ref aS, .ref aJ, .ref aC, .ref aI, .ref aK, .ref aL])), (aO, .inr (0, [.int 0, .int 0, .int 0, .int 0, .int 0, .int 0, .int 0, .int 0, .int 0, .int 0, .ref o1, .ref o2, .ref o3, .ref o4, .ref o5]))] := hD
  replace hq_1 : r_1 = 1 := hq_1
  subst hq_1
  refine lv_if_eq (tgt := 11) hx hb dX8_hot_5 (by decide) (fun h9 => absurd h9 (by decide)) (fun _ => ?_)
  refine lv_bipush (v := (-2)) hx hb dX8_hot_8 (by decide) ?_
  exact ret_i hx hb hr hlk hS (Nat.le_of_ble_eq_true rfl) (Nat.le_of_ble_eq_true rfl) () (rfl) (hP.sub [] rfl) (hD.sub [] (by decide) rfl) dX8_hot_10

set_option maxHeartbeats 4000000 in
set_option maxRecDepth 100000 in
theorem k_X8_known (l : Launch) (D : va_G) (cs : Nat → ClassId) (sz : Nat) (a0 : Nat) (k : Int32) (aT : Nat) (aD : Nat) (aO : Nat) (aR : Nat) (aS : Nat) (aJ : Nat) (aC : Nat) (aI : Nat) (aK : Nat) (aL : Nat) (o1 : Nat) (o2 : Nat) (o3 : Nat) (o4 : Nat) (o5 : Nat) (s1 : Nat) (s2 : Nat) (s3 : Nat) (s4 : Nat)  : Mi l D cs yX8_known W_X8_known 1 21 0 0 [.ref a0, .int k] [(a0, .inr (8, [.ref aT, .ref aD, .ref aO, .ref aR, .ref aS, .ref aJ, .ref aC, .ref aI, .ref aK, .ref aL])), (aO, .inr (0, [.int 0, .int 0, .int 0, .int 0, .int 0, .int 0, .int 0, .int 0, .int 0, .int 0, .ref o1, .ref o2, .ref o3, .ref o4, .ref o5])), (aS, .inr (6, [.int 0, .int 0, .int 0, .long 0, .ref s1, .ref s2, .ref s3, .ref s4]))] sz (fun (r : Int32) (u : Unit) => r = (-2)) (fun (u : Unit) => []) := by
  refine ent (D := D) (cs := cs) (y := yX8_known) (ws := W_X8_known) (As := [.ref a0, .int k]) (W0 := [(a0, .inr (8, [.ref aT, .ref aD, .ref aO, .ref aR, .ref aS, .ref aJ, .ref aC, .ref aI, .ref aK, .ref aL])), (aO, .inr (0, [.int 0, .int 0, .int 0, .int 0, .int 0, .int 0, .int 0, .int 0, .int 0, .int 0, .ref o1, .ref o2, .ref o3, .ref o4, .ref o5])), (aS, .inr (6, [.int 0, .int 0, .int 0, .long 0, .ref s1, .ref s2, .ref s3, .ref s4]))]) (Qx := fun A => va_Qi (fun (r : Int32) (u : Unit) => r = (-2)) (mpost D A (fun (u : Unit) => [])) A) (maxL := 5) (ret := (some .int)) (by decide) rfl (Nat.le_of_ble_eq_true rfl) ?_
  intro p e s m below meth c A ls hx hb hr hml hlk hown hts hin hK hE hP hD hA hS hl
  have hl : lv_has ls 5 [(0, .ref a0), (1, .int k)] := hl
  generalize hHe : s.heap = H at hP
  have hS : va_S A s.heap H [] := hHe ▸ hS
  have htw : ∀ w ∈ O_X8_known, w.before ([.ref a0, .int k] : List Value).toArray s = true := fun w h => hts w (List.mem_cons_of_mem _ (List.mem_append_left _ h))
  have hFix := (⟨hx, hb, hml, hown, hts⟩ : CallFix p m c _ _ s _ _ _)
  refine lv_aload_n hx hb dX8_known_0 rfl (lv_at hl 0 rfl) ?_
  refine lv_iload_n hx hb dX8_known_1 rfl (lv_at hl 1 rfl) ?_
  refine aft_i (wr := [(aS, .inr (6, [.int 0, .int 0, .int 0, .long 0, .ref s1, .ref s2, .ref s3, .ref s4]))]) hP hD hS hA [0, 1] [2] rfl rfl (by decide) (by decide) (run_v (As := [.int k]) (rest := []) hFix hK hE hP hD [0, 1] (k_X8_noRule l D cs _ a0 k aT aD aO aR aS aJ aC aI aK aL o1 o2 o3 o4 o5) (cwV 1 hts gc_X8_known_108_X8_noRule rfl rfl rfl (by decide +kernel) ⟨Nat.le_of_ble_eq_true rfl, Nat.le_of_ble_eq_true rfl⟩) rfl (by decide) rfl rfl rfl hl.1 rfl (Nat.le_of_ble_eq_true rfl) dX8_known_2 ⟨Nat.le_of_ble_eq_true rfl, Nat.le_of_ble_eq_true rfl⟩) (fun r_1 u_1 H locs hq_1 hP hD hS => ?_)
  have hP : va_P D vwCl [(aS, .inr (6, [.int 0, .int 0, .int 0, .long 0, .ref s1, .ref s2, .ref s3, .ref s4])), (a0, .inr (8, [.ref aT, .ref aD, .ref aO, .ref aR, .ref aS, .ref aJ, .ref aC, .ref aI, .ref aK, .ref aL])), (aO, .inr (0, [.int 0, .int 0, .int 0, .int 0, .int 0, .int 0, .int 0, .int 0, .int 0, .int 0, .ref o1, .ref o2, .ref o3, .ref o4, .ref o5]))] H := hP
  have hD : va_D A [(aS, .inr (6, [.int 0, .int 0, .int 0, .long 0, .ref s1, .ref s2, .ref s3, .ref s4])), (a0, .inr (8, [.ref aT, .ref aD, .ref aO, .ref aR, .ref aS, .ref aJ, .ref aC, .ref aI, .ref aK, .ref aL])), (aO, .inr (0, [.int 0, .int 0, .int 0, .int 0, .int 0, .int 0, .int 0, .int 0, .int 0, .int 0, .ref o1, .ref o2, .ref o3, .ref o4, .ref o5]))] := hD
  replace hq_1 : r_1 = 1 := hq_1
  subst hq_1
  refine lv_if_eq (tgt := 11) hx hb dX8_known_5 (by decide) (fun h9 => absurd h9 (by decide)) (fun _ => ?_)
  refine lv_bipush (v := (-2)) hx hb dX8_known_8 (by decide) ?_
  exact ret_i hx hb hr hlk hS (Nat.le_of_ble_eq_true rfl) (Nat.le_of_ble_eq_true rfl) () (rfl) (hP.sub [] rfl) (hD.sub [] (by decide) rfl) dX8_known_10

set_option maxHeartbeats 4000000 in
set_option maxRecDepth 100000 in
theorem k_X8_alone (l : Launch) (D : va_G) (cs : Nat → ClassId) (sz : Nat) (a0 : Nat) (k : Int32) (k2 : Int32) (aT : Nat) (aD : Nat) (aO : Nat) (aR : Nat) (aS : Nat) (aJ : Nat) (aC : Nat) (aI : Nat) (aK : Nat) (aL : Nat) (o1 : Nat) (o2 : Nat) (o3 : Nat) (o4 : Nat) (o5 : Nat) (s1 : Nat) (s2 : Nat) (s3 : Nat) (s4 : Nat)  : Mi l D cs yX8_alone W_X8_alone 1 21 0 0 [.ref a0, .int k, .int k2] [(a0, .inr (8, [.ref aT, .ref aD, .ref aO, .ref aR, .ref aS, .ref aJ, .ref aC, .ref aI, .ref aK, .ref aL])), (aO, .inr (0, [.int 0, .int 0, .int 0, .int 0, .int 0, .int 0, .int 0, .int 0, .int 0, .int 0, .ref o1, .ref o2, .ref o3, .ref o4, .ref o5])), (aS, .inr (6, [.int 0, .int 0, .int 0, .long 0, .ref s1, .ref s2, .ref s3, .ref s4]))] sz (fun (r : Int32) (u : Unit) => r = (-2)) (fun (u : Unit) => []) := by
  refine ent (D := D) (cs := cs) (y := yX8_alone) (ws := W_X8_alone) (As := [.ref a0, .int k, .int k2]) (W0 := [(a0, .inr (8, [.ref aT, .ref aD, .ref aO, .ref aR, .ref aS, .ref aJ, .ref aC, .ref aI, .ref aK, .ref aL])), (aO, .inr (0, [.int 0, .int 0, .int 0, .int 0, .int 0, .int 0, .int 0, .int 0, .int 0, .int 0, .ref o1, .ref o2, .ref o3, .ref o4, .ref o5])), (aS, .inr (6, [.int 0, .int 0, .int 0, .long 0, .ref s1, .ref s2, .ref s3, .ref s4]))]) (Qx := fun A => va_Qi (fun (r : Int32) (u : Unit) => r = (-2)) (mpost D A (fun (u : Unit) => [])) A) (maxL := 3) (ret := (some .int)) (by decide) rfl (Nat.le_of_ble_eq_true rfl) ?_
  intro p e s m below meth c A ls hx hb hr hml hlk hown hts hin hK hE hP hD hA hS hl
  have hl : lv_has ls 3 [(0, .ref a0), (1, .int k), (2, .int k2)] := hl
  generalize hHe : s.heap = H at hP
  have hS : va_S A s.heap H [] := hHe ▸ hS
  have htw : ∀ w ∈ O_X8_alone, w.before ([.ref a0, .int k, .int k2] : List Value).toArray s = true := fun w h => hts w (List.mem_cons_of_mem _ (List.mem_append_left _ h))
  have hFix := (⟨hx, hb, hml, hown, hts⟩ : CallFix p m c _ _ s _ _ _)
  refine lv_aload_n hx hb dX8_alone_0 rfl (lv_at hl 0 rfl) ?_
  refine lv_iload_n hx hb dX8_alone_1 rfl (lv_at hl 1 rfl) ?_
  refine aft_i (wr := [(aS, .inr (6, [.int 0, .int 0, .int 0, .long 0, .ref s1, .ref s2, .ref s3, .ref s4]))]) hP hD hS hA [0, 1] [2] rfl rfl (by decide) (by decide) (run_v (As := [.int k]) (rest := []) hFix hK hE hP hD [0, 1] (k_X8_noRule l D cs _ a0 k aT aD aO aR aS aJ aC aI aK aL o1 o2 o3 o4 o5) (cwV 1 hts gc_X8_alone_108_X8_noRule rfl rfl rfl (by decide +kernel) ⟨Nat.le_of_ble_eq_true rfl, Nat.le_of_ble_eq_true rfl⟩) rfl (by decide) rfl rfl rfl hl.1 rfl (Nat.le_of_ble_eq_true rfl) dX8_alone_2 ⟨Nat.le_of_ble_eq_true rfl, Nat.le_of_ble_eq_true rfl⟩) (fun r_1 u_1 H locs hq_1 hP hD hS => ?_)
  have hP : va_P D vwCl [(aS, .inr (6, [.int 0, .int 0, .int 0, .long 0, .ref s1, .ref s2, .ref s3, .ref s4])), (a0, .inr (8, [.ref aT, .ref aD, .ref aO, .ref aR, .ref aS, .ref aJ, .ref aC, .ref aI, .ref aK, .ref aL])), (aO, .inr (0, [.int 0, .int 0, .int 0, .int 0, .int 0, .int 0, .int 0, .int 0, .int 0, .int 0, .ref o1, .ref o2, .ref o3, .ref o4, .ref o5]))] H := hP
  have hD : va_D A [(aS, .inr (6, [.int 0, .int 0, .int 0, .long 0, .ref s1, .ref s2, .ref s3, .ref s4])), (a0, .inr (8, [.ref aT, .ref aD, .ref aO, .ref aR, .ref aS, .ref aJ, .ref aC, .ref aI, .ref aK, .ref aL])), (aO, .inr (0, [.int 0, .int 0, .int 0, .int 0, .int 0, .int 0, .int 0, .int 0, .int 0, .int 0, .ref o1, .ref o2, .ref o3, .ref o4, .ref o5]))] := hD
  replace hq_1 : r_1 = 1 := hq_1
  subst hq_1
  refine lv_if_ne (tgt := 16) hx hb dX8_alone_5 (by decide) (fun _ => ?_) (fun h9 => absurd h9 (by decide))
  refine lv_bipush (v := (-2)) hx hb dX8_alone_16 (by decide) ?_
  exact ret_i hx hb hr hlk hS (Nat.le_of_ble_eq_true rfl) (Nat.le_of_ble_eq_true rfl) () (rfl) (hP.sub [] rfl) (hD.sub [] (by decide) rfl) dX8_alone_18

set_option maxHeartbeats 4000000 in
set_option maxRecDepth 100000 in
theorem k_X8_fine (l : Launch) (D : va_G) (cs : Nat → ClassId) (sz : Nat) (a0 : Nat) (k : Int32) (aT : Nat) (aD : Nat) (aO : Nat) (aR : Nat) (aS : Nat) (aJ : Nat) (aC : Nat) (aI : Nat) (aK : Nat) (aL : Nat) (o1 : Nat) (o2 : Nat) (o3 : Nat) (o4 : Nat) (o5 : Nat) (s1 : Nat) (s2 : Nat) (s3 : Nat) (s4 : Nat)  : Mi l D cs yX8_fine W_X8_fine 2 41 0 0 [.ref a0, .int k] [(a0, .inr (8, [.ref aT, .ref aD, .ref aO, .ref aR, .ref aS, .ref aJ, .ref aC, .ref aI, .ref aK, .ref aL])), (aO, .inr (0, [.int 0, .int 0, .int 0, .int 0, .int 0, .int 0, .int 0, .int 0, .int 0, .int 0, .ref o1, .ref o2, .ref o3, .ref o4, .ref o5])), (aS, .inr (6, [.int 0, .int 0, .int 0, .long 0, .ref s1, .ref s2, .ref s3, .ref s4]))] sz (fun (r : Int32) (u : Unit) => r = (-2)) (fun (u : Unit) => []) := by
  refine ent (D := D) (cs := cs) (y := yX8_fine) (ws := W_X8_fine) (As := [.ref a0, .int k]) (W0 := [(a0, .inr (8, [.ref aT, .ref aD, .ref aO, .ref aR, .ref aS, .ref aJ, .ref aC, .ref aI, .ref aK, .ref aL])), (aO, .inr (0, [.int 0, .int 0, .int 0, .int 0, .int 0, .int 0, .int 0, .int 0, .int 0, .int 0, .ref o1, .ref o2, .ref o3, .ref o4, .ref o5])), (aS, .inr (6, [.int 0, .int 0, .int 0, .long 0, .ref s1, .ref s2, .ref s3, .ref s4]))]) (Qx := fun A => va_Qi (fun (r : Int32) (u : Unit) => r = (-2)) (mpost D A (fun (u : Unit) => [])) A) (maxL := 4) (ret := (some .int)) (by decide) rfl (Nat.le_of_ble_eq_true rfl) ?_
  intro p e s m below meth c A ls hx hb hr hml hlk hown hts hin hK hE hP hD hA hS hl
  have hl : lv_has ls 4 [(0, .ref a0), (1, .int k)] := hl
  generalize hHe : s.heap = H at hP
  have hS : va_S A s.heap H [] := hHe ▸ hS
  have htw : ∀ w ∈ O_X8_fine, w.before ([.ref a0, .int k] : List Value).toArray s = true := fun w h => hts w (List.mem_cons_of_mem _ (List.mem_append_left _ h))
  have hFix := (⟨hx, hb, hml, hown, hts⟩ : CallFix p m c _ _ s _ _ _)
  refine lv_aload_n hx hb dX8_fine_0 rfl (lv_at hl 0 rfl) ?_
  refine lv_iload_n hx hb dX8_fine_1 rfl (lv_at hl 1 rfl) ?_
  refine aft_i (wr := [(aS, .inr (6, [.int 0, .int 0, .int 0, .long 0, .ref s1, .ref s2, .ref s3, .ref s4]))]) hP hD hS hA [0, 1] [2] rfl rfl (by decide) (by decide) (run_v (As := [.int k]) (rest := []) hFix hK hE hP hD [0, 1] (k_X8_noDepth l D cs _ a0 k aT aD aO aR aS aJ aC aI aK aL o1 o2 o3 o4 o5) (cwV 1 hts gc_X8_fine_196_X8_noDepth rfl rfl rfl (by decide +kernel) ⟨Nat.le_of_ble_eq_true rfl, Nat.le_of_ble_eq_true rfl⟩) rfl (by decide) rfl rfl rfl hl.1 rfl (Nat.le_of_ble_eq_true rfl) dX8_fine_2 ⟨Nat.le_of_ble_eq_true rfl, Nat.le_of_ble_eq_true rfl⟩) (fun r_1 u_1 H locs hq_1 hP hD hS => ?_)
  have hP : va_P D vwCl [(aS, .inr (6, [.int 0, .int 0, .int 0, .long 0, .ref s1, .ref s2, .ref s3, .ref s4])), (a0, .inr (8, [.ref aT, .ref aD, .ref aO, .ref aR, .ref aS, .ref aJ, .ref aC, .ref aI, .ref aK, .ref aL])), (aO, .inr (0, [.int 0, .int 0, .int 0, .int 0, .int 0, .int 0, .int 0, .int 0, .int 0, .int 0, .ref o1, .ref o2, .ref o3, .ref o4, .ref o5]))] H := hP
  have hD : va_D A [(aS, .inr (6, [.int 0, .int 0, .int 0, .long 0, .ref s1, .ref s2, .ref s3, .ref s4])), (a0, .inr (8, [.ref aT, .ref aD, .ref aO, .ref aR, .ref aS, .ref aJ, .ref aC, .ref aI, .ref aK, .ref aL])), (aO, .inr (0, [.int 0, .int 0, .int 0, .int 0, .int 0, .int 0, .int 0, .int 0, .int 0, .int 0, .ref o1, .ref o2, .ref o3, .ref o4, .ref o5]))] := hD
  replace hq_1 : r_1 = 1 := hq_1
  subst hq_1
  refine lv_if_eq (tgt := 11) hx hb dX8_fine_5 (by decide) (fun h9 => absurd h9 (by decide)) (fun _ => ?_)
  refine lv_bipush (v := (-2)) hx hb dX8_fine_8 (by decide) ?_
  exact ret_i hx hb hr hlk hS (Nat.le_of_ble_eq_true rfl) (Nat.le_of_ble_eq_true rfl) () (rfl) (hP.sub [] rfl) (hD.sub [] (by decide) rfl) dX8_fine_10

set_option maxHeartbeats 4000000 in
set_option maxRecDepth 100000 in
theorem k_X8_fewest (l : Launch) (D : va_G) (cs : Nat → ClassId) (sz : Nat) (a0 : Nat) (k : Int32) (aT : Nat) (aD : Nat) (aO : Nat) (aR : Nat) (aS : Nat) (aJ : Nat) (aC : Nat) (aI : Nat) (aK : Nat) (aL : Nat) (o1 : Nat) (o2 : Nat) (o3 : Nat) (o4 : Nat) (o5 : Nat) (s1 : Nat) (s2 : Nat) (s3 : Nat) (s4 : Nat)  : Mi l D cs yX8_fewest W_X8_fewest 2 41 0 0 [.ref a0, .int k] [(a0, .inr (8, [.ref aT, .ref aD, .ref aO, .ref aR, .ref aS, .ref aJ, .ref aC, .ref aI, .ref aK, .ref aL])), (aO, .inr (0, [.int 0, .int 0, .int 0, .int 0, .int 0, .int 0, .int 0, .int 0, .int 0, .int 0, .ref o1, .ref o2, .ref o3, .ref o4, .ref o5])), (aS, .inr (6, [.int 0, .int 0, .int 0, .long 0, .ref s1, .ref s2, .ref s3, .ref s4]))] sz (fun (r : Int32) (u : Unit) => r = (-2)) (fun (u : Unit) => []) := by
  refine ent (D := D) (cs := cs) (y := yX8_fewest) (ws := W_X8_fewest) (As := [.ref a0, .int k]) (W0 := [(a0, .inr (8, [.ref aT, .ref aD, .ref aO, .ref aR, .ref aS, .ref aJ, .ref aC, .ref aI, .ref aK, .ref aL])), (aO, .inr (0, [.int 0, .int 0, .int 0, .int 0, .int 0, .int 0, .int 0, .int 0, .int 0, .int 0, .ref o1, .ref o2, .ref o3, .ref o4, .ref o5])), (aS, .inr (6, [.int 0, .int 0, .int 0, .long 0, .ref s1, .ref s2, .ref s3, .ref s4]))]) (Qx := fun A => va_Qi (fun (r : Int32) (u : Unit) => r = (-2)) (mpost D A (fun (u : Unit) => [])) A) (maxL := 3) (ret := (some .int)) (by decide) rfl (Nat.le_of_ble_eq_true rfl) ?_
  intro p e s m below meth c A ls hx hb hr hml hlk hown hts hin hK hE hP hD hA hS hl
  have hl : lv_has ls 3 [(0, .ref a0), (1, .int k)] := hl
  generalize hHe : s.heap = H at hP
  have hS : va_S A s.heap H [] := hHe ▸ hS
  have htw : ∀ w ∈ O_X8_fewest, w.before ([.ref a0, .int k] : List Value).toArray s = true := fun w h => hts w (List.mem_cons_of_mem _ (List.mem_append_left _ h))
  have hFix := (⟨hx, hb, hml, hown, hts⟩ : CallFix p m c _ _ s _ _ _)
  refine lv_aload_n hx hb dX8_fewest_0 rfl (lv_at hl 0 rfl) ?_
  refine lv_iload_n hx hb dX8_fewest_1 rfl (lv_at hl 1 rfl) ?_
  refine aft_i (wr := [(aS, .inr (6, [.int 0, .int 0, .int 0, .long 0, .ref s1, .ref s2, .ref s3, .ref s4]))]) hP hD hS hA [0, 1] [2] rfl rfl (by decide) (by decide) (run_v (As := [.int k]) (rest := []) hFix hK hE hP hD [0, 1] (k_X8_noDepth l D cs _ a0 k aT aD aO aR aS aJ aC aI aK aL o1 o2 o3 o4 o5) (cwV 1 hts gc_X8_fewest_196_X8_noDepth rfl rfl rfl (by decide +kernel) ⟨Nat.le_of_ble_eq_true rfl, Nat.le_of_ble_eq_true rfl⟩) rfl (by decide) rfl rfl rfl hl.1 rfl (Nat.le_of_ble_eq_true rfl) dX8_fewest_2 ⟨Nat.le_of_ble_eq_true rfl, Nat.le_of_ble_eq_true rfl⟩) (fun r_1 u_1 H locs hq_1 hP hD hS => ?_)
  have hP : va_P D vwCl [(aS, .inr (6, [.int 0, .int 0, .int 0, .long 0, .ref s1, .ref s2, .ref s3, .ref s4])), (a0, .inr (8, [.ref aT, .ref aD, .ref aO, .ref aR, .ref aS, .ref aJ, .ref aC, .ref aI, .ref aK, .ref aL])), (aO, .inr (0, [.int 0, .int 0, .int 0, .int 0, .int 0, .int 0, .int 0, .int 0, .int 0, .int 0, .ref o1, .ref o2, .ref o3, .ref o4, .ref o5]))] H := hP
  have hD : va_D A [(aS, .inr (6, [.int 0, .int 0, .int 0, .long 0, .ref s1, .ref s2, .ref s3, .ref s4])), (a0, .inr (8, [.ref aT, .ref aD, .ref aO, .ref aR, .ref aS, .ref aJ, .ref aC, .ref aI, .ref aK, .ref aL])), (aO, .inr (0, [.int 0, .int 0, .int 0, .int 0, .int 0, .int 0, .int 0, .int 0, .int 0, .int 0, .ref o1, .ref o2, .ref o3, .ref o4, .ref o5]))] := hD
  replace hq_1 : r_1 = 1 := hq_1
  subst hq_1
  refine lv_if_eq (tgt := 11) hx hb dX8_fewest_5 (by decide) (fun h9 => absurd h9 (by decide)) (fun _ => ?_)
  refine lv_bipush (v := (-2)) hx hb dX8_fewest_8 (by decide) ?_
  exact ret_i hx hb hr hlk hS (Nat.le_of_ble_eq_true rfl) (Nat.le_of_ble_eq_true rfl) () (rfl) (hP.sub [] rfl) (hD.sub [] (by decide) rfl) dX8_fewest_10

set_option maxHeartbeats 4000000 in
set_option maxRecDepth 100000 in
theorem k_X8_locks (l : Launch) (D : va_G) (cs : Nat → ClassId) (sz : Nat) (a0 : Nat) (k : Int32) (aT : Nat) (aD : Nat) (aO : Nat) (aR : Nat) (aS : Nat) (aJ : Nat) (aC : Nat) (aI : Nat) (aK : Nat) (aL : Nat) (o1 : Nat) (o2 : Nat) (o3 : Nat) (o4 : Nat) (o5 : Nat) (s1 : Nat) (s2 : Nat) (s3 : Nat) (s4 : Nat)  : Mi l D cs yX8_locks W_X8_locks 2 41 0 0 [.ref a0, .int k] [(a0, .inr (8, [.ref aT, .ref aD, .ref aO, .ref aR, .ref aS, .ref aJ, .ref aC, .ref aI, .ref aK, .ref aL])), (aO, .inr (0, [.int 0, .int 0, .int 0, .int 0, .int 0, .int 0, .int 0, .int 0, .int 0, .int 0, .ref o1, .ref o2, .ref o3, .ref o4, .ref o5])), (aS, .inr (6, [.int 0, .int 0, .int 0, .long 0, .ref s1, .ref s2, .ref s3, .ref s4]))] sz (fun (r : Int32) (u : Unit) => r = (-2)) (fun (u : Unit) => []) := by
  refine ent (D := D) (cs := cs) (y := yX8_locks) (ws := W_X8_locks) (As := [.ref a0, .int k]) (W0 := [(a0, .inr (8, [.ref aT, .ref aD, .ref aO, .ref aR, .ref aS, .ref aJ, .ref aC, .ref aI, .ref aK, .ref aL])), (aO, .inr (0, [.int 0, .int 0, .int 0, .int 0, .int 0, .int 0, .int 0, .int 0, .int 0, .int 0, .ref o1, .ref o2, .ref o3, .ref o4, .ref o5])), (aS, .inr (6, [.int 0, .int 0, .int 0, .long 0, .ref s1, .ref s2, .ref s3, .ref s4]))]) (Qx := fun A => va_Qi (fun (r : Int32) (u : Unit) => r = (-2)) (mpost D A (fun (u : Unit) => [])) A) (maxL := 2) (ret := (some .int)) (by decide) rfl (Nat.le_of_ble_eq_true rfl) ?_
  intro p e s m below meth c A ls hx hb hr hml hlk hown hts hin hK hE hP hD hA hS hl
  have hl : lv_has ls 2 [(0, .ref a0), (1, .int k)] := hl
  generalize hHe : s.heap = H at hP
  have hS : va_S A s.heap H [] := hHe ▸ hS
  have htw : ∀ w ∈ O_X8_locks, w.before ([.ref a0, .int k] : List Value).toArray s = true := fun w h => hts w (List.mem_cons_of_mem _ (List.mem_append_left _ h))
  have hFix := (⟨hx, hb, hml, hown, hts⟩ : CallFix p m c _ _ s _ _ _)
  refine lv_aload_n hx hb dX8_locks_0 rfl (lv_at hl 0 rfl) ?_
  refine lv_iload_n hx hb dX8_locks_1 rfl (lv_at hl 1 rfl) ?_
  refine aft_i (wr := [(aS, .inr (6, [.int 0, .int 0, .int 0, .long 0, .ref s1, .ref s2, .ref s3, .ref s4]))]) hP hD hS hA [0, 1] [2] rfl rfl (by decide) (by decide) (run_v (As := [.int k]) (rest := []) hFix hK hE hP hD [0, 1] (k_X8_noDepth l D cs _ a0 k aT aD aO aR aS aJ aC aI aK aL o1 o2 o3 o4 o5) (cwV 1 hts gc_X8_locks_196_X8_noDepth rfl rfl rfl (by decide +kernel) ⟨Nat.le_of_ble_eq_true rfl, Nat.le_of_ble_eq_true rfl⟩) rfl (by decide) rfl rfl rfl hl.1 rfl (Nat.le_of_ble_eq_true rfl) dX8_locks_2 ⟨Nat.le_of_ble_eq_true rfl, Nat.le_of_ble_eq_true rfl⟩) (fun r_1 u_1 H locs hq_1 hP hD hS => ?_)
  have hP : va_P D vwCl [(aS, .inr (6, [.int 0, .int 0, .int 0, .long 0, .ref s1, .ref s2, .ref s3, .ref s4])), (a0, .inr (8, [.ref aT, .ref aD, .ref aO, .ref aR, .ref aS, .ref aJ, .ref aC, .ref aI, .ref aK, .ref aL])), (aO, .inr (0, [.int 0, .int 0, .int 0, .int 0, .int 0, .int 0, .int 0, .int 0, .int 0, .int 0, .ref o1, .ref o2, .ref o3, .ref o4, .ref o5]))] H := hP
  have hD : va_D A [(aS, .inr (6, [.int 0, .int 0, .int 0, .long 0, .ref s1, .ref s2, .ref s3, .ref s4])), (a0, .inr (8, [.ref aT, .ref aD, .ref aO, .ref aR, .ref aS, .ref aJ, .ref aC, .ref aI, .ref aK, .ref aL])), (aO, .inr (0, [.int 0, .int 0, .int 0, .int 0, .int 0, .int 0, .int 0, .int 0, .int 0, .int 0, .ref o1, .ref o2, .ref o3, .ref o4, .ref o5]))] := hD
  replace hq_1 : r_1 = 1 := hq_1
  subst hq_1
  refine lv_if_eq (tgt := 13) hx hb dX8_locks_5 (by decide) (fun h9 => absurd h9 (by decide)) (fun _ => ?_)
  refine lv_bipush (v := (-2)) hx hb dX8_locks_8 (by decide) ?_
  refine lv_goto (tgt := 21) hx hb dX8_locks_10 (by decide) ?_
  exact ret_i hx hb hr hlk hS (Nat.le_of_ble_eq_true rfl) (Nat.le_of_ble_eq_true rfl) () (rfl) (hP.sub [] rfl) (hD.sub [] (by decide) rfl) dX8_locks_21

set_option maxHeartbeats 4000000 in
set_option maxRecDepth 100000 in
theorem k_X8_needed (l : Launch) (D : va_G) (cs : Nat → ClassId) (sz : Nat) (a0 : Nat) (k : Int32) (aT : Nat) (aD : Nat) (aO : Nat) (aR : Nat) (aS : Nat) (aJ : Nat) (aC : Nat) (aI : Nat) (aK : Nat) (aL : Nat) (o1 : Nat) (o2 : Nat) (o3 : Nat) (o4 : Nat) (o5 : Nat) (s1 : Nat) (s2 : Nat) (s3 : Nat) (s4 : Nat)  : Mi l D cs yX8_needed W_X8_needed 2 41 0 0 [.ref a0, .int k] [(a0, .inr (8, [.ref aT, .ref aD, .ref aO, .ref aR, .ref aS, .ref aJ, .ref aC, .ref aI, .ref aK, .ref aL])), (aO, .inr (0, [.int 0, .int 0, .int 0, .int 0, .int 0, .int 0, .int 0, .int 0, .int 0, .int 0, .ref o1, .ref o2, .ref o3, .ref o4, .ref o5])), (aS, .inr (6, [.int 0, .int 0, .int 0, .long 0, .ref s1, .ref s2, .ref s3, .ref s4]))] sz (fun (r : Int32) (u : Unit) => r = (-2)) (fun (u : Unit) => []) := by
  refine ent (D := D) (cs := cs) (y := yX8_needed) (ws := W_X8_needed) (As := [.ref a0, .int k]) (W0 := [(a0, .inr (8, [.ref aT, .ref aD, .ref aO, .ref aR, .ref aS, .ref aJ, .ref aC, .ref aI, .ref aK, .ref aL])), (aO, .inr (0, [.int 0, .int 0, .int 0, .int 0, .int 0, .int 0, .int 0, .int 0, .int 0, .int 0, .ref o1, .ref o2, .ref o3, .ref o4, .ref o5])), (aS, .inr (6, [.int 0, .int 0, .int 0, .long 0, .ref s1, .ref s2, .ref s3, .ref s4]))]) (Qx := fun A => va_Qi (fun (r : Int32) (u : Unit) => r = (-2)) (mpost D A (fun (u : Unit) => [])) A) (maxL := 2) (ret := (some .int)) (by decide) rfl (Nat.le_of_ble_eq_true rfl) ?_
  intro p e s m below meth c A ls hx hb hr hml hlk hown hts hin hK hE hP hD hA hS hl
  have hl : lv_has ls 2 [(0, .ref a0), (1, .int k)] := hl
  generalize hHe : s.heap = H at hP
  have hS : va_S A s.heap H [] := hHe ▸ hS
  have htw : ∀ w ∈ O_X8_needed, w.before ([.ref a0, .int k] : List Value).toArray s = true := fun w h => hts w (List.mem_cons_of_mem _ (List.mem_append_left _ h))
  have hFix := (⟨hx, hb, hml, hown, hts⟩ : CallFix p m c _ _ s _ _ _)
  refine lv_aload_n hx hb dX8_needed_0 rfl (lv_at hl 0 rfl) ?_
  refine lv_iload_n hx hb dX8_needed_1 rfl (lv_at hl 1 rfl) ?_
  refine aft_i (wr := [(aS, .inr (6, [.int 0, .int 0, .int 0, .long 0, .ref s1, .ref s2, .ref s3, .ref s4]))]) hP hD hS hA [0, 1] [2] rfl rfl (by decide) (by decide) (run_v (As := [.int k]) (rest := []) hFix hK hE hP hD [0, 1] (k_X8_noDepth l D cs _ a0 k aT aD aO aR aS aJ aC aI aK aL o1 o2 o3 o4 o5) (cwV 1 hts gc_X8_needed_196_X8_noDepth rfl rfl rfl (by decide +kernel) ⟨Nat.le_of_ble_eq_true rfl, Nat.le_of_ble_eq_true rfl⟩) rfl (by decide) rfl rfl rfl hl.1 rfl (Nat.le_of_ble_eq_true rfl) dX8_needed_2 ⟨Nat.le_of_ble_eq_true rfl, Nat.le_of_ble_eq_true rfl⟩) (fun r_1 u_1 H locs hq_1 hP hD hS => ?_)
  have hP : va_P D vwCl [(aS, .inr (6, [.int 0, .int 0, .int 0, .long 0, .ref s1, .ref s2, .ref s3, .ref s4])), (a0, .inr (8, [.ref aT, .ref aD, .ref aO, .ref aR, .ref aS, .ref aJ, .ref aC, .ref aI, .ref aK, .ref aL])), (aO, .inr (0, [.int 0, .int 0, .int 0, .int 0, .int 0, .int 0, .int 0, .int 0, .int 0, .int 0, .ref o1, .ref o2, .ref o3, .ref o4, .ref o5]))] H := hP
  have hD : va_D A [(aS, .inr (6, [.int 0, .int 0, .int 0, .long 0, .ref s1, .ref s2, .ref s3, .ref s4])), (a0, .inr (8, [.ref aT, .ref aD, .ref aO, .ref aR, .ref aS, .ref aJ, .ref aC, .ref aI, .ref aK, .ref aL])), (aO, .inr (0, [.int 0, .int 0, .int 0, .int 0, .int 0, .int 0, .int 0, .int 0, .int 0, .int 0, .ref o1, .ref o2, .ref o3, .ref o4, .ref o5]))] := hD
  replace hq_1 : r_1 = 1 := hq_1
  subst hq_1
  refine lv_if_eq (tgt := 13) hx hb dX8_needed_5 (by decide) (fun h9 => absurd h9 (by decide)) (fun _ => ?_)
  refine lv_bipush (v := (-2)) hx hb dX8_needed_8 (by decide) ?_
  refine lv_goto (tgt := 21) hx hb dX8_needed_10 (by decide) ?_
  exact ret_i hx hb hr hlk hS (Nat.le_of_ble_eq_true rfl) (Nat.le_of_ble_eq_true rfl) () (rfl) (hP.sub [] rfl) (hD.sub [] (by decide) rfl) dX8_needed_21

set_option maxHeartbeats 4000000 in
set_option maxRecDepth 100000 in
theorem k_X8_blame (l : Launch) (D : va_G) (cs : Nat → ClassId) (sz : Nat) (a0 : Nat) (aT : Nat) (aD : Nat) (aO : Nat) (aR : Nat) (aS : Nat) (aJ : Nat) (aC : Nat) (aI : Nat) (aK : Nat) (aL : Nat) (o1 : Nat) (o2 : Nat) (o3 : Nat) (o4 : Nat) (o5 : Nat) (s1 : Nat) (s2 : Nat) (s3 : Nat) (s4 : Nat)  : Mi l D cs yX8_blame W_X8_blame 1 20 0 0 [.ref a0] [(a0, .inr (8, [.ref aT, .ref aD, .ref aO, .ref aR, .ref aS, .ref aJ, .ref aC, .ref aI, .ref aK, .ref aL])), (aO, .inr (0, [.int 0, .int 0, .int 0, .int 0, .int 0, .int 0, .int 0, .int 0, .int 0, .int 0, .ref o1, .ref o2, .ref o3, .ref o4, .ref o5])), (aS, .inr (6, [.int 0, .int 0, .int 0, .long 0, .ref s1, .ref s2, .ref s3, .ref s4]))] sz (fun (r : Int32) (u : Unit) => r = (-2)) (fun (u : Unit) => []) := by
  refine ent (D := D) (cs := cs) (y := yX8_blame) (ws := W_X8_blame) (As := [.ref a0]) (W0 := [(a0, .inr (8, [.ref aT, .ref aD, .ref aO, .ref aR, .ref aS, .ref aJ, .ref aC, .ref aI, .ref aK, .ref aL])), (aO, .inr (0, [.int 0, .int 0, .int 0, .int 0, .int 0, .int 0, .int 0, .int 0, .int 0, .int 0, .ref o1, .ref o2, .ref o3, .ref o4, .ref o5])), (aS, .inr (6, [.int 0, .int 0, .int 0, .long 0, .ref s1, .ref s2, .ref s3, .ref s4]))]) (Qx := fun A => va_Qi (fun (r : Int32) (u : Unit) => r = (-2)) (mpost D A (fun (u : Unit) => [])) A) (maxL := 5) (ret := (some .int)) (by decide) rfl (Nat.le_of_ble_eq_true rfl) ?_
  intro p e s m below meth c A ls hx hb hr hml hlk hown hts hin hK hE hP hD hA hS hl
  have hl : lv_has ls 5 [(0, .ref a0)] := hl
  generalize hHe : s.heap = H at hP
  have hS : va_S A s.heap H [] := hHe ▸ hS
  have htw : ∀ w ∈ O_X8_blame, w.before ([.ref a0] : List Value).toArray s = true := fun w h => hts w (List.mem_cons_of_mem _ (List.mem_append_left _ h))
  have hFix := (⟨hx, hb, hml, hown, hts⟩ : CallFix p m c _ _ s _ _ _)
  refine lv_aload_n hx hb dX8_blame_0 rfl (lv_at hl 0 rfl) ?_
  refine aft_i (wr := [(aS, .inr (6, [.int 0, .int 0, .int 0, .long 0, .ref s1, .ref s2, .ref s3, .ref s4]))]) hP hD hS hA [0, 1] [2] rfl rfl (by decide) (by decide) (run_v (As := []) (rest := []) hFix hK hE hP hD [0, 1] (k_X8_isTold l D cs _ a0 aT aD aO aR aS aJ aC aI aK aL o1 o2 o3 o4 o5) (cwV 0 hts gc_X8_blame_120_X8_isTold rfl rfl rfl (by decide +kernel) ⟨Nat.le_of_ble_eq_true rfl, Nat.le_of_ble_eq_true rfl⟩) rfl (by decide) rfl rfl rfl hl.1 rfl (Nat.le_of_ble_eq_true rfl) dX8_blame_1 ⟨Nat.le_of_ble_eq_true rfl, Nat.le_of_ble_eq_true rfl⟩) (fun r_1 u_1 H locs hq_1 hP hD hS => ?_)
  have hP : va_P D vwCl [(aS, .inr (6, [.int 0, .int 0, .int 0, .long 0, .ref s1, .ref s2, .ref s3, .ref s4])), (a0, .inr (8, [.ref aT, .ref aD, .ref aO, .ref aR, .ref aS, .ref aJ, .ref aC, .ref aI, .ref aK, .ref aL])), (aO, .inr (0, [.int 0, .int 0, .int 0, .int 0, .int 0, .int 0, .int 0, .int 0, .int 0, .int 0, .ref o1, .ref o2, .ref o3, .ref o4, .ref o5]))] H := hP
  have hD : va_D A [(aS, .inr (6, [.int 0, .int 0, .int 0, .long 0, .ref s1, .ref s2, .ref s3, .ref s4])), (a0, .inr (8, [.ref aT, .ref aD, .ref aO, .ref aR, .ref aS, .ref aJ, .ref aC, .ref aI, .ref aK, .ref aL])), (aO, .inr (0, [.int 0, .int 0, .int 0, .int 0, .int 0, .int 0, .int 0, .int 0, .int 0, .int 0, .ref o1, .ref o2, .ref o3, .ref o4, .ref o5]))] := hD
  replace hq_1 : r_1 = 0 := hq_1
  subst hq_1
  refine lv_if_ne (tgt := 10) hx hb dX8_blame_4 (by decide) (fun h9 => absurd h9 (by decide)) (fun _ => ?_)
  refine lv_bipush (v := (-2)) hx hb dX8_blame_7 (by decide) ?_
  exact ret_i hx hb hr hlk hS (Nat.le_of_ble_eq_true rfl) (Nat.le_of_ble_eq_true rfl) () (rfl) (hP.sub [] rfl) (hD.sub [] (by decide) rfl) dX8_blame_9

set_option maxHeartbeats 4000000 in
set_option maxRecDepth 100000 in
theorem k_X8_cure (l : Launch) (D : va_G) (cs : Nat → ClassId) (sz : Nat) (a0 : Nat) (aT : Nat) (aD : Nat) (aO : Nat) (aR : Nat) (aS : Nat) (aJ : Nat) (aC : Nat) (aI : Nat) (aK : Nat) (aL : Nat) (o1 : Nat) (o2 : Nat) (o3 : Nat) (o4 : Nat) (o5 : Nat) (s1 : Nat) (s2 : Nat) (s3 : Nat) (s4 : Nat)  : Mi l D cs yX8_cure W_X8_cure 1 20 0 0 [.ref a0] [(a0, .inr (8, [.ref aT, .ref aD, .ref aO, .ref aR, .ref aS, .ref aJ, .ref aC, .ref aI, .ref aK, .ref aL])), (aO, .inr (0, [.int 0, .int 0, .int 0, .int 0, .int 0, .int 0, .int 0, .int 0, .int 0, .int 0, .ref o1, .ref o2, .ref o3, .ref o4, .ref o5])), (aS, .inr (6, [.int 0, .int 0, .int 0, .long 0, .ref s1, .ref s2, .ref s3, .ref s4]))] sz (fun (r : Int32) (u : Unit) => r = (-2)) (fun (u : Unit) => []) := by
  refine ent (D := D) (cs := cs) (y := yX8_cure) (ws := W_X8_cure) (As := [.ref a0]) (W0 := [(a0, .inr (8, [.ref aT, .ref aD, .ref aO, .ref aR, .ref aS, .ref aJ, .ref aC, .ref aI, .ref aK, .ref aL])), (aO, .inr (0, [.int 0, .int 0, .int 0, .int 0, .int 0, .int 0, .int 0, .int 0, .int 0, .int 0, .ref o1, .ref o2, .ref o3, .ref o4, .ref o5])), (aS, .inr (6, [.int 0, .int 0, .int 0, .long 0, .ref s1, .ref s2, .ref s3, .ref s4]))]) (Qx := fun A => va_Qi (fun (r : Int32) (u : Unit) => r = (-2)) (mpost D A (fun (u : Unit) => [])) A) (maxL := 6) (ret := (some .int)) (by decide) rfl (Nat.le_of_ble_eq_true rfl) ?_
  intro p e s m below meth c A ls hx hb hr hml hlk hown hts hin hK hE hP hD hA hS hl
  have hl : lv_has ls 6 [(0, .ref a0)] := hl
  generalize hHe : s.heap = H at hP
  have hS : va_S A s.heap H [] := hHe ▸ hS
  have htw : ∀ w ∈ O_X8_cure, w.before ([.ref a0] : List Value).toArray s = true := fun w h => hts w (List.mem_cons_of_mem _ (List.mem_append_left _ h))
  have hFix := (⟨hx, hb, hml, hown, hts⟩ : CallFix p m c _ _ s _ _ _)
  refine lv_aload_n hx hb dX8_cure_0 rfl (lv_at hl 0 rfl) ?_
  refine aft_i (wr := [(aS, .inr (6, [.int 0, .int 0, .int 0, .long 0, .ref s1, .ref s2, .ref s3, .ref s4]))]) hP hD hS hA [0, 1] [2] rfl rfl (by decide) (by decide) (run_v (As := []) (rest := []) hFix hK hE hP hD [0, 1] (k_X8_isTold l D cs _ a0 aT aD aO aR aS aJ aC aI aK aL o1 o2 o3 o4 o5) (cwV 0 hts gc_X8_cure_120_X8_isTold rfl rfl rfl (by decide +kernel) ⟨Nat.le_of_ble_eq_true rfl, Nat.le_of_ble_eq_true rfl⟩) rfl (by decide) rfl rfl rfl hl.1 rfl (Nat.le_of_ble_eq_true rfl) dX8_cure_1 ⟨Nat.le_of_ble_eq_true rfl, Nat.le_of_ble_eq_true rfl⟩) (fun r_1 u_1 H locs hq_1 hP hD hS => ?_)
  have hP : va_P D vwCl [(aS, .inr (6, [.int 0, .int 0, .int 0, .long 0, .ref s1, .ref s2, .ref s3, .ref s4])), (a0, .inr (8, [.ref aT, .ref aD, .ref aO, .ref aR, .ref aS, .ref aJ, .ref aC, .ref aI, .ref aK, .ref aL])), (aO, .inr (0, [.int 0, .int 0, .int 0, .int 0, .int 0, .int 0, .int 0, .int 0, .int 0, .int 0, .ref o1, .ref o2, .ref o3, .ref o4, .ref o5]))] H := hP
  have hD : va_D A [(aS, .inr (6, [.int 0, .int 0, .int 0, .long 0, .ref s1, .ref s2, .ref s3, .ref s4])), (a0, .inr (8, [.ref aT, .ref aD, .ref aO, .ref aR, .ref aS, .ref aJ, .ref aC, .ref aI, .ref aK, .ref aL])), (aO, .inr (0, [.int 0, .int 0, .int 0, .int 0, .int 0, .int 0, .int 0, .int 0, .int 0, .int 0, .ref o1, .ref o2, .ref o3, .ref o4, .ref o5]))] := hD
  replace hq_1 : r_1 = 0 := hq_1
  subst hq_1
  refine lv_if_ne (tgt := 10) hx hb dX8_cure_4 (by decide) (fun h9 => absurd h9 (by decide)) (fun _ => ?_)
  refine lv_bipush (v := (-2)) hx hb dX8_cure_7 (by decide) ?_
  exact ret_i hx hb hr hlk hS (Nat.le_of_ble_eq_true rfl) (Nat.le_of_ble_eq_true rfl) () (rfl) (hP.sub [] rfl) (hD.sub [] (by decide) rfl) dX8_cure_9

set_option maxHeartbeats 4000000 in
set_option maxRecDepth 100000 in
theorem k_X8_fits (l : Launch) (D : va_G) (cs : Nat → ClassId) (sz : Nat) (a0 : Nat) (k : Int32) (aT : Nat) (aD : Nat) (aO : Nat) (aR : Nat) (aS : Nat) (aJ : Nat) (aC : Nat) (aI : Nat) (aK : Nat) (aL : Nat) (o1 : Nat) (o2 : Nat) (o3 : Nat) (o4 : Nat) (o5 : Nat) (s1 : Nat) (s2 : Nat) (s3 : Nat) (s4 : Nat)  : Mi l D cs yX8_fits W_X8_fits 2 43 0 0 [.ref a0, .int k] [(a0, .inr (8, [.ref aT, .ref aD, .ref aO, .ref aR, .ref aS, .ref aJ, .ref aC, .ref aI, .ref aK, .ref aL])), (aO, .inr (0, [.int 0, .int 0, .int 0, .int 0, .int 0, .int 0, .int 0, .int 0, .int 0, .int 0, .ref o1, .ref o2, .ref o3, .ref o4, .ref o5])), (aS, .inr (6, [.int 0, .int 0, .int 0, .long 0, .ref s1, .ref s2, .ref s3, .ref s4]))] sz (fun (r : Int32) (u : Unit) => r = (-2)) (fun (u : Unit) => []) := by
  refine ent (D := D) (cs := cs) (y := yX8_fits) (ws := W_X8_fits) (As := [.ref a0, .int k]) (W0 := [(a0, .inr (8, [.ref aT, .ref aD, .ref aO, .ref aR, .ref aS, .ref aJ, .ref aC, .ref aI, .ref aK, .ref aL])), (aO, .inr (0, [.int 0, .int 0, .int 0, .int 0, .int 0, .int 0, .int 0, .int 0, .int 0, .int 0, .ref o1, .ref o2, .ref o3, .ref o4, .ref o5])), (aS, .inr (6, [.int 0, .int 0, .int 0, .long 0, .ref s1, .ref s2, .ref s3, .ref s4]))]) (Qx := fun A => va_Qi (fun (r : Int32) (u : Unit) => r = (-2)) (mpost D A (fun (u : Unit) => [])) A) (maxL := 3) (ret := (some .int)) (by decide) rfl (Nat.le_of_ble_eq_true rfl) ?_
  intro p e s m below meth c A ls hx hb hr hml hlk hown hts hin hK hE hP hD hA hS hl
  have hl : lv_has ls 3 [(0, .ref a0), (1, .int k)] := hl
  generalize hHe : s.heap = H at hP
  have hS : va_S A s.heap H [] := hHe ▸ hS
  have htw : ∀ w ∈ O_X8_fits, w.before ([.ref a0, .int k] : List Value).toArray s = true := fun w h => hts w (List.mem_cons_of_mem _ (List.mem_append_left _ h))
  have hFix := (⟨hx, hb, hml, hown, hts⟩ : CallFix p m c _ _ s _ _ _)
  refine lv_aload_n hx hb dX8_fits_0 rfl (lv_at hl 0 rfl) ?_
  refine lv_iload_n hx hb dX8_fits_1 rfl (lv_at hl 1 rfl) ?_
  refine aft_i (wr := [(aS, .inr (6, [.int 0, .int 0, .int 0, .long 0, .ref s1, .ref s2, .ref s3, .ref s4]))]) hP hD hS hA [0, 1] [2] rfl rfl (by decide) (by decide) (run_v (As := [.int k]) (rest := []) hFix hK hE hP hD [0, 1] (k_X8_refusalOfRow l D cs _ a0 k aT aD aO aR aS aJ aC aI aK aL o1 o2 o3 o4 o5) (cwV 1 hts gc_X8_fits_254_X8_refusalOfRow rfl rfl rfl (by decide +kernel) ⟨Nat.le_of_ble_eq_true rfl, Nat.le_of_ble_eq_true rfl⟩) rfl (by decide) rfl rfl rfl hl.1 rfl (Nat.le_of_ble_eq_true rfl) dX8_fits_2 ⟨Nat.le_of_ble_eq_true rfl, Nat.le_of_ble_eq_true rfl⟩) (fun r_1 u_1 H locs hq_1 hP hD hS => ?_)
  have hP : va_P D vwCl [(aS, .inr (6, [.int 0, .int 0, .int 0, .long 0, .ref s1, .ref s2, .ref s3, .ref s4])), (a0, .inr (8, [.ref aT, .ref aD, .ref aO, .ref aR, .ref aS, .ref aJ, .ref aC, .ref aI, .ref aK, .ref aL])), (aO, .inr (0, [.int 0, .int 0, .int 0, .int 0, .int 0, .int 0, .int 0, .int 0, .int 0, .int 0, .ref o1, .ref o2, .ref o3, .ref o4, .ref o5]))] H := hP
  have hD : va_D A [(aS, .inr (6, [.int 0, .int 0, .int 0, .long 0, .ref s1, .ref s2, .ref s3, .ref s4])), (a0, .inr (8, [.ref aT, .ref aD, .ref aO, .ref aR, .ref aS, .ref aJ, .ref aC, .ref aI, .ref aK, .ref aL])), (aO, .inr (0, [.int 0, .int 0, .int 0, .int 0, .int 0, .int 0, .int 0, .int 0, .int 0, .int 0, .ref o1, .ref o2, .ref o3, .ref o4, .ref o5]))] := hD
  replace hq_1 : r_1 = (-2) := hq_1
  subst hq_1
  refine lv_istore_n (lv' := [(2, .int (-2)), (0, .ref a0), (1, .int k)]) hx hb dX8_fits_5 rfl hl (by decide) rfl (fun ls hl => ?_)
  refine lv_iload_n hx hb dX8_fits_6 rfl (lv_at hl 0 rfl) ?_
  refine lv_if_eq (tgt := 14) hx hb dX8_fits_7 (by decide) (fun h9 => absurd h9 (by decide)) (fun _ => ?_)
  refine lv_iload_n hx hb dX8_fits_10 rfl (lv_at hl 0 rfl) ?_
  refine lv_goto (tgt := 37) hx hb dX8_fits_11 (by decide) ?_
  exact ret_i hx hb hr hlk hS (Nat.le_of_ble_eq_true rfl) (Nat.le_of_ble_eq_true rfl) () (rfl) (hP.sub [] rfl) (hD.sub [] (by decide) rfl) dX8_fits_37

set_option maxHeartbeats 4000000 in
set_option maxRecDepth 100000 in
theorem k_X8_which (l : Launch) (D : va_G) (cs : Nat → ClassId) (sz : Nat) (a0 : Nat) (k : Int32) (aT : Nat) (aD : Nat) (aO : Nat) (aR : Nat) (aS : Nat) (aJ : Nat) (aC : Nat) (aI : Nat) (aK : Nat) (aL : Nat) (o1 : Nat) (o2 : Nat) (o3 : Nat) (o4 : Nat) (o5 : Nat) (s1 : Nat) (s2 : Nat) (s3 : Nat) (s4 : Nat)  : Mi l D cs yX8_which W_X8_which 2 43 0 0 [.ref a0, .int k] [(a0, .inr (8, [.ref aT, .ref aD, .ref aO, .ref aR, .ref aS, .ref aJ, .ref aC, .ref aI, .ref aK, .ref aL])), (aO, .inr (0, [.int 0, .int 0, .int 0, .int 0, .int 0, .int 0, .int 0, .int 0, .int 0, .int 0, .ref o1, .ref o2, .ref o3, .ref o4, .ref o5])), (aS, .inr (6, [.int 0, .int 0, .int 0, .long 0, .ref s1, .ref s2, .ref s3, .ref s4]))] sz (fun (r : Int32) (u : Unit) => r = (-2)) (fun (u : Unit) => []) := by
  refine ent (D := D) (cs := cs) (y := yX8_which) (ws := W_X8_which) (As := [.ref a0, .int k]) (W0 := [(a0, .inr (8, [.ref aT, .ref aD, .ref aO, .ref aR, .ref aS, .ref aJ, .ref aC, .ref aI, .ref aK, .ref aL])), (aO, .inr (0, [.int 0, .int 0, .int 0, .int 0, .int 0, .int 0, .int 0, .int 0, .int 0, .int 0, .ref o1, .ref o2, .ref o3, .ref o4, .ref o5])), (aS, .inr (6, [.int 0, .int 0, .int 0, .long 0, .ref s1, .ref s2, .ref s3, .ref s4]))]) (Qx := fun A => va_Qi (fun (r : Int32) (u : Unit) => r = (-2)) (mpost D A (fun (u : Unit) => [])) A) (maxL := 6) (ret := (some .int)) (by decide) rfl (Nat.le_of_ble_eq_true rfl) ?_
  intro p e s m below meth c A ls hx hb hr hml hlk hown hts hin hK hE hP hD hA hS hl
  have hl : lv_has ls 6 [(0, .ref a0), (1, .int k)] := hl
  generalize hHe : s.heap = H at hP
  have hS : va_S A s.heap H [] := hHe ▸ hS
  have htw : ∀ w ∈ O_X8_which, w.before ([.ref a0, .int k] : List Value).toArray s = true := fun w h => hts w (List.mem_cons_of_mem _ (List.mem_append_left _ h))
  have hFix := (⟨hx, hb, hml, hown, hts⟩ : CallFix p m c _ _ s _ _ _)
  refine lv_aload_n hx hb dX8_which_0 rfl (lv_at hl 0 rfl) ?_
  refine lv_iload_n hx hb dX8_which_1 rfl (lv_at hl 1 rfl) ?_
  refine aft_i (wr := [(aS, .inr (6, [.int 0, .int 0, .int 0, .long 0, .ref s1, .ref s2, .ref s3, .ref s4]))]) hP hD hS hA [0, 1] [2] rfl rfl (by decide) (by decide) (run_v (As := [.int k]) (rest := []) hFix hK hE hP hD [0, 1] (k_X8_refusalOfRow l D cs _ a0 k aT aD aO aR aS aJ aC aI aK aL o1 o2 o3 o4 o5) (cwV 1 hts gc_X8_which_254_X8_refusalOfRow rfl rfl rfl (by decide +kernel) ⟨Nat.le_of_ble_eq_true rfl, Nat.le_of_ble_eq_true rfl⟩) rfl (by decide) rfl rfl rfl hl.1 rfl (Nat.le_of_ble_eq_true rfl) dX8_which_2 ⟨Nat.le_of_ble_eq_true rfl, Nat.le_of_ble_eq_true rfl⟩) (fun r_1 u_1 H locs hq_1 hP hD hS => ?_)
  have hP : va_P D vwCl [(aS, .inr (6, [.int 0, .int 0, .int 0, .long 0, .ref s1, .ref s2, .ref s3, .ref s4])), (a0, .inr (8, [.ref aT, .ref aD, .ref aO, .ref aR, .ref aS, .ref aJ, .ref aC, .ref aI, .ref aK, .ref aL])), (aO, .inr (0, [.int 0, .int 0, .int 0, .int 0, .int 0, .int 0, .int 0, .int 0, .int 0, .int 0, .ref o1, .ref o2, .ref o3, .ref o4, .ref o5]))] H := hP
  have hD : va_D A [(aS, .inr (6, [.int 0, .int 0, .int 0, .long 0, .ref s1, .ref s2, .ref s3, .ref s4])), (a0, .inr (8, [.ref aT, .ref aD, .ref aO, .ref aR, .ref aS, .ref aJ, .ref aC, .ref aI, .ref aK, .ref aL])), (aO, .inr (0, [.int 0, .int 0, .int 0, .int 0, .int 0, .int 0, .int 0, .int 0, .int 0, .int 0, .ref o1, .ref o2, .ref o3, .ref o4, .ref o5]))] := hD
  replace hq_1 : r_1 = (-2) := hq_1
  subst hq_1
  refine lv_istore_n (lv' := [(2, .int (-2)), (0, .ref a0), (1, .int k)]) hx hb dX8_which_5 rfl hl (by decide) rfl (fun ls hl => ?_)
  refine lv_iload_n hx hb dX8_which_6 rfl (lv_at hl 0 rfl) ?_
  refine lv_if_eq (tgt := 12) hx hb dX8_which_7 (by decide) (fun h9 => absurd h9 (by decide)) (fun _ => ?_)
  refine lv_iload_n hx hb dX8_which_10 rfl (lv_at hl 0 rfl) ?_
  exact ret_i hx hb hr hlk hS (Nat.le_of_ble_eq_true rfl) (Nat.le_of_ble_eq_true rfl) () (rfl) (hP.sub [] rfl) (hD.sub [] (by decide) rfl) dX8_which_11

set_option maxHeartbeats 4000000 in
set_option maxRecDepth 100000 in
theorem k_X8_laws (l : Launch) (D : va_G) (cs : Nat → ClassId) (sz : Nat) (a0 : Nat) (k : Int32) (aT : Nat) (aD : Nat) (aO : Nat) (aR : Nat) (aS : Nat) (aJ : Nat) (aC : Nat) (aI : Nat) (aK : Nat) (aL : Nat) (o1 : Nat) (o2 : Nat) (o3 : Nat) (o4 : Nat) (o5 : Nat) (s1 : Nat) (s2 : Nat) (s3 : Nat) (s4 : Nat)  : Mi l D cs yX8_laws W_X8_laws 2 43 0 0 [.ref a0, .int k] [(a0, .inr (8, [.ref aT, .ref aD, .ref aO, .ref aR, .ref aS, .ref aJ, .ref aC, .ref aI, .ref aK, .ref aL])), (aO, .inr (0, [.int 0, .int 0, .int 0, .int 0, .int 0, .int 0, .int 0, .int 0, .int 0, .int 0, .ref o1, .ref o2, .ref o3, .ref o4, .ref o5])), (aS, .inr (6, [.int 0, .int 0, .int 0, .long 0, .ref s1, .ref s2, .ref s3, .ref s4]))] sz (fun (r : Int32) (u : Unit) => r = (-2)) (fun (u : Unit) => []) := by
  refine ent (D := D) (cs := cs) (y := yX8_laws) (ws := W_X8_laws) (As := [.ref a0, .int k]) (W0 := [(a0, .inr (8, [.ref aT, .ref aD, .ref aO, .ref aR, .ref aS, .ref aJ, .ref aC, .ref aI, .ref aK, .ref aL])), (aO, .inr (0, [.int 0, .int 0, .int 0, .int 0, .int 0, .int 0, .int 0, .int 0, .int 0, .int 0, .ref o1, .ref o2, .ref o3, .ref o4, .ref o5])), (aS, .inr (6, [.int 0, .int 0, .int 0, .long 0, .ref s1, .ref s2, .ref s3, .ref s4]))]) (Qx := fun A => va_Qi (fun (r : Int32) (u : Unit) => r = (-2)) (mpost D A (fun (u : Unit) => [])) A) (maxL := 5) (ret := (some .int)) (by decide) rfl (Nat.le_of_ble_eq_true rfl) ?_
  intro p e s m below meth c A ls hx hb hr hml hlk hown hts hin hK hE hP hD hA hS hl
  have hl : lv_has ls 5 [(0, .ref a0), (1, .int k)] := hl
  generalize hHe : s.heap = H at hP
  have hS : va_S A s.heap H [] := hHe ▸ hS
  have htw : ∀ w ∈ O_X8_laws, w.before ([.ref a0, .int k] : List Value).toArray s = true := fun w h => hts w (List.mem_cons_of_mem _ (List.mem_append_left _ h))
  have hFix := (⟨hx, hb, hml, hown, hts⟩ : CallFix p m c _ _ s _ _ _)
  refine lv_aload_n hx hb dX8_laws_0 rfl (lv_at hl 0 rfl) ?_
  refine lv_iload_n hx hb dX8_laws_1 rfl (lv_at hl 1 rfl) ?_
  refine aft_i (wr := [(aS, .inr (6, [.int 0, .int 0, .int 0, .long 0, .ref s1, .ref s2, .ref s3, .ref s4]))]) hP hD hS hA [0, 1] [2] rfl rfl (by decide) (by decide) (run_v (As := [.int k]) (rest := []) hFix hK hE hP hD [0, 1] (k_X8_refusalOfRow l D cs _ a0 k aT aD aO aR aS aJ aC aI aK aL o1 o2 o3 o4 o5) (cwV 1 hts gc_X8_laws_254_X8_refusalOfRow rfl rfl rfl (by decide +kernel) ⟨Nat.le_of_ble_eq_true rfl, Nat.le_of_ble_eq_true rfl⟩) rfl (by decide) rfl rfl rfl hl.1 rfl (Nat.le_of_ble_eq_true rfl) dX8_laws_2 ⟨Nat.le_of_ble_eq_true rfl, Nat.le_of_ble_eq_true rfl⟩) (fun r_1 u_1 H locs hq_1 hP hD hS => ?_)
  have hP : va_P D vwCl [(aS, .inr (6, [.int 0, .int 0, .int 0, .long 0, .ref s1, .ref s2, .ref s3, .ref s4])), (a0, .inr (8, [.ref aT, .ref aD, .ref aO, .ref aR, .ref aS, .ref aJ, .ref aC, .ref aI, .ref aK, .ref aL])), (aO, .inr (0, [.int 0, .int 0, .int 0, .int 0, .int 0, .int 0, .int 0, .int 0, .int 0, .int 0, .ref o1, .ref o2, .ref o3, .ref o4, .ref o5]))] H := hP
  have hD : va_D A [(aS, .inr (6, [.int 0, .int 0, .int 0, .long 0, .ref s1, .ref s2, .ref s3, .ref s4])), (a0, .inr (8, [.ref aT, .ref aD, .ref aO, .ref aR, .ref aS, .ref aJ, .ref aC, .ref aI, .ref aK, .ref aL])), (aO, .inr (0, [.int 0, .int 0, .int 0, .int 0, .int 0, .int 0, .int 0, .int 0, .int 0, .int 0, .ref o1, .ref o2, .ref o3, .ref o4, .ref o5]))] := hD
  replace hq_1 : r_1 = (-2) := hq_1
  subst hq_1
  refine lv_istore_n (lv' := [(2, .int (-2)), (0, .ref a0), (1, .int k)]) hx hb dX8_laws_5 rfl hl (by decide) rfl (fun ls hl => ?_)
  refine lv_iload_n hx hb dX8_laws_6 rfl (lv_at hl 0 rfl) ?_
  refine lv_if_eq (tgt := 12) hx hb dX8_laws_7 (by decide) (fun h9 => absurd h9 (by decide)) (fun _ => ?_)
  refine lv_iload_n hx hb dX8_laws_10 rfl (lv_at hl 0 rfl) ?_
  exact ret_i hx hb hr hlk hS (Nat.le_of_ble_eq_true rfl) (Nat.le_of_ble_eq_true rfl) () (rfl) (hP.sub [] rfl) (hD.sub [] (by decide) rfl) dX8_laws_11

set_option maxHeartbeats 4000000 in
set_option maxRecDepth 100000 in
theorem k_X8_by (l : Launch) (D : va_G) (cs : Nat → ClassId) (sz : Nat) (a0 : Nat) (k : Int32) (aT : Nat) (aD : Nat) (aO : Nat) (aR : Nat) (aS : Nat) (aJ : Nat) (aC : Nat) (aI : Nat) (aK : Nat) (aL : Nat) (o1 : Nat) (o2 : Nat) (o3 : Nat) (o4 : Nat) (o5 : Nat) (s1 : Nat) (s2 : Nat) (s3 : Nat) (s4 : Nat)  : Mi l D cs yX8_by W_X8_by 1 20 0 0 [.ref a0, .int k] [(a0, .inr (8, [.ref aT, .ref aD, .ref aO, .ref aR, .ref aS, .ref aJ, .ref aC, .ref aI, .ref aK, .ref aL])), (aO, .inr (0, [.int 0, .int 0, .int 0, .int 0, .int 0, .int 0, .int 0, .int 0, .int 0, .int 0, .ref o1, .ref o2, .ref o3, .ref o4, .ref o5])), (aS, .inr (6, [.int 0, .int 0, .int 0, .long 0, .ref s1, .ref s2, .ref s3, .ref s4]))] sz (fun (r : Int32) (u : Unit) => r = (-2)) (fun (u : Unit) => []) := by
  refine ent (D := D) (cs := cs) (y := yX8_by) (ws := W_X8_by) (As := [.ref a0, .int k]) (W0 := [(a0, .inr (8, [.ref aT, .ref aD, .ref aO, .ref aR, .ref aS, .ref aJ, .ref aC, .ref aI, .ref aK, .ref aL])), (aO, .inr (0, [.int 0, .int 0, .int 0, .int 0, .int 0, .int 0, .int 0, .int 0, .int 0, .int 0, .ref o1, .ref o2, .ref o3, .ref o4, .ref o5])), (aS, .inr (6, [.int 0, .int 0, .int 0, .long 0, .ref s1, .ref s2, .ref s3, .ref s4]))]) (Qx := fun A => va_Qi (fun (r : Int32) (u : Unit) => r = (-2)) (mpost D A (fun (u : Unit) => [])) A) (maxL := 2) (ret := (some .int)) (by decide) rfl (Nat.le_of_ble_eq_true rfl) ?_
  intro p e s m below meth c A ls hx hb hr hml hlk hown hts hin hK hE hP hD hA hS hl
  have hl : lv_has ls 2 [(0, .ref a0), (1, .int k)] := hl
  generalize hHe : s.heap = H at hP
  have hS : va_S A s.heap H [] := hHe ▸ hS
  have htw : ∀ w ∈ O_X8_by, w.before ([.ref a0, .int k] : List Value).toArray s = true := fun w h => hts w (List.mem_cons_of_mem _ (List.mem_append_left _ h))
  have hFix := (⟨hx, hb, hml, hown, hts⟩ : CallFix p m c _ _ s _ _ _)
  refine lv_aload_n hx hb dX8_by_0 rfl (lv_at hl 0 rfl) ?_
  refine aft_i (wr := [(aS, .inr (6, [.int 0, .int 0, .int 0, .long 0, .ref s1, .ref s2, .ref s3, .ref s4]))]) hP hD hS hA [0, 1] [2] rfl rfl (by decide) (by decide) (run_v (As := []) (rest := []) hFix hK hE hP hD [0, 1] (k_X8_isTold l D cs _ a0 aT aD aO aR aS aJ aC aI aK aL o1 o2 o3 o4 o5) (cwV 0 hts gc_X8_by_120_X8_isTold rfl rfl rfl (by decide +kernel) ⟨Nat.le_of_ble_eq_true rfl, Nat.le_of_ble_eq_true rfl⟩) rfl (by decide) rfl rfl rfl hl.1 rfl (Nat.le_of_ble_eq_true rfl) dX8_by_1 ⟨Nat.le_of_ble_eq_true rfl, Nat.le_of_ble_eq_true rfl⟩) (fun r_1 u_1 H locs hq_1 hP hD hS => ?_)
  have hP : va_P D vwCl [(aS, .inr (6, [.int 0, .int 0, .int 0, .long 0, .ref s1, .ref s2, .ref s3, .ref s4])), (a0, .inr (8, [.ref aT, .ref aD, .ref aO, .ref aR, .ref aS, .ref aJ, .ref aC, .ref aI, .ref aK, .ref aL])), (aO, .inr (0, [.int 0, .int 0, .int 0, .int 0, .int 0, .int 0, .int 0, .int 0, .int 0, .int 0, .ref o1, .ref o2, .ref o3, .ref o4, .ref o5]))] H := hP
  have hD : va_D A [(aS, .inr (6, [.int 0, .int 0, .int 0, .long 0, .ref s1, .ref s2, .ref s3, .ref s4])), (a0, .inr (8, [.ref aT, .ref aD, .ref aO, .ref aR, .ref aS, .ref aJ, .ref aC, .ref aI, .ref aK, .ref aL])), (aO, .inr (0, [.int 0, .int 0, .int 0, .int 0, .int 0, .int 0, .int 0, .int 0, .int 0, .int 0, .ref o1, .ref o2, .ref o3, .ref o4, .ref o5]))] := hD
  replace hq_1 : r_1 = 0 := hq_1
  subst hq_1
  refine lv_if_eq (tgt := 16) hx hb dX8_by_4 (by decide) (fun _ => ?_) (fun h9 => absurd h9 (by decide))
  refine lv_bipush (v := (-2)) hx hb dX8_by_16 (by decide) ?_
  refine lv_goto (tgt := 29) hx hb dX8_by_18 (by decide) ?_
  exact ret_i hx hb hr hlk hS (Nat.le_of_ble_eq_true rfl) (Nat.le_of_ble_eq_true rfl) () (rfl) (hP.sub [] rfl) (hD.sub [] (by decide) rfl) dX8_by_29

set_option maxHeartbeats 4000000 in
set_option maxRecDepth 100000 in
theorem k_X8_law (l : Launch) (D : va_G) (cs : Nat → ClassId) (sz : Nat) (a0 : Nat) (aT : Nat) (aD : Nat) (aO : Nat) (aR : Nat) (aS : Nat) (aJ : Nat) (aC : Nat) (aI : Nat) (aK : Nat) (aL : Nat) (o1 : Nat) (o2 : Nat) (o3 : Nat) (o4 : Nat) (o5 : Nat) (s1 : Nat) (s2 : Nat) (s3 : Nat) (s4 : Nat)  : Mi l D cs yX8_law W_X8_law 1 20 0 0 [.ref a0] [(a0, .inr (8, [.ref aT, .ref aD, .ref aO, .ref aR, .ref aS, .ref aJ, .ref aC, .ref aI, .ref aK, .ref aL])), (aO, .inr (0, [.int 0, .int 0, .int 0, .int 0, .int 0, .int 0, .int 0, .int 0, .int 0, .int 0, .ref o1, .ref o2, .ref o3, .ref o4, .ref o5])), (aS, .inr (6, [.int 0, .int 0, .int 0, .long 0, .ref s1, .ref s2, .ref s3, .ref s4]))] sz (fun (r : Int32) (u : Unit) => r = (-2)) (fun (u : Unit) => []) := by
  refine ent (D := D) (cs := cs) (y := yX8_law) (ws := W_X8_law) (As := [.ref a0]) (W0 := [(a0, .inr (8, [.ref aT, .ref aD, .ref aO, .ref aR, .ref aS, .ref aJ, .ref aC, .ref aI, .ref aK, .ref aL])), (aO, .inr (0, [.int 0, .int 0, .int 0, .int 0, .int 0, .int 0, .int 0, .int 0, .int 0, .int 0, .ref o1, .ref o2, .ref o3, .ref o4, .ref o5])), (aS, .inr (6, [.int 0, .int 0, .int 0, .long 0, .ref s1, .ref s2, .ref s3, .ref s4]))]) (Qx := fun A => va_Qi (fun (r : Int32) (u : Unit) => r = (-2)) (mpost D A (fun (u : Unit) => [])) A) (maxL := 5) (ret := (some .int)) (by decide) rfl (Nat.le_of_ble_eq_true rfl) ?_
  intro p e s m below meth c A ls hx hb hr hml hlk hown hts hin hK hE hP hD hA hS hl
  have hl : lv_has ls 5 [(0, .ref a0)] := hl
  generalize hHe : s.heap = H at hP
  have hS : va_S A s.heap H [] := hHe ▸ hS
  have htw : ∀ w ∈ O_X8_law, w.before ([.ref a0] : List Value).toArray s = true := fun w h => hts w (List.mem_cons_of_mem _ (List.mem_append_left _ h))
  have hFix := (⟨hx, hb, hml, hown, hts⟩ : CallFix p m c _ _ s _ _ _)
  refine lv_aload_n hx hb dX8_law_0 rfl (lv_at hl 0 rfl) ?_
  refine aft_i (wr := [(aS, .inr (6, [.int 0, .int 0, .int 0, .long 0, .ref s1, .ref s2, .ref s3, .ref s4]))]) hP hD hS hA [0, 1] [2] rfl rfl (by decide) (by decide) (run_v (As := []) (rest := []) hFix hK hE hP hD [0, 1] (k_X8_isTold l D cs _ a0 aT aD aO aR aS aJ aC aI aK aL o1 o2 o3 o4 o5) (cwV 0 hts gc_X8_law_120_X8_isTold rfl rfl rfl (by decide +kernel) ⟨Nat.le_of_ble_eq_true rfl, Nat.le_of_ble_eq_true rfl⟩) rfl (by decide) rfl rfl rfl hl.1 rfl (Nat.le_of_ble_eq_true rfl) dX8_law_1 ⟨Nat.le_of_ble_eq_true rfl, Nat.le_of_ble_eq_true rfl⟩) (fun r_1 u_1 H locs hq_1 hP hD hS => ?_)
  have hP : va_P D vwCl [(aS, .inr (6, [.int 0, .int 0, .int 0, .long 0, .ref s1, .ref s2, .ref s3, .ref s4])), (a0, .inr (8, [.ref aT, .ref aD, .ref aO, .ref aR, .ref aS, .ref aJ, .ref aC, .ref aI, .ref aK, .ref aL])), (aO, .inr (0, [.int 0, .int 0, .int 0, .int 0, .int 0, .int 0, .int 0, .int 0, .int 0, .int 0, .ref o1, .ref o2, .ref o3, .ref o4, .ref o5]))] H := hP
  have hD : va_D A [(aS, .inr (6, [.int 0, .int 0, .int 0, .long 0, .ref s1, .ref s2, .ref s3, .ref s4])), (a0, .inr (8, [.ref aT, .ref aD, .ref aO, .ref aR, .ref aS, .ref aJ, .ref aC, .ref aI, .ref aK, .ref aL])), (aO, .inr (0, [.int 0, .int 0, .int 0, .int 0, .int 0, .int 0, .int 0, .int 0, .int 0, .int 0, .ref o1, .ref o2, .ref o3, .ref o4, .ref o5]))] := hD
  replace hq_1 : r_1 = 0 := hq_1
  subst hq_1
  refine lv_if_ne (tgt := 10) hx hb dX8_law_4 (by decide) (fun h9 => absurd h9 (by decide)) (fun _ => ?_)
  refine lv_bipush (v := (-2)) hx hb dX8_law_7 (by decide) ?_
  exact ret_i hx hb hr hlk hS (Nat.le_of_ble_eq_true rfl) (Nat.le_of_ble_eq_true rfl) () (rfl) (hP.sub [] rfl) (hD.sub [] (by decide) rfl) dX8_law_9

set_option maxHeartbeats 4000000 in
set_option maxRecDepth 100000 in
theorem k_X8_worth (l : Launch) (D : va_G) (cs : Nat → ClassId) (sz : Nat) (a0 : Nat) (k : Int32) (aT : Nat) (aD : Nat) (aO : Nat) (aR : Nat) (aS : Nat) (aJ : Nat) (aC : Nat) (aI : Nat) (aK : Nat) (aL : Nat) (o1 : Nat) (o2 : Nat) (o3 : Nat) (o4 : Nat) (o5 : Nat) (s1 : Nat) (s2 : Nat) (s3 : Nat) (s4 : Nat)  : Mi l D cs yX8_worth W_X8_worth 1 20 0 0 [.ref a0, .int k] [(a0, .inr (8, [.ref aT, .ref aD, .ref aO, .ref aR, .ref aS, .ref aJ, .ref aC, .ref aI, .ref aK, .ref aL])), (aO, .inr (0, [.int 0, .int 0, .int 0, .int 0, .int 0, .int 0, .int 0, .int 0, .int 0, .int 0, .ref o1, .ref o2, .ref o3, .ref o4, .ref o5])), (aS, .inr (6, [.int 0, .int 0, .int 0, .long 0, .ref s1, .ref s2, .ref s3, .ref s4]))] sz (fun (r : Int32) (u : Unit) => r = (-2)) (fun (u : Unit) => []) := by
  refine ent (D := D) (cs := cs) (y := yX8_worth) (ws := W_X8_worth) (As := [.ref a0, .int k]) (W0 := [(a0, .inr (8, [.ref aT, .ref aD, .ref aO, .ref aR, .ref aS, .ref aJ, .ref aC, .ref aI, .ref aK, .ref aL])), (aO, .inr (0, [.int 0, .int 0, .int 0, .int 0, .int 0, .int 0, .int 0, .int 0, .int 0, .int 0, .ref o1, .ref o2, .ref o3, .ref o4, .ref o5])), (aS, .inr (6, [.int 0, .int 0, .int 0, .long 0, .ref s1, .ref s2, .ref s3, .ref s4]))]) (Qx := fun A => va_Qi (fun (r : Int32) (u : Unit) => r = (-2)) (mpost D A (fun (u : Unit) => [])) A) (maxL := 2) (ret := (some .int)) (by decide) rfl (Nat.le_of_ble_eq_true rfl) ?_
  intro p e s m below meth c A ls hx hb hr hml hlk hown hts hin hK hE hP hD hA hS hl
  have hl : lv_has ls 2 [(0, .ref a0), (1, .int k)] := hl
  generalize hHe : s.heap = H at hP
  have hS : va_S A s.heap H [] := hHe ▸ hS
  have htw : ∀ w ∈ O_X8_worth, w.before ([.ref a0, .int k] : List Value).toArray s = true := fun w h => hts w (List.mem_cons_of_mem _ (List.mem_append_left _ h))
  have hFix := (⟨hx, hb, hml, hown, hts⟩ : CallFix p m c _ _ s _ _ _)
  refine lv_aload_n hx hb dX8_worth_0 rfl (lv_at hl 0 rfl) ?_
  refine aft_i (wr := [(aS, .inr (6, [.int 0, .int 0, .int 0, .long 0, .ref s1, .ref s2, .ref s3, .ref s4]))]) hP hD hS hA [0, 1] [2] rfl rfl (by decide) (by decide) (run_v (As := []) (rest := []) hFix hK hE hP hD [0, 1] (k_X8_isTold l D cs _ a0 aT aD aO aR aS aJ aC aI aK aL o1 o2 o3 o4 o5) (cwV 0 hts gc_X8_worth_120_X8_isTold rfl rfl rfl (by decide +kernel) ⟨Nat.le_of_ble_eq_true rfl, Nat.le_of_ble_eq_true rfl⟩) rfl (by decide) rfl rfl rfl hl.1 rfl (Nat.le_of_ble_eq_true rfl) dX8_worth_1 ⟨Nat.le_of_ble_eq_true rfl, Nat.le_of_ble_eq_true rfl⟩) (fun r_1 u_1 H locs hq_1 hP hD hS => ?_)
  have hP : va_P D vwCl [(aS, .inr (6, [.int 0, .int 0, .int 0, .long 0, .ref s1, .ref s2, .ref s3, .ref s4])), (a0, .inr (8, [.ref aT, .ref aD, .ref aO, .ref aR, .ref aS, .ref aJ, .ref aC, .ref aI, .ref aK, .ref aL])), (aO, .inr (0, [.int 0, .int 0, .int 0, .int 0, .int 0, .int 0, .int 0, .int 0, .int 0, .int 0, .ref o1, .ref o2, .ref o3, .ref o4, .ref o5]))] H := hP
  have hD : va_D A [(aS, .inr (6, [.int 0, .int 0, .int 0, .long 0, .ref s1, .ref s2, .ref s3, .ref s4])), (a0, .inr (8, [.ref aT, .ref aD, .ref aO, .ref aR, .ref aS, .ref aJ, .ref aC, .ref aI, .ref aK, .ref aL])), (aO, .inr (0, [.int 0, .int 0, .int 0, .int 0, .int 0, .int 0, .int 0, .int 0, .int 0, .int 0, .ref o1, .ref o2, .ref o3, .ref o4, .ref o5]))] := hD
  replace hq_1 : r_1 = 0 := hq_1
  subst hq_1
  refine lv_if_eq (tgt := 24) hx hb dX8_worth_4 (by decide) (fun _ => ?_) (fun h9 => absurd h9 (by decide))
  refine lv_bipush (v := (-2)) hx hb dX8_worth_24 (by decide) ?_
  exact ret_i hx hb hr hlk hS (Nat.le_of_ble_eq_true rfl) (Nat.le_of_ble_eq_true rfl) () (rfl) (hP.sub [] rfl) (hD.sub [] (by decide) rfl) dX8_worth_26

set_option maxHeartbeats 4000000 in
set_option maxRecDepth 100000 in
theorem k_X8_rests (l : Launch) (D : va_G) (cs : Nat → ClassId) (sz : Nat) (a0 : Nat) (k : Int32) (k2 : Int32) (aT : Nat) (aD : Nat) (aO : Nat) (aR : Nat) (aS : Nat) (aJ : Nat) (aC : Nat) (aI : Nat) (aK : Nat) (aL : Nat) (o1 : Nat) (o2 : Nat) (o3 : Nat) (o4 : Nat) (o5 : Nat) (s1 : Nat) (s2 : Nat) (s3 : Nat) (s4 : Nat)  : Mi l D cs yX8_rests W_X8_rests 2 43 0 0 [.ref a0, .int k, .int k2] [(a0, .inr (8, [.ref aT, .ref aD, .ref aO, .ref aR, .ref aS, .ref aJ, .ref aC, .ref aI, .ref aK, .ref aL])), (aO, .inr (0, [.int 0, .int 0, .int 0, .int 0, .int 0, .int 0, .int 0, .int 0, .int 0, .int 0, .ref o1, .ref o2, .ref o3, .ref o4, .ref o5])), (aS, .inr (6, [.int 0, .int 0, .int 0, .long 0, .ref s1, .ref s2, .ref s3, .ref s4]))] sz (fun (r : Int32) (u : Unit) => r = (-2)) (fun (u : Unit) => []) := by
  refine ent (D := D) (cs := cs) (y := yX8_rests) (ws := W_X8_rests) (As := [.ref a0, .int k, .int k2]) (W0 := [(a0, .inr (8, [.ref aT, .ref aD, .ref aO, .ref aR, .ref aS, .ref aJ, .ref aC, .ref aI, .ref aK, .ref aL])), (aO, .inr (0, [.int 0, .int 0, .int 0, .int 0, .int 0, .int 0, .int 0, .int 0, .int 0, .int 0, .ref o1, .ref o2, .ref o3, .ref o4, .ref o5])), (aS, .inr (6, [.int 0, .int 0, .int 0, .long 0, .ref s1, .ref s2, .ref s3, .ref s4]))]) (Qx := fun A => va_Qi (fun (r : Int32) (u : Unit) => r = (-2)) (mpost D A (fun (u : Unit) => [])) A) (maxL := 3) (ret := (some .int)) (by decide) rfl (Nat.le_of_ble_eq_true rfl) ?_
  intro p e s m below meth c A ls hx hb hr hml hlk hown hts hin hK hE hP hD hA hS hl
  have hl : lv_has ls 3 [(0, .ref a0), (1, .int k), (2, .int k2)] := hl
  generalize hHe : s.heap = H at hP
  have hS : va_S A s.heap H [] := hHe ▸ hS
  have htw : ∀ w ∈ O_X8_rests, w.before ([.ref a0, .int k, .int k2] : List Value).toArray s = true := fun w h => hts w (List.mem_cons_of_mem _ (List.mem_append_left _ h))
  have hFix := (⟨hx, hb, hml, hown, hts⟩ : CallFix p m c _ _ s _ _ _)
  refine lv_aload_n hx hb dX8_rests_0 rfl (lv_at hl 0 rfl) ?_
  refine lv_iload_n hx hb dX8_rests_1 rfl (lv_at hl 1 rfl) ?_
  refine lv_iload_n hx hb dX8_rests_2 rfl (lv_at hl 2 rfl) ?_
  refine aft_i (wr := [(aS, .inr (6, [.int 0, .int 0, .int 0, .long 0, .ref s1, .ref s2, .ref s3, .ref s4]))]) hP hD hS hA [0, 1] [2] rfl rfl (by decide) (by decide) (run_v (As := [.int k, .int k2]) (rest := []) hFix hK hE hP hD [0, 1] (k_X8_noGame l D cs _ a0 k k2 aT aD aO aR aS aJ aC aI aK aL o1 o2 o3 o4 o5) (cwV 2 hts gc_X8_rests_275_X8_noGame rfl rfl rfl (by decide +kernel) ⟨Nat.le_of_ble_eq_true rfl, Nat.le_of_ble_eq_true rfl⟩) rfl (by decide) rfl rfl rfl hl.1 rfl (Nat.le_of_ble_eq_true rfl) dX8_rests_3 ⟨Nat.le_of_ble_eq_true rfl, Nat.le_of_ble_eq_true rfl⟩) (fun r_1 u_1 H locs hq_1 hP hD hS => ?_)
  have hP : va_P D vwCl [(aS, .inr (6, [.int 0, .int 0, .int 0, .long 0, .ref s1, .ref s2, .ref s3, .ref s4])), (a0, .inr (8, [.ref aT, .ref aD, .ref aO, .ref aR, .ref aS, .ref aJ, .ref aC, .ref aI, .ref aK, .ref aL])), (aO, .inr (0, [.int 0, .int 0, .int 0, .int 0, .int 0, .int 0, .int 0, .int 0, .int 0, .int 0, .ref o1, .ref o2, .ref o3, .ref o4, .ref o5]))] H := hP
  have hD : va_D A [(aS, .inr (6, [.int 0, .int 0, .int 0, .long 0, .ref s1, .ref s2, .ref s3, .ref s4])), (a0, .inr (8, [.ref aT, .ref aD, .ref aO, .ref aR, .ref aS, .ref aJ, .ref aC, .ref aI, .ref aK, .ref aL])), (aO, .inr (0, [.int 0, .int 0, .int 0, .int 0, .int 0, .int 0, .int 0, .int 0, .int 0, .int 0, .ref o1, .ref o2, .ref o3, .ref o4, .ref o5]))] := hD
  replace hq_1 : r_1 = 1 := hq_1
  subst hq_1
  refine lv_if_eq (tgt := 14) hx hb dX8_rests_6 (by decide) (fun h9 => absurd h9 (by decide)) (fun _ => ?_)
  refine lv_bipush (v := (-2)) hx hb dX8_rests_9 (by decide) ?_
  refine lv_goto (tgt := 23) hx hb dX8_rests_11 (by decide) ?_
  exact ret_i hx hb hr hlk hS (Nat.le_of_ble_eq_true rfl) (Nat.le_of_ble_eq_true rfl) () (rfl) (hP.sub [] rfl) (hD.sub [] (by decide) rfl) dX8_rests_23

set_option maxHeartbeats 4000000 in
set_option maxRecDepth 100000 in
theorem k_X8_lock (l : Launch) (D : va_G) (cs : Nat → ClassId) (sz : Nat) (a0 : Nat) (k : Int32) (aT : Nat) (aD : Nat) (aO : Nat) (aR : Nat) (aS : Nat) (aJ : Nat) (aC : Nat) (aI : Nat) (aK : Nat) (aL : Nat) (o1 : Nat) (o2 : Nat) (o3 : Nat) (o4 : Nat) (o5 : Nat) (s1 : Nat) (s2 : Nat) (s3 : Nat) (s4 : Nat)  : Mi l D cs yX8_lock W_X8_lock 1 21 0 0 [.ref a0, .int k] [(a0, .inr (8, [.ref aT, .ref aD, .ref aO, .ref aR, .ref aS, .ref aJ, .ref aC, .ref aI, .ref aK, .ref aL])), (aO, .inr (0, [.int 0, .int 0, .int 0, .int 0, .int 0, .int 0, .int 0, .int 0, .int 0, .int 0, .ref o1, .ref o2, .ref o3, .ref o4, .ref o5])), (aS, .inr (6, [.int 0, .int 0, .int 0, .long 0, .ref s1, .ref s2, .ref s3, .ref s4]))] sz (fun (r : Int32) (u : Unit) => r = (-2)) (fun (u : Unit) => []) := by
  refine ent (D := D) (cs := cs) (y := yX8_lock) (ws := W_X8_lock) (As := [.ref a0, .int k]) (W0 := [(a0, .inr (8, [.ref aT, .ref aD, .ref aO, .ref aR, .ref aS, .ref aJ, .ref aC, .ref aI, .ref aK, .ref aL])), (aO, .inr (0, [.int 0, .int 0, .int 0, .int 0, .int 0, .int 0, .int 0, .int 0, .int 0, .int 0, .ref o1, .ref o2, .ref o3, .ref o4, .ref o5])), (aS, .inr (6, [.int 0, .int 0, .int 0, .long 0, .ref s1, .ref s2, .ref s3, .ref s4]))]) (Qx := fun A => va_Qi (fun (r : Int32) (u : Unit) => r = (-2)) (mpost D A (fun (u : Unit) => [])) A) (maxL := 2) (ret := (some .int)) (by decide) rfl (Nat.le_of_ble_eq_true rfl) ?_
  intro p e s m below meth c A ls hx hb hr hml hlk hown hts hin hK hE hP hD hA hS hl
  have hl : lv_has ls 2 [(0, .ref a0), (1, .int k)] := hl
  generalize hHe : s.heap = H at hP
  have hS : va_S A s.heap H [] := hHe ▸ hS
  have htw : ∀ w ∈ O_X8_lock, w.before ([.ref a0, .int k] : List Value).toArray s = true := fun w h => hts w (List.mem_cons_of_mem _ (List.mem_append_left _ h))
  have hFix := (⟨hx, hb, hml, hown, hts⟩ : CallFix p m c _ _ s _ _ _)
  refine lv_aload_n hx hb dX8_lock_0 rfl (lv_at hl 0 rfl) ?_
  refine lv_iload_n hx hb dX8_lock_1 rfl (lv_at hl 1 rfl) ?_
  refine aft_i (wr := [(aS, .inr (6, [.int 0, .int 0, .int 0, .long 0, .ref s1, .ref s2, .ref s3, .ref s4]))]) hP hD hS hA [0, 1] [2] rfl rfl (by decide) (by decide) (run_v (As := [.int k]) (rest := []) hFix hK hE hP hD [0, 1] (k_X8_noOp l D cs _ a0 k aT aD aO aR aS aJ aC aI aK aL o1 o2 o3 o4 o5) (cwV 1 hts gc_X8_lock_114_X8_noOp rfl rfl rfl (by decide +kernel) ⟨Nat.le_of_ble_eq_true rfl, Nat.le_of_ble_eq_true rfl⟩) rfl (by decide) rfl rfl rfl hl.1 rfl (Nat.le_of_ble_eq_true rfl) dX8_lock_2 ⟨Nat.le_of_ble_eq_true rfl, Nat.le_of_ble_eq_true rfl⟩) (fun r_1 u_1 H locs hq_1 hP hD hS => ?_)
  have hP : va_P D vwCl [(aS, .inr (6, [.int 0, .int 0, .int 0, .long 0, .ref s1, .ref s2, .ref s3, .ref s4])), (a0, .inr (8, [.ref aT, .ref aD, .ref aO, .ref aR, .ref aS, .ref aJ, .ref aC, .ref aI, .ref aK, .ref aL])), (aO, .inr (0, [.int 0, .int 0, .int 0, .int 0, .int 0, .int 0, .int 0, .int 0, .int 0, .int 0, .ref o1, .ref o2, .ref o3, .ref o4, .ref o5]))] H := hP
  have hD : va_D A [(aS, .inr (6, [.int 0, .int 0, .int 0, .long 0, .ref s1, .ref s2, .ref s3, .ref s4])), (a0, .inr (8, [.ref aT, .ref aD, .ref aO, .ref aR, .ref aS, .ref aJ, .ref aC, .ref aI, .ref aK, .ref aL])), (aO, .inr (0, [.int 0, .int 0, .int 0, .int 0, .int 0, .int 0, .int 0, .int 0, .int 0, .int 0, .ref o1, .ref o2, .ref o3, .ref o4, .ref o5]))] := hD
  replace hq_1 : r_1 = 1 := hq_1
  subst hq_1
  refine lv_if_eq (tgt := 13) hx hb dX8_lock_5 (by decide) (fun h9 => absurd h9 (by decide)) (fun _ => ?_)
  refine lv_bipush (v := (-2)) hx hb dX8_lock_8 (by decide) ?_
  refine lv_goto (tgt := 35) hx hb dX8_lock_10 (by decide) ?_
  exact ret_i hx hb hr hlk hS (Nat.le_of_ble_eq_true rfl) (Nat.le_of_ble_eq_true rfl) () (rfl) (hP.sub [] rfl) (hD.sub [] (by decide) rfl) dX8_lock_35

set_option maxHeartbeats 4000000 in
set_option maxRecDepth 100000 in
theorem k_X8_frees (l : Launch) (D : va_G) (cs : Nat → ClassId) (sz : Nat) (a0 : Nat) (k : Int32) (aT : Nat) (aD : Nat) (aO : Nat) (aR : Nat) (aS : Nat) (aJ : Nat) (aC : Nat) (aI : Nat) (aK : Nat) (aL : Nat) (o1 : Nat) (o2 : Nat) (o3 : Nat) (o4 : Nat) (o5 : Nat) (s1 : Nat) (s2 : Nat) (s3 : Nat) (s4 : Nat)  : Mi l D cs yX8_frees W_X8_frees 1 21 0 0 [.ref a0, .int k] [(a0, .inr (8, [.ref aT, .ref aD, .ref aO, .ref aR, .ref aS, .ref aJ, .ref aC, .ref aI, .ref aK, .ref aL])), (aO, .inr (0, [.int 0, .int 0, .int 0, .int 0, .int 0, .int 0, .int 0, .int 0, .int 0, .int 0, .ref o1, .ref o2, .ref o3, .ref o4, .ref o5])), (aS, .inr (6, [.int 0, .int 0, .int 0, .long 0, .ref s1, .ref s2, .ref s3, .ref s4]))] sz (fun (r : Int32) (u : Unit) => r = (-2)) (fun (u : Unit) => []) := by
  refine ent (D := D) (cs := cs) (y := yX8_frees) (ws := W_X8_frees) (As := [.ref a0, .int k]) (W0 := [(a0, .inr (8, [.ref aT, .ref aD, .ref aO, .ref aR, .ref aS, .ref aJ, .ref aC, .ref aI, .ref aK, .ref aL])), (aO, .inr (0, [.int 0, .int 0, .int 0, .int 0, .int 0, .int 0, .int 0, .int 0, .int 0, .int 0, .ref o1, .ref o2, .ref o3, .ref o4, .ref o5])), (aS, .inr (6, [.int 0, .int 0, .int 0, .long 0, .ref s1, .ref s2, .ref s3, .ref s4]))]) (Qx := fun A => va_Qi (fun (r : Int32) (u : Unit) => r = (-2)) (mpost D A (fun (u : Unit) => [])) A) (maxL := 3) (ret := (some .int)) (by decide) rfl (Nat.le_of_ble_eq_true rfl) ?_
  intro p e s m below meth c A ls hx hb hr hml hlk hown hts hin hK hE hP hD hA hS hl
  have hl : lv_has ls 3 [(0, .ref a0), (1, .int k)] := hl
  generalize hHe : s.heap = H at hP
  have hS : va_S A s.heap H [] := hHe ▸ hS
  have htw : ∀ w ∈ O_X8_frees, w.before ([.ref a0, .int k] : List Value).toArray s = true := fun w h => hts w (List.mem_cons_of_mem _ (List.mem_append_left _ h))
  have hFix := (⟨hx, hb, hml, hown, hts⟩ : CallFix p m c _ _ s _ _ _)
  refine lv_aload_n hx hb dX8_frees_0 rfl (lv_at hl 0 rfl) ?_
  refine lv_iload_n hx hb dX8_frees_1 rfl (lv_at hl 1 rfl) ?_
  refine aft_i (wr := [(aS, .inr (6, [.int 0, .int 0, .int 0, .long 0, .ref s1, .ref s2, .ref s3, .ref s4]))]) hP hD hS hA [0, 1] [2] rfl rfl (by decide) (by decide) (run_v (As := [.int k]) (rest := []) hFix hK hE hP hD [0, 1] (k_X8_noOp l D cs _ a0 k aT aD aO aR aS aJ aC aI aK aL o1 o2 o3 o4 o5) (cwV 1 hts gc_X8_frees_114_X8_noOp rfl rfl rfl (by decide +kernel) ⟨Nat.le_of_ble_eq_true rfl, Nat.le_of_ble_eq_true rfl⟩) rfl (by decide) rfl rfl rfl hl.1 rfl (Nat.le_of_ble_eq_true rfl) dX8_frees_2 ⟨Nat.le_of_ble_eq_true rfl, Nat.le_of_ble_eq_true rfl⟩) (fun r_1 u_1 H locs hq_1 hP hD hS => ?_)
  have hP : va_P D vwCl [(aS, .inr (6, [.int 0, .int 0, .int 0, .long 0, .ref s1, .ref s2, .ref s3, .ref s4])), (a0, .inr (8, [.ref aT, .ref aD, .ref aO, .ref aR, .ref aS, .ref aJ, .ref aC, .ref aI, .ref aK, .ref aL])), (aO, .inr (0, [.int 0, .int 0, .int 0, .int 0, .int 0, .int 0, .int 0, .int 0, .int 0, .int 0, .ref o1, .ref o2, .ref o3, .ref o4, .ref o5]))] H := hP
  have hD : va_D A [(aS, .inr (6, [.int 0, .int 0, .int 0, .long 0, .ref s1, .ref s2, .ref s3, .ref s4])), (a0, .inr (8, [.ref aT, .ref aD, .ref aO, .ref aR, .ref aS, .ref aJ, .ref aC, .ref aI, .ref aK, .ref aL])), (aO, .inr (0, [.int 0, .int 0, .int 0, .int 0, .int 0, .int 0, .int 0, .int 0, .int 0, .int 0, .ref o1, .ref o2, .ref o3, .ref o4, .ref o5]))] := hD
  replace hq_1 : r_1 = 1 := hq_1
  subst hq_1
  refine lv_if_eq (tgt := 11) hx hb dX8_frees_5 (by decide) (fun h9 => absurd h9 (by decide)) (fun _ => ?_)
  refine lv_bipush (v := (-2)) hx hb dX8_frees_8 (by decide) ?_
  exact ret_i hx hb hr hlk hS (Nat.le_of_ble_eq_true rfl) (Nat.le_of_ble_eq_true rfl) () (rfl) (hP.sub [] rfl) (hD.sub [] (by decide) rfl) dX8_frees_10

set_option maxHeartbeats 4000000 in
set_option maxRecDepth 100000 in
theorem k_X8_drops (l : Launch) (D : va_G) (cs : Nat → ClassId) (sz : Nat) (a0 : Nat) (k : Int32) (aT : Nat) (aD : Nat) (aO : Nat) (aR : Nat) (aS : Nat) (aJ : Nat) (aC : Nat) (aI : Nat) (aK : Nat) (aL : Nat) (o1 : Nat) (o2 : Nat) (o3 : Nat) (o4 : Nat) (o5 : Nat) (s1 : Nat) (s2 : Nat) (s3 : Nat) (s4 : Nat)  : Mi l D cs yX8_drops W_X8_drops 1 21 0 0 [.ref a0, .int k] [(a0, .inr (8, [.ref aT, .ref aD, .ref aO, .ref aR, .ref aS, .ref aJ, .ref aC, .ref aI, .ref aK, .ref aL])), (aO, .inr (0, [.int 0, .int 0, .int 0, .int 0, .int 0, .int 0, .int 0, .int 0, .int 0, .int 0, .ref o1, .ref o2, .ref o3, .ref o4, .ref o5])), (aS, .inr (6, [.int 0, .int 0, .int 0, .long 0, .ref s1, .ref s2, .ref s3, .ref s4]))] sz (fun (r : Int32) (u : Unit) => r = (-2)) (fun (u : Unit) => []) := by
  refine ent (D := D) (cs := cs) (y := yX8_drops) (ws := W_X8_drops) (As := [.ref a0, .int k]) (W0 := [(a0, .inr (8, [.ref aT, .ref aD, .ref aO, .ref aR, .ref aS, .ref aJ, .ref aC, .ref aI, .ref aK, .ref aL])), (aO, .inr (0, [.int 0, .int 0, .int 0, .int 0, .int 0, .int 0, .int 0, .int 0, .int 0, .int 0, .ref o1, .ref o2, .ref o3, .ref o4, .ref o5])), (aS, .inr (6, [.int 0, .int 0, .int 0, .long 0, .ref s1, .ref s2, .ref s3, .ref s4]))]) (Qx := fun A => va_Qi (fun (r : Int32) (u : Unit) => r = (-2)) (mpost D A (fun (u : Unit) => [])) A) (maxL := 2) (ret := (some .int)) (by decide) rfl (Nat.le_of_ble_eq_true rfl) ?_
  intro p e s m below meth c A ls hx hb hr hml hlk hown hts hin hK hE hP hD hA hS hl
  have hl : lv_has ls 2 [(0, .ref a0), (1, .int k)] := hl
  generalize hHe : s.heap = H at hP
  have hS : va_S A s.heap H [] := hHe ▸ hS
  have htw : ∀ w ∈ O_X8_drops, w.before ([.ref a0, .int k] : List Value).toArray s = true := fun w h => hts w (List.mem_cons_of_mem _ (List.mem_append_left _ h))
  have hFix := (⟨hx, hb, hml, hown, hts⟩ : CallFix p m c _ _ s _ _ _)
  refine lv_aload_n hx hb dX8_drops_0 rfl (lv_at hl 0 rfl) ?_
  refine lv_iload_n hx hb dX8_drops_1 rfl (lv_at hl 1 rfl) ?_
  refine aft_i (wr := [(aS, .inr (6, [.int 0, .int 0, .int 0, .long 0, .ref s1, .ref s2, .ref s3, .ref s4]))]) hP hD hS hA [0, 1] [2] rfl rfl (by decide) (by decide) (run_v (As := [.int k]) (rest := []) hFix hK hE hP hD [0, 1] (k_X8_noRule l D cs _ a0 k aT aD aO aR aS aJ aC aI aK aL o1 o2 o3 o4 o5) (cwV 1 hts gc_X8_drops_108_X8_noRule rfl rfl rfl (by decide +kernel) ⟨Nat.le_of_ble_eq_true rfl, Nat.le_of_ble_eq_true rfl⟩) rfl (by decide) rfl rfl rfl hl.1 rfl (Nat.le_of_ble_eq_true rfl) dX8_drops_2 ⟨Nat.le_of_ble_eq_true rfl, Nat.le_of_ble_eq_true rfl⟩) (fun r_1 u_1 H locs hq_1 hP hD hS => ?_)
  have hP : va_P D vwCl [(aS, .inr (6, [.int 0, .int 0, .int 0, .long 0, .ref s1, .ref s2, .ref s3, .ref s4])), (a0, .inr (8, [.ref aT, .ref aD, .ref aO, .ref aR, .ref aS, .ref aJ, .ref aC, .ref aI, .ref aK, .ref aL])), (aO, .inr (0, [.int 0, .int 0, .int 0, .int 0, .int 0, .int 0, .int 0, .int 0, .int 0, .int 0, .ref o1, .ref o2, .ref o3, .ref o4, .ref o5]))] H := hP
  have hD : va_D A [(aS, .inr (6, [.int 0, .int 0, .int 0, .long 0, .ref s1, .ref s2, .ref s3, .ref s4])), (a0, .inr (8, [.ref aT, .ref aD, .ref aO, .ref aR, .ref aS, .ref aJ, .ref aC, .ref aI, .ref aK, .ref aL])), (aO, .inr (0, [.int 0, .int 0, .int 0, .int 0, .int 0, .int 0, .int 0, .int 0, .int 0, .int 0, .ref o1, .ref o2, .ref o3, .ref o4, .ref o5]))] := hD
  replace hq_1 : r_1 = 1 := hq_1
  subst hq_1
  refine lv_if_eq (tgt := 13) hx hb dX8_drops_5 (by decide) (fun h9 => absurd h9 (by decide)) (fun _ => ?_)
  refine lv_bipush (v := (-2)) hx hb dX8_drops_8 (by decide) ?_
  refine lv_goto (tgt := 35) hx hb dX8_drops_10 (by decide) ?_
  exact ret_i hx hb hr hlk hS (Nat.le_of_ble_eq_true rfl) (Nat.le_of_ble_eq_true rfl) () (rfl) (hP.sub [] rfl) (hD.sub [] (by decide) rfl) dX8_drops_35

set_option maxHeartbeats 4000000 in
set_option maxRecDepth 100000 in
theorem k_X8_undo (l : Launch) (D : va_G) (cs : Nat → ClassId) (sz : Nat) (a0 : Nat) (aT : Nat) (aD : Nat) (aO : Nat) (aR : Nat) (aS : Nat) (aJ : Nat) (aC : Nat) (aI : Nat) (aK : Nat) (aL : Nat) (o1 : Nat) (o2 : Nat) (o3 : Nat) (o4 : Nat) (o5 : Nat) (s1 : Nat) (s2 : Nat) (s3 : Nat) (s4 : Nat)  : Mi l D cs yX8_undo W_X8_undo 1 20 0 0 [.ref a0] [(a0, .inr (8, [.ref aT, .ref aD, .ref aO, .ref aR, .ref aS, .ref aJ, .ref aC, .ref aI, .ref aK, .ref aL])), (aO, .inr (0, [.int 0, .int 0, .int 0, .int 0, .int 0, .int 0, .int 0, .int 0, .int 0, .int 0, .ref o1, .ref o2, .ref o3, .ref o4, .ref o5])), (aS, .inr (6, [.int 0, .int 0, .int 0, .long 0, .ref s1, .ref s2, .ref s3, .ref s4]))] sz (fun (r : Int32) (u : Unit) => r = (-2)) (fun (u : Unit) => []) := by
  refine ent (D := D) (cs := cs) (y := yX8_undo) (ws := W_X8_undo) (As := [.ref a0]) (W0 := [(a0, .inr (8, [.ref aT, .ref aD, .ref aO, .ref aR, .ref aS, .ref aJ, .ref aC, .ref aI, .ref aK, .ref aL])), (aO, .inr (0, [.int 0, .int 0, .int 0, .int 0, .int 0, .int 0, .int 0, .int 0, .int 0, .int 0, .ref o1, .ref o2, .ref o3, .ref o4, .ref o5])), (aS, .inr (6, [.int 0, .int 0, .int 0, .long 0, .ref s1, .ref s2, .ref s3, .ref s4]))]) (Qx := fun A => va_Qi (fun (r : Int32) (u : Unit) => r = (-2)) (mpost D A (fun (u : Unit) => [])) A) (maxL := 1) (ret := (some .int)) (by decide) rfl (Nat.le_of_ble_eq_true rfl) ?_
  intro p e s m below meth c A ls hx hb hr hml hlk hown hts hin hK hE hP hD hA hS hl
  have hl : lv_has ls 1 [(0, .ref a0)] := hl
  generalize hHe : s.heap = H at hP
  have hS : va_S A s.heap H [] := hHe ▸ hS
  have htw : ∀ w ∈ O_X8_undo, w.before ([.ref a0] : List Value).toArray s = true := fun w h => hts w (List.mem_cons_of_mem _ (List.mem_append_left _ h))
  have hFix := (⟨hx, hb, hml, hown, hts⟩ : CallFix p m c _ _ s _ _ _)
  refine lv_aload_n hx hb dX8_undo_0 rfl (lv_at hl 0 rfl) ?_
  refine aft_i (wr := [(aS, .inr (6, [.int 0, .int 0, .int 0, .long 0, .ref s1, .ref s2, .ref s3, .ref s4]))]) hP hD hS hA [0, 1] [2] rfl rfl (by decide) (by decide) (run_v (As := []) (rest := []) hFix hK hE hP hD [0, 1] (k_X8_isTold l D cs _ a0 aT aD aO aR aS aJ aC aI aK aL o1 o2 o3 o4 o5) (cwV 0 hts gc_X8_undo_120_X8_isTold rfl rfl rfl (by decide +kernel) ⟨Nat.le_of_ble_eq_true rfl, Nat.le_of_ble_eq_true rfl⟩) rfl (by decide) rfl rfl rfl hl.1 rfl (Nat.le_of_ble_eq_true rfl) dX8_undo_1 ⟨Nat.le_of_ble_eq_true rfl, Nat.le_of_ble_eq_true rfl⟩) (fun r_1 u_1 H locs hq_1 hP hD hS => ?_)
  have hP : va_P D vwCl [(aS, .inr (6, [.int 0, .int 0, .int 0, .long 0, .ref s1, .ref s2, .ref s3, .ref s4])), (a0, .inr (8, [.ref aT, .ref aD, .ref aO, .ref aR, .ref aS, .ref aJ, .ref aC, .ref aI, .ref aK, .ref aL])), (aO, .inr (0, [.int 0, .int 0, .int 0, .int 0, .int 0, .int 0, .int 0, .int 0, .int 0, .int 0, .ref o1, .ref o2, .ref o3, .ref o4, .ref o5]))] H := hP
  have hD : va_D A [(aS, .inr (6, [.int 0, .int 0, .int 0, .long 0, .ref s1, .ref s2, .ref s3, .ref s4])), (a0, .inr (8, [.ref aT, .ref aD, .ref aO, .ref aR, .ref aS, .ref aJ, .ref aC, .ref aI, .ref aK, .ref aL])), (aO, .inr (0, [.int 0, .int 0, .int 0, .int 0, .int 0, .int 0, .int 0, .int 0, .int 0, .int 0, .ref o1, .ref o2, .ref o3, .ref o4, .ref o5]))] := hD
  replace hq_1 : r_1 = 0 := hq_1
  subst hq_1
  refine lv_if_ne (tgt := 10) hx hb dX8_undo_4 (by decide) (fun h9 => absurd h9 (by decide)) (fun _ => ?_)
  refine lv_bipush (v := (-2)) hx hb dX8_undo_7 (by decide) ?_
  exact ret_i hx hb hr hlk hS (Nat.le_of_ble_eq_true rfl) (Nat.le_of_ble_eq_true rfl) () (rfl) (hP.sub [] rfl) (hD.sub [] (by decide) rfl) dX8_undo_9

set_option maxHeartbeats 4000000 in
set_option maxRecDepth 100000 in
theorem k_X8_anew (l : Launch) (D : va_G) (cs : Nat → ClassId) (sz : Nat) (a0 : Nat) (aT : Nat) (aD : Nat) (aO : Nat) (aR : Nat) (aS : Nat) (aJ : Nat) (aC : Nat) (aI : Nat) (aK : Nat) (aL : Nat) (o1 : Nat) (o2 : Nat) (o3 : Nat) (o4 : Nat) (o5 : Nat) (s1 : Nat) (s2 : Nat) (s3 : Nat) (s4 : Nat)  : Mi l D cs yX8_anew W_X8_anew 1 20 0 0 [.ref a0] [(a0, .inr (8, [.ref aT, .ref aD, .ref aO, .ref aR, .ref aS, .ref aJ, .ref aC, .ref aI, .ref aK, .ref aL])), (aO, .inr (0, [.int 0, .int 0, .int 0, .int 0, .int 0, .int 0, .int 0, .int 0, .int 0, .int 0, .ref o1, .ref o2, .ref o3, .ref o4, .ref o5])), (aS, .inr (6, [.int 0, .int 0, .int 0, .long 0, .ref s1, .ref s2, .ref s3, .ref s4]))] sz (fun (r : Int32) (u : Unit) => r = (-2)) (fun (u : Unit) => []) := by
  refine ent (D := D) (cs := cs) (y := yX8_anew) (ws := W_X8_anew) (As := [.ref a0]) (W0 := [(a0, .inr (8, [.ref aT, .ref aD, .ref aO, .ref aR, .ref aS, .ref aJ, .ref aC, .ref aI, .ref aK, .ref aL])), (aO, .inr (0, [.int 0, .int 0, .int 0, .int 0, .int 0, .int 0, .int 0, .int 0, .int 0, .int 0, .ref o1, .ref o2, .ref o3, .ref o4, .ref o5])), (aS, .inr (6, [.int 0, .int 0, .int 0, .long 0, .ref s1, .ref s2, .ref s3, .ref s4]))]) (Qx := fun A => va_Qi (fun (r : Int32) (u : Unit) => r = (-2)) (mpost D A (fun (u : Unit) => [])) A) (maxL := 2) (ret := (some .int)) (by decide) rfl (Nat.le_of_ble_eq_true rfl) ?_
  intro p e s m below meth c A ls hx hb hr hml hlk hown hts hin hK hE hP hD hA hS hl
  have hl : lv_has ls 2 [(0, .ref a0)] := hl
  generalize hHe : s.heap = H at hP
  have hS : va_S A s.heap H [] := hHe ▸ hS
  have htw : ∀ w ∈ O_X8_anew, w.before ([.ref a0] : List Value).toArray s = true := fun w h => hts w (List.mem_cons_of_mem _ (List.mem_append_left _ h))
  have hFix := (⟨hx, hb, hml, hown, hts⟩ : CallFix p m c _ _ s _ _ _)
  refine lv_aload_n hx hb dX8_anew_0 rfl (lv_at hl 0 rfl) ?_
  refine aft_i (wr := [(aS, .inr (6, [.int 0, .int 0, .int 0, .long 0, .ref s1, .ref s2, .ref s3, .ref s4]))]) hP hD hS hA [0, 1] [2] rfl rfl (by decide) (by decide) (run_v (As := []) (rest := []) hFix hK hE hP hD [0, 1] (k_X8_isTold l D cs _ a0 aT aD aO aR aS aJ aC aI aK aL o1 o2 o3 o4 o5) (cwV 0 hts gc_X8_anew_120_X8_isTold rfl rfl rfl (by decide +kernel) ⟨Nat.le_of_ble_eq_true rfl, Nat.le_of_ble_eq_true rfl⟩) rfl (by decide) rfl rfl rfl hl.1 rfl (Nat.le_of_ble_eq_true rfl) dX8_anew_1 ⟨Nat.le_of_ble_eq_true rfl, Nat.le_of_ble_eq_true rfl⟩) (fun r_1 u_1 H locs hq_1 hP hD hS => ?_)
  have hP : va_P D vwCl [(aS, .inr (6, [.int 0, .int 0, .int 0, .long 0, .ref s1, .ref s2, .ref s3, .ref s4])), (a0, .inr (8, [.ref aT, .ref aD, .ref aO, .ref aR, .ref aS, .ref aJ, .ref aC, .ref aI, .ref aK, .ref aL])), (aO, .inr (0, [.int 0, .int 0, .int 0, .int 0, .int 0, .int 0, .int 0, .int 0, .int 0, .int 0, .ref o1, .ref o2, .ref o3, .ref o4, .ref o5]))] H := hP
  have hD : va_D A [(aS, .inr (6, [.int 0, .int 0, .int 0, .long 0, .ref s1, .ref s2, .ref s3, .ref s4])), (a0, .inr (8, [.ref aT, .ref aD, .ref aO, .ref aR, .ref aS, .ref aJ, .ref aC, .ref aI, .ref aK, .ref aL])), (aO, .inr (0, [.int 0, .int 0, .int 0, .int 0, .int 0, .int 0, .int 0, .int 0, .int 0, .int 0, .ref o1, .ref o2, .ref o3, .ref o4, .ref o5]))] := hD
  replace hq_1 : r_1 = 0 := hq_1
  subst hq_1
  refine lv_if_ne (tgt := 10) hx hb dX8_anew_4 (by decide) (fun h9 => absurd h9 (by decide)) (fun _ => ?_)
  refine lv_bipush (v := (-2)) hx hb dX8_anew_7 (by decide) ?_
  exact ret_i hx hb hr hlk hS (Nat.le_of_ble_eq_true rfl) (Nat.le_of_ble_eq_true rfl) () (rfl) (hP.sub [] rfl) (hD.sub [] (by decide) rfl) dX8_anew_9

set_option maxHeartbeats 4000000 in
set_option maxRecDepth 100000 in
theorem k_X8_drawn (l : Launch) (D : va_G) (cs : Nat → ClassId) (sz : Nat) (a0 : Nat) (k : Int32) (k2 : Int32) (aT : Nat) (aD : Nat) (aO : Nat) (aR : Nat) (aS : Nat) (aJ : Nat) (aC : Nat) (aI : Nat) (aK : Nat) (aL : Nat) (o1 : Nat) (o2 : Nat) (o3 : Nat) (o4 : Nat) (o5 : Nat) (s1 : Nat) (s2 : Nat) (s3 : Nat) (s4 : Nat)  : Mi l D cs yX8_drawn W_X8_drawn 1 20 0 0 [.ref a0, .int k, .int k2] [(a0, .inr (8, [.ref aT, .ref aD, .ref aO, .ref aR, .ref aS, .ref aJ, .ref aC, .ref aI, .ref aK, .ref aL])), (aO, .inr (0, [.int 0, .int 0, .int 0, .int 0, .int 0, .int 0, .int 0, .int 0, .int 0, .int 0, .ref o1, .ref o2, .ref o3, .ref o4, .ref o5])), (aS, .inr (6, [.int 0, .int 0, .int 0, .long 0, .ref s1, .ref s2, .ref s3, .ref s4]))] sz (fun (r : Int32) (u : Unit) => r = (-2)) (fun (u : Unit) => []) := by
  refine ent (D := D) (cs := cs) (y := yX8_drawn) (ws := W_X8_drawn) (As := [.ref a0, .int k, .int k2]) (W0 := [(a0, .inr (8, [.ref aT, .ref aD, .ref aO, .ref aR, .ref aS, .ref aJ, .ref aC, .ref aI, .ref aK, .ref aL])), (aO, .inr (0, [.int 0, .int 0, .int 0, .int 0, .int 0, .int 0, .int 0, .int 0, .int 0, .int 0, .ref o1, .ref o2, .ref o3, .ref o4, .ref o5])), (aS, .inr (6, [.int 0, .int 0, .int 0, .long 0, .ref s1, .ref s2, .ref s3, .ref s4]))]) (Qx := fun A => va_Qi (fun (r : Int32) (u : Unit) => r = (-2)) (mpost D A (fun (u : Unit) => [])) A) (maxL := 4) (ret := (some .int)) (by decide) rfl (Nat.le_of_ble_eq_true rfl) ?_
  intro p e s m below meth c A ls hx hb hr hml hlk hown hts hin hK hE hP hD hA hS hl
  have hl : lv_has ls 4 [(0, .ref a0), (1, .int k), (2, .int k2)] := hl
  generalize hHe : s.heap = H at hP
  have hS : va_S A s.heap H [] := hHe ▸ hS
  have htw : ∀ w ∈ O_X8_drawn, w.before ([.ref a0, .int k, .int k2] : List Value).toArray s = true := fun w h => hts w (List.mem_cons_of_mem _ (List.mem_append_left _ h))
  have hFix := (⟨hx, hb, hml, hown, hts⟩ : CallFix p m c _ _ s _ _ _)
  refine lv_aload_n hx hb dX8_drawn_0 rfl (lv_at hl 0 rfl) ?_
  refine aft_i (wr := [(aS, .inr (6, [.int 0, .int 0, .int 0, .long 0, .ref s1, .ref s2, .ref s3, .ref s4]))]) hP hD hS hA [0, 1] [2] rfl rfl (by decide) (by decide) (run_v (As := []) (rest := []) hFix hK hE hP hD [0, 1] (k_X8_isTold l D cs _ a0 aT aD aO aR aS aJ aC aI aK aL o1 o2 o3 o4 o5) (cwV 0 hts gc_X8_drawn_120_X8_isTold rfl rfl rfl (by decide +kernel) ⟨Nat.le_of_ble_eq_true rfl, Nat.le_of_ble_eq_true rfl⟩) rfl (by decide) rfl rfl rfl hl.1 rfl (Nat.le_of_ble_eq_true rfl) dX8_drawn_1 ⟨Nat.le_of_ble_eq_true rfl, Nat.le_of_ble_eq_true rfl⟩) (fun r_1 u_1 H locs hq_1 hP hD hS => ?_)
  have hP : va_P D vwCl [(aS, .inr (6, [.int 0, .int 0, .int 0, .long 0, .ref s1, .ref s2, .ref s3, .ref s4])), (a0, .inr (8, [.ref aT, .ref aD, .ref aO, .ref aR, .ref aS, .ref aJ, .ref aC, .ref aI, .ref aK, .ref aL])), (aO, .inr (0, [.int 0, .int 0, .int 0, .int 0, .int 0, .int 0, .int 0, .int 0, .int 0, .int 0, .ref o1, .ref o2, .ref o3, .ref o4, .ref o5]))] H := hP
  have hD : va_D A [(aS, .inr (6, [.int 0, .int 0, .int 0, .long 0, .ref s1, .ref s2, .ref s3, .ref s4])), (a0, .inr (8, [.ref aT, .ref aD, .ref aO, .ref aR, .ref aS, .ref aJ, .ref aC, .ref aI, .ref aK, .ref aL])), (aO, .inr (0, [.int 0, .int 0, .int 0, .int 0, .int 0, .int 0, .int 0, .int 0, .int 0, .int 0, .ref o1, .ref o2, .ref o3, .ref o4, .ref o5]))] := hD
  replace hq_1 : r_1 = 0 := hq_1
  subst hq_1
  refine lv_if_eq (tgt := 27) hx hb dX8_drawn_4 (by decide) (fun _ => ?_) (fun h9 => absurd h9 (by decide))
  refine lv_bipush (v := (-2)) hx hb dX8_drawn_27 (by decide) ?_
  exact ret_i hx hb hr hlk hS (Nat.le_of_ble_eq_true rfl) (Nat.le_of_ble_eq_true rfl) () (rfl) (hP.sub [] rfl) (hD.sub [] (by decide) rfl) dX8_drawn_29

set_option maxHeartbeats 4000000 in
set_option maxRecDepth 100000 in
theorem k_X8_luck (l : Launch) (D : va_G) (cs : Nat → ClassId) (sz : Nat) (a0 : Nat) (k : Int32) (k2 : Int32) (aT : Nat) (aD : Nat) (aO : Nat) (aR : Nat) (aS : Nat) (aJ : Nat) (aC : Nat) (aI : Nat) (aK : Nat) (aL : Nat) (o1 : Nat) (o2 : Nat) (o3 : Nat) (o4 : Nat) (o5 : Nat) (s1 : Nat) (s2 : Nat) (s3 : Nat) (s4 : Nat)  : Mi l D cs yX8_luck W_X8_luck 1 20 0 0 [.ref a0, .int k, .int k2] [(a0, .inr (8, [.ref aT, .ref aD, .ref aO, .ref aR, .ref aS, .ref aJ, .ref aC, .ref aI, .ref aK, .ref aL])), (aO, .inr (0, [.int 0, .int 0, .int 0, .int 0, .int 0, .int 0, .int 0, .int 0, .int 0, .int 0, .ref o1, .ref o2, .ref o3, .ref o4, .ref o5])), (aS, .inr (6, [.int 0, .int 0, .int 0, .long 0, .ref s1, .ref s2, .ref s3, .ref s4]))] sz (fun (r : Int32) (u : Unit) => r = (-2)) (fun (u : Unit) => []) := by
  refine ent (D := D) (cs := cs) (y := yX8_luck) (ws := W_X8_luck) (As := [.ref a0, .int k, .int k2]) (W0 := [(a0, .inr (8, [.ref aT, .ref aD, .ref aO, .ref aR, .ref aS, .ref aJ, .ref aC, .ref aI, .ref aK, .ref aL])), (aO, .inr (0, [.int 0, .int 0, .int 0, .int 0, .int 0, .int 0, .int 0, .int 0, .int 0, .int 0, .ref o1, .ref o2, .ref o3, .ref o4, .ref o5])), (aS, .inr (6, [.int 0, .int 0, .int 0, .long 0, .ref s1, .ref s2, .ref s3, .ref s4]))]) (Qx := fun A => va_Qi (fun (r : Int32) (u : Unit) => r = (-2)) (mpost D A (fun (u : Unit) => [])) A) (maxL := 5) (ret := (some .int)) (by decide) rfl (Nat.le_of_ble_eq_true rfl) ?_
  intro p e s m below meth c A ls hx hb hr hml hlk hown hts hin hK hE hP hD hA hS hl
  have hl : lv_has ls 5 [(0, .ref a0), (1, .int k), (2, .int k2)] := hl
  generalize hHe : s.heap = H at hP
  have hS : va_S A s.heap H [] := hHe ▸ hS
  have htw : ∀ w ∈ O_X8_luck, w.before ([.ref a0, .int k, .int k2] : List Value).toArray s = true := fun w h => hts w (List.mem_cons_of_mem _ (List.mem_append_left _ h))
  have hFix := (⟨hx, hb, hml, hown, hts⟩ : CallFix p m c _ _ s _ _ _)
  refine lv_aload_n hx hb dX8_luck_0 rfl (lv_at hl 0 rfl) ?_
  refine aft_i (wr := [(aS, .inr (6, [.int 0, .int 0, .int 0, .long 0, .ref s1, .ref s2, .ref s3, .ref s4]))]) hP hD hS hA [0, 1] [2] rfl rfl (by decide) (by decide) (run_v (As := []) (rest := []) hFix hK hE hP hD [0, 1] (k_X8_isTold l D cs _ a0 aT aD aO aR aS aJ aC aI aK aL o1 o2 o3 o4 o5) (cwV 0 hts gc_X8_luck_120_X8_isTold rfl rfl rfl (by decide +kernel) ⟨Nat.le_of_ble_eq_true rfl, Nat.le_of_ble_eq_true rfl⟩) rfl (by decide) rfl rfl rfl hl.1 rfl (Nat.le_of_ble_eq_true rfl) dX8_luck_1 ⟨Nat.le_of_ble_eq_true rfl, Nat.le_of_ble_eq_true rfl⟩) (fun r_1 u_1 H locs hq_1 hP hD hS => ?_)
  have hP : va_P D vwCl [(aS, .inr (6, [.int 0, .int 0, .int 0, .long 0, .ref s1, .ref s2, .ref s3, .ref s4])), (a0, .inr (8, [.ref aT, .ref aD, .ref aO, .ref aR, .ref aS, .ref aJ, .ref aC, .ref aI, .ref aK, .ref aL])), (aO, .inr (0, [.int 0, .int 0, .int 0, .int 0, .int 0, .int 0, .int 0, .int 0, .int 0, .int 0, .ref o1, .ref o2, .ref o3, .ref o4, .ref o5]))] H := hP
  have hD : va_D A [(aS, .inr (6, [.int 0, .int 0, .int 0, .long 0, .ref s1, .ref s2, .ref s3, .ref s4])), (a0, .inr (8, [.ref aT, .ref aD, .ref aO, .ref aR, .ref aS, .ref aJ, .ref aC, .ref aI, .ref aK, .ref aL])), (aO, .inr (0, [.int 0, .int 0, .int 0, .int 0, .int 0, .int 0, .int 0, .int 0, .int 0, .int 0, .ref o1, .ref o2, .ref o3, .ref o4, .ref o5]))] := hD
  replace hq_1 : r_1 = 0 := hq_1
  subst hq_1
  refine lv_if_eq (tgt := 29) hx hb dX8_luck_4 (by decide) (fun _ => ?_) (fun h9 => absurd h9 (by decide))
  refine lv_bipush (v := (-2)) hx hb dX8_luck_29 (by decide) ?_
  exact ret_i hx hb hr hlk hS (Nat.le_of_ble_eq_true rfl) (Nat.le_of_ble_eq_true rfl) () (rfl) (hP.sub [] rfl) (hD.sub [] (by decide) rfl) dX8_luck_31

set_option maxHeartbeats 4000000 in
set_option maxRecDepth 100000 in
theorem k_X8_rate (l : Launch) (D : va_G) (cs : Nat → ClassId) (sz : Nat) (a0 : Nat) (k : Int32) (k2 : Int32) (aT : Nat) (aD : Nat) (aO : Nat) (aR : Nat) (aS : Nat) (aJ : Nat) (aC : Nat) (aI : Nat) (aK : Nat) (aL : Nat) (o1 : Nat) (o2 : Nat) (o3 : Nat) (o4 : Nat) (o5 : Nat) (s1 : Nat) (s2 : Nat) (s3 : Nat) (s4 : Nat)  : Mi l D cs yX8_rate W_X8_rate 1 21 0 0 [.ref a0, .int k, .int k2] [(a0, .inr (8, [.ref aT, .ref aD, .ref aO, .ref aR, .ref aS, .ref aJ, .ref aC, .ref aI, .ref aK, .ref aL])), (aO, .inr (0, [.int 0, .int 0, .int 0, .int 0, .int 0, .int 0, .int 0, .int 0, .int 0, .int 0, .ref o1, .ref o2, .ref o3, .ref o4, .ref o5])), (aS, .inr (6, [.int 0, .int 0, .int 0, .long 0, .ref s1, .ref s2, .ref s3, .ref s4]))] sz (fun (r : Int32) (u : Unit) => r = (-2)) (fun (u : Unit) => []) := by
  refine ent (D := D) (cs := cs) (y := yX8_rate) (ws := W_X8_rate) (As := [.ref a0, .int k, .int k2]) (W0 := [(a0, .inr (8, [.ref aT, .ref aD, .ref aO, .ref aR, .ref aS, .ref aJ, .ref aC, .ref aI, .ref aK, .ref aL])), (aO, .inr (0, [.int 0, .int 0, .int 0, .int 0, .int 0, .int 0, .int 0, .int 0, .int 0, .int 0, .ref o1, .ref o2, .ref o3, .ref o4, .ref o5])), (aS, .inr (6, [.int 0, .int 0, .int 0, .long 0, .ref s1, .ref s2, .ref s3, .ref s4]))]) (Qx := fun A => va_Qi (fun (r : Int32) (u : Unit) => r = (-2)) (mpost D A (fun (u : Unit) => [])) A) (maxL := 4) (ret := (some .int)) (by decide) rfl (Nat.le_of_ble_eq_true rfl) ?_
  intro p e s m below meth c A ls hx hb hr hml hlk hown hts hin hK hE hP hD hA hS hl
  have hl : lv_has ls 4 [(0, .ref a0), (1, .int k), (2, .int k2)] := hl
  generalize hHe : s.heap = H at hP
  have hS : va_S A s.heap H [] := hHe ▸ hS
  have htw : ∀ w ∈ O_X8_rate, w.before ([.ref a0, .int k, .int k2] : List Value).toArray s = true := fun w h => hts w (List.mem_cons_of_mem _ (List.mem_append_left _ h))
  have hFix := (⟨hx, hb, hml, hown, hts⟩ : CallFix p m c _ _ s _ _ _)
  refine lv_aload_n hx hb dX8_rate_0 rfl (lv_at hl 0 rfl) ?_
  refine lv_iload_n hx hb dX8_rate_1 rfl (lv_at hl 1 rfl) ?_
  refine aft_i (wr := [(aS, .inr (6, [.int 0, .int 0, .int 0, .long 0, .ref s1, .ref s2, .ref s3, .ref s4]))]) hP hD hS hA [0, 1] [2] rfl rfl (by decide) (by decide) (run_v (As := [.int k]) (rest := []) hFix hK hE hP hD [0, 1] (k_X8_noCell l D cs _ a0 k aT aD aO aR aS aJ aC aI aK aL o1 o2 o3 o4 o5) (cwV 1 hts gc_X8_rate_100_X8_noCell rfl rfl rfl (by decide +kernel) ⟨Nat.le_of_ble_eq_true rfl, Nat.le_of_ble_eq_true rfl⟩) rfl (by decide) rfl rfl rfl hl.1 rfl (Nat.le_of_ble_eq_true rfl) dX8_rate_2 ⟨Nat.le_of_ble_eq_true rfl, Nat.le_of_ble_eq_true rfl⟩) (fun r_1 u_1 H locs hq_1 hP hD hS => ?_)
  have hP : va_P D vwCl [(aS, .inr (6, [.int 0, .int 0, .int 0, .long 0, .ref s1, .ref s2, .ref s3, .ref s4])), (a0, .inr (8, [.ref aT, .ref aD, .ref aO, .ref aR, .ref aS, .ref aJ, .ref aC, .ref aI, .ref aK, .ref aL])), (aO, .inr (0, [.int 0, .int 0, .int 0, .int 0, .int 0, .int 0, .int 0, .int 0, .int 0, .int 0, .ref o1, .ref o2, .ref o3, .ref o4, .ref o5]))] H := hP
  have hD : va_D A [(aS, .inr (6, [.int 0, .int 0, .int 0, .long 0, .ref s1, .ref s2, .ref s3, .ref s4])), (a0, .inr (8, [.ref aT, .ref aD, .ref aO, .ref aR, .ref aS, .ref aJ, .ref aC, .ref aI, .ref aK, .ref aL])), (aO, .inr (0, [.int 0, .int 0, .int 0, .int 0, .int 0, .int 0, .int 0, .int 0, .int 0, .int 0, .ref o1, .ref o2, .ref o3, .ref o4, .ref o5]))] := hD
  replace hq_1 : r_1 = 1 := hq_1
  subst hq_1
  refine lv_if_ne (tgt := 17) hx hb dX8_rate_5 (by decide) (fun _ => ?_) (fun h9 => absurd h9 (by decide))
  refine lv_bipush (v := (-2)) hx hb dX8_rate_17 (by decide) ?_
  exact ret_i hx hb hr hlk hS (Nat.le_of_ble_eq_true rfl) (Nat.le_of_ble_eq_true rfl) () (rfl) (hP.sub [] rfl) (hD.sub [] (by decide) rfl) dX8_rate_19

set_option maxHeartbeats 4000000 in
set_option maxRecDepth 100000 in
theorem k_X8_share (l : Launch) (D : va_G) (cs : Nat → ClassId) (sz : Nat) (a0 : Nat) (k : Int32) (k2 : Int32) (aT : Nat) (aD : Nat) (aO : Nat) (aR : Nat) (aS : Nat) (aJ : Nat) (aC : Nat) (aI : Nat) (aK : Nat) (aL : Nat) (o1 : Nat) (o2 : Nat) (o3 : Nat) (o4 : Nat) (o5 : Nat) (s1 : Nat) (s2 : Nat) (s3 : Nat) (s4 : Nat)  : Mi l D cs yX8_share W_X8_share 1 21 0 0 [.ref a0, .int k, .int k2] [(a0, .inr (8, [.ref aT, .ref aD, .ref aO, .ref aR, .ref aS, .ref aJ, .ref aC, .ref aI, .ref aK, .ref aL])), (aO, .inr (0, [.int 0, .int 0, .int 0, .int 0, .int 0, .int 0, .int 0, .int 0, .int 0, .int 0, .ref o1, .ref o2, .ref o3, .ref o4, .ref o5])), (aS, .inr (6, [.int 0, .int 0, .int 0, .long 0, .ref s1, .ref s2, .ref s3, .ref s4]))] sz (fun (r : Int32) (u : Unit) => r = (-1000000)) (fun (u : Unit) => []) := by
  refine ent (D := D) (cs := cs) (y := yX8_share) (ws := W_X8_share) (As := [.ref a0, .int k, .int k2]) (W0 := [(a0, .inr (8, [.ref aT, .ref aD, .ref aO, .ref aR, .ref aS, .ref aJ, .ref aC, .ref aI, .ref aK, .ref aL])), (aO, .inr (0, [.int 0, .int 0, .int 0, .int 0, .int 0, .int 0, .int 0, .int 0, .int 0, .int 0, .ref o1, .ref o2, .ref o3, .ref o4, .ref o5])), (aS, .inr (6, [.int 0, .int 0, .int 0, .long 0, .ref s1, .ref s2, .ref s3, .ref s4]))]) (Qx := fun A => va_Qi (fun (r : Int32) (u : Unit) => r = (-1000000)) (mpost D A (fun (u : Unit) => [])) A) (maxL := 3) (ret := (some .int)) (by decide) rfl (Nat.le_of_ble_eq_true rfl) ?_
  intro p e s m below meth c A ls hx hb hr hml hlk hown hts hin hK hE hP hD hA hS hl
  have hl : lv_has ls 3 [(0, .ref a0), (1, .int k), (2, .int k2)] := hl
  generalize hHe : s.heap = H at hP
  have hS : va_S A s.heap H [] := hHe ▸ hS
  have htw : ∀ w ∈ O_X8_share, w.before ([.ref a0, .int k, .int k2] : List Value).toArray s = true := fun w h => hts w (List.mem_cons_of_mem _ (List.mem_append_left _ h))
  have hFix := (⟨hx, hb, hml, hown, hts⟩ : CallFix p m c _ _ s _ _ _)
  refine lv_aload_n hx hb dX8_share_0 rfl (lv_at hl 0 rfl) ?_
  refine lv_iload_n hx hb dX8_share_1 rfl (lv_at hl 1 rfl) ?_
  refine aft_i (wr := [(aS, .inr (6, [.int 0, .int 0, .int 0, .long 0, .ref s1, .ref s2, .ref s3, .ref s4]))]) hP hD hS hA [0, 1] [2] rfl rfl (by decide) (by decide) (run_v (As := [.int k]) (rest := []) hFix hK hE hP hD [0, 1] (k_X8_noRule l D cs _ a0 k aT aD aO aR aS aJ aC aI aK aL o1 o2 o3 o4 o5) (cwV 1 hts gc_X8_share_108_X8_noRule rfl rfl rfl (by decide +kernel) ⟨Nat.le_of_ble_eq_true rfl, Nat.le_of_ble_eq_true rfl⟩) rfl (by decide) rfl rfl rfl hl.1 rfl (Nat.le_of_ble_eq_true rfl) dX8_share_2 ⟨Nat.le_of_ble_eq_true rfl, Nat.le_of_ble_eq_true rfl⟩) (fun r_1 u_1 H locs hq_1 hP hD hS => ?_)
  have hP : va_P D vwCl [(aS, .inr (6, [.int 0, .int 0, .int 0, .long 0, .ref s1, .ref s2, .ref s3, .ref s4])), (a0, .inr (8, [.ref aT, .ref aD, .ref aO, .ref aR, .ref aS, .ref aJ, .ref aC, .ref aI, .ref aK, .ref aL])), (aO, .inr (0, [.int 0, .int 0, .int 0, .int 0, .int 0, .int 0, .int 0, .int 0, .int 0, .int 0, .ref o1, .ref o2, .ref o3, .ref o4, .ref o5]))] H := hP
  have hD : va_D A [(aS, .inr (6, [.int 0, .int 0, .int 0, .long 0, .ref s1, .ref s2, .ref s3, .ref s4])), (a0, .inr (8, [.ref aT, .ref aD, .ref aO, .ref aR, .ref aS, .ref aJ, .ref aC, .ref aI, .ref aK, .ref aL])), (aO, .inr (0, [.int 0, .int 0, .int 0, .int 0, .int 0, .int 0, .int 0, .int 0, .int 0, .int 0, .ref o1, .ref o2, .ref o3, .ref o4, .ref o5]))] := hD
  replace hq_1 : r_1 = 1 := hq_1
  subst hq_1
  refine lv_if_ne (tgt := 17) hx hb dX8_share_5 (by decide) (fun _ => ?_) (fun h9 => absurd h9 (by decide))
  refine lv_ldcw (v := (-1000000)) hx hb hown (htw (.constant RX8 270 (-1000000)) (List.mem_of_getElem? (i := 4) rfl)) dX8_share_17 ?_
  exact ret_i hx hb hr hlk hS (Nat.le_of_ble_eq_true rfl) (Nat.le_of_ble_eq_true rfl) () (rfl) (hP.sub [] rfl) (hD.sub [] (by decide) rfl) dX8_share_20

set_option maxHeartbeats 4000000 in
set_option maxRecDepth 100000 in
theorem k_X8_gets (l : Launch) (D : va_G) (cs : Nat → ClassId) (sz : Nat) (a0 : Nat) (k : Int32) (k2 : Int32) (k3 : Int32) (k4 : Int32) (aT : Nat) (aD : Nat) (aO : Nat) (aR : Nat) (aS : Nat) (aJ : Nat) (aC : Nat) (aI : Nat) (aK : Nat) (aL : Nat) (o1 : Nat) (o2 : Nat) (o3 : Nat) (o4 : Nat) (o5 : Nat) (s1 : Nat) (s2 : Nat) (s3 : Nat) (s4 : Nat)  : Mi l D cs yX8_gets W_X8_gets 2 43 0 0 [.ref a0, .int k, .int k2, .int k3, .int k4] [(a0, .inr (8, [.ref aT, .ref aD, .ref aO, .ref aR, .ref aS, .ref aJ, .ref aC, .ref aI, .ref aK, .ref aL])), (aO, .inr (0, [.int 0, .int 0, .int 0, .int 0, .int 0, .int 0, .int 0, .int 0, .int 0, .int 0, .ref o1, .ref o2, .ref o3, .ref o4, .ref o5])), (aS, .inr (6, [.int 0, .int 0, .int 0, .long 0, .ref s1, .ref s2, .ref s3, .ref s4]))] sz (fun (r : Int32) (u : Unit) => r = (-1000000)) (fun (u : Unit) => []) := by
  refine ent (D := D) (cs := cs) (y := yX8_gets) (ws := W_X8_gets) (As := [.ref a0, .int k, .int k2, .int k3, .int k4]) (W0 := [(a0, .inr (8, [.ref aT, .ref aD, .ref aO, .ref aR, .ref aS, .ref aJ, .ref aC, .ref aI, .ref aK, .ref aL])), (aO, .inr (0, [.int 0, .int 0, .int 0, .int 0, .int 0, .int 0, .int 0, .int 0, .int 0, .int 0, .ref o1, .ref o2, .ref o3, .ref o4, .ref o5])), (aS, .inr (6, [.int 0, .int 0, .int 0, .long 0, .ref s1, .ref s2, .ref s3, .ref s4]))]) (Qx := fun A => va_Qi (fun (r : Int32) (u : Unit) => r = (-1000000)) (mpost D A (fun (u : Unit) => [])) A) (maxL := 5) (ret := (some .int)) (by decide) rfl (Nat.le_of_ble_eq_true rfl) ?_
  intro p e s m below meth c A ls hx hb hr hml hlk hown hts hin hK hE hP hD hA hS hl
  have hl : lv_has ls 5 [(0, .ref a0), (1, .int k), (2, .int k2), (3, .int k3), (4, .int k4)] := hl
  generalize hHe : s.heap = H at hP
  have hS : va_S A s.heap H [] := hHe ▸ hS
  have htw : ∀ w ∈ O_X8_gets, w.before ([.ref a0, .int k, .int k2, .int k3, .int k4] : List Value).toArray s = true := fun w h => hts w (List.mem_cons_of_mem _ (List.mem_append_left _ h))
  have hFix := (⟨hx, hb, hml, hown, hts⟩ : CallFix p m c _ _ s _ _ _)
  refine lv_aload_n hx hb dX8_gets_0 rfl (lv_at hl 0 rfl) ?_
  refine lv_iload_n hx hb dX8_gets_1 rfl (lv_at hl 1 rfl) ?_
  refine lv_iload_n hx hb dX8_gets_2 rfl (lv_at hl 2 rfl) ?_
  refine aft_i (wr := [(aS, .inr (6, [.int 0, .int 0, .int 0, .long 0, .ref s1, .ref s2, .ref s3, .ref s4]))]) hP hD hS hA [0, 1] [2] rfl rfl (by decide) (by decide) (run_v (As := [.int k, .int k2]) (rest := []) hFix hK hE hP hD [0, 1] (k_X8_noGame l D cs _ a0 k k2 aT aD aO aR aS aJ aC aI aK aL o1 o2 o3 o4 o5) (cwV 2 hts gc_X8_gets_275_X8_noGame rfl rfl rfl (by decide +kernel) ⟨Nat.le_of_ble_eq_true rfl, Nat.le_of_ble_eq_true rfl⟩) rfl (by decide) rfl rfl rfl hl.1 rfl (Nat.le_of_ble_eq_true rfl) dX8_gets_3 ⟨Nat.le_of_ble_eq_true rfl, Nat.le_of_ble_eq_true rfl⟩) (fun r_1 u_1 H locs hq_1 hP hD hS => ?_)
  have hP : va_P D vwCl [(aS, .inr (6, [.int 0, .int 0, .int 0, .long 0, .ref s1, .ref s2, .ref s3, .ref s4])), (a0, .inr (8, [.ref aT, .ref aD, .ref aO, .ref aR, .ref aS, .ref aJ, .ref aC, .ref aI, .ref aK, .ref aL])), (aO, .inr (0, [.int 0, .int 0, .int 0, .int 0, .int 0, .int 0, .int 0, .int 0, .int 0, .int 0, .ref o1, .ref o2, .ref o3, .ref o4, .ref o5]))] H := hP
  have hD : va_D A [(aS, .inr (6, [.int 0, .int 0, .int 0, .long 0, .ref s1, .ref s2, .ref s3, .ref s4])), (a0, .inr (8, [.ref aT, .ref aD, .ref aO, .ref aR, .ref aS, .ref aJ, .ref aC, .ref aI, .ref aK, .ref aL])), (aO, .inr (0, [.int 0, .int 0, .int 0, .int 0, .int 0, .int 0, .int 0, .int 0, .int 0, .int 0, .ref o1, .ref o2, .ref o3, .ref o4, .ref o5]))] := hD
  replace hq_1 : r_1 = 1 := hq_1
  subst hq_1
  refine lv_if_ne (tgt := 29) hx hb dX8_gets_6 (by decide) (fun _ => ?_) (fun h9 => absurd h9 (by decide))
  refine lv_ldcw (v := (-1000000)) hx hb hown (htw (.constant RX8 270 (-1000000)) (List.mem_of_getElem? (i := 4) rfl)) dX8_gets_29 ?_
  exact ret_i hx hb hr hlk hS (Nat.le_of_ble_eq_true rfl) (Nat.le_of_ble_eq_true rfl) () (rfl) (hP.sub [] rfl) (hD.sub [] (by decide) rfl) dX8_gets_32

set_option maxHeartbeats 4000000 in
set_option maxRecDepth 100000 in
theorem k_X8_chance (l : Launch) (D : va_G) (cs : Nat → ClassId) (sz : Nat) (a0 : Nat) (k : Int32) (aT : Nat) (aD : Nat) (aO : Nat) (aR : Nat) (aS : Nat) (aJ : Nat) (aC : Nat) (aI : Nat) (aK : Nat) (aL : Nat) (o1 : Nat) (o2 : Nat) (o3 : Nat) (o4 : Nat) (o5 : Nat) (s1 : Nat) (s2 : Nat) (s3 : Nat) (s4 : Nat)  : Ml l D cs yX8_chance W_X8_chance 1 20 0 0 [.ref a0, .int k] [(a0, .inr (8, [.ref aT, .ref aD, .ref aO, .ref aR, .ref aS, .ref aJ, .ref aC, .ref aI, .ref aK, .ref aL])), (aO, .inr (0, [.int 0, .int 0, .int 0, .int 0, .int 0, .int 0, .int 0, .int 0, .int 0, .int 0, .ref o1, .ref o2, .ref o3, .ref o4, .ref o5])), (aS, .inr (6, [.int 0, .int 0, .int 0, .long 0, .ref s1, .ref s2, .ref s3, .ref s4]))] sz (fun (r : Int64) (u : Unit) => r = (-2)) (fun (u : Unit) => []) := by
  refine ent (D := D) (cs := cs) (y := yX8_chance) (ws := W_X8_chance) (As := [.ref a0, .int k]) (W0 := [(a0, .inr (8, [.ref aT, .ref aD, .ref aO, .ref aR, .ref aS, .ref aJ, .ref aC, .ref aI, .ref aK, .ref aL])), (aO, .inr (0, [.int 0, .int 0, .int 0, .int 0, .int 0, .int 0, .int 0, .int 0, .int 0, .int 0, .ref o1, .ref o2, .ref o3, .ref o4, .ref o5])), (aS, .inr (6, [.int 0, .int 0, .int 0, .long 0, .ref s1, .ref s2, .ref s3, .ref s4]))]) (Qx := fun A => va_Ql (fun (r : Int64) (u : Unit) => r = (-2)) (mpost D A (fun (u : Unit) => [])) A) (maxL := 2) (ret := (some .long)) (by decide) rfl (Nat.le_of_ble_eq_true rfl) ?_
  intro p e s m below meth c A ls hx hb hr hml hlk hown hts hin hK hE hP hD hA hS hl
  have hl : lv_has ls 2 [(0, .ref a0), (1, .int k)] := hl
  generalize hHe : s.heap = H at hP
  have hS : va_S A s.heap H [] := hHe ▸ hS
  have htw : ∀ w ∈ O_X8_chance, w.before ([.ref a0, .int k] : List Value).toArray s = true := fun w h => hts w (List.mem_cons_of_mem _ (List.mem_append_left _ h))
  have hFix := (⟨hx, hb, hml, hown, hts⟩ : CallFix p m c _ _ s _ _ _)
  refine lv_aload_n hx hb dX8_chance_0 rfl (lv_at hl 0 rfl) ?_
  refine aft_i (wr := [(aS, .inr (6, [.int 0, .int 0, .int 0, .long 0, .ref s1, .ref s2, .ref s3, .ref s4]))]) hP hD hS hA [0, 1] [2] rfl rfl (by decide) (by decide) (run_v (As := []) (rest := []) hFix hK hE hP hD [0, 1] (k_X8_isTold l D cs _ a0 aT aD aO aR aS aJ aC aI aK aL o1 o2 o3 o4 o5) (cwV 0 hts gc_X8_chance_120_X8_isTold rfl rfl rfl (by decide +kernel) ⟨Nat.le_of_ble_eq_true rfl, Nat.le_of_ble_eq_true rfl⟩) rfl (by decide) rfl rfl rfl hl.1 rfl (Nat.le_of_ble_eq_true rfl) dX8_chance_1 ⟨Nat.le_of_ble_eq_true rfl, Nat.le_of_ble_eq_true rfl⟩) (fun r_1 u_1 H locs hq_1 hP hD hS => ?_)
  have hP : va_P D vwCl [(aS, .inr (6, [.int 0, .int 0, .int 0, .long 0, .ref s1, .ref s2, .ref s3, .ref s4])), (a0, .inr (8, [.ref aT, .ref aD, .ref aO, .ref aR, .ref aS, .ref aJ, .ref aC, .ref aI, .ref aK, .ref aL])), (aO, .inr (0, [.int 0, .int 0, .int 0, .int 0, .int 0, .int 0, .int 0, .int 0, .int 0, .int 0, .ref o1, .ref o2, .ref o3, .ref o4, .ref o5]))] H := hP
  have hD : va_D A [(aS, .inr (6, [.int 0, .int 0, .int 0, .long 0, .ref s1, .ref s2, .ref s3, .ref s4])), (a0, .inr (8, [.ref aT, .ref aD, .ref aO, .ref aR, .ref aS, .ref aJ, .ref aC, .ref aI, .ref aK, .ref aL])), (aO, .inr (0, [.int 0, .int 0, .int 0, .int 0, .int 0, .int 0, .int 0, .int 0, .int 0, .int 0, .ref o1, .ref o2, .ref o3, .ref o4, .ref o5]))] := hD
  replace hq_1 : r_1 = 0 := hq_1
  subst hq_1
  refine lv_if_eq (tgt := 16) hx hb dX8_chance_4 (by decide) (fun _ => ?_) (fun h9 => absurd h9 (by decide))
  refine lv_ldc2 (v := (-2)) hx hb hown (htw (.constantLong RX8 285 (-2)) (List.mem_of_getElem? (i := 4) rfl)) dX8_chance_16 ?_
  refine lv_goto (tgt := 30) hx hb dX8_chance_19 (by decide) ?_
  exact ret_l hx hb hr hlk hS (Nat.le_of_ble_eq_true rfl) (Nat.le_of_ble_eq_true rfl) () (rfl) (hP.sub [] rfl) (hD.sub [] (by decide) rfl) dX8_chance_30

set_option maxHeartbeats 4000000 in
set_option maxRecDepth 100000 in
theorem k_X8_mean (l : Launch) (D : va_G) (cs : Nat → ClassId) (sz : Nat) (a0 : Nat) (k : Int32) (aT : Nat) (aD : Nat) (aO : Nat) (aR : Nat) (aS : Nat) (aJ : Nat) (aC : Nat) (aI : Nat) (aK : Nat) (aL : Nat) (o1 : Nat) (o2 : Nat) (o3 : Nat) (o4 : Nat) (o5 : Nat) (s1 : Nat) (s2 : Nat) (s3 : Nat) (s4 : Nat)  : Ml l D cs yX8_mean W_X8_mean 1 20 0 0 [.ref a0, .int k] [(a0, .inr (8, [.ref aT, .ref aD, .ref aO, .ref aR, .ref aS, .ref aJ, .ref aC, .ref aI, .ref aK, .ref aL])), (aO, .inr (0, [.int 0, .int 0, .int 0, .int 0, .int 0, .int 0, .int 0, .int 0, .int 0, .int 0, .ref o1, .ref o2, .ref o3, .ref o4, .ref o5])), (aS, .inr (6, [.int 0, .int 0, .int 0, .long 0, .ref s1, .ref s2, .ref s3, .ref s4]))] sz (fun (r : Int64) (u : Unit) => r = (-2)) (fun (u : Unit) => []) := by
  refine ent (D := D) (cs := cs) (y := yX8_mean) (ws := W_X8_mean) (As := [.ref a0, .int k]) (W0 := [(a0, .inr (8, [.ref aT, .ref aD, .ref aO, .ref aR, .ref aS, .ref aJ, .ref aC, .ref aI, .ref aK, .ref aL])), (aO, .inr (0, [.int 0, .int 0, .int 0, .int 0, .int 0, .int 0, .int 0, .int 0, .int 0, .int 0, .ref o1, .ref o2, .ref o3, .ref o4, .ref o5])), (aS, .inr (6, [.int 0, .int 0, .int 0, .long 0, .ref s1, .ref s2, .ref s3, .ref s4]))]) (Qx := fun A => va_Ql (fun (r : Int64) (u : Unit) => r = (-2)) (mpost D A (fun (u : Unit) => [])) A) (maxL := 2) (ret := (some .long)) (by decide) rfl (Nat.le_of_ble_eq_true rfl) ?_
  intro p e s m below meth c A ls hx hb hr hml hlk hown hts hin hK hE hP hD hA hS hl
  have hl : lv_has ls 2 [(0, .ref a0), (1, .int k)] := hl
  generalize hHe : s.heap = H at hP
  have hS : va_S A s.heap H [] := hHe ▸ hS
  have htw : ∀ w ∈ O_X8_mean, w.before ([.ref a0, .int k] : List Value).toArray s = true := fun w h => hts w (List.mem_cons_of_mem _ (List.mem_append_left _ h))
  have hFix := (⟨hx, hb, hml, hown, hts⟩ : CallFix p m c _ _ s _ _ _)
  refine lv_aload_n hx hb dX8_mean_0 rfl (lv_at hl 0 rfl) ?_
  refine aft_i (wr := [(aS, .inr (6, [.int 0, .int 0, .int 0, .long 0, .ref s1, .ref s2, .ref s3, .ref s4]))]) hP hD hS hA [0, 1] [2] rfl rfl (by decide) (by decide) (run_v (As := []) (rest := []) hFix hK hE hP hD [0, 1] (k_X8_isTold l D cs _ a0 aT aD aO aR aS aJ aC aI aK aL o1 o2 o3 o4 o5) (cwV 0 hts gc_X8_mean_120_X8_isTold rfl rfl rfl (by decide +kernel) ⟨Nat.le_of_ble_eq_true rfl, Nat.le_of_ble_eq_true rfl⟩) rfl (by decide) rfl rfl rfl hl.1 rfl (Nat.le_of_ble_eq_true rfl) dX8_mean_1 ⟨Nat.le_of_ble_eq_true rfl, Nat.le_of_ble_eq_true rfl⟩) (fun r_1 u_1 H locs hq_1 hP hD hS => ?_)
  have hP : va_P D vwCl [(aS, .inr (6, [.int 0, .int 0, .int 0, .long 0, .ref s1, .ref s2, .ref s3, .ref s4])), (a0, .inr (8, [.ref aT, .ref aD, .ref aO, .ref aR, .ref aS, .ref aJ, .ref aC, .ref aI, .ref aK, .ref aL])), (aO, .inr (0, [.int 0, .int 0, .int 0, .int 0, .int 0, .int 0, .int 0, .int 0, .int 0, .int 0, .ref o1, .ref o2, .ref o3, .ref o4, .ref o5]))] H := hP
  have hD : va_D A [(aS, .inr (6, [.int 0, .int 0, .int 0, .long 0, .ref s1, .ref s2, .ref s3, .ref s4])), (a0, .inr (8, [.ref aT, .ref aD, .ref aO, .ref aR, .ref aS, .ref aJ, .ref aC, .ref aI, .ref aK, .ref aL])), (aO, .inr (0, [.int 0, .int 0, .int 0, .int 0, .int 0, .int 0, .int 0, .int 0, .int 0, .int 0, .ref o1, .ref o2, .ref o3, .ref o4, .ref o5]))] := hD
  replace hq_1 : r_1 = 0 := hq_1
  subst hq_1
  refine lv_if_eq (tgt := 16) hx hb dX8_mean_4 (by decide) (fun _ => ?_) (fun h9 => absurd h9 (by decide))
  refine lv_ldc2 (v := (-2)) hx hb hown (htw (.constantLong RX8 285 (-2)) (List.mem_of_getElem? (i := 4) rfl)) dX8_mean_16 ?_
  refine lv_goto (tgt := 30) hx hb dX8_mean_19 (by decide) ?_
  exact ret_l hx hb hr hlk hS (Nat.le_of_ble_eq_true rfl) (Nat.le_of_ble_eq_true rfl) () (rfl) (hP.sub [] rfl) (hD.sub [] (by decide) rfl) dX8_mean_30
