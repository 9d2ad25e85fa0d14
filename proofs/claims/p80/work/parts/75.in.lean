set_option maxHeartbeats 4000000 in
set_option maxRecDepth 100000 in
theorem k_X7_init (l : Launch) (D : va_G) (cs : Nat → ClassId) (sz : Nat) (h0 : Nat)  : Mv l D cs yX7_init W_X7_init 1 12 1 400 [.ref h0] [(h0, .inr (7, [.null, .int 0]))] sz (fun (u : Nat) => True) (fun (u : Nat) => [(h0, .inr (7, [.ref u, .int 0])), (u, .inl (cs 0, 400, .inl (fun _ => 0)))]) := by
  refine ent (D := D) (cs := cs) (y := yX7_init) (ws := W_X7_init) (As := [.ref h0]) (W0 := [(h0, .inr (7, [.null, .int 0]))]) (Qx := fun A => va_Qv (fun (u : Nat) => True) (mpost D A (fun (u : Nat) => [(h0, .inr (7, [.ref u, .int 0])), (u, .inl (cs 0, 400, .inl (fun _ => 0)))])) A) (maxL := 1) (ret := none) (by decide) rfl (Nat.le_of_ble_eq_true rfl) ?_
  intro p e s m below meth c A ls hx hb hr hml hlk hown hts hin hK hE hP hD hA hS hl
  have hl : lv_has ls 1 [(0, .ref h0)] := hl
  generalize hHe : s.heap = H at hP
  have hS : va_S A s.heap H [] := hHe ▸ hS
  generalize hLe : ([] : List Loc) = locs at hS ⊢
  have htw : ∀ w ∈ O_X7_init, w.before ([.ref h0] : List Value).toArray s = true := fun w h => hts w (List.mem_cons_of_mem _ (List.mem_append_left _ h))
  have hFix := (⟨hx, hb, hml, hown, hts⟩ : CallFix p m c _ _ s _ _ _)
  refine lv_aload_n hx hb dX7_init_0 rfl (lv_at hl 0 rfl) ?_
  refine W.objInit hx hb hown (htw (.methodLink RX7 3 objectInit) (List.mem_of_getElem? (i := 0) rfl)) (htw (.instanceMethod objectInit) (List.mem_of_getElem? (i := 1) rfl)) (htw (.code objectInit ⟨#[0xb1]⟩ 1 none) (List.mem_of_getElem? (i := 2) rfl)) rfl (by rw [hml]; exact hl.1) rfl dX7_init_1 (Nat.le_of_ble_eq_true rfl) (Nat.le_of_ble_eq_true rfl) ?_
  refine W.eq (g2 := F0 m 4 ls []) rfl ?_
  refine lv_aload_n hx hb dX7_init_4 rfl (lv_at hl 0 rfl) ?_
  refine lv_sipush (v := 400) hx hb dX7_init_5 (by decide) ?_
  refine va_newa (atype := .byte) (N' := 400) (a0 := (400, .inl (fun _ => 0))) hx hb (htw (.arrayClass .byte) (List.mem_of_getElem? (i := 3) rfl)) rfl hK hP hD hS hA (fun _ => rfl) (by decide) (by decide) (Nat.le_of_ble_eq_true rfl) (Nat.le_of_ble_eq_true rfl) (Nat.le_of_ble_eq_true rfl) dX7_init_8 (fun q_1 cA_2 H hK1 hP hD hS => ?_)
  cases one_ty 0 6 rfl rfl hK1 va_nm_byte
  refine W.widen (k := 1) (n := 400) (Nat.le_of_ble_eq_true rfl) (Nat.le_of_ble_eq_true rfl) ?_
  have hP : va_P D vwCl [(h0, .inr (7, [.null, .int 0])), (q_1, .inl (cs 0, 400, .inl (fun _ => 0)))] H := hP
  have hD : va_D A [(h0, .inr (7, [.null, .int 0])), (q_1, .inl (cs 0, 400, .inl (fun _ => 0)))] := hD
  refine va_putF (D := D) (ci := 7) (v := .ref q_1) (ty := (.array .byte)) (C := RX7) (T := TX7) (N := 2) hx hb hts iuX7_init_X7 tyX7 tyX7_ok nmX7 hown hK hP hD hS 0 rfl rfl 0 (by decide) (htw (.fieldLink RX7 9 "MergeJudge$Tape" "bytes" "[B") (List.mem_of_getElem? (i := 4) rfl)) (fun _ h9 => h9) rfl hin rfl (by decide +kernel) rfl rfl (Nat.le_of_ble_eq_true rfl) dX7_init_10 (fun H locs hP hD hS => ?_)
  have hP : va_P D vwCl [(h0, .inr (7, [.ref q_1, .int 0])), (q_1, .inl (cs 0, 400, .inl (fun _ => 0)))] H := hP
  have hD : va_D A [(h0, .inr (7, [.ref q_1, .int 0])), (q_1, .inl (cs 0, 400, .inl (fun _ => 0)))] := hD
  refine lv_aload_n hx hb dX7_init_13 rfl (lv_at hl 0 rfl) ?_
  refine lv_iconst (v := 0) hx hb dX7_init_14 (by decide) ?_
  refine va_put (D := D) (ci := 7) (v := .int 0) (ty := .int) (C := RX7) (T := TX7) (N := 2) hx hb hts iuX7_init_X7 tyX7 tyX7_ok nmX7 hown hK hP hD hS 0 rfl rfl 1 (by decide) (htw (.fieldLink RX7 15 "MergeJudge$Tape" "size" "I") (List.mem_of_getElem? (i := 5) rfl)) (fun _ h9 => h9) rfl (by decide +kernel) rfl rfl (Nat.le_of_ble_eq_true rfl) dX7_init_15 (fun H locs hP hD hS => ?_)
  have hP : va_P D vwCl [(h0, .inr (7, [.ref q_1, .int 0])), (q_1, .inl (cs 0, 400, .inl (fun _ => 0)))] H := hP
  have hD : va_D A [(h0, .inr (7, [.ref q_1, .int 0])), (q_1, .inl (cs 0, 400, .inl (fun _ => 0)))] := hD
  exact ret_v hx hb hr hlk hS (Nat.le_of_ble_eq_true rfl) (Nat.le_of_ble_eq_true rfl) (q_1) (trivial) (hP.sub [0, 1] rfl) (hD.sub [0, 1] (by decide) rfl) dX7_init_18

set_option maxHeartbeats 4000000 in
set_option maxRecDepth 100000 in
theorem k_X0_init (l : Launch) (D : va_G) (cs : Nat → ClassId) (sz : Nat) (h0 : Nat)  : Mv l D cs yX0_init W_X0_init 1 12 5 88 [.ref h0] [(h0, .inr (0, [.int 0, .int 0, .int 0, .int 0, .int 0, .int 0, .int 0, .int 0, .int 0, .int 0, .null, .null, .null, .null, .null]))] sz (fun (u : Nat × Nat × Nat × Nat × Nat) => True) (fun (u : Nat × Nat × Nat × Nat × Nat) => [(h0, .inr (0, [.int 0, .int 0, .int 0, .int 0, .int 0, .int 0, .int 0, .int 0, .int 0, .int 0, .ref u.1, .ref u.2.1, .ref u.2.2.1, .ref u.2.2.2.1, .ref u.2.2.2.2])), (u.1, .inl (cs 1, 3, .inl (fun _ => 0))), (u.2.1, .inl (cs 1, 25, .inl (fun _ => 0))), (u.2.2.1, .inl (cs 1, 20, .inl (fun _ => 0))), (u.2.2.2.1, .inl (cs 1, 20, .inl (fun _ => 0))), (u.2.2.2.2, .inl (cs 1, 20, .inl (fun _ => 0)))]) := by
  refine ent (D := D) (cs := cs) (y := yX0_init) (ws := W_X0_init) (As := [.ref h0]) (W0 := [(h0, .inr (0, [.int 0, .int 0, .int 0, .int 0, .int 0, .int 0, .int 0, .int 0, .int 0, .int 0, .null, .null, .null, .null, .null]))]) (Qx := fun A => va_Qv (fun (u : Nat × Nat × Nat × Nat × Nat) => True) (mpost D A (fun (u : Nat × Nat × Nat × Nat × Nat) => [(h0, .inr (0, [.int 0, .int 0, .int 0, .int 0, .int 0, .int 0, .int 0, .int 0, .int 0, .int 0, .ref u.1, .ref u.2.1, .ref u.2.2.1, .ref u.2.2.2.1, .ref u.2.2.2.2])), (u.1, .inl (cs 1, 3, .inl (fun _ => 0))), (u.2.1, .inl (cs 1, 25, .inl (fun _ => 0))), (u.2.2.1, .inl (cs 1, 20, .inl (fun _ => 0))), (u.2.2.2.1, .inl (cs 1, 20, .inl (fun _ => 0))), (u.2.2.2.2, .inl (cs 1, 20, .inl (fun _ => 0)))])) A) (maxL := 1) (ret := none) (by decide) rfl (Nat.le_of_ble_eq_true rfl) ?_
  intro p e s m below meth c A ls hx hb hr hml hlk hown hts hin hK hE hP hD hA hS hl
  have hl : lv_has ls 1 [(0, .ref h0)] := hl
  generalize hHe : s.heap = H at hP
  have hS : va_S A s.heap H [] := hHe ▸ hS
  generalize hLe : ([] : List Loc) = locs at hS ⊢
  have htw : ∀ w ∈ O_X0_init, w.before ([.ref h0] : List Value).toArray s = true := fun w h => hts w (List.mem_cons_of_mem _ (List.mem_append_left _ h))
  have hFix := (⟨hx, hb, hml, hown, hts⟩ : CallFix p m c _ _ s _ _ _)
  refine lv_aload_n hx hb dX0_init_0 rfl (lv_at hl 0 rfl) ?_
  refine W.objInit hx hb hown (htw (.methodLink RX0 3 objectInit) (List.mem_of_getElem? (i := 0) rfl)) (htw (.instanceMethod objectInit) (List.mem_of_getElem? (i := 1) rfl)) (htw (.code objectInit ⟨#[0xb1]⟩ 1 none) (List.mem_of_getElem? (i := 2) rfl)) rfl (by rw [hml]; exact hl.1) rfl dX0_init_1 (Nat.le_of_ble_eq_true rfl) (Nat.le_of_ble_eq_true rfl) ?_
  refine W.eq (g2 := F0 m 4 ls []) rfl ?_
  refine lv_aload_n hx hb dX0_init_4 rfl (lv_at hl 0 rfl) ?_
  refine lv_iconst (v := 0) hx hb dX0_init_5 (by decide) ?_
  refine va_put (D := D) (ci := 0) (v := .int 0) (ty := .int) (C := RX0) (T := TX0) (N := 15) hx hb hts iuX0_init_X0 tyX0 tyX0_ok nmX0 hown hK hP hD hS 0 rfl rfl 0 (by decide) (htw (.fieldLink RX0 9 "MergeJudge$Base" "lines" "I") (List.mem_of_getElem? (i := 3) rfl)) (fun _ h9 => h9) rfl (by decide +kernel) rfl rfl (Nat.le_of_ble_eq_true rfl) dX0_init_6 (fun H locs hP hD hS => ?_)
  have hP : va_P D vwCl [(h0, .inr (0, [.int 0, .int 0, .int 0, .int 0, .int 0, .int 0, .int 0, .int 0, .int 0, .int 0, .null, .null, .null, .null, .null]))] H := hP
  have hD : va_D A [(h0, .inr (0, [.int 0, .int 0, .int 0, .int 0, .int 0, .int 0, .int 0, .int 0, .int 0, .int 0, .null, .null, .null, .null, .null]))] := hD
  refine lv_aload_n hx hb dX0_init_9 rfl (lv_at hl 0 rfl) ?_
  refine lv_iconst (v := 0) hx hb dX0_init_10 (by decide) ?_
  refine va_put (D := D) (ci := 0) (v := .int 0) (ty := .int) (C := RX0) (T := TX0) (N := 15) hx hb hts iuX0_init_X0 tyX0 tyX0_ok nmX0 hown hK hP hD hS 0 rfl rfl 1 (by decide) (htw (.fieldLink RX0 15 "MergeJudge$Base" "top" "I") (List.mem_of_getElem? (i := 4) rfl)) (fun _ h9 => h9) rfl (by decide +kernel) rfl rfl (Nat.le_of_ble_eq_true rfl) dX0_init_11 (fun H locs hP hD hS => ?_)
  have hP : va_P D vwCl [(h0, .inr (0, [.int 0, .int 0, .int 0, .int 0, .int 0, .int 0, .int 0, .int 0, .int 0, .int 0, .null, .null, .null, .null, .null]))] H := hP
  have hD : va_D A [(h0, .inr (0, [.int 0, .int 0, .int 0, .int 0, .int 0, .int 0, .int 0, .int 0, .int 0, .int 0, .null, .null, .null, .null, .null]))] := hD
  refine lv_aload_n hx hb dX0_init_14 rfl (lv_at hl 0 rfl) ?_
  refine lv_iconst (v := 0) hx hb dX0_init_15 (by decide) ?_
  refine va_put (D := D) (ci := 0) (v := .int 0) (ty := .int) (C := RX0) (T := TX0) (N := 15) hx hb hts iuX0_init_X0 tyX0 tyX0_ok nmX0 hown hK hP hD hS 0 rfl rfl 2 (by decide) (htw (.fieldLink RX0 18 "MergeJudge$Base" "law" "I") (List.mem_of_getElem? (i := 5) rfl)) (fun _ h9 => h9) rfl (by decide +kernel) rfl rfl (Nat.le_of_ble_eq_true rfl) dX0_init_16 (fun H locs hP hD hS => ?_)
  have hP : va_P D vwCl [(h0, .inr (0, [.int 0, .int 0, .int 0, .int 0, .int 0, .int 0, .int 0, .int 0, .int 0, .int 0, .null, .null, .null, .null, .null]))] H := hP
  have hD : va_D A [(h0, .inr (0, [.int 0, .int 0, .int 0, .int 0, .int 0, .int 0, .int 0, .int 0, .int 0, .int 0, .null, .null, .null, .null, .null]))] := hD
  refine lv_aload_n hx hb dX0_init_19 rfl (lv_at hl 0 rfl) ?_
  refine lv_iconst (v := 0) hx hb dX0_init_20 (by decide) ?_
  refine va_put (D := D) (ci := 0) (v := .int 0) (ty := .int) (C := RX0) (T := TX0) (N := 15) hx hb hts iuX0_init_X0 tyX0 tyX0_ok nmX0 hown hK hP hD hS 0 rfl rfl 3 (by decide) (htw (.fieldLink RX0 21 "MergeJudge$Base" "odds" "I") (List.mem_of_getElem? (i := 6) rfl)) (fun _ h9 => h9) rfl (by decide +kernel) rfl rfl (Nat.le_of_ble_eq_true rfl) dX0_init_21 (fun H locs hP hD hS => ?_)
  have hP : va_P D vwCl [(h0, .inr (0, [.int 0, .int 0, .int 0, .int 0, .int 0, .int 0, .int 0, .int 0, .int 0, .int 0, .null, .null, .null, .null, .null]))] H := hP
  have hD : va_D A [(h0, .inr (0, [.int 0, .int 0, .int 0, .int 0, .int 0, .int 0, .int 0, .int 0, .int 0, .int 0, .null, .null, .null, .null, .null]))] := hD
  refine lv_aload_n hx hb dX0_init_24 rfl (lv_at hl 0 rfl) ?_
  refine lv_iconst (v := 0) hx hb dX0_init_25 (by decide) ?_
  refine va_put (D := D) (ci := 0) (v := .int 0) (ty := .int) (C := RX0) (T := TX0) (N := 15) hx hb hts iuX0_init_X0 tyX0 tyX0_ok nmX0 hown hK hP hD hS 0 rfl rfl 4 (by decide) (htw (.fieldLink RX0 24 "MergeJudge$Base" "cells" "I") (List.mem_of_getElem? (i := 7) rfl)) (fun _ h9 => h9) rfl (by decide +kernel) rfl rfl (Nat.le_of_ble_eq_true rfl) dX0_init_26 (fun H locs hP hD hS => ?_)
  have hP : va_P D vwCl [(h0, .inr (0, [.int 0, .int 0, .int 0, .int 0, .int 0, .int 0, .int 0, .int 0, .int 0, .int 0, .null, .null, .null, .null, .null]))] H := hP
  have hD : va_D A [(h0, .inr (0, [.int 0, .int 0, .int 0, .int 0, .int 0, .int 0, .int 0, .int 0, .int 0, .int 0, .null, .null, .null, .null, .null]))] := hD
  refine lv_aload_n hx hb dX0_init_29 rfl (lv_at hl 0 rfl) ?_
  refine lv_iconst (v := 0) hx hb dX0_init_30 (by decide) ?_
  refine va_put (D := D) (ci := 0) (v := .int 0) (ty := .int) (C := RX0) (T := TX0) (N := 15) hx hb hts iuX0_init_X0 tyX0 tyX0_ok nmX0 hown hK hP hD hS 0 rfl rfl 5 (by decide) (htw (.fieldLink RX0 27 "MergeJudge$Base" "rules" "I") (List.mem_of_getElem? (i := 8) rfl)) (fun _ h9 => h9) rfl (by decide +kernel) rfl rfl (Nat.le_of_ble_eq_true rfl) dX0_init_31 (fun H locs hP hD hS => ?_)
  have hP : va_P D vwCl [(h0, .inr (0, [.int 0, .int 0, .int 0, .int 0, .int 0, .int 0, .int 0, .int 0, .int 0, .int 0, .null, .null, .null, .null, .null]))] H := hP
  have hD : va_D A [(h0, .inr (0, [.int 0, .int 0, .int 0, .int 0, .int 0, .int 0, .int 0, .int 0, .int 0, .int 0, .null, .null, .null, .null, .null]))] := hD
  refine lv_aload_n hx hb dX0_init_34 rfl (lv_at hl 0 rfl) ?_
  refine lv_iconst (v := 0) hx hb dX0_init_35 (by decide) ?_
  refine va_put (D := D) (ci := 0) (v := .int 0) (ty := .int) (C := RX0) (T := TX0) (N := 15) hx hb hts iuX0_init_X0 tyX0 tyX0_ok nmX0 hown hK hP hD hS 0 rfl rfl 6 (by decide) (htw (.fieldLink RX0 30 "MergeJudge$Base" "ops" "I") (List.mem_of_getElem? (i := 9) rfl)) (fun _ h9 => h9) rfl (by decide +kernel) rfl rfl (Nat.le_of_ble_eq_true rfl) dX0_init_36 (fun H locs hP hD hS => ?_)
  have hP : va_P D vwCl [(h0, .inr (0, [.int 0, .int 0, .int 0, .int 0, .int 0, .int 0, .int 0, .int 0, .int 0, .int 0, .null, .null, .null, .null, .null]))] H := hP
  have hD : va_D A [(h0, .inr (0, [.int 0, .int 0, .int 0, .int 0, .int 0, .int 0, .int 0, .int 0, .int 0, .int 0, .null, .null, .null, .null, .null]))] := hD
  refine lv_aload_n hx hb dX0_init_39 rfl (lv_at hl 0 rfl) ?_
  refine lv_iconst (v := 0) hx hb dX0_init_40 (by decide) ?_
  refine va_put (D := D) (ci := 0) (v := .int 0) (ty := .int) (C := RX0) (T := TX0) (N := 15) hx hb hts iuX0_init_X0 tyX0 tyX0_ok nmX0 hown hK hP hD hS 0 rfl rfl 7 (by decide) (htw (.fieldLink RX0 33 "MergeJudge$Base" "acts" "I") (List.mem_of_getElem? (i := 10) rfl)) (fun _ h9 => h9) rfl (by decide +kernel) rfl rfl (Nat.le_of_ble_eq_true rfl) dX0_init_41 (fun H locs hP hD hS => ?_)
  have hP : va_P D vwCl [(h0, .inr (0, [.int 0, .int 0, .int 0, .int 0, .int 0, .int 0, .int 0, .int 0, .int 0, .int 0, .null, .null, .null, .null, .null]))] H := hP
  have hD : va_D A [(h0, .inr (0, [.int 0, .int 0, .int 0, .int 0, .int 0, .int 0, .int 0, .int 0, .int 0, .int 0, .null, .null, .null, .null, .null]))] := hD
  refine lv_aload_n hx hb dX0_init_44 rfl (lv_at hl 0 rfl) ?_
  refine lv_iconst (v := 0) hx hb dX0_init_45 (by decide) ?_
  refine va_put (D := D) (ci := 0) (v := .int 0) (ty := .int) (C := RX0) (T := TX0) (N := 15) hx hb hts iuX0_init_X0 tyX0 tyX0_ok nmX0 hown hK hP hD hS 0 rfl rfl 8 (by decide) (htw (.fieldLink RX0 36 "MergeJudge$Base" "droppedRules" "I") (List.mem_of_getElem? (i := 11) rfl)) (fun _ h9 => h9) rfl (by decide +kernel) rfl rfl (Nat.le_of_ble_eq_true rfl) dX0_init_46 (fun H locs hP hD hS => ?_)
  have hP : va_P D vwCl [(h0, .inr (0, [.int 0, .int 0, .int 0, .int 0, .int 0, .int 0, .int 0, .int 0, .int 0, .int 0, .null, .null, .null, .null, .null]))] H := hP
  have hD : va_D A [(h0, .inr (0, [.int 0, .int 0, .int 0, .int 0, .int 0, .int 0, .int 0, .int 0, .int 0, .int 0, .null, .null, .null, .null, .null]))] := hD
  refine lv_aload_n hx hb dX0_init_49 rfl (lv_at hl 0 rfl) ?_
  refine lv_iconst (v := 0) hx hb dX0_init_50 (by decide) ?_
  refine va_put (D := D) (ci := 0) (v := .int 0) (ty := .int) (C := RX0) (T := TX0) (N := 15) hx hb hts iuX0_init_X0 tyX0 tyX0_ok nmX0 hown hK hP hD hS 0 rfl rfl 9 (by decide) (htw (.fieldLink RX0 39 "MergeJudge$Base" "lockedOps" "I") (List.mem_of_getElem? (i := 12) rfl)) (fun _ h9 => h9) rfl (by decide +kernel) rfl rfl (Nat.le_of_ble_eq_true rfl) dX0_init_51 (fun H locs hP hD hS => ?_)
  have hP : va_P D vwCl [(h0, .inr (0, [.int 0, .int 0, .int 0, .int 0, .int 0, .int 0, .int 0, .int 0, .int 0, .int 0, .null, .null, .null, .null, .null]))] H := hP
  have hD : va_D A [(h0, .inr (0, [.int 0, .int 0, .int 0, .int 0, .int 0, .int 0, .int 0, .int 0, .int 0, .int 0, .null, .null, .null, .null, .null]))] := hD
  refine lv_aload_n hx hb dX0_init_54 rfl (lv_at hl 0 rfl) ?_
  refine lv_iconst (v := 3) hx hb dX0_init_55 (by decide) ?_
  refine va_newa (atype := .int) (N' := 3) (a0 := (3, .inl (fun _ => 0))) hx hb (htw (.arrayClass .int) (List.mem_of_getElem? (i := 13) rfl)) rfl hK hP hD hS hA (fun _ => rfl) (by decide) (by decide) (Nat.le_of_ble_eq_true rfl) (Nat.le_of_ble_eq_true rfl) (Nat.le_of_ble_eq_true rfl) dX0_init_56 (fun q_1 cA_2 H hK1 hP hD hS => ?_)
  cases one_ty 1 6 rfl rfl hK1 va_nm_int
  refine W.widen (k := 1) (n := 3) (Nat.le_of_ble_eq_true rfl) (Nat.le_of_ble_eq_true rfl) ?_
  have hP : va_P D vwCl [(h0, .inr (0, [.int 0, .int 0, .int 0, .int 0, .int 0, .int 0, .int 0, .int 0, .int 0, .int 0, .null, .null, .null, .null, .null])), (q_1, .inl (cs 1, 3, .inl (fun _ => 0)))] H := hP
  have hD : va_D A [(h0, .inr (0, [.int 0, .int 0, .int 0, .int 0, .int 0, .int 0, .int 0, .int 0, .int 0, .int 0, .null, .null, .null, .null, .null])), (q_1, .inl (cs 1, 3, .inl (fun _ => 0)))] := hD
  refine va_putF (D := D) (ci := 0) (v := .ref q_1) (ty := (.array .int)) (C := RX0) (T := TX0) (N := 15) hx hb hts iuX0_init_X0 tyX0 tyX0_ok nmX0 hown hK hP hD hS 0 rfl rfl 10 (by decide) (htw (.fieldLink RX0 42 "MergeJudge$Base" "kinds" "[I") (List.mem_of_getElem? (i := 14) rfl)) (fun _ h9 => h9) rfl hin rfl (by decide +kernel) rfl rfl (Nat.le_of_ble_eq_true rfl) dX0_init_58 (fun H locs hP hD hS => ?_)
  have hP : va_P D vwCl [(h0, .inr (0, [.int 0, .int 0, .int 0, .int 0, .int 0, .int 0, .int 0, .int 0, .int 0, .int 0, .ref q_1, .null, .null, .null, .null])), (q_1, .inl (cs 1, 3, .inl (fun _ => 0)))] H := hP
  have hD : va_D A [(h0, .inr (0, [.int 0, .int 0, .int 0, .int 0, .int 0, .int 0, .int 0, .int 0, .int 0, .int 0, .ref q_1, .null, .null, .null, .null])), (q_1, .inl (cs 1, 3, .inl (fun _ => 0)))] := hD
  refine lv_aload_n hx hb dX0_init_61 rfl (lv_at hl 0 rfl) ?_
  refine lv_bipush (v := 25) hx hb dX0_init_62 (by decide) ?_
  refine va_newa (atype := .int) (N' := 25) (a0 := (25, .inl (fun _ => 0))) hx hb (htw (.arrayClass .int) (List.mem_of_getElem? (i := 13) rfl)) rfl hK hP hD hS hA (fun _ => rfl) (by decide) (by decide) (Nat.le_of_ble_eq_true rfl) (Nat.le_of_ble_eq_true rfl) (Nat.le_of_ble_eq_true rfl) dX0_init_64 (fun q_3 cA_4 H hK1 hP hD hS => ?_)
  cases one_ty 1 6 rfl rfl hK1 va_nm_int
  refine W.widen (k := 2) (n := 28) (Nat.le_of_ble_eq_true rfl) (Nat.le_of_ble_eq_true rfl) ?_
  have hP : va_P D vwCl [(h0, .inr (0, [.int 0, .int 0, .int 0, .int 0, .int 0, .int 0, .int 0, .int 0, .int 0, .int 0, .ref q_1, .null, .null, .null, .null])), (q_1, .inl (cs 1, 3, .inl (fun _ => 0))), (q_3, .inl (cs 1, 25, .inl (fun _ => 0)))] H := hP
  have hD : va_D A [(h0, .inr (0, [.int 0, .int 0, .int 0, .int 0, .int 0, .int 0, .int 0, .int 0, .int 0, .int 0, .ref q_1, .null, .null, .null, .null])), (q_1, .inl (cs 1, 3, .inl (fun _ => 0))), (q_3, .inl (cs 1, 25, .inl (fun _ => 0)))] := hD
  refine va_putF (D := D) (ci := 0) (v := .ref q_3) (ty := (.array .int)) (C := RX0) (T := TX0) (N := 15) hx hb hts iuX0_init_X0 tyX0 tyX0_ok nmX0 hown hK hP hD hS 0 rfl rfl 11 (by decide) (htw (.fieldLink RX0 46 "MergeJudge$Base" "ruleRows" "[I") (List.mem_of_getElem? (i := 15) rfl)) (fun _ h9 => h9) rfl hin rfl (by decide +kernel) rfl rfl (Nat.le_of_ble_eq_true rfl) dX0_init_66 (fun H locs hP hD hS => ?_)
  have hP : va_P D vwCl [(h0, .inr (0, [.int 0, .int 0, .int 0, .int 0, .int 0, .int 0, .int 0, .int 0, .int 0, .int 0, .ref q_1, .ref q_3, .null, .null, .null])), (q_1, .inl (cs 1, 3, .inl (fun _ => 0))), (q_3, .inl (cs 1, 25, .inl (fun _ => 0)))] H := hP
  have hD : va_D A [(h0, .inr (0, [.int 0, .int 0, .int 0, .int 0, .int 0, .int 0, .int 0, .int 0, .int 0, .int 0, .ref q_1, .ref q_3, .null, .null, .null])), (q_1, .inl (cs 1, 3, .inl (fun _ => 0))), (q_3, .inl (cs 1, 25, .inl (fun _ => 0)))] := hD
  refine lv_aload_n hx hb dX0_init_69 rfl (lv_at hl 0 rfl) ?_
  refine lv_bipush (v := 20) hx hb dX0_init_70 (by decide) ?_
  refine va_newa (atype := .int) (N' := 20) (a0 := (20, .inl (fun _ => 0))) hx hb (htw (.arrayClass .int) (List.mem_of_getElem? (i := 13) rfl)) rfl hK hP hD hS hA (fun _ => rfl) (by decide) (by decide) (Nat.le_of_ble_eq_true rfl) (Nat.le_of_ble_eq_true rfl) (Nat.le_of_ble_eq_true rfl) dX0_init_72 (fun q_5 cA_6 H hK1 hP hD hS => ?_)
  cases one_ty 1 6 rfl rfl hK1 va_nm_int
  refine W.widen (k := 3) (n := 48) (Nat.le_of_ble_eq_true rfl) (Nat.le_of_ble_eq_true rfl) ?_
  have hP : va_P D vwCl [(h0, .inr (0, [.int 0, .int 0, .int 0, .int 0, .int 0, .int 0, .int 0, .int 0, .int 0, .int 0, .ref q_1, .ref q_3, .null, .null, .null])), (q_1, .inl (cs 1, 3, .inl (fun _ => 0))), (q_3, .inl (cs 1, 25, .inl (fun _ => 0))), (q_5, .inl (cs 1, 20, .inl (fun _ => 0)))] H := hP
  have hD : va_D A [(h0, .inr (0, [.int 0, .int 0, .int 0, .int 0, .int 0, .int 0, .int 0, .int 0, .int 0, .int 0, .ref q_1, .ref q_3, .null, .null, .null])), (q_1, .inl (cs 1, 3, .inl (fun _ => 0))), (q_3, .inl (cs 1, 25, .inl (fun _ => 0))), (q_5, .inl (cs 1, 20, .inl (fun _ => 0)))] := hD
  refine va_putF (D := D) (ci := 0) (v := .ref q_5) (ty := (.array .int)) (C := RX0) (T := TX0) (N := 15) hx hb hts iuX0_init_X0 tyX0 tyX0_ok nmX0 hown hK hP hD hS 0 rfl rfl 12 (by decide) (htw (.fieldLink RX0 49 "MergeJudge$Base" "opRows" "[I") (List.mem_of_getElem? (i := 16) rfl)) (fun _ h9 => h9) rfl hin rfl (by decide +kernel) rfl rfl (Nat.le_of_ble_eq_true rfl) dX0_init_74 (fun H locs hP hD hS => ?_)
  have hP : va_P D vwCl [(h0, .inr (0, [.int 0, .int 0, .int 0, .int 0, .int 0, .int 0, .int 0, .int 0, .int 0, .int 0, .ref q_1, .ref q_3, .ref q_5, .null, .null])), (q_1, .inl (cs 1, 3, .inl (fun _ => 0))), (q_3, .inl (cs 1, 25, .inl (fun _ => 0))), (q_5, .inl (cs 1, 20, .inl (fun _ => 0)))] H := hP
  have hD : va_D A [(h0, .inr (0, [.int 0, .int 0, .int 0, .int 0, .int 0, .int 0, .int 0, .int 0, .int 0, .int 0, .ref q_1, .ref q_3, .ref q_5, .null, .null])), (q_1, .inl (cs 1, 3, .inl (fun _ => 0))), (q_3, .inl (cs 1, 25, .inl (fun _ => 0))), (q_5, .inl (cs 1, 20, .inl (fun _ => 0)))] := hD
  refine lv_aload_n hx hb dX0_init_77 rfl (lv_at hl 0 rfl) ?_
  refine lv_bipush (v := 20) hx hb dX0_init_78 (by decide) ?_
  refine va_newa (atype := .int) (N' := 20) (a0 := (20, .inl (fun _ => 0))) hx hb (htw (.arrayClass .int) (List.mem_of_getElem? (i := 13) rfl)) rfl hK hP hD hS hA (fun _ => rfl) (by decide) (by decide) (Nat.le_of_ble_eq_true rfl) (Nat.le_of_ble_eq_true rfl) (Nat.le_of_ble_eq_true rfl) dX0_init_80 (fun q_7 cA_8 H hK1 hP hD hS => ?_)
  cases one_ty 1 6 rfl rfl hK1 va_nm_int
  refine W.widen (k := 4) (n := 68) (Nat.le_of_ble_eq_true rfl) (Nat.le_of_ble_eq_true rfl) ?_
  have hP : va_P D vwCl [(h0, .inr (0, [.int 0, .int 0, .int 0, .int 0, .int 0, .int 0, .int 0, .int 0, .int 0, .int 0, .ref q_1, .ref q_3, .ref q_5, .null, .null])), (q_1, .inl (cs 1, 3, .inl (fun _ => 0))), (q_3, .inl (cs 1, 25, .inl (fun _ => 0))), (q_5, .inl (cs 1, 20, .inl (fun _ => 0))), (q_7, .inl (cs 1, 20, .inl (fun _ => 0)))] H := hP
  have hD : va_D A [(h0, .inr (0, [.int 0, .int 0, .int 0, .int 0, .int 0, .int 0, .int 0, .int 0, .int 0, .int 0, .ref q_1, .ref q_3, .ref q_5, .null, .null])), (q_1, .inl (cs 1, 3, .inl (fun _ => 0))), (q_3, .inl (cs 1, 25, .inl (fun _ => 0))), (q_5, .inl (cs 1, 20, .inl (fun _ => 0))), (q_7, .inl (cs 1, 20, .inl (fun _ => 0)))] := hD
  refine va_putF (D := D) (ci := 0) (v := .ref q_7) (ty := (.array .int)) (C := RX0) (T := TX0) (N := 15) hx hb hts iuX0_init_X0 tyX0 tyX0_ok nmX0 hown hK hP hD hS 0 rfl rfl 13 (by decide) (htw (.fieldLink RX0 52 "MergeJudge$Base" "formerDropped" "[I") (List.mem_of_getElem? (i := 17) rfl)) (fun _ h9 => h9) rfl hin rfl (by decide +kernel) rfl rfl (Nat.le_of_ble_eq_true rfl) dX0_init_82 (fun H locs hP hD hS => ?_)
  have hP : va_P D vwCl [(h0, .inr (0, [.int 0, .int 0, .int 0, .int 0, .int 0, .int 0, .int 0, .int 0, .int 0, .int 0, .ref q_1, .ref q_3, .ref q_5, .ref q_7, .null])), (q_1, .inl (cs 1, 3, .inl (fun _ => 0))), (q_3, .inl (cs 1, 25, .inl (fun _ => 0))), (q_5, .inl (cs 1, 20, .inl (fun _ => 0))), (q_7, .inl (cs 1, 20, .inl (fun _ => 0)))] H := hP
  have hD : va_D A [(h0, .inr (0, [.int 0, .int 0, .int 0, .int 0, .int 0, .int 0, .int 0, .int 0, .int 0, .int 0, .ref q_1, .ref q_3, .ref q_5, .ref q_7, .null])), (q_1, .inl (cs 1, 3, .inl (fun _ => 0))), (q_3, .inl (cs 1, 25, .inl (fun _ => 0))), (q_5, .inl (cs 1, 20, .inl (fun _ => 0))), (q_7, .inl (cs 1, 20, .inl (fun _ => 0)))] := hD
  refine lv_aload_n hx hb dX0_init_85 rfl (lv_at hl 0 rfl) ?_
  refine lv_bipush (v := 20) hx hb dX0_init_86 (by decide) ?_
  refine va_newa (atype := .int) (N' := 20) (a0 := (20, .inl (fun _ => 0))) hx hb (htw (.arrayClass .int) (List.mem_of_getElem? (i := 13) rfl)) rfl hK hP hD hS hA (fun _ => rfl) (by decide) (by decide) (Nat.le_of_ble_eq_true rfl) (Nat.le_of_ble_eq_true rfl) (Nat.le_of_ble_eq_true rfl) dX0_init_88 (fun q_9 cA_10 H hK1 hP hD hS => ?_)
  cases one_ty 1 6 rfl rfl hK1 va_nm_int
  refine W.widen (k := 5) (n := 88) (Nat.le_of_ble_eq_true rfl) (Nat.le_of_ble_eq_true rfl) ?_
  have hP : va_P D vwCl [(h0, .inr (0, [.int 0, .int 0, .int 0, .int 0, .int 0, .int 0, .int 0, .int 0, .int 0, .int 0, .ref q_1, .ref q_3, .ref q_5, .ref q_7, .null])), (q_1, .inl (cs 1, 3, .inl (fun _ => 0))), (q_3, .inl (cs 1, 25, .inl (fun _ => 0))), (q_5, .inl (cs 1, 20, .inl (fun _ => 0))), (q_7, .inl (cs 1, 20, .inl (fun _ => 0))), (q_9, .inl (cs 1, 20, .inl (fun _ => 0)))] H := hP
  have hD : va_D A [(h0, .inr (0, [.int 0, .int 0, .int 0, .int 0, .int 0, .int 0, .int 0, .int 0, .int 0, .int 0, .ref q_1, .ref q_3, .ref q_5, .ref q_7, .null])), (q_1, .inl (cs 1, 3, .inl (fun _ => 0))), (q_3, .inl (cs 1, 25, .inl (fun _ => 0))), (q_5, .inl (cs 1, 20, .inl (fun _ => 0))), (q_7, .inl (cs 1, 20, .inl (fun _ => 0))), (q_9, .inl (cs 1, 20, .inl (fun _ => 0)))] := hD
  refine va_putF (D := D) (ci := 0) (v := .ref q_9) (ty := (.array .int)) (C := RX0) (T := TX0) (N := 15) hx hb hts iuX0_init_X0 tyX0 tyX0_ok nmX0 hown hK hP hD hS 0 rfl rfl 14 (by decide) (htw (.fieldLink RX0 55 "MergeJudge$Base" "formerLocked" "[I") (List.mem_of_getElem? (i := 18) rfl)) (fun _ h9 => h9) rfl hin rfl (by decide +kernel) rfl rfl (Nat.le_of_ble_eq_true rfl) dX0_init_90 (fun H locs hP hD hS => ?_)
  have hP : va_P D vwCl [(h0, .inr (0, [.int 0, .int 0, .int 0, .int 0, .int 0, .int 0, .int 0, .int 0, .int 0, .int 0, .ref q_1, .ref q_3, .ref q_5, .ref q_7, .ref q_9])), (q_1, .inl (cs 1, 3, .inl (fun _ => 0))), (q_3, .inl (cs 1, 25, .inl (fun _ => 0))), (q_5, .inl (cs 1, 20, .inl (fun _ => 0))), (q_7, .inl (cs 1, 20, .inl (fun _ => 0))), (q_9, .inl (cs 1, 20, .inl (fun _ => 0)))] H := hP
  have hD : va_D A [(h0, .inr (0, [.int 0, .int 0, .int 0, .int 0, .int 0, .int 0, .int 0, .int 0, .int 0, .int 0, .ref q_1, .ref q_3, .ref q_5, .ref q_7, .ref q_9])), (q_1, .inl (cs 1, 3, .inl (fun _ => 0))), (q_3, .inl (cs 1, 25, .inl (fun _ => 0))), (q_5, .inl (cs 1, 20, .inl (fun _ => 0))), (q_7, .inl (cs 1, 20, .inl (fun _ => 0))), (q_9, .inl (cs 1, 20, .inl (fun _ => 0)))] := hD
  exact ret_v hx hb hr hlk hS (Nat.le_of_ble_eq_true rfl) (Nat.le_of_ble_eq_true rfl) (q_1, q_3, q_5, q_7, q_9) (trivial) (hP.sub [0, 1, 2, 3, 4, 5] rfl) (hD.sub [0, 1, 2, 3, 4, 5] (by decide) rfl) dX0_init_93

set_option maxHeartbeats 4000000 in
set_option maxRecDepth 100000 in
theorem k_X4_init (l : Launch) (D : va_G) (cs : Nat → ClassId) (sz : Nat) (h0 : Nat) (ta : Nat) (da : Nat)  : Mv l D cs yX4_init W_X4_init 1 12 0 0 [.ref h0, .ref ta, .ref da] [(h0, .inr (4, [.null, .null, .int 0, .int 0, .int 0, .int 0, .int 0, .int 0, .int 0]))] sz (fun (u : Unit) => True) (fun (u : Unit) => [(h0, .inr (4, [.ref ta, .ref da, .int 0, .int 0, .int 0, .int 0, .int 0, .int 0, .int (-1)]))]) := by
  refine ent (D := D) (cs := cs) (y := yX4_init) (ws := W_X4_init) (As := [.ref h0, .ref ta, .ref da]) (W0 := [(h0, .inr (4, [.null, .null, .int 0, .int 0, .int 0, .int 0, .int 0, .int 0, .int 0]))]) (Qx := fun A => va_Qv (fun (u : Unit) => True) (mpost D A (fun (u : Unit) => [(h0, .inr (4, [.ref ta, .ref da, .int 0, .int 0, .int 0, .int 0, .int 0, .int 0, .int (-1)]))])) A) (maxL := 3) (ret := none) (by decide) rfl (Nat.le_of_ble_eq_true rfl) ?_
  intro p e s m below meth c A ls hx hb hr hml hlk hown hts hin hK hE hP hD hA hS hl
  have hl : lv_has ls 3 [(0, .ref h0), (1, .ref ta), (2, .ref da)] := hl
  generalize hHe : s.heap = H at hP
  have hS : va_S A s.heap H [] := hHe ▸ hS
  generalize hLe : ([] : List Loc) = locs at hS ⊢
  have htw : ∀ w ∈ O_X4_init, w.before ([.ref h0, .ref ta, .ref da] : List Value).toArray s = true := fun w h => hts w (List.mem_cons_of_mem _ (List.mem_append_left _ h))
  have hFix := (⟨hx, hb, hml, hown, hts⟩ : CallFix p m c _ _ s _ _ _)
  refine lv_aload_n hx hb dX4_init_0 rfl (lv_at hl 0 rfl) ?_
  refine W.objInit hx hb hown (htw (.methodLink RX4 3 objectInit) (List.mem_of_getElem? (i := 0) rfl)) (htw (.instanceMethod objectInit) (List.mem_of_getElem? (i := 1) rfl)) (htw (.code objectInit ⟨#[0xb1]⟩ 1 none) (List.mem_of_getElem? (i := 2) rfl)) rfl (by rw [hml]; exact hl.1) rfl dX4_init_1 (Nat.le_of_ble_eq_true rfl) (Nat.le_of_ble_eq_true rfl) ?_
  refine W.eq (g2 := F0 m 4 ls []) rfl ?_
  refine lv_aload_n hx hb dX4_init_4 rfl (lv_at hl 0 rfl) ?_
  refine lv_iconst (v := 0) hx hb dX4_init_5 (by decide) ?_
  refine va_put (D := D) (ci := 4) (v := .int 0) (ty := .int) (C := RX4) (T := TX4) (N := 9) hx hb hts iuX4_init_X4 tyX4 tyX4_ok nmX4 hown hK hP hD hS 0 rfl rfl 2 (by decide) (htw (.fieldLink RX4 11 "MergeJudge$Reader" "token" "I") (List.mem_of_getElem? (i := 3) rfl)) (fun _ h9 => h9) rfl (by decide +kernel) rfl rfl (Nat.le_of_ble_eq_true rfl) dX4_init_6 (fun H locs hP hD hS => ?_)
  have hP : va_P D vwCl [(h0, .inr (4, [.null, .null, .int 0, .int 0, .int 0, .int 0, .int 0, .int 0, .int 0]))] H := hP
  have hD : va_D A [(h0, .inr (4, [.null, .null, .int 0, .int 0, .int 0, .int 0, .int 0, .int 0, .int 0]))] := hD
  refine lv_aload_n hx hb dX4_init_9 rfl (lv_at hl 0 rfl) ?_
  refine lv_iconst (v := 0) hx hb dX4_init_10 (by decide) ?_
  refine va_put (D := D) (ci := 4) (v := .int 0) (ty := .int) (C := RX4) (T := TX4) (N := 9) hx hb hts iuX4_init_X4 tyX4 tyX4_ok nmX4 hown hK hP hD hS 0 rfl rfl 3 (by decide) (htw (.fieldLink RX4 15 "MergeJudge$Reader" "start" "I") (List.mem_of_getElem? (i := 4) rfl)) (fun _ h9 => h9) rfl (by decide +kernel) rfl rfl (Nat.le_of_ble_eq_true rfl) dX4_init_11 (fun H locs hP hD hS => ?_)
  have hP : va_P D vwCl [(h0, .inr (4, [.null, .null, .int 0, .int 0, .int 0, .int 0, .int 0, .int 0, .int 0]))] H := hP
  have hD : va_D A [(h0, .inr (4, [.null, .null, .int 0, .int 0, .int 0, .int 0, .int 0, .int 0, .int 0]))] := hD
  refine lv_aload_n hx hb dX4_init_14 rfl (lv_at hl 0 rfl) ?_
  refine lv_iconst (v := 0) hx hb dX4_init_15 (by decide) ?_
  refine va_put (D := D) (ci := 4) (v := .int 0) (ty := .int) (C := RX4) (T := TX4) (N := 9) hx hb hts iuX4_init_X4 tyX4 tyX4_ok nmX4 hown hK hP hD hS 0 rfl rfl 4 (by decide) (htw (.fieldLink RX4 18 "MergeJudge$Reader" "at" "I") (List.mem_of_getElem? (i := 5) rfl)) (fun _ h9 => h9) rfl (by decide +kernel) rfl rfl (Nat.le_of_ble_eq_true rfl) dX4_init_16 (fun H locs hP hD hS => ?_)
  have hP : va_P D vwCl [(h0, .inr (4, [.null, .null, .int 0, .int 0, .int 0, .int 0, .int 0, .int 0, .int 0]))] H := hP
  have hD : va_D A [(h0, .inr (4, [.null, .null, .int 0, .int 0, .int 0, .int 0, .int 0, .int 0, .int 0]))] := hD
  refine lv_aload_n hx hb dX4_init_19 rfl (lv_at hl 0 rfl) ?_
  refine lv_iconst (v := 0) hx hb dX4_init_20 (by decide) ?_
  refine va_put (D := D) (ci := 4) (v := .int 0) (ty := .int) (C := RX4) (T := TX4) (N := 9) hx hb hts iuX4_init_X4 tyX4 tyX4_ok nmX4 hown hK hP hD hS 0 rfl rfl 5 (by decide) (htw (.fieldLink RX4 21 "MergeJudge$Reader" "number" "I") (List.mem_of_getElem? (i := 6) rfl)) (fun _ h9 => h9) rfl (by decide +kernel) rfl rfl (Nat.le_of_ble_eq_true rfl) dX4_init_21 (fun H locs hP hD hS => ?_)
  have hP : va_P D vwCl [(h0, .inr (4, [.null, .null, .int 0, .int 0, .int 0, .int 0, .int 0, .int 0, .int 0]))] H := hP
  have hD : va_D A [(h0, .inr (4, [.null, .null, .int 0, .int 0, .int 0, .int 0, .int 0, .int 0, .int 0]))] := hD
  refine lv_aload_n hx hb dX4_init_24 rfl (lv_at hl 0 rfl) ?_
  refine lv_iconst (v := 0) hx hb dX4_init_25 (by decide) ?_
  refine va_put (D := D) (ci := 4) (v := .int 0) (ty := .int) (C := RX4) (T := TX4) (N := 9) hx hb hts iuX4_init_X4 tyX4 tyX4_ok nmX4 hown hK hP hD hS 0 rfl rfl 6 (by decide) (htw (.fieldLink RX4 24 "MergeJudge$Reader" "passed" "I") (List.mem_of_getElem? (i := 7) rfl)) (fun _ h9 => h9) rfl (by decide +kernel) rfl rfl (Nat.le_of_ble_eq_true rfl) dX4_init_26 (fun H locs hP hD hS => ?_)
  have hP : va_P D vwCl [(h0, .inr (4, [.null, .null, .int 0, .int 0, .int 0, .int 0, .int 0, .int 0, .int 0]))] H := hP
  have hD : va_D A [(h0, .inr (4, [.null, .null, .int 0, .int 0, .int 0, .int 0, .int 0, .int 0, .int 0]))] := hD
  refine lv_aload_n hx hb dX4_init_29 rfl (lv_at hl 0 rfl) ?_
  refine lv_iconst (v := 0) hx hb dX4_init_30 (by decide) ?_
  refine va_put (D := D) (ci := 4) (v := .int 0) (ty := .int) (C := RX4) (T := TX4) (N := 9) hx hb hts iuX4_init_X4 tyX4 tyX4_ok nmX4 hown hK hP hD hS 0 rfl rfl 7 (by decide) (htw (.fieldLink RX4 27 "MergeJudge$Reader" "faultKind" "I") (List.mem_of_getElem? (i := 8) rfl)) (fun _ h9 => h9) rfl (by decide +kernel) rfl rfl (Nat.le_of_ble_eq_true rfl) dX4_init_31 (fun H locs hP hD hS => ?_)
  have hP : va_P D vwCl [(h0, .inr (4, [.null, .null, .int 0, .int 0, .int 0, .int 0, .int 0, .int 0, .int 0]))] H := hP
  have hD : va_D A [(h0, .inr (4, [.null, .null, .int 0, .int 0, .int 0, .int 0, .int 0, .int 0, .int 0]))] := hD
  refine lv_aload_n hx hb dX4_init_34 rfl (lv_at hl 0 rfl) ?_
  refine lv_iconst (v := (-1)) hx hb dX4_init_35 (by decide) ?_
  refine va_put (D := D) (ci := 4) (v := .int (-1)) (ty := .int) (C := RX4) (T := TX4) (N := 9) hx hb hts iuX4_init_X4 tyX4 tyX4_ok nmX4 hown hK hP hD hS 0 rfl rfl 8 (by decide) (htw (.fieldLink RX4 30 "MergeJudge$Reader" "faultPlace" "I") (List.mem_of_getElem? (i := 9) rfl)) (fun _ h9 => h9) rfl (by decide +kernel) rfl rfl (Nat.le_of_ble_eq_true rfl) dX4_init_36 (fun H locs hP hD hS => ?_)
  have hP : va_P D vwCl [(h0, .inr (4, [.null, .null, .int 0, .int 0, .int 0, .int 0, .int 0, .int 0, .int (-1)]))] H := hP
  have hD : va_D A [(h0, .inr (4, [.null, .null, .int 0, .int 0, .int 0, .int 0, .int 0, .int 0, .int (-1)]))] := hD
  refine lv_aload_n hx hb dX4_init_39 rfl (lv_at hl 0 rfl) ?_
  refine lv_aload_n hx hb dX4_init_40 rfl (lv_at hl 1 rfl) ?_
  refine va_putF (D := D) (ci := 4) (v := .ref ta) (ty := (.object "MergeJudge$Tape")) (C := RX4) (T := TX4) (N := 9) hx hb hts iuX4_init_X4 tyX4 tyX4_ok nmX4 hown hK hP hD hS 0 rfl rfl 0 (by decide) (htw (.fieldLink RX4 33 "MergeJudge$Reader" "tape" "LMergeJudge$Tape;") (List.mem_of_getElem? (i := 10) rfl)) (fun _ h9 => h9) rfl hin rfl (by decide +kernel) rfl rfl (Nat.le_of_ble_eq_true rfl) dX4_init_41 (fun H locs hP hD hS => ?_)
  have hP : va_P D vwCl [(h0, .inr (4, [.ref ta, .null, .int 0, .int 0, .int 0, .int 0, .int 0, .int 0, .int (-1)]))] H := hP
  have hD : va_D A [(h0, .inr (4, [.ref ta, .null, .int 0, .int 0, .int 0, .int 0, .int 0, .int 0, .int (-1)]))] := hD
  refine lv_aload_n hx hb dX4_init_44 rfl (lv_at hl 0 rfl) ?_
  refine lv_aload_n hx hb dX4_init_45 rfl (lv_at hl 2 rfl) ?_
  refine va_putF (D := D) (ci := 4) (v := .ref da) (ty := (.object "MergeJudge$Base")) (C := RX4) (T := TX4) (N := 9) hx hb hts iuX4_init_X4 tyX4 tyX4_ok nmX4 hown hK hP hD hS 0 rfl rfl 1 (by decide) (htw (.fieldLink RX4 37 "MergeJudge$Reader" "draft" "LMergeJudge$Base;") (List.mem_of_getElem? (i := 11) rfl)) (fun _ h9 => h9) rfl hin rfl (by decide +kernel) rfl rfl (Nat.le_of_ble_eq_true rfl) dX4_init_46 (fun H locs hP hD hS => ?_)
  have hP : va_P D vwCl [(h0, .inr (4, [.ref ta, .ref da, .int 0, .int 0, .int 0, .int 0, .int 0, .int 0, .int (-1)]))] H := hP
  have hD : va_D A [(h0, .inr (4, [.ref ta, .ref da, .int 0, .int 0, .int 0, .int 0, .int 0, .int 0, .int (-1)]))] := hD
  exact ret_v hx hb hr hlk hS (Nat.le_of_ble_eq_true rfl) (Nat.le_of_ble_eq_true rfl) () (trivial) (hP.sub [0] rfl) (hD.sub [0] (by decide) rfl) dX4_init_49

set_option maxHeartbeats 4000000 in
set_option maxRecDepth 100000 in
theorem k_X6_init (l : Launch) (D : va_G) (cs : Nat → ClassId) (sz : Nat) (h0 : Nat)  : Mv l D cs yX6_init W_X6_init 1 12 4 392 [.ref h0] [(h0, .inr (6, [.int 0, .int 0, .int 0, .long 0, .null, .null, .null, .null]))] sz (fun (u : Nat × Nat × Nat × Nat) => True) (fun (u : Nat × Nat × Nat × Nat) => [(h0, .inr (6, [.int 0, .int 0, .int 0, .long 0, .ref u.1, .ref u.2.1, .ref u.2.2.1, .ref u.2.2.2])), (u.1, .inl (cs 1, 3, .inl (fun _ => 0))), (u.2.1, .inl (cs 1, 64, .inl (fun _ => 0))), (u.2.2.1, .inl (cs 2, 5, .inr (.inl (fun _ => 0)))), (u.2.2.2, .inl (cs 1, 320, .inl (fun _ => 0)))]) := by
  refine ent (D := D) (cs := cs) (y := yX6_init) (ws := W_X6_init) (As := [.ref h0]) (W0 := [(h0, .inr (6, [.int 0, .int 0, .int 0, .long 0, .null, .null, .null, .null]))]) (Qx := fun A => va_Qv (fun (u : Nat × Nat × Nat × Nat) => True) (mpost D A (fun (u : Nat × Nat × Nat × Nat) => [(h0, .inr (6, [.int 0, .int 0, .int 0, .long 0, .ref u.1, .ref u.2.1, .ref u.2.2.1, .ref u.2.2.2])), (u.1, .inl (cs 1, 3, .inl (fun _ => 0))), (u.2.1, .inl (cs 1, 64, .inl (fun _ => 0))), (u.2.2.1, .inl (cs 2, 5, .inr (.inl (fun _ => 0)))), (u.2.2.2, .inl (cs 1, 320, .inl (fun _ => 0)))])) A) (maxL := 1) (ret := none) (by decide) rfl (Nat.le_of_ble_eq_true rfl) ?_
  intro p e s m below meth c A ls hx hb hr hml hlk hown hts hin hK hE hP hD hA hS hl
  have hl : lv_has ls 1 [(0, .ref h0)] := hl
  generalize hHe : s.heap = H at hP
  have hS : va_S A s.heap H [] := hHe ▸ hS
  generalize hLe : ([] : List Loc) = locs at hS ⊢
  have htw : ∀ w ∈ O_X6_init, w.before ([.ref h0] : List Value).toArray s = true := fun w h => hts w (List.mem_cons_of_mem _ (List.mem_append_left _ h))
  have hFix := (⟨hx, hb, hml, hown, hts⟩ : CallFix p m c _ _ s _ _ _)
  refine lv_aload_n hx hb dX6_init_0 rfl (lv_at hl 0 rfl) ?_
  refine W.objInit hx hb hown (htw (.methodLink RX6 3 objectInit) (List.mem_of_getElem? (i := 0) rfl)) (htw (.instanceMethod objectInit) (List.mem_of_getElem? (i := 1) rfl)) (htw (.code objectInit ⟨#[0xb1]⟩ 1 none) (List.mem_of_getElem? (i := 2) rfl)) rfl (by rw [hml]; exact hl.1) rfl dX6_init_1 (Nat.le_of_ble_eq_true rfl) (Nat.le_of_ble_eq_true rfl) ?_
  refine W.eq (g2 := F0 m 4 ls []) rfl ?_
  refine lv_aload_n hx hb dX6_init_4 rfl (lv_at hl 0 rfl) ?_
  refine lv_iconst (v := 0) hx hb dX6_init_5 (by decide) ?_
  refine va_put (D := D) (ci := 6) (v := .int 0) (ty := .int) (C := RX6) (T := TX6) (N := 8) hx hb hts iuX6_init_X6 tyX6 tyX6_ok nmX6 hown hK hP hD hS 0 rfl rfl 0 (by decide) (htw (.fieldLink RX6 9 "MergeJudge$Space" "size" "I") (List.mem_of_getElem? (i := 3) rfl)) (fun _ h9 => h9) rfl (by decide +kernel) rfl rfl (Nat.le_of_ble_eq_true rfl) dX6_init_6 (fun H locs hP hD hS => ?_)
  have hP : va_P D vwCl [(h0, .inr (6, [.int 0, .int 0, .int 0, .long 0, .null, .null, .null, .null]))] H := hP
  have hD : va_D A [(h0, .inr (6, [.int 0, .int 0, .int 0, .long 0, .null, .null, .null, .null]))] := hD
  refine lv_aload_n hx hb dX6_init_9 rfl (lv_at hl 0 rfl) ?_
  refine lv_iconst (v := 0) hx hb dX6_init_10 (by decide) ?_
  refine va_put (D := D) (ci := 6) (v := .int 0) (ty := .int) (C := RX6) (T := TX6) (N := 8) hx hb hts iuX6_init_X6 tyX6 tyX6_ok nmX6 hown hK hP hD hS 0 rfl rfl 1 (by decide) (htw (.fieldLink RX6 15 "MergeJudge$Space" "cells" "I") (List.mem_of_getElem? (i := 4) rfl)) (fun _ h9 => h9) rfl (by decide +kernel) rfl rfl (Nat.le_of_ble_eq_true rfl) dX6_init_11 (fun H locs hP hD hS => ?_)
  have hP : va_P D vwCl [(h0, .inr (6, [.int 0, .int 0, .int 0, .long 0, .null, .null, .null, .null]))] H := hP
  have hD : va_D A [(h0, .inr (6, [.int 0, .int 0, .int 0, .long 0, .null, .null, .null, .null]))] := hD
  refine lv_aload_n hx hb dX6_init_14 rfl (lv_at hl 0 rfl) ?_
  refine lv_iconst (v := 0) hx hb dX6_init_15 (by decide) ?_
  refine va_put (D := D) (ci := 6) (v := .int 0) (ty := .int) (C := RX6) (T := TX6) (N := 8) hx hb hts iuX6_init_X6 tyX6 tyX6_ok nmX6 hown hK hP hD hS 0 rfl rfl 2 (by decide) (htw (.fieldLink RX6 18 "MergeJudge$Space" "top" "I") (List.mem_of_getElem? (i := 5) rfl)) (fun _ h9 => h9) rfl (by decide +kernel) rfl rfl (Nat.le_of_ble_eq_true rfl) dX6_init_16 (fun H locs hP hD hS => ?_)
  have hP : va_P D vwCl [(h0, .inr (6, [.int 0, .int 0, .int 0, .long 0, .null, .null, .null, .null]))] H := hP
  have hD : va_D A [(h0, .inr (6, [.int 0, .int 0, .int 0, .long 0, .null, .null, .null, .null]))] := hD
  refine lv_aload_n hx hb dX6_init_19 rfl (lv_at hl 0 rfl) ?_
  refine lv_lconst (v := 0) hx hb dX6_init_20 (by decide) ?_
  refine va_put (D := D) (ci := 6) (v := .long 0) (ty := .long) (C := RX6) (T := TX6) (N := 8) hx hb hts iuX6_init_X6 tyX6 tyX6_ok nmX6 hown hK hP hD hS 0 rfl rfl 3 (by decide) (htw (.fieldLink RX6 21 "MergeJudge$Space" "whole" "J") (List.mem_of_getElem? (i := 6) rfl)) (fun _ h9 => h9) rfl (by decide +kernel) rfl rfl (Nat.le_of_ble_eq_true rfl) dX6_init_21 (fun H locs hP hD hS => ?_)
  have hP : va_P D vwCl [(h0, .inr (6, [.int 0, .int 0, .int 0, .long 0, .null, .null, .null, .null]))] H := hP
  have hD : va_D A [(h0, .inr (6, [.int 0, .int 0, .int 0, .long 0, .null, .null, .null, .null]))] := hD
  refine lv_aload_n hx hb dX6_init_24 rfl (lv_at hl 0 rfl) ?_
  refine lv_iconst (v := 3) hx hb dX6_init_25 (by decide) ?_
  refine va_newa (atype := .int) (N' := 3) (a0 := (3, .inl (fun _ => 0))) hx hb (htw (.arrayClass .int) (List.mem_of_getElem? (i := 7) rfl)) rfl hK hP hD hS hA (fun _ => rfl) (by decide) (by decide) (Nat.le_of_ble_eq_true rfl) (Nat.le_of_ble_eq_true rfl) (Nat.le_of_ble_eq_true rfl) dX6_init_26 (fun q_1 cA_2 H hK1 hP hD hS => ?_)
  cases one_ty 1 6 rfl rfl hK1 va_nm_int
  refine W.widen (k := 1) (n := 3) (Nat.le_of_ble_eq_true rfl) (Nat.le_of_ble_eq_true rfl) ?_
  have hP : va_P D vwCl [(h0, .inr (6, [.int 0, .int 0, .int 0, .long 0, .null, .null, .null, .null])), (q_1, .inl (cs 1, 3, .inl (fun _ => 0)))] H := hP
  have hD : va_D A [(h0, .inr (6, [.int 0, .int 0, .int 0, .long 0, .null, .null, .null, .null])), (q_1, .inl (cs 1, 3, .inl (fun _ => 0)))] := hD
  refine va_putF (D := D) (ci := 6) (v := .ref q_1) (ty := (.array .int)) (C := RX6) (T := TX6) (N := 8) hx hb hts iuX6_init_X6 tyX6 tyX6_ok nmX6 hown hK hP hD hS 0 rfl rfl 4 (by decide) (htw (.fieldLink RX6 25 "MergeJudge$Space" "place" "[I") (List.mem_of_getElem? (i := 8) rfl)) (fun _ h9 => h9) rfl hin rfl (by decide +kernel) rfl rfl (Nat.le_of_ble_eq_true rfl) dX6_init_28 (fun H locs hP hD hS => ?_)
  have hP : va_P D vwCl [(h0, .inr (6, [.int 0, .int 0, .int 0, .long 0, .ref q_1, .null, .null, .null])), (q_1, .inl (cs 1, 3, .inl (fun _ => 0)))] H := hP
  have hD : va_D A [(h0, .inr (6, [.int 0, .int 0, .int 0, .long 0, .ref q_1, .null, .null, .null])), (q_1, .inl (cs 1, 3, .inl (fun _ => 0)))] := hD
  refine lv_aload_n hx hb dX6_init_31 rfl (lv_at hl 0 rfl) ?_
  refine lv_bipush (v := 64) hx hb dX6_init_32 (by decide) ?_
  refine va_newa (atype := .int) (N' := 64) (a0 := (64, .inl (fun _ => 0))) hx hb (htw (.arrayClass .int) (List.mem_of_getElem? (i := 7) rfl)) rfl hK hP hD hS hA (fun _ => rfl) (by decide) (by decide) (Nat.le_of_ble_eq_true rfl) (Nat.le_of_ble_eq_true rfl) (Nat.le_of_ble_eq_true rfl) dX6_init_34 (fun q_3 cA_4 H hK1 hP hD hS => ?_)
  cases one_ty 1 6 rfl rfl hK1 va_nm_int
  refine W.widen (k := 2) (n := 67) (Nat.le_of_ble_eq_true rfl) (Nat.le_of_ble_eq_true rfl) ?_
  have hP : va_P D vwCl [(h0, .inr (6, [.int 0, .int 0, .int 0, .long 0, .ref q_1, .null, .null, .null])), (q_1, .inl (cs 1, 3, .inl (fun _ => 0))), (q_3, .inl (cs 1, 64, .inl (fun _ => 0)))] H := hP
  have hD : va_D A [(h0, .inr (6, [.int 0, .int 0, .int 0, .long 0, .ref q_1, .null, .null, .null])), (q_1, .inl (cs 1, 3, .inl (fun _ => 0))), (q_3, .inl (cs 1, 64, .inl (fun _ => 0)))] := hD
  refine va_putF (D := D) (ci := 6) (v := .ref q_3) (ty := (.array .int)) (C := RX6) (T := TX6) (N := 8) hx hb hts iuX6_init_X6 tyX6 tyX6_ok nmX6 hown hK hP hD hS 0 rfl rfl 5 (by decide) (htw (.fieldLink RX6 29 "MergeJudge$Space" "packed" "[I") (List.mem_of_getElem? (i := 9) rfl)) (fun _ h9 => h9) rfl hin rfl (by decide +kernel) rfl rfl (Nat.le_of_ble_eq_true rfl) dX6_init_36 (fun H locs hP hD hS => ?_)
  have hP : va_P D vwCl [(h0, .inr (6, [.int 0, .int 0, .int 0, .long 0, .ref q_1, .ref q_3, .null, .null])), (q_1, .inl (cs 1, 3, .inl (fun _ => 0))), (q_3, .inl (cs 1, 64, .inl (fun _ => 0)))] H := hP
  have hD : va_D A [(h0, .inr (6, [.int 0, .int 0, .int 0, .long 0, .ref q_1, .ref q_3, .null, .null])), (q_1, .inl (cs 1, 3, .inl (fun _ => 0))), (q_3, .inl (cs 1, 64, .inl (fun _ => 0)))] := hD
  refine lv_aload_n hx hb dX6_init_39 rfl (lv_at hl 0 rfl) ?_
  refine lv_iconst (v := 5) hx hb dX6_init_40 (by decide) ?_
  refine va_newa (atype := .long) (N' := 5) (a0 := (5, .inr (.inl (fun _ => 0)))) hx hb (htw (.arrayClass .long) (List.mem_of_getElem? (i := 10) rfl)) rfl hK hP hD hS hA (fun _ => rfl) (by decide) (by decide) (Nat.le_of_ble_eq_true rfl) (Nat.le_of_ble_eq_true rfl) (Nat.le_of_ble_eq_true rfl) dX6_init_41 (fun q_5 cA_6 H hK1 hP hD hS => ?_)
  cases one_ty 2 6 rfl rfl hK1 va_nm_long
  refine W.widen (k := 3) (n := 72) (Nat.le_of_ble_eq_true rfl) (Nat.le_of_ble_eq_true rfl) ?_
  have hP : va_P D vwCl [(h0, .inr (6, [.int 0, .int 0, .int 0, .long 0, .ref q_1, .ref q_3, .null, .null])), (q_1, .inl (cs 1, 3, .inl (fun _ => 0))), (q_3, .inl (cs 1, 64, .inl (fun _ => 0))), (q_5, .inl (cs 2, 5, .inr (.inl (fun _ => 0))))] H := hP
  have hD : va_D A [(h0, .inr (6, [.int 0, .int 0, .int 0, .long 0, .ref q_1, .ref q_3, .null, .null])), (q_1, .inl (cs 1, 3, .inl (fun _ => 0))), (q_3, .inl (cs 1, 64, .inl (fun _ => 0))), (q_5, .inl (cs 2, 5, .inr (.inl (fun _ => 0))))] := hD
  refine va_putF (D := D) (ci := 6) (v := .ref q_5) (ty := (.array .long)) (C := RX6) (T := TX6) (N := 8) hx hb hts iuX6_init_X6 tyX6 tyX6_ok nmX6 hown hK hP hD hS 0 rfl rfl 6 (by decide) (htw (.fieldLink RX6 32 "MergeJudge$Space" "holding" "[J") (List.mem_of_getElem? (i := 11) rfl)) (fun _ h9 => h9) rfl hin rfl (by decide +kernel) rfl rfl (Nat.le_of_ble_eq_true rfl) dX6_init_43 (fun H locs hP hD hS => ?_)
  have hP : va_P D vwCl [(h0, .inr (6, [.int 0, .int 0, .int 0, .long 0, .ref q_1, .ref q_3, .ref q_5, .null])), (q_1, .inl (cs 1, 3, .inl (fun _ => 0))), (q_3, .inl (cs 1, 64, .inl (fun _ => 0))), (q_5, .inl (cs 2, 5, .inr (.inl (fun _ => 0))))] H := hP
  have hD : va_D A [(h0, .inr (6, [.int 0, .int 0, .int 0, .long 0, .ref q_1, .ref q_3, .ref q_5, .null])), (q_1, .inl (cs 1, 3, .inl (fun _ => 0))), (q_3, .inl (cs 1, 64, .inl (fun _ => 0))), (q_5, .inl (cs 2, 5, .inr (.inl (fun _ => 0))))] := hD
  refine lv_aload_n hx hb dX6_init_46 rfl (lv_at hl 0 rfl) ?_
  refine lv_sipush (v := 320) hx hb dX6_init_47 (by decide) ?_
  refine va_newa (atype := .int) (N' := 320) (a0 := (320, .inl (fun _ => 0))) hx hb (htw (.arrayClass .int) (List.mem_of_getElem? (i := 7) rfl)) rfl hK hP hD hS hA (fun _ => rfl) (by decide) (by decide) (Nat.le_of_ble_eq_true rfl) (Nat.le_of_ble_eq_true rfl) (Nat.le_of_ble_eq_true rfl) dX6_init_50 (fun q_7 cA_8 H hK1 hP hD hS => ?_)
  cases one_ty 1 6 rfl rfl hK1 va_nm_int
  refine W.widen (k := 4) (n := 392) (Nat.le_of_ble_eq_true rfl) (Nat.le_of_ble_eq_true rfl) ?_
  have hP : va_P D vwCl [(h0, .inr (6, [.int 0, .int 0, .int 0, .long 0, .ref q_1, .ref q_3, .ref q_5, .null])), (q_1, .inl (cs 1, 3, .inl (fun _ => 0))), (q_3, .inl (cs 1, 64, .inl (fun _ => 0))), (q_5, .inl (cs 2, 5, .inr (.inl (fun _ => 0)))), (q_7, .inl (cs 1, 320, .inl (fun _ => 0)))] H := hP
  have hD : va_D A [(h0, .inr (6, [.int 0, .int 0, .int 0, .long 0, .ref q_1, .ref q_3, .ref q_5, .null])), (q_1, .inl (cs 1, 3, .inl (fun _ => 0))), (q_3, .inl (cs 1, 64, .inl (fun _ => 0))), (q_5, .inl (cs 2, 5, .inr (.inl (fun _ => 0)))), (q_7, .inl (cs 1, 320, .inl (fun _ => 0)))] := hD
  refine va_putF (D := D) (ci := 6) (v := .ref q_7) (ty := (.array .int)) (C := RX6) (T := TX6) (N := 8) hx hb hts iuX6_init_X6 tyX6 tyX6_ok nmX6 hown hK hP hD hS 0 rfl rfl 7 (by decide) (htw (.fieldLink RX6 36 "MergeJudge$Space" "results" "[I") (List.mem_of_getElem? (i := 12) rfl)) (fun _ h9 => h9) rfl hin rfl (by decide +kernel) rfl rfl (Nat.le_of_ble_eq_true rfl) dX6_init_52 (fun H locs hP hD hS => ?_)
  have hP : va_P D vwCl [(h0, .inr (6, [.int 0, .int 0, .int 0, .long 0, .ref q_1, .ref q_3, .ref q_5, .ref q_7])), (q_1, .inl (cs 1, 3, .inl (fun _ => 0))), (q_3, .inl (cs 1, 64, .inl (fun _ => 0))), (q_5, .inl (cs 2, 5, .inr (.inl (fun _ => 0)))), (q_7, .inl (cs 1, 320, .inl (fun _ => 0)))] H := hP
  have hD : va_D A [(h0, .inr (6, [.int 0, .int 0, .int 0, .long 0, .ref q_1, .ref q_3, .ref q_5, .ref q_7])), (q_1, .inl (cs 1, 3, .inl (fun _ => 0))), (q_3, .inl (cs 1, 64, .inl (fun _ => 0))), (q_5, .inl (cs 2, 5, .inr (.inl (fun _ => 0)))), (q_7, .inl (cs 1, 320, .inl (fun _ => 0)))] := hD
  exact ret_v hx hb hr hlk hS (Nat.le_of_ble_eq_true rfl) (Nat.le_of_ble_eq_true rfl) (q_1, q_3, q_5, q_7) (trivial) (hP.sub [0, 1, 2, 3, 4] rfl) (hD.sub [0, 1, 2, 3, 4] (by decide) rfl) dX6_init_55

set_option maxHeartbeats 4000000 in
set_option maxRecDepth 100000 in
theorem k_X3_init (l : Launch) (D : va_G) (cs : Nat → ClassId) (sz : Nat) (h0 : Nat)  : Mv l D cs yX3_init W_X3_init 1 12 1 192 [.ref h0] [(h0, .inr (3, [.null]))] sz (fun (u : Nat) => True) (fun (u : Nat) => [(h0, .inr (3, [.ref u])), (u, .inl (cs 1, 192, .inl (fun _ => 0)))]) := by
  refine ent (D := D) (cs := cs) (y := yX3_init) (ws := W_X3_init) (As := [.ref h0]) (W0 := [(h0, .inr (3, [.null]))]) (Qx := fun A => va_Qv (fun (u : Nat) => True) (mpost D A (fun (u : Nat) => [(h0, .inr (3, [.ref u])), (u, .inl (cs 1, 192, .inl (fun _ => 0)))])) A) (maxL := 1) (ret := none) (by decide) rfl (Nat.le_of_ble_eq_true rfl) ?_
  intro p e s m below meth c A ls hx hb hr hml hlk hown hts hin hK hE hP hD hA hS hl
  have hl : lv_has ls 1 [(0, .ref h0)] := hl
  generalize hHe : s.heap = H at hP
  have hS : va_S A s.heap H [] := hHe ▸ hS
  generalize hLe : ([] : List Loc) = locs at hS ⊢
  have htw : ∀ w ∈ O_X3_init, w.before ([.ref h0] : List Value).toArray s = true := fun w h => hts w (List.mem_cons_of_mem _ (List.mem_append_left _ h))
  have hFix := (⟨hx, hb, hml, hown, hts⟩ : CallFix p m c _ _ s _ _ _)
  refine lv_aload_n hx hb dX3_init_0 rfl (lv_at hl 0 rfl) ?_
  refine W.objInit hx hb hown (htw (.methodLink RX3 3 objectInit) (List.mem_of_getElem? (i := 0) rfl)) (htw (.instanceMethod objectInit) (List.mem_of_getElem? (i := 1) rfl)) (htw (.code objectInit ⟨#[0xb1]⟩ 1 none) (List.mem_of_getElem? (i := 2) rfl)) rfl (by rw [hml]; exact hl.1) rfl dX3_init_1 (Nat.le_of_ble_eq_true rfl) (Nat.le_of_ble_eq_true rfl) ?_
  refine W.eq (g2 := F0 m 4 ls []) rfl ?_
  refine lv_aload_n hx hb dX3_init_4 rfl (lv_at hl 0 rfl) ?_
  refine lv_sipush (v := 192) hx hb dX3_init_5 (by decide) ?_
  refine va_newa (atype := .int) (N' := 192) (a0 := (192, .inl (fun _ => 0))) hx hb (htw (.arrayClass .int) (List.mem_of_getElem? (i := 3) rfl)) rfl hK hP hD hS hA (fun _ => rfl) (by decide) (by decide) (Nat.le_of_ble_eq_true rfl) (Nat.le_of_ble_eq_true rfl) (Nat.le_of_ble_eq_true rfl) dX3_init_8 (fun q_1 cA_2 H hK1 hP hD hS => ?_)
  cases one_ty 1 6 rfl rfl hK1 va_nm_int
  refine W.widen (k := 1) (n := 192) (Nat.le_of_ble_eq_true rfl) (Nat.le_of_ble_eq_true rfl) ?_
  have hP : va_P D vwCl [(h0, .inr (3, [.null])), (q_1, .inl (cs 1, 192, .inl (fun _ => 0)))] H := hP
  have hD : va_D A [(h0, .inr (3, [.null])), (q_1, .inl (cs 1, 192, .inl (fun _ => 0)))] := hD
  refine va_putF (D := D) (ci := 3) (v := .ref q_1) (ty := (.array .int)) (C := RX3) (T := TX3) (N := 1) hx hb hts iuX3_init_X3 tyX3 tyX3_ok nmX3 hown hK hP hD hS 0 rfl rfl 0 (by decide) (htw (.fieldLink RX3 9 "MergeJudge$Merger" "mixed" "[I") (List.mem_of_getElem? (i := 4) rfl)) (fun _ h9 => h9) rfl hin rfl (by decide +kernel) rfl rfl (Nat.le_of_ble_eq_true rfl) dX3_init_10 (fun H locs hP hD hS => ?_)
  have hP : va_P D vwCl [(h0, .inr (3, [.ref q_1])), (q_1, .inl (cs 1, 192, .inl (fun _ => 0)))] H := hP
  have hD : va_D A [(h0, .inr (3, [.ref q_1])), (q_1, .inl (cs 1, 192, .inl (fun _ => 0)))] := hD
  exact ret_v hx hb hr hlk hS (Nat.le_of_ble_eq_true rfl) (Nat.le_of_ble_eq_true rfl) (q_1) (trivial) (hP.sub [0, 1] rfl) (hD.sub [0, 1] (by decide) rfl) dX3_init_13

set_option maxHeartbeats 4000000 in
set_option maxRecDepth 100000 in
theorem k_X5_init (l : Launch) (D : va_G) (cs : Nat → ClassId) (sz : Nat) (h0 : Nat)  : Mv l D cs yX5_init W_X5_init 1 12 1 60 [.ref h0] [(h0, .inr (5, [.int 0, .int 0, .int 0, .null]))] sz (fun (u : Nat) => True) (fun (u : Nat) => [(h0, .inr (5, [.int 0, .int 0, .int 0, .ref u])), (u, .inl (cs 2, 60, .inr (.inl (fun _ => 0))))]) := by
  refine ent (D := D) (cs := cs) (y := yX5_init) (ws := W_X5_init) (As := [.ref h0]) (W0 := [(h0, .inr (5, [.int 0, .int 0, .int 0, .null]))]) (Qx := fun A => va_Qv (fun (u : Nat) => True) (mpost D A (fun (u : Nat) => [(h0, .inr (5, [.int 0, .int 0, .int 0, .ref u])), (u, .inl (cs 2, 60, .inr (.inl (fun _ => 0))))])) A) (maxL := 1) (ret := none) (by decide) rfl (Nat.le_of_ble_eq_true rfl) ?_
  intro p e s m below meth c A ls hx hb hr hml hlk hown hts hin hK hE hP hD hA hS hl
  have hl : lv_has ls 1 [(0, .ref h0)] := hl
  generalize hHe : s.heap = H at hP
  have hS : va_S A s.heap H [] := hHe ▸ hS
  generalize hLe : ([] : List Loc) = locs at hS ⊢
  have htw : ∀ w ∈ O_X5_init, w.before ([.ref h0] : List Value).toArray s = true := fun w h => hts w (List.mem_cons_of_mem _ (List.mem_append_left _ h))
  have hFix := (⟨hx, hb, hml, hown, hts⟩ : CallFix p m c _ _ s _ _ _)
  refine lv_aload_n hx hb dX5_init_0 rfl (lv_at hl 0 rfl) ?_
  refine W.objInit hx hb hown (htw (.methodLink RX5 3 objectInit) (List.mem_of_getElem? (i := 0) rfl)) (htw (.instanceMethod objectInit) (List.mem_of_getElem? (i := 1) rfl)) (htw (.code objectInit ⟨#[0xb1]⟩ 1 none) (List.mem_of_getElem? (i := 2) rfl)) rfl (by rw [hml]; exact hl.1) rfl dX5_init_1 (Nat.le_of_ble_eq_true rfl) (Nat.le_of_ble_eq_true rfl) ?_
  refine W.eq (g2 := F0 m 4 ls []) rfl ?_
  refine lv_aload_n hx hb dX5_init_4 rfl (lv_at hl 0 rfl) ?_
  refine lv_iconst (v := 0) hx hb dX5_init_5 (by decide) ?_
  refine va_put (D := D) (ci := 5) (v := .int 0) (ty := .boolean) (C := RX5) (T := TX5) (N := 4) hx hb hts iuX5_init_X5 tyX5 tyX5_ok nmX5 hown hK hP hD hS 0 rfl rfl 0 (by decide) (htw (.fieldLink RX5 9 "MergeJudge$Slot" "there" "Z") (List.mem_of_getElem? (i := 3) rfl)) (fun _ h9 => h9) rfl (by decide +kernel) (by decide) (by decide) (Nat.le_of_ble_eq_true rfl) dX5_init_6 (fun H locs hP hD hS => ?_)
  have hP : va_P D vwCl [(h0, .inr (5, [.int 0, .int 0, .int 0, .null]))] H := hP
  have hD : va_D A [(h0, .inr (5, [.int 0, .int 0, .int 0, .null]))] := hD
  refine lv_aload_n hx hb dX5_init_9 rfl (lv_at hl 0 rfl) ?_
  refine lv_iconst (v := 0) hx hb dX5_init_10 (by decide) ?_
  refine va_put (D := D) (ci := 5) (v := .int 0) (ty := .int) (C := RX5) (T := TX5) (N := 4) hx hb hts iuX5_init_X5 tyX5 tyX5_ok nmX5 hown hK hP hD hS 0 rfl rfl 1 (by decide) (htw (.fieldLink RX5 15 "MergeJudge$Slot" "width" "I") (List.mem_of_getElem? (i := 4) rfl)) (fun _ h9 => h9) rfl (by decide +kernel) rfl rfl (Nat.le_of_ble_eq_true rfl) dX5_init_11 (fun H locs hP hD hS => ?_)
  have hP : va_P D vwCl [(h0, .inr (5, [.int 0, .int 0, .int 0, .null]))] H := hP
  have hD : va_D A [(h0, .inr (5, [.int 0, .int 0, .int 0, .null]))] := hD
  refine lv_aload_n hx hb dX5_init_14 rfl (lv_at hl 0 rfl) ?_
  refine lv_iconst (v := 0) hx hb dX5_init_15 (by decide) ?_
  refine va_put (D := D) (ci := 5) (v := .int 0) (ty := .int) (C := RX5) (T := TX5) (N := 4) hx hb hts iuX5_init_X5 tyX5 tyX5_ok nmX5 hown hK hP hD hS 0 rfl rfl 2 (by decide) (htw (.fieldLink RX5 19 "MergeJudge$Slot" "size" "I") (List.mem_of_getElem? (i := 5) rfl)) (fun _ h9 => h9) rfl (by decide +kernel) rfl rfl (Nat.le_of_ble_eq_true rfl) dX5_init_16 (fun H locs hP hD hS => ?_)
  have hP : va_P D vwCl [(h0, .inr (5, [.int 0, .int 0, .int 0, .null]))] H := hP
  have hD : va_D A [(h0, .inr (5, [.int 0, .int 0, .int 0, .null]))] := hD
  refine lv_aload_n hx hb dX5_init_19 rfl (lv_at hl 0 rfl) ?_
  refine lv_bipush (v := 60) hx hb dX5_init_20 (by decide) ?_
  refine va_newa (atype := .long) (N' := 60) (a0 := (60, .inr (.inl (fun _ => 0)))) hx hb (htw (.arrayClass .long) (List.mem_of_getElem? (i := 6) rfl)) rfl hK hP hD hS hA (fun _ => rfl) (by decide) (by decide) (Nat.le_of_ble_eq_true rfl) (Nat.le_of_ble_eq_true rfl) (Nat.le_of_ble_eq_true rfl) dX5_init_22 (fun q_1 cA_2 H hK1 hP hD hS => ?_)
  cases one_ty 2 6 rfl rfl hK1 va_nm_long
  refine W.widen (k := 1) (n := 60) (Nat.le_of_ble_eq_true rfl) (Nat.le_of_ble_eq_true rfl) ?_
  have hP : va_P D vwCl [(h0, .inr (5, [.int 0, .int 0, .int 0, .null])), (q_1, .inl (cs 2, 60, .inr (.inl (fun _ => 0))))] H := hP
  have hD : va_D A [(h0, .inr (5, [.int 0, .int 0, .int 0, .null])), (q_1, .inl (cs 2, 60, .inr (.inl (fun _ => 0))))] := hD
  refine va_putF (D := D) (ci := 5) (v := .ref q_1) (ty := (.array .long)) (C := RX5) (T := TX5) (N := 4) hx hb hts iuX5_init_X5 tyX5 tyX5_ok nmX5 hown hK hP hD hS 0 rfl rfl 3 (by decide) (htw (.fieldLink RX5 22 "MergeJudge$Slot" "numbers" "[J") (List.mem_of_getElem? (i := 7) rfl)) (fun _ h9 => h9) rfl hin rfl (by decide +kernel) rfl rfl (Nat.le_of_ble_eq_true rfl) dX5_init_24 (fun H locs hP hD hS => ?_)
  have hP : va_P D vwCl [(h0, .inr (5, [.int 0, .int 0, .int 0, .ref q_1])), (q_1, .inl (cs 2, 60, .inr (.inl (fun _ => 0))))] H := hP
  have hD : va_D A [(h0, .inr (5, [.int 0, .int 0, .int 0, .ref q_1])), (q_1, .inl (cs 2, 60, .inr (.inl (fun _ => 0))))] := hD
  exact ret_v hx hb hr hlk hS (Nat.le_of_ble_eq_true rfl) (Nat.le_of_ble_eq_true rfl) (q_1) (trivial) (hP.sub [0, 1] rfl) (hD.sub [0, 1] (by decide) rfl) dX5_init_27

set_option maxHeartbeats 4000000 in
set_option maxRecDepth 100000 in
theorem k_X2_init (l : Launch) (D : va_G) (cs : Nat → ClassId) (sz : Nat) (h0 : Nat) (to : Nat) (so : Nat)  : Mv l D cs yX2_init W_X2_init 2 32 8 398 [.ref h0, .ref to, .ref so] [(h0, .inr (2, [.null, .null, .null, .int 0, .int 0, .long 0, .null, .null, .null, .null, .null, .null]))] sz (fun (u : Nat × Nat × Nat × Nat × Nat × Nat × Nat × Nat) => True) (fun (u : Nat × Nat × Nat × Nat × Nat × Nat × Nat × Nat) => [(h0, .inr (2, [.ref to, .ref so, .ref u.1, .int 0, .int 0, .long 0, .ref u.2.1, .ref u.2.2.1, .ref u.2.2.2.1, .ref u.2.2.2.2.1, .ref u.2.2.2.2.2.1, .ref u.2.2.2.2.2.2.1])), (u.1, .inr (3, [.ref u.2.2.2.2.2.2.2])), (u.2.2.2.2.2.2.2, .inl (cs 1, 192, .inl (fun _ => 0))), (u.2.1, .inl (cs 1, 64, .inl (fun _ => 0))), (u.2.2.1, .inl (cs 2, 64, .inr (.inl (fun _ => 0)))), (u.2.2.2.1, .inl (cs 2, 64, .inr (.inl (fun _ => 0)))), (u.2.2.2.2.1, .inl (cs 2, 3, .inr (.inl (fun _ => 0)))), (u.2.2.2.2.2.1, .inl (cs 1, 5, .inl (fun _ => 0))), (u.2.2.2.2.2.2.1, .inl (cs 1, 5, .inl (fun _ => 0)))]) := by
  refine ent (D := D) (cs := cs) (y := yX2_init) (ws := W_X2_init) (As := [.ref h0, .ref to, .ref so]) (W0 := [(h0, .inr (2, [.null, .null, .null, .int 0, .int 0, .long 0, .null, .null, .null, .null, .null, .null]))]) (Qx := fun A => va_Qv (fun (u : Nat × Nat × Nat × Nat × Nat × Nat × Nat × Nat) => True) (mpost D A (fun (u : Nat × Nat × Nat × Nat × Nat × Nat × Nat × Nat) => [(h0, .inr (2, [.ref to, .ref so, .ref u.1, .int 0, .int 0, .long 0, .ref u.2.1, .ref u.2.2.1, .ref u.2.2.2.1, .ref u.2.2.2.2.1, .ref u.2.2.2.2.2.1, .ref u.2.2.2.2.2.2.1])), (u.1, .inr (3, [.ref u.2.2.2.2.2.2.2])), (u.2.2.2.2.2.2.2, .inl (cs 1, 192, .inl (fun _ => 0))), (u.2.1, .inl (cs 1, 64, .inl (fun _ => 0))), (u.2.2.1, .inl (cs 2, 64, .inr (.inl (fun _ => 0)))), (u.2.2.2.1, .inl (cs 2, 64, .inr (.inl (fun _ => 0)))), (u.2.2.2.2.1, .inl (cs 2, 3, .inr (.inl (fun _ => 0)))), (u.2.2.2.2.2.1, .inl (cs 1, 5, .inl (fun _ => 0))), (u.2.2.2.2.2.2.1, .inl (cs 1, 5, .inl (fun _ => 0)))])) A) (maxL := 3) (ret := none) (by decide) rfl (Nat.le_of_ble_eq_true rfl) ?_
  intro p e s m below meth c A ls hx hb hr hml hlk hown hts hin hK hE hP hD hA hS hl
  have hl : lv_has ls 3 [(0, .ref h0), (1, .ref to), (2, .ref so)] := hl
  generalize hHe : s.heap = H at hP
  have hS : va_S A s.heap H [] := hHe ▸ hS
  generalize hLe : ([] : List Loc) = locs at hS ⊢
  have htw : ∀ w ∈ O_X2_init, w.before ([.ref h0, .ref to, .ref so] : List Value).toArray s = true := fun w h => hts w (List.mem_cons_of_mem _ (List.mem_append_left _ h))
  have hFix := (⟨hx, hb, hml, hown, hts⟩ : CallFix p m c _ _ s _ _ _)
  refine lv_aload_n hx hb dX2_init_0 rfl (lv_at hl 0 rfl) ?_
  refine W.objInit hx hb hown (htw (.methodLink RX2 3 objectInit) (List.mem_of_getElem? (i := 0) rfl)) (htw (.instanceMethod objectInit) (List.mem_of_getElem? (i := 1) rfl)) (htw (.code objectInit ⟨#[0xb1]⟩ 1 none) (List.mem_of_getElem? (i := 2) rfl)) rfl (by rw [hml]; exact hl.1) rfl dX2_init_1 (Nat.le_of_ble_eq_true rfl) (Nat.le_of_ble_eq_true rfl) ?_
  refine W.eq (g2 := F0 m 4 ls []) rfl ?_
  refine lv_aload_n hx hb dX2_init_4 rfl (lv_at hl 0 rfl) ?_
  refine va_new (ci := 3) (fs := [.null]) (C := RX3) (T := TX3) (N := 1) hx hb hts iuX2_init_X3 tyX3 tyX3_ok hown (htw (.classLink RX2 9 RX3) (List.mem_of_getElem? (i := 3) rfl)) (htw (.instantiable RX3 1) (List.mem_of_getElem? (i := 4) rfl)) (htw (.initialized RX3) (List.mem_of_getElem? (i := 5) rfl)) hK hP hD hS hA rfl (fun j hj => by rcases (show j = 0 by omega) with rfl <;> rfl) (Nat.le_of_ble_eq_true rfl) (Nat.le_of_ble_eq_true rfl) dX2_init_5 (fun q_1 H hP hD hS => ?_)
  refine W.widen (k := 1) (n := 1) (Nat.le_of_ble_eq_true rfl) (Nat.le_of_ble_eq_true rfl) ?_
  have hP : va_P D vwCl [(h0, .inr (2, [.null, .null, .null, .int 0, .int 0, .long 0, .null, .null, .null, .null, .null, .null])), (q_1, .inr (3, [.null]))] H := hP
  have hD : va_D A [(h0, .inr (2, [.null, .null, .null, .int 0, .int 0, .long 0, .null, .null, .null, .null, .null, .null])), (q_1, .inr (3, [.null]))] := hD
  refine lv_dup hx hb dX2_init_8 rfl ?_
  refine aft_v (wr := [(h0, .inr (2, [.null, .null, .null, .int 0, .int 0, .long 0, .null, .null, .null, .null, .null, .null]))]) hP hD hS hA [1] [0] rfl rfl (by decide) (by decide) (run_in (As := []) (rest := [.ref q_1, .ref h0]) hFix hK hE hP hD [1] (k_X3_init l D cs _ q_1) ⟨va_cnB 0 hts gw_X2_init_X3_init rfl rfl rfl hE.2.2.2.2.1 (htw (.initialized RX3) (List.mem_of_getElem? (i := 5) rfl)) (by decide +kernel) ⟨Nat.le_of_ble_eq_true rfl, Nat.le_of_ble_eq_true rfl⟩, rfl, (htw (.instanceMethod yX3_init) (List.mem_of_getElem? (i := 6) rfl))⟩ rfl (by decide) rfl hl.1 rfl (Nat.le_of_ble_eq_true rfl) dX2_init_9 ⟨Nat.le_of_ble_eq_true rfl, Nat.le_of_ble_eq_true rfl⟩) (fun u_2 H locs hq_2 hP hD hS => ?_)
  obtain ⟨q1_2, rfl⟩ : ∃ z, z = u_2 := ⟨_, rfl⟩
  refine W.widen (k := 2) (n := 193) (Nat.le_of_ble_eq_true rfl) (Nat.le_of_ble_eq_true rfl) ?_
  have hP : va_P D vwCl [(h0, .inr (2, [.null, .null, .null, .int 0, .int 0, .long 0, .null, .null, .null, .null, .null, .null])), (q_1, .inr (3, [.ref q1_2])), (q1_2, .inl (cs 1, 192, .inl (fun _ => 0)))] H := hP
  have hD : va_D A [(h0, .inr (2, [.null, .null, .null, .int 0, .int 0, .long 0, .null, .null, .null, .null, .null, .null])), (q_1, .inr (3, [.ref q1_2])), (q1_2, .inl (cs 1, 192, .inl (fun _ => 0)))] := hD
  refine va_putF (D := D) (ci := 2) (v := .ref q_1) (ty := (.object "MergeJudge$Merger")) (C := RX2) (T := TX2) (N := 12) hx hb hts iuX2_init_X2 tyX2 tyX2_ok nmX2 hown hK hP hD hS 0 rfl rfl 2 (by decide) (htw (.fieldLink RX2 12 "MergeJudge$Judge" "merger" "LMergeJudge$Merger;") (List.mem_of_getElem? (i := 7) rfl)) (fun _ h9 => h9) rfl hin rfl (by decide +kernel) rfl rfl (Nat.le_of_ble_eq_true rfl) dX2_init_12 (fun H locs hP hD hS => ?_)
  have hP : va_P D vwCl [(h0, .inr (2, [.null, .null, .ref q_1, .int 0, .int 0, .long 0, .null, .null, .null, .null, .null, .null])), (q_1, .inr (3, [.ref q1_2])), (q1_2, .inl (cs 1, 192, .inl (fun _ => 0)))] H := hP
  have hD : va_D A [(h0, .inr (2, [.null, .null, .ref q_1, .int 0, .int 0, .long 0, .null, .null, .null, .null, .null, .null])), (q_1, .inr (3, [.ref q1_2])), (q1_2, .inl (cs 1, 192, .inl (fun _ => 0)))] := hD
  refine lv_aload_n hx hb dX2_init_15 rfl (lv_at hl 0 rfl) ?_
  refine lv_iconst (v := 0) hx hb dX2_init_16 (by decide) ?_
  refine va_put (D := D) (ci := 2) (v := .int 0) (ty := .int) (C := RX2) (T := TX2) (N := 12) hx hb hts iuX2_init_X2 tyX2 tyX2_ok nmX2 hown hK hP hD hS 0 rfl rfl 3 (by decide) (htw (.fieldLink RX2 18 "MergeJudge$Judge" "dropped" "I") (List.mem_of_getElem? (i := 8) rfl)) (fun _ h9 => h9) rfl (by decide +kernel) rfl rfl (Nat.le_of_ble_eq_true rfl) dX2_init_17 (fun H locs hP hD hS => ?_)
  have hP : va_P D vwCl [(h0, .inr (2, [.null, .null, .ref q_1, .int 0, .int 0, .long 0, .null, .null, .null, .null, .null, .null])), (q_1, .inr (3, [.ref q1_2])), (q1_2, .inl (cs 1, 192, .inl (fun _ => 0)))] H := hP
  have hD : va_D A [(h0, .inr (2, [.null, .null, .ref q_1, .int 0, .int 0, .long 0, .null, .null, .null, .null, .null, .null])), (q_1, .inr (3, [.ref q1_2])), (q1_2, .inl (cs 1, 192, .inl (fun _ => 0)))] := hD
  refine lv_aload_n hx hb dX2_init_20 rfl (lv_at hl 0 rfl) ?_
  refine lv_iconst (v := 0) hx hb dX2_init_21 (by decide) ?_
  refine va_put (D := D) (ci := 2) (v := .int 0) (ty := .int) (C := RX2) (T := TX2) (N := 12) hx hb hts iuX2_init_X2 tyX2 tyX2_ok nmX2 hown hK hP hD hS 0 rfl rfl 4 (by decide) (htw (.fieldLink RX2 22 "MergeJudge$Judge" "locked" "I") (List.mem_of_getElem? (i := 9) rfl)) (fun _ h9 => h9) rfl (by decide +kernel) rfl rfl (Nat.le_of_ble_eq_true rfl) dX2_init_22 (fun H locs hP hD hS => ?_)
  have hP : va_P D vwCl [(h0, .inr (2, [.null, .null, .ref q_1, .int 0, .int 0, .long 0, .null, .null, .null, .null, .null, .null])), (q_1, .inr (3, [.ref q1_2])), (q1_2, .inl (cs 1, 192, .inl (fun _ => 0)))] H := hP
  have hD : va_D A [(h0, .inr (2, [.null, .null, .ref q_1, .int 0, .int 0, .long 0, .null, .null, .null, .null, .null, .null])), (q_1, .inr (3, [.ref q1_2])), (q1_2, .inl (cs 1, 192, .inl (fun _ => 0)))] := hD
  refine lv_aload_n hx hb dX2_init_25 rfl (lv_at hl 0 rfl) ?_
  refine lv_lconst (v := 0) hx hb dX2_init_26 (by decide) ?_
  refine va_put (D := D) (ci := 2) (v := .long 0) (ty := .long) (C := RX2) (T := TX2) (N := 12) hx hb hts iuX2_init_X2 tyX2 tyX2_ok nmX2 hown hK hP hD hS 0 rfl rfl 5 (by decide) (htw (.fieldLink RX2 25 "MergeJudge$Judge" "validStates" "J") (List.mem_of_getElem? (i := 10) rfl)) (fun _ h9 => h9) rfl (by decide +kernel) rfl rfl (Nat.le_of_ble_eq_true rfl) dX2_init_27 (fun H locs hP hD hS => ?_)
  have hP : va_P D vwCl [(h0, .inr (2, [.null, .null, .ref q_1, .int 0, .int 0, .long 0, .null, .null, .null, .null, .null, .null])), (q_1, .inr (3, [.ref q1_2])), (q1_2, .inl (cs 1, 192, .inl (fun _ => 0)))] H := hP
  have hD : va_D A [(h0, .inr (2, [.null, .null, .ref q_1, .int 0, .int 0, .long 0, .null, .null, .null, .null, .null, .null])), (q_1, .inr (3, [.ref q1_2])), (q1_2, .inl (cs 1, 192, .inl (fun _ => 0)))] := hD
  refine lv_aload_n hx hb dX2_init_30 rfl (lv_at hl 0 rfl) ?_
  refine lv_bipush (v := 64) hx hb dX2_init_31 (by decide) ?_
  refine va_newa (atype := .int) (N' := 64) (a0 := (64, .inl (fun _ => 0))) hx hb (htw (.arrayClass .int) (List.mem_of_getElem? (i := 11) rfl)) rfl hK hP hD hS hA (fun _ => rfl) (by decide) (by decide) (Nat.le_of_ble_eq_true rfl) (Nat.le_of_ble_eq_true rfl) (Nat.le_of_ble_eq_true rfl) dX2_init_33 (fun q_3 cA_4 H hK1 hP hD hS => ?_)
  cases one_ty 1 6 rfl rfl hK1 va_nm_int
  refine W.widen (k := 3) (n := 257) (Nat.le_of_ble_eq_true rfl) (Nat.le_of_ble_eq_true rfl) ?_
  have hP : va_P D vwCl [(h0, .inr (2, [.null, .null, .ref q_1, .int 0, .int 0, .long 0, .null, .null, .null, .null, .null, .null])), (q_1, .inr (3, [.ref q1_2])), (q1_2, .inl (cs 1, 192, .inl (fun _ => 0))), (q_3, .inl (cs 1, 64, .inl (fun _ => 0)))] H := hP
  have hD : va_D A [(h0, .inr (2, [.null, .null, .ref q_1, .int 0, .int 0, .long 0, .null, .null, .null, .null, .null, .null])), (q_1, .inr (3, [.ref q1_2])), (q1_2, .inl (cs 1, 192, .inl (fun _ => 0))), (q_3, .inl (cs 1, 64, .inl (fun _ => 0)))] := hD
  refine va_putF (D := D) (ci := 2) (v := .ref q_3) (ty := (.array .int)) (C := RX2) (T := TX2) (N := 12) hx hb hts iuX2_init_X2 tyX2 tyX2_ok nmX2 hown hK hP hD hS 0 rfl rfl 6 (by decide) (htw (.fieldLink RX2 29 "MergeJudge$Judge" "queue" "[I") (List.mem_of_getElem? (i := 12) rfl)) (fun _ h9 => h9) rfl hin rfl (by decide +kernel) rfl rfl (Nat.le_of_ble_eq_true rfl) dX2_init_35 (fun H locs hP hD hS => ?_)
  have hP : va_P D vwCl [(h0, .inr (2, [.null, .null, .ref q_1, .int 0, .int 0, .long 0, .ref q_3, .null, .null, .null, .null, .null])), (q_1, .inr (3, [.ref q1_2])), (q1_2, .inl (cs 1, 192, .inl (fun _ => 0))), (q_3, .inl (cs 1, 64, .inl (fun _ => 0)))] H := hP
  have hD : va_D A [(h0, .inr (2, [.null, .null, .ref q_1, .int 0, .int 0, .long 0, .ref q_3, .null, .null, .null, .null, .null])), (q_1, .inr (3, [.ref q1_2])), (q1_2, .inl (cs 1, 192, .inl (fun _ => 0))), (q_3, .inl (cs 1, 64, .inl (fun _ => 0)))] := hD
  refine lv_aload_n hx hb dX2_init_38 rfl (lv_at hl 0 rfl) ?_
  refine lv_bipush (v := 64) hx hb dX2_init_39 (by decide) ?_
  refine va_newa (atype := .long) (N' := 64) (a0 := (64, .inr (.inl (fun _ => 0)))) hx hb (htw (.arrayClass .long) (List.mem_of_getElem? (i := 13) rfl)) rfl hK hP hD hS hA (fun _ => rfl) (by decide) (by decide) (Nat.le_of_ble_eq_true rfl) (Nat.le_of_ble_eq_true rfl) (Nat.le_of_ble_eq_true rfl) dX2_init_41 (fun q_5 cA_6 H hK1 hP hD hS => ?_)
  cases one_ty 2 6 rfl rfl hK1 va_nm_long
  refine W.widen (k := 4) (n := 321) (Nat.le_of_ble_eq_true rfl) (Nat.le_of_ble_eq_true rfl) ?_
  have hP : va_P D vwCl [(h0, .inr (2, [.null, .null, .ref q_1, .int 0, .int 0, .long 0, .ref q_3, .null, .null, .null, .null, .null])), (q_1, .inr (3, [.ref q1_2])), (q1_2, .inl (cs 1, 192, .inl (fun _ => 0))), (q_3, .inl (cs 1, 64, .inl (fun _ => 0))), (q_5, .inl (cs 2, 64, .inr (.inl (fun _ => 0))))] H := hP
  have hD : va_D A [(h0, .inr (2, [.null, .null, .ref q_1, .int 0, .int 0, .long 0, .ref q_3, .null, .null, .null, .null, .null])), (q_1, .inr (3, [.ref q1_2])), (q1_2, .inl (cs 1, 192, .inl (fun _ => 0))), (q_3, .inl (cs 1, 64, .inl (fun _ => 0))), (q_5, .inl (cs 2, 64, .inr (.inl (fun _ => 0))))] := hD
  refine va_putF (D := D) (ci := 2) (v := .ref q_5) (ty := (.array .long)) (C := RX2) (T := TX2) (N := 12) hx hb hts iuX2_init_X2 tyX2 tyX2_ok nmX2 hown hK hP hD hS 0 rfl rfl 7 (by decide) (htw (.fieldLink RX2 33 "MergeJudge$Judge" "broken" "[J") (List.mem_of_getElem? (i := 14) rfl)) (fun _ h9 => h9) rfl hin rfl (by decide +kernel) rfl rfl (Nat.le_of_ble_eq_true rfl) dX2_init_43 (fun H locs hP hD hS => ?_)
  have hP : va_P D vwCl [(h0, .inr (2, [.null, .null, .ref q_1, .int 0, .int 0, .long 0, .ref q_3, .ref q_5, .null, .null, .null, .null])), (q_1, .inr (3, [.ref q1_2])), (q1_2, .inl (cs 1, 192, .inl (fun _ => 0))), (q_3, .inl (cs 1, 64, .inl (fun _ => 0))), (q_5, .inl (cs 2, 64, .inr (.inl (fun _ => 0))))] H := hP
  have hD : va_D A [(h0, .inr (2, [.null, .null, .ref q_1, .int 0, .int 0, .long 0, .ref q_3, .ref q_5, .null, .null, .null, .null])), (q_1, .inr (3, [.ref q1_2])), (q1_2, .inl (cs 1, 192, .inl (fun _ => 0))), (q_3, .inl (cs 1, 64, .inl (fun _ => 0))), (q_5, .inl (cs 2, 64, .inr (.inl (fun _ => 0))))] := hD
  refine lv_aload_n hx hb dX2_init_46 rfl (lv_at hl 0 rfl) ?_
  refine lv_bipush (v := 64) hx hb dX2_init_47 (by decide) ?_
  refine va_newa (atype := .long) (N' := 64) (a0 := (64, .inr (.inl (fun _ => 0)))) hx hb (htw (.arrayClass .long) (List.mem_of_getElem? (i := 13) rfl)) rfl hK hP hD hS hA (fun _ => rfl) (by decide) (by decide) (Nat.le_of_ble_eq_true rfl) (Nat.le_of_ble_eq_true rfl) (Nat.le_of_ble_eq_true rfl) dX2_init_49 (fun q_7 cA_8 H hK1 hP hD hS => ?_)
  cases one_ty 2 6 rfl rfl hK1 va_nm_long
  refine W.widen (k := 5) (n := 385) (Nat.le_of_ble_eq_true rfl) (Nat.le_of_ble_eq_true rfl) ?_
  have hP : va_P D vwCl [(h0, .inr (2, [.null, .null, .ref q_1, .int 0, .int 0, .long 0, .ref q_3, .ref q_5, .null, .null, .null, .null])), (q_1, .inr (3, [.ref q1_2])), (q1_2, .inl (cs 1, 192, .inl (fun _ => 0))), (q_3, .inl (cs 1, 64, .inl (fun _ => 0))), (q_5, .inl (cs 2, 64, .inr (.inl (fun _ => 0)))), (q_7, .inl (cs 2, 64, .inr (.inl (fun _ => 0))))] H := hP
  have hD : va_D A [(h0, .inr (2, [.null, .null, .ref q_1, .int 0, .int 0, .long 0, .ref q_3, .ref q_5, .null, .null, .null, .null])), (q_1, .inr (3, [.ref q1_2])), (q1_2, .inl (cs 1, 192, .inl (fun _ => 0))), (q_3, .inl (cs 1, 64, .inl (fun _ => 0))), (q_5, .inl (cs 2, 64, .inr (.inl (fun _ => 0)))), (q_7, .inl (cs 2, 64, .inr (.inl (fun _ => 0))))] := hD
  refine va_putF (D := D) (ci := 2) (v := .ref q_7) (ty := (.array .long)) (C := RX2) (T := TX2) (N := 12) hx hb hts iuX2_init_X2 tyX2 tyX2_ok nmX2 hown hK hP hD hS 0 rfl rfl 8 (by decide) (htw (.fieldLink RX2 37 "MergeJudge$Judge" "pairsSeen" "[J") (List.mem_of_getElem? (i := 15) rfl)) (fun _ h9 => h9) rfl hin rfl (by decide +kernel) rfl rfl (Nat.le_of_ble_eq_true rfl) dX2_init_51 (fun H locs hP hD hS => ?_)
  have hP : va_P D vwCl [(h0, .inr (2, [.null, .null, .ref q_1, .int 0, .int 0, .long 0, .ref q_3, .ref q_5, .ref q_7, .null, .null, .null])), (q_1, .inr (3, [.ref q1_2])), (q1_2, .inl (cs 1, 192, .inl (fun _ => 0))), (q_3, .inl (cs 1, 64, .inl (fun _ => 0))), (q_5, .inl (cs 2, 64, .inr (.inl (fun _ => 0)))), (q_7, .inl (cs 2, 64, .inr (.inl (fun _ => 0))))] H := hP
  have hD : va_D A [(h0, .inr (2, [.null, .null, .ref q_1, .int 0, .int 0, .long 0, .ref q_3, .ref q_5, .ref q_7, .null, .null, .null])), (q_1, .inr (3, [.ref q1_2])), (q1_2, .inl (cs 1, 192, .inl (fun _ => 0))), (q_3, .inl (cs 1, 64, .inl (fun _ => 0))), (q_5, .inl (cs 2, 64, .inr (.inl (fun _ => 0)))), (q_7, .inl (cs 2, 64, .inr (.inl (fun _ => 0))))] := hD
  refine lv_aload_n hx hb dX2_init_54 rfl (lv_at hl 0 rfl) ?_
  refine lv_iconst (v := 3) hx hb dX2_init_55 (by decide) ?_
  refine va_newa (atype := .long) (N' := 3) (a0 := (3, .inr (.inl (fun _ => 0)))) hx hb (htw (.arrayClass .long) (List.mem_of_getElem? (i := 13) rfl)) rfl hK hP hD hS hA (fun _ => rfl) (by decide) (by decide) (Nat.le_of_ble_eq_true rfl) (Nat.le_of_ble_eq_true rfl) (Nat.le_of_ble_eq_true rfl) dX2_init_56 (fun q_9 cA_10 H hK1 hP hD hS => ?_)
  cases one_ty 2 6 rfl rfl hK1 va_nm_long
  refine W.widen (k := 6) (n := 388) (Nat.le_of_ble_eq_true rfl) (Nat.le_of_ble_eq_true rfl) ?_
  have hP : va_P D vwCl [(h0, .inr (2, [.null, .null, .ref q_1, .int 0, .int 0, .long 0, .ref q_3, .ref q_5, .ref q_7, .null, .null, .null])), (q_1, .inr (3, [.ref q1_2])), (q1_2, .inl (cs 1, 192, .inl (fun _ => 0))), (q_3, .inl (cs 1, 64, .inl (fun _ => 0))), (q_5, .inl (cs 2, 64, .inr (.inl (fun _ => 0)))), (q_7, .inl (cs 2, 64, .inr (.inl (fun _ => 0)))), (q_9, .inl (cs 2, 3, .inr (.inl (fun _ => 0))))] H := hP
  have hD : va_D A [(h0, .inr (2, [.null, .null, .ref q_1, .int 0, .int 0, .long 0, .ref q_3, .ref q_5, .ref q_7, .null, .null, .null])), (q_1, .inr (3, [.ref q1_2])), (q1_2, .inl (cs 1, 192, .inl (fun _ => 0))), (q_3, .inl (cs 1, 64, .inl (fun _ => 0))), (q_5, .inl (cs 2, 64, .inr (.inl (fun _ => 0)))), (q_7, .inl (cs 2, 64, .inr (.inl (fun _ => 0)))), (q_9, .inl (cs 2, 3, .inr (.inl (fun _ => 0))))] := hD
  refine va_putF (D := D) (ci := 2) (v := .ref q_9) (ty := (.array .long)) (C := RX2) (T := TX2) (N := 12) hx hb hts iuX2_init_X2 tyX2 tyX2_ok nmX2 hown hK hP hD hS 0 rfl rfl 9 (by decide) (htw (.fieldLink RX2 40 "MergeJudge$Judge" "within" "[J") (List.mem_of_getElem? (i := 16) rfl)) (fun _ h9 => h9) rfl hin rfl (by decide +kernel) rfl rfl (Nat.le_of_ble_eq_true rfl) dX2_init_58 (fun H locs hP hD hS => ?_)
  have hP : va_P D vwCl [(h0, .inr (2, [.null, .null, .ref q_1, .int 0, .int 0, .long 0, .ref q_3, .ref q_5, .ref q_7, .ref q_9, .null, .null])), (q_1, .inr (3, [.ref q1_2])), (q1_2, .inl (cs 1, 192, .inl (fun _ => 0))), (q_3, .inl (cs 1, 64, .inl (fun _ => 0))), (q_5, .inl (cs 2, 64, .inr (.inl (fun _ => 0)))), (q_7, .inl (cs 2, 64, .inr (.inl (fun _ => 0)))), (q_9, .inl (cs 2, 3, .inr (.inl (fun _ => 0))))] H := hP
  have hD : va_D A [(h0, .inr (2, [.null, .null, .ref q_1, .int 0, .int 0, .long 0, .ref q_3, .ref q_5, .ref q_7, .ref q_9, .null, .null])), (q_1, .inr (3, [.ref q1_2])), (q1_2, .inl (cs 1, 192, .inl (fun _ => 0))), (q_3, .inl (cs 1, 64, .inl (fun _ => 0))), (q_5, .inl (cs 2, 64, .inr (.inl (fun _ => 0)))), (q_7, .inl (cs 2, 64, .inr (.inl (fun _ => 0)))), (q_9, .inl (cs 2, 3, .inr (.inl (fun _ => 0))))] := hD
  refine lv_aload_n hx hb dX2_init_61 rfl (lv_at hl 0 rfl) ?_
  refine lv_iconst (v := 5) hx hb dX2_init_62 (by decide) ?_
  refine va_newa (atype := .int) (N' := 5) (a0 := (5, .inl (fun _ => 0))) hx hb (htw (.arrayClass .int) (List.mem_of_getElem? (i := 11) rfl)) rfl hK hP hD hS hA (fun _ => rfl) (by decide) (by decide) (Nat.le_of_ble_eq_true rfl) (Nat.le_of_ble_eq_true rfl) (Nat.le_of_ble_eq_true rfl) dX2_init_63 (fun q_11 cA_12 H hK1 hP hD hS => ?_)
  cases one_ty 1 6 rfl rfl hK1 va_nm_int
  refine W.widen (k := 7) (n := 393) (Nat.le_of_ble_eq_true rfl) (Nat.le_of_ble_eq_true rfl) ?_
  have hP : va_P D vwCl [(h0, .inr (2, [.null, .null, .ref q_1, .int 0, .int 0, .long 0, .ref q_3, .ref q_5, .ref q_7, .ref q_9, .null, .null])), (q_1, .inr (3, [.ref q1_2])), (q1_2, .inl (cs 1, 192, .inl (fun _ => 0))), (q_3, .inl (cs 1, 64, .inl (fun _ => 0))), (q_5, .inl (cs 2, 64, .inr (.inl (fun _ => 0)))), (q_7, .inl (cs 2, 64, .inr (.inl (fun _ => 0)))), (q_9, .inl (cs 2, 3, .inr (.inl (fun _ => 0)))), (q_11, .inl (cs 1, 5, .inl (fun _ => 0)))] H := hP
  have hD : va_D A [(h0, .inr (2, [.null, .null, .ref q_1, .int 0, .int 0, .long 0, .ref q_3, .ref q_5, .ref q_7, .ref q_9, .null, .null])), (q_1, .inr (3, [.ref q1_2])), (q1_2, .inl (cs 1, 192, .inl (fun _ => 0))), (q_3, .inl (cs 1, 64, .inl (fun _ => 0))), (q_5, .inl (cs 2, 64, .inr (.inl (fun _ => 0)))), (q_7, .inl (cs 2, 64, .inr (.inl (fun _ => 0)))), (q_9, .inl (cs 2, 3, .inr (.inl (fun _ => 0)))), (q_11, .inl (cs 1, 5, .inl (fun _ => 0)))] := hD
  refine va_putF (D := D) (ci := 2) (v := .ref q_11) (ty := (.array .int)) (C := RX2) (T := TX2) (N := 12) hx hb hts iuX2_init_X2 tyX2 tyX2_ok nmX2 hown hK hP hD hS 0 rfl rfl 10 (by decide) (htw (.fieldLink RX2 43 "MergeJudge$Judge" "hitsOf" "[I") (List.mem_of_getElem? (i := 17) rfl)) (fun _ h9 => h9) rfl hin rfl (by decide +kernel) rfl rfl (Nat.le_of_ble_eq_true rfl) dX2_init_65 (fun H locs hP hD hS => ?_)
  have hP : va_P D vwCl [(h0, .inr (2, [.null, .null, .ref q_1, .int 0, .int 0, .long 0, .ref q_3, .ref q_5, .ref q_7, .ref q_9, .ref q_11, .null])), (q_1, .inr (3, [.ref q1_2])), (q1_2, .inl (cs 1, 192, .inl (fun _ => 0))), (q_3, .inl (cs 1, 64, .inl (fun _ => 0))), (q_5, .inl (cs 2, 64, .inr (.inl (fun _ => 0)))), (q_7, .inl (cs 2, 64, .inr (.inl (fun _ => 0)))), (q_9, .inl (cs 2, 3, .inr (.inl (fun _ => 0)))), (q_11, .inl (cs 1, 5, .inl (fun _ => 0)))] H := hP
  have hD : va_D A [(h0, .inr (2, [.null, .null, .ref q_1, .int 0, .int 0, .long 0, .ref q_3, .ref q_5, .ref q_7, .ref q_9, .ref q_11, .null])), (q_1, .inr (3, [.ref q1_2])), (q1_2, .inl (cs 1, 192, .inl (fun _ => 0))), (q_3, .inl (cs 1, 64, .inl (fun _ => 0))), (q_5, .inl (cs 2, 64, .inr (.inl (fun _ => 0)))), (q_7, .inl (cs 2, 64, .inr (.inl (fun _ => 0)))), (q_9, .inl (cs 2, 3, .inr (.inl (fun _ => 0)))), (q_11, .inl (cs 1, 5, .inl (fun _ => 0)))] := hD
  refine lv_aload_n hx hb dX2_init_68 rfl (lv_at hl 0 rfl) ?_
  refine lv_iconst (v := 5) hx hb dX2_init_69 (by decide) ?_
  refine va_newa (atype := .int) (N' := 5) (a0 := (5, .inl (fun _ => 0))) hx hb (htw (.arrayClass .int) (List.mem_of_getElem? (i := 11) rfl)) rfl hK hP hD hS hA (fun _ => rfl) (by decide) (by decide) (Nat.le_of_ble_eq_true rfl) (Nat.le_of_ble_eq_true rfl) (Nat.le_of_ble_eq_true rfl) dX2_init_70 (fun q_13 cA_14 H hK1 hP hD hS => ?_)
  cases one_ty 1 6 rfl rfl hK1 va_nm_int
  refine W.widen (k := 8) (n := 398) (Nat.le_of_ble_eq_true rfl) (Nat.le_of_ble_eq_true rfl) ?_
  have hP : va_P D vwCl [(h0, .inr (2, [.null, .null, .ref q_1, .int 0, .int 0, .long 0, .ref q_3, .ref q_5, .ref q_7, .ref q_9, .ref q_11, .null])), (q_1, .inr (3, [.ref q1_2])), (q1_2, .inl (cs 1, 192, .inl (fun _ => 0))), (q_3, .inl (cs 1, 64, .inl (fun _ => 0))), (q_5, .inl (cs 2, 64, .inr (.inl (fun _ => 0)))), (q_7, .inl (cs 2, 64, .inr (.inl (fun _ => 0)))), (q_9, .inl (cs 2, 3, .inr (.inl (fun _ => 0)))), (q_11, .inl (cs 1, 5, .inl (fun _ => 0))), (q_13, .inl (cs 1, 5, .inl (fun _ => 0)))] H := hP
  have hD : va_D A [(h0, .inr (2, [.null, .null, .ref q_1, .int 0, .int 0, .long 0, .ref q_3, .ref q_5, .ref q_7, .ref q_9, .ref q_11, .null])), (q_1, .inr (3, [.ref q1_2])), (q1_2, .inl (cs 1, 192, .inl (fun _ => 0))), (q_3, .inl (cs 1, 64, .inl (fun _ => 0))), (q_5, .inl (cs 2, 64, .inr (.inl (fun _ => 0)))), (q_7, .inl (cs 2, 64, .inr (.inl (fun _ => 0)))), (q_9, .inl (cs 2, 3, .inr (.inl (fun _ => 0)))), (q_11, .inl (cs 1, 5, .inl (fun _ => 0))), (q_13, .inl (cs 1, 5, .inl (fun _ => 0)))] := hD
  refine va_putF (D := D) (ci := 2) (v := .ref q_13) (ty := (.array .int)) (C := RX2) (T := TX2) (N := 12) hx hb hts iuX2_init_X2 tyX2 tyX2_ok nmX2 hown hK hP hD hS 0 rfl rfl 11 (by decide) (htw (.fieldLink RX2 46 "MergeJudge$Judge" "smallest" "[I") (List.mem_of_getElem? (i := 18) rfl)) (fun _ h9 => h9) rfl hin rfl (by decide +kernel) rfl rfl (Nat.le_of_ble_eq_true rfl) dX2_init_72 (fun H locs hP hD hS => ?_)
  have hP : va_P D vwCl [(h0, .inr (2, [.null, .null, .ref q_1, .int 0, .int 0, .long 0, .ref q_3, .ref q_5, .ref q_7, .ref q_9, .ref q_11, .ref q_13])), (q_1, .inr (3, [.ref q1_2])), (q1_2, .inl (cs 1, 192, .inl (fun _ => 0))), (q_3, .inl (cs 1, 64, .inl (fun _ => 0))), (q_5, .inl (cs 2, 64, .inr (.inl (fun _ => 0)))), (q_7, .inl (cs 2, 64, .inr (.inl (fun _ => 0)))), (q_9, .inl (cs 2, 3, .inr (.inl (fun _ => 0)))), (q_11, .inl (cs 1, 5, .inl (fun _ => 0))), (q_13, .inl (cs 1, 5, .inl (fun _ => 0)))] H := hP
  have hD : va_D A [(h0, .inr (2, [.null, .null, .ref q_1, .int 0, .int 0, .long 0, .ref q_3, .ref q_5, .ref q_7, .ref q_9, .ref q_11, .ref q_13])), (q_1, .inr (3, [.ref q1_2])), (q1_2, .inl (cs 1, 192, .inl (fun _ => 0))), (q_3, .inl (cs 1, 64, .inl (fun _ => 0))), (q_5, .inl (cs 2, 64, .inr (.inl (fun _ => 0)))), (q_7, .inl (cs 2, 64, .inr (.inl (fun _ => 0)))), (q_9, .inl (cs 2, 3, .inr (.inl (fun _ => 0)))), (q_11, .inl (cs 1, 5, .inl (fun _ => 0))), (q_13, .inl (cs 1, 5, .inl (fun _ => 0)))] := hD
  refine lv_aload_n hx hb dX2_init_75 rfl (lv_at hl 0 rfl) ?_
  refine lv_aload_n hx hb dX2_init_76 rfl (lv_at hl 1 rfl) ?_
  refine va_putF (D := D) (ci := 2) (v := .ref to) (ty := (.object "MergeJudge$Base")) (C := RX2) (T := TX2) (N := 12) hx hb hts iuX2_init_X2 tyX2 tyX2_ok nmX2 hown hK hP hD hS 0 rfl rfl 0 (by decide) (htw (.fieldLink RX2 49 "MergeJudge$Judge" "told" "LMergeJudge$Base;") (List.mem_of_getElem? (i := 19) rfl)) (fun _ h9 => h9) rfl hin rfl (by decide +kernel) rfl rfl (Nat.le_of_ble_eq_true rfl) dX2_init_77 (fun H locs hP hD hS => ?_)
  have hP : va_P D vwCl [(h0, .inr (2, [.ref to, .null, .ref q_1, .int 0, .int 0, .long 0, .ref q_3, .ref q_5, .ref q_7, .ref q_9, .ref q_11, .ref q_13])), (q_1, .inr (3, [.ref q1_2])), (q1_2, .inl (cs 1, 192, .inl (fun _ => 0))), (q_3, .inl (cs 1, 64, .inl (fun _ => 0))), (q_5, .inl (cs 2, 64, .inr (.inl (fun _ => 0)))), (q_7, .inl (cs 2, 64, .inr (.inl (fun _ => 0)))), (q_9, .inl (cs 2, 3, .inr (.inl (fun _ => 0)))), (q_11, .inl (cs 1, 5, .inl (fun _ => 0))), (q_13, .inl (cs 1, 5, .inl (fun _ => 0)))] H := hP
  have hD : va_D A [(h0, .inr (2, [.ref to, .null, .ref q_1, .int 0, .int 0, .long 0, .ref q_3, .ref q_5, .ref q_7, .ref q_9, .ref q_11, .ref q_13])), (q_1, .inr (3, [.ref q1_2])), (q1_2, .inl (cs 1, 192, .inl (fun _ => 0))), (q_3, .inl (cs 1, 64, .inl (fun _ => 0))), (q_5, .inl (cs 2, 64, .inr (.inl (fun _ => 0)))), (q_7, .inl (cs 2, 64, .inr (.inl (fun _ => 0)))), (q_9, .inl (cs 2, 3, .inr (.inl (fun _ => 0)))), (q_11, .inl (cs 1, 5, .inl (fun _ => 0))), (q_13, .inl (cs 1, 5, .inl (fun _ => 0)))] := hD
  refine lv_aload_n hx hb dX2_init_80 rfl (lv_at hl 0 rfl) ?_
  refine lv_aload_n hx hb dX2_init_81 rfl (lv_at hl 2 rfl) ?_
  refine va_putF (D := D) (ci := 2) (v := .ref so) (ty := (.object "MergeJudge$Space")) (C := RX2) (T := TX2) (N := 12) hx hb hts iuX2_init_X2 tyX2 tyX2_ok nmX2 hown hK hP hD hS 0 rfl rfl 1 (by decide) (htw (.fieldLink RX2 53 "MergeJudge$Judge" "space" "LMergeJudge$Space;") (List.mem_of_getElem? (i := 20) rfl)) (fun _ h9 => h9) rfl hin rfl (by decide +kernel) rfl rfl (Nat.le_of_ble_eq_true rfl) dX2_init_82 (fun H locs hP hD hS => ?_)
  have hP : va_P D vwCl [(h0, .inr (2, [.ref to, .ref so, .ref q_1, .int 0, .int 0, .long 0, .ref q_3, .ref q_5, .ref q_7, .ref q_9, .ref q_11, .ref q_13])), (q_1, .inr (3, [.ref q1_2])), (q1_2, .inl (cs 1, 192, .inl (fun _ => 0))), (q_3, .inl (cs 1, 64, .inl (fun _ => 0))), (q_5, .inl (cs 2, 64, .inr (.inl (fun _ => 0)))), (q_7, .inl (cs 2, 64, .inr (.inl (fun _ => 0)))), (q_9, .inl (cs 2, 3, .inr (.inl (fun _ => 0)))), (q_11, .inl (cs 1, 5, .inl (fun _ => 0))), (q_13, .inl (cs 1, 5, .inl (fun _ => 0)))] H := hP
  have hD : va_D A [(h0, .inr (2, [.ref to, .ref so, .ref q_1, .int 0, .int 0, .long 0, .ref q_3, .ref q_5, .ref q_7, .ref q_9, .ref q_11, .ref q_13])), (q_1, .inr (3, [.ref q1_2])), (q1_2, .inl (cs 1, 192, .inl (fun _ => 0))), (q_3, .inl (cs 1, 64, .inl (fun _ => 0))), (q_5, .inl (cs 2, 64, .inr (.inl (fun _ => 0)))), (q_7, .inl (cs 2, 64, .inr (.inl (fun _ => 0)))), (q_9, .inl (cs 2, 3, .inr (.inl (fun _ => 0)))), (q_11, .inl (cs 1, 5, .inl (fun _ => 0))), (q_13, .inl (cs 1, 5, .inl (fun _ => 0)))] := hD
  exact ret_v hx hb hr hlk hS (Nat.le_of_ble_eq_true rfl) (Nat.le_of_ble_eq_true rfl) (q_1, q_3, q_5, q_7, q_9, q_11, q_13, q1_2) (trivial) (hP.sub [0, 1, 2, 3, 4, 5, 6, 7, 8] rfl) (hD.sub [0, 1, 2, 3, 4, 5, 6, 7, 8] (by decide) rfl) dX2_init_85

set_option maxHeartbeats 4000000 in
set_option maxRecDepth 100000 in
theorem k_X1_init (l : Launch) (D : va_G) (cs : Nat → ClassId) (sz : Nat) (h0 : Nat) (to : Nat) (jo : Nat)  : Mv l D cs yX1_init W_X1_init 1 12 2 36 [.ref h0, .ref to, .ref jo] [(h0, .inr (1, [.null, .null, .null, .null]))] sz (fun (u : Nat × Nat) => True) (fun (u : Nat × Nat) => [(h0, .inr (1, [.ref to, .ref jo, .ref u.1, .ref u.2])), (u.1, .inl (cs 1, 32, .inl (fun _ => 0))), (u.2, .inl (cs 1, 4, .inl (fun _ => 0)))]) := by
  refine ent (D := D) (cs := cs) (y := yX1_init) (ws := W_X1_init) (As := [.ref h0, .ref to, .ref jo]) (W0 := [(h0, .inr (1, [.null, .null, .null, .null]))]) (Qx := fun A => va_Qv (fun (u : Nat × Nat) => True) (mpost D A (fun (u : Nat × Nat) => [(h0, .inr (1, [.ref to, .ref jo, .ref u.1, .ref u.2])), (u.1, .inl (cs 1, 32, .inl (fun _ => 0))), (u.2, .inl (cs 1, 4, .inl (fun _ => 0)))])) A) (maxL := 3) (ret := none) (by decide) rfl (Nat.le_of_ble_eq_true rfl) ?_
  intro p e s m below meth c A ls hx hb hr hml hlk hown hts hin hK hE hP hD hA hS hl
  have hl : lv_has ls 3 [(0, .ref h0), (1, .ref to), (2, .ref jo)] := hl
  generalize hHe : s.heap = H at hP
  have hS : va_S A s.heap H [] := hHe ▸ hS
  generalize hLe : ([] : List Loc) = locs at hS ⊢
  have htw : ∀ w ∈ O_X1_init, w.before ([.ref h0, .ref to, .ref jo] : List Value).toArray s = true := fun w h => hts w (List.mem_cons_of_mem _ (List.mem_append_left _ h))
  have hFix := (⟨hx, hb, hml, hown, hts⟩ : CallFix p m c _ _ s _ _ _)
  refine lv_aload_n hx hb dX1_init_0 rfl (lv_at hl 0 rfl) ?_
  refine W.objInit hx hb hown (htw (.methodLink RX1 1 objectInit) (List.mem_of_getElem? (i := 0) rfl)) (htw (.instanceMethod objectInit) (List.mem_of_getElem? (i := 1) rfl)) (htw (.code objectInit ⟨#[0xb1]⟩ 1 none) (List.mem_of_getElem? (i := 2) rfl)) rfl (by rw [hml]; exact hl.1) rfl dX1_init_1 (Nat.le_of_ble_eq_true rfl) (Nat.le_of_ble_eq_true rfl) ?_
  refine W.eq (g2 := F0 m 4 ls []) rfl ?_
  refine lv_aload_n hx hb dX1_init_4 rfl (lv_at hl 0 rfl) ?_
  refine lv_bipush (v := 32) hx hb dX1_init_5 (by decide) ?_
  refine va_newa (atype := .int) (N' := 32) (a0 := (32, .inl (fun _ => 0))) hx hb (htw (.arrayClass .int) (List.mem_of_getElem? (i := 3) rfl)) rfl hK hP hD hS hA (fun _ => rfl) (by decide) (by decide) (Nat.le_of_ble_eq_true rfl) (Nat.le_of_ble_eq_true rfl) (Nat.le_of_ble_eq_true rfl) dX1_init_7 (fun q_1 cA_2 H hK1 hP hD hS => ?_)
  cases one_ty 1 6 rfl rfl hK1 va_nm_int
  refine W.widen (k := 1) (n := 32) (Nat.le_of_ble_eq_true rfl) (Nat.le_of_ble_eq_true rfl) ?_
  have hP : va_P D vwCl [(h0, .inr (1, [.null, .null, .null, .null])), (q_1, .inl (cs 1, 32, .inl (fun _ => 0)))] H := hP
  have hD : va_D A [(h0, .inr (1, [.null, .null, .null, .null])), (q_1, .inl (cs 1, 32, .inl (fun _ => 0)))] := hD
  refine va_putF (D := D) (ci := 1) (v := .ref q_1) (ty := (.array .int)) (C := RX1) (T := TX1) (N := 4) hx hb hts iuX1_init_X1 tyX1 tyX1_ok nmX1 hown hK hP hD hS 0 rfl rfl 2 (by decide) (htw (.fieldLink RX1 9 "MergeJudge$Chances" "worths" "[I") (List.mem_of_getElem? (i := 4) rfl)) (fun _ h9 => h9) rfl hin rfl (by decide +kernel) rfl rfl (Nat.le_of_ble_eq_true rfl) dX1_init_9 (fun H locs hP hD hS => ?_)
  have hP : va_P D vwCl [(h0, .inr (1, [.null, .null, .ref q_1, .null])), (q_1, .inl (cs 1, 32, .inl (fun _ => 0)))] H := hP
  have hD : va_D A [(h0, .inr (1, [.null, .null, .ref q_1, .null])), (q_1, .inl (cs 1, 32, .inl (fun _ => 0)))] := hD
  refine lv_aload_n hx hb dX1_init_12 rfl (lv_at hl 0 rfl) ?_
  refine lv_iconst (v := 4) hx hb dX1_init_13 (by decide) ?_
  refine va_newa (atype := .int) (N' := 4) (a0 := (4, .inl (fun _ => 0))) hx hb (htw (.arrayClass .int) (List.mem_of_getElem? (i := 3) rfl)) rfl hK hP hD hS hA (fun _ => rfl) (by decide) (by decide) (Nat.le_of_ble_eq_true rfl) (Nat.le_of_ble_eq_true rfl) (Nat.le_of_ble_eq_true rfl) dX1_init_14 (fun q_3 cA_4 H hK1 hP hD hS => ?_)
  cases one_ty 1 6 rfl rfl hK1 va_nm_int
  refine W.widen (k := 2) (n := 36) (Nat.le_of_ble_eq_true rfl) (Nat.le_of_ble_eq_true rfl) ?_
  have hP : va_P D vwCl [(h0, .inr (1, [.null, .null, .ref q_1, .null])), (q_1, .inl (cs 1, 32, .inl (fun _ => 0))), (q_3, .inl (cs 1, 4, .inl (fun _ => 0)))] H := hP
  have hD : va_D A [(h0, .inr (1, [.null, .null, .ref q_1, .null])), (q_1, .inl (cs 1, 32, .inl (fun _ => 0))), (q_3, .inl (cs 1, 4, .inl (fun _ => 0)))] := hD
  refine va_putF (D := D) (ci := 1) (v := .ref q_3) (ty := (.array .int)) (C := RX1) (T := TX1) (N := 4) hx hb hts iuX1_init_X1 tyX1 tyX1_ok nmX1 hown hK hP hD hS 0 rfl rfl 3 (by decide) (htw (.fieldLink RX1 13 "MergeJudge$Chances" "breaksBy" "[I") (List.mem_of_getElem? (i := 5) rfl)) (fun _ h9 => h9) rfl hin rfl (by decide +kernel) rfl rfl (Nat.le_of_ble_eq_true rfl) dX1_init_16 (fun H locs hP hD hS => ?_)
  have hP : va_P D vwCl [(h0, .inr (1, [.null, .null, .ref q_1, .ref q_3])), (q_1, .inl (cs 1, 32, .inl (fun _ => 0))), (q_3, .inl (cs 1, 4, .inl (fun _ => 0)))] H := hP
  have hD : va_D A [(h0, .inr (1, [.null, .null, .ref q_1, .ref q_3])), (q_1, .inl (cs 1, 32, .inl (fun _ => 0))), (q_3, .inl (cs 1, 4, .inl (fun _ => 0)))] := hD
  refine lv_aload_n hx hb dX1_init_19 rfl (lv_at hl 0 rfl) ?_
  refine lv_aload_n hx hb dX1_init_20 rfl (lv_at hl 1 rfl) ?_
  refine va_putF (D := D) (ci := 1) (v := .ref to) (ty := (.object "MergeJudge$Base")) (C := RX1) (T := TX1) (N := 4) hx hb hts iuX1_init_X1 tyX1 tyX1_ok nmX1 hown hK hP hD hS 0 rfl rfl 0 (by decide) (htw (.fieldLink RX1 16 "MergeJudge$Chances" "told" "LMergeJudge$Base;") (List.mem_of_getElem? (i := 6) rfl)) (fun _ h9 => h9) rfl hin rfl (by decide +kernel) rfl rfl (Nat.le_of_ble_eq_true rfl) dX1_init_21 (fun H locs hP hD hS => ?_)
  have hP : va_P D vwCl [(h0, .inr (1, [.ref to, .null, .ref q_1, .ref q_3])), (q_1, .inl (cs 1, 32, .inl (fun _ => 0))), (q_3, .inl (cs 1, 4, .inl (fun _ => 0)))] H := hP
  have hD : va_D A [(h0, .inr (1, [.ref to, .null, .ref q_1, .ref q_3])), (q_1, .inl (cs 1, 32, .inl (fun _ => 0))), (q_3, .inl (cs 1, 4, .inl (fun _ => 0)))] := hD
  refine lv_aload_n hx hb dX1_init_24 rfl (lv_at hl 0 rfl) ?_
  refine lv_aload_n hx hb dX1_init_25 rfl (lv_at hl 2 rfl) ?_
  refine va_putF (D := D) (ci := 1) (v := .ref jo) (ty := (.object "MergeJudge$Judge")) (C := RX1) (T := TX1) (N := 4) hx hb hts iuX1_init_X1 tyX1 tyX1_ok nmX1 hown hK hP hD hS 0 rfl rfl 1 (by decide) (htw (.fieldLink RX1 20 "MergeJudge$Chances" "judge" "LMergeJudge$Judge;") (List.mem_of_getElem? (i := 7) rfl)) (fun _ h9 => h9) rfl hin rfl (by decide +kernel) rfl rfl (Nat.le_of_ble_eq_true rfl) dX1_init_26 (fun H locs hP hD hS => ?_)
  have hP : va_P D vwCl [(h0, .inr (1, [.ref to, .ref jo, .ref q_1, .ref q_3])), (q_1, .inl (cs 1, 32, .inl (fun _ => 0))), (q_3, .inl (cs 1, 4, .inl (fun _ => 0)))] H := hP
  have hD : va_D A [(h0, .inr (1, [.ref to, .ref jo, .ref q_1, .ref q_3])), (q_1, .inl (cs 1, 32, .inl (fun _ => 0))), (q_3, .inl (cs 1, 4, .inl (fun _ => 0)))] := hD
  exact ret_v hx hb hr hlk hS (Nat.le_of_ble_eq_true rfl) (Nat.le_of_ble_eq_true rfl) (q_1, q_3) (trivial) (hP.sub [0, 1, 2] rfl) (hD.sub [0, 1, 2] (by decide) rfl) dX1_init_29
