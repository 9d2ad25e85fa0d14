set_option maxHeartbeats 4000000 in
set_option maxRecDepth 100000 in
theorem k_J6_bitCount_0f7a4 (l : Launch) (D : va_G) (cs : Nat → ClassId) (sz : Nat) (v : Int32)  : Mi l D cs yJ6_bitCount_0f7a4 W_J6_bitCount_0f7a4 0 0 0 0 [.int v] [] sz (fun (r : Int32) (u : Nat) => ((r = nI u ∧ u < 64))) (fun (u : Nat) => []) := by
  refine ent (D := D) (cs := cs) (y := yJ6_bitCount_0f7a4) (ws := W_J6_bitCount_0f7a4) (As := [.int v]) (W0 := []) (Qx := fun A => va_Qi (fun (r : Int32) (u : Nat) => ((r = nI u ∧ u < 64))) (mpost D A (fun (u : Nat) => [])) A) (maxL := 1) (ret := (some .int)) (by decide) rfl (Nat.le_of_ble_eq_true rfl) ?_
  intro p e s m below meth c A ls hx hb hr hml hlk hown hts hin hK hE hP hD hA hS hl
  have hl : lv_has ls 1 [(0, .int v)] := hl
  generalize hHe : s.heap = H at hP
  have hS : va_S A s.heap H [] := hHe ▸ hS
  generalize hLe : ([] : List Loc) = locs at hS ⊢
  have htw : ∀ w ∈ O_J6_bitCount_0f7a4, w.before ([.int v] : List Value).toArray s = true := fun w h => hts w (List.mem_cons_of_mem _ h)
  have hFix := (⟨hx, hb, hml, hown, hts⟩ : CallFix p m c _ _ s _ _ _)
  refine lv_iload_n hx hb dJ6_bitCount_0f7a4_0 rfl (lv_at hl 0 rfl) ?_
  refine lv_iload_n hx hb dJ6_bitCount_0f7a4_1 rfl (lv_at hl 0 rfl) ?_
  refine lv_iconst (v := 1) hx hb dJ6_bitCount_0f7a4_2 (by decide) ?_
  refine lv_iushr (v := (v.toUInt32 >>> ((1 : Int32).toUInt32 &&& Int32.toUInt32 31)).toInt32) hx hb dJ6_bitCount_0f7a4_3 rfl ?_
  refine lv_ldcw (v := 1431655765) hx hb hown (htw (.constant RJ6 265 (1431655765)) (List.mem_of_getElem? (i := 0) rfl)) dJ6_bitCount_0f7a4_4 ?_
  refine lv_iand hx hb dJ6_bitCount_0f7a4_7 ?_
  refine lv_isub hx hb dJ6_bitCount_0f7a4_8 ?_
  refine lv_istore_n (lv' := [(0, .int (v - (((v.toUInt32 >>> ((1 : Int32).toUInt32 &&& Int32.toUInt32 31)).toInt32) &&& (1431655765 : Int32))))]) hx hb dJ6_bitCount_0f7a4_9 rfl hl (by decide) rfl (fun ls hl => ?_)
  refine lv_iload_n hx hb dJ6_bitCount_0f7a4_10 rfl (lv_at hl 0 rfl) ?_
  refine lv_ldcw (v := 858993459) hx hb hown (htw (.constant RJ6 266 (858993459)) (List.mem_of_getElem? (i := 1) rfl)) dJ6_bitCount_0f7a4_11 ?_
  refine lv_iand hx hb dJ6_bitCount_0f7a4_14 ?_
  refine lv_iload_n hx hb dJ6_bitCount_0f7a4_15 rfl (lv_at hl 0 rfl) ?_
  refine lv_iconst (v := 2) hx hb dJ6_bitCount_0f7a4_16 (by decide) ?_
  refine lv_iushr (v := ((v - (((v.toUInt32 >>> ((1 : Int32).toUInt32 &&& Int32.toUInt32 31)).toInt32) &&& (1431655765 : Int32))).toUInt32 >>> ((2 : Int32).toUInt32 &&& Int32.toUInt32 31)).toInt32) hx hb dJ6_bitCount_0f7a4_17 rfl ?_
  refine lv_ldcw (v := 858993459) hx hb hown (htw (.constant RJ6 266 (858993459)) (List.mem_of_getElem? (i := 1) rfl)) dJ6_bitCount_0f7a4_18 ?_
  refine lv_iand hx hb dJ6_bitCount_0f7a4_21 ?_
  refine lv_iadd hx hb dJ6_bitCount_0f7a4_22 ?_
  refine lv_istore_n (lv' := [(0, .int (((v - (((v.toUInt32 >>> ((1 : Int32).toUInt32 &&& Int32.toUInt32 31)).toInt32) &&& (1431655765 : Int32))) &&& (858993459 : Int32)) + ((((v - (((v.toUInt32 >>> ((1 : Int32).toUInt32 &&& Int32.toUInt32 31)).toInt32) &&& (1431655765 : Int32))).toUInt32 >>> ((2 : Int32).toUInt32 &&& Int32.toUInt32 31)).toInt32) &&& (858993459 : Int32))))]) hx hb dJ6_bitCount_0f7a4_23 rfl hl (by decide) rfl (fun ls hl => ?_)
  refine lv_iload_n hx hb dJ6_bitCount_0f7a4_24 rfl (lv_at hl 0 rfl) ?_
  refine lv_iload_n hx hb dJ6_bitCount_0f7a4_25 rfl (lv_at hl 0 rfl) ?_
  refine lv_iconst (v := 4) hx hb dJ6_bitCount_0f7a4_26 (by decide) ?_
  refine lv_iushr (v := ((((v - (((v.toUInt32 >>> ((1 : Int32).toUInt32 &&& Int32.toUInt32 31)).toInt32) &&& (1431655765 : Int32))) &&& (858993459 : Int32)) + ((((v - (((v.toUInt32 >>> ((1 : Int32).toUInt32 &&& Int32.toUInt32 31)).toInt32) &&& (1431655765 : Int32))).toUInt32 >>> ((2 : Int32).toUInt32 &&& Int32.toUInt32 31)).toInt32) &&& (858993459 : Int32))).toUInt32 >>> ((4 : Int32).toUInt32 &&& Int32.toUInt32 31)).toInt32) hx hb dJ6_bitCount_0f7a4_27 rfl ?_
  refine lv_iadd hx hb dJ6_bitCount_0f7a4_28 ?_
  refine lv_ldcw (v := 252645135) hx hb hown (htw (.constant RJ6 267 (252645135)) (List.mem_of_getElem? (i := 2) rfl)) dJ6_bitCount_0f7a4_29 ?_
  refine lv_iand hx hb dJ6_bitCount_0f7a4_32 ?_
  refine lv_istore_n (lv' := [(0, .int (((((v - (((v.toUInt32 >>> ((1 : Int32).toUInt32 &&& Int32.toUInt32 31)).toInt32) &&& (1431655765 : Int32))) &&& (858993459 : Int32)) + ((((v - (((v.toUInt32 >>> ((1 : Int32).toUInt32 &&& Int32.toUInt32 31)).toInt32) &&& (1431655765 : Int32))).toUInt32 >>> ((2 : Int32).toUInt32 &&& Int32.toUInt32 31)).toInt32) &&& (858993459 : Int32))) + (((((v - (((v.toUInt32 >>> ((1 : Int32).toUInt32 &&& Int32.toUInt32 31)).toInt32) &&& (1431655765 : Int32))) &&& (858993459 : Int32)) + ((((v - (((v.toUInt32 >>> ((1 : Int32).toUInt32 &&& Int32.toUInt32 31)).toInt32) &&& (1431655765 : Int32))).toUInt32 >>> ((2 : Int32).toUInt32 &&& Int32.toUInt32 31)).toInt32) &&& (858993459 : Int32))).toUInt32 >>> ((4 : Int32).toUInt32 &&& Int32.toUInt32 31)).toInt32)) &&& (252645135 : Int32)))]) hx hb dJ6_bitCount_0f7a4_33 rfl hl (by decide) rfl (fun ls hl => ?_)
  refine lv_iload_n hx hb dJ6_bitCount_0f7a4_34 rfl (lv_at hl 0 rfl) ?_
  refine lv_iload_n hx hb dJ6_bitCount_0f7a4_35 rfl (lv_at hl 0 rfl) ?_
  refine lv_bipush (v := 8) hx hb dJ6_bitCount_0f7a4_36 (by decide) ?_
  refine lv_iushr (v := ((((((v - (((v.toUInt32 >>> ((1 : Int32).toUInt32 &&& Int32.toUInt32 31)).toInt32) &&& (1431655765 : Int32))) &&& (858993459 : Int32)) + ((((v - (((v.toUInt32 >>> ((1 : Int32).toUInt32 &&& Int32.toUInt32 31)).toInt32) &&& (1431655765 : Int32))).toUInt32 >>> ((2 : Int32).toUInt32 &&& Int32.toUInt32 31)).toInt32) &&& (858993459 : Int32))) + (((((v - (((v.toUInt32 >>> ((1 : Int32).toUInt32 &&& Int32.toUInt32 31)).toInt32) &&& (1431655765 : Int32))) &&& (858993459 : Int32)) + ((((v - (((v.toUInt32 >>> ((1 : Int32).toUInt32 &&& Int32.toUInt32 31)).toInt32) &&& (1431655765 : Int32))).toUInt32 >>> ((2 : Int32).toUInt32 &&& Int32.toUInt32 31)).toInt32) &&& (858993459 : Int32))).toUInt32 >>> ((4 : Int32).toUInt32 &&& Int32.toUInt32 31)).toInt32)) &&& (252645135 : Int32)).toUInt32 >>> ((8 : Int32).toUInt32 &&& Int32.toUInt32 31)).toInt32) hx hb dJ6_bitCount_0f7a4_38 rfl ?_
  refine lv_iadd hx hb dJ6_bitCount_0f7a4_39 ?_
  refine lv_istore_n (lv' := [(0, .int ((((((v - (((v.toUInt32 >>> ((1 : Int32).toUInt32 &&& Int32.toUInt32 31)).toInt32) &&& (1431655765 : Int32))) &&& (858993459 : Int32)) + ((((v - (((v.toUInt32 >>> ((1 : Int32).toUInt32 &&& Int32.toUInt32 31)).toInt32) &&& (1431655765 : Int32))).toUInt32 >>> ((2 : Int32).toUInt32 &&& Int32.toUInt32 31)).toInt32) &&& (858993459 : Int32))) + (((((v - (((v.toUInt32 >>> ((1 : Int32).toUInt32 &&& Int32.toUInt32 31)).toInt32) &&& (1431655765 : Int32))) &&& (858993459 : Int32)) + ((((v - (((v.toUInt32 >>> ((1 : Int32).toUInt32 &&& Int32.toUInt32 31)).toInt32) &&& (1431655765 : Int32))).toUInt32 >>> ((2 : Int32).toUInt32 &&& Int32.toUInt32 31)).toInt32) &&& (858993459 : Int32))).toUInt32 >>> ((4 : Int32).toUInt32 &&& Int32.toUInt32 31)).toInt32)) &&& (252645135 : Int32)) + (((((((v - (((v.toUInt32 >>> ((1 : Int32).toUInt32 &&& Int32.toUInt32 31)).toInt32) &&& (1431655765 : Int32))) &&& (858993459 : Int32)) + ((((v - (((v.toUInt32 >>> ((1 : Int32).toUInt32 &&& Int32.toUInt32 31)).toInt32) &&& (1431655765 : Int32))).toUInt32 >>> ((2 : Int32).toUInt32 &&& Int32.toUInt32 31)).toInt32) &&& (858993459 : Int32))) + (((((v - (((v.toUInt32 >>> ((1 : Int32).toUInt32 &&& Int32.toUInt32 31)).toInt32) &&& (1431655765 : Int32))) &&& (858993459 : Int32)) + ((((v - (((v.toUInt32 >>> ((1 : Int32).toUInt32 &&& Int32.toUInt32 31)).toInt32) &&& (1431655765 : Int32))).toUInt32 >>> ((2 : Int32).toUInt32 &&& Int32.toUInt32 31)).toInt32) &&& (858993459 : Int32))).toUInt32 >>> ((4 : Int32).toUInt32 &&& Int32.toUInt32 31)).toInt32)) &&& (252645135 : Int32)).toUInt32 >>> ((8 : Int32).toUInt32 &&& Int32.toUInt32 31)).toInt32)))]) hx hb dJ6_bitCount_0f7a4_40 rfl hl (by decide) rfl (fun ls hl => ?_)
  refine lv_iload_n hx hb dJ6_bitCount_0f7a4_41 rfl (lv_at hl 0 rfl) ?_
  refine lv_iload_n hx hb dJ6_bitCount_0f7a4_42 rfl (lv_at hl 0 rfl) ?_
  refine lv_bipush (v := 16) hx hb dJ6_bitCount_0f7a4_43 (by decide) ?_
  refine lv_iushr (v := (((((((v - (((v.toUInt32 >>> ((1 : Int32).toUInt32 &&& Int32.toUInt32 31)).toInt32) &&& (1431655765 : Int32))) &&& (858993459 : Int32)) + ((((v - (((v.toUInt32 >>> ((1 : Int32).toUInt32 &&& Int32.toUInt32 31)).toInt32) &&& (1431655765 : Int32))).toUInt32 >>> ((2 : Int32).toUInt32 &&& Int32.toUInt32 31)).toInt32) &&& (858993459 : Int32))) + (((((v - (((v.toUInt32 >>> ((1 : Int32).toUInt32 &&& Int32.toUInt32 31)).toInt32) &&& (1431655765 : Int32))) &&& (858993459 : Int32)) + ((((v - (((v.toUInt32 >>> ((1 : Int32).toUInt32 &&& Int32.toUInt32 31)).toInt32) &&& (1431655765 : Int32))).toUInt32 >>> ((2 : Int32).toUInt32 &&& Int32.toUInt32 31)).toInt32) &&& (858993459 : Int32))).toUInt32 >>> ((4 : Int32).toUInt32 &&& Int32.toUInt32 31)).toInt32)) &&& (252645135 : Int32)) + (((((((v - (((v.toUInt32 >>> ((1 : Int32).toUInt32 &&& Int32.toUInt32 31)).toInt32) &&& (1431655765 : Int32))) &&& (858993459 : Int32)) + ((((v - (((v.toUInt32 >>> ((1 : Int32).toUInt32 &&& Int32.toUInt32 31)).toInt32) &&& (1431655765 : Int32))).toUInt32 >>> ((2 : Int32).toUInt32 &&& Int32.toUInt32 31)).toInt32) &&& (858993459 : Int32))) + (((((v - (((v.toUInt32 >>> ((1 : Int32).toUInt32 &&& Int32.toUInt32 31)).toInt32) &&& (1431655765 : Int32))) &&& (858993459 : Int32)) + ((((v - (((v.toUInt32 >>> ((1 : Int32).toUInt32 &&& Int32.toUInt32 31)).toInt32) &&& (1431655765 : Int32))).toUInt32 >>> ((2 : Int32).toUInt32 &&& Int32.toUInt32 31)).toInt32) &&& (858993459 : Int32))).toUInt32 >>> ((4 : Int32).toUInt32 &&& Int32.toUInt32 31)).toInt32)) &&& (252645135 : Int32)).toUInt32 >>> ((8 : Int32).toUInt32 &&& Int32.toUInt32 31)).toInt32)).toUInt32 >>> ((16 : Int32).toUInt32 &&& Int32.toUInt32 31)).toInt32) hx hb dJ6_bitCount_0f7a4_45 rfl ?_
  refine lv_iadd hx hb dJ6_bitCount_0f7a4_46 ?_
  refine lv_istore_n (lv' := [(0, .int (((((((v - (((v.toUInt32 >>> ((1 : Int32).toUInt32 &&& Int32.toUInt32 31)).toInt32) &&& (1431655765 : Int32))) &&& (858993459 : Int32)) + ((((v - (((v.toUInt32 >>> ((1 : Int32).toUInt32 &&& Int32.toUInt32 31)).toInt32) &&& (1431655765 : Int32))).toUInt32 >>> ((2 : Int32).toUInt32 &&& Int32.toUInt32 31)).toInt32) &&& (858993459 : Int32))) + (((((v - (((v.toUInt32 >>> ((1 : Int32).toUInt32 &&& Int32.toUInt32 31)).toInt32) &&& (1431655765 : Int32))) &&& (858993459 : Int32)) + ((((v - (((v.toUInt32 >>> ((1 : Int32).toUInt32 &&& Int32.toUInt32 31)).toInt32) &&& (1431655765 : Int32))).toUInt32 >>> ((2 : Int32).toUInt32 &&& Int32.toUInt32 31)).toInt32) &&& (858993459 : Int32))).toUInt32 >>> ((4 : Int32).toUInt32 &&& Int32.toUInt32 31)).toInt32)) &&& (252645135 : Int32)) + (((((((v - (((v.toUInt32 >>> ((1 : Int32).toUInt32 &&& Int32.toUInt32 31)).toInt32) &&& (1431655765 : Int32))) &&& (858993459 : Int32)) + ((((v - (((v.toUInt32 >>> ((1 : Int32).toUInt32 &&& Int32.toUInt32 31)).toInt32) &&& (1431655765 : Int32))).toUInt32 >>> ((2 : Int32).toUInt32 &&& Int32.toUInt32 31)).toInt32) &&& (858993459 : Int32))) + (((((v - (((v.toUInt32 >>> ((1 : Int32).toUInt32 &&& Int32.toUInt32 31)).toInt32) &&& (1431655765 : Int32))) &&& (858993459 : Int32)) + ((((v - (((v.toUInt32 >>> ((1 : Int32).toUInt32 &&& Int32.toUInt32 31)).toInt32) &&& (1431655765 : Int32))).toUInt32 >>> ((2 : Int32).toUInt32 &&& Int32.toUInt32 31)).toInt32) &&& (858993459 : Int32))).toUInt32 >>> ((4 : Int32).toUInt32 &&& Int32.toUInt32 31)).toInt32)) &&& (252645135 : Int32)).toUInt32 >>> ((8 : Int32).toUInt32 &&& Int32.toUInt32 31)).toInt32)) + ((((((((v - (((v.toUInt32 >>> ((1 : Int32).toUInt32 &&& Int32.toUInt32 31)).toInt32) &&& (1431655765 : Int32))) &&& (858993459 : Int32)) + ((((v - (((v.toUInt32 >>> ((1 : Int32).toUInt32 &&& Int32.toUInt32 31)).toInt32) &&& (1431655765 : Int32))).toUInt32 >>> ((2 : Int32).toUInt32 &&& Int32.toUInt32 31)).toInt32) &&& (858993459 : Int32))) + (((((v - (((v.toUInt32 >>> ((1 : Int32).toUInt32 &&& Int32.toUInt32 31)).toInt32) &&& (1431655765 : Int32))) &&& (858993459 : Int32)) + ((((v - (((v.toUInt32 >>> ((1 : Int32).toUInt32 &&& Int32.toUInt32 31)).toInt32) &&& (1431655765 : Int32))).toUInt32 >>> ((2 : Int32).toUInt32 &&& Int32.toUInt32 31)).toInt32) &&& (858993459 : Int32))).toUInt32 >>> ((4 : Int32).toUInt32 &&& Int32.toUInt32 31)).toInt32)) &&& (252645135 : Int32)) + (((((((v - (((v.toUInt32 >>> ((1 : Int32).toUInt32 &&& Int32.toUInt32 31)).toInt32) &&& (1431655765 : Int32))) &&& (858993459 : Int32)) + ((((v - (((v.toUInt32 >>> ((1 : Int32).toUInt32 &&& Int32.toUInt32 31)).toInt32) &&& (1431655765 : Int32))).toUInt32 >>> ((2 : Int32).toUInt32 &&& Int32.toUInt32 31)).toInt32) &&& (858993459 : Int32))) + (((((v - (((v.toUInt32 >>> ((1 : Int32).toUInt32 &&& Int32.toUInt32 31)).toInt32) &&& (1431655765 : Int32))) &&& (858993459 : Int32)) + ((((v - (((v.toUInt32 >>> ((1 : Int32).toUInt32 &&& Int32.toUInt32 31)).toInt32) &&& (1431655765 : Int32))).toUInt32 >>> ((2 : Int32).toUInt32 &&& Int32.toUInt32 31)).toInt32) &&& (858993459 : Int32))).toUInt32 >>> ((4 : Int32).toUInt32 &&& Int32.toUInt32 31)).toInt32)) &&& (252645135 : Int32)).toUInt32 >>> ((8 : Int32).toUInt32 &&& Int32.toUInt32 31)).toInt32)).toUInt32 >>> ((16 : Int32).toUInt32 &&& Int32.toUInt32 31)).toInt32)))]) hx hb dJ6_bitCount_0f7a4_47 rfl hl (by decide) rfl (fun ls hl => ?_)
  refine lv_iload_n hx hb dJ6_bitCount_0f7a4_48 rfl (lv_at hl 0 rfl) ?_
  refine lv_bipush (v := 63) hx hb dJ6_bitCount_0f7a4_49 (by decide) ?_
  refine lv_iand hx hb dJ6_bitCount_0f7a4_51 ?_
  obtain ⟨j_1, hj_1, ej_1⟩ := pk_andE (((((((v - (((v.toUInt32 >>> ((1 : Int32).toUInt32 &&& Int32.toUInt32 31)).toInt32) &&& (1431655765 : Int32))) &&& (858993459 : Int32)) + ((((v - (((v.toUInt32 >>> ((1 : Int32).toUInt32 &&& Int32.toUInt32 31)).toInt32) &&& (1431655765 : Int32))).toUInt32 >>> ((2 : Int32).toUInt32 &&& Int32.toUInt32 31)).toInt32) &&& (858993459 : Int32))) + (((((v - (((v.toUInt32 >>> ((1 : Int32).toUInt32 &&& Int32.toUInt32 31)).toInt32) &&& (1431655765 : Int32))) &&& (858993459 : Int32)) + ((((v - (((v.toUInt32 >>> ((1 : Int32).toUInt32 &&& Int32.toUInt32 31)).toInt32) &&& (1431655765 : Int32))).toUInt32 >>> ((2 : Int32).toUInt32 &&& Int32.toUInt32 31)).toInt32) &&& (858993459 : Int32))).toUInt32 >>> ((4 : Int32).toUInt32 &&& Int32.toUInt32 31)).toInt32)) &&& (252645135 : Int32)) + (((((((v - (((v.toUInt32 >>> ((1 : Int32).toUInt32 &&& Int32.toUInt32 31)).toInt32) &&& (1431655765 : Int32))) &&& (858993459 : Int32)) + ((((v - (((v.toUInt32 >>> ((1 : Int32).toUInt32 &&& Int32.toUInt32 31)).toInt32) &&& (1431655765 : Int32))).toUInt32 >>> ((2 : Int32).toUInt32 &&& Int32.toUInt32 31)).toInt32) &&& (858993459 : Int32))) + (((((v - (((v.toUInt32 >>> ((1 : Int32).toUInt32 &&& Int32.toUInt32 31)).toInt32) &&& (1431655765 : Int32))) &&& (858993459 : Int32)) + ((((v - (((v.toUInt32 >>> ((1 : Int32).toUInt32 &&& Int32.toUInt32 31)).toInt32) &&& (1431655765 : Int32))).toUInt32 >>> ((2 : Int32).toUInt32 &&& Int32.toUInt32 31)).toInt32) &&& (858993459 : Int32))).toUInt32 >>> ((4 : Int32).toUInt32 &&& Int32.toUInt32 31)).toInt32)) &&& (252645135 : Int32)).toUInt32 >>> ((8 : Int32).toUInt32 &&& Int32.toUInt32 31)).toInt32)) + ((((((((v - (((v.toUInt32 >>> ((1 : Int32).toUInt32 &&& Int32.toUInt32 31)).toInt32) &&& (1431655765 : Int32))) &&& (858993459 : Int32)) + ((((v - (((v.toUInt32 >>> ((1 : Int32).toUInt32 &&& Int32.toUInt32 31)).toInt32) &&& (1431655765 : Int32))).toUInt32 >>> ((2 : Int32).toUInt32 &&& Int32.toUInt32 31)).toInt32) &&& (858993459 : Int32))) + (((((v - (((v.toUInt32 >>> ((1 : Int32).toUInt32 &&& Int32.toUInt32 31)).toInt32) &&& (1431655765 : Int32))) &&& (858993459 : Int32)) + ((((v - (((v.toUInt32 >>> ((1 : Int32).toUInt32 &&& Int32.toUInt32 31)).toInt32) &&& (1431655765 : Int32))).toUInt32 >>> ((2 : Int32).toUInt32 &&& Int32.toUInt32 31)).toInt32) &&& (858993459 : Int32))).toUInt32 >>> ((4 : Int32).toUInt32 &&& Int32.toUInt32 31)).toInt32)) &&& (252645135 : Int32)) + (((((((v - (((v.toUInt32 >>> ((1 : Int32).toUInt32 &&& Int32.toUInt32 31)).toInt32) &&& (1431655765 : Int32))) &&& (858993459 : Int32)) + ((((v - (((v.toUInt32 >>> ((1 : Int32).toUInt32 &&& Int32.toUInt32 31)).toInt32) &&& (1431655765 : Int32))).toUInt32 >>> ((2 : Int32).toUInt32 &&& Int32.toUInt32 31)).toInt32) &&& (858993459 : Int32))) + (((((v - (((v.toUInt32 >>> ((1 : Int32).toUInt32 &&& Int32.toUInt32 31)).toInt32) &&& (1431655765 : Int32))) &&& (858993459 : Int32)) + ((((v - (((v.toUInt32 >>> ((1 : Int32).toUInt32 &&& Int32.toUInt32 31)).toInt32) &&& (1431655765 : Int32))).toUInt32 >>> ((2 : Int32).toUInt32 &&& Int32.toUInt32 31)).toInt32) &&& (858993459 : Int32))).toUInt32 >>> ((4 : Int32).toUInt32 &&& Int32.toUInt32 31)).toInt32)) &&& (252645135 : Int32)).toUInt32 >>> ((8 : Int32).toUInt32 &&& Int32.toUInt32 31)).toInt32)).toUInt32 >>> ((16 : Int32).toUInt32 &&& Int32.toUInt32 31)).toInt32)) (m := 63) 6 (by decide)
  replace hj_1 : j_1 < 64 := hj_1
  refine cf_i (nI j_1) ej_1 ?_
  exact ret_i hx hb hr hlk hS (Nat.le_of_ble_eq_true rfl) (Nat.le_of_ble_eq_true rfl) (j_1) (⟨rfl, (by omega)⟩) (hP.sub [] rfl) (hD.sub [] (by decide) rfl) dJ6_bitCount_0f7a4_52

set_option maxHeartbeats 4000000 in
set_option maxRecDepth 100000 in
theorem k_J13_bitCount_95d88 (l : Launch) (D : va_G) (cs : Nat → ClassId) (sz : Nat) (v : Int64)  : Mi l D cs yJ13_bitCount_95d88 W_J13_bitCount_95d88 0 0 0 0 [.long v] [] sz (fun (r : Int32) (u : Nat) => ((r = nI u ∧ u < 128))) (fun (u : Nat) => []) := by
  refine ent (D := D) (cs := cs) (y := yJ13_bitCount_95d88) (ws := W_J13_bitCount_95d88) (As := [.long v]) (W0 := []) (Qx := fun A => va_Qi (fun (r : Int32) (u : Nat) => ((r = nI u ∧ u < 128))) (mpost D A (fun (u : Nat) => [])) A) (maxL := 2) (ret := (some .int)) (by decide) rfl (Nat.le_of_ble_eq_true rfl) ?_
  intro p e s m below meth c A ls hx hb hr hml hlk hown hts hin hK hE hP hD hA hS hl
  have hl : lv_has ls 2 [(0, .long v)] := hl
  generalize hHe : s.heap = H at hP
  have hS : va_S A s.heap H [] := hHe ▸ hS
  generalize hLe : ([] : List Loc) = locs at hS ⊢
  have htw : ∀ w ∈ O_J13_bitCount_95d88, w.before ([.long v] : List Value).toArray s = true := fun w h => hts w (List.mem_cons_of_mem _ h)
  have hFix := (⟨hx, hb, hml, hown, hts⟩ : CallFix p m c _ _ s _ _ _)
  refine lv_lload_n hx hb dJ13_bitCount_95d88_0 rfl (lv_at hl 0 rfl) ?_
  refine lv_lload_n hx hb dJ13_bitCount_95d88_1 rfl (lv_at hl 0 rfl) ?_
  refine lv_iconst (v := 1) hx hb dJ13_bitCount_95d88_2 (by decide) ?_
  refine lv_lushr (v := (v.toUInt64 >>> ((1 : Int32).toInt64.toUInt64 &&& Int64.toUInt64 63)).toInt64) hx hb dJ13_bitCount_95d88_3 rfl ?_
  refine lv_ldc2 (v := 6148914691236517205) hx hb hown (htw (.constantLong RJ13 314 (6148914691236517205)) (List.mem_of_getElem? (i := 0) rfl)) dJ13_bitCount_95d88_4 ?_
  refine lv_land hx hb dJ13_bitCount_95d88_7 ?_
  refine lv_lsub hx hb dJ13_bitCount_95d88_8 ?_
  refine lv_lstore_n (lv' := [(0, .long (v - (((v.toUInt64 >>> ((1 : Int32).toInt64.toUInt64 &&& Int64.toUInt64 63)).toInt64) &&& (6148914691236517205 : Int64))))]) hx hb dJ13_bitCount_95d88_9 rfl hl (by decide) rfl (fun ls hl => ?_)
  refine lv_lload_n hx hb dJ13_bitCount_95d88_10 rfl (lv_at hl 0 rfl) ?_
  refine lv_ldc2 (v := 3689348814741910323) hx hb hown (htw (.constantLong RJ13 316 (3689348814741910323)) (List.mem_of_getElem? (i := 1) rfl)) dJ13_bitCount_95d88_11 ?_
  refine lv_land hx hb dJ13_bitCount_95d88_14 ?_
  refine lv_lload_n hx hb dJ13_bitCount_95d88_15 rfl (lv_at hl 0 rfl) ?_
  refine lv_iconst (v := 2) hx hb dJ13_bitCount_95d88_16 (by decide) ?_
  refine lv_lushr (v := ((v - (((v.toUInt64 >>> ((1 : Int32).toInt64.toUInt64 &&& Int64.toUInt64 63)).toInt64) &&& (6148914691236517205 : Int64))).toUInt64 >>> ((2 : Int32).toInt64.toUInt64 &&& Int64.toUInt64 63)).toInt64) hx hb dJ13_bitCount_95d88_17 rfl ?_
  refine lv_ldc2 (v := 3689348814741910323) hx hb hown (htw (.constantLong RJ13 316 (3689348814741910323)) (List.mem_of_getElem? (i := 1) rfl)) dJ13_bitCount_95d88_18 ?_
  refine lv_land hx hb dJ13_bitCount_95d88_21 ?_
  refine lv_ladd hx hb dJ13_bitCount_95d88_22 ?_
  refine lv_lstore_n (lv' := [(0, .long (((v - (((v.toUInt64 >>> ((1 : Int32).toInt64.toUInt64 &&& Int64.toUInt64 63)).toInt64) &&& (6148914691236517205 : Int64))) &&& (3689348814741910323 : Int64)) + ((((v - (((v.toUInt64 >>> ((1 : Int32).toInt64.toUInt64 &&& Int64.toUInt64 63)).toInt64) &&& (6148914691236517205 : Int64))).toUInt64 >>> ((2 : Int32).toInt64.toUInt64 &&& Int64.toUInt64 63)).toInt64) &&& (3689348814741910323 : Int64))))]) hx hb dJ13_bitCount_95d88_23 rfl hl (by decide) rfl (fun ls hl => ?_)
  refine lv_lload_n hx hb dJ13_bitCount_95d88_24 rfl (lv_at hl 0 rfl) ?_
  refine lv_lload_n hx hb dJ13_bitCount_95d88_25 rfl (lv_at hl 0 rfl) ?_
  refine lv_iconst (v := 4) hx hb dJ13_bitCount_95d88_26 (by decide) ?_
  refine lv_lushr (v := ((((v - (((v.toUInt64 >>> ((1 : Int32).toInt64.toUInt64 &&& Int64.toUInt64 63)).toInt64) &&& (6148914691236517205 : Int64))) &&& (3689348814741910323 : Int64)) + ((((v - (((v.toUInt64 >>> ((1 : Int32).toInt64.toUInt64 &&& Int64.toUInt64 63)).toInt64) &&& (6148914691236517205 : Int64))).toUInt64 >>> ((2 : Int32).toInt64.toUInt64 &&& Int64.toUInt64 63)).toInt64) &&& (3689348814741910323 : Int64))).toUInt64 >>> ((4 : Int32).toInt64.toUInt64 &&& Int64.toUInt64 63)).toInt64) hx hb dJ13_bitCount_95d88_27 rfl ?_
  refine lv_ladd hx hb dJ13_bitCount_95d88_28 ?_
  refine lv_ldc2 (v := 1085102592571150095) hx hb hown (htw (.constantLong RJ13 318 (1085102592571150095)) (List.mem_of_getElem? (i := 2) rfl)) dJ13_bitCount_95d88_29 ?_
  refine lv_land hx hb dJ13_bitCount_95d88_32 ?_
  refine lv_lstore_n (lv' := [(0, .long (((((v - (((v.toUInt64 >>> ((1 : Int32).toInt64.toUInt64 &&& Int64.toUInt64 63)).toInt64) &&& (6148914691236517205 : Int64))) &&& (3689348814741910323 : Int64)) + ((((v - (((v.toUInt64 >>> ((1 : Int32).toInt64.toUInt64 &&& Int64.toUInt64 63)).toInt64) &&& (6148914691236517205 : Int64))).toUInt64 >>> ((2 : Int32).toInt64.toUInt64 &&& Int64.toUInt64 63)).toInt64) &&& (3689348814741910323 : Int64))) + (((((v - (((v.toUInt64 >>> ((1 : Int32).toInt64.toUInt64 &&& Int64.toUInt64 63)).toInt64) &&& (6148914691236517205 : Int64))) &&& (3689348814741910323 : Int64)) + ((((v - (((v.toUInt64 >>> ((1 : Int32).toInt64.toUInt64 &&& Int64.toUInt64 63)).toInt64) &&& (6148914691236517205 : Int64))).toUInt64 >>> ((2 : Int32).toInt64.toUInt64 &&& Int64.toUInt64 63)).toInt64) &&& (3689348814741910323 : Int64))).toUInt64 >>> ((4 : Int32).toInt64.toUInt64 &&& Int64.toUInt64 63)).toInt64)) &&& (1085102592571150095 : Int64)))]) hx hb dJ13_bitCount_95d88_33 rfl hl (by decide) rfl (fun ls hl => ?_)
  refine lv_lload_n hx hb dJ13_bitCount_95d88_34 rfl (lv_at hl 0 rfl) ?_
  refine lv_lload_n hx hb dJ13_bitCount_95d88_35 rfl (lv_at hl 0 rfl) ?_
  refine lv_bipush (v := 8) hx hb dJ13_bitCount_95d88_36 (by decide) ?_
  refine lv_lushr (v := ((((((v - (((v.toUInt64 >>> ((1 : Int32).toInt64.toUInt64 &&& Int64.toUInt64 63)).toInt64) &&& (6148914691236517205 : Int64))) &&& (3689348814741910323 : Int64)) + ((((v - (((v.toUInt64 >>> ((1 : Int32).toInt64.toUInt64 &&& Int64.toUInt64 63)).toInt64) &&& (6148914691236517205 : Int64))).toUInt64 >>> ((2 : Int32).toInt64.toUInt64 &&& Int64.toUInt64 63)).toInt64) &&& (3689348814741910323 : Int64))) + (((((v - (((v.toUInt64 >>> ((1 : Int32).toInt64.toUInt64 &&& Int64.toUInt64 63)).toInt64) &&& (6148914691236517205 : Int64))) &&& (3689348814741910323 : Int64)) + ((((v - (((v.toUInt64 >>> ((1 : Int32).toInt64.toUInt64 &&& Int64.toUInt64 63)).toInt64) &&& (6148914691236517205 : Int64))).toUInt64 >>> ((2 : Int32).toInt64.toUInt64 &&& Int64.toUInt64 63)).toInt64) &&& (3689348814741910323 : Int64))).toUInt64 >>> ((4 : Int32).toInt64.toUInt64 &&& Int64.toUInt64 63)).toInt64)) &&& (1085102592571150095 : Int64)).toUInt64 >>> ((8 : Int32).toInt64.toUInt64 &&& Int64.toUInt64 63)).toInt64) hx hb dJ13_bitCount_95d88_38 rfl ?_
  refine lv_ladd hx hb dJ13_bitCount_95d88_39 ?_
  refine lv_lstore_n (lv' := [(0, .long ((((((v - (((v.toUInt64 >>> ((1 : Int32).toInt64.toUInt64 &&& Int64.toUInt64 63)).toInt64) &&& (6148914691236517205 : Int64))) &&& (3689348814741910323 : Int64)) + ((((v - (((v.toUInt64 >>> ((1 : Int32).toInt64.toUInt64 &&& Int64.toUInt64 63)).toInt64) &&& (6148914691236517205 : Int64))).toUInt64 >>> ((2 : Int32).toInt64.toUInt64 &&& Int64.toUInt64 63)).toInt64) &&& (3689348814741910323 : Int64))) + (((((v - (((v.toUInt64 >>> ((1 : Int32).toInt64.toUInt64 &&& Int64.toUInt64 63)).toInt64) &&& (6148914691236517205 : Int64))) &&& (3689348814741910323 : Int64)) + ((((v - (((v.toUInt64 >>> ((1 : Int32).toInt64.toUInt64 &&& Int64.toUInt64 63)).toInt64) &&& (6148914691236517205 : Int64))).toUInt64 >>> ((2 : Int32).toInt64.toUInt64 &&& Int64.toUInt64 63)).toInt64) &&& (3689348814741910323 : Int64))).toUInt64 >>> ((4 : Int32).toInt64.toUInt64 &&& Int64.toUInt64 63)).toInt64)) &&& (1085102592571150095 : Int64)) + (((((((v - (((v.toUInt64 >>> ((1 : Int32).toInt64.toUInt64 &&& Int64.toUInt64 63)).toInt64) &&& (6148914691236517205 : Int64))) &&& (3689348814741910323 : Int64)) + ((((v - (((v.toUInt64 >>> ((1 : Int32).toInt64.toUInt64 &&& Int64.toUInt64 63)).toInt64) &&& (6148914691236517205 : Int64))).toUInt64 >>> ((2 : Int32).toInt64.toUInt64 &&& Int64.toUInt64 63)).toInt64) &&& (3689348814741910323 : Int64))) + (((((v - (((v.toUInt64 >>> ((1 : Int32).toInt64.toUInt64 &&& Int64.toUInt64 63)).toInt64) &&& (6148914691236517205 : Int64))) &&& (3689348814741910323 : Int64)) + ((((v - (((v.toUInt64 >>> ((1 : Int32).toInt64.toUInt64 &&& Int64.toUInt64 63)).toInt64) &&& (6148914691236517205 : Int64))).toUInt64 >>> ((2 : Int32).toInt64.toUInt64 &&& Int64.toUInt64 63)).toInt64) &&& (3689348814741910323 : Int64))).toUInt64 >>> ((4 : Int32).toInt64.toUInt64 &&& Int64.toUInt64 63)).toInt64)) &&& (1085102592571150095 : Int64)).toUInt64 >>> ((8 : Int32).toInt64.toUInt64 &&& Int64.toUInt64 63)).toInt64)))]) hx hb dJ13_bitCount_95d88_40 rfl hl (by decide) rfl (fun ls hl => ?_)
  refine lv_lload_n hx hb dJ13_bitCount_95d88_41 rfl (lv_at hl 0 rfl) ?_
  refine lv_lload_n hx hb dJ13_bitCount_95d88_42 rfl (lv_at hl 0 rfl) ?_
  refine lv_bipush (v := 16) hx hb dJ13_bitCount_95d88_43 (by decide) ?_
  refine lv_lushr (v := (((((((v - (((v.toUInt64 >>> ((1 : Int32).toInt64.toUInt64 &&& Int64.toUInt64 63)).toInt64) &&& (6148914691236517205 : Int64))) &&& (3689348814741910323 : Int64)) + ((((v - (((v.toUInt64 >>> ((1 : Int32).toInt64.toUInt64 &&& Int64.toUInt64 63)).toInt64) &&& (6148914691236517205 : Int64))).toUInt64 >>> ((2 : Int32).toInt64.toUInt64 &&& Int64.toUInt64 63)).toInt64) &&& (3689348814741910323 : Int64))) + (((((v - (((v.toUInt64 >>> ((1 : Int32).toInt64.toUInt64 &&& Int64.toUInt64 63)).toInt64) &&& (6148914691236517205 : Int64))) &&& (3689348814741910323 : Int64)) + ((((v - (((v.toUInt64 >>> ((1 : Int32).toInt64.toUInt64 &&& Int64.toUInt64 63)).toInt64) &&& (6148914691236517205 : Int64))).toUInt64 >>> ((2 : Int32).toInt64.toUInt64 &&& Int64.toUInt64 63)).toInt64) &&& (3689348814741910323 : Int64))).toUInt64 >>> ((4 : Int32).toInt64.toUInt64 &&& Int64.toUInt64 63)).toInt64)) &&& (1085102592571150095 : Int64)) + (((((((v - (((v.toUInt64 >>> ((1 : Int32).toInt64.toUInt64 &&& Int64.toUInt64 63)).toInt64) &&& (6148914691236517205 : Int64))) &&& (3689348814741910323 : Int64)) + ((((v - (((v.toUInt64 >>> ((1 : Int32).toInt64.toUInt64 &&& Int64.toUInt64 63)).toInt64) &&& (6148914691236517205 : Int64))).toUInt64 >>> ((2 : Int32).toInt64.toUInt64 &&& Int64.toUInt64 63)).toInt64) &&& (3689348814741910323 : Int64))) + (((((v - (((v.toUInt64 >>> ((1 : Int32).toInt64.toUInt64 &&& Int64.toUInt64 63)).toInt64) &&& (6148914691236517205 : Int64))) &&& (3689348814741910323 : Int64)) + ((((v - (((v.toUInt64 >>> ((1 : Int32).toInt64.toUInt64 &&& Int64.toUInt64 63)).toInt64) &&& (6148914691236517205 : Int64))).toUInt64 >>> ((2 : Int32).toInt64.toUInt64 &&& Int64.toUInt64 63)).toInt64) &&& (3689348814741910323 : Int64))).toUInt64 >>> ((4 : Int32).toInt64.toUInt64 &&& Int64.toUInt64 63)).toInt64)) &&& (1085102592571150095 : Int64)).toUInt64 >>> ((8 : Int32).toInt64.toUInt64 &&& Int64.toUInt64 63)).toInt64)).toUInt64 >>> ((16 : Int32).toInt64.toUInt64 &&& Int64.toUInt64 63)).toInt64) hx hb dJ13_bitCount_95d88_45 rfl ?_
  refine lv_ladd hx hb dJ13_bitCount_95d88_46 ?_
  refine lv_lstore_n (lv' := [(0, .long (((((((v - (((v.toUInt64 >>> ((1 : Int32).toInt64.toUInt64 &&& Int64.toUInt64 63)).toInt64) &&& (6148914691236517205 : Int64))) &&& (3689348814741910323 : Int64)) + ((((v - (((v.toUInt64 >>> ((1 : Int32).toInt64.toUInt64 &&& Int64.toUInt64 63)).toInt64) &&& (6148914691236517205 : Int64))).toUInt64 >>> ((2 : Int32).toInt64.toUInt64 &&& Int64.toUInt64 63)).toInt64) &&& (3689348814741910323 : Int64))) + (((((v - (((v.toUInt64 >>> ((1 : Int32).toInt64.toUInt64 &&& Int64.toUInt64 63)).toInt64) &&& (6148914691236517205 : Int64))) &&& (3689348814741910323 : Int64)) + ((((v - (((v.toUInt64 >>> ((1 : Int32).toInt64.toUInt64 &&& Int64.toUInt64 63)).toInt64) &&& (6148914691236517205 : Int64))).toUInt64 >>> ((2 : Int32).toInt64.toUInt64 &&& Int64.toUInt64 63)).toInt64) &&& (3689348814741910323 : Int64))).toUInt64 >>> ((4 : Int32).toInt64.toUInt64 &&& Int64.toUInt64 63)).toInt64)) &&& (1085102592571150095 : Int64)) + (((((((v - (((v.toUInt64 >>> ((1 : Int32).toInt64.toUInt64 &&& Int64.toUInt64 63)).toInt64) &&& (6148914691236517205 : Int64))) &&& (3689348814741910323 : Int64)) + ((((v - (((v.toUInt64 >>> ((1 : Int32).toInt64.toUInt64 &&& Int64.toUInt64 63)).toInt64) &&& (6148914691236517205 : Int64))).toUInt64 >>> ((2 : Int32).toInt64.toUInt64 &&& Int64.toUInt64 63)).toInt64) &&& (3689348814741910323 : Int64))) + (((((v - (((v.toUInt64 >>> ((1 : Int32).toInt64.toUInt64 &&& Int64.toUInt64 63)).toInt64) &&& (6148914691236517205 : Int64))) &&& (3689348814741910323 : Int64)) + ((((v - (((v.toUInt64 >>> ((1 : Int32).toInt64.toUInt64 &&& Int64.toUInt64 63)).toInt64) &&& (6148914691236517205 : Int64))).toUInt64 >>> ((2 : Int32).toInt64.toUInt64 &&& Int64.toUInt64 63)).toInt64) &&& (3689348814741910323 : Int64))).toUInt64 >>> ((4 : Int32).toInt64.toUInt64 &&& Int64.toUInt64 63)).toInt64)) &&& (1085102592571150095 : Int64)).toUInt64 >>> ((8 : Int32).toInt64.toUInt64 &&& Int64.toUInt64 63)).toInt64)) + ((((((((v - (((v.toUInt64 >>> ((1 : Int32).toInt64.toUInt64 &&& Int64.toUInt64 63)).toInt64) &&& (6148914691236517205 : Int64))) &&& (3689348814741910323 : Int64)) + ((((v - (((v.toUInt64 >>> ((1 : Int32).toInt64.toUInt64 &&& Int64.toUInt64 63)).toInt64) &&& (6148914691236517205 : Int64))).toUInt64 >>> ((2 : Int32).toInt64.toUInt64 &&& Int64.toUInt64 63)).toInt64) &&& (3689348814741910323 : Int64))) + (((((v - (((v.toUInt64 >>> ((1 : Int32).toInt64.toUInt64 &&& Int64.toUInt64 63)).toInt64) &&& (6148914691236517205 : Int64))) &&& (3689348814741910323 : Int64)) + ((((v - (((v.toUInt64 >>> ((1 : Int32).toInt64.toUInt64 &&& Int64.toUInt64 63)).toInt64) &&& (6148914691236517205 : Int64))).toUInt64 >>> ((2 : Int32).toInt64.toUInt64 &&& Int64.toUInt64 63)).toInt64) &&& (3689348814741910323 : Int64))).toUInt64 >>> ((4 : Int32).toInt64.toUInt64 &&& Int64.toUInt64 63)).toInt64)) &&& (1085102592571150095 : Int64)) + (((((((v - (((v.toUInt64 >>> ((1 : Int32).toInt64.toUInt64 &&& Int64.toUInt64 63)).toInt64) &&& (6148914691236517205 : Int64))) &&& (3689348814741910323 : Int64)) + ((((v - (((v.toUInt64 >>> ((1 : Int32).toInt64.toUInt64 &&& Int64.toUInt64 63)).toInt64) &&& (6148914691236517205 : Int64))).toUInt64 >>> ((2 : Int32).toInt64.toUInt64 &&& Int64.toUInt64 63)).toInt64) &&& (3689348814741910323 : Int64))) + (((((v - (((v.toUInt64 >>> ((1 : Int32).toInt64.toUInt64 &&& Int64.toUInt64 63)).toInt64) &&& (6148914691236517205 : Int64))) &&& (3689348814741910323 : Int64)) + ((((v - (((v.toUInt64 >>> ((1 : Int32).toInt64.toUInt64 &&& Int64.toUInt64 63)).toInt64) &&& (6148914691236517205 : Int64))).toUInt64 >>> ((2 : Int32).toInt64.toUInt64 &&& Int64.toUInt64 63)).toInt64) &&& (3689348814741910323 : Int64))).toUInt64 >>> ((4 : Int32).toInt64.toUInt64 &&& Int64.toUInt64 63)).toInt64)) &&& (1085102592571150095 : Int64)).toUInt64 >>> ((8 : Int32).toInt64.toUInt64 &&& Int64.toUInt64 63)).toInt64)).toUInt64 >>> ((16 : Int32).toInt64.toUInt64 &&& Int64.toUInt64 63)).toInt64)))]) hx hb dJ13_bitCount_95d88_47 rfl hl (by decide) rfl (fun ls hl => ?_)
  refine lv_lload_n hx hb dJ13_bitCount_95d88_48 rfl (lv_at hl 0 rfl) ?_
  refine lv_lload_n hx hb dJ13_bitCount_95d88_49 rfl (lv_at hl 0 rfl) ?_
  refine lv_bipush (v := 32) hx hb dJ13_bitCount_95d88_50 (by decide) ?_
  refine lv_lushr (v := ((((((((v - (((v.toUInt64 >>> ((1 : Int32).toInt64.toUInt64 &&& Int64.toUInt64 63)).toInt64) &&& (6148914691236517205 : Int64))) &&& (3689348814741910323 : Int64)) + ((((v - (((v.toUInt64 >>> ((1 : Int32).toInt64.toUInt64 &&& Int64.toUInt64 63)).toInt64) &&& (6148914691236517205 : Int64))).toUInt64 >>> ((2 : Int32).toInt64.toUInt64 &&& Int64.toUInt64 63)).toInt64) &&& (3689348814741910323 : Int64))) + (((((v - (((v.toUInt64 >>> ((1 : Int32).toInt64.toUInt64 &&& Int64.toUInt64 63)).toInt64) &&& (6148914691236517205 : Int64))) &&& (3689348814741910323 : Int64)) + ((((v - (((v.toUInt64 >>> ((1 : Int32).toInt64.toUInt64 &&& Int64.toUInt64 63)).toInt64) &&& (6148914691236517205 : Int64))).toUInt64 >>> ((2 : Int32).toInt64.toUInt64 &&& Int64.toUInt64 63)).toInt64) &&& (3689348814741910323 : Int64))).toUInt64 >>> ((4 : Int32).toInt64.toUInt64 &&& Int64.toUInt64 63)).toInt64)) &&& (1085102592571150095 : Int64)) + (((((((v - (((v.toUInt64 >>> ((1 : Int32).toInt64.toUInt64 &&& Int64.toUInt64 63)).toInt64) &&& (6148914691236517205 : Int64))) &&& (3689348814741910323 : Int64)) + ((((v - (((v.toUInt64 >>> ((1 : Int32).toInt64.toUInt64 &&& Int64.toUInt64 63)).toInt64) &&& (6148914691236517205 : Int64))).toUInt64 >>> ((2 : Int32).toInt64.toUInt64 &&& Int64.toUInt64 63)).toInt64) &&& (3689348814741910323 : Int64))) + (((((v - (((v.toUInt64 >>> ((1 : Int32).toInt64.toUInt64 &&& Int64.toUInt64 63)).toInt64) &&& (6148914691236517205 : Int64))) &&& (3689348814741910323 : Int64)) + ((((v - (((v.toUInt64 >>> ((1 : Int32).toInt64.toUInt64 &&& Int64.toUInt64 63)).toInt64) &&& (6148914691236517205 : Int64))).toUInt64 >>> ((2 : Int32).toInt64.toUInt64 &&& Int64.toUInt64 63)).toInt64) &&& (3689348814741910323 : Int64))).toUInt64 >>> ((4 : Int32).toInt64.toUInt64 &&& Int64.toUInt64 63)).toInt64)) &&& (1085102592571150095 : Int64)).toUInt64 >>> ((8 : Int32).toInt64.toUInt64 &&& Int64.toUInt64 63)).toInt64)) + ((((((((v - (((v.toUInt64 >>> ((1 : Int32).toInt64.toUInt64 &&& Int64.toUInt64 63)).toInt64) &&& (6148914691236517205 : Int64))) &&& (3689348814741910323 : Int64)) + ((((v - (((v.toUInt64 >>> ((1 : Int32).toInt64.toUInt64 &&& Int64.toUInt64 63)).toInt64) &&& (6148914691236517205 : Int64))).toUInt64 >>> ((2 : Int32).toInt64.toUInt64 &&& Int64.toUInt64 63)).toInt64) &&& (3689348814741910323 : Int64))) + (((((v - (((v.toUInt64 >>> ((1 : Int32).toInt64.toUInt64 &&& Int64.toUInt64 63)).toInt64) &&& (6148914691236517205 : Int64))) &&& (3689348814741910323 : Int64)) + ((((v - (((v.toUInt64 >>> ((1 : Int32).toInt64.toUInt64 &&& Int64.toUInt64 63)).toInt64) &&& (6148914691236517205 : Int64))).toUInt64 >>> ((2 : Int32).toInt64.toUInt64 &&& Int64.toUInt64 63)).toInt64) &&& (3689348814741910323 : Int64))).toUInt64 >>> ((4 : Int32).toInt64.toUInt64 &&& Int64.toUInt64 63)).toInt64)) &&& (1085102592571150095 : Int64)) + (((((((v - (((v.toUInt64 >>> ((1 : Int32).toInt64.toUInt64 &&& Int64.toUInt64 63)).toInt64) &&& (6148914691236517205 : Int64))) &&& (3689348814741910323 : Int64)) + ((((v - (((v.toUInt64 >>> ((1 : Int32).toInt64.toUInt64 &&& Int64.toUInt64 63)).toInt64) &&& (6148914691236517205 : Int64))).toUInt64 >>> ((2 : Int32).toInt64.toUInt64 &&& Int64.toUInt64 63)).toInt64) &&& (3689348814741910323 : Int64))) + (((((v - (((v.toUInt64 >>> ((1 : Int32).toInt64.toUInt64 &&& Int64.toUInt64 63)).toInt64) &&& (6148914691236517205 : Int64))) &&& (3689348814741910323 : Int64)) + ((((v - (((v.toUInt64 >>> ((1 : Int32).toInt64.toUInt64 &&& Int64.toUInt64 63)).toInt64) &&& (6148914691236517205 : Int64))).toUInt64 >>> ((2 : Int32).toInt64.toUInt64 &&& Int64.toUInt64 63)).toInt64) &&& (3689348814741910323 : Int64))).toUInt64 >>> ((4 : Int32).toInt64.toUInt64 &&& Int64.toUInt64 63)).toInt64)) &&& (1085102592571150095 : Int64)).toUInt64 >>> ((8 : Int32).toInt64.toUInt64 &&& Int64.toUInt64 63)).toInt64)).toUInt64 >>> ((16 : Int32).toInt64.toUInt64 &&& Int64.toUInt64 63)).toInt64)).toUInt64 >>> ((32 : Int32).toInt64.toUInt64 &&& Int64.toUInt64 63)).toInt64) hx hb dJ13_bitCount_95d88_52 rfl ?_
  refine lv_ladd hx hb dJ13_bitCount_95d88_53 ?_
  refine lv_lstore_n (lv' := [(0, .long ((((((((v - (((v.toUInt64 >>> ((1 : Int32).toInt64.toUInt64 &&& Int64.toUInt64 63)).toInt64) &&& (6148914691236517205 : Int64))) &&& (3689348814741910323 : Int64)) + ((((v - (((v.toUInt64 >>> ((1 : Int32).toInt64.toUInt64 &&& Int64.toUInt64 63)).toInt64) &&& (6148914691236517205 : Int64))).toUInt64 >>> ((2 : Int32).toInt64.toUInt64 &&& Int64.toUInt64 63)).toInt64) &&& (3689348814741910323 : Int64))) + (((((v - (((v.toUInt64 >>> ((1 : Int32).toInt64.toUInt64 &&& Int64.toUInt64 63)).toInt64) &&& (6148914691236517205 : Int64))) &&& (3689348814741910323 : Int64)) + ((((v - (((v.toUInt64 >>> ((1 : Int32).toInt64.toUInt64 &&& Int64.toUInt64 63)).toInt64) &&& (6148914691236517205 : Int64))).toUInt64 >>> ((2 : Int32).toInt64.toUInt64 &&& Int64.toUInt64 63)).toInt64) &&& (3689348814741910323 : Int64))).toUInt64 >>> ((4 : Int32).toInt64.toUInt64 &&& Int64.toUInt64 63)).toInt64)) &&& (1085102592571150095 : Int64)) + (((((((v - (((v.toUInt64 >>> ((1 : Int32).toInt64.toUInt64 &&& Int64.toUInt64 63)).toInt64) &&& (6148914691236517205 : Int64))) &&& (3689348814741910323 : Int64)) + ((((v - (((v.toUInt64 >>> ((1 : Int32).toInt64.toUInt64 &&& Int64.toUInt64 63)).toInt64) &&& (6148914691236517205 : Int64))).toUInt64 >>> ((2 : Int32).toInt64.toUInt64 &&& Int64.toUInt64 63)).toInt64) &&& (3689348814741910323 : Int64))) + (((((v - (((v.toUInt64 >>> ((1 : Int32).toInt64.toUInt64 &&& Int64.toUInt64 63)).toInt64) &&& (6148914691236517205 : Int64))) &&& (3689348814741910323 : Int64)) + ((((v - (((v.toUInt64 >>> ((1 : Int32).toInt64.toUInt64 &&& Int64.toUInt64 63)).toInt64) &&& (6148914691236517205 : Int64))).toUInt64 >>> ((2 : Int32).toInt64.toUInt64 &&& Int64.toUInt64 63)).toInt64) &&& (3689348814741910323 : Int64))).toUInt64 >>> ((4 : Int32).toInt64.toUInt64 &&& Int64.toUInt64 63)).toInt64)) &&& (1085102592571150095 : Int64)).toUInt64 >>> ((8 : Int32).toInt64.toUInt64 &&& Int64.toUInt64 63)).toInt64)) + ((((((((v - (((v.toUInt64 >>> ((1 : Int32).toInt64.toUInt64 &&& Int64.toUInt64 63)).toInt64) &&& (6148914691236517205 : Int64))) &&& (3689348814741910323 : Int64)) + ((((v - (((v.toUInt64 >>> ((1 : Int32).toInt64.toUInt64 &&& Int64.toUInt64 63)).toInt64) &&& (6148914691236517205 : Int64))).toUInt64 >>> ((2 : Int32).toInt64.toUInt64 &&& Int64.toUInt64 63)).toInt64) &&& (3689348814741910323 : Int64))) + (((((v - (((v.toUInt64 >>> ((1 : Int32).toInt64.toUInt64 &&& Int64.toUInt64 63)).toInt64) &&& (6148914691236517205 : Int64))) &&& (3689348814741910323 : Int64)) + ((((v - (((v.toUInt64 >>> ((1 : Int32).toInt64.toUInt64 &&& Int64.toUInt64 63)).toInt64) &&& (6148914691236517205 : Int64))).toUInt64 >>> ((2 : Int32).toInt64.toUInt64 &&& Int64.toUInt64 63)).toInt64) &&& (3689348814741910323 : Int64))).toUInt64 >>> ((4 : Int32).toInt64.toUInt64 &&& Int64.toUInt64 63)).toInt64)) &&& (1085102592571150095 : Int64)) + (((((((v - (((v.toUInt64 >>> ((1 : Int32).toInt64.toUInt64 &&& Int64.toUInt64 63)).toInt64) &&& (6148914691236517205 : Int64))) &&& (3689348814741910323 : Int64)) + ((((v - (((v.toUInt64 >>> ((1 : Int32).toInt64.toUInt64 &&& Int64.toUInt64 63)).toInt64) &&& (6148914691236517205 : Int64))).toUInt64 >>> ((2 : Int32).toInt64.toUInt64 &&& Int64.toUInt64 63)).toInt64) &&& (3689348814741910323 : Int64))) + (((((v - (((v.toUInt64 >>> ((1 : Int32).toInt64.toUInt64 &&& Int64.toUInt64 63)).toInt64) &&& (6148914691236517205 : Int64))) &&& (3689348814741910323 : Int64)) + ((((v - (((v.toUInt64 >>> ((1 : Int32).toInt64.toUInt64 &&& Int64.toUInt64 63)).toInt64) &&& (6148914691236517205 : Int64))).toUInt64 >>> ((2 : Int32).toInt64.toUInt64 &&& Int64.toUInt64 63)).toInt64) &&& (3689348814741910323 : Int64))).toUInt64 >>> ((4 : Int32).toInt64.toUInt64 &&& Int64.toUInt64 63)).toInt64)) &&& (1085102592571150095 : Int64)).toUInt64 >>> ((8 : Int32).toInt64.toUInt64 &&& Int64.toUInt64 63)).toInt64)).toUInt64 >>> ((16 : Int32).toInt64.toUInt64 &&& Int64.toUInt64 63)).toInt64)) + (((((((((v - (((v.toUInt64 >>> ((1 : Int32).toInt64.toUInt64 &&& Int64.toUInt64 63)).toInt64) &&& (6148914691236517205 : Int64))) &&& (3689348814741910323 : Int64)) + ((((v - (((v.toUInt64 >>> ((1 : Int32).toInt64.toUInt64 &&& Int64.toUInt64 63)).toInt64) &&& (6148914691236517205 : Int64))).toUInt64 >>> ((2 : Int32).toInt64.toUInt64 &&& Int64.toUInt64 63)).toInt64) &&& (3689348814741910323 : Int64))) + (((((v - (((v.toUInt64 >>> ((1 : Int32).toInt64.toUInt64 &&& Int64.toUInt64 63)).toInt64) &&& (6148914691236517205 : Int64))) &&& (3689348814741910323 : Int64)) + ((((v - (((v.toUInt64 >>> ((1 : Int32).toInt64.toUInt64 &&& Int64.toUInt64 63)).toInt64) &&& (6148914691236517205 : Int64))).toUInt64 >>> ((2 : Int32).toInt64.toUInt64 &&& Int64.toUInt64 63)).toInt64) &&& (3689348814741910323 : Int64))).toUInt64 >>> ((4 : Int32).toInt64.toUInt64 &&& Int64.toUInt64 63)).toInt64)) &&& (1085102592571150095 : Int64)) + (((((((v - (((v.toUInt64 >>> ((1 : Int32).toInt64.toUInt64 &&& Int64.toUInt64 63)).toInt64) &&& (6148914691236517205 : Int64))) &&& (3689348814741910323 : Int64)) + ((((v - (((v.toUInt64 >>> ((1 : Int32).toInt64.toUInt64 &&& Int64.toUInt64 63)).toInt64) &&& (6148914691236517205 : Int64))).toUInt64 >>> ((2 : Int32).toInt64.toUInt64 &&& Int64.toUInt64 63)).toInt64) &&& (3689348814741910323 : Int64))) + (((((v - (((v.toUInt64 >>> ((1 : Int32).toInt64.toUInt64 &&& Int64.toUInt64 63)).toInt64) &&& (6148914691236517205 : Int64))) &&& (3689348814741910323 : Int64)) + ((((v - (((v.toUInt64 >>> ((1 : Int32).toInt64.toUInt64 &&& Int64.toUInt64 63)).toInt64) &&& (6148914691236517205 : Int64))).toUInt64 >>> ((2 : Int32).toInt64.toUInt64 &&& Int64.toUInt64 63)).toInt64) &&& (3689348814741910323 : Int64))).toUInt64 >>> ((4 : Int32).toInt64.toUInt64 &&& Int64.toUInt64 63)).toInt64)) &&& (1085102592571150095 : Int64)).toUInt64 >>> ((8 : Int32).toInt64.toUInt64 &&& Int64.toUInt64 63)).toInt64)) + ((((((((v - (((v.toUInt64 >>> ((1 : Int32).toInt64.toUInt64 &&& Int64.toUInt64 63)).toInt64) &&& (6148914691236517205 : Int64))) &&& (3689348814741910323 : Int64)) + ((((v - (((v.toUInt64 >>> ((1 : Int32).toInt64.toUInt64 &&& Int64.toUInt64 63)).toInt64) &&& (6148914691236517205 : Int64))).toUInt64 >>> ((2 : Int32).toInt64.toUInt64 &&& Int64.toUInt64 63)).toInt64) &&& (3689348814741910323 : Int64))) + (((((v - (((v.toUInt64 >>> ((1 : Int32).toInt64.toUInt64 &&& Int64.toUInt64 63)).toInt64) &&& (6148914691236517205 : Int64))) &&& (3689348814741910323 : Int64)) + ((((v - (((v.toUInt64 >>> ((1 : Int32).toInt64.toUInt64 &&& Int64.toUInt64 63)).toInt64) &&& (6148914691236517205 : Int64))).toUInt64 >>> ((2 : Int32).toInt64.toUInt64 &&& Int64.toUInt64 63)).toInt64) &&& (3689348814741910323 : Int64))).toUInt64 >>> ((4 : Int32).toInt64.toUInt64 &&& Int64.toUInt64 63)).toInt64)) &&& (1085102592571150095 : Int64)) + (((((((v - (((v.toUInt64 >>> ((1 : Int32).toInt64.toUInt64 &&& Int64.toUInt64 63)).toInt64) &&& (6148914691236517205 : Int64))) &&& (3689348814741910323 : Int64)) + ((((v - (((v.toUInt64 >>> ((1 : Int32).toInt64.toUInt64 &&& Int64.toUInt64 63)).toInt64) &&& (6148914691236517205 : Int64))).toUInt64 >>> ((2 : Int32).toInt64.toUInt64 &&& Int64.toUInt64 63)).toInt64) &&& (3689348814741910323 : Int64))) + (((((v - (((v.toUInt64 >>> ((1 : Int32).toInt64.toUInt64 &&& Int64.toUInt64 63)).toInt64) &&& (6148914691236517205 : Int64))) &&& (3689348814741910323 : Int64)) + ((((v - (((v.toUInt64 >>> ((1 : Int32).toInt64.toUInt64 &&& Int64.toUInt64 63)).toInt64) &&& (6148914691236517205 : Int64))).toUInt64 >>> ((2 : Int32).toInt64.toUInt64 &&& Int64.toUInt64 63)).toInt64) &&& (3689348814741910323 : Int64))).toUInt64 >>> ((4 : Int32).toInt64.toUInt64 &&& Int64.toUInt64 63)).toInt64)) &&& (1085102592571150095 : Int64)).toUInt64 >>> ((8 : Int32).toInt64.toUInt64 &&& Int64.toUInt64 63)).toInt64)).toUInt64 >>> ((16 : Int32).toInt64.toUInt64 &&& Int64.toUInt64 63)).toInt64)).toUInt64 >>> ((32 : Int32).toInt64.toUInt64 &&& Int64.toUInt64 63)).toInt64)))]) hx hb dJ13_bitCount_95d88_54 rfl hl (by decide) rfl (fun ls hl => ?_)
  refine lv_lload_n hx hb dJ13_bitCount_95d88_55 rfl (lv_at hl 0 rfl) ?_
  refine lv_l2i (v := (((((((((v - (((v.toUInt64 >>> ((1 : Int32).toInt64.toUInt64 &&& Int64.toUInt64 63)).toInt64) &&& (6148914691236517205 : Int64))) &&& (3689348814741910323 : Int64)) + ((((v - (((v.toUInt64 >>> ((1 : Int32).toInt64.toUInt64 &&& Int64.toUInt64 63)).toInt64) &&& (6148914691236517205 : Int64))).toUInt64 >>> ((2 : Int32).toInt64.toUInt64 &&& Int64.toUInt64 63)).toInt64) &&& (3689348814741910323 : Int64))) + (((((v - (((v.toUInt64 >>> ((1 : Int32).toInt64.toUInt64 &&& Int64.toUInt64 63)).toInt64) &&& (6148914691236517205 : Int64))) &&& (3689348814741910323 : Int64)) + ((((v - (((v.toUInt64 >>> ((1 : Int32).toInt64.toUInt64 &&& Int64.toUInt64 63)).toInt64) &&& (6148914691236517205 : Int64))).toUInt64 >>> ((2 : Int32).toInt64.toUInt64 &&& Int64.toUInt64 63)).toInt64) &&& (3689348814741910323 : Int64))).toUInt64 >>> ((4 : Int32).toInt64.toUInt64 &&& Int64.toUInt64 63)).toInt64)) &&& (1085102592571150095 : Int64)) + (((((((v - (((v.toUInt64 >>> ((1 : Int32).toInt64.toUInt64 &&& Int64.toUInt64 63)).toInt64) &&& (6148914691236517205 : Int64))) &&& (3689348814741910323 : Int64)) + ((((v - (((v.toUInt64 >>> ((1 : Int32).toInt64.toUInt64 &&& Int64.toUInt64 63)).toInt64) &&& (6148914691236517205 : Int64))).toUInt64 >>> ((2 : Int32).toInt64.toUInt64 &&& Int64.toUInt64 63)).toInt64) &&& (3689348814741910323 : Int64))) + (((((v - (((v.toUInt64 >>> ((1 : Int32).toInt64.toUInt64 &&& Int64.toUInt64 63)).toInt64) &&& (6148914691236517205 : Int64))) &&& (3689348814741910323 : Int64)) + ((((v - (((v.toUInt64 >>> ((1 : Int32).toInt64.toUInt64 &&& Int64.toUInt64 63)).toInt64) &&& (6148914691236517205 : Int64))).toUInt64 >>> ((2 : Int32).toInt64.toUInt64 &&& Int64.toUInt64 63)).toInt64) &&& (3689348814741910323 : Int64))).toUInt64 >>> ((4 : Int32).toInt64.toUInt64 &&& Int64.toUInt64 63)).toInt64)) &&& (1085102592571150095 : Int64)).toUInt64 >>> ((8 : Int32).toInt64.toUInt64 &&& Int64.toUInt64 63)).toInt64)) + ((((((((v - (((v.toUInt64 >>> ((1 : Int32).toInt64.toUInt64 &&& Int64.toUInt64 63)).toInt64) &&& (6148914691236517205 : Int64))) &&& (3689348814741910323 : Int64)) + ((((v - (((v.toUInt64 >>> ((1 : Int32).toInt64.toUInt64 &&& Int64.toUInt64 63)).toInt64) &&& (6148914691236517205 : Int64))).toUInt64 >>> ((2 : Int32).toInt64.toUInt64 &&& Int64.toUInt64 63)).toInt64) &&& (3689348814741910323 : Int64))) + (((((v - (((v.toUInt64 >>> ((1 : Int32).toInt64.toUInt64 &&& Int64.toUInt64 63)).toInt64) &&& (6148914691236517205 : Int64))) &&& (3689348814741910323 : Int64)) + ((((v - (((v.toUInt64 >>> ((1 : Int32).toInt64.toUInt64 &&& Int64.toUInt64 63)).toInt64) &&& (6148914691236517205 : Int64))).toUInt64 >>> ((2 : Int32).toInt64.toUInt64 &&& Int64.toUInt64 63)).toInt64) &&& (3689348814741910323 : Int64))).toUInt64 >>> ((4 : Int32).toInt64.toUInt64 &&& Int64.toUInt64 63)).toInt64)) &&& (1085102592571150095 : Int64)) + (((((((v - (((v.toUInt64 >>> ((1 : Int32).toInt64.toUInt64 &&& Int64.toUInt64 63)).toInt64) &&& (6148914691236517205 : Int64))) &&& (3689348814741910323 : Int64)) + ((((v - (((v.toUInt64 >>> ((1 : Int32).toInt64.toUInt64 &&& Int64.toUInt64 63)).toInt64) &&& (6148914691236517205 : Int64))).toUInt64 >>> ((2 : Int32).toInt64.toUInt64 &&& Int64.toUInt64 63)).toInt64) &&& (3689348814741910323 : Int64))) + (((((v - (((v.toUInt64 >>> ((1 : Int32).toInt64.toUInt64 &&& Int64.toUInt64 63)).toInt64) &&& (6148914691236517205 : Int64))) &&& (3689348814741910323 : Int64)) + ((((v - (((v.toUInt64 >>> ((1 : Int32).toInt64.toUInt64 &&& Int64.toUInt64 63)).toInt64) &&& (6148914691236517205 : Int64))).toUInt64 >>> ((2 : Int32).toInt64.toUInt64 &&& Int64.toUInt64 63)).toInt64) &&& (3689348814741910323 : Int64))).toUInt64 >>> ((4 : Int32).toInt64.toUInt64 &&& Int64.toUInt64 63)).toInt64)) &&& (1085102592571150095 : Int64)).toUInt64 >>> ((8 : Int32).toInt64.toUInt64 &&& Int64.toUInt64 63)).toInt64)).toUInt64 >>> ((16 : Int32).toInt64.toUInt64 &&& Int64.toUInt64 63)).toInt64)) + (((((((((v - (((v.toUInt64 >>> ((1 : Int32).toInt64.toUInt64 &&& Int64.toUInt64 63)).toInt64) &&& (6148914691236517205 : Int64))) &&& (3689348814741910323 : Int64)) + ((((v - (((v.toUInt64 >>> ((1 : Int32).toInt64.toUInt64 &&& Int64.toUInt64 63)).toInt64) &&& (6148914691236517205 : Int64))).toUInt64 >>> ((2 : Int32).toInt64.toUInt64 &&& Int64.toUInt64 63)).toInt64) &&& (3689348814741910323 : Int64))) + (((((v - (((v.toUInt64 >>> ((1 : Int32).toInt64.toUInt64 &&& Int64.toUInt64 63)).toInt64) &&& (6148914691236517205 : Int64))) &&& (3689348814741910323 : Int64)) + ((((v - (((v.toUInt64 >>> ((1 : Int32).toInt64.toUInt64 &&& Int64.toUInt64 63)).toInt64) &&& (6148914691236517205 : Int64))).toUInt64 >>> ((2 : Int32).toInt64.toUInt64 &&& Int64.toUInt64 63)).toInt64) &&& (3689348814741910323 : Int64))).toUInt64 >>> ((4 : Int32).toInt64.toUInt64 &&& Int64.toUInt64 63)).toInt64)) &&& (1085102592571150095 : Int64)) + (((((((v - (((v.toUInt64 >>> ((1 : Int32).toInt64.toUInt64 &&& Int64.toUInt64 63)).toInt64) &&& (6148914691236517205 : Int64))) &&& (3689348814741910323 : Int64)) + ((((v - (((v.toUInt64 >>> ((1 : Int32).toInt64.toUInt64 &&& Int64.toUInt64 63)).toInt64) &&& (6148914691236517205 : Int64))).toUInt64 >>> ((2 : Int32).toInt64.toUInt64 &&& Int64.toUInt64 63)).toInt64) &&& (3689348814741910323 : Int64))) + (((((v - (((v.toUInt64 >>> ((1 : Int32).toInt64.toUInt64 &&& Int64.toUInt64 63)).toInt64) &&& (6148914691236517205 : Int64))) &&& (3689348814741910323 : Int64)) + ((((v - (((v.toUInt64 >>> ((1 : Int32).toInt64.toUInt64 &&& Int64.toUInt64 63)).toInt64) &&& (6148914691236517205 : Int64))).toUInt64 >>> ((2 : Int32).toInt64.toUInt64 &&& Int64.toUInt64 63)).toInt64) &&& (3689348814741910323 : Int64))).toUInt64 >>> ((4 : Int32).toInt64.toUInt64 &&& Int64.toUInt64 63)).toInt64)) &&& (1085102592571150095 : Int64)).toUInt64 >>> ((8 : Int32).toInt64.toUInt64 &&& Int64.toUInt64 63)).toInt64)) + ((((((((v - (((v.toUInt64 >>> ((1 : Int32).toInt64.toUInt64 &&& Int64.toUInt64 63)).toInt64) &&& (6148914691236517205 : Int64))) &&& (3689348814741910323 : Int64)) + ((((v - (((v.toUInt64 >>> ((1 : Int32).toInt64.toUInt64 &&& Int64.toUInt64 63)).toInt64) &&& (6148914691236517205 : Int64))).toUInt64 >>> ((2 : Int32).toInt64.toUInt64 &&& Int64.toUInt64 63)).toInt64) &&& (3689348814741910323 : Int64))) + (((((v - (((v.toUInt64 >>> ((1 : Int32).toInt64.toUInt64 &&& Int64.toUInt64 63)).toInt64) &&& (6148914691236517205 : Int64))) &&& (3689348814741910323 : Int64)) + ((((v - (((v.toUInt64 >>> ((1 : Int32).toInt64.toUInt64 &&& Int64.toUInt64 63)).toInt64) &&& (6148914691236517205 : Int64))).toUInt64 >>> ((2 : Int32).toInt64.toUInt64 &&& Int64.toUInt64 63)).toInt64) &&& (3689348814741910323 : Int64))).toUInt64 >>> ((4 : Int32).toInt64.toUInt64 &&& Int64.toUInt64 63)).toInt64)) &&& (1085102592571150095 : Int64)) + (((((((v - (((v.toUInt64 >>> ((1 : Int32).toInt64.toUInt64 &&& Int64.toUInt64 63)).toInt64) &&& (6148914691236517205 : Int64))) &&& (3689348814741910323 : Int64)) + ((((v - (((v.toUInt64 >>> ((1 : Int32).toInt64.toUInt64 &&& Int64.toUInt64 63)).toInt64) &&& (6148914691236517205 : Int64))).toUInt64 >>> ((2 : Int32).toInt64.toUInt64 &&& Int64.toUInt64 63)).toInt64) &&& (3689348814741910323 : Int64))) + (((((v - (((v.toUInt64 >>> ((1 : Int32).toInt64.toUInt64 &&& Int64.toUInt64 63)).toInt64) &&& (6148914691236517205 : Int64))) &&& (3689348814741910323 : Int64)) + ((((v - (((v.toUInt64 >>> ((1 : Int32).toInt64.toUInt64 &&& Int64.toUInt64 63)).toInt64) &&& (6148914691236517205 : Int64))).toUInt64 >>> ((2 : Int32).toInt64.toUInt64 &&& Int64.toUInt64 63)).toInt64) &&& (3689348814741910323 : Int64))).toUInt64 >>> ((4 : Int32).toInt64.toUInt64 &&& Int64.toUInt64 63)).toInt64)) &&& (1085102592571150095 : Int64)).toUInt64 >>> ((8 : Int32).toInt64.toUInt64 &&& Int64.toUInt64 63)).toInt64)).toUInt64 >>> ((16 : Int32).toInt64.toUInt64 &&& Int64.toUInt64 63)).toInt64)).toUInt64 >>> ((32 : Int32).toInt64.toUInt64 &&& Int64.toUInt64 63)).toInt64)).toInt32)) hx hb dJ13_bitCount_95d88_56 rfl ?_
  refine lv_bipush (v := 127) hx hb dJ13_bitCount_95d88_57 (by decide) ?_
  refine lv_iand hx hb dJ13_bitCount_95d88_59 ?_
  obtain ⟨j_1, hj_1, ej_1⟩ := pk_andE (((((((((v - (((v.toUInt64 >>> ((1 : Int32).toInt64.toUInt64 &&& Int64.toUInt64 63)).toInt64) &&& (6148914691236517205 : Int64))) &&& (3689348814741910323 : Int64)) + ((((v - (((v.toUInt64 >>> ((1 : Int32).toInt64.toUInt64 &&& Int64.toUInt64 63)).toInt64) &&& (6148914691236517205 : Int64))).toUInt64 >>> ((2 : Int32).toInt64.toUInt64 &&& Int64.toUInt64 63)).toInt64) &&& (3689348814741910323 : Int64))) + (((((v - (((v.toUInt64 >>> ((1 : Int32).toInt64.toUInt64 &&& Int64.toUInt64 63)).toInt64) &&& (6148914691236517205 : Int64))) &&& (3689348814741910323 : Int64)) + ((((v - (((v.toUInt64 >>> ((1 : Int32).toInt64.toUInt64 &&& Int64.toUInt64 63)).toInt64) &&& (6148914691236517205 : Int64))).toUInt64 >>> ((2 : Int32).toInt64.toUInt64 &&& Int64.toUInt64 63)).toInt64) &&& (3689348814741910323 : Int64))).toUInt64 >>> ((4 : Int32).toInt64.toUInt64 &&& Int64.toUInt64 63)).toInt64)) &&& (1085102592571150095 : Int64)) + (((((((v - (((v.toUInt64 >>> ((1 : Int32).toInt64.toUInt64 &&& Int64.toUInt64 63)).toInt64) &&& (6148914691236517205 : Int64))) &&& (3689348814741910323 : Int64)) + ((((v - (((v.toUInt64 >>> ((1 : Int32).toInt64.toUInt64 &&& Int64.toUInt64 63)).toInt64) &&& (6148914691236517205 : Int64))).toUInt64 >>> ((2 : Int32).toInt64.toUInt64 &&& Int64.toUInt64 63)).toInt64) &&& (3689348814741910323 : Int64))) + (((((v - (((v.toUInt64 >>> ((1 : Int32).toInt64.toUInt64 &&& Int64.toUInt64 63)).toInt64) &&& (6148914691236517205 : Int64))) &&& (3689348814741910323 : Int64)) + ((((v - (((v.toUInt64 >>> ((1 : Int32).toInt64.toUInt64 &&& Int64.toUInt64 63)).toInt64) &&& (6148914691236517205 : Int64))).toUInt64 >>> ((2 : Int32).toInt64.toUInt64 &&& Int64.toUInt64 63)).toInt64) &&& (3689348814741910323 : Int64))).toUInt64 >>> ((4 : Int32).toInt64.toUInt64 &&& Int64.toUInt64 63)).toInt64)) &&& (1085102592571150095 : Int64)).toUInt64 >>> ((8 : Int32).toInt64.toUInt64 &&& Int64.toUInt64 63)).toInt64)) + ((((((((v - (((v.toUInt64 >>> ((1 : Int32).toInt64.toUInt64 &&& Int64.toUInt64 63)).toInt64) &&& (6148914691236517205 : Int64))) &&& (3689348814741910323 : Int64)) + ((((v - (((v.toUInt64 >>> ((1 : Int32).toInt64.toUInt64 &&& Int64.toUInt64 63)).toInt64) &&& (6148914691236517205 : Int64))).toUInt64 >>> ((2 : Int32).toInt64.toUInt64 &&& Int64.toUInt64 63)).toInt64) &&& (3689348814741910323 : Int64))) + (((((v - (((v.toUInt64 >>> ((1 : Int32).toInt64.toUInt64 &&& Int64.toUInt64 63)).toInt64) &&& (6148914691236517205 : Int64))) &&& (3689348814741910323 : Int64)) + ((((v - (((v.toUInt64 >>> ((1 : Int32).toInt64.toUInt64 &&& Int64.toUInt64 63)).toInt64) &&& (6148914691236517205 : Int64))).toUInt64 >>> ((2 : Int32).toInt64.toUInt64 &&& Int64.toUInt64 63)).toInt64) &&& (3689348814741910323 : Int64))).toUInt64 >>> ((4 : Int32).toInt64.toUInt64 &&& Int64.toUInt64 63)).toInt64)) &&& (1085102592571150095 : Int64)) + (((((((v - (((v.toUInt64 >>> ((1 : Int32).toInt64.toUInt64 &&& Int64.toUInt64 63)).toInt64) &&& (6148914691236517205 : Int64))) &&& (3689348814741910323 : Int64)) + ((((v - (((v.toUInt64 >>> ((1 : Int32).toInt64.toUInt64 &&& Int64.toUInt64 63)).toInt64) &&& (6148914691236517205 : Int64))).toUInt64 >>> ((2 : Int32).toInt64.toUInt64 &&& Int64.toUInt64 63)).toInt64) &&& (3689348814741910323 : Int64))) + (((((v - (((v.toUInt64 >>> ((1 : Int32).toInt64.toUInt64 &&& Int64.toUInt64 63)).toInt64) &&& (6148914691236517205 : Int64))) &&& (3689348814741910323 : Int64)) + ((((v - (((v.toUInt64 >>> ((1 : Int32).toInt64.toUInt64 &&& Int64.toUInt64 63)).toInt64) &&& (6148914691236517205 : Int64))).toUInt64 >>> ((2 : Int32).toInt64.toUInt64 &&& Int64.toUInt64 63)).toInt64) &&& (3689348814741910323 : Int64))).toUInt64 >>> ((4 : Int32).toInt64.toUInt64 &&& Int64.toUInt64 63)).toInt64)) &&& (1085102592571150095 : Int64)).toUInt64 >>> ((8 : Int32).toInt64.toUInt64 &&& Int64.toUInt64 63)).toInt64)).toUInt64 >>> ((16 : Int32).toInt64.toUInt64 &&& Int64.toUInt64 63)).toInt64)) + (((((((((v - (((v.toUInt64 >>> ((1 : Int32).toInt64.toUInt64 &&& Int64.toUInt64 63)).toInt64) &&& (6148914691236517205 : Int64))) &&& (3689348814741910323 : Int64)) + ((((v - (((v.toUInt64 >>> ((1 : Int32).toInt64.toUInt64 &&& Int64.toUInt64 63)).toInt64) &&& (6148914691236517205 : Int64))).toUInt64 >>> ((2 : Int32).toInt64.toUInt64 &&& Int64.toUInt64 63)).toInt64) &&& (3689348814741910323 : Int64))) + (((((v - (((v.toUInt64 >>> ((1 : Int32).toInt64.toUInt64 &&& Int64.toUInt64 63)).toInt64) &&& (6148914691236517205 : Int64))) &&& (3689348814741910323 : Int64)) + ((((v - (((v.toUInt64 >>> ((1 : Int32).toInt64.toUInt64 &&& Int64.toUInt64 63)).toInt64) &&& (6148914691236517205 : Int64))).toUInt64 >>> ((2 : Int32).toInt64.toUInt64 &&& Int64.toUInt64 63)).toInt64) &&& (3689348814741910323 : Int64))).toUInt64 >>> ((4 : Int32).toInt64.toUInt64 &&& Int64.toUInt64 63)).toInt64)) &&& (1085102592571150095 : Int64)) + (((((((v - (((v.toUInt64 >>> ((1 : Int32).toInt64.toUInt64 &&& Int64.toUInt64 63)).toInt64) &&& (6148914691236517205 : Int64))) &&& (3689348814741910323 : Int64)) + ((((v - (((v.toUInt64 >>> ((1 : Int32).toInt64.toUInt64 &&& Int64.toUInt64 63)).toInt64) &&& (6148914691236517205 : Int64))).toUInt64 >>> ((2 : Int32).toInt64.toUInt64 &&& Int64.toUInt64 63)).toInt64) &&& (3689348814741910323 : Int64))) + (((((v - (((v.toUInt64 >>> ((1 : Int32).toInt64.toUInt64 &&& Int64.toUInt64 63)).toInt64) &&& (6148914691236517205 : Int64))) &&& (3689348814741910323 : Int64)) + ((((v - (((v.toUInt64 >>> ((1 : Int32).toInt64.toUInt64 &&& Int64.toUInt64 63)).toInt64) &&& (6148914691236517205 : Int64))).toUInt64 >>> ((2 : Int32).toInt64.toUInt64 &&& Int64.toUInt64 63)).toInt64) &&& (3689348814741910323 : Int64))).toUInt64 >>> ((4 : Int32).toInt64.toUInt64 &&& Int64.toUInt64 63)).toInt64)) &&& (1085102592571150095 : Int64)).toUInt64 >>> ((8 : Int32).toInt64.toUInt64 &&& Int64.toUInt64 63)).toInt64)) + ((((((((v - (((v.toUInt64 >>> ((1 : Int32).toInt64.toUInt64 &&& Int64.toUInt64 63)).toInt64) &&& (6148914691236517205 : Int64))) &&& (3689348814741910323 : Int64)) + ((((v - (((v.toUInt64 >>> ((1 : Int32).toInt64.toUInt64 &&& Int64.toUInt64 63)).toInt64) &&& (6148914691236517205 : Int64))).toUInt64 >>> ((2 : Int32).toInt64.toUInt64 &&& Int64.toUInt64 63)).toInt64) &&& (3689348814741910323 : Int64))) + (((((v - (((v.toUInt64 >>> ((1 : Int32).toInt64.toUInt64 &&& Int64.toUInt64 63)).toInt64) &&& (6148914691236517205 : Int64))) &&& (3689348814741910323 : Int64)) + ((((v - (((v.toUInt64 >>> ((1 : Int32).toInt64.toUInt64 &&& Int64.toUInt64 63)).toInt64) &&& (6148914691236517205 : Int64))).toUInt64 >>> ((2 : Int32).toInt64.toUInt64 &&& Int64.toUInt64 63)).toInt64) &&& (3689348814741910323 : Int64))).toUInt64 >>> ((4 : Int32).toInt64.toUInt64 &&& Int64.toUInt64 63)).toInt64)) &&& (1085102592571150095 : Int64)) + (((((((v - (((v.toUInt64 >>> ((1 : Int32).toInt64.toUInt64 &&& Int64.toUInt64 63)).toInt64) &&& (6148914691236517205 : Int64))) &&& (3689348814741910323 : Int64)) + ((((v - (((v.toUInt64 >>> ((1 : Int32).toInt64.toUInt64 &&& Int64.toUInt64 63)).toInt64) &&& (6148914691236517205 : Int64))).toUInt64 >>> ((2 : Int32).toInt64.toUInt64 &&& Int64.toUInt64 63)).toInt64) &&& (3689348814741910323 : Int64))) + (((((v - (((v.toUInt64 >>> ((1 : Int32).toInt64.toUInt64 &&& Int64.toUInt64 63)).toInt64) &&& (6148914691236517205 : Int64))) &&& (3689348814741910323 : Int64)) + ((((v - (((v.toUInt64 >>> ((1 : Int32).toInt64.toUInt64 &&& Int64.toUInt64 63)).toInt64) &&& (6148914691236517205 : Int64))).toUInt64 >>> ((2 : Int32).toInt64.toUInt64 &&& Int64.toUInt64 63)).toInt64) &&& (3689348814741910323 : Int64))).toUInt64 >>> ((4 : Int32).toInt64.toUInt64 &&& Int64.toUInt64 63)).toInt64)) &&& (1085102592571150095 : Int64)).toUInt64 >>> ((8 : Int32).toInt64.toUInt64 &&& Int64.toUInt64 63)).toInt64)).toUInt64 >>> ((16 : Int32).toInt64.toUInt64 &&& Int64.toUInt64 63)).toInt64)).toUInt64 >>> ((32 : Int32).toInt64.toUInt64 &&& Int64.toUInt64 63)).toInt64)).toInt32) (m := 127) 7 (by decide)
  replace hj_1 : j_1 < 128 := hj_1
  refine cf_i (nI j_1) ej_1 ?_
  exact ret_i hx hb hr hlk hS (Nat.le_of_ble_eq_true rfl) (Nat.le_of_ble_eq_true rfl) (j_1) (⟨rfl, (by omega)⟩) (hP.sub [] rfl) (hD.sub [] (by decide) rfl) dJ13_bitCount_95d88_60

set_option maxHeartbeats 4000000 in
set_option maxRecDepth 100000 in
theorem k_X3_later (l : Launch) (D : va_G) (cs : Nat → ClassId) (sz : Nat) (a1 : Int32) (a2 : Int32) (a3 : Int32) (a4 : Int32)  : Mi l D cs yX3_later W_X3_later 0 0 0 0 [.int a1, .int a2, .int a3, .int a4] [] sz (fun (r : Int32) (u : Unit) => True) (fun (u : Unit) => []) := by
  refine ent (D := D) (cs := cs) (y := yX3_later) (ws := W_X3_later) (As := [.int a1, .int a2, .int a3, .int a4]) (W0 := []) (Qx := fun A => va_Qi (fun (r : Int32) (u : Unit) => True) (mpost D A (fun (u : Unit) => [])) A) (maxL := 4) (ret := (some .int)) (by decide) rfl (Nat.le_of_ble_eq_true rfl) ?_
  intro p e s m below meth c A ls hx hb hr hml hlk hown hts hin hK hE hP hD hA hS hl
  have hl : lv_has ls 4 [(0, .int a1), (1, .int a2), (2, .int a3), (3, .int a4)] := hl
  generalize hHe : s.heap = H at hP
  have hS : va_S A s.heap H [] := hHe ▸ hS
  generalize hLe : ([] : List Loc) = locs at hS ⊢
  have htw : ∀ w ∈ O_X3_later, w.before ([.int a1, .int a2, .int a3, .int a4] : List Value).toArray s = true := fun w h => hts w (List.mem_cons_of_mem _ h)
  have hFix := (⟨hx, hb, hml, hown, hts⟩ : CallFix p m c _ _ s _ _ _)
  refine lv_iload_n hx hb dX3_later_0 rfl (lv_at hl 2 rfl) ?_
  refine lv_iload_n hx hb dX3_later_1 rfl (lv_at hl 1 rfl) ?_
  refine lv_icmp_ne (tgt := 7) hx hb dX3_later_2 (by decide) (fun c_1 => ?_) (fun c_1 => ?_)
  ·
    refine lv_iload_n hx hb dX3_later_7 rfl (lv_at hl 3 rfl) ?_
    refine lv_iload_n hx hb dX3_later_8 rfl (lv_at hl 1 rfl) ?_
    refine lv_icmp_ne (tgt := 14) hx hb dX3_later_9 (by decide) (fun c_2 => ?_) (fun c_2 => ?_)
    ·
      refine lv_iload_n hx hb dX3_later_14 rfl (lv_at hl 0 rfl) ?_
      refine lv_topi (fun y_3 ey_3 => ?_)
      by_cases hs_3_0 : y_3 = 0
      ·
        subst hs_3_0
        refine lv_tableIn (off := 25) (tgt := 40) hx hb dX3_later_15 (by decide) (by decide) (by decide) (by decide) ?_
        refine lv_iload_n hx hb dX3_later_40 rfl (lv_at hl 2 rfl) ?_
        exact ret_i hx hb hr hlk hS (Nat.le_of_ble_eq_true rfl) (Nat.le_of_ble_eq_true rfl) () (trivial) (hP.sub [] rfl) (hD.sub [] (by decide) rfl) dX3_later_41
      ·
        by_cases hs_3_1 : y_3 = 1
        ·
          subst hs_3_1
          refine lv_tableIn (off := 27) (tgt := 42) hx hb dX3_later_15 (by decide) (by decide) (by decide) (by decide) ?_
          refine lv_iload_n hx hb dX3_later_42 rfl (lv_at hl 3 rfl) ?_
          exact ret_i hx hb hr hlk hS (Nat.le_of_ble_eq_true rfl) (Nat.le_of_ble_eq_true rfl) () (trivial) (hP.sub [] rfl) (hD.sub [] (by decide) rfl) dX3_later_43
        ·
          by_cases hs_3_2 : y_3 = 2
          ·
            subst hs_3_2
            refine lv_tableIn (off := 29) (tgt := 44) hx hb dX3_later_15 (by decide) (by decide) (by decide) (by decide) ?_
            refine lv_iload_n hx hb dX3_later_44 rfl (lv_at hl 2 rfl) ?_
            refine lv_iload_n hx hb dX3_later_45 rfl (lv_at hl 3 rfl) ?_
            refine lv_icmp_le (tgt := 53) hx hb dX3_later_46 (by decide) (fun c_4 => ?_) (fun c_4 => ?_)
            ·
              refine lv_iload_n hx hb dX3_later_53 rfl (lv_at hl 3 rfl) ?_
              exact ret_i hx hb hr hlk hS (Nat.le_of_ble_eq_true rfl) (Nat.le_of_ble_eq_true rfl) () (trivial) (hP.sub [] rfl) (hD.sub [] (by decide) rfl) dX3_later_54
            ·
              refine lv_iload_n hx hb dX3_later_49 rfl (lv_at hl 2 rfl) ?_
              refine lv_goto (tgt := 54) hx hb dX3_later_50 (by decide) ?_
              exact ret_i hx hb hr hlk hS (Nat.le_of_ble_eq_true rfl) (Nat.le_of_ble_eq_true rfl) () (trivial) (hP.sub [] rfl) (hD.sub [] (by decide) rfl) dX3_later_54
          ·
            have fhs_3_0 : ¬ y_3.toInt = 0 := fun e9 => hs_3_0 (i32_toInt_inj (y := 0) (e9.trans (by decide)))
            have fhs_3_1 : ¬ y_3.toInt = 1 := fun e9 => hs_3_1 (i32_toInt_inj (y := 1) (e9.trans (by decide)))
            have fhs_3_2 : ¬ y_3.toInt = 2 := fun e9 => hs_3_2 (i32_toInt_inj (y := 2) (e9.trans (by decide)))
            refine lv_tableOut (tgt := 55) hx hb dX3_later_15 (by omega) (by decide) ?_
            refine lv_iload_n hx hb dX3_later_55 rfl (lv_at hl 1 rfl) ?_
            exact ret_i hx hb hr hlk hS (Nat.le_of_ble_eq_true rfl) (Nat.le_of_ble_eq_true rfl) () (trivial) (hP.sub [] rfl) (hD.sub [] (by decide) rfl) dX3_later_56
    ·
      refine lv_iload_n hx hb dX3_later_12 rfl (lv_at hl 2 rfl) ?_
      exact ret_i hx hb hr hlk hS (Nat.le_of_ble_eq_true rfl) (Nat.le_of_ble_eq_true rfl) () (trivial) (hP.sub [] rfl) (hD.sub [] (by decide) rfl) dX3_later_13
  ·
    refine lv_iload_n hx hb dX3_later_5 rfl (lv_at hl 3 rfl) ?_
    exact ret_i hx hb hr hlk hS (Nat.le_of_ble_eq_true rfl) (Nat.le_of_ble_eq_true rfl) () (trivial) (hP.sub [] rfl) (hD.sub [] (by decide) rfl) dX3_later_6

set_option maxHeartbeats 4000000 in
set_option maxRecDepth 100000 in
theorem k_X3_mix (l : Launch) (D : va_G) (cs : Nat → ClassId) (sz : Nat) (a1 : Int32) (a2 : Int32) (a3 : Int32) (a4 : Int32) (a5 : Int32) (a6 : Int32)  : Mi l D cs yX3_mix W_X3_mix 1 23 0 0 [.int a1, .int a2, .int a3, .int a4, .int a5, .int a6] [] sz (fun (r : Int32) (u : Unit) => True) (fun (u : Unit) => []) := by
  refine ent (D := D) (cs := cs) (y := yX3_mix) (ws := W_X3_mix) (As := [.int a1, .int a2, .int a3, .int a4, .int a5, .int a6]) (W0 := []) (Qx := fun A => va_Qi (fun (r : Int32) (u : Unit) => True) (mpost D A (fun (u : Unit) => [])) A) (maxL := 6) (ret := (some .int)) (by decide) rfl (Nat.le_of_ble_eq_true rfl) ?_
  intro p e s m below meth c A ls hx hb hr hml hlk hown hts hin hK hE hP hD hA hS hl
  have hl : lv_has ls 6 [(0, .int a1), (1, .int a2), (2, .int a3), (3, .int a4), (4, .int a5), (5, .int a6)] := hl
  generalize hHe : s.heap = H at hP
  have hS : va_S A s.heap H [] := hHe ▸ hS
  generalize hLe : ([] : List Loc) = locs at hS ⊢
  have htw : ∀ w ∈ O_X3_mix, w.before ([.int a1, .int a2, .int a3, .int a4, .int a5, .int a6] : List Value).toArray s = true := fun w h => hts w (List.mem_cons_of_mem _ (List.mem_append_left _ h))
  have hFix := (⟨hx, hb, hml, hown, hts⟩ : CallFix p m c _ _ s _ _ _)
  refine lv_iload_n hx hb dX3_mix_0 rfl (lv_at hl 0 rfl) ?_
  refine lv_topi (fun y_1 ey_1 => ?_)
  by_cases hs_1_0 : y_1 = 0
  ·
    subst hs_1_0
    refine lv_tableIn (off := 27) (tgt := 28) hx hb dX3_mix_1 (by decide) (by decide) (by decide) (by decide) ?_
    refine lv_iload hx hb dX3_mix_28 (lv_at hl 4 rfl) ?_
    refine lv_iload hx hb dX3_mix_30 (lv_at hl 5 rfl) ?_
    refine va_mmax hx hb (hml.trans hl.1.symm) hown (htw (.methodLink RX3 40 Lib.Math.max.name) (List.mem_of_getElem? (i := 0) rfl)) (htw (.static Lib.Math.max.name) (List.mem_of_getElem? (i := 1) rfl)) (htw (.initialized "java/lang/Math") (List.mem_of_getElem? (i := 2) rfl)) (htw (.code Lib.Math.max.name Lib.Math.max.code 2 (some .int)) (List.mem_of_getElem? (i := 3) rfl)) (Nat.le_of_ble_eq_true rfl) (Nat.le_of_ble_eq_true rfl) (Nat.le_of_ble_eq_true rfl) (Nat.le_of_ble_eq_true rfl) dX3_mix_32 ?_
    exact ret_i hx hb hr hlk hS (Nat.le_of_ble_eq_true rfl) (Nat.le_of_ble_eq_true rfl) () (trivial) (hP.sub [] rfl) (hD.sub [] (by decide) rfl) dX3_mix_35
  ·
    by_cases hs_1_1 : y_1 = 1
    ·
      subst hs_1_1
      refine lv_tableIn (off := 35) (tgt := 36) hx hb dX3_mix_1 (by decide) (by decide) (by decide) (by decide) ?_
      refine lv_iload hx hb dX3_mix_36 (lv_at hl 4 rfl) ?_
      refine lv_iload hx hb dX3_mix_38 (lv_at hl 5 rfl) ?_
      refine va_mmin hx hb (hml.trans hl.1.symm) hown (htw (.methodLink RX3 46 Lib.Math.min.name) (List.mem_of_getElem? (i := 4) rfl)) (htw (.static Lib.Math.min.name) (List.mem_of_getElem? (i := 5) rfl)) (htw (.initialized "java/lang/Math") (List.mem_of_getElem? (i := 2) rfl)) (htw (.code Lib.Math.min.name Lib.Math.min.code 2 (some .int)) (List.mem_of_getElem? (i := 6) rfl)) (Nat.le_of_ble_eq_true rfl) (Nat.le_of_ble_eq_true rfl) (Nat.le_of_ble_eq_true rfl) (Nat.le_of_ble_eq_true rfl) dX3_mix_40 ?_
      exact ret_i hx hb hr hlk hS (Nat.le_of_ble_eq_true rfl) (Nat.le_of_ble_eq_true rfl) () (trivial) (hP.sub [] rfl) (hD.sub [] (by decide) rfl) dX3_mix_43
    ·
      by_cases hs_1_2 : y_1 = 2
      ·
        subst hs_1_2
        refine lv_tableIn (off := 43) (tgt := 44) hx hb dX3_mix_1 (by decide) (by decide) (by decide) (by decide) ?_
        refine lv_iconst (v := 0) hx hb dX3_mix_44 (by decide) ?_
        refine lv_iload_n hx hb dX3_mix_45 rfl (lv_at hl 2 rfl) ?_
        refine lv_iload hx hb dX3_mix_46 (lv_at hl 4 rfl) ?_
        refine lv_iload hx hb dX3_mix_48 (lv_at hl 5 rfl) ?_
        refine lv_iadd hx hb dX3_mix_50 ?_
        refine lv_iload_n hx hb dX3_mix_51 rfl (lv_at hl 3 rfl) ?_
        refine lv_isub hx hb dX3_mix_52 ?_
        refine va_mmin hx hb (hml.trans hl.1.symm) hown (htw (.methodLink RX3 46 Lib.Math.min.name) (List.mem_of_getElem? (i := 4) rfl)) (htw (.static Lib.Math.min.name) (List.mem_of_getElem? (i := 5) rfl)) (htw (.initialized "java/lang/Math") (List.mem_of_getElem? (i := 2) rfl)) (htw (.code Lib.Math.min.name Lib.Math.min.code 2 (some .int)) (List.mem_of_getElem? (i := 6) rfl)) (Nat.le_of_ble_eq_true rfl) (Nat.le_of_ble_eq_true rfl) (Nat.le_of_ble_eq_true rfl) (Nat.le_of_ble_eq_true rfl) dX3_mix_53 ?_
        refine va_mmax hx hb (hml.trans hl.1.symm) hown (htw (.methodLink RX3 40 Lib.Math.max.name) (List.mem_of_getElem? (i := 0) rfl)) (htw (.static Lib.Math.max.name) (List.mem_of_getElem? (i := 1) rfl)) (htw (.initialized "java/lang/Math") (List.mem_of_getElem? (i := 2) rfl)) (htw (.code Lib.Math.max.name Lib.Math.max.code 2 (some .int)) (List.mem_of_getElem? (i := 3) rfl)) (Nat.le_of_ble_eq_true rfl) (Nat.le_of_ble_eq_true rfl) (Nat.le_of_ble_eq_true rfl) (Nat.le_of_ble_eq_true rfl) dX3_mix_56 ?_
        exact ret_i hx hb hr hlk hS (Nat.le_of_ble_eq_true rfl) (Nat.le_of_ble_eq_true rfl) () (trivial) (hP.sub [] rfl) (hD.sub [] (by decide) rfl) dX3_mix_59
      ·
        have fhs_1_0 : ¬ y_1.toInt = 0 := fun e9 => hs_1_0 (i32_toInt_inj (y := 0) (e9.trans (by decide)))
        have fhs_1_1 : ¬ y_1.toInt = 1 := fun e9 => hs_1_1 (i32_toInt_inj (y := 1) (e9.trans (by decide)))
        have fhs_1_2 : ¬ y_1.toInt = 2 := fun e9 => hs_1_2 (i32_toInt_inj (y := 2) (e9.trans (by decide)))
        refine lv_tableOut (tgt := 60) hx hb dX3_mix_1 (by omega) (by decide) ?_
        refine lv_iload_n hx hb dX3_mix_60 rfl (lv_at hl 1 rfl) ?_
        refine lv_iload_n hx hb dX3_mix_61 rfl (lv_at hl 3 rfl) ?_
        refine lv_iload hx hb dX3_mix_62 (lv_at hl 4 rfl) ?_
        refine lv_iload hx hb dX3_mix_64 (lv_at hl 5 rfl) ?_
        refine aft_i (wr := []) hP hD hS hA [] [] rfl rfl (by decide) (by decide) (run_s (As := [.int a2, .int a4, .int a5, .int a6]) (rest := []) hFix hK hE hP hD [] (k_X3_later l D cs _ a2 a4 a5 a6) (va_cwS 4 hts gc_X3_mix_49_X3_later rfl rfl rfl (by decide +kernel) ⟨Nat.le_of_ble_eq_true rfl, Nat.le_of_ble_eq_true rfl⟩) rfl (by decide) rfl hl.1 rfl (Nat.le_of_ble_eq_true rfl) dX3_mix_66 ⟨Nat.le_of_ble_eq_true rfl, Nat.le_of_ble_eq_true rfl⟩) (fun r_2 u_2 H locs hq_2 hP hD hS => ?_)
        exact ret_i hx hb hr hlk hS (Nat.le_of_ble_eq_true rfl) (Nat.le_of_ble_eq_true rfl) () (trivial) (hP.sub [] rfl) (hD.sub [] (by decide) rfl) dX3_mix_69

set_option maxHeartbeats 4000000 in
set_option maxRecDepth 100000 in
theorem k_X3_fillCell (l : Launch) (D : va_G) (cs : Nat → ClassId) (sz : Nat) (jm : Nat) (aS : Nat) (ce : Int32) (ki : Int32) (la : Int32) (jx : Nat) (fx : Nat → Int32) (sw : Int64) (s1 : Nat) (s2 : Nat) (s3 : Nat) (s4 : Nat) (fp : Nat → Int32) (zs : Nat) (sc : Nat) (st : Nat) (hzs : zs ≤ 64) (hsc : sc ≤ 3) (hst : st ≤ 3) : Mv l D cs yX3_fillCell W_X3_fillCell 2 48 0 0 [.ref jm, .ref aS, .int ce, .int ki, .int la] [(jm, .inr (3, [.ref jx])), (jx, .inl (cs 1, 192, .inl fx)), (aS, .inr (6, [.int (nI zs), .int (nI sc), .int (nI st), .long sw, .ref s1, .ref s2, .ref s3, .ref s4])), (s1, .inl (cs 1, 3, .inl fp))] sz (fun (u : (Nat → Int32)) => True) (fun (u : (Nat → Int32)) => [(jm, .inr (3, [.ref jx])), (jx, .inl (cs 1, 192, .inl u)), (aS, .inr (6, [.int (nI zs), .int (nI sc), .int (nI st), .long sw, .ref s1, .ref s2, .ref s3, .ref s4])), (s1, .inl (cs 1, 3, .inl fp))]) := by
  refine ent (D := D) (cs := cs) (y := yX3_fillCell) (ws := W_X3_fillCell) (As := [.ref jm, .ref aS, .int ce, .int ki, .int la]) (W0 := [(jm, .inr (3, [.ref jx])), (jx, .inl (cs 1, 192, .inl fx)), (aS, .inr (6, [.int (nI zs), .int (nI sc), .int (nI st), .long sw, .ref s1, .ref s2, .ref s3, .ref s4])), (s1, .inl (cs 1, 3, .inl fp))]) (Qx := fun A => va_Qv (fun (u : (Nat → Int32)) => True) (mpost D A (fun (u : (Nat → Int32)) => [(jm, .inr (3, [.ref jx])), (jx, .inl (cs 1, 192, .inl u)), (aS, .inr (6, [.int (nI zs), .int (nI sc), .int (nI st), .long sw, .ref s1, .ref s2, .ref s3, .ref s4])), (s1, .inl (cs 1, 3, .inl fp))])) A) (maxL := 7) (ret := none) (by decide) rfl (Nat.le_of_ble_eq_true rfl) ?_
  intro p e s m below meth c A ls hx hb hr hml hlk hown hts hin hK hE hP hD hA hS hl
  have hl : lv_has ls 7 [(0, .ref jm), (1, .ref aS), (2, .int ce), (3, .int ki), (4, .int la)] := hl
  generalize hHe : s.heap = H at hP
  have hS : va_S A s.heap H [] := hHe ▸ hS
  generalize hLe : ([] : List Loc) = locs at hS ⊢
  have htw : ∀ w ∈ O_X3_fillCell, w.before ([.ref jm, .ref aS, .int ce, .int ki, .int la] : List Value).toArray s = true := fun w h => hts w (List.mem_cons_of_mem _ (List.mem_append_left _ h))
  have hFix := (⟨hx, hb, hml, hown, hts⟩ : CallFix p m c _ _ s _ _ _)
  refine lv_iload_n hx hb dX3_fillCell_0 rfl (lv_at hl 2 rfl) ?_
  refine lv_if_lt (tgt := 9) hx hb dX3_fillCell_1 (by decide) (fun c_1 => ?_) (fun c_1 => ?_)
  ·
    exact ret_v hx hb hr hlk hS (Nat.le_of_ble_eq_true rfl) (Nat.le_of_ble_eq_true rfl) (fx) (trivial) (hP.sub [0, 1, 2, 3] rfl) (hD.sub [0, 1, 2, 3] (by decide) rfl) dX3_fillCell_9
  ·
    refine lv_iload_n hx hb dX3_fillCell_4 rfl (lv_at hl 2 rfl) ?_
    refine lv_iconst (v := 3) hx hb dX3_fillCell_5 (by decide) ?_
    refine lv_icmp_lt (tgt := 10) hx hb dX3_fillCell_6 (by decide) (fun c_2 => ?_) (fun c_2 => ?_)
    ·
      rcases one_3 (k := ce) (by have e0 := c_1; have e1 := c_2; (try simp only [ge_iff_le, gt_iff_lt, ne_eq, Int32.lt_iff_toInt_lt, Int32.le_iff_toInt_le, ← Int32.toInt_inj, Int64.lt_iff_toInt_lt, Int64.le_iff_toInt_le, Int32.toInt_toInt64, i0, i1, i2, i3, i4, i7, i8, i9, i60, j0, j1, j2, j3, j7] at e0 e1); omega) with rfl | rfl | rfl
      ·
        refine lv_iconst (v := 0) hx hb dX3_fillCell_10 (by decide) ?_
        refine lv_istore (lv' := [(5, .int 0), (0, .ref jm), (1, .ref aS), (2, .int 0), (3, .int ki), (4, .int la)]) hx hb dX3_fillCell_11 hl (by decide) rfl (fun ls hl => ?_)
        have lp_4 : ∀ (nfu : Nat) (i_3 : Nat) (m0_3 : Nat → Int32) (H : Heap) (locs : List Loc) (ls : Array Slot) (hi_3 : i_3 ≤ 64), 64 - i_3 < nfu → va_P D vwCl [(jm, .inr (3, [.ref jx])), (jx, .inl (cs 1, 192, .inl m0_3)), (aS, .inr (6, [.int (nI zs), .int (nI sc), .int (nI st), .long sw, .ref s1, .ref s2, .ref s3, .ref s4])), (s1, .inl (cs 1, 3, .inl fp))] H → va_D A [(jm, .inr (3, [.ref jx])), (jx, .inl (cs 1, 192, .inl m0_3)), (aS, .inr (6, [.int (nI zs), .int (nI sc), .int (nI st), .long sw, .ref s1, .ref s2, .ref s3, .ref s4])), (s1, .inl (cs 1, 3, .inl fp))] → va_S A s.heap H locs → lv_has ls 7 [(5, .int (nI i_3)), (0, .ref jm), (1, .ref aS), (2, .int 0), (3, .int ki), (4, .int la)] → W p l e (mRm 2 0 0 48) s m ([.ref jm, .ref aS, .int (0 : Int32), .int ki, .int la] : List Value).toArray below meth c H locs 0 0 (MQ below (va_Qv (fun (u : (Nat → Int32)) => True) (mpost D A (fun (u : (Nat → Int32)) => [(jm, .inr (3, [.ref jx])), (jx, .inl (cs 1, 192, .inl u)), (aS, .inr (6, [.int (nI zs), .int (nI sc), .int (nI st), .long sw, .ref s1, .ref s2, .ref s3, .ref s4])), (s1, .inl (cs 1, 3, .inl fp))])) A) ([.ref jm, .ref aS, .int (0 : Int32), .int ki, .int la] : List Value).toArray s 0 0 A) (F0 m 13 ls []) := by
          intro nfu
          induction nfu with
          | zero => intro i_3 m0_3 H locs ls hi_3 hmu; exact absurd hmu (Nat.not_lt_zero _)
          | succ nfu ih =>
            intro i_3 m0_3 H locs ls hi_3 hmu hP hD hS hl
            have ih_lp_4 := @ih
            refine lv_iload hx hb dX3_fillCell_13 (lv_at hl 0 rfl) ?_
            refine lv_bipush (v := 64) hx hb dX3_fillCell_15 (by decide) ?_
            refine lv_icmp_ge (tgt := 73) hx hb dX3_fillCell_17 (by decide) (fun c_5 => ?_) (fun c_5 => ?_)
            ·
              have hn_5 := bge_t (a := i_3) (b := 64) c_5 (by omega) (by omega)
              exact ret_v hx hb hr hlk hS (Nat.le_of_ble_eq_true rfl) (Nat.le_of_ble_eq_true rfl) (m0_3) (trivial) (hP.sub [0, 1, 2, 3] rfl) (hD.sub [0, 1, 2, 3] (by decide) rfl) dX3_fillCell_73
            ·
              have hn_5 := bge_f (a := i_3) (b := 64) c_5 (by omega) (by omega)
              refine lv_iload_n hx hb dX3_fillCell_20 rfl (lv_at hl 4 rfl) ?_
              refine lv_iload hx hb dX3_fillCell_21 (lv_at hl 5 rfl) ?_
              refine lv_aload_n hx hb dX3_fillCell_23 rfl (lv_at hl 2 rfl) ?_
              refine va_get (D := D) (ci := 6) (v := .int (nI st)) (C := RX6) (T := TX6) (N := 8) hx hb hts iuX3_fillCell_X6 hown hK hP 2 rfl rfl 2 (by decide) (htw (.fieldLink RX3 28 "MergeJudge$Space" "top" "I") (List.mem_of_getElem? (i := 0) rfl)) (fun _ h9 => h9) rfl dX3_fillCell_24 ?_
              refine lv_iload hx hb dX3_fillCell_27 (lv_at hl 0 rfl) ?_
              refine lv_iconst (v := 4) hx hb dX3_fillCell_29 (by decide) ?_
              refine lv_ishr hx hb dX3_fillCell_30 ?_
              refine lv_iload hx hb dX3_fillCell_31 (lv_at hl 0 rfl) ?_
              refine lv_iconst (v := 2) hx hb dX3_fillCell_33 (by decide) ?_
              refine lv_ishr hx hb dX3_fillCell_34 ?_
              refine lv_iconst (v := 3) hx hb dX3_fillCell_35 (by decide) ?_
              refine lv_iand hx hb dX3_fillCell_36 ?_
              obtain ⟨j_6, hj_6, ej_6⟩ := pk_andE ((nI i_3) >>> ((2 : Int32) &&& 31)) (m := 3) 2 (by decide)
              replace hj_6 : j_6 < 4 := hj_6
              refine cf_i (nI j_6) ej_6 ?_
              refine lv_iload hx hb dX3_fillCell_37 (lv_at hl 0 rfl) ?_
              refine lv_iconst (v := 3) hx hb dX3_fillCell_39 (by decide) ?_
              refine lv_iand hx hb dX3_fillCell_40 ?_
              obtain ⟨j_7, hj_7, ej_7⟩ := pk_andE (nI i_3) (m := 3) 2 (by decide)
              replace hj_7 : j_7 < 4 := hj_7
              refine cf_i (nI j_7) ej_7 ?_
              refine aft_i (wr := [(jm, .inr (3, [.ref jx])), (jx, .inl (cs 1, 192, .inl m0_3)), (aS, .inr (6, [.int (nI zs), .int (nI sc), .int (nI st), .long sw, .ref s1, .ref s2, .ref s3, .ref s4])), (s1, .inl (cs 1, 3, .inl fp))]) hP hD hS hA [] [0, 1, 2, 3] rfl rfl (by decide) (by decide) (run_s (As := [.int ki, .int la, .int (nI st), .int ((nI i_3) >>> ((4 : Int32) &&& 31)), .int (nI j_6), .int (nI j_7)]) (rest := []) hFix hK hE hP hD [] (k_X3_mix l D cs _ ki la (nI st) ((nI i_3) >>> ((4 : Int32) &&& 31)) (nI j_6) (nI j_7)) (va_cwS 6 hts gc_X3_fillCell_33_X3_mix rfl rfl rfl (by decide +kernel) ⟨Nat.le_of_ble_eq_true rfl, Nat.le_of_ble_eq_true rfl⟩) rfl (by decide) rfl hl.1 rfl (Nat.le_of_ble_eq_true rfl) dX3_fillCell_41 ⟨Nat.le_of_ble_eq_true rfl, Nat.le_of_ble_eq_true rfl⟩) (fun r_8 u_8 H locs hq_8 hP hD hS => ?_)
              have hP : va_P D vwCl [(jm, .inr (3, [.ref jx])), (jx, .inl (cs 1, 192, .inl m0_3)), (aS, .inr (6, [.int (nI zs), .int (nI sc), .int (nI st), .long sw, .ref s1, .ref s2, .ref s3, .ref s4])), (s1, .inl (cs 1, 3, .inl fp))] H := hP
              have hD : va_D A [(jm, .inr (3, [.ref jx])), (jx, .inl (cs 1, 192, .inl m0_3)), (aS, .inr (6, [.int (nI zs), .int (nI sc), .int (nI st), .long sw, .ref s1, .ref s2, .ref s3, .ref s4])), (s1, .inl (cs 1, 3, .inl fp))] := hD
              refine lv_istore (lv' := [(6, .int r_8), (5, .int (nI i_3)), (0, .ref jm), (1, .ref aS), (2, .int 0), (3, .int ki), (4, .int la)]) hx hb dX3_fillCell_44 hl (by decide) rfl (fun ls hl => ?_)
              refine lv_aload_n hx hb dX3_fillCell_46 rfl (lv_at hl 2 rfl) ?_
              refine va_get (D := D) (ci := 3) (v := .ref jx) (C := RX3) (T := TX3) (N := 1) hx hb hts iuX3_fillCell_X3 hown hK hP 0 rfl rfl 0 (by decide) (htw (.fieldLink RX3 9 "MergeJudge$Merger" "mixed" "[I") (List.mem_of_getElem? (i := 4) rfl)) (fun _ h9 => h9) rfl dX3_fillCell_47 ?_
              refine lv_iload_n hx hb dX3_fillCell_50 rfl (lv_at hl 4 rfl) ?_
              refine lv_bipush (v := 64) hx hb dX3_fillCell_51 (by decide) ?_
              refine lv_imul hx hb dX3_fillCell_53 ?_
              refine cf_i 0 (by decide) ?_
              refine lv_iload hx hb dX3_fillCell_54 (lv_at hl 1 rfl) ?_
              refine lv_iadd hx hb dX3_fillCell_56 ?_
              refine cf_i (nI (0 + i_3)) (nI_add 0 i_3) ?_
              refine lv_iload hx hb dX3_fillCell_57 (lv_at hl 0 rfl) ?_
              refine lv_aload_n hx hb dX3_fillCell_59 rfl (lv_at hl 3 rfl) ?_
              refine va_get (D := D) (ci := 6) (v := .ref s1) (C := RX6) (T := TX6) (N := 8) hx hb hts iuX3_fillCell_X6 hown hK hP 2 rfl rfl 4 (by decide) (htw (.fieldLink RX3 37 "MergeJudge$Space" "place" "[I") (List.mem_of_getElem? (i := 5) rfl)) (fun _ h9 => h9) rfl dX3_fillCell_60 ?_
              refine lv_iload_n hx hb dX3_fillCell_63 rfl (lv_at hl 4 rfl) ?_
              refine va_iald hx hb hK hP 3 1 rfl rfl (vp_c (by decide)) dX3_fillCell_64 ?_
              refine cf_v (.int (fp 0)) rfl ?_
              refine lv_imul hx hb dX3_fillCell_65 ?_
              refine va_iast hx hb hK hP hD hS 1 1 rfl rfl (vp_in_nI (by omega) (by omega)) dX3_fillCell_66 (fun H locs hP hD hS => ?_)
              have hP : va_P D vwCl [(jm, .inr (3, [.ref jx])), (jx, .inl (cs 1, 192, .inl (upd m0_3 ((nI (0 + i_3)).toNatClampNeg) (r_8 * (fp 0))))), (aS, .inr (6, [.int (nI zs), .int (nI sc), .int (nI st), .long sw, .ref s1, .ref s2, .ref s3, .ref s4])), (s1, .inl (cs 1, 3, .inl fp))] H := hP
              have hD : va_D A [(jm, .inr (3, [.ref jx])), (jx, .inl (cs 1, 192, .inl (upd m0_3 ((nI (0 + i_3)).toNatClampNeg) (r_8 * (fp 0))))), (aS, .inr (6, [.int (nI zs), .int (nI sc), .int (nI st), .long sw, .ref s1, .ref s2, .ref s3, .ref s4])), (s1, .inl (cs 1, 3, .inl fp))] := hD
              refine lv_iinc (v := (nI (i_3 + 1))) (lv' := [(5, .int (nI (i_3 + 1))), (6, .int r_8), (0, .ref jm), (1, .ref aS), (2, .int 0), (3, .int ki), (4, .int la)]) hx hb dX3_fillCell_67 hl (k := 1) rfl (nI_1 _) (by decide) rfl (fun ls hl => ?_)
              refine lv_goto (tgt := 13) hx hb dX3_fillCell_70 (by decide) ?_
              exact ih_lp_4 (i_3 + 1) (upd m0_3 ((nI (0 + i_3)).toNatClampNeg) (r_8 * (fp 0))) H locs ls (by omega) (by omega) (hP.sub [0, 1, 2, 3] rfl) (hD.sub [0, 1, 2, 3] (by decide) rfl) hS (lv_sub hl [0, 2, 3, 4, 5, 6] rfl)
        exact lp_4 _ 0 fx H locs ls (by omega) (Nat.lt_succ_self _) (hP.sub [0, 1, 2, 3] rfl) (hD.sub [0, 1, 2, 3] (by decide) rfl) hS (lv_sub hl [0, 1, 2, 3, 4, 5] rfl)
      ·
        refine lv_iconst (v := 0) hx hb dX3_fillCell_10 (by decide) ?_
        refine lv_istore (lv' := [(5, .int 0), (0, .ref jm), (1, .ref aS), (2, .int 1), (3, .int ki), (4, .int la)]) hx hb dX3_fillCell_11 hl (by decide) rfl (fun ls hl => ?_)
        have lp_10 : ∀ (nfu : Nat) (i_9 : Nat) (m0_9 : Nat → Int32) (H : Heap) (locs : List Loc) (ls : Array Slot) (hi_9 : i_9 ≤ 64), 64 - i_9 < nfu → va_P D vwCl [(jm, .inr (3, [.ref jx])), (jx, .inl (cs 1, 192, .inl m0_9)), (aS, .inr (6, [.int (nI zs), .int (nI sc), .int (nI st), .long sw, .ref s1, .ref s2, .ref s3, .ref s4])), (s1, .inl (cs 1, 3, .inl fp))] H → va_D A [(jm, .inr (3, [.ref jx])), (jx, .inl (cs 1, 192, .inl m0_9)), (aS, .inr (6, [.int (nI zs), .int (nI sc), .int (nI st), .long sw, .ref s1, .ref s2, .ref s3, .ref s4])), (s1, .inl (cs 1, 3, .inl fp))] → va_S A s.heap H locs → lv_has ls 7 [(5, .int (nI i_9)), (0, .ref jm), (1, .ref aS), (2, .int 1), (3, .int ki), (4, .int la)] → W p l e (mRm 2 0 0 48) s m ([.ref jm, .ref aS, .int (1 : Int32), .int ki, .int la] : List Value).toArray below meth c H locs 0 0 (MQ below (va_Qv (fun (u : (Nat → Int32)) => True) (mpost D A (fun (u : (Nat → Int32)) => [(jm, .inr (3, [.ref jx])), (jx, .inl (cs 1, 192, .inl u)), (aS, .inr (6, [.int (nI zs), .int (nI sc), .int (nI st), .long sw, .ref s1, .ref s2, .ref s3, .ref s4])), (s1, .inl (cs 1, 3, .inl fp))])) A) ([.ref jm, .ref aS, .int (1 : Int32), .int ki, .int la] : List Value).toArray s 0 0 A) (F0 m 13 ls []) := by
          intro nfu
          induction nfu with
          | zero => intro i_9 m0_9 H locs ls hi_9 hmu; exact absurd hmu (Nat.not_lt_zero _)
          | succ nfu ih =>
            intro i_9 m0_9 H locs ls hi_9 hmu hP hD hS hl
            have ih_lp_10 := @ih
            refine lv_iload hx hb dX3_fillCell_13 (lv_at hl 0 rfl) ?_
            refine lv_bipush (v := 64) hx hb dX3_fillCell_15 (by decide) ?_
            refine lv_icmp_ge (tgt := 73) hx hb dX3_fillCell_17 (by decide) (fun c_11 => ?_) (fun c_11 => ?_)
            ·
              have hn_11 := bge_t (a := i_9) (b := 64) c_11 (by omega) (by omega)
              exact ret_v hx hb hr hlk hS (Nat.le_of_ble_eq_true rfl) (Nat.le_of_ble_eq_true rfl) (m0_9) (trivial) (hP.sub [0, 1, 2, 3] rfl) (hD.sub [0, 1, 2, 3] (by decide) rfl) dX3_fillCell_73
            ·
              have hn_11 := bge_f (a := i_9) (b := 64) c_11 (by omega) (by omega)
              refine lv_iload_n hx hb dX3_fillCell_20 rfl (lv_at hl 4 rfl) ?_
              refine lv_iload hx hb dX3_fillCell_21 (lv_at hl 5 rfl) ?_
              refine lv_aload_n hx hb dX3_fillCell_23 rfl (lv_at hl 2 rfl) ?_
              refine va_get (D := D) (ci := 6) (v := .int (nI st)) (C := RX6) (T := TX6) (N := 8) hx hb hts iuX3_fillCell_X6 hown hK hP 2 rfl rfl 2 (by decide) (htw (.fieldLink RX3 28 "MergeJudge$Space" "top" "I") (List.mem_of_getElem? (i := 0) rfl)) (fun _ h9 => h9) rfl dX3_fillCell_24 ?_
              refine lv_iload hx hb dX3_fillCell_27 (lv_at hl 0 rfl) ?_
              refine lv_iconst (v := 4) hx hb dX3_fillCell_29 (by decide) ?_
              refine lv_ishr hx hb dX3_fillCell_30 ?_
              refine lv_iload hx hb dX3_fillCell_31 (lv_at hl 0 rfl) ?_
              refine lv_iconst (v := 2) hx hb dX3_fillCell_33 (by decide) ?_
              refine lv_ishr hx hb dX3_fillCell_34 ?_
              refine lv_iconst (v := 3) hx hb dX3_fillCell_35 (by decide) ?_
              refine lv_iand hx hb dX3_fillCell_36 ?_
              obtain ⟨j_12, hj_12, ej_12⟩ := pk_andE ((nI i_9) >>> ((2 : Int32) &&& 31)) (m := 3) 2 (by decide)
              replace hj_12 : j_12 < 4 := hj_12
              refine cf_i (nI j_12) ej_12 ?_
              refine lv_iload hx hb dX3_fillCell_37 (lv_at hl 0 rfl) ?_
              refine lv_iconst (v := 3) hx hb dX3_fillCell_39 (by decide) ?_
              refine lv_iand hx hb dX3_fillCell_40 ?_
              obtain ⟨j_13, hj_13, ej_13⟩ := pk_andE (nI i_9) (m := 3) 2 (by decide)
              replace hj_13 : j_13 < 4 := hj_13
              refine cf_i (nI j_13) ej_13 ?_
              refine aft_i (wr := [(jm, .inr (3, [.ref jx])), (jx, .inl (cs 1, 192, .inl m0_9)), (aS, .inr (6, [.int (nI zs), .int (nI sc), .int (nI st), .long sw, .ref s1, .ref s2, .ref s3, .ref s4])), (s1, .inl (cs 1, 3, .inl fp))]) hP hD hS hA [] [0, 1, 2, 3] rfl rfl (by decide) (by decide) (run_s (As := [.int ki, .int la, .int (nI st), .int ((nI i_9) >>> ((4 : Int32) &&& 31)), .int (nI j_12), .int (nI j_13)]) (rest := []) hFix hK hE hP hD [] (k_X3_mix l D cs _ ki la (nI st) ((nI i_9) >>> ((4 : Int32) &&& 31)) (nI j_12) (nI j_13)) (va_cwS 6 hts gc_X3_fillCell_33_X3_mix rfl rfl rfl (by decide +kernel) ⟨Nat.le_of_ble_eq_true rfl, Nat.le_of_ble_eq_true rfl⟩) rfl (by decide) rfl hl.1 rfl (Nat.le_of_ble_eq_true rfl) dX3_fillCell_41 ⟨Nat.le_of_ble_eq_true rfl, Nat.le_of_ble_eq_true rfl⟩) (fun r_14 u_14 H locs hq_14 hP hD hS => ?_)
              have hP : va_P D vwCl [(jm, .inr (3, [.ref jx])), (jx, .inl (cs 1, 192, .inl m0_9)), (aS, .inr (6, [.int (nI zs), .int (nI sc), .int (nI st), .long sw, .ref s1, .ref s2, .ref s3, .ref s4])), (s1, .inl (cs 1, 3, .inl fp))] H := hP
              have hD : va_D A [(jm, .inr (3, [.ref jx])), (jx, .inl (cs 1, 192, .inl m0_9)), (aS, .inr (6, [.int (nI zs), .int (nI sc), .int (nI st), .long sw, .ref s1, .ref s2, .ref s3, .ref s4])), (s1, .inl (cs 1, 3, .inl fp))] := hD
              refine lv_istore (lv' := [(6, .int r_14), (5, .int (nI i_9)), (0, .ref jm), (1, .ref aS), (2, .int 1), (3, .int ki), (4, .int la)]) hx hb dX3_fillCell_44 hl (by decide) rfl (fun ls hl => ?_)
              refine lv_aload_n hx hb dX3_fillCell_46 rfl (lv_at hl 2 rfl) ?_
              refine va_get (D := D) (ci := 3) (v := .ref jx) (C := RX3) (T := TX3) (N := 1) hx hb hts iuX3_fillCell_X3 hown hK hP 0 rfl rfl 0 (by decide) (htw (.fieldLink RX3 9 "MergeJudge$Merger" "mixed" "[I") (List.mem_of_getElem? (i := 4) rfl)) (fun _ h9 => h9) rfl dX3_fillCell_47 ?_
              refine lv_iload_n hx hb dX3_fillCell_50 rfl (lv_at hl 4 rfl) ?_
              refine lv_bipush (v := 64) hx hb dX3_fillCell_51 (by decide) ?_
              refine lv_imul hx hb dX3_fillCell_53 ?_
              refine cf_i 64 (by decide) ?_
              refine lv_iload hx hb dX3_fillCell_54 (lv_at hl 1 rfl) ?_
              refine lv_iadd hx hb dX3_fillCell_56 ?_
              refine cf_i (nI (64 + i_9)) (nI_add 64 i_9) ?_
              refine lv_iload hx hb dX3_fillCell_57 (lv_at hl 0 rfl) ?_
              refine lv_aload_n hx hb dX3_fillCell_59 rfl (lv_at hl 3 rfl) ?_
              refine va_get (D := D) (ci := 6) (v := .ref s1) (C := RX6) (T := TX6) (N := 8) hx hb hts iuX3_fillCell_X6 hown hK hP 2 rfl rfl 4 (by decide) (htw (.fieldLink RX3 37 "MergeJudge$Space" "place" "[I") (List.mem_of_getElem? (i := 5) rfl)) (fun _ h9 => h9) rfl dX3_fillCell_60 ?_
              refine lv_iload_n hx hb dX3_fillCell_63 rfl (lv_at hl 4 rfl) ?_
              refine va_iald hx hb hK hP 3 1 rfl rfl (vp_c (by decide)) dX3_fillCell_64 ?_
              refine cf_v (.int (fp 1)) rfl ?_
              refine lv_imul hx hb dX3_fillCell_65 ?_
              refine va_iast hx hb hK hP hD hS 1 1 rfl rfl (vp_in_nI (by omega) (by omega)) dX3_fillCell_66 (fun H locs hP hD hS => ?_)
              have hP : va_P D vwCl [(jm, .inr (3, [.ref jx])), (jx, .inl (cs 1, 192, .inl (upd m0_9 ((nI (64 + i_9)).toNatClampNeg) (r_14 * (fp 1))))), (aS, .inr (6, [.int (nI zs), .int (nI sc), .int (nI st), .long sw, .ref s1, .ref s2, .ref s3, .ref s4])), (s1, .inl (cs 1, 3, .inl fp))] H := hP
              have hD : va_D A [(jm, .inr (3, [.ref jx])), (jx, .inl (cs 1, 192, .inl (upd m0_9 ((nI (64 + i_9)).toNatClampNeg) (r_14 * (fp 1))))), (aS, .inr (6, [.int (nI zs), .int (nI sc), .int (nI st), .long sw, .ref s1, .ref s2, .ref s3, .ref s4])), (s1, .inl (cs 1, 3, .inl fp))] := hD
              refine lv_iinc (v := (nI (i_9 + 1))) (lv' := [(5, .int (nI (i_9 + 1))), (6, .int r_14), (0, .ref jm), (1, .ref aS), (2, .int 1), (3, .int ki), (4, .int la)]) hx hb dX3_fillCell_67 hl (k := 1) rfl (nI_1 _) (by decide) rfl (fun ls hl => ?_)
              refine lv_goto (tgt := 13) hx hb dX3_fillCell_70 (by decide) ?_
              exact ih_lp_10 (i_9 + 1) (upd m0_9 ((nI (64 + i_9)).toNatClampNeg) (r_14 * (fp 1))) H locs ls (by omega) (by omega) (hP.sub [0, 1, 2, 3] rfl) (hD.sub [0, 1, 2, 3] (by decide) rfl) hS (lv_sub hl [0, 2, 3, 4, 5, 6] rfl)
        exact lp_10 _ 0 fx H locs ls (by omega) (Nat.lt_succ_self _) (hP.sub [0, 1, 2, 3] rfl) (hD.sub [0, 1, 2, 3] (by decide) rfl) hS (lv_sub hl [0, 1, 2, 3, 4, 5] rfl)
      ·
        refine lv_iconst (v := 0) hx hb dX3_fillCell_10 (by decide) ?_
        refine lv_istore (lv' := [(5, .int 0), (0, .ref jm), (1, .ref aS), (2, .int 2), (3, .int ki), (4, .int la)]) hx hb dX3_fillCell_11 hl (by decide) rfl (fun ls hl => ?_)
        have lp_16 : ∀ (nfu : Nat) (i_15 : Nat) (m0_15 : Nat → Int32) (H : Heap) (locs : List Loc) (ls : Array Slot) (hi_15 : i_15 ≤ 64), 64 - i_15 < nfu → va_P D vwCl [(jm, .inr (3, [.ref jx])), (jx, .inl (cs 1, 192, .inl m0_15)), (aS, .inr (6, [.int (nI zs), .int (nI sc), .int (nI st), .long sw, .ref s1, .ref s2, .ref s3, .ref s4])), (s1, .inl (cs 1, 3, .inl fp))] H → va_D A [(jm, .inr (3, [.ref jx])), (jx, .inl (cs 1, 192, .inl m0_15)), (aS, .inr (6, [.int (nI zs), .int (nI sc), .int (nI st), .long sw, .ref s1, .ref s2, .ref s3, .ref s4])), (s1, .inl (cs 1, 3, .inl fp))] → va_S A s.heap H locs → lv_has ls 7 [(5, .int (nI i_15)), (0, .ref jm), (1, .ref aS), (2, .int 2), (3, .int ki), (4, .int la)] → W p l e (mRm 2 0 0 48) s m ([.ref jm, .ref aS, .int (2 : Int32), .int ki, .int la] : List Value).toArray below meth c H locs 0 0 (MQ below (va_Qv (fun (u : (Nat → Int32)) => True) (mpost D A (fun (u : (Nat → Int32)) => [(jm, .inr (3, [.ref jx])), (jx, .inl (cs 1, 192, .inl u)), (aS, .inr (6, [.int (nI zs), .int (nI sc), .int (nI st), .long sw, .ref s1, .ref s2, .ref s3, .ref s4])), (s1, .inl (cs 1, 3, .inl fp))])) A) ([.ref jm, .ref aS, .int (2 : Int32), .int ki, .int la] : List Value).toArray s 0 0 A) (F0 m 13 ls []) := by
          intro nfu
          induction nfu with
          | zero => intro i_15 m0_15 H locs ls hi_15 hmu; exact absurd hmu (Nat.not_lt_zero _)
          | succ nfu ih =>
            intro i_15 m0_15 H locs ls hi_15 hmu hP hD hS hl
            have ih_lp_16 := @ih
            refine lv_iload hx hb dX3_fillCell_13 (lv_at hl 0 rfl) ?_
            refine lv_bipush (v := 64) hx hb dX3_fillCell_15 (by decide) ?_
            refine lv_icmp_ge (tgt := 73) hx hb dX3_fillCell_17 (by decide) (fun c_17 => ?_) (fun c_17 => ?_)
            ·
              have hn_17 := bge_t (a := i_15) (b := 64) c_17 (by omega) (by omega)
              exact ret_v hx hb hr hlk hS (Nat.le_of_ble_eq_true rfl) (Nat.le_of_ble_eq_true rfl) (m0_15) (trivial) (hP.sub [0, 1, 2, 3] rfl) (hD.sub [0, 1, 2, 3] (by decide) rfl) dX3_fillCell_73
            ·
              have hn_17 := bge_f (a := i_15) (b := 64) c_17 (by omega) (by omega)
              refine lv_iload_n hx hb dX3_fillCell_20 rfl (lv_at hl 4 rfl) ?_
              refine lv_iload hx hb dX3_fillCell_21 (lv_at hl 5 rfl) ?_
              refine lv_aload_n hx hb dX3_fillCell_23 rfl (lv_at hl 2 rfl) ?_
              refine va_get (D := D) (ci := 6) (v := .int (nI st)) (C := RX6) (T := TX6) (N := 8) hx hb hts iuX3_fillCell_X6 hown hK hP 2 rfl rfl 2 (by decide) (htw (.fieldLink RX3 28 "MergeJudge$Space" "top" "I") (List.mem_of_getElem? (i := 0) rfl)) (fun _ h9 => h9) rfl dX3_fillCell_24 ?_
              refine lv_iload hx hb dX3_fillCell_27 (lv_at hl 0 rfl) ?_
              refine lv_iconst (v := 4) hx hb dX3_fillCell_29 (by decide) ?_
              refine lv_ishr hx hb dX3_fillCell_30 ?_
              refine lv_iload hx hb dX3_fillCell_31 (lv_at hl 0 rfl) ?_
              refine lv_iconst (v := 2) hx hb dX3_fillCell_33 (by decide) ?_
              refine lv_ishr hx hb dX3_fillCell_34 ?_
              refine lv_iconst (v := 3) hx hb dX3_fillCell_35 (by decide) ?_
              refine lv_iand hx hb dX3_fillCell_36 ?_
              obtain ⟨j_18, hj_18, ej_18⟩ := pk_andE ((nI i_15) >>> ((2 : Int32) &&& 31)) (m := 3) 2 (by decide)
              replace hj_18 : j_18 < 4 := hj_18
              refine cf_i (nI j_18) ej_18 ?_
              refine lv_iload hx hb dX3_fillCell_37 (lv_at hl 0 rfl) ?_
              refine lv_iconst (v := 3) hx hb dX3_fillCell_39 (by decide) ?_
              refine lv_iand hx hb dX3_fillCell_40 ?_
              obtain ⟨j_19, hj_19, ej_19⟩ := pk_andE (nI i_15) (m := 3) 2 (by decide)
              replace hj_19 : j_19 < 4 := hj_19
              refine cf_i (nI j_19) ej_19 ?_
              refine aft_i (wr := [(jm, .inr (3, [.ref jx])), (jx, .inl (cs 1, 192, .inl m0_15)), (aS, .inr (6, [.int (nI zs), .int (nI sc), .int (nI st), .long sw, .ref s1, .ref s2, .ref s3, .ref s4])), (s1, .inl (cs 1, 3, .inl fp))]) hP hD hS hA [] [0, 1, 2, 3] rfl rfl (by decide) (by decide) (run_s (As := [.int ki, .int la, .int (nI st), .int ((nI i_15) >>> ((4 : Int32) &&& 31)), .int (nI j_18), .int (nI j_19)]) (rest := []) hFix hK hE hP hD [] (k_X3_mix l D cs _ ki la (nI st) ((nI i_15) >>> ((4 : Int32) &&& 31)) (nI j_18) (nI j_19)) (va_cwS 6 hts gc_X3_fillCell_33_X3_mix rfl rfl rfl (by decide +kernel) ⟨Nat.le_of_ble_eq_true rfl, Nat.le_of_ble_eq_true rfl⟩) rfl (by decide) rfl hl.1 rfl (Nat.le_of_ble_eq_true rfl) dX3_fillCell_41 ⟨Nat.le_of_ble_eq_true rfl, Nat.le_of_ble_eq_true rfl⟩) (fun r_20 u_20 H locs hq_20 hP hD hS => ?_)
              have hP : va_P D vwCl [(jm, .inr (3, [.ref jx])), (jx, .inl (cs 1, 192, .inl m0_15)), (aS, .inr (6, [.int (nI zs), .int (nI sc), .int (nI st), .long sw, .ref s1, .ref s2, .ref s3, .ref s4])), (s1, .inl (cs 1, 3, .inl fp))] H := hP
              have hD : va_D A [(jm, .inr (3, [.ref jx])), (jx, .inl (cs 1, 192, .inl m0_15)), (aS, .inr (6, [.int (nI zs), .int (nI sc), .int (nI st), .long sw, .ref s1, .ref s2, .ref s3, .ref s4])), (s1, .inl (cs 1, 3, .inl fp))] := hD
              refine lv_istore (lv' := [(6, .int r_20), (5, .int (nI i_15)), (0, .ref jm), (1, .ref aS), (2, .int 2), (3, .int ki), (4, .int la)]) hx hb dX3_fillCell_44 hl (by decide) rfl (fun ls hl => ?_)
              refine lv_aload_n hx hb dX3_fillCell_46 rfl (lv_at hl 2 rfl) ?_
              refine va_get (D := D) (ci := 3) (v := .ref jx) (C := RX3) (T := TX3) (N := 1) hx hb hts iuX3_fillCell_X3 hown hK hP 0 rfl rfl 0 (by decide) (htw (.fieldLink RX3 9 "MergeJudge$Merger" "mixed" "[I") (List.mem_of_getElem? (i := 4) rfl)) (fun _ h9 => h9) rfl dX3_fillCell_47 ?_
              refine lv_iload_n hx hb dX3_fillCell_50 rfl (lv_at hl 4 rfl) ?_
              refine lv_bipush (v := 64) hx hb dX3_fillCell_51 (by decide) ?_
              refine lv_imul hx hb dX3_fillCell_53 ?_
              refine cf_i 128 (by decide) ?_
              refine lv_iload hx hb dX3_fillCell_54 (lv_at hl 1 rfl) ?_
              refine lv_iadd hx hb dX3_fillCell_56 ?_
              refine cf_i (nI (128 + i_15)) (nI_add 128 i_15) ?_
              refine lv_iload hx hb dX3_fillCell_57 (lv_at hl 0 rfl) ?_
              refine lv_aload_n hx hb dX3_fillCell_59 rfl (lv_at hl 3 rfl) ?_
              refine va_get (D := D) (ci := 6) (v := .ref s1) (C := RX6) (T := TX6) (N := 8) hx hb hts iuX3_fillCell_X6 hown hK hP 2 rfl rfl 4 (by decide) (htw (.fieldLink RX3 37 "MergeJudge$Space" "place" "[I") (List.mem_of_getElem? (i := 5) rfl)) (fun _ h9 => h9) rfl dX3_fillCell_60 ?_
              refine lv_iload_n hx hb dX3_fillCell_63 rfl (lv_at hl 4 rfl) ?_
              refine va_iald hx hb hK hP 3 1 rfl rfl (vp_c (by decide)) dX3_fillCell_64 ?_
              refine cf_v (.int (fp 2)) rfl ?_
              refine lv_imul hx hb dX3_fillCell_65 ?_
              refine va_iast hx hb hK hP hD hS 1 1 rfl rfl (vp_in_nI (by omega) (by omega)) dX3_fillCell_66 (fun H locs hP hD hS => ?_)
              have hP : va_P D vwCl [(jm, .inr (3, [.ref jx])), (jx, .inl (cs 1, 192, .inl (upd m0_15 ((nI (128 + i_15)).toNatClampNeg) (r_20 * (fp 2))))), (aS, .inr (6, [.int (nI zs), .int (nI sc), .int (nI st), .long sw, .ref s1, .ref s2, .ref s3, .ref s4])), (s1, .inl (cs 1, 3, .inl fp))] H := hP
              have hD : va_D A [(jm, .inr (3, [.ref jx])), (jx, .inl (cs 1, 192, .inl (upd m0_15 ((nI (128 + i_15)).toNatClampNeg) (r_20 * (fp 2))))), (aS, .inr (6, [.int (nI zs), .int (nI sc), .int (nI st), .long sw, .ref s1, .ref s2, .ref s3, .ref s4])), (s1, .inl (cs 1, 3, .inl fp))] := hD
              refine lv_iinc (v := (nI (i_15 + 1))) (lv' := [(5, .int (nI (i_15 + 1))), (6, .int r_20), (0, .ref jm), (1, .ref aS), (2, .int 2), (3, .int ki), (4, .int la)]) hx hb dX3_fillCell_67 hl (k := 1) rfl (nI_1 _) (by decide) rfl (fun ls hl => ?_)
              refine lv_goto (tgt := 13) hx hb dX3_fillCell_70 (by decide) ?_
              exact ih_lp_16 (i_15 + 1) (upd m0_15 ((nI (128 + i_15)).toNatClampNeg) (r_20 * (fp 2))) H locs ls (by omega) (by omega) (hP.sub [0, 1, 2, 3] rfl) (hD.sub [0, 1, 2, 3] (by decide) rfl) hS (lv_sub hl [0, 2, 3, 4, 5, 6] rfl)
        exact lp_16 _ 0 fx H locs ls (by omega) (Nat.lt_succ_self _) (hP.sub [0, 1, 2, 3] rfl) (hD.sub [0, 1, 2, 3] (by decide) rfl) hS (lv_sub hl [0, 1, 2, 3, 4, 5] rfl)
    ·
      exact ret_v hx hb hr hlk hS (Nat.le_of_ble_eq_true rfl) (Nat.le_of_ble_eq_true rfl) (fx) (trivial) (hP.sub [0, 1, 2, 3] rfl) (hD.sub [0, 1, 2, 3] (by decide) rfl) dX3_fillCell_9

set_option maxHeartbeats 4000000 in
set_option maxRecDepth 100000 in
theorem k_X3_fill (l : Launch) (D : va_G) (cs : Nat → ClassId) (sz : Nat) (jm : Nat) (aO : Nat) (aS : Nat) (la : Int32) (jx : Nat) (fx : Nat → Int32) (tl : Int32) (tw : Int32) (td : Int32) (tdr : Int32) (tlo : Int32) (o1 : Nat) (o2 : Nat) (o3 : Nat) (o4 : Nat) (o5 : Nat) (fk : Nat → Int32) (sw : Int64) (s1 : Nat) (s2 : Nat) (s3 : Nat) (s4 : Nat) (fp : Nat → Int32) (tp : Nat) (nc : Nat) (nr : Nat) (no : Nat) (na : Nat) (zs : Nat) (sc : Nat) (st : Nat) (htp : tp ≤ 3) (hnc : nc ≤ 3) (hnr : nr ≤ 5) (hno : no ≤ 5) (hna : na ≤ 20) (hzs : zs ≤ 64) (hsc : sc ≤ 3) (hst : st ≤ 3) : Mv l D cs yX3_fill W_X3_fill 3 74 0 0 [.ref jm, .ref aO, .ref aS, .int la] [(jm, .inr (3, [.ref jx])), (jx, .inl (cs 1, 192, .inl fx)), (aO, .inr (0, [.int tl, .int (nI tp), .int tw, .int td, .int (nI nc), .int (nI nr), .int (nI no), .int (nI na), .int tdr, .int tlo, .ref o1, .ref o2, .ref o3, .ref o4, .ref o5])), (o1, .inl (cs 1, 3, .inl fk)), (aS, .inr (6, [.int (nI zs), .int (nI sc), .int (nI st), .long sw, .ref s1, .ref s2, .ref s3, .ref s4])), (s1, .inl (cs 1, 3, .inl fp))] sz (fun (u : (Nat → Int32)) => True) (fun (u : (Nat → Int32)) => [(jm, .inr (3, [.ref jx])), (jx, .inl (cs 1, 192, .inl u)), (aO, .inr (0, [.int tl, .int (nI tp), .int tw, .int td, .int (nI nc), .int (nI nr), .int (nI no), .int (nI na), .int tdr, .int tlo, .ref o1, .ref o2, .ref o3, .ref o4, .ref o5])), (o1, .inl (cs 1, 3, .inl fk)), (aS, .inr (6, [.int (nI zs), .int (nI sc), .int (nI st), .long sw, .ref s1, .ref s2, .ref s3, .ref s4])), (s1, .inl (cs 1, 3, .inl fp))]) := by
  refine ent (D := D) (cs := cs) (y := yX3_fill) (ws := W_X3_fill) (As := [.ref jm, .ref aO, .ref aS, .int la]) (W0 := [(jm, .inr (3, [.ref jx])), (jx, .inl (cs 1, 192, .inl fx)), (aO, .inr (0, [.int tl, .int (nI tp), .int tw, .int td, .int (nI nc), .int (nI nr), .int (nI no), .int (nI na), .int tdr, .int tlo, .ref o1, .ref o2, .ref o3, .ref o4, .ref o5])), (o1, .inl (cs 1, 3, .inl fk)), (aS, .inr (6, [.int (nI zs), .int (nI sc), .int (nI st), .long sw, .ref s1, .ref s2, .ref s3, .ref s4])), (s1, .inl (cs 1, 3, .inl fp))]) (Qx := fun A => va_Qv (fun (u : (Nat → Int32)) => True) (mpost D A (fun (u : (Nat → Int32)) => [(jm, .inr (3, [.ref jx])), (jx, .inl (cs 1, 192, .inl u)), (aO, .inr (0, [.int tl, .int (nI tp), .int tw, .int td, .int (nI nc), .int (nI nr), .int (nI no), .int (nI na), .int tdr, .int tlo, .ref o1, .ref o2, .ref o3, .ref o4, .ref o5])), (o1, .inl (cs 1, 3, .inl fk)), (aS, .inr (6, [.int (nI zs), .int (nI sc), .int (nI st), .long sw, .ref s1, .ref s2, .ref s3, .ref s4])), (s1, .inl (cs 1, 3, .inl fp))])) A) (maxL := 5) (ret := none) (by decide) rfl (Nat.le_of_ble_eq_true rfl) ?_
  intro p e s m below meth c A ls hx hb hr hml hlk hown hts hin hK hE hP hD hA hS hl
  have hl : lv_has ls 5 [(0, .ref jm), (1, .ref aO), (2, .ref aS), (3, .int la)] := hl
  generalize hHe : s.heap = H at hP
  have hS : va_S A s.heap H [] := hHe ▸ hS
  generalize hLe : ([] : List Loc) = locs at hS ⊢
  have htw : ∀ w ∈ O_X3_fill, w.before ([.ref jm, .ref aO, .ref aS, .int la] : List Value).toArray s = true := fun w h => hts w (List.mem_cons_of_mem _ (List.mem_append_left _ h))
  have hFix := (⟨hx, hb, hml, hown, hts⟩ : CallFix p m c _ _ s _ _ _)
  refine lv_iconst (v := 0) hx hb dX3_fill_0 (by decide) ?_
  refine lv_istore (lv' := [(4, .int 0), (0, .ref jm), (1, .ref aO), (2, .ref aS), (3, .int la)]) hx hb dX3_fill_1 hl (by decide) rfl (fun ls hl => ?_)
  have lp_2 : ∀ (nfu : Nat) (i_1 : Nat) (m0_1 : Nat → Int32) (H : Heap) (locs : List Loc) (ls : Array Slot) (hi_1 : i_1 ≤ nc), nc - i_1 < nfu → va_P D vwCl [(jm, .inr (3, [.ref jx])), (jx, .inl (cs 1, 192, .inl m0_1)), (aO, .inr (0, [.int tl, .int (nI tp), .int tw, .int td, .int (nI nc), .int (nI nr), .int (nI no), .int (nI na), .int tdr, .int tlo, .ref o1, .ref o2, .ref o3, .ref o4, .ref o5])), (o1, .inl (cs 1, 3, .inl fk)), (aS, .inr (6, [.int (nI zs), .int (nI sc), .int (nI st), .long sw, .ref s1, .ref s2, .ref s3, .ref s4])), (s1, .inl (cs 1, 3, .inl fp))] H → va_D A [(jm, .inr (3, [.ref jx])), (jx, .inl (cs 1, 192, .inl m0_1)), (aO, .inr (0, [.int tl, .int (nI tp), .int tw, .int td, .int (nI nc), .int (nI nr), .int (nI no), .int (nI na), .int tdr, .int tlo, .ref o1, .ref o2, .ref o3, .ref o4, .ref o5])), (o1, .inl (cs 1, 3, .inl fk)), (aS, .inr (6, [.int (nI zs), .int (nI sc), .int (nI st), .long sw, .ref s1, .ref s2, .ref s3, .ref s4])), (s1, .inl (cs 1, 3, .inl fp))] → va_S A s.heap H locs → lv_has ls 5 [(4, .int (nI i_1)), (0, .ref jm), (1, .ref aO), (2, .ref aS), (3, .int la)] → W p l e (mRm 3 0 0 74) s m ([.ref jm, .ref aO, .ref aS, .int la] : List Value).toArray below meth c H locs 0 0 (MQ below (va_Qv (fun (u : (Nat → Int32)) => True) (mpost D A (fun (u : (Nat → Int32)) => [(jm, .inr (3, [.ref jx])), (jx, .inl (cs 1, 192, .inl u)), (aO, .inr (0, [.int tl, .int (nI tp), .int tw, .int td, .int (nI nc), .int (nI nr), .int (nI no), .int (nI na), .int tdr, .int tlo, .ref o1, .ref o2, .ref o3, .ref o4, .ref o5])), (o1, .inl (cs 1, 3, .inl fk)), (aS, .inr (6, [.int (nI zs), .int (nI sc), .int (nI st), .long sw, .ref s1, .ref s2, .ref s3, .ref s4])), (s1, .inl (cs 1, 3, .inl fp))])) A) ([.ref jm, .ref aO, .ref aS, .int la] : List Value).toArray s 0 0 A) (F0 m 3 ls []) := by
    intro nfu
    induction nfu with
    | zero => intro i_1 m0_1 H locs ls hi_1 hmu; exact absurd hmu (Nat.not_lt_zero _)
    | succ nfu ih =>
      intro i_1 m0_1 H locs ls hi_1 hmu hP hD hS hl
      have ih_lp_2 := @ih
      refine lv_iload hx hb dX3_fill_3 (lv_at hl 0 rfl) ?_
      refine lv_aload_n hx hb dX3_fill_5 rfl (lv_at hl 2 rfl) ?_
      refine va_get (D := D) (ci := 0) (v := .int (nI nc)) (C := RX0) (T := TX0) (N := 15) hx hb hts iuX3_fill_X0 hown hK hP 2 rfl rfl 4 (by decide) (htw (.fieldLink RX3 15 "MergeJudge$Base" "cells" "I") (List.mem_of_getElem? (i := 0) rfl)) (fun _ h9 => h9) rfl dX3_fill_6 ?_
      refine lv_icmp_ge (tgt := 39) hx hb dX3_fill_9 (by decide) (fun c_3 => ?_) (fun c_3 => ?_)
      ·
        have hn_3 := bge_t (a := i_1) (b := nc) c_3 (by omega) (by omega)
        exact ret_v hx hb hr hlk hS (Nat.le_of_ble_eq_true rfl) (Nat.le_of_ble_eq_true rfl) (m0_1) (trivial) (hP.sub [0, 1, 2, 3, 4, 5] rfl) (hD.sub [0, 1, 2, 3, 4, 5] (by decide) rfl) dX3_fill_39
      ·
        have hn_3 := bge_f (a := i_1) (b := nc) c_3 (by omega) (by omega)
        refine lv_iload hx hb dX3_fill_12 (lv_at hl 0 rfl) ?_
        refine lv_iconst (v := 3) hx hb dX3_fill_14 (by decide) ?_
        refine lv_icmp_ge (tgt := 39) hx hb dX3_fill_15 (by decide) (fun c_4 => ?_) (fun c_4 => ?_)
        ·
          have hn_4 := bge_t (a := i_1) (b := 3) c_4 (by omega) (by omega)
          exact ret_v hx hb hr hlk hS (Nat.le_of_ble_eq_true rfl) (Nat.le_of_ble_eq_true rfl) (m0_1) (trivial) (hP.sub [0, 1, 2, 3, 4, 5] rfl) (hD.sub [0, 1, 2, 3, 4, 5] (by decide) rfl) dX3_fill_39
        ·
          have hn_4 := bge_f (a := i_1) (b := 3) c_4 (by omega) (by omega)
          refine lv_aload_n hx hb dX3_fill_18 rfl (lv_at hl 1 rfl) ?_
          refine lv_aload_n hx hb dX3_fill_19 rfl (lv_at hl 3 rfl) ?_
          refine lv_iload hx hb dX3_fill_20 (lv_at hl 0 rfl) ?_
          refine lv_aload_n hx hb dX3_fill_22 rfl (lv_at hl 2 rfl) ?_
          refine va_get (D := D) (ci := 0) (v := .ref o1) (C := RX0) (T := TX0) (N := 15) hx hb hts iuX3_fill_X0 hown hK hP 2 rfl rfl 10 (by decide) (htw (.fieldLink RX3 21 "MergeJudge$Base" "kinds" "[I") (List.mem_of_getElem? (i := 1) rfl)) (fun _ h9 => h9) rfl dX3_fill_23 ?_
          refine lv_iload hx hb dX3_fill_26 (lv_at hl 0 rfl) ?_
          refine va_iald hx hb hK hP 3 1 rfl rfl (vp_in_nI (by omega) (by omega)) dX3_fill_28 ?_
          rw [nI_clamp (by omega)]
          refine lv_iload_n hx hb dX3_fill_29 rfl (lv_at hl 4 rfl) ?_
          refine aft_v (wr := [(aO, .inr (0, [.int tl, .int (nI tp), .int tw, .int td, .int (nI nc), .int (nI nr), .int (nI no), .int (nI na), .int tdr, .int tlo, .ref o1, .ref o2, .ref o3, .ref o4, .ref o5])), (o1, .inl (cs 1, 3, .inl fk))]) hP hD hS hA [0, 1, 4, 5] [2, 3] rfl rfl (by decide) (by decide) (run_v (As := [.ref aS, .int (nI i_1), .int (fk i_1), .int la]) (rest := []) hFix hK hE hP hD [0, 1, 4, 5] (k_X3_fillCell l D cs _ jm aS (nI i_1) (fk i_1) la jx m0_1 sw s1 s2 s3 s4 fp zs sc st (by first | assumption | decide | omega) (by first | assumption | decide | omega) (by first | assumption | decide | omega)) (cwV 4 hts gc_X3_fill_24_X3_fillCell rfl rfl rfl (by decide +kernel) ⟨Nat.le_of_ble_eq_true rfl, Nat.le_of_ble_eq_true rfl⟩) rfl (by decide) rfl rfl rfl hl.1 rfl (Nat.le_of_ble_eq_true rfl) dX3_fill_30 ⟨Nat.le_of_ble_eq_true rfl, Nat.le_of_ble_eq_true rfl⟩) (fun u_5 H locs hq_5 hP hD hS => ?_)
          obtain ⟨fx1_5, rfl⟩ : ∃ z, z = u_5 := ⟨_, rfl⟩
          have hP : va_P D vwCl [(aO, .inr (0, [.int tl, .int (nI tp), .int tw, .int td, .int (nI nc), .int (nI nr), .int (nI no), .int (nI na), .int tdr, .int tlo, .ref o1, .ref o2, .ref o3, .ref o4, .ref o5])), (o1, .inl (cs 1, 3, .inl fk)), (jm, .inr (3, [.ref jx])), (jx, .inl (cs 1, 192, .inl fx1_5)), (aS, .inr (6, [.int (nI zs), .int (nI sc), .int (nI st), .long sw, .ref s1, .ref s2, .ref s3, .ref s4])), (s1, .inl (cs 1, 3, .inl fp))] H := hP
          have hD : va_D A [(aO, .inr (0, [.int tl, .int (nI tp), .int tw, .int td, .int (nI nc), .int (nI nr), .int (nI no), .int (nI na), .int tdr, .int tlo, .ref o1, .ref o2, .ref o3, .ref o4, .ref o5])), (o1, .inl (cs 1, 3, .inl fk)), (jm, .inr (3, [.ref jx])), (jx, .inl (cs 1, 192, .inl fx1_5)), (aS, .inr (6, [.int (nI zs), .int (nI sc), .int (nI st), .long sw, .ref s1, .ref s2, .ref s3, .ref s4])), (s1, .inl (cs 1, 3, .inl fp))] := hD
          refine lv_iinc (v := (nI (i_1 + 1))) (lv' := [(4, .int (nI (i_1 + 1))), (0, .ref jm), (1, .ref aO), (2, .ref aS), (3, .int la)]) hx hb dX3_fill_33 hl (k := 0) rfl (nI_1 _) (by decide) rfl (fun ls hl => ?_)
          refine lv_goto (tgt := 3) hx hb dX3_fill_36 (by decide) ?_
          exact ih_lp_2 (i_1 + 1) fx1_5 H locs ls (by omega) (by omega) (hP.sub [2, 3, 0, 1, 4, 5] rfl) (hD.sub [2, 3, 0, 1, 4, 5] (by decide) rfl) hS (lv_sub hl [0, 1, 2, 3, 4] rfl)
  exact lp_2 _ 0 fx H locs ls (by omega) (Nat.lt_succ_self _) (hP.sub [0, 1, 2, 3, 4, 5] rfl) (hD.sub [0, 1, 2, 3, 4, 5] (by decide) rfl) hS (lv_sub hl [0, 1, 2, 3, 4] rfl)

set_option maxHeartbeats 4000000 in
set_option maxRecDepth 100000 in
theorem k_X3_mergePacked (l : Launch) (D : va_G) (cs : Nat → ClassId) (sz : Nat) (jm : Nat) (a1 : Int32) (a2 : Int32) (a3 : Int32) (jx : Nat) (fx : Nat → Int32)  : Mi l D cs yX3_mergePacked W_X3_mergePacked 0 0 0 0 [.ref jm, .int a1, .int a2, .int a3] [(jm, .inr (3, [.ref jx])), (jx, .inl (cs 1, 192, .inl fx))] sz (fun (r : Int32) (u : Unit) => True) (fun (u : Unit) => [(jm, .inr (3, [.ref jx])), (jx, .inl (cs 1, 192, .inl fx))]) := by
  refine ent (D := D) (cs := cs) (y := yX3_mergePacked) (ws := W_X3_mergePacked) (As := [.ref jm, .int a1, .int a2, .int a3]) (W0 := [(jm, .inr (3, [.ref jx])), (jx, .inl (cs 1, 192, .inl fx))]) (Qx := fun A => va_Qi (fun (r : Int32) (u : Unit) => True) (mpost D A (fun (u : Unit) => [(jm, .inr (3, [.ref jx])), (jx, .inl (cs 1, 192, .inl fx))])) A) (maxL := 5) (ret := (some .int)) (by decide) rfl (Nat.le_of_ble_eq_true rfl) ?_
  intro p e s m below meth c A ls hx hb hr hml hlk hown hts hin hK hE hP hD hA hS hl
  have hl : lv_has ls 5 [(0, .ref jm), (1, .int a1), (2, .int a2), (3, .int a3)] := hl
  generalize hHe : s.heap = H at hP
  have hS : va_S A s.heap H [] := hHe ▸ hS
  generalize hLe : ([] : List Loc) = locs at hS ⊢
  have htw : ∀ w ∈ O_X3_mergePacked, w.before ([.ref jm, .int a1, .int a2, .int a3] : List Value).toArray s = true := fun w h => hts w (List.mem_cons_of_mem _ (List.mem_append_left _ h))
  have hFix := (⟨hx, hb, hml, hown, hts⟩ : CallFix p m c _ _ s _ _ _)
  refine lv_iload_n hx hb dX3_mergePacked_0 rfl (lv_at hl 1 rfl) ?_
  refine lv_iconst (v := 4) hx hb dX3_mergePacked_1 (by decide) ?_
  refine lv_ishl hx hb dX3_mergePacked_2 ?_
  refine lv_iload_n hx hb dX3_mergePacked_3 rfl (lv_at hl 2 rfl) ?_
  refine lv_iconst (v := 2) hx hb dX3_mergePacked_4 (by decide) ?_
  refine lv_ishl hx hb dX3_mergePacked_5 ?_
  refine lv_ior hx hb dX3_mergePacked_6 ?_
  refine lv_iload_n hx hb dX3_mergePacked_7 rfl (lv_at hl 3 rfl) ?_
  refine lv_ior hx hb dX3_mergePacked_8 ?_
  refine lv_istore (lv' := [(4, .int (((a1 <<< ((4 : Int32) &&& 31)) ||| (a2 <<< ((2 : Int32) &&& 31))) ||| a3)), (0, .ref jm), (1, .int a1), (2, .int a2), (3, .int a3)]) hx hb dX3_mergePacked_9 hl (by decide) rfl (fun ls hl => ?_)
  refine lv_aload_n hx hb dX3_mergePacked_11 rfl (lv_at hl 1 rfl) ?_
  refine va_get (D := D) (ci := 3) (v := .ref jx) (C := RX3) (T := TX3) (N := 1) hx hb hts iuX3_mergePacked_X3 hown hK hP 0 rfl rfl 0 (by decide) (htw (.fieldLink RX3 9 "MergeJudge$Merger" "mixed" "[I") (List.mem_of_getElem? (i := 0) rfl)) (fun _ h9 => h9) rfl dX3_mergePacked_12 ?_
  refine lv_iload hx hb dX3_mergePacked_15 (lv_at hl 0 rfl) ?_
  refine lv_bipush (v := 63) hx hb dX3_mergePacked_17 (by decide) ?_
  refine lv_iand hx hb dX3_mergePacked_19 ?_
  obtain ⟨j_1, hj_1, ej_1⟩ := pk_andE (((a1 <<< ((4 : Int32) &&& 31)) ||| (a2 <<< ((2 : Int32) &&& 31))) ||| a3) (m := 63) 6 (by decide)
  replace hj_1 : j_1 < 64 := hj_1
  refine cf_i (nI j_1) ej_1 ?_
  refine va_iald hx hb hK hP 1 1 rfl rfl (vp_in_nI (by omega) (by omega)) dX3_mergePacked_20 ?_
  rw [nI_clamp (by omega)]
  refine lv_aload_n hx hb dX3_mergePacked_21 rfl (lv_at hl 1 rfl) ?_
  refine va_get (D := D) (ci := 3) (v := .ref jx) (C := RX3) (T := TX3) (N := 1) hx hb hts iuX3_mergePacked_X3 hown hK hP 0 rfl rfl 0 (by decide) (htw (.fieldLink RX3 9 "MergeJudge$Merger" "mixed" "[I") (List.mem_of_getElem? (i := 0) rfl)) (fun _ h9 => h9) rfl dX3_mergePacked_22 ?_
  refine lv_bipush (v := 64) hx hb dX3_mergePacked_25 (by decide) ?_
  refine lv_iload hx hb dX3_mergePacked_27 (lv_at hl 0 rfl) ?_
  refine lv_bipush (v := 6) hx hb dX3_mergePacked_29 (by decide) ?_
  refine lv_ishr hx hb dX3_mergePacked_31 ?_
  refine lv_bipush (v := 63) hx hb dX3_mergePacked_32 (by decide) ?_
  refine lv_iand hx hb dX3_mergePacked_34 ?_
  obtain ⟨j_2, hj_2, ej_2⟩ := pk_andE ((((a1 <<< ((4 : Int32) &&& 31)) ||| (a2 <<< ((2 : Int32) &&& 31))) ||| a3) >>> ((6 : Int32) &&& 31)) (m := 63) 6 (by decide)
  replace hj_2 : j_2 < 64 := hj_2
  refine cf_i (nI j_2) ej_2 ?_
  refine lv_iadd hx hb dX3_mergePacked_35 ?_
  refine cf_i (nI (64 + j_2)) (nI_add 64 j_2) ?_
  refine va_iald hx hb hK hP 1 1 rfl rfl (vp_in_nI (by omega) (by omega)) dX3_mergePacked_36 ?_
  rw [nI_clamp (by omega)]
  refine lv_iadd hx hb dX3_mergePacked_37 ?_
  refine lv_aload_n hx hb dX3_mergePacked_38 rfl (lv_at hl 1 rfl) ?_
  refine va_get (D := D) (ci := 3) (v := .ref jx) (C := RX3) (T := TX3) (N := 1) hx hb hts iuX3_mergePacked_X3 hown hK hP 0 rfl rfl 0 (by decide) (htw (.fieldLink RX3 9 "MergeJudge$Merger" "mixed" "[I") (List.mem_of_getElem? (i := 0) rfl)) (fun _ h9 => h9) rfl dX3_mergePacked_39 ?_
  refine lv_sipush (v := 128) hx hb dX3_mergePacked_42 (by decide) ?_
  refine lv_iload hx hb dX3_mergePacked_45 (lv_at hl 0 rfl) ?_
  refine lv_bipush (v := 12) hx hb dX3_mergePacked_47 (by decide) ?_
  refine lv_ishr hx hb dX3_mergePacked_49 ?_
  refine lv_bipush (v := 63) hx hb dX3_mergePacked_50 (by decide) ?_
  refine lv_iand hx hb dX3_mergePacked_52 ?_
  obtain ⟨j_3, hj_3, ej_3⟩ := pk_andE ((((a1 <<< ((4 : Int32) &&& 31)) ||| (a2 <<< ((2 : Int32) &&& 31))) ||| a3) >>> ((12 : Int32) &&& 31)) (m := 63) 6 (by decide)
  replace hj_3 : j_3 < 64 := hj_3
  refine cf_i (nI j_3) ej_3 ?_
  refine lv_iadd hx hb dX3_mergePacked_53 ?_
  refine cf_i (nI (128 + j_3)) (nI_add 128 j_3) ?_
  refine va_iald hx hb hK hP 1 1 rfl rfl (vp_in_nI (by omega) (by omega)) dX3_mergePacked_54 ?_
  rw [nI_clamp (by omega)]
  refine lv_iadd hx hb dX3_mergePacked_55 ?_
  exact ret_i hx hb hr hlk hS (Nat.le_of_ble_eq_true rfl) (Nat.le_of_ble_eq_true rfl) () (trivial) (hP.sub [0, 1] rfl) (hD.sub [0, 1] (by decide) rfl) dX3_mergePacked_56

set_option maxHeartbeats 4000000 in
set_option maxRecDepth 100000 in
theorem k_X2_suppose (l : Launch) (D : va_G) (cs : Nat → ClassId) (sz : Nat) (aJ : Nat) (a1 : Int32) (a2 : Int32) (aO : Nat) (aS : Nat) (jm : Nat) (jd : Int32) (jl : Int32) (jv : Int64) (jq : Nat) (jb : Nat) (jp : Nat) (jw : Nat) (jh : Nat) (js : Nat) (tl : Int32) (tw : Int32) (td : Int32) (tdr : Int32) (tlo : Int32) (o1 : Nat) (o2 : Nat) (o3 : Nat) (o4 : Nat) (o5 : Nat) (sw : Int64) (s1 : Nat) (s2 : Nat) (s3 : Nat) (s4 : Nat) (fh : Nat → Int64) (tp : Nat) (nc : Nat) (nr : Nat) (no : Nat) (na : Nat) (zs : Nat) (sc : Nat) (st : Nat) (htp : tp ≤ 3) (hnc : nc ≤ 3) (hnr : nr ≤ 5) (hno : no ≤ 5) (hna : na ≤ 20) (hzs : zs ≤ 64) (hsc : sc ≤ 3) (hst : st ≤ 3) : Mv l D cs yX2_suppose W_X2_suppose 0 0 0 0 [.ref aJ, .int a1, .int a2] [(aJ, .inr (2, [.ref aO, .ref aS, .ref jm, .int jd, .int jl, .long jv, .ref jq, .ref jb, .ref jp, .ref jw, .ref jh, .ref js])), (aO, .inr (0, [.int tl, .int (nI tp), .int tw, .int td, .int (nI nc), .int (nI nr), .int (nI no), .int (nI na), .int tdr, .int tlo, .ref o1, .ref o2, .ref o3, .ref o4, .ref o5])), (aS, .inr (6, [.int (nI zs), .int (nI sc), .int (nI st), .long sw, .ref s1, .ref s2, .ref s3, .ref s4])), (s3, .inl (cs 2, 5, .inr (.inl fh)))] sz (fun (u : Int32 × Int32 × Int64) => True) (fun (u : Int32 × Int32 × Int64) => [(aJ, .inr (2, [.ref aO, .ref aS, .ref jm, .int u.1, .int u.2.1, .long u.2.2, .ref jq, .ref jb, .ref jp, .ref jw, .ref jh, .ref js])), (aO, .inr (0, [.int tl, .int (nI tp), .int tw, .int td, .int (nI nc), .int (nI nr), .int (nI no), .int (nI na), .int tdr, .int tlo, .ref o1, .ref o2, .ref o3, .ref o4, .ref o5])), (aS, .inr (6, [.int (nI zs), .int (nI sc), .int (nI st), .long sw, .ref s1, .ref s2, .ref s3, .ref s4])), (s3, .inl (cs 2, 5, .inr (.inl fh)))]) := by
  refine ent (D := D) (cs := cs) (y := yX2_suppose) (ws := W_X2_suppose) (As := [.ref aJ, .int a1, .int a2]) (W0 := [(aJ, .inr (2, [.ref aO, .ref aS, .ref jm, .int jd, .int jl, .long jv, .ref jq, .ref jb, .ref jp, .ref jw, .ref jh, .ref js])), (aO, .inr (0, [.int tl, .int (nI tp), .int tw, .int td, .int (nI nc), .int (nI nr), .int (nI no), .int (nI na), .int tdr, .int tlo, .ref o1, .ref o2, .ref o3, .ref o4, .ref o5])), (aS, .inr (6, [.int (nI zs), .int (nI sc), .int (nI st), .long sw, .ref s1, .ref s2, .ref s3, .ref s4])), (s3, .inl (cs 2, 5, .inr (.inl fh)))]) (Qx := fun A => va_Qv (fun (u : Int32 × Int32 × Int64) => True) (mpost D A (fun (u : Int32 × Int32 × Int64) => [(aJ, .inr (2, [.ref aO, .ref aS, .ref jm, .int u.1, .int u.2.1, .long u.2.2, .ref jq, .ref jb, .ref jp, .ref jw, .ref jh, .ref js])), (aO, .inr (0, [.int tl, .int (nI tp), .int tw, .int td, .int (nI nc), .int (nI nr), .int (nI no), .int (nI na), .int tdr, .int tlo, .ref o1, .ref o2, .ref o3, .ref o4, .ref o5])), (aS, .inr (6, [.int (nI zs), .int (nI sc), .int (nI st), .long sw, .ref s1, .ref s2, .ref s3, .ref s4])), (s3, .inl (cs 2, 5, .inr (.inl fh)))])) A) (maxL := 6) (ret := none) (by decide) rfl (Nat.le_of_ble_eq_true rfl) ?_
  intro p e s m below meth c A ls hx hb hr hml hlk hown hts hin hK hE hP hD hA hS hl
  have hl : lv_has ls 6 [(0, .ref aJ), (1, .int a1), (2, .int a2)] := hl
  generalize hHe : s.heap = H at hP
  have hS : va_S A s.heap H [] := hHe ▸ hS
  generalize hLe : ([] : List Loc) = locs at hS ⊢
  have htw : ∀ w ∈ O_X2_suppose, w.before ([.ref aJ, .int a1, .int a2] : List Value).toArray s = true := fun w h => hts w (List.mem_cons_of_mem _ (List.mem_append_left _ h))
  have hFix := (⟨hx, hb, hml, hown, hts⟩ : CallFix p m c _ _ s _ _ _)
  refine lv_aload_n hx hb dX2_suppose_0 rfl (lv_at hl 0 rfl) ?_
  refine lv_iload_n hx hb dX2_suppose_1 rfl (lv_at hl 1 rfl) ?_
  refine va_put (D := D) (ci := 2) (v := .int a1) (ty := .int) (C := RX2) (T := TX2) (N := 12) hx hb hts iuX2_suppose_X2 tyX2 tyX2_ok nmX2 hown hK hP hD hS 0 rfl rfl 3 (by decide) (htw (.fieldLink RX2 18 "MergeJudge$Judge" "dropped" "I") (List.mem_of_getElem? (i := 0) rfl)) (fun _ h9 => h9) rfl (by decide +kernel) rfl rfl (Nat.le_of_ble_eq_true rfl) dX2_suppose_2 (fun H locs hP hD hS => ?_)
  have hP : va_P D vwCl [(aJ, .inr (2, [.ref aO, .ref aS, .ref jm, .int a1, .int jl, .long jv, .ref jq, .ref jb, .ref jp, .ref jw, .ref jh, .ref js])), (aO, .inr (0, [.int tl, .int (nI tp), .int tw, .int td, .int (nI nc), .int (nI nr), .int (nI no), .int (nI na), .int tdr, .int tlo, .ref o1, .ref o2, .ref o3, .ref o4, .ref o5])), (aS, .inr (6, [.int (nI zs), .int (nI sc), .int (nI st), .long sw, .ref s1, .ref s2, .ref s3, .ref s4])), (s3, .inl (cs 2, 5, .inr (.inl fh)))] H := hP
  have hD : va_D A [(aJ, .inr (2, [.ref aO, .ref aS, .ref jm, .int a1, .int jl, .long jv, .ref jq, .ref jb, .ref jp, .ref jw, .ref jh, .ref js])), (aO, .inr (0, [.int tl, .int (nI tp), .int tw, .int td, .int (nI nc), .int (nI nr), .int (nI no), .int (nI na), .int tdr, .int tlo, .ref o1, .ref o2, .ref o3, .ref o4, .ref o5])), (aS, .inr (6, [.int (nI zs), .int (nI sc), .int (nI st), .long sw, .ref s1, .ref s2, .ref s3, .ref s4])), (s3, .inl (cs 2, 5, .inr (.inl fh)))] := hD
  refine lv_aload_n hx hb dX2_suppose_5 rfl (lv_at hl 0 rfl) ?_
  refine lv_iload_n hx hb dX2_suppose_6 rfl (lv_at hl 2 rfl) ?_
  refine va_put (D := D) (ci := 2) (v := .int a2) (ty := .int) (C := RX2) (T := TX2) (N := 12) hx hb hts iuX2_suppose_X2 tyX2 tyX2_ok nmX2 hown hK hP hD hS 0 rfl rfl 4 (by decide) (htw (.fieldLink RX2 22 "MergeJudge$Judge" "locked" "I") (List.mem_of_getElem? (i := 1) rfl)) (fun _ h9 => h9) rfl (by decide +kernel) rfl rfl (Nat.le_of_ble_eq_true rfl) dX2_suppose_7 (fun H locs hP hD hS => ?_)
  have hP : va_P D vwCl [(aJ, .inr (2, [.ref aO, .ref aS, .ref jm, .int a1, .int a2, .long jv, .ref jq, .ref jb, .ref jp, .ref jw, .ref jh, .ref js])), (aO, .inr (0, [.int tl, .int (nI tp), .int tw, .int td, .int (nI nc), .int (nI nr), .int (nI no), .int (nI na), .int tdr, .int tlo, .ref o1, .ref o2, .ref o3, .ref o4, .ref o5])), (aS, .inr (6, [.int (nI zs), .int (nI sc), .int (nI st), .long sw, .ref s1, .ref s2, .ref s3, .ref s4])), (s3, .inl (cs 2, 5, .inr (.inl fh)))] H := hP
  have hD : va_D A [(aJ, .inr (2, [.ref aO, .ref aS, .ref jm, .int a1, .int a2, .long jv, .ref jq, .ref jb, .ref jp, .ref jw, .ref jh, .ref js])), (aO, .inr (0, [.int tl, .int (nI tp), .int tw, .int td, .int (nI nc), .int (nI nr), .int (nI no), .int (nI na), .int tdr, .int tlo, .ref o1, .ref o2, .ref o3, .ref o4, .ref o5])), (aS, .inr (6, [.int (nI zs), .int (nI sc), .int (nI st), .long sw, .ref s1, .ref s2, .ref s3, .ref s4])), (s3, .inl (cs 2, 5, .inr (.inl fh)))] := hD
  refine lv_aload_n hx hb dX2_suppose_10 rfl (lv_at hl 0 rfl) ?_
  refine va_get (D := D) (ci := 2) (v := .ref aS) (C := RX2) (T := TX2) (N := 12) hx hb hts iuX2_suppose_X2 hown hK hP 0 rfl rfl 1 (by decide) (htw (.fieldLink RX2 53 "MergeJudge$Judge" "space" "LMergeJudge$Space;") (List.mem_of_getElem? (i := 2) rfl)) (fun _ h9 => h9) rfl dX2_suppose_11 ?_
  refine va_get (D := D) (ci := 6) (v := .long sw) (C := RX6) (T := TX6) (N := 8) hx hb hts iuX2_suppose_X6 hown hK hP 2 rfl rfl 3 (by decide) (htw (.fieldLink RX2 76 "MergeJudge$Space" "whole" "J") (List.mem_of_getElem? (i := 3) rfl)) (fun _ h9 => h9) rfl dX2_suppose_14 ?_
  refine lv_lstore_n (lv' := [(3, .long sw), (0, .ref aJ), (1, .int a1), (2, .int a2)]) hx hb dX2_suppose_17 rfl hl (by decide) rfl (fun ls hl => ?_)
  refine lv_iconst (v := 0) hx hb dX2_suppose_18 (by decide) ?_
  refine lv_istore (lv' := [(5, .int 0), (3, .long sw), (0, .ref aJ), (1, .int a1), (2, .int a2)]) hx hb dX2_suppose_19 hl (by decide) rfl (fun ls hl => ?_)
  have lp_2 : ∀ (nfu : Nat) (i_1 : Nat) (v3_1 : Int64) (m0_1 : Int32) (m1_1 : Int32) (m2_1 : Int64) (H : Heap) (locs : List Loc) (ls : Array Slot) (hi_1 : i_1 ≤ nr), nr - i_1 < nfu → va_P D vwCl [(aJ, .inr (2, [.ref aO, .ref aS, .ref jm, .int m0_1, .int m1_1, .long m2_1, .ref jq, .ref jb, .ref jp, .ref jw, .ref jh, .ref js])), (aO, .inr (0, [.int tl, .int (nI tp), .int tw, .int td, .int (nI nc), .int (nI nr), .int (nI no), .int (nI na), .int tdr, .int tlo, .ref o1, .ref o2, .ref o3, .ref o4, .ref o5])), (aS, .inr (6, [.int (nI zs), .int (nI sc), .int (nI st), .long sw, .ref s1, .ref s2, .ref s3, .ref s4])), (s3, .inl (cs 2, 5, .inr (.inl fh)))] H → va_D A [(aJ, .inr (2, [.ref aO, .ref aS, .ref jm, .int m0_1, .int m1_1, .long m2_1, .ref jq, .ref jb, .ref jp, .ref jw, .ref jh, .ref js])), (aO, .inr (0, [.int tl, .int (nI tp), .int tw, .int td, .int (nI nc), .int (nI nr), .int (nI no), .int (nI na), .int tdr, .int tlo, .ref o1, .ref o2, .ref o3, .ref o4, .ref o5])), (aS, .inr (6, [.int (nI zs), .int (nI sc), .int (nI st), .long sw, .ref s1, .ref s2, .ref s3, .ref s4])), (s3, .inl (cs 2, 5, .inr (.inl fh)))] → va_S A s.heap H locs → lv_has ls 6 [(5, .int (nI i_1)), (3, .long v3_1), (0, .ref aJ), (1, .int a1), (2, .int a2)] → W p l e (mRm 0 0 0 0) s m ([.ref aJ, .int a1, .int a2] : List Value).toArray below meth c H locs 0 0 (MQ below (va_Qv (fun (u : Int32 × Int32 × Int64) => True) (mpost D A (fun (u : Int32 × Int32 × Int64) => [(aJ, .inr (2, [.ref aO, .ref aS, .ref jm, .int u.1, .int u.2.1, .long u.2.2, .ref jq, .ref jb, .ref jp, .ref jw, .ref jh, .ref js])), (aO, .inr (0, [.int tl, .int (nI tp), .int tw, .int td, .int (nI nc), .int (nI nr), .int (nI no), .int (nI na), .int tdr, .int tlo, .ref o1, .ref o2, .ref o3, .ref o4, .ref o5])), (aS, .inr (6, [.int (nI zs), .int (nI sc), .int (nI st), .long sw, .ref s1, .ref s2, .ref s3, .ref s4])), (s3, .inl (cs 2, 5, .inr (.inl fh)))])) A) ([.ref aJ, .int a1, .int a2] : List Value).toArray s 0 0 A) (F0 m 21 ls []) := by
    intro nfu
    induction nfu with
    | zero => intro i_1 v3_1 m0_1 m1_1 m2_1 H locs ls hi_1 hmu; exact absurd hmu (Nat.not_lt_zero _)
    | succ nfu ih =>
      intro i_1 v3_1 m0_1 m1_1 m2_1 H locs ls hi_1 hmu hP hD hS hl
      have ih_lp_2 := @ih
      refine lv_iload hx hb dX2_suppose_21 (lv_at hl 0 rfl) ?_
      refine lv_aload_n hx hb dX2_suppose_23 rfl (lv_at hl 2 rfl) ?_
      refine va_get (D := D) (ci := 2) (v := .ref aO) (C := RX2) (T := TX2) (N := 12) hx hb hts iuX2_suppose_X2 hown hK hP 0 rfl rfl 0 (by decide) (htw (.fieldLink RX2 49 "MergeJudge$Judge" "told" "LMergeJudge$Base;") (List.mem_of_getElem? (i := 4) rfl)) (fun _ h9 => h9) rfl dX2_suppose_24 ?_
      refine va_get (D := D) (ci := 0) (v := .int (nI nr)) (C := RX0) (T := TX0) (N := 15) hx hb hts iuX2_suppose_X0 hown hK hP 1 rfl rfl 5 (by decide) (htw (.fieldLink RX2 81 "MergeJudge$Base" "rules" "I") (List.mem_of_getElem? (i := 5) rfl)) (fun _ h9 => h9) rfl dX2_suppose_27 ?_
      refine lv_icmp_ge (tgt := 61) hx hb dX2_suppose_30 (by decide) (fun c_3 => ?_) (fun c_3 => ?_)
      ·
        have hn_3 := bge_t (a := i_1) (b := nr) c_3 (by omega) (by omega)
        refine lv_aload_n hx hb dX2_suppose_61 rfl (lv_at hl 2 rfl) ?_
        refine lv_lload_n hx hb dX2_suppose_62 rfl (lv_at hl 1 rfl) ?_
        refine va_put (D := D) (ci := 2) (v := .long v3_1) (ty := .long) (C := RX2) (T := TX2) (N := 12) hx hb hts iuX2_suppose_X2 tyX2 tyX2_ok nmX2 hown hK hP hD hS 0 rfl rfl 5 (by decide) (htw (.fieldLink RX2 25 "MergeJudge$Judge" "validStates" "J") (List.mem_of_getElem? (i := 7) rfl)) (fun _ h9 => h9) rfl (by decide +kernel) rfl rfl (Nat.le_of_ble_eq_true rfl) dX2_suppose_63 (fun H locs hP hD hS => ?_)
        have hP : va_P D vwCl [(aJ, .inr (2, [.ref aO, .ref aS, .ref jm, .int m0_1, .int m1_1, .long v3_1, .ref jq, .ref jb, .ref jp, .ref jw, .ref jh, .ref js])), (aO, .inr (0, [.int tl, .int (nI tp), .int tw, .int td, .int (nI nc), .int (nI nr), .int (nI no), .int (nI na), .int tdr, .int tlo, .ref o1, .ref o2, .ref o3, .ref o4, .ref o5])), (aS, .inr (6, [.int (nI zs), .int (nI sc), .int (nI st), .long sw, .ref s1, .ref s2, .ref s3, .ref s4])), (s3, .inl (cs 2, 5, .inr (.inl fh)))] H := hP
        have hD : va_D A [(aJ, .inr (2, [.ref aO, .ref aS, .ref jm, .int m0_1, .int m1_1, .long v3_1, .ref jq, .ref jb, .ref jp, .ref jw, .ref jh, .ref js])), (aO, .inr (0, [.int tl, .int (nI tp), .int tw, .int td, .int (nI nc), .int (nI nr), .int (nI no), .int (nI na), .int tdr, .int tlo, .ref o1, .ref o2, .ref o3, .ref o4, .ref o5])), (aS, .inr (6, [.int (nI zs), .int (nI sc), .int (nI st), .long sw, .ref s1, .ref s2, .ref s3, .ref s4])), (s3, .inl (cs 2, 5, .inr (.inl fh)))] := hD
        exact ret_v hx hb hr hlk hS (Nat.le_of_ble_eq_true rfl) (Nat.le_of_ble_eq_true rfl) (m0_1, m1_1, v3_1) (trivial) (hP.sub [0, 1, 2, 3] rfl) (hD.sub [0, 1, 2, 3] (by decide) rfl) dX2_suppose_66
      ·
        have hn_3 := bge_f (a := i_1) (b := nr) c_3 (by omega) (by omega)
        refine lv_iload_n hx hb dX2_suppose_33 rfl (lv_at hl 3 rfl) ?_
        refine lv_iload hx hb dX2_suppose_34 (lv_at hl 0 rfl) ?_
        refine lv_ishr hx hb dX2_suppose_36 ?_
        refine lv_iconst (v := 1) hx hb dX2_suppose_37 (by decide) ?_
        refine lv_iand hx hb dX2_suppose_38 ?_
        obtain ⟨j_4, hj_4, ej_4⟩ := pk_andE (a1 >>> ((nI i_1) &&& 31)) (m := 1) 1 (by decide)
        replace hj_4 : j_4 < 2 := hj_4
        refine cf_i (nI j_4) ej_4 ?_
        refine lv_if_ne (tgt := 55) hx hb dX2_suppose_39 (by decide) (fun c_5 => ?_) (fun c_5 => ?_)
        ·
          have hn_5 := bne_t (a := j_4) (b := 0) c_5 (by omega) (by omega)
          refine lv_iinc (v := (nI (i_1 + 1))) (lv' := [(5, .int (nI (i_1 + 1))), (3, .long v3_1), (0, .ref aJ), (1, .int a1), (2, .int a2)]) hx hb dX2_suppose_55 hl (k := 0) rfl (nI_1 _) (by decide) rfl (fun ls hl => ?_)
          refine lv_goto (tgt := 21) hx hb dX2_suppose_58 (by decide) ?_
          exact ih_lp_2 (i_1 + 1) v3_1 m0_1 m1_1 m2_1 H locs ls (by omega) (by omega) (hP.sub [0, 1, 2, 3] rfl) (hD.sub [0, 1, 2, 3] (by decide) rfl) hS (lv_sub hl [0, 1, 2, 3, 4] rfl)
        ·
          have hn_5 := bne_f (a := j_4) (b := 0) c_5 (by omega) (by omega)
          refine lv_lload_n hx hb dX2_suppose_42 rfl (lv_at hl 1 rfl) ?_
          refine lv_aload_n hx hb dX2_suppose_43 rfl (lv_at hl 2 rfl) ?_
          refine va_get (D := D) (ci := 2) (v := .ref aS) (C := RX2) (T := TX2) (N := 12) hx hb hts iuX2_suppose_X2 hown hK hP 0 rfl rfl 1 (by decide) (htw (.fieldLink RX2 53 "MergeJudge$Judge" "space" "LMergeJudge$Space;") (List.mem_of_getElem? (i := 2) rfl)) (fun _ h9 => h9) rfl dX2_suppose_44 ?_
          refine va_get (D := D) (ci := 6) (v := .ref s3) (C := RX6) (T := TX6) (N := 8) hx hb hts iuX2_suppose_X6 hown hK hP 2 rfl rfl 6 (by decide) (htw (.fieldLink RX2 84 "MergeJudge$Space" "holding" "[J") (List.mem_of_getElem? (i := 6) rfl)) (fun _ h9 => h9) rfl dX2_suppose_47 ?_
          refine lv_iload hx hb dX2_suppose_50 (lv_at hl 0 rfl) ?_
          refine va_lald hx hb hK hP 3 2 rfl rfl (vp_in_nI (by omega) (by omega)) dX2_suppose_52 ?_
          rw [nI_clamp (by omega)]
          refine lv_land hx hb dX2_suppose_53 ?_
          refine lv_lstore_n (lv' := [(3, .long (v3_1 &&& (fh i_1))), (5, .int (nI i_1)), (0, .ref aJ), (1, .int a1), (2, .int a2)]) hx hb dX2_suppose_54 rfl hl (by decide) rfl (fun ls hl => ?_)
          refine lv_iinc (v := (nI (i_1 + 1))) (lv' := [(5, .int (nI (i_1 + 1))), (3, .long (v3_1 &&& (fh i_1))), (0, .ref aJ), (1, .int a1), (2, .int a2)]) hx hb dX2_suppose_55 hl (k := 1) rfl (nI_1 _) (by decide) rfl (fun ls hl => ?_)
          refine lv_goto (tgt := 21) hx hb dX2_suppose_58 (by decide) ?_
          exact ih_lp_2 (i_1 + 1) (v3_1 &&& (fh i_1)) m0_1 m1_1 m2_1 H locs ls (by omega) (by omega) (hP.sub [0, 1, 2, 3] rfl) (hD.sub [0, 1, 2, 3] (by decide) rfl) hS (lv_sub hl [0, 1, 2, 3, 4] rfl)
  exact lp_2 _ 0 sw a1 a2 jv H locs ls (by omega) (Nat.lt_succ_self _) (hP.sub [0, 1, 2, 3] rfl) (hD.sub [0, 1, 2, 3] (by decide) rfl) hS (lv_sub hl [0, 1, 2, 3, 4] rfl)

set_option maxHeartbeats 4000000 in
set_option maxRecDepth 100000 in
theorem k_X2_asTold (l : Launch) (D : va_G) (cs : Nat → ClassId) (sz : Nat) (aJ : Nat) (aO : Nat) (aS : Nat) (jm : Nat) (jd : Int32) (jl : Int32) (jv : Int64) (jq : Nat) (jb : Nat) (jp : Nat) (jw : Nat) (jh : Nat) (js : Nat) (jx : Nat) (fx : Nat → Int32) (tl : Int32) (tw : Int32) (td : Int32) (tdr : Int32) (tlo : Int32) (o1 : Nat) (o2 : Nat) (o3 : Nat) (o4 : Nat) (o5 : Nat) (fk : Nat → Int32) (sw : Int64) (s1 : Nat) (s2 : Nat) (s3 : Nat) (s4 : Nat) (fp : Nat → Int32) (fh : Nat → Int64) (tp : Nat) (nc : Nat) (nr : Nat) (no : Nat) (na : Nat) (zs : Nat) (sc : Nat) (st : Nat) (htp : tp ≤ 3) (hnc : nc ≤ 3) (hnr : nr ≤ 5) (hno : no ≤ 5) (hna : na ≤ 20) (hzs : zs ≤ 64) (hsc : sc ≤ 3) (hst : st ≤ 3) : Mv l D cs yX2_asTold W_X2_asTold 4 98 0 0 [.ref aJ] [(aJ, .inr (2, [.ref aO, .ref aS, .ref jm, .int jd, .int jl, .long jv, .ref jq, .ref jb, .ref jp, .ref jw, .ref jh, .ref js])), (jm, .inr (3, [.ref jx])), (jx, .inl (cs 1, 192, .inl fx)), (aO, .inr (0, [.int tl, .int (nI tp), .int tw, .int td, .int (nI nc), .int (nI nr), .int (nI no), .int (nI na), .int tdr, .int tlo, .ref o1, .ref o2, .ref o3, .ref o4, .ref o5])), (o1, .inl (cs 1, 3, .inl fk)), (aS, .inr (6, [.int (nI zs), .int (nI sc), .int (nI st), .long sw, .ref s1, .ref s2, .ref s3, .ref s4])), (s1, .inl (cs 1, 3, .inl fp)), (s3, .inl (cs 2, 5, .inr (.inl fh)))] sz (fun (u : Int32 × Int32 × Int64 × (Nat → Int32)) => True) (fun (u : Int32 × Int32 × Int64 × (Nat → Int32)) => [(aJ, .inr (2, [.ref aO, .ref aS, .ref jm, .int u.1, .int u.2.1, .long u.2.2.1, .ref jq, .ref jb, .ref jp, .ref jw, .ref jh, .ref js])), (jm, .inr (3, [.ref jx])), (jx, .inl (cs 1, 192, .inl u.2.2.2)), (aO, .inr (0, [.int tl, .int (nI tp), .int tw, .int td, .int (nI nc), .int (nI nr), .int (nI no), .int (nI na), .int tdr, .int tlo, .ref o1, .ref o2, .ref o3, .ref o4, .ref o5])), (o1, .inl (cs 1, 3, .inl fk)), (aS, .inr (6, [.int (nI zs), .int (nI sc), .int (nI st), .long sw, .ref s1, .ref s2, .ref s3, .ref s4])), (s1, .inl (cs 1, 3, .inl fp)), (s3, .inl (cs 2, 5, .inr (.inl fh)))]) := by
  refine ent (D := D) (cs := cs) (y := yX2_asTold) (ws := W_X2_asTold) (As := [.ref aJ]) (W0 := [(aJ, .inr (2, [.ref aO, .ref aS, .ref jm, .int jd, .int jl, .long jv, .ref jq, .ref jb, .ref jp, .ref jw, .ref jh, .ref js])), (jm, .inr (3, [.ref jx])), (jx, .inl (cs 1, 192, .inl fx)), (aO, .inr (0, [.int tl, .int (nI tp), .int tw, .int td, .int (nI nc), .int (nI nr), .int (nI no), .int (nI na), .int tdr, .int tlo, .ref o1, .ref o2, .ref o3, .ref o4, .ref o5])), (o1, .inl (cs 1, 3, .inl fk)), (aS, .inr (6, [.int (nI zs), .int (nI sc), .int (nI st), .long sw, .ref s1, .ref s2, .ref s3, .ref s4])), (s1, .inl (cs 1, 3, .inl fp)), (s3, .inl (cs 2, 5, .inr (.inl fh)))]) (Qx := fun A => va_Qv (fun (u : Int32 × Int32 × Int64 × (Nat → Int32)) => True) (mpost D A (fun (u : Int32 × Int32 × Int64 × (Nat → Int32)) => [(aJ, .inr (2, [.ref aO, .ref aS, .ref jm, .int u.1, .int u.2.1, .long u.2.2.1, .ref jq, .ref jb, .ref jp, .ref jw, .ref jh, .ref js])), (jm, .inr (3, [.ref jx])), (jx, .inl (cs 1, 192, .inl u.2.2.2)), (aO, .inr (0, [.int tl, .int (nI tp), .int tw, .int td, .int (nI nc), .int (nI nr), .int (nI no), .int (nI na), .int tdr, .int tlo, .ref o1, .ref o2, .ref o3, .ref o4, .ref o5])), (o1, .inl (cs 1, 3, .inl fk)), (aS, .inr (6, [.int (nI zs), .int (nI sc), .int (nI st), .long sw, .ref s1, .ref s2, .ref s3, .ref s4])), (s1, .inl (cs 1, 3, .inl fp)), (s3, .inl (cs 2, 5, .inr (.inl fh)))])) A) (maxL := 1) (ret := none) (by decide) rfl (Nat.le_of_ble_eq_true rfl) ?_
  intro p e s m below meth c A ls hx hb hr hml hlk hown hts hin hK hE hP hD hA hS hl
  have hl : lv_has ls 1 [(0, .ref aJ)] := hl
  generalize hHe : s.heap = H at hP
  have hS : va_S A s.heap H [] := hHe ▸ hS
  generalize hLe : ([] : List Loc) = locs at hS ⊢
  have htw : ∀ w ∈ O_X2_asTold, w.before ([.ref aJ] : List Value).toArray s = true := fun w h => hts w (List.mem_cons_of_mem _ (List.mem_append_left _ h))
  have hFix := (⟨hx, hb, hml, hown, hts⟩ : CallFix p m c _ _ s _ _ _)
  refine lv_aload_n hx hb dX2_asTold_0 rfl (lv_at hl 0 rfl) ?_
  refine va_get (D := D) (ci := 2) (v := .ref jm) (C := RX2) (T := TX2) (N := 12) hx hb hts iuX2_asTold_X2 hown hK hP 0 rfl rfl 2 (by decide) (htw (.fieldLink RX2 12 "MergeJudge$Judge" "merger" "LMergeJudge$Merger;") (List.mem_of_getElem? (i := 0) rfl)) (fun _ h9 => h9) rfl dX2_asTold_1 ?_
  refine lv_aload_n hx hb dX2_asTold_4 rfl (lv_at hl 0 rfl) ?_
  refine va_get (D := D) (ci := 2) (v := .ref aO) (C := RX2) (T := TX2) (N := 12) hx hb hts iuX2_asTold_X2 hown hK hP 0 rfl rfl 0 (by decide) (htw (.fieldLink RX2 49 "MergeJudge$Judge" "told" "LMergeJudge$Base;") (List.mem_of_getElem? (i := 1) rfl)) (fun _ h9 => h9) rfl dX2_asTold_5 ?_
  refine lv_aload_n hx hb dX2_asTold_8 rfl (lv_at hl 0 rfl) ?_
  refine va_get (D := D) (ci := 2) (v := .ref aS) (C := RX2) (T := TX2) (N := 12) hx hb hts iuX2_asTold_X2 hown hK hP 0 rfl rfl 1 (by decide) (htw (.fieldLink RX2 53 "MergeJudge$Judge" "space" "LMergeJudge$Space;") (List.mem_of_getElem? (i := 2) rfl)) (fun _ h9 => h9) rfl dX2_asTold_9 ?_
  refine lv_aload_n hx hb dX2_asTold_12 rfl (lv_at hl 0 rfl) ?_
  refine va_get (D := D) (ci := 2) (v := .ref aO) (C := RX2) (T := TX2) (N := 12) hx hb hts iuX2_asTold_X2 hown hK hP 0 rfl rfl 0 (by decide) (htw (.fieldLink RX2 49 "MergeJudge$Judge" "told" "LMergeJudge$Base;") (List.mem_of_getElem? (i := 1) rfl)) (fun _ h9 => h9) rfl dX2_asTold_13 ?_
  refine va_get (D := D) (ci := 0) (v := .int tw) (C := RX0) (T := TX0) (N := 15) hx hb hts iuX2_asTold_X0 hown hK hP 3 rfl rfl 2 (by decide) (htw (.fieldLink RX2 57 "MergeJudge$Base" "law" "I") (List.mem_of_getElem? (i := 3) rfl)) (fun _ h9 => h9) rfl dX2_asTold_16 ?_
  refine aft_v (wr := [(aJ, .inr (2, [.ref aO, .ref aS, .ref jm, .int jd, .int jl, .long jv, .ref jq, .ref jb, .ref jp, .ref jw, .ref jh, .ref js])), (s3, .inl (cs 2, 5, .inr (.inl fh)))]) hP hD hS hA [1, 2, 3, 4, 5, 6] [0, 7] rfl rfl (by decide) (by decide) (run_v (As := [.ref aO, .ref aS, .int tw]) (rest := []) hFix hK hE hP hD [1, 2, 3, 4, 5, 6] (k_X3_fill l D cs _ jm aO aS tw jx fx tl tw td tdr tlo o1 o2 o3 o4 o5 fk sw s1 s2 s3 s4 fp tp nc nr no na zs sc st (by first | assumption | decide | omega) (by first | assumption | decide | omega) (by first | assumption | decide | omega) (by first | assumption | decide | omega) (by first | assumption | decide | omega) (by first | assumption | decide | omega) (by first | assumption | decide | omega) (by first | assumption | decide | omega)) (cwV 3 hts gc_X2_asTold_62_X3_fill rfl rfl rfl (by decide +kernel) ⟨Nat.le_of_ble_eq_true rfl, Nat.le_of_ble_eq_true rfl⟩) rfl (by decide) rfl rfl rfl hl.1 rfl (Nat.le_of_ble_eq_true rfl) dX2_asTold_19 ⟨Nat.le_of_ble_eq_true rfl, Nat.le_of_ble_eq_true rfl⟩) (fun u_1 H locs hq_1 hP hD hS => ?_)
  obtain ⟨fx1_1, rfl⟩ : ∃ z, z = u_1 := ⟨_, rfl⟩
  have hP : va_P D vwCl [(aJ, .inr (2, [.ref aO, .ref aS, .ref jm, .int jd, .int jl, .long jv, .ref jq, .ref jb, .ref jp, .ref jw, .ref jh, .ref js])), (s3, .inl (cs 2, 5, .inr (.inl fh))), (jm, .inr (3, [.ref jx])), (jx, .inl (cs 1, 192, .inl fx1_1)), (aO, .inr (0, [.int tl, .int (nI tp), .int tw, .int td, .int (nI nc), .int (nI nr), .int (nI no), .int (nI na), .int tdr, .int tlo, .ref o1, .ref o2, .ref o3, .ref o4, .ref o5])), (o1, .inl (cs 1, 3, .inl fk)), (aS, .inr (6, [.int (nI zs), .int (nI sc), .int (nI st), .long sw, .ref s1, .ref s2, .ref s3, .ref s4])), (s1, .inl (cs 1, 3, .inl fp))] H := hP
  have hD : va_D A [(aJ, .inr (2, [.ref aO, .ref aS, .ref jm, .int jd, .int jl, .long jv, .ref jq, .ref jb, .ref jp, .ref jw, .ref jh, .ref js])), (s3, .inl (cs 2, 5, .inr (.inl fh))), (jm, .inr (3, [.ref jx])), (jx, .inl (cs 1, 192, .inl fx1_1)), (aO, .inr (0, [.int tl, .int (nI tp), .int tw, .int td, .int (nI nc), .int (nI nr), .int (nI no), .int (nI na), .int tdr, .int tlo, .ref o1, .ref o2, .ref o3, .ref o4, .ref o5])), (o1, .inl (cs 1, 3, .inl fk)), (aS, .inr (6, [.int (nI zs), .int (nI sc), .int (nI st), .long sw, .ref s1, .ref s2, .ref s3, .ref s4])), (s1, .inl (cs 1, 3, .inl fp))] := hD
  refine lv_aload_n hx hb dX2_asTold_22 rfl (lv_at hl 0 rfl) ?_
  refine lv_aload_n hx hb dX2_asTold_23 rfl (lv_at hl 0 rfl) ?_
  refine va_get (D := D) (ci := 2) (v := .ref aO) (C := RX2) (T := TX2) (N := 12) hx hb hts iuX2_asTold_X2 hown hK hP 0 rfl rfl 0 (by decide) (htw (.fieldLink RX2 49 "MergeJudge$Judge" "told" "LMergeJudge$Base;") (List.mem_of_getElem? (i := 1) rfl)) (fun _ h9 => h9) rfl dX2_asTold_24 ?_
  refine va_get (D := D) (ci := 0) (v := .int tdr) (C := RX0) (T := TX0) (N := 15) hx hb hts iuX2_asTold_X0 hown hK hP 4 rfl rfl 8 (by decide) (htw (.fieldLink RX2 66 "MergeJudge$Base" "droppedRules" "I") (List.mem_of_getElem? (i := 8) rfl)) (fun _ h9 => h9) rfl dX2_asTold_27 ?_
  refine lv_aload_n hx hb dX2_asTold_30 rfl (lv_at hl 0 rfl) ?_
  refine va_get (D := D) (ci := 2) (v := .ref aO) (C := RX2) (T := TX2) (N := 12) hx hb hts iuX2_asTold_X2 hown hK hP 0 rfl rfl 0 (by decide) (htw (.fieldLink RX2 49 "MergeJudge$Judge" "told" "LMergeJudge$Base;") (List.mem_of_getElem? (i := 1) rfl)) (fun _ h9 => h9) rfl dX2_asTold_31 ?_
  refine va_get (D := D) (ci := 0) (v := .int tlo) (C := RX0) (T := TX0) (N := 15) hx hb hts iuX2_asTold_X0 hown hK hP 4 rfl rfl 9 (by decide) (htw (.fieldLink RX2 69 "MergeJudge$Base" "lockedOps" "I") (List.mem_of_getElem? (i := 9) rfl)) (fun _ h9 => h9) rfl dX2_asTold_34 ?_
  refine aft_v (wr := [(jm, .inr (3, [.ref jx])), (jx, .inl (cs 1, 192, .inl fx1_1)), (o1, .inl (cs 1, 3, .inl fk)), (s1, .inl (cs 1, 3, .inl fp))]) hP hD hS hA [0, 4, 6, 1] [2, 3, 5, 7] rfl rfl (by decide) (by decide) (run_v (As := [.int tdr, .int tlo]) (rest := []) hFix hK hE hP hD [0, 4, 6, 1] (k_X2_suppose l D cs _ aJ tdr tlo aO aS jm jd jl jv jq jb jp jw jh js tl tw td tdr tlo o1 o2 o3 o4 o5 sw s1 s2 s3 s4 fh tp nc nr no na zs sc st (by first | assumption | decide | omega) (by first | assumption | decide | omega) (by first | assumption | decide | omega) (by first | assumption | decide | omega) (by first | assumption | decide | omega) (by first | assumption | decide | omega) (by first | assumption | decide | omega) (by first | assumption | decide | omega)) (cwV 2 hts gc_X2_asTold_72_X2_suppose rfl rfl rfl (by decide +kernel) ⟨Nat.le_of_ble_eq_true rfl, Nat.le_of_ble_eq_true rfl⟩) rfl (by decide) rfl rfl rfl hl.1 rfl (Nat.le_of_ble_eq_true rfl) dX2_asTold_37 ⟨Nat.le_of_ble_eq_true rfl, Nat.le_of_ble_eq_true rfl⟩) (fun u_2 H locs hq_2 hP hD hS => ?_)
  obtain ⟨jd1_2, jl1_2, jv1_2⟩ := u_2
  have hP : va_P D vwCl [(jm, .inr (3, [.ref jx])), (jx, .inl (cs 1, 192, .inl fx1_1)), (o1, .inl (cs 1, 3, .inl fk)), (s1, .inl (cs 1, 3, .inl fp)), (aJ, .inr (2, [.ref aO, .ref aS, .ref jm, .int jd1_2, .int jl1_2, .long jv1_2, .ref jq, .ref jb, .ref jp, .ref jw, .ref jh, .ref js])), (aO, .inr (0, [.int tl, .int (nI tp), .int tw, .int td, .int (nI nc), .int (nI nr), .int (nI no), .int (nI na), .int tdr, .int tlo, .ref o1, .ref o2, .ref o3, .ref o4, .ref o5])), (aS, .inr (6, [.int (nI zs), .int (nI sc), .int (nI st), .long sw, .ref s1, .ref s2, .ref s3, .ref s4])), (s3, .inl (cs 2, 5, .inr (.inl fh)))] H := hP
  have hD : va_D A [(jm, .inr (3, [.ref jx])), (jx, .inl (cs 1, 192, .inl fx1_1)), (o1, .inl (cs 1, 3, .inl fk)), (s1, .inl (cs 1, 3, .inl fp)), (aJ, .inr (2, [.ref aO, .ref aS, .ref jm, .int jd1_2, .int jl1_2, .long jv1_2, .ref jq, .ref jb, .ref jp, .ref jw, .ref jh, .ref js])), (aO, .inr (0, [.int tl, .int (nI tp), .int tw, .int td, .int (nI nc), .int (nI nr), .int (nI no), .int (nI na), .int tdr, .int tlo, .ref o1, .ref o2, .ref o3, .ref o4, .ref o5])), (aS, .inr (6, [.int (nI zs), .int (nI sc), .int (nI st), .long sw, .ref s1, .ref s2, .ref s3, .ref s4])), (s3, .inl (cs 2, 5, .inr (.inl fh)))] := hD
  exact ret_v hx hb hr hlk hS (Nat.le_of_ble_eq_true rfl) (Nat.le_of_ble_eq_true rfl) (jd1_2, jl1_2, jv1_2, fx1_1) (trivial) (hP.sub [4, 0, 1, 5, 2, 6, 3, 7] rfl) (hD.sub [4, 0, 1, 5, 2, 6, 3, 7] (by decide) rfl) dX2_asTold_40

set_option maxHeartbeats 4000000 in
set_option maxRecDepth 100000 in
theorem k_X2_isValid (l : Launch) (D : va_G) (cs : Nat → ClassId) (sz : Nat) (aJ : Nat) (a1 : Int32) (aO : Nat) (aS : Nat) (jm : Nat) (jd : Int32) (jl : Int32) (jv : Int64) (jq : Nat) (jb : Nat) (jp : Nat) (jw : Nat) (jh : Nat) (js : Nat)  : Mi l D cs yX2_isValid W_X2_isValid 0 0 0 0 [.ref aJ, .int a1] [(aJ, .inr (2, [.ref aO, .ref aS, .ref jm, .int jd, .int jl, .long jv, .ref jq, .ref jb, .ref jp, .ref jw, .ref jh, .ref js]))] sz (fun (r : Int32) (u : Unit) => ((r = 1 ∧ True) ∨ (r = 0 ∧ True))) (fun (u : Unit) => [(aJ, .inr (2, [.ref aO, .ref aS, .ref jm, .int jd, .int jl, .long jv, .ref jq, .ref jb, .ref jp, .ref jw, .ref jh, .ref js]))]) := by
  refine ent (D := D) (cs := cs) (y := yX2_isValid) (ws := W_X2_isValid) (As := [.ref aJ, .int a1]) (W0 := [(aJ, .inr (2, [.ref aO, .ref aS, .ref jm, .int jd, .int jl, .long jv, .ref jq, .ref jb, .ref jp, .ref jw, .ref jh, .ref js]))]) (Qx := fun A => va_Qi (fun (r : Int32) (u : Unit) => ((r = 1 ∧ True) ∨ (r = 0 ∧ True))) (mpost D A (fun (u : Unit) => [(aJ, .inr (2, [.ref aO, .ref aS, .ref jm, .int jd, .int jl, .long jv, .ref jq, .ref jb, .ref jp, .ref jw, .ref jh, .ref js]))])) A) (maxL := 2) (ret := (some .boolean)) (by decide) rfl (Nat.le_of_ble_eq_true rfl) ?_
  intro p e s m below meth c A ls hx hb hr hml hlk hown hts hin hK hE hP hD hA hS hl
  have hl : lv_has ls 2 [(0, .ref aJ), (1, .int a1)] := hl
  generalize hHe : s.heap = H at hP
  have hS : va_S A s.heap H [] := hHe ▸ hS
  generalize hLe : ([] : List Loc) = locs at hS ⊢
  have htw : ∀ w ∈ O_X2_isValid, w.before ([.ref aJ, .int a1] : List Value).toArray s = true := fun w h => hts w (List.mem_cons_of_mem _ (List.mem_append_left _ h))
  have hFix := (⟨hx, hb, hml, hown, hts⟩ : CallFix p m c _ _ s _ _ _)
  refine lv_aload_n hx hb dX2_isValid_0 rfl (lv_at hl 0 rfl) ?_
  refine va_get (D := D) (ci := 2) (v := .long jv) (C := RX2) (T := TX2) (N := 12) hx hb hts iuX2_isValid_X2 hown hK hP 0 rfl rfl 5 (by decide) (htw (.fieldLink RX2 25 "MergeJudge$Judge" "validStates" "J") (List.mem_of_getElem? (i := 0) rfl)) (fun _ h9 => h9) rfl dX2_isValid_1 ?_
  refine lv_iload_n hx hb dX2_isValid_4 rfl (lv_at hl 1 rfl) ?_
  refine lv_lushr (v := (jv.toUInt64 >>> (a1.toInt64.toUInt64 &&& Int64.toUInt64 63)).toInt64) hx hb dX2_isValid_5 rfl ?_
  refine lv_lconst (v := 1) hx hb dX2_isValid_6 (by decide) ?_
  refine lv_land hx hb dX2_isValid_7 ?_
  refine lv_lconst (v := 0) hx hb dX2_isValid_8 (by decide) ?_
  refine W.lcmp hx hb dX2_isValid_9 ?_
  refine lv_if_eq (tgt := 17) hx hb dX2_isValid_10 (by decide) (fun c_1 => ?_) (fun c_1 => ?_)
  ·
    refine lv_iconst (v := 0) hx hb dX2_isValid_17 (by decide) ?_
    exact ret_z hx hb hr hlk hS (Nat.le_of_ble_eq_true rfl) (Nat.le_of_ble_eq_true rfl) (by decide) () (Or.inr (⟨rfl, trivial⟩)) (hP.sub [0] rfl) (hD.sub [0] (by decide) rfl) dX2_isValid_18
  ·
    refine lv_iconst (v := 1) hx hb dX2_isValid_13 (by decide) ?_
    refine lv_goto (tgt := 18) hx hb dX2_isValid_14 (by decide) ?_
    exact ret_z hx hb hr hlk hS (Nat.le_of_ble_eq_true rfl) (Nat.le_of_ble_eq_true rfl) (by decide) () (Or.inl ⟨rfl, trivial⟩) (hP.sub [0] rfl) (hD.sub [0] (by decide) rfl) dX2_isValid_18

set_option maxHeartbeats 4000000 in
set_option maxRecDepth 100000 in
theorem k_X6_keeps (l : Launch) (D : va_G) (cs : Nat → ClassId) (sz : Nat) (aS : Nat) (a1 : Int32) (ru : Nat) (sw : Int64) (s1 : Nat) (s2 : Nat) (s3 : Nat) (s4 : Nat) (fh : Nat → Int64) (zs : Nat) (sc : Nat) (st : Nat) (hzs : zs ≤ 64) (hsc : sc ≤ 3) (hst : st ≤ 3) (ha_ru : ru < 5) : Mi l D cs yX6_keeps W_X6_keeps 0 0 0 0 [.ref aS, .int (nI ru), .int a1] [(aS, .inr (6, [.int (nI zs), .int (nI sc), .int (nI st), .long sw, .ref s1, .ref s2, .ref s3, .ref s4])), (s3, .inl (cs 2, 5, .inr (.inl fh)))] sz (fun (r : Int32) (u : Unit) => ((r = 1 ∧ True) ∨ (r = 0 ∧ True))) (fun (u : Unit) => [(aS, .inr (6, [.int (nI zs), .int (nI sc), .int (nI st), .long sw, .ref s1, .ref s2, .ref s3, .ref s4])), (s3, .inl (cs 2, 5, .inr (.inl fh)))]) := by
  refine ent (D := D) (cs := cs) (y := yX6_keeps) (ws := W_X6_keeps) (As := [.ref aS, .int (nI ru), .int a1]) (W0 := [(aS, .inr (6, [.int (nI zs), .int (nI sc), .int (nI st), .long sw, .ref s1, .ref s2, .ref s3, .ref s4])), (s3, .inl (cs 2, 5, .inr (.inl fh)))]) (Qx := fun A => va_Qi (fun (r : Int32) (u : Unit) => ((r = 1 ∧ True) ∨ (r = 0 ∧ True))) (mpost D A (fun (u : Unit) => [(aS, .inr (6, [.int (nI zs), .int (nI sc), .int (nI st), .long sw, .ref s1, .ref s2, .ref s3, .ref s4])), (s3, .inl (cs 2, 5, .inr (.inl fh)))])) A) (maxL := 3) (ret := (some .boolean)) (by decide) rfl (Nat.le_of_ble_eq_true rfl) ?_
  intro p e s m below meth c A ls hx hb hr hml hlk hown hts hin hK hE hP hD hA hS hl
  have hl : lv_has ls 3 [(0, .ref aS), (1, .int (nI ru)), (2, .int a1)] := hl
  generalize hHe : s.heap = H at hP
  have hS : va_S A s.heap H [] := hHe ▸ hS
  generalize hLe : ([] : List Loc) = locs at hS ⊢
  have htw : ∀ w ∈ O_X6_keeps, w.before ([.ref aS, .int (nI ru), .int a1] : List Value).toArray s = true := fun w h => hts w (List.mem_cons_of_mem _ (List.mem_append_left _ h))
  have hFix := (⟨hx, hb, hml, hown, hts⟩ : CallFix p m c _ _ s _ _ _)
  refine lv_aload_n hx hb dX6_keeps_0 rfl (lv_at hl 0 rfl) ?_
  refine va_get (D := D) (ci := 6) (v := .ref s3) (C := RX6) (T := TX6) (N := 8) hx hb hts iuX6_keeps_X6 hown hK hP 0 rfl rfl 6 (by decide) (htw (.fieldLink RX6 32 "MergeJudge$Space" "holding" "[J") (List.mem_of_getElem? (i := 0) rfl)) (fun _ h9 => h9) rfl dX6_keeps_1 ?_
  refine lv_iload_n hx hb dX6_keeps_4 rfl (lv_at hl 1 rfl) ?_
  refine va_lald hx hb hK hP 1 2 rfl rfl (vp_in_nI (by omega) (by omega)) dX6_keeps_5 ?_
  rw [nI_clamp (by omega)]
  refine lv_iload_n hx hb dX6_keeps_6 rfl (lv_at hl 2 rfl) ?_
  refine lv_lushr (v := ((fh ru).toUInt64 >>> (a1.toInt64.toUInt64 &&& Int64.toUInt64 63)).toInt64) hx hb dX6_keeps_7 rfl ?_
  refine lv_lconst (v := 1) hx hb dX6_keeps_8 (by decide) ?_
  refine lv_land hx hb dX6_keeps_9 ?_
  refine lv_lconst (v := 0) hx hb dX6_keeps_10 (by decide) ?_
  refine W.lcmp hx hb dX6_keeps_11 ?_
  refine lv_if_eq (tgt := 19) hx hb dX6_keeps_12 (by decide) (fun c_1 => ?_) (fun c_1 => ?_)
  ·
    refine lv_iconst (v := 0) hx hb dX6_keeps_19 (by decide) ?_
    exact ret_z hx hb hr hlk hS (Nat.le_of_ble_eq_true rfl) (Nat.le_of_ble_eq_true rfl) (by decide) () (Or.inr (⟨rfl, trivial⟩)) (hP.sub [0, 1] rfl) (hD.sub [0, 1] (by decide) rfl) dX6_keeps_20
  ·
    refine lv_iconst (v := 1) hx hb dX6_keeps_15 (by decide) ?_
    refine lv_goto (tgt := 20) hx hb dX6_keeps_16 (by decide) ?_
    exact ret_z hx hb hr hlk hS (Nat.le_of_ble_eq_true rfl) (Nat.le_of_ble_eq_true rfl) (by decide) () (Or.inl ⟨rfl, trivial⟩) (hP.sub [0, 1] rfl) (hD.sub [0, 1] (by decide) rfl) dX6_keeps_20

set_option maxHeartbeats 4000000 in
set_option maxRecDepth 100000 in
theorem k_X2_isBrokenBy (l : Launch) (D : va_G) (cs : Nat → ClassId) (sz : Nat) (aJ : Nat) (a1 : Int32) (ru : Nat) (aO : Nat) (aS : Nat) (jm : Nat) (jd : Int32) (jl : Int32) (jv : Int64) (jq : Nat) (jb : Nat) (jp : Nat) (jw : Nat) (jh : Nat) (js : Nat) (sw : Int64) (s1 : Nat) (s2 : Nat) (s3 : Nat) (s4 : Nat) (fh : Nat → Int64) (zs : Nat) (sc : Nat) (st : Nat) (hzs : zs ≤ 64) (hsc : sc ≤ 3) (hst : st ≤ 3) (ha_ru : ru < 5) : Mi l D cs yX2_isBrokenBy W_X2_isBrokenBy 1 22 0 0 [.ref aJ, .int (nI ru), .int a1] [(aJ, .inr (2, [.ref aO, .ref aS, .ref jm, .int jd, .int jl, .long jv, .ref jq, .ref jb, .ref jp, .ref jw, .ref jh, .ref js])), (aS, .inr (6, [.int (nI zs), .int (nI sc), .int (nI st), .long sw, .ref s1, .ref s2, .ref s3, .ref s4])), (s3, .inl (cs 2, 5, .inr (.inl fh)))] sz (fun (r : Int32) (u : Unit) => ((r = 1 ∧ True) ∨ (r = 0 ∧ True))) (fun (u : Unit) => [(aJ, .inr (2, [.ref aO, .ref aS, .ref jm, .int jd, .int jl, .long jv, .ref jq, .ref jb, .ref jp, .ref jw, .ref jh, .ref js])), (aS, .inr (6, [.int (nI zs), .int (nI sc), .int (nI st), .long sw, .ref s1, .ref s2, .ref s3, .ref s4])), (s3, .inl (cs 2, 5, .inr (.inl fh)))]) := by
  refine ent (D := D) (cs := cs) (y := yX2_isBrokenBy) (ws := W_X2_isBrokenBy) (As := [.ref aJ, .int (nI ru), .int a1]) (W0 := [(aJ, .inr (2, [.ref aO, .ref aS, .ref jm, .int jd, .int jl, .long jv, .ref jq, .ref jb, .ref jp, .ref jw, .ref jh, .ref js])), (aS, .inr (6, [.int (nI zs), .int (nI sc), .int (nI st), .long sw, .ref s1, .ref s2, .ref s3, .ref s4])), (s3, .inl (cs 2, 5, .inr (.inl fh)))]) (Qx := fun A => va_Qi (fun (r : Int32) (u : Unit) => ((r = 1 ∧ True) ∨ (r = 0 ∧ True))) (mpost D A (fun (u : Unit) => [(aJ, .inr (2, [.ref aO, .ref aS, .ref jm, .int jd, .int jl, .long jv, .ref jq, .ref jb, .ref jp, .ref jw, .ref jh, .ref js])), (aS, .inr (6, [.int (nI zs), .int (nI sc), .int (nI st), .long sw, .ref s1, .ref s2, .ref s3, .ref s4])), (s3, .inl (cs 2, 5, .inr (.inl fh)))])) A) (maxL := 3) (ret := (some .boolean)) (by decide) rfl (Nat.le_of_ble_eq_true rfl) ?_
  intro p e s m below meth c A ls hx hb hr hml hlk hown hts hin hK hE hP hD hA hS hl
  have hl : lv_has ls 3 [(0, .ref aJ), (1, .int (nI ru)), (2, .int a1)] := hl
  generalize hHe : s.heap = H at hP
  have hS : va_S A s.heap H [] := hHe ▸ hS
  generalize hLe : ([] : List Loc) = locs at hS ⊢
  have htw : ∀ w ∈ O_X2_isBrokenBy, w.before ([.ref aJ, .int (nI ru), .int a1] : List Value).toArray s = true := fun w h => hts w (List.mem_cons_of_mem _ (List.mem_append_left _ h))
  have hFix := (⟨hx, hb, hml, hown, hts⟩ : CallFix p m c _ _ s _ _ _)
  refine lv_aload_n hx hb dX2_isBrokenBy_0 rfl (lv_at hl 0 rfl) ?_
  refine va_get (D := D) (ci := 2) (v := .int jd) (C := RX2) (T := TX2) (N := 12) hx hb hts iuX2_isBrokenBy_X2 hown hK hP 0 rfl rfl 3 (by decide) (htw (.fieldLink RX2 18 "MergeJudge$Judge" "dropped" "I") (List.mem_of_getElem? (i := 0) rfl)) (fun _ h9 => h9) rfl dX2_isBrokenBy_1 ?_
  refine lv_iload_n hx hb dX2_isBrokenBy_4 rfl (lv_at hl 1 rfl) ?_
  refine lv_ishr hx hb dX2_isBrokenBy_5 ?_
  refine lv_iconst (v := 1) hx hb dX2_isBrokenBy_6 (by decide) ?_
  refine lv_iand hx hb dX2_isBrokenBy_7 ?_
  obtain ⟨j_1, hj_1, ej_1⟩ := pk_andE (jd >>> ((nI ru) &&& 31)) (m := 1) 1 (by decide)
  replace hj_1 : j_1 < 2 := hj_1
  refine cf_i (nI j_1) ej_1 ?_
  refine lv_if_ne (tgt := 27) hx hb dX2_isBrokenBy_8 (by decide) (fun c_2 => ?_) (fun c_2 => ?_)
  ·
    have hn_2 := bne_t (a := j_1) (b := 0) c_2 (by omega) (by omega)
    refine lv_iconst (v := 0) hx hb dX2_isBrokenBy_27 (by decide) ?_
    exact ret_z hx hb hr hlk hS (Nat.le_of_ble_eq_true rfl) (Nat.le_of_ble_eq_true rfl) (by decide) () (Or.inr (⟨rfl, trivial⟩)) (hP.sub [0, 1, 2] rfl) (hD.sub [0, 1, 2] (by decide) rfl) dX2_isBrokenBy_28
  ·
    have hn_2 := bne_f (a := j_1) (b := 0) c_2 (by omega) (by omega)
    refine lv_aload_n hx hb dX2_isBrokenBy_11 rfl (lv_at hl 0 rfl) ?_
    refine va_get (D := D) (ci := 2) (v := .ref aS) (C := RX2) (T := TX2) (N := 12) hx hb hts iuX2_isBrokenBy_X2 hown hK hP 0 rfl rfl 1 (by decide) (htw (.fieldLink RX2 53 "MergeJudge$Judge" "space" "LMergeJudge$Space;") (List.mem_of_getElem? (i := 1) rfl)) (fun _ h9 => h9) rfl dX2_isBrokenBy_12 ?_
    refine lv_iload_n hx hb dX2_isBrokenBy_15 rfl (lv_at hl 1 rfl) ?_
    refine lv_iload_n hx hb dX2_isBrokenBy_16 rfl (lv_at hl 2 rfl) ?_
    refine aft_i (wr := [(aJ, .inr (2, [.ref aO, .ref aS, .ref jm, .int jd, .int jl, .long jv, .ref jq, .ref jb, .ref jp, .ref jw, .ref jh, .ref js]))]) hP hD hS hA [1, 2] [0] rfl rfl (by decide) (by decide) (run_v (As := [.int (nI ru), .int a1]) (rest := []) hFix hK hE hP hD [1, 2] (k_X6_keeps l D cs _ aS a1 ru sw s1 s2 s3 s4 fh zs sc st (by first | assumption | decide | omega) (by first | assumption | decide | omega) (by first | assumption | decide | omega) (by first | assumption | decide | omega)) (cwV 2 hts gc_X2_isBrokenBy_127_X6_keeps rfl rfl rfl (by decide +kernel) ⟨Nat.le_of_ble_eq_true rfl, Nat.le_of_ble_eq_true rfl⟩) rfl (by decide) rfl rfl rfl hl.1 rfl (Nat.le_of_ble_eq_true rfl) dX2_isBrokenBy_17 ⟨Nat.le_of_ble_eq_true rfl, Nat.le_of_ble_eq_true rfl⟩) (fun r_3 u_3 H locs hq_3 hP hD hS => ?_)
    have hP : va_P D vwCl [(aJ, .inr (2, [.ref aO, .ref aS, .ref jm, .int jd, .int jl, .long jv, .ref jq, .ref jb, .ref jp, .ref jw, .ref jh, .ref js])), (aS, .inr (6, [.int (nI zs), .int (nI sc), .int (nI st), .long sw, .ref s1, .ref s2, .ref s3, .ref s4])), (s3, .inl (cs 2, 5, .inr (.inl fh)))] H := hP
    have hD : va_D A [(aJ, .inr (2, [.ref aO, .ref aS, .ref jm, .int jd, .int jl, .long jv, .ref jq, .ref jb, .ref jp, .ref jw, .ref jh, .ref js])), (aS, .inr (6, [.int (nI zs), .int (nI sc), .int (nI st), .long sw, .ref s1, .ref s2, .ref s3, .ref s4])), (s3, .inl (cs 2, 5, .inr (.inl fh)))] := hD
    replace hq_3 : ((r_3 = 1 ∧ True) ∨ (r_3 = 0 ∧ True)) := hq_3
    rcases hq_3 with ⟨rfl, hq_3⟩ | ⟨rfl, hq_3⟩
    ·
      refine lv_if_ne (tgt := 27) hx hb dX2_isBrokenBy_20 (by decide) (fun _ => ?_) (fun h9 => absurd h9 (by decide))
      refine lv_iconst (v := 0) hx hb dX2_isBrokenBy_27 (by decide) ?_
      exact ret_z hx hb hr hlk hS (Nat.le_of_ble_eq_true rfl) (Nat.le_of_ble_eq_true rfl) (by decide) () (Or.inr (⟨rfl, trivial⟩)) (hP.sub [0, 1, 2] rfl) (hD.sub [0, 1, 2] (by decide) rfl) dX2_isBrokenBy_28
    ·
      refine lv_if_ne (tgt := 27) hx hb dX2_isBrokenBy_20 (by decide) (fun h9 => absurd h9 (by decide)) (fun _ => ?_)
      refine lv_iconst (v := 1) hx hb dX2_isBrokenBy_23 (by decide) ?_
      refine lv_goto (tgt := 28) hx hb dX2_isBrokenBy_24 (by decide) ?_
      exact ret_z hx hb hr hlk hS (Nat.le_of_ble_eq_true rfl) (Nat.le_of_ble_eq_true rfl) (by decide) () (Or.inl ⟨rfl, trivial⟩) (hP.sub [0, 1, 2] rfl) (hD.sub [0, 1, 2] (by decide) rfl) dX2_isBrokenBy_28

set_option maxHeartbeats 4000000 in
set_option maxRecDepth 100000 in
theorem k_X2_firstBroken (l : Launch) (D : va_G) (cs : Nat → ClassId) (sz : Nat) (aJ : Nat) (a1 : Int32) (aO : Nat) (aS : Nat) (jm : Nat) (jd : Int32) (jl : Int32) (jv : Int64) (jq : Nat) (jb : Nat) (jp : Nat) (jw : Nat) (jh : Nat) (js : Nat) (tl : Int32) (tw : Int32) (td : Int32) (tdr : Int32) (tlo : Int32) (o1 : Nat) (o2 : Nat) (o3 : Nat) (o4 : Nat) (o5 : Nat) (sw : Int64) (s1 : Nat) (s2 : Nat) (s3 : Nat) (s4 : Nat) (fh : Nat → Int64) (tp : Nat) (nc : Nat) (nr : Nat) (no : Nat) (na : Nat) (zs : Nat) (sc : Nat) (st : Nat) (htp : tp ≤ 3) (hnc : nc ≤ 3) (hnr : nr ≤ 5) (hno : no ≤ 5) (hna : na ≤ 20) (hzs : zs ≤ 64) (hsc : sc ≤ 3) (hst : st ≤ 3) : Mi l D cs yX2_firstBroken W_X2_firstBroken 2 44 0 0 [.ref aJ, .int a1] [(aJ, .inr (2, [.ref aO, .ref aS, .ref jm, .int jd, .int jl, .long jv, .ref jq, .ref jb, .ref jp, .ref jw, .ref jh, .ref js])), (aO, .inr (0, [.int tl, .int (nI tp), .int tw, .int td, .int (nI nc), .int (nI nr), .int (nI no), .int (nI na), .int tdr, .int tlo, .ref o1, .ref o2, .ref o3, .ref o4, .ref o5])), (aS, .inr (6, [.int (nI zs), .int (nI sc), .int (nI st), .long sw, .ref s1, .ref s2, .ref s3, .ref s4])), (s3, .inl (cs 2, 5, .inr (.inl fh)))] sz (fun (r : Int32) (u : Unit) => True) (fun (u : Unit) => [(aJ, .inr (2, [.ref aO, .ref aS, .ref jm, .int jd, .int jl, .long jv, .ref jq, .ref jb, .ref jp, .ref jw, .ref jh, .ref js])), (aO, .inr (0, [.int tl, .int (nI tp), .int tw, .int td, .int (nI nc), .int (nI nr), .int (nI no), .int (nI na), .int tdr, .int tlo, .ref o1, .ref o2, .ref o3, .ref o4, .ref o5])), (aS, .inr (6, [.int (nI zs), .int (nI sc), .int (nI st), .long sw, .ref s1, .ref s2, .ref s3, .ref s4])), (s3, .inl (cs 2, 5, .inr (.inl fh)))]) := by
  refine ent (D := D) (cs := cs) (y := yX2_firstBroken) (ws := W_X2_firstBroken) (As := [.ref aJ, .int a1]) (W0 := [(aJ, .inr (2, [.ref aO, .ref aS, .ref jm, .int jd, .int jl, .long jv, .ref jq, .ref jb, .ref jp, .ref jw, .ref jh, .ref js])), (aO, .inr (0, [.int tl, .int (nI tp), .int tw, .int td, .int (nI nc), .int (nI nr), .int (nI no), .int (nI na), .int tdr, .int tlo, .ref o1, .ref o2, .ref o3, .ref o4, .ref o5])), (aS, .inr (6, [.int (nI zs), .int (nI sc), .int (nI st), .long sw, .ref s1, .ref s2, .ref s3, .ref s4])), (s3, .inl (cs 2, 5, .inr (.inl fh)))]) (Qx := fun A => va_Qi (fun (r : Int32) (u : Unit) => True) (mpost D A (fun (u : Unit) => [(aJ, .inr (2, [.ref aO, .ref aS, .ref jm, .int jd, .int jl, .long jv, .ref jq, .ref jb, .ref jp, .ref jw, .ref jh, .ref js])), (aO, .inr (0, [.int tl, .int (nI tp), .int tw, .int td, .int (nI nc), .int (nI nr), .int (nI no), .int (nI na), .int tdr, .int tlo, .ref o1, .ref o2, .ref o3, .ref o4, .ref o5])), (aS, .inr (6, [.int (nI zs), .int (nI sc), .int (nI st), .long sw, .ref s1, .ref s2, .ref s3, .ref s4])), (s3, .inl (cs 2, 5, .inr (.inl fh)))])) A) (maxL := 3) (ret := (some .int)) (by decide) rfl (Nat.le_of_ble_eq_true rfl) ?_
  intro p e s m below meth c A ls hx hb hr hml hlk hown hts hin hK hE hP hD hA hS hl
  have hl : lv_has ls 3 [(0, .ref aJ), (1, .int a1)] := hl
  generalize hHe : s.heap = H at hP
  have hS : va_S A s.heap H [] := hHe ▸ hS
  generalize hLe : ([] : List Loc) = locs at hS ⊢
  have htw : ∀ w ∈ O_X2_firstBroken, w.before ([.ref aJ, .int a1] : List Value).toArray s = true := fun w h => hts w (List.mem_cons_of_mem _ (List.mem_append_left _ h))
  have hFix := (⟨hx, hb, hml, hown, hts⟩ : CallFix p m c _ _ s _ _ _)
  refine lv_iconst (v := 0) hx hb dX2_firstBroken_0 (by decide) ?_
  refine lv_istore_n (lv' := [(2, .int 0), (0, .ref aJ), (1, .int a1)]) hx hb dX2_firstBroken_1 rfl hl (by decide) rfl (fun ls hl => ?_)
  have lp_2 : ∀ (nfu : Nat) (i_1 : Nat) (H : Heap) (locs : List Loc) (ls : Array Slot) (hi_1 : i_1 ≤ nr), nr - i_1 < nfu → va_P D vwCl [(aJ, .inr (2, [.ref aO, .ref aS, .ref jm, .int jd, .int jl, .long jv, .ref jq, .ref jb, .ref jp, .ref jw, .ref jh, .ref js])), (aO, .inr (0, [.int tl, .int (nI tp), .int tw, .int td, .int (nI nc), .int (nI nr), .int (nI no), .int (nI na), .int tdr, .int tlo, .ref o1, .ref o2, .ref o3, .ref o4, .ref o5])), (aS, .inr (6, [.int (nI zs), .int (nI sc), .int (nI st), .long sw, .ref s1, .ref s2, .ref s3, .ref s4])), (s3, .inl (cs 2, 5, .inr (.inl fh)))] H → va_D A [(aJ, .inr (2, [.ref aO, .ref aS, .ref jm, .int jd, .int jl, .long jv, .ref jq, .ref jb, .ref jp, .ref jw, .ref jh, .ref js])), (aO, .inr (0, [.int tl, .int (nI tp), .int tw, .int td, .int (nI nc), .int (nI nr), .int (nI no), .int (nI na), .int tdr, .int tlo, .ref o1, .ref o2, .ref o3, .ref o4, .ref o5])), (aS, .inr (6, [.int (nI zs), .int (nI sc), .int (nI st), .long sw, .ref s1, .ref s2, .ref s3, .ref s4])), (s3, .inl (cs 2, 5, .inr (.inl fh)))] → va_S A s.heap H locs → lv_has ls 3 [(2, .int (nI i_1)), (0, .ref aJ), (1, .int a1)] → W p l e (mRm 2 0 0 44) s m ([.ref aJ, .int a1] : List Value).toArray below meth c H locs 0 0 (MQ below (va_Qi (fun (r : Int32) (u : Unit) => True) (mpost D A (fun (u : Unit) => [(aJ, .inr (2, [.ref aO, .ref aS, .ref jm, .int jd, .int jl, .long jv, .ref jq, .ref jb, .ref jp, .ref jw, .ref jh, .ref js])), (aO, .inr (0, [.int tl, .int (nI tp), .int tw, .int td, .int (nI nc), .int (nI nr), .int (nI no), .int (nI na), .int tdr, .int tlo, .ref o1, .ref o2, .ref o3, .ref o4, .ref o5])), (aS, .inr (6, [.int (nI zs), .int (nI sc), .int (nI st), .long sw, .ref s1, .ref s2, .ref s3, .ref s4])), (s3, .inl (cs 2, 5, .inr (.inl fh)))])) A) ([.ref aJ, .int a1] : List Value).toArray s 0 0 A) (F0 m 2 ls []) := by
    intro nfu
    induction nfu with
    | zero => intro i_1 H locs ls hi_1 hmu; exact absurd hmu (Nat.not_lt_zero _)
    | succ nfu ih =>
      intro i_1 H locs ls hi_1 hmu hP hD hS hl
      have ih_lp_2 := @ih
      refine lv_iload_n hx hb dX2_firstBroken_2 rfl (lv_at hl 0 rfl) ?_
      refine lv_aload_n hx hb dX2_firstBroken_3 rfl (lv_at hl 1 rfl) ?_
      refine va_get (D := D) (ci := 2) (v := .ref aO) (C := RX2) (T := TX2) (N := 12) hx hb hts iuX2_firstBroken_X2 hown hK hP 0 rfl rfl 0 (by decide) (htw (.fieldLink RX2 49 "MergeJudge$Judge" "told" "LMergeJudge$Base;") (List.mem_of_getElem? (i := 0) rfl)) (fun _ h9 => h9) rfl dX2_firstBroken_4 ?_
      refine va_get (D := D) (ci := 0) (v := .int (nI nr)) (C := RX0) (T := TX0) (N := 15) hx hb hts iuX2_firstBroken_X0 hown hK hP 1 rfl rfl 5 (by decide) (htw (.fieldLink RX2 81 "MergeJudge$Base" "rules" "I") (List.mem_of_getElem? (i := 1) rfl)) (fun _ h9 => h9) rfl dX2_firstBroken_7 ?_
      refine lv_icmp_ge (tgt := 30) hx hb dX2_firstBroken_10 (by decide) (fun c_3 => ?_) (fun c_3 => ?_)
      ·
        have hn_3 := bge_t (a := i_1) (b := nr) c_3 (by omega) (by omega)
        refine lv_iconst (v := (-1)) hx hb dX2_firstBroken_30 (by decide) ?_
        exact ret_i hx hb hr hlk hS (Nat.le_of_ble_eq_true rfl) (Nat.le_of_ble_eq_true rfl) () (trivial) (hP.sub [0, 1, 2, 3] rfl) (hD.sub [0, 1, 2, 3] (by decide) rfl) dX2_firstBroken_31
      ·
        have hn_3 := bge_f (a := i_1) (b := nr) c_3 (by omega) (by omega)
        refine lv_aload_n hx hb dX2_firstBroken_13 rfl (lv_at hl 1 rfl) ?_
        refine lv_iload_n hx hb dX2_firstBroken_14 rfl (lv_at hl 0 rfl) ?_
        refine lv_iload_n hx hb dX2_firstBroken_15 rfl (lv_at hl 2 rfl) ?_
        refine aft_i (wr := [(aO, .inr (0, [.int tl, .int (nI tp), .int tw, .int td, .int (nI nc), .int (nI nr), .int (nI no), .int (nI na), .int tdr, .int tlo, .ref o1, .ref o2, .ref o3, .ref o4, .ref o5]))]) hP hD hS hA [0, 2, 3] [1] rfl rfl (by decide) (by decide) (run_v (As := [.int (nI i_1), .int a1]) (rest := []) hFix hK hE hP hD [0, 2, 3] (k_X2_isBrokenBy l D cs _ aJ a1 i_1 aO aS jm jd jl jv jq jb jp jw jh js sw s1 s2 s3 s4 fh zs sc st (by first | assumption | decide | omega) (by first | assumption | decide | omega) (by first | assumption | decide | omega) (by first | assumption | decide | omega)) (cwV 2 hts gc_X2_firstBroken_124_X2_isBrokenBy rfl rfl rfl (by decide +kernel) ⟨Nat.le_of_ble_eq_true rfl, Nat.le_of_ble_eq_true rfl⟩) rfl (by decide) rfl rfl rfl hl.1 rfl (Nat.le_of_ble_eq_true rfl) dX2_firstBroken_16 ⟨Nat.le_of_ble_eq_true rfl, Nat.le_of_ble_eq_true rfl⟩) (fun r_4 u_4 H locs hq_4 hP hD hS => ?_)
        have hP : va_P D vwCl [(aO, .inr (0, [.int tl, .int (nI tp), .int tw, .int td, .int (nI nc), .int (nI nr), .int (nI no), .int (nI na), .int tdr, .int tlo, .ref o1, .ref o2, .ref o3, .ref o4, .ref o5])), (aJ, .inr (2, [.ref aO, .ref aS, .ref jm, .int jd, .int jl, .long jv, .ref jq, .ref jb, .ref jp, .ref jw, .ref jh, .ref js])), (aS, .inr (6, [.int (nI zs), .int (nI sc), .int (nI st), .long sw, .ref s1, .ref s2, .ref s3, .ref s4])), (s3, .inl (cs 2, 5, .inr (.inl fh)))] H := hP
        have hD : va_D A [(aO, .inr (0, [.int tl, .int (nI tp), .int tw, .int td, .int (nI nc), .int (nI nr), .int (nI no), .int (nI na), .int tdr, .int tlo, .ref o1, .ref o2, .ref o3, .ref o4, .ref o5])), (aJ, .inr (2, [.ref aO, .ref aS, .ref jm, .int jd, .int jl, .long jv, .ref jq, .ref jb, .ref jp, .ref jw, .ref jh, .ref js])), (aS, .inr (6, [.int (nI zs), .int (nI sc), .int (nI st), .long sw, .ref s1, .ref s2, .ref s3, .ref s4])), (s3, .inl (cs 2, 5, .inr (.inl fh)))] := hD
        replace hq_4 : ((r_4 = 1 ∧ True) ∨ (r_4 = 0 ∧ True)) := hq_4
        rcases hq_4 with ⟨rfl, hq_4⟩ | ⟨rfl, hq_4⟩
        ·
          refine lv_if_eq (tgt := 24) hx hb dX2_firstBroken_19 (by decide) (fun h9 => absurd h9 (by decide)) (fun _ => ?_)
          refine lv_iload_n hx hb dX2_firstBroken_22 rfl (lv_at hl 0 rfl) ?_
          exact ret_i hx hb hr hlk hS (Nat.le_of_ble_eq_true rfl) (Nat.le_of_ble_eq_true rfl) () (trivial) (hP.sub [1, 0, 2, 3] rfl) (hD.sub [1, 0, 2, 3] (by decide) rfl) dX2_firstBroken_23
        ·
          refine lv_if_eq (tgt := 24) hx hb dX2_firstBroken_19 (by decide) (fun _ => ?_) (fun h9 => absurd h9 (by decide))
          refine lv_iinc (v := (nI (i_1 + 1))) (lv' := [(2, .int (nI (i_1 + 1))), (0, .ref aJ), (1, .int a1)]) hx hb dX2_firstBroken_24 hl (k := 0) rfl (nI_1 _) (by decide) rfl (fun ls hl => ?_)
          refine lv_goto (tgt := 2) hx hb dX2_firstBroken_27 (by decide) ?_
          exact ih_lp_2 (i_1 + 1) H locs ls (by omega) (by omega) (hP.sub [1, 0, 2, 3] rfl) (hD.sub [1, 0, 2, 3] (by decide) rfl) hS (lv_sub hl [0, 1, 2] rfl)
  exact lp_2 _ 0 H locs ls (by omega) (Nat.lt_succ_self _) (hP.sub [0, 1, 2, 3] rfl) (hD.sub [0, 1, 2, 3] (by decide) rfl) hS (lv_sub hl [0, 1, 2] rfl)

set_option maxHeartbeats 4000000 in
set_option maxRecDepth 100000 in
theorem k_X2_outcome (l : Launch) (D : va_G) (cs : Nat → ClassId) (sz : Nat) (aJ : Nat) (op : Nat) (sta : Nat) (aO : Nat) (aS : Nat) (jm : Nat) (jd : Int32) (jl : Int32) (jv : Int64) (jq : Nat) (jb : Nat) (jp : Nat) (jw : Nat) (jh : Nat) (js : Nat) (sw : Int64) (s1 : Nat) (s2 : Nat) (s3 : Nat) (s4 : Nat) (fr : Nat → Int32) (zs : Nat) (sc : Nat) (st : Nat) (hzs : zs ≤ 64) (hsc : sc ≤ 3) (hst : st ≤ 3) (hres : RES fr) (ha_op : op < 5) (ha_sta : sta < 64) : Mi l D cs yX2_outcome W_X2_outcome 0 0 0 0 [.ref aJ, .int (nI op), .int (nI sta)] [(aJ, .inr (2, [.ref aO, .ref aS, .ref jm, .int jd, .int jl, .long jv, .ref jq, .ref jb, .ref jp, .ref jw, .ref jh, .ref js])), (aS, .inr (6, [.int (nI zs), .int (nI sc), .int (nI st), .long sw, .ref s1, .ref s2, .ref s3, .ref s4])), (s4, .inl (cs 1, 320, .inl fr))] sz (fun (r : Int32) (u : Nat) => ((r = (-1) ∧ True) ∨ (r = nI u ∧ u < 64))) (fun (u : Nat) => [(aJ, .inr (2, [.ref aO, .ref aS, .ref jm, .int jd, .int jl, .long jv, .ref jq, .ref jb, .ref jp, .ref jw, .ref jh, .ref js])), (aS, .inr (6, [.int (nI zs), .int (nI sc), .int (nI st), .long sw, .ref s1, .ref s2, .ref s3, .ref s4])), (s4, .inl (cs 1, 320, .inl fr))]) := by
  refine ent (D := D) (cs := cs) (y := yX2_outcome) (ws := W_X2_outcome) (As := [.ref aJ, .int (nI op), .int (nI sta)]) (W0 := [(aJ, .inr (2, [.ref aO, .ref aS, .ref jm, .int jd, .int jl, .long jv, .ref jq, .ref jb, .ref jp, .ref jw, .ref jh, .ref js])), (aS, .inr (6, [.int (nI zs), .int (nI sc), .int (nI st), .long sw, .ref s1, .ref s2, .ref s3, .ref s4])), (s4, .inl (cs 1, 320, .inl fr))]) (Qx := fun A => va_Qi (fun (r : Int32) (u : Nat) => ((r = (-1) ∧ True) ∨ (r = nI u ∧ u < 64))) (mpost D A (fun (u : Nat) => [(aJ, .inr (2, [.ref aO, .ref aS, .ref jm, .int jd, .int jl, .long jv, .ref jq, .ref jb, .ref jp, .ref jw, .ref jh, .ref js])), (aS, .inr (6, [.int (nI zs), .int (nI sc), .int (nI st), .long sw, .ref s1, .ref s2, .ref s3, .ref s4])), (s4, .inl (cs 1, 320, .inl fr))])) A) (maxL := 4) (ret := (some .int)) (by decide) rfl (Nat.le_of_ble_eq_true rfl) ?_
  intro p e s m below meth c A ls hx hb hr hml hlk hown hts hin hK hE hP hD hA hS hl
  have hl : lv_has ls 4 [(0, .ref aJ), (1, .int (nI op)), (2, .int (nI sta))] := hl
  generalize hHe : s.heap = H at hP
  have hS : va_S A s.heap H [] := hHe ▸ hS
  generalize hLe : ([] : List Loc) = locs at hS ⊢
  have htw : ∀ w ∈ O_X2_outcome, w.before ([.ref aJ, .int (nI op), .int (nI sta)] : List Value).toArray s = true := fun w h => hts w (List.mem_cons_of_mem _ (List.mem_append_left _ h))
  have hFix := (⟨hx, hb, hml, hown, hts⟩ : CallFix p m c _ _ s _ _ _)
  refine lv_aload_n hx hb dX2_outcome_0 rfl (lv_at hl 0 rfl) ?_
  refine va_get (D := D) (ci := 2) (v := .ref aS) (C := RX2) (T := TX2) (N := 12) hx hb hts iuX2_outcome_X2 hown hK hP 0 rfl rfl 1 (by decide) (htw (.fieldLink RX2 53 "MergeJudge$Judge" "space" "LMergeJudge$Space;") (List.mem_of_getElem? (i := 0) rfl)) (fun _ h9 => h9) rfl dX2_outcome_1 ?_
  refine va_get (D := D) (ci := 6) (v := .ref s4) (C := RX6) (T := TX6) (N := 8) hx hb hts iuX2_outcome_X6 hown hK hP 1 rfl rfl 7 (by decide) (htw (.fieldLink RX2 130 "MergeJudge$Space" "results" "[I") (List.mem_of_getElem? (i := 1) rfl)) (fun _ h9 => h9) rfl dX2_outcome_4 ?_
  refine lv_iload_n hx hb dX2_outcome_7 rfl (lv_at hl 1 rfl) ?_
  refine lv_bipush (v := 64) hx hb dX2_outcome_8 (by decide) ?_
  refine lv_imul hx hb dX2_outcome_10 ?_
  refine cf_i (nI (op * 64)) (pk_mul op 64) ?_
  refine lv_iload_n hx hb dX2_outcome_11 rfl (lv_at hl 2 rfl) ?_
  refine lv_iadd hx hb dX2_outcome_12 ?_
  refine cf_i (nI ((op * 64) + sta)) (nI_add (op * 64) sta) ?_
  refine va_iald hx hb hK hP 2 1 rfl rfl (vp_in_nI (by omega) (by omega)) dX2_outcome_13 ?_
  rw [nI_clamp (by omega)]
  rcases (show RES fr by assumption) ((op * 64) + sta) (by omega) with hr_1 | ⟨j_1, hj_1, hr_1⟩
  ·
    refine cf_i (-1) hr_1 ?_
    refine lv_istore_n (lv' := [(3, .int (-1)), (0, .ref aJ), (1, .int (nI op)), (2, .int (nI sta))]) hx hb dX2_outcome_14 rfl hl (by decide) rfl (fun ls hl => ?_)
    refine lv_iload_n hx hb dX2_outcome_15 rfl (lv_at hl 0 rfl) ?_
    refine lv_iconst (v := (-1)) hx hb dX2_outcome_16 (by decide) ?_
    refine lv_icmp_eq (tgt := 37) hx hb dX2_outcome_17 (by decide) (fun _ => ?_) (fun h9 => absurd h9 (by decide))
    refine lv_iconst (v := (-1)) hx hb dX2_outcome_37 (by decide) ?_
    exact ret_i hx hb hr hlk hS (Nat.le_of_ble_eq_true rfl) (Nat.le_of_ble_eq_true rfl) (0) (Or.inl ⟨rfl, trivial⟩) (hP.sub [0, 1, 2] rfl) (hD.sub [0, 1, 2] (by decide) rfl) dX2_outcome_38
  ·
    refine cf_i (nI j_1) hr_1 ?_
    refine lv_istore_n (lv' := [(3, .int (nI j_1)), (0, .ref aJ), (1, .int (nI op)), (2, .int (nI sta))]) hx hb dX2_outcome_14 rfl hl (by decide) rfl (fun ls hl => ?_)
    refine lv_iload_n hx hb dX2_outcome_15 rfl (lv_at hl 0 rfl) ?_
    refine lv_iconst (v := (-1)) hx hb dX2_outcome_16 (by decide) ?_
    refine lv_icmp_eq (tgt := 37) hx hb dX2_outcome_17 (by decide) (fun h9 => False.elim (nneg_eq (a := j_1) h9 (by omega) (by decide))) (fun _ => ?_)
    refine lv_aload_n hx hb dX2_outcome_20 rfl (lv_at hl 1 rfl) ?_
    refine va_get (D := D) (ci := 2) (v := .long jv) (C := RX2) (T := TX2) (N := 12) hx hb hts iuX2_outcome_X2 hown hK hP 0 rfl rfl 5 (by decide) (htw (.fieldLink RX2 25 "MergeJudge$Judge" "validStates" "J") (List.mem_of_getElem? (i := 2) rfl)) (fun _ h9 => h9) rfl dX2_outcome_21 ?_
    refine lv_iload_n hx hb dX2_outcome_24 rfl (lv_at hl 0 rfl) ?_
    refine lv_lushr (v := (jv.toUInt64 >>> ((nI j_1).toInt64.toUInt64 &&& Int64.toUInt64 63)).toInt64) hx hb dX2_outcome_25 rfl ?_
    refine lv_lconst (v := 1) hx hb dX2_outcome_26 (by decide) ?_
    refine lv_land hx hb dX2_outcome_27 ?_
    refine lv_lconst (v := 0) hx hb dX2_outcome_28 (by decide) ?_
    refine W.lcmp hx hb dX2_outcome_29 ?_
    refine lv_if_eq (tgt := 37) hx hb dX2_outcome_30 (by decide) (fun c_3 => ?_) (fun c_3 => ?_)
    ·
      refine lv_iconst (v := (-1)) hx hb dX2_outcome_37 (by decide) ?_
      exact ret_i hx hb hr hlk hS (Nat.le_of_ble_eq_true rfl) (Nat.le_of_ble_eq_true rfl) (0) (Or.inl ⟨rfl, trivial⟩) (hP.sub [0, 1, 2] rfl) (hD.sub [0, 1, 2] (by decide) rfl) dX2_outcome_38
    ·
      refine lv_iload_n hx hb dX2_outcome_33 rfl (lv_at hl 0 rfl) ?_
      refine lv_goto (tgt := 38) hx hb dX2_outcome_34 (by decide) ?_
      exact ret_i hx hb hr hlk hS (Nat.le_of_ble_eq_true rfl) (Nat.le_of_ble_eq_true rfl) (j_1) (Or.inr (⟨rfl, (by omega)⟩)) (hP.sub [0, 1, 2] rfl) (hD.sub [0, 1, 2] (by decide) rfl) dX2_outcome_38

set_option maxHeartbeats 4000000 in
set_option maxRecDepth 100000 in
theorem k_X2_openOps (l : Launch) (D : va_G) (cs : Nat → ClassId) (sz : Nat) (aJ : Nat) (sta : Nat) (aO : Nat) (aS : Nat) (jm : Nat) (jd : Int32) (jl : Int32) (jv : Int64) (jq : Nat) (jb : Nat) (jp : Nat) (jw : Nat) (jh : Nat) (js : Nat) (tl : Int32) (tw : Int32) (td : Int32) (tdr : Int32) (tlo : Int32) (o1 : Nat) (o2 : Nat) (o3 : Nat) (o4 : Nat) (o5 : Nat) (sw : Int64) (s1 : Nat) (s2 : Nat) (s3 : Nat) (s4 : Nat) (fr : Nat → Int32) (tp : Nat) (nc : Nat) (nr : Nat) (no : Nat) (na : Nat) (zs : Nat) (sc : Nat) (st : Nat) (htp : tp ≤ 3) (hnc : nc ≤ 3) (hnr : nr ≤ 5) (hno : no ≤ 5) (hna : na ≤ 20) (hzs : zs ≤ 64) (hsc : sc ≤ 3) (hst : st ≤ 3) (hres : RES fr) (ha_sta : sta < 64) : Mi l D cs yX2_openOps W_X2_openOps 1 23 0 0 [.ref aJ, .int (nI sta)] [(aJ, .inr (2, [.ref aO, .ref aS, .ref jm, .int jd, .int jl, .long jv, .ref jq, .ref jb, .ref jp, .ref jw, .ref jh, .ref js])), (aO, .inr (0, [.int tl, .int (nI tp), .int tw, .int td, .int (nI nc), .int (nI nr), .int (nI no), .int (nI na), .int tdr, .int tlo, .ref o1, .ref o2, .ref o3, .ref o4, .ref o5])), (aS, .inr (6, [.int (nI zs), .int (nI sc), .int (nI st), .long sw, .ref s1, .ref s2, .ref s3, .ref s4])), (s4, .inl (cs 1, 320, .inl fr))] sz (fun (r : Int32) (u : Unit) => True) (fun (u : Unit) => [(aJ, .inr (2, [.ref aO, .ref aS, .ref jm, .int jd, .int jl, .long jv, .ref jq, .ref jb, .ref jp, .ref jw, .ref jh, .ref js])), (aO, .inr (0, [.int tl, .int (nI tp), .int tw, .int td, .int (nI nc), .int (nI nr), .int (nI no), .int (nI na), .int tdr, .int tlo, .ref o1, .ref o2, .ref o3, .ref o4, .ref o5])), (aS, .inr (6, [.int (nI zs), .int (nI sc), .int (nI st), .long sw, .ref s1, .ref s2, .ref s3, .ref s4])), (s4, .inl (cs 1, 320, .inl fr))]) := by
  refine ent (D := D) (cs := cs) (y := yX2_openOps) (ws := W_X2_openOps) (As := [.ref aJ, .int (nI sta)]) (W0 := [(aJ, .inr (2, [.ref aO, .ref aS, .ref jm, .int jd, .int jl, .long jv, .ref jq, .ref jb, .ref jp, .ref jw, .ref jh, .ref js])), (aO, .inr (0, [.int tl, .int (nI tp), .int tw, .int td, .int (nI nc), .int (nI nr), .int (nI no), .int (nI na), .int tdr, .int tlo, .ref o1, .ref o2, .ref o3, .ref o4, .ref o5])), (aS, .inr (6, [.int (nI zs), .int (nI sc), .int (nI st), .long sw, .ref s1, .ref s2, .ref s3, .ref s4])), (s4, .inl (cs 1, 320, .inl fr))]) (Qx := fun A => va_Qi (fun (r : Int32) (u : Unit) => True) (mpost D A (fun (u : Unit) => [(aJ, .inr (2, [.ref aO, .ref aS, .ref jm, .int jd, .int jl, .long jv, .ref jq, .ref jb, .ref jp, .ref jw, .ref jh, .ref js])), (aO, .inr (0, [.int tl, .int (nI tp), .int tw, .int td, .int (nI nc), .int (nI nr), .int (nI no), .int (nI na), .int tdr, .int tlo, .ref o1, .ref o2, .ref o3, .ref o4, .ref o5])), (aS, .inr (6, [.int (nI zs), .int (nI sc), .int (nI st), .long sw, .ref s1, .ref s2, .ref s3, .ref s4])), (s4, .inl (cs 1, 320, .inl fr))])) A) (maxL := 4) (ret := (some .int)) (by decide) rfl (Nat.le_of_ble_eq_true rfl) ?_
  intro p e s m below meth c A ls hx hb hr hml hlk hown hts hin hK hE hP hD hA hS hl
  have hl : lv_has ls 4 [(0, .ref aJ), (1, .int (nI sta))] := hl
  generalize hHe : s.heap = H at hP
  have hS : va_S A s.heap H [] := hHe ▸ hS
  generalize hLe : ([] : List Loc) = locs at hS ⊢
  have htw : ∀ w ∈ O_X2_openOps, w.before ([.ref aJ, .int (nI sta)] : List Value).toArray s = true := fun w h => hts w (List.mem_cons_of_mem _ (List.mem_append_left _ h))
  have hFix := (⟨hx, hb, hml, hown, hts⟩ : CallFix p m c _ _ s _ _ _)
  refine lv_iconst (v := 0) hx hb dX2_openOps_0 (by decide) ?_
  refine lv_istore_n (lv' := [(2, .int 0), (0, .ref aJ), (1, .int (nI sta))]) hx hb dX2_openOps_1 rfl hl (by decide) rfl (fun ls hl => ?_)
  refine lv_iconst (v := 0) hx hb dX2_openOps_2 (by decide) ?_
  refine lv_istore_n (lv' := [(3, .int 0), (2, .int 0), (0, .ref aJ), (1, .int (nI sta))]) hx hb dX2_openOps_3 rfl hl (by decide) rfl (fun ls hl => ?_)
  have lp_2 : ∀ (nfu : Nat) (i_1 : Nat) (v2_1 : Int32) (H : Heap) (locs : List Loc) (ls : Array Slot) (hi_1 : i_1 ≤ no), no - i_1 < nfu → va_P D vwCl [(aJ, .inr (2, [.ref aO, .ref aS, .ref jm, .int jd, .int jl, .long jv, .ref jq, .ref jb, .ref jp, .ref jw, .ref jh, .ref js])), (aO, .inr (0, [.int tl, .int (nI tp), .int tw, .int td, .int (nI nc), .int (nI nr), .int (nI no), .int (nI na), .int tdr, .int tlo, .ref o1, .ref o2, .ref o3, .ref o4, .ref o5])), (aS, .inr (6, [.int (nI zs), .int (nI sc), .int (nI st), .long sw, .ref s1, .ref s2, .ref s3, .ref s4])), (s4, .inl (cs 1, 320, .inl fr))] H → va_D A [(aJ, .inr (2, [.ref aO, .ref aS, .ref jm, .int jd, .int jl, .long jv, .ref jq, .ref jb, .ref jp, .ref jw, .ref jh, .ref js])), (aO, .inr (0, [.int tl, .int (nI tp), .int tw, .int td, .int (nI nc), .int (nI nr), .int (nI no), .int (nI na), .int tdr, .int tlo, .ref o1, .ref o2, .ref o3, .ref o4, .ref o5])), (aS, .inr (6, [.int (nI zs), .int (nI sc), .int (nI st), .long sw, .ref s1, .ref s2, .ref s3, .ref s4])), (s4, .inl (cs 1, 320, .inl fr))] → va_S A s.heap H locs → lv_has ls 4 [(3, .int (nI i_1)), (2, .int v2_1), (0, .ref aJ), (1, .int (nI sta))] → W p l e (mRm 1 0 0 23) s m ([.ref aJ, .int (nI sta)] : List Value).toArray below meth c H locs 0 0 (MQ below (va_Qi (fun (r : Int32) (u : Unit) => True) (mpost D A (fun (u : Unit) => [(aJ, .inr (2, [.ref aO, .ref aS, .ref jm, .int jd, .int jl, .long jv, .ref jq, .ref jb, .ref jp, .ref jw, .ref jh, .ref js])), (aO, .inr (0, [.int tl, .int (nI tp), .int tw, .int td, .int (nI nc), .int (nI nr), .int (nI no), .int (nI na), .int tdr, .int tlo, .ref o1, .ref o2, .ref o3, .ref o4, .ref o5])), (aS, .inr (6, [.int (nI zs), .int (nI sc), .int (nI st), .long sw, .ref s1, .ref s2, .ref s3, .ref s4])), (s4, .inl (cs 1, 320, .inl fr))])) A) ([.ref aJ, .int (nI sta)] : List Value).toArray s 0 0 A) (F0 m 4 ls []) := by
    intro nfu
    induction nfu with
    | zero => intro i_1 v2_1 H locs ls hi_1 hmu; exact absurd hmu (Nat.not_lt_zero _)
    | succ nfu ih =>
      intro i_1 v2_1 H locs ls hi_1 hmu hP hD hS hl
      have ih_lp_2 := @ih
      refine lv_iload_n hx hb dX2_openOps_4 rfl (lv_at hl 0 rfl) ?_
      refine lv_aload_n hx hb dX2_openOps_5 rfl (lv_at hl 2 rfl) ?_
      refine va_get (D := D) (ci := 2) (v := .ref aO) (C := RX2) (T := TX2) (N := 12) hx hb hts iuX2_openOps_X2 hown hK hP 0 rfl rfl 0 (by decide) (htw (.fieldLink RX2 49 "MergeJudge$Judge" "told" "LMergeJudge$Base;") (List.mem_of_getElem? (i := 0) rfl)) (fun _ h9 => h9) rfl dX2_openOps_6 ?_
      refine va_get (D := D) (ci := 0) (v := .int (nI no)) (C := RX0) (T := TX0) (N := 15) hx hb hts iuX2_openOps_X0 hown hK hP 1 rfl rfl 6 (by decide) (htw (.fieldLink RX2 133 "MergeJudge$Base" "ops" "I") (List.mem_of_getElem? (i := 1) rfl)) (fun _ h9 => h9) rfl dX2_openOps_9 ?_
      refine lv_icmp_ge (tgt := 37) hx hb dX2_openOps_12 (by decide) (fun c_3 => ?_) (fun c_3 => ?_)
      ·
        have hn_3 := bge_t (a := i_1) (b := no) c_3 (by omega) (by omega)
        refine lv_iload_n hx hb dX2_openOps_37 rfl (lv_at hl 1 rfl) ?_
        exact ret_i hx hb hr hlk hS (Nat.le_of_ble_eq_true rfl) (Nat.le_of_ble_eq_true rfl) () (trivial) (hP.sub [0, 1, 2, 3] rfl) (hD.sub [0, 1, 2, 3] (by decide) rfl) dX2_openOps_38
      ·
        have hn_3 := bge_f (a := i_1) (b := no) c_3 (by omega) (by omega)
        refine lv_aload_n hx hb dX2_openOps_15 rfl (lv_at hl 2 rfl) ?_
        refine lv_iload_n hx hb dX2_openOps_16 rfl (lv_at hl 0 rfl) ?_
        refine lv_iload_n hx hb dX2_openOps_17 rfl (lv_at hl 3 rfl) ?_
        refine aft_i (wr := [(aO, .inr (0, [.int tl, .int (nI tp), .int tw, .int td, .int (nI nc), .int (nI nr), .int (nI no), .int (nI na), .int tdr, .int tlo, .ref o1, .ref o2, .ref o3, .ref o4, .ref o5]))]) hP hD hS hA [0, 2, 3] [1] rfl rfl (by decide) (by decide) (run_v (As := [.int (nI i_1), .int (nI sta)]) (rest := []) hFix hK hE hP hD [0, 2, 3] (k_X2_outcome l D cs _ aJ i_1 sta aO aS jm jd jl jv jq jb jp jw jh js sw s1 s2 s3 s4 fr zs sc st (by first | assumption | decide | omega) (by first | assumption | decide | omega) (by first | assumption | decide | omega) (by first | assumption | decide | omega) (by first | assumption | decide | omega) (by first | assumption | decide | omega)) (cwV 2 hts gc_X2_openOps_136_X2_outcome rfl rfl rfl (by decide +kernel) ⟨Nat.le_of_ble_eq_true rfl, Nat.le_of_ble_eq_true rfl⟩) rfl (by decide) rfl rfl rfl hl.1 rfl (Nat.le_of_ble_eq_true rfl) dX2_openOps_18 ⟨Nat.le_of_ble_eq_true rfl, Nat.le_of_ble_eq_true rfl⟩) (fun r_4 u_4 H locs hq_4 hP hD hS => ?_)
        obtain ⟨j_4, rfl⟩ : ∃ z, z = u_4 := ⟨_, rfl⟩
        have hP : va_P D vwCl [(aO, .inr (0, [.int tl, .int (nI tp), .int tw, .int td, .int (nI nc), .int (nI nr), .int (nI no), .int (nI na), .int tdr, .int tlo, .ref o1, .ref o2, .ref o3, .ref o4, .ref o5])), (aJ, .inr (2, [.ref aO, .ref aS, .ref jm, .int jd, .int jl, .long jv, .ref jq, .ref jb, .ref jp, .ref jw, .ref jh, .ref js])), (aS, .inr (6, [.int (nI zs), .int (nI sc), .int (nI st), .long sw, .ref s1, .ref s2, .ref s3, .ref s4])), (s4, .inl (cs 1, 320, .inl fr))] H := hP
        have hD : va_D A [(aO, .inr (0, [.int tl, .int (nI tp), .int tw, .int td, .int (nI nc), .int (nI nr), .int (nI no), .int (nI na), .int tdr, .int tlo, .ref o1, .ref o2, .ref o3, .ref o4, .ref o5])), (aJ, .inr (2, [.ref aO, .ref aS, .ref jm, .int jd, .int jl, .long jv, .ref jq, .ref jb, .ref jp, .ref jw, .ref jh, .ref js])), (aS, .inr (6, [.int (nI zs), .int (nI sc), .int (nI st), .long sw, .ref s1, .ref s2, .ref s3, .ref s4])), (s4, .inl (cs 1, 320, .inl fr))] := hD
        replace hq_4 : ((r_4 = (-1) ∧ True) ∨ (r_4 = nI j_4 ∧ j_4 < 64)) := hq_4
        rcases hq_4 with ⟨rfl, hq_4⟩ | ⟨rfl, hq_4⟩
        ·
          refine lv_iconst (v := (-1)) hx hb dX2_openOps_21 (by decide) ?_
          refine lv_icmp_eq (tgt := 31) hx hb dX2_openOps_22 (by decide) (fun _ => ?_) (fun h9 => absurd h9 (by decide))
          refine lv_iinc (v := (nI (i_1 + 1))) (lv' := [(3, .int (nI (i_1 + 1))), (2, .int v2_1), (0, .ref aJ), (1, .int (nI sta))]) hx hb dX2_openOps_31 hl (k := 0) rfl (nI_1 _) (by decide) rfl (fun ls hl => ?_)
          refine lv_goto (tgt := 4) hx hb dX2_openOps_34 (by decide) ?_
          exact ih_lp_2 (i_1 + 1) v2_1 H locs ls (by omega) (by omega) (hP.sub [1, 0, 2, 3] rfl) (hD.sub [1, 0, 2, 3] (by decide) rfl) hS (lv_sub hl [0, 1, 2, 3] rfl)
        ·
          refine lv_iconst (v := (-1)) hx hb dX2_openOps_21 (by decide) ?_
          refine lv_icmp_eq (tgt := 31) hx hb dX2_openOps_22 (by decide) (fun h9 => False.elim (nneg_eq (a := j_4) h9 (by omega) (by decide))) (fun _ => ?_)
          refine lv_iload_n hx hb dX2_openOps_25 rfl (lv_at hl 1 rfl) ?_
          refine lv_iconst (v := 1) hx hb dX2_openOps_26 (by decide) ?_
          refine lv_iload_n hx hb dX2_openOps_27 rfl (lv_at hl 0 rfl) ?_
          refine lv_ishl hx hb dX2_openOps_28 ?_
          refine lv_ior hx hb dX2_openOps_29 ?_
          refine lv_istore_n (lv' := [(2, .int (v2_1 ||| ((1 : Int32) <<< ((nI i_1) &&& 31)))), (3, .int (nI i_1)), (0, .ref aJ), (1, .int (nI sta))]) hx hb dX2_openOps_30 rfl hl (by decide) rfl (fun ls hl => ?_)
          refine lv_iinc (v := (nI (i_1 + 1))) (lv' := [(3, .int (nI (i_1 + 1))), (2, .int (v2_1 ||| ((1 : Int32) <<< ((nI i_1) &&& 31)))), (0, .ref aJ), (1, .int (nI sta))]) hx hb dX2_openOps_31 hl (k := 1) rfl (nI_1 _) (by decide) rfl (fun ls hl => ?_)
          refine lv_goto (tgt := 4) hx hb dX2_openOps_34 (by decide) ?_
          exact ih_lp_2 (i_1 + 1) (v2_1 ||| ((1 : Int32) <<< ((nI i_1) &&& 31))) H locs ls (by omega) (by omega) (hP.sub [1, 0, 2, 3] rfl) (hD.sub [1, 0, 2, 3] (by decide) rfl) hS (lv_sub hl [0, 1, 2, 3] rfl)
  exact lp_2 _ 0 0 H locs ls (by omega) (Nat.lt_succ_self _) (hP.sub [0, 1, 2, 3] rfl) (hD.sub [0, 1, 2, 3] (by decide) rfl) hS (lv_sub hl [0, 1, 2, 3] rfl)

set_option maxHeartbeats 4000000 in
set_option maxRecDepth 100000 in
theorem k_X2_worksFrom (l : Launch) (D : va_G) (cs : Nat → ClassId) (sz : Nat) (aJ : Nat) (op : Nat) (aO : Nat) (aS : Nat) (jm : Nat) (jd : Int32) (jl : Int32) (jv : Int64) (jq : Nat) (jb : Nat) (jp : Nat) (jw : Nat) (jh : Nat) (js : Nat) (sw : Int64) (s1 : Nat) (s2 : Nat) (s3 : Nat) (s4 : Nat) (fr : Nat → Int32) (zs : Nat) (sc : Nat) (st : Nat) (hzs : zs ≤ 64) (hsc : sc ≤ 3) (hst : st ≤ 3) (hres : RES fr) (ha_op : op < 5) : Mi l D cs yX2_worksFrom W_X2_worksFrom 1 23 0 0 [.ref aJ, .int (nI op)] [(aJ, .inr (2, [.ref aO, .ref aS, .ref jm, .int jd, .int jl, .long jv, .ref jq, .ref jb, .ref jp, .ref jw, .ref jh, .ref js])), (aS, .inr (6, [.int (nI zs), .int (nI sc), .int (nI st), .long sw, .ref s1, .ref s2, .ref s3, .ref s4])), (s4, .inl (cs 1, 320, .inl fr))] sz (fun (r : Int32) (u : Unit) => True) (fun (u : Unit) => [(aJ, .inr (2, [.ref aO, .ref aS, .ref jm, .int jd, .int jl, .long jv, .ref jq, .ref jb, .ref jp, .ref jw, .ref jh, .ref js])), (aS, .inr (6, [.int (nI zs), .int (nI sc), .int (nI st), .long sw, .ref s1, .ref s2, .ref s3, .ref s4])), (s4, .inl (cs 1, 320, .inl fr))]) := by
  refine ent (D := D) (cs := cs) (y := yX2_worksFrom) (ws := W_X2_worksFrom) (As := [.ref aJ, .int (nI op)]) (W0 := [(aJ, .inr (2, [.ref aO, .ref aS, .ref jm, .int jd, .int jl, .long jv, .ref jq, .ref jb, .ref jp, .ref jw, .ref jh, .ref js])), (aS, .inr (6, [.int (nI zs), .int (nI sc), .int (nI st), .long sw, .ref s1, .ref s2, .ref s3, .ref s4])), (s4, .inl (cs 1, 320, .inl fr))]) (Qx := fun A => va_Qi (fun (r : Int32) (u : Unit) => True) (mpost D A (fun (u : Unit) => [(aJ, .inr (2, [.ref aO, .ref aS, .ref jm, .int jd, .int jl, .long jv, .ref jq, .ref jb, .ref jp, .ref jw, .ref jh, .ref js])), (aS, .inr (6, [.int (nI zs), .int (nI sc), .int (nI st), .long sw, .ref s1, .ref s2, .ref s3, .ref s4])), (s4, .inl (cs 1, 320, .inl fr))])) A) (maxL := 4) (ret := (some .int)) (by decide) rfl (Nat.le_of_ble_eq_true rfl) ?_
  intro p e s m below meth c A ls hx hb hr hml hlk hown hts hin hK hE hP hD hA hS hl
  have hl : lv_has ls 4 [(0, .ref aJ), (1, .int (nI op))] := hl
  generalize hHe : s.heap = H at hP
  have hS : va_S A s.heap H [] := hHe ▸ hS
  generalize hLe : ([] : List Loc) = locs at hS ⊢
  have htw : ∀ w ∈ O_X2_worksFrom, w.before ([.ref aJ, .int (nI op)] : List Value).toArray s = true := fun w h => hts w (List.mem_cons_of_mem _ (List.mem_append_left _ h))
  have hFix := (⟨hx, hb, hml, hown, hts⟩ : CallFix p m c _ _ s _ _ _)
  refine lv_iconst (v := 0) hx hb dX2_worksFrom_0 (by decide) ?_
  refine lv_istore_n (lv' := [(2, .int 0), (0, .ref aJ), (1, .int (nI op))]) hx hb dX2_worksFrom_1 rfl hl (by decide) rfl (fun ls hl => ?_)
  refine lv_iconst (v := 0) hx hb dX2_worksFrom_2 (by decide) ?_
  refine lv_istore_n (lv' := [(3, .int 0), (2, .int 0), (0, .ref aJ), (1, .int (nI op))]) hx hb dX2_worksFrom_3 rfl hl (by decide) rfl (fun ls hl => ?_)
  have lp_2 : ∀ (nfu : Nat) (i_1 : Nat) (v2_1 : Int32) (H : Heap) (locs : List Loc) (ls : Array Slot) (hi_1 : i_1 ≤ zs), zs - i_1 < nfu → va_P D vwCl [(aJ, .inr (2, [.ref aO, .ref aS, .ref jm, .int jd, .int jl, .long jv, .ref jq, .ref jb, .ref jp, .ref jw, .ref jh, .ref js])), (aS, .inr (6, [.int (nI zs), .int (nI sc), .int (nI st), .long sw, .ref s1, .ref s2, .ref s3, .ref s4])), (s4, .inl (cs 1, 320, .inl fr))] H → va_D A [(aJ, .inr (2, [.ref aO, .ref aS, .ref jm, .int jd, .int jl, .long jv, .ref jq, .ref jb, .ref jp, .ref jw, .ref jh, .ref js])), (aS, .inr (6, [.int (nI zs), .int (nI sc), .int (nI st), .long sw, .ref s1, .ref s2, .ref s3, .ref s4])), (s4, .inl (cs 1, 320, .inl fr))] → va_S A s.heap H locs → lv_has ls 4 [(3, .int (nI i_1)), (2, .int v2_1), (0, .ref aJ), (1, .int (nI op))] → W p l e (mRm 1 0 0 23) s m ([.ref aJ, .int (nI op)] : List Value).toArray below meth c H locs 0 0 (MQ below (va_Qi (fun (r : Int32) (u : Unit) => True) (mpost D A (fun (u : Unit) => [(aJ, .inr (2, [.ref aO, .ref aS, .ref jm, .int jd, .int jl, .long jv, .ref jq, .ref jb, .ref jp, .ref jw, .ref jh, .ref js])), (aS, .inr (6, [.int (nI zs), .int (nI sc), .int (nI st), .long sw, .ref s1, .ref s2, .ref s3, .ref s4])), (s4, .inl (cs 1, 320, .inl fr))])) A) ([.ref aJ, .int (nI op)] : List Value).toArray s 0 0 A) (F0 m 4 ls []) := by
    intro nfu
    induction nfu with
    | zero => intro i_1 v2_1 H locs ls hi_1 hmu; exact absurd hmu (Nat.not_lt_zero _)
    | succ nfu ih =>
      intro i_1 v2_1 H locs ls hi_1 hmu hP hD hS hl
      have ih_lp_2 := @ih
      refine lv_iload_n hx hb dX2_worksFrom_4 rfl (lv_at hl 0 rfl) ?_
      refine lv_aload_n hx hb dX2_worksFrom_5 rfl (lv_at hl 2 rfl) ?_
      refine va_get (D := D) (ci := 2) (v := .ref aS) (C := RX2) (T := TX2) (N := 12) hx hb hts iuX2_worksFrom_X2 hown hK hP 0 rfl rfl 1 (by decide) (htw (.fieldLink RX2 53 "MergeJudge$Judge" "space" "LMergeJudge$Space;") (List.mem_of_getElem? (i := 0) rfl)) (fun _ h9 => h9) rfl dX2_worksFrom_6 ?_
      refine va_get (D := D) (ci := 6) (v := .int (nI zs)) (C := RX6) (T := TX6) (N := 8) hx hb hts iuX2_worksFrom_X6 hown hK hP 1 rfl rfl 0 (by decide) (htw (.fieldLink RX2 117 "MergeJudge$Space" "size" "I") (List.mem_of_getElem? (i := 1) rfl)) (fun _ h9 => h9) rfl dX2_worksFrom_9 ?_
      refine lv_icmp_ge (tgt := 42) hx hb dX2_worksFrom_12 (by decide) (fun c_3 => ?_) (fun c_3 => ?_)
      ·
        have hn_3 := bge_t (a := i_1) (b := zs) c_3 (by omega) (by omega)
        refine lv_iload_n hx hb dX2_worksFrom_42 rfl (lv_at hl 1 rfl) ?_
        exact ret_i hx hb hr hlk hS (Nat.le_of_ble_eq_true rfl) (Nat.le_of_ble_eq_true rfl) () (trivial) (hP.sub [0, 1, 2] rfl) (hD.sub [0, 1, 2] (by decide) rfl) dX2_worksFrom_43
      ·
        have hn_3 := bge_f (a := i_1) (b := zs) c_3 (by omega) (by omega)
        refine lv_aload_n hx hb dX2_worksFrom_15 rfl (lv_at hl 2 rfl) ?_
        refine lv_iload_n hx hb dX2_worksFrom_16 rfl (lv_at hl 0 rfl) ?_
        refine aft_i (wr := [(aS, .inr (6, [.int (nI zs), .int (nI sc), .int (nI st), .long sw, .ref s1, .ref s2, .ref s3, .ref s4])), (s4, .inl (cs 1, 320, .inl fr))]) hP hD hS hA [0] [1, 2] rfl rfl (by decide) (by decide) (run_v (As := [.int (nI i_1)]) (rest := []) hFix hK hE hP hD [0] (k_X2_isValid l D cs _ aJ (nI i_1) aO aS jm jd jl jv jq jb jp jw jh js) (cwV 1 hts gc_X2_worksFrom_140_X2_isValid rfl rfl rfl (by decide +kernel) ⟨Nat.le_of_ble_eq_true rfl, Nat.le_of_ble_eq_true rfl⟩) rfl (by decide) rfl rfl rfl hl.1 rfl (Nat.le_of_ble_eq_true rfl) dX2_worksFrom_17 ⟨Nat.le_of_ble_eq_true rfl, Nat.le_of_ble_eq_true rfl⟩) (fun r_4 u_4 H locs hq_4 hP hD hS => ?_)
        have hP : va_P D vwCl [(aS, .inr (6, [.int (nI zs), .int (nI sc), .int (nI st), .long sw, .ref s1, .ref s2, .ref s3, .ref s4])), (s4, .inl (cs 1, 320, .inl fr)), (aJ, .inr (2, [.ref aO, .ref aS, .ref jm, .int jd, .int jl, .long jv, .ref jq, .ref jb, .ref jp, .ref jw, .ref jh, .ref js]))] H := hP
        have hD : va_D A [(aS, .inr (6, [.int (nI zs), .int (nI sc), .int (nI st), .long sw, .ref s1, .ref s2, .ref s3, .ref s4])), (s4, .inl (cs 1, 320, .inl fr)), (aJ, .inr (2, [.ref aO, .ref aS, .ref jm, .int jd, .int jl, .long jv, .ref jq, .ref jb, .ref jp, .ref jw, .ref jh, .ref js]))] := hD
        replace hq_4 : ((r_4 = 1 ∧ True) ∨ (r_4 = 0 ∧ True)) := hq_4
        rcases hq_4 with ⟨rfl, hq_4⟩ | ⟨rfl, hq_4⟩
        ·
          refine lv_if_eq (tgt := 36) hx hb dX2_worksFrom_20 (by decide) (fun h9 => absurd h9 (by decide)) (fun _ => ?_)
          refine lv_aload_n hx hb dX2_worksFrom_23 rfl (lv_at hl 2 rfl) ?_
          refine lv_iload_n hx hb dX2_worksFrom_24 rfl (lv_at hl 3 rfl) ?_
          refine lv_iload_n hx hb dX2_worksFrom_25 rfl (lv_at hl 0 rfl) ?_
          refine aft_i (wr := []) hP hD hS hA [2, 0, 1] [] rfl rfl (by decide) (by decide) (run_v (As := [.int (nI op), .int (nI i_1)]) (rest := []) hFix hK hE hP hD [2, 0, 1] (k_X2_outcome l D cs _ aJ op i_1 aO aS jm jd jl jv jq jb jp jw jh js sw s1 s2 s3 s4 fr zs sc st (by first | assumption | decide | omega) (by first | assumption | decide | omega) (by first | assumption | decide | omega) (by first | assumption | decide | omega) (by first | assumption | decide | omega) (by first | assumption | decide | omega)) (cwV 2 hts gc_X2_worksFrom_136_X2_outcome rfl rfl rfl (by decide +kernel) ⟨Nat.le_of_ble_eq_true rfl, Nat.le_of_ble_eq_true rfl⟩) rfl (by decide) rfl rfl rfl hl.1 rfl (Nat.le_of_ble_eq_true rfl) dX2_worksFrom_26 ⟨Nat.le_of_ble_eq_true rfl, Nat.le_of_ble_eq_true rfl⟩) (fun r_5 u_5 H locs hq_5 hP hD hS => ?_)
          obtain ⟨j_5, rfl⟩ : ∃ z, z = u_5 := ⟨_, rfl⟩
          have hP : va_P D vwCl [(aJ, .inr (2, [.ref aO, .ref aS, .ref jm, .int jd, .int jl, .long jv, .ref jq, .ref jb, .ref jp, .ref jw, .ref jh, .ref js])), (aS, .inr (6, [.int (nI zs), .int (nI sc), .int (nI st), .long sw, .ref s1, .ref s2, .ref s3, .ref s4])), (s4, .inl (cs 1, 320, .inl fr))] H := hP
          have hD : va_D A [(aJ, .inr (2, [.ref aO, .ref aS, .ref jm, .int jd, .int jl, .long jv, .ref jq, .ref jb, .ref jp, .ref jw, .ref jh, .ref js])), (aS, .inr (6, [.int (nI zs), .int (nI sc), .int (nI st), .long sw, .ref s1, .ref s2, .ref s3, .ref s4])), (s4, .inl (cs 1, 320, .inl fr))] := hD
          replace hq_5 : ((r_5 = (-1) ∧ True) ∨ (r_5 = nI j_5 ∧ j_5 < 64)) := hq_5
          rcases hq_5 with ⟨rfl, hq_5⟩ | ⟨rfl, hq_5⟩
          ·
            refine lv_iconst (v := (-1)) hx hb dX2_worksFrom_29 (by decide) ?_
            refine lv_icmp_eq (tgt := 36) hx hb dX2_worksFrom_30 (by decide) (fun _ => ?_) (fun h9 => absurd h9 (by decide))
            refine lv_iinc (v := (nI (i_1 + 1))) (lv' := [(3, .int (nI (i_1 + 1))), (2, .int v2_1), (0, .ref aJ), (1, .int (nI op))]) hx hb dX2_worksFrom_36 hl (k := 0) rfl (nI_1 _) (by decide) rfl (fun ls hl => ?_)
            refine lv_goto (tgt := 4) hx hb dX2_worksFrom_39 (by decide) ?_
            exact ih_lp_2 (i_1 + 1) v2_1 H locs ls (by omega) (by omega) (hP.sub [0, 1, 2] rfl) (hD.sub [0, 1, 2] (by decide) rfl) hS (lv_sub hl [0, 1, 2, 3] rfl)
          ·
            refine lv_iconst (v := (-1)) hx hb dX2_worksFrom_29 (by decide) ?_
            refine lv_icmp_eq (tgt := 36) hx hb dX2_worksFrom_30 (by decide) (fun h9 => False.elim (nneg_eq (a := j_5) h9 (by omega) (by decide))) (fun _ => ?_)
            refine lv_iinc (v := (v2_1 + Int32.ofInt 1)) (lv' := [(2, .int (v2_1 + Int32.ofInt 1)), (3, .int (nI i_1)), (0, .ref aJ), (1, .int (nI op))]) hx hb dX2_worksFrom_33 hl (k := 1) rfl rfl (by decide) rfl (fun ls hl => ?_)
            refine lv_iinc (v := (nI (i_1 + 1))) (lv' := [(3, .int (nI (i_1 + 1))), (2, .int (v2_1 + Int32.ofInt 1)), (0, .ref aJ), (1, .int (nI op))]) hx hb dX2_worksFrom_36 hl (k := 1) rfl (nI_1 _) (by decide) rfl (fun ls hl => ?_)
            refine lv_goto (tgt := 4) hx hb dX2_worksFrom_39 (by decide) ?_
            exact ih_lp_2 (i_1 + 1) (v2_1 + Int32.ofInt 1) H locs ls (by omega) (by omega) (hP.sub [0, 1, 2] rfl) (hD.sub [0, 1, 2] (by decide) rfl) hS (lv_sub hl [0, 1, 2, 3] rfl)
        ·
          refine lv_if_eq (tgt := 36) hx hb dX2_worksFrom_20 (by decide) (fun _ => ?_) (fun h9 => absurd h9 (by decide))
          refine lv_iinc (v := (nI (i_1 + 1))) (lv' := [(3, .int (nI (i_1 + 1))), (2, .int v2_1), (0, .ref aJ), (1, .int (nI op))]) hx hb dX2_worksFrom_36 hl (k := 0) rfl (nI_1 _) (by decide) rfl (fun ls hl => ?_)
          refine lv_goto (tgt := 4) hx hb dX2_worksFrom_39 (by decide) ?_
          exact ih_lp_2 (i_1 + 1) v2_1 H locs ls (by omega) (by omega) (hP.sub [2, 0, 1] rfl) (hD.sub [2, 0, 1] (by decide) rfl) hS (lv_sub hl [0, 1, 2, 3] rfl)
  exact lp_2 _ 0 0 H locs ls (by omega) (Nat.lt_succ_self _) (hP.sub [0, 1, 2] rfl) (hD.sub [0, 1, 2] (by decide) rfl) hS (lv_sub hl [0, 1, 2, 3] rfl)

set_option maxHeartbeats 4000000 in
set_option maxRecDepth 100000 in
theorem k_X2_commuting (l : Launch) (D : va_G) (cs : Nat → ClassId) (sz : Nat) (aJ : Nat) (op : Nat) (oth : Nat) (aO : Nat) (aS : Nat) (jm : Nat) (jd : Int32) (jl : Int32) (jv : Int64) (jq : Nat) (jb : Nat) (jp : Nat) (jw : Nat) (jh : Nat) (js : Nat) (sw : Int64) (s1 : Nat) (s2 : Nat) (s3 : Nat) (s4 : Nat) (fr : Nat → Int32) (zs : Nat) (sc : Nat) (st : Nat) (hzs : zs ≤ 64) (hsc : sc ≤ 3) (hst : st ≤ 3) (hres : RES fr) (ha_op : op < 5) (ha_oth : oth < 5) : Mi l D cs yX2_commuting W_X2_commuting 1 23 0 0 [.ref aJ, .int (nI op), .int (nI oth)] [(aJ, .inr (2, [.ref aO, .ref aS, .ref jm, .int jd, .int jl, .long jv, .ref jq, .ref jb, .ref jp, .ref jw, .ref jh, .ref js])), (aS, .inr (6, [.int (nI zs), .int (nI sc), .int (nI st), .long sw, .ref s1, .ref s2, .ref s3, .ref s4])), (s4, .inl (cs 1, 320, .inl fr))] sz (fun (r : Int32) (u : Unit) => ((r = 1 ∧ True) ∨ (r = 0 ∧ True))) (fun (u : Unit) => [(aJ, .inr (2, [.ref aO, .ref aS, .ref jm, .int jd, .int jl, .long jv, .ref jq, .ref jb, .ref jp, .ref jw, .ref jh, .ref js])), (aS, .inr (6, [.int (nI zs), .int (nI sc), .int (nI st), .long sw, .ref s1, .ref s2, .ref s3, .ref s4])), (s4, .inl (cs 1, 320, .inl fr))]) := by
  refine ent (D := D) (cs := cs) (y := yX2_commuting) (ws := W_X2_commuting) (As := [.ref aJ, .int (nI op), .int (nI oth)]) (W0 := [(aJ, .inr (2, [.ref aO, .ref aS, .ref jm, .int jd, .int jl, .long jv, .ref jq, .ref jb, .ref jp, .ref jw, .ref jh, .ref js])), (aS, .inr (6, [.int (nI zs), .int (nI sc), .int (nI st), .long sw, .ref s1, .ref s2, .ref s3, .ref s4])), (s4, .inl (cs 1, 320, .inl fr))]) (Qx := fun A => va_Qi (fun (r : Int32) (u : Unit) => ((r = 1 ∧ True) ∨ (r = 0 ∧ True))) (mpost D A (fun (u : Unit) => [(aJ, .inr (2, [.ref aO, .ref aS, .ref jm, .int jd, .int jl, .long jv, .ref jq, .ref jb, .ref jp, .ref jw, .ref jh, .ref js])), (aS, .inr (6, [.int (nI zs), .int (nI sc), .int (nI st), .long sw, .ref s1, .ref s2, .ref s3, .ref s4])), (s4, .inl (cs 1, 320, .inl fr))])) A) (maxL := 7) (ret := (some .boolean)) (by decide) rfl (Nat.le_of_ble_eq_true rfl) ?_
  intro p e s m below meth c A ls hx hb hr hml hlk hown hts hin hK hE hP hD hA hS hl
  have hl : lv_has ls 7 [(0, .ref aJ), (1, .int (nI op)), (2, .int (nI oth))] := hl
  generalize hHe : s.heap = H at hP
  have hS : va_S A s.heap H [] := hHe ▸ hS
  generalize hLe : ([] : List Loc) = locs at hS ⊢
  have htw : ∀ w ∈ O_X2_commuting, w.before ([.ref aJ, .int (nI op), .int (nI oth)] : List Value).toArray s = true := fun w h => hts w (List.mem_cons_of_mem _ (List.mem_append_left _ h))
  have hFix := (⟨hx, hb, hml, hown, hts⟩ : CallFix p m c _ _ s _ _ _)
  refine lv_iconst (v := 0) hx hb dX2_commuting_0 (by decide) ?_
  refine lv_istore_n (lv' := [(3, .int 0), (0, .ref aJ), (1, .int (nI op)), (2, .int (nI oth))]) hx hb dX2_commuting_1 rfl hl (by decide) rfl (fun ls hl => ?_)
  have lp_2 : ∀ (nfu : Nat) (i_1 : Nat) (H : Heap) (locs : List Loc) (ls : Array Slot) (hi_1 : i_1 ≤ zs), zs - i_1 < nfu → va_P D vwCl [(aJ, .inr (2, [.ref aO, .ref aS, .ref jm, .int jd, .int jl, .long jv, .ref jq, .ref jb, .ref jp, .ref jw, .ref jh, .ref js])), (aS, .inr (6, [.int (nI zs), .int (nI sc), .int (nI st), .long sw, .ref s1, .ref s2, .ref s3, .ref s4])), (s4, .inl (cs 1, 320, .inl fr))] H → va_D A [(aJ, .inr (2, [.ref aO, .ref aS, .ref jm, .int jd, .int jl, .long jv, .ref jq, .ref jb, .ref jp, .ref jw, .ref jh, .ref js])), (aS, .inr (6, [.int (nI zs), .int (nI sc), .int (nI st), .long sw, .ref s1, .ref s2, .ref s3, .ref s4])), (s4, .inl (cs 1, 320, .inl fr))] → va_S A s.heap H locs → lv_has ls 7 [(3, .int (nI i_1)), (0, .ref aJ), (1, .int (nI op)), (2, .int (nI oth))] → W p l e (mRm 1 0 0 23) s m ([.ref aJ, .int (nI op), .int (nI oth)] : List Value).toArray below meth c H locs 0 0 (MQ below (va_Qi (fun (r : Int32) (u : Unit) => ((r = 1 ∧ True) ∨ (r = 0 ∧ True))) (mpost D A (fun (u : Unit) => [(aJ, .inr (2, [.ref aO, .ref aS, .ref jm, .int jd, .int jl, .long jv, .ref jq, .ref jb, .ref jp, .ref jw, .ref jh, .ref js])), (aS, .inr (6, [.int (nI zs), .int (nI sc), .int (nI st), .long sw, .ref s1, .ref s2, .ref s3, .ref s4])), (s4, .inl (cs 1, 320, .inl fr))])) A) ([.ref aJ, .int (nI op), .int (nI oth)] : List Value).toArray s 0 0 A) (F0 m 2 ls []) := by
    intro nfu
    induction nfu with
    | zero => intro i_1 H locs ls hi_1 hmu; exact absurd hmu (Nat.not_lt_zero _)
    | succ nfu ih =>
      intro i_1 H locs ls hi_1 hmu hP hD hS hl
      have ih_lp_2 := @ih
      refine lv_iload_n hx hb dX2_commuting_2 rfl (lv_at hl 0 rfl) ?_
      refine lv_aload_n hx hb dX2_commuting_3 rfl (lv_at hl 1 rfl) ?_
      refine va_get (D := D) (ci := 2) (v := .ref aS) (C := RX2) (T := TX2) (N := 12) hx hb hts iuX2_commuting_X2 hown hK hP 0 rfl rfl 1 (by decide) (htw (.fieldLink RX2 53 "MergeJudge$Judge" "space" "LMergeJudge$Space;") (List.mem_of_getElem? (i := 0) rfl)) (fun _ h9 => h9) rfl dX2_commuting_4 ?_
      refine va_get (D := D) (ci := 6) (v := .int (nI zs)) (C := RX6) (T := TX6) (N := 8) hx hb hts iuX2_commuting_X6 hown hK hP 1 rfl rfl 0 (by decide) (htw (.fieldLink RX2 117 "MergeJudge$Space" "size" "I") (List.mem_of_getElem? (i := 1) rfl)) (fun _ h9 => h9) rfl dX2_commuting_7 ?_
      refine lv_icmp_ge (tgt := 84) hx hb dX2_commuting_10 (by decide) (fun c_3 => ?_) (fun c_3 => ?_)
      ·
        have hn_3 := bge_t (a := i_1) (b := zs) c_3 (by omega) (by omega)
        refine lv_iconst (v := 1) hx hb dX2_commuting_84 (by decide) ?_
        exact ret_z hx hb hr hlk hS (Nat.le_of_ble_eq_true rfl) (Nat.le_of_ble_eq_true rfl) (by decide) () (Or.inl ⟨rfl, trivial⟩) (hP.sub [0, 1, 2] rfl) (hD.sub [0, 1, 2] (by decide) rfl) dX2_commuting_85
      ·
        have hn_3 := bge_f (a := i_1) (b := zs) c_3 (by omega) (by omega)
        refine lv_aload_n hx hb dX2_commuting_13 rfl (lv_at hl 1 rfl) ?_
        refine lv_iload_n hx hb dX2_commuting_14 rfl (lv_at hl 2 rfl) ?_
        refine lv_iload_n hx hb dX2_commuting_15 rfl (lv_at hl 0 rfl) ?_
        refine aft_i (wr := []) hP hD hS hA [0, 1, 2] [] rfl rfl (by decide) (by decide) (run_v (As := [.int (nI op), .int (nI i_1)]) (rest := []) hFix hK hE hP hD [0, 1, 2] (k_X2_outcome l D cs _ aJ op i_1 aO aS jm jd jl jv jq jb jp jw jh js sw s1 s2 s3 s4 fr zs sc st (by first | assumption | decide | omega) (by first | assumption | decide | omega) (by first | assumption | decide | omega) (by first | assumption | decide | omega) (by first | assumption | decide | omega) (by first | assumption | decide | omega)) (cwV 2 hts gc_X2_commuting_136_X2_outcome rfl rfl rfl (by decide +kernel) ⟨Nat.le_of_ble_eq_true rfl, Nat.le_of_ble_eq_true rfl⟩) rfl (by decide) rfl rfl rfl hl.1 rfl (Nat.le_of_ble_eq_true rfl) dX2_commuting_16 ⟨Nat.le_of_ble_eq_true rfl, Nat.le_of_ble_eq_true rfl⟩) (fun r_4 u_4 H locs hq_4 hP hD hS => ?_)
        obtain ⟨j_4, rfl⟩ : ∃ z, z = u_4 := ⟨_, rfl⟩
        have hP : va_P D vwCl [(aJ, .inr (2, [.ref aO, .ref aS, .ref jm, .int jd, .int jl, .long jv, .ref jq, .ref jb, .ref jp, .ref jw, .ref jh, .ref js])), (aS, .inr (6, [.int (nI zs), .int (nI sc), .int (nI st), .long sw, .ref s1, .ref s2, .ref s3, .ref s4])), (s4, .inl (cs 1, 320, .inl fr))] H := hP
        have hD : va_D A [(aJ, .inr (2, [.ref aO, .ref aS, .ref jm, .int jd, .int jl, .long jv, .ref jq, .ref jb, .ref jp, .ref jw, .ref jh, .ref js])), (aS, .inr (6, [.int (nI zs), .int (nI sc), .int (nI st), .long sw, .ref s1, .ref s2, .ref s3, .ref s4])), (s4, .inl (cs 1, 320, .inl fr))] := hD
        replace hq_4 : ((r_4 = (-1) ∧ True) ∨ (r_4 = nI j_4 ∧ j_4 < 64)) := hq_4
        rcases hq_4 with ⟨rfl, hq_4⟩ | ⟨rfl, hq_4⟩
        ·
          refine lv_istore (lv' := [(4, .int (-1)), (3, .int (nI i_1)), (0, .ref aJ), (1, .int (nI op)), (2, .int (nI oth))]) hx hb dX2_commuting_19 hl (by decide) rfl (fun ls hl => ?_)
          refine lv_aload_n hx hb dX2_commuting_21 rfl (lv_at hl 2 rfl) ?_
          refine lv_iload_n hx hb dX2_commuting_22 rfl (lv_at hl 4 rfl) ?_
          refine lv_iload_n hx hb dX2_commuting_23 rfl (lv_at hl 1 rfl) ?_
          refine aft_i (wr := []) hP hD hS hA [0, 1, 2] [] rfl rfl (by decide) (by decide) (run_v (As := [.int (nI oth), .int (nI i_1)]) (rest := []) hFix hK hE hP hD [0, 1, 2] (k_X2_outcome l D cs _ aJ oth i_1 aO aS jm jd jl jv jq jb jp jw jh js sw s1 s2 s3 s4 fr zs sc st (by first | assumption | decide | omega) (by first | assumption | decide | omega) (by first | assumption | decide | omega) (by first | assumption | decide | omega) (by first | assumption | decide | omega) (by first | assumption | decide | omega)) (cwV 2 hts gc_X2_commuting_136_X2_outcome rfl rfl rfl (by decide +kernel) ⟨Nat.le_of_ble_eq_true rfl, Nat.le_of_ble_eq_true rfl⟩) rfl (by decide) rfl rfl rfl hl.1 rfl (Nat.le_of_ble_eq_true rfl) dX2_commuting_24 ⟨Nat.le_of_ble_eq_true rfl, Nat.le_of_ble_eq_true rfl⟩) (fun r_5 u_5 H locs hq_5 hP hD hS => ?_)
          obtain ⟨j_5, rfl⟩ : ∃ z, z = u_5 := ⟨_, rfl⟩
          have hP : va_P D vwCl [(aJ, .inr (2, [.ref aO, .ref aS, .ref jm, .int jd, .int jl, .long jv, .ref jq, .ref jb, .ref jp, .ref jw, .ref jh, .ref js])), (aS, .inr (6, [.int (nI zs), .int (nI sc), .int (nI st), .long sw, .ref s1, .ref s2, .ref s3, .ref s4])), (s4, .inl (cs 1, 320, .inl fr))] H := hP
          have hD : va_D A [(aJ, .inr (2, [.ref aO, .ref aS, .ref jm, .int jd, .int jl, .long jv, .ref jq, .ref jb, .ref jp, .ref jw, .ref jh, .ref js])), (aS, .inr (6, [.int (nI zs), .int (nI sc), .int (nI st), .long sw, .ref s1, .ref s2, .ref s3, .ref s4])), (s4, .inl (cs 1, 320, .inl fr))] := hD
          replace hq_5 : ((r_5 = (-1) ∧ True) ∨ (r_5 = nI j_5 ∧ j_5 < 64)) := hq_5
          rcases hq_5 with ⟨rfl, hq_5⟩ | ⟨rfl, hq_5⟩
          ·
            refine lv_istore (lv' := [(5, .int (-1)), (4, .int (-1)), (3, .int (nI i_1)), (0, .ref aJ), (1, .int (nI op)), (2, .int (nI oth))]) hx hb dX2_commuting_27 hl (by decide) rfl (fun ls hl => ?_)
            refine lv_aload_n hx hb dX2_commuting_29 rfl (lv_at hl 3 rfl) ?_
            refine lv_iload_n hx hb dX2_commuting_30 rfl (lv_at hl 2 rfl) ?_
            refine aft_i (wr := [(aS, .inr (6, [.int (nI zs), .int (nI sc), .int (nI st), .long sw, .ref s1, .ref s2, .ref s3, .ref s4])), (s4, .inl (cs 1, 320, .inl fr))]) hP hD hS hA [0] [1, 2] rfl rfl (by decide) (by decide) (run_v (As := [.int (nI i_1)]) (rest := []) hFix hK hE hP hD [0] (k_X2_isValid l D cs _ aJ (nI i_1) aO aS jm jd jl jv jq jb jp jw jh js) (cwV 1 hts gc_X2_commuting_140_X2_isValid rfl rfl rfl (by decide +kernel) ⟨Nat.le_of_ble_eq_true rfl, Nat.le_of_ble_eq_true rfl⟩) rfl (by decide) rfl rfl rfl hl.1 rfl (Nat.le_of_ble_eq_true rfl) dX2_commuting_31 ⟨Nat.le_of_ble_eq_true rfl, Nat.le_of_ble_eq_true rfl⟩) (fun r_6 u_6 H locs hq_6 hP hD hS => ?_)
            have hP : va_P D vwCl [(aS, .inr (6, [.int (nI zs), .int (nI sc), .int (nI st), .long sw, .ref s1, .ref s2, .ref s3, .ref s4])), (s4, .inl (cs 1, 320, .inl fr)), (aJ, .inr (2, [.ref aO, .ref aS, .ref jm, .int jd, .int jl, .long jv, .ref jq, .ref jb, .ref jp, .ref jw, .ref jh, .ref js]))] H := hP
            have hD : va_D A [(aS, .inr (6, [.int (nI zs), .int (nI sc), .int (nI st), .long sw, .ref s1, .ref s2, .ref s3, .ref s4])), (s4, .inl (cs 1, 320, .inl fr)), (aJ, .inr (2, [.ref aO, .ref aS, .ref jm, .int jd, .int jl, .long jv, .ref jq, .ref jb, .ref jp, .ref jw, .ref jh, .ref js]))] := hD
            replace hq_6 : ((r_6 = 1 ∧ True) ∨ (r_6 = 0 ∧ True)) := hq_6
            rcases hq_6 with ⟨rfl, hq_6⟩ | ⟨rfl, hq_6⟩
            ·
              refine lv_if_eq (tgt := 78) hx hb dX2_commuting_34 (by decide) (fun h9 => absurd h9 (by decide)) (fun _ => ?_)
              refine lv_iload hx hb dX2_commuting_37 (lv_at hl 1 rfl) ?_
              refine lv_iconst (v := (-1)) hx hb dX2_commuting_39 (by decide) ?_
              refine lv_icmp_eq (tgt := 78) hx hb dX2_commuting_40 (by decide) (fun _ => ?_) (fun h9 => absurd h9 (by decide))
              refine lv_iinc (v := (nI (i_1 + 1))) (lv' := [(3, .int (nI (i_1 + 1))), (5, .int (-1)), (4, .int (-1)), (0, .ref aJ), (1, .int (nI op)), (2, .int (nI oth))]) hx hb dX2_commuting_78 hl (k := 2) rfl (nI_1 _) (by decide) rfl (fun ls hl => ?_)
              refine lv_goto (tgt := 2) hx hb dX2_commuting_81 (by decide) ?_
              exact ih_lp_2 (i_1 + 1) H locs ls (by omega) (by omega) (hP.sub [2, 0, 1] rfl) (hD.sub [2, 0, 1] (by decide) rfl) hS (lv_sub hl [0, 3, 4, 5] rfl)
            ·
              refine lv_if_eq (tgt := 78) hx hb dX2_commuting_34 (by decide) (fun _ => ?_) (fun h9 => absurd h9 (by decide))
              refine lv_iinc (v := (nI (i_1 + 1))) (lv' := [(3, .int (nI (i_1 + 1))), (5, .int (-1)), (4, .int (-1)), (0, .ref aJ), (1, .int (nI op)), (2, .int (nI oth))]) hx hb dX2_commuting_78 hl (k := 2) rfl (nI_1 _) (by decide) rfl (fun ls hl => ?_)
              refine lv_goto (tgt := 2) hx hb dX2_commuting_81 (by decide) ?_
              exact ih_lp_2 (i_1 + 1) H locs ls (by omega) (by omega) (hP.sub [2, 0, 1] rfl) (hD.sub [2, 0, 1] (by decide) rfl) hS (lv_sub hl [0, 3, 4, 5] rfl)
          ·
            refine lv_istore (lv' := [(5, .int (nI j_5)), (4, .int (-1)), (3, .int (nI i_1)), (0, .ref aJ), (1, .int (nI op)), (2, .int (nI oth))]) hx hb dX2_commuting_27 hl (by decide) rfl (fun ls hl => ?_)
            refine lv_aload_n hx hb dX2_commuting_29 rfl (lv_at hl 3 rfl) ?_
            refine lv_iload_n hx hb dX2_commuting_30 rfl (lv_at hl 2 rfl) ?_
            refine aft_i (wr := [(aS, .inr (6, [.int (nI zs), .int (nI sc), .int (nI st), .long sw, .ref s1, .ref s2, .ref s3, .ref s4])), (s4, .inl (cs 1, 320, .inl fr))]) hP hD hS hA [0] [1, 2] rfl rfl (by decide) (by decide) (run_v (As := [.int (nI i_1)]) (rest := []) hFix hK hE hP hD [0] (k_X2_isValid l D cs _ aJ (nI i_1) aO aS jm jd jl jv jq jb jp jw jh js) (cwV 1 hts gc_X2_commuting_140_X2_isValid rfl rfl rfl (by decide +kernel) ⟨Nat.le_of_ble_eq_true rfl, Nat.le_of_ble_eq_true rfl⟩) rfl (by decide) rfl rfl rfl hl.1 rfl (Nat.le_of_ble_eq_true rfl) dX2_commuting_31 ⟨Nat.le_of_ble_eq_true rfl, Nat.le_of_ble_eq_true rfl⟩) (fun r_7 u_7 H locs hq_7 hP hD hS => ?_)
            have hP : va_P D vwCl [(aS, .inr (6, [.int (nI zs), .int (nI sc), .int (nI st), .long sw, .ref s1, .ref s2, .ref s3, .ref s4])), (s4, .inl (cs 1, 320, .inl fr)), (aJ, .inr (2, [.ref aO, .ref aS, .ref jm, .int jd, .int jl, .long jv, .ref jq, .ref jb, .ref jp, .ref jw, .ref jh, .ref js]))] H := hP
            have hD : va_D A [(aS, .inr (6, [.int (nI zs), .int (nI sc), .int (nI st), .long sw, .ref s1, .ref s2, .ref s3, .ref s4])), (s4, .inl (cs 1, 320, .inl fr)), (aJ, .inr (2, [.ref aO, .ref aS, .ref jm, .int jd, .int jl, .long jv, .ref jq, .ref jb, .ref jp, .ref jw, .ref jh, .ref js]))] := hD
            replace hq_7 : ((r_7 = 1 ∧ True) ∨ (r_7 = 0 ∧ True)) := hq_7
            rcases hq_7 with ⟨rfl, hq_7⟩ | ⟨rfl, hq_7⟩
            ·
              refine lv_if_eq (tgt := 78) hx hb dX2_commuting_34 (by decide) (fun h9 => absurd h9 (by decide)) (fun _ => ?_)
              refine lv_iload hx hb dX2_commuting_37 (lv_at hl 1 rfl) ?_
              refine lv_iconst (v := (-1)) hx hb dX2_commuting_39 (by decide) ?_
              refine lv_icmp_eq (tgt := 78) hx hb dX2_commuting_40 (by decide) (fun _ => ?_) (fun h9 => absurd h9 (by decide))
              refine lv_iinc (v := (nI (i_1 + 1))) (lv' := [(3, .int (nI (i_1 + 1))), (5, .int (nI j_5)), (4, .int (-1)), (0, .ref aJ), (1, .int (nI op)), (2, .int (nI oth))]) hx hb dX2_commuting_78 hl (k := 2) rfl (nI_1 _) (by decide) rfl (fun ls hl => ?_)
              refine lv_goto (tgt := 2) hx hb dX2_commuting_81 (by decide) ?_
              exact ih_lp_2 (i_1 + 1) H locs ls (by omega) (by omega) (hP.sub [2, 0, 1] rfl) (hD.sub [2, 0, 1] (by decide) rfl) hS (lv_sub hl [0, 3, 4, 5] rfl)
            ·
              refine lv_if_eq (tgt := 78) hx hb dX2_commuting_34 (by decide) (fun _ => ?_) (fun h9 => absurd h9 (by decide))
              refine lv_iinc (v := (nI (i_1 + 1))) (lv' := [(3, .int (nI (i_1 + 1))), (5, .int (nI j_5)), (4, .int (-1)), (0, .ref aJ), (1, .int (nI op)), (2, .int (nI oth))]) hx hb dX2_commuting_78 hl (k := 2) rfl (nI_1 _) (by decide) rfl (fun ls hl => ?_)
              refine lv_goto (tgt := 2) hx hb dX2_commuting_81 (by decide) ?_
              exact ih_lp_2 (i_1 + 1) H locs ls (by omega) (by omega) (hP.sub [2, 0, 1] rfl) (hD.sub [2, 0, 1] (by decide) rfl) hS (lv_sub hl [0, 3, 4, 5] rfl)
        ·
          refine lv_istore (lv' := [(4, .int (nI j_4)), (3, .int (nI i_1)), (0, .ref aJ), (1, .int (nI op)), (2, .int (nI oth))]) hx hb dX2_commuting_19 hl (by decide) rfl (fun ls hl => ?_)
          refine lv_aload_n hx hb dX2_commuting_21 rfl (lv_at hl 2 rfl) ?_
          refine lv_iload_n hx hb dX2_commuting_22 rfl (lv_at hl 4 rfl) ?_
          refine lv_iload_n hx hb dX2_commuting_23 rfl (lv_at hl 1 rfl) ?_
          refine aft_i (wr := []) hP hD hS hA [0, 1, 2] [] rfl rfl (by decide) (by decide) (run_v (As := [.int (nI oth), .int (nI i_1)]) (rest := []) hFix hK hE hP hD [0, 1, 2] (k_X2_outcome l D cs _ aJ oth i_1 aO aS jm jd jl jv jq jb jp jw jh js sw s1 s2 s3 s4 fr zs sc st (by first | assumption | decide | omega) (by first | assumption | decide | omega) (by first | assumption | decide | omega) (by first | assumption | decide | omega) (by first | assumption | decide | omega) (by first | assumption | decide | omega)) (cwV 2 hts gc_X2_commuting_136_X2_outcome rfl rfl rfl (by decide +kernel) ⟨Nat.le_of_ble_eq_true rfl, Nat.le_of_ble_eq_true rfl⟩) rfl (by decide) rfl rfl rfl hl.1 rfl (Nat.le_of_ble_eq_true rfl) dX2_commuting_24 ⟨Nat.le_of_ble_eq_true rfl, Nat.le_of_ble_eq_true rfl⟩) (fun r_8 u_8 H locs hq_8 hP hD hS => ?_)
          obtain ⟨j_8, rfl⟩ : ∃ z, z = u_8 := ⟨_, rfl⟩
          have hP : va_P D vwCl [(aJ, .inr (2, [.ref aO, .ref aS, .ref jm, .int jd, .int jl, .long jv, .ref jq, .ref jb, .ref jp, .ref jw, .ref jh, .ref js])), (aS, .inr (6, [.int (nI zs), .int (nI sc), .int (nI st), .long sw, .ref s1, .ref s2, .ref s3, .ref s4])), (s4, .inl (cs 1, 320, .inl fr))] H := hP
          have hD : va_D A [(aJ, .inr (2, [.ref aO, .ref aS, .ref jm, .int jd, .int jl, .long jv, .ref jq, .ref jb, .ref jp, .ref jw, .ref jh, .ref js])), (aS, .inr (6, [.int (nI zs), .int (nI sc), .int (nI st), .long sw, .ref s1, .ref s2, .ref s3, .ref s4])), (s4, .inl (cs 1, 320, .inl fr))] := hD
          replace hq_8 : ((r_8 = (-1) ∧ True) ∨ (r_8 = nI j_8 ∧ j_8 < 64)) := hq_8
          rcases hq_8 with ⟨rfl, hq_8⟩ | ⟨rfl, hq_8⟩
          ·
            refine lv_istore (lv' := [(5, .int (-1)), (4, .int (nI j_4)), (3, .int (nI i_1)), (0, .ref aJ), (1, .int (nI op)), (2, .int (nI oth))]) hx hb dX2_commuting_27 hl (by decide) rfl (fun ls hl => ?_)
            refine lv_aload_n hx hb dX2_commuting_29 rfl (lv_at hl 3 rfl) ?_
            refine lv_iload_n hx hb dX2_commuting_30 rfl (lv_at hl 2 rfl) ?_
            refine aft_i (wr := [(aS, .inr (6, [.int (nI zs), .int (nI sc), .int (nI st), .long sw, .ref s1, .ref s2, .ref s3, .ref s4])), (s4, .inl (cs 1, 320, .inl fr))]) hP hD hS hA [0] [1, 2] rfl rfl (by decide) (by decide) (run_v (As := [.int (nI i_1)]) (rest := []) hFix hK hE hP hD [0] (k_X2_isValid l D cs _ aJ (nI i_1) aO aS jm jd jl jv jq jb jp jw jh js) (cwV 1 hts gc_X2_commuting_140_X2_isValid rfl rfl rfl (by decide +kernel) ⟨Nat.le_of_ble_eq_true rfl, Nat.le_of_ble_eq_true rfl⟩) rfl (by decide) rfl rfl rfl hl.1 rfl (Nat.le_of_ble_eq_true rfl) dX2_commuting_31 ⟨Nat.le_of_ble_eq_true rfl, Nat.le_of_ble_eq_true rfl⟩) (fun r_9 u_9 H locs hq_9 hP hD hS => ?_)
            have hP : va_P D vwCl [(aS, .inr (6, [.int (nI zs), .int (nI sc), .int (nI st), .long sw, .ref s1, .ref s2, .ref s3, .ref s4])), (s4, .inl (cs 1, 320, .inl fr)), (aJ, .inr (2, [.ref aO, .ref aS, .ref jm, .int jd, .int jl, .long jv, .ref jq, .ref jb, .ref jp, .ref jw, .ref jh, .ref js]))] H := hP
            have hD : va_D A [(aS, .inr (6, [.int (nI zs), .int (nI sc), .int (nI st), .long sw, .ref s1, .ref s2, .ref s3, .ref s4])), (s4, .inl (cs 1, 320, .inl fr)), (aJ, .inr (2, [.ref aO, .ref aS, .ref jm, .int jd, .int jl, .long jv, .ref jq, .ref jb, .ref jp, .ref jw, .ref jh, .ref js]))] := hD
            replace hq_9 : ((r_9 = 1 ∧ True) ∨ (r_9 = 0 ∧ True)) := hq_9
            rcases hq_9 with ⟨rfl, hq_9⟩ | ⟨rfl, hq_9⟩
            ·
              refine lv_if_eq (tgt := 78) hx hb dX2_commuting_34 (by decide) (fun h9 => absurd h9 (by decide)) (fun _ => ?_)
              refine lv_iload hx hb dX2_commuting_37 (lv_at hl 1 rfl) ?_
              refine lv_iconst (v := (-1)) hx hb dX2_commuting_39 (by decide) ?_
              refine lv_icmp_eq (tgt := 78) hx hb dX2_commuting_40 (by decide) (fun h9 => False.elim (nneg_eq (a := j_4) h9 (by omega) (by decide))) (fun _ => ?_)
              refine lv_iload hx hb dX2_commuting_43 (lv_at hl 0 rfl) ?_
              refine lv_iconst (v := (-1)) hx hb dX2_commuting_45 (by decide) ?_
              refine lv_icmp_eq (tgt := 78) hx hb dX2_commuting_46 (by decide) (fun _ => ?_) (fun h9 => absurd h9 (by decide))
              refine lv_iinc (v := (nI (i_1 + 1))) (lv' := [(3, .int (nI (i_1 + 1))), (5, .int (-1)), (4, .int (nI j_4)), (0, .ref aJ), (1, .int (nI op)), (2, .int (nI oth))]) hx hb dX2_commuting_78 hl (k := 2) rfl (nI_1 _) (by decide) rfl (fun ls hl => ?_)
              refine lv_goto (tgt := 2) hx hb dX2_commuting_81 (by decide) ?_
              exact ih_lp_2 (i_1 + 1) H locs ls (by omega) (by omega) (hP.sub [2, 0, 1] rfl) (hD.sub [2, 0, 1] (by decide) rfl) hS (lv_sub hl [0, 3, 4, 5] rfl)
            ·
              refine lv_if_eq (tgt := 78) hx hb dX2_commuting_34 (by decide) (fun _ => ?_) (fun h9 => absurd h9 (by decide))
              refine lv_iinc (v := (nI (i_1 + 1))) (lv' := [(3, .int (nI (i_1 + 1))), (5, .int (-1)), (4, .int (nI j_4)), (0, .ref aJ), (1, .int (nI op)), (2, .int (nI oth))]) hx hb dX2_commuting_78 hl (k := 2) rfl (nI_1 _) (by decide) rfl (fun ls hl => ?_)
              refine lv_goto (tgt := 2) hx hb dX2_commuting_81 (by decide) ?_
              exact ih_lp_2 (i_1 + 1) H locs ls (by omega) (by omega) (hP.sub [2, 0, 1] rfl) (hD.sub [2, 0, 1] (by decide) rfl) hS (lv_sub hl [0, 3, 4, 5] rfl)
          ·
            refine lv_istore (lv' := [(5, .int (nI j_8)), (4, .int (nI j_4)), (3, .int (nI i_1)), (0, .ref aJ), (1, .int (nI op)), (2, .int (nI oth))]) hx hb dX2_commuting_27 hl (by decide) rfl (fun ls hl => ?_)
            refine lv_aload_n hx hb dX2_commuting_29 rfl (lv_at hl 3 rfl) ?_
            refine lv_iload_n hx hb dX2_commuting_30 rfl (lv_at hl 2 rfl) ?_
            refine aft_i (wr := [(aS, .inr (6, [.int (nI zs), .int (nI sc), .int (nI st), .long sw, .ref s1, .ref s2, .ref s3, .ref s4])), (s4, .inl (cs 1, 320, .inl fr))]) hP hD hS hA [0] [1, 2] rfl rfl (by decide) (by decide) (run_v (As := [.int (nI i_1)]) (rest := []) hFix hK hE hP hD [0] (k_X2_isValid l D cs _ aJ (nI i_1) aO aS jm jd jl jv jq jb jp jw jh js) (cwV 1 hts gc_X2_commuting_140_X2_isValid rfl rfl rfl (by decide +kernel) ⟨Nat.le_of_ble_eq_true rfl, Nat.le_of_ble_eq_true rfl⟩) rfl (by decide) rfl rfl rfl hl.1 rfl (Nat.le_of_ble_eq_true rfl) dX2_commuting_31 ⟨Nat.le_of_ble_eq_true rfl, Nat.le_of_ble_eq_true rfl⟩) (fun r_11 u_11 H locs hq_11 hP hD hS => ?_)
            have hP : va_P D vwCl [(aS, .inr (6, [.int (nI zs), .int (nI sc), .int (nI st), .long sw, .ref s1, .ref s2, .ref s3, .ref s4])), (s4, .inl (cs 1, 320, .inl fr)), (aJ, .inr (2, [.ref aO, .ref aS, .ref jm, .int jd, .int jl, .long jv, .ref jq, .ref jb, .ref jp, .ref jw, .ref jh, .ref js]))] H := hP
            have hD : va_D A [(aS, .inr (6, [.int (nI zs), .int (nI sc), .int (nI st), .long sw, .ref s1, .ref s2, .ref s3, .ref s4])), (s4, .inl (cs 1, 320, .inl fr)), (aJ, .inr (2, [.ref aO, .ref aS, .ref jm, .int jd, .int jl, .long jv, .ref jq, .ref jb, .ref jp, .ref jw, .ref jh, .ref js]))] := hD
            replace hq_11 : ((r_11 = 1 ∧ True) ∨ (r_11 = 0 ∧ True)) := hq_11
            rcases hq_11 with ⟨rfl, hq_11⟩ | ⟨rfl, hq_11⟩
            ·
              refine lv_if_eq (tgt := 78) hx hb dX2_commuting_34 (by decide) (fun h9 => absurd h9 (by decide)) (fun _ => ?_)
              refine lv_iload hx hb dX2_commuting_37 (lv_at hl 1 rfl) ?_
              refine lv_iconst (v := (-1)) hx hb dX2_commuting_39 (by decide) ?_
              refine lv_icmp_eq (tgt := 78) hx hb dX2_commuting_40 (by decide) (fun h9 => False.elim (nneg_eq (a := j_4) h9 (by omega) (by decide))) (fun _ => ?_)
              refine lv_iload hx hb dX2_commuting_43 (lv_at hl 0 rfl) ?_
              refine lv_iconst (v := (-1)) hx hb dX2_commuting_45 (by decide) ?_
              refine lv_icmp_eq (tgt := 78) hx hb dX2_commuting_46 (by decide) (fun h9 => False.elim (nneg_eq (a := j_8) h9 (by omega) (by decide))) (fun _ => ?_)
              refine lv_aload_n hx hb dX2_commuting_49 rfl (lv_at hl 3 rfl) ?_
              refine lv_iload_n hx hb dX2_commuting_50 rfl (lv_at hl 5 rfl) ?_
              refine lv_iload hx hb dX2_commuting_51 (lv_at hl 1 rfl) ?_
              refine aft_i (wr := []) hP hD hS hA [2, 0, 1] [] rfl rfl (by decide) (by decide) (run_v (As := [.int (nI oth), .int (nI j_4)]) (rest := []) hFix hK hE hP hD [2, 0, 1] (k_X2_outcome l D cs _ aJ oth j_4 aO aS jm jd jl jv jq jb jp jw jh js sw s1 s2 s3 s4 fr zs sc st (by first | assumption | decide | omega) (by first | assumption | decide | omega) (by first | assumption | decide | omega) (by first | assumption | decide | omega) (by first | assumption | decide | omega) (by first | assumption | decide | omega)) (cwV 2 hts gc_X2_commuting_136_X2_outcome rfl rfl rfl (by decide +kernel) ⟨Nat.le_of_ble_eq_true rfl, Nat.le_of_ble_eq_true rfl⟩) rfl (by decide) rfl rfl rfl hl.1 rfl (Nat.le_of_ble_eq_true rfl) dX2_commuting_53 ⟨Nat.le_of_ble_eq_true rfl, Nat.le_of_ble_eq_true rfl⟩) (fun r_14 u_14 H locs hq_14 hP hD hS => ?_)
              obtain ⟨j_14, rfl⟩ : ∃ z, z = u_14 := ⟨_, rfl⟩
              have hP : va_P D vwCl [(aJ, .inr (2, [.ref aO, .ref aS, .ref jm, .int jd, .int jl, .long jv, .ref jq, .ref jb, .ref jp, .ref jw, .ref jh, .ref js])), (aS, .inr (6, [.int (nI zs), .int (nI sc), .int (nI st), .long sw, .ref s1, .ref s2, .ref s3, .ref s4])), (s4, .inl (cs 1, 320, .inl fr))] H := hP
              have hD : va_D A [(aJ, .inr (2, [.ref aO, .ref aS, .ref jm, .int jd, .int jl, .long jv, .ref jq, .ref jb, .ref jp, .ref jw, .ref jh, .ref js])), (aS, .inr (6, [.int (nI zs), .int (nI sc), .int (nI st), .long sw, .ref s1, .ref s2, .ref s3, .ref s4])), (s4, .inl (cs 1, 320, .inl fr))] := hD
              replace hq_14 : ((r_14 = (-1) ∧ True) ∨ (r_14 = nI j_14 ∧ j_14 < 64)) := hq_14
              rcases hq_14 with ⟨rfl, hq_14⟩ | ⟨rfl, hq_14⟩
              ·
                refine lv_istore (lv' := [(6, .int (-1)), (5, .int (nI j_8)), (4, .int (nI j_4)), (3, .int (nI i_1)), (0, .ref aJ), (1, .int (nI op)), (2, .int (nI oth))]) hx hb dX2_commuting_56 hl (by decide) rfl (fun ls hl => ?_)
                refine lv_iload hx hb dX2_commuting_58 (lv_at hl 0 rfl) ?_
                refine lv_iconst (v := (-1)) hx hb dX2_commuting_60 (by decide) ?_
                refine lv_icmp_eq (tgt := 76) hx hb dX2_commuting_61 (by decide) (fun _ => ?_) (fun h9 => absurd h9 (by decide))
                refine lv_iconst (v := 0) hx hb dX2_commuting_76 (by decide) ?_
                exact ret_z hx hb hr hlk hS (Nat.le_of_ble_eq_true rfl) (Nat.le_of_ble_eq_true rfl) (by decide) () (Or.inr (⟨rfl, trivial⟩)) (hP.sub [0, 1, 2] rfl) (hD.sub [0, 1, 2] (by decide) rfl) dX2_commuting_77
              ·
                refine lv_istore (lv' := [(6, .int (nI j_14)), (5, .int (nI j_8)), (4, .int (nI j_4)), (3, .int (nI i_1)), (0, .ref aJ), (1, .int (nI op)), (2, .int (nI oth))]) hx hb dX2_commuting_56 hl (by decide) rfl (fun ls hl => ?_)
                refine lv_iload hx hb dX2_commuting_58 (lv_at hl 0 rfl) ?_
                refine lv_iconst (v := (-1)) hx hb dX2_commuting_60 (by decide) ?_
                refine lv_icmp_eq (tgt := 76) hx hb dX2_commuting_61 (by decide) (fun h9 => False.elim (nneg_eq (a := j_14) h9 (by omega) (by decide))) (fun _ => ?_)
                refine lv_iload hx hb dX2_commuting_64 (lv_at hl 0 rfl) ?_
                refine lv_aload_n hx hb dX2_commuting_66 rfl (lv_at hl 4 rfl) ?_
                refine lv_iload_n hx hb dX2_commuting_67 rfl (lv_at hl 5 rfl) ?_
                refine lv_iload hx hb dX2_commuting_68 (lv_at hl 1 rfl) ?_
                refine aft_i (wr := []) hP hD hS hA [0, 1, 2] [] rfl rfl (by decide) (by decide) (run_v (As := [.int (nI op), .int (nI j_8)]) (rest := [.int (nI j_14)]) hFix hK hE hP hD [0, 1, 2] (k_X2_outcome l D cs _ aJ op j_8 aO aS jm jd jl jv jq jb jp jw jh js sw s1 s2 s3 s4 fr zs sc st (by first | assumption | decide | omega) (by first | assumption | decide | omega) (by first | assumption | decide | omega) (by first | assumption | decide | omega) (by first | assumption | decide | omega) (by first | assumption | decide | omega)) (cwV 2 hts gc_X2_commuting_136_X2_outcome rfl rfl rfl (by decide +kernel) ⟨Nat.le_of_ble_eq_true rfl, Nat.le_of_ble_eq_true rfl⟩) rfl (by decide) rfl rfl rfl hl.1 rfl (Nat.le_of_ble_eq_true rfl) dX2_commuting_70 ⟨Nat.le_of_ble_eq_true rfl, Nat.le_of_ble_eq_true rfl⟩) (fun r_16 u_16 H locs hq_16 hP hD hS => ?_)
                obtain ⟨j_16, rfl⟩ : ∃ z, z = u_16 := ⟨_, rfl⟩
                have hP : va_P D vwCl [(aJ, .inr (2, [.ref aO, .ref aS, .ref jm, .int jd, .int jl, .long jv, .ref jq, .ref jb, .ref jp, .ref jw, .ref jh, .ref js])), (aS, .inr (6, [.int (nI zs), .int (nI sc), .int (nI st), .long sw, .ref s1, .ref s2, .ref s3, .ref s4])), (s4, .inl (cs 1, 320, .inl fr))] H := hP
                have hD : va_D A [(aJ, .inr (2, [.ref aO, .ref aS, .ref jm, .int jd, .int jl, .long jv, .ref jq, .ref jb, .ref jp, .ref jw, .ref jh, .ref js])), (aS, .inr (6, [.int (nI zs), .int (nI sc), .int (nI st), .long sw, .ref s1, .ref s2, .ref s3, .ref s4])), (s4, .inl (cs 1, 320, .inl fr))] := hD
                replace hq_16 : ((r_16 = (-1) ∧ True) ∨ (r_16 = nI j_16 ∧ j_16 < 64)) := hq_16
                rcases hq_16 with ⟨rfl, hq_16⟩ | ⟨rfl, hq_16⟩
                ·
                  refine lv_icmp_eq (tgt := 78) hx hb dX2_commuting_73 (by decide) (fun h9 => False.elim (nneg_eq (a := j_14) h9 (by omega) (by decide))) (fun _ => ?_)
                  refine lv_iconst (v := 0) hx hb dX2_commuting_76 (by decide) ?_
                  exact ret_z hx hb hr hlk hS (Nat.le_of_ble_eq_true rfl) (Nat.le_of_ble_eq_true rfl) (by decide) () (Or.inr (⟨rfl, trivial⟩)) (hP.sub [0, 1, 2] rfl) (hD.sub [0, 1, 2] (by decide) rfl) dX2_commuting_77
                ·
                  refine lv_icmp_eq (tgt := 78) hx hb dX2_commuting_73 (by decide) (fun c_18 => ?_) (fun c_18 => ?_)
                  ·
                    have hn_18 := beq_t (a := j_14) (b := j_16) c_18 (by omega) (by omega)
                    refine lv_iinc (v := (nI (i_1 + 1))) (lv' := [(3, .int (nI (i_1 + 1))), (6, .int (nI j_14)), (5, .int (nI j_8)), (4, .int (nI j_4)), (0, .ref aJ), (1, .int (nI op)), (2, .int (nI oth))]) hx hb dX2_commuting_78 hl (k := 3) rfl (nI_1 _) (by decide) rfl (fun ls hl => ?_)
                    refine lv_goto (tgt := 2) hx hb dX2_commuting_81 (by decide) ?_
                    exact ih_lp_2 (i_1 + 1) H locs ls (by omega) (by omega) (hP.sub [0, 1, 2] rfl) (hD.sub [0, 1, 2] (by decide) rfl) hS (lv_sub hl [0, 4, 5, 6] rfl)
                  ·
                    have hn_18 := beq_f (a := j_14) (b := j_16) c_18 (by omega) (by omega)
                    refine lv_iconst (v := 0) hx hb dX2_commuting_76 (by decide) ?_
                    exact ret_z hx hb hr hlk hS (Nat.le_of_ble_eq_true rfl) (Nat.le_of_ble_eq_true rfl) (by decide) () (Or.inr (⟨rfl, trivial⟩)) (hP.sub [0, 1, 2] rfl) (hD.sub [0, 1, 2] (by decide) rfl) dX2_commuting_77
            ·
              refine lv_if_eq (tgt := 78) hx hb dX2_commuting_34 (by decide) (fun _ => ?_) (fun h9 => absurd h9 (by decide))
              refine lv_iinc (v := (nI (i_1 + 1))) (lv' := [(3, .int (nI (i_1 + 1))), (5, .int (nI j_8)), (4, .int (nI j_4)), (0, .ref aJ), (1, .int (nI op)), (2, .int (nI oth))]) hx hb dX2_commuting_78 hl (k := 2) rfl (nI_1 _) (by decide) rfl (fun ls hl => ?_)
              refine lv_goto (tgt := 2) hx hb dX2_commuting_81 (by decide) ?_
              exact ih_lp_2 (i_1 + 1) H locs ls (by omega) (by omega) (hP.sub [2, 0, 1] rfl) (hD.sub [2, 0, 1] (by decide) rfl) hS (lv_sub hl [0, 3, 4, 5] rfl)
  exact lp_2 _ 0 H locs ls (by omega) (Nat.lt_succ_self _) (hP.sub [0, 1, 2] rfl) (hD.sub [0, 1, 2] (by decide) rfl) hS (lv_sub hl [0, 1, 2, 3] rfl)

set_option maxHeartbeats 4000000 in
set_option maxRecDepth 100000 in
theorem k_X2_merged (l : Launch) (D : va_G) (cs : Nat → ClassId) (sz : Nat) (aJ : Nat) (b1 : Nat) (b2 : Nat) (b3 : Nat) (aO : Nat) (aS : Nat) (jm : Nat) (jd : Int32) (jl : Int32) (jv : Int64) (jq : Nat) (jb : Nat) (jp : Nat) (jw : Nat) (jh : Nat) (js : Nat) (jx : Nat) (fx : Nat → Int32) (sw : Int64) (s1 : Nat) (s2 : Nat) (s3 : Nat) (s4 : Nat) (fa : Nat → Int32) (zs : Nat) (sc : Nat) (st : Nat) (hzs : zs ≤ 64) (hsc : sc ≤ 3) (hst : st ≤ 3) (ha_b1 : b1 < 64) (ha_b2 : b2 < 64) (ha_b3 : b3 < 64) : Mi l D cs yX2_merged W_X2_merged 1 24 0 0 [.ref aJ, .int (nI b1), .int (nI b2), .int (nI b3)] [(aJ, .inr (2, [.ref aO, .ref aS, .ref jm, .int jd, .int jl, .long jv, .ref jq, .ref jb, .ref jp, .ref jw, .ref jh, .ref js])), (jm, .inr (3, [.ref jx])), (jx, .inl (cs 1, 192, .inl fx)), (aS, .inr (6, [.int (nI zs), .int (nI sc), .int (nI st), .long sw, .ref s1, .ref s2, .ref s3, .ref s4])), (s2, .inl (cs 1, 64, .inl fa))] sz (fun (r : Int32) (u : Unit) => True) (fun (u : Unit) => [(aJ, .inr (2, [.ref aO, .ref aS, .ref jm, .int jd, .int jl, .long jv, .ref jq, .ref jb, .ref jp, .ref jw, .ref jh, .ref js])), (jm, .inr (3, [.ref jx])), (jx, .inl (cs 1, 192, .inl fx)), (aS, .inr (6, [.int (nI zs), .int (nI sc), .int (nI st), .long sw, .ref s1, .ref s2, .ref s3, .ref s4])), (s2, .inl (cs 1, 64, .inl fa))]) := by
  refine ent (D := D) (cs := cs) (y := yX2_merged) (ws := W_X2_merged) (As := [.ref aJ, .int (nI b1), .int (nI b2), .int (nI b3)]) (W0 := [(aJ, .inr (2, [.ref aO, .ref aS, .ref jm, .int jd, .int jl, .long jv, .ref jq, .ref jb, .ref jp, .ref jw, .ref jh, .ref js])), (jm, .inr (3, [.ref jx])), (jx, .inl (cs 1, 192, .inl fx)), (aS, .inr (6, [.int (nI zs), .int (nI sc), .int (nI st), .long sw, .ref s1, .ref s2, .ref s3, .ref s4])), (s2, .inl (cs 1, 64, .inl fa))]) (Qx := fun A => va_Qi (fun (r : Int32) (u : Unit) => True) (mpost D A (fun (u : Unit) => [(aJ, .inr (2, [.ref aO, .ref aS, .ref jm, .int jd, .int jl, .long jv, .ref jq, .ref jb, .ref jp, .ref jw, .ref jh, .ref js])), (jm, .inr (3, [.ref jx])), (jx, .inl (cs 1, 192, .inl fx)), (aS, .inr (6, [.int (nI zs), .int (nI sc), .int (nI st), .long sw, .ref s1, .ref s2, .ref s3, .ref s4])), (s2, .inl (cs 1, 64, .inl fa))])) A) (maxL := 4) (ret := (some .int)) (by decide) rfl (Nat.le_of_ble_eq_true rfl) ?_
  intro p e s m below meth c A ls hx hb hr hml hlk hown hts hin hK hE hP hD hA hS hl
  have hl : lv_has ls 4 [(0, .ref aJ), (1, .int (nI b1)), (2, .int (nI b2)), (3, .int (nI b3))] := hl
  generalize hHe : s.heap = H at hP
  have hS : va_S A s.heap H [] := hHe ▸ hS
  generalize hLe : ([] : List Loc) = locs at hS ⊢
  have htw : ∀ w ∈ O_X2_merged, w.before ([.ref aJ, .int (nI b1), .int (nI b2), .int (nI b3)] : List Value).toArray s = true := fun w h => hts w (List.mem_cons_of_mem _ (List.mem_append_left _ h))
  have hFix := (⟨hx, hb, hml, hown, hts⟩ : CallFix p m c _ _ s _ _ _)
  refine lv_aload_n hx hb dX2_merged_0 rfl (lv_at hl 0 rfl) ?_
  refine va_get (D := D) (ci := 2) (v := .ref jm) (C := RX2) (T := TX2) (N := 12) hx hb hts iuX2_merged_X2 hown hK hP 0 rfl rfl 2 (by decide) (htw (.fieldLink RX2 12 "MergeJudge$Judge" "merger" "LMergeJudge$Merger;") (List.mem_of_getElem? (i := 0) rfl)) (fun _ h9 => h9) rfl dX2_merged_1 ?_
  refine lv_aload_n hx hb dX2_merged_4 rfl (lv_at hl 0 rfl) ?_
  refine va_get (D := D) (ci := 2) (v := .ref aS) (C := RX2) (T := TX2) (N := 12) hx hb hts iuX2_merged_X2 hown hK hP 0 rfl rfl 1 (by decide) (htw (.fieldLink RX2 53 "MergeJudge$Judge" "space" "LMergeJudge$Space;") (List.mem_of_getElem? (i := 1) rfl)) (fun _ h9 => h9) rfl dX2_merged_5 ?_
  refine va_get (D := D) (ci := 6) (v := .ref s2) (C := RX6) (T := TX6) (N := 8) hx hb hts iuX2_merged_X6 hown hK hP 3 rfl rfl 5 (by decide) (htw (.fieldLink RX2 143 "MergeJudge$Space" "packed" "[I") (List.mem_of_getElem? (i := 2) rfl)) (fun _ h9 => h9) rfl dX2_merged_8 ?_
  refine lv_iload_n hx hb dX2_merged_11 rfl (lv_at hl 1 rfl) ?_
  refine va_iald hx hb hK hP 4 1 rfl rfl (vp_in_nI (by omega) (by omega)) dX2_merged_12 ?_
  rw [nI_clamp (by omega)]
  refine lv_aload_n hx hb dX2_merged_13 rfl (lv_at hl 0 rfl) ?_
  refine va_get (D := D) (ci := 2) (v := .ref aS) (C := RX2) (T := TX2) (N := 12) hx hb hts iuX2_merged_X2 hown hK hP 0 rfl rfl 1 (by decide) (htw (.fieldLink RX2 53 "MergeJudge$Judge" "space" "LMergeJudge$Space;") (List.mem_of_getElem? (i := 1) rfl)) (fun _ h9 => h9) rfl dX2_merged_14 ?_
  refine va_get (D := D) (ci := 6) (v := .ref s2) (C := RX6) (T := TX6) (N := 8) hx hb hts iuX2_merged_X6 hown hK hP 3 rfl rfl 5 (by decide) (htw (.fieldLink RX2 143 "MergeJudge$Space" "packed" "[I") (List.mem_of_getElem? (i := 2) rfl)) (fun _ h9 => h9) rfl dX2_merged_17 ?_
  refine lv_iload_n hx hb dX2_merged_20 rfl (lv_at hl 2 rfl) ?_
  refine va_iald hx hb hK hP 4 1 rfl rfl (vp_in_nI (by omega) (by omega)) dX2_merged_21 ?_
  rw [nI_clamp (by omega)]
  refine lv_aload_n hx hb dX2_merged_22 rfl (lv_at hl 0 rfl) ?_
  refine va_get (D := D) (ci := 2) (v := .ref aS) (C := RX2) (T := TX2) (N := 12) hx hb hts iuX2_merged_X2 hown hK hP 0 rfl rfl 1 (by decide) (htw (.fieldLink RX2 53 "MergeJudge$Judge" "space" "LMergeJudge$Space;") (List.mem_of_getElem? (i := 1) rfl)) (fun _ h9 => h9) rfl dX2_merged_23 ?_
  refine va_get (D := D) (ci := 6) (v := .ref s2) (C := RX6) (T := TX6) (N := 8) hx hb hts iuX2_merged_X6 hown hK hP 3 rfl rfl 5 (by decide) (htw (.fieldLink RX2 143 "MergeJudge$Space" "packed" "[I") (List.mem_of_getElem? (i := 2) rfl)) (fun _ h9 => h9) rfl dX2_merged_26 ?_
  refine lv_iload_n hx hb dX2_merged_29 rfl (lv_at hl 3 rfl) ?_
  refine va_iald hx hb hK hP 4 1 rfl rfl (vp_in_nI (by omega) (by omega)) dX2_merged_30 ?_
  rw [nI_clamp (by omega)]
  refine aft_i (wr := [(aJ, .inr (2, [.ref aO, .ref aS, .ref jm, .int jd, .int jl, .long jv, .ref jq, .ref jb, .ref jp, .ref jw, .ref jh, .ref js])), (aS, .inr (6, [.int (nI zs), .int (nI sc), .int (nI st), .long sw, .ref s1, .ref s2, .ref s3, .ref s4])), (s2, .inl (cs 1, 64, .inl fa))]) hP hD hS hA [1, 2] [0, 3, 4] rfl rfl (by decide) (by decide) (run_v (As := [.int (fa b1), .int (fa b2), .int (fa b3)]) (rest := []) hFix hK hE hP hD [1, 2] (k_X3_mergePacked l D cs _ jm (fa b1) (fa b2) (fa b3) jx fx) (cwV 3 hts gc_X2_merged_146_X3_mergePacked rfl rfl rfl (by decide +kernel) ⟨Nat.le_of_ble_eq_true rfl, Nat.le_of_ble_eq_true rfl⟩) rfl (by decide) rfl rfl rfl hl.1 rfl (Nat.le_of_ble_eq_true rfl) dX2_merged_31 ⟨Nat.le_of_ble_eq_true rfl, Nat.le_of_ble_eq_true rfl⟩) (fun r_1 u_1 H locs hq_1 hP hD hS => ?_)
  have hP : va_P D vwCl [(aJ, .inr (2, [.ref aO, .ref aS, .ref jm, .int jd, .int jl, .long jv, .ref jq, .ref jb, .ref jp, .ref jw, .ref jh, .ref js])), (aS, .inr (6, [.int (nI zs), .int (nI sc), .int (nI st), .long sw, .ref s1, .ref s2, .ref s3, .ref s4])), (s2, .inl (cs 1, 64, .inl fa)), (jm, .inr (3, [.ref jx])), (jx, .inl (cs 1, 192, .inl fx))] H := hP
  have hD : va_D A [(aJ, .inr (2, [.ref aO, .ref aS, .ref jm, .int jd, .int jl, .long jv, .ref jq, .ref jb, .ref jp, .ref jw, .ref jh, .ref js])), (aS, .inr (6, [.int (nI zs), .int (nI sc), .int (nI st), .long sw, .ref s1, .ref s2, .ref s3, .ref s4])), (s2, .inl (cs 1, 64, .inl fa)), (jm, .inr (3, [.ref jx])), (jx, .inl (cs 1, 192, .inl fx))] := hD
  exact ret_i hx hb hr hlk hS (Nat.le_of_ble_eq_true rfl) (Nat.le_of_ble_eq_true rfl) () (trivial) (hP.sub [0, 3, 4, 1, 2] rfl) (hD.sub [0, 3, 4, 1, 2] (by decide) rfl) dX2_merged_34

set_option maxHeartbeats 4000000 in
set_option maxRecDepth 100000 in
theorem k_X2_clashesOf (l : Launch) (D : va_G) (cs : Nat → ClassId) (sz : Nat) (aJ : Nat) (op : Nat) (oth : Nat) (aO : Nat) (aS : Nat) (jm : Nat) (jd : Int32) (jl : Int32) (jv : Int64) (jq : Nat) (jb : Nat) (jp : Nat) (jw : Nat) (jh : Nat) (js : Nat) (jx : Nat) (fx : Nat → Int32) (sw : Int64) (s1 : Nat) (s2 : Nat) (s3 : Nat) (s4 : Nat) (fa : Nat → Int32) (fr : Nat → Int32) (zs : Nat) (sc : Nat) (st : Nat) (hzs : zs ≤ 64) (hsc : sc ≤ 3) (hst : st ≤ 3) (hres : RES fr) (ha_op : op < 5) (ha_oth : oth < 5) : Mi l D cs yX2_clashesOf W_X2_clashesOf 2 47 0 0 [.ref aJ, .int (nI op), .int (nI oth)] [(aJ, .inr (2, [.ref aO, .ref aS, .ref jm, .int jd, .int jl, .long jv, .ref jq, .ref jb, .ref jp, .ref jw, .ref jh, .ref js])), (jm, .inr (3, [.ref jx])), (jx, .inl (cs 1, 192, .inl fx)), (aS, .inr (6, [.int (nI zs), .int (nI sc), .int (nI st), .long sw, .ref s1, .ref s2, .ref s3, .ref s4])), (s2, .inl (cs 1, 64, .inl fa)), (s4, .inl (cs 1, 320, .inl fr))] sz (fun (r : Int32) (u : Unit) => True) (fun (u : Unit) => [(aJ, .inr (2, [.ref aO, .ref aS, .ref jm, .int jd, .int jl, .long jv, .ref jq, .ref jb, .ref jp, .ref jw, .ref jh, .ref js])), (jm, .inr (3, [.ref jx])), (jx, .inl (cs 1, 192, .inl fx)), (aS, .inr (6, [.int (nI zs), .int (nI sc), .int (nI st), .long sw, .ref s1, .ref s2, .ref s3, .ref s4])), (s2, .inl (cs 1, 64, .inl fa)), (s4, .inl (cs 1, 320, .inl fr))]) := by
  refine ent (D := D) (cs := cs) (y := yX2_clashesOf) (ws := W_X2_clashesOf) (As := [.ref aJ, .int (nI op), .int (nI oth)]) (W0 := [(aJ, .inr (2, [.ref aO, .ref aS, .ref jm, .int jd, .int jl, .long jv, .ref jq, .ref jb, .ref jp, .ref jw, .ref jh, .ref js])), (jm, .inr (3, [.ref jx])), (jx, .inl (cs 1, 192, .inl fx)), (aS, .inr (6, [.int (nI zs), .int (nI sc), .int (nI st), .long sw, .ref s1, .ref s2, .ref s3, .ref s4])), (s2, .inl (cs 1, 64, .inl fa)), (s4, .inl (cs 1, 320, .inl fr))]) (Qx := fun A => va_Qi (fun (r : Int32) (u : Unit) => True) (mpost D A (fun (u : Unit) => [(aJ, .inr (2, [.ref aO, .ref aS, .ref jm, .int jd, .int jl, .long jv, .ref jq, .ref jb, .ref jp, .ref jw, .ref jh, .ref js])), (jm, .inr (3, [.ref jx])), (jx, .inl (cs 1, 192, .inl fx)), (aS, .inr (6, [.int (nI zs), .int (nI sc), .int (nI st), .long sw, .ref s1, .ref s2, .ref s3, .ref s4])), (s2, .inl (cs 1, 64, .inl fa)), (s4, .inl (cs 1, 320, .inl fr))])) A) (maxL := 7) (ret := (some .int)) (by decide) rfl (Nat.le_of_ble_eq_true rfl) ?_
  intro p e s m below meth c A ls hx hb hr hml hlk hown hts hin hK hE hP hD hA hS hl
  have hl : lv_has ls 7 [(0, .ref aJ), (1, .int (nI op)), (2, .int (nI oth))] := hl
  generalize hHe : s.heap = H at hP
  have hS : va_S A s.heap H [] := hHe ▸ hS
  generalize hLe : ([] : List Loc) = locs at hS ⊢
  have htw : ∀ w ∈ O_X2_clashesOf, w.before ([.ref aJ, .int (nI op), .int (nI oth)] : List Value).toArray s = true := fun w h => hts w (List.mem_cons_of_mem _ (List.mem_append_left _ h))
  have hFix := (⟨hx, hb, hml, hown, hts⟩ : CallFix p m c _ _ s _ _ _)
  refine lv_iconst (v := 0) hx hb dX2_clashesOf_0 (by decide) ?_
  refine lv_istore_n (lv' := [(3, .int 0), (0, .ref aJ), (1, .int (nI op)), (2, .int (nI oth))]) hx hb dX2_clashesOf_1 rfl hl (by decide) rfl (fun ls hl => ?_)
  refine lv_iconst (v := 0) hx hb dX2_clashesOf_2 (by decide) ?_
  refine lv_istore (lv' := [(4, .int 0), (3, .int 0), (0, .ref aJ), (1, .int (nI op)), (2, .int (nI oth))]) hx hb dX2_clashesOf_3 hl (by decide) rfl (fun ls hl => ?_)
  have lp_2 : ∀ (nfu : Nat) (i_1 : Nat) (v3_1 : Int32) (H : Heap) (locs : List Loc) (ls : Array Slot) (hi_1 : i_1 ≤ zs), zs - i_1 < nfu → va_P D vwCl [(aJ, .inr (2, [.ref aO, .ref aS, .ref jm, .int jd, .int jl, .long jv, .ref jq, .ref jb, .ref jp, .ref jw, .ref jh, .ref js])), (jm, .inr (3, [.ref jx])), (jx, .inl (cs 1, 192, .inl fx)), (aS, .inr (6, [.int (nI zs), .int (nI sc), .int (nI st), .long sw, .ref s1, .ref s2, .ref s3, .ref s4])), (s2, .inl (cs 1, 64, .inl fa)), (s4, .inl (cs 1, 320, .inl fr))] H → va_D A [(aJ, .inr (2, [.ref aO, .ref aS, .ref jm, .int jd, .int jl, .long jv, .ref jq, .ref jb, .ref jp, .ref jw, .ref jh, .ref js])), (jm, .inr (3, [.ref jx])), (jx, .inl (cs 1, 192, .inl fx)), (aS, .inr (6, [.int (nI zs), .int (nI sc), .int (nI st), .long sw, .ref s1, .ref s2, .ref s3, .ref s4])), (s2, .inl (cs 1, 64, .inl fa)), (s4, .inl (cs 1, 320, .inl fr))] → va_S A s.heap H locs → lv_has ls 7 [(4, .int (nI i_1)), (3, .int v3_1), (0, .ref aJ), (1, .int (nI op)), (2, .int (nI oth))] → W p l e (mRm 2 0 0 47) s m ([.ref aJ, .int (nI op), .int (nI oth)] : List Value).toArray below meth c H locs 0 0 (MQ below (va_Qi (fun (r : Int32) (u : Unit) => True) (mpost D A (fun (u : Unit) => [(aJ, .inr (2, [.ref aO, .ref aS, .ref jm, .int jd, .int jl, .long jv, .ref jq, .ref jb, .ref jp, .ref jw, .ref jh, .ref js])), (jm, .inr (3, [.ref jx])), (jx, .inl (cs 1, 192, .inl fx)), (aS, .inr (6, [.int (nI zs), .int (nI sc), .int (nI st), .long sw, .ref s1, .ref s2, .ref s3, .ref s4])), (s2, .inl (cs 1, 64, .inl fa)), (s4, .inl (cs 1, 320, .inl fr))])) A) ([.ref aJ, .int (nI op), .int (nI oth)] : List Value).toArray s 0 0 A) (F0 m 5 ls []) := by
    intro nfu
    induction nfu with
    | zero => intro i_1 v3_1 H locs ls hi_1 hmu; exact absurd hmu (Nat.not_lt_zero _)
    | succ nfu ih =>
      intro i_1 v3_1 H locs ls hi_1 hmu hP hD hS hl
      have ih_lp_2 := @ih
      refine lv_iload hx hb dX2_clashesOf_5 (lv_at hl 0 rfl) ?_
      refine lv_aload_n hx hb dX2_clashesOf_7 rfl (lv_at hl 2 rfl) ?_
      refine va_get (D := D) (ci := 2) (v := .ref aS) (C := RX2) (T := TX2) (N := 12) hx hb hts iuX2_clashesOf_X2 hown hK hP 0 rfl rfl 1 (by decide) (htw (.fieldLink RX2 53 "MergeJudge$Judge" "space" "LMergeJudge$Space;") (List.mem_of_getElem? (i := 0) rfl)) (fun _ h9 => h9) rfl dX2_clashesOf_8 ?_
      refine va_get (D := D) (ci := 6) (v := .int (nI zs)) (C := RX6) (T := TX6) (N := 8) hx hb hts iuX2_clashesOf_X6 hown hK hP 3 rfl rfl 0 (by decide) (htw (.fieldLink RX2 117 "MergeJudge$Space" "size" "I") (List.mem_of_getElem? (i := 1) rfl)) (fun _ h9 => h9) rfl dX2_clashesOf_11 ?_
      refine lv_icmp_ge (tgt := 82) hx hb dX2_clashesOf_14 (by decide) (fun c_3 => ?_) (fun c_3 => ?_)
      ·
        have hn_3 := bge_t (a := i_1) (b := zs) c_3 (by omega) (by omega)
        refine lv_iload_n hx hb dX2_clashesOf_82 rfl (lv_at hl 1 rfl) ?_
        exact ret_i hx hb hr hlk hS (Nat.le_of_ble_eq_true rfl) (Nat.le_of_ble_eq_true rfl) () (trivial) (hP.sub [0, 1, 2, 3, 4, 5] rfl) (hD.sub [0, 1, 2, 3, 4, 5] (by decide) rfl) dX2_clashesOf_83
      ·
        have hn_3 := bge_f (a := i_1) (b := zs) c_3 (by omega) (by omega)
        refine lv_aload_n hx hb dX2_clashesOf_17 rfl (lv_at hl 2 rfl) ?_
        refine lv_iload_n hx hb dX2_clashesOf_18 rfl (lv_at hl 3 rfl) ?_
        refine lv_iload hx hb dX2_clashesOf_19 (lv_at hl 0 rfl) ?_
        refine aft_i (wr := [(jm, .inr (3, [.ref jx])), (jx, .inl (cs 1, 192, .inl fx)), (s2, .inl (cs 1, 64, .inl fa))]) hP hD hS hA [0, 3, 5] [1, 2, 4] rfl rfl (by decide) (by decide) (run_v (As := [.int (nI op), .int (nI i_1)]) (rest := []) hFix hK hE hP hD [0, 3, 5] (k_X2_outcome l D cs _ aJ op i_1 aO aS jm jd jl jv jq jb jp jw jh js sw s1 s2 s3 s4 fr zs sc st (by first | assumption | decide | omega) (by first | assumption | decide | omega) (by first | assumption | decide | omega) (by first | assumption | decide | omega) (by first | assumption | decide | omega) (by first | assumption | decide | omega)) (cwV 2 hts gc_X2_clashesOf_136_X2_outcome rfl rfl rfl (by decide +kernel) ⟨Nat.le_of_ble_eq_true rfl, Nat.le_of_ble_eq_true rfl⟩) rfl (by decide) rfl rfl rfl hl.1 rfl (Nat.le_of_ble_eq_true rfl) dX2_clashesOf_21 ⟨Nat.le_of_ble_eq_true rfl, Nat.le_of_ble_eq_true rfl⟩) (fun r_4 u_4 H locs hq_4 hP hD hS => ?_)
        obtain ⟨j_4, rfl⟩ : ∃ z, z = u_4 := ⟨_, rfl⟩
        have hP : va_P D vwCl [(jm, .inr (3, [.ref jx])), (jx, .inl (cs 1, 192, .inl fx)), (s2, .inl (cs 1, 64, .inl fa)), (aJ, .inr (2, [.ref aO, .ref aS, .ref jm, .int jd, .int jl, .long jv, .ref jq, .ref jb, .ref jp, .ref jw, .ref jh, .ref js])), (aS, .inr (6, [.int (nI zs), .int (nI sc), .int (nI st), .long sw, .ref s1, .ref s2, .ref s3, .ref s4])), (s4, .inl (cs 1, 320, .inl fr))] H := hP
        have hD : va_D A [(jm, .inr (3, [.ref jx])), (jx, .inl (cs 1, 192, .inl fx)), (s2, .inl (cs 1, 64, .inl fa)), (aJ, .inr (2, [.ref aO, .ref aS, .ref jm, .int jd, .int jl, .long jv, .ref jq, .ref jb, .ref jp, .ref jw, .ref jh, .ref js])), (aS, .inr (6, [.int (nI zs), .int (nI sc), .int (nI st), .long sw, .ref s1, .ref s2, .ref s3, .ref s4])), (s4, .inl (cs 1, 320, .inl fr))] := hD
        replace hq_4 : ((r_4 = (-1) ∧ True) ∨ (r_4 = nI j_4 ∧ j_4 < 64)) := hq_4
        rcases hq_4 with ⟨rfl, hq_4⟩ | ⟨rfl, hq_4⟩
        ·
          refine lv_istore (lv' := [(5, .int (-1)), (4, .int (nI i_1)), (3, .int v3_1), (0, .ref aJ), (1, .int (nI op)), (2, .int (nI oth))]) hx hb dX2_clashesOf_24 hl (by decide) rfl (fun ls hl => ?_)
          refine lv_aload_n hx hb dX2_clashesOf_26 rfl (lv_at hl 3 rfl) ?_
          refine lv_iload_n hx hb dX2_clashesOf_27 rfl (lv_at hl 5 rfl) ?_
          refine lv_iload hx hb dX2_clashesOf_28 (lv_at hl 1 rfl) ?_
          refine aft_i (wr := [(jm, .inr (3, [.ref jx])), (jx, .inl (cs 1, 192, .inl fx)), (s2, .inl (cs 1, 64, .inl fa))]) hP hD hS hA [3, 4, 5] [0, 1, 2] rfl rfl (by decide) (by decide) (run_v (As := [.int (nI oth), .int (nI i_1)]) (rest := []) hFix hK hE hP hD [3, 4, 5] (k_X2_outcome l D cs _ aJ oth i_1 aO aS jm jd jl jv jq jb jp jw jh js sw s1 s2 s3 s4 fr zs sc st (by first | assumption | decide | omega) (by first | assumption | decide | omega) (by first | assumption | decide | omega) (by first | assumption | decide | omega) (by first | assumption | decide | omega) (by first | assumption | decide | omega)) (cwV 2 hts gc_X2_clashesOf_136_X2_outcome rfl rfl rfl (by decide +kernel) ⟨Nat.le_of_ble_eq_true rfl, Nat.le_of_ble_eq_true rfl⟩) rfl (by decide) rfl rfl rfl hl.1 rfl (Nat.le_of_ble_eq_true rfl) dX2_clashesOf_30 ⟨Nat.le_of_ble_eq_true rfl, Nat.le_of_ble_eq_true rfl⟩) (fun r_5 u_5 H locs hq_5 hP hD hS => ?_)
          obtain ⟨j_5, rfl⟩ : ∃ z, z = u_5 := ⟨_, rfl⟩
          have hP : va_P D vwCl [(jm, .inr (3, [.ref jx])), (jx, .inl (cs 1, 192, .inl fx)), (s2, .inl (cs 1, 64, .inl fa)), (aJ, .inr (2, [.ref aO, .ref aS, .ref jm, .int jd, .int jl, .long jv, .ref jq, .ref jb, .ref jp, .ref jw, .ref jh, .ref js])), (aS, .inr (6, [.int (nI zs), .int (nI sc), .int (nI st), .long sw, .ref s1, .ref s2, .ref s3, .ref s4])), (s4, .inl (cs 1, 320, .inl fr))] H := hP
          have hD : va_D A [(jm, .inr (3, [.ref jx])), (jx, .inl (cs 1, 192, .inl fx)), (s2, .inl (cs 1, 64, .inl fa)), (aJ, .inr (2, [.ref aO, .ref aS, .ref jm, .int jd, .int jl, .long jv, .ref jq, .ref jb, .ref jp, .ref jw, .ref jh, .ref js])), (aS, .inr (6, [.int (nI zs), .int (nI sc), .int (nI st), .long sw, .ref s1, .ref s2, .ref s3, .ref s4])), (s4, .inl (cs 1, 320, .inl fr))] := hD
          replace hq_5 : ((r_5 = (-1) ∧ True) ∨ (r_5 = nI j_5 ∧ j_5 < 64)) := hq_5
          rcases hq_5 with ⟨rfl, hq_5⟩ | ⟨rfl, hq_5⟩
          ·
            refine lv_istore (lv' := [(6, .int (-1)), (5, .int (-1)), (4, .int (nI i_1)), (3, .int v3_1), (0, .ref aJ), (1, .int (nI op)), (2, .int (nI oth))]) hx hb dX2_clashesOf_33 hl (by decide) rfl (fun ls hl => ?_)
            refine lv_aload_n hx hb dX2_clashesOf_35 rfl (lv_at hl 4 rfl) ?_
            refine lv_iload hx hb dX2_clashesOf_36 (lv_at hl 2 rfl) ?_
            refine aft_i (wr := [(jm, .inr (3, [.ref jx])), (jx, .inl (cs 1, 192, .inl fx)), (s2, .inl (cs 1, 64, .inl fa)), (aS, .inr (6, [.int (nI zs), .int (nI sc), .int (nI st), .long sw, .ref s1, .ref s2, .ref s3, .ref s4])), (s4, .inl (cs 1, 320, .inl fr))]) hP hD hS hA [3] [0, 1, 2, 4, 5] rfl rfl (by decide) (by decide) (run_v (As := [.int (nI i_1)]) (rest := []) hFix hK hE hP hD [3] (k_X2_isValid l D cs _ aJ (nI i_1) aO aS jm jd jl jv jq jb jp jw jh js) (cwV 1 hts gc_X2_clashesOf_140_X2_isValid rfl rfl rfl (by decide +kernel) ⟨Nat.le_of_ble_eq_true rfl, Nat.le_of_ble_eq_true rfl⟩) rfl (by decide) rfl rfl rfl hl.1 rfl (Nat.le_of_ble_eq_true rfl) dX2_clashesOf_38 ⟨Nat.le_of_ble_eq_true rfl, Nat.le_of_ble_eq_true rfl⟩) (fun r_6 u_6 H locs hq_6 hP hD hS => ?_)
            have hP : va_P D vwCl [(jm, .inr (3, [.ref jx])), (jx, .inl (cs 1, 192, .inl fx)), (s2, .inl (cs 1, 64, .inl fa)), (aS, .inr (6, [.int (nI zs), .int (nI sc), .int (nI st), .long sw, .ref s1, .ref s2, .ref s3, .ref s4])), (s4, .inl (cs 1, 320, .inl fr)), (aJ, .inr (2, [.ref aO, .ref aS, .ref jm, .int jd, .int jl, .long jv, .ref jq, .ref jb, .ref jp, .ref jw, .ref jh, .ref js]))] H := hP
            have hD : va_D A [(jm, .inr (3, [.ref jx])), (jx, .inl (cs 1, 192, .inl fx)), (s2, .inl (cs 1, 64, .inl fa)), (aS, .inr (6, [.int (nI zs), .int (nI sc), .int (nI st), .long sw, .ref s1, .ref s2, .ref s3, .ref s4])), (s4, .inl (cs 1, 320, .inl fr)), (aJ, .inr (2, [.ref aO, .ref aS, .ref jm, .int jd, .int jl, .long jv, .ref jq, .ref jb, .ref jp, .ref jw, .ref jh, .ref js]))] := hD
            replace hq_6 : ((r_6 = 1 ∧ True) ∨ (r_6 = 0 ∧ True)) := hq_6
            rcases hq_6 with ⟨rfl, hq_6⟩ | ⟨rfl, hq_6⟩
            ·
              refine lv_if_eq (tgt := 76) hx hb dX2_clashesOf_41 (by decide) (fun h9 => absurd h9 (by decide)) (fun _ => ?_)
              refine lv_iload hx hb dX2_clashesOf_44 (lv_at hl 1 rfl) ?_
              refine lv_iconst (v := (-1)) hx hb dX2_clashesOf_46 (by decide) ?_
              refine lv_icmp_eq (tgt := 76) hx hb dX2_clashesOf_47 (by decide) (fun _ => ?_) (fun h9 => absurd h9 (by decide))
              refine lv_iinc (v := (nI (i_1 + 1))) (lv' := [(4, .int (nI (i_1 + 1))), (6, .int (-1)), (5, .int (-1)), (3, .int v3_1), (0, .ref aJ), (1, .int (nI op)), (2, .int (nI oth))]) hx hb dX2_clashesOf_76 hl (k := 2) rfl (nI_1 _) (by decide) rfl (fun ls hl => ?_)
              refine lv_goto (tgt := 5) hx hb dX2_clashesOf_79 (by decide) ?_
              exact ih_lp_2 (i_1 + 1) v3_1 H locs ls (by omega) (by omega) (hP.sub [5, 0, 1, 3, 2, 4] rfl) (hD.sub [5, 0, 1, 3, 2, 4] (by decide) rfl) hS (lv_sub hl [0, 3, 4, 5, 6] rfl)
            ·
              refine lv_if_eq (tgt := 76) hx hb dX2_clashesOf_41 (by decide) (fun _ => ?_) (fun h9 => absurd h9 (by decide))
              refine lv_iinc (v := (nI (i_1 + 1))) (lv' := [(4, .int (nI (i_1 + 1))), (6, .int (-1)), (5, .int (-1)), (3, .int v3_1), (0, .ref aJ), (1, .int (nI op)), (2, .int (nI oth))]) hx hb dX2_clashesOf_76 hl (k := 2) rfl (nI_1 _) (by decide) rfl (fun ls hl => ?_)
              refine lv_goto (tgt := 5) hx hb dX2_clashesOf_79 (by decide) ?_
              exact ih_lp_2 (i_1 + 1) v3_1 H locs ls (by omega) (by omega) (hP.sub [5, 0, 1, 3, 2, 4] rfl) (hD.sub [5, 0, 1, 3, 2, 4] (by decide) rfl) hS (lv_sub hl [0, 3, 4, 5, 6] rfl)
          ·
            refine lv_istore (lv' := [(6, .int (nI j_5)), (5, .int (-1)), (4, .int (nI i_1)), (3, .int v3_1), (0, .ref aJ), (1, .int (nI op)), (2, .int (nI oth))]) hx hb dX2_clashesOf_33 hl (by decide) rfl (fun ls hl => ?_)
            refine lv_aload_n hx hb dX2_clashesOf_35 rfl (lv_at hl 4 rfl) ?_
            refine lv_iload hx hb dX2_clashesOf_36 (lv_at hl 2 rfl) ?_
            refine aft_i (wr := [(jm, .inr (3, [.ref jx])), (jx, .inl (cs 1, 192, .inl fx)), (s2, .inl (cs 1, 64, .inl fa)), (aS, .inr (6, [.int (nI zs), .int (nI sc), .int (nI st), .long sw, .ref s1, .ref s2, .ref s3, .ref s4])), (s4, .inl (cs 1, 320, .inl fr))]) hP hD hS hA [3] [0, 1, 2, 4, 5] rfl rfl (by decide) (by decide) (run_v (As := [.int (nI i_1)]) (rest := []) hFix hK hE hP hD [3] (k_X2_isValid l D cs _ aJ (nI i_1) aO aS jm jd jl jv jq jb jp jw jh js) (cwV 1 hts gc_X2_clashesOf_140_X2_isValid rfl rfl rfl (by decide +kernel) ⟨Nat.le_of_ble_eq_true rfl, Nat.le_of_ble_eq_true rfl⟩) rfl (by decide) rfl rfl rfl hl.1 rfl (Nat.le_of_ble_eq_true rfl) dX2_clashesOf_38 ⟨Nat.le_of_ble_eq_true rfl, Nat.le_of_ble_eq_true rfl⟩) (fun r_7 u_7 H locs hq_7 hP hD hS => ?_)
            have hP : va_P D vwCl [(jm, .inr (3, [.ref jx])), (jx, .inl (cs 1, 192, .inl fx)), (s2, .inl (cs 1, 64, .inl fa)), (aS, .inr (6, [.int (nI zs), .int (nI sc), .int (nI st), .long sw, .ref s1, .ref s2, .ref s3, .ref s4])), (s4, .inl (cs 1, 320, .inl fr)), (aJ, .inr (2, [.ref aO, .ref aS, .ref jm, .int jd, .int jl, .long jv, .ref jq, .ref jb, .ref jp, .ref jw, .ref jh, .ref js]))] H := hP
            have hD : va_D A [(jm, .inr (3, [.ref jx])), (jx, .inl (cs 1, 192, .inl fx)), (s2, .inl (cs 1, 64, .inl fa)), (aS, .inr (6, [.int (nI zs), .int (nI sc), .int (nI st), .long sw, .ref s1, .ref s2, .ref s3, .ref s4])), (s4, .inl (cs 1, 320, .inl fr)), (aJ, .inr (2, [.ref aO, .ref aS, .ref jm, .int jd, .int jl, .long jv, .ref jq, .ref jb, .ref jp, .ref jw, .ref jh, .ref js]))] := hD
            replace hq_7 : ((r_7 = 1 ∧ True) ∨ (r_7 = 0 ∧ True)) := hq_7
            rcases hq_7 with ⟨rfl, hq_7⟩ | ⟨rfl, hq_7⟩
            ·
              refine lv_if_eq (tgt := 76) hx hb dX2_clashesOf_41 (by decide) (fun h9 => absurd h9 (by decide)) (fun _ => ?_)
              refine lv_iload hx hb dX2_clashesOf_44 (lv_at hl 1 rfl) ?_
              refine lv_iconst (v := (-1)) hx hb dX2_clashesOf_46 (by decide) ?_
              refine lv_icmp_eq (tgt := 76) hx hb dX2_clashesOf_47 (by decide) (fun _ => ?_) (fun h9 => absurd h9 (by decide))
              refine lv_iinc (v := (nI (i_1 + 1))) (lv' := [(4, .int (nI (i_1 + 1))), (6, .int (nI j_5)), (5, .int (-1)), (3, .int v3_1), (0, .ref aJ), (1, .int (nI op)), (2, .int (nI oth))]) hx hb dX2_clashesOf_76 hl (k := 2) rfl (nI_1 _) (by decide) rfl (fun ls hl => ?_)
              refine lv_goto (tgt := 5) hx hb dX2_clashesOf_79 (by decide) ?_
              exact ih_lp_2 (i_1 + 1) v3_1 H locs ls (by omega) (by omega) (hP.sub [5, 0, 1, 3, 2, 4] rfl) (hD.sub [5, 0, 1, 3, 2, 4] (by decide) rfl) hS (lv_sub hl [0, 3, 4, 5, 6] rfl)
            ·
              refine lv_if_eq (tgt := 76) hx hb dX2_clashesOf_41 (by decide) (fun _ => ?_) (fun h9 => absurd h9 (by decide))
              refine lv_iinc (v := (nI (i_1 + 1))) (lv' := [(4, .int (nI (i_1 + 1))), (6, .int (nI j_5)), (5, .int (-1)), (3, .int v3_1), (0, .ref aJ), (1, .int (nI op)), (2, .int (nI oth))]) hx hb dX2_clashesOf_76 hl (k := 2) rfl (nI_1 _) (by decide) rfl (fun ls hl => ?_)
              refine lv_goto (tgt := 5) hx hb dX2_clashesOf_79 (by decide) ?_
              exact ih_lp_2 (i_1 + 1) v3_1 H locs ls (by omega) (by omega) (hP.sub [5, 0, 1, 3, 2, 4] rfl) (hD.sub [5, 0, 1, 3, 2, 4] (by decide) rfl) hS (lv_sub hl [0, 3, 4, 5, 6] rfl)
        ·
          refine lv_istore (lv' := [(5, .int (nI j_4)), (4, .int (nI i_1)), (3, .int v3_1), (0, .ref aJ), (1, .int (nI op)), (2, .int (nI oth))]) hx hb dX2_clashesOf_24 hl (by decide) rfl (fun ls hl => ?_)
          refine lv_aload_n hx hb dX2_clashesOf_26 rfl (lv_at hl 3 rfl) ?_
          refine lv_iload_n hx hb dX2_clashesOf_27 rfl (lv_at hl 5 rfl) ?_
          refine lv_iload hx hb dX2_clashesOf_28 (lv_at hl 1 rfl) ?_
          refine aft_i (wr := [(jm, .inr (3, [.ref jx])), (jx, .inl (cs 1, 192, .inl fx)), (s2, .inl (cs 1, 64, .inl fa))]) hP hD hS hA [3, 4, 5] [0, 1, 2] rfl rfl (by decide) (by decide) (run_v (As := [.int (nI oth), .int (nI i_1)]) (rest := []) hFix hK hE hP hD [3, 4, 5] (k_X2_outcome l D cs _ aJ oth i_1 aO aS jm jd jl jv jq jb jp jw jh js sw s1 s2 s3 s4 fr zs sc st (by first | assumption | decide | omega) (by first | assumption | decide | omega) (by first | assumption | decide | omega) (by first | assumption | decide | omega) (by first | assumption | decide | omega) (by first | assumption | decide | omega)) (cwV 2 hts gc_X2_clashesOf_136_X2_outcome rfl rfl rfl (by decide +kernel) ⟨Nat.le_of_ble_eq_true rfl, Nat.le_of_ble_eq_true rfl⟩) rfl (by decide) rfl rfl rfl hl.1 rfl (Nat.le_of_ble_eq_true rfl) dX2_clashesOf_30 ⟨Nat.le_of_ble_eq_true rfl, Nat.le_of_ble_eq_true rfl⟩) (fun r_8 u_8 H locs hq_8 hP hD hS => ?_)
          obtain ⟨j_8, rfl⟩ : ∃ z, z = u_8 := ⟨_, rfl⟩
          have hP : va_P D vwCl [(jm, .inr (3, [.ref jx])), (jx, .inl (cs 1, 192, .inl fx)), (s2, .inl (cs 1, 64, .inl fa)), (aJ, .inr (2, [.ref aO, .ref aS, .ref jm, .int jd, .int jl, .long jv, .ref jq, .ref jb, .ref jp, .ref jw, .ref jh, .ref js])), (aS, .inr (6, [.int (nI zs), .int (nI sc), .int (nI st), .long sw, .ref s1, .ref s2, .ref s3, .ref s4])), (s4, .inl (cs 1, 320, .inl fr))] H := hP
          have hD : va_D A [(jm, .inr (3, [.ref jx])), (jx, .inl (cs 1, 192, .inl fx)), (s2, .inl (cs 1, 64, .inl fa)), (aJ, .inr (2, [.ref aO, .ref aS, .ref jm, .int jd, .int jl, .long jv, .ref jq, .ref jb, .ref jp, .ref jw, .ref jh, .ref js])), (aS, .inr (6, [.int (nI zs), .int (nI sc), .int (nI st), .long sw, .ref s1, .ref s2, .ref s3, .ref s4])), (s4, .inl (cs 1, 320, .inl fr))] := hD
          replace hq_8 : ((r_8 = (-1) ∧ True) ∨ (r_8 = nI j_8 ∧ j_8 < 64)) := hq_8
          rcases hq_8 with ⟨rfl, hq_8⟩ | ⟨rfl, hq_8⟩
          ·
            refine lv_istore (lv' := [(6, .int (-1)), (5, .int (nI j_4)), (4, .int (nI i_1)), (3, .int v3_1), (0, .ref aJ), (1, .int (nI op)), (2, .int (nI oth))]) hx hb dX2_clashesOf_33 hl (by decide) rfl (fun ls hl => ?_)
            refine lv_aload_n hx hb dX2_clashesOf_35 rfl (lv_at hl 4 rfl) ?_
            refine lv_iload hx hb dX2_clashesOf_36 (lv_at hl 2 rfl) ?_
            refine aft_i (wr := [(jm, .inr (3, [.ref jx])), (jx, .inl (cs 1, 192, .inl fx)), (s2, .inl (cs 1, 64, .inl fa)), (aS, .inr (6, [.int (nI zs), .int (nI sc), .int (nI st), .long sw, .ref s1, .ref s2, .ref s3, .ref s4])), (s4, .inl (cs 1, 320, .inl fr))]) hP hD hS hA [3] [0, 1, 2, 4, 5] rfl rfl (by decide) (by decide) (run_v (As := [.int (nI i_1)]) (rest := []) hFix hK hE hP hD [3] (k_X2_isValid l D cs _ aJ (nI i_1) aO aS jm jd jl jv jq jb jp jw jh js) (cwV 1 hts gc_X2_clashesOf_140_X2_isValid rfl rfl rfl (by decide +kernel) ⟨Nat.le_of_ble_eq_true rfl, Nat.le_of_ble_eq_true rfl⟩) rfl (by decide) rfl rfl rfl hl.1 rfl (Nat.le_of_ble_eq_true rfl) dX2_clashesOf_38 ⟨Nat.le_of_ble_eq_true rfl, Nat.le_of_ble_eq_true rfl⟩) (fun r_9 u_9 H locs hq_9 hP hD hS => ?_)
            have hP : va_P D vwCl [(jm, .inr (3, [.ref jx])), (jx, .inl (cs 1, 192, .inl fx)), (s2, .inl (cs 1, 64, .inl fa)), (aS, .inr (6, [.int (nI zs), .int (nI sc), .int (nI st), .long sw, .ref s1, .ref s2, .ref s3, .ref s4])), (s4, .inl (cs 1, 320, .inl fr)), (aJ, .inr (2, [.ref aO, .ref aS, .ref jm, .int jd, .int jl, .long jv, .ref jq, .ref jb, .ref jp, .ref jw, .ref jh, .ref js]))] H := hP
            have hD : va_D A [(jm, .inr (3, [.ref jx])), (jx, .inl (cs 1, 192, .inl fx)), (s2, .inl (cs 1, 64, .inl fa)), (aS, .inr (6, [.int (nI zs), .int (nI sc), .int (nI st), .long sw, .ref s1, .ref s2, .ref s3, .ref s4])), (s4, .inl (cs 1, 320, .inl fr)), (aJ, .inr (2, [.ref aO, .ref aS, .ref jm, .int jd, .int jl, .long jv, .ref jq, .ref jb, .ref jp, .ref jw, .ref jh, .ref js]))] := hD
            replace hq_9 : ((r_9 = 1 ∧ True) ∨ (r_9 = 0 ∧ True)) := hq_9
            rcases hq_9 with ⟨rfl, hq_9⟩ | ⟨rfl, hq_9⟩
            ·
              refine lv_if_eq (tgt := 76) hx hb dX2_clashesOf_41 (by decide) (fun h9 => absurd h9 (by decide)) (fun _ => ?_)
              refine lv_iload hx hb dX2_clashesOf_44 (lv_at hl 1 rfl) ?_
              refine lv_iconst (v := (-1)) hx hb dX2_clashesOf_46 (by decide) ?_
              refine lv_icmp_eq (tgt := 76) hx hb dX2_clashesOf_47 (by decide) (fun h9 => False.elim (nneg_eq (a := j_4) h9 (by omega) (by decide))) (fun _ => ?_)
              refine lv_iload hx hb dX2_clashesOf_50 (lv_at hl 0 rfl) ?_
              refine lv_iconst (v := (-1)) hx hb dX2_clashesOf_52 (by decide) ?_
              refine lv_icmp_eq (tgt := 76) hx hb dX2_clashesOf_53 (by decide) (fun _ => ?_) (fun h9 => absurd h9 (by decide))
              refine lv_iinc (v := (nI (i_1 + 1))) (lv' := [(4, .int (nI (i_1 + 1))), (6, .int (-1)), (5, .int (nI j_4)), (3, .int v3_1), (0, .ref aJ), (1, .int (nI op)), (2, .int (nI oth))]) hx hb dX2_clashesOf_76 hl (k := 2) rfl (nI_1 _) (by decide) rfl (fun ls hl => ?_)
              refine lv_goto (tgt := 5) hx hb dX2_clashesOf_79 (by decide) ?_
              exact ih_lp_2 (i_1 + 1) v3_1 H locs ls (by omega) (by omega) (hP.sub [5, 0, 1, 3, 2, 4] rfl) (hD.sub [5, 0, 1, 3, 2, 4] (by decide) rfl) hS (lv_sub hl [0, 3, 4, 5, 6] rfl)
            ·
              refine lv_if_eq (tgt := 76) hx hb dX2_clashesOf_41 (by decide) (fun _ => ?_) (fun h9 => absurd h9 (by decide))
              refine lv_iinc (v := (nI (i_1 + 1))) (lv' := [(4, .int (nI (i_1 + 1))), (6, .int (-1)), (5, .int (nI j_4)), (3, .int v3_1), (0, .ref aJ), (1, .int (nI op)), (2, .int (nI oth))]) hx hb dX2_clashesOf_76 hl (k := 2) rfl (nI_1 _) (by decide) rfl (fun ls hl => ?_)
              refine lv_goto (tgt := 5) hx hb dX2_clashesOf_79 (by decide) ?_
              exact ih_lp_2 (i_1 + 1) v3_1 H locs ls (by omega) (by omega) (hP.sub [5, 0, 1, 3, 2, 4] rfl) (hD.sub [5, 0, 1, 3, 2, 4] (by decide) rfl) hS (lv_sub hl [0, 3, 4, 5, 6] rfl)
          ·
            refine lv_istore (lv' := [(6, .int (nI j_8)), (5, .int (nI j_4)), (4, .int (nI i_1)), (3, .int v3_1), (0, .ref aJ), (1, .int (nI op)), (2, .int (nI oth))]) hx hb dX2_clashesOf_33 hl (by decide) rfl (fun ls hl => ?_)
            refine lv_aload_n hx hb dX2_clashesOf_35 rfl (lv_at hl 4 rfl) ?_
            refine lv_iload hx hb dX2_clashesOf_36 (lv_at hl 2 rfl) ?_
            refine aft_i (wr := [(jm, .inr (3, [.ref jx])), (jx, .inl (cs 1, 192, .inl fx)), (s2, .inl (cs 1, 64, .inl fa)), (aS, .inr (6, [.int (nI zs), .int (nI sc), .int (nI st), .long sw, .ref s1, .ref s2, .ref s3, .ref s4])), (s4, .inl (cs 1, 320, .inl fr))]) hP hD hS hA [3] [0, 1, 2, 4, 5] rfl rfl (by decide) (by decide) (run_v (As := [.int (nI i_1)]) (rest := []) hFix hK hE hP hD [3] (k_X2_isValid l D cs _ aJ (nI i_1) aO aS jm jd jl jv jq jb jp jw jh js) (cwV 1 hts gc_X2_clashesOf_140_X2_isValid rfl rfl rfl (by decide +kernel) ⟨Nat.le_of_ble_eq_true rfl, Nat.le_of_ble_eq_true rfl⟩) rfl (by decide) rfl rfl rfl hl.1 rfl (Nat.le_of_ble_eq_true rfl) dX2_clashesOf_38 ⟨Nat.le_of_ble_eq_true rfl, Nat.le_of_ble_eq_true rfl⟩) (fun r_11 u_11 H locs hq_11 hP hD hS => ?_)
            have hP : va_P D vwCl [(jm, .inr (3, [.ref jx])), (jx, .inl (cs 1, 192, .inl fx)), (s2, .inl (cs 1, 64, .inl fa)), (aS, .inr (6, [.int (nI zs), .int (nI sc), .int (nI st), .long sw, .ref s1, .ref s2, .ref s3, .ref s4])), (s4, .inl (cs 1, 320, .inl fr)), (aJ, .inr (2, [.ref aO, .ref aS, .ref jm, .int jd, .int jl, .long jv, .ref jq, .ref jb, .ref jp, .ref jw, .ref jh, .ref js]))] H := hP
            have hD : va_D A [(jm, .inr (3, [.ref jx])), (jx, .inl (cs 1, 192, .inl fx)), (s2, .inl (cs 1, 64, .inl fa)), (aS, .inr (6, [.int (nI zs), .int (nI sc), .int (nI st), .long sw, .ref s1, .ref s2, .ref s3, .ref s4])), (s4, .inl (cs 1, 320, .inl fr)), (aJ, .inr (2, [.ref aO, .ref aS, .ref jm, .int jd, .int jl, .long jv, .ref jq, .ref jb, .ref jp, .ref jw, .ref jh, .ref js]))] := hD
            replace hq_11 : ((r_11 = 1 ∧ True) ∨ (r_11 = 0 ∧ True)) := hq_11
            rcases hq_11 with ⟨rfl, hq_11⟩ | ⟨rfl, hq_11⟩
            ·
              refine lv_if_eq (tgt := 76) hx hb dX2_clashesOf_41 (by decide) (fun h9 => absurd h9 (by decide)) (fun _ => ?_)
              refine lv_iload hx hb dX2_clashesOf_44 (lv_at hl 1 rfl) ?_
              refine lv_iconst (v := (-1)) hx hb dX2_clashesOf_46 (by decide) ?_
              refine lv_icmp_eq (tgt := 76) hx hb dX2_clashesOf_47 (by decide) (fun h9 => False.elim (nneg_eq (a := j_4) h9 (by omega) (by decide))) (fun _ => ?_)
              refine lv_iload hx hb dX2_clashesOf_50 (lv_at hl 0 rfl) ?_
              refine lv_iconst (v := (-1)) hx hb dX2_clashesOf_52 (by decide) ?_
              refine lv_icmp_eq (tgt := 76) hx hb dX2_clashesOf_53 (by decide) (fun h9 => False.elim (nneg_eq (a := j_8) h9 (by omega) (by decide))) (fun _ => ?_)
              refine lv_aload_n hx hb dX2_clashesOf_56 rfl (lv_at hl 4 rfl) ?_
              refine lv_aload_n hx hb dX2_clashesOf_57 rfl (lv_at hl 4 rfl) ?_
              refine lv_iload hx hb dX2_clashesOf_58 (lv_at hl 2 rfl) ?_
              refine lv_iload hx hb dX2_clashesOf_60 (lv_at hl 1 rfl) ?_
              refine lv_iload hx hb dX2_clashesOf_62 (lv_at hl 0 rfl) ?_
              refine aft_i (wr := [(s4, .inl (cs 1, 320, .inl fr))]) hP hD hS hA [5, 0, 1, 3, 2] [4] rfl rfl (by decide) (by decide) (run_v (As := [.int (nI i_1), .int (nI j_4), .int (nI j_8)]) (rest := [.ref aJ]) hFix hK hE hP hD [5, 0, 1, 3, 2] (k_X2_merged l D cs _ aJ i_1 j_4 j_8 aO aS jm jd jl jv jq jb jp jw jh js jx fx sw s1 s2 s3 s4 fa zs sc st (by first | assumption | decide | omega) (by first | assumption | decide | omega) (by first | assumption | decide | omega) (by first | assumption | decide | omega) (by first | assumption | decide | omega) (by first | assumption | decide | omega)) (cwV 3 hts gc_X2_clashesOf_118_X2_merged rfl rfl rfl (by decide +kernel) ⟨Nat.le_of_ble_eq_true rfl, Nat.le_of_ble_eq_true rfl⟩) rfl (by decide) rfl rfl rfl hl.1 rfl (Nat.le_of_ble_eq_true rfl) dX2_clashesOf_64 ⟨Nat.le_of_ble_eq_true rfl, Nat.le_of_ble_eq_true rfl⟩) (fun r_14 u_14 H locs hq_14 hP hD hS => ?_)
              have hP : va_P D vwCl [(s4, .inl (cs 1, 320, .inl fr)), (aJ, .inr (2, [.ref aO, .ref aS, .ref jm, .int jd, .int jl, .long jv, .ref jq, .ref jb, .ref jp, .ref jw, .ref jh, .ref js])), (jm, .inr (3, [.ref jx])), (jx, .inl (cs 1, 192, .inl fx)), (aS, .inr (6, [.int (nI zs), .int (nI sc), .int (nI st), .long sw, .ref s1, .ref s2, .ref s3, .ref s4])), (s2, .inl (cs 1, 64, .inl fa))] H := hP
              have hD : va_D A [(s4, .inl (cs 1, 320, .inl fr)), (aJ, .inr (2, [.ref aO, .ref aS, .ref jm, .int jd, .int jl, .long jv, .ref jq, .ref jb, .ref jp, .ref jw, .ref jh, .ref js])), (jm, .inr (3, [.ref jx])), (jx, .inl (cs 1, 192, .inl fx)), (aS, .inr (6, [.int (nI zs), .int (nI sc), .int (nI st), .long sw, .ref s1, .ref s2, .ref s3, .ref s4])), (s2, .inl (cs 1, 64, .inl fa))] := hD
              refine aft_i (wr := [(s4, .inl (cs 1, 320, .inl fr)), (jm, .inr (3, [.ref jx])), (jx, .inl (cs 1, 192, .inl fx)), (aS, .inr (6, [.int (nI zs), .int (nI sc), .int (nI st), .long sw, .ref s1, .ref s2, .ref s3, .ref s4])), (s2, .inl (cs 1, 64, .inl fa))]) hP hD hS hA [1] [0, 2, 3, 4, 5] rfl rfl (by decide) (by decide) (run_v (As := [.int r_14]) (rest := []) hFix hK hE hP hD [1] (k_X2_isValid l D cs _ aJ r_14 aO aS jm jd jl jv jq jb jp jw jh js) (cwV 1 hts gc_X2_clashesOf_140_X2_isValid rfl rfl rfl (by decide +kernel) ⟨Nat.le_of_ble_eq_true rfl, Nat.le_of_ble_eq_true rfl⟩) rfl (by decide) rfl rfl rfl hl.1 rfl (Nat.le_of_ble_eq_true rfl) dX2_clashesOf_67 ⟨Nat.le_of_ble_eq_true rfl, Nat.le_of_ble_eq_true rfl⟩) (fun r_15 u_15 H locs hq_15 hP hD hS => ?_)
              have hP : va_P D vwCl [(s4, .inl (cs 1, 320, .inl fr)), (jm, .inr (3, [.ref jx])), (jx, .inl (cs 1, 192, .inl fx)), (aS, .inr (6, [.int (nI zs), .int (nI sc), .int (nI st), .long sw, .ref s1, .ref s2, .ref s3, .ref s4])), (s2, .inl (cs 1, 64, .inl fa)), (aJ, .inr (2, [.ref aO, .ref aS, .ref jm, .int jd, .int jl, .long jv, .ref jq, .ref jb, .ref jp, .ref jw, .ref jh, .ref js]))] H := hP
              have hD : va_D A [(s4, .inl (cs 1, 320, .inl fr)), (jm, .inr (3, [.ref jx])), (jx, .inl (cs 1, 192, .inl fx)), (aS, .inr (6, [.int (nI zs), .int (nI sc), .int (nI st), .long sw, .ref s1, .ref s2, .ref s3, .ref s4])), (s2, .inl (cs 1, 64, .inl fa)), (aJ, .inr (2, [.ref aO, .ref aS, .ref jm, .int jd, .int jl, .long jv, .ref jq, .ref jb, .ref jp, .ref jw, .ref jh, .ref js]))] := hD
              replace hq_15 : ((r_15 = 1 ∧ True) ∨ (r_15 = 0 ∧ True)) := hq_15
              rcases hq_15 with ⟨rfl, hq_15⟩ | ⟨rfl, hq_15⟩
              ·
                refine lv_if_ne (tgt := 76) hx hb dX2_clashesOf_70 (by decide) (fun _ => ?_) (fun h9 => absurd h9 (by decide))
                refine lv_iinc (v := (nI (i_1 + 1))) (lv' := [(4, .int (nI (i_1 + 1))), (6, .int (nI j_8)), (5, .int (nI j_4)), (3, .int v3_1), (0, .ref aJ), (1, .int (nI op)), (2, .int (nI oth))]) hx hb dX2_clashesOf_76 hl (k := 2) rfl (nI_1 _) (by decide) rfl (fun ls hl => ?_)
                refine lv_goto (tgt := 5) hx hb dX2_clashesOf_79 (by decide) ?_
                exact ih_lp_2 (i_1 + 1) v3_1 H locs ls (by omega) (by omega) (hP.sub [5, 1, 2, 3, 4, 0] rfl) (hD.sub [5, 1, 2, 3, 4, 0] (by decide) rfl) hS (lv_sub hl [0, 3, 4, 5, 6] rfl)
              ·
                refine lv_if_ne (tgt := 76) hx hb dX2_clashesOf_70 (by decide) (fun h9 => absurd h9 (by decide)) (fun _ => ?_)
                refine lv_iinc (v := (v3_1 + Int32.ofInt 1)) (lv' := [(3, .int (v3_1 + Int32.ofInt 1)), (6, .int (nI j_8)), (5, .int (nI j_4)), (4, .int (nI i_1)), (0, .ref aJ), (1, .int (nI op)), (2, .int (nI oth))]) hx hb dX2_clashesOf_73 hl (k := 3) rfl rfl (by decide) rfl (fun ls hl => ?_)
                refine lv_iinc (v := (nI (i_1 + 1))) (lv' := [(4, .int (nI (i_1 + 1))), (3, .int (v3_1 + Int32.ofInt 1)), (6, .int (nI j_8)), (5, .int (nI j_4)), (0, .ref aJ), (1, .int (nI op)), (2, .int (nI oth))]) hx hb dX2_clashesOf_76 hl (k := 3) rfl (nI_1 _) (by decide) rfl (fun ls hl => ?_)
                refine lv_goto (tgt := 5) hx hb dX2_clashesOf_79 (by decide) ?_
                exact ih_lp_2 (i_1 + 1) (v3_1 + Int32.ofInt 1) H locs ls (by omega) (by omega) (hP.sub [5, 1, 2, 3, 4, 0] rfl) (hD.sub [5, 1, 2, 3, 4, 0] (by decide) rfl) hS (lv_sub hl [0, 1, 4, 5, 6] rfl)
            ·
              refine lv_if_eq (tgt := 76) hx hb dX2_clashesOf_41 (by decide) (fun _ => ?_) (fun h9 => absurd h9 (by decide))
              refine lv_iinc (v := (nI (i_1 + 1))) (lv' := [(4, .int (nI (i_1 + 1))), (6, .int (nI j_8)), (5, .int (nI j_4)), (3, .int v3_1), (0, .ref aJ), (1, .int (nI op)), (2, .int (nI oth))]) hx hb dX2_clashesOf_76 hl (k := 2) rfl (nI_1 _) (by decide) rfl (fun ls hl => ?_)
              refine lv_goto (tgt := 5) hx hb dX2_clashesOf_79 (by decide) ?_
              exact ih_lp_2 (i_1 + 1) v3_1 H locs ls (by omega) (by omega) (hP.sub [5, 0, 1, 3, 2, 4] rfl) (hD.sub [5, 0, 1, 3, 2, 4] (by decide) rfl) hS (lv_sub hl [0, 3, 4, 5, 6] rfl)
  exact lp_2 _ 0 0 H locs ls (by omega) (Nat.lt_succ_self _) (hP.sub [0, 1, 2, 3, 4, 5] rfl) (hD.sub [0, 1, 2, 3, 4, 5] (by decide) rfl) hS (lv_sub hl [0, 1, 2, 3, 4] rfl)

set_option maxHeartbeats 4000000 in
set_option maxRecDepth 100000 in
theorem k_X2_spread (l : Launch) (D : va_G) (cs : Nat → ClassId) (sz : Nat) (aJ : Nat) (wi : Int32) (frm : Nat) (d : Nat) (aO : Nat) (aS : Nat) (jm : Nat) (jd : Int32) (jl : Int32) (jv : Int64) (jq : Nat) (jb : Nat) (jp : Nat) (jw : Nat) (jh : Nat) (js : Nat) (tl : Int32) (tw : Int32) (td : Int32) (tdr : Int32) (tlo : Int32) (o1 : Nat) (o2 : Nat) (o3 : Nat) (o4 : Nat) (o5 : Nat) (sw : Int64) (s1 : Nat) (s2 : Nat) (s3 : Nat) (s4 : Nat) (fr : Nat → Int32) (fq : Nat → Int32) (tp : Nat) (nc : Nat) (nr : Nat) (no : Nat) (na : Nat) (zs : Nat) (sc : Nat) (st : Nat) (htp : tp ≤ 3) (hnc : nc ≤ 3) (hnr : nr ≤ 5) (hno : no ≤ 5) (hna : na ≤ 20) (hzs : zs ≤ 64) (hsc : sc ≤ 3) (hst : st ≤ 3) (hres : RES fr) (ha_frm : frm < 64) (ha_d : d < 4) : Ml l D cs yX2_spread W_X2_spread 1 23 0 0 [.ref aJ, .int (nI frm), .int (nI d), .int wi] [(aJ, .inr (2, [.ref aO, .ref aS, .ref jm, .int jd, .int jl, .long jv, .ref jq, .ref jb, .ref jp, .ref jw, .ref jh, .ref js])), (aO, .inr (0, [.int tl, .int (nI tp), .int tw, .int td, .int (nI nc), .int (nI nr), .int (nI no), .int (nI na), .int tdr, .int tlo, .ref o1, .ref o2, .ref o3, .ref o4, .ref o5])), (aS, .inr (6, [.int (nI zs), .int (nI sc), .int (nI st), .long sw, .ref s1, .ref s2, .ref s3, .ref s4])), (s4, .inl (cs 1, 320, .inl fr)), (jq, .inl (cs 1, 64, .inl fq))] sz (fun (r : Int64) (u : (Nat → Int32)) => True) (fun (u : (Nat → Int32)) => [(aJ, .inr (2, [.ref aO, .ref aS, .ref jm, .int jd, .int jl, .long jv, .ref jq, .ref jb, .ref jp, .ref jw, .ref jh, .ref js])), (aO, .inr (0, [.int tl, .int (nI tp), .int tw, .int td, .int (nI nc), .int (nI nr), .int (nI no), .int (nI na), .int tdr, .int tlo, .ref o1, .ref o2, .ref o3, .ref o4, .ref o5])), (aS, .inr (6, [.int (nI zs), .int (nI sc), .int (nI st), .long sw, .ref s1, .ref s2, .ref s3, .ref s4])), (s4, .inl (cs 1, 320, .inl fr)), (jq, .inl (cs 1, 64, .inl u))]) := by
  refine ent (D := D) (cs := cs) (y := yX2_spread) (ws := W_X2_spread) (As := [.ref aJ, .int (nI frm), .int (nI d), .int wi]) (W0 := [(aJ, .inr (2, [.ref aO, .ref aS, .ref jm, .int jd, .int jl, .long jv, .ref jq, .ref jb, .ref jp, .ref jw, .ref jh, .ref js])), (aO, .inr (0, [.int tl, .int (nI tp), .int tw, .int td, .int (nI nc), .int (nI nr), .int (nI no), .int (nI na), .int tdr, .int tlo, .ref o1, .ref o2, .ref o3, .ref o4, .ref o5])), (aS, .inr (6, [.int (nI zs), .int (nI sc), .int (nI st), .long sw, .ref s1, .ref s2, .ref s3, .ref s4])), (s4, .inl (cs 1, 320, .inl fr)), (jq, .inl (cs 1, 64, .inl fq))]) (Qx := fun A => va_Ql (fun (r : Int64) (u : (Nat → Int32)) => True) (mpost D A (fun (u : (Nat → Int32)) => [(aJ, .inr (2, [.ref aO, .ref aS, .ref jm, .int jd, .int jl, .long jv, .ref jq, .ref jb, .ref jp, .ref jw, .ref jh, .ref js])), (aO, .inr (0, [.int tl, .int (nI tp), .int tw, .int td, .int (nI nc), .int (nI nr), .int (nI no), .int (nI na), .int tdr, .int tlo, .ref o1, .ref o2, .ref o3, .ref o4, .ref o5])), (aS, .inr (6, [.int (nI zs), .int (nI sc), .int (nI st), .long sw, .ref s1, .ref s2, .ref s3, .ref s4])), (s4, .inl (cs 1, 320, .inl fr)), (jq, .inl (cs 1, 64, .inl u))])) A) (maxL := 12) (ret := (some .long)) (by decide) rfl (Nat.le_of_ble_eq_true rfl) ?_
  intro p e s m below meth c A ls hx hb hr hml hlk hown hts hin hK hE hP hD hA hS hl
  have hl : lv_has ls 12 [(0, .ref aJ), (1, .int (nI frm)), (2, .int (nI d)), (3, .int wi)] := hl
  generalize hHe : s.heap = H at hP
  have hS : va_S A s.heap H [] := hHe ▸ hS
  generalize hLe : ([] : List Loc) = locs at hS ⊢
  have htw : ∀ w ∈ O_X2_spread, w.before ([.ref aJ, .int (nI frm), .int (nI d), .int wi] : List Value).toArray s = true := fun w h => hts w (List.mem_cons_of_mem _ (List.mem_append_left _ h))
  have hFix := (⟨hx, hb, hml, hown, hts⟩ : CallFix p m c _ _ s _ _ _)
  refine lv_lconst (v := 1) hx hb dX2_spread_0 (by decide) ?_
  refine lv_iload_n hx hb dX2_spread_1 rfl (lv_at hl 1 rfl) ?_
  refine lv_lshl (v := (1 : Int64) <<< ((nI frm).toInt64 &&& 63)) hx hb dX2_spread_2 rfl ?_
  refine lv_lstore (lv' := [(4, .long ((1 : Int64) <<< ((nI frm).toInt64 &&& 63))), (0, .ref aJ), (1, .int (nI frm)), (2, .int (nI d)), (3, .int wi)]) hx hb dX2_spread_3 hl (by decide) rfl (fun ls hl => ?_)
  refine lv_iconst (v := 0) hx hb dX2_spread_5 (by decide) ?_
  refine lv_istore (lv' := [(6, .int 0), (4, .long ((1 : Int64) <<< ((nI frm).toInt64 &&& 63))), (0, .ref aJ), (1, .int (nI frm)), (2, .int (nI d)), (3, .int wi)]) hx hb dX2_spread_6 hl (by decide) rfl (fun ls hl => ?_)
  refine lv_iconst (v := 1) hx hb dX2_spread_8 (by decide) ?_
  refine lv_istore (lv' := [(7, .int 1), (6, .int 0), (4, .long ((1 : Int64) <<< ((nI frm).toInt64 &&& 63))), (0, .ref aJ), (1, .int (nI frm)), (2, .int (nI d)), (3, .int wi)]) hx hb dX2_spread_9 hl (by decide) rfl (fun ls hl => ?_)
  refine lv_aload_n hx hb dX2_spread_11 rfl (lv_at hl 3 rfl) ?_
  refine va_get (D := D) (ci := 2) (v := .ref jq) (C := RX2) (T := TX2) (N := 12) hx hb hts iuX2_spread_X2 hown hK hP 0 rfl rfl 6 (by decide) (htw (.fieldLink RX2 29 "MergeJudge$Judge" "queue" "[I") (List.mem_of_getElem? (i := 0) rfl)) (fun _ h9 => h9) rfl dX2_spread_12 ?_
  refine lv_iconst (v := 0) hx hb dX2_spread_15 (by decide) ?_
  refine lv_iload_n hx hb dX2_spread_16 rfl (lv_at hl 4 rfl) ?_
  refine va_iast hx hb hK hP hD hS 4 1 rfl rfl (vp_c (by decide)) dX2_spread_17 (fun H locs hP hD hS => ?_)
  have hP : va_P D vwCl [(aJ, .inr (2, [.ref aO, .ref aS, .ref jm, .int jd, .int jl, .long jv, .ref jq, .ref jb, .ref jp, .ref jw, .ref jh, .ref js])), (aO, .inr (0, [.int tl, .int (nI tp), .int tw, .int td, .int (nI nc), .int (nI nr), .int (nI no), .int (nI na), .int tdr, .int tlo, .ref o1, .ref o2, .ref o3, .ref o4, .ref o5])), (aS, .inr (6, [.int (nI zs), .int (nI sc), .int (nI st), .long sw, .ref s1, .ref s2, .ref s3, .ref s4])), (s4, .inl (cs 1, 320, .inl fr)), (jq, .inl (cs 1, 64, .inl (upd fq 0 (nI frm))))] H := hP
  have hD : va_D A [(aJ, .inr (2, [.ref aO, .ref aS, .ref jm, .int jd, .int jl, .long jv, .ref jq, .ref jb, .ref jp, .ref jw, .ref jh, .ref js])), (aO, .inr (0, [.int tl, .int (nI tp), .int tw, .int td, .int (nI nc), .int (nI nr), .int (nI no), .int (nI na), .int tdr, .int tlo, .ref o1, .ref o2, .ref o3, .ref o4, .ref o5])), (aS, .inr (6, [.int (nI zs), .int (nI sc), .int (nI st), .long sw, .ref s1, .ref s2, .ref s3, .ref s4])), (s4, .inl (cs 1, 320, .inl fr)), (jq, .inl (cs 1, 64, .inl (upd fq 0 (nI frm))))] := hD
  refine lv_iconst (v := 0) hx hb dX2_spread_18 (by decide) ?_
  refine lv_istore (lv' := [(8, .int 0), (7, .int 1), (6, .int 0), (4, .long ((1 : Int64) <<< ((nI frm).toInt64 &&& 63))), (0, .ref aJ), (1, .int (nI frm)), (2, .int (nI d)), (3, .int wi)]) hx hb dX2_spread_19 hl (by decide) rfl (fun ls hl => ?_)
  have lp_2 : ∀ (nfu : Nat) (i_1 : Nat) (v7_1 : Nat) (v6_1 : Nat) (v4_1 : Int64) (m0_1 : Nat → Int32) (H : Heap) (locs : List Loc) (ls : Array Slot) (hi_1 : i_1 ≤ d) (hv0_1 : v6_1 ≤ v7_1) (hv1_1 : v7_1 ≤ 64) (hv2_1 : QIN m0_1 v7_1), d - i_1 < nfu → va_P D vwCl [(aJ, .inr (2, [.ref aO, .ref aS, .ref jm, .int jd, .int jl, .long jv, .ref jq, .ref jb, .ref jp, .ref jw, .ref jh, .ref js])), (aO, .inr (0, [.int tl, .int (nI tp), .int tw, .int td, .int (nI nc), .int (nI nr), .int (nI no), .int (nI na), .int tdr, .int tlo, .ref o1, .ref o2, .ref o3, .ref o4, .ref o5])), (aS, .inr (6, [.int (nI zs), .int (nI sc), .int (nI st), .long sw, .ref s1, .ref s2, .ref s3, .ref s4])), (s4, .inl (cs 1, 320, .inl fr)), (jq, .inl (cs 1, 64, .inl m0_1))] H → va_D A [(aJ, .inr (2, [.ref aO, .ref aS, .ref jm, .int jd, .int jl, .long jv, .ref jq, .ref jb, .ref jp, .ref jw, .ref jh, .ref js])), (aO, .inr (0, [.int tl, .int (nI tp), .int tw, .int td, .int (nI nc), .int (nI nr), .int (nI no), .int (nI na), .int tdr, .int tlo, .ref o1, .ref o2, .ref o3, .ref o4, .ref o5])), (aS, .inr (6, [.int (nI zs), .int (nI sc), .int (nI st), .long sw, .ref s1, .ref s2, .ref s3, .ref s4])), (s4, .inl (cs 1, 320, .inl fr)), (jq, .inl (cs 1, 64, .inl m0_1))] → va_S A s.heap H locs → lv_has ls 12 [(8, .int (nI i_1)), (7, .int (nI v7_1)), (6, .int (nI v6_1)), (4, .long v4_1), (0, .ref aJ), (1, .int (nI frm)), (2, .int (nI d)), (3, .int wi)] → W p l e (mRm 1 0 0 23) s m ([.ref aJ, .int (nI frm), .int (nI d), .int wi] : List Value).toArray below meth c H locs 0 0 (MQ below (va_Ql (fun (r : Int64) (u : (Nat → Int32)) => True) (mpost D A (fun (u : (Nat → Int32)) => [(aJ, .inr (2, [.ref aO, .ref aS, .ref jm, .int jd, .int jl, .long jv, .ref jq, .ref jb, .ref jp, .ref jw, .ref jh, .ref js])), (aO, .inr (0, [.int tl, .int (nI tp), .int tw, .int td, .int (nI nc), .int (nI nr), .int (nI no), .int (nI na), .int tdr, .int tlo, .ref o1, .ref o2, .ref o3, .ref o4, .ref o5])), (aS, .inr (6, [.int (nI zs), .int (nI sc), .int (nI st), .long sw, .ref s1, .ref s2, .ref s3, .ref s4])), (s4, .inl (cs 1, 320, .inl fr)), (jq, .inl (cs 1, 64, .inl u))])) A) ([.ref aJ, .int (nI frm), .int (nI d), .int wi] : List Value).toArray s 0 0 A) (F0 m 21 ls []) := by
    intro nfu
    induction nfu with
    | zero => intro i_1 v7_1 v6_1 v4_1 m0_1 H locs ls hi_1 hv0_1 hv1_1 hv2_1 hmu; exact absurd hmu (Nat.not_lt_zero _)
    | succ nfu ih =>
      intro i_1 v7_1 v6_1 v4_1 m0_1 H locs ls hi_1 hv0_1 hv1_1 hv2_1 hmu hP hD hS hl
      have ih_lp_2 := @ih
      refine lv_iload hx hb dX2_spread_21 (lv_at hl 0 rfl) ?_
      refine lv_iload_n hx hb dX2_spread_23 rfl (lv_at hl 6 rfl) ?_
      refine lv_icmp_ge (tgt := 145) hx hb dX2_spread_24 (by decide) (fun c_3 => ?_) (fun c_3 => ?_)
      ·
        have hn_3 := bge_t (a := i_1) (b := d) c_3 (by omega) (by omega)
        refine lv_lload hx hb dX2_spread_145 (lv_at hl 3 rfl) ?_
        exact ret_l hx hb hr hlk hS (Nat.le_of_ble_eq_true rfl) (Nat.le_of_ble_eq_true rfl) (m0_1) (trivial) (hP.sub [0, 1, 2, 3, 4] rfl) (hD.sub [0, 1, 2, 3, 4] (by decide) rfl) dX2_spread_147
      ·
        have hn_3 := bge_f (a := i_1) (b := d) c_3 (by omega) (by omega)
        refine lv_iload hx hb dX2_spread_27 (lv_at hl 1 rfl) ?_
        refine lv_istore (lv' := [(9, .int (nI v7_1)), (8, .int (nI i_1)), (7, .int (nI v7_1)), (6, .int (nI v6_1)), (4, .long v4_1), (0, .ref aJ), (1, .int (nI frm)), (2, .int (nI d)), (3, .int wi)]) hx hb dX2_spread_29 hl (by decide) rfl (fun ls hl => ?_)
        have lp_5 : ∀ (nfu : Nat) (i_4 : Nat) (v7_4 : Nat) (v4_4 : Int64) (m0_4 : Nat → Int32) (H : Heap) (locs : List Loc) (ls : Array Slot) (hi_4 : i_4 ≤ v7_1) (hv0_4 : v7_1 ≤ v7_4) (hv1_4 : v7_4 ≤ 64) (hv2_4 : QIN m0_4 v7_4), v7_1 - i_4 < nfu → va_P D vwCl [(aJ, .inr (2, [.ref aO, .ref aS, .ref jm, .int jd, .int jl, .long jv, .ref jq, .ref jb, .ref jp, .ref jw, .ref jh, .ref js])), (aO, .inr (0, [.int tl, .int (nI tp), .int tw, .int td, .int (nI nc), .int (nI nr), .int (nI no), .int (nI na), .int tdr, .int tlo, .ref o1, .ref o2, .ref o3, .ref o4, .ref o5])), (aS, .inr (6, [.int (nI zs), .int (nI sc), .int (nI st), .long sw, .ref s1, .ref s2, .ref s3, .ref s4])), (s4, .inl (cs 1, 320, .inl fr)), (jq, .inl (cs 1, 64, .inl m0_4))] H → va_D A [(aJ, .inr (2, [.ref aO, .ref aS, .ref jm, .int jd, .int jl, .long jv, .ref jq, .ref jb, .ref jp, .ref jw, .ref jh, .ref js])), (aO, .inr (0, [.int tl, .int (nI tp), .int tw, .int td, .int (nI nc), .int (nI nr), .int (nI no), .int (nI na), .int tdr, .int tlo, .ref o1, .ref o2, .ref o3, .ref o4, .ref o5])), (aS, .inr (6, [.int (nI zs), .int (nI sc), .int (nI st), .long sw, .ref s1, .ref s2, .ref s3, .ref s4])), (s4, .inl (cs 1, 320, .inl fr)), (jq, .inl (cs 1, 64, .inl m0_4))] → va_S A s.heap H locs → lv_has ls 12 [(9, .int (nI v7_1)), (8, .int (nI i_1)), (7, .int (nI v7_4)), (6, .int (nI i_4)), (4, .long v4_4), (0, .ref aJ), (1, .int (nI frm)), (2, .int (nI d)), (3, .int wi)] → W p l e (mRm 1 0 0 23) s m ([.ref aJ, .int (nI frm), .int (nI d), .int wi] : List Value).toArray below meth c H locs 0 0 (MQ below (va_Ql (fun (r : Int64) (u : (Nat → Int32)) => True) (mpost D A (fun (u : (Nat → Int32)) => [(aJ, .inr (2, [.ref aO, .ref aS, .ref jm, .int jd, .int jl, .long jv, .ref jq, .ref jb, .ref jp, .ref jw, .ref jh, .ref js])), (aO, .inr (0, [.int tl, .int (nI tp), .int tw, .int td, .int (nI nc), .int (nI nr), .int (nI no), .int (nI na), .int tdr, .int tlo, .ref o1, .ref o2, .ref o3, .ref o4, .ref o5])), (aS, .inr (6, [.int (nI zs), .int (nI sc), .int (nI st), .long sw, .ref s1, .ref s2, .ref s3, .ref s4])), (s4, .inl (cs 1, 320, .inl fr)), (jq, .inl (cs 1, 64, .inl u))])) A) ([.ref aJ, .int (nI frm), .int (nI d), .int wi] : List Value).toArray s 0 0 A) (F0 m 31 ls []) := by
          intro nfu
          induction nfu with
          | zero => intro i_4 v7_4 v4_4 m0_4 H locs ls hi_4 hv0_4 hv1_4 hv2_4 hmu; exact absurd hmu (Nat.not_lt_zero _)
          | succ nfu ih =>
            intro i_4 v7_4 v4_4 m0_4 H locs ls hi_4 hv0_4 hv1_4 hv2_4 hmu hP hD hS hl
            have ih_lp_5 := @ih
            refine lv_iload hx hb dX2_spread_31 (lv_at hl 3 rfl) ?_
            refine lv_iload hx hb dX2_spread_33 (lv_at hl 0 rfl) ?_
            refine lv_icmp_ge (tgt := 139) hx hb dX2_spread_35 (by decide) (fun c_6 => ?_) (fun c_6 => ?_)
            ·
              have hn_6 := bge_t (a := i_4) (b := v7_1) c_6 (by omega) (by omega)
              refine lv_iinc (v := (nI (i_1 + 1))) (lv' := [(8, .int (nI (i_1 + 1))), (9, .int (nI v7_1)), (7, .int (nI v7_4)), (6, .int (nI i_4)), (4, .long v4_4), (0, .ref aJ), (1, .int (nI frm)), (2, .int (nI d)), (3, .int wi)]) hx hb dX2_spread_139 hl (k := 1) rfl (nI_1 _) (by decide) rfl (fun ls hl => ?_)
              refine lv_goto (tgt := 21) hx hb dX2_spread_142 (by decide) ?_
              exact ih_lp_2 (i_1 + 1) v7_4 i_4 v4_4 m0_4 H locs ls (by omega) (by first | assumption | omega) (by first | assumption | omega) (by first | assumption | omega) (by omega) (hP.sub [0, 1, 2, 3, 4] rfl) (hD.sub [0, 1, 2, 3, 4] (by decide) rfl) hS (lv_sub hl [0, 2, 3, 4, 5, 6, 7, 8] rfl)
            ·
              have hn_6 := bge_f (a := i_4) (b := v7_1) c_6 (by omega) (by omega)
              refine lv_iconst (v := 0) hx hb dX2_spread_38 (by decide) ?_
              refine lv_istore (lv' := [(10, .int 0), (9, .int (nI v7_1)), (8, .int (nI i_1)), (7, .int (nI v7_4)), (6, .int (nI i_4)), (4, .long v4_4), (0, .ref aJ), (1, .int (nI frm)), (2, .int (nI d)), (3, .int wi)]) hx hb dX2_spread_39 hl (by decide) rfl (fun ls hl => ?_)
              have lp_8 : ∀ (nfu : Nat) (i_7 : Nat) (v7_7 : Nat) (v4_7 : Int64) (m0_7 : Nat → Int32) (H : Heap) (locs : List Loc) (ls : Array Slot) (hi_7 : i_7 ≤ no) (hv0_7 : v7_1 ≤ v7_7) (hv1_7 : v7_7 ≤ 64) (hv2_7 : QIN m0_7 v7_7), no - i_7 < nfu → va_P D vwCl [(aJ, .inr (2, [.ref aO, .ref aS, .ref jm, .int jd, .int jl, .long jv, .ref jq, .ref jb, .ref jp, .ref jw, .ref jh, .ref js])), (aO, .inr (0, [.int tl, .int (nI tp), .int tw, .int td, .int (nI nc), .int (nI nr), .int (nI no), .int (nI na), .int tdr, .int tlo, .ref o1, .ref o2, .ref o3, .ref o4, .ref o5])), (aS, .inr (6, [.int (nI zs), .int (nI sc), .int (nI st), .long sw, .ref s1, .ref s2, .ref s3, .ref s4])), (s4, .inl (cs 1, 320, .inl fr)), (jq, .inl (cs 1, 64, .inl m0_7))] H → va_D A [(aJ, .inr (2, [.ref aO, .ref aS, .ref jm, .int jd, .int jl, .long jv, .ref jq, .ref jb, .ref jp, .ref jw, .ref jh, .ref js])), (aO, .inr (0, [.int tl, .int (nI tp), .int tw, .int td, .int (nI nc), .int (nI nr), .int (nI no), .int (nI na), .int tdr, .int tlo, .ref o1, .ref o2, .ref o3, .ref o4, .ref o5])), (aS, .inr (6, [.int (nI zs), .int (nI sc), .int (nI st), .long sw, .ref s1, .ref s2, .ref s3, .ref s4])), (s4, .inl (cs 1, 320, .inl fr)), (jq, .inl (cs 1, 64, .inl m0_7))] → va_S A s.heap H locs → lv_has ls 12 [(10, .int (nI i_7)), (9, .int (nI v7_1)), (8, .int (nI i_1)), (7, .int (nI v7_7)), (6, .int (nI i_4)), (4, .long v4_7), (0, .ref aJ), (1, .int (nI frm)), (2, .int (nI d)), (3, .int wi)] → W p l e (mRm 1 0 0 23) s m ([.ref aJ, .int (nI frm), .int (nI d), .int wi] : List Value).toArray below meth c H locs 0 0 (MQ below (va_Ql (fun (r : Int64) (u : (Nat → Int32)) => True) (mpost D A (fun (u : (Nat → Int32)) => [(aJ, .inr (2, [.ref aO, .ref aS, .ref jm, .int jd, .int jl, .long jv, .ref jq, .ref jb, .ref jp, .ref jw, .ref jh, .ref js])), (aO, .inr (0, [.int tl, .int (nI tp), .int tw, .int td, .int (nI nc), .int (nI nr), .int (nI no), .int (nI na), .int tdr, .int tlo, .ref o1, .ref o2, .ref o3, .ref o4, .ref o5])), (aS, .inr (6, [.int (nI zs), .int (nI sc), .int (nI st), .long sw, .ref s1, .ref s2, .ref s3, .ref s4])), (s4, .inl (cs 1, 320, .inl fr)), (jq, .inl (cs 1, 64, .inl u))])) A) ([.ref aJ, .int (nI frm), .int (nI d), .int wi] : List Value).toArray s 0 0 A) (F0 m 41 ls []) := by
                intro nfu
                induction nfu with
                | zero => intro i_7 v7_7 v4_7 m0_7 H locs ls hi_7 hv0_7 hv1_7 hv2_7 hmu; exact absurd hmu (Nat.not_lt_zero _)
                | succ nfu ih =>
                  intro i_7 v7_7 v4_7 m0_7 H locs ls hi_7 hv0_7 hv1_7 hv2_7 hmu hP hD hS hl
                  have ih_lp_8 := @ih
                  refine lv_iload hx hb dX2_spread_41 (lv_at hl 0 rfl) ?_
                  refine lv_aload_n hx hb dX2_spread_43 rfl (lv_at hl 6 rfl) ?_
                  refine va_get (D := D) (ci := 2) (v := .ref aO) (C := RX2) (T := TX2) (N := 12) hx hb hts iuX2_spread_X2 hown hK hP 0 rfl rfl 0 (by decide) (htw (.fieldLink RX2 49 "MergeJudge$Judge" "told" "LMergeJudge$Base;") (List.mem_of_getElem? (i := 1) rfl)) (fun _ h9 => h9) rfl dX2_spread_44 ?_
                  refine va_get (D := D) (ci := 0) (v := .int (nI no)) (C := RX0) (T := TX0) (N := 15) hx hb hts iuX2_spread_X0 hown hK hP 1 rfl rfl 6 (by decide) (htw (.fieldLink RX2 133 "MergeJudge$Base" "ops" "I") (List.mem_of_getElem? (i := 2) rfl)) (fun _ h9 => h9) rfl dX2_spread_47 ?_
                  refine lv_icmp_ge (tgt := 133) hx hb dX2_spread_50 (by decide) (fun c_9 => ?_) (fun c_9 => ?_)
                  ·
                    have hn_9 := bge_t (a := i_7) (b := no) c_9 (by omega) (by omega)
                    refine lv_iinc (v := (nI (i_4 + 1))) (lv' := [(6, .int (nI (i_4 + 1))), (10, .int (nI i_7)), (9, .int (nI v7_1)), (8, .int (nI i_1)), (7, .int (nI v7_7)), (4, .long v4_7), (0, .ref aJ), (1, .int (nI frm)), (2, .int (nI d)), (3, .int wi)]) hx hb dX2_spread_133 hl (k := 4) rfl (nI_1 _) (by decide) rfl (fun ls hl => ?_)
                    refine lv_goto (tgt := 31) hx hb dX2_spread_136 (by decide) ?_
                    exact ih_lp_5 (i_4 + 1) v7_7 v4_7 m0_7 H locs ls (by omega) (by first | assumption | omega) (by first | assumption | omega) (by first | assumption | omega) (by omega) (hP.sub [0, 1, 2, 3, 4] rfl) (hD.sub [0, 1, 2, 3, 4] (by decide) rfl) hS (lv_sub hl [2, 3, 4, 0, 5, 6, 7, 8, 9] rfl)
                  ·
                    have hn_9 := bge_f (a := i_7) (b := no) c_9 (by omega) (by omega)
                    refine lv_iload_n hx hb dX2_spread_53 rfl (lv_at hl 9 rfl) ?_
                    refine lv_iload hx hb dX2_spread_54 (lv_at hl 0 rfl) ?_
                    refine lv_ishr hx hb dX2_spread_56 ?_
                    refine lv_iconst (v := 1) hx hb dX2_spread_57 (by decide) ?_
                    refine lv_iand hx hb dX2_spread_58 ?_
                    obtain ⟨j_10, hj_10, ej_10⟩ := pk_andE (wi >>> ((nI i_7) &&& 31)) (m := 1) 1 (by decide)
                    replace hj_10 : j_10 < 2 := hj_10
                    refine cf_i (nI j_10) ej_10 ?_
                    refine lv_if_eq (tgt := 66) hx hb dX2_spread_59 (by decide) (fun c_11 => ?_) (fun c_11 => ?_)
                    ·
                      have hn_11 := beq_t (a := j_10) (b := 0) c_11 (by omega) (by omega)
                      refine lv_aload_n hx hb dX2_spread_66 rfl (lv_at hl 6 rfl) ?_
                      refine lv_iload hx hb dX2_spread_67 (lv_at hl 0 rfl) ?_
                      refine lv_aload_n hx hb dX2_spread_69 rfl (lv_at hl 6 rfl) ?_
                      refine va_get (D := D) (ci := 2) (v := .ref jq) (C := RX2) (T := TX2) (N := 12) hx hb hts iuX2_spread_X2 hown hK hP 0 rfl rfl 6 (by decide) (htw (.fieldLink RX2 29 "MergeJudge$Judge" "queue" "[I") (List.mem_of_getElem? (i := 0) rfl)) (fun _ h9 => h9) rfl dX2_spread_70 ?_
                      refine lv_iload hx hb dX2_spread_73 (lv_at hl 4 rfl) ?_
                      refine va_iald hx hb hK hP 4 1 rfl rfl (vp_in_nI (by omega) (by omega)) dX2_spread_75 ?_
                      rw [nI_clamp (by omega)]
                      obtain ⟨j_12, hj_12, ej_12⟩ := (show QIN m0_7 v7_7 by assumption) i_4 (by omega)
                      refine cf_i (nI j_12) ej_12 ?_
                      refine aft_i (wr := [(aO, .inr (0, [.int tl, .int (nI tp), .int tw, .int td, .int (nI nc), .int (nI nr), .int (nI no), .int (nI na), .int tdr, .int tlo, .ref o1, .ref o2, .ref o3, .ref o4, .ref o5])), (jq, .inl (cs 1, 64, .inl m0_7))]) hP hD hS hA [0, 2, 3] [1, 4] rfl rfl (by decide) (by decide) (run_v (As := [.int (nI i_7), .int (nI j_12)]) (rest := []) hFix hK hE hP hD [0, 2, 3] (k_X2_outcome l D cs _ aJ i_7 j_12 aO aS jm jd jl jv jq jb jp jw jh js sw s1 s2 s3 s4 fr zs sc st (by first | assumption | decide | omega) (by first | assumption | decide | omega) (by first | assumption | decide | omega) (by first | assumption | decide | omega) (by first | assumption | decide | omega) (by first | assumption | decide | omega)) (cwV 2 hts gc_X2_spread_136_X2_outcome rfl rfl rfl (by decide +kernel) ⟨Nat.le_of_ble_eq_true rfl, Nat.le_of_ble_eq_true rfl⟩) rfl (by decide) rfl rfl rfl hl.1 rfl (Nat.le_of_ble_eq_true rfl) dX2_spread_76 ⟨Nat.le_of_ble_eq_true rfl, Nat.le_of_ble_eq_true rfl⟩) (fun r_13 u_13 H locs hq_13 hP hD hS => ?_)
                      obtain ⟨j_13, rfl⟩ : ∃ z, z = u_13 := ⟨_, rfl⟩
                      have hP : va_P D vwCl [(aO, .inr (0, [.int tl, .int (nI tp), .int tw, .int td, .int (nI nc), .int (nI nr), .int (nI no), .int (nI na), .int tdr, .int tlo, .ref o1, .ref o2, .ref o3, .ref o4, .ref o5])), (jq, .inl (cs 1, 64, .inl m0_7)), (aJ, .inr (2, [.ref aO, .ref aS, .ref jm, .int jd, .int jl, .long jv, .ref jq, .ref jb, .ref jp, .ref jw, .ref jh, .ref js])), (aS, .inr (6, [.int (nI zs), .int (nI sc), .int (nI st), .long sw, .ref s1, .ref s2, .ref s3, .ref s4])), (s4, .inl (cs 1, 320, .inl fr))] H := hP
                      have hD : va_D A [(aO, .inr (0, [.int tl, .int (nI tp), .int tw, .int td, .int (nI nc), .int (nI nr), .int (nI no), .int (nI na), .int tdr, .int tlo, .ref o1, .ref o2, .ref o3, .ref o4, .ref o5])), (jq, .inl (cs 1, 64, .inl m0_7)), (aJ, .inr (2, [.ref aO, .ref aS, .ref jm, .int jd, .int jl, .long jv, .ref jq, .ref jb, .ref jp, .ref jw, .ref jh, .ref js])), (aS, .inr (6, [.int (nI zs), .int (nI sc), .int (nI st), .long sw, .ref s1, .ref s2, .ref s3, .ref s4])), (s4, .inl (cs 1, 320, .inl fr))] := hD
                      replace hq_13 : ((r_13 = (-1) ∧ True) ∨ (r_13 = nI j_13 ∧ j_13 < 64)) := hq_13
                      rcases hq_13 with ⟨rfl, hq_13⟩ | ⟨rfl, hq_13⟩
                      ·
                        refine lv_istore (lv' := [(11, .int (-1)), (10, .int (nI i_7)), (9, .int (nI v7_1)), (8, .int (nI i_1)), (7, .int (nI v7_7)), (6, .int (nI i_4)), (4, .long v4_7), (0, .ref aJ), (1, .int (nI frm)), (2, .int (nI d)), (3, .int wi)]) hx hb dX2_spread_79 hl (by decide) rfl (fun ls hl => ?_)
                        refine lv_iload hx hb dX2_spread_81 (lv_at hl 0 rfl) ?_
                        refine lv_iconst (v := (-1)) hx hb dX2_spread_83 (by decide) ?_
                        refine lv_icmp_eq (tgt := 127) hx hb dX2_spread_84 (by decide) (fun _ => ?_) (fun h9 => absurd h9 (by decide))
                        refine lv_iinc (v := (nI (i_7 + 1))) (lv' := [(10, .int (nI (i_7 + 1))), (11, .int (-1)), (9, .int (nI v7_1)), (8, .int (nI i_1)), (7, .int (nI v7_7)), (6, .int (nI i_4)), (4, .long v4_7), (0, .ref aJ), (1, .int (nI frm)), (2, .int (nI d)), (3, .int wi)]) hx hb dX2_spread_127 hl (k := 1) rfl (nI_1 _) (by decide) rfl (fun ls hl => ?_)
                        refine lv_goto (tgt := 41) hx hb dX2_spread_130 (by decide) ?_
                        exact ih_lp_8 (i_7 + 1) v7_7 v4_7 m0_7 H locs ls (by omega) (by first | assumption | omega) (by first | assumption | omega) (by first | assumption | exact qin_put (by assumption) (by omega) (by omega)) (by omega) (hP.sub [2, 0, 3, 4, 1] rfl) (hD.sub [2, 0, 3, 4, 1] (by decide) rfl) hS (lv_sub hl [0, 2, 3, 4, 5, 6, 7, 8, 9, 10] rfl)
                      ·
                        refine lv_istore (lv' := [(11, .int (nI j_13)), (10, .int (nI i_7)), (9, .int (nI v7_1)), (8, .int (nI i_1)), (7, .int (nI v7_7)), (6, .int (nI i_4)), (4, .long v4_7), (0, .ref aJ), (1, .int (nI frm)), (2, .int (nI d)), (3, .int wi)]) hx hb dX2_spread_79 hl (by decide) rfl (fun ls hl => ?_)
                        refine lv_iload hx hb dX2_spread_81 (lv_at hl 0 rfl) ?_
                        refine lv_iconst (v := (-1)) hx hb dX2_spread_83 (by decide) ?_
                        refine lv_icmp_eq (tgt := 127) hx hb dX2_spread_84 (by decide) (fun h9 => False.elim (nneg_eq (a := j_13) h9 (by omega) (by decide))) (fun _ => ?_)
                        refine lv_lload hx hb dX2_spread_87 (lv_at hl 6 rfl) ?_
                        refine lv_iload hx hb dX2_spread_89 (lv_at hl 0 rfl) ?_
                        refine lv_lushr (v := (v4_7.toUInt64 >>> ((nI j_13).toInt64.toUInt64 &&& Int64.toUInt64 63)).toInt64) hx hb dX2_spread_91 rfl ?_
                        refine lv_lconst (v := 1) hx hb dX2_spread_92 (by decide) ?_
                        refine lv_land hx hb dX2_spread_93 ?_
                        refine lv_lconst (v := 0) hx hb dX2_spread_94 (by decide) ?_
                        refine W.lcmp hx hb dX2_spread_95 ?_
                        refine lv_if_ne (tgt := 127) hx hb dX2_spread_96 (by decide) (fun c_15 => ?_) (fun c_15 => ?_)
                        ·
                          refine lv_iinc (v := (nI (i_7 + 1))) (lv' := [(10, .int (nI (i_7 + 1))), (11, .int (nI j_13)), (9, .int (nI v7_1)), (8, .int (nI i_1)), (7, .int (nI v7_7)), (6, .int (nI i_4)), (4, .long v4_7), (0, .ref aJ), (1, .int (nI frm)), (2, .int (nI d)), (3, .int wi)]) hx hb dX2_spread_127 hl (k := 1) rfl (nI_1 _) (by decide) rfl (fun ls hl => ?_)
                          refine lv_goto (tgt := 41) hx hb dX2_spread_130 (by decide) ?_
                          exact ih_lp_8 (i_7 + 1) v7_7 v4_7 m0_7 H locs ls (by omega) (by first | assumption | omega) (by first | assumption | omega) (by first | assumption | exact qin_put (by assumption) (by omega) (by omega)) (by omega) (hP.sub [2, 0, 3, 4, 1] rfl) (hD.sub [2, 0, 3, 4, 1] (by decide) rfl) hS (lv_sub hl [0, 2, 3, 4, 5, 6, 7, 8, 9, 10] rfl)
                        ·
                          refine lv_iload hx hb dX2_spread_99 (lv_at hl 4 rfl) ?_
                          refine lv_bipush (v := 64) hx hb dX2_spread_101 (by decide) ?_
                          refine lv_icmp_ge (tgt := 127) hx hb dX2_spread_103 (by decide) (fun c_16 => ?_) (fun c_16 => ?_)
                          ·
                            have hn_16 := bge_t (a := v7_7) (b := 64) c_16 (by omega) (by omega)
                            refine lv_iinc (v := (nI (i_7 + 1))) (lv' := [(10, .int (nI (i_7 + 1))), (11, .int (nI j_13)), (9, .int (nI v7_1)), (8, .int (nI i_1)), (7, .int (nI v7_7)), (6, .int (nI i_4)), (4, .long v4_7), (0, .ref aJ), (1, .int (nI frm)), (2, .int (nI d)), (3, .int wi)]) hx hb dX2_spread_127 hl (k := 1) rfl (nI_1 _) (by decide) rfl (fun ls hl => ?_)
                            refine lv_goto (tgt := 41) hx hb dX2_spread_130 (by decide) ?_
                            exact ih_lp_8 (i_7 + 1) v7_7 v4_7 m0_7 H locs ls (by omega) (by first | assumption | omega) (by first | assumption | omega) (by first | assumption | exact qin_put (by assumption) (by omega) (by omega)) (by omega) (hP.sub [2, 0, 3, 4, 1] rfl) (hD.sub [2, 0, 3, 4, 1] (by decide) rfl) hS (lv_sub hl [0, 2, 3, 4, 5, 6, 7, 8, 9, 10] rfl)
                          ·
                            have hn_16 := bge_f (a := v7_7) (b := 64) c_16 (by omega) (by omega)
                            refine lv_lload hx hb dX2_spread_106 (lv_at hl 6 rfl) ?_
                            refine lv_lconst (v := 1) hx hb dX2_spread_108 (by decide) ?_
                            refine lv_iload hx hb dX2_spread_109 (lv_at hl 0 rfl) ?_
                            refine lv_lshl (v := (1 : Int64) <<< ((nI j_13).toInt64 &&& 63)) hx hb dX2_spread_111 rfl ?_
                            refine lv_lor hx hb dX2_spread_112 ?_
                            refine lv_lstore (lv' := [(4, .long (v4_7 ||| ((1 : Int64) <<< ((nI j_13).toInt64 &&& 63)))), (11, .int (nI j_13)), (10, .int (nI i_7)), (9, .int (nI v7_1)), (8, .int (nI i_1)), (7, .int (nI v7_7)), (6, .int (nI i_4)), (0, .ref aJ), (1, .int (nI frm)), (2, .int (nI d)), (3, .int wi)]) hx hb dX2_spread_113 hl (by decide) rfl (fun ls hl => ?_)
                            refine lv_aload_n hx hb dX2_spread_115 rfl (lv_at hl 7 rfl) ?_
                            refine va_get (D := D) (ci := 2) (v := .ref jq) (C := RX2) (T := TX2) (N := 12) hx hb hts iuX2_spread_X2 hown hK hP 2 rfl rfl 6 (by decide) (htw (.fieldLink RX2 29 "MergeJudge$Judge" "queue" "[I") (List.mem_of_getElem? (i := 0) rfl)) (fun _ h9 => h9) rfl dX2_spread_116 ?_
                            refine lv_iload hx hb dX2_spread_119 (lv_at hl 5 rfl) ?_
                            refine lv_iload hx hb dX2_spread_121 (lv_at hl 1 rfl) ?_
                            refine va_iast hx hb hK hP hD hS 1 1 rfl rfl (vp_in_nI (by omega) (by omega)) dX2_spread_123 (fun H locs hP hD hS => ?_)
                            have hP : va_P D vwCl [(aO, .inr (0, [.int tl, .int (nI tp), .int tw, .int td, .int (nI nc), .int (nI nr), .int (nI no), .int (nI na), .int tdr, .int tlo, .ref o1, .ref o2, .ref o3, .ref o4, .ref o5])), (jq, .inl (cs 1, 64, .inl (upd m0_7 ((nI v7_7).toNatClampNeg) (nI j_13)))), (aJ, .inr (2, [.ref aO, .ref aS, .ref jm, .int jd, .int jl, .long jv, .ref jq, .ref jb, .ref jp, .ref jw, .ref jh, .ref js])), (aS, .inr (6, [.int (nI zs), .int (nI sc), .int (nI st), .long sw, .ref s1, .ref s2, .ref s3, .ref s4])), (s4, .inl (cs 1, 320, .inl fr))] H := hP
                            have hD : va_D A [(aO, .inr (0, [.int tl, .int (nI tp), .int tw, .int td, .int (nI nc), .int (nI nr), .int (nI no), .int (nI na), .int tdr, .int tlo, .ref o1, .ref o2, .ref o3, .ref o4, .ref o5])), (jq, .inl (cs 1, 64, .inl (upd m0_7 ((nI v7_7).toNatClampNeg) (nI j_13)))), (aJ, .inr (2, [.ref aO, .ref aS, .ref jm, .int jd, .int jl, .long jv, .ref jq, .ref jb, .ref jp, .ref jw, .ref jh, .ref js])), (aS, .inr (6, [.int (nI zs), .int (nI sc), .int (nI st), .long sw, .ref s1, .ref s2, .ref s3, .ref s4])), (s4, .inl (cs 1, 320, .inl fr))] := hD
                            refine lv_iinc (v := (nI (v7_7 + 1))) (lv' := [(7, .int (nI (v7_7 + 1))), (4, .long (v4_7 ||| ((1 : Int64) <<< ((nI j_13).toInt64 &&& 63)))), (11, .int (nI j_13)), (10, .int (nI i_7)), (9, .int (nI v7_1)), (8, .int (nI i_1)), (6, .int (nI i_4)), (0, .ref aJ), (1, .int (nI frm)), (2, .int (nI d)), (3, .int wi)]) hx hb dX2_spread_124 hl (k := 5) rfl (nI_1 _) (by decide) rfl (fun ls hl => ?_)
                            refine lv_iinc (v := (nI (i_7 + 1))) (lv' := [(10, .int (nI (i_7 + 1))), (7, .int (nI (v7_7 + 1))), (4, .long (v4_7 ||| ((1 : Int64) <<< ((nI j_13).toInt64 &&& 63)))), (11, .int (nI j_13)), (9, .int (nI v7_1)), (8, .int (nI i_1)), (6, .int (nI i_4)), (0, .ref aJ), (1, .int (nI frm)), (2, .int (nI d)), (3, .int wi)]) hx hb dX2_spread_127 hl (k := 3) rfl (nI_1 _) (by decide) rfl (fun ls hl => ?_)
                            refine lv_goto (tgt := 41) hx hb dX2_spread_130 (by decide) ?_
                            exact ih_lp_8 (i_7 + 1) (v7_7 + 1) (v4_7 ||| ((1 : Int64) <<< ((nI j_13).toInt64 &&& 63))) (upd m0_7 ((nI v7_7).toNatClampNeg) (nI j_13)) H locs ls (by omega) (by first | assumption | omega) (by first | assumption | omega) (by first | assumption | exact qin_put (by assumption) (by omega) (by omega)) (by omega) (hP.sub [2, 0, 3, 4, 1] rfl) (hD.sub [2, 0, 3, 4, 1] (by decide) rfl) hS (lv_sub hl [0, 4, 5, 1, 6, 2, 7, 8, 9, 10] rfl)
                    ·
                      have hn_11 := beq_f (a := j_10) (b := 0) c_11 (by omega) (by omega)
                      refine lv_iconst (v := (-1)) hx hb dX2_spread_62 (by decide) ?_
                      refine lv_goto (tgt := 79) hx hb dX2_spread_63 (by decide) ?_
                      refine lv_istore (lv' := [(11, .int (-1)), (10, .int (nI i_7)), (9, .int (nI v7_1)), (8, .int (nI i_1)), (7, .int (nI v7_7)), (6, .int (nI i_4)), (4, .long v4_7), (0, .ref aJ), (1, .int (nI frm)), (2, .int (nI d)), (3, .int wi)]) hx hb dX2_spread_79 hl (by decide) rfl (fun ls hl => ?_)
                      refine lv_iload hx hb dX2_spread_81 (lv_at hl 0 rfl) ?_
                      refine lv_iconst (v := (-1)) hx hb dX2_spread_83 (by decide) ?_
                      refine lv_icmp_eq (tgt := 127) hx hb dX2_spread_84 (by decide) (fun _ => ?_) (fun h9 => absurd h9 (by decide))
                      refine lv_iinc (v := (nI (i_7 + 1))) (lv' := [(10, .int (nI (i_7 + 1))), (11, .int (-1)), (9, .int (nI v7_1)), (8, .int (nI i_1)), (7, .int (nI v7_7)), (6, .int (nI i_4)), (4, .long v4_7), (0, .ref aJ), (1, .int (nI frm)), (2, .int (nI d)), (3, .int wi)]) hx hb dX2_spread_127 hl (k := 1) rfl (nI_1 _) (by decide) rfl (fun ls hl => ?_)
                      refine lv_goto (tgt := 41) hx hb dX2_spread_130 (by decide) ?_
                      exact ih_lp_8 (i_7 + 1) v7_7 v4_7 m0_7 H locs ls (by omega) (by first | assumption | omega) (by first | assumption | omega) (by first | assumption | exact qin_put (by assumption) (by omega) (by omega)) (by omega) (hP.sub [0, 1, 2, 3, 4] rfl) (hD.sub [0, 1, 2, 3, 4] (by decide) rfl) hS (lv_sub hl [0, 2, 3, 4, 5, 6, 7, 8, 9, 10] rfl)
              exact lp_8 _ 0 v7_4 v4_4 m0_4 H locs ls (by omega) (by first | assumption | omega) (by first | assumption | omega) (by first | assumption | omega) (Nat.lt_succ_self _) (hP.sub [0, 1, 2, 3, 4] rfl) (hD.sub [0, 1, 2, 3, 4] (by decide) rfl) hS (lv_sub hl [0, 1, 2, 3, 4, 5, 6, 7, 8, 9] rfl)
        exact lp_5 _ v6_1 v7_1 v4_1 m0_1 H locs ls (by omega) (by first | assumption | omega) (by first | assumption | omega) (by first | assumption | omega) (Nat.lt_succ_self _) (hP.sub [0, 1, 2, 3, 4] rfl) (hD.sub [0, 1, 2, 3, 4] (by decide) rfl) hS (lv_sub hl [0, 1, 2, 3, 4, 5, 6, 7, 8] rfl)
  exact lp_2 _ 0 1 0 ((1 : Int64) <<< ((nI frm).toInt64 &&& 63)) (upd fq 0 (nI frm)) H locs ls (by omega) (by first | assumption | omega) (by first | assumption | omega) (qin_1 (by omega)) (Nat.lt_succ_self _) (hP.sub [0, 1, 2, 3, 4] rfl) (hD.sub [0, 1, 2, 3, 4] (by decide) rfl) hS (lv_sub hl [0, 1, 2, 3, 4, 5, 6, 7] rfl)

set_option maxHeartbeats 4000000 in
set_option maxRecDepth 100000 in
theorem k_X2_distance (l : Launch) (D : va_G) (cs : Nat → ClassId) (sz : Nat) (aJ : Nat) (a1 : Int32) (b1 : Nat) (aO : Nat) (aS : Nat) (jm : Nat) (jd : Int32) (jl : Int32) (jv : Int64) (jq : Nat) (jb : Nat) (jp : Nat) (jw : Nat) (jh : Nat) (js : Nat) (tl : Int32) (tw : Int32) (td : Int32) (tdr : Int32) (tlo : Int32) (o1 : Nat) (o2 : Nat) (o3 : Nat) (o4 : Nat) (o5 : Nat) (sw : Int64) (s1 : Nat) (s2 : Nat) (s3 : Nat) (s4 : Nat) (fr : Nat → Int32) (fq : Nat → Int32) (tp : Nat) (nc : Nat) (nr : Nat) (no : Nat) (na : Nat) (zs : Nat) (sc : Nat) (st : Nat) (htp : tp ≤ 3) (hnc : nc ≤ 3) (hnr : nr ≤ 5) (hno : no ≤ 5) (hna : na ≤ 20) (hzs : zs ≤ 64) (hsc : sc ≤ 3) (hst : st ≤ 3) (hres : RES fr) (ha_b1 : b1 < 64) : Mi l D cs yX2_distance W_X2_distance 2 54 0 0 [.ref aJ, .int (nI b1), .int a1] [(aJ, .inr (2, [.ref aO, .ref aS, .ref jm, .int jd, .int jl, .long jv, .ref jq, .ref jb, .ref jp, .ref jw, .ref jh, .ref js])), (aO, .inr (0, [.int tl, .int (nI tp), .int tw, .int td, .int (nI nc), .int (nI nr), .int (nI no), .int (nI na), .int tdr, .int tlo, .ref o1, .ref o2, .ref o3, .ref o4, .ref o5])), (aS, .inr (6, [.int (nI zs), .int (nI sc), .int (nI st), .long sw, .ref s1, .ref s2, .ref s3, .ref s4])), (s4, .inl (cs 1, 320, .inl fr)), (jq, .inl (cs 1, 64, .inl fq))] sz (fun (r : Int32) (u : (Nat → Int32)) => ((r = (-1) ∧ True) ∨ (r = 0 ∧ True) ∨ (r = 1 ∧ True) ∨ (r = 2 ∧ True) ∨ (r = 3 ∧ True))) (fun (u : (Nat → Int32)) => [(aJ, .inr (2, [.ref aO, .ref aS, .ref jm, .int jd, .int jl, .long jv, .ref jq, .ref jb, .ref jp, .ref jw, .ref jh, .ref js])), (aO, .inr (0, [.int tl, .int (nI tp), .int tw, .int td, .int (nI nc), .int (nI nr), .int (nI no), .int (nI na), .int tdr, .int tlo, .ref o1, .ref o2, .ref o3, .ref o4, .ref o5])), (aS, .inr (6, [.int (nI zs), .int (nI sc), .int (nI st), .long sw, .ref s1, .ref s2, .ref s3, .ref s4])), (s4, .inl (cs 1, 320, .inl fr)), (jq, .inl (cs 1, 64, .inl u))]) := by
  refine ent (D := D) (cs := cs) (y := yX2_distance) (ws := W_X2_distance) (As := [.ref aJ, .int (nI b1), .int a1]) (W0 := [(aJ, .inr (2, [.ref aO, .ref aS, .ref jm, .int jd, .int jl, .long jv, .ref jq, .ref jb, .ref jp, .ref jw, .ref jh, .ref js])), (aO, .inr (0, [.int tl, .int (nI tp), .int tw, .int td, .int (nI nc), .int (nI nr), .int (nI no), .int (nI na), .int tdr, .int tlo, .ref o1, .ref o2, .ref o3, .ref o4, .ref o5])), (aS, .inr (6, [.int (nI zs), .int (nI sc), .int (nI st), .long sw, .ref s1, .ref s2, .ref s3, .ref s4])), (s4, .inl (cs 1, 320, .inl fr)), (jq, .inl (cs 1, 64, .inl fq))]) (Qx := fun A => va_Qi (fun (r : Int32) (u : (Nat → Int32)) => ((r = (-1) ∧ True) ∨ (r = 0 ∧ True) ∨ (r = 1 ∧ True) ∨ (r = 2 ∧ True) ∨ (r = 3 ∧ True))) (mpost D A (fun (u : (Nat → Int32)) => [(aJ, .inr (2, [.ref aO, .ref aS, .ref jm, .int jd, .int jl, .long jv, .ref jq, .ref jb, .ref jp, .ref jw, .ref jh, .ref js])), (aO, .inr (0, [.int tl, .int (nI tp), .int tw, .int td, .int (nI nc), .int (nI nr), .int (nI no), .int (nI na), .int tdr, .int tlo, .ref o1, .ref o2, .ref o3, .ref o4, .ref o5])), (aS, .inr (6, [.int (nI zs), .int (nI sc), .int (nI st), .long sw, .ref s1, .ref s2, .ref s3, .ref s4])), (s4, .inl (cs 1, 320, .inl fr)), (jq, .inl (cs 1, 64, .inl u))])) A) (maxL := 4) (ret := (some .int)) (by decide) rfl (Nat.le_of_ble_eq_true rfl) ?_
  intro p e s m below meth c A ls hx hb hr hml hlk hown hts hin hK hE hP hD hA hS hl
  have hl : lv_has ls 4 [(0, .ref aJ), (1, .int (nI b1)), (2, .int a1)] := hl
  generalize hHe : s.heap = H at hP
  have hS : va_S A s.heap H [] := hHe ▸ hS
  generalize hLe : ([] : List Loc) = locs at hS ⊢
  have htw : ∀ w ∈ O_X2_distance, w.before ([.ref aJ, .int (nI b1), .int a1] : List Value).toArray s = true := fun w h => hts w (List.mem_cons_of_mem _ (List.mem_append_left _ h))
  have hFix := (⟨hx, hb, hml, hown, hts⟩ : CallFix p m c _ _ s _ _ _)
  refine lv_aload_n hx hb dX2_distance_0 rfl (lv_at hl 0 rfl) ?_
  refine lv_iload_n hx hb dX2_distance_1 rfl (lv_at hl 1 rfl) ?_
  refine aft_i (wr := [(aO, .inr (0, [.int tl, .int (nI tp), .int tw, .int td, .int (nI nc), .int (nI nr), .int (nI no), .int (nI na), .int tdr, .int tlo, .ref o1, .ref o2, .ref o3, .ref o4, .ref o5])), (aS, .inr (6, [.int (nI zs), .int (nI sc), .int (nI st), .long sw, .ref s1, .ref s2, .ref s3, .ref s4])), (s4, .inl (cs 1, 320, .inl fr)), (jq, .inl (cs 1, 64, .inl fq))]) hP hD hS hA [0] [1, 2, 3, 4] rfl rfl (by decide) (by decide) (run_v (As := [.int (nI b1)]) (rest := []) hFix hK hE hP hD [0] (k_X2_isValid l D cs _ aJ (nI b1) aO aS jm jd jl jv jq jb jp jw jh js) (cwV 1 hts gc_X2_distance_140_X2_isValid rfl rfl rfl (by decide +kernel) ⟨Nat.le_of_ble_eq_true rfl, Nat.le_of_ble_eq_true rfl⟩) rfl (by decide) rfl rfl rfl hl.1 rfl (Nat.le_of_ble_eq_true rfl) dX2_distance_2 ⟨Nat.le_of_ble_eq_true rfl, Nat.le_of_ble_eq_true rfl⟩) (fun r_1 u_1 H locs hq_1 hP hD hS => ?_)
  have hP : va_P D vwCl [(aO, .inr (0, [.int tl, .int (nI tp), .int tw, .int td, .int (nI nc), .int (nI nr), .int (nI no), .int (nI na), .int tdr, .int tlo, .ref o1, .ref o2, .ref o3, .ref o4, .ref o5])), (aS, .inr (6, [.int (nI zs), .int (nI sc), .int (nI st), .long sw, .ref s1, .ref s2, .ref s3, .ref s4])), (s4, .inl (cs 1, 320, .inl fr)), (jq, .inl (cs 1, 64, .inl fq)), (aJ, .inr (2, [.ref aO, .ref aS, .ref jm, .int jd, .int jl, .long jv, .ref jq, .ref jb, .ref jp, .ref jw, .ref jh, .ref js]))] H := hP
  have hD : va_D A [(aO, .inr (0, [.int tl, .int (nI tp), .int tw, .int td, .int (nI nc), .int (nI nr), .int (nI no), .int (nI na), .int tdr, .int tlo, .ref o1, .ref o2, .ref o3, .ref o4, .ref o5])), (aS, .inr (6, [.int (nI zs), .int (nI sc), .int (nI st), .long sw, .ref s1, .ref s2, .ref s3, .ref s4])), (s4, .inl (cs 1, 320, .inl fr)), (jq, .inl (cs 1, 64, .inl fq)), (aJ, .inr (2, [.ref aO, .ref aS, .ref jm, .int jd, .int jl, .long jv, .ref jq, .ref jb, .ref jp, .ref jw, .ref jh, .ref js]))] := hD
  replace hq_1 : ((r_1 = 1 ∧ True) ∨ (r_1 = 0 ∧ True)) := hq_1
  rcases hq_1 with ⟨rfl, hq_1⟩ | ⟨rfl, hq_1⟩
  ·
    refine lv_if_ne (tgt := 10) hx hb dX2_distance_5 (by decide) (fun _ => ?_) (fun h9 => absurd h9 (by decide))
    refine lv_iconst (v := 0) hx hb dX2_distance_10 (by decide) ?_
    refine lv_istore_n (lv' := [(3, .int 0), (0, .ref aJ), (1, .int (nI b1)), (2, .int a1)]) hx hb dX2_distance_11 rfl hl (by decide) rfl (fun ls hl => ?_)
    refine lv_iload_n hx hb dX2_distance_12 rfl (lv_at hl 0 rfl) ?_
    refine lv_iconst (v := 3) hx hb dX2_distance_13 (by decide) ?_
    refine lv_icmp_gt (tgt := 41) hx hb dX2_distance_14 (by decide) (fun h9 => absurd h9 (by decide)) (fun _ => ?_)
    refine lv_aload_n hx hb dX2_distance_17 rfl (lv_at hl 1 rfl) ?_
    refine lv_iload_n hx hb dX2_distance_18 rfl (lv_at hl 2 rfl) ?_
    refine lv_iload_n hx hb dX2_distance_19 rfl (lv_at hl 0 rfl) ?_
    refine lv_iconst (v := 0) hx hb dX2_distance_20 (by decide) ?_
    refine aft_l (wr := []) hP hD hS hA [4, 0, 1, 2, 3] [] rfl rfl (by decide) (by decide) (run_v (As := [.int (nI b1), .int 0, .int 0]) (rest := []) hFix hK hE hP hD [4, 0, 1, 2, 3] (k_X2_spread l D cs _ aJ 0 b1 0 aO aS jm jd jl jv jq jb jp jw jh js tl tw td tdr tlo o1 o2 o3 o4 o5 sw s1 s2 s3 s4 fr fq tp nc nr no na zs sc st (by first | assumption | decide | omega) (by first | assumption | decide | omega) (by first | assumption | decide | omega) (by first | assumption | decide | omega) (by first | assumption | decide | omega) (by first | assumption | decide | omega) (by first | assumption | decide | omega) (by first | assumption | decide | omega) (by first | assumption | decide | omega) (by first | assumption | decide | omega) (by first | assumption | decide | omega)) (cwV 3 hts gc_X2_distance_149_X2_spread rfl rfl rfl (by decide +kernel) ⟨Nat.le_of_ble_eq_true rfl, Nat.le_of_ble_eq_true rfl⟩) rfl (by decide) rfl rfl rfl hl.1 rfl (Nat.le_of_ble_eq_true rfl) dX2_distance_21 ⟨Nat.le_of_ble_eq_true rfl, Nat.le_of_ble_eq_true rfl⟩) (fun r_2 u_2 H locs hq_2 hP hD hS => ?_)
    obtain ⟨fq1_2, rfl⟩ : ∃ z, z = u_2 := ⟨_, rfl⟩
    have hP : va_P D vwCl [(aJ, .inr (2, [.ref aO, .ref aS, .ref jm, .int jd, .int jl, .long jv, .ref jq, .ref jb, .ref jp, .ref jw, .ref jh, .ref js])), (aO, .inr (0, [.int tl, .int (nI tp), .int tw, .int td, .int (nI nc), .int (nI nr), .int (nI no), .int (nI na), .int tdr, .int tlo, .ref o1, .ref o2, .ref o3, .ref o4, .ref o5])), (aS, .inr (6, [.int (nI zs), .int (nI sc), .int (nI st), .long sw, .ref s1, .ref s2, .ref s3, .ref s4])), (s4, .inl (cs 1, 320, .inl fr)), (jq, .inl (cs 1, 64, .inl fq1_2))] H := hP
    have hD : va_D A [(aJ, .inr (2, [.ref aO, .ref aS, .ref jm, .int jd, .int jl, .long jv, .ref jq, .ref jb, .ref jp, .ref jw, .ref jh, .ref js])), (aO, .inr (0, [.int tl, .int (nI tp), .int tw, .int td, .int (nI nc), .int (nI nr), .int (nI no), .int (nI na), .int tdr, .int tlo, .ref o1, .ref o2, .ref o3, .ref o4, .ref o5])), (aS, .inr (6, [.int (nI zs), .int (nI sc), .int (nI st), .long sw, .ref s1, .ref s2, .ref s3, .ref s4])), (s4, .inl (cs 1, 320, .inl fr)), (jq, .inl (cs 1, 64, .inl fq1_2))] := hD
    refine lv_iload_n hx hb dX2_distance_24 rfl (lv_at hl 3 rfl) ?_
    refine lv_lushr (v := (r_2.toUInt64 >>> (a1.toInt64.toUInt64 &&& Int64.toUInt64 63)).toInt64) hx hb dX2_distance_25 rfl ?_
    refine lv_lconst (v := 1) hx hb dX2_distance_26 (by decide) ?_
    refine lv_land hx hb dX2_distance_27 ?_
    refine lv_lconst (v := 0) hx hb dX2_distance_28 (by decide) ?_
    refine W.lcmp hx hb dX2_distance_29 ?_
    refine lv_if_eq (tgt := 35) hx hb dX2_distance_30 (by decide) (fun c_3 => ?_) (fun c_3 => ?_)
    ·
      refine lv_iinc (v := 1) (lv' := [(3, .int 1), (0, .ref aJ), (1, .int (nI b1)), (2, .int a1)]) hx hb dX2_distance_35 hl (k := 0) rfl (by decide) (by decide) rfl (fun ls hl => ?_)
      refine lv_goto (tgt := 12) hx hb dX2_distance_38 (by decide) ?_
      refine lv_iload_n hx hb dX2_distance_12 rfl (lv_at hl 0 rfl) ?_
      refine lv_iconst (v := 3) hx hb dX2_distance_13 (by decide) ?_
      refine lv_icmp_gt (tgt := 41) hx hb dX2_distance_14 (by decide) (fun h9 => absurd h9 (by decide)) (fun _ => ?_)
      refine lv_aload_n hx hb dX2_distance_17 rfl (lv_at hl 1 rfl) ?_
      refine lv_iload_n hx hb dX2_distance_18 rfl (lv_at hl 2 rfl) ?_
      refine lv_iload_n hx hb dX2_distance_19 rfl (lv_at hl 0 rfl) ?_
      refine lv_iconst (v := 0) hx hb dX2_distance_20 (by decide) ?_
      refine aft_l (wr := []) hP hD hS hA [0, 1, 2, 3, 4] [] rfl rfl (by decide) (by decide) (run_v (As := [.int (nI b1), .int 1, .int 0]) (rest := []) hFix hK hE hP hD [0, 1, 2, 3, 4] (k_X2_spread l D cs _ aJ 0 b1 1 aO aS jm jd jl jv jq jb jp jw jh js tl tw td tdr tlo o1 o2 o3 o4 o5 sw s1 s2 s3 s4 fr fq1_2 tp nc nr no na zs sc st (by first | assumption | decide | omega) (by first | assumption | decide | omega) (by first | assumption | decide | omega) (by first | assumption | decide | omega) (by first | assumption | decide | omega) (by first | assumption | decide | omega) (by first | assumption | decide | omega) (by first | assumption | decide | omega) (by first | assumption | decide | omega) (by first | assumption | decide | omega) (by first | assumption | decide | omega)) (cwV 3 hts gc_X2_distance_149_X2_spread rfl rfl rfl (by decide +kernel) ⟨Nat.le_of_ble_eq_true rfl, Nat.le_of_ble_eq_true rfl⟩) rfl (by decide) rfl rfl rfl hl.1 rfl (Nat.le_of_ble_eq_true rfl) dX2_distance_21 ⟨Nat.le_of_ble_eq_true rfl, Nat.le_of_ble_eq_true rfl⟩) (fun r_4 u_4 H locs hq_4 hP hD hS => ?_)
      obtain ⟨fq1_4, rfl⟩ : ∃ z, z = u_4 := ⟨_, rfl⟩
      have hP : va_P D vwCl [(aJ, .inr (2, [.ref aO, .ref aS, .ref jm, .int jd, .int jl, .long jv, .ref jq, .ref jb, .ref jp, .ref jw, .ref jh, .ref js])), (aO, .inr (0, [.int tl, .int (nI tp), .int tw, .int td, .int (nI nc), .int (nI nr), .int (nI no), .int (nI na), .int tdr, .int tlo, .ref o1, .ref o2, .ref o3, .ref o4, .ref o5])), (aS, .inr (6, [.int (nI zs), .int (nI sc), .int (nI st), .long sw, .ref s1, .ref s2, .ref s3, .ref s4])), (s4, .inl (cs 1, 320, .inl fr)), (jq, .inl (cs 1, 64, .inl fq1_4))] H := hP
      have hD : va_D A [(aJ, .inr (2, [.ref aO, .ref aS, .ref jm, .int jd, .int jl, .long jv, .ref jq, .ref jb, .ref jp, .ref jw, .ref jh, .ref js])), (aO, .inr (0, [.int tl, .int (nI tp), .int tw, .int td, .int (nI nc), .int (nI nr), .int (nI no), .int (nI na), .int tdr, .int tlo, .ref o1, .ref o2, .ref o3, .ref o4, .ref o5])), (aS, .inr (6, [.int (nI zs), .int (nI sc), .int (nI st), .long sw, .ref s1, .ref s2, .ref s3, .ref s4])), (s4, .inl (cs 1, 320, .inl fr)), (jq, .inl (cs 1, 64, .inl fq1_4))] := hD
      refine lv_iload_n hx hb dX2_distance_24 rfl (lv_at hl 3 rfl) ?_
      refine lv_lushr (v := (r_4.toUInt64 >>> (a1.toInt64.toUInt64 &&& Int64.toUInt64 63)).toInt64) hx hb dX2_distance_25 rfl ?_
      refine lv_lconst (v := 1) hx hb dX2_distance_26 (by decide) ?_
      refine lv_land hx hb dX2_distance_27 ?_
      refine lv_lconst (v := 0) hx hb dX2_distance_28 (by decide) ?_
      refine W.lcmp hx hb dX2_distance_29 ?_
      refine lv_if_eq (tgt := 35) hx hb dX2_distance_30 (by decide) (fun c_5 => ?_) (fun c_5 => ?_)
      ·
        refine lv_iinc (v := 2) (lv' := [(3, .int 2), (0, .ref aJ), (1, .int (nI b1)), (2, .int a1)]) hx hb dX2_distance_35 hl (k := 0) rfl (by decide) (by decide) rfl (fun ls hl => ?_)
        refine lv_goto (tgt := 12) hx hb dX2_distance_38 (by decide) ?_
        refine lv_iload_n hx hb dX2_distance_12 rfl (lv_at hl 0 rfl) ?_
        refine lv_iconst (v := 3) hx hb dX2_distance_13 (by decide) ?_
        refine lv_icmp_gt (tgt := 41) hx hb dX2_distance_14 (by decide) (fun h9 => absurd h9 (by decide)) (fun _ => ?_)
        refine lv_aload_n hx hb dX2_distance_17 rfl (lv_at hl 1 rfl) ?_
        refine lv_iload_n hx hb dX2_distance_18 rfl (lv_at hl 2 rfl) ?_
        refine lv_iload_n hx hb dX2_distance_19 rfl (lv_at hl 0 rfl) ?_
        refine lv_iconst (v := 0) hx hb dX2_distance_20 (by decide) ?_
        refine aft_l (wr := []) hP hD hS hA [0, 1, 2, 3, 4] [] rfl rfl (by decide) (by decide) (run_v (As := [.int (nI b1), .int 2, .int 0]) (rest := []) hFix hK hE hP hD [0, 1, 2, 3, 4] (k_X2_spread l D cs _ aJ 0 b1 2 aO aS jm jd jl jv jq jb jp jw jh js tl tw td tdr tlo o1 o2 o3 o4 o5 sw s1 s2 s3 s4 fr fq1_4 tp nc nr no na zs sc st (by first | assumption | decide | omega) (by first | assumption | decide | omega) (by first | assumption | decide | omega) (by first | assumption | decide | omega) (by first | assumption | decide | omega) (by first | assumption | decide | omega) (by first | assumption | decide | omega) (by first | assumption | decide | omega) (by first | assumption | decide | omega) (by first | assumption | decide | omega) (by first | assumption | decide | omega)) (cwV 3 hts gc_X2_distance_149_X2_spread rfl rfl rfl (by decide +kernel) ⟨Nat.le_of_ble_eq_true rfl, Nat.le_of_ble_eq_true rfl⟩) rfl (by decide) rfl rfl rfl hl.1 rfl (Nat.le_of_ble_eq_true rfl) dX2_distance_21 ⟨Nat.le_of_ble_eq_true rfl, Nat.le_of_ble_eq_true rfl⟩) (fun r_6 u_6 H locs hq_6 hP hD hS => ?_)
        obtain ⟨fq1_6, rfl⟩ : ∃ z, z = u_6 := ⟨_, rfl⟩
        have hP : va_P D vwCl [(aJ, .inr (2, [.ref aO, .ref aS, .ref jm, .int jd, .int jl, .long jv, .ref jq, .ref jb, .ref jp, .ref jw, .ref jh, .ref js])), (aO, .inr (0, [.int tl, .int (nI tp), .int tw, .int td, .int (nI nc), .int (nI nr), .int (nI no), .int (nI na), .int tdr, .int tlo, .ref o1, .ref o2, .ref o3, .ref o4, .ref o5])), (aS, .inr (6, [.int (nI zs), .int (nI sc), .int (nI st), .long sw, .ref s1, .ref s2, .ref s3, .ref s4])), (s4, .inl (cs 1, 320, .inl fr)), (jq, .inl (cs 1, 64, .inl fq1_6))] H := hP
        have hD : va_D A [(aJ, .inr (2, [.ref aO, .ref aS, .ref jm, .int jd, .int jl, .long jv, .ref jq, .ref jb, .ref jp, .ref jw, .ref jh, .ref js])), (aO, .inr (0, [.int tl, .int (nI tp), .int tw, .int td, .int (nI nc), .int (nI nr), .int (nI no), .int (nI na), .int tdr, .int tlo, .ref o1, .ref o2, .ref o3, .ref o4, .ref o5])), (aS, .inr (6, [.int (nI zs), .int (nI sc), .int (nI st), .long sw, .ref s1, .ref s2, .ref s3, .ref s4])), (s4, .inl (cs 1, 320, .inl fr)), (jq, .inl (cs 1, 64, .inl fq1_6))] := hD
        refine lv_iload_n hx hb dX2_distance_24 rfl (lv_at hl 3 rfl) ?_
        refine lv_lushr (v := (r_6.toUInt64 >>> (a1.toInt64.toUInt64 &&& Int64.toUInt64 63)).toInt64) hx hb dX2_distance_25 rfl ?_
        refine lv_lconst (v := 1) hx hb dX2_distance_26 (by decide) ?_
        refine lv_land hx hb dX2_distance_27 ?_
        refine lv_lconst (v := 0) hx hb dX2_distance_28 (by decide) ?_
        refine W.lcmp hx hb dX2_distance_29 ?_
        refine lv_if_eq (tgt := 35) hx hb dX2_distance_30 (by decide) (fun c_7 => ?_) (fun c_7 => ?_)
        ·
          refine lv_iinc (v := 3) (lv' := [(3, .int 3), (0, .ref aJ), (1, .int (nI b1)), (2, .int a1)]) hx hb dX2_distance_35 hl (k := 0) rfl (by decide) (by decide) rfl (fun ls hl => ?_)
          refine lv_goto (tgt := 12) hx hb dX2_distance_38 (by decide) ?_
          refine lv_iload_n hx hb dX2_distance_12 rfl (lv_at hl 0 rfl) ?_
          refine lv_iconst (v := 3) hx hb dX2_distance_13 (by decide) ?_
          refine lv_icmp_gt (tgt := 41) hx hb dX2_distance_14 (by decide) (fun h9 => absurd h9 (by decide)) (fun _ => ?_)
          refine lv_aload_n hx hb dX2_distance_17 rfl (lv_at hl 1 rfl) ?_
          refine lv_iload_n hx hb dX2_distance_18 rfl (lv_at hl 2 rfl) ?_
          refine lv_iload_n hx hb dX2_distance_19 rfl (lv_at hl 0 rfl) ?_
          refine lv_iconst (v := 0) hx hb dX2_distance_20 (by decide) ?_
          refine aft_l (wr := []) hP hD hS hA [0, 1, 2, 3, 4] [] rfl rfl (by decide) (by decide) (run_v (As := [.int (nI b1), .int 3, .int 0]) (rest := []) hFix hK hE hP hD [0, 1, 2, 3, 4] (k_X2_spread l D cs _ aJ 0 b1 3 aO aS jm jd jl jv jq jb jp jw jh js tl tw td tdr tlo o1 o2 o3 o4 o5 sw s1 s2 s3 s4 fr fq1_6 tp nc nr no na zs sc st (by first | assumption | decide | omega) (by first | assumption | decide | omega) (by first | assumption | decide | omega) (by first | assumption | decide | omega) (by first | assumption | decide | omega) (by first | assumption | decide | omega) (by first | assumption | decide | omega) (by first | assumption | decide | omega) (by first | assumption | decide | omega) (by first | assumption | decide | omega) (by first | assumption | decide | omega)) (cwV 3 hts gc_X2_distance_149_X2_spread rfl rfl rfl (by decide +kernel) ⟨Nat.le_of_ble_eq_true rfl, Nat.le_of_ble_eq_true rfl⟩) rfl (by decide) rfl rfl rfl hl.1 rfl (Nat.le_of_ble_eq_true rfl) dX2_distance_21 ⟨Nat.le_of_ble_eq_true rfl, Nat.le_of_ble_eq_true rfl⟩) (fun r_8 u_8 H locs hq_8 hP hD hS => ?_)
          obtain ⟨fq1_8, rfl⟩ : ∃ z, z = u_8 := ⟨_, rfl⟩
          have hP : va_P D vwCl [(aJ, .inr (2, [.ref aO, .ref aS, .ref jm, .int jd, .int jl, .long jv, .ref jq, .ref jb, .ref jp, .ref jw, .ref jh, .ref js])), (aO, .inr (0, [.int tl, .int (nI tp), .int tw, .int td, .int (nI nc), .int (nI nr), .int (nI no), .int (nI na), .int tdr, .int tlo, .ref o1, .ref o2, .ref o3, .ref o4, .ref o5])), (aS, .inr (6, [.int (nI zs), .int (nI sc), .int (nI st), .long sw, .ref s1, .ref s2, .ref s3, .ref s4])), (s4, .inl (cs 1, 320, .inl fr)), (jq, .inl (cs 1, 64, .inl fq1_8))] H := hP
          have hD : va_D A [(aJ, .inr (2, [.ref aO, .ref aS, .ref jm, .int jd, .int jl, .long jv, .ref jq, .ref jb, .ref jp, .ref jw, .ref jh, .ref js])), (aO, .inr (0, [.int tl, .int (nI tp), .int tw, .int td, .int (nI nc), .int (nI nr), .int (nI no), .int (nI na), .int tdr, .int tlo, .ref o1, .ref o2, .ref o3, .ref o4, .ref o5])), (aS, .inr (6, [.int (nI zs), .int (nI sc), .int (nI st), .long sw, .ref s1, .ref s2, .ref s3, .ref s4])), (s4, .inl (cs 1, 320, .inl fr)), (jq, .inl (cs 1, 64, .inl fq1_8))] := hD
          refine lv_iload_n hx hb dX2_distance_24 rfl (lv_at hl 3 rfl) ?_
          refine lv_lushr (v := (r_8.toUInt64 >>> (a1.toInt64.toUInt64 &&& Int64.toUInt64 63)).toInt64) hx hb dX2_distance_25 rfl ?_
          refine lv_lconst (v := 1) hx hb dX2_distance_26 (by decide) ?_
          refine lv_land hx hb dX2_distance_27 ?_
          refine lv_lconst (v := 0) hx hb dX2_distance_28 (by decide) ?_
          refine W.lcmp hx hb dX2_distance_29 ?_
          refine lv_if_eq (tgt := 35) hx hb dX2_distance_30 (by decide) (fun c_9 => ?_) (fun c_9 => ?_)
          ·
            refine lv_iinc (v := 4) (lv' := [(3, .int 4), (0, .ref aJ), (1, .int (nI b1)), (2, .int a1)]) hx hb dX2_distance_35 hl (k := 0) rfl (by decide) (by decide) rfl (fun ls hl => ?_)
            refine lv_goto (tgt := 12) hx hb dX2_distance_38 (by decide) ?_
            refine lv_iload_n hx hb dX2_distance_12 rfl (lv_at hl 0 rfl) ?_
            refine lv_iconst (v := 3) hx hb dX2_distance_13 (by decide) ?_
            refine lv_icmp_gt (tgt := 41) hx hb dX2_distance_14 (by decide) (fun _ => ?_) (fun h9 => absurd h9 (by decide))
            refine lv_iconst (v := (-1)) hx hb dX2_distance_41 (by decide) ?_
            exact ret_i hx hb hr hlk hS (Nat.le_of_ble_eq_true rfl) (Nat.le_of_ble_eq_true rfl) (fq1_8) (Or.inl ⟨rfl, trivial⟩) (hP.sub [0, 1, 2, 3, 4] rfl) (hD.sub [0, 1, 2, 3, 4] (by decide) rfl) dX2_distance_42
          ·
            refine lv_iload_n hx hb dX2_distance_33 rfl (lv_at hl 0 rfl) ?_
            exact ret_i hx hb hr hlk hS (Nat.le_of_ble_eq_true rfl) (Nat.le_of_ble_eq_true rfl) (fq1_8) (Or.inr (Or.inr (Or.inr (Or.inr (⟨rfl, trivial⟩))))) (hP.sub [0, 1, 2, 3, 4] rfl) (hD.sub [0, 1, 2, 3, 4] (by decide) rfl) dX2_distance_34
        ·
          refine lv_iload_n hx hb dX2_distance_33 rfl (lv_at hl 0 rfl) ?_
          exact ret_i hx hb hr hlk hS (Nat.le_of_ble_eq_true rfl) (Nat.le_of_ble_eq_true rfl) (fq1_6) (Or.inr (Or.inr (Or.inr (Or.inl ⟨rfl, trivial⟩)))) (hP.sub [0, 1, 2, 3, 4] rfl) (hD.sub [0, 1, 2, 3, 4] (by decide) rfl) dX2_distance_34
      ·
        refine lv_iload_n hx hb dX2_distance_33 rfl (lv_at hl 0 rfl) ?_
        exact ret_i hx hb hr hlk hS (Nat.le_of_ble_eq_true rfl) (Nat.le_of_ble_eq_true rfl) (fq1_4) (Or.inr (Or.inr (Or.inl ⟨rfl, trivial⟩))) (hP.sub [0, 1, 2, 3, 4] rfl) (hD.sub [0, 1, 2, 3, 4] (by decide) rfl) dX2_distance_34
    ·
      refine lv_iload_n hx hb dX2_distance_33 rfl (lv_at hl 0 rfl) ?_
      exact ret_i hx hb hr hlk hS (Nat.le_of_ble_eq_true rfl) (Nat.le_of_ble_eq_true rfl) (fq1_2) (Or.inr (Or.inl ⟨rfl, trivial⟩)) (hP.sub [0, 1, 2, 3, 4] rfl) (hD.sub [0, 1, 2, 3, 4] (by decide) rfl) dX2_distance_34
  ·
    refine lv_if_ne (tgt := 10) hx hb dX2_distance_5 (by decide) (fun h9 => absurd h9 (by decide)) (fun _ => ?_)
    refine lv_iconst (v := (-1)) hx hb dX2_distance_8 (by decide) ?_
    exact ret_i hx hb hr hlk hS (Nat.le_of_ble_eq_true rfl) (Nat.le_of_ble_eq_true rfl) (fq) (Or.inl ⟨rfl, trivial⟩) (hP.sub [4, 0, 1, 2, 3] rfl) (hD.sub [4, 0, 1, 2, 3] (by decide) rfl) dX2_distance_9

set_option maxHeartbeats 4000000 in
set_option maxRecDepth 100000 in
theorem k_X2_firstStep (l : Launch) (D : va_G) (cs : Nat → ClassId) (sz : Nat) (aJ : Nat) (a1 : Int32) (b1 : Nat) (aO : Nat) (aS : Nat) (jm : Nat) (jd : Int32) (jl : Int32) (jv : Int64) (jq : Nat) (jb : Nat) (jp : Nat) (jw : Nat) (jh : Nat) (js : Nat) (tl : Int32) (tw : Int32) (td : Int32) (tdr : Int32) (tlo : Int32) (o1 : Nat) (o2 : Nat) (o3 : Nat) (o4 : Nat) (o5 : Nat) (sw : Int64) (s1 : Nat) (s2 : Nat) (s3 : Nat) (s4 : Nat) (fr : Nat → Int32) (fq : Nat → Int32) (tp : Nat) (nc : Nat) (nr : Nat) (no : Nat) (na : Nat) (zs : Nat) (sc : Nat) (st : Nat) (htp : tp ≤ 3) (hnc : nc ≤ 3) (hnr : nr ≤ 5) (hno : no ≤ 5) (hna : na ≤ 20) (hzs : zs ≤ 64) (hsc : sc ≤ 3) (hst : st ≤ 3) (hres : RES fr) (ha_b1 : b1 < 64) : Mi l D cs yX2_firstStep W_X2_firstStep 3 77 0 0 [.ref aJ, .int (nI b1), .int a1] [(aJ, .inr (2, [.ref aO, .ref aS, .ref jm, .int jd, .int jl, .long jv, .ref jq, .ref jb, .ref jp, .ref jw, .ref jh, .ref js])), (aO, .inr (0, [.int tl, .int (nI tp), .int tw, .int td, .int (nI nc), .int (nI nr), .int (nI no), .int (nI na), .int tdr, .int tlo, .ref o1, .ref o2, .ref o3, .ref o4, .ref o5])), (aS, .inr (6, [.int (nI zs), .int (nI sc), .int (nI st), .long sw, .ref s1, .ref s2, .ref s3, .ref s4])), (s4, .inl (cs 1, 320, .inl fr)), (jq, .inl (cs 1, 64, .inl fq))] sz (fun (r : Int32) (u : (Nat → Int32)) => True) (fun (u : (Nat → Int32)) => [(aJ, .inr (2, [.ref aO, .ref aS, .ref jm, .int jd, .int jl, .long jv, .ref jq, .ref jb, .ref jp, .ref jw, .ref jh, .ref js])), (aO, .inr (0, [.int tl, .int (nI tp), .int tw, .int td, .int (nI nc), .int (nI nr), .int (nI no), .int (nI na), .int tdr, .int tlo, .ref o1, .ref o2, .ref o3, .ref o4, .ref o5])), (aS, .inr (6, [.int (nI zs), .int (nI sc), .int (nI st), .long sw, .ref s1, .ref s2, .ref s3, .ref s4])), (s4, .inl (cs 1, 320, .inl fr)), (jq, .inl (cs 1, 64, .inl u))]) := by
  refine ent (D := D) (cs := cs) (y := yX2_firstStep) (ws := W_X2_firstStep) (As := [.ref aJ, .int (nI b1), .int a1]) (W0 := [(aJ, .inr (2, [.ref aO, .ref aS, .ref jm, .int jd, .int jl, .long jv, .ref jq, .ref jb, .ref jp, .ref jw, .ref jh, .ref js])), (aO, .inr (0, [.int tl, .int (nI tp), .int tw, .int td, .int (nI nc), .int (nI nr), .int (nI no), .int (nI na), .int tdr, .int tlo, .ref o1, .ref o2, .ref o3, .ref o4, .ref o5])), (aS, .inr (6, [.int (nI zs), .int (nI sc), .int (nI st), .long sw, .ref s1, .ref s2, .ref s3, .ref s4])), (s4, .inl (cs 1, 320, .inl fr)), (jq, .inl (cs 1, 64, .inl fq))]) (Qx := fun A => va_Qi (fun (r : Int32) (u : (Nat → Int32)) => True) (mpost D A (fun (u : (Nat → Int32)) => [(aJ, .inr (2, [.ref aO, .ref aS, .ref jm, .int jd, .int jl, .long jv, .ref jq, .ref jb, .ref jp, .ref jw, .ref jh, .ref js])), (aO, .inr (0, [.int tl, .int (nI tp), .int tw, .int td, .int (nI nc), .int (nI nr), .int (nI no), .int (nI na), .int tdr, .int tlo, .ref o1, .ref o2, .ref o3, .ref o4, .ref o5])), (aS, .inr (6, [.int (nI zs), .int (nI sc), .int (nI st), .long sw, .ref s1, .ref s2, .ref s3, .ref s4])), (s4, .inl (cs 1, 320, .inl fr)), (jq, .inl (cs 1, 64, .inl u))])) A) (maxL := 6) (ret := (some .int)) (by decide) rfl (Nat.le_of_ble_eq_true rfl) ?_
  intro p e s m below meth c A ls hx hb hr hml hlk hown hts hin hK hE hP hD hA hS hl
  have hl : lv_has ls 6 [(0, .ref aJ), (1, .int (nI b1)), (2, .int a1)] := hl
  generalize hHe : s.heap = H at hP
  have hS : va_S A s.heap H [] := hHe ▸ hS
  generalize hLe : ([] : List Loc) = locs at hS ⊢
  have htw : ∀ w ∈ O_X2_firstStep, w.before ([.ref aJ, .int (nI b1), .int a1] : List Value).toArray s = true := fun w h => hts w (List.mem_cons_of_mem _ (List.mem_append_left _ h))
  have hFix := (⟨hx, hb, hml, hown, hts⟩ : CallFix p m c _ _ s _ _ _)
  refine lv_aload_n hx hb dX2_firstStep_0 rfl (lv_at hl 0 rfl) ?_
  refine lv_iload_n hx hb dX2_firstStep_1 rfl (lv_at hl 1 rfl) ?_
  refine lv_iload_n hx hb dX2_firstStep_2 rfl (lv_at hl 2 rfl) ?_
  refine aft_i (wr := []) hP hD hS hA [0, 1, 2, 3, 4] [] rfl rfl (by decide) (by decide) (run_v (As := [.int (nI b1), .int a1]) (rest := []) hFix hK hE hP hD [0, 1, 2, 3, 4] (k_X2_distance l D cs _ aJ a1 b1 aO aS jm jd jl jv jq jb jp jw jh js tl tw td tdr tlo o1 o2 o3 o4 o5 sw s1 s2 s3 s4 fr fq tp nc nr no na zs sc st (by first | assumption | decide | omega) (by first | assumption | decide | omega) (by first | assumption | decide | omega) (by first | assumption | decide | omega) (by first | assumption | decide | omega) (by first | assumption | decide | omega) (by first | assumption | decide | omega) (by first | assumption | decide | omega) (by first | assumption | decide | omega) (by first | assumption | decide | omega)) (cwV 2 hts gc_X2_firstStep_153_X2_distance rfl rfl rfl (by decide +kernel) ⟨Nat.le_of_ble_eq_true rfl, Nat.le_of_ble_eq_true rfl⟩) rfl (by decide) rfl rfl rfl hl.1 rfl (Nat.le_of_ble_eq_true rfl) dX2_firstStep_3 ⟨Nat.le_of_ble_eq_true rfl, Nat.le_of_ble_eq_true rfl⟩) (fun r_1 u_1 H locs hq_1 hP hD hS => ?_)
  obtain ⟨fq1_1, rfl⟩ : ∃ z, z = u_1 := ⟨_, rfl⟩
  have hP : va_P D vwCl [(aJ, .inr (2, [.ref aO, .ref aS, .ref jm, .int jd, .int jl, .long jv, .ref jq, .ref jb, .ref jp, .ref jw, .ref jh, .ref js])), (aO, .inr (0, [.int tl, .int (nI tp), .int tw, .int td, .int (nI nc), .int (nI nr), .int (nI no), .int (nI na), .int tdr, .int tlo, .ref o1, .ref o2, .ref o3, .ref o4, .ref o5])), (aS, .inr (6, [.int (nI zs), .int (nI sc), .int (nI st), .long sw, .ref s1, .ref s2, .ref s3, .ref s4])), (s4, .inl (cs 1, 320, .inl fr)), (jq, .inl (cs 1, 64, .inl fq1_1))] H := hP
  have hD : va_D A [(aJ, .inr (2, [.ref aO, .ref aS, .ref jm, .int jd, .int jl, .long jv, .ref jq, .ref jb, .ref jp, .ref jw, .ref jh, .ref js])), (aO, .inr (0, [.int tl, .int (nI tp), .int tw, .int td, .int (nI nc), .int (nI nr), .int (nI no), .int (nI na), .int tdr, .int tlo, .ref o1, .ref o2, .ref o3, .ref o4, .ref o5])), (aS, .inr (6, [.int (nI zs), .int (nI sc), .int (nI st), .long sw, .ref s1, .ref s2, .ref s3, .ref s4])), (s4, .inl (cs 1, 320, .inl fr)), (jq, .inl (cs 1, 64, .inl fq1_1))] := hD
  replace hq_1 : ((r_1 = (-1) ∧ True) ∨ (r_1 = 0 ∧ True) ∨ (r_1 = 1 ∧ True) ∨ (r_1 = 2 ∧ True) ∨ (r_1 = 3 ∧ True)) := hq_1
  rcases hq_1 with ⟨rfl, hq_1⟩ | ⟨rfl, hq_1⟩ | ⟨rfl, hq_1⟩ | ⟨rfl, hq_1⟩ | ⟨rfl, hq_1⟩
  ·
    refine lv_iconst (v := 1) hx hb dX2_firstStep_6 (by decide) ?_
    refine lv_isub hx hb dX2_firstStep_7 ?_
    refine cf_i (-2) (by decide) ?_
    refine lv_istore_n (lv' := [(3, .int (-2)), (0, .ref aJ), (1, .int (nI b1)), (2, .int a1)]) hx hb dX2_firstStep_8 rfl hl (by decide) rfl (fun ls hl => ?_)
    refine lv_iload_n hx hb dX2_firstStep_9 rfl (lv_at hl 0 rfl) ?_
    refine lv_if_ge (tgt := 15) hx hb dX2_firstStep_10 (by decide) (fun h9 => absurd h9 (by decide)) (fun _ => ?_)
    refine lv_iconst (v := (-1)) hx hb dX2_firstStep_13 (by decide) ?_
    exact ret_i hx hb hr hlk hS (Nat.le_of_ble_eq_true rfl) (Nat.le_of_ble_eq_true rfl) (fq1_1) (trivial) (hP.sub [0, 1, 2, 3, 4] rfl) (hD.sub [0, 1, 2, 3, 4] (by decide) rfl) dX2_firstStep_14
  ·
    refine lv_iconst (v := 1) hx hb dX2_firstStep_6 (by decide) ?_
    refine lv_isub hx hb dX2_firstStep_7 ?_
    refine cf_i (-1) (by decide) ?_
    refine lv_istore_n (lv' := [(3, .int (-1)), (0, .ref aJ), (1, .int (nI b1)), (2, .int a1)]) hx hb dX2_firstStep_8 rfl hl (by decide) rfl (fun ls hl => ?_)
    refine lv_iload_n hx hb dX2_firstStep_9 rfl (lv_at hl 0 rfl) ?_
    refine lv_if_ge (tgt := 15) hx hb dX2_firstStep_10 (by decide) (fun h9 => absurd h9 (by decide)) (fun _ => ?_)
    refine lv_iconst (v := (-1)) hx hb dX2_firstStep_13 (by decide) ?_
    exact ret_i hx hb hr hlk hS (Nat.le_of_ble_eq_true rfl) (Nat.le_of_ble_eq_true rfl) (fq1_1) (trivial) (hP.sub [0, 1, 2, 3, 4] rfl) (hD.sub [0, 1, 2, 3, 4] (by decide) rfl) dX2_firstStep_14
  ·
    refine lv_iconst (v := 1) hx hb dX2_firstStep_6 (by decide) ?_
    refine lv_isub hx hb dX2_firstStep_7 ?_
    refine cf_i 0 (by decide) ?_
    refine lv_istore_n (lv' := [(3, .int 0), (0, .ref aJ), (1, .int (nI b1)), (2, .int a1)]) hx hb dX2_firstStep_8 rfl hl (by decide) rfl (fun ls hl => ?_)
    refine lv_iload_n hx hb dX2_firstStep_9 rfl (lv_at hl 0 rfl) ?_
    refine lv_if_ge (tgt := 15) hx hb dX2_firstStep_10 (by decide) (fun _ => ?_) (fun h9 => absurd h9 (by decide))
    refine lv_iconst (v := 0) hx hb dX2_firstStep_15 (by decide) ?_
    refine lv_istore (lv' := [(4, .int 0), (3, .int 0), (0, .ref aJ), (1, .int (nI b1)), (2, .int a1)]) hx hb dX2_firstStep_16 hl (by decide) rfl (fun ls hl => ?_)
    have lp_3 : ∀ (nfu : Nat) (i_2 : Nat) (m0_2 : Nat → Int32) (H : Heap) (locs : List Loc) (ls : Array Slot) (hi_2 : i_2 ≤ no), no - i_2 < nfu → va_P D vwCl [(aJ, .inr (2, [.ref aO, .ref aS, .ref jm, .int jd, .int jl, .long jv, .ref jq, .ref jb, .ref jp, .ref jw, .ref jh, .ref js])), (aO, .inr (0, [.int tl, .int (nI tp), .int tw, .int td, .int (nI nc), .int (nI nr), .int (nI no), .int (nI na), .int tdr, .int tlo, .ref o1, .ref o2, .ref o3, .ref o4, .ref o5])), (aS, .inr (6, [.int (nI zs), .int (nI sc), .int (nI st), .long sw, .ref s1, .ref s2, .ref s3, .ref s4])), (s4, .inl (cs 1, 320, .inl fr)), (jq, .inl (cs 1, 64, .inl m0_2))] H → va_D A [(aJ, .inr (2, [.ref aO, .ref aS, .ref jm, .int jd, .int jl, .long jv, .ref jq, .ref jb, .ref jp, .ref jw, .ref jh, .ref js])), (aO, .inr (0, [.int tl, .int (nI tp), .int tw, .int td, .int (nI nc), .int (nI nr), .int (nI no), .int (nI na), .int tdr, .int tlo, .ref o1, .ref o2, .ref o3, .ref o4, .ref o5])), (aS, .inr (6, [.int (nI zs), .int (nI sc), .int (nI st), .long sw, .ref s1, .ref s2, .ref s3, .ref s4])), (s4, .inl (cs 1, 320, .inl fr)), (jq, .inl (cs 1, 64, .inl m0_2))] → va_S A s.heap H locs → lv_has ls 6 [(4, .int (nI i_2)), (3, .int 0), (0, .ref aJ), (1, .int (nI b1)), (2, .int a1)] → W p l e (mRm 3 0 0 77) s m ([.ref aJ, .int (nI b1), .int a1] : List Value).toArray below meth c H locs 0 0 (MQ below (va_Qi (fun (r : Int32) (u : (Nat → Int32)) => True) (mpost D A (fun (u : (Nat → Int32)) => [(aJ, .inr (2, [.ref aO, .ref aS, .ref jm, .int jd, .int jl, .long jv, .ref jq, .ref jb, .ref jp, .ref jw, .ref jh, .ref js])), (aO, .inr (0, [.int tl, .int (nI tp), .int tw, .int td, .int (nI nc), .int (nI nr), .int (nI no), .int (nI na), .int tdr, .int tlo, .ref o1, .ref o2, .ref o3, .ref o4, .ref o5])), (aS, .inr (6, [.int (nI zs), .int (nI sc), .int (nI st), .long sw, .ref s1, .ref s2, .ref s3, .ref s4])), (s4, .inl (cs 1, 320, .inl fr)), (jq, .inl (cs 1, 64, .inl u))])) A) ([.ref aJ, .int (nI b1), .int a1] : List Value).toArray s 0 0 A) (F0 m 18 ls []) := by
      intro nfu
      induction nfu with
      | zero => intro i_2 m0_2 H locs ls hi_2 hmu; exact absurd hmu (Nat.not_lt_zero _)
      | succ nfu ih =>
        intro i_2 m0_2 H locs ls hi_2 hmu hP hD hS hl
        have ih_lp_3 := @ih
        refine lv_iload hx hb dX2_firstStep_18 (lv_at hl 0 rfl) ?_
        refine lv_aload_n hx hb dX2_firstStep_20 rfl (lv_at hl 2 rfl) ?_
        refine va_get (D := D) (ci := 2) (v := .ref aO) (C := RX2) (T := TX2) (N := 12) hx hb hts iuX2_firstStep_X2 hown hK hP 0 rfl rfl 0 (by decide) (htw (.fieldLink RX2 49 "MergeJudge$Judge" "told" "LMergeJudge$Base;") (List.mem_of_getElem? (i := 4) rfl)) (fun _ h9 => h9) rfl dX2_firstStep_21 ?_
        refine va_get (D := D) (ci := 0) (v := .int (nI no)) (C := RX0) (T := TX0) (N := 15) hx hb hts iuX2_firstStep_X0 hown hK hP 1 rfl rfl 6 (by decide) (htw (.fieldLink RX2 133 "MergeJudge$Base" "ops" "I") (List.mem_of_getElem? (i := 5) rfl)) (fun _ h9 => h9) rfl dX2_firstStep_24 ?_
        refine lv_icmp_ge (tgt := 71) hx hb dX2_firstStep_27 (by decide) (fun c_4 => ?_) (fun c_4 => ?_)
        ·
          have hn_4 := bge_t (a := i_2) (b := no) c_4 (by omega) (by omega)
          refine lv_iconst (v := (-1)) hx hb dX2_firstStep_71 (by decide) ?_
          exact ret_i hx hb hr hlk hS (Nat.le_of_ble_eq_true rfl) (Nat.le_of_ble_eq_true rfl) (m0_2) (trivial) (hP.sub [0, 1, 2, 3, 4] rfl) (hD.sub [0, 1, 2, 3, 4] (by decide) rfl) dX2_firstStep_72
        ·
          have hn_4 := bge_f (a := i_2) (b := no) c_4 (by omega) (by omega)
          refine lv_aload_n hx hb dX2_firstStep_30 rfl (lv_at hl 2 rfl) ?_
          refine lv_iload hx hb dX2_firstStep_31 (lv_at hl 0 rfl) ?_
          refine lv_iload_n hx hb dX2_firstStep_33 rfl (lv_at hl 3 rfl) ?_
          refine aft_i (wr := [(aO, .inr (0, [.int tl, .int (nI tp), .int tw, .int td, .int (nI nc), .int (nI nr), .int (nI no), .int (nI na), .int tdr, .int tlo, .ref o1, .ref o2, .ref o3, .ref o4, .ref o5])), (jq, .inl (cs 1, 64, .inl m0_2))]) hP hD hS hA [0, 2, 3] [1, 4] rfl rfl (by decide) (by decide) (run_v (As := [.int (nI i_2), .int (nI b1)]) (rest := []) hFix hK hE hP hD [0, 2, 3] (k_X2_outcome l D cs _ aJ i_2 b1 aO aS jm jd jl jv jq jb jp jw jh js sw s1 s2 s3 s4 fr zs sc st (by first | assumption | decide | omega) (by first | assumption | decide | omega) (by first | assumption | decide | omega) (by first | assumption | decide | omega) (by first | assumption | decide | omega) (by first | assumption | decide | omega)) (cwV 2 hts gc_X2_firstStep_136_X2_outcome rfl rfl rfl (by decide +kernel) ⟨Nat.le_of_ble_eq_true rfl, Nat.le_of_ble_eq_true rfl⟩) rfl (by decide) rfl rfl rfl hl.1 rfl (Nat.le_of_ble_eq_true rfl) dX2_firstStep_34 ⟨Nat.le_of_ble_eq_true rfl, Nat.le_of_ble_eq_true rfl⟩) (fun r_5 u_5 H locs hq_5 hP hD hS => ?_)
          obtain ⟨j_5, rfl⟩ : ∃ z, z = u_5 := ⟨_, rfl⟩
          have hP : va_P D vwCl [(aO, .inr (0, [.int tl, .int (nI tp), .int tw, .int td, .int (nI nc), .int (nI nr), .int (nI no), .int (nI na), .int tdr, .int tlo, .ref o1, .ref o2, .ref o3, .ref o4, .ref o5])), (jq, .inl (cs 1, 64, .inl m0_2)), (aJ, .inr (2, [.ref aO, .ref aS, .ref jm, .int jd, .int jl, .long jv, .ref jq, .ref jb, .ref jp, .ref jw, .ref jh, .ref js])), (aS, .inr (6, [.int (nI zs), .int (nI sc), .int (nI st), .long sw, .ref s1, .ref s2, .ref s3, .ref s4])), (s4, .inl (cs 1, 320, .inl fr))] H := hP
          have hD : va_D A [(aO, .inr (0, [.int tl, .int (nI tp), .int tw, .int td, .int (nI nc), .int (nI nr), .int (nI no), .int (nI na), .int tdr, .int tlo, .ref o1, .ref o2, .ref o3, .ref o4, .ref o5])), (jq, .inl (cs 1, 64, .inl m0_2)), (aJ, .inr (2, [.ref aO, .ref aS, .ref jm, .int jd, .int jl, .long jv, .ref jq, .ref jb, .ref jp, .ref jw, .ref jh, .ref js])), (aS, .inr (6, [.int (nI zs), .int (nI sc), .int (nI st), .long sw, .ref s1, .ref s2, .ref s3, .ref s4])), (s4, .inl (cs 1, 320, .inl fr))] := hD
          replace hq_5 : ((r_5 = (-1) ∧ True) ∨ (r_5 = nI j_5 ∧ j_5 < 64)) := hq_5
          rcases hq_5 with ⟨rfl, hq_5⟩ | ⟨rfl, hq_5⟩
          ·
            refine lv_istore (lv' := [(5, .int (-1)), (4, .int (nI i_2)), (3, .int 0), (0, .ref aJ), (1, .int (nI b1)), (2, .int a1)]) hx hb dX2_firstStep_37 hl (by decide) rfl (fun ls hl => ?_)
            refine lv_iload hx hb dX2_firstStep_39 (lv_at hl 0 rfl) ?_
            refine lv_iconst (v := (-1)) hx hb dX2_firstStep_41 (by decide) ?_
            refine lv_icmp_eq (tgt := 65) hx hb dX2_firstStep_42 (by decide) (fun _ => ?_) (fun h9 => absurd h9 (by decide))
            refine lv_iinc (v := (nI (i_2 + 1))) (lv' := [(4, .int (nI (i_2 + 1))), (5, .int (-1)), (3, .int 0), (0, .ref aJ), (1, .int (nI b1)), (2, .int a1)]) hx hb dX2_firstStep_65 hl (k := 1) rfl (nI_1 _) (by decide) rfl (fun ls hl => ?_)
            refine lv_goto (tgt := 18) hx hb dX2_firstStep_68 (by decide) ?_
            exact ih_lp_3 (i_2 + 1) m0_2 H locs ls (by omega) (by omega) (hP.sub [2, 0, 3, 4, 1] rfl) (hD.sub [2, 0, 3, 4, 1] (by decide) rfl) hS (lv_sub hl [0, 2, 3, 4, 5] rfl)
          ·
            refine lv_istore (lv' := [(5, .int (nI j_5)), (4, .int (nI i_2)), (3, .int 0), (0, .ref aJ), (1, .int (nI b1)), (2, .int a1)]) hx hb dX2_firstStep_37 hl (by decide) rfl (fun ls hl => ?_)
            refine lv_iload hx hb dX2_firstStep_39 (lv_at hl 0 rfl) ?_
            refine lv_iconst (v := (-1)) hx hb dX2_firstStep_41 (by decide) ?_
            refine lv_icmp_eq (tgt := 65) hx hb dX2_firstStep_42 (by decide) (fun h9 => False.elim (nneg_eq (a := j_5) h9 (by omega) (by decide))) (fun _ => ?_)
            refine lv_aload_n hx hb dX2_firstStep_45 rfl (lv_at hl 3 rfl) ?_
            refine lv_iload hx hb dX2_firstStep_46 (lv_at hl 0 rfl) ?_
            refine lv_iload_n hx hb dX2_firstStep_48 rfl (lv_at hl 2 rfl) ?_
            refine lv_iconst (v := 0) hx hb dX2_firstStep_49 (by decide) ?_
            refine aft_l (wr := []) hP hD hS hA [2, 0, 3, 4, 1] [] rfl rfl (by decide) (by decide) (run_v (As := [.int (nI j_5), .int 0, .int 0]) (rest := []) hFix hK hE hP hD [2, 0, 3, 4, 1] (k_X2_spread l D cs _ aJ 0 j_5 0 aO aS jm jd jl jv jq jb jp jw jh js tl tw td tdr tlo o1 o2 o3 o4 o5 sw s1 s2 s3 s4 fr m0_2 tp nc nr no na zs sc st (by first | assumption | decide | omega) (by first | assumption | decide | omega) (by first | assumption | decide | omega) (by first | assumption | decide | omega) (by first | assumption | decide | omega) (by first | assumption | decide | omega) (by first | assumption | decide | omega) (by first | assumption | decide | omega) (by first | assumption | decide | omega) (by first | assumption | decide | omega) (by first | assumption | decide | omega)) (cwV 3 hts gc_X2_firstStep_149_X2_spread rfl rfl rfl (by decide +kernel) ⟨Nat.le_of_ble_eq_true rfl, Nat.le_of_ble_eq_true rfl⟩) rfl (by decide) rfl rfl rfl hl.1 rfl (Nat.le_of_ble_eq_true rfl) dX2_firstStep_50 ⟨Nat.le_of_ble_eq_true rfl, Nat.le_of_ble_eq_true rfl⟩) (fun r_7 u_7 H locs hq_7 hP hD hS => ?_)
            obtain ⟨fq1_7, rfl⟩ : ∃ z, z = u_7 := ⟨_, rfl⟩
            have hP : va_P D vwCl [(aJ, .inr (2, [.ref aO, .ref aS, .ref jm, .int jd, .int jl, .long jv, .ref jq, .ref jb, .ref jp, .ref jw, .ref jh, .ref js])), (aO, .inr (0, [.int tl, .int (nI tp), .int tw, .int td, .int (nI nc), .int (nI nr), .int (nI no), .int (nI na), .int tdr, .int tlo, .ref o1, .ref o2, .ref o3, .ref o4, .ref o5])), (aS, .inr (6, [.int (nI zs), .int (nI sc), .int (nI st), .long sw, .ref s1, .ref s2, .ref s3, .ref s4])), (s4, .inl (cs 1, 320, .inl fr)), (jq, .inl (cs 1, 64, .inl fq1_7))] H := hP
            have hD : va_D A [(aJ, .inr (2, [.ref aO, .ref aS, .ref jm, .int jd, .int jl, .long jv, .ref jq, .ref jb, .ref jp, .ref jw, .ref jh, .ref js])), (aO, .inr (0, [.int tl, .int (nI tp), .int tw, .int td, .int (nI nc), .int (nI nr), .int (nI no), .int (nI na), .int tdr, .int tlo, .ref o1, .ref o2, .ref o3, .ref o4, .ref o5])), (aS, .inr (6, [.int (nI zs), .int (nI sc), .int (nI st), .long sw, .ref s1, .ref s2, .ref s3, .ref s4])), (s4, .inl (cs 1, 320, .inl fr)), (jq, .inl (cs 1, 64, .inl fq1_7))] := hD
            refine lv_iload_n hx hb dX2_firstStep_53 rfl (lv_at hl 5 rfl) ?_
            refine lv_lushr (v := (r_7.toUInt64 >>> (a1.toInt64.toUInt64 &&& Int64.toUInt64 63)).toInt64) hx hb dX2_firstStep_54 rfl ?_
            refine lv_lconst (v := 1) hx hb dX2_firstStep_55 (by decide) ?_
            refine lv_land hx hb dX2_firstStep_56 ?_
            refine lv_lconst (v := 0) hx hb dX2_firstStep_57 (by decide) ?_
            refine W.lcmp hx hb dX2_firstStep_58 ?_
            refine lv_if_eq (tgt := 65) hx hb dX2_firstStep_59 (by decide) (fun c_8 => ?_) (fun c_8 => ?_)
            ·
              refine lv_iinc (v := (nI (i_2 + 1))) (lv' := [(4, .int (nI (i_2 + 1))), (5, .int (nI j_5)), (3, .int 0), (0, .ref aJ), (1, .int (nI b1)), (2, .int a1)]) hx hb dX2_firstStep_65 hl (k := 1) rfl (nI_1 _) (by decide) rfl (fun ls hl => ?_)
              refine lv_goto (tgt := 18) hx hb dX2_firstStep_68 (by decide) ?_
              exact ih_lp_3 (i_2 + 1) fq1_7 H locs ls (by omega) (by omega) (hP.sub [0, 1, 2, 3, 4] rfl) (hD.sub [0, 1, 2, 3, 4] (by decide) rfl) hS (lv_sub hl [0, 2, 3, 4, 5] rfl)
            ·
              refine lv_iload hx hb dX2_firstStep_62 (lv_at hl 1 rfl) ?_
              exact ret_i hx hb hr hlk hS (Nat.le_of_ble_eq_true rfl) (Nat.le_of_ble_eq_true rfl) (fq1_7) (trivial) (hP.sub [0, 1, 2, 3, 4] rfl) (hD.sub [0, 1, 2, 3, 4] (by decide) rfl) dX2_firstStep_64
    exact lp_3 _ 0 fq1_1 H locs ls (by omega) (Nat.lt_succ_self _) (hP.sub [0, 1, 2, 3, 4] rfl) (hD.sub [0, 1, 2, 3, 4] (by decide) rfl) hS (lv_sub hl [0, 1, 2, 3, 4] rfl)
  ·
    refine lv_iconst (v := 1) hx hb dX2_firstStep_6 (by decide) ?_
    refine lv_isub hx hb dX2_firstStep_7 ?_
    refine cf_i 1 (by decide) ?_
    refine lv_istore_n (lv' := [(3, .int 1), (0, .ref aJ), (1, .int (nI b1)), (2, .int a1)]) hx hb dX2_firstStep_8 rfl hl (by decide) rfl (fun ls hl => ?_)
    refine lv_iload_n hx hb dX2_firstStep_9 rfl (lv_at hl 0 rfl) ?_
    refine lv_if_ge (tgt := 15) hx hb dX2_firstStep_10 (by decide) (fun _ => ?_) (fun h9 => absurd h9 (by decide))
    refine lv_iconst (v := 0) hx hb dX2_firstStep_15 (by decide) ?_
    refine lv_istore (lv' := [(4, .int 0), (3, .int 1), (0, .ref aJ), (1, .int (nI b1)), (2, .int a1)]) hx hb dX2_firstStep_16 hl (by decide) rfl (fun ls hl => ?_)
    have lp_10 : ∀ (nfu : Nat) (i_9 : Nat) (m0_9 : Nat → Int32) (H : Heap) (locs : List Loc) (ls : Array Slot) (hi_9 : i_9 ≤ no), no - i_9 < nfu → va_P D vwCl [(aJ, .inr (2, [.ref aO, .ref aS, .ref jm, .int jd, .int jl, .long jv, .ref jq, .ref jb, .ref jp, .ref jw, .ref jh, .ref js])), (aO, .inr (0, [.int tl, .int (nI tp), .int tw, .int td, .int (nI nc), .int (nI nr), .int (nI no), .int (nI na), .int tdr, .int tlo, .ref o1, .ref o2, .ref o3, .ref o4, .ref o5])), (aS, .inr (6, [.int (nI zs), .int (nI sc), .int (nI st), .long sw, .ref s1, .ref s2, .ref s3, .ref s4])), (s4, .inl (cs 1, 320, .inl fr)), (jq, .inl (cs 1, 64, .inl m0_9))] H → va_D A [(aJ, .inr (2, [.ref aO, .ref aS, .ref jm, .int jd, .int jl, .long jv, .ref jq, .ref jb, .ref jp, .ref jw, .ref jh, .ref js])), (aO, .inr (0, [.int tl, .int (nI tp), .int tw, .int td, .int (nI nc), .int (nI nr), .int (nI no), .int (nI na), .int tdr, .int tlo, .ref o1, .ref o2, .ref o3, .ref o4, .ref o5])), (aS, .inr (6, [.int (nI zs), .int (nI sc), .int (nI st), .long sw, .ref s1, .ref s2, .ref s3, .ref s4])), (s4, .inl (cs 1, 320, .inl fr)), (jq, .inl (cs 1, 64, .inl m0_9))] → va_S A s.heap H locs → lv_has ls 6 [(4, .int (nI i_9)), (3, .int 1), (0, .ref aJ), (1, .int (nI b1)), (2, .int a1)] → W p l e (mRm 3 0 0 77) s m ([.ref aJ, .int (nI b1), .int a1] : List Value).toArray below meth c H locs 0 0 (MQ below (va_Qi (fun (r : Int32) (u : (Nat → Int32)) => True) (mpost D A (fun (u : (Nat → Int32)) => [(aJ, .inr (2, [.ref aO, .ref aS, .ref jm, .int jd, .int jl, .long jv, .ref jq, .ref jb, .ref jp, .ref jw, .ref jh, .ref js])), (aO, .inr (0, [.int tl, .int (nI tp), .int tw, .int td, .int (nI nc), .int (nI nr), .int (nI no), .int (nI na), .int tdr, .int tlo, .ref o1, .ref o2, .ref o3, .ref o4, .ref o5])), (aS, .inr (6, [.int (nI zs), .int (nI sc), .int (nI st), .long sw, .ref s1, .ref s2, .ref s3, .ref s4])), (s4, .inl (cs 1, 320, .inl fr)), (jq, .inl (cs 1, 64, .inl u))])) A) ([.ref aJ, .int (nI b1), .int a1] : List Value).toArray s 0 0 A) (F0 m 18 ls []) := by
      intro nfu
      induction nfu with
      | zero => intro i_9 m0_9 H locs ls hi_9 hmu; exact absurd hmu (Nat.not_lt_zero _)
      | succ nfu ih =>
        intro i_9 m0_9 H locs ls hi_9 hmu hP hD hS hl
        have ih_lp_10 := @ih
        refine lv_iload hx hb dX2_firstStep_18 (lv_at hl 0 rfl) ?_
        refine lv_aload_n hx hb dX2_firstStep_20 rfl (lv_at hl 2 rfl) ?_
        refine va_get (D := D) (ci := 2) (v := .ref aO) (C := RX2) (T := TX2) (N := 12) hx hb hts iuX2_firstStep_X2 hown hK hP 0 rfl rfl 0 (by decide) (htw (.fieldLink RX2 49 "MergeJudge$Judge" "told" "LMergeJudge$Base;") (List.mem_of_getElem? (i := 4) rfl)) (fun _ h9 => h9) rfl dX2_firstStep_21 ?_
        refine va_get (D := D) (ci := 0) (v := .int (nI no)) (C := RX0) (T := TX0) (N := 15) hx hb hts iuX2_firstStep_X0 hown hK hP 1 rfl rfl 6 (by decide) (htw (.fieldLink RX2 133 "MergeJudge$Base" "ops" "I") (List.mem_of_getElem? (i := 5) rfl)) (fun _ h9 => h9) rfl dX2_firstStep_24 ?_
        refine lv_icmp_ge (tgt := 71) hx hb dX2_firstStep_27 (by decide) (fun c_11 => ?_) (fun c_11 => ?_)
        ·
          have hn_11 := bge_t (a := i_9) (b := no) c_11 (by omega) (by omega)
          refine lv_iconst (v := (-1)) hx hb dX2_firstStep_71 (by decide) ?_
          exact ret_i hx hb hr hlk hS (Nat.le_of_ble_eq_true rfl) (Nat.le_of_ble_eq_true rfl) (m0_9) (trivial) (hP.sub [0, 1, 2, 3, 4] rfl) (hD.sub [0, 1, 2, 3, 4] (by decide) rfl) dX2_firstStep_72
        ·
          have hn_11 := bge_f (a := i_9) (b := no) c_11 (by omega) (by omega)
          refine lv_aload_n hx hb dX2_firstStep_30 rfl (lv_at hl 2 rfl) ?_
          refine lv_iload hx hb dX2_firstStep_31 (lv_at hl 0 rfl) ?_
          refine lv_iload_n hx hb dX2_firstStep_33 rfl (lv_at hl 3 rfl) ?_
          refine aft_i (wr := [(aO, .inr (0, [.int tl, .int (nI tp), .int tw, .int td, .int (nI nc), .int (nI nr), .int (nI no), .int (nI na), .int tdr, .int tlo, .ref o1, .ref o2, .ref o3, .ref o4, .ref o5])), (jq, .inl (cs 1, 64, .inl m0_9))]) hP hD hS hA [0, 2, 3] [1, 4] rfl rfl (by decide) (by decide) (run_v (As := [.int (nI i_9), .int (nI b1)]) (rest := []) hFix hK hE hP hD [0, 2, 3] (k_X2_outcome l D cs _ aJ i_9 b1 aO aS jm jd jl jv jq jb jp jw jh js sw s1 s2 s3 s4 fr zs sc st (by first | assumption | decide | omega) (by first | assumption | decide | omega) (by first | assumption | decide | omega) (by first | assumption | decide | omega) (by first | assumption | decide | omega) (by first | assumption | decide | omega)) (cwV 2 hts gc_X2_firstStep_136_X2_outcome rfl rfl rfl (by decide +kernel) ⟨Nat.le_of_ble_eq_true rfl, Nat.le_of_ble_eq_true rfl⟩) rfl (by decide) rfl rfl rfl hl.1 rfl (Nat.le_of_ble_eq_true rfl) dX2_firstStep_34 ⟨Nat.le_of_ble_eq_true rfl, Nat.le_of_ble_eq_true rfl⟩) (fun r_12 u_12 H locs hq_12 hP hD hS => ?_)
          obtain ⟨j_12, rfl⟩ : ∃ z, z = u_12 := ⟨_, rfl⟩
          have hP : va_P D vwCl [(aO, .inr (0, [.int tl, .int (nI tp), .int tw, .int td, .int (nI nc), .int (nI nr), .int (nI no), .int (nI na), .int tdr, .int tlo, .ref o1, .ref o2, .ref o3, .ref o4, .ref o5])), (jq, .inl (cs 1, 64, .inl m0_9)), (aJ, .inr (2, [.ref aO, .ref aS, .ref jm, .int jd, .int jl, .long jv, .ref jq, .ref jb, .ref jp, .ref jw, .ref jh, .ref js])), (aS, .inr (6, [.int (nI zs), .int (nI sc), .int (nI st), .long sw, .ref s1, .ref s2, .ref s3, .ref s4])), (s4, .inl (cs 1, 320, .inl fr))] H := hP
          have hD : va_D A [(aO, .inr (0, [.int tl, .int (nI tp), .int tw, .int td, .int (nI nc), .int (nI nr), .int (nI no), .int (nI na), .int tdr, .int tlo, .ref o1, .ref o2, .ref o3, .ref o4, .ref o5])), (jq, .inl (cs 1, 64, .inl m0_9)), (aJ, .inr (2, [.ref aO, .ref aS, .ref jm, .int jd, .int jl, .long jv, .ref jq, .ref jb, .ref jp, .ref jw, .ref jh, .ref js])), (aS, .inr (6, [.int (nI zs), .int (nI sc), .int (nI st), .long sw, .ref s1, .ref s2, .ref s3, .ref s4])), (s4, .inl (cs 1, 320, .inl fr))] := hD
          replace hq_12 : ((r_12 = (-1) ∧ True) ∨ (r_12 = nI j_12 ∧ j_12 < 64)) := hq_12
          rcases hq_12 with ⟨rfl, hq_12⟩ | ⟨rfl, hq_12⟩
          ·
            refine lv_istore (lv' := [(5, .int (-1)), (4, .int (nI i_9)), (3, .int 1), (0, .ref aJ), (1, .int (nI b1)), (2, .int a1)]) hx hb dX2_firstStep_37 hl (by decide) rfl (fun ls hl => ?_)
            refine lv_iload hx hb dX2_firstStep_39 (lv_at hl 0 rfl) ?_
            refine lv_iconst (v := (-1)) hx hb dX2_firstStep_41 (by decide) ?_
            refine lv_icmp_eq (tgt := 65) hx hb dX2_firstStep_42 (by decide) (fun _ => ?_) (fun h9 => absurd h9 (by decide))
            refine lv_iinc (v := (nI (i_9 + 1))) (lv' := [(4, .int (nI (i_9 + 1))), (5, .int (-1)), (3, .int 1), (0, .ref aJ), (1, .int (nI b1)), (2, .int a1)]) hx hb dX2_firstStep_65 hl (k := 1) rfl (nI_1 _) (by decide) rfl (fun ls hl => ?_)
            refine lv_goto (tgt := 18) hx hb dX2_firstStep_68 (by decide) ?_
            exact ih_lp_10 (i_9 + 1) m0_9 H locs ls (by omega) (by omega) (hP.sub [2, 0, 3, 4, 1] rfl) (hD.sub [2, 0, 3, 4, 1] (by decide) rfl) hS (lv_sub hl [0, 2, 3, 4, 5] rfl)
          ·
            refine lv_istore (lv' := [(5, .int (nI j_12)), (4, .int (nI i_9)), (3, .int 1), (0, .ref aJ), (1, .int (nI b1)), (2, .int a1)]) hx hb dX2_firstStep_37 hl (by decide) rfl (fun ls hl => ?_)
            refine lv_iload hx hb dX2_firstStep_39 (lv_at hl 0 rfl) ?_
            refine lv_iconst (v := (-1)) hx hb dX2_firstStep_41 (by decide) ?_
            refine lv_icmp_eq (tgt := 65) hx hb dX2_firstStep_42 (by decide) (fun h9 => False.elim (nneg_eq (a := j_12) h9 (by omega) (by decide))) (fun _ => ?_)
            refine lv_aload_n hx hb dX2_firstStep_45 rfl (lv_at hl 3 rfl) ?_
            refine lv_iload hx hb dX2_firstStep_46 (lv_at hl 0 rfl) ?_
            refine lv_iload_n hx hb dX2_firstStep_48 rfl (lv_at hl 2 rfl) ?_
            refine lv_iconst (v := 0) hx hb dX2_firstStep_49 (by decide) ?_
            refine aft_l (wr := []) hP hD hS hA [2, 0, 3, 4, 1] [] rfl rfl (by decide) (by decide) (run_v (As := [.int (nI j_12), .int 1, .int 0]) (rest := []) hFix hK hE hP hD [2, 0, 3, 4, 1] (k_X2_spread l D cs _ aJ 0 j_12 1 aO aS jm jd jl jv jq jb jp jw jh js tl tw td tdr tlo o1 o2 o3 o4 o5 sw s1 s2 s3 s4 fr m0_9 tp nc nr no na zs sc st (by first | assumption | decide | omega) (by first | assumption | decide | omega) (by first | assumption | decide | omega) (by first | assumption | decide | omega) (by first | assumption | decide | omega) (by first | assumption | decide | omega) (by first | assumption | decide | omega) (by first | assumption | decide | omega) (by first | assumption | decide | omega) (by first | assumption | decide | omega) (by first | assumption | decide | omega)) (cwV 3 hts gc_X2_firstStep_149_X2_spread rfl rfl rfl (by decide +kernel) ⟨Nat.le_of_ble_eq_true rfl, Nat.le_of_ble_eq_true rfl⟩) rfl (by decide) rfl rfl rfl hl.1 rfl (Nat.le_of_ble_eq_true rfl) dX2_firstStep_50 ⟨Nat.le_of_ble_eq_true rfl, Nat.le_of_ble_eq_true rfl⟩) (fun r_14 u_14 H locs hq_14 hP hD hS => ?_)
            obtain ⟨fq1_14, rfl⟩ : ∃ z, z = u_14 := ⟨_, rfl⟩
            have hP : va_P D vwCl [(aJ, .inr (2, [.ref aO, .ref aS, .ref jm, .int jd, .int jl, .long jv, .ref jq, .ref jb, .ref jp, .ref jw, .ref jh, .ref js])), (aO, .inr (0, [.int tl, .int (nI tp), .int tw, .int td, .int (nI nc), .int (nI nr), .int (nI no), .int (nI na), .int tdr, .int tlo, .ref o1, .ref o2, .ref o3, .ref o4, .ref o5])), (aS, .inr (6, [.int (nI zs), .int (nI sc), .int (nI st), .long sw, .ref s1, .ref s2, .ref s3, .ref s4])), (s4, .inl (cs 1, 320, .inl fr)), (jq, .inl (cs 1, 64, .inl fq1_14))] H := hP
            have hD : va_D A [(aJ, .inr (2, [.ref aO, .ref aS, .ref jm, .int jd, .int jl, .long jv, .ref jq, .ref jb, .ref jp, .ref jw, .ref jh, .ref js])), (aO, .inr (0, [.int tl, .int (nI tp), .int tw, .int td, .int (nI nc), .int (nI nr), .int (nI no), .int (nI na), .int tdr, .int tlo, .ref o1, .ref o2, .ref o3, .ref o4, .ref o5])), (aS, .inr (6, [.int (nI zs), .int (nI sc), .int (nI st), .long sw, .ref s1, .ref s2, .ref s3, .ref s4])), (s4, .inl (cs 1, 320, .inl fr)), (jq, .inl (cs 1, 64, .inl fq1_14))] := hD
            refine lv_iload_n hx hb dX2_firstStep_53 rfl (lv_at hl 5 rfl) ?_
            refine lv_lushr (v := (r_14.toUInt64 >>> (a1.toInt64.toUInt64 &&& Int64.toUInt64 63)).toInt64) hx hb dX2_firstStep_54 rfl ?_
            refine lv_lconst (v := 1) hx hb dX2_firstStep_55 (by decide) ?_
            refine lv_land hx hb dX2_firstStep_56 ?_
            refine lv_lconst (v := 0) hx hb dX2_firstStep_57 (by decide) ?_
            refine W.lcmp hx hb dX2_firstStep_58 ?_
            refine lv_if_eq (tgt := 65) hx hb dX2_firstStep_59 (by decide) (fun c_15 => ?_) (fun c_15 => ?_)
            ·
              refine lv_iinc (v := (nI (i_9 + 1))) (lv' := [(4, .int (nI (i_9 + 1))), (5, .int (nI j_12)), (3, .int 1), (0, .ref aJ), (1, .int (nI b1)), (2, .int a1)]) hx hb dX2_firstStep_65 hl (k := 1) rfl (nI_1 _) (by decide) rfl (fun ls hl => ?_)
              refine lv_goto (tgt := 18) hx hb dX2_firstStep_68 (by decide) ?_
              exact ih_lp_10 (i_9 + 1) fq1_14 H locs ls (by omega) (by omega) (hP.sub [0, 1, 2, 3, 4] rfl) (hD.sub [0, 1, 2, 3, 4] (by decide) rfl) hS (lv_sub hl [0, 2, 3, 4, 5] rfl)
            ·
              refine lv_iload hx hb dX2_firstStep_62 (lv_at hl 1 rfl) ?_
              exact ret_i hx hb hr hlk hS (Nat.le_of_ble_eq_true rfl) (Nat.le_of_ble_eq_true rfl) (fq1_14) (trivial) (hP.sub [0, 1, 2, 3, 4] rfl) (hD.sub [0, 1, 2, 3, 4] (by decide) rfl) dX2_firstStep_64
    exact lp_10 _ 0 fq1_1 H locs ls (by omega) (Nat.lt_succ_self _) (hP.sub [0, 1, 2, 3, 4] rfl) (hD.sub [0, 1, 2, 3, 4] (by decide) rfl) hS (lv_sub hl [0, 1, 2, 3, 4] rfl)
  ·
    refine lv_iconst (v := 1) hx hb dX2_firstStep_6 (by decide) ?_
    refine lv_isub hx hb dX2_firstStep_7 ?_
    refine cf_i 2 (by decide) ?_
    refine lv_istore_n (lv' := [(3, .int 2), (0, .ref aJ), (1, .int (nI b1)), (2, .int a1)]) hx hb dX2_firstStep_8 rfl hl (by decide) rfl (fun ls hl => ?_)
    refine lv_iload_n hx hb dX2_firstStep_9 rfl (lv_at hl 0 rfl) ?_
    refine lv_if_ge (tgt := 15) hx hb dX2_firstStep_10 (by decide) (fun _ => ?_) (fun h9 => absurd h9 (by decide))
    refine lv_iconst (v := 0) hx hb dX2_firstStep_15 (by decide) ?_
    refine lv_istore (lv' := [(4, .int 0), (3, .int 2), (0, .ref aJ), (1, .int (nI b1)), (2, .int a1)]) hx hb dX2_firstStep_16 hl (by decide) rfl (fun ls hl => ?_)
    have lp_17 : ∀ (nfu : Nat) (i_16 : Nat) (m0_16 : Nat → Int32) (H : Heap) (locs : List Loc) (ls : Array Slot) (hi_16 : i_16 ≤ no), no - i_16 < nfu → va_P D vwCl [(aJ, .inr (2, [.ref aO, .ref aS, .ref jm, .int jd, .int jl, .long jv, .ref jq, .ref jb, .ref jp, .ref jw, .ref jh, .ref js])), (aO, .inr (0, [.int tl, .int (nI tp), .int tw, .int td, .int (nI nc), .int (nI nr), .int (nI no), .int (nI na), .int tdr, .int tlo, .ref o1, .ref o2, .ref o3, .ref o4, .ref o5])), (aS, .inr (6, [.int (nI zs), .int (nI sc), .int (nI st), .long sw, .ref s1, .ref s2, .ref s3, .ref s4])), (s4, .inl (cs 1, 320, .inl fr)), (jq, .inl (cs 1, 64, .inl m0_16))] H → va_D A [(aJ, .inr (2, [.ref aO, .ref aS, .ref jm, .int jd, .int jl, .long jv, .ref jq, .ref jb, .ref jp, .ref jw, .ref jh, .ref js])), (aO, .inr (0, [.int tl, .int (nI tp), .int tw, .int td, .int (nI nc), .int (nI nr), .int (nI no), .int (nI na), .int tdr, .int tlo, .ref o1, .ref o2, .ref o3, .ref o4, .ref o5])), (aS, .inr (6, [.int (nI zs), .int (nI sc), .int (nI st), .long sw, .ref s1, .ref s2, .ref s3, .ref s4])), (s4, .inl (cs 1, 320, .inl fr)), (jq, .inl (cs 1, 64, .inl m0_16))] → va_S A s.heap H locs → lv_has ls 6 [(4, .int (nI i_16)), (3, .int 2), (0, .ref aJ), (1, .int (nI b1)), (2, .int a1)] → W p l e (mRm 3 0 0 77) s m ([.ref aJ, .int (nI b1), .int a1] : List Value).toArray below meth c H locs 0 0 (MQ below (va_Qi (fun (r : Int32) (u : (Nat → Int32)) => True) (mpost D A (fun (u : (Nat → Int32)) => [(aJ, .inr (2, [.ref aO, .ref aS, .ref jm, .int jd, .int jl, .long jv, .ref jq, .ref jb, .ref jp, .ref jw, .ref jh, .ref js])), (aO, .inr (0, [.int tl, .int (nI tp), .int tw, .int td, .int (nI nc), .int (nI nr), .int (nI no), .int (nI na), .int tdr, .int tlo, .ref o1, .ref o2, .ref o3, .ref o4, .ref o5])), (aS, .inr (6, [.int (nI zs), .int (nI sc), .int (nI st), .long sw, .ref s1, .ref s2, .ref s3, .ref s4])), (s4, .inl (cs 1, 320, .inl fr)), (jq, .inl (cs 1, 64, .inl u))])) A) ([.ref aJ, .int (nI b1), .int a1] : List Value).toArray s 0 0 A) (F0 m 18 ls []) := by
      intro nfu
      induction nfu with
      | zero => intro i_16 m0_16 H locs ls hi_16 hmu; exact absurd hmu (Nat.not_lt_zero _)
      | succ nfu ih =>
        intro i_16 m0_16 H locs ls hi_16 hmu hP hD hS hl
        have ih_lp_17 := @ih
        refine lv_iload hx hb dX2_firstStep_18 (lv_at hl 0 rfl) ?_
        refine lv_aload_n hx hb dX2_firstStep_20 rfl (lv_at hl 2 rfl) ?_
        refine va_get (D := D) (ci := 2) (v := .ref aO) (C := RX2) (T := TX2) (N := 12) hx hb hts iuX2_firstStep_X2 hown hK hP 0 rfl rfl 0 (by decide) (htw (.fieldLink RX2 49 "MergeJudge$Judge" "told" "LMergeJudge$Base;") (List.mem_of_getElem? (i := 4) rfl)) (fun _ h9 => h9) rfl dX2_firstStep_21 ?_
        refine va_get (D := D) (ci := 0) (v := .int (nI no)) (C := RX0) (T := TX0) (N := 15) hx hb hts iuX2_firstStep_X0 hown hK hP 1 rfl rfl 6 (by decide) (htw (.fieldLink RX2 133 "MergeJudge$Base" "ops" "I") (List.mem_of_getElem? (i := 5) rfl)) (fun _ h9 => h9) rfl dX2_firstStep_24 ?_
        refine lv_icmp_ge (tgt := 71) hx hb dX2_firstStep_27 (by decide) (fun c_18 => ?_) (fun c_18 => ?_)
        ·
          have hn_18 := bge_t (a := i_16) (b := no) c_18 (by omega) (by omega)
          refine lv_iconst (v := (-1)) hx hb dX2_firstStep_71 (by decide) ?_
          exact ret_i hx hb hr hlk hS (Nat.le_of_ble_eq_true rfl) (Nat.le_of_ble_eq_true rfl) (m0_16) (trivial) (hP.sub [0, 1, 2, 3, 4] rfl) (hD.sub [0, 1, 2, 3, 4] (by decide) rfl) dX2_firstStep_72
        ·
          have hn_18 := bge_f (a := i_16) (b := no) c_18 (by omega) (by omega)
          refine lv_aload_n hx hb dX2_firstStep_30 rfl (lv_at hl 2 rfl) ?_
          refine lv_iload hx hb dX2_firstStep_31 (lv_at hl 0 rfl) ?_
          refine lv_iload_n hx hb dX2_firstStep_33 rfl (lv_at hl 3 rfl) ?_
          refine aft_i (wr := [(aO, .inr (0, [.int tl, .int (nI tp), .int tw, .int td, .int (nI nc), .int (nI nr), .int (nI no), .int (nI na), .int tdr, .int tlo, .ref o1, .ref o2, .ref o3, .ref o4, .ref o5])), (jq, .inl (cs 1, 64, .inl m0_16))]) hP hD hS hA [0, 2, 3] [1, 4] rfl rfl (by decide) (by decide) (run_v (As := [.int (nI i_16), .int (nI b1)]) (rest := []) hFix hK hE hP hD [0, 2, 3] (k_X2_outcome l D cs _ aJ i_16 b1 aO aS jm jd jl jv jq jb jp jw jh js sw s1 s2 s3 s4 fr zs sc st (by first | assumption | decide | omega) (by first | assumption | decide | omega) (by first | assumption | decide | omega) (by first | assumption | decide | omega) (by first | assumption | decide | omega) (by first | assumption | decide | omega)) (cwV 2 hts gc_X2_firstStep_136_X2_outcome rfl rfl rfl (by decide +kernel) ⟨Nat.le_of_ble_eq_true rfl, Nat.le_of_ble_eq_true rfl⟩) rfl (by decide) rfl rfl rfl hl.1 rfl (Nat.le_of_ble_eq_true rfl) dX2_firstStep_34 ⟨Nat.le_of_ble_eq_true rfl, Nat.le_of_ble_eq_true rfl⟩) (fun r_19 u_19 H locs hq_19 hP hD hS => ?_)
          obtain ⟨j_19, rfl⟩ : ∃ z, z = u_19 := ⟨_, rfl⟩
          have hP : va_P D vwCl [(aO, .inr (0, [.int tl, .int (nI tp), .int tw, .int td, .int (nI nc), .int (nI nr), .int (nI no), .int (nI na), .int tdr, .int tlo, .ref o1, .ref o2, .ref o3, .ref o4, .ref o5])), (jq, .inl (cs 1, 64, .inl m0_16)), (aJ, .inr (2, [.ref aO, .ref aS, .ref jm, .int jd, .int jl, .long jv, .ref jq, .ref jb, .ref jp, .ref jw, .ref jh, .ref js])), (aS, .inr (6, [.int (nI zs), .int (nI sc), .int (nI st), .long sw, .ref s1, .ref s2, .ref s3, .ref s4])), (s4, .inl (cs 1, 320, .inl fr))] H := hP
          have hD : va_D A [(aO, .inr (0, [.int tl, .int (nI tp), .int tw, .int td, .int (nI nc), .int (nI nr), .int (nI no), .int (nI na), .int tdr, .int tlo, .ref o1, .ref o2, .ref o3, .ref o4, .ref o5])), (jq, .inl (cs 1, 64, .inl m0_16)), (aJ, .inr (2, [.ref aO, .ref aS, .ref jm, .int jd, .int jl, .long jv, .ref jq, .ref jb, .ref jp, .ref jw, .ref jh, .ref js])), (aS, .inr (6, [.int (nI zs), .int (nI sc), .int (nI st), .long sw, .ref s1, .ref s2, .ref s3, .ref s4])), (s4, .inl (cs 1, 320, .inl fr))] := hD
          replace hq_19 : ((r_19 = (-1) ∧ True) ∨ (r_19 = nI j_19 ∧ j_19 < 64)) := hq_19
          rcases hq_19 with ⟨rfl, hq_19⟩ | ⟨rfl, hq_19⟩
          ·
            refine lv_istore (lv' := [(5, .int (-1)), (4, .int (nI i_16)), (3, .int 2), (0, .ref aJ), (1, .int (nI b1)), (2, .int a1)]) hx hb dX2_firstStep_37 hl (by decide) rfl (fun ls hl => ?_)
            refine lv_iload hx hb dX2_firstStep_39 (lv_at hl 0 rfl) ?_
            refine lv_iconst (v := (-1)) hx hb dX2_firstStep_41 (by decide) ?_
            refine lv_icmp_eq (tgt := 65) hx hb dX2_firstStep_42 (by decide) (fun _ => ?_) (fun h9 => absurd h9 (by decide))
            refine lv_iinc (v := (nI (i_16 + 1))) (lv' := [(4, .int (nI (i_16 + 1))), (5, .int (-1)), (3, .int 2), (0, .ref aJ), (1, .int (nI b1)), (2, .int a1)]) hx hb dX2_firstStep_65 hl (k := 1) rfl (nI_1 _) (by decide) rfl (fun ls hl => ?_)
            refine lv_goto (tgt := 18) hx hb dX2_firstStep_68 (by decide) ?_
            exact ih_lp_17 (i_16 + 1) m0_16 H locs ls (by omega) (by omega) (hP.sub [2, 0, 3, 4, 1] rfl) (hD.sub [2, 0, 3, 4, 1] (by decide) rfl) hS (lv_sub hl [0, 2, 3, 4, 5] rfl)
          ·
            refine lv_istore (lv' := [(5, .int (nI j_19)), (4, .int (nI i_16)), (3, .int 2), (0, .ref aJ), (1, .int (nI b1)), (2, .int a1)]) hx hb dX2_firstStep_37 hl (by decide) rfl (fun ls hl => ?_)
            refine lv_iload hx hb dX2_firstStep_39 (lv_at hl 0 rfl) ?_
            refine lv_iconst (v := (-1)) hx hb dX2_firstStep_41 (by decide) ?_
            refine lv_icmp_eq (tgt := 65) hx hb dX2_firstStep_42 (by decide) (fun h9 => False.elim (nneg_eq (a := j_19) h9 (by omega) (by decide))) (fun _ => ?_)
            refine lv_aload_n hx hb dX2_firstStep_45 rfl (lv_at hl 3 rfl) ?_
            refine lv_iload hx hb dX2_firstStep_46 (lv_at hl 0 rfl) ?_
            refine lv_iload_n hx hb dX2_firstStep_48 rfl (lv_at hl 2 rfl) ?_
            refine lv_iconst (v := 0) hx hb dX2_firstStep_49 (by decide) ?_
            refine aft_l (wr := []) hP hD hS hA [2, 0, 3, 4, 1] [] rfl rfl (by decide) (by decide) (run_v (As := [.int (nI j_19), .int 2, .int 0]) (rest := []) hFix hK hE hP hD [2, 0, 3, 4, 1] (k_X2_spread l D cs _ aJ 0 j_19 2 aO aS jm jd jl jv jq jb jp jw jh js tl tw td tdr tlo o1 o2 o3 o4 o5 sw s1 s2 s3 s4 fr m0_16 tp nc nr no na zs sc st (by first | assumption | decide | omega) (by first | assumption | decide | omega) (by first | assumption | decide | omega) (by first | assumption | decide | omega) (by first | assumption | decide | omega) (by first | assumption | decide | omega) (by first | assumption | decide | omega) (by first | assumption | decide | omega) (by first | assumption | decide | omega) (by first | assumption | decide | omega) (by first | assumption | decide | omega)) (cwV 3 hts gc_X2_firstStep_149_X2_spread rfl rfl rfl (by decide +kernel) ⟨Nat.le_of_ble_eq_true rfl, Nat.le_of_ble_eq_true rfl⟩) rfl (by decide) rfl rfl rfl hl.1 rfl (Nat.le_of_ble_eq_true rfl) dX2_firstStep_50 ⟨Nat.le_of_ble_eq_true rfl, Nat.le_of_ble_eq_true rfl⟩) (fun r_21 u_21 H locs hq_21 hP hD hS => ?_)
            obtain ⟨fq1_21, rfl⟩ : ∃ z, z = u_21 := ⟨_, rfl⟩
            have hP : va_P D vwCl [(aJ, .inr (2, [.ref aO, .ref aS, .ref jm, .int jd, .int jl, .long jv, .ref jq, .ref jb, .ref jp, .ref jw, .ref jh, .ref js])), (aO, .inr (0, [.int tl, .int (nI tp), .int tw, .int td, .int (nI nc), .int (nI nr), .int (nI no), .int (nI na), .int tdr, .int tlo, .ref o1, .ref o2, .ref o3, .ref o4, .ref o5])), (aS, .inr (6, [.int (nI zs), .int (nI sc), .int (nI st), .long sw, .ref s1, .ref s2, .ref s3, .ref s4])), (s4, .inl (cs 1, 320, .inl fr)), (jq, .inl (cs 1, 64, .inl fq1_21))] H := hP
            have hD : va_D A [(aJ, .inr (2, [.ref aO, .ref aS, .ref jm, .int jd, .int jl, .long jv, .ref jq, .ref jb, .ref jp, .ref jw, .ref jh, .ref js])), (aO, .inr (0, [.int tl, .int (nI tp), .int tw, .int td, .int (nI nc), .int (nI nr), .int (nI no), .int (nI na), .int tdr, .int tlo, .ref o1, .ref o2, .ref o3, .ref o4, .ref o5])), (aS, .inr (6, [.int (nI zs), .int (nI sc), .int (nI st), .long sw, .ref s1, .ref s2, .ref s3, .ref s4])), (s4, .inl (cs 1, 320, .inl fr)), (jq, .inl (cs 1, 64, .inl fq1_21))] := hD
            refine lv_iload_n hx hb dX2_firstStep_53 rfl (lv_at hl 5 rfl) ?_
            refine lv_lushr (v := (r_21.toUInt64 >>> (a1.toInt64.toUInt64 &&& Int64.toUInt64 63)).toInt64) hx hb dX2_firstStep_54 rfl ?_
            refine lv_lconst (v := 1) hx hb dX2_firstStep_55 (by decide) ?_
            refine lv_land hx hb dX2_firstStep_56 ?_
            refine lv_lconst (v := 0) hx hb dX2_firstStep_57 (by decide) ?_
            refine W.lcmp hx hb dX2_firstStep_58 ?_
            refine lv_if_eq (tgt := 65) hx hb dX2_firstStep_59 (by decide) (fun c_22 => ?_) (fun c_22 => ?_)
            ·
              refine lv_iinc (v := (nI (i_16 + 1))) (lv' := [(4, .int (nI (i_16 + 1))), (5, .int (nI j_19)), (3, .int 2), (0, .ref aJ), (1, .int (nI b1)), (2, .int a1)]) hx hb dX2_firstStep_65 hl (k := 1) rfl (nI_1 _) (by decide) rfl (fun ls hl => ?_)
              refine lv_goto (tgt := 18) hx hb dX2_firstStep_68 (by decide) ?_
              exact ih_lp_17 (i_16 + 1) fq1_21 H locs ls (by omega) (by omega) (hP.sub [0, 1, 2, 3, 4] rfl) (hD.sub [0, 1, 2, 3, 4] (by decide) rfl) hS (lv_sub hl [0, 2, 3, 4, 5] rfl)
            ·
              refine lv_iload hx hb dX2_firstStep_62 (lv_at hl 1 rfl) ?_
              exact ret_i hx hb hr hlk hS (Nat.le_of_ble_eq_true rfl) (Nat.le_of_ble_eq_true rfl) (fq1_21) (trivial) (hP.sub [0, 1, 2, 3, 4] rfl) (hD.sub [0, 1, 2, 3, 4] (by decide) rfl) dX2_firstStep_64
    exact lp_17 _ 0 fq1_1 H locs ls (by omega) (Nat.lt_succ_self _) (hP.sub [0, 1, 2, 3, 4] rfl) (hD.sub [0, 1, 2, 3, 4] (by decide) rfl) hS (lv_sub hl [0, 1, 2, 3, 4] rfl)
