set_option maxHeartbeats 4000000 in
set_option maxRecDepth 100000 in
theorem law_case_0 {p : Program} {e : Env} {s : State} {m : MethodId} {below : List Frame} {meth : Method} {c : Code} (l : Launch) {b : Nat} {xs : Nat → Int32} (C0 : lw_At p s m meth c b 6 xs) {D : va_G} {cs : Nat → ClassId} (hK : va_K D vwCl (mtyA cs) s) (hE : mEnv s) {x0 y0 : Nat} {ax ay : Nat → Nat} {H : Heap} {locs : List Loc} {ls : Array Slot} (hP : va_P D vwCl (lawW cs x0 ax y0 ay) H) (hD : va_D (fun q : Nat => s.heap.size ≤ q) (lawW cs x0 ax y0 ay)) (hS : va_S (fun q : Nat => s.heap.size ≤ q) s.heap H locs) (hl : lv_has ls 4 [(3, .int 0), (2, .ref y0), (1, .ref x0), (0, .ref b)]) : W p l e room_1 s m #[Value.ref b] below meth c H locs 81 7838 (lw_Z below #[Value.ref b] s) (F0 m 364 ls []) := by
  obtain ⟨hx, hb, hr, hml, hown, hts, hX, hbl, hlocks, hgv⟩ := id C0
  have hA : ∀ q : Nat, s.heap.size ≤ q → (fun q : Nat => s.heap.size ≤ q) q := fun _ h => h
  have hbA : ¬ (fun q : Nat => s.heap.size ≤ q) b := Nat.not_le.mpr hbl
  have hFix := (⟨hx, hb, hml, hown, hts⟩ : CallFix p m c _ _ s #[Value.ref b] lw_tbl RL)
  replace hP := hP.sub (ws' := [(x0, .inr (8, [.ref (ax 0), .ref (ax 1), .ref (ax 2), .ref (ax 3), .ref (ax 4), .ref (ax 5), .ref (ax 6), .ref (ax 7), .ref (ax 8), .ref (ax 9)])), (ax 0, .inr (7, [.ref (ax 10), .int 0])), (ax 10, .inl (cs 0, 400, .inl (fun _ => 0))), (y0, .inr (9, [.int 0, .ref (ay 0), .ref (ay 1), .ref (ay 2), .ref (ay 3), .int 0, .ref (ay 4), .int 0, .int 0, .int 0, .int 0, .int 0, .int 0, .int (-1), .ref (ay 5), .ref (ay 6), .int 0, .int 0, .int 0, .ref (ay 7), .ref (ay 8), .ref (ay 9), .ref (ay 10), .ref (ay 11), .ref (ay 12), .int 0, .int 0, .int 0, .int 0, .int 0, .int 0, .int 0, .int 0, .int 0, .ref (ay 13), .long 0, .long 0, .long 0, .ref (ay 14), .ref (ay 15), .ref (ay 16), .ref (ay 17)])), (ay 3, .inl (cs 0, 400, .inl (fun _ => 0))), (ay 4, .inl (cs 1, 5, .inl (fun _ => 0)))]) [0, 1, 2, 62, 66, 67] rfl
  replace hD := hD.sub (ws' := [(x0, .inr (8, [.ref (ax 0), .ref (ax 1), .ref (ax 2), .ref (ax 3), .ref (ax 4), .ref (ax 5), .ref (ax 6), .ref (ax 7), .ref (ax 8), .ref (ax 9)])), (ax 0, .inr (7, [.ref (ax 10), .int 0])), (ax 10, .inl (cs 0, 400, .inl (fun _ => 0))), (y0, .inr (9, [.int 0, .ref (ay 0), .ref (ay 1), .ref (ay 2), .ref (ay 3), .int 0, .ref (ay 4), .int 0, .int 0, .int 0, .int 0, .int 0, .int 0, .int (-1), .ref (ay 5), .ref (ay 6), .int 0, .int 0, .int 0, .ref (ay 7), .ref (ay 8), .ref (ay 9), .ref (ay 10), .ref (ay 11), .ref (ay 12), .int 0, .int 0, .int 0, .int 0, .int 0, .int 0, .int 0, .int 0, .int 0, .ref (ay 13), .long 0, .long 0, .long 0, .ref (ay 14), .ref (ay 15), .ref (ay 16), .ref (ay 17)])), (ay 3, .inl (cs 0, 400, .inl (fun _ => 0))), (ay 4, .inl (cs 1, 5, .inl (fun _ => 0)))]) [0, 1, 2, 62, 66, 67] (by decide) rfl
  refine lv_aload_n hx hb dL_law_364 rfl (lv_at hl 2 rfl) ?_
  refine lv_aload_n hx hb dL_law_365 rfl (lv_at hl 3 rfl) ?_
  refine lv_iload_n hx hb dL_law_366 rfl (lv_at hl 0 rfl) ?_
  refine lv_iconst (v := 1) hx hb dL_law_367 (by decide) ?_
  refine lv_iadd hx hb dL_law_368 ?_
  refine cf_i 1 (by decide) ?_
  refine va_sld hx hb hX hbl hbA hS (vp_c (by decide)) dL_law_369 ?_
  refine cf_v (.int (xs 1)) rfl ?_
  refine lv_aload_n hx hb dL_law_370 rfl (lv_at hl 3 rfl) ?_
  refine lv_iload_n hx hb dL_law_371 rfl (lv_at hl 0 rfl) ?_
  refine lv_iconst (v := 2) hx hb dL_law_372 (by decide) ?_
  refine lv_iadd hx hb dL_law_373 ?_
  refine cf_i 2 (by decide) ?_
  refine va_sld hx hb hX hbl hbA hS (vp_c (by decide)) dL_law_374 ?_
  refine cf_v (.int (xs 2)) rfl ?_
  refine lv_aload_n hx hb dL_law_375 rfl (lv_at hl 3 rfl) ?_
  refine lv_iload_n hx hb dL_law_376 rfl (lv_at hl 0 rfl) ?_
  refine lv_iconst (v := 3) hx hb dL_law_377 (by decide) ?_
  refine lv_iadd hx hb dL_law_378 ?_
  refine cf_i 3 (by decide) ?_
  refine va_sld hx hb hX hbl hbA hS (vp_c (by decide)) dL_law_379 ?_
  refine cf_v (.int (xs 3)) rfl ?_
  refine lv_aload_n hx hb dL_law_380 rfl (lv_at hl 3 rfl) ?_
  refine lv_iload_n hx hb dL_law_381 rfl (lv_at hl 0 rfl) ?_
  refine lv_iconst (v := 4) hx hb dL_law_382 (by decide) ?_
  refine lv_iadd hx hb dL_law_383 ?_
  refine cf_i 4 (by decide) ?_
  refine va_sld hx hb hX hbl hbA hS (vp_c (by decide)) dL_law_384 ?_
  refine cf_v (.int (xs 4)) rfl ?_
  refine lv_aload_n hx hb dL_law_385 rfl (lv_at hl 3 rfl) ?_
  refine lv_iload_n hx hb dL_law_386 rfl (lv_at hl 0 rfl) ?_
  refine lv_iconst (v := 5) hx hb dL_law_387 (by decide) ?_
  refine lv_iadd hx hb dL_law_388 ?_
  refine cf_i 5 (by decide) ?_
  refine va_sld hx hb hX hbl hbA hS (vp_c (by decide)) dL_law_389 ?_
  refine cf_v (.int (xs 5)) rfl ?_
  refine aft_i (wr := [(y0, .inr (9, [.int 0, .ref (ay 0), .ref (ay 1), .ref (ay 2), .ref (ay 3), .int 0, .ref (ay 4), .int 0, .int 0, .int 0, .int 0, .int 0, .int 0, .int (-1), .ref (ay 5), .ref (ay 6), .int 0, .int 0, .int 0, .ref (ay 7), .ref (ay 8), .ref (ay 9), .ref (ay 10), .ref (ay 11), .ref (ay 12), .int 0, .int 0, .int 0, .int 0, .int 0, .int 0, .int 0, .int 0, .int 0, .ref (ay 13), .long 0, .long 0, .long 0, .ref (ay 14), .ref (ay 15), .ref (ay 16), .ref (ay 17)])), (ay 3, .inl (cs 0, 400, .inl (fun _ => 0))), (ay 4, .inl (cs 1, 5, .inl (fun _ => 0)))]) hP hD hS hA [0, 1, 2] [3, 4, 5] rfl rfl (by decide) (by decide) (run_v (As := [.int (xs 1), .int (xs 2), .int (xs 3), .int (xs 4), .int (xs 5)]) (rest := []) hFix hK hE hP hD [0, 1, 2] (k_X8_feed l D cs _ x0 (xs 1) (xs 2) (xs 3) (xs 4) (xs 5) (ax 0) (ax 1) (ax 2) (ax 3) (ax 4) (ax 5) (ax 6) (ax 7) (ax 8) (ax 9) (ax 10)) (cwV 5 hts gl_13_X8_feed rfl rfl rfl (by decide +kernel) ⟨Nat.le_of_ble_eq_true rfl, Nat.le_of_ble_eq_true rfl⟩) rfl (by decide) rfl rfl rfl hl.1 rfl (Nat.le_of_ble_eq_true rfl) dL_law_390 ⟨Nat.le_of_ble_eq_true rfl, Nat.le_of_ble_eq_true rfl⟩) (fun r_1 u_1 H locs hq_1 hP hD hS => ?_)
  have hP : va_P D vwCl [(y0, .inr (9, [.int 0, .ref (ay 0), .ref (ay 1), .ref (ay 2), .ref (ay 3), .int 0, .ref (ay 4), .int 0, .int 0, .int 0, .int 0, .int 0, .int 0, .int (-1), .ref (ay 5), .ref (ay 6), .int 0, .int 0, .int 0, .ref (ay 7), .ref (ay 8), .ref (ay 9), .ref (ay 10), .ref (ay 11), .ref (ay 12), .int 0, .int 0, .int 0, .int 0, .int 0, .int 0, .int 0, .int 0, .int 0, .ref (ay 13), .long 0, .long 0, .long 0, .ref (ay 14), .ref (ay 15), .ref (ay 16), .ref (ay 17)])), (ay 3, .inl (cs 0, 400, .inl (fun _ => 0))), (ay 4, .inl (cs 1, 5, .inl (fun _ => 0)))] H := hP
  have hD : va_D (fun q : Nat => s.heap.size ≤ q) [(y0, .inr (9, [.int 0, .ref (ay 0), .ref (ay 1), .ref (ay 2), .ref (ay 3), .int 0, .ref (ay 4), .int 0, .int 0, .int 0, .int 0, .int 0, .int 0, .int (-1), .ref (ay 5), .ref (ay 6), .int 0, .int 0, .int 0, .ref (ay 7), .ref (ay 8), .ref (ay 9), .ref (ay 10), .ref (ay 11), .ref (ay 12), .int 0, .int 0, .int 0, .int 0, .int 0, .int 0, .int 0, .int 0, .int 0, .ref (ay 13), .long 0, .long 0, .long 0, .ref (ay 14), .ref (ay 15), .ref (ay 16), .ref (ay 17)])), (ay 3, .inl (cs 0, 400, .inl (fun _ => 0))), (ay 4, .inl (cs 1, 5, .inl (fun _ => 0)))] := hD
  replace hq_1 : r_1 = 20 := hq_1
  subst hq_1
  refine lv_aload_n hx hb dL_law_393 rfl (lv_at hl 1 rfl) ?_
  refine lv_aload_n hx hb dL_law_394 rfl (lv_at hl 3 rfl) ?_
  refine lv_iload_n hx hb dL_law_395 rfl (lv_at hl 0 rfl) ?_
  refine lv_iconst (v := 1) hx hb dL_law_396 (by decide) ?_
  refine lv_iadd hx hb dL_law_397 ?_
  refine cf_i 1 (by decide) ?_
  refine va_sld hx hb hX hbl hbA hS (vp_c (by decide)) dL_law_398 ?_
  refine cf_v (.int (xs 1)) rfl ?_
  refine lv_aload_n hx hb dL_law_399 rfl (lv_at hl 3 rfl) ?_
  refine lv_iload_n hx hb dL_law_400 rfl (lv_at hl 0 rfl) ?_
  refine lv_iconst (v := 2) hx hb dL_law_401 (by decide) ?_
  refine lv_iadd hx hb dL_law_402 ?_
  refine cf_i 2 (by decide) ?_
  refine va_sld hx hb hX hbl hbA hS (vp_c (by decide)) dL_law_403 ?_
  refine cf_v (.int (xs 2)) rfl ?_
  refine lv_aload_n hx hb dL_law_404 rfl (lv_at hl 3 rfl) ?_
  refine lv_iload_n hx hb dL_law_405 rfl (lv_at hl 0 rfl) ?_
  refine lv_iconst (v := 3) hx hb dL_law_406 (by decide) ?_
  refine lv_iadd hx hb dL_law_407 ?_
  refine cf_i 3 (by decide) ?_
  refine va_sld hx hb hX hbl hbA hS (vp_c (by decide)) dL_law_408 ?_
  refine cf_v (.int (xs 3)) rfl ?_
  refine lv_aload_n hx hb dL_law_409 rfl (lv_at hl 3 rfl) ?_
  refine lv_iload_n hx hb dL_law_410 rfl (lv_at hl 0 rfl) ?_
  refine lv_iconst (v := 4) hx hb dL_law_411 (by decide) ?_
  refine lv_iadd hx hb dL_law_412 ?_
  refine cf_i 4 (by decide) ?_
  refine va_sld hx hb hX hbl hbA hS (vp_c (by decide)) dL_law_413 ?_
  refine cf_v (.int (xs 4)) rfl ?_
  refine lv_aload_n hx hb dL_law_414 rfl (lv_at hl 3 rfl) ?_
  refine lv_iload_n hx hb dL_law_415 rfl (lv_at hl 0 rfl) ?_
  refine lv_iconst (v := 5) hx hb dL_law_416 (by decide) ?_
  refine lv_iadd hx hb dL_law_417 ?_
  refine cf_i 5 (by decide) ?_
  refine va_sld hx hb hX hbl hbA hS (vp_c (by decide)) dL_law_418 ?_
  refine cf_v (.int (xs 5)) rfl ?_
  refine aft_i (wr := []) hP hD hS hA [0, 1, 2] [] rfl rfl (by decide) (by decide) (run_v (As := [.int (xs 1), .int (xs 2), .int (xs 3), .int (xs 4), .int (xs 5)]) (rest := [.int 20]) hFix hK hE hP hD [0, 1, 2] (k_X9_feed l D cs _ y0 (xs 1) (xs 2) (xs 3) (xs 4) (xs 5) (ay 0) (ay 1) (ay 2) (ay 3) (ay 4) (ay 5) (ay 6) (ay 7) (ay 8) (ay 9) (ay 10) (ay 11) (ay 12) (ay 13) (ay 14) (ay 15) (ay 16) (ay 17)) (cwV 5 hts gl_17_X9_feed rfl rfl rfl (by decide +kernel) ⟨Nat.le_of_ble_eq_true rfl, Nat.le_of_ble_eq_true rfl⟩) rfl (by decide) rfl rfl rfl hl.1 rfl (Nat.le_of_ble_eq_true rfl) dL_law_419 ⟨Nat.le_of_ble_eq_true rfl, Nat.le_of_ble_eq_true rfl⟩) (fun r_2 u_2 H locs hq_2 hP hD hS => ?_)
  replace hq_2 : r_2 = 20 := hq_2
  subst hq_2
  refine lv_icmp_eq (tgt := 2473) hx hb dL_law_422 (by decide) (fun _ => ?_) (fun h9 => absurd h9 (by decide))
  exact law_end l C0 hS (lv_sub hl [0, 3] rfl) (Nat.le_of_ble_eq_true rfl) (Nat.le_of_ble_eq_true rfl)

set_option maxHeartbeats 4000000 in
set_option maxRecDepth 100000 in
theorem law_case_1 {p : Program} {e : Env} {s : State} {m : MethodId} {below : List Frame} {meth : Method} {c : Code} (l : Launch) {b : Nat} {xs : Nat → Int32} (C0 : lw_At p s m meth c b 6 xs) {D : va_G} {cs : Nat → ClassId} (hK : va_K D vwCl (mtyA cs) s) (hE : mEnv s) {x0 y0 : Nat} {ax ay : Nat → Nat} {H : Heap} {locs : List Loc} {ls : Array Slot} (hP : va_P D vwCl (lawW cs x0 ax y0 ay) H) (hD : va_D (fun q : Nat => s.heap.size ≤ q) (lawW cs x0 ax y0 ay)) (hS : va_S (fun q : Nat => s.heap.size ≤ q) s.heap H locs) (hl : lv_has ls 4 [(3, .int 0), (2, .ref y0), (1, .ref x0), (0, .ref b)]) : W p l e room_1 s m #[Value.ref b] below meth c H locs 81 7838 (lw_Z below #[Value.ref b] s) (F0 m 427 ls []) := by
  obtain ⟨hx, hb, hr, hml, hown, hts, hX, hbl, hlocks, hgv⟩ := id C0
  have hA : ∀ q : Nat, s.heap.size ≤ q → (fun q : Nat => s.heap.size ≤ q) q := fun _ h => h
  have hbA : ¬ (fun q : Nat => s.heap.size ≤ q) b := Nat.not_le.mpr hbl
  have hFix := (⟨hx, hb, hml, hown, hts⟩ : CallFix p m c _ _ s #[Value.ref b] lw_tbl RL)
  replace hP := hP.sub (ws' := [(x0, .inr (8, [.ref (ax 0), .ref (ax 1), .ref (ax 2), .ref (ax 3), .ref (ax 4), .ref (ax 5), .ref (ax 6), .ref (ax 7), .ref (ax 8), .ref (ax 9)])), (ax 0, .inr (7, [.ref (ax 10), .int 0])), (y0, .inr (9, [.int 0, .ref (ay 0), .ref (ay 1), .ref (ay 2), .ref (ay 3), .int 0, .ref (ay 4), .int 0, .int 0, .int 0, .int 0, .int 0, .int 0, .int (-1), .ref (ay 5), .ref (ay 6), .int 0, .int 0, .int 0, .ref (ay 7), .ref (ay 8), .ref (ay 9), .ref (ay 10), .ref (ay 11), .ref (ay 12), .int 0, .int 0, .int 0, .int 0, .int 0, .int 0, .int 0, .int 0, .int 0, .ref (ay 13), .long 0, .long 0, .long 0, .ref (ay 14), .ref (ay 15), .ref (ay 16), .ref (ay 17)]))]) [0, 1, 62] rfl
  replace hD := hD.sub (ws' := [(x0, .inr (8, [.ref (ax 0), .ref (ax 1), .ref (ax 2), .ref (ax 3), .ref (ax 4), .ref (ax 5), .ref (ax 6), .ref (ax 7), .ref (ax 8), .ref (ax 9)])), (ax 0, .inr (7, [.ref (ax 10), .int 0])), (y0, .inr (9, [.int 0, .ref (ay 0), .ref (ay 1), .ref (ay 2), .ref (ay 3), .int 0, .ref (ay 4), .int 0, .int 0, .int 0, .int 0, .int 0, .int 0, .int (-1), .ref (ay 5), .ref (ay 6), .int 0, .int 0, .int 0, .ref (ay 7), .ref (ay 8), .ref (ay 9), .ref (ay 10), .ref (ay 11), .ref (ay 12), .int 0, .int 0, .int 0, .int 0, .int 0, .int 0, .int 0, .int 0, .int 0, .ref (ay 13), .long 0, .long 0, .long 0, .ref (ay 14), .ref (ay 15), .ref (ay 16), .ref (ay 17)]))]) [0, 1, 62] (by decide) rfl
  refine lv_aload_n hx hb dL_law_427 rfl (lv_at hl 2 rfl) ?_
  refine lv_aload_n hx hb dL_law_428 rfl (lv_at hl 3 rfl) ?_
  refine lv_iload_n hx hb dL_law_429 rfl (lv_at hl 0 rfl) ?_
  refine lv_iconst (v := 1) hx hb dL_law_430 (by decide) ?_
  refine lv_iadd hx hb dL_law_431 ?_
  refine cf_i 1 (by decide) ?_
  refine va_sld hx hb hX hbl hbA hS (vp_c (by decide)) dL_law_432 ?_
  refine cf_v (.int (xs 1)) rfl ?_
  refine aft_i (wr := [(y0, .inr (9, [.int 0, .ref (ay 0), .ref (ay 1), .ref (ay 2), .ref (ay 3), .int 0, .ref (ay 4), .int 0, .int 0, .int 0, .int 0, .int 0, .int 0, .int (-1), .ref (ay 5), .ref (ay 6), .int 0, .int 0, .int 0, .ref (ay 7), .ref (ay 8), .ref (ay 9), .ref (ay 10), .ref (ay 11), .ref (ay 12), .int 0, .int 0, .int 0, .int 0, .int 0, .int 0, .int 0, .int 0, .int 0, .ref (ay 13), .long 0, .long 0, .long 0, .ref (ay 14), .ref (ay 15), .ref (ay 16), .ref (ay 17)]))]) hP hD hS hA [0, 1] [2] rfl rfl (by decide) (by decide) (run_v (As := [.int (xs 1)]) (rest := []) hFix hK hE hP hD [0, 1] (k_X8_end l D cs _ x0 (xs 1) (ax 0) (ax 1) (ax 2) (ax 3) (ax 4) (ax 5) (ax 6) (ax 7) (ax 8) (ax 9) (ax 10)) (cwV 1 hts gl_18_X8_end rfl rfl rfl (by decide +kernel) ⟨Nat.le_of_ble_eq_true rfl, Nat.le_of_ble_eq_true rfl⟩) rfl (by decide) rfl rfl rfl hl.1 rfl (Nat.le_of_ble_eq_true rfl) dL_law_433 ⟨Nat.le_of_ble_eq_true rfl, Nat.le_of_ble_eq_true rfl⟩) (fun r_1 u_1 H locs hq_1 hP hD hS => ?_)
  have hP : va_P D vwCl [(y0, .inr (9, [.int 0, .ref (ay 0), .ref (ay 1), .ref (ay 2), .ref (ay 3), .int 0, .ref (ay 4), .int 0, .int 0, .int 0, .int 0, .int 0, .int 0, .int (-1), .ref (ay 5), .ref (ay 6), .int 0, .int 0, .int 0, .ref (ay 7), .ref (ay 8), .ref (ay 9), .ref (ay 10), .ref (ay 11), .ref (ay 12), .int 0, .int 0, .int 0, .int 0, .int 0, .int 0, .int 0, .int 0, .int 0, .ref (ay 13), .long 0, .long 0, .long 0, .ref (ay 14), .ref (ay 15), .ref (ay 16), .ref (ay 17)]))] H := hP
  have hD : va_D (fun q : Nat => s.heap.size ≤ q) [(y0, .inr (9, [.int 0, .ref (ay 0), .ref (ay 1), .ref (ay 2), .ref (ay 3), .int 0, .ref (ay 4), .int 0, .int 0, .int 0, .int 0, .int 0, .int 0, .int (-1), .ref (ay 5), .ref (ay 6), .int 0, .int 0, .int 0, .ref (ay 7), .ref (ay 8), .ref (ay 9), .ref (ay 10), .ref (ay 11), .ref (ay 12), .int 0, .int 0, .int 0, .int 0, .int 0, .int 0, .int 0, .int 0, .int 0, .ref (ay 13), .long 0, .long 0, .long 0, .ref (ay 14), .ref (ay 15), .ref (ay 16), .ref (ay 17)]))] := hD
  replace hq_1 : (r_1 = 0 ∧ (xs 1) = 0) ∨ (r_1 = (-1) ∧ ¬ (xs 1) = 0) := hq_1
  rcases hq_1 with ⟨rfl, hq_1⟩ | ⟨rfl, hq_1⟩
  ·
    refine lv_aload_n hx hb dL_law_436 rfl (lv_at hl 1 rfl) ?_
    refine lv_aload_n hx hb dL_law_437 rfl (lv_at hl 3 rfl) ?_
    refine lv_iload_n hx hb dL_law_438 rfl (lv_at hl 0 rfl) ?_
    refine lv_iconst (v := 1) hx hb dL_law_439 (by decide) ?_
    refine lv_iadd hx hb dL_law_440 ?_
    refine cf_i 1 (by decide) ?_
    refine va_sld hx hb hX hbl hbA hS (vp_c (by decide)) dL_law_441 ?_
    refine cf_v (.int (xs 1)) rfl ?_
    refine aft_i (wr := []) hP hD hS hA [0] [] rfl rfl (by decide) (by decide) (run_v (As := [.int (xs 1)]) (rest := [.int 0]) hFix hK hE hP hD [0] (k_X9_end l D cs _ y0 (xs 1) (ay 0) (ay 1) (ay 2) (ay 3) (ay 4) (ay 5) (ay 6) (ay 7) (ay 8) (ay 9) (ay 10) (ay 11) (ay 12) (ay 13) (ay 14) (ay 15) (ay 16) (ay 17)) (cwV 1 hts gl_22_X9_end rfl rfl rfl (by decide +kernel) ⟨Nat.le_of_ble_eq_true rfl, Nat.le_of_ble_eq_true rfl⟩) rfl (by decide) rfl rfl rfl hl.1 rfl (Nat.le_of_ble_eq_true rfl) dL_law_442 ⟨Nat.le_of_ble_eq_true rfl, Nat.le_of_ble_eq_true rfl⟩) (fun r_2 u_2 H locs hq_2 hP hD hS => ?_)
    replace hq_2 : (r_2 = 0 ∧ (xs 1) = 0) ∨ (r_2 = (-1) ∧ ¬ (xs 1) = 0) := hq_2
    rcases hq_2 with ⟨rfl, hq_2⟩ | ⟨rfl, hq_2⟩
    ·
      refine lv_icmp_eq (tgt := 2473) hx hb dL_law_445 (by decide) (fun _ => ?_) (fun h9 => absurd h9 (by decide))
      exact law_end l C0 hS (lv_sub hl [0, 3] rfl) (Nat.le_of_ble_eq_true rfl) (Nat.le_of_ble_eq_true rfl)
    ·
      exact False.elim (by have e0 := hq_1; have e1 := hq_2; (try simp only [ge_iff_le, gt_iff_lt, ne_eq, Int32.lt_iff_toInt_lt, Int32.le_iff_toInt_le, ← Int32.toInt_inj, Int64.lt_iff_toInt_lt, Int64.le_iff_toInt_le, Int32.toInt_toInt64, i0, i1, i2, i3, i4, i7, i8, i9, i60, j0, j1, j2, j3, j7] at e0 e1); omega)
  ·
    refine lv_aload_n hx hb dL_law_436 rfl (lv_at hl 1 rfl) ?_
    refine lv_aload_n hx hb dL_law_437 rfl (lv_at hl 3 rfl) ?_
    refine lv_iload_n hx hb dL_law_438 rfl (lv_at hl 0 rfl) ?_
    refine lv_iconst (v := 1) hx hb dL_law_439 (by decide) ?_
    refine lv_iadd hx hb dL_law_440 ?_
    refine cf_i 1 (by decide) ?_
    refine va_sld hx hb hX hbl hbA hS (vp_c (by decide)) dL_law_441 ?_
    refine cf_v (.int (xs 1)) rfl ?_
    refine aft_i (wr := []) hP hD hS hA [0] [] rfl rfl (by decide) (by decide) (run_v (As := [.int (xs 1)]) (rest := [.int (-1)]) hFix hK hE hP hD [0] (k_X9_end l D cs _ y0 (xs 1) (ay 0) (ay 1) (ay 2) (ay 3) (ay 4) (ay 5) (ay 6) (ay 7) (ay 8) (ay 9) (ay 10) (ay 11) (ay 12) (ay 13) (ay 14) (ay 15) (ay 16) (ay 17)) (cwV 1 hts gl_22_X9_end rfl rfl rfl (by decide +kernel) ⟨Nat.le_of_ble_eq_true rfl, Nat.le_of_ble_eq_true rfl⟩) rfl (by decide) rfl rfl rfl hl.1 rfl (Nat.le_of_ble_eq_true rfl) dL_law_442 ⟨Nat.le_of_ble_eq_true rfl, Nat.le_of_ble_eq_true rfl⟩) (fun r_3 u_3 H locs hq_3 hP hD hS => ?_)
    replace hq_3 : (r_3 = 0 ∧ (xs 1) = 0) ∨ (r_3 = (-1) ∧ ¬ (xs 1) = 0) := hq_3
    rcases hq_3 with ⟨rfl, hq_3⟩ | ⟨rfl, hq_3⟩
    ·
      exact False.elim (by have e0 := hq_1; have e1 := hq_3; (try simp only [ge_iff_le, gt_iff_lt, ne_eq, Int32.lt_iff_toInt_lt, Int32.le_iff_toInt_le, ← Int32.toInt_inj, Int64.lt_iff_toInt_lt, Int64.le_iff_toInt_le, Int32.toInt_toInt64, i0, i1, i2, i3, i4, i7, i8, i9, i60, j0, j1, j2, j3, j7] at e0 e1); omega)
    ·
      refine lv_icmp_eq (tgt := 2473) hx hb dL_law_445 (by decide) (fun _ => ?_) (fun h9 => absurd h9 (by decide))
      exact law_end l C0 hS (lv_sub hl [0, 3] rfl) (Nat.le_of_ble_eq_true rfl) (Nat.le_of_ble_eq_true rfl)

set_option maxHeartbeats 4000000 in
set_option maxRecDepth 100000 in
theorem law_case_2 {p : Program} {e : Env} {s : State} {m : MethodId} {below : List Frame} {meth : Method} {c : Code} (l : Launch) {b : Nat} {xs : Nat → Int32} (C0 : lw_At p s m meth c b 6 xs) {D : va_G} {cs : Nat → ClassId} (hK : va_K D vwCl (mtyA cs) s) (hE : mEnv s) {x0 y0 : Nat} {ax ay : Nat → Nat} {H : Heap} {locs : List Loc} {ls : Array Slot} (hP : va_P D vwCl (lawW cs x0 ax y0 ay) H) (hD : va_D (fun q : Nat => s.heap.size ≤ q) (lawW cs x0 ax y0 ay)) (hS : va_S (fun q : Nat => s.heap.size ≤ q) s.heap H locs) (hl : lv_has ls 4 [(3, .int 0), (2, .ref y0), (1, .ref x0), (0, .ref b)]) : W p l e room_1 s m #[Value.ref b] below meth c H locs 81 7838 (lw_Z below #[Value.ref b] s) (F0 m 450 ls []) := by
  obtain ⟨hx, hb, hr, hml, hown, hts, hX, hbl, hlocks, hgv⟩ := id C0
  have hA : ∀ q : Nat, s.heap.size ≤ q → (fun q : Nat => s.heap.size ≤ q) q := fun _ h => h
  have hbA : ¬ (fun q : Nat => s.heap.size ≤ q) b := Nat.not_le.mpr hbl
  have hFix := (⟨hx, hb, hml, hown, hts⟩ : CallFix p m c _ _ s #[Value.ref b] lw_tbl RL)
  replace hP := hP.sub (ws' := [(x0, .inr (8, [.ref (ax 0), .ref (ax 1), .ref (ax 2), .ref (ax 3), .ref (ax 4), .ref (ax 5), .ref (ax 6), .ref (ax 7), .ref (ax 8), .ref (ax 9)])), (ax 2, .inr (0, [.int 0, .int 0, .int 0, .int 0, .int 0, .int 0, .int 0, .int 0, .int 0, .int 0, .ref (ax 16), .ref (ax 17), .ref (ax 18), .ref (ax 19), .ref (ax 20)])), (ax 16, .inl (cs 1, 3, .inl (fun _ => 0))), (ax 17, .inl (cs 1, 25, .inl (fun _ => 0))), (ax 18, .inl (cs 1, 20, .inl (fun _ => 0))), (ax 19, .inl (cs 1, 20, .inl (fun _ => 0))), (ax 20, .inl (cs 1, 20, .inl (fun _ => 0))), (ax 1, .inr (0, [.int 0, .int 0, .int 0, .int 0, .int 0, .int 0, .int 0, .int 0, .int 0, .int 0, .ref (ax 11), .ref (ax 12), .ref (ax 13), .ref (ax 14), .ref (ax 15)])), (ax 11, .inl (cs 1, 3, .inl (fun _ => 0))), (ax 12, .inl (cs 1, 25, .inl (fun _ => 0))), (ax 13, .inl (cs 1, 20, .inl (fun _ => 0))), (ax 14, .inl (cs 1, 20, .inl (fun _ => 0))), (ax 15, .inl (cs 1, 20, .inl (fun _ => 0))), (ax 4, .inr (6, [.int 0, .int 0, .int 0, .long 0, .ref (ax 21), .ref (ax 22), .ref (ax 23), .ref (ax 24)])), (ax 5, .inr (2, [.ref (ax 2), .ref (ax 4), .ref (ax 25), .int 0, .int 0, .long 0, .ref (ax 26), .ref (ax 27), .ref (ax 28), .ref (ax 29), .ref (ax 30), .ref (ax 31)])), (ax 25, .inr (3, [.ref (ax 32)])), (ax 3, .inr (4, [.ref (ax 0), .ref (ax 1), .int 0, .int 0, .int 0, .int 0, .int 0, .int 0, .int (-1)])), (ax 0, .inr (7, [.ref (ax 10), .int 0])), (ax 10, .inl (cs 0, 400, .inl (fun _ => 0))), (y0, .inr (9, [.int 0, .ref (ay 0), .ref (ay 1), .ref (ay 2), .ref (ay 3), .int 0, .ref (ay 4), .int 0, .int 0, .int 0, .int 0, .int 0, .int 0, .int (-1), .ref (ay 5), .ref (ay 6), .int 0, .int 0, .int 0, .ref (ay 7), .ref (ay 8), .ref (ay 9), .ref (ay 10), .ref (ay 11), .ref (ay 12), .int 0, .int 0, .int 0, .int 0, .int 0, .int 0, .int 0, .int 0, .int 0, .ref (ay 13), .long 0, .long 0, .long 0, .ref (ay 14), .ref (ay 15), .ref (ay 16), .ref (ay 17)])), (ay 5, .inl (cs 1, 76, .inl (fun _ => 0))), (ay 0, .inl (cs 1, 76, .inl (fun _ => 0)))]) [0, 9, 10, 11, 12, 13, 14, 3, 4, 5, 6, 7, 8, 16, 21, 22, 15, 1, 2, 62, 68, 63] rfl
  replace hD := hD.sub (ws' := [(x0, .inr (8, [.ref (ax 0), .ref (ax 1), .ref (ax 2), .ref (ax 3), .ref (ax 4), .ref (ax 5), .ref (ax 6), .ref (ax 7), .ref (ax 8), .ref (ax 9)])), (ax 2, .inr (0, [.int 0, .int 0, .int 0, .int 0, .int 0, .int 0, .int 0, .int 0, .int 0, .int 0, .ref (ax 16), .ref (ax 17), .ref (ax 18), .ref (ax 19), .ref (ax 20)])), (ax 16, .inl (cs 1, 3, .inl (fun _ => 0))), (ax 17, .inl (cs 1, 25, .inl (fun _ => 0))), (ax 18, .inl (cs 1, 20, .inl (fun _ => 0))), (ax 19, .inl (cs 1, 20, .inl (fun _ => 0))), (ax 20, .inl (cs 1, 20, .inl (fun _ => 0))), (ax 1, .inr (0, [.int 0, .int 0, .int 0, .int 0, .int 0, .int 0, .int 0, .int 0, .int 0, .int 0, .ref (ax 11), .ref (ax 12), .ref (ax 13), .ref (ax 14), .ref (ax 15)])), (ax 11, .inl (cs 1, 3, .inl (fun _ => 0))), (ax 12, .inl (cs 1, 25, .inl (fun _ => 0))), (ax 13, .inl (cs 1, 20, .inl (fun _ => 0))), (ax 14, .inl (cs 1, 20, .inl (fun _ => 0))), (ax 15, .inl (cs 1, 20, .inl (fun _ => 0))), (ax 4, .inr (6, [.int 0, .int 0, .int 0, .long 0, .ref (ax 21), .ref (ax 22), .ref (ax 23), .ref (ax 24)])), (ax 5, .inr (2, [.ref (ax 2), .ref (ax 4), .ref (ax 25), .int 0, .int 0, .long 0, .ref (ax 26), .ref (ax 27), .ref (ax 28), .ref (ax 29), .ref (ax 30), .ref (ax 31)])), (ax 25, .inr (3, [.ref (ax 32)])), (ax 3, .inr (4, [.ref (ax 0), .ref (ax 1), .int 0, .int 0, .int 0, .int 0, .int 0, .int 0, .int (-1)])), (ax 0, .inr (7, [.ref (ax 10), .int 0])), (ax 10, .inl (cs 0, 400, .inl (fun _ => 0))), (y0, .inr (9, [.int 0, .ref (ay 0), .ref (ay 1), .ref (ay 2), .ref (ay 3), .int 0, .ref (ay 4), .int 0, .int 0, .int 0, .int 0, .int 0, .int 0, .int (-1), .ref (ay 5), .ref (ay 6), .int 0, .int 0, .int 0, .ref (ay 7), .ref (ay 8), .ref (ay 9), .ref (ay 10), .ref (ay 11), .ref (ay 12), .int 0, .int 0, .int 0, .int 0, .int 0, .int 0, .int 0, .int 0, .int 0, .ref (ay 13), .long 0, .long 0, .long 0, .ref (ay 14), .ref (ay 15), .ref (ay 16), .ref (ay 17)])), (ay 5, .inl (cs 1, 76, .inl (fun _ => 0))), (ay 0, .inl (cs 1, 76, .inl (fun _ => 0)))]) [0, 9, 10, 11, 12, 13, 14, 3, 4, 5, 6, 7, 8, 16, 21, 22, 15, 1, 2, 62, 68, 63] (by decide) rfl
  refine lv_aload_n hx hb dL_law_450 rfl (lv_at hl 2 rfl) ?_
  refine aft_i (wr := [(y0, .inr (9, [.int 0, .ref (ay 0), .ref (ay 1), .ref (ay 2), .ref (ay 3), .int 0, .ref (ay 4), .int 0, .int 0, .int 0, .int 0, .int 0, .int 0, .int (-1), .ref (ay 5), .ref (ay 6), .int 0, .int 0, .int 0, .ref (ay 7), .ref (ay 8), .ref (ay 9), .ref (ay 10), .ref (ay 11), .ref (ay 12), .int 0, .int 0, .int 0, .int 0, .int 0, .int 0, .int 0, .int 0, .int 0, .ref (ay 13), .long 0, .long 0, .long 0, .ref (ay 14), .ref (ay 15), .ref (ay 16), .ref (ay 17)])), (ay 5, .inl (cs 1, 76, .inl (fun _ => 0))), (ay 0, .inl (cs 1, 76, .inl (fun _ => 0)))]) hP hD hS hA [0, 1, 2, 3, 4, 5, 6, 7, 8, 9, 10, 11, 12, 13, 14, 15, 16, 17, 18] [19, 20, 21] rfl rfl (by decide) (by decide) (run_v (As := []) (rest := []) hFix hK hE hP hD [0, 1, 2, 3, 4, 5, 6, 7, 8, 9, 10, 11, 12, 13, 14, 15, 16, 17, 18] (k_X8_base l D cs _ x0 (ax 0) (ax 1) (ax 2) (ax 3) (ax 4) (ax 5) (ax 6) (ax 7) (ax 8) (ax 9) (ax 16) (ax 17) (ax 18) (ax 19) (ax 20) (ax 11) (ax 12) (ax 13) (ax 14) (ax 15) (ax 21) (ax 22) (ax 23) (ax 24) (ax 25) (ax 26) (ax 27) (ax 28) (ax 29) (ax 30) (ax 31) (ax 32) (ax 10)) (cwV 0 hts gl_23_X8_base rfl rfl rfl (by decide +kernel) ⟨Nat.le_of_ble_eq_true rfl, Nat.le_of_ble_eq_true rfl⟩) rfl (by decide) rfl rfl rfl hl.1 rfl (Nat.le_of_ble_eq_true rfl) dL_law_451 ⟨Nat.le_of_ble_eq_true rfl, Nat.le_of_ble_eq_true rfl⟩) (fun r_1 u_1 H locs hq_1 hP hD hS => ?_)
  have hP : va_P D vwCl [(y0, .inr (9, [.int 0, .ref (ay 0), .ref (ay 1), .ref (ay 2), .ref (ay 3), .int 0, .ref (ay 4), .int 0, .int 0, .int 0, .int 0, .int 0, .int 0, .int (-1), .ref (ay 5), .ref (ay 6), .int 0, .int 0, .int 0, .ref (ay 7), .ref (ay 8), .ref (ay 9), .ref (ay 10), .ref (ay 11), .ref (ay 12), .int 0, .int 0, .int 0, .int 0, .int 0, .int 0, .int 0, .int 0, .int 0, .ref (ay 13), .long 0, .long 0, .long 0, .ref (ay 14), .ref (ay 15), .ref (ay 16), .ref (ay 17)])), (ay 5, .inl (cs 1, 76, .inl (fun _ => 0))), (ay 0, .inl (cs 1, 76, .inl (fun _ => 0)))] H := hP
  have hD : va_D (fun q : Nat => s.heap.size ≤ q) [(y0, .inr (9, [.int 0, .ref (ay 0), .ref (ay 1), .ref (ay 2), .ref (ay 3), .int 0, .ref (ay 4), .int 0, .int 0, .int 0, .int 0, .int 0, .int 0, .int (-1), .ref (ay 5), .ref (ay 6), .int 0, .int 0, .int 0, .ref (ay 7), .ref (ay 8), .ref (ay 9), .ref (ay 10), .ref (ay 11), .ref (ay 12), .int 0, .int 0, .int 0, .int 0, .int 0, .int 0, .int 0, .int 0, .int 0, .ref (ay 13), .long 0, .long 0, .long 0, .ref (ay 14), .ref (ay 15), .ref (ay 16), .ref (ay 17)])), (ay 5, .inl (cs 1, 76, .inl (fun _ => 0))), (ay 0, .inl (cs 1, 76, .inl (fun _ => 0)))] := hD
  replace hq_1 : r_1 = 0 := hq_1
  subst hq_1
  refine lv_aload_n hx hb dL_law_454 rfl (lv_at hl 1 rfl) ?_
  refine aft_i (wr := []) hP hD hS hA [0, 1, 2] [] rfl rfl (by decide) (by decide) (run_v (As := []) (rest := [.int 0]) hFix hK hE hP hD [0, 1, 2] (k_X9_base l D cs _ y0 (ay 0) (ay 1) (ay 2) (ay 3) (ay 4) (ay 5) (ay 6) (ay 7) (ay 8) (ay 9) (ay 10) (ay 11) (ay 12) (ay 13) (ay 14) (ay 15) (ay 16) (ay 17)) (cwV 0 hts gl_27_X9_base rfl rfl rfl (by decide +kernel) ⟨Nat.le_of_ble_eq_true rfl, Nat.le_of_ble_eq_true rfl⟩) rfl (by decide) rfl rfl rfl hl.1 rfl (Nat.le_of_ble_eq_true rfl) dL_law_455 ⟨Nat.le_of_ble_eq_true rfl, Nat.le_of_ble_eq_true rfl⟩) (fun r_2 u_2 H locs hq_2 hP hD hS => ?_)
  replace hq_2 : r_2 = 0 := hq_2
  subst hq_2
  refine lv_icmp_eq (tgt := 2473) hx hb dL_law_458 (by decide) (fun _ => ?_) (fun h9 => absurd h9 (by decide))
  exact law_end l C0 hS (lv_sub hl [0, 3] rfl) (Nat.le_of_ble_eq_true rfl) (Nat.le_of_ble_eq_true rfl)

set_option maxHeartbeats 4000000 in
set_option maxRecDepth 100000 in
theorem law_case_3 {p : Program} {e : Env} {s : State} {m : MethodId} {below : List Frame} {meth : Method} {c : Code} (l : Launch) {b : Nat} {xs : Nat → Int32} (C0 : lw_At p s m meth c b 6 xs) {D : va_G} {cs : Nat → ClassId} (hK : va_K D vwCl (mtyA cs) s) (hE : mEnv s) {x0 y0 : Nat} {ax ay : Nat → Nat} {H : Heap} {locs : List Loc} {ls : Array Slot} (hP : va_P D vwCl (lawW cs x0 ax y0 ay) H) (hD : va_D (fun q : Nat => s.heap.size ≤ q) (lawW cs x0 ax y0 ay)) (hS : va_S (fun q : Nat => s.heap.size ≤ q) s.heap H locs) (hl : lv_has ls 4 [(3, .int 0), (2, .ref y0), (1, .ref x0), (0, .ref b)]) : W p l e room_1 s m #[Value.ref b] below meth c H locs 81 7838 (lw_Z below #[Value.ref b] s) (F0 m 463 ls []) := by
  obtain ⟨hx, hb, hr, hml, hown, hts, hX, hbl, hlocks, hgv⟩ := id C0
  have hA : ∀ q : Nat, s.heap.size ≤ q → (fun q : Nat => s.heap.size ≤ q) q := fun _ h => h
  have hbA : ¬ (fun q : Nat => s.heap.size ≤ q) b := Nat.not_le.mpr hbl
  have hFix := (⟨hx, hb, hml, hown, hts⟩ : CallFix p m c _ _ s #[Value.ref b] lw_tbl RL)
  replace hP := hP.sub (ws' := [(x0, .inr (8, [.ref (ax 0), .ref (ax 1), .ref (ax 2), .ref (ax 3), .ref (ax 4), .ref (ax 5), .ref (ax 6), .ref (ax 7), .ref (ax 8), .ref (ax 9)])), (ax 3, .inr (4, [.ref (ax 0), .ref (ax 1), .int 0, .int 0, .int 0, .int 0, .int 0, .int 0, .int (-1)])), (y0, .inr (9, [.int 0, .ref (ay 0), .ref (ay 1), .ref (ay 2), .ref (ay 3), .int 0, .ref (ay 4), .int 0, .int 0, .int 0, .int 0, .int 0, .int 0, .int (-1), .ref (ay 5), .ref (ay 6), .int 0, .int 0, .int 0, .ref (ay 7), .ref (ay 8), .ref (ay 9), .ref (ay 10), .ref (ay 11), .ref (ay 12), .int 0, .int 0, .int 0, .int 0, .int 0, .int 0, .int 0, .int 0, .int 0, .ref (ay 13), .long 0, .long 0, .long 0, .ref (ay 14), .ref (ay 15), .ref (ay 16), .ref (ay 17)]))]) [0, 15, 62] rfl
  replace hD := hD.sub (ws' := [(x0, .inr (8, [.ref (ax 0), .ref (ax 1), .ref (ax 2), .ref (ax 3), .ref (ax 4), .ref (ax 5), .ref (ax 6), .ref (ax 7), .ref (ax 8), .ref (ax 9)])), (ax 3, .inr (4, [.ref (ax 0), .ref (ax 1), .int 0, .int 0, .int 0, .int 0, .int 0, .int 0, .int (-1)])), (y0, .inr (9, [.int 0, .ref (ay 0), .ref (ay 1), .ref (ay 2), .ref (ay 3), .int 0, .ref (ay 4), .int 0, .int 0, .int 0, .int 0, .int 0, .int 0, .int (-1), .ref (ay 5), .ref (ay 6), .int 0, .int 0, .int 0, .ref (ay 7), .ref (ay 8), .ref (ay 9), .ref (ay 10), .ref (ay 11), .ref (ay 12), .int 0, .int 0, .int 0, .int 0, .int 0, .int 0, .int 0, .int 0, .int 0, .ref (ay 13), .long 0, .long 0, .long 0, .ref (ay 14), .ref (ay 15), .ref (ay 16), .ref (ay 17)]))]) [0, 15, 62] (by decide) rfl
  refine lv_aload_n hx hb dL_law_463 rfl (lv_at hl 2 rfl) ?_
  refine lv_aload_n hx hb dL_law_464 rfl (lv_at hl 3 rfl) ?_
  refine lv_iload_n hx hb dL_law_465 rfl (lv_at hl 0 rfl) ?_
  refine lv_iconst (v := 1) hx hb dL_law_466 (by decide) ?_
  refine lv_iadd hx hb dL_law_467 ?_
  refine cf_i 1 (by decide) ?_
  refine va_sld hx hb hX hbl hbA hS (vp_c (by decide)) dL_law_468 ?_
  refine cf_v (.int (xs 1)) rfl ?_
  refine aft_i (wr := [(y0, .inr (9, [.int 0, .ref (ay 0), .ref (ay 1), .ref (ay 2), .ref (ay 3), .int 0, .ref (ay 4), .int 0, .int 0, .int 0, .int 0, .int 0, .int 0, .int (-1), .ref (ay 5), .ref (ay 6), .int 0, .int 0, .int 0, .ref (ay 7), .ref (ay 8), .ref (ay 9), .ref (ay 10), .ref (ay 11), .ref (ay 12), .int 0, .int 0, .int 0, .int 0, .int 0, .int 0, .int 0, .int 0, .int 0, .ref (ay 13), .long 0, .long 0, .long 0, .ref (ay 14), .ref (ay 15), .ref (ay 16), .ref (ay 17)]))]) hP hD hS hA [0, 1] [2] rfl rfl (by decide) (by decide) (run_v (As := [.int (xs 1)]) (rest := []) hFix hK hE hP hD [0, 1] (k_X8_fault l D cs _ x0 (xs 1) (ax 0) (ax 1) (ax 2) (ax 3) (ax 4) (ax 5) (ax 6) (ax 7) (ax 8) (ax 9)) (cwV 1 hts gl_28_X8_fault rfl rfl rfl (by decide +kernel) ⟨Nat.le_of_ble_eq_true rfl, Nat.le_of_ble_eq_true rfl⟩) rfl (by decide) rfl rfl rfl hl.1 rfl (Nat.le_of_ble_eq_true rfl) dL_law_469 ⟨Nat.le_of_ble_eq_true rfl, Nat.le_of_ble_eq_true rfl⟩) (fun r_1 u_1 H locs hq_1 hP hD hS => ?_)
  have hP : va_P D vwCl [(y0, .inr (9, [.int 0, .ref (ay 0), .ref (ay 1), .ref (ay 2), .ref (ay 3), .int 0, .ref (ay 4), .int 0, .int 0, .int 0, .int 0, .int 0, .int 0, .int (-1), .ref (ay 5), .ref (ay 6), .int 0, .int 0, .int 0, .ref (ay 7), .ref (ay 8), .ref (ay 9), .ref (ay 10), .ref (ay 11), .ref (ay 12), .int 0, .int 0, .int 0, .int 0, .int 0, .int 0, .int 0, .int 0, .int 0, .ref (ay 13), .long 0, .long 0, .long 0, .ref (ay 14), .ref (ay 15), .ref (ay 16), .ref (ay 17)]))] H := hP
  have hD : va_D (fun q : Nat => s.heap.size ≤ q) [(y0, .inr (9, [.int 0, .ref (ay 0), .ref (ay 1), .ref (ay 2), .ref (ay 3), .int 0, .ref (ay 4), .int 0, .int 0, .int 0, .int 0, .int 0, .int 0, .int (-1), .ref (ay 5), .ref (ay 6), .int 0, .int 0, .int 0, .ref (ay 7), .ref (ay 8), .ref (ay 9), .ref (ay 10), .ref (ay 11), .ref (ay 12), .int 0, .int 0, .int 0, .int 0, .int 0, .int 0, .int 0, .int 0, .int 0, .ref (ay 13), .long 0, .long 0, .long 0, .ref (ay 14), .ref (ay 15), .ref (ay 16), .ref (ay 17)]))] := hD
  replace hq_1 : (r_1 = 0 ∧ (xs 1) = 0) ∨ (r_1 = (-1) ∧ ¬ (xs 1) = 0) := hq_1
  rcases hq_1 with ⟨rfl, hq_1⟩ | ⟨rfl, hq_1⟩
  ·
    refine lv_aload_n hx hb dL_law_472 rfl (lv_at hl 1 rfl) ?_
    refine lv_aload_n hx hb dL_law_473 rfl (lv_at hl 3 rfl) ?_
    refine lv_iload_n hx hb dL_law_474 rfl (lv_at hl 0 rfl) ?_
    refine lv_iconst (v := 1) hx hb dL_law_475 (by decide) ?_
    refine lv_iadd hx hb dL_law_476 ?_
    refine cf_i 1 (by decide) ?_
    refine va_sld hx hb hX hbl hbA hS (vp_c (by decide)) dL_law_477 ?_
    refine cf_v (.int (xs 1)) rfl ?_
    refine aft_i (wr := []) hP hD hS hA [0] [] rfl rfl (by decide) (by decide) (run_v (As := [.int (xs 1)]) (rest := [.int 0]) hFix hK hE hP hD [0] (k_X9_fault l D cs _ y0 (xs 1) (ay 0) (ay 1) (ay 2) (ay 3) (ay 4) (ay 5) (ay 6) (ay 7) (ay 8) (ay 9) (ay 10) (ay 11) (ay 12) (ay 13) (ay 14) (ay 15) (ay 16) (ay 17)) (cwV 1 hts gl_31_X9_fault rfl rfl rfl (by decide +kernel) ⟨Nat.le_of_ble_eq_true rfl, Nat.le_of_ble_eq_true rfl⟩) rfl (by decide) rfl rfl rfl hl.1 rfl (Nat.le_of_ble_eq_true rfl) dL_law_478 ⟨Nat.le_of_ble_eq_true rfl, Nat.le_of_ble_eq_true rfl⟩) (fun r_2 u_2 H locs hq_2 hP hD hS => ?_)
    replace hq_2 : (r_2 = 0 ∧ (xs 1) = 0) ∨ (r_2 = (-1) ∧ ¬ (xs 1) = 0) := hq_2
    rcases hq_2 with ⟨rfl, hq_2⟩ | ⟨rfl, hq_2⟩
    ·
      refine lv_icmp_eq (tgt := 2473) hx hb dL_law_481 (by decide) (fun _ => ?_) (fun h9 => absurd h9 (by decide))
      exact law_end l C0 hS (lv_sub hl [0, 3] rfl) (Nat.le_of_ble_eq_true rfl) (Nat.le_of_ble_eq_true rfl)
    ·
      exact False.elim (by have e0 := hq_1; have e1 := hq_2; (try simp only [ge_iff_le, gt_iff_lt, ne_eq, Int32.lt_iff_toInt_lt, Int32.le_iff_toInt_le, ← Int32.toInt_inj, Int64.lt_iff_toInt_lt, Int64.le_iff_toInt_le, Int32.toInt_toInt64, i0, i1, i2, i3, i4, i7, i8, i9, i60, j0, j1, j2, j3, j7] at e0 e1); omega)
  ·
    refine lv_aload_n hx hb dL_law_472 rfl (lv_at hl 1 rfl) ?_
    refine lv_aload_n hx hb dL_law_473 rfl (lv_at hl 3 rfl) ?_
    refine lv_iload_n hx hb dL_law_474 rfl (lv_at hl 0 rfl) ?_
    refine lv_iconst (v := 1) hx hb dL_law_475 (by decide) ?_
    refine lv_iadd hx hb dL_law_476 ?_
    refine cf_i 1 (by decide) ?_
    refine va_sld hx hb hX hbl hbA hS (vp_c (by decide)) dL_law_477 ?_
    refine cf_v (.int (xs 1)) rfl ?_
    refine aft_i (wr := []) hP hD hS hA [0] [] rfl rfl (by decide) (by decide) (run_v (As := [.int (xs 1)]) (rest := [.int (-1)]) hFix hK hE hP hD [0] (k_X9_fault l D cs _ y0 (xs 1) (ay 0) (ay 1) (ay 2) (ay 3) (ay 4) (ay 5) (ay 6) (ay 7) (ay 8) (ay 9) (ay 10) (ay 11) (ay 12) (ay 13) (ay 14) (ay 15) (ay 16) (ay 17)) (cwV 1 hts gl_31_X9_fault rfl rfl rfl (by decide +kernel) ⟨Nat.le_of_ble_eq_true rfl, Nat.le_of_ble_eq_true rfl⟩) rfl (by decide) rfl rfl rfl hl.1 rfl (Nat.le_of_ble_eq_true rfl) dL_law_478 ⟨Nat.le_of_ble_eq_true rfl, Nat.le_of_ble_eq_true rfl⟩) (fun r_3 u_3 H locs hq_3 hP hD hS => ?_)
    replace hq_3 : (r_3 = 0 ∧ (xs 1) = 0) ∨ (r_3 = (-1) ∧ ¬ (xs 1) = 0) := hq_3
    rcases hq_3 with ⟨rfl, hq_3⟩ | ⟨rfl, hq_3⟩
    ·
      exact False.elim (by have e0 := hq_1; have e1 := hq_3; (try simp only [ge_iff_le, gt_iff_lt, ne_eq, Int32.lt_iff_toInt_lt, Int32.le_iff_toInt_le, ← Int32.toInt_inj, Int64.lt_iff_toInt_lt, Int64.le_iff_toInt_le, Int32.toInt_toInt64, i0, i1, i2, i3, i4, i7, i8, i9, i60, j0, j1, j2, j3, j7] at e0 e1); omega)
    ·
      refine lv_icmp_eq (tgt := 2473) hx hb dL_law_481 (by decide) (fun _ => ?_) (fun h9 => absurd h9 (by decide))
      exact law_end l C0 hS (lv_sub hl [0, 3] rfl) (Nat.le_of_ble_eq_true rfl) (Nat.le_of_ble_eq_true rfl)

set_option maxHeartbeats 4000000 in
set_option maxRecDepth 100000 in
theorem law_case_4 {p : Program} {e : Env} {s : State} {m : MethodId} {below : List Frame} {meth : Method} {c : Code} (l : Launch) {b : Nat} {xs : Nat → Int32} (C0 : lw_At p s m meth c b 6 xs) {D : va_G} {cs : Nat → ClassId} (hK : va_K D vwCl (mtyA cs) s) (hE : mEnv s) {x0 y0 : Nat} {ax ay : Nat → Nat} {H : Heap} {locs : List Loc} {ls : Array Slot} (hP : va_P D vwCl (lawW cs x0 ax y0 ay) H) (hD : va_D (fun q : Nat => s.heap.size ≤ q) (lawW cs x0 ax y0 ay)) (hS : va_S (fun q : Nat => s.heap.size ≤ q) s.heap H locs) (hl : lv_has ls 4 [(3, .int 0), (2, .ref y0), (1, .ref x0), (0, .ref b)]) : W p l e room_1 s m #[Value.ref b] below meth c H locs 81 7838 (lw_Z below #[Value.ref b] s) (F0 m 486 ls []) := by
  obtain ⟨hx, hb, hr, hml, hown, hts, hX, hbl, hlocks, hgv⟩ := id C0
  have hA : ∀ q : Nat, s.heap.size ≤ q → (fun q : Nat => s.heap.size ≤ q) q := fun _ h => h
  have hbA : ¬ (fun q : Nat => s.heap.size ≤ q) b := Nat.not_le.mpr hbl
  have hFix := (⟨hx, hb, hml, hown, hts⟩ : CallFix p m c _ _ s #[Value.ref b] lw_tbl RL)
  replace hP := hP.sub (ws' := [(x0, .inr (8, [.ref (ax 0), .ref (ax 1), .ref (ax 2), .ref (ax 3), .ref (ax 4), .ref (ax 5), .ref (ax 6), .ref (ax 7), .ref (ax 8), .ref (ax 9)])), (ax 2, .inr (0, [.int 0, .int 0, .int 0, .int 0, .int 0, .int 0, .int 0, .int 0, .int 0, .int 0, .ref (ax 16), .ref (ax 17), .ref (ax 18), .ref (ax 19), .ref (ax 20)])), (ax 4, .inr (6, [.int 0, .int 0, .int 0, .long 0, .ref (ax 21), .ref (ax 22), .ref (ax 23), .ref (ax 24)])), (y0, .inr (9, [.int 0, .ref (ay 0), .ref (ay 1), .ref (ay 2), .ref (ay 3), .int 0, .ref (ay 4), .int 0, .int 0, .int 0, .int 0, .int 0, .int 0, .int (-1), .ref (ay 5), .ref (ay 6), .int 0, .int 0, .int 0, .ref (ay 7), .ref (ay 8), .ref (ay 9), .ref (ay 10), .ref (ay 11), .ref (ay 12), .int 0, .int 0, .int 0, .int 0, .int 0, .int 0, .int 0, .int 0, .int 0, .ref (ay 13), .long 0, .long 0, .long 0, .ref (ay 14), .ref (ay 15), .ref (ay 16), .ref (ay 17)])), (ay 0, .inl (cs 1, 76, .inl (fun _ => 0))), (ay 6, .inl (cs 1, 3, .inl (fun _ => 0)))]) [0, 9, 16, 62, 63, 69] rfl
  replace hD := hD.sub (ws' := [(x0, .inr (8, [.ref (ax 0), .ref (ax 1), .ref (ax 2), .ref (ax 3), .ref (ax 4), .ref (ax 5), .ref (ax 6), .ref (ax 7), .ref (ax 8), .ref (ax 9)])), (ax 2, .inr (0, [.int 0, .int 0, .int 0, .int 0, .int 0, .int 0, .int 0, .int 0, .int 0, .int 0, .ref (ax 16), .ref (ax 17), .ref (ax 18), .ref (ax 19), .ref (ax 20)])), (ax 4, .inr (6, [.int 0, .int 0, .int 0, .long 0, .ref (ax 21), .ref (ax 22), .ref (ax 23), .ref (ax 24)])), (y0, .inr (9, [.int 0, .ref (ay 0), .ref (ay 1), .ref (ay 2), .ref (ay 3), .int 0, .ref (ay 4), .int 0, .int 0, .int 0, .int 0, .int 0, .int 0, .int (-1), .ref (ay 5), .ref (ay 6), .int 0, .int 0, .int 0, .ref (ay 7), .ref (ay 8), .ref (ay 9), .ref (ay 10), .ref (ay 11), .ref (ay 12), .int 0, .int 0, .int 0, .int 0, .int 0, .int 0, .int 0, .int 0, .int 0, .ref (ay 13), .long 0, .long 0, .long 0, .ref (ay 14), .ref (ay 15), .ref (ay 16), .ref (ay 17)])), (ay 0, .inl (cs 1, 76, .inl (fun _ => 0))), (ay 6, .inl (cs 1, 3, .inl (fun _ => 0)))]) [0, 9, 16, 62, 63, 69] (by decide) rfl
  refine lv_aload_n hx hb dL_law_486 rfl (lv_at hl 2 rfl) ?_
  refine lv_aload_n hx hb dL_law_487 rfl (lv_at hl 3 rfl) ?_
  refine lv_iload_n hx hb dL_law_488 rfl (lv_at hl 0 rfl) ?_
  refine lv_iconst (v := 1) hx hb dL_law_489 (by decide) ?_
  refine lv_iadd hx hb dL_law_490 ?_
  refine cf_i 1 (by decide) ?_
  refine va_sld hx hb hX hbl hbA hS (vp_c (by decide)) dL_law_491 ?_
  refine cf_v (.int (xs 1)) rfl ?_
  refine aft_i (wr := [(y0, .inr (9, [.int 0, .ref (ay 0), .ref (ay 1), .ref (ay 2), .ref (ay 3), .int 0, .ref (ay 4), .int 0, .int 0, .int 0, .int 0, .int 0, .int 0, .int (-1), .ref (ay 5), .ref (ay 6), .int 0, .int 0, .int 0, .ref (ay 7), .ref (ay 8), .ref (ay 9), .ref (ay 10), .ref (ay 11), .ref (ay 12), .int 0, .int 0, .int 0, .int 0, .int 0, .int 0, .int 0, .int 0, .int 0, .ref (ay 13), .long 0, .long 0, .long 0, .ref (ay 14), .ref (ay 15), .ref (ay 16), .ref (ay 17)])), (ay 0, .inl (cs 1, 76, .inl (fun _ => 0))), (ay 6, .inl (cs 1, 3, .inl (fun _ => 0)))]) hP hD hS hA [0, 1, 2] [3, 4, 5] rfl rfl (by decide) (by decide) (run_v (As := [.int (xs 1)]) (rest := []) hFix hK hE hP hD [0, 1, 2] (k_X8_cell l D cs _ x0 (xs 1) (ax 0) (ax 1) (ax 2) (ax 3) (ax 4) (ax 5) (ax 6) (ax 7) (ax 8) (ax 9) (ax 16) (ax 17) (ax 18) (ax 19) (ax 20) (ax 21) (ax 22) (ax 23) (ax 24)) (cwV 1 hts gl_32_X8_cell rfl rfl rfl (by decide +kernel) ⟨Nat.le_of_ble_eq_true rfl, Nat.le_of_ble_eq_true rfl⟩) rfl (by decide) rfl rfl rfl hl.1 rfl (Nat.le_of_ble_eq_true rfl) dL_law_492 ⟨Nat.le_of_ble_eq_true rfl, Nat.le_of_ble_eq_true rfl⟩) (fun r_1 u_1 H locs hq_1 hP hD hS => ?_)
  have hP : va_P D vwCl [(y0, .inr (9, [.int 0, .ref (ay 0), .ref (ay 1), .ref (ay 2), .ref (ay 3), .int 0, .ref (ay 4), .int 0, .int 0, .int 0, .int 0, .int 0, .int 0, .int (-1), .ref (ay 5), .ref (ay 6), .int 0, .int 0, .int 0, .ref (ay 7), .ref (ay 8), .ref (ay 9), .ref (ay 10), .ref (ay 11), .ref (ay 12), .int 0, .int 0, .int 0, .int 0, .int 0, .int 0, .int 0, .int 0, .int 0, .ref (ay 13), .long 0, .long 0, .long 0, .ref (ay 14), .ref (ay 15), .ref (ay 16), .ref (ay 17)])), (ay 0, .inl (cs 1, 76, .inl (fun _ => 0))), (ay 6, .inl (cs 1, 3, .inl (fun _ => 0)))] H := hP
  have hD : va_D (fun q : Nat => s.heap.size ≤ q) [(y0, .inr (9, [.int 0, .ref (ay 0), .ref (ay 1), .ref (ay 2), .ref (ay 3), .int 0, .ref (ay 4), .int 0, .int 0, .int 0, .int 0, .int 0, .int 0, .int (-1), .ref (ay 5), .ref (ay 6), .int 0, .int 0, .int 0, .ref (ay 7), .ref (ay 8), .ref (ay 9), .ref (ay 10), .ref (ay 11), .ref (ay 12), .int 0, .int 0, .int 0, .int 0, .int 0, .int 0, .int 0, .int 0, .int 0, .ref (ay 13), .long 0, .long 0, .long 0, .ref (ay 14), .ref (ay 15), .ref (ay 16), .ref (ay 17)])), (ay 0, .inl (cs 1, 76, .inl (fun _ => 0))), (ay 6, .inl (cs 1, 3, .inl (fun _ => 0)))] := hD
  replace hq_1 : r_1 = (-2) := hq_1
  subst hq_1
  refine lv_aload_n hx hb dL_law_495 rfl (lv_at hl 1 rfl) ?_
  refine lv_aload_n hx hb dL_law_496 rfl (lv_at hl 3 rfl) ?_
  refine lv_iload_n hx hb dL_law_497 rfl (lv_at hl 0 rfl) ?_
  refine lv_iconst (v := 1) hx hb dL_law_498 (by decide) ?_
  refine lv_iadd hx hb dL_law_499 ?_
  refine cf_i 1 (by decide) ?_
  refine va_sld hx hb hX hbl hbA hS (vp_c (by decide)) dL_law_500 ?_
  refine cf_v (.int (xs 1)) rfl ?_
  refine aft_i (wr := []) hP hD hS hA [0, 1, 2] [] rfl rfl (by decide) (by decide) (run_v (As := [.int (xs 1)]) (rest := [.int (-2)]) hFix hK hE hP hD [0, 1, 2] (k_X9_cell l D cs _ y0 (xs 1) (ay 0) (ay 1) (ay 2) (ay 3) (ay 4) (ay 5) (ay 6) (ay 7) (ay 8) (ay 9) (ay 10) (ay 11) (ay 12) (ay 13) (ay 14) (ay 15) (ay 16) (ay 17)) (cwV 1 hts gl_35_X9_cell rfl rfl rfl (by decide +kernel) ⟨Nat.le_of_ble_eq_true rfl, Nat.le_of_ble_eq_true rfl⟩) rfl (by decide) rfl rfl rfl hl.1 rfl (Nat.le_of_ble_eq_true rfl) dL_law_501 ⟨Nat.le_of_ble_eq_true rfl, Nat.le_of_ble_eq_true rfl⟩) (fun r_2 u_2 H locs hq_2 hP hD hS => ?_)
  replace hq_2 : r_2 = (-2) := hq_2
  subst hq_2
  refine lv_icmp_eq (tgt := 2473) hx hb dL_law_504 (by decide) (fun _ => ?_) (fun h9 => absurd h9 (by decide))
  exact law_end l C0 hS (lv_sub hl [0, 3] rfl) (Nat.le_of_ble_eq_true rfl) (Nat.le_of_ble_eq_true rfl)

set_option maxHeartbeats 4000000 in
set_option maxRecDepth 100000 in
theorem law_case_5 {p : Program} {e : Env} {s : State} {m : MethodId} {below : List Frame} {meth : Method} {c : Code} (l : Launch) {b : Nat} {xs : Nat → Int32} (C0 : lw_At p s m meth c b 6 xs) {D : va_G} {cs : Nat → ClassId} (hK : va_K D vwCl (mtyA cs) s) (hE : mEnv s) {x0 y0 : Nat} {ax ay : Nat → Nat} {H : Heap} {locs : List Loc} {ls : Array Slot} (hP : va_P D vwCl (lawW cs x0 ax y0 ay) H) (hD : va_D (fun q : Nat => s.heap.size ≤ q) (lawW cs x0 ax y0 ay)) (hS : va_S (fun q : Nat => s.heap.size ≤ q) s.heap H locs) (hl : lv_has ls 4 [(3, .int 0), (2, .ref y0), (1, .ref x0), (0, .ref b)]) : W p l e room_1 s m #[Value.ref b] below meth c H locs 81 7838 (lw_Z below #[Value.ref b] s) (F0 m 509 ls []) := by
  obtain ⟨hx, hb, hr, hml, hown, hts, hX, hbl, hlocks, hgv⟩ := id C0
  have hA : ∀ q : Nat, s.heap.size ≤ q → (fun q : Nat => s.heap.size ≤ q) q := fun _ h => h
  have hbA : ¬ (fun q : Nat => s.heap.size ≤ q) b := Nat.not_le.mpr hbl
  have hFix := (⟨hx, hb, hml, hown, hts⟩ : CallFix p m c _ _ s #[Value.ref b] lw_tbl RL)
  replace hP := hP.sub (ws' := [(x0, .inr (8, [.ref (ax 0), .ref (ax 1), .ref (ax 2), .ref (ax 3), .ref (ax 4), .ref (ax 5), .ref (ax 6), .ref (ax 7), .ref (ax 8), .ref (ax 9)])), (ax 2, .inr (0, [.int 0, .int 0, .int 0, .int 0, .int 0, .int 0, .int 0, .int 0, .int 0, .int 0, .ref (ax 16), .ref (ax 17), .ref (ax 18), .ref (ax 19), .ref (ax 20)])), (ax 4, .inr (6, [.int 0, .int 0, .int 0, .long 0, .ref (ax 21), .ref (ax 22), .ref (ax 23), .ref (ax 24)])), (y0, .inr (9, [.int 0, .ref (ay 0), .ref (ay 1), .ref (ay 2), .ref (ay 3), .int 0, .ref (ay 4), .int 0, .int 0, .int 0, .int 0, .int 0, .int 0, .int (-1), .ref (ay 5), .ref (ay 6), .int 0, .int 0, .int 0, .ref (ay 7), .ref (ay 8), .ref (ay 9), .ref (ay 10), .ref (ay 11), .ref (ay 12), .int 0, .int 0, .int 0, .int 0, .int 0, .int 0, .int 0, .int 0, .int 0, .ref (ay 13), .long 0, .long 0, .long 0, .ref (ay 14), .ref (ay 15), .ref (ay 16), .ref (ay 17)])), (ay 0, .inl (cs 1, 76, .inl (fun _ => 0))), (ay 6, .inl (cs 1, 3, .inl (fun _ => 0)))]) [0, 9, 16, 62, 63, 69] rfl
  replace hD := hD.sub (ws' := [(x0, .inr (8, [.ref (ax 0), .ref (ax 1), .ref (ax 2), .ref (ax 3), .ref (ax 4), .ref (ax 5), .ref (ax 6), .ref (ax 7), .ref (ax 8), .ref (ax 9)])), (ax 2, .inr (0, [.int 0, .int 0, .int 0, .int 0, .int 0, .int 0, .int 0, .int 0, .int 0, .int 0, .ref (ax 16), .ref (ax 17), .ref (ax 18), .ref (ax 19), .ref (ax 20)])), (ax 4, .inr (6, [.int 0, .int 0, .int 0, .long 0, .ref (ax 21), .ref (ax 22), .ref (ax 23), .ref (ax 24)])), (y0, .inr (9, [.int 0, .ref (ay 0), .ref (ay 1), .ref (ay 2), .ref (ay 3), .int 0, .ref (ay 4), .int 0, .int 0, .int 0, .int 0, .int 0, .int 0, .int (-1), .ref (ay 5), .ref (ay 6), .int 0, .int 0, .int 0, .ref (ay 7), .ref (ay 8), .ref (ay 9), .ref (ay 10), .ref (ay 11), .ref (ay 12), .int 0, .int 0, .int 0, .int 0, .int 0, .int 0, .int 0, .int 0, .int 0, .ref (ay 13), .long 0, .long 0, .long 0, .ref (ay 14), .ref (ay 15), .ref (ay 16), .ref (ay 17)])), (ay 0, .inl (cs 1, 76, .inl (fun _ => 0))), (ay 6, .inl (cs 1, 3, .inl (fun _ => 0)))]) [0, 9, 16, 62, 63, 69] (by decide) rfl
  refine lv_aload_n hx hb dL_law_509 rfl (lv_at hl 2 rfl) ?_
  refine lv_aload_n hx hb dL_law_510 rfl (lv_at hl 3 rfl) ?_
  refine lv_iload_n hx hb dL_law_511 rfl (lv_at hl 0 rfl) ?_
  refine lv_iconst (v := 1) hx hb dL_law_512 (by decide) ?_
  refine lv_iadd hx hb dL_law_513 ?_
  refine cf_i 1 (by decide) ?_
  refine va_sld hx hb hX hbl hbA hS (vp_c (by decide)) dL_law_514 ?_
  refine cf_v (.int (xs 1)) rfl ?_
  refine lv_aload_n hx hb dL_law_515 rfl (lv_at hl 3 rfl) ?_
  refine lv_iload_n hx hb dL_law_516 rfl (lv_at hl 0 rfl) ?_
  refine lv_iconst (v := 2) hx hb dL_law_517 (by decide) ?_
  refine lv_iadd hx hb dL_law_518 ?_
  refine cf_i 2 (by decide) ?_
  refine va_sld hx hb hX hbl hbA hS (vp_c (by decide)) dL_law_519 ?_
  refine cf_v (.int (xs 2)) rfl ?_
  refine aft_i (wr := [(y0, .inr (9, [.int 0, .ref (ay 0), .ref (ay 1), .ref (ay 2), .ref (ay 3), .int 0, .ref (ay 4), .int 0, .int 0, .int 0, .int 0, .int 0, .int 0, .int (-1), .ref (ay 5), .ref (ay 6), .int 0, .int 0, .int 0, .ref (ay 7), .ref (ay 8), .ref (ay 9), .ref (ay 10), .ref (ay 11), .ref (ay 12), .int 0, .int 0, .int 0, .int 0, .int 0, .int 0, .int 0, .int 0, .int 0, .ref (ay 13), .long 0, .long 0, .long 0, .ref (ay 14), .ref (ay 15), .ref (ay 16), .ref (ay 17)])), (ay 0, .inl (cs 1, 76, .inl (fun _ => 0))), (ay 6, .inl (cs 1, 3, .inl (fun _ => 0)))]) hP hD hS hA [0, 1, 2] [3, 4, 5] rfl rfl (by decide) (by decide) (run_v (As := [.int (xs 1), .int (xs 2)]) (rest := []) hFix hK hE hP hD [0, 1, 2] (k_X8_rule l D cs _ x0 (xs 1) (xs 2) (ax 0) (ax 1) (ax 2) (ax 3) (ax 4) (ax 5) (ax 6) (ax 7) (ax 8) (ax 9) (ax 16) (ax 17) (ax 18) (ax 19) (ax 20) (ax 21) (ax 22) (ax 23) (ax 24)) (cwV 2 hts gl_36_X8_rule rfl rfl rfl (by decide +kernel) ⟨Nat.le_of_ble_eq_true rfl, Nat.le_of_ble_eq_true rfl⟩) rfl (by decide) rfl rfl rfl hl.1 rfl (Nat.le_of_ble_eq_true rfl) dL_law_520 ⟨Nat.le_of_ble_eq_true rfl, Nat.le_of_ble_eq_true rfl⟩) (fun r_1 u_1 H locs hq_1 hP hD hS => ?_)
  have hP : va_P D vwCl [(y0, .inr (9, [.int 0, .ref (ay 0), .ref (ay 1), .ref (ay 2), .ref (ay 3), .int 0, .ref (ay 4), .int 0, .int 0, .int 0, .int 0, .int 0, .int 0, .int (-1), .ref (ay 5), .ref (ay 6), .int 0, .int 0, .int 0, .ref (ay 7), .ref (ay 8), .ref (ay 9), .ref (ay 10), .ref (ay 11), .ref (ay 12), .int 0, .int 0, .int 0, .int 0, .int 0, .int 0, .int 0, .int 0, .int 0, .ref (ay 13), .long 0, .long 0, .long 0, .ref (ay 14), .ref (ay 15), .ref (ay 16), .ref (ay 17)])), (ay 0, .inl (cs 1, 76, .inl (fun _ => 0))), (ay 6, .inl (cs 1, 3, .inl (fun _ => 0)))] H := hP
  have hD : va_D (fun q : Nat => s.heap.size ≤ q) [(y0, .inr (9, [.int 0, .ref (ay 0), .ref (ay 1), .ref (ay 2), .ref (ay 3), .int 0, .ref (ay 4), .int 0, .int 0, .int 0, .int 0, .int 0, .int 0, .int (-1), .ref (ay 5), .ref (ay 6), .int 0, .int 0, .int 0, .ref (ay 7), .ref (ay 8), .ref (ay 9), .ref (ay 10), .ref (ay 11), .ref (ay 12), .int 0, .int 0, .int 0, .int 0, .int 0, .int 0, .int 0, .int 0, .int 0, .ref (ay 13), .long 0, .long 0, .long 0, .ref (ay 14), .ref (ay 15), .ref (ay 16), .ref (ay 17)])), (ay 0, .inl (cs 1, 76, .inl (fun _ => 0))), (ay 6, .inl (cs 1, 3, .inl (fun _ => 0)))] := hD
  replace hq_1 : r_1 = (-2) := hq_1
  subst hq_1
  refine lv_aload_n hx hb dL_law_523 rfl (lv_at hl 1 rfl) ?_
  refine lv_aload_n hx hb dL_law_524 rfl (lv_at hl 3 rfl) ?_
  refine lv_iload_n hx hb dL_law_525 rfl (lv_at hl 0 rfl) ?_
  refine lv_iconst (v := 1) hx hb dL_law_526 (by decide) ?_
  refine lv_iadd hx hb dL_law_527 ?_
  refine cf_i 1 (by decide) ?_
  refine va_sld hx hb hX hbl hbA hS (vp_c (by decide)) dL_law_528 ?_
  refine cf_v (.int (xs 1)) rfl ?_
  refine lv_aload_n hx hb dL_law_529 rfl (lv_at hl 3 rfl) ?_
  refine lv_iload_n hx hb dL_law_530 rfl (lv_at hl 0 rfl) ?_
  refine lv_iconst (v := 2) hx hb dL_law_531 (by decide) ?_
  refine lv_iadd hx hb dL_law_532 ?_
  refine cf_i 2 (by decide) ?_
  refine va_sld hx hb hX hbl hbA hS (vp_c (by decide)) dL_law_533 ?_
  refine cf_v (.int (xs 2)) rfl ?_
  refine aft_i (wr := []) hP hD hS hA [0, 1, 2] [] rfl rfl (by decide) (by decide) (run_v (As := [.int (xs 1), .int (xs 2)]) (rest := [.int (-2)]) hFix hK hE hP hD [0, 1, 2] (k_X9_rule l D cs _ y0 (xs 1) (xs 2) (ay 0) (ay 1) (ay 2) (ay 3) (ay 4) (ay 5) (ay 6) (ay 7) (ay 8) (ay 9) (ay 10) (ay 11) (ay 12) (ay 13) (ay 14) (ay 15) (ay 16) (ay 17)) (cwV 2 hts gl_40_X9_rule rfl rfl rfl (by decide +kernel) ⟨Nat.le_of_ble_eq_true rfl, Nat.le_of_ble_eq_true rfl⟩) rfl (by decide) rfl rfl rfl hl.1 rfl (Nat.le_of_ble_eq_true rfl) dL_law_534 ⟨Nat.le_of_ble_eq_true rfl, Nat.le_of_ble_eq_true rfl⟩) (fun r_2 u_2 H locs hq_2 hP hD hS => ?_)
  replace hq_2 : r_2 = (-2) := hq_2
  subst hq_2
  refine lv_icmp_eq (tgt := 2473) hx hb dL_law_537 (by decide) (fun _ => ?_) (fun h9 => absurd h9 (by decide))
  exact law_end l C0 hS (lv_sub hl [0, 3] rfl) (Nat.le_of_ble_eq_true rfl) (Nat.le_of_ble_eq_true rfl)

set_option maxHeartbeats 4000000 in
set_option maxRecDepth 100000 in
theorem law_case_6 {p : Program} {e : Env} {s : State} {m : MethodId} {below : List Frame} {meth : Method} {c : Code} (l : Launch) {b : Nat} {xs : Nat → Int32} (C0 : lw_At p s m meth c b 6 xs) {D : va_G} {cs : Nat → ClassId} (hK : va_K D vwCl (mtyA cs) s) (hE : mEnv s) {x0 y0 : Nat} {ax ay : Nat → Nat} {H : Heap} {locs : List Loc} {ls : Array Slot} (hP : va_P D vwCl (lawW cs x0 ax y0 ay) H) (hD : va_D (fun q : Nat => s.heap.size ≤ q) (lawW cs x0 ax y0 ay)) (hS : va_S (fun q : Nat => s.heap.size ≤ q) s.heap H locs) (hl : lv_has ls 4 [(3, .int 0), (2, .ref y0), (1, .ref x0), (0, .ref b)]) : W p l e room_1 s m #[Value.ref b] below meth c H locs 81 7838 (lw_Z below #[Value.ref b] s) (F0 m 542 ls []) := by
  obtain ⟨hx, hb, hr, hml, hown, hts, hX, hbl, hlocks, hgv⟩ := id C0
  have hA : ∀ q : Nat, s.heap.size ≤ q → (fun q : Nat => s.heap.size ≤ q) q := fun _ h => h
  have hbA : ¬ (fun q : Nat => s.heap.size ≤ q) b := Nat.not_le.mpr hbl
  have hFix := (⟨hx, hb, hml, hown, hts⟩ : CallFix p m c _ _ s #[Value.ref b] lw_tbl RL)
  replace hP := hP.sub (ws' := [(x0, .inr (8, [.ref (ax 0), .ref (ax 1), .ref (ax 2), .ref (ax 3), .ref (ax 4), .ref (ax 5), .ref (ax 6), .ref (ax 7), .ref (ax 8), .ref (ax 9)])), (ax 2, .inr (0, [.int 0, .int 0, .int 0, .int 0, .int 0, .int 0, .int 0, .int 0, .int 0, .int 0, .ref (ax 16), .ref (ax 17), .ref (ax 18), .ref (ax 19), .ref (ax 20)])), (ax 4, .inr (6, [.int 0, .int 0, .int 0, .long 0, .ref (ax 21), .ref (ax 22), .ref (ax 23), .ref (ax 24)])), (y0, .inr (9, [.int 0, .ref (ay 0), .ref (ay 1), .ref (ay 2), .ref (ay 3), .int 0, .ref (ay 4), .int 0, .int 0, .int 0, .int 0, .int 0, .int 0, .int (-1), .ref (ay 5), .ref (ay 6), .int 0, .int 0, .int 0, .ref (ay 7), .ref (ay 8), .ref (ay 9), .ref (ay 10), .ref (ay 11), .ref (ay 12), .int 0, .int 0, .int 0, .int 0, .int 0, .int 0, .int 0, .int 0, .int 0, .ref (ay 13), .long 0, .long 0, .long 0, .ref (ay 14), .ref (ay 15), .ref (ay 16), .ref (ay 17)])), (ay 0, .inl (cs 1, 76, .inl (fun _ => 0))), (ay 6, .inl (cs 1, 3, .inl (fun _ => 0)))]) [0, 9, 16, 62, 63, 69] rfl
  replace hD := hD.sub (ws' := [(x0, .inr (8, [.ref (ax 0), .ref (ax 1), .ref (ax 2), .ref (ax 3), .ref (ax 4), .ref (ax 5), .ref (ax 6), .ref (ax 7), .ref (ax 8), .ref (ax 9)])), (ax 2, .inr (0, [.int 0, .int 0, .int 0, .int 0, .int 0, .int 0, .int 0, .int 0, .int 0, .int 0, .ref (ax 16), .ref (ax 17), .ref (ax 18), .ref (ax 19), .ref (ax 20)])), (ax 4, .inr (6, [.int 0, .int 0, .int 0, .long 0, .ref (ax 21), .ref (ax 22), .ref (ax 23), .ref (ax 24)])), (y0, .inr (9, [.int 0, .ref (ay 0), .ref (ay 1), .ref (ay 2), .ref (ay 3), .int 0, .ref (ay 4), .int 0, .int 0, .int 0, .int 0, .int 0, .int 0, .int (-1), .ref (ay 5), .ref (ay 6), .int 0, .int 0, .int 0, .ref (ay 7), .ref (ay 8), .ref (ay 9), .ref (ay 10), .ref (ay 11), .ref (ay 12), .int 0, .int 0, .int 0, .int 0, .int 0, .int 0, .int 0, .int 0, .int 0, .ref (ay 13), .long 0, .long 0, .long 0, .ref (ay 14), .ref (ay 15), .ref (ay 16), .ref (ay 17)])), (ay 0, .inl (cs 1, 76, .inl (fun _ => 0))), (ay 6, .inl (cs 1, 3, .inl (fun _ => 0)))]) [0, 9, 16, 62, 63, 69] (by decide) rfl
  refine lv_aload_n hx hb dL_law_542 rfl (lv_at hl 2 rfl) ?_
  refine lv_aload_n hx hb dL_law_543 rfl (lv_at hl 3 rfl) ?_
  refine lv_iload_n hx hb dL_law_544 rfl (lv_at hl 0 rfl) ?_
  refine lv_iconst (v := 1) hx hb dL_law_545 (by decide) ?_
  refine lv_iadd hx hb dL_law_546 ?_
  refine cf_i 1 (by decide) ?_
  refine va_sld hx hb hX hbl hbA hS (vp_c (by decide)) dL_law_547 ?_
  refine cf_v (.int (xs 1)) rfl ?_
  refine lv_aload_n hx hb dL_law_548 rfl (lv_at hl 3 rfl) ?_
  refine lv_iload_n hx hb dL_law_549 rfl (lv_at hl 0 rfl) ?_
  refine lv_iconst (v := 2) hx hb dL_law_550 (by decide) ?_
  refine lv_iadd hx hb dL_law_551 ?_
  refine cf_i 2 (by decide) ?_
  refine va_sld hx hb hX hbl hbA hS (vp_c (by decide)) dL_law_552 ?_
  refine cf_v (.int (xs 2)) rfl ?_
  refine aft_i (wr := [(y0, .inr (9, [.int 0, .ref (ay 0), .ref (ay 1), .ref (ay 2), .ref (ay 3), .int 0, .ref (ay 4), .int 0, .int 0, .int 0, .int 0, .int 0, .int 0, .int (-1), .ref (ay 5), .ref (ay 6), .int 0, .int 0, .int 0, .ref (ay 7), .ref (ay 8), .ref (ay 9), .ref (ay 10), .ref (ay 11), .ref (ay 12), .int 0, .int 0, .int 0, .int 0, .int 0, .int 0, .int 0, .int 0, .int 0, .ref (ay 13), .long 0, .long 0, .long 0, .ref (ay 14), .ref (ay 15), .ref (ay 16), .ref (ay 17)])), (ay 0, .inl (cs 1, 76, .inl (fun _ => 0))), (ay 6, .inl (cs 1, 3, .inl (fun _ => 0)))]) hP hD hS hA [0, 1, 2] [3, 4, 5] rfl rfl (by decide) (by decide) (run_v (As := [.int (xs 1), .int (xs 2)]) (rest := []) hFix hK hE hP hD [0, 1, 2] (k_X8_op l D cs _ x0 (xs 1) (xs 2) (ax 0) (ax 1) (ax 2) (ax 3) (ax 4) (ax 5) (ax 6) (ax 7) (ax 8) (ax 9) (ax 16) (ax 17) (ax 18) (ax 19) (ax 20) (ax 21) (ax 22) (ax 23) (ax 24)) (cwV 2 hts gl_41_X8_op rfl rfl rfl (by decide +kernel) ⟨Nat.le_of_ble_eq_true rfl, Nat.le_of_ble_eq_true rfl⟩) rfl (by decide) rfl rfl rfl hl.1 rfl (Nat.le_of_ble_eq_true rfl) dL_law_553 ⟨Nat.le_of_ble_eq_true rfl, Nat.le_of_ble_eq_true rfl⟩) (fun r_1 u_1 H locs hq_1 hP hD hS => ?_)
  have hP : va_P D vwCl [(y0, .inr (9, [.int 0, .ref (ay 0), .ref (ay 1), .ref (ay 2), .ref (ay 3), .int 0, .ref (ay 4), .int 0, .int 0, .int 0, .int 0, .int 0, .int 0, .int (-1), .ref (ay 5), .ref (ay 6), .int 0, .int 0, .int 0, .ref (ay 7), .ref (ay 8), .ref (ay 9), .ref (ay 10), .ref (ay 11), .ref (ay 12), .int 0, .int 0, .int 0, .int 0, .int 0, .int 0, .int 0, .int 0, .int 0, .ref (ay 13), .long 0, .long 0, .long 0, .ref (ay 14), .ref (ay 15), .ref (ay 16), .ref (ay 17)])), (ay 0, .inl (cs 1, 76, .inl (fun _ => 0))), (ay 6, .inl (cs 1, 3, .inl (fun _ => 0)))] H := hP
  have hD : va_D (fun q : Nat => s.heap.size ≤ q) [(y0, .inr (9, [.int 0, .ref (ay 0), .ref (ay 1), .ref (ay 2), .ref (ay 3), .int 0, .ref (ay 4), .int 0, .int 0, .int 0, .int 0, .int 0, .int 0, .int (-1), .ref (ay 5), .ref (ay 6), .int 0, .int 0, .int 0, .ref (ay 7), .ref (ay 8), .ref (ay 9), .ref (ay 10), .ref (ay 11), .ref (ay 12), .int 0, .int 0, .int 0, .int 0, .int 0, .int 0, .int 0, .int 0, .int 0, .ref (ay 13), .long 0, .long 0, .long 0, .ref (ay 14), .ref (ay 15), .ref (ay 16), .ref (ay 17)])), (ay 0, .inl (cs 1, 76, .inl (fun _ => 0))), (ay 6, .inl (cs 1, 3, .inl (fun _ => 0)))] := hD
  replace hq_1 : r_1 = (-2) := hq_1
  subst hq_1
  refine lv_aload_n hx hb dL_law_556 rfl (lv_at hl 1 rfl) ?_
  refine lv_aload_n hx hb dL_law_557 rfl (lv_at hl 3 rfl) ?_
  refine lv_iload_n hx hb dL_law_558 rfl (lv_at hl 0 rfl) ?_
  refine lv_iconst (v := 1) hx hb dL_law_559 (by decide) ?_
  refine lv_iadd hx hb dL_law_560 ?_
  refine cf_i 1 (by decide) ?_
  refine va_sld hx hb hX hbl hbA hS (vp_c (by decide)) dL_law_561 ?_
  refine cf_v (.int (xs 1)) rfl ?_
  refine lv_aload_n hx hb dL_law_562 rfl (lv_at hl 3 rfl) ?_
  refine lv_iload_n hx hb dL_law_563 rfl (lv_at hl 0 rfl) ?_
  refine lv_iconst (v := 2) hx hb dL_law_564 (by decide) ?_
  refine lv_iadd hx hb dL_law_565 ?_
  refine cf_i 2 (by decide) ?_
  refine va_sld hx hb hX hbl hbA hS (vp_c (by decide)) dL_law_566 ?_
  refine cf_v (.int (xs 2)) rfl ?_
  refine aft_i (wr := []) hP hD hS hA [0, 1, 2] [] rfl rfl (by decide) (by decide) (run_v (As := [.int (xs 1), .int (xs 2)]) (rest := [.int (-2)]) hFix hK hE hP hD [0, 1, 2] (k_X9_op l D cs _ y0 (xs 1) (xs 2) (ay 0) (ay 1) (ay 2) (ay 3) (ay 4) (ay 5) (ay 6) (ay 7) (ay 8) (ay 9) (ay 10) (ay 11) (ay 12) (ay 13) (ay 14) (ay 15) (ay 16) (ay 17)) (cwV 2 hts gl_44_X9_op rfl rfl rfl (by decide +kernel) ⟨Nat.le_of_ble_eq_true rfl, Nat.le_of_ble_eq_true rfl⟩) rfl (by decide) rfl rfl rfl hl.1 rfl (Nat.le_of_ble_eq_true rfl) dL_law_567 ⟨Nat.le_of_ble_eq_true rfl, Nat.le_of_ble_eq_true rfl⟩) (fun r_2 u_2 H locs hq_2 hP hD hS => ?_)
  replace hq_2 : r_2 = (-2) := hq_2
  subst hq_2
  refine lv_icmp_eq (tgt := 2473) hx hb dL_law_570 (by decide) (fun _ => ?_) (fun h9 => absurd h9 (by decide))
  exact law_end l C0 hS (lv_sub hl [0, 3] rfl) (Nat.le_of_ble_eq_true rfl) (Nat.le_of_ble_eq_true rfl)

set_option maxHeartbeats 4000000 in
set_option maxRecDepth 100000 in
theorem law_case_7 {p : Program} {e : Env} {s : State} {m : MethodId} {below : List Frame} {meth : Method} {c : Code} (l : Launch) {b : Nat} {xs : Nat → Int32} (C0 : lw_At p s m meth c b 6 xs) {D : va_G} {cs : Nat → ClassId} (hK : va_K D vwCl (mtyA cs) s) (hE : mEnv s) {x0 y0 : Nat} {ax ay : Nat → Nat} {H : Heap} {locs : List Loc} {ls : Array Slot} (hP : va_P D vwCl (lawW cs x0 ax y0 ay) H) (hD : va_D (fun q : Nat => s.heap.size ≤ q) (lawW cs x0 ax y0 ay)) (hS : va_S (fun q : Nat => s.heap.size ≤ q) s.heap H locs) (hl : lv_has ls 4 [(3, .int 0), (2, .ref y0), (1, .ref x0), (0, .ref b)]) : W p l e room_1 s m #[Value.ref b] below meth c H locs 81 7838 (lw_Z below #[Value.ref b] s) (F0 m 575 ls []) := by
  obtain ⟨hx, hb, hr, hml, hown, hts, hX, hbl, hlocks, hgv⟩ := id C0
  have hA : ∀ q : Nat, s.heap.size ≤ q → (fun q : Nat => s.heap.size ≤ q) q := fun _ h => h
  have hbA : ¬ (fun q : Nat => s.heap.size ≤ q) b := Nat.not_le.mpr hbl
  have hFix := (⟨hx, hb, hml, hown, hts⟩ : CallFix p m c _ _ s #[Value.ref b] lw_tbl RL)
  replace hP := hP.sub (ws' := [(x0, .inr (8, [.ref (ax 0), .ref (ax 1), .ref (ax 2), .ref (ax 3), .ref (ax 4), .ref (ax 5), .ref (ax 6), .ref (ax 7), .ref (ax 8), .ref (ax 9)])), (ax 2, .inr (0, [.int 0, .int 0, .int 0, .int 0, .int 0, .int 0, .int 0, .int 0, .int 0, .int 0, .ref (ax 16), .ref (ax 17), .ref (ax 18), .ref (ax 19), .ref (ax 20)])), (ax 4, .inr (6, [.int 0, .int 0, .int 0, .long 0, .ref (ax 21), .ref (ax 22), .ref (ax 23), .ref (ax 24)])), (y0, .inr (9, [.int 0, .ref (ay 0), .ref (ay 1), .ref (ay 2), .ref (ay 3), .int 0, .ref (ay 4), .int 0, .int 0, .int 0, .int 0, .int 0, .int 0, .int (-1), .ref (ay 5), .ref (ay 6), .int 0, .int 0, .int 0, .ref (ay 7), .ref (ay 8), .ref (ay 9), .ref (ay 10), .ref (ay 11), .ref (ay 12), .int 0, .int 0, .int 0, .int 0, .int 0, .int 0, .int 0, .int 0, .int 0, .ref (ay 13), .long 0, .long 0, .long 0, .ref (ay 14), .ref (ay 15), .ref (ay 16), .ref (ay 17)])), (ay 0, .inl (cs 1, 76, .inl (fun _ => 0))), (ay 6, .inl (cs 1, 3, .inl (fun _ => 0)))]) [0, 9, 16, 62, 63, 69] rfl
  replace hD := hD.sub (ws' := [(x0, .inr (8, [.ref (ax 0), .ref (ax 1), .ref (ax 2), .ref (ax 3), .ref (ax 4), .ref (ax 5), .ref (ax 6), .ref (ax 7), .ref (ax 8), .ref (ax 9)])), (ax 2, .inr (0, [.int 0, .int 0, .int 0, .int 0, .int 0, .int 0, .int 0, .int 0, .int 0, .int 0, .ref (ax 16), .ref (ax 17), .ref (ax 18), .ref (ax 19), .ref (ax 20)])), (ax 4, .inr (6, [.int 0, .int 0, .int 0, .long 0, .ref (ax 21), .ref (ax 22), .ref (ax 23), .ref (ax 24)])), (y0, .inr (9, [.int 0, .ref (ay 0), .ref (ay 1), .ref (ay 2), .ref (ay 3), .int 0, .ref (ay 4), .int 0, .int 0, .int 0, .int 0, .int 0, .int 0, .int (-1), .ref (ay 5), .ref (ay 6), .int 0, .int 0, .int 0, .ref (ay 7), .ref (ay 8), .ref (ay 9), .ref (ay 10), .ref (ay 11), .ref (ay 12), .int 0, .int 0, .int 0, .int 0, .int 0, .int 0, .int 0, .int 0, .int 0, .ref (ay 13), .long 0, .long 0, .long 0, .ref (ay 14), .ref (ay 15), .ref (ay 16), .ref (ay 17)])), (ay 0, .inl (cs 1, 76, .inl (fun _ => 0))), (ay 6, .inl (cs 1, 3, .inl (fun _ => 0)))]) [0, 9, 16, 62, 63, 69] (by decide) rfl
  refine lv_aload_n hx hb dL_law_575 rfl (lv_at hl 2 rfl) ?_
  refine aft_i (wr := [(y0, .inr (9, [.int 0, .ref (ay 0), .ref (ay 1), .ref (ay 2), .ref (ay 3), .int 0, .ref (ay 4), .int 0, .int 0, .int 0, .int 0, .int 0, .int 0, .int (-1), .ref (ay 5), .ref (ay 6), .int 0, .int 0, .int 0, .ref (ay 7), .ref (ay 8), .ref (ay 9), .ref (ay 10), .ref (ay 11), .ref (ay 12), .int 0, .int 0, .int 0, .int 0, .int 0, .int 0, .int 0, .int 0, .int 0, .ref (ay 13), .long 0, .long 0, .long 0, .ref (ay 14), .ref (ay 15), .ref (ay 16), .ref (ay 17)])), (ay 0, .inl (cs 1, 76, .inl (fun _ => 0))), (ay 6, .inl (cs 1, 3, .inl (fun _ => 0)))]) hP hD hS hA [0, 1, 2] [3, 4, 5] rfl rfl (by decide) (by decide) (run_v (As := []) (rest := []) hFix hK hE hP hD [0, 1, 2] (k_X8_states l D cs _ x0 (ax 0) (ax 1) (ax 2) (ax 3) (ax 4) (ax 5) (ax 6) (ax 7) (ax 8) (ax 9) (ax 16) (ax 17) (ax 18) (ax 19) (ax 20) (ax 21) (ax 22) (ax 23) (ax 24)) (cwV 0 hts gl_45_X8_states rfl rfl rfl (by decide +kernel) ⟨Nat.le_of_ble_eq_true rfl, Nat.le_of_ble_eq_true rfl⟩) rfl (by decide) rfl rfl rfl hl.1 rfl (Nat.le_of_ble_eq_true rfl) dL_law_576 ⟨Nat.le_of_ble_eq_true rfl, Nat.le_of_ble_eq_true rfl⟩) (fun r_1 u_1 H locs hq_1 hP hD hS => ?_)
  have hP : va_P D vwCl [(y0, .inr (9, [.int 0, .ref (ay 0), .ref (ay 1), .ref (ay 2), .ref (ay 3), .int 0, .ref (ay 4), .int 0, .int 0, .int 0, .int 0, .int 0, .int 0, .int (-1), .ref (ay 5), .ref (ay 6), .int 0, .int 0, .int 0, .ref (ay 7), .ref (ay 8), .ref (ay 9), .ref (ay 10), .ref (ay 11), .ref (ay 12), .int 0, .int 0, .int 0, .int 0, .int 0, .int 0, .int 0, .int 0, .int 0, .ref (ay 13), .long 0, .long 0, .long 0, .ref (ay 14), .ref (ay 15), .ref (ay 16), .ref (ay 17)])), (ay 0, .inl (cs 1, 76, .inl (fun _ => 0))), (ay 6, .inl (cs 1, 3, .inl (fun _ => 0)))] H := hP
  have hD : va_D (fun q : Nat => s.heap.size ≤ q) [(y0, .inr (9, [.int 0, .ref (ay 0), .ref (ay 1), .ref (ay 2), .ref (ay 3), .int 0, .ref (ay 4), .int 0, .int 0, .int 0, .int 0, .int 0, .int 0, .int (-1), .ref (ay 5), .ref (ay 6), .int 0, .int 0, .int 0, .ref (ay 7), .ref (ay 8), .ref (ay 9), .ref (ay 10), .ref (ay 11), .ref (ay 12), .int 0, .int 0, .int 0, .int 0, .int 0, .int 0, .int 0, .int 0, .int 0, .ref (ay 13), .long 0, .long 0, .long 0, .ref (ay 14), .ref (ay 15), .ref (ay 16), .ref (ay 17)])), (ay 0, .inl (cs 1, 76, .inl (fun _ => 0))), (ay 6, .inl (cs 1, 3, .inl (fun _ => 0)))] := hD
  replace hq_1 : r_1 = (-2) := hq_1
  subst hq_1
  refine lv_aload_n hx hb dL_law_579 rfl (lv_at hl 1 rfl) ?_
  refine aft_i (wr := []) hP hD hS hA [0, 1, 2] [] rfl rfl (by decide) (by decide) (run_v (As := []) (rest := [.int (-2)]) hFix hK hE hP hD [0, 1, 2] (k_X9_states l D cs _ y0 (ay 0) (ay 1) (ay 2) (ay 3) (ay 4) (ay 5) (ay 6) (ay 7) (ay 8) (ay 9) (ay 10) (ay 11) (ay 12) (ay 13) (ay 14) (ay 15) (ay 16) (ay 17)) (cwV 0 hts gl_48_X9_states rfl rfl rfl (by decide +kernel) ⟨Nat.le_of_ble_eq_true rfl, Nat.le_of_ble_eq_true rfl⟩) rfl (by decide) rfl rfl rfl hl.1 rfl (Nat.le_of_ble_eq_true rfl) dL_law_580 ⟨Nat.le_of_ble_eq_true rfl, Nat.le_of_ble_eq_true rfl⟩) (fun r_2 u_2 H locs hq_2 hP hD hS => ?_)
  replace hq_2 : r_2 = (-2) := hq_2
  subst hq_2
  refine lv_icmp_eq (tgt := 2473) hx hb dL_law_583 (by decide) (fun _ => ?_) (fun h9 => absurd h9 (by decide))
  exact law_end l C0 hS (lv_sub hl [0, 3] rfl) (Nat.le_of_ble_eq_true rfl) (Nat.le_of_ble_eq_true rfl)

set_option maxHeartbeats 4000000 in
set_option maxRecDepth 100000 in
theorem law_case_8 {p : Program} {e : Env} {s : State} {m : MethodId} {below : List Frame} {meth : Method} {c : Code} (l : Launch) {b : Nat} {xs : Nat → Int32} (C0 : lw_At p s m meth c b 6 xs) {D : va_G} {cs : Nat → ClassId} (hK : va_K D vwCl (mtyA cs) s) (hE : mEnv s) {x0 y0 : Nat} {ax ay : Nat → Nat} {H : Heap} {locs : List Loc} {ls : Array Slot} (hP : va_P D vwCl (lawW cs x0 ax y0 ay) H) (hD : va_D (fun q : Nat => s.heap.size ≤ q) (lawW cs x0 ax y0 ay)) (hS : va_S (fun q : Nat => s.heap.size ≤ q) s.heap H locs) (hl : lv_has ls 4 [(3, .int 0), (2, .ref y0), (1, .ref x0), (0, .ref b)]) : W p l e room_1 s m #[Value.ref b] below meth c H locs 81 7838 (lw_Z below #[Value.ref b] s) (F0 m 588 ls []) := by
  obtain ⟨hx, hb, hr, hml, hown, hts, hX, hbl, hlocks, hgv⟩ := id C0
  have hA : ∀ q : Nat, s.heap.size ≤ q → (fun q : Nat => s.heap.size ≤ q) q := fun _ h => h
  have hbA : ¬ (fun q : Nat => s.heap.size ≤ q) b := Nat.not_le.mpr hbl
  have hFix := (⟨hx, hb, hml, hown, hts⟩ : CallFix p m c _ _ s #[Value.ref b] lw_tbl RL)
  replace hP := hP.sub (ws' := [(x0, .inr (8, [.ref (ax 0), .ref (ax 1), .ref (ax 2), .ref (ax 3), .ref (ax 4), .ref (ax 5), .ref (ax 6), .ref (ax 7), .ref (ax 8), .ref (ax 9)])), (ax 2, .inr (0, [.int 0, .int 0, .int 0, .int 0, .int 0, .int 0, .int 0, .int 0, .int 0, .int 0, .ref (ax 16), .ref (ax 17), .ref (ax 18), .ref (ax 19), .ref (ax 20)])), (ax 4, .inr (6, [.int 0, .int 0, .int 0, .long 0, .ref (ax 21), .ref (ax 22), .ref (ax 23), .ref (ax 24)])), (y0, .inr (9, [.int 0, .ref (ay 0), .ref (ay 1), .ref (ay 2), .ref (ay 3), .int 0, .ref (ay 4), .int 0, .int 0, .int 0, .int 0, .int 0, .int 0, .int (-1), .ref (ay 5), .ref (ay 6), .int 0, .int 0, .int 0, .ref (ay 7), .ref (ay 8), .ref (ay 9), .ref (ay 10), .ref (ay 11), .ref (ay 12), .int 0, .int 0, .int 0, .int 0, .int 0, .int 0, .int 0, .int 0, .int 0, .ref (ay 13), .long 0, .long 0, .long 0, .ref (ay 14), .ref (ay 15), .ref (ay 16), .ref (ay 17)])), (ay 0, .inl (cs 1, 76, .inl (fun _ => 0))), (ay 6, .inl (cs 1, 3, .inl (fun _ => 0)))]) [0, 9, 16, 62, 63, 69] rfl
  replace hD := hD.sub (ws' := [(x0, .inr (8, [.ref (ax 0), .ref (ax 1), .ref (ax 2), .ref (ax 3), .ref (ax 4), .ref (ax 5), .ref (ax 6), .ref (ax 7), .ref (ax 8), .ref (ax 9)])), (ax 2, .inr (0, [.int 0, .int 0, .int 0, .int 0, .int 0, .int 0, .int 0, .int 0, .int 0, .int 0, .ref (ax 16), .ref (ax 17), .ref (ax 18), .ref (ax 19), .ref (ax 20)])), (ax 4, .inr (6, [.int 0, .int 0, .int 0, .long 0, .ref (ax 21), .ref (ax 22), .ref (ax 23), .ref (ax 24)])), (y0, .inr (9, [.int 0, .ref (ay 0), .ref (ay 1), .ref (ay 2), .ref (ay 3), .int 0, .ref (ay 4), .int 0, .int 0, .int 0, .int 0, .int 0, .int 0, .int (-1), .ref (ay 5), .ref (ay 6), .int 0, .int 0, .int 0, .ref (ay 7), .ref (ay 8), .ref (ay 9), .ref (ay 10), .ref (ay 11), .ref (ay 12), .int 0, .int 0, .int 0, .int 0, .int 0, .int 0, .int 0, .int 0, .int 0, .ref (ay 13), .long 0, .long 0, .long 0, .ref (ay 14), .ref (ay 15), .ref (ay 16), .ref (ay 17)])), (ay 0, .inl (cs 1, 76, .inl (fun _ => 0))), (ay 6, .inl (cs 1, 3, .inl (fun _ => 0)))]) [0, 9, 16, 62, 63, 69] (by decide) rfl
  refine lv_aload_n hx hb dL_law_588 rfl (lv_at hl 2 rfl) ?_
  refine lv_aload_n hx hb dL_law_589 rfl (lv_at hl 3 rfl) ?_
  refine lv_iload_n hx hb dL_law_590 rfl (lv_at hl 0 rfl) ?_
  refine lv_iconst (v := 1) hx hb dL_law_591 (by decide) ?_
  refine lv_iadd hx hb dL_law_592 ?_
  refine cf_i 1 (by decide) ?_
  refine va_sld hx hb hX hbl hbA hS (vp_c (by decide)) dL_law_593 ?_
  refine cf_v (.int (xs 1)) rfl ?_
  refine lv_aload_n hx hb dL_law_594 rfl (lv_at hl 3 rfl) ?_
  refine lv_iload_n hx hb dL_law_595 rfl (lv_at hl 0 rfl) ?_
  refine lv_iconst (v := 2) hx hb dL_law_596 (by decide) ?_
  refine lv_iadd hx hb dL_law_597 ?_
  refine cf_i 2 (by decide) ?_
  refine va_sld hx hb hX hbl hbA hS (vp_c (by decide)) dL_law_598 ?_
  refine cf_v (.int (xs 2)) rfl ?_
  refine aft_i (wr := [(y0, .inr (9, [.int 0, .ref (ay 0), .ref (ay 1), .ref (ay 2), .ref (ay 3), .int 0, .ref (ay 4), .int 0, .int 0, .int 0, .int 0, .int 0, .int 0, .int (-1), .ref (ay 5), .ref (ay 6), .int 0, .int 0, .int 0, .ref (ay 7), .ref (ay 8), .ref (ay 9), .ref (ay 10), .ref (ay 11), .ref (ay 12), .int 0, .int 0, .int 0, .int 0, .int 0, .int 0, .int 0, .int 0, .int 0, .ref (ay 13), .long 0, .long 0, .long 0, .ref (ay 14), .ref (ay 15), .ref (ay 16), .ref (ay 17)])), (ay 0, .inl (cs 1, 76, .inl (fun _ => 0))), (ay 6, .inl (cs 1, 3, .inl (fun _ => 0)))]) hP hD hS hA [0, 1, 2] [3, 4, 5] rfl rfl (by decide) (by decide) (run_v (As := [.int (xs 1), .int (xs 2)]) (rest := []) hFix hK hE hP hD [0, 1, 2] (k_X8_value l D cs _ x0 (xs 1) (xs 2) (ax 0) (ax 1) (ax 2) (ax 3) (ax 4) (ax 5) (ax 6) (ax 7) (ax 8) (ax 9) (ax 16) (ax 17) (ax 18) (ax 19) (ax 20) (ax 21) (ax 22) (ax 23) (ax 24)) (cwV 2 hts gl_49_X8_value rfl rfl rfl (by decide +kernel) ⟨Nat.le_of_ble_eq_true rfl, Nat.le_of_ble_eq_true rfl⟩) rfl (by decide) rfl rfl rfl hl.1 rfl (Nat.le_of_ble_eq_true rfl) dL_law_599 ⟨Nat.le_of_ble_eq_true rfl, Nat.le_of_ble_eq_true rfl⟩) (fun r_1 u_1 H locs hq_1 hP hD hS => ?_)
  have hP : va_P D vwCl [(y0, .inr (9, [.int 0, .ref (ay 0), .ref (ay 1), .ref (ay 2), .ref (ay 3), .int 0, .ref (ay 4), .int 0, .int 0, .int 0, .int 0, .int 0, .int 0, .int (-1), .ref (ay 5), .ref (ay 6), .int 0, .int 0, .int 0, .ref (ay 7), .ref (ay 8), .ref (ay 9), .ref (ay 10), .ref (ay 11), .ref (ay 12), .int 0, .int 0, .int 0, .int 0, .int 0, .int 0, .int 0, .int 0, .int 0, .ref (ay 13), .long 0, .long 0, .long 0, .ref (ay 14), .ref (ay 15), .ref (ay 16), .ref (ay 17)])), (ay 0, .inl (cs 1, 76, .inl (fun _ => 0))), (ay 6, .inl (cs 1, 3, .inl (fun _ => 0)))] H := hP
  have hD : va_D (fun q : Nat => s.heap.size ≤ q) [(y0, .inr (9, [.int 0, .ref (ay 0), .ref (ay 1), .ref (ay 2), .ref (ay 3), .int 0, .ref (ay 4), .int 0, .int 0, .int 0, .int 0, .int 0, .int 0, .int (-1), .ref (ay 5), .ref (ay 6), .int 0, .int 0, .int 0, .ref (ay 7), .ref (ay 8), .ref (ay 9), .ref (ay 10), .ref (ay 11), .ref (ay 12), .int 0, .int 0, .int 0, .int 0, .int 0, .int 0, .int 0, .int 0, .int 0, .ref (ay 13), .long 0, .long 0, .long 0, .ref (ay 14), .ref (ay 15), .ref (ay 16), .ref (ay 17)])), (ay 0, .inl (cs 1, 76, .inl (fun _ => 0))), (ay 6, .inl (cs 1, 3, .inl (fun _ => 0)))] := hD
  replace hq_1 : r_1 = (-2) := hq_1
  subst hq_1
  refine lv_aload_n hx hb dL_law_602 rfl (lv_at hl 1 rfl) ?_
  refine lv_aload_n hx hb dL_law_603 rfl (lv_at hl 3 rfl) ?_
  refine lv_iload_n hx hb dL_law_604 rfl (lv_at hl 0 rfl) ?_
  refine lv_iconst (v := 1) hx hb dL_law_605 (by decide) ?_
  refine lv_iadd hx hb dL_law_606 ?_
  refine cf_i 1 (by decide) ?_
  refine va_sld hx hb hX hbl hbA hS (vp_c (by decide)) dL_law_607 ?_
  refine cf_v (.int (xs 1)) rfl ?_
  refine lv_aload_n hx hb dL_law_608 rfl (lv_at hl 3 rfl) ?_
  refine lv_iload_n hx hb dL_law_609 rfl (lv_at hl 0 rfl) ?_
  refine lv_iconst (v := 2) hx hb dL_law_610 (by decide) ?_
  refine lv_iadd hx hb dL_law_611 ?_
  refine cf_i 2 (by decide) ?_
  refine va_sld hx hb hX hbl hbA hS (vp_c (by decide)) dL_law_612 ?_
  refine cf_v (.int (xs 2)) rfl ?_
  refine aft_i (wr := []) hP hD hS hA [0, 1, 2] [] rfl rfl (by decide) (by decide) (run_v (As := [.int (xs 1), .int (xs 2)]) (rest := [.int (-2)]) hFix hK hE hP hD [0, 1, 2] (k_X9_value l D cs _ y0 (xs 1) (xs 2) (ay 0) (ay 1) (ay 2) (ay 3) (ay 4) (ay 5) (ay 6) (ay 7) (ay 8) (ay 9) (ay 10) (ay 11) (ay 12) (ay 13) (ay 14) (ay 15) (ay 16) (ay 17)) (cwV 2 hts gl_52_X9_value rfl rfl rfl (by decide +kernel) ⟨Nat.le_of_ble_eq_true rfl, Nat.le_of_ble_eq_true rfl⟩) rfl (by decide) rfl rfl rfl hl.1 rfl (Nat.le_of_ble_eq_true rfl) dL_law_613 ⟨Nat.le_of_ble_eq_true rfl, Nat.le_of_ble_eq_true rfl⟩) (fun r_2 u_2 H locs hq_2 hP hD hS => ?_)
  replace hq_2 : r_2 = (-2) := hq_2
  subst hq_2
  refine lv_icmp_eq (tgt := 2473) hx hb dL_law_616 (by decide) (fun _ => ?_) (fun h9 => absurd h9 (by decide))
  exact law_end l C0 hS (lv_sub hl [0, 3] rfl) (Nat.le_of_ble_eq_true rfl) (Nat.le_of_ble_eq_true rfl)

set_option maxHeartbeats 4000000 in
set_option maxRecDepth 100000 in
theorem law_case_9 {p : Program} {e : Env} {s : State} {m : MethodId} {below : List Frame} {meth : Method} {c : Code} (l : Launch) {b : Nat} {xs : Nat → Int32} (C0 : lw_At p s m meth c b 6 xs) {D : va_G} {cs : Nat → ClassId} (hK : va_K D vwCl (mtyA cs) s) (hE : mEnv s) {x0 y0 : Nat} {ax ay : Nat → Nat} {H : Heap} {locs : List Loc} {ls : Array Slot} (hP : va_P D vwCl (lawW cs x0 ax y0 ay) H) (hD : va_D (fun q : Nat => s.heap.size ≤ q) (lawW cs x0 ax y0 ay)) (hS : va_S (fun q : Nat => s.heap.size ≤ q) s.heap H locs) (hl : lv_has ls 4 [(3, .int 0), (2, .ref y0), (1, .ref x0), (0, .ref b)]) : W p l e room_1 s m #[Value.ref b] below meth c H locs 81 7838 (lw_Z below #[Value.ref b] s) (F0 m 621 ls []) := by
  obtain ⟨hx, hb, hr, hml, hown, hts, hX, hbl, hlocks, hgv⟩ := id C0
  have hA : ∀ q : Nat, s.heap.size ≤ q → (fun q : Nat => s.heap.size ≤ q) q := fun _ h => h
  have hbA : ¬ (fun q : Nat => s.heap.size ≤ q) b := Nat.not_le.mpr hbl
  have hFix := (⟨hx, hb, hml, hown, hts⟩ : CallFix p m c _ _ s #[Value.ref b] lw_tbl RL)
  replace hP := hP.sub (ws' := [(x0, .inr (8, [.ref (ax 0), .ref (ax 1), .ref (ax 2), .ref (ax 3), .ref (ax 4), .ref (ax 5), .ref (ax 6), .ref (ax 7), .ref (ax 8), .ref (ax 9)])), (ax 2, .inr (0, [.int 0, .int 0, .int 0, .int 0, .int 0, .int 0, .int 0, .int 0, .int 0, .int 0, .ref (ax 16), .ref (ax 17), .ref (ax 18), .ref (ax 19), .ref (ax 20)])), (ax 4, .inr (6, [.int 0, .int 0, .int 0, .long 0, .ref (ax 21), .ref (ax 22), .ref (ax 23), .ref (ax 24)])), (y0, .inr (9, [.int 0, .ref (ay 0), .ref (ay 1), .ref (ay 2), .ref (ay 3), .int 0, .ref (ay 4), .int 0, .int 0, .int 0, .int 0, .int 0, .int 0, .int (-1), .ref (ay 5), .ref (ay 6), .int 0, .int 0, .int 0, .ref (ay 7), .ref (ay 8), .ref (ay 9), .ref (ay 10), .ref (ay 11), .ref (ay 12), .int 0, .int 0, .int 0, .int 0, .int 0, .int 0, .int 0, .int 0, .int 0, .ref (ay 13), .long 0, .long 0, .long 0, .ref (ay 14), .ref (ay 15), .ref (ay 16), .ref (ay 17)])), (ay 0, .inl (cs 1, 76, .inl (fun _ => 0))), (ay 6, .inl (cs 1, 3, .inl (fun _ => 0)))]) [0, 9, 16, 62, 63, 69] rfl
  replace hD := hD.sub (ws' := [(x0, .inr (8, [.ref (ax 0), .ref (ax 1), .ref (ax 2), .ref (ax 3), .ref (ax 4), .ref (ax 5), .ref (ax 6), .ref (ax 7), .ref (ax 8), .ref (ax 9)])), (ax 2, .inr (0, [.int 0, .int 0, .int 0, .int 0, .int 0, .int 0, .int 0, .int 0, .int 0, .int 0, .ref (ax 16), .ref (ax 17), .ref (ax 18), .ref (ax 19), .ref (ax 20)])), (ax 4, .inr (6, [.int 0, .int 0, .int 0, .long 0, .ref (ax 21), .ref (ax 22), .ref (ax 23), .ref (ax 24)])), (y0, .inr (9, [.int 0, .ref (ay 0), .ref (ay 1), .ref (ay 2), .ref (ay 3), .int 0, .ref (ay 4), .int 0, .int 0, .int 0, .int 0, .int 0, .int 0, .int (-1), .ref (ay 5), .ref (ay 6), .int 0, .int 0, .int 0, .ref (ay 7), .ref (ay 8), .ref (ay 9), .ref (ay 10), .ref (ay 11), .ref (ay 12), .int 0, .int 0, .int 0, .int 0, .int 0, .int 0, .int 0, .int 0, .int 0, .ref (ay 13), .long 0, .long 0, .long 0, .ref (ay 14), .ref (ay 15), .ref (ay 16), .ref (ay 17)])), (ay 0, .inl (cs 1, 76, .inl (fun _ => 0))), (ay 6, .inl (cs 1, 3, .inl (fun _ => 0)))]) [0, 9, 16, 62, 63, 69] (by decide) rfl
  refine lv_aload_n hx hb dL_law_621 rfl (lv_at hl 2 rfl) ?_
  refine lv_aload_n hx hb dL_law_622 rfl (lv_at hl 3 rfl) ?_
  refine lv_iload_n hx hb dL_law_623 rfl (lv_at hl 0 rfl) ?_
  refine lv_iconst (v := 1) hx hb dL_law_624 (by decide) ?_
  refine lv_iadd hx hb dL_law_625 ?_
  refine cf_i 1 (by decide) ?_
  refine va_sld hx hb hX hbl hbA hS (vp_c (by decide)) dL_law_626 ?_
  refine cf_v (.int (xs 1)) rfl ?_
  refine lv_aload_n hx hb dL_law_627 rfl (lv_at hl 3 rfl) ?_
  refine lv_iload_n hx hb dL_law_628 rfl (lv_at hl 0 rfl) ?_
  refine lv_iconst (v := 2) hx hb dL_law_629 (by decide) ?_
  refine lv_iadd hx hb dL_law_630 ?_
  refine cf_i 2 (by decide) ?_
  refine va_sld hx hb hX hbl hbA hS (vp_c (by decide)) dL_law_631 ?_
  refine cf_v (.int (xs 2)) rfl ?_
  refine aft_i (wr := [(y0, .inr (9, [.int 0, .ref (ay 0), .ref (ay 1), .ref (ay 2), .ref (ay 3), .int 0, .ref (ay 4), .int 0, .int 0, .int 0, .int 0, .int 0, .int 0, .int (-1), .ref (ay 5), .ref (ay 6), .int 0, .int 0, .int 0, .ref (ay 7), .ref (ay 8), .ref (ay 9), .ref (ay 10), .ref (ay 11), .ref (ay 12), .int 0, .int 0, .int 0, .int 0, .int 0, .int 0, .int 0, .int 0, .int 0, .ref (ay 13), .long 0, .long 0, .long 0, .ref (ay 14), .ref (ay 15), .ref (ay 16), .ref (ay 17)])), (ay 0, .inl (cs 1, 76, .inl (fun _ => 0))), (ay 6, .inl (cs 1, 3, .inl (fun _ => 0)))]) hP hD hS hA [0, 1, 2] [3, 4, 5] rfl rfl (by decide) (by decide) (run_v (As := [.int (xs 1), .int (xs 2)]) (rest := []) hFix hK hE hP hD [0, 1, 2] (k_X8_holds l D cs _ x0 (xs 1) (xs 2) (ax 0) (ax 1) (ax 2) (ax 3) (ax 4) (ax 5) (ax 6) (ax 7) (ax 8) (ax 9) (ax 16) (ax 17) (ax 18) (ax 19) (ax 20) (ax 21) (ax 22) (ax 23) (ax 24)) (cwV 2 hts gl_53_X8_holds rfl rfl rfl (by decide +kernel) ⟨Nat.le_of_ble_eq_true rfl, Nat.le_of_ble_eq_true rfl⟩) rfl (by decide) rfl rfl rfl hl.1 rfl (Nat.le_of_ble_eq_true rfl) dL_law_632 ⟨Nat.le_of_ble_eq_true rfl, Nat.le_of_ble_eq_true rfl⟩) (fun r_1 u_1 H locs hq_1 hP hD hS => ?_)
  have hP : va_P D vwCl [(y0, .inr (9, [.int 0, .ref (ay 0), .ref (ay 1), .ref (ay 2), .ref (ay 3), .int 0, .ref (ay 4), .int 0, .int 0, .int 0, .int 0, .int 0, .int 0, .int (-1), .ref (ay 5), .ref (ay 6), .int 0, .int 0, .int 0, .ref (ay 7), .ref (ay 8), .ref (ay 9), .ref (ay 10), .ref (ay 11), .ref (ay 12), .int 0, .int 0, .int 0, .int 0, .int 0, .int 0, .int 0, .int 0, .int 0, .ref (ay 13), .long 0, .long 0, .long 0, .ref (ay 14), .ref (ay 15), .ref (ay 16), .ref (ay 17)])), (ay 0, .inl (cs 1, 76, .inl (fun _ => 0))), (ay 6, .inl (cs 1, 3, .inl (fun _ => 0)))] H := hP
  have hD : va_D (fun q : Nat => s.heap.size ≤ q) [(y0, .inr (9, [.int 0, .ref (ay 0), .ref (ay 1), .ref (ay 2), .ref (ay 3), .int 0, .ref (ay 4), .int 0, .int 0, .int 0, .int 0, .int 0, .int 0, .int (-1), .ref (ay 5), .ref (ay 6), .int 0, .int 0, .int 0, .ref (ay 7), .ref (ay 8), .ref (ay 9), .ref (ay 10), .ref (ay 11), .ref (ay 12), .int 0, .int 0, .int 0, .int 0, .int 0, .int 0, .int 0, .int 0, .int 0, .ref (ay 13), .long 0, .long 0, .long 0, .ref (ay 14), .ref (ay 15), .ref (ay 16), .ref (ay 17)])), (ay 0, .inl (cs 1, 76, .inl (fun _ => 0))), (ay 6, .inl (cs 1, 3, .inl (fun _ => 0)))] := hD
  replace hq_1 : r_1 = (-2) := hq_1
  subst hq_1
  refine lv_aload_n hx hb dL_law_635 rfl (lv_at hl 1 rfl) ?_
  refine lv_aload_n hx hb dL_law_636 rfl (lv_at hl 3 rfl) ?_
  refine lv_iload_n hx hb dL_law_637 rfl (lv_at hl 0 rfl) ?_
  refine lv_iconst (v := 1) hx hb dL_law_638 (by decide) ?_
  refine lv_iadd hx hb dL_law_639 ?_
  refine cf_i 1 (by decide) ?_
  refine va_sld hx hb hX hbl hbA hS (vp_c (by decide)) dL_law_640 ?_
  refine cf_v (.int (xs 1)) rfl ?_
  refine lv_aload_n hx hb dL_law_641 rfl (lv_at hl 3 rfl) ?_
  refine lv_iload_n hx hb dL_law_642 rfl (lv_at hl 0 rfl) ?_
  refine lv_iconst (v := 2) hx hb dL_law_643 (by decide) ?_
  refine lv_iadd hx hb dL_law_644 ?_
  refine cf_i 2 (by decide) ?_
  refine va_sld hx hb hX hbl hbA hS (vp_c (by decide)) dL_law_645 ?_
  refine cf_v (.int (xs 2)) rfl ?_
  refine aft_i (wr := []) hP hD hS hA [0, 1, 2] [] rfl rfl (by decide) (by decide) (run_v (As := [.int (xs 1), .int (xs 2)]) (rest := [.int (-2)]) hFix hK hE hP hD [0, 1, 2] (k_X9_holds l D cs _ y0 (xs 1) (xs 2) (ay 0) (ay 1) (ay 2) (ay 3) (ay 4) (ay 5) (ay 6) (ay 7) (ay 8) (ay 9) (ay 10) (ay 11) (ay 12) (ay 13) (ay 14) (ay 15) (ay 16) (ay 17)) (cwV 2 hts gl_56_X9_holds rfl rfl rfl (by decide +kernel) ⟨Nat.le_of_ble_eq_true rfl, Nat.le_of_ble_eq_true rfl⟩) rfl (by decide) rfl rfl rfl hl.1 rfl (Nat.le_of_ble_eq_true rfl) dL_law_646 ⟨Nat.le_of_ble_eq_true rfl, Nat.le_of_ble_eq_true rfl⟩) (fun r_2 u_2 H locs hq_2 hP hD hS => ?_)
  replace hq_2 : r_2 = (-2) := hq_2
  subst hq_2
  refine lv_icmp_eq (tgt := 2473) hx hb dL_law_649 (by decide) (fun _ => ?_) (fun h9 => absurd h9 (by decide))
  exact law_end l C0 hS (lv_sub hl [0, 3] rfl) (Nat.le_of_ble_eq_true rfl) (Nat.le_of_ble_eq_true rfl)

set_option maxHeartbeats 4000000 in
set_option maxRecDepth 100000 in
theorem law_case_10 {p : Program} {e : Env} {s : State} {m : MethodId} {below : List Frame} {meth : Method} {c : Code} (l : Launch) {b : Nat} {xs : Nat → Int32} (C0 : lw_At p s m meth c b 6 xs) {D : va_G} {cs : Nat → ClassId} (hK : va_K D vwCl (mtyA cs) s) (hE : mEnv s) {x0 y0 : Nat} {ax ay : Nat → Nat} {H : Heap} {locs : List Loc} {ls : Array Slot} (hP : va_P D vwCl (lawW cs x0 ax y0 ay) H) (hD : va_D (fun q : Nat => s.heap.size ≤ q) (lawW cs x0 ax y0 ay)) (hS : va_S (fun q : Nat => s.heap.size ≤ q) s.heap H locs) (hl : lv_has ls 4 [(3, .int 0), (2, .ref y0), (1, .ref x0), (0, .ref b)]) : W p l e room_1 s m #[Value.ref b] below meth c H locs 81 7838 (lw_Z below #[Value.ref b] s) (F0 m 654 ls []) := by
  obtain ⟨hx, hb, hr, hml, hown, hts, hX, hbl, hlocks, hgv⟩ := id C0
  have hA : ∀ q : Nat, s.heap.size ≤ q → (fun q : Nat => s.heap.size ≤ q) q := fun _ h => h
  have hbA : ¬ (fun q : Nat => s.heap.size ≤ q) b := Nat.not_le.mpr hbl
  have hFix := (⟨hx, hb, hml, hown, hts⟩ : CallFix p m c _ _ s #[Value.ref b] lw_tbl RL)
  replace hP := hP.sub (ws' := [(x0, .inr (8, [.ref (ax 0), .ref (ax 1), .ref (ax 2), .ref (ax 3), .ref (ax 4), .ref (ax 5), .ref (ax 6), .ref (ax 7), .ref (ax 8), .ref (ax 9)])), (ax 2, .inr (0, [.int 0, .int 0, .int 0, .int 0, .int 0, .int 0, .int 0, .int 0, .int 0, .int 0, .ref (ax 16), .ref (ax 17), .ref (ax 18), .ref (ax 19), .ref (ax 20)])), (ax 4, .inr (6, [.int 0, .int 0, .int 0, .long 0, .ref (ax 21), .ref (ax 22), .ref (ax 23), .ref (ax 24)])), (y0, .inr (9, [.int 0, .ref (ay 0), .ref (ay 1), .ref (ay 2), .ref (ay 3), .int 0, .ref (ay 4), .int 0, .int 0, .int 0, .int 0, .int 0, .int 0, .int (-1), .ref (ay 5), .ref (ay 6), .int 0, .int 0, .int 0, .ref (ay 7), .ref (ay 8), .ref (ay 9), .ref (ay 10), .ref (ay 11), .ref (ay 12), .int 0, .int 0, .int 0, .int 0, .int 0, .int 0, .int 0, .int 0, .int 0, .ref (ay 13), .long 0, .long 0, .long 0, .ref (ay 14), .ref (ay 15), .ref (ay 16), .ref (ay 17)])), (ay 0, .inl (cs 1, 76, .inl (fun _ => 0))), (ay 6, .inl (cs 1, 3, .inl (fun _ => 0)))]) [0, 9, 16, 62, 63, 69] rfl
  replace hD := hD.sub (ws' := [(x0, .inr (8, [.ref (ax 0), .ref (ax 1), .ref (ax 2), .ref (ax 3), .ref (ax 4), .ref (ax 5), .ref (ax 6), .ref (ax 7), .ref (ax 8), .ref (ax 9)])), (ax 2, .inr (0, [.int 0, .int 0, .int 0, .int 0, .int 0, .int 0, .int 0, .int 0, .int 0, .int 0, .ref (ax 16), .ref (ax 17), .ref (ax 18), .ref (ax 19), .ref (ax 20)])), (ax 4, .inr (6, [.int 0, .int 0, .int 0, .long 0, .ref (ax 21), .ref (ax 22), .ref (ax 23), .ref (ax 24)])), (y0, .inr (9, [.int 0, .ref (ay 0), .ref (ay 1), .ref (ay 2), .ref (ay 3), .int 0, .ref (ay 4), .int 0, .int 0, .int 0, .int 0, .int 0, .int 0, .int (-1), .ref (ay 5), .ref (ay 6), .int 0, .int 0, .int 0, .ref (ay 7), .ref (ay 8), .ref (ay 9), .ref (ay 10), .ref (ay 11), .ref (ay 12), .int 0, .int 0, .int 0, .int 0, .int 0, .int 0, .int 0, .int 0, .int 0, .ref (ay 13), .long 0, .long 0, .long 0, .ref (ay 14), .ref (ay 15), .ref (ay 16), .ref (ay 17)])), (ay 0, .inl (cs 1, 76, .inl (fun _ => 0))), (ay 6, .inl (cs 1, 3, .inl (fun _ => 0)))]) [0, 9, 16, 62, 63, 69] (by decide) rfl
  refine lv_aload_n hx hb dL_law_654 rfl (lv_at hl 2 rfl) ?_
  refine aft_i (wr := [(y0, .inr (9, [.int 0, .ref (ay 0), .ref (ay 1), .ref (ay 2), .ref (ay 3), .int 0, .ref (ay 4), .int 0, .int 0, .int 0, .int 0, .int 0, .int 0, .int (-1), .ref (ay 5), .ref (ay 6), .int 0, .int 0, .int 0, .ref (ay 7), .ref (ay 8), .ref (ay 9), .ref (ay 10), .ref (ay 11), .ref (ay 12), .int 0, .int 0, .int 0, .int 0, .int 0, .int 0, .int 0, .int 0, .int 0, .ref (ay 13), .long 0, .long 0, .long 0, .ref (ay 14), .ref (ay 15), .ref (ay 16), .ref (ay 17)])), (ay 0, .inl (cs 1, 76, .inl (fun _ => 0))), (ay 6, .inl (cs 1, 3, .inl (fun _ => 0)))]) hP hD hS hA [0, 1, 2] [3, 4, 5] rfl rfl (by decide) (by decide) (run_v (As := []) (rest := []) hFix hK hE hP hD [0, 1, 2] (k_X8_dropped l D cs _ x0 (ax 0) (ax 1) (ax 2) (ax 3) (ax 4) (ax 5) (ax 6) (ax 7) (ax 8) (ax 9) (ax 16) (ax 17) (ax 18) (ax 19) (ax 20) (ax 21) (ax 22) (ax 23) (ax 24)) (cwV 0 hts gl_57_X8_dropped rfl rfl rfl (by decide +kernel) ⟨Nat.le_of_ble_eq_true rfl, Nat.le_of_ble_eq_true rfl⟩) rfl (by decide) rfl rfl rfl hl.1 rfl (Nat.le_of_ble_eq_true rfl) dL_law_655 ⟨Nat.le_of_ble_eq_true rfl, Nat.le_of_ble_eq_true rfl⟩) (fun r_1 u_1 H locs hq_1 hP hD hS => ?_)
  have hP : va_P D vwCl [(y0, .inr (9, [.int 0, .ref (ay 0), .ref (ay 1), .ref (ay 2), .ref (ay 3), .int 0, .ref (ay 4), .int 0, .int 0, .int 0, .int 0, .int 0, .int 0, .int (-1), .ref (ay 5), .ref (ay 6), .int 0, .int 0, .int 0, .ref (ay 7), .ref (ay 8), .ref (ay 9), .ref (ay 10), .ref (ay 11), .ref (ay 12), .int 0, .int 0, .int 0, .int 0, .int 0, .int 0, .int 0, .int 0, .int 0, .ref (ay 13), .long 0, .long 0, .long 0, .ref (ay 14), .ref (ay 15), .ref (ay 16), .ref (ay 17)])), (ay 0, .inl (cs 1, 76, .inl (fun _ => 0))), (ay 6, .inl (cs 1, 3, .inl (fun _ => 0)))] H := hP
  have hD : va_D (fun q : Nat => s.heap.size ≤ q) [(y0, .inr (9, [.int 0, .ref (ay 0), .ref (ay 1), .ref (ay 2), .ref (ay 3), .int 0, .ref (ay 4), .int 0, .int 0, .int 0, .int 0, .int 0, .int 0, .int (-1), .ref (ay 5), .ref (ay 6), .int 0, .int 0, .int 0, .ref (ay 7), .ref (ay 8), .ref (ay 9), .ref (ay 10), .ref (ay 11), .ref (ay 12), .int 0, .int 0, .int 0, .int 0, .int 0, .int 0, .int 0, .int 0, .int 0, .ref (ay 13), .long 0, .long 0, .long 0, .ref (ay 14), .ref (ay 15), .ref (ay 16), .ref (ay 17)])), (ay 0, .inl (cs 1, 76, .inl (fun _ => 0))), (ay 6, .inl (cs 1, 3, .inl (fun _ => 0)))] := hD
  replace hq_1 : r_1 = (-2) := hq_1
  subst hq_1
  refine lv_aload_n hx hb dL_law_658 rfl (lv_at hl 1 rfl) ?_
  refine aft_i (wr := []) hP hD hS hA [0, 1, 2] [] rfl rfl (by decide) (by decide) (run_v (As := []) (rest := [.int (-2)]) hFix hK hE hP hD [0, 1, 2] (k_X9_dropped l D cs _ y0 (ay 0) (ay 1) (ay 2) (ay 3) (ay 4) (ay 5) (ay 6) (ay 7) (ay 8) (ay 9) (ay 10) (ay 11) (ay 12) (ay 13) (ay 14) (ay 15) (ay 16) (ay 17)) (cwV 0 hts gl_60_X9_dropped rfl rfl rfl (by decide +kernel) ⟨Nat.le_of_ble_eq_true rfl, Nat.le_of_ble_eq_true rfl⟩) rfl (by decide) rfl rfl rfl hl.1 rfl (Nat.le_of_ble_eq_true rfl) dL_law_659 ⟨Nat.le_of_ble_eq_true rfl, Nat.le_of_ble_eq_true rfl⟩) (fun r_2 u_2 H locs hq_2 hP hD hS => ?_)
  replace hq_2 : r_2 = (-2) := hq_2
  subst hq_2
  refine lv_icmp_eq (tgt := 2473) hx hb dL_law_662 (by decide) (fun _ => ?_) (fun h9 => absurd h9 (by decide))
  exact law_end l C0 hS (lv_sub hl [0, 3] rfl) (Nat.le_of_ble_eq_true rfl) (Nat.le_of_ble_eq_true rfl)

set_option maxHeartbeats 4000000 in
set_option maxRecDepth 100000 in
theorem law_case_11 {p : Program} {e : Env} {s : State} {m : MethodId} {below : List Frame} {meth : Method} {c : Code} (l : Launch) {b : Nat} {xs : Nat → Int32} (C0 : lw_At p s m meth c b 6 xs) {D : va_G} {cs : Nat → ClassId} (hK : va_K D vwCl (mtyA cs) s) (hE : mEnv s) {x0 y0 : Nat} {ax ay : Nat → Nat} {H : Heap} {locs : List Loc} {ls : Array Slot} (hP : va_P D vwCl (lawW cs x0 ax y0 ay) H) (hD : va_D (fun q : Nat => s.heap.size ≤ q) (lawW cs x0 ax y0 ay)) (hS : va_S (fun q : Nat => s.heap.size ≤ q) s.heap H locs) (hl : lv_has ls 4 [(3, .int 0), (2, .ref y0), (1, .ref x0), (0, .ref b)]) : W p l e room_1 s m #[Value.ref b] below meth c H locs 81 7838 (lw_Z below #[Value.ref b] s) (F0 m 667 ls []) := by
  obtain ⟨hx, hb, hr, hml, hown, hts, hX, hbl, hlocks, hgv⟩ := id C0
  have hA : ∀ q : Nat, s.heap.size ≤ q → (fun q : Nat => s.heap.size ≤ q) q := fun _ h => h
  have hbA : ¬ (fun q : Nat => s.heap.size ≤ q) b := Nat.not_le.mpr hbl
  have hFix := (⟨hx, hb, hml, hown, hts⟩ : CallFix p m c _ _ s #[Value.ref b] lw_tbl RL)
  replace hP := hP.sub (ws' := [(x0, .inr (8, [.ref (ax 0), .ref (ax 1), .ref (ax 2), .ref (ax 3), .ref (ax 4), .ref (ax 5), .ref (ax 6), .ref (ax 7), .ref (ax 8), .ref (ax 9)])), (ax 2, .inr (0, [.int 0, .int 0, .int 0, .int 0, .int 0, .int 0, .int 0, .int 0, .int 0, .int 0, .ref (ax 16), .ref (ax 17), .ref (ax 18), .ref (ax 19), .ref (ax 20)])), (ax 4, .inr (6, [.int 0, .int 0, .int 0, .long 0, .ref (ax 21), .ref (ax 22), .ref (ax 23), .ref (ax 24)])), (y0, .inr (9, [.int 0, .ref (ay 0), .ref (ay 1), .ref (ay 2), .ref (ay 3), .int 0, .ref (ay 4), .int 0, .int 0, .int 0, .int 0, .int 0, .int 0, .int (-1), .ref (ay 5), .ref (ay 6), .int 0, .int 0, .int 0, .ref (ay 7), .ref (ay 8), .ref (ay 9), .ref (ay 10), .ref (ay 11), .ref (ay 12), .int 0, .int 0, .int 0, .int 0, .int 0, .int 0, .int 0, .int 0, .int 0, .ref (ay 13), .long 0, .long 0, .long 0, .ref (ay 14), .ref (ay 15), .ref (ay 16), .ref (ay 17)])), (ay 0, .inl (cs 1, 76, .inl (fun _ => 0))), (ay 6, .inl (cs 1, 3, .inl (fun _ => 0)))]) [0, 9, 16, 62, 63, 69] rfl
  replace hD := hD.sub (ws' := [(x0, .inr (8, [.ref (ax 0), .ref (ax 1), .ref (ax 2), .ref (ax 3), .ref (ax 4), .ref (ax 5), .ref (ax 6), .ref (ax 7), .ref (ax 8), .ref (ax 9)])), (ax 2, .inr (0, [.int 0, .int 0, .int 0, .int 0, .int 0, .int 0, .int 0, .int 0, .int 0, .int 0, .ref (ax 16), .ref (ax 17), .ref (ax 18), .ref (ax 19), .ref (ax 20)])), (ax 4, .inr (6, [.int 0, .int 0, .int 0, .long 0, .ref (ax 21), .ref (ax 22), .ref (ax 23), .ref (ax 24)])), (y0, .inr (9, [.int 0, .ref (ay 0), .ref (ay 1), .ref (ay 2), .ref (ay 3), .int 0, .ref (ay 4), .int 0, .int 0, .int 0, .int 0, .int 0, .int 0, .int (-1), .ref (ay 5), .ref (ay 6), .int 0, .int 0, .int 0, .ref (ay 7), .ref (ay 8), .ref (ay 9), .ref (ay 10), .ref (ay 11), .ref (ay 12), .int 0, .int 0, .int 0, .int 0, .int 0, .int 0, .int 0, .int 0, .int 0, .ref (ay 13), .long 0, .long 0, .long 0, .ref (ay 14), .ref (ay 15), .ref (ay 16), .ref (ay 17)])), (ay 0, .inl (cs 1, 76, .inl (fun _ => 0))), (ay 6, .inl (cs 1, 3, .inl (fun _ => 0)))]) [0, 9, 16, 62, 63, 69] (by decide) rfl
  refine lv_aload_n hx hb dL_law_667 rfl (lv_at hl 2 rfl) ?_
  refine aft_i (wr := [(y0, .inr (9, [.int 0, .ref (ay 0), .ref (ay 1), .ref (ay 2), .ref (ay 3), .int 0, .ref (ay 4), .int 0, .int 0, .int 0, .int 0, .int 0, .int 0, .int (-1), .ref (ay 5), .ref (ay 6), .int 0, .int 0, .int 0, .ref (ay 7), .ref (ay 8), .ref (ay 9), .ref (ay 10), .ref (ay 11), .ref (ay 12), .int 0, .int 0, .int 0, .int 0, .int 0, .int 0, .int 0, .int 0, .int 0, .ref (ay 13), .long 0, .long 0, .long 0, .ref (ay 14), .ref (ay 15), .ref (ay 16), .ref (ay 17)])), (ay 0, .inl (cs 1, 76, .inl (fun _ => 0))), (ay 6, .inl (cs 1, 3, .inl (fun _ => 0)))]) hP hD hS hA [0, 1, 2] [3, 4, 5] rfl rfl (by decide) (by decide) (run_v (As := []) (rest := []) hFix hK hE hP hD [0, 1, 2] (k_X8_locked l D cs _ x0 (ax 0) (ax 1) (ax 2) (ax 3) (ax 4) (ax 5) (ax 6) (ax 7) (ax 8) (ax 9) (ax 16) (ax 17) (ax 18) (ax 19) (ax 20) (ax 21) (ax 22) (ax 23) (ax 24)) (cwV 0 hts gl_61_X8_locked rfl rfl rfl (by decide +kernel) ⟨Nat.le_of_ble_eq_true rfl, Nat.le_of_ble_eq_true rfl⟩) rfl (by decide) rfl rfl rfl hl.1 rfl (Nat.le_of_ble_eq_true rfl) dL_law_668 ⟨Nat.le_of_ble_eq_true rfl, Nat.le_of_ble_eq_true rfl⟩) (fun r_1 u_1 H locs hq_1 hP hD hS => ?_)
  have hP : va_P D vwCl [(y0, .inr (9, [.int 0, .ref (ay 0), .ref (ay 1), .ref (ay 2), .ref (ay 3), .int 0, .ref (ay 4), .int 0, .int 0, .int 0, .int 0, .int 0, .int 0, .int (-1), .ref (ay 5), .ref (ay 6), .int 0, .int 0, .int 0, .ref (ay 7), .ref (ay 8), .ref (ay 9), .ref (ay 10), .ref (ay 11), .ref (ay 12), .int 0, .int 0, .int 0, .int 0, .int 0, .int 0, .int 0, .int 0, .int 0, .ref (ay 13), .long 0, .long 0, .long 0, .ref (ay 14), .ref (ay 15), .ref (ay 16), .ref (ay 17)])), (ay 0, .inl (cs 1, 76, .inl (fun _ => 0))), (ay 6, .inl (cs 1, 3, .inl (fun _ => 0)))] H := hP
  have hD : va_D (fun q : Nat => s.heap.size ≤ q) [(y0, .inr (9, [.int 0, .ref (ay 0), .ref (ay 1), .ref (ay 2), .ref (ay 3), .int 0, .ref (ay 4), .int 0, .int 0, .int 0, .int 0, .int 0, .int 0, .int (-1), .ref (ay 5), .ref (ay 6), .int 0, .int 0, .int 0, .ref (ay 7), .ref (ay 8), .ref (ay 9), .ref (ay 10), .ref (ay 11), .ref (ay 12), .int 0, .int 0, .int 0, .int 0, .int 0, .int 0, .int 0, .int 0, .int 0, .ref (ay 13), .long 0, .long 0, .long 0, .ref (ay 14), .ref (ay 15), .ref (ay 16), .ref (ay 17)])), (ay 0, .inl (cs 1, 76, .inl (fun _ => 0))), (ay 6, .inl (cs 1, 3, .inl (fun _ => 0)))] := hD
  replace hq_1 : r_1 = (-2) := hq_1
  subst hq_1
  refine lv_aload_n hx hb dL_law_671 rfl (lv_at hl 1 rfl) ?_
  refine aft_i (wr := []) hP hD hS hA [0, 1, 2] [] rfl rfl (by decide) (by decide) (run_v (As := []) (rest := [.int (-2)]) hFix hK hE hP hD [0, 1, 2] (k_X9_locked l D cs _ y0 (ay 0) (ay 1) (ay 2) (ay 3) (ay 4) (ay 5) (ay 6) (ay 7) (ay 8) (ay 9) (ay 10) (ay 11) (ay 12) (ay 13) (ay 14) (ay 15) (ay 16) (ay 17)) (cwV 0 hts gl_64_X9_locked rfl rfl rfl (by decide +kernel) ⟨Nat.le_of_ble_eq_true rfl, Nat.le_of_ble_eq_true rfl⟩) rfl (by decide) rfl rfl rfl hl.1 rfl (Nat.le_of_ble_eq_true rfl) dL_law_672 ⟨Nat.le_of_ble_eq_true rfl, Nat.le_of_ble_eq_true rfl⟩) (fun r_2 u_2 H locs hq_2 hP hD hS => ?_)
  replace hq_2 : r_2 = (-2) := hq_2
  subst hq_2
  refine lv_icmp_eq (tgt := 2473) hx hb dL_law_675 (by decide) (fun _ => ?_) (fun h9 => absurd h9 (by decide))
  exact law_end l C0 hS (lv_sub hl [0, 3] rfl) (Nat.le_of_ble_eq_true rfl) (Nat.le_of_ble_eq_true rfl)

set_option maxHeartbeats 4000000 in
set_option maxRecDepth 100000 in
theorem law_case_12 {p : Program} {e : Env} {s : State} {m : MethodId} {below : List Frame} {meth : Method} {c : Code} (l : Launch) {b : Nat} {xs : Nat → Int32} (C0 : lw_At p s m meth c b 6 xs) {D : va_G} {cs : Nat → ClassId} (hK : va_K D vwCl (mtyA cs) s) (hE : mEnv s) {x0 y0 : Nat} {ax ay : Nat → Nat} {H : Heap} {locs : List Loc} {ls : Array Slot} (hP : va_P D vwCl (lawW cs x0 ax y0 ay) H) (hD : va_D (fun q : Nat => s.heap.size ≤ q) (lawW cs x0 ax y0 ay)) (hS : va_S (fun q : Nat => s.heap.size ≤ q) s.heap H locs) (hl : lv_has ls 4 [(3, .int 0), (2, .ref y0), (1, .ref x0), (0, .ref b)]) : W p l e room_1 s m #[Value.ref b] below meth c H locs 81 7838 (lw_Z below #[Value.ref b] s) (F0 m 680 ls []) := by
  obtain ⟨hx, hb, hr, hml, hown, hts, hX, hbl, hlocks, hgv⟩ := id C0
  have hA : ∀ q : Nat, s.heap.size ≤ q → (fun q : Nat => s.heap.size ≤ q) q := fun _ h => h
  have hbA : ¬ (fun q : Nat => s.heap.size ≤ q) b := Nat.not_le.mpr hbl
  have hFix := (⟨hx, hb, hml, hown, hts⟩ : CallFix p m c _ _ s #[Value.ref b] lw_tbl RL)
  replace hP := hP.sub (ws' := [(x0, .inr (8, [.ref (ax 0), .ref (ax 1), .ref (ax 2), .ref (ax 3), .ref (ax 4), .ref (ax 5), .ref (ax 6), .ref (ax 7), .ref (ax 8), .ref (ax 9)])), (ax 2, .inr (0, [.int 0, .int 0, .int 0, .int 0, .int 0, .int 0, .int 0, .int 0, .int 0, .int 0, .ref (ax 16), .ref (ax 17), .ref (ax 18), .ref (ax 19), .ref (ax 20)])), (ax 4, .inr (6, [.int 0, .int 0, .int 0, .long 0, .ref (ax 21), .ref (ax 22), .ref (ax 23), .ref (ax 24)])), (y0, .inr (9, [.int 0, .ref (ay 0), .ref (ay 1), .ref (ay 2), .ref (ay 3), .int 0, .ref (ay 4), .int 0, .int 0, .int 0, .int 0, .int 0, .int 0, .int (-1), .ref (ay 5), .ref (ay 6), .int 0, .int 0, .int 0, .ref (ay 7), .ref (ay 8), .ref (ay 9), .ref (ay 10), .ref (ay 11), .ref (ay 12), .int 0, .int 0, .int 0, .int 0, .int 0, .int 0, .int 0, .int 0, .int 0, .ref (ay 13), .long 0, .long 0, .long 0, .ref (ay 14), .ref (ay 15), .ref (ay 16), .ref (ay 17)])), (ay 0, .inl (cs 1, 76, .inl (fun _ => 0))), (ay 6, .inl (cs 1, 3, .inl (fun _ => 0)))]) [0, 9, 16, 62, 63, 69] rfl
  replace hD := hD.sub (ws' := [(x0, .inr (8, [.ref (ax 0), .ref (ax 1), .ref (ax 2), .ref (ax 3), .ref (ax 4), .ref (ax 5), .ref (ax 6), .ref (ax 7), .ref (ax 8), .ref (ax 9)])), (ax 2, .inr (0, [.int 0, .int 0, .int 0, .int 0, .int 0, .int 0, .int 0, .int 0, .int 0, .int 0, .ref (ax 16), .ref (ax 17), .ref (ax 18), .ref (ax 19), .ref (ax 20)])), (ax 4, .inr (6, [.int 0, .int 0, .int 0, .long 0, .ref (ax 21), .ref (ax 22), .ref (ax 23), .ref (ax 24)])), (y0, .inr (9, [.int 0, .ref (ay 0), .ref (ay 1), .ref (ay 2), .ref (ay 3), .int 0, .ref (ay 4), .int 0, .int 0, .int 0, .int 0, .int 0, .int 0, .int (-1), .ref (ay 5), .ref (ay 6), .int 0, .int 0, .int 0, .ref (ay 7), .ref (ay 8), .ref (ay 9), .ref (ay 10), .ref (ay 11), .ref (ay 12), .int 0, .int 0, .int 0, .int 0, .int 0, .int 0, .int 0, .int 0, .int 0, .ref (ay 13), .long 0, .long 0, .long 0, .ref (ay 14), .ref (ay 15), .ref (ay 16), .ref (ay 17)])), (ay 0, .inl (cs 1, 76, .inl (fun _ => 0))), (ay 6, .inl (cs 1, 3, .inl (fun _ => 0)))]) [0, 9, 16, 62, 63, 69] (by decide) rfl
  refine lv_aload_n hx hb dL_law_680 rfl (lv_at hl 2 rfl) ?_
  refine lv_aload_n hx hb dL_law_681 rfl (lv_at hl 3 rfl) ?_
  refine lv_iload_n hx hb dL_law_682 rfl (lv_at hl 0 rfl) ?_
  refine lv_iconst (v := 1) hx hb dL_law_683 (by decide) ?_
  refine lv_iadd hx hb dL_law_684 ?_
  refine cf_i 1 (by decide) ?_
  refine va_sld hx hb hX hbl hbA hS (vp_c (by decide)) dL_law_685 ?_
  refine cf_v (.int (xs 1)) rfl ?_
  refine aft_i (wr := [(y0, .inr (9, [.int 0, .ref (ay 0), .ref (ay 1), .ref (ay 2), .ref (ay 3), .int 0, .ref (ay 4), .int 0, .int 0, .int 0, .int 0, .int 0, .int 0, .int (-1), .ref (ay 5), .ref (ay 6), .int 0, .int 0, .int 0, .ref (ay 7), .ref (ay 8), .ref (ay 9), .ref (ay 10), .ref (ay 11), .ref (ay 12), .int 0, .int 0, .int 0, .int 0, .int 0, .int 0, .int 0, .int 0, .int 0, .ref (ay 13), .long 0, .long 0, .long 0, .ref (ay 14), .ref (ay 15), .ref (ay 16), .ref (ay 17)])), (ay 0, .inl (cs 1, 76, .inl (fun _ => 0))), (ay 6, .inl (cs 1, 3, .inl (fun _ => 0)))]) hP hD hS hA [0, 1, 2] [3, 4, 5] rfl rfl (by decide) (by decide) (run_v (As := [.int (xs 1)]) (rest := []) hFix hK hE hP hD [0, 1, 2] (k_X8_valid l D cs _ x0 (xs 1) (ax 0) (ax 1) (ax 2) (ax 3) (ax 4) (ax 5) (ax 6) (ax 7) (ax 8) (ax 9) (ax 16) (ax 17) (ax 18) (ax 19) (ax 20) (ax 21) (ax 22) (ax 23) (ax 24)) (cwV 1 hts gl_65_X8_valid rfl rfl rfl (by decide +kernel) ⟨Nat.le_of_ble_eq_true rfl, Nat.le_of_ble_eq_true rfl⟩) rfl (by decide) rfl rfl rfl hl.1 rfl (Nat.le_of_ble_eq_true rfl) dL_law_686 ⟨Nat.le_of_ble_eq_true rfl, Nat.le_of_ble_eq_true rfl⟩) (fun r_1 u_1 H locs hq_1 hP hD hS => ?_)
  have hP : va_P D vwCl [(y0, .inr (9, [.int 0, .ref (ay 0), .ref (ay 1), .ref (ay 2), .ref (ay 3), .int 0, .ref (ay 4), .int 0, .int 0, .int 0, .int 0, .int 0, .int 0, .int (-1), .ref (ay 5), .ref (ay 6), .int 0, .int 0, .int 0, .ref (ay 7), .ref (ay 8), .ref (ay 9), .ref (ay 10), .ref (ay 11), .ref (ay 12), .int 0, .int 0, .int 0, .int 0, .int 0, .int 0, .int 0, .int 0, .int 0, .ref (ay 13), .long 0, .long 0, .long 0, .ref (ay 14), .ref (ay 15), .ref (ay 16), .ref (ay 17)])), (ay 0, .inl (cs 1, 76, .inl (fun _ => 0))), (ay 6, .inl (cs 1, 3, .inl (fun _ => 0)))] H := hP
  have hD : va_D (fun q : Nat => s.heap.size ≤ q) [(y0, .inr (9, [.int 0, .ref (ay 0), .ref (ay 1), .ref (ay 2), .ref (ay 3), .int 0, .ref (ay 4), .int 0, .int 0, .int 0, .int 0, .int 0, .int 0, .int (-1), .ref (ay 5), .ref (ay 6), .int 0, .int 0, .int 0, .ref (ay 7), .ref (ay 8), .ref (ay 9), .ref (ay 10), .ref (ay 11), .ref (ay 12), .int 0, .int 0, .int 0, .int 0, .int 0, .int 0, .int 0, .int 0, .int 0, .ref (ay 13), .long 0, .long 0, .long 0, .ref (ay 14), .ref (ay 15), .ref (ay 16), .ref (ay 17)])), (ay 0, .inl (cs 1, 76, .inl (fun _ => 0))), (ay 6, .inl (cs 1, 3, .inl (fun _ => 0)))] := hD
  replace hq_1 : r_1 = (-2) := hq_1
  subst hq_1
  refine lv_aload_n hx hb dL_law_689 rfl (lv_at hl 1 rfl) ?_
  refine lv_aload_n hx hb dL_law_690 rfl (lv_at hl 3 rfl) ?_
  refine lv_iload_n hx hb dL_law_691 rfl (lv_at hl 0 rfl) ?_
  refine lv_iconst (v := 1) hx hb dL_law_692 (by decide) ?_
  refine lv_iadd hx hb dL_law_693 ?_
  refine cf_i 1 (by decide) ?_
  refine va_sld hx hb hX hbl hbA hS (vp_c (by decide)) dL_law_694 ?_
  refine cf_v (.int (xs 1)) rfl ?_
  refine aft_i (wr := []) hP hD hS hA [0, 1, 2] [] rfl rfl (by decide) (by decide) (run_v (As := [.int (xs 1)]) (rest := [.int (-2)]) hFix hK hE hP hD [0, 1, 2] (k_X9_valid l D cs _ y0 (xs 1) (ay 0) (ay 1) (ay 2) (ay 3) (ay 4) (ay 5) (ay 6) (ay 7) (ay 8) (ay 9) (ay 10) (ay 11) (ay 12) (ay 13) (ay 14) (ay 15) (ay 16) (ay 17)) (cwV 1 hts gl_68_X9_valid rfl rfl rfl (by decide +kernel) ⟨Nat.le_of_ble_eq_true rfl, Nat.le_of_ble_eq_true rfl⟩) rfl (by decide) rfl rfl rfl hl.1 rfl (Nat.le_of_ble_eq_true rfl) dL_law_695 ⟨Nat.le_of_ble_eq_true rfl, Nat.le_of_ble_eq_true rfl⟩) (fun r_2 u_2 H locs hq_2 hP hD hS => ?_)
  replace hq_2 : r_2 = (-2) := hq_2
  subst hq_2
  refine lv_icmp_eq (tgt := 2473) hx hb dL_law_698 (by decide) (fun _ => ?_) (fun h9 => absurd h9 (by decide))
  exact law_end l C0 hS (lv_sub hl [0, 3] rfl) (Nat.le_of_ble_eq_true rfl) (Nat.le_of_ble_eq_true rfl)

set_option maxHeartbeats 4000000 in
set_option maxRecDepth 100000 in
theorem law_case_13 {p : Program} {e : Env} {s : State} {m : MethodId} {below : List Frame} {meth : Method} {c : Code} (l : Launch) {b : Nat} {xs : Nat → Int32} (C0 : lw_At p s m meth c b 6 xs) {D : va_G} {cs : Nat → ClassId} (hK : va_K D vwCl (mtyA cs) s) (hE : mEnv s) {x0 y0 : Nat} {ax ay : Nat → Nat} {H : Heap} {locs : List Loc} {ls : Array Slot} (hP : va_P D vwCl (lawW cs x0 ax y0 ay) H) (hD : va_D (fun q : Nat => s.heap.size ≤ q) (lawW cs x0 ax y0 ay)) (hS : va_S (fun q : Nat => s.heap.size ≤ q) s.heap H locs) (hl : lv_has ls 4 [(3, .int 0), (2, .ref y0), (1, .ref x0), (0, .ref b)]) : W p l e room_1 s m #[Value.ref b] below meth c H locs 81 7838 (lw_Z below #[Value.ref b] s) (F0 m 703 ls []) := by
  obtain ⟨hx, hb, hr, hml, hown, hts, hX, hbl, hlocks, hgv⟩ := id C0
  have hA : ∀ q : Nat, s.heap.size ≤ q → (fun q : Nat => s.heap.size ≤ q) q := fun _ h => h
  have hbA : ¬ (fun q : Nat => s.heap.size ≤ q) b := Nat.not_le.mpr hbl
  have hFix := (⟨hx, hb, hml, hown, hts⟩ : CallFix p m c _ _ s #[Value.ref b] lw_tbl RL)
  replace hP := hP.sub (ws' := [(x0, .inr (8, [.ref (ax 0), .ref (ax 1), .ref (ax 2), .ref (ax 3), .ref (ax 4), .ref (ax 5), .ref (ax 6), .ref (ax 7), .ref (ax 8), .ref (ax 9)])), (ax 2, .inr (0, [.int 0, .int 0, .int 0, .int 0, .int 0, .int 0, .int 0, .int 0, .int 0, .int 0, .ref (ax 16), .ref (ax 17), .ref (ax 18), .ref (ax 19), .ref (ax 20)])), (ax 4, .inr (6, [.int 0, .int 0, .int 0, .long 0, .ref (ax 21), .ref (ax 22), .ref (ax 23), .ref (ax 24)])), (y0, .inr (9, [.int 0, .ref (ay 0), .ref (ay 1), .ref (ay 2), .ref (ay 3), .int 0, .ref (ay 4), .int 0, .int 0, .int 0, .int 0, .int 0, .int 0, .int (-1), .ref (ay 5), .ref (ay 6), .int 0, .int 0, .int 0, .ref (ay 7), .ref (ay 8), .ref (ay 9), .ref (ay 10), .ref (ay 11), .ref (ay 12), .int 0, .int 0, .int 0, .int 0, .int 0, .int 0, .int 0, .int 0, .int 0, .ref (ay 13), .long 0, .long 0, .long 0, .ref (ay 14), .ref (ay 15), .ref (ay 16), .ref (ay 17)])), (ay 0, .inl (cs 1, 76, .inl (fun _ => 0))), (ay 6, .inl (cs 1, 3, .inl (fun _ => 0)))]) [0, 9, 16, 62, 63, 69] rfl
  replace hD := hD.sub (ws' := [(x0, .inr (8, [.ref (ax 0), .ref (ax 1), .ref (ax 2), .ref (ax 3), .ref (ax 4), .ref (ax 5), .ref (ax 6), .ref (ax 7), .ref (ax 8), .ref (ax 9)])), (ax 2, .inr (0, [.int 0, .int 0, .int 0, .int 0, .int 0, .int 0, .int 0, .int 0, .int 0, .int 0, .ref (ax 16), .ref (ax 17), .ref (ax 18), .ref (ax 19), .ref (ax 20)])), (ax 4, .inr (6, [.int 0, .int 0, .int 0, .long 0, .ref (ax 21), .ref (ax 22), .ref (ax 23), .ref (ax 24)])), (y0, .inr (9, [.int 0, .ref (ay 0), .ref (ay 1), .ref (ay 2), .ref (ay 3), .int 0, .ref (ay 4), .int 0, .int 0, .int 0, .int 0, .int 0, .int 0, .int (-1), .ref (ay 5), .ref (ay 6), .int 0, .int 0, .int 0, .ref (ay 7), .ref (ay 8), .ref (ay 9), .ref (ay 10), .ref (ay 11), .ref (ay 12), .int 0, .int 0, .int 0, .int 0, .int 0, .int 0, .int 0, .int 0, .int 0, .ref (ay 13), .long 0, .long 0, .long 0, .ref (ay 14), .ref (ay 15), .ref (ay 16), .ref (ay 17)])), (ay 0, .inl (cs 1, 76, .inl (fun _ => 0))), (ay 6, .inl (cs 1, 3, .inl (fun _ => 0)))]) [0, 9, 16, 62, 63, 69] (by decide) rfl
  refine lv_aload_n hx hb dL_law_703 rfl (lv_at hl 2 rfl) ?_
  refine aft_i (wr := [(y0, .inr (9, [.int 0, .ref (ay 0), .ref (ay 1), .ref (ay 2), .ref (ay 3), .int 0, .ref (ay 4), .int 0, .int 0, .int 0, .int 0, .int 0, .int 0, .int (-1), .ref (ay 5), .ref (ay 6), .int 0, .int 0, .int 0, .ref (ay 7), .ref (ay 8), .ref (ay 9), .ref (ay 10), .ref (ay 11), .ref (ay 12), .int 0, .int 0, .int 0, .int 0, .int 0, .int 0, .int 0, .int 0, .int 0, .ref (ay 13), .long 0, .long 0, .long 0, .ref (ay 14), .ref (ay 15), .ref (ay 16), .ref (ay 17)])), (ay 0, .inl (cs 1, 76, .inl (fun _ => 0))), (ay 6, .inl (cs 1, 3, .inl (fun _ => 0)))]) hP hD hS hA [0, 1, 2] [3, 4, 5] rfl rfl (by decide) (by decide) (run_v (As := []) (rest := []) hFix hK hE hP hD [0, 1, 2] (k_X8_valids l D cs _ x0 (ax 0) (ax 1) (ax 2) (ax 3) (ax 4) (ax 5) (ax 6) (ax 7) (ax 8) (ax 9) (ax 16) (ax 17) (ax 18) (ax 19) (ax 20) (ax 21) (ax 22) (ax 23) (ax 24)) (cwV 0 hts gl_69_X8_valids rfl rfl rfl (by decide +kernel) ⟨Nat.le_of_ble_eq_true rfl, Nat.le_of_ble_eq_true rfl⟩) rfl (by decide) rfl rfl rfl hl.1 rfl (Nat.le_of_ble_eq_true rfl) dL_law_704 ⟨Nat.le_of_ble_eq_true rfl, Nat.le_of_ble_eq_true rfl⟩) (fun r_1 u_1 H locs hq_1 hP hD hS => ?_)
  have hP : va_P D vwCl [(y0, .inr (9, [.int 0, .ref (ay 0), .ref (ay 1), .ref (ay 2), .ref (ay 3), .int 0, .ref (ay 4), .int 0, .int 0, .int 0, .int 0, .int 0, .int 0, .int (-1), .ref (ay 5), .ref (ay 6), .int 0, .int 0, .int 0, .ref (ay 7), .ref (ay 8), .ref (ay 9), .ref (ay 10), .ref (ay 11), .ref (ay 12), .int 0, .int 0, .int 0, .int 0, .int 0, .int 0, .int 0, .int 0, .int 0, .ref (ay 13), .long 0, .long 0, .long 0, .ref (ay 14), .ref (ay 15), .ref (ay 16), .ref (ay 17)])), (ay 0, .inl (cs 1, 76, .inl (fun _ => 0))), (ay 6, .inl (cs 1, 3, .inl (fun _ => 0)))] H := hP
  have hD : va_D (fun q : Nat => s.heap.size ≤ q) [(y0, .inr (9, [.int 0, .ref (ay 0), .ref (ay 1), .ref (ay 2), .ref (ay 3), .int 0, .ref (ay 4), .int 0, .int 0, .int 0, .int 0, .int 0, .int 0, .int (-1), .ref (ay 5), .ref (ay 6), .int 0, .int 0, .int 0, .ref (ay 7), .ref (ay 8), .ref (ay 9), .ref (ay 10), .ref (ay 11), .ref (ay 12), .int 0, .int 0, .int 0, .int 0, .int 0, .int 0, .int 0, .int 0, .int 0, .ref (ay 13), .long 0, .long 0, .long 0, .ref (ay 14), .ref (ay 15), .ref (ay 16), .ref (ay 17)])), (ay 0, .inl (cs 1, 76, .inl (fun _ => 0))), (ay 6, .inl (cs 1, 3, .inl (fun _ => 0)))] := hD
  replace hq_1 : r_1 = (-2) := hq_1
  subst hq_1
  refine lv_aload_n hx hb dL_law_707 rfl (lv_at hl 1 rfl) ?_
  refine aft_i (wr := []) hP hD hS hA [0, 1, 2] [] rfl rfl (by decide) (by decide) (run_v (As := []) (rest := [.int (-2)]) hFix hK hE hP hD [0, 1, 2] (k_X9_valids l D cs _ y0 (ay 0) (ay 1) (ay 2) (ay 3) (ay 4) (ay 5) (ay 6) (ay 7) (ay 8) (ay 9) (ay 10) (ay 11) (ay 12) (ay 13) (ay 14) (ay 15) (ay 16) (ay 17)) (cwV 0 hts gl_72_X9_valids rfl rfl rfl (by decide +kernel) ⟨Nat.le_of_ble_eq_true rfl, Nat.le_of_ble_eq_true rfl⟩) rfl (by decide) rfl rfl rfl hl.1 rfl (Nat.le_of_ble_eq_true rfl) dL_law_708 ⟨Nat.le_of_ble_eq_true rfl, Nat.le_of_ble_eq_true rfl⟩) (fun r_2 u_2 H locs hq_2 hP hD hS => ?_)
  replace hq_2 : r_2 = (-2) := hq_2
  subst hq_2
  refine lv_icmp_eq (tgt := 2473) hx hb dL_law_711 (by decide) (fun _ => ?_) (fun h9 => absurd h9 (by decide))
  exact law_end l C0 hS (lv_sub hl [0, 3] rfl) (Nat.le_of_ble_eq_true rfl) (Nat.le_of_ble_eq_true rfl)

set_option maxHeartbeats 4000000 in
set_option maxRecDepth 100000 in
theorem law_case_14 {p : Program} {e : Env} {s : State} {m : MethodId} {below : List Frame} {meth : Method} {c : Code} (l : Launch) {b : Nat} {xs : Nat → Int32} (C0 : lw_At p s m meth c b 6 xs) {D : va_G} {cs : Nat → ClassId} (hK : va_K D vwCl (mtyA cs) s) (hE : mEnv s) {x0 y0 : Nat} {ax ay : Nat → Nat} {H : Heap} {locs : List Loc} {ls : Array Slot} (hP : va_P D vwCl (lawW cs x0 ax y0 ay) H) (hD : va_D (fun q : Nat => s.heap.size ≤ q) (lawW cs x0 ax y0 ay)) (hS : va_S (fun q : Nat => s.heap.size ≤ q) s.heap H locs) (hl : lv_has ls 4 [(3, .int 0), (2, .ref y0), (1, .ref x0), (0, .ref b)]) : W p l e room_1 s m #[Value.ref b] below meth c H locs 81 7838 (lw_Z below #[Value.ref b] s) (F0 m 716 ls []) := by
  obtain ⟨hx, hb, hr, hml, hown, hts, hX, hbl, hlocks, hgv⟩ := id C0
  have hA : ∀ q : Nat, s.heap.size ≤ q → (fun q : Nat => s.heap.size ≤ q) q := fun _ h => h
  have hbA : ¬ (fun q : Nat => s.heap.size ≤ q) b := Nat.not_le.mpr hbl
  have hFix := (⟨hx, hb, hml, hown, hts⟩ : CallFix p m c _ _ s #[Value.ref b] lw_tbl RL)
  replace hP := hP.sub (ws' := [(x0, .inr (8, [.ref (ax 0), .ref (ax 1), .ref (ax 2), .ref (ax 3), .ref (ax 4), .ref (ax 5), .ref (ax 6), .ref (ax 7), .ref (ax 8), .ref (ax 9)])), (ax 2, .inr (0, [.int 0, .int 0, .int 0, .int 0, .int 0, .int 0, .int 0, .int 0, .int 0, .int 0, .ref (ax 16), .ref (ax 17), .ref (ax 18), .ref (ax 19), .ref (ax 20)])), (ax 4, .inr (6, [.int 0, .int 0, .int 0, .long 0, .ref (ax 21), .ref (ax 22), .ref (ax 23), .ref (ax 24)])), (y0, .inr (9, [.int 0, .ref (ay 0), .ref (ay 1), .ref (ay 2), .ref (ay 3), .int 0, .ref (ay 4), .int 0, .int 0, .int 0, .int 0, .int 0, .int 0, .int (-1), .ref (ay 5), .ref (ay 6), .int 0, .int 0, .int 0, .ref (ay 7), .ref (ay 8), .ref (ay 9), .ref (ay 10), .ref (ay 11), .ref (ay 12), .int 0, .int 0, .int 0, .int 0, .int 0, .int 0, .int 0, .int 0, .int 0, .ref (ay 13), .long 0, .long 0, .long 0, .ref (ay 14), .ref (ay 15), .ref (ay 16), .ref (ay 17)])), (ay 0, .inl (cs 1, 76, .inl (fun _ => 0))), (ay 6, .inl (cs 1, 3, .inl (fun _ => 0)))]) [0, 9, 16, 62, 63, 69] rfl
  replace hD := hD.sub (ws' := [(x0, .inr (8, [.ref (ax 0), .ref (ax 1), .ref (ax 2), .ref (ax 3), .ref (ax 4), .ref (ax 5), .ref (ax 6), .ref (ax 7), .ref (ax 8), .ref (ax 9)])), (ax 2, .inr (0, [.int 0, .int 0, .int 0, .int 0, .int 0, .int 0, .int 0, .int 0, .int 0, .int 0, .ref (ax 16), .ref (ax 17), .ref (ax 18), .ref (ax 19), .ref (ax 20)])), (ax 4, .inr (6, [.int 0, .int 0, .int 0, .long 0, .ref (ax 21), .ref (ax 22), .ref (ax 23), .ref (ax 24)])), (y0, .inr (9, [.int 0, .ref (ay 0), .ref (ay 1), .ref (ay 2), .ref (ay 3), .int 0, .ref (ay 4), .int 0, .int 0, .int 0, .int 0, .int 0, .int 0, .int (-1), .ref (ay 5), .ref (ay 6), .int 0, .int 0, .int 0, .ref (ay 7), .ref (ay 8), .ref (ay 9), .ref (ay 10), .ref (ay 11), .ref (ay 12), .int 0, .int 0, .int 0, .int 0, .int 0, .int 0, .int 0, .int 0, .int 0, .ref (ay 13), .long 0, .long 0, .long 0, .ref (ay 14), .ref (ay 15), .ref (ay 16), .ref (ay 17)])), (ay 0, .inl (cs 1, 76, .inl (fun _ => 0))), (ay 6, .inl (cs 1, 3, .inl (fun _ => 0)))]) [0, 9, 16, 62, 63, 69] (by decide) rfl
  refine lv_aload_n hx hb dL_law_716 rfl (lv_at hl 2 rfl) ?_
  refine lv_aload_n hx hb dL_law_717 rfl (lv_at hl 3 rfl) ?_
  refine lv_iload_n hx hb dL_law_718 rfl (lv_at hl 0 rfl) ?_
  refine lv_iconst (v := 1) hx hb dL_law_719 (by decide) ?_
  refine lv_iadd hx hb dL_law_720 ?_
  refine cf_i 1 (by decide) ?_
  refine va_sld hx hb hX hbl hbA hS (vp_c (by decide)) dL_law_721 ?_
  refine cf_v (.int (xs 1)) rfl ?_
  refine aft_i (wr := [(y0, .inr (9, [.int 0, .ref (ay 0), .ref (ay 1), .ref (ay 2), .ref (ay 3), .int 0, .ref (ay 4), .int 0, .int 0, .int 0, .int 0, .int 0, .int 0, .int (-1), .ref (ay 5), .ref (ay 6), .int 0, .int 0, .int 0, .ref (ay 7), .ref (ay 8), .ref (ay 9), .ref (ay 10), .ref (ay 11), .ref (ay 12), .int 0, .int 0, .int 0, .int 0, .int 0, .int 0, .int 0, .int 0, .int 0, .ref (ay 13), .long 0, .long 0, .long 0, .ref (ay 14), .ref (ay 15), .ref (ay 16), .ref (ay 17)])), (ay 0, .inl (cs 1, 76, .inl (fun _ => 0))), (ay 6, .inl (cs 1, 3, .inl (fun _ => 0)))]) hP hD hS hA [0, 1, 2] [3, 4, 5] rfl rfl (by decide) (by decide) (run_v (As := [.int (xs 1)]) (rest := []) hFix hK hE hP hD [0, 1, 2] (k_X8_breaks l D cs _ x0 (xs 1) (ax 0) (ax 1) (ax 2) (ax 3) (ax 4) (ax 5) (ax 6) (ax 7) (ax 8) (ax 9) (ax 16) (ax 17) (ax 18) (ax 19) (ax 20) (ax 21) (ax 22) (ax 23) (ax 24)) (cwV 1 hts gl_73_X8_breaks rfl rfl rfl (by decide +kernel) ⟨Nat.le_of_ble_eq_true rfl, Nat.le_of_ble_eq_true rfl⟩) rfl (by decide) rfl rfl rfl hl.1 rfl (Nat.le_of_ble_eq_true rfl) dL_law_722 ⟨Nat.le_of_ble_eq_true rfl, Nat.le_of_ble_eq_true rfl⟩) (fun r_1 u_1 H locs hq_1 hP hD hS => ?_)
  have hP : va_P D vwCl [(y0, .inr (9, [.int 0, .ref (ay 0), .ref (ay 1), .ref (ay 2), .ref (ay 3), .int 0, .ref (ay 4), .int 0, .int 0, .int 0, .int 0, .int 0, .int 0, .int (-1), .ref (ay 5), .ref (ay 6), .int 0, .int 0, .int 0, .ref (ay 7), .ref (ay 8), .ref (ay 9), .ref (ay 10), .ref (ay 11), .ref (ay 12), .int 0, .int 0, .int 0, .int 0, .int 0, .int 0, .int 0, .int 0, .int 0, .ref (ay 13), .long 0, .long 0, .long 0, .ref (ay 14), .ref (ay 15), .ref (ay 16), .ref (ay 17)])), (ay 0, .inl (cs 1, 76, .inl (fun _ => 0))), (ay 6, .inl (cs 1, 3, .inl (fun _ => 0)))] H := hP
  have hD : va_D (fun q : Nat => s.heap.size ≤ q) [(y0, .inr (9, [.int 0, .ref (ay 0), .ref (ay 1), .ref (ay 2), .ref (ay 3), .int 0, .ref (ay 4), .int 0, .int 0, .int 0, .int 0, .int 0, .int 0, .int (-1), .ref (ay 5), .ref (ay 6), .int 0, .int 0, .int 0, .ref (ay 7), .ref (ay 8), .ref (ay 9), .ref (ay 10), .ref (ay 11), .ref (ay 12), .int 0, .int 0, .int 0, .int 0, .int 0, .int 0, .int 0, .int 0, .int 0, .ref (ay 13), .long 0, .long 0, .long 0, .ref (ay 14), .ref (ay 15), .ref (ay 16), .ref (ay 17)])), (ay 0, .inl (cs 1, 76, .inl (fun _ => 0))), (ay 6, .inl (cs 1, 3, .inl (fun _ => 0)))] := hD
  replace hq_1 : r_1 = (-2) := hq_1
  subst hq_1
  refine lv_aload_n hx hb dL_law_725 rfl (lv_at hl 1 rfl) ?_
  refine lv_aload_n hx hb dL_law_726 rfl (lv_at hl 3 rfl) ?_
  refine lv_iload_n hx hb dL_law_727 rfl (lv_at hl 0 rfl) ?_
  refine lv_iconst (v := 1) hx hb dL_law_728 (by decide) ?_
  refine lv_iadd hx hb dL_law_729 ?_
  refine cf_i 1 (by decide) ?_
  refine va_sld hx hb hX hbl hbA hS (vp_c (by decide)) dL_law_730 ?_
  refine cf_v (.int (xs 1)) rfl ?_
  refine aft_i (wr := []) hP hD hS hA [0, 1, 2] [] rfl rfl (by decide) (by decide) (run_v (As := [.int (xs 1)]) (rest := [.int (-2)]) hFix hK hE hP hD [0, 1, 2] (k_X9_breaks l D cs _ y0 (xs 1) (ay 0) (ay 1) (ay 2) (ay 3) (ay 4) (ay 5) (ay 6) (ay 7) (ay 8) (ay 9) (ay 10) (ay 11) (ay 12) (ay 13) (ay 14) (ay 15) (ay 16) (ay 17)) (cwV 1 hts gl_76_X9_breaks rfl rfl rfl (by decide +kernel) ⟨Nat.le_of_ble_eq_true rfl, Nat.le_of_ble_eq_true rfl⟩) rfl (by decide) rfl rfl rfl hl.1 rfl (Nat.le_of_ble_eq_true rfl) dL_law_731 ⟨Nat.le_of_ble_eq_true rfl, Nat.le_of_ble_eq_true rfl⟩) (fun r_2 u_2 H locs hq_2 hP hD hS => ?_)
  replace hq_2 : r_2 = (-2) := hq_2
  subst hq_2
  refine lv_icmp_eq (tgt := 2473) hx hb dL_law_734 (by decide) (fun _ => ?_) (fun h9 => absurd h9 (by decide))
  exact law_end l C0 hS (lv_sub hl [0, 3] rfl) (Nat.le_of_ble_eq_true rfl) (Nat.le_of_ble_eq_true rfl)

set_option maxHeartbeats 4000000 in
set_option maxRecDepth 100000 in
theorem law_case_15 {p : Program} {e : Env} {s : State} {m : MethodId} {below : List Frame} {meth : Method} {c : Code} (l : Launch) {b : Nat} {xs : Nat → Int32} (C0 : lw_At p s m meth c b 6 xs) {D : va_G} {cs : Nat → ClassId} (hK : va_K D vwCl (mtyA cs) s) (hE : mEnv s) {x0 y0 : Nat} {ax ay : Nat → Nat} {H : Heap} {locs : List Loc} {ls : Array Slot} (hP : va_P D vwCl (lawW cs x0 ax y0 ay) H) (hD : va_D (fun q : Nat => s.heap.size ≤ q) (lawW cs x0 ax y0 ay)) (hS : va_S (fun q : Nat => s.heap.size ≤ q) s.heap H locs) (hl : lv_has ls 4 [(3, .int 0), (2, .ref y0), (1, .ref x0), (0, .ref b)]) : W p l e room_1 s m #[Value.ref b] below meth c H locs 81 7838 (lw_Z below #[Value.ref b] s) (F0 m 739 ls []) := by
  obtain ⟨hx, hb, hr, hml, hown, hts, hX, hbl, hlocks, hgv⟩ := id C0
  have hA : ∀ q : Nat, s.heap.size ≤ q → (fun q : Nat => s.heap.size ≤ q) q := fun _ h => h
  have hbA : ¬ (fun q : Nat => s.heap.size ≤ q) b := Nat.not_le.mpr hbl
  have hFix := (⟨hx, hb, hml, hown, hts⟩ : CallFix p m c _ _ s #[Value.ref b] lw_tbl RL)
  replace hP := hP.sub (ws' := [(x0, .inr (8, [.ref (ax 0), .ref (ax 1), .ref (ax 2), .ref (ax 3), .ref (ax 4), .ref (ax 5), .ref (ax 6), .ref (ax 7), .ref (ax 8), .ref (ax 9)])), (ax 2, .inr (0, [.int 0, .int 0, .int 0, .int 0, .int 0, .int 0, .int 0, .int 0, .int 0, .int 0, .ref (ax 16), .ref (ax 17), .ref (ax 18), .ref (ax 19), .ref (ax 20)])), (ax 4, .inr (6, [.int 0, .int 0, .int 0, .long 0, .ref (ax 21), .ref (ax 22), .ref (ax 23), .ref (ax 24)])), (y0, .inr (9, [.int 0, .ref (ay 0), .ref (ay 1), .ref (ay 2), .ref (ay 3), .int 0, .ref (ay 4), .int 0, .int 0, .int 0, .int 0, .int 0, .int 0, .int (-1), .ref (ay 5), .ref (ay 6), .int 0, .int 0, .int 0, .ref (ay 7), .ref (ay 8), .ref (ay 9), .ref (ay 10), .ref (ay 11), .ref (ay 12), .int 0, .int 0, .int 0, .int 0, .int 0, .int 0, .int 0, .int 0, .int 0, .ref (ay 13), .long 0, .long 0, .long 0, .ref (ay 14), .ref (ay 15), .ref (ay 16), .ref (ay 17)])), (ay 0, .inl (cs 1, 76, .inl (fun _ => 0))), (ay 6, .inl (cs 1, 3, .inl (fun _ => 0)))]) [0, 9, 16, 62, 63, 69] rfl
  replace hD := hD.sub (ws' := [(x0, .inr (8, [.ref (ax 0), .ref (ax 1), .ref (ax 2), .ref (ax 3), .ref (ax 4), .ref (ax 5), .ref (ax 6), .ref (ax 7), .ref (ax 8), .ref (ax 9)])), (ax 2, .inr (0, [.int 0, .int 0, .int 0, .int 0, .int 0, .int 0, .int 0, .int 0, .int 0, .int 0, .ref (ax 16), .ref (ax 17), .ref (ax 18), .ref (ax 19), .ref (ax 20)])), (ax 4, .inr (6, [.int 0, .int 0, .int 0, .long 0, .ref (ax 21), .ref (ax 22), .ref (ax 23), .ref (ax 24)])), (y0, .inr (9, [.int 0, .ref (ay 0), .ref (ay 1), .ref (ay 2), .ref (ay 3), .int 0, .ref (ay 4), .int 0, .int 0, .int 0, .int 0, .int 0, .int 0, .int (-1), .ref (ay 5), .ref (ay 6), .int 0, .int 0, .int 0, .ref (ay 7), .ref (ay 8), .ref (ay 9), .ref (ay 10), .ref (ay 11), .ref (ay 12), .int 0, .int 0, .int 0, .int 0, .int 0, .int 0, .int 0, .int 0, .int 0, .ref (ay 13), .long 0, .long 0, .long 0, .ref (ay 14), .ref (ay 15), .ref (ay 16), .ref (ay 17)])), (ay 0, .inl (cs 1, 76, .inl (fun _ => 0))), (ay 6, .inl (cs 1, 3, .inl (fun _ => 0)))]) [0, 9, 16, 62, 63, 69] (by decide) rfl
  refine lv_aload_n hx hb dL_law_739 rfl (lv_at hl 2 rfl) ?_
  refine lv_aload_n hx hb dL_law_740 rfl (lv_at hl 3 rfl) ?_
  refine lv_iload_n hx hb dL_law_741 rfl (lv_at hl 0 rfl) ?_
  refine lv_iconst (v := 1) hx hb dL_law_742 (by decide) ?_
  refine lv_iadd hx hb dL_law_743 ?_
  refine cf_i 1 (by decide) ?_
  refine va_sld hx hb hX hbl hbA hS (vp_c (by decide)) dL_law_744 ?_
  refine cf_v (.int (xs 1)) rfl ?_
  refine lv_aload_n hx hb dL_law_745 rfl (lv_at hl 3 rfl) ?_
  refine lv_iload_n hx hb dL_law_746 rfl (lv_at hl 0 rfl) ?_
  refine lv_iconst (v := 2) hx hb dL_law_747 (by decide) ?_
  refine lv_iadd hx hb dL_law_748 ?_
  refine cf_i 2 (by decide) ?_
  refine va_sld hx hb hX hbl hbA hS (vp_c (by decide)) dL_law_749 ?_
  refine cf_v (.int (xs 2)) rfl ?_
  refine aft_i (wr := [(y0, .inr (9, [.int 0, .ref (ay 0), .ref (ay 1), .ref (ay 2), .ref (ay 3), .int 0, .ref (ay 4), .int 0, .int 0, .int 0, .int 0, .int 0, .int 0, .int (-1), .ref (ay 5), .ref (ay 6), .int 0, .int 0, .int 0, .ref (ay 7), .ref (ay 8), .ref (ay 9), .ref (ay 10), .ref (ay 11), .ref (ay 12), .int 0, .int 0, .int 0, .int 0, .int 0, .int 0, .int 0, .int 0, .int 0, .ref (ay 13), .long 0, .long 0, .long 0, .ref (ay 14), .ref (ay 15), .ref (ay 16), .ref (ay 17)])), (ay 0, .inl (cs 1, 76, .inl (fun _ => 0))), (ay 6, .inl (cs 1, 3, .inl (fun _ => 0)))]) hP hD hS hA [0, 1, 2] [3, 4, 5] rfl rfl (by decide) (by decide) (run_v (As := [.int (xs 1), .int (xs 2)]) (rest := []) hFix hK hE hP hD [0, 1, 2] (k_X8_does l D cs _ x0 (xs 1) (xs 2) (ax 0) (ax 1) (ax 2) (ax 3) (ax 4) (ax 5) (ax 6) (ax 7) (ax 8) (ax 9) (ax 16) (ax 17) (ax 18) (ax 19) (ax 20) (ax 21) (ax 22) (ax 23) (ax 24)) (cwV 2 hts gl_77_X8_does rfl rfl rfl (by decide +kernel) ⟨Nat.le_of_ble_eq_true rfl, Nat.le_of_ble_eq_true rfl⟩) rfl (by decide) rfl rfl rfl hl.1 rfl (Nat.le_of_ble_eq_true rfl) dL_law_750 ⟨Nat.le_of_ble_eq_true rfl, Nat.le_of_ble_eq_true rfl⟩) (fun r_1 u_1 H locs hq_1 hP hD hS => ?_)
  have hP : va_P D vwCl [(y0, .inr (9, [.int 0, .ref (ay 0), .ref (ay 1), .ref (ay 2), .ref (ay 3), .int 0, .ref (ay 4), .int 0, .int 0, .int 0, .int 0, .int 0, .int 0, .int (-1), .ref (ay 5), .ref (ay 6), .int 0, .int 0, .int 0, .ref (ay 7), .ref (ay 8), .ref (ay 9), .ref (ay 10), .ref (ay 11), .ref (ay 12), .int 0, .int 0, .int 0, .int 0, .int 0, .int 0, .int 0, .int 0, .int 0, .ref (ay 13), .long 0, .long 0, .long 0, .ref (ay 14), .ref (ay 15), .ref (ay 16), .ref (ay 17)])), (ay 0, .inl (cs 1, 76, .inl (fun _ => 0))), (ay 6, .inl (cs 1, 3, .inl (fun _ => 0)))] H := hP
  have hD : va_D (fun q : Nat => s.heap.size ≤ q) [(y0, .inr (9, [.int 0, .ref (ay 0), .ref (ay 1), .ref (ay 2), .ref (ay 3), .int 0, .ref (ay 4), .int 0, .int 0, .int 0, .int 0, .int 0, .int 0, .int (-1), .ref (ay 5), .ref (ay 6), .int 0, .int 0, .int 0, .ref (ay 7), .ref (ay 8), .ref (ay 9), .ref (ay 10), .ref (ay 11), .ref (ay 12), .int 0, .int 0, .int 0, .int 0, .int 0, .int 0, .int 0, .int 0, .int 0, .ref (ay 13), .long 0, .long 0, .long 0, .ref (ay 14), .ref (ay 15), .ref (ay 16), .ref (ay 17)])), (ay 0, .inl (cs 1, 76, .inl (fun _ => 0))), (ay 6, .inl (cs 1, 3, .inl (fun _ => 0)))] := hD
  replace hq_1 : r_1 = (-2) := hq_1
  subst hq_1
  refine lv_aload_n hx hb dL_law_753 rfl (lv_at hl 1 rfl) ?_
  refine lv_aload_n hx hb dL_law_754 rfl (lv_at hl 3 rfl) ?_
  refine lv_iload_n hx hb dL_law_755 rfl (lv_at hl 0 rfl) ?_
  refine lv_iconst (v := 1) hx hb dL_law_756 (by decide) ?_
  refine lv_iadd hx hb dL_law_757 ?_
  refine cf_i 1 (by decide) ?_
  refine va_sld hx hb hX hbl hbA hS (vp_c (by decide)) dL_law_758 ?_
  refine cf_v (.int (xs 1)) rfl ?_
  refine lv_aload_n hx hb dL_law_759 rfl (lv_at hl 3 rfl) ?_
  refine lv_iload_n hx hb dL_law_760 rfl (lv_at hl 0 rfl) ?_
  refine lv_iconst (v := 2) hx hb dL_law_761 (by decide) ?_
  refine lv_iadd hx hb dL_law_762 ?_
  refine cf_i 2 (by decide) ?_
  refine va_sld hx hb hX hbl hbA hS (vp_c (by decide)) dL_law_763 ?_
  refine cf_v (.int (xs 2)) rfl ?_
  refine aft_i (wr := []) hP hD hS hA [0, 1, 2] [] rfl rfl (by decide) (by decide) (run_v (As := [.int (xs 1), .int (xs 2)]) (rest := [.int (-2)]) hFix hK hE hP hD [0, 1, 2] (k_X9_does l D cs _ y0 (xs 1) (xs 2) (ay 0) (ay 1) (ay 2) (ay 3) (ay 4) (ay 5) (ay 6) (ay 7) (ay 8) (ay 9) (ay 10) (ay 11) (ay 12) (ay 13) (ay 14) (ay 15) (ay 16) (ay 17)) (cwV 2 hts gl_80_X9_does rfl rfl rfl (by decide +kernel) ⟨Nat.le_of_ble_eq_true rfl, Nat.le_of_ble_eq_true rfl⟩) rfl (by decide) rfl rfl rfl hl.1 rfl (Nat.le_of_ble_eq_true rfl) dL_law_764 ⟨Nat.le_of_ble_eq_true rfl, Nat.le_of_ble_eq_true rfl⟩) (fun r_2 u_2 H locs hq_2 hP hD hS => ?_)
  replace hq_2 : r_2 = (-2) := hq_2
  subst hq_2
  refine lv_icmp_eq (tgt := 2473) hx hb dL_law_767 (by decide) (fun _ => ?_) (fun h9 => absurd h9 (by decide))
  exact law_end l C0 hS (lv_sub hl [0, 3] rfl) (Nat.le_of_ble_eq_true rfl) (Nat.le_of_ble_eq_true rfl)

set_option maxHeartbeats 4000000 in
set_option maxRecDepth 100000 in
theorem law_case_16 {p : Program} {e : Env} {s : State} {m : MethodId} {below : List Frame} {meth : Method} {c : Code} (l : Launch) {b : Nat} {xs : Nat → Int32} (C0 : lw_At p s m meth c b 6 xs) {D : va_G} {cs : Nat → ClassId} (hK : va_K D vwCl (mtyA cs) s) (hE : mEnv s) {x0 y0 : Nat} {ax ay : Nat → Nat} {H : Heap} {locs : List Loc} {ls : Array Slot} (hP : va_P D vwCl (lawW cs x0 ax y0 ay) H) (hD : va_D (fun q : Nat => s.heap.size ≤ q) (lawW cs x0 ax y0 ay)) (hS : va_S (fun q : Nat => s.heap.size ≤ q) s.heap H locs) (hl : lv_has ls 4 [(3, .int 0), (2, .ref y0), (1, .ref x0), (0, .ref b)]) : W p l e room_1 s m #[Value.ref b] below meth c H locs 81 7838 (lw_Z below #[Value.ref b] s) (F0 m 772 ls []) := by
  obtain ⟨hx, hb, hr, hml, hown, hts, hX, hbl, hlocks, hgv⟩ := id C0
  have hA : ∀ q : Nat, s.heap.size ≤ q → (fun q : Nat => s.heap.size ≤ q) q := fun _ h => h
  have hbA : ¬ (fun q : Nat => s.heap.size ≤ q) b := Nat.not_le.mpr hbl
  have hFix := (⟨hx, hb, hml, hown, hts⟩ : CallFix p m c _ _ s #[Value.ref b] lw_tbl RL)
  replace hP := hP.sub (ws' := [(x0, .inr (8, [.ref (ax 0), .ref (ax 1), .ref (ax 2), .ref (ax 3), .ref (ax 4), .ref (ax 5), .ref (ax 6), .ref (ax 7), .ref (ax 8), .ref (ax 9)])), (ax 2, .inr (0, [.int 0, .int 0, .int 0, .int 0, .int 0, .int 0, .int 0, .int 0, .int 0, .int 0, .ref (ax 16), .ref (ax 17), .ref (ax 18), .ref (ax 19), .ref (ax 20)])), (ax 4, .inr (6, [.int 0, .int 0, .int 0, .long 0, .ref (ax 21), .ref (ax 22), .ref (ax 23), .ref (ax 24)])), (y0, .inr (9, [.int 0, .ref (ay 0), .ref (ay 1), .ref (ay 2), .ref (ay 3), .int 0, .ref (ay 4), .int 0, .int 0, .int 0, .int 0, .int 0, .int 0, .int (-1), .ref (ay 5), .ref (ay 6), .int 0, .int 0, .int 0, .ref (ay 7), .ref (ay 8), .ref (ay 9), .ref (ay 10), .ref (ay 11), .ref (ay 12), .int 0, .int 0, .int 0, .int 0, .int 0, .int 0, .int 0, .int 0, .int 0, .ref (ay 13), .long 0, .long 0, .long 0, .ref (ay 14), .ref (ay 15), .ref (ay 16), .ref (ay 17)])), (ay 0, .inl (cs 1, 76, .inl (fun _ => 0))), (ay 6, .inl (cs 1, 3, .inl (fun _ => 0)))]) [0, 9, 16, 62, 63, 69] rfl
  replace hD := hD.sub (ws' := [(x0, .inr (8, [.ref (ax 0), .ref (ax 1), .ref (ax 2), .ref (ax 3), .ref (ax 4), .ref (ax 5), .ref (ax 6), .ref (ax 7), .ref (ax 8), .ref (ax 9)])), (ax 2, .inr (0, [.int 0, .int 0, .int 0, .int 0, .int 0, .int 0, .int 0, .int 0, .int 0, .int 0, .ref (ax 16), .ref (ax 17), .ref (ax 18), .ref (ax 19), .ref (ax 20)])), (ax 4, .inr (6, [.int 0, .int 0, .int 0, .long 0, .ref (ax 21), .ref (ax 22), .ref (ax 23), .ref (ax 24)])), (y0, .inr (9, [.int 0, .ref (ay 0), .ref (ay 1), .ref (ay 2), .ref (ay 3), .int 0, .ref (ay 4), .int 0, .int 0, .int 0, .int 0, .int 0, .int 0, .int (-1), .ref (ay 5), .ref (ay 6), .int 0, .int 0, .int 0, .ref (ay 7), .ref (ay 8), .ref (ay 9), .ref (ay 10), .ref (ay 11), .ref (ay 12), .int 0, .int 0, .int 0, .int 0, .int 0, .int 0, .int 0, .int 0, .int 0, .ref (ay 13), .long 0, .long 0, .long 0, .ref (ay 14), .ref (ay 15), .ref (ay 16), .ref (ay 17)])), (ay 0, .inl (cs 1, 76, .inl (fun _ => 0))), (ay 6, .inl (cs 1, 3, .inl (fun _ => 0)))]) [0, 9, 16, 62, 63, 69] (by decide) rfl
  refine lv_aload_n hx hb dL_law_772 rfl (lv_at hl 2 rfl) ?_
  refine lv_aload_n hx hb dL_law_773 rfl (lv_at hl 3 rfl) ?_
  refine lv_iload_n hx hb dL_law_774 rfl (lv_at hl 0 rfl) ?_
  refine lv_iconst (v := 1) hx hb dL_law_775 (by decide) ?_
  refine lv_iadd hx hb dL_law_776 ?_
  refine cf_i 1 (by decide) ?_
  refine va_sld hx hb hX hbl hbA hS (vp_c (by decide)) dL_law_777 ?_
  refine cf_v (.int (xs 1)) rfl ?_
  refine aft_i (wr := [(y0, .inr (9, [.int 0, .ref (ay 0), .ref (ay 1), .ref (ay 2), .ref (ay 3), .int 0, .ref (ay 4), .int 0, .int 0, .int 0, .int 0, .int 0, .int 0, .int (-1), .ref (ay 5), .ref (ay 6), .int 0, .int 0, .int 0, .ref (ay 7), .ref (ay 8), .ref (ay 9), .ref (ay 10), .ref (ay 11), .ref (ay 12), .int 0, .int 0, .int 0, .int 0, .int 0, .int 0, .int 0, .int 0, .int 0, .ref (ay 13), .long 0, .long 0, .long 0, .ref (ay 14), .ref (ay 15), .ref (ay 16), .ref (ay 17)])), (ay 0, .inl (cs 1, 76, .inl (fun _ => 0))), (ay 6, .inl (cs 1, 3, .inl (fun _ => 0)))]) hP hD hS hA [0, 1, 2] [3, 4, 5] rfl rfl (by decide) (by decide) (run_v (As := [.int (xs 1)]) (rest := []) hFix hK hE hP hD [0, 1, 2] (k_X8_works l D cs _ x0 (xs 1) (ax 0) (ax 1) (ax 2) (ax 3) (ax 4) (ax 5) (ax 6) (ax 7) (ax 8) (ax 9) (ax 16) (ax 17) (ax 18) (ax 19) (ax 20) (ax 21) (ax 22) (ax 23) (ax 24)) (cwV 1 hts gl_81_X8_works rfl rfl rfl (by decide +kernel) ⟨Nat.le_of_ble_eq_true rfl, Nat.le_of_ble_eq_true rfl⟩) rfl (by decide) rfl rfl rfl hl.1 rfl (Nat.le_of_ble_eq_true rfl) dL_law_778 ⟨Nat.le_of_ble_eq_true rfl, Nat.le_of_ble_eq_true rfl⟩) (fun r_1 u_1 H locs hq_1 hP hD hS => ?_)
  have hP : va_P D vwCl [(y0, .inr (9, [.int 0, .ref (ay 0), .ref (ay 1), .ref (ay 2), .ref (ay 3), .int 0, .ref (ay 4), .int 0, .int 0, .int 0, .int 0, .int 0, .int 0, .int (-1), .ref (ay 5), .ref (ay 6), .int 0, .int 0, .int 0, .ref (ay 7), .ref (ay 8), .ref (ay 9), .ref (ay 10), .ref (ay 11), .ref (ay 12), .int 0, .int 0, .int 0, .int 0, .int 0, .int 0, .int 0, .int 0, .int 0, .ref (ay 13), .long 0, .long 0, .long 0, .ref (ay 14), .ref (ay 15), .ref (ay 16), .ref (ay 17)])), (ay 0, .inl (cs 1, 76, .inl (fun _ => 0))), (ay 6, .inl (cs 1, 3, .inl (fun _ => 0)))] H := hP
  have hD : va_D (fun q : Nat => s.heap.size ≤ q) [(y0, .inr (9, [.int 0, .ref (ay 0), .ref (ay 1), .ref (ay 2), .ref (ay 3), .int 0, .ref (ay 4), .int 0, .int 0, .int 0, .int 0, .int 0, .int 0, .int (-1), .ref (ay 5), .ref (ay 6), .int 0, .int 0, .int 0, .ref (ay 7), .ref (ay 8), .ref (ay 9), .ref (ay 10), .ref (ay 11), .ref (ay 12), .int 0, .int 0, .int 0, .int 0, .int 0, .int 0, .int 0, .int 0, .int 0, .ref (ay 13), .long 0, .long 0, .long 0, .ref (ay 14), .ref (ay 15), .ref (ay 16), .ref (ay 17)])), (ay 0, .inl (cs 1, 76, .inl (fun _ => 0))), (ay 6, .inl (cs 1, 3, .inl (fun _ => 0)))] := hD
  replace hq_1 : r_1 = (-2) := hq_1
  subst hq_1
  refine lv_aload_n hx hb dL_law_781 rfl (lv_at hl 1 rfl) ?_
  refine lv_aload_n hx hb dL_law_782 rfl (lv_at hl 3 rfl) ?_
  refine lv_iload_n hx hb dL_law_783 rfl (lv_at hl 0 rfl) ?_
  refine lv_iconst (v := 1) hx hb dL_law_784 (by decide) ?_
  refine lv_iadd hx hb dL_law_785 ?_
  refine cf_i 1 (by decide) ?_
  refine va_sld hx hb hX hbl hbA hS (vp_c (by decide)) dL_law_786 ?_
  refine cf_v (.int (xs 1)) rfl ?_
  refine aft_i (wr := []) hP hD hS hA [0, 1, 2] [] rfl rfl (by decide) (by decide) (run_v (As := [.int (xs 1)]) (rest := [.int (-2)]) hFix hK hE hP hD [0, 1, 2] (k_X9_works l D cs _ y0 (xs 1) (ay 0) (ay 1) (ay 2) (ay 3) (ay 4) (ay 5) (ay 6) (ay 7) (ay 8) (ay 9) (ay 10) (ay 11) (ay 12) (ay 13) (ay 14) (ay 15) (ay 16) (ay 17)) (cwV 1 hts gl_84_X9_works rfl rfl rfl (by decide +kernel) ⟨Nat.le_of_ble_eq_true rfl, Nat.le_of_ble_eq_true rfl⟩) rfl (by decide) rfl rfl rfl hl.1 rfl (Nat.le_of_ble_eq_true rfl) dL_law_787 ⟨Nat.le_of_ble_eq_true rfl, Nat.le_of_ble_eq_true rfl⟩) (fun r_2 u_2 H locs hq_2 hP hD hS => ?_)
  replace hq_2 : r_2 = (-2) := hq_2
  subst hq_2
  refine lv_icmp_eq (tgt := 2473) hx hb dL_law_790 (by decide) (fun _ => ?_) (fun h9 => absurd h9 (by decide))
  exact law_end l C0 hS (lv_sub hl [0, 3] rfl) (Nat.le_of_ble_eq_true rfl) (Nat.le_of_ble_eq_true rfl)

set_option maxHeartbeats 4000000 in
set_option maxRecDepth 100000 in
theorem law_case_17 {p : Program} {e : Env} {s : State} {m : MethodId} {below : List Frame} {meth : Method} {c : Code} (l : Launch) {b : Nat} {xs : Nat → Int32} (C0 : lw_At p s m meth c b 6 xs) {D : va_G} {cs : Nat → ClassId} (hK : va_K D vwCl (mtyA cs) s) (hE : mEnv s) {x0 y0 : Nat} {ax ay : Nat → Nat} {H : Heap} {locs : List Loc} {ls : Array Slot} (hP : va_P D vwCl (lawW cs x0 ax y0 ay) H) (hD : va_D (fun q : Nat => s.heap.size ≤ q) (lawW cs x0 ax y0 ay)) (hS : va_S (fun q : Nat => s.heap.size ≤ q) s.heap H locs) (hl : lv_has ls 4 [(3, .int 0), (2, .ref y0), (1, .ref x0), (0, .ref b)]) : W p l e room_1 s m #[Value.ref b] below meth c H locs 81 7838 (lw_Z below #[Value.ref b] s) (F0 m 795 ls []) := by
  obtain ⟨hx, hb, hr, hml, hown, hts, hX, hbl, hlocks, hgv⟩ := id C0
  have hA : ∀ q : Nat, s.heap.size ≤ q → (fun q : Nat => s.heap.size ≤ q) q := fun _ h => h
  have hbA : ¬ (fun q : Nat => s.heap.size ≤ q) b := Nat.not_le.mpr hbl
  have hFix := (⟨hx, hb, hml, hown, hts⟩ : CallFix p m c _ _ s #[Value.ref b] lw_tbl RL)
  replace hP := hP.sub (ws' := [(x0, .inr (8, [.ref (ax 0), .ref (ax 1), .ref (ax 2), .ref (ax 3), .ref (ax 4), .ref (ax 5), .ref (ax 6), .ref (ax 7), .ref (ax 8), .ref (ax 9)])), (ax 2, .inr (0, [.int 0, .int 0, .int 0, .int 0, .int 0, .int 0, .int 0, .int 0, .int 0, .int 0, .ref (ax 16), .ref (ax 17), .ref (ax 18), .ref (ax 19), .ref (ax 20)])), (ax 4, .inr (6, [.int 0, .int 0, .int 0, .long 0, .ref (ax 21), .ref (ax 22), .ref (ax 23), .ref (ax 24)])), (y0, .inr (9, [.int 0, .ref (ay 0), .ref (ay 1), .ref (ay 2), .ref (ay 3), .int 0, .ref (ay 4), .int 0, .int 0, .int 0, .int 0, .int 0, .int 0, .int (-1), .ref (ay 5), .ref (ay 6), .int 0, .int 0, .int 0, .ref (ay 7), .ref (ay 8), .ref (ay 9), .ref (ay 10), .ref (ay 11), .ref (ay 12), .int 0, .int 0, .int 0, .int 0, .int 0, .int 0, .int 0, .int 0, .int 0, .ref (ay 13), .long 0, .long 0, .long 0, .ref (ay 14), .ref (ay 15), .ref (ay 16), .ref (ay 17)])), (ay 0, .inl (cs 1, 76, .inl (fun _ => 0))), (ay 6, .inl (cs 1, 3, .inl (fun _ => 0)))]) [0, 9, 16, 62, 63, 69] rfl
  replace hD := hD.sub (ws' := [(x0, .inr (8, [.ref (ax 0), .ref (ax 1), .ref (ax 2), .ref (ax 3), .ref (ax 4), .ref (ax 5), .ref (ax 6), .ref (ax 7), .ref (ax 8), .ref (ax 9)])), (ax 2, .inr (0, [.int 0, .int 0, .int 0, .int 0, .int 0, .int 0, .int 0, .int 0, .int 0, .int 0, .ref (ax 16), .ref (ax 17), .ref (ax 18), .ref (ax 19), .ref (ax 20)])), (ax 4, .inr (6, [.int 0, .int 0, .int 0, .long 0, .ref (ax 21), .ref (ax 22), .ref (ax 23), .ref (ax 24)])), (y0, .inr (9, [.int 0, .ref (ay 0), .ref (ay 1), .ref (ay 2), .ref (ay 3), .int 0, .ref (ay 4), .int 0, .int 0, .int 0, .int 0, .int 0, .int 0, .int (-1), .ref (ay 5), .ref (ay 6), .int 0, .int 0, .int 0, .ref (ay 7), .ref (ay 8), .ref (ay 9), .ref (ay 10), .ref (ay 11), .ref (ay 12), .int 0, .int 0, .int 0, .int 0, .int 0, .int 0, .int 0, .int 0, .int 0, .ref (ay 13), .long 0, .long 0, .long 0, .ref (ay 14), .ref (ay 15), .ref (ay 16), .ref (ay 17)])), (ay 0, .inl (cs 1, 76, .inl (fun _ => 0))), (ay 6, .inl (cs 1, 3, .inl (fun _ => 0)))]) [0, 9, 16, 62, 63, 69] (by decide) rfl
  refine lv_aload_n hx hb dL_law_795 rfl (lv_at hl 2 rfl) ?_
  refine lv_aload_n hx hb dL_law_796 rfl (lv_at hl 3 rfl) ?_
  refine lv_iload_n hx hb dL_law_797 rfl (lv_at hl 0 rfl) ?_
  refine lv_iconst (v := 1) hx hb dL_law_798 (by decide) ?_
  refine lv_iadd hx hb dL_law_799 ?_
  refine cf_i 1 (by decide) ?_
  refine va_sld hx hb hX hbl hbA hS (vp_c (by decide)) dL_law_800 ?_
  refine cf_v (.int (xs 1)) rfl ?_
  refine lv_aload_n hx hb dL_law_801 rfl (lv_at hl 3 rfl) ?_
  refine lv_iload_n hx hb dL_law_802 rfl (lv_at hl 0 rfl) ?_
  refine lv_iconst (v := 2) hx hb dL_law_803 (by decide) ?_
  refine lv_iadd hx hb dL_law_804 ?_
  refine cf_i 2 (by decide) ?_
  refine va_sld hx hb hX hbl hbA hS (vp_c (by decide)) dL_law_805 ?_
  refine cf_v (.int (xs 2)) rfl ?_
  refine aft_i (wr := [(y0, .inr (9, [.int 0, .ref (ay 0), .ref (ay 1), .ref (ay 2), .ref (ay 3), .int 0, .ref (ay 4), .int 0, .int 0, .int 0, .int 0, .int 0, .int 0, .int (-1), .ref (ay 5), .ref (ay 6), .int 0, .int 0, .int 0, .ref (ay 7), .ref (ay 8), .ref (ay 9), .ref (ay 10), .ref (ay 11), .ref (ay 12), .int 0, .int 0, .int 0, .int 0, .int 0, .int 0, .int 0, .int 0, .int 0, .ref (ay 13), .long 0, .long 0, .long 0, .ref (ay 14), .ref (ay 15), .ref (ay 16), .ref (ay 17)])), (ay 0, .inl (cs 1, 76, .inl (fun _ => 0))), (ay 6, .inl (cs 1, 3, .inl (fun _ => 0)))]) hP hD hS hA [0, 1, 2] [3, 4, 5] rfl rfl (by decide) (by decide) (run_v (As := [.int (xs 1), .int (xs 2)]) (rest := []) hFix hK hE hP hD [0, 1, 2] (k_X8_commute l D cs _ x0 (xs 1) (xs 2) (ax 0) (ax 1) (ax 2) (ax 3) (ax 4) (ax 5) (ax 6) (ax 7) (ax 8) (ax 9) (ax 16) (ax 17) (ax 18) (ax 19) (ax 20) (ax 21) (ax 22) (ax 23) (ax 24)) (cwV 2 hts gl_85_X8_commute rfl rfl rfl (by decide +kernel) ⟨Nat.le_of_ble_eq_true rfl, Nat.le_of_ble_eq_true rfl⟩) rfl (by decide) rfl rfl rfl hl.1 rfl (Nat.le_of_ble_eq_true rfl) dL_law_806 ⟨Nat.le_of_ble_eq_true rfl, Nat.le_of_ble_eq_true rfl⟩) (fun r_1 u_1 H locs hq_1 hP hD hS => ?_)
  have hP : va_P D vwCl [(y0, .inr (9, [.int 0, .ref (ay 0), .ref (ay 1), .ref (ay 2), .ref (ay 3), .int 0, .ref (ay 4), .int 0, .int 0, .int 0, .int 0, .int 0, .int 0, .int (-1), .ref (ay 5), .ref (ay 6), .int 0, .int 0, .int 0, .ref (ay 7), .ref (ay 8), .ref (ay 9), .ref (ay 10), .ref (ay 11), .ref (ay 12), .int 0, .int 0, .int 0, .int 0, .int 0, .int 0, .int 0, .int 0, .int 0, .ref (ay 13), .long 0, .long 0, .long 0, .ref (ay 14), .ref (ay 15), .ref (ay 16), .ref (ay 17)])), (ay 0, .inl (cs 1, 76, .inl (fun _ => 0))), (ay 6, .inl (cs 1, 3, .inl (fun _ => 0)))] H := hP
  have hD : va_D (fun q : Nat => s.heap.size ≤ q) [(y0, .inr (9, [.int 0, .ref (ay 0), .ref (ay 1), .ref (ay 2), .ref (ay 3), .int 0, .ref (ay 4), .int 0, .int 0, .int 0, .int 0, .int 0, .int 0, .int (-1), .ref (ay 5), .ref (ay 6), .int 0, .int 0, .int 0, .ref (ay 7), .ref (ay 8), .ref (ay 9), .ref (ay 10), .ref (ay 11), .ref (ay 12), .int 0, .int 0, .int 0, .int 0, .int 0, .int 0, .int 0, .int 0, .int 0, .ref (ay 13), .long 0, .long 0, .long 0, .ref (ay 14), .ref (ay 15), .ref (ay 16), .ref (ay 17)])), (ay 0, .inl (cs 1, 76, .inl (fun _ => 0))), (ay 6, .inl (cs 1, 3, .inl (fun _ => 0)))] := hD
  replace hq_1 : r_1 = (-2) := hq_1
  subst hq_1
  refine lv_aload_n hx hb dL_law_809 rfl (lv_at hl 1 rfl) ?_
  refine lv_aload_n hx hb dL_law_810 rfl (lv_at hl 3 rfl) ?_
  refine lv_iload_n hx hb dL_law_811 rfl (lv_at hl 0 rfl) ?_
  refine lv_iconst (v := 1) hx hb dL_law_812 (by decide) ?_
  refine lv_iadd hx hb dL_law_813 ?_
  refine cf_i 1 (by decide) ?_
  refine va_sld hx hb hX hbl hbA hS (vp_c (by decide)) dL_law_814 ?_
  refine cf_v (.int (xs 1)) rfl ?_
  refine lv_aload_n hx hb dL_law_815 rfl (lv_at hl 3 rfl) ?_
  refine lv_iload_n hx hb dL_law_816 rfl (lv_at hl 0 rfl) ?_
  refine lv_iconst (v := 2) hx hb dL_law_817 (by decide) ?_
  refine lv_iadd hx hb dL_law_818 ?_
  refine cf_i 2 (by decide) ?_
  refine va_sld hx hb hX hbl hbA hS (vp_c (by decide)) dL_law_819 ?_
  refine cf_v (.int (xs 2)) rfl ?_
  refine aft_i (wr := []) hP hD hS hA [0, 1, 2] [] rfl rfl (by decide) (by decide) (run_v (As := [.int (xs 1), .int (xs 2)]) (rest := [.int (-2)]) hFix hK hE hP hD [0, 1, 2] (k_X9_commute l D cs _ y0 (xs 1) (xs 2) (ay 0) (ay 1) (ay 2) (ay 3) (ay 4) (ay 5) (ay 6) (ay 7) (ay 8) (ay 9) (ay 10) (ay 11) (ay 12) (ay 13) (ay 14) (ay 15) (ay 16) (ay 17)) (cwV 2 hts gl_88_X9_commute rfl rfl rfl (by decide +kernel) ⟨Nat.le_of_ble_eq_true rfl, Nat.le_of_ble_eq_true rfl⟩) rfl (by decide) rfl rfl rfl hl.1 rfl (Nat.le_of_ble_eq_true rfl) dL_law_820 ⟨Nat.le_of_ble_eq_true rfl, Nat.le_of_ble_eq_true rfl⟩) (fun r_2 u_2 H locs hq_2 hP hD hS => ?_)
  replace hq_2 : r_2 = (-2) := hq_2
  subst hq_2
  refine lv_icmp_eq (tgt := 2473) hx hb dL_law_823 (by decide) (fun _ => ?_) (fun h9 => absurd h9 (by decide))
  exact law_end l C0 hS (lv_sub hl [0, 3] rfl) (Nat.le_of_ble_eq_true rfl) (Nat.le_of_ble_eq_true rfl)

set_option maxHeartbeats 4000000 in
set_option maxRecDepth 100000 in
theorem law_case_18 {p : Program} {e : Env} {s : State} {m : MethodId} {below : List Frame} {meth : Method} {c : Code} (l : Launch) {b : Nat} {xs : Nat → Int32} (C0 : lw_At p s m meth c b 6 xs) {D : va_G} {cs : Nat → ClassId} (hK : va_K D vwCl (mtyA cs) s) (hE : mEnv s) {x0 y0 : Nat} {ax ay : Nat → Nat} {H : Heap} {locs : List Loc} {ls : Array Slot} (hP : va_P D vwCl (lawW cs x0 ax y0 ay) H) (hD : va_D (fun q : Nat => s.heap.size ≤ q) (lawW cs x0 ax y0 ay)) (hS : va_S (fun q : Nat => s.heap.size ≤ q) s.heap H locs) (hl : lv_has ls 4 [(3, .int 0), (2, .ref y0), (1, .ref x0), (0, .ref b)]) : W p l e room_1 s m #[Value.ref b] below meth c H locs 81 7838 (lw_Z below #[Value.ref b] s) (F0 m 828 ls []) := by
  obtain ⟨hx, hb, hr, hml, hown, hts, hX, hbl, hlocks, hgv⟩ := id C0
  have hA : ∀ q : Nat, s.heap.size ≤ q → (fun q : Nat => s.heap.size ≤ q) q := fun _ h => h
  have hbA : ¬ (fun q : Nat => s.heap.size ≤ q) b := Nat.not_le.mpr hbl
  have hFix := (⟨hx, hb, hml, hown, hts⟩ : CallFix p m c _ _ s #[Value.ref b] lw_tbl RL)
  replace hP := hP.sub (ws' := [(x0, .inr (8, [.ref (ax 0), .ref (ax 1), .ref (ax 2), .ref (ax 3), .ref (ax 4), .ref (ax 5), .ref (ax 6), .ref (ax 7), .ref (ax 8), .ref (ax 9)])), (ax 2, .inr (0, [.int 0, .int 0, .int 0, .int 0, .int 0, .int 0, .int 0, .int 0, .int 0, .int 0, .ref (ax 16), .ref (ax 17), .ref (ax 18), .ref (ax 19), .ref (ax 20)])), (ax 4, .inr (6, [.int 0, .int 0, .int 0, .long 0, .ref (ax 21), .ref (ax 22), .ref (ax 23), .ref (ax 24)])), (y0, .inr (9, [.int 0, .ref (ay 0), .ref (ay 1), .ref (ay 2), .ref (ay 3), .int 0, .ref (ay 4), .int 0, .int 0, .int 0, .int 0, .int 0, .int 0, .int (-1), .ref (ay 5), .ref (ay 6), .int 0, .int 0, .int 0, .ref (ay 7), .ref (ay 8), .ref (ay 9), .ref (ay 10), .ref (ay 11), .ref (ay 12), .int 0, .int 0, .int 0, .int 0, .int 0, .int 0, .int 0, .int 0, .int 0, .ref (ay 13), .long 0, .long 0, .long 0, .ref (ay 14), .ref (ay 15), .ref (ay 16), .ref (ay 17)])), (ay 0, .inl (cs 1, 76, .inl (fun _ => 0))), (ay 6, .inl (cs 1, 3, .inl (fun _ => 0)))]) [0, 9, 16, 62, 63, 69] rfl
  replace hD := hD.sub (ws' := [(x0, .inr (8, [.ref (ax 0), .ref (ax 1), .ref (ax 2), .ref (ax 3), .ref (ax 4), .ref (ax 5), .ref (ax 6), .ref (ax 7), .ref (ax 8), .ref (ax 9)])), (ax 2, .inr (0, [.int 0, .int 0, .int 0, .int 0, .int 0, .int 0, .int 0, .int 0, .int 0, .int 0, .ref (ax 16), .ref (ax 17), .ref (ax 18), .ref (ax 19), .ref (ax 20)])), (ax 4, .inr (6, [.int 0, .int 0, .int 0, .long 0, .ref (ax 21), .ref (ax 22), .ref (ax 23), .ref (ax 24)])), (y0, .inr (9, [.int 0, .ref (ay 0), .ref (ay 1), .ref (ay 2), .ref (ay 3), .int 0, .ref (ay 4), .int 0, .int 0, .int 0, .int 0, .int 0, .int 0, .int (-1), .ref (ay 5), .ref (ay 6), .int 0, .int 0, .int 0, .ref (ay 7), .ref (ay 8), .ref (ay 9), .ref (ay 10), .ref (ay 11), .ref (ay 12), .int 0, .int 0, .int 0, .int 0, .int 0, .int 0, .int 0, .int 0, .int 0, .ref (ay 13), .long 0, .long 0, .long 0, .ref (ay 14), .ref (ay 15), .ref (ay 16), .ref (ay 17)])), (ay 0, .inl (cs 1, 76, .inl (fun _ => 0))), (ay 6, .inl (cs 1, 3, .inl (fun _ => 0)))]) [0, 9, 16, 62, 63, 69] (by decide) rfl
  refine lv_aload_n hx hb dL_law_828 rfl (lv_at hl 2 rfl) ?_
  refine aft_i (wr := [(y0, .inr (9, [.int 0, .ref (ay 0), .ref (ay 1), .ref (ay 2), .ref (ay 3), .int 0, .ref (ay 4), .int 0, .int 0, .int 0, .int 0, .int 0, .int 0, .int (-1), .ref (ay 5), .ref (ay 6), .int 0, .int 0, .int 0, .ref (ay 7), .ref (ay 8), .ref (ay 9), .ref (ay 10), .ref (ay 11), .ref (ay 12), .int 0, .int 0, .int 0, .int 0, .int 0, .int 0, .int 0, .int 0, .int 0, .ref (ay 13), .long 0, .long 0, .long 0, .ref (ay 14), .ref (ay 15), .ref (ay 16), .ref (ay 17)])), (ay 0, .inl (cs 1, 76, .inl (fun _ => 0))), (ay 6, .inl (cs 1, 3, .inl (fun _ => 0)))]) hP hD hS hA [0, 1, 2] [3, 4, 5] rfl rfl (by decide) (by decide) (run_v (As := []) (rest := []) hFix hK hE hP hD [0, 1, 2] (k_X8_table l D cs _ x0 (ax 0) (ax 1) (ax 2) (ax 3) (ax 4) (ax 5) (ax 6) (ax 7) (ax 8) (ax 9) (ax 16) (ax 17) (ax 18) (ax 19) (ax 20) (ax 21) (ax 22) (ax 23) (ax 24)) (cwV 0 hts gl_89_X8_table rfl rfl rfl (by decide +kernel) ⟨Nat.le_of_ble_eq_true rfl, Nat.le_of_ble_eq_true rfl⟩) rfl (by decide) rfl rfl rfl hl.1 rfl (Nat.le_of_ble_eq_true rfl) dL_law_829 ⟨Nat.le_of_ble_eq_true rfl, Nat.le_of_ble_eq_true rfl⟩) (fun r_1 u_1 H locs hq_1 hP hD hS => ?_)
  have hP : va_P D vwCl [(y0, .inr (9, [.int 0, .ref (ay 0), .ref (ay 1), .ref (ay 2), .ref (ay 3), .int 0, .ref (ay 4), .int 0, .int 0, .int 0, .int 0, .int 0, .int 0, .int (-1), .ref (ay 5), .ref (ay 6), .int 0, .int 0, .int 0, .ref (ay 7), .ref (ay 8), .ref (ay 9), .ref (ay 10), .ref (ay 11), .ref (ay 12), .int 0, .int 0, .int 0, .int 0, .int 0, .int 0, .int 0, .int 0, .int 0, .ref (ay 13), .long 0, .long 0, .long 0, .ref (ay 14), .ref (ay 15), .ref (ay 16), .ref (ay 17)])), (ay 0, .inl (cs 1, 76, .inl (fun _ => 0))), (ay 6, .inl (cs 1, 3, .inl (fun _ => 0)))] H := hP
  have hD : va_D (fun q : Nat => s.heap.size ≤ q) [(y0, .inr (9, [.int 0, .ref (ay 0), .ref (ay 1), .ref (ay 2), .ref (ay 3), .int 0, .ref (ay 4), .int 0, .int 0, .int 0, .int 0, .int 0, .int 0, .int (-1), .ref (ay 5), .ref (ay 6), .int 0, .int 0, .int 0, .ref (ay 7), .ref (ay 8), .ref (ay 9), .ref (ay 10), .ref (ay 11), .ref (ay 12), .int 0, .int 0, .int 0, .int 0, .int 0, .int 0, .int 0, .int 0, .int 0, .ref (ay 13), .long 0, .long 0, .long 0, .ref (ay 14), .ref (ay 15), .ref (ay 16), .ref (ay 17)])), (ay 0, .inl (cs 1, 76, .inl (fun _ => 0))), (ay 6, .inl (cs 1, 3, .inl (fun _ => 0)))] := hD
  replace hq_1 : r_1 = (-2) := hq_1
  subst hq_1
  refine lv_aload_n hx hb dL_law_832 rfl (lv_at hl 1 rfl) ?_
  refine aft_i (wr := []) hP hD hS hA [0, 1, 2] [] rfl rfl (by decide) (by decide) (run_v (As := []) (rest := [.int (-2)]) hFix hK hE hP hD [0, 1, 2] (k_X9_table l D cs _ y0 (ay 0) (ay 1) (ay 2) (ay 3) (ay 4) (ay 5) (ay 6) (ay 7) (ay 8) (ay 9) (ay 10) (ay 11) (ay 12) (ay 13) (ay 14) (ay 15) (ay 16) (ay 17)) (cwV 0 hts gl_92_X9_table rfl rfl rfl (by decide +kernel) ⟨Nat.le_of_ble_eq_true rfl, Nat.le_of_ble_eq_true rfl⟩) rfl (by decide) rfl rfl rfl hl.1 rfl (Nat.le_of_ble_eq_true rfl) dL_law_833 ⟨Nat.le_of_ble_eq_true rfl, Nat.le_of_ble_eq_true rfl⟩) (fun r_2 u_2 H locs hq_2 hP hD hS => ?_)
  replace hq_2 : r_2 = (-2) := hq_2
  subst hq_2
  refine lv_icmp_eq (tgt := 2473) hx hb dL_law_836 (by decide) (fun _ => ?_) (fun h9 => absurd h9 (by decide))
  exact law_end l C0 hS (lv_sub hl [0, 3] rfl) (Nat.le_of_ble_eq_true rfl) (Nat.le_of_ble_eq_true rfl)

set_option maxHeartbeats 4000000 in
set_option maxRecDepth 100000 in
theorem law_case_19 {p : Program} {e : Env} {s : State} {m : MethodId} {below : List Frame} {meth : Method} {c : Code} (l : Launch) {b : Nat} {xs : Nat → Int32} (C0 : lw_At p s m meth c b 6 xs) {D : va_G} {cs : Nat → ClassId} (hK : va_K D vwCl (mtyA cs) s) (hE : mEnv s) {x0 y0 : Nat} {ax ay : Nat → Nat} {H : Heap} {locs : List Loc} {ls : Array Slot} (hP : va_P D vwCl (lawW cs x0 ax y0 ay) H) (hD : va_D (fun q : Nat => s.heap.size ≤ q) (lawW cs x0 ax y0 ay)) (hS : va_S (fun q : Nat => s.heap.size ≤ q) s.heap H locs) (hl : lv_has ls 4 [(3, .int 0), (2, .ref y0), (1, .ref x0), (0, .ref b)]) : W p l e room_1 s m #[Value.ref b] below meth c H locs 81 7838 (lw_Z below #[Value.ref b] s) (F0 m 841 ls []) := by
  obtain ⟨hx, hb, hr, hml, hown, hts, hX, hbl, hlocks, hgv⟩ := id C0
  have hA : ∀ q : Nat, s.heap.size ≤ q → (fun q : Nat => s.heap.size ≤ q) q := fun _ h => h
  have hbA : ¬ (fun q : Nat => s.heap.size ≤ q) b := Nat.not_le.mpr hbl
  have hFix := (⟨hx, hb, hml, hown, hts⟩ : CallFix p m c _ _ s #[Value.ref b] lw_tbl RL)
  replace hP := hP.sub (ws' := [(x0, .inr (8, [.ref (ax 0), .ref (ax 1), .ref (ax 2), .ref (ax 3), .ref (ax 4), .ref (ax 5), .ref (ax 6), .ref (ax 7), .ref (ax 8), .ref (ax 9)])), (ax 2, .inr (0, [.int 0, .int 0, .int 0, .int 0, .int 0, .int 0, .int 0, .int 0, .int 0, .int 0, .ref (ax 16), .ref (ax 17), .ref (ax 18), .ref (ax 19), .ref (ax 20)])), (ax 4, .inr (6, [.int 0, .int 0, .int 0, .long 0, .ref (ax 21), .ref (ax 22), .ref (ax 23), .ref (ax 24)])), (y0, .inr (9, [.int 0, .ref (ay 0), .ref (ay 1), .ref (ay 2), .ref (ay 3), .int 0, .ref (ay 4), .int 0, .int 0, .int 0, .int 0, .int 0, .int 0, .int (-1), .ref (ay 5), .ref (ay 6), .int 0, .int 0, .int 0, .ref (ay 7), .ref (ay 8), .ref (ay 9), .ref (ay 10), .ref (ay 11), .ref (ay 12), .int 0, .int 0, .int 0, .int 0, .int 0, .int 0, .int 0, .int 0, .int 0, .ref (ay 13), .long 0, .long 0, .long 0, .ref (ay 14), .ref (ay 15), .ref (ay 16), .ref (ay 17)])), (ay 0, .inl (cs 1, 76, .inl (fun _ => 0))), (ay 6, .inl (cs 1, 3, .inl (fun _ => 0)))]) [0, 9, 16, 62, 63, 69] rfl
  replace hD := hD.sub (ws' := [(x0, .inr (8, [.ref (ax 0), .ref (ax 1), .ref (ax 2), .ref (ax 3), .ref (ax 4), .ref (ax 5), .ref (ax 6), .ref (ax 7), .ref (ax 8), .ref (ax 9)])), (ax 2, .inr (0, [.int 0, .int 0, .int 0, .int 0, .int 0, .int 0, .int 0, .int 0, .int 0, .int 0, .ref (ax 16), .ref (ax 17), .ref (ax 18), .ref (ax 19), .ref (ax 20)])), (ax 4, .inr (6, [.int 0, .int 0, .int 0, .long 0, .ref (ax 21), .ref (ax 22), .ref (ax 23), .ref (ax 24)])), (y0, .inr (9, [.int 0, .ref (ay 0), .ref (ay 1), .ref (ay 2), .ref (ay 3), .int 0, .ref (ay 4), .int 0, .int 0, .int 0, .int 0, .int 0, .int 0, .int (-1), .ref (ay 5), .ref (ay 6), .int 0, .int 0, .int 0, .ref (ay 7), .ref (ay 8), .ref (ay 9), .ref (ay 10), .ref (ay 11), .ref (ay 12), .int 0, .int 0, .int 0, .int 0, .int 0, .int 0, .int 0, .int 0, .int 0, .ref (ay 13), .long 0, .long 0, .long 0, .ref (ay 14), .ref (ay 15), .ref (ay 16), .ref (ay 17)])), (ay 0, .inl (cs 1, 76, .inl (fun _ => 0))), (ay 6, .inl (cs 1, 3, .inl (fun _ => 0)))]) [0, 9, 16, 62, 63, 69] (by decide) rfl
  refine lv_aload_n hx hb dL_law_841 rfl (lv_at hl 2 rfl) ?_
  refine lv_aload_n hx hb dL_law_842 rfl (lv_at hl 3 rfl) ?_
  refine lv_iload_n hx hb dL_law_843 rfl (lv_at hl 0 rfl) ?_
  refine lv_iconst (v := 1) hx hb dL_law_844 (by decide) ?_
  refine lv_iadd hx hb dL_law_845 ?_
  refine cf_i 1 (by decide) ?_
  refine va_sld hx hb hX hbl hbA hS (vp_c (by decide)) dL_law_846 ?_
  refine cf_v (.int (xs 1)) rfl ?_
  refine lv_aload_n hx hb dL_law_847 rfl (lv_at hl 3 rfl) ?_
  refine lv_iload_n hx hb dL_law_848 rfl (lv_at hl 0 rfl) ?_
  refine lv_iconst (v := 2) hx hb dL_law_849 (by decide) ?_
  refine lv_iadd hx hb dL_law_850 ?_
  refine cf_i 2 (by decide) ?_
  refine va_sld hx hb hX hbl hbA hS (vp_c (by decide)) dL_law_851 ?_
  refine cf_v (.int (xs 2)) rfl ?_
  refine lv_aload_n hx hb dL_law_852 rfl (lv_at hl 3 rfl) ?_
  refine lv_iload_n hx hb dL_law_853 rfl (lv_at hl 0 rfl) ?_
  refine lv_iconst (v := 3) hx hb dL_law_854 (by decide) ?_
  refine lv_iadd hx hb dL_law_855 ?_
  refine cf_i 3 (by decide) ?_
  refine va_sld hx hb hX hbl hbA hS (vp_c (by decide)) dL_law_856 ?_
  refine cf_v (.int (xs 3)) rfl ?_
  refine aft_i (wr := [(y0, .inr (9, [.int 0, .ref (ay 0), .ref (ay 1), .ref (ay 2), .ref (ay 3), .int 0, .ref (ay 4), .int 0, .int 0, .int 0, .int 0, .int 0, .int 0, .int (-1), .ref (ay 5), .ref (ay 6), .int 0, .int 0, .int 0, .ref (ay 7), .ref (ay 8), .ref (ay 9), .ref (ay 10), .ref (ay 11), .ref (ay 12), .int 0, .int 0, .int 0, .int 0, .int 0, .int 0, .int 0, .int 0, .int 0, .ref (ay 13), .long 0, .long 0, .long 0, .ref (ay 14), .ref (ay 15), .ref (ay 16), .ref (ay 17)])), (ay 0, .inl (cs 1, 76, .inl (fun _ => 0))), (ay 6, .inl (cs 1, 3, .inl (fun _ => 0)))]) hP hD hS hA [0, 1, 2] [3, 4, 5] rfl rfl (by decide) (by decide) (run_v (As := [.int (xs 1), .int (xs 2), .int (xs 3)]) (rest := []) hFix hK hE hP hD [0, 1, 2] (k_X8_merge l D cs _ x0 (xs 1) (xs 2) (xs 3) (ax 0) (ax 1) (ax 2) (ax 3) (ax 4) (ax 5) (ax 6) (ax 7) (ax 8) (ax 9) (ax 16) (ax 17) (ax 18) (ax 19) (ax 20) (ax 21) (ax 22) (ax 23) (ax 24)) (cwV 3 hts gl_93_X8_merge rfl rfl rfl (by decide +kernel) ⟨Nat.le_of_ble_eq_true rfl, Nat.le_of_ble_eq_true rfl⟩) rfl (by decide) rfl rfl rfl hl.1 rfl (Nat.le_of_ble_eq_true rfl) dL_law_857 ⟨Nat.le_of_ble_eq_true rfl, Nat.le_of_ble_eq_true rfl⟩) (fun r_1 u_1 H locs hq_1 hP hD hS => ?_)
  have hP : va_P D vwCl [(y0, .inr (9, [.int 0, .ref (ay 0), .ref (ay 1), .ref (ay 2), .ref (ay 3), .int 0, .ref (ay 4), .int 0, .int 0, .int 0, .int 0, .int 0, .int 0, .int (-1), .ref (ay 5), .ref (ay 6), .int 0, .int 0, .int 0, .ref (ay 7), .ref (ay 8), .ref (ay 9), .ref (ay 10), .ref (ay 11), .ref (ay 12), .int 0, .int 0, .int 0, .int 0, .int 0, .int 0, .int 0, .int 0, .int 0, .ref (ay 13), .long 0, .long 0, .long 0, .ref (ay 14), .ref (ay 15), .ref (ay 16), .ref (ay 17)])), (ay 0, .inl (cs 1, 76, .inl (fun _ => 0))), (ay 6, .inl (cs 1, 3, .inl (fun _ => 0)))] H := hP
  have hD : va_D (fun q : Nat => s.heap.size ≤ q) [(y0, .inr (9, [.int 0, .ref (ay 0), .ref (ay 1), .ref (ay 2), .ref (ay 3), .int 0, .ref (ay 4), .int 0, .int 0, .int 0, .int 0, .int 0, .int 0, .int (-1), .ref (ay 5), .ref (ay 6), .int 0, .int 0, .int 0, .ref (ay 7), .ref (ay 8), .ref (ay 9), .ref (ay 10), .ref (ay 11), .ref (ay 12), .int 0, .int 0, .int 0, .int 0, .int 0, .int 0, .int 0, .int 0, .int 0, .ref (ay 13), .long 0, .long 0, .long 0, .ref (ay 14), .ref (ay 15), .ref (ay 16), .ref (ay 17)])), (ay 0, .inl (cs 1, 76, .inl (fun _ => 0))), (ay 6, .inl (cs 1, 3, .inl (fun _ => 0)))] := hD
  replace hq_1 : r_1 = (-2) := hq_1
  subst hq_1
  refine lv_aload_n hx hb dL_law_860 rfl (lv_at hl 1 rfl) ?_
  refine lv_aload_n hx hb dL_law_861 rfl (lv_at hl 3 rfl) ?_
  refine lv_iload_n hx hb dL_law_862 rfl (lv_at hl 0 rfl) ?_
  refine lv_iconst (v := 1) hx hb dL_law_863 (by decide) ?_
  refine lv_iadd hx hb dL_law_864 ?_
  refine cf_i 1 (by decide) ?_
  refine va_sld hx hb hX hbl hbA hS (vp_c (by decide)) dL_law_865 ?_
  refine cf_v (.int (xs 1)) rfl ?_
  refine lv_aload_n hx hb dL_law_866 rfl (lv_at hl 3 rfl) ?_
  refine lv_iload_n hx hb dL_law_867 rfl (lv_at hl 0 rfl) ?_
  refine lv_iconst (v := 2) hx hb dL_law_868 (by decide) ?_
  refine lv_iadd hx hb dL_law_869 ?_
  refine cf_i 2 (by decide) ?_
  refine va_sld hx hb hX hbl hbA hS (vp_c (by decide)) dL_law_870 ?_
  refine cf_v (.int (xs 2)) rfl ?_
  refine lv_aload_n hx hb dL_law_871 rfl (lv_at hl 3 rfl) ?_
  refine lv_iload_n hx hb dL_law_872 rfl (lv_at hl 0 rfl) ?_
  refine lv_iconst (v := 3) hx hb dL_law_873 (by decide) ?_
  refine lv_iadd hx hb dL_law_874 ?_
  refine cf_i 3 (by decide) ?_
  refine va_sld hx hb hX hbl hbA hS (vp_c (by decide)) dL_law_875 ?_
  refine cf_v (.int (xs 3)) rfl ?_
  refine aft_i (wr := []) hP hD hS hA [0, 1, 2] [] rfl rfl (by decide) (by decide) (run_v (As := [.int (xs 1), .int (xs 2), .int (xs 3)]) (rest := [.int (-2)]) hFix hK hE hP hD [0, 1, 2] (k_X9_merge l D cs _ y0 (xs 1) (xs 2) (xs 3) (ay 0) (ay 1) (ay 2) (ay 3) (ay 4) (ay 5) (ay 6) (ay 7) (ay 8) (ay 9) (ay 10) (ay 11) (ay 12) (ay 13) (ay 14) (ay 15) (ay 16) (ay 17)) (cwV 3 hts gl_97_X9_merge rfl rfl rfl (by decide +kernel) ⟨Nat.le_of_ble_eq_true rfl, Nat.le_of_ble_eq_true rfl⟩) rfl (by decide) rfl rfl rfl hl.1 rfl (Nat.le_of_ble_eq_true rfl) dL_law_876 ⟨Nat.le_of_ble_eq_true rfl, Nat.le_of_ble_eq_true rfl⟩) (fun r_2 u_2 H locs hq_2 hP hD hS => ?_)
  replace hq_2 : r_2 = (-2) := hq_2
  subst hq_2
  refine lv_icmp_eq (tgt := 2473) hx hb dL_law_879 (by decide) (fun _ => ?_) (fun h9 => absurd h9 (by decide))
  exact law_end l C0 hS (lv_sub hl [0, 3] rfl) (Nat.le_of_ble_eq_true rfl) (Nat.le_of_ble_eq_true rfl)
