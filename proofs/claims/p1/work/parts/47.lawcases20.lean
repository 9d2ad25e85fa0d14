set_option maxHeartbeats 4000000 in
set_option maxRecDepth 100000 in
theorem law_case_20 {p : Program} {e : Env} {s : State} {m : MethodId} {below : List Frame} {meth : Method} {c : Code} (l : Launch) {b : Nat} {xs : Nat → Int32} (C0 : lw_At p s m meth c b 6 xs) {D : va_G} {cs : Nat → ClassId} (hK : va_K D vwCl (mtyA cs) s) (hE : mEnv s) {x0 y0 : Nat} {ax ay : Nat → Nat} {H : Heap} {locs : List Loc} {ls : Array Slot} (hP : va_P D vwCl (lawW cs x0 ax y0 ay) H) (hD : va_D (fun q : Nat => s.heap.size ≤ q) (lawW cs x0 ax y0 ay)) (hS : va_S (fun q : Nat => s.heap.size ≤ q) s.heap H locs) (hl : lv_has ls 4 [(3, .int 0), (2, .ref y0), (1, .ref x0), (0, .ref b)]) : W p l e room_1 s m #[Value.ref b] below meth c H locs 81 7838 (lw_Z below #[Value.ref b] s) (F0 m 884 ls []) := by
  obtain ⟨hx, hb, hr, hml, hown, hts, hX, hbl, hlocks, hgv⟩ := id C0
  have hA : ∀ q : Nat, s.heap.size ≤ q → (fun q : Nat => s.heap.size ≤ q) q := fun _ h => h
  have hbA : ¬ (fun q : Nat => s.heap.size ≤ q) b := Nat.not_le.mpr hbl
  have hFix := (⟨hx, hb, hml, hown, hts⟩ : CallFix p m c _ _ s #[Value.ref b] lw_tbl RL)
  replace hP := hP.sub (ws' := [(x0, .inr (8, [.ref (ax 0), .ref (ax 1), .ref (ax 2), .ref (ax 3), .ref (ax 4), .ref (ax 5), .ref (ax 6), .ref (ax 7), .ref (ax 8), .ref (ax 9)])), (ax 2, .inr (0, [.int 0, .int 0, .int 0, .int 0, .int 0, .int 0, .int 0, .int 0, .int 0, .int 0, .ref (ax 16), .ref (ax 17), .ref (ax 18), .ref (ax 19), .ref (ax 20)])), (ax 4, .inr (6, [.int 0, .int 0, .int 0, .long 0, .ref (ax 21), .ref (ax 22), .ref (ax 23), .ref (ax 24)])), (y0, .inr (9, [.int 0, .ref (ay 0), .ref (ay 1), .ref (ay 2), .ref (ay 3), .int 0, .ref (ay 4), .int 0, .int 0, .int 0, .int 0, .int 0, .int 0, .int (-1), .ref (ay 5), .ref (ay 6), .int 0, .int 0, .int 0, .ref (ay 7), .ref (ay 8), .ref (ay 9), .ref (ay 10), .ref (ay 11), .ref (ay 12), .int 0, .int 0, .int 0, .int 0, .int 0, .int 0, .int 0, .int 0, .int 0, .ref (ay 13), .long 0, .long 0, .long 0, .ref (ay 14), .ref (ay 15), .ref (ay 16), .ref (ay 17)])), (ay 0, .inl (cs 1, 76, .inl (fun _ => 0))), (ay 6, .inl (cs 1, 3, .inl (fun _ => 0)))]) [0, 9, 16, 62, 63, 69] rfl
  replace hD := hD.sub (ws' := [(x0, .inr (8, [.ref (ax 0), .ref (ax 1), .ref (ax 2), .ref (ax 3), .ref (ax 4), .ref (ax 5), .ref (ax 6), .ref (ax 7), .ref (ax 8), .ref (ax 9)])), (ax 2, .inr (0, [.int 0, .int 0, .int 0, .int 0, .int 0, .int 0, .int 0, .int 0, .int 0, .int 0, .ref (ax 16), .ref (ax 17), .ref (ax 18), .ref (ax 19), .ref (ax 20)])), (ax 4, .inr (6, [.int 0, .int 0, .int 0, .long 0, .ref (ax 21), .ref (ax 22), .ref (ax 23), .ref (ax 24)])), (y0, .inr (9, [.int 0, .ref (ay 0), .ref (ay 1), .ref (ay 2), .ref (ay 3), .int 0, .ref (ay 4), .int 0, .int 0, .int 0, .int 0, .int 0, .int 0, .int (-1), .ref (ay 5), .ref (ay 6), .int 0, .int 0, .int 0, .ref (ay 7), .ref (ay 8), .ref (ay 9), .ref (ay 10), .ref (ay 11), .ref (ay 12), .int 0, .int 0, .int 0, .int 0, .int 0, .int 0, .int 0, .int 0, .int 0, .ref (ay 13), .long 0, .long 0, .long 0, .ref (ay 14), .ref (ay 15), .ref (ay 16), .ref (ay 17)])), (ay 0, .inl (cs 1, 76, .inl (fun _ => 0))), (ay 6, .inl (cs 1, 3, .inl (fun _ => 0)))]) [0, 9, 16, 62, 63, 69] (by decide) rfl
  refine lv_aload_n hx hb dL_law_884 rfl (lv_at hl 2 rfl) ?_
  refine lv_aload_n hx hb dL_law_885 rfl (lv_at hl 3 rfl) ?_
  refine lv_iload_n hx hb dL_law_886 rfl (lv_at hl 0 rfl) ?_
  refine lv_iconst (v := 1) hx hb dL_law_887 (by decide) ?_
  refine lv_iadd hx hb dL_law_888 ?_
  refine cf_i 1 (by decide) ?_
  refine va_sld hx hb hX hbl hbA hS (vp_c (by decide)) dL_law_889 ?_
  refine cf_v (.int (xs 1)) rfl ?_
  refine lv_aload_n hx hb dL_law_890 rfl (lv_at hl 3 rfl) ?_
  refine lv_iload_n hx hb dL_law_891 rfl (lv_at hl 0 rfl) ?_
  refine lv_iconst (v := 2) hx hb dL_law_892 (by decide) ?_
  refine lv_iadd hx hb dL_law_893 ?_
  refine cf_i 2 (by decide) ?_
  refine va_sld hx hb hX hbl hbA hS (vp_c (by decide)) dL_law_894 ?_
  refine cf_v (.int (xs 2)) rfl ?_
  refine lv_aload_n hx hb dL_law_895 rfl (lv_at hl 3 rfl) ?_
  refine lv_iload_n hx hb dL_law_896 rfl (lv_at hl 0 rfl) ?_
  refine lv_iconst (v := 3) hx hb dL_law_897 (by decide) ?_
  refine lv_iadd hx hb dL_law_898 ?_
  refine cf_i 3 (by decide) ?_
  refine va_sld hx hb hX hbl hbA hS (vp_c (by decide)) dL_law_899 ?_
  refine cf_v (.int (xs 3)) rfl ?_
  refine aft_i (wr := [(y0, .inr (9, [.int 0, .ref (ay 0), .ref (ay 1), .ref (ay 2), .ref (ay 3), .int 0, .ref (ay 4), .int 0, .int 0, .int 0, .int 0, .int 0, .int 0, .int (-1), .ref (ay 5), .ref (ay 6), .int 0, .int 0, .int 0, .ref (ay 7), .ref (ay 8), .ref (ay 9), .ref (ay 10), .ref (ay 11), .ref (ay 12), .int 0, .int 0, .int 0, .int 0, .int 0, .int 0, .int 0, .int 0, .int 0, .ref (ay 13), .long 0, .long 0, .long 0, .ref (ay 14), .ref (ay 15), .ref (ay 16), .ref (ay 17)])), (ay 0, .inl (cs 1, 76, .inl (fun _ => 0))), (ay 6, .inl (cs 1, 3, .inl (fun _ => 0)))]) hP hD hS hA [0, 1, 2] [3, 4, 5] rfl rfl (by decide) (by decide) (run_v (As := [.int (xs 1), .int (xs 2), .int (xs 3)]) (rest := []) hFix hK hE hP hD [0, 1, 2] (k_X8_even l D cs _ x0 (xs 1) (xs 2) (xs 3) (ax 0) (ax 1) (ax 2) (ax 3) (ax 4) (ax 5) (ax 6) (ax 7) (ax 8) (ax 9) (ax 16) (ax 17) (ax 18) (ax 19) (ax 20) (ax 21) (ax 22) (ax 23) (ax 24)) (cwV 3 hts gl_98_X8_even rfl rfl rfl (by decide +kernel) ⟨Nat.le_of_ble_eq_true rfl, Nat.le_of_ble_eq_true rfl⟩) rfl (by decide) rfl rfl rfl hl.1 rfl (Nat.le_of_ble_eq_true rfl) dL_law_900 ⟨Nat.le_of_ble_eq_true rfl, Nat.le_of_ble_eq_true rfl⟩) (fun r_1 u_1 H locs hq_1 hP hD hS => ?_)
  have hP : va_P D vwCl [(y0, .inr (9, [.int 0, .ref (ay 0), .ref (ay 1), .ref (ay 2), .ref (ay 3), .int 0, .ref (ay 4), .int 0, .int 0, .int 0, .int 0, .int 0, .int 0, .int (-1), .ref (ay 5), .ref (ay 6), .int 0, .int 0, .int 0, .ref (ay 7), .ref (ay 8), .ref (ay 9), .ref (ay 10), .ref (ay 11), .ref (ay 12), .int 0, .int 0, .int 0, .int 0, .int 0, .int 0, .int 0, .int 0, .int 0, .ref (ay 13), .long 0, .long 0, .long 0, .ref (ay 14), .ref (ay 15), .ref (ay 16), .ref (ay 17)])), (ay 0, .inl (cs 1, 76, .inl (fun _ => 0))), (ay 6, .inl (cs 1, 3, .inl (fun _ => 0)))] H := hP
  have hD : va_D (fun q : Nat => s.heap.size ≤ q) [(y0, .inr (9, [.int 0, .ref (ay 0), .ref (ay 1), .ref (ay 2), .ref (ay 3), .int 0, .ref (ay 4), .int 0, .int 0, .int 0, .int 0, .int 0, .int 0, .int (-1), .ref (ay 5), .ref (ay 6), .int 0, .int 0, .int 0, .ref (ay 7), .ref (ay 8), .ref (ay 9), .ref (ay 10), .ref (ay 11), .ref (ay 12), .int 0, .int 0, .int 0, .int 0, .int 0, .int 0, .int 0, .int 0, .int 0, .ref (ay 13), .long 0, .long 0, .long 0, .ref (ay 14), .ref (ay 15), .ref (ay 16), .ref (ay 17)])), (ay 0, .inl (cs 1, 76, .inl (fun _ => 0))), (ay 6, .inl (cs 1, 3, .inl (fun _ => 0)))] := hD
  replace hq_1 : r_1 = (-2) := hq_1
  subst hq_1
  refine lv_aload_n hx hb dL_law_903 rfl (lv_at hl 1 rfl) ?_
  refine lv_aload_n hx hb dL_law_904 rfl (lv_at hl 3 rfl) ?_
  refine lv_iload_n hx hb dL_law_905 rfl (lv_at hl 0 rfl) ?_
  refine lv_iconst (v := 1) hx hb dL_law_906 (by decide) ?_
  refine lv_iadd hx hb dL_law_907 ?_
  refine cf_i 1 (by decide) ?_
  refine va_sld hx hb hX hbl hbA hS (vp_c (by decide)) dL_law_908 ?_
  refine cf_v (.int (xs 1)) rfl ?_
  refine lv_aload_n hx hb dL_law_909 rfl (lv_at hl 3 rfl) ?_
  refine lv_iload_n hx hb dL_law_910 rfl (lv_at hl 0 rfl) ?_
  refine lv_iconst (v := 2) hx hb dL_law_911 (by decide) ?_
  refine lv_iadd hx hb dL_law_912 ?_
  refine cf_i 2 (by decide) ?_
  refine va_sld hx hb hX hbl hbA hS (vp_c (by decide)) dL_law_913 ?_
  refine cf_v (.int (xs 2)) rfl ?_
  refine lv_aload_n hx hb dL_law_914 rfl (lv_at hl 3 rfl) ?_
  refine lv_iload_n hx hb dL_law_915 rfl (lv_at hl 0 rfl) ?_
  refine lv_iconst (v := 3) hx hb dL_law_916 (by decide) ?_
  refine lv_iadd hx hb dL_law_917 ?_
  refine cf_i 3 (by decide) ?_
  refine va_sld hx hb hX hbl hbA hS (vp_c (by decide)) dL_law_918 ?_
  refine cf_v (.int (xs 3)) rfl ?_
  refine aft_i (wr := []) hP hD hS hA [0, 1, 2] [] rfl rfl (by decide) (by decide) (run_v (As := [.int (xs 1), .int (xs 2), .int (xs 3)]) (rest := [.int (-2)]) hFix hK hE hP hD [0, 1, 2] (k_X9_even l D cs _ y0 (xs 1) (xs 2) (xs 3) (ay 0) (ay 1) (ay 2) (ay 3) (ay 4) (ay 5) (ay 6) (ay 7) (ay 8) (ay 9) (ay 10) (ay 11) (ay 12) (ay 13) (ay 14) (ay 15) (ay 16) (ay 17)) (cwV 3 hts gl_101_X9_even rfl rfl rfl (by decide +kernel) ⟨Nat.le_of_ble_eq_true rfl, Nat.le_of_ble_eq_true rfl⟩) rfl (by decide) rfl rfl rfl hl.1 rfl (Nat.le_of_ble_eq_true rfl) dL_law_919 ⟨Nat.le_of_ble_eq_true rfl, Nat.le_of_ble_eq_true rfl⟩) (fun r_2 u_2 H locs hq_2 hP hD hS => ?_)
  replace hq_2 : r_2 = (-2) := hq_2
  subst hq_2
  refine lv_icmp_eq (tgt := 2473) hx hb dL_law_922 (by decide) (fun _ => ?_) (fun h9 => absurd h9 (by decide))
  exact law_end l C0 hS (lv_sub hl [0, 3] rfl) (Nat.le_of_ble_eq_true rfl) (Nat.le_of_ble_eq_true rfl)

set_option maxHeartbeats 4000000 in
set_option maxRecDepth 100000 in
theorem law_case_21 {p : Program} {e : Env} {s : State} {m : MethodId} {below : List Frame} {meth : Method} {c : Code} (l : Launch) {b : Nat} {xs : Nat → Int32} (C0 : lw_At p s m meth c b 6 xs) {D : va_G} {cs : Nat → ClassId} (hK : va_K D vwCl (mtyA cs) s) (hE : mEnv s) {x0 y0 : Nat} {ax ay : Nat → Nat} {H : Heap} {locs : List Loc} {ls : Array Slot} (hP : va_P D vwCl (lawW cs x0 ax y0 ay) H) (hD : va_D (fun q : Nat => s.heap.size ≤ q) (lawW cs x0 ax y0 ay)) (hS : va_S (fun q : Nat => s.heap.size ≤ q) s.heap H locs) (hl : lv_has ls 4 [(3, .int 0), (2, .ref y0), (1, .ref x0), (0, .ref b)]) : W p l e room_1 s m #[Value.ref b] below meth c H locs 81 7838 (lw_Z below #[Value.ref b] s) (F0 m 927 ls []) := by
  obtain ⟨hx, hb, hr, hml, hown, hts, hX, hbl, hlocks, hgv⟩ := id C0
  have hA : ∀ q : Nat, s.heap.size ≤ q → (fun q : Nat => s.heap.size ≤ q) q := fun _ h => h
  have hbA : ¬ (fun q : Nat => s.heap.size ≤ q) b := Nat.not_le.mpr hbl
  have hFix := (⟨hx, hb, hml, hown, hts⟩ : CallFix p m c _ _ s #[Value.ref b] lw_tbl RL)
  replace hP := hP.sub (ws' := [(x0, .inr (8, [.ref (ax 0), .ref (ax 1), .ref (ax 2), .ref (ax 3), .ref (ax 4), .ref (ax 5), .ref (ax 6), .ref (ax 7), .ref (ax 8), .ref (ax 9)])), (ax 2, .inr (0, [.int 0, .int 0, .int 0, .int 0, .int 0, .int 0, .int 0, .int 0, .int 0, .int 0, .ref (ax 16), .ref (ax 17), .ref (ax 18), .ref (ax 19), .ref (ax 20)])), (ax 4, .inr (6, [.int 0, .int 0, .int 0, .long 0, .ref (ax 21), .ref (ax 22), .ref (ax 23), .ref (ax 24)])), (y0, .inr (9, [.int 0, .ref (ay 0), .ref (ay 1), .ref (ay 2), .ref (ay 3), .int 0, .ref (ay 4), .int 0, .int 0, .int 0, .int 0, .int 0, .int 0, .int (-1), .ref (ay 5), .ref (ay 6), .int 0, .int 0, .int 0, .ref (ay 7), .ref (ay 8), .ref (ay 9), .ref (ay 10), .ref (ay 11), .ref (ay 12), .int 0, .int 0, .int 0, .int 0, .int 0, .int 0, .int 0, .int 0, .int 0, .ref (ay 13), .long 0, .long 0, .long 0, .ref (ay 14), .ref (ay 15), .ref (ay 16), .ref (ay 17)])), (ay 0, .inl (cs 1, 76, .inl (fun _ => 0))), (ay 6, .inl (cs 1, 3, .inl (fun _ => 0)))]) [0, 9, 16, 62, 63, 69] rfl
  replace hD := hD.sub (ws' := [(x0, .inr (8, [.ref (ax 0), .ref (ax 1), .ref (ax 2), .ref (ax 3), .ref (ax 4), .ref (ax 5), .ref (ax 6), .ref (ax 7), .ref (ax 8), .ref (ax 9)])), (ax 2, .inr (0, [.int 0, .int 0, .int 0, .int 0, .int 0, .int 0, .int 0, .int 0, .int 0, .int 0, .ref (ax 16), .ref (ax 17), .ref (ax 18), .ref (ax 19), .ref (ax 20)])), (ax 4, .inr (6, [.int 0, .int 0, .int 0, .long 0, .ref (ax 21), .ref (ax 22), .ref (ax 23), .ref (ax 24)])), (y0, .inr (9, [.int 0, .ref (ay 0), .ref (ay 1), .ref (ay 2), .ref (ay 3), .int 0, .ref (ay 4), .int 0, .int 0, .int 0, .int 0, .int 0, .int 0, .int (-1), .ref (ay 5), .ref (ay 6), .int 0, .int 0, .int 0, .ref (ay 7), .ref (ay 8), .ref (ay 9), .ref (ay 10), .ref (ay 11), .ref (ay 12), .int 0, .int 0, .int 0, .int 0, .int 0, .int 0, .int 0, .int 0, .int 0, .ref (ay 13), .long 0, .long 0, .long 0, .ref (ay 14), .ref (ay 15), .ref (ay 16), .ref (ay 17)])), (ay 0, .inl (cs 1, 76, .inl (fun _ => 0))), (ay 6, .inl (cs 1, 3, .inl (fun _ => 0)))]) [0, 9, 16, 62, 63, 69] (by decide) rfl
  refine lv_aload_n hx hb dL_law_927 rfl (lv_at hl 2 rfl) ?_
  refine lv_aload_n hx hb dL_law_928 rfl (lv_at hl 3 rfl) ?_
  refine lv_iload_n hx hb dL_law_929 rfl (lv_at hl 0 rfl) ?_
  refine lv_iconst (v := 1) hx hb dL_law_930 (by decide) ?_
  refine lv_iadd hx hb dL_law_931 ?_
  refine cf_i 1 (by decide) ?_
  refine va_sld hx hb hX hbl hbA hS (vp_c (by decide)) dL_law_932 ?_
  refine cf_v (.int (xs 1)) rfl ?_
  refine lv_aload_n hx hb dL_law_933 rfl (lv_at hl 3 rfl) ?_
  refine lv_iload_n hx hb dL_law_934 rfl (lv_at hl 0 rfl) ?_
  refine lv_iconst (v := 2) hx hb dL_law_935 (by decide) ?_
  refine lv_iadd hx hb dL_law_936 ?_
  refine cf_i 2 (by decide) ?_
  refine va_sld hx hb hX hbl hbA hS (vp_c (by decide)) dL_law_937 ?_
  refine cf_v (.int (xs 2)) rfl ?_
  refine aft_i (wr := [(y0, .inr (9, [.int 0, .ref (ay 0), .ref (ay 1), .ref (ay 2), .ref (ay 3), .int 0, .ref (ay 4), .int 0, .int 0, .int 0, .int 0, .int 0, .int 0, .int (-1), .ref (ay 5), .ref (ay 6), .int 0, .int 0, .int 0, .ref (ay 7), .ref (ay 8), .ref (ay 9), .ref (ay 10), .ref (ay 11), .ref (ay 12), .int 0, .int 0, .int 0, .int 0, .int 0, .int 0, .int 0, .int 0, .int 0, .ref (ay 13), .long 0, .long 0, .long 0, .ref (ay 14), .ref (ay 15), .ref (ay 16), .ref (ay 17)])), (ay 0, .inl (cs 1, 76, .inl (fun _ => 0))), (ay 6, .inl (cs 1, 3, .inl (fun _ => 0)))]) hP hD hS hA [0, 1, 2] [3, 4, 5] rfl rfl (by decide) (by decide) (run_v (As := [.int (xs 1), .int (xs 2)]) (rest := []) hFix hK hE hP hD [0, 1, 2] (k_X8_reach l D cs _ x0 (xs 1) (xs 2) (ax 0) (ax 1) (ax 2) (ax 3) (ax 4) (ax 5) (ax 6) (ax 7) (ax 8) (ax 9) (ax 16) (ax 17) (ax 18) (ax 19) (ax 20) (ax 21) (ax 22) (ax 23) (ax 24)) (cwV 2 hts gl_102_X8_reach rfl rfl rfl (by decide +kernel) ⟨Nat.le_of_ble_eq_true rfl, Nat.le_of_ble_eq_true rfl⟩) rfl (by decide) rfl rfl rfl hl.1 rfl (Nat.le_of_ble_eq_true rfl) dL_law_938 ⟨Nat.le_of_ble_eq_true rfl, Nat.le_of_ble_eq_true rfl⟩) (fun r_1 u_1 H locs hq_1 hP hD hS => ?_)
  have hP : va_P D vwCl [(y0, .inr (9, [.int 0, .ref (ay 0), .ref (ay 1), .ref (ay 2), .ref (ay 3), .int 0, .ref (ay 4), .int 0, .int 0, .int 0, .int 0, .int 0, .int 0, .int (-1), .ref (ay 5), .ref (ay 6), .int 0, .int 0, .int 0, .ref (ay 7), .ref (ay 8), .ref (ay 9), .ref (ay 10), .ref (ay 11), .ref (ay 12), .int 0, .int 0, .int 0, .int 0, .int 0, .int 0, .int 0, .int 0, .int 0, .ref (ay 13), .long 0, .long 0, .long 0, .ref (ay 14), .ref (ay 15), .ref (ay 16), .ref (ay 17)])), (ay 0, .inl (cs 1, 76, .inl (fun _ => 0))), (ay 6, .inl (cs 1, 3, .inl (fun _ => 0)))] H := hP
  have hD : va_D (fun q : Nat => s.heap.size ≤ q) [(y0, .inr (9, [.int 0, .ref (ay 0), .ref (ay 1), .ref (ay 2), .ref (ay 3), .int 0, .ref (ay 4), .int 0, .int 0, .int 0, .int 0, .int 0, .int 0, .int (-1), .ref (ay 5), .ref (ay 6), .int 0, .int 0, .int 0, .ref (ay 7), .ref (ay 8), .ref (ay 9), .ref (ay 10), .ref (ay 11), .ref (ay 12), .int 0, .int 0, .int 0, .int 0, .int 0, .int 0, .int 0, .int 0, .int 0, .ref (ay 13), .long 0, .long 0, .long 0, .ref (ay 14), .ref (ay 15), .ref (ay 16), .ref (ay 17)])), (ay 0, .inl (cs 1, 76, .inl (fun _ => 0))), (ay 6, .inl (cs 1, 3, .inl (fun _ => 0)))] := hD
  replace hq_1 : r_1 = (-2) := hq_1
  subst hq_1
  refine lv_aload_n hx hb dL_law_941 rfl (lv_at hl 1 rfl) ?_
  refine lv_aload_n hx hb dL_law_942 rfl (lv_at hl 3 rfl) ?_
  refine lv_iload_n hx hb dL_law_943 rfl (lv_at hl 0 rfl) ?_
  refine lv_iconst (v := 1) hx hb dL_law_944 (by decide) ?_
  refine lv_iadd hx hb dL_law_945 ?_
  refine cf_i 1 (by decide) ?_
  refine va_sld hx hb hX hbl hbA hS (vp_c (by decide)) dL_law_946 ?_
  refine cf_v (.int (xs 1)) rfl ?_
  refine lv_aload_n hx hb dL_law_947 rfl (lv_at hl 3 rfl) ?_
  refine lv_iload_n hx hb dL_law_948 rfl (lv_at hl 0 rfl) ?_
  refine lv_iconst (v := 2) hx hb dL_law_949 (by decide) ?_
  refine lv_iadd hx hb dL_law_950 ?_
  refine cf_i 2 (by decide) ?_
  refine va_sld hx hb hX hbl hbA hS (vp_c (by decide)) dL_law_951 ?_
  refine cf_v (.int (xs 2)) rfl ?_
  refine aft_i (wr := []) hP hD hS hA [0, 1, 2] [] rfl rfl (by decide) (by decide) (run_v (As := [.int (xs 1), .int (xs 2)]) (rest := [.int (-2)]) hFix hK hE hP hD [0, 1, 2] (k_X9_reach l D cs _ y0 (xs 1) (xs 2) (ay 0) (ay 1) (ay 2) (ay 3) (ay 4) (ay 5) (ay 6) (ay 7) (ay 8) (ay 9) (ay 10) (ay 11) (ay 12) (ay 13) (ay 14) (ay 15) (ay 16) (ay 17)) (cwV 2 hts gl_105_X9_reach rfl rfl rfl (by decide +kernel) ⟨Nat.le_of_ble_eq_true rfl, Nat.le_of_ble_eq_true rfl⟩) rfl (by decide) rfl rfl rfl hl.1 rfl (Nat.le_of_ble_eq_true rfl) dL_law_952 ⟨Nat.le_of_ble_eq_true rfl, Nat.le_of_ble_eq_true rfl⟩) (fun r_2 u_2 H locs hq_2 hP hD hS => ?_)
  replace hq_2 : r_2 = (-2) := hq_2
  subst hq_2
  refine lv_icmp_eq (tgt := 2473) hx hb dL_law_955 (by decide) (fun _ => ?_) (fun h9 => absurd h9 (by decide))
  exact law_end l C0 hS (lv_sub hl [0, 3] rfl) (Nat.le_of_ble_eq_true rfl) (Nat.le_of_ble_eq_true rfl)

set_option maxHeartbeats 4000000 in
set_option maxRecDepth 100000 in
theorem law_case_22 {p : Program} {e : Env} {s : State} {m : MethodId} {below : List Frame} {meth : Method} {c : Code} (l : Launch) {b : Nat} {xs : Nat → Int32} (C0 : lw_At p s m meth c b 6 xs) {D : va_G} {cs : Nat → ClassId} (hK : va_K D vwCl (mtyA cs) s) (hE : mEnv s) {x0 y0 : Nat} {ax ay : Nat → Nat} {H : Heap} {locs : List Loc} {ls : Array Slot} (hP : va_P D vwCl (lawW cs x0 ax y0 ay) H) (hD : va_D (fun q : Nat => s.heap.size ≤ q) (lawW cs x0 ax y0 ay)) (hS : va_S (fun q : Nat => s.heap.size ≤ q) s.heap H locs) (hl : lv_has ls 4 [(3, .int 0), (2, .ref y0), (1, .ref x0), (0, .ref b)]) : W p l e room_1 s m #[Value.ref b] below meth c H locs 81 7838 (lw_Z below #[Value.ref b] s) (F0 m 960 ls []) := by
  obtain ⟨hx, hb, hr, hml, hown, hts, hX, hbl, hlocks, hgv⟩ := id C0
  have hA : ∀ q : Nat, s.heap.size ≤ q → (fun q : Nat => s.heap.size ≤ q) q := fun _ h => h
  have hbA : ¬ (fun q : Nat => s.heap.size ≤ q) b := Nat.not_le.mpr hbl
  have hFix := (⟨hx, hb, hml, hown, hts⟩ : CallFix p m c _ _ s #[Value.ref b] lw_tbl RL)
  replace hP := hP.sub (ws' := [(x0, .inr (8, [.ref (ax 0), .ref (ax 1), .ref (ax 2), .ref (ax 3), .ref (ax 4), .ref (ax 5), .ref (ax 6), .ref (ax 7), .ref (ax 8), .ref (ax 9)])), (ax 2, .inr (0, [.int 0, .int 0, .int 0, .int 0, .int 0, .int 0, .int 0, .int 0, .int 0, .int 0, .ref (ax 16), .ref (ax 17), .ref (ax 18), .ref (ax 19), .ref (ax 20)])), (ax 4, .inr (6, [.int 0, .int 0, .int 0, .long 0, .ref (ax 21), .ref (ax 22), .ref (ax 23), .ref (ax 24)])), (y0, .inr (9, [.int 0, .ref (ay 0), .ref (ay 1), .ref (ay 2), .ref (ay 3), .int 0, .ref (ay 4), .int 0, .int 0, .int 0, .int 0, .int 0, .int 0, .int (-1), .ref (ay 5), .ref (ay 6), .int 0, .int 0, .int 0, .ref (ay 7), .ref (ay 8), .ref (ay 9), .ref (ay 10), .ref (ay 11), .ref (ay 12), .int 0, .int 0, .int 0, .int 0, .int 0, .int 0, .int 0, .int 0, .int 0, .ref (ay 13), .long 0, .long 0, .long 0, .ref (ay 14), .ref (ay 15), .ref (ay 16), .ref (ay 17)])), (ay 0, .inl (cs 1, 76, .inl (fun _ => 0))), (ay 6, .inl (cs 1, 3, .inl (fun _ => 0)))]) [0, 9, 16, 62, 63, 69] rfl
  replace hD := hD.sub (ws' := [(x0, .inr (8, [.ref (ax 0), .ref (ax 1), .ref (ax 2), .ref (ax 3), .ref (ax 4), .ref (ax 5), .ref (ax 6), .ref (ax 7), .ref (ax 8), .ref (ax 9)])), (ax 2, .inr (0, [.int 0, .int 0, .int 0, .int 0, .int 0, .int 0, .int 0, .int 0, .int 0, .int 0, .ref (ax 16), .ref (ax 17), .ref (ax 18), .ref (ax 19), .ref (ax 20)])), (ax 4, .inr (6, [.int 0, .int 0, .int 0, .long 0, .ref (ax 21), .ref (ax 22), .ref (ax 23), .ref (ax 24)])), (y0, .inr (9, [.int 0, .ref (ay 0), .ref (ay 1), .ref (ay 2), .ref (ay 3), .int 0, .ref (ay 4), .int 0, .int 0, .int 0, .int 0, .int 0, .int 0, .int (-1), .ref (ay 5), .ref (ay 6), .int 0, .int 0, .int 0, .ref (ay 7), .ref (ay 8), .ref (ay 9), .ref (ay 10), .ref (ay 11), .ref (ay 12), .int 0, .int 0, .int 0, .int 0, .int 0, .int 0, .int 0, .int 0, .int 0, .ref (ay 13), .long 0, .long 0, .long 0, .ref (ay 14), .ref (ay 15), .ref (ay 16), .ref (ay 17)])), (ay 0, .inl (cs 1, 76, .inl (fun _ => 0))), (ay 6, .inl (cs 1, 3, .inl (fun _ => 0)))]) [0, 9, 16, 62, 63, 69] (by decide) rfl
  refine lv_aload_n hx hb dL_law_960 rfl (lv_at hl 2 rfl) ?_
  refine lv_aload_n hx hb dL_law_961 rfl (lv_at hl 3 rfl) ?_
  refine lv_iload_n hx hb dL_law_962 rfl (lv_at hl 0 rfl) ?_
  refine lv_iconst (v := 1) hx hb dL_law_963 (by decide) ?_
  refine lv_iadd hx hb dL_law_964 ?_
  refine cf_i 1 (by decide) ?_
  refine va_sld hx hb hX hbl hbA hS (vp_c (by decide)) dL_law_965 ?_
  refine cf_v (.int (xs 1)) rfl ?_
  refine lv_aload_n hx hb dL_law_966 rfl (lv_at hl 3 rfl) ?_
  refine lv_iload_n hx hb dL_law_967 rfl (lv_at hl 0 rfl) ?_
  refine lv_iconst (v := 2) hx hb dL_law_968 (by decide) ?_
  refine lv_iadd hx hb dL_law_969 ?_
  refine cf_i 2 (by decide) ?_
  refine va_sld hx hb hX hbl hbA hS (vp_c (by decide)) dL_law_970 ?_
  refine cf_v (.int (xs 2)) rfl ?_
  refine aft_i (wr := [(y0, .inr (9, [.int 0, .ref (ay 0), .ref (ay 1), .ref (ay 2), .ref (ay 3), .int 0, .ref (ay 4), .int 0, .int 0, .int 0, .int 0, .int 0, .int 0, .int (-1), .ref (ay 5), .ref (ay 6), .int 0, .int 0, .int 0, .ref (ay 7), .ref (ay 8), .ref (ay 9), .ref (ay 10), .ref (ay 11), .ref (ay 12), .int 0, .int 0, .int 0, .int 0, .int 0, .int 0, .int 0, .int 0, .int 0, .ref (ay 13), .long 0, .long 0, .long 0, .ref (ay 14), .ref (ay 15), .ref (ay 16), .ref (ay 17)])), (ay 0, .inl (cs 1, 76, .inl (fun _ => 0))), (ay 6, .inl (cs 1, 3, .inl (fun _ => 0)))]) hP hD hS hA [0, 1, 2] [3, 4, 5] rfl rfl (by decide) (by decide) (run_v (As := [.int (xs 1), .int (xs 2)]) (rest := []) hFix hK hE hP hD [0, 1, 2] (k_X8_far l D cs _ x0 (xs 1) (xs 2) (ax 0) (ax 1) (ax 2) (ax 3) (ax 4) (ax 5) (ax 6) (ax 7) (ax 8) (ax 9) (ax 16) (ax 17) (ax 18) (ax 19) (ax 20) (ax 21) (ax 22) (ax 23) (ax 24)) (cwV 2 hts gl_106_X8_far rfl rfl rfl (by decide +kernel) ⟨Nat.le_of_ble_eq_true rfl, Nat.le_of_ble_eq_true rfl⟩) rfl (by decide) rfl rfl rfl hl.1 rfl (Nat.le_of_ble_eq_true rfl) dL_law_971 ⟨Nat.le_of_ble_eq_true rfl, Nat.le_of_ble_eq_true rfl⟩) (fun r_1 u_1 H locs hq_1 hP hD hS => ?_)
  have hP : va_P D vwCl [(y0, .inr (9, [.int 0, .ref (ay 0), .ref (ay 1), .ref (ay 2), .ref (ay 3), .int 0, .ref (ay 4), .int 0, .int 0, .int 0, .int 0, .int 0, .int 0, .int (-1), .ref (ay 5), .ref (ay 6), .int 0, .int 0, .int 0, .ref (ay 7), .ref (ay 8), .ref (ay 9), .ref (ay 10), .ref (ay 11), .ref (ay 12), .int 0, .int 0, .int 0, .int 0, .int 0, .int 0, .int 0, .int 0, .int 0, .ref (ay 13), .long 0, .long 0, .long 0, .ref (ay 14), .ref (ay 15), .ref (ay 16), .ref (ay 17)])), (ay 0, .inl (cs 1, 76, .inl (fun _ => 0))), (ay 6, .inl (cs 1, 3, .inl (fun _ => 0)))] H := hP
  have hD : va_D (fun q : Nat => s.heap.size ≤ q) [(y0, .inr (9, [.int 0, .ref (ay 0), .ref (ay 1), .ref (ay 2), .ref (ay 3), .int 0, .ref (ay 4), .int 0, .int 0, .int 0, .int 0, .int 0, .int 0, .int (-1), .ref (ay 5), .ref (ay 6), .int 0, .int 0, .int 0, .ref (ay 7), .ref (ay 8), .ref (ay 9), .ref (ay 10), .ref (ay 11), .ref (ay 12), .int 0, .int 0, .int 0, .int 0, .int 0, .int 0, .int 0, .int 0, .int 0, .ref (ay 13), .long 0, .long 0, .long 0, .ref (ay 14), .ref (ay 15), .ref (ay 16), .ref (ay 17)])), (ay 0, .inl (cs 1, 76, .inl (fun _ => 0))), (ay 6, .inl (cs 1, 3, .inl (fun _ => 0)))] := hD
  replace hq_1 : r_1 = (-2) := hq_1
  subst hq_1
  refine lv_aload_n hx hb dL_law_974 rfl (lv_at hl 1 rfl) ?_
  refine lv_aload_n hx hb dL_law_975 rfl (lv_at hl 3 rfl) ?_
  refine lv_iload_n hx hb dL_law_976 rfl (lv_at hl 0 rfl) ?_
  refine lv_iconst (v := 1) hx hb dL_law_977 (by decide) ?_
  refine lv_iadd hx hb dL_law_978 ?_
  refine cf_i 1 (by decide) ?_
  refine va_sld hx hb hX hbl hbA hS (vp_c (by decide)) dL_law_979 ?_
  refine cf_v (.int (xs 1)) rfl ?_
  refine lv_aload_n hx hb dL_law_980 rfl (lv_at hl 3 rfl) ?_
  refine lv_iload_n hx hb dL_law_981 rfl (lv_at hl 0 rfl) ?_
  refine lv_iconst (v := 2) hx hb dL_law_982 (by decide) ?_
  refine lv_iadd hx hb dL_law_983 ?_
  refine cf_i 2 (by decide) ?_
  refine va_sld hx hb hX hbl hbA hS (vp_c (by decide)) dL_law_984 ?_
  refine cf_v (.int (xs 2)) rfl ?_
  refine aft_i (wr := []) hP hD hS hA [0, 1, 2] [] rfl rfl (by decide) (by decide) (run_v (As := [.int (xs 1), .int (xs 2)]) (rest := [.int (-2)]) hFix hK hE hP hD [0, 1, 2] (k_X9_far l D cs _ y0 (xs 1) (xs 2) (ay 0) (ay 1) (ay 2) (ay 3) (ay 4) (ay 5) (ay 6) (ay 7) (ay 8) (ay 9) (ay 10) (ay 11) (ay 12) (ay 13) (ay 14) (ay 15) (ay 16) (ay 17)) (cwV 2 hts gl_109_X9_far rfl rfl rfl (by decide +kernel) ⟨Nat.le_of_ble_eq_true rfl, Nat.le_of_ble_eq_true rfl⟩) rfl (by decide) rfl rfl rfl hl.1 rfl (Nat.le_of_ble_eq_true rfl) dL_law_985 ⟨Nat.le_of_ble_eq_true rfl, Nat.le_of_ble_eq_true rfl⟩) (fun r_2 u_2 H locs hq_2 hP hD hS => ?_)
  replace hq_2 : r_2 = (-2) := hq_2
  subst hq_2
  refine lv_icmp_eq (tgt := 2473) hx hb dL_law_988 (by decide) (fun _ => ?_) (fun h9 => absurd h9 (by decide))
  exact law_end l C0 hS (lv_sub hl [0, 3] rfl) (Nat.le_of_ble_eq_true rfl) (Nat.le_of_ble_eq_true rfl)

set_option maxHeartbeats 4000000 in
set_option maxRecDepth 100000 in
theorem law_case_23 {p : Program} {e : Env} {s : State} {m : MethodId} {below : List Frame} {meth : Method} {c : Code} (l : Launch) {b : Nat} {xs : Nat → Int32} (C0 : lw_At p s m meth c b 6 xs) {D : va_G} {cs : Nat → ClassId} (hK : va_K D vwCl (mtyA cs) s) (hE : mEnv s) {x0 y0 : Nat} {ax ay : Nat → Nat} {H : Heap} {locs : List Loc} {ls : Array Slot} (hP : va_P D vwCl (lawW cs x0 ax y0 ay) H) (hD : va_D (fun q : Nat => s.heap.size ≤ q) (lawW cs x0 ax y0 ay)) (hS : va_S (fun q : Nat => s.heap.size ≤ q) s.heap H locs) (hl : lv_has ls 4 [(3, .int 0), (2, .ref y0), (1, .ref x0), (0, .ref b)]) : W p l e room_1 s m #[Value.ref b] below meth c H locs 81 7838 (lw_Z below #[Value.ref b] s) (F0 m 993 ls []) := by
  obtain ⟨hx, hb, hr, hml, hown, hts, hX, hbl, hlocks, hgv⟩ := id C0
  have hA : ∀ q : Nat, s.heap.size ≤ q → (fun q : Nat => s.heap.size ≤ q) q := fun _ h => h
  have hbA : ¬ (fun q : Nat => s.heap.size ≤ q) b := Nat.not_le.mpr hbl
  have hFix := (⟨hx, hb, hml, hown, hts⟩ : CallFix p m c _ _ s #[Value.ref b] lw_tbl RL)
  replace hP := hP.sub (ws' := [(x0, .inr (8, [.ref (ax 0), .ref (ax 1), .ref (ax 2), .ref (ax 3), .ref (ax 4), .ref (ax 5), .ref (ax 6), .ref (ax 7), .ref (ax 8), .ref (ax 9)])), (ax 2, .inr (0, [.int 0, .int 0, .int 0, .int 0, .int 0, .int 0, .int 0, .int 0, .int 0, .int 0, .ref (ax 16), .ref (ax 17), .ref (ax 18), .ref (ax 19), .ref (ax 20)])), (ax 4, .inr (6, [.int 0, .int 0, .int 0, .long 0, .ref (ax 21), .ref (ax 22), .ref (ax 23), .ref (ax 24)])), (y0, .inr (9, [.int 0, .ref (ay 0), .ref (ay 1), .ref (ay 2), .ref (ay 3), .int 0, .ref (ay 4), .int 0, .int 0, .int 0, .int 0, .int 0, .int 0, .int (-1), .ref (ay 5), .ref (ay 6), .int 0, .int 0, .int 0, .ref (ay 7), .ref (ay 8), .ref (ay 9), .ref (ay 10), .ref (ay 11), .ref (ay 12), .int 0, .int 0, .int 0, .int 0, .int 0, .int 0, .int 0, .int 0, .int 0, .ref (ay 13), .long 0, .long 0, .long 0, .ref (ay 14), .ref (ay 15), .ref (ay 16), .ref (ay 17)])), (ay 0, .inl (cs 1, 76, .inl (fun _ => 0))), (ay 6, .inl (cs 1, 3, .inl (fun _ => 0)))]) [0, 9, 16, 62, 63, 69] rfl
  replace hD := hD.sub (ws' := [(x0, .inr (8, [.ref (ax 0), .ref (ax 1), .ref (ax 2), .ref (ax 3), .ref (ax 4), .ref (ax 5), .ref (ax 6), .ref (ax 7), .ref (ax 8), .ref (ax 9)])), (ax 2, .inr (0, [.int 0, .int 0, .int 0, .int 0, .int 0, .int 0, .int 0, .int 0, .int 0, .int 0, .ref (ax 16), .ref (ax 17), .ref (ax 18), .ref (ax 19), .ref (ax 20)])), (ax 4, .inr (6, [.int 0, .int 0, .int 0, .long 0, .ref (ax 21), .ref (ax 22), .ref (ax 23), .ref (ax 24)])), (y0, .inr (9, [.int 0, .ref (ay 0), .ref (ay 1), .ref (ay 2), .ref (ay 3), .int 0, .ref (ay 4), .int 0, .int 0, .int 0, .int 0, .int 0, .int 0, .int (-1), .ref (ay 5), .ref (ay 6), .int 0, .int 0, .int 0, .ref (ay 7), .ref (ay 8), .ref (ay 9), .ref (ay 10), .ref (ay 11), .ref (ay 12), .int 0, .int 0, .int 0, .int 0, .int 0, .int 0, .int 0, .int 0, .int 0, .ref (ay 13), .long 0, .long 0, .long 0, .ref (ay 14), .ref (ay 15), .ref (ay 16), .ref (ay 17)])), (ay 0, .inl (cs 1, 76, .inl (fun _ => 0))), (ay 6, .inl (cs 1, 3, .inl (fun _ => 0)))]) [0, 9, 16, 62, 63, 69] (by decide) rfl
  refine lv_aload_n hx hb dL_law_993 rfl (lv_at hl 2 rfl) ?_
  refine lv_aload_n hx hb dL_law_994 rfl (lv_at hl 3 rfl) ?_
  refine lv_iload_n hx hb dL_law_995 rfl (lv_at hl 0 rfl) ?_
  refine lv_iconst (v := 1) hx hb dL_law_996 (by decide) ?_
  refine lv_iadd hx hb dL_law_997 ?_
  refine cf_i 1 (by decide) ?_
  refine va_sld hx hb hX hbl hbA hS (vp_c (by decide)) dL_law_998 ?_
  refine cf_v (.int (xs 1)) rfl ?_
  refine lv_aload_n hx hb dL_law_999 rfl (lv_at hl 3 rfl) ?_
  refine lv_iload_n hx hb dL_law_1000 rfl (lv_at hl 0 rfl) ?_
  refine lv_iconst (v := 2) hx hb dL_law_1001 (by decide) ?_
  refine lv_iadd hx hb dL_law_1002 ?_
  refine cf_i 2 (by decide) ?_
  refine va_sld hx hb hX hbl hbA hS (vp_c (by decide)) dL_law_1003 ?_
  refine cf_v (.int (xs 2)) rfl ?_
  refine aft_i (wr := [(y0, .inr (9, [.int 0, .ref (ay 0), .ref (ay 1), .ref (ay 2), .ref (ay 3), .int 0, .ref (ay 4), .int 0, .int 0, .int 0, .int 0, .int 0, .int 0, .int (-1), .ref (ay 5), .ref (ay 6), .int 0, .int 0, .int 0, .ref (ay 7), .ref (ay 8), .ref (ay 9), .ref (ay 10), .ref (ay 11), .ref (ay 12), .int 0, .int 0, .int 0, .int 0, .int 0, .int 0, .int 0, .int 0, .int 0, .ref (ay 13), .long 0, .long 0, .long 0, .ref (ay 14), .ref (ay 15), .ref (ay 16), .ref (ay 17)])), (ay 0, .inl (cs 1, 76, .inl (fun _ => 0))), (ay 6, .inl (cs 1, 3, .inl (fun _ => 0)))]) hP hD hS hA [0, 1, 2] [3, 4, 5] rfl rfl (by decide) (by decide) (run_v (As := [.int (xs 1), .int (xs 2)]) (rest := []) hFix hK hE hP hD [0, 1, 2] (k_X8_step l D cs _ x0 (xs 1) (xs 2) (ax 0) (ax 1) (ax 2) (ax 3) (ax 4) (ax 5) (ax 6) (ax 7) (ax 8) (ax 9) (ax 16) (ax 17) (ax 18) (ax 19) (ax 20) (ax 21) (ax 22) (ax 23) (ax 24)) (cwV 2 hts gl_110_X8_step rfl rfl rfl (by decide +kernel) ⟨Nat.le_of_ble_eq_true rfl, Nat.le_of_ble_eq_true rfl⟩) rfl (by decide) rfl rfl rfl hl.1 rfl (Nat.le_of_ble_eq_true rfl) dL_law_1004 ⟨Nat.le_of_ble_eq_true rfl, Nat.le_of_ble_eq_true rfl⟩) (fun r_1 u_1 H locs hq_1 hP hD hS => ?_)
  have hP : va_P D vwCl [(y0, .inr (9, [.int 0, .ref (ay 0), .ref (ay 1), .ref (ay 2), .ref (ay 3), .int 0, .ref (ay 4), .int 0, .int 0, .int 0, .int 0, .int 0, .int 0, .int (-1), .ref (ay 5), .ref (ay 6), .int 0, .int 0, .int 0, .ref (ay 7), .ref (ay 8), .ref (ay 9), .ref (ay 10), .ref (ay 11), .ref (ay 12), .int 0, .int 0, .int 0, .int 0, .int 0, .int 0, .int 0, .int 0, .int 0, .ref (ay 13), .long 0, .long 0, .long 0, .ref (ay 14), .ref (ay 15), .ref (ay 16), .ref (ay 17)])), (ay 0, .inl (cs 1, 76, .inl (fun _ => 0))), (ay 6, .inl (cs 1, 3, .inl (fun _ => 0)))] H := hP
  have hD : va_D (fun q : Nat => s.heap.size ≤ q) [(y0, .inr (9, [.int 0, .ref (ay 0), .ref (ay 1), .ref (ay 2), .ref (ay 3), .int 0, .ref (ay 4), .int 0, .int 0, .int 0, .int 0, .int 0, .int 0, .int (-1), .ref (ay 5), .ref (ay 6), .int 0, .int 0, .int 0, .ref (ay 7), .ref (ay 8), .ref (ay 9), .ref (ay 10), .ref (ay 11), .ref (ay 12), .int 0, .int 0, .int 0, .int 0, .int 0, .int 0, .int 0, .int 0, .int 0, .ref (ay 13), .long 0, .long 0, .long 0, .ref (ay 14), .ref (ay 15), .ref (ay 16), .ref (ay 17)])), (ay 0, .inl (cs 1, 76, .inl (fun _ => 0))), (ay 6, .inl (cs 1, 3, .inl (fun _ => 0)))] := hD
  replace hq_1 : r_1 = (-2) := hq_1
  subst hq_1
  refine lv_aload_n hx hb dL_law_1007 rfl (lv_at hl 1 rfl) ?_
  refine lv_aload_n hx hb dL_law_1008 rfl (lv_at hl 3 rfl) ?_
  refine lv_iload_n hx hb dL_law_1009 rfl (lv_at hl 0 rfl) ?_
  refine lv_iconst (v := 1) hx hb dL_law_1010 (by decide) ?_
  refine lv_iadd hx hb dL_law_1011 ?_
  refine cf_i 1 (by decide) ?_
  refine va_sld hx hb hX hbl hbA hS (vp_c (by decide)) dL_law_1012 ?_
  refine cf_v (.int (xs 1)) rfl ?_
  refine lv_aload_n hx hb dL_law_1013 rfl (lv_at hl 3 rfl) ?_
  refine lv_iload_n hx hb dL_law_1014 rfl (lv_at hl 0 rfl) ?_
  refine lv_iconst (v := 2) hx hb dL_law_1015 (by decide) ?_
  refine lv_iadd hx hb dL_law_1016 ?_
  refine cf_i 2 (by decide) ?_
  refine va_sld hx hb hX hbl hbA hS (vp_c (by decide)) dL_law_1017 ?_
  refine cf_v (.int (xs 2)) rfl ?_
  refine aft_i (wr := []) hP hD hS hA [0, 1, 2] [] rfl rfl (by decide) (by decide) (run_v (As := [.int (xs 1), .int (xs 2)]) (rest := [.int (-2)]) hFix hK hE hP hD [0, 1, 2] (k_X9_step l D cs _ y0 (xs 1) (xs 2) (ay 0) (ay 1) (ay 2) (ay 3) (ay 4) (ay 5) (ay 6) (ay 7) (ay 8) (ay 9) (ay 10) (ay 11) (ay 12) (ay 13) (ay 14) (ay 15) (ay 16) (ay 17)) (cwV 2 hts gl_113_X9_step rfl rfl rfl (by decide +kernel) ⟨Nat.le_of_ble_eq_true rfl, Nat.le_of_ble_eq_true rfl⟩) rfl (by decide) rfl rfl rfl hl.1 rfl (Nat.le_of_ble_eq_true rfl) dL_law_1018 ⟨Nat.le_of_ble_eq_true rfl, Nat.le_of_ble_eq_true rfl⟩) (fun r_2 u_2 H locs hq_2 hP hD hS => ?_)
  replace hq_2 : r_2 = (-2) := hq_2
  subst hq_2
  refine lv_icmp_eq (tgt := 2473) hx hb dL_law_1021 (by decide) (fun _ => ?_) (fun h9 => absurd h9 (by decide))
  exact law_end l C0 hS (lv_sub hl [0, 3] rfl) (Nat.le_of_ble_eq_true rfl) (Nat.le_of_ble_eq_true rfl)

set_option maxHeartbeats 4000000 in
set_option maxRecDepth 100000 in
theorem law_case_24 {p : Program} {e : Env} {s : State} {m : MethodId} {below : List Frame} {meth : Method} {c : Code} (l : Launch) {b : Nat} {xs : Nat → Int32} (C0 : lw_At p s m meth c b 6 xs) {D : va_G} {cs : Nat → ClassId} (hK : va_K D vwCl (mtyA cs) s) (hE : mEnv s) {x0 y0 : Nat} {ax ay : Nat → Nat} {H : Heap} {locs : List Loc} {ls : Array Slot} (hP : va_P D vwCl (lawW cs x0 ax y0 ay) H) (hD : va_D (fun q : Nat => s.heap.size ≤ q) (lawW cs x0 ax y0 ay)) (hS : va_S (fun q : Nat => s.heap.size ≤ q) s.heap H locs) (hl : lv_has ls 4 [(3, .int 0), (2, .ref y0), (1, .ref x0), (0, .ref b)]) : W p l e room_1 s m #[Value.ref b] below meth c H locs 81 7838 (lw_Z below #[Value.ref b] s) (F0 m 1026 ls []) := by
  obtain ⟨hx, hb, hr, hml, hown, hts, hX, hbl, hlocks, hgv⟩ := id C0
  have hA : ∀ q : Nat, s.heap.size ≤ q → (fun q : Nat => s.heap.size ≤ q) q := fun _ h => h
  have hbA : ¬ (fun q : Nat => s.heap.size ≤ q) b := Nat.not_le.mpr hbl
  have hFix := (⟨hx, hb, hml, hown, hts⟩ : CallFix p m c _ _ s #[Value.ref b] lw_tbl RL)
  replace hP := hP.sub (ws' := [(x0, .inr (8, [.ref (ax 0), .ref (ax 1), .ref (ax 2), .ref (ax 3), .ref (ax 4), .ref (ax 5), .ref (ax 6), .ref (ax 7), .ref (ax 8), .ref (ax 9)])), (ax 2, .inr (0, [.int 0, .int 0, .int 0, .int 0, .int 0, .int 0, .int 0, .int 0, .int 0, .int 0, .ref (ax 16), .ref (ax 17), .ref (ax 18), .ref (ax 19), .ref (ax 20)])), (ax 4, .inr (6, [.int 0, .int 0, .int 0, .long 0, .ref (ax 21), .ref (ax 22), .ref (ax 23), .ref (ax 24)])), (y0, .inr (9, [.int 0, .ref (ay 0), .ref (ay 1), .ref (ay 2), .ref (ay 3), .int 0, .ref (ay 4), .int 0, .int 0, .int 0, .int 0, .int 0, .int 0, .int (-1), .ref (ay 5), .ref (ay 6), .int 0, .int 0, .int 0, .ref (ay 7), .ref (ay 8), .ref (ay 9), .ref (ay 10), .ref (ay 11), .ref (ay 12), .int 0, .int 0, .int 0, .int 0, .int 0, .int 0, .int 0, .int 0, .int 0, .ref (ay 13), .long 0, .long 0, .long 0, .ref (ay 14), .ref (ay 15), .ref (ay 16), .ref (ay 17)])), (ay 0, .inl (cs 1, 76, .inl (fun _ => 0))), (ay 6, .inl (cs 1, 3, .inl (fun _ => 0)))]) [0, 9, 16, 62, 63, 69] rfl
  replace hD := hD.sub (ws' := [(x0, .inr (8, [.ref (ax 0), .ref (ax 1), .ref (ax 2), .ref (ax 3), .ref (ax 4), .ref (ax 5), .ref (ax 6), .ref (ax 7), .ref (ax 8), .ref (ax 9)])), (ax 2, .inr (0, [.int 0, .int 0, .int 0, .int 0, .int 0, .int 0, .int 0, .int 0, .int 0, .int 0, .ref (ax 16), .ref (ax 17), .ref (ax 18), .ref (ax 19), .ref (ax 20)])), (ax 4, .inr (6, [.int 0, .int 0, .int 0, .long 0, .ref (ax 21), .ref (ax 22), .ref (ax 23), .ref (ax 24)])), (y0, .inr (9, [.int 0, .ref (ay 0), .ref (ay 1), .ref (ay 2), .ref (ay 3), .int 0, .ref (ay 4), .int 0, .int 0, .int 0, .int 0, .int 0, .int 0, .int (-1), .ref (ay 5), .ref (ay 6), .int 0, .int 0, .int 0, .ref (ay 7), .ref (ay 8), .ref (ay 9), .ref (ay 10), .ref (ay 11), .ref (ay 12), .int 0, .int 0, .int 0, .int 0, .int 0, .int 0, .int 0, .int 0, .int 0, .ref (ay 13), .long 0, .long 0, .long 0, .ref (ay 14), .ref (ay 15), .ref (ay 16), .ref (ay 17)])), (ay 0, .inl (cs 1, 76, .inl (fun _ => 0))), (ay 6, .inl (cs 1, 3, .inl (fun _ => 0)))]) [0, 9, 16, 62, 63, 69] (by decide) rfl
  refine lv_aload_n hx hb dL_law_1026 rfl (lv_at hl 2 rfl) ?_
  refine lv_aload_n hx hb dL_law_1027 rfl (lv_at hl 3 rfl) ?_
  refine lv_iload_n hx hb dL_law_1028 rfl (lv_at hl 0 rfl) ?_
  refine lv_iconst (v := 1) hx hb dL_law_1029 (by decide) ?_
  refine lv_iadd hx hb dL_law_1030 ?_
  refine cf_i 1 (by decide) ?_
  refine va_sld hx hb hX hbl hbA hS (vp_c (by decide)) dL_law_1031 ?_
  refine cf_v (.int (xs 1)) rfl ?_
  refine lv_aload_n hx hb dL_law_1032 rfl (lv_at hl 3 rfl) ?_
  refine lv_iload_n hx hb dL_law_1033 rfl (lv_at hl 0 rfl) ?_
  refine lv_iconst (v := 2) hx hb dL_law_1034 (by decide) ?_
  refine lv_iadd hx hb dL_law_1035 ?_
  refine cf_i 2 (by decide) ?_
  refine va_sld hx hb hX hbl hbA hS (vp_c (by decide)) dL_law_1036 ?_
  refine cf_v (.int (xs 2)) rfl ?_
  refine aft_i (wr := [(y0, .inr (9, [.int 0, .ref (ay 0), .ref (ay 1), .ref (ay 2), .ref (ay 3), .int 0, .ref (ay 4), .int 0, .int 0, .int 0, .int 0, .int 0, .int 0, .int (-1), .ref (ay 5), .ref (ay 6), .int 0, .int 0, .int 0, .ref (ay 7), .ref (ay 8), .ref (ay 9), .ref (ay 10), .ref (ay 11), .ref (ay 12), .int 0, .int 0, .int 0, .int 0, .int 0, .int 0, .int 0, .int 0, .int 0, .ref (ay 13), .long 0, .long 0, .long 0, .ref (ay 14), .ref (ay 15), .ref (ay 16), .ref (ay 17)])), (ay 0, .inl (cs 1, 76, .inl (fun _ => 0))), (ay 6, .inl (cs 1, 3, .inl (fun _ => 0)))]) hP hD hS hA [0, 1, 2] [3, 4, 5] rfl rfl (by decide) (by decide) (run_v (As := [.int (xs 1), .int (xs 2)]) (rest := []) hFix hK hE hP hD [0, 1, 2] (k_X8_freely l D cs _ x0 (xs 1) (xs 2) (ax 0) (ax 1) (ax 2) (ax 3) (ax 4) (ax 5) (ax 6) (ax 7) (ax 8) (ax 9) (ax 16) (ax 17) (ax 18) (ax 19) (ax 20) (ax 21) (ax 22) (ax 23) (ax 24)) (cwV 2 hts gl_114_X8_freely rfl rfl rfl (by decide +kernel) ⟨Nat.le_of_ble_eq_true rfl, Nat.le_of_ble_eq_true rfl⟩) rfl (by decide) rfl rfl rfl hl.1 rfl (Nat.le_of_ble_eq_true rfl) dL_law_1037 ⟨Nat.le_of_ble_eq_true rfl, Nat.le_of_ble_eq_true rfl⟩) (fun r_1 u_1 H locs hq_1 hP hD hS => ?_)
  have hP : va_P D vwCl [(y0, .inr (9, [.int 0, .ref (ay 0), .ref (ay 1), .ref (ay 2), .ref (ay 3), .int 0, .ref (ay 4), .int 0, .int 0, .int 0, .int 0, .int 0, .int 0, .int (-1), .ref (ay 5), .ref (ay 6), .int 0, .int 0, .int 0, .ref (ay 7), .ref (ay 8), .ref (ay 9), .ref (ay 10), .ref (ay 11), .ref (ay 12), .int 0, .int 0, .int 0, .int 0, .int 0, .int 0, .int 0, .int 0, .int 0, .ref (ay 13), .long 0, .long 0, .long 0, .ref (ay 14), .ref (ay 15), .ref (ay 16), .ref (ay 17)])), (ay 0, .inl (cs 1, 76, .inl (fun _ => 0))), (ay 6, .inl (cs 1, 3, .inl (fun _ => 0)))] H := hP
  have hD : va_D (fun q : Nat => s.heap.size ≤ q) [(y0, .inr (9, [.int 0, .ref (ay 0), .ref (ay 1), .ref (ay 2), .ref (ay 3), .int 0, .ref (ay 4), .int 0, .int 0, .int 0, .int 0, .int 0, .int 0, .int (-1), .ref (ay 5), .ref (ay 6), .int 0, .int 0, .int 0, .ref (ay 7), .ref (ay 8), .ref (ay 9), .ref (ay 10), .ref (ay 11), .ref (ay 12), .int 0, .int 0, .int 0, .int 0, .int 0, .int 0, .int 0, .int 0, .int 0, .ref (ay 13), .long 0, .long 0, .long 0, .ref (ay 14), .ref (ay 15), .ref (ay 16), .ref (ay 17)])), (ay 0, .inl (cs 1, 76, .inl (fun _ => 0))), (ay 6, .inl (cs 1, 3, .inl (fun _ => 0)))] := hD
  replace hq_1 : r_1 = (-2) := hq_1
  subst hq_1
  refine lv_aload_n hx hb dL_law_1040 rfl (lv_at hl 1 rfl) ?_
  refine lv_aload_n hx hb dL_law_1041 rfl (lv_at hl 3 rfl) ?_
  refine lv_iload_n hx hb dL_law_1042 rfl (lv_at hl 0 rfl) ?_
  refine lv_iconst (v := 1) hx hb dL_law_1043 (by decide) ?_
  refine lv_iadd hx hb dL_law_1044 ?_
  refine cf_i 1 (by decide) ?_
  refine va_sld hx hb hX hbl hbA hS (vp_c (by decide)) dL_law_1045 ?_
  refine cf_v (.int (xs 1)) rfl ?_
  refine lv_aload_n hx hb dL_law_1046 rfl (lv_at hl 3 rfl) ?_
  refine lv_iload_n hx hb dL_law_1047 rfl (lv_at hl 0 rfl) ?_
  refine lv_iconst (v := 2) hx hb dL_law_1048 (by decide) ?_
  refine lv_iadd hx hb dL_law_1049 ?_
  refine cf_i 2 (by decide) ?_
  refine va_sld hx hb hX hbl hbA hS (vp_c (by decide)) dL_law_1050 ?_
  refine cf_v (.int (xs 2)) rfl ?_
  refine aft_i (wr := []) hP hD hS hA [0, 1, 2] [] rfl rfl (by decide) (by decide) (run_v (As := [.int (xs 1), .int (xs 2)]) (rest := [.int (-2)]) hFix hK hE hP hD [0, 1, 2] (k_X9_freely l D cs _ y0 (xs 1) (xs 2) (ay 0) (ay 1) (ay 2) (ay 3) (ay 4) (ay 5) (ay 6) (ay 7) (ay 8) (ay 9) (ay 10) (ay 11) (ay 12) (ay 13) (ay 14) (ay 15) (ay 16) (ay 17)) (cwV 2 hts gl_117_X9_freely rfl rfl rfl (by decide +kernel) ⟨Nat.le_of_ble_eq_true rfl, Nat.le_of_ble_eq_true rfl⟩) rfl (by decide) rfl rfl rfl hl.1 rfl (Nat.le_of_ble_eq_true rfl) dL_law_1051 ⟨Nat.le_of_ble_eq_true rfl, Nat.le_of_ble_eq_true rfl⟩) (fun r_2 u_2 H locs hq_2 hP hD hS => ?_)
  replace hq_2 : r_2 = (-2) := hq_2
  subst hq_2
  refine lv_icmp_eq (tgt := 2473) hx hb dL_law_1054 (by decide) (fun _ => ?_) (fun h9 => absurd h9 (by decide))
  exact law_end l C0 hS (lv_sub hl [0, 3] rfl) (Nat.le_of_ble_eq_true rfl) (Nat.le_of_ble_eq_true rfl)

set_option maxHeartbeats 4000000 in
set_option maxRecDepth 100000 in
theorem law_case_25 {p : Program} {e : Env} {s : State} {m : MethodId} {below : List Frame} {meth : Method} {c : Code} (l : Launch) {b : Nat} {xs : Nat → Int32} (C0 : lw_At p s m meth c b 6 xs) {D : va_G} {cs : Nat → ClassId} (hK : va_K D vwCl (mtyA cs) s) (hE : mEnv s) {x0 y0 : Nat} {ax ay : Nat → Nat} {H : Heap} {locs : List Loc} {ls : Array Slot} (hP : va_P D vwCl (lawW cs x0 ax y0 ay) H) (hD : va_D (fun q : Nat => s.heap.size ≤ q) (lawW cs x0 ax y0 ay)) (hS : va_S (fun q : Nat => s.heap.size ≤ q) s.heap H locs) (hl : lv_has ls 4 [(3, .int 0), (2, .ref y0), (1, .ref x0), (0, .ref b)]) : W p l e room_1 s m #[Value.ref b] below meth c H locs 81 7838 (lw_Z below #[Value.ref b] s) (F0 m 1059 ls []) := by
  obtain ⟨hx, hb, hr, hml, hown, hts, hX, hbl, hlocks, hgv⟩ := id C0
  have hA : ∀ q : Nat, s.heap.size ≤ q → (fun q : Nat => s.heap.size ≤ q) q := fun _ h => h
  have hbA : ¬ (fun q : Nat => s.heap.size ≤ q) b := Nat.not_le.mpr hbl
  have hFix := (⟨hx, hb, hml, hown, hts⟩ : CallFix p m c _ _ s #[Value.ref b] lw_tbl RL)
  replace hP := hP.sub (ws' := [(x0, .inr (8, [.ref (ax 0), .ref (ax 1), .ref (ax 2), .ref (ax 3), .ref (ax 4), .ref (ax 5), .ref (ax 6), .ref (ax 7), .ref (ax 8), .ref (ax 9)])), (ax 2, .inr (0, [.int 0, .int 0, .int 0, .int 0, .int 0, .int 0, .int 0, .int 0, .int 0, .int 0, .ref (ax 16), .ref (ax 17), .ref (ax 18), .ref (ax 19), .ref (ax 20)])), (ax 4, .inr (6, [.int 0, .int 0, .int 0, .long 0, .ref (ax 21), .ref (ax 22), .ref (ax 23), .ref (ax 24)])), (y0, .inr (9, [.int 0, .ref (ay 0), .ref (ay 1), .ref (ay 2), .ref (ay 3), .int 0, .ref (ay 4), .int 0, .int 0, .int 0, .int 0, .int 0, .int 0, .int (-1), .ref (ay 5), .ref (ay 6), .int 0, .int 0, .int 0, .ref (ay 7), .ref (ay 8), .ref (ay 9), .ref (ay 10), .ref (ay 11), .ref (ay 12), .int 0, .int 0, .int 0, .int 0, .int 0, .int 0, .int 0, .int 0, .int 0, .ref (ay 13), .long 0, .long 0, .long 0, .ref (ay 14), .ref (ay 15), .ref (ay 16), .ref (ay 17)])), (ay 0, .inl (cs 1, 76, .inl (fun _ => 0))), (ay 6, .inl (cs 1, 3, .inl (fun _ => 0)))]) [0, 9, 16, 62, 63, 69] rfl
  replace hD := hD.sub (ws' := [(x0, .inr (8, [.ref (ax 0), .ref (ax 1), .ref (ax 2), .ref (ax 3), .ref (ax 4), .ref (ax 5), .ref (ax 6), .ref (ax 7), .ref (ax 8), .ref (ax 9)])), (ax 2, .inr (0, [.int 0, .int 0, .int 0, .int 0, .int 0, .int 0, .int 0, .int 0, .int 0, .int 0, .ref (ax 16), .ref (ax 17), .ref (ax 18), .ref (ax 19), .ref (ax 20)])), (ax 4, .inr (6, [.int 0, .int 0, .int 0, .long 0, .ref (ax 21), .ref (ax 22), .ref (ax 23), .ref (ax 24)])), (y0, .inr (9, [.int 0, .ref (ay 0), .ref (ay 1), .ref (ay 2), .ref (ay 3), .int 0, .ref (ay 4), .int 0, .int 0, .int 0, .int 0, .int 0, .int 0, .int (-1), .ref (ay 5), .ref (ay 6), .int 0, .int 0, .int 0, .ref (ay 7), .ref (ay 8), .ref (ay 9), .ref (ay 10), .ref (ay 11), .ref (ay 12), .int 0, .int 0, .int 0, .int 0, .int 0, .int 0, .int 0, .int 0, .int 0, .ref (ay 13), .long 0, .long 0, .long 0, .ref (ay 14), .ref (ay 15), .ref (ay 16), .ref (ay 17)])), (ay 0, .inl (cs 1, 76, .inl (fun _ => 0))), (ay 6, .inl (cs 1, 3, .inl (fun _ => 0)))]) [0, 9, 16, 62, 63, 69] (by decide) rfl
  refine lv_aload_n hx hb dL_law_1059 rfl (lv_at hl 2 rfl) ?_
  refine lv_aload_n hx hb dL_law_1060 rfl (lv_at hl 3 rfl) ?_
  refine lv_iload_n hx hb dL_law_1061 rfl (lv_at hl 0 rfl) ?_
  refine lv_iconst (v := 1) hx hb dL_law_1062 (by decide) ?_
  refine lv_iadd hx hb dL_law_1063 ?_
  refine cf_i 1 (by decide) ?_
  refine va_sld hx hb hX hbl hbA hS (vp_c (by decide)) dL_law_1064 ?_
  refine cf_v (.int (xs 1)) rfl ?_
  refine lv_aload_n hx hb dL_law_1065 rfl (lv_at hl 3 rfl) ?_
  refine lv_iload_n hx hb dL_law_1066 rfl (lv_at hl 0 rfl) ?_
  refine lv_iconst (v := 2) hx hb dL_law_1067 (by decide) ?_
  refine lv_iadd hx hb dL_law_1068 ?_
  refine cf_i 2 (by decide) ?_
  refine va_sld hx hb hX hbl hbA hS (vp_c (by decide)) dL_law_1069 ?_
  refine cf_v (.int (xs 2)) rfl ?_
  refine aft_i (wr := [(y0, .inr (9, [.int 0, .ref (ay 0), .ref (ay 1), .ref (ay 2), .ref (ay 3), .int 0, .ref (ay 4), .int 0, .int 0, .int 0, .int 0, .int 0, .int 0, .int (-1), .ref (ay 5), .ref (ay 6), .int 0, .int 0, .int 0, .ref (ay 7), .ref (ay 8), .ref (ay 9), .ref (ay 10), .ref (ay 11), .ref (ay 12), .int 0, .int 0, .int 0, .int 0, .int 0, .int 0, .int 0, .int 0, .int 0, .ref (ay 13), .long 0, .long 0, .long 0, .ref (ay 14), .ref (ay 15), .ref (ay 16), .ref (ay 17)])), (ay 0, .inl (cs 1, 76, .inl (fun _ => 0))), (ay 6, .inl (cs 1, 3, .inl (fun _ => 0)))]) hP hD hS hA [0, 1, 2] [3, 4, 5] rfl rfl (by decide) (by decide) (run_v (As := [.int (xs 1), .int (xs 2)]) (rest := []) hFix hK hE hP hD [0, 1, 2] (k_X8_bad l D cs _ x0 (xs 1) (xs 2) (ax 0) (ax 1) (ax 2) (ax 3) (ax 4) (ax 5) (ax 6) (ax 7) (ax 8) (ax 9) (ax 16) (ax 17) (ax 18) (ax 19) (ax 20) (ax 21) (ax 22) (ax 23) (ax 24)) (cwV 2 hts gl_118_X8_bad rfl rfl rfl (by decide +kernel) ⟨Nat.le_of_ble_eq_true rfl, Nat.le_of_ble_eq_true rfl⟩) rfl (by decide) rfl rfl rfl hl.1 rfl (Nat.le_of_ble_eq_true rfl) dL_law_1070 ⟨Nat.le_of_ble_eq_true rfl, Nat.le_of_ble_eq_true rfl⟩) (fun r_1 u_1 H locs hq_1 hP hD hS => ?_)
  have hP : va_P D vwCl [(y0, .inr (9, [.int 0, .ref (ay 0), .ref (ay 1), .ref (ay 2), .ref (ay 3), .int 0, .ref (ay 4), .int 0, .int 0, .int 0, .int 0, .int 0, .int 0, .int (-1), .ref (ay 5), .ref (ay 6), .int 0, .int 0, .int 0, .ref (ay 7), .ref (ay 8), .ref (ay 9), .ref (ay 10), .ref (ay 11), .ref (ay 12), .int 0, .int 0, .int 0, .int 0, .int 0, .int 0, .int 0, .int 0, .int 0, .ref (ay 13), .long 0, .long 0, .long 0, .ref (ay 14), .ref (ay 15), .ref (ay 16), .ref (ay 17)])), (ay 0, .inl (cs 1, 76, .inl (fun _ => 0))), (ay 6, .inl (cs 1, 3, .inl (fun _ => 0)))] H := hP
  have hD : va_D (fun q : Nat => s.heap.size ≤ q) [(y0, .inr (9, [.int 0, .ref (ay 0), .ref (ay 1), .ref (ay 2), .ref (ay 3), .int 0, .ref (ay 4), .int 0, .int 0, .int 0, .int 0, .int 0, .int 0, .int (-1), .ref (ay 5), .ref (ay 6), .int 0, .int 0, .int 0, .ref (ay 7), .ref (ay 8), .ref (ay 9), .ref (ay 10), .ref (ay 11), .ref (ay 12), .int 0, .int 0, .int 0, .int 0, .int 0, .int 0, .int 0, .int 0, .int 0, .ref (ay 13), .long 0, .long 0, .long 0, .ref (ay 14), .ref (ay 15), .ref (ay 16), .ref (ay 17)])), (ay 0, .inl (cs 1, 76, .inl (fun _ => 0))), (ay 6, .inl (cs 1, 3, .inl (fun _ => 0)))] := hD
  replace hq_1 : r_1 = (-2) := hq_1
  subst hq_1
  refine lv_aload_n hx hb dL_law_1073 rfl (lv_at hl 1 rfl) ?_
  refine lv_aload_n hx hb dL_law_1074 rfl (lv_at hl 3 rfl) ?_
  refine lv_iload_n hx hb dL_law_1075 rfl (lv_at hl 0 rfl) ?_
  refine lv_iconst (v := 1) hx hb dL_law_1076 (by decide) ?_
  refine lv_iadd hx hb dL_law_1077 ?_
  refine cf_i 1 (by decide) ?_
  refine va_sld hx hb hX hbl hbA hS (vp_c (by decide)) dL_law_1078 ?_
  refine cf_v (.int (xs 1)) rfl ?_
  refine lv_aload_n hx hb dL_law_1079 rfl (lv_at hl 3 rfl) ?_
  refine lv_iload_n hx hb dL_law_1080 rfl (lv_at hl 0 rfl) ?_
  refine lv_iconst (v := 2) hx hb dL_law_1081 (by decide) ?_
  refine lv_iadd hx hb dL_law_1082 ?_
  refine cf_i 2 (by decide) ?_
  refine va_sld hx hb hX hbl hbA hS (vp_c (by decide)) dL_law_1083 ?_
  refine cf_v (.int (xs 2)) rfl ?_
  refine aft_i (wr := []) hP hD hS hA [0, 1, 2] [] rfl rfl (by decide) (by decide) (run_v (As := [.int (xs 1), .int (xs 2)]) (rest := [.int (-2)]) hFix hK hE hP hD [0, 1, 2] (k_X9_bad l D cs _ y0 (xs 1) (xs 2) (ay 0) (ay 1) (ay 2) (ay 3) (ay 4) (ay 5) (ay 6) (ay 7) (ay 8) (ay 9) (ay 10) (ay 11) (ay 12) (ay 13) (ay 14) (ay 15) (ay 16) (ay 17)) (cwV 2 hts gl_121_X9_bad rfl rfl rfl (by decide +kernel) ⟨Nat.le_of_ble_eq_true rfl, Nat.le_of_ble_eq_true rfl⟩) rfl (by decide) rfl rfl rfl hl.1 rfl (Nat.le_of_ble_eq_true rfl) dL_law_1084 ⟨Nat.le_of_ble_eq_true rfl, Nat.le_of_ble_eq_true rfl⟩) (fun r_2 u_2 H locs hq_2 hP hD hS => ?_)
  replace hq_2 : r_2 = (-2) := hq_2
  subst hq_2
  refine lv_icmp_eq (tgt := 2473) hx hb dL_law_1087 (by decide) (fun _ => ?_) (fun h9 => absurd h9 (by decide))
  exact law_end l C0 hS (lv_sub hl [0, 3] rfl) (Nat.le_of_ble_eq_true rfl) (Nat.le_of_ble_eq_true rfl)

set_option maxHeartbeats 4000000 in
set_option maxRecDepth 100000 in
theorem law_case_26 {p : Program} {e : Env} {s : State} {m : MethodId} {below : List Frame} {meth : Method} {c : Code} (l : Launch) {b : Nat} {xs : Nat → Int32} (C0 : lw_At p s m meth c b 6 xs) {D : va_G} {cs : Nat → ClassId} (hK : va_K D vwCl (mtyA cs) s) (hE : mEnv s) {x0 y0 : Nat} {ax ay : Nat → Nat} {H : Heap} {locs : List Loc} {ls : Array Slot} (hP : va_P D vwCl (lawW cs x0 ax y0 ay) H) (hD : va_D (fun q : Nat => s.heap.size ≤ q) (lawW cs x0 ax y0 ay)) (hS : va_S (fun q : Nat => s.heap.size ≤ q) s.heap H locs) (hl : lv_has ls 4 [(3, .int 0), (2, .ref y0), (1, .ref x0), (0, .ref b)]) : W p l e room_1 s m #[Value.ref b] below meth c H locs 81 7838 (lw_Z below #[Value.ref b] s) (F0 m 1092 ls []) := by
  obtain ⟨hx, hb, hr, hml, hown, hts, hX, hbl, hlocks, hgv⟩ := id C0
  have hA : ∀ q : Nat, s.heap.size ≤ q → (fun q : Nat => s.heap.size ≤ q) q := fun _ h => h
  have hbA : ¬ (fun q : Nat => s.heap.size ≤ q) b := Nat.not_le.mpr hbl
  have hFix := (⟨hx, hb, hml, hown, hts⟩ : CallFix p m c _ _ s #[Value.ref b] lw_tbl RL)
  replace hP := hP.sub (ws' := [(x0, .inr (8, [.ref (ax 0), .ref (ax 1), .ref (ax 2), .ref (ax 3), .ref (ax 4), .ref (ax 5), .ref (ax 6), .ref (ax 7), .ref (ax 8), .ref (ax 9)])), (ax 2, .inr (0, [.int 0, .int 0, .int 0, .int 0, .int 0, .int 0, .int 0, .int 0, .int 0, .int 0, .ref (ax 16), .ref (ax 17), .ref (ax 18), .ref (ax 19), .ref (ax 20)])), (ax 4, .inr (6, [.int 0, .int 0, .int 0, .long 0, .ref (ax 21), .ref (ax 22), .ref (ax 23), .ref (ax 24)])), (y0, .inr (9, [.int 0, .ref (ay 0), .ref (ay 1), .ref (ay 2), .ref (ay 3), .int 0, .ref (ay 4), .int 0, .int 0, .int 0, .int 0, .int 0, .int 0, .int (-1), .ref (ay 5), .ref (ay 6), .int 0, .int 0, .int 0, .ref (ay 7), .ref (ay 8), .ref (ay 9), .ref (ay 10), .ref (ay 11), .ref (ay 12), .int 0, .int 0, .int 0, .int 0, .int 0, .int 0, .int 0, .int 0, .int 0, .ref (ay 13), .long 0, .long 0, .long 0, .ref (ay 14), .ref (ay 15), .ref (ay 16), .ref (ay 17)])), (ay 0, .inl (cs 1, 76, .inl (fun _ => 0))), (ay 6, .inl (cs 1, 3, .inl (fun _ => 0)))]) [0, 9, 16, 62, 63, 69] rfl
  replace hD := hD.sub (ws' := [(x0, .inr (8, [.ref (ax 0), .ref (ax 1), .ref (ax 2), .ref (ax 3), .ref (ax 4), .ref (ax 5), .ref (ax 6), .ref (ax 7), .ref (ax 8), .ref (ax 9)])), (ax 2, .inr (0, [.int 0, .int 0, .int 0, .int 0, .int 0, .int 0, .int 0, .int 0, .int 0, .int 0, .ref (ax 16), .ref (ax 17), .ref (ax 18), .ref (ax 19), .ref (ax 20)])), (ax 4, .inr (6, [.int 0, .int 0, .int 0, .long 0, .ref (ax 21), .ref (ax 22), .ref (ax 23), .ref (ax 24)])), (y0, .inr (9, [.int 0, .ref (ay 0), .ref (ay 1), .ref (ay 2), .ref (ay 3), .int 0, .ref (ay 4), .int 0, .int 0, .int 0, .int 0, .int 0, .int 0, .int (-1), .ref (ay 5), .ref (ay 6), .int 0, .int 0, .int 0, .ref (ay 7), .ref (ay 8), .ref (ay 9), .ref (ay 10), .ref (ay 11), .ref (ay 12), .int 0, .int 0, .int 0, .int 0, .int 0, .int 0, .int 0, .int 0, .int 0, .ref (ay 13), .long 0, .long 0, .long 0, .ref (ay 14), .ref (ay 15), .ref (ay 16), .ref (ay 17)])), (ay 0, .inl (cs 1, 76, .inl (fun _ => 0))), (ay 6, .inl (cs 1, 3, .inl (fun _ => 0)))]) [0, 9, 16, 62, 63, 69] (by decide) rfl
  refine lv_aload_n hx hb dL_law_1092 rfl (lv_at hl 2 rfl) ?_
  refine lv_aload_n hx hb dL_law_1093 rfl (lv_at hl 3 rfl) ?_
  refine lv_iload_n hx hb dL_law_1094 rfl (lv_at hl 0 rfl) ?_
  refine lv_iconst (v := 1) hx hb dL_law_1095 (by decide) ?_
  refine lv_iadd hx hb dL_law_1096 ?_
  refine cf_i 1 (by decide) ?_
  refine va_sld hx hb hX hbl hbA hS (vp_c (by decide)) dL_law_1097 ?_
  refine cf_v (.int (xs 1)) rfl ?_
  refine aft_i (wr := [(y0, .inr (9, [.int 0, .ref (ay 0), .ref (ay 1), .ref (ay 2), .ref (ay 3), .int 0, .ref (ay 4), .int 0, .int 0, .int 0, .int 0, .int 0, .int 0, .int (-1), .ref (ay 5), .ref (ay 6), .int 0, .int 0, .int 0, .ref (ay 7), .ref (ay 8), .ref (ay 9), .ref (ay 10), .ref (ay 11), .ref (ay 12), .int 0, .int 0, .int 0, .int 0, .int 0, .int 0, .int 0, .int 0, .int 0, .ref (ay 13), .long 0, .long 0, .long 0, .ref (ay 14), .ref (ay 15), .ref (ay 16), .ref (ay 17)])), (ay 0, .inl (cs 1, 76, .inl (fun _ => 0))), (ay 6, .inl (cs 1, 3, .inl (fun _ => 0)))]) hP hD hS hA [0, 1, 2] [3, 4, 5] rfl rfl (by decide) (by decide) (run_v (As := [.int (xs 1)]) (rest := []) hFix hK hE hP hD [0, 1, 2] (k_X8_all l D cs _ x0 (xs 1) (ax 0) (ax 1) (ax 2) (ax 3) (ax 4) (ax 5) (ax 6) (ax 7) (ax 8) (ax 9) (ax 16) (ax 17) (ax 18) (ax 19) (ax 20) (ax 21) (ax 22) (ax 23) (ax 24)) (cwV 1 hts gl_122_X8_all rfl rfl rfl (by decide +kernel) ⟨Nat.le_of_ble_eq_true rfl, Nat.le_of_ble_eq_true rfl⟩) rfl (by decide) rfl rfl rfl hl.1 rfl (Nat.le_of_ble_eq_true rfl) dL_law_1098 ⟨Nat.le_of_ble_eq_true rfl, Nat.le_of_ble_eq_true rfl⟩) (fun r_1 u_1 H locs hq_1 hP hD hS => ?_)
  have hP : va_P D vwCl [(y0, .inr (9, [.int 0, .ref (ay 0), .ref (ay 1), .ref (ay 2), .ref (ay 3), .int 0, .ref (ay 4), .int 0, .int 0, .int 0, .int 0, .int 0, .int 0, .int (-1), .ref (ay 5), .ref (ay 6), .int 0, .int 0, .int 0, .ref (ay 7), .ref (ay 8), .ref (ay 9), .ref (ay 10), .ref (ay 11), .ref (ay 12), .int 0, .int 0, .int 0, .int 0, .int 0, .int 0, .int 0, .int 0, .int 0, .ref (ay 13), .long 0, .long 0, .long 0, .ref (ay 14), .ref (ay 15), .ref (ay 16), .ref (ay 17)])), (ay 0, .inl (cs 1, 76, .inl (fun _ => 0))), (ay 6, .inl (cs 1, 3, .inl (fun _ => 0)))] H := hP
  have hD : va_D (fun q : Nat => s.heap.size ≤ q) [(y0, .inr (9, [.int 0, .ref (ay 0), .ref (ay 1), .ref (ay 2), .ref (ay 3), .int 0, .ref (ay 4), .int 0, .int 0, .int 0, .int 0, .int 0, .int 0, .int (-1), .ref (ay 5), .ref (ay 6), .int 0, .int 0, .int 0, .ref (ay 7), .ref (ay 8), .ref (ay 9), .ref (ay 10), .ref (ay 11), .ref (ay 12), .int 0, .int 0, .int 0, .int 0, .int 0, .int 0, .int 0, .int 0, .int 0, .ref (ay 13), .long 0, .long 0, .long 0, .ref (ay 14), .ref (ay 15), .ref (ay 16), .ref (ay 17)])), (ay 0, .inl (cs 1, 76, .inl (fun _ => 0))), (ay 6, .inl (cs 1, 3, .inl (fun _ => 0)))] := hD
  replace hq_1 : r_1 = (-2) := hq_1
  subst hq_1
  refine lv_aload_n hx hb dL_law_1101 rfl (lv_at hl 1 rfl) ?_
  refine lv_aload_n hx hb dL_law_1102 rfl (lv_at hl 3 rfl) ?_
  refine lv_iload_n hx hb dL_law_1103 rfl (lv_at hl 0 rfl) ?_
  refine lv_iconst (v := 1) hx hb dL_law_1104 (by decide) ?_
  refine lv_iadd hx hb dL_law_1105 ?_
  refine cf_i 1 (by decide) ?_
  refine va_sld hx hb hX hbl hbA hS (vp_c (by decide)) dL_law_1106 ?_
  refine cf_v (.int (xs 1)) rfl ?_
  refine aft_i (wr := []) hP hD hS hA [0, 1, 2] [] rfl rfl (by decide) (by decide) (run_v (As := [.int (xs 1)]) (rest := [.int (-2)]) hFix hK hE hP hD [0, 1, 2] (k_X9_all l D cs _ y0 (xs 1) (ay 0) (ay 1) (ay 2) (ay 3) (ay 4) (ay 5) (ay 6) (ay 7) (ay 8) (ay 9) (ay 10) (ay 11) (ay 12) (ay 13) (ay 14) (ay 15) (ay 16) (ay 17)) (cwV 1 hts gl_125_X9_all rfl rfl rfl (by decide +kernel) ⟨Nat.le_of_ble_eq_true rfl, Nat.le_of_ble_eq_true rfl⟩) rfl (by decide) rfl rfl rfl hl.1 rfl (Nat.le_of_ble_eq_true rfl) dL_law_1107 ⟨Nat.le_of_ble_eq_true rfl, Nat.le_of_ble_eq_true rfl⟩) (fun r_2 u_2 H locs hq_2 hP hD hS => ?_)
  replace hq_2 : r_2 = (-2) := hq_2
  subst hq_2
  refine lv_icmp_eq (tgt := 2473) hx hb dL_law_1110 (by decide) (fun _ => ?_) (fun h9 => absurd h9 (by decide))
  exact law_end l C0 hS (lv_sub hl [0, 3] rfl) (Nat.le_of_ble_eq_true rfl) (Nat.le_of_ble_eq_true rfl)

set_option maxHeartbeats 4000000 in
set_option maxRecDepth 100000 in
theorem law_case_27 {p : Program} {e : Env} {s : State} {m : MethodId} {below : List Frame} {meth : Method} {c : Code} (l : Launch) {b : Nat} {xs : Nat → Int32} (C0 : lw_At p s m meth c b 6 xs) {D : va_G} {cs : Nat → ClassId} (hK : va_K D vwCl (mtyA cs) s) (hE : mEnv s) {x0 y0 : Nat} {ax ay : Nat → Nat} {H : Heap} {locs : List Loc} {ls : Array Slot} (hP : va_P D vwCl (lawW cs x0 ax y0 ay) H) (hD : va_D (fun q : Nat => s.heap.size ≤ q) (lawW cs x0 ax y0 ay)) (hS : va_S (fun q : Nat => s.heap.size ≤ q) s.heap H locs) (hl : lv_has ls 4 [(3, .int 0), (2, .ref y0), (1, .ref x0), (0, .ref b)]) : W p l e room_1 s m #[Value.ref b] below meth c H locs 81 7838 (lw_Z below #[Value.ref b] s) (F0 m 1115 ls []) := by
  obtain ⟨hx, hb, hr, hml, hown, hts, hX, hbl, hlocks, hgv⟩ := id C0
  have hA : ∀ q : Nat, s.heap.size ≤ q → (fun q : Nat => s.heap.size ≤ q) q := fun _ h => h
  have hbA : ¬ (fun q : Nat => s.heap.size ≤ q) b := Nat.not_le.mpr hbl
  have hFix := (⟨hx, hb, hml, hown, hts⟩ : CallFix p m c _ _ s #[Value.ref b] lw_tbl RL)
  replace hP := hP.sub (ws' := [(x0, .inr (8, [.ref (ax 0), .ref (ax 1), .ref (ax 2), .ref (ax 3), .ref (ax 4), .ref (ax 5), .ref (ax 6), .ref (ax 7), .ref (ax 8), .ref (ax 9)])), (ax 2, .inr (0, [.int 0, .int 0, .int 0, .int 0, .int 0, .int 0, .int 0, .int 0, .int 0, .int 0, .ref (ax 16), .ref (ax 17), .ref (ax 18), .ref (ax 19), .ref (ax 20)])), (ax 4, .inr (6, [.int 0, .int 0, .int 0, .long 0, .ref (ax 21), .ref (ax 22), .ref (ax 23), .ref (ax 24)])), (y0, .inr (9, [.int 0, .ref (ay 0), .ref (ay 1), .ref (ay 2), .ref (ay 3), .int 0, .ref (ay 4), .int 0, .int 0, .int 0, .int 0, .int 0, .int 0, .int (-1), .ref (ay 5), .ref (ay 6), .int 0, .int 0, .int 0, .ref (ay 7), .ref (ay 8), .ref (ay 9), .ref (ay 10), .ref (ay 11), .ref (ay 12), .int 0, .int 0, .int 0, .int 0, .int 0, .int 0, .int 0, .int 0, .int 0, .ref (ay 13), .long 0, .long 0, .long 0, .ref (ay 14), .ref (ay 15), .ref (ay 16), .ref (ay 17)])), (ay 0, .inl (cs 1, 76, .inl (fun _ => 0))), (ay 6, .inl (cs 1, 3, .inl (fun _ => 0)))]) [0, 9, 16, 62, 63, 69] rfl
  replace hD := hD.sub (ws' := [(x0, .inr (8, [.ref (ax 0), .ref (ax 1), .ref (ax 2), .ref (ax 3), .ref (ax 4), .ref (ax 5), .ref (ax 6), .ref (ax 7), .ref (ax 8), .ref (ax 9)])), (ax 2, .inr (0, [.int 0, .int 0, .int 0, .int 0, .int 0, .int 0, .int 0, .int 0, .int 0, .int 0, .ref (ax 16), .ref (ax 17), .ref (ax 18), .ref (ax 19), .ref (ax 20)])), (ax 4, .inr (6, [.int 0, .int 0, .int 0, .long 0, .ref (ax 21), .ref (ax 22), .ref (ax 23), .ref (ax 24)])), (y0, .inr (9, [.int 0, .ref (ay 0), .ref (ay 1), .ref (ay 2), .ref (ay 3), .int 0, .ref (ay 4), .int 0, .int 0, .int 0, .int 0, .int 0, .int 0, .int (-1), .ref (ay 5), .ref (ay 6), .int 0, .int 0, .int 0, .ref (ay 7), .ref (ay 8), .ref (ay 9), .ref (ay 10), .ref (ay 11), .ref (ay 12), .int 0, .int 0, .int 0, .int 0, .int 0, .int 0, .int 0, .int 0, .int 0, .ref (ay 13), .long 0, .long 0, .long 0, .ref (ay 14), .ref (ay 15), .ref (ay 16), .ref (ay 17)])), (ay 0, .inl (cs 1, 76, .inl (fun _ => 0))), (ay 6, .inl (cs 1, 3, .inl (fun _ => 0)))]) [0, 9, 16, 62, 63, 69] (by decide) rfl
  refine lv_aload_n hx hb dL_law_1115 rfl (lv_at hl 2 rfl) ?_
  refine lv_aload_n hx hb dL_law_1116 rfl (lv_at hl 3 rfl) ?_
  refine lv_iload_n hx hb dL_law_1117 rfl (lv_at hl 0 rfl) ?_
  refine lv_iconst (v := 1) hx hb dL_law_1118 (by decide) ?_
  refine lv_iadd hx hb dL_law_1119 ?_
  refine cf_i 1 (by decide) ?_
  refine va_sld hx hb hX hbl hbA hS (vp_c (by decide)) dL_law_1120 ?_
  refine cf_v (.int (xs 1)) rfl ?_
  refine aft_i (wr := [(y0, .inr (9, [.int 0, .ref (ay 0), .ref (ay 1), .ref (ay 2), .ref (ay 3), .int 0, .ref (ay 4), .int 0, .int 0, .int 0, .int 0, .int 0, .int 0, .int (-1), .ref (ay 5), .ref (ay 6), .int 0, .int 0, .int 0, .ref (ay 7), .ref (ay 8), .ref (ay 9), .ref (ay 10), .ref (ay 11), .ref (ay 12), .int 0, .int 0, .int 0, .int 0, .int 0, .int 0, .int 0, .int 0, .int 0, .ref (ay 13), .long 0, .long 0, .long 0, .ref (ay 14), .ref (ay 15), .ref (ay 16), .ref (ay 17)])), (ay 0, .inl (cs 1, 76, .inl (fun _ => 0))), (ay 6, .inl (cs 1, 3, .inl (fun _ => 0)))]) hP hD hS hA [0, 1, 2] [3, 4, 5] rfl rfl (by decide) (by decide) (run_v (As := [.int (xs 1)]) (rest := []) hFix hK hE hP hD [0, 1, 2] (k_X8_pairs l D cs _ x0 (xs 1) (ax 0) (ax 1) (ax 2) (ax 3) (ax 4) (ax 5) (ax 6) (ax 7) (ax 8) (ax 9) (ax 16) (ax 17) (ax 18) (ax 19) (ax 20) (ax 21) (ax 22) (ax 23) (ax 24)) (cwV 1 hts gl_126_X8_pairs rfl rfl rfl (by decide +kernel) ⟨Nat.le_of_ble_eq_true rfl, Nat.le_of_ble_eq_true rfl⟩) rfl (by decide) rfl rfl rfl hl.1 rfl (Nat.le_of_ble_eq_true rfl) dL_law_1121 ⟨Nat.le_of_ble_eq_true rfl, Nat.le_of_ble_eq_true rfl⟩) (fun r_1 u_1 H locs hq_1 hP hD hS => ?_)
  have hP : va_P D vwCl [(y0, .inr (9, [.int 0, .ref (ay 0), .ref (ay 1), .ref (ay 2), .ref (ay 3), .int 0, .ref (ay 4), .int 0, .int 0, .int 0, .int 0, .int 0, .int 0, .int (-1), .ref (ay 5), .ref (ay 6), .int 0, .int 0, .int 0, .ref (ay 7), .ref (ay 8), .ref (ay 9), .ref (ay 10), .ref (ay 11), .ref (ay 12), .int 0, .int 0, .int 0, .int 0, .int 0, .int 0, .int 0, .int 0, .int 0, .ref (ay 13), .long 0, .long 0, .long 0, .ref (ay 14), .ref (ay 15), .ref (ay 16), .ref (ay 17)])), (ay 0, .inl (cs 1, 76, .inl (fun _ => 0))), (ay 6, .inl (cs 1, 3, .inl (fun _ => 0)))] H := hP
  have hD : va_D (fun q : Nat => s.heap.size ≤ q) [(y0, .inr (9, [.int 0, .ref (ay 0), .ref (ay 1), .ref (ay 2), .ref (ay 3), .int 0, .ref (ay 4), .int 0, .int 0, .int 0, .int 0, .int 0, .int 0, .int (-1), .ref (ay 5), .ref (ay 6), .int 0, .int 0, .int 0, .ref (ay 7), .ref (ay 8), .ref (ay 9), .ref (ay 10), .ref (ay 11), .ref (ay 12), .int 0, .int 0, .int 0, .int 0, .int 0, .int 0, .int 0, .int 0, .int 0, .ref (ay 13), .long 0, .long 0, .long 0, .ref (ay 14), .ref (ay 15), .ref (ay 16), .ref (ay 17)])), (ay 0, .inl (cs 1, 76, .inl (fun _ => 0))), (ay 6, .inl (cs 1, 3, .inl (fun _ => 0)))] := hD
  replace hq_1 : r_1 = (-2) := hq_1
  subst hq_1
  refine lv_aload_n hx hb dL_law_1124 rfl (lv_at hl 1 rfl) ?_
  refine lv_aload_n hx hb dL_law_1125 rfl (lv_at hl 3 rfl) ?_
  refine lv_iload_n hx hb dL_law_1126 rfl (lv_at hl 0 rfl) ?_
  refine lv_iconst (v := 1) hx hb dL_law_1127 (by decide) ?_
  refine lv_iadd hx hb dL_law_1128 ?_
  refine cf_i 1 (by decide) ?_
  refine va_sld hx hb hX hbl hbA hS (vp_c (by decide)) dL_law_1129 ?_
  refine cf_v (.int (xs 1)) rfl ?_
  refine aft_i (wr := []) hP hD hS hA [0, 1, 2] [] rfl rfl (by decide) (by decide) (run_v (As := [.int (xs 1)]) (rest := [.int (-2)]) hFix hK hE hP hD [0, 1, 2] (k_X9_pairs l D cs _ y0 (xs 1) (ay 0) (ay 1) (ay 2) (ay 3) (ay 4) (ay 5) (ay 6) (ay 7) (ay 8) (ay 9) (ay 10) (ay 11) (ay 12) (ay 13) (ay 14) (ay 15) (ay 16) (ay 17)) (cwV 1 hts gl_129_X9_pairs rfl rfl rfl (by decide +kernel) ⟨Nat.le_of_ble_eq_true rfl, Nat.le_of_ble_eq_true rfl⟩) rfl (by decide) rfl rfl rfl hl.1 rfl (Nat.le_of_ble_eq_true rfl) dL_law_1130 ⟨Nat.le_of_ble_eq_true rfl, Nat.le_of_ble_eq_true rfl⟩) (fun r_2 u_2 H locs hq_2 hP hD hS => ?_)
  replace hq_2 : r_2 = (-2) := hq_2
  subst hq_2
  refine lv_icmp_eq (tgt := 2473) hx hb dL_law_1133 (by decide) (fun _ => ?_) (fun h9 => absurd h9 (by decide))
  exact law_end l C0 hS (lv_sub hl [0, 3] rfl) (Nat.le_of_ble_eq_true rfl) (Nat.le_of_ble_eq_true rfl)

set_option maxHeartbeats 4000000 in
set_option maxRecDepth 100000 in
theorem law_case_28 {p : Program} {e : Env} {s : State} {m : MethodId} {below : List Frame} {meth : Method} {c : Code} (l : Launch) {b : Nat} {xs : Nat → Int32} (C0 : lw_At p s m meth c b 6 xs) {D : va_G} {cs : Nat → ClassId} (hK : va_K D vwCl (mtyA cs) s) (hE : mEnv s) {x0 y0 : Nat} {ax ay : Nat → Nat} {H : Heap} {locs : List Loc} {ls : Array Slot} (hP : va_P D vwCl (lawW cs x0 ax y0 ay) H) (hD : va_D (fun q : Nat => s.heap.size ≤ q) (lawW cs x0 ax y0 ay)) (hS : va_S (fun q : Nat => s.heap.size ≤ q) s.heap H locs) (hl : lv_has ls 4 [(3, .int 0), (2, .ref y0), (1, .ref x0), (0, .ref b)]) : W p l e room_1 s m #[Value.ref b] below meth c H locs 81 7838 (lw_Z below #[Value.ref b] s) (F0 m 1138 ls []) := by
  obtain ⟨hx, hb, hr, hml, hown, hts, hX, hbl, hlocks, hgv⟩ := id C0
  have hA : ∀ q : Nat, s.heap.size ≤ q → (fun q : Nat => s.heap.size ≤ q) q := fun _ h => h
  have hbA : ¬ (fun q : Nat => s.heap.size ≤ q) b := Nat.not_le.mpr hbl
  have hFix := (⟨hx, hb, hml, hown, hts⟩ : CallFix p m c _ _ s #[Value.ref b] lw_tbl RL)
  replace hP := hP.sub (ws' := [(x0, .inr (8, [.ref (ax 0), .ref (ax 1), .ref (ax 2), .ref (ax 3), .ref (ax 4), .ref (ax 5), .ref (ax 6), .ref (ax 7), .ref (ax 8), .ref (ax 9)])), (ax 2, .inr (0, [.int 0, .int 0, .int 0, .int 0, .int 0, .int 0, .int 0, .int 0, .int 0, .int 0, .ref (ax 16), .ref (ax 17), .ref (ax 18), .ref (ax 19), .ref (ax 20)])), (ax 4, .inr (6, [.int 0, .int 0, .int 0, .long 0, .ref (ax 21), .ref (ax 22), .ref (ax 23), .ref (ax 24)])), (y0, .inr (9, [.int 0, .ref (ay 0), .ref (ay 1), .ref (ay 2), .ref (ay 3), .int 0, .ref (ay 4), .int 0, .int 0, .int 0, .int 0, .int 0, .int 0, .int (-1), .ref (ay 5), .ref (ay 6), .int 0, .int 0, .int 0, .ref (ay 7), .ref (ay 8), .ref (ay 9), .ref (ay 10), .ref (ay 11), .ref (ay 12), .int 0, .int 0, .int 0, .int 0, .int 0, .int 0, .int 0, .int 0, .int 0, .ref (ay 13), .long 0, .long 0, .long 0, .ref (ay 14), .ref (ay 15), .ref (ay 16), .ref (ay 17)])), (ay 0, .inl (cs 1, 76, .inl (fun _ => 0))), (ay 6, .inl (cs 1, 3, .inl (fun _ => 0)))]) [0, 9, 16, 62, 63, 69] rfl
  replace hD := hD.sub (ws' := [(x0, .inr (8, [.ref (ax 0), .ref (ax 1), .ref (ax 2), .ref (ax 3), .ref (ax 4), .ref (ax 5), .ref (ax 6), .ref (ax 7), .ref (ax 8), .ref (ax 9)])), (ax 2, .inr (0, [.int 0, .int 0, .int 0, .int 0, .int 0, .int 0, .int 0, .int 0, .int 0, .int 0, .ref (ax 16), .ref (ax 17), .ref (ax 18), .ref (ax 19), .ref (ax 20)])), (ax 4, .inr (6, [.int 0, .int 0, .int 0, .long 0, .ref (ax 21), .ref (ax 22), .ref (ax 23), .ref (ax 24)])), (y0, .inr (9, [.int 0, .ref (ay 0), .ref (ay 1), .ref (ay 2), .ref (ay 3), .int 0, .ref (ay 4), .int 0, .int 0, .int 0, .int 0, .int 0, .int 0, .int (-1), .ref (ay 5), .ref (ay 6), .int 0, .int 0, .int 0, .ref (ay 7), .ref (ay 8), .ref (ay 9), .ref (ay 10), .ref (ay 11), .ref (ay 12), .int 0, .int 0, .int 0, .int 0, .int 0, .int 0, .int 0, .int 0, .int 0, .ref (ay 13), .long 0, .long 0, .long 0, .ref (ay 14), .ref (ay 15), .ref (ay 16), .ref (ay 17)])), (ay 0, .inl (cs 1, 76, .inl (fun _ => 0))), (ay 6, .inl (cs 1, 3, .inl (fun _ => 0)))]) [0, 9, 16, 62, 63, 69] (by decide) rfl
  refine lv_aload_n hx hb dL_law_1138 rfl (lv_at hl 2 rfl) ?_
  refine lv_aload_n hx hb dL_law_1139 rfl (lv_at hl 3 rfl) ?_
  refine lv_iload_n hx hb dL_law_1140 rfl (lv_at hl 0 rfl) ?_
  refine lv_iconst (v := 1) hx hb dL_law_1141 (by decide) ?_
  refine lv_iadd hx hb dL_law_1142 ?_
  refine cf_i 1 (by decide) ?_
  refine va_sld hx hb hX hbl hbA hS (vp_c (by decide)) dL_law_1143 ?_
  refine cf_v (.int (xs 1)) rfl ?_
  refine aft_i (wr := [(y0, .inr (9, [.int 0, .ref (ay 0), .ref (ay 1), .ref (ay 2), .ref (ay 3), .int 0, .ref (ay 4), .int 0, .int 0, .int 0, .int 0, .int 0, .int 0, .int (-1), .ref (ay 5), .ref (ay 6), .int 0, .int 0, .int 0, .ref (ay 7), .ref (ay 8), .ref (ay 9), .ref (ay 10), .ref (ay 11), .ref (ay 12), .int 0, .int 0, .int 0, .int 0, .int 0, .int 0, .int 0, .int 0, .int 0, .ref (ay 13), .long 0, .long 0, .long 0, .ref (ay 14), .ref (ay 15), .ref (ay 16), .ref (ay 17)])), (ay 0, .inl (cs 1, 76, .inl (fun _ => 0))), (ay 6, .inl (cs 1, 3, .inl (fun _ => 0)))]) hP hD hS hA [0, 1, 2] [3, 4, 5] rfl rfl (by decide) (by decide) (run_v (As := [.int (xs 1)]) (rest := []) hFix hK hE hP hD [0, 1, 2] (k_X8_safe l D cs _ x0 (xs 1) (ax 0) (ax 1) (ax 2) (ax 3) (ax 4) (ax 5) (ax 6) (ax 7) (ax 8) (ax 9) (ax 16) (ax 17) (ax 18) (ax 19) (ax 20) (ax 21) (ax 22) (ax 23) (ax 24)) (cwV 1 hts gl_130_X8_safe rfl rfl rfl (by decide +kernel) ⟨Nat.le_of_ble_eq_true rfl, Nat.le_of_ble_eq_true rfl⟩) rfl (by decide) rfl rfl rfl hl.1 rfl (Nat.le_of_ble_eq_true rfl) dL_law_1144 ⟨Nat.le_of_ble_eq_true rfl, Nat.le_of_ble_eq_true rfl⟩) (fun r_1 u_1 H locs hq_1 hP hD hS => ?_)
  have hP : va_P D vwCl [(y0, .inr (9, [.int 0, .ref (ay 0), .ref (ay 1), .ref (ay 2), .ref (ay 3), .int 0, .ref (ay 4), .int 0, .int 0, .int 0, .int 0, .int 0, .int 0, .int (-1), .ref (ay 5), .ref (ay 6), .int 0, .int 0, .int 0, .ref (ay 7), .ref (ay 8), .ref (ay 9), .ref (ay 10), .ref (ay 11), .ref (ay 12), .int 0, .int 0, .int 0, .int 0, .int 0, .int 0, .int 0, .int 0, .int 0, .ref (ay 13), .long 0, .long 0, .long 0, .ref (ay 14), .ref (ay 15), .ref (ay 16), .ref (ay 17)])), (ay 0, .inl (cs 1, 76, .inl (fun _ => 0))), (ay 6, .inl (cs 1, 3, .inl (fun _ => 0)))] H := hP
  have hD : va_D (fun q : Nat => s.heap.size ≤ q) [(y0, .inr (9, [.int 0, .ref (ay 0), .ref (ay 1), .ref (ay 2), .ref (ay 3), .int 0, .ref (ay 4), .int 0, .int 0, .int 0, .int 0, .int 0, .int 0, .int (-1), .ref (ay 5), .ref (ay 6), .int 0, .int 0, .int 0, .ref (ay 7), .ref (ay 8), .ref (ay 9), .ref (ay 10), .ref (ay 11), .ref (ay 12), .int 0, .int 0, .int 0, .int 0, .int 0, .int 0, .int 0, .int 0, .int 0, .ref (ay 13), .long 0, .long 0, .long 0, .ref (ay 14), .ref (ay 15), .ref (ay 16), .ref (ay 17)])), (ay 0, .inl (cs 1, 76, .inl (fun _ => 0))), (ay 6, .inl (cs 1, 3, .inl (fun _ => 0)))] := hD
  replace hq_1 : r_1 = (-2) := hq_1
  subst hq_1
  refine lv_aload_n hx hb dL_law_1147 rfl (lv_at hl 1 rfl) ?_
  refine lv_aload_n hx hb dL_law_1148 rfl (lv_at hl 3 rfl) ?_
  refine lv_iload_n hx hb dL_law_1149 rfl (lv_at hl 0 rfl) ?_
  refine lv_iconst (v := 1) hx hb dL_law_1150 (by decide) ?_
  refine lv_iadd hx hb dL_law_1151 ?_
  refine cf_i 1 (by decide) ?_
  refine va_sld hx hb hX hbl hbA hS (vp_c (by decide)) dL_law_1152 ?_
  refine cf_v (.int (xs 1)) rfl ?_
  refine aft_i (wr := []) hP hD hS hA [0, 1, 2] [] rfl rfl (by decide) (by decide) (run_v (As := [.int (xs 1)]) (rest := [.int (-2)]) hFix hK hE hP hD [0, 1, 2] (k_X9_safe l D cs _ y0 (xs 1) (ay 0) (ay 1) (ay 2) (ay 3) (ay 4) (ay 5) (ay 6) (ay 7) (ay 8) (ay 9) (ay 10) (ay 11) (ay 12) (ay 13) (ay 14) (ay 15) (ay 16) (ay 17)) (cwV 1 hts gl_133_X9_safe rfl rfl rfl (by decide +kernel) ⟨Nat.le_of_ble_eq_true rfl, Nat.le_of_ble_eq_true rfl⟩) rfl (by decide) rfl rfl rfl hl.1 rfl (Nat.le_of_ble_eq_true rfl) dL_law_1153 ⟨Nat.le_of_ble_eq_true rfl, Nat.le_of_ble_eq_true rfl⟩) (fun r_2 u_2 H locs hq_2 hP hD hS => ?_)
  replace hq_2 : r_2 = (-2) := hq_2
  subst hq_2
  refine lv_icmp_eq (tgt := 2473) hx hb dL_law_1156 (by decide) (fun _ => ?_) (fun h9 => absurd h9 (by decide))
  exact law_end l C0 hS (lv_sub hl [0, 3] rfl) (Nat.le_of_ble_eq_true rfl) (Nat.le_of_ble_eq_true rfl)

set_option maxHeartbeats 4000000 in
set_option maxRecDepth 100000 in
theorem law_case_29 {p : Program} {e : Env} {s : State} {m : MethodId} {below : List Frame} {meth : Method} {c : Code} (l : Launch) {b : Nat} {xs : Nat → Int32} (C0 : lw_At p s m meth c b 6 xs) {D : va_G} {cs : Nat → ClassId} (hK : va_K D vwCl (mtyA cs) s) (hE : mEnv s) {x0 y0 : Nat} {ax ay : Nat → Nat} {H : Heap} {locs : List Loc} {ls : Array Slot} (hP : va_P D vwCl (lawW cs x0 ax y0 ay) H) (hD : va_D (fun q : Nat => s.heap.size ≤ q) (lawW cs x0 ax y0 ay)) (hS : va_S (fun q : Nat => s.heap.size ≤ q) s.heap H locs) (hl : lv_has ls 4 [(3, .int 0), (2, .ref y0), (1, .ref x0), (0, .ref b)]) : W p l e room_1 s m #[Value.ref b] below meth c H locs 81 7838 (lw_Z below #[Value.ref b] s) (F0 m 1161 ls []) := by
  obtain ⟨hx, hb, hr, hml, hown, hts, hX, hbl, hlocks, hgv⟩ := id C0
  have hA : ∀ q : Nat, s.heap.size ≤ q → (fun q : Nat => s.heap.size ≤ q) q := fun _ h => h
  have hbA : ¬ (fun q : Nat => s.heap.size ≤ q) b := Nat.not_le.mpr hbl
  have hFix := (⟨hx, hb, hml, hown, hts⟩ : CallFix p m c _ _ s #[Value.ref b] lw_tbl RL)
  replace hP := hP.sub (ws' := [(x0, .inr (8, [.ref (ax 0), .ref (ax 1), .ref (ax 2), .ref (ax 3), .ref (ax 4), .ref (ax 5), .ref (ax 6), .ref (ax 7), .ref (ax 8), .ref (ax 9)])), (ax 2, .inr (0, [.int 0, .int 0, .int 0, .int 0, .int 0, .int 0, .int 0, .int 0, .int 0, .int 0, .ref (ax 16), .ref (ax 17), .ref (ax 18), .ref (ax 19), .ref (ax 20)])), (ax 4, .inr (6, [.int 0, .int 0, .int 0, .long 0, .ref (ax 21), .ref (ax 22), .ref (ax 23), .ref (ax 24)])), (y0, .inr (9, [.int 0, .ref (ay 0), .ref (ay 1), .ref (ay 2), .ref (ay 3), .int 0, .ref (ay 4), .int 0, .int 0, .int 0, .int 0, .int 0, .int 0, .int (-1), .ref (ay 5), .ref (ay 6), .int 0, .int 0, .int 0, .ref (ay 7), .ref (ay 8), .ref (ay 9), .ref (ay 10), .ref (ay 11), .ref (ay 12), .int 0, .int 0, .int 0, .int 0, .int 0, .int 0, .int 0, .int 0, .int 0, .ref (ay 13), .long 0, .long 0, .long 0, .ref (ay 14), .ref (ay 15), .ref (ay 16), .ref (ay 17)])), (ay 0, .inl (cs 1, 76, .inl (fun _ => 0))), (ay 6, .inl (cs 1, 3, .inl (fun _ => 0)))]) [0, 9, 16, 62, 63, 69] rfl
  replace hD := hD.sub (ws' := [(x0, .inr (8, [.ref (ax 0), .ref (ax 1), .ref (ax 2), .ref (ax 3), .ref (ax 4), .ref (ax 5), .ref (ax 6), .ref (ax 7), .ref (ax 8), .ref (ax 9)])), (ax 2, .inr (0, [.int 0, .int 0, .int 0, .int 0, .int 0, .int 0, .int 0, .int 0, .int 0, .int 0, .ref (ax 16), .ref (ax 17), .ref (ax 18), .ref (ax 19), .ref (ax 20)])), (ax 4, .inr (6, [.int 0, .int 0, .int 0, .long 0, .ref (ax 21), .ref (ax 22), .ref (ax 23), .ref (ax 24)])), (y0, .inr (9, [.int 0, .ref (ay 0), .ref (ay 1), .ref (ay 2), .ref (ay 3), .int 0, .ref (ay 4), .int 0, .int 0, .int 0, .int 0, .int 0, .int 0, .int (-1), .ref (ay 5), .ref (ay 6), .int 0, .int 0, .int 0, .ref (ay 7), .ref (ay 8), .ref (ay 9), .ref (ay 10), .ref (ay 11), .ref (ay 12), .int 0, .int 0, .int 0, .int 0, .int 0, .int 0, .int 0, .int 0, .int 0, .ref (ay 13), .long 0, .long 0, .long 0, .ref (ay 14), .ref (ay 15), .ref (ay 16), .ref (ay 17)])), (ay 0, .inl (cs 1, 76, .inl (fun _ => 0))), (ay 6, .inl (cs 1, 3, .inl (fun _ => 0)))]) [0, 9, 16, 62, 63, 69] (by decide) rfl
  refine lv_aload_n hx hb dL_law_1161 rfl (lv_at hl 2 rfl) ?_
  refine aft_i (wr := [(y0, .inr (9, [.int 0, .ref (ay 0), .ref (ay 1), .ref (ay 2), .ref (ay 3), .int 0, .ref (ay 4), .int 0, .int 0, .int 0, .int 0, .int 0, .int 0, .int (-1), .ref (ay 5), .ref (ay 6), .int 0, .int 0, .int 0, .ref (ay 7), .ref (ay 8), .ref (ay 9), .ref (ay 10), .ref (ay 11), .ref (ay 12), .int 0, .int 0, .int 0, .int 0, .int 0, .int 0, .int 0, .int 0, .int 0, .ref (ay 13), .long 0, .long 0, .long 0, .ref (ay 14), .ref (ay 15), .ref (ay 16), .ref (ay 17)])), (ay 0, .inl (cs 1, 76, .inl (fun _ => 0))), (ay 6, .inl (cs 1, 3, .inl (fun _ => 0)))]) hP hD hS hA [0, 1, 2] [3, 4, 5] rfl rfl (by decide) (by decide) (run_v (As := []) (rest := []) hFix hK hE hP hD [0, 1, 2] (k_X8_bound l D cs _ x0 (ax 0) (ax 1) (ax 2) (ax 3) (ax 4) (ax 5) (ax 6) (ax 7) (ax 8) (ax 9) (ax 16) (ax 17) (ax 18) (ax 19) (ax 20) (ax 21) (ax 22) (ax 23) (ax 24)) (cwV 0 hts gl_134_X8_bound rfl rfl rfl (by decide +kernel) ⟨Nat.le_of_ble_eq_true rfl, Nat.le_of_ble_eq_true rfl⟩) rfl (by decide) rfl rfl rfl hl.1 rfl (Nat.le_of_ble_eq_true rfl) dL_law_1162 ⟨Nat.le_of_ble_eq_true rfl, Nat.le_of_ble_eq_true rfl⟩) (fun r_1 u_1 H locs hq_1 hP hD hS => ?_)
  have hP : va_P D vwCl [(y0, .inr (9, [.int 0, .ref (ay 0), .ref (ay 1), .ref (ay 2), .ref (ay 3), .int 0, .ref (ay 4), .int 0, .int 0, .int 0, .int 0, .int 0, .int 0, .int (-1), .ref (ay 5), .ref (ay 6), .int 0, .int 0, .int 0, .ref (ay 7), .ref (ay 8), .ref (ay 9), .ref (ay 10), .ref (ay 11), .ref (ay 12), .int 0, .int 0, .int 0, .int 0, .int 0, .int 0, .int 0, .int 0, .int 0, .ref (ay 13), .long 0, .long 0, .long 0, .ref (ay 14), .ref (ay 15), .ref (ay 16), .ref (ay 17)])), (ay 0, .inl (cs 1, 76, .inl (fun _ => 0))), (ay 6, .inl (cs 1, 3, .inl (fun _ => 0)))] H := hP
  have hD : va_D (fun q : Nat => s.heap.size ≤ q) [(y0, .inr (9, [.int 0, .ref (ay 0), .ref (ay 1), .ref (ay 2), .ref (ay 3), .int 0, .ref (ay 4), .int 0, .int 0, .int 0, .int 0, .int 0, .int 0, .int (-1), .ref (ay 5), .ref (ay 6), .int 0, .int 0, .int 0, .ref (ay 7), .ref (ay 8), .ref (ay 9), .ref (ay 10), .ref (ay 11), .ref (ay 12), .int 0, .int 0, .int 0, .int 0, .int 0, .int 0, .int 0, .int 0, .int 0, .ref (ay 13), .long 0, .long 0, .long 0, .ref (ay 14), .ref (ay 15), .ref (ay 16), .ref (ay 17)])), (ay 0, .inl (cs 1, 76, .inl (fun _ => 0))), (ay 6, .inl (cs 1, 3, .inl (fun _ => 0)))] := hD
  replace hq_1 : r_1 = (-2) := hq_1
  subst hq_1
  refine lv_aload_n hx hb dL_law_1165 rfl (lv_at hl 1 rfl) ?_
  refine aft_i (wr := []) hP hD hS hA [0, 1, 2] [] rfl rfl (by decide) (by decide) (run_v (As := []) (rest := [.int (-2)]) hFix hK hE hP hD [0, 1, 2] (k_X9_bound l D cs _ y0 (ay 0) (ay 1) (ay 2) (ay 3) (ay 4) (ay 5) (ay 6) (ay 7) (ay 8) (ay 9) (ay 10) (ay 11) (ay 12) (ay 13) (ay 14) (ay 15) (ay 16) (ay 17)) (cwV 0 hts gl_137_X9_bound rfl rfl rfl (by decide +kernel) ⟨Nat.le_of_ble_eq_true rfl, Nat.le_of_ble_eq_true rfl⟩) rfl (by decide) rfl rfl rfl hl.1 rfl (Nat.le_of_ble_eq_true rfl) dL_law_1166 ⟨Nat.le_of_ble_eq_true rfl, Nat.le_of_ble_eq_true rfl⟩) (fun r_2 u_2 H locs hq_2 hP hD hS => ?_)
  replace hq_2 : r_2 = (-2) := hq_2
  subst hq_2
  refine lv_icmp_eq (tgt := 2473) hx hb dL_law_1169 (by decide) (fun _ => ?_) (fun h9 => absurd h9 (by decide))
  exact law_end l C0 hS (lv_sub hl [0, 3] rfl) (Nat.le_of_ble_eq_true rfl) (Nat.le_of_ble_eq_true rfl)

set_option maxHeartbeats 4000000 in
set_option maxRecDepth 100000 in
theorem law_case_30 {p : Program} {e : Env} {s : State} {m : MethodId} {below : List Frame} {meth : Method} {c : Code} (l : Launch) {b : Nat} {xs : Nat → Int32} (C0 : lw_At p s m meth c b 6 xs) {D : va_G} {cs : Nat → ClassId} (hK : va_K D vwCl (mtyA cs) s) (hE : mEnv s) {x0 y0 : Nat} {ax ay : Nat → Nat} {H : Heap} {locs : List Loc} {ls : Array Slot} (hP : va_P D vwCl (lawW cs x0 ax y0 ay) H) (hD : va_D (fun q : Nat => s.heap.size ≤ q) (lawW cs x0 ax y0 ay)) (hS : va_S (fun q : Nat => s.heap.size ≤ q) s.heap H locs) (hl : lv_has ls 4 [(3, .int 0), (2, .ref y0), (1, .ref x0), (0, .ref b)]) : W p l e room_1 s m #[Value.ref b] below meth c H locs 81 7838 (lw_Z below #[Value.ref b] s) (F0 m 1174 ls []) := by
  obtain ⟨hx, hb, hr, hml, hown, hts, hX, hbl, hlocks, hgv⟩ := id C0
  have hA : ∀ q : Nat, s.heap.size ≤ q → (fun q : Nat => s.heap.size ≤ q) q := fun _ h => h
  have hbA : ¬ (fun q : Nat => s.heap.size ≤ q) b := Nat.not_le.mpr hbl
  have hFix := (⟨hx, hb, hml, hown, hts⟩ : CallFix p m c _ _ s #[Value.ref b] lw_tbl RL)
  replace hP := hP.sub (ws' := [(x0, .inr (8, [.ref (ax 0), .ref (ax 1), .ref (ax 2), .ref (ax 3), .ref (ax 4), .ref (ax 5), .ref (ax 6), .ref (ax 7), .ref (ax 8), .ref (ax 9)])), (ax 2, .inr (0, [.int 0, .int 0, .int 0, .int 0, .int 0, .int 0, .int 0, .int 0, .int 0, .int 0, .ref (ax 16), .ref (ax 17), .ref (ax 18), .ref (ax 19), .ref (ax 20)])), (ax 4, .inr (6, [.int 0, .int 0, .int 0, .long 0, .ref (ax 21), .ref (ax 22), .ref (ax 23), .ref (ax 24)])), (y0, .inr (9, [.int 0, .ref (ay 0), .ref (ay 1), .ref (ay 2), .ref (ay 3), .int 0, .ref (ay 4), .int 0, .int 0, .int 0, .int 0, .int 0, .int 0, .int (-1), .ref (ay 5), .ref (ay 6), .int 0, .int 0, .int 0, .ref (ay 7), .ref (ay 8), .ref (ay 9), .ref (ay 10), .ref (ay 11), .ref (ay 12), .int 0, .int 0, .int 0, .int 0, .int 0, .int 0, .int 0, .int 0, .int 0, .ref (ay 13), .long 0, .long 0, .long 0, .ref (ay 14), .ref (ay 15), .ref (ay 16), .ref (ay 17)])), (ay 0, .inl (cs 1, 76, .inl (fun _ => 0))), (ay 6, .inl (cs 1, 3, .inl (fun _ => 0)))]) [0, 9, 16, 62, 63, 69] rfl
  replace hD := hD.sub (ws' := [(x0, .inr (8, [.ref (ax 0), .ref (ax 1), .ref (ax 2), .ref (ax 3), .ref (ax 4), .ref (ax 5), .ref (ax 6), .ref (ax 7), .ref (ax 8), .ref (ax 9)])), (ax 2, .inr (0, [.int 0, .int 0, .int 0, .int 0, .int 0, .int 0, .int 0, .int 0, .int 0, .int 0, .ref (ax 16), .ref (ax 17), .ref (ax 18), .ref (ax 19), .ref (ax 20)])), (ax 4, .inr (6, [.int 0, .int 0, .int 0, .long 0, .ref (ax 21), .ref (ax 22), .ref (ax 23), .ref (ax 24)])), (y0, .inr (9, [.int 0, .ref (ay 0), .ref (ay 1), .ref (ay 2), .ref (ay 3), .int 0, .ref (ay 4), .int 0, .int 0, .int 0, .int 0, .int 0, .int 0, .int (-1), .ref (ay 5), .ref (ay 6), .int 0, .int 0, .int 0, .ref (ay 7), .ref (ay 8), .ref (ay 9), .ref (ay 10), .ref (ay 11), .ref (ay 12), .int 0, .int 0, .int 0, .int 0, .int 0, .int 0, .int 0, .int 0, .int 0, .ref (ay 13), .long 0, .long 0, .long 0, .ref (ay 14), .ref (ay 15), .ref (ay 16), .ref (ay 17)])), (ay 0, .inl (cs 1, 76, .inl (fun _ => 0))), (ay 6, .inl (cs 1, 3, .inl (fun _ => 0)))]) [0, 9, 16, 62, 63, 69] (by decide) rfl
  refine lv_aload_n hx hb dL_law_1174 rfl (lv_at hl 2 rfl) ?_
  refine lv_aload_n hx hb dL_law_1175 rfl (lv_at hl 3 rfl) ?_
  refine lv_iload_n hx hb dL_law_1176 rfl (lv_at hl 0 rfl) ?_
  refine lv_iconst (v := 1) hx hb dL_law_1177 (by decide) ?_
  refine lv_iadd hx hb dL_law_1178 ?_
  refine cf_i 1 (by decide) ?_
  refine va_sld hx hb hX hbl hbA hS (vp_c (by decide)) dL_law_1179 ?_
  refine cf_v (.int (xs 1)) rfl ?_
  refine lv_aload_n hx hb dL_law_1180 rfl (lv_at hl 3 rfl) ?_
  refine lv_iload_n hx hb dL_law_1181 rfl (lv_at hl 0 rfl) ?_
  refine lv_iconst (v := 2) hx hb dL_law_1182 (by decide) ?_
  refine lv_iadd hx hb dL_law_1183 ?_
  refine cf_i 2 (by decide) ?_
  refine va_sld hx hb hX hbl hbA hS (vp_c (by decide)) dL_law_1184 ?_
  refine cf_v (.int (xs 2)) rfl ?_
  refine aft_i (wr := [(y0, .inr (9, [.int 0, .ref (ay 0), .ref (ay 1), .ref (ay 2), .ref (ay 3), .int 0, .ref (ay 4), .int 0, .int 0, .int 0, .int 0, .int 0, .int 0, .int (-1), .ref (ay 5), .ref (ay 6), .int 0, .int 0, .int 0, .ref (ay 7), .ref (ay 8), .ref (ay 9), .ref (ay 10), .ref (ay 11), .ref (ay 12), .int 0, .int 0, .int 0, .int 0, .int 0, .int 0, .int 0, .int 0, .int 0, .ref (ay 13), .long 0, .long 0, .long 0, .ref (ay 14), .ref (ay 15), .ref (ay 16), .ref (ay 17)])), (ay 0, .inl (cs 1, 76, .inl (fun _ => 0))), (ay 6, .inl (cs 1, 3, .inl (fun _ => 0)))]) hP hD hS hA [0, 1, 2] [3, 4, 5] rfl rfl (by decide) (by decide) (run_v (As := [.int (xs 1), .int (xs 2)]) (rest := []) hFix hK hE hP hD [0, 1, 2] (k_X8_least l D cs _ x0 (xs 1) (xs 2) (ax 0) (ax 1) (ax 2) (ax 3) (ax 4) (ax 5) (ax 6) (ax 7) (ax 8) (ax 9) (ax 16) (ax 17) (ax 18) (ax 19) (ax 20) (ax 21) (ax 22) (ax 23) (ax 24)) (cwV 2 hts gl_138_X8_least rfl rfl rfl (by decide +kernel) ⟨Nat.le_of_ble_eq_true rfl, Nat.le_of_ble_eq_true rfl⟩) rfl (by decide) rfl rfl rfl hl.1 rfl (Nat.le_of_ble_eq_true rfl) dL_law_1185 ⟨Nat.le_of_ble_eq_true rfl, Nat.le_of_ble_eq_true rfl⟩) (fun r_1 u_1 H locs hq_1 hP hD hS => ?_)
  have hP : va_P D vwCl [(y0, .inr (9, [.int 0, .ref (ay 0), .ref (ay 1), .ref (ay 2), .ref (ay 3), .int 0, .ref (ay 4), .int 0, .int 0, .int 0, .int 0, .int 0, .int 0, .int (-1), .ref (ay 5), .ref (ay 6), .int 0, .int 0, .int 0, .ref (ay 7), .ref (ay 8), .ref (ay 9), .ref (ay 10), .ref (ay 11), .ref (ay 12), .int 0, .int 0, .int 0, .int 0, .int 0, .int 0, .int 0, .int 0, .int 0, .ref (ay 13), .long 0, .long 0, .long 0, .ref (ay 14), .ref (ay 15), .ref (ay 16), .ref (ay 17)])), (ay 0, .inl (cs 1, 76, .inl (fun _ => 0))), (ay 6, .inl (cs 1, 3, .inl (fun _ => 0)))] H := hP
  have hD : va_D (fun q : Nat => s.heap.size ≤ q) [(y0, .inr (9, [.int 0, .ref (ay 0), .ref (ay 1), .ref (ay 2), .ref (ay 3), .int 0, .ref (ay 4), .int 0, .int 0, .int 0, .int 0, .int 0, .int 0, .int (-1), .ref (ay 5), .ref (ay 6), .int 0, .int 0, .int 0, .ref (ay 7), .ref (ay 8), .ref (ay 9), .ref (ay 10), .ref (ay 11), .ref (ay 12), .int 0, .int 0, .int 0, .int 0, .int 0, .int 0, .int 0, .int 0, .int 0, .ref (ay 13), .long 0, .long 0, .long 0, .ref (ay 14), .ref (ay 15), .ref (ay 16), .ref (ay 17)])), (ay 0, .inl (cs 1, 76, .inl (fun _ => 0))), (ay 6, .inl (cs 1, 3, .inl (fun _ => 0)))] := hD
  replace hq_1 : r_1 = (-2) := hq_1
  subst hq_1
  refine lv_aload_n hx hb dL_law_1188 rfl (lv_at hl 1 rfl) ?_
  refine lv_aload_n hx hb dL_law_1189 rfl (lv_at hl 3 rfl) ?_
  refine lv_iload_n hx hb dL_law_1190 rfl (lv_at hl 0 rfl) ?_
  refine lv_iconst (v := 1) hx hb dL_law_1191 (by decide) ?_
  refine lv_iadd hx hb dL_law_1192 ?_
  refine cf_i 1 (by decide) ?_
  refine va_sld hx hb hX hbl hbA hS (vp_c (by decide)) dL_law_1193 ?_
  refine cf_v (.int (xs 1)) rfl ?_
  refine lv_aload_n hx hb dL_law_1194 rfl (lv_at hl 3 rfl) ?_
  refine lv_iload_n hx hb dL_law_1195 rfl (lv_at hl 0 rfl) ?_
  refine lv_iconst (v := 2) hx hb dL_law_1196 (by decide) ?_
  refine lv_iadd hx hb dL_law_1197 ?_
  refine cf_i 2 (by decide) ?_
  refine va_sld hx hb hX hbl hbA hS (vp_c (by decide)) dL_law_1198 ?_
  refine cf_v (.int (xs 2)) rfl ?_
  refine aft_i (wr := []) hP hD hS hA [0, 1, 2] [] rfl rfl (by decide) (by decide) (run_v (As := [.int (xs 1), .int (xs 2)]) (rest := [.int (-2)]) hFix hK hE hP hD [0, 1, 2] (k_X9_least l D cs _ y0 (xs 1) (xs 2) (ay 0) (ay 1) (ay 2) (ay 3) (ay 4) (ay 5) (ay 6) (ay 7) (ay 8) (ay 9) (ay 10) (ay 11) (ay 12) (ay 13) (ay 14) (ay 15) (ay 16) (ay 17)) (cwV 2 hts gl_141_X9_least rfl rfl rfl (by decide +kernel) ⟨Nat.le_of_ble_eq_true rfl, Nat.le_of_ble_eq_true rfl⟩) rfl (by decide) rfl rfl rfl hl.1 rfl (Nat.le_of_ble_eq_true rfl) dL_law_1199 ⟨Nat.le_of_ble_eq_true rfl, Nat.le_of_ble_eq_true rfl⟩) (fun r_2 u_2 H locs hq_2 hP hD hS => ?_)
  replace hq_2 : r_2 = (-2) := hq_2
  subst hq_2
  refine lv_icmp_eq (tgt := 2473) hx hb dL_law_1202 (by decide) (fun _ => ?_) (fun h9 => absurd h9 (by decide))
  exact law_end l C0 hS (lv_sub hl [0, 3] rfl) (Nat.le_of_ble_eq_true rfl) (Nat.le_of_ble_eq_true rfl)

set_option maxHeartbeats 4000000 in
set_option maxRecDepth 100000 in
theorem law_case_31 {p : Program} {e : Env} {s : State} {m : MethodId} {below : List Frame} {meth : Method} {c : Code} (l : Launch) {b : Nat} {xs : Nat → Int32} (C0 : lw_At p s m meth c b 6 xs) {D : va_G} {cs : Nat → ClassId} (hK : va_K D vwCl (mtyA cs) s) (hE : mEnv s) {x0 y0 : Nat} {ax ay : Nat → Nat} {H : Heap} {locs : List Loc} {ls : Array Slot} (hP : va_P D vwCl (lawW cs x0 ax y0 ay) H) (hD : va_D (fun q : Nat => s.heap.size ≤ q) (lawW cs x0 ax y0 ay)) (hS : va_S (fun q : Nat => s.heap.size ≤ q) s.heap H locs) (hl : lv_has ls 4 [(3, .int 0), (2, .ref y0), (1, .ref x0), (0, .ref b)]) : W p l e room_1 s m #[Value.ref b] below meth c H locs 81 7838 (lw_Z below #[Value.ref b] s) (F0 m 1207 ls []) := by
  obtain ⟨hx, hb, hr, hml, hown, hts, hX, hbl, hlocks, hgv⟩ := id C0
  have hA : ∀ q : Nat, s.heap.size ≤ q → (fun q : Nat => s.heap.size ≤ q) q := fun _ h => h
  have hbA : ¬ (fun q : Nat => s.heap.size ≤ q) b := Nat.not_le.mpr hbl
  have hFix := (⟨hx, hb, hml, hown, hts⟩ : CallFix p m c _ _ s #[Value.ref b] lw_tbl RL)
  replace hP := hP.sub (ws' := [(x0, .inr (8, [.ref (ax 0), .ref (ax 1), .ref (ax 2), .ref (ax 3), .ref (ax 4), .ref (ax 5), .ref (ax 6), .ref (ax 7), .ref (ax 8), .ref (ax 9)])), (ax 2, .inr (0, [.int 0, .int 0, .int 0, .int 0, .int 0, .int 0, .int 0, .int 0, .int 0, .int 0, .ref (ax 16), .ref (ax 17), .ref (ax 18), .ref (ax 19), .ref (ax 20)])), (ax 4, .inr (6, [.int 0, .int 0, .int 0, .long 0, .ref (ax 21), .ref (ax 22), .ref (ax 23), .ref (ax 24)])), (y0, .inr (9, [.int 0, .ref (ay 0), .ref (ay 1), .ref (ay 2), .ref (ay 3), .int 0, .ref (ay 4), .int 0, .int 0, .int 0, .int 0, .int 0, .int 0, .int (-1), .ref (ay 5), .ref (ay 6), .int 0, .int 0, .int 0, .ref (ay 7), .ref (ay 8), .ref (ay 9), .ref (ay 10), .ref (ay 11), .ref (ay 12), .int 0, .int 0, .int 0, .int 0, .int 0, .int 0, .int 0, .int 0, .int 0, .ref (ay 13), .long 0, .long 0, .long 0, .ref (ay 14), .ref (ay 15), .ref (ay 16), .ref (ay 17)])), (ay 0, .inl (cs 1, 76, .inl (fun _ => 0))), (ay 6, .inl (cs 1, 3, .inl (fun _ => 0)))]) [0, 9, 16, 62, 63, 69] rfl
  replace hD := hD.sub (ws' := [(x0, .inr (8, [.ref (ax 0), .ref (ax 1), .ref (ax 2), .ref (ax 3), .ref (ax 4), .ref (ax 5), .ref (ax 6), .ref (ax 7), .ref (ax 8), .ref (ax 9)])), (ax 2, .inr (0, [.int 0, .int 0, .int 0, .int 0, .int 0, .int 0, .int 0, .int 0, .int 0, .int 0, .ref (ax 16), .ref (ax 17), .ref (ax 18), .ref (ax 19), .ref (ax 20)])), (ax 4, .inr (6, [.int 0, .int 0, .int 0, .long 0, .ref (ax 21), .ref (ax 22), .ref (ax 23), .ref (ax 24)])), (y0, .inr (9, [.int 0, .ref (ay 0), .ref (ay 1), .ref (ay 2), .ref (ay 3), .int 0, .ref (ay 4), .int 0, .int 0, .int 0, .int 0, .int 0, .int 0, .int (-1), .ref (ay 5), .ref (ay 6), .int 0, .int 0, .int 0, .ref (ay 7), .ref (ay 8), .ref (ay 9), .ref (ay 10), .ref (ay 11), .ref (ay 12), .int 0, .int 0, .int 0, .int 0, .int 0, .int 0, .int 0, .int 0, .int 0, .ref (ay 13), .long 0, .long 0, .long 0, .ref (ay 14), .ref (ay 15), .ref (ay 16), .ref (ay 17)])), (ay 0, .inl (cs 1, 76, .inl (fun _ => 0))), (ay 6, .inl (cs 1, 3, .inl (fun _ => 0)))]) [0, 9, 16, 62, 63, 69] (by decide) rfl
  refine lv_aload_n hx hb dL_law_1207 rfl (lv_at hl 2 rfl) ?_
  refine lv_aload_n hx hb dL_law_1208 rfl (lv_at hl 3 rfl) ?_
  refine lv_iload_n hx hb dL_law_1209 rfl (lv_at hl 0 rfl) ?_
  refine lv_iconst (v := 1) hx hb dL_law_1210 (by decide) ?_
  refine lv_iadd hx hb dL_law_1211 ?_
  refine cf_i 1 (by decide) ?_
  refine va_sld hx hb hX hbl hbA hS (vp_c (by decide)) dL_law_1212 ?_
  refine cf_v (.int (xs 1)) rfl ?_
  refine aft_i (wr := [(y0, .inr (9, [.int 0, .ref (ay 0), .ref (ay 1), .ref (ay 2), .ref (ay 3), .int 0, .ref (ay 4), .int 0, .int 0, .int 0, .int 0, .int 0, .int 0, .int (-1), .ref (ay 5), .ref (ay 6), .int 0, .int 0, .int 0, .ref (ay 7), .ref (ay 8), .ref (ay 9), .ref (ay 10), .ref (ay 11), .ref (ay 12), .int 0, .int 0, .int 0, .int 0, .int 0, .int 0, .int 0, .int 0, .int 0, .ref (ay 13), .long 0, .long 0, .long 0, .ref (ay 14), .ref (ay 15), .ref (ay 16), .ref (ay 17)])), (ay 0, .inl (cs 1, 76, .inl (fun _ => 0))), (ay 6, .inl (cs 1, 3, .inl (fun _ => 0)))]) hP hD hS hA [0, 1, 2] [3, 4, 5] rfl rfl (by decide) (by decide) (run_v (As := [.int (xs 1)]) (rest := []) hFix hK hE hP hD [0, 1, 2] (k_X8_culprit l D cs _ x0 (xs 1) (ax 0) (ax 1) (ax 2) (ax 3) (ax 4) (ax 5) (ax 6) (ax 7) (ax 8) (ax 9) (ax 16) (ax 17) (ax 18) (ax 19) (ax 20) (ax 21) (ax 22) (ax 23) (ax 24)) (cwV 1 hts gl_142_X8_culprit rfl rfl rfl (by decide +kernel) ⟨Nat.le_of_ble_eq_true rfl, Nat.le_of_ble_eq_true rfl⟩) rfl (by decide) rfl rfl rfl hl.1 rfl (Nat.le_of_ble_eq_true rfl) dL_law_1213 ⟨Nat.le_of_ble_eq_true rfl, Nat.le_of_ble_eq_true rfl⟩) (fun r_1 u_1 H locs hq_1 hP hD hS => ?_)
  have hP : va_P D vwCl [(y0, .inr (9, [.int 0, .ref (ay 0), .ref (ay 1), .ref (ay 2), .ref (ay 3), .int 0, .ref (ay 4), .int 0, .int 0, .int 0, .int 0, .int 0, .int 0, .int (-1), .ref (ay 5), .ref (ay 6), .int 0, .int 0, .int 0, .ref (ay 7), .ref (ay 8), .ref (ay 9), .ref (ay 10), .ref (ay 11), .ref (ay 12), .int 0, .int 0, .int 0, .int 0, .int 0, .int 0, .int 0, .int 0, .int 0, .ref (ay 13), .long 0, .long 0, .long 0, .ref (ay 14), .ref (ay 15), .ref (ay 16), .ref (ay 17)])), (ay 0, .inl (cs 1, 76, .inl (fun _ => 0))), (ay 6, .inl (cs 1, 3, .inl (fun _ => 0)))] H := hP
  have hD : va_D (fun q : Nat => s.heap.size ≤ q) [(y0, .inr (9, [.int 0, .ref (ay 0), .ref (ay 1), .ref (ay 2), .ref (ay 3), .int 0, .ref (ay 4), .int 0, .int 0, .int 0, .int 0, .int 0, .int 0, .int (-1), .ref (ay 5), .ref (ay 6), .int 0, .int 0, .int 0, .ref (ay 7), .ref (ay 8), .ref (ay 9), .ref (ay 10), .ref (ay 11), .ref (ay 12), .int 0, .int 0, .int 0, .int 0, .int 0, .int 0, .int 0, .int 0, .int 0, .ref (ay 13), .long 0, .long 0, .long 0, .ref (ay 14), .ref (ay 15), .ref (ay 16), .ref (ay 17)])), (ay 0, .inl (cs 1, 76, .inl (fun _ => 0))), (ay 6, .inl (cs 1, 3, .inl (fun _ => 0)))] := hD
  replace hq_1 : r_1 = (-2) := hq_1
  subst hq_1
  refine lv_aload_n hx hb dL_law_1216 rfl (lv_at hl 1 rfl) ?_
  refine lv_aload_n hx hb dL_law_1217 rfl (lv_at hl 3 rfl) ?_
  refine lv_iload_n hx hb dL_law_1218 rfl (lv_at hl 0 rfl) ?_
  refine lv_iconst (v := 1) hx hb dL_law_1219 (by decide) ?_
  refine lv_iadd hx hb dL_law_1220 ?_
  refine cf_i 1 (by decide) ?_
  refine va_sld hx hb hX hbl hbA hS (vp_c (by decide)) dL_law_1221 ?_
  refine cf_v (.int (xs 1)) rfl ?_
  refine aft_i (wr := []) hP hD hS hA [0, 1, 2] [] rfl rfl (by decide) (by decide) (run_v (As := [.int (xs 1)]) (rest := [.int (-2)]) hFix hK hE hP hD [0, 1, 2] (k_X9_culprit l D cs _ y0 (xs 1) (ay 0) (ay 1) (ay 2) (ay 3) (ay 4) (ay 5) (ay 6) (ay 7) (ay 8) (ay 9) (ay 10) (ay 11) (ay 12) (ay 13) (ay 14) (ay 15) (ay 16) (ay 17)) (cwV 1 hts gl_145_X9_culprit rfl rfl rfl (by decide +kernel) ⟨Nat.le_of_ble_eq_true rfl, Nat.le_of_ble_eq_true rfl⟩) rfl (by decide) rfl rfl rfl hl.1 rfl (Nat.le_of_ble_eq_true rfl) dL_law_1222 ⟨Nat.le_of_ble_eq_true rfl, Nat.le_of_ble_eq_true rfl⟩) (fun r_2 u_2 H locs hq_2 hP hD hS => ?_)
  replace hq_2 : r_2 = (-2) := hq_2
  subst hq_2
  refine lv_icmp_eq (tgt := 2473) hx hb dL_law_1225 (by decide) (fun _ => ?_) (fun h9 => absurd h9 (by decide))
  exact law_end l C0 hS (lv_sub hl [0, 3] rfl) (Nat.le_of_ble_eq_true rfl) (Nat.le_of_ble_eq_true rfl)

set_option maxHeartbeats 4000000 in
set_option maxRecDepth 100000 in
theorem law_case_32 {p : Program} {e : Env} {s : State} {m : MethodId} {below : List Frame} {meth : Method} {c : Code} (l : Launch) {b : Nat} {xs : Nat → Int32} (C0 : lw_At p s m meth c b 6 xs) {D : va_G} {cs : Nat → ClassId} (hK : va_K D vwCl (mtyA cs) s) (hE : mEnv s) {x0 y0 : Nat} {ax ay : Nat → Nat} {H : Heap} {locs : List Loc} {ls : Array Slot} (hP : va_P D vwCl (lawW cs x0 ax y0 ay) H) (hD : va_D (fun q : Nat => s.heap.size ≤ q) (lawW cs x0 ax y0 ay)) (hS : va_S (fun q : Nat => s.heap.size ≤ q) s.heap H locs) (hl : lv_has ls 4 [(3, .int 0), (2, .ref y0), (1, .ref x0), (0, .ref b)]) : W p l e room_1 s m #[Value.ref b] below meth c H locs 81 7838 (lw_Z below #[Value.ref b] s) (F0 m 1230 ls []) := by
  obtain ⟨hx, hb, hr, hml, hown, hts, hX, hbl, hlocks, hgv⟩ := id C0
  have hA : ∀ q : Nat, s.heap.size ≤ q → (fun q : Nat => s.heap.size ≤ q) q := fun _ h => h
  have hbA : ¬ (fun q : Nat => s.heap.size ≤ q) b := Nat.not_le.mpr hbl
  have hFix := (⟨hx, hb, hml, hown, hts⟩ : CallFix p m c _ _ s #[Value.ref b] lw_tbl RL)
  replace hP := hP.sub (ws' := [(x0, .inr (8, [.ref (ax 0), .ref (ax 1), .ref (ax 2), .ref (ax 3), .ref (ax 4), .ref (ax 5), .ref (ax 6), .ref (ax 7), .ref (ax 8), .ref (ax 9)])), (ax 2, .inr (0, [.int 0, .int 0, .int 0, .int 0, .int 0, .int 0, .int 0, .int 0, .int 0, .int 0, .ref (ax 16), .ref (ax 17), .ref (ax 18), .ref (ax 19), .ref (ax 20)])), (ax 4, .inr (6, [.int 0, .int 0, .int 0, .long 0, .ref (ax 21), .ref (ax 22), .ref (ax 23), .ref (ax 24)])), (y0, .inr (9, [.int 0, .ref (ay 0), .ref (ay 1), .ref (ay 2), .ref (ay 3), .int 0, .ref (ay 4), .int 0, .int 0, .int 0, .int 0, .int 0, .int 0, .int (-1), .ref (ay 5), .ref (ay 6), .int 0, .int 0, .int 0, .ref (ay 7), .ref (ay 8), .ref (ay 9), .ref (ay 10), .ref (ay 11), .ref (ay 12), .int 0, .int 0, .int 0, .int 0, .int 0, .int 0, .int 0, .int 0, .int 0, .ref (ay 13), .long 0, .long 0, .long 0, .ref (ay 14), .ref (ay 15), .ref (ay 16), .ref (ay 17)])), (ay 0, .inl (cs 1, 76, .inl (fun _ => 0))), (ay 6, .inl (cs 1, 3, .inl (fun _ => 0)))]) [0, 9, 16, 62, 63, 69] rfl
  replace hD := hD.sub (ws' := [(x0, .inr (8, [.ref (ax 0), .ref (ax 1), .ref (ax 2), .ref (ax 3), .ref (ax 4), .ref (ax 5), .ref (ax 6), .ref (ax 7), .ref (ax 8), .ref (ax 9)])), (ax 2, .inr (0, [.int 0, .int 0, .int 0, .int 0, .int 0, .int 0, .int 0, .int 0, .int 0, .int 0, .ref (ax 16), .ref (ax 17), .ref (ax 18), .ref (ax 19), .ref (ax 20)])), (ax 4, .inr (6, [.int 0, .int 0, .int 0, .long 0, .ref (ax 21), .ref (ax 22), .ref (ax 23), .ref (ax 24)])), (y0, .inr (9, [.int 0, .ref (ay 0), .ref (ay 1), .ref (ay 2), .ref (ay 3), .int 0, .ref (ay 4), .int 0, .int 0, .int 0, .int 0, .int 0, .int 0, .int (-1), .ref (ay 5), .ref (ay 6), .int 0, .int 0, .int 0, .ref (ay 7), .ref (ay 8), .ref (ay 9), .ref (ay 10), .ref (ay 11), .ref (ay 12), .int 0, .int 0, .int 0, .int 0, .int 0, .int 0, .int 0, .int 0, .int 0, .ref (ay 13), .long 0, .long 0, .long 0, .ref (ay 14), .ref (ay 15), .ref (ay 16), .ref (ay 17)])), (ay 0, .inl (cs 1, 76, .inl (fun _ => 0))), (ay 6, .inl (cs 1, 3, .inl (fun _ => 0)))]) [0, 9, 16, 62, 63, 69] (by decide) rfl
  refine lv_aload_n hx hb dL_law_1230 rfl (lv_at hl 2 rfl) ?_
  refine lv_aload_n hx hb dL_law_1231 rfl (lv_at hl 3 rfl) ?_
  refine lv_iload_n hx hb dL_law_1232 rfl (lv_at hl 0 rfl) ?_
  refine lv_iconst (v := 1) hx hb dL_law_1233 (by decide) ?_
  refine lv_iadd hx hb dL_law_1234 ?_
  refine cf_i 1 (by decide) ?_
  refine va_sld hx hb hX hbl hbA hS (vp_c (by decide)) dL_law_1235 ?_
  refine cf_v (.int (xs 1)) rfl ?_
  refine lv_aload_n hx hb dL_law_1236 rfl (lv_at hl 3 rfl) ?_
  refine lv_iload_n hx hb dL_law_1237 rfl (lv_at hl 0 rfl) ?_
  refine lv_iconst (v := 2) hx hb dL_law_1238 (by decide) ?_
  refine lv_iadd hx hb dL_law_1239 ?_
  refine cf_i 2 (by decide) ?_
  refine va_sld hx hb hX hbl hbA hS (vp_c (by decide)) dL_law_1240 ?_
  refine cf_v (.int (xs 2)) rfl ?_
  refine aft_i (wr := [(y0, .inr (9, [.int 0, .ref (ay 0), .ref (ay 1), .ref (ay 2), .ref (ay 3), .int 0, .ref (ay 4), .int 0, .int 0, .int 0, .int 0, .int 0, .int 0, .int (-1), .ref (ay 5), .ref (ay 6), .int 0, .int 0, .int 0, .ref (ay 7), .ref (ay 8), .ref (ay 9), .ref (ay 10), .ref (ay 11), .ref (ay 12), .int 0, .int 0, .int 0, .int 0, .int 0, .int 0, .int 0, .int 0, .int 0, .ref (ay 13), .long 0, .long 0, .long 0, .ref (ay 14), .ref (ay 15), .ref (ay 16), .ref (ay 17)])), (ay 0, .inl (cs 1, 76, .inl (fun _ => 0))), (ay 6, .inl (cs 1, 3, .inl (fun _ => 0)))]) hP hD hS hA [0, 1, 2] [3, 4, 5] rfl rfl (by decide) (by decide) (run_v (As := [.int (xs 1), .int (xs 2)]) (rest := []) hFix hK hE hP hD [0, 1, 2] (k_X8_hits l D cs _ x0 (xs 1) (xs 2) (ax 0) (ax 1) (ax 2) (ax 3) (ax 4) (ax 5) (ax 6) (ax 7) (ax 8) (ax 9) (ax 16) (ax 17) (ax 18) (ax 19) (ax 20) (ax 21) (ax 22) (ax 23) (ax 24)) (cwV 2 hts gl_146_X8_hits rfl rfl rfl (by decide +kernel) ⟨Nat.le_of_ble_eq_true rfl, Nat.le_of_ble_eq_true rfl⟩) rfl (by decide) rfl rfl rfl hl.1 rfl (Nat.le_of_ble_eq_true rfl) dL_law_1241 ⟨Nat.le_of_ble_eq_true rfl, Nat.le_of_ble_eq_true rfl⟩) (fun r_1 u_1 H locs hq_1 hP hD hS => ?_)
  have hP : va_P D vwCl [(y0, .inr (9, [.int 0, .ref (ay 0), .ref (ay 1), .ref (ay 2), .ref (ay 3), .int 0, .ref (ay 4), .int 0, .int 0, .int 0, .int 0, .int 0, .int 0, .int (-1), .ref (ay 5), .ref (ay 6), .int 0, .int 0, .int 0, .ref (ay 7), .ref (ay 8), .ref (ay 9), .ref (ay 10), .ref (ay 11), .ref (ay 12), .int 0, .int 0, .int 0, .int 0, .int 0, .int 0, .int 0, .int 0, .int 0, .ref (ay 13), .long 0, .long 0, .long 0, .ref (ay 14), .ref (ay 15), .ref (ay 16), .ref (ay 17)])), (ay 0, .inl (cs 1, 76, .inl (fun _ => 0))), (ay 6, .inl (cs 1, 3, .inl (fun _ => 0)))] H := hP
  have hD : va_D (fun q : Nat => s.heap.size ≤ q) [(y0, .inr (9, [.int 0, .ref (ay 0), .ref (ay 1), .ref (ay 2), .ref (ay 3), .int 0, .ref (ay 4), .int 0, .int 0, .int 0, .int 0, .int 0, .int 0, .int (-1), .ref (ay 5), .ref (ay 6), .int 0, .int 0, .int 0, .ref (ay 7), .ref (ay 8), .ref (ay 9), .ref (ay 10), .ref (ay 11), .ref (ay 12), .int 0, .int 0, .int 0, .int 0, .int 0, .int 0, .int 0, .int 0, .int 0, .ref (ay 13), .long 0, .long 0, .long 0, .ref (ay 14), .ref (ay 15), .ref (ay 16), .ref (ay 17)])), (ay 0, .inl (cs 1, 76, .inl (fun _ => 0))), (ay 6, .inl (cs 1, 3, .inl (fun _ => 0)))] := hD
  replace hq_1 : r_1 = (-2) := hq_1
  subst hq_1
  refine lv_aload_n hx hb dL_law_1244 rfl (lv_at hl 1 rfl) ?_
  refine lv_aload_n hx hb dL_law_1245 rfl (lv_at hl 3 rfl) ?_
  refine lv_iload_n hx hb dL_law_1246 rfl (lv_at hl 0 rfl) ?_
  refine lv_iconst (v := 1) hx hb dL_law_1247 (by decide) ?_
  refine lv_iadd hx hb dL_law_1248 ?_
  refine cf_i 1 (by decide) ?_
  refine va_sld hx hb hX hbl hbA hS (vp_c (by decide)) dL_law_1249 ?_
  refine cf_v (.int (xs 1)) rfl ?_
  refine lv_aload_n hx hb dL_law_1250 rfl (lv_at hl 3 rfl) ?_
  refine lv_iload_n hx hb dL_law_1251 rfl (lv_at hl 0 rfl) ?_
  refine lv_iconst (v := 2) hx hb dL_law_1252 (by decide) ?_
  refine lv_iadd hx hb dL_law_1253 ?_
  refine cf_i 2 (by decide) ?_
  refine va_sld hx hb hX hbl hbA hS (vp_c (by decide)) dL_law_1254 ?_
  refine cf_v (.int (xs 2)) rfl ?_
  refine aft_i (wr := []) hP hD hS hA [0, 1, 2] [] rfl rfl (by decide) (by decide) (run_v (As := [.int (xs 1), .int (xs 2)]) (rest := [.int (-2)]) hFix hK hE hP hD [0, 1, 2] (k_X9_hits l D cs _ y0 (xs 1) (xs 2) (ay 0) (ay 1) (ay 2) (ay 3) (ay 4) (ay 5) (ay 6) (ay 7) (ay 8) (ay 9) (ay 10) (ay 11) (ay 12) (ay 13) (ay 14) (ay 15) (ay 16) (ay 17)) (cwV 2 hts gl_149_X9_hits rfl rfl rfl (by decide +kernel) ⟨Nat.le_of_ble_eq_true rfl, Nat.le_of_ble_eq_true rfl⟩) rfl (by decide) rfl rfl rfl hl.1 rfl (Nat.le_of_ble_eq_true rfl) dL_law_1255 ⟨Nat.le_of_ble_eq_true rfl, Nat.le_of_ble_eq_true rfl⟩) (fun r_2 u_2 H locs hq_2 hP hD hS => ?_)
  replace hq_2 : r_2 = (-2) := hq_2
  subst hq_2
  refine lv_icmp_eq (tgt := 2473) hx hb dL_law_1258 (by decide) (fun _ => ?_) (fun h9 => absurd h9 (by decide))
  exact law_end l C0 hS (lv_sub hl [0, 3] rfl) (Nat.le_of_ble_eq_true rfl) (Nat.le_of_ble_eq_true rfl)

set_option maxHeartbeats 4000000 in
set_option maxRecDepth 100000 in
theorem law_case_33 {p : Program} {e : Env} {s : State} {m : MethodId} {below : List Frame} {meth : Method} {c : Code} (l : Launch) {b : Nat} {xs : Nat → Int32} (C0 : lw_At p s m meth c b 6 xs) {D : va_G} {cs : Nat → ClassId} (hK : va_K D vwCl (mtyA cs) s) (hE : mEnv s) {x0 y0 : Nat} {ax ay : Nat → Nat} {H : Heap} {locs : List Loc} {ls : Array Slot} (hP : va_P D vwCl (lawW cs x0 ax y0 ay) H) (hD : va_D (fun q : Nat => s.heap.size ≤ q) (lawW cs x0 ax y0 ay)) (hS : va_S (fun q : Nat => s.heap.size ≤ q) s.heap H locs) (hl : lv_has ls 4 [(3, .int 0), (2, .ref y0), (1, .ref x0), (0, .ref b)]) : W p l e room_1 s m #[Value.ref b] below meth c H locs 81 7838 (lw_Z below #[Value.ref b] s) (F0 m 1263 ls []) := by
  obtain ⟨hx, hb, hr, hml, hown, hts, hX, hbl, hlocks, hgv⟩ := id C0
  have hA : ∀ q : Nat, s.heap.size ≤ q → (fun q : Nat => s.heap.size ≤ q) q := fun _ h => h
  have hbA : ¬ (fun q : Nat => s.heap.size ≤ q) b := Nat.not_le.mpr hbl
  have hFix := (⟨hx, hb, hml, hown, hts⟩ : CallFix p m c _ _ s #[Value.ref b] lw_tbl RL)
  replace hP := hP.sub (ws' := [(x0, .inr (8, [.ref (ax 0), .ref (ax 1), .ref (ax 2), .ref (ax 3), .ref (ax 4), .ref (ax 5), .ref (ax 6), .ref (ax 7), .ref (ax 8), .ref (ax 9)])), (ax 2, .inr (0, [.int 0, .int 0, .int 0, .int 0, .int 0, .int 0, .int 0, .int 0, .int 0, .int 0, .ref (ax 16), .ref (ax 17), .ref (ax 18), .ref (ax 19), .ref (ax 20)])), (ax 4, .inr (6, [.int 0, .int 0, .int 0, .long 0, .ref (ax 21), .ref (ax 22), .ref (ax 23), .ref (ax 24)])), (y0, .inr (9, [.int 0, .ref (ay 0), .ref (ay 1), .ref (ay 2), .ref (ay 3), .int 0, .ref (ay 4), .int 0, .int 0, .int 0, .int 0, .int 0, .int 0, .int (-1), .ref (ay 5), .ref (ay 6), .int 0, .int 0, .int 0, .ref (ay 7), .ref (ay 8), .ref (ay 9), .ref (ay 10), .ref (ay 11), .ref (ay 12), .int 0, .int 0, .int 0, .int 0, .int 0, .int 0, .int 0, .int 0, .int 0, .ref (ay 13), .long 0, .long 0, .long 0, .ref (ay 14), .ref (ay 15), .ref (ay 16), .ref (ay 17)])), (ay 0, .inl (cs 1, 76, .inl (fun _ => 0))), (ay 6, .inl (cs 1, 3, .inl (fun _ => 0)))]) [0, 9, 16, 62, 63, 69] rfl
  replace hD := hD.sub (ws' := [(x0, .inr (8, [.ref (ax 0), .ref (ax 1), .ref (ax 2), .ref (ax 3), .ref (ax 4), .ref (ax 5), .ref (ax 6), .ref (ax 7), .ref (ax 8), .ref (ax 9)])), (ax 2, .inr (0, [.int 0, .int 0, .int 0, .int 0, .int 0, .int 0, .int 0, .int 0, .int 0, .int 0, .ref (ax 16), .ref (ax 17), .ref (ax 18), .ref (ax 19), .ref (ax 20)])), (ax 4, .inr (6, [.int 0, .int 0, .int 0, .long 0, .ref (ax 21), .ref (ax 22), .ref (ax 23), .ref (ax 24)])), (y0, .inr (9, [.int 0, .ref (ay 0), .ref (ay 1), .ref (ay 2), .ref (ay 3), .int 0, .ref (ay 4), .int 0, .int 0, .int 0, .int 0, .int 0, .int 0, .int (-1), .ref (ay 5), .ref (ay 6), .int 0, .int 0, .int 0, .ref (ay 7), .ref (ay 8), .ref (ay 9), .ref (ay 10), .ref (ay 11), .ref (ay 12), .int 0, .int 0, .int 0, .int 0, .int 0, .int 0, .int 0, .int 0, .int 0, .ref (ay 13), .long 0, .long 0, .long 0, .ref (ay 14), .ref (ay 15), .ref (ay 16), .ref (ay 17)])), (ay 0, .inl (cs 1, 76, .inl (fun _ => 0))), (ay 6, .inl (cs 1, 3, .inl (fun _ => 0)))]) [0, 9, 16, 62, 63, 69] (by decide) rfl
  refine lv_aload_n hx hb dL_law_1263 rfl (lv_at hl 2 rfl) ?_
  refine lv_aload_n hx hb dL_law_1264 rfl (lv_at hl 3 rfl) ?_
  refine lv_iload_n hx hb dL_law_1265 rfl (lv_at hl 0 rfl) ?_
  refine lv_iconst (v := 1) hx hb dL_law_1266 (by decide) ?_
  refine lv_iadd hx hb dL_law_1267 ?_
  refine cf_i 1 (by decide) ?_
  refine va_sld hx hb hX hbl hbA hS (vp_c (by decide)) dL_law_1268 ?_
  refine cf_v (.int (xs 1)) rfl ?_
  refine aft_i (wr := [(y0, .inr (9, [.int 0, .ref (ay 0), .ref (ay 1), .ref (ay 2), .ref (ay 3), .int 0, .ref (ay 4), .int 0, .int 0, .int 0, .int 0, .int 0, .int 0, .int (-1), .ref (ay 5), .ref (ay 6), .int 0, .int 0, .int 0, .ref (ay 7), .ref (ay 8), .ref (ay 9), .ref (ay 10), .ref (ay 11), .ref (ay 12), .int 0, .int 0, .int 0, .int 0, .int 0, .int 0, .int 0, .int 0, .int 0, .ref (ay 13), .long 0, .long 0, .long 0, .ref (ay 14), .ref (ay 15), .ref (ay 16), .ref (ay 17)])), (ay 0, .inl (cs 1, 76, .inl (fun _ => 0))), (ay 6, .inl (cs 1, 3, .inl (fun _ => 0)))]) hP hD hS hA [0, 1, 2] [3, 4, 5] rfl rfl (by decide) (by decide) (run_v (As := [.int (xs 1)]) (rest := []) hFix hK hE hP hD [0, 1, 2] (k_X8_worst l D cs _ x0 (xs 1) (ax 0) (ax 1) (ax 2) (ax 3) (ax 4) (ax 5) (ax 6) (ax 7) (ax 8) (ax 9) (ax 16) (ax 17) (ax 18) (ax 19) (ax 20) (ax 21) (ax 22) (ax 23) (ax 24)) (cwV 1 hts gl_150_X8_worst rfl rfl rfl (by decide +kernel) ⟨Nat.le_of_ble_eq_true rfl, Nat.le_of_ble_eq_true rfl⟩) rfl (by decide) rfl rfl rfl hl.1 rfl (Nat.le_of_ble_eq_true rfl) dL_law_1269 ⟨Nat.le_of_ble_eq_true rfl, Nat.le_of_ble_eq_true rfl⟩) (fun r_1 u_1 H locs hq_1 hP hD hS => ?_)
  have hP : va_P D vwCl [(y0, .inr (9, [.int 0, .ref (ay 0), .ref (ay 1), .ref (ay 2), .ref (ay 3), .int 0, .ref (ay 4), .int 0, .int 0, .int 0, .int 0, .int 0, .int 0, .int (-1), .ref (ay 5), .ref (ay 6), .int 0, .int 0, .int 0, .ref (ay 7), .ref (ay 8), .ref (ay 9), .ref (ay 10), .ref (ay 11), .ref (ay 12), .int 0, .int 0, .int 0, .int 0, .int 0, .int 0, .int 0, .int 0, .int 0, .ref (ay 13), .long 0, .long 0, .long 0, .ref (ay 14), .ref (ay 15), .ref (ay 16), .ref (ay 17)])), (ay 0, .inl (cs 1, 76, .inl (fun _ => 0))), (ay 6, .inl (cs 1, 3, .inl (fun _ => 0)))] H := hP
  have hD : va_D (fun q : Nat => s.heap.size ≤ q) [(y0, .inr (9, [.int 0, .ref (ay 0), .ref (ay 1), .ref (ay 2), .ref (ay 3), .int 0, .ref (ay 4), .int 0, .int 0, .int 0, .int 0, .int 0, .int 0, .int (-1), .ref (ay 5), .ref (ay 6), .int 0, .int 0, .int 0, .ref (ay 7), .ref (ay 8), .ref (ay 9), .ref (ay 10), .ref (ay 11), .ref (ay 12), .int 0, .int 0, .int 0, .int 0, .int 0, .int 0, .int 0, .int 0, .int 0, .ref (ay 13), .long 0, .long 0, .long 0, .ref (ay 14), .ref (ay 15), .ref (ay 16), .ref (ay 17)])), (ay 0, .inl (cs 1, 76, .inl (fun _ => 0))), (ay 6, .inl (cs 1, 3, .inl (fun _ => 0)))] := hD
  replace hq_1 : r_1 = (-2) := hq_1
  subst hq_1
  refine lv_aload_n hx hb dL_law_1272 rfl (lv_at hl 1 rfl) ?_
  refine lv_aload_n hx hb dL_law_1273 rfl (lv_at hl 3 rfl) ?_
  refine lv_iload_n hx hb dL_law_1274 rfl (lv_at hl 0 rfl) ?_
  refine lv_iconst (v := 1) hx hb dL_law_1275 (by decide) ?_
  refine lv_iadd hx hb dL_law_1276 ?_
  refine cf_i 1 (by decide) ?_
  refine va_sld hx hb hX hbl hbA hS (vp_c (by decide)) dL_law_1277 ?_
  refine cf_v (.int (xs 1)) rfl ?_
  refine aft_i (wr := []) hP hD hS hA [0, 1, 2] [] rfl rfl (by decide) (by decide) (run_v (As := [.int (xs 1)]) (rest := [.int (-2)]) hFix hK hE hP hD [0, 1, 2] (k_X9_worst l D cs _ y0 (xs 1) (ay 0) (ay 1) (ay 2) (ay 3) (ay 4) (ay 5) (ay 6) (ay 7) (ay 8) (ay 9) (ay 10) (ay 11) (ay 12) (ay 13) (ay 14) (ay 15) (ay 16) (ay 17)) (cwV 1 hts gl_153_X9_worst rfl rfl rfl (by decide +kernel) ⟨Nat.le_of_ble_eq_true rfl, Nat.le_of_ble_eq_true rfl⟩) rfl (by decide) rfl rfl rfl hl.1 rfl (Nat.le_of_ble_eq_true rfl) dL_law_1278 ⟨Nat.le_of_ble_eq_true rfl, Nat.le_of_ble_eq_true rfl⟩) (fun r_2 u_2 H locs hq_2 hP hD hS => ?_)
  replace hq_2 : r_2 = (-2) := hq_2
  subst hq_2
  refine lv_icmp_eq (tgt := 2473) hx hb dL_law_1281 (by decide) (fun _ => ?_) (fun h9 => absurd h9 (by decide))
  exact law_end l C0 hS (lv_sub hl [0, 3] rfl) (Nat.le_of_ble_eq_true rfl) (Nat.le_of_ble_eq_true rfl)

set_option maxHeartbeats 4000000 in
set_option maxRecDepth 100000 in
theorem law_case_34 {p : Program} {e : Env} {s : State} {m : MethodId} {below : List Frame} {meth : Method} {c : Code} (l : Launch) {b : Nat} {xs : Nat → Int32} (C0 : lw_At p s m meth c b 6 xs) {D : va_G} {cs : Nat → ClassId} (hK : va_K D vwCl (mtyA cs) s) (hE : mEnv s) {x0 y0 : Nat} {ax ay : Nat → Nat} {H : Heap} {locs : List Loc} {ls : Array Slot} (hP : va_P D vwCl (lawW cs x0 ax y0 ay) H) (hD : va_D (fun q : Nat => s.heap.size ≤ q) (lawW cs x0 ax y0 ay)) (hS : va_S (fun q : Nat => s.heap.size ≤ q) s.heap H locs) (hl : lv_has ls 4 [(3, .int 0), (2, .ref y0), (1, .ref x0), (0, .ref b)]) : W p l e room_1 s m #[Value.ref b] below meth c H locs 81 7838 (lw_Z below #[Value.ref b] s) (F0 m 1286 ls []) := by
  obtain ⟨hx, hb, hr, hml, hown, hts, hX, hbl, hlocks, hgv⟩ := id C0
  have hA : ∀ q : Nat, s.heap.size ≤ q → (fun q : Nat => s.heap.size ≤ q) q := fun _ h => h
  have hbA : ¬ (fun q : Nat => s.heap.size ≤ q) b := Nat.not_le.mpr hbl
  have hFix := (⟨hx, hb, hml, hown, hts⟩ : CallFix p m c _ _ s #[Value.ref b] lw_tbl RL)
  replace hP := hP.sub (ws' := [(x0, .inr (8, [.ref (ax 0), .ref (ax 1), .ref (ax 2), .ref (ax 3), .ref (ax 4), .ref (ax 5), .ref (ax 6), .ref (ax 7), .ref (ax 8), .ref (ax 9)])), (ax 2, .inr (0, [.int 0, .int 0, .int 0, .int 0, .int 0, .int 0, .int 0, .int 0, .int 0, .int 0, .ref (ax 16), .ref (ax 17), .ref (ax 18), .ref (ax 19), .ref (ax 20)])), (ax 4, .inr (6, [.int 0, .int 0, .int 0, .long 0, .ref (ax 21), .ref (ax 22), .ref (ax 23), .ref (ax 24)])), (y0, .inr (9, [.int 0, .ref (ay 0), .ref (ay 1), .ref (ay 2), .ref (ay 3), .int 0, .ref (ay 4), .int 0, .int 0, .int 0, .int 0, .int 0, .int 0, .int (-1), .ref (ay 5), .ref (ay 6), .int 0, .int 0, .int 0, .ref (ay 7), .ref (ay 8), .ref (ay 9), .ref (ay 10), .ref (ay 11), .ref (ay 12), .int 0, .int 0, .int 0, .int 0, .int 0, .int 0, .int 0, .int 0, .int 0, .ref (ay 13), .long 0, .long 0, .long 0, .ref (ay 14), .ref (ay 15), .ref (ay 16), .ref (ay 17)])), (ay 0, .inl (cs 1, 76, .inl (fun _ => 0))), (ay 6, .inl (cs 1, 3, .inl (fun _ => 0)))]) [0, 9, 16, 62, 63, 69] rfl
  replace hD := hD.sub (ws' := [(x0, .inr (8, [.ref (ax 0), .ref (ax 1), .ref (ax 2), .ref (ax 3), .ref (ax 4), .ref (ax 5), .ref (ax 6), .ref (ax 7), .ref (ax 8), .ref (ax 9)])), (ax 2, .inr (0, [.int 0, .int 0, .int 0, .int 0, .int 0, .int 0, .int 0, .int 0, .int 0, .int 0, .ref (ax 16), .ref (ax 17), .ref (ax 18), .ref (ax 19), .ref (ax 20)])), (ax 4, .inr (6, [.int 0, .int 0, .int 0, .long 0, .ref (ax 21), .ref (ax 22), .ref (ax 23), .ref (ax 24)])), (y0, .inr (9, [.int 0, .ref (ay 0), .ref (ay 1), .ref (ay 2), .ref (ay 3), .int 0, .ref (ay 4), .int 0, .int 0, .int 0, .int 0, .int 0, .int 0, .int (-1), .ref (ay 5), .ref (ay 6), .int 0, .int 0, .int 0, .ref (ay 7), .ref (ay 8), .ref (ay 9), .ref (ay 10), .ref (ay 11), .ref (ay 12), .int 0, .int 0, .int 0, .int 0, .int 0, .int 0, .int 0, .int 0, .int 0, .ref (ay 13), .long 0, .long 0, .long 0, .ref (ay 14), .ref (ay 15), .ref (ay 16), .ref (ay 17)])), (ay 0, .inl (cs 1, 76, .inl (fun _ => 0))), (ay 6, .inl (cs 1, 3, .inl (fun _ => 0)))]) [0, 9, 16, 62, 63, 69] (by decide) rfl
  refine lv_aload_n hx hb dL_law_1286 rfl (lv_at hl 2 rfl) ?_
  refine lv_aload_n hx hb dL_law_1287 rfl (lv_at hl 3 rfl) ?_
  refine lv_iload_n hx hb dL_law_1288 rfl (lv_at hl 0 rfl) ?_
  refine lv_iconst (v := 1) hx hb dL_law_1289 (by decide) ?_
  refine lv_iadd hx hb dL_law_1290 ?_
  refine cf_i 1 (by decide) ?_
  refine va_sld hx hb hX hbl hbA hS (vp_c (by decide)) dL_law_1291 ?_
  refine cf_v (.int (xs 1)) rfl ?_
  refine aft_i (wr := [(y0, .inr (9, [.int 0, .ref (ay 0), .ref (ay 1), .ref (ay 2), .ref (ay 3), .int 0, .ref (ay 4), .int 0, .int 0, .int 0, .int 0, .int 0, .int 0, .int (-1), .ref (ay 5), .ref (ay 6), .int 0, .int 0, .int 0, .ref (ay 7), .ref (ay 8), .ref (ay 9), .ref (ay 10), .ref (ay 11), .ref (ay 12), .int 0, .int 0, .int 0, .int 0, .int 0, .int 0, .int 0, .int 0, .int 0, .ref (ay 13), .long 0, .long 0, .long 0, .ref (ay 14), .ref (ay 15), .ref (ay 16), .ref (ay 17)])), (ay 0, .inl (cs 1, 76, .inl (fun _ => 0))), (ay 6, .inl (cs 1, 3, .inl (fun _ => 0)))]) hP hD hS hA [0, 1, 2] [3, 4, 5] rfl rfl (by decide) (by decide) (run_v (As := [.int (xs 1)]) (rest := []) hFix hK hE hP hD [0, 1, 2] (k_X8_known l D cs _ x0 (xs 1) (ax 0) (ax 1) (ax 2) (ax 3) (ax 4) (ax 5) (ax 6) (ax 7) (ax 8) (ax 9) (ax 16) (ax 17) (ax 18) (ax 19) (ax 20) (ax 21) (ax 22) (ax 23) (ax 24)) (cwV 1 hts gl_154_X8_known rfl rfl rfl (by decide +kernel) ⟨Nat.le_of_ble_eq_true rfl, Nat.le_of_ble_eq_true rfl⟩) rfl (by decide) rfl rfl rfl hl.1 rfl (Nat.le_of_ble_eq_true rfl) dL_law_1292 ⟨Nat.le_of_ble_eq_true rfl, Nat.le_of_ble_eq_true rfl⟩) (fun r_1 u_1 H locs hq_1 hP hD hS => ?_)
  have hP : va_P D vwCl [(y0, .inr (9, [.int 0, .ref (ay 0), .ref (ay 1), .ref (ay 2), .ref (ay 3), .int 0, .ref (ay 4), .int 0, .int 0, .int 0, .int 0, .int 0, .int 0, .int (-1), .ref (ay 5), .ref (ay 6), .int 0, .int 0, .int 0, .ref (ay 7), .ref (ay 8), .ref (ay 9), .ref (ay 10), .ref (ay 11), .ref (ay 12), .int 0, .int 0, .int 0, .int 0, .int 0, .int 0, .int 0, .int 0, .int 0, .ref (ay 13), .long 0, .long 0, .long 0, .ref (ay 14), .ref (ay 15), .ref (ay 16), .ref (ay 17)])), (ay 0, .inl (cs 1, 76, .inl (fun _ => 0))), (ay 6, .inl (cs 1, 3, .inl (fun _ => 0)))] H := hP
  have hD : va_D (fun q : Nat => s.heap.size ≤ q) [(y0, .inr (9, [.int 0, .ref (ay 0), .ref (ay 1), .ref (ay 2), .ref (ay 3), .int 0, .ref (ay 4), .int 0, .int 0, .int 0, .int 0, .int 0, .int 0, .int (-1), .ref (ay 5), .ref (ay 6), .int 0, .int 0, .int 0, .ref (ay 7), .ref (ay 8), .ref (ay 9), .ref (ay 10), .ref (ay 11), .ref (ay 12), .int 0, .int 0, .int 0, .int 0, .int 0, .int 0, .int 0, .int 0, .int 0, .ref (ay 13), .long 0, .long 0, .long 0, .ref (ay 14), .ref (ay 15), .ref (ay 16), .ref (ay 17)])), (ay 0, .inl (cs 1, 76, .inl (fun _ => 0))), (ay 6, .inl (cs 1, 3, .inl (fun _ => 0)))] := hD
  replace hq_1 : r_1 = (-2) := hq_1
  subst hq_1
  refine lv_aload_n hx hb dL_law_1295 rfl (lv_at hl 1 rfl) ?_
  refine lv_aload_n hx hb dL_law_1296 rfl (lv_at hl 3 rfl) ?_
  refine lv_iload_n hx hb dL_law_1297 rfl (lv_at hl 0 rfl) ?_
  refine lv_iconst (v := 1) hx hb dL_law_1298 (by decide) ?_
  refine lv_iadd hx hb dL_law_1299 ?_
  refine cf_i 1 (by decide) ?_
  refine va_sld hx hb hX hbl hbA hS (vp_c (by decide)) dL_law_1300 ?_
  refine cf_v (.int (xs 1)) rfl ?_
  refine aft_i (wr := []) hP hD hS hA [0, 1, 2] [] rfl rfl (by decide) (by decide) (run_v (As := [.int (xs 1)]) (rest := [.int (-2)]) hFix hK hE hP hD [0, 1, 2] (k_X9_known l D cs _ y0 (xs 1) (ay 0) (ay 1) (ay 2) (ay 3) (ay 4) (ay 5) (ay 6) (ay 7) (ay 8) (ay 9) (ay 10) (ay 11) (ay 12) (ay 13) (ay 14) (ay 15) (ay 16) (ay 17)) (cwV 1 hts gl_157_X9_known rfl rfl rfl (by decide +kernel) ⟨Nat.le_of_ble_eq_true rfl, Nat.le_of_ble_eq_true rfl⟩) rfl (by decide) rfl rfl rfl hl.1 rfl (Nat.le_of_ble_eq_true rfl) dL_law_1301 ⟨Nat.le_of_ble_eq_true rfl, Nat.le_of_ble_eq_true rfl⟩) (fun r_2 u_2 H locs hq_2 hP hD hS => ?_)
  replace hq_2 : r_2 = (-2) := hq_2
  subst hq_2
  refine lv_icmp_eq (tgt := 2473) hx hb dL_law_1304 (by decide) (fun _ => ?_) (fun h9 => absurd h9 (by decide))
  exact law_end l C0 hS (lv_sub hl [0, 3] rfl) (Nat.le_of_ble_eq_true rfl) (Nat.le_of_ble_eq_true rfl)

set_option maxHeartbeats 4000000 in
set_option maxRecDepth 100000 in
theorem law_case_35 {p : Program} {e : Env} {s : State} {m : MethodId} {below : List Frame} {meth : Method} {c : Code} (l : Launch) {b : Nat} {xs : Nat → Int32} (C0 : lw_At p s m meth c b 6 xs) {D : va_G} {cs : Nat → ClassId} (hK : va_K D vwCl (mtyA cs) s) (hE : mEnv s) {x0 y0 : Nat} {ax ay : Nat → Nat} {H : Heap} {locs : List Loc} {ls : Array Slot} (hP : va_P D vwCl (lawW cs x0 ax y0 ay) H) (hD : va_D (fun q : Nat => s.heap.size ≤ q) (lawW cs x0 ax y0 ay)) (hS : va_S (fun q : Nat => s.heap.size ≤ q) s.heap H locs) (hl : lv_has ls 4 [(3, .int 0), (2, .ref y0), (1, .ref x0), (0, .ref b)]) : W p l e room_1 s m #[Value.ref b] below meth c H locs 81 7838 (lw_Z below #[Value.ref b] s) (F0 m 1309 ls []) := by
  obtain ⟨hx, hb, hr, hml, hown, hts, hX, hbl, hlocks, hgv⟩ := id C0
  have hA : ∀ q : Nat, s.heap.size ≤ q → (fun q : Nat => s.heap.size ≤ q) q := fun _ h => h
  have hbA : ¬ (fun q : Nat => s.heap.size ≤ q) b := Nat.not_le.mpr hbl
  have hFix := (⟨hx, hb, hml, hown, hts⟩ : CallFix p m c _ _ s #[Value.ref b] lw_tbl RL)
  replace hP := hP.sub (ws' := [(x0, .inr (8, [.ref (ax 0), .ref (ax 1), .ref (ax 2), .ref (ax 3), .ref (ax 4), .ref (ax 5), .ref (ax 6), .ref (ax 7), .ref (ax 8), .ref (ax 9)])), (ax 2, .inr (0, [.int 0, .int 0, .int 0, .int 0, .int 0, .int 0, .int 0, .int 0, .int 0, .int 0, .ref (ax 16), .ref (ax 17), .ref (ax 18), .ref (ax 19), .ref (ax 20)])), (ax 4, .inr (6, [.int 0, .int 0, .int 0, .long 0, .ref (ax 21), .ref (ax 22), .ref (ax 23), .ref (ax 24)])), (y0, .inr (9, [.int 0, .ref (ay 0), .ref (ay 1), .ref (ay 2), .ref (ay 3), .int 0, .ref (ay 4), .int 0, .int 0, .int 0, .int 0, .int 0, .int 0, .int (-1), .ref (ay 5), .ref (ay 6), .int 0, .int 0, .int 0, .ref (ay 7), .ref (ay 8), .ref (ay 9), .ref (ay 10), .ref (ay 11), .ref (ay 12), .int 0, .int 0, .int 0, .int 0, .int 0, .int 0, .int 0, .int 0, .int 0, .ref (ay 13), .long 0, .long 0, .long 0, .ref (ay 14), .ref (ay 15), .ref (ay 16), .ref (ay 17)])), (ay 0, .inl (cs 1, 76, .inl (fun _ => 0))), (ay 6, .inl (cs 1, 3, .inl (fun _ => 0)))]) [0, 9, 16, 62, 63, 69] rfl
  replace hD := hD.sub (ws' := [(x0, .inr (8, [.ref (ax 0), .ref (ax 1), .ref (ax 2), .ref (ax 3), .ref (ax 4), .ref (ax 5), .ref (ax 6), .ref (ax 7), .ref (ax 8), .ref (ax 9)])), (ax 2, .inr (0, [.int 0, .int 0, .int 0, .int 0, .int 0, .int 0, .int 0, .int 0, .int 0, .int 0, .ref (ax 16), .ref (ax 17), .ref (ax 18), .ref (ax 19), .ref (ax 20)])), (ax 4, .inr (6, [.int 0, .int 0, .int 0, .long 0, .ref (ax 21), .ref (ax 22), .ref (ax 23), .ref (ax 24)])), (y0, .inr (9, [.int 0, .ref (ay 0), .ref (ay 1), .ref (ay 2), .ref (ay 3), .int 0, .ref (ay 4), .int 0, .int 0, .int 0, .int 0, .int 0, .int 0, .int (-1), .ref (ay 5), .ref (ay 6), .int 0, .int 0, .int 0, .ref (ay 7), .ref (ay 8), .ref (ay 9), .ref (ay 10), .ref (ay 11), .ref (ay 12), .int 0, .int 0, .int 0, .int 0, .int 0, .int 0, .int 0, .int 0, .int 0, .ref (ay 13), .long 0, .long 0, .long 0, .ref (ay 14), .ref (ay 15), .ref (ay 16), .ref (ay 17)])), (ay 0, .inl (cs 1, 76, .inl (fun _ => 0))), (ay 6, .inl (cs 1, 3, .inl (fun _ => 0)))]) [0, 9, 16, 62, 63, 69] (by decide) rfl
  refine lv_aload_n hx hb dL_law_1309 rfl (lv_at hl 2 rfl) ?_
  refine lv_aload_n hx hb dL_law_1310 rfl (lv_at hl 3 rfl) ?_
  refine lv_iload_n hx hb dL_law_1311 rfl (lv_at hl 0 rfl) ?_
  refine lv_iconst (v := 1) hx hb dL_law_1312 (by decide) ?_
  refine lv_iadd hx hb dL_law_1313 ?_
  refine cf_i 1 (by decide) ?_
  refine va_sld hx hb hX hbl hbA hS (vp_c (by decide)) dL_law_1314 ?_
  refine cf_v (.int (xs 1)) rfl ?_
  refine lv_aload_n hx hb dL_law_1315 rfl (lv_at hl 3 rfl) ?_
  refine lv_iload_n hx hb dL_law_1316 rfl (lv_at hl 0 rfl) ?_
  refine lv_iconst (v := 2) hx hb dL_law_1317 (by decide) ?_
  refine lv_iadd hx hb dL_law_1318 ?_
  refine cf_i 2 (by decide) ?_
  refine va_sld hx hb hX hbl hbA hS (vp_c (by decide)) dL_law_1319 ?_
  refine cf_v (.int (xs 2)) rfl ?_
  refine aft_i (wr := [(y0, .inr (9, [.int 0, .ref (ay 0), .ref (ay 1), .ref (ay 2), .ref (ay 3), .int 0, .ref (ay 4), .int 0, .int 0, .int 0, .int 0, .int 0, .int 0, .int (-1), .ref (ay 5), .ref (ay 6), .int 0, .int 0, .int 0, .ref (ay 7), .ref (ay 8), .ref (ay 9), .ref (ay 10), .ref (ay 11), .ref (ay 12), .int 0, .int 0, .int 0, .int 0, .int 0, .int 0, .int 0, .int 0, .int 0, .ref (ay 13), .long 0, .long 0, .long 0, .ref (ay 14), .ref (ay 15), .ref (ay 16), .ref (ay 17)])), (ay 0, .inl (cs 1, 76, .inl (fun _ => 0))), (ay 6, .inl (cs 1, 3, .inl (fun _ => 0)))]) hP hD hS hA [0, 1, 2] [3, 4, 5] rfl rfl (by decide) (by decide) (run_v (As := [.int (xs 1), .int (xs 2)]) (rest := []) hFix hK hE hP hD [0, 1, 2] (k_X8_alone l D cs _ x0 (xs 1) (xs 2) (ax 0) (ax 1) (ax 2) (ax 3) (ax 4) (ax 5) (ax 6) (ax 7) (ax 8) (ax 9) (ax 16) (ax 17) (ax 18) (ax 19) (ax 20) (ax 21) (ax 22) (ax 23) (ax 24)) (cwV 2 hts gl_158_X8_alone rfl rfl rfl (by decide +kernel) ⟨Nat.le_of_ble_eq_true rfl, Nat.le_of_ble_eq_true rfl⟩) rfl (by decide) rfl rfl rfl hl.1 rfl (Nat.le_of_ble_eq_true rfl) dL_law_1320 ⟨Nat.le_of_ble_eq_true rfl, Nat.le_of_ble_eq_true rfl⟩) (fun r_1 u_1 H locs hq_1 hP hD hS => ?_)
  have hP : va_P D vwCl [(y0, .inr (9, [.int 0, .ref (ay 0), .ref (ay 1), .ref (ay 2), .ref (ay 3), .int 0, .ref (ay 4), .int 0, .int 0, .int 0, .int 0, .int 0, .int 0, .int (-1), .ref (ay 5), .ref (ay 6), .int 0, .int 0, .int 0, .ref (ay 7), .ref (ay 8), .ref (ay 9), .ref (ay 10), .ref (ay 11), .ref (ay 12), .int 0, .int 0, .int 0, .int 0, .int 0, .int 0, .int 0, .int 0, .int 0, .ref (ay 13), .long 0, .long 0, .long 0, .ref (ay 14), .ref (ay 15), .ref (ay 16), .ref (ay 17)])), (ay 0, .inl (cs 1, 76, .inl (fun _ => 0))), (ay 6, .inl (cs 1, 3, .inl (fun _ => 0)))] H := hP
  have hD : va_D (fun q : Nat => s.heap.size ≤ q) [(y0, .inr (9, [.int 0, .ref (ay 0), .ref (ay 1), .ref (ay 2), .ref (ay 3), .int 0, .ref (ay 4), .int 0, .int 0, .int 0, .int 0, .int 0, .int 0, .int (-1), .ref (ay 5), .ref (ay 6), .int 0, .int 0, .int 0, .ref (ay 7), .ref (ay 8), .ref (ay 9), .ref (ay 10), .ref (ay 11), .ref (ay 12), .int 0, .int 0, .int 0, .int 0, .int 0, .int 0, .int 0, .int 0, .int 0, .ref (ay 13), .long 0, .long 0, .long 0, .ref (ay 14), .ref (ay 15), .ref (ay 16), .ref (ay 17)])), (ay 0, .inl (cs 1, 76, .inl (fun _ => 0))), (ay 6, .inl (cs 1, 3, .inl (fun _ => 0)))] := hD
  replace hq_1 : r_1 = (-2) := hq_1
  subst hq_1
  refine lv_aload_n hx hb dL_law_1323 rfl (lv_at hl 1 rfl) ?_
  refine lv_aload_n hx hb dL_law_1324 rfl (lv_at hl 3 rfl) ?_
  refine lv_iload_n hx hb dL_law_1325 rfl (lv_at hl 0 rfl) ?_
  refine lv_iconst (v := 1) hx hb dL_law_1326 (by decide) ?_
  refine lv_iadd hx hb dL_law_1327 ?_
  refine cf_i 1 (by decide) ?_
  refine va_sld hx hb hX hbl hbA hS (vp_c (by decide)) dL_law_1328 ?_
  refine cf_v (.int (xs 1)) rfl ?_
  refine lv_aload_n hx hb dL_law_1329 rfl (lv_at hl 3 rfl) ?_
  refine lv_iload_n hx hb dL_law_1330 rfl (lv_at hl 0 rfl) ?_
  refine lv_iconst (v := 2) hx hb dL_law_1331 (by decide) ?_
  refine lv_iadd hx hb dL_law_1332 ?_
  refine cf_i 2 (by decide) ?_
  refine va_sld hx hb hX hbl hbA hS (vp_c (by decide)) dL_law_1333 ?_
  refine cf_v (.int (xs 2)) rfl ?_
  refine aft_i (wr := []) hP hD hS hA [0, 1, 2] [] rfl rfl (by decide) (by decide) (run_v (As := [.int (xs 1), .int (xs 2)]) (rest := [.int (-2)]) hFix hK hE hP hD [0, 1, 2] (k_X9_alone l D cs _ y0 (xs 1) (xs 2) (ay 0) (ay 1) (ay 2) (ay 3) (ay 4) (ay 5) (ay 6) (ay 7) (ay 8) (ay 9) (ay 10) (ay 11) (ay 12) (ay 13) (ay 14) (ay 15) (ay 16) (ay 17)) (cwV 2 hts gl_161_X9_alone rfl rfl rfl (by decide +kernel) ⟨Nat.le_of_ble_eq_true rfl, Nat.le_of_ble_eq_true rfl⟩) rfl (by decide) rfl rfl rfl hl.1 rfl (Nat.le_of_ble_eq_true rfl) dL_law_1334 ⟨Nat.le_of_ble_eq_true rfl, Nat.le_of_ble_eq_true rfl⟩) (fun r_2 u_2 H locs hq_2 hP hD hS => ?_)
  replace hq_2 : r_2 = (-2) := hq_2
  subst hq_2
  refine lv_icmp_eq (tgt := 2473) hx hb dL_law_1337 (by decide) (fun _ => ?_) (fun h9 => absurd h9 (by decide))
  exact law_end l C0 hS (lv_sub hl [0, 3] rfl) (Nat.le_of_ble_eq_true rfl) (Nat.le_of_ble_eq_true rfl)

set_option maxHeartbeats 4000000 in
set_option maxRecDepth 100000 in
theorem law_case_36 {p : Program} {e : Env} {s : State} {m : MethodId} {below : List Frame} {meth : Method} {c : Code} (l : Launch) {b : Nat} {xs : Nat → Int32} (C0 : lw_At p s m meth c b 6 xs) {D : va_G} {cs : Nat → ClassId} (hK : va_K D vwCl (mtyA cs) s) (hE : mEnv s) {x0 y0 : Nat} {ax ay : Nat → Nat} {H : Heap} {locs : List Loc} {ls : Array Slot} (hP : va_P D vwCl (lawW cs x0 ax y0 ay) H) (hD : va_D (fun q : Nat => s.heap.size ≤ q) (lawW cs x0 ax y0 ay)) (hS : va_S (fun q : Nat => s.heap.size ≤ q) s.heap H locs) (hl : lv_has ls 4 [(3, .int 0), (2, .ref y0), (1, .ref x0), (0, .ref b)]) : W p l e room_1 s m #[Value.ref b] below meth c H locs 81 7838 (lw_Z below #[Value.ref b] s) (F0 m 1342 ls []) := by
  obtain ⟨hx, hb, hr, hml, hown, hts, hX, hbl, hlocks, hgv⟩ := id C0
  have hA : ∀ q : Nat, s.heap.size ≤ q → (fun q : Nat => s.heap.size ≤ q) q := fun _ h => h
  have hbA : ¬ (fun q : Nat => s.heap.size ≤ q) b := Nat.not_le.mpr hbl
  have hFix := (⟨hx, hb, hml, hown, hts⟩ : CallFix p m c _ _ s #[Value.ref b] lw_tbl RL)
  replace hP := hP.sub (ws' := [(x0, .inr (8, [.ref (ax 0), .ref (ax 1), .ref (ax 2), .ref (ax 3), .ref (ax 4), .ref (ax 5), .ref (ax 6), .ref (ax 7), .ref (ax 8), .ref (ax 9)])), (ax 2, .inr (0, [.int 0, .int 0, .int 0, .int 0, .int 0, .int 0, .int 0, .int 0, .int 0, .int 0, .ref (ax 16), .ref (ax 17), .ref (ax 18), .ref (ax 19), .ref (ax 20)])), (ax 4, .inr (6, [.int 0, .int 0, .int 0, .long 0, .ref (ax 21), .ref (ax 22), .ref (ax 23), .ref (ax 24)])), (y0, .inr (9, [.int 0, .ref (ay 0), .ref (ay 1), .ref (ay 2), .ref (ay 3), .int 0, .ref (ay 4), .int 0, .int 0, .int 0, .int 0, .int 0, .int 0, .int (-1), .ref (ay 5), .ref (ay 6), .int 0, .int 0, .int 0, .ref (ay 7), .ref (ay 8), .ref (ay 9), .ref (ay 10), .ref (ay 11), .ref (ay 12), .int 0, .int 0, .int 0, .int 0, .int 0, .int 0, .int 0, .int 0, .int 0, .ref (ay 13), .long 0, .long 0, .long 0, .ref (ay 14), .ref (ay 15), .ref (ay 16), .ref (ay 17)])), (ay 0, .inl (cs 1, 76, .inl (fun _ => 0))), (ay 6, .inl (cs 1, 3, .inl (fun _ => 0)))]) [0, 9, 16, 62, 63, 69] rfl
  replace hD := hD.sub (ws' := [(x0, .inr (8, [.ref (ax 0), .ref (ax 1), .ref (ax 2), .ref (ax 3), .ref (ax 4), .ref (ax 5), .ref (ax 6), .ref (ax 7), .ref (ax 8), .ref (ax 9)])), (ax 2, .inr (0, [.int 0, .int 0, .int 0, .int 0, .int 0, .int 0, .int 0, .int 0, .int 0, .int 0, .ref (ax 16), .ref (ax 17), .ref (ax 18), .ref (ax 19), .ref (ax 20)])), (ax 4, .inr (6, [.int 0, .int 0, .int 0, .long 0, .ref (ax 21), .ref (ax 22), .ref (ax 23), .ref (ax 24)])), (y0, .inr (9, [.int 0, .ref (ay 0), .ref (ay 1), .ref (ay 2), .ref (ay 3), .int 0, .ref (ay 4), .int 0, .int 0, .int 0, .int 0, .int 0, .int 0, .int (-1), .ref (ay 5), .ref (ay 6), .int 0, .int 0, .int 0, .ref (ay 7), .ref (ay 8), .ref (ay 9), .ref (ay 10), .ref (ay 11), .ref (ay 12), .int 0, .int 0, .int 0, .int 0, .int 0, .int 0, .int 0, .int 0, .int 0, .ref (ay 13), .long 0, .long 0, .long 0, .ref (ay 14), .ref (ay 15), .ref (ay 16), .ref (ay 17)])), (ay 0, .inl (cs 1, 76, .inl (fun _ => 0))), (ay 6, .inl (cs 1, 3, .inl (fun _ => 0)))]) [0, 9, 16, 62, 63, 69] (by decide) rfl
  refine lv_aload_n hx hb dL_law_1342 rfl (lv_at hl 2 rfl) ?_
  refine lv_aload_n hx hb dL_law_1343 rfl (lv_at hl 3 rfl) ?_
  refine lv_iload_n hx hb dL_law_1344 rfl (lv_at hl 0 rfl) ?_
  refine lv_iconst (v := 1) hx hb dL_law_1345 (by decide) ?_
  refine lv_iadd hx hb dL_law_1346 ?_
  refine cf_i 1 (by decide) ?_
  refine va_sld hx hb hX hbl hbA hS (vp_c (by decide)) dL_law_1347 ?_
  refine cf_v (.int (xs 1)) rfl ?_
  refine aft_i (wr := [(y0, .inr (9, [.int 0, .ref (ay 0), .ref (ay 1), .ref (ay 2), .ref (ay 3), .int 0, .ref (ay 4), .int 0, .int 0, .int 0, .int 0, .int 0, .int 0, .int (-1), .ref (ay 5), .ref (ay 6), .int 0, .int 0, .int 0, .ref (ay 7), .ref (ay 8), .ref (ay 9), .ref (ay 10), .ref (ay 11), .ref (ay 12), .int 0, .int 0, .int 0, .int 0, .int 0, .int 0, .int 0, .int 0, .int 0, .ref (ay 13), .long 0, .long 0, .long 0, .ref (ay 14), .ref (ay 15), .ref (ay 16), .ref (ay 17)])), (ay 0, .inl (cs 1, 76, .inl (fun _ => 0))), (ay 6, .inl (cs 1, 3, .inl (fun _ => 0)))]) hP hD hS hA [0, 1, 2] [3, 4, 5] rfl rfl (by decide) (by decide) (run_v (As := [.int (xs 1)]) (rest := []) hFix hK hE hP hD [0, 1, 2] (k_X8_fine l D cs _ x0 (xs 1) (ax 0) (ax 1) (ax 2) (ax 3) (ax 4) (ax 5) (ax 6) (ax 7) (ax 8) (ax 9) (ax 16) (ax 17) (ax 18) (ax 19) (ax 20) (ax 21) (ax 22) (ax 23) (ax 24)) (cwV 1 hts gl_162_X8_fine rfl rfl rfl (by decide +kernel) ⟨Nat.le_of_ble_eq_true rfl, Nat.le_of_ble_eq_true rfl⟩) rfl (by decide) rfl rfl rfl hl.1 rfl (Nat.le_of_ble_eq_true rfl) dL_law_1348 ⟨Nat.le_of_ble_eq_true rfl, Nat.le_of_ble_eq_true rfl⟩) (fun r_1 u_1 H locs hq_1 hP hD hS => ?_)
  have hP : va_P D vwCl [(y0, .inr (9, [.int 0, .ref (ay 0), .ref (ay 1), .ref (ay 2), .ref (ay 3), .int 0, .ref (ay 4), .int 0, .int 0, .int 0, .int 0, .int 0, .int 0, .int (-1), .ref (ay 5), .ref (ay 6), .int 0, .int 0, .int 0, .ref (ay 7), .ref (ay 8), .ref (ay 9), .ref (ay 10), .ref (ay 11), .ref (ay 12), .int 0, .int 0, .int 0, .int 0, .int 0, .int 0, .int 0, .int 0, .int 0, .ref (ay 13), .long 0, .long 0, .long 0, .ref (ay 14), .ref (ay 15), .ref (ay 16), .ref (ay 17)])), (ay 0, .inl (cs 1, 76, .inl (fun _ => 0))), (ay 6, .inl (cs 1, 3, .inl (fun _ => 0)))] H := hP
  have hD : va_D (fun q : Nat => s.heap.size ≤ q) [(y0, .inr (9, [.int 0, .ref (ay 0), .ref (ay 1), .ref (ay 2), .ref (ay 3), .int 0, .ref (ay 4), .int 0, .int 0, .int 0, .int 0, .int 0, .int 0, .int (-1), .ref (ay 5), .ref (ay 6), .int 0, .int 0, .int 0, .ref (ay 7), .ref (ay 8), .ref (ay 9), .ref (ay 10), .ref (ay 11), .ref (ay 12), .int 0, .int 0, .int 0, .int 0, .int 0, .int 0, .int 0, .int 0, .int 0, .ref (ay 13), .long 0, .long 0, .long 0, .ref (ay 14), .ref (ay 15), .ref (ay 16), .ref (ay 17)])), (ay 0, .inl (cs 1, 76, .inl (fun _ => 0))), (ay 6, .inl (cs 1, 3, .inl (fun _ => 0)))] := hD
  replace hq_1 : r_1 = (-2) := hq_1
  subst hq_1
  refine lv_aload_n hx hb dL_law_1351 rfl (lv_at hl 1 rfl) ?_
  refine lv_aload_n hx hb dL_law_1352 rfl (lv_at hl 3 rfl) ?_
  refine lv_iload_n hx hb dL_law_1353 rfl (lv_at hl 0 rfl) ?_
  refine lv_iconst (v := 1) hx hb dL_law_1354 (by decide) ?_
  refine lv_iadd hx hb dL_law_1355 ?_
  refine cf_i 1 (by decide) ?_
  refine va_sld hx hb hX hbl hbA hS (vp_c (by decide)) dL_law_1356 ?_
  refine cf_v (.int (xs 1)) rfl ?_
  refine aft_i (wr := []) hP hD hS hA [0, 1, 2] [] rfl rfl (by decide) (by decide) (run_v (As := [.int (xs 1)]) (rest := [.int (-2)]) hFix hK hE hP hD [0, 1, 2] (k_X9_fine l D cs _ y0 (xs 1) (ay 0) (ay 1) (ay 2) (ay 3) (ay 4) (ay 5) (ay 6) (ay 7) (ay 8) (ay 9) (ay 10) (ay 11) (ay 12) (ay 13) (ay 14) (ay 15) (ay 16) (ay 17)) (cwV 1 hts gl_165_X9_fine rfl rfl rfl (by decide +kernel) ⟨Nat.le_of_ble_eq_true rfl, Nat.le_of_ble_eq_true rfl⟩) rfl (by decide) rfl rfl rfl hl.1 rfl (Nat.le_of_ble_eq_true rfl) dL_law_1357 ⟨Nat.le_of_ble_eq_true rfl, Nat.le_of_ble_eq_true rfl⟩) (fun r_2 u_2 H locs hq_2 hP hD hS => ?_)
  replace hq_2 : r_2 = (-2) := hq_2
  subst hq_2
  refine lv_icmp_eq (tgt := 2473) hx hb dL_law_1360 (by decide) (fun _ => ?_) (fun h9 => absurd h9 (by decide))
  exact law_end l C0 hS (lv_sub hl [0, 3] rfl) (Nat.le_of_ble_eq_true rfl) (Nat.le_of_ble_eq_true rfl)

set_option maxHeartbeats 4000000 in
set_option maxRecDepth 100000 in
theorem law_case_37 {p : Program} {e : Env} {s : State} {m : MethodId} {below : List Frame} {meth : Method} {c : Code} (l : Launch) {b : Nat} {xs : Nat → Int32} (C0 : lw_At p s m meth c b 6 xs) {D : va_G} {cs : Nat → ClassId} (hK : va_K D vwCl (mtyA cs) s) (hE : mEnv s) {x0 y0 : Nat} {ax ay : Nat → Nat} {H : Heap} {locs : List Loc} {ls : Array Slot} (hP : va_P D vwCl (lawW cs x0 ax y0 ay) H) (hD : va_D (fun q : Nat => s.heap.size ≤ q) (lawW cs x0 ax y0 ay)) (hS : va_S (fun q : Nat => s.heap.size ≤ q) s.heap H locs) (hl : lv_has ls 4 [(3, .int 0), (2, .ref y0), (1, .ref x0), (0, .ref b)]) : W p l e room_1 s m #[Value.ref b] below meth c H locs 81 7838 (lw_Z below #[Value.ref b] s) (F0 m 1365 ls []) := by
  obtain ⟨hx, hb, hr, hml, hown, hts, hX, hbl, hlocks, hgv⟩ := id C0
  have hA : ∀ q : Nat, s.heap.size ≤ q → (fun q : Nat => s.heap.size ≤ q) q := fun _ h => h
  have hbA : ¬ (fun q : Nat => s.heap.size ≤ q) b := Nat.not_le.mpr hbl
  have hFix := (⟨hx, hb, hml, hown, hts⟩ : CallFix p m c _ _ s #[Value.ref b] lw_tbl RL)
  replace hP := hP.sub (ws' := [(x0, .inr (8, [.ref (ax 0), .ref (ax 1), .ref (ax 2), .ref (ax 3), .ref (ax 4), .ref (ax 5), .ref (ax 6), .ref (ax 7), .ref (ax 8), .ref (ax 9)])), (ax 2, .inr (0, [.int 0, .int 0, .int 0, .int 0, .int 0, .int 0, .int 0, .int 0, .int 0, .int 0, .ref (ax 16), .ref (ax 17), .ref (ax 18), .ref (ax 19), .ref (ax 20)])), (ax 4, .inr (6, [.int 0, .int 0, .int 0, .long 0, .ref (ax 21), .ref (ax 22), .ref (ax 23), .ref (ax 24)])), (y0, .inr (9, [.int 0, .ref (ay 0), .ref (ay 1), .ref (ay 2), .ref (ay 3), .int 0, .ref (ay 4), .int 0, .int 0, .int 0, .int 0, .int 0, .int 0, .int (-1), .ref (ay 5), .ref (ay 6), .int 0, .int 0, .int 0, .ref (ay 7), .ref (ay 8), .ref (ay 9), .ref (ay 10), .ref (ay 11), .ref (ay 12), .int 0, .int 0, .int 0, .int 0, .int 0, .int 0, .int 0, .int 0, .int 0, .ref (ay 13), .long 0, .long 0, .long 0, .ref (ay 14), .ref (ay 15), .ref (ay 16), .ref (ay 17)])), (ay 0, .inl (cs 1, 76, .inl (fun _ => 0))), (ay 6, .inl (cs 1, 3, .inl (fun _ => 0)))]) [0, 9, 16, 62, 63, 69] rfl
  replace hD := hD.sub (ws' := [(x0, .inr (8, [.ref (ax 0), .ref (ax 1), .ref (ax 2), .ref (ax 3), .ref (ax 4), .ref (ax 5), .ref (ax 6), .ref (ax 7), .ref (ax 8), .ref (ax 9)])), (ax 2, .inr (0, [.int 0, .int 0, .int 0, .int 0, .int 0, .int 0, .int 0, .int 0, .int 0, .int 0, .ref (ax 16), .ref (ax 17), .ref (ax 18), .ref (ax 19), .ref (ax 20)])), (ax 4, .inr (6, [.int 0, .int 0, .int 0, .long 0, .ref (ax 21), .ref (ax 22), .ref (ax 23), .ref (ax 24)])), (y0, .inr (9, [.int 0, .ref (ay 0), .ref (ay 1), .ref (ay 2), .ref (ay 3), .int 0, .ref (ay 4), .int 0, .int 0, .int 0, .int 0, .int 0, .int 0, .int (-1), .ref (ay 5), .ref (ay 6), .int 0, .int 0, .int 0, .ref (ay 7), .ref (ay 8), .ref (ay 9), .ref (ay 10), .ref (ay 11), .ref (ay 12), .int 0, .int 0, .int 0, .int 0, .int 0, .int 0, .int 0, .int 0, .int 0, .ref (ay 13), .long 0, .long 0, .long 0, .ref (ay 14), .ref (ay 15), .ref (ay 16), .ref (ay 17)])), (ay 0, .inl (cs 1, 76, .inl (fun _ => 0))), (ay 6, .inl (cs 1, 3, .inl (fun _ => 0)))]) [0, 9, 16, 62, 63, 69] (by decide) rfl
  refine lv_aload_n hx hb dL_law_1365 rfl (lv_at hl 2 rfl) ?_
  refine lv_aload_n hx hb dL_law_1366 rfl (lv_at hl 3 rfl) ?_
  refine lv_iload_n hx hb dL_law_1367 rfl (lv_at hl 0 rfl) ?_
  refine lv_iconst (v := 1) hx hb dL_law_1368 (by decide) ?_
  refine lv_iadd hx hb dL_law_1369 ?_
  refine cf_i 1 (by decide) ?_
  refine va_sld hx hb hX hbl hbA hS (vp_c (by decide)) dL_law_1370 ?_
  refine cf_v (.int (xs 1)) rfl ?_
  refine aft_i (wr := [(y0, .inr (9, [.int 0, .ref (ay 0), .ref (ay 1), .ref (ay 2), .ref (ay 3), .int 0, .ref (ay 4), .int 0, .int 0, .int 0, .int 0, .int 0, .int 0, .int (-1), .ref (ay 5), .ref (ay 6), .int 0, .int 0, .int 0, .ref (ay 7), .ref (ay 8), .ref (ay 9), .ref (ay 10), .ref (ay 11), .ref (ay 12), .int 0, .int 0, .int 0, .int 0, .int 0, .int 0, .int 0, .int 0, .int 0, .ref (ay 13), .long 0, .long 0, .long 0, .ref (ay 14), .ref (ay 15), .ref (ay 16), .ref (ay 17)])), (ay 0, .inl (cs 1, 76, .inl (fun _ => 0))), (ay 6, .inl (cs 1, 3, .inl (fun _ => 0)))]) hP hD hS hA [0, 1, 2] [3, 4, 5] rfl rfl (by decide) (by decide) (run_v (As := [.int (xs 1)]) (rest := []) hFix hK hE hP hD [0, 1, 2] (k_X8_fewest l D cs _ x0 (xs 1) (ax 0) (ax 1) (ax 2) (ax 3) (ax 4) (ax 5) (ax 6) (ax 7) (ax 8) (ax 9) (ax 16) (ax 17) (ax 18) (ax 19) (ax 20) (ax 21) (ax 22) (ax 23) (ax 24)) (cwV 1 hts gl_166_X8_fewest rfl rfl rfl (by decide +kernel) ⟨Nat.le_of_ble_eq_true rfl, Nat.le_of_ble_eq_true rfl⟩) rfl (by decide) rfl rfl rfl hl.1 rfl (Nat.le_of_ble_eq_true rfl) dL_law_1371 ⟨Nat.le_of_ble_eq_true rfl, Nat.le_of_ble_eq_true rfl⟩) (fun r_1 u_1 H locs hq_1 hP hD hS => ?_)
  have hP : va_P D vwCl [(y0, .inr (9, [.int 0, .ref (ay 0), .ref (ay 1), .ref (ay 2), .ref (ay 3), .int 0, .ref (ay 4), .int 0, .int 0, .int 0, .int 0, .int 0, .int 0, .int (-1), .ref (ay 5), .ref (ay 6), .int 0, .int 0, .int 0, .ref (ay 7), .ref (ay 8), .ref (ay 9), .ref (ay 10), .ref (ay 11), .ref (ay 12), .int 0, .int 0, .int 0, .int 0, .int 0, .int 0, .int 0, .int 0, .int 0, .ref (ay 13), .long 0, .long 0, .long 0, .ref (ay 14), .ref (ay 15), .ref (ay 16), .ref (ay 17)])), (ay 0, .inl (cs 1, 76, .inl (fun _ => 0))), (ay 6, .inl (cs 1, 3, .inl (fun _ => 0)))] H := hP
  have hD : va_D (fun q : Nat => s.heap.size ≤ q) [(y0, .inr (9, [.int 0, .ref (ay 0), .ref (ay 1), .ref (ay 2), .ref (ay 3), .int 0, .ref (ay 4), .int 0, .int 0, .int 0, .int 0, .int 0, .int 0, .int (-1), .ref (ay 5), .ref (ay 6), .int 0, .int 0, .int 0, .ref (ay 7), .ref (ay 8), .ref (ay 9), .ref (ay 10), .ref (ay 11), .ref (ay 12), .int 0, .int 0, .int 0, .int 0, .int 0, .int 0, .int 0, .int 0, .int 0, .ref (ay 13), .long 0, .long 0, .long 0, .ref (ay 14), .ref (ay 15), .ref (ay 16), .ref (ay 17)])), (ay 0, .inl (cs 1, 76, .inl (fun _ => 0))), (ay 6, .inl (cs 1, 3, .inl (fun _ => 0)))] := hD
  replace hq_1 : r_1 = (-2) := hq_1
  subst hq_1
  refine lv_aload_n hx hb dL_law_1374 rfl (lv_at hl 1 rfl) ?_
  refine lv_aload_n hx hb dL_law_1375 rfl (lv_at hl 3 rfl) ?_
  refine lv_iload_n hx hb dL_law_1376 rfl (lv_at hl 0 rfl) ?_
  refine lv_iconst (v := 1) hx hb dL_law_1377 (by decide) ?_
  refine lv_iadd hx hb dL_law_1378 ?_
  refine cf_i 1 (by decide) ?_
  refine va_sld hx hb hX hbl hbA hS (vp_c (by decide)) dL_law_1379 ?_
  refine cf_v (.int (xs 1)) rfl ?_
  refine aft_i (wr := []) hP hD hS hA [0, 1, 2] [] rfl rfl (by decide) (by decide) (run_v (As := [.int (xs 1)]) (rest := [.int (-2)]) hFix hK hE hP hD [0, 1, 2] (k_X9_fewest l D cs _ y0 (xs 1) (ay 0) (ay 1) (ay 2) (ay 3) (ay 4) (ay 5) (ay 6) (ay 7) (ay 8) (ay 9) (ay 10) (ay 11) (ay 12) (ay 13) (ay 14) (ay 15) (ay 16) (ay 17)) (cwV 1 hts gl_169_X9_fewest rfl rfl rfl (by decide +kernel) ⟨Nat.le_of_ble_eq_true rfl, Nat.le_of_ble_eq_true rfl⟩) rfl (by decide) rfl rfl rfl hl.1 rfl (Nat.le_of_ble_eq_true rfl) dL_law_1380 ⟨Nat.le_of_ble_eq_true rfl, Nat.le_of_ble_eq_true rfl⟩) (fun r_2 u_2 H locs hq_2 hP hD hS => ?_)
  replace hq_2 : r_2 = (-2) := hq_2
  subst hq_2
  refine lv_icmp_eq (tgt := 2473) hx hb dL_law_1383 (by decide) (fun _ => ?_) (fun h9 => absurd h9 (by decide))
  exact law_end l C0 hS (lv_sub hl [0, 3] rfl) (Nat.le_of_ble_eq_true rfl) (Nat.le_of_ble_eq_true rfl)

set_option maxHeartbeats 4000000 in
set_option maxRecDepth 100000 in
theorem law_case_38 {p : Program} {e : Env} {s : State} {m : MethodId} {below : List Frame} {meth : Method} {c : Code} (l : Launch) {b : Nat} {xs : Nat → Int32} (C0 : lw_At p s m meth c b 6 xs) {D : va_G} {cs : Nat → ClassId} (hK : va_K D vwCl (mtyA cs) s) (hE : mEnv s) {x0 y0 : Nat} {ax ay : Nat → Nat} {H : Heap} {locs : List Loc} {ls : Array Slot} (hP : va_P D vwCl (lawW cs x0 ax y0 ay) H) (hD : va_D (fun q : Nat => s.heap.size ≤ q) (lawW cs x0 ax y0 ay)) (hS : va_S (fun q : Nat => s.heap.size ≤ q) s.heap H locs) (hl : lv_has ls 4 [(3, .int 0), (2, .ref y0), (1, .ref x0), (0, .ref b)]) : W p l e room_1 s m #[Value.ref b] below meth c H locs 81 7838 (lw_Z below #[Value.ref b] s) (F0 m 1388 ls []) := by
  obtain ⟨hx, hb, hr, hml, hown, hts, hX, hbl, hlocks, hgv⟩ := id C0
  have hA : ∀ q : Nat, s.heap.size ≤ q → (fun q : Nat => s.heap.size ≤ q) q := fun _ h => h
  have hbA : ¬ (fun q : Nat => s.heap.size ≤ q) b := Nat.not_le.mpr hbl
  have hFix := (⟨hx, hb, hml, hown, hts⟩ : CallFix p m c _ _ s #[Value.ref b] lw_tbl RL)
  replace hP := hP.sub (ws' := [(x0, .inr (8, [.ref (ax 0), .ref (ax 1), .ref (ax 2), .ref (ax 3), .ref (ax 4), .ref (ax 5), .ref (ax 6), .ref (ax 7), .ref (ax 8), .ref (ax 9)])), (ax 2, .inr (0, [.int 0, .int 0, .int 0, .int 0, .int 0, .int 0, .int 0, .int 0, .int 0, .int 0, .ref (ax 16), .ref (ax 17), .ref (ax 18), .ref (ax 19), .ref (ax 20)])), (ax 4, .inr (6, [.int 0, .int 0, .int 0, .long 0, .ref (ax 21), .ref (ax 22), .ref (ax 23), .ref (ax 24)])), (y0, .inr (9, [.int 0, .ref (ay 0), .ref (ay 1), .ref (ay 2), .ref (ay 3), .int 0, .ref (ay 4), .int 0, .int 0, .int 0, .int 0, .int 0, .int 0, .int (-1), .ref (ay 5), .ref (ay 6), .int 0, .int 0, .int 0, .ref (ay 7), .ref (ay 8), .ref (ay 9), .ref (ay 10), .ref (ay 11), .ref (ay 12), .int 0, .int 0, .int 0, .int 0, .int 0, .int 0, .int 0, .int 0, .int 0, .ref (ay 13), .long 0, .long 0, .long 0, .ref (ay 14), .ref (ay 15), .ref (ay 16), .ref (ay 17)])), (ay 0, .inl (cs 1, 76, .inl (fun _ => 0))), (ay 6, .inl (cs 1, 3, .inl (fun _ => 0)))]) [0, 9, 16, 62, 63, 69] rfl
  replace hD := hD.sub (ws' := [(x0, .inr (8, [.ref (ax 0), .ref (ax 1), .ref (ax 2), .ref (ax 3), .ref (ax 4), .ref (ax 5), .ref (ax 6), .ref (ax 7), .ref (ax 8), .ref (ax 9)])), (ax 2, .inr (0, [.int 0, .int 0, .int 0, .int 0, .int 0, .int 0, .int 0, .int 0, .int 0, .int 0, .ref (ax 16), .ref (ax 17), .ref (ax 18), .ref (ax 19), .ref (ax 20)])), (ax 4, .inr (6, [.int 0, .int 0, .int 0, .long 0, .ref (ax 21), .ref (ax 22), .ref (ax 23), .ref (ax 24)])), (y0, .inr (9, [.int 0, .ref (ay 0), .ref (ay 1), .ref (ay 2), .ref (ay 3), .int 0, .ref (ay 4), .int 0, .int 0, .int 0, .int 0, .int 0, .int 0, .int (-1), .ref (ay 5), .ref (ay 6), .int 0, .int 0, .int 0, .ref (ay 7), .ref (ay 8), .ref (ay 9), .ref (ay 10), .ref (ay 11), .ref (ay 12), .int 0, .int 0, .int 0, .int 0, .int 0, .int 0, .int 0, .int 0, .int 0, .ref (ay 13), .long 0, .long 0, .long 0, .ref (ay 14), .ref (ay 15), .ref (ay 16), .ref (ay 17)])), (ay 0, .inl (cs 1, 76, .inl (fun _ => 0))), (ay 6, .inl (cs 1, 3, .inl (fun _ => 0)))]) [0, 9, 16, 62, 63, 69] (by decide) rfl
  refine lv_aload_n hx hb dL_law_1388 rfl (lv_at hl 2 rfl) ?_
  refine lv_aload_n hx hb dL_law_1389 rfl (lv_at hl 3 rfl) ?_
  refine lv_iload_n hx hb dL_law_1390 rfl (lv_at hl 0 rfl) ?_
  refine lv_iconst (v := 1) hx hb dL_law_1391 (by decide) ?_
  refine lv_iadd hx hb dL_law_1392 ?_
  refine cf_i 1 (by decide) ?_
  refine va_sld hx hb hX hbl hbA hS (vp_c (by decide)) dL_law_1393 ?_
  refine cf_v (.int (xs 1)) rfl ?_
  refine aft_i (wr := [(y0, .inr (9, [.int 0, .ref (ay 0), .ref (ay 1), .ref (ay 2), .ref (ay 3), .int 0, .ref (ay 4), .int 0, .int 0, .int 0, .int 0, .int 0, .int 0, .int (-1), .ref (ay 5), .ref (ay 6), .int 0, .int 0, .int 0, .ref (ay 7), .ref (ay 8), .ref (ay 9), .ref (ay 10), .ref (ay 11), .ref (ay 12), .int 0, .int 0, .int 0, .int 0, .int 0, .int 0, .int 0, .int 0, .int 0, .ref (ay 13), .long 0, .long 0, .long 0, .ref (ay 14), .ref (ay 15), .ref (ay 16), .ref (ay 17)])), (ay 0, .inl (cs 1, 76, .inl (fun _ => 0))), (ay 6, .inl (cs 1, 3, .inl (fun _ => 0)))]) hP hD hS hA [0, 1, 2] [3, 4, 5] rfl rfl (by decide) (by decide) (run_v (As := [.int (xs 1)]) (rest := []) hFix hK hE hP hD [0, 1, 2] (k_X8_locks l D cs _ x0 (xs 1) (ax 0) (ax 1) (ax 2) (ax 3) (ax 4) (ax 5) (ax 6) (ax 7) (ax 8) (ax 9) (ax 16) (ax 17) (ax 18) (ax 19) (ax 20) (ax 21) (ax 22) (ax 23) (ax 24)) (cwV 1 hts gl_170_X8_locks rfl rfl rfl (by decide +kernel) ⟨Nat.le_of_ble_eq_true rfl, Nat.le_of_ble_eq_true rfl⟩) rfl (by decide) rfl rfl rfl hl.1 rfl (Nat.le_of_ble_eq_true rfl) dL_law_1394 ⟨Nat.le_of_ble_eq_true rfl, Nat.le_of_ble_eq_true rfl⟩) (fun r_1 u_1 H locs hq_1 hP hD hS => ?_)
  have hP : va_P D vwCl [(y0, .inr (9, [.int 0, .ref (ay 0), .ref (ay 1), .ref (ay 2), .ref (ay 3), .int 0, .ref (ay 4), .int 0, .int 0, .int 0, .int 0, .int 0, .int 0, .int (-1), .ref (ay 5), .ref (ay 6), .int 0, .int 0, .int 0, .ref (ay 7), .ref (ay 8), .ref (ay 9), .ref (ay 10), .ref (ay 11), .ref (ay 12), .int 0, .int 0, .int 0, .int 0, .int 0, .int 0, .int 0, .int 0, .int 0, .ref (ay 13), .long 0, .long 0, .long 0, .ref (ay 14), .ref (ay 15), .ref (ay 16), .ref (ay 17)])), (ay 0, .inl (cs 1, 76, .inl (fun _ => 0))), (ay 6, .inl (cs 1, 3, .inl (fun _ => 0)))] H := hP
  have hD : va_D (fun q : Nat => s.heap.size ≤ q) [(y0, .inr (9, [.int 0, .ref (ay 0), .ref (ay 1), .ref (ay 2), .ref (ay 3), .int 0, .ref (ay 4), .int 0, .int 0, .int 0, .int 0, .int 0, .int 0, .int (-1), .ref (ay 5), .ref (ay 6), .int 0, .int 0, .int 0, .ref (ay 7), .ref (ay 8), .ref (ay 9), .ref (ay 10), .ref (ay 11), .ref (ay 12), .int 0, .int 0, .int 0, .int 0, .int 0, .int 0, .int 0, .int 0, .int 0, .ref (ay 13), .long 0, .long 0, .long 0, .ref (ay 14), .ref (ay 15), .ref (ay 16), .ref (ay 17)])), (ay 0, .inl (cs 1, 76, .inl (fun _ => 0))), (ay 6, .inl (cs 1, 3, .inl (fun _ => 0)))] := hD
  replace hq_1 : r_1 = (-2) := hq_1
  subst hq_1
  refine lv_aload_n hx hb dL_law_1397 rfl (lv_at hl 1 rfl) ?_
  refine lv_aload_n hx hb dL_law_1398 rfl (lv_at hl 3 rfl) ?_
  refine lv_iload_n hx hb dL_law_1399 rfl (lv_at hl 0 rfl) ?_
  refine lv_iconst (v := 1) hx hb dL_law_1400 (by decide) ?_
  refine lv_iadd hx hb dL_law_1401 ?_
  refine cf_i 1 (by decide) ?_
  refine va_sld hx hb hX hbl hbA hS (vp_c (by decide)) dL_law_1402 ?_
  refine cf_v (.int (xs 1)) rfl ?_
  refine aft_i (wr := []) hP hD hS hA [0, 1, 2] [] rfl rfl (by decide) (by decide) (run_v (As := [.int (xs 1)]) (rest := [.int (-2)]) hFix hK hE hP hD [0, 1, 2] (k_X9_locks l D cs _ y0 (xs 1) (ay 0) (ay 1) (ay 2) (ay 3) (ay 4) (ay 5) (ay 6) (ay 7) (ay 8) (ay 9) (ay 10) (ay 11) (ay 12) (ay 13) (ay 14) (ay 15) (ay 16) (ay 17)) (cwV 1 hts gl_173_X9_locks rfl rfl rfl (by decide +kernel) ⟨Nat.le_of_ble_eq_true rfl, Nat.le_of_ble_eq_true rfl⟩) rfl (by decide) rfl rfl rfl hl.1 rfl (Nat.le_of_ble_eq_true rfl) dL_law_1403 ⟨Nat.le_of_ble_eq_true rfl, Nat.le_of_ble_eq_true rfl⟩) (fun r_2 u_2 H locs hq_2 hP hD hS => ?_)
  replace hq_2 : r_2 = (-2) := hq_2
  subst hq_2
  refine lv_icmp_eq (tgt := 2473) hx hb dL_law_1406 (by decide) (fun _ => ?_) (fun h9 => absurd h9 (by decide))
  exact law_end l C0 hS (lv_sub hl [0, 3] rfl) (Nat.le_of_ble_eq_true rfl) (Nat.le_of_ble_eq_true rfl)

set_option maxHeartbeats 4000000 in
set_option maxRecDepth 100000 in
theorem law_case_39 {p : Program} {e : Env} {s : State} {m : MethodId} {below : List Frame} {meth : Method} {c : Code} (l : Launch) {b : Nat} {xs : Nat → Int32} (C0 : lw_At p s m meth c b 6 xs) {D : va_G} {cs : Nat → ClassId} (hK : va_K D vwCl (mtyA cs) s) (hE : mEnv s) {x0 y0 : Nat} {ax ay : Nat → Nat} {H : Heap} {locs : List Loc} {ls : Array Slot} (hP : va_P D vwCl (lawW cs x0 ax y0 ay) H) (hD : va_D (fun q : Nat => s.heap.size ≤ q) (lawW cs x0 ax y0 ay)) (hS : va_S (fun q : Nat => s.heap.size ≤ q) s.heap H locs) (hl : lv_has ls 4 [(3, .int 0), (2, .ref y0), (1, .ref x0), (0, .ref b)]) : W p l e room_1 s m #[Value.ref b] below meth c H locs 81 7838 (lw_Z below #[Value.ref b] s) (F0 m 1411 ls []) := by
  obtain ⟨hx, hb, hr, hml, hown, hts, hX, hbl, hlocks, hgv⟩ := id C0
  have hA : ∀ q : Nat, s.heap.size ≤ q → (fun q : Nat => s.heap.size ≤ q) q := fun _ h => h
  have hbA : ¬ (fun q : Nat => s.heap.size ≤ q) b := Nat.not_le.mpr hbl
  have hFix := (⟨hx, hb, hml, hown, hts⟩ : CallFix p m c _ _ s #[Value.ref b] lw_tbl RL)
  replace hP := hP.sub (ws' := [(x0, .inr (8, [.ref (ax 0), .ref (ax 1), .ref (ax 2), .ref (ax 3), .ref (ax 4), .ref (ax 5), .ref (ax 6), .ref (ax 7), .ref (ax 8), .ref (ax 9)])), (ax 2, .inr (0, [.int 0, .int 0, .int 0, .int 0, .int 0, .int 0, .int 0, .int 0, .int 0, .int 0, .ref (ax 16), .ref (ax 17), .ref (ax 18), .ref (ax 19), .ref (ax 20)])), (ax 4, .inr (6, [.int 0, .int 0, .int 0, .long 0, .ref (ax 21), .ref (ax 22), .ref (ax 23), .ref (ax 24)])), (y0, .inr (9, [.int 0, .ref (ay 0), .ref (ay 1), .ref (ay 2), .ref (ay 3), .int 0, .ref (ay 4), .int 0, .int 0, .int 0, .int 0, .int 0, .int 0, .int (-1), .ref (ay 5), .ref (ay 6), .int 0, .int 0, .int 0, .ref (ay 7), .ref (ay 8), .ref (ay 9), .ref (ay 10), .ref (ay 11), .ref (ay 12), .int 0, .int 0, .int 0, .int 0, .int 0, .int 0, .int 0, .int 0, .int 0, .ref (ay 13), .long 0, .long 0, .long 0, .ref (ay 14), .ref (ay 15), .ref (ay 16), .ref (ay 17)])), (ay 0, .inl (cs 1, 76, .inl (fun _ => 0))), (ay 6, .inl (cs 1, 3, .inl (fun _ => 0)))]) [0, 9, 16, 62, 63, 69] rfl
  replace hD := hD.sub (ws' := [(x0, .inr (8, [.ref (ax 0), .ref (ax 1), .ref (ax 2), .ref (ax 3), .ref (ax 4), .ref (ax 5), .ref (ax 6), .ref (ax 7), .ref (ax 8), .ref (ax 9)])), (ax 2, .inr (0, [.int 0, .int 0, .int 0, .int 0, .int 0, .int 0, .int 0, .int 0, .int 0, .int 0, .ref (ax 16), .ref (ax 17), .ref (ax 18), .ref (ax 19), .ref (ax 20)])), (ax 4, .inr (6, [.int 0, .int 0, .int 0, .long 0, .ref (ax 21), .ref (ax 22), .ref (ax 23), .ref (ax 24)])), (y0, .inr (9, [.int 0, .ref (ay 0), .ref (ay 1), .ref (ay 2), .ref (ay 3), .int 0, .ref (ay 4), .int 0, .int 0, .int 0, .int 0, .int 0, .int 0, .int (-1), .ref (ay 5), .ref (ay 6), .int 0, .int 0, .int 0, .ref (ay 7), .ref (ay 8), .ref (ay 9), .ref (ay 10), .ref (ay 11), .ref (ay 12), .int 0, .int 0, .int 0, .int 0, .int 0, .int 0, .int 0, .int 0, .int 0, .ref (ay 13), .long 0, .long 0, .long 0, .ref (ay 14), .ref (ay 15), .ref (ay 16), .ref (ay 17)])), (ay 0, .inl (cs 1, 76, .inl (fun _ => 0))), (ay 6, .inl (cs 1, 3, .inl (fun _ => 0)))]) [0, 9, 16, 62, 63, 69] (by decide) rfl
  refine lv_aload_n hx hb dL_law_1411 rfl (lv_at hl 2 rfl) ?_
  refine lv_aload_n hx hb dL_law_1412 rfl (lv_at hl 3 rfl) ?_
  refine lv_iload_n hx hb dL_law_1413 rfl (lv_at hl 0 rfl) ?_
  refine lv_iconst (v := 1) hx hb dL_law_1414 (by decide) ?_
  refine lv_iadd hx hb dL_law_1415 ?_
  refine cf_i 1 (by decide) ?_
  refine va_sld hx hb hX hbl hbA hS (vp_c (by decide)) dL_law_1416 ?_
  refine cf_v (.int (xs 1)) rfl ?_
  refine aft_i (wr := [(y0, .inr (9, [.int 0, .ref (ay 0), .ref (ay 1), .ref (ay 2), .ref (ay 3), .int 0, .ref (ay 4), .int 0, .int 0, .int 0, .int 0, .int 0, .int 0, .int (-1), .ref (ay 5), .ref (ay 6), .int 0, .int 0, .int 0, .ref (ay 7), .ref (ay 8), .ref (ay 9), .ref (ay 10), .ref (ay 11), .ref (ay 12), .int 0, .int 0, .int 0, .int 0, .int 0, .int 0, .int 0, .int 0, .int 0, .ref (ay 13), .long 0, .long 0, .long 0, .ref (ay 14), .ref (ay 15), .ref (ay 16), .ref (ay 17)])), (ay 0, .inl (cs 1, 76, .inl (fun _ => 0))), (ay 6, .inl (cs 1, 3, .inl (fun _ => 0)))]) hP hD hS hA [0, 1, 2] [3, 4, 5] rfl rfl (by decide) (by decide) (run_v (As := [.int (xs 1)]) (rest := []) hFix hK hE hP hD [0, 1, 2] (k_X8_needed l D cs _ x0 (xs 1) (ax 0) (ax 1) (ax 2) (ax 3) (ax 4) (ax 5) (ax 6) (ax 7) (ax 8) (ax 9) (ax 16) (ax 17) (ax 18) (ax 19) (ax 20) (ax 21) (ax 22) (ax 23) (ax 24)) (cwV 1 hts gl_174_X8_needed rfl rfl rfl (by decide +kernel) ⟨Nat.le_of_ble_eq_true rfl, Nat.le_of_ble_eq_true rfl⟩) rfl (by decide) rfl rfl rfl hl.1 rfl (Nat.le_of_ble_eq_true rfl) dL_law_1417 ⟨Nat.le_of_ble_eq_true rfl, Nat.le_of_ble_eq_true rfl⟩) (fun r_1 u_1 H locs hq_1 hP hD hS => ?_)
  have hP : va_P D vwCl [(y0, .inr (9, [.int 0, .ref (ay 0), .ref (ay 1), .ref (ay 2), .ref (ay 3), .int 0, .ref (ay 4), .int 0, .int 0, .int 0, .int 0, .int 0, .int 0, .int (-1), .ref (ay 5), .ref (ay 6), .int 0, .int 0, .int 0, .ref (ay 7), .ref (ay 8), .ref (ay 9), .ref (ay 10), .ref (ay 11), .ref (ay 12), .int 0, .int 0, .int 0, .int 0, .int 0, .int 0, .int 0, .int 0, .int 0, .ref (ay 13), .long 0, .long 0, .long 0, .ref (ay 14), .ref (ay 15), .ref (ay 16), .ref (ay 17)])), (ay 0, .inl (cs 1, 76, .inl (fun _ => 0))), (ay 6, .inl (cs 1, 3, .inl (fun _ => 0)))] H := hP
  have hD : va_D (fun q : Nat => s.heap.size ≤ q) [(y0, .inr (9, [.int 0, .ref (ay 0), .ref (ay 1), .ref (ay 2), .ref (ay 3), .int 0, .ref (ay 4), .int 0, .int 0, .int 0, .int 0, .int 0, .int 0, .int (-1), .ref (ay 5), .ref (ay 6), .int 0, .int 0, .int 0, .ref (ay 7), .ref (ay 8), .ref (ay 9), .ref (ay 10), .ref (ay 11), .ref (ay 12), .int 0, .int 0, .int 0, .int 0, .int 0, .int 0, .int 0, .int 0, .int 0, .ref (ay 13), .long 0, .long 0, .long 0, .ref (ay 14), .ref (ay 15), .ref (ay 16), .ref (ay 17)])), (ay 0, .inl (cs 1, 76, .inl (fun _ => 0))), (ay 6, .inl (cs 1, 3, .inl (fun _ => 0)))] := hD
  replace hq_1 : r_1 = (-2) := hq_1
  subst hq_1
  refine lv_aload_n hx hb dL_law_1420 rfl (lv_at hl 1 rfl) ?_
  refine lv_aload_n hx hb dL_law_1421 rfl (lv_at hl 3 rfl) ?_
  refine lv_iload_n hx hb dL_law_1422 rfl (lv_at hl 0 rfl) ?_
  refine lv_iconst (v := 1) hx hb dL_law_1423 (by decide) ?_
  refine lv_iadd hx hb dL_law_1424 ?_
  refine cf_i 1 (by decide) ?_
  refine va_sld hx hb hX hbl hbA hS (vp_c (by decide)) dL_law_1425 ?_
  refine cf_v (.int (xs 1)) rfl ?_
  refine aft_i (wr := []) hP hD hS hA [0, 1, 2] [] rfl rfl (by decide) (by decide) (run_v (As := [.int (xs 1)]) (rest := [.int (-2)]) hFix hK hE hP hD [0, 1, 2] (k_X9_needed l D cs _ y0 (xs 1) (ay 0) (ay 1) (ay 2) (ay 3) (ay 4) (ay 5) (ay 6) (ay 7) (ay 8) (ay 9) (ay 10) (ay 11) (ay 12) (ay 13) (ay 14) (ay 15) (ay 16) (ay 17)) (cwV 1 hts gl_177_X9_needed rfl rfl rfl (by decide +kernel) ⟨Nat.le_of_ble_eq_true rfl, Nat.le_of_ble_eq_true rfl⟩) rfl (by decide) rfl rfl rfl hl.1 rfl (Nat.le_of_ble_eq_true rfl) dL_law_1426 ⟨Nat.le_of_ble_eq_true rfl, Nat.le_of_ble_eq_true rfl⟩) (fun r_2 u_2 H locs hq_2 hP hD hS => ?_)
  replace hq_2 : r_2 = (-2) := hq_2
  subst hq_2
  refine lv_icmp_eq (tgt := 2473) hx hb dL_law_1429 (by decide) (fun _ => ?_) (fun h9 => absurd h9 (by decide))
  exact law_end l C0 hS (lv_sub hl [0, 3] rfl) (Nat.le_of_ble_eq_true rfl) (Nat.le_of_ble_eq_true rfl)
