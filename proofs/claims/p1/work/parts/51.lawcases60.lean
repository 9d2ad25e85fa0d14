set_option maxHeartbeats 4000000 in
set_option maxRecDepth 100000 in
theorem law_case_60 {p : Program} {e : Env} {s : State} {m : MethodId} {below : List Frame} {meth : Method} {c : Code} (l : Launch) {b : Nat} {xs : Nat → Int32} (C0 : lw_At p s m meth c b 6 xs) {D : va_G} {cs : Nat → ClassId} (hK : va_K D vwCl (mtyA cs) s) (hE : mEnv s) {x0 y0 : Nat} {ax ay : Nat → Nat} {H : Heap} {locs : List Loc} {ls : Array Slot} (hP : va_P D vwCl (lawW cs x0 ax y0 ay) H) (hD : va_D (fun q : Nat => s.heap.size ≤ q) (lawW cs x0 ax y0 ay)) (hS : va_S (fun q : Nat => s.heap.size ≤ q) s.heap H locs) (hl : lv_has ls 4 [(3, .int 0), (2, .ref y0), (1, .ref x0), (0, .ref b)]) : W p l e room_1 s m #[Value.ref b] below meth c H locs 81 7838 (lw_Z below #[Value.ref b] s) (F0 m 1864 ls []) := by
  obtain ⟨hx, hb, hr, hml, hown, hts, hX, hbl, hlocks, hgv⟩ := id C0
  have hA : ∀ q : Nat, s.heap.size ≤ q → (fun q : Nat => s.heap.size ≤ q) q := fun _ h => h
  have hbA : ¬ (fun q : Nat => s.heap.size ≤ q) b := Nat.not_le.mpr hbl
  have hFix := (⟨hx, hb, hml, hown, hts⟩ : CallFix p m c _ _ s #[Value.ref b] lw_tbl RL)
  replace hP := hP.sub (ws' := [(x0, .inr (8, [.ref (ax 0), .ref (ax 1), .ref (ax 2), .ref (ax 3), .ref (ax 4), .ref (ax 5), .ref (ax 6), .ref (ax 7), .ref (ax 8), .ref (ax 9)])), (ax 2, .inr (0, [.int 0, .int 0, .int 0, .int 0, .int 0, .int 0, .int 0, .int 0, .int 0, .int 0, .ref (ax 16), .ref (ax 17), .ref (ax 18), .ref (ax 19), .ref (ax 20)])), (ax 4, .inr (6, [.int 0, .int 0, .int 0, .long 0, .ref (ax 21), .ref (ax 22), .ref (ax 23), .ref (ax 24)])), (y0, .inr (9, [.int 0, .ref (ay 0), .ref (ay 1), .ref (ay 2), .ref (ay 3), .int 0, .ref (ay 4), .int 0, .int 0, .int 0, .int 0, .int 0, .int 0, .int (-1), .ref (ay 5), .ref (ay 6), .int 0, .int 0, .int 0, .ref (ay 7), .ref (ay 8), .ref (ay 9), .ref (ay 10), .ref (ay 11), .ref (ay 12), .int 0, .int 0, .int 0, .int 0, .int 0, .int 0, .int 0, .int 0, .int 0, .ref (ay 13), .long 0, .long 0, .long 0, .ref (ay 14), .ref (ay 15), .ref (ay 16), .ref (ay 17)])), (ay 0, .inl (cs 1, 76, .inl (fun _ => 0))), (ay 6, .inl (cs 1, 3, .inl (fun _ => 0)))]) [0, 9, 16, 62, 63, 69] rfl
  replace hD := hD.sub (ws' := [(x0, .inr (8, [.ref (ax 0), .ref (ax 1), .ref (ax 2), .ref (ax 3), .ref (ax 4), .ref (ax 5), .ref (ax 6), .ref (ax 7), .ref (ax 8), .ref (ax 9)])), (ax 2, .inr (0, [.int 0, .int 0, .int 0, .int 0, .int 0, .int 0, .int 0, .int 0, .int 0, .int 0, .ref (ax 16), .ref (ax 17), .ref (ax 18), .ref (ax 19), .ref (ax 20)])), (ax 4, .inr (6, [.int 0, .int 0, .int 0, .long 0, .ref (ax 21), .ref (ax 22), .ref (ax 23), .ref (ax 24)])), (y0, .inr (9, [.int 0, .ref (ay 0), .ref (ay 1), .ref (ay 2), .ref (ay 3), .int 0, .ref (ay 4), .int 0, .int 0, .int 0, .int 0, .int 0, .int 0, .int (-1), .ref (ay 5), .ref (ay 6), .int 0, .int 0, .int 0, .ref (ay 7), .ref (ay 8), .ref (ay 9), .ref (ay 10), .ref (ay 11), .ref (ay 12), .int 0, .int 0, .int 0, .int 0, .int 0, .int 0, .int 0, .int 0, .int 0, .ref (ay 13), .long 0, .long 0, .long 0, .ref (ay 14), .ref (ay 15), .ref (ay 16), .ref (ay 17)])), (ay 0, .inl (cs 1, 76, .inl (fun _ => 0))), (ay 6, .inl (cs 1, 3, .inl (fun _ => 0)))]) [0, 9, 16, 62, 63, 69] (by decide) rfl
  refine lv_aload_n hx hb dL_law_1864 rfl (lv_at hl 2 rfl) ?_
  refine lv_aload_n hx hb dL_law_1865 rfl (lv_at hl 3 rfl) ?_
  refine lv_iload_n hx hb dL_law_1866 rfl (lv_at hl 0 rfl) ?_
  refine lv_iconst (v := 1) hx hb dL_law_1867 (by decide) ?_
  refine lv_iadd hx hb dL_law_1868 ?_
  refine cf_i 1 (by decide) ?_
  refine va_sld hx hb hX hbl hbA hS (vp_c (by decide)) dL_law_1869 ?_
  refine cf_v (.int (xs 1)) rfl ?_
  refine lv_aload_n hx hb dL_law_1870 rfl (lv_at hl 3 rfl) ?_
  refine lv_iload_n hx hb dL_law_1871 rfl (lv_at hl 0 rfl) ?_
  refine lv_iconst (v := 2) hx hb dL_law_1872 (by decide) ?_
  refine lv_iadd hx hb dL_law_1873 ?_
  refine cf_i 2 (by decide) ?_
  refine va_sld hx hb hX hbl hbA hS (vp_c (by decide)) dL_law_1874 ?_
  refine cf_v (.int (xs 2)) rfl ?_
  refine aft_i (wr := [(y0, .inr (9, [.int 0, .ref (ay 0), .ref (ay 1), .ref (ay 2), .ref (ay 3), .int 0, .ref (ay 4), .int 0, .int 0, .int 0, .int 0, .int 0, .int 0, .int (-1), .ref (ay 5), .ref (ay 6), .int 0, .int 0, .int 0, .ref (ay 7), .ref (ay 8), .ref (ay 9), .ref (ay 10), .ref (ay 11), .ref (ay 12), .int 0, .int 0, .int 0, .int 0, .int 0, .int 0, .int 0, .int 0, .int 0, .ref (ay 13), .long 0, .long 0, .long 0, .ref (ay 14), .ref (ay 15), .ref (ay 16), .ref (ay 17)])), (ay 0, .inl (cs 1, 76, .inl (fun _ => 0))), (ay 6, .inl (cs 1, 3, .inl (fun _ => 0)))]) hP hD hS hA [0, 1, 2] [3, 4, 5] rfl rfl (by decide) (by decide) (run_v (As := [.int (xs 1), .int (xs 2)]) (rest := []) hFix hK hE hP hD [0, 1, 2] (k_X8_share l D cs _ x0 (xs 1) (xs 2) (ax 0) (ax 1) (ax 2) (ax 3) (ax 4) (ax 5) (ax 6) (ax 7) (ax 8) (ax 9) (ax 16) (ax 17) (ax 18) (ax 19) (ax 20) (ax 21) (ax 22) (ax 23) (ax 24)) (cwV 2 hts gl_258_X8_share rfl rfl rfl (by decide +kernel) ⟨Nat.le_of_ble_eq_true rfl, Nat.le_of_ble_eq_true rfl⟩) rfl (by decide) rfl rfl rfl hl.1 rfl (Nat.le_of_ble_eq_true rfl) dL_law_1875 ⟨Nat.le_of_ble_eq_true rfl, Nat.le_of_ble_eq_true rfl⟩) (fun r_1 u_1 H locs hq_1 hP hD hS => ?_)
  have hP : va_P D vwCl [(y0, .inr (9, [.int 0, .ref (ay 0), .ref (ay 1), .ref (ay 2), .ref (ay 3), .int 0, .ref (ay 4), .int 0, .int 0, .int 0, .int 0, .int 0, .int 0, .int (-1), .ref (ay 5), .ref (ay 6), .int 0, .int 0, .int 0, .ref (ay 7), .ref (ay 8), .ref (ay 9), .ref (ay 10), .ref (ay 11), .ref (ay 12), .int 0, .int 0, .int 0, .int 0, .int 0, .int 0, .int 0, .int 0, .int 0, .ref (ay 13), .long 0, .long 0, .long 0, .ref (ay 14), .ref (ay 15), .ref (ay 16), .ref (ay 17)])), (ay 0, .inl (cs 1, 76, .inl (fun _ => 0))), (ay 6, .inl (cs 1, 3, .inl (fun _ => 0)))] H := hP
  have hD : va_D (fun q : Nat => s.heap.size ≤ q) [(y0, .inr (9, [.int 0, .ref (ay 0), .ref (ay 1), .ref (ay 2), .ref (ay 3), .int 0, .ref (ay 4), .int 0, .int 0, .int 0, .int 0, .int 0, .int 0, .int (-1), .ref (ay 5), .ref (ay 6), .int 0, .int 0, .int 0, .ref (ay 7), .ref (ay 8), .ref (ay 9), .ref (ay 10), .ref (ay 11), .ref (ay 12), .int 0, .int 0, .int 0, .int 0, .int 0, .int 0, .int 0, .int 0, .int 0, .ref (ay 13), .long 0, .long 0, .long 0, .ref (ay 14), .ref (ay 15), .ref (ay 16), .ref (ay 17)])), (ay 0, .inl (cs 1, 76, .inl (fun _ => 0))), (ay 6, .inl (cs 1, 3, .inl (fun _ => 0)))] := hD
  replace hq_1 : r_1 = (-1000000) := hq_1
  subst hq_1
  refine lv_aload_n hx hb dL_law_1878 rfl (lv_at hl 1 rfl) ?_
  refine lv_aload_n hx hb dL_law_1879 rfl (lv_at hl 3 rfl) ?_
  refine lv_iload_n hx hb dL_law_1880 rfl (lv_at hl 0 rfl) ?_
  refine lv_iconst (v := 1) hx hb dL_law_1881 (by decide) ?_
  refine lv_iadd hx hb dL_law_1882 ?_
  refine cf_i 1 (by decide) ?_
  refine va_sld hx hb hX hbl hbA hS (vp_c (by decide)) dL_law_1883 ?_
  refine cf_v (.int (xs 1)) rfl ?_
  refine lv_aload_n hx hb dL_law_1884 rfl (lv_at hl 3 rfl) ?_
  refine lv_iload_n hx hb dL_law_1885 rfl (lv_at hl 0 rfl) ?_
  refine lv_iconst (v := 2) hx hb dL_law_1886 (by decide) ?_
  refine lv_iadd hx hb dL_law_1887 ?_
  refine cf_i 2 (by decide) ?_
  refine va_sld hx hb hX hbl hbA hS (vp_c (by decide)) dL_law_1888 ?_
  refine cf_v (.int (xs 2)) rfl ?_
  refine aft_i (wr := []) hP hD hS hA [0, 1, 2] [] rfl rfl (by decide) (by decide) (run_v (As := [.int (xs 1), .int (xs 2)]) (rest := [.int (-1000000)]) hFix hK hE hP hD [0, 1, 2] (k_X9_share l D cs _ y0 (xs 1) (xs 2) (ay 0) (ay 1) (ay 2) (ay 3) (ay 4) (ay 5) (ay 6) (ay 7) (ay 8) (ay 9) (ay 10) (ay 11) (ay 12) (ay 13) (ay 14) (ay 15) (ay 16) (ay 17)) (cwV 2 hts gl_261_X9_share rfl rfl rfl (by decide +kernel) ⟨Nat.le_of_ble_eq_true rfl, Nat.le_of_ble_eq_true rfl⟩) rfl (by decide) rfl rfl rfl hl.1 rfl (Nat.le_of_ble_eq_true rfl) dL_law_1889 ⟨Nat.le_of_ble_eq_true rfl, Nat.le_of_ble_eq_true rfl⟩) (fun r_2 u_2 H locs hq_2 hP hD hS => ?_)
  replace hq_2 : r_2 = (-1000000) := hq_2
  subst hq_2
  refine lv_icmp_eq (tgt := 2473) hx hb dL_law_1892 (by decide) (fun _ => ?_) (fun h9 => absurd h9 (by decide))
  exact law_end l C0 hS (lv_sub hl [0, 3] rfl) (Nat.le_of_ble_eq_true rfl) (Nat.le_of_ble_eq_true rfl)

set_option maxHeartbeats 4000000 in
set_option maxRecDepth 100000 in
theorem law_case_61 {p : Program} {e : Env} {s : State} {m : MethodId} {below : List Frame} {meth : Method} {c : Code} (l : Launch) {b : Nat} {xs : Nat → Int32} (C0 : lw_At p s m meth c b 6 xs) {D : va_G} {cs : Nat → ClassId} (hK : va_K D vwCl (mtyA cs) s) (hE : mEnv s) {x0 y0 : Nat} {ax ay : Nat → Nat} {H : Heap} {locs : List Loc} {ls : Array Slot} (hP : va_P D vwCl (lawW cs x0 ax y0 ay) H) (hD : va_D (fun q : Nat => s.heap.size ≤ q) (lawW cs x0 ax y0 ay)) (hS : va_S (fun q : Nat => s.heap.size ≤ q) s.heap H locs) (hl : lv_has ls 4 [(3, .int 0), (2, .ref y0), (1, .ref x0), (0, .ref b)]) : W p l e room_1 s m #[Value.ref b] below meth c H locs 81 7838 (lw_Z below #[Value.ref b] s) (F0 m 1897 ls []) := by
  obtain ⟨hx, hb, hr, hml, hown, hts, hX, hbl, hlocks, hgv⟩ := id C0
  have hA : ∀ q : Nat, s.heap.size ≤ q → (fun q : Nat => s.heap.size ≤ q) q := fun _ h => h
  have hbA : ¬ (fun q : Nat => s.heap.size ≤ q) b := Nat.not_le.mpr hbl
  have hFix := (⟨hx, hb, hml, hown, hts⟩ : CallFix p m c _ _ s #[Value.ref b] lw_tbl RL)
  replace hP := hP.sub (ws' := [(x0, .inr (8, [.ref (ax 0), .ref (ax 1), .ref (ax 2), .ref (ax 3), .ref (ax 4), .ref (ax 5), .ref (ax 6), .ref (ax 7), .ref (ax 8), .ref (ax 9)])), (ax 2, .inr (0, [.int 0, .int 0, .int 0, .int 0, .int 0, .int 0, .int 0, .int 0, .int 0, .int 0, .ref (ax 16), .ref (ax 17), .ref (ax 18), .ref (ax 19), .ref (ax 20)])), (ax 4, .inr (6, [.int 0, .int 0, .int 0, .long 0, .ref (ax 21), .ref (ax 22), .ref (ax 23), .ref (ax 24)])), (y0, .inr (9, [.int 0, .ref (ay 0), .ref (ay 1), .ref (ay 2), .ref (ay 3), .int 0, .ref (ay 4), .int 0, .int 0, .int 0, .int 0, .int 0, .int 0, .int (-1), .ref (ay 5), .ref (ay 6), .int 0, .int 0, .int 0, .ref (ay 7), .ref (ay 8), .ref (ay 9), .ref (ay 10), .ref (ay 11), .ref (ay 12), .int 0, .int 0, .int 0, .int 0, .int 0, .int 0, .int 0, .int 0, .int 0, .ref (ay 13), .long 0, .long 0, .long 0, .ref (ay 14), .ref (ay 15), .ref (ay 16), .ref (ay 17)])), (ay 0, .inl (cs 1, 76, .inl (fun _ => 0))), (ay 6, .inl (cs 1, 3, .inl (fun _ => 0)))]) [0, 9, 16, 62, 63, 69] rfl
  replace hD := hD.sub (ws' := [(x0, .inr (8, [.ref (ax 0), .ref (ax 1), .ref (ax 2), .ref (ax 3), .ref (ax 4), .ref (ax 5), .ref (ax 6), .ref (ax 7), .ref (ax 8), .ref (ax 9)])), (ax 2, .inr (0, [.int 0, .int 0, .int 0, .int 0, .int 0, .int 0, .int 0, .int 0, .int 0, .int 0, .ref (ax 16), .ref (ax 17), .ref (ax 18), .ref (ax 19), .ref (ax 20)])), (ax 4, .inr (6, [.int 0, .int 0, .int 0, .long 0, .ref (ax 21), .ref (ax 22), .ref (ax 23), .ref (ax 24)])), (y0, .inr (9, [.int 0, .ref (ay 0), .ref (ay 1), .ref (ay 2), .ref (ay 3), .int 0, .ref (ay 4), .int 0, .int 0, .int 0, .int 0, .int 0, .int 0, .int (-1), .ref (ay 5), .ref (ay 6), .int 0, .int 0, .int 0, .ref (ay 7), .ref (ay 8), .ref (ay 9), .ref (ay 10), .ref (ay 11), .ref (ay 12), .int 0, .int 0, .int 0, .int 0, .int 0, .int 0, .int 0, .int 0, .int 0, .ref (ay 13), .long 0, .long 0, .long 0, .ref (ay 14), .ref (ay 15), .ref (ay 16), .ref (ay 17)])), (ay 0, .inl (cs 1, 76, .inl (fun _ => 0))), (ay 6, .inl (cs 1, 3, .inl (fun _ => 0)))]) [0, 9, 16, 62, 63, 69] (by decide) rfl
  refine lv_aload_n hx hb dL_law_1897 rfl (lv_at hl 2 rfl) ?_
  refine lv_aload_n hx hb dL_law_1898 rfl (lv_at hl 3 rfl) ?_
  refine lv_iload_n hx hb dL_law_1899 rfl (lv_at hl 0 rfl) ?_
  refine lv_iconst (v := 1) hx hb dL_law_1900 (by decide) ?_
  refine lv_iadd hx hb dL_law_1901 ?_
  refine cf_i 1 (by decide) ?_
  refine va_sld hx hb hX hbl hbA hS (vp_c (by decide)) dL_law_1902 ?_
  refine cf_v (.int (xs 1)) rfl ?_
  refine lv_aload_n hx hb dL_law_1903 rfl (lv_at hl 3 rfl) ?_
  refine lv_iload_n hx hb dL_law_1904 rfl (lv_at hl 0 rfl) ?_
  refine lv_iconst (v := 2) hx hb dL_law_1905 (by decide) ?_
  refine lv_iadd hx hb dL_law_1906 ?_
  refine cf_i 2 (by decide) ?_
  refine va_sld hx hb hX hbl hbA hS (vp_c (by decide)) dL_law_1907 ?_
  refine cf_v (.int (xs 2)) rfl ?_
  refine aft_i (wr := [(y0, .inr (9, [.int 0, .ref (ay 0), .ref (ay 1), .ref (ay 2), .ref (ay 3), .int 0, .ref (ay 4), .int 0, .int 0, .int 0, .int 0, .int 0, .int 0, .int (-1), .ref (ay 5), .ref (ay 6), .int 0, .int 0, .int 0, .ref (ay 7), .ref (ay 8), .ref (ay 9), .ref (ay 10), .ref (ay 11), .ref (ay 12), .int 0, .int 0, .int 0, .int 0, .int 0, .int 0, .int 0, .int 0, .int 0, .ref (ay 13), .long 0, .long 0, .long 0, .ref (ay 14), .ref (ay 15), .ref (ay 16), .ref (ay 17)])), (ay 0, .inl (cs 1, 76, .inl (fun _ => 0))), (ay 6, .inl (cs 1, 3, .inl (fun _ => 0)))]) hP hD hS hA [0, 1, 2] [3, 4, 5] rfl rfl (by decide) (by decide) (run_v (As := [.int (xs 1), .int (xs 2)]) (rest := []) hFix hK hE hP hD [0, 1, 2] (k_X8_rests l D cs _ x0 (xs 1) (xs 2) (ax 0) (ax 1) (ax 2) (ax 3) (ax 4) (ax 5) (ax 6) (ax 7) (ax 8) (ax 9) (ax 16) (ax 17) (ax 18) (ax 19) (ax 20) (ax 21) (ax 22) (ax 23) (ax 24)) (cwV 2 hts gl_262_X8_rests rfl rfl rfl (by decide +kernel) ⟨Nat.le_of_ble_eq_true rfl, Nat.le_of_ble_eq_true rfl⟩) rfl (by decide) rfl rfl rfl hl.1 rfl (Nat.le_of_ble_eq_true rfl) dL_law_1908 ⟨Nat.le_of_ble_eq_true rfl, Nat.le_of_ble_eq_true rfl⟩) (fun r_1 u_1 H locs hq_1 hP hD hS => ?_)
  have hP : va_P D vwCl [(y0, .inr (9, [.int 0, .ref (ay 0), .ref (ay 1), .ref (ay 2), .ref (ay 3), .int 0, .ref (ay 4), .int 0, .int 0, .int 0, .int 0, .int 0, .int 0, .int (-1), .ref (ay 5), .ref (ay 6), .int 0, .int 0, .int 0, .ref (ay 7), .ref (ay 8), .ref (ay 9), .ref (ay 10), .ref (ay 11), .ref (ay 12), .int 0, .int 0, .int 0, .int 0, .int 0, .int 0, .int 0, .int 0, .int 0, .ref (ay 13), .long 0, .long 0, .long 0, .ref (ay 14), .ref (ay 15), .ref (ay 16), .ref (ay 17)])), (ay 0, .inl (cs 1, 76, .inl (fun _ => 0))), (ay 6, .inl (cs 1, 3, .inl (fun _ => 0)))] H := hP
  have hD : va_D (fun q : Nat => s.heap.size ≤ q) [(y0, .inr (9, [.int 0, .ref (ay 0), .ref (ay 1), .ref (ay 2), .ref (ay 3), .int 0, .ref (ay 4), .int 0, .int 0, .int 0, .int 0, .int 0, .int 0, .int (-1), .ref (ay 5), .ref (ay 6), .int 0, .int 0, .int 0, .ref (ay 7), .ref (ay 8), .ref (ay 9), .ref (ay 10), .ref (ay 11), .ref (ay 12), .int 0, .int 0, .int 0, .int 0, .int 0, .int 0, .int 0, .int 0, .int 0, .ref (ay 13), .long 0, .long 0, .long 0, .ref (ay 14), .ref (ay 15), .ref (ay 16), .ref (ay 17)])), (ay 0, .inl (cs 1, 76, .inl (fun _ => 0))), (ay 6, .inl (cs 1, 3, .inl (fun _ => 0)))] := hD
  replace hq_1 : r_1 = (-2) := hq_1
  subst hq_1
  refine lv_aload_n hx hb dL_law_1911 rfl (lv_at hl 1 rfl) ?_
  refine lv_aload_n hx hb dL_law_1912 rfl (lv_at hl 3 rfl) ?_
  refine lv_iload_n hx hb dL_law_1913 rfl (lv_at hl 0 rfl) ?_
  refine lv_iconst (v := 1) hx hb dL_law_1914 (by decide) ?_
  refine lv_iadd hx hb dL_law_1915 ?_
  refine cf_i 1 (by decide) ?_
  refine va_sld hx hb hX hbl hbA hS (vp_c (by decide)) dL_law_1916 ?_
  refine cf_v (.int (xs 1)) rfl ?_
  refine lv_aload_n hx hb dL_law_1917 rfl (lv_at hl 3 rfl) ?_
  refine lv_iload_n hx hb dL_law_1918 rfl (lv_at hl 0 rfl) ?_
  refine lv_iconst (v := 2) hx hb dL_law_1919 (by decide) ?_
  refine lv_iadd hx hb dL_law_1920 ?_
  refine cf_i 2 (by decide) ?_
  refine va_sld hx hb hX hbl hbA hS (vp_c (by decide)) dL_law_1921 ?_
  refine cf_v (.int (xs 2)) rfl ?_
  refine aft_i (wr := []) hP hD hS hA [0, 1, 2] [] rfl rfl (by decide) (by decide) (run_v (As := [.int (xs 1), .int (xs 2)]) (rest := [.int (-2)]) hFix hK hE hP hD [0, 1, 2] (k_X9_rests l D cs _ y0 (xs 1) (xs 2) (ay 0) (ay 1) (ay 2) (ay 3) (ay 4) (ay 5) (ay 6) (ay 7) (ay 8) (ay 9) (ay 10) (ay 11) (ay 12) (ay 13) (ay 14) (ay 15) (ay 16) (ay 17)) (cwV 2 hts gl_265_X9_rests rfl rfl rfl (by decide +kernel) ⟨Nat.le_of_ble_eq_true rfl, Nat.le_of_ble_eq_true rfl⟩) rfl (by decide) rfl rfl rfl hl.1 rfl (Nat.le_of_ble_eq_true rfl) dL_law_1922 ⟨Nat.le_of_ble_eq_true rfl, Nat.le_of_ble_eq_true rfl⟩) (fun r_2 u_2 H locs hq_2 hP hD hS => ?_)
  replace hq_2 : r_2 = (-2) := hq_2
  subst hq_2
  refine lv_icmp_eq (tgt := 2473) hx hb dL_law_1925 (by decide) (fun _ => ?_) (fun h9 => absurd h9 (by decide))
  exact law_end l C0 hS (lv_sub hl [0, 3] rfl) (Nat.le_of_ble_eq_true rfl) (Nat.le_of_ble_eq_true rfl)

set_option maxHeartbeats 4000000 in
set_option maxRecDepth 100000 in
theorem law_case_62 {p : Program} {e : Env} {s : State} {m : MethodId} {below : List Frame} {meth : Method} {c : Code} (l : Launch) {b : Nat} {xs : Nat → Int32} (C0 : lw_At p s m meth c b 6 xs) {D : va_G} {cs : Nat → ClassId} (hK : va_K D vwCl (mtyA cs) s) (hE : mEnv s) {x0 y0 : Nat} {ax ay : Nat → Nat} {H : Heap} {locs : List Loc} {ls : Array Slot} (hP : va_P D vwCl (lawW cs x0 ax y0 ay) H) (hD : va_D (fun q : Nat => s.heap.size ≤ q) (lawW cs x0 ax y0 ay)) (hS : va_S (fun q : Nat => s.heap.size ≤ q) s.heap H locs) (hl : lv_has ls 4 [(3, .int 0), (2, .ref y0), (1, .ref x0), (0, .ref b)]) : W p l e room_1 s m #[Value.ref b] below meth c H locs 81 7838 (lw_Z below #[Value.ref b] s) (F0 m 1930 ls []) := by
  obtain ⟨hx, hb, hr, hml, hown, hts, hX, hbl, hlocks, hgv⟩ := id C0
  have hA : ∀ q : Nat, s.heap.size ≤ q → (fun q : Nat => s.heap.size ≤ q) q := fun _ h => h
  have hbA : ¬ (fun q : Nat => s.heap.size ≤ q) b := Nat.not_le.mpr hbl
  have hFix := (⟨hx, hb, hml, hown, hts⟩ : CallFix p m c _ _ s #[Value.ref b] lw_tbl RL)
  replace hP := hP.sub (ws' := [(x0, .inr (8, [.ref (ax 0), .ref (ax 1), .ref (ax 2), .ref (ax 3), .ref (ax 4), .ref (ax 5), .ref (ax 6), .ref (ax 7), .ref (ax 8), .ref (ax 9)])), (ax 2, .inr (0, [.int 0, .int 0, .int 0, .int 0, .int 0, .int 0, .int 0, .int 0, .int 0, .int 0, .ref (ax 16), .ref (ax 17), .ref (ax 18), .ref (ax 19), .ref (ax 20)])), (ax 4, .inr (6, [.int 0, .int 0, .int 0, .long 0, .ref (ax 21), .ref (ax 22), .ref (ax 23), .ref (ax 24)])), (y0, .inr (9, [.int 0, .ref (ay 0), .ref (ay 1), .ref (ay 2), .ref (ay 3), .int 0, .ref (ay 4), .int 0, .int 0, .int 0, .int 0, .int 0, .int 0, .int (-1), .ref (ay 5), .ref (ay 6), .int 0, .int 0, .int 0, .ref (ay 7), .ref (ay 8), .ref (ay 9), .ref (ay 10), .ref (ay 11), .ref (ay 12), .int 0, .int 0, .int 0, .int 0, .int 0, .int 0, .int 0, .int 0, .int 0, .ref (ay 13), .long 0, .long 0, .long 0, .ref (ay 14), .ref (ay 15), .ref (ay 16), .ref (ay 17)])), (ay 0, .inl (cs 1, 76, .inl (fun _ => 0))), (ay 6, .inl (cs 1, 3, .inl (fun _ => 0)))]) [0, 9, 16, 62, 63, 69] rfl
  replace hD := hD.sub (ws' := [(x0, .inr (8, [.ref (ax 0), .ref (ax 1), .ref (ax 2), .ref (ax 3), .ref (ax 4), .ref (ax 5), .ref (ax 6), .ref (ax 7), .ref (ax 8), .ref (ax 9)])), (ax 2, .inr (0, [.int 0, .int 0, .int 0, .int 0, .int 0, .int 0, .int 0, .int 0, .int 0, .int 0, .ref (ax 16), .ref (ax 17), .ref (ax 18), .ref (ax 19), .ref (ax 20)])), (ax 4, .inr (6, [.int 0, .int 0, .int 0, .long 0, .ref (ax 21), .ref (ax 22), .ref (ax 23), .ref (ax 24)])), (y0, .inr (9, [.int 0, .ref (ay 0), .ref (ay 1), .ref (ay 2), .ref (ay 3), .int 0, .ref (ay 4), .int 0, .int 0, .int 0, .int 0, .int 0, .int 0, .int (-1), .ref (ay 5), .ref (ay 6), .int 0, .int 0, .int 0, .ref (ay 7), .ref (ay 8), .ref (ay 9), .ref (ay 10), .ref (ay 11), .ref (ay 12), .int 0, .int 0, .int 0, .int 0, .int 0, .int 0, .int 0, .int 0, .int 0, .ref (ay 13), .long 0, .long 0, .long 0, .ref (ay 14), .ref (ay 15), .ref (ay 16), .ref (ay 17)])), (ay 0, .inl (cs 1, 76, .inl (fun _ => 0))), (ay 6, .inl (cs 1, 3, .inl (fun _ => 0)))]) [0, 9, 16, 62, 63, 69] (by decide) rfl
  refine lv_aload_n hx hb dL_law_1930 rfl (lv_at hl 2 rfl) ?_
  refine lv_aload_n hx hb dL_law_1931 rfl (lv_at hl 3 rfl) ?_
  refine lv_iload_n hx hb dL_law_1932 rfl (lv_at hl 0 rfl) ?_
  refine lv_iconst (v := 1) hx hb dL_law_1933 (by decide) ?_
  refine lv_iadd hx hb dL_law_1934 ?_
  refine cf_i 1 (by decide) ?_
  refine va_sld hx hb hX hbl hbA hS (vp_c (by decide)) dL_law_1935 ?_
  refine cf_v (.int (xs 1)) rfl ?_
  refine lv_aload_n hx hb dL_law_1936 rfl (lv_at hl 3 rfl) ?_
  refine lv_iload_n hx hb dL_law_1937 rfl (lv_at hl 0 rfl) ?_
  refine lv_iconst (v := 2) hx hb dL_law_1938 (by decide) ?_
  refine lv_iadd hx hb dL_law_1939 ?_
  refine cf_i 2 (by decide) ?_
  refine va_sld hx hb hX hbl hbA hS (vp_c (by decide)) dL_law_1940 ?_
  refine cf_v (.int (xs 2)) rfl ?_
  refine lv_aload_n hx hb dL_law_1941 rfl (lv_at hl 3 rfl) ?_
  refine lv_iload_n hx hb dL_law_1942 rfl (lv_at hl 0 rfl) ?_
  refine lv_iconst (v := 3) hx hb dL_law_1943 (by decide) ?_
  refine lv_iadd hx hb dL_law_1944 ?_
  refine cf_i 3 (by decide) ?_
  refine va_sld hx hb hX hbl hbA hS (vp_c (by decide)) dL_law_1945 ?_
  refine cf_v (.int (xs 3)) rfl ?_
  refine lv_aload_n hx hb dL_law_1946 rfl (lv_at hl 3 rfl) ?_
  refine lv_iload_n hx hb dL_law_1947 rfl (lv_at hl 0 rfl) ?_
  refine lv_iconst (v := 4) hx hb dL_law_1948 (by decide) ?_
  refine lv_iadd hx hb dL_law_1949 ?_
  refine cf_i 4 (by decide) ?_
  refine va_sld hx hb hX hbl hbA hS (vp_c (by decide)) dL_law_1950 ?_
  refine cf_v (.int (xs 4)) rfl ?_
  refine aft_i (wr := [(y0, .inr (9, [.int 0, .ref (ay 0), .ref (ay 1), .ref (ay 2), .ref (ay 3), .int 0, .ref (ay 4), .int 0, .int 0, .int 0, .int 0, .int 0, .int 0, .int (-1), .ref (ay 5), .ref (ay 6), .int 0, .int 0, .int 0, .ref (ay 7), .ref (ay 8), .ref (ay 9), .ref (ay 10), .ref (ay 11), .ref (ay 12), .int 0, .int 0, .int 0, .int 0, .int 0, .int 0, .int 0, .int 0, .int 0, .ref (ay 13), .long 0, .long 0, .long 0, .ref (ay 14), .ref (ay 15), .ref (ay 16), .ref (ay 17)])), (ay 0, .inl (cs 1, 76, .inl (fun _ => 0))), (ay 6, .inl (cs 1, 3, .inl (fun _ => 0)))]) hP hD hS hA [0, 1, 2] [3, 4, 5] rfl rfl (by decide) (by decide) (run_v (As := [.int (xs 1), .int (xs 2), .int (xs 3), .int (xs 4)]) (rest := []) hFix hK hE hP hD [0, 1, 2] (k_X8_gets l D cs _ x0 (xs 1) (xs 2) (xs 3) (xs 4) (ax 0) (ax 1) (ax 2) (ax 3) (ax 4) (ax 5) (ax 6) (ax 7) (ax 8) (ax 9) (ax 16) (ax 17) (ax 18) (ax 19) (ax 20) (ax 21) (ax 22) (ax 23) (ax 24)) (cwV 4 hts gl_266_X8_gets rfl rfl rfl (by decide +kernel) ⟨Nat.le_of_ble_eq_true rfl, Nat.le_of_ble_eq_true rfl⟩) rfl (by decide) rfl rfl rfl hl.1 rfl (Nat.le_of_ble_eq_true rfl) dL_law_1951 ⟨Nat.le_of_ble_eq_true rfl, Nat.le_of_ble_eq_true rfl⟩) (fun r_1 u_1 H locs hq_1 hP hD hS => ?_)
  have hP : va_P D vwCl [(y0, .inr (9, [.int 0, .ref (ay 0), .ref (ay 1), .ref (ay 2), .ref (ay 3), .int 0, .ref (ay 4), .int 0, .int 0, .int 0, .int 0, .int 0, .int 0, .int (-1), .ref (ay 5), .ref (ay 6), .int 0, .int 0, .int 0, .ref (ay 7), .ref (ay 8), .ref (ay 9), .ref (ay 10), .ref (ay 11), .ref (ay 12), .int 0, .int 0, .int 0, .int 0, .int 0, .int 0, .int 0, .int 0, .int 0, .ref (ay 13), .long 0, .long 0, .long 0, .ref (ay 14), .ref (ay 15), .ref (ay 16), .ref (ay 17)])), (ay 0, .inl (cs 1, 76, .inl (fun _ => 0))), (ay 6, .inl (cs 1, 3, .inl (fun _ => 0)))] H := hP
  have hD : va_D (fun q : Nat => s.heap.size ≤ q) [(y0, .inr (9, [.int 0, .ref (ay 0), .ref (ay 1), .ref (ay 2), .ref (ay 3), .int 0, .ref (ay 4), .int 0, .int 0, .int 0, .int 0, .int 0, .int 0, .int (-1), .ref (ay 5), .ref (ay 6), .int 0, .int 0, .int 0, .ref (ay 7), .ref (ay 8), .ref (ay 9), .ref (ay 10), .ref (ay 11), .ref (ay 12), .int 0, .int 0, .int 0, .int 0, .int 0, .int 0, .int 0, .int 0, .int 0, .ref (ay 13), .long 0, .long 0, .long 0, .ref (ay 14), .ref (ay 15), .ref (ay 16), .ref (ay 17)])), (ay 0, .inl (cs 1, 76, .inl (fun _ => 0))), (ay 6, .inl (cs 1, 3, .inl (fun _ => 0)))] := hD
  replace hq_1 : r_1 = (-1000000) := hq_1
  subst hq_1
  refine lv_aload_n hx hb dL_law_1954 rfl (lv_at hl 1 rfl) ?_
  refine lv_aload_n hx hb dL_law_1955 rfl (lv_at hl 3 rfl) ?_
  refine lv_iload_n hx hb dL_law_1956 rfl (lv_at hl 0 rfl) ?_
  refine lv_iconst (v := 1) hx hb dL_law_1957 (by decide) ?_
  refine lv_iadd hx hb dL_law_1958 ?_
  refine cf_i 1 (by decide) ?_
  refine va_sld hx hb hX hbl hbA hS (vp_c (by decide)) dL_law_1959 ?_
  refine cf_v (.int (xs 1)) rfl ?_
  refine lv_aload_n hx hb dL_law_1960 rfl (lv_at hl 3 rfl) ?_
  refine lv_iload_n hx hb dL_law_1961 rfl (lv_at hl 0 rfl) ?_
  refine lv_iconst (v := 2) hx hb dL_law_1962 (by decide) ?_
  refine lv_iadd hx hb dL_law_1963 ?_
  refine cf_i 2 (by decide) ?_
  refine va_sld hx hb hX hbl hbA hS (vp_c (by decide)) dL_law_1964 ?_
  refine cf_v (.int (xs 2)) rfl ?_
  refine lv_aload_n hx hb dL_law_1965 rfl (lv_at hl 3 rfl) ?_
  refine lv_iload_n hx hb dL_law_1966 rfl (lv_at hl 0 rfl) ?_
  refine lv_iconst (v := 3) hx hb dL_law_1967 (by decide) ?_
  refine lv_iadd hx hb dL_law_1968 ?_
  refine cf_i 3 (by decide) ?_
  refine va_sld hx hb hX hbl hbA hS (vp_c (by decide)) dL_law_1969 ?_
  refine cf_v (.int (xs 3)) rfl ?_
  refine lv_aload_n hx hb dL_law_1970 rfl (lv_at hl 3 rfl) ?_
  refine lv_iload_n hx hb dL_law_1971 rfl (lv_at hl 0 rfl) ?_
  refine lv_iconst (v := 4) hx hb dL_law_1972 (by decide) ?_
  refine lv_iadd hx hb dL_law_1973 ?_
  refine cf_i 4 (by decide) ?_
  refine va_sld hx hb hX hbl hbA hS (vp_c (by decide)) dL_law_1974 ?_
  refine cf_v (.int (xs 4)) rfl ?_
  refine aft_i (wr := []) hP hD hS hA [0, 1, 2] [] rfl rfl (by decide) (by decide) (run_v (As := [.int (xs 1), .int (xs 2), .int (xs 3), .int (xs 4)]) (rest := [.int (-1000000)]) hFix hK hE hP hD [0, 1, 2] (k_X9_gets l D cs _ y0 (xs 1) (xs 2) (xs 3) (xs 4) (ay 0) (ay 1) (ay 2) (ay 3) (ay 4) (ay 5) (ay 6) (ay 7) (ay 8) (ay 9) (ay 10) (ay 11) (ay 12) (ay 13) (ay 14) (ay 15) (ay 16) (ay 17)) (cwV 4 hts gl_270_X9_gets rfl rfl rfl (by decide +kernel) ⟨Nat.le_of_ble_eq_true rfl, Nat.le_of_ble_eq_true rfl⟩) rfl (by decide) rfl rfl rfl hl.1 rfl (Nat.le_of_ble_eq_true rfl) dL_law_1975 ⟨Nat.le_of_ble_eq_true rfl, Nat.le_of_ble_eq_true rfl⟩) (fun r_2 u_2 H locs hq_2 hP hD hS => ?_)
  replace hq_2 : r_2 = (-1000000) := hq_2
  subst hq_2
  refine lv_icmp_eq (tgt := 2473) hx hb dL_law_1978 (by decide) (fun _ => ?_) (fun h9 => absurd h9 (by decide))
  exact law_end l C0 hS (lv_sub hl [0, 3] rfl) (Nat.le_of_ble_eq_true rfl) (Nat.le_of_ble_eq_true rfl)

set_option maxHeartbeats 4000000 in
set_option maxRecDepth 100000 in
theorem law_case_63 {p : Program} {e : Env} {s : State} {m : MethodId} {below : List Frame} {meth : Method} {c : Code} (l : Launch) {b : Nat} {xs : Nat → Int32} (C0 : lw_At p s m meth c b 6 xs) {D : va_G} {cs : Nat → ClassId} (hK : va_K D vwCl (mtyA cs) s) (hE : mEnv s) {x0 y0 : Nat} {ax ay : Nat → Nat} {H : Heap} {locs : List Loc} {ls : Array Slot} (hP : va_P D vwCl (lawW cs x0 ax y0 ay) H) (hD : va_D (fun q : Nat => s.heap.size ≤ q) (lawW cs x0 ax y0 ay)) (hS : va_S (fun q : Nat => s.heap.size ≤ q) s.heap H locs) (hl : lv_has ls 4 [(3, .int 0), (2, .ref y0), (1, .ref x0), (0, .ref b)]) : W p l e room_1 s m #[Value.ref b] below meth c H locs 81 7838 (lw_Z below #[Value.ref b] s) (F0 m 1983 ls []) := by
  obtain ⟨hx, hb, hr, hml, hown, hts, hX, hbl, hlocks, hgv⟩ := id C0
  have hA : ∀ q : Nat, s.heap.size ≤ q → (fun q : Nat => s.heap.size ≤ q) q := fun _ h => h
  have hbA : ¬ (fun q : Nat => s.heap.size ≤ q) b := Nat.not_le.mpr hbl
  have hFix := (⟨hx, hb, hml, hown, hts⟩ : CallFix p m c _ _ s #[Value.ref b] lw_tbl RL)
  replace hP := hP.sub (ws' := [(x0, .inr (8, [.ref (ax 0), .ref (ax 1), .ref (ax 2), .ref (ax 3), .ref (ax 4), .ref (ax 5), .ref (ax 6), .ref (ax 7), .ref (ax 8), .ref (ax 9)])), (ax 2, .inr (0, [.int 0, .int 0, .int 0, .int 0, .int 0, .int 0, .int 0, .int 0, .int 0, .int 0, .ref (ax 16), .ref (ax 17), .ref (ax 18), .ref (ax 19), .ref (ax 20)])), (ax 4, .inr (6, [.int 0, .int 0, .int 0, .long 0, .ref (ax 21), .ref (ax 22), .ref (ax 23), .ref (ax 24)])), (y0, .inr (9, [.int 0, .ref (ay 0), .ref (ay 1), .ref (ay 2), .ref (ay 3), .int 0, .ref (ay 4), .int 0, .int 0, .int 0, .int 0, .int 0, .int 0, .int (-1), .ref (ay 5), .ref (ay 6), .int 0, .int 0, .int 0, .ref (ay 7), .ref (ay 8), .ref (ay 9), .ref (ay 10), .ref (ay 11), .ref (ay 12), .int 0, .int 0, .int 0, .int 0, .int 0, .int 0, .int 0, .int 0, .int 0, .ref (ay 13), .long 0, .long 0, .long 0, .ref (ay 14), .ref (ay 15), .ref (ay 16), .ref (ay 17)])), (ay 0, .inl (cs 1, 76, .inl (fun _ => 0))), (ay 6, .inl (cs 1, 3, .inl (fun _ => 0)))]) [0, 9, 16, 62, 63, 69] rfl
  replace hD := hD.sub (ws' := [(x0, .inr (8, [.ref (ax 0), .ref (ax 1), .ref (ax 2), .ref (ax 3), .ref (ax 4), .ref (ax 5), .ref (ax 6), .ref (ax 7), .ref (ax 8), .ref (ax 9)])), (ax 2, .inr (0, [.int 0, .int 0, .int 0, .int 0, .int 0, .int 0, .int 0, .int 0, .int 0, .int 0, .ref (ax 16), .ref (ax 17), .ref (ax 18), .ref (ax 19), .ref (ax 20)])), (ax 4, .inr (6, [.int 0, .int 0, .int 0, .long 0, .ref (ax 21), .ref (ax 22), .ref (ax 23), .ref (ax 24)])), (y0, .inr (9, [.int 0, .ref (ay 0), .ref (ay 1), .ref (ay 2), .ref (ay 3), .int 0, .ref (ay 4), .int 0, .int 0, .int 0, .int 0, .int 0, .int 0, .int (-1), .ref (ay 5), .ref (ay 6), .int 0, .int 0, .int 0, .ref (ay 7), .ref (ay 8), .ref (ay 9), .ref (ay 10), .ref (ay 11), .ref (ay 12), .int 0, .int 0, .int 0, .int 0, .int 0, .int 0, .int 0, .int 0, .int 0, .ref (ay 13), .long 0, .long 0, .long 0, .ref (ay 14), .ref (ay 15), .ref (ay 16), .ref (ay 17)])), (ay 0, .inl (cs 1, 76, .inl (fun _ => 0))), (ay 6, .inl (cs 1, 3, .inl (fun _ => 0)))]) [0, 9, 16, 62, 63, 69] (by decide) rfl
  refine lv_aload_n hx hb dL_law_1983 rfl (lv_at hl 2 rfl) ?_
  refine lv_aload_n hx hb dL_law_1984 rfl (lv_at hl 3 rfl) ?_
  refine lv_iload_n hx hb dL_law_1985 rfl (lv_at hl 0 rfl) ?_
  refine lv_iconst (v := 1) hx hb dL_law_1986 (by decide) ?_
  refine lv_iadd hx hb dL_law_1987 ?_
  refine cf_i 1 (by decide) ?_
  refine va_sld hx hb hX hbl hbA hS (vp_c (by decide)) dL_law_1988 ?_
  refine cf_v (.int (xs 1)) rfl ?_
  refine aft_l (wr := [(y0, .inr (9, [.int 0, .ref (ay 0), .ref (ay 1), .ref (ay 2), .ref (ay 3), .int 0, .ref (ay 4), .int 0, .int 0, .int 0, .int 0, .int 0, .int 0, .int (-1), .ref (ay 5), .ref (ay 6), .int 0, .int 0, .int 0, .ref (ay 7), .ref (ay 8), .ref (ay 9), .ref (ay 10), .ref (ay 11), .ref (ay 12), .int 0, .int 0, .int 0, .int 0, .int 0, .int 0, .int 0, .int 0, .int 0, .ref (ay 13), .long 0, .long 0, .long 0, .ref (ay 14), .ref (ay 15), .ref (ay 16), .ref (ay 17)])), (ay 0, .inl (cs 1, 76, .inl (fun _ => 0))), (ay 6, .inl (cs 1, 3, .inl (fun _ => 0)))]) hP hD hS hA [0, 1, 2] [3, 4, 5] rfl rfl (by decide) (by decide) (run_v (As := [.int (xs 1)]) (rest := []) hFix hK hE hP hD [0, 1, 2] (k_X8_chance l D cs _ x0 (xs 1) (ax 0) (ax 1) (ax 2) (ax 3) (ax 4) (ax 5) (ax 6) (ax 7) (ax 8) (ax 9) (ax 16) (ax 17) (ax 18) (ax 19) (ax 20) (ax 21) (ax 22) (ax 23) (ax 24)) (cwV 1 hts gl_271_X8_chance rfl rfl rfl (by decide +kernel) ⟨Nat.le_of_ble_eq_true rfl, Nat.le_of_ble_eq_true rfl⟩) rfl (by decide) rfl rfl rfl hl.1 rfl (Nat.le_of_ble_eq_true rfl) dL_law_1989 ⟨Nat.le_of_ble_eq_true rfl, Nat.le_of_ble_eq_true rfl⟩) (fun r_1 u_1 H locs hq_1 hP hD hS => ?_)
  have hP : va_P D vwCl [(y0, .inr (9, [.int 0, .ref (ay 0), .ref (ay 1), .ref (ay 2), .ref (ay 3), .int 0, .ref (ay 4), .int 0, .int 0, .int 0, .int 0, .int 0, .int 0, .int (-1), .ref (ay 5), .ref (ay 6), .int 0, .int 0, .int 0, .ref (ay 7), .ref (ay 8), .ref (ay 9), .ref (ay 10), .ref (ay 11), .ref (ay 12), .int 0, .int 0, .int 0, .int 0, .int 0, .int 0, .int 0, .int 0, .int 0, .ref (ay 13), .long 0, .long 0, .long 0, .ref (ay 14), .ref (ay 15), .ref (ay 16), .ref (ay 17)])), (ay 0, .inl (cs 1, 76, .inl (fun _ => 0))), (ay 6, .inl (cs 1, 3, .inl (fun _ => 0)))] H := hP
  have hD : va_D (fun q : Nat => s.heap.size ≤ q) [(y0, .inr (9, [.int 0, .ref (ay 0), .ref (ay 1), .ref (ay 2), .ref (ay 3), .int 0, .ref (ay 4), .int 0, .int 0, .int 0, .int 0, .int 0, .int 0, .int (-1), .ref (ay 5), .ref (ay 6), .int 0, .int 0, .int 0, .ref (ay 7), .ref (ay 8), .ref (ay 9), .ref (ay 10), .ref (ay 11), .ref (ay 12), .int 0, .int 0, .int 0, .int 0, .int 0, .int 0, .int 0, .int 0, .int 0, .ref (ay 13), .long 0, .long 0, .long 0, .ref (ay 14), .ref (ay 15), .ref (ay 16), .ref (ay 17)])), (ay 0, .inl (cs 1, 76, .inl (fun _ => 0))), (ay 6, .inl (cs 1, 3, .inl (fun _ => 0)))] := hD
  replace hq_1 : r_1 = (-2) := hq_1
  subst hq_1
  refine lv_aload_n hx hb dL_law_1992 rfl (lv_at hl 1 rfl) ?_
  refine lv_aload_n hx hb dL_law_1993 rfl (lv_at hl 3 rfl) ?_
  refine lv_iload_n hx hb dL_law_1994 rfl (lv_at hl 0 rfl) ?_
  refine lv_iconst (v := 1) hx hb dL_law_1995 (by decide) ?_
  refine lv_iadd hx hb dL_law_1996 ?_
  refine cf_i 1 (by decide) ?_
  refine va_sld hx hb hX hbl hbA hS (vp_c (by decide)) dL_law_1997 ?_
  refine cf_v (.int (xs 1)) rfl ?_
  refine aft_l (wr := []) hP hD hS hA [0, 1, 2] [] rfl rfl (by decide) (by decide) (run_v (As := [.int (xs 1)]) (rest := [.long (-2)]) hFix hK hE hP hD [0, 1, 2] (k_X9_chance l D cs _ y0 (xs 1) (ay 0) (ay 1) (ay 2) (ay 3) (ay 4) (ay 5) (ay 6) (ay 7) (ay 8) (ay 9) (ay 10) (ay 11) (ay 12) (ay 13) (ay 14) (ay 15) (ay 16) (ay 17)) (cwV 1 hts gl_275_X9_chance rfl rfl rfl (by decide +kernel) ⟨Nat.le_of_ble_eq_true rfl, Nat.le_of_ble_eq_true rfl⟩) rfl (by decide) rfl rfl rfl hl.1 rfl (Nat.le_of_ble_eq_true rfl) dL_law_1998 ⟨Nat.le_of_ble_eq_true rfl, Nat.le_of_ble_eq_true rfl⟩) (fun r_2 u_2 H locs hq_2 hP hD hS => ?_)
  replace hq_2 : r_2 = (-2) := hq_2
  subst hq_2
  refine W.lcmp hx hb dL_law_2001 ?_
  refine cf_i 0 (by decide) ?_
  refine lv_if_eq (tgt := 2473) hx hb dL_law_2002 (by decide) (fun _ => ?_) (fun h9 => absurd h9 (by decide))
  exact law_end l C0 hS (lv_sub hl [0, 3] rfl) (Nat.le_of_ble_eq_true rfl) (Nat.le_of_ble_eq_true rfl)

set_option maxHeartbeats 4000000 in
set_option maxRecDepth 100000 in
theorem law_case_64 {p : Program} {e : Env} {s : State} {m : MethodId} {below : List Frame} {meth : Method} {c : Code} (l : Launch) {b : Nat} {xs : Nat → Int32} (C0 : lw_At p s m meth c b 6 xs) {D : va_G} {cs : Nat → ClassId} (hK : va_K D vwCl (mtyA cs) s) (hE : mEnv s) {x0 y0 : Nat} {ax ay : Nat → Nat} {H : Heap} {locs : List Loc} {ls : Array Slot} (hP : va_P D vwCl (lawW cs x0 ax y0 ay) H) (hD : va_D (fun q : Nat => s.heap.size ≤ q) (lawW cs x0 ax y0 ay)) (hS : va_S (fun q : Nat => s.heap.size ≤ q) s.heap H locs) (hl : lv_has ls 4 [(3, .int 0), (2, .ref y0), (1, .ref x0), (0, .ref b)]) : W p l e room_1 s m #[Value.ref b] below meth c H locs 81 7838 (lw_Z below #[Value.ref b] s) (F0 m 2007 ls []) := by
  obtain ⟨hx, hb, hr, hml, hown, hts, hX, hbl, hlocks, hgv⟩ := id C0
  have hA : ∀ q : Nat, s.heap.size ≤ q → (fun q : Nat => s.heap.size ≤ q) q := fun _ h => h
  have hbA : ¬ (fun q : Nat => s.heap.size ≤ q) b := Nat.not_le.mpr hbl
  have hFix := (⟨hx, hb, hml, hown, hts⟩ : CallFix p m c _ _ s #[Value.ref b] lw_tbl RL)
  replace hP := hP.sub (ws' := [(x0, .inr (8, [.ref (ax 0), .ref (ax 1), .ref (ax 2), .ref (ax 3), .ref (ax 4), .ref (ax 5), .ref (ax 6), .ref (ax 7), .ref (ax 8), .ref (ax 9)])), (ax 2, .inr (0, [.int 0, .int 0, .int 0, .int 0, .int 0, .int 0, .int 0, .int 0, .int 0, .int 0, .ref (ax 16), .ref (ax 17), .ref (ax 18), .ref (ax 19), .ref (ax 20)])), (ax 4, .inr (6, [.int 0, .int 0, .int 0, .long 0, .ref (ax 21), .ref (ax 22), .ref (ax 23), .ref (ax 24)])), (y0, .inr (9, [.int 0, .ref (ay 0), .ref (ay 1), .ref (ay 2), .ref (ay 3), .int 0, .ref (ay 4), .int 0, .int 0, .int 0, .int 0, .int 0, .int 0, .int (-1), .ref (ay 5), .ref (ay 6), .int 0, .int 0, .int 0, .ref (ay 7), .ref (ay 8), .ref (ay 9), .ref (ay 10), .ref (ay 11), .ref (ay 12), .int 0, .int 0, .int 0, .int 0, .int 0, .int 0, .int 0, .int 0, .int 0, .ref (ay 13), .long 0, .long 0, .long 0, .ref (ay 14), .ref (ay 15), .ref (ay 16), .ref (ay 17)])), (ay 0, .inl (cs 1, 76, .inl (fun _ => 0))), (ay 6, .inl (cs 1, 3, .inl (fun _ => 0)))]) [0, 9, 16, 62, 63, 69] rfl
  replace hD := hD.sub (ws' := [(x0, .inr (8, [.ref (ax 0), .ref (ax 1), .ref (ax 2), .ref (ax 3), .ref (ax 4), .ref (ax 5), .ref (ax 6), .ref (ax 7), .ref (ax 8), .ref (ax 9)])), (ax 2, .inr (0, [.int 0, .int 0, .int 0, .int 0, .int 0, .int 0, .int 0, .int 0, .int 0, .int 0, .ref (ax 16), .ref (ax 17), .ref (ax 18), .ref (ax 19), .ref (ax 20)])), (ax 4, .inr (6, [.int 0, .int 0, .int 0, .long 0, .ref (ax 21), .ref (ax 22), .ref (ax 23), .ref (ax 24)])), (y0, .inr (9, [.int 0, .ref (ay 0), .ref (ay 1), .ref (ay 2), .ref (ay 3), .int 0, .ref (ay 4), .int 0, .int 0, .int 0, .int 0, .int 0, .int 0, .int (-1), .ref (ay 5), .ref (ay 6), .int 0, .int 0, .int 0, .ref (ay 7), .ref (ay 8), .ref (ay 9), .ref (ay 10), .ref (ay 11), .ref (ay 12), .int 0, .int 0, .int 0, .int 0, .int 0, .int 0, .int 0, .int 0, .int 0, .ref (ay 13), .long 0, .long 0, .long 0, .ref (ay 14), .ref (ay 15), .ref (ay 16), .ref (ay 17)])), (ay 0, .inl (cs 1, 76, .inl (fun _ => 0))), (ay 6, .inl (cs 1, 3, .inl (fun _ => 0)))]) [0, 9, 16, 62, 63, 69] (by decide) rfl
  refine lv_aload_n hx hb dL_law_2007 rfl (lv_at hl 2 rfl) ?_
  refine lv_aload_n hx hb dL_law_2008 rfl (lv_at hl 3 rfl) ?_
  refine lv_iload_n hx hb dL_law_2009 rfl (lv_at hl 0 rfl) ?_
  refine lv_iconst (v := 1) hx hb dL_law_2010 (by decide) ?_
  refine lv_iadd hx hb dL_law_2011 ?_
  refine cf_i 1 (by decide) ?_
  refine va_sld hx hb hX hbl hbA hS (vp_c (by decide)) dL_law_2012 ?_
  refine cf_v (.int (xs 1)) rfl ?_
  refine aft_l (wr := [(y0, .inr (9, [.int 0, .ref (ay 0), .ref (ay 1), .ref (ay 2), .ref (ay 3), .int 0, .ref (ay 4), .int 0, .int 0, .int 0, .int 0, .int 0, .int 0, .int (-1), .ref (ay 5), .ref (ay 6), .int 0, .int 0, .int 0, .ref (ay 7), .ref (ay 8), .ref (ay 9), .ref (ay 10), .ref (ay 11), .ref (ay 12), .int 0, .int 0, .int 0, .int 0, .int 0, .int 0, .int 0, .int 0, .int 0, .ref (ay 13), .long 0, .long 0, .long 0, .ref (ay 14), .ref (ay 15), .ref (ay 16), .ref (ay 17)])), (ay 0, .inl (cs 1, 76, .inl (fun _ => 0))), (ay 6, .inl (cs 1, 3, .inl (fun _ => 0)))]) hP hD hS hA [0, 1, 2] [3, 4, 5] rfl rfl (by decide) (by decide) (run_v (As := [.int (xs 1)]) (rest := []) hFix hK hE hP hD [0, 1, 2] (k_X8_mean l D cs _ x0 (xs 1) (ax 0) (ax 1) (ax 2) (ax 3) (ax 4) (ax 5) (ax 6) (ax 7) (ax 8) (ax 9) (ax 16) (ax 17) (ax 18) (ax 19) (ax 20) (ax 21) (ax 22) (ax 23) (ax 24)) (cwV 1 hts gl_276_X8_mean rfl rfl rfl (by decide +kernel) ⟨Nat.le_of_ble_eq_true rfl, Nat.le_of_ble_eq_true rfl⟩) rfl (by decide) rfl rfl rfl hl.1 rfl (Nat.le_of_ble_eq_true rfl) dL_law_2013 ⟨Nat.le_of_ble_eq_true rfl, Nat.le_of_ble_eq_true rfl⟩) (fun r_1 u_1 H locs hq_1 hP hD hS => ?_)
  have hP : va_P D vwCl [(y0, .inr (9, [.int 0, .ref (ay 0), .ref (ay 1), .ref (ay 2), .ref (ay 3), .int 0, .ref (ay 4), .int 0, .int 0, .int 0, .int 0, .int 0, .int 0, .int (-1), .ref (ay 5), .ref (ay 6), .int 0, .int 0, .int 0, .ref (ay 7), .ref (ay 8), .ref (ay 9), .ref (ay 10), .ref (ay 11), .ref (ay 12), .int 0, .int 0, .int 0, .int 0, .int 0, .int 0, .int 0, .int 0, .int 0, .ref (ay 13), .long 0, .long 0, .long 0, .ref (ay 14), .ref (ay 15), .ref (ay 16), .ref (ay 17)])), (ay 0, .inl (cs 1, 76, .inl (fun _ => 0))), (ay 6, .inl (cs 1, 3, .inl (fun _ => 0)))] H := hP
  have hD : va_D (fun q : Nat => s.heap.size ≤ q) [(y0, .inr (9, [.int 0, .ref (ay 0), .ref (ay 1), .ref (ay 2), .ref (ay 3), .int 0, .ref (ay 4), .int 0, .int 0, .int 0, .int 0, .int 0, .int 0, .int (-1), .ref (ay 5), .ref (ay 6), .int 0, .int 0, .int 0, .ref (ay 7), .ref (ay 8), .ref (ay 9), .ref (ay 10), .ref (ay 11), .ref (ay 12), .int 0, .int 0, .int 0, .int 0, .int 0, .int 0, .int 0, .int 0, .int 0, .ref (ay 13), .long 0, .long 0, .long 0, .ref (ay 14), .ref (ay 15), .ref (ay 16), .ref (ay 17)])), (ay 0, .inl (cs 1, 76, .inl (fun _ => 0))), (ay 6, .inl (cs 1, 3, .inl (fun _ => 0)))] := hD
  replace hq_1 : r_1 = (-2) := hq_1
  subst hq_1
  refine lv_aload_n hx hb dL_law_2016 rfl (lv_at hl 1 rfl) ?_
  refine lv_aload_n hx hb dL_law_2017 rfl (lv_at hl 3 rfl) ?_
  refine lv_iload_n hx hb dL_law_2018 rfl (lv_at hl 0 rfl) ?_
  refine lv_iconst (v := 1) hx hb dL_law_2019 (by decide) ?_
  refine lv_iadd hx hb dL_law_2020 ?_
  refine cf_i 1 (by decide) ?_
  refine va_sld hx hb hX hbl hbA hS (vp_c (by decide)) dL_law_2021 ?_
  refine cf_v (.int (xs 1)) rfl ?_
  refine aft_l (wr := []) hP hD hS hA [0, 1, 2] [] rfl rfl (by decide) (by decide) (run_v (As := [.int (xs 1)]) (rest := [.long (-2)]) hFix hK hE hP hD [0, 1, 2] (k_X9_mean l D cs _ y0 (xs 1) (ay 0) (ay 1) (ay 2) (ay 3) (ay 4) (ay 5) (ay 6) (ay 7) (ay 8) (ay 9) (ay 10) (ay 11) (ay 12) (ay 13) (ay 14) (ay 15) (ay 16) (ay 17)) (cwV 1 hts gl_279_X9_mean rfl rfl rfl (by decide +kernel) ⟨Nat.le_of_ble_eq_true rfl, Nat.le_of_ble_eq_true rfl⟩) rfl (by decide) rfl rfl rfl hl.1 rfl (Nat.le_of_ble_eq_true rfl) dL_law_2022 ⟨Nat.le_of_ble_eq_true rfl, Nat.le_of_ble_eq_true rfl⟩) (fun r_2 u_2 H locs hq_2 hP hD hS => ?_)
  replace hq_2 : r_2 = (-2) := hq_2
  subst hq_2
  refine W.lcmp hx hb dL_law_2025 ?_
  refine cf_i 0 (by decide) ?_
  refine lv_if_eq (tgt := 2473) hx hb dL_law_2026 (by decide) (fun _ => ?_) (fun h9 => absurd h9 (by decide))
  exact law_end l C0 hS (lv_sub hl [0, 3] rfl) (Nat.le_of_ble_eq_true rfl) (Nat.le_of_ble_eq_true rfl)

set_option maxHeartbeats 4000000 in
set_option maxRecDepth 100000 in
theorem law_case_65 {p : Program} {e : Env} {s : State} {m : MethodId} {below : List Frame} {meth : Method} {c : Code} (l : Launch) {b : Nat} {xs : Nat → Int32} (C0 : lw_At p s m meth c b 6 xs) {D : va_G} {cs : Nat → ClassId} (hK : va_K D vwCl (mtyA cs) s) (hE : mEnv s) {x0 y0 : Nat} {ax ay : Nat → Nat} {H : Heap} {locs : List Loc} {ls : Array Slot} (hP : va_P D vwCl (lawW cs x0 ax y0 ay) H) (hD : va_D (fun q : Nat => s.heap.size ≤ q) (lawW cs x0 ax y0 ay)) (hS : va_S (fun q : Nat => s.heap.size ≤ q) s.heap H locs) (hl : lv_has ls 4 [(3, .int 0), (2, .ref y0), (1, .ref x0), (0, .ref b)]) : W p l e room_1 s m #[Value.ref b] below meth c H locs 81 7838 (lw_Z below #[Value.ref b] s) (F0 m 2031 ls []) := by
  obtain ⟨hx, hb, hr, hml, hown, hts, hX, hbl, hlocks, hgv⟩ := id C0
  have hA : ∀ q : Nat, s.heap.size ≤ q → (fun q : Nat => s.heap.size ≤ q) q := fun _ h => h
  have hbA : ¬ (fun q : Nat => s.heap.size ≤ q) b := Nat.not_le.mpr hbl
  have hFix := (⟨hx, hb, hml, hown, hts⟩ : CallFix p m c _ _ s #[Value.ref b] lw_tbl RL)
  replace hP := hP.sub (ws' := [(x0, .inr (8, [.ref (ax 0), .ref (ax 1), .ref (ax 2), .ref (ax 3), .ref (ax 4), .ref (ax 5), .ref (ax 6), .ref (ax 7), .ref (ax 8), .ref (ax 9)])), (ax 2, .inr (0, [.int 0, .int 0, .int 0, .int 0, .int 0, .int 0, .int 0, .int 0, .int 0, .int 0, .ref (ax 16), .ref (ax 17), .ref (ax 18), .ref (ax 19), .ref (ax 20)])), (ax 4, .inr (6, [.int 0, .int 0, .int 0, .long 0, .ref (ax 21), .ref (ax 22), .ref (ax 23), .ref (ax 24)])), (y0, .inr (9, [.int 0, .ref (ay 0), .ref (ay 1), .ref (ay 2), .ref (ay 3), .int 0, .ref (ay 4), .int 0, .int 0, .int 0, .int 0, .int 0, .int 0, .int (-1), .ref (ay 5), .ref (ay 6), .int 0, .int 0, .int 0, .ref (ay 7), .ref (ay 8), .ref (ay 9), .ref (ay 10), .ref (ay 11), .ref (ay 12), .int 0, .int 0, .int 0, .int 0, .int 0, .int 0, .int 0, .int 0, .int 0, .ref (ay 13), .long 0, .long 0, .long 0, .ref (ay 14), .ref (ay 15), .ref (ay 16), .ref (ay 17)])), (ay 0, .inl (cs 1, 76, .inl (fun _ => 0))), (ay 6, .inl (cs 1, 3, .inl (fun _ => 0)))]) [0, 9, 16, 62, 63, 69] rfl
  replace hD := hD.sub (ws' := [(x0, .inr (8, [.ref (ax 0), .ref (ax 1), .ref (ax 2), .ref (ax 3), .ref (ax 4), .ref (ax 5), .ref (ax 6), .ref (ax 7), .ref (ax 8), .ref (ax 9)])), (ax 2, .inr (0, [.int 0, .int 0, .int 0, .int 0, .int 0, .int 0, .int 0, .int 0, .int 0, .int 0, .ref (ax 16), .ref (ax 17), .ref (ax 18), .ref (ax 19), .ref (ax 20)])), (ax 4, .inr (6, [.int 0, .int 0, .int 0, .long 0, .ref (ax 21), .ref (ax 22), .ref (ax 23), .ref (ax 24)])), (y0, .inr (9, [.int 0, .ref (ay 0), .ref (ay 1), .ref (ay 2), .ref (ay 3), .int 0, .ref (ay 4), .int 0, .int 0, .int 0, .int 0, .int 0, .int 0, .int (-1), .ref (ay 5), .ref (ay 6), .int 0, .int 0, .int 0, .ref (ay 7), .ref (ay 8), .ref (ay 9), .ref (ay 10), .ref (ay 11), .ref (ay 12), .int 0, .int 0, .int 0, .int 0, .int 0, .int 0, .int 0, .int 0, .int 0, .ref (ay 13), .long 0, .long 0, .long 0, .ref (ay 14), .ref (ay 15), .ref (ay 16), .ref (ay 17)])), (ay 0, .inl (cs 1, 76, .inl (fun _ => 0))), (ay 6, .inl (cs 1, 3, .inl (fun _ => 0)))]) [0, 9, 16, 62, 63, 69] (by decide) rfl
  refine lv_aload_n hx hb dL_law_2031 rfl (lv_at hl 2 rfl) ?_
  refine lv_aload_n hx hb dL_law_2032 rfl (lv_at hl 3 rfl) ?_
  refine lv_iload_n hx hb dL_law_2033 rfl (lv_at hl 0 rfl) ?_
  refine lv_iconst (v := 1) hx hb dL_law_2034 (by decide) ?_
  refine lv_iadd hx hb dL_law_2035 ?_
  refine cf_i 1 (by decide) ?_
  refine va_sld hx hb hX hbl hbA hS (vp_c (by decide)) dL_law_2036 ?_
  refine cf_v (.int (xs 1)) rfl ?_
  refine aft_i (wr := [(y0, .inr (9, [.int 0, .ref (ay 0), .ref (ay 1), .ref (ay 2), .ref (ay 3), .int 0, .ref (ay 4), .int 0, .int 0, .int 0, .int 0, .int 0, .int 0, .int (-1), .ref (ay 5), .ref (ay 6), .int 0, .int 0, .int 0, .ref (ay 7), .ref (ay 8), .ref (ay 9), .ref (ay 10), .ref (ay 11), .ref (ay 12), .int 0, .int 0, .int 0, .int 0, .int 0, .int 0, .int 0, .int 0, .int 0, .ref (ay 13), .long 0, .long 0, .long 0, .ref (ay 14), .ref (ay 15), .ref (ay 16), .ref (ay 17)])), (ay 0, .inl (cs 1, 76, .inl (fun _ => 0))), (ay 6, .inl (cs 1, 3, .inl (fun _ => 0)))]) hP hD hS hA [0, 1, 2] [3, 4, 5] rfl rfl (by decide) (by decide) (run_v (As := [.int (xs 1)]) (rest := []) hFix hK hE hP hD [0, 1, 2] (k_X8_lock l D cs _ x0 (xs 1) (ax 0) (ax 1) (ax 2) (ax 3) (ax 4) (ax 5) (ax 6) (ax 7) (ax 8) (ax 9) (ax 16) (ax 17) (ax 18) (ax 19) (ax 20) (ax 21) (ax 22) (ax 23) (ax 24)) (cwV 1 hts gl_280_X8_lock rfl rfl rfl (by decide +kernel) ⟨Nat.le_of_ble_eq_true rfl, Nat.le_of_ble_eq_true rfl⟩) rfl (by decide) rfl rfl rfl hl.1 rfl (Nat.le_of_ble_eq_true rfl) dL_law_2037 ⟨Nat.le_of_ble_eq_true rfl, Nat.le_of_ble_eq_true rfl⟩) (fun r_1 u_1 H locs hq_1 hP hD hS => ?_)
  have hP : va_P D vwCl [(y0, .inr (9, [.int 0, .ref (ay 0), .ref (ay 1), .ref (ay 2), .ref (ay 3), .int 0, .ref (ay 4), .int 0, .int 0, .int 0, .int 0, .int 0, .int 0, .int (-1), .ref (ay 5), .ref (ay 6), .int 0, .int 0, .int 0, .ref (ay 7), .ref (ay 8), .ref (ay 9), .ref (ay 10), .ref (ay 11), .ref (ay 12), .int 0, .int 0, .int 0, .int 0, .int 0, .int 0, .int 0, .int 0, .int 0, .ref (ay 13), .long 0, .long 0, .long 0, .ref (ay 14), .ref (ay 15), .ref (ay 16), .ref (ay 17)])), (ay 0, .inl (cs 1, 76, .inl (fun _ => 0))), (ay 6, .inl (cs 1, 3, .inl (fun _ => 0)))] H := hP
  have hD : va_D (fun q : Nat => s.heap.size ≤ q) [(y0, .inr (9, [.int 0, .ref (ay 0), .ref (ay 1), .ref (ay 2), .ref (ay 3), .int 0, .ref (ay 4), .int 0, .int 0, .int 0, .int 0, .int 0, .int 0, .int (-1), .ref (ay 5), .ref (ay 6), .int 0, .int 0, .int 0, .ref (ay 7), .ref (ay 8), .ref (ay 9), .ref (ay 10), .ref (ay 11), .ref (ay 12), .int 0, .int 0, .int 0, .int 0, .int 0, .int 0, .int 0, .int 0, .int 0, .ref (ay 13), .long 0, .long 0, .long 0, .ref (ay 14), .ref (ay 15), .ref (ay 16), .ref (ay 17)])), (ay 0, .inl (cs 1, 76, .inl (fun _ => 0))), (ay 6, .inl (cs 1, 3, .inl (fun _ => 0)))] := hD
  replace hq_1 : r_1 = (-2) := hq_1
  subst hq_1
  refine lv_aload_n hx hb dL_law_2040 rfl (lv_at hl 1 rfl) ?_
  refine lv_aload_n hx hb dL_law_2041 rfl (lv_at hl 3 rfl) ?_
  refine lv_iload_n hx hb dL_law_2042 rfl (lv_at hl 0 rfl) ?_
  refine lv_iconst (v := 1) hx hb dL_law_2043 (by decide) ?_
  refine lv_iadd hx hb dL_law_2044 ?_
  refine cf_i 1 (by decide) ?_
  refine va_sld hx hb hX hbl hbA hS (vp_c (by decide)) dL_law_2045 ?_
  refine cf_v (.int (xs 1)) rfl ?_
  refine aft_i (wr := []) hP hD hS hA [0, 1, 2] [] rfl rfl (by decide) (by decide) (run_v (As := [.int (xs 1)]) (rest := [.int (-2)]) hFix hK hE hP hD [0, 1, 2] (k_X9_lock l D cs _ y0 (xs 1) (ay 0) (ay 1) (ay 2) (ay 3) (ay 4) (ay 5) (ay 6) (ay 7) (ay 8) (ay 9) (ay 10) (ay 11) (ay 12) (ay 13) (ay 14) (ay 15) (ay 16) (ay 17)) (cwV 1 hts gl_283_X9_lock rfl rfl rfl (by decide +kernel) ⟨Nat.le_of_ble_eq_true rfl, Nat.le_of_ble_eq_true rfl⟩) rfl (by decide) rfl rfl rfl hl.1 rfl (Nat.le_of_ble_eq_true rfl) dL_law_2046 ⟨Nat.le_of_ble_eq_true rfl, Nat.le_of_ble_eq_true rfl⟩) (fun r_2 u_2 H locs hq_2 hP hD hS => ?_)
  replace hq_2 : r_2 = (-2) := hq_2
  subst hq_2
  refine lv_icmp_eq (tgt := 2473) hx hb dL_law_2049 (by decide) (fun _ => ?_) (fun h9 => absurd h9 (by decide))
  exact law_end l C0 hS (lv_sub hl [0, 3] rfl) (Nat.le_of_ble_eq_true rfl) (Nat.le_of_ble_eq_true rfl)

set_option maxHeartbeats 4000000 in
set_option maxRecDepth 100000 in
theorem law_case_66 {p : Program} {e : Env} {s : State} {m : MethodId} {below : List Frame} {meth : Method} {c : Code} (l : Launch) {b : Nat} {xs : Nat → Int32} (C0 : lw_At p s m meth c b 6 xs) {D : va_G} {cs : Nat → ClassId} (hK : va_K D vwCl (mtyA cs) s) (hE : mEnv s) {x0 y0 : Nat} {ax ay : Nat → Nat} {H : Heap} {locs : List Loc} {ls : Array Slot} (hP : va_P D vwCl (lawW cs x0 ax y0 ay) H) (hD : va_D (fun q : Nat => s.heap.size ≤ q) (lawW cs x0 ax y0 ay)) (hS : va_S (fun q : Nat => s.heap.size ≤ q) s.heap H locs) (hl : lv_has ls 4 [(3, .int 0), (2, .ref y0), (1, .ref x0), (0, .ref b)]) : W p l e room_1 s m #[Value.ref b] below meth c H locs 81 7838 (lw_Z below #[Value.ref b] s) (F0 m 2054 ls []) := by
  obtain ⟨hx, hb, hr, hml, hown, hts, hX, hbl, hlocks, hgv⟩ := id C0
  have hA : ∀ q : Nat, s.heap.size ≤ q → (fun q : Nat => s.heap.size ≤ q) q := fun _ h => h
  have hbA : ¬ (fun q : Nat => s.heap.size ≤ q) b := Nat.not_le.mpr hbl
  have hFix := (⟨hx, hb, hml, hown, hts⟩ : CallFix p m c _ _ s #[Value.ref b] lw_tbl RL)
  replace hP := hP.sub (ws' := [(x0, .inr (8, [.ref (ax 0), .ref (ax 1), .ref (ax 2), .ref (ax 3), .ref (ax 4), .ref (ax 5), .ref (ax 6), .ref (ax 7), .ref (ax 8), .ref (ax 9)])), (ax 2, .inr (0, [.int 0, .int 0, .int 0, .int 0, .int 0, .int 0, .int 0, .int 0, .int 0, .int 0, .ref (ax 16), .ref (ax 17), .ref (ax 18), .ref (ax 19), .ref (ax 20)])), (ax 4, .inr (6, [.int 0, .int 0, .int 0, .long 0, .ref (ax 21), .ref (ax 22), .ref (ax 23), .ref (ax 24)])), (y0, .inr (9, [.int 0, .ref (ay 0), .ref (ay 1), .ref (ay 2), .ref (ay 3), .int 0, .ref (ay 4), .int 0, .int 0, .int 0, .int 0, .int 0, .int 0, .int (-1), .ref (ay 5), .ref (ay 6), .int 0, .int 0, .int 0, .ref (ay 7), .ref (ay 8), .ref (ay 9), .ref (ay 10), .ref (ay 11), .ref (ay 12), .int 0, .int 0, .int 0, .int 0, .int 0, .int 0, .int 0, .int 0, .int 0, .ref (ay 13), .long 0, .long 0, .long 0, .ref (ay 14), .ref (ay 15), .ref (ay 16), .ref (ay 17)])), (ay 0, .inl (cs 1, 76, .inl (fun _ => 0))), (ay 6, .inl (cs 1, 3, .inl (fun _ => 0)))]) [0, 9, 16, 62, 63, 69] rfl
  replace hD := hD.sub (ws' := [(x0, .inr (8, [.ref (ax 0), .ref (ax 1), .ref (ax 2), .ref (ax 3), .ref (ax 4), .ref (ax 5), .ref (ax 6), .ref (ax 7), .ref (ax 8), .ref (ax 9)])), (ax 2, .inr (0, [.int 0, .int 0, .int 0, .int 0, .int 0, .int 0, .int 0, .int 0, .int 0, .int 0, .ref (ax 16), .ref (ax 17), .ref (ax 18), .ref (ax 19), .ref (ax 20)])), (ax 4, .inr (6, [.int 0, .int 0, .int 0, .long 0, .ref (ax 21), .ref (ax 22), .ref (ax 23), .ref (ax 24)])), (y0, .inr (9, [.int 0, .ref (ay 0), .ref (ay 1), .ref (ay 2), .ref (ay 3), .int 0, .ref (ay 4), .int 0, .int 0, .int 0, .int 0, .int 0, .int 0, .int (-1), .ref (ay 5), .ref (ay 6), .int 0, .int 0, .int 0, .ref (ay 7), .ref (ay 8), .ref (ay 9), .ref (ay 10), .ref (ay 11), .ref (ay 12), .int 0, .int 0, .int 0, .int 0, .int 0, .int 0, .int 0, .int 0, .int 0, .ref (ay 13), .long 0, .long 0, .long 0, .ref (ay 14), .ref (ay 15), .ref (ay 16), .ref (ay 17)])), (ay 0, .inl (cs 1, 76, .inl (fun _ => 0))), (ay 6, .inl (cs 1, 3, .inl (fun _ => 0)))]) [0, 9, 16, 62, 63, 69] (by decide) rfl
  refine lv_aload_n hx hb dL_law_2054 rfl (lv_at hl 2 rfl) ?_
  refine lv_aload_n hx hb dL_law_2055 rfl (lv_at hl 3 rfl) ?_
  refine lv_iload_n hx hb dL_law_2056 rfl (lv_at hl 0 rfl) ?_
  refine lv_iconst (v := 1) hx hb dL_law_2057 (by decide) ?_
  refine lv_iadd hx hb dL_law_2058 ?_
  refine cf_i 1 (by decide) ?_
  refine va_sld hx hb hX hbl hbA hS (vp_c (by decide)) dL_law_2059 ?_
  refine cf_v (.int (xs 1)) rfl ?_
  refine aft_i (wr := [(y0, .inr (9, [.int 0, .ref (ay 0), .ref (ay 1), .ref (ay 2), .ref (ay 3), .int 0, .ref (ay 4), .int 0, .int 0, .int 0, .int 0, .int 0, .int 0, .int (-1), .ref (ay 5), .ref (ay 6), .int 0, .int 0, .int 0, .ref (ay 7), .ref (ay 8), .ref (ay 9), .ref (ay 10), .ref (ay 11), .ref (ay 12), .int 0, .int 0, .int 0, .int 0, .int 0, .int 0, .int 0, .int 0, .int 0, .ref (ay 13), .long 0, .long 0, .long 0, .ref (ay 14), .ref (ay 15), .ref (ay 16), .ref (ay 17)])), (ay 0, .inl (cs 1, 76, .inl (fun _ => 0))), (ay 6, .inl (cs 1, 3, .inl (fun _ => 0)))]) hP hD hS hA [0, 1, 2] [3, 4, 5] rfl rfl (by decide) (by decide) (run_v (As := [.int (xs 1)]) (rest := []) hFix hK hE hP hD [0, 1, 2] (k_X8_frees l D cs _ x0 (xs 1) (ax 0) (ax 1) (ax 2) (ax 3) (ax 4) (ax 5) (ax 6) (ax 7) (ax 8) (ax 9) (ax 16) (ax 17) (ax 18) (ax 19) (ax 20) (ax 21) (ax 22) (ax 23) (ax 24)) (cwV 1 hts gl_284_X8_frees rfl rfl rfl (by decide +kernel) ⟨Nat.le_of_ble_eq_true rfl, Nat.le_of_ble_eq_true rfl⟩) rfl (by decide) rfl rfl rfl hl.1 rfl (Nat.le_of_ble_eq_true rfl) dL_law_2060 ⟨Nat.le_of_ble_eq_true rfl, Nat.le_of_ble_eq_true rfl⟩) (fun r_1 u_1 H locs hq_1 hP hD hS => ?_)
  have hP : va_P D vwCl [(y0, .inr (9, [.int 0, .ref (ay 0), .ref (ay 1), .ref (ay 2), .ref (ay 3), .int 0, .ref (ay 4), .int 0, .int 0, .int 0, .int 0, .int 0, .int 0, .int (-1), .ref (ay 5), .ref (ay 6), .int 0, .int 0, .int 0, .ref (ay 7), .ref (ay 8), .ref (ay 9), .ref (ay 10), .ref (ay 11), .ref (ay 12), .int 0, .int 0, .int 0, .int 0, .int 0, .int 0, .int 0, .int 0, .int 0, .ref (ay 13), .long 0, .long 0, .long 0, .ref (ay 14), .ref (ay 15), .ref (ay 16), .ref (ay 17)])), (ay 0, .inl (cs 1, 76, .inl (fun _ => 0))), (ay 6, .inl (cs 1, 3, .inl (fun _ => 0)))] H := hP
  have hD : va_D (fun q : Nat => s.heap.size ≤ q) [(y0, .inr (9, [.int 0, .ref (ay 0), .ref (ay 1), .ref (ay 2), .ref (ay 3), .int 0, .ref (ay 4), .int 0, .int 0, .int 0, .int 0, .int 0, .int 0, .int (-1), .ref (ay 5), .ref (ay 6), .int 0, .int 0, .int 0, .ref (ay 7), .ref (ay 8), .ref (ay 9), .ref (ay 10), .ref (ay 11), .ref (ay 12), .int 0, .int 0, .int 0, .int 0, .int 0, .int 0, .int 0, .int 0, .int 0, .ref (ay 13), .long 0, .long 0, .long 0, .ref (ay 14), .ref (ay 15), .ref (ay 16), .ref (ay 17)])), (ay 0, .inl (cs 1, 76, .inl (fun _ => 0))), (ay 6, .inl (cs 1, 3, .inl (fun _ => 0)))] := hD
  replace hq_1 : r_1 = (-2) := hq_1
  subst hq_1
  refine lv_aload_n hx hb dL_law_2063 rfl (lv_at hl 1 rfl) ?_
  refine lv_aload_n hx hb dL_law_2064 rfl (lv_at hl 3 rfl) ?_
  refine lv_iload_n hx hb dL_law_2065 rfl (lv_at hl 0 rfl) ?_
  refine lv_iconst (v := 1) hx hb dL_law_2066 (by decide) ?_
  refine lv_iadd hx hb dL_law_2067 ?_
  refine cf_i 1 (by decide) ?_
  refine va_sld hx hb hX hbl hbA hS (vp_c (by decide)) dL_law_2068 ?_
  refine cf_v (.int (xs 1)) rfl ?_
  refine aft_i (wr := []) hP hD hS hA [0, 1, 2] [] rfl rfl (by decide) (by decide) (run_v (As := [.int (xs 1)]) (rest := [.int (-2)]) hFix hK hE hP hD [0, 1, 2] (k_X9_frees l D cs _ y0 (xs 1) (ay 0) (ay 1) (ay 2) (ay 3) (ay 4) (ay 5) (ay 6) (ay 7) (ay 8) (ay 9) (ay 10) (ay 11) (ay 12) (ay 13) (ay 14) (ay 15) (ay 16) (ay 17)) (cwV 1 hts gl_287_X9_frees rfl rfl rfl (by decide +kernel) ⟨Nat.le_of_ble_eq_true rfl, Nat.le_of_ble_eq_true rfl⟩) rfl (by decide) rfl rfl rfl hl.1 rfl (Nat.le_of_ble_eq_true rfl) dL_law_2069 ⟨Nat.le_of_ble_eq_true rfl, Nat.le_of_ble_eq_true rfl⟩) (fun r_2 u_2 H locs hq_2 hP hD hS => ?_)
  replace hq_2 : r_2 = (-2) := hq_2
  subst hq_2
  refine lv_icmp_eq (tgt := 2473) hx hb dL_law_2072 (by decide) (fun _ => ?_) (fun h9 => absurd h9 (by decide))
  exact law_end l C0 hS (lv_sub hl [0, 3] rfl) (Nat.le_of_ble_eq_true rfl) (Nat.le_of_ble_eq_true rfl)

set_option maxHeartbeats 4000000 in
set_option maxRecDepth 100000 in
theorem law_case_67 {p : Program} {e : Env} {s : State} {m : MethodId} {below : List Frame} {meth : Method} {c : Code} (l : Launch) {b : Nat} {xs : Nat → Int32} (C0 : lw_At p s m meth c b 6 xs) {D : va_G} {cs : Nat → ClassId} (hK : va_K D vwCl (mtyA cs) s) (hE : mEnv s) {x0 y0 : Nat} {ax ay : Nat → Nat} {H : Heap} {locs : List Loc} {ls : Array Slot} (hP : va_P D vwCl (lawW cs x0 ax y0 ay) H) (hD : va_D (fun q : Nat => s.heap.size ≤ q) (lawW cs x0 ax y0 ay)) (hS : va_S (fun q : Nat => s.heap.size ≤ q) s.heap H locs) (hl : lv_has ls 4 [(3, .int 0), (2, .ref y0), (1, .ref x0), (0, .ref b)]) : W p l e room_1 s m #[Value.ref b] below meth c H locs 81 7838 (lw_Z below #[Value.ref b] s) (F0 m 2077 ls []) := by
  obtain ⟨hx, hb, hr, hml, hown, hts, hX, hbl, hlocks, hgv⟩ := id C0
  have hA : ∀ q : Nat, s.heap.size ≤ q → (fun q : Nat => s.heap.size ≤ q) q := fun _ h => h
  have hbA : ¬ (fun q : Nat => s.heap.size ≤ q) b := Nat.not_le.mpr hbl
  have hFix := (⟨hx, hb, hml, hown, hts⟩ : CallFix p m c _ _ s #[Value.ref b] lw_tbl RL)
  replace hP := hP.sub (ws' := [(x0, .inr (8, [.ref (ax 0), .ref (ax 1), .ref (ax 2), .ref (ax 3), .ref (ax 4), .ref (ax 5), .ref (ax 6), .ref (ax 7), .ref (ax 8), .ref (ax 9)])), (ax 2, .inr (0, [.int 0, .int 0, .int 0, .int 0, .int 0, .int 0, .int 0, .int 0, .int 0, .int 0, .ref (ax 16), .ref (ax 17), .ref (ax 18), .ref (ax 19), .ref (ax 20)])), (ax 4, .inr (6, [.int 0, .int 0, .int 0, .long 0, .ref (ax 21), .ref (ax 22), .ref (ax 23), .ref (ax 24)])), (y0, .inr (9, [.int 0, .ref (ay 0), .ref (ay 1), .ref (ay 2), .ref (ay 3), .int 0, .ref (ay 4), .int 0, .int 0, .int 0, .int 0, .int 0, .int 0, .int (-1), .ref (ay 5), .ref (ay 6), .int 0, .int 0, .int 0, .ref (ay 7), .ref (ay 8), .ref (ay 9), .ref (ay 10), .ref (ay 11), .ref (ay 12), .int 0, .int 0, .int 0, .int 0, .int 0, .int 0, .int 0, .int 0, .int 0, .ref (ay 13), .long 0, .long 0, .long 0, .ref (ay 14), .ref (ay 15), .ref (ay 16), .ref (ay 17)])), (ay 0, .inl (cs 1, 76, .inl (fun _ => 0))), (ay 6, .inl (cs 1, 3, .inl (fun _ => 0)))]) [0, 9, 16, 62, 63, 69] rfl
  replace hD := hD.sub (ws' := [(x0, .inr (8, [.ref (ax 0), .ref (ax 1), .ref (ax 2), .ref (ax 3), .ref (ax 4), .ref (ax 5), .ref (ax 6), .ref (ax 7), .ref (ax 8), .ref (ax 9)])), (ax 2, .inr (0, [.int 0, .int 0, .int 0, .int 0, .int 0, .int 0, .int 0, .int 0, .int 0, .int 0, .ref (ax 16), .ref (ax 17), .ref (ax 18), .ref (ax 19), .ref (ax 20)])), (ax 4, .inr (6, [.int 0, .int 0, .int 0, .long 0, .ref (ax 21), .ref (ax 22), .ref (ax 23), .ref (ax 24)])), (y0, .inr (9, [.int 0, .ref (ay 0), .ref (ay 1), .ref (ay 2), .ref (ay 3), .int 0, .ref (ay 4), .int 0, .int 0, .int 0, .int 0, .int 0, .int 0, .int (-1), .ref (ay 5), .ref (ay 6), .int 0, .int 0, .int 0, .ref (ay 7), .ref (ay 8), .ref (ay 9), .ref (ay 10), .ref (ay 11), .ref (ay 12), .int 0, .int 0, .int 0, .int 0, .int 0, .int 0, .int 0, .int 0, .int 0, .ref (ay 13), .long 0, .long 0, .long 0, .ref (ay 14), .ref (ay 15), .ref (ay 16), .ref (ay 17)])), (ay 0, .inl (cs 1, 76, .inl (fun _ => 0))), (ay 6, .inl (cs 1, 3, .inl (fun _ => 0)))]) [0, 9, 16, 62, 63, 69] (by decide) rfl
  refine lv_aload_n hx hb dL_law_2077 rfl (lv_at hl 2 rfl) ?_
  refine lv_aload_n hx hb dL_law_2078 rfl (lv_at hl 3 rfl) ?_
  refine lv_iload_n hx hb dL_law_2079 rfl (lv_at hl 0 rfl) ?_
  refine lv_iconst (v := 1) hx hb dL_law_2080 (by decide) ?_
  refine lv_iadd hx hb dL_law_2081 ?_
  refine cf_i 1 (by decide) ?_
  refine va_sld hx hb hX hbl hbA hS (vp_c (by decide)) dL_law_2082 ?_
  refine cf_v (.int (xs 1)) rfl ?_
  refine aft_i (wr := [(y0, .inr (9, [.int 0, .ref (ay 0), .ref (ay 1), .ref (ay 2), .ref (ay 3), .int 0, .ref (ay 4), .int 0, .int 0, .int 0, .int 0, .int 0, .int 0, .int (-1), .ref (ay 5), .ref (ay 6), .int 0, .int 0, .int 0, .ref (ay 7), .ref (ay 8), .ref (ay 9), .ref (ay 10), .ref (ay 11), .ref (ay 12), .int 0, .int 0, .int 0, .int 0, .int 0, .int 0, .int 0, .int 0, .int 0, .ref (ay 13), .long 0, .long 0, .long 0, .ref (ay 14), .ref (ay 15), .ref (ay 16), .ref (ay 17)])), (ay 0, .inl (cs 1, 76, .inl (fun _ => 0))), (ay 6, .inl (cs 1, 3, .inl (fun _ => 0)))]) hP hD hS hA [0, 1, 2] [3, 4, 5] rfl rfl (by decide) (by decide) (run_v (As := [.int (xs 1)]) (rest := []) hFix hK hE hP hD [0, 1, 2] (k_X8_drops l D cs _ x0 (xs 1) (ax 0) (ax 1) (ax 2) (ax 3) (ax 4) (ax 5) (ax 6) (ax 7) (ax 8) (ax 9) (ax 16) (ax 17) (ax 18) (ax 19) (ax 20) (ax 21) (ax 22) (ax 23) (ax 24)) (cwV 1 hts gl_288_X8_drops rfl rfl rfl (by decide +kernel) ⟨Nat.le_of_ble_eq_true rfl, Nat.le_of_ble_eq_true rfl⟩) rfl (by decide) rfl rfl rfl hl.1 rfl (Nat.le_of_ble_eq_true rfl) dL_law_2083 ⟨Nat.le_of_ble_eq_true rfl, Nat.le_of_ble_eq_true rfl⟩) (fun r_1 u_1 H locs hq_1 hP hD hS => ?_)
  have hP : va_P D vwCl [(y0, .inr (9, [.int 0, .ref (ay 0), .ref (ay 1), .ref (ay 2), .ref (ay 3), .int 0, .ref (ay 4), .int 0, .int 0, .int 0, .int 0, .int 0, .int 0, .int (-1), .ref (ay 5), .ref (ay 6), .int 0, .int 0, .int 0, .ref (ay 7), .ref (ay 8), .ref (ay 9), .ref (ay 10), .ref (ay 11), .ref (ay 12), .int 0, .int 0, .int 0, .int 0, .int 0, .int 0, .int 0, .int 0, .int 0, .ref (ay 13), .long 0, .long 0, .long 0, .ref (ay 14), .ref (ay 15), .ref (ay 16), .ref (ay 17)])), (ay 0, .inl (cs 1, 76, .inl (fun _ => 0))), (ay 6, .inl (cs 1, 3, .inl (fun _ => 0)))] H := hP
  have hD : va_D (fun q : Nat => s.heap.size ≤ q) [(y0, .inr (9, [.int 0, .ref (ay 0), .ref (ay 1), .ref (ay 2), .ref (ay 3), .int 0, .ref (ay 4), .int 0, .int 0, .int 0, .int 0, .int 0, .int 0, .int (-1), .ref (ay 5), .ref (ay 6), .int 0, .int 0, .int 0, .ref (ay 7), .ref (ay 8), .ref (ay 9), .ref (ay 10), .ref (ay 11), .ref (ay 12), .int 0, .int 0, .int 0, .int 0, .int 0, .int 0, .int 0, .int 0, .int 0, .ref (ay 13), .long 0, .long 0, .long 0, .ref (ay 14), .ref (ay 15), .ref (ay 16), .ref (ay 17)])), (ay 0, .inl (cs 1, 76, .inl (fun _ => 0))), (ay 6, .inl (cs 1, 3, .inl (fun _ => 0)))] := hD
  replace hq_1 : r_1 = (-2) := hq_1
  subst hq_1
  refine lv_aload_n hx hb dL_law_2086 rfl (lv_at hl 1 rfl) ?_
  refine lv_aload_n hx hb dL_law_2087 rfl (lv_at hl 3 rfl) ?_
  refine lv_iload_n hx hb dL_law_2088 rfl (lv_at hl 0 rfl) ?_
  refine lv_iconst (v := 1) hx hb dL_law_2089 (by decide) ?_
  refine lv_iadd hx hb dL_law_2090 ?_
  refine cf_i 1 (by decide) ?_
  refine va_sld hx hb hX hbl hbA hS (vp_c (by decide)) dL_law_2091 ?_
  refine cf_v (.int (xs 1)) rfl ?_
  refine aft_i (wr := []) hP hD hS hA [0, 1, 2] [] rfl rfl (by decide) (by decide) (run_v (As := [.int (xs 1)]) (rest := [.int (-2)]) hFix hK hE hP hD [0, 1, 2] (k_X9_drops l D cs _ y0 (xs 1) (ay 0) (ay 1) (ay 2) (ay 3) (ay 4) (ay 5) (ay 6) (ay 7) (ay 8) (ay 9) (ay 10) (ay 11) (ay 12) (ay 13) (ay 14) (ay 15) (ay 16) (ay 17)) (cwV 1 hts gl_291_X9_drops rfl rfl rfl (by decide +kernel) ⟨Nat.le_of_ble_eq_true rfl, Nat.le_of_ble_eq_true rfl⟩) rfl (by decide) rfl rfl rfl hl.1 rfl (Nat.le_of_ble_eq_true rfl) dL_law_2092 ⟨Nat.le_of_ble_eq_true rfl, Nat.le_of_ble_eq_true rfl⟩) (fun r_2 u_2 H locs hq_2 hP hD hS => ?_)
  replace hq_2 : r_2 = (-2) := hq_2
  subst hq_2
  refine lv_icmp_eq (tgt := 2473) hx hb dL_law_2095 (by decide) (fun _ => ?_) (fun h9 => absurd h9 (by decide))
  exact law_end l C0 hS (lv_sub hl [0, 3] rfl) (Nat.le_of_ble_eq_true rfl) (Nat.le_of_ble_eq_true rfl)

set_option maxHeartbeats 4000000 in
set_option maxRecDepth 100000 in
theorem law_case_68 {p : Program} {e : Env} {s : State} {m : MethodId} {below : List Frame} {meth : Method} {c : Code} (l : Launch) {b : Nat} {xs : Nat → Int32} (C0 : lw_At p s m meth c b 6 xs) {D : va_G} {cs : Nat → ClassId} (hK : va_K D vwCl (mtyA cs) s) (hE : mEnv s) {x0 y0 : Nat} {ax ay : Nat → Nat} {H : Heap} {locs : List Loc} {ls : Array Slot} (hP : va_P D vwCl (lawW cs x0 ax y0 ay) H) (hD : va_D (fun q : Nat => s.heap.size ≤ q) (lawW cs x0 ax y0 ay)) (hS : va_S (fun q : Nat => s.heap.size ≤ q) s.heap H locs) (hl : lv_has ls 4 [(3, .int 0), (2, .ref y0), (1, .ref x0), (0, .ref b)]) : W p l e room_1 s m #[Value.ref b] below meth c H locs 81 7838 (lw_Z below #[Value.ref b] s) (F0 m 2100 ls []) := by
  obtain ⟨hx, hb, hr, hml, hown, hts, hX, hbl, hlocks, hgv⟩ := id C0
  have hA : ∀ q : Nat, s.heap.size ≤ q → (fun q : Nat => s.heap.size ≤ q) q := fun _ h => h
  have hbA : ¬ (fun q : Nat => s.heap.size ≤ q) b := Nat.not_le.mpr hbl
  have hFix := (⟨hx, hb, hml, hown, hts⟩ : CallFix p m c _ _ s #[Value.ref b] lw_tbl RL)
  replace hP := hP.sub (ws' := [(x0, .inr (8, [.ref (ax 0), .ref (ax 1), .ref (ax 2), .ref (ax 3), .ref (ax 4), .ref (ax 5), .ref (ax 6), .ref (ax 7), .ref (ax 8), .ref (ax 9)])), (ax 2, .inr (0, [.int 0, .int 0, .int 0, .int 0, .int 0, .int 0, .int 0, .int 0, .int 0, .int 0, .ref (ax 16), .ref (ax 17), .ref (ax 18), .ref (ax 19), .ref (ax 20)])), (ax 4, .inr (6, [.int 0, .int 0, .int 0, .long 0, .ref (ax 21), .ref (ax 22), .ref (ax 23), .ref (ax 24)])), (y0, .inr (9, [.int 0, .ref (ay 0), .ref (ay 1), .ref (ay 2), .ref (ay 3), .int 0, .ref (ay 4), .int 0, .int 0, .int 0, .int 0, .int 0, .int 0, .int (-1), .ref (ay 5), .ref (ay 6), .int 0, .int 0, .int 0, .ref (ay 7), .ref (ay 8), .ref (ay 9), .ref (ay 10), .ref (ay 11), .ref (ay 12), .int 0, .int 0, .int 0, .int 0, .int 0, .int 0, .int 0, .int 0, .int 0, .ref (ay 13), .long 0, .long 0, .long 0, .ref (ay 14), .ref (ay 15), .ref (ay 16), .ref (ay 17)])), (ay 0, .inl (cs 1, 76, .inl (fun _ => 0))), (ay 6, .inl (cs 1, 3, .inl (fun _ => 0)))]) [0, 9, 16, 62, 63, 69] rfl
  replace hD := hD.sub (ws' := [(x0, .inr (8, [.ref (ax 0), .ref (ax 1), .ref (ax 2), .ref (ax 3), .ref (ax 4), .ref (ax 5), .ref (ax 6), .ref (ax 7), .ref (ax 8), .ref (ax 9)])), (ax 2, .inr (0, [.int 0, .int 0, .int 0, .int 0, .int 0, .int 0, .int 0, .int 0, .int 0, .int 0, .ref (ax 16), .ref (ax 17), .ref (ax 18), .ref (ax 19), .ref (ax 20)])), (ax 4, .inr (6, [.int 0, .int 0, .int 0, .long 0, .ref (ax 21), .ref (ax 22), .ref (ax 23), .ref (ax 24)])), (y0, .inr (9, [.int 0, .ref (ay 0), .ref (ay 1), .ref (ay 2), .ref (ay 3), .int 0, .ref (ay 4), .int 0, .int 0, .int 0, .int 0, .int 0, .int 0, .int (-1), .ref (ay 5), .ref (ay 6), .int 0, .int 0, .int 0, .ref (ay 7), .ref (ay 8), .ref (ay 9), .ref (ay 10), .ref (ay 11), .ref (ay 12), .int 0, .int 0, .int 0, .int 0, .int 0, .int 0, .int 0, .int 0, .int 0, .ref (ay 13), .long 0, .long 0, .long 0, .ref (ay 14), .ref (ay 15), .ref (ay 16), .ref (ay 17)])), (ay 0, .inl (cs 1, 76, .inl (fun _ => 0))), (ay 6, .inl (cs 1, 3, .inl (fun _ => 0)))]) [0, 9, 16, 62, 63, 69] (by decide) rfl
  refine lv_aload_n hx hb dL_law_2100 rfl (lv_at hl 2 rfl) ?_
  refine aft_i (wr := [(y0, .inr (9, [.int 0, .ref (ay 0), .ref (ay 1), .ref (ay 2), .ref (ay 3), .int 0, .ref (ay 4), .int 0, .int 0, .int 0, .int 0, .int 0, .int 0, .int (-1), .ref (ay 5), .ref (ay 6), .int 0, .int 0, .int 0, .ref (ay 7), .ref (ay 8), .ref (ay 9), .ref (ay 10), .ref (ay 11), .ref (ay 12), .int 0, .int 0, .int 0, .int 0, .int 0, .int 0, .int 0, .int 0, .int 0, .ref (ay 13), .long 0, .long 0, .long 0, .ref (ay 14), .ref (ay 15), .ref (ay 16), .ref (ay 17)])), (ay 0, .inl (cs 1, 76, .inl (fun _ => 0))), (ay 6, .inl (cs 1, 3, .inl (fun _ => 0)))]) hP hD hS hA [0, 1, 2] [3, 4, 5] rfl rfl (by decide) (by decide) (run_v (As := []) (rest := []) hFix hK hE hP hD [0, 1, 2] (k_X8_undo l D cs _ x0 (ax 0) (ax 1) (ax 2) (ax 3) (ax 4) (ax 5) (ax 6) (ax 7) (ax 8) (ax 9) (ax 16) (ax 17) (ax 18) (ax 19) (ax 20) (ax 21) (ax 22) (ax 23) (ax 24)) (cwV 0 hts gl_292_X8_undo rfl rfl rfl (by decide +kernel) ⟨Nat.le_of_ble_eq_true rfl, Nat.le_of_ble_eq_true rfl⟩) rfl (by decide) rfl rfl rfl hl.1 rfl (Nat.le_of_ble_eq_true rfl) dL_law_2101 ⟨Nat.le_of_ble_eq_true rfl, Nat.le_of_ble_eq_true rfl⟩) (fun r_1 u_1 H locs hq_1 hP hD hS => ?_)
  have hP : va_P D vwCl [(y0, .inr (9, [.int 0, .ref (ay 0), .ref (ay 1), .ref (ay 2), .ref (ay 3), .int 0, .ref (ay 4), .int 0, .int 0, .int 0, .int 0, .int 0, .int 0, .int (-1), .ref (ay 5), .ref (ay 6), .int 0, .int 0, .int 0, .ref (ay 7), .ref (ay 8), .ref (ay 9), .ref (ay 10), .ref (ay 11), .ref (ay 12), .int 0, .int 0, .int 0, .int 0, .int 0, .int 0, .int 0, .int 0, .int 0, .ref (ay 13), .long 0, .long 0, .long 0, .ref (ay 14), .ref (ay 15), .ref (ay 16), .ref (ay 17)])), (ay 0, .inl (cs 1, 76, .inl (fun _ => 0))), (ay 6, .inl (cs 1, 3, .inl (fun _ => 0)))] H := hP
  have hD : va_D (fun q : Nat => s.heap.size ≤ q) [(y0, .inr (9, [.int 0, .ref (ay 0), .ref (ay 1), .ref (ay 2), .ref (ay 3), .int 0, .ref (ay 4), .int 0, .int 0, .int 0, .int 0, .int 0, .int 0, .int (-1), .ref (ay 5), .ref (ay 6), .int 0, .int 0, .int 0, .ref (ay 7), .ref (ay 8), .ref (ay 9), .ref (ay 10), .ref (ay 11), .ref (ay 12), .int 0, .int 0, .int 0, .int 0, .int 0, .int 0, .int 0, .int 0, .int 0, .ref (ay 13), .long 0, .long 0, .long 0, .ref (ay 14), .ref (ay 15), .ref (ay 16), .ref (ay 17)])), (ay 0, .inl (cs 1, 76, .inl (fun _ => 0))), (ay 6, .inl (cs 1, 3, .inl (fun _ => 0)))] := hD
  replace hq_1 : r_1 = (-2) := hq_1
  subst hq_1
  refine lv_aload_n hx hb dL_law_2104 rfl (lv_at hl 1 rfl) ?_
  refine aft_i (wr := []) hP hD hS hA [0, 1, 2] [] rfl rfl (by decide) (by decide) (run_v (As := []) (rest := [.int (-2)]) hFix hK hE hP hD [0, 1, 2] (k_X9_undo l D cs _ y0 (ay 0) (ay 1) (ay 2) (ay 3) (ay 4) (ay 5) (ay 6) (ay 7) (ay 8) (ay 9) (ay 10) (ay 11) (ay 12) (ay 13) (ay 14) (ay 15) (ay 16) (ay 17)) (cwV 0 hts gl_295_X9_undo rfl rfl rfl (by decide +kernel) ⟨Nat.le_of_ble_eq_true rfl, Nat.le_of_ble_eq_true rfl⟩) rfl (by decide) rfl rfl rfl hl.1 rfl (Nat.le_of_ble_eq_true rfl) dL_law_2105 ⟨Nat.le_of_ble_eq_true rfl, Nat.le_of_ble_eq_true rfl⟩) (fun r_2 u_2 H locs hq_2 hP hD hS => ?_)
  replace hq_2 : r_2 = (-2) := hq_2
  subst hq_2
  refine lv_icmp_eq (tgt := 2473) hx hb dL_law_2108 (by decide) (fun _ => ?_) (fun h9 => absurd h9 (by decide))
  exact law_end l C0 hS (lv_sub hl [0, 3] rfl) (Nat.le_of_ble_eq_true rfl) (Nat.le_of_ble_eq_true rfl)

set_option maxHeartbeats 4000000 in
set_option maxRecDepth 100000 in
theorem law_case_69 {p : Program} {e : Env} {s : State} {m : MethodId} {below : List Frame} {meth : Method} {c : Code} (l : Launch) {b : Nat} {xs : Nat → Int32} (C0 : lw_At p s m meth c b 6 xs) {D : va_G} {cs : Nat → ClassId} (hK : va_K D vwCl (mtyA cs) s) (hE : mEnv s) {x0 y0 : Nat} {ax ay : Nat → Nat} {H : Heap} {locs : List Loc} {ls : Array Slot} (hP : va_P D vwCl (lawW cs x0 ax y0 ay) H) (hD : va_D (fun q : Nat => s.heap.size ≤ q) (lawW cs x0 ax y0 ay)) (hS : va_S (fun q : Nat => s.heap.size ≤ q) s.heap H locs) (hl : lv_has ls 4 [(3, .int 0), (2, .ref y0), (1, .ref x0), (0, .ref b)]) : W p l e room_1 s m #[Value.ref b] below meth c H locs 81 7838 (lw_Z below #[Value.ref b] s) (F0 m 2113 ls []) := by
  obtain ⟨hx, hb, hr, hml, hown, hts, hX, hbl, hlocks, hgv⟩ := id C0
  have hA : ∀ q : Nat, s.heap.size ≤ q → (fun q : Nat => s.heap.size ≤ q) q := fun _ h => h
  have hbA : ¬ (fun q : Nat => s.heap.size ≤ q) b := Nat.not_le.mpr hbl
  have hFix := (⟨hx, hb, hml, hown, hts⟩ : CallFix p m c _ _ s #[Value.ref b] lw_tbl RL)
  replace hP := hP.sub (ws' := [(x0, .inr (8, [.ref (ax 0), .ref (ax 1), .ref (ax 2), .ref (ax 3), .ref (ax 4), .ref (ax 5), .ref (ax 6), .ref (ax 7), .ref (ax 8), .ref (ax 9)])), (ax 2, .inr (0, [.int 0, .int 0, .int 0, .int 0, .int 0, .int 0, .int 0, .int 0, .int 0, .int 0, .ref (ax 16), .ref (ax 17), .ref (ax 18), .ref (ax 19), .ref (ax 20)])), (ax 4, .inr (6, [.int 0, .int 0, .int 0, .long 0, .ref (ax 21), .ref (ax 22), .ref (ax 23), .ref (ax 24)])), (y0, .inr (9, [.int 0, .ref (ay 0), .ref (ay 1), .ref (ay 2), .ref (ay 3), .int 0, .ref (ay 4), .int 0, .int 0, .int 0, .int 0, .int 0, .int 0, .int (-1), .ref (ay 5), .ref (ay 6), .int 0, .int 0, .int 0, .ref (ay 7), .ref (ay 8), .ref (ay 9), .ref (ay 10), .ref (ay 11), .ref (ay 12), .int 0, .int 0, .int 0, .int 0, .int 0, .int 0, .int 0, .int 0, .int 0, .ref (ay 13), .long 0, .long 0, .long 0, .ref (ay 14), .ref (ay 15), .ref (ay 16), .ref (ay 17)])), (ay 0, .inl (cs 1, 76, .inl (fun _ => 0))), (ay 6, .inl (cs 1, 3, .inl (fun _ => 0)))]) [0, 9, 16, 62, 63, 69] rfl
  replace hD := hD.sub (ws' := [(x0, .inr (8, [.ref (ax 0), .ref (ax 1), .ref (ax 2), .ref (ax 3), .ref (ax 4), .ref (ax 5), .ref (ax 6), .ref (ax 7), .ref (ax 8), .ref (ax 9)])), (ax 2, .inr (0, [.int 0, .int 0, .int 0, .int 0, .int 0, .int 0, .int 0, .int 0, .int 0, .int 0, .ref (ax 16), .ref (ax 17), .ref (ax 18), .ref (ax 19), .ref (ax 20)])), (ax 4, .inr (6, [.int 0, .int 0, .int 0, .long 0, .ref (ax 21), .ref (ax 22), .ref (ax 23), .ref (ax 24)])), (y0, .inr (9, [.int 0, .ref (ay 0), .ref (ay 1), .ref (ay 2), .ref (ay 3), .int 0, .ref (ay 4), .int 0, .int 0, .int 0, .int 0, .int 0, .int 0, .int (-1), .ref (ay 5), .ref (ay 6), .int 0, .int 0, .int 0, .ref (ay 7), .ref (ay 8), .ref (ay 9), .ref (ay 10), .ref (ay 11), .ref (ay 12), .int 0, .int 0, .int 0, .int 0, .int 0, .int 0, .int 0, .int 0, .int 0, .ref (ay 13), .long 0, .long 0, .long 0, .ref (ay 14), .ref (ay 15), .ref (ay 16), .ref (ay 17)])), (ay 0, .inl (cs 1, 76, .inl (fun _ => 0))), (ay 6, .inl (cs 1, 3, .inl (fun _ => 0)))]) [0, 9, 16, 62, 63, 69] (by decide) rfl
  refine lv_aload_n hx hb dL_law_2113 rfl (lv_at hl 2 rfl) ?_
  refine aft_i (wr := [(y0, .inr (9, [.int 0, .ref (ay 0), .ref (ay 1), .ref (ay 2), .ref (ay 3), .int 0, .ref (ay 4), .int 0, .int 0, .int 0, .int 0, .int 0, .int 0, .int (-1), .ref (ay 5), .ref (ay 6), .int 0, .int 0, .int 0, .ref (ay 7), .ref (ay 8), .ref (ay 9), .ref (ay 10), .ref (ay 11), .ref (ay 12), .int 0, .int 0, .int 0, .int 0, .int 0, .int 0, .int 0, .int 0, .int 0, .ref (ay 13), .long 0, .long 0, .long 0, .ref (ay 14), .ref (ay 15), .ref (ay 16), .ref (ay 17)])), (ay 0, .inl (cs 1, 76, .inl (fun _ => 0))), (ay 6, .inl (cs 1, 3, .inl (fun _ => 0)))]) hP hD hS hA [0, 1, 2] [3, 4, 5] rfl rfl (by decide) (by decide) (run_v (As := []) (rest := []) hFix hK hE hP hD [0, 1, 2] (k_X8_anew l D cs _ x0 (ax 0) (ax 1) (ax 2) (ax 3) (ax 4) (ax 5) (ax 6) (ax 7) (ax 8) (ax 9) (ax 16) (ax 17) (ax 18) (ax 19) (ax 20) (ax 21) (ax 22) (ax 23) (ax 24)) (cwV 0 hts gl_296_X8_anew rfl rfl rfl (by decide +kernel) ⟨Nat.le_of_ble_eq_true rfl, Nat.le_of_ble_eq_true rfl⟩) rfl (by decide) rfl rfl rfl hl.1 rfl (Nat.le_of_ble_eq_true rfl) dL_law_2114 ⟨Nat.le_of_ble_eq_true rfl, Nat.le_of_ble_eq_true rfl⟩) (fun r_1 u_1 H locs hq_1 hP hD hS => ?_)
  have hP : va_P D vwCl [(y0, .inr (9, [.int 0, .ref (ay 0), .ref (ay 1), .ref (ay 2), .ref (ay 3), .int 0, .ref (ay 4), .int 0, .int 0, .int 0, .int 0, .int 0, .int 0, .int (-1), .ref (ay 5), .ref (ay 6), .int 0, .int 0, .int 0, .ref (ay 7), .ref (ay 8), .ref (ay 9), .ref (ay 10), .ref (ay 11), .ref (ay 12), .int 0, .int 0, .int 0, .int 0, .int 0, .int 0, .int 0, .int 0, .int 0, .ref (ay 13), .long 0, .long 0, .long 0, .ref (ay 14), .ref (ay 15), .ref (ay 16), .ref (ay 17)])), (ay 0, .inl (cs 1, 76, .inl (fun _ => 0))), (ay 6, .inl (cs 1, 3, .inl (fun _ => 0)))] H := hP
  have hD : va_D (fun q : Nat => s.heap.size ≤ q) [(y0, .inr (9, [.int 0, .ref (ay 0), .ref (ay 1), .ref (ay 2), .ref (ay 3), .int 0, .ref (ay 4), .int 0, .int 0, .int 0, .int 0, .int 0, .int 0, .int (-1), .ref (ay 5), .ref (ay 6), .int 0, .int 0, .int 0, .ref (ay 7), .ref (ay 8), .ref (ay 9), .ref (ay 10), .ref (ay 11), .ref (ay 12), .int 0, .int 0, .int 0, .int 0, .int 0, .int 0, .int 0, .int 0, .int 0, .ref (ay 13), .long 0, .long 0, .long 0, .ref (ay 14), .ref (ay 15), .ref (ay 16), .ref (ay 17)])), (ay 0, .inl (cs 1, 76, .inl (fun _ => 0))), (ay 6, .inl (cs 1, 3, .inl (fun _ => 0)))] := hD
  replace hq_1 : r_1 = (-2) := hq_1
  subst hq_1
  refine lv_aload_n hx hb dL_law_2117 rfl (lv_at hl 1 rfl) ?_
  refine aft_i (wr := []) hP hD hS hA [0, 1, 2] [] rfl rfl (by decide) (by decide) (run_v (As := []) (rest := [.int (-2)]) hFix hK hE hP hD [0, 1, 2] (k_X9_anew l D cs _ y0 (ay 0) (ay 1) (ay 2) (ay 3) (ay 4) (ay 5) (ay 6) (ay 7) (ay 8) (ay 9) (ay 10) (ay 11) (ay 12) (ay 13) (ay 14) (ay 15) (ay 16) (ay 17)) (cwV 0 hts gl_299_X9_anew rfl rfl rfl (by decide +kernel) ⟨Nat.le_of_ble_eq_true rfl, Nat.le_of_ble_eq_true rfl⟩) rfl (by decide) rfl rfl rfl hl.1 rfl (Nat.le_of_ble_eq_true rfl) dL_law_2118 ⟨Nat.le_of_ble_eq_true rfl, Nat.le_of_ble_eq_true rfl⟩) (fun r_2 u_2 H locs hq_2 hP hD hS => ?_)
  replace hq_2 : r_2 = (-2) := hq_2
  subst hq_2
  refine lv_icmp_eq (tgt := 2473) hx hb dL_law_2121 (by decide) (fun _ => ?_) (fun h9 => absurd h9 (by decide))
  exact law_end l C0 hS (lv_sub hl [0, 3] rfl) (Nat.le_of_ble_eq_true rfl) (Nat.le_of_ble_eq_true rfl)

set_option maxHeartbeats 4000000 in
set_option maxRecDepth 100000 in
theorem law_case_70 {p : Program} {e : Env} {s : State} {m : MethodId} {below : List Frame} {meth : Method} {c : Code} (l : Launch) {b : Nat} {xs : Nat → Int32} (C0 : lw_At p s m meth c b 6 xs) {D : va_G} {cs : Nat → ClassId} (hK : va_K D vwCl (mtyA cs) s) (hE : mEnv s) {x0 y0 : Nat} {ax ay : Nat → Nat} {H : Heap} {locs : List Loc} {ls : Array Slot} (hP : va_P D vwCl (lawW cs x0 ax y0 ay) H) (hD : va_D (fun q : Nat => s.heap.size ≤ q) (lawW cs x0 ax y0 ay)) (hS : va_S (fun q : Nat => s.heap.size ≤ q) s.heap H locs) (hl : lv_has ls 4 [(3, .int 0), (2, .ref y0), (1, .ref x0), (0, .ref b)]) : W p l e room_1 s m #[Value.ref b] below meth c H locs 81 7838 (lw_Z below #[Value.ref b] s) (F0 m 2126 ls []) := by
  obtain ⟨hx, hb, hr, hml, hown, hts, hX, hbl, hlocks, hgv⟩ := id C0
  have hA : ∀ q : Nat, s.heap.size ≤ q → (fun q : Nat => s.heap.size ≤ q) q := fun _ h => h
  have hbA : ¬ (fun q : Nat => s.heap.size ≤ q) b := Nat.not_le.mpr hbl
  have hFix := (⟨hx, hb, hml, hown, hts⟩ : CallFix p m c _ _ s #[Value.ref b] lw_tbl RL)
  replace hP := hP.sub (ws' := [(x0, .inr (8, [.ref (ax 0), .ref (ax 1), .ref (ax 2), .ref (ax 3), .ref (ax 4), .ref (ax 5), .ref (ax 6), .ref (ax 7), .ref (ax 8), .ref (ax 9)])), (ax 2, .inr (0, [.int 0, .int 0, .int 0, .int 0, .int 0, .int 0, .int 0, .int 0, .int 0, .int 0, .ref (ax 16), .ref (ax 17), .ref (ax 18), .ref (ax 19), .ref (ax 20)])), (ax 4, .inr (6, [.int 0, .int 0, .int 0, .long 0, .ref (ax 21), .ref (ax 22), .ref (ax 23), .ref (ax 24)])), (y0, .inr (9, [.int 0, .ref (ay 0), .ref (ay 1), .ref (ay 2), .ref (ay 3), .int 0, .ref (ay 4), .int 0, .int 0, .int 0, .int 0, .int 0, .int 0, .int (-1), .ref (ay 5), .ref (ay 6), .int 0, .int 0, .int 0, .ref (ay 7), .ref (ay 8), .ref (ay 9), .ref (ay 10), .ref (ay 11), .ref (ay 12), .int 0, .int 0, .int 0, .int 0, .int 0, .int 0, .int 0, .int 0, .int 0, .ref (ay 13), .long 0, .long 0, .long 0, .ref (ay 14), .ref (ay 15), .ref (ay 16), .ref (ay 17)])), (ay 0, .inl (cs 1, 76, .inl (fun _ => 0))), (ay 6, .inl (cs 1, 3, .inl (fun _ => 0)))]) [0, 9, 16, 62, 63, 69] rfl
  replace hD := hD.sub (ws' := [(x0, .inr (8, [.ref (ax 0), .ref (ax 1), .ref (ax 2), .ref (ax 3), .ref (ax 4), .ref (ax 5), .ref (ax 6), .ref (ax 7), .ref (ax 8), .ref (ax 9)])), (ax 2, .inr (0, [.int 0, .int 0, .int 0, .int 0, .int 0, .int 0, .int 0, .int 0, .int 0, .int 0, .ref (ax 16), .ref (ax 17), .ref (ax 18), .ref (ax 19), .ref (ax 20)])), (ax 4, .inr (6, [.int 0, .int 0, .int 0, .long 0, .ref (ax 21), .ref (ax 22), .ref (ax 23), .ref (ax 24)])), (y0, .inr (9, [.int 0, .ref (ay 0), .ref (ay 1), .ref (ay 2), .ref (ay 3), .int 0, .ref (ay 4), .int 0, .int 0, .int 0, .int 0, .int 0, .int 0, .int (-1), .ref (ay 5), .ref (ay 6), .int 0, .int 0, .int 0, .ref (ay 7), .ref (ay 8), .ref (ay 9), .ref (ay 10), .ref (ay 11), .ref (ay 12), .int 0, .int 0, .int 0, .int 0, .int 0, .int 0, .int 0, .int 0, .int 0, .ref (ay 13), .long 0, .long 0, .long 0, .ref (ay 14), .ref (ay 15), .ref (ay 16), .ref (ay 17)])), (ay 0, .inl (cs 1, 76, .inl (fun _ => 0))), (ay 6, .inl (cs 1, 3, .inl (fun _ => 0)))]) [0, 9, 16, 62, 63, 69] (by decide) rfl
  refine lv_aload_n hx hb dL_law_2126 rfl (lv_at hl 2 rfl) ?_
  refine lv_aload_n hx hb dL_law_2127 rfl (lv_at hl 3 rfl) ?_
  refine lv_iload_n hx hb dL_law_2128 rfl (lv_at hl 0 rfl) ?_
  refine lv_iconst (v := 1) hx hb dL_law_2129 (by decide) ?_
  refine lv_iadd hx hb dL_law_2130 ?_
  refine cf_i 1 (by decide) ?_
  refine va_sld hx hb hX hbl hbA hS (vp_c (by decide)) dL_law_2131 ?_
  refine cf_v (.int (xs 1)) rfl ?_
  refine lv_aload_n hx hb dL_law_2132 rfl (lv_at hl 3 rfl) ?_
  refine lv_iload_n hx hb dL_law_2133 rfl (lv_at hl 0 rfl) ?_
  refine lv_iconst (v := 2) hx hb dL_law_2134 (by decide) ?_
  refine lv_iadd hx hb dL_law_2135 ?_
  refine cf_i 2 (by decide) ?_
  refine va_sld hx hb hX hbl hbA hS (vp_c (by decide)) dL_law_2136 ?_
  refine cf_v (.int (xs 2)) rfl ?_
  refine aft_i (wr := [(y0, .inr (9, [.int 0, .ref (ay 0), .ref (ay 1), .ref (ay 2), .ref (ay 3), .int 0, .ref (ay 4), .int 0, .int 0, .int 0, .int 0, .int 0, .int 0, .int (-1), .ref (ay 5), .ref (ay 6), .int 0, .int 0, .int 0, .ref (ay 7), .ref (ay 8), .ref (ay 9), .ref (ay 10), .ref (ay 11), .ref (ay 12), .int 0, .int 0, .int 0, .int 0, .int 0, .int 0, .int 0, .int 0, .int 0, .ref (ay 13), .long 0, .long 0, .long 0, .ref (ay 14), .ref (ay 15), .ref (ay 16), .ref (ay 17)])), (ay 0, .inl (cs 1, 76, .inl (fun _ => 0))), (ay 6, .inl (cs 1, 3, .inl (fun _ => 0)))]) hP hD hS hA [0, 1, 2] [3, 4, 5] rfl rfl (by decide) (by decide) (run_v (As := [.int (xs 1), .int (xs 2)]) (rest := []) hFix hK hE hP hD [0, 1, 2] (k_X8_drawn l D cs _ x0 (xs 1) (xs 2) (ax 0) (ax 1) (ax 2) (ax 3) (ax 4) (ax 5) (ax 6) (ax 7) (ax 8) (ax 9) (ax 16) (ax 17) (ax 18) (ax 19) (ax 20) (ax 21) (ax 22) (ax 23) (ax 24)) (cwV 2 hts gl_300_X8_drawn rfl rfl rfl (by decide +kernel) ⟨Nat.le_of_ble_eq_true rfl, Nat.le_of_ble_eq_true rfl⟩) rfl (by decide) rfl rfl rfl hl.1 rfl (Nat.le_of_ble_eq_true rfl) dL_law_2137 ⟨Nat.le_of_ble_eq_true rfl, Nat.le_of_ble_eq_true rfl⟩) (fun r_1 u_1 H locs hq_1 hP hD hS => ?_)
  have hP : va_P D vwCl [(y0, .inr (9, [.int 0, .ref (ay 0), .ref (ay 1), .ref (ay 2), .ref (ay 3), .int 0, .ref (ay 4), .int 0, .int 0, .int 0, .int 0, .int 0, .int 0, .int (-1), .ref (ay 5), .ref (ay 6), .int 0, .int 0, .int 0, .ref (ay 7), .ref (ay 8), .ref (ay 9), .ref (ay 10), .ref (ay 11), .ref (ay 12), .int 0, .int 0, .int 0, .int 0, .int 0, .int 0, .int 0, .int 0, .int 0, .ref (ay 13), .long 0, .long 0, .long 0, .ref (ay 14), .ref (ay 15), .ref (ay 16), .ref (ay 17)])), (ay 0, .inl (cs 1, 76, .inl (fun _ => 0))), (ay 6, .inl (cs 1, 3, .inl (fun _ => 0)))] H := hP
  have hD : va_D (fun q : Nat => s.heap.size ≤ q) [(y0, .inr (9, [.int 0, .ref (ay 0), .ref (ay 1), .ref (ay 2), .ref (ay 3), .int 0, .ref (ay 4), .int 0, .int 0, .int 0, .int 0, .int 0, .int 0, .int (-1), .ref (ay 5), .ref (ay 6), .int 0, .int 0, .int 0, .ref (ay 7), .ref (ay 8), .ref (ay 9), .ref (ay 10), .ref (ay 11), .ref (ay 12), .int 0, .int 0, .int 0, .int 0, .int 0, .int 0, .int 0, .int 0, .int 0, .ref (ay 13), .long 0, .long 0, .long 0, .ref (ay 14), .ref (ay 15), .ref (ay 16), .ref (ay 17)])), (ay 0, .inl (cs 1, 76, .inl (fun _ => 0))), (ay 6, .inl (cs 1, 3, .inl (fun _ => 0)))] := hD
  replace hq_1 : r_1 = (-2) := hq_1
  subst hq_1
  refine lv_aload_n hx hb dL_law_2140 rfl (lv_at hl 1 rfl) ?_
  refine lv_aload_n hx hb dL_law_2141 rfl (lv_at hl 3 rfl) ?_
  refine lv_iload_n hx hb dL_law_2142 rfl (lv_at hl 0 rfl) ?_
  refine lv_iconst (v := 1) hx hb dL_law_2143 (by decide) ?_
  refine lv_iadd hx hb dL_law_2144 ?_
  refine cf_i 1 (by decide) ?_
  refine va_sld hx hb hX hbl hbA hS (vp_c (by decide)) dL_law_2145 ?_
  refine cf_v (.int (xs 1)) rfl ?_
  refine lv_aload_n hx hb dL_law_2146 rfl (lv_at hl 3 rfl) ?_
  refine lv_iload_n hx hb dL_law_2147 rfl (lv_at hl 0 rfl) ?_
  refine lv_iconst (v := 2) hx hb dL_law_2148 (by decide) ?_
  refine lv_iadd hx hb dL_law_2149 ?_
  refine cf_i 2 (by decide) ?_
  refine va_sld hx hb hX hbl hbA hS (vp_c (by decide)) dL_law_2150 ?_
  refine cf_v (.int (xs 2)) rfl ?_
  refine aft_i (wr := []) hP hD hS hA [0, 1, 2] [] rfl rfl (by decide) (by decide) (run_v (As := [.int (xs 1), .int (xs 2)]) (rest := [.int (-2)]) hFix hK hE hP hD [0, 1, 2] (k_X9_drawn l D cs _ y0 (xs 1) (xs 2) (ay 0) (ay 1) (ay 2) (ay 3) (ay 4) (ay 5) (ay 6) (ay 7) (ay 8) (ay 9) (ay 10) (ay 11) (ay 12) (ay 13) (ay 14) (ay 15) (ay 16) (ay 17)) (cwV 2 hts gl_303_X9_drawn rfl rfl rfl (by decide +kernel) ⟨Nat.le_of_ble_eq_true rfl, Nat.le_of_ble_eq_true rfl⟩) rfl (by decide) rfl rfl rfl hl.1 rfl (Nat.le_of_ble_eq_true rfl) dL_law_2151 ⟨Nat.le_of_ble_eq_true rfl, Nat.le_of_ble_eq_true rfl⟩) (fun r_2 u_2 H locs hq_2 hP hD hS => ?_)
  replace hq_2 : r_2 = (-2) := hq_2
  subst hq_2
  refine lv_icmp_eq (tgt := 2473) hx hb dL_law_2154 (by decide) (fun _ => ?_) (fun h9 => absurd h9 (by decide))
  exact law_end l C0 hS (lv_sub hl [0, 3] rfl) (Nat.le_of_ble_eq_true rfl) (Nat.le_of_ble_eq_true rfl)

set_option maxHeartbeats 4000000 in
set_option maxRecDepth 100000 in
theorem law_case_71 {p : Program} {e : Env} {s : State} {m : MethodId} {below : List Frame} {meth : Method} {c : Code} (l : Launch) {b : Nat} {xs : Nat → Int32} (C0 : lw_At p s m meth c b 6 xs) {D : va_G} {cs : Nat → ClassId} (hK : va_K D vwCl (mtyA cs) s) (hE : mEnv s) {x0 y0 : Nat} {ax ay : Nat → Nat} {H : Heap} {locs : List Loc} {ls : Array Slot} (hP : va_P D vwCl (lawW cs x0 ax y0 ay) H) (hD : va_D (fun q : Nat => s.heap.size ≤ q) (lawW cs x0 ax y0 ay)) (hS : va_S (fun q : Nat => s.heap.size ≤ q) s.heap H locs) (hl : lv_has ls 4 [(3, .int 0), (2, .ref y0), (1, .ref x0), (0, .ref b)]) : W p l e room_1 s m #[Value.ref b] below meth c H locs 81 7838 (lw_Z below #[Value.ref b] s) (F0 m 2159 ls []) := by
  obtain ⟨hx, hb, hr, hml, hown, hts, hX, hbl, hlocks, hgv⟩ := id C0
  have hA : ∀ q : Nat, s.heap.size ≤ q → (fun q : Nat => s.heap.size ≤ q) q := fun _ h => h
  have hbA : ¬ (fun q : Nat => s.heap.size ≤ q) b := Nat.not_le.mpr hbl
  have hFix := (⟨hx, hb, hml, hown, hts⟩ : CallFix p m c _ _ s #[Value.ref b] lw_tbl RL)
  replace hP := hP.sub (ws' := [(x0, .inr (8, [.ref (ax 0), .ref (ax 1), .ref (ax 2), .ref (ax 3), .ref (ax 4), .ref (ax 5), .ref (ax 6), .ref (ax 7), .ref (ax 8), .ref (ax 9)])), (ax 2, .inr (0, [.int 0, .int 0, .int 0, .int 0, .int 0, .int 0, .int 0, .int 0, .int 0, .int 0, .ref (ax 16), .ref (ax 17), .ref (ax 18), .ref (ax 19), .ref (ax 20)])), (ax 4, .inr (6, [.int 0, .int 0, .int 0, .long 0, .ref (ax 21), .ref (ax 22), .ref (ax 23), .ref (ax 24)])), (y0, .inr (9, [.int 0, .ref (ay 0), .ref (ay 1), .ref (ay 2), .ref (ay 3), .int 0, .ref (ay 4), .int 0, .int 0, .int 0, .int 0, .int 0, .int 0, .int (-1), .ref (ay 5), .ref (ay 6), .int 0, .int 0, .int 0, .ref (ay 7), .ref (ay 8), .ref (ay 9), .ref (ay 10), .ref (ay 11), .ref (ay 12), .int 0, .int 0, .int 0, .int 0, .int 0, .int 0, .int 0, .int 0, .int 0, .ref (ay 13), .long 0, .long 0, .long 0, .ref (ay 14), .ref (ay 15), .ref (ay 16), .ref (ay 17)])), (ay 0, .inl (cs 1, 76, .inl (fun _ => 0))), (ay 6, .inl (cs 1, 3, .inl (fun _ => 0)))]) [0, 9, 16, 62, 63, 69] rfl
  replace hD := hD.sub (ws' := [(x0, .inr (8, [.ref (ax 0), .ref (ax 1), .ref (ax 2), .ref (ax 3), .ref (ax 4), .ref (ax 5), .ref (ax 6), .ref (ax 7), .ref (ax 8), .ref (ax 9)])), (ax 2, .inr (0, [.int 0, .int 0, .int 0, .int 0, .int 0, .int 0, .int 0, .int 0, .int 0, .int 0, .ref (ax 16), .ref (ax 17), .ref (ax 18), .ref (ax 19), .ref (ax 20)])), (ax 4, .inr (6, [.int 0, .int 0, .int 0, .long 0, .ref (ax 21), .ref (ax 22), .ref (ax 23), .ref (ax 24)])), (y0, .inr (9, [.int 0, .ref (ay 0), .ref (ay 1), .ref (ay 2), .ref (ay 3), .int 0, .ref (ay 4), .int 0, .int 0, .int 0, .int 0, .int 0, .int 0, .int (-1), .ref (ay 5), .ref (ay 6), .int 0, .int 0, .int 0, .ref (ay 7), .ref (ay 8), .ref (ay 9), .ref (ay 10), .ref (ay 11), .ref (ay 12), .int 0, .int 0, .int 0, .int 0, .int 0, .int 0, .int 0, .int 0, .int 0, .ref (ay 13), .long 0, .long 0, .long 0, .ref (ay 14), .ref (ay 15), .ref (ay 16), .ref (ay 17)])), (ay 0, .inl (cs 1, 76, .inl (fun _ => 0))), (ay 6, .inl (cs 1, 3, .inl (fun _ => 0)))]) [0, 9, 16, 62, 63, 69] (by decide) rfl
  refine lv_aload_n hx hb dL_law_2159 rfl (lv_at hl 2 rfl) ?_
  refine lv_aload_n hx hb dL_law_2160 rfl (lv_at hl 3 rfl) ?_
  refine lv_iload_n hx hb dL_law_2161 rfl (lv_at hl 0 rfl) ?_
  refine lv_iconst (v := 1) hx hb dL_law_2162 (by decide) ?_
  refine lv_iadd hx hb dL_law_2163 ?_
  refine cf_i 1 (by decide) ?_
  refine va_sld hx hb hX hbl hbA hS (vp_c (by decide)) dL_law_2164 ?_
  refine cf_v (.int (xs 1)) rfl ?_
  refine lv_aload_n hx hb dL_law_2165 rfl (lv_at hl 3 rfl) ?_
  refine lv_iload_n hx hb dL_law_2166 rfl (lv_at hl 0 rfl) ?_
  refine lv_iconst (v := 2) hx hb dL_law_2167 (by decide) ?_
  refine lv_iadd hx hb dL_law_2168 ?_
  refine cf_i 2 (by decide) ?_
  refine va_sld hx hb hX hbl hbA hS (vp_c (by decide)) dL_law_2169 ?_
  refine cf_v (.int (xs 2)) rfl ?_
  refine aft_i (wr := [(y0, .inr (9, [.int 0, .ref (ay 0), .ref (ay 1), .ref (ay 2), .ref (ay 3), .int 0, .ref (ay 4), .int 0, .int 0, .int 0, .int 0, .int 0, .int 0, .int (-1), .ref (ay 5), .ref (ay 6), .int 0, .int 0, .int 0, .ref (ay 7), .ref (ay 8), .ref (ay 9), .ref (ay 10), .ref (ay 11), .ref (ay 12), .int 0, .int 0, .int 0, .int 0, .int 0, .int 0, .int 0, .int 0, .int 0, .ref (ay 13), .long 0, .long 0, .long 0, .ref (ay 14), .ref (ay 15), .ref (ay 16), .ref (ay 17)])), (ay 0, .inl (cs 1, 76, .inl (fun _ => 0))), (ay 6, .inl (cs 1, 3, .inl (fun _ => 0)))]) hP hD hS hA [0, 1, 2] [3, 4, 5] rfl rfl (by decide) (by decide) (run_v (As := [.int (xs 1), .int (xs 2)]) (rest := []) hFix hK hE hP hD [0, 1, 2] (k_X8_luck l D cs _ x0 (xs 1) (xs 2) (ax 0) (ax 1) (ax 2) (ax 3) (ax 4) (ax 5) (ax 6) (ax 7) (ax 8) (ax 9) (ax 16) (ax 17) (ax 18) (ax 19) (ax 20) (ax 21) (ax 22) (ax 23) (ax 24)) (cwV 2 hts gl_304_X8_luck rfl rfl rfl (by decide +kernel) ⟨Nat.le_of_ble_eq_true rfl, Nat.le_of_ble_eq_true rfl⟩) rfl (by decide) rfl rfl rfl hl.1 rfl (Nat.le_of_ble_eq_true rfl) dL_law_2170 ⟨Nat.le_of_ble_eq_true rfl, Nat.le_of_ble_eq_true rfl⟩) (fun r_1 u_1 H locs hq_1 hP hD hS => ?_)
  have hP : va_P D vwCl [(y0, .inr (9, [.int 0, .ref (ay 0), .ref (ay 1), .ref (ay 2), .ref (ay 3), .int 0, .ref (ay 4), .int 0, .int 0, .int 0, .int 0, .int 0, .int 0, .int (-1), .ref (ay 5), .ref (ay 6), .int 0, .int 0, .int 0, .ref (ay 7), .ref (ay 8), .ref (ay 9), .ref (ay 10), .ref (ay 11), .ref (ay 12), .int 0, .int 0, .int 0, .int 0, .int 0, .int 0, .int 0, .int 0, .int 0, .ref (ay 13), .long 0, .long 0, .long 0, .ref (ay 14), .ref (ay 15), .ref (ay 16), .ref (ay 17)])), (ay 0, .inl (cs 1, 76, .inl (fun _ => 0))), (ay 6, .inl (cs 1, 3, .inl (fun _ => 0)))] H := hP
  have hD : va_D (fun q : Nat => s.heap.size ≤ q) [(y0, .inr (9, [.int 0, .ref (ay 0), .ref (ay 1), .ref (ay 2), .ref (ay 3), .int 0, .ref (ay 4), .int 0, .int 0, .int 0, .int 0, .int 0, .int 0, .int (-1), .ref (ay 5), .ref (ay 6), .int 0, .int 0, .int 0, .ref (ay 7), .ref (ay 8), .ref (ay 9), .ref (ay 10), .ref (ay 11), .ref (ay 12), .int 0, .int 0, .int 0, .int 0, .int 0, .int 0, .int 0, .int 0, .int 0, .ref (ay 13), .long 0, .long 0, .long 0, .ref (ay 14), .ref (ay 15), .ref (ay 16), .ref (ay 17)])), (ay 0, .inl (cs 1, 76, .inl (fun _ => 0))), (ay 6, .inl (cs 1, 3, .inl (fun _ => 0)))] := hD
  replace hq_1 : r_1 = (-2) := hq_1
  subst hq_1
  refine lv_aload_n hx hb dL_law_2173 rfl (lv_at hl 1 rfl) ?_
  refine lv_aload_n hx hb dL_law_2174 rfl (lv_at hl 3 rfl) ?_
  refine lv_iload_n hx hb dL_law_2175 rfl (lv_at hl 0 rfl) ?_
  refine lv_iconst (v := 1) hx hb dL_law_2176 (by decide) ?_
  refine lv_iadd hx hb dL_law_2177 ?_
  refine cf_i 1 (by decide) ?_
  refine va_sld hx hb hX hbl hbA hS (vp_c (by decide)) dL_law_2178 ?_
  refine cf_v (.int (xs 1)) rfl ?_
  refine lv_aload_n hx hb dL_law_2179 rfl (lv_at hl 3 rfl) ?_
  refine lv_iload_n hx hb dL_law_2180 rfl (lv_at hl 0 rfl) ?_
  refine lv_iconst (v := 2) hx hb dL_law_2181 (by decide) ?_
  refine lv_iadd hx hb dL_law_2182 ?_
  refine cf_i 2 (by decide) ?_
  refine va_sld hx hb hX hbl hbA hS (vp_c (by decide)) dL_law_2183 ?_
  refine cf_v (.int (xs 2)) rfl ?_
  refine aft_i (wr := []) hP hD hS hA [0, 1, 2] [] rfl rfl (by decide) (by decide) (run_v (As := [.int (xs 1), .int (xs 2)]) (rest := [.int (-2)]) hFix hK hE hP hD [0, 1, 2] (k_X9_luck l D cs _ y0 (xs 1) (xs 2) (ay 0) (ay 1) (ay 2) (ay 3) (ay 4) (ay 5) (ay 6) (ay 7) (ay 8) (ay 9) (ay 10) (ay 11) (ay 12) (ay 13) (ay 14) (ay 15) (ay 16) (ay 17)) (cwV 2 hts gl_307_X9_luck rfl rfl rfl (by decide +kernel) ⟨Nat.le_of_ble_eq_true rfl, Nat.le_of_ble_eq_true rfl⟩) rfl (by decide) rfl rfl rfl hl.1 rfl (Nat.le_of_ble_eq_true rfl) dL_law_2184 ⟨Nat.le_of_ble_eq_true rfl, Nat.le_of_ble_eq_true rfl⟩) (fun r_2 u_2 H locs hq_2 hP hD hS => ?_)
  replace hq_2 : r_2 = (-2) := hq_2
  subst hq_2
  refine lv_icmp_eq (tgt := 2473) hx hb dL_law_2187 (by decide) (fun _ => ?_) (fun h9 => absurd h9 (by decide))
  exact law_end l C0 hS (lv_sub hl [0, 3] rfl) (Nat.le_of_ble_eq_true rfl) (Nat.le_of_ble_eq_true rfl)

set_option maxHeartbeats 4000000 in
set_option maxRecDepth 100000 in
theorem law_case_72 {p : Program} {e : Env} {s : State} {m : MethodId} {below : List Frame} {meth : Method} {c : Code} (l : Launch) {b : Nat} {xs : Nat → Int32} (C0 : lw_At p s m meth c b 6 xs) {D : va_G} {cs : Nat → ClassId} (hK : va_K D vwCl (mtyA cs) s) (hE : mEnv s) {x0 y0 : Nat} {ax ay : Nat → Nat} {H : Heap} {locs : List Loc} {ls : Array Slot} (hP : va_P D vwCl (lawW cs x0 ax y0 ay) H) (hD : va_D (fun q : Nat => s.heap.size ≤ q) (lawW cs x0 ax y0 ay)) (hS : va_S (fun q : Nat => s.heap.size ≤ q) s.heap H locs) (hl : lv_has ls 4 [(3, .int 0), (2, .ref y0), (1, .ref x0), (0, .ref b)]) : W p l e room_1 s m #[Value.ref b] below meth c H locs 81 7838 (lw_Z below #[Value.ref b] s) (F0 m 2192 ls []) := by
  obtain ⟨hx, hb, hr, hml, hown, hts, hX, hbl, hlocks, hgv⟩ := id C0
  have hA : ∀ q : Nat, s.heap.size ≤ q → (fun q : Nat => s.heap.size ≤ q) q := fun _ h => h
  have hbA : ¬ (fun q : Nat => s.heap.size ≤ q) b := Nat.not_le.mpr hbl
  have hFix := (⟨hx, hb, hml, hown, hts⟩ : CallFix p m c _ _ s #[Value.ref b] lw_tbl RL)
  replace hP := hP.sub (ws' := [(x0, .inr (8, [.ref (ax 0), .ref (ax 1), .ref (ax 2), .ref (ax 3), .ref (ax 4), .ref (ax 5), .ref (ax 6), .ref (ax 7), .ref (ax 8), .ref (ax 9)])), (ax 2, .inr (0, [.int 0, .int 0, .int 0, .int 0, .int 0, .int 0, .int 0, .int 0, .int 0, .int 0, .ref (ax 16), .ref (ax 17), .ref (ax 18), .ref (ax 19), .ref (ax 20)])), (ax 4, .inr (6, [.int 0, .int 0, .int 0, .long 0, .ref (ax 21), .ref (ax 22), .ref (ax 23), .ref (ax 24)])), (y0, .inr (9, [.int 0, .ref (ay 0), .ref (ay 1), .ref (ay 2), .ref (ay 3), .int 0, .ref (ay 4), .int 0, .int 0, .int 0, .int 0, .int 0, .int 0, .int (-1), .ref (ay 5), .ref (ay 6), .int 0, .int 0, .int 0, .ref (ay 7), .ref (ay 8), .ref (ay 9), .ref (ay 10), .ref (ay 11), .ref (ay 12), .int 0, .int 0, .int 0, .int 0, .int 0, .int 0, .int 0, .int 0, .int 0, .ref (ay 13), .long 0, .long 0, .long 0, .ref (ay 14), .ref (ay 15), .ref (ay 16), .ref (ay 17)])), (ay 0, .inl (cs 1, 76, .inl (fun _ => 0))), (ay 6, .inl (cs 1, 3, .inl (fun _ => 0)))]) [0, 9, 16, 62, 63, 69] rfl
  replace hD := hD.sub (ws' := [(x0, .inr (8, [.ref (ax 0), .ref (ax 1), .ref (ax 2), .ref (ax 3), .ref (ax 4), .ref (ax 5), .ref (ax 6), .ref (ax 7), .ref (ax 8), .ref (ax 9)])), (ax 2, .inr (0, [.int 0, .int 0, .int 0, .int 0, .int 0, .int 0, .int 0, .int 0, .int 0, .int 0, .ref (ax 16), .ref (ax 17), .ref (ax 18), .ref (ax 19), .ref (ax 20)])), (ax 4, .inr (6, [.int 0, .int 0, .int 0, .long 0, .ref (ax 21), .ref (ax 22), .ref (ax 23), .ref (ax 24)])), (y0, .inr (9, [.int 0, .ref (ay 0), .ref (ay 1), .ref (ay 2), .ref (ay 3), .int 0, .ref (ay 4), .int 0, .int 0, .int 0, .int 0, .int 0, .int 0, .int (-1), .ref (ay 5), .ref (ay 6), .int 0, .int 0, .int 0, .ref (ay 7), .ref (ay 8), .ref (ay 9), .ref (ay 10), .ref (ay 11), .ref (ay 12), .int 0, .int 0, .int 0, .int 0, .int 0, .int 0, .int 0, .int 0, .int 0, .ref (ay 13), .long 0, .long 0, .long 0, .ref (ay 14), .ref (ay 15), .ref (ay 16), .ref (ay 17)])), (ay 0, .inl (cs 1, 76, .inl (fun _ => 0))), (ay 6, .inl (cs 1, 3, .inl (fun _ => 0)))]) [0, 9, 16, 62, 63, 69] (by decide) rfl
  refine lv_aload_n hx hb dL_law_2192 rfl (lv_at hl 2 rfl) ?_
  refine lv_aload_n hx hb dL_law_2193 rfl (lv_at hl 3 rfl) ?_
  refine lv_iload_n hx hb dL_law_2194 rfl (lv_at hl 0 rfl) ?_
  refine lv_iconst (v := 1) hx hb dL_law_2195 (by decide) ?_
  refine lv_iadd hx hb dL_law_2196 ?_
  refine cf_i 1 (by decide) ?_
  refine va_sld hx hb hX hbl hbA hS (vp_c (by decide)) dL_law_2197 ?_
  refine cf_v (.int (xs 1)) rfl ?_
  refine lv_aload_n hx hb dL_law_2198 rfl (lv_at hl 3 rfl) ?_
  refine lv_iload_n hx hb dL_law_2199 rfl (lv_at hl 0 rfl) ?_
  refine lv_iconst (v := 2) hx hb dL_law_2200 (by decide) ?_
  refine lv_iadd hx hb dL_law_2201 ?_
  refine cf_i 2 (by decide) ?_
  refine va_sld hx hb hX hbl hbA hS (vp_c (by decide)) dL_law_2202 ?_
  refine cf_v (.int (xs 2)) rfl ?_
  refine aft_i (wr := [(y0, .inr (9, [.int 0, .ref (ay 0), .ref (ay 1), .ref (ay 2), .ref (ay 3), .int 0, .ref (ay 4), .int 0, .int 0, .int 0, .int 0, .int 0, .int 0, .int (-1), .ref (ay 5), .ref (ay 6), .int 0, .int 0, .int 0, .ref (ay 7), .ref (ay 8), .ref (ay 9), .ref (ay 10), .ref (ay 11), .ref (ay 12), .int 0, .int 0, .int 0, .int 0, .int 0, .int 0, .int 0, .int 0, .int 0, .ref (ay 13), .long 0, .long 0, .long 0, .ref (ay 14), .ref (ay 15), .ref (ay 16), .ref (ay 17)])), (ay 0, .inl (cs 1, 76, .inl (fun _ => 0))), (ay 6, .inl (cs 1, 3, .inl (fun _ => 0)))]) hP hD hS hA [0, 1, 2] [3, 4, 5] rfl rfl (by decide) (by decide) (run_v (As := [.int (xs 1), .int (xs 2)]) (rest := []) hFix hK hE hP hD [0, 1, 2] (k_X8_rate l D cs _ x0 (xs 1) (xs 2) (ax 0) (ax 1) (ax 2) (ax 3) (ax 4) (ax 5) (ax 6) (ax 7) (ax 8) (ax 9) (ax 16) (ax 17) (ax 18) (ax 19) (ax 20) (ax 21) (ax 22) (ax 23) (ax 24)) (cwV 2 hts gl_308_X8_rate rfl rfl rfl (by decide +kernel) ⟨Nat.le_of_ble_eq_true rfl, Nat.le_of_ble_eq_true rfl⟩) rfl (by decide) rfl rfl rfl hl.1 rfl (Nat.le_of_ble_eq_true rfl) dL_law_2203 ⟨Nat.le_of_ble_eq_true rfl, Nat.le_of_ble_eq_true rfl⟩) (fun r_1 u_1 H locs hq_1 hP hD hS => ?_)
  have hP : va_P D vwCl [(y0, .inr (9, [.int 0, .ref (ay 0), .ref (ay 1), .ref (ay 2), .ref (ay 3), .int 0, .ref (ay 4), .int 0, .int 0, .int 0, .int 0, .int 0, .int 0, .int (-1), .ref (ay 5), .ref (ay 6), .int 0, .int 0, .int 0, .ref (ay 7), .ref (ay 8), .ref (ay 9), .ref (ay 10), .ref (ay 11), .ref (ay 12), .int 0, .int 0, .int 0, .int 0, .int 0, .int 0, .int 0, .int 0, .int 0, .ref (ay 13), .long 0, .long 0, .long 0, .ref (ay 14), .ref (ay 15), .ref (ay 16), .ref (ay 17)])), (ay 0, .inl (cs 1, 76, .inl (fun _ => 0))), (ay 6, .inl (cs 1, 3, .inl (fun _ => 0)))] H := hP
  have hD : va_D (fun q : Nat => s.heap.size ≤ q) [(y0, .inr (9, [.int 0, .ref (ay 0), .ref (ay 1), .ref (ay 2), .ref (ay 3), .int 0, .ref (ay 4), .int 0, .int 0, .int 0, .int 0, .int 0, .int 0, .int (-1), .ref (ay 5), .ref (ay 6), .int 0, .int 0, .int 0, .ref (ay 7), .ref (ay 8), .ref (ay 9), .ref (ay 10), .ref (ay 11), .ref (ay 12), .int 0, .int 0, .int 0, .int 0, .int 0, .int 0, .int 0, .int 0, .int 0, .ref (ay 13), .long 0, .long 0, .long 0, .ref (ay 14), .ref (ay 15), .ref (ay 16), .ref (ay 17)])), (ay 0, .inl (cs 1, 76, .inl (fun _ => 0))), (ay 6, .inl (cs 1, 3, .inl (fun _ => 0)))] := hD
  replace hq_1 : r_1 = (-2) := hq_1
  subst hq_1
  refine lv_aload_n hx hb dL_law_2206 rfl (lv_at hl 1 rfl) ?_
  refine lv_aload_n hx hb dL_law_2207 rfl (lv_at hl 3 rfl) ?_
  refine lv_iload_n hx hb dL_law_2208 rfl (lv_at hl 0 rfl) ?_
  refine lv_iconst (v := 1) hx hb dL_law_2209 (by decide) ?_
  refine lv_iadd hx hb dL_law_2210 ?_
  refine cf_i 1 (by decide) ?_
  refine va_sld hx hb hX hbl hbA hS (vp_c (by decide)) dL_law_2211 ?_
  refine cf_v (.int (xs 1)) rfl ?_
  refine lv_aload_n hx hb dL_law_2212 rfl (lv_at hl 3 rfl) ?_
  refine lv_iload_n hx hb dL_law_2213 rfl (lv_at hl 0 rfl) ?_
  refine lv_iconst (v := 2) hx hb dL_law_2214 (by decide) ?_
  refine lv_iadd hx hb dL_law_2215 ?_
  refine cf_i 2 (by decide) ?_
  refine va_sld hx hb hX hbl hbA hS (vp_c (by decide)) dL_law_2216 ?_
  refine cf_v (.int (xs 2)) rfl ?_
  refine aft_i (wr := []) hP hD hS hA [0, 1, 2] [] rfl rfl (by decide) (by decide) (run_v (As := [.int (xs 1), .int (xs 2)]) (rest := [.int (-2)]) hFix hK hE hP hD [0, 1, 2] (k_X9_rate l D cs _ y0 (xs 1) (xs 2) (ay 0) (ay 1) (ay 2) (ay 3) (ay 4) (ay 5) (ay 6) (ay 7) (ay 8) (ay 9) (ay 10) (ay 11) (ay 12) (ay 13) (ay 14) (ay 15) (ay 16) (ay 17)) (cwV 2 hts gl_311_X9_rate rfl rfl rfl (by decide +kernel) ⟨Nat.le_of_ble_eq_true rfl, Nat.le_of_ble_eq_true rfl⟩) rfl (by decide) rfl rfl rfl hl.1 rfl (Nat.le_of_ble_eq_true rfl) dL_law_2217 ⟨Nat.le_of_ble_eq_true rfl, Nat.le_of_ble_eq_true rfl⟩) (fun r_2 u_2 H locs hq_2 hP hD hS => ?_)
  replace hq_2 : r_2 = (-2) := hq_2
  subst hq_2
  refine lv_icmp_eq (tgt := 2473) hx hb dL_law_2220 (by decide) (fun _ => ?_) (fun h9 => absurd h9 (by decide))
  exact law_end l C0 hS (lv_sub hl [0, 3] rfl) (Nat.le_of_ble_eq_true rfl) (Nat.le_of_ble_eq_true rfl)

set_option maxHeartbeats 4000000 in
set_option maxRecDepth 100000 in
theorem law_case_73 {p : Program} {e : Env} {s : State} {m : MethodId} {below : List Frame} {meth : Method} {c : Code} (l : Launch) {b : Nat} {xs : Nat → Int32} (C0 : lw_At p s m meth c b 6 xs) {D : va_G} {cs : Nat → ClassId} (hK : va_K D vwCl (mtyA cs) s) (hE : mEnv s) {x0 y0 : Nat} {ax ay : Nat → Nat} {H : Heap} {locs : List Loc} {ls : Array Slot} (hP : va_P D vwCl (lawW cs x0 ax y0 ay) H) (hD : va_D (fun q : Nat => s.heap.size ≤ q) (lawW cs x0 ax y0 ay)) (hS : va_S (fun q : Nat => s.heap.size ≤ q) s.heap H locs) (hl : lv_has ls 4 [(3, .int 0), (2, .ref y0), (1, .ref x0), (0, .ref b)]) : W p l e room_1 s m #[Value.ref b] below meth c H locs 81 7838 (lw_Z below #[Value.ref b] s) (F0 m 2225 ls []) := by
  obtain ⟨hx, hb, hr, hml, hown, hts, hX, hbl, hlocks, hgv⟩ := id C0
  have hA : ∀ q : Nat, s.heap.size ≤ q → (fun q : Nat => s.heap.size ≤ q) q := fun _ h => h
  have hbA : ¬ (fun q : Nat => s.heap.size ≤ q) b := Nat.not_le.mpr hbl
  have hFix := (⟨hx, hb, hml, hown, hts⟩ : CallFix p m c _ _ s #[Value.ref b] lw_tbl RL)
  replace hP := hP.sub (ws' := [(x0, .inr (8, [.ref (ax 0), .ref (ax 1), .ref (ax 2), .ref (ax 3), .ref (ax 4), .ref (ax 5), .ref (ax 6), .ref (ax 7), .ref (ax 8), .ref (ax 9)])), (ax 2, .inr (0, [.int 0, .int 0, .int 0, .int 0, .int 0, .int 0, .int 0, .int 0, .int 0, .int 0, .ref (ax 16), .ref (ax 17), .ref (ax 18), .ref (ax 19), .ref (ax 20)])), (ax 0, .inr (7, [.ref (ax 10), .int 0])), (ax 9, .inl (cs 5, 4, .inr (.inr (.inr (.inr (va_up (va_up (va_up (va_up (fun _ => none) 0 (some (ax 53))) 1 (some (ax 54))) 2 (some (ax 55))) 3 (some (ax 56)))))))), (ax 53, .inr (5, [.int 0, .int 0, .int 0, .ref (ax 57)])), (ax 54, .inr (5, [.int 0, .int 0, .int 0, .ref (ax 58)])), (ax 55, .inr (5, [.int 0, .int 0, .int 0, .ref (ax 59)])), (ax 56, .inr (5, [.int 0, .int 0, .int 0, .ref (ax 60)])), (y0, .inr (9, [.int 0, .ref (ay 0), .ref (ay 1), .ref (ay 2), .ref (ay 3), .int 0, .ref (ay 4), .int 0, .int 0, .int 0, .int 0, .int 0, .int 0, .int (-1), .ref (ay 5), .ref (ay 6), .int 0, .int 0, .int 0, .ref (ay 7), .ref (ay 8), .ref (ay 9), .ref (ay 10), .ref (ay 11), .ref (ay 12), .int 0, .int 0, .int 0, .int 0, .int 0, .int 0, .int 0, .int 0, .int 0, .ref (ay 13), .long 0, .long 0, .long 0, .ref (ay 14), .ref (ay 15), .ref (ay 16), .ref (ay 17)])), (ay 0, .inl (cs 1, 76, .inl (fun _ => 0))), (ay 14, .inl (cs 1, 4, .inl (upd (upd (upd (upd (fun _ => 0) 0 (-1)) 1 (-1)) 2 (-1)) 3 (-1))))]) [0, 9, 1, 53, 54, 56, 58, 60, 62, 63, 77] rfl
  replace hD := hD.sub (ws' := [(x0, .inr (8, [.ref (ax 0), .ref (ax 1), .ref (ax 2), .ref (ax 3), .ref (ax 4), .ref (ax 5), .ref (ax 6), .ref (ax 7), .ref (ax 8), .ref (ax 9)])), (ax 2, .inr (0, [.int 0, .int 0, .int 0, .int 0, .int 0, .int 0, .int 0, .int 0, .int 0, .int 0, .ref (ax 16), .ref (ax 17), .ref (ax 18), .ref (ax 19), .ref (ax 20)])), (ax 0, .inr (7, [.ref (ax 10), .int 0])), (ax 9, .inl (cs 5, 4, .inr (.inr (.inr (.inr (va_up (va_up (va_up (va_up (fun _ => none) 0 (some (ax 53))) 1 (some (ax 54))) 2 (some (ax 55))) 3 (some (ax 56)))))))), (ax 53, .inr (5, [.int 0, .int 0, .int 0, .ref (ax 57)])), (ax 54, .inr (5, [.int 0, .int 0, .int 0, .ref (ax 58)])), (ax 55, .inr (5, [.int 0, .int 0, .int 0, .ref (ax 59)])), (ax 56, .inr (5, [.int 0, .int 0, .int 0, .ref (ax 60)])), (y0, .inr (9, [.int 0, .ref (ay 0), .ref (ay 1), .ref (ay 2), .ref (ay 3), .int 0, .ref (ay 4), .int 0, .int 0, .int 0, .int 0, .int 0, .int 0, .int (-1), .ref (ay 5), .ref (ay 6), .int 0, .int 0, .int 0, .ref (ay 7), .ref (ay 8), .ref (ay 9), .ref (ay 10), .ref (ay 11), .ref (ay 12), .int 0, .int 0, .int 0, .int 0, .int 0, .int 0, .int 0, .int 0, .int 0, .ref (ay 13), .long 0, .long 0, .long 0, .ref (ay 14), .ref (ay 15), .ref (ay 16), .ref (ay 17)])), (ay 0, .inl (cs 1, 76, .inl (fun _ => 0))), (ay 14, .inl (cs 1, 4, .inl (upd (upd (upd (upd (fun _ => 0) 0 (-1)) 1 (-1)) 2 (-1)) 3 (-1))))]) [0, 9, 1, 53, 54, 56, 58, 60, 62, 63, 77] (by decide) rfl
  refine lv_aload_n hx hb dL_law_2225 rfl (lv_at hl 2 rfl) ?_
  refine lv_aload_n hx hb dL_law_2226 rfl (lv_at hl 3 rfl) ?_
  refine lv_iload_n hx hb dL_law_2227 rfl (lv_at hl 0 rfl) ?_
  refine lv_iconst (v := 1) hx hb dL_law_2228 (by decide) ?_
  refine lv_iadd hx hb dL_law_2229 ?_
  refine cf_i 1 (by decide) ?_
  refine va_sld hx hb hX hbl hbA hS (vp_c (by decide)) dL_law_2230 ?_
  refine cf_v (.int (xs 1)) rfl ?_
  refine aft_i (wr := [(y0, .inr (9, [.int 0, .ref (ay 0), .ref (ay 1), .ref (ay 2), .ref (ay 3), .int 0, .ref (ay 4), .int 0, .int 0, .int 0, .int 0, .int 0, .int 0, .int (-1), .ref (ay 5), .ref (ay 6), .int 0, .int 0, .int 0, .ref (ay 7), .ref (ay 8), .ref (ay 9), .ref (ay 10), .ref (ay 11), .ref (ay 12), .int 0, .int 0, .int 0, .int 0, .int 0, .int 0, .int 0, .int 0, .int 0, .ref (ay 13), .long 0, .long 0, .long 0, .ref (ay 14), .ref (ay 15), .ref (ay 16), .ref (ay 17)])), (ay 0, .inl (cs 1, 76, .inl (fun _ => 0))), (ay 14, .inl (cs 1, 4, .inl (upd (upd (upd (upd (fun _ => 0) 0 (-1)) 1 (-1)) 2 (-1)) 3 (-1))))]) hP hD hS hA [0, 1, 2, 3, 4, 5, 6, 7] [8, 9, 10] rfl rfl (by decide) (by decide) (run_v (As := [.int (xs 1)]) (rest := []) hFix hK hE hP hD [0, 1, 2, 3, 4, 5, 6, 7] (k_X8_count l D cs _ x0 (xs 1) (ax 0) (ax 1) (ax 2) (ax 3) (ax 4) (ax 5) (ax 6) (ax 7) (ax 8) (ax 9) (ax 16) (ax 17) (ax 18) (ax 19) (ax 20) (ax 10) (ax 53) (ax 54) (ax 55) (ax 56) (ax 57) (ax 58) (ax 59) (ax 60)) (cwV 1 hts gl_312_X8_count rfl rfl rfl (by decide +kernel) ⟨Nat.le_of_ble_eq_true rfl, Nat.le_of_ble_eq_true rfl⟩) rfl (by decide) rfl rfl rfl hl.1 rfl (Nat.le_of_ble_eq_true rfl) dL_law_2231 ⟨Nat.le_of_ble_eq_true rfl, Nat.le_of_ble_eq_true rfl⟩) (fun r_1 u_1 H locs hq_1 hP hD hS => ?_)
  have hP : va_P D vwCl [(y0, .inr (9, [.int 0, .ref (ay 0), .ref (ay 1), .ref (ay 2), .ref (ay 3), .int 0, .ref (ay 4), .int 0, .int 0, .int 0, .int 0, .int 0, .int 0, .int (-1), .ref (ay 5), .ref (ay 6), .int 0, .int 0, .int 0, .ref (ay 7), .ref (ay 8), .ref (ay 9), .ref (ay 10), .ref (ay 11), .ref (ay 12), .int 0, .int 0, .int 0, .int 0, .int 0, .int 0, .int 0, .int 0, .int 0, .ref (ay 13), .long 0, .long 0, .long 0, .ref (ay 14), .ref (ay 15), .ref (ay 16), .ref (ay 17)])), (ay 0, .inl (cs 1, 76, .inl (fun _ => 0))), (ay 14, .inl (cs 1, 4, .inl (upd (upd (upd (upd (fun _ => 0) 0 (-1)) 1 (-1)) 2 (-1)) 3 (-1))))] H := hP
  have hD : va_D (fun q : Nat => s.heap.size ≤ q) [(y0, .inr (9, [.int 0, .ref (ay 0), .ref (ay 1), .ref (ay 2), .ref (ay 3), .int 0, .ref (ay 4), .int 0, .int 0, .int 0, .int 0, .int 0, .int 0, .int (-1), .ref (ay 5), .ref (ay 6), .int 0, .int 0, .int 0, .ref (ay 7), .ref (ay 8), .ref (ay 9), .ref (ay 10), .ref (ay 11), .ref (ay 12), .int 0, .int 0, .int 0, .int 0, .int 0, .int 0, .int 0, .int 0, .int 0, .ref (ay 13), .long 0, .long 0, .long 0, .ref (ay 14), .ref (ay 15), .ref (ay 16), .ref (ay 17)])), (ay 0, .inl (cs 1, 76, .inl (fun _ => 0))), (ay 14, .inl (cs 1, 4, .inl (upd (upd (upd (upd (fun _ => 0) 0 (-1)) 1 (-1)) 2 (-1)) 3 (-1))))] := hD
  replace hq_1 : (r_1 = 0 ∧ (0 ≤ (xs 1).toInt ∧ (xs 1).toInt ≤ 9)) ∨ (r_1 = (-1) ∧ ¬ (0 ≤ (xs 1).toInt ∧ (xs 1).toInt ≤ 9)) := hq_1
  rcases hq_1 with ⟨rfl, hq_1⟩ | ⟨rfl, hq_1⟩
  ·
    refine lv_aload_n hx hb dL_law_2234 rfl (lv_at hl 1 rfl) ?_
    refine lv_aload_n hx hb dL_law_2235 rfl (lv_at hl 3 rfl) ?_
    refine lv_iload_n hx hb dL_law_2236 rfl (lv_at hl 0 rfl) ?_
    refine lv_iconst (v := 1) hx hb dL_law_2237 (by decide) ?_
    refine lv_iadd hx hb dL_law_2238 ?_
    refine cf_i 1 (by decide) ?_
    refine va_sld hx hb hX hbl hbA hS (vp_c (by decide)) dL_law_2239 ?_
    refine cf_v (.int (xs 1)) rfl ?_
    refine aft_i (wr := []) hP hD hS hA [0, 1, 2] [] rfl rfl (by decide) (by decide) (run_v (As := [.int (xs 1)]) (rest := [.int 0]) hFix hK hE hP hD [0, 1, 2] (k_X9_count l D cs _ y0 (xs 1) (ay 0) (ay 1) (ay 2) (ay 3) (ay 4) (ay 5) (ay 6) (ay 7) (ay 8) (ay 9) (ay 10) (ay 11) (ay 12) (ay 13) (ay 14) (ay 15) (ay 16) (ay 17)) (cwV 1 hts gl_315_X9_count rfl rfl rfl (by decide +kernel) ⟨Nat.le_of_ble_eq_true rfl, Nat.le_of_ble_eq_true rfl⟩) rfl (by decide) rfl rfl rfl hl.1 rfl (Nat.le_of_ble_eq_true rfl) dL_law_2240 ⟨Nat.le_of_ble_eq_true rfl, Nat.le_of_ble_eq_true rfl⟩) (fun r_2 u_2 H locs hq_2 hP hD hS => ?_)
    replace hq_2 : (r_2 = 0 ∧ (0 ≤ (xs 1).toInt ∧ (xs 1).toInt ≤ 9)) ∨ (r_2 = (-1) ∧ ¬ (0 ≤ (xs 1).toInt ∧ (xs 1).toInt ≤ 9)) := hq_2
    rcases hq_2 with ⟨rfl, hq_2⟩ | ⟨rfl, hq_2⟩
    ·
      refine lv_icmp_eq (tgt := 2473) hx hb dL_law_2243 (by decide) (fun _ => ?_) (fun h9 => absurd h9 (by decide))
      exact law_end l C0 hS (lv_sub hl [0, 3] rfl) (Nat.le_of_ble_eq_true rfl) (Nat.le_of_ble_eq_true rfl)
    ·
      exact False.elim (by have e0 := hq_1; have e1 := hq_2; (try simp only [ge_iff_le, gt_iff_lt, ne_eq, Int32.lt_iff_toInt_lt, Int32.le_iff_toInt_le, ← Int32.toInt_inj, Int64.lt_iff_toInt_lt, Int64.le_iff_toInt_le, Int32.toInt_toInt64, i0, i1, i2, i3, i4, i7, i8, i9, i60, j0, j1, j2, j3, j7] at e0 e1); omega)
  ·
    refine lv_aload_n hx hb dL_law_2234 rfl (lv_at hl 1 rfl) ?_
    refine lv_aload_n hx hb dL_law_2235 rfl (lv_at hl 3 rfl) ?_
    refine lv_iload_n hx hb dL_law_2236 rfl (lv_at hl 0 rfl) ?_
    refine lv_iconst (v := 1) hx hb dL_law_2237 (by decide) ?_
    refine lv_iadd hx hb dL_law_2238 ?_
    refine cf_i 1 (by decide) ?_
    refine va_sld hx hb hX hbl hbA hS (vp_c (by decide)) dL_law_2239 ?_
    refine cf_v (.int (xs 1)) rfl ?_
    refine aft_i (wr := []) hP hD hS hA [0, 1, 2] [] rfl rfl (by decide) (by decide) (run_v (As := [.int (xs 1)]) (rest := [.int (-1)]) hFix hK hE hP hD [0, 1, 2] (k_X9_count l D cs _ y0 (xs 1) (ay 0) (ay 1) (ay 2) (ay 3) (ay 4) (ay 5) (ay 6) (ay 7) (ay 8) (ay 9) (ay 10) (ay 11) (ay 12) (ay 13) (ay 14) (ay 15) (ay 16) (ay 17)) (cwV 1 hts gl_315_X9_count rfl rfl rfl (by decide +kernel) ⟨Nat.le_of_ble_eq_true rfl, Nat.le_of_ble_eq_true rfl⟩) rfl (by decide) rfl rfl rfl hl.1 rfl (Nat.le_of_ble_eq_true rfl) dL_law_2240 ⟨Nat.le_of_ble_eq_true rfl, Nat.le_of_ble_eq_true rfl⟩) (fun r_3 u_3 H locs hq_3 hP hD hS => ?_)
    replace hq_3 : (r_3 = 0 ∧ (0 ≤ (xs 1).toInt ∧ (xs 1).toInt ≤ 9)) ∨ (r_3 = (-1) ∧ ¬ (0 ≤ (xs 1).toInt ∧ (xs 1).toInt ≤ 9)) := hq_3
    rcases hq_3 with ⟨rfl, hq_3⟩ | ⟨rfl, hq_3⟩
    ·
      exact False.elim (by have e0 := hq_1; have e1 := hq_3; (try simp only [ge_iff_le, gt_iff_lt, ne_eq, Int32.lt_iff_toInt_lt, Int32.le_iff_toInt_le, ← Int32.toInt_inj, Int64.lt_iff_toInt_lt, Int64.le_iff_toInt_le, Int32.toInt_toInt64, i0, i1, i2, i3, i4, i7, i8, i9, i60, j0, j1, j2, j3, j7] at e0 e1); omega)
    ·
      refine lv_icmp_eq (tgt := 2473) hx hb dL_law_2243 (by decide) (fun _ => ?_) (fun h9 => absurd h9 (by decide))
      exact law_end l C0 hS (lv_sub hl [0, 3] rfl) (Nat.le_of_ble_eq_true rfl) (Nat.le_of_ble_eq_true rfl)

set_option maxHeartbeats 4000000 in
set_option maxRecDepth 100000 in
theorem law_case_74 {p : Program} {e : Env} {s : State} {m : MethodId} {below : List Frame} {meth : Method} {c : Code} (l : Launch) {b : Nat} {xs : Nat → Int32} (C0 : lw_At p s m meth c b 6 xs) {D : va_G} {cs : Nat → ClassId} (hK : va_K D vwCl (mtyA cs) s) (hE : mEnv s) {x0 y0 : Nat} {ax ay : Nat → Nat} {H : Heap} {locs : List Loc} {ls : Array Slot} (hP : va_P D vwCl (lawW cs x0 ax y0 ay) H) (hD : va_D (fun q : Nat => s.heap.size ≤ q) (lawW cs x0 ax y0 ay)) (hS : va_S (fun q : Nat => s.heap.size ≤ q) s.heap H locs) (hl : lv_has ls 4 [(3, .int 0), (2, .ref y0), (1, .ref x0), (0, .ref b)]) : W p l e room_1 s m #[Value.ref b] below meth c H locs 81 7838 (lw_Z below #[Value.ref b] s) (F0 m 2248 ls []) := by
  obtain ⟨hx, hb, hr, hml, hown, hts, hX, hbl, hlocks, hgv⟩ := id C0
  have hA : ∀ q : Nat, s.heap.size ≤ q → (fun q : Nat => s.heap.size ≤ q) q := fun _ h => h
  have hbA : ¬ (fun q : Nat => s.heap.size ≤ q) b := Nat.not_le.mpr hbl
  have hFix := (⟨hx, hb, hml, hown, hts⟩ : CallFix p m c _ _ s #[Value.ref b] lw_tbl RL)
  replace hP := hP.sub (ws' := [(x0, .inr (8, [.ref (ax 0), .ref (ax 1), .ref (ax 2), .ref (ax 3), .ref (ax 4), .ref (ax 5), .ref (ax 6), .ref (ax 7), .ref (ax 8), .ref (ax 9)])), (ax 7, .inl (cs 4, 3, .inr (.inr (.inr (.inr (va_up (va_up (va_up (fun _ => none) 0 (some (ax 35))) 1 (some (ax 36))) 2 (some (ax 37)))))))), (ax 8, .inl (cs 3, 3, .inl (fun _ => 0))), (ax 2, .inr (0, [.int 0, .int 0, .int 0, .int 0, .int 0, .int 0, .int 0, .int 0, .int 0, .int 0, .ref (ax 16), .ref (ax 17), .ref (ax 18), .ref (ax 19), .ref (ax 20)])), (ax 16, .inl (cs 1, 3, .inl (fun _ => 0))), (ax 17, .inl (cs 1, 25, .inl (fun _ => 0))), (ax 18, .inl (cs 1, 20, .inl (fun _ => 0))), (ax 19, .inl (cs 1, 20, .inl (fun _ => 0))), (ax 20, .inl (cs 1, 20, .inl (fun _ => 0))), (ax 35, .inr (0, [.int 0, .int 0, .int 0, .int 0, .int 0, .int 0, .int 0, .int 0, .int 0, .int 0, .ref (ax 38), .ref (ax 39), .ref (ax 40), .ref (ax 41), .ref (ax 42)])), (ax 38, .inl (cs 1, 3, .inl (fun _ => 0))), (ax 39, .inl (cs 1, 25, .inl (fun _ => 0))), (ax 40, .inl (cs 1, 20, .inl (fun _ => 0))), (ax 41, .inl (cs 1, 20, .inl (fun _ => 0))), (ax 42, .inl (cs 1, 20, .inl (fun _ => 0))), (ax 36, .inr (0, [.int 0, .int 0, .int 0, .int 0, .int 0, .int 0, .int 0, .int 0, .int 0, .int 0, .ref (ax 43), .ref (ax 44), .ref (ax 45), .ref (ax 46), .ref (ax 47)])), (ax 43, .inl (cs 1, 3, .inl (fun _ => 0))), (ax 44, .inl (cs 1, 25, .inl (fun _ => 0))), (ax 45, .inl (cs 1, 20, .inl (fun _ => 0))), (ax 46, .inl (cs 1, 20, .inl (fun _ => 0))), (ax 47, .inl (cs 1, 20, .inl (fun _ => 0))), (ax 37, .inr (0, [.int 0, .int 0, .int 0, .int 0, .int 0, .int 0, .int 0, .int 0, .int 0, .int 0, .ref (ax 48), .ref (ax 49), .ref (ax 50), .ref (ax 51), .ref (ax 52)])), (ax 48, .inl (cs 1, 3, .inl (fun _ => 0))), (ax 49, .inl (cs 1, 25, .inl (fun _ => 0))), (ax 50, .inl (cs 1, 20, .inl (fun _ => 0))), (ax 51, .inl (cs 1, 20, .inl (fun _ => 0))), (ax 52, .inl (cs 1, 20, .inl (fun _ => 0))), (y0, .inr (9, [.int 0, .ref (ay 0), .ref (ay 1), .ref (ay 2), .ref (ay 3), .int 0, .ref (ay 4), .int 0, .int 0, .int 0, .int 0, .int 0, .int 0, .int (-1), .ref (ay 5), .ref (ay 6), .int 0, .int 0, .int 0, .ref (ay 7), .ref (ay 8), .ref (ay 9), .ref (ay 10), .ref (ay 11), .ref (ay 12), .int 0, .int 0, .int 0, .int 0, .int 0, .int 0, .int 0, .int 0, .int 0, .ref (ay 13), .long 0, .long 0, .long 0, .ref (ay 14), .ref (ay 15), .ref (ay 16), .ref (ay 17)])), (ay 0, .inl (cs 1, 76, .inl (fun _ => 0))), (ay 1, .inl (cs 1, 228, .inl (fun _ => 0))), (ay 2, .inl (cs 3, 3, .inl (fun _ => 0)))]) [0, 33, 34, 9, 10, 11, 12, 13, 14, 35, 36, 37, 38, 39, 40, 41, 42, 43, 44, 45, 46, 47, 48, 49, 50, 51, 52, 62, 63, 64, 65] rfl
  replace hD := hD.sub (ws' := [(x0, .inr (8, [.ref (ax 0), .ref (ax 1), .ref (ax 2), .ref (ax 3), .ref (ax 4), .ref (ax 5), .ref (ax 6), .ref (ax 7), .ref (ax 8), .ref (ax 9)])), (ax 7, .inl (cs 4, 3, .inr (.inr (.inr (.inr (va_up (va_up (va_up (fun _ => none) 0 (some (ax 35))) 1 (some (ax 36))) 2 (some (ax 37)))))))), (ax 8, .inl (cs 3, 3, .inl (fun _ => 0))), (ax 2, .inr (0, [.int 0, .int 0, .int 0, .int 0, .int 0, .int 0, .int 0, .int 0, .int 0, .int 0, .ref (ax 16), .ref (ax 17), .ref (ax 18), .ref (ax 19), .ref (ax 20)])), (ax 16, .inl (cs 1, 3, .inl (fun _ => 0))), (ax 17, .inl (cs 1, 25, .inl (fun _ => 0))), (ax 18, .inl (cs 1, 20, .inl (fun _ => 0))), (ax 19, .inl (cs 1, 20, .inl (fun _ => 0))), (ax 20, .inl (cs 1, 20, .inl (fun _ => 0))), (ax 35, .inr (0, [.int 0, .int 0, .int 0, .int 0, .int 0, .int 0, .int 0, .int 0, .int 0, .int 0, .ref (ax 38), .ref (ax 39), .ref (ax 40), .ref (ax 41), .ref (ax 42)])), (ax 38, .inl (cs 1, 3, .inl (fun _ => 0))), (ax 39, .inl (cs 1, 25, .inl (fun _ => 0))), (ax 40, .inl (cs 1, 20, .inl (fun _ => 0))), (ax 41, .inl (cs 1, 20, .inl (fun _ => 0))), (ax 42, .inl (cs 1, 20, .inl (fun _ => 0))), (ax 36, .inr (0, [.int 0, .int 0, .int 0, .int 0, .int 0, .int 0, .int 0, .int 0, .int 0, .int 0, .ref (ax 43), .ref (ax 44), .ref (ax 45), .ref (ax 46), .ref (ax 47)])), (ax 43, .inl (cs 1, 3, .inl (fun _ => 0))), (ax 44, .inl (cs 1, 25, .inl (fun _ => 0))), (ax 45, .inl (cs 1, 20, .inl (fun _ => 0))), (ax 46, .inl (cs 1, 20, .inl (fun _ => 0))), (ax 47, .inl (cs 1, 20, .inl (fun _ => 0))), (ax 37, .inr (0, [.int 0, .int 0, .int 0, .int 0, .int 0, .int 0, .int 0, .int 0, .int 0, .int 0, .ref (ax 48), .ref (ax 49), .ref (ax 50), .ref (ax 51), .ref (ax 52)])), (ax 48, .inl (cs 1, 3, .inl (fun _ => 0))), (ax 49, .inl (cs 1, 25, .inl (fun _ => 0))), (ax 50, .inl (cs 1, 20, .inl (fun _ => 0))), (ax 51, .inl (cs 1, 20, .inl (fun _ => 0))), (ax 52, .inl (cs 1, 20, .inl (fun _ => 0))), (y0, .inr (9, [.int 0, .ref (ay 0), .ref (ay 1), .ref (ay 2), .ref (ay 3), .int 0, .ref (ay 4), .int 0, .int 0, .int 0, .int 0, .int 0, .int 0, .int (-1), .ref (ay 5), .ref (ay 6), .int 0, .int 0, .int 0, .ref (ay 7), .ref (ay 8), .ref (ay 9), .ref (ay 10), .ref (ay 11), .ref (ay 12), .int 0, .int 0, .int 0, .int 0, .int 0, .int 0, .int 0, .int 0, .int 0, .ref (ay 13), .long 0, .long 0, .long 0, .ref (ay 14), .ref (ay 15), .ref (ay 16), .ref (ay 17)])), (ay 0, .inl (cs 1, 76, .inl (fun _ => 0))), (ay 1, .inl (cs 1, 228, .inl (fun _ => 0))), (ay 2, .inl (cs 3, 3, .inl (fun _ => 0)))]) [0, 33, 34, 9, 10, 11, 12, 13, 14, 35, 36, 37, 38, 39, 40, 41, 42, 43, 44, 45, 46, 47, 48, 49, 50, 51, 52, 62, 63, 64, 65] (by decide) rfl
  refine lv_aload_n hx hb dL_law_2248 rfl (lv_at hl 2 rfl) ?_
  refine lv_aload_n hx hb dL_law_2249 rfl (lv_at hl 3 rfl) ?_
  refine lv_iload_n hx hb dL_law_2250 rfl (lv_at hl 0 rfl) ?_
  refine lv_iconst (v := 1) hx hb dL_law_2251 (by decide) ?_
  refine lv_iadd hx hb dL_law_2252 ?_
  refine cf_i 1 (by decide) ?_
  refine va_sld hx hb hX hbl hbA hS (vp_c (by decide)) dL_law_2253 ?_
  refine cf_v (.int (xs 1)) rfl ?_
  refine aft_i (wr := [(y0, .inr (9, [.int 0, .ref (ay 0), .ref (ay 1), .ref (ay 2), .ref (ay 3), .int 0, .ref (ay 4), .int 0, .int 0, .int 0, .int 0, .int 0, .int 0, .int (-1), .ref (ay 5), .ref (ay 6), .int 0, .int 0, .int 0, .ref (ay 7), .ref (ay 8), .ref (ay 9), .ref (ay 10), .ref (ay 11), .ref (ay 12), .int 0, .int 0, .int 0, .int 0, .int 0, .int 0, .int 0, .int 0, .int 0, .ref (ay 13), .long 0, .long 0, .long 0, .ref (ay 14), .ref (ay 15), .ref (ay 16), .ref (ay 17)])), (ay 0, .inl (cs 1, 76, .inl (fun _ => 0))), (ay 1, .inl (cs 1, 228, .inl (fun _ => 0))), (ay 2, .inl (cs 3, 3, .inl (fun _ => 0)))]) hP hD hS hA [0, 1, 2, 3, 4, 5, 6, 7, 8, 9, 10, 11, 12, 13, 14, 15, 16, 17, 18, 19, 20, 21, 22, 23, 24, 25, 26] [27, 28, 29, 30] rfl rfl (by decide) (by decide) (run_v (As := [.int (xs 1)]) (rest := []) hFix hK hE hP hD [0, 1, 2, 3, 4, 5, 6, 7, 8, 9, 10, 11, 12, 13, 14, 15, 16, 17, 18, 19, 20, 21, 22, 23, 24, 25, 26] (k_X8_image l D cs _ x0 (xs 1) (ax 0) (ax 1) (ax 2) (ax 3) (ax 4) (ax 5) (ax 6) (ax 7) (ax 8) (ax 9) (ax 35) (ax 36) (ax 37) (ax 16) (ax 17) (ax 18) (ax 19) (ax 20) (ax 38) (ax 39) (ax 40) (ax 41) (ax 42) (ax 43) (ax 44) (ax 45) (ax 46) (ax 47) (ax 48) (ax 49) (ax 50) (ax 51) (ax 52)) (cwV 1 hts gl_316_X8_image rfl rfl rfl (by decide +kernel) ⟨Nat.le_of_ble_eq_true rfl, Nat.le_of_ble_eq_true rfl⟩) rfl (by decide) rfl rfl rfl hl.1 rfl (Nat.le_of_ble_eq_true rfl) dL_law_2254 ⟨Nat.le_of_ble_eq_true rfl, Nat.le_of_ble_eq_true rfl⟩) (fun r_1 u_1 H locs hq_1 hP hD hS => ?_)
  have hP : va_P D vwCl [(y0, .inr (9, [.int 0, .ref (ay 0), .ref (ay 1), .ref (ay 2), .ref (ay 3), .int 0, .ref (ay 4), .int 0, .int 0, .int 0, .int 0, .int 0, .int 0, .int (-1), .ref (ay 5), .ref (ay 6), .int 0, .int 0, .int 0, .ref (ay 7), .ref (ay 8), .ref (ay 9), .ref (ay 10), .ref (ay 11), .ref (ay 12), .int 0, .int 0, .int 0, .int 0, .int 0, .int 0, .int 0, .int 0, .int 0, .ref (ay 13), .long 0, .long 0, .long 0, .ref (ay 14), .ref (ay 15), .ref (ay 16), .ref (ay 17)])), (ay 0, .inl (cs 1, 76, .inl (fun _ => 0))), (ay 1, .inl (cs 1, 228, .inl (fun _ => 0))), (ay 2, .inl (cs 3, 3, .inl (fun _ => 0)))] H := hP
  have hD : va_D (fun q : Nat => s.heap.size ≤ q) [(y0, .inr (9, [.int 0, .ref (ay 0), .ref (ay 1), .ref (ay 2), .ref (ay 3), .int 0, .ref (ay 4), .int 0, .int 0, .int 0, .int 0, .int 0, .int 0, .int (-1), .ref (ay 5), .ref (ay 6), .int 0, .int 0, .int 0, .ref (ay 7), .ref (ay 8), .ref (ay 9), .ref (ay 10), .ref (ay 11), .ref (ay 12), .int 0, .int 0, .int 0, .int 0, .int 0, .int 0, .int 0, .int 0, .int 0, .ref (ay 13), .long 0, .long 0, .long 0, .ref (ay 14), .ref (ay 15), .ref (ay 16), .ref (ay 17)])), (ay 0, .inl (cs 1, 76, .inl (fun _ => 0))), (ay 1, .inl (cs 1, 228, .inl (fun _ => 0))), (ay 2, .inl (cs 3, 3, .inl (fun _ => 0)))] := hD
  replace hq_1 : (r_1 = 0 ∧ (0 ≤ (xs 1).toInt ∧ (xs 1).toInt ≤ 2)) ∨ (r_1 = (-2) ∧ ¬ (0 ≤ (xs 1).toInt ∧ (xs 1).toInt ≤ 2)) := hq_1
  rcases hq_1 with ⟨rfl, hq_1⟩ | ⟨rfl, hq_1⟩
  ·
    refine lv_aload_n hx hb dL_law_2257 rfl (lv_at hl 1 rfl) ?_
    refine lv_aload_n hx hb dL_law_2258 rfl (lv_at hl 3 rfl) ?_
    refine lv_iload_n hx hb dL_law_2259 rfl (lv_at hl 0 rfl) ?_
    refine lv_iconst (v := 1) hx hb dL_law_2260 (by decide) ?_
    refine lv_iadd hx hb dL_law_2261 ?_
    refine cf_i 1 (by decide) ?_
    refine va_sld hx hb hX hbl hbA hS (vp_c (by decide)) dL_law_2262 ?_
    refine cf_v (.int (xs 1)) rfl ?_
    refine aft_i (wr := []) hP hD hS hA [0, 1, 2, 3] [] rfl rfl (by decide) (by decide) (run_v (As := [.int (xs 1)]) (rest := [.int 0]) hFix hK hE hP hD [0, 1, 2, 3] (k_X9_image l D cs _ y0 (xs 1) (ay 0) (ay 1) (ay 2) (ay 3) (ay 4) (ay 5) (ay 6) (ay 7) (ay 8) (ay 9) (ay 10) (ay 11) (ay 12) (ay 13) (ay 14) (ay 15) (ay 16) (ay 17)) (cwV 1 hts gl_319_X9_image rfl rfl rfl (by decide +kernel) ⟨Nat.le_of_ble_eq_true rfl, Nat.le_of_ble_eq_true rfl⟩) rfl (by decide) rfl rfl rfl hl.1 rfl (Nat.le_of_ble_eq_true rfl) dL_law_2263 ⟨Nat.le_of_ble_eq_true rfl, Nat.le_of_ble_eq_true rfl⟩) (fun r_2 u_2 H locs hq_2 hP hD hS => ?_)
    replace hq_2 : (r_2 = 0 ∧ (0 ≤ (xs 1).toInt ∧ (xs 1).toInt ≤ 2)) ∨ (r_2 = (-2) ∧ ¬ (0 ≤ (xs 1).toInt ∧ (xs 1).toInt ≤ 2)) := hq_2
    rcases hq_2 with ⟨rfl, hq_2⟩ | ⟨rfl, hq_2⟩
    ·
      refine lv_icmp_eq (tgt := 2473) hx hb dL_law_2266 (by decide) (fun _ => ?_) (fun h9 => absurd h9 (by decide))
      exact law_end l C0 hS (lv_sub hl [0, 3] rfl) (Nat.le_of_ble_eq_true rfl) (Nat.le_of_ble_eq_true rfl)
    ·
      exact False.elim (by have e0 := hq_1; have e1 := hq_2; (try simp only [ge_iff_le, gt_iff_lt, ne_eq, Int32.lt_iff_toInt_lt, Int32.le_iff_toInt_le, ← Int32.toInt_inj, Int64.lt_iff_toInt_lt, Int64.le_iff_toInt_le, Int32.toInt_toInt64, i0, i1, i2, i3, i4, i7, i8, i9, i60, j0, j1, j2, j3, j7] at e0 e1); omega)
  ·
    refine lv_aload_n hx hb dL_law_2257 rfl (lv_at hl 1 rfl) ?_
    refine lv_aload_n hx hb dL_law_2258 rfl (lv_at hl 3 rfl) ?_
    refine lv_iload_n hx hb dL_law_2259 rfl (lv_at hl 0 rfl) ?_
    refine lv_iconst (v := 1) hx hb dL_law_2260 (by decide) ?_
    refine lv_iadd hx hb dL_law_2261 ?_
    refine cf_i 1 (by decide) ?_
    refine va_sld hx hb hX hbl hbA hS (vp_c (by decide)) dL_law_2262 ?_
    refine cf_v (.int (xs 1)) rfl ?_
    refine aft_i (wr := []) hP hD hS hA [0, 1, 2, 3] [] rfl rfl (by decide) (by decide) (run_v (As := [.int (xs 1)]) (rest := [.int (-2)]) hFix hK hE hP hD [0, 1, 2, 3] (k_X9_image l D cs _ y0 (xs 1) (ay 0) (ay 1) (ay 2) (ay 3) (ay 4) (ay 5) (ay 6) (ay 7) (ay 8) (ay 9) (ay 10) (ay 11) (ay 12) (ay 13) (ay 14) (ay 15) (ay 16) (ay 17)) (cwV 1 hts gl_319_X9_image rfl rfl rfl (by decide +kernel) ⟨Nat.le_of_ble_eq_true rfl, Nat.le_of_ble_eq_true rfl⟩) rfl (by decide) rfl rfl rfl hl.1 rfl (Nat.le_of_ble_eq_true rfl) dL_law_2263 ⟨Nat.le_of_ble_eq_true rfl, Nat.le_of_ble_eq_true rfl⟩) (fun r_3 u_3 H locs hq_3 hP hD hS => ?_)
    replace hq_3 : (r_3 = 0 ∧ (0 ≤ (xs 1).toInt ∧ (xs 1).toInt ≤ 2)) ∨ (r_3 = (-2) ∧ ¬ (0 ≤ (xs 1).toInt ∧ (xs 1).toInt ≤ 2)) := hq_3
    rcases hq_3 with ⟨rfl, hq_3⟩ | ⟨rfl, hq_3⟩
    ·
      exact False.elim (by have e0 := hq_1; have e1 := hq_3; (try simp only [ge_iff_le, gt_iff_lt, ne_eq, Int32.lt_iff_toInt_lt, Int32.le_iff_toInt_le, ← Int32.toInt_inj, Int64.lt_iff_toInt_lt, Int64.le_iff_toInt_le, Int32.toInt_toInt64, i0, i1, i2, i3, i4, i7, i8, i9, i60, j0, j1, j2, j3, j7] at e0 e1); omega)
    ·
      refine lv_icmp_eq (tgt := 2473) hx hb dL_law_2266 (by decide) (fun _ => ?_) (fun h9 => absurd h9 (by decide))
      exact law_end l C0 hS (lv_sub hl [0, 3] rfl) (Nat.le_of_ble_eq_true rfl) (Nat.le_of_ble_eq_true rfl)

set_option maxHeartbeats 4000000 in
set_option maxRecDepth 100000 in
theorem law_case_75 {p : Program} {e : Env} {s : State} {m : MethodId} {below : List Frame} {meth : Method} {c : Code} (l : Launch) {b : Nat} {xs : Nat → Int32} (C0 : lw_At p s m meth c b 6 xs) {D : va_G} {cs : Nat → ClassId} (hK : va_K D vwCl (mtyA cs) s) (hE : mEnv s) {x0 y0 : Nat} {ax ay : Nat → Nat} {H : Heap} {locs : List Loc} {ls : Array Slot} (hP : va_P D vwCl (lawW cs x0 ax y0 ay) H) (hD : va_D (fun q : Nat => s.heap.size ≤ q) (lawW cs x0 ax y0 ay)) (hS : va_S (fun q : Nat => s.heap.size ≤ q) s.heap H locs) (hl : lv_has ls 4 [(3, .int 0), (2, .ref y0), (1, .ref x0), (0, .ref b)]) : W p l e room_1 s m #[Value.ref b] below meth c H locs 81 7838 (lw_Z below #[Value.ref b] s) (F0 m 2271 ls []) := by
  obtain ⟨hx, hb, hr, hml, hown, hts, hX, hbl, hlocks, hgv⟩ := id C0
  have hA : ∀ q : Nat, s.heap.size ≤ q → (fun q : Nat => s.heap.size ≤ q) q := fun _ h => h
  have hbA : ¬ (fun q : Nat => s.heap.size ≤ q) b := Nat.not_le.mpr hbl
  have hFix := (⟨hx, hb, hml, hown, hts⟩ : CallFix p m c _ _ s #[Value.ref b] lw_tbl RL)
  replace hP := hP.sub (ws' := [(x0, .inr (8, [.ref (ax 0), .ref (ax 1), .ref (ax 2), .ref (ax 3), .ref (ax 4), .ref (ax 5), .ref (ax 6), .ref (ax 7), .ref (ax 8), .ref (ax 9)])), (ax 8, .inl (cs 3, 3, .inl (fun _ => 0))), (y0, .inr (9, [.int 0, .ref (ay 0), .ref (ay 1), .ref (ay 2), .ref (ay 3), .int 0, .ref (ay 4), .int 0, .int 0, .int 0, .int 0, .int 0, .int 0, .int (-1), .ref (ay 5), .ref (ay 6), .int 0, .int 0, .int 0, .ref (ay 7), .ref (ay 8), .ref (ay 9), .ref (ay 10), .ref (ay 11), .ref (ay 12), .int 0, .int 0, .int 0, .int 0, .int 0, .int 0, .int 0, .int 0, .int 0, .ref (ay 13), .long 0, .long 0, .long 0, .ref (ay 14), .ref (ay 15), .ref (ay 16), .ref (ay 17)])), (ay 2, .inl (cs 3, 3, .inl (fun _ => 0)))]) [0, 34, 62, 65] rfl
  replace hD := hD.sub (ws' := [(x0, .inr (8, [.ref (ax 0), .ref (ax 1), .ref (ax 2), .ref (ax 3), .ref (ax 4), .ref (ax 5), .ref (ax 6), .ref (ax 7), .ref (ax 8), .ref (ax 9)])), (ax 8, .inl (cs 3, 3, .inl (fun _ => 0))), (y0, .inr (9, [.int 0, .ref (ay 0), .ref (ay 1), .ref (ay 2), .ref (ay 3), .int 0, .ref (ay 4), .int 0, .int 0, .int 0, .int 0, .int 0, .int 0, .int (-1), .ref (ay 5), .ref (ay 6), .int 0, .int 0, .int 0, .ref (ay 7), .ref (ay 8), .ref (ay 9), .ref (ay 10), .ref (ay 11), .ref (ay 12), .int 0, .int 0, .int 0, .int 0, .int 0, .int 0, .int 0, .int 0, .int 0, .ref (ay 13), .long 0, .long 0, .long 0, .ref (ay 14), .ref (ay 15), .ref (ay 16), .ref (ay 17)])), (ay 2, .inl (cs 3, 3, .inl (fun _ => 0)))]) [0, 34, 62, 65] (by decide) rfl
  refine lv_aload_n hx hb dL_law_2271 rfl (lv_at hl 2 rfl) ?_
  refine lv_aload_n hx hb dL_law_2272 rfl (lv_at hl 3 rfl) ?_
  refine lv_iload_n hx hb dL_law_2273 rfl (lv_at hl 0 rfl) ?_
  refine lv_iconst (v := 1) hx hb dL_law_2274 (by decide) ?_
  refine lv_iadd hx hb dL_law_2275 ?_
  refine cf_i 1 (by decide) ?_
  refine va_sld hx hb hX hbl hbA hS (vp_c (by decide)) dL_law_2276 ?_
  refine cf_v (.int (xs 1)) rfl ?_
  refine aft_i (wr := [(y0, .inr (9, [.int 0, .ref (ay 0), .ref (ay 1), .ref (ay 2), .ref (ay 3), .int 0, .ref (ay 4), .int 0, .int 0, .int 0, .int 0, .int 0, .int 0, .int (-1), .ref (ay 5), .ref (ay 6), .int 0, .int 0, .int 0, .ref (ay 7), .ref (ay 8), .ref (ay 9), .ref (ay 10), .ref (ay 11), .ref (ay 12), .int 0, .int 0, .int 0, .int 0, .int 0, .int 0, .int 0, .int 0, .int 0, .ref (ay 13), .long 0, .long 0, .long 0, .ref (ay 14), .ref (ay 15), .ref (ay 16), .ref (ay 17)])), (ay 2, .inl (cs 3, 3, .inl (fun _ => 0)))]) hP hD hS hA [0, 1] [2, 3] rfl rfl (by decide) (by decide) (run_v (As := [.int (xs 1)]) (rest := []) hFix hK hE hP hD [0, 1] (k_X8_back l D cs _ x0 (xs 1) (ax 0) (ax 1) (ax 2) (ax 3) (ax 4) (ax 5) (ax 6) (ax 7) (ax 8) (ax 9)) (cwV 1 hts gl_320_X8_back rfl rfl rfl (by decide +kernel) ⟨Nat.le_of_ble_eq_true rfl, Nat.le_of_ble_eq_true rfl⟩) rfl (by decide) rfl rfl rfl hl.1 rfl (Nat.le_of_ble_eq_true rfl) dL_law_2277 ⟨Nat.le_of_ble_eq_true rfl, Nat.le_of_ble_eq_true rfl⟩) (fun r_1 u_1 H locs hq_1 hP hD hS => ?_)
  have hP : va_P D vwCl [(y0, .inr (9, [.int 0, .ref (ay 0), .ref (ay 1), .ref (ay 2), .ref (ay 3), .int 0, .ref (ay 4), .int 0, .int 0, .int 0, .int 0, .int 0, .int 0, .int (-1), .ref (ay 5), .ref (ay 6), .int 0, .int 0, .int 0, .ref (ay 7), .ref (ay 8), .ref (ay 9), .ref (ay 10), .ref (ay 11), .ref (ay 12), .int 0, .int 0, .int 0, .int 0, .int 0, .int 0, .int 0, .int 0, .int 0, .ref (ay 13), .long 0, .long 0, .long 0, .ref (ay 14), .ref (ay 15), .ref (ay 16), .ref (ay 17)])), (ay 2, .inl (cs 3, 3, .inl (fun _ => 0)))] H := hP
  have hD : va_D (fun q : Nat => s.heap.size ≤ q) [(y0, .inr (9, [.int 0, .ref (ay 0), .ref (ay 1), .ref (ay 2), .ref (ay 3), .int 0, .ref (ay 4), .int 0, .int 0, .int 0, .int 0, .int 0, .int 0, .int (-1), .ref (ay 5), .ref (ay 6), .int 0, .int 0, .int 0, .ref (ay 7), .ref (ay 8), .ref (ay 9), .ref (ay 10), .ref (ay 11), .ref (ay 12), .int 0, .int 0, .int 0, .int 0, .int 0, .int 0, .int 0, .int 0, .int 0, .ref (ay 13), .long 0, .long 0, .long 0, .ref (ay 14), .ref (ay 15), .ref (ay 16), .ref (ay 17)])), (ay 2, .inl (cs 3, 3, .inl (fun _ => 0)))] := hD
  replace hq_1 : (r_1 = (-6) ∧ (0 ≤ (xs 1).toInt ∧ (xs 1).toInt ≤ 2)) ∨ (r_1 = (-2) ∧ ¬ (0 ≤ (xs 1).toInt ∧ (xs 1).toInt ≤ 2)) := hq_1
  rcases hq_1 with ⟨rfl, hq_1⟩ | ⟨rfl, hq_1⟩
  ·
    refine lv_aload_n hx hb dL_law_2280 rfl (lv_at hl 1 rfl) ?_
    refine lv_aload_n hx hb dL_law_2281 rfl (lv_at hl 3 rfl) ?_
    refine lv_iload_n hx hb dL_law_2282 rfl (lv_at hl 0 rfl) ?_
    refine lv_iconst (v := 1) hx hb dL_law_2283 (by decide) ?_
    refine lv_iadd hx hb dL_law_2284 ?_
    refine cf_i 1 (by decide) ?_
    refine va_sld hx hb hX hbl hbA hS (vp_c (by decide)) dL_law_2285 ?_
    refine cf_v (.int (xs 1)) rfl ?_
    refine aft_i (wr := []) hP hD hS hA [0, 1] [] rfl rfl (by decide) (by decide) (run_v (As := [.int (xs 1)]) (rest := [.int (-6)]) hFix hK hE hP hD [0, 1] (k_X9_back l D cs _ y0 (xs 1) (ay 0) (ay 1) (ay 2) (ay 3) (ay 4) (ay 5) (ay 6) (ay 7) (ay 8) (ay 9) (ay 10) (ay 11) (ay 12) (ay 13) (ay 14) (ay 15) (ay 16) (ay 17)) (cwV 1 hts gl_323_X9_back rfl rfl rfl (by decide +kernel) ⟨Nat.le_of_ble_eq_true rfl, Nat.le_of_ble_eq_true rfl⟩) rfl (by decide) rfl rfl rfl hl.1 rfl (Nat.le_of_ble_eq_true rfl) dL_law_2286 ⟨Nat.le_of_ble_eq_true rfl, Nat.le_of_ble_eq_true rfl⟩) (fun r_2 u_2 H locs hq_2 hP hD hS => ?_)
    replace hq_2 : (r_2 = (-6) ∧ (0 ≤ (xs 1).toInt ∧ (xs 1).toInt ≤ 2)) ∨ (r_2 = (-2) ∧ ¬ (0 ≤ (xs 1).toInt ∧ (xs 1).toInt ≤ 2)) := hq_2
    rcases hq_2 with ⟨rfl, hq_2⟩ | ⟨rfl, hq_2⟩
    ·
      refine lv_icmp_eq (tgt := 2473) hx hb dL_law_2289 (by decide) (fun _ => ?_) (fun h9 => absurd h9 (by decide))
      exact law_end l C0 hS (lv_sub hl [0, 3] rfl) (Nat.le_of_ble_eq_true rfl) (Nat.le_of_ble_eq_true rfl)
    ·
      exact False.elim (by have e0 := hq_1; have e1 := hq_2; (try simp only [ge_iff_le, gt_iff_lt, ne_eq, Int32.lt_iff_toInt_lt, Int32.le_iff_toInt_le, ← Int32.toInt_inj, Int64.lt_iff_toInt_lt, Int64.le_iff_toInt_le, Int32.toInt_toInt64, i0, i1, i2, i3, i4, i7, i8, i9, i60, j0, j1, j2, j3, j7] at e0 e1); omega)
  ·
    refine lv_aload_n hx hb dL_law_2280 rfl (lv_at hl 1 rfl) ?_
    refine lv_aload_n hx hb dL_law_2281 rfl (lv_at hl 3 rfl) ?_
    refine lv_iload_n hx hb dL_law_2282 rfl (lv_at hl 0 rfl) ?_
    refine lv_iconst (v := 1) hx hb dL_law_2283 (by decide) ?_
    refine lv_iadd hx hb dL_law_2284 ?_
    refine cf_i 1 (by decide) ?_
    refine va_sld hx hb hX hbl hbA hS (vp_c (by decide)) dL_law_2285 ?_
    refine cf_v (.int (xs 1)) rfl ?_
    refine aft_i (wr := []) hP hD hS hA [0, 1] [] rfl rfl (by decide) (by decide) (run_v (As := [.int (xs 1)]) (rest := [.int (-2)]) hFix hK hE hP hD [0, 1] (k_X9_back l D cs _ y0 (xs 1) (ay 0) (ay 1) (ay 2) (ay 3) (ay 4) (ay 5) (ay 6) (ay 7) (ay 8) (ay 9) (ay 10) (ay 11) (ay 12) (ay 13) (ay 14) (ay 15) (ay 16) (ay 17)) (cwV 1 hts gl_323_X9_back rfl rfl rfl (by decide +kernel) ⟨Nat.le_of_ble_eq_true rfl, Nat.le_of_ble_eq_true rfl⟩) rfl (by decide) rfl rfl rfl hl.1 rfl (Nat.le_of_ble_eq_true rfl) dL_law_2286 ⟨Nat.le_of_ble_eq_true rfl, Nat.le_of_ble_eq_true rfl⟩) (fun r_3 u_3 H locs hq_3 hP hD hS => ?_)
    replace hq_3 : (r_3 = (-6) ∧ (0 ≤ (xs 1).toInt ∧ (xs 1).toInt ≤ 2)) ∨ (r_3 = (-2) ∧ ¬ (0 ≤ (xs 1).toInt ∧ (xs 1).toInt ≤ 2)) := hq_3
    rcases hq_3 with ⟨rfl, hq_3⟩ | ⟨rfl, hq_3⟩
    ·
      exact False.elim (by have e0 := hq_1; have e1 := hq_3; (try simp only [ge_iff_le, gt_iff_lt, ne_eq, Int32.lt_iff_toInt_lt, Int32.le_iff_toInt_le, ← Int32.toInt_inj, Int64.lt_iff_toInt_lt, Int64.le_iff_toInt_le, Int32.toInt_toInt64, i0, i1, i2, i3, i4, i7, i8, i9, i60, j0, j1, j2, j3, j7] at e0 e1); omega)
    ·
      refine lv_icmp_eq (tgt := 2473) hx hb dL_law_2289 (by decide) (fun _ => ?_) (fun h9 => absurd h9 (by decide))
      exact law_end l C0 hS (lv_sub hl [0, 3] rfl) (Nat.le_of_ble_eq_true rfl) (Nat.le_of_ble_eq_true rfl)

set_option maxHeartbeats 4000000 in
set_option maxRecDepth 100000 in
theorem law_case_76 {p : Program} {e : Env} {s : State} {m : MethodId} {below : List Frame} {meth : Method} {c : Code} (l : Launch) {b : Nat} {xs : Nat → Int32} (C0 : lw_At p s m meth c b 6 xs) {D : va_G} {cs : Nat → ClassId} (hK : va_K D vwCl (mtyA cs) s) (hE : mEnv s) {x0 y0 : Nat} {ax ay : Nat → Nat} {H : Heap} {locs : List Loc} {ls : Array Slot} (hP : va_P D vwCl (lawW cs x0 ax y0 ay) H) (hD : va_D (fun q : Nat => s.heap.size ≤ q) (lawW cs x0 ax y0 ay)) (hS : va_S (fun q : Nat => s.heap.size ≤ q) s.heap H locs) (hl : lv_has ls 4 [(3, .int 0), (2, .ref y0), (1, .ref x0), (0, .ref b)]) : W p l e room_1 s m #[Value.ref b] below meth c H locs 81 7838 (lw_Z below #[Value.ref b] s) (F0 m 2294 ls []) := by
  obtain ⟨hx, hb, hr, hml, hown, hts, hX, hbl, hlocks, hgv⟩ := id C0
  have hA : ∀ q : Nat, s.heap.size ≤ q → (fun q : Nat => s.heap.size ≤ q) q := fun _ h => h
  have hbA : ¬ (fun q : Nat => s.heap.size ≤ q) b := Nat.not_le.mpr hbl
  have hFix := (⟨hx, hb, hml, hown, hts⟩ : CallFix p m c _ _ s #[Value.ref b] lw_tbl RL)
  replace hP := hP.sub (ws' := [(x0, .inr (8, [.ref (ax 0), .ref (ax 1), .ref (ax 2), .ref (ax 3), .ref (ax 4), .ref (ax 5), .ref (ax 6), .ref (ax 7), .ref (ax 8), .ref (ax 9)])), (ax 9, .inl (cs 5, 4, .inr (.inr (.inr (.inr (va_up (va_up (va_up (va_up (fun _ => none) 0 (some (ax 53))) 1 (some (ax 54))) 2 (some (ax 55))) 3 (some (ax 56)))))))), (ax 53, .inr (5, [.int 0, .int 0, .int 0, .ref (ax 57)])), (ax 57, .inl (cs 2, 60, .inr (.inl (fun _ => 0)))), (ax 54, .inr (5, [.int 0, .int 0, .int 0, .ref (ax 58)])), (ax 58, .inl (cs 2, 60, .inr (.inl (fun _ => 0)))), (ax 55, .inr (5, [.int 0, .int 0, .int 0, .ref (ax 59)])), (ax 59, .inl (cs 2, 60, .inr (.inl (fun _ => 0)))), (ax 56, .inr (5, [.int 0, .int 0, .int 0, .ref (ax 60)])), (ax 60, .inl (cs 2, 60, .inr (.inl (fun _ => 0)))), (y0, .inr (9, [.int 0, .ref (ay 0), .ref (ay 1), .ref (ay 2), .ref (ay 3), .int 0, .ref (ay 4), .int 0, .int 0, .int 0, .int 0, .int 0, .int 0, .int (-1), .ref (ay 5), .ref (ay 6), .int 0, .int 0, .int 0, .ref (ay 7), .ref (ay 8), .ref (ay 9), .ref (ay 10), .ref (ay 11), .ref (ay 12), .int 0, .int 0, .int 0, .int 0, .int 0, .int 0, .int 0, .int 0, .int 0, .ref (ay 13), .long 0, .long 0, .long 0, .ref (ay 14), .ref (ay 15), .ref (ay 16), .ref (ay 17)])), (ay 14, .inl (cs 1, 4, .inl (upd (upd (upd (upd (fun _ => 0) 0 (-1)) 1 (-1)) 2 (-1)) 3 (-1)))), (ay 15, .inl (cs 1, 4, .inl (fun _ => 0))), (ay 16, .inl (cs 2, 240, .inr (.inl (fun _ => 0))))]) [0, 53, 54, 55, 56, 57, 58, 59, 60, 61, 62, 77, 78, 79] rfl
  replace hD := hD.sub (ws' := [(x0, .inr (8, [.ref (ax 0), .ref (ax 1), .ref (ax 2), .ref (ax 3), .ref (ax 4), .ref (ax 5), .ref (ax 6), .ref (ax 7), .ref (ax 8), .ref (ax 9)])), (ax 9, .inl (cs 5, 4, .inr (.inr (.inr (.inr (va_up (va_up (va_up (va_up (fun _ => none) 0 (some (ax 53))) 1 (some (ax 54))) 2 (some (ax 55))) 3 (some (ax 56)))))))), (ax 53, .inr (5, [.int 0, .int 0, .int 0, .ref (ax 57)])), (ax 57, .inl (cs 2, 60, .inr (.inl (fun _ => 0)))), (ax 54, .inr (5, [.int 0, .int 0, .int 0, .ref (ax 58)])), (ax 58, .inl (cs 2, 60, .inr (.inl (fun _ => 0)))), (ax 55, .inr (5, [.int 0, .int 0, .int 0, .ref (ax 59)])), (ax 59, .inl (cs 2, 60, .inr (.inl (fun _ => 0)))), (ax 56, .inr (5, [.int 0, .int 0, .int 0, .ref (ax 60)])), (ax 60, .inl (cs 2, 60, .inr (.inl (fun _ => 0)))), (y0, .inr (9, [.int 0, .ref (ay 0), .ref (ay 1), .ref (ay 2), .ref (ay 3), .int 0, .ref (ay 4), .int 0, .int 0, .int 0, .int 0, .int 0, .int 0, .int (-1), .ref (ay 5), .ref (ay 6), .int 0, .int 0, .int 0, .ref (ay 7), .ref (ay 8), .ref (ay 9), .ref (ay 10), .ref (ay 11), .ref (ay 12), .int 0, .int 0, .int 0, .int 0, .int 0, .int 0, .int 0, .int 0, .int 0, .ref (ay 13), .long 0, .long 0, .long 0, .ref (ay 14), .ref (ay 15), .ref (ay 16), .ref (ay 17)])), (ay 14, .inl (cs 1, 4, .inl (upd (upd (upd (upd (fun _ => 0) 0 (-1)) 1 (-1)) 2 (-1)) 3 (-1)))), (ay 15, .inl (cs 1, 4, .inl (fun _ => 0))), (ay 16, .inl (cs 2, 240, .inr (.inl (fun _ => 0))))]) [0, 53, 54, 55, 56, 57, 58, 59, 60, 61, 62, 77, 78, 79] (by decide) rfl
  refine lv_aload_n hx hb dL_law_2294 rfl (lv_at hl 2 rfl) ?_
  refine lv_aload_n hx hb dL_law_2295 rfl (lv_at hl 3 rfl) ?_
  refine lv_iload_n hx hb dL_law_2296 rfl (lv_at hl 0 rfl) ?_
  refine lv_iconst (v := 1) hx hb dL_law_2297 (by decide) ?_
  refine lv_iadd hx hb dL_law_2298 ?_
  refine cf_i 1 (by decide) ?_
  refine va_sld hx hb hX hbl hbA hS (vp_c (by decide)) dL_law_2299 ?_
  refine cf_v (.int (xs 1)) rfl ?_
  refine lv_aload_n hx hb dL_law_2300 rfl (lv_at hl 3 rfl) ?_
  refine lv_iload_n hx hb dL_law_2301 rfl (lv_at hl 0 rfl) ?_
  refine lv_iconst (v := 2) hx hb dL_law_2302 (by decide) ?_
  refine lv_iadd hx hb dL_law_2303 ?_
  refine cf_i 2 (by decide) ?_
  refine va_sld hx hb hX hbl hbA hS (vp_c (by decide)) dL_law_2304 ?_
  refine cf_v (.int (xs 2)) rfl ?_
  refine lv_aload_n hx hb dL_law_2305 rfl (lv_at hl 3 rfl) ?_
  refine lv_iload_n hx hb dL_law_2306 rfl (lv_at hl 0 rfl) ?_
  refine lv_iconst (v := 3) hx hb dL_law_2307 (by decide) ?_
  refine lv_iadd hx hb dL_law_2308 ?_
  refine cf_i 3 (by decide) ?_
  refine va_sld hx hb hX hbl hbA hS (vp_c (by decide)) dL_law_2309 ?_
  refine cf_v (.int (xs 3)) rfl ?_
  refine aft_i (wr := [(y0, .inr (9, [.int 0, .ref (ay 0), .ref (ay 1), .ref (ay 2), .ref (ay 3), .int 0, .ref (ay 4), .int 0, .int 0, .int 0, .int 0, .int 0, .int 0, .int (-1), .ref (ay 5), .ref (ay 6), .int 0, .int 0, .int 0, .ref (ay 7), .ref (ay 8), .ref (ay 9), .ref (ay 10), .ref (ay 11), .ref (ay 12), .int 0, .int 0, .int 0, .int 0, .int 0, .int 0, .int 0, .int 0, .int 0, .ref (ay 13), .long 0, .long 0, .long 0, .ref (ay 14), .ref (ay 15), .ref (ay 16), .ref (ay 17)])), (ay 14, .inl (cs 1, 4, .inl (upd (upd (upd (upd (fun _ => 0) 0 (-1)) 1 (-1)) 2 (-1)) 3 (-1)))), (ay 15, .inl (cs 1, 4, .inl (fun _ => 0))), (ay 16, .inl (cs 2, 240, .inr (.inl (fun _ => 0))))]) hP hD hS hA [0, 1, 2, 3, 4, 5, 6, 7, 8, 9] [10, 11, 12, 13] rfl rfl (by decide) (by decide) (run_v (As := [.int (xs 1), .int (xs 2), .int (xs 3)]) (rest := []) hFix hK hE hP hD [0, 1, 2, 3, 4, 5, 6, 7, 8, 9] (k_X8_row l D cs _ x0 (xs 1) (xs 2) (xs 3) (ax 0) (ax 1) (ax 2) (ax 3) (ax 4) (ax 5) (ax 6) (ax 7) (ax 8) (ax 9) (ax 53) (ax 54) (ax 55) (ax 56) (ax 57) (ax 58) (ax 59) (ax 60)) (cwV 3 hts gl_324_X8_row rfl rfl rfl (by decide +kernel) ⟨Nat.le_of_ble_eq_true rfl, Nat.le_of_ble_eq_true rfl⟩) rfl (by decide) rfl rfl rfl hl.1 rfl (Nat.le_of_ble_eq_true rfl) dL_law_2310 ⟨Nat.le_of_ble_eq_true rfl, Nat.le_of_ble_eq_true rfl⟩) (fun r_1 u_1 H locs hq_1 hP hD hS => ?_)
  have hP : va_P D vwCl [(y0, .inr (9, [.int 0, .ref (ay 0), .ref (ay 1), .ref (ay 2), .ref (ay 3), .int 0, .ref (ay 4), .int 0, .int 0, .int 0, .int 0, .int 0, .int 0, .int (-1), .ref (ay 5), .ref (ay 6), .int 0, .int 0, .int 0, .ref (ay 7), .ref (ay 8), .ref (ay 9), .ref (ay 10), .ref (ay 11), .ref (ay 12), .int 0, .int 0, .int 0, .int 0, .int 0, .int 0, .int 0, .int 0, .int 0, .ref (ay 13), .long 0, .long 0, .long 0, .ref (ay 14), .ref (ay 15), .ref (ay 16), .ref (ay 17)])), (ay 14, .inl (cs 1, 4, .inl (upd (upd (upd (upd (fun _ => 0) 0 (-1)) 1 (-1)) 2 (-1)) 3 (-1)))), (ay 15, .inl (cs 1, 4, .inl (fun _ => 0))), (ay 16, .inl (cs 2, 240, .inr (.inl (fun _ => 0))))] H := hP
  have hD : va_D (fun q : Nat => s.heap.size ≤ q) [(y0, .inr (9, [.int 0, .ref (ay 0), .ref (ay 1), .ref (ay 2), .ref (ay 3), .int 0, .ref (ay 4), .int 0, .int 0, .int 0, .int 0, .int 0, .int 0, .int (-1), .ref (ay 5), .ref (ay 6), .int 0, .int 0, .int 0, .ref (ay 7), .ref (ay 8), .ref (ay 9), .ref (ay 10), .ref (ay 11), .ref (ay 12), .int 0, .int 0, .int 0, .int 0, .int 0, .int 0, .int 0, .int 0, .int 0, .ref (ay 13), .long 0, .long 0, .long 0, .ref (ay 14), .ref (ay 15), .ref (ay 16), .ref (ay 17)])), (ay 14, .inl (cs 1, 4, .inl (upd (upd (upd (upd (fun _ => 0) 0 (-1)) 1 (-1)) 2 (-1)) 3 (-1)))), (ay 15, .inl (cs 1, 4, .inl (fun _ => 0))), (ay 16, .inl (cs 2, 240, .inr (.inl (fun _ => 0))))] := hD
  replace hq_1 : (r_1 = (-2) ∧ ¬ ((0 ≤ (xs 1).toInt ∧ (xs 1).toInt ≤ 3) ∧ 0 ≤ (xs 2).toInt ∧ (xs 2).toInt ≤ 3 ∧ (xs 3).toInt ≤ 60)) ∨ (r_1 = (-3) ∧ ((0 ≤ (xs 1).toInt ∧ (xs 1).toInt ≤ 3) ∧ 0 ≤ (xs 2).toInt ∧ (xs 2).toInt ≤ 3 ∧ (xs 3).toInt ≤ 60) ∧ (xs 3).toInt < 0) ∨ (r_1 = 0 ∧ ((0 ≤ (xs 1).toInt ∧ (xs 1).toInt ≤ 3) ∧ 0 ≤ (xs 2).toInt ∧ (xs 2).toInt ≤ 3 ∧ (xs 3).toInt ≤ 60) ∧ ¬ (xs 3).toInt < 0) := hq_1
  rcases hq_1 with ⟨rfl, hq_1⟩ | ⟨rfl, hq_1⟩ | ⟨rfl, hq_1⟩
  ·
    refine lv_aload_n hx hb dL_law_2313 rfl (lv_at hl 1 rfl) ?_
    refine lv_aload_n hx hb dL_law_2314 rfl (lv_at hl 3 rfl) ?_
    refine lv_iload_n hx hb dL_law_2315 rfl (lv_at hl 0 rfl) ?_
    refine lv_iconst (v := 1) hx hb dL_law_2316 (by decide) ?_
    refine lv_iadd hx hb dL_law_2317 ?_
    refine cf_i 1 (by decide) ?_
    refine va_sld hx hb hX hbl hbA hS (vp_c (by decide)) dL_law_2318 ?_
    refine cf_v (.int (xs 1)) rfl ?_
    refine lv_aload_n hx hb dL_law_2319 rfl (lv_at hl 3 rfl) ?_
    refine lv_iload_n hx hb dL_law_2320 rfl (lv_at hl 0 rfl) ?_
    refine lv_iconst (v := 2) hx hb dL_law_2321 (by decide) ?_
    refine lv_iadd hx hb dL_law_2322 ?_
    refine cf_i 2 (by decide) ?_
    refine va_sld hx hb hX hbl hbA hS (vp_c (by decide)) dL_law_2323 ?_
    refine cf_v (.int (xs 2)) rfl ?_
    refine lv_aload_n hx hb dL_law_2324 rfl (lv_at hl 3 rfl) ?_
    refine lv_iload_n hx hb dL_law_2325 rfl (lv_at hl 0 rfl) ?_
    refine lv_iconst (v := 3) hx hb dL_law_2326 (by decide) ?_
    refine lv_iadd hx hb dL_law_2327 ?_
    refine cf_i 3 (by decide) ?_
    refine va_sld hx hb hX hbl hbA hS (vp_c (by decide)) dL_law_2328 ?_
    refine cf_v (.int (xs 3)) rfl ?_
    refine aft_i (wr := []) hP hD hS hA [0, 1, 2, 3] [] rfl rfl (by decide) (by decide) (run_v (As := [.int (xs 1), .int (xs 2), .int (xs 3)]) (rest := [.int (-2)]) hFix hK hE hP hD [0, 1, 2, 3] (k_X9_row l D cs _ y0 (xs 1) (xs 2) (xs 3) (ay 0) (ay 1) (ay 2) (ay 3) (ay 4) (ay 5) (ay 6) (ay 7) (ay 8) (ay 9) (ay 10) (ay 11) (ay 12) (ay 13) (ay 14) (ay 15) (ay 16) (ay 17)) (cwV 3 hts gl_327_X9_row rfl rfl rfl (by decide +kernel) ⟨Nat.le_of_ble_eq_true rfl, Nat.le_of_ble_eq_true rfl⟩) rfl (by decide) rfl rfl rfl hl.1 rfl (Nat.le_of_ble_eq_true rfl) dL_law_2329 ⟨Nat.le_of_ble_eq_true rfl, Nat.le_of_ble_eq_true rfl⟩) (fun r_2 u_2 H locs hq_2 hP hD hS => ?_)
    replace hq_2 : (r_2 = (-2) ∧ ¬ ((0 ≤ (xs 1).toInt ∧ (xs 1).toInt ≤ 3) ∧ 0 ≤ (xs 2).toInt ∧ (xs 2).toInt ≤ 3 ∧ (xs 3).toInt ≤ 60)) ∨ (r_2 = (-3) ∧ ((0 ≤ (xs 1).toInt ∧ (xs 1).toInt ≤ 3) ∧ 0 ≤ (xs 2).toInt ∧ (xs 2).toInt ≤ 3 ∧ (xs 3).toInt ≤ 60) ∧ (xs 3).toInt < 0) ∨ (r_2 = 0 ∧ ((0 ≤ (xs 1).toInt ∧ (xs 1).toInt ≤ 3) ∧ 0 ≤ (xs 2).toInt ∧ (xs 2).toInt ≤ 3 ∧ (xs 3).toInt ≤ 60) ∧ ¬ (xs 3).toInt < 0) := hq_2
    rcases hq_2 with ⟨rfl, hq_2⟩ | ⟨rfl, hq_2⟩ | ⟨rfl, hq_2⟩
    ·
      refine lv_icmp_eq (tgt := 2473) hx hb dL_law_2332 (by decide) (fun _ => ?_) (fun h9 => absurd h9 (by decide))
      exact law_end l C0 hS (lv_sub hl [0, 3] rfl) (Nat.le_of_ble_eq_true rfl) (Nat.le_of_ble_eq_true rfl)
    ·
      exact False.elim (by have e0 := hq_1; have e1 := hq_2; (try simp only [ge_iff_le, gt_iff_lt, ne_eq, Int32.lt_iff_toInt_lt, Int32.le_iff_toInt_le, ← Int32.toInt_inj, Int64.lt_iff_toInt_lt, Int64.le_iff_toInt_le, Int32.toInt_toInt64, i0, i1, i2, i3, i4, i7, i8, i9, i60, j0, j1, j2, j3, j7] at e0 e1); omega)
    ·
      exact False.elim (by have e0 := hq_1; have e1 := hq_2; (try simp only [ge_iff_le, gt_iff_lt, ne_eq, Int32.lt_iff_toInt_lt, Int32.le_iff_toInt_le, ← Int32.toInt_inj, Int64.lt_iff_toInt_lt, Int64.le_iff_toInt_le, Int32.toInt_toInt64, i0, i1, i2, i3, i4, i7, i8, i9, i60, j0, j1, j2, j3, j7] at e0 e1); omega)
  ·
    refine lv_aload_n hx hb dL_law_2313 rfl (lv_at hl 1 rfl) ?_
    refine lv_aload_n hx hb dL_law_2314 rfl (lv_at hl 3 rfl) ?_
    refine lv_iload_n hx hb dL_law_2315 rfl (lv_at hl 0 rfl) ?_
    refine lv_iconst (v := 1) hx hb dL_law_2316 (by decide) ?_
    refine lv_iadd hx hb dL_law_2317 ?_
    refine cf_i 1 (by decide) ?_
    refine va_sld hx hb hX hbl hbA hS (vp_c (by decide)) dL_law_2318 ?_
    refine cf_v (.int (xs 1)) rfl ?_
    refine lv_aload_n hx hb dL_law_2319 rfl (lv_at hl 3 rfl) ?_
    refine lv_iload_n hx hb dL_law_2320 rfl (lv_at hl 0 rfl) ?_
    refine lv_iconst (v := 2) hx hb dL_law_2321 (by decide) ?_
    refine lv_iadd hx hb dL_law_2322 ?_
    refine cf_i 2 (by decide) ?_
    refine va_sld hx hb hX hbl hbA hS (vp_c (by decide)) dL_law_2323 ?_
    refine cf_v (.int (xs 2)) rfl ?_
    refine lv_aload_n hx hb dL_law_2324 rfl (lv_at hl 3 rfl) ?_
    refine lv_iload_n hx hb dL_law_2325 rfl (lv_at hl 0 rfl) ?_
    refine lv_iconst (v := 3) hx hb dL_law_2326 (by decide) ?_
    refine lv_iadd hx hb dL_law_2327 ?_
    refine cf_i 3 (by decide) ?_
    refine va_sld hx hb hX hbl hbA hS (vp_c (by decide)) dL_law_2328 ?_
    refine cf_v (.int (xs 3)) rfl ?_
    refine aft_i (wr := []) hP hD hS hA [0, 1, 2, 3] [] rfl rfl (by decide) (by decide) (run_v (As := [.int (xs 1), .int (xs 2), .int (xs 3)]) (rest := [.int (-3)]) hFix hK hE hP hD [0, 1, 2, 3] (k_X9_row l D cs _ y0 (xs 1) (xs 2) (xs 3) (ay 0) (ay 1) (ay 2) (ay 3) (ay 4) (ay 5) (ay 6) (ay 7) (ay 8) (ay 9) (ay 10) (ay 11) (ay 12) (ay 13) (ay 14) (ay 15) (ay 16) (ay 17)) (cwV 3 hts gl_327_X9_row rfl rfl rfl (by decide +kernel) ⟨Nat.le_of_ble_eq_true rfl, Nat.le_of_ble_eq_true rfl⟩) rfl (by decide) rfl rfl rfl hl.1 rfl (Nat.le_of_ble_eq_true rfl) dL_law_2329 ⟨Nat.le_of_ble_eq_true rfl, Nat.le_of_ble_eq_true rfl⟩) (fun r_3 u_3 H locs hq_3 hP hD hS => ?_)
    replace hq_3 : (r_3 = (-2) ∧ ¬ ((0 ≤ (xs 1).toInt ∧ (xs 1).toInt ≤ 3) ∧ 0 ≤ (xs 2).toInt ∧ (xs 2).toInt ≤ 3 ∧ (xs 3).toInt ≤ 60)) ∨ (r_3 = (-3) ∧ ((0 ≤ (xs 1).toInt ∧ (xs 1).toInt ≤ 3) ∧ 0 ≤ (xs 2).toInt ∧ (xs 2).toInt ≤ 3 ∧ (xs 3).toInt ≤ 60) ∧ (xs 3).toInt < 0) ∨ (r_3 = 0 ∧ ((0 ≤ (xs 1).toInt ∧ (xs 1).toInt ≤ 3) ∧ 0 ≤ (xs 2).toInt ∧ (xs 2).toInt ≤ 3 ∧ (xs 3).toInt ≤ 60) ∧ ¬ (xs 3).toInt < 0) := hq_3
    rcases hq_3 with ⟨rfl, hq_3⟩ | ⟨rfl, hq_3⟩ | ⟨rfl, hq_3⟩
    ·
      exact False.elim (by have e0 := hq_1; have e1 := hq_3; (try simp only [ge_iff_le, gt_iff_lt, ne_eq, Int32.lt_iff_toInt_lt, Int32.le_iff_toInt_le, ← Int32.toInt_inj, Int64.lt_iff_toInt_lt, Int64.le_iff_toInt_le, Int32.toInt_toInt64, i0, i1, i2, i3, i4, i7, i8, i9, i60, j0, j1, j2, j3, j7] at e0 e1); omega)
    ·
      refine lv_icmp_eq (tgt := 2473) hx hb dL_law_2332 (by decide) (fun _ => ?_) (fun h9 => absurd h9 (by decide))
      exact law_end l C0 hS (lv_sub hl [0, 3] rfl) (Nat.le_of_ble_eq_true rfl) (Nat.le_of_ble_eq_true rfl)
    ·
      exact False.elim (by have e0 := hq_1; have e1 := hq_3; (try simp only [ge_iff_le, gt_iff_lt, ne_eq, Int32.lt_iff_toInt_lt, Int32.le_iff_toInt_le, ← Int32.toInt_inj, Int64.lt_iff_toInt_lt, Int64.le_iff_toInt_le, Int32.toInt_toInt64, i0, i1, i2, i3, i4, i7, i8, i9, i60, j0, j1, j2, j3, j7] at e0 e1); omega)
  ·
    refine lv_aload_n hx hb dL_law_2313 rfl (lv_at hl 1 rfl) ?_
    refine lv_aload_n hx hb dL_law_2314 rfl (lv_at hl 3 rfl) ?_
    refine lv_iload_n hx hb dL_law_2315 rfl (lv_at hl 0 rfl) ?_
    refine lv_iconst (v := 1) hx hb dL_law_2316 (by decide) ?_
    refine lv_iadd hx hb dL_law_2317 ?_
    refine cf_i 1 (by decide) ?_
    refine va_sld hx hb hX hbl hbA hS (vp_c (by decide)) dL_law_2318 ?_
    refine cf_v (.int (xs 1)) rfl ?_
    refine lv_aload_n hx hb dL_law_2319 rfl (lv_at hl 3 rfl) ?_
    refine lv_iload_n hx hb dL_law_2320 rfl (lv_at hl 0 rfl) ?_
    refine lv_iconst (v := 2) hx hb dL_law_2321 (by decide) ?_
    refine lv_iadd hx hb dL_law_2322 ?_
    refine cf_i 2 (by decide) ?_
    refine va_sld hx hb hX hbl hbA hS (vp_c (by decide)) dL_law_2323 ?_
    refine cf_v (.int (xs 2)) rfl ?_
    refine lv_aload_n hx hb dL_law_2324 rfl (lv_at hl 3 rfl) ?_
    refine lv_iload_n hx hb dL_law_2325 rfl (lv_at hl 0 rfl) ?_
    refine lv_iconst (v := 3) hx hb dL_law_2326 (by decide) ?_
    refine lv_iadd hx hb dL_law_2327 ?_
    refine cf_i 3 (by decide) ?_
    refine va_sld hx hb hX hbl hbA hS (vp_c (by decide)) dL_law_2328 ?_
    refine cf_v (.int (xs 3)) rfl ?_
    refine aft_i (wr := []) hP hD hS hA [0, 1, 2, 3] [] rfl rfl (by decide) (by decide) (run_v (As := [.int (xs 1), .int (xs 2), .int (xs 3)]) (rest := [.int 0]) hFix hK hE hP hD [0, 1, 2, 3] (k_X9_row l D cs _ y0 (xs 1) (xs 2) (xs 3) (ay 0) (ay 1) (ay 2) (ay 3) (ay 4) (ay 5) (ay 6) (ay 7) (ay 8) (ay 9) (ay 10) (ay 11) (ay 12) (ay 13) (ay 14) (ay 15) (ay 16) (ay 17)) (cwV 3 hts gl_327_X9_row rfl rfl rfl (by decide +kernel) ⟨Nat.le_of_ble_eq_true rfl, Nat.le_of_ble_eq_true rfl⟩) rfl (by decide) rfl rfl rfl hl.1 rfl (Nat.le_of_ble_eq_true rfl) dL_law_2329 ⟨Nat.le_of_ble_eq_true rfl, Nat.le_of_ble_eq_true rfl⟩) (fun r_4 u_4 H locs hq_4 hP hD hS => ?_)
    replace hq_4 : (r_4 = (-2) ∧ ¬ ((0 ≤ (xs 1).toInt ∧ (xs 1).toInt ≤ 3) ∧ 0 ≤ (xs 2).toInt ∧ (xs 2).toInt ≤ 3 ∧ (xs 3).toInt ≤ 60)) ∨ (r_4 = (-3) ∧ ((0 ≤ (xs 1).toInt ∧ (xs 1).toInt ≤ 3) ∧ 0 ≤ (xs 2).toInt ∧ (xs 2).toInt ≤ 3 ∧ (xs 3).toInt ≤ 60) ∧ (xs 3).toInt < 0) ∨ (r_4 = 0 ∧ ((0 ≤ (xs 1).toInt ∧ (xs 1).toInt ≤ 3) ∧ 0 ≤ (xs 2).toInt ∧ (xs 2).toInt ≤ 3 ∧ (xs 3).toInt ≤ 60) ∧ ¬ (xs 3).toInt < 0) := hq_4
    rcases hq_4 with ⟨rfl, hq_4⟩ | ⟨rfl, hq_4⟩ | ⟨rfl, hq_4⟩
    ·
      exact False.elim (by have e0 := hq_1; have e1 := hq_4; (try simp only [ge_iff_le, gt_iff_lt, ne_eq, Int32.lt_iff_toInt_lt, Int32.le_iff_toInt_le, ← Int32.toInt_inj, Int64.lt_iff_toInt_lt, Int64.le_iff_toInt_le, Int32.toInt_toInt64, i0, i1, i2, i3, i4, i7, i8, i9, i60, j0, j1, j2, j3, j7] at e0 e1); omega)
    ·
      exact False.elim (by have e0 := hq_1; have e1 := hq_4; (try simp only [ge_iff_le, gt_iff_lt, ne_eq, Int32.lt_iff_toInt_lt, Int32.le_iff_toInt_le, ← Int32.toInt_inj, Int64.lt_iff_toInt_lt, Int64.le_iff_toInt_le, Int32.toInt_toInt64, i0, i1, i2, i3, i4, i7, i8, i9, i60, j0, j1, j2, j3, j7] at e0 e1); omega)
    ·
      refine lv_icmp_eq (tgt := 2473) hx hb dL_law_2332 (by decide) (fun _ => ?_) (fun h9 => absurd h9 (by decide))
      exact law_end l C0 hS (lv_sub hl [0, 3] rfl) (Nat.le_of_ble_eq_true rfl) (Nat.le_of_ble_eq_true rfl)

set_option maxHeartbeats 4000000 in
set_option maxRecDepth 100000 in
theorem law_case_77 {p : Program} {e : Env} {s : State} {m : MethodId} {below : List Frame} {meth : Method} {c : Code} (l : Launch) {b : Nat} {xs : Nat → Int32} (C0 : lw_At p s m meth c b 6 xs) {D : va_G} {cs : Nat → ClassId} (hK : va_K D vwCl (mtyA cs) s) (hE : mEnv s) {x0 y0 : Nat} {ax ay : Nat → Nat} {H : Heap} {locs : List Loc} {ls : Array Slot} (hP : va_P D vwCl (lawW cs x0 ax y0 ay) H) (hD : va_D (fun q : Nat => s.heap.size ≤ q) (lawW cs x0 ax y0 ay)) (hS : va_S (fun q : Nat => s.heap.size ≤ q) s.heap H locs) (hl : lv_has ls 4 [(3, .int 0), (2, .ref y0), (1, .ref x0), (0, .ref b)]) : W p l e room_1 s m #[Value.ref b] below meth c H locs 81 7838 (lw_Z below #[Value.ref b] s) (F0 m 2337 ls []) := by
  obtain ⟨hx, hb, hr, hml, hown, hts, hX, hbl, hlocks, hgv⟩ := id C0
  have hA : ∀ q : Nat, s.heap.size ≤ q → (fun q : Nat => s.heap.size ≤ q) q := fun _ h => h
  have hbA : ¬ (fun q : Nat => s.heap.size ≤ q) b := Nat.not_le.mpr hbl
  have hFix := (⟨hx, hb, hml, hown, hts⟩ : CallFix p m c _ _ s #[Value.ref b] lw_tbl RL)
  replace hP := hP.sub (ws' := [(x0, .inr (8, [.ref (ax 0), .ref (ax 1), .ref (ax 2), .ref (ax 3), .ref (ax 4), .ref (ax 5), .ref (ax 6), .ref (ax 7), .ref (ax 8), .ref (ax 9)])), (ax 9, .inl (cs 5, 4, .inr (.inr (.inr (.inr (va_up (va_up (va_up (va_up (fun _ => none) 0 (some (ax 53))) 1 (some (ax 54))) 2 (some (ax 55))) 3 (some (ax 56)))))))), (ax 53, .inr (5, [.int 0, .int 0, .int 0, .ref (ax 57)])), (ax 57, .inl (cs 2, 60, .inr (.inl (fun _ => 0)))), (ax 54, .inr (5, [.int 0, .int 0, .int 0, .ref (ax 58)])), (ax 58, .inl (cs 2, 60, .inr (.inl (fun _ => 0)))), (ax 55, .inr (5, [.int 0, .int 0, .int 0, .ref (ax 59)])), (ax 59, .inl (cs 2, 60, .inr (.inl (fun _ => 0)))), (ax 56, .inr (5, [.int 0, .int 0, .int 0, .ref (ax 60)])), (ax 60, .inl (cs 2, 60, .inr (.inl (fun _ => 0)))), (y0, .inr (9, [.int 0, .ref (ay 0), .ref (ay 1), .ref (ay 2), .ref (ay 3), .int 0, .ref (ay 4), .int 0, .int 0, .int 0, .int 0, .int 0, .int 0, .int (-1), .ref (ay 5), .ref (ay 6), .int 0, .int 0, .int 0, .ref (ay 7), .ref (ay 8), .ref (ay 9), .ref (ay 10), .ref (ay 11), .ref (ay 12), .int 0, .int 0, .int 0, .int 0, .int 0, .int 0, .int 0, .int 0, .int 0, .ref (ay 13), .long 0, .long 0, .long 0, .ref (ay 14), .ref (ay 15), .ref (ay 16), .ref (ay 17)])), (ay 14, .inl (cs 1, 4, .inl (upd (upd (upd (upd (fun _ => 0) 0 (-1)) 1 (-1)) 2 (-1)) 3 (-1))))]) [0, 53, 54, 55, 56, 57, 58, 59, 60, 61, 62, 77] rfl
  replace hD := hD.sub (ws' := [(x0, .inr (8, [.ref (ax 0), .ref (ax 1), .ref (ax 2), .ref (ax 3), .ref (ax 4), .ref (ax 5), .ref (ax 6), .ref (ax 7), .ref (ax 8), .ref (ax 9)])), (ax 9, .inl (cs 5, 4, .inr (.inr (.inr (.inr (va_up (va_up (va_up (va_up (fun _ => none) 0 (some (ax 53))) 1 (some (ax 54))) 2 (some (ax 55))) 3 (some (ax 56)))))))), (ax 53, .inr (5, [.int 0, .int 0, .int 0, .ref (ax 57)])), (ax 57, .inl (cs 2, 60, .inr (.inl (fun _ => 0)))), (ax 54, .inr (5, [.int 0, .int 0, .int 0, .ref (ax 58)])), (ax 58, .inl (cs 2, 60, .inr (.inl (fun _ => 0)))), (ax 55, .inr (5, [.int 0, .int 0, .int 0, .ref (ax 59)])), (ax 59, .inl (cs 2, 60, .inr (.inl (fun _ => 0)))), (ax 56, .inr (5, [.int 0, .int 0, .int 0, .ref (ax 60)])), (ax 60, .inl (cs 2, 60, .inr (.inl (fun _ => 0)))), (y0, .inr (9, [.int 0, .ref (ay 0), .ref (ay 1), .ref (ay 2), .ref (ay 3), .int 0, .ref (ay 4), .int 0, .int 0, .int 0, .int 0, .int 0, .int 0, .int (-1), .ref (ay 5), .ref (ay 6), .int 0, .int 0, .int 0, .ref (ay 7), .ref (ay 8), .ref (ay 9), .ref (ay 10), .ref (ay 11), .ref (ay 12), .int 0, .int 0, .int 0, .int 0, .int 0, .int 0, .int 0, .int 0, .int 0, .ref (ay 13), .long 0, .long 0, .long 0, .ref (ay 14), .ref (ay 15), .ref (ay 16), .ref (ay 17)])), (ay 14, .inl (cs 1, 4, .inl (upd (upd (upd (upd (fun _ => 0) 0 (-1)) 1 (-1)) 2 (-1)) 3 (-1))))]) [0, 53, 54, 55, 56, 57, 58, 59, 60, 61, 62, 77] (by decide) rfl
  refine lv_aload_n hx hb dL_law_2337 rfl (lv_at hl 2 rfl) ?_
  refine lv_aload_n hx hb dL_law_2338 rfl (lv_at hl 3 rfl) ?_
  refine lv_iload_n hx hb dL_law_2339 rfl (lv_at hl 0 rfl) ?_
  refine lv_iconst (v := 1) hx hb dL_law_2340 (by decide) ?_
  refine lv_iadd hx hb dL_law_2341 ?_
  refine cf_i 1 (by decide) ?_
  refine va_sld hx hb hX hbl hbA hS (vp_c (by decide)) dL_law_2342 ?_
  refine cf_v (.int (xs 1)) rfl ?_
  refine lv_aload_n hx hb dL_law_2343 rfl (lv_at hl 3 rfl) ?_
  refine lv_iload_n hx hb dL_law_2344 rfl (lv_at hl 0 rfl) ?_
  refine lv_iconst (v := 2) hx hb dL_law_2345 (by decide) ?_
  refine lv_iadd hx hb dL_law_2346 ?_
  refine cf_i 2 (by decide) ?_
  refine va_sld hx hb hX hbl hbA hS (vp_c (by decide)) dL_law_2347 ?_
  refine cf_v (.int (xs 2)) rfl ?_
  refine lv_aload_n hx hb dL_law_2348 rfl (lv_at hl 3 rfl) ?_
  refine lv_iload_n hx hb dL_law_2349 rfl (lv_at hl 0 rfl) ?_
  refine lv_iconst (v := 3) hx hb dL_law_2350 (by decide) ?_
  refine lv_iadd hx hb dL_law_2351 ?_
  refine cf_i 3 (by decide) ?_
  refine va_sld hx hb hX hbl hbA hS (vp_c (by decide)) dL_law_2352 ?_
  refine cf_v (.int (xs 3)) rfl ?_
  refine lv_i2l (v := ((xs 3).toInt64)) hx hb dL_law_2353 rfl ?_
  refine lv_bipush (v := 32) hx hb dL_law_2354 (by decide) ?_
  refine lv_lshl (v := ((xs 3).toInt64) <<< ((32 : Int32).toInt64 &&& 63)) hx hb dL_law_2356 rfl ?_
  refine lv_aload_n hx hb dL_law_2357 rfl (lv_at hl 3 rfl) ?_
  refine lv_iload_n hx hb dL_law_2358 rfl (lv_at hl 0 rfl) ?_
  refine lv_iconst (v := 4) hx hb dL_law_2359 (by decide) ?_
  refine lv_iadd hx hb dL_law_2360 ?_
  refine cf_i 4 (by decide) ?_
  refine va_sld hx hb hX hbl hbA hS (vp_c (by decide)) dL_law_2361 ?_
  refine cf_v (.int (xs 4)) rfl ?_
  refine lv_i2l (v := ((xs 4).toInt64)) hx hb dL_law_2362 rfl ?_
  refine lv_ldc2 (v := 4294967295) hx hb hown (hts (.constantLong RL 328 (4294967295)) (tin_9 _ (List.mem_of_getElem? (i := 107) rfl))) dL_law_2363 ?_
  refine lv_land hx hb dL_law_2366 ?_
  refine lv_lor hx hb dL_law_2367 ?_
  refine aft_i (wr := [(y0, .inr (9, [.int 0, .ref (ay 0), .ref (ay 1), .ref (ay 2), .ref (ay 3), .int 0, .ref (ay 4), .int 0, .int 0, .int 0, .int 0, .int 0, .int 0, .int (-1), .ref (ay 5), .ref (ay 6), .int 0, .int 0, .int 0, .ref (ay 7), .ref (ay 8), .ref (ay 9), .ref (ay 10), .ref (ay 11), .ref (ay 12), .int 0, .int 0, .int 0, .int 0, .int 0, .int 0, .int 0, .int 0, .int 0, .ref (ay 13), .long 0, .long 0, .long 0, .ref (ay 14), .ref (ay 15), .ref (ay 16), .ref (ay 17)])), (ay 14, .inl (cs 1, 4, .inl (upd (upd (upd (upd (fun _ => 0) 0 (-1)) 1 (-1)) 2 (-1)) 3 (-1))))]) hP hD hS hA [0, 1, 2, 3, 4, 5, 6, 7, 8, 9] [10, 11] rfl rfl (by decide) (by decide) (run_v (As := [.int (xs 1), .int (xs 2), .long ((((xs 3).toInt64) <<< ((32 : Int32).toInt64 &&& 63)) ||| (((xs 4).toInt64) &&& 4294967295))]) (rest := []) hFix hK hE hP hD [0, 1, 2, 3, 4, 5, 6, 7, 8, 9] (k_X8_write l D cs _ x0 (xs 1) (xs 2) ((((xs 3).toInt64) <<< ((32 : Int32).toInt64 &&& 63)) ||| (((xs 4).toInt64) &&& 4294967295)) (ax 0) (ax 1) (ax 2) (ax 3) (ax 4) (ax 5) (ax 6) (ax 7) (ax 8) (ax 9) (ax 53) (ax 54) (ax 55) (ax 56) (ax 57) (ax 58) (ax 59) (ax 60)) (cwV 3 hts gl_330_X8_write rfl rfl rfl (by decide +kernel) ⟨Nat.le_of_ble_eq_true rfl, Nat.le_of_ble_eq_true rfl⟩) rfl (by decide) rfl rfl rfl hl.1 rfl (Nat.le_of_ble_eq_true rfl) dL_law_2368 ⟨Nat.le_of_ble_eq_true rfl, Nat.le_of_ble_eq_true rfl⟩) (fun r_1 u_1 H locs hq_1 hP hD hS => ?_)
  have hP : va_P D vwCl [(y0, .inr (9, [.int 0, .ref (ay 0), .ref (ay 1), .ref (ay 2), .ref (ay 3), .int 0, .ref (ay 4), .int 0, .int 0, .int 0, .int 0, .int 0, .int 0, .int (-1), .ref (ay 5), .ref (ay 6), .int 0, .int 0, .int 0, .ref (ay 7), .ref (ay 8), .ref (ay 9), .ref (ay 10), .ref (ay 11), .ref (ay 12), .int 0, .int 0, .int 0, .int 0, .int 0, .int 0, .int 0, .int 0, .int 0, .ref (ay 13), .long 0, .long 0, .long 0, .ref (ay 14), .ref (ay 15), .ref (ay 16), .ref (ay 17)])), (ay 14, .inl (cs 1, 4, .inl (upd (upd (upd (upd (fun _ => 0) 0 (-1)) 1 (-1)) 2 (-1)) 3 (-1))))] H := hP
  have hD : va_D (fun q : Nat => s.heap.size ≤ q) [(y0, .inr (9, [.int 0, .ref (ay 0), .ref (ay 1), .ref (ay 2), .ref (ay 3), .int 0, .ref (ay 4), .int 0, .int 0, .int 0, .int 0, .int 0, .int 0, .int (-1), .ref (ay 5), .ref (ay 6), .int 0, .int 0, .int 0, .ref (ay 7), .ref (ay 8), .ref (ay 9), .ref (ay 10), .ref (ay 11), .ref (ay 12), .int 0, .int 0, .int 0, .int 0, .int 0, .int 0, .int 0, .int 0, .int 0, .ref (ay 13), .long 0, .long 0, .long 0, .ref (ay 14), .ref (ay 15), .ref (ay 16), .ref (ay 17)])), (ay 14, .inl (cs 1, 4, .inl (upd (upd (upd (upd (fun _ => 0) 0 (-1)) 1 (-1)) 2 (-1)) 3 (-1))))] := hD
  replace hq_1 : (r_1 = (-2) ∧ ¬ (0 ≤ (xs 1).toInt ∧ (xs 1).toInt ≤ 3)) ∨ (r_1 = (-6) ∧ (0 ≤ (xs 1).toInt ∧ (xs 1).toInt ≤ 3)) := hq_1
  rcases hq_1 with ⟨rfl, hq_1⟩ | ⟨rfl, hq_1⟩
  ·
    refine lv_aload_n hx hb dL_law_2371 rfl (lv_at hl 1 rfl) ?_
    refine lv_aload_n hx hb dL_law_2372 rfl (lv_at hl 3 rfl) ?_
    refine lv_iload_n hx hb dL_law_2373 rfl (lv_at hl 0 rfl) ?_
    refine lv_iconst (v := 1) hx hb dL_law_2374 (by decide) ?_
    refine lv_iadd hx hb dL_law_2375 ?_
    refine cf_i 1 (by decide) ?_
    refine va_sld hx hb hX hbl hbA hS (vp_c (by decide)) dL_law_2376 ?_
    refine cf_v (.int (xs 1)) rfl ?_
    refine lv_aload_n hx hb dL_law_2377 rfl (lv_at hl 3 rfl) ?_
    refine lv_iload_n hx hb dL_law_2378 rfl (lv_at hl 0 rfl) ?_
    refine lv_iconst (v := 2) hx hb dL_law_2379 (by decide) ?_
    refine lv_iadd hx hb dL_law_2380 ?_
    refine cf_i 2 (by decide) ?_
    refine va_sld hx hb hX hbl hbA hS (vp_c (by decide)) dL_law_2381 ?_
    refine cf_v (.int (xs 2)) rfl ?_
    refine lv_aload_n hx hb dL_law_2382 rfl (lv_at hl 3 rfl) ?_
    refine lv_iload_n hx hb dL_law_2383 rfl (lv_at hl 0 rfl) ?_
    refine lv_iconst (v := 3) hx hb dL_law_2384 (by decide) ?_
    refine lv_iadd hx hb dL_law_2385 ?_
    refine cf_i 3 (by decide) ?_
    refine va_sld hx hb hX hbl hbA hS (vp_c (by decide)) dL_law_2386 ?_
    refine cf_v (.int (xs 3)) rfl ?_
    refine lv_i2l (v := ((xs 3).toInt64)) hx hb dL_law_2387 rfl ?_
    refine lv_bipush (v := 32) hx hb dL_law_2388 (by decide) ?_
    refine lv_lshl (v := ((xs 3).toInt64) <<< ((32 : Int32).toInt64 &&& 63)) hx hb dL_law_2390 rfl ?_
    refine lv_aload_n hx hb dL_law_2391 rfl (lv_at hl 3 rfl) ?_
    refine lv_iload_n hx hb dL_law_2392 rfl (lv_at hl 0 rfl) ?_
    refine lv_iconst (v := 4) hx hb dL_law_2393 (by decide) ?_
    refine lv_iadd hx hb dL_law_2394 ?_
    refine cf_i 4 (by decide) ?_
    refine va_sld hx hb hX hbl hbA hS (vp_c (by decide)) dL_law_2395 ?_
    refine cf_v (.int (xs 4)) rfl ?_
    refine lv_i2l (v := ((xs 4).toInt64)) hx hb dL_law_2396 rfl ?_
    refine lv_ldc2 (v := 4294967295) hx hb hown (hts (.constantLong RL 328 (4294967295)) (tin_9 _ (List.mem_of_getElem? (i := 107) rfl))) dL_law_2397 ?_
    refine lv_land hx hb dL_law_2400 ?_
    refine lv_lor hx hb dL_law_2401 ?_
    refine aft_i (wr := []) hP hD hS hA [0, 1] [] rfl rfl (by decide) (by decide) (run_v (As := [.int (xs 1), .int (xs 2), .long ((((xs 3).toInt64) <<< ((32 : Int32).toInt64 &&& 63)) ||| (((xs 4).toInt64) &&& 4294967295))]) (rest := [.int (-2)]) hFix hK hE hP hD [0, 1] (k_X9_write l D cs _ y0 (xs 1) (xs 2) ((((xs 3).toInt64) <<< ((32 : Int32).toInt64 &&& 63)) ||| (((xs 4).toInt64) &&& 4294967295)) (ay 0) (ay 1) (ay 2) (ay 3) (ay 4) (ay 5) (ay 6) (ay 7) (ay 8) (ay 9) (ay 10) (ay 11) (ay 12) (ay 13) (ay 14) (ay 15) (ay 16) (ay 17)) (cwV 3 hts gl_334_X9_write rfl rfl rfl (by decide +kernel) ⟨Nat.le_of_ble_eq_true rfl, Nat.le_of_ble_eq_true rfl⟩) rfl (by decide) rfl rfl rfl hl.1 rfl (Nat.le_of_ble_eq_true rfl) dL_law_2402 ⟨Nat.le_of_ble_eq_true rfl, Nat.le_of_ble_eq_true rfl⟩) (fun r_2 u_2 H locs hq_2 hP hD hS => ?_)
    replace hq_2 : (r_2 = (-2) ∧ ¬ (0 ≤ (xs 1).toInt ∧ (xs 1).toInt ≤ 3)) ∨ (r_2 = (-6) ∧ (0 ≤ (xs 1).toInt ∧ (xs 1).toInt ≤ 3)) := hq_2
    rcases hq_2 with ⟨rfl, hq_2⟩ | ⟨rfl, hq_2⟩
    ·
      refine lv_icmp_eq (tgt := 2473) hx hb dL_law_2405 (by decide) (fun _ => ?_) (fun h9 => absurd h9 (by decide))
      exact law_end l C0 hS (lv_sub hl [0, 3] rfl) (Nat.le_of_ble_eq_true rfl) (Nat.le_of_ble_eq_true rfl)
    ·
      exact False.elim (by have e0 := hq_1; have e1 := hq_2; (try simp only [ge_iff_le, gt_iff_lt, ne_eq, Int32.lt_iff_toInt_lt, Int32.le_iff_toInt_le, ← Int32.toInt_inj, Int64.lt_iff_toInt_lt, Int64.le_iff_toInt_le, Int32.toInt_toInt64, i0, i1, i2, i3, i4, i7, i8, i9, i60, j0, j1, j2, j3, j7] at e0 e1); omega)
  ·
    refine lv_aload_n hx hb dL_law_2371 rfl (lv_at hl 1 rfl) ?_
    refine lv_aload_n hx hb dL_law_2372 rfl (lv_at hl 3 rfl) ?_
    refine lv_iload_n hx hb dL_law_2373 rfl (lv_at hl 0 rfl) ?_
    refine lv_iconst (v := 1) hx hb dL_law_2374 (by decide) ?_
    refine lv_iadd hx hb dL_law_2375 ?_
    refine cf_i 1 (by decide) ?_
    refine va_sld hx hb hX hbl hbA hS (vp_c (by decide)) dL_law_2376 ?_
    refine cf_v (.int (xs 1)) rfl ?_
    refine lv_aload_n hx hb dL_law_2377 rfl (lv_at hl 3 rfl) ?_
    refine lv_iload_n hx hb dL_law_2378 rfl (lv_at hl 0 rfl) ?_
    refine lv_iconst (v := 2) hx hb dL_law_2379 (by decide) ?_
    refine lv_iadd hx hb dL_law_2380 ?_
    refine cf_i 2 (by decide) ?_
    refine va_sld hx hb hX hbl hbA hS (vp_c (by decide)) dL_law_2381 ?_
    refine cf_v (.int (xs 2)) rfl ?_
    refine lv_aload_n hx hb dL_law_2382 rfl (lv_at hl 3 rfl) ?_
    refine lv_iload_n hx hb dL_law_2383 rfl (lv_at hl 0 rfl) ?_
    refine lv_iconst (v := 3) hx hb dL_law_2384 (by decide) ?_
    refine lv_iadd hx hb dL_law_2385 ?_
    refine cf_i 3 (by decide) ?_
    refine va_sld hx hb hX hbl hbA hS (vp_c (by decide)) dL_law_2386 ?_
    refine cf_v (.int (xs 3)) rfl ?_
    refine lv_i2l (v := ((xs 3).toInt64)) hx hb dL_law_2387 rfl ?_
    refine lv_bipush (v := 32) hx hb dL_law_2388 (by decide) ?_
    refine lv_lshl (v := ((xs 3).toInt64) <<< ((32 : Int32).toInt64 &&& 63)) hx hb dL_law_2390 rfl ?_
    refine lv_aload_n hx hb dL_law_2391 rfl (lv_at hl 3 rfl) ?_
    refine lv_iload_n hx hb dL_law_2392 rfl (lv_at hl 0 rfl) ?_
    refine lv_iconst (v := 4) hx hb dL_law_2393 (by decide) ?_
    refine lv_iadd hx hb dL_law_2394 ?_
    refine cf_i 4 (by decide) ?_
    refine va_sld hx hb hX hbl hbA hS (vp_c (by decide)) dL_law_2395 ?_
    refine cf_v (.int (xs 4)) rfl ?_
    refine lv_i2l (v := ((xs 4).toInt64)) hx hb dL_law_2396 rfl ?_
    refine lv_ldc2 (v := 4294967295) hx hb hown (hts (.constantLong RL 328 (4294967295)) (tin_9 _ (List.mem_of_getElem? (i := 107) rfl))) dL_law_2397 ?_
    refine lv_land hx hb dL_law_2400 ?_
    refine lv_lor hx hb dL_law_2401 ?_
    refine aft_i (wr := []) hP hD hS hA [0, 1] [] rfl rfl (by decide) (by decide) (run_v (As := [.int (xs 1), .int (xs 2), .long ((((xs 3).toInt64) <<< ((32 : Int32).toInt64 &&& 63)) ||| (((xs 4).toInt64) &&& 4294967295))]) (rest := [.int (-6)]) hFix hK hE hP hD [0, 1] (k_X9_write l D cs _ y0 (xs 1) (xs 2) ((((xs 3).toInt64) <<< ((32 : Int32).toInt64 &&& 63)) ||| (((xs 4).toInt64) &&& 4294967295)) (ay 0) (ay 1) (ay 2) (ay 3) (ay 4) (ay 5) (ay 6) (ay 7) (ay 8) (ay 9) (ay 10) (ay 11) (ay 12) (ay 13) (ay 14) (ay 15) (ay 16) (ay 17)) (cwV 3 hts gl_334_X9_write rfl rfl rfl (by decide +kernel) ⟨Nat.le_of_ble_eq_true rfl, Nat.le_of_ble_eq_true rfl⟩) rfl (by decide) rfl rfl rfl hl.1 rfl (Nat.le_of_ble_eq_true rfl) dL_law_2402 ⟨Nat.le_of_ble_eq_true rfl, Nat.le_of_ble_eq_true rfl⟩) (fun r_3 u_3 H locs hq_3 hP hD hS => ?_)
    replace hq_3 : (r_3 = (-2) ∧ ¬ (0 ≤ (xs 1).toInt ∧ (xs 1).toInt ≤ 3)) ∨ (r_3 = (-6) ∧ (0 ≤ (xs 1).toInt ∧ (xs 1).toInt ≤ 3)) := hq_3
    rcases hq_3 with ⟨rfl, hq_3⟩ | ⟨rfl, hq_3⟩
    ·
      exact False.elim (by have e0 := hq_1; have e1 := hq_3; (try simp only [ge_iff_le, gt_iff_lt, ne_eq, Int32.lt_iff_toInt_lt, Int32.le_iff_toInt_le, ← Int32.toInt_inj, Int64.lt_iff_toInt_lt, Int64.le_iff_toInt_le, Int32.toInt_toInt64, i0, i1, i2, i3, i4, i7, i8, i9, i60, j0, j1, j2, j3, j7] at e0 e1); omega)
    ·
      refine lv_icmp_eq (tgt := 2473) hx hb dL_law_2405 (by decide) (fun _ => ?_) (fun h9 => absurd h9 (by decide))
      exact law_end l C0 hS (lv_sub hl [0, 3] rfl) (Nat.le_of_ble_eq_true rfl) (Nat.le_of_ble_eq_true rfl)

set_option maxHeartbeats 4000000 in
set_option maxRecDepth 100000 in
theorem law_case_78 {p : Program} {e : Env} {s : State} {m : MethodId} {below : List Frame} {meth : Method} {c : Code} (l : Launch) {b : Nat} {xs : Nat → Int32} (C0 : lw_At p s m meth c b 6 xs) {D : va_G} {cs : Nat → ClassId} (hK : va_K D vwCl (mtyA cs) s) (hE : mEnv s) {x0 y0 : Nat} {ax ay : Nat → Nat} {H : Heap} {locs : List Loc} {ls : Array Slot} (hP : va_P D vwCl (lawW cs x0 ax y0 ay) H) (hD : va_D (fun q : Nat => s.heap.size ≤ q) (lawW cs x0 ax y0 ay)) (hS : va_S (fun q : Nat => s.heap.size ≤ q) s.heap H locs) (hl : lv_has ls 4 [(3, .int 0), (2, .ref y0), (1, .ref x0), (0, .ref b)]) : W p l e room_1 s m #[Value.ref b] below meth c H locs 81 7838 (lw_Z below #[Value.ref b] s) (F0 m 2410 ls []) := by
  obtain ⟨hx, hb, hr, hml, hown, hts, hX, hbl, hlocks, hgv⟩ := id C0
  have hA : ∀ q : Nat, s.heap.size ≤ q → (fun q : Nat => s.heap.size ≤ q) q := fun _ h => h
  have hbA : ¬ (fun q : Nat => s.heap.size ≤ q) b := Nat.not_le.mpr hbl
  have hFix := (⟨hx, hb, hml, hown, hts⟩ : CallFix p m c _ _ s #[Value.ref b] lw_tbl RL)
  replace hP := hP.sub (ws' := [(x0, .inr (8, [.ref (ax 0), .ref (ax 1), .ref (ax 2), .ref (ax 3), .ref (ax 4), .ref (ax 5), .ref (ax 6), .ref (ax 7), .ref (ax 8), .ref (ax 9)])), (ax 9, .inl (cs 5, 4, .inr (.inr (.inr (.inr (va_up (va_up (va_up (va_up (fun _ => none) 0 (some (ax 53))) 1 (some (ax 54))) 2 (some (ax 55))) 3 (some (ax 56)))))))), (ax 53, .inr (5, [.int 0, .int 0, .int 0, .ref (ax 57)])), (ax 57, .inl (cs 2, 60, .inr (.inl (fun _ => 0)))), (ax 54, .inr (5, [.int 0, .int 0, .int 0, .ref (ax 58)])), (ax 58, .inl (cs 2, 60, .inr (.inl (fun _ => 0)))), (ax 55, .inr (5, [.int 0, .int 0, .int 0, .ref (ax 59)])), (ax 59, .inl (cs 2, 60, .inr (.inl (fun _ => 0)))), (ax 56, .inr (5, [.int 0, .int 0, .int 0, .ref (ax 60)])), (ax 60, .inl (cs 2, 60, .inr (.inl (fun _ => 0)))), (y0, .inr (9, [.int 0, .ref (ay 0), .ref (ay 1), .ref (ay 2), .ref (ay 3), .int 0, .ref (ay 4), .int 0, .int 0, .int 0, .int 0, .int 0, .int 0, .int (-1), .ref (ay 5), .ref (ay 6), .int 0, .int 0, .int 0, .ref (ay 7), .ref (ay 8), .ref (ay 9), .ref (ay 10), .ref (ay 11), .ref (ay 12), .int 0, .int 0, .int 0, .int 0, .int 0, .int 0, .int 0, .int 0, .int 0, .ref (ay 13), .long 0, .long 0, .long 0, .ref (ay 14), .ref (ay 15), .ref (ay 16), .ref (ay 17)])), (ay 14, .inl (cs 1, 4, .inl (upd (upd (upd (upd (fun _ => 0) 0 (-1)) 1 (-1)) 2 (-1)) 3 (-1))))]) [0, 53, 54, 55, 56, 57, 58, 59, 60, 61, 62, 77] rfl
  replace hD := hD.sub (ws' := [(x0, .inr (8, [.ref (ax 0), .ref (ax 1), .ref (ax 2), .ref (ax 3), .ref (ax 4), .ref (ax 5), .ref (ax 6), .ref (ax 7), .ref (ax 8), .ref (ax 9)])), (ax 9, .inl (cs 5, 4, .inr (.inr (.inr (.inr (va_up (va_up (va_up (va_up (fun _ => none) 0 (some (ax 53))) 1 (some (ax 54))) 2 (some (ax 55))) 3 (some (ax 56)))))))), (ax 53, .inr (5, [.int 0, .int 0, .int 0, .ref (ax 57)])), (ax 57, .inl (cs 2, 60, .inr (.inl (fun _ => 0)))), (ax 54, .inr (5, [.int 0, .int 0, .int 0, .ref (ax 58)])), (ax 58, .inl (cs 2, 60, .inr (.inl (fun _ => 0)))), (ax 55, .inr (5, [.int 0, .int 0, .int 0, .ref (ax 59)])), (ax 59, .inl (cs 2, 60, .inr (.inl (fun _ => 0)))), (ax 56, .inr (5, [.int 0, .int 0, .int 0, .ref (ax 60)])), (ax 60, .inl (cs 2, 60, .inr (.inl (fun _ => 0)))), (y0, .inr (9, [.int 0, .ref (ay 0), .ref (ay 1), .ref (ay 2), .ref (ay 3), .int 0, .ref (ay 4), .int 0, .int 0, .int 0, .int 0, .int 0, .int 0, .int (-1), .ref (ay 5), .ref (ay 6), .int 0, .int 0, .int 0, .ref (ay 7), .ref (ay 8), .ref (ay 9), .ref (ay 10), .ref (ay 11), .ref (ay 12), .int 0, .int 0, .int 0, .int 0, .int 0, .int 0, .int 0, .int 0, .int 0, .ref (ay 13), .long 0, .long 0, .long 0, .ref (ay 14), .ref (ay 15), .ref (ay 16), .ref (ay 17)])), (ay 14, .inl (cs 1, 4, .inl (upd (upd (upd (upd (fun _ => 0) 0 (-1)) 1 (-1)) 2 (-1)) 3 (-1))))]) [0, 53, 54, 55, 56, 57, 58, 59, 60, 61, 62, 77] (by decide) rfl
  refine lv_aload_n hx hb dL_law_2410 rfl (lv_at hl 2 rfl) ?_
  refine lv_aload_n hx hb dL_law_2411 rfl (lv_at hl 3 rfl) ?_
  refine lv_iload_n hx hb dL_law_2412 rfl (lv_at hl 0 rfl) ?_
  refine lv_iconst (v := 1) hx hb dL_law_2413 (by decide) ?_
  refine lv_iadd hx hb dL_law_2414 ?_
  refine cf_i 1 (by decide) ?_
  refine va_sld hx hb hX hbl hbA hS (vp_c (by decide)) dL_law_2415 ?_
  refine cf_v (.int (xs 1)) rfl ?_
  refine lv_aload_n hx hb dL_law_2416 rfl (lv_at hl 3 rfl) ?_
  refine lv_iload_n hx hb dL_law_2417 rfl (lv_at hl 0 rfl) ?_
  refine lv_iconst (v := 2) hx hb dL_law_2418 (by decide) ?_
  refine lv_iadd hx hb dL_law_2419 ?_
  refine cf_i 2 (by decide) ?_
  refine va_sld hx hb hX hbl hbA hS (vp_c (by decide)) dL_law_2420 ?_
  refine cf_v (.int (xs 2)) rfl ?_
  refine lv_aload_n hx hb dL_law_2421 rfl (lv_at hl 3 rfl) ?_
  refine lv_iload_n hx hb dL_law_2422 rfl (lv_at hl 0 rfl) ?_
  refine lv_iconst (v := 3) hx hb dL_law_2423 (by decide) ?_
  refine lv_iadd hx hb dL_law_2424 ?_
  refine cf_i 3 (by decide) ?_
  refine va_sld hx hb hX hbl hbA hS (vp_c (by decide)) dL_law_2425 ?_
  refine cf_v (.int (xs 3)) rfl ?_
  refine lv_aload_n hx hb dL_law_2426 rfl (lv_at hl 3 rfl) ?_
  refine lv_iload_n hx hb dL_law_2427 rfl (lv_at hl 0 rfl) ?_
  refine lv_iconst (v := 4) hx hb dL_law_2428 (by decide) ?_
  refine lv_iadd hx hb dL_law_2429 ?_
  refine cf_i 4 (by decide) ?_
  refine va_sld hx hb hX hbl hbA hS (vp_c (by decide)) dL_law_2430 ?_
  refine cf_v (.int (xs 4)) rfl ?_
  refine lv_aload_n hx hb dL_law_2431 rfl (lv_at hl 3 rfl) ?_
  refine lv_iload_n hx hb dL_law_2432 rfl (lv_at hl 0 rfl) ?_
  refine lv_iconst (v := 5) hx hb dL_law_2433 (by decide) ?_
  refine lv_iadd hx hb dL_law_2434 ?_
  refine cf_i 5 (by decide) ?_
  refine va_sld hx hb hX hbl hbA hS (vp_c (by decide)) dL_law_2435 ?_
  refine cf_v (.int (xs 5)) rfl ?_
  refine aft_i (wr := [(y0, .inr (9, [.int 0, .ref (ay 0), .ref (ay 1), .ref (ay 2), .ref (ay 3), .int 0, .ref (ay 4), .int 0, .int 0, .int 0, .int 0, .int 0, .int 0, .int (-1), .ref (ay 5), .ref (ay 6), .int 0, .int 0, .int 0, .ref (ay 7), .ref (ay 8), .ref (ay 9), .ref (ay 10), .ref (ay 11), .ref (ay 12), .int 0, .int 0, .int 0, .int 0, .int 0, .int 0, .int 0, .int 0, .int 0, .ref (ay 13), .long 0, .long 0, .long 0, .ref (ay 14), .ref (ay 15), .ref (ay 16), .ref (ay 17)])), (ay 14, .inl (cs 1, 4, .inl (upd (upd (upd (upd (fun _ => 0) 0 (-1)) 1 (-1)) 2 (-1)) 3 (-1))))]) hP hD hS hA [0, 1, 2, 3, 4, 5, 6, 7, 8, 9] [10, 11] rfl rfl (by decide) (by decide) (run_v (As := [.int (xs 1), .int (xs 2), .int (xs 3), .int (xs 4), .int (xs 5)]) (rest := []) hFix hK hE hP hD [0, 1, 2, 3, 4, 5, 6, 7, 8, 9] (k_X8_paste l D cs _ x0 (xs 1) (xs 2) (xs 3) (xs 4) (xs 5) (ax 0) (ax 1) (ax 2) (ax 3) (ax 4) (ax 5) (ax 6) (ax 7) (ax 8) (ax 9) (ax 53) (ax 54) (ax 55) (ax 56) (ax 57) (ax 58) (ax 59) (ax 60)) (cwV 5 hts gl_335_X8_paste rfl rfl rfl (by decide +kernel) ⟨Nat.le_of_ble_eq_true rfl, Nat.le_of_ble_eq_true rfl⟩) rfl (by decide) rfl rfl rfl hl.1 rfl (Nat.le_of_ble_eq_true rfl) dL_law_2436 ⟨Nat.le_of_ble_eq_true rfl, Nat.le_of_ble_eq_true rfl⟩) (fun r_1 u_1 H locs hq_1 hP hD hS => ?_)
  have hP : va_P D vwCl [(y0, .inr (9, [.int 0, .ref (ay 0), .ref (ay 1), .ref (ay 2), .ref (ay 3), .int 0, .ref (ay 4), .int 0, .int 0, .int 0, .int 0, .int 0, .int 0, .int (-1), .ref (ay 5), .ref (ay 6), .int 0, .int 0, .int 0, .ref (ay 7), .ref (ay 8), .ref (ay 9), .ref (ay 10), .ref (ay 11), .ref (ay 12), .int 0, .int 0, .int 0, .int 0, .int 0, .int 0, .int 0, .int 0, .int 0, .ref (ay 13), .long 0, .long 0, .long 0, .ref (ay 14), .ref (ay 15), .ref (ay 16), .ref (ay 17)])), (ay 14, .inl (cs 1, 4, .inl (upd (upd (upd (upd (fun _ => 0) 0 (-1)) 1 (-1)) 2 (-1)) 3 (-1))))] H := hP
  have hD : va_D (fun q : Nat => s.heap.size ≤ q) [(y0, .inr (9, [.int 0, .ref (ay 0), .ref (ay 1), .ref (ay 2), .ref (ay 3), .int 0, .ref (ay 4), .int 0, .int 0, .int 0, .int 0, .int 0, .int 0, .int (-1), .ref (ay 5), .ref (ay 6), .int 0, .int 0, .int 0, .ref (ay 7), .ref (ay 8), .ref (ay 9), .ref (ay 10), .ref (ay 11), .ref (ay 12), .int 0, .int 0, .int 0, .int 0, .int 0, .int 0, .int 0, .int 0, .int 0, .ref (ay 13), .long 0, .long 0, .long 0, .ref (ay 14), .ref (ay 15), .ref (ay 16), .ref (ay 17)])), (ay 14, .inl (cs 1, 4, .inl (upd (upd (upd (upd (fun _ => 0) 0 (-1)) 1 (-1)) 2 (-1)) 3 (-1))))] := hD
  replace hq_1 : (r_1 = (-2) ∧ ¬ ((0 ≤ (xs 1).toInt ∧ (xs 1).toInt ≤ 3) ∧ (0 ≤ (xs 3).toInt ∧ (xs 3).toInt ≤ 3))) ∨ (r_1 = (-6) ∧ ((0 ≤ (xs 1).toInt ∧ (xs 1).toInt ≤ 3) ∧ (0 ≤ (xs 3).toInt ∧ (xs 3).toInt ≤ 3))) := hq_1
  rcases hq_1 with ⟨rfl, hq_1⟩ | ⟨rfl, hq_1⟩
  ·
    refine lv_aload_n hx hb dL_law_2439 rfl (lv_at hl 1 rfl) ?_
    refine lv_aload_n hx hb dL_law_2440 rfl (lv_at hl 3 rfl) ?_
    refine lv_iload_n hx hb dL_law_2441 rfl (lv_at hl 0 rfl) ?_
    refine lv_iconst (v := 1) hx hb dL_law_2442 (by decide) ?_
    refine lv_iadd hx hb dL_law_2443 ?_
    refine cf_i 1 (by decide) ?_
    refine va_sld hx hb hX hbl hbA hS (vp_c (by decide)) dL_law_2444 ?_
    refine cf_v (.int (xs 1)) rfl ?_
    refine lv_aload_n hx hb dL_law_2445 rfl (lv_at hl 3 rfl) ?_
    refine lv_iload_n hx hb dL_law_2446 rfl (lv_at hl 0 rfl) ?_
    refine lv_iconst (v := 2) hx hb dL_law_2447 (by decide) ?_
    refine lv_iadd hx hb dL_law_2448 ?_
    refine cf_i 2 (by decide) ?_
    refine va_sld hx hb hX hbl hbA hS (vp_c (by decide)) dL_law_2449 ?_
    refine cf_v (.int (xs 2)) rfl ?_
    refine lv_aload_n hx hb dL_law_2450 rfl (lv_at hl 3 rfl) ?_
    refine lv_iload_n hx hb dL_law_2451 rfl (lv_at hl 0 rfl) ?_
    refine lv_iconst (v := 3) hx hb dL_law_2452 (by decide) ?_
    refine lv_iadd hx hb dL_law_2453 ?_
    refine cf_i 3 (by decide) ?_
    refine va_sld hx hb hX hbl hbA hS (vp_c (by decide)) dL_law_2454 ?_
    refine cf_v (.int (xs 3)) rfl ?_
    refine lv_aload_n hx hb dL_law_2455 rfl (lv_at hl 3 rfl) ?_
    refine lv_iload_n hx hb dL_law_2456 rfl (lv_at hl 0 rfl) ?_
    refine lv_iconst (v := 4) hx hb dL_law_2457 (by decide) ?_
    refine lv_iadd hx hb dL_law_2458 ?_
    refine cf_i 4 (by decide) ?_
    refine va_sld hx hb hX hbl hbA hS (vp_c (by decide)) dL_law_2459 ?_
    refine cf_v (.int (xs 4)) rfl ?_
    refine lv_aload_n hx hb dL_law_2460 rfl (lv_at hl 3 rfl) ?_
    refine lv_iload_n hx hb dL_law_2461 rfl (lv_at hl 0 rfl) ?_
    refine lv_iconst (v := 5) hx hb dL_law_2462 (by decide) ?_
    refine lv_iadd hx hb dL_law_2463 ?_
    refine cf_i 5 (by decide) ?_
    refine va_sld hx hb hX hbl hbA hS (vp_c (by decide)) dL_law_2464 ?_
    refine cf_v (.int (xs 5)) rfl ?_
    refine aft_i (wr := []) hP hD hS hA [0, 1] [] rfl rfl (by decide) (by decide) (run_v (As := [.int (xs 1), .int (xs 2), .int (xs 3), .int (xs 4), .int (xs 5)]) (rest := [.int (-2)]) hFix hK hE hP hD [0, 1] (k_X9_paste l D cs _ y0 (xs 1) (xs 2) (xs 3) (xs 4) (xs 5) (ay 0) (ay 1) (ay 2) (ay 3) (ay 4) (ay 5) (ay 6) (ay 7) (ay 8) (ay 9) (ay 10) (ay 11) (ay 12) (ay 13) (ay 14) (ay 15) (ay 16) (ay 17)) (cwV 5 hts gl_338_X9_paste rfl rfl rfl (by decide +kernel) ⟨Nat.le_of_ble_eq_true rfl, Nat.le_of_ble_eq_true rfl⟩) rfl (by decide) rfl rfl rfl hl.1 rfl (Nat.le_of_ble_eq_true rfl) dL_law_2465 ⟨Nat.le_of_ble_eq_true rfl, Nat.le_of_ble_eq_true rfl⟩) (fun r_2 u_2 H locs hq_2 hP hD hS => ?_)
    replace hq_2 : (r_2 = (-2) ∧ ¬ ((0 ≤ (xs 1).toInt ∧ (xs 1).toInt ≤ 3) ∧ (0 ≤ (xs 3).toInt ∧ (xs 3).toInt ≤ 3))) ∨ (r_2 = (-6) ∧ ((0 ≤ (xs 1).toInt ∧ (xs 1).toInt ≤ 3) ∧ (0 ≤ (xs 3).toInt ∧ (xs 3).toInt ≤ 3))) := hq_2
    rcases hq_2 with ⟨rfl, hq_2⟩ | ⟨rfl, hq_2⟩
    ·
      refine lv_icmp_eq (tgt := 2473) hx hb dL_law_2468 (by decide) (fun _ => ?_) (fun h9 => absurd h9 (by decide))
      exact law_end l C0 hS (lv_sub hl [0, 3] rfl) (Nat.le_of_ble_eq_true rfl) (Nat.le_of_ble_eq_true rfl)
    ·
      exact False.elim (by have e0 := hq_1; have e1 := hq_2; (try simp only [ge_iff_le, gt_iff_lt, ne_eq, Int32.lt_iff_toInt_lt, Int32.le_iff_toInt_le, ← Int32.toInt_inj, Int64.lt_iff_toInt_lt, Int64.le_iff_toInt_le, Int32.toInt_toInt64, i0, i1, i2, i3, i4, i7, i8, i9, i60, j0, j1, j2, j3, j7] at e0 e1); omega)
  ·
    refine lv_aload_n hx hb dL_law_2439 rfl (lv_at hl 1 rfl) ?_
    refine lv_aload_n hx hb dL_law_2440 rfl (lv_at hl 3 rfl) ?_
    refine lv_iload_n hx hb dL_law_2441 rfl (lv_at hl 0 rfl) ?_
    refine lv_iconst (v := 1) hx hb dL_law_2442 (by decide) ?_
    refine lv_iadd hx hb dL_law_2443 ?_
    refine cf_i 1 (by decide) ?_
    refine va_sld hx hb hX hbl hbA hS (vp_c (by decide)) dL_law_2444 ?_
    refine cf_v (.int (xs 1)) rfl ?_
    refine lv_aload_n hx hb dL_law_2445 rfl (lv_at hl 3 rfl) ?_
    refine lv_iload_n hx hb dL_law_2446 rfl (lv_at hl 0 rfl) ?_
    refine lv_iconst (v := 2) hx hb dL_law_2447 (by decide) ?_
    refine lv_iadd hx hb dL_law_2448 ?_
    refine cf_i 2 (by decide) ?_
    refine va_sld hx hb hX hbl hbA hS (vp_c (by decide)) dL_law_2449 ?_
    refine cf_v (.int (xs 2)) rfl ?_
    refine lv_aload_n hx hb dL_law_2450 rfl (lv_at hl 3 rfl) ?_
    refine lv_iload_n hx hb dL_law_2451 rfl (lv_at hl 0 rfl) ?_
    refine lv_iconst (v := 3) hx hb dL_law_2452 (by decide) ?_
    refine lv_iadd hx hb dL_law_2453 ?_
    refine cf_i 3 (by decide) ?_
    refine va_sld hx hb hX hbl hbA hS (vp_c (by decide)) dL_law_2454 ?_
    refine cf_v (.int (xs 3)) rfl ?_
    refine lv_aload_n hx hb dL_law_2455 rfl (lv_at hl 3 rfl) ?_
    refine lv_iload_n hx hb dL_law_2456 rfl (lv_at hl 0 rfl) ?_
    refine lv_iconst (v := 4) hx hb dL_law_2457 (by decide) ?_
    refine lv_iadd hx hb dL_law_2458 ?_
    refine cf_i 4 (by decide) ?_
    refine va_sld hx hb hX hbl hbA hS (vp_c (by decide)) dL_law_2459 ?_
    refine cf_v (.int (xs 4)) rfl ?_
    refine lv_aload_n hx hb dL_law_2460 rfl (lv_at hl 3 rfl) ?_
    refine lv_iload_n hx hb dL_law_2461 rfl (lv_at hl 0 rfl) ?_
    refine lv_iconst (v := 5) hx hb dL_law_2462 (by decide) ?_
    refine lv_iadd hx hb dL_law_2463 ?_
    refine cf_i 5 (by decide) ?_
    refine va_sld hx hb hX hbl hbA hS (vp_c (by decide)) dL_law_2464 ?_
    refine cf_v (.int (xs 5)) rfl ?_
    refine aft_i (wr := []) hP hD hS hA [0, 1] [] rfl rfl (by decide) (by decide) (run_v (As := [.int (xs 1), .int (xs 2), .int (xs 3), .int (xs 4), .int (xs 5)]) (rest := [.int (-6)]) hFix hK hE hP hD [0, 1] (k_X9_paste l D cs _ y0 (xs 1) (xs 2) (xs 3) (xs 4) (xs 5) (ay 0) (ay 1) (ay 2) (ay 3) (ay 4) (ay 5) (ay 6) (ay 7) (ay 8) (ay 9) (ay 10) (ay 11) (ay 12) (ay 13) (ay 14) (ay 15) (ay 16) (ay 17)) (cwV 5 hts gl_338_X9_paste rfl rfl rfl (by decide +kernel) ⟨Nat.le_of_ble_eq_true rfl, Nat.le_of_ble_eq_true rfl⟩) rfl (by decide) rfl rfl rfl hl.1 rfl (Nat.le_of_ble_eq_true rfl) dL_law_2465 ⟨Nat.le_of_ble_eq_true rfl, Nat.le_of_ble_eq_true rfl⟩) (fun r_3 u_3 H locs hq_3 hP hD hS => ?_)
    replace hq_3 : (r_3 = (-2) ∧ ¬ ((0 ≤ (xs 1).toInt ∧ (xs 1).toInt ≤ 3) ∧ (0 ≤ (xs 3).toInt ∧ (xs 3).toInt ≤ 3))) ∨ (r_3 = (-6) ∧ ((0 ≤ (xs 1).toInt ∧ (xs 1).toInt ≤ 3) ∧ (0 ≤ (xs 3).toInt ∧ (xs 3).toInt ≤ 3))) := hq_3
    rcases hq_3 with ⟨rfl, hq_3⟩ | ⟨rfl, hq_3⟩
    ·
      exact False.elim (by have e0 := hq_1; have e1 := hq_3; (try simp only [ge_iff_le, gt_iff_lt, ne_eq, Int32.lt_iff_toInt_lt, Int32.le_iff_toInt_le, ← Int32.toInt_inj, Int64.lt_iff_toInt_lt, Int64.le_iff_toInt_le, Int32.toInt_toInt64, i0, i1, i2, i3, i4, i7, i8, i9, i60, j0, j1, j2, j3, j7] at e0 e1); omega)
    ·
      refine lv_icmp_eq (tgt := 2473) hx hb dL_law_2468 (by decide) (fun _ => ?_) (fun h9 => absurd h9 (by decide))
      exact law_end l C0 hS (lv_sub hl [0, 3] rfl) (Nat.le_of_ble_eq_true rfl) (Nat.le_of_ble_eq_true rfl)
