set_option maxHeartbeats 4000000 in
set_option maxRecDepth 100000 in
theorem law_case_24 {p : Program} {l : Launch} {e : Env} {s : State} {m : MethodId} {below : List Frame} {meth : Method} {c : Code} {D : va_G} {k : Nat → ClassId} {b : Nat} {xs : Nat → Int32} (hC : law_C p s m meth c D k b 7 xs) {hX hM : Nat} {aX aM : Nat → Nat} {H : Heap} {locs : List Loc} {ls : Array Slot} (hP : va_P D vwCl (WX k hX aX ++ WM k hM aM) H) (hD : va_D (fun q : Nat => s.heap.size ≤ q) (WX k hX aX ++ WM k hM aM)) (hS : va_S (fun q : Nat => s.heap.size ≤ q) s.heap H locs) (hl : lv_has ls 4 [(0, .ref b), (1, .ref hX), (2, .ref hM), (3, .int 0)]) : W p l e room_1 s m #[Value.ref b] below meth c H locs 100 106558 (lw_Z below #[Value.ref b] s) (F0 m 1352 ls []) := by
  obtain ⟨C0, hr, hlk, hXx, hbl, hK, hN⟩ := id hC
  have hx := C0.1
  have hb := C0.2.1
  have hml := C0.2.2.1
  have hown := C0.2.2.2.1
  have hts := C0.2.2.2.2
  have hA : ∀ q : Nat, s.heap.size ≤ q → (fun q : Nat => s.heap.size ≤ q) q := fun _ h => h
  have hbA : ¬ (fun q : Nat => s.heap.size ≤ q) b := Nat.not_le.mpr hbl
  refine lv_aload_n hx hb dL_law_1352 rfl (lv_at hl 1 rfl) ?_
  refine lv_aload_n hx hb dL_law_1353 rfl (lv_at hl 0 rfl) ?_
  refine lv_iload_n hx hb dL_law_1354 rfl (lv_at hl 3 rfl) ?_
  refine lv_iconst (v := 1) hx hb dL_law_1355 (by decide) ?_
  refine lv_iadd hx hb dL_law_1356 ?_
  refine lv_toc (v := 1) (by decide) ?_
  refine z_sld hx hb hXx hbl hbA hS 1 (by decide) (by unfold vp_in; decide) dL_law_1357 ?_
  refine lv_aload_n hx hb dL_law_1358 rfl (lv_at hl 0 rfl) ?_
  refine lv_iload_n hx hb dL_law_1359 rfl (lv_at hl 3 rfl) ?_
  refine lv_iconst (v := 2) hx hb dL_law_1360 (by decide) ?_
  refine lv_iadd hx hb dL_law_1361 ?_
  refine lv_toc (v := 2) (by decide) ?_
  refine z_sld hx hb hXx hbl hbA hS 2 (by decide) (by unfold vp_in; decide) dL_law_1362 ?_
  refine lv_aload_n hx hb dL_law_1363 rfl (lv_at hl 0 rfl) ?_
  refine lv_iload_n hx hb dL_law_1364 rfl (lv_at hl 3 rfl) ?_
  refine lv_iconst (v := 3) hx hb dL_law_1365 (by decide) ?_
  refine lv_iadd hx hb dL_law_1366 ?_
  refine lv_toc (v := 3) (by decide) ?_
  refine z_sld hx hb hXx hbl hbA hS 3 (by decide) (by unfold vp_in; decide) dL_law_1367 ?_
  refine z_bi (wr := [(hM, .inr (12, [.int 0, .int 0, .ref (aM 0), .ref (aM 1), .ref (aM 2), .int 0, .ref (aM 3), .ref (aM 4), .ref (aM 5), .ref (aM 6), .ref (aM 7), .int 0, .int 0, .int 0, .int 0, .long 0, .int (-1), .int 0, .int 0, .ref (aM 8), .int 0, .ref (aM 9), .ref (aM 10), .int 0, .ref (aM 11), .ref (aM 12), .int 0, .int 0, .ref (aM 13), .ref (aM 14), .ref (aM 15), .ref (aM 16), .int 0, .long 0, .long 0, .int 0, .int 0, .int 0, .int 0, .ref (aM 17), .ref (aM 18), .int 0, .int 0, .int 0, .int 0, .ref (aM 19), .ref (aM 20), .int 0, .int 0, .ref (aM 21), .ref (aM 22), .ref (aM 23), .ref (aM 24), .int 0, .int 0, .int 0])), ((aM 0), .inl (k 0, 27101, .inl (fun _ => 0)))]) (z_runV (C := RX11) (As := [.int (xs 1), .int (xs 2), .int (xs 3)]) (rest := []) C0 (c_X11_off_1 l D k hX (aX 0) (aX 1) (aX 50) (aX 51) (aX 57) (aX 65) (aX 14) (aX 20) (aX 33) (aX 36) (aX 40) (aX 2) (aX 3) (aX 4) (aX 5) (aX 6) (aX 7) (aX 8) (aX 9) (aX 10) (aX 11) (aX 12) (aX 13) (xs 1) (xs 2) (xs 3) 0 0 0 _) okV_X11_off kM_L_117 rfl (z_pV (q0 := 0) hK hN hP hD [0, 1, 2] rfl rfl rfl rfl rfl) rfl hl.1 rfl (Nat.le_of_ble_eq_true rfl) dL_law_1368 rfl) hP hD hS hA [0, 1, 2] [74, 75] rfl rfl rfl rfl (fun r1 u1 H locs hw1 hP hD hS => ?_)
  obtain ⟨i1, a1⟩ := u1
  dsimp only at hw1
  obtain ⟨rfl, rfl⟩ := hw1
  have hP : va_P D vwCl [(hM, .inr (12, [.int 0, .int 0, .ref (aM 0), .ref (aM 1), .ref (aM 2), .int 0, .ref (aM 3), .ref (aM 4), .ref (aM 5), .ref (aM 6), .ref (aM 7), .int 0, .int 0, .int 0, .int 0, .long 0, .int (-1), .int 0, .int 0, .ref (aM 8), .int 0, .ref (aM 9), .ref (aM 10), .int 0, .ref (aM 11), .ref (aM 12), .int 0, .int 0, .ref (aM 13), .ref (aM 14), .ref (aM 15), .ref (aM 16), .int 0, .long 0, .long 0, .int 0, .int 0, .int 0, .int 0, .ref (aM 17), .ref (aM 18), .int 0, .int 0, .int 0, .int 0, .ref (aM 19), .ref (aM 20), .int 0, .int 0, .ref (aM 21), .ref (aM 22), .ref (aM 23), .ref (aM 24), .int 0, .int 0, .int 0])), ((aM 0), .inl (k 0, 27101, .inl (fun _ => 0)))] H := hP
  have hD : va_D (fun q : Nat => s.heap.size ≤ q) [(hM, .inr (12, [.int 0, .int 0, .ref (aM 0), .ref (aM 1), .ref (aM 2), .int 0, .ref (aM 3), .ref (aM 4), .ref (aM 5), .ref (aM 6), .ref (aM 7), .int 0, .int 0, .int 0, .int 0, .long 0, .int (-1), .int 0, .int 0, .ref (aM 8), .int 0, .ref (aM 9), .ref (aM 10), .int 0, .ref (aM 11), .ref (aM 12), .int 0, .int 0, .ref (aM 13), .ref (aM 14), .ref (aM 15), .ref (aM 16), .int 0, .long 0, .long 0, .int 0, .int 0, .int 0, .int 0, .ref (aM 17), .ref (aM 18), .int 0, .int 0, .int 0, .int 0, .ref (aM 19), .ref (aM 20), .int 0, .int 0, .ref (aM 21), .ref (aM 22), .ref (aM 23), .ref (aM 24), .int 0, .int 0, .int 0])), ((aM 0), .inl (k 0, 27101, .inl (fun _ => 0)))] := hD
  refine lv_aload_n hx hb dL_law_1371 rfl (lv_at hl 2 rfl) ?_
  refine lv_aload_n hx hb dL_law_1372 rfl (lv_at hl 0 rfl) ?_
  refine lv_iload_n hx hb dL_law_1373 rfl (lv_at hl 3 rfl) ?_
  refine lv_iconst (v := 1) hx hb dL_law_1374 (by decide) ?_
  refine lv_iadd hx hb dL_law_1375 ?_
  refine lv_toc (v := 1) (by decide) ?_
  refine z_sld hx hb hXx hbl hbA hS 1 (by decide) (by unfold vp_in; decide) dL_law_1376 ?_
  refine lv_aload_n hx hb dL_law_1377 rfl (lv_at hl 0 rfl) ?_
  refine lv_iload_n hx hb dL_law_1378 rfl (lv_at hl 3 rfl) ?_
  refine lv_iconst (v := 2) hx hb dL_law_1379 (by decide) ?_
  refine lv_iadd hx hb dL_law_1380 ?_
  refine lv_toc (v := 2) (by decide) ?_
  refine z_sld hx hb hXx hbl hbA hS 2 (by decide) (by unfold vp_in; decide) dL_law_1381 ?_
  refine lv_aload_n hx hb dL_law_1382 rfl (lv_at hl 0 rfl) ?_
  refine lv_iload_n hx hb dL_law_1383 rfl (lv_at hl 3 rfl) ?_
  refine lv_iconst (v := 3) hx hb dL_law_1384 (by decide) ?_
  refine lv_iadd hx hb dL_law_1385 ?_
  refine lv_toc (v := 3) (by decide) ?_
  refine z_sld hx hb hXx hbl hbA hS 3 (by decide) (by unfold vp_in; decide) dL_law_1386 ?_
  refine z_bi (wr := []) (z_runV (C := RX12) (As := [.int (xs 1), .int (xs 2), .int (xs 3)]) (rest := [.int (-1)]) C0 (c_X12_off_1 l D k hM (aM 0) (aM 1) (aM 2) (aM 3) (aM 4) (aM 5) (aM 6) (aM 7) (aM 8) (aM 9) (aM 10) (aM 11) (aM 12) (aM 13) (aM 14) (aM 15) (aM 16) (aM 17) (aM 18) (aM 19) (aM 20) (aM 21) (aM 22) (aM 23) (aM 24) (xs 1) (xs 2) (xs 3) 0 0 0 0 0 0 0 0 (-1) 0 0 0 0 0 0 0 0 0 0 0 0 0 0 0 0 0 0 0 0 0 0 _) okV_X12_off kM_L_120 rfl (z_pV (q0 := 0) hK hN hP hD [0, 1] rfl rfl rfl rfl rfl) rfl hl.1 rfl (Nat.le_of_ble_eq_true rfl) dL_law_1387 rfl) hP hD hS hA [0, 1] [] rfl rfl rfl rfl (fun r2 u2 H locs hw2 hP hD hS => ?_)
  obtain ⟨i2, a2⟩ := u2
  dsimp only at hw2
  obtain ⟨rfl, rfl⟩ := hw2
  have hP : va_P D vwCl [] H := hP
  have hD : va_D (fun q : Nat => s.heap.size ≤ q) [] := hD
  refine lv_icmp_eq (tgt := 2078) hx hb dL_law_1390 (by decide) (fun _ => ?_) (fun c3 => absurd (by decide) c3)
  exact law_end hC (Nat.le_of_ble_eq_true rfl) (Nat.le_of_ble_eq_true rfl) hS (lv_sub hl [0, 3] rfl)

set_option maxHeartbeats 4000000 in
set_option maxRecDepth 100000 in
theorem law_case_25 {p : Program} {l : Launch} {e : Env} {s : State} {m : MethodId} {below : List Frame} {meth : Method} {c : Code} {D : va_G} {k : Nat → ClassId} {b : Nat} {xs : Nat → Int32} (hC : law_C p s m meth c D k b 7 xs) {hX hM : Nat} {aX aM : Nat → Nat} {H : Heap} {locs : List Loc} {ls : Array Slot} (hP : va_P D vwCl (WX k hX aX ++ WM k hM aM) H) (hD : va_D (fun q : Nat => s.heap.size ≤ q) (WX k hX aX ++ WM k hM aM)) (hS : va_S (fun q : Nat => s.heap.size ≤ q) s.heap H locs) (hl : lv_has ls 4 [(0, .ref b), (1, .ref hX), (2, .ref hM), (3, .int 0)]) : W p l e room_1 s m #[Value.ref b] below meth c H locs 100 106558 (lw_Z below #[Value.ref b] s) (F0 m 1395 ls []) := by
  obtain ⟨C0, hr, hlk, hXx, hbl, hK, hN⟩ := id hC
  have hx := C0.1
  have hb := C0.2.1
  have hml := C0.2.2.1
  have hown := C0.2.2.2.1
  have hts := C0.2.2.2.2
  have hA : ∀ q : Nat, s.heap.size ≤ q → (fun q : Nat => s.heap.size ≤ q) q := fun _ h => h
  have hbA : ¬ (fun q : Nat => s.heap.size ≤ q) b := Nat.not_le.mpr hbl
  refine lv_aload_n hx hb dL_law_1395 rfl (lv_at hl 1 rfl) ?_
  refine lv_aload_n hx hb dL_law_1396 rfl (lv_at hl 0 rfl) ?_
  refine lv_iload_n hx hb dL_law_1397 rfl (lv_at hl 3 rfl) ?_
  refine lv_iconst (v := 1) hx hb dL_law_1398 (by decide) ?_
  refine lv_iadd hx hb dL_law_1399 ?_
  refine lv_toc (v := 1) (by decide) ?_
  refine z_sld hx hb hXx hbl hbA hS 1 (by decide) (by unfold vp_in; decide) dL_law_1400 ?_
  refine lv_aload_n hx hb dL_law_1401 rfl (lv_at hl 0 rfl) ?_
  refine lv_iload_n hx hb dL_law_1402 rfl (lv_at hl 3 rfl) ?_
  refine lv_iconst (v := 2) hx hb dL_law_1403 (by decide) ?_
  refine lv_iadd hx hb dL_law_1404 ?_
  refine lv_toc (v := 2) (by decide) ?_
  refine z_sld hx hb hXx hbl hbA hS 2 (by decide) (by unfold vp_in; decide) dL_law_1405 ?_
  refine lv_aload_n hx hb dL_law_1406 rfl (lv_at hl 0 rfl) ?_
  refine lv_iload_n hx hb dL_law_1407 rfl (lv_at hl 3 rfl) ?_
  refine lv_iconst (v := 3) hx hb dL_law_1408 (by decide) ?_
  refine lv_iadd hx hb dL_law_1409 ?_
  refine lv_toc (v := 3) (by decide) ?_
  refine z_sld hx hb hXx hbl hbA hS 3 (by decide) (by unfold vp_in; decide) dL_law_1410 ?_
  refine z_bi (wr := [(hM, .inr (12, [.int 0, .int 0, .ref (aM 0), .ref (aM 1), .ref (aM 2), .int 0, .ref (aM 3), .ref (aM 4), .ref (aM 5), .ref (aM 6), .ref (aM 7), .int 0, .int 0, .int 0, .int 0, .long 0, .int (-1), .int 0, .int 0, .ref (aM 8), .int 0, .ref (aM 9), .ref (aM 10), .int 0, .ref (aM 11), .ref (aM 12), .int 0, .int 0, .ref (aM 13), .ref (aM 14), .ref (aM 15), .ref (aM 16), .int 0, .long 0, .long 0, .int 0, .int 0, .int 0, .int 0, .ref (aM 17), .ref (aM 18), .int 0, .int 0, .int 0, .int 0, .ref (aM 19), .ref (aM 20), .int 0, .int 0, .ref (aM 21), .ref (aM 22), .ref (aM 23), .ref (aM 24), .int 0, .int 0, .int 0])), ((aM 0), .inl (k 0, 27101, .inl (fun _ => 0)))]) (z_runV (C := RX11) (As := [.int (xs 1), .int (xs 2), .int (xs 3)]) (rest := []) C0 (c_X11_rolls_1 l D k hX (aX 0) (aX 1) (aX 50) (aX 51) (aX 57) (aX 65) (aX 14) (aX 20) (aX 33) (aX 36) (aX 40) (aX 2) (aX 3) (aX 4) (aX 5) (aX 6) (aX 7) (aX 8) (aX 9) (aX 10) (aX 11) (aX 12) (aX 13) (xs 1) (xs 2) (xs 3) 0 0 0 _) okV_X11_rolls kM_L_121 rfl (z_pV (q0 := 0) hK hN hP hD [0, 1, 2] rfl rfl rfl rfl rfl) rfl hl.1 rfl (Nat.le_of_ble_eq_true rfl) dL_law_1411 rfl) hP hD hS hA [0, 1, 2] [74, 75] rfl rfl rfl rfl (fun r1 u1 H locs hw1 hP hD hS => ?_)
  obtain ⟨i1, a1⟩ := u1
  dsimp only at hw1
  rcases hw1 with ⟨rfl, rfl, c1⟩ | ⟨rfl, rfl, c1⟩
  · have hP : va_P D vwCl [(hM, .inr (12, [.int 0, .int 0, .ref (aM 0), .ref (aM 1), .ref (aM 2), .int 0, .ref (aM 3), .ref (aM 4), .ref (aM 5), .ref (aM 6), .ref (aM 7), .int 0, .int 0, .int 0, .int 0, .long 0, .int (-1), .int 0, .int 0, .ref (aM 8), .int 0, .ref (aM 9), .ref (aM 10), .int 0, .ref (aM 11), .ref (aM 12), .int 0, .int 0, .ref (aM 13), .ref (aM 14), .ref (aM 15), .ref (aM 16), .int 0, .long 0, .long 0, .int 0, .int 0, .int 0, .int 0, .ref (aM 17), .ref (aM 18), .int 0, .int 0, .int 0, .int 0, .ref (aM 19), .ref (aM 20), .int 0, .int 0, .ref (aM 21), .ref (aM 22), .ref (aM 23), .ref (aM 24), .int 0, .int 0, .int 0])), ((aM 0), .inl (k 0, 27101, .inl (fun _ => 0)))] H := hP
    have hD : va_D (fun q : Nat => s.heap.size ≤ q) [(hM, .inr (12, [.int 0, .int 0, .ref (aM 0), .ref (aM 1), .ref (aM 2), .int 0, .ref (aM 3), .ref (aM 4), .ref (aM 5), .ref (aM 6), .ref (aM 7), .int 0, .int 0, .int 0, .int 0, .long 0, .int (-1), .int 0, .int 0, .ref (aM 8), .int 0, .ref (aM 9), .ref (aM 10), .int 0, .ref (aM 11), .ref (aM 12), .int 0, .int 0, .ref (aM 13), .ref (aM 14), .ref (aM 15), .ref (aM 16), .int 0, .long 0, .long 0, .int 0, .int 0, .int 0, .int 0, .ref (aM 17), .ref (aM 18), .int 0, .int 0, .int 0, .int 0, .ref (aM 19), .ref (aM 20), .int 0, .int 0, .ref (aM 21), .ref (aM 22), .ref (aM 23), .ref (aM 24), .int 0, .int 0, .int 0])), ((aM 0), .inl (k 0, 27101, .inl (fun _ => 0)))] := hD
    refine lv_aload_n hx hb dL_law_1414 rfl (lv_at hl 2 rfl) ?_
    refine lv_aload_n hx hb dL_law_1415 rfl (lv_at hl 0 rfl) ?_
    refine lv_iload_n hx hb dL_law_1416 rfl (lv_at hl 3 rfl) ?_
    refine lv_iconst (v := 1) hx hb dL_law_1417 (by decide) ?_
    refine lv_iadd hx hb dL_law_1418 ?_
    refine lv_toc (v := 1) (by decide) ?_
    refine z_sld hx hb hXx hbl hbA hS 1 (by decide) (by unfold vp_in; decide) dL_law_1419 ?_
    refine lv_aload_n hx hb dL_law_1420 rfl (lv_at hl 0 rfl) ?_
    refine lv_iload_n hx hb dL_law_1421 rfl (lv_at hl 3 rfl) ?_
    refine lv_iconst (v := 2) hx hb dL_law_1422 (by decide) ?_
    refine lv_iadd hx hb dL_law_1423 ?_
    refine lv_toc (v := 2) (by decide) ?_
    refine z_sld hx hb hXx hbl hbA hS 2 (by decide) (by unfold vp_in; decide) dL_law_1424 ?_
    refine lv_aload_n hx hb dL_law_1425 rfl (lv_at hl 0 rfl) ?_
    refine lv_iload_n hx hb dL_law_1426 rfl (lv_at hl 3 rfl) ?_
    refine lv_iconst (v := 3) hx hb dL_law_1427 (by decide) ?_
    refine lv_iadd hx hb dL_law_1428 ?_
    refine lv_toc (v := 3) (by decide) ?_
    refine z_sld hx hb hXx hbl hbA hS 3 (by decide) (by unfold vp_in; decide) dL_law_1429 ?_
    refine z_bi (wr := []) (z_runV (C := RX12) (As := [.int (xs 1), .int (xs 2), .int (xs 3)]) (rest := [.int (-1)]) C0 (c_X12_rolls_1 l D k hM (aM 0) (aM 1) (aM 2) (aM 3) (aM 4) (aM 5) (aM 6) (aM 7) (aM 8) (aM 9) (aM 10) (aM 11) (aM 12) (aM 13) (aM 14) (aM 15) (aM 16) (aM 17) (aM 18) (aM 19) (aM 20) (aM 21) (aM 22) (aM 23) (aM 24) (xs 1) (xs 2) (xs 3) 0 0 0 0 0 0 0 0 (-1) 0 0 0 0 0 0 0 0 0 0 0 0 0 0 0 0 0 0 0 0 0 0 _) okV_X12_rolls kM_L_124 rfl (z_pV (q0 := 0) hK hN hP hD [0, 1] rfl rfl rfl rfl rfl) rfl hl.1 rfl (Nat.le_of_ble_eq_true rfl) dL_law_1430 rfl) hP hD hS hA [0, 1] [] rfl rfl rfl rfl (fun r2 u2 H locs hw2 hP hD hS => ?_)
    obtain ⟨i2, a2⟩ := u2
    dsimp only at hw2
    rcases hw2 with ⟨rfl, rfl, c2⟩ | ⟨rfl, rfl, c2⟩
    · have hP : va_P D vwCl [] H := hP
      have hD : va_D (fun q : Nat => s.heap.size ≤ q) [] := hD
      refine lv_icmp_eq (tgt := 2078) hx hb dL_law_1433 (by decide) (fun _ => ?_) (fun c3 => absurd (by decide) c3)
      exact law_end hC (Nat.le_of_ble_eq_true rfl) (Nat.le_of_ble_eq_true rfl) hS (lv_sub hl [0, 3] rfl)
    · have hP : va_P D vwCl [] H := hP
      have hD : va_D (fun q : Nat => s.heap.size ≤ q) [] := hD
      exact (show False by have bA0 := Int32.le_toInt (xs 1); have bB0 := Int32.toInt_lt (xs 1); have bA1 := Int32.le_toInt (xs 2); have bB1 := Int32.toInt_lt (xs 2); have bA2 := Int32.le_toInt (xs 3); have bB2 := Int32.toInt_lt (xs 3); revert c1 c2; simp only [vp_in_iff, Int32.lt_iff_toInt_lt, Int32.le_iff_toInt_le, Int64.lt_iff_toInt_lt, Int64.le_iff_toInt_le, Int32.toInt_toInt64, ← Int32.toInt_inj, ← Int64.toInt_inj, Int32.reduceToInt, Int64.reduceToInt] <;> omega).elim
  · have hP : va_P D vwCl [(hM, .inr (12, [.int 0, .int 0, .ref (aM 0), .ref (aM 1), .ref (aM 2), .int 0, .ref (aM 3), .ref (aM 4), .ref (aM 5), .ref (aM 6), .ref (aM 7), .int 0, .int 0, .int 0, .int 0, .long 0, .int (-1), .int 0, .int 0, .ref (aM 8), .int 0, .ref (aM 9), .ref (aM 10), .int 0, .ref (aM 11), .ref (aM 12), .int 0, .int 0, .ref (aM 13), .ref (aM 14), .ref (aM 15), .ref (aM 16), .int 0, .long 0, .long 0, .int 0, .int 0, .int 0, .int 0, .ref (aM 17), .ref (aM 18), .int 0, .int 0, .int 0, .int 0, .ref (aM 19), .ref (aM 20), .int 0, .int 0, .ref (aM 21), .ref (aM 22), .ref (aM 23), .ref (aM 24), .int 0, .int 0, .int 0])), ((aM 0), .inl (k 0, 27101, .inl (fun _ => 0)))] H := hP
    have hD : va_D (fun q : Nat => s.heap.size ≤ q) [(hM, .inr (12, [.int 0, .int 0, .ref (aM 0), .ref (aM 1), .ref (aM 2), .int 0, .ref (aM 3), .ref (aM 4), .ref (aM 5), .ref (aM 6), .ref (aM 7), .int 0, .int 0, .int 0, .int 0, .long 0, .int (-1), .int 0, .int 0, .ref (aM 8), .int 0, .ref (aM 9), .ref (aM 10), .int 0, .ref (aM 11), .ref (aM 12), .int 0, .int 0, .ref (aM 13), .ref (aM 14), .ref (aM 15), .ref (aM 16), .int 0, .long 0, .long 0, .int 0, .int 0, .int 0, .int 0, .ref (aM 17), .ref (aM 18), .int 0, .int 0, .int 0, .int 0, .ref (aM 19), .ref (aM 20), .int 0, .int 0, .ref (aM 21), .ref (aM 22), .ref (aM 23), .ref (aM 24), .int 0, .int 0, .int 0])), ((aM 0), .inl (k 0, 27101, .inl (fun _ => 0)))] := hD
    refine lv_aload_n hx hb dL_law_1414 rfl (lv_at hl 2 rfl) ?_
    refine lv_aload_n hx hb dL_law_1415 rfl (lv_at hl 0 rfl) ?_
    refine lv_iload_n hx hb dL_law_1416 rfl (lv_at hl 3 rfl) ?_
    refine lv_iconst (v := 1) hx hb dL_law_1417 (by decide) ?_
    refine lv_iadd hx hb dL_law_1418 ?_
    refine lv_toc (v := 1) (by decide) ?_
    refine z_sld hx hb hXx hbl hbA hS 1 (by decide) (by unfold vp_in; decide) dL_law_1419 ?_
    refine lv_aload_n hx hb dL_law_1420 rfl (lv_at hl 0 rfl) ?_
    refine lv_iload_n hx hb dL_law_1421 rfl (lv_at hl 3 rfl) ?_
    refine lv_iconst (v := 2) hx hb dL_law_1422 (by decide) ?_
    refine lv_iadd hx hb dL_law_1423 ?_
    refine lv_toc (v := 2) (by decide) ?_
    refine z_sld hx hb hXx hbl hbA hS 2 (by decide) (by unfold vp_in; decide) dL_law_1424 ?_
    refine lv_aload_n hx hb dL_law_1425 rfl (lv_at hl 0 rfl) ?_
    refine lv_iload_n hx hb dL_law_1426 rfl (lv_at hl 3 rfl) ?_
    refine lv_iconst (v := 3) hx hb dL_law_1427 (by decide) ?_
    refine lv_iadd hx hb dL_law_1428 ?_
    refine lv_toc (v := 3) (by decide) ?_
    refine z_sld hx hb hXx hbl hbA hS 3 (by decide) (by unfold vp_in; decide) dL_law_1429 ?_
    refine z_bi (wr := []) (z_runV (C := RX12) (As := [.int (xs 1), .int (xs 2), .int (xs 3)]) (rest := [.int 0]) C0 (c_X12_rolls_1 l D k hM (aM 0) (aM 1) (aM 2) (aM 3) (aM 4) (aM 5) (aM 6) (aM 7) (aM 8) (aM 9) (aM 10) (aM 11) (aM 12) (aM 13) (aM 14) (aM 15) (aM 16) (aM 17) (aM 18) (aM 19) (aM 20) (aM 21) (aM 22) (aM 23) (aM 24) (xs 1) (xs 2) (xs 3) 0 0 0 0 0 0 0 0 (-1) 0 0 0 0 0 0 0 0 0 0 0 0 0 0 0 0 0 0 0 0 0 0 _) okV_X12_rolls kM_L_124 rfl (z_pV (q0 := 0) hK hN hP hD [0, 1] rfl rfl rfl rfl rfl) rfl hl.1 rfl (Nat.le_of_ble_eq_true rfl) dL_law_1430 rfl) hP hD hS hA [0, 1] [] rfl rfl rfl rfl (fun r4 u4 H locs hw4 hP hD hS => ?_)
    obtain ⟨i4, a4⟩ := u4
    dsimp only at hw4
    rcases hw4 with ⟨rfl, rfl, c4⟩ | ⟨rfl, rfl, c4⟩
    · have hP : va_P D vwCl [] H := hP
      have hD : va_D (fun q : Nat => s.heap.size ≤ q) [] := hD
      exact (show False by have bA0 := Int32.le_toInt (xs 1); have bB0 := Int32.toInt_lt (xs 1); have bA1 := Int32.le_toInt (xs 2); have bB1 := Int32.toInt_lt (xs 2); have bA2 := Int32.le_toInt (xs 3); have bB2 := Int32.toInt_lt (xs 3); revert c1 c4; simp only [vp_in_iff, Int32.lt_iff_toInt_lt, Int32.le_iff_toInt_le, Int64.lt_iff_toInt_lt, Int64.le_iff_toInt_le, Int32.toInt_toInt64, ← Int32.toInt_inj, ← Int64.toInt_inj, Int32.reduceToInt, Int64.reduceToInt] <;> omega).elim
    · have hP : va_P D vwCl [] H := hP
      have hD : va_D (fun q : Nat => s.heap.size ≤ q) [] := hD
      refine lv_icmp_eq (tgt := 2078) hx hb dL_law_1433 (by decide) (fun _ => ?_) (fun c5 => absurd (by decide) c5)
      exact law_end hC (Nat.le_of_ble_eq_true rfl) (Nat.le_of_ble_eq_true rfl) hS (lv_sub hl [0, 3] rfl)

set_option maxHeartbeats 4000000 in
set_option maxRecDepth 100000 in
theorem law_case_26 {p : Program} {l : Launch} {e : Env} {s : State} {m : MethodId} {below : List Frame} {meth : Method} {c : Code} {D : va_G} {k : Nat → ClassId} {b : Nat} {xs : Nat → Int32} (hC : law_C p s m meth c D k b 7 xs) {hX hM : Nat} {aX aM : Nat → Nat} {H : Heap} {locs : List Loc} {ls : Array Slot} (hP : va_P D vwCl (WX k hX aX ++ WM k hM aM) H) (hD : va_D (fun q : Nat => s.heap.size ≤ q) (WX k hX aX ++ WM k hM aM)) (hS : va_S (fun q : Nat => s.heap.size ≤ q) s.heap H locs) (hl : lv_has ls 4 [(0, .ref b), (1, .ref hX), (2, .ref hM), (3, .int 0)]) : W p l e room_1 s m #[Value.ref b] below meth c H locs 100 106558 (lw_Z below #[Value.ref b] s) (F0 m 1438 ls []) := by
  obtain ⟨C0, hr, hlk, hXx, hbl, hK, hN⟩ := id hC
  have hx := C0.1
  have hb := C0.2.1
  have hml := C0.2.2.1
  have hown := C0.2.2.2.1
  have hts := C0.2.2.2.2
  have hA : ∀ q : Nat, s.heap.size ≤ q → (fun q : Nat => s.heap.size ≤ q) q := fun _ h => h
  have hbA : ¬ (fun q : Nat => s.heap.size ≤ q) b := Nat.not_le.mpr hbl
  refine lv_aload_n hx hb dL_law_1438 rfl (lv_at hl 1 rfl) ?_
  refine lv_aload_n hx hb dL_law_1439 rfl (lv_at hl 0 rfl) ?_
  refine lv_iload_n hx hb dL_law_1440 rfl (lv_at hl 3 rfl) ?_
  refine lv_iconst (v := 1) hx hb dL_law_1441 (by decide) ?_
  refine lv_iadd hx hb dL_law_1442 ?_
  refine lv_toc (v := 1) (by decide) ?_
  refine z_sld hx hb hXx hbl hbA hS 1 (by decide) (by unfold vp_in; decide) dL_law_1443 ?_
  refine lv_aload_n hx hb dL_law_1444 rfl (lv_at hl 0 rfl) ?_
  refine lv_iload_n hx hb dL_law_1445 rfl (lv_at hl 3 rfl) ?_
  refine lv_iconst (v := 2) hx hb dL_law_1446 (by decide) ?_
  refine lv_iadd hx hb dL_law_1447 ?_
  refine lv_toc (v := 2) (by decide) ?_
  refine z_sld hx hb hXx hbl hbA hS 2 (by decide) (by unfold vp_in; decide) dL_law_1448 ?_
  refine lv_aload_n hx hb dL_law_1449 rfl (lv_at hl 0 rfl) ?_
  refine lv_iload_n hx hb dL_law_1450 rfl (lv_at hl 3 rfl) ?_
  refine lv_iconst (v := 3) hx hb dL_law_1451 (by decide) ?_
  refine lv_iadd hx hb dL_law_1452 ?_
  refine lv_toc (v := 3) (by decide) ?_
  refine z_sld hx hb hXx hbl hbA hS 3 (by decide) (by unfold vp_in; decide) dL_law_1453 ?_
  refine z_bi (wr := [(hM, .inr (12, [.int 0, .int 0, .ref (aM 0), .ref (aM 1), .ref (aM 2), .int 0, .ref (aM 3), .ref (aM 4), .ref (aM 5), .ref (aM 6), .ref (aM 7), .int 0, .int 0, .int 0, .int 0, .long 0, .int (-1), .int 0, .int 0, .ref (aM 8), .int 0, .ref (aM 9), .ref (aM 10), .int 0, .ref (aM 11), .ref (aM 12), .int 0, .int 0, .ref (aM 13), .ref (aM 14), .ref (aM 15), .ref (aM 16), .int 0, .long 0, .long 0, .int 0, .int 0, .int 0, .int 0, .ref (aM 17), .ref (aM 18), .int 0, .int 0, .int 0, .int 0, .ref (aM 19), .ref (aM 20), .int 0, .int 0, .ref (aM 21), .ref (aM 22), .ref (aM 23), .ref (aM 24), .int 0, .int 0, .int 0])), ((aM 0), .inl (k 0, 27101, .inl (fun _ => 0)))]) (z_runV (C := RX11) (As := [.int (xs 1), .int (xs 2), .int (xs 3)]) (rest := []) C0 (c_X11_seen_1 l D k hX (aX 0) (aX 1) (aX 50) (aX 51) (aX 57) (aX 65) (aX 14) (aX 20) (aX 33) (aX 36) (aX 40) (aX 2) (aX 3) (aX 4) (aX 5) (aX 6) (aX 7) (aX 8) (aX 9) (aX 10) (aX 11) (aX 12) (aX 13) (xs 1) (xs 2) (xs 3) 0 0 0 _) okV_X11_seen kM_L_125 rfl (z_pV (q0 := 0) hK hN hP hD [0, 1, 2] rfl rfl rfl rfl rfl) rfl hl.1 rfl (Nat.le_of_ble_eq_true rfl) dL_law_1454 rfl) hP hD hS hA [0, 1, 2] [74, 75] rfl rfl rfl rfl (fun r1 u1 H locs hw1 hP hD hS => ?_)
  obtain ⟨i1, a1⟩ := u1
  dsimp only at hw1
  obtain ⟨rfl, rfl⟩ := hw1
  have hP : va_P D vwCl [(hM, .inr (12, [.int 0, .int 0, .ref (aM 0), .ref (aM 1), .ref (aM 2), .int 0, .ref (aM 3), .ref (aM 4), .ref (aM 5), .ref (aM 6), .ref (aM 7), .int 0, .int 0, .int 0, .int 0, .long 0, .int (-1), .int 0, .int 0, .ref (aM 8), .int 0, .ref (aM 9), .ref (aM 10), .int 0, .ref (aM 11), .ref (aM 12), .int 0, .int 0, .ref (aM 13), .ref (aM 14), .ref (aM 15), .ref (aM 16), .int 0, .long 0, .long 0, .int 0, .int 0, .int 0, .int 0, .ref (aM 17), .ref (aM 18), .int 0, .int 0, .int 0, .int 0, .ref (aM 19), .ref (aM 20), .int 0, .int 0, .ref (aM 21), .ref (aM 22), .ref (aM 23), .ref (aM 24), .int 0, .int 0, .int 0])), ((aM 0), .inl (k 0, 27101, .inl (fun _ => 0)))] H := hP
  have hD : va_D (fun q : Nat => s.heap.size ≤ q) [(hM, .inr (12, [.int 0, .int 0, .ref (aM 0), .ref (aM 1), .ref (aM 2), .int 0, .ref (aM 3), .ref (aM 4), .ref (aM 5), .ref (aM 6), .ref (aM 7), .int 0, .int 0, .int 0, .int 0, .long 0, .int (-1), .int 0, .int 0, .ref (aM 8), .int 0, .ref (aM 9), .ref (aM 10), .int 0, .ref (aM 11), .ref (aM 12), .int 0, .int 0, .ref (aM 13), .ref (aM 14), .ref (aM 15), .ref (aM 16), .int 0, .long 0, .long 0, .int 0, .int 0, .int 0, .int 0, .ref (aM 17), .ref (aM 18), .int 0, .int 0, .int 0, .int 0, .ref (aM 19), .ref (aM 20), .int 0, .int 0, .ref (aM 21), .ref (aM 22), .ref (aM 23), .ref (aM 24), .int 0, .int 0, .int 0])), ((aM 0), .inl (k 0, 27101, .inl (fun _ => 0)))] := hD
  refine lv_aload_n hx hb dL_law_1457 rfl (lv_at hl 2 rfl) ?_
  refine lv_aload_n hx hb dL_law_1458 rfl (lv_at hl 0 rfl) ?_
  refine lv_iload_n hx hb dL_law_1459 rfl (lv_at hl 3 rfl) ?_
  refine lv_iconst (v := 1) hx hb dL_law_1460 (by decide) ?_
  refine lv_iadd hx hb dL_law_1461 ?_
  refine lv_toc (v := 1) (by decide) ?_
  refine z_sld hx hb hXx hbl hbA hS 1 (by decide) (by unfold vp_in; decide) dL_law_1462 ?_
  refine lv_aload_n hx hb dL_law_1463 rfl (lv_at hl 0 rfl) ?_
  refine lv_iload_n hx hb dL_law_1464 rfl (lv_at hl 3 rfl) ?_
  refine lv_iconst (v := 2) hx hb dL_law_1465 (by decide) ?_
  refine lv_iadd hx hb dL_law_1466 ?_
  refine lv_toc (v := 2) (by decide) ?_
  refine z_sld hx hb hXx hbl hbA hS 2 (by decide) (by unfold vp_in; decide) dL_law_1467 ?_
  refine lv_aload_n hx hb dL_law_1468 rfl (lv_at hl 0 rfl) ?_
  refine lv_iload_n hx hb dL_law_1469 rfl (lv_at hl 3 rfl) ?_
  refine lv_iconst (v := 3) hx hb dL_law_1470 (by decide) ?_
  refine lv_iadd hx hb dL_law_1471 ?_
  refine lv_toc (v := 3) (by decide) ?_
  refine z_sld hx hb hXx hbl hbA hS 3 (by decide) (by unfold vp_in; decide) dL_law_1472 ?_
  refine z_bi (wr := []) (z_runV (C := RX12) (As := [.int (xs 1), .int (xs 2), .int (xs 3)]) (rest := [.int (-1)]) C0 (c_X12_seen_1 l D k hM (aM 0) (aM 1) (aM 2) (aM 3) (aM 4) (aM 5) (aM 6) (aM 7) (aM 8) (aM 9) (aM 10) (aM 11) (aM 12) (aM 13) (aM 14) (aM 15) (aM 16) (aM 17) (aM 18) (aM 19) (aM 20) (aM 21) (aM 22) (aM 23) (aM 24) (xs 1) (xs 2) (xs 3) 0 0 0 0 0 0 0 0 (-1) 0 0 0 0 0 0 0 0 0 0 0 0 0 0 0 0 0 0 0 0 0 0 _) okV_X12_seen kM_L_128 rfl (z_pV (q0 := 0) hK hN hP hD [0, 1] rfl rfl rfl rfl rfl) rfl hl.1 rfl (Nat.le_of_ble_eq_true rfl) dL_law_1473 rfl) hP hD hS hA [0, 1] [] rfl rfl rfl rfl (fun r2 u2 H locs hw2 hP hD hS => ?_)
  obtain ⟨i2, a2⟩ := u2
  dsimp only at hw2
  obtain ⟨rfl, rfl⟩ := hw2
  have hP : va_P D vwCl [] H := hP
  have hD : va_D (fun q : Nat => s.heap.size ≤ q) [] := hD
  refine lv_icmp_eq (tgt := 2078) hx hb dL_law_1476 (by decide) (fun _ => ?_) (fun c3 => absurd (by decide) c3)
  exact law_end hC (Nat.le_of_ble_eq_true rfl) (Nat.le_of_ble_eq_true rfl) hS (lv_sub hl [0, 3] rfl)

set_option maxHeartbeats 4000000 in
set_option maxRecDepth 100000 in
theorem law_case_27 {p : Program} {l : Launch} {e : Env} {s : State} {m : MethodId} {below : List Frame} {meth : Method} {c : Code} {D : va_G} {k : Nat → ClassId} {b : Nat} {xs : Nat → Int32} (hC : law_C p s m meth c D k b 7 xs) {hX hM : Nat} {aX aM : Nat → Nat} {H : Heap} {locs : List Loc} {ls : Array Slot} (hP : va_P D vwCl (WX k hX aX ++ WM k hM aM) H) (hD : va_D (fun q : Nat => s.heap.size ≤ q) (WX k hX aX ++ WM k hM aM)) (hS : va_S (fun q : Nat => s.heap.size ≤ q) s.heap H locs) (hl : lv_has ls 4 [(0, .ref b), (1, .ref hX), (2, .ref hM), (3, .int 0)]) : W p l e room_1 s m #[Value.ref b] below meth c H locs 100 106558 (lw_Z below #[Value.ref b] s) (F0 m 1481 ls []) := by
  obtain ⟨C0, hr, hlk, hXx, hbl, hK, hN⟩ := id hC
  have hx := C0.1
  have hb := C0.2.1
  have hml := C0.2.2.1
  have hown := C0.2.2.2.1
  have hts := C0.2.2.2.2
  have hA : ∀ q : Nat, s.heap.size ≤ q → (fun q : Nat => s.heap.size ≤ q) q := fun _ h => h
  have hbA : ¬ (fun q : Nat => s.heap.size ≤ q) b := Nat.not_le.mpr hbl
  refine lv_aload_n hx hb dL_law_1481 rfl (lv_at hl 1 rfl) ?_
  refine lv_aload_n hx hb dL_law_1482 rfl (lv_at hl 0 rfl) ?_
  refine lv_iload_n hx hb dL_law_1483 rfl (lv_at hl 3 rfl) ?_
  refine lv_iconst (v := 1) hx hb dL_law_1484 (by decide) ?_
  refine lv_iadd hx hb dL_law_1485 ?_
  refine lv_toc (v := 1) (by decide) ?_
  refine z_sld hx hb hXx hbl hbA hS 1 (by decide) (by unfold vp_in; decide) dL_law_1486 ?_
  refine z_bi (wr := [(hM, .inr (12, [.int 0, .int 0, .ref (aM 0), .ref (aM 1), .ref (aM 2), .int 0, .ref (aM 3), .ref (aM 4), .ref (aM 5), .ref (aM 6), .ref (aM 7), .int 0, .int 0, .int 0, .int 0, .long 0, .int (-1), .int 0, .int 0, .ref (aM 8), .int 0, .ref (aM 9), .ref (aM 10), .int 0, .ref (aM 11), .ref (aM 12), .int 0, .int 0, .ref (aM 13), .ref (aM 14), .ref (aM 15), .ref (aM 16), .int 0, .long 0, .long 0, .int 0, .int 0, .int 0, .int 0, .ref (aM 17), .ref (aM 18), .int 0, .int 0, .int 0, .int 0, .ref (aM 19), .ref (aM 20), .int 0, .int 0, .ref (aM 21), .ref (aM 22), .ref (aM 23), .ref (aM 24), .int 0, .int 0, .int 0])), ((aM 0), .inl (k 0, 27101, .inl (fun _ => 0)))]) (z_runV (C := RX11) (As := [.int (xs 1)]) (rest := []) C0 (c_X11_record_1 l D k hX (aX 0) (aX 40) (aX 41) (aX 50) (aX 51) (aX 57) (aX 65) (aX 1) (aX 14) (aX 20) (aX 33) (aX 36) (aX 42) (aX 43) (aX 44) (aX 45) (aX 46) (aX 47) (aX 48) (aX 49) (xs 1) 0 0 0 0 (fun _ => 0) _) okV_X11_record kM_L_129 rfl (z_pV (q0 := 0) hK hN hP hD [0, 1, 41, 42] rfl rfl rfl rfl rfl) rfl hl.1 rfl (Nat.le_of_ble_eq_true rfl) dL_law_1487 rfl) hP hD hS hA [0, 1, 41, 42] [74, 75] rfl rfl rfl rfl (fun r1 u1 H locs hw1 hP hD hS => ?_)
  obtain ⟨i1, a1⟩ := u1
  dsimp only at hw1
  rcases hw1 with ⟨rfl, rfl, c1⟩ | ⟨rfl, rfl, c1⟩
  · have hP : va_P D vwCl [(hM, .inr (12, [.int 0, .int 0, .ref (aM 0), .ref (aM 1), .ref (aM 2), .int 0, .ref (aM 3), .ref (aM 4), .ref (aM 5), .ref (aM 6), .ref (aM 7), .int 0, .int 0, .int 0, .int 0, .long 0, .int (-1), .int 0, .int 0, .ref (aM 8), .int 0, .ref (aM 9), .ref (aM 10), .int 0, .ref (aM 11), .ref (aM 12), .int 0, .int 0, .ref (aM 13), .ref (aM 14), .ref (aM 15), .ref (aM 16), .int 0, .long 0, .long 0, .int 0, .int 0, .int 0, .int 0, .ref (aM 17), .ref (aM 18), .int 0, .int 0, .int 0, .int 0, .ref (aM 19), .ref (aM 20), .int 0, .int 0, .ref (aM 21), .ref (aM 22), .ref (aM 23), .ref (aM 24), .int 0, .int 0, .int 0])), ((aM 0), .inl (k 0, 27101, .inl (fun _ => 0)))] H := hP
    have hD : va_D (fun q : Nat => s.heap.size ≤ q) [(hM, .inr (12, [.int 0, .int 0, .ref (aM 0), .ref (aM 1), .ref (aM 2), .int 0, .ref (aM 3), .ref (aM 4), .ref (aM 5), .ref (aM 6), .ref (aM 7), .int 0, .int 0, .int 0, .int 0, .long 0, .int (-1), .int 0, .int 0, .ref (aM 8), .int 0, .ref (aM 9), .ref (aM 10), .int 0, .ref (aM 11), .ref (aM 12), .int 0, .int 0, .ref (aM 13), .ref (aM 14), .ref (aM 15), .ref (aM 16), .int 0, .long 0, .long 0, .int 0, .int 0, .int 0, .int 0, .ref (aM 17), .ref (aM 18), .int 0, .int 0, .int 0, .int 0, .ref (aM 19), .ref (aM 20), .int 0, .int 0, .ref (aM 21), .ref (aM 22), .ref (aM 23), .ref (aM 24), .int 0, .int 0, .int 0])), ((aM 0), .inl (k 0, 27101, .inl (fun _ => 0)))] := hD
    refine lv_aload_n hx hb dL_law_1490 rfl (lv_at hl 2 rfl) ?_
    refine lv_aload_n hx hb dL_law_1491 rfl (lv_at hl 0 rfl) ?_
    refine lv_iload_n hx hb dL_law_1492 rfl (lv_at hl 3 rfl) ?_
    refine lv_iconst (v := 1) hx hb dL_law_1493 (by decide) ?_
    refine lv_iadd hx hb dL_law_1494 ?_
    refine lv_toc (v := 1) (by decide) ?_
    refine z_sld hx hb hXx hbl hbA hS 1 (by decide) (by unfold vp_in; decide) dL_law_1495 ?_
    refine z_bi (wr := []) (z_runV (C := RX12) (As := [.int (xs 1)]) (rest := [.int (-1)]) C0 (c_X12_record_1 l D k hM (aM 0) (aM 1) (aM 2) (aM 3) (aM 4) (aM 5) (aM 6) (aM 7) (aM 8) (aM 9) (aM 10) (aM 11) (aM 12) (aM 13) (aM 14) (aM 15) (aM 16) (aM 17) (aM 18) (aM 19) (aM 20) (aM 21) (aM 22) (aM 23) (aM 24) (xs 1) 0 0 0 0 0 0 0 0 (-1) 0 0 0 0 0 0 0 0 0 0 0 0 0 0 0 0 0 0 0 0 0 0 _) okV_X12_record kM_L_132 rfl (z_pV (q0 := 0) hK hN hP hD [0, 1] rfl rfl rfl rfl rfl) rfl hl.1 rfl (Nat.le_of_ble_eq_true rfl) dL_law_1496 rfl) hP hD hS hA [0, 1] [] rfl rfl rfl rfl (fun r2 u2 H locs hw2 hP hD hS => ?_)
    obtain ⟨i2, a2⟩ := u2
    dsimp only at hw2
    rcases hw2 with ⟨rfl, rfl, c2⟩ | ⟨rfl, rfl, c2⟩
    · have hP : va_P D vwCl [] H := hP
      have hD : va_D (fun q : Nat => s.heap.size ≤ q) [] := hD
      refine lv_icmp_eq (tgt := 2078) hx hb dL_law_1499 (by decide) (fun _ => ?_) (fun c3 => absurd (by decide) c3)
      exact law_end hC (Nat.le_of_ble_eq_true rfl) (Nat.le_of_ble_eq_true rfl) hS (lv_sub hl [0, 3] rfl)
    · have hP : va_P D vwCl [] H := hP
      have hD : va_D (fun q : Nat => s.heap.size ≤ q) [] := hD
      exact (show False by have bA0 := Int32.le_toInt (xs 1); have bB0 := Int32.toInt_lt (xs 1); revert c1 c2; simp only [vp_in_iff, Int32.lt_iff_toInt_lt, Int32.le_iff_toInt_le, Int64.lt_iff_toInt_lt, Int64.le_iff_toInt_le, Int32.toInt_toInt64, ← Int32.toInt_inj, ← Int64.toInt_inj, Int32.reduceToInt, Int64.reduceToInt] <;> omega).elim
  · have hP : va_P D vwCl [(hM, .inr (12, [.int 0, .int 0, .ref (aM 0), .ref (aM 1), .ref (aM 2), .int 0, .ref (aM 3), .ref (aM 4), .ref (aM 5), .ref (aM 6), .ref (aM 7), .int 0, .int 0, .int 0, .int 0, .long 0, .int (-1), .int 0, .int 0, .ref (aM 8), .int 0, .ref (aM 9), .ref (aM 10), .int 0, .ref (aM 11), .ref (aM 12), .int 0, .int 0, .ref (aM 13), .ref (aM 14), .ref (aM 15), .ref (aM 16), .int 0, .long 0, .long 0, .int 0, .int 0, .int 0, .int 0, .ref (aM 17), .ref (aM 18), .int 0, .int 0, .int 0, .int 0, .ref (aM 19), .ref (aM 20), .int 0, .int 0, .ref (aM 21), .ref (aM 22), .ref (aM 23), .ref (aM 24), .int 0, .int 0, .int 0])), ((aM 0), .inl (k 0, 27101, .inl (fun _ => 0)))] H := hP
    have hD : va_D (fun q : Nat => s.heap.size ≤ q) [(hM, .inr (12, [.int 0, .int 0, .ref (aM 0), .ref (aM 1), .ref (aM 2), .int 0, .ref (aM 3), .ref (aM 4), .ref (aM 5), .ref (aM 6), .ref (aM 7), .int 0, .int 0, .int 0, .int 0, .long 0, .int (-1), .int 0, .int 0, .ref (aM 8), .int 0, .ref (aM 9), .ref (aM 10), .int 0, .ref (aM 11), .ref (aM 12), .int 0, .int 0, .ref (aM 13), .ref (aM 14), .ref (aM 15), .ref (aM 16), .int 0, .long 0, .long 0, .int 0, .int 0, .int 0, .int 0, .ref (aM 17), .ref (aM 18), .int 0, .int 0, .int 0, .int 0, .ref (aM 19), .ref (aM 20), .int 0, .int 0, .ref (aM 21), .ref (aM 22), .ref (aM 23), .ref (aM 24), .int 0, .int 0, .int 0])), ((aM 0), .inl (k 0, 27101, .inl (fun _ => 0)))] := hD
    refine lv_aload_n hx hb dL_law_1490 rfl (lv_at hl 2 rfl) ?_
    refine lv_aload_n hx hb dL_law_1491 rfl (lv_at hl 0 rfl) ?_
    refine lv_iload_n hx hb dL_law_1492 rfl (lv_at hl 3 rfl) ?_
    refine lv_iconst (v := 1) hx hb dL_law_1493 (by decide) ?_
    refine lv_iadd hx hb dL_law_1494 ?_
    refine lv_toc (v := 1) (by decide) ?_
    refine z_sld hx hb hXx hbl hbA hS 1 (by decide) (by unfold vp_in; decide) dL_law_1495 ?_
    refine z_bi (wr := []) (z_runV (C := RX12) (As := [.int (xs 1)]) (rest := [.int 1]) C0 (c_X12_record_1 l D k hM (aM 0) (aM 1) (aM 2) (aM 3) (aM 4) (aM 5) (aM 6) (aM 7) (aM 8) (aM 9) (aM 10) (aM 11) (aM 12) (aM 13) (aM 14) (aM 15) (aM 16) (aM 17) (aM 18) (aM 19) (aM 20) (aM 21) (aM 22) (aM 23) (aM 24) (xs 1) 0 0 0 0 0 0 0 0 (-1) 0 0 0 0 0 0 0 0 0 0 0 0 0 0 0 0 0 0 0 0 0 0 _) okV_X12_record kM_L_132 rfl (z_pV (q0 := 0) hK hN hP hD [0, 1] rfl rfl rfl rfl rfl) rfl hl.1 rfl (Nat.le_of_ble_eq_true rfl) dL_law_1496 rfl) hP hD hS hA [0, 1] [] rfl rfl rfl rfl (fun r4 u4 H locs hw4 hP hD hS => ?_)
    obtain ⟨i4, a4⟩ := u4
    dsimp only at hw4
    rcases hw4 with ⟨rfl, rfl, c4⟩ | ⟨rfl, rfl, c4⟩
    · have hP : va_P D vwCl [] H := hP
      have hD : va_D (fun q : Nat => s.heap.size ≤ q) [] := hD
      exact (show False by have bA0 := Int32.le_toInt (xs 1); have bB0 := Int32.toInt_lt (xs 1); revert c1 c4; simp only [vp_in_iff, Int32.lt_iff_toInt_lt, Int32.le_iff_toInt_le, Int64.lt_iff_toInt_lt, Int64.le_iff_toInt_le, Int32.toInt_toInt64, ← Int32.toInt_inj, ← Int64.toInt_inj, Int32.reduceToInt, Int64.reduceToInt] <;> omega).elim
    · have hP : va_P D vwCl [] H := hP
      have hD : va_D (fun q : Nat => s.heap.size ≤ q) [] := hD
      refine lv_icmp_eq (tgt := 2078) hx hb dL_law_1499 (by decide) (fun _ => ?_) (fun c5 => absurd (by decide) c5)
      exact law_end hC (Nat.le_of_ble_eq_true rfl) (Nat.le_of_ble_eq_true rfl) hS (lv_sub hl [0, 3] rfl)

set_option maxHeartbeats 4000000 in
set_option maxRecDepth 100000 in
theorem law_case_28 {p : Program} {l : Launch} {e : Env} {s : State} {m : MethodId} {below : List Frame} {meth : Method} {c : Code} {D : va_G} {k : Nat → ClassId} {b : Nat} {xs : Nat → Int32} (hC : law_C p s m meth c D k b 7 xs) {hX hM : Nat} {aX aM : Nat → Nat} {H : Heap} {locs : List Loc} {ls : Array Slot} (hP : va_P D vwCl (WX k hX aX ++ WM k hM aM) H) (hD : va_D (fun q : Nat => s.heap.size ≤ q) (WX k hX aX ++ WM k hM aM)) (hS : va_S (fun q : Nat => s.heap.size ≤ q) s.heap H locs) (hl : lv_has ls 4 [(0, .ref b), (1, .ref hX), (2, .ref hM), (3, .int 0)]) : W p l e room_1 s m #[Value.ref b] below meth c H locs 100 106558 (lw_Z below #[Value.ref b] s) (F0 m 1504 ls []) := by
  obtain ⟨C0, hr, hlk, hXx, hbl, hK, hN⟩ := id hC
  have hx := C0.1
  have hb := C0.2.1
  have hml := C0.2.2.1
  have hown := C0.2.2.2.1
  have hts := C0.2.2.2.2
  have hA : ∀ q : Nat, s.heap.size ≤ q → (fun q : Nat => s.heap.size ≤ q) q := fun _ h => h
  have hbA : ¬ (fun q : Nat => s.heap.size ≤ q) b := Nat.not_le.mpr hbl
  refine lv_aload_n hx hb dL_law_1504 rfl (lv_at hl 1 rfl) ?_
  refine lv_aload_n hx hb dL_law_1505 rfl (lv_at hl 0 rfl) ?_
  refine lv_iload_n hx hb dL_law_1506 rfl (lv_at hl 3 rfl) ?_
  refine lv_iconst (v := 1) hx hb dL_law_1507 (by decide) ?_
  refine lv_iadd hx hb dL_law_1508 ?_
  refine lv_toc (v := 1) (by decide) ?_
  refine z_sld hx hb hXx hbl hbA hS 1 (by decide) (by unfold vp_in; decide) dL_law_1509 ?_
  refine lv_aload_n hx hb dL_law_1510 rfl (lv_at hl 0 rfl) ?_
  refine lv_iload_n hx hb dL_law_1511 rfl (lv_at hl 3 rfl) ?_
  refine lv_iconst (v := 2) hx hb dL_law_1512 (by decide) ?_
  refine lv_iadd hx hb dL_law_1513 ?_
  refine lv_toc (v := 2) (by decide) ?_
  refine z_sld hx hb hXx hbl hbA hS 2 (by decide) (by unfold vp_in; decide) dL_law_1514 ?_
  refine z_bi (wr := [(hM, .inr (12, [.int 0, .int 0, .ref (aM 0), .ref (aM 1), .ref (aM 2), .int 0, .ref (aM 3), .ref (aM 4), .ref (aM 5), .ref (aM 6), .ref (aM 7), .int 0, .int 0, .int 0, .int 0, .long 0, .int (-1), .int 0, .int 0, .ref (aM 8), .int 0, .ref (aM 9), .ref (aM 10), .int 0, .ref (aM 11), .ref (aM 12), .int 0, .int 0, .ref (aM 13), .ref (aM 14), .ref (aM 15), .ref (aM 16), .int 0, .long 0, .long 0, .int 0, .int 0, .int 0, .int 0, .ref (aM 17), .ref (aM 18), .int 0, .int 0, .int 0, .int 0, .ref (aM 19), .ref (aM 20), .int 0, .int 0, .ref (aM 21), .ref (aM 22), .ref (aM 23), .ref (aM 24), .int 0, .int 0, .int 0])), ((aM 0), .inl (k 0, 27101, .inl (fun _ => 0)))]) (z_runV (C := RX11) (As := [.int (xs 1), .int (xs 2)]) (rest := []) C0 (c_X11_missing_1 l D k hX (aX 0) (aX 1) (aX 50) (aX 51) (aX 57) (aX 65) (aX 14) (aX 20) (aX 33) (aX 36) (aX 40) (aX 2) (aX 3) (aX 4) (aX 5) (aX 6) (aX 7) (aX 8) (aX 9) (aX 10) (aX 11) (aX 12) (aX 13) (xs 1) (xs 2) 0 0 0 _) okV_X11_missing kM_L_133 rfl (z_pV (q0 := 0) hK hN hP hD [0, 1, 2] rfl rfl rfl rfl rfl) rfl hl.1 rfl (Nat.le_of_ble_eq_true rfl) dL_law_1515 rfl) hP hD hS hA [0, 1, 2] [74, 75] rfl rfl rfl rfl (fun r1 u1 H locs hw1 hP hD hS => ?_)
  obtain ⟨i1, a1⟩ := u1
  dsimp only at hw1
  rcases hw1 with ⟨rfl, rfl, c1⟩ | ⟨rfl, rfl, c1⟩
  · have hP : va_P D vwCl [(hM, .inr (12, [.int 0, .int 0, .ref (aM 0), .ref (aM 1), .ref (aM 2), .int 0, .ref (aM 3), .ref (aM 4), .ref (aM 5), .ref (aM 6), .ref (aM 7), .int 0, .int 0, .int 0, .int 0, .long 0, .int (-1), .int 0, .int 0, .ref (aM 8), .int 0, .ref (aM 9), .ref (aM 10), .int 0, .ref (aM 11), .ref (aM 12), .int 0, .int 0, .ref (aM 13), .ref (aM 14), .ref (aM 15), .ref (aM 16), .int 0, .long 0, .long 0, .int 0, .int 0, .int 0, .int 0, .ref (aM 17), .ref (aM 18), .int 0, .int 0, .int 0, .int 0, .ref (aM 19), .ref (aM 20), .int 0, .int 0, .ref (aM 21), .ref (aM 22), .ref (aM 23), .ref (aM 24), .int 0, .int 0, .int 0])), ((aM 0), .inl (k 0, 27101, .inl (fun _ => 0)))] H := hP
    have hD : va_D (fun q : Nat => s.heap.size ≤ q) [(hM, .inr (12, [.int 0, .int 0, .ref (aM 0), .ref (aM 1), .ref (aM 2), .int 0, .ref (aM 3), .ref (aM 4), .ref (aM 5), .ref (aM 6), .ref (aM 7), .int 0, .int 0, .int 0, .int 0, .long 0, .int (-1), .int 0, .int 0, .ref (aM 8), .int 0, .ref (aM 9), .ref (aM 10), .int 0, .ref (aM 11), .ref (aM 12), .int 0, .int 0, .ref (aM 13), .ref (aM 14), .ref (aM 15), .ref (aM 16), .int 0, .long 0, .long 0, .int 0, .int 0, .int 0, .int 0, .ref (aM 17), .ref (aM 18), .int 0, .int 0, .int 0, .int 0, .ref (aM 19), .ref (aM 20), .int 0, .int 0, .ref (aM 21), .ref (aM 22), .ref (aM 23), .ref (aM 24), .int 0, .int 0, .int 0])), ((aM 0), .inl (k 0, 27101, .inl (fun _ => 0)))] := hD
    refine lv_aload_n hx hb dL_law_1518 rfl (lv_at hl 2 rfl) ?_
    refine lv_aload_n hx hb dL_law_1519 rfl (lv_at hl 0 rfl) ?_
    refine lv_iload_n hx hb dL_law_1520 rfl (lv_at hl 3 rfl) ?_
    refine lv_iconst (v := 1) hx hb dL_law_1521 (by decide) ?_
    refine lv_iadd hx hb dL_law_1522 ?_
    refine lv_toc (v := 1) (by decide) ?_
    refine z_sld hx hb hXx hbl hbA hS 1 (by decide) (by unfold vp_in; decide) dL_law_1523 ?_
    refine lv_aload_n hx hb dL_law_1524 rfl (lv_at hl 0 rfl) ?_
    refine lv_iload_n hx hb dL_law_1525 rfl (lv_at hl 3 rfl) ?_
    refine lv_iconst (v := 2) hx hb dL_law_1526 (by decide) ?_
    refine lv_iadd hx hb dL_law_1527 ?_
    refine lv_toc (v := 2) (by decide) ?_
    refine z_sld hx hb hXx hbl hbA hS 2 (by decide) (by unfold vp_in; decide) dL_law_1528 ?_
    refine z_bi (wr := []) (z_runV (C := RX12) (As := [.int (xs 1), .int (xs 2)]) (rest := [.int (-1)]) C0 (c_X12_missing_1 l D k hM (aM 0) (aM 1) (aM 2) (aM 3) (aM 4) (aM 5) (aM 6) (aM 7) (aM 8) (aM 9) (aM 10) (aM 11) (aM 12) (aM 13) (aM 14) (aM 15) (aM 16) (aM 17) (aM 18) (aM 19) (aM 20) (aM 21) (aM 22) (aM 23) (aM 24) (xs 1) (xs 2) 0 0 0 0 0 0 0 0 (-1) 0 0 0 0 0 0 0 0 0 0 0 0 0 0 0 0 0 0 0 0 0 0 _) okV_X12_missing kM_L_136 rfl (z_pV (q0 := 0) hK hN hP hD [0, 1] rfl rfl rfl rfl rfl) rfl hl.1 rfl (Nat.le_of_ble_eq_true rfl) dL_law_1529 rfl) hP hD hS hA [0, 1] [] rfl rfl rfl rfl (fun r2 u2 H locs hw2 hP hD hS => ?_)
    obtain ⟨i2, a2⟩ := u2
    dsimp only at hw2
    rcases hw2 with ⟨rfl, rfl, c2⟩ | ⟨rfl, rfl, c2⟩
    · have hP : va_P D vwCl [] H := hP
      have hD : va_D (fun q : Nat => s.heap.size ≤ q) [] := hD
      refine lv_icmp_eq (tgt := 2078) hx hb dL_law_1532 (by decide) (fun _ => ?_) (fun c3 => absurd (by decide) c3)
      exact law_end hC (Nat.le_of_ble_eq_true rfl) (Nat.le_of_ble_eq_true rfl) hS (lv_sub hl [0, 3] rfl)
    · have hP : va_P D vwCl [] H := hP
      have hD : va_D (fun q : Nat => s.heap.size ≤ q) [] := hD
      exact (show False by have bA0 := Int32.le_toInt (xs 2); have bB0 := Int32.toInt_lt (xs 2); revert c1 c2; simp only [vp_in_iff, Int32.lt_iff_toInt_lt, Int32.le_iff_toInt_le, Int64.lt_iff_toInt_lt, Int64.le_iff_toInt_le, Int32.toInt_toInt64, ← Int32.toInt_inj, ← Int64.toInt_inj, Int32.reduceToInt, Int64.reduceToInt] <;> omega).elim
  · have hP : va_P D vwCl [(hM, .inr (12, [.int 0, .int 0, .ref (aM 0), .ref (aM 1), .ref (aM 2), .int 0, .ref (aM 3), .ref (aM 4), .ref (aM 5), .ref (aM 6), .ref (aM 7), .int 0, .int 0, .int 0, .int 0, .long 0, .int (-1), .int 0, .int 0, .ref (aM 8), .int 0, .ref (aM 9), .ref (aM 10), .int 0, .ref (aM 11), .ref (aM 12), .int 0, .int 0, .ref (aM 13), .ref (aM 14), .ref (aM 15), .ref (aM 16), .int 0, .long 0, .long 0, .int 0, .int 0, .int 0, .int 0, .ref (aM 17), .ref (aM 18), .int 0, .int 0, .int 0, .int 0, .ref (aM 19), .ref (aM 20), .int 0, .int 0, .ref (aM 21), .ref (aM 22), .ref (aM 23), .ref (aM 24), .int 0, .int 0, .int 0])), ((aM 0), .inl (k 0, 27101, .inl (fun _ => 0)))] H := hP
    have hD : va_D (fun q : Nat => s.heap.size ≤ q) [(hM, .inr (12, [.int 0, .int 0, .ref (aM 0), .ref (aM 1), .ref (aM 2), .int 0, .ref (aM 3), .ref (aM 4), .ref (aM 5), .ref (aM 6), .ref (aM 7), .int 0, .int 0, .int 0, .int 0, .long 0, .int (-1), .int 0, .int 0, .ref (aM 8), .int 0, .ref (aM 9), .ref (aM 10), .int 0, .ref (aM 11), .ref (aM 12), .int 0, .int 0, .ref (aM 13), .ref (aM 14), .ref (aM 15), .ref (aM 16), .int 0, .long 0, .long 0, .int 0, .int 0, .int 0, .int 0, .ref (aM 17), .ref (aM 18), .int 0, .int 0, .int 0, .int 0, .ref (aM 19), .ref (aM 20), .int 0, .int 0, .ref (aM 21), .ref (aM 22), .ref (aM 23), .ref (aM 24), .int 0, .int 0, .int 0])), ((aM 0), .inl (k 0, 27101, .inl (fun _ => 0)))] := hD
    refine lv_aload_n hx hb dL_law_1518 rfl (lv_at hl 2 rfl) ?_
    refine lv_aload_n hx hb dL_law_1519 rfl (lv_at hl 0 rfl) ?_
    refine lv_iload_n hx hb dL_law_1520 rfl (lv_at hl 3 rfl) ?_
    refine lv_iconst (v := 1) hx hb dL_law_1521 (by decide) ?_
    refine lv_iadd hx hb dL_law_1522 ?_
    refine lv_toc (v := 1) (by decide) ?_
    refine z_sld hx hb hXx hbl hbA hS 1 (by decide) (by unfold vp_in; decide) dL_law_1523 ?_
    refine lv_aload_n hx hb dL_law_1524 rfl (lv_at hl 0 rfl) ?_
    refine lv_iload_n hx hb dL_law_1525 rfl (lv_at hl 3 rfl) ?_
    refine lv_iconst (v := 2) hx hb dL_law_1526 (by decide) ?_
    refine lv_iadd hx hb dL_law_1527 ?_
    refine lv_toc (v := 2) (by decide) ?_
    refine z_sld hx hb hXx hbl hbA hS 2 (by decide) (by unfold vp_in; decide) dL_law_1528 ?_
    refine z_bi (wr := []) (z_runV (C := RX12) (As := [.int (xs 1), .int (xs 2)]) (rest := [.int (-2)]) C0 (c_X12_missing_1 l D k hM (aM 0) (aM 1) (aM 2) (aM 3) (aM 4) (aM 5) (aM 6) (aM 7) (aM 8) (aM 9) (aM 10) (aM 11) (aM 12) (aM 13) (aM 14) (aM 15) (aM 16) (aM 17) (aM 18) (aM 19) (aM 20) (aM 21) (aM 22) (aM 23) (aM 24) (xs 1) (xs 2) 0 0 0 0 0 0 0 0 (-1) 0 0 0 0 0 0 0 0 0 0 0 0 0 0 0 0 0 0 0 0 0 0 _) okV_X12_missing kM_L_136 rfl (z_pV (q0 := 0) hK hN hP hD [0, 1] rfl rfl rfl rfl rfl) rfl hl.1 rfl (Nat.le_of_ble_eq_true rfl) dL_law_1529 rfl) hP hD hS hA [0, 1] [] rfl rfl rfl rfl (fun r4 u4 H locs hw4 hP hD hS => ?_)
    obtain ⟨i4, a4⟩ := u4
    dsimp only at hw4
    rcases hw4 with ⟨rfl, rfl, c4⟩ | ⟨rfl, rfl, c4⟩
    · have hP : va_P D vwCl [] H := hP
      have hD : va_D (fun q : Nat => s.heap.size ≤ q) [] := hD
      exact (show False by have bA0 := Int32.le_toInt (xs 2); have bB0 := Int32.toInt_lt (xs 2); revert c1 c4; simp only [vp_in_iff, Int32.lt_iff_toInt_lt, Int32.le_iff_toInt_le, Int64.lt_iff_toInt_lt, Int64.le_iff_toInt_le, Int32.toInt_toInt64, ← Int32.toInt_inj, ← Int64.toInt_inj, Int32.reduceToInt, Int64.reduceToInt] <;> omega).elim
    · have hP : va_P D vwCl [] H := hP
      have hD : va_D (fun q : Nat => s.heap.size ≤ q) [] := hD
      refine lv_icmp_eq (tgt := 2078) hx hb dL_law_1532 (by decide) (fun _ => ?_) (fun c5 => absurd (by decide) c5)
      exact law_end hC (Nat.le_of_ble_eq_true rfl) (Nat.le_of_ble_eq_true rfl) hS (lv_sub hl [0, 3] rfl)

set_option maxHeartbeats 4000000 in
set_option maxRecDepth 100000 in
theorem law_case_29 {p : Program} {l : Launch} {e : Env} {s : State} {m : MethodId} {below : List Frame} {meth : Method} {c : Code} {D : va_G} {k : Nat → ClassId} {b : Nat} {xs : Nat → Int32} (hC : law_C p s m meth c D k b 7 xs) {hX hM : Nat} {aX aM : Nat → Nat} {H : Heap} {locs : List Loc} {ls : Array Slot} (hP : va_P D vwCl (WX k hX aX ++ WM k hM aM) H) (hD : va_D (fun q : Nat => s.heap.size ≤ q) (WX k hX aX ++ WM k hM aM)) (hS : va_S (fun q : Nat => s.heap.size ≤ q) s.heap H locs) (hl : lv_has ls 4 [(0, .ref b), (1, .ref hX), (2, .ref hM), (3, .int 0)]) : W p l e room_1 s m #[Value.ref b] below meth c H locs 100 106558 (lw_Z below #[Value.ref b] s) (F0 m 1537 ls []) := by
  obtain ⟨C0, hr, hlk, hXx, hbl, hK, hN⟩ := id hC
  have hx := C0.1
  have hb := C0.2.1
  have hml := C0.2.2.1
  have hown := C0.2.2.2.1
  have hts := C0.2.2.2.2
  have hA : ∀ q : Nat, s.heap.size ≤ q → (fun q : Nat => s.heap.size ≤ q) q := fun _ h => h
  have hbA : ¬ (fun q : Nat => s.heap.size ≤ q) b := Nat.not_le.mpr hbl
  refine lv_aload_n hx hb dL_law_1537 rfl (lv_at hl 1 rfl) ?_
  refine lv_aload_n hx hb dL_law_1538 rfl (lv_at hl 0 rfl) ?_
  refine lv_iload_n hx hb dL_law_1539 rfl (lv_at hl 3 rfl) ?_
  refine lv_iconst (v := 1) hx hb dL_law_1540 (by decide) ?_
  refine lv_iadd hx hb dL_law_1541 ?_
  refine lv_toc (v := 1) (by decide) ?_
  refine z_sld hx hb hXx hbl hbA hS 1 (by decide) (by unfold vp_in; decide) dL_law_1542 ?_
  refine z_bi (wr := [(hM, .inr (12, [.int 0, .int 0, .ref (aM 0), .ref (aM 1), .ref (aM 2), .int 0, .ref (aM 3), .ref (aM 4), .ref (aM 5), .ref (aM 6), .ref (aM 7), .int 0, .int 0, .int 0, .int 0, .long 0, .int (-1), .int 0, .int 0, .ref (aM 8), .int 0, .ref (aM 9), .ref (aM 10), .int 0, .ref (aM 11), .ref (aM 12), .int 0, .int 0, .ref (aM 13), .ref (aM 14), .ref (aM 15), .ref (aM 16), .int 0, .long 0, .long 0, .int 0, .int 0, .int 0, .int 0, .ref (aM 17), .ref (aM 18), .int 0, .int 0, .int 0, .int 0, .ref (aM 19), .ref (aM 20), .int 0, .int 0, .ref (aM 21), .ref (aM 22), .ref (aM 23), .ref (aM 24), .int 0, .int 0, .int 0])), ((aM 0), .inl (k 0, 27101, .inl (fun _ => 0)))]) (z_runV (C := RX11) (As := [.int (xs 1)]) (rest := []) C0 (c_X11_join_1 l D k hX (aX 65) (aX 40) (aX 68) (aX 69) (aX 0) (aX 50) (aX 51) (aX 57) (aX 1) (aX 66) (aX 67) (aX 70) (aX 71) (aX 72) (aX 41) (aX 42) (aX 43) (aX 44) (aX 45) (aX 46) (aX 47) (aX 48) (aX 49) (xs 1) 0 0 (-1) 0 0 0 0 0 _) okV_X11_join kM_L_137 rfl (z_pV (q0 := 0) hK hN hP hD [0, 66, 41, 69, 70] rfl rfl rfl rfl rfl) rfl hl.1 rfl (Nat.le_of_ble_eq_true rfl) dL_law_1543 rfl) hP hD hS hA [0, 66, 41, 69, 70] [74, 75] rfl rfl rfl rfl (fun r1 u1 H locs hw1 hP hD hS => ?_)
  obtain ⟨i1, a1⟩ := u1
  dsimp only at hw1
  rcases hw1 with ⟨rfl, rfl, c1⟩ | ⟨rfl, rfl, c1⟩
  · have hP : va_P D vwCl [(hM, .inr (12, [.int 0, .int 0, .ref (aM 0), .ref (aM 1), .ref (aM 2), .int 0, .ref (aM 3), .ref (aM 4), .ref (aM 5), .ref (aM 6), .ref (aM 7), .int 0, .int 0, .int 0, .int 0, .long 0, .int (-1), .int 0, .int 0, .ref (aM 8), .int 0, .ref (aM 9), .ref (aM 10), .int 0, .ref (aM 11), .ref (aM 12), .int 0, .int 0, .ref (aM 13), .ref (aM 14), .ref (aM 15), .ref (aM 16), .int 0, .long 0, .long 0, .int 0, .int 0, .int 0, .int 0, .ref (aM 17), .ref (aM 18), .int 0, .int 0, .int 0, .int 0, .ref (aM 19), .ref (aM 20), .int 0, .int 0, .ref (aM 21), .ref (aM 22), .ref (aM 23), .ref (aM 24), .int 0, .int 0, .int 0])), ((aM 0), .inl (k 0, 27101, .inl (fun _ => 0)))] H := hP
    have hD : va_D (fun q : Nat => s.heap.size ≤ q) [(hM, .inr (12, [.int 0, .int 0, .ref (aM 0), .ref (aM 1), .ref (aM 2), .int 0, .ref (aM 3), .ref (aM 4), .ref (aM 5), .ref (aM 6), .ref (aM 7), .int 0, .int 0, .int 0, .int 0, .long 0, .int (-1), .int 0, .int 0, .ref (aM 8), .int 0, .ref (aM 9), .ref (aM 10), .int 0, .ref (aM 11), .ref (aM 12), .int 0, .int 0, .ref (aM 13), .ref (aM 14), .ref (aM 15), .ref (aM 16), .int 0, .long 0, .long 0, .int 0, .int 0, .int 0, .int 0, .ref (aM 17), .ref (aM 18), .int 0, .int 0, .int 0, .int 0, .ref (aM 19), .ref (aM 20), .int 0, .int 0, .ref (aM 21), .ref (aM 22), .ref (aM 23), .ref (aM 24), .int 0, .int 0, .int 0])), ((aM 0), .inl (k 0, 27101, .inl (fun _ => 0)))] := hD
    refine lv_aload_n hx hb dL_law_1546 rfl (lv_at hl 2 rfl) ?_
    refine lv_aload_n hx hb dL_law_1547 rfl (lv_at hl 0 rfl) ?_
    refine lv_iload_n hx hb dL_law_1548 rfl (lv_at hl 3 rfl) ?_
    refine lv_iconst (v := 1) hx hb dL_law_1549 (by decide) ?_
    refine lv_iadd hx hb dL_law_1550 ?_
    refine lv_toc (v := 1) (by decide) ?_
    refine z_sld hx hb hXx hbl hbA hS 1 (by decide) (by unfold vp_in; decide) dL_law_1551 ?_
    refine z_bi (wr := []) (z_runV (C := RX12) (As := [.int (xs 1)]) (rest := [.int (-1)]) C0 (c_X12_join_1 l D k hM (aM 0) (aM 1) (aM 2) (aM 3) (aM 4) (aM 5) (aM 6) (aM 7) (aM 8) (aM 9) (aM 10) (aM 11) (aM 12) (aM 13) (aM 14) (aM 15) (aM 16) (aM 17) (aM 18) (aM 19) (aM 20) (aM 21) (aM 22) (aM 23) (aM 24) (xs 1) 0 0 0 0 0 0 0 0 (-1) 0 0 0 0 0 0 0 0 0 0 0 0 0 0 0 0 0 0 0 _) okV_X12_join kM_L_140 rfl (z_pV (q0 := 0) hK hN hP hD [0, 1] rfl rfl rfl rfl rfl) rfl hl.1 rfl (Nat.le_of_ble_eq_true rfl) dL_law_1552 rfl) hP hD hS hA [0, 1] [] rfl rfl rfl rfl (fun r2 u2 H locs hw2 hP hD hS => ?_)
    obtain ⟨i2, a2⟩ := u2
    dsimp only at hw2
    rcases hw2 with ⟨rfl, rfl, c2⟩ | ⟨rfl, rfl, c2⟩
    · have hP : va_P D vwCl [] H := hP
      have hD : va_D (fun q : Nat => s.heap.size ≤ q) [] := hD
      refine lv_icmp_eq (tgt := 2078) hx hb dL_law_1555 (by decide) (fun _ => ?_) (fun c3 => absurd (by decide) c3)
      exact law_end hC (Nat.le_of_ble_eq_true rfl) (Nat.le_of_ble_eq_true rfl) hS (lv_sub hl [0, 3] rfl)
    · have hP : va_P D vwCl [] H := hP
      have hD : va_D (fun q : Nat => s.heap.size ≤ q) [] := hD
      exact (show False by have bA0 := Int32.le_toInt (xs 1); have bB0 := Int32.toInt_lt (xs 1); revert c1 c2; simp only [vp_in_iff, Int32.lt_iff_toInt_lt, Int32.le_iff_toInt_le, Int64.lt_iff_toInt_lt, Int64.le_iff_toInt_le, Int32.toInt_toInt64, ← Int32.toInt_inj, ← Int64.toInt_inj, Int32.reduceToInt, Int64.reduceToInt] <;> omega).elim
  · have hP : va_P D vwCl [(hM, .inr (12, [.int 0, .int 0, .ref (aM 0), .ref (aM 1), .ref (aM 2), .int 0, .ref (aM 3), .ref (aM 4), .ref (aM 5), .ref (aM 6), .ref (aM 7), .int 0, .int 0, .int 0, .int 0, .long 0, .int (-1), .int 0, .int 0, .ref (aM 8), .int 0, .ref (aM 9), .ref (aM 10), .int 0, .ref (aM 11), .ref (aM 12), .int 0, .int 0, .ref (aM 13), .ref (aM 14), .ref (aM 15), .ref (aM 16), .int 0, .long 0, .long 0, .int 0, .int 0, .int 0, .int 0, .ref (aM 17), .ref (aM 18), .int 0, .int 0, .int 0, .int 0, .ref (aM 19), .ref (aM 20), .int 0, .int 0, .ref (aM 21), .ref (aM 22), .ref (aM 23), .ref (aM 24), .int 0, .int 0, .int 0])), ((aM 0), .inl (k 0, 27101, .inl (fun _ => 0)))] H := hP
    have hD : va_D (fun q : Nat => s.heap.size ≤ q) [(hM, .inr (12, [.int 0, .int 0, .ref (aM 0), .ref (aM 1), .ref (aM 2), .int 0, .ref (aM 3), .ref (aM 4), .ref (aM 5), .ref (aM 6), .ref (aM 7), .int 0, .int 0, .int 0, .int 0, .long 0, .int (-1), .int 0, .int 0, .ref (aM 8), .int 0, .ref (aM 9), .ref (aM 10), .int 0, .ref (aM 11), .ref (aM 12), .int 0, .int 0, .ref (aM 13), .ref (aM 14), .ref (aM 15), .ref (aM 16), .int 0, .long 0, .long 0, .int 0, .int 0, .int 0, .int 0, .ref (aM 17), .ref (aM 18), .int 0, .int 0, .int 0, .int 0, .ref (aM 19), .ref (aM 20), .int 0, .int 0, .ref (aM 21), .ref (aM 22), .ref (aM 23), .ref (aM 24), .int 0, .int 0, .int 0])), ((aM 0), .inl (k 0, 27101, .inl (fun _ => 0)))] := hD
    refine lv_aload_n hx hb dL_law_1546 rfl (lv_at hl 2 rfl) ?_
    refine lv_aload_n hx hb dL_law_1547 rfl (lv_at hl 0 rfl) ?_
    refine lv_iload_n hx hb dL_law_1548 rfl (lv_at hl 3 rfl) ?_
    refine lv_iconst (v := 1) hx hb dL_law_1549 (by decide) ?_
    refine lv_iadd hx hb dL_law_1550 ?_
    refine lv_toc (v := 1) (by decide) ?_
    refine z_sld hx hb hXx hbl hbA hS 1 (by decide) (by unfold vp_in; decide) dL_law_1551 ?_
    refine z_bi (wr := []) (z_runV (C := RX12) (As := [.int (xs 1)]) (rest := [.int 0]) C0 (c_X12_join_1 l D k hM (aM 0) (aM 1) (aM 2) (aM 3) (aM 4) (aM 5) (aM 6) (aM 7) (aM 8) (aM 9) (aM 10) (aM 11) (aM 12) (aM 13) (aM 14) (aM 15) (aM 16) (aM 17) (aM 18) (aM 19) (aM 20) (aM 21) (aM 22) (aM 23) (aM 24) (xs 1) 0 0 0 0 0 0 0 0 (-1) 0 0 0 0 0 0 0 0 0 0 0 0 0 0 0 0 0 0 0 _) okV_X12_join kM_L_140 rfl (z_pV (q0 := 0) hK hN hP hD [0, 1] rfl rfl rfl rfl rfl) rfl hl.1 rfl (Nat.le_of_ble_eq_true rfl) dL_law_1552 rfl) hP hD hS hA [0, 1] [] rfl rfl rfl rfl (fun r4 u4 H locs hw4 hP hD hS => ?_)
    obtain ⟨i4, a4⟩ := u4
    dsimp only at hw4
    rcases hw4 with ⟨rfl, rfl, c4⟩ | ⟨rfl, rfl, c4⟩
    · have hP : va_P D vwCl [] H := hP
      have hD : va_D (fun q : Nat => s.heap.size ≤ q) [] := hD
      exact (show False by have bA0 := Int32.le_toInt (xs 1); have bB0 := Int32.toInt_lt (xs 1); revert c1 c4; simp only [vp_in_iff, Int32.lt_iff_toInt_lt, Int32.le_iff_toInt_le, Int64.lt_iff_toInt_lt, Int64.le_iff_toInt_le, Int32.toInt_toInt64, ← Int32.toInt_inj, ← Int64.toInt_inj, Int32.reduceToInt, Int64.reduceToInt] <;> omega).elim
    · have hP : va_P D vwCl [] H := hP
      have hD : va_D (fun q : Nat => s.heap.size ≤ q) [] := hD
      refine lv_icmp_eq (tgt := 2078) hx hb dL_law_1555 (by decide) (fun _ => ?_) (fun c5 => absurd (by decide) c5)
      exact law_end hC (Nat.le_of_ble_eq_true rfl) (Nat.le_of_ble_eq_true rfl) hS (lv_sub hl [0, 3] rfl)

set_option maxHeartbeats 4000000 in
set_option maxRecDepth 100000 in
theorem law_case_30 {p : Program} {l : Launch} {e : Env} {s : State} {m : MethodId} {below : List Frame} {meth : Method} {c : Code} {D : va_G} {k : Nat → ClassId} {b : Nat} {xs : Nat → Int32} (hC : law_C p s m meth c D k b 7 xs) {hX hM : Nat} {aX aM : Nat → Nat} {H : Heap} {locs : List Loc} {ls : Array Slot} (hP : va_P D vwCl (WX k hX aX ++ WM k hM aM) H) (hD : va_D (fun q : Nat => s.heap.size ≤ q) (WX k hX aX ++ WM k hM aM)) (hS : va_S (fun q : Nat => s.heap.size ≤ q) s.heap H locs) (hl : lv_has ls 4 [(0, .ref b), (1, .ref hX), (2, .ref hM), (3, .int 0)]) : W p l e room_1 s m #[Value.ref b] below meth c H locs 100 106558 (lw_Z below #[Value.ref b] s) (F0 m 1560 ls []) := by
  obtain ⟨C0, hr, hlk, hXx, hbl, hK, hN⟩ := id hC
  have hx := C0.1
  have hb := C0.2.1
  have hml := C0.2.2.1
  have hown := C0.2.2.2.1
  have hts := C0.2.2.2.2
  have hA : ∀ q : Nat, s.heap.size ≤ q → (fun q : Nat => s.heap.size ≤ q) q := fun _ h => h
  have hbA : ¬ (fun q : Nat => s.heap.size ≤ q) b := Nat.not_le.mpr hbl
  refine lv_aload_n hx hb dL_law_1560 rfl (lv_at hl 1 rfl) ?_
  refine lv_aload_n hx hb dL_law_1561 rfl (lv_at hl 0 rfl) ?_
  refine lv_iload_n hx hb dL_law_1562 rfl (lv_at hl 3 rfl) ?_
  refine lv_iconst (v := 1) hx hb dL_law_1563 (by decide) ?_
  refine lv_iadd hx hb dL_law_1564 ?_
  refine lv_toc (v := 1) (by decide) ?_
  refine z_sld hx hb hXx hbl hbA hS 1 (by decide) (by unfold vp_in; decide) dL_law_1565 ?_
  refine z_bi (wr := [(hM, .inr (12, [.int 0, .int 0, .ref (aM 0), .ref (aM 1), .ref (aM 2), .int 0, .ref (aM 3), .ref (aM 4), .ref (aM 5), .ref (aM 6), .ref (aM 7), .int 0, .int 0, .int 0, .int 0, .long 0, .int (-1), .int 0, .int 0, .ref (aM 8), .int 0, .ref (aM 9), .ref (aM 10), .int 0, .ref (aM 11), .ref (aM 12), .int 0, .int 0, .ref (aM 13), .ref (aM 14), .ref (aM 15), .ref (aM 16), .int 0, .long 0, .long 0, .int 0, .int 0, .int 0, .int 0, .ref (aM 17), .ref (aM 18), .int 0, .int 0, .int 0, .int 0, .ref (aM 19), .ref (aM 20), .int 0, .int 0, .ref (aM 21), .ref (aM 22), .ref (aM 23), .ref (aM 24), .int 0, .int 0, .int 0]))]) (z_runV (C := RX11) (As := [.int (xs 1)]) (rest := []) C0 (c_X11_joined_1 l D k hX (aX 65) (aX 0) (aX 50) (aX 51) (aX 57) (aX 1) (aX 40) (aX 66) (aX 67) (aX 68) (aX 69) (aX 70) (aX 71) (aX 72) (xs 1) 0 0 0 0 _) okV_X11_joined kM_L_141 rfl (z_pV (q0 := 0) hK hN hP hD [0, 66] rfl rfl rfl rfl rfl) rfl hl.1 rfl (Nat.le_of_ble_eq_true rfl) dL_law_1566 rfl) hP hD hS hA [0, 66] [74] rfl rfl rfl rfl (fun r1 u1 H locs hw1 hP hD hS => ?_)
  obtain ⟨i1, a1⟩ := u1
  dsimp only at hw1
  obtain ⟨rfl, rfl⟩ := hw1
  have hP : va_P D vwCl [(hM, .inr (12, [.int 0, .int 0, .ref (aM 0), .ref (aM 1), .ref (aM 2), .int 0, .ref (aM 3), .ref (aM 4), .ref (aM 5), .ref (aM 6), .ref (aM 7), .int 0, .int 0, .int 0, .int 0, .long 0, .int (-1), .int 0, .int 0, .ref (aM 8), .int 0, .ref (aM 9), .ref (aM 10), .int 0, .ref (aM 11), .ref (aM 12), .int 0, .int 0, .ref (aM 13), .ref (aM 14), .ref (aM 15), .ref (aM 16), .int 0, .long 0, .long 0, .int 0, .int 0, .int 0, .int 0, .ref (aM 17), .ref (aM 18), .int 0, .int 0, .int 0, .int 0, .ref (aM 19), .ref (aM 20), .int 0, .int 0, .ref (aM 21), .ref (aM 22), .ref (aM 23), .ref (aM 24), .int 0, .int 0, .int 0]))] H := hP
  have hD : va_D (fun q : Nat => s.heap.size ≤ q) [(hM, .inr (12, [.int 0, .int 0, .ref (aM 0), .ref (aM 1), .ref (aM 2), .int 0, .ref (aM 3), .ref (aM 4), .ref (aM 5), .ref (aM 6), .ref (aM 7), .int 0, .int 0, .int 0, .int 0, .long 0, .int (-1), .int 0, .int 0, .ref (aM 8), .int 0, .ref (aM 9), .ref (aM 10), .int 0, .ref (aM 11), .ref (aM 12), .int 0, .int 0, .ref (aM 13), .ref (aM 14), .ref (aM 15), .ref (aM 16), .int 0, .long 0, .long 0, .int 0, .int 0, .int 0, .int 0, .ref (aM 17), .ref (aM 18), .int 0, .int 0, .int 0, .int 0, .ref (aM 19), .ref (aM 20), .int 0, .int 0, .ref (aM 21), .ref (aM 22), .ref (aM 23), .ref (aM 24), .int 0, .int 0, .int 0]))] := hD
  refine lv_aload_n hx hb dL_law_1569 rfl (lv_at hl 2 rfl) ?_
  refine lv_aload_n hx hb dL_law_1570 rfl (lv_at hl 0 rfl) ?_
  refine lv_iload_n hx hb dL_law_1571 rfl (lv_at hl 3 rfl) ?_
  refine lv_iconst (v := 1) hx hb dL_law_1572 (by decide) ?_
  refine lv_iadd hx hb dL_law_1573 ?_
  refine lv_toc (v := 1) (by decide) ?_
  refine z_sld hx hb hXx hbl hbA hS 1 (by decide) (by unfold vp_in; decide) dL_law_1574 ?_
  refine z_bi (wr := []) (z_runV (C := RX12) (As := [.int (xs 1)]) (rest := [.int (-1)]) C0 (c_X12_joined_1 l D k hM (aM 0) (aM 1) (aM 2) (aM 3) (aM 4) (aM 5) (aM 6) (aM 7) (aM 8) (aM 9) (aM 10) (aM 11) (aM 12) (aM 13) (aM 14) (aM 15) (aM 16) (aM 17) (aM 18) (aM 19) (aM 20) (aM 21) (aM 22) (aM 23) (aM 24) (xs 1) 0 0 0 0 0 0 0 0 (-1) 0 0 0 0 0 0 0 0 0 0 0 0 0 0 0 0 0 0 0 0 0 _) okV_X12_joined kM_L_144 rfl (z_pV (q0 := 0) hK hN hP hD [0] rfl rfl rfl rfl rfl) rfl hl.1 rfl (Nat.le_of_ble_eq_true rfl) dL_law_1575 rfl) hP hD hS hA [0] [] rfl rfl rfl rfl (fun r2 u2 H locs hw2 hP hD hS => ?_)
  obtain ⟨i2, a2⟩ := u2
  dsimp only at hw2
  obtain ⟨rfl, rfl⟩ := hw2
  have hP : va_P D vwCl [] H := hP
  have hD : va_D (fun q : Nat => s.heap.size ≤ q) [] := hD
  refine lv_icmp_eq (tgt := 2078) hx hb dL_law_1578 (by decide) (fun _ => ?_) (fun c3 => absurd (by decide) c3)
  exact law_end hC (Nat.le_of_ble_eq_true rfl) (Nat.le_of_ble_eq_true rfl) hS (lv_sub hl [0, 3] rfl)

set_option maxHeartbeats 4000000 in
set_option maxRecDepth 100000 in
theorem law_case_31 {p : Program} {l : Launch} {e : Env} {s : State} {m : MethodId} {below : List Frame} {meth : Method} {c : Code} {D : va_G} {k : Nat → ClassId} {b : Nat} {xs : Nat → Int32} (hC : law_C p s m meth c D k b 7 xs) {hX hM : Nat} {aX aM : Nat → Nat} {H : Heap} {locs : List Loc} {ls : Array Slot} (hP : va_P D vwCl (WX k hX aX ++ WM k hM aM) H) (hD : va_D (fun q : Nat => s.heap.size ≤ q) (WX k hX aX ++ WM k hM aM)) (hS : va_S (fun q : Nat => s.heap.size ≤ q) s.heap H locs) (hl : lv_has ls 4 [(0, .ref b), (1, .ref hX), (2, .ref hM), (3, .int 0)]) : W p l e room_1 s m #[Value.ref b] below meth c H locs 100 106558 (lw_Z below #[Value.ref b] s) (F0 m 1583 ls []) := by
  obtain ⟨C0, hr, hlk, hXx, hbl, hK, hN⟩ := id hC
  have hx := C0.1
  have hb := C0.2.1
  have hml := C0.2.2.1
  have hown := C0.2.2.2.1
  have hts := C0.2.2.2.2
  have hA : ∀ q : Nat, s.heap.size ≤ q → (fun q : Nat => s.heap.size ≤ q) q := fun _ h => h
  have hbA : ¬ (fun q : Nat => s.heap.size ≤ q) b := Nat.not_le.mpr hbl
  refine lv_aload_n hx hb dL_law_1583 rfl (lv_at hl 1 rfl) ?_
  refine lv_aload_n hx hb dL_law_1584 rfl (lv_at hl 0 rfl) ?_
  refine lv_iload_n hx hb dL_law_1585 rfl (lv_at hl 3 rfl) ?_
  refine lv_iconst (v := 1) hx hb dL_law_1586 (by decide) ?_
  refine lv_iadd hx hb dL_law_1587 ?_
  refine lv_toc (v := 1) (by decide) ?_
  refine z_sld hx hb hXx hbl hbA hS 1 (by decide) (by unfold vp_in; decide) dL_law_1588 ?_
  refine lv_aload_n hx hb dL_law_1589 rfl (lv_at hl 0 rfl) ?_
  refine lv_iload_n hx hb dL_law_1590 rfl (lv_at hl 3 rfl) ?_
  refine lv_iconst (v := 2) hx hb dL_law_1591 (by decide) ?_
  refine lv_iadd hx hb dL_law_1592 ?_
  refine lv_toc (v := 2) (by decide) ?_
  refine z_sld hx hb hXx hbl hbA hS 2 (by decide) (by unfold vp_in; decide) dL_law_1593 ?_
  refine z_bi (wr := [(hM, .inr (12, [.int 0, .int 0, .ref (aM 0), .ref (aM 1), .ref (aM 2), .int 0, .ref (aM 3), .ref (aM 4), .ref (aM 5), .ref (aM 6), .ref (aM 7), .int 0, .int 0, .int 0, .int 0, .long 0, .int (-1), .int 0, .int 0, .ref (aM 8), .int 0, .ref (aM 9), .ref (aM 10), .int 0, .ref (aM 11), .ref (aM 12), .int 0, .int 0, .ref (aM 13), .ref (aM 14), .ref (aM 15), .ref (aM 16), .int 0, .long 0, .long 0, .int 0, .int 0, .int 0, .int 0, .ref (aM 17), .ref (aM 18), .int 0, .int 0, .int 0, .int 0, .ref (aM 19), .ref (aM 20), .int 0, .int 0, .ref (aM 21), .ref (aM 22), .ref (aM 23), .ref (aM 24), .int 0, .int 0, .int 0])), ((aM 0), .inl (k 0, 27101, .inl (fun _ => 0)))]) (z_runV (C := RX11) (As := [.int (xs 1), .int (xs 2)]) (rest := []) C0 (c_X11_judge_1 l D k hX (aX 65) (aX 40) (aX 0) (aX 50) (aX 51) (aX 57) (aX 1) (aX 66) (aX 67) (aX 68) (aX 69) (aX 70) (aX 71) (aX 72) (aX 41) (aX 42) (aX 43) (aX 44) (aX 45) (aX 46) (aX 47) (aX 48) (aX 49) (xs 1) (xs 2) 0 0 (-1) 0 0 0 0 0 0 _) okV_X11_judge kM_L_145 rfl (z_pV (q0 := 0) hK hN hP hD [0, 66, 41] rfl rfl rfl rfl rfl) rfl hl.1 rfl (Nat.le_of_ble_eq_true rfl) dL_law_1594 rfl) hP hD hS hA [0, 66, 41] [74, 75] rfl rfl rfl rfl (fun r1 u1 H locs hw1 hP hD hS => ?_)
  obtain ⟨i1, a1⟩ := u1
  dsimp only at hw1
  rcases hw1 with ⟨rfl, rfl, c1⟩ | ⟨rfl, rfl, c1⟩
  · have hP : va_P D vwCl [(hM, .inr (12, [.int 0, .int 0, .ref (aM 0), .ref (aM 1), .ref (aM 2), .int 0, .ref (aM 3), .ref (aM 4), .ref (aM 5), .ref (aM 6), .ref (aM 7), .int 0, .int 0, .int 0, .int 0, .long 0, .int (-1), .int 0, .int 0, .ref (aM 8), .int 0, .ref (aM 9), .ref (aM 10), .int 0, .ref (aM 11), .ref (aM 12), .int 0, .int 0, .ref (aM 13), .ref (aM 14), .ref (aM 15), .ref (aM 16), .int 0, .long 0, .long 0, .int 0, .int 0, .int 0, .int 0, .ref (aM 17), .ref (aM 18), .int 0, .int 0, .int 0, .int 0, .ref (aM 19), .ref (aM 20), .int 0, .int 0, .ref (aM 21), .ref (aM 22), .ref (aM 23), .ref (aM 24), .int 0, .int 0, .int 0])), ((aM 0), .inl (k 0, 27101, .inl (fun _ => 0)))] H := hP
    have hD : va_D (fun q : Nat => s.heap.size ≤ q) [(hM, .inr (12, [.int 0, .int 0, .ref (aM 0), .ref (aM 1), .ref (aM 2), .int 0, .ref (aM 3), .ref (aM 4), .ref (aM 5), .ref (aM 6), .ref (aM 7), .int 0, .int 0, .int 0, .int 0, .long 0, .int (-1), .int 0, .int 0, .ref (aM 8), .int 0, .ref (aM 9), .ref (aM 10), .int 0, .ref (aM 11), .ref (aM 12), .int 0, .int 0, .ref (aM 13), .ref (aM 14), .ref (aM 15), .ref (aM 16), .int 0, .long 0, .long 0, .int 0, .int 0, .int 0, .int 0, .ref (aM 17), .ref (aM 18), .int 0, .int 0, .int 0, .int 0, .ref (aM 19), .ref (aM 20), .int 0, .int 0, .ref (aM 21), .ref (aM 22), .ref (aM 23), .ref (aM 24), .int 0, .int 0, .int 0])), ((aM 0), .inl (k 0, 27101, .inl (fun _ => 0)))] := hD
    refine lv_aload_n hx hb dL_law_1597 rfl (lv_at hl 2 rfl) ?_
    refine lv_aload_n hx hb dL_law_1598 rfl (lv_at hl 0 rfl) ?_
    refine lv_iload_n hx hb dL_law_1599 rfl (lv_at hl 3 rfl) ?_
    refine lv_iconst (v := 1) hx hb dL_law_1600 (by decide) ?_
    refine lv_iadd hx hb dL_law_1601 ?_
    refine lv_toc (v := 1) (by decide) ?_
    refine z_sld hx hb hXx hbl hbA hS 1 (by decide) (by unfold vp_in; decide) dL_law_1602 ?_
    refine lv_aload_n hx hb dL_law_1603 rfl (lv_at hl 0 rfl) ?_
    refine lv_iload_n hx hb dL_law_1604 rfl (lv_at hl 3 rfl) ?_
    refine lv_iconst (v := 2) hx hb dL_law_1605 (by decide) ?_
    refine lv_iadd hx hb dL_law_1606 ?_
    refine lv_toc (v := 2) (by decide) ?_
    refine z_sld hx hb hXx hbl hbA hS 2 (by decide) (by unfold vp_in; decide) dL_law_1607 ?_
    refine z_bi (wr := []) (z_runV (C := RX12) (As := [.int (xs 1), .int (xs 2)]) (rest := [.int (-1)]) C0 (c_X12_judge_1 l D k hM (aM 0) (aM 1) (aM 2) (aM 3) (aM 4) (aM 5) (aM 6) (aM 7) (aM 8) (aM 9) (aM 10) (aM 11) (aM 12) (aM 13) (aM 14) (aM 15) (aM 16) (aM 17) (aM 18) (aM 19) (aM 20) (aM 21) (aM 22) (aM 23) (aM 24) (xs 1) (xs 2) 0 0 0 0 0 0 0 0 (-1) 0 0 0 0 0 0 0 0 0 0 0 0 0 0 0 0 0 0 0 0 0 _) okV_X12_judge kM_L_148 rfl (z_pV (q0 := 0) hK hN hP hD [0, 1] rfl rfl rfl rfl rfl) rfl hl.1 rfl (Nat.le_of_ble_eq_true rfl) dL_law_1608 rfl) hP hD hS hA [0, 1] [] rfl rfl rfl rfl (fun r2 u2 H locs hw2 hP hD hS => ?_)
    obtain ⟨i2, a2⟩ := u2
    dsimp only at hw2
    rcases hw2 with ⟨rfl, rfl, c2⟩ | ⟨rfl, rfl, c2⟩
    · have hP : va_P D vwCl [] H := hP
      have hD : va_D (fun q : Nat => s.heap.size ≤ q) [] := hD
      refine lv_icmp_eq (tgt := 2078) hx hb dL_law_1611 (by decide) (fun _ => ?_) (fun c3 => absurd (by decide) c3)
      exact law_end hC (Nat.le_of_ble_eq_true rfl) (Nat.le_of_ble_eq_true rfl) hS (lv_sub hl [0, 3] rfl)
    · have hP : va_P D vwCl [] H := hP
      have hD : va_D (fun q : Nat => s.heap.size ≤ q) [] := hD
      exact (show False by have bA0 := Int32.le_toInt (xs 1); have bB0 := Int32.toInt_lt (xs 1); have bA1 := Int32.le_toInt (xs 2); have bB1 := Int32.toInt_lt (xs 2); revert c1 c2; simp only [vp_in_iff, Int32.lt_iff_toInt_lt, Int32.le_iff_toInt_le, Int64.lt_iff_toInt_lt, Int64.le_iff_toInt_le, Int32.toInt_toInt64, ← Int32.toInt_inj, ← Int64.toInt_inj, Int32.reduceToInt, Int64.reduceToInt] <;> omega).elim
  · have hP : va_P D vwCl [(hM, .inr (12, [.int 0, .int 0, .ref (aM 0), .ref (aM 1), .ref (aM 2), .int 0, .ref (aM 3), .ref (aM 4), .ref (aM 5), .ref (aM 6), .ref (aM 7), .int 0, .int 0, .int 0, .int 0, .long 0, .int (-1), .int 0, .int 0, .ref (aM 8), .int 0, .ref (aM 9), .ref (aM 10), .int 0, .ref (aM 11), .ref (aM 12), .int 0, .int 0, .ref (aM 13), .ref (aM 14), .ref (aM 15), .ref (aM 16), .int 0, .long 0, .long 0, .int 0, .int 0, .int 0, .int 0, .ref (aM 17), .ref (aM 18), .int 0, .int 0, .int 0, .int 0, .ref (aM 19), .ref (aM 20), .int 0, .int 0, .ref (aM 21), .ref (aM 22), .ref (aM 23), .ref (aM 24), .int 0, .int 0, .int 0])), ((aM 0), .inl (k 0, 27101, .inl (fun _ => 0)))] H := hP
    have hD : va_D (fun q : Nat => s.heap.size ≤ q) [(hM, .inr (12, [.int 0, .int 0, .ref (aM 0), .ref (aM 1), .ref (aM 2), .int 0, .ref (aM 3), .ref (aM 4), .ref (aM 5), .ref (aM 6), .ref (aM 7), .int 0, .int 0, .int 0, .int 0, .long 0, .int (-1), .int 0, .int 0, .ref (aM 8), .int 0, .ref (aM 9), .ref (aM 10), .int 0, .ref (aM 11), .ref (aM 12), .int 0, .int 0, .ref (aM 13), .ref (aM 14), .ref (aM 15), .ref (aM 16), .int 0, .long 0, .long 0, .int 0, .int 0, .int 0, .int 0, .ref (aM 17), .ref (aM 18), .int 0, .int 0, .int 0, .int 0, .ref (aM 19), .ref (aM 20), .int 0, .int 0, .ref (aM 21), .ref (aM 22), .ref (aM 23), .ref (aM 24), .int 0, .int 0, .int 0])), ((aM 0), .inl (k 0, 27101, .inl (fun _ => 0)))] := hD
    refine lv_aload_n hx hb dL_law_1597 rfl (lv_at hl 2 rfl) ?_
    refine lv_aload_n hx hb dL_law_1598 rfl (lv_at hl 0 rfl) ?_
    refine lv_iload_n hx hb dL_law_1599 rfl (lv_at hl 3 rfl) ?_
    refine lv_iconst (v := 1) hx hb dL_law_1600 (by decide) ?_
    refine lv_iadd hx hb dL_law_1601 ?_
    refine lv_toc (v := 1) (by decide) ?_
    refine z_sld hx hb hXx hbl hbA hS 1 (by decide) (by unfold vp_in; decide) dL_law_1602 ?_
    refine lv_aload_n hx hb dL_law_1603 rfl (lv_at hl 0 rfl) ?_
    refine lv_iload_n hx hb dL_law_1604 rfl (lv_at hl 3 rfl) ?_
    refine lv_iconst (v := 2) hx hb dL_law_1605 (by decide) ?_
    refine lv_iadd hx hb dL_law_1606 ?_
    refine lv_toc (v := 2) (by decide) ?_
    refine z_sld hx hb hXx hbl hbA hS 2 (by decide) (by unfold vp_in; decide) dL_law_1607 ?_
    refine z_bi (wr := []) (z_runV (C := RX12) (As := [.int (xs 1), .int (xs 2)]) (rest := [.int 0]) C0 (c_X12_judge_1 l D k hM (aM 0) (aM 1) (aM 2) (aM 3) (aM 4) (aM 5) (aM 6) (aM 7) (aM 8) (aM 9) (aM 10) (aM 11) (aM 12) (aM 13) (aM 14) (aM 15) (aM 16) (aM 17) (aM 18) (aM 19) (aM 20) (aM 21) (aM 22) (aM 23) (aM 24) (xs 1) (xs 2) 0 0 0 0 0 0 0 0 (-1) 0 0 0 0 0 0 0 0 0 0 0 0 0 0 0 0 0 0 0 0 0 _) okV_X12_judge kM_L_148 rfl (z_pV (q0 := 0) hK hN hP hD [0, 1] rfl rfl rfl rfl rfl) rfl hl.1 rfl (Nat.le_of_ble_eq_true rfl) dL_law_1608 rfl) hP hD hS hA [0, 1] [] rfl rfl rfl rfl (fun r4 u4 H locs hw4 hP hD hS => ?_)
    obtain ⟨i4, a4⟩ := u4
    dsimp only at hw4
    rcases hw4 with ⟨rfl, rfl, c4⟩ | ⟨rfl, rfl, c4⟩
    · have hP : va_P D vwCl [] H := hP
      have hD : va_D (fun q : Nat => s.heap.size ≤ q) [] := hD
      exact (show False by have bA0 := Int32.le_toInt (xs 1); have bB0 := Int32.toInt_lt (xs 1); have bA1 := Int32.le_toInt (xs 2); have bB1 := Int32.toInt_lt (xs 2); revert c1 c4; simp only [vp_in_iff, Int32.lt_iff_toInt_lt, Int32.le_iff_toInt_le, Int64.lt_iff_toInt_lt, Int64.le_iff_toInt_le, Int32.toInt_toInt64, ← Int32.toInt_inj, ← Int64.toInt_inj, Int32.reduceToInt, Int64.reduceToInt] <;> omega).elim
    · have hP : va_P D vwCl [] H := hP
      have hD : va_D (fun q : Nat => s.heap.size ≤ q) [] := hD
      refine lv_icmp_eq (tgt := 2078) hx hb dL_law_1611 (by decide) (fun _ => ?_) (fun c5 => absurd (by decide) c5)
      exact law_end hC (Nat.le_of_ble_eq_true rfl) (Nat.le_of_ble_eq_true rfl) hS (lv_sub hl [0, 3] rfl)
