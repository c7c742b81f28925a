set_option maxHeartbeats 4000000 in
set_option maxRecDepth 100000 in
theorem law_case_32 {p : Program} {l : Launch} {e : Env} {s : State} {m : MethodId} {below : List Frame} {meth : Method} {c : Code} {D : va_G} {k : Nat → ClassId} {b : Nat} {xs : Nat → Int32} (hC : law_C p s m meth c D k b 7 xs) {hX hM : Nat} {aX aM : Nat → Nat} {H : Heap} {locs : List Loc} {ls : Array Slot} (hP : va_P D vwCl (WX k hX aX ++ WM k hM aM) H) (hD : va_D (fun q : Nat => s.heap.size ≤ q) (WX k hX aX ++ WM k hM aM)) (hS : va_S (fun q : Nat => s.heap.size ≤ q) s.heap H locs) (hl : lv_has ls 4 [(0, .ref b), (1, .ref hX), (2, .ref hM), (3, .int 0)]) : W p l e room_1 s m #[Value.ref b] below meth c H locs 100 106558 (lw_Z below #[Value.ref b] s) (F0 m 1616 ls []) := by
  obtain ⟨C0, hr, hlk, hXx, hbl, hK, hN⟩ := id hC
  have hx := C0.1
  have hb := C0.2.1
  have hml := C0.2.2.1
  have hown := C0.2.2.2.1
  have hts := C0.2.2.2.2
  have hA : ∀ q : Nat, s.heap.size ≤ q → (fun q : Nat => s.heap.size ≤ q) q := fun _ h => h
  have hbA : ¬ (fun q : Nat => s.heap.size ≤ q) b := Nat.not_le.mpr hbl
  refine lv_aload_n hx hb dL_law_1616 rfl (lv_at hl 1 rfl) ?_
  refine lv_aload_n hx hb dL_law_1617 rfl (lv_at hl 0 rfl) ?_
  refine lv_iload_n hx hb dL_law_1618 rfl (lv_at hl 3 rfl) ?_
  refine lv_iconst (v := 1) hx hb dL_law_1619 (by decide) ?_
  refine lv_iadd hx hb dL_law_1620 ?_
  refine lv_toc (v := 1) (by decide) ?_
  refine z_sld hx hb hXx hbl hbA hS 1 (by decide) (by unfold vp_in; decide) dL_law_1621 ?_
  refine lv_aload_n hx hb dL_law_1622 rfl (lv_at hl 0 rfl) ?_
  refine lv_iload_n hx hb dL_law_1623 rfl (lv_at hl 3 rfl) ?_
  refine lv_iconst (v := 2) hx hb dL_law_1624 (by decide) ?_
  refine lv_iadd hx hb dL_law_1625 ?_
  refine lv_toc (v := 2) (by decide) ?_
  refine z_sld hx hb hXx hbl hbA hS 2 (by decide) (by unfold vp_in; decide) dL_law_1626 ?_
  refine lv_aload_n hx hb dL_law_1627 rfl (lv_at hl 0 rfl) ?_
  refine lv_iload_n hx hb dL_law_1628 rfl (lv_at hl 3 rfl) ?_
  refine lv_iconst (v := 3) hx hb dL_law_1629 (by decide) ?_
  refine lv_iadd hx hb dL_law_1630 ?_
  refine lv_toc (v := 3) (by decide) ?_
  refine z_sld hx hb hXx hbl hbA hS 3 (by decide) (by unfold vp_in; decide) dL_law_1631 ?_
  refine lv_aload_n hx hb dL_law_1632 rfl (lv_at hl 0 rfl) ?_
  refine lv_iload_n hx hb dL_law_1633 rfl (lv_at hl 3 rfl) ?_
  refine lv_iconst (v := 4) hx hb dL_law_1634 (by decide) ?_
  refine lv_iadd hx hb dL_law_1635 ?_
  refine lv_toc (v := 4) (by decide) ?_
  refine z_sld hx hb hXx hbl hbA hS 4 (by decide) (by unfold vp_in; decide) dL_law_1636 ?_
  refine z_bi (wr := [(hM, .inr (12, [.int 0, .int 0, .ref (aM 0), .ref (aM 1), .ref (aM 2), .int 0, .ref (aM 3), .ref (aM 4), .ref (aM 5), .ref (aM 6), .ref (aM 7), .int 0, .int 0, .int 0, .int 0, .long 0, .int (-1), .int 0, .int 0, .ref (aM 8), .int 0, .ref (aM 9), .ref (aM 10), .int 0, .ref (aM 11), .ref (aM 12), .int 0, .int 0, .ref (aM 13), .ref (aM 14), .ref (aM 15), .ref (aM 16), .int 0, .long 0, .long 0, .int 0, .int 0, .int 0, .int 0, .ref (aM 17), .ref (aM 18), .int 0, .int 0, .int 0, .int 0, .ref (aM 19), .ref (aM 20), .int 0, .int 0, .ref (aM 21), .ref (aM 22), .ref (aM 23), .ref (aM 24), .int 0, .int 0, .int 0])), ((aM 0), .inl (k 0, 27101, .inl (fun _ => 0)))]) (z_runV (C := RX11) (As := [.int (xs 1), .int (xs 2), .int (xs 3), .int (xs 4)]) (rest := []) C0 (c_X11_cannot_1 l D k hX (aX 57) (aX 0) (aX 20) (aX 50) (aX 51) (aX 65) (aX 58) (aX 59) (aX 60) (aX 61) (aX 62) (aX 63) (aX 64) (aX 1) (aX 14) (aX 33) (aX 36) (aX 40) (aX 21) (aX 22) (aX 23) (aX 24) (aX 25) (aX 26) (aX 27) (aX 28) (aX 29) (aX 30) (aX 31) (aX 32) (xs 1) (xs 2) (xs 3) (xs 4) 0 0 0 0 0 0 0 0 0 0 0 0 0 0 _) okV_X11_cannot kM_L_149 rfl (z_pV (q0 := 0) hK hN hP hD [0, 58, 1, 21] rfl rfl rfl rfl rfl) rfl hl.1 rfl (Nat.le_of_ble_eq_true rfl) dL_law_1637 rfl) hP hD hS hA [0, 58, 1, 21] [74, 75] rfl rfl rfl rfl (fun r1 u1 H locs hw1 hP hD hS => ?_)
  obtain ⟨i1, a1⟩ := u1
  dsimp only at hw1
  rcases hw1 with ⟨rfl, rfl, c1⟩ | ⟨rfl, rfl, c1⟩
  · have hP : va_P D vwCl [(hM, .inr (12, [.int 0, .int 0, .ref (aM 0), .ref (aM 1), .ref (aM 2), .int 0, .ref (aM 3), .ref (aM 4), .ref (aM 5), .ref (aM 6), .ref (aM 7), .int 0, .int 0, .int 0, .int 0, .long 0, .int (-1), .int 0, .int 0, .ref (aM 8), .int 0, .ref (aM 9), .ref (aM 10), .int 0, .ref (aM 11), .ref (aM 12), .int 0, .int 0, .ref (aM 13), .ref (aM 14), .ref (aM 15), .ref (aM 16), .int 0, .long 0, .long 0, .int 0, .int 0, .int 0, .int 0, .ref (aM 17), .ref (aM 18), .int 0, .int 0, .int 0, .int 0, .ref (aM 19), .ref (aM 20), .int 0, .int 0, .ref (aM 21), .ref (aM 22), .ref (aM 23), .ref (aM 24), .int 0, .int 0, .int 0])), ((aM 0), .inl (k 0, 27101, .inl (fun _ => 0)))] H := hP
    have hD : va_D (fun q : Nat => s.heap.size ≤ q) [(hM, .inr (12, [.int 0, .int 0, .ref (aM 0), .ref (aM 1), .ref (aM 2), .int 0, .ref (aM 3), .ref (aM 4), .ref (aM 5), .ref (aM 6), .ref (aM 7), .int 0, .int 0, .int 0, .int 0, .long 0, .int (-1), .int 0, .int 0, .ref (aM 8), .int 0, .ref (aM 9), .ref (aM 10), .int 0, .ref (aM 11), .ref (aM 12), .int 0, .int 0, .ref (aM 13), .ref (aM 14), .ref (aM 15), .ref (aM 16), .int 0, .long 0, .long 0, .int 0, .int 0, .int 0, .int 0, .ref (aM 17), .ref (aM 18), .int 0, .int 0, .int 0, .int 0, .ref (aM 19), .ref (aM 20), .int 0, .int 0, .ref (aM 21), .ref (aM 22), .ref (aM 23), .ref (aM 24), .int 0, .int 0, .int 0])), ((aM 0), .inl (k 0, 27101, .inl (fun _ => 0)))] := hD
    refine lv_aload_n hx hb dL_law_1640 rfl (lv_at hl 2 rfl) ?_
    refine lv_aload_n hx hb dL_law_1641 rfl (lv_at hl 0 rfl) ?_
    refine lv_iload_n hx hb dL_law_1642 rfl (lv_at hl 3 rfl) ?_
    refine lv_iconst (v := 1) hx hb dL_law_1643 (by decide) ?_
    refine lv_iadd hx hb dL_law_1644 ?_
    refine lv_toc (v := 1) (by decide) ?_
    refine z_sld hx hb hXx hbl hbA hS 1 (by decide) (by unfold vp_in; decide) dL_law_1645 ?_
    refine lv_aload_n hx hb dL_law_1646 rfl (lv_at hl 0 rfl) ?_
    refine lv_iload_n hx hb dL_law_1647 rfl (lv_at hl 3 rfl) ?_
    refine lv_iconst (v := 2) hx hb dL_law_1648 (by decide) ?_
    refine lv_iadd hx hb dL_law_1649 ?_
    refine lv_toc (v := 2) (by decide) ?_
    refine z_sld hx hb hXx hbl hbA hS 2 (by decide) (by unfold vp_in; decide) dL_law_1650 ?_
    refine lv_aload_n hx hb dL_law_1651 rfl (lv_at hl 0 rfl) ?_
    refine lv_iload_n hx hb dL_law_1652 rfl (lv_at hl 3 rfl) ?_
    refine lv_iconst (v := 3) hx hb dL_law_1653 (by decide) ?_
    refine lv_iadd hx hb dL_law_1654 ?_
    refine lv_toc (v := 3) (by decide) ?_
    refine z_sld hx hb hXx hbl hbA hS 3 (by decide) (by unfold vp_in; decide) dL_law_1655 ?_
    refine lv_aload_n hx hb dL_law_1656 rfl (lv_at hl 0 rfl) ?_
    refine lv_iload_n hx hb dL_law_1657 rfl (lv_at hl 3 rfl) ?_
    refine lv_iconst (v := 4) hx hb dL_law_1658 (by decide) ?_
    refine lv_iadd hx hb dL_law_1659 ?_
    refine lv_toc (v := 4) (by decide) ?_
    refine z_sld hx hb hXx hbl hbA hS 4 (by decide) (by unfold vp_in; decide) dL_law_1660 ?_
    refine z_bi (wr := []) (z_runV (C := RX12) (As := [.int (xs 1), .int (xs 2), .int (xs 3), .int (xs 4)]) (rest := [.int (-1)]) C0 (c_X12_cannot_1 l D k hM (aM 0) (aM 1) (aM 2) (aM 3) (aM 4) (aM 5) (aM 6) (aM 7) (aM 8) (aM 9) (aM 10) (aM 11) (aM 12) (aM 13) (aM 14) (aM 15) (aM 16) (aM 17) (aM 18) (aM 19) (aM 20) (aM 21) (aM 22) (aM 23) (aM 24) (xs 1) (xs 2) (xs 3) (xs 4) 0 0 0 0 0 0 0 0 (-1) 0 0 0 0 0 0 0 0 0 0 0 0 0 0 0 0 0 0 0 0 0 0 _) okV_X12_cannot kM_L_152 rfl (z_pV (q0 := 0) hK hN hP hD [0, 1] rfl rfl rfl rfl rfl) rfl hl.1 rfl (Nat.le_of_ble_eq_true rfl) dL_law_1661 rfl) hP hD hS hA [0, 1] [] rfl rfl rfl rfl (fun r2 u2 H locs hw2 hP hD hS => ?_)
    obtain ⟨i2, a2⟩ := u2
    dsimp only at hw2
    rcases hw2 with ⟨rfl, rfl, c2⟩ | ⟨rfl, rfl, c2⟩
    · have hP : va_P D vwCl [] H := hP
      have hD : va_D (fun q : Nat => s.heap.size ≤ q) [] := hD
      refine lv_icmp_eq (tgt := 2078) hx hb dL_law_1664 (by decide) (fun _ => ?_) (fun c3 => absurd (by decide) c3)
      exact law_end hC (Nat.le_of_ble_eq_true rfl) (Nat.le_of_ble_eq_true rfl) hS (lv_sub hl [0, 3] rfl)
    · have hP : va_P D vwCl [] H := hP
      have hD : va_D (fun q : Nat => s.heap.size ≤ q) [] := hD
      exact (show False by have bA0 := Int32.le_toInt (xs 1); have bB0 := Int32.toInt_lt (xs 1); have bA1 := Int32.le_toInt (xs 2); have bB1 := Int32.toInt_lt (xs 2); have bA2 := Int32.le_toInt (xs 3); have bB2 := Int32.toInt_lt (xs 3); have bA3 := Int32.le_toInt (xs 4); have bB3 := Int32.toInt_lt (xs 4); revert c1 c2; simp only [vp_in_iff, Int32.lt_iff_toInt_lt, Int32.le_iff_toInt_le, Int64.lt_iff_toInt_lt, Int64.le_iff_toInt_le, Int32.toInt_toInt64, ← Int32.toInt_inj, ← Int64.toInt_inj, Int32.reduceToInt, Int64.reduceToInt] <;> omega).elim
  · have hP : va_P D vwCl [(hM, .inr (12, [.int 0, .int 0, .ref (aM 0), .ref (aM 1), .ref (aM 2), .int 0, .ref (aM 3), .ref (aM 4), .ref (aM 5), .ref (aM 6), .ref (aM 7), .int 0, .int 0, .int 0, .int 0, .long 0, .int (-1), .int 0, .int 0, .ref (aM 8), .int 0, .ref (aM 9), .ref (aM 10), .int 0, .ref (aM 11), .ref (aM 12), .int 0, .int 0, .ref (aM 13), .ref (aM 14), .ref (aM 15), .ref (aM 16), .int 0, .long 0, .long 0, .int 0, .int 0, .int 0, .int 0, .ref (aM 17), .ref (aM 18), .int 0, .int 0, .int 0, .int 0, .ref (aM 19), .ref (aM 20), .int 0, .int 0, .ref (aM 21), .ref (aM 22), .ref (aM 23), .ref (aM 24), .int 0, .int 0, .int 0])), ((aM 0), .inl (k 0, 27101, .inl (fun _ => 0)))] H := hP
    have hD : va_D (fun q : Nat => s.heap.size ≤ q) [(hM, .inr (12, [.int 0, .int 0, .ref (aM 0), .ref (aM 1), .ref (aM 2), .int 0, .ref (aM 3), .ref (aM 4), .ref (aM 5), .ref (aM 6), .ref (aM 7), .int 0, .int 0, .int 0, .int 0, .long 0, .int (-1), .int 0, .int 0, .ref (aM 8), .int 0, .ref (aM 9), .ref (aM 10), .int 0, .ref (aM 11), .ref (aM 12), .int 0, .int 0, .ref (aM 13), .ref (aM 14), .ref (aM 15), .ref (aM 16), .int 0, .long 0, .long 0, .int 0, .int 0, .int 0, .int 0, .ref (aM 17), .ref (aM 18), .int 0, .int 0, .int 0, .int 0, .ref (aM 19), .ref (aM 20), .int 0, .int 0, .ref (aM 21), .ref (aM 22), .ref (aM 23), .ref (aM 24), .int 0, .int 0, .int 0])), ((aM 0), .inl (k 0, 27101, .inl (fun _ => 0)))] := hD
    refine lv_aload_n hx hb dL_law_1640 rfl (lv_at hl 2 rfl) ?_
    refine lv_aload_n hx hb dL_law_1641 rfl (lv_at hl 0 rfl) ?_
    refine lv_iload_n hx hb dL_law_1642 rfl (lv_at hl 3 rfl) ?_
    refine lv_iconst (v := 1) hx hb dL_law_1643 (by decide) ?_
    refine lv_iadd hx hb dL_law_1644 ?_
    refine lv_toc (v := 1) (by decide) ?_
    refine z_sld hx hb hXx hbl hbA hS 1 (by decide) (by unfold vp_in; decide) dL_law_1645 ?_
    refine lv_aload_n hx hb dL_law_1646 rfl (lv_at hl 0 rfl) ?_
    refine lv_iload_n hx hb dL_law_1647 rfl (lv_at hl 3 rfl) ?_
    refine lv_iconst (v := 2) hx hb dL_law_1648 (by decide) ?_
    refine lv_iadd hx hb dL_law_1649 ?_
    refine lv_toc (v := 2) (by decide) ?_
    refine z_sld hx hb hXx hbl hbA hS 2 (by decide) (by unfold vp_in; decide) dL_law_1650 ?_
    refine lv_aload_n hx hb dL_law_1651 rfl (lv_at hl 0 rfl) ?_
    refine lv_iload_n hx hb dL_law_1652 rfl (lv_at hl 3 rfl) ?_
    refine lv_iconst (v := 3) hx hb dL_law_1653 (by decide) ?_
    refine lv_iadd hx hb dL_law_1654 ?_
    refine lv_toc (v := 3) (by decide) ?_
    refine z_sld hx hb hXx hbl hbA hS 3 (by decide) (by unfold vp_in; decide) dL_law_1655 ?_
    refine lv_aload_n hx hb dL_law_1656 rfl (lv_at hl 0 rfl) ?_
    refine lv_iload_n hx hb dL_law_1657 rfl (lv_at hl 3 rfl) ?_
    refine lv_iconst (v := 4) hx hb dL_law_1658 (by decide) ?_
    refine lv_iadd hx hb dL_law_1659 ?_
    refine lv_toc (v := 4) (by decide) ?_
    refine z_sld hx hb hXx hbl hbA hS 4 (by decide) (by unfold vp_in; decide) dL_law_1660 ?_
    refine z_bi (wr := []) (z_runV (C := RX12) (As := [.int (xs 1), .int (xs 2), .int (xs 3), .int (xs 4)]) (rest := [.int 0]) C0 (c_X12_cannot_1 l D k hM (aM 0) (aM 1) (aM 2) (aM 3) (aM 4) (aM 5) (aM 6) (aM 7) (aM 8) (aM 9) (aM 10) (aM 11) (aM 12) (aM 13) (aM 14) (aM 15) (aM 16) (aM 17) (aM 18) (aM 19) (aM 20) (aM 21) (aM 22) (aM 23) (aM 24) (xs 1) (xs 2) (xs 3) (xs 4) 0 0 0 0 0 0 0 0 (-1) 0 0 0 0 0 0 0 0 0 0 0 0 0 0 0 0 0 0 0 0 0 0 _) okV_X12_cannot kM_L_152 rfl (z_pV (q0 := 0) hK hN hP hD [0, 1] rfl rfl rfl rfl rfl) rfl hl.1 rfl (Nat.le_of_ble_eq_true rfl) dL_law_1661 rfl) hP hD hS hA [0, 1] [] rfl rfl rfl rfl (fun r4 u4 H locs hw4 hP hD hS => ?_)
    obtain ⟨i4, a4⟩ := u4
    dsimp only at hw4
    rcases hw4 with ⟨rfl, rfl, c4⟩ | ⟨rfl, rfl, c4⟩
    · have hP : va_P D vwCl [] H := hP
      have hD : va_D (fun q : Nat => s.heap.size ≤ q) [] := hD
      exact (show False by have bA0 := Int32.le_toInt (xs 1); have bB0 := Int32.toInt_lt (xs 1); have bA1 := Int32.le_toInt (xs 2); have bB1 := Int32.toInt_lt (xs 2); have bA2 := Int32.le_toInt (xs 3); have bB2 := Int32.toInt_lt (xs 3); have bA3 := Int32.le_toInt (xs 4); have bB3 := Int32.toInt_lt (xs 4); revert c1 c4; simp only [vp_in_iff, Int32.lt_iff_toInt_lt, Int32.le_iff_toInt_le, Int64.lt_iff_toInt_lt, Int64.le_iff_toInt_le, Int32.toInt_toInt64, ← Int32.toInt_inj, ← Int64.toInt_inj, Int32.reduceToInt, Int64.reduceToInt] <;> omega).elim
    · have hP : va_P D vwCl [] H := hP
      have hD : va_D (fun q : Nat => s.heap.size ≤ q) [] := hD
      refine lv_icmp_eq (tgt := 2078) hx hb dL_law_1664 (by decide) (fun _ => ?_) (fun c5 => absurd (by decide) c5)
      exact law_end hC (Nat.le_of_ble_eq_true rfl) (Nat.le_of_ble_eq_true rfl) hS (lv_sub hl [0, 3] rfl)

set_option maxHeartbeats 4000000 in
set_option maxRecDepth 100000 in
theorem law_case_33 {p : Program} {l : Launch} {e : Env} {s : State} {m : MethodId} {below : List Frame} {meth : Method} {c : Code} {D : va_G} {k : Nat → ClassId} {b : Nat} {xs : Nat → Int32} (hC : law_C p s m meth c D k b 7 xs) {hX hM : Nat} {aX aM : Nat → Nat} {H : Heap} {locs : List Loc} {ls : Array Slot} (hP : va_P D vwCl (WX k hX aX ++ WM k hM aM) H) (hD : va_D (fun q : Nat => s.heap.size ≤ q) (WX k hX aX ++ WM k hM aM)) (hS : va_S (fun q : Nat => s.heap.size ≤ q) s.heap H locs) (hl : lv_has ls 4 [(0, .ref b), (1, .ref hX), (2, .ref hM), (3, .int 0)]) : W p l e room_1 s m #[Value.ref b] below meth c H locs 100 106558 (lw_Z below #[Value.ref b] s) (F0 m 1669 ls []) := by
  obtain ⟨C0, hr, hlk, hXx, hbl, hK, hN⟩ := id hC
  have hx := C0.1
  have hb := C0.2.1
  have hml := C0.2.2.1
  have hown := C0.2.2.2.1
  have hts := C0.2.2.2.2
  have hA : ∀ q : Nat, s.heap.size ≤ q → (fun q : Nat => s.heap.size ≤ q) q := fun _ h => h
  have hbA : ¬ (fun q : Nat => s.heap.size ≤ q) b := Nat.not_le.mpr hbl
  refine lv_aload_n hx hb dL_law_1669 rfl (lv_at hl 1 rfl) ?_
  refine lv_aload_n hx hb dL_law_1670 rfl (lv_at hl 0 rfl) ?_
  refine lv_iload_n hx hb dL_law_1671 rfl (lv_at hl 3 rfl) ?_
  refine lv_iconst (v := 1) hx hb dL_law_1672 (by decide) ?_
  refine lv_iadd hx hb dL_law_1673 ?_
  refine lv_toc (v := 1) (by decide) ?_
  refine z_sld hx hb hXx hbl hbA hS 1 (by decide) (by unfold vp_in; decide) dL_law_1674 ?_
  refine lv_aload_n hx hb dL_law_1675 rfl (lv_at hl 0 rfl) ?_
  refine lv_iload_n hx hb dL_law_1676 rfl (lv_at hl 3 rfl) ?_
  refine lv_iconst (v := 2) hx hb dL_law_1677 (by decide) ?_
  refine lv_iadd hx hb dL_law_1678 ?_
  refine lv_toc (v := 2) (by decide) ?_
  refine z_sld hx hb hXx hbl hbA hS 2 (by decide) (by unfold vp_in; decide) dL_law_1679 ?_
  refine lv_aload_n hx hb dL_law_1680 rfl (lv_at hl 0 rfl) ?_
  refine lv_iload_n hx hb dL_law_1681 rfl (lv_at hl 3 rfl) ?_
  refine lv_iconst (v := 3) hx hb dL_law_1682 (by decide) ?_
  refine lv_iadd hx hb dL_law_1683 ?_
  refine lv_toc (v := 3) (by decide) ?_
  refine z_sld hx hb hXx hbl hbA hS 3 (by decide) (by unfold vp_in; decide) dL_law_1684 ?_
  refine z_bi (wr := [(hM, .inr (12, [.int 0, .int 0, .ref (aM 0), .ref (aM 1), .ref (aM 2), .int 0, .ref (aM 3), .ref (aM 4), .ref (aM 5), .ref (aM 6), .ref (aM 7), .int 0, .int 0, .int 0, .int 0, .long 0, .int (-1), .int 0, .int 0, .ref (aM 8), .int 0, .ref (aM 9), .ref (aM 10), .int 0, .ref (aM 11), .ref (aM 12), .int 0, .int 0, .ref (aM 13), .ref (aM 14), .ref (aM 15), .ref (aM 16), .int 0, .long 0, .long 0, .int 0, .int 0, .int 0, .int 0, .ref (aM 17), .ref (aM 18), .int 0, .int 0, .int 0, .int 0, .ref (aM 19), .ref (aM 20), .int 0, .int 0, .ref (aM 21), .ref (aM 22), .ref (aM 23), .ref (aM 24), .int 0, .int 0, .int 0])), ((aM 0), .inl (k 0, 27101, .inl (fun _ => 0)))]) (z_runV (C := RX11) (As := [.int (xs 1), .int (xs 2), .int (xs 3)]) (rest := []) C0 (c_X11_visit_1 l D k hX (aX 0) (aX 1) (aX 50) (aX 51) (aX 57) (aX 65) (aX 14) (aX 20) (aX 33) (aX 36) (aX 40) (aX 2) (aX 3) (aX 4) (aX 5) (aX 6) (aX 7) (aX 8) (aX 9) (aX 10) (aX 11) (aX 12) (aX 13) (xs 1) (xs 2) (xs 3) 0 0 0 _) okV_X11_visit kM_L_153 rfl (z_pV (q0 := 0) hK hN hP hD [0, 1, 2] rfl rfl rfl rfl rfl) rfl hl.1 rfl (Nat.le_of_ble_eq_true rfl) dL_law_1685 rfl) hP hD hS hA [0, 1, 2] [74, 75] rfl rfl rfl rfl (fun r1 u1 H locs hw1 hP hD hS => ?_)
  obtain ⟨i1, a1⟩ := u1
  dsimp only at hw1
  rcases hw1 with ⟨rfl, rfl, c1⟩ | ⟨rfl, rfl, c1⟩
  · have hP : va_P D vwCl [(hM, .inr (12, [.int 0, .int 0, .ref (aM 0), .ref (aM 1), .ref (aM 2), .int 0, .ref (aM 3), .ref (aM 4), .ref (aM 5), .ref (aM 6), .ref (aM 7), .int 0, .int 0, .int 0, .int 0, .long 0, .int (-1), .int 0, .int 0, .ref (aM 8), .int 0, .ref (aM 9), .ref (aM 10), .int 0, .ref (aM 11), .ref (aM 12), .int 0, .int 0, .ref (aM 13), .ref (aM 14), .ref (aM 15), .ref (aM 16), .int 0, .long 0, .long 0, .int 0, .int 0, .int 0, .int 0, .ref (aM 17), .ref (aM 18), .int 0, .int 0, .int 0, .int 0, .ref (aM 19), .ref (aM 20), .int 0, .int 0, .ref (aM 21), .ref (aM 22), .ref (aM 23), .ref (aM 24), .int 0, .int 0, .int 0])), ((aM 0), .inl (k 0, 27101, .inl (fun _ => 0)))] H := hP
    have hD : va_D (fun q : Nat => s.heap.size ≤ q) [(hM, .inr (12, [.int 0, .int 0, .ref (aM 0), .ref (aM 1), .ref (aM 2), .int 0, .ref (aM 3), .ref (aM 4), .ref (aM 5), .ref (aM 6), .ref (aM 7), .int 0, .int 0, .int 0, .int 0, .long 0, .int (-1), .int 0, .int 0, .ref (aM 8), .int 0, .ref (aM 9), .ref (aM 10), .int 0, .ref (aM 11), .ref (aM 12), .int 0, .int 0, .ref (aM 13), .ref (aM 14), .ref (aM 15), .ref (aM 16), .int 0, .long 0, .long 0, .int 0, .int 0, .int 0, .int 0, .ref (aM 17), .ref (aM 18), .int 0, .int 0, .int 0, .int 0, .ref (aM 19), .ref (aM 20), .int 0, .int 0, .ref (aM 21), .ref (aM 22), .ref (aM 23), .ref (aM 24), .int 0, .int 0, .int 0])), ((aM 0), .inl (k 0, 27101, .inl (fun _ => 0)))] := hD
    refine lv_aload_n hx hb dL_law_1688 rfl (lv_at hl 2 rfl) ?_
    refine lv_aload_n hx hb dL_law_1689 rfl (lv_at hl 0 rfl) ?_
    refine lv_iload_n hx hb dL_law_1690 rfl (lv_at hl 3 rfl) ?_
    refine lv_iconst (v := 1) hx hb dL_law_1691 (by decide) ?_
    refine lv_iadd hx hb dL_law_1692 ?_
    refine lv_toc (v := 1) (by decide) ?_
    refine z_sld hx hb hXx hbl hbA hS 1 (by decide) (by unfold vp_in; decide) dL_law_1693 ?_
    refine lv_aload_n hx hb dL_law_1694 rfl (lv_at hl 0 rfl) ?_
    refine lv_iload_n hx hb dL_law_1695 rfl (lv_at hl 3 rfl) ?_
    refine lv_iconst (v := 2) hx hb dL_law_1696 (by decide) ?_
    refine lv_iadd hx hb dL_law_1697 ?_
    refine lv_toc (v := 2) (by decide) ?_
    refine z_sld hx hb hXx hbl hbA hS 2 (by decide) (by unfold vp_in; decide) dL_law_1698 ?_
    refine lv_aload_n hx hb dL_law_1699 rfl (lv_at hl 0 rfl) ?_
    refine lv_iload_n hx hb dL_law_1700 rfl (lv_at hl 3 rfl) ?_
    refine lv_iconst (v := 3) hx hb dL_law_1701 (by decide) ?_
    refine lv_iadd hx hb dL_law_1702 ?_
    refine lv_toc (v := 3) (by decide) ?_
    refine z_sld hx hb hXx hbl hbA hS 3 (by decide) (by unfold vp_in; decide) dL_law_1703 ?_
    refine z_bi (wr := []) (z_runV (C := RX12) (As := [.int (xs 1), .int (xs 2), .int (xs 3)]) (rest := [.int (-1)]) C0 (c_X12_visit_1 l D k hM (aM 0) (aM 1) (aM 2) (aM 3) (aM 4) (aM 5) (aM 6) (aM 7) (aM 8) (aM 9) (aM 10) (aM 11) (aM 12) (aM 13) (aM 14) (aM 15) (aM 16) (aM 17) (aM 18) (aM 19) (aM 20) (aM 21) (aM 22) (aM 23) (aM 24) (xs 1) (xs 2) (xs 3) 0 0 0 0 0 0 0 0 (-1) 0 0 0 0 0 0 0 0 0 0 0 0 0 0 0 0 0 0 0 0 0 0 _) okV_X12_visit kM_L_156 rfl (z_pV (q0 := 0) hK hN hP hD [0, 1] rfl rfl rfl rfl rfl) rfl hl.1 rfl (Nat.le_of_ble_eq_true rfl) dL_law_1704 rfl) hP hD hS hA [0, 1] [] rfl rfl rfl rfl (fun r2 u2 H locs hw2 hP hD hS => ?_)
    obtain ⟨i2, a2⟩ := u2
    dsimp only at hw2
    rcases hw2 with ⟨rfl, rfl, c2⟩ | ⟨rfl, rfl, c2⟩
    · have hP : va_P D vwCl [] H := hP
      have hD : va_D (fun q : Nat => s.heap.size ≤ q) [] := hD
      refine lv_icmp_eq (tgt := 2078) hx hb dL_law_1707 (by decide) (fun _ => ?_) (fun c3 => absurd (by decide) c3)
      exact law_end hC (Nat.le_of_ble_eq_true rfl) (Nat.le_of_ble_eq_true rfl) hS (lv_sub hl [0, 3] rfl)
    · have hP : va_P D vwCl [] H := hP
      have hD : va_D (fun q : Nat => s.heap.size ≤ q) [] := hD
      exact (show False by have bA0 := Int32.le_toInt (xs 2); have bB0 := Int32.toInt_lt (xs 2); have bA1 := Int32.le_toInt (xs 3); have bB1 := Int32.toInt_lt (xs 3); revert c1 c2; simp only [vp_in_iff, Int32.lt_iff_toInt_lt, Int32.le_iff_toInt_le, Int64.lt_iff_toInt_lt, Int64.le_iff_toInt_le, Int32.toInt_toInt64, ← Int32.toInt_inj, ← Int64.toInt_inj, Int32.reduceToInt, Int64.reduceToInt] <;> omega).elim
  · have hP : va_P D vwCl [(hM, .inr (12, [.int 0, .int 0, .ref (aM 0), .ref (aM 1), .ref (aM 2), .int 0, .ref (aM 3), .ref (aM 4), .ref (aM 5), .ref (aM 6), .ref (aM 7), .int 0, .int 0, .int 0, .int 0, .long 0, .int (-1), .int 0, .int 0, .ref (aM 8), .int 0, .ref (aM 9), .ref (aM 10), .int 0, .ref (aM 11), .ref (aM 12), .int 0, .int 0, .ref (aM 13), .ref (aM 14), .ref (aM 15), .ref (aM 16), .int 0, .long 0, .long 0, .int 0, .int 0, .int 0, .int 0, .ref (aM 17), .ref (aM 18), .int 0, .int 0, .int 0, .int 0, .ref (aM 19), .ref (aM 20), .int 0, .int 0, .ref (aM 21), .ref (aM 22), .ref (aM 23), .ref (aM 24), .int 0, .int 0, .int 0])), ((aM 0), .inl (k 0, 27101, .inl (fun _ => 0)))] H := hP
    have hD : va_D (fun q : Nat => s.heap.size ≤ q) [(hM, .inr (12, [.int 0, .int 0, .ref (aM 0), .ref (aM 1), .ref (aM 2), .int 0, .ref (aM 3), .ref (aM 4), .ref (aM 5), .ref (aM 6), .ref (aM 7), .int 0, .int 0, .int 0, .int 0, .long 0, .int (-1), .int 0, .int 0, .ref (aM 8), .int 0, .ref (aM 9), .ref (aM 10), .int 0, .ref (aM 11), .ref (aM 12), .int 0, .int 0, .ref (aM 13), .ref (aM 14), .ref (aM 15), .ref (aM 16), .int 0, .long 0, .long 0, .int 0, .int 0, .int 0, .int 0, .ref (aM 17), .ref (aM 18), .int 0, .int 0, .int 0, .int 0, .ref (aM 19), .ref (aM 20), .int 0, .int 0, .ref (aM 21), .ref (aM 22), .ref (aM 23), .ref (aM 24), .int 0, .int 0, .int 0])), ((aM 0), .inl (k 0, 27101, .inl (fun _ => 0)))] := hD
    refine lv_aload_n hx hb dL_law_1688 rfl (lv_at hl 2 rfl) ?_
    refine lv_aload_n hx hb dL_law_1689 rfl (lv_at hl 0 rfl) ?_
    refine lv_iload_n hx hb dL_law_1690 rfl (lv_at hl 3 rfl) ?_
    refine lv_iconst (v := 1) hx hb dL_law_1691 (by decide) ?_
    refine lv_iadd hx hb dL_law_1692 ?_
    refine lv_toc (v := 1) (by decide) ?_
    refine z_sld hx hb hXx hbl hbA hS 1 (by decide) (by unfold vp_in; decide) dL_law_1693 ?_
    refine lv_aload_n hx hb dL_law_1694 rfl (lv_at hl 0 rfl) ?_
    refine lv_iload_n hx hb dL_law_1695 rfl (lv_at hl 3 rfl) ?_
    refine lv_iconst (v := 2) hx hb dL_law_1696 (by decide) ?_
    refine lv_iadd hx hb dL_law_1697 ?_
    refine lv_toc (v := 2) (by decide) ?_
    refine z_sld hx hb hXx hbl hbA hS 2 (by decide) (by unfold vp_in; decide) dL_law_1698 ?_
    refine lv_aload_n hx hb dL_law_1699 rfl (lv_at hl 0 rfl) ?_
    refine lv_iload_n hx hb dL_law_1700 rfl (lv_at hl 3 rfl) ?_
    refine lv_iconst (v := 3) hx hb dL_law_1701 (by decide) ?_
    refine lv_iadd hx hb dL_law_1702 ?_
    refine lv_toc (v := 3) (by decide) ?_
    refine z_sld hx hb hXx hbl hbA hS 3 (by decide) (by unfold vp_in; decide) dL_law_1703 ?_
    refine z_bi (wr := []) (z_runV (C := RX12) (As := [.int (xs 1), .int (xs 2), .int (xs 3)]) (rest := [.int (-2)]) C0 (c_X12_visit_1 l D k hM (aM 0) (aM 1) (aM 2) (aM 3) (aM 4) (aM 5) (aM 6) (aM 7) (aM 8) (aM 9) (aM 10) (aM 11) (aM 12) (aM 13) (aM 14) (aM 15) (aM 16) (aM 17) (aM 18) (aM 19) (aM 20) (aM 21) (aM 22) (aM 23) (aM 24) (xs 1) (xs 2) (xs 3) 0 0 0 0 0 0 0 0 (-1) 0 0 0 0 0 0 0 0 0 0 0 0 0 0 0 0 0 0 0 0 0 0 _) okV_X12_visit kM_L_156 rfl (z_pV (q0 := 0) hK hN hP hD [0, 1] rfl rfl rfl rfl rfl) rfl hl.1 rfl (Nat.le_of_ble_eq_true rfl) dL_law_1704 rfl) hP hD hS hA [0, 1] [] rfl rfl rfl rfl (fun r4 u4 H locs hw4 hP hD hS => ?_)
    obtain ⟨i4, a4⟩ := u4
    dsimp only at hw4
    rcases hw4 with ⟨rfl, rfl, c4⟩ | ⟨rfl, rfl, c4⟩
    · have hP : va_P D vwCl [] H := hP
      have hD : va_D (fun q : Nat => s.heap.size ≤ q) [] := hD
      exact (show False by have bA0 := Int32.le_toInt (xs 2); have bB0 := Int32.toInt_lt (xs 2); have bA1 := Int32.le_toInt (xs 3); have bB1 := Int32.toInt_lt (xs 3); revert c1 c4; simp only [vp_in_iff, Int32.lt_iff_toInt_lt, Int32.le_iff_toInt_le, Int64.lt_iff_toInt_lt, Int64.le_iff_toInt_le, Int32.toInt_toInt64, ← Int32.toInt_inj, ← Int64.toInt_inj, Int32.reduceToInt, Int64.reduceToInt] <;> omega).elim
    · have hP : va_P D vwCl [] H := hP
      have hD : va_D (fun q : Nat => s.heap.size ≤ q) [] := hD
      refine lv_icmp_eq (tgt := 2078) hx hb dL_law_1707 (by decide) (fun _ => ?_) (fun c5 => absurd (by decide) c5)
      exact law_end hC (Nat.le_of_ble_eq_true rfl) (Nat.le_of_ble_eq_true rfl) hS (lv_sub hl [0, 3] rfl)

set_option maxHeartbeats 4000000 in
set_option maxRecDepth 100000 in
theorem law_case_34 {p : Program} {l : Launch} {e : Env} {s : State} {m : MethodId} {below : List Frame} {meth : Method} {c : Code} {D : va_G} {k : Nat → ClassId} {b : Nat} {xs : Nat → Int32} (hC : law_C p s m meth c D k b 7 xs) {hX hM : Nat} {aX aM : Nat → Nat} {H : Heap} {locs : List Loc} {ls : Array Slot} (hP : va_P D vwCl (WX k hX aX ++ WM k hM aM) H) (hD : va_D (fun q : Nat => s.heap.size ≤ q) (WX k hX aX ++ WM k hM aM)) (hS : va_S (fun q : Nat => s.heap.size ≤ q) s.heap H locs) (hl : lv_has ls 4 [(0, .ref b), (1, .ref hX), (2, .ref hM), (3, .int 0)]) : W p l e room_1 s m #[Value.ref b] below meth c H locs 100 106558 (lw_Z below #[Value.ref b] s) (F0 m 1712 ls []) := by
  obtain ⟨C0, hr, hlk, hXx, hbl, hK, hN⟩ := id hC
  have hx := C0.1
  have hb := C0.2.1
  have hml := C0.2.2.1
  have hown := C0.2.2.2.1
  have hts := C0.2.2.2.2
  have hA : ∀ q : Nat, s.heap.size ≤ q → (fun q : Nat => s.heap.size ≤ q) q := fun _ h => h
  have hbA : ¬ (fun q : Nat => s.heap.size ≤ q) b := Nat.not_le.mpr hbl
  refine lv_aload_n hx hb dL_law_1712 rfl (lv_at hl 1 rfl) ?_
  refine lv_aload_n hx hb dL_law_1713 rfl (lv_at hl 0 rfl) ?_
  refine lv_iload_n hx hb dL_law_1714 rfl (lv_at hl 3 rfl) ?_
  refine lv_iconst (v := 1) hx hb dL_law_1715 (by decide) ?_
  refine lv_iadd hx hb dL_law_1716 ?_
  refine lv_toc (v := 1) (by decide) ?_
  refine z_sld hx hb hXx hbl hbA hS 1 (by decide) (by unfold vp_in; decide) dL_law_1717 ?_
  refine lv_aload_n hx hb dL_law_1718 rfl (lv_at hl 0 rfl) ?_
  refine lv_iload_n hx hb dL_law_1719 rfl (lv_at hl 3 rfl) ?_
  refine lv_iconst (v := 2) hx hb dL_law_1720 (by decide) ?_
  refine lv_iadd hx hb dL_law_1721 ?_
  refine lv_toc (v := 2) (by decide) ?_
  refine z_sld hx hb hXx hbl hbA hS 2 (by decide) (by unfold vp_in; decide) dL_law_1722 ?_
  refine lv_aload_n hx hb dL_law_1723 rfl (lv_at hl 0 rfl) ?_
  refine lv_iload_n hx hb dL_law_1724 rfl (lv_at hl 3 rfl) ?_
  refine lv_iconst (v := 3) hx hb dL_law_1725 (by decide) ?_
  refine lv_iadd hx hb dL_law_1726 ?_
  refine lv_toc (v := 3) (by decide) ?_
  refine z_sld hx hb hXx hbl hbA hS 3 (by decide) (by unfold vp_in; decide) dL_law_1727 ?_
  refine lv_aload_n hx hb dL_law_1728 rfl (lv_at hl 0 rfl) ?_
  refine lv_iload_n hx hb dL_law_1729 rfl (lv_at hl 3 rfl) ?_
  refine lv_iconst (v := 4) hx hb dL_law_1730 (by decide) ?_
  refine lv_iadd hx hb dL_law_1731 ?_
  refine lv_toc (v := 4) (by decide) ?_
  refine z_sld hx hb hXx hbl hbA hS 4 (by decide) (by unfold vp_in; decide) dL_law_1732 ?_
  refine z_bi (wr := [(hM, .inr (12, [.int 0, .int 0, .ref (aM 0), .ref (aM 1), .ref (aM 2), .int 0, .ref (aM 3), .ref (aM 4), .ref (aM 5), .ref (aM 6), .ref (aM 7), .int 0, .int 0, .int 0, .int 0, .long 0, .int (-1), .int 0, .int 0, .ref (aM 8), .int 0, .ref (aM 9), .ref (aM 10), .int 0, .ref (aM 11), .ref (aM 12), .int 0, .int 0, .ref (aM 13), .ref (aM 14), .ref (aM 15), .ref (aM 16), .int 0, .long 0, .long 0, .int 0, .int 0, .int 0, .int 0, .ref (aM 17), .ref (aM 18), .int 0, .int 0, .int 0, .int 0, .ref (aM 19), .ref (aM 20), .int 0, .int 0, .ref (aM 21), .ref (aM 22), .ref (aM 23), .ref (aM 24), .int 0, .int 0, .int 0])), ((aM 0), .inl (k 0, 27101, .inl (fun _ => 0)))]) (z_runV (C := RX11) (As := [.int (xs 1), .int (xs 2), .int (xs 3), .int (xs 4)]) (rest := []) C0 (c_X11_round_1 l D k hX (aX 65) (aX 40) (aX 0) (aX 50) (aX 51) (aX 57) (aX 1) (aX 66) (aX 67) (aX 68) (aX 69) (aX 70) (aX 71) (aX 72) (aX 41) (aX 42) (aX 43) (aX 44) (aX 45) (aX 46) (aX 47) (aX 48) (aX 49) (xs 1) (xs 2) (xs 3) (xs 4) 0 0 (-1) 0 0 0 _) okV_X11_round kM_L_157 rfl (z_pV (q0 := 0) hK hN hP hD [0, 66, 41] rfl rfl rfl rfl rfl) rfl hl.1 rfl (Nat.le_of_ble_eq_true rfl) dL_law_1733 rfl) hP hD hS hA [0, 66, 41] [74, 75] rfl rfl rfl rfl (fun r1 u1 H locs hw1 hP hD hS => ?_)
  obtain ⟨i1, a1⟩ := u1
  dsimp only at hw1
  rcases hw1 with ⟨rfl, rfl, c1⟩ | ⟨rfl, rfl, c1⟩
  · have hP : va_P D vwCl [(hM, .inr (12, [.int 0, .int 0, .ref (aM 0), .ref (aM 1), .ref (aM 2), .int 0, .ref (aM 3), .ref (aM 4), .ref (aM 5), .ref (aM 6), .ref (aM 7), .int 0, .int 0, .int 0, .int 0, .long 0, .int (-1), .int 0, .int 0, .ref (aM 8), .int 0, .ref (aM 9), .ref (aM 10), .int 0, .ref (aM 11), .ref (aM 12), .int 0, .int 0, .ref (aM 13), .ref (aM 14), .ref (aM 15), .ref (aM 16), .int 0, .long 0, .long 0, .int 0, .int 0, .int 0, .int 0, .ref (aM 17), .ref (aM 18), .int 0, .int 0, .int 0, .int 0, .ref (aM 19), .ref (aM 20), .int 0, .int 0, .ref (aM 21), .ref (aM 22), .ref (aM 23), .ref (aM 24), .int 0, .int 0, .int 0])), ((aM 0), .inl (k 0, 27101, .inl (fun _ => 0)))] H := hP
    have hD : va_D (fun q : Nat => s.heap.size ≤ q) [(hM, .inr (12, [.int 0, .int 0, .ref (aM 0), .ref (aM 1), .ref (aM 2), .int 0, .ref (aM 3), .ref (aM 4), .ref (aM 5), .ref (aM 6), .ref (aM 7), .int 0, .int 0, .int 0, .int 0, .long 0, .int (-1), .int 0, .int 0, .ref (aM 8), .int 0, .ref (aM 9), .ref (aM 10), .int 0, .ref (aM 11), .ref (aM 12), .int 0, .int 0, .ref (aM 13), .ref (aM 14), .ref (aM 15), .ref (aM 16), .int 0, .long 0, .long 0, .int 0, .int 0, .int 0, .int 0, .ref (aM 17), .ref (aM 18), .int 0, .int 0, .int 0, .int 0, .ref (aM 19), .ref (aM 20), .int 0, .int 0, .ref (aM 21), .ref (aM 22), .ref (aM 23), .ref (aM 24), .int 0, .int 0, .int 0])), ((aM 0), .inl (k 0, 27101, .inl (fun _ => 0)))] := hD
    refine lv_aload_n hx hb dL_law_1736 rfl (lv_at hl 2 rfl) ?_
    refine lv_aload_n hx hb dL_law_1737 rfl (lv_at hl 0 rfl) ?_
    refine lv_iload_n hx hb dL_law_1738 rfl (lv_at hl 3 rfl) ?_
    refine lv_iconst (v := 1) hx hb dL_law_1739 (by decide) ?_
    refine lv_iadd hx hb dL_law_1740 ?_
    refine lv_toc (v := 1) (by decide) ?_
    refine z_sld hx hb hXx hbl hbA hS 1 (by decide) (by unfold vp_in; decide) dL_law_1741 ?_
    refine lv_aload_n hx hb dL_law_1742 rfl (lv_at hl 0 rfl) ?_
    refine lv_iload_n hx hb dL_law_1743 rfl (lv_at hl 3 rfl) ?_
    refine lv_iconst (v := 2) hx hb dL_law_1744 (by decide) ?_
    refine lv_iadd hx hb dL_law_1745 ?_
    refine lv_toc (v := 2) (by decide) ?_
    refine z_sld hx hb hXx hbl hbA hS 2 (by decide) (by unfold vp_in; decide) dL_law_1746 ?_
    refine lv_aload_n hx hb dL_law_1747 rfl (lv_at hl 0 rfl) ?_
    refine lv_iload_n hx hb dL_law_1748 rfl (lv_at hl 3 rfl) ?_
    refine lv_iconst (v := 3) hx hb dL_law_1749 (by decide) ?_
    refine lv_iadd hx hb dL_law_1750 ?_
    refine lv_toc (v := 3) (by decide) ?_
    refine z_sld hx hb hXx hbl hbA hS 3 (by decide) (by unfold vp_in; decide) dL_law_1751 ?_
    refine lv_aload_n hx hb dL_law_1752 rfl (lv_at hl 0 rfl) ?_
    refine lv_iload_n hx hb dL_law_1753 rfl (lv_at hl 3 rfl) ?_
    refine lv_iconst (v := 4) hx hb dL_law_1754 (by decide) ?_
    refine lv_iadd hx hb dL_law_1755 ?_
    refine lv_toc (v := 4) (by decide) ?_
    refine z_sld hx hb hXx hbl hbA hS 4 (by decide) (by unfold vp_in; decide) dL_law_1756 ?_
    refine z_bi (wr := []) (z_runV (C := RX12) (As := [.int (xs 1), .int (xs 2), .int (xs 3), .int (xs 4)]) (rest := [.int (-1)]) C0 (c_X12_round_1 l D k hM (aM 0) (aM 1) (aM 2) (aM 3) (aM 4) (aM 5) (aM 6) (aM 7) (aM 8) (aM 9) (aM 10) (aM 11) (aM 12) (aM 13) (aM 14) (aM 15) (aM 16) (aM 17) (aM 18) (aM 19) (aM 20) (aM 21) (aM 22) (aM 23) (aM 24) (xs 1) (xs 2) (xs 3) (xs 4) 0 0 0 0 0 0 0 0 (-1) 0 0 0 0 0 0 0 0 0 0 0 0 0 0 0 0 0 0 0 0 0 0 _) okV_X12_round kM_L_160 rfl (z_pV (q0 := 0) hK hN hP hD [0, 1] rfl rfl rfl rfl rfl) rfl hl.1 rfl (Nat.le_of_ble_eq_true rfl) dL_law_1757 rfl) hP hD hS hA [0, 1] [] rfl rfl rfl rfl (fun r2 u2 H locs hw2 hP hD hS => ?_)
    obtain ⟨i2, a2⟩ := u2
    dsimp only at hw2
    rcases hw2 with ⟨rfl, rfl, c2⟩ | ⟨rfl, rfl, c2⟩
    · have hP : va_P D vwCl [] H := hP
      have hD : va_D (fun q : Nat => s.heap.size ≤ q) [] := hD
      refine lv_icmp_eq (tgt := 2078) hx hb dL_law_1760 (by decide) (fun _ => ?_) (fun c3 => absurd (by decide) c3)
      exact law_end hC (Nat.le_of_ble_eq_true rfl) (Nat.le_of_ble_eq_true rfl) hS (lv_sub hl [0, 3] rfl)
    · have hP : va_P D vwCl [] H := hP
      have hD : va_D (fun q : Nat => s.heap.size ≤ q) [] := hD
      exact (show False by have bA0 := Int32.le_toInt (xs 1); have bB0 := Int32.toInt_lt (xs 1); have bA1 := Int32.le_toInt (xs 2); have bB1 := Int32.toInt_lt (xs 2); have bA2 := Int32.le_toInt (xs 3); have bB2 := Int32.toInt_lt (xs 3); have bA3 := Int32.le_toInt (xs 4); have bB3 := Int32.toInt_lt (xs 4); revert c1 c2; simp only [vp_in_iff, Int32.lt_iff_toInt_lt, Int32.le_iff_toInt_le, Int64.lt_iff_toInt_lt, Int64.le_iff_toInt_le, Int32.toInt_toInt64, ← Int32.toInt_inj, ← Int64.toInt_inj, Int32.reduceToInt, Int64.reduceToInt] <;> omega).elim
  · have hP : va_P D vwCl [(hM, .inr (12, [.int 0, .int 0, .ref (aM 0), .ref (aM 1), .ref (aM 2), .int 0, .ref (aM 3), .ref (aM 4), .ref (aM 5), .ref (aM 6), .ref (aM 7), .int 0, .int 0, .int 0, .int 0, .long 0, .int (-1), .int 0, .int 0, .ref (aM 8), .int 0, .ref (aM 9), .ref (aM 10), .int 0, .ref (aM 11), .ref (aM 12), .int 0, .int 0, .ref (aM 13), .ref (aM 14), .ref (aM 15), .ref (aM 16), .int 0, .long 0, .long 0, .int 0, .int 0, .int 0, .int 0, .ref (aM 17), .ref (aM 18), .int 0, .int 0, .int 0, .int 0, .ref (aM 19), .ref (aM 20), .int 0, .int 0, .ref (aM 21), .ref (aM 22), .ref (aM 23), .ref (aM 24), .int 0, .int 0, .int 0])), ((aM 0), .inl (k 0, 27101, .inl (fun _ => 0)))] H := hP
    have hD : va_D (fun q : Nat => s.heap.size ≤ q) [(hM, .inr (12, [.int 0, .int 0, .ref (aM 0), .ref (aM 1), .ref (aM 2), .int 0, .ref (aM 3), .ref (aM 4), .ref (aM 5), .ref (aM 6), .ref (aM 7), .int 0, .int 0, .int 0, .int 0, .long 0, .int (-1), .int 0, .int 0, .ref (aM 8), .int 0, .ref (aM 9), .ref (aM 10), .int 0, .ref (aM 11), .ref (aM 12), .int 0, .int 0, .ref (aM 13), .ref (aM 14), .ref (aM 15), .ref (aM 16), .int 0, .long 0, .long 0, .int 0, .int 0, .int 0, .int 0, .ref (aM 17), .ref (aM 18), .int 0, .int 0, .int 0, .int 0, .ref (aM 19), .ref (aM 20), .int 0, .int 0, .ref (aM 21), .ref (aM 22), .ref (aM 23), .ref (aM 24), .int 0, .int 0, .int 0])), ((aM 0), .inl (k 0, 27101, .inl (fun _ => 0)))] := hD
    refine lv_aload_n hx hb dL_law_1736 rfl (lv_at hl 2 rfl) ?_
    refine lv_aload_n hx hb dL_law_1737 rfl (lv_at hl 0 rfl) ?_
    refine lv_iload_n hx hb dL_law_1738 rfl (lv_at hl 3 rfl) ?_
    refine lv_iconst (v := 1) hx hb dL_law_1739 (by decide) ?_
    refine lv_iadd hx hb dL_law_1740 ?_
    refine lv_toc (v := 1) (by decide) ?_
    refine z_sld hx hb hXx hbl hbA hS 1 (by decide) (by unfold vp_in; decide) dL_law_1741 ?_
    refine lv_aload_n hx hb dL_law_1742 rfl (lv_at hl 0 rfl) ?_
    refine lv_iload_n hx hb dL_law_1743 rfl (lv_at hl 3 rfl) ?_
    refine lv_iconst (v := 2) hx hb dL_law_1744 (by decide) ?_
    refine lv_iadd hx hb dL_law_1745 ?_
    refine lv_toc (v := 2) (by decide) ?_
    refine z_sld hx hb hXx hbl hbA hS 2 (by decide) (by unfold vp_in; decide) dL_law_1746 ?_
    refine lv_aload_n hx hb dL_law_1747 rfl (lv_at hl 0 rfl) ?_
    refine lv_iload_n hx hb dL_law_1748 rfl (lv_at hl 3 rfl) ?_
    refine lv_iconst (v := 3) hx hb dL_law_1749 (by decide) ?_
    refine lv_iadd hx hb dL_law_1750 ?_
    refine lv_toc (v := 3) (by decide) ?_
    refine z_sld hx hb hXx hbl hbA hS 3 (by decide) (by unfold vp_in; decide) dL_law_1751 ?_
    refine lv_aload_n hx hb dL_law_1752 rfl (lv_at hl 0 rfl) ?_
    refine lv_iload_n hx hb dL_law_1753 rfl (lv_at hl 3 rfl) ?_
    refine lv_iconst (v := 4) hx hb dL_law_1754 (by decide) ?_
    refine lv_iadd hx hb dL_law_1755 ?_
    refine lv_toc (v := 4) (by decide) ?_
    refine z_sld hx hb hXx hbl hbA hS 4 (by decide) (by unfold vp_in; decide) dL_law_1756 ?_
    refine z_bi (wr := []) (z_runV (C := RX12) (As := [.int (xs 1), .int (xs 2), .int (xs 3), .int (xs 4)]) (rest := [.int 0]) C0 (c_X12_round_1 l D k hM (aM 0) (aM 1) (aM 2) (aM 3) (aM 4) (aM 5) (aM 6) (aM 7) (aM 8) (aM 9) (aM 10) (aM 11) (aM 12) (aM 13) (aM 14) (aM 15) (aM 16) (aM 17) (aM 18) (aM 19) (aM 20) (aM 21) (aM 22) (aM 23) (aM 24) (xs 1) (xs 2) (xs 3) (xs 4) 0 0 0 0 0 0 0 0 (-1) 0 0 0 0 0 0 0 0 0 0 0 0 0 0 0 0 0 0 0 0 0 0 _) okV_X12_round kM_L_160 rfl (z_pV (q0 := 0) hK hN hP hD [0, 1] rfl rfl rfl rfl rfl) rfl hl.1 rfl (Nat.le_of_ble_eq_true rfl) dL_law_1757 rfl) hP hD hS hA [0, 1] [] rfl rfl rfl rfl (fun r4 u4 H locs hw4 hP hD hS => ?_)
    obtain ⟨i4, a4⟩ := u4
    dsimp only at hw4
    rcases hw4 with ⟨rfl, rfl, c4⟩ | ⟨rfl, rfl, c4⟩
    · have hP : va_P D vwCl [] H := hP
      have hD : va_D (fun q : Nat => s.heap.size ≤ q) [] := hD
      exact (show False by have bA0 := Int32.le_toInt (xs 1); have bB0 := Int32.toInt_lt (xs 1); have bA1 := Int32.le_toInt (xs 2); have bB1 := Int32.toInt_lt (xs 2); have bA2 := Int32.le_toInt (xs 3); have bB2 := Int32.toInt_lt (xs 3); have bA3 := Int32.le_toInt (xs 4); have bB3 := Int32.toInt_lt (xs 4); revert c1 c4; simp only [vp_in_iff, Int32.lt_iff_toInt_lt, Int32.le_iff_toInt_le, Int64.lt_iff_toInt_lt, Int64.le_iff_toInt_le, Int32.toInt_toInt64, ← Int32.toInt_inj, ← Int64.toInt_inj, Int32.reduceToInt, Int64.reduceToInt] <;> omega).elim
    · have hP : va_P D vwCl [] H := hP
      have hD : va_D (fun q : Nat => s.heap.size ≤ q) [] := hD
      refine lv_icmp_eq (tgt := 2078) hx hb dL_law_1760 (by decide) (fun _ => ?_) (fun c5 => absurd (by decide) c5)
      exact law_end hC (Nat.le_of_ble_eq_true rfl) (Nat.le_of_ble_eq_true rfl) hS (lv_sub hl [0, 3] rfl)

set_option maxHeartbeats 4000000 in
set_option maxRecDepth 100000 in
theorem law_case_35 {p : Program} {l : Launch} {e : Env} {s : State} {m : MethodId} {below : List Frame} {meth : Method} {c : Code} {D : va_G} {k : Nat → ClassId} {b : Nat} {xs : Nat → Int32} (hC : law_C p s m meth c D k b 7 xs) {hX hM : Nat} {aX aM : Nat → Nat} {H : Heap} {locs : List Loc} {ls : Array Slot} (hP : va_P D vwCl (WX k hX aX ++ WM k hM aM) H) (hD : va_D (fun q : Nat => s.heap.size ≤ q) (WX k hX aX ++ WM k hM aM)) (hS : va_S (fun q : Nat => s.heap.size ≤ q) s.heap H locs) (hl : lv_has ls 4 [(0, .ref b), (1, .ref hX), (2, .ref hM), (3, .int 0)]) : W p l e room_1 s m #[Value.ref b] below meth c H locs 100 106558 (lw_Z below #[Value.ref b] s) (F0 m 1765 ls []) := by
  obtain ⟨C0, hr, hlk, hXx, hbl, hK, hN⟩ := id hC
  have hx := C0.1
  have hb := C0.2.1
  have hml := C0.2.2.1
  have hown := C0.2.2.2.1
  have hts := C0.2.2.2.2
  have hA : ∀ q : Nat, s.heap.size ≤ q → (fun q : Nat => s.heap.size ≤ q) q := fun _ h => h
  have hbA : ¬ (fun q : Nat => s.heap.size ≤ q) b := Nat.not_le.mpr hbl
  refine lv_aload_n hx hb dL_law_1765 rfl (lv_at hl 1 rfl) ?_
  refine lv_aload_n hx hb dL_law_1766 rfl (lv_at hl 0 rfl) ?_
  refine lv_iload_n hx hb dL_law_1767 rfl (lv_at hl 3 rfl) ?_
  refine lv_iconst (v := 1) hx hb dL_law_1768 (by decide) ?_
  refine lv_iadd hx hb dL_law_1769 ?_
  refine lv_toc (v := 1) (by decide) ?_
  refine z_sld hx hb hXx hbl hbA hS 1 (by decide) (by unfold vp_in; decide) dL_law_1770 ?_
  refine lv_aload_n hx hb dL_law_1771 rfl (lv_at hl 0 rfl) ?_
  refine lv_iload_n hx hb dL_law_1772 rfl (lv_at hl 3 rfl) ?_
  refine lv_iconst (v := 2) hx hb dL_law_1773 (by decide) ?_
  refine lv_iadd hx hb dL_law_1774 ?_
  refine lv_toc (v := 2) (by decide) ?_
  refine z_sld hx hb hXx hbl hbA hS 2 (by decide) (by unfold vp_in; decide) dL_law_1775 ?_
  refine lv_aload_n hx hb dL_law_1776 rfl (lv_at hl 0 rfl) ?_
  refine lv_iload_n hx hb dL_law_1777 rfl (lv_at hl 3 rfl) ?_
  refine lv_iconst (v := 3) hx hb dL_law_1778 (by decide) ?_
  refine lv_iadd hx hb dL_law_1779 ?_
  refine lv_toc (v := 3) (by decide) ?_
  refine z_sld hx hb hXx hbl hbA hS 3 (by decide) (by unfold vp_in; decide) dL_law_1780 ?_
  refine lv_aload_n hx hb dL_law_1781 rfl (lv_at hl 0 rfl) ?_
  refine lv_iload_n hx hb dL_law_1782 rfl (lv_at hl 3 rfl) ?_
  refine lv_iconst (v := 4) hx hb dL_law_1783 (by decide) ?_
  refine lv_iadd hx hb dL_law_1784 ?_
  refine lv_toc (v := 4) (by decide) ?_
  refine z_sld hx hb hXx hbl hbA hS 4 (by decide) (by unfold vp_in; decide) dL_law_1785 ?_
  refine z_bi (wr := [(hM, .inr (12, [.int 0, .int 0, .ref (aM 0), .ref (aM 1), .ref (aM 2), .int 0, .ref (aM 3), .ref (aM 4), .ref (aM 5), .ref (aM 6), .ref (aM 7), .int 0, .int 0, .int 0, .int 0, .long 0, .int (-1), .int 0, .int 0, .ref (aM 8), .int 0, .ref (aM 9), .ref (aM 10), .int 0, .ref (aM 11), .ref (aM 12), .int 0, .int 0, .ref (aM 13), .ref (aM 14), .ref (aM 15), .ref (aM 16), .int 0, .long 0, .long 0, .int 0, .int 0, .int 0, .int 0, .ref (aM 17), .ref (aM 18), .int 0, .int 0, .int 0, .int 0, .ref (aM 19), .ref (aM 20), .int 0, .int 0, .ref (aM 21), .ref (aM 22), .ref (aM 23), .ref (aM 24), .int 0, .int 0, .int 0])), ((aM 0), .inl (k 0, 27101, .inl (fun _ => 0)))]) (z_runV (C := RX11) (As := [.int (xs 1), .int (xs 2), .int (xs 3), .int (xs 4)]) (rest := []) C0 (c_X11_dips_1 l D k hX (aX 57) (aX 0) (aX 63) (aX 64) (aX 20) (aX 50) (aX 51) (aX 65) (aX 58) (aX 59) (aX 60) (aX 61) (aX 62) (aX 1) (aX 14) (aX 33) (aX 36) (aX 40) (aX 21) (aX 22) (aX 23) (aX 24) (aX 25) (aX 26) (aX 27) (aX 28) (aX 29) (aX 30) (aX 31) (aX 32) (xs 1) (xs 2) (xs 3) (xs 4) 0 0 0 0 0 0 0 0 0 0 0 0 0 0 _) okV_X11_dips kM_L_161 rfl (z_pV (q0 := 0) hK hN hP hD [0, 58, 1, 64, 65, 21] rfl rfl rfl rfl rfl) rfl hl.1 rfl (Nat.le_of_ble_eq_true rfl) dL_law_1786 rfl) hP hD hS hA [0, 58, 1, 64, 65, 21] [74, 75] rfl rfl rfl rfl (fun r1 u1 H locs hw1 hP hD hS => ?_)
  obtain ⟨i1, a1⟩ := u1
  dsimp only at hw1
  rcases hw1 with ⟨rfl, rfl, c1⟩ | ⟨rfl, rfl, c1⟩
  · have hP : va_P D vwCl [(hM, .inr (12, [.int 0, .int 0, .ref (aM 0), .ref (aM 1), .ref (aM 2), .int 0, .ref (aM 3), .ref (aM 4), .ref (aM 5), .ref (aM 6), .ref (aM 7), .int 0, .int 0, .int 0, .int 0, .long 0, .int (-1), .int 0, .int 0, .ref (aM 8), .int 0, .ref (aM 9), .ref (aM 10), .int 0, .ref (aM 11), .ref (aM 12), .int 0, .int 0, .ref (aM 13), .ref (aM 14), .ref (aM 15), .ref (aM 16), .int 0, .long 0, .long 0, .int 0, .int 0, .int 0, .int 0, .ref (aM 17), .ref (aM 18), .int 0, .int 0, .int 0, .int 0, .ref (aM 19), .ref (aM 20), .int 0, .int 0, .ref (aM 21), .ref (aM 22), .ref (aM 23), .ref (aM 24), .int 0, .int 0, .int 0])), ((aM 0), .inl (k 0, 27101, .inl (fun _ => 0)))] H := hP
    have hD : va_D (fun q : Nat => s.heap.size ≤ q) [(hM, .inr (12, [.int 0, .int 0, .ref (aM 0), .ref (aM 1), .ref (aM 2), .int 0, .ref (aM 3), .ref (aM 4), .ref (aM 5), .ref (aM 6), .ref (aM 7), .int 0, .int 0, .int 0, .int 0, .long 0, .int (-1), .int 0, .int 0, .ref (aM 8), .int 0, .ref (aM 9), .ref (aM 10), .int 0, .ref (aM 11), .ref (aM 12), .int 0, .int 0, .ref (aM 13), .ref (aM 14), .ref (aM 15), .ref (aM 16), .int 0, .long 0, .long 0, .int 0, .int 0, .int 0, .int 0, .ref (aM 17), .ref (aM 18), .int 0, .int 0, .int 0, .int 0, .ref (aM 19), .ref (aM 20), .int 0, .int 0, .ref (aM 21), .ref (aM 22), .ref (aM 23), .ref (aM 24), .int 0, .int 0, .int 0])), ((aM 0), .inl (k 0, 27101, .inl (fun _ => 0)))] := hD
    refine lv_aload_n hx hb dL_law_1789 rfl (lv_at hl 2 rfl) ?_
    refine lv_aload_n hx hb dL_law_1790 rfl (lv_at hl 0 rfl) ?_
    refine lv_iload_n hx hb dL_law_1791 rfl (lv_at hl 3 rfl) ?_
    refine lv_iconst (v := 1) hx hb dL_law_1792 (by decide) ?_
    refine lv_iadd hx hb dL_law_1793 ?_
    refine lv_toc (v := 1) (by decide) ?_
    refine z_sld hx hb hXx hbl hbA hS 1 (by decide) (by unfold vp_in; decide) dL_law_1794 ?_
    refine lv_aload_n hx hb dL_law_1795 rfl (lv_at hl 0 rfl) ?_
    refine lv_iload_n hx hb dL_law_1796 rfl (lv_at hl 3 rfl) ?_
    refine lv_iconst (v := 2) hx hb dL_law_1797 (by decide) ?_
    refine lv_iadd hx hb dL_law_1798 ?_
    refine lv_toc (v := 2) (by decide) ?_
    refine z_sld hx hb hXx hbl hbA hS 2 (by decide) (by unfold vp_in; decide) dL_law_1799 ?_
    refine lv_aload_n hx hb dL_law_1800 rfl (lv_at hl 0 rfl) ?_
    refine lv_iload_n hx hb dL_law_1801 rfl (lv_at hl 3 rfl) ?_
    refine lv_iconst (v := 3) hx hb dL_law_1802 (by decide) ?_
    refine lv_iadd hx hb dL_law_1803 ?_
    refine lv_toc (v := 3) (by decide) ?_
    refine z_sld hx hb hXx hbl hbA hS 3 (by decide) (by unfold vp_in; decide) dL_law_1804 ?_
    refine lv_aload_n hx hb dL_law_1805 rfl (lv_at hl 0 rfl) ?_
    refine lv_iload_n hx hb dL_law_1806 rfl (lv_at hl 3 rfl) ?_
    refine lv_iconst (v := 4) hx hb dL_law_1807 (by decide) ?_
    refine lv_iadd hx hb dL_law_1808 ?_
    refine lv_toc (v := 4) (by decide) ?_
    refine z_sld hx hb hXx hbl hbA hS 4 (by decide) (by unfold vp_in; decide) dL_law_1809 ?_
    refine z_bi (wr := []) (z_runV (C := RX12) (As := [.int (xs 1), .int (xs 2), .int (xs 3), .int (xs 4)]) (rest := [.int (-1)]) C0 (c_X12_dips_1 l D k hM (aM 0) (aM 1) (aM 2) (aM 3) (aM 4) (aM 5) (aM 6) (aM 7) (aM 8) (aM 9) (aM 10) (aM 11) (aM 12) (aM 13) (aM 14) (aM 15) (aM 16) (aM 17) (aM 18) (aM 19) (aM 20) (aM 21) (aM 22) (aM 23) (aM 24) (xs 1) (xs 2) (xs 3) (xs 4) 0 0 0 0 0 0 0 0 (-1) 0 0 0 0 0 0 0 0 0 0 0 0 0 0 0 0 0 0 0 0 0 0 _) okV_X12_dips kM_L_164 rfl (z_pV (q0 := 0) hK hN hP hD [0, 1] rfl rfl rfl rfl rfl) rfl hl.1 rfl (Nat.le_of_ble_eq_true rfl) dL_law_1810 rfl) hP hD hS hA [0, 1] [] rfl rfl rfl rfl (fun r2 u2 H locs hw2 hP hD hS => ?_)
    obtain ⟨i2, a2⟩ := u2
    dsimp only at hw2
    rcases hw2 with ⟨rfl, rfl, c2⟩ | ⟨rfl, rfl, c2⟩
    · have hP : va_P D vwCl [] H := hP
      have hD : va_D (fun q : Nat => s.heap.size ≤ q) [] := hD
      refine lv_icmp_eq (tgt := 2078) hx hb dL_law_1813 (by decide) (fun _ => ?_) (fun c3 => absurd (by decide) c3)
      exact law_end hC (Nat.le_of_ble_eq_true rfl) (Nat.le_of_ble_eq_true rfl) hS (lv_sub hl [0, 3] rfl)
    · have hP : va_P D vwCl [] H := hP
      have hD : va_D (fun q : Nat => s.heap.size ≤ q) [] := hD
      exact (show False by have bA0 := Int32.le_toInt (xs 1); have bB0 := Int32.toInt_lt (xs 1); have bA1 := Int32.le_toInt (xs 2); have bB1 := Int32.toInt_lt (xs 2); have bA2 := Int32.le_toInt (xs 3); have bB2 := Int32.toInt_lt (xs 3); have bA3 := Int32.le_toInt (xs 4); have bB3 := Int32.toInt_lt (xs 4); revert c1 c2; simp only [vp_in_iff, Int32.lt_iff_toInt_lt, Int32.le_iff_toInt_le, Int64.lt_iff_toInt_lt, Int64.le_iff_toInt_le, Int32.toInt_toInt64, ← Int32.toInt_inj, ← Int64.toInt_inj, Int32.reduceToInt, Int64.reduceToInt] <;> omega).elim
  · have hP : va_P D vwCl [(hM, .inr (12, [.int 0, .int 0, .ref (aM 0), .ref (aM 1), .ref (aM 2), .int 0, .ref (aM 3), .ref (aM 4), .ref (aM 5), .ref (aM 6), .ref (aM 7), .int 0, .int 0, .int 0, .int 0, .long 0, .int (-1), .int 0, .int 0, .ref (aM 8), .int 0, .ref (aM 9), .ref (aM 10), .int 0, .ref (aM 11), .ref (aM 12), .int 0, .int 0, .ref (aM 13), .ref (aM 14), .ref (aM 15), .ref (aM 16), .int 0, .long 0, .long 0, .int 0, .int 0, .int 0, .int 0, .ref (aM 17), .ref (aM 18), .int 0, .int 0, .int 0, .int 0, .ref (aM 19), .ref (aM 20), .int 0, .int 0, .ref (aM 21), .ref (aM 22), .ref (aM 23), .ref (aM 24), .int 0, .int 0, .int 0])), ((aM 0), .inl (k 0, 27101, .inl (fun _ => 0)))] H := hP
    have hD : va_D (fun q : Nat => s.heap.size ≤ q) [(hM, .inr (12, [.int 0, .int 0, .ref (aM 0), .ref (aM 1), .ref (aM 2), .int 0, .ref (aM 3), .ref (aM 4), .ref (aM 5), .ref (aM 6), .ref (aM 7), .int 0, .int 0, .int 0, .int 0, .long 0, .int (-1), .int 0, .int 0, .ref (aM 8), .int 0, .ref (aM 9), .ref (aM 10), .int 0, .ref (aM 11), .ref (aM 12), .int 0, .int 0, .ref (aM 13), .ref (aM 14), .ref (aM 15), .ref (aM 16), .int 0, .long 0, .long 0, .int 0, .int 0, .int 0, .int 0, .ref (aM 17), .ref (aM 18), .int 0, .int 0, .int 0, .int 0, .ref (aM 19), .ref (aM 20), .int 0, .int 0, .ref (aM 21), .ref (aM 22), .ref (aM 23), .ref (aM 24), .int 0, .int 0, .int 0])), ((aM 0), .inl (k 0, 27101, .inl (fun _ => 0)))] := hD
    refine lv_aload_n hx hb dL_law_1789 rfl (lv_at hl 2 rfl) ?_
    refine lv_aload_n hx hb dL_law_1790 rfl (lv_at hl 0 rfl) ?_
    refine lv_iload_n hx hb dL_law_1791 rfl (lv_at hl 3 rfl) ?_
    refine lv_iconst (v := 1) hx hb dL_law_1792 (by decide) ?_
    refine lv_iadd hx hb dL_law_1793 ?_
    refine lv_toc (v := 1) (by decide) ?_
    refine z_sld hx hb hXx hbl hbA hS 1 (by decide) (by unfold vp_in; decide) dL_law_1794 ?_
    refine lv_aload_n hx hb dL_law_1795 rfl (lv_at hl 0 rfl) ?_
    refine lv_iload_n hx hb dL_law_1796 rfl (lv_at hl 3 rfl) ?_
    refine lv_iconst (v := 2) hx hb dL_law_1797 (by decide) ?_
    refine lv_iadd hx hb dL_law_1798 ?_
    refine lv_toc (v := 2) (by decide) ?_
    refine z_sld hx hb hXx hbl hbA hS 2 (by decide) (by unfold vp_in; decide) dL_law_1799 ?_
    refine lv_aload_n hx hb dL_law_1800 rfl (lv_at hl 0 rfl) ?_
    refine lv_iload_n hx hb dL_law_1801 rfl (lv_at hl 3 rfl) ?_
    refine lv_iconst (v := 3) hx hb dL_law_1802 (by decide) ?_
    refine lv_iadd hx hb dL_law_1803 ?_
    refine lv_toc (v := 3) (by decide) ?_
    refine z_sld hx hb hXx hbl hbA hS 3 (by decide) (by unfold vp_in; decide) dL_law_1804 ?_
    refine lv_aload_n hx hb dL_law_1805 rfl (lv_at hl 0 rfl) ?_
    refine lv_iload_n hx hb dL_law_1806 rfl (lv_at hl 3 rfl) ?_
    refine lv_iconst (v := 4) hx hb dL_law_1807 (by decide) ?_
    refine lv_iadd hx hb dL_law_1808 ?_
    refine lv_toc (v := 4) (by decide) ?_
    refine z_sld hx hb hXx hbl hbA hS 4 (by decide) (by unfold vp_in; decide) dL_law_1809 ?_
    refine z_bi (wr := []) (z_runV (C := RX12) (As := [.int (xs 1), .int (xs 2), .int (xs 3), .int (xs 4)]) (rest := [.int 0]) C0 (c_X12_dips_1 l D k hM (aM 0) (aM 1) (aM 2) (aM 3) (aM 4) (aM 5) (aM 6) (aM 7) (aM 8) (aM 9) (aM 10) (aM 11) (aM 12) (aM 13) (aM 14) (aM 15) (aM 16) (aM 17) (aM 18) (aM 19) (aM 20) (aM 21) (aM 22) (aM 23) (aM 24) (xs 1) (xs 2) (xs 3) (xs 4) 0 0 0 0 0 0 0 0 (-1) 0 0 0 0 0 0 0 0 0 0 0 0 0 0 0 0 0 0 0 0 0 0 _) okV_X12_dips kM_L_164 rfl (z_pV (q0 := 0) hK hN hP hD [0, 1] rfl rfl rfl rfl rfl) rfl hl.1 rfl (Nat.le_of_ble_eq_true rfl) dL_law_1810 rfl) hP hD hS hA [0, 1] [] rfl rfl rfl rfl (fun r4 u4 H locs hw4 hP hD hS => ?_)
    obtain ⟨i4, a4⟩ := u4
    dsimp only at hw4
    rcases hw4 with ⟨rfl, rfl, c4⟩ | ⟨rfl, rfl, c4⟩
    · have hP : va_P D vwCl [] H := hP
      have hD : va_D (fun q : Nat => s.heap.size ≤ q) [] := hD
      exact (show False by have bA0 := Int32.le_toInt (xs 1); have bB0 := Int32.toInt_lt (xs 1); have bA1 := Int32.le_toInt (xs 2); have bB1 := Int32.toInt_lt (xs 2); have bA2 := Int32.le_toInt (xs 3); have bB2 := Int32.toInt_lt (xs 3); have bA3 := Int32.le_toInt (xs 4); have bB3 := Int32.toInt_lt (xs 4); revert c1 c4; simp only [vp_in_iff, Int32.lt_iff_toInt_lt, Int32.le_iff_toInt_le, Int64.lt_iff_toInt_lt, Int64.le_iff_toInt_le, Int32.toInt_toInt64, ← Int32.toInt_inj, ← Int64.toInt_inj, Int32.reduceToInt, Int64.reduceToInt] <;> omega).elim
    · have hP : va_P D vwCl [] H := hP
      have hD : va_D (fun q : Nat => s.heap.size ≤ q) [] := hD
      refine lv_icmp_eq (tgt := 2078) hx hb dL_law_1813 (by decide) (fun _ => ?_) (fun c5 => absurd (by decide) c5)
      exact law_end hC (Nat.le_of_ble_eq_true rfl) (Nat.le_of_ble_eq_true rfl) hS (lv_sub hl [0, 3] rfl)

set_option maxHeartbeats 4000000 in
set_option maxRecDepth 100000 in
theorem law_case_36 {p : Program} {l : Launch} {e : Env} {s : State} {m : MethodId} {below : List Frame} {meth : Method} {c : Code} {D : va_G} {k : Nat → ClassId} {b : Nat} {xs : Nat → Int32} (hC : law_C p s m meth c D k b 7 xs) {hX hM : Nat} {aX aM : Nat → Nat} {H : Heap} {locs : List Loc} {ls : Array Slot} (hP : va_P D vwCl (WX k hX aX ++ WM k hM aM) H) (hD : va_D (fun q : Nat => s.heap.size ≤ q) (WX k hX aX ++ WM k hM aM)) (hS : va_S (fun q : Nat => s.heap.size ≤ q) s.heap H locs) (hl : lv_has ls 4 [(0, .ref b), (1, .ref hX), (2, .ref hM), (3, .int 0)]) : W p l e room_1 s m #[Value.ref b] below meth c H locs 100 106558 (lw_Z below #[Value.ref b] s) (F0 m 1818 ls []) := by
  obtain ⟨C0, hr, hlk, hXx, hbl, hK, hN⟩ := id hC
  have hx := C0.1
  have hb := C0.2.1
  have hml := C0.2.2.1
  have hown := C0.2.2.2.1
  have hts := C0.2.2.2.2
  have hA : ∀ q : Nat, s.heap.size ≤ q → (fun q : Nat => s.heap.size ≤ q) q := fun _ h => h
  have hbA : ¬ (fun q : Nat => s.heap.size ≤ q) b := Nat.not_le.mpr hbl
  refine lv_aload_n hx hb dL_law_1818 rfl (lv_at hl 1 rfl) ?_
  refine lv_aload_n hx hb dL_law_1819 rfl (lv_at hl 0 rfl) ?_
  refine lv_iload_n hx hb dL_law_1820 rfl (lv_at hl 3 rfl) ?_
  refine lv_iconst (v := 1) hx hb dL_law_1821 (by decide) ?_
  refine lv_iadd hx hb dL_law_1822 ?_
  refine lv_toc (v := 1) (by decide) ?_
  refine z_sld hx hb hXx hbl hbA hS 1 (by decide) (by unfold vp_in; decide) dL_law_1823 ?_
  refine lv_aload_n hx hb dL_law_1824 rfl (lv_at hl 0 rfl) ?_
  refine lv_iload_n hx hb dL_law_1825 rfl (lv_at hl 3 rfl) ?_
  refine lv_iconst (v := 2) hx hb dL_law_1826 (by decide) ?_
  refine lv_iadd hx hb dL_law_1827 ?_
  refine lv_toc (v := 2) (by decide) ?_
  refine z_sld hx hb hXx hbl hbA hS 2 (by decide) (by unfold vp_in; decide) dL_law_1828 ?_
  refine lv_aload_n hx hb dL_law_1829 rfl (lv_at hl 0 rfl) ?_
  refine lv_iload_n hx hb dL_law_1830 rfl (lv_at hl 3 rfl) ?_
  refine lv_iconst (v := 3) hx hb dL_law_1831 (by decide) ?_
  refine lv_iadd hx hb dL_law_1832 ?_
  refine lv_toc (v := 3) (by decide) ?_
  refine z_sld hx hb hXx hbl hbA hS 3 (by decide) (by unfold vp_in; decide) dL_law_1833 ?_
  refine z_bi (wr := [(hM, .inr (12, [.int 0, .int 0, .ref (aM 0), .ref (aM 1), .ref (aM 2), .int 0, .ref (aM 3), .ref (aM 4), .ref (aM 5), .ref (aM 6), .ref (aM 7), .int 0, .int 0, .int 0, .int 0, .long 0, .int (-1), .int 0, .int 0, .ref (aM 8), .int 0, .ref (aM 9), .ref (aM 10), .int 0, .ref (aM 11), .ref (aM 12), .int 0, .int 0, .ref (aM 13), .ref (aM 14), .ref (aM 15), .ref (aM 16), .int 0, .long 0, .long 0, .int 0, .int 0, .int 0, .int 0, .ref (aM 17), .ref (aM 18), .int 0, .int 0, .int 0, .int 0, .ref (aM 19), .ref (aM 20), .int 0, .int 0, .ref (aM 21), .ref (aM 22), .ref (aM 23), .ref (aM 24), .int 0, .int 0, .int 0])), ((aM 0), .inl (k 0, 27101, .inl (fun _ => 0)))]) (z_runV (C := RX11) (As := [.int (xs 1), .int (xs 2), .int (xs 3)]) (rest := []) C0 (c_X11_draw_1 l D k hX (aX 0) (aX 1) (aX 50) (aX 51) (aX 57) (aX 65) (aX 14) (aX 20) (aX 33) (aX 36) (aX 40) (aX 2) (aX 3) (aX 4) (aX 5) (aX 6) (aX 7) (aX 8) (aX 9) (aX 10) (aX 11) (aX 12) (aX 13) (xs 1) (xs 2) (xs 3) 0 0 0 _) okV_X11_draw kM_L_165 rfl (z_pV (q0 := 0) hK hN hP hD [0, 1, 2] rfl rfl rfl rfl rfl) rfl hl.1 rfl (Nat.le_of_ble_eq_true rfl) dL_law_1834 rfl) hP hD hS hA [0, 1, 2] [74, 75] rfl rfl rfl rfl (fun r1 u1 H locs hw1 hP hD hS => ?_)
  obtain ⟨i1, a1⟩ := u1
  dsimp only at hw1
  rcases hw1 with ⟨rfl, rfl, c1⟩ | ⟨rfl, rfl, c1⟩
  · have hP : va_P D vwCl [(hM, .inr (12, [.int 0, .int 0, .ref (aM 0), .ref (aM 1), .ref (aM 2), .int 0, .ref (aM 3), .ref (aM 4), .ref (aM 5), .ref (aM 6), .ref (aM 7), .int 0, .int 0, .int 0, .int 0, .long 0, .int (-1), .int 0, .int 0, .ref (aM 8), .int 0, .ref (aM 9), .ref (aM 10), .int 0, .ref (aM 11), .ref (aM 12), .int 0, .int 0, .ref (aM 13), .ref (aM 14), .ref (aM 15), .ref (aM 16), .int 0, .long 0, .long 0, .int 0, .int 0, .int 0, .int 0, .ref (aM 17), .ref (aM 18), .int 0, .int 0, .int 0, .int 0, .ref (aM 19), .ref (aM 20), .int 0, .int 0, .ref (aM 21), .ref (aM 22), .ref (aM 23), .ref (aM 24), .int 0, .int 0, .int 0])), ((aM 0), .inl (k 0, 27101, .inl (fun _ => 0)))] H := hP
    have hD : va_D (fun q : Nat => s.heap.size ≤ q) [(hM, .inr (12, [.int 0, .int 0, .ref (aM 0), .ref (aM 1), .ref (aM 2), .int 0, .ref (aM 3), .ref (aM 4), .ref (aM 5), .ref (aM 6), .ref (aM 7), .int 0, .int 0, .int 0, .int 0, .long 0, .int (-1), .int 0, .int 0, .ref (aM 8), .int 0, .ref (aM 9), .ref (aM 10), .int 0, .ref (aM 11), .ref (aM 12), .int 0, .int 0, .ref (aM 13), .ref (aM 14), .ref (aM 15), .ref (aM 16), .int 0, .long 0, .long 0, .int 0, .int 0, .int 0, .int 0, .ref (aM 17), .ref (aM 18), .int 0, .int 0, .int 0, .int 0, .ref (aM 19), .ref (aM 20), .int 0, .int 0, .ref (aM 21), .ref (aM 22), .ref (aM 23), .ref (aM 24), .int 0, .int 0, .int 0])), ((aM 0), .inl (k 0, 27101, .inl (fun _ => 0)))] := hD
    refine lv_aload_n hx hb dL_law_1837 rfl (lv_at hl 2 rfl) ?_
    refine lv_aload_n hx hb dL_law_1838 rfl (lv_at hl 0 rfl) ?_
    refine lv_iload_n hx hb dL_law_1839 rfl (lv_at hl 3 rfl) ?_
    refine lv_iconst (v := 1) hx hb dL_law_1840 (by decide) ?_
    refine lv_iadd hx hb dL_law_1841 ?_
    refine lv_toc (v := 1) (by decide) ?_
    refine z_sld hx hb hXx hbl hbA hS 1 (by decide) (by unfold vp_in; decide) dL_law_1842 ?_
    refine lv_aload_n hx hb dL_law_1843 rfl (lv_at hl 0 rfl) ?_
    refine lv_iload_n hx hb dL_law_1844 rfl (lv_at hl 3 rfl) ?_
    refine lv_iconst (v := 2) hx hb dL_law_1845 (by decide) ?_
    refine lv_iadd hx hb dL_law_1846 ?_
    refine lv_toc (v := 2) (by decide) ?_
    refine z_sld hx hb hXx hbl hbA hS 2 (by decide) (by unfold vp_in; decide) dL_law_1847 ?_
    refine lv_aload_n hx hb dL_law_1848 rfl (lv_at hl 0 rfl) ?_
    refine lv_iload_n hx hb dL_law_1849 rfl (lv_at hl 3 rfl) ?_
    refine lv_iconst (v := 3) hx hb dL_law_1850 (by decide) ?_
    refine lv_iadd hx hb dL_law_1851 ?_
    refine lv_toc (v := 3) (by decide) ?_
    refine z_sld hx hb hXx hbl hbA hS 3 (by decide) (by unfold vp_in; decide) dL_law_1852 ?_
    refine z_bi (wr := []) (z_runV (C := RX12) (As := [.int (xs 1), .int (xs 2), .int (xs 3)]) (rest := [.int (-1)]) C0 (c_X12_draw_1 l D k hM (aM 0) (aM 1) (aM 2) (aM 3) (aM 4) (aM 5) (aM 6) (aM 7) (aM 8) (aM 9) (aM 10) (aM 11) (aM 12) (aM 13) (aM 14) (aM 15) (aM 16) (aM 17) (aM 18) (aM 19) (aM 20) (aM 21) (aM 22) (aM 23) (aM 24) (xs 1) (xs 2) (xs 3) 0 0 0 0 0 0 0 0 (-1) 0 0 0 0 0 0 0 0 0 0 0 0 0 0 0 0 0 0 0 0 0 0 _) okV_X12_draw kM_L_168 rfl (z_pV (q0 := 0) hK hN hP hD [0, 1] rfl rfl rfl rfl rfl) rfl hl.1 rfl (Nat.le_of_ble_eq_true rfl) dL_law_1853 rfl) hP hD hS hA [0, 1] [] rfl rfl rfl rfl (fun r2 u2 H locs hw2 hP hD hS => ?_)
    obtain ⟨i2, a2⟩ := u2
    dsimp only at hw2
    rcases hw2 with ⟨rfl, rfl, c2⟩ | ⟨rfl, rfl, c2⟩
    · have hP : va_P D vwCl [] H := hP
      have hD : va_D (fun q : Nat => s.heap.size ≤ q) [] := hD
      refine lv_icmp_eq (tgt := 2078) hx hb dL_law_1856 (by decide) (fun _ => ?_) (fun c3 => absurd (by decide) c3)
      exact law_end hC (Nat.le_of_ble_eq_true rfl) (Nat.le_of_ble_eq_true rfl) hS (lv_sub hl [0, 3] rfl)
    · have hP : va_P D vwCl [] H := hP
      have hD : va_D (fun q : Nat => s.heap.size ≤ q) [] := hD
      exact (show False by have bA0 := Int32.le_toInt (xs 2); have bB0 := Int32.toInt_lt (xs 2); have bA1 := Int32.le_toInt (xs 3); have bB1 := Int32.toInt_lt (xs 3); revert c1 c2; simp only [vp_in_iff, Int32.lt_iff_toInt_lt, Int32.le_iff_toInt_le, Int64.lt_iff_toInt_lt, Int64.le_iff_toInt_le, Int32.toInt_toInt64, ← Int32.toInt_inj, ← Int64.toInt_inj, Int32.reduceToInt, Int64.reduceToInt] <;> omega).elim
  · have hP : va_P D vwCl [(hM, .inr (12, [.int 0, .int 0, .ref (aM 0), .ref (aM 1), .ref (aM 2), .int 0, .ref (aM 3), .ref (aM 4), .ref (aM 5), .ref (aM 6), .ref (aM 7), .int 0, .int 0, .int 0, .int 0, .long 0, .int (-1), .int 0, .int 0, .ref (aM 8), .int 0, .ref (aM 9), .ref (aM 10), .int 0, .ref (aM 11), .ref (aM 12), .int 0, .int 0, .ref (aM 13), .ref (aM 14), .ref (aM 15), .ref (aM 16), .int 0, .long 0, .long 0, .int 0, .int 0, .int 0, .int 0, .ref (aM 17), .ref (aM 18), .int 0, .int 0, .int 0, .int 0, .ref (aM 19), .ref (aM 20), .int 0, .int 0, .ref (aM 21), .ref (aM 22), .ref (aM 23), .ref (aM 24), .int 0, .int 0, .int 0])), ((aM 0), .inl (k 0, 27101, .inl (fun _ => 0)))] H := hP
    have hD : va_D (fun q : Nat => s.heap.size ≤ q) [(hM, .inr (12, [.int 0, .int 0, .ref (aM 0), .ref (aM 1), .ref (aM 2), .int 0, .ref (aM 3), .ref (aM 4), .ref (aM 5), .ref (aM 6), .ref (aM 7), .int 0, .int 0, .int 0, .int 0, .long 0, .int (-1), .int 0, .int 0, .ref (aM 8), .int 0, .ref (aM 9), .ref (aM 10), .int 0, .ref (aM 11), .ref (aM 12), .int 0, .int 0, .ref (aM 13), .ref (aM 14), .ref (aM 15), .ref (aM 16), .int 0, .long 0, .long 0, .int 0, .int 0, .int 0, .int 0, .ref (aM 17), .ref (aM 18), .int 0, .int 0, .int 0, .int 0, .ref (aM 19), .ref (aM 20), .int 0, .int 0, .ref (aM 21), .ref (aM 22), .ref (aM 23), .ref (aM 24), .int 0, .int 0, .int 0])), ((aM 0), .inl (k 0, 27101, .inl (fun _ => 0)))] := hD
    refine lv_aload_n hx hb dL_law_1837 rfl (lv_at hl 2 rfl) ?_
    refine lv_aload_n hx hb dL_law_1838 rfl (lv_at hl 0 rfl) ?_
    refine lv_iload_n hx hb dL_law_1839 rfl (lv_at hl 3 rfl) ?_
    refine lv_iconst (v := 1) hx hb dL_law_1840 (by decide) ?_
    refine lv_iadd hx hb dL_law_1841 ?_
    refine lv_toc (v := 1) (by decide) ?_
    refine z_sld hx hb hXx hbl hbA hS 1 (by decide) (by unfold vp_in; decide) dL_law_1842 ?_
    refine lv_aload_n hx hb dL_law_1843 rfl (lv_at hl 0 rfl) ?_
    refine lv_iload_n hx hb dL_law_1844 rfl (lv_at hl 3 rfl) ?_
    refine lv_iconst (v := 2) hx hb dL_law_1845 (by decide) ?_
    refine lv_iadd hx hb dL_law_1846 ?_
    refine lv_toc (v := 2) (by decide) ?_
    refine z_sld hx hb hXx hbl hbA hS 2 (by decide) (by unfold vp_in; decide) dL_law_1847 ?_
    refine lv_aload_n hx hb dL_law_1848 rfl (lv_at hl 0 rfl) ?_
    refine lv_iload_n hx hb dL_law_1849 rfl (lv_at hl 3 rfl) ?_
    refine lv_iconst (v := 3) hx hb dL_law_1850 (by decide) ?_
    refine lv_iadd hx hb dL_law_1851 ?_
    refine lv_toc (v := 3) (by decide) ?_
    refine z_sld hx hb hXx hbl hbA hS 3 (by decide) (by unfold vp_in; decide) dL_law_1852 ?_
    refine z_bi (wr := []) (z_runV (C := RX12) (As := [.int (xs 1), .int (xs 2), .int (xs 3)]) (rest := [.int (-2)]) C0 (c_X12_draw_1 l D k hM (aM 0) (aM 1) (aM 2) (aM 3) (aM 4) (aM 5) (aM 6) (aM 7) (aM 8) (aM 9) (aM 10) (aM 11) (aM 12) (aM 13) (aM 14) (aM 15) (aM 16) (aM 17) (aM 18) (aM 19) (aM 20) (aM 21) (aM 22) (aM 23) (aM 24) (xs 1) (xs 2) (xs 3) 0 0 0 0 0 0 0 0 (-1) 0 0 0 0 0 0 0 0 0 0 0 0 0 0 0 0 0 0 0 0 0 0 _) okV_X12_draw kM_L_168 rfl (z_pV (q0 := 0) hK hN hP hD [0, 1] rfl rfl rfl rfl rfl) rfl hl.1 rfl (Nat.le_of_ble_eq_true rfl) dL_law_1853 rfl) hP hD hS hA [0, 1] [] rfl rfl rfl rfl (fun r4 u4 H locs hw4 hP hD hS => ?_)
    obtain ⟨i4, a4⟩ := u4
    dsimp only at hw4
    rcases hw4 with ⟨rfl, rfl, c4⟩ | ⟨rfl, rfl, c4⟩
    · have hP : va_P D vwCl [] H := hP
      have hD : va_D (fun q : Nat => s.heap.size ≤ q) [] := hD
      exact (show False by have bA0 := Int32.le_toInt (xs 2); have bB0 := Int32.toInt_lt (xs 2); have bA1 := Int32.le_toInt (xs 3); have bB1 := Int32.toInt_lt (xs 3); revert c1 c4; simp only [vp_in_iff, Int32.lt_iff_toInt_lt, Int32.le_iff_toInt_le, Int64.lt_iff_toInt_lt, Int64.le_iff_toInt_le, Int32.toInt_toInt64, ← Int32.toInt_inj, ← Int64.toInt_inj, Int32.reduceToInt, Int64.reduceToInt] <;> omega).elim
    · have hP : va_P D vwCl [] H := hP
      have hD : va_D (fun q : Nat => s.heap.size ≤ q) [] := hD
      refine lv_icmp_eq (tgt := 2078) hx hb dL_law_1856 (by decide) (fun _ => ?_) (fun c5 => absurd (by decide) c5)
      exact law_end hC (Nat.le_of_ble_eq_true rfl) (Nat.le_of_ble_eq_true rfl) hS (lv_sub hl [0, 3] rfl)

set_option maxHeartbeats 4000000 in
set_option maxRecDepth 100000 in
theorem law_case_37 {p : Program} {l : Launch} {e : Env} {s : State} {m : MethodId} {below : List Frame} {meth : Method} {c : Code} {D : va_G} {k : Nat → ClassId} {b : Nat} {xs : Nat → Int32} (hC : law_C p s m meth c D k b 7 xs) {hX hM : Nat} {aX aM : Nat → Nat} {H : Heap} {locs : List Loc} {ls : Array Slot} (hP : va_P D vwCl (WX k hX aX ++ WM k hM aM) H) (hD : va_D (fun q : Nat => s.heap.size ≤ q) (WX k hX aX ++ WM k hM aM)) (hS : va_S (fun q : Nat => s.heap.size ≤ q) s.heap H locs) (hl : lv_has ls 4 [(0, .ref b), (1, .ref hX), (2, .ref hM), (3, .int 0)]) : W p l e room_1 s m #[Value.ref b] below meth c H locs 100 106558 (lw_Z below #[Value.ref b] s) (F0 m 1861 ls []) := by
  obtain ⟨C0, hr, hlk, hXx, hbl, hK, hN⟩ := id hC
  have hx := C0.1
  have hb := C0.2.1
  have hml := C0.2.2.1
  have hown := C0.2.2.2.1
  have hts := C0.2.2.2.2
  have hA : ∀ q : Nat, s.heap.size ≤ q → (fun q : Nat => s.heap.size ≤ q) q := fun _ h => h
  have hbA : ¬ (fun q : Nat => s.heap.size ≤ q) b := Nat.not_le.mpr hbl
  refine lv_aload_n hx hb dL_law_1861 rfl (lv_at hl 1 rfl) ?_
  refine lv_aload_n hx hb dL_law_1862 rfl (lv_at hl 0 rfl) ?_
  refine lv_iload_n hx hb dL_law_1863 rfl (lv_at hl 3 rfl) ?_
  refine lv_iconst (v := 1) hx hb dL_law_1864 (by decide) ?_
  refine lv_iadd hx hb dL_law_1865 ?_
  refine lv_toc (v := 1) (by decide) ?_
  refine z_sld hx hb hXx hbl hbA hS 1 (by decide) (by unfold vp_in; decide) dL_law_1866 ?_
  refine z_bi (wr := [(hM, .inr (12, [.int 0, .int 0, .ref (aM 0), .ref (aM 1), .ref (aM 2), .int 0, .ref (aM 3), .ref (aM 4), .ref (aM 5), .ref (aM 6), .ref (aM 7), .int 0, .int 0, .int 0, .int 0, .long 0, .int (-1), .int 0, .int 0, .ref (aM 8), .int 0, .ref (aM 9), .ref (aM 10), .int 0, .ref (aM 11), .ref (aM 12), .int 0, .int 0, .ref (aM 13), .ref (aM 14), .ref (aM 15), .ref (aM 16), .int 0, .long 0, .long 0, .int 0, .int 0, .int 0, .int 0, .ref (aM 17), .ref (aM 18), .int 0, .int 0, .int 0, .int 0, .ref (aM 19), .ref (aM 20), .int 0, .int 0, .ref (aM 21), .ref (aM 22), .ref (aM 23), .ref (aM 24), .int 0, .int 0, .int 0])), ((aM 0), .inl (k 0, 27101, .inl (fun _ => 0)))]) (z_runV (C := RX11) (As := [.int (xs 1)]) (rest := []) C0 (c_X11_helped_1 l D k hX (aX 65) (aX 72) (aX 40) (aX 0) (aX 50) (aX 51) (aX 57) (aX 1) (aX 66) (aX 67) (aX 68) (aX 69) (aX 70) (aX 71) (aX 41) (aX 42) (aX 43) (aX 44) (aX 45) (aX 46) (aX 47) (aX 48) (aX 49) (xs 1) 0 0 (-1) 0 0 0 0 0 0 _) okV_X11_helped kM_L_169 rfl (z_pV (q0 := 0) hK hN hP hD [0, 66, 73, 41] rfl rfl rfl rfl rfl) rfl hl.1 rfl (Nat.le_of_ble_eq_true rfl) dL_law_1867 rfl) hP hD hS hA [0, 66, 73, 41] [74, 75] rfl rfl rfl rfl (fun r1 u1 H locs hw1 hP hD hS => ?_)
  obtain ⟨i1, a1⟩ := u1
  dsimp only at hw1
  rcases hw1 with ⟨rfl, rfl, c1⟩ | ⟨rfl, rfl, c1⟩
  · have hP : va_P D vwCl [(hM, .inr (12, [.int 0, .int 0, .ref (aM 0), .ref (aM 1), .ref (aM 2), .int 0, .ref (aM 3), .ref (aM 4), .ref (aM 5), .ref (aM 6), .ref (aM 7), .int 0, .int 0, .int 0, .int 0, .long 0, .int (-1), .int 0, .int 0, .ref (aM 8), .int 0, .ref (aM 9), .ref (aM 10), .int 0, .ref (aM 11), .ref (aM 12), .int 0, .int 0, .ref (aM 13), .ref (aM 14), .ref (aM 15), .ref (aM 16), .int 0, .long 0, .long 0, .int 0, .int 0, .int 0, .int 0, .ref (aM 17), .ref (aM 18), .int 0, .int 0, .int 0, .int 0, .ref (aM 19), .ref (aM 20), .int 0, .int 0, .ref (aM 21), .ref (aM 22), .ref (aM 23), .ref (aM 24), .int 0, .int 0, .int 0])), ((aM 0), .inl (k 0, 27101, .inl (fun _ => 0)))] H := hP
    have hD : va_D (fun q : Nat => s.heap.size ≤ q) [(hM, .inr (12, [.int 0, .int 0, .ref (aM 0), .ref (aM 1), .ref (aM 2), .int 0, .ref (aM 3), .ref (aM 4), .ref (aM 5), .ref (aM 6), .ref (aM 7), .int 0, .int 0, .int 0, .int 0, .long 0, .int (-1), .int 0, .int 0, .ref (aM 8), .int 0, .ref (aM 9), .ref (aM 10), .int 0, .ref (aM 11), .ref (aM 12), .int 0, .int 0, .ref (aM 13), .ref (aM 14), .ref (aM 15), .ref (aM 16), .int 0, .long 0, .long 0, .int 0, .int 0, .int 0, .int 0, .ref (aM 17), .ref (aM 18), .int 0, .int 0, .int 0, .int 0, .ref (aM 19), .ref (aM 20), .int 0, .int 0, .ref (aM 21), .ref (aM 22), .ref (aM 23), .ref (aM 24), .int 0, .int 0, .int 0])), ((aM 0), .inl (k 0, 27101, .inl (fun _ => 0)))] := hD
    refine lv_aload_n hx hb dL_law_1870 rfl (lv_at hl 2 rfl) ?_
    refine lv_aload_n hx hb dL_law_1871 rfl (lv_at hl 0 rfl) ?_
    refine lv_iload_n hx hb dL_law_1872 rfl (lv_at hl 3 rfl) ?_
    refine lv_iconst (v := 1) hx hb dL_law_1873 (by decide) ?_
    refine lv_iadd hx hb dL_law_1874 ?_
    refine lv_toc (v := 1) (by decide) ?_
    refine z_sld hx hb hXx hbl hbA hS 1 (by decide) (by unfold vp_in; decide) dL_law_1875 ?_
    refine z_bi (wr := []) (z_runV (C := RX12) (As := [.int (xs 1)]) (rest := [.int (-1)]) C0 (c_X12_helped_1 l D k hM (aM 0) (aM 1) (aM 2) (aM 3) (aM 4) (aM 5) (aM 6) (aM 7) (aM 8) (aM 9) (aM 10) (aM 11) (aM 12) (aM 13) (aM 14) (aM 15) (aM 16) (aM 17) (aM 18) (aM 19) (aM 20) (aM 21) (aM 22) (aM 23) (aM 24) (xs 1) 0 0 0 0 0 0 0 0 (-1) 0 0 0 0 0 0 0 0 0 0 0 0 0 0 0 0 0 0 0 0 0 0 _) okV_X12_helped kM_L_172 rfl (z_pV (q0 := 0) hK hN hP hD [0, 1] rfl rfl rfl rfl rfl) rfl hl.1 rfl (Nat.le_of_ble_eq_true rfl) dL_law_1876 rfl) hP hD hS hA [0, 1] [] rfl rfl rfl rfl (fun r2 u2 H locs hw2 hP hD hS => ?_)
    obtain ⟨i2, a2⟩ := u2
    dsimp only at hw2
    rcases hw2 with ⟨rfl, rfl, c2⟩ | ⟨rfl, rfl, c2⟩
    · have hP : va_P D vwCl [] H := hP
      have hD : va_D (fun q : Nat => s.heap.size ≤ q) [] := hD
      refine lv_icmp_eq (tgt := 2078) hx hb dL_law_1879 (by decide) (fun _ => ?_) (fun c3 => absurd (by decide) c3)
      exact law_end hC (Nat.le_of_ble_eq_true rfl) (Nat.le_of_ble_eq_true rfl) hS (lv_sub hl [0, 3] rfl)
    · have hP : va_P D vwCl [] H := hP
      have hD : va_D (fun q : Nat => s.heap.size ≤ q) [] := hD
      exact (show False by have bA0 := Int32.le_toInt (xs 1); have bB0 := Int32.toInt_lt (xs 1); revert c1 c2; simp only [vp_in_iff, Int32.lt_iff_toInt_lt, Int32.le_iff_toInt_le, Int64.lt_iff_toInt_lt, Int64.le_iff_toInt_le, Int32.toInt_toInt64, ← Int32.toInt_inj, ← Int64.toInt_inj, Int32.reduceToInt, Int64.reduceToInt] <;> omega).elim
  · have hP : va_P D vwCl [(hM, .inr (12, [.int 0, .int 0, .ref (aM 0), .ref (aM 1), .ref (aM 2), .int 0, .ref (aM 3), .ref (aM 4), .ref (aM 5), .ref (aM 6), .ref (aM 7), .int 0, .int 0, .int 0, .int 0, .long 0, .int (-1), .int 0, .int 0, .ref (aM 8), .int 0, .ref (aM 9), .ref (aM 10), .int 0, .ref (aM 11), .ref (aM 12), .int 0, .int 0, .ref (aM 13), .ref (aM 14), .ref (aM 15), .ref (aM 16), .int 0, .long 0, .long 0, .int 0, .int 0, .int 0, .int 0, .ref (aM 17), .ref (aM 18), .int 0, .int 0, .int 0, .int 0, .ref (aM 19), .ref (aM 20), .int 0, .int 0, .ref (aM 21), .ref (aM 22), .ref (aM 23), .ref (aM 24), .int 0, .int 0, .int 0])), ((aM 0), .inl (k 0, 27101, .inl (fun _ => 0)))] H := hP
    have hD : va_D (fun q : Nat => s.heap.size ≤ q) [(hM, .inr (12, [.int 0, .int 0, .ref (aM 0), .ref (aM 1), .ref (aM 2), .int 0, .ref (aM 3), .ref (aM 4), .ref (aM 5), .ref (aM 6), .ref (aM 7), .int 0, .int 0, .int 0, .int 0, .long 0, .int (-1), .int 0, .int 0, .ref (aM 8), .int 0, .ref (aM 9), .ref (aM 10), .int 0, .ref (aM 11), .ref (aM 12), .int 0, .int 0, .ref (aM 13), .ref (aM 14), .ref (aM 15), .ref (aM 16), .int 0, .long 0, .long 0, .int 0, .int 0, .int 0, .int 0, .ref (aM 17), .ref (aM 18), .int 0, .int 0, .int 0, .int 0, .ref (aM 19), .ref (aM 20), .int 0, .int 0, .ref (aM 21), .ref (aM 22), .ref (aM 23), .ref (aM 24), .int 0, .int 0, .int 0])), ((aM 0), .inl (k 0, 27101, .inl (fun _ => 0)))] := hD
    refine lv_aload_n hx hb dL_law_1870 rfl (lv_at hl 2 rfl) ?_
    refine lv_aload_n hx hb dL_law_1871 rfl (lv_at hl 0 rfl) ?_
    refine lv_iload_n hx hb dL_law_1872 rfl (lv_at hl 3 rfl) ?_
    refine lv_iconst (v := 1) hx hb dL_law_1873 (by decide) ?_
    refine lv_iadd hx hb dL_law_1874 ?_
    refine lv_toc (v := 1) (by decide) ?_
    refine z_sld hx hb hXx hbl hbA hS 1 (by decide) (by unfold vp_in; decide) dL_law_1875 ?_
    refine z_bi (wr := []) (z_runV (C := RX12) (As := [.int (xs 1)]) (rest := [.int 1]) C0 (c_X12_helped_1 l D k hM (aM 0) (aM 1) (aM 2) (aM 3) (aM 4) (aM 5) (aM 6) (aM 7) (aM 8) (aM 9) (aM 10) (aM 11) (aM 12) (aM 13) (aM 14) (aM 15) (aM 16) (aM 17) (aM 18) (aM 19) (aM 20) (aM 21) (aM 22) (aM 23) (aM 24) (xs 1) 0 0 0 0 0 0 0 0 (-1) 0 0 0 0 0 0 0 0 0 0 0 0 0 0 0 0 0 0 0 0 0 0 _) okV_X12_helped kM_L_172 rfl (z_pV (q0 := 0) hK hN hP hD [0, 1] rfl rfl rfl rfl rfl) rfl hl.1 rfl (Nat.le_of_ble_eq_true rfl) dL_law_1876 rfl) hP hD hS hA [0, 1] [] rfl rfl rfl rfl (fun r4 u4 H locs hw4 hP hD hS => ?_)
    obtain ⟨i4, a4⟩ := u4
    dsimp only at hw4
    rcases hw4 with ⟨rfl, rfl, c4⟩ | ⟨rfl, rfl, c4⟩
    · have hP : va_P D vwCl [] H := hP
      have hD : va_D (fun q : Nat => s.heap.size ≤ q) [] := hD
      exact (show False by have bA0 := Int32.le_toInt (xs 1); have bB0 := Int32.toInt_lt (xs 1); revert c1 c4; simp only [vp_in_iff, Int32.lt_iff_toInt_lt, Int32.le_iff_toInt_le, Int64.lt_iff_toInt_lt, Int64.le_iff_toInt_le, Int32.toInt_toInt64, ← Int32.toInt_inj, ← Int64.toInt_inj, Int32.reduceToInt, Int64.reduceToInt] <;> omega).elim
    · have hP : va_P D vwCl [] H := hP
      have hD : va_D (fun q : Nat => s.heap.size ≤ q) [] := hD
      refine lv_icmp_eq (tgt := 2078) hx hb dL_law_1879 (by decide) (fun _ => ?_) (fun c5 => absurd (by decide) c5)
      exact law_end hC (Nat.le_of_ble_eq_true rfl) (Nat.le_of_ble_eq_true rfl) hS (lv_sub hl [0, 3] rfl)

set_option maxHeartbeats 4000000 in
set_option maxRecDepth 100000 in
theorem law_case_38 {p : Program} {l : Launch} {e : Env} {s : State} {m : MethodId} {below : List Frame} {meth : Method} {c : Code} {D : va_G} {k : Nat → ClassId} {b : Nat} {xs : Nat → Int32} (hC : law_C p s m meth c D k b 7 xs) {hX hM : Nat} {aX aM : Nat → Nat} {H : Heap} {locs : List Loc} {ls : Array Slot} (hP : va_P D vwCl (WX k hX aX ++ WM k hM aM) H) (hD : va_D (fun q : Nat => s.heap.size ≤ q) (WX k hX aX ++ WM k hM aM)) (hS : va_S (fun q : Nat => s.heap.size ≤ q) s.heap H locs) (hl : lv_has ls 4 [(0, .ref b), (1, .ref hX), (2, .ref hM), (3, .int 0)]) : W p l e room_1 s m #[Value.ref b] below meth c H locs 100 106558 (lw_Z below #[Value.ref b] s) (F0 m 1884 ls []) := by
  obtain ⟨C0, hr, hlk, hXx, hbl, hK, hN⟩ := id hC
  have hx := C0.1
  have hb := C0.2.1
  have hml := C0.2.2.1
  have hown := C0.2.2.2.1
  have hts := C0.2.2.2.2
  have hA : ∀ q : Nat, s.heap.size ≤ q → (fun q : Nat => s.heap.size ≤ q) q := fun _ h => h
  have hbA : ¬ (fun q : Nat => s.heap.size ≤ q) b := Nat.not_le.mpr hbl
  refine lv_aload_n hx hb dL_law_1884 rfl (lv_at hl 1 rfl) ?_
  refine lv_aload_n hx hb dL_law_1885 rfl (lv_at hl 0 rfl) ?_
  refine lv_iload_n hx hb dL_law_1886 rfl (lv_at hl 3 rfl) ?_
  refine lv_iconst (v := 1) hx hb dL_law_1887 (by decide) ?_
  refine lv_iadd hx hb dL_law_1888 ?_
  refine lv_toc (v := 1) (by decide) ?_
  refine z_sld hx hb hXx hbl hbA hS 1 (by decide) (by unfold vp_in; decide) dL_law_1889 ?_
  refine lv_aload_n hx hb dL_law_1890 rfl (lv_at hl 0 rfl) ?_
  refine lv_iload_n hx hb dL_law_1891 rfl (lv_at hl 3 rfl) ?_
  refine lv_iconst (v := 2) hx hb dL_law_1892 (by decide) ?_
  refine lv_iadd hx hb dL_law_1893 ?_
  refine lv_toc (v := 2) (by decide) ?_
  refine z_sld hx hb hXx hbl hbA hS 2 (by decide) (by unfold vp_in; decide) dL_law_1894 ?_
  refine z_bi (wr := [(hM, .inr (12, [.int 0, .int 0, .ref (aM 0), .ref (aM 1), .ref (aM 2), .int 0, .ref (aM 3), .ref (aM 4), .ref (aM 5), .ref (aM 6), .ref (aM 7), .int 0, .int 0, .int 0, .int 0, .long 0, .int (-1), .int 0, .int 0, .ref (aM 8), .int 0, .ref (aM 9), .ref (aM 10), .int 0, .ref (aM 11), .ref (aM 12), .int 0, .int 0, .ref (aM 13), .ref (aM 14), .ref (aM 15), .ref (aM 16), .int 0, .long 0, .long 0, .int 0, .int 0, .int 0, .int 0, .ref (aM 17), .ref (aM 18), .int 0, .int 0, .int 0, .int 0, .ref (aM 19), .ref (aM 20), .int 0, .int 0, .ref (aM 21), .ref (aM 22), .ref (aM 23), .ref (aM 24), .int 0, .int 0, .int 0])), ((aM 0), .inl (k 0, 27101, .inl (fun _ => 0)))]) (z_runV (C := RX11) (As := [.int (xs 1), .int (xs 2)]) (rest := []) C0 (c_X11_beside_1 l D k hX (aX 0) (aX 33) (aX 51) (aX 55) (aX 50) (aX 57) (aX 65) (aX 1) (aX 14) (aX 20) (aX 36) (aX 40) (aX 34) (aX 35) (aX 52) (aX 53) (aX 54) (aX 56) (xs 1) (xs 2) 0 0 0 0 0 (fun _ => 0) _) okV_X11_beside kM_L_173 rfl (z_pV (q0 := 0) hK hN hP hD [0, 1, 34, 52, 56] rfl rfl rfl rfl rfl) rfl hl.1 rfl (Nat.le_of_ble_eq_true rfl) dL_law_1895 rfl) hP hD hS hA [0, 1, 34, 52, 56] [74, 75] rfl rfl rfl rfl (fun r1 u1 H locs hw1 hP hD hS => ?_)
  obtain ⟨i1, a1⟩ := u1
  dsimp only at hw1
  obtain ⟨rfl, rfl⟩ := hw1
  have hP : va_P D vwCl [(hM, .inr (12, [.int 0, .int 0, .ref (aM 0), .ref (aM 1), .ref (aM 2), .int 0, .ref (aM 3), .ref (aM 4), .ref (aM 5), .ref (aM 6), .ref (aM 7), .int 0, .int 0, .int 0, .int 0, .long 0, .int (-1), .int 0, .int 0, .ref (aM 8), .int 0, .ref (aM 9), .ref (aM 10), .int 0, .ref (aM 11), .ref (aM 12), .int 0, .int 0, .ref (aM 13), .ref (aM 14), .ref (aM 15), .ref (aM 16), .int 0, .long 0, .long 0, .int 0, .int 0, .int 0, .int 0, .ref (aM 17), .ref (aM 18), .int 0, .int 0, .int 0, .int 0, .ref (aM 19), .ref (aM 20), .int 0, .int 0, .ref (aM 21), .ref (aM 22), .ref (aM 23), .ref (aM 24), .int 0, .int 0, .int 0])), ((aM 0), .inl (k 0, 27101, .inl (fun _ => 0)))] H := hP
  have hD : va_D (fun q : Nat => s.heap.size ≤ q) [(hM, .inr (12, [.int 0, .int 0, .ref (aM 0), .ref (aM 1), .ref (aM 2), .int 0, .ref (aM 3), .ref (aM 4), .ref (aM 5), .ref (aM 6), .ref (aM 7), .int 0, .int 0, .int 0, .int 0, .long 0, .int (-1), .int 0, .int 0, .ref (aM 8), .int 0, .ref (aM 9), .ref (aM 10), .int 0, .ref (aM 11), .ref (aM 12), .int 0, .int 0, .ref (aM 13), .ref (aM 14), .ref (aM 15), .ref (aM 16), .int 0, .long 0, .long 0, .int 0, .int 0, .int 0, .int 0, .ref (aM 17), .ref (aM 18), .int 0, .int 0, .int 0, .int 0, .ref (aM 19), .ref (aM 20), .int 0, .int 0, .ref (aM 21), .ref (aM 22), .ref (aM 23), .ref (aM 24), .int 0, .int 0, .int 0])), ((aM 0), .inl (k 0, 27101, .inl (fun _ => 0)))] := hD
  refine lv_aload_n hx hb dL_law_1898 rfl (lv_at hl 2 rfl) ?_
  refine lv_aload_n hx hb dL_law_1899 rfl (lv_at hl 0 rfl) ?_
  refine lv_iload_n hx hb dL_law_1900 rfl (lv_at hl 3 rfl) ?_
  refine lv_iconst (v := 1) hx hb dL_law_1901 (by decide) ?_
  refine lv_iadd hx hb dL_law_1902 ?_
  refine lv_toc (v := 1) (by decide) ?_
  refine z_sld hx hb hXx hbl hbA hS 1 (by decide) (by unfold vp_in; decide) dL_law_1903 ?_
  refine lv_aload_n hx hb dL_law_1904 rfl (lv_at hl 0 rfl) ?_
  refine lv_iload_n hx hb dL_law_1905 rfl (lv_at hl 3 rfl) ?_
  refine lv_iconst (v := 2) hx hb dL_law_1906 (by decide) ?_
  refine lv_iadd hx hb dL_law_1907 ?_
  refine lv_toc (v := 2) (by decide) ?_
  refine z_sld hx hb hXx hbl hbA hS 2 (by decide) (by unfold vp_in; decide) dL_law_1908 ?_
  refine z_bi (wr := []) (z_runV (C := RX12) (As := [.int (xs 1), .int (xs 2)]) (rest := [.int (-1)]) C0 (c_X12_beside_1 l D k hM (aM 0) (aM 1) (aM 2) (aM 3) (aM 4) (aM 5) (aM 6) (aM 7) (aM 8) (aM 9) (aM 10) (aM 11) (aM 12) (aM 13) (aM 14) (aM 15) (aM 16) (aM 17) (aM 18) (aM 19) (aM 20) (aM 21) (aM 22) (aM 23) (aM 24) (xs 1) (xs 2) 0 0 0 0 (-1) 0 0 0 0 0 0 0 0 0 0 0 0 0 0 0 0 0 0 0 0 0 _) okV_X12_beside kM_L_176 rfl (z_pV (q0 := 0) hK hN hP hD [0, 1] rfl rfl rfl rfl rfl) rfl hl.1 rfl (Nat.le_of_ble_eq_true rfl) dL_law_1909 rfl) hP hD hS hA [0, 1] [] rfl rfl rfl rfl (fun r2 u2 H locs hw2 hP hD hS => ?_)
  obtain ⟨i2, a2⟩ := u2
  dsimp only at hw2
  obtain ⟨rfl, rfl⟩ := hw2
  have hP : va_P D vwCl [] H := hP
  have hD : va_D (fun q : Nat => s.heap.size ≤ q) [] := hD
  refine lv_icmp_eq (tgt := 2078) hx hb dL_law_1912 (by decide) (fun _ => ?_) (fun c3 => absurd (by decide) c3)
  exact law_end hC (Nat.le_of_ble_eq_true rfl) (Nat.le_of_ble_eq_true rfl) hS (lv_sub hl [0, 3] rfl)

set_option maxHeartbeats 4000000 in
set_option maxRecDepth 100000 in
theorem law_case_39 {p : Program} {l : Launch} {e : Env} {s : State} {m : MethodId} {below : List Frame} {meth : Method} {c : Code} {D : va_G} {k : Nat → ClassId} {b : Nat} {xs : Nat → Int32} (hC : law_C p s m meth c D k b 7 xs) {hX hM : Nat} {aX aM : Nat → Nat} {H : Heap} {locs : List Loc} {ls : Array Slot} (hP : va_P D vwCl (WX k hX aX ++ WM k hM aM) H) (hD : va_D (fun q : Nat => s.heap.size ≤ q) (WX k hX aX ++ WM k hM aM)) (hS : va_S (fun q : Nat => s.heap.size ≤ q) s.heap H locs) (hl : lv_has ls 4 [(0, .ref b), (1, .ref hX), (2, .ref hM), (3, .int 0)]) : W p l e room_1 s m #[Value.ref b] below meth c H locs 100 106558 (lw_Z below #[Value.ref b] s) (F0 m 1917 ls []) := by
  obtain ⟨C0, hr, hlk, hXx, hbl, hK, hN⟩ := id hC
  have hx := C0.1
  have hb := C0.2.1
  have hml := C0.2.2.1
  have hown := C0.2.2.2.1
  have hts := C0.2.2.2.2
  have hA : ∀ q : Nat, s.heap.size ≤ q → (fun q : Nat => s.heap.size ≤ q) q := fun _ h => h
  have hbA : ¬ (fun q : Nat => s.heap.size ≤ q) b := Nat.not_le.mpr hbl
  refine lv_aload_n hx hb dL_law_1917 rfl (lv_at hl 1 rfl) ?_
  refine lv_aload_n hx hb dL_law_1918 rfl (lv_at hl 0 rfl) ?_
  refine lv_iload_n hx hb dL_law_1919 rfl (lv_at hl 3 rfl) ?_
  refine lv_iconst (v := 1) hx hb dL_law_1920 (by decide) ?_
  refine lv_iadd hx hb dL_law_1921 ?_
  refine lv_toc (v := 1) (by decide) ?_
  refine z_sld hx hb hXx hbl hbA hS 1 (by decide) (by unfold vp_in; decide) dL_law_1922 ?_
  refine z_bi (wr := [(hM, .inr (12, [.int 0, .int 0, .ref (aM 0), .ref (aM 1), .ref (aM 2), .int 0, .ref (aM 3), .ref (aM 4), .ref (aM 5), .ref (aM 6), .ref (aM 7), .int 0, .int 0, .int 0, .int 0, .long 0, .int (-1), .int 0, .int 0, .ref (aM 8), .int 0, .ref (aM 9), .ref (aM 10), .int 0, .ref (aM 11), .ref (aM 12), .int 0, .int 0, .ref (aM 13), .ref (aM 14), .ref (aM 15), .ref (aM 16), .int 0, .long 0, .long 0, .int 0, .int 0, .int 0, .int 0, .ref (aM 17), .ref (aM 18), .int 0, .int 0, .int 0, .int 0, .ref (aM 19), .ref (aM 20), .int 0, .int 0, .ref (aM 21), .ref (aM 22), .ref (aM 23), .ref (aM 24), .int 0, .int 0, .int 0])), ((aM 0), .inl (k 0, 27101, .inl (fun _ => 0)))]) (z_runV (C := RX11) (As := [.int (xs 1)]) (rest := []) C0 (c_X11_seal_1 l D k hX (aX 0) (aX 20) (aX 30) (aX 31) (aX 32) (aX 50) (aX 51) (aX 57) (aX 65) (aX 1) (aX 14) (aX 33) (aX 36) (aX 40) (aX 21) (aX 22) (aX 23) (aX 24) (aX 25) (aX 26) (aX 27) (aX 28) (aX 29) (xs 1) 0 (fun _ => 0) (fun _ => 0) _) okV_X11_seal kM_L_177 rfl (z_pV (q0 := 0) hK hN hP hD [0, 1, 21, 31, 32, 33] rfl rfl rfl rfl rfl) rfl hl.1 rfl (Nat.le_of_ble_eq_true rfl) dL_law_1923 rfl) hP hD hS hA [0, 1, 21, 31, 32, 33] [74, 75] rfl rfl rfl rfl (fun r1 u1 H locs hw1 hP hD hS => ?_)
  obtain ⟨i1, a1⟩ := u1
  dsimp only at hw1
  rcases hw1 with ⟨rfl, rfl, c1⟩ | ⟨rfl, rfl, c1⟩
  · have hP : va_P D vwCl [(hM, .inr (12, [.int 0, .int 0, .ref (aM 0), .ref (aM 1), .ref (aM 2), .int 0, .ref (aM 3), .ref (aM 4), .ref (aM 5), .ref (aM 6), .ref (aM 7), .int 0, .int 0, .int 0, .int 0, .long 0, .int (-1), .int 0, .int 0, .ref (aM 8), .int 0, .ref (aM 9), .ref (aM 10), .int 0, .ref (aM 11), .ref (aM 12), .int 0, .int 0, .ref (aM 13), .ref (aM 14), .ref (aM 15), .ref (aM 16), .int 0, .long 0, .long 0, .int 0, .int 0, .int 0, .int 0, .ref (aM 17), .ref (aM 18), .int 0, .int 0, .int 0, .int 0, .ref (aM 19), .ref (aM 20), .int 0, .int 0, .ref (aM 21), .ref (aM 22), .ref (aM 23), .ref (aM 24), .int 0, .int 0, .int 0])), ((aM 0), .inl (k 0, 27101, .inl (fun _ => 0)))] H := hP
    have hD : va_D (fun q : Nat => s.heap.size ≤ q) [(hM, .inr (12, [.int 0, .int 0, .ref (aM 0), .ref (aM 1), .ref (aM 2), .int 0, .ref (aM 3), .ref (aM 4), .ref (aM 5), .ref (aM 6), .ref (aM 7), .int 0, .int 0, .int 0, .int 0, .long 0, .int (-1), .int 0, .int 0, .ref (aM 8), .int 0, .ref (aM 9), .ref (aM 10), .int 0, .ref (aM 11), .ref (aM 12), .int 0, .int 0, .ref (aM 13), .ref (aM 14), .ref (aM 15), .ref (aM 16), .int 0, .long 0, .long 0, .int 0, .int 0, .int 0, .int 0, .ref (aM 17), .ref (aM 18), .int 0, .int 0, .int 0, .int 0, .ref (aM 19), .ref (aM 20), .int 0, .int 0, .ref (aM 21), .ref (aM 22), .ref (aM 23), .ref (aM 24), .int 0, .int 0, .int 0])), ((aM 0), .inl (k 0, 27101, .inl (fun _ => 0)))] := hD
    refine lv_aload_n hx hb dL_law_1926 rfl (lv_at hl 2 rfl) ?_
    refine lv_aload_n hx hb dL_law_1927 rfl (lv_at hl 0 rfl) ?_
    refine lv_iload_n hx hb dL_law_1928 rfl (lv_at hl 3 rfl) ?_
    refine lv_iconst (v := 1) hx hb dL_law_1929 (by decide) ?_
    refine lv_iadd hx hb dL_law_1930 ?_
    refine lv_toc (v := 1) (by decide) ?_
    refine z_sld hx hb hXx hbl hbA hS 1 (by decide) (by unfold vp_in; decide) dL_law_1931 ?_
    refine z_bi (wr := []) (z_runV (C := RX12) (As := [.int (xs 1)]) (rest := [.int (-1)]) C0 (c_X12_seal_1 l D k hM (aM 0) (aM 1) (aM 2) (aM 3) (aM 4) (aM 5) (aM 6) (aM 7) (aM 8) (aM 9) (aM 10) (aM 11) (aM 12) (aM 13) (aM 14) (aM 15) (aM 16) (aM 17) (aM 18) (aM 19) (aM 20) (aM 21) (aM 22) (aM 23) (aM 24) (xs 1) 0 0 0 0 0 0 0 0 (-1) 0 0 0 0 0 0 0 0 0 0 0 0 0 0 0 0 0 0 0 _) okV_X12_seal kM_L_180 rfl (z_pV (q0 := 0) hK hN hP hD [0, 1] rfl rfl rfl rfl rfl) rfl hl.1 rfl (Nat.le_of_ble_eq_true rfl) dL_law_1932 rfl) hP hD hS hA [0, 1] [] rfl rfl rfl rfl (fun r2 u2 H locs hw2 hP hD hS => ?_)
    obtain ⟨i2, a2⟩ := u2
    dsimp only at hw2
    rcases hw2 with ⟨rfl, rfl, c2⟩ | ⟨rfl, rfl, c2⟩
    · have hP : va_P D vwCl [] H := hP
      have hD : va_D (fun q : Nat => s.heap.size ≤ q) [] := hD
      refine lv_icmp_eq (tgt := 2078) hx hb dL_law_1935 (by decide) (fun _ => ?_) (fun c3 => absurd (by decide) c3)
      exact law_end hC (Nat.le_of_ble_eq_true rfl) (Nat.le_of_ble_eq_true rfl) hS (lv_sub hl [0, 3] rfl)
    · have hP : va_P D vwCl [] H := hP
      have hD : va_D (fun q : Nat => s.heap.size ≤ q) [] := hD
      exact (show False by have bA0 := Int32.le_toInt (xs 1); have bB0 := Int32.toInt_lt (xs 1); revert c1 c2; simp only [vp_in_iff, Int32.lt_iff_toInt_lt, Int32.le_iff_toInt_le, Int64.lt_iff_toInt_lt, Int64.le_iff_toInt_le, Int32.toInt_toInt64, ← Int32.toInt_inj, ← Int64.toInt_inj, Int32.reduceToInt, Int64.reduceToInt] <;> omega).elim
  · have hP : va_P D vwCl [(hM, .inr (12, [.int 0, .int 0, .ref (aM 0), .ref (aM 1), .ref (aM 2), .int 0, .ref (aM 3), .ref (aM 4), .ref (aM 5), .ref (aM 6), .ref (aM 7), .int 0, .int 0, .int 0, .int 0, .long 0, .int (-1), .int 0, .int 0, .ref (aM 8), .int 0, .ref (aM 9), .ref (aM 10), .int 0, .ref (aM 11), .ref (aM 12), .int 0, .int 0, .ref (aM 13), .ref (aM 14), .ref (aM 15), .ref (aM 16), .int 0, .long 0, .long 0, .int 0, .int 0, .int 0, .int 0, .ref (aM 17), .ref (aM 18), .int 0, .int 0, .int 0, .int 0, .ref (aM 19), .ref (aM 20), .int 0, .int 0, .ref (aM 21), .ref (aM 22), .ref (aM 23), .ref (aM 24), .int 0, .int 0, .int 0])), ((aM 0), .inl (k 0, 27101, .inl (fun _ => 0)))] H := hP
    have hD : va_D (fun q : Nat => s.heap.size ≤ q) [(hM, .inr (12, [.int 0, .int 0, .ref (aM 0), .ref (aM 1), .ref (aM 2), .int 0, .ref (aM 3), .ref (aM 4), .ref (aM 5), .ref (aM 6), .ref (aM 7), .int 0, .int 0, .int 0, .int 0, .long 0, .int (-1), .int 0, .int 0, .ref (aM 8), .int 0, .ref (aM 9), .ref (aM 10), .int 0, .ref (aM 11), .ref (aM 12), .int 0, .int 0, .ref (aM 13), .ref (aM 14), .ref (aM 15), .ref (aM 16), .int 0, .long 0, .long 0, .int 0, .int 0, .int 0, .int 0, .ref (aM 17), .ref (aM 18), .int 0, .int 0, .int 0, .int 0, .ref (aM 19), .ref (aM 20), .int 0, .int 0, .ref (aM 21), .ref (aM 22), .ref (aM 23), .ref (aM 24), .int 0, .int 0, .int 0])), ((aM 0), .inl (k 0, 27101, .inl (fun _ => 0)))] := hD
    refine lv_aload_n hx hb dL_law_1926 rfl (lv_at hl 2 rfl) ?_
    refine lv_aload_n hx hb dL_law_1927 rfl (lv_at hl 0 rfl) ?_
    refine lv_iload_n hx hb dL_law_1928 rfl (lv_at hl 3 rfl) ?_
    refine lv_iconst (v := 1) hx hb dL_law_1929 (by decide) ?_
    refine lv_iadd hx hb dL_law_1930 ?_
    refine lv_toc (v := 1) (by decide) ?_
    refine z_sld hx hb hXx hbl hbA hS 1 (by decide) (by unfold vp_in; decide) dL_law_1931 ?_
    refine z_bi (wr := []) (z_runV (C := RX12) (As := [.int (xs 1)]) (rest := [.int 0]) C0 (c_X12_seal_1 l D k hM (aM 0) (aM 1) (aM 2) (aM 3) (aM 4) (aM 5) (aM 6) (aM 7) (aM 8) (aM 9) (aM 10) (aM 11) (aM 12) (aM 13) (aM 14) (aM 15) (aM 16) (aM 17) (aM 18) (aM 19) (aM 20) (aM 21) (aM 22) (aM 23) (aM 24) (xs 1) 0 0 0 0 0 0 0 0 (-1) 0 0 0 0 0 0 0 0 0 0 0 0 0 0 0 0 0 0 0 _) okV_X12_seal kM_L_180 rfl (z_pV (q0 := 0) hK hN hP hD [0, 1] rfl rfl rfl rfl rfl) rfl hl.1 rfl (Nat.le_of_ble_eq_true rfl) dL_law_1932 rfl) hP hD hS hA [0, 1] [] rfl rfl rfl rfl (fun r4 u4 H locs hw4 hP hD hS => ?_)
    obtain ⟨i4, a4⟩ := u4
    dsimp only at hw4
    rcases hw4 with ⟨rfl, rfl, c4⟩ | ⟨rfl, rfl, c4⟩
    · have hP : va_P D vwCl [] H := hP
      have hD : va_D (fun q : Nat => s.heap.size ≤ q) [] := hD
      exact (show False by have bA0 := Int32.le_toInt (xs 1); have bB0 := Int32.toInt_lt (xs 1); revert c1 c4; simp only [vp_in_iff, Int32.lt_iff_toInt_lt, Int32.le_iff_toInt_le, Int64.lt_iff_toInt_lt, Int64.le_iff_toInt_le, Int32.toInt_toInt64, ← Int32.toInt_inj, ← Int64.toInt_inj, Int32.reduceToInt, Int64.reduceToInt] <;> omega).elim
    · have hP : va_P D vwCl [] H := hP
      have hD : va_D (fun q : Nat => s.heap.size ≤ q) [] := hD
      refine lv_icmp_eq (tgt := 2078) hx hb dL_law_1935 (by decide) (fun _ => ?_) (fun c5 => absurd (by decide) c5)
      exact law_end hC (Nat.le_of_ble_eq_true rfl) (Nat.le_of_ble_eq_true rfl) hS (lv_sub hl [0, 3] rfl)
