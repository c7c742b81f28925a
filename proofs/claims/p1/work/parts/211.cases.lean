set_option maxHeartbeats 4000000 in
set_option maxRecDepth 100000 in
theorem law_case_8 {p : Program} {l : Launch} {e : Env} {s : State} {m : MethodId} {below : List Frame} {meth : Method} {c : Code} {D : va_G} {k : Nat → ClassId} {b : Nat} {xs : Nat → Int32} (hC : law_C p s m meth c D k b 7 xs) {hX hM : Nat} {aX aM : Nat → Nat} {H : Heap} {locs : List Loc} {ls : Array Slot} (hP : va_P D vwCl (WX k hX aX ++ WM k hM aM) H) (hD : va_D (fun q : Nat => s.heap.size ≤ q) (WX k hX aX ++ WM k hM aM)) (hS : va_S (fun q : Nat => s.heap.size ≤ q) s.heap H locs) (hl : lv_has ls 4 [(0, .ref b), (1, .ref hX), (2, .ref hM), (3, .int 0)]) : W p l e room_1 s m #[Value.ref b] below meth c H locs 100 106558 (lw_Z below #[Value.ref b] s) (F0 m 582 ls []) := by
  obtain ⟨C0, hr, hlk, hXx, hbl, hK, hN⟩ := id hC
  have hx := C0.1
  have hb := C0.2.1
  have hml := C0.2.2.1
  have hown := C0.2.2.2.1
  have hts := C0.2.2.2.2
  have hA : ∀ q : Nat, s.heap.size ≤ q → (fun q : Nat => s.heap.size ≤ q) q := fun _ h => h
  have hbA : ¬ (fun q : Nat => s.heap.size ≤ q) b := Nat.not_le.mpr hbl
  refine lv_aload_n hx hb dL_law_582 rfl (lv_at hl 1 rfl) ?_
  refine lv_aload_n hx hb dL_law_583 rfl (lv_at hl 0 rfl) ?_
  refine lv_iload_n hx hb dL_law_584 rfl (lv_at hl 3 rfl) ?_
  refine lv_iconst (v := 1) hx hb dL_law_585 (by decide) ?_
  refine lv_iadd hx hb dL_law_586 ?_
  refine lv_toc (v := 1) (by decide) ?_
  refine z_sld hx hb hXx hbl hbA hS 1 (by decide) (by unfold vp_in; decide) dL_law_587 ?_
  refine lv_aload_n hx hb dL_law_588 rfl (lv_at hl 0 rfl) ?_
  refine lv_iload_n hx hb dL_law_589 rfl (lv_at hl 3 rfl) ?_
  refine lv_iconst (v := 2) hx hb dL_law_590 (by decide) ?_
  refine lv_iadd hx hb dL_law_591 ?_
  refine lv_toc (v := 2) (by decide) ?_
  refine z_sld hx hb hXx hbl hbA hS 2 (by decide) (by unfold vp_in; decide) dL_law_592 ?_
  refine lv_aload_n hx hb dL_law_593 rfl (lv_at hl 0 rfl) ?_
  refine lv_iload_n hx hb dL_law_594 rfl (lv_at hl 3 rfl) ?_
  refine lv_iconst (v := 3) hx hb dL_law_595 (by decide) ?_
  refine lv_iadd hx hb dL_law_596 ?_
  refine lv_toc (v := 3) (by decide) ?_
  refine z_sld hx hb hXx hbl hbA hS 3 (by decide) (by unfold vp_in; decide) dL_law_597 ?_
  refine lv_aload_n hx hb dL_law_598 rfl (lv_at hl 0 rfl) ?_
  refine lv_iload_n hx hb dL_law_599 rfl (lv_at hl 3 rfl) ?_
  refine lv_iconst (v := 4) hx hb dL_law_600 (by decide) ?_
  refine lv_iadd hx hb dL_law_601 ?_
  refine lv_toc (v := 4) (by decide) ?_
  refine z_sld hx hb hXx hbl hbA hS 4 (by decide) (by unfold vp_in; decide) dL_law_602 ?_
  refine lv_aload_n hx hb dL_law_603 rfl (lv_at hl 0 rfl) ?_
  refine lv_iload_n hx hb dL_law_604 rfl (lv_at hl 3 rfl) ?_
  refine lv_iconst (v := 5) hx hb dL_law_605 (by decide) ?_
  refine lv_iadd hx hb dL_law_606 ?_
  refine lv_toc (v := 5) (by decide) ?_
  refine z_sld hx hb hXx hbl hbA hS 5 (by decide) (by unfold vp_in; decide) dL_law_607 ?_
  refine lv_aload_n hx hb dL_law_608 rfl (lv_at hl 0 rfl) ?_
  refine lv_iload_n hx hb dL_law_609 rfl (lv_at hl 3 rfl) ?_
  refine lv_bipush (v := 6) hx hb dL_law_610 (by decide) ?_
  refine lv_iadd hx hb dL_law_612 ?_
  refine lv_toc (v := 6) (by decide) ?_
  refine z_sld hx hb hXx hbl hbA hS 6 (by decide) (by unfold vp_in; decide) dL_law_613 ?_
  refine z_bi (wr := [(hM, .inr (12, [.int 0, .int 0, .ref (aM 0), .ref (aM 1), .ref (aM 2), .int 0, .ref (aM 3), .ref (aM 4), .ref (aM 5), .ref (aM 6), .ref (aM 7), .int 0, .int 0, .int 0, .int 0, .long 0, .int (-1), .int 0, .int 0, .ref (aM 8), .int 0, .ref (aM 9), .ref (aM 10), .int 0, .ref (aM 11), .ref (aM 12), .int 0, .int 0, .ref (aM 13), .ref (aM 14), .ref (aM 15), .ref (aM 16), .int 0, .long 0, .long 0, .int 0, .int 0, .int 0, .int 0, .ref (aM 17), .ref (aM 18), .int 0, .int 0, .int 0, .int 0, .ref (aM 19), .ref (aM 20), .int 0, .int 0, .ref (aM 21), .ref (aM 22), .ref (aM 23), .ref (aM 24), .int 0, .int 0, .int 0])), ((aM 0), .inl (k 0, 27101, .inl (fun _ => 0)))]) (z_runV (C := RX11) (As := [.int (xs 1), .int (xs 2), .int (xs 3), .int (xs 4), .int (xs 5), .int (xs 6)]) (rest := []) C0 (c_X11_mark_1 l D k hX (aX 0) (aX 1) (aX 50) (aX 51) (aX 57) (aX 65) (aX 14) (aX 20) (aX 33) (aX 36) (aX 40) (aX 2) (aX 3) (aX 4) (aX 5) (aX 6) (aX 7) (aX 8) (aX 9) (aX 10) (aX 11) (aX 12) (aX 13) (xs 1) (xs 2) (xs 3) (xs 4) (xs 5) (xs 6) 0 0 0 _) okV_X11_mark kM_L_50 rfl (z_pV (q0 := 0) hK hN hP hD [0, 1, 2] rfl rfl rfl rfl rfl) rfl hl.1 rfl (Nat.le_of_ble_eq_true rfl) dL_law_614 rfl) hP hD hS hA [0, 1, 2] [74, 75] rfl rfl rfl rfl (fun r1 u1 H locs hw1 hP hD hS => ?_)
  obtain ⟨i1, a1⟩ := u1
  dsimp only at hw1
  rcases hw1 with ⟨rfl, rfl, c1⟩ | ⟨rfl, rfl, c1⟩
  · have hP : va_P D vwCl [(hM, .inr (12, [.int 0, .int 0, .ref (aM 0), .ref (aM 1), .ref (aM 2), .int 0, .ref (aM 3), .ref (aM 4), .ref (aM 5), .ref (aM 6), .ref (aM 7), .int 0, .int 0, .int 0, .int 0, .long 0, .int (-1), .int 0, .int 0, .ref (aM 8), .int 0, .ref (aM 9), .ref (aM 10), .int 0, .ref (aM 11), .ref (aM 12), .int 0, .int 0, .ref (aM 13), .ref (aM 14), .ref (aM 15), .ref (aM 16), .int 0, .long 0, .long 0, .int 0, .int 0, .int 0, .int 0, .ref (aM 17), .ref (aM 18), .int 0, .int 0, .int 0, .int 0, .ref (aM 19), .ref (aM 20), .int 0, .int 0, .ref (aM 21), .ref (aM 22), .ref (aM 23), .ref (aM 24), .int 0, .int 0, .int 0])), ((aM 0), .inl (k 0, 27101, .inl (fun _ => 0)))] H := hP
    have hD : va_D (fun q : Nat => s.heap.size ≤ q) [(hM, .inr (12, [.int 0, .int 0, .ref (aM 0), .ref (aM 1), .ref (aM 2), .int 0, .ref (aM 3), .ref (aM 4), .ref (aM 5), .ref (aM 6), .ref (aM 7), .int 0, .int 0, .int 0, .int 0, .long 0, .int (-1), .int 0, .int 0, .ref (aM 8), .int 0, .ref (aM 9), .ref (aM 10), .int 0, .ref (aM 11), .ref (aM 12), .int 0, .int 0, .ref (aM 13), .ref (aM 14), .ref (aM 15), .ref (aM 16), .int 0, .long 0, .long 0, .int 0, .int 0, .int 0, .int 0, .ref (aM 17), .ref (aM 18), .int 0, .int 0, .int 0, .int 0, .ref (aM 19), .ref (aM 20), .int 0, .int 0, .ref (aM 21), .ref (aM 22), .ref (aM 23), .ref (aM 24), .int 0, .int 0, .int 0])), ((aM 0), .inl (k 0, 27101, .inl (fun _ => 0)))] := hD
    refine lv_aload_n hx hb dL_law_617 rfl (lv_at hl 2 rfl) ?_
    refine lv_aload_n hx hb dL_law_618 rfl (lv_at hl 0 rfl) ?_
    refine lv_iload_n hx hb dL_law_619 rfl (lv_at hl 3 rfl) ?_
    refine lv_iconst (v := 1) hx hb dL_law_620 (by decide) ?_
    refine lv_iadd hx hb dL_law_621 ?_
    refine lv_toc (v := 1) (by decide) ?_
    refine z_sld hx hb hXx hbl hbA hS 1 (by decide) (by unfold vp_in; decide) dL_law_622 ?_
    refine lv_aload_n hx hb dL_law_623 rfl (lv_at hl 0 rfl) ?_
    refine lv_iload_n hx hb dL_law_624 rfl (lv_at hl 3 rfl) ?_
    refine lv_iconst (v := 2) hx hb dL_law_625 (by decide) ?_
    refine lv_iadd hx hb dL_law_626 ?_
    refine lv_toc (v := 2) (by decide) ?_
    refine z_sld hx hb hXx hbl hbA hS 2 (by decide) (by unfold vp_in; decide) dL_law_627 ?_
    refine lv_aload_n hx hb dL_law_628 rfl (lv_at hl 0 rfl) ?_
    refine lv_iload_n hx hb dL_law_629 rfl (lv_at hl 3 rfl) ?_
    refine lv_iconst (v := 3) hx hb dL_law_630 (by decide) ?_
    refine lv_iadd hx hb dL_law_631 ?_
    refine lv_toc (v := 3) (by decide) ?_
    refine z_sld hx hb hXx hbl hbA hS 3 (by decide) (by unfold vp_in; decide) dL_law_632 ?_
    refine lv_aload_n hx hb dL_law_633 rfl (lv_at hl 0 rfl) ?_
    refine lv_iload_n hx hb dL_law_634 rfl (lv_at hl 3 rfl) ?_
    refine lv_iconst (v := 4) hx hb dL_law_635 (by decide) ?_
    refine lv_iadd hx hb dL_law_636 ?_
    refine lv_toc (v := 4) (by decide) ?_
    refine z_sld hx hb hXx hbl hbA hS 4 (by decide) (by unfold vp_in; decide) dL_law_637 ?_
    refine lv_aload_n hx hb dL_law_638 rfl (lv_at hl 0 rfl) ?_
    refine lv_iload_n hx hb dL_law_639 rfl (lv_at hl 3 rfl) ?_
    refine lv_iconst (v := 5) hx hb dL_law_640 (by decide) ?_
    refine lv_iadd hx hb dL_law_641 ?_
    refine lv_toc (v := 5) (by decide) ?_
    refine z_sld hx hb hXx hbl hbA hS 5 (by decide) (by unfold vp_in; decide) dL_law_642 ?_
    refine lv_aload_n hx hb dL_law_643 rfl (lv_at hl 0 rfl) ?_
    refine lv_iload_n hx hb dL_law_644 rfl (lv_at hl 3 rfl) ?_
    refine lv_bipush (v := 6) hx hb dL_law_645 (by decide) ?_
    refine lv_iadd hx hb dL_law_647 ?_
    refine lv_toc (v := 6) (by decide) ?_
    refine z_sld hx hb hXx hbl hbA hS 6 (by decide) (by unfold vp_in; decide) dL_law_648 ?_
    refine z_bi (wr := []) (z_runV (C := RX12) (As := [.int (xs 1), .int (xs 2), .int (xs 3), .int (xs 4), .int (xs 5), .int (xs 6)]) (rest := [.int (-1)]) C0 (c_X12_mark_1 l D k hM (aM 0) (aM 1) (aM 2) (aM 3) (aM 4) (aM 5) (aM 6) (aM 7) (aM 8) (aM 9) (aM 10) (aM 11) (aM 12) (aM 13) (aM 14) (aM 15) (aM 16) (aM 17) (aM 18) (aM 19) (aM 20) (aM 21) (aM 22) (aM 23) (aM 24) (xs 1) (xs 2) (xs 3) (xs 4) (xs 5) (xs 6) 0 0 0 0 0 0 0 0 (-1) 0 0 0 0 0 0 0 0 0 0 0 0 0 0 0 0 0 0 0 0 0 0 _) okV_X12_mark kM_L_54 rfl (z_pV (q0 := 0) hK hN hP hD [0, 1] rfl rfl rfl rfl rfl) rfl hl.1 rfl (Nat.le_of_ble_eq_true rfl) dL_law_649 rfl) hP hD hS hA [0, 1] [] rfl rfl rfl rfl (fun r2 u2 H locs hw2 hP hD hS => ?_)
    obtain ⟨i2, a2⟩ := u2
    dsimp only at hw2
    rcases hw2 with ⟨rfl, rfl, c2⟩ | ⟨rfl, rfl, c2⟩
    · have hP : va_P D vwCl [] H := hP
      have hD : va_D (fun q : Nat => s.heap.size ≤ q) [] := hD
      refine lv_icmp_eq (tgt := 2078) hx hb dL_law_652 (by decide) (fun _ => ?_) (fun c3 => absurd (by decide) c3)
      exact law_end hC (Nat.le_of_ble_eq_true rfl) (Nat.le_of_ble_eq_true rfl) hS (lv_sub hl [0, 3] rfl)
    · have hP : va_P D vwCl [] H := hP
      have hD : va_D (fun q : Nat => s.heap.size ≤ q) [] := hD
      exact (show False by have bA0 := Int32.le_toInt (xs 3); have bB0 := Int32.toInt_lt (xs 3); have bA1 := Int32.le_toInt (xs 4); have bB1 := Int32.toInt_lt (xs 4); have bA2 := Int32.le_toInt (xs 5); have bB2 := Int32.toInt_lt (xs 5); have bA3 := Int32.le_toInt (xs 6); have bB3 := Int32.toInt_lt (xs 6); revert c1 c2; simp only [vp_in_iff, Int32.lt_iff_toInt_lt, Int32.le_iff_toInt_le, Int64.lt_iff_toInt_lt, Int64.le_iff_toInt_le, Int32.toInt_toInt64, ← Int32.toInt_inj, ← Int64.toInt_inj, Int32.reduceToInt, Int64.reduceToInt] <;> omega).elim
  · have hP : va_P D vwCl [(hM, .inr (12, [.int 0, .int 0, .ref (aM 0), .ref (aM 1), .ref (aM 2), .int 0, .ref (aM 3), .ref (aM 4), .ref (aM 5), .ref (aM 6), .ref (aM 7), .int 0, .int 0, .int 0, .int 0, .long 0, .int (-1), .int 0, .int 0, .ref (aM 8), .int 0, .ref (aM 9), .ref (aM 10), .int 0, .ref (aM 11), .ref (aM 12), .int 0, .int 0, .ref (aM 13), .ref (aM 14), .ref (aM 15), .ref (aM 16), .int 0, .long 0, .long 0, .int 0, .int 0, .int 0, .int 0, .ref (aM 17), .ref (aM 18), .int 0, .int 0, .int 0, .int 0, .ref (aM 19), .ref (aM 20), .int 0, .int 0, .ref (aM 21), .ref (aM 22), .ref (aM 23), .ref (aM 24), .int 0, .int 0, .int 0])), ((aM 0), .inl (k 0, 27101, .inl (fun _ => 0)))] H := hP
    have hD : va_D (fun q : Nat => s.heap.size ≤ q) [(hM, .inr (12, [.int 0, .int 0, .ref (aM 0), .ref (aM 1), .ref (aM 2), .int 0, .ref (aM 3), .ref (aM 4), .ref (aM 5), .ref (aM 6), .ref (aM 7), .int 0, .int 0, .int 0, .int 0, .long 0, .int (-1), .int 0, .int 0, .ref (aM 8), .int 0, .ref (aM 9), .ref (aM 10), .int 0, .ref (aM 11), .ref (aM 12), .int 0, .int 0, .ref (aM 13), .ref (aM 14), .ref (aM 15), .ref (aM 16), .int 0, .long 0, .long 0, .int 0, .int 0, .int 0, .int 0, .ref (aM 17), .ref (aM 18), .int 0, .int 0, .int 0, .int 0, .ref (aM 19), .ref (aM 20), .int 0, .int 0, .ref (aM 21), .ref (aM 22), .ref (aM 23), .ref (aM 24), .int 0, .int 0, .int 0])), ((aM 0), .inl (k 0, 27101, .inl (fun _ => 0)))] := hD
    refine lv_aload_n hx hb dL_law_617 rfl (lv_at hl 2 rfl) ?_
    refine lv_aload_n hx hb dL_law_618 rfl (lv_at hl 0 rfl) ?_
    refine lv_iload_n hx hb dL_law_619 rfl (lv_at hl 3 rfl) ?_
    refine lv_iconst (v := 1) hx hb dL_law_620 (by decide) ?_
    refine lv_iadd hx hb dL_law_621 ?_
    refine lv_toc (v := 1) (by decide) ?_
    refine z_sld hx hb hXx hbl hbA hS 1 (by decide) (by unfold vp_in; decide) dL_law_622 ?_
    refine lv_aload_n hx hb dL_law_623 rfl (lv_at hl 0 rfl) ?_
    refine lv_iload_n hx hb dL_law_624 rfl (lv_at hl 3 rfl) ?_
    refine lv_iconst (v := 2) hx hb dL_law_625 (by decide) ?_
    refine lv_iadd hx hb dL_law_626 ?_
    refine lv_toc (v := 2) (by decide) ?_
    refine z_sld hx hb hXx hbl hbA hS 2 (by decide) (by unfold vp_in; decide) dL_law_627 ?_
    refine lv_aload_n hx hb dL_law_628 rfl (lv_at hl 0 rfl) ?_
    refine lv_iload_n hx hb dL_law_629 rfl (lv_at hl 3 rfl) ?_
    refine lv_iconst (v := 3) hx hb dL_law_630 (by decide) ?_
    refine lv_iadd hx hb dL_law_631 ?_
    refine lv_toc (v := 3) (by decide) ?_
    refine z_sld hx hb hXx hbl hbA hS 3 (by decide) (by unfold vp_in; decide) dL_law_632 ?_
    refine lv_aload_n hx hb dL_law_633 rfl (lv_at hl 0 rfl) ?_
    refine lv_iload_n hx hb dL_law_634 rfl (lv_at hl 3 rfl) ?_
    refine lv_iconst (v := 4) hx hb dL_law_635 (by decide) ?_
    refine lv_iadd hx hb dL_law_636 ?_
    refine lv_toc (v := 4) (by decide) ?_
    refine z_sld hx hb hXx hbl hbA hS 4 (by decide) (by unfold vp_in; decide) dL_law_637 ?_
    refine lv_aload_n hx hb dL_law_638 rfl (lv_at hl 0 rfl) ?_
    refine lv_iload_n hx hb dL_law_639 rfl (lv_at hl 3 rfl) ?_
    refine lv_iconst (v := 5) hx hb dL_law_640 (by decide) ?_
    refine lv_iadd hx hb dL_law_641 ?_
    refine lv_toc (v := 5) (by decide) ?_
    refine z_sld hx hb hXx hbl hbA hS 5 (by decide) (by unfold vp_in; decide) dL_law_642 ?_
    refine lv_aload_n hx hb dL_law_643 rfl (lv_at hl 0 rfl) ?_
    refine lv_iload_n hx hb dL_law_644 rfl (lv_at hl 3 rfl) ?_
    refine lv_bipush (v := 6) hx hb dL_law_645 (by decide) ?_
    refine lv_iadd hx hb dL_law_647 ?_
    refine lv_toc (v := 6) (by decide) ?_
    refine z_sld hx hb hXx hbl hbA hS 6 (by decide) (by unfold vp_in; decide) dL_law_648 ?_
    refine z_bi (wr := []) (z_runV (C := RX12) (As := [.int (xs 1), .int (xs 2), .int (xs 3), .int (xs 4), .int (xs 5), .int (xs 6)]) (rest := [.int (-2)]) C0 (c_X12_mark_1 l D k hM (aM 0) (aM 1) (aM 2) (aM 3) (aM 4) (aM 5) (aM 6) (aM 7) (aM 8) (aM 9) (aM 10) (aM 11) (aM 12) (aM 13) (aM 14) (aM 15) (aM 16) (aM 17) (aM 18) (aM 19) (aM 20) (aM 21) (aM 22) (aM 23) (aM 24) (xs 1) (xs 2) (xs 3) (xs 4) (xs 5) (xs 6) 0 0 0 0 0 0 0 0 (-1) 0 0 0 0 0 0 0 0 0 0 0 0 0 0 0 0 0 0 0 0 0 0 _) okV_X12_mark kM_L_54 rfl (z_pV (q0 := 0) hK hN hP hD [0, 1] rfl rfl rfl rfl rfl) rfl hl.1 rfl (Nat.le_of_ble_eq_true rfl) dL_law_649 rfl) hP hD hS hA [0, 1] [] rfl rfl rfl rfl (fun r4 u4 H locs hw4 hP hD hS => ?_)
    obtain ⟨i4, a4⟩ := u4
    dsimp only at hw4
    rcases hw4 with ⟨rfl, rfl, c4⟩ | ⟨rfl, rfl, c4⟩
    · have hP : va_P D vwCl [] H := hP
      have hD : va_D (fun q : Nat => s.heap.size ≤ q) [] := hD
      exact (show False by have bA0 := Int32.le_toInt (xs 3); have bB0 := Int32.toInt_lt (xs 3); have bA1 := Int32.le_toInt (xs 4); have bB1 := Int32.toInt_lt (xs 4); have bA2 := Int32.le_toInt (xs 5); have bB2 := Int32.toInt_lt (xs 5); have bA3 := Int32.le_toInt (xs 6); have bB3 := Int32.toInt_lt (xs 6); revert c1 c4; simp only [vp_in_iff, Int32.lt_iff_toInt_lt, Int32.le_iff_toInt_le, Int64.lt_iff_toInt_lt, Int64.le_iff_toInt_le, Int32.toInt_toInt64, ← Int32.toInt_inj, ← Int64.toInt_inj, Int32.reduceToInt, Int64.reduceToInt] <;> omega).elim
    · have hP : va_P D vwCl [] H := hP
      have hD : va_D (fun q : Nat => s.heap.size ≤ q) [] := hD
      refine lv_icmp_eq (tgt := 2078) hx hb dL_law_652 (by decide) (fun _ => ?_) (fun c5 => absurd (by decide) c5)
      exact law_end hC (Nat.le_of_ble_eq_true rfl) (Nat.le_of_ble_eq_true rfl) hS (lv_sub hl [0, 3] rfl)

set_option maxHeartbeats 4000000 in
set_option maxRecDepth 100000 in
theorem law_case_9 {p : Program} {l : Launch} {e : Env} {s : State} {m : MethodId} {below : List Frame} {meth : Method} {c : Code} {D : va_G} {k : Nat → ClassId} {b : Nat} {xs : Nat → Int32} (hC : law_C p s m meth c D k b 7 xs) {hX hM : Nat} {aX aM : Nat → Nat} {H : Heap} {locs : List Loc} {ls : Array Slot} (hP : va_P D vwCl (WX k hX aX ++ WM k hM aM) H) (hD : va_D (fun q : Nat => s.heap.size ≤ q) (WX k hX aX ++ WM k hM aM)) (hS : va_S (fun q : Nat => s.heap.size ≤ q) s.heap H locs) (hl : lv_has ls 4 [(0, .ref b), (1, .ref hX), (2, .ref hM), (3, .int 0)]) : W p l e room_1 s m #[Value.ref b] below meth c H locs 100 106558 (lw_Z below #[Value.ref b] s) (F0 m 657 ls []) := by
  obtain ⟨C0, hr, hlk, hXx, hbl, hK, hN⟩ := id hC
  have hx := C0.1
  have hb := C0.2.1
  have hml := C0.2.2.1
  have hown := C0.2.2.2.1
  have hts := C0.2.2.2.2
  have hA : ∀ q : Nat, s.heap.size ≤ q → (fun q : Nat => s.heap.size ≤ q) q := fun _ h => h
  have hbA : ¬ (fun q : Nat => s.heap.size ≤ q) b := Nat.not_le.mpr hbl
  refine lv_aload_n hx hb dL_law_657 rfl (lv_at hl 1 rfl) ?_
  refine lv_aload_n hx hb dL_law_658 rfl (lv_at hl 0 rfl) ?_
  refine lv_iload_n hx hb dL_law_659 rfl (lv_at hl 3 rfl) ?_
  refine lv_iconst (v := 1) hx hb dL_law_660 (by decide) ?_
  refine lv_iadd hx hb dL_law_661 ?_
  refine lv_toc (v := 1) (by decide) ?_
  refine z_sld hx hb hXx hbl hbA hS 1 (by decide) (by unfold vp_in; decide) dL_law_662 ?_
  refine lv_aload_n hx hb dL_law_663 rfl (lv_at hl 0 rfl) ?_
  refine lv_iload_n hx hb dL_law_664 rfl (lv_at hl 3 rfl) ?_
  refine lv_iconst (v := 2) hx hb dL_law_665 (by decide) ?_
  refine lv_iadd hx hb dL_law_666 ?_
  refine lv_toc (v := 2) (by decide) ?_
  refine z_sld hx hb hXx hbl hbA hS 2 (by decide) (by unfold vp_in; decide) dL_law_667 ?_
  refine lv_aload_n hx hb dL_law_668 rfl (lv_at hl 0 rfl) ?_
  refine lv_iload_n hx hb dL_law_669 rfl (lv_at hl 3 rfl) ?_
  refine lv_iconst (v := 3) hx hb dL_law_670 (by decide) ?_
  refine lv_iadd hx hb dL_law_671 ?_
  refine lv_toc (v := 3) (by decide) ?_
  refine z_sld hx hb hXx hbl hbA hS 3 (by decide) (by unfold vp_in; decide) dL_law_672 ?_
  refine z_bi (wr := [(hM, .inr (12, [.int 0, .int 0, .ref (aM 0), .ref (aM 1), .ref (aM 2), .int 0, .ref (aM 3), .ref (aM 4), .ref (aM 5), .ref (aM 6), .ref (aM 7), .int 0, .int 0, .int 0, .int 0, .long 0, .int (-1), .int 0, .int 0, .ref (aM 8), .int 0, .ref (aM 9), .ref (aM 10), .int 0, .ref (aM 11), .ref (aM 12), .int 0, .int 0, .ref (aM 13), .ref (aM 14), .ref (aM 15), .ref (aM 16), .int 0, .long 0, .long 0, .int 0, .int 0, .int 0, .int 0, .ref (aM 17), .ref (aM 18), .int 0, .int 0, .int 0, .int 0, .ref (aM 19), .ref (aM 20), .int 0, .int 0, .ref (aM 21), .ref (aM 22), .ref (aM 23), .ref (aM 24), .int 0, .int 0, .int 0])), ((aM 0), .inl (k 0, 27101, .inl (fun _ => 0)))]) (z_runV (C := RX11) (As := [.int (xs 1), .int (xs 2), .int (xs 3)]) (rest := []) C0 (c_X11_appeal_1 l D k hX (aX 0) (aX 20) (aX 50) (aX 51) (aX 57) (aX 65) (aX 1) (aX 14) (aX 33) (aX 36) (aX 40) (aX 21) (aX 22) (aX 23) (aX 24) (aX 25) (aX 26) (aX 27) (aX 28) (aX 29) (aX 30) (aX 31) (aX 32) (xs 1) (xs 2) (xs 3) 0 0 0 _) okV_X11_appeal kM_L_55 rfl (z_pV (q0 := 0) hK hN hP hD [0, 1, 21] rfl rfl rfl rfl rfl) rfl hl.1 rfl (Nat.le_of_ble_eq_true rfl) dL_law_673 rfl) hP hD hS hA [0, 1, 21] [74, 75] rfl rfl rfl rfl (fun r1 u1 H locs hw1 hP hD hS => ?_)
  obtain ⟨i1, a1⟩ := u1
  dsimp only at hw1
  rcases hw1 with ⟨rfl, rfl, c1⟩ | ⟨rfl, rfl, c1⟩
  · have hP : va_P D vwCl [(hM, .inr (12, [.int 0, .int 0, .ref (aM 0), .ref (aM 1), .ref (aM 2), .int 0, .ref (aM 3), .ref (aM 4), .ref (aM 5), .ref (aM 6), .ref (aM 7), .int 0, .int 0, .int 0, .int 0, .long 0, .int (-1), .int 0, .int 0, .ref (aM 8), .int 0, .ref (aM 9), .ref (aM 10), .int 0, .ref (aM 11), .ref (aM 12), .int 0, .int 0, .ref (aM 13), .ref (aM 14), .ref (aM 15), .ref (aM 16), .int 0, .long 0, .long 0, .int 0, .int 0, .int 0, .int 0, .ref (aM 17), .ref (aM 18), .int 0, .int 0, .int 0, .int 0, .ref (aM 19), .ref (aM 20), .int 0, .int 0, .ref (aM 21), .ref (aM 22), .ref (aM 23), .ref (aM 24), .int 0, .int 0, .int 0])), ((aM 0), .inl (k 0, 27101, .inl (fun _ => 0)))] H := hP
    have hD : va_D (fun q : Nat => s.heap.size ≤ q) [(hM, .inr (12, [.int 0, .int 0, .ref (aM 0), .ref (aM 1), .ref (aM 2), .int 0, .ref (aM 3), .ref (aM 4), .ref (aM 5), .ref (aM 6), .ref (aM 7), .int 0, .int 0, .int 0, .int 0, .long 0, .int (-1), .int 0, .int 0, .ref (aM 8), .int 0, .ref (aM 9), .ref (aM 10), .int 0, .ref (aM 11), .ref (aM 12), .int 0, .int 0, .ref (aM 13), .ref (aM 14), .ref (aM 15), .ref (aM 16), .int 0, .long 0, .long 0, .int 0, .int 0, .int 0, .int 0, .ref (aM 17), .ref (aM 18), .int 0, .int 0, .int 0, .int 0, .ref (aM 19), .ref (aM 20), .int 0, .int 0, .ref (aM 21), .ref (aM 22), .ref (aM 23), .ref (aM 24), .int 0, .int 0, .int 0])), ((aM 0), .inl (k 0, 27101, .inl (fun _ => 0)))] := hD
    refine lv_aload_n hx hb dL_law_676 rfl (lv_at hl 2 rfl) ?_
    refine lv_aload_n hx hb dL_law_677 rfl (lv_at hl 0 rfl) ?_
    refine lv_iload_n hx hb dL_law_678 rfl (lv_at hl 3 rfl) ?_
    refine lv_iconst (v := 1) hx hb dL_law_679 (by decide) ?_
    refine lv_iadd hx hb dL_law_680 ?_
    refine lv_toc (v := 1) (by decide) ?_
    refine z_sld hx hb hXx hbl hbA hS 1 (by decide) (by unfold vp_in; decide) dL_law_681 ?_
    refine lv_aload_n hx hb dL_law_682 rfl (lv_at hl 0 rfl) ?_
    refine lv_iload_n hx hb dL_law_683 rfl (lv_at hl 3 rfl) ?_
    refine lv_iconst (v := 2) hx hb dL_law_684 (by decide) ?_
    refine lv_iadd hx hb dL_law_685 ?_
    refine lv_toc (v := 2) (by decide) ?_
    refine z_sld hx hb hXx hbl hbA hS 2 (by decide) (by unfold vp_in; decide) dL_law_686 ?_
    refine lv_aload_n hx hb dL_law_687 rfl (lv_at hl 0 rfl) ?_
    refine lv_iload_n hx hb dL_law_688 rfl (lv_at hl 3 rfl) ?_
    refine lv_iconst (v := 3) hx hb dL_law_689 (by decide) ?_
    refine lv_iadd hx hb dL_law_690 ?_
    refine lv_toc (v := 3) (by decide) ?_
    refine z_sld hx hb hXx hbl hbA hS 3 (by decide) (by unfold vp_in; decide) dL_law_691 ?_
    refine z_bi (wr := []) (z_runV (C := RX12) (As := [.int (xs 1), .int (xs 2), .int (xs 3)]) (rest := [.int (-1)]) C0 (c_X12_appeal_1 l D k hM (aM 0) (aM 1) (aM 2) (aM 3) (aM 4) (aM 5) (aM 6) (aM 7) (aM 8) (aM 9) (aM 10) (aM 11) (aM 12) (aM 13) (aM 14) (aM 15) (aM 16) (aM 17) (aM 18) (aM 19) (aM 20) (aM 21) (aM 22) (aM 23) (aM 24) (xs 1) (xs 2) (xs 3) 0 0 0 0 0 0 0 0 (-1) 0 0 0 0 0 0 0 0 0 0 0 0 0 0 0 0 0 0 0 0 0 0 _) okV_X12_appeal kM_L_58 rfl (z_pV (q0 := 0) hK hN hP hD [0, 1] rfl rfl rfl rfl rfl) rfl hl.1 rfl (Nat.le_of_ble_eq_true rfl) dL_law_692 rfl) hP hD hS hA [0, 1] [] rfl rfl rfl rfl (fun r2 u2 H locs hw2 hP hD hS => ?_)
    obtain ⟨i2, a2⟩ := u2
    dsimp only at hw2
    rcases hw2 with ⟨rfl, rfl, c2⟩ | ⟨rfl, rfl, c2⟩
    · have hP : va_P D vwCl [] H := hP
      have hD : va_D (fun q : Nat => s.heap.size ≤ q) [] := hD
      refine lv_icmp_eq (tgt := 2078) hx hb dL_law_695 (by decide) (fun _ => ?_) (fun c3 => absurd (by decide) c3)
      exact law_end hC (Nat.le_of_ble_eq_true rfl) (Nat.le_of_ble_eq_true rfl) hS (lv_sub hl [0, 3] rfl)
    · have hP : va_P D vwCl [] H := hP
      have hD : va_D (fun q : Nat => s.heap.size ≤ q) [] := hD
      exact (show False by have bA0 := Int32.le_toInt (xs 2); have bB0 := Int32.toInt_lt (xs 2); have bA1 := Int32.le_toInt (xs 3); have bB1 := Int32.toInt_lt (xs 3); revert c1 c2; simp only [vp_in_iff, Int32.lt_iff_toInt_lt, Int32.le_iff_toInt_le, Int64.lt_iff_toInt_lt, Int64.le_iff_toInt_le, Int32.toInt_toInt64, ← Int32.toInt_inj, ← Int64.toInt_inj, Int32.reduceToInt, Int64.reduceToInt] <;> omega).elim
  · have hP : va_P D vwCl [(hM, .inr (12, [.int 0, .int 0, .ref (aM 0), .ref (aM 1), .ref (aM 2), .int 0, .ref (aM 3), .ref (aM 4), .ref (aM 5), .ref (aM 6), .ref (aM 7), .int 0, .int 0, .int 0, .int 0, .long 0, .int (-1), .int 0, .int 0, .ref (aM 8), .int 0, .ref (aM 9), .ref (aM 10), .int 0, .ref (aM 11), .ref (aM 12), .int 0, .int 0, .ref (aM 13), .ref (aM 14), .ref (aM 15), .ref (aM 16), .int 0, .long 0, .long 0, .int 0, .int 0, .int 0, .int 0, .ref (aM 17), .ref (aM 18), .int 0, .int 0, .int 0, .int 0, .ref (aM 19), .ref (aM 20), .int 0, .int 0, .ref (aM 21), .ref (aM 22), .ref (aM 23), .ref (aM 24), .int 0, .int 0, .int 0])), ((aM 0), .inl (k 0, 27101, .inl (fun _ => 0)))] H := hP
    have hD : va_D (fun q : Nat => s.heap.size ≤ q) [(hM, .inr (12, [.int 0, .int 0, .ref (aM 0), .ref (aM 1), .ref (aM 2), .int 0, .ref (aM 3), .ref (aM 4), .ref (aM 5), .ref (aM 6), .ref (aM 7), .int 0, .int 0, .int 0, .int 0, .long 0, .int (-1), .int 0, .int 0, .ref (aM 8), .int 0, .ref (aM 9), .ref (aM 10), .int 0, .ref (aM 11), .ref (aM 12), .int 0, .int 0, .ref (aM 13), .ref (aM 14), .ref (aM 15), .ref (aM 16), .int 0, .long 0, .long 0, .int 0, .int 0, .int 0, .int 0, .ref (aM 17), .ref (aM 18), .int 0, .int 0, .int 0, .int 0, .ref (aM 19), .ref (aM 20), .int 0, .int 0, .ref (aM 21), .ref (aM 22), .ref (aM 23), .ref (aM 24), .int 0, .int 0, .int 0])), ((aM 0), .inl (k 0, 27101, .inl (fun _ => 0)))] := hD
    refine lv_aload_n hx hb dL_law_676 rfl (lv_at hl 2 rfl) ?_
    refine lv_aload_n hx hb dL_law_677 rfl (lv_at hl 0 rfl) ?_
    refine lv_iload_n hx hb dL_law_678 rfl (lv_at hl 3 rfl) ?_
    refine lv_iconst (v := 1) hx hb dL_law_679 (by decide) ?_
    refine lv_iadd hx hb dL_law_680 ?_
    refine lv_toc (v := 1) (by decide) ?_
    refine z_sld hx hb hXx hbl hbA hS 1 (by decide) (by unfold vp_in; decide) dL_law_681 ?_
    refine lv_aload_n hx hb dL_law_682 rfl (lv_at hl 0 rfl) ?_
    refine lv_iload_n hx hb dL_law_683 rfl (lv_at hl 3 rfl) ?_
    refine lv_iconst (v := 2) hx hb dL_law_684 (by decide) ?_
    refine lv_iadd hx hb dL_law_685 ?_
    refine lv_toc (v := 2) (by decide) ?_
    refine z_sld hx hb hXx hbl hbA hS 2 (by decide) (by unfold vp_in; decide) dL_law_686 ?_
    refine lv_aload_n hx hb dL_law_687 rfl (lv_at hl 0 rfl) ?_
    refine lv_iload_n hx hb dL_law_688 rfl (lv_at hl 3 rfl) ?_
    refine lv_iconst (v := 3) hx hb dL_law_689 (by decide) ?_
    refine lv_iadd hx hb dL_law_690 ?_
    refine lv_toc (v := 3) (by decide) ?_
    refine z_sld hx hb hXx hbl hbA hS 3 (by decide) (by unfold vp_in; decide) dL_law_691 ?_
    refine z_bi (wr := []) (z_runV (C := RX12) (As := [.int (xs 1), .int (xs 2), .int (xs 3)]) (rest := [.int (-2)]) C0 (c_X12_appeal_1 l D k hM (aM 0) (aM 1) (aM 2) (aM 3) (aM 4) (aM 5) (aM 6) (aM 7) (aM 8) (aM 9) (aM 10) (aM 11) (aM 12) (aM 13) (aM 14) (aM 15) (aM 16) (aM 17) (aM 18) (aM 19) (aM 20) (aM 21) (aM 22) (aM 23) (aM 24) (xs 1) (xs 2) (xs 3) 0 0 0 0 0 0 0 0 (-1) 0 0 0 0 0 0 0 0 0 0 0 0 0 0 0 0 0 0 0 0 0 0 _) okV_X12_appeal kM_L_58 rfl (z_pV (q0 := 0) hK hN hP hD [0, 1] rfl rfl rfl rfl rfl) rfl hl.1 rfl (Nat.le_of_ble_eq_true rfl) dL_law_692 rfl) hP hD hS hA [0, 1] [] rfl rfl rfl rfl (fun r4 u4 H locs hw4 hP hD hS => ?_)
    obtain ⟨i4, a4⟩ := u4
    dsimp only at hw4
    rcases hw4 with ⟨rfl, rfl, c4⟩ | ⟨rfl, rfl, c4⟩
    · have hP : va_P D vwCl [] H := hP
      have hD : va_D (fun q : Nat => s.heap.size ≤ q) [] := hD
      exact (show False by have bA0 := Int32.le_toInt (xs 2); have bB0 := Int32.toInt_lt (xs 2); have bA1 := Int32.le_toInt (xs 3); have bB1 := Int32.toInt_lt (xs 3); revert c1 c4; simp only [vp_in_iff, Int32.lt_iff_toInt_lt, Int32.le_iff_toInt_le, Int64.lt_iff_toInt_lt, Int64.le_iff_toInt_le, Int32.toInt_toInt64, ← Int32.toInt_inj, ← Int64.toInt_inj, Int32.reduceToInt, Int64.reduceToInt] <;> omega).elim
    · have hP : va_P D vwCl [] H := hP
      have hD : va_D (fun q : Nat => s.heap.size ≤ q) [] := hD
      refine lv_icmp_eq (tgt := 2078) hx hb dL_law_695 (by decide) (fun _ => ?_) (fun c5 => absurd (by decide) c5)
      exact law_end hC (Nat.le_of_ble_eq_true rfl) (Nat.le_of_ble_eq_true rfl) hS (lv_sub hl [0, 3] rfl)

set_option maxHeartbeats 4000000 in
set_option maxRecDepth 100000 in
theorem law_case_10 {p : Program} {l : Launch} {e : Env} {s : State} {m : MethodId} {below : List Frame} {meth : Method} {c : Code} {D : va_G} {k : Nat → ClassId} {b : Nat} {xs : Nat → Int32} (hC : law_C p s m meth c D k b 7 xs) {hX hM : Nat} {aX aM : Nat → Nat} {H : Heap} {locs : List Loc} {ls : Array Slot} (hP : va_P D vwCl (WX k hX aX ++ WM k hM aM) H) (hD : va_D (fun q : Nat => s.heap.size ≤ q) (WX k hX aX ++ WM k hM aM)) (hS : va_S (fun q : Nat => s.heap.size ≤ q) s.heap H locs) (hl : lv_has ls 4 [(0, .ref b), (1, .ref hX), (2, .ref hM), (3, .int 0)]) : W p l e room_1 s m #[Value.ref b] below meth c H locs 100 106558 (lw_Z below #[Value.ref b] s) (F0 m 700 ls []) := by
  obtain ⟨C0, hr, hlk, hXx, hbl, hK, hN⟩ := id hC
  have hx := C0.1
  have hb := C0.2.1
  have hml := C0.2.2.1
  have hown := C0.2.2.2.1
  have hts := C0.2.2.2.2
  have hA : ∀ q : Nat, s.heap.size ≤ q → (fun q : Nat => s.heap.size ≤ q) q := fun _ h => h
  have hbA : ¬ (fun q : Nat => s.heap.size ≤ q) b := Nat.not_le.mpr hbl
  refine lv_aload_n hx hb dL_law_700 rfl (lv_at hl 1 rfl) ?_
  refine lv_aload_n hx hb dL_law_701 rfl (lv_at hl 0 rfl) ?_
  refine lv_iload_n hx hb dL_law_702 rfl (lv_at hl 3 rfl) ?_
  refine lv_iconst (v := 1) hx hb dL_law_703 (by decide) ?_
  refine lv_iadd hx hb dL_law_704 ?_
  refine lv_toc (v := 1) (by decide) ?_
  refine z_sld hx hb hXx hbl hbA hS 1 (by decide) (by unfold vp_in; decide) dL_law_705 ?_
  refine lv_aload_n hx hb dL_law_706 rfl (lv_at hl 0 rfl) ?_
  refine lv_iload_n hx hb dL_law_707 rfl (lv_at hl 3 rfl) ?_
  refine lv_iconst (v := 2) hx hb dL_law_708 (by decide) ?_
  refine lv_iadd hx hb dL_law_709 ?_
  refine lv_toc (v := 2) (by decide) ?_
  refine z_sld hx hb hXx hbl hbA hS 2 (by decide) (by unfold vp_in; decide) dL_law_710 ?_
  refine lv_aload_n hx hb dL_law_711 rfl (lv_at hl 0 rfl) ?_
  refine lv_iload_n hx hb dL_law_712 rfl (lv_at hl 3 rfl) ?_
  refine lv_iconst (v := 3) hx hb dL_law_713 (by decide) ?_
  refine lv_iadd hx hb dL_law_714 ?_
  refine lv_toc (v := 3) (by decide) ?_
  refine z_sld hx hb hXx hbl hbA hS 3 (by decide) (by unfold vp_in; decide) dL_law_715 ?_
  refine lv_aload_n hx hb dL_law_716 rfl (lv_at hl 0 rfl) ?_
  refine lv_iload_n hx hb dL_law_717 rfl (lv_at hl 3 rfl) ?_
  refine lv_iconst (v := 4) hx hb dL_law_718 (by decide) ?_
  refine lv_iadd hx hb dL_law_719 ?_
  refine lv_toc (v := 4) (by decide) ?_
  refine z_sld hx hb hXx hbl hbA hS 4 (by decide) (by unfold vp_in; decide) dL_law_720 ?_
  refine lv_aload_n hx hb dL_law_721 rfl (lv_at hl 0 rfl) ?_
  refine lv_iload_n hx hb dL_law_722 rfl (lv_at hl 3 rfl) ?_
  refine lv_iconst (v := 5) hx hb dL_law_723 (by decide) ?_
  refine lv_iadd hx hb dL_law_724 ?_
  refine lv_toc (v := 5) (by decide) ?_
  refine z_sld hx hb hXx hbl hbA hS 5 (by decide) (by unfold vp_in; decide) dL_law_725 ?_
  refine z_bi (wr := [(hM, .inr (12, [.int 0, .int 0, .ref (aM 0), .ref (aM 1), .ref (aM 2), .int 0, .ref (aM 3), .ref (aM 4), .ref (aM 5), .ref (aM 6), .ref (aM 7), .int 0, .int 0, .int 0, .int 0, .long 0, .int (-1), .int 0, .int 0, .ref (aM 8), .int 0, .ref (aM 9), .ref (aM 10), .int 0, .ref (aM 11), .ref (aM 12), .int 0, .int 0, .ref (aM 13), .ref (aM 14), .ref (aM 15), .ref (aM 16), .int 0, .long 0, .long 0, .int 0, .int 0, .int 0, .int 0, .ref (aM 17), .ref (aM 18), .int 0, .int 0, .int 0, .int 0, .ref (aM 19), .ref (aM 20), .int 0, .int 0, .ref (aM 21), .ref (aM 22), .ref (aM 23), .ref (aM 24), .int 0, .int 0, .int 0])), ((aM 0), .inl (k 0, 27101, .inl (fun _ => 0)))]) (z_runV (C := RX11) (As := [.int (xs 1), .int (xs 2), .int (xs 3), .int (xs 4), .int (xs 5)]) (rest := []) C0 (c_X11_tells_1 l D k hX (aX 0) (aX 1) (aX 50) (aX 51) (aX 57) (aX 65) (aX 14) (aX 20) (aX 33) (aX 36) (aX 40) (aX 2) (aX 3) (aX 4) (aX 5) (aX 6) (aX 7) (aX 8) (aX 9) (aX 10) (aX 11) (aX 12) (aX 13) (xs 1) (xs 2) (xs 3) (xs 4) (xs 5) 0 0 0 _) okV_X11_tells kM_L_59 rfl (z_pV (q0 := 0) hK hN hP hD [0, 1, 2] rfl rfl rfl rfl rfl) rfl hl.1 rfl (Nat.le_of_ble_eq_true rfl) dL_law_726 rfl) hP hD hS hA [0, 1, 2] [74, 75] rfl rfl rfl rfl (fun r1 u1 H locs hw1 hP hD hS => ?_)
  obtain ⟨i1, a1⟩ := u1
  dsimp only at hw1
  obtain ⟨rfl, rfl⟩ := hw1
  have hP : va_P D vwCl [(hM, .inr (12, [.int 0, .int 0, .ref (aM 0), .ref (aM 1), .ref (aM 2), .int 0, .ref (aM 3), .ref (aM 4), .ref (aM 5), .ref (aM 6), .ref (aM 7), .int 0, .int 0, .int 0, .int 0, .long 0, .int (-1), .int 0, .int 0, .ref (aM 8), .int 0, .ref (aM 9), .ref (aM 10), .int 0, .ref (aM 11), .ref (aM 12), .int 0, .int 0, .ref (aM 13), .ref (aM 14), .ref (aM 15), .ref (aM 16), .int 0, .long 0, .long 0, .int 0, .int 0, .int 0, .int 0, .ref (aM 17), .ref (aM 18), .int 0, .int 0, .int 0, .int 0, .ref (aM 19), .ref (aM 20), .int 0, .int 0, .ref (aM 21), .ref (aM 22), .ref (aM 23), .ref (aM 24), .int 0, .int 0, .int 0])), ((aM 0), .inl (k 0, 27101, .inl (fun _ => 0)))] H := hP
  have hD : va_D (fun q : Nat => s.heap.size ≤ q) [(hM, .inr (12, [.int 0, .int 0, .ref (aM 0), .ref (aM 1), .ref (aM 2), .int 0, .ref (aM 3), .ref (aM 4), .ref (aM 5), .ref (aM 6), .ref (aM 7), .int 0, .int 0, .int 0, .int 0, .long 0, .int (-1), .int 0, .int 0, .ref (aM 8), .int 0, .ref (aM 9), .ref (aM 10), .int 0, .ref (aM 11), .ref (aM 12), .int 0, .int 0, .ref (aM 13), .ref (aM 14), .ref (aM 15), .ref (aM 16), .int 0, .long 0, .long 0, .int 0, .int 0, .int 0, .int 0, .ref (aM 17), .ref (aM 18), .int 0, .int 0, .int 0, .int 0, .ref (aM 19), .ref (aM 20), .int 0, .int 0, .ref (aM 21), .ref (aM 22), .ref (aM 23), .ref (aM 24), .int 0, .int 0, .int 0])), ((aM 0), .inl (k 0, 27101, .inl (fun _ => 0)))] := hD
  refine lv_aload_n hx hb dL_law_729 rfl (lv_at hl 2 rfl) ?_
  refine lv_aload_n hx hb dL_law_730 rfl (lv_at hl 0 rfl) ?_
  refine lv_iload_n hx hb dL_law_731 rfl (lv_at hl 3 rfl) ?_
  refine lv_iconst (v := 1) hx hb dL_law_732 (by decide) ?_
  refine lv_iadd hx hb dL_law_733 ?_
  refine lv_toc (v := 1) (by decide) ?_
  refine z_sld hx hb hXx hbl hbA hS 1 (by decide) (by unfold vp_in; decide) dL_law_734 ?_
  refine lv_aload_n hx hb dL_law_735 rfl (lv_at hl 0 rfl) ?_
  refine lv_iload_n hx hb dL_law_736 rfl (lv_at hl 3 rfl) ?_
  refine lv_iconst (v := 2) hx hb dL_law_737 (by decide) ?_
  refine lv_iadd hx hb dL_law_738 ?_
  refine lv_toc (v := 2) (by decide) ?_
  refine z_sld hx hb hXx hbl hbA hS 2 (by decide) (by unfold vp_in; decide) dL_law_739 ?_
  refine lv_aload_n hx hb dL_law_740 rfl (lv_at hl 0 rfl) ?_
  refine lv_iload_n hx hb dL_law_741 rfl (lv_at hl 3 rfl) ?_
  refine lv_iconst (v := 3) hx hb dL_law_742 (by decide) ?_
  refine lv_iadd hx hb dL_law_743 ?_
  refine lv_toc (v := 3) (by decide) ?_
  refine z_sld hx hb hXx hbl hbA hS 3 (by decide) (by unfold vp_in; decide) dL_law_744 ?_
  refine lv_aload_n hx hb dL_law_745 rfl (lv_at hl 0 rfl) ?_
  refine lv_iload_n hx hb dL_law_746 rfl (lv_at hl 3 rfl) ?_
  refine lv_iconst (v := 4) hx hb dL_law_747 (by decide) ?_
  refine lv_iadd hx hb dL_law_748 ?_
  refine lv_toc (v := 4) (by decide) ?_
  refine z_sld hx hb hXx hbl hbA hS 4 (by decide) (by unfold vp_in; decide) dL_law_749 ?_
  refine lv_aload_n hx hb dL_law_750 rfl (lv_at hl 0 rfl) ?_
  refine lv_iload_n hx hb dL_law_751 rfl (lv_at hl 3 rfl) ?_
  refine lv_iconst (v := 5) hx hb dL_law_752 (by decide) ?_
  refine lv_iadd hx hb dL_law_753 ?_
  refine lv_toc (v := 5) (by decide) ?_
  refine z_sld hx hb hXx hbl hbA hS 5 (by decide) (by unfold vp_in; decide) dL_law_754 ?_
  refine z_bi (wr := []) (z_runV (C := RX12) (As := [.int (xs 1), .int (xs 2), .int (xs 3), .int (xs 4), .int (xs 5)]) (rest := [.int (-1)]) C0 (c_X12_tells_1 l D k hM (aM 0) (aM 1) (aM 2) (aM 3) (aM 4) (aM 5) (aM 6) (aM 7) (aM 8) (aM 9) (aM 10) (aM 11) (aM 12) (aM 13) (aM 14) (aM 15) (aM 16) (aM 17) (aM 18) (aM 19) (aM 20) (aM 21) (aM 22) (aM 23) (aM 24) (xs 1) (xs 2) (xs 3) (xs 4) (xs 5) 0 0 0 0 0 0 0 0 (-1) 0 0 0 0 0 0 0 0 0 0 0 0 0 0 0 0 0 0 0 0 0 0 _) okV_X12_tells kM_L_63 rfl (z_pV (q0 := 0) hK hN hP hD [0, 1] rfl rfl rfl rfl rfl) rfl hl.1 rfl (Nat.le_of_ble_eq_true rfl) dL_law_755 rfl) hP hD hS hA [0, 1] [] rfl rfl rfl rfl (fun r2 u2 H locs hw2 hP hD hS => ?_)
  obtain ⟨i2, a2⟩ := u2
  dsimp only at hw2
  obtain ⟨rfl, rfl⟩ := hw2
  have hP : va_P D vwCl [] H := hP
  have hD : va_D (fun q : Nat => s.heap.size ≤ q) [] := hD
  refine lv_icmp_eq (tgt := 2078) hx hb dL_law_758 (by decide) (fun _ => ?_) (fun c3 => absurd (by decide) c3)
  exact law_end hC (Nat.le_of_ble_eq_true rfl) (Nat.le_of_ble_eq_true rfl) hS (lv_sub hl [0, 3] rfl)

set_option maxHeartbeats 4000000 in
set_option maxRecDepth 100000 in
theorem law_case_11 {p : Program} {l : Launch} {e : Env} {s : State} {m : MethodId} {below : List Frame} {meth : Method} {c : Code} {D : va_G} {k : Nat → ClassId} {b : Nat} {xs : Nat → Int32} (hC : law_C p s m meth c D k b 7 xs) {hX hM : Nat} {aX aM : Nat → Nat} {H : Heap} {locs : List Loc} {ls : Array Slot} (hP : va_P D vwCl (WX k hX aX ++ WM k hM aM) H) (hD : va_D (fun q : Nat => s.heap.size ≤ q) (WX k hX aX ++ WM k hM aM)) (hS : va_S (fun q : Nat => s.heap.size ≤ q) s.heap H locs) (hl : lv_has ls 4 [(0, .ref b), (1, .ref hX), (2, .ref hM), (3, .int 0)]) : W p l e room_1 s m #[Value.ref b] below meth c H locs 100 106558 (lw_Z below #[Value.ref b] s) (F0 m 763 ls []) := by
  obtain ⟨C0, hr, hlk, hXx, hbl, hK, hN⟩ := id hC
  have hx := C0.1
  have hb := C0.2.1
  have hml := C0.2.2.1
  have hown := C0.2.2.2.1
  have hts := C0.2.2.2.2
  have hA : ∀ q : Nat, s.heap.size ≤ q → (fun q : Nat => s.heap.size ≤ q) q := fun _ h => h
  have hbA : ¬ (fun q : Nat => s.heap.size ≤ q) b := Nat.not_le.mpr hbl
  refine lv_aload_n hx hb dL_law_763 rfl (lv_at hl 1 rfl) ?_
  refine lv_aload_n hx hb dL_law_764 rfl (lv_at hl 0 rfl) ?_
  refine lv_iload_n hx hb dL_law_765 rfl (lv_at hl 3 rfl) ?_
  refine lv_iconst (v := 1) hx hb dL_law_766 (by decide) ?_
  refine lv_iadd hx hb dL_law_767 ?_
  refine lv_toc (v := 1) (by decide) ?_
  refine z_sld hx hb hXx hbl hbA hS 1 (by decide) (by unfold vp_in; decide) dL_law_768 ?_
  refine lv_aload_n hx hb dL_law_769 rfl (lv_at hl 0 rfl) ?_
  refine lv_iload_n hx hb dL_law_770 rfl (lv_at hl 3 rfl) ?_
  refine lv_iconst (v := 2) hx hb dL_law_771 (by decide) ?_
  refine lv_iadd hx hb dL_law_772 ?_
  refine lv_toc (v := 2) (by decide) ?_
  refine z_sld hx hb hXx hbl hbA hS 2 (by decide) (by unfold vp_in; decide) dL_law_773 ?_
  refine lv_aload_n hx hb dL_law_774 rfl (lv_at hl 0 rfl) ?_
  refine lv_iload_n hx hb dL_law_775 rfl (lv_at hl 3 rfl) ?_
  refine lv_iconst (v := 3) hx hb dL_law_776 (by decide) ?_
  refine lv_iadd hx hb dL_law_777 ?_
  refine lv_toc (v := 3) (by decide) ?_
  refine z_sld hx hb hXx hbl hbA hS 3 (by decide) (by unfold vp_in; decide) dL_law_778 ?_
  refine lv_aload_n hx hb dL_law_779 rfl (lv_at hl 0 rfl) ?_
  refine lv_iload_n hx hb dL_law_780 rfl (lv_at hl 3 rfl) ?_
  refine lv_iconst (v := 4) hx hb dL_law_781 (by decide) ?_
  refine lv_iadd hx hb dL_law_782 ?_
  refine lv_toc (v := 4) (by decide) ?_
  refine z_sld hx hb hXx hbl hbA hS 4 (by decide) (by unfold vp_in; decide) dL_law_783 ?_
  refine lv_aload_n hx hb dL_law_784 rfl (lv_at hl 0 rfl) ?_
  refine lv_iload_n hx hb dL_law_785 rfl (lv_at hl 3 rfl) ?_
  refine lv_iconst (v := 5) hx hb dL_law_786 (by decide) ?_
  refine lv_iadd hx hb dL_law_787 ?_
  refine lv_toc (v := 5) (by decide) ?_
  refine z_sld hx hb hXx hbl hbA hS 5 (by decide) (by unfold vp_in; decide) dL_law_788 ?_
  refine z_bi (wr := [(hM, .inr (12, [.int 0, .int 0, .ref (aM 0), .ref (aM 1), .ref (aM 2), .int 0, .ref (aM 3), .ref (aM 4), .ref (aM 5), .ref (aM 6), .ref (aM 7), .int 0, .int 0, .int 0, .int 0, .long 0, .int (-1), .int 0, .int 0, .ref (aM 8), .int 0, .ref (aM 9), .ref (aM 10), .int 0, .ref (aM 11), .ref (aM 12), .int 0, .int 0, .ref (aM 13), .ref (aM 14), .ref (aM 15), .ref (aM 16), .int 0, .long 0, .long 0, .int 0, .int 0, .int 0, .int 0, .ref (aM 17), .ref (aM 18), .int 0, .int 0, .int 0, .int 0, .ref (aM 19), .ref (aM 20), .int 0, .int 0, .ref (aM 21), .ref (aM 22), .ref (aM 23), .ref (aM 24), .int 0, .int 0, .int 0])), ((aM 0), .inl (k 0, 27101, .inl (fun _ => 0)))]) (z_runV (C := RX11) (As := [.int (xs 1), .int (xs 2), .int (xs 3), .int (xs 4), .int (xs 5)]) (rest := []) C0 (c_X11_sees_1 l D k hX (aX 0) (aX 1) (aX 50) (aX 51) (aX 57) (aX 65) (aX 14) (aX 20) (aX 33) (aX 36) (aX 40) (aX 2) (aX 3) (aX 4) (aX 5) (aX 6) (aX 7) (aX 8) (aX 9) (aX 10) (aX 11) (aX 12) (aX 13) (xs 1) (xs 2) (xs 3) (xs 4) (xs 5) 0 0 0 _) okV_X11_sees kM_L_64 rfl (z_pV (q0 := 0) hK hN hP hD [0, 1, 2] rfl rfl rfl rfl rfl) rfl hl.1 rfl (Nat.le_of_ble_eq_true rfl) dL_law_789 rfl) hP hD hS hA [0, 1, 2] [74, 75] rfl rfl rfl rfl (fun r1 u1 H locs hw1 hP hD hS => ?_)
  obtain ⟨i1, a1⟩ := u1
  dsimp only at hw1
  obtain ⟨rfl, rfl⟩ := hw1
  have hP : va_P D vwCl [(hM, .inr (12, [.int 0, .int 0, .ref (aM 0), .ref (aM 1), .ref (aM 2), .int 0, .ref (aM 3), .ref (aM 4), .ref (aM 5), .ref (aM 6), .ref (aM 7), .int 0, .int 0, .int 0, .int 0, .long 0, .int (-1), .int 0, .int 0, .ref (aM 8), .int 0, .ref (aM 9), .ref (aM 10), .int 0, .ref (aM 11), .ref (aM 12), .int 0, .int 0, .ref (aM 13), .ref (aM 14), .ref (aM 15), .ref (aM 16), .int 0, .long 0, .long 0, .int 0, .int 0, .int 0, .int 0, .ref (aM 17), .ref (aM 18), .int 0, .int 0, .int 0, .int 0, .ref (aM 19), .ref (aM 20), .int 0, .int 0, .ref (aM 21), .ref (aM 22), .ref (aM 23), .ref (aM 24), .int 0, .int 0, .int 0])), ((aM 0), .inl (k 0, 27101, .inl (fun _ => 0)))] H := hP
  have hD : va_D (fun q : Nat => s.heap.size ≤ q) [(hM, .inr (12, [.int 0, .int 0, .ref (aM 0), .ref (aM 1), .ref (aM 2), .int 0, .ref (aM 3), .ref (aM 4), .ref (aM 5), .ref (aM 6), .ref (aM 7), .int 0, .int 0, .int 0, .int 0, .long 0, .int (-1), .int 0, .int 0, .ref (aM 8), .int 0, .ref (aM 9), .ref (aM 10), .int 0, .ref (aM 11), .ref (aM 12), .int 0, .int 0, .ref (aM 13), .ref (aM 14), .ref (aM 15), .ref (aM 16), .int 0, .long 0, .long 0, .int 0, .int 0, .int 0, .int 0, .ref (aM 17), .ref (aM 18), .int 0, .int 0, .int 0, .int 0, .ref (aM 19), .ref (aM 20), .int 0, .int 0, .ref (aM 21), .ref (aM 22), .ref (aM 23), .ref (aM 24), .int 0, .int 0, .int 0])), ((aM 0), .inl (k 0, 27101, .inl (fun _ => 0)))] := hD
  refine lv_aload_n hx hb dL_law_792 rfl (lv_at hl 2 rfl) ?_
  refine lv_aload_n hx hb dL_law_793 rfl (lv_at hl 0 rfl) ?_
  refine lv_iload_n hx hb dL_law_794 rfl (lv_at hl 3 rfl) ?_
  refine lv_iconst (v := 1) hx hb dL_law_795 (by decide) ?_
  refine lv_iadd hx hb dL_law_796 ?_
  refine lv_toc (v := 1) (by decide) ?_
  refine z_sld hx hb hXx hbl hbA hS 1 (by decide) (by unfold vp_in; decide) dL_law_797 ?_
  refine lv_aload_n hx hb dL_law_798 rfl (lv_at hl 0 rfl) ?_
  refine lv_iload_n hx hb dL_law_799 rfl (lv_at hl 3 rfl) ?_
  refine lv_iconst (v := 2) hx hb dL_law_800 (by decide) ?_
  refine lv_iadd hx hb dL_law_801 ?_
  refine lv_toc (v := 2) (by decide) ?_
  refine z_sld hx hb hXx hbl hbA hS 2 (by decide) (by unfold vp_in; decide) dL_law_802 ?_
  refine lv_aload_n hx hb dL_law_803 rfl (lv_at hl 0 rfl) ?_
  refine lv_iload_n hx hb dL_law_804 rfl (lv_at hl 3 rfl) ?_
  refine lv_iconst (v := 3) hx hb dL_law_805 (by decide) ?_
  refine lv_iadd hx hb dL_law_806 ?_
  refine lv_toc (v := 3) (by decide) ?_
  refine z_sld hx hb hXx hbl hbA hS 3 (by decide) (by unfold vp_in; decide) dL_law_807 ?_
  refine lv_aload_n hx hb dL_law_808 rfl (lv_at hl 0 rfl) ?_
  refine lv_iload_n hx hb dL_law_809 rfl (lv_at hl 3 rfl) ?_
  refine lv_iconst (v := 4) hx hb dL_law_810 (by decide) ?_
  refine lv_iadd hx hb dL_law_811 ?_
  refine lv_toc (v := 4) (by decide) ?_
  refine z_sld hx hb hXx hbl hbA hS 4 (by decide) (by unfold vp_in; decide) dL_law_812 ?_
  refine lv_aload_n hx hb dL_law_813 rfl (lv_at hl 0 rfl) ?_
  refine lv_iload_n hx hb dL_law_814 rfl (lv_at hl 3 rfl) ?_
  refine lv_iconst (v := 5) hx hb dL_law_815 (by decide) ?_
  refine lv_iadd hx hb dL_law_816 ?_
  refine lv_toc (v := 5) (by decide) ?_
  refine z_sld hx hb hXx hbl hbA hS 5 (by decide) (by unfold vp_in; decide) dL_law_817 ?_
  refine z_bi (wr := []) (z_runV (C := RX12) (As := [.int (xs 1), .int (xs 2), .int (xs 3), .int (xs 4), .int (xs 5)]) (rest := [.int (-1)]) C0 (c_X12_sees_1 l D k hM (aM 0) (aM 1) (aM 2) (aM 3) (aM 4) (aM 5) (aM 6) (aM 7) (aM 8) (aM 9) (aM 10) (aM 11) (aM 12) (aM 13) (aM 14) (aM 15) (aM 16) (aM 17) (aM 18) (aM 19) (aM 20) (aM 21) (aM 22) (aM 23) (aM 24) (xs 1) (xs 2) (xs 3) (xs 4) (xs 5) 0 0 0 0 0 0 0 0 (-1) 0 0 0 0 0 0 0 0 0 0 0 0 0 0 0 0 0 0 0 0 0 0 _) okV_X12_sees kM_L_67 rfl (z_pV (q0 := 0) hK hN hP hD [0, 1] rfl rfl rfl rfl rfl) rfl hl.1 rfl (Nat.le_of_ble_eq_true rfl) dL_law_818 rfl) hP hD hS hA [0, 1] [] rfl rfl rfl rfl (fun r2 u2 H locs hw2 hP hD hS => ?_)
  obtain ⟨i2, a2⟩ := u2
  dsimp only at hw2
  obtain ⟨rfl, rfl⟩ := hw2
  have hP : va_P D vwCl [] H := hP
  have hD : va_D (fun q : Nat => s.heap.size ≤ q) [] := hD
  refine lv_icmp_eq (tgt := 2078) hx hb dL_law_821 (by decide) (fun _ => ?_) (fun c3 => absurd (by decide) c3)
  exact law_end hC (Nat.le_of_ble_eq_true rfl) (Nat.le_of_ble_eq_true rfl) hS (lv_sub hl [0, 3] rfl)

set_option maxHeartbeats 4000000 in
set_option maxRecDepth 100000 in
theorem law_case_12 {p : Program} {l : Launch} {e : Env} {s : State} {m : MethodId} {below : List Frame} {meth : Method} {c : Code} {D : va_G} {k : Nat → ClassId} {b : Nat} {xs : Nat → Int32} (hC : law_C p s m meth c D k b 7 xs) {hX hM : Nat} {aX aM : Nat → Nat} {H : Heap} {locs : List Loc} {ls : Array Slot} (hP : va_P D vwCl (WX k hX aX ++ WM k hM aM) H) (hD : va_D (fun q : Nat => s.heap.size ≤ q) (WX k hX aX ++ WM k hM aM)) (hS : va_S (fun q : Nat => s.heap.size ≤ q) s.heap H locs) (hl : lv_has ls 4 [(0, .ref b), (1, .ref hX), (2, .ref hM), (3, .int 0)]) : W p l e room_1 s m #[Value.ref b] below meth c H locs 100 106558 (lw_Z below #[Value.ref b] s) (F0 m 826 ls []) := by
  obtain ⟨C0, hr, hlk, hXx, hbl, hK, hN⟩ := id hC
  have hx := C0.1
  have hb := C0.2.1
  have hml := C0.2.2.1
  have hown := C0.2.2.2.1
  have hts := C0.2.2.2.2
  have hA : ∀ q : Nat, s.heap.size ≤ q → (fun q : Nat => s.heap.size ≤ q) q := fun _ h => h
  have hbA : ¬ (fun q : Nat => s.heap.size ≤ q) b := Nat.not_le.mpr hbl
  refine lv_aload_n hx hb dL_law_826 rfl (lv_at hl 1 rfl) ?_
  refine lv_aload_n hx hb dL_law_827 rfl (lv_at hl 0 rfl) ?_
  refine lv_iload_n hx hb dL_law_828 rfl (lv_at hl 3 rfl) ?_
  refine lv_iconst (v := 1) hx hb dL_law_829 (by decide) ?_
  refine lv_iadd hx hb dL_law_830 ?_
  refine lv_toc (v := 1) (by decide) ?_
  refine z_sld hx hb hXx hbl hbA hS 1 (by decide) (by unfold vp_in; decide) dL_law_831 ?_
  refine lv_aload_n hx hb dL_law_832 rfl (lv_at hl 0 rfl) ?_
  refine lv_iload_n hx hb dL_law_833 rfl (lv_at hl 3 rfl) ?_
  refine lv_iconst (v := 2) hx hb dL_law_834 (by decide) ?_
  refine lv_iadd hx hb dL_law_835 ?_
  refine lv_toc (v := 2) (by decide) ?_
  refine z_sld hx hb hXx hbl hbA hS 2 (by decide) (by unfold vp_in; decide) dL_law_836 ?_
  refine lv_aload_n hx hb dL_law_837 rfl (lv_at hl 0 rfl) ?_
  refine lv_iload_n hx hb dL_law_838 rfl (lv_at hl 3 rfl) ?_
  refine lv_iconst (v := 3) hx hb dL_law_839 (by decide) ?_
  refine lv_iadd hx hb dL_law_840 ?_
  refine lv_toc (v := 3) (by decide) ?_
  refine z_sld hx hb hXx hbl hbA hS 3 (by decide) (by unfold vp_in; decide) dL_law_841 ?_
  refine lv_aload_n hx hb dL_law_842 rfl (lv_at hl 0 rfl) ?_
  refine lv_iload_n hx hb dL_law_843 rfl (lv_at hl 3 rfl) ?_
  refine lv_iconst (v := 4) hx hb dL_law_844 (by decide) ?_
  refine lv_iadd hx hb dL_law_845 ?_
  refine lv_toc (v := 4) (by decide) ?_
  refine z_sld hx hb hXx hbl hbA hS 4 (by decide) (by unfold vp_in; decide) dL_law_846 ?_
  refine lv_aload_n hx hb dL_law_847 rfl (lv_at hl 0 rfl) ?_
  refine lv_iload_n hx hb dL_law_848 rfl (lv_at hl 3 rfl) ?_
  refine lv_iconst (v := 5) hx hb dL_law_849 (by decide) ?_
  refine lv_iadd hx hb dL_law_850 ?_
  refine lv_toc (v := 5) (by decide) ?_
  refine z_sld hx hb hXx hbl hbA hS 5 (by decide) (by unfold vp_in; decide) dL_law_851 ?_
  refine z_bi (wr := [(hM, .inr (12, [.int 0, .int 0, .ref (aM 0), .ref (aM 1), .ref (aM 2), .int 0, .ref (aM 3), .ref (aM 4), .ref (aM 5), .ref (aM 6), .ref (aM 7), .int 0, .int 0, .int 0, .int 0, .long 0, .int (-1), .int 0, .int 0, .ref (aM 8), .int 0, .ref (aM 9), .ref (aM 10), .int 0, .ref (aM 11), .ref (aM 12), .int 0, .int 0, .ref (aM 13), .ref (aM 14), .ref (aM 15), .ref (aM 16), .int 0, .long 0, .long 0, .int 0, .int 0, .int 0, .int 0, .ref (aM 17), .ref (aM 18), .int 0, .int 0, .int 0, .int 0, .ref (aM 19), .ref (aM 20), .int 0, .int 0, .ref (aM 21), .ref (aM 22), .ref (aM 23), .ref (aM 24), .int 0, .int 0, .int 0])), ((aM 7), .inl (k 0, 400, .inl (fun _ => 0)))]) (z_runV (C := RX11) (As := [.int (xs 1), .int (xs 2), .int (xs 3), .int (xs 4), .int (xs 5)]) (rest := []) C0 (c_X11_feed_1 l D k hX (aX 51) (aX 52) (aX 0) (aX 50) (aX 57) (aX 65) (aX 53) (aX 54) (aX 55) (aX 56) (xs 1) (xs 2) (xs 3) (xs 4) (xs 5) 0 (-1) 0 0 0 0 0 0 0 0 0 (fun _ => 0) _) okV_X11_feed kM_L_68 rfl (z_pV (q0 := 0) hK hN hP hD [0, 52, 53] rfl rfl rfl rfl rfl) rfl hl.1 rfl (Nat.le_of_ble_eq_true rfl) dL_law_852 rfl) hP hD hS hA [0, 52, 53] [74, 82] rfl rfl rfl rfl (fun r1 u1 H locs hw1 hP hD hS => ?_)
  obtain ⟨i1, a1⟩ := u1
  dsimp only at hw1
  obtain ⟨rfl, rfl⟩ := hw1
  have hP : va_P D vwCl [(hM, .inr (12, [.int 0, .int 0, .ref (aM 0), .ref (aM 1), .ref (aM 2), .int 0, .ref (aM 3), .ref (aM 4), .ref (aM 5), .ref (aM 6), .ref (aM 7), .int 0, .int 0, .int 0, .int 0, .long 0, .int (-1), .int 0, .int 0, .ref (aM 8), .int 0, .ref (aM 9), .ref (aM 10), .int 0, .ref (aM 11), .ref (aM 12), .int 0, .int 0, .ref (aM 13), .ref (aM 14), .ref (aM 15), .ref (aM 16), .int 0, .long 0, .long 0, .int 0, .int 0, .int 0, .int 0, .ref (aM 17), .ref (aM 18), .int 0, .int 0, .int 0, .int 0, .ref (aM 19), .ref (aM 20), .int 0, .int 0, .ref (aM 21), .ref (aM 22), .ref (aM 23), .ref (aM 24), .int 0, .int 0, .int 0])), ((aM 7), .inl (k 0, 400, .inl (fun _ => 0)))] H := hP
  have hD : va_D (fun q : Nat => s.heap.size ≤ q) [(hM, .inr (12, [.int 0, .int 0, .ref (aM 0), .ref (aM 1), .ref (aM 2), .int 0, .ref (aM 3), .ref (aM 4), .ref (aM 5), .ref (aM 6), .ref (aM 7), .int 0, .int 0, .int 0, .int 0, .long 0, .int (-1), .int 0, .int 0, .ref (aM 8), .int 0, .ref (aM 9), .ref (aM 10), .int 0, .ref (aM 11), .ref (aM 12), .int 0, .int 0, .ref (aM 13), .ref (aM 14), .ref (aM 15), .ref (aM 16), .int 0, .long 0, .long 0, .int 0, .int 0, .int 0, .int 0, .ref (aM 17), .ref (aM 18), .int 0, .int 0, .int 0, .int 0, .ref (aM 19), .ref (aM 20), .int 0, .int 0, .ref (aM 21), .ref (aM 22), .ref (aM 23), .ref (aM 24), .int 0, .int 0, .int 0])), ((aM 7), .inl (k 0, 400, .inl (fun _ => 0)))] := hD
  refine lv_aload_n hx hb dL_law_855 rfl (lv_at hl 2 rfl) ?_
  refine lv_aload_n hx hb dL_law_856 rfl (lv_at hl 0 rfl) ?_
  refine lv_iload_n hx hb dL_law_857 rfl (lv_at hl 3 rfl) ?_
  refine lv_iconst (v := 1) hx hb dL_law_858 (by decide) ?_
  refine lv_iadd hx hb dL_law_859 ?_
  refine lv_toc (v := 1) (by decide) ?_
  refine z_sld hx hb hXx hbl hbA hS 1 (by decide) (by unfold vp_in; decide) dL_law_860 ?_
  refine lv_aload_n hx hb dL_law_861 rfl (lv_at hl 0 rfl) ?_
  refine lv_iload_n hx hb dL_law_862 rfl (lv_at hl 3 rfl) ?_
  refine lv_iconst (v := 2) hx hb dL_law_863 (by decide) ?_
  refine lv_iadd hx hb dL_law_864 ?_
  refine lv_toc (v := 2) (by decide) ?_
  refine z_sld hx hb hXx hbl hbA hS 2 (by decide) (by unfold vp_in; decide) dL_law_865 ?_
  refine lv_aload_n hx hb dL_law_866 rfl (lv_at hl 0 rfl) ?_
  refine lv_iload_n hx hb dL_law_867 rfl (lv_at hl 3 rfl) ?_
  refine lv_iconst (v := 3) hx hb dL_law_868 (by decide) ?_
  refine lv_iadd hx hb dL_law_869 ?_
  refine lv_toc (v := 3) (by decide) ?_
  refine z_sld hx hb hXx hbl hbA hS 3 (by decide) (by unfold vp_in; decide) dL_law_870 ?_
  refine lv_aload_n hx hb dL_law_871 rfl (lv_at hl 0 rfl) ?_
  refine lv_iload_n hx hb dL_law_872 rfl (lv_at hl 3 rfl) ?_
  refine lv_iconst (v := 4) hx hb dL_law_873 (by decide) ?_
  refine lv_iadd hx hb dL_law_874 ?_
  refine lv_toc (v := 4) (by decide) ?_
  refine z_sld hx hb hXx hbl hbA hS 4 (by decide) (by unfold vp_in; decide) dL_law_875 ?_
  refine lv_aload_n hx hb dL_law_876 rfl (lv_at hl 0 rfl) ?_
  refine lv_iload_n hx hb dL_law_877 rfl (lv_at hl 3 rfl) ?_
  refine lv_iconst (v := 5) hx hb dL_law_878 (by decide) ?_
  refine lv_iadd hx hb dL_law_879 ?_
  refine lv_toc (v := 5) (by decide) ?_
  refine z_sld hx hb hXx hbl hbA hS 5 (by decide) (by unfold vp_in; decide) dL_law_880 ?_
  refine z_bi (wr := []) (z_runV (C := RX12) (As := [.int (xs 1), .int (xs 2), .int (xs 3), .int (xs 4), .int (xs 5)]) (rest := [.int 20]) C0 (c_X12_feed_1 l D k hM (aM 7) (aM 0) (aM 1) (aM 2) (aM 3) (aM 4) (aM 5) (aM 6) (aM 8) (aM 9) (aM 10) (aM 11) (aM 12) (aM 13) (aM 14) (aM 15) (aM 16) (aM 17) (aM 18) (aM 19) (aM 20) (aM 21) (aM 22) (aM 23) (aM 24) (xs 1) (xs 2) (xs 3) (xs 4) (xs 5) 0 0 0 0 0 0 0 (-1) 0 0 0 0 0 0 0 0 0 0 0 0 0 0 0 0 0 0 0 0 0 0 (fun _ => 0) _) okV_X12_feed kM_L_71 rfl (z_pV (q0 := 0) hK hN hP hD [0, 1] rfl rfl rfl rfl rfl) rfl hl.1 rfl (Nat.le_of_ble_eq_true rfl) dL_law_881 rfl) hP hD hS hA [0, 1] [] rfl rfl rfl rfl (fun r2 u2 H locs hw2 hP hD hS => ?_)
  obtain ⟨i2, a2⟩ := u2
  dsimp only at hw2
  obtain ⟨rfl, rfl⟩ := hw2
  have hP : va_P D vwCl [] H := hP
  have hD : va_D (fun q : Nat => s.heap.size ≤ q) [] := hD
  refine lv_icmp_eq (tgt := 2078) hx hb dL_law_884 (by decide) (fun _ => ?_) (fun c3 => absurd (by decide) c3)
  exact law_end hC (Nat.le_of_ble_eq_true rfl) (Nat.le_of_ble_eq_true rfl) hS (lv_sub hl [0, 3] rfl)

set_option maxHeartbeats 4000000 in
set_option maxRecDepth 100000 in
theorem law_case_13 {p : Program} {l : Launch} {e : Env} {s : State} {m : MethodId} {below : List Frame} {meth : Method} {c : Code} {D : va_G} {k : Nat → ClassId} {b : Nat} {xs : Nat → Int32} (hC : law_C p s m meth c D k b 7 xs) {hX hM : Nat} {aX aM : Nat → Nat} {H : Heap} {locs : List Loc} {ls : Array Slot} (hP : va_P D vwCl (WX k hX aX ++ WM k hM aM) H) (hD : va_D (fun q : Nat => s.heap.size ≤ q) (WX k hX aX ++ WM k hM aM)) (hS : va_S (fun q : Nat => s.heap.size ≤ q) s.heap H locs) (hl : lv_has ls 4 [(0, .ref b), (1, .ref hX), (2, .ref hM), (3, .int 0)]) : W p l e room_1 s m #[Value.ref b] below meth c H locs 100 106558 (lw_Z below #[Value.ref b] s) (F0 m 889 ls []) := by
  obtain ⟨C0, hr, hlk, hXx, hbl, hK, hN⟩ := id hC
  have hx := C0.1
  have hb := C0.2.1
  have hml := C0.2.2.1
  have hown := C0.2.2.2.1
  have hts := C0.2.2.2.2
  have hA : ∀ q : Nat, s.heap.size ≤ q → (fun q : Nat => s.heap.size ≤ q) q := fun _ h => h
  have hbA : ¬ (fun q : Nat => s.heap.size ≤ q) b := Nat.not_le.mpr hbl
  refine lv_aload_n hx hb dL_law_889 rfl (lv_at hl 1 rfl) ?_
  refine lv_aload_n hx hb dL_law_890 rfl (lv_at hl 0 rfl) ?_
  refine lv_iload_n hx hb dL_law_891 rfl (lv_at hl 3 rfl) ?_
  refine lv_iconst (v := 1) hx hb dL_law_892 (by decide) ?_
  refine lv_iadd hx hb dL_law_893 ?_
  refine lv_toc (v := 1) (by decide) ?_
  refine z_sld hx hb hXx hbl hbA hS 1 (by decide) (by unfold vp_in; decide) dL_law_894 ?_
  refine z_bi (wr := [(hM, .inr (12, [.int 0, .int 0, .ref (aM 0), .ref (aM 1), .ref (aM 2), .int 0, .ref (aM 3), .ref (aM 4), .ref (aM 5), .ref (aM 6), .ref (aM 7), .int 0, .int 0, .int 0, .int 0, .long 0, .int (-1), .int 0, .int 0, .ref (aM 8), .int 0, .ref (aM 9), .ref (aM 10), .int 0, .ref (aM 11), .ref (aM 12), .int 0, .int 0, .ref (aM 13), .ref (aM 14), .ref (aM 15), .ref (aM 16), .int 0, .long 0, .long 0, .int 0, .int 0, .int 0, .int 0, .ref (aM 17), .ref (aM 18), .int 0, .int 0, .int 0, .int 0, .ref (aM 19), .ref (aM 20), .int 0, .int 0, .ref (aM 21), .ref (aM 22), .ref (aM 23), .ref (aM 24), .int 0, .int 0, .int 0]))]) (z_runV (C := RX11) (As := [.int (xs 1)]) (rest := []) C0 (c_X11_end_1 l D k hX (aX 51) (aX 0) (aX 50) (aX 57) (aX 65) (aX 52) (aX 53) (aX 54) (aX 55) (aX 56) (xs 1) 0 (-1) 0 0 0 0 0 0 0 0 0 _) okV_X11_end kM_L_72 rfl (z_pV (q0 := 0) hK hN hP hD [0, 52] rfl rfl rfl rfl rfl) rfl hl.1 rfl (Nat.le_of_ble_eq_true rfl) dL_law_895 rfl) hP hD hS hA [0, 52] [74] rfl rfl rfl rfl (fun r1 u1 H locs hw1 hP hD hS => ?_)
  obtain ⟨i1, a1⟩ := u1
  dsimp only at hw1
  rcases hw1 with ⟨rfl, rfl, c1⟩ | ⟨rfl, rfl, c1⟩
  · have hP : va_P D vwCl [(hM, .inr (12, [.int 0, .int 0, .ref (aM 0), .ref (aM 1), .ref (aM 2), .int 0, .ref (aM 3), .ref (aM 4), .ref (aM 5), .ref (aM 6), .ref (aM 7), .int 0, .int 0, .int 0, .int 0, .long 0, .int (-1), .int 0, .int 0, .ref (aM 8), .int 0, .ref (aM 9), .ref (aM 10), .int 0, .ref (aM 11), .ref (aM 12), .int 0, .int 0, .ref (aM 13), .ref (aM 14), .ref (aM 15), .ref (aM 16), .int 0, .long 0, .long 0, .int 0, .int 0, .int 0, .int 0, .ref (aM 17), .ref (aM 18), .int 0, .int 0, .int 0, .int 0, .ref (aM 19), .ref (aM 20), .int 0, .int 0, .ref (aM 21), .ref (aM 22), .ref (aM 23), .ref (aM 24), .int 0, .int 0, .int 0]))] H := hP
    have hD : va_D (fun q : Nat => s.heap.size ≤ q) [(hM, .inr (12, [.int 0, .int 0, .ref (aM 0), .ref (aM 1), .ref (aM 2), .int 0, .ref (aM 3), .ref (aM 4), .ref (aM 5), .ref (aM 6), .ref (aM 7), .int 0, .int 0, .int 0, .int 0, .long 0, .int (-1), .int 0, .int 0, .ref (aM 8), .int 0, .ref (aM 9), .ref (aM 10), .int 0, .ref (aM 11), .ref (aM 12), .int 0, .int 0, .ref (aM 13), .ref (aM 14), .ref (aM 15), .ref (aM 16), .int 0, .long 0, .long 0, .int 0, .int 0, .int 0, .int 0, .ref (aM 17), .ref (aM 18), .int 0, .int 0, .int 0, .int 0, .ref (aM 19), .ref (aM 20), .int 0, .int 0, .ref (aM 21), .ref (aM 22), .ref (aM 23), .ref (aM 24), .int 0, .int 0, .int 0]))] := hD
    refine lv_aload_n hx hb dL_law_898 rfl (lv_at hl 2 rfl) ?_
    refine lv_aload_n hx hb dL_law_899 rfl (lv_at hl 0 rfl) ?_
    refine lv_iload_n hx hb dL_law_900 rfl (lv_at hl 3 rfl) ?_
    refine lv_iconst (v := 1) hx hb dL_law_901 (by decide) ?_
    refine lv_iadd hx hb dL_law_902 ?_
    refine lv_toc (v := 1) (by decide) ?_
    refine z_sld hx hb hXx hbl hbA hS 1 (by decide) (by unfold vp_in; decide) dL_law_903 ?_
    refine z_bi (wr := []) (z_runV (C := RX12) (As := [.int (xs 1)]) (rest := [.int (-1)]) C0 (c_X12_end_1 l D k hM (aM 0) (aM 1) (aM 2) (aM 3) (aM 4) (aM 5) (aM 6) (aM 7) (aM 8) (aM 9) (aM 10) (aM 11) (aM 12) (aM 13) (aM 14) (aM 15) (aM 16) (aM 17) (aM 18) (aM 19) (aM 20) (aM 21) (aM 22) (aM 23) (aM 24) (xs 1) 0 0 0 0 0 0 0 (-1) 0 0 0 0 0 0 0 0 0 0 0 0 0 0 0 0 0 0 0 0 0 0 _) okV_X12_end kM_L_76 rfl (z_pV (q0 := 0) hK hN hP hD [0] rfl rfl rfl rfl rfl) rfl hl.1 rfl (Nat.le_of_ble_eq_true rfl) dL_law_904 rfl) hP hD hS hA [0] [] rfl rfl rfl rfl (fun r2 u2 H locs hw2 hP hD hS => ?_)
    obtain ⟨i2, a2⟩ := u2
    dsimp only at hw2
    rcases hw2 with ⟨rfl, rfl, c2⟩ | ⟨rfl, rfl, c2⟩
    · have hP : va_P D vwCl [] H := hP
      have hD : va_D (fun q : Nat => s.heap.size ≤ q) [] := hD
      refine lv_icmp_eq (tgt := 2078) hx hb dL_law_907 (by decide) (fun _ => ?_) (fun c3 => absurd (by decide) c3)
      exact law_end hC (Nat.le_of_ble_eq_true rfl) (Nat.le_of_ble_eq_true rfl) hS (lv_sub hl [0, 3] rfl)
    · have hP : va_P D vwCl [] H := hP
      have hD : va_D (fun q : Nat => s.heap.size ≤ q) [] := hD
      exact (show False by have bA0 := Int32.le_toInt (xs 1); have bB0 := Int32.toInt_lt (xs 1); revert c1 c2; simp only [vp_in_iff, Int32.lt_iff_toInt_lt, Int32.le_iff_toInt_le, Int64.lt_iff_toInt_lt, Int64.le_iff_toInt_le, Int32.toInt_toInt64, ← Int32.toInt_inj, ← Int64.toInt_inj, Int32.reduceToInt, Int64.reduceToInt] <;> omega).elim
  · have hP : va_P D vwCl [(hM, .inr (12, [.int 0, .int 0, .ref (aM 0), .ref (aM 1), .ref (aM 2), .int 0, .ref (aM 3), .ref (aM 4), .ref (aM 5), .ref (aM 6), .ref (aM 7), .int 0, .int 0, .int 0, .int 0, .long 0, .int (-1), .int 0, .int 0, .ref (aM 8), .int 0, .ref (aM 9), .ref (aM 10), .int 0, .ref (aM 11), .ref (aM 12), .int 0, .int 0, .ref (aM 13), .ref (aM 14), .ref (aM 15), .ref (aM 16), .int 0, .long 0, .long 0, .int 0, .int 0, .int 0, .int 0, .ref (aM 17), .ref (aM 18), .int 0, .int 0, .int 0, .int 0, .ref (aM 19), .ref (aM 20), .int 0, .int 0, .ref (aM 21), .ref (aM 22), .ref (aM 23), .ref (aM 24), .int 0, .int 0, .int 0]))] H := hP
    have hD : va_D (fun q : Nat => s.heap.size ≤ q) [(hM, .inr (12, [.int 0, .int 0, .ref (aM 0), .ref (aM 1), .ref (aM 2), .int 0, .ref (aM 3), .ref (aM 4), .ref (aM 5), .ref (aM 6), .ref (aM 7), .int 0, .int 0, .int 0, .int 0, .long 0, .int (-1), .int 0, .int 0, .ref (aM 8), .int 0, .ref (aM 9), .ref (aM 10), .int 0, .ref (aM 11), .ref (aM 12), .int 0, .int 0, .ref (aM 13), .ref (aM 14), .ref (aM 15), .ref (aM 16), .int 0, .long 0, .long 0, .int 0, .int 0, .int 0, .int 0, .ref (aM 17), .ref (aM 18), .int 0, .int 0, .int 0, .int 0, .ref (aM 19), .ref (aM 20), .int 0, .int 0, .ref (aM 21), .ref (aM 22), .ref (aM 23), .ref (aM 24), .int 0, .int 0, .int 0]))] := hD
    refine lv_aload_n hx hb dL_law_898 rfl (lv_at hl 2 rfl) ?_
    refine lv_aload_n hx hb dL_law_899 rfl (lv_at hl 0 rfl) ?_
    refine lv_iload_n hx hb dL_law_900 rfl (lv_at hl 3 rfl) ?_
    refine lv_iconst (v := 1) hx hb dL_law_901 (by decide) ?_
    refine lv_iadd hx hb dL_law_902 ?_
    refine lv_toc (v := 1) (by decide) ?_
    refine z_sld hx hb hXx hbl hbA hS 1 (by decide) (by unfold vp_in; decide) dL_law_903 ?_
    refine z_bi (wr := []) (z_runV (C := RX12) (As := [.int (xs 1)]) (rest := [.int (xs 1)]) C0 (c_X12_end_1 l D k hM (aM 0) (aM 1) (aM 2) (aM 3) (aM 4) (aM 5) (aM 6) (aM 7) (aM 8) (aM 9) (aM 10) (aM 11) (aM 12) (aM 13) (aM 14) (aM 15) (aM 16) (aM 17) (aM 18) (aM 19) (aM 20) (aM 21) (aM 22) (aM 23) (aM 24) (xs 1) 0 0 0 0 0 0 0 (-1) 0 0 0 0 0 0 0 0 0 0 0 0 0 0 0 0 0 0 0 0 0 0 _) okV_X12_end kM_L_76 rfl (z_pV (q0 := 0) hK hN hP hD [0] rfl rfl rfl rfl rfl) rfl hl.1 rfl (Nat.le_of_ble_eq_true rfl) dL_law_904 rfl) hP hD hS hA [0] [] rfl rfl rfl rfl (fun r4 u4 H locs hw4 hP hD hS => ?_)
    obtain ⟨i4, a4⟩ := u4
    dsimp only at hw4
    rcases hw4 with ⟨rfl, rfl, c4⟩ | ⟨rfl, rfl, c4⟩
    · have hP : va_P D vwCl [] H := hP
      have hD : va_D (fun q : Nat => s.heap.size ≤ q) [] := hD
      exact (show False by have bA0 := Int32.le_toInt (xs 1); have bB0 := Int32.toInt_lt (xs 1); revert c1 c4; simp only [vp_in_iff, Int32.lt_iff_toInt_lt, Int32.le_iff_toInt_le, Int64.lt_iff_toInt_lt, Int64.le_iff_toInt_le, Int32.toInt_toInt64, ← Int32.toInt_inj, ← Int64.toInt_inj, Int32.reduceToInt, Int64.reduceToInt] <;> omega).elim
    · have hP : va_P D vwCl [] H := hP
      have hD : va_D (fun q : Nat => s.heap.size ≤ q) [] := hD
      refine lv_icmp_eq (tgt := 2078) hx hb dL_law_907 (by decide) (fun _ => ?_) (fun c5 => absurd rfl c5)
      exact law_end hC (Nat.le_of_ble_eq_true rfl) (Nat.le_of_ble_eq_true rfl) hS (lv_sub hl [0, 3] rfl)

set_option maxHeartbeats 4000000 in
set_option maxRecDepth 100000 in
theorem law_case_14 {p : Program} {l : Launch} {e : Env} {s : State} {m : MethodId} {below : List Frame} {meth : Method} {c : Code} {D : va_G} {k : Nat → ClassId} {b : Nat} {xs : Nat → Int32} (hC : law_C p s m meth c D k b 7 xs) {hX hM : Nat} {aX aM : Nat → Nat} {H : Heap} {locs : List Loc} {ls : Array Slot} (hP : va_P D vwCl (WX k hX aX ++ WM k hM aM) H) (hD : va_D (fun q : Nat => s.heap.size ≤ q) (WX k hX aX ++ WM k hM aM)) (hS : va_S (fun q : Nat => s.heap.size ≤ q) s.heap H locs) (hl : lv_has ls 4 [(0, .ref b), (1, .ref hX), (2, .ref hM), (3, .int 0)]) : W p l e room_1 s m #[Value.ref b] below meth c H locs 100 106558 (lw_Z below #[Value.ref b] s) (F0 m 912 ls []) := by
  obtain ⟨C0, hr, hlk, hXx, hbl, hK, hN⟩ := id hC
  have hx := C0.1
  have hb := C0.2.1
  have hml := C0.2.2.1
  have hown := C0.2.2.2.1
  have hts := C0.2.2.2.2
  have hA : ∀ q : Nat, s.heap.size ≤ q → (fun q : Nat => s.heap.size ≤ q) q := fun _ h => h
  have hbA : ¬ (fun q : Nat => s.heap.size ≤ q) b := Nat.not_le.mpr hbl
  refine lv_aload_n hx hb dL_law_912 rfl (lv_at hl 1 rfl) ?_
  refine lv_aload_n hx hb dL_law_913 rfl (lv_at hl 0 rfl) ?_
  refine lv_iload_n hx hb dL_law_914 rfl (lv_at hl 3 rfl) ?_
  refine lv_iconst (v := 1) hx hb dL_law_915 (by decide) ?_
  refine lv_iadd hx hb dL_law_916 ?_
  refine lv_toc (v := 1) (by decide) ?_
  refine z_sld hx hb hXx hbl hbA hS 1 (by decide) (by unfold vp_in; decide) dL_law_917 ?_
  refine z_bi (wr := [(hM, .inr (12, [.int 0, .int 0, .ref (aM 0), .ref (aM 1), .ref (aM 2), .int 0, .ref (aM 3), .ref (aM 4), .ref (aM 5), .ref (aM 6), .ref (aM 7), .int 0, .int 0, .int 0, .int 0, .long 0, .int (-1), .int 0, .int 0, .ref (aM 8), .int 0, .ref (aM 9), .ref (aM 10), .int 0, .ref (aM 11), .ref (aM 12), .int 0, .int 0, .ref (aM 13), .ref (aM 14), .ref (aM 15), .ref (aM 16), .int 0, .long 0, .long 0, .int 0, .int 0, .int 0, .int 0, .ref (aM 17), .ref (aM 18), .int 0, .int 0, .int 0, .int 0, .ref (aM 19), .ref (aM 20), .int 0, .int 0, .ref (aM 21), .ref (aM 22), .ref (aM 23), .ref (aM 24), .int 0, .int 0, .int 0])), ((aM 0), .inl (k 0, 27101, .inl (fun _ => 0)))]) (z_runV (C := RX11) (As := [.int (xs 1)]) (rest := []) C0 (c_X11_act_1 l D k hX (aX 0) (aX 33) (aX 51) (aX 55) (aX 50) (aX 57) (aX 65) (aX 1) (aX 14) (aX 20) (aX 36) (aX 40) (aX 34) (aX 35) (aX 52) (aX 53) (aX 54) (aX 56) (xs 1) 0 0 0 0 0 (fun _ => 0) _) okV_X11_act kM_L_77 rfl (z_pV (q0 := 0) hK hN hP hD [0, 1, 34, 52, 56] rfl rfl rfl rfl rfl) rfl hl.1 rfl (Nat.le_of_ble_eq_true rfl) dL_law_918 rfl) hP hD hS hA [0, 1, 34, 52, 56] [74, 75] rfl rfl rfl rfl (fun r1 u1 H locs hw1 hP hD hS => ?_)
  obtain ⟨i1, a1⟩ := u1
  dsimp only at hw1
  rcases hw1 with ⟨rfl, rfl, c1⟩ | ⟨rfl, rfl, c1⟩
  · have hP : va_P D vwCl [(hM, .inr (12, [.int 0, .int 0, .ref (aM 0), .ref (aM 1), .ref (aM 2), .int 0, .ref (aM 3), .ref (aM 4), .ref (aM 5), .ref (aM 6), .ref (aM 7), .int 0, .int 0, .int 0, .int 0, .long 0, .int (-1), .int 0, .int 0, .ref (aM 8), .int 0, .ref (aM 9), .ref (aM 10), .int 0, .ref (aM 11), .ref (aM 12), .int 0, .int 0, .ref (aM 13), .ref (aM 14), .ref (aM 15), .ref (aM 16), .int 0, .long 0, .long 0, .int 0, .int 0, .int 0, .int 0, .ref (aM 17), .ref (aM 18), .int 0, .int 0, .int 0, .int 0, .ref (aM 19), .ref (aM 20), .int 0, .int 0, .ref (aM 21), .ref (aM 22), .ref (aM 23), .ref (aM 24), .int 0, .int 0, .int 0])), ((aM 0), .inl (k 0, 27101, .inl (fun _ => 0)))] H := hP
    have hD : va_D (fun q : Nat => s.heap.size ≤ q) [(hM, .inr (12, [.int 0, .int 0, .ref (aM 0), .ref (aM 1), .ref (aM 2), .int 0, .ref (aM 3), .ref (aM 4), .ref (aM 5), .ref (aM 6), .ref (aM 7), .int 0, .int 0, .int 0, .int 0, .long 0, .int (-1), .int 0, .int 0, .ref (aM 8), .int 0, .ref (aM 9), .ref (aM 10), .int 0, .ref (aM 11), .ref (aM 12), .int 0, .int 0, .ref (aM 13), .ref (aM 14), .ref (aM 15), .ref (aM 16), .int 0, .long 0, .long 0, .int 0, .int 0, .int 0, .int 0, .ref (aM 17), .ref (aM 18), .int 0, .int 0, .int 0, .int 0, .ref (aM 19), .ref (aM 20), .int 0, .int 0, .ref (aM 21), .ref (aM 22), .ref (aM 23), .ref (aM 24), .int 0, .int 0, .int 0])), ((aM 0), .inl (k 0, 27101, .inl (fun _ => 0)))] := hD
    refine lv_aload_n hx hb dL_law_921 rfl (lv_at hl 2 rfl) ?_
    refine lv_aload_n hx hb dL_law_922 rfl (lv_at hl 0 rfl) ?_
    refine lv_iload_n hx hb dL_law_923 rfl (lv_at hl 3 rfl) ?_
    refine lv_iconst (v := 1) hx hb dL_law_924 (by decide) ?_
    refine lv_iadd hx hb dL_law_925 ?_
    refine lv_toc (v := 1) (by decide) ?_
    refine z_sld hx hb hXx hbl hbA hS 1 (by decide) (by unfold vp_in; decide) dL_law_926 ?_
    refine z_bi (wr := []) (z_runV (C := RX12) (As := [.int (xs 1)]) (rest := [.int (-1)]) C0 (c_X12_act_1 l D k hM (aM 0) (aM 1) (aM 2) (aM 3) (aM 4) (aM 5) (aM 6) (aM 7) (aM 8) (aM 9) (aM 10) (aM 11) (aM 12) (aM 13) (aM 14) (aM 15) (aM 16) (aM 17) (aM 18) (aM 19) (aM 20) (aM 21) (aM 22) (aM 23) (aM 24) (xs 1) 0 0 0 0 (-1) 0 0 0 0 0 0 0 0 0 0 0 0 0 0 0 0 0 0 0 0 0 _) okV_X12_act kM_L_80 rfl (z_pV (q0 := 0) hK hN hP hD [0, 1] rfl rfl rfl rfl rfl) rfl hl.1 rfl (Nat.le_of_ble_eq_true rfl) dL_law_927 rfl) hP hD hS hA [0, 1] [] rfl rfl rfl rfl (fun r2 u2 H locs hw2 hP hD hS => ?_)
    obtain ⟨i2, a2⟩ := u2
    dsimp only at hw2
    rcases hw2 with ⟨rfl, rfl, c2⟩ | ⟨rfl, rfl, c2⟩ | ⟨rfl, rfl, c2⟩
    · have hP : va_P D vwCl [] H := hP
      have hD : va_D (fun q : Nat => s.heap.size ≤ q) [] := hD
      refine lv_icmp_eq (tgt := 2078) hx hb dL_law_930 (by decide) (fun _ => ?_) (fun c3 => absurd (by decide) c3)
      exact law_end hC (Nat.le_of_ble_eq_true rfl) (Nat.le_of_ble_eq_true rfl) hS (lv_sub hl [0, 3] rfl)
    · have hP : va_P D vwCl [] H := hP
      have hD : va_D (fun q : Nat => s.heap.size ≤ q) [] := hD
      exact (show False by have bA0 := Int32.le_toInt (xs 1); have bB0 := Int32.toInt_lt (xs 1); revert c1 c2; simp only [vp_in_iff, Int32.lt_iff_toInt_lt, Int32.le_iff_toInt_le, Int64.lt_iff_toInt_lt, Int64.le_iff_toInt_le, Int32.toInt_toInt64, ← Int32.toInt_inj, ← Int64.toInt_inj, Int32.reduceToInt, Int64.reduceToInt] <;> omega).elim
    · have hP : va_P D vwCl [] H := hP
      have hD : va_D (fun q : Nat => s.heap.size ≤ q) [] := hD
      exact (show False by have bA0 := Int32.le_toInt (xs 1); have bB0 := Int32.toInt_lt (xs 1); revert c1 c2; simp only [vp_in_iff, Int32.lt_iff_toInt_lt, Int32.le_iff_toInt_le, Int64.lt_iff_toInt_lt, Int64.le_iff_toInt_le, Int32.toInt_toInt64, ← Int32.toInt_inj, ← Int64.toInt_inj, Int32.reduceToInt, Int64.reduceToInt] <;> omega).elim
  · have hP : va_P D vwCl [(hM, .inr (12, [.int 0, .int 0, .ref (aM 0), .ref (aM 1), .ref (aM 2), .int 0, .ref (aM 3), .ref (aM 4), .ref (aM 5), .ref (aM 6), .ref (aM 7), .int 0, .int 0, .int 0, .int 0, .long 0, .int (-1), .int 0, .int 0, .ref (aM 8), .int 0, .ref (aM 9), .ref (aM 10), .int 0, .ref (aM 11), .ref (aM 12), .int 0, .int 0, .ref (aM 13), .ref (aM 14), .ref (aM 15), .ref (aM 16), .int 0, .long 0, .long 0, .int 0, .int 0, .int 0, .int 0, .ref (aM 17), .ref (aM 18), .int 0, .int 0, .int 0, .int 0, .ref (aM 19), .ref (aM 20), .int 0, .int 0, .ref (aM 21), .ref (aM 22), .ref (aM 23), .ref (aM 24), .int 0, .int 0, .int 0])), ((aM 0), .inl (k 0, 27101, .inl (fun _ => 0)))] H := hP
    have hD : va_D (fun q : Nat => s.heap.size ≤ q) [(hM, .inr (12, [.int 0, .int 0, .ref (aM 0), .ref (aM 1), .ref (aM 2), .int 0, .ref (aM 3), .ref (aM 4), .ref (aM 5), .ref (aM 6), .ref (aM 7), .int 0, .int 0, .int 0, .int 0, .long 0, .int (-1), .int 0, .int 0, .ref (aM 8), .int 0, .ref (aM 9), .ref (aM 10), .int 0, .ref (aM 11), .ref (aM 12), .int 0, .int 0, .ref (aM 13), .ref (aM 14), .ref (aM 15), .ref (aM 16), .int 0, .long 0, .long 0, .int 0, .int 0, .int 0, .int 0, .ref (aM 17), .ref (aM 18), .int 0, .int 0, .int 0, .int 0, .ref (aM 19), .ref (aM 20), .int 0, .int 0, .ref (aM 21), .ref (aM 22), .ref (aM 23), .ref (aM 24), .int 0, .int 0, .int 0])), ((aM 0), .inl (k 0, 27101, .inl (fun _ => 0)))] := hD
    refine lv_aload_n hx hb dL_law_921 rfl (lv_at hl 2 rfl) ?_
    refine lv_aload_n hx hb dL_law_922 rfl (lv_at hl 0 rfl) ?_
    refine lv_iload_n hx hb dL_law_923 rfl (lv_at hl 3 rfl) ?_
    refine lv_iconst (v := 1) hx hb dL_law_924 (by decide) ?_
    refine lv_iadd hx hb dL_law_925 ?_
    refine lv_toc (v := 1) (by decide) ?_
    refine z_sld hx hb hXx hbl hbA hS 1 (by decide) (by unfold vp_in; decide) dL_law_926 ?_
    refine z_bi (wr := []) (z_runV (C := RX12) (As := [.int (xs 1)]) (rest := [.int (-6)]) C0 (c_X12_act_1 l D k hM (aM 0) (aM 1) (aM 2) (aM 3) (aM 4) (aM 5) (aM 6) (aM 7) (aM 8) (aM 9) (aM 10) (aM 11) (aM 12) (aM 13) (aM 14) (aM 15) (aM 16) (aM 17) (aM 18) (aM 19) (aM 20) (aM 21) (aM 22) (aM 23) (aM 24) (xs 1) 0 0 0 0 (-1) 0 0 0 0 0 0 0 0 0 0 0 0 0 0 0 0 0 0 0 0 0 _) okV_X12_act kM_L_80 rfl (z_pV (q0 := 0) hK hN hP hD [0, 1] rfl rfl rfl rfl rfl) rfl hl.1 rfl (Nat.le_of_ble_eq_true rfl) dL_law_927 rfl) hP hD hS hA [0, 1] [] rfl rfl rfl rfl (fun r4 u4 H locs hw4 hP hD hS => ?_)
    obtain ⟨i4, a4⟩ := u4
    dsimp only at hw4
    rcases hw4 with ⟨rfl, rfl, c4⟩ | ⟨rfl, rfl, c4⟩ | ⟨rfl, rfl, c4⟩
    · have hP : va_P D vwCl [] H := hP
      have hD : va_D (fun q : Nat => s.heap.size ≤ q) [] := hD
      exact (show False by have bA0 := Int32.le_toInt (xs 1); have bB0 := Int32.toInt_lt (xs 1); revert c1 c4; simp only [vp_in_iff, Int32.lt_iff_toInt_lt, Int32.le_iff_toInt_le, Int64.lt_iff_toInt_lt, Int64.le_iff_toInt_le, Int32.toInt_toInt64, ← Int32.toInt_inj, ← Int64.toInt_inj, Int32.reduceToInt, Int64.reduceToInt] <;> omega).elim
    · have hP : va_P D vwCl [] H := hP
      have hD : va_D (fun q : Nat => s.heap.size ≤ q) [] := hD
      exact (show False by have bA0 := Int32.le_toInt (xs 1); have bB0 := Int32.toInt_lt (xs 1); revert c1 c4; simp only [vp_in_iff, Int32.lt_iff_toInt_lt, Int32.le_iff_toInt_le, Int64.lt_iff_toInt_lt, Int64.le_iff_toInt_le, Int32.toInt_toInt64, ← Int32.toInt_inj, ← Int64.toInt_inj, Int32.reduceToInt, Int64.reduceToInt] <;> omega).elim
    · have hP : va_P D vwCl [] H := hP
      have hD : va_D (fun q : Nat => s.heap.size ≤ q) [] := hD
      refine lv_icmp_eq (tgt := 2078) hx hb dL_law_930 (by decide) (fun _ => ?_) (fun c5 => absurd (by decide) c5)
      exact law_end hC (Nat.le_of_ble_eq_true rfl) (Nat.le_of_ble_eq_true rfl) hS (lv_sub hl [0, 3] rfl)

set_option maxHeartbeats 4000000 in
set_option maxRecDepth 100000 in
theorem law_case_15 {p : Program} {l : Launch} {e : Env} {s : State} {m : MethodId} {below : List Frame} {meth : Method} {c : Code} {D : va_G} {k : Nat → ClassId} {b : Nat} {xs : Nat → Int32} (hC : law_C p s m meth c D k b 7 xs) {hX hM : Nat} {aX aM : Nat → Nat} {H : Heap} {locs : List Loc} {ls : Array Slot} (hP : va_P D vwCl (WX k hX aX ++ WM k hM aM) H) (hD : va_D (fun q : Nat => s.heap.size ≤ q) (WX k hX aX ++ WM k hM aM)) (hS : va_S (fun q : Nat => s.heap.size ≤ q) s.heap H locs) (hl : lv_has ls 4 [(0, .ref b), (1, .ref hX), (2, .ref hM), (3, .int 0)]) : W p l e room_1 s m #[Value.ref b] below meth c H locs 100 106558 (lw_Z below #[Value.ref b] s) (F0 m 935 ls []) := by
  obtain ⟨C0, hr, hlk, hXx, hbl, hK, hN⟩ := id hC
  have hx := C0.1
  have hb := C0.2.1
  have hml := C0.2.2.1
  have hown := C0.2.2.2.1
  have hts := C0.2.2.2.2
  have hA : ∀ q : Nat, s.heap.size ≤ q → (fun q : Nat => s.heap.size ≤ q) q := fun _ h => h
  have hbA : ¬ (fun q : Nat => s.heap.size ≤ q) b := Nat.not_le.mpr hbl
  refine lv_aload_n hx hb dL_law_935 rfl (lv_at hl 1 rfl) ?_
  refine z_bi (wr := [(hM, .inr (12, [.int 0, .int 0, .ref (aM 0), .ref (aM 1), .ref (aM 2), .int 0, .ref (aM 3), .ref (aM 4), .ref (aM 5), .ref (aM 6), .ref (aM 7), .int 0, .int 0, .int 0, .int 0, .long 0, .int (-1), .int 0, .int 0, .ref (aM 8), .int 0, .ref (aM 9), .ref (aM 10), .int 0, .ref (aM 11), .ref (aM 12), .int 0, .int 0, .ref (aM 13), .ref (aM 14), .ref (aM 15), .ref (aM 16), .int 0, .long 0, .long 0, .int 0, .int 0, .int 0, .int 0, .ref (aM 17), .ref (aM 18), .int 0, .int 0, .int 0, .int 0, .ref (aM 19), .ref (aM 20), .int 0, .int 0, .ref (aM 21), .ref (aM 22), .ref (aM 23), .ref (aM 24), .int 0, .int 0, .int 0]))]) (z_runV (C := RX11) (As := []) (rest := []) C0 (c_X11_fault_1 l D k hX (aX 51) (aX 0) (aX 50) (aX 57) (aX 65) (aX 52) (aX 53) (aX 54) (aX 55) (aX 56) 0 0 0 0 0 0 0 0 0 0 0 _) okV_X11_fault kM_L_81 rfl (z_pV (q0 := 0) hK hN hP hD [0, 52] rfl rfl rfl rfl rfl) rfl hl.1 rfl (Nat.le_of_ble_eq_true rfl) dL_law_936 rfl) hP hD hS hA [0, 52] [74] rfl rfl rfl rfl (fun r1 u1 H locs hw1 hP hD hS => ?_)
  obtain ⟨i1, a1⟩ := u1
  dsimp only at hw1
  obtain ⟨rfl, rfl⟩ := hw1
  have hP : va_P D vwCl [(hM, .inr (12, [.int 0, .int 0, .ref (aM 0), .ref (aM 1), .ref (aM 2), .int 0, .ref (aM 3), .ref (aM 4), .ref (aM 5), .ref (aM 6), .ref (aM 7), .int 0, .int 0, .int 0, .int 0, .long 0, .int (-1), .int 0, .int 0, .ref (aM 8), .int 0, .ref (aM 9), .ref (aM 10), .int 0, .ref (aM 11), .ref (aM 12), .int 0, .int 0, .ref (aM 13), .ref (aM 14), .ref (aM 15), .ref (aM 16), .int 0, .long 0, .long 0, .int 0, .int 0, .int 0, .int 0, .ref (aM 17), .ref (aM 18), .int 0, .int 0, .int 0, .int 0, .ref (aM 19), .ref (aM 20), .int 0, .int 0, .ref (aM 21), .ref (aM 22), .ref (aM 23), .ref (aM 24), .int 0, .int 0, .int 0]))] H := hP
  have hD : va_D (fun q : Nat => s.heap.size ≤ q) [(hM, .inr (12, [.int 0, .int 0, .ref (aM 0), .ref (aM 1), .ref (aM 2), .int 0, .ref (aM 3), .ref (aM 4), .ref (aM 5), .ref (aM 6), .ref (aM 7), .int 0, .int 0, .int 0, .int 0, .long 0, .int (-1), .int 0, .int 0, .ref (aM 8), .int 0, .ref (aM 9), .ref (aM 10), .int 0, .ref (aM 11), .ref (aM 12), .int 0, .int 0, .ref (aM 13), .ref (aM 14), .ref (aM 15), .ref (aM 16), .int 0, .long 0, .long 0, .int 0, .int 0, .int 0, .int 0, .ref (aM 17), .ref (aM 18), .int 0, .int 0, .int 0, .int 0, .ref (aM 19), .ref (aM 20), .int 0, .int 0, .ref (aM 21), .ref (aM 22), .ref (aM 23), .ref (aM 24), .int 0, .int 0, .int 0]))] := hD
  refine lv_aload_n hx hb dL_law_939 rfl (lv_at hl 2 rfl) ?_
  refine z_bi (wr := []) (z_runV (C := RX12) (As := []) (rest := [.int (-1)]) C0 (c_X12_fault_1 l D k hM (aM 0) (aM 1) (aM 2) (aM 3) (aM 4) (aM 5) (aM 6) (aM 7) (aM 8) (aM 9) (aM 10) (aM 11) (aM 12) (aM 13) (aM 14) (aM 15) (aM 16) (aM 17) (aM 18) (aM 19) (aM 20) (aM 21) (aM 22) (aM 23) (aM 24) 0 0 0 0 0 0 0 0 0 0 0 0 0 0 0 0 0 0 0 0 0 0 0 0 0 0 0 0 0 0 _) okV_X12_fault kM_L_84 rfl (z_pV (q0 := 0) hK hN hP hD [0] rfl rfl rfl rfl rfl) rfl hl.1 rfl (Nat.le_of_ble_eq_true rfl) dL_law_940 rfl) hP hD hS hA [0] [] rfl rfl rfl rfl (fun r2 u2 H locs hw2 hP hD hS => ?_)
  obtain ⟨i2, a2⟩ := u2
  dsimp only at hw2
  obtain ⟨rfl, rfl⟩ := hw2
  have hP : va_P D vwCl [] H := hP
  have hD : va_D (fun q : Nat => s.heap.size ≤ q) [] := hD
  refine lv_icmp_eq (tgt := 2078) hx hb dL_law_943 (by decide) (fun _ => ?_) (fun c3 => absurd (by decide) c3)
  exact law_end hC (Nat.le_of_ble_eq_true rfl) (Nat.le_of_ble_eq_true rfl) hS (lv_sub hl [0, 3] rfl)
