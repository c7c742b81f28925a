set_option maxHeartbeats 4000000 in
set_option maxRecDepth 100000 in
theorem law_case_40 {p : Program} {l : Launch} {e : Env} {s : State} {m : MethodId} {below : List Frame} {meth : Method} {c : Code} {D : va_G} {k : Nat → ClassId} {b : Nat} {xs : Nat → Int32} (hC : law_C p s m meth c D k b 7 xs) {hX hM : Nat} {aX aM : Nat → Nat} {H : Heap} {locs : List Loc} {ls : Array Slot} (hP : va_P D vwCl (WX k hX aX ++ WM k hM aM) H) (hD : va_D (fun q : Nat => s.heap.size ≤ q) (WX k hX aX ++ WM k hM aM)) (hS : va_S (fun q : Nat => s.heap.size ≤ q) s.heap H locs) (hl : lv_has ls 4 [(0, .ref b), (1, .ref hX), (2, .ref hM), (3, .int 0)]) : W p l e room_1 s m #[Value.ref b] below meth c H locs 100 106558 (lw_Z below #[Value.ref b] s) (F0 m 1940 ls []) := by
  obtain ⟨C0, hr, hlk, hXx, hbl, hK, hN⟩ := id hC
  have hx := C0.1
  have hb := C0.2.1
  have hml := C0.2.2.1
  have hown := C0.2.2.2.1
  have hts := C0.2.2.2.2
  have hA : ∀ q : Nat, s.heap.size ≤ q → (fun q : Nat => s.heap.size ≤ q) q := fun _ h => h
  have hbA : ¬ (fun q : Nat => s.heap.size ≤ q) b := Nat.not_le.mpr hbl
  refine lv_aload_n hx hb dL_law_1940 rfl (lv_at hl 1 rfl) ?_
  refine lv_aload_n hx hb dL_law_1941 rfl (lv_at hl 0 rfl) ?_
  refine lv_iload_n hx hb dL_law_1942 rfl (lv_at hl 3 rfl) ?_
  refine lv_iconst (v := 1) hx hb dL_law_1943 (by decide) ?_
  refine lv_iadd hx hb dL_law_1944 ?_
  refine lv_toc (v := 1) (by decide) ?_
  refine z_sld hx hb hXx hbl hbA hS 1 (by decide) (by unfold vp_in; decide) dL_law_1945 ?_
  refine lv_aload_n hx hb dL_law_1946 rfl (lv_at hl 0 rfl) ?_
  refine lv_iload_n hx hb dL_law_1947 rfl (lv_at hl 3 rfl) ?_
  refine lv_iconst (v := 2) hx hb dL_law_1948 (by decide) ?_
  refine lv_iadd hx hb dL_law_1949 ?_
  refine lv_toc (v := 2) (by decide) ?_
  refine z_sld hx hb hXx hbl hbA hS 2 (by decide) (by unfold vp_in; decide) dL_law_1950 ?_
  refine z_bi (wr := [(hM, .inr (12, [.int 0, .int 0, .ref (aM 0), .ref (aM 1), .ref (aM 2), .int 0, .ref (aM 3), .ref (aM 4), .ref (aM 5), .ref (aM 6), .ref (aM 7), .int 0, .int 0, .int 0, .int 0, .long 0, .int (-1), .int 0, .int 0, .ref (aM 8), .int 0, .ref (aM 9), .ref (aM 10), .int 0, .ref (aM 11), .ref (aM 12), .int 0, .int 0, .ref (aM 13), .ref (aM 14), .ref (aM 15), .ref (aM 16), .int 0, .long 0, .long 0, .int 0, .int 0, .int 0, .int 0, .ref (aM 17), .ref (aM 18), .int 0, .int 0, .int 0, .int 0, .ref (aM 19), .ref (aM 20), .int 0, .int 0, .ref (aM 21), .ref (aM 22), .ref (aM 23), .ref (aM 24), .int 0, .int 0, .int 0])), ((aM 0), .inl (k 0, 27101, .inl (fun _ => 0)))]) (z_runV (C := RX11) (As := [.int (xs 1), .int (xs 2)]) (rest := []) C0 (c_X11_alter_1 l D k hX (aX 0) (aX 20) (aX 50) (aX 51) (aX 57) (aX 65) (aX 1) (aX 14) (aX 33) (aX 36) (aX 40) (aX 21) (aX 22) (aX 23) (aX 24) (aX 25) (aX 26) (aX 27) (aX 28) (aX 29) (aX 30) (aX 31) (aX 32) (xs 1) (xs 2) 0 0 0 _) okV_X11_alter kM_L_181 rfl (z_pV (q0 := 0) hK hN hP hD [0, 1, 21] rfl rfl rfl rfl rfl) rfl hl.1 rfl (Nat.le_of_ble_eq_true rfl) dL_law_1951 rfl) hP hD hS hA [0, 1, 21] [74, 75] rfl rfl rfl rfl (fun r1 u1 H locs hw1 hP hD hS => ?_)
  obtain ⟨i1, a1⟩ := u1
  dsimp only at hw1
  rcases hw1 with ⟨rfl, rfl, c1⟩ | ⟨rfl, rfl, c1⟩
  · have hP : va_P D vwCl [(hM, .inr (12, [.int 0, .int 0, .ref (aM 0), .ref (aM 1), .ref (aM 2), .int 0, .ref (aM 3), .ref (aM 4), .ref (aM 5), .ref (aM 6), .ref (aM 7), .int 0, .int 0, .int 0, .int 0, .long 0, .int (-1), .int 0, .int 0, .ref (aM 8), .int 0, .ref (aM 9), .ref (aM 10), .int 0, .ref (aM 11), .ref (aM 12), .int 0, .int 0, .ref (aM 13), .ref (aM 14), .ref (aM 15), .ref (aM 16), .int 0, .long 0, .long 0, .int 0, .int 0, .int 0, .int 0, .ref (aM 17), .ref (aM 18), .int 0, .int 0, .int 0, .int 0, .ref (aM 19), .ref (aM 20), .int 0, .int 0, .ref (aM 21), .ref (aM 22), .ref (aM 23), .ref (aM 24), .int 0, .int 0, .int 0])), ((aM 0), .inl (k 0, 27101, .inl (fun _ => 0)))] H := hP
    have hD : va_D (fun q : Nat => s.heap.size ≤ q) [(hM, .inr (12, [.int 0, .int 0, .ref (aM 0), .ref (aM 1), .ref (aM 2), .int 0, .ref (aM 3), .ref (aM 4), .ref (aM 5), .ref (aM 6), .ref (aM 7), .int 0, .int 0, .int 0, .int 0, .long 0, .int (-1), .int 0, .int 0, .ref (aM 8), .int 0, .ref (aM 9), .ref (aM 10), .int 0, .ref (aM 11), .ref (aM 12), .int 0, .int 0, .ref (aM 13), .ref (aM 14), .ref (aM 15), .ref (aM 16), .int 0, .long 0, .long 0, .int 0, .int 0, .int 0, .int 0, .ref (aM 17), .ref (aM 18), .int 0, .int 0, .int 0, .int 0, .ref (aM 19), .ref (aM 20), .int 0, .int 0, .ref (aM 21), .ref (aM 22), .ref (aM 23), .ref (aM 24), .int 0, .int 0, .int 0])), ((aM 0), .inl (k 0, 27101, .inl (fun _ => 0)))] := hD
    refine lv_aload_n hx hb dL_law_1954 rfl (lv_at hl 2 rfl) ?_
    refine lv_aload_n hx hb dL_law_1955 rfl (lv_at hl 0 rfl) ?_
    refine lv_iload_n hx hb dL_law_1956 rfl (lv_at hl 3 rfl) ?_
    refine lv_iconst (v := 1) hx hb dL_law_1957 (by decide) ?_
    refine lv_iadd hx hb dL_law_1958 ?_
    refine lv_toc (v := 1) (by decide) ?_
    refine z_sld hx hb hXx hbl hbA hS 1 (by decide) (by unfold vp_in; decide) dL_law_1959 ?_
    refine lv_aload_n hx hb dL_law_1960 rfl (lv_at hl 0 rfl) ?_
    refine lv_iload_n hx hb dL_law_1961 rfl (lv_at hl 3 rfl) ?_
    refine lv_iconst (v := 2) hx hb dL_law_1962 (by decide) ?_
    refine lv_iadd hx hb dL_law_1963 ?_
    refine lv_toc (v := 2) (by decide) ?_
    refine z_sld hx hb hXx hbl hbA hS 2 (by decide) (by unfold vp_in; decide) dL_law_1964 ?_
    refine z_bi (wr := []) (z_runV (C := RX12) (As := [.int (xs 1), .int (xs 2)]) (rest := [.int (-1)]) C0 (c_X12_alter_1 l D k hM (aM 0) (aM 1) (aM 2) (aM 3) (aM 4) (aM 5) (aM 6) (aM 7) (aM 8) (aM 9) (aM 10) (aM 11) (aM 12) (aM 13) (aM 14) (aM 15) (aM 16) (aM 17) (aM 18) (aM 19) (aM 20) (aM 21) (aM 22) (aM 23) (aM 24) (xs 1) (xs 2) 0 0 0 0 0 0 0 0 (-1) 0 0 0 0 0 0 0 0 0 0 0 0 0 0 0 0 0 0 0 0 0 0 _) okV_X12_alter kM_L_184 rfl (z_pV (q0 := 0) hK hN hP hD [0, 1] rfl rfl rfl rfl rfl) rfl hl.1 rfl (Nat.le_of_ble_eq_true rfl) dL_law_1965 rfl) hP hD hS hA [0, 1] [] rfl rfl rfl rfl (fun r2 u2 H locs hw2 hP hD hS => ?_)
    obtain ⟨i2, a2⟩ := u2
    dsimp only at hw2
    rcases hw2 with ⟨rfl, rfl, c2⟩ | ⟨rfl, rfl, c2⟩
    · have hP : va_P D vwCl [] H := hP
      have hD : va_D (fun q : Nat => s.heap.size ≤ q) [] := hD
      refine lv_icmp_eq (tgt := 2078) hx hb dL_law_1968 (by decide) (fun _ => ?_) (fun c3 => absurd (by decide) c3)
      exact law_end hC (Nat.le_of_ble_eq_true rfl) (Nat.le_of_ble_eq_true rfl) hS (lv_sub hl [0, 3] rfl)
    · have hP : va_P D vwCl [] H := hP
      have hD : va_D (fun q : Nat => s.heap.size ≤ q) [] := hD
      exact (show False by have bA0 := Int32.le_toInt (xs 2); have bB0 := Int32.toInt_lt (xs 2); revert c1 c2; simp only [vp_in_iff, Int32.lt_iff_toInt_lt, Int32.le_iff_toInt_le, Int64.lt_iff_toInt_lt, Int64.le_iff_toInt_le, Int32.toInt_toInt64, ← Int32.toInt_inj, ← Int64.toInt_inj, Int32.reduceToInt, Int64.reduceToInt] <;> omega).elim
  · have hP : va_P D vwCl [(hM, .inr (12, [.int 0, .int 0, .ref (aM 0), .ref (aM 1), .ref (aM 2), .int 0, .ref (aM 3), .ref (aM 4), .ref (aM 5), .ref (aM 6), .ref (aM 7), .int 0, .int 0, .int 0, .int 0, .long 0, .int (-1), .int 0, .int 0, .ref (aM 8), .int 0, .ref (aM 9), .ref (aM 10), .int 0, .ref (aM 11), .ref (aM 12), .int 0, .int 0, .ref (aM 13), .ref (aM 14), .ref (aM 15), .ref (aM 16), .int 0, .long 0, .long 0, .int 0, .int 0, .int 0, .int 0, .ref (aM 17), .ref (aM 18), .int 0, .int 0, .int 0, .int 0, .ref (aM 19), .ref (aM 20), .int 0, .int 0, .ref (aM 21), .ref (aM 22), .ref (aM 23), .ref (aM 24), .int 0, .int 0, .int 0])), ((aM 0), .inl (k 0, 27101, .inl (fun _ => 0)))] H := hP
    have hD : va_D (fun q : Nat => s.heap.size ≤ q) [(hM, .inr (12, [.int 0, .int 0, .ref (aM 0), .ref (aM 1), .ref (aM 2), .int 0, .ref (aM 3), .ref (aM 4), .ref (aM 5), .ref (aM 6), .ref (aM 7), .int 0, .int 0, .int 0, .int 0, .long 0, .int (-1), .int 0, .int 0, .ref (aM 8), .int 0, .ref (aM 9), .ref (aM 10), .int 0, .ref (aM 11), .ref (aM 12), .int 0, .int 0, .ref (aM 13), .ref (aM 14), .ref (aM 15), .ref (aM 16), .int 0, .long 0, .long 0, .int 0, .int 0, .int 0, .int 0, .ref (aM 17), .ref (aM 18), .int 0, .int 0, .int 0, .int 0, .ref (aM 19), .ref (aM 20), .int 0, .int 0, .ref (aM 21), .ref (aM 22), .ref (aM 23), .ref (aM 24), .int 0, .int 0, .int 0])), ((aM 0), .inl (k 0, 27101, .inl (fun _ => 0)))] := hD
    refine lv_aload_n hx hb dL_law_1954 rfl (lv_at hl 2 rfl) ?_
    refine lv_aload_n hx hb dL_law_1955 rfl (lv_at hl 0 rfl) ?_
    refine lv_iload_n hx hb dL_law_1956 rfl (lv_at hl 3 rfl) ?_
    refine lv_iconst (v := 1) hx hb dL_law_1957 (by decide) ?_
    refine lv_iadd hx hb dL_law_1958 ?_
    refine lv_toc (v := 1) (by decide) ?_
    refine z_sld hx hb hXx hbl hbA hS 1 (by decide) (by unfold vp_in; decide) dL_law_1959 ?_
    refine lv_aload_n hx hb dL_law_1960 rfl (lv_at hl 0 rfl) ?_
    refine lv_iload_n hx hb dL_law_1961 rfl (lv_at hl 3 rfl) ?_
    refine lv_iconst (v := 2) hx hb dL_law_1962 (by decide) ?_
    refine lv_iadd hx hb dL_law_1963 ?_
    refine lv_toc (v := 2) (by decide) ?_
    refine z_sld hx hb hXx hbl hbA hS 2 (by decide) (by unfold vp_in; decide) dL_law_1964 ?_
    refine z_bi (wr := []) (z_runV (C := RX12) (As := [.int (xs 1), .int (xs 2)]) (rest := [.int (-2)]) C0 (c_X12_alter_1 l D k hM (aM 0) (aM 1) (aM 2) (aM 3) (aM 4) (aM 5) (aM 6) (aM 7) (aM 8) (aM 9) (aM 10) (aM 11) (aM 12) (aM 13) (aM 14) (aM 15) (aM 16) (aM 17) (aM 18) (aM 19) (aM 20) (aM 21) (aM 22) (aM 23) (aM 24) (xs 1) (xs 2) 0 0 0 0 0 0 0 0 (-1) 0 0 0 0 0 0 0 0 0 0 0 0 0 0 0 0 0 0 0 0 0 0 _) okV_X12_alter kM_L_184 rfl (z_pV (q0 := 0) hK hN hP hD [0, 1] rfl rfl rfl rfl rfl) rfl hl.1 rfl (Nat.le_of_ble_eq_true rfl) dL_law_1965 rfl) hP hD hS hA [0, 1] [] rfl rfl rfl rfl (fun r4 u4 H locs hw4 hP hD hS => ?_)
    obtain ⟨i4, a4⟩ := u4
    dsimp only at hw4
    rcases hw4 with ⟨rfl, rfl, c4⟩ | ⟨rfl, rfl, c4⟩
    · have hP : va_P D vwCl [] H := hP
      have hD : va_D (fun q : Nat => s.heap.size ≤ q) [] := hD
      exact (show False by have bA0 := Int32.le_toInt (xs 2); have bB0 := Int32.toInt_lt (xs 2); revert c1 c4; simp only [vp_in_iff, Int32.lt_iff_toInt_lt, Int32.le_iff_toInt_le, Int64.lt_iff_toInt_lt, Int64.le_iff_toInt_le, Int32.toInt_toInt64, ← Int32.toInt_inj, ← Int64.toInt_inj, Int32.reduceToInt, Int64.reduceToInt] <;> omega).elim
    · have hP : va_P D vwCl [] H := hP
      have hD : va_D (fun q : Nat => s.heap.size ≤ q) [] := hD
      refine lv_icmp_eq (tgt := 2078) hx hb dL_law_1968 (by decide) (fun _ => ?_) (fun c5 => absurd (by decide) c5)
      exact law_end hC (Nat.le_of_ble_eq_true rfl) (Nat.le_of_ble_eq_true rfl) hS (lv_sub hl [0, 3] rfl)

set_option maxHeartbeats 4000000 in
set_option maxRecDepth 100000 in
theorem law_case_41 {p : Program} {l : Launch} {e : Env} {s : State} {m : MethodId} {below : List Frame} {meth : Method} {c : Code} {D : va_G} {k : Nat → ClassId} {b : Nat} {xs : Nat → Int32} (hC : law_C p s m meth c D k b 7 xs) {hX hM : Nat} {aX aM : Nat → Nat} {H : Heap} {locs : List Loc} {ls : Array Slot} (hP : va_P D vwCl (WX k hX aX ++ WM k hM aM) H) (hD : va_D (fun q : Nat => s.heap.size ≤ q) (WX k hX aX ++ WM k hM aM)) (hS : va_S (fun q : Nat => s.heap.size ≤ q) s.heap H locs) (hl : lv_has ls 4 [(0, .ref b), (1, .ref hX), (2, .ref hM), (3, .int 0)]) : W p l e room_1 s m #[Value.ref b] below meth c H locs 100 106558 (lw_Z below #[Value.ref b] s) (F0 m 1973 ls []) := by
  obtain ⟨C0, hr, hlk, hXx, hbl, hK, hN⟩ := id hC
  have hx := C0.1
  have hb := C0.2.1
  have hml := C0.2.2.1
  have hown := C0.2.2.2.1
  have hts := C0.2.2.2.2
  have hA : ∀ q : Nat, s.heap.size ≤ q → (fun q : Nat => s.heap.size ≤ q) q := fun _ h => h
  have hbA : ¬ (fun q : Nat => s.heap.size ≤ q) b := Nat.not_le.mpr hbl
  refine lv_aload_n hx hb dL_law_1973 rfl (lv_at hl 1 rfl) ?_
  refine lv_aload_n hx hb dL_law_1974 rfl (lv_at hl 0 rfl) ?_
  refine lv_iload_n hx hb dL_law_1975 rfl (lv_at hl 3 rfl) ?_
  refine lv_iconst (v := 1) hx hb dL_law_1976 (by decide) ?_
  refine lv_iadd hx hb dL_law_1977 ?_
  refine lv_toc (v := 1) (by decide) ?_
  refine z_sld hx hb hXx hbl hbA hS 1 (by decide) (by unfold vp_in; decide) dL_law_1978 ?_
  refine z_bi (wr := [(hM, .inr (12, [.int 0, .int 0, .ref (aM 0), .ref (aM 1), .ref (aM 2), .int 0, .ref (aM 3), .ref (aM 4), .ref (aM 5), .ref (aM 6), .ref (aM 7), .int 0, .int 0, .int 0, .int 0, .long 0, .int (-1), .int 0, .int 0, .ref (aM 8), .int 0, .ref (aM 9), .ref (aM 10), .int 0, .ref (aM 11), .ref (aM 12), .int 0, .int 0, .ref (aM 13), .ref (aM 14), .ref (aM 15), .ref (aM 16), .int 0, .long 0, .long 0, .int 0, .int 0, .int 0, .int 0, .ref (aM 17), .ref (aM 18), .int 0, .int 0, .int 0, .int 0, .ref (aM 19), .ref (aM 20), .int 0, .int 0, .ref (aM 21), .ref (aM 22), .ref (aM 23), .ref (aM 24), .int 0, .int 0, .int 0])), ((aM 0), .inl (k 0, 27101, .inl (fun _ => 0)))]) (z_runV (C := RX11) (As := [.int (xs 1)]) (rest := []) C0 (c_X11_found_1 l D k hX (aX 0) (aX 20) (aX 30) (aX 50) (aX 51) (aX 57) (aX 65) (aX 1) (aX 14) (aX 33) (aX 36) (aX 40) (aX 21) (aX 22) (aX 23) (aX 24) (aX 25) (aX 26) (aX 27) (aX 28) (aX 29) (aX 31) (aX 32) (xs 1) 0 0 0 0 _) okV_X11_found kM_L_185 rfl (z_pV (q0 := 0) hK hN hP hD [0, 1, 21, 31] rfl rfl rfl rfl rfl) rfl hl.1 rfl (Nat.le_of_ble_eq_true rfl) dL_law_1979 rfl) hP hD hS hA [0, 1, 21, 31] [74, 75] rfl rfl rfl rfl (fun r1 u1 H locs hw1 hP hD hS => ?_)
  obtain ⟨i1, a1⟩ := u1
  dsimp only at hw1
  obtain ⟨rfl, rfl⟩ := hw1
  have hP : va_P D vwCl [(hM, .inr (12, [.int 0, .int 0, .ref (aM 0), .ref (aM 1), .ref (aM 2), .int 0, .ref (aM 3), .ref (aM 4), .ref (aM 5), .ref (aM 6), .ref (aM 7), .int 0, .int 0, .int 0, .int 0, .long 0, .int (-1), .int 0, .int 0, .ref (aM 8), .int 0, .ref (aM 9), .ref (aM 10), .int 0, .ref (aM 11), .ref (aM 12), .int 0, .int 0, .ref (aM 13), .ref (aM 14), .ref (aM 15), .ref (aM 16), .int 0, .long 0, .long 0, .int 0, .int 0, .int 0, .int 0, .ref (aM 17), .ref (aM 18), .int 0, .int 0, .int 0, .int 0, .ref (aM 19), .ref (aM 20), .int 0, .int 0, .ref (aM 21), .ref (aM 22), .ref (aM 23), .ref (aM 24), .int 0, .int 0, .int 0])), ((aM 0), .inl (k 0, 27101, .inl (fun _ => 0)))] H := hP
  have hD : va_D (fun q : Nat => s.heap.size ≤ q) [(hM, .inr (12, [.int 0, .int 0, .ref (aM 0), .ref (aM 1), .ref (aM 2), .int 0, .ref (aM 3), .ref (aM 4), .ref (aM 5), .ref (aM 6), .ref (aM 7), .int 0, .int 0, .int 0, .int 0, .long 0, .int (-1), .int 0, .int 0, .ref (aM 8), .int 0, .ref (aM 9), .ref (aM 10), .int 0, .ref (aM 11), .ref (aM 12), .int 0, .int 0, .ref (aM 13), .ref (aM 14), .ref (aM 15), .ref (aM 16), .int 0, .long 0, .long 0, .int 0, .int 0, .int 0, .int 0, .ref (aM 17), .ref (aM 18), .int 0, .int 0, .int 0, .int 0, .ref (aM 19), .ref (aM 20), .int 0, .int 0, .ref (aM 21), .ref (aM 22), .ref (aM 23), .ref (aM 24), .int 0, .int 0, .int 0])), ((aM 0), .inl (k 0, 27101, .inl (fun _ => 0)))] := hD
  refine lv_aload_n hx hb dL_law_1982 rfl (lv_at hl 2 rfl) ?_
  refine lv_aload_n hx hb dL_law_1983 rfl (lv_at hl 0 rfl) ?_
  refine lv_iload_n hx hb dL_law_1984 rfl (lv_at hl 3 rfl) ?_
  refine lv_iconst (v := 1) hx hb dL_law_1985 (by decide) ?_
  refine lv_iadd hx hb dL_law_1986 ?_
  refine lv_toc (v := 1) (by decide) ?_
  refine z_sld hx hb hXx hbl hbA hS 1 (by decide) (by unfold vp_in; decide) dL_law_1987 ?_
  refine z_bi (wr := []) (z_runV (C := RX12) (As := [.int (xs 1)]) (rest := [.int (-3)]) C0 (c_X12_found_1 l D k hM (aM 0) (aM 1) (aM 2) (aM 3) (aM 4) (aM 5) (aM 6) (aM 7) (aM 8) (aM 9) (aM 10) (aM 11) (aM 12) (aM 13) (aM 14) (aM 15) (aM 16) (aM 17) (aM 18) (aM 19) (aM 20) (aM 21) (aM 22) (aM 23) (aM 24) (xs 1) 0 0 0 0 0 0 0 0 (-1) 0 0 0 0 0 0 0 0 0 0 0 0 0 0 0 0 0 0 0 0 0 0 _) okV_X12_found kM_L_188 rfl (z_pV (q0 := 0) hK hN hP hD [0, 1] rfl rfl rfl rfl rfl) rfl hl.1 rfl (Nat.le_of_ble_eq_true rfl) dL_law_1988 rfl) hP hD hS hA [0, 1] [] rfl rfl rfl rfl (fun r2 u2 H locs hw2 hP hD hS => ?_)
  obtain ⟨i2, a2⟩ := u2
  dsimp only at hw2
  obtain ⟨rfl, rfl⟩ := hw2
  have hP : va_P D vwCl [] H := hP
  have hD : va_D (fun q : Nat => s.heap.size ≤ q) [] := hD
  refine lv_icmp_eq (tgt := 2078) hx hb dL_law_1991 (by decide) (fun _ => ?_) (fun c3 => absurd (by decide) c3)
  exact law_end hC (Nat.le_of_ble_eq_true rfl) (Nat.le_of_ble_eq_true rfl) hS (lv_sub hl [0, 3] rfl)

set_option maxHeartbeats 4000000 in
set_option maxRecDepth 100000 in
theorem law_case_42 {p : Program} {l : Launch} {e : Env} {s : State} {m : MethodId} {below : List Frame} {meth : Method} {c : Code} {D : va_G} {k : Nat → ClassId} {b : Nat} {xs : Nat → Int32} (hC : law_C p s m meth c D k b 7 xs) {hX hM : Nat} {aX aM : Nat → Nat} {H : Heap} {locs : List Loc} {ls : Array Slot} (hP : va_P D vwCl (WX k hX aX ++ WM k hM aM) H) (hD : va_D (fun q : Nat => s.heap.size ≤ q) (WX k hX aX ++ WM k hM aM)) (hS : va_S (fun q : Nat => s.heap.size ≤ q) s.heap H locs) (hl : lv_has ls 4 [(0, .ref b), (1, .ref hX), (2, .ref hM), (3, .int 0)]) : W p l e room_1 s m #[Value.ref b] below meth c H locs 100 106558 (lw_Z below #[Value.ref b] s) (F0 m 1996 ls []) := by
  obtain ⟨C0, hr, hlk, hXx, hbl, hK, hN⟩ := id hC
  have hx := C0.1
  have hb := C0.2.1
  have hml := C0.2.2.1
  have hown := C0.2.2.2.1
  have hts := C0.2.2.2.2
  have hA : ∀ q : Nat, s.heap.size ≤ q → (fun q : Nat => s.heap.size ≤ q) q := fun _ h => h
  have hbA : ¬ (fun q : Nat => s.heap.size ≤ q) b := Nat.not_le.mpr hbl
  refine lv_aload_n hx hb dL_law_1996 rfl (lv_at hl 1 rfl) ?_
  refine lv_aload_n hx hb dL_law_1997 rfl (lv_at hl 0 rfl) ?_
  refine lv_iload_n hx hb dL_law_1998 rfl (lv_at hl 3 rfl) ?_
  refine lv_iconst (v := 1) hx hb dL_law_1999 (by decide) ?_
  refine lv_iadd hx hb dL_law_2000 ?_
  refine lv_toc (v := 1) (by decide) ?_
  refine z_sld hx hb hXx hbl hbA hS 1 (by decide) (by unfold vp_in; decide) dL_law_2001 ?_
  refine z_bi (wr := [(hM, .inr (12, [.int 0, .int 0, .ref (aM 0), .ref (aM 1), .ref (aM 2), .int 0, .ref (aM 3), .ref (aM 4), .ref (aM 5), .ref (aM 6), .ref (aM 7), .int 0, .int 0, .int 0, .int 0, .long 0, .int (-1), .int 0, .int 0, .ref (aM 8), .int 0, .ref (aM 9), .ref (aM 10), .int 0, .ref (aM 11), .ref (aM 12), .int 0, .int 0, .ref (aM 13), .ref (aM 14), .ref (aM 15), .ref (aM 16), .int 0, .long 0, .long 0, .int 0, .int 0, .int 0, .int 0, .ref (aM 17), .ref (aM 18), .int 0, .int 0, .int 0, .int 0, .ref (aM 19), .ref (aM 20), .int 0, .int 0, .ref (aM 21), .ref (aM 22), .ref (aM 23), .ref (aM 24), .int 0, .int 0, .int 0])), ((aM 2), .inl (k 2, 2, .inl (fun _ => 0))), ((aM 0), .inl (k 0, 27101, .inl (fun _ => 0))), ((aM 1), .inl (k 0, 54202, .inl (fun _ => 0)))]) (z_runV (C := RX11) (As := [.int (xs 1)]) (rest := []) C0 (c_X11_image_1 l D k hX (aX 50) (aX 0) (aX 1) (aX 2) (aX 3) (aX 4) (aX 5) (aX 6) (aX 7) (aX 8) (aX 9) (aX 10) (aX 11) (aX 12) (aX 13) (aX 14) (aX 15) (aX 16) (aX 17) (aX 18) (aX 19) (aX 20) (aX 21) (aX 22) (aX 23) (aX 24) (aX 25) (aX 26) (aX 27) (aX 28) (aX 29) (aX 30) (aX 31) (aX 32) (aX 33) (aX 34) (aX 35) (aX 36) (aX 37) (aX 38) (aX 39) (aX 40) (aX 41) (aX 42) (aX 43) (aX 44) (aX 45) (aX 46) (aX 47) (aX 48) (aX 49) (aX 51) (aX 57) (aX 65) (xs 1) 0 0 0 (fun _ => 0) (fun _ => 0) (fun _ => 0) (fun _ => 0) (fun _ => 0) (fun _ => 0) (fun _ => 0) (fun _ => 0) (fun _ => 0) (fun _ => 0) (fun _ => 0) (fun _ => 0) (fun _ => 0) (fun _ => 0) (fun _ => 0) (fun _ => 0) (fun _ => 0) (fun _ => 0) (fun _ => 0) (fun _ => 0) (fun _ => 0) (fun _ => 0) (fun _ => 0) (fun _ => 0) (fun _ => 0) (fun _ => 0) (fun _ => (-1)) (fun _ => 0) (fun _ => 0) (fun _ => 0) (fun _ => (-1)) (fun _ => (-1)) (fun _ => 0) (fun _ => 0) (fun _ => 0) (fun _ => 0) (fun _ => 0) (fun _ => 0) (fun _ => 0) (fun _ => 0) (fun _ => 0) (fun _ => 0) _) okV_X11_image kM_L_189 rfl (z_pV (q0 := 0) hK hN hP hD [0, 51, 1, 2, 3, 4, 5, 6, 7, 8, 9, 10, 11, 12, 13, 14, 15, 16, 17, 18, 19, 20, 21, 22, 23, 24, 25, 26, 27, 28, 29, 30, 31, 32, 33, 34, 35, 36, 37, 38, 39, 40, 41, 42, 43, 44, 45, 46, 47, 48, 49, 50] rfl rfl rfl rfl rfl) rfl hl.1 rfl (Nat.le_of_ble_eq_true rfl) dL_law_2002 rfl) hP hD hS hA [0, 51, 1, 2, 3, 4, 5, 6, 7, 8, 9, 10, 11, 12, 13, 14, 15, 16, 17, 18, 19, 20, 21, 22, 23, 24, 25, 26, 27, 28, 29, 30, 31, 32, 33, 34, 35, 36, 37, 38, 39, 40, 41, 42, 43, 44, 45, 46, 47, 48, 49, 50] [74, 77, 75, 76] rfl rfl rfl rfl (fun r1 u1 H locs hw1 hP hD hS => ?_)
  obtain ⟨i1, a1⟩ := u1
  dsimp only at hw1
  rcases hw1 with ⟨rfl, rfl, c1⟩ | ⟨rfl, rfl, c1⟩
  · have hP : va_P D vwCl [(hM, .inr (12, [.int 0, .int 0, .ref (aM 0), .ref (aM 1), .ref (aM 2), .int 0, .ref (aM 3), .ref (aM 4), .ref (aM 5), .ref (aM 6), .ref (aM 7), .int 0, .int 0, .int 0, .int 0, .long 0, .int (-1), .int 0, .int 0, .ref (aM 8), .int 0, .ref (aM 9), .ref (aM 10), .int 0, .ref (aM 11), .ref (aM 12), .int 0, .int 0, .ref (aM 13), .ref (aM 14), .ref (aM 15), .ref (aM 16), .int 0, .long 0, .long 0, .int 0, .int 0, .int 0, .int 0, .ref (aM 17), .ref (aM 18), .int 0, .int 0, .int 0, .int 0, .ref (aM 19), .ref (aM 20), .int 0, .int 0, .ref (aM 21), .ref (aM 22), .ref (aM 23), .ref (aM 24), .int 0, .int 0, .int 0])), ((aM 2), .inl (k 2, 2, .inl (fun _ => 0))), ((aM 0), .inl (k 0, 27101, .inl (fun _ => 0))), ((aM 1), .inl (k 0, 54202, .inl (fun _ => 0)))] H := hP
    have hD : va_D (fun q : Nat => s.heap.size ≤ q) [(hM, .inr (12, [.int 0, .int 0, .ref (aM 0), .ref (aM 1), .ref (aM 2), .int 0, .ref (aM 3), .ref (aM 4), .ref (aM 5), .ref (aM 6), .ref (aM 7), .int 0, .int 0, .int 0, .int 0, .long 0, .int (-1), .int 0, .int 0, .ref (aM 8), .int 0, .ref (aM 9), .ref (aM 10), .int 0, .ref (aM 11), .ref (aM 12), .int 0, .int 0, .ref (aM 13), .ref (aM 14), .ref (aM 15), .ref (aM 16), .int 0, .long 0, .long 0, .int 0, .int 0, .int 0, .int 0, .ref (aM 17), .ref (aM 18), .int 0, .int 0, .int 0, .int 0, .ref (aM 19), .ref (aM 20), .int 0, .int 0, .ref (aM 21), .ref (aM 22), .ref (aM 23), .ref (aM 24), .int 0, .int 0, .int 0])), ((aM 2), .inl (k 2, 2, .inl (fun _ => 0))), ((aM 0), .inl (k 0, 27101, .inl (fun _ => 0))), ((aM 1), .inl (k 0, 54202, .inl (fun _ => 0)))] := hD
    refine lv_aload_n hx hb dL_law_2005 rfl (lv_at hl 2 rfl) ?_
    refine lv_aload_n hx hb dL_law_2006 rfl (lv_at hl 0 rfl) ?_
    refine lv_iload_n hx hb dL_law_2007 rfl (lv_at hl 3 rfl) ?_
    refine lv_iconst (v := 1) hx hb dL_law_2008 (by decide) ?_
    refine lv_iadd hx hb dL_law_2009 ?_
    refine lv_toc (v := 1) (by decide) ?_
    refine z_sld hx hb hXx hbl hbA hS 1 (by decide) (by unfold vp_in; decide) dL_law_2010 ?_
    refine z_bi (wr := []) (z_runV (C := RX12) (As := [.int (xs 1)]) (rest := [.int (-1)]) C0 (c_X12_image_1 l D k hM (aM 2) (aM 0) (aM 1) (aM 3) (aM 4) (aM 5) (aM 6) (aM 7) (aM 8) (aM 9) (aM 10) (aM 11) (aM 12) (aM 13) (aM 14) (aM 15) (aM 16) (aM 17) (aM 18) (aM 19) (aM 20) (aM 21) (aM 22) (aM 23) (aM 24) (xs 1) 0 0 0 0 0 0 0 0 (-1) 0 0 0 0 0 0 0 0 0 0 0 0 0 0 0 0 0 0 0 0 0 0 (fun _ => 0) (fun _ => 0) _) okV_X12_image kM_L_192 rfl (z_pV (q0 := 0) hK hN hP hD [0, 1, 2, 3] rfl rfl rfl rfl rfl) rfl hl.1 rfl (Nat.le_of_ble_eq_true rfl) dL_law_2011 rfl) hP hD hS hA [0, 1, 2, 3] [] rfl rfl rfl rfl (fun r2 u2 H locs hw2 hP hD hS => ?_)
    obtain ⟨i2, a2⟩ := u2
    dsimp only at hw2
    rcases hw2 with ⟨rfl, rfl, c2⟩ | ⟨rfl, rfl, c2⟩
    · have hP : va_P D vwCl [] H := hP
      have hD : va_D (fun q : Nat => s.heap.size ≤ q) [] := hD
      refine lv_icmp_eq (tgt := 2078) hx hb dL_law_2014 (by decide) (fun _ => ?_) (fun c3 => absurd (by decide) c3)
      exact law_end hC (Nat.le_of_ble_eq_true rfl) (Nat.le_of_ble_eq_true rfl) hS (lv_sub hl [0, 3] rfl)
    · have hP : va_P D vwCl [] H := hP
      have hD : va_D (fun q : Nat => s.heap.size ≤ q) [] := hD
      exact (show False by have bA0 := Int32.le_toInt (xs 1); have bB0 := Int32.toInt_lt (xs 1); revert c1 c2; simp only [vp_in_iff, Int32.lt_iff_toInt_lt, Int32.le_iff_toInt_le, Int64.lt_iff_toInt_lt, Int64.le_iff_toInt_le, Int32.toInt_toInt64, ← Int32.toInt_inj, ← Int64.toInt_inj, Int32.reduceToInt, Int64.reduceToInt] <;> omega).elim
  · have hP : va_P D vwCl [(hM, .inr (12, [.int 0, .int 0, .ref (aM 0), .ref (aM 1), .ref (aM 2), .int 0, .ref (aM 3), .ref (aM 4), .ref (aM 5), .ref (aM 6), .ref (aM 7), .int 0, .int 0, .int 0, .int 0, .long 0, .int (-1), .int 0, .int 0, .ref (aM 8), .int 0, .ref (aM 9), .ref (aM 10), .int 0, .ref (aM 11), .ref (aM 12), .int 0, .int 0, .ref (aM 13), .ref (aM 14), .ref (aM 15), .ref (aM 16), .int 0, .long 0, .long 0, .int 0, .int 0, .int 0, .int 0, .ref (aM 17), .ref (aM 18), .int 0, .int 0, .int 0, .int 0, .ref (aM 19), .ref (aM 20), .int 0, .int 0, .ref (aM 21), .ref (aM 22), .ref (aM 23), .ref (aM 24), .int 0, .int 0, .int 0])), ((aM 2), .inl (k 2, 2, .inl (fun _ => 0))), ((aM 0), .inl (k 0, 27101, .inl (fun _ => 0))), ((aM 1), .inl (k 0, 54202, .inl (fun _ => 0)))] H := hP
    have hD : va_D (fun q : Nat => s.heap.size ≤ q) [(hM, .inr (12, [.int 0, .int 0, .ref (aM 0), .ref (aM 1), .ref (aM 2), .int 0, .ref (aM 3), .ref (aM 4), .ref (aM 5), .ref (aM 6), .ref (aM 7), .int 0, .int 0, .int 0, .int 0, .long 0, .int (-1), .int 0, .int 0, .ref (aM 8), .int 0, .ref (aM 9), .ref (aM 10), .int 0, .ref (aM 11), .ref (aM 12), .int 0, .int 0, .ref (aM 13), .ref (aM 14), .ref (aM 15), .ref (aM 16), .int 0, .long 0, .long 0, .int 0, .int 0, .int 0, .int 0, .ref (aM 17), .ref (aM 18), .int 0, .int 0, .int 0, .int 0, .ref (aM 19), .ref (aM 20), .int 0, .int 0, .ref (aM 21), .ref (aM 22), .ref (aM 23), .ref (aM 24), .int 0, .int 0, .int 0])), ((aM 2), .inl (k 2, 2, .inl (fun _ => 0))), ((aM 0), .inl (k 0, 27101, .inl (fun _ => 0))), ((aM 1), .inl (k 0, 54202, .inl (fun _ => 0)))] := hD
    refine lv_aload_n hx hb dL_law_2005 rfl (lv_at hl 2 rfl) ?_
    refine lv_aload_n hx hb dL_law_2006 rfl (lv_at hl 0 rfl) ?_
    refine lv_iload_n hx hb dL_law_2007 rfl (lv_at hl 3 rfl) ?_
    refine lv_iconst (v := 1) hx hb dL_law_2008 (by decide) ?_
    refine lv_iadd hx hb dL_law_2009 ?_
    refine lv_toc (v := 1) (by decide) ?_
    refine z_sld hx hb hXx hbl hbA hS 1 (by decide) (by unfold vp_in; decide) dL_law_2010 ?_
    refine z_bi (wr := []) (z_runV (C := RX12) (As := [.int (xs 1)]) (rest := [.int 0]) C0 (c_X12_image_1 l D k hM (aM 2) (aM 0) (aM 1) (aM 3) (aM 4) (aM 5) (aM 6) (aM 7) (aM 8) (aM 9) (aM 10) (aM 11) (aM 12) (aM 13) (aM 14) (aM 15) (aM 16) (aM 17) (aM 18) (aM 19) (aM 20) (aM 21) (aM 22) (aM 23) (aM 24) (xs 1) 0 0 0 0 0 0 0 0 (-1) 0 0 0 0 0 0 0 0 0 0 0 0 0 0 0 0 0 0 0 0 0 0 (fun _ => 0) (fun _ => 0) _) okV_X12_image kM_L_192 rfl (z_pV (q0 := 0) hK hN hP hD [0, 1, 2, 3] rfl rfl rfl rfl rfl) rfl hl.1 rfl (Nat.le_of_ble_eq_true rfl) dL_law_2011 rfl) hP hD hS hA [0, 1, 2, 3] [] rfl rfl rfl rfl (fun r4 u4 H locs hw4 hP hD hS => ?_)
    obtain ⟨i4, a4⟩ := u4
    dsimp only at hw4
    rcases hw4 with ⟨rfl, rfl, c4⟩ | ⟨rfl, rfl, c4⟩
    · have hP : va_P D vwCl [] H := hP
      have hD : va_D (fun q : Nat => s.heap.size ≤ q) [] := hD
      exact (show False by have bA0 := Int32.le_toInt (xs 1); have bB0 := Int32.toInt_lt (xs 1); revert c1 c4; simp only [vp_in_iff, Int32.lt_iff_toInt_lt, Int32.le_iff_toInt_le, Int64.lt_iff_toInt_lt, Int64.le_iff_toInt_le, Int32.toInt_toInt64, ← Int32.toInt_inj, ← Int64.toInt_inj, Int32.reduceToInt, Int64.reduceToInt] <;> omega).elim
    · have hP : va_P D vwCl [] H := hP
      have hD : va_D (fun q : Nat => s.heap.size ≤ q) [] := hD
      refine lv_icmp_eq (tgt := 2078) hx hb dL_law_2014 (by decide) (fun _ => ?_) (fun c5 => absurd (by decide) c5)
      exact law_end hC (Nat.le_of_ble_eq_true rfl) (Nat.le_of_ble_eq_true rfl) hS (lv_sub hl [0, 3] rfl)

set_option maxHeartbeats 4000000 in
set_option maxRecDepth 100000 in
theorem law_case_43 {p : Program} {l : Launch} {e : Env} {s : State} {m : MethodId} {below : List Frame} {meth : Method} {c : Code} {D : va_G} {k : Nat → ClassId} {b : Nat} {xs : Nat → Int32} (hC : law_C p s m meth c D k b 7 xs) {hX hM : Nat} {aX aM : Nat → Nat} {H : Heap} {locs : List Loc} {ls : Array Slot} (hP : va_P D vwCl (WX k hX aX ++ WM k hM aM) H) (hD : va_D (fun q : Nat => s.heap.size ≤ q) (WX k hX aX ++ WM k hM aM)) (hS : va_S (fun q : Nat => s.heap.size ≤ q) s.heap H locs) (hl : lv_has ls 4 [(0, .ref b), (1, .ref hX), (2, .ref hM), (3, .int 0)]) : W p l e room_1 s m #[Value.ref b] below meth c H locs 100 106558 (lw_Z below #[Value.ref b] s) (F0 m 2019 ls []) := by
  obtain ⟨C0, hr, hlk, hXx, hbl, hK, hN⟩ := id hC
  have hx := C0.1
  have hb := C0.2.1
  have hml := C0.2.2.1
  have hown := C0.2.2.2.1
  have hts := C0.2.2.2.2
  have hA : ∀ q : Nat, s.heap.size ≤ q → (fun q : Nat => s.heap.size ≤ q) q := fun _ h => h
  have hbA : ¬ (fun q : Nat => s.heap.size ≤ q) b := Nat.not_le.mpr hbl
  refine lv_aload_n hx hb dL_law_2019 rfl (lv_at hl 1 rfl) ?_
  refine lv_aload_n hx hb dL_law_2020 rfl (lv_at hl 0 rfl) ?_
  refine lv_iload_n hx hb dL_law_2021 rfl (lv_at hl 3 rfl) ?_
  refine lv_iconst (v := 1) hx hb dL_law_2022 (by decide) ?_
  refine lv_iadd hx hb dL_law_2023 ?_
  refine lv_toc (v := 1) (by decide) ?_
  refine z_sld hx hb hXx hbl hbA hS 1 (by decide) (by unfold vp_in; decide) dL_law_2024 ?_
  refine z_bi (wr := [(hM, .inr (12, [.int 0, .int 0, .ref (aM 0), .ref (aM 1), .ref (aM 2), .int 0, .ref (aM 3), .ref (aM 4), .ref (aM 5), .ref (aM 6), .ref (aM 7), .int 0, .int 0, .int 0, .int 0, .long 0, .int (-1), .int 0, .int 0, .ref (aM 8), .int 0, .ref (aM 9), .ref (aM 10), .int 0, .ref (aM 11), .ref (aM 12), .int 0, .int 0, .ref (aM 13), .ref (aM 14), .ref (aM 15), .ref (aM 16), .int 0, .long 0, .long 0, .int 0, .int 0, .int 0, .int 0, .ref (aM 17), .ref (aM 18), .int 0, .int 0, .int 0, .int 0, .ref (aM 19), .ref (aM 20), .int 0, .int 0, .ref (aM 21), .ref (aM 22), .ref (aM 23), .ref (aM 24), .int 0, .int 0, .int 0])), ((aM 2), .inl (k 2, 2, .inl (fun _ => 0)))]) (z_runV (C := RX11) (As := [.int (xs 1)]) (rest := []) C0 (c_X11_back_1 l D k hX (aX 50) (aX 0) (aX 51) (aX 57) (aX 65) (xs 1) 0 _) okV_X11_back kM_L_193 rfl (z_pV (q0 := 0) hK hN hP hD [0, 51] rfl rfl rfl rfl rfl) rfl hl.1 rfl (Nat.le_of_ble_eq_true rfl) dL_law_2025 rfl) hP hD hS hA [0, 51] [74, 77] rfl rfl rfl rfl (fun r1 u1 H locs hw1 hP hD hS => ?_)
  obtain ⟨i1, a1⟩ := u1
  dsimp only at hw1
  rcases hw1 with ⟨rfl, rfl, c1⟩ | ⟨rfl, rfl, c1⟩
  · have hP : va_P D vwCl [(hM, .inr (12, [.int 0, .int 0, .ref (aM 0), .ref (aM 1), .ref (aM 2), .int 0, .ref (aM 3), .ref (aM 4), .ref (aM 5), .ref (aM 6), .ref (aM 7), .int 0, .int 0, .int 0, .int 0, .long 0, .int (-1), .int 0, .int 0, .ref (aM 8), .int 0, .ref (aM 9), .ref (aM 10), .int 0, .ref (aM 11), .ref (aM 12), .int 0, .int 0, .ref (aM 13), .ref (aM 14), .ref (aM 15), .ref (aM 16), .int 0, .long 0, .long 0, .int 0, .int 0, .int 0, .int 0, .ref (aM 17), .ref (aM 18), .int 0, .int 0, .int 0, .int 0, .ref (aM 19), .ref (aM 20), .int 0, .int 0, .ref (aM 21), .ref (aM 22), .ref (aM 23), .ref (aM 24), .int 0, .int 0, .int 0])), ((aM 2), .inl (k 2, 2, .inl (fun _ => 0)))] H := hP
    have hD : va_D (fun q : Nat => s.heap.size ≤ q) [(hM, .inr (12, [.int 0, .int 0, .ref (aM 0), .ref (aM 1), .ref (aM 2), .int 0, .ref (aM 3), .ref (aM 4), .ref (aM 5), .ref (aM 6), .ref (aM 7), .int 0, .int 0, .int 0, .int 0, .long 0, .int (-1), .int 0, .int 0, .ref (aM 8), .int 0, .ref (aM 9), .ref (aM 10), .int 0, .ref (aM 11), .ref (aM 12), .int 0, .int 0, .ref (aM 13), .ref (aM 14), .ref (aM 15), .ref (aM 16), .int 0, .long 0, .long 0, .int 0, .int 0, .int 0, .int 0, .ref (aM 17), .ref (aM 18), .int 0, .int 0, .int 0, .int 0, .ref (aM 19), .ref (aM 20), .int 0, .int 0, .ref (aM 21), .ref (aM 22), .ref (aM 23), .ref (aM 24), .int 0, .int 0, .int 0])), ((aM 2), .inl (k 2, 2, .inl (fun _ => 0)))] := hD
    refine lv_aload_n hx hb dL_law_2028 rfl (lv_at hl 2 rfl) ?_
    refine lv_aload_n hx hb dL_law_2029 rfl (lv_at hl 0 rfl) ?_
    refine lv_iload_n hx hb dL_law_2030 rfl (lv_at hl 3 rfl) ?_
    refine lv_iconst (v := 1) hx hb dL_law_2031 (by decide) ?_
    refine lv_iadd hx hb dL_law_2032 ?_
    refine lv_toc (v := 1) (by decide) ?_
    refine z_sld hx hb hXx hbl hbA hS 1 (by decide) (by unfold vp_in; decide) dL_law_2033 ?_
    refine z_bi (wr := []) (z_runV (C := RX12) (As := [.int (xs 1)]) (rest := [.int (-1)]) C0 (c_X12_back_1 l D k hM (aM 2) (aM 0) (aM 1) (aM 3) (aM 4) (aM 5) (aM 6) (aM 7) (aM 8) (aM 9) (aM 10) (aM 11) (aM 12) (aM 13) (aM 14) (aM 15) (aM 16) (aM 17) (aM 18) (aM 19) (aM 20) (aM 21) (aM 22) (aM 23) (aM 24) (xs 1) 0 0 0 0 0 0 0 0 (-1) 0 0 0 0 0 0 0 0 0 0 0 0 0 0 0 0 0 0 0 0 0 0 _) okV_X12_back kM_L_196 rfl (z_pV (q0 := 0) hK hN hP hD [0, 1] rfl rfl rfl rfl rfl) rfl hl.1 rfl (Nat.le_of_ble_eq_true rfl) dL_law_2034 rfl) hP hD hS hA [0, 1] [] rfl rfl rfl rfl (fun r2 u2 H locs hw2 hP hD hS => ?_)
    obtain ⟨i2, a2⟩ := u2
    dsimp only at hw2
    rcases hw2 with ⟨rfl, rfl, c2⟩ | ⟨rfl, rfl, c2⟩
    · have hP : va_P D vwCl [] H := hP
      have hD : va_D (fun q : Nat => s.heap.size ≤ q) [] := hD
      refine lv_icmp_eq (tgt := 2078) hx hb dL_law_2037 (by decide) (fun _ => ?_) (fun c3 => absurd (by decide) c3)
      exact law_end hC (Nat.le_of_ble_eq_true rfl) (Nat.le_of_ble_eq_true rfl) hS (lv_sub hl [0, 3] rfl)
    · have hP : va_P D vwCl [] H := hP
      have hD : va_D (fun q : Nat => s.heap.size ≤ q) [] := hD
      exact (show False by have bA0 := Int32.le_toInt (xs 1); have bB0 := Int32.toInt_lt (xs 1); revert c1 c2; simp only [vp_in_iff, Int32.lt_iff_toInt_lt, Int32.le_iff_toInt_le, Int64.lt_iff_toInt_lt, Int64.le_iff_toInt_le, Int32.toInt_toInt64, ← Int32.toInt_inj, ← Int64.toInt_inj, Int32.reduceToInt, Int64.reduceToInt] <;> omega).elim
  · have hP : va_P D vwCl [(hM, .inr (12, [.int 0, .int 0, .ref (aM 0), .ref (aM 1), .ref (aM 2), .int 0, .ref (aM 3), .ref (aM 4), .ref (aM 5), .ref (aM 6), .ref (aM 7), .int 0, .int 0, .int 0, .int 0, .long 0, .int (-1), .int 0, .int 0, .ref (aM 8), .int 0, .ref (aM 9), .ref (aM 10), .int 0, .ref (aM 11), .ref (aM 12), .int 0, .int 0, .ref (aM 13), .ref (aM 14), .ref (aM 15), .ref (aM 16), .int 0, .long 0, .long 0, .int 0, .int 0, .int 0, .int 0, .ref (aM 17), .ref (aM 18), .int 0, .int 0, .int 0, .int 0, .ref (aM 19), .ref (aM 20), .int 0, .int 0, .ref (aM 21), .ref (aM 22), .ref (aM 23), .ref (aM 24), .int 0, .int 0, .int 0])), ((aM 2), .inl (k 2, 2, .inl (fun _ => 0)))] H := hP
    have hD : va_D (fun q : Nat => s.heap.size ≤ q) [(hM, .inr (12, [.int 0, .int 0, .ref (aM 0), .ref (aM 1), .ref (aM 2), .int 0, .ref (aM 3), .ref (aM 4), .ref (aM 5), .ref (aM 6), .ref (aM 7), .int 0, .int 0, .int 0, .int 0, .long 0, .int (-1), .int 0, .int 0, .ref (aM 8), .int 0, .ref (aM 9), .ref (aM 10), .int 0, .ref (aM 11), .ref (aM 12), .int 0, .int 0, .ref (aM 13), .ref (aM 14), .ref (aM 15), .ref (aM 16), .int 0, .long 0, .long 0, .int 0, .int 0, .int 0, .int 0, .ref (aM 17), .ref (aM 18), .int 0, .int 0, .int 0, .int 0, .ref (aM 19), .ref (aM 20), .int 0, .int 0, .ref (aM 21), .ref (aM 22), .ref (aM 23), .ref (aM 24), .int 0, .int 0, .int 0])), ((aM 2), .inl (k 2, 2, .inl (fun _ => 0)))] := hD
    refine lv_aload_n hx hb dL_law_2028 rfl (lv_at hl 2 rfl) ?_
    refine lv_aload_n hx hb dL_law_2029 rfl (lv_at hl 0 rfl) ?_
    refine lv_iload_n hx hb dL_law_2030 rfl (lv_at hl 3 rfl) ?_
    refine lv_iconst (v := 1) hx hb dL_law_2031 (by decide) ?_
    refine lv_iadd hx hb dL_law_2032 ?_
    refine lv_toc (v := 1) (by decide) ?_
    refine z_sld hx hb hXx hbl hbA hS 1 (by decide) (by unfold vp_in; decide) dL_law_2033 ?_
    refine z_bi (wr := []) (z_runV (C := RX12) (As := [.int (xs 1)]) (rest := [.int (-2)]) C0 (c_X12_back_1 l D k hM (aM 2) (aM 0) (aM 1) (aM 3) (aM 4) (aM 5) (aM 6) (aM 7) (aM 8) (aM 9) (aM 10) (aM 11) (aM 12) (aM 13) (aM 14) (aM 15) (aM 16) (aM 17) (aM 18) (aM 19) (aM 20) (aM 21) (aM 22) (aM 23) (aM 24) (xs 1) 0 0 0 0 0 0 0 0 (-1) 0 0 0 0 0 0 0 0 0 0 0 0 0 0 0 0 0 0 0 0 0 0 _) okV_X12_back kM_L_196 rfl (z_pV (q0 := 0) hK hN hP hD [0, 1] rfl rfl rfl rfl rfl) rfl hl.1 rfl (Nat.le_of_ble_eq_true rfl) dL_law_2034 rfl) hP hD hS hA [0, 1] [] rfl rfl rfl rfl (fun r4 u4 H locs hw4 hP hD hS => ?_)
    obtain ⟨i4, a4⟩ := u4
    dsimp only at hw4
    rcases hw4 with ⟨rfl, rfl, c4⟩ | ⟨rfl, rfl, c4⟩
    · have hP : va_P D vwCl [] H := hP
      have hD : va_D (fun q : Nat => s.heap.size ≤ q) [] := hD
      exact (show False by have bA0 := Int32.le_toInt (xs 1); have bB0 := Int32.toInt_lt (xs 1); revert c1 c4; simp only [vp_in_iff, Int32.lt_iff_toInt_lt, Int32.le_iff_toInt_le, Int64.lt_iff_toInt_lt, Int64.le_iff_toInt_le, Int32.toInt_toInt64, ← Int32.toInt_inj, ← Int64.toInt_inj, Int32.reduceToInt, Int64.reduceToInt] <;> omega).elim
    · have hP : va_P D vwCl [] H := hP
      have hD : va_D (fun q : Nat => s.heap.size ≤ q) [] := hD
      refine lv_icmp_eq (tgt := 2078) hx hb dL_law_2037 (by decide) (fun _ => ?_) (fun c5 => absurd (by decide) c5)
      exact law_end hC (Nat.le_of_ble_eq_true rfl) (Nat.le_of_ble_eq_true rfl) hS (lv_sub hl [0, 3] rfl)

set_option maxHeartbeats 4000000 in
set_option maxRecDepth 100000 in
theorem law_case_44 {p : Program} {l : Launch} {e : Env} {s : State} {m : MethodId} {below : List Frame} {meth : Method} {c : Code} {D : va_G} {k : Nat → ClassId} {b : Nat} {xs : Nat → Int32} (hC : law_C p s m meth c D k b 7 xs) {hX hM : Nat} {aX aM : Nat → Nat} {H : Heap} {locs : List Loc} {ls : Array Slot} (hP : va_P D vwCl (WX k hX aX ++ WM k hM aM) H) (hD : va_D (fun q : Nat => s.heap.size ≤ q) (WX k hX aX ++ WM k hM aM)) (hS : va_S (fun q : Nat => s.heap.size ≤ q) s.heap H locs) (hl : lv_has ls 4 [(0, .ref b), (1, .ref hX), (2, .ref hM), (3, .int 0)]) : W p l e room_1 s m #[Value.ref b] below meth c H locs 100 106558 (lw_Z below #[Value.ref b] s) (F0 m 2042 ls []) := by
  obtain ⟨C0, hr, hlk, hXx, hbl, hK, hN⟩ := id hC
  have hx := C0.1
  have hb := C0.2.1
  have hml := C0.2.2.1
  have hown := C0.2.2.2.1
  have hts := C0.2.2.2.2
  have hA : ∀ q : Nat, s.heap.size ≤ q → (fun q : Nat => s.heap.size ≤ q) q := fun _ h => h
  have hbA : ¬ (fun q : Nat => s.heap.size ≤ q) b := Nat.not_le.mpr hbl
  refine lv_aload_n hx hb dL_law_2042 rfl (lv_at hl 1 rfl) ?_
  refine lv_aload_n hx hb dL_law_2043 rfl (lv_at hl 0 rfl) ?_
  refine lv_iload_n hx hb dL_law_2044 rfl (lv_at hl 3 rfl) ?_
  refine lv_iconst (v := 1) hx hb dL_law_2045 (by decide) ?_
  refine lv_iadd hx hb dL_law_2046 ?_
  refine lv_toc (v := 1) (by decide) ?_
  refine z_sld hx hb hXx hbl hbA hS 1 (by decide) (by unfold vp_in; decide) dL_law_2047 ?_
  refine z_bi (wr := [(hM, .inr (12, [.int 0, .int 0, .ref (aM 0), .ref (aM 1), .ref (aM 2), .int 0, .ref (aM 3), .ref (aM 4), .ref (aM 5), .ref (aM 6), .ref (aM 7), .int 0, .int 0, .int 0, .int 0, .long 0, .int (-1), .int 0, .int 0, .ref (aM 8), .int 0, .ref (aM 9), .ref (aM 10), .int 0, .ref (aM 11), .ref (aM 12), .int 0, .int 0, .ref (aM 13), .ref (aM 14), .ref (aM 15), .ref (aM 16), .int 0, .long 0, .long 0, .int 0, .int 0, .int 0, .int 0, .ref (aM 17), .ref (aM 18), .int 0, .int 0, .int 0, .int 0, .ref (aM 19), .ref (aM 20), .int 0, .int 0, .ref (aM 21), .ref (aM 22), .ref (aM 23), .ref (aM 24), .int 0, .int 0, .int 0])), ((aM 0), .inl (k 0, 27101, .inl (fun _ => 0)))]) (z_runV (C := RX11) (As := [.int (xs 1)]) (rest := []) C0 (c_X11_count_1 l D k hX (aX 0) (aX 1) (aX 14) (aX 20) (aX 33) (aX 40) (aX 51) (aX 50) (aX 57) (aX 65) (aX 36) (aX 2) (aX 3) (aX 4) (aX 5) (aX 6) (aX 7) (aX 8) (aX 9) (aX 10) (aX 11) (aX 12) (aX 13) (aX 15) (aX 16) (aX 17) (aX 18) (aX 19) (aX 21) (aX 22) (aX 23) (aX 24) (aX 25) (aX 26) (aX 27) (aX 28) (aX 29) (aX 30) (aX 31) (aX 32) (aX 34) (aX 35) (aX 41) (aX 42) (aX 43) (aX 44) (aX 45) (aX 46) (aX 47) (aX 48) (aX 49) (aX 52) (aX 53) (aX 54) (aX 55) (aX 56) (xs 1) 0 0 0 0 (-1) 0 0 0 0 0 0 0 0 0 _) okV_X11_count kM_L_197 rfl (z_pV (q0 := 0) hK hN hP hD [0, 1, 2, 15, 21, 34, 41, 52] rfl rfl rfl rfl rfl) rfl hl.1 rfl (Nat.le_of_ble_eq_true rfl) dL_law_2048 rfl) hP hD hS hA [0, 1, 2, 15, 21, 34, 41, 52] [74, 75] rfl rfl rfl rfl (fun r1 u1 H locs hw1 hP hD hS => ?_)
  obtain ⟨i1, a1⟩ := u1
  dsimp only at hw1
  rcases hw1 with ⟨rfl, rfl, c1⟩ | ⟨rfl, rfl, c1⟩
  · have hP : va_P D vwCl [(hM, .inr (12, [.int 0, .int 0, .ref (aM 0), .ref (aM 1), .ref (aM 2), .int 0, .ref (aM 3), .ref (aM 4), .ref (aM 5), .ref (aM 6), .ref (aM 7), .int 0, .int 0, .int 0, .int 0, .long 0, .int (-1), .int 0, .int 0, .ref (aM 8), .int 0, .ref (aM 9), .ref (aM 10), .int 0, .ref (aM 11), .ref (aM 12), .int 0, .int 0, .ref (aM 13), .ref (aM 14), .ref (aM 15), .ref (aM 16), .int 0, .long 0, .long 0, .int 0, .int 0, .int 0, .int 0, .ref (aM 17), .ref (aM 18), .int 0, .int 0, .int 0, .int 0, .ref (aM 19), .ref (aM 20), .int 0, .int 0, .ref (aM 21), .ref (aM 22), .ref (aM 23), .ref (aM 24), .int 0, .int 0, .int 0])), ((aM 0), .inl (k 0, 27101, .inl (fun _ => 0)))] H := hP
    have hD : va_D (fun q : Nat => s.heap.size ≤ q) [(hM, .inr (12, [.int 0, .int 0, .ref (aM 0), .ref (aM 1), .ref (aM 2), .int 0, .ref (aM 3), .ref (aM 4), .ref (aM 5), .ref (aM 6), .ref (aM 7), .int 0, .int 0, .int 0, .int 0, .long 0, .int (-1), .int 0, .int 0, .ref (aM 8), .int 0, .ref (aM 9), .ref (aM 10), .int 0, .ref (aM 11), .ref (aM 12), .int 0, .int 0, .ref (aM 13), .ref (aM 14), .ref (aM 15), .ref (aM 16), .int 0, .long 0, .long 0, .int 0, .int 0, .int 0, .int 0, .ref (aM 17), .ref (aM 18), .int 0, .int 0, .int 0, .int 0, .ref (aM 19), .ref (aM 20), .int 0, .int 0, .ref (aM 21), .ref (aM 22), .ref (aM 23), .ref (aM 24), .int 0, .int 0, .int 0])), ((aM 0), .inl (k 0, 27101, .inl (fun _ => 0)))] := hD
    refine lv_aload_n hx hb dL_law_2051 rfl (lv_at hl 2 rfl) ?_
    refine lv_aload_n hx hb dL_law_2052 rfl (lv_at hl 0 rfl) ?_
    refine lv_iload_n hx hb dL_law_2053 rfl (lv_at hl 3 rfl) ?_
    refine lv_iconst (v := 1) hx hb dL_law_2054 (by decide) ?_
    refine lv_iadd hx hb dL_law_2055 ?_
    refine lv_toc (v := 1) (by decide) ?_
    refine z_sld hx hb hXx hbl hbA hS 1 (by decide) (by unfold vp_in; decide) dL_law_2056 ?_
    refine z_bi (wr := []) (z_runV (C := RX12) (As := [.int (xs 1)]) (rest := [.int 0]) C0 (c_X12_count_1 l D k hM (aM 0) (aM 1) (aM 2) (aM 3) (aM 4) (aM 5) (aM 6) (aM 7) (aM 8) (aM 9) (aM 10) (aM 11) (aM 12) (aM 13) (aM 14) (aM 15) (aM 16) (aM 17) (aM 18) (aM 19) (aM 20) (aM 21) (aM 22) (aM 23) (aM 24) (xs 1) 0 0 0 0 0 0 0 (-1) 0 0 0 0 0 0 0 0 0 0 0 0 0 0 0 0 0 0 0 0 0 0 _) okV_X12_count kM_L_200 rfl (z_pV (q0 := 0) hK hN hP hD [0, 1] rfl rfl rfl rfl rfl) rfl hl.1 rfl (Nat.le_of_ble_eq_true rfl) dL_law_2057 rfl) hP hD hS hA [0, 1] [] rfl rfl rfl rfl (fun r2 u2 H locs hw2 hP hD hS => ?_)
    obtain ⟨i2, a2⟩ := u2
    dsimp only at hw2
    rcases hw2 with ⟨rfl, rfl, c2⟩ | ⟨rfl, rfl, c2⟩
    · have hP : va_P D vwCl [] H := hP
      have hD : va_D (fun q : Nat => s.heap.size ≤ q) [] := hD
      refine lv_icmp_eq (tgt := 2078) hx hb dL_law_2060 (by decide) (fun _ => ?_) (fun c3 => absurd (by decide) c3)
      exact law_end hC (Nat.le_of_ble_eq_true rfl) (Nat.le_of_ble_eq_true rfl) hS (lv_sub hl [0, 3] rfl)
    · have hP : va_P D vwCl [] H := hP
      have hD : va_D (fun q : Nat => s.heap.size ≤ q) [] := hD
      exact (show False by have bA0 := Int32.le_toInt (xs 1); have bB0 := Int32.toInt_lt (xs 1); revert c1 c2; simp only [vp_in_iff, Int32.lt_iff_toInt_lt, Int32.le_iff_toInt_le, Int64.lt_iff_toInt_lt, Int64.le_iff_toInt_le, Int32.toInt_toInt64, ← Int32.toInt_inj, ← Int64.toInt_inj, Int32.reduceToInt, Int64.reduceToInt] <;> omega).elim
  · have hP : va_P D vwCl [(hM, .inr (12, [.int 0, .int 0, .ref (aM 0), .ref (aM 1), .ref (aM 2), .int 0, .ref (aM 3), .ref (aM 4), .ref (aM 5), .ref (aM 6), .ref (aM 7), .int 0, .int 0, .int 0, .int 0, .long 0, .int (-1), .int 0, .int 0, .ref (aM 8), .int 0, .ref (aM 9), .ref (aM 10), .int 0, .ref (aM 11), .ref (aM 12), .int 0, .int 0, .ref (aM 13), .ref (aM 14), .ref (aM 15), .ref (aM 16), .int 0, .long 0, .long 0, .int 0, .int 0, .int 0, .int 0, .ref (aM 17), .ref (aM 18), .int 0, .int 0, .int 0, .int 0, .ref (aM 19), .ref (aM 20), .int 0, .int 0, .ref (aM 21), .ref (aM 22), .ref (aM 23), .ref (aM 24), .int 0, .int 0, .int 0])), ((aM 0), .inl (k 0, 27101, .inl (fun _ => 0)))] H := hP
    have hD : va_D (fun q : Nat => s.heap.size ≤ q) [(hM, .inr (12, [.int 0, .int 0, .ref (aM 0), .ref (aM 1), .ref (aM 2), .int 0, .ref (aM 3), .ref (aM 4), .ref (aM 5), .ref (aM 6), .ref (aM 7), .int 0, .int 0, .int 0, .int 0, .long 0, .int (-1), .int 0, .int 0, .ref (aM 8), .int 0, .ref (aM 9), .ref (aM 10), .int 0, .ref (aM 11), .ref (aM 12), .int 0, .int 0, .ref (aM 13), .ref (aM 14), .ref (aM 15), .ref (aM 16), .int 0, .long 0, .long 0, .int 0, .int 0, .int 0, .int 0, .ref (aM 17), .ref (aM 18), .int 0, .int 0, .int 0, .int 0, .ref (aM 19), .ref (aM 20), .int 0, .int 0, .ref (aM 21), .ref (aM 22), .ref (aM 23), .ref (aM 24), .int 0, .int 0, .int 0])), ((aM 0), .inl (k 0, 27101, .inl (fun _ => 0)))] := hD
    refine lv_aload_n hx hb dL_law_2051 rfl (lv_at hl 2 rfl) ?_
    refine lv_aload_n hx hb dL_law_2052 rfl (lv_at hl 0 rfl) ?_
    refine lv_iload_n hx hb dL_law_2053 rfl (lv_at hl 3 rfl) ?_
    refine lv_iconst (v := 1) hx hb dL_law_2054 (by decide) ?_
    refine lv_iadd hx hb dL_law_2055 ?_
    refine lv_toc (v := 1) (by decide) ?_
    refine z_sld hx hb hXx hbl hbA hS 1 (by decide) (by unfold vp_in; decide) dL_law_2056 ?_
    refine z_bi (wr := []) (z_runV (C := RX12) (As := [.int (xs 1)]) (rest := [.int (-1)]) C0 (c_X12_count_1 l D k hM (aM 0) (aM 1) (aM 2) (aM 3) (aM 4) (aM 5) (aM 6) (aM 7) (aM 8) (aM 9) (aM 10) (aM 11) (aM 12) (aM 13) (aM 14) (aM 15) (aM 16) (aM 17) (aM 18) (aM 19) (aM 20) (aM 21) (aM 22) (aM 23) (aM 24) (xs 1) 0 0 0 0 0 0 0 (-1) 0 0 0 0 0 0 0 0 0 0 0 0 0 0 0 0 0 0 0 0 0 0 _) okV_X12_count kM_L_200 rfl (z_pV (q0 := 0) hK hN hP hD [0, 1] rfl rfl rfl rfl rfl) rfl hl.1 rfl (Nat.le_of_ble_eq_true rfl) dL_law_2057 rfl) hP hD hS hA [0, 1] [] rfl rfl rfl rfl (fun r4 u4 H locs hw4 hP hD hS => ?_)
    obtain ⟨i4, a4⟩ := u4
    dsimp only at hw4
    rcases hw4 with ⟨rfl, rfl, c4⟩ | ⟨rfl, rfl, c4⟩
    · have hP : va_P D vwCl [] H := hP
      have hD : va_D (fun q : Nat => s.heap.size ≤ q) [] := hD
      exact (show False by have bA0 := Int32.le_toInt (xs 1); have bB0 := Int32.toInt_lt (xs 1); revert c1 c4; simp only [vp_in_iff, Int32.lt_iff_toInt_lt, Int32.le_iff_toInt_le, Int64.lt_iff_toInt_lt, Int64.le_iff_toInt_le, Int32.toInt_toInt64, ← Int32.toInt_inj, ← Int64.toInt_inj, Int32.reduceToInt, Int64.reduceToInt] <;> omega).elim
    · have hP : va_P D vwCl [] H := hP
      have hD : va_D (fun q : Nat => s.heap.size ≤ q) [] := hD
      refine lv_icmp_eq (tgt := 2078) hx hb dL_law_2060 (by decide) (fun _ => ?_) (fun c5 => absurd (by decide) c5)
      exact law_end hC (Nat.le_of_ble_eq_true rfl) (Nat.le_of_ble_eq_true rfl) hS (lv_sub hl [0, 3] rfl)

set_option maxHeartbeats 4000000 in
set_option maxRecDepth 100000 in
theorem law_case_45 {p : Program} {l : Launch} {e : Env} {s : State} {m : MethodId} {below : List Frame} {meth : Method} {c : Code} {D : va_G} {k : Nat → ClassId} {b : Nat} {xs : Nat → Int32} (hC : law_C p s m meth c D k b 7 xs) {hX hM : Nat} {aX aM : Nat → Nat} {H : Heap} {locs : List Loc} {ls : Array Slot} (hP : va_P D vwCl (WX k hX aX ++ WM k hM aM) H) (hD : va_D (fun q : Nat => s.heap.size ≤ q) (WX k hX aX ++ WM k hM aM)) (hS : va_S (fun q : Nat => s.heap.size ≤ q) s.heap H locs) (hl : lv_has ls 4 [(0, .ref b), (1, .ref hX), (2, .ref hM), (3, .int 0)]) : W p l e room_1 s m #[Value.ref b] below meth c H locs 100 106558 (lw_Z below #[Value.ref b] s) (F0 m 2065 ls []) := by
  obtain ⟨C0, hr, hlk, hXx, hbl, hK, hN⟩ := id hC
  have hx := C0.1
  have hb := C0.2.1
  have hml := C0.2.2.1
  have hown := C0.2.2.2.1
  have hts := C0.2.2.2.2
  have hA : ∀ q : Nat, s.heap.size ≤ q → (fun q : Nat => s.heap.size ≤ q) q := fun _ h => h
  have hbA : ¬ (fun q : Nat => s.heap.size ≤ q) b := Nat.not_le.mpr hbl
  refine lv_aload_n hx hb dL_law_2065 rfl (lv_at hl 1 rfl) ?_
  refine z_bi (wr := [(hM, .inr (12, [.int 0, .int 0, .ref (aM 0), .ref (aM 1), .ref (aM 2), .int 0, .ref (aM 3), .ref (aM 4), .ref (aM 5), .ref (aM 6), .ref (aM 7), .int 0, .int 0, .int 0, .int 0, .long 0, .int (-1), .int 0, .int 0, .ref (aM 8), .int 0, .ref (aM 9), .ref (aM 10), .int 0, .ref (aM 11), .ref (aM 12), .int 0, .int 0, .ref (aM 13), .ref (aM 14), .ref (aM 15), .ref (aM 16), .int 0, .long 0, .long 0, .int 0, .int 0, .int 0, .int 0, .ref (aM 17), .ref (aM 18), .int 0, .int 0, .int 0, .int 0, .ref (aM 19), .ref (aM 20), .int 0, .int 0, .ref (aM 21), .ref (aM 22), .ref (aM 23), .ref (aM 24), .int 0, .int 0, .int 0]))]) (z_runV (C := RX11) (As := []) (rest := []) C0 (c_X11_status_1 l D k hX (aX 0) (aX 50) (aX 51) (aX 57) (aX 65) _) okV_X11_status kM_L_201 rfl (z_pV (q0 := 0) hK hN hP hD [0] rfl rfl rfl rfl rfl) rfl hl.1 rfl (Nat.le_of_ble_eq_true rfl) dL_law_2066 rfl) hP hD hS hA [0] [74] rfl rfl rfl rfl (fun r1 u1 H locs hw1 hP hD hS => ?_)
  obtain ⟨i1, a1⟩ := u1
  dsimp only at hw1
  obtain ⟨rfl, rfl⟩ := hw1
  have hP : va_P D vwCl [(hM, .inr (12, [.int 0, .int 0, .ref (aM 0), .ref (aM 1), .ref (aM 2), .int 0, .ref (aM 3), .ref (aM 4), .ref (aM 5), .ref (aM 6), .ref (aM 7), .int 0, .int 0, .int 0, .int 0, .long 0, .int (-1), .int 0, .int 0, .ref (aM 8), .int 0, .ref (aM 9), .ref (aM 10), .int 0, .ref (aM 11), .ref (aM 12), .int 0, .int 0, .ref (aM 13), .ref (aM 14), .ref (aM 15), .ref (aM 16), .int 0, .long 0, .long 0, .int 0, .int 0, .int 0, .int 0, .ref (aM 17), .ref (aM 18), .int 0, .int 0, .int 0, .int 0, .ref (aM 19), .ref (aM 20), .int 0, .int 0, .ref (aM 21), .ref (aM 22), .ref (aM 23), .ref (aM 24), .int 0, .int 0, .int 0]))] H := hP
  have hD : va_D (fun q : Nat => s.heap.size ≤ q) [(hM, .inr (12, [.int 0, .int 0, .ref (aM 0), .ref (aM 1), .ref (aM 2), .int 0, .ref (aM 3), .ref (aM 4), .ref (aM 5), .ref (aM 6), .ref (aM 7), .int 0, .int 0, .int 0, .int 0, .long 0, .int (-1), .int 0, .int 0, .ref (aM 8), .int 0, .ref (aM 9), .ref (aM 10), .int 0, .ref (aM 11), .ref (aM 12), .int 0, .int 0, .ref (aM 13), .ref (aM 14), .ref (aM 15), .ref (aM 16), .int 0, .long 0, .long 0, .int 0, .int 0, .int 0, .int 0, .ref (aM 17), .ref (aM 18), .int 0, .int 0, .int 0, .int 0, .ref (aM 19), .ref (aM 20), .int 0, .int 0, .ref (aM 21), .ref (aM 22), .ref (aM 23), .ref (aM 24), .int 0, .int 0, .int 0]))] := hD
  refine lv_aload_n hx hb dL_law_2069 rfl (lv_at hl 2 rfl) ?_
  refine z_bi (wr := []) (z_runV (C := RX12) (As := []) (rest := [.int 0]) C0 (c_X12_status_1 l D k hM (aM 0) (aM 1) (aM 2) (aM 3) (aM 4) (aM 5) (aM 6) (aM 7) (aM 8) (aM 9) (aM 10) (aM 11) (aM 12) (aM 13) (aM 14) (aM 15) (aM 16) (aM 17) (aM 18) (aM 19) (aM 20) (aM 21) (aM 22) (aM 23) (aM 24) 0 0 0 0 0 0 0 (-1) 0 0 0 0 0 0 0 0 0 0 0 0 0 0 0 0 0 0 0 0 0 0 _) okV_X12_status kM_L_204 rfl (z_pV (q0 := 0) hK hN hP hD [0] rfl rfl rfl rfl rfl) rfl hl.1 rfl (Nat.le_of_ble_eq_true rfl) dL_law_2070 rfl) hP hD hS hA [0] [] rfl rfl rfl rfl (fun r2 u2 H locs hw2 hP hD hS => ?_)
  obtain ⟨i2, a2⟩ := u2
  dsimp only at hw2
  obtain ⟨rfl, rfl⟩ := hw2
  have hP : va_P D vwCl [] H := hP
  have hD : va_D (fun q : Nat => s.heap.size ≤ q) [] := hD
  refine lv_icmp_eq (tgt := 2078) hx hb dL_law_2073 (by decide) (fun _ => ?_) (fun c3 => absurd (by decide) c3)
  exact law_end hC (Nat.le_of_ble_eq_true rfl) (Nat.le_of_ble_eq_true rfl) hS (lv_sub hl [0, 3] rfl)
