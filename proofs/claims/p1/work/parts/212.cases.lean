set_option maxHeartbeats 4000000 in
set_option maxRecDepth 100000 in
theorem law_case_16 {p : Program} {l : Launch} {e : Env} {s : State} {m : MethodId} {below : List Frame} {meth : Method} {c : Code} {D : va_G} {k : Nat → ClassId} {b : Nat} {xs : Nat → Int32} (hC : law_C p s m meth c D k b 7 xs) {hX hM : Nat} {aX aM : Nat → Nat} {H : Heap} {locs : List Loc} {ls : Array Slot} (hP : va_P D vwCl (WX k hX aX ++ WM k hM aM) H) (hD : va_D (fun q : Nat => s.heap.size ≤ q) (WX k hX aX ++ WM k hM aM)) (hS : va_S (fun q : Nat => s.heap.size ≤ q) s.heap H locs) (hl : lv_has ls 4 [(0, .ref b), (1, .ref hX), (2, .ref hM), (3, .int 0)]) : W p l e room_1 s m #[Value.ref b] below meth c H locs 100 106558 (lw_Z below #[Value.ref b] s) (F0 m 948 ls []) := by
  obtain ⟨C0, hr, hlk, hXx, hbl, hK, hN⟩ := id hC
  have hx := C0.1
  have hb := C0.2.1
  have hml := C0.2.2.1
  have hown := C0.2.2.2.1
  have hts := C0.2.2.2.2
  have hA : ∀ q : Nat, s.heap.size ≤ q → (fun q : Nat => s.heap.size ≤ q) q := fun _ h => h
  have hbA : ¬ (fun q : Nat => s.heap.size ≤ q) b := Nat.not_le.mpr hbl
  refine lv_aload_n hx hb dL_law_948 rfl (lv_at hl 1 rfl) ?_
  refine lv_aload_n hx hb dL_law_949 rfl (lv_at hl 0 rfl) ?_
  refine lv_iload_n hx hb dL_law_950 rfl (lv_at hl 3 rfl) ?_
  refine lv_iconst (v := 1) hx hb dL_law_951 (by decide) ?_
  refine lv_iadd hx hb dL_law_952 ?_
  refine lv_toc (v := 1) (by decide) ?_
  refine z_sld hx hb hXx hbl hbA hS 1 (by decide) (by unfold vp_in; decide) dL_law_953 ?_
  refine lv_aload_n hx hb dL_law_954 rfl (lv_at hl 0 rfl) ?_
  refine lv_iload_n hx hb dL_law_955 rfl (lv_at hl 3 rfl) ?_
  refine lv_iconst (v := 2) hx hb dL_law_956 (by decide) ?_
  refine lv_iadd hx hb dL_law_957 ?_
  refine lv_toc (v := 2) (by decide) ?_
  refine z_sld hx hb hXx hbl hbA hS 2 (by decide) (by unfold vp_in; decide) dL_law_958 ?_
  refine lv_aload_n hx hb dL_law_959 rfl (lv_at hl 0 rfl) ?_
  refine lv_iload_n hx hb dL_law_960 rfl (lv_at hl 3 rfl) ?_
  refine lv_iconst (v := 3) hx hb dL_law_961 (by decide) ?_
  refine lv_iadd hx hb dL_law_962 ?_
  refine lv_toc (v := 3) (by decide) ?_
  refine z_sld hx hb hXx hbl hbA hS 3 (by decide) (by unfold vp_in; decide) dL_law_963 ?_
  refine z_bi (wr := [(hM, .inr (12, [.int 0, .int 0, .ref (aM 0), .ref (aM 1), .ref (aM 2), .int 0, .ref (aM 3), .ref (aM 4), .ref (aM 5), .ref (aM 6), .ref (aM 7), .int 0, .int 0, .int 0, .int 0, .long 0, .int (-1), .int 0, .int 0, .ref (aM 8), .int 0, .ref (aM 9), .ref (aM 10), .int 0, .ref (aM 11), .ref (aM 12), .int 0, .int 0, .ref (aM 13), .ref (aM 14), .ref (aM 15), .ref (aM 16), .int 0, .long 0, .long 0, .int 0, .int 0, .int 0, .int 0, .ref (aM 17), .ref (aM 18), .int 0, .int 0, .int 0, .int 0, .ref (aM 19), .ref (aM 20), .int 0, .int 0, .ref (aM 21), .ref (aM 22), .ref (aM 23), .ref (aM 24), .int 0, .int 0, .int 0])), ((aM 0), .inl (k 0, 27101, .inl (fun _ => 0)))]) (z_runV (C := RX11) (As := [.int (xs 1), .int (xs 2), .int (xs 3)]) (rest := []) C0 (c_X11_force_1 l D k hX (aX 57) (aX 0) (aX 33) (aX 50) (aX 51) (aX 65) (aX 58) (aX 59) (aX 60) (aX 61) (aX 62) (aX 63) (aX 64) (aX 1) (aX 14) (aX 20) (aX 36) (aX 40) (aX 34) (aX 35) (xs 1) (xs 2) (xs 3) 0 0 0 0 0 0 0 0 0 0 0 0 _) okV_X11_force kM_L_85 rfl (z_pV (q0 := 0) hK hN hP hD [0, 58, 1, 34] rfl rfl rfl rfl rfl) rfl hl.1 rfl (Nat.le_of_ble_eq_true rfl) dL_law_964 rfl) hP hD hS hA [0, 58, 1, 34] [74, 75] rfl rfl rfl rfl (fun r1 u1 H locs hw1 hP hD hS => ?_)
  obtain ⟨i1, a1⟩ := u1
  dsimp only at hw1
  obtain ⟨rfl, rfl⟩ := hw1
  have hP : va_P D vwCl [(hM, .inr (12, [.int 0, .int 0, .ref (aM 0), .ref (aM 1), .ref (aM 2), .int 0, .ref (aM 3), .ref (aM 4), .ref (aM 5), .ref (aM 6), .ref (aM 7), .int 0, .int 0, .int 0, .int 0, .long 0, .int (-1), .int 0, .int 0, .ref (aM 8), .int 0, .ref (aM 9), .ref (aM 10), .int 0, .ref (aM 11), .ref (aM 12), .int 0, .int 0, .ref (aM 13), .ref (aM 14), .ref (aM 15), .ref (aM 16), .int 0, .long 0, .long 0, .int 0, .int 0, .int 0, .int 0, .ref (aM 17), .ref (aM 18), .int 0, .int 0, .int 0, .int 0, .ref (aM 19), .ref (aM 20), .int 0, .int 0, .ref (aM 21), .ref (aM 22), .ref (aM 23), .ref (aM 24), .int 0, .int 0, .int 0])), ((aM 0), .inl (k 0, 27101, .inl (fun _ => 0)))] H := hP
  have hD : va_D (fun q : Nat => s.heap.size ≤ q) [(hM, .inr (12, [.int 0, .int 0, .ref (aM 0), .ref (aM 1), .ref (aM 2), .int 0, .ref (aM 3), .ref (aM 4), .ref (aM 5), .ref (aM 6), .ref (aM 7), .int 0, .int 0, .int 0, .int 0, .long 0, .int (-1), .int 0, .int 0, .ref (aM 8), .int 0, .ref (aM 9), .ref (aM 10), .int 0, .ref (aM 11), .ref (aM 12), .int 0, .int 0, .ref (aM 13), .ref (aM 14), .ref (aM 15), .ref (aM 16), .int 0, .long 0, .long 0, .int 0, .int 0, .int 0, .int 0, .ref (aM 17), .ref (aM 18), .int 0, .int 0, .int 0, .int 0, .ref (aM 19), .ref (aM 20), .int 0, .int 0, .ref (aM 21), .ref (aM 22), .ref (aM 23), .ref (aM 24), .int 0, .int 0, .int 0])), ((aM 0), .inl (k 0, 27101, .inl (fun _ => 0)))] := hD
  refine lv_aload_n hx hb dL_law_967 rfl (lv_at hl 2 rfl) ?_
  refine lv_aload_n hx hb dL_law_968 rfl (lv_at hl 0 rfl) ?_
  refine lv_iload_n hx hb dL_law_969 rfl (lv_at hl 3 rfl) ?_
  refine lv_iconst (v := 1) hx hb dL_law_970 (by decide) ?_
  refine lv_iadd hx hb dL_law_971 ?_
  refine lv_toc (v := 1) (by decide) ?_
  refine z_sld hx hb hXx hbl hbA hS 1 (by decide) (by unfold vp_in; decide) dL_law_972 ?_
  refine lv_aload_n hx hb dL_law_973 rfl (lv_at hl 0 rfl) ?_
  refine lv_iload_n hx hb dL_law_974 rfl (lv_at hl 3 rfl) ?_
  refine lv_iconst (v := 2) hx hb dL_law_975 (by decide) ?_
  refine lv_iadd hx hb dL_law_976 ?_
  refine lv_toc (v := 2) (by decide) ?_
  refine z_sld hx hb hXx hbl hbA hS 2 (by decide) (by unfold vp_in; decide) dL_law_977 ?_
  refine lv_aload_n hx hb dL_law_978 rfl (lv_at hl 0 rfl) ?_
  refine lv_iload_n hx hb dL_law_979 rfl (lv_at hl 3 rfl) ?_
  refine lv_iconst (v := 3) hx hb dL_law_980 (by decide) ?_
  refine lv_iadd hx hb dL_law_981 ?_
  refine lv_toc (v := 3) (by decide) ?_
  refine z_sld hx hb hXx hbl hbA hS 3 (by decide) (by unfold vp_in; decide) dL_law_982 ?_
  refine z_bi (wr := []) (z_runV (C := RX12) (As := [.int (xs 1), .int (xs 2), .int (xs 3)]) (rest := [.int (-1)]) C0 (c_X12_force_1 l D k hM (aM 0) (aM 1) (aM 2) (aM 3) (aM 4) (aM 5) (aM 6) (aM 7) (aM 8) (aM 9) (aM 10) (aM 11) (aM 12) (aM 13) (aM 14) (aM 15) (aM 16) (aM 17) (aM 18) (aM 19) (aM 20) (aM 21) (aM 22) (aM 23) (aM 24) (xs 1) (xs 2) (xs 3) 0 0 0 0 0 0 0 0 (-1) 0 0 0 0 0 0 0 0 0 0 0 0 0 0 0 0 0 0 0 0 0 0 _) okV_X12_force kM_L_88 rfl (z_pV (q0 := 0) hK hN hP hD [0, 1] rfl rfl rfl rfl rfl) rfl hl.1 rfl (Nat.le_of_ble_eq_true rfl) dL_law_983 rfl) hP hD hS hA [0, 1] [] rfl rfl rfl rfl (fun r2 u2 H locs hw2 hP hD hS => ?_)
  obtain ⟨i2, a2⟩ := u2
  dsimp only at hw2
  obtain ⟨rfl, rfl⟩ := hw2
  have hP : va_P D vwCl [] H := hP
  have hD : va_D (fun q : Nat => s.heap.size ≤ q) [] := hD
  refine lv_icmp_eq (tgt := 2078) hx hb dL_law_986 (by decide) (fun _ => ?_) (fun c3 => absurd (by decide) c3)
  exact law_end hC (Nat.le_of_ble_eq_true rfl) (Nat.le_of_ble_eq_true rfl) hS (lv_sub hl [0, 3] rfl)

set_option maxHeartbeats 4000000 in
set_option maxRecDepth 100000 in
theorem law_case_17 {p : Program} {l : Launch} {e : Env} {s : State} {m : MethodId} {below : List Frame} {meth : Method} {c : Code} {D : va_G} {k : Nat → ClassId} {b : Nat} {xs : Nat → Int32} (hC : law_C p s m meth c D k b 7 xs) {hX hM : Nat} {aX aM : Nat → Nat} {H : Heap} {locs : List Loc} {ls : Array Slot} (hP : va_P D vwCl (WX k hX aX ++ WM k hM aM) H) (hD : va_D (fun q : Nat => s.heap.size ≤ q) (WX k hX aX ++ WM k hM aM)) (hS : va_S (fun q : Nat => s.heap.size ≤ q) s.heap H locs) (hl : lv_has ls 4 [(0, .ref b), (1, .ref hX), (2, .ref hM), (3, .int 0)]) : W p l e room_1 s m #[Value.ref b] below meth c H locs 100 106558 (lw_Z below #[Value.ref b] s) (F0 m 991 ls []) := by
  obtain ⟨C0, hr, hlk, hXx, hbl, hK, hN⟩ := id hC
  have hx := C0.1
  have hb := C0.2.1
  have hml := C0.2.2.1
  have hown := C0.2.2.2.1
  have hts := C0.2.2.2.2
  have hA : ∀ q : Nat, s.heap.size ≤ q → (fun q : Nat => s.heap.size ≤ q) q := fun _ h => h
  have hbA : ¬ (fun q : Nat => s.heap.size ≤ q) b := Nat.not_le.mpr hbl
  refine lv_aload_n hx hb dL_law_991 rfl (lv_at hl 1 rfl) ?_
  refine lv_aload_n hx hb dL_law_992 rfl (lv_at hl 0 rfl) ?_
  refine lv_iload_n hx hb dL_law_993 rfl (lv_at hl 3 rfl) ?_
  refine lv_iconst (v := 1) hx hb dL_law_994 (by decide) ?_
  refine lv_iadd hx hb dL_law_995 ?_
  refine lv_toc (v := 1) (by decide) ?_
  refine z_sld hx hb hXx hbl hbA hS 1 (by decide) (by unfold vp_in; decide) dL_law_996 ?_
  refine lv_aload_n hx hb dL_law_997 rfl (lv_at hl 0 rfl) ?_
  refine lv_iload_n hx hb dL_law_998 rfl (lv_at hl 3 rfl) ?_
  refine lv_iconst (v := 2) hx hb dL_law_999 (by decide) ?_
  refine lv_iadd hx hb dL_law_1000 ?_
  refine lv_toc (v := 2) (by decide) ?_
  refine z_sld hx hb hXx hbl hbA hS 2 (by decide) (by unfold vp_in; decide) dL_law_1001 ?_
  refine lv_aload_n hx hb dL_law_1002 rfl (lv_at hl 0 rfl) ?_
  refine lv_iload_n hx hb dL_law_1003 rfl (lv_at hl 3 rfl) ?_
  refine lv_iconst (v := 3) hx hb dL_law_1004 (by decide) ?_
  refine lv_iadd hx hb dL_law_1005 ?_
  refine lv_toc (v := 3) (by decide) ?_
  refine z_sld hx hb hXx hbl hbA hS 3 (by decide) (by unfold vp_in; decide) dL_law_1006 ?_
  refine lv_aload_n hx hb dL_law_1007 rfl (lv_at hl 0 rfl) ?_
  refine lv_iload_n hx hb dL_law_1008 rfl (lv_at hl 3 rfl) ?_
  refine lv_iconst (v := 4) hx hb dL_law_1009 (by decide) ?_
  refine lv_iadd hx hb dL_law_1010 ?_
  refine lv_toc (v := 4) (by decide) ?_
  refine z_sld hx hb hXx hbl hbA hS 4 (by decide) (by unfold vp_in; decide) dL_law_1011 ?_
  refine lv_aload_n hx hb dL_law_1012 rfl (lv_at hl 0 rfl) ?_
  refine lv_iload_n hx hb dL_law_1013 rfl (lv_at hl 3 rfl) ?_
  refine lv_iconst (v := 5) hx hb dL_law_1014 (by decide) ?_
  refine lv_iadd hx hb dL_law_1015 ?_
  refine lv_toc (v := 5) (by decide) ?_
  refine z_sld hx hb hXx hbl hbA hS 5 (by decide) (by unfold vp_in; decide) dL_law_1016 ?_
  refine z_bi (wr := [(hM, .inr (12, [.int 0, .int 0, .ref (aM 0), .ref (aM 1), .ref (aM 2), .int 0, .ref (aM 3), .ref (aM 4), .ref (aM 5), .ref (aM 6), .ref (aM 7), .int 0, .int 0, .int 0, .int 0, .long 0, .int (-1), .int 0, .int 0, .ref (aM 8), .int 0, .ref (aM 9), .ref (aM 10), .int 0, .ref (aM 11), .ref (aM 12), .int 0, .int 0, .ref (aM 13), .ref (aM 14), .ref (aM 15), .ref (aM 16), .int 0, .long 0, .long 0, .int 0, .int 0, .int 0, .int 0, .ref (aM 17), .ref (aM 18), .int 0, .int 0, .int 0, .int 0, .ref (aM 19), .ref (aM 20), .int 0, .int 0, .ref (aM 21), .ref (aM 22), .ref (aM 23), .ref (aM 24), .int 0, .int 0, .int 0])), ((aM 0), .inl (k 0, 27101, .inl (fun _ => 0)))]) (z_runV (C := RX11) (As := [.int (xs 1), .int (xs 2), .int (xs 3), .int (xs 4), .int (xs 5)]) (rest := []) C0 (c_X11_rate_1 l D k hX (aX 0) (aX 1) (aX 50) (aX 51) (aX 57) (aX 65) (aX 14) (aX 20) (aX 33) (aX 36) (aX 40) (aX 2) (aX 3) (aX 4) (aX 5) (aX 6) (aX 7) (aX 8) (aX 9) (aX 10) (aX 11) (aX 12) (aX 13) (xs 1) (xs 2) (xs 3) (xs 4) (xs 5) 0 0 0 _) okV_X11_rate kM_L_89 rfl (z_pV (q0 := 0) hK hN hP hD [0, 1, 2] rfl rfl rfl rfl rfl) rfl hl.1 rfl (Nat.le_of_ble_eq_true rfl) dL_law_1017 rfl) hP hD hS hA [0, 1, 2] [74, 75] rfl rfl rfl rfl (fun r1 u1 H locs hw1 hP hD hS => ?_)
  obtain ⟨i1, a1⟩ := u1
  dsimp only at hw1
  obtain ⟨rfl, rfl⟩ := hw1
  have hP : va_P D vwCl [(hM, .inr (12, [.int 0, .int 0, .ref (aM 0), .ref (aM 1), .ref (aM 2), .int 0, .ref (aM 3), .ref (aM 4), .ref (aM 5), .ref (aM 6), .ref (aM 7), .int 0, .int 0, .int 0, .int 0, .long 0, .int (-1), .int 0, .int 0, .ref (aM 8), .int 0, .ref (aM 9), .ref (aM 10), .int 0, .ref (aM 11), .ref (aM 12), .int 0, .int 0, .ref (aM 13), .ref (aM 14), .ref (aM 15), .ref (aM 16), .int 0, .long 0, .long 0, .int 0, .int 0, .int 0, .int 0, .ref (aM 17), .ref (aM 18), .int 0, .int 0, .int 0, .int 0, .ref (aM 19), .ref (aM 20), .int 0, .int 0, .ref (aM 21), .ref (aM 22), .ref (aM 23), .ref (aM 24), .int 0, .int 0, .int 0])), ((aM 0), .inl (k 0, 27101, .inl (fun _ => 0)))] H := hP
  have hD : va_D (fun q : Nat => s.heap.size ≤ q) [(hM, .inr (12, [.int 0, .int 0, .ref (aM 0), .ref (aM 1), .ref (aM 2), .int 0, .ref (aM 3), .ref (aM 4), .ref (aM 5), .ref (aM 6), .ref (aM 7), .int 0, .int 0, .int 0, .int 0, .long 0, .int (-1), .int 0, .int 0, .ref (aM 8), .int 0, .ref (aM 9), .ref (aM 10), .int 0, .ref (aM 11), .ref (aM 12), .int 0, .int 0, .ref (aM 13), .ref (aM 14), .ref (aM 15), .ref (aM 16), .int 0, .long 0, .long 0, .int 0, .int 0, .int 0, .int 0, .ref (aM 17), .ref (aM 18), .int 0, .int 0, .int 0, .int 0, .ref (aM 19), .ref (aM 20), .int 0, .int 0, .ref (aM 21), .ref (aM 22), .ref (aM 23), .ref (aM 24), .int 0, .int 0, .int 0])), ((aM 0), .inl (k 0, 27101, .inl (fun _ => 0)))] := hD
  refine lv_aload_n hx hb dL_law_1020 rfl (lv_at hl 2 rfl) ?_
  refine lv_aload_n hx hb dL_law_1021 rfl (lv_at hl 0 rfl) ?_
  refine lv_iload_n hx hb dL_law_1022 rfl (lv_at hl 3 rfl) ?_
  refine lv_iconst (v := 1) hx hb dL_law_1023 (by decide) ?_
  refine lv_iadd hx hb dL_law_1024 ?_
  refine lv_toc (v := 1) (by decide) ?_
  refine z_sld hx hb hXx hbl hbA hS 1 (by decide) (by unfold vp_in; decide) dL_law_1025 ?_
  refine lv_aload_n hx hb dL_law_1026 rfl (lv_at hl 0 rfl) ?_
  refine lv_iload_n hx hb dL_law_1027 rfl (lv_at hl 3 rfl) ?_
  refine lv_iconst (v := 2) hx hb dL_law_1028 (by decide) ?_
  refine lv_iadd hx hb dL_law_1029 ?_
  refine lv_toc (v := 2) (by decide) ?_
  refine z_sld hx hb hXx hbl hbA hS 2 (by decide) (by unfold vp_in; decide) dL_law_1030 ?_
  refine lv_aload_n hx hb dL_law_1031 rfl (lv_at hl 0 rfl) ?_
  refine lv_iload_n hx hb dL_law_1032 rfl (lv_at hl 3 rfl) ?_
  refine lv_iconst (v := 3) hx hb dL_law_1033 (by decide) ?_
  refine lv_iadd hx hb dL_law_1034 ?_
  refine lv_toc (v := 3) (by decide) ?_
  refine z_sld hx hb hXx hbl hbA hS 3 (by decide) (by unfold vp_in; decide) dL_law_1035 ?_
  refine lv_aload_n hx hb dL_law_1036 rfl (lv_at hl 0 rfl) ?_
  refine lv_iload_n hx hb dL_law_1037 rfl (lv_at hl 3 rfl) ?_
  refine lv_iconst (v := 4) hx hb dL_law_1038 (by decide) ?_
  refine lv_iadd hx hb dL_law_1039 ?_
  refine lv_toc (v := 4) (by decide) ?_
  refine z_sld hx hb hXx hbl hbA hS 4 (by decide) (by unfold vp_in; decide) dL_law_1040 ?_
  refine lv_aload_n hx hb dL_law_1041 rfl (lv_at hl 0 rfl) ?_
  refine lv_iload_n hx hb dL_law_1042 rfl (lv_at hl 3 rfl) ?_
  refine lv_iconst (v := 5) hx hb dL_law_1043 (by decide) ?_
  refine lv_iadd hx hb dL_law_1044 ?_
  refine lv_toc (v := 5) (by decide) ?_
  refine z_sld hx hb hXx hbl hbA hS 5 (by decide) (by unfold vp_in; decide) dL_law_1045 ?_
  refine z_bi (wr := []) (z_runV (C := RX12) (As := [.int (xs 1), .int (xs 2), .int (xs 3), .int (xs 4), .int (xs 5)]) (rest := [.int (-1)]) C0 (c_X12_rate_1 l D k hM (aM 0) (aM 1) (aM 2) (aM 3) (aM 4) (aM 5) (aM 6) (aM 7) (aM 8) (aM 9) (aM 10) (aM 11) (aM 12) (aM 13) (aM 14) (aM 15) (aM 16) (aM 17) (aM 18) (aM 19) (aM 20) (aM 21) (aM 22) (aM 23) (aM 24) (xs 1) (xs 2) (xs 3) (xs 4) (xs 5) 0 0 0 0 0 0 0 0 (-1) 0 0 0 0 0 0 0 0 0 0 0 0 0 0 0 0 0 0 0 0 0 0 _) okV_X12_rate kM_L_92 rfl (z_pV (q0 := 0) hK hN hP hD [0, 1] rfl rfl rfl rfl rfl) rfl hl.1 rfl (Nat.le_of_ble_eq_true rfl) dL_law_1046 rfl) hP hD hS hA [0, 1] [] rfl rfl rfl rfl (fun r2 u2 H locs hw2 hP hD hS => ?_)
  obtain ⟨i2, a2⟩ := u2
  dsimp only at hw2
  obtain ⟨rfl, rfl⟩ := hw2
  have hP : va_P D vwCl [] H := hP
  have hD : va_D (fun q : Nat => s.heap.size ≤ q) [] := hD
  refine lv_icmp_eq (tgt := 2078) hx hb dL_law_1049 (by decide) (fun _ => ?_) (fun c3 => absurd (by decide) c3)
  exact law_end hC (Nat.le_of_ble_eq_true rfl) (Nat.le_of_ble_eq_true rfl) hS (lv_sub hl [0, 3] rfl)

set_option maxHeartbeats 4000000 in
set_option maxRecDepth 100000 in
theorem law_case_18 {p : Program} {l : Launch} {e : Env} {s : State} {m : MethodId} {below : List Frame} {meth : Method} {c : Code} {D : va_G} {k : Nat → ClassId} {b : Nat} {xs : Nat → Int32} (hC : law_C p s m meth c D k b 7 xs) {hX hM : Nat} {aX aM : Nat → Nat} {H : Heap} {locs : List Loc} {ls : Array Slot} (hP : va_P D vwCl (WX k hX aX ++ WM k hM aM) H) (hD : va_D (fun q : Nat => s.heap.size ≤ q) (WX k hX aX ++ WM k hM aM)) (hS : va_S (fun q : Nat => s.heap.size ≤ q) s.heap H locs) (hl : lv_has ls 4 [(0, .ref b), (1, .ref hX), (2, .ref hM), (3, .int 0)]) : W p l e room_1 s m #[Value.ref b] below meth c H locs 100 106558 (lw_Z below #[Value.ref b] s) (F0 m 1054 ls []) := by
  obtain ⟨C0, hr, hlk, hXx, hbl, hK, hN⟩ := id hC
  have hx := C0.1
  have hb := C0.2.1
  have hml := C0.2.2.1
  have hown := C0.2.2.2.1
  have hts := C0.2.2.2.2
  have hA : ∀ q : Nat, s.heap.size ≤ q → (fun q : Nat => s.heap.size ≤ q) q := fun _ h => h
  have hbA : ¬ (fun q : Nat => s.heap.size ≤ q) b := Nat.not_le.mpr hbl
  refine lv_aload_n hx hb dL_law_1054 rfl (lv_at hl 1 rfl) ?_
  refine lv_aload_n hx hb dL_law_1055 rfl (lv_at hl 0 rfl) ?_
  refine lv_iload_n hx hb dL_law_1056 rfl (lv_at hl 3 rfl) ?_
  refine lv_iconst (v := 1) hx hb dL_law_1057 (by decide) ?_
  refine lv_iadd hx hb dL_law_1058 ?_
  refine lv_toc (v := 1) (by decide) ?_
  refine z_sld hx hb hXx hbl hbA hS 1 (by decide) (by unfold vp_in; decide) dL_law_1059 ?_
  refine lv_aload_n hx hb dL_law_1060 rfl (lv_at hl 0 rfl) ?_
  refine lv_iload_n hx hb dL_law_1061 rfl (lv_at hl 3 rfl) ?_
  refine lv_iconst (v := 2) hx hb dL_law_1062 (by decide) ?_
  refine lv_iadd hx hb dL_law_1063 ?_
  refine lv_toc (v := 2) (by decide) ?_
  refine z_sld hx hb hXx hbl hbA hS 2 (by decide) (by unfold vp_in; decide) dL_law_1064 ?_
  refine lv_aload_n hx hb dL_law_1065 rfl (lv_at hl 0 rfl) ?_
  refine lv_iload_n hx hb dL_law_1066 rfl (lv_at hl 3 rfl) ?_
  refine lv_iconst (v := 3) hx hb dL_law_1067 (by decide) ?_
  refine lv_iadd hx hb dL_law_1068 ?_
  refine lv_toc (v := 3) (by decide) ?_
  refine z_sld hx hb hXx hbl hbA hS 3 (by decide) (by unfold vp_in; decide) dL_law_1069 ?_
  refine lv_aload_n hx hb dL_law_1070 rfl (lv_at hl 0 rfl) ?_
  refine lv_iload_n hx hb dL_law_1071 rfl (lv_at hl 3 rfl) ?_
  refine lv_iconst (v := 4) hx hb dL_law_1072 (by decide) ?_
  refine lv_iadd hx hb dL_law_1073 ?_
  refine lv_toc (v := 4) (by decide) ?_
  refine z_sld hx hb hXx hbl hbA hS 4 (by decide) (by unfold vp_in; decide) dL_law_1074 ?_
  refine lv_aload_n hx hb dL_law_1075 rfl (lv_at hl 0 rfl) ?_
  refine lv_iload_n hx hb dL_law_1076 rfl (lv_at hl 3 rfl) ?_
  refine lv_iconst (v := 5) hx hb dL_law_1077 (by decide) ?_
  refine lv_iadd hx hb dL_law_1078 ?_
  refine lv_toc (v := 5) (by decide) ?_
  refine z_sld hx hb hXx hbl hbA hS 5 (by decide) (by unfold vp_in; decide) dL_law_1079 ?_
  refine z_bi (wr := [(hM, .inr (12, [.int 0, .int 0, .ref (aM 0), .ref (aM 1), .ref (aM 2), .int 0, .ref (aM 3), .ref (aM 4), .ref (aM 5), .ref (aM 6), .ref (aM 7), .int 0, .int 0, .int 0, .int 0, .long 0, .int (-1), .int 0, .int 0, .ref (aM 8), .int 0, .ref (aM 9), .ref (aM 10), .int 0, .ref (aM 11), .ref (aM 12), .int 0, .int 0, .ref (aM 13), .ref (aM 14), .ref (aM 15), .ref (aM 16), .int 0, .long 0, .long 0, .int 0, .int 0, .int 0, .int 0, .ref (aM 17), .ref (aM 18), .int 0, .int 0, .int 0, .int 0, .ref (aM 19), .ref (aM 20), .int 0, .int 0, .ref (aM 21), .ref (aM 22), .ref (aM 23), .ref (aM 24), .int 0, .int 0, .int 0])), ((aM 0), .inl (k 0, 27101, .inl (fun _ => 0)))]) (z_runV (C := RX11) (As := [.int (xs 1), .int (xs 2), .int (xs 3), .int (xs 4), .int (xs 5)]) (rest := []) C0 (c_X11_dip_1 l D k hX (aX 0) (aX 1) (aX 50) (aX 51) (aX 57) (aX 65) (aX 14) (aX 20) (aX 33) (aX 36) (aX 40) (aX 2) (aX 3) (aX 4) (aX 5) (aX 6) (aX 7) (aX 8) (aX 9) (aX 10) (aX 11) (aX 12) (aX 13) (xs 1) (xs 2) (xs 3) (xs 4) (xs 5) 0 0 0 _) okV_X11_dip kM_L_93 rfl (z_pV (q0 := 0) hK hN hP hD [0, 1, 2] rfl rfl rfl rfl rfl) rfl hl.1 rfl (Nat.le_of_ble_eq_true rfl) dL_law_1080 rfl) hP hD hS hA [0, 1, 2] [74, 75] rfl rfl rfl rfl (fun r1 u1 H locs hw1 hP hD hS => ?_)
  obtain ⟨i1, a1⟩ := u1
  dsimp only at hw1
  obtain ⟨rfl, rfl⟩ := hw1
  have hP : va_P D vwCl [(hM, .inr (12, [.int 0, .int 0, .ref (aM 0), .ref (aM 1), .ref (aM 2), .int 0, .ref (aM 3), .ref (aM 4), .ref (aM 5), .ref (aM 6), .ref (aM 7), .int 0, .int 0, .int 0, .int 0, .long 0, .int (-1), .int 0, .int 0, .ref (aM 8), .int 0, .ref (aM 9), .ref (aM 10), .int 0, .ref (aM 11), .ref (aM 12), .int 0, .int 0, .ref (aM 13), .ref (aM 14), .ref (aM 15), .ref (aM 16), .int 0, .long 0, .long 0, .int 0, .int 0, .int 0, .int 0, .ref (aM 17), .ref (aM 18), .int 0, .int 0, .int 0, .int 0, .ref (aM 19), .ref (aM 20), .int 0, .int 0, .ref (aM 21), .ref (aM 22), .ref (aM 23), .ref (aM 24), .int 0, .int 0, .int 0])), ((aM 0), .inl (k 0, 27101, .inl (fun _ => 0)))] H := hP
  have hD : va_D (fun q : Nat => s.heap.size ≤ q) [(hM, .inr (12, [.int 0, .int 0, .ref (aM 0), .ref (aM 1), .ref (aM 2), .int 0, .ref (aM 3), .ref (aM 4), .ref (aM 5), .ref (aM 6), .ref (aM 7), .int 0, .int 0, .int 0, .int 0, .long 0, .int (-1), .int 0, .int 0, .ref (aM 8), .int 0, .ref (aM 9), .ref (aM 10), .int 0, .ref (aM 11), .ref (aM 12), .int 0, .int 0, .ref (aM 13), .ref (aM 14), .ref (aM 15), .ref (aM 16), .int 0, .long 0, .long 0, .int 0, .int 0, .int 0, .int 0, .ref (aM 17), .ref (aM 18), .int 0, .int 0, .int 0, .int 0, .ref (aM 19), .ref (aM 20), .int 0, .int 0, .ref (aM 21), .ref (aM 22), .ref (aM 23), .ref (aM 24), .int 0, .int 0, .int 0])), ((aM 0), .inl (k 0, 27101, .inl (fun _ => 0)))] := hD
  refine lv_aload_n hx hb dL_law_1083 rfl (lv_at hl 2 rfl) ?_
  refine lv_aload_n hx hb dL_law_1084 rfl (lv_at hl 0 rfl) ?_
  refine lv_iload_n hx hb dL_law_1085 rfl (lv_at hl 3 rfl) ?_
  refine lv_iconst (v := 1) hx hb dL_law_1086 (by decide) ?_
  refine lv_iadd hx hb dL_law_1087 ?_
  refine lv_toc (v := 1) (by decide) ?_
  refine z_sld hx hb hXx hbl hbA hS 1 (by decide) (by unfold vp_in; decide) dL_law_1088 ?_
  refine lv_aload_n hx hb dL_law_1089 rfl (lv_at hl 0 rfl) ?_
  refine lv_iload_n hx hb dL_law_1090 rfl (lv_at hl 3 rfl) ?_
  refine lv_iconst (v := 2) hx hb dL_law_1091 (by decide) ?_
  refine lv_iadd hx hb dL_law_1092 ?_
  refine lv_toc (v := 2) (by decide) ?_
  refine z_sld hx hb hXx hbl hbA hS 2 (by decide) (by unfold vp_in; decide) dL_law_1093 ?_
  refine lv_aload_n hx hb dL_law_1094 rfl (lv_at hl 0 rfl) ?_
  refine lv_iload_n hx hb dL_law_1095 rfl (lv_at hl 3 rfl) ?_
  refine lv_iconst (v := 3) hx hb dL_law_1096 (by decide) ?_
  refine lv_iadd hx hb dL_law_1097 ?_
  refine lv_toc (v := 3) (by decide) ?_
  refine z_sld hx hb hXx hbl hbA hS 3 (by decide) (by unfold vp_in; decide) dL_law_1098 ?_
  refine lv_aload_n hx hb dL_law_1099 rfl (lv_at hl 0 rfl) ?_
  refine lv_iload_n hx hb dL_law_1100 rfl (lv_at hl 3 rfl) ?_
  refine lv_iconst (v := 4) hx hb dL_law_1101 (by decide) ?_
  refine lv_iadd hx hb dL_law_1102 ?_
  refine lv_toc (v := 4) (by decide) ?_
  refine z_sld hx hb hXx hbl hbA hS 4 (by decide) (by unfold vp_in; decide) dL_law_1103 ?_
  refine lv_aload_n hx hb dL_law_1104 rfl (lv_at hl 0 rfl) ?_
  refine lv_iload_n hx hb dL_law_1105 rfl (lv_at hl 3 rfl) ?_
  refine lv_iconst (v := 5) hx hb dL_law_1106 (by decide) ?_
  refine lv_iadd hx hb dL_law_1107 ?_
  refine lv_toc (v := 5) (by decide) ?_
  refine z_sld hx hb hXx hbl hbA hS 5 (by decide) (by unfold vp_in; decide) dL_law_1108 ?_
  refine z_bi (wr := []) (z_runV (C := RX12) (As := [.int (xs 1), .int (xs 2), .int (xs 3), .int (xs 4), .int (xs 5)]) (rest := [.int (-1)]) C0 (c_X12_dip_1 l D k hM (aM 0) (aM 1) (aM 2) (aM 3) (aM 4) (aM 5) (aM 6) (aM 7) (aM 8) (aM 9) (aM 10) (aM 11) (aM 12) (aM 13) (aM 14) (aM 15) (aM 16) (aM 17) (aM 18) (aM 19) (aM 20) (aM 21) (aM 22) (aM 23) (aM 24) (xs 1) (xs 2) (xs 3) (xs 4) (xs 5) 0 0 0 0 0 0 0 0 (-1) 0 0 0 0 0 0 0 0 0 0 0 0 0 0 0 0 0 0 0 0 0 0 _) okV_X12_dip kM_L_96 rfl (z_pV (q0 := 0) hK hN hP hD [0, 1] rfl rfl rfl rfl rfl) rfl hl.1 rfl (Nat.le_of_ble_eq_true rfl) dL_law_1109 rfl) hP hD hS hA [0, 1] [] rfl rfl rfl rfl (fun r2 u2 H locs hw2 hP hD hS => ?_)
  obtain ⟨i2, a2⟩ := u2
  dsimp only at hw2
  obtain ⟨rfl, rfl⟩ := hw2
  have hP : va_P D vwCl [] H := hP
  have hD : va_D (fun q : Nat => s.heap.size ≤ q) [] := hD
  refine lv_icmp_eq (tgt := 2078) hx hb dL_law_1112 (by decide) (fun _ => ?_) (fun c3 => absurd (by decide) c3)
  exact law_end hC (Nat.le_of_ble_eq_true rfl) (Nat.le_of_ble_eq_true rfl) hS (lv_sub hl [0, 3] rfl)

set_option maxHeartbeats 4000000 in
set_option maxRecDepth 100000 in
theorem law_case_19 {p : Program} {l : Launch} {e : Env} {s : State} {m : MethodId} {below : List Frame} {meth : Method} {c : Code} {D : va_G} {k : Nat → ClassId} {b : Nat} {xs : Nat → Int32} (hC : law_C p s m meth c D k b 7 xs) {hX hM : Nat} {aX aM : Nat → Nat} {H : Heap} {locs : List Loc} {ls : Array Slot} (hP : va_P D vwCl (WX k hX aX ++ WM k hM aM) H) (hD : va_D (fun q : Nat => s.heap.size ≤ q) (WX k hX aX ++ WM k hM aM)) (hS : va_S (fun q : Nat => s.heap.size ≤ q) s.heap H locs) (hl : lv_has ls 4 [(0, .ref b), (1, .ref hX), (2, .ref hM), (3, .int 0)]) : W p l e room_1 s m #[Value.ref b] below meth c H locs 100 106558 (lw_Z below #[Value.ref b] s) (F0 m 1117 ls []) := by
  obtain ⟨C0, hr, hlk, hXx, hbl, hK, hN⟩ := id hC
  have hx := C0.1
  have hb := C0.2.1
  have hml := C0.2.2.1
  have hown := C0.2.2.2.1
  have hts := C0.2.2.2.2
  have hA : ∀ q : Nat, s.heap.size ≤ q → (fun q : Nat => s.heap.size ≤ q) q := fun _ h => h
  have hbA : ¬ (fun q : Nat => s.heap.size ≤ q) b := Nat.not_le.mpr hbl
  refine lv_aload_n hx hb dL_law_1117 rfl (lv_at hl 1 rfl) ?_
  refine lv_aload_n hx hb dL_law_1118 rfl (lv_at hl 0 rfl) ?_
  refine lv_iload_n hx hb dL_law_1119 rfl (lv_at hl 3 rfl) ?_
  refine lv_iconst (v := 1) hx hb dL_law_1120 (by decide) ?_
  refine lv_iadd hx hb dL_law_1121 ?_
  refine lv_toc (v := 1) (by decide) ?_
  refine z_sld hx hb hXx hbl hbA hS 1 (by decide) (by unfold vp_in; decide) dL_law_1122 ?_
  refine lv_aload_n hx hb dL_law_1123 rfl (lv_at hl 0 rfl) ?_
  refine lv_iload_n hx hb dL_law_1124 rfl (lv_at hl 3 rfl) ?_
  refine lv_iconst (v := 2) hx hb dL_law_1125 (by decide) ?_
  refine lv_iadd hx hb dL_law_1126 ?_
  refine lv_toc (v := 2) (by decide) ?_
  refine z_sld hx hb hXx hbl hbA hS 2 (by decide) (by unfold vp_in; decide) dL_law_1127 ?_
  refine lv_aload_n hx hb dL_law_1128 rfl (lv_at hl 0 rfl) ?_
  refine lv_iload_n hx hb dL_law_1129 rfl (lv_at hl 3 rfl) ?_
  refine lv_iconst (v := 3) hx hb dL_law_1130 (by decide) ?_
  refine lv_iadd hx hb dL_law_1131 ?_
  refine lv_toc (v := 3) (by decide) ?_
  refine z_sld hx hb hXx hbl hbA hS 3 (by decide) (by unfold vp_in; decide) dL_law_1132 ?_
  refine lv_aload_n hx hb dL_law_1133 rfl (lv_at hl 0 rfl) ?_
  refine lv_iload_n hx hb dL_law_1134 rfl (lv_at hl 3 rfl) ?_
  refine lv_iconst (v := 4) hx hb dL_law_1135 (by decide) ?_
  refine lv_iadd hx hb dL_law_1136 ?_
  refine lv_toc (v := 4) (by decide) ?_
  refine z_sld hx hb hXx hbl hbA hS 4 (by decide) (by unfold vp_in; decide) dL_law_1137 ?_
  refine z_bi (wr := [(hM, .inr (12, [.int 0, .int 0, .ref (aM 0), .ref (aM 1), .ref (aM 2), .int 0, .ref (aM 3), .ref (aM 4), .ref (aM 5), .ref (aM 6), .ref (aM 7), .int 0, .int 0, .int 0, .int 0, .long 0, .int (-1), .int 0, .int 0, .ref (aM 8), .int 0, .ref (aM 9), .ref (aM 10), .int 0, .ref (aM 11), .ref (aM 12), .int 0, .int 0, .ref (aM 13), .ref (aM 14), .ref (aM 15), .ref (aM 16), .int 0, .long 0, .long 0, .int 0, .int 0, .int 0, .int 0, .ref (aM 17), .ref (aM 18), .int 0, .int 0, .int 0, .int 0, .ref (aM 19), .ref (aM 20), .int 0, .int 0, .ref (aM 21), .ref (aM 22), .ref (aM 23), .ref (aM 24), .int 0, .int 0, .int 0])), ((aM 0), .inl (k 0, 27101, .inl (fun _ => 0)))]) (z_runV (C := RX11) (As := [.int (xs 1), .int (xs 2), .int (xs 3), .int (xs 4)]) (rest := []) C0 (c_X11_due_1 l D k hX (aX 0) (aX 1) (aX 50) (aX 51) (aX 57) (aX 65) (aX 14) (aX 20) (aX 33) (aX 36) (aX 40) (aX 2) (aX 3) (aX 4) (aX 5) (aX 6) (aX 7) (aX 8) (aX 9) (aX 10) (aX 11) (aX 12) (aX 13) (xs 1) (xs 2) (xs 3) (xs 4) 0 0 0 _) okV_X11_due kM_L_97 rfl (z_pV (q0 := 0) hK hN hP hD [0, 1, 2] rfl rfl rfl rfl rfl) rfl hl.1 rfl (Nat.le_of_ble_eq_true rfl) dL_law_1138 rfl) hP hD hS hA [0, 1, 2] [74, 75] rfl rfl rfl rfl (fun r1 u1 H locs hw1 hP hD hS => ?_)
  obtain ⟨i1, a1⟩ := u1
  dsimp only at hw1
  obtain ⟨rfl, rfl⟩ := hw1
  have hP : va_P D vwCl [(hM, .inr (12, [.int 0, .int 0, .ref (aM 0), .ref (aM 1), .ref (aM 2), .int 0, .ref (aM 3), .ref (aM 4), .ref (aM 5), .ref (aM 6), .ref (aM 7), .int 0, .int 0, .int 0, .int 0, .long 0, .int (-1), .int 0, .int 0, .ref (aM 8), .int 0, .ref (aM 9), .ref (aM 10), .int 0, .ref (aM 11), .ref (aM 12), .int 0, .int 0, .ref (aM 13), .ref (aM 14), .ref (aM 15), .ref (aM 16), .int 0, .long 0, .long 0, .int 0, .int 0, .int 0, .int 0, .ref (aM 17), .ref (aM 18), .int 0, .int 0, .int 0, .int 0, .ref (aM 19), .ref (aM 20), .int 0, .int 0, .ref (aM 21), .ref (aM 22), .ref (aM 23), .ref (aM 24), .int 0, .int 0, .int 0])), ((aM 0), .inl (k 0, 27101, .inl (fun _ => 0)))] H := hP
  have hD : va_D (fun q : Nat => s.heap.size ≤ q) [(hM, .inr (12, [.int 0, .int 0, .ref (aM 0), .ref (aM 1), .ref (aM 2), .int 0, .ref (aM 3), .ref (aM 4), .ref (aM 5), .ref (aM 6), .ref (aM 7), .int 0, .int 0, .int 0, .int 0, .long 0, .int (-1), .int 0, .int 0, .ref (aM 8), .int 0, .ref (aM 9), .ref (aM 10), .int 0, .ref (aM 11), .ref (aM 12), .int 0, .int 0, .ref (aM 13), .ref (aM 14), .ref (aM 15), .ref (aM 16), .int 0, .long 0, .long 0, .int 0, .int 0, .int 0, .int 0, .ref (aM 17), .ref (aM 18), .int 0, .int 0, .int 0, .int 0, .ref (aM 19), .ref (aM 20), .int 0, .int 0, .ref (aM 21), .ref (aM 22), .ref (aM 23), .ref (aM 24), .int 0, .int 0, .int 0])), ((aM 0), .inl (k 0, 27101, .inl (fun _ => 0)))] := hD
  refine lv_aload_n hx hb dL_law_1141 rfl (lv_at hl 2 rfl) ?_
  refine lv_aload_n hx hb dL_law_1142 rfl (lv_at hl 0 rfl) ?_
  refine lv_iload_n hx hb dL_law_1143 rfl (lv_at hl 3 rfl) ?_
  refine lv_iconst (v := 1) hx hb dL_law_1144 (by decide) ?_
  refine lv_iadd hx hb dL_law_1145 ?_
  refine lv_toc (v := 1) (by decide) ?_
  refine z_sld hx hb hXx hbl hbA hS 1 (by decide) (by unfold vp_in; decide) dL_law_1146 ?_
  refine lv_aload_n hx hb dL_law_1147 rfl (lv_at hl 0 rfl) ?_
  refine lv_iload_n hx hb dL_law_1148 rfl (lv_at hl 3 rfl) ?_
  refine lv_iconst (v := 2) hx hb dL_law_1149 (by decide) ?_
  refine lv_iadd hx hb dL_law_1150 ?_
  refine lv_toc (v := 2) (by decide) ?_
  refine z_sld hx hb hXx hbl hbA hS 2 (by decide) (by unfold vp_in; decide) dL_law_1151 ?_
  refine lv_aload_n hx hb dL_law_1152 rfl (lv_at hl 0 rfl) ?_
  refine lv_iload_n hx hb dL_law_1153 rfl (lv_at hl 3 rfl) ?_
  refine lv_iconst (v := 3) hx hb dL_law_1154 (by decide) ?_
  refine lv_iadd hx hb dL_law_1155 ?_
  refine lv_toc (v := 3) (by decide) ?_
  refine z_sld hx hb hXx hbl hbA hS 3 (by decide) (by unfold vp_in; decide) dL_law_1156 ?_
  refine lv_aload_n hx hb dL_law_1157 rfl (lv_at hl 0 rfl) ?_
  refine lv_iload_n hx hb dL_law_1158 rfl (lv_at hl 3 rfl) ?_
  refine lv_iconst (v := 4) hx hb dL_law_1159 (by decide) ?_
  refine lv_iadd hx hb dL_law_1160 ?_
  refine lv_toc (v := 4) (by decide) ?_
  refine z_sld hx hb hXx hbl hbA hS 4 (by decide) (by unfold vp_in; decide) dL_law_1161 ?_
  refine z_bi (wr := []) (z_runV (C := RX12) (As := [.int (xs 1), .int (xs 2), .int (xs 3), .int (xs 4)]) (rest := [.int (-1)]) C0 (c_X12_due_1 l D k hM (aM 0) (aM 1) (aM 2) (aM 3) (aM 4) (aM 5) (aM 6) (aM 7) (aM 8) (aM 9) (aM 10) (aM 11) (aM 12) (aM 13) (aM 14) (aM 15) (aM 16) (aM 17) (aM 18) (aM 19) (aM 20) (aM 21) (aM 22) (aM 23) (aM 24) (xs 1) (xs 2) (xs 3) (xs 4) 0 0 0 0 0 0 0 0 (-1) 0 0 0 0 0 0 0 0 0 0 0 0 0 0 0 0 0 0 0 0 0 0 _) okV_X12_due kM_L_100 rfl (z_pV (q0 := 0) hK hN hP hD [0, 1] rfl rfl rfl rfl rfl) rfl hl.1 rfl (Nat.le_of_ble_eq_true rfl) dL_law_1162 rfl) hP hD hS hA [0, 1] [] rfl rfl rfl rfl (fun r2 u2 H locs hw2 hP hD hS => ?_)
  obtain ⟨i2, a2⟩ := u2
  dsimp only at hw2
  obtain ⟨rfl, rfl⟩ := hw2
  have hP : va_P D vwCl [] H := hP
  have hD : va_D (fun q : Nat => s.heap.size ≤ q) [] := hD
  refine lv_icmp_eq (tgt := 2078) hx hb dL_law_1165 (by decide) (fun _ => ?_) (fun c3 => absurd (by decide) c3)
  exact law_end hC (Nat.le_of_ble_eq_true rfl) (Nat.le_of_ble_eq_true rfl) hS (lv_sub hl [0, 3] rfl)

set_option maxHeartbeats 4000000 in
set_option maxRecDepth 100000 in
theorem law_case_20 {p : Program} {l : Launch} {e : Env} {s : State} {m : MethodId} {below : List Frame} {meth : Method} {c : Code} {D : va_G} {k : Nat → ClassId} {b : Nat} {xs : Nat → Int32} (hC : law_C p s m meth c D k b 7 xs) {hX hM : Nat} {aX aM : Nat → Nat} {H : Heap} {locs : List Loc} {ls : Array Slot} (hP : va_P D vwCl (WX k hX aX ++ WM k hM aM) H) (hD : va_D (fun q : Nat => s.heap.size ≤ q) (WX k hX aX ++ WM k hM aM)) (hS : va_S (fun q : Nat => s.heap.size ≤ q) s.heap H locs) (hl : lv_has ls 4 [(0, .ref b), (1, .ref hX), (2, .ref hM), (3, .int 0)]) : W p l e room_1 s m #[Value.ref b] below meth c H locs 100 106558 (lw_Z below #[Value.ref b] s) (F0 m 1170 ls []) := by
  obtain ⟨C0, hr, hlk, hXx, hbl, hK, hN⟩ := id hC
  have hx := C0.1
  have hb := C0.2.1
  have hml := C0.2.2.1
  have hown := C0.2.2.2.1
  have hts := C0.2.2.2.2
  have hA : ∀ q : Nat, s.heap.size ≤ q → (fun q : Nat => s.heap.size ≤ q) q := fun _ h => h
  have hbA : ¬ (fun q : Nat => s.heap.size ≤ q) b := Nat.not_le.mpr hbl
  refine lv_aload_n hx hb dL_law_1170 rfl (lv_at hl 1 rfl) ?_
  refine lv_aload_n hx hb dL_law_1171 rfl (lv_at hl 0 rfl) ?_
  refine lv_iload_n hx hb dL_law_1172 rfl (lv_at hl 3 rfl) ?_
  refine lv_iconst (v := 1) hx hb dL_law_1173 (by decide) ?_
  refine lv_iadd hx hb dL_law_1174 ?_
  refine lv_toc (v := 1) (by decide) ?_
  refine z_sld hx hb hXx hbl hbA hS 1 (by decide) (by unfold vp_in; decide) dL_law_1175 ?_
  refine lv_aload_n hx hb dL_law_1176 rfl (lv_at hl 0 rfl) ?_
  refine lv_iload_n hx hb dL_law_1177 rfl (lv_at hl 3 rfl) ?_
  refine lv_iconst (v := 2) hx hb dL_law_1178 (by decide) ?_
  refine lv_iadd hx hb dL_law_1179 ?_
  refine lv_toc (v := 2) (by decide) ?_
  refine z_sld hx hb hXx hbl hbA hS 2 (by decide) (by unfold vp_in; decide) dL_law_1180 ?_
  refine lv_aload_n hx hb dL_law_1181 rfl (lv_at hl 0 rfl) ?_
  refine lv_iload_n hx hb dL_law_1182 rfl (lv_at hl 3 rfl) ?_
  refine lv_iconst (v := 3) hx hb dL_law_1183 (by decide) ?_
  refine lv_iadd hx hb dL_law_1184 ?_
  refine lv_toc (v := 3) (by decide) ?_
  refine z_sld hx hb hXx hbl hbA hS 3 (by decide) (by unfold vp_in; decide) dL_law_1185 ?_
  refine z_bi (wr := [(hM, .inr (12, [.int 0, .int 0, .ref (aM 0), .ref (aM 1), .ref (aM 2), .int 0, .ref (aM 3), .ref (aM 4), .ref (aM 5), .ref (aM 6), .ref (aM 7), .int 0, .int 0, .int 0, .int 0, .long 0, .int (-1), .int 0, .int 0, .ref (aM 8), .int 0, .ref (aM 9), .ref (aM 10), .int 0, .ref (aM 11), .ref (aM 12), .int 0, .int 0, .ref (aM 13), .ref (aM 14), .ref (aM 15), .ref (aM 16), .int 0, .long 0, .long 0, .int 0, .int 0, .int 0, .int 0, .ref (aM 17), .ref (aM 18), .int 0, .int 0, .int 0, .int 0, .ref (aM 19), .ref (aM 20), .int 0, .int 0, .ref (aM 21), .ref (aM 22), .ref (aM 23), .ref (aM 24), .int 0, .int 0, .int 0])), ((aM 0), .inl (k 0, 27101, .inl (fun _ => 0)))]) (z_runV (C := RX11) (As := [.int (xs 1), .int (xs 2), .int (xs 3)]) (rest := []) C0 (c_X11_take_1 l D k hX (aX 0) (aX 1) (aX 50) (aX 51) (aX 57) (aX 65) (aX 14) (aX 20) (aX 33) (aX 36) (aX 40) (aX 2) (aX 3) (aX 4) (aX 5) (aX 6) (aX 7) (aX 8) (aX 9) (aX 10) (aX 11) (aX 12) (aX 13) (xs 1) (xs 2) (xs 3) 0 0 0 _) okV_X11_take kM_L_101 rfl (z_pV (q0 := 0) hK hN hP hD [0, 1, 2] rfl rfl rfl rfl rfl) rfl hl.1 rfl (Nat.le_of_ble_eq_true rfl) dL_law_1186 rfl) hP hD hS hA [0, 1, 2] [74, 75] rfl rfl rfl rfl (fun r1 u1 H locs hw1 hP hD hS => ?_)
  obtain ⟨i1, a1⟩ := u1
  dsimp only at hw1
  rcases hw1 with ⟨rfl, rfl, c1⟩ | ⟨rfl, rfl, c1⟩
  · have hP : va_P D vwCl [(hM, .inr (12, [.int 0, .int 0, .ref (aM 0), .ref (aM 1), .ref (aM 2), .int 0, .ref (aM 3), .ref (aM 4), .ref (aM 5), .ref (aM 6), .ref (aM 7), .int 0, .int 0, .int 0, .int 0, .long 0, .int (-1), .int 0, .int 0, .ref (aM 8), .int 0, .ref (aM 9), .ref (aM 10), .int 0, .ref (aM 11), .ref (aM 12), .int 0, .int 0, .ref (aM 13), .ref (aM 14), .ref (aM 15), .ref (aM 16), .int 0, .long 0, .long 0, .int 0, .int 0, .int 0, .int 0, .ref (aM 17), .ref (aM 18), .int 0, .int 0, .int 0, .int 0, .ref (aM 19), .ref (aM 20), .int 0, .int 0, .ref (aM 21), .ref (aM 22), .ref (aM 23), .ref (aM 24), .int 0, .int 0, .int 0])), ((aM 0), .inl (k 0, 27101, .inl (fun _ => 0)))] H := hP
    have hD : va_D (fun q : Nat => s.heap.size ≤ q) [(hM, .inr (12, [.int 0, .int 0, .ref (aM 0), .ref (aM 1), .ref (aM 2), .int 0, .ref (aM 3), .ref (aM 4), .ref (aM 5), .ref (aM 6), .ref (aM 7), .int 0, .int 0, .int 0, .int 0, .long 0, .int (-1), .int 0, .int 0, .ref (aM 8), .int 0, .ref (aM 9), .ref (aM 10), .int 0, .ref (aM 11), .ref (aM 12), .int 0, .int 0, .ref (aM 13), .ref (aM 14), .ref (aM 15), .ref (aM 16), .int 0, .long 0, .long 0, .int 0, .int 0, .int 0, .int 0, .ref (aM 17), .ref (aM 18), .int 0, .int 0, .int 0, .int 0, .ref (aM 19), .ref (aM 20), .int 0, .int 0, .ref (aM 21), .ref (aM 22), .ref (aM 23), .ref (aM 24), .int 0, .int 0, .int 0])), ((aM 0), .inl (k 0, 27101, .inl (fun _ => 0)))] := hD
    refine lv_aload_n hx hb dL_law_1189 rfl (lv_at hl 2 rfl) ?_
    refine lv_aload_n hx hb dL_law_1190 rfl (lv_at hl 0 rfl) ?_
    refine lv_iload_n hx hb dL_law_1191 rfl (lv_at hl 3 rfl) ?_
    refine lv_iconst (v := 1) hx hb dL_law_1192 (by decide) ?_
    refine lv_iadd hx hb dL_law_1193 ?_
    refine lv_toc (v := 1) (by decide) ?_
    refine z_sld hx hb hXx hbl hbA hS 1 (by decide) (by unfold vp_in; decide) dL_law_1194 ?_
    refine lv_aload_n hx hb dL_law_1195 rfl (lv_at hl 0 rfl) ?_
    refine lv_iload_n hx hb dL_law_1196 rfl (lv_at hl 3 rfl) ?_
    refine lv_iconst (v := 2) hx hb dL_law_1197 (by decide) ?_
    refine lv_iadd hx hb dL_law_1198 ?_
    refine lv_toc (v := 2) (by decide) ?_
    refine z_sld hx hb hXx hbl hbA hS 2 (by decide) (by unfold vp_in; decide) dL_law_1199 ?_
    refine lv_aload_n hx hb dL_law_1200 rfl (lv_at hl 0 rfl) ?_
    refine lv_iload_n hx hb dL_law_1201 rfl (lv_at hl 3 rfl) ?_
    refine lv_iconst (v := 3) hx hb dL_law_1202 (by decide) ?_
    refine lv_iadd hx hb dL_law_1203 ?_
    refine lv_toc (v := 3) (by decide) ?_
    refine z_sld hx hb hXx hbl hbA hS 3 (by decide) (by unfold vp_in; decide) dL_law_1204 ?_
    refine z_bi (wr := []) (z_runV (C := RX12) (As := [.int (xs 1), .int (xs 2), .int (xs 3)]) (rest := [.int (-1)]) C0 (c_X12_take_1 l D k hM (aM 0) (aM 1) (aM 2) (aM 3) (aM 4) (aM 5) (aM 6) (aM 7) (aM 8) (aM 9) (aM 10) (aM 11) (aM 12) (aM 13) (aM 14) (aM 15) (aM 16) (aM 17) (aM 18) (aM 19) (aM 20) (aM 21) (aM 22) (aM 23) (aM 24) (xs 1) (xs 2) (xs 3) 0 0 0 0 0 0 0 0 (-1) 0 0 0 0 0 0 0 0 0 0 0 0 0 0 0 0 0 0 0 0 0 0 _) okV_X12_take kM_L_104 rfl (z_pV (q0 := 0) hK hN hP hD [0, 1] rfl rfl rfl rfl rfl) rfl hl.1 rfl (Nat.le_of_ble_eq_true rfl) dL_law_1205 rfl) hP hD hS hA [0, 1] [] rfl rfl rfl rfl (fun r2 u2 H locs hw2 hP hD hS => ?_)
    obtain ⟨i2, a2⟩ := u2
    dsimp only at hw2
    rcases hw2 with ⟨rfl, rfl, c2⟩ | ⟨rfl, rfl, c2⟩
    · have hP : va_P D vwCl [] H := hP
      have hD : va_D (fun q : Nat => s.heap.size ≤ q) [] := hD
      refine lv_icmp_eq (tgt := 2078) hx hb dL_law_1208 (by decide) (fun _ => ?_) (fun c3 => absurd (by decide) c3)
      exact law_end hC (Nat.le_of_ble_eq_true rfl) (Nat.le_of_ble_eq_true rfl) hS (lv_sub hl [0, 3] rfl)
    · have hP : va_P D vwCl [] H := hP
      have hD : va_D (fun q : Nat => s.heap.size ≤ q) [] := hD
      exact (show False by have bA0 := Int32.le_toInt (xs 2); have bB0 := Int32.toInt_lt (xs 2); have bA1 := Int32.le_toInt (xs 3); have bB1 := Int32.toInt_lt (xs 3); revert c1 c2; simp only [vp_in_iff, Int32.lt_iff_toInt_lt, Int32.le_iff_toInt_le, Int64.lt_iff_toInt_lt, Int64.le_iff_toInt_le, Int32.toInt_toInt64, ← Int32.toInt_inj, ← Int64.toInt_inj, Int32.reduceToInt, Int64.reduceToInt] <;> omega).elim
  · have hP : va_P D vwCl [(hM, .inr (12, [.int 0, .int 0, .ref (aM 0), .ref (aM 1), .ref (aM 2), .int 0, .ref (aM 3), .ref (aM 4), .ref (aM 5), .ref (aM 6), .ref (aM 7), .int 0, .int 0, .int 0, .int 0, .long 0, .int (-1), .int 0, .int 0, .ref (aM 8), .int 0, .ref (aM 9), .ref (aM 10), .int 0, .ref (aM 11), .ref (aM 12), .int 0, .int 0, .ref (aM 13), .ref (aM 14), .ref (aM 15), .ref (aM 16), .int 0, .long 0, .long 0, .int 0, .int 0, .int 0, .int 0, .ref (aM 17), .ref (aM 18), .int 0, .int 0, .int 0, .int 0, .ref (aM 19), .ref (aM 20), .int 0, .int 0, .ref (aM 21), .ref (aM 22), .ref (aM 23), .ref (aM 24), .int 0, .int 0, .int 0])), ((aM 0), .inl (k 0, 27101, .inl (fun _ => 0)))] H := hP
    have hD : va_D (fun q : Nat => s.heap.size ≤ q) [(hM, .inr (12, [.int 0, .int 0, .ref (aM 0), .ref (aM 1), .ref (aM 2), .int 0, .ref (aM 3), .ref (aM 4), .ref (aM 5), .ref (aM 6), .ref (aM 7), .int 0, .int 0, .int 0, .int 0, .long 0, .int (-1), .int 0, .int 0, .ref (aM 8), .int 0, .ref (aM 9), .ref (aM 10), .int 0, .ref (aM 11), .ref (aM 12), .int 0, .int 0, .ref (aM 13), .ref (aM 14), .ref (aM 15), .ref (aM 16), .int 0, .long 0, .long 0, .int 0, .int 0, .int 0, .int 0, .ref (aM 17), .ref (aM 18), .int 0, .int 0, .int 0, .int 0, .ref (aM 19), .ref (aM 20), .int 0, .int 0, .ref (aM 21), .ref (aM 22), .ref (aM 23), .ref (aM 24), .int 0, .int 0, .int 0])), ((aM 0), .inl (k 0, 27101, .inl (fun _ => 0)))] := hD
    refine lv_aload_n hx hb dL_law_1189 rfl (lv_at hl 2 rfl) ?_
    refine lv_aload_n hx hb dL_law_1190 rfl (lv_at hl 0 rfl) ?_
    refine lv_iload_n hx hb dL_law_1191 rfl (lv_at hl 3 rfl) ?_
    refine lv_iconst (v := 1) hx hb dL_law_1192 (by decide) ?_
    refine lv_iadd hx hb dL_law_1193 ?_
    refine lv_toc (v := 1) (by decide) ?_
    refine z_sld hx hb hXx hbl hbA hS 1 (by decide) (by unfold vp_in; decide) dL_law_1194 ?_
    refine lv_aload_n hx hb dL_law_1195 rfl (lv_at hl 0 rfl) ?_
    refine lv_iload_n hx hb dL_law_1196 rfl (lv_at hl 3 rfl) ?_
    refine lv_iconst (v := 2) hx hb dL_law_1197 (by decide) ?_
    refine lv_iadd hx hb dL_law_1198 ?_
    refine lv_toc (v := 2) (by decide) ?_
    refine z_sld hx hb hXx hbl hbA hS 2 (by decide) (by unfold vp_in; decide) dL_law_1199 ?_
    refine lv_aload_n hx hb dL_law_1200 rfl (lv_at hl 0 rfl) ?_
    refine lv_iload_n hx hb dL_law_1201 rfl (lv_at hl 3 rfl) ?_
    refine lv_iconst (v := 3) hx hb dL_law_1202 (by decide) ?_
    refine lv_iadd hx hb dL_law_1203 ?_
    refine lv_toc (v := 3) (by decide) ?_
    refine z_sld hx hb hXx hbl hbA hS 3 (by decide) (by unfold vp_in; decide) dL_law_1204 ?_
    refine z_bi (wr := []) (z_runV (C := RX12) (As := [.int (xs 1), .int (xs 2), .int (xs 3)]) (rest := [.int (-2)]) C0 (c_X12_take_1 l D k hM (aM 0) (aM 1) (aM 2) (aM 3) (aM 4) (aM 5) (aM 6) (aM 7) (aM 8) (aM 9) (aM 10) (aM 11) (aM 12) (aM 13) (aM 14) (aM 15) (aM 16) (aM 17) (aM 18) (aM 19) (aM 20) (aM 21) (aM 22) (aM 23) (aM 24) (xs 1) (xs 2) (xs 3) 0 0 0 0 0 0 0 0 (-1) 0 0 0 0 0 0 0 0 0 0 0 0 0 0 0 0 0 0 0 0 0 0 _) okV_X12_take kM_L_104 rfl (z_pV (q0 := 0) hK hN hP hD [0, 1] rfl rfl rfl rfl rfl) rfl hl.1 rfl (Nat.le_of_ble_eq_true rfl) dL_law_1205 rfl) hP hD hS hA [0, 1] [] rfl rfl rfl rfl (fun r4 u4 H locs hw4 hP hD hS => ?_)
    obtain ⟨i4, a4⟩ := u4
    dsimp only at hw4
    rcases hw4 with ⟨rfl, rfl, c4⟩ | ⟨rfl, rfl, c4⟩
    · have hP : va_P D vwCl [] H := hP
      have hD : va_D (fun q : Nat => s.heap.size ≤ q) [] := hD
      exact (show False by have bA0 := Int32.le_toInt (xs 2); have bB0 := Int32.toInt_lt (xs 2); have bA1 := Int32.le_toInt (xs 3); have bB1 := Int32.toInt_lt (xs 3); revert c1 c4; simp only [vp_in_iff, Int32.lt_iff_toInt_lt, Int32.le_iff_toInt_le, Int64.lt_iff_toInt_lt, Int64.le_iff_toInt_le, Int32.toInt_toInt64, ← Int32.toInt_inj, ← Int64.toInt_inj, Int32.reduceToInt, Int64.reduceToInt] <;> omega).elim
    · have hP : va_P D vwCl [] H := hP
      have hD : va_D (fun q : Nat => s.heap.size ≤ q) [] := hD
      refine lv_icmp_eq (tgt := 2078) hx hb dL_law_1208 (by decide) (fun _ => ?_) (fun c5 => absurd (by decide) c5)
      exact law_end hC (Nat.le_of_ble_eq_true rfl) (Nat.le_of_ble_eq_true rfl) hS (lv_sub hl [0, 3] rfl)

set_option maxHeartbeats 4000000 in
set_option maxRecDepth 100000 in
theorem law_case_21 {p : Program} {l : Launch} {e : Env} {s : State} {m : MethodId} {below : List Frame} {meth : Method} {c : Code} {D : va_G} {k : Nat → ClassId} {b : Nat} {xs : Nat → Int32} (hC : law_C p s m meth c D k b 7 xs) {hX hM : Nat} {aX aM : Nat → Nat} {H : Heap} {locs : List Loc} {ls : Array Slot} (hP : va_P D vwCl (WX k hX aX ++ WM k hM aM) H) (hD : va_D (fun q : Nat => s.heap.size ≤ q) (WX k hX aX ++ WM k hM aM)) (hS : va_S (fun q : Nat => s.heap.size ≤ q) s.heap H locs) (hl : lv_has ls 4 [(0, .ref b), (1, .ref hX), (2, .ref hM), (3, .int 0)]) : W p l e room_1 s m #[Value.ref b] below meth c H locs 100 106558 (lw_Z below #[Value.ref b] s) (F0 m 1213 ls []) := by
  obtain ⟨C0, hr, hlk, hXx, hbl, hK, hN⟩ := id hC
  have hx := C0.1
  have hb := C0.2.1
  have hml := C0.2.2.1
  have hown := C0.2.2.2.1
  have hts := C0.2.2.2.2
  have hA : ∀ q : Nat, s.heap.size ≤ q → (fun q : Nat => s.heap.size ≤ q) q := fun _ h => h
  have hbA : ¬ (fun q : Nat => s.heap.size ≤ q) b := Nat.not_le.mpr hbl
  refine lv_aload_n hx hb dL_law_1213 rfl (lv_at hl 1 rfl) ?_
  refine lv_aload_n hx hb dL_law_1214 rfl (lv_at hl 0 rfl) ?_
  refine lv_iload_n hx hb dL_law_1215 rfl (lv_at hl 3 rfl) ?_
  refine lv_iconst (v := 1) hx hb dL_law_1216 (by decide) ?_
  refine lv_iadd hx hb dL_law_1217 ?_
  refine lv_toc (v := 1) (by decide) ?_
  refine z_sld hx hb hXx hbl hbA hS 1 (by decide) (by unfold vp_in; decide) dL_law_1218 ?_
  refine lv_aload_n hx hb dL_law_1219 rfl (lv_at hl 0 rfl) ?_
  refine lv_iload_n hx hb dL_law_1220 rfl (lv_at hl 3 rfl) ?_
  refine lv_iconst (v := 2) hx hb dL_law_1221 (by decide) ?_
  refine lv_iadd hx hb dL_law_1222 ?_
  refine lv_toc (v := 2) (by decide) ?_
  refine z_sld hx hb hXx hbl hbA hS 2 (by decide) (by unfold vp_in; decide) dL_law_1223 ?_
  refine lv_aload_n hx hb dL_law_1224 rfl (lv_at hl 0 rfl) ?_
  refine lv_iload_n hx hb dL_law_1225 rfl (lv_at hl 3 rfl) ?_
  refine lv_iconst (v := 3) hx hb dL_law_1226 (by decide) ?_
  refine lv_iadd hx hb dL_law_1227 ?_
  refine lv_toc (v := 3) (by decide) ?_
  refine z_sld hx hb hXx hbl hbA hS 3 (by decide) (by unfold vp_in; decide) dL_law_1228 ?_
  refine z_bi (wr := [(hM, .inr (12, [.int 0, .int 0, .ref (aM 0), .ref (aM 1), .ref (aM 2), .int 0, .ref (aM 3), .ref (aM 4), .ref (aM 5), .ref (aM 6), .ref (aM 7), .int 0, .int 0, .int 0, .int 0, .long 0, .int (-1), .int 0, .int 0, .ref (aM 8), .int 0, .ref (aM 9), .ref (aM 10), .int 0, .ref (aM 11), .ref (aM 12), .int 0, .int 0, .ref (aM 13), .ref (aM 14), .ref (aM 15), .ref (aM 16), .int 0, .long 0, .long 0, .int 0, .int 0, .int 0, .int 0, .ref (aM 17), .ref (aM 18), .int 0, .int 0, .int 0, .int 0, .ref (aM 19), .ref (aM 20), .int 0, .int 0, .ref (aM 21), .ref (aM 22), .ref (aM 23), .ref (aM 24), .int 0, .int 0, .int 0])), ((aM 0), .inl (k 0, 27101, .inl (fun _ => 0)))]) (z_runV (C := RX11) (As := [.int (xs 1), .int (xs 2), .int (xs 3)]) (rest := []) C0 (c_X11_stands_1 l D k hX (aX 0) (aX 1) (aX 50) (aX 51) (aX 57) (aX 65) (aX 14) (aX 20) (aX 33) (aX 36) (aX 40) (aX 2) (aX 3) (aX 4) (aX 5) (aX 6) (aX 7) (aX 8) (aX 9) (aX 10) (aX 11) (aX 12) (aX 13) (xs 1) (xs 2) (xs 3) 0 0 0 _) okV_X11_stands kM_L_105 rfl (z_pV (q0 := 0) hK hN hP hD [0, 1, 2] rfl rfl rfl rfl rfl) rfl hl.1 rfl (Nat.le_of_ble_eq_true rfl) dL_law_1229 rfl) hP hD hS hA [0, 1, 2] [74, 75] rfl rfl rfl rfl (fun r1 u1 H locs hw1 hP hD hS => ?_)
  obtain ⟨i1, a1⟩ := u1
  dsimp only at hw1
  obtain ⟨rfl, rfl⟩ := hw1
  have hP : va_P D vwCl [(hM, .inr (12, [.int 0, .int 0, .ref (aM 0), .ref (aM 1), .ref (aM 2), .int 0, .ref (aM 3), .ref (aM 4), .ref (aM 5), .ref (aM 6), .ref (aM 7), .int 0, .int 0, .int 0, .int 0, .long 0, .int (-1), .int 0, .int 0, .ref (aM 8), .int 0, .ref (aM 9), .ref (aM 10), .int 0, .ref (aM 11), .ref (aM 12), .int 0, .int 0, .ref (aM 13), .ref (aM 14), .ref (aM 15), .ref (aM 16), .int 0, .long 0, .long 0, .int 0, .int 0, .int 0, .int 0, .ref (aM 17), .ref (aM 18), .int 0, .int 0, .int 0, .int 0, .ref (aM 19), .ref (aM 20), .int 0, .int 0, .ref (aM 21), .ref (aM 22), .ref (aM 23), .ref (aM 24), .int 0, .int 0, .int 0])), ((aM 0), .inl (k 0, 27101, .inl (fun _ => 0)))] H := hP
  have hD : va_D (fun q : Nat => s.heap.size ≤ q) [(hM, .inr (12, [.int 0, .int 0, .ref (aM 0), .ref (aM 1), .ref (aM 2), .int 0, .ref (aM 3), .ref (aM 4), .ref (aM 5), .ref (aM 6), .ref (aM 7), .int 0, .int 0, .int 0, .int 0, .long 0, .int (-1), .int 0, .int 0, .ref (aM 8), .int 0, .ref (aM 9), .ref (aM 10), .int 0, .ref (aM 11), .ref (aM 12), .int 0, .int 0, .ref (aM 13), .ref (aM 14), .ref (aM 15), .ref (aM 16), .int 0, .long 0, .long 0, .int 0, .int 0, .int 0, .int 0, .ref (aM 17), .ref (aM 18), .int 0, .int 0, .int 0, .int 0, .ref (aM 19), .ref (aM 20), .int 0, .int 0, .ref (aM 21), .ref (aM 22), .ref (aM 23), .ref (aM 24), .int 0, .int 0, .int 0])), ((aM 0), .inl (k 0, 27101, .inl (fun _ => 0)))] := hD
  refine lv_aload_n hx hb dL_law_1232 rfl (lv_at hl 2 rfl) ?_
  refine lv_aload_n hx hb dL_law_1233 rfl (lv_at hl 0 rfl) ?_
  refine lv_iload_n hx hb dL_law_1234 rfl (lv_at hl 3 rfl) ?_
  refine lv_iconst (v := 1) hx hb dL_law_1235 (by decide) ?_
  refine lv_iadd hx hb dL_law_1236 ?_
  refine lv_toc (v := 1) (by decide) ?_
  refine z_sld hx hb hXx hbl hbA hS 1 (by decide) (by unfold vp_in; decide) dL_law_1237 ?_
  refine lv_aload_n hx hb dL_law_1238 rfl (lv_at hl 0 rfl) ?_
  refine lv_iload_n hx hb dL_law_1239 rfl (lv_at hl 3 rfl) ?_
  refine lv_iconst (v := 2) hx hb dL_law_1240 (by decide) ?_
  refine lv_iadd hx hb dL_law_1241 ?_
  refine lv_toc (v := 2) (by decide) ?_
  refine z_sld hx hb hXx hbl hbA hS 2 (by decide) (by unfold vp_in; decide) dL_law_1242 ?_
  refine lv_aload_n hx hb dL_law_1243 rfl (lv_at hl 0 rfl) ?_
  refine lv_iload_n hx hb dL_law_1244 rfl (lv_at hl 3 rfl) ?_
  refine lv_iconst (v := 3) hx hb dL_law_1245 (by decide) ?_
  refine lv_iadd hx hb dL_law_1246 ?_
  refine lv_toc (v := 3) (by decide) ?_
  refine z_sld hx hb hXx hbl hbA hS 3 (by decide) (by unfold vp_in; decide) dL_law_1247 ?_
  refine z_bi (wr := []) (z_runV (C := RX12) (As := [.int (xs 1), .int (xs 2), .int (xs 3)]) (rest := [.int (-1)]) C0 (c_X12_stands_1 l D k hM (aM 0) (aM 1) (aM 2) (aM 3) (aM 4) (aM 5) (aM 6) (aM 7) (aM 8) (aM 9) (aM 10) (aM 11) (aM 12) (aM 13) (aM 14) (aM 15) (aM 16) (aM 17) (aM 18) (aM 19) (aM 20) (aM 21) (aM 22) (aM 23) (aM 24) (xs 1) (xs 2) (xs 3) 0 0 0 0 0 0 0 0 (-1) 0 0 0 0 0 0 0 0 0 0 0 0 0 0 0 0 0 0 0 0 0 0 _) okV_X12_stands kM_L_108 rfl (z_pV (q0 := 0) hK hN hP hD [0, 1] rfl rfl rfl rfl rfl) rfl hl.1 rfl (Nat.le_of_ble_eq_true rfl) dL_law_1248 rfl) hP hD hS hA [0, 1] [] rfl rfl rfl rfl (fun r2 u2 H locs hw2 hP hD hS => ?_)
  obtain ⟨i2, a2⟩ := u2
  dsimp only at hw2
  obtain ⟨rfl, rfl⟩ := hw2
  have hP : va_P D vwCl [] H := hP
  have hD : va_D (fun q : Nat => s.heap.size ≤ q) [] := hD
  refine lv_icmp_eq (tgt := 2078) hx hb dL_law_1251 (by decide) (fun _ => ?_) (fun c3 => absurd (by decide) c3)
  exact law_end hC (Nat.le_of_ble_eq_true rfl) (Nat.le_of_ble_eq_true rfl) hS (lv_sub hl [0, 3] rfl)

set_option maxHeartbeats 4000000 in
set_option maxRecDepth 100000 in
theorem law_case_22 {p : Program} {l : Launch} {e : Env} {s : State} {m : MethodId} {below : List Frame} {meth : Method} {c : Code} {D : va_G} {k : Nat → ClassId} {b : Nat} {xs : Nat → Int32} (hC : law_C p s m meth c D k b 7 xs) {hX hM : Nat} {aX aM : Nat → Nat} {H : Heap} {locs : List Loc} {ls : Array Slot} (hP : va_P D vwCl (WX k hX aX ++ WM k hM aM) H) (hD : va_D (fun q : Nat => s.heap.size ≤ q) (WX k hX aX ++ WM k hM aM)) (hS : va_S (fun q : Nat => s.heap.size ≤ q) s.heap H locs) (hl : lv_has ls 4 [(0, .ref b), (1, .ref hX), (2, .ref hM), (3, .int 0)]) : W p l e room_1 s m #[Value.ref b] below meth c H locs 100 106558 (lw_Z below #[Value.ref b] s) (F0 m 1256 ls []) := by
  obtain ⟨C0, hr, hlk, hXx, hbl, hK, hN⟩ := id hC
  have hx := C0.1
  have hb := C0.2.1
  have hml := C0.2.2.1
  have hown := C0.2.2.2.1
  have hts := C0.2.2.2.2
  have hA : ∀ q : Nat, s.heap.size ≤ q → (fun q : Nat => s.heap.size ≤ q) q := fun _ h => h
  have hbA : ¬ (fun q : Nat => s.heap.size ≤ q) b := Nat.not_le.mpr hbl
  refine lv_aload_n hx hb dL_law_1256 rfl (lv_at hl 1 rfl) ?_
  refine lv_aload_n hx hb dL_law_1257 rfl (lv_at hl 0 rfl) ?_
  refine lv_iload_n hx hb dL_law_1258 rfl (lv_at hl 3 rfl) ?_
  refine lv_iconst (v := 1) hx hb dL_law_1259 (by decide) ?_
  refine lv_iadd hx hb dL_law_1260 ?_
  refine lv_toc (v := 1) (by decide) ?_
  refine z_sld hx hb hXx hbl hbA hS 1 (by decide) (by unfold vp_in; decide) dL_law_1261 ?_
  refine lv_aload_n hx hb dL_law_1262 rfl (lv_at hl 0 rfl) ?_
  refine lv_iload_n hx hb dL_law_1263 rfl (lv_at hl 3 rfl) ?_
  refine lv_iconst (v := 2) hx hb dL_law_1264 (by decide) ?_
  refine lv_iadd hx hb dL_law_1265 ?_
  refine lv_toc (v := 2) (by decide) ?_
  refine z_sld hx hb hXx hbl hbA hS 2 (by decide) (by unfold vp_in; decide) dL_law_1266 ?_
  refine lv_aload_n hx hb dL_law_1267 rfl (lv_at hl 0 rfl) ?_
  refine lv_iload_n hx hb dL_law_1268 rfl (lv_at hl 3 rfl) ?_
  refine lv_iconst (v := 3) hx hb dL_law_1269 (by decide) ?_
  refine lv_iadd hx hb dL_law_1270 ?_
  refine lv_toc (v := 3) (by decide) ?_
  refine z_sld hx hb hXx hbl hbA hS 3 (by decide) (by unfold vp_in; decide) dL_law_1271 ?_
  refine z_bi (wr := [(hM, .inr (12, [.int 0, .int 0, .ref (aM 0), .ref (aM 1), .ref (aM 2), .int 0, .ref (aM 3), .ref (aM 4), .ref (aM 5), .ref (aM 6), .ref (aM 7), .int 0, .int 0, .int 0, .int 0, .long 0, .int (-1), .int 0, .int 0, .ref (aM 8), .int 0, .ref (aM 9), .ref (aM 10), .int 0, .ref (aM 11), .ref (aM 12), .int 0, .int 0, .ref (aM 13), .ref (aM 14), .ref (aM 15), .ref (aM 16), .int 0, .long 0, .long 0, .int 0, .int 0, .int 0, .int 0, .ref (aM 17), .ref (aM 18), .int 0, .int 0, .int 0, .int 0, .ref (aM 19), .ref (aM 20), .int 0, .int 0, .ref (aM 21), .ref (aM 22), .ref (aM 23), .ref (aM 24), .int 0, .int 0, .int 0])), ((aM 0), .inl (k 0, 27101, .inl (fun _ => 0)))]) (z_runV (C := RX11) (As := [.int (xs 1), .int (xs 2), .int (xs 3)]) (rest := []) C0 (c_X11_pay_1 l D k hX (aX 0) (aX 1) (aX 50) (aX 51) (aX 57) (aX 65) (aX 14) (aX 20) (aX 33) (aX 36) (aX 40) (aX 2) (aX 3) (aX 4) (aX 5) (aX 6) (aX 7) (aX 8) (aX 9) (aX 10) (aX 11) (aX 12) (aX 13) (xs 1) (xs 2) (xs 3) 0 0 0 _) okV_X11_pay kM_L_109 rfl (z_pV (q0 := 0) hK hN hP hD [0, 1, 2] rfl rfl rfl rfl rfl) rfl hl.1 rfl (Nat.le_of_ble_eq_true rfl) dL_law_1272 rfl) hP hD hS hA [0, 1, 2] [74, 75] rfl rfl rfl rfl (fun r1 u1 H locs hw1 hP hD hS => ?_)
  obtain ⟨i1, a1⟩ := u1
  dsimp only at hw1
  rcases hw1 with ⟨rfl, rfl, c1⟩ | ⟨rfl, rfl, c1⟩
  · have hP : va_P D vwCl [(hM, .inr (12, [.int 0, .int 0, .ref (aM 0), .ref (aM 1), .ref (aM 2), .int 0, .ref (aM 3), .ref (aM 4), .ref (aM 5), .ref (aM 6), .ref (aM 7), .int 0, .int 0, .int 0, .int 0, .long 0, .int (-1), .int 0, .int 0, .ref (aM 8), .int 0, .ref (aM 9), .ref (aM 10), .int 0, .ref (aM 11), .ref (aM 12), .int 0, .int 0, .ref (aM 13), .ref (aM 14), .ref (aM 15), .ref (aM 16), .int 0, .long 0, .long 0, .int 0, .int 0, .int 0, .int 0, .ref (aM 17), .ref (aM 18), .int 0, .int 0, .int 0, .int 0, .ref (aM 19), .ref (aM 20), .int 0, .int 0, .ref (aM 21), .ref (aM 22), .ref (aM 23), .ref (aM 24), .int 0, .int 0, .int 0])), ((aM 0), .inl (k 0, 27101, .inl (fun _ => 0)))] H := hP
    have hD : va_D (fun q : Nat => s.heap.size ≤ q) [(hM, .inr (12, [.int 0, .int 0, .ref (aM 0), .ref (aM 1), .ref (aM 2), .int 0, .ref (aM 3), .ref (aM 4), .ref (aM 5), .ref (aM 6), .ref (aM 7), .int 0, .int 0, .int 0, .int 0, .long 0, .int (-1), .int 0, .int 0, .ref (aM 8), .int 0, .ref (aM 9), .ref (aM 10), .int 0, .ref (aM 11), .ref (aM 12), .int 0, .int 0, .ref (aM 13), .ref (aM 14), .ref (aM 15), .ref (aM 16), .int 0, .long 0, .long 0, .int 0, .int 0, .int 0, .int 0, .ref (aM 17), .ref (aM 18), .int 0, .int 0, .int 0, .int 0, .ref (aM 19), .ref (aM 20), .int 0, .int 0, .ref (aM 21), .ref (aM 22), .ref (aM 23), .ref (aM 24), .int 0, .int 0, .int 0])), ((aM 0), .inl (k 0, 27101, .inl (fun _ => 0)))] := hD
    refine lv_aload_n hx hb dL_law_1275 rfl (lv_at hl 2 rfl) ?_
    refine lv_aload_n hx hb dL_law_1276 rfl (lv_at hl 0 rfl) ?_
    refine lv_iload_n hx hb dL_law_1277 rfl (lv_at hl 3 rfl) ?_
    refine lv_iconst (v := 1) hx hb dL_law_1278 (by decide) ?_
    refine lv_iadd hx hb dL_law_1279 ?_
    refine lv_toc (v := 1) (by decide) ?_
    refine z_sld hx hb hXx hbl hbA hS 1 (by decide) (by unfold vp_in; decide) dL_law_1280 ?_
    refine lv_aload_n hx hb dL_law_1281 rfl (lv_at hl 0 rfl) ?_
    refine lv_iload_n hx hb dL_law_1282 rfl (lv_at hl 3 rfl) ?_
    refine lv_iconst (v := 2) hx hb dL_law_1283 (by decide) ?_
    refine lv_iadd hx hb dL_law_1284 ?_
    refine lv_toc (v := 2) (by decide) ?_
    refine z_sld hx hb hXx hbl hbA hS 2 (by decide) (by unfold vp_in; decide) dL_law_1285 ?_
    refine lv_aload_n hx hb dL_law_1286 rfl (lv_at hl 0 rfl) ?_
    refine lv_iload_n hx hb dL_law_1287 rfl (lv_at hl 3 rfl) ?_
    refine lv_iconst (v := 3) hx hb dL_law_1288 (by decide) ?_
    refine lv_iadd hx hb dL_law_1289 ?_
    refine lv_toc (v := 3) (by decide) ?_
    refine z_sld hx hb hXx hbl hbA hS 3 (by decide) (by unfold vp_in; decide) dL_law_1290 ?_
    refine z_bi (wr := []) (z_runV (C := RX12) (As := [.int (xs 1), .int (xs 2), .int (xs 3)]) (rest := [.int (-1)]) C0 (c_X12_pay_1 l D k hM (aM 0) (aM 1) (aM 2) (aM 3) (aM 4) (aM 5) (aM 6) (aM 7) (aM 8) (aM 9) (aM 10) (aM 11) (aM 12) (aM 13) (aM 14) (aM 15) (aM 16) (aM 17) (aM 18) (aM 19) (aM 20) (aM 21) (aM 22) (aM 23) (aM 24) (xs 1) (xs 2) (xs 3) 0 0 0 0 0 0 0 0 (-1) 0 0 0 0 0 0 0 0 0 0 0 0 0 0 0 0 0 0 0 0 0 0 _) okV_X12_pay kM_L_112 rfl (z_pV (q0 := 0) hK hN hP hD [0, 1] rfl rfl rfl rfl rfl) rfl hl.1 rfl (Nat.le_of_ble_eq_true rfl) dL_law_1291 rfl) hP hD hS hA [0, 1] [] rfl rfl rfl rfl (fun r2 u2 H locs hw2 hP hD hS => ?_)
    obtain ⟨i2, a2⟩ := u2
    dsimp only at hw2
    rcases hw2 with ⟨rfl, rfl, c2⟩ | ⟨rfl, rfl, c2⟩
    · have hP : va_P D vwCl [] H := hP
      have hD : va_D (fun q : Nat => s.heap.size ≤ q) [] := hD
      refine lv_icmp_eq (tgt := 2078) hx hb dL_law_1294 (by decide) (fun _ => ?_) (fun c3 => absurd (by decide) c3)
      exact law_end hC (Nat.le_of_ble_eq_true rfl) (Nat.le_of_ble_eq_true rfl) hS (lv_sub hl [0, 3] rfl)
    · have hP : va_P D vwCl [] H := hP
      have hD : va_D (fun q : Nat => s.heap.size ≤ q) [] := hD
      exact (show False by have bA0 := Int32.le_toInt (xs 2); have bB0 := Int32.toInt_lt (xs 2); have bA1 := Int32.le_toInt (xs 3); have bB1 := Int32.toInt_lt (xs 3); revert c1 c2; simp only [vp_in_iff, Int32.lt_iff_toInt_lt, Int32.le_iff_toInt_le, Int64.lt_iff_toInt_lt, Int64.le_iff_toInt_le, Int32.toInt_toInt64, ← Int32.toInt_inj, ← Int64.toInt_inj, Int32.reduceToInt, Int64.reduceToInt] <;> omega).elim
  · have hP : va_P D vwCl [(hM, .inr (12, [.int 0, .int 0, .ref (aM 0), .ref (aM 1), .ref (aM 2), .int 0, .ref (aM 3), .ref (aM 4), .ref (aM 5), .ref (aM 6), .ref (aM 7), .int 0, .int 0, .int 0, .int 0, .long 0, .int (-1), .int 0, .int 0, .ref (aM 8), .int 0, .ref (aM 9), .ref (aM 10), .int 0, .ref (aM 11), .ref (aM 12), .int 0, .int 0, .ref (aM 13), .ref (aM 14), .ref (aM 15), .ref (aM 16), .int 0, .long 0, .long 0, .int 0, .int 0, .int 0, .int 0, .ref (aM 17), .ref (aM 18), .int 0, .int 0, .int 0, .int 0, .ref (aM 19), .ref (aM 20), .int 0, .int 0, .ref (aM 21), .ref (aM 22), .ref (aM 23), .ref (aM 24), .int 0, .int 0, .int 0])), ((aM 0), .inl (k 0, 27101, .inl (fun _ => 0)))] H := hP
    have hD : va_D (fun q : Nat => s.heap.size ≤ q) [(hM, .inr (12, [.int 0, .int 0, .ref (aM 0), .ref (aM 1), .ref (aM 2), .int 0, .ref (aM 3), .ref (aM 4), .ref (aM 5), .ref (aM 6), .ref (aM 7), .int 0, .int 0, .int 0, .int 0, .long 0, .int (-1), .int 0, .int 0, .ref (aM 8), .int 0, .ref (aM 9), .ref (aM 10), .int 0, .ref (aM 11), .ref (aM 12), .int 0, .int 0, .ref (aM 13), .ref (aM 14), .ref (aM 15), .ref (aM 16), .int 0, .long 0, .long 0, .int 0, .int 0, .int 0, .int 0, .ref (aM 17), .ref (aM 18), .int 0, .int 0, .int 0, .int 0, .ref (aM 19), .ref (aM 20), .int 0, .int 0, .ref (aM 21), .ref (aM 22), .ref (aM 23), .ref (aM 24), .int 0, .int 0, .int 0])), ((aM 0), .inl (k 0, 27101, .inl (fun _ => 0)))] := hD
    refine lv_aload_n hx hb dL_law_1275 rfl (lv_at hl 2 rfl) ?_
    refine lv_aload_n hx hb dL_law_1276 rfl (lv_at hl 0 rfl) ?_
    refine lv_iload_n hx hb dL_law_1277 rfl (lv_at hl 3 rfl) ?_
    refine lv_iconst (v := 1) hx hb dL_law_1278 (by decide) ?_
    refine lv_iadd hx hb dL_law_1279 ?_
    refine lv_toc (v := 1) (by decide) ?_
    refine z_sld hx hb hXx hbl hbA hS 1 (by decide) (by unfold vp_in; decide) dL_law_1280 ?_
    refine lv_aload_n hx hb dL_law_1281 rfl (lv_at hl 0 rfl) ?_
    refine lv_iload_n hx hb dL_law_1282 rfl (lv_at hl 3 rfl) ?_
    refine lv_iconst (v := 2) hx hb dL_law_1283 (by decide) ?_
    refine lv_iadd hx hb dL_law_1284 ?_
    refine lv_toc (v := 2) (by decide) ?_
    refine z_sld hx hb hXx hbl hbA hS 2 (by decide) (by unfold vp_in; decide) dL_law_1285 ?_
    refine lv_aload_n hx hb dL_law_1286 rfl (lv_at hl 0 rfl) ?_
    refine lv_iload_n hx hb dL_law_1287 rfl (lv_at hl 3 rfl) ?_
    refine lv_iconst (v := 3) hx hb dL_law_1288 (by decide) ?_
    refine lv_iadd hx hb dL_law_1289 ?_
    refine lv_toc (v := 3) (by decide) ?_
    refine z_sld hx hb hXx hbl hbA hS 3 (by decide) (by unfold vp_in; decide) dL_law_1290 ?_
    refine z_bi (wr := []) (z_runV (C := RX12) (As := [.int (xs 1), .int (xs 2), .int (xs 3)]) (rest := [.int (-2)]) C0 (c_X12_pay_1 l D k hM (aM 0) (aM 1) (aM 2) (aM 3) (aM 4) (aM 5) (aM 6) (aM 7) (aM 8) (aM 9) (aM 10) (aM 11) (aM 12) (aM 13) (aM 14) (aM 15) (aM 16) (aM 17) (aM 18) (aM 19) (aM 20) (aM 21) (aM 22) (aM 23) (aM 24) (xs 1) (xs 2) (xs 3) 0 0 0 0 0 0 0 0 (-1) 0 0 0 0 0 0 0 0 0 0 0 0 0 0 0 0 0 0 0 0 0 0 _) okV_X12_pay kM_L_112 rfl (z_pV (q0 := 0) hK hN hP hD [0, 1] rfl rfl rfl rfl rfl) rfl hl.1 rfl (Nat.le_of_ble_eq_true rfl) dL_law_1291 rfl) hP hD hS hA [0, 1] [] rfl rfl rfl rfl (fun r4 u4 H locs hw4 hP hD hS => ?_)
    obtain ⟨i4, a4⟩ := u4
    dsimp only at hw4
    rcases hw4 with ⟨rfl, rfl, c4⟩ | ⟨rfl, rfl, c4⟩
    · have hP : va_P D vwCl [] H := hP
      have hD : va_D (fun q : Nat => s.heap.size ≤ q) [] := hD
      exact (show False by have bA0 := Int32.le_toInt (xs 2); have bB0 := Int32.toInt_lt (xs 2); have bA1 := Int32.le_toInt (xs 3); have bB1 := Int32.toInt_lt (xs 3); revert c1 c4; simp only [vp_in_iff, Int32.lt_iff_toInt_lt, Int32.le_iff_toInt_le, Int64.lt_iff_toInt_lt, Int64.le_iff_toInt_le, Int32.toInt_toInt64, ← Int32.toInt_inj, ← Int64.toInt_inj, Int32.reduceToInt, Int64.reduceToInt] <;> omega).elim
    · have hP : va_P D vwCl [] H := hP
      have hD : va_D (fun q : Nat => s.heap.size ≤ q) [] := hD
      refine lv_icmp_eq (tgt := 2078) hx hb dL_law_1294 (by decide) (fun _ => ?_) (fun c5 => absurd (by decide) c5)
      exact law_end hC (Nat.le_of_ble_eq_true rfl) (Nat.le_of_ble_eq_true rfl) hS (lv_sub hl [0, 3] rfl)

set_option maxHeartbeats 4000000 in
set_option maxRecDepth 100000 in
theorem law_case_23 {p : Program} {l : Launch} {e : Env} {s : State} {m : MethodId} {below : List Frame} {meth : Method} {c : Code} {D : va_G} {k : Nat → ClassId} {b : Nat} {xs : Nat → Int32} (hC : law_C p s m meth c D k b 7 xs) {hX hM : Nat} {aX aM : Nat → Nat} {H : Heap} {locs : List Loc} {ls : Array Slot} (hP : va_P D vwCl (WX k hX aX ++ WM k hM aM) H) (hD : va_D (fun q : Nat => s.heap.size ≤ q) (WX k hX aX ++ WM k hM aM)) (hS : va_S (fun q : Nat => s.heap.size ≤ q) s.heap H locs) (hl : lv_has ls 4 [(0, .ref b), (1, .ref hX), (2, .ref hM), (3, .int 0)]) : W p l e room_1 s m #[Value.ref b] below meth c H locs 100 106558 (lw_Z below #[Value.ref b] s) (F0 m 1299 ls []) := by
  obtain ⟨C0, hr, hlk, hXx, hbl, hK, hN⟩ := id hC
  have hx := C0.1
  have hb := C0.2.1
  have hml := C0.2.2.1
  have hown := C0.2.2.2.1
  have hts := C0.2.2.2.2
  have hA : ∀ q : Nat, s.heap.size ≤ q → (fun q : Nat => s.heap.size ≤ q) q := fun _ h => h
  have hbA : ¬ (fun q : Nat => s.heap.size ≤ q) b := Nat.not_le.mpr hbl
  refine lv_aload_n hx hb dL_law_1299 rfl (lv_at hl 1 rfl) ?_
  refine lv_aload_n hx hb dL_law_1300 rfl (lv_at hl 0 rfl) ?_
  refine lv_iload_n hx hb dL_law_1301 rfl (lv_at hl 3 rfl) ?_
  refine lv_iconst (v := 1) hx hb dL_law_1302 (by decide) ?_
  refine lv_iadd hx hb dL_law_1303 ?_
  refine lv_toc (v := 1) (by decide) ?_
  refine z_sld hx hb hXx hbl hbA hS 1 (by decide) (by unfold vp_in; decide) dL_law_1304 ?_
  refine lv_aload_n hx hb dL_law_1305 rfl (lv_at hl 0 rfl) ?_
  refine lv_iload_n hx hb dL_law_1306 rfl (lv_at hl 3 rfl) ?_
  refine lv_iconst (v := 2) hx hb dL_law_1307 (by decide) ?_
  refine lv_iadd hx hb dL_law_1308 ?_
  refine lv_toc (v := 2) (by decide) ?_
  refine z_sld hx hb hXx hbl hbA hS 2 (by decide) (by unfold vp_in; decide) dL_law_1309 ?_
  refine lv_aload_n hx hb dL_law_1310 rfl (lv_at hl 0 rfl) ?_
  refine lv_iload_n hx hb dL_law_1311 rfl (lv_at hl 3 rfl) ?_
  refine lv_iconst (v := 3) hx hb dL_law_1312 (by decide) ?_
  refine lv_iadd hx hb dL_law_1313 ?_
  refine lv_toc (v := 3) (by decide) ?_
  refine z_sld hx hb hXx hbl hbA hS 3 (by decide) (by unfold vp_in; decide) dL_law_1314 ?_
  refine lv_aload_n hx hb dL_law_1315 rfl (lv_at hl 0 rfl) ?_
  refine lv_iload_n hx hb dL_law_1316 rfl (lv_at hl 3 rfl) ?_
  refine lv_iconst (v := 4) hx hb dL_law_1317 (by decide) ?_
  refine lv_iadd hx hb dL_law_1318 ?_
  refine lv_toc (v := 4) (by decide) ?_
  refine z_sld hx hb hXx hbl hbA hS 4 (by decide) (by unfold vp_in; decide) dL_law_1319 ?_
  refine z_bi (wr := [(hM, .inr (12, [.int 0, .int 0, .ref (aM 0), .ref (aM 1), .ref (aM 2), .int 0, .ref (aM 3), .ref (aM 4), .ref (aM 5), .ref (aM 6), .ref (aM 7), .int 0, .int 0, .int 0, .int 0, .long 0, .int (-1), .int 0, .int 0, .ref (aM 8), .int 0, .ref (aM 9), .ref (aM 10), .int 0, .ref (aM 11), .ref (aM 12), .int 0, .int 0, .ref (aM 13), .ref (aM 14), .ref (aM 15), .ref (aM 16), .int 0, .long 0, .long 0, .int 0, .int 0, .int 0, .int 0, .ref (aM 17), .ref (aM 18), .int 0, .int 0, .int 0, .int 0, .ref (aM 19), .ref (aM 20), .int 0, .int 0, .ref (aM 21), .ref (aM 22), .ref (aM 23), .ref (aM 24), .int 0, .int 0, .int 0])), ((aM 0), .inl (k 0, 27101, .inl (fun _ => 0)))]) (z_runV (C := RX11) (As := [.int (xs 1), .int (xs 2), .int (xs 3), .int (xs 4)]) (rest := []) C0 (c_X11_fine_1 l D k hX (aX 0) (aX 1) (aX 50) (aX 51) (aX 57) (aX 65) (aX 14) (aX 20) (aX 33) (aX 36) (aX 40) (aX 2) (aX 3) (aX 4) (aX 5) (aX 6) (aX 7) (aX 8) (aX 9) (aX 10) (aX 11) (aX 12) (aX 13) (xs 1) (xs 2) (xs 3) (xs 4) 0 0 0 _) okV_X11_fine kM_L_113 rfl (z_pV (q0 := 0) hK hN hP hD [0, 1, 2] rfl rfl rfl rfl rfl) rfl hl.1 rfl (Nat.le_of_ble_eq_true rfl) dL_law_1320 rfl) hP hD hS hA [0, 1, 2] [74, 75] rfl rfl rfl rfl (fun r1 u1 H locs hw1 hP hD hS => ?_)
  obtain ⟨i1, a1⟩ := u1
  dsimp only at hw1
  obtain ⟨rfl, rfl⟩ := hw1
  have hP : va_P D vwCl [(hM, .inr (12, [.int 0, .int 0, .ref (aM 0), .ref (aM 1), .ref (aM 2), .int 0, .ref (aM 3), .ref (aM 4), .ref (aM 5), .ref (aM 6), .ref (aM 7), .int 0, .int 0, .int 0, .int 0, .long 0, .int (-1), .int 0, .int 0, .ref (aM 8), .int 0, .ref (aM 9), .ref (aM 10), .int 0, .ref (aM 11), .ref (aM 12), .int 0, .int 0, .ref (aM 13), .ref (aM 14), .ref (aM 15), .ref (aM 16), .int 0, .long 0, .long 0, .int 0, .int 0, .int 0, .int 0, .ref (aM 17), .ref (aM 18), .int 0, .int 0, .int 0, .int 0, .ref (aM 19), .ref (aM 20), .int 0, .int 0, .ref (aM 21), .ref (aM 22), .ref (aM 23), .ref (aM 24), .int 0, .int 0, .int 0])), ((aM 0), .inl (k 0, 27101, .inl (fun _ => 0)))] H := hP
  have hD : va_D (fun q : Nat => s.heap.size ≤ q) [(hM, .inr (12, [.int 0, .int 0, .ref (aM 0), .ref (aM 1), .ref (aM 2), .int 0, .ref (aM 3), .ref (aM 4), .ref (aM 5), .ref (aM 6), .ref (aM 7), .int 0, .int 0, .int 0, .int 0, .long 0, .int (-1), .int 0, .int 0, .ref (aM 8), .int 0, .ref (aM 9), .ref (aM 10), .int 0, .ref (aM 11), .ref (aM 12), .int 0, .int 0, .ref (aM 13), .ref (aM 14), .ref (aM 15), .ref (aM 16), .int 0, .long 0, .long 0, .int 0, .int 0, .int 0, .int 0, .ref (aM 17), .ref (aM 18), .int 0, .int 0, .int 0, .int 0, .ref (aM 19), .ref (aM 20), .int 0, .int 0, .ref (aM 21), .ref (aM 22), .ref (aM 23), .ref (aM 24), .int 0, .int 0, .int 0])), ((aM 0), .inl (k 0, 27101, .inl (fun _ => 0)))] := hD
  refine lv_aload_n hx hb dL_law_1323 rfl (lv_at hl 2 rfl) ?_
  refine lv_aload_n hx hb dL_law_1324 rfl (lv_at hl 0 rfl) ?_
  refine lv_iload_n hx hb dL_law_1325 rfl (lv_at hl 3 rfl) ?_
  refine lv_iconst (v := 1) hx hb dL_law_1326 (by decide) ?_
  refine lv_iadd hx hb dL_law_1327 ?_
  refine lv_toc (v := 1) (by decide) ?_
  refine z_sld hx hb hXx hbl hbA hS 1 (by decide) (by unfold vp_in; decide) dL_law_1328 ?_
  refine lv_aload_n hx hb dL_law_1329 rfl (lv_at hl 0 rfl) ?_
  refine lv_iload_n hx hb dL_law_1330 rfl (lv_at hl 3 rfl) ?_
  refine lv_iconst (v := 2) hx hb dL_law_1331 (by decide) ?_
  refine lv_iadd hx hb dL_law_1332 ?_
  refine lv_toc (v := 2) (by decide) ?_
  refine z_sld hx hb hXx hbl hbA hS 2 (by decide) (by unfold vp_in; decide) dL_law_1333 ?_
  refine lv_aload_n hx hb dL_law_1334 rfl (lv_at hl 0 rfl) ?_
  refine lv_iload_n hx hb dL_law_1335 rfl (lv_at hl 3 rfl) ?_
  refine lv_iconst (v := 3) hx hb dL_law_1336 (by decide) ?_
  refine lv_iadd hx hb dL_law_1337 ?_
  refine lv_toc (v := 3) (by decide) ?_
  refine z_sld hx hb hXx hbl hbA hS 3 (by decide) (by unfold vp_in; decide) dL_law_1338 ?_
  refine lv_aload_n hx hb dL_law_1339 rfl (lv_at hl 0 rfl) ?_
  refine lv_iload_n hx hb dL_law_1340 rfl (lv_at hl 3 rfl) ?_
  refine lv_iconst (v := 4) hx hb dL_law_1341 (by decide) ?_
  refine lv_iadd hx hb dL_law_1342 ?_
  refine lv_toc (v := 4) (by decide) ?_
  refine z_sld hx hb hXx hbl hbA hS 4 (by decide) (by unfold vp_in; decide) dL_law_1343 ?_
  refine z_bi (wr := []) (z_runV (C := RX12) (As := [.int (xs 1), .int (xs 2), .int (xs 3), .int (xs 4)]) (rest := [.int (-1)]) C0 (c_X12_fine_1 l D k hM (aM 0) (aM 1) (aM 2) (aM 3) (aM 4) (aM 5) (aM 6) (aM 7) (aM 8) (aM 9) (aM 10) (aM 11) (aM 12) (aM 13) (aM 14) (aM 15) (aM 16) (aM 17) (aM 18) (aM 19) (aM 20) (aM 21) (aM 22) (aM 23) (aM 24) (xs 1) (xs 2) (xs 3) (xs 4) 0 0 0 0 0 0 0 0 (-1) 0 0 0 0 0 0 0 0 0 0 0 0 0 0 0 0 0 0 0 0 0 0 _) okV_X12_fine kM_L_116 rfl (z_pV (q0 := 0) hK hN hP hD [0, 1] rfl rfl rfl rfl rfl) rfl hl.1 rfl (Nat.le_of_ble_eq_true rfl) dL_law_1344 rfl) hP hD hS hA [0, 1] [] rfl rfl rfl rfl (fun r2 u2 H locs hw2 hP hD hS => ?_)
  obtain ⟨i2, a2⟩ := u2
  dsimp only at hw2
  obtain ⟨rfl, rfl⟩ := hw2
  have hP : va_P D vwCl [] H := hP
  have hD : va_D (fun q : Nat => s.heap.size ≤ q) [] := hD
  refine lv_icmp_eq (tgt := 2078) hx hb dL_law_1347 (by decide) (fun _ => ?_) (fun c3 => absurd (by decide) c3)
  exact law_end hC (Nat.le_of_ble_eq_true rfl) (Nat.le_of_ble_eq_true rfl) hS (lv_sub hl [0, 3] rfl)
