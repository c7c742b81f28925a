set_option maxHeartbeats 4000000 in
set_option maxRecDepth 100000 in
theorem s_X11_isOutside_1 (l : Launch) (D : va_G) (k : Nat → ClassId) (T : zTy) (x_0 : Int32) (x_1 : Int32) (x_2 : Int32) : zMi l yX11_isOutside cX11_isOutside 3 (some .boolean) ({ frames := 0, cells := 0, slots := 0, locals := 0 }) D k T [.int x_0, .int x_1, .int x_2] [] (fun r u => (u.1 = 0 ∧ r = 1 ∧ ((x_0 < x_1) ∨ (¬ x_0 < x_1 ∧ ¬ x_0 ≤ x_2))) ∨ (u.1 = 1 ∧ r = 0 ∧ ((¬ x_0 < x_1 ∧ x_0 ≤ x_2)))) (fun u => []) := by
  refine zMi_of (own := RX11) (by decide +kernel) rfl (Nat.le_of_ble_eq_true rfl) ?_
  intro p e s m args below meth c A ls C0 hr hlk hin hP hD hS hA hK hN hT hl
  have hx := C0.1
  have hb := C0.2.1
  have hml := C0.2.2.1
  have hown := C0.2.2.2.1
  have hts := C0.2.2.2.2
  have hl : lv_has ls 3 [(0, .int x_0), (1, .int x_1), (2, .int x_2)] := hl
  have hP : va_P D vwCl [] s.heap := hP
  refine lv_iload_n hx hb dX11_isOutside_0 rfl (lv_at hl 0 rfl) ?_
  refine lv_iload_n hx hb dX11_isOutside_1 rfl (lv_at hl 1 rfl) ?_
  refine lv_icmp_lt (tgt := 10) hx hb dX11_isOutside_2 (by decide) (fun c1 => ?_) (fun c1 => ?_)
  · refine lv_iconst (v := 1) hx hb dX11_isOutside_10 (by decide) ?_
    refine lv_goto (tgt := 15) hx hb dX11_isOutside_11 (by decide) ?_
    exact z_iret C0 hr hlk rfl hK hP hD hS (0, fun _ => 0, fun _ => 0, fun _ => 0, fun _ => (fun _ => 0), fun _ => (fun _ => 0), fun _ => (fun _ => none)) (Or.inl ⟨rfl, rfl, (Or.inl c1)⟩) [] rfl rfl rfl dX11_isOutside_15
  · refine lv_iload_n hx hb dX11_isOutside_5 rfl (lv_at hl 0 rfl) ?_
    refine lv_iload_n hx hb dX11_isOutside_6 rfl (lv_at hl 2 rfl) ?_
    refine lv_icmp_le (tgt := 14) hx hb dX11_isOutside_7 (by decide) (fun c2 => ?_) (fun c2 => ?_)
    · refine lv_iconst (v := 0) hx hb dX11_isOutside_14 (by decide) ?_
      exact z_iret C0 hr hlk rfl hK hP hD hS (1, fun _ => 0, fun _ => 0, fun _ => 0, fun _ => (fun _ => 0), fun _ => (fun _ => 0), fun _ => (fun _ => none)) (Or.inr (⟨rfl, rfl, ⟨c1, c2⟩⟩)) [] rfl rfl rfl dX11_isOutside_15
    · refine lv_iconst (v := 1) hx hb dX11_isOutside_10 (by decide) ?_
      refine lv_goto (tgt := 15) hx hb dX11_isOutside_11 (by decide) ?_
      exact z_iret C0 hr hlk rfl hK hP hD hS (0, fun _ => 0, fun _ => 0, fun _ => 0, fun _ => (fun _ => 0), fun _ => (fun _ => 0), fun _ => (fun _ => none)) (Or.inl ⟨rfl, rfl, (Or.inr (⟨c1, c2⟩))⟩) [] rfl rfl rfl dX11_isOutside_15

set_option maxHeartbeats 4000000 in
set_option maxRecDepth 100000 in
theorem s_X11_answer_1 (l : Launch) (D : va_G) (k : Nat → ClassId) (T : zTy) (q_0 : Nat) (q_1 : Nat) (q_2 : Nat) (q_3 : Nat) (q_4 : Nat) (q_5 : Nat) (x_0 : Int32) (x_1 : Int32) : zMi l yX11_answer cX11_answer 2 (some .int) ({ frames := 0, cells := 0, slots := 0, locals := 0 }) D k T [.ref q_0, .int x_0] [(q_0, .inr (11, [.ref q_1, .ref q_2, .ref q_3, .ref q_4, .ref q_5, .int x_1]))] (fun r u => u.1 = 0 ∧ r = x_0) (fun u => [(q_0, .inr (11, [.ref q_1, .ref q_2, .ref q_3, .ref q_4, .ref q_5, .int (u.2.2.1 0)]))]) := by
  refine zMi_of (own := RX11) (by decide +kernel) rfl (Nat.le_of_ble_eq_true rfl) ?_
  intro p e s m args below meth c A ls C0 hr hlk hin hP hD hS hA hK hN hT hl
  have hx := C0.1
  have hb := C0.2.1
  have hml := C0.2.2.1
  have hown := C0.2.2.2.1
  have hts := C0.2.2.2.2
  have hl : lv_has ls 2 [(0, .ref q_0), (1, .int x_0)] := hl
  have hP : va_P D vwCl [(q_0, .inr (11, [.ref q_1, .ref q_2, .ref q_3, .ref q_4, .ref q_5, .int x_1]))] s.heap := hP
  refine lv_aload_n hx hb dX11_answer_0 rfl (lv_at hl 0 rfl) ?_
  refine lv_iload_n hx hb dX11_answer_1 rfl (lv_at hl 1 rfl) ?_
  refine lv_if_ge (tgt := 9) hx hb dX11_answer_2 (by decide) (fun c1 => ?_) (fun c1 => ?_)
  · refine lv_iconst (v := 0) hx hb dX11_answer_9 (by decide) ?_
    refine va_put (D := D) (ci := 11) (v := .int 0) (ty := .int) (C := RX11) (T := TX11) (N := 6) hx hb hts inX11 tyX11 tyX11_ok nmX11 hown hK hP hD hS 0 rfl rfl 5 (by decide) (hts _ kF_X11_383) (fun _ h9 => h9) rfl (by decide +kernel) rfl rfl (Nat.le_of_ble_eq_true rfl) dX11_answer_10 (fun H locs hP hD hS => ?_)
    have hP : va_P D vwCl [(q_0, .inr (11, [.ref q_1, .ref q_2, .ref q_3, .ref q_4, .ref q_5, .int 0]))] H := hP
    have hD : va_D A [(q_0, .inr (11, [.ref q_1, .ref q_2, .ref q_3, .ref q_4, .ref q_5, .int 0]))] := hD
    refine lv_iload_n hx hb dX11_answer_13 rfl (lv_at hl 1 rfl) ?_
    exact z_iret C0 hr hlk rfl hK hP hD hS (0, fun _ => 0, fun i => [0].getD i 0, fun _ => 0, fun _ => (fun _ => 0), fun _ => (fun _ => 0), fun _ => (fun _ => none)) ⟨rfl, rfl⟩ [0] rfl rfl rfl dX11_answer_14
  · refine lv_iload_n hx hb dX11_answer_5 rfl (lv_at hl 1 rfl) ?_
    refine lv_goto (tgt := 10) hx hb dX11_answer_6 (by decide) ?_
    refine va_put (D := D) (ci := 11) (v := .int x_0) (ty := .int) (C := RX11) (T := TX11) (N := 6) hx hb hts inX11 tyX11 tyX11_ok nmX11 hown hK hP hD hS 0 rfl rfl 5 (by decide) (hts _ kF_X11_383) (fun _ h9 => h9) rfl (by decide +kernel) rfl rfl (Nat.le_of_ble_eq_true rfl) dX11_answer_10 (fun H locs hP hD hS => ?_)
    have hP : va_P D vwCl [(q_0, .inr (11, [.ref q_1, .ref q_2, .ref q_3, .ref q_4, .ref q_5, .int x_0]))] H := hP
    have hD : va_D A [(q_0, .inr (11, [.ref q_1, .ref q_2, .ref q_3, .ref q_4, .ref q_5, .int x_0]))] := hD
    refine lv_iload_n hx hb dX11_answer_13 rfl (lv_at hl 1 rfl) ?_
    exact z_iret C0 hr hlk rfl hK hP hD hS (0, fun _ => 0, fun i => [x_0].getD i 0, fun _ => 0, fun _ => (fun _ => 0), fun _ => (fun _ => 0), fun _ => (fun _ => none)) ⟨rfl, rfl⟩ [0] rfl rfl rfl dX11_answer_14

set_option maxHeartbeats 4000000 in
set_option maxRecDepth 100000 in
theorem s_X11_isNoPlace_1 (l : Launch) (D : va_G) (k : Nat → ClassId) (T : zTy) (x_0 : Int32) (x_1 : Int32) : zMi l yX11_isNoPlace cX11_isNoPlace 2 (some .boolean) ({ frames := 1, cells := 0, slots := 0, locals := 22 }) D k T [.int x_0, .int x_1] [] (fun r u => (u.1 = 0 ∧ r = 1 ∧ ((((x_0 < 0) ∨ (¬ x_0 < 0 ∧ ¬ x_0 ≤ 99))) ∨ (((¬ x_0 < 0 ∧ x_0 ≤ 99)) ∧ ((x_1 < 0) ∨ (¬ x_1 < 0 ∧ ¬ x_1 ≤ 99))))) ∨ (u.1 = 1 ∧ r = 0 ∧ (0 ≤ Int32.toInt x_0 ∧ Int32.toInt x_0 ≤ 99) ∧ (0 ≤ Int32.toInt x_1 ∧ Int32.toInt x_1 ≤ 99) ∧ ((((¬ x_0 < 0 ∧ x_0 ≤ 99)) ∧ ((¬ x_1 < 0 ∧ x_1 ≤ 99)))))) (fun u => []) := by
  refine zMi_of (own := RX11) (by decide +kernel) rfl (Nat.le_of_ble_eq_true rfl) ?_
  intro p e s m args below meth c A ls C0 hr hlk hin hP hD hS hA hK hN hT hl
  have hx := C0.1
  have hb := C0.2.1
  have hml := C0.2.2.1
  have hown := C0.2.2.2.1
  have hts := C0.2.2.2.2
  have hl : lv_has ls 2 [(0, .int x_0), (1, .int x_1)] := hl
  have hP : va_P D vwCl [] s.heap := hP
  refine lv_iload_n hx hb dX11_isNoPlace_0 rfl (lv_at hl 0 rfl) ?_
  refine lv_iconst (v := 0) hx hb dX11_isNoPlace_1 (by decide) ?_
  refine lv_bipush (v := 99) hx hb dX11_isNoPlace_2 (by decide) ?_
  refine z_bi0 (z_runS (As := [.int x_0, .int 0, .int 99]) (rest := []) C0 (s_X11_isOutside_1 l D k T x_0 0 99 _) okS_X11_isOutside kM_X11_47 rfl (z_p0 hT hS hA hK hN) rfl hl.1 rfl (Nat.le_of_ble_eq_true rfl) dX11_isNoPlace_4 rfl) hP hS hA (fun r1 u1 H locs hw1 hP hS => ?_)
  obtain ⟨i1, a1, v1, w1, f1, g1, o1⟩ := u1
  dsimp only at hw1
  rcases hw1 with ⟨rfl, rfl, c1⟩ | ⟨rfl, rfl, c1⟩
  · refine lv_if_ne (tgt := 20) hx hb dX11_isNoPlace_7 (by decide) (fun _ => ?_) (fun c2 => absurd c2 (by decide))
    refine lv_iconst (v := 1) hx hb dX11_isNoPlace_20 (by decide) ?_
    refine lv_goto (tgt := 25) hx hb dX11_isNoPlace_21 (by decide) ?_
    exact z_iret C0 hr hlk rfl hK hP hD hS (0, fun _ => 0, fun _ => 0, fun _ => 0, fun _ => (fun _ => 0), fun _ => (fun _ => 0), fun _ => (fun _ => none)) (Or.inl ⟨rfl, rfl, (Or.inl c1)⟩) [] rfl rfl rfl dX11_isNoPlace_25
  · refine lv_if_ne (tgt := 20) hx hb dX11_isNoPlace_7 (by decide) (fun c3 => absurd (by decide) c3) (fun _ => ?_)
    refine lv_iload_n hx hb dX11_isNoPlace_10 rfl (lv_at hl 1 rfl) ?_
    refine lv_iconst (v := 0) hx hb dX11_isNoPlace_11 (by decide) ?_
    refine lv_bipush (v := 99) hx hb dX11_isNoPlace_12 (by decide) ?_
    refine z_bi0 (z_runS (As := [.int x_1, .int 0, .int 99]) (rest := []) C0 (s_X11_isOutside_1 l D k T x_1 0 99 _) okS_X11_isOutside kM_X11_47 rfl (z_p0 hT hS hA hK hN) rfl hl.1 rfl (Nat.le_of_ble_eq_true rfl) dX11_isNoPlace_14 rfl) hP hS hA (fun r4 u4 H locs hw4 hP hS => ?_)
    obtain ⟨i4, a4, v4, w4, f4, g4, o4⟩ := u4
    dsimp only at hw4
    rcases hw4 with ⟨rfl, rfl, c4⟩ | ⟨rfl, rfl, c4⟩
    · refine lv_if_eq (tgt := 24) hx hb dX11_isNoPlace_17 (by decide) (fun c5 => absurd c5 (by decide)) (fun _ => ?_)
      refine lv_iconst (v := 1) hx hb dX11_isNoPlace_20 (by decide) ?_
      refine lv_goto (tgt := 25) hx hb dX11_isNoPlace_21 (by decide) ?_
      exact z_iret C0 hr hlk rfl hK hP hD hS (0, fun _ => 0, fun _ => 0, fun _ => 0, fun _ => (fun _ => 0), fun _ => (fun _ => 0), fun _ => (fun _ => none)) (Or.inl ⟨rfl, rfl, (Or.inr (⟨c1, c4⟩))⟩) [] rfl rfl rfl dX11_isNoPlace_25
    · refine lv_if_eq (tgt := 24) hx hb dX11_isNoPlace_17 (by decide) (fun _ => ?_) (fun c6 => absurd (by decide) c6)
      refine lv_iconst (v := 0) hx hb dX11_isNoPlace_24 (by decide) ?_
      exact z_iret C0 hr hlk rfl hK hP hD hS (1, fun _ => 0, fun _ => 0, fun _ => 0, fun _ => (fun _ => 0), fun _ => (fun _ => 0), fun _ => (fun _ => none)) (Or.inr (⟨rfl, rfl, (show 0 ≤ Int32.toInt x_0 ∧ Int32.toInt x_0 ≤ 99 from (by revert c1; first | omega | (simp only [vp_in_iff, Int32.lt_iff_toInt_lt, Int32.le_iff_toInt_le, Int64.lt_iff_toInt_lt, Int64.le_iff_toInt_le, Int32.toInt_toInt64, ← Int32.toInt_inj, ← Int64.toInt_inj, Int32.reduceToInt, Int64.reduceToInt] <;> omega))), (show 0 ≤ Int32.toInt x_1 ∧ Int32.toInt x_1 ≤ 99 from (by revert c4; first | omega | (simp only [vp_in_iff, Int32.lt_iff_toInt_lt, Int32.le_iff_toInt_le, Int64.lt_iff_toInt_lt, Int64.le_iff_toInt_le, Int32.toInt_toInt64, ← Int32.toInt_inj, ← Int64.toInt_inj, Int32.reduceToInt, Int64.reduceToInt] <;> omega))), ⟨c1, c4⟩⟩)) [] rfl rfl rfl dX11_isNoPlace_25

set_option maxHeartbeats 4000000 in
set_option maxRecDepth 100000 in
theorem s_X6_addChild_1 (l : Launch) (D : va_G) (k : Nat → ClassId) (T : zTy) (q_0 : Nat) (q_1 : Nat) (q_2 : Nat) (q_3 : Nat) (q_4 : Nat) (q_5 : Nat) (q_6 : Nat) (q_7 : Nat) (q_8 : Nat) (q_9 : Nat) (q_10 : Nat) (q_11 : Nat) (q_12 : Nat) (x_0 : Int32) (x_1 : Int32) (x_2 : Int32) (x_3 : Int32) (x_4 : Int32) (x_5 : Int32) (x_6 : Int32) (x_7 : Int32) (f_8 : Nat → Int32) (f_9 : Nat → Int32) (f_10 : Nat → Int32) (f_11 : Nat → Int32) (f_12 : Nat → Int32) (h_x_0 : 3 ≤ Int32.toInt x_0 ∧ Int32.toInt x_0 ≤ 18) (h_x_2 : (-1) ≤ Int32.toInt x_2 ∧ Int32.toInt x_2 ≤ 7) (h_x_3 : 0 ≤ Int32.toInt x_3 ∧ Int32.toInt x_3 ≤ 99) (h_x_4 : 0 ≤ Int32.toInt x_4 ∧ Int32.toInt x_4 ≤ 99) (h_x_5 : 0 ≤ Int32.toInt x_5 ∧ Int32.toInt x_5 ≤ 39) (h_x_6 : 0 ≤ Int32.toInt x_6 ∧ Int32.toInt x_6 ≤ 5) (h_x_7 : 0 ≤ Int32.toInt x_7 ∧ Int32.toInt x_7 ≤ 60) (h_f_8 : zR f_8 0 18) (h_f_9 : zR f_9 0 1) (h_f_10 : zR f_10 (-1) 7) (h_f_11 : zR f_11 0 99) (h_f_12 : zR f_12 0 99) : zMi l yX6_addChild cX6_addChild 6 (some .int) ({ frames := 0, cells := 0, slots := 0, locals := 0 }) D k T [.ref q_0, .int x_0, .int x_1, .int x_2, .int x_3, .int x_4] [(q_0, .inr (6, [.int x_5, .ref q_1, .ref q_2, .ref q_3, .ref q_4, .ref q_5, .int x_6, .ref q_6, .int x_7, .ref q_7, .ref q_8, .ref q_9, .ref q_10, .ref q_11, .ref q_12])), (q_1, .inl (k 0, 40, .inl f_8)), (q_2, .inl (k 0, 40, .inl f_9)), (q_3, .inl (k 0, 40, .inl f_10)), (q_4, .inl (k 0, 40, .inl f_11)), (q_5, .inl (k 0, 40, .inl f_12))] (fun r u => u.1 = 0 ∧ (0 ≤ Int32.toInt r ∧ Int32.toInt r ≤ 39) ∧ (0 ≤ Int32.toInt (u.2.2.1 0) ∧ Int32.toInt (u.2.2.1 0) ≤ 40) ∧ zR (u.2.2.2.2.1 0) 0 18 ∧ zR (u.2.2.2.2.1 1) 0 1 ∧ zR (u.2.2.2.2.1 2) (-1) 7 ∧ zR (u.2.2.2.2.1 3) 0 99 ∧ zR (u.2.2.2.2.1 4) 0 99) (fun u => [(q_0, .inr (6, [.int (u.2.2.1 0), .ref q_1, .ref q_2, .ref q_3, .ref q_4, .ref q_5, .int x_6, .ref q_6, .int x_7, .ref q_7, .ref q_8, .ref q_9, .ref q_10, .ref q_11, .ref q_12])), (q_1, .inl (k 0, 40, .inl (u.2.2.2.2.1 0))), (q_2, .inl (k 0, 40, .inl (u.2.2.2.2.1 1))), (q_3, .inl (k 0, 40, .inl (u.2.2.2.2.1 2))), (q_4, .inl (k 0, 40, .inl (u.2.2.2.2.1 3))), (q_5, .inl (k 0, 40, .inl (u.2.2.2.2.1 4)))]) := by
  refine zMi_of (own := RX6) (by decide +kernel) rfl (Nat.le_of_ble_eq_true rfl) ?_
  intro p e s m args below meth c A ls C0 hr hlk hin hP hD hS hA hK hN hT hl
  have hx := C0.1
  have hb := C0.2.1
  have hml := C0.2.2.1
  have hown := C0.2.2.2.1
  have hts := C0.2.2.2.2
  have hl : lv_has ls 6 [(0, .ref q_0), (1, .int x_0), (2, .int x_1), (3, .int x_2), (4, .int x_3), (5, .int x_4)] := hl
  have hP : va_P D vwCl [(q_0, .inr (6, [.int x_5, .ref q_1, .ref q_2, .ref q_3, .ref q_4, .ref q_5, .int x_6, .ref q_6, .int x_7, .ref q_7, .ref q_8, .ref q_9, .ref q_10, .ref q_11, .ref q_12])), (q_1, .inl (k 0, 40, .inl f_8)), (q_2, .inl (k 0, 40, .inl f_9)), (q_3, .inl (k 0, 40, .inl f_10)), (q_4, .inl (k 0, 40, .inl f_11)), (q_5, .inl (k 0, 40, .inl f_12))] s.heap := hP
  refine lv_aload_n hx hb dX6_addChild_0 rfl (lv_at hl 0 rfl) ?_
  refine va_get (D := D) (ci := 6) (v := .ref q_1) (C := RX6) (T := TX6) (N := 15) hx hb hts inX6 hown hK hP 0 rfl rfl 1 (by decide) (hts _ kF_X6_9) (fun _ h9 => h9) rfl dX6_addChild_1 ?_
  refine lv_aload_n hx hb dX6_addChild_4 rfl (lv_at hl 0 rfl) ?_
  refine va_get (D := D) (ci := 6) (v := .int x_5) (C := RX6) (T := TX6) (N := 15) hx hb hts inX6 hown hK hP 0 rfl rfl 0 (by decide) (hts _ kF_X6_48) (fun _ h9 => h9) rfl dX6_addChild_5 ?_
  refine lv_iload_n hx hb dX6_addChild_8 rfl (lv_at hl 1 rfl) ?_
  refine va_iast hx hb hK hP hD hS 1 0 rfl rfl (by revert h_x_5; first | omega | (simp only [vp_in_iff, Int32.lt_iff_toInt_lt, Int32.le_iff_toInt_le, Int64.lt_iff_toInt_lt, Int64.le_iff_toInt_le, Int32.toInt_toInt64, ← Int32.toInt_inj, ← Int64.toInt_inj, Int32.reduceToInt, Int64.reduceToInt] <;> omega)) dX6_addChild_9 (fun H locs hP hD hS => ?_)
  have hF1 := zR_upd (j := Int32.toNatClampNeg x_5) (v := x_0) h_f_8 (by revert h_x_0; first | omega | (simp only [vp_in_iff, Int32.lt_iff_toInt_lt, Int32.le_iff_toInt_le, Int64.lt_iff_toInt_lt, Int64.le_iff_toInt_le, Int32.toInt_toInt64, ← Int32.toInt_inj, ← Int64.toInt_inj, Int32.reduceToInt, Int64.reduceToInt] <;> omega))
  obtain ⟨F1, eF1⟩ : ∃ q, q = upd f_8 (Int32.toNatClampNeg x_5) x_0 := ⟨_, rfl⟩
  rw [← eF1] at hF1
  have hP : va_P D vwCl [(q_0, .inr (6, [.int x_5, .ref q_1, .ref q_2, .ref q_3, .ref q_4, .ref q_5, .int x_6, .ref q_6, .int x_7, .ref q_7, .ref q_8, .ref q_9, .ref q_10, .ref q_11, .ref q_12])), (q_1, .inl (k 0, 40, .inl F1)), (q_2, .inl (k 0, 40, .inl f_9)), (q_3, .inl (k 0, 40, .inl f_10)), (q_4, .inl (k 0, 40, .inl f_11)), (q_5, .inl (k 0, 40, .inl f_12))] H := by rw [eF1]; exact hP
  have hD : va_D A [(q_0, .inr (6, [.int x_5, .ref q_1, .ref q_2, .ref q_3, .ref q_4, .ref q_5, .int x_6, .ref q_6, .int x_7, .ref q_7, .ref q_8, .ref q_9, .ref q_10, .ref q_11, .ref q_12])), (q_1, .inl (k 0, 40, .inl F1)), (q_2, .inl (k 0, 40, .inl f_9)), (q_3, .inl (k 0, 40, .inl f_10)), (q_4, .inl (k 0, 40, .inl f_11)), (q_5, .inl (k 0, 40, .inl f_12))] := by rw [eF1]; exact hD
  refine lv_aload_n hx hb dX6_addChild_10 rfl (lv_at hl 0 rfl) ?_
  refine va_get (D := D) (ci := 6) (v := .ref q_2) (C := RX6) (T := TX6) (N := 15) hx hb hts inX6 hown hK hP 0 rfl rfl 2 (by decide) (hts _ kF_X6_15) (fun _ h9 => h9) rfl dX6_addChild_11 ?_
  refine lv_aload_n hx hb dX6_addChild_14 rfl (lv_at hl 0 rfl) ?_
  refine va_get (D := D) (ci := 6) (v := .int x_5) (C := RX6) (T := TX6) (N := 15) hx hb hts inX6 hown hK hP 0 rfl rfl 0 (by decide) (hts _ kF_X6_48) (fun _ h9 => h9) rfl dX6_addChild_15 ?_
  refine lv_iload_n hx hb dX6_addChild_18 rfl (lv_at hl 2 rfl) ?_
  refine lv_if_eq (tgt := 26) hx hb dX6_addChild_19 (by decide) (fun c2 => ?_) (fun c2 => ?_)
  · refine lv_iconst (v := 0) hx hb dX6_addChild_26 (by decide) ?_
    refine va_iast hx hb hK hP hD hS 2 0 rfl rfl (by revert h_x_5; first | omega | (simp only [vp_in_iff, Int32.lt_iff_toInt_lt, Int32.le_iff_toInt_le, Int64.lt_iff_toInt_lt, Int64.le_iff_toInt_le, Int32.toInt_toInt64, ← Int32.toInt_inj, ← Int64.toInt_inj, Int32.reduceToInt, Int64.reduceToInt] <;> omega)) dX6_addChild_27 (fun H locs hP hD hS => ?_)
    have hF3 := zR_upd (j := Int32.toNatClampNeg x_5) (v := (0 : Int32)) h_f_9 (by decide)
    obtain ⟨F3, eF3⟩ : ∃ q, q = upd f_9 (Int32.toNatClampNeg x_5) 0 := ⟨_, rfl⟩
    rw [← eF3] at hF3
    have hP : va_P D vwCl [(q_0, .inr (6, [.int x_5, .ref q_1, .ref q_2, .ref q_3, .ref q_4, .ref q_5, .int x_6, .ref q_6, .int x_7, .ref q_7, .ref q_8, .ref q_9, .ref q_10, .ref q_11, .ref q_12])), (q_1, .inl (k 0, 40, .inl F1)), (q_2, .inl (k 0, 40, .inl F3)), (q_3, .inl (k 0, 40, .inl f_10)), (q_4, .inl (k 0, 40, .inl f_11)), (q_5, .inl (k 0, 40, .inl f_12))] H := by rw [eF3]; exact hP
    have hD : va_D A [(q_0, .inr (6, [.int x_5, .ref q_1, .ref q_2, .ref q_3, .ref q_4, .ref q_5, .int x_6, .ref q_6, .int x_7, .ref q_7, .ref q_8, .ref q_9, .ref q_10, .ref q_11, .ref q_12])), (q_1, .inl (k 0, 40, .inl F1)), (q_2, .inl (k 0, 40, .inl F3)), (q_3, .inl (k 0, 40, .inl f_10)), (q_4, .inl (k 0, 40, .inl f_11)), (q_5, .inl (k 0, 40, .inl f_12))] := by rw [eF3]; exact hD
    refine lv_aload_n hx hb dX6_addChild_28 rfl (lv_at hl 0 rfl) ?_
    refine va_get (D := D) (ci := 6) (v := .ref q_3) (C := RX6) (T := TX6) (N := 15) hx hb hts inX6 hown hK hP 0 rfl rfl 3 (by decide) (hts _ kF_X6_18) (fun _ h9 => h9) rfl dX6_addChild_29 ?_
    refine lv_aload_n hx hb dX6_addChild_32 rfl (lv_at hl 0 rfl) ?_
    refine va_get (D := D) (ci := 6) (v := .int x_5) (C := RX6) (T := TX6) (N := 15) hx hb hts inX6 hown hK hP 0 rfl rfl 0 (by decide) (hts _ kF_X6_48) (fun _ h9 => h9) rfl dX6_addChild_33 ?_
    refine lv_iload_n hx hb dX6_addChild_36 rfl (lv_at hl 3 rfl) ?_
    refine va_iast hx hb hK hP hD hS 3 0 rfl rfl (by revert h_x_5; first | omega | (simp only [vp_in_iff, Int32.lt_iff_toInt_lt, Int32.le_iff_toInt_le, Int64.lt_iff_toInt_lt, Int64.le_iff_toInt_le, Int32.toInt_toInt64, ← Int32.toInt_inj, ← Int64.toInt_inj, Int32.reduceToInt, Int64.reduceToInt] <;> omega)) dX6_addChild_37 (fun H locs hP hD hS => ?_)
    have hF4 := zR_upd (j := Int32.toNatClampNeg x_5) (v := x_2) h_f_10 (by revert h_x_2; first | omega | (simp only [vp_in_iff, Int32.lt_iff_toInt_lt, Int32.le_iff_toInt_le, Int64.lt_iff_toInt_lt, Int64.le_iff_toInt_le, Int32.toInt_toInt64, ← Int32.toInt_inj, ← Int64.toInt_inj, Int32.reduceToInt, Int64.reduceToInt] <;> omega))
    obtain ⟨F4, eF4⟩ : ∃ q, q = upd f_10 (Int32.toNatClampNeg x_5) x_2 := ⟨_, rfl⟩
    rw [← eF4] at hF4
    have hP : va_P D vwCl [(q_0, .inr (6, [.int x_5, .ref q_1, .ref q_2, .ref q_3, .ref q_4, .ref q_5, .int x_6, .ref q_6, .int x_7, .ref q_7, .ref q_8, .ref q_9, .ref q_10, .ref q_11, .ref q_12])), (q_1, .inl (k 0, 40, .inl F1)), (q_2, .inl (k 0, 40, .inl F3)), (q_3, .inl (k 0, 40, .inl F4)), (q_4, .inl (k 0, 40, .inl f_11)), (q_5, .inl (k 0, 40, .inl f_12))] H := by rw [eF4]; exact hP
    have hD : va_D A [(q_0, .inr (6, [.int x_5, .ref q_1, .ref q_2, .ref q_3, .ref q_4, .ref q_5, .int x_6, .ref q_6, .int x_7, .ref q_7, .ref q_8, .ref q_9, .ref q_10, .ref q_11, .ref q_12])), (q_1, .inl (k 0, 40, .inl F1)), (q_2, .inl (k 0, 40, .inl F3)), (q_3, .inl (k 0, 40, .inl F4)), (q_4, .inl (k 0, 40, .inl f_11)), (q_5, .inl (k 0, 40, .inl f_12))] := by rw [eF4]; exact hD
    refine lv_aload_n hx hb dX6_addChild_38 rfl (lv_at hl 0 rfl) ?_
    refine va_get (D := D) (ci := 6) (v := .ref q_4) (C := RX6) (T := TX6) (N := 15) hx hb hts inX6 hown hK hP 0 rfl rfl 4 (by decide) (hts _ kF_X6_21) (fun _ h9 => h9) rfl dX6_addChild_39 ?_
    refine lv_aload_n hx hb dX6_addChild_42 rfl (lv_at hl 0 rfl) ?_
    refine va_get (D := D) (ci := 6) (v := .int x_5) (C := RX6) (T := TX6) (N := 15) hx hb hts inX6 hown hK hP 0 rfl rfl 0 (by decide) (hts _ kF_X6_48) (fun _ h9 => h9) rfl dX6_addChild_43 ?_
    refine lv_iload hx hb dX6_addChild_46 (lv_at hl 4 rfl) ?_
    refine va_iast hx hb hK hP hD hS 4 0 rfl rfl (by revert h_x_5; first | omega | (simp only [vp_in_iff, Int32.lt_iff_toInt_lt, Int32.le_iff_toInt_le, Int64.lt_iff_toInt_lt, Int64.le_iff_toInt_le, Int32.toInt_toInt64, ← Int32.toInt_inj, ← Int64.toInt_inj, Int32.reduceToInt, Int64.reduceToInt] <;> omega)) dX6_addChild_48 (fun H locs hP hD hS => ?_)
    have hF5 := zR_upd (j := Int32.toNatClampNeg x_5) (v := x_3) h_f_11 (by revert h_x_3; first | omega | (simp only [vp_in_iff, Int32.lt_iff_toInt_lt, Int32.le_iff_toInt_le, Int64.lt_iff_toInt_lt, Int64.le_iff_toInt_le, Int32.toInt_toInt64, ← Int32.toInt_inj, ← Int64.toInt_inj, Int32.reduceToInt, Int64.reduceToInt] <;> omega))
    obtain ⟨F5, eF5⟩ : ∃ q, q = upd f_11 (Int32.toNatClampNeg x_5) x_3 := ⟨_, rfl⟩
    rw [← eF5] at hF5
    have hP : va_P D vwCl [(q_0, .inr (6, [.int x_5, .ref q_1, .ref q_2, .ref q_3, .ref q_4, .ref q_5, .int x_6, .ref q_6, .int x_7, .ref q_7, .ref q_8, .ref q_9, .ref q_10, .ref q_11, .ref q_12])), (q_1, .inl (k 0, 40, .inl F1)), (q_2, .inl (k 0, 40, .inl F3)), (q_3, .inl (k 0, 40, .inl F4)), (q_4, .inl (k 0, 40, .inl F5)), (q_5, .inl (k 0, 40, .inl f_12))] H := by rw [eF5]; exact hP
    have hD : va_D A [(q_0, .inr (6, [.int x_5, .ref q_1, .ref q_2, .ref q_3, .ref q_4, .ref q_5, .int x_6, .ref q_6, .int x_7, .ref q_7, .ref q_8, .ref q_9, .ref q_10, .ref q_11, .ref q_12])), (q_1, .inl (k 0, 40, .inl F1)), (q_2, .inl (k 0, 40, .inl F3)), (q_3, .inl (k 0, 40, .inl F4)), (q_4, .inl (k 0, 40, .inl F5)), (q_5, .inl (k 0, 40, .inl f_12))] := by rw [eF5]; exact hD
    refine lv_aload_n hx hb dX6_addChild_49 rfl (lv_at hl 0 rfl) ?_
    refine va_get (D := D) (ci := 6) (v := .ref q_5) (C := RX6) (T := TX6) (N := 15) hx hb hts inX6 hown hK hP 0 rfl rfl 5 (by decide) (hts _ kF_X6_24) (fun _ h9 => h9) rfl dX6_addChild_50 ?_
    refine lv_aload_n hx hb dX6_addChild_53 rfl (lv_at hl 0 rfl) ?_
    refine va_get (D := D) (ci := 6) (v := .int x_5) (C := RX6) (T := TX6) (N := 15) hx hb hts inX6 hown hK hP 0 rfl rfl 0 (by decide) (hts _ kF_X6_48) (fun _ h9 => h9) rfl dX6_addChild_54 ?_
    refine lv_iload hx hb dX6_addChild_57 (lv_at hl 5 rfl) ?_
    refine va_iast hx hb hK hP hD hS 5 0 rfl rfl (by revert h_x_5; first | omega | (simp only [vp_in_iff, Int32.lt_iff_toInt_lt, Int32.le_iff_toInt_le, Int64.lt_iff_toInt_lt, Int64.le_iff_toInt_le, Int32.toInt_toInt64, ← Int32.toInt_inj, ← Int64.toInt_inj, Int32.reduceToInt, Int64.reduceToInt] <;> omega)) dX6_addChild_59 (fun H locs hP hD hS => ?_)
    have hF6 := zR_upd (j := Int32.toNatClampNeg x_5) (v := x_4) h_f_12 (by revert h_x_4; first | omega | (simp only [vp_in_iff, Int32.lt_iff_toInt_lt, Int32.le_iff_toInt_le, Int64.lt_iff_toInt_lt, Int64.le_iff_toInt_le, Int32.toInt_toInt64, ← Int32.toInt_inj, ← Int64.toInt_inj, Int32.reduceToInt, Int64.reduceToInt] <;> omega))
    obtain ⟨F6, eF6⟩ : ∃ q, q = upd f_12 (Int32.toNatClampNeg x_5) x_4 := ⟨_, rfl⟩
    rw [← eF6] at hF6
    have hP : va_P D vwCl [(q_0, .inr (6, [.int x_5, .ref q_1, .ref q_2, .ref q_3, .ref q_4, .ref q_5, .int x_6, .ref q_6, .int x_7, .ref q_7, .ref q_8, .ref q_9, .ref q_10, .ref q_11, .ref q_12])), (q_1, .inl (k 0, 40, .inl F1)), (q_2, .inl (k 0, 40, .inl F3)), (q_3, .inl (k 0, 40, .inl F4)), (q_4, .inl (k 0, 40, .inl F5)), (q_5, .inl (k 0, 40, .inl F6))] H := by rw [eF6]; exact hP
    have hD : va_D A [(q_0, .inr (6, [.int x_5, .ref q_1, .ref q_2, .ref q_3, .ref q_4, .ref q_5, .int x_6, .ref q_6, .int x_7, .ref q_7, .ref q_8, .ref q_9, .ref q_10, .ref q_11, .ref q_12])), (q_1, .inl (k 0, 40, .inl F1)), (q_2, .inl (k 0, 40, .inl F3)), (q_3, .inl (k 0, 40, .inl F4)), (q_4, .inl (k 0, 40, .inl F5)), (q_5, .inl (k 0, 40, .inl F6))] := by rw [eF6]; exact hD
    refine lv_aload_n hx hb dX6_addChild_60 rfl (lv_at hl 0 rfl) ?_
    refine lv_dup hx hb dX6_addChild_61 rfl ?_
    refine va_get (D := D) (ci := 6) (v := .int x_5) (C := RX6) (T := TX6) (N := 15) hx hb hts inX6 hown hK hP 0 rfl rfl 0 (by decide) (hts _ kF_X6_48) (fun _ h9 => h9) rfl dX6_addChild_62 ?_
    refine lv_iconst (v := 1) hx hb dX6_addChild_65 (by decide) ?_
    refine lv_iadd hx hb dX6_addChild_66 ?_
    refine lv_topi (fun y7 ey7 => ?_)
    have hy7 : Int32.toInt y7 = Int32.toInt x_5 + 1 := by rw [ey7]; exact zi_addc rfl (by decide) (by revert h_x_5; first | omega | (simp only [vp_in_iff, Int32.lt_iff_toInt_lt, Int32.le_iff_toInt_le, Int64.lt_iff_toInt_lt, Int64.le_iff_toInt_le, Int32.toInt_toInt64, ← Int32.toInt_inj, ← Int64.toInt_inj, Int32.reduceToInt, Int64.reduceToInt] <;> omega))
    refine va_put (D := D) (ci := 6) (v := .int y7) (ty := .int) (C := RX6) (T := TX6) (N := 15) hx hb hts inX6 tyX6 tyX6_ok nmX6 hown hK hP hD hS 0 rfl rfl 0 (by decide) (hts _ kF_X6_48) (fun _ h9 => h9) rfl (by decide +kernel) rfl rfl (Nat.le_of_ble_eq_true rfl) dX6_addChild_67 (fun H locs hP hD hS => ?_)
    have hP : va_P D vwCl [(q_0, .inr (6, [.int y7, .ref q_1, .ref q_2, .ref q_3, .ref q_4, .ref q_5, .int x_6, .ref q_6, .int x_7, .ref q_7, .ref q_8, .ref q_9, .ref q_10, .ref q_11, .ref q_12])), (q_1, .inl (k 0, 40, .inl F1)), (q_2, .inl (k 0, 40, .inl F3)), (q_3, .inl (k 0, 40, .inl F4)), (q_4, .inl (k 0, 40, .inl F5)), (q_5, .inl (k 0, 40, .inl F6))] H := hP
    have hD : va_D A [(q_0, .inr (6, [.int y7, .ref q_1, .ref q_2, .ref q_3, .ref q_4, .ref q_5, .int x_6, .ref q_6, .int x_7, .ref q_7, .ref q_8, .ref q_9, .ref q_10, .ref q_11, .ref q_12])), (q_1, .inl (k 0, 40, .inl F1)), (q_2, .inl (k 0, 40, .inl F3)), (q_3, .inl (k 0, 40, .inl F4)), (q_4, .inl (k 0, 40, .inl F5)), (q_5, .inl (k 0, 40, .inl F6))] := hD
    refine lv_aload_n hx hb dX6_addChild_70 rfl (lv_at hl 0 rfl) ?_
    refine va_get (D := D) (ci := 6) (v := .int y7) (C := RX6) (T := TX6) (N := 15) hx hb hts inX6 hown hK hP 0 rfl rfl 0 (by decide) (hts _ kF_X6_48) (fun _ h9 => h9) rfl dX6_addChild_71 ?_
    refine lv_iconst (v := 1) hx hb dX6_addChild_74 (by decide) ?_
    refine lv_isub hx hb dX6_addChild_75 ?_
    refine lv_topi (fun y8 ey8 => ?_)
    have hy8 : Int32.toInt y8 = Int32.toInt y7 - 1 := by rw [ey8]; exact zi_subc rfl (by decide) (by revert h_x_5 hy7; first | omega | (simp only [vp_in_iff, Int32.lt_iff_toInt_lt, Int32.le_iff_toInt_le, Int64.lt_iff_toInt_lt, Int64.le_iff_toInt_le, Int32.toInt_toInt64, ← Int32.toInt_inj, ← Int64.toInt_inj, Int32.reduceToInt, Int64.reduceToInt] <;> omega))
    exact z_iret C0 hr hlk rfl hK hP hD hS (0, fun _ => 0, fun i => [y7].getD i 0, fun _ => 0, fun i => [F1, F3, F4, F5, F6].getD i (fun _ => 0), fun _ => (fun _ => 0), fun _ => (fun _ => none)) ⟨rfl, (by revert h_x_5 hy7 hy8; first | omega | (simp only [vp_in_iff, Int32.lt_iff_toInt_lt, Int32.le_iff_toInt_le, Int64.lt_iff_toInt_lt, Int64.le_iff_toInt_le, Int32.toInt_toInt64, ← Int32.toInt_inj, ← Int64.toInt_inj, Int32.reduceToInt, Int64.reduceToInt] <;> omega)), (show 0 ≤ Int32.toInt (y7 : Int32) ∧ Int32.toInt (y7 : Int32) ≤ 40 from (by revert h_x_5 hy7 hy8; first | omega | (simp only [vp_in_iff, Int32.lt_iff_toInt_lt, Int32.le_iff_toInt_le, Int64.lt_iff_toInt_lt, Int64.le_iff_toInt_le, Int32.toInt_toInt64, ← Int32.toInt_inj, ← Int64.toInt_inj, Int32.reduceToInt, Int64.reduceToInt] <;> omega))), hF1, hF3, hF4, hF5, hF6⟩ [0, 1, 2, 3, 4, 5] rfl rfl rfl dX6_addChild_76
  · refine lv_iconst (v := 1) hx hb dX6_addChild_22 (by decide) ?_
    refine lv_goto (tgt := 27) hx hb dX6_addChild_23 (by decide) ?_
    refine va_iast hx hb hK hP hD hS 2 0 rfl rfl (by revert h_x_5; first | omega | (simp only [vp_in_iff, Int32.lt_iff_toInt_lt, Int32.le_iff_toInt_le, Int64.lt_iff_toInt_lt, Int64.le_iff_toInt_le, Int32.toInt_toInt64, ← Int32.toInt_inj, ← Int64.toInt_inj, Int32.reduceToInt, Int64.reduceToInt] <;> omega)) dX6_addChild_27 (fun H locs hP hD hS => ?_)
    have hF9 := zR_upd (j := Int32.toNatClampNeg x_5) (v := (1 : Int32)) h_f_9 (by decide)
    obtain ⟨F9, eF9⟩ : ∃ q, q = upd f_9 (Int32.toNatClampNeg x_5) 1 := ⟨_, rfl⟩
    rw [← eF9] at hF9
    have hP : va_P D vwCl [(q_0, .inr (6, [.int x_5, .ref q_1, .ref q_2, .ref q_3, .ref q_4, .ref q_5, .int x_6, .ref q_6, .int x_7, .ref q_7, .ref q_8, .ref q_9, .ref q_10, .ref q_11, .ref q_12])), (q_1, .inl (k 0, 40, .inl F1)), (q_2, .inl (k 0, 40, .inl F9)), (q_3, .inl (k 0, 40, .inl f_10)), (q_4, .inl (k 0, 40, .inl f_11)), (q_5, .inl (k 0, 40, .inl f_12))] H := by rw [eF9]; exact hP
    have hD : va_D A [(q_0, .inr (6, [.int x_5, .ref q_1, .ref q_2, .ref q_3, .ref q_4, .ref q_5, .int x_6, .ref q_6, .int x_7, .ref q_7, .ref q_8, .ref q_9, .ref q_10, .ref q_11, .ref q_12])), (q_1, .inl (k 0, 40, .inl F1)), (q_2, .inl (k 0, 40, .inl F9)), (q_3, .inl (k 0, 40, .inl f_10)), (q_4, .inl (k 0, 40, .inl f_11)), (q_5, .inl (k 0, 40, .inl f_12))] := by rw [eF9]; exact hD
    refine lv_aload_n hx hb dX6_addChild_28 rfl (lv_at hl 0 rfl) ?_
    refine va_get (D := D) (ci := 6) (v := .ref q_3) (C := RX6) (T := TX6) (N := 15) hx hb hts inX6 hown hK hP 0 rfl rfl 3 (by decide) (hts _ kF_X6_18) (fun _ h9 => h9) rfl dX6_addChild_29 ?_
    refine lv_aload_n hx hb dX6_addChild_32 rfl (lv_at hl 0 rfl) ?_
    refine va_get (D := D) (ci := 6) (v := .int x_5) (C := RX6) (T := TX6) (N := 15) hx hb hts inX6 hown hK hP 0 rfl rfl 0 (by decide) (hts _ kF_X6_48) (fun _ h9 => h9) rfl dX6_addChild_33 ?_
    refine lv_iload_n hx hb dX6_addChild_36 rfl (lv_at hl 3 rfl) ?_
    refine va_iast hx hb hK hP hD hS 3 0 rfl rfl (by revert h_x_5; first | omega | (simp only [vp_in_iff, Int32.lt_iff_toInt_lt, Int32.le_iff_toInt_le, Int64.lt_iff_toInt_lt, Int64.le_iff_toInt_le, Int32.toInt_toInt64, ← Int32.toInt_inj, ← Int64.toInt_inj, Int32.reduceToInt, Int64.reduceToInt] <;> omega)) dX6_addChild_37 (fun H locs hP hD hS => ?_)
    have hF10 := zR_upd (j := Int32.toNatClampNeg x_5) (v := x_2) h_f_10 (by revert h_x_2; first | omega | (simp only [vp_in_iff, Int32.lt_iff_toInt_lt, Int32.le_iff_toInt_le, Int64.lt_iff_toInt_lt, Int64.le_iff_toInt_le, Int32.toInt_toInt64, ← Int32.toInt_inj, ← Int64.toInt_inj, Int32.reduceToInt, Int64.reduceToInt] <;> omega))
    obtain ⟨F10, eF10⟩ : ∃ q, q = upd f_10 (Int32.toNatClampNeg x_5) x_2 := ⟨_, rfl⟩
    rw [← eF10] at hF10
    have hP : va_P D vwCl [(q_0, .inr (6, [.int x_5, .ref q_1, .ref q_2, .ref q_3, .ref q_4, .ref q_5, .int x_6, .ref q_6, .int x_7, .ref q_7, .ref q_8, .ref q_9, .ref q_10, .ref q_11, .ref q_12])), (q_1, .inl (k 0, 40, .inl F1)), (q_2, .inl (k 0, 40, .inl F9)), (q_3, .inl (k 0, 40, .inl F10)), (q_4, .inl (k 0, 40, .inl f_11)), (q_5, .inl (k 0, 40, .inl f_12))] H := by rw [eF10]; exact hP
    have hD : va_D A [(q_0, .inr (6, [.int x_5, .ref q_1, .ref q_2, .ref q_3, .ref q_4, .ref q_5, .int x_6, .ref q_6, .int x_7, .ref q_7, .ref q_8, .ref q_9, .ref q_10, .ref q_11, .ref q_12])), (q_1, .inl (k 0, 40, .inl F1)), (q_2, .inl (k 0, 40, .inl F9)), (q_3, .inl (k 0, 40, .inl F10)), (q_4, .inl (k 0, 40, .inl f_11)), (q_5, .inl (k 0, 40, .inl f_12))] := by rw [eF10]; exact hD
    refine lv_aload_n hx hb dX6_addChild_38 rfl (lv_at hl 0 rfl) ?_
    refine va_get (D := D) (ci := 6) (v := .ref q_4) (C := RX6) (T := TX6) (N := 15) hx hb hts inX6 hown hK hP 0 rfl rfl 4 (by decide) (hts _ kF_X6_21) (fun _ h9 => h9) rfl dX6_addChild_39 ?_
    refine lv_aload_n hx hb dX6_addChild_42 rfl (lv_at hl 0 rfl) ?_
    refine va_get (D := D) (ci := 6) (v := .int x_5) (C := RX6) (T := TX6) (N := 15) hx hb hts inX6 hown hK hP 0 rfl rfl 0 (by decide) (hts _ kF_X6_48) (fun _ h9 => h9) rfl dX6_addChild_43 ?_
    refine lv_iload hx hb dX6_addChild_46 (lv_at hl 4 rfl) ?_
    refine va_iast hx hb hK hP hD hS 4 0 rfl rfl (by revert h_x_5; first | omega | (simp only [vp_in_iff, Int32.lt_iff_toInt_lt, Int32.le_iff_toInt_le, Int64.lt_iff_toInt_lt, Int64.le_iff_toInt_le, Int32.toInt_toInt64, ← Int32.toInt_inj, ← Int64.toInt_inj, Int32.reduceToInt, Int64.reduceToInt] <;> omega)) dX6_addChild_48 (fun H locs hP hD hS => ?_)
    have hF11 := zR_upd (j := Int32.toNatClampNeg x_5) (v := x_3) h_f_11 (by revert h_x_3; first | omega | (simp only [vp_in_iff, Int32.lt_iff_toInt_lt, Int32.le_iff_toInt_le, Int64.lt_iff_toInt_lt, Int64.le_iff_toInt_le, Int32.toInt_toInt64, ← Int32.toInt_inj, ← Int64.toInt_inj, Int32.reduceToInt, Int64.reduceToInt] <;> omega))
    obtain ⟨F11, eF11⟩ : ∃ q, q = upd f_11 (Int32.toNatClampNeg x_5) x_3 := ⟨_, rfl⟩
    rw [← eF11] at hF11
    have hP : va_P D vwCl [(q_0, .inr (6, [.int x_5, .ref q_1, .ref q_2, .ref q_3, .ref q_4, .ref q_5, .int x_6, .ref q_6, .int x_7, .ref q_7, .ref q_8, .ref q_9, .ref q_10, .ref q_11, .ref q_12])), (q_1, .inl (k 0, 40, .inl F1)), (q_2, .inl (k 0, 40, .inl F9)), (q_3, .inl (k 0, 40, .inl F10)), (q_4, .inl (k 0, 40, .inl F11)), (q_5, .inl (k 0, 40, .inl f_12))] H := by rw [eF11]; exact hP
    have hD : va_D A [(q_0, .inr (6, [.int x_5, .ref q_1, .ref q_2, .ref q_3, .ref q_4, .ref q_5, .int x_6, .ref q_6, .int x_7, .ref q_7, .ref q_8, .ref q_9, .ref q_10, .ref q_11, .ref q_12])), (q_1, .inl (k 0, 40, .inl F1)), (q_2, .inl (k 0, 40, .inl F9)), (q_3, .inl (k 0, 40, .inl F10)), (q_4, .inl (k 0, 40, .inl F11)), (q_5, .inl (k 0, 40, .inl f_12))] := by rw [eF11]; exact hD
    refine lv_aload_n hx hb dX6_addChild_49 rfl (lv_at hl 0 rfl) ?_
    refine va_get (D := D) (ci := 6) (v := .ref q_5) (C := RX6) (T := TX6) (N := 15) hx hb hts inX6 hown hK hP 0 rfl rfl 5 (by decide) (hts _ kF_X6_24) (fun _ h9 => h9) rfl dX6_addChild_50 ?_
    refine lv_aload_n hx hb dX6_addChild_53 rfl (lv_at hl 0 rfl) ?_
    refine va_get (D := D) (ci := 6) (v := .int x_5) (C := RX6) (T := TX6) (N := 15) hx hb hts inX6 hown hK hP 0 rfl rfl 0 (by decide) (hts _ kF_X6_48) (fun _ h9 => h9) rfl dX6_addChild_54 ?_
    refine lv_iload hx hb dX6_addChild_57 (lv_at hl 5 rfl) ?_
    refine va_iast hx hb hK hP hD hS 5 0 rfl rfl (by revert h_x_5; first | omega | (simp only [vp_in_iff, Int32.lt_iff_toInt_lt, Int32.le_iff_toInt_le, Int64.lt_iff_toInt_lt, Int64.le_iff_toInt_le, Int32.toInt_toInt64, ← Int32.toInt_inj, ← Int64.toInt_inj, Int32.reduceToInt, Int64.reduceToInt] <;> omega)) dX6_addChild_59 (fun H locs hP hD hS => ?_)
    have hF12 := zR_upd (j := Int32.toNatClampNeg x_5) (v := x_4) h_f_12 (by revert h_x_4; first | omega | (simp only [vp_in_iff, Int32.lt_iff_toInt_lt, Int32.le_iff_toInt_le, Int64.lt_iff_toInt_lt, Int64.le_iff_toInt_le, Int32.toInt_toInt64, ← Int32.toInt_inj, ← Int64.toInt_inj, Int32.reduceToInt, Int64.reduceToInt] <;> omega))
    obtain ⟨F12, eF12⟩ : ∃ q, q = upd f_12 (Int32.toNatClampNeg x_5) x_4 := ⟨_, rfl⟩
    rw [← eF12] at hF12
    have hP : va_P D vwCl [(q_0, .inr (6, [.int x_5, .ref q_1, .ref q_2, .ref q_3, .ref q_4, .ref q_5, .int x_6, .ref q_6, .int x_7, .ref q_7, .ref q_8, .ref q_9, .ref q_10, .ref q_11, .ref q_12])), (q_1, .inl (k 0, 40, .inl F1)), (q_2, .inl (k 0, 40, .inl F9)), (q_3, .inl (k 0, 40, .inl F10)), (q_4, .inl (k 0, 40, .inl F11)), (q_5, .inl (k 0, 40, .inl F12))] H := by rw [eF12]; exact hP
    have hD : va_D A [(q_0, .inr (6, [.int x_5, .ref q_1, .ref q_2, .ref q_3, .ref q_4, .ref q_5, .int x_6, .ref q_6, .int x_7, .ref q_7, .ref q_8, .ref q_9, .ref q_10, .ref q_11, .ref q_12])), (q_1, .inl (k 0, 40, .inl F1)), (q_2, .inl (k 0, 40, .inl F9)), (q_3, .inl (k 0, 40, .inl F10)), (q_4, .inl (k 0, 40, .inl F11)), (q_5, .inl (k 0, 40, .inl F12))] := by rw [eF12]; exact hD
    refine lv_aload_n hx hb dX6_addChild_60 rfl (lv_at hl 0 rfl) ?_
    refine lv_dup hx hb dX6_addChild_61 rfl ?_
    refine va_get (D := D) (ci := 6) (v := .int x_5) (C := RX6) (T := TX6) (N := 15) hx hb hts inX6 hown hK hP 0 rfl rfl 0 (by decide) (hts _ kF_X6_48) (fun _ h9 => h9) rfl dX6_addChild_62 ?_
    refine lv_iconst (v := 1) hx hb dX6_addChild_65 (by decide) ?_
    refine lv_iadd hx hb dX6_addChild_66 ?_
    refine lv_topi (fun y13 ey13 => ?_)
    have hy13 : Int32.toInt y13 = Int32.toInt x_5 + 1 := by rw [ey13]; exact zi_addc rfl (by decide) (by revert h_x_5; first | omega | (simp only [vp_in_iff, Int32.lt_iff_toInt_lt, Int32.le_iff_toInt_le, Int64.lt_iff_toInt_lt, Int64.le_iff_toInt_le, Int32.toInt_toInt64, ← Int32.toInt_inj, ← Int64.toInt_inj, Int32.reduceToInt, Int64.reduceToInt] <;> omega))
    refine va_put (D := D) (ci := 6) (v := .int y13) (ty := .int) (C := RX6) (T := TX6) (N := 15) hx hb hts inX6 tyX6 tyX6_ok nmX6 hown hK hP hD hS 0 rfl rfl 0 (by decide) (hts _ kF_X6_48) (fun _ h9 => h9) rfl (by decide +kernel) rfl rfl (Nat.le_of_ble_eq_true rfl) dX6_addChild_67 (fun H locs hP hD hS => ?_)
    have hP : va_P D vwCl [(q_0, .inr (6, [.int y13, .ref q_1, .ref q_2, .ref q_3, .ref q_4, .ref q_5, .int x_6, .ref q_6, .int x_7, .ref q_7, .ref q_8, .ref q_9, .ref q_10, .ref q_11, .ref q_12])), (q_1, .inl (k 0, 40, .inl F1)), (q_2, .inl (k 0, 40, .inl F9)), (q_3, .inl (k 0, 40, .inl F10)), (q_4, .inl (k 0, 40, .inl F11)), (q_5, .inl (k 0, 40, .inl F12))] H := hP
    have hD : va_D A [(q_0, .inr (6, [.int y13, .ref q_1, .ref q_2, .ref q_3, .ref q_4, .ref q_5, .int x_6, .ref q_6, .int x_7, .ref q_7, .ref q_8, .ref q_9, .ref q_10, .ref q_11, .ref q_12])), (q_1, .inl (k 0, 40, .inl F1)), (q_2, .inl (k 0, 40, .inl F9)), (q_3, .inl (k 0, 40, .inl F10)), (q_4, .inl (k 0, 40, .inl F11)), (q_5, .inl (k 0, 40, .inl F12))] := hD
    refine lv_aload_n hx hb dX6_addChild_70 rfl (lv_at hl 0 rfl) ?_
    refine va_get (D := D) (ci := 6) (v := .int y13) (C := RX6) (T := TX6) (N := 15) hx hb hts inX6 hown hK hP 0 rfl rfl 0 (by decide) (hts _ kF_X6_48) (fun _ h9 => h9) rfl dX6_addChild_71 ?_
    refine lv_iconst (v := 1) hx hb dX6_addChild_74 (by decide) ?_
    refine lv_isub hx hb dX6_addChild_75 ?_
    refine lv_topi (fun y14 ey14 => ?_)
    have hy14 : Int32.toInt y14 = Int32.toInt y13 - 1 := by rw [ey14]; exact zi_subc rfl (by decide) (by revert h_x_5 hy13; first | omega | (simp only [vp_in_iff, Int32.lt_iff_toInt_lt, Int32.le_iff_toInt_le, Int64.lt_iff_toInt_lt, Int64.le_iff_toInt_le, Int32.toInt_toInt64, ← Int32.toInt_inj, ← Int64.toInt_inj, Int32.reduceToInt, Int64.reduceToInt] <;> omega))
    exact z_iret C0 hr hlk rfl hK hP hD hS (0, fun _ => 0, fun i => [y13].getD i 0, fun _ => 0, fun i => [F1, F9, F10, F11, F12].getD i (fun _ => 0), fun _ => (fun _ => 0), fun _ => (fun _ => none)) ⟨rfl, (by revert h_x_5 hy13 hy14; first | omega | (simp only [vp_in_iff, Int32.lt_iff_toInt_lt, Int32.le_iff_toInt_le, Int64.lt_iff_toInt_lt, Int64.le_iff_toInt_le, Int32.toInt_toInt64, ← Int32.toInt_inj, ← Int64.toInt_inj, Int32.reduceToInt, Int64.reduceToInt] <;> omega)), (show 0 ≤ Int32.toInt (y13 : Int32) ∧ Int32.toInt (y13 : Int32) ≤ 40 from (by revert h_x_5 hy13 hy14; first | omega | (simp only [vp_in_iff, Int32.lt_iff_toInt_lt, Int32.le_iff_toInt_le, Int64.lt_iff_toInt_lt, Int64.le_iff_toInt_le, Int32.toInt_toInt64, ← Int32.toInt_inj, ← Int64.toInt_inj, Int32.reduceToInt, Int64.reduceToInt] <;> omega))), hF1, hF9, hF10, hF11, hF12⟩ [0, 1, 2, 3, 4, 5] rfl rfl rfl dX6_addChild_76

set_option maxHeartbeats 4000000 in
set_option maxRecDepth 100000 in
theorem s_X11_child_1 (l : Launch) (D : va_G) (k : Nat → ClassId) (T : zTy) (q_0 : Nat) (q_1 : Nat) (q_2 : Nat) (q_3 : Nat) (q_4 : Nat) (q_5 : Nat) (q_6 : Nat) (q_7 : Nat) (q_8 : Nat) (q_9 : Nat) (q_10 : Nat) (q_11 : Nat) (q_12 : Nat) (q_13 : Nat) (q_14 : Nat) (q_15 : Nat) (q_16 : Nat) (q_17 : Nat) (q_18 : Nat) (q_19 : Nat) (q_20 : Nat) (q_21 : Nat) (q_22 : Nat) (q_23 : Nat) (x_0 : Int32) (x_1 : Int32) (x_2 : Int32) (x_3 : Int32) (x_4 : Int32) (x_5 : Int32) (x_6 : Int32) (x_7 : Int32) (x_8 : Int32) (f_9 : Nat → Int32) (f_10 : Nat → Int32) (f_11 : Nat → Int32) (f_12 : Nat → Int32) (f_13 : Nat → Int32) (h_x_6 : 0 ≤ Int32.toInt x_6 ∧ Int32.toInt x_6 ≤ 40) (h_x_7 : 0 ≤ Int32.toInt x_7 ∧ Int32.toInt x_7 ≤ 5) (h_x_8 : 0 ≤ Int32.toInt x_8 ∧ Int32.toInt x_8 ≤ 60) (h_f_9 : zR f_9 0 18) (h_f_10 : zR f_10 0 1) (h_f_11 : zR f_11 (-1) 7) (h_f_12 : zR f_12 0 99) (h_f_13 : zR f_13 0 99) : zMi l yX11_child cX11_child 7 (some .int) ({ frames := 2, cells := 0, slots := 0, locals := 43 }) D k T [.ref q_0, .int x_0, .int x_1, .int x_2, .int x_3, .int x_4] [(q_0, .inr (11, [.ref q_1, .ref q_8, .ref q_9, .ref q_10, .ref q_11, .int x_5])), (q_1, .inr (3, [.ref q_2, .ref q_12, .ref q_13, .ref q_14, .ref q_15, .ref q_16])), (q_2, .inr (6, [.int x_6, .ref q_3, .ref q_4, .ref q_5, .ref q_6, .ref q_7, .int x_7, .ref q_17, .int x_8, .ref q_18, .ref q_19, .ref q_20, .ref q_21, .ref q_22, .ref q_23])), (q_3, .inl (k 0, 40, .inl f_9)), (q_4, .inl (k 0, 40, .inl f_10)), (q_5, .inl (k 0, 40, .inl f_11)), (q_6, .inl (k 0, 40, .inl f_12)), (q_7, .inl (k 0, 40, .inl f_13))] (fun r u => u.1 = 0 ∧ ((-5) ≤ Int32.toInt r ∧ Int32.toInt r ≤ 39) ∧ (0 ≤ Int32.toInt (u.2.2.1 1) ∧ Int32.toInt (u.2.2.1 1) ≤ 40) ∧ zR (u.2.2.2.2.1 0) 0 18 ∧ zR (u.2.2.2.2.1 1) 0 1 ∧ zR (u.2.2.2.2.1 2) (-1) 7 ∧ zR (u.2.2.2.2.1 3) 0 99 ∧ zR (u.2.2.2.2.1 4) 0 99) (fun u => [(q_0, .inr (11, [.ref q_1, .ref q_8, .ref q_9, .ref q_10, .ref q_11, .int (u.2.2.1 0)])), (q_1, .inr (3, [.ref q_2, .ref q_12, .ref q_13, .ref q_14, .ref q_15, .ref q_16])), (q_2, .inr (6, [.int (u.2.2.1 1), .ref q_3, .ref q_4, .ref q_5, .ref q_6, .ref q_7, .int x_7, .ref q_17, .int x_8, .ref q_18, .ref q_19, .ref q_20, .ref q_21, .ref q_22, .ref q_23])), (q_3, .inl (k 0, 40, .inl (u.2.2.2.2.1 0))), (q_4, .inl (k 0, 40, .inl (u.2.2.2.2.1 1))), (q_5, .inl (k 0, 40, .inl (u.2.2.2.2.1 2))), (q_6, .inl (k 0, 40, .inl (u.2.2.2.2.1 3))), (q_7, .inl (k 0, 40, .inl (u.2.2.2.2.1 4)))]) := by
  refine zMi_of (own := RX11) (by decide +kernel) rfl (Nat.le_of_ble_eq_true rfl) ?_
  intro p e s m args below meth c A ls C0 hr hlk hin hP hD hS hA hK hN hT hl
  have hx := C0.1
  have hb := C0.2.1
  have hml := C0.2.2.1
  have hown := C0.2.2.2.1
  have hts := C0.2.2.2.2
  have hl : lv_has ls 7 [(0, .ref q_0), (1, .int x_0), (2, .int x_1), (3, .int x_2), (4, .int x_3), (5, .int x_4)] := hl
  have hP : va_P D vwCl [(q_0, .inr (11, [.ref q_1, .ref q_8, .ref q_9, .ref q_10, .ref q_11, .int x_5])), (q_1, .inr (3, [.ref q_2, .ref q_12, .ref q_13, .ref q_14, .ref q_15, .ref q_16])), (q_2, .inr (6, [.int x_6, .ref q_3, .ref q_4, .ref q_5, .ref q_6, .ref q_7, .int x_7, .ref q_17, .int x_8, .ref q_18, .ref q_19, .ref q_20, .ref q_21, .ref q_22, .ref q_23])), (q_3, .inl (k 0, 40, .inl f_9)), (q_4, .inl (k 0, 40, .inl f_10)), (q_5, .inl (k 0, 40, .inl f_11)), (q_6, .inl (k 0, 40, .inl f_12)), (q_7, .inl (k 0, 40, .inl f_13))] s.heap := hP
  refine lv_aload_n hx hb dX11_child_0 rfl (lv_at hl 0 rfl) ?_
  refine va_get (D := D) (ci := 11) (v := .ref q_1) (C := RX11) (T := TX11) (N := 6) hx hb hts inX11 hown hK hP 0 rfl rfl 0 (by decide) (hts _ kF_X11_12) (fun _ h9 => h9) rfl dX11_child_1 ?_
  refine va_get (D := D) (ci := 3) (v := .ref q_2) (C := RX3) (T := TX3) (N := 6) hx hb hts inX3 hown hK hP 1 rfl rfl 0 (by decide) (hts _ kF_X11_43) (fun _ h9 => h9) rfl dX11_child_4 ?_
  refine lv_astore (lv' := [(6, .ref q_2), (0, .ref q_0), (1, .int x_0), (2, .int x_1), (3, .int x_2), (4, .int x_3), (5, .int x_4)]) hx hb dX11_child_7 hl (by decide) rfl (fun ls hl => ?_)
  refine lv_iload_n hx hb dX11_child_9 rfl (lv_at hl 2 rfl) ?_
  refine lv_iconst (v := 3) hx hb dX11_child_10 (by decide) ?_
  refine lv_bipush (v := 18) hx hb dX11_child_11 (by decide) ?_
  refine z_bi0 (z_runS (As := [.int x_0, .int 3, .int 18]) (rest := []) C0 (s_X11_isOutside_1 l D k T x_0 3 18 _) okS_X11_isOutside kM_X11_47 rfl (z_p0 hT hS hA hK hN) rfl hl.1 rfl (Nat.le_of_ble_eq_true rfl) dX11_child_13 rfl) hP hS hA (fun r1 u1 H locs hw1 hP hS => ?_)
  obtain ⟨i1, a1, v1, w1, f1, g1, o1⟩ := u1
  dsimp only at hw1
  rcases hw1 with ⟨rfl, rfl, c1⟩ | ⟨rfl, rfl, c1⟩
  · refine lv_if_ne (tgt := 39) hx hb dX11_child_16 (by decide) (fun _ => ?_) (fun c2 => absurd c2 (by decide))
    refine lv_aload_n hx hb dX11_child_39 rfl (lv_at hl 1 rfl) ?_
    refine lv_iconst (v := (-1)) hx hb dX11_child_40 (by decide) ?_
    refine z_bi (wr := [(q_1, .inr (3, [.ref q_2, .ref q_12, .ref q_13, .ref q_14, .ref q_15, .ref q_16])), (q_2, .inr (6, [.int x_6, .ref q_3, .ref q_4, .ref q_5, .ref q_6, .ref q_7, .int x_7, .ref q_17, .int x_8, .ref q_18, .ref q_19, .ref q_20, .ref q_21, .ref q_22, .ref q_23])), (q_3, .inl (k 0, 40, .inl f_9)), (q_4, .inl (k 0, 40, .inl f_10)), (q_5, .inl (k 0, 40, .inl f_11)), (q_6, .inl (k 0, 40, .inl f_12)), (q_7, .inl (k 0, 40, .inl f_13))]) (z_runV (C := RX11) (As := [.int (-1)]) (rest := []) C0 (s_X11_answer_1 l D k T q_0 q_1 q_8 q_9 q_10 q_11 (-1) x_5 _) okV_X11_answer kM_X11_55 rfl (z_pV (q0 := 0) hT hS hA hK hN hP hD [0] rfl rfl rfl rfl rfl) rfl hl.1 rfl (Nat.le_of_ble_eq_true rfl) dX11_child_41 rfl) hP hD hS hA [0] [1, 2, 3, 4, 5, 6, 7] rfl rfl rfl rfl (fun r3 u3 H locs hw3 hP hD hS => ?_)
    obtain ⟨i3, a3, v3, w3, f3, g3, o3⟩ := u3
    dsimp only at hw3
    obtain ⟨rfl, rfl⟩ := hw3
    have hP : va_P D vwCl [(q_1, .inr (3, [.ref q_2, .ref q_12, .ref q_13, .ref q_14, .ref q_15, .ref q_16])), (q_2, .inr (6, [.int x_6, .ref q_3, .ref q_4, .ref q_5, .ref q_6, .ref q_7, .int x_7, .ref q_17, .int x_8, .ref q_18, .ref q_19, .ref q_20, .ref q_21, .ref q_22, .ref q_23])), (q_3, .inl (k 0, 40, .inl f_9)), (q_4, .inl (k 0, 40, .inl f_10)), (q_5, .inl (k 0, 40, .inl f_11)), (q_6, .inl (k 0, 40, .inl f_12)), (q_7, .inl (k 0, 40, .inl f_13)), (q_0, .inr (11, [.ref q_1, .ref q_8, .ref q_9, .ref q_10, .ref q_11, .int (v3 0)]))] H := hP
    have hD : va_D A [(q_1, .inr (3, [.ref q_2, .ref q_12, .ref q_13, .ref q_14, .ref q_15, .ref q_16])), (q_2, .inr (6, [.int x_6, .ref q_3, .ref q_4, .ref q_5, .ref q_6, .ref q_7, .int x_7, .ref q_17, .int x_8, .ref q_18, .ref q_19, .ref q_20, .ref q_21, .ref q_22, .ref q_23])), (q_3, .inl (k 0, 40, .inl f_9)), (q_4, .inl (k 0, 40, .inl f_10)), (q_5, .inl (k 0, 40, .inl f_11)), (q_6, .inl (k 0, 40, .inl f_12)), (q_7, .inl (k 0, 40, .inl f_13)), (q_0, .inr (11, [.ref q_1, .ref q_8, .ref q_9, .ref q_10, .ref q_11, .int (v3 0)]))] := hD
    exact z_iret C0 hr hlk rfl hK hP hD hS (0, fun _ => 0, fun i => [(v3 0), x_6].getD i 0, fun _ => 0, fun i => [f_9, f_10, f_11, f_12, f_13].getD i (fun _ => 0), fun _ => (fun _ => 0), fun _ => (fun _ => none)) ⟨rfl, (by decide), (show 0 ≤ Int32.toInt (x_6 : Int32) ∧ Int32.toInt (x_6 : Int32) ≤ 40 from (by revert h_x_6; first | omega | (simp only [vp_in_iff, Int32.lt_iff_toInt_lt, Int32.le_iff_toInt_le, Int64.lt_iff_toInt_lt, Int64.le_iff_toInt_le, Int32.toInt_toInt64, ← Int32.toInt_inj, ← Int64.toInt_inj, Int32.reduceToInt, Int64.reduceToInt] <;> omega))), h_f_9, h_f_10, h_f_11, h_f_12, h_f_13⟩ [7, 0, 1, 2, 3, 4, 5, 6] rfl rfl rfl dX11_child_44
  · refine lv_if_ne (tgt := 39) hx hb dX11_child_16 (by decide) (fun c4 => absurd (by decide) c4) (fun _ => ?_)
    refine lv_iload_n hx hb dX11_child_19 rfl (lv_at hl 4 rfl) ?_
    refine lv_iconst (v := (-1)) hx hb dX11_child_20 (by decide) ?_
    refine lv_bipush (v := 7) hx hb dX11_child_21 (by decide) ?_
    refine z_bi0 (z_runS (As := [.int x_2, .int (-1), .int 7]) (rest := []) C0 (s_X11_isOutside_1 l D k T x_2 (-1) 7 _) okS_X11_isOutside kM_X11_47 rfl (z_p0 hT hS hA hK hN) rfl hl.1 rfl (Nat.le_of_ble_eq_true rfl) dX11_child_23 rfl) hP hS hA (fun r5 u5 H locs hw5 hP hS => ?_)
    obtain ⟨i5, a5, v5, w5, f5, g5, o5⟩ := u5
    dsimp only at hw5
    rcases hw5 with ⟨rfl, rfl, c5⟩ | ⟨rfl, rfl, c5⟩
    · refine lv_if_ne (tgt := 39) hx hb dX11_child_26 (by decide) (fun _ => ?_) (fun c6 => absurd c6 (by decide))
      refine lv_aload_n hx hb dX11_child_39 rfl (lv_at hl 1 rfl) ?_
      refine lv_iconst (v := (-1)) hx hb dX11_child_40 (by decide) ?_
      refine z_bi (wr := [(q_1, .inr (3, [.ref q_2, .ref q_12, .ref q_13, .ref q_14, .ref q_15, .ref q_16])), (q_2, .inr (6, [.int x_6, .ref q_3, .ref q_4, .ref q_5, .ref q_6, .ref q_7, .int x_7, .ref q_17, .int x_8, .ref q_18, .ref q_19, .ref q_20, .ref q_21, .ref q_22, .ref q_23])), (q_3, .inl (k 0, 40, .inl f_9)), (q_4, .inl (k 0, 40, .inl f_10)), (q_5, .inl (k 0, 40, .inl f_11)), (q_6, .inl (k 0, 40, .inl f_12)), (q_7, .inl (k 0, 40, .inl f_13))]) (z_runV (C := RX11) (As := [.int (-1)]) (rest := []) C0 (s_X11_answer_1 l D k T q_0 q_1 q_8 q_9 q_10 q_11 (-1) x_5 _) okV_X11_answer kM_X11_55 rfl (z_pV (q0 := 0) hT hS hA hK hN hP hD [0] rfl rfl rfl rfl rfl) rfl hl.1 rfl (Nat.le_of_ble_eq_true rfl) dX11_child_41 rfl) hP hD hS hA [0] [1, 2, 3, 4, 5, 6, 7] rfl rfl rfl rfl (fun r7 u7 H locs hw7 hP hD hS => ?_)
      obtain ⟨i7, a7, v7, w7, f7, g7, o7⟩ := u7
      dsimp only at hw7
      obtain ⟨rfl, rfl⟩ := hw7
      have hP : va_P D vwCl [(q_1, .inr (3, [.ref q_2, .ref q_12, .ref q_13, .ref q_14, .ref q_15, .ref q_16])), (q_2, .inr (6, [.int x_6, .ref q_3, .ref q_4, .ref q_5, .ref q_6, .ref q_7, .int x_7, .ref q_17, .int x_8, .ref q_18, .ref q_19, .ref q_20, .ref q_21, .ref q_22, .ref q_23])), (q_3, .inl (k 0, 40, .inl f_9)), (q_4, .inl (k 0, 40, .inl f_10)), (q_5, .inl (k 0, 40, .inl f_11)), (q_6, .inl (k 0, 40, .inl f_12)), (q_7, .inl (k 0, 40, .inl f_13)), (q_0, .inr (11, [.ref q_1, .ref q_8, .ref q_9, .ref q_10, .ref q_11, .int (v7 0)]))] H := hP
      have hD : va_D A [(q_1, .inr (3, [.ref q_2, .ref q_12, .ref q_13, .ref q_14, .ref q_15, .ref q_16])), (q_2, .inr (6, [.int x_6, .ref q_3, .ref q_4, .ref q_5, .ref q_6, .ref q_7, .int x_7, .ref q_17, .int x_8, .ref q_18, .ref q_19, .ref q_20, .ref q_21, .ref q_22, .ref q_23])), (q_3, .inl (k 0, 40, .inl f_9)), (q_4, .inl (k 0, 40, .inl f_10)), (q_5, .inl (k 0, 40, .inl f_11)), (q_6, .inl (k 0, 40, .inl f_12)), (q_7, .inl (k 0, 40, .inl f_13)), (q_0, .inr (11, [.ref q_1, .ref q_8, .ref q_9, .ref q_10, .ref q_11, .int (v7 0)]))] := hD
      exact z_iret C0 hr hlk rfl hK hP hD hS (0, fun _ => 0, fun i => [(v7 0), x_6].getD i 0, fun _ => 0, fun i => [f_9, f_10, f_11, f_12, f_13].getD i (fun _ => 0), fun _ => (fun _ => 0), fun _ => (fun _ => none)) ⟨rfl, (by decide), (show 0 ≤ Int32.toInt (x_6 : Int32) ∧ Int32.toInt (x_6 : Int32) ≤ 40 from (by revert h_x_6; first | omega | (simp only [vp_in_iff, Int32.lt_iff_toInt_lt, Int32.le_iff_toInt_le, Int64.lt_iff_toInt_lt, Int64.le_iff_toInt_le, Int32.toInt_toInt64, ← Int32.toInt_inj, ← Int64.toInt_inj, Int32.reduceToInt, Int64.reduceToInt] <;> omega))), h_f_9, h_f_10, h_f_11, h_f_12, h_f_13⟩ [7, 0, 1, 2, 3, 4, 5, 6] rfl rfl rfl dX11_child_44
    · refine lv_if_ne (tgt := 39) hx hb dX11_child_26 (by decide) (fun c8 => absurd (by decide) c8) (fun _ => ?_)
      refine lv_iload hx hb dX11_child_29 (lv_at hl 5 rfl) ?_
      refine lv_iload hx hb dX11_child_31 (lv_at hl 6 rfl) ?_
      refine z_bi0 (z_runS (As := [.int x_3, .int x_4]) (rest := []) C0 (s_X11_isNoPlace_1 l D k T x_3 x_4 _) okS_X11_isNoPlace kM_X11_51 rfl (z_p0 hT hS hA hK hN) rfl hl.1 rfl (Nat.le_of_ble_eq_true rfl) dX11_child_33 rfl) hP hS hA (fun r9 u9 H locs hw9 hP hS => ?_)
      obtain ⟨i9, a9, v9, w9, f9, g9, o9⟩ := u9
      dsimp only at hw9
      rcases hw9 with ⟨rfl, rfl, c9⟩ | ⟨rfl, rfl, hq9_0, hq9_1, c9⟩
      · refine lv_if_eq (tgt := 45) hx hb dX11_child_36 (by decide) (fun c10 => absurd c10 (by decide)) (fun _ => ?_)
        refine lv_aload_n hx hb dX11_child_39 rfl (lv_at hl 1 rfl) ?_
        refine lv_iconst (v := (-1)) hx hb dX11_child_40 (by decide) ?_
        refine z_bi (wr := [(q_1, .inr (3, [.ref q_2, .ref q_12, .ref q_13, .ref q_14, .ref q_15, .ref q_16])), (q_2, .inr (6, [.int x_6, .ref q_3, .ref q_4, .ref q_5, .ref q_6, .ref q_7, .int x_7, .ref q_17, .int x_8, .ref q_18, .ref q_19, .ref q_20, .ref q_21, .ref q_22, .ref q_23])), (q_3, .inl (k 0, 40, .inl f_9)), (q_4, .inl (k 0, 40, .inl f_10)), (q_5, .inl (k 0, 40, .inl f_11)), (q_6, .inl (k 0, 40, .inl f_12)), (q_7, .inl (k 0, 40, .inl f_13))]) (z_runV (C := RX11) (As := [.int (-1)]) (rest := []) C0 (s_X11_answer_1 l D k T q_0 q_1 q_8 q_9 q_10 q_11 (-1) x_5 _) okV_X11_answer kM_X11_55 rfl (z_pV (q0 := 0) hT hS hA hK hN hP hD [0] rfl rfl rfl rfl rfl) rfl hl.1 rfl (Nat.le_of_ble_eq_true rfl) dX11_child_41 rfl) hP hD hS hA [0] [1, 2, 3, 4, 5, 6, 7] rfl rfl rfl rfl (fun r11 u11 H locs hw11 hP hD hS => ?_)
        obtain ⟨i11, a11, v11, w11, f11, g11, o11⟩ := u11
        dsimp only at hw11
        obtain ⟨rfl, rfl⟩ := hw11
        have hP : va_P D vwCl [(q_1, .inr (3, [.ref q_2, .ref q_12, .ref q_13, .ref q_14, .ref q_15, .ref q_16])), (q_2, .inr (6, [.int x_6, .ref q_3, .ref q_4, .ref q_5, .ref q_6, .ref q_7, .int x_7, .ref q_17, .int x_8, .ref q_18, .ref q_19, .ref q_20, .ref q_21, .ref q_22, .ref q_23])), (q_3, .inl (k 0, 40, .inl f_9)), (q_4, .inl (k 0, 40, .inl f_10)), (q_5, .inl (k 0, 40, .inl f_11)), (q_6, .inl (k 0, 40, .inl f_12)), (q_7, .inl (k 0, 40, .inl f_13)), (q_0, .inr (11, [.ref q_1, .ref q_8, .ref q_9, .ref q_10, .ref q_11, .int (v11 0)]))] H := hP
        have hD : va_D A [(q_1, .inr (3, [.ref q_2, .ref q_12, .ref q_13, .ref q_14, .ref q_15, .ref q_16])), (q_2, .inr (6, [.int x_6, .ref q_3, .ref q_4, .ref q_5, .ref q_6, .ref q_7, .int x_7, .ref q_17, .int x_8, .ref q_18, .ref q_19, .ref q_20, .ref q_21, .ref q_22, .ref q_23])), (q_3, .inl (k 0, 40, .inl f_9)), (q_4, .inl (k 0, 40, .inl f_10)), (q_5, .inl (k 0, 40, .inl f_11)), (q_6, .inl (k 0, 40, .inl f_12)), (q_7, .inl (k 0, 40, .inl f_13)), (q_0, .inr (11, [.ref q_1, .ref q_8, .ref q_9, .ref q_10, .ref q_11, .int (v11 0)]))] := hD
        exact z_iret C0 hr hlk rfl hK hP hD hS (0, fun _ => 0, fun i => [(v11 0), x_6].getD i 0, fun _ => 0, fun i => [f_9, f_10, f_11, f_12, f_13].getD i (fun _ => 0), fun _ => (fun _ => 0), fun _ => (fun _ => none)) ⟨rfl, (by decide), (show 0 ≤ Int32.toInt (x_6 : Int32) ∧ Int32.toInt (x_6 : Int32) ≤ 40 from (by revert h_x_6; first | omega | (simp only [vp_in_iff, Int32.lt_iff_toInt_lt, Int32.le_iff_toInt_le, Int64.lt_iff_toInt_lt, Int64.le_iff_toInt_le, Int32.toInt_toInt64, ← Int32.toInt_inj, ← Int64.toInt_inj, Int32.reduceToInt, Int64.reduceToInt] <;> omega))), h_f_9, h_f_10, h_f_11, h_f_12, h_f_13⟩ [7, 0, 1, 2, 3, 4, 5, 6] rfl rfl rfl dX11_child_44
      · refine lv_if_eq (tgt := 45) hx hb dX11_child_36 (by decide) (fun _ => ?_) (fun c12 => absurd (by decide) c12)
        refine lv_aload hx hb dX11_child_45 (lv_at hl 0 rfl) ?_
        refine va_get (D := D) (ci := 6) (v := .int x_6) (C := RX6) (T := TX6) (N := 15) hx hb hts inX6 hown hK hP 2 rfl rfl 0 (by decide) (hts _ kF_X11_59) (fun _ h9 => h9) rfl dX11_child_47 ?_
        refine lv_bipush (v := 40) hx hb dX11_child_50 (by decide) ?_
        refine lv_icmp_lt (tgt := 62) hx hb dX11_child_52 (by decide) (fun c13 => ?_) (fun c13 => ?_)
        · refine lv_aload_n hx hb dX11_child_62 rfl (lv_at hl 1 rfl) ?_
          refine lv_aload hx hb dX11_child_63 (lv_at hl 0 rfl) ?_
          refine lv_iload_n hx hb dX11_child_65 rfl (lv_at hl 2 rfl) ?_
          refine lv_iload_n hx hb dX11_child_66 rfl (lv_at hl 3 rfl) ?_
          refine lv_iload_n hx hb dX11_child_67 rfl (lv_at hl 4 rfl) ?_
          refine lv_iload hx hb dX11_child_68 (lv_at hl 5 rfl) ?_
          refine lv_iload hx hb dX11_child_70 (lv_at hl 6 rfl) ?_
          refine z_bi (wr := [(q_0, .inr (11, [.ref q_1, .ref q_8, .ref q_9, .ref q_10, .ref q_11, .int x_5])), (q_1, .inr (3, [.ref q_2, .ref q_12, .ref q_13, .ref q_14, .ref q_15, .ref q_16]))]) (z_runV (C := RX6) (As := [.int x_0, .int x_1, .int x_2, .int x_3, .int x_4]) (rest := [.ref q_0]) C0 (s_X6_addChild_1 l D k T q_2 q_3 q_4 q_5 q_6 q_7 q_17 q_18 q_19 q_20 q_21 q_22 q_23 x_0 x_1 x_2 x_3 x_4 x_6 x_7 x_8 f_9 f_10 f_11 f_12 f_13 (by revert c1; first | omega | (simp only [vp_in_iff, Int32.lt_iff_toInt_lt, Int32.le_iff_toInt_le, Int64.lt_iff_toInt_lt, Int64.le_iff_toInt_le, Int32.toInt_toInt64, ← Int32.toInt_inj, ← Int64.toInt_inj, Int32.reduceToInt, Int64.reduceToInt] <;> omega)) (by revert c5; first | omega | (simp only [vp_in_iff, Int32.lt_iff_toInt_lt, Int32.le_iff_toInt_le, Int64.lt_iff_toInt_lt, Int64.le_iff_toInt_le, Int32.toInt_toInt64, ← Int32.toInt_inj, ← Int64.toInt_inj, Int32.reduceToInt, Int64.reduceToInt] <;> omega)) (by revert hq9_0 c9 hq9_1; first | omega | (simp only [vp_in_iff, Int32.lt_iff_toInt_lt, Int32.le_iff_toInt_le, Int64.lt_iff_toInt_lt, Int64.le_iff_toInt_le, Int32.toInt_toInt64, ← Int32.toInt_inj, ← Int64.toInt_inj, Int32.reduceToInt, Int64.reduceToInt] <;> omega)) (by revert hq9_1 c9 hq9_0; first | omega | (simp only [vp_in_iff, Int32.lt_iff_toInt_lt, Int32.le_iff_toInt_le, Int64.lt_iff_toInt_lt, Int64.le_iff_toInt_le, Int32.toInt_toInt64, ← Int32.toInt_inj, ← Int64.toInt_inj, Int32.reduceToInt, Int64.reduceToInt] <;> omega)) (by revert h_x_6 c13; first | omega | (simp only [vp_in_iff, Int32.lt_iff_toInt_lt, Int32.le_iff_toInt_le, Int64.lt_iff_toInt_lt, Int64.le_iff_toInt_le, Int32.toInt_toInt64, ← Int32.toInt_inj, ← Int64.toInt_inj, Int32.reduceToInt, Int64.reduceToInt] <;> omega)) (by revert h_x_7; first | omega | (simp only [vp_in_iff, Int32.lt_iff_toInt_lt, Int32.le_iff_toInt_le, Int64.lt_iff_toInt_lt, Int64.le_iff_toInt_le, Int32.toInt_toInt64, ← Int32.toInt_inj, ← Int64.toInt_inj, Int32.reduceToInt, Int64.reduceToInt] <;> omega)) (by revert h_x_8; first | omega | (simp only [vp_in_iff, Int32.lt_iff_toInt_lt, Int32.le_iff_toInt_le, Int64.lt_iff_toInt_lt, Int64.le_iff_toInt_le, Int32.toInt_toInt64, ← Int32.toInt_inj, ← Int64.toInt_inj, Int32.reduceToInt, Int64.reduceToInt] <;> omega)) h_f_9 h_f_10 h_f_11 h_f_12 h_f_13 _) okV_X6_addChild kM_X11_65 rfl (z_pV (q0 := 2) hT hS hA hK hN hP hD [2, 3, 4, 5, 6, 7] rfl rfl rfl rfl rfl) rfl hl.1 rfl (Nat.le_of_ble_eq_true rfl) dX11_child_72 rfl) hP hD hS hA [2, 3, 4, 5, 6, 7] [0, 1] rfl rfl rfl rfl (fun r14 u14 H locs hw14 hP hD hS => ?_)
          obtain ⟨i14, a14, v14, w14, f14, g14, o14⟩ := u14
          dsimp only at hw14
          obtain ⟨rfl, hr14, hq14_0, hq14_1, hq14_2, hq14_3, hq14_4, hq14_5⟩ := hw14
          have hP : va_P D vwCl [(q_0, .inr (11, [.ref q_1, .ref q_8, .ref q_9, .ref q_10, .ref q_11, .int x_5])), (q_1, .inr (3, [.ref q_2, .ref q_12, .ref q_13, .ref q_14, .ref q_15, .ref q_16])), (q_2, .inr (6, [.int (v14 0), .ref q_3, .ref q_4, .ref q_5, .ref q_6, .ref q_7, .int x_7, .ref q_17, .int x_8, .ref q_18, .ref q_19, .ref q_20, .ref q_21, .ref q_22, .ref q_23])), (q_3, .inl (k 0, 40, .inl (f14 0))), (q_4, .inl (k 0, 40, .inl (f14 1))), (q_5, .inl (k 0, 40, .inl (f14 2))), (q_6, .inl (k 0, 40, .inl (f14 3))), (q_7, .inl (k 0, 40, .inl (f14 4)))] H := hP
          have hD : va_D A [(q_0, .inr (11, [.ref q_1, .ref q_8, .ref q_9, .ref q_10, .ref q_11, .int x_5])), (q_1, .inr (3, [.ref q_2, .ref q_12, .ref q_13, .ref q_14, .ref q_15, .ref q_16])), (q_2, .inr (6, [.int (v14 0), .ref q_3, .ref q_4, .ref q_5, .ref q_6, .ref q_7, .int x_7, .ref q_17, .int x_8, .ref q_18, .ref q_19, .ref q_20, .ref q_21, .ref q_22, .ref q_23])), (q_3, .inl (k 0, 40, .inl (f14 0))), (q_4, .inl (k 0, 40, .inl (f14 1))), (q_5, .inl (k 0, 40, .inl (f14 2))), (q_6, .inl (k 0, 40, .inl (f14 3))), (q_7, .inl (k 0, 40, .inl (f14 4)))] := hD
          refine z_bi (wr := [(q_1, .inr (3, [.ref q_2, .ref q_12, .ref q_13, .ref q_14, .ref q_15, .ref q_16])), (q_2, .inr (6, [.int (v14 0), .ref q_3, .ref q_4, .ref q_5, .ref q_6, .ref q_7, .int x_7, .ref q_17, .int x_8, .ref q_18, .ref q_19, .ref q_20, .ref q_21, .ref q_22, .ref q_23])), (q_3, .inl (k 0, 40, .inl (f14 0))), (q_4, .inl (k 0, 40, .inl (f14 1))), (q_5, .inl (k 0, 40, .inl (f14 2))), (q_6, .inl (k 0, 40, .inl (f14 3))), (q_7, .inl (k 0, 40, .inl (f14 4)))]) (z_runV (C := RX11) (As := [.int r14]) (rest := []) C0 (s_X11_answer_1 l D k T q_0 q_1 q_8 q_9 q_10 q_11 r14 x_5 _) okV_X11_answer kM_X11_55 rfl (z_pV (q0 := 0) hT hS hA hK hN hP hD [0] rfl rfl rfl rfl rfl) rfl hl.1 rfl (Nat.le_of_ble_eq_true rfl) dX11_child_75 rfl) hP hD hS hA [0] [1, 2, 3, 4, 5, 6, 7] rfl rfl rfl rfl (fun r15 u15 H locs hw15 hP hD hS => ?_)
          obtain ⟨i15, a15, v15, w15, f15, g15, o15⟩ := u15
          dsimp only at hw15
          obtain ⟨rfl, rfl⟩ := hw15
          have hP : va_P D vwCl [(q_1, .inr (3, [.ref q_2, .ref q_12, .ref q_13, .ref q_14, .ref q_15, .ref q_16])), (q_2, .inr (6, [.int (v14 0), .ref q_3, .ref q_4, .ref q_5, .ref q_6, .ref q_7, .int x_7, .ref q_17, .int x_8, .ref q_18, .ref q_19, .ref q_20, .ref q_21, .ref q_22, .ref q_23])), (q_3, .inl (k 0, 40, .inl (f14 0))), (q_4, .inl (k 0, 40, .inl (f14 1))), (q_5, .inl (k 0, 40, .inl (f14 2))), (q_6, .inl (k 0, 40, .inl (f14 3))), (q_7, .inl (k 0, 40, .inl (f14 4))), (q_0, .inr (11, [.ref q_1, .ref q_8, .ref q_9, .ref q_10, .ref q_11, .int (v15 0)]))] H := hP
          have hD : va_D A [(q_1, .inr (3, [.ref q_2, .ref q_12, .ref q_13, .ref q_14, .ref q_15, .ref q_16])), (q_2, .inr (6, [.int (v14 0), .ref q_3, .ref q_4, .ref q_5, .ref q_6, .ref q_7, .int x_7, .ref q_17, .int x_8, .ref q_18, .ref q_19, .ref q_20, .ref q_21, .ref q_22, .ref q_23])), (q_3, .inl (k 0, 40, .inl (f14 0))), (q_4, .inl (k 0, 40, .inl (f14 1))), (q_5, .inl (k 0, 40, .inl (f14 2))), (q_6, .inl (k 0, 40, .inl (f14 3))), (q_7, .inl (k 0, 40, .inl (f14 4))), (q_0, .inr (11, [.ref q_1, .ref q_8, .ref q_9, .ref q_10, .ref q_11, .int (v15 0)]))] := hD
          exact z_iret C0 hr hlk rfl hK hP hD hS (0, fun _ => 0, fun i => [(v15 0), (v14 0)].getD i 0, fun _ => 0, fun i => [(f14 0), (f14 1), (f14 2), (f14 3), (f14 4)].getD i (fun _ => 0), fun _ => (fun _ => 0), fun _ => (fun _ => none)) ⟨rfl, (by revert hr14; first | omega | (simp only [vp_in_iff, Int32.lt_iff_toInt_lt, Int32.le_iff_toInt_le, Int64.lt_iff_toInt_lt, Int64.le_iff_toInt_le, Int32.toInt_toInt64, ← Int32.toInt_inj, ← Int64.toInt_inj, Int32.reduceToInt, Int64.reduceToInt] <;> omega)), (show 0 ≤ Int32.toInt ((v14 0) : Int32) ∧ Int32.toInt ((v14 0) : Int32) ≤ 40 from (by revert hq14_0; first | omega | (simp only [vp_in_iff, Int32.lt_iff_toInt_lt, Int32.le_iff_toInt_le, Int64.lt_iff_toInt_lt, Int64.le_iff_toInt_le, Int32.toInt_toInt64, ← Int32.toInt_inj, ← Int64.toInt_inj, Int32.reduceToInt, Int64.reduceToInt] <;> omega))), hq14_1, hq14_2, hq14_3, hq14_4, hq14_5⟩ [7, 0, 1, 2, 3, 4, 5, 6] rfl rfl rfl dX11_child_78
        · refine lv_aload_n hx hb dX11_child_55 rfl (lv_at hl 1 rfl) ?_
          refine lv_bipush (v := (-5)) hx hb dX11_child_56 (by decide) ?_
          refine z_bi (wr := [(q_1, .inr (3, [.ref q_2, .ref q_12, .ref q_13, .ref q_14, .ref q_15, .ref q_16])), (q_2, .inr (6, [.int x_6, .ref q_3, .ref q_4, .ref q_5, .ref q_6, .ref q_7, .int x_7, .ref q_17, .int x_8, .ref q_18, .ref q_19, .ref q_20, .ref q_21, .ref q_22, .ref q_23])), (q_3, .inl (k 0, 40, .inl f_9)), (q_4, .inl (k 0, 40, .inl f_10)), (q_5, .inl (k 0, 40, .inl f_11)), (q_6, .inl (k 0, 40, .inl f_12)), (q_7, .inl (k 0, 40, .inl f_13))]) (z_runV (C := RX11) (As := [.int (-5)]) (rest := []) C0 (s_X11_answer_1 l D k T q_0 q_1 q_8 q_9 q_10 q_11 (-5) x_5 _) okV_X11_answer kM_X11_55 rfl (z_pV (q0 := 0) hT hS hA hK hN hP hD [0] rfl rfl rfl rfl rfl) rfl hl.1 rfl (Nat.le_of_ble_eq_true rfl) dX11_child_58 rfl) hP hD hS hA [0] [1, 2, 3, 4, 5, 6, 7] rfl rfl rfl rfl (fun r16 u16 H locs hw16 hP hD hS => ?_)
          obtain ⟨i16, a16, v16, w16, f16, g16, o16⟩ := u16
          dsimp only at hw16
          obtain ⟨rfl, rfl⟩ := hw16
          have hP : va_P D vwCl [(q_1, .inr (3, [.ref q_2, .ref q_12, .ref q_13, .ref q_14, .ref q_15, .ref q_16])), (q_2, .inr (6, [.int x_6, .ref q_3, .ref q_4, .ref q_5, .ref q_6, .ref q_7, .int x_7, .ref q_17, .int x_8, .ref q_18, .ref q_19, .ref q_20, .ref q_21, .ref q_22, .ref q_23])), (q_3, .inl (k 0, 40, .inl f_9)), (q_4, .inl (k 0, 40, .inl f_10)), (q_5, .inl (k 0, 40, .inl f_11)), (q_6, .inl (k 0, 40, .inl f_12)), (q_7, .inl (k 0, 40, .inl f_13)), (q_0, .inr (11, [.ref q_1, .ref q_8, .ref q_9, .ref q_10, .ref q_11, .int (v16 0)]))] H := hP
          have hD : va_D A [(q_1, .inr (3, [.ref q_2, .ref q_12, .ref q_13, .ref q_14, .ref q_15, .ref q_16])), (q_2, .inr (6, [.int x_6, .ref q_3, .ref q_4, .ref q_5, .ref q_6, .ref q_7, .int x_7, .ref q_17, .int x_8, .ref q_18, .ref q_19, .ref q_20, .ref q_21, .ref q_22, .ref q_23])), (q_3, .inl (k 0, 40, .inl f_9)), (q_4, .inl (k 0, 40, .inl f_10)), (q_5, .inl (k 0, 40, .inl f_11)), (q_6, .inl (k 0, 40, .inl f_12)), (q_7, .inl (k 0, 40, .inl f_13)), (q_0, .inr (11, [.ref q_1, .ref q_8, .ref q_9, .ref q_10, .ref q_11, .int (v16 0)]))] := hD
          exact z_iret C0 hr hlk rfl hK hP hD hS (0, fun _ => 0, fun i => [(v16 0), x_6].getD i 0, fun _ => 0, fun i => [f_9, f_10, f_11, f_12, f_13].getD i (fun _ => 0), fun _ => (fun _ => 0), fun _ => (fun _ => none)) ⟨rfl, (by decide), (show 0 ≤ Int32.toInt (x_6 : Int32) ∧ Int32.toInt (x_6 : Int32) ≤ 40 from (by revert h_x_6 c13; first | omega | (simp only [vp_in_iff, Int32.lt_iff_toInt_lt, Int32.le_iff_toInt_le, Int64.lt_iff_toInt_lt, Int64.le_iff_toInt_le, Int32.toInt_toInt64, ← Int32.toInt_inj, ← Int64.toInt_inj, Int32.reduceToInt, Int64.reduceToInt] <;> omega))), h_f_9, h_f_10, h_f_11, h_f_12, h_f_13⟩ [7, 0, 1, 2, 3, 4, 5, 6] rfl rfl rfl dX11_child_61

set_option maxHeartbeats 4000000 in
set_option maxRecDepth 100000 in
theorem s_X11_school_1 (l : Launch) (D : va_G) (k : Nat → ClassId) (T : zTy) (q_0 : Nat) (q_1 : Nat) (q_2 : Nat) (q_3 : Nat) (q_4 : Nat) (q_5 : Nat) (q_6 : Nat) (q_7 : Nat) (q_8 : Nat) (q_9 : Nat) (q_10 : Nat) (q_11 : Nat) (q_12 : Nat) (q_13 : Nat) (q_14 : Nat) (q_15 : Nat) (q_16 : Nat) (q_17 : Nat) (q_18 : Nat) (q_19 : Nat) (q_20 : Nat) (q_21 : Nat) (q_22 : Nat) (q_23 : Nat) (x_0 : Int32) (x_1 : Int32) (x_2 : Int32) (x_3 : Int32) (h_x_1 : 0 ≤ Int32.toInt x_1 ∧ Int32.toInt x_1 ≤ 40) (h_x_2 : 0 ≤ Int32.toInt x_2 ∧ Int32.toInt x_2 ≤ 5) (h_x_3 : 0 ≤ Int32.toInt x_3 ∧ Int32.toInt x_3 ≤ 60) : zMi l yX11_school cX11_school 1 (some .int) ({ frames := 1, cells := 0, slots := 0, locals := 21 }) D k T [.ref q_0] [(q_0, .inr (11, [.ref q_1, .ref q_3, .ref q_4, .ref q_5, .ref q_6, .int x_0])), (q_1, .inr (3, [.ref q_2, .ref q_7, .ref q_8, .ref q_9, .ref q_10, .ref q_11])), (q_2, .inr (6, [.int x_1, .ref q_12, .ref q_13, .ref q_14, .ref q_15, .ref q_16, .int x_2, .ref q_17, .int x_3, .ref q_18, .ref q_19, .ref q_20, .ref q_21, .ref q_22, .ref q_23]))] (fun r u => u.1 = 0 ∧ ((-5) ≤ Int32.toInt r ∧ Int32.toInt r ≤ 4) ∧ (0 ≤ Int32.toInt (u.2.2.1 1) ∧ Int32.toInt (u.2.2.1 1) ≤ 5)) (fun u => [(q_0, .inr (11, [.ref q_1, .ref q_3, .ref q_4, .ref q_5, .ref q_6, .int (u.2.2.1 0)])), (q_1, .inr (3, [.ref q_2, .ref q_7, .ref q_8, .ref q_9, .ref q_10, .ref q_11])), (q_2, .inr (6, [.int x_1, .ref q_12, .ref q_13, .ref q_14, .ref q_15, .ref q_16, .int (u.2.2.1 1), .ref q_17, .int x_3, .ref q_18, .ref q_19, .ref q_20, .ref q_21, .ref q_22, .ref q_23]))]) := by
  refine zMi_of (own := RX11) (by decide +kernel) rfl (Nat.le_of_ble_eq_true rfl) ?_
  intro p e s m args below meth c A ls C0 hr hlk hin hP hD hS hA hK hN hT hl
  have hx := C0.1
  have hb := C0.2.1
  have hml := C0.2.2.1
  have hown := C0.2.2.2.1
  have hts := C0.2.2.2.2
  have hl : lv_has ls 1 [(0, .ref q_0)] := hl
  have hP : va_P D vwCl [(q_0, .inr (11, [.ref q_1, .ref q_3, .ref q_4, .ref q_5, .ref q_6, .int x_0])), (q_1, .inr (3, [.ref q_2, .ref q_7, .ref q_8, .ref q_9, .ref q_10, .ref q_11])), (q_2, .inr (6, [.int x_1, .ref q_12, .ref q_13, .ref q_14, .ref q_15, .ref q_16, .int x_2, .ref q_17, .int x_3, .ref q_18, .ref q_19, .ref q_20, .ref q_21, .ref q_22, .ref q_23]))] s.heap := hP
  refine lv_aload_n hx hb dX11_school_0 rfl (lv_at hl 0 rfl) ?_
  refine va_get (D := D) (ci := 11) (v := .ref q_1) (C := RX11) (T := TX11) (N := 6) hx hb hts inX11 hown hK hP 0 rfl rfl 0 (by decide) (hts _ kF_X11_12) (fun _ h9 => h9) rfl dX11_school_1 ?_
  refine va_get (D := D) (ci := 3) (v := .ref q_2) (C := RX3) (T := TX3) (N := 6) hx hb hts inX3 hown hK hP 1 rfl rfl 0 (by decide) (hts _ kF_X11_43) (fun _ h9 => h9) rfl dX11_school_4 ?_
  refine va_get (D := D) (ci := 6) (v := .int x_2) (C := RX6) (T := TX6) (N := 15) hx hb hts inX6 hown hK hP 2 rfl rfl 6 (by decide) (hts _ kF_X11_69) (fun _ h9 => h9) rfl dX11_school_7 ?_
  refine lv_iconst (v := 5) hx hb dX11_school_10 (by decide) ?_
  refine lv_icmp_lt (tgt := 21) hx hb dX11_school_11 (by decide) (fun c1 => ?_) (fun c1 => ?_)
  · refine lv_aload_n hx hb dX11_school_21 rfl (lv_at hl 0 rfl) ?_
    refine va_get (D := D) (ci := 11) (v := .ref q_1) (C := RX11) (T := TX11) (N := 6) hx hb hts inX11 hown hK hP 0 rfl rfl 0 (by decide) (hts _ kF_X11_12) (fun _ h9 => h9) rfl dX11_school_22 ?_
    refine va_get (D := D) (ci := 3) (v := .ref q_2) (C := RX3) (T := TX3) (N := 6) hx hb hts inX3 hown hK hP 1 rfl rfl 0 (by decide) (hts _ kF_X11_43) (fun _ h9 => h9) rfl dX11_school_25 ?_
    refine lv_dup hx hb dX11_school_28 rfl ?_
    refine va_get (D := D) (ci := 6) (v := .int x_2) (C := RX6) (T := TX6) (N := 15) hx hb hts inX6 hown hK hP 2 rfl rfl 6 (by decide) (hts _ kF_X11_69) (fun _ h9 => h9) rfl dX11_school_29 ?_
    refine lv_iconst (v := 1) hx hb dX11_school_32 (by decide) ?_
    refine lv_iadd hx hb dX11_school_33 ?_
    refine lv_topi (fun y2 ey2 => ?_)
    have hy2 : Int32.toInt y2 = Int32.toInt x_2 + 1 := by rw [ey2]; exact zi_addc rfl (by decide) (by revert h_x_2 c1; first | omega | (simp only [vp_in_iff, Int32.lt_iff_toInt_lt, Int32.le_iff_toInt_le, Int64.lt_iff_toInt_lt, Int64.le_iff_toInt_le, Int32.toInt_toInt64, ← Int32.toInt_inj, ← Int64.toInt_inj, Int32.reduceToInt, Int64.reduceToInt] <;> omega))
    refine va_put (D := D) (ci := 6) (v := .int y2) (ty := .int) (C := RX6) (T := TX6) (N := 15) hx hb hts inX6 tyX6 tyX6_ok nmX6 hown hK hP hD hS 2 rfl rfl 6 (by decide) (hts _ kF_X11_69) (fun _ h9 => h9) rfl (by decide +kernel) rfl rfl (Nat.le_of_ble_eq_true rfl) dX11_school_34 (fun H locs hP hD hS => ?_)
    have hP : va_P D vwCl [(q_0, .inr (11, [.ref q_1, .ref q_3, .ref q_4, .ref q_5, .ref q_6, .int x_0])), (q_1, .inr (3, [.ref q_2, .ref q_7, .ref q_8, .ref q_9, .ref q_10, .ref q_11])), (q_2, .inr (6, [.int x_1, .ref q_12, .ref q_13, .ref q_14, .ref q_15, .ref q_16, .int y2, .ref q_17, .int x_3, .ref q_18, .ref q_19, .ref q_20, .ref q_21, .ref q_22, .ref q_23]))] H := hP
    have hD : va_D A [(q_0, .inr (11, [.ref q_1, .ref q_3, .ref q_4, .ref q_5, .ref q_6, .int x_0])), (q_1, .inr (3, [.ref q_2, .ref q_7, .ref q_8, .ref q_9, .ref q_10, .ref q_11])), (q_2, .inr (6, [.int x_1, .ref q_12, .ref q_13, .ref q_14, .ref q_15, .ref q_16, .int y2, .ref q_17, .int x_3, .ref q_18, .ref q_19, .ref q_20, .ref q_21, .ref q_22, .ref q_23]))] := hD
    refine lv_aload_n hx hb dX11_school_37 rfl (lv_at hl 0 rfl) ?_
    refine lv_aload_n hx hb dX11_school_38 rfl (lv_at hl 0 rfl) ?_
    refine va_get (D := D) (ci := 11) (v := .ref q_1) (C := RX11) (T := TX11) (N := 6) hx hb hts inX11 hown hK hP 0 rfl rfl 0 (by decide) (hts _ kF_X11_12) (fun _ h9 => h9) rfl dX11_school_39 ?_
    refine va_get (D := D) (ci := 3) (v := .ref q_2) (C := RX3) (T := TX3) (N := 6) hx hb hts inX3 hown hK hP 1 rfl rfl 0 (by decide) (hts _ kF_X11_43) (fun _ h9 => h9) rfl dX11_school_42 ?_
    refine va_get (D := D) (ci := 6) (v := .int y2) (C := RX6) (T := TX6) (N := 15) hx hb hts inX6 hown hK hP 2 rfl rfl 6 (by decide) (hts _ kF_X11_69) (fun _ h9 => h9) rfl dX11_school_45 ?_
    refine lv_iconst (v := 1) hx hb dX11_school_48 (by decide) ?_
    refine lv_isub hx hb dX11_school_49 ?_
    refine lv_topi (fun y3 ey3 => ?_)
    have hy3 : Int32.toInt y3 = Int32.toInt y2 - 1 := by rw [ey3]; exact zi_subc rfl (by decide) (by revert h_x_2 c1 hy2; first | omega | (simp only [vp_in_iff, Int32.lt_iff_toInt_lt, Int32.le_iff_toInt_le, Int64.lt_iff_toInt_lt, Int64.le_iff_toInt_le, Int32.toInt_toInt64, ← Int32.toInt_inj, ← Int64.toInt_inj, Int32.reduceToInt, Int64.reduceToInt] <;> omega))
    refine z_bi (wr := [(q_1, .inr (3, [.ref q_2, .ref q_7, .ref q_8, .ref q_9, .ref q_10, .ref q_11])), (q_2, .inr (6, [.int x_1, .ref q_12, .ref q_13, .ref q_14, .ref q_15, .ref q_16, .int y2, .ref q_17, .int x_3, .ref q_18, .ref q_19, .ref q_20, .ref q_21, .ref q_22, .ref q_23]))]) (z_runV (C := RX11) (As := [.int y3]) (rest := []) C0 (s_X11_answer_1 l D k T q_0 q_1 q_3 q_4 q_5 q_6 y3 x_0 _) okV_X11_answer kM_X11_55 rfl (z_pV (q0 := 0) hT hS hA hK hN hP hD [0] rfl rfl rfl rfl rfl) rfl hl.1 rfl (Nat.le_of_ble_eq_true rfl) dX11_school_50 rfl) hP hD hS hA [0] [1, 2] rfl rfl rfl rfl (fun r4 u4 H locs hw4 hP hD hS => ?_)
    obtain ⟨i4, a4, v4, w4, f4, g4, o4⟩ := u4
    dsimp only at hw4
    obtain ⟨rfl, rfl⟩ := hw4
    have hP : va_P D vwCl [(q_1, .inr (3, [.ref q_2, .ref q_7, .ref q_8, .ref q_9, .ref q_10, .ref q_11])), (q_2, .inr (6, [.int x_1, .ref q_12, .ref q_13, .ref q_14, .ref q_15, .ref q_16, .int y2, .ref q_17, .int x_3, .ref q_18, .ref q_19, .ref q_20, .ref q_21, .ref q_22, .ref q_23])), (q_0, .inr (11, [.ref q_1, .ref q_3, .ref q_4, .ref q_5, .ref q_6, .int (v4 0)]))] H := hP
    have hD : va_D A [(q_1, .inr (3, [.ref q_2, .ref q_7, .ref q_8, .ref q_9, .ref q_10, .ref q_11])), (q_2, .inr (6, [.int x_1, .ref q_12, .ref q_13, .ref q_14, .ref q_15, .ref q_16, .int y2, .ref q_17, .int x_3, .ref q_18, .ref q_19, .ref q_20, .ref q_21, .ref q_22, .ref q_23])), (q_0, .inr (11, [.ref q_1, .ref q_3, .ref q_4, .ref q_5, .ref q_6, .int (v4 0)]))] := hD
    exact z_iret C0 hr hlk rfl hK hP hD hS (0, fun _ => 0, fun i => [(v4 0), y2].getD i 0, fun _ => 0, fun _ => (fun _ => 0), fun _ => (fun _ => 0), fun _ => (fun _ => none)) ⟨rfl, (by revert h_x_2 c1 hy2 hy3; first | omega | (simp only [vp_in_iff, Int32.lt_iff_toInt_lt, Int32.le_iff_toInt_le, Int64.lt_iff_toInt_lt, Int64.le_iff_toInt_le, Int32.toInt_toInt64, ← Int32.toInt_inj, ← Int64.toInt_inj, Int32.reduceToInt, Int64.reduceToInt] <;> omega)), (show 0 ≤ Int32.toInt (y2 : Int32) ∧ Int32.toInt (y2 : Int32) ≤ 5 from (by revert h_x_2 c1 hy2 hy3; first | omega | (simp only [vp_in_iff, Int32.lt_iff_toInt_lt, Int32.le_iff_toInt_le, Int64.lt_iff_toInt_lt, Int64.le_iff_toInt_le, Int32.toInt_toInt64, ← Int32.toInt_inj, ← Int64.toInt_inj, Int32.reduceToInt, Int64.reduceToInt] <;> omega)))⟩ [2, 0, 1] rfl rfl rfl dX11_school_53
  · refine lv_aload_n hx hb dX11_school_14 rfl (lv_at hl 0 rfl) ?_
    refine lv_bipush (v := (-5)) hx hb dX11_school_15 (by decide) ?_
    refine z_bi (wr := [(q_1, .inr (3, [.ref q_2, .ref q_7, .ref q_8, .ref q_9, .ref q_10, .ref q_11])), (q_2, .inr (6, [.int x_1, .ref q_12, .ref q_13, .ref q_14, .ref q_15, .ref q_16, .int x_2, .ref q_17, .int x_3, .ref q_18, .ref q_19, .ref q_20, .ref q_21, .ref q_22, .ref q_23]))]) (z_runV (C := RX11) (As := [.int (-5)]) (rest := []) C0 (s_X11_answer_1 l D k T q_0 q_1 q_3 q_4 q_5 q_6 (-5) x_0 _) okV_X11_answer kM_X11_55 rfl (z_pV (q0 := 0) hT hS hA hK hN hP hD [0] rfl rfl rfl rfl rfl) rfl hl.1 rfl (Nat.le_of_ble_eq_true rfl) dX11_school_17 rfl) hP hD hS hA [0] [1, 2] rfl rfl rfl rfl (fun r5 u5 H locs hw5 hP hD hS => ?_)
    obtain ⟨i5, a5, v5, w5, f5, g5, o5⟩ := u5
    dsimp only at hw5
    obtain ⟨rfl, rfl⟩ := hw5
    have hP : va_P D vwCl [(q_1, .inr (3, [.ref q_2, .ref q_7, .ref q_8, .ref q_9, .ref q_10, .ref q_11])), (q_2, .inr (6, [.int x_1, .ref q_12, .ref q_13, .ref q_14, .ref q_15, .ref q_16, .int x_2, .ref q_17, .int x_3, .ref q_18, .ref q_19, .ref q_20, .ref q_21, .ref q_22, .ref q_23])), (q_0, .inr (11, [.ref q_1, .ref q_3, .ref q_4, .ref q_5, .ref q_6, .int (v5 0)]))] H := hP
    have hD : va_D A [(q_1, .inr (3, [.ref q_2, .ref q_7, .ref q_8, .ref q_9, .ref q_10, .ref q_11])), (q_2, .inr (6, [.int x_1, .ref q_12, .ref q_13, .ref q_14, .ref q_15, .ref q_16, .int x_2, .ref q_17, .int x_3, .ref q_18, .ref q_19, .ref q_20, .ref q_21, .ref q_22, .ref q_23])), (q_0, .inr (11, [.ref q_1, .ref q_3, .ref q_4, .ref q_5, .ref q_6, .int (v5 0)]))] := hD
    exact z_iret C0 hr hlk rfl hK hP hD hS (0, fun _ => 0, fun i => [(v5 0), x_2].getD i 0, fun _ => 0, fun _ => (fun _ => 0), fun _ => (fun _ => 0), fun _ => (fun _ => none)) ⟨rfl, (by decide), (show 0 ≤ Int32.toInt (x_2 : Int32) ∧ Int32.toInt (x_2 : Int32) ≤ 5 from (by revert h_x_2 c1; first | omega | (simp only [vp_in_iff, Int32.lt_iff_toInt_lt, Int32.le_iff_toInt_le, Int64.lt_iff_toInt_lt, Int64.le_iff_toInt_le, Int32.toInt_toInt64, ← Int32.toInt_inj, ← Int64.toInt_inj, Int32.reduceToInt, Int64.reduceToInt] <;> omega)))⟩ [2, 0, 1] rfl rfl rfl dX11_school_20

set_option maxHeartbeats 4000000 in
set_option maxRecDepth 100000 in
theorem s_X11_isNoDay_1 (l : Launch) (D : va_G) (k : Nat → ClassId) (T : zTy) (x_0 : Int32) : zMi l yX11_isNoDay cX11_isNoDay 1 (some .boolean) ({ frames := 0, cells := 0, slots := 0, locals := 0 }) D k T [.int x_0] [] (fun r u => (u.1 = 0 ∧ r = 1 ∧ ((x_0 < 0) ∨ (¬ x_0 < 0 ∧ ¬ x_0 < 400))) ∨ (u.1 = 1 ∧ r = 0 ∧ (0 ≤ Int32.toInt x_0 ∧ Int32.toInt x_0 ≤ 399) ∧ ((¬ x_0 < 0 ∧ x_0 < 400)))) (fun u => []) := by
  refine zMi_of (own := RX11) (by decide +kernel) rfl (Nat.le_of_ble_eq_true rfl) ?_
  intro p e s m args below meth c A ls C0 hr hlk hin hP hD hS hA hK hN hT hl
  have hx := C0.1
  have hb := C0.2.1
  have hml := C0.2.2.1
  have hown := C0.2.2.2.1
  have hts := C0.2.2.2.2
  have hl : lv_has ls 1 [(0, .int x_0)] := hl
  have hP : va_P D vwCl [] s.heap := hP
  refine lv_iload_n hx hb dX11_isNoDay_0 rfl (lv_at hl 0 rfl) ?_
  refine lv_if_lt (tgt := 11) hx hb dX11_isNoDay_1 (by decide) (fun c1 => ?_) (fun c1 => ?_)
  · refine lv_iconst (v := 1) hx hb dX11_isNoDay_11 (by decide) ?_
    refine lv_goto (tgt := 16) hx hb dX11_isNoDay_12 (by decide) ?_
    exact z_iret C0 hr hlk rfl hK hP hD hS (0, fun _ => 0, fun _ => 0, fun _ => 0, fun _ => (fun _ => 0), fun _ => (fun _ => 0), fun _ => (fun _ => none)) (Or.inl ⟨rfl, rfl, (Or.inl c1)⟩) [] rfl rfl rfl dX11_isNoDay_16
  · refine lv_iload_n hx hb dX11_isNoDay_4 rfl (lv_at hl 0 rfl) ?_
    refine lv_sipush (v := 400) hx hb dX11_isNoDay_5 (by decide) ?_
    refine lv_icmp_lt (tgt := 15) hx hb dX11_isNoDay_8 (by decide) (fun c2 => ?_) (fun c2 => ?_)
    · refine lv_iconst (v := 0) hx hb dX11_isNoDay_15 (by decide) ?_
      exact z_iret C0 hr hlk rfl hK hP hD hS (1, fun _ => 0, fun _ => 0, fun _ => 0, fun _ => (fun _ => 0), fun _ => (fun _ => 0), fun _ => (fun _ => none)) (Or.inr (⟨rfl, rfl, (show 0 ≤ Int32.toInt x_0 ∧ Int32.toInt x_0 ≤ 399 from (by revert c1 c2; first | omega | (simp only [vp_in_iff, Int32.lt_iff_toInt_lt, Int32.le_iff_toInt_le, Int64.lt_iff_toInt_lt, Int64.le_iff_toInt_le, Int32.toInt_toInt64, ← Int32.toInt_inj, ← Int64.toInt_inj, Int32.reduceToInt, Int64.reduceToInt] <;> omega))), ⟨c1, c2⟩⟩)) [] rfl rfl rfl dX11_isNoDay_16
    · refine lv_iconst (v := 1) hx hb dX11_isNoDay_11 (by decide) ?_
      refine lv_goto (tgt := 16) hx hb dX11_isNoDay_12 (by decide) ?_
      exact z_iret C0 hr hlk rfl hK hP hD hS (0, fun _ => 0, fun _ => 0, fun _ => 0, fun _ => (fun _ => 0), fun _ => (fun _ => 0), fun _ => (fun _ => none)) (Or.inl ⟨rfl, rfl, (Or.inr (⟨c1, c2⟩))⟩) [] rfl rfl rfl dX11_isNoDay_16

set_option maxHeartbeats 4000000 in
set_option maxRecDepth 100000 in
theorem s_X6_isNoSchool_1 (l : Launch) (D : va_G) (k : Nat → ClassId) (T : zTy) (q_0 : Nat) (q_1 : Nat) (q_2 : Nat) (q_3 : Nat) (q_4 : Nat) (q_5 : Nat) (q_6 : Nat) (q_7 : Nat) (q_8 : Nat) (q_9 : Nat) (q_10 : Nat) (q_11 : Nat) (q_12 : Nat) (x_0 : Int32) (x_1 : Int32) (x_2 : Int32) (x_3 : Int32) (h_x_1 : 0 ≤ Int32.toInt x_1 ∧ Int32.toInt x_1 ≤ 40) (h_x_2 : 0 ≤ Int32.toInt x_2 ∧ Int32.toInt x_2 ≤ 5) (h_x_3 : 0 ≤ Int32.toInt x_3 ∧ Int32.toInt x_3 ≤ 60) : zMi l yX6_isNoSchool cX6_isNoSchool 2 (some .boolean) ({ frames := 0, cells := 0, slots := 0, locals := 0 }) D k T [.ref q_0, .int x_0] [(q_0, .inr (6, [.int x_1, .ref q_1, .ref q_2, .ref q_3, .ref q_4, .ref q_5, .int x_2, .ref q_6, .int x_3, .ref q_7, .ref q_8, .ref q_9, .ref q_10, .ref q_11, .ref q_12]))] (fun r u => (u.1 = 0 ∧ r = 1 ∧ ((x_0 < 0) ∨ (¬ x_0 < 0 ∧ ¬ x_0 < x_2))) ∨ (u.1 = 1 ∧ r = 0 ∧ (0 ≤ Int32.toInt x_0 ∧ Int32.toInt x_0 ≤ 4) ∧ ((¬ x_0 < 0 ∧ x_0 < x_2)))) (fun u => [(q_0, .inr (6, [.int x_1, .ref q_1, .ref q_2, .ref q_3, .ref q_4, .ref q_5, .int x_2, .ref q_6, .int x_3, .ref q_7, .ref q_8, .ref q_9, .ref q_10, .ref q_11, .ref q_12]))]) := by
  refine zMi_of (own := RX6) (by decide +kernel) rfl (Nat.le_of_ble_eq_true rfl) ?_
  intro p e s m args below meth c A ls C0 hr hlk hin hP hD hS hA hK hN hT hl
  have hx := C0.1
  have hb := C0.2.1
  have hml := C0.2.2.1
  have hown := C0.2.2.2.1
  have hts := C0.2.2.2.2
  have hl : lv_has ls 2 [(0, .ref q_0), (1, .int x_0)] := hl
  have hP : va_P D vwCl [(q_0, .inr (6, [.int x_1, .ref q_1, .ref q_2, .ref q_3, .ref q_4, .ref q_5, .int x_2, .ref q_6, .int x_3, .ref q_7, .ref q_8, .ref q_9, .ref q_10, .ref q_11, .ref q_12]))] s.heap := hP
  refine lv_iload_n hx hb dX6_isNoSchool_0 rfl (lv_at hl 1 rfl) ?_
  refine lv_if_lt (tgt := 12) hx hb dX6_isNoSchool_1 (by decide) (fun c1 => ?_) (fun c1 => ?_)
  · refine lv_iconst (v := 1) hx hb dX6_isNoSchool_12 (by decide) ?_
    refine lv_goto (tgt := 17) hx hb dX6_isNoSchool_13 (by decide) ?_
    exact z_iret C0 hr hlk rfl hK hP hD hS (0, fun _ => 0, fun _ => 0, fun _ => 0, fun _ => (fun _ => 0), fun _ => (fun _ => 0), fun _ => (fun _ => none)) (Or.inl ⟨rfl, rfl, (Or.inl c1)⟩) [0] rfl rfl rfl dX6_isNoSchool_17
  · refine lv_iload_n hx hb dX6_isNoSchool_4 rfl (lv_at hl 1 rfl) ?_
    refine lv_aload_n hx hb dX6_isNoSchool_5 rfl (lv_at hl 0 rfl) ?_
    refine va_get (D := D) (ci := 6) (v := .int x_2) (C := RX6) (T := TX6) (N := 15) hx hb hts inX6 hown hK hP 0 rfl rfl 6 (by decide) (hts _ kF_X6_52) (fun _ h9 => h9) rfl dX6_isNoSchool_6 ?_
    refine lv_icmp_lt (tgt := 16) hx hb dX6_isNoSchool_9 (by decide) (fun c2 => ?_) (fun c2 => ?_)
    · refine lv_iconst (v := 0) hx hb dX6_isNoSchool_16 (by decide) ?_
      exact z_iret C0 hr hlk rfl hK hP hD hS (1, fun _ => 0, fun _ => 0, fun _ => 0, fun _ => (fun _ => 0), fun _ => (fun _ => 0), fun _ => (fun _ => none)) (Or.inr (⟨rfl, rfl, (show 0 ≤ Int32.toInt x_0 ∧ Int32.toInt x_0 ≤ 4 from (by revert c1 c2 h_x_2; first | omega | (simp only [vp_in_iff, Int32.lt_iff_toInt_lt, Int32.le_iff_toInt_le, Int64.lt_iff_toInt_lt, Int64.le_iff_toInt_le, Int32.toInt_toInt64, ← Int32.toInt_inj, ← Int64.toInt_inj, Int32.reduceToInt, Int64.reduceToInt] <;> omega))), ⟨c1, c2⟩⟩)) [0] rfl rfl rfl dX6_isNoSchool_17
    · refine lv_iconst (v := 1) hx hb dX6_isNoSchool_12 (by decide) ?_
      refine lv_goto (tgt := 17) hx hb dX6_isNoSchool_13 (by decide) ?_
      exact z_iret C0 hr hlk rfl hK hP hD hS (0, fun _ => 0, fun _ => 0, fun _ => 0, fun _ => (fun _ => 0), fun _ => (fun _ => 0), fun _ => (fun _ => none)) (Or.inl ⟨rfl, rfl, (Or.inr (⟨c1, c2⟩))⟩) [0] rfl rfl rfl dX6_isNoSchool_17

set_option maxHeartbeats 4000000 in
set_option maxRecDepth 100000 in
theorem s_X6_isShut_1 (l : Launch) (D : va_G) (k : Nat → ClassId) (T : zTy) (q_0 : Nat) (q_1 : Nat) (q_2 : Nat) (q_3 : Nat) (q_4 : Nat) (q_5 : Nat) (q_6 : Nat) (q_7 : Nat) (q_8 : Nat) (q_9 : Nat) (q_10 : Nat) (q_11 : Nat) (q_12 : Nat) (x_0 : Int32) (x_1 : Int32) (x_2 : Int32) (x_3 : Int32) (x_4 : Int32) (f_5 : Nat → Int32) (h_x_0 : 0 ≤ Int32.toInt x_0 ∧ Int32.toInt x_0 ≤ 4) (h_x_1 : 0 ≤ Int32.toInt x_1 ∧ Int32.toInt x_1 ≤ 399) (h_x_2 : 0 ≤ Int32.toInt x_2 ∧ Int32.toInt x_2 ≤ 40) (h_x_3 : 1 ≤ Int32.toInt x_3 ∧ Int32.toInt x_3 ≤ 5) (h_x_4 : 0 ≤ Int32.toInt x_4 ∧ Int32.toInt x_4 ≤ 60) : zMi l yX6_isShut cX6_isShut 3 (some .boolean) ({ frames := 0, cells := 0, slots := 0, locals := 0 }) D k T [.ref q_0, .int x_0, .int x_1] [(q_0, .inr (6, [.int x_2, .ref q_2, .ref q_3, .ref q_4, .ref q_5, .ref q_6, .int x_3, .ref q_1, .int x_4, .ref q_7, .ref q_8, .ref q_9, .ref q_10, .ref q_11, .ref q_12])), (q_1, .inl (k 0, 400, .inl f_5))] (fun r u => (u.1 = 0 ∧ r = 0) ∨ (u.1 = 1 ∧ r = 1)) (fun u => [(q_0, .inr (6, [.int x_2, .ref q_2, .ref q_3, .ref q_4, .ref q_5, .ref q_6, .int x_3, .ref q_1, .int x_4, .ref q_7, .ref q_8, .ref q_9, .ref q_10, .ref q_11, .ref q_12])), (q_1, .inl (k 0, 400, .inl f_5))]) := by
  refine zMi_of (own := RX6) (by decide +kernel) rfl (Nat.le_of_ble_eq_true rfl) ?_
  intro p e s m args below meth c A ls C0 hr hlk hin hP hD hS hA hK hN hT hl
  have hx := C0.1
  have hb := C0.2.1
  have hml := C0.2.2.1
  have hown := C0.2.2.2.1
  have hts := C0.2.2.2.2
  have hl : lv_has ls 3 [(0, .ref q_0), (1, .int x_0), (2, .int x_1)] := hl
  have hP : va_P D vwCl [(q_0, .inr (6, [.int x_2, .ref q_2, .ref q_3, .ref q_4, .ref q_5, .ref q_6, .int x_3, .ref q_1, .int x_4, .ref q_7, .ref q_8, .ref q_9, .ref q_10, .ref q_11, .ref q_12])), (q_1, .inl (k 0, 400, .inl f_5))] s.heap := hP
  refine lv_aload_n hx hb dX6_isShut_0 rfl (lv_at hl 0 rfl) ?_
  refine va_get (D := D) (ci := 6) (v := .ref q_1) (C := RX6) (T := TX6) (N := 15) hx hb hts inX6 hown hK hP 0 rfl rfl 7 (by decide) (hts _ kF_X6_27) (fun _ h9 => h9) rfl dX6_isShut_1 ?_
  refine lv_iload_n hx hb dX6_isShut_4 rfl (lv_at hl 2 rfl) ?_
  refine va_iald hx hb hK hP 1 0 rfl rfl (by revert h_x_1; first | omega | (simp only [vp_in_iff, Int32.lt_iff_toInt_lt, Int32.le_iff_toInt_le, Int64.lt_iff_toInt_lt, Int64.le_iff_toInt_le, Int32.toInt_toInt64, ← Int32.toInt_inj, ← Int64.toInt_inj, Int32.reduceToInt, Int64.reduceToInt] <;> omega)) dX6_isShut_5 ?_
  refine lv_topi (fun y1 ey1 => ?_)
  refine lv_iload_n hx hb dX6_isShut_6 rfl (lv_at hl 1 rfl) ?_
  refine lv_ishr hx hb dX6_isShut_7 ?_
  refine lv_topi (fun y2 ey2 => ?_)
  refine lv_iconst (v := 1) hx hb dX6_isShut_8 (by decide) ?_
  refine lv_iand hx hb dX6_isShut_9 ?_
  refine lv_topi (fun y3 ey3 => ?_)
  have hy3 : 0 ≤ Int32.toInt y3 ∧ Int32.toInt y3 ≤ 1 := by rw [ey3]; exact zo_and _ (by decide)
  refine lv_iconst (v := 1) hx hb dX6_isShut_10 (by decide) ?_
  refine lv_icmp_ne (tgt := 18) hx hb dX6_isShut_11 (by decide) (fun c4 => ?_) (fun c4 => ?_)
  · refine lv_iconst (v := 0) hx hb dX6_isShut_18 (by decide) ?_
    exact z_iret C0 hr hlk rfl hK hP hD hS (0, fun _ => 0, fun _ => 0, fun _ => 0, fun _ => (fun _ => 0), fun _ => (fun _ => 0), fun _ => (fun _ => none)) (Or.inl ⟨rfl, rfl⟩) [0, 1] rfl rfl rfl dX6_isShut_19
  · refine lv_iconst (v := 1) hx hb dX6_isShut_14 (by decide) ?_
    refine lv_goto (tgt := 19) hx hb dX6_isShut_15 (by decide) ?_
    exact z_iret C0 hr hlk rfl hK hP hD hS (1, fun _ => 0, fun _ => 0, fun _ => 0, fun _ => (fun _ => 0), fun _ => (fun _ => 0), fun _ => (fun _ => none)) (Or.inr (⟨rfl, rfl⟩)) [0, 1] rfl rfl rfl dX6_isShut_19

set_option maxHeartbeats 4000000 in
set_option maxRecDepth 100000 in
theorem s_X11_shut_1 (l : Launch) (D : va_G) (k : Nat → ClassId) (T : zTy) (q_0 : Nat) (q_1 : Nat) (q_2 : Nat) (q_3 : Nat) (q_4 : Nat) (q_5 : Nat) (q_6 : Nat) (q_7 : Nat) (q_8 : Nat) (q_9 : Nat) (q_10 : Nat) (q_11 : Nat) (q_12 : Nat) (q_13 : Nat) (q_14 : Nat) (q_15 : Nat) (q_16 : Nat) (q_17 : Nat) (q_18 : Nat) (q_19 : Nat) (q_20 : Nat) (q_21 : Nat) (q_22 : Nat) (q_23 : Nat) (x_0 : Int32) (x_1 : Int32) (x_2 : Int32) (x_3 : Int32) (x_4 : Int32) (x_5 : Int32) (f_6 : Nat → Int32) (h_x_3 : 0 ≤ Int32.toInt x_3 ∧ Int32.toInt x_3 ≤ 40) (h_x_4 : 0 ≤ Int32.toInt x_4 ∧ Int32.toInt x_4 ≤ 5) (h_x_5 : 0 ≤ Int32.toInt x_5 ∧ Int32.toInt x_5 ≤ 60) : zMi l yX11_shut cX11_shut 4 (some .int) ({ frames := 1, cells := 0, slots := 0, locals := 22 }) D k T [.ref q_0, .int x_0, .int x_1] [(q_0, .inr (11, [.ref q_1, .ref q_4, .ref q_5, .ref q_6, .ref q_7, .int x_2])), (q_1, .inr (3, [.ref q_2, .ref q_8, .ref q_9, .ref q_10, .ref q_11, .ref q_12])), (q_2, .inr (6, [.int x_3, .ref q_13, .ref q_14, .ref q_15, .ref q_16, .ref q_17, .int x_4, .ref q_3, .int x_5, .ref q_18, .ref q_19, .ref q_20, .ref q_21, .ref q_22, .ref q_23])), (q_3, .inl (k 0, 400, .inl f_6))] (fun r u => u.1 = 0 ∧ ((-4) ≤ Int32.toInt r ∧ Int32.toInt r ≤ 0)) (fun u => [(q_0, .inr (11, [.ref q_1, .ref q_4, .ref q_5, .ref q_6, .ref q_7, .int (u.2.2.1 0)])), (q_1, .inr (3, [.ref q_2, .ref q_8, .ref q_9, .ref q_10, .ref q_11, .ref q_12])), (q_2, .inr (6, [.int x_3, .ref q_13, .ref q_14, .ref q_15, .ref q_16, .ref q_17, .int x_4, .ref q_3, .int x_5, .ref q_18, .ref q_19, .ref q_20, .ref q_21, .ref q_22, .ref q_23])), (q_3, .inl (k 0, 400, .inl (u.2.2.2.2.1 0)))]) := by
  refine zMi_of (own := RX11) (by decide +kernel) rfl (Nat.le_of_ble_eq_true rfl) ?_
  intro p e s m args below meth c A ls C0 hr hlk hin hP hD hS hA hK hN hT hl
  have hx := C0.1
  have hb := C0.2.1
  have hml := C0.2.2.1
  have hown := C0.2.2.2.1
  have hts := C0.2.2.2.2
  have hl : lv_has ls 4 [(0, .ref q_0), (1, .int x_0), (2, .int x_1)] := hl
  have hP : va_P D vwCl [(q_0, .inr (11, [.ref q_1, .ref q_4, .ref q_5, .ref q_6, .ref q_7, .int x_2])), (q_1, .inr (3, [.ref q_2, .ref q_8, .ref q_9, .ref q_10, .ref q_11, .ref q_12])), (q_2, .inr (6, [.int x_3, .ref q_13, .ref q_14, .ref q_15, .ref q_16, .ref q_17, .int x_4, .ref q_3, .int x_5, .ref q_18, .ref q_19, .ref q_20, .ref q_21, .ref q_22, .ref q_23])), (q_3, .inl (k 0, 400, .inl f_6))] s.heap := hP
  refine lv_aload_n hx hb dX11_shut_0 rfl (lv_at hl 0 rfl) ?_
  refine va_get (D := D) (ci := 11) (v := .ref q_1) (C := RX11) (T := TX11) (N := 6) hx hb hts inX11 hown hK hP 0 rfl rfl 0 (by decide) (hts _ kF_X11_12) (fun _ h9 => h9) rfl dX11_shut_1 ?_
  refine va_get (D := D) (ci := 3) (v := .ref q_2) (C := RX3) (T := TX3) (N := 6) hx hb hts inX3 hown hK hP 1 rfl rfl 0 (by decide) (hts _ kF_X11_43) (fun _ h9 => h9) rfl dX11_shut_4 ?_
  refine lv_astore_n (lv' := [(3, .ref q_2), (0, .ref q_0), (1, .int x_0), (2, .int x_1)]) hx hb dX11_shut_7 rfl hl (by decide) rfl (fun ls hl => ?_)
  refine lv_iload_n hx hb dX11_shut_8 rfl (lv_at hl 3 rfl) ?_
  refine z_bi0 (z_runS (As := [.int x_1]) (rest := []) C0 (s_X11_isNoDay_1 l D k T x_1 _) okS_X11_isNoDay kM_X11_72 rfl (z_p0 hT hS hA hK hN) rfl hl.1 rfl (Nat.le_of_ble_eq_true rfl) dX11_shut_9 rfl) hP hS hA (fun r1 u1 H locs hw1 hP hS => ?_)
  obtain ⟨i1, a1, v1, w1, f1, g1, o1⟩ := u1
  dsimp only at hw1
  rcases hw1 with ⟨rfl, rfl, c1⟩ | ⟨rfl, rfl, hq1_0, c1⟩
  · refine lv_if_eq (tgt := 21) hx hb dX11_shut_12 (by decide) (fun c2 => absurd c2 (by decide)) (fun _ => ?_)
    refine lv_aload_n hx hb dX11_shut_15 rfl (lv_at hl 1 rfl) ?_
    refine lv_iconst (v := (-1)) hx hb dX11_shut_16 (by decide) ?_
    refine z_bi (wr := [(q_1, .inr (3, [.ref q_2, .ref q_8, .ref q_9, .ref q_10, .ref q_11, .ref q_12])), (q_2, .inr (6, [.int x_3, .ref q_13, .ref q_14, .ref q_15, .ref q_16, .ref q_17, .int x_4, .ref q_3, .int x_5, .ref q_18, .ref q_19, .ref q_20, .ref q_21, .ref q_22, .ref q_23])), (q_3, .inl (k 0, 400, .inl f_6))]) (z_runV (C := RX11) (As := [.int (-1)]) (rest := []) C0 (s_X11_answer_1 l D k T q_0 q_1 q_4 q_5 q_6 q_7 (-1) x_2 _) okV_X11_answer kM_X11_55 rfl (z_pV (q0 := 0) hT hS hA hK hN hP hD [0] rfl rfl rfl rfl rfl) rfl hl.1 rfl (Nat.le_of_ble_eq_true rfl) dX11_shut_17 rfl) hP hD hS hA [0] [1, 2, 3] rfl rfl rfl rfl (fun r3 u3 H locs hw3 hP hD hS => ?_)
    obtain ⟨i3, a3, v3, w3, f3, g3, o3⟩ := u3
    dsimp only at hw3
    obtain ⟨rfl, rfl⟩ := hw3
    have hP : va_P D vwCl [(q_1, .inr (3, [.ref q_2, .ref q_8, .ref q_9, .ref q_10, .ref q_11, .ref q_12])), (q_2, .inr (6, [.int x_3, .ref q_13, .ref q_14, .ref q_15, .ref q_16, .ref q_17, .int x_4, .ref q_3, .int x_5, .ref q_18, .ref q_19, .ref q_20, .ref q_21, .ref q_22, .ref q_23])), (q_3, .inl (k 0, 400, .inl f_6)), (q_0, .inr (11, [.ref q_1, .ref q_4, .ref q_5, .ref q_6, .ref q_7, .int (v3 0)]))] H := hP
    have hD : va_D A [(q_1, .inr (3, [.ref q_2, .ref q_8, .ref q_9, .ref q_10, .ref q_11, .ref q_12])), (q_2, .inr (6, [.int x_3, .ref q_13, .ref q_14, .ref q_15, .ref q_16, .ref q_17, .int x_4, .ref q_3, .int x_5, .ref q_18, .ref q_19, .ref q_20, .ref q_21, .ref q_22, .ref q_23])), (q_3, .inl (k 0, 400, .inl f_6)), (q_0, .inr (11, [.ref q_1, .ref q_4, .ref q_5, .ref q_6, .ref q_7, .int (v3 0)]))] := hD
    exact z_iret C0 hr hlk rfl hK hP hD hS (0, fun _ => 0, fun i => [(v3 0)].getD i 0, fun _ => 0, fun i => [f_6].getD i (fun _ => 0), fun _ => (fun _ => 0), fun _ => (fun _ => none)) ⟨rfl, (by decide)⟩ [3, 0, 1, 2] rfl rfl rfl dX11_shut_20
  · refine lv_if_eq (tgt := 21) hx hb dX11_shut_12 (by decide) (fun _ => ?_) (fun c4 => absurd (by decide) c4)
    refine lv_aload_n hx hb dX11_shut_21 rfl (lv_at hl 0 rfl) ?_
    refine lv_iload_n hx hb dX11_shut_22 rfl (lv_at hl 2 rfl) ?_
    refine z_bi (wr := [(q_0, .inr (11, [.ref q_1, .ref q_4, .ref q_5, .ref q_6, .ref q_7, .int x_2])), (q_1, .inr (3, [.ref q_2, .ref q_8, .ref q_9, .ref q_10, .ref q_11, .ref q_12])), (q_3, .inl (k 0, 400, .inl f_6))]) (z_runV (C := RX6) (As := [.int x_0]) (rest := []) C0 (s_X6_isNoSchool_1 l D k T q_2 q_13 q_14 q_15 q_16 q_17 q_3 q_18 q_19 q_20 q_21 q_22 q_23 x_0 x_3 x_4 x_5 (by revert h_x_3; first | omega | (simp only [vp_in_iff, Int32.lt_iff_toInt_lt, Int32.le_iff_toInt_le, Int64.lt_iff_toInt_lt, Int64.le_iff_toInt_le, Int32.toInt_toInt64, ← Int32.toInt_inj, ← Int64.toInt_inj, Int32.reduceToInt, Int64.reduceToInt] <;> omega)) (by revert h_x_4; first | omega | (simp only [vp_in_iff, Int32.lt_iff_toInt_lt, Int32.le_iff_toInt_le, Int64.lt_iff_toInt_lt, Int64.le_iff_toInt_le, Int32.toInt_toInt64, ← Int32.toInt_inj, ← Int64.toInt_inj, Int32.reduceToInt, Int64.reduceToInt] <;> omega)) (by revert h_x_5; first | omega | (simp only [vp_in_iff, Int32.lt_iff_toInt_lt, Int32.le_iff_toInt_le, Int64.lt_iff_toInt_lt, Int64.le_iff_toInt_le, Int32.toInt_toInt64, ← Int32.toInt_inj, ← Int64.toInt_inj, Int32.reduceToInt, Int64.reduceToInt] <;> omega)) _) okV_X6_isNoSchool kM_X11_76 rfl (z_pV (q0 := 2) hT hS hA hK hN hP hD [2] rfl rfl rfl rfl rfl) rfl hl.1 rfl (Nat.le_of_ble_eq_true rfl) dX11_shut_23 rfl) hP hD hS hA [2] [0, 1, 3] rfl rfl rfl rfl (fun r5 u5 H locs hw5 hP hD hS => ?_)
    obtain ⟨i5, a5, v5, w5, f5, g5, o5⟩ := u5
    dsimp only at hw5
    rcases hw5 with ⟨rfl, rfl, c5⟩ | ⟨rfl, rfl, hq5_0, c5⟩
    · have hP : va_P D vwCl [(q_0, .inr (11, [.ref q_1, .ref q_4, .ref q_5, .ref q_6, .ref q_7, .int x_2])), (q_1, .inr (3, [.ref q_2, .ref q_8, .ref q_9, .ref q_10, .ref q_11, .ref q_12])), (q_3, .inl (k 0, 400, .inl f_6)), (q_2, .inr (6, [.int x_3, .ref q_13, .ref q_14, .ref q_15, .ref q_16, .ref q_17, .int x_4, .ref q_3, .int x_5, .ref q_18, .ref q_19, .ref q_20, .ref q_21, .ref q_22, .ref q_23]))] H := hP
      have hD : va_D A [(q_0, .inr (11, [.ref q_1, .ref q_4, .ref q_5, .ref q_6, .ref q_7, .int x_2])), (q_1, .inr (3, [.ref q_2, .ref q_8, .ref q_9, .ref q_10, .ref q_11, .ref q_12])), (q_3, .inl (k 0, 400, .inl f_6)), (q_2, .inr (6, [.int x_3, .ref q_13, .ref q_14, .ref q_15, .ref q_16, .ref q_17, .int x_4, .ref q_3, .int x_5, .ref q_18, .ref q_19, .ref q_20, .ref q_21, .ref q_22, .ref q_23]))] := hD
      refine lv_if_eq (tgt := 36) hx hb dX11_shut_26 (by decide) (fun c6 => absurd c6 (by decide)) (fun _ => ?_)
      refine lv_aload_n hx hb dX11_shut_29 rfl (lv_at hl 1 rfl) ?_
      refine lv_bipush (v := (-2)) hx hb dX11_shut_30 (by decide) ?_
      refine z_bi (wr := [(q_1, .inr (3, [.ref q_2, .ref q_8, .ref q_9, .ref q_10, .ref q_11, .ref q_12])), (q_3, .inl (k 0, 400, .inl f_6)), (q_2, .inr (6, [.int x_3, .ref q_13, .ref q_14, .ref q_15, .ref q_16, .ref q_17, .int x_4, .ref q_3, .int x_5, .ref q_18, .ref q_19, .ref q_20, .ref q_21, .ref q_22, .ref q_23]))]) (z_runV (C := RX11) (As := [.int (-2)]) (rest := []) C0 (s_X11_answer_1 l D k T q_0 q_1 q_4 q_5 q_6 q_7 (-2) x_2 _) okV_X11_answer kM_X11_55 rfl (z_pV (q0 := 0) hT hS hA hK hN hP hD [0] rfl rfl rfl rfl rfl) rfl hl.1 rfl (Nat.le_of_ble_eq_true rfl) dX11_shut_32 rfl) hP hD hS hA [0] [1, 2, 3] rfl rfl rfl rfl (fun r7 u7 H locs hw7 hP hD hS => ?_)
      obtain ⟨i7, a7, v7, w7, f7, g7, o7⟩ := u7
      dsimp only at hw7
      obtain ⟨rfl, rfl⟩ := hw7
      have hP : va_P D vwCl [(q_1, .inr (3, [.ref q_2, .ref q_8, .ref q_9, .ref q_10, .ref q_11, .ref q_12])), (q_3, .inl (k 0, 400, .inl f_6)), (q_2, .inr (6, [.int x_3, .ref q_13, .ref q_14, .ref q_15, .ref q_16, .ref q_17, .int x_4, .ref q_3, .int x_5, .ref q_18, .ref q_19, .ref q_20, .ref q_21, .ref q_22, .ref q_23])), (q_0, .inr (11, [.ref q_1, .ref q_4, .ref q_5, .ref q_6, .ref q_7, .int (v7 0)]))] H := hP
      have hD : va_D A [(q_1, .inr (3, [.ref q_2, .ref q_8, .ref q_9, .ref q_10, .ref q_11, .ref q_12])), (q_3, .inl (k 0, 400, .inl f_6)), (q_2, .inr (6, [.int x_3, .ref q_13, .ref q_14, .ref q_15, .ref q_16, .ref q_17, .int x_4, .ref q_3, .int x_5, .ref q_18, .ref q_19, .ref q_20, .ref q_21, .ref q_22, .ref q_23])), (q_0, .inr (11, [.ref q_1, .ref q_4, .ref q_5, .ref q_6, .ref q_7, .int (v7 0)]))] := hD
      exact z_iret C0 hr hlk rfl hK hP hD hS (0, fun _ => 0, fun i => [(v7 0)].getD i 0, fun _ => 0, fun i => [f_6].getD i (fun _ => 0), fun _ => (fun _ => 0), fun _ => (fun _ => none)) ⟨rfl, (by decide)⟩ [3, 0, 2, 1] rfl rfl rfl dX11_shut_35
    · have hP : va_P D vwCl [(q_0, .inr (11, [.ref q_1, .ref q_4, .ref q_5, .ref q_6, .ref q_7, .int x_2])), (q_1, .inr (3, [.ref q_2, .ref q_8, .ref q_9, .ref q_10, .ref q_11, .ref q_12])), (q_3, .inl (k 0, 400, .inl f_6)), (q_2, .inr (6, [.int x_3, .ref q_13, .ref q_14, .ref q_15, .ref q_16, .ref q_17, .int x_4, .ref q_3, .int x_5, .ref q_18, .ref q_19, .ref q_20, .ref q_21, .ref q_22, .ref q_23]))] H := hP
      have hD : va_D A [(q_0, .inr (11, [.ref q_1, .ref q_4, .ref q_5, .ref q_6, .ref q_7, .int x_2])), (q_1, .inr (3, [.ref q_2, .ref q_8, .ref q_9, .ref q_10, .ref q_11, .ref q_12])), (q_3, .inl (k 0, 400, .inl f_6)), (q_2, .inr (6, [.int x_3, .ref q_13, .ref q_14, .ref q_15, .ref q_16, .ref q_17, .int x_4, .ref q_3, .int x_5, .ref q_18, .ref q_19, .ref q_20, .ref q_21, .ref q_22, .ref q_23]))] := hD
      refine lv_if_eq (tgt := 36) hx hb dX11_shut_26 (by decide) (fun _ => ?_) (fun c8 => absurd (by decide) c8)
      refine lv_aload_n hx hb dX11_shut_36 rfl (lv_at hl 0 rfl) ?_
      refine lv_iload_n hx hb dX11_shut_37 rfl (lv_at hl 2 rfl) ?_
      refine lv_iload_n hx hb dX11_shut_38 rfl (lv_at hl 3 rfl) ?_
      refine z_bi (wr := [(q_0, .inr (11, [.ref q_1, .ref q_4, .ref q_5, .ref q_6, .ref q_7, .int x_2])), (q_1, .inr (3, [.ref q_2, .ref q_8, .ref q_9, .ref q_10, .ref q_11, .ref q_12]))]) (z_runV (C := RX6) (As := [.int x_0, .int x_1]) (rest := []) C0 (s_X6_isShut_1 l D k T q_2 q_3 q_13 q_14 q_15 q_16 q_17 q_18 q_19 q_20 q_21 q_22 q_23 x_0 x_1 x_3 x_4 x_5 f_6 (by revert hq5_0 c5 h_x_4; first | omega | (simp only [vp_in_iff, Int32.lt_iff_toInt_lt, Int32.le_iff_toInt_le, Int64.lt_iff_toInt_lt, Int64.le_iff_toInt_le, Int32.toInt_toInt64, ← Int32.toInt_inj, ← Int64.toInt_inj, Int32.reduceToInt, Int64.reduceToInt] <;> omega)) (by revert hq1_0 c1; first | omega | (simp only [vp_in_iff, Int32.lt_iff_toInt_lt, Int32.le_iff_toInt_le, Int64.lt_iff_toInt_lt, Int64.le_iff_toInt_le, Int32.toInt_toInt64, ← Int32.toInt_inj, ← Int64.toInt_inj, Int32.reduceToInt, Int64.reduceToInt] <;> omega)) (by revert h_x_3; first | omega | (simp only [vp_in_iff, Int32.lt_iff_toInt_lt, Int32.le_iff_toInt_le, Int64.lt_iff_toInt_lt, Int64.le_iff_toInt_le, Int32.toInt_toInt64, ← Int32.toInt_inj, ← Int64.toInt_inj, Int32.reduceToInt, Int64.reduceToInt] <;> omega)) (by revert h_x_4 c5 hq5_0; first | omega | (simp only [vp_in_iff, Int32.lt_iff_toInt_lt, Int32.le_iff_toInt_le, Int64.lt_iff_toInt_lt, Int64.le_iff_toInt_le, Int32.toInt_toInt64, ← Int32.toInt_inj, ← Int64.toInt_inj, Int32.reduceToInt, Int64.reduceToInt] <;> omega)) (by revert h_x_5; first | omega | (simp only [vp_in_iff, Int32.lt_iff_toInt_lt, Int32.le_iff_toInt_le, Int64.lt_iff_toInt_lt, Int64.le_iff_toInt_le, Int32.toInt_toInt64, ← Int32.toInt_inj, ← Int64.toInt_inj, Int32.reduceToInt, Int64.reduceToInt] <;> omega)) _) okV_X6_isShut kM_X11_79 rfl (z_pV (q0 := 3) hT hS hA hK hN hP hD [3, 2] rfl rfl rfl rfl rfl) rfl hl.1 rfl (Nat.le_of_ble_eq_true rfl) dX11_shut_39 rfl) hP hD hS hA [3, 2] [0, 1] rfl rfl rfl rfl (fun r9 u9 H locs hw9 hP hD hS => ?_)
      obtain ⟨i9, a9, v9, w9, f9, g9, o9⟩ := u9
      dsimp only at hw9
      rcases hw9 with ⟨rfl, rfl⟩ | ⟨rfl, rfl⟩
      · have hP : va_P D vwCl [(q_0, .inr (11, [.ref q_1, .ref q_4, .ref q_5, .ref q_6, .ref q_7, .int x_2])), (q_1, .inr (3, [.ref q_2, .ref q_8, .ref q_9, .ref q_10, .ref q_11, .ref q_12])), (q_2, .inr (6, [.int x_3, .ref q_13, .ref q_14, .ref q_15, .ref q_16, .ref q_17, .int x_4, .ref q_3, .int x_5, .ref q_18, .ref q_19, .ref q_20, .ref q_21, .ref q_22, .ref q_23])), (q_3, .inl (k 0, 400, .inl f_6))] H := hP
        have hD : va_D A [(q_0, .inr (11, [.ref q_1, .ref q_4, .ref q_5, .ref q_6, .ref q_7, .int x_2])), (q_1, .inr (3, [.ref q_2, .ref q_8, .ref q_9, .ref q_10, .ref q_11, .ref q_12])), (q_2, .inr (6, [.int x_3, .ref q_13, .ref q_14, .ref q_15, .ref q_16, .ref q_17, .int x_4, .ref q_3, .int x_5, .ref q_18, .ref q_19, .ref q_20, .ref q_21, .ref q_22, .ref q_23])), (q_3, .inl (k 0, 400, .inl f_6))] := hD
        refine lv_if_eq (tgt := 52) hx hb dX11_shut_42 (by decide) (fun _ => ?_) (fun c10 => absurd (by decide) c10)
        refine lv_aload_n hx hb dX11_shut_52 rfl (lv_at hl 0 rfl) ?_
        refine va_get (D := D) (ci := 6) (v := .ref q_3) (C := RX6) (T := TX6) (N := 15) hx hb hts inX6 hown hK hP 2 rfl rfl 7 (by decide) (hts _ kF_X11_82) (fun _ h9 => h9) rfl dX11_shut_53 ?_
        refine lv_iload_n hx hb dX11_shut_56 rfl (lv_at hl 3 rfl) ?_
        refine lv_dup2_11 hx hb dX11_shut_57 rfl rfl ?_
        refine va_iald hx hb hK hP 3 0 rfl rfl (by revert hq1_0 c1; first | omega | (simp only [vp_in_iff, Int32.lt_iff_toInt_lt, Int32.le_iff_toInt_le, Int64.lt_iff_toInt_lt, Int64.le_iff_toInt_le, Int32.toInt_toInt64, ← Int32.toInt_inj, ← Int64.toInt_inj, Int32.reduceToInt, Int64.reduceToInt] <;> omega)) dX11_shut_58 ?_
        refine lv_topi (fun y11 ey11 => ?_)
        refine lv_iconst (v := 1) hx hb dX11_shut_59 (by decide) ?_
        refine lv_iload_n hx hb dX11_shut_60 rfl (lv_at hl 2 rfl) ?_
        refine lv_ishl hx hb dX11_shut_61 ?_
        refine lv_topi (fun y12 ey12 => ?_)
        have hy12 : 1 ≤ Int32.toInt y12 ∧ Int32.toInt y12 ≤ 16 := by rw [ey12]; exact zo_shl1 4 (show 0 ≤ Int32.toInt x_0 ∧ Int32.toInt x_0 ≤ 4 by revert hq5_0 c5 h_x_4; first | omega | (simp only [vp_in_iff, Int32.lt_iff_toInt_lt, Int32.le_iff_toInt_le, Int64.lt_iff_toInt_lt, Int64.le_iff_toInt_le, Int32.toInt_toInt64, ← Int32.toInt_inj, ← Int64.toInt_inj, Int32.reduceToInt, Int64.reduceToInt] <;> omega)) (by decide)
        refine lv_ior hx hb dX11_shut_62 ?_
        refine lv_topi (fun y13 ey13 => ?_)
        refine va_iast hx hb hK hP hD hS 3 0 rfl rfl (by revert hq1_0 c1; first | omega | (simp only [vp_in_iff, Int32.lt_iff_toInt_lt, Int32.le_iff_toInt_le, Int64.lt_iff_toInt_lt, Int64.le_iff_toInt_le, Int32.toInt_toInt64, ← Int32.toInt_inj, ← Int64.toInt_inj, Int32.reduceToInt, Int64.reduceToInt] <;> omega)) dX11_shut_63 (fun H locs hP hD hS => ?_)
        obtain ⟨F14, eF14⟩ : ∃ q, q = upd f_6 (Int32.toNatClampNeg x_1) y13 := ⟨_, rfl⟩
        have hP : va_P D vwCl [(q_0, .inr (11, [.ref q_1, .ref q_4, .ref q_5, .ref q_6, .ref q_7, .int x_2])), (q_1, .inr (3, [.ref q_2, .ref q_8, .ref q_9, .ref q_10, .ref q_11, .ref q_12])), (q_2, .inr (6, [.int x_3, .ref q_13, .ref q_14, .ref q_15, .ref q_16, .ref q_17, .int x_4, .ref q_3, .int x_5, .ref q_18, .ref q_19, .ref q_20, .ref q_21, .ref q_22, .ref q_23])), (q_3, .inl (k 0, 400, .inl F14))] H := by rw [eF14]; exact hP
        have hD : va_D A [(q_0, .inr (11, [.ref q_1, .ref q_4, .ref q_5, .ref q_6, .ref q_7, .int x_2])), (q_1, .inr (3, [.ref q_2, .ref q_8, .ref q_9, .ref q_10, .ref q_11, .ref q_12])), (q_2, .inr (6, [.int x_3, .ref q_13, .ref q_14, .ref q_15, .ref q_16, .ref q_17, .int x_4, .ref q_3, .int x_5, .ref q_18, .ref q_19, .ref q_20, .ref q_21, .ref q_22, .ref q_23])), (q_3, .inl (k 0, 400, .inl F14))] := by rw [eF14]; exact hD
        refine lv_aload_n hx hb dX11_shut_64 rfl (lv_at hl 1 rfl) ?_
        refine lv_iconst (v := 0) hx hb dX11_shut_65 (by decide) ?_
        refine z_bi (wr := [(q_1, .inr (3, [.ref q_2, .ref q_8, .ref q_9, .ref q_10, .ref q_11, .ref q_12])), (q_2, .inr (6, [.int x_3, .ref q_13, .ref q_14, .ref q_15, .ref q_16, .ref q_17, .int x_4, .ref q_3, .int x_5, .ref q_18, .ref q_19, .ref q_20, .ref q_21, .ref q_22, .ref q_23])), (q_3, .inl (k 0, 400, .inl F14))]) (z_runV (C := RX11) (As := [.int 0]) (rest := []) C0 (s_X11_answer_1 l D k T q_0 q_1 q_4 q_5 q_6 q_7 0 x_2 _) okV_X11_answer kM_X11_55 rfl (z_pV (q0 := 0) hT hS hA hK hN hP hD [0] rfl rfl rfl rfl rfl) rfl hl.1 rfl (Nat.le_of_ble_eq_true rfl) dX11_shut_66 rfl) hP hD hS hA [0] [1, 2, 3] rfl rfl rfl rfl (fun r15 u15 H locs hw15 hP hD hS => ?_)
        obtain ⟨i15, a15, v15, w15, f15, g15, o15⟩ := u15
        dsimp only at hw15
        obtain ⟨rfl, rfl⟩ := hw15
        have hP : va_P D vwCl [(q_1, .inr (3, [.ref q_2, .ref q_8, .ref q_9, .ref q_10, .ref q_11, .ref q_12])), (q_2, .inr (6, [.int x_3, .ref q_13, .ref q_14, .ref q_15, .ref q_16, .ref q_17, .int x_4, .ref q_3, .int x_5, .ref q_18, .ref q_19, .ref q_20, .ref q_21, .ref q_22, .ref q_23])), (q_3, .inl (k 0, 400, .inl F14)), (q_0, .inr (11, [.ref q_1, .ref q_4, .ref q_5, .ref q_6, .ref q_7, .int (v15 0)]))] H := hP
        have hD : va_D A [(q_1, .inr (3, [.ref q_2, .ref q_8, .ref q_9, .ref q_10, .ref q_11, .ref q_12])), (q_2, .inr (6, [.int x_3, .ref q_13, .ref q_14, .ref q_15, .ref q_16, .ref q_17, .int x_4, .ref q_3, .int x_5, .ref q_18, .ref q_19, .ref q_20, .ref q_21, .ref q_22, .ref q_23])), (q_3, .inl (k 0, 400, .inl F14)), (q_0, .inr (11, [.ref q_1, .ref q_4, .ref q_5, .ref q_6, .ref q_7, .int (v15 0)]))] := hD
        exact z_iret C0 hr hlk rfl hK hP hD hS (0, fun _ => 0, fun i => [(v15 0)].getD i 0, fun _ => 0, fun i => [F14].getD i (fun _ => 0), fun _ => (fun _ => 0), fun _ => (fun _ => none)) ⟨rfl, (by decide)⟩ [3, 0, 1, 2] rfl rfl rfl dX11_shut_69
      · have hP : va_P D vwCl [(q_0, .inr (11, [.ref q_1, .ref q_4, .ref q_5, .ref q_6, .ref q_7, .int x_2])), (q_1, .inr (3, [.ref q_2, .ref q_8, .ref q_9, .ref q_10, .ref q_11, .ref q_12])), (q_2, .inr (6, [.int x_3, .ref q_13, .ref q_14, .ref q_15, .ref q_16, .ref q_17, .int x_4, .ref q_3, .int x_5, .ref q_18, .ref q_19, .ref q_20, .ref q_21, .ref q_22, .ref q_23])), (q_3, .inl (k 0, 400, .inl f_6))] H := hP
        have hD : va_D A [(q_0, .inr (11, [.ref q_1, .ref q_4, .ref q_5, .ref q_6, .ref q_7, .int x_2])), (q_1, .inr (3, [.ref q_2, .ref q_8, .ref q_9, .ref q_10, .ref q_11, .ref q_12])), (q_2, .inr (6, [.int x_3, .ref q_13, .ref q_14, .ref q_15, .ref q_16, .ref q_17, .int x_4, .ref q_3, .int x_5, .ref q_18, .ref q_19, .ref q_20, .ref q_21, .ref q_22, .ref q_23])), (q_3, .inl (k 0, 400, .inl f_6))] := hD
        refine lv_if_eq (tgt := 52) hx hb dX11_shut_42 (by decide) (fun c16 => absurd c16 (by decide)) (fun _ => ?_)
        refine lv_aload_n hx hb dX11_shut_45 rfl (lv_at hl 1 rfl) ?_
        refine lv_bipush (v := (-4)) hx hb dX11_shut_46 (by decide) ?_
        refine z_bi (wr := [(q_1, .inr (3, [.ref q_2, .ref q_8, .ref q_9, .ref q_10, .ref q_11, .ref q_12])), (q_2, .inr (6, [.int x_3, .ref q_13, .ref q_14, .ref q_15, .ref q_16, .ref q_17, .int x_4, .ref q_3, .int x_5, .ref q_18, .ref q_19, .ref q_20, .ref q_21, .ref q_22, .ref q_23])), (q_3, .inl (k 0, 400, .inl f_6))]) (z_runV (C := RX11) (As := [.int (-4)]) (rest := []) C0 (s_X11_answer_1 l D k T q_0 q_1 q_4 q_5 q_6 q_7 (-4) x_2 _) okV_X11_answer kM_X11_55 rfl (z_pV (q0 := 0) hT hS hA hK hN hP hD [0] rfl rfl rfl rfl rfl) rfl hl.1 rfl (Nat.le_of_ble_eq_true rfl) dX11_shut_48 rfl) hP hD hS hA [0] [1, 2, 3] rfl rfl rfl rfl (fun r17 u17 H locs hw17 hP hD hS => ?_)
        obtain ⟨i17, a17, v17, w17, f17, g17, o17⟩ := u17
        dsimp only at hw17
        obtain ⟨rfl, rfl⟩ := hw17
        have hP : va_P D vwCl [(q_1, .inr (3, [.ref q_2, .ref q_8, .ref q_9, .ref q_10, .ref q_11, .ref q_12])), (q_2, .inr (6, [.int x_3, .ref q_13, .ref q_14, .ref q_15, .ref q_16, .ref q_17, .int x_4, .ref q_3, .int x_5, .ref q_18, .ref q_19, .ref q_20, .ref q_21, .ref q_22, .ref q_23])), (q_3, .inl (k 0, 400, .inl f_6)), (q_0, .inr (11, [.ref q_1, .ref q_4, .ref q_5, .ref q_6, .ref q_7, .int (v17 0)]))] H := hP
        have hD : va_D A [(q_1, .inr (3, [.ref q_2, .ref q_8, .ref q_9, .ref q_10, .ref q_11, .ref q_12])), (q_2, .inr (6, [.int x_3, .ref q_13, .ref q_14, .ref q_15, .ref q_16, .ref q_17, .int x_4, .ref q_3, .int x_5, .ref q_18, .ref q_19, .ref q_20, .ref q_21, .ref q_22, .ref q_23])), (q_3, .inl (k 0, 400, .inl f_6)), (q_0, .inr (11, [.ref q_1, .ref q_4, .ref q_5, .ref q_6, .ref q_7, .int (v17 0)]))] := hD
        exact z_iret C0 hr hlk rfl hK hP hD hS (0, fun _ => 0, fun i => [(v17 0)].getD i 0, fun _ => 0, fun i => [f_6].getD i (fun _ => 0), fun _ => (fun _ => 0), fun _ => (fun _ => none)) ⟨rfl, (by decide)⟩ [3, 0, 1, 2] rfl rfl rfl dX11_shut_51
