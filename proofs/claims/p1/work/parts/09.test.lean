set_option maxHeartbeats 4000000 in
set_option maxRecDepth 100000 in
theorem c_X11_isOutside_1 (l : Launch) (D : va_G) (k : Nat → ClassId) (x_0 : Int32) (x_1 : Int32) (x_2 : Int32) : zMi l yX11_isOutside cX11_isOutside 3 (some .boolean) ({ frames := 0, cells := 0, slots := 0, locals := 0 }) D k [.int x_0, .int x_1, .int x_2] [] (fun r u => (u.1 = 0 ∧ r = 1 ∧ ((x_0 < x_1) ∨ (¬ x_0 < x_1 ∧ ¬ x_0 ≤ x_2))) ∨ (u.1 = 1 ∧ r = 0 ∧ ((¬ x_0 < x_1 ∧ x_0 ≤ x_2)))) (fun u => []) := by
  refine zMi_of (own := RX11) (by decide +kernel) rfl (Nat.le_of_ble_eq_true rfl) ?_
  intro p e s m args below meth c A ls C0 hr hlk hin hP hD hS hA hK hN hl
  have hx := C0.1
  have hb := C0.2.1
  have hml := C0.2.2.1
  have hown := C0.2.2.2.1
  have hts := C0.2.2.2.2
  have hl : lv_has ls 3 [(0, .int x_0), (1, .int x_1), (2, .int x_2)] := hl
  have hP : va_P D vwCl [] s.heap := hP
  refine lv_iload_n hx hb dX11_isOutside_0 rfl (lv_at hl 0 rfl) ?_
  refine lv_iload_n hx hb dX11_isOutside_1 rfl (lv_at hl 1 rfl) ?_
  refine lv_icmp_lt (tgt := 10) hx hb dX11_isOutside_2 (by decide) (fun c1 => ?_) (fun c1 => ?_)
  · refine lv_iconst (v := 1) hx hb dX11_isOutside_10 (by decide) ?_
    refine lv_goto (tgt := 15) hx hb dX11_isOutside_11 (by decide) ?_
    exact z_iret C0 hr hlk rfl hK hP hD hS (0, fun _ => 0) (Or.inl ⟨rfl, rfl, (Or.inl c1)⟩) [] rfl rfl rfl dX11_isOutside_15
  · refine lv_iload_n hx hb dX11_isOutside_5 rfl (lv_at hl 0 rfl) ?_
    refine lv_iload_n hx hb dX11_isOutside_6 rfl (lv_at hl 2 rfl) ?_
    refine lv_icmp_le (tgt := 14) hx hb dX11_isOutside_7 (by decide) (fun c2 => ?_) (fun c2 => ?_)
    · refine lv_iconst (v := 0) hx hb dX11_isOutside_14 (by decide) ?_
      exact z_iret C0 hr hlk rfl hK hP hD hS (1, fun _ => 0) (Or.inr (⟨rfl, rfl, ⟨c1, c2⟩⟩)) [] rfl rfl rfl dX11_isOutside_15
    · refine lv_iconst (v := 1) hx hb dX11_isOutside_10 (by decide) ?_
      refine lv_goto (tgt := 15) hx hb dX11_isOutside_11 (by decide) ?_
      exact z_iret C0 hr hlk rfl hK hP hD hS (0, fun _ => 0) (Or.inl ⟨rfl, rfl, (Or.inr (⟨c1, c2⟩))⟩) [] rfl rfl rfl dX11_isOutside_15

set_option maxHeartbeats 4000000 in
set_option maxRecDepth 100000 in
theorem c_X11_answer_1 (l : Launch) (D : va_G) (k : Nat → ClassId) (q_0 : Nat) (q_1 : Nat) (q_2 : Nat) (q_3 : Nat) (q_4 : Nat) (q_5 : Nat) (x_0 : Int32) : zMi l yX11_answer cX11_answer 2 (some .int) ({ frames := 0, cells := 0, slots := 0, locals := 0 }) D k [.ref q_0, .int (-1)] [(q_0, .inr (11, [.ref q_1, .ref q_2, .ref q_3, .ref q_4, .ref q_5, .int x_0]))] (fun r u => u.1 = 0 ∧ r = (-1)) (fun u => [(q_0, .inr (11, [.ref q_1, .ref q_2, .ref q_3, .ref q_4, .ref q_5, .int (-1)]))]) := by
  refine zMi_of (own := RX11) (by decide +kernel) rfl (Nat.le_of_ble_eq_true rfl) ?_
  intro p e s m args below meth c A ls C0 hr hlk hin hP hD hS hA hK hN hl
  have hx := C0.1
  have hb := C0.2.1
  have hml := C0.2.2.1
  have hown := C0.2.2.2.1
  have hts := C0.2.2.2.2
  have hl : lv_has ls 2 [(0, .ref q_0), (1, .int (-1))] := hl
  have hP : va_P D vwCl [(q_0, .inr (11, [.ref q_1, .ref q_2, .ref q_3, .ref q_4, .ref q_5, .int x_0]))] s.heap := hP
  refine lv_aload_n hx hb dX11_answer_0 rfl (lv_at hl 0 rfl) ?_
  refine lv_iload_n hx hb dX11_answer_1 rfl (lv_at hl 1 rfl) ?_
  refine lv_if_ge (tgt := 9) hx hb dX11_answer_2 (by decide) (fun c1 => absurd c1 (by decide)) (fun _ => ?_)
  refine lv_iload_n hx hb dX11_answer_5 rfl (lv_at hl 1 rfl) ?_
  refine lv_goto (tgt := 10) hx hb dX11_answer_6 (by decide) ?_
  refine va_put (D := D) (ci := 11) (v := .int (-1)) (ty := .int) (C := RX11) (T := TX11) (N := 6) hx hb hts inX11 tyX11 tyX11_ok nmX11 hown hK hP hD hS 0 rfl rfl 5 (by decide) (hts _ kF_X11_383) (fun _ h9 => h9) rfl (by decide +kernel) rfl rfl (Nat.le_of_ble_eq_true rfl) dX11_answer_10 (fun H locs hP hD hS => ?_)
  have hP : va_P D vwCl [(q_0, .inr (11, [.ref q_1, .ref q_2, .ref q_3, .ref q_4, .ref q_5, .int (-1)]))] H := hP
  have hD : va_D A [(q_0, .inr (11, [.ref q_1, .ref q_2, .ref q_3, .ref q_4, .ref q_5, .int (-1)]))] := hD
  refine lv_iload_n hx hb dX11_answer_13 rfl (lv_at hl 1 rfl) ?_
  exact z_iret C0 hr hlk rfl hK hP hD hS (0, fun _ => 0) ⟨rfl, rfl⟩ [0] rfl rfl rfl dX11_answer_14

set_option maxHeartbeats 4000000 in
set_option maxRecDepth 100000 in
theorem c_X11_isNoPlace_1 (l : Launch) (D : va_G) (k : Nat → ClassId) (x_0 : Int32) (x_1 : Int32) : zMi l yX11_isNoPlace cX11_isNoPlace 2 (some .boolean) ({ frames := 1, cells := 0, slots := 0, locals := 22 }) D k [.int x_0, .int x_1] [] (fun r u => (u.1 = 0 ∧ r = 1 ∧ ((((x_0 < 0) ∨ (¬ x_0 < 0 ∧ ¬ x_0 ≤ 99))) ∨ (((¬ x_0 < 0 ∧ x_0 ≤ 99)) ∧ ((x_1 < 0) ∨ (¬ x_1 < 0 ∧ ¬ x_1 ≤ 99))))) ∨ (u.1 = 1 ∧ r = 0 ∧ ((((¬ x_0 < 0 ∧ x_0 ≤ 99)) ∧ ((¬ x_1 < 0 ∧ x_1 ≤ 99)))))) (fun u => []) := by
  refine zMi_of (own := RX11) (by decide +kernel) rfl (Nat.le_of_ble_eq_true rfl) ?_
  intro p e s m args below meth c A ls C0 hr hlk hin hP hD hS hA hK hN hl
  have hx := C0.1
  have hb := C0.2.1
  have hml := C0.2.2.1
  have hown := C0.2.2.2.1
  have hts := C0.2.2.2.2
  have hl : lv_has ls 2 [(0, .int x_0), (1, .int x_1)] := hl
  have hP : va_P D vwCl [] s.heap := hP
  refine lv_iload_n hx hb dX11_isNoPlace_0 rfl (lv_at hl 0 rfl) ?_
  refine lv_iconst (v := 0) hx hb dX11_isNoPlace_1 (by decide) ?_
  refine lv_bipush (v := 99) hx hb dX11_isNoPlace_2 (by decide) ?_
  refine z_bi0 (z_runS (As := [.int x_0, .int 0, .int 99]) (rest := []) C0 (c_X11_isOutside_1 l D k x_0 0 99 _) okS_X11_isOutside kM_X11_47 rfl (z_p0 hK hN) rfl hl.1 rfl (Nat.le_of_ble_eq_true rfl) dX11_isNoPlace_4 rfl) hP hS hA (fun r1 u1 H locs hw1 hP hS => ?_)
  obtain ⟨i1, a1⟩ := u1
  dsimp only at hw1
  rcases hw1 with ⟨rfl, rfl, c1⟩ | ⟨rfl, rfl, c1⟩
  · refine lv_if_ne (tgt := 20) hx hb dX11_isNoPlace_7 (by decide) (fun _ => ?_) (fun c2 => absurd c2 (by decide))
    refine lv_iconst (v := 1) hx hb dX11_isNoPlace_20 (by decide) ?_
    refine lv_goto (tgt := 25) hx hb dX11_isNoPlace_21 (by decide) ?_
    exact z_iret C0 hr hlk rfl hK hP hD hS (0, fun _ => 0) (Or.inl ⟨rfl, rfl, (Or.inl c1)⟩) [] rfl rfl rfl dX11_isNoPlace_25
  · refine lv_if_ne (tgt := 20) hx hb dX11_isNoPlace_7 (by decide) (fun c3 => absurd (by decide) c3) (fun _ => ?_)
    refine lv_iload_n hx hb dX11_isNoPlace_10 rfl (lv_at hl 1 rfl) ?_
    refine lv_iconst (v := 0) hx hb dX11_isNoPlace_11 (by decide) ?_
    refine lv_bipush (v := 99) hx hb dX11_isNoPlace_12 (by decide) ?_
    refine z_bi0 (z_runS (As := [.int x_1, .int 0, .int 99]) (rest := []) C0 (c_X11_isOutside_1 l D k x_1 0 99 _) okS_X11_isOutside kM_X11_47 rfl (z_p0 hK hN) rfl hl.1 rfl (Nat.le_of_ble_eq_true rfl) dX11_isNoPlace_14 rfl) hP hS hA (fun r4 u4 H locs hw4 hP hS => ?_)
    obtain ⟨i4, a4⟩ := u4
    dsimp only at hw4
    rcases hw4 with ⟨rfl, rfl, c4⟩ | ⟨rfl, rfl, c4⟩
    · refine lv_if_eq (tgt := 24) hx hb dX11_isNoPlace_17 (by decide) (fun c5 => absurd c5 (by decide)) (fun _ => ?_)
      refine lv_iconst (v := 1) hx hb dX11_isNoPlace_20 (by decide) ?_
      refine lv_goto (tgt := 25) hx hb dX11_isNoPlace_21 (by decide) ?_
      exact z_iret C0 hr hlk rfl hK hP hD hS (0, fun _ => 0) (Or.inl ⟨rfl, rfl, (Or.inr (⟨c1, c4⟩))⟩) [] rfl rfl rfl dX11_isNoPlace_25
    · refine lv_if_eq (tgt := 24) hx hb dX11_isNoPlace_17 (by decide) (fun _ => ?_) (fun c6 => absurd (by decide) c6)
      refine lv_iconst (v := 0) hx hb dX11_isNoPlace_24 (by decide) ?_
      exact z_iret C0 hr hlk rfl hK hP hD hS (1, fun _ => 0) (Or.inr (⟨rfl, rfl, ⟨c1, c4⟩⟩)) [] rfl rfl rfl dX11_isNoPlace_25

set_option maxHeartbeats 4000000 in
set_option maxRecDepth 100000 in
theorem c_X6_addChild_1 (l : Launch) (D : va_G) (k : Nat → ClassId) (q_0 : Nat) (q_1 : Nat) (q_2 : Nat) (q_3 : Nat) (q_4 : Nat) (q_5 : Nat) (q_6 : Nat) (q_7 : Nat) (q_8 : Nat) (q_9 : Nat) (q_10 : Nat) (q_11 : Nat) (q_12 : Nat) (x_0 : Int32) (x_1 : Int32) (x_2 : Int32) (x_3 : Int32) (x_4 : Int32) (x_5 : Int32) (x_6 : Int32) (f_0 : Nat → Int32) (f_1 : Nat → Int32) (f_2 : Nat → Int32) (f_3 : Nat → Int32) (f_4 : Nat → Int32) : zMi l yX6_addChild cX6_addChild 6 (some .int) ({ frames := 0, cells := 0, slots := 0, locals := 0 }) D k [.ref q_0, .int x_0, .int x_1, .int x_2, .int x_3, .int x_4] [(q_0, .inr (6, [.int 0, .ref q_1, .ref q_2, .ref q_3, .ref q_4, .ref q_5, .int x_5, .ref q_6, .int x_6, .ref q_7, .ref q_8, .ref q_9, .ref q_10, .ref q_11, .ref q_12])), (q_1, .inl (k 0, 40, .inl f_0)), (q_2, .inl (k 0, 40, .inl f_1)), (q_3, .inl (k 0, 40, .inl f_2)), (q_4, .inl (k 0, 40, .inl f_3)), (q_5, .inl (k 0, 40, .inl f_4))] (fun r u => (u.1 = 0 ∧ r = 0 ∧ ((x_1 = 0))) ∨ (u.1 = 1 ∧ r = 0 ∧ ((¬ x_1 = 0)))) (fun u => match u.1 with | 0 => [(q_0, .inr (6, [.int 1, .ref q_1, .ref q_2, .ref q_3, .ref q_4, .ref q_5, .int x_5, .ref q_6, .int x_6, .ref q_7, .ref q_8, .ref q_9, .ref q_10, .ref q_11, .ref q_12])), (q_1, .inl (k 0, 40, .inl (upd f_0 0 x_0))), (q_2, .inl (k 0, 40, .inl (upd f_1 0 0))), (q_3, .inl (k 0, 40, .inl (upd f_2 0 x_2))), (q_4, .inl (k 0, 40, .inl (upd f_3 0 x_3))), (q_5, .inl (k 0, 40, .inl (upd f_4 0 x_4)))] | _ => [(q_0, .inr (6, [.int 1, .ref q_1, .ref q_2, .ref q_3, .ref q_4, .ref q_5, .int x_5, .ref q_6, .int x_6, .ref q_7, .ref q_8, .ref q_9, .ref q_10, .ref q_11, .ref q_12])), (q_1, .inl (k 0, 40, .inl (upd f_0 0 x_0))), (q_2, .inl (k 0, 40, .inl (upd f_1 0 1))), (q_3, .inl (k 0, 40, .inl (upd f_2 0 x_2))), (q_4, .inl (k 0, 40, .inl (upd f_3 0 x_3))), (q_5, .inl (k 0, 40, .inl (upd f_4 0 x_4)))]) := by
  refine zMi_of (own := RX6) (by decide +kernel) rfl (Nat.le_of_ble_eq_true rfl) ?_
  intro p e s m args below meth c A ls C0 hr hlk hin hP hD hS hA hK hN hl
  have hx := C0.1
  have hb := C0.2.1
  have hml := C0.2.2.1
  have hown := C0.2.2.2.1
  have hts := C0.2.2.2.2
  have hl : lv_has ls 6 [(0, .ref q_0), (1, .int x_0), (2, .int x_1), (3, .int x_2), (4, .int x_3), (5, .int x_4)] := hl
  have hP : va_P D vwCl [(q_0, .inr (6, [.int 0, .ref q_1, .ref q_2, .ref q_3, .ref q_4, .ref q_5, .int x_5, .ref q_6, .int x_6, .ref q_7, .ref q_8, .ref q_9, .ref q_10, .ref q_11, .ref q_12])), (q_1, .inl (k 0, 40, .inl f_0)), (q_2, .inl (k 0, 40, .inl f_1)), (q_3, .inl (k 0, 40, .inl f_2)), (q_4, .inl (k 0, 40, .inl f_3)), (q_5, .inl (k 0, 40, .inl f_4))] s.heap := hP
  refine lv_aload_n hx hb dX6_addChild_0 rfl (lv_at hl 0 rfl) ?_
  refine va_get (D := D) (ci := 6) (v := .ref q_1) (C := RX6) (T := TX6) (N := 15) hx hb hts inX6 hown hK hP 0 rfl rfl 1 (by decide) (hts _ kF_X6_9) (fun _ h9 => h9) rfl dX6_addChild_1 ?_
  refine lv_aload_n hx hb dX6_addChild_4 rfl (lv_at hl 0 rfl) ?_
  refine va_get (D := D) (ci := 6) (v := .int 0) (C := RX6) (T := TX6) (N := 15) hx hb hts inX6 hown hK hP 0 rfl rfl 0 (by decide) (hts _ kF_X6_48) (fun _ h9 => h9) rfl dX6_addChild_5 ?_
  refine lv_iload_n hx hb dX6_addChild_8 rfl (lv_at hl 1 rfl) ?_
  refine va_iast hx hb hK hP hD hS 1 0 rfl rfl (by unfold vp_in; decide) dX6_addChild_9 (fun H locs hP hD hS => ?_)
  have hP : va_P D vwCl [(q_0, .inr (6, [.int 0, .ref q_1, .ref q_2, .ref q_3, .ref q_4, .ref q_5, .int x_5, .ref q_6, .int x_6, .ref q_7, .ref q_8, .ref q_9, .ref q_10, .ref q_11, .ref q_12])), (q_1, .inl (k 0, 40, .inl (upd f_0 0 x_0))), (q_2, .inl (k 0, 40, .inl f_1)), (q_3, .inl (k 0, 40, .inl f_2)), (q_4, .inl (k 0, 40, .inl f_3)), (q_5, .inl (k 0, 40, .inl f_4))] H := hP
  have hD : va_D A [(q_0, .inr (6, [.int 0, .ref q_1, .ref q_2, .ref q_3, .ref q_4, .ref q_5, .int x_5, .ref q_6, .int x_6, .ref q_7, .ref q_8, .ref q_9, .ref q_10, .ref q_11, .ref q_12])), (q_1, .inl (k 0, 40, .inl (upd f_0 0 x_0))), (q_2, .inl (k 0, 40, .inl f_1)), (q_3, .inl (k 0, 40, .inl f_2)), (q_4, .inl (k 0, 40, .inl f_3)), (q_5, .inl (k 0, 40, .inl f_4))] := hD
  refine lv_aload_n hx hb dX6_addChild_10 rfl (lv_at hl 0 rfl) ?_
  refine va_get (D := D) (ci := 6) (v := .ref q_2) (C := RX6) (T := TX6) (N := 15) hx hb hts inX6 hown hK hP 0 rfl rfl 2 (by decide) (hts _ kF_X6_15) (fun _ h9 => h9) rfl dX6_addChild_11 ?_
  refine lv_aload_n hx hb dX6_addChild_14 rfl (lv_at hl 0 rfl) ?_
  refine va_get (D := D) (ci := 6) (v := .int 0) (C := RX6) (T := TX6) (N := 15) hx hb hts inX6 hown hK hP 0 rfl rfl 0 (by decide) (hts _ kF_X6_48) (fun _ h9 => h9) rfl dX6_addChild_15 ?_
  refine lv_iload_n hx hb dX6_addChild_18 rfl (lv_at hl 2 rfl) ?_
  refine lv_if_eq (tgt := 26) hx hb dX6_addChild_19 (by decide) (fun c1 => ?_) (fun c1 => ?_)
  · refine lv_iconst (v := 0) hx hb dX6_addChild_26 (by decide) ?_
    refine va_iast hx hb hK hP hD hS 2 0 rfl rfl (by unfold vp_in; decide) dX6_addChild_27 (fun H locs hP hD hS => ?_)
    have hP : va_P D vwCl [(q_0, .inr (6, [.int 0, .ref q_1, .ref q_2, .ref q_3, .ref q_4, .ref q_5, .int x_5, .ref q_6, .int x_6, .ref q_7, .ref q_8, .ref q_9, .ref q_10, .ref q_11, .ref q_12])), (q_1, .inl (k 0, 40, .inl (upd f_0 0 x_0))), (q_2, .inl (k 0, 40, .inl (upd f_1 0 0))), (q_3, .inl (k 0, 40, .inl f_2)), (q_4, .inl (k 0, 40, .inl f_3)), (q_5, .inl (k 0, 40, .inl f_4))] H := hP
    have hD : va_D A [(q_0, .inr (6, [.int 0, .ref q_1, .ref q_2, .ref q_3, .ref q_4, .ref q_5, .int x_5, .ref q_6, .int x_6, .ref q_7, .ref q_8, .ref q_9, .ref q_10, .ref q_11, .ref q_12])), (q_1, .inl (k 0, 40, .inl (upd f_0 0 x_0))), (q_2, .inl (k 0, 40, .inl (upd f_1 0 0))), (q_3, .inl (k 0, 40, .inl f_2)), (q_4, .inl (k 0, 40, .inl f_3)), (q_5, .inl (k 0, 40, .inl f_4))] := hD
    refine lv_aload_n hx hb dX6_addChild_28 rfl (lv_at hl 0 rfl) ?_
    refine va_get (D := D) (ci := 6) (v := .ref q_3) (C := RX6) (T := TX6) (N := 15) hx hb hts inX6 hown hK hP 0 rfl rfl 3 (by decide) (hts _ kF_X6_18) (fun _ h9 => h9) rfl dX6_addChild_29 ?_
    refine lv_aload_n hx hb dX6_addChild_32 rfl (lv_at hl 0 rfl) ?_
    refine va_get (D := D) (ci := 6) (v := .int 0) (C := RX6) (T := TX6) (N := 15) hx hb hts inX6 hown hK hP 0 rfl rfl 0 (by decide) (hts _ kF_X6_48) (fun _ h9 => h9) rfl dX6_addChild_33 ?_
    refine lv_iload_n hx hb dX6_addChild_36 rfl (lv_at hl 3 rfl) ?_
    refine va_iast hx hb hK hP hD hS 3 0 rfl rfl (by unfold vp_in; decide) dX6_addChild_37 (fun H locs hP hD hS => ?_)
    have hP : va_P D vwCl [(q_0, .inr (6, [.int 0, .ref q_1, .ref q_2, .ref q_3, .ref q_4, .ref q_5, .int x_5, .ref q_6, .int x_6, .ref q_7, .ref q_8, .ref q_9, .ref q_10, .ref q_11, .ref q_12])), (q_1, .inl (k 0, 40, .inl (upd f_0 0 x_0))), (q_2, .inl (k 0, 40, .inl (upd f_1 0 0))), (q_3, .inl (k 0, 40, .inl (upd f_2 0 x_2))), (q_4, .inl (k 0, 40, .inl f_3)), (q_5, .inl (k 0, 40, .inl f_4))] H := hP
    have hD : va_D A [(q_0, .inr (6, [.int 0, .ref q_1, .ref q_2, .ref q_3, .ref q_4, .ref q_5, .int x_5, .ref q_6, .int x_6, .ref q_7, .ref q_8, .ref q_9, .ref q_10, .ref q_11, .ref q_12])), (q_1, .inl (k 0, 40, .inl (upd f_0 0 x_0))), (q_2, .inl (k 0, 40, .inl (upd f_1 0 0))), (q_3, .inl (k 0, 40, .inl (upd f_2 0 x_2))), (q_4, .inl (k 0, 40, .inl f_3)), (q_5, .inl (k 0, 40, .inl f_4))] := hD
    refine lv_aload_n hx hb dX6_addChild_38 rfl (lv_at hl 0 rfl) ?_
    refine va_get (D := D) (ci := 6) (v := .ref q_4) (C := RX6) (T := TX6) (N := 15) hx hb hts inX6 hown hK hP 0 rfl rfl 4 (by decide) (hts _ kF_X6_21) (fun _ h9 => h9) rfl dX6_addChild_39 ?_
    refine lv_aload_n hx hb dX6_addChild_42 rfl (lv_at hl 0 rfl) ?_
    refine va_get (D := D) (ci := 6) (v := .int 0) (C := RX6) (T := TX6) (N := 15) hx hb hts inX6 hown hK hP 0 rfl rfl 0 (by decide) (hts _ kF_X6_48) (fun _ h9 => h9) rfl dX6_addChild_43 ?_
    refine lv_iload hx hb dX6_addChild_46 (lv_at hl 4 rfl) ?_
    refine va_iast hx hb hK hP hD hS 4 0 rfl rfl (by unfold vp_in; decide) dX6_addChild_48 (fun H locs hP hD hS => ?_)
    have hP : va_P D vwCl [(q_0, .inr (6, [.int 0, .ref q_1, .ref q_2, .ref q_3, .ref q_4, .ref q_5, .int x_5, .ref q_6, .int x_6, .ref q_7, .ref q_8, .ref q_9, .ref q_10, .ref q_11, .ref q_12])), (q_1, .inl (k 0, 40, .inl (upd f_0 0 x_0))), (q_2, .inl (k 0, 40, .inl (upd f_1 0 0))), (q_3, .inl (k 0, 40, .inl (upd f_2 0 x_2))), (q_4, .inl (k 0, 40, .inl (upd f_3 0 x_3))), (q_5, .inl (k 0, 40, .inl f_4))] H := hP
    have hD : va_D A [(q_0, .inr (6, [.int 0, .ref q_1, .ref q_2, .ref q_3, .ref q_4, .ref q_5, .int x_5, .ref q_6, .int x_6, .ref q_7, .ref q_8, .ref q_9, .ref q_10, .ref q_11, .ref q_12])), (q_1, .inl (k 0, 40, .inl (upd f_0 0 x_0))), (q_2, .inl (k 0, 40, .inl (upd f_1 0 0))), (q_3, .inl (k 0, 40, .inl (upd f_2 0 x_2))), (q_4, .inl (k 0, 40, .inl (upd f_3 0 x_3))), (q_5, .inl (k 0, 40, .inl f_4))] := hD
    refine lv_aload_n hx hb dX6_addChild_49 rfl (lv_at hl 0 rfl) ?_
    refine va_get (D := D) (ci := 6) (v := .ref q_5) (C := RX6) (T := TX6) (N := 15) hx hb hts inX6 hown hK hP 0 rfl rfl 5 (by decide) (hts _ kF_X6_24) (fun _ h9 => h9) rfl dX6_addChild_50 ?_
    refine lv_aload_n hx hb dX6_addChild_53 rfl (lv_at hl 0 rfl) ?_
    refine va_get (D := D) (ci := 6) (v := .int 0) (C := RX6) (T := TX6) (N := 15) hx hb hts inX6 hown hK hP 0 rfl rfl 0 (by decide) (hts _ kF_X6_48) (fun _ h9 => h9) rfl dX6_addChild_54 ?_
    refine lv_iload hx hb dX6_addChild_57 (lv_at hl 5 rfl) ?_
    refine va_iast hx hb hK hP hD hS 5 0 rfl rfl (by unfold vp_in; decide) dX6_addChild_59 (fun H locs hP hD hS => ?_)
    have hP : va_P D vwCl [(q_0, .inr (6, [.int 0, .ref q_1, .ref q_2, .ref q_3, .ref q_4, .ref q_5, .int x_5, .ref q_6, .int x_6, .ref q_7, .ref q_8, .ref q_9, .ref q_10, .ref q_11, .ref q_12])), (q_1, .inl (k 0, 40, .inl (upd f_0 0 x_0))), (q_2, .inl (k 0, 40, .inl (upd f_1 0 0))), (q_3, .inl (k 0, 40, .inl (upd f_2 0 x_2))), (q_4, .inl (k 0, 40, .inl (upd f_3 0 x_3))), (q_5, .inl (k 0, 40, .inl (upd f_4 0 x_4)))] H := hP
    have hD : va_D A [(q_0, .inr (6, [.int 0, .ref q_1, .ref q_2, .ref q_3, .ref q_4, .ref q_5, .int x_5, .ref q_6, .int x_6, .ref q_7, .ref q_8, .ref q_9, .ref q_10, .ref q_11, .ref q_12])), (q_1, .inl (k 0, 40, .inl (upd f_0 0 x_0))), (q_2, .inl (k 0, 40, .inl (upd f_1 0 0))), (q_3, .inl (k 0, 40, .inl (upd f_2 0 x_2))), (q_4, .inl (k 0, 40, .inl (upd f_3 0 x_3))), (q_5, .inl (k 0, 40, .inl (upd f_4 0 x_4)))] := hD
    refine lv_aload_n hx hb dX6_addChild_60 rfl (lv_at hl 0 rfl) ?_
    refine lv_dup hx hb dX6_addChild_61 rfl ?_
    refine va_get (D := D) (ci := 6) (v := .int 0) (C := RX6) (T := TX6) (N := 15) hx hb hts inX6 hown hK hP 0 rfl rfl 0 (by decide) (hts _ kF_X6_48) (fun _ h9 => h9) rfl dX6_addChild_62 ?_
    refine lv_iconst (v := 1) hx hb dX6_addChild_65 (by decide) ?_
    refine lv_iadd hx hb dX6_addChild_66 ?_
    refine lv_toc (v := 1) (by decide) ?_
    refine va_put (D := D) (ci := 6) (v := .int 1) (ty := .int) (C := RX6) (T := TX6) (N := 15) hx hb hts inX6 tyX6 tyX6_ok nmX6 hown hK hP hD hS 0 rfl rfl 0 (by decide) (hts _ kF_X6_48) (fun _ h9 => h9) rfl (by decide +kernel) rfl rfl (Nat.le_of_ble_eq_true rfl) dX6_addChild_67 (fun H locs hP hD hS => ?_)
    have hP : va_P D vwCl [(q_0, .inr (6, [.int 1, .ref q_1, .ref q_2, .ref q_3, .ref q_4, .ref q_5, .int x_5, .ref q_6, .int x_6, .ref q_7, .ref q_8, .ref q_9, .ref q_10, .ref q_11, .ref q_12])), (q_1, .inl (k 0, 40, .inl (upd f_0 0 x_0))), (q_2, .inl (k 0, 40, .inl (upd f_1 0 0))), (q_3, .inl (k 0, 40, .inl (upd f_2 0 x_2))), (q_4, .inl (k 0, 40, .inl (upd f_3 0 x_3))), (q_5, .inl (k 0, 40, .inl (upd f_4 0 x_4)))] H := hP
    have hD : va_D A [(q_0, .inr (6, [.int 1, .ref q_1, .ref q_2, .ref q_3, .ref q_4, .ref q_5, .int x_5, .ref q_6, .int x_6, .ref q_7, .ref q_8, .ref q_9, .ref q_10, .ref q_11, .ref q_12])), (q_1, .inl (k 0, 40, .inl (upd f_0 0 x_0))), (q_2, .inl (k 0, 40, .inl (upd f_1 0 0))), (q_3, .inl (k 0, 40, .inl (upd f_2 0 x_2))), (q_4, .inl (k 0, 40, .inl (upd f_3 0 x_3))), (q_5, .inl (k 0, 40, .inl (upd f_4 0 x_4)))] := hD
    refine lv_aload_n hx hb dX6_addChild_70 rfl (lv_at hl 0 rfl) ?_
    refine va_get (D := D) (ci := 6) (v := .int 1) (C := RX6) (T := TX6) (N := 15) hx hb hts inX6 hown hK hP 0 rfl rfl 0 (by decide) (hts _ kF_X6_48) (fun _ h9 => h9) rfl dX6_addChild_71 ?_
    refine lv_iconst (v := 1) hx hb dX6_addChild_74 (by decide) ?_
    refine lv_isub hx hb dX6_addChild_75 ?_
    refine lv_toc (v := 0) (by decide) ?_
    exact z_iret C0 hr hlk rfl hK hP hD hS (0, fun _ => 0) (Or.inl ⟨rfl, rfl, c1⟩) [0, 1, 2, 3, 4, 5] rfl rfl rfl dX6_addChild_76
  · refine lv_iconst (v := 1) hx hb dX6_addChild_22 (by decide) ?_
    refine lv_goto (tgt := 27) hx hb dX6_addChild_23 (by decide) ?_
    refine va_iast hx hb hK hP hD hS 2 0 rfl rfl (by unfold vp_in; decide) dX6_addChild_27 (fun H locs hP hD hS => ?_)
    have hP : va_P D vwCl [(q_0, .inr (6, [.int 0, .ref q_1, .ref q_2, .ref q_3, .ref q_4, .ref q_5, .int x_5, .ref q_6, .int x_6, .ref q_7, .ref q_8, .ref q_9, .ref q_10, .ref q_11, .ref q_12])), (q_1, .inl (k 0, 40, .inl (upd f_0 0 x_0))), (q_2, .inl (k 0, 40, .inl (upd f_1 0 1))), (q_3, .inl (k 0, 40, .inl f_2)), (q_4, .inl (k 0, 40, .inl f_3)), (q_5, .inl (k 0, 40, .inl f_4))] H := hP
    have hD : va_D A [(q_0, .inr (6, [.int 0, .ref q_1, .ref q_2, .ref q_3, .ref q_4, .ref q_5, .int x_5, .ref q_6, .int x_6, .ref q_7, .ref q_8, .ref q_9, .ref q_10, .ref q_11, .ref q_12])), (q_1, .inl (k 0, 40, .inl (upd f_0 0 x_0))), (q_2, .inl (k 0, 40, .inl (upd f_1 0 1))), (q_3, .inl (k 0, 40, .inl f_2)), (q_4, .inl (k 0, 40, .inl f_3)), (q_5, .inl (k 0, 40, .inl f_4))] := hD
    refine lv_aload_n hx hb dX6_addChild_28 rfl (lv_at hl 0 rfl) ?_
    refine va_get (D := D) (ci := 6) (v := .ref q_3) (C := RX6) (T := TX6) (N := 15) hx hb hts inX6 hown hK hP 0 rfl rfl 3 (by decide) (hts _ kF_X6_18) (fun _ h9 => h9) rfl dX6_addChild_29 ?_
    refine lv_aload_n hx hb dX6_addChild_32 rfl (lv_at hl 0 rfl) ?_
    refine va_get (D := D) (ci := 6) (v := .int 0) (C := RX6) (T := TX6) (N := 15) hx hb hts inX6 hown hK hP 0 rfl rfl 0 (by decide) (hts _ kF_X6_48) (fun _ h9 => h9) rfl dX6_addChild_33 ?_
    refine lv_iload_n hx hb dX6_addChild_36 rfl (lv_at hl 3 rfl) ?_
    refine va_iast hx hb hK hP hD hS 3 0 rfl rfl (by unfold vp_in; decide) dX6_addChild_37 (fun H locs hP hD hS => ?_)
    have hP : va_P D vwCl [(q_0, .inr (6, [.int 0, .ref q_1, .ref q_2, .ref q_3, .ref q_4, .ref q_5, .int x_5, .ref q_6, .int x_6, .ref q_7, .ref q_8, .ref q_9, .ref q_10, .ref q_11, .ref q_12])), (q_1, .inl (k 0, 40, .inl (upd f_0 0 x_0))), (q_2, .inl (k 0, 40, .inl (upd f_1 0 1))), (q_3, .inl (k 0, 40, .inl (upd f_2 0 x_2))), (q_4, .inl (k 0, 40, .inl f_3)), (q_5, .inl (k 0, 40, .inl f_4))] H := hP
    have hD : va_D A [(q_0, .inr (6, [.int 0, .ref q_1, .ref q_2, .ref q_3, .ref q_4, .ref q_5, .int x_5, .ref q_6, .int x_6, .ref q_7, .ref q_8, .ref q_9, .ref q_10, .ref q_11, .ref q_12])), (q_1, .inl (k 0, 40, .inl (upd f_0 0 x_0))), (q_2, .inl (k 0, 40, .inl (upd f_1 0 1))), (q_3, .inl (k 0, 40, .inl (upd f_2 0 x_2))), (q_4, .inl (k 0, 40, .inl f_3)), (q_5, .inl (k 0, 40, .inl f_4))] := hD
    refine lv_aload_n hx hb dX6_addChild_38 rfl (lv_at hl 0 rfl) ?_
    refine va_get (D := D) (ci := 6) (v := .ref q_4) (C := RX6) (T := TX6) (N := 15) hx hb hts inX6 hown hK hP 0 rfl rfl 4 (by decide) (hts _ kF_X6_21) (fun _ h9 => h9) rfl dX6_addChild_39 ?_
    refine lv_aload_n hx hb dX6_addChild_42 rfl (lv_at hl 0 rfl) ?_
    refine va_get (D := D) (ci := 6) (v := .int 0) (C := RX6) (T := TX6) (N := 15) hx hb hts inX6 hown hK hP 0 rfl rfl 0 (by decide) (hts _ kF_X6_48) (fun _ h9 => h9) rfl dX6_addChild_43 ?_
    refine lv_iload hx hb dX6_addChild_46 (lv_at hl 4 rfl) ?_
    refine va_iast hx hb hK hP hD hS 4 0 rfl rfl (by unfold vp_in; decide) dX6_addChild_48 (fun H locs hP hD hS => ?_)
    have hP : va_P D vwCl [(q_0, .inr (6, [.int 0, .ref q_1, .ref q_2, .ref q_3, .ref q_4, .ref q_5, .int x_5, .ref q_6, .int x_6, .ref q_7, .ref q_8, .ref q_9, .ref q_10, .ref q_11, .ref q_12])), (q_1, .inl (k 0, 40, .inl (upd f_0 0 x_0))), (q_2, .inl (k 0, 40, .inl (upd f_1 0 1))), (q_3, .inl (k 0, 40, .inl (upd f_2 0 x_2))), (q_4, .inl (k 0, 40, .inl (upd f_3 0 x_3))), (q_5, .inl (k 0, 40, .inl f_4))] H := hP
    have hD : va_D A [(q_0, .inr (6, [.int 0, .ref q_1, .ref q_2, .ref q_3, .ref q_4, .ref q_5, .int x_5, .ref q_6, .int x_6, .ref q_7, .ref q_8, .ref q_9, .ref q_10, .ref q_11, .ref q_12])), (q_1, .inl (k 0, 40, .inl (upd f_0 0 x_0))), (q_2, .inl (k 0, 40, .inl (upd f_1 0 1))), (q_3, .inl (k 0, 40, .inl (upd f_2 0 x_2))), (q_4, .inl (k 0, 40, .inl (upd f_3 0 x_3))), (q_5, .inl (k 0, 40, .inl f_4))] := hD
    refine lv_aload_n hx hb dX6_addChild_49 rfl (lv_at hl 0 rfl) ?_
    refine va_get (D := D) (ci := 6) (v := .ref q_5) (C := RX6) (T := TX6) (N := 15) hx hb hts inX6 hown hK hP 0 rfl rfl 5 (by decide) (hts _ kF_X6_24) (fun _ h9 => h9) rfl dX6_addChild_50 ?_
    refine lv_aload_n hx hb dX6_addChild_53 rfl (lv_at hl 0 rfl) ?_
    refine va_get (D := D) (ci := 6) (v := .int 0) (C := RX6) (T := TX6) (N := 15) hx hb hts inX6 hown hK hP 0 rfl rfl 0 (by decide) (hts _ kF_X6_48) (fun _ h9 => h9) rfl dX6_addChild_54 ?_
    refine lv_iload hx hb dX6_addChild_57 (lv_at hl 5 rfl) ?_
    refine va_iast hx hb hK hP hD hS 5 0 rfl rfl (by unfold vp_in; decide) dX6_addChild_59 (fun H locs hP hD hS => ?_)
    have hP : va_P D vwCl [(q_0, .inr (6, [.int 0, .ref q_1, .ref q_2, .ref q_3, .ref q_4, .ref q_5, .int x_5, .ref q_6, .int x_6, .ref q_7, .ref q_8, .ref q_9, .ref q_10, .ref q_11, .ref q_12])), (q_1, .inl (k 0, 40, .inl (upd f_0 0 x_0))), (q_2, .inl (k 0, 40, .inl (upd f_1 0 1))), (q_3, .inl (k 0, 40, .inl (upd f_2 0 x_2))), (q_4, .inl (k 0, 40, .inl (upd f_3 0 x_3))), (q_5, .inl (k 0, 40, .inl (upd f_4 0 x_4)))] H := hP
    have hD : va_D A [(q_0, .inr (6, [.int 0, .ref q_1, .ref q_2, .ref q_3, .ref q_4, .ref q_5, .int x_5, .ref q_6, .int x_6, .ref q_7, .ref q_8, .ref q_9, .ref q_10, .ref q_11, .ref q_12])), (q_1, .inl (k 0, 40, .inl (upd f_0 0 x_0))), (q_2, .inl (k 0, 40, .inl (upd f_1 0 1))), (q_3, .inl (k 0, 40, .inl (upd f_2 0 x_2))), (q_4, .inl (k 0, 40, .inl (upd f_3 0 x_3))), (q_5, .inl (k 0, 40, .inl (upd f_4 0 x_4)))] := hD
    refine lv_aload_n hx hb dX6_addChild_60 rfl (lv_at hl 0 rfl) ?_
    refine lv_dup hx hb dX6_addChild_61 rfl ?_
    refine va_get (D := D) (ci := 6) (v := .int 0) (C := RX6) (T := TX6) (N := 15) hx hb hts inX6 hown hK hP 0 rfl rfl 0 (by decide) (hts _ kF_X6_48) (fun _ h9 => h9) rfl dX6_addChild_62 ?_
    refine lv_iconst (v := 1) hx hb dX6_addChild_65 (by decide) ?_
    refine lv_iadd hx hb dX6_addChild_66 ?_
    refine lv_toc (v := 1) (by decide) ?_
    refine va_put (D := D) (ci := 6) (v := .int 1) (ty := .int) (C := RX6) (T := TX6) (N := 15) hx hb hts inX6 tyX6 tyX6_ok nmX6 hown hK hP hD hS 0 rfl rfl 0 (by decide) (hts _ kF_X6_48) (fun _ h9 => h9) rfl (by decide +kernel) rfl rfl (Nat.le_of_ble_eq_true rfl) dX6_addChild_67 (fun H locs hP hD hS => ?_)
    have hP : va_P D vwCl [(q_0, .inr (6, [.int 1, .ref q_1, .ref q_2, .ref q_3, .ref q_4, .ref q_5, .int x_5, .ref q_6, .int x_6, .ref q_7, .ref q_8, .ref q_9, .ref q_10, .ref q_11, .ref q_12])), (q_1, .inl (k 0, 40, .inl (upd f_0 0 x_0))), (q_2, .inl (k 0, 40, .inl (upd f_1 0 1))), (q_3, .inl (k 0, 40, .inl (upd f_2 0 x_2))), (q_4, .inl (k 0, 40, .inl (upd f_3 0 x_3))), (q_5, .inl (k 0, 40, .inl (upd f_4 0 x_4)))] H := hP
    have hD : va_D A [(q_0, .inr (6, [.int 1, .ref q_1, .ref q_2, .ref q_3, .ref q_4, .ref q_5, .int x_5, .ref q_6, .int x_6, .ref q_7, .ref q_8, .ref q_9, .ref q_10, .ref q_11, .ref q_12])), (q_1, .inl (k 0, 40, .inl (upd f_0 0 x_0))), (q_2, .inl (k 0, 40, .inl (upd f_1 0 1))), (q_3, .inl (k 0, 40, .inl (upd f_2 0 x_2))), (q_4, .inl (k 0, 40, .inl (upd f_3 0 x_3))), (q_5, .inl (k 0, 40, .inl (upd f_4 0 x_4)))] := hD
    refine lv_aload_n hx hb dX6_addChild_70 rfl (lv_at hl 0 rfl) ?_
    refine va_get (D := D) (ci := 6) (v := .int 1) (C := RX6) (T := TX6) (N := 15) hx hb hts inX6 hown hK hP 0 rfl rfl 0 (by decide) (hts _ kF_X6_48) (fun _ h9 => h9) rfl dX6_addChild_71 ?_
    refine lv_iconst (v := 1) hx hb dX6_addChild_74 (by decide) ?_
    refine lv_isub hx hb dX6_addChild_75 ?_
    refine lv_toc (v := 0) (by decide) ?_
    exact z_iret C0 hr hlk rfl hK hP hD hS (1, fun _ => 0) (Or.inr (⟨rfl, rfl, c1⟩)) [0, 1, 2, 3, 4, 5] rfl rfl rfl dX6_addChild_76

set_option maxHeartbeats 4000000 in
set_option maxRecDepth 100000 in
theorem c_X11_answer_2 (l : Launch) (D : va_G) (k : Nat → ClassId) (q_0 : Nat) (q_1 : Nat) (q_2 : Nat) (q_3 : Nat) (q_4 : Nat) (q_5 : Nat) (x_0 : Int32) : zMi l yX11_answer cX11_answer 2 (some .int) ({ frames := 0, cells := 0, slots := 0, locals := 0 }) D k [.ref q_0, .int 0] [(q_0, .inr (11, [.ref q_1, .ref q_2, .ref q_3, .ref q_4, .ref q_5, .int x_0]))] (fun r u => u.1 = 0 ∧ r = 0) (fun u => [(q_0, .inr (11, [.ref q_1, .ref q_2, .ref q_3, .ref q_4, .ref q_5, .int 0]))]) := by
  refine zMi_of (own := RX11) (by decide +kernel) rfl (Nat.le_of_ble_eq_true rfl) ?_
  intro p e s m args below meth c A ls C0 hr hlk hin hP hD hS hA hK hN hl
  have hx := C0.1
  have hb := C0.2.1
  have hml := C0.2.2.1
  have hown := C0.2.2.2.1
  have hts := C0.2.2.2.2
  have hl : lv_has ls 2 [(0, .ref q_0), (1, .int 0)] := hl
  have hP : va_P D vwCl [(q_0, .inr (11, [.ref q_1, .ref q_2, .ref q_3, .ref q_4, .ref q_5, .int x_0]))] s.heap := hP
  refine lv_aload_n hx hb dX11_answer_0 rfl (lv_at hl 0 rfl) ?_
  refine lv_iload_n hx hb dX11_answer_1 rfl (lv_at hl 1 rfl) ?_
  refine lv_if_ge (tgt := 9) hx hb dX11_answer_2 (by decide) (fun _ => ?_) (fun c1 => absurd (by decide) c1)
  refine lv_iconst (v := 0) hx hb dX11_answer_9 (by decide) ?_
  refine va_put (D := D) (ci := 11) (v := .int 0) (ty := .int) (C := RX11) (T := TX11) (N := 6) hx hb hts inX11 tyX11 tyX11_ok nmX11 hown hK hP hD hS 0 rfl rfl 5 (by decide) (hts _ kF_X11_383) (fun _ h9 => h9) rfl (by decide +kernel) rfl rfl (Nat.le_of_ble_eq_true rfl) dX11_answer_10 (fun H locs hP hD hS => ?_)
  have hP : va_P D vwCl [(q_0, .inr (11, [.ref q_1, .ref q_2, .ref q_3, .ref q_4, .ref q_5, .int 0]))] H := hP
  have hD : va_D A [(q_0, .inr (11, [.ref q_1, .ref q_2, .ref q_3, .ref q_4, .ref q_5, .int 0]))] := hD
  refine lv_iload_n hx hb dX11_answer_13 rfl (lv_at hl 1 rfl) ?_
  exact z_iret C0 hr hlk rfl hK hP hD hS (0, fun _ => 0) ⟨rfl, rfl⟩ [0] rfl rfl rfl dX11_answer_14

set_option maxHeartbeats 4000000 in
set_option maxRecDepth 100000 in
theorem c_X11_child_1 (l : Launch) (D : va_G) (k : Nat → ClassId) (q_0 : Nat) (q_1 : Nat) (q_2 : Nat) (q_3 : Nat) (q_4 : Nat) (q_5 : Nat) (q_6 : Nat) (q_7 : Nat) (q_8 : Nat) (q_9 : Nat) (q_10 : Nat) (q_11 : Nat) (q_12 : Nat) (q_13 : Nat) (q_14 : Nat) (q_15 : Nat) (q_16 : Nat) (q_17 : Nat) (q_18 : Nat) (q_19 : Nat) (q_20 : Nat) (q_21 : Nat) (q_22 : Nat) (q_23 : Nat) (x_0 : Int32) (x_1 : Int32) (x_2 : Int32) (x_3 : Int32) (x_4 : Int32) (x_5 : Int32) (x_6 : Int32) (x_7 : Int32) (f_0 : Nat → Int32) (f_1 : Nat → Int32) (f_2 : Nat → Int32) (f_3 : Nat → Int32) (f_4 : Nat → Int32) : zMi l yX11_child cX11_child 7 (some .int) ({ frames := 2, cells := 0, slots := 0, locals := 43 }) D k [.ref q_0, .int x_0, .int x_1, .int x_2, .int x_3, .int x_4] [(q_0, .inr (11, [.ref q_1, .ref q_8, .ref q_9, .ref q_10, .ref q_11, .int x_5])), (q_1, .inr (3, [.ref q_2, .ref q_12, .ref q_13, .ref q_14, .ref q_15, .ref q_16])), (q_2, .inr (6, [.int 0, .ref q_3, .ref q_4, .ref q_5, .ref q_6, .ref q_7, .int x_6, .ref q_17, .int x_7, .ref q_18, .ref q_19, .ref q_20, .ref q_21, .ref q_22, .ref q_23])), (q_3, .inl (k 0, 40, .inl f_0)), (q_4, .inl (k 0, 40, .inl f_1)), (q_5, .inl (k 0, 40, .inl f_2)), (q_6, .inl (k 0, 40, .inl f_3)), (q_7, .inl (k 0, 40, .inl f_4))] (fun r u => (u.1 = 0 ∧ r = (-1) ∧ ((((x_0 < 3) ∨ (¬ x_0 < 3 ∧ ¬ x_0 ≤ 18))) ∨ (((¬ x_0 < 3 ∧ x_0 ≤ 18)) ∧ ((x_2 < (-1)) ∨ (¬ x_2 < (-1) ∧ ¬ x_2 ≤ 7))) ∨ (((¬ x_0 < 3 ∧ x_0 ≤ 18)) ∧ ((¬ x_2 < (-1) ∧ x_2 ≤ 7)) ∧ ((((x_3 < 0) ∨ (¬ x_3 < 0 ∧ ¬ x_3 ≤ 99))) ∨ (((¬ x_3 < 0 ∧ x_3 ≤ 99)) ∧ ((x_4 < 0) ∨ (¬ x_4 < 0 ∧ ¬ x_4 ≤ 99))))))) ∨ (u.1 = 1 ∧ r = 0 ∧ ((((¬ x_0 < 3 ∧ x_0 ≤ 18)) ∧ ((¬ x_2 < (-1) ∧ x_2 ≤ 7)) ∧ ((((¬ x_3 < 0 ∧ x_3 ≤ 99)) ∧ ((¬ x_4 < 0 ∧ x_4 ≤ 99)))) ∧ x_1 = 0) ∨ (((¬ x_0 < 3 ∧ x_0 ≤ 18)) ∧ ((¬ x_2 < (-1) ∧ x_2 ≤ 7)) ∧ ((((¬ x_3 < 0 ∧ x_3 ≤ 99)) ∧ ((¬ x_4 < 0 ∧ x_4 ≤ 99)))) ∧ ¬ x_1 = 0)))) (fun u => []) := by
  refine zMi_of (own := RX11) (by decide +kernel) rfl (Nat.le_of_ble_eq_true rfl) ?_
  intro p e s m args below meth c A ls C0 hr hlk hin hP hD hS hA hK hN hl
  have hx := C0.1
  have hb := C0.2.1
  have hml := C0.2.2.1
  have hown := C0.2.2.2.1
  have hts := C0.2.2.2.2
  have hl : lv_has ls 7 [(0, .ref q_0), (1, .int x_0), (2, .int x_1), (3, .int x_2), (4, .int x_3), (5, .int x_4)] := hl
  have hP : va_P D vwCl [(q_0, .inr (11, [.ref q_1, .ref q_8, .ref q_9, .ref q_10, .ref q_11, .int x_5])), (q_1, .inr (3, [.ref q_2, .ref q_12, .ref q_13, .ref q_14, .ref q_15, .ref q_16])), (q_2, .inr (6, [.int 0, .ref q_3, .ref q_4, .ref q_5, .ref q_6, .ref q_7, .int x_6, .ref q_17, .int x_7, .ref q_18, .ref q_19, .ref q_20, .ref q_21, .ref q_22, .ref q_23])), (q_3, .inl (k 0, 40, .inl f_0)), (q_4, .inl (k 0, 40, .inl f_1)), (q_5, .inl (k 0, 40, .inl f_2)), (q_6, .inl (k 0, 40, .inl f_3)), (q_7, .inl (k 0, 40, .inl f_4))] s.heap := hP
  refine lv_aload_n hx hb dX11_child_0 rfl (lv_at hl 0 rfl) ?_
  refine va_get (D := D) (ci := 11) (v := .ref q_1) (C := RX11) (T := TX11) (N := 6) hx hb hts inX11 hown hK hP 0 rfl rfl 0 (by decide) (hts _ kF_X11_12) (fun _ h9 => h9) rfl dX11_child_1 ?_
  refine va_get (D := D) (ci := 3) (v := .ref q_2) (C := RX3) (T := TX3) (N := 6) hx hb hts inX3 hown hK hP 1 rfl rfl 0 (by decide) (hts _ kF_X11_43) (fun _ h9 => h9) rfl dX11_child_4 ?_
  refine lv_astore (lv' := [(6, .ref q_2), (0, .ref q_0), (1, .int x_0), (2, .int x_1), (3, .int x_2), (4, .int x_3), (5, .int x_4)]) hx hb dX11_child_7 hl (by decide) rfl (fun ls hl => ?_)
  refine lv_iload_n hx hb dX11_child_9 rfl (lv_at hl 2 rfl) ?_
  refine lv_iconst (v := 3) hx hb dX11_child_10 (by decide) ?_
  refine lv_bipush (v := 18) hx hb dX11_child_11 (by decide) ?_
  refine z_bi0 (z_runS (As := [.int x_0, .int 3, .int 18]) (rest := []) C0 (c_X11_isOutside_1 l D k x_0 3 18 _) okS_X11_isOutside kM_X11_47 rfl (z_p0 hK hN) rfl hl.1 rfl (Nat.le_of_ble_eq_true rfl) dX11_child_13 rfl) hP hS hA (fun r1 u1 H locs hw1 hP hS => ?_)
  obtain ⟨i1, a1⟩ := u1
  dsimp only at hw1
  rcases hw1 with ⟨rfl, rfl, c1⟩ | ⟨rfl, rfl, c1⟩
  · refine lv_if_ne (tgt := 39) hx hb dX11_child_16 (by decide) (fun _ => ?_) (fun c2 => absurd c2 (by decide))
    refine lv_aload_n hx hb dX11_child_39 rfl (lv_at hl 1 rfl) ?_
    refine lv_iconst (v := (-1)) hx hb dX11_child_40 (by decide) ?_
    refine z_bi (wr := [(q_1, .inr (3, [.ref q_2, .ref q_12, .ref q_13, .ref q_14, .ref q_15, .ref q_16])), (q_2, .inr (6, [.int 0, .ref q_3, .ref q_4, .ref q_5, .ref q_6, .ref q_7, .int x_6, .ref q_17, .int x_7, .ref q_18, .ref q_19, .ref q_20, .ref q_21, .ref q_22, .ref q_23])), (q_3, .inl (k 0, 40, .inl f_0)), (q_4, .inl (k 0, 40, .inl f_1)), (q_5, .inl (k 0, 40, .inl f_2)), (q_6, .inl (k 0, 40, .inl f_3)), (q_7, .inl (k 0, 40, .inl f_4))]) (z_runV (C := RX11) (As := [.int (-1)]) (rest := []) C0 (c_X11_answer_1 l D k q_0 q_1 q_8 q_9 q_10 q_11 x_5 _) okV_X11_answer kM_X11_55 rfl (z_pV (q0 := 0) hK hN hP hD [0] rfl rfl rfl rfl rfl) rfl hl.1 rfl (Nat.le_of_ble_eq_true rfl) dX11_child_41 rfl) hP hD hS hA [0] [1, 2, 3, 4, 5, 6, 7] rfl rfl rfl rfl (fun r3 u3 H locs hw3 hP hD hS => ?_)
    obtain ⟨i3, a3⟩ := u3
    dsimp only at hw3
    obtain ⟨rfl, rfl⟩ := hw3
    have hP : va_P D vwCl [(q_1, .inr (3, [.ref q_2, .ref q_12, .ref q_13, .ref q_14, .ref q_15, .ref q_16])), (q_2, .inr (6, [.int 0, .ref q_3, .ref q_4, .ref q_5, .ref q_6, .ref q_7, .int x_6, .ref q_17, .int x_7, .ref q_18, .ref q_19, .ref q_20, .ref q_21, .ref q_22, .ref q_23])), (q_3, .inl (k 0, 40, .inl f_0)), (q_4, .inl (k 0, 40, .inl f_1)), (q_5, .inl (k 0, 40, .inl f_2)), (q_6, .inl (k 0, 40, .inl f_3)), (q_7, .inl (k 0, 40, .inl f_4)), (q_0, .inr (11, [.ref q_1, .ref q_8, .ref q_9, .ref q_10, .ref q_11, .int (-1)]))] H := hP
    have hD : va_D A [(q_1, .inr (3, [.ref q_2, .ref q_12, .ref q_13, .ref q_14, .ref q_15, .ref q_16])), (q_2, .inr (6, [.int 0, .ref q_3, .ref q_4, .ref q_5, .ref q_6, .ref q_7, .int x_6, .ref q_17, .int x_7, .ref q_18, .ref q_19, .ref q_20, .ref q_21, .ref q_22, .ref q_23])), (q_3, .inl (k 0, 40, .inl f_0)), (q_4, .inl (k 0, 40, .inl f_1)), (q_5, .inl (k 0, 40, .inl f_2)), (q_6, .inl (k 0, 40, .inl f_3)), (q_7, .inl (k 0, 40, .inl f_4)), (q_0, .inr (11, [.ref q_1, .ref q_8, .ref q_9, .ref q_10, .ref q_11, .int (-1)]))] := hD
    exact z_iret C0 hr hlk rfl hK hP hD hS (0, fun _ => 0) (Or.inl ⟨rfl, rfl, (Or.inl c1)⟩) [] rfl rfl rfl dX11_child_44
  · refine lv_if_ne (tgt := 39) hx hb dX11_child_16 (by decide) (fun c4 => absurd (by decide) c4) (fun _ => ?_)
    refine lv_iload_n hx hb dX11_child_19 rfl (lv_at hl 4 rfl) ?_
    refine lv_iconst (v := (-1)) hx hb dX11_child_20 (by decide) ?_
    refine lv_bipush (v := 7) hx hb dX11_child_21 (by decide) ?_
    refine z_bi0 (z_runS (As := [.int x_2, .int (-1), .int 7]) (rest := []) C0 (c_X11_isOutside_1 l D k x_2 (-1) 7 _) okS_X11_isOutside kM_X11_47 rfl (z_p0 hK hN) rfl hl.1 rfl (Nat.le_of_ble_eq_true rfl) dX11_child_23 rfl) hP hS hA (fun r5 u5 H locs hw5 hP hS => ?_)
    obtain ⟨i5, a5⟩ := u5
    dsimp only at hw5
    rcases hw5 with ⟨rfl, rfl, c5⟩ | ⟨rfl, rfl, c5⟩
    · refine lv_if_ne (tgt := 39) hx hb dX11_child_26 (by decide) (fun _ => ?_) (fun c6 => absurd c6 (by decide))
      refine lv_aload_n hx hb dX11_child_39 rfl (lv_at hl 1 rfl) ?_
      refine lv_iconst (v := (-1)) hx hb dX11_child_40 (by decide) ?_
      refine z_bi (wr := [(q_1, .inr (3, [.ref q_2, .ref q_12, .ref q_13, .ref q_14, .ref q_15, .ref q_16])), (q_2, .inr (6, [.int 0, .ref q_3, .ref q_4, .ref q_5, .ref q_6, .ref q_7, .int x_6, .ref q_17, .int x_7, .ref q_18, .ref q_19, .ref q_20, .ref q_21, .ref q_22, .ref q_23])), (q_3, .inl (k 0, 40, .inl f_0)), (q_4, .inl (k 0, 40, .inl f_1)), (q_5, .inl (k 0, 40, .inl f_2)), (q_6, .inl (k 0, 40, .inl f_3)), (q_7, .inl (k 0, 40, .inl f_4))]) (z_runV (C := RX11) (As := [.int (-1)]) (rest := []) C0 (c_X11_answer_1 l D k q_0 q_1 q_8 q_9 q_10 q_11 x_5 _) okV_X11_answer kM_X11_55 rfl (z_pV (q0 := 0) hK hN hP hD [0] rfl rfl rfl rfl rfl) rfl hl.1 rfl (Nat.le_of_ble_eq_true rfl) dX11_child_41 rfl) hP hD hS hA [0] [1, 2, 3, 4, 5, 6, 7] rfl rfl rfl rfl (fun r7 u7 H locs hw7 hP hD hS => ?_)
      obtain ⟨i7, a7⟩ := u7
      dsimp only at hw7
      obtain ⟨rfl, rfl⟩ := hw7
      have hP : va_P D vwCl [(q_1, .inr (3, [.ref q_2, .ref q_12, .ref q_13, .ref q_14, .ref q_15, .ref q_16])), (q_2, .inr (6, [.int 0, .ref q_3, .ref q_4, .ref q_5, .ref q_6, .ref q_7, .int x_6, .ref q_17, .int x_7, .ref q_18, .ref q_19, .ref q_20, .ref q_21, .ref q_22, .ref q_23])), (q_3, .inl (k 0, 40, .inl f_0)), (q_4, .inl (k 0, 40, .inl f_1)), (q_5, .inl (k 0, 40, .inl f_2)), (q_6, .inl (k 0, 40, .inl f_3)), (q_7, .inl (k 0, 40, .inl f_4)), (q_0, .inr (11, [.ref q_1, .ref q_8, .ref q_9, .ref q_10, .ref q_11, .int (-1)]))] H := hP
      have hD : va_D A [(q_1, .inr (3, [.ref q_2, .ref q_12, .ref q_13, .ref q_14, .ref q_15, .ref q_16])), (q_2, .inr (6, [.int 0, .ref q_3, .ref q_4, .ref q_5, .ref q_6, .ref q_7, .int x_6, .ref q_17, .int x_7, .ref q_18, .ref q_19, .ref q_20, .ref q_21, .ref q_22, .ref q_23])), (q_3, .inl (k 0, 40, .inl f_0)), (q_4, .inl (k 0, 40, .inl f_1)), (q_5, .inl (k 0, 40, .inl f_2)), (q_6, .inl (k 0, 40, .inl f_3)), (q_7, .inl (k 0, 40, .inl f_4)), (q_0, .inr (11, [.ref q_1, .ref q_8, .ref q_9, .ref q_10, .ref q_11, .int (-1)]))] := hD
      exact z_iret C0 hr hlk rfl hK hP hD hS (0, fun _ => 0) (Or.inl ⟨rfl, rfl, (Or.inr (Or.inl (⟨c1, c5⟩)))⟩) [] rfl rfl rfl dX11_child_44
    · refine lv_if_ne (tgt := 39) hx hb dX11_child_26 (by decide) (fun c8 => absurd (by decide) c8) (fun _ => ?_)
      refine lv_iload hx hb dX11_child_29 (lv_at hl 5 rfl) ?_
      refine lv_iload hx hb dX11_child_31 (lv_at hl 6 rfl) ?_
      refine z_bi0 (z_runS (As := [.int x_3, .int x_4]) (rest := []) C0 (c_X11_isNoPlace_1 l D k x_3 x_4 _) okS_X11_isNoPlace kM_X11_51 rfl (z_p0 hK hN) rfl hl.1 rfl (Nat.le_of_ble_eq_true rfl) dX11_child_33 rfl) hP hS hA (fun r9 u9 H locs hw9 hP hS => ?_)
      obtain ⟨i9, a9⟩ := u9
      dsimp only at hw9
      rcases hw9 with ⟨rfl, rfl, c9⟩ | ⟨rfl, rfl, c9⟩
      · refine lv_if_eq (tgt := 45) hx hb dX11_child_36 (by decide) (fun c10 => absurd c10 (by decide)) (fun _ => ?_)
        refine lv_aload_n hx hb dX11_child_39 rfl (lv_at hl 1 rfl) ?_
        refine lv_iconst (v := (-1)) hx hb dX11_child_40 (by decide) ?_
        refine z_bi (wr := [(q_1, .inr (3, [.ref q_2, .ref q_12, .ref q_13, .ref q_14, .ref q_15, .ref q_16])), (q_2, .inr (6, [.int 0, .ref q_3, .ref q_4, .ref q_5, .ref q_6, .ref q_7, .int x_6, .ref q_17, .int x_7, .ref q_18, .ref q_19, .ref q_20, .ref q_21, .ref q_22, .ref q_23])), (q_3, .inl (k 0, 40, .inl f_0)), (q_4, .inl (k 0, 40, .inl f_1)), (q_5, .inl (k 0, 40, .inl f_2)), (q_6, .inl (k 0, 40, .inl f_3)), (q_7, .inl (k 0, 40, .inl f_4))]) (z_runV (C := RX11) (As := [.int (-1)]) (rest := []) C0 (c_X11_answer_1 l D k q_0 q_1 q_8 q_9 q_10 q_11 x_5 _) okV_X11_answer kM_X11_55 rfl (z_pV (q0 := 0) hK hN hP hD [0] rfl rfl rfl rfl rfl) rfl hl.1 rfl (Nat.le_of_ble_eq_true rfl) dX11_child_41 rfl) hP hD hS hA [0] [1, 2, 3, 4, 5, 6, 7] rfl rfl rfl rfl (fun r11 u11 H locs hw11 hP hD hS => ?_)
        obtain ⟨i11, a11⟩ := u11
        dsimp only at hw11
        obtain ⟨rfl, rfl⟩ := hw11
        have hP : va_P D vwCl [(q_1, .inr (3, [.ref q_2, .ref q_12, .ref q_13, .ref q_14, .ref q_15, .ref q_16])), (q_2, .inr (6, [.int 0, .ref q_3, .ref q_4, .ref q_5, .ref q_6, .ref q_7, .int x_6, .ref q_17, .int x_7, .ref q_18, .ref q_19, .ref q_20, .ref q_21, .ref q_22, .ref q_23])), (q_3, .inl (k 0, 40, .inl f_0)), (q_4, .inl (k 0, 40, .inl f_1)), (q_5, .inl (k 0, 40, .inl f_2)), (q_6, .inl (k 0, 40, .inl f_3)), (q_7, .inl (k 0, 40, .inl f_4)), (q_0, .inr (11, [.ref q_1, .ref q_8, .ref q_9, .ref q_10, .ref q_11, .int (-1)]))] H := hP
        have hD : va_D A [(q_1, .inr (3, [.ref q_2, .ref q_12, .ref q_13, .ref q_14, .ref q_15, .ref q_16])), (q_2, .inr (6, [.int 0, .ref q_3, .ref q_4, .ref q_5, .ref q_6, .ref q_7, .int x_6, .ref q_17, .int x_7, .ref q_18, .ref q_19, .ref q_20, .ref q_21, .ref q_22, .ref q_23])), (q_3, .inl (k 0, 40, .inl f_0)), (q_4, .inl (k 0, 40, .inl f_1)), (q_5, .inl (k 0, 40, .inl f_2)), (q_6, .inl (k 0, 40, .inl f_3)), (q_7, .inl (k 0, 40, .inl f_4)), (q_0, .inr (11, [.ref q_1, .ref q_8, .ref q_9, .ref q_10, .ref q_11, .int (-1)]))] := hD
        exact z_iret C0 hr hlk rfl hK hP hD hS (0, fun _ => 0) (Or.inl ⟨rfl, rfl, (Or.inr (Or.inr (⟨c1, c5, c9⟩)))⟩) [] rfl rfl rfl dX11_child_44
      · refine lv_if_eq (tgt := 45) hx hb dX11_child_36 (by decide) (fun _ => ?_) (fun c12 => absurd (by decide) c12)
        refine lv_aload hx hb dX11_child_45 (lv_at hl 0 rfl) ?_
        refine va_get (D := D) (ci := 6) (v := .int 0) (C := RX6) (T := TX6) (N := 15) hx hb hts inX6 hown hK hP 2 rfl rfl 0 (by decide) (hts _ kF_X11_59) (fun _ h9 => h9) rfl dX11_child_47 ?_
        refine lv_bipush (v := 40) hx hb dX11_child_50 (by decide) ?_
        refine lv_icmp_lt (tgt := 62) hx hb dX11_child_52 (by decide) (fun _ => ?_) (fun c13 => absurd (by decide) c13)
        refine lv_aload_n hx hb dX11_child_62 rfl (lv_at hl 1 rfl) ?_
        refine lv_aload hx hb dX11_child_63 (lv_at hl 0 rfl) ?_
        refine lv_iload_n hx hb dX11_child_65 rfl (lv_at hl 2 rfl) ?_
        refine lv_iload_n hx hb dX11_child_66 rfl (lv_at hl 3 rfl) ?_
        refine lv_iload_n hx hb dX11_child_67 rfl (lv_at hl 4 rfl) ?_
        refine lv_iload hx hb dX11_child_68 (lv_at hl 5 rfl) ?_
        refine lv_iload hx hb dX11_child_70 (lv_at hl 6 rfl) ?_
        refine z_bi (wr := [(q_0, .inr (11, [.ref q_1, .ref q_8, .ref q_9, .ref q_10, .ref q_11, .int x_5])), (q_1, .inr (3, [.ref q_2, .ref q_12, .ref q_13, .ref q_14, .ref q_15, .ref q_16]))]) (z_runV (C := RX6) (As := [.int x_0, .int x_1, .int x_2, .int x_3, .int x_4]) (rest := [.ref q_0]) C0 (c_X6_addChild_1 l D k q_2 q_3 q_4 q_5 q_6 q_7 q_17 q_18 q_19 q_20 q_21 q_22 q_23 x_0 x_1 x_2 x_3 x_4 x_6 x_7 f_0 f_1 f_2 f_3 f_4 _) okV_X6_addChild kM_X11_65 rfl (z_pV (q0 := 2) hK hN hP hD [2, 3, 4, 5, 6, 7] rfl rfl rfl rfl rfl) rfl hl.1 rfl (Nat.le_of_ble_eq_true rfl) dX11_child_72 rfl) hP hD hS hA [2, 3, 4, 5, 6, 7] [0, 1] rfl rfl rfl rfl (fun r14 u14 H locs hw14 hP hD hS => ?_)
        obtain ⟨i14, a14⟩ := u14
        dsimp only at hw14
        rcases hw14 with ⟨rfl, rfl, c14⟩ | ⟨rfl, rfl, c14⟩
        · have hP : va_P D vwCl [(q_0, .inr (11, [.ref q_1, .ref q_8, .ref q_9, .ref q_10, .ref q_11, .int x_5])), (q_1, .inr (3, [.ref q_2, .ref q_12, .ref q_13, .ref q_14, .ref q_15, .ref q_16])), (q_2, .inr (6, [.int 1, .ref q_3, .ref q_4, .ref q_5, .ref q_6, .ref q_7, .int x_6, .ref q_17, .int x_7, .ref q_18, .ref q_19, .ref q_20, .ref q_21, .ref q_22, .ref q_23])), (q_3, .inl (k 0, 40, .inl (upd f_0 0 x_0))), (q_4, .inl (k 0, 40, .inl (upd f_1 0 0))), (q_5, .inl (k 0, 40, .inl (upd f_2 0 x_2))), (q_6, .inl (k 0, 40, .inl (upd f_3 0 x_3))), (q_7, .inl (k 0, 40, .inl (upd f_4 0 x_4)))] H := hP
          have hD : va_D A [(q_0, .inr (11, [.ref q_1, .ref q_8, .ref q_9, .ref q_10, .ref q_11, .int x_5])), (q_1, .inr (3, [.ref q_2, .ref q_12, .ref q_13, .ref q_14, .ref q_15, .ref q_16])), (q_2, .inr (6, [.int 1, .ref q_3, .ref q_4, .ref q_5, .ref q_6, .ref q_7, .int x_6, .ref q_17, .int x_7, .ref q_18, .ref q_19, .ref q_20, .ref q_21, .ref q_22, .ref q_23])), (q_3, .inl (k 0, 40, .inl (upd f_0 0 x_0))), (q_4, .inl (k 0, 40, .inl (upd f_1 0 0))), (q_5, .inl (k 0, 40, .inl (upd f_2 0 x_2))), (q_6, .inl (k 0, 40, .inl (upd f_3 0 x_3))), (q_7, .inl (k 0, 40, .inl (upd f_4 0 x_4)))] := hD
          refine z_bi (wr := [(q_1, .inr (3, [.ref q_2, .ref q_12, .ref q_13, .ref q_14, .ref q_15, .ref q_16])), (q_2, .inr (6, [.int 1, .ref q_3, .ref q_4, .ref q_5, .ref q_6, .ref q_7, .int x_6, .ref q_17, .int x_7, .ref q_18, .ref q_19, .ref q_20, .ref q_21, .ref q_22, .ref q_23])), (q_3, .inl (k 0, 40, .inl (upd f_0 0 x_0))), (q_4, .inl (k 0, 40, .inl (upd f_1 0 0))), (q_5, .inl (k 0, 40, .inl (upd f_2 0 x_2))), (q_6, .inl (k 0, 40, .inl (upd f_3 0 x_3))), (q_7, .inl (k 0, 40, .inl (upd f_4 0 x_4)))]) (z_runV (C := RX11) (As := [.int 0]) (rest := []) C0 (c_X11_answer_2 l D k q_0 q_1 q_8 q_9 q_10 q_11 x_5 _) okV_X11_answer kM_X11_55 rfl (z_pV (q0 := 0) hK hN hP hD [0] rfl rfl rfl rfl rfl) rfl hl.1 rfl (Nat.le_of_ble_eq_true rfl) dX11_child_75 rfl) hP hD hS hA [0] [1, 2, 3, 4, 5, 6, 7] rfl rfl rfl rfl (fun r15 u15 H locs hw15 hP hD hS => ?_)
          obtain ⟨i15, a15⟩ := u15
          dsimp only at hw15
          obtain ⟨rfl, rfl⟩ := hw15
          have hP : va_P D vwCl [(q_1, .inr (3, [.ref q_2, .ref q_12, .ref q_13, .ref q_14, .ref q_15, .ref q_16])), (q_2, .inr (6, [.int 1, .ref q_3, .ref q_4, .ref q_5, .ref q_6, .ref q_7, .int x_6, .ref q_17, .int x_7, .ref q_18, .ref q_19, .ref q_20, .ref q_21, .ref q_22, .ref q_23])), (q_3, .inl (k 0, 40, .inl (upd f_0 0 x_0))), (q_4, .inl (k 0, 40, .inl (upd f_1 0 0))), (q_5, .inl (k 0, 40, .inl (upd f_2 0 x_2))), (q_6, .inl (k 0, 40, .inl (upd f_3 0 x_3))), (q_7, .inl (k 0, 40, .inl (upd f_4 0 x_4))), (q_0, .inr (11, [.ref q_1, .ref q_8, .ref q_9, .ref q_10, .ref q_11, .int 0]))] H := hP
          have hD : va_D A [(q_1, .inr (3, [.ref q_2, .ref q_12, .ref q_13, .ref q_14, .ref q_15, .ref q_16])), (q_2, .inr (6, [.int 1, .ref q_3, .ref q_4, .ref q_5, .ref q_6, .ref q_7, .int x_6, .ref q_17, .int x_7, .ref q_18, .ref q_19, .ref q_20, .ref q_21, .ref q_22, .ref q_23])), (q_3, .inl (k 0, 40, .inl (upd f_0 0 x_0))), (q_4, .inl (k 0, 40, .inl (upd f_1 0 0))), (q_5, .inl (k 0, 40, .inl (upd f_2 0 x_2))), (q_6, .inl (k 0, 40, .inl (upd f_3 0 x_3))), (q_7, .inl (k 0, 40, .inl (upd f_4 0 x_4))), (q_0, .inr (11, [.ref q_1, .ref q_8, .ref q_9, .ref q_10, .ref q_11, .int 0]))] := hD
          exact z_iret C0 hr hlk rfl hK hP hD hS (1, fun _ => 0) (Or.inr (⟨rfl, rfl, (Or.inl (⟨c1, c5, c9, c14⟩))⟩)) [] rfl rfl rfl dX11_child_78
        · have hP : va_P D vwCl [(q_0, .inr (11, [.ref q_1, .ref q_8, .ref q_9, .ref q_10, .ref q_11, .int x_5])), (q_1, .inr (3, [.ref q_2, .ref q_12, .ref q_13, .ref q_14, .ref q_15, .ref q_16])), (q_2, .inr (6, [.int 1, .ref q_3, .ref q_4, .ref q_5, .ref q_6, .ref q_7, .int x_6, .ref q_17, .int x_7, .ref q_18, .ref q_19, .ref q_20, .ref q_21, .ref q_22, .ref q_23])), (q_3, .inl (k 0, 40, .inl (upd f_0 0 x_0))), (q_4, .inl (k 0, 40, .inl (upd f_1 0 1))), (q_5, .inl (k 0, 40, .inl (upd f_2 0 x_2))), (q_6, .inl (k 0, 40, .inl (upd f_3 0 x_3))), (q_7, .inl (k 0, 40, .inl (upd f_4 0 x_4)))] H := hP
          have hD : va_D A [(q_0, .inr (11, [.ref q_1, .ref q_8, .ref q_9, .ref q_10, .ref q_11, .int x_5])), (q_1, .inr (3, [.ref q_2, .ref q_12, .ref q_13, .ref q_14, .ref q_15, .ref q_16])), (q_2, .inr (6, [.int 1, .ref q_3, .ref q_4, .ref q_5, .ref q_6, .ref q_7, .int x_6, .ref q_17, .int x_7, .ref q_18, .ref q_19, .ref q_20, .ref q_21, .ref q_22, .ref q_23])), (q_3, .inl (k 0, 40, .inl (upd f_0 0 x_0))), (q_4, .inl (k 0, 40, .inl (upd f_1 0 1))), (q_5, .inl (k 0, 40, .inl (upd f_2 0 x_2))), (q_6, .inl (k 0, 40, .inl (upd f_3 0 x_3))), (q_7, .inl (k 0, 40, .inl (upd f_4 0 x_4)))] := hD
          refine z_bi (wr := [(q_1, .inr (3, [.ref q_2, .ref q_12, .ref q_13, .ref q_14, .ref q_15, .ref q_16])), (q_2, .inr (6, [.int 1, .ref q_3, .ref q_4, .ref q_5, .ref q_6, .ref q_7, .int x_6, .ref q_17, .int x_7, .ref q_18, .ref q_19, .ref q_20, .ref q_21, .ref q_22, .ref q_23])), (q_3, .inl (k 0, 40, .inl (upd f_0 0 x_0))), (q_4, .inl (k 0, 40, .inl (upd f_1 0 1))), (q_5, .inl (k 0, 40, .inl (upd f_2 0 x_2))), (q_6, .inl (k 0, 40, .inl (upd f_3 0 x_3))), (q_7, .inl (k 0, 40, .inl (upd f_4 0 x_4)))]) (z_runV (C := RX11) (As := [.int 0]) (rest := []) C0 (c_X11_answer_2 l D k q_0 q_1 q_8 q_9 q_10 q_11 x_5 _) okV_X11_answer kM_X11_55 rfl (z_pV (q0 := 0) hK hN hP hD [0] rfl rfl rfl rfl rfl) rfl hl.1 rfl (Nat.le_of_ble_eq_true rfl) dX11_child_75 rfl) hP hD hS hA [0] [1, 2, 3, 4, 5, 6, 7] rfl rfl rfl rfl (fun r16 u16 H locs hw16 hP hD hS => ?_)
          obtain ⟨i16, a16⟩ := u16
          dsimp only at hw16
          obtain ⟨rfl, rfl⟩ := hw16
          have hP : va_P D vwCl [(q_1, .inr (3, [.ref q_2, .ref q_12, .ref q_13, .ref q_14, .ref q_15, .ref q_16])), (q_2, .inr (6, [.int 1, .ref q_3, .ref q_4, .ref q_5, .ref q_6, .ref q_7, .int x_6, .ref q_17, .int x_7, .ref q_18, .ref q_19, .ref q_20, .ref q_21, .ref q_22, .ref q_23])), (q_3, .inl (k 0, 40, .inl (upd f_0 0 x_0))), (q_4, .inl (k 0, 40, .inl (upd f_1 0 1))), (q_5, .inl (k 0, 40, .inl (upd f_2 0 x_2))), (q_6, .inl (k 0, 40, .inl (upd f_3 0 x_3))), (q_7, .inl (k 0, 40, .inl (upd f_4 0 x_4))), (q_0, .inr (11, [.ref q_1, .ref q_8, .ref q_9, .ref q_10, .ref q_11, .int 0]))] H := hP
          have hD : va_D A [(q_1, .inr (3, [.ref q_2, .ref q_12, .ref q_13, .ref q_14, .ref q_15, .ref q_16])), (q_2, .inr (6, [.int 1, .ref q_3, .ref q_4, .ref q_5, .ref q_6, .ref q_7, .int x_6, .ref q_17, .int x_7, .ref q_18, .ref q_19, .ref q_20, .ref q_21, .ref q_22, .ref q_23])), (q_3, .inl (k 0, 40, .inl (upd f_0 0 x_0))), (q_4, .inl (k 0, 40, .inl (upd f_1 0 1))), (q_5, .inl (k 0, 40, .inl (upd f_2 0 x_2))), (q_6, .inl (k 0, 40, .inl (upd f_3 0 x_3))), (q_7, .inl (k 0, 40, .inl (upd f_4 0 x_4))), (q_0, .inr (11, [.ref q_1, .ref q_8, .ref q_9, .ref q_10, .ref q_11, .int 0]))] := hD
          exact z_iret C0 hr hlk rfl hK hP hD hS (1, fun _ => 0) (Or.inr (⟨rfl, rfl, (Or.inr (⟨c1, c5, c9, c14⟩))⟩)) [] rfl rfl rfl dX11_child_78

set_option maxHeartbeats 4000000 in
set_option maxRecDepth 100000 in
theorem c_X12_in_1 (l : Launch) (D : va_G) (k : Nat → ClassId) (g_0 : Int64) (g_1 : Int64) (g_2 : Int64) : zMi l yX12_in cX12_in 6 (some .boolean) ({ frames := 0, cells := 0, slots := 0, locals := 0 }) D k [.long g_0, .long g_1, .long g_2] [] (fun r u => (u.1 = 0 ∧ r = 0 ∧ ((g_0 < g_1) ∨ (¬ g_0 < g_1 ∧ g_2 < g_0))) ∨ (u.1 = 1 ∧ r = 1 ∧ ((¬ g_0 < g_1 ∧ ¬ g_2 < g_0)))) (fun u => []) := by
  refine zMi_of (own := RX12) (by decide +kernel) rfl (Nat.le_of_ble_eq_true rfl) ?_
  intro p e s m args below meth c A ls C0 hr hlk hin hP hD hS hA hK hN hl
  have hx := C0.1
  have hb := C0.2.1
  have hml := C0.2.2.1
  have hown := C0.2.2.2.1
  have hts := C0.2.2.2.2
  have hl : lv_has ls 6 [(0, .long g_0), (2, .long g_1), (4, .long g_2)] := hl
  have hP : va_P D vwCl [] s.heap := hP
  refine lv_lload_n hx hb dX12_in_0 rfl (lv_at hl 0 rfl) ?_
  refine lv_lload_n hx hb dX12_in_1 rfl (lv_at hl 1 rfl) ?_
  refine W.lcmp hx hb dX12_in_2 ?_
  refine lv_if_lt (tgt := 17) hx hb dX12_in_3 (by decide) (fun c1 => ?_) (fun c1 => ?_)
  · have c1 : g_0 < g_1 := (lg_clt _ _).mp c1
    refine lv_iconst (v := 0) hx hb dX12_in_17 (by decide) ?_
    exact z_iret C0 hr hlk rfl hK hP hD hS (0, fun _ => 0) (Or.inl ⟨rfl, rfl, (Or.inl c1)⟩) [] rfl rfl rfl dX12_in_18
  · have c1 : ¬ g_0 < g_1 := fun q => c1 ((lg_clt _ _).mpr q)
    refine lv_lload_n hx hb dX12_in_6 rfl (lv_at hl 0 rfl) ?_
    refine lv_lload hx hb dX12_in_7 (lv_at hl 2 rfl) ?_
    refine W.lcmp hx hb dX12_in_9 ?_
    refine lv_if_gt (tgt := 17) hx hb dX12_in_10 (by decide) (fun c2 => ?_) (fun c2 => ?_)
    · have c2 : g_2 < g_0 := (lg_cgt _ _).mp c2
      refine lv_iconst (v := 0) hx hb dX12_in_17 (by decide) ?_
      exact z_iret C0 hr hlk rfl hK hP hD hS (0, fun _ => 0) (Or.inl ⟨rfl, rfl, (Or.inr (⟨c1, c2⟩))⟩) [] rfl rfl rfl dX12_in_18
    · have c2 : ¬ g_2 < g_0 := fun q => c2 ((lg_cgt _ _).mpr q)
      refine lv_iconst (v := 1) hx hb dX12_in_13 (by decide) ?_
      refine lv_goto (tgt := 18) hx hb dX12_in_14 (by decide) ?_
      exact z_iret C0 hr hlk rfl hK hP hD hS (1, fun _ => 0) (Or.inr (⟨rfl, rfl, ⟨c1, c2⟩⟩)) [] rfl rfl rfl dX12_in_18

set_option maxHeartbeats 4000000 in
set_option maxRecDepth 100000 in
theorem c_X12_told_1 (l : Launch) (D : va_G) (k : Nat → ClassId) (q_0 : Nat) (q_1 : Nat) (q_2 : Nat) (q_3 : Nat) (q_4 : Nat) (q_5 : Nat) (q_6 : Nat) (q_7 : Nat) (q_8 : Nat) (q_9 : Nat) (q_10 : Nat) (q_11 : Nat) (q_12 : Nat) (q_13 : Nat) (q_14 : Nat) (q_15 : Nat) (q_16 : Nat) (q_17 : Nat) (q_18 : Nat) (q_19 : Nat) (q_20 : Nat) (q_21 : Nat) (q_22 : Nat) (q_23 : Nat) (q_24 : Nat) (q_25 : Nat) (x_0 : Int32) (x_1 : Int32) (x_2 : Int32) (x_3 : Int32) (x_4 : Int32) (x_5 : Int32) (x_6 : Int32) (g_7 : Int64) (x_8 : Int32) (x_9 : Int32) (x_10 : Int32) (x_11 : Int32) (x_12 : Int32) (x_13 : Int32) (x_14 : Int32) (x_15 : Int32) (g_16 : Int64) (g_17 : Int64) (x_18 : Int32) (x_19 : Int32) (x_20 : Int32) (x_21 : Int32) (x_22 : Int32) (x_23 : Int32) (x_24 : Int32) (x_25 : Int32) (x_26 : Int32) (x_27 : Int32) (x_28 : Int32) (x_29 : Int32) (x_30 : Int32) : zMi l yX12_told cX12_told 2 (some .int) ({ frames := 0, cells := 0, slots := 0, locals := 0 }) D k [.ref q_0, .int (-1)] [(q_0, .inr (12, [.int x_0, .int x_1, .ref q_1, .ref q_2, .ref q_3, .int x_2, .ref q_4, .ref q_5, .ref q_6, .ref q_7, .ref q_8, .int x_3, .int x_4, .int x_5, .int x_6, .long g_7, .int x_8, .int x_9, .int x_10, .ref q_9, .int x_11, .ref q_10, .ref q_11, .int x_12, .ref q_12, .ref q_13, .int x_13, .int x_14, .ref q_14, .ref q_15, .ref q_16, .ref q_17, .int x_15, .long g_16, .long g_17, .int x_18, .int x_19, .int x_20, .int x_21, .ref q_18, .ref q_19, .int x_22, .int x_23, .int x_24, .int x_25, .ref q_20, .ref q_21, .int x_26, .int x_27, .ref q_22, .ref q_23, .ref q_24, .ref q_25, .int x_28, .int x_29, .int x_30]))] (fun r u => u.1 = 0 ∧ r = (-1)) (fun u => [(q_0, .inr (12, [.int x_0, .int (-1), .ref q_1, .ref q_2, .ref q_3, .int x_2, .ref q_4, .ref q_5, .ref q_6, .ref q_7, .ref q_8, .int x_3, .int x_4, .int x_5, .int x_6, .long g_7, .int x_8, .int x_9, .int x_10, .ref q_9, .int x_11, .ref q_10, .ref q_11, .int x_12, .ref q_12, .ref q_13, .int x_13, .int x_14, .ref q_14, .ref q_15, .ref q_16, .ref q_17, .int x_15, .long g_16, .long g_17, .int x_18, .int x_19, .int x_20, .int x_21, .ref q_18, .ref q_19, .int x_22, .int x_23, .int x_24, .int x_25, .ref q_20, .ref q_21, .int x_26, .int x_27, .ref q_22, .ref q_23, .ref q_24, .ref q_25, .int x_28, .int x_29, .int x_30]))]) := by
  refine zMi_of (own := RX12) (by decide +kernel) rfl (Nat.le_of_ble_eq_true rfl) ?_
  intro p e s m args below meth c A ls C0 hr hlk hin hP hD hS hA hK hN hl
  have hx := C0.1
  have hb := C0.2.1
  have hml := C0.2.2.1
  have hown := C0.2.2.2.1
  have hts := C0.2.2.2.2
  have hl : lv_has ls 2 [(0, .ref q_0), (1, .int (-1))] := hl
  have hP : va_P D vwCl [(q_0, .inr (12, [.int x_0, .int x_1, .ref q_1, .ref q_2, .ref q_3, .int x_2, .ref q_4, .ref q_5, .ref q_6, .ref q_7, .ref q_8, .int x_3, .int x_4, .int x_5, .int x_6, .long g_7, .int x_8, .int x_9, .int x_10, .ref q_9, .int x_11, .ref q_10, .ref q_11, .int x_12, .ref q_12, .ref q_13, .int x_13, .int x_14, .ref q_14, .ref q_15, .ref q_16, .ref q_17, .int x_15, .long g_16, .long g_17, .int x_18, .int x_19, .int x_20, .int x_21, .ref q_18, .ref q_19, .int x_22, .int x_23, .int x_24, .int x_25, .ref q_20, .ref q_21, .int x_26, .int x_27, .ref q_22, .ref q_23, .ref q_24, .ref q_25, .int x_28, .int x_29, .int x_30]))] s.heap := hP
  refine lv_aload_n hx hb dX12_told_0 rfl (lv_at hl 0 rfl) ?_
  refine lv_iload_n hx hb dX12_told_1 rfl (lv_at hl 1 rfl) ?_
  refine lv_if_ge (tgt := 9) hx hb dX12_told_2 (by decide) (fun c1 => absurd c1 (by decide)) (fun _ => ?_)
  refine lv_iload_n hx hb dX12_told_5 rfl (lv_at hl 1 rfl) ?_
  refine lv_goto (tgt := 10) hx hb dX12_told_6 (by decide) ?_
  refine va_put (D := D) (ci := 12) (v := .int (-1)) (ty := .int) (C := RX12) (T := TX12) (N := 56) hx hb hts inX12 tyX12 tyX12_ok nmX12 hown hK hP hD hS 0 rfl rfl 1 (by decide) (hts _ kF_X12_95) (fun _ h9 => h9) rfl (by decide +kernel) rfl rfl (Nat.le_of_ble_eq_true rfl) dX12_told_10 (fun H locs hP hD hS => ?_)
  have hP : va_P D vwCl [(q_0, .inr (12, [.int x_0, .int (-1), .ref q_1, .ref q_2, .ref q_3, .int x_2, .ref q_4, .ref q_5, .ref q_6, .ref q_7, .ref q_8, .int x_3, .int x_4, .int x_5, .int x_6, .long g_7, .int x_8, .int x_9, .int x_10, .ref q_9, .int x_11, .ref q_10, .ref q_11, .int x_12, .ref q_12, .ref q_13, .int x_13, .int x_14, .ref q_14, .ref q_15, .ref q_16, .ref q_17, .int x_15, .long g_16, .long g_17, .int x_18, .int x_19, .int x_20, .int x_21, .ref q_18, .ref q_19, .int x_22, .int x_23, .int x_24, .int x_25, .ref q_20, .ref q_21, .int x_26, .int x_27, .ref q_22, .ref q_23, .ref q_24, .ref q_25, .int x_28, .int x_29, .int x_30]))] H := hP
  have hD : va_D A [(q_0, .inr (12, [.int x_0, .int (-1), .ref q_1, .ref q_2, .ref q_3, .int x_2, .ref q_4, .ref q_5, .ref q_6, .ref q_7, .ref q_8, .int x_3, .int x_4, .int x_5, .int x_6, .long g_7, .int x_8, .int x_9, .int x_10, .ref q_9, .int x_11, .ref q_10, .ref q_11, .int x_12, .ref q_12, .ref q_13, .int x_13, .int x_14, .ref q_14, .ref q_15, .ref q_16, .ref q_17, .int x_15, .long g_16, .long g_17, .int x_18, .int x_19, .int x_20, .int x_21, .ref q_18, .ref q_19, .int x_22, .int x_23, .int x_24, .int x_25, .ref q_20, .ref q_21, .int x_26, .int x_27, .ref q_22, .ref q_23, .ref q_24, .ref q_25, .int x_28, .int x_29, .int x_30]))] := hD
  refine lv_iload_n hx hb dX12_told_13 rfl (lv_at hl 1 rfl) ?_
  exact z_iret C0 hr hlk rfl hK hP hD hS (0, fun _ => 0) ⟨rfl, rfl⟩ [0] rfl rfl rfl dX12_told_14

set_option maxHeartbeats 4000000 in
set_option maxRecDepth 100000 in
theorem c_X12_childAt_1 (l : Launch) (D : va_G) (k : Nat → ClassId) : zMi l yX12_childAt cX12_childAt 1 (some .int) ({ frames := 0, cells := 0, slots := 0, locals := 0 }) D k [.int 0] [] (fun r u => u.1 = 0 ∧ r = 20) (fun u => []) := by
  refine zMi_of (own := RX12) (by decide +kernel) rfl (Nat.le_of_ble_eq_true rfl) ?_
  intro p e s m args below meth c A ls C0 hr hlk hin hP hD hS hA hK hN hl
  have hx := C0.1
  have hb := C0.2.1
  have hml := C0.2.2.1
  have hown := C0.2.2.2.1
  have hts := C0.2.2.2.2
  have hl : lv_has ls 1 [(0, .int 0)] := hl
  have hP : va_P D vwCl [] s.heap := hP
  refine lv_bipush (v := 20) hx hb dX12_childAt_0 (by decide) ?_
  refine lv_bipush (v := 17) hx hb dX12_childAt_2 (by decide) ?_
  refine lv_iload_n hx hb dX12_childAt_4 rfl (lv_at hl 0 rfl) ?_
  refine lv_imul hx hb dX12_childAt_5 ?_
  refine lv_toc (v := 0) (by decide) ?_
  refine lv_iadd hx hb dX12_childAt_6 ?_
  refine lv_toc (v := 20) (by decide) ?_
  exact z_iret C0 hr hlk rfl hK hP hD hS (0, fun _ => 0) ⟨rfl, rfl⟩ [] rfl rfl rfl dX12_childAt_7

set_option maxHeartbeats 4000000 in
set_option maxRecDepth 100000 in
theorem c_X12_addFour_1 (l : Launch) (D : va_G) (k : Nat → ClassId) (q_0 : Nat) (q_1 : Nat) (q_2 : Nat) (q_3 : Nat) (q_4 : Nat) (q_5 : Nat) (q_6 : Nat) (q_7 : Nat) (q_8 : Nat) (q_9 : Nat) (q_10 : Nat) (q_11 : Nat) (q_12 : Nat) (q_13 : Nat) (q_14 : Nat) (q_15 : Nat) (q_16 : Nat) (q_17 : Nat) (q_18 : Nat) (q_19 : Nat) (q_20 : Nat) (q_21 : Nat) (q_22 : Nat) (q_23 : Nat) (q_24 : Nat) (q_25 : Nat) (x_0 : Int32) (x_1 : Int32) (x_2 : Int32) (x_3 : Int32) (x_4 : Int32) (x_5 : Int32) (x_6 : Int32) (x_7 : Int32) (x_8 : Int32) (x_9 : Int32) (g_10 : Int64) (x_11 : Int32) (x_12 : Int32) (x_13 : Int32) (x_14 : Int32) (x_15 : Int32) (x_16 : Int32) (x_17 : Int32) (x_18 : Int32) (g_19 : Int64) (g_20 : Int64) (x_21 : Int32) (x_22 : Int32) (x_23 : Int32) (x_24 : Int32) (x_25 : Int32) (x_26 : Int32) (x_27 : Int32) (x_28 : Int32) (x_29 : Int32) (x_30 : Int32) (x_31 : Int32) (x_32 : Int32) (x_33 : Int32) (f_0 : Nat → Int32) : zMv l yX12_addFour cX12_addFour 6 none ({ frames := 0, cells := 0, slots := 0, locals := 0 }) D k [.ref q_0, .int 20, .int x_0, .int 0, .int x_1, .int x_2] [(q_0, .inr (12, [.int x_3, .int x_4, .ref q_1, .ref q_2, .ref q_3, .int x_5, .ref q_4, .ref q_5, .ref q_6, .ref q_7, .ref q_8, .int x_6, .int x_7, .int x_8, .int x_9, .long g_10, .int x_11, .int x_12, .int x_13, .ref q_9, .int x_14, .ref q_10, .ref q_11, .int x_15, .ref q_12, .ref q_13, .int x_16, .int x_17, .ref q_14, .ref q_15, .ref q_16, .ref q_17, .int x_18, .long g_19, .long g_20, .int x_21, .int x_22, .int x_23, .int x_24, .ref q_18, .ref q_19, .int x_25, .int x_26, .int x_27, .int x_28, .ref q_20, .ref q_21, .int x_29, .int x_30, .ref q_22, .ref q_23, .ref q_24, .ref q_25, .int x_31, .int x_32, .int x_33])), (q_1, .inl (k 0, 27101, .inl f_0))] (fun u => u.1 = 0) (fun u => [(q_0, .inr (12, [.int x_3, .int x_4, .ref q_1, .ref q_2, .ref q_3, .int x_5, .ref q_4, .ref q_5, .ref q_6, .ref q_7, .ref q_8, .int x_6, .int x_7, .int x_8, .int x_9, .long g_10, .int x_11, .int x_12, .int x_13, .ref q_9, .int x_14, .ref q_10, .ref q_11, .int x_15, .ref q_12, .ref q_13, .int x_16, .int x_17, .ref q_14, .ref q_15, .ref q_16, .ref q_17, .int x_18, .long g_19, .long g_20, .int x_21, .int x_22, .int x_23, .int x_24, .ref q_18, .ref q_19, .int x_25, .int x_26, .int x_27, .int x_28, .ref q_20, .ref q_21, .int x_29, .int x_30, .ref q_22, .ref q_23, .ref q_24, .ref q_25, .int x_31, .int x_32, .int x_33])), (q_1, .inl (k 0, 27101, .inl (upd (upd (upd (upd f_0 20 x_0) 21 0) 22 x_1) 23 x_2)))]) := by
  refine zMv_of (own := RX12) (by decide +kernel) rfl (Nat.le_of_ble_eq_true rfl) ?_
  intro p e s m args below meth c A ls C0 hr hlk hin hP hD hS hA hK hN hl
  have hx := C0.1
  have hb := C0.2.1
  have hml := C0.2.2.1
  have hown := C0.2.2.2.1
  have hts := C0.2.2.2.2
  have hl : lv_has ls 6 [(0, .ref q_0), (1, .int 20), (2, .int x_0), (3, .int 0), (4, .int x_1), (5, .int x_2)] := hl
  have hP : va_P D vwCl [(q_0, .inr (12, [.int x_3, .int x_4, .ref q_1, .ref q_2, .ref q_3, .int x_5, .ref q_4, .ref q_5, .ref q_6, .ref q_7, .ref q_8, .int x_6, .int x_7, .int x_8, .int x_9, .long g_10, .int x_11, .int x_12, .int x_13, .ref q_9, .int x_14, .ref q_10, .ref q_11, .int x_15, .ref q_12, .ref q_13, .int x_16, .int x_17, .ref q_14, .ref q_15, .ref q_16, .ref q_17, .int x_18, .long g_19, .long g_20, .int x_21, .int x_22, .int x_23, .int x_24, .ref q_18, .ref q_19, .int x_25, .int x_26, .int x_27, .int x_28, .ref q_20, .ref q_21, .int x_29, .int x_30, .ref q_22, .ref q_23, .ref q_24, .ref q_25, .int x_31, .int x_32, .int x_33])), (q_1, .inl (k 0, 27101, .inl f_0))] s.heap := hP
  refine lv_aload_n hx hb dX12_addFour_0 rfl (lv_at hl 0 rfl) ?_
  refine va_get (D := D) (ci := 12) (v := .ref q_1) (C := RX12) (T := TX12) (N := 56) hx hb hts inX12 hown hK hP 0 rfl rfl 2 (by decide) (hts _ kF_X12_7) (fun _ h9 => h9) rfl dX12_addFour_1 ?_
  refine lv_iload_n hx hb dX12_addFour_4 rfl (lv_at hl 1 rfl) ?_
  refine lv_iload_n hx hb dX12_addFour_5 rfl (lv_at hl 2 rfl) ?_
  refine va_iast hx hb hK hP hD hS 1 0 rfl rfl (by unfold vp_in; decide) dX12_addFour_6 (fun H locs hP hD hS => ?_)
  have hP : va_P D vwCl [(q_0, .inr (12, [.int x_3, .int x_4, .ref q_1, .ref q_2, .ref q_3, .int x_5, .ref q_4, .ref q_5, .ref q_6, .ref q_7, .ref q_8, .int x_6, .int x_7, .int x_8, .int x_9, .long g_10, .int x_11, .int x_12, .int x_13, .ref q_9, .int x_14, .ref q_10, .ref q_11, .int x_15, .ref q_12, .ref q_13, .int x_16, .int x_17, .ref q_14, .ref q_15, .ref q_16, .ref q_17, .int x_18, .long g_19, .long g_20, .int x_21, .int x_22, .int x_23, .int x_24, .ref q_18, .ref q_19, .int x_25, .int x_26, .int x_27, .int x_28, .ref q_20, .ref q_21, .int x_29, .int x_30, .ref q_22, .ref q_23, .ref q_24, .ref q_25, .int x_31, .int x_32, .int x_33])), (q_1, .inl (k 0, 27101, .inl (upd f_0 20 x_0)))] H := hP
  have hD : va_D A [(q_0, .inr (12, [.int x_3, .int x_4, .ref q_1, .ref q_2, .ref q_3, .int x_5, .ref q_4, .ref q_5, .ref q_6, .ref q_7, .ref q_8, .int x_6, .int x_7, .int x_8, .int x_9, .long g_10, .int x_11, .int x_12, .int x_13, .ref q_9, .int x_14, .ref q_10, .ref q_11, .int x_15, .ref q_12, .ref q_13, .int x_16, .int x_17, .ref q_14, .ref q_15, .ref q_16, .ref q_17, .int x_18, .long g_19, .long g_20, .int x_21, .int x_22, .int x_23, .int x_24, .ref q_18, .ref q_19, .int x_25, .int x_26, .int x_27, .int x_28, .ref q_20, .ref q_21, .int x_29, .int x_30, .ref q_22, .ref q_23, .ref q_24, .ref q_25, .int x_31, .int x_32, .int x_33])), (q_1, .inl (k 0, 27101, .inl (upd f_0 20 x_0)))] := hD
  refine lv_aload_n hx hb dX12_addFour_7 rfl (lv_at hl 0 rfl) ?_
  refine va_get (D := D) (ci := 12) (v := .ref q_1) (C := RX12) (T := TX12) (N := 56) hx hb hts inX12 hown hK hP 0 rfl rfl 2 (by decide) (hts _ kF_X12_7) (fun _ h9 => h9) rfl dX12_addFour_8 ?_
  refine lv_iload_n hx hb dX12_addFour_11 rfl (lv_at hl 1 rfl) ?_
  refine lv_iconst (v := 1) hx hb dX12_addFour_12 (by decide) ?_
  refine lv_iadd hx hb dX12_addFour_13 ?_
  refine lv_toc (v := 21) (by decide) ?_
  refine lv_iload_n hx hb dX12_addFour_14 rfl (lv_at hl 3 rfl) ?_
  refine va_iast hx hb hK hP hD hS 1 0 rfl rfl (by unfold vp_in; decide) dX12_addFour_15 (fun H locs hP hD hS => ?_)
  have hP : va_P D vwCl [(q_0, .inr (12, [.int x_3, .int x_4, .ref q_1, .ref q_2, .ref q_3, .int x_5, .ref q_4, .ref q_5, .ref q_6, .ref q_7, .ref q_8, .int x_6, .int x_7, .int x_8, .int x_9, .long g_10, .int x_11, .int x_12, .int x_13, .ref q_9, .int x_14, .ref q_10, .ref q_11, .int x_15, .ref q_12, .ref q_13, .int x_16, .int x_17, .ref q_14, .ref q_15, .ref q_16, .ref q_17, .int x_18, .long g_19, .long g_20, .int x_21, .int x_22, .int x_23, .int x_24, .ref q_18, .ref q_19, .int x_25, .int x_26, .int x_27, .int x_28, .ref q_20, .ref q_21, .int x_29, .int x_30, .ref q_22, .ref q_23, .ref q_24, .ref q_25, .int x_31, .int x_32, .int x_33])), (q_1, .inl (k 0, 27101, .inl (upd (upd f_0 20 x_0) 21 0)))] H := hP
  have hD : va_D A [(q_0, .inr (12, [.int x_3, .int x_4, .ref q_1, .ref q_2, .ref q_3, .int x_5, .ref q_4, .ref q_5, .ref q_6, .ref q_7, .ref q_8, .int x_6, .int x_7, .int x_8, .int x_9, .long g_10, .int x_11, .int x_12, .int x_13, .ref q_9, .int x_14, .ref q_10, .ref q_11, .int x_15, .ref q_12, .ref q_13, .int x_16, .int x_17, .ref q_14, .ref q_15, .ref q_16, .ref q_17, .int x_18, .long g_19, .long g_20, .int x_21, .int x_22, .int x_23, .int x_24, .ref q_18, .ref q_19, .int x_25, .int x_26, .int x_27, .int x_28, .ref q_20, .ref q_21, .int x_29, .int x_30, .ref q_22, .ref q_23, .ref q_24, .ref q_25, .int x_31, .int x_32, .int x_33])), (q_1, .inl (k 0, 27101, .inl (upd (upd f_0 20 x_0) 21 0)))] := hD
  refine lv_aload_n hx hb dX12_addFour_16 rfl (lv_at hl 0 rfl) ?_
  refine va_get (D := D) (ci := 12) (v := .ref q_1) (C := RX12) (T := TX12) (N := 56) hx hb hts inX12 hown hK hP 0 rfl rfl 2 (by decide) (hts _ kF_X12_7) (fun _ h9 => h9) rfl dX12_addFour_17 ?_
  refine lv_iload_n hx hb dX12_addFour_20 rfl (lv_at hl 1 rfl) ?_
  refine lv_iconst (v := 2) hx hb dX12_addFour_21 (by decide) ?_
  refine lv_iadd hx hb dX12_addFour_22 ?_
  refine lv_toc (v := 22) (by decide) ?_
  refine lv_iload hx hb dX12_addFour_23 (lv_at hl 4 rfl) ?_
  refine va_iast hx hb hK hP hD hS 1 0 rfl rfl (by unfold vp_in; decide) dX12_addFour_25 (fun H locs hP hD hS => ?_)
  have hP : va_P D vwCl [(q_0, .inr (12, [.int x_3, .int x_4, .ref q_1, .ref q_2, .ref q_3, .int x_5, .ref q_4, .ref q_5, .ref q_6, .ref q_7, .ref q_8, .int x_6, .int x_7, .int x_8, .int x_9, .long g_10, .int x_11, .int x_12, .int x_13, .ref q_9, .int x_14, .ref q_10, .ref q_11, .int x_15, .ref q_12, .ref q_13, .int x_16, .int x_17, .ref q_14, .ref q_15, .ref q_16, .ref q_17, .int x_18, .long g_19, .long g_20, .int x_21, .int x_22, .int x_23, .int x_24, .ref q_18, .ref q_19, .int x_25, .int x_26, .int x_27, .int x_28, .ref q_20, .ref q_21, .int x_29, .int x_30, .ref q_22, .ref q_23, .ref q_24, .ref q_25, .int x_31, .int x_32, .int x_33])), (q_1, .inl (k 0, 27101, .inl (upd (upd (upd f_0 20 x_0) 21 0) 22 x_1)))] H := hP
  have hD : va_D A [(q_0, .inr (12, [.int x_3, .int x_4, .ref q_1, .ref q_2, .ref q_3, .int x_5, .ref q_4, .ref q_5, .ref q_6, .ref q_7, .ref q_8, .int x_6, .int x_7, .int x_8, .int x_9, .long g_10, .int x_11, .int x_12, .int x_13, .ref q_9, .int x_14, .ref q_10, .ref q_11, .int x_15, .ref q_12, .ref q_13, .int x_16, .int x_17, .ref q_14, .ref q_15, .ref q_16, .ref q_17, .int x_18, .long g_19, .long g_20, .int x_21, .int x_22, .int x_23, .int x_24, .ref q_18, .ref q_19, .int x_25, .int x_26, .int x_27, .int x_28, .ref q_20, .ref q_21, .int x_29, .int x_30, .ref q_22, .ref q_23, .ref q_24, .ref q_25, .int x_31, .int x_32, .int x_33])), (q_1, .inl (k 0, 27101, .inl (upd (upd (upd f_0 20 x_0) 21 0) 22 x_1)))] := hD
  refine lv_aload_n hx hb dX12_addFour_26 rfl (lv_at hl 0 rfl) ?_
  refine va_get (D := D) (ci := 12) (v := .ref q_1) (C := RX12) (T := TX12) (N := 56) hx hb hts inX12 hown hK hP 0 rfl rfl 2 (by decide) (hts _ kF_X12_7) (fun _ h9 => h9) rfl dX12_addFour_27 ?_
  refine lv_iload_n hx hb dX12_addFour_30 rfl (lv_at hl 1 rfl) ?_
  refine lv_iconst (v := 3) hx hb dX12_addFour_31 (by decide) ?_
  refine lv_iadd hx hb dX12_addFour_32 ?_
  refine lv_toc (v := 23) (by decide) ?_
  refine lv_iload hx hb dX12_addFour_33 (lv_at hl 5 rfl) ?_
  refine va_iast hx hb hK hP hD hS 1 0 rfl rfl (by unfold vp_in; decide) dX12_addFour_35 (fun H locs hP hD hS => ?_)
  have hP : va_P D vwCl [(q_0, .inr (12, [.int x_3, .int x_4, .ref q_1, .ref q_2, .ref q_3, .int x_5, .ref q_4, .ref q_5, .ref q_6, .ref q_7, .ref q_8, .int x_6, .int x_7, .int x_8, .int x_9, .long g_10, .int x_11, .int x_12, .int x_13, .ref q_9, .int x_14, .ref q_10, .ref q_11, .int x_15, .ref q_12, .ref q_13, .int x_16, .int x_17, .ref q_14, .ref q_15, .ref q_16, .ref q_17, .int x_18, .long g_19, .long g_20, .int x_21, .int x_22, .int x_23, .int x_24, .ref q_18, .ref q_19, .int x_25, .int x_26, .int x_27, .int x_28, .ref q_20, .ref q_21, .int x_29, .int x_30, .ref q_22, .ref q_23, .ref q_24, .ref q_25, .int x_31, .int x_32, .int x_33])), (q_1, .inl (k 0, 27101, .inl (upd (upd (upd (upd f_0 20 x_0) 21 0) 22 x_1) 23 x_2)))] H := hP
  have hD : va_D A [(q_0, .inr (12, [.int x_3, .int x_4, .ref q_1, .ref q_2, .ref q_3, .int x_5, .ref q_4, .ref q_5, .ref q_6, .ref q_7, .ref q_8, .int x_6, .int x_7, .int x_8, .int x_9, .long g_10, .int x_11, .int x_12, .int x_13, .ref q_9, .int x_14, .ref q_10, .ref q_11, .int x_15, .ref q_12, .ref q_13, .int x_16, .int x_17, .ref q_14, .ref q_15, .ref q_16, .ref q_17, .int x_18, .long g_19, .long g_20, .int x_21, .int x_22, .int x_23, .int x_24, .ref q_18, .ref q_19, .int x_25, .int x_26, .int x_27, .int x_28, .ref q_20, .ref q_21, .int x_29, .int x_30, .ref q_22, .ref q_23, .ref q_24, .ref q_25, .int x_31, .int x_32, .int x_33])), (q_1, .inl (k 0, 27101, .inl (upd (upd (upd (upd f_0 20 x_0) 21 0) 22 x_1) 23 x_2)))] := hD
  exact z_vret C0 hr hlk hK hP hD hS (0, fun _ => 0) rfl [0, 1] rfl rfl rfl dX12_addFour_36

set_option maxHeartbeats 4000000 in
set_option maxRecDepth 100000 in
theorem c_X12_told_2 (l : Launch) (D : va_G) (k : Nat → ClassId) (q_0 : Nat) (q_1 : Nat) (q_2 : Nat) (q_3 : Nat) (q_4 : Nat) (q_5 : Nat) (q_6 : Nat) (q_7 : Nat) (q_8 : Nat) (q_9 : Nat) (q_10 : Nat) (q_11 : Nat) (q_12 : Nat) (q_13 : Nat) (q_14 : Nat) (q_15 : Nat) (q_16 : Nat) (q_17 : Nat) (q_18 : Nat) (q_19 : Nat) (q_20 : Nat) (q_21 : Nat) (q_22 : Nat) (q_23 : Nat) (q_24 : Nat) (q_25 : Nat) (x_0 : Int32) (x_1 : Int32) (x_2 : Int32) (x_3 : Int32) (x_4 : Int32) (x_5 : Int32) (x_6 : Int32) (g_7 : Int64) (x_8 : Int32) (x_9 : Int32) (x_10 : Int32) (x_11 : Int32) (x_12 : Int32) (x_13 : Int32) (x_14 : Int32) (x_15 : Int32) (g_16 : Int64) (g_17 : Int64) (x_18 : Int32) (x_19 : Int32) (x_20 : Int32) (x_21 : Int32) (x_22 : Int32) (x_23 : Int32) (x_24 : Int32) (x_25 : Int32) (x_26 : Int32) (x_27 : Int32) (x_28 : Int32) (x_29 : Int32) (x_30 : Int32) : zMi l yX12_told cX12_told 2 (some .int) ({ frames := 0, cells := 0, slots := 0, locals := 0 }) D k [.ref q_0, .int 0] [(q_0, .inr (12, [.int x_0, .int x_1, .ref q_1, .ref q_2, .ref q_3, .int x_2, .ref q_4, .ref q_5, .ref q_6, .ref q_7, .ref q_8, .int x_3, .int x_4, .int x_5, .int x_6, .long g_7, .int x_8, .int x_9, .int x_10, .ref q_9, .int x_11, .ref q_10, .ref q_11, .int x_12, .ref q_12, .ref q_13, .int x_13, .int x_14, .ref q_14, .ref q_15, .ref q_16, .ref q_17, .int x_15, .long g_16, .long g_17, .int x_18, .int x_19, .int x_20, .int x_21, .ref q_18, .ref q_19, .int x_22, .int x_23, .int x_24, .int x_25, .ref q_20, .ref q_21, .int x_26, .int x_27, .ref q_22, .ref q_23, .ref q_24, .ref q_25, .int x_28, .int x_29, .int x_30]))] (fun r u => u.1 = 0 ∧ r = 0) (fun u => [(q_0, .inr (12, [.int x_0, .int 0, .ref q_1, .ref q_2, .ref q_3, .int x_2, .ref q_4, .ref q_5, .ref q_6, .ref q_7, .ref q_8, .int x_3, .int x_4, .int x_5, .int x_6, .long g_7, .int x_8, .int x_9, .int x_10, .ref q_9, .int x_11, .ref q_10, .ref q_11, .int x_12, .ref q_12, .ref q_13, .int x_13, .int x_14, .ref q_14, .ref q_15, .ref q_16, .ref q_17, .int x_15, .long g_16, .long g_17, .int x_18, .int x_19, .int x_20, .int x_21, .ref q_18, .ref q_19, .int x_22, .int x_23, .int x_24, .int x_25, .ref q_20, .ref q_21, .int x_26, .int x_27, .ref q_22, .ref q_23, .ref q_24, .ref q_25, .int x_28, .int x_29, .int x_30]))]) := by
  refine zMi_of (own := RX12) (by decide +kernel) rfl (Nat.le_of_ble_eq_true rfl) ?_
  intro p e s m args below meth c A ls C0 hr hlk hin hP hD hS hA hK hN hl
  have hx := C0.1
  have hb := C0.2.1
  have hml := C0.2.2.1
  have hown := C0.2.2.2.1
  have hts := C0.2.2.2.2
  have hl : lv_has ls 2 [(0, .ref q_0), (1, .int 0)] := hl
  have hP : va_P D vwCl [(q_0, .inr (12, [.int x_0, .int x_1, .ref q_1, .ref q_2, .ref q_3, .int x_2, .ref q_4, .ref q_5, .ref q_6, .ref q_7, .ref q_8, .int x_3, .int x_4, .int x_5, .int x_6, .long g_7, .int x_8, .int x_9, .int x_10, .ref q_9, .int x_11, .ref q_10, .ref q_11, .int x_12, .ref q_12, .ref q_13, .int x_13, .int x_14, .ref q_14, .ref q_15, .ref q_16, .ref q_17, .int x_15, .long g_16, .long g_17, .int x_18, .int x_19, .int x_20, .int x_21, .ref q_18, .ref q_19, .int x_22, .int x_23, .int x_24, .int x_25, .ref q_20, .ref q_21, .int x_26, .int x_27, .ref q_22, .ref q_23, .ref q_24, .ref q_25, .int x_28, .int x_29, .int x_30]))] s.heap := hP
  refine lv_aload_n hx hb dX12_told_0 rfl (lv_at hl 0 rfl) ?_
  refine lv_iload_n hx hb dX12_told_1 rfl (lv_at hl 1 rfl) ?_
  refine lv_if_ge (tgt := 9) hx hb dX12_told_2 (by decide) (fun _ => ?_) (fun c1 => absurd (by decide) c1)
  refine lv_iconst (v := 0) hx hb dX12_told_9 (by decide) ?_
  refine va_put (D := D) (ci := 12) (v := .int 0) (ty := .int) (C := RX12) (T := TX12) (N := 56) hx hb hts inX12 tyX12 tyX12_ok nmX12 hown hK hP hD hS 0 rfl rfl 1 (by decide) (hts _ kF_X12_95) (fun _ h9 => h9) rfl (by decide +kernel) rfl rfl (Nat.le_of_ble_eq_true rfl) dX12_told_10 (fun H locs hP hD hS => ?_)
  have hP : va_P D vwCl [(q_0, .inr (12, [.int x_0, .int 0, .ref q_1, .ref q_2, .ref q_3, .int x_2, .ref q_4, .ref q_5, .ref q_6, .ref q_7, .ref q_8, .int x_3, .int x_4, .int x_5, .int x_6, .long g_7, .int x_8, .int x_9, .int x_10, .ref q_9, .int x_11, .ref q_10, .ref q_11, .int x_12, .ref q_12, .ref q_13, .int x_13, .int x_14, .ref q_14, .ref q_15, .ref q_16, .ref q_17, .int x_15, .long g_16, .long g_17, .int x_18, .int x_19, .int x_20, .int x_21, .ref q_18, .ref q_19, .int x_22, .int x_23, .int x_24, .int x_25, .ref q_20, .ref q_21, .int x_26, .int x_27, .ref q_22, .ref q_23, .ref q_24, .ref q_25, .int x_28, .int x_29, .int x_30]))] H := hP
  have hD : va_D A [(q_0, .inr (12, [.int x_0, .int 0, .ref q_1, .ref q_2, .ref q_3, .int x_2, .ref q_4, .ref q_5, .ref q_6, .ref q_7, .ref q_8, .int x_3, .int x_4, .int x_5, .int x_6, .long g_7, .int x_8, .int x_9, .int x_10, .ref q_9, .int x_11, .ref q_10, .ref q_11, .int x_12, .ref q_12, .ref q_13, .int x_13, .int x_14, .ref q_14, .ref q_15, .ref q_16, .ref q_17, .int x_15, .long g_16, .long g_17, .int x_18, .int x_19, .int x_20, .int x_21, .ref q_18, .ref q_19, .int x_22, .int x_23, .int x_24, .int x_25, .ref q_20, .ref q_21, .int x_26, .int x_27, .ref q_22, .ref q_23, .ref q_24, .ref q_25, .int x_28, .int x_29, .int x_30]))] := hD
  refine lv_iload_n hx hb dX12_told_13 rfl (lv_at hl 1 rfl) ?_
  exact z_iret C0 hr hlk rfl hK hP hD hS (0, fun _ => 0) ⟨rfl, rfl⟩ [0] rfl rfl rfl dX12_told_14

set_option maxHeartbeats 4000000 in
set_option maxRecDepth 100000 in
theorem c_X12_addFour_2 (l : Launch) (D : va_G) (k : Nat → ClassId) (q_0 : Nat) (q_1 : Nat) (q_2 : Nat) (q_3 : Nat) (q_4 : Nat) (q_5 : Nat) (q_6 : Nat) (q_7 : Nat) (q_8 : Nat) (q_9 : Nat) (q_10 : Nat) (q_11 : Nat) (q_12 : Nat) (q_13 : Nat) (q_14 : Nat) (q_15 : Nat) (q_16 : Nat) (q_17 : Nat) (q_18 : Nat) (q_19 : Nat) (q_20 : Nat) (q_21 : Nat) (q_22 : Nat) (q_23 : Nat) (q_24 : Nat) (q_25 : Nat) (x_0 : Int32) (x_1 : Int32) (x_2 : Int32) (x_3 : Int32) (x_4 : Int32) (x_5 : Int32) (x_6 : Int32) (x_7 : Int32) (x_8 : Int32) (x_9 : Int32) (g_10 : Int64) (x_11 : Int32) (x_12 : Int32) (x_13 : Int32) (x_14 : Int32) (x_15 : Int32) (x_16 : Int32) (x_17 : Int32) (x_18 : Int32) (g_19 : Int64) (g_20 : Int64) (x_21 : Int32) (x_22 : Int32) (x_23 : Int32) (x_24 : Int32) (x_25 : Int32) (x_26 : Int32) (x_27 : Int32) (x_28 : Int32) (x_29 : Int32) (x_30 : Int32) (x_31 : Int32) (x_32 : Int32) (x_33 : Int32) (f_0 : Nat → Int32) : zMv l yX12_addFour cX12_addFour 6 none ({ frames := 0, cells := 0, slots := 0, locals := 0 }) D k [.ref q_0, .int 20, .int x_0, .int 1, .int x_1, .int x_2] [(q_0, .inr (12, [.int x_3, .int x_4, .ref q_1, .ref q_2, .ref q_3, .int x_5, .ref q_4, .ref q_5, .ref q_6, .ref q_7, .ref q_8, .int x_6, .int x_7, .int x_8, .int x_9, .long g_10, .int x_11, .int x_12, .int x_13, .ref q_9, .int x_14, .ref q_10, .ref q_11, .int x_15, .ref q_12, .ref q_13, .int x_16, .int x_17, .ref q_14, .ref q_15, .ref q_16, .ref q_17, .int x_18, .long g_19, .long g_20, .int x_21, .int x_22, .int x_23, .int x_24, .ref q_18, .ref q_19, .int x_25, .int x_26, .int x_27, .int x_28, .ref q_20, .ref q_21, .int x_29, .int x_30, .ref q_22, .ref q_23, .ref q_24, .ref q_25, .int x_31, .int x_32, .int x_33])), (q_1, .inl (k 0, 27101, .inl f_0))] (fun u => u.1 = 0) (fun u => [(q_0, .inr (12, [.int x_3, .int x_4, .ref q_1, .ref q_2, .ref q_3, .int x_5, .ref q_4, .ref q_5, .ref q_6, .ref q_7, .ref q_8, .int x_6, .int x_7, .int x_8, .int x_9, .long g_10, .int x_11, .int x_12, .int x_13, .ref q_9, .int x_14, .ref q_10, .ref q_11, .int x_15, .ref q_12, .ref q_13, .int x_16, .int x_17, .ref q_14, .ref q_15, .ref q_16, .ref q_17, .int x_18, .long g_19, .long g_20, .int x_21, .int x_22, .int x_23, .int x_24, .ref q_18, .ref q_19, .int x_25, .int x_26, .int x_27, .int x_28, .ref q_20, .ref q_21, .int x_29, .int x_30, .ref q_22, .ref q_23, .ref q_24, .ref q_25, .int x_31, .int x_32, .int x_33])), (q_1, .inl (k 0, 27101, .inl (upd (upd (upd (upd f_0 20 x_0) 21 1) 22 x_1) 23 x_2)))]) := by
  refine zMv_of (own := RX12) (by decide +kernel) rfl (Nat.le_of_ble_eq_true rfl) ?_
  intro p e s m args below meth c A ls C0 hr hlk hin hP hD hS hA hK hN hl
  have hx := C0.1
  have hb := C0.2.1
  have hml := C0.2.2.1
  have hown := C0.2.2.2.1
  have hts := C0.2.2.2.2
  have hl : lv_has ls 6 [(0, .ref q_0), (1, .int 20), (2, .int x_0), (3, .int 1), (4, .int x_1), (5, .int x_2)] := hl
  have hP : va_P D vwCl [(q_0, .inr (12, [.int x_3, .int x_4, .ref q_1, .ref q_2, .ref q_3, .int x_5, .ref q_4, .ref q_5, .ref q_6, .ref q_7, .ref q_8, .int x_6, .int x_7, .int x_8, .int x_9, .long g_10, .int x_11, .int x_12, .int x_13, .ref q_9, .int x_14, .ref q_10, .ref q_11, .int x_15, .ref q_12, .ref q_13, .int x_16, .int x_17, .ref q_14, .ref q_15, .ref q_16, .ref q_17, .int x_18, .long g_19, .long g_20, .int x_21, .int x_22, .int x_23, .int x_24, .ref q_18, .ref q_19, .int x_25, .int x_26, .int x_27, .int x_28, .ref q_20, .ref q_21, .int x_29, .int x_30, .ref q_22, .ref q_23, .ref q_24, .ref q_25, .int x_31, .int x_32, .int x_33])), (q_1, .inl (k 0, 27101, .inl f_0))] s.heap := hP
  refine lv_aload_n hx hb dX12_addFour_0 rfl (lv_at hl 0 rfl) ?_
  refine va_get (D := D) (ci := 12) (v := .ref q_1) (C := RX12) (T := TX12) (N := 56) hx hb hts inX12 hown hK hP 0 rfl rfl 2 (by decide) (hts _ kF_X12_7) (fun _ h9 => h9) rfl dX12_addFour_1 ?_
  refine lv_iload_n hx hb dX12_addFour_4 rfl (lv_at hl 1 rfl) ?_
  refine lv_iload_n hx hb dX12_addFour_5 rfl (lv_at hl 2 rfl) ?_
  refine va_iast hx hb hK hP hD hS 1 0 rfl rfl (by unfold vp_in; decide) dX12_addFour_6 (fun H locs hP hD hS => ?_)
  have hP : va_P D vwCl [(q_0, .inr (12, [.int x_3, .int x_4, .ref q_1, .ref q_2, .ref q_3, .int x_5, .ref q_4, .ref q_5, .ref q_6, .ref q_7, .ref q_8, .int x_6, .int x_7, .int x_8, .int x_9, .long g_10, .int x_11, .int x_12, .int x_13, .ref q_9, .int x_14, .ref q_10, .ref q_11, .int x_15, .ref q_12, .ref q_13, .int x_16, .int x_17, .ref q_14, .ref q_15, .ref q_16, .ref q_17, .int x_18, .long g_19, .long g_20, .int x_21, .int x_22, .int x_23, .int x_24, .ref q_18, .ref q_19, .int x_25, .int x_26, .int x_27, .int x_28, .ref q_20, .ref q_21, .int x_29, .int x_30, .ref q_22, .ref q_23, .ref q_24, .ref q_25, .int x_31, .int x_32, .int x_33])), (q_1, .inl (k 0, 27101, .inl (upd f_0 20 x_0)))] H := hP
  have hD : va_D A [(q_0, .inr (12, [.int x_3, .int x_4, .ref q_1, .ref q_2, .ref q_3, .int x_5, .ref q_4, .ref q_5, .ref q_6, .ref q_7, .ref q_8, .int x_6, .int x_7, .int x_8, .int x_9, .long g_10, .int x_11, .int x_12, .int x_13, .ref q_9, .int x_14, .ref q_10, .ref q_11, .int x_15, .ref q_12, .ref q_13, .int x_16, .int x_17, .ref q_14, .ref q_15, .ref q_16, .ref q_17, .int x_18, .long g_19, .long g_20, .int x_21, .int x_22, .int x_23, .int x_24, .ref q_18, .ref q_19, .int x_25, .int x_26, .int x_27, .int x_28, .ref q_20, .ref q_21, .int x_29, .int x_30, .ref q_22, .ref q_23, .ref q_24, .ref q_25, .int x_31, .int x_32, .int x_33])), (q_1, .inl (k 0, 27101, .inl (upd f_0 20 x_0)))] := hD
  refine lv_aload_n hx hb dX12_addFour_7 rfl (lv_at hl 0 rfl) ?_
  refine va_get (D := D) (ci := 12) (v := .ref q_1) (C := RX12) (T := TX12) (N := 56) hx hb hts inX12 hown hK hP 0 rfl rfl 2 (by decide) (hts _ kF_X12_7) (fun _ h9 => h9) rfl dX12_addFour_8 ?_
  refine lv_iload_n hx hb dX12_addFour_11 rfl (lv_at hl 1 rfl) ?_
  refine lv_iconst (v := 1) hx hb dX12_addFour_12 (by decide) ?_
  refine lv_iadd hx hb dX12_addFour_13 ?_
  refine lv_toc (v := 21) (by decide) ?_
  refine lv_iload_n hx hb dX12_addFour_14 rfl (lv_at hl 3 rfl) ?_
  refine va_iast hx hb hK hP hD hS 1 0 rfl rfl (by unfold vp_in; decide) dX12_addFour_15 (fun H locs hP hD hS => ?_)
  have hP : va_P D vwCl [(q_0, .inr (12, [.int x_3, .int x_4, .ref q_1, .ref q_2, .ref q_3, .int x_5, .ref q_4, .ref q_5, .ref q_6, .ref q_7, .ref q_8, .int x_6, .int x_7, .int x_8, .int x_9, .long g_10, .int x_11, .int x_12, .int x_13, .ref q_9, .int x_14, .ref q_10, .ref q_11, .int x_15, .ref q_12, .ref q_13, .int x_16, .int x_17, .ref q_14, .ref q_15, .ref q_16, .ref q_17, .int x_18, .long g_19, .long g_20, .int x_21, .int x_22, .int x_23, .int x_24, .ref q_18, .ref q_19, .int x_25, .int x_26, .int x_27, .int x_28, .ref q_20, .ref q_21, .int x_29, .int x_30, .ref q_22, .ref q_23, .ref q_24, .ref q_25, .int x_31, .int x_32, .int x_33])), (q_1, .inl (k 0, 27101, .inl (upd (upd f_0 20 x_0) 21 1)))] H := hP
  have hD : va_D A [(q_0, .inr (12, [.int x_3, .int x_4, .ref q_1, .ref q_2, .ref q_3, .int x_5, .ref q_4, .ref q_5, .ref q_6, .ref q_7, .ref q_8, .int x_6, .int x_7, .int x_8, .int x_9, .long g_10, .int x_11, .int x_12, .int x_13, .ref q_9, .int x_14, .ref q_10, .ref q_11, .int x_15, .ref q_12, .ref q_13, .int x_16, .int x_17, .ref q_14, .ref q_15, .ref q_16, .ref q_17, .int x_18, .long g_19, .long g_20, .int x_21, .int x_22, .int x_23, .int x_24, .ref q_18, .ref q_19, .int x_25, .int x_26, .int x_27, .int x_28, .ref q_20, .ref q_21, .int x_29, .int x_30, .ref q_22, .ref q_23, .ref q_24, .ref q_25, .int x_31, .int x_32, .int x_33])), (q_1, .inl (k 0, 27101, .inl (upd (upd f_0 20 x_0) 21 1)))] := hD
  refine lv_aload_n hx hb dX12_addFour_16 rfl (lv_at hl 0 rfl) ?_
  refine va_get (D := D) (ci := 12) (v := .ref q_1) (C := RX12) (T := TX12) (N := 56) hx hb hts inX12 hown hK hP 0 rfl rfl 2 (by decide) (hts _ kF_X12_7) (fun _ h9 => h9) rfl dX12_addFour_17 ?_
  refine lv_iload_n hx hb dX12_addFour_20 rfl (lv_at hl 1 rfl) ?_
  refine lv_iconst (v := 2) hx hb dX12_addFour_21 (by decide) ?_
  refine lv_iadd hx hb dX12_addFour_22 ?_
  refine lv_toc (v := 22) (by decide) ?_
  refine lv_iload hx hb dX12_addFour_23 (lv_at hl 4 rfl) ?_
  refine va_iast hx hb hK hP hD hS 1 0 rfl rfl (by unfold vp_in; decide) dX12_addFour_25 (fun H locs hP hD hS => ?_)
  have hP : va_P D vwCl [(q_0, .inr (12, [.int x_3, .int x_4, .ref q_1, .ref q_2, .ref q_3, .int x_5, .ref q_4, .ref q_5, .ref q_6, .ref q_7, .ref q_8, .int x_6, .int x_7, .int x_8, .int x_9, .long g_10, .int x_11, .int x_12, .int x_13, .ref q_9, .int x_14, .ref q_10, .ref q_11, .int x_15, .ref q_12, .ref q_13, .int x_16, .int x_17, .ref q_14, .ref q_15, .ref q_16, .ref q_17, .int x_18, .long g_19, .long g_20, .int x_21, .int x_22, .int x_23, .int x_24, .ref q_18, .ref q_19, .int x_25, .int x_26, .int x_27, .int x_28, .ref q_20, .ref q_21, .int x_29, .int x_30, .ref q_22, .ref q_23, .ref q_24, .ref q_25, .int x_31, .int x_32, .int x_33])), (q_1, .inl (k 0, 27101, .inl (upd (upd (upd f_0 20 x_0) 21 1) 22 x_1)))] H := hP
  have hD : va_D A [(q_0, .inr (12, [.int x_3, .int x_4, .ref q_1, .ref q_2, .ref q_3, .int x_5, .ref q_4, .ref q_5, .ref q_6, .ref q_7, .ref q_8, .int x_6, .int x_7, .int x_8, .int x_9, .long g_10, .int x_11, .int x_12, .int x_13, .ref q_9, .int x_14, .ref q_10, .ref q_11, .int x_15, .ref q_12, .ref q_13, .int x_16, .int x_17, .ref q_14, .ref q_15, .ref q_16, .ref q_17, .int x_18, .long g_19, .long g_20, .int x_21, .int x_22, .int x_23, .int x_24, .ref q_18, .ref q_19, .int x_25, .int x_26, .int x_27, .int x_28, .ref q_20, .ref q_21, .int x_29, .int x_30, .ref q_22, .ref q_23, .ref q_24, .ref q_25, .int x_31, .int x_32, .int x_33])), (q_1, .inl (k 0, 27101, .inl (upd (upd (upd f_0 20 x_0) 21 1) 22 x_1)))] := hD
  refine lv_aload_n hx hb dX12_addFour_26 rfl (lv_at hl 0 rfl) ?_
  refine va_get (D := D) (ci := 12) (v := .ref q_1) (C := RX12) (T := TX12) (N := 56) hx hb hts inX12 hown hK hP 0 rfl rfl 2 (by decide) (hts _ kF_X12_7) (fun _ h9 => h9) rfl dX12_addFour_27 ?_
  refine lv_iload_n hx hb dX12_addFour_30 rfl (lv_at hl 1 rfl) ?_
  refine lv_iconst (v := 3) hx hb dX12_addFour_31 (by decide) ?_
  refine lv_iadd hx hb dX12_addFour_32 ?_
  refine lv_toc (v := 23) (by decide) ?_
  refine lv_iload hx hb dX12_addFour_33 (lv_at hl 5 rfl) ?_
  refine va_iast hx hb hK hP hD hS 1 0 rfl rfl (by unfold vp_in; decide) dX12_addFour_35 (fun H locs hP hD hS => ?_)
  have hP : va_P D vwCl [(q_0, .inr (12, [.int x_3, .int x_4, .ref q_1, .ref q_2, .ref q_3, .int x_5, .ref q_4, .ref q_5, .ref q_6, .ref q_7, .ref q_8, .int x_6, .int x_7, .int x_8, .int x_9, .long g_10, .int x_11, .int x_12, .int x_13, .ref q_9, .int x_14, .ref q_10, .ref q_11, .int x_15, .ref q_12, .ref q_13, .int x_16, .int x_17, .ref q_14, .ref q_15, .ref q_16, .ref q_17, .int x_18, .long g_19, .long g_20, .int x_21, .int x_22, .int x_23, .int x_24, .ref q_18, .ref q_19, .int x_25, .int x_26, .int x_27, .int x_28, .ref q_20, .ref q_21, .int x_29, .int x_30, .ref q_22, .ref q_23, .ref q_24, .ref q_25, .int x_31, .int x_32, .int x_33])), (q_1, .inl (k 0, 27101, .inl (upd (upd (upd (upd f_0 20 x_0) 21 1) 22 x_1) 23 x_2)))] H := hP
  have hD : va_D A [(q_0, .inr (12, [.int x_3, .int x_4, .ref q_1, .ref q_2, .ref q_3, .int x_5, .ref q_4, .ref q_5, .ref q_6, .ref q_7, .ref q_8, .int x_6, .int x_7, .int x_8, .int x_9, .long g_10, .int x_11, .int x_12, .int x_13, .ref q_9, .int x_14, .ref q_10, .ref q_11, .int x_15, .ref q_12, .ref q_13, .int x_16, .int x_17, .ref q_14, .ref q_15, .ref q_16, .ref q_17, .int x_18, .long g_19, .long g_20, .int x_21, .int x_22, .int x_23, .int x_24, .ref q_18, .ref q_19, .int x_25, .int x_26, .int x_27, .int x_28, .ref q_20, .ref q_21, .int x_29, .int x_30, .ref q_22, .ref q_23, .ref q_24, .ref q_25, .int x_31, .int x_32, .int x_33])), (q_1, .inl (k 0, 27101, .inl (upd (upd (upd (upd f_0 20 x_0) 21 1) 22 x_1) 23 x_2)))] := hD
  exact z_vret C0 hr hlk hK hP hD hS (0, fun _ => 0) rfl [0, 1] rfl rfl rfl dX12_addFour_36

set_option maxHeartbeats 4000000 in
set_option maxRecDepth 100000 in
theorem c_X12_child_1 (l : Launch) (D : va_G) (k : Nat → ClassId) (q_0 : Nat) (q_1 : Nat) (q_2 : Nat) (q_3 : Nat) (q_4 : Nat) (q_5 : Nat) (q_6 : Nat) (q_7 : Nat) (q_8 : Nat) (q_9 : Nat) (q_10 : Nat) (q_11 : Nat) (q_12 : Nat) (q_13 : Nat) (q_14 : Nat) (q_15 : Nat) (q_16 : Nat) (q_17 : Nat) (q_18 : Nat) (q_19 : Nat) (q_20 : Nat) (q_21 : Nat) (q_22 : Nat) (q_23 : Nat) (q_24 : Nat) (q_25 : Nat) (x_0 : Int32) (x_1 : Int32) (x_2 : Int32) (x_3 : Int32) (x_4 : Int32) (x_5 : Int32) (x_6 : Int32) (x_7 : Int32) (x_8 : Int32) (x_9 : Int32) (x_10 : Int32) (x_11 : Int32) (g_12 : Int64) (x_13 : Int32) (x_14 : Int32) (x_15 : Int32) (x_16 : Int32) (x_17 : Int32) (x_18 : Int32) (x_19 : Int32) (x_20 : Int32) (g_21 : Int64) (g_22 : Int64) (x_23 : Int32) (x_24 : Int32) (x_25 : Int32) (x_26 : Int32) (x_27 : Int32) (x_28 : Int32) (x_29 : Int32) (x_30 : Int32) (x_31 : Int32) (x_32 : Int32) (x_33 : Int32) (x_34 : Int32) (x_35 : Int32) : zMi l yX12_child cX12_child 8 (some .int) ({ frames := 1, cells := 0, slots := 0, locals := 25 }) D k [.ref q_0, .int x_0, .int x_1, .int x_2, .int x_3, .int x_4] [(q_0, .inr (12, [.int x_5, .int x_6, .ref q_1, .ref q_2, .ref q_3, .int x_7, .ref q_4, .ref q_5, .ref q_6, .ref q_7, .ref q_8, .int x_8, .int x_9, .int x_10, .int x_11, .long g_12, .int x_13, .int x_14, .int x_15, .ref q_9, .int x_16, .ref q_10, .ref q_11, .int x_17, .ref q_12, .ref q_13, .int x_18, .int x_19, .ref q_14, .ref q_15, .ref q_16, .ref q_17, .int x_20, .long g_21, .long g_22, .int x_23, .int x_24, .int x_25, .int x_26, .ref q_18, .ref q_19, .int x_27, .int x_28, .int x_29, .int x_30, .ref q_20, .ref q_21, .int x_31, .int x_32, .ref q_22, .ref q_23, .ref q_24, .ref q_25, .int x_33, .int x_34, .int x_35])), (q_1, .inl (k 0, 27101, .inl (fun _ => 0)))] (fun r u => (u.1 = 0 ∧ r = (-1) ∧ (((((Int32.toInt64 x_0) < 3) ∨ (¬ (Int32.toInt64 x_0) < 3 ∧ (18 : Int64) < (Int32.toInt64 x_0)))) ∨ (((¬ (Int32.toInt64 x_0) < 3 ∧ ¬ (18 : Int64) < (Int32.toInt64 x_0))) ∧ (((Int32.toInt64 x_2) < (-1)) ∨ (¬ (Int32.toInt64 x_2) < (-1) ∧ (7 : Int64) < (Int32.toInt64 x_2)))) ∨ (((¬ (Int32.toInt64 x_0) < 3 ∧ ¬ (18 : Int64) < (Int32.toInt64 x_0))) ∧ ((¬ (Int32.toInt64 x_2) < (-1) ∧ ¬ (7 : Int64) < (Int32.toInt64 x_2))) ∧ (((Int32.toInt64 x_3) < 0) ∨ (¬ (Int32.toInt64 x_3) < 0 ∧ (99 : Int64) < (Int32.toInt64 x_3)))) ∨ (((¬ (Int32.toInt64 x_0) < 3 ∧ ¬ (18 : Int64) < (Int32.toInt64 x_0))) ∧ ((¬ (Int32.toInt64 x_2) < (-1) ∧ ¬ (7 : Int64) < (Int32.toInt64 x_2))) ∧ ((¬ (Int32.toInt64 x_3) < 0 ∧ ¬ (99 : Int64) < (Int32.toInt64 x_3))) ∧ (((Int32.toInt64 x_4) < 0) ∨ (¬ (Int32.toInt64 x_4) < 0 ∧ (99 : Int64) < (Int32.toInt64 x_4)))))) ∨ (u.1 = 1 ∧ r = 0 ∧ ((((¬ (Int32.toInt64 x_0) < 3 ∧ ¬ (18 : Int64) < (Int32.toInt64 x_0))) ∧ ((¬ (Int32.toInt64 x_2) < (-1) ∧ ¬ (7 : Int64) < (Int32.toInt64 x_2))) ∧ ((¬ (Int32.toInt64 x_3) < 0 ∧ ¬ (99 : Int64) < (Int32.toInt64 x_3))) ∧ ((¬ (Int32.toInt64 x_4) < 0 ∧ ¬ (99 : Int64) < (Int32.toInt64 x_4))) ∧ x_1 = 0) ∨ (((¬ (Int32.toInt64 x_0) < 3 ∧ ¬ (18 : Int64) < (Int32.toInt64 x_0))) ∧ ((¬ (Int32.toInt64 x_2) < (-1) ∧ ¬ (7 : Int64) < (Int32.toInt64 x_2))) ∧ ((¬ (Int32.toInt64 x_3) < 0 ∧ ¬ (99 : Int64) < (Int32.toInt64 x_3))) ∧ ((¬ (Int32.toInt64 x_4) < 0 ∧ ¬ (99 : Int64) < (Int32.toInt64 x_4))) ∧ ¬ x_1 = 0)))) (fun u => []) := by
  refine zMi_of (own := RX12) (by decide +kernel) rfl (Nat.le_of_ble_eq_true rfl) ?_
  intro p e s m args below meth c A ls C0 hr hlk hin hP hD hS hA hK hN hl
  have hx := C0.1
  have hb := C0.2.1
  have hml := C0.2.2.1
  have hown := C0.2.2.2.1
  have hts := C0.2.2.2.2
  have hl : lv_has ls 8 [(0, .ref q_0), (1, .int x_0), (2, .int x_1), (3, .int x_2), (4, .int x_3), (5, .int x_4)] := hl
  have hP : va_P D vwCl [(q_0, .inr (12, [.int x_5, .int x_6, .ref q_1, .ref q_2, .ref q_3, .int x_7, .ref q_4, .ref q_5, .ref q_6, .ref q_7, .ref q_8, .int x_8, .int x_9, .int x_10, .int x_11, .long g_12, .int x_13, .int x_14, .int x_15, .ref q_9, .int x_16, .ref q_10, .ref q_11, .int x_17, .ref q_12, .ref q_13, .int x_18, .int x_19, .ref q_14, .ref q_15, .ref q_16, .ref q_17, .int x_20, .long g_21, .long g_22, .int x_23, .int x_24, .int x_25, .int x_26, .ref q_18, .ref q_19, .int x_27, .int x_28, .int x_29, .int x_30, .ref q_20, .ref q_21, .int x_31, .int x_32, .ref q_22, .ref q_23, .ref q_24, .ref q_25, .int x_33, .int x_34, .int x_35])), (q_1, .inl (k 0, 27101, .inl (fun _ => 0)))] s.heap := hP
  refine lv_aload_n hx hb dX12_child_0 rfl (lv_at hl 0 rfl) ?_
  refine lv_iconst (v := 0) hx hb dX12_child_1 (by decide) ?_
  refine va_put (D := D) (ci := 12) (v := .int 0) (ty := .int) (C := RX12) (T := TX12) (N := 56) hx hb hts inX12 tyX12 tyX12_ok nmX12 hown hK hP hD hS 0 rfl rfl 0 (by decide) (hts _ kF_X12_92) (fun _ h9 => h9) rfl (by decide +kernel) rfl rfl (Nat.le_of_ble_eq_true rfl) dX12_child_2 (fun H locs hP hD hS => ?_)
  have hP : va_P D vwCl [(q_0, .inr (12, [.int 0, .int x_6, .ref q_1, .ref q_2, .ref q_3, .int x_7, .ref q_4, .ref q_5, .ref q_6, .ref q_7, .ref q_8, .int x_8, .int x_9, .int x_10, .int x_11, .long g_12, .int x_13, .int x_14, .int x_15, .ref q_9, .int x_16, .ref q_10, .ref q_11, .int x_17, .ref q_12, .ref q_13, .int x_18, .int x_19, .ref q_14, .ref q_15, .ref q_16, .ref q_17, .int x_20, .long g_21, .long g_22, .int x_23, .int x_24, .int x_25, .int x_26, .ref q_18, .ref q_19, .int x_27, .int x_28, .int x_29, .int x_30, .ref q_20, .ref q_21, .int x_31, .int x_32, .ref q_22, .ref q_23, .ref q_24, .ref q_25, .int x_33, .int x_34, .int x_35])), (q_1, .inl (k 0, 27101, .inl (fun _ => 0)))] H := hP
  have hD : va_D A [(q_0, .inr (12, [.int 0, .int x_6, .ref q_1, .ref q_2, .ref q_3, .int x_7, .ref q_4, .ref q_5, .ref q_6, .ref q_7, .ref q_8, .int x_8, .int x_9, .int x_10, .int x_11, .long g_12, .int x_13, .int x_14, .int x_15, .ref q_9, .int x_16, .ref q_10, .ref q_11, .int x_17, .ref q_12, .ref q_13, .int x_18, .int x_19, .ref q_14, .ref q_15, .ref q_16, .ref q_17, .int x_20, .long g_21, .long g_22, .int x_23, .int x_24, .int x_25, .int x_26, .ref q_18, .ref q_19, .int x_27, .int x_28, .int x_29, .int x_30, .ref q_20, .ref q_21, .int x_31, .int x_32, .ref q_22, .ref q_23, .ref q_24, .ref q_25, .int x_33, .int x_34, .int x_35])), (q_1, .inl (k 0, 27101, .inl (fun _ => 0)))] := hD
  refine lv_iload_n hx hb dX12_child_5 rfl (lv_at hl 1 rfl) ?_
  refine lv_i2l (v := (Int32.toInt64 x_0)) hx hb dX12_child_6 rfl ?_
  refine lv_ldc2 hx hb hown (hts _ kL_X12_110) dX12_child_7 ?_
  refine lv_ldc2 hx hb hown (hts _ kL_X12_112) dX12_child_10 ?_
  refine z_bi0 (z_runS (As := [.long (Int32.toInt64 x_0), .long 3, .long 18]) (rest := []) C0 (c_X12_in_1 l D k (Int32.toInt64 x_0) 3 18 _) okS_X12_in kM_X12_100 rfl (z_p0 hK hN) rfl hl.1 rfl (Nat.le_of_ble_eq_true rfl) dX12_child_13 rfl) hP hS hA (fun r1 u1 H locs hw1 hP hS => ?_)
  obtain ⟨i1, a1⟩ := u1
  dsimp only at hw1
  rcases hw1 with ⟨rfl, rfl, c1⟩ | ⟨rfl, rfl, c1⟩
  · refine lv_if_eq (tgt := 59) hx hb dX12_child_16 (by decide) (fun _ => ?_) (fun c2 => absurd (by decide) c2)
    refine lv_aload_n hx hb dX12_child_59 rfl (lv_at hl 0 rfl) ?_
    refine lv_iconst (v := (-1)) hx hb dX12_child_60 (by decide) ?_
    refine z_bi (wr := [(q_1, .inl (k 0, 27101, .inl (fun _ => 0)))]) (z_runV (C := RX12) (As := [.int (-1)]) (rest := []) C0 (c_X12_told_1 l D k q_0 q_1 q_2 q_3 q_4 q_5 q_6 q_7 q_8 q_9 q_10 q_11 q_12 q_13 q_14 q_15 q_16 q_17 q_18 q_19 q_20 q_21 q_22 q_23 q_24 q_25 0 x_6 x_7 x_8 x_9 x_10 x_11 g_12 x_13 x_14 x_15 x_16 x_17 x_18 x_19 x_20 g_21 g_22 x_23 x_24 x_25 x_26 x_27 x_28 x_29 x_30 x_31 x_32 x_33 x_34 x_35 _) okV_X12_told kM_X12_106 rfl (z_pV (q0 := 0) hK hN hP hD [0] rfl rfl rfl rfl rfl) rfl hl.1 rfl (Nat.le_of_ble_eq_true rfl) dX12_child_61 rfl) hP hD hS hA [0] [1] rfl rfl rfl rfl (fun r3 u3 H locs hw3 hP hD hS => ?_)
    obtain ⟨i3, a3⟩ := u3
    dsimp only at hw3
    obtain ⟨rfl, rfl⟩ := hw3
    have hP : va_P D vwCl [(q_1, .inl (k 0, 27101, .inl (fun _ => 0))), (q_0, .inr (12, [.int 0, .int (-1), .ref q_1, .ref q_2, .ref q_3, .int x_7, .ref q_4, .ref q_5, .ref q_6, .ref q_7, .ref q_8, .int x_8, .int x_9, .int x_10, .int x_11, .long g_12, .int x_13, .int x_14, .int x_15, .ref q_9, .int x_16, .ref q_10, .ref q_11, .int x_17, .ref q_12, .ref q_13, .int x_18, .int x_19, .ref q_14, .ref q_15, .ref q_16, .ref q_17, .int x_20, .long g_21, .long g_22, .int x_23, .int x_24, .int x_25, .int x_26, .ref q_18, .ref q_19, .int x_27, .int x_28, .int x_29, .int x_30, .ref q_20, .ref q_21, .int x_31, .int x_32, .ref q_22, .ref q_23, .ref q_24, .ref q_25, .int x_33, .int x_34, .int x_35]))] H := hP
    have hD : va_D A [(q_1, .inl (k 0, 27101, .inl (fun _ => 0))), (q_0, .inr (12, [.int 0, .int (-1), .ref q_1, .ref q_2, .ref q_3, .int x_7, .ref q_4, .ref q_5, .ref q_6, .ref q_7, .ref q_8, .int x_8, .int x_9, .int x_10, .int x_11, .long g_12, .int x_13, .int x_14, .int x_15, .ref q_9, .int x_16, .ref q_10, .ref q_11, .int x_17, .ref q_12, .ref q_13, .int x_18, .int x_19, .ref q_14, .ref q_15, .ref q_16, .ref q_17, .int x_20, .long g_21, .long g_22, .int x_23, .int x_24, .int x_25, .int x_26, .ref q_18, .ref q_19, .int x_27, .int x_28, .int x_29, .int x_30, .ref q_20, .ref q_21, .int x_31, .int x_32, .ref q_22, .ref q_23, .ref q_24, .ref q_25, .int x_33, .int x_34, .int x_35]))] := hD
    exact z_iret C0 hr hlk rfl hK hP hD hS (0, fun _ => 0) (Or.inl ⟨rfl, rfl, (Or.inl c1)⟩) [] rfl rfl rfl dX12_child_64
  · refine lv_if_eq (tgt := 59) hx hb dX12_child_16 (by decide) (fun c4 => absurd c4 (by decide)) (fun _ => ?_)
    refine lv_iload_n hx hb dX12_child_19 rfl (lv_at hl 3 rfl) ?_
    refine lv_i2l (v := (Int32.toInt64 x_2)) hx hb dX12_child_20 rfl ?_
    refine lv_ldc2 hx hb hown (hts _ kL_X12_114) dX12_child_21 ?_
    refine lv_ldc2 hx hb hown (hts _ kL_X12_116) dX12_child_24 ?_
    refine z_bi0 (z_runS (As := [.long (Int32.toInt64 x_2), .long (-1), .long 7]) (rest := []) C0 (c_X12_in_1 l D k (Int32.toInt64 x_2) (-1) 7 _) okS_X12_in kM_X12_100 rfl (z_p0 hK hN) rfl hl.1 rfl (Nat.le_of_ble_eq_true rfl) dX12_child_27 rfl) hP hS hA (fun r5 u5 H locs hw5 hP hS => ?_)
    obtain ⟨i5, a5⟩ := u5
    dsimp only at hw5
    rcases hw5 with ⟨rfl, rfl, c5⟩ | ⟨rfl, rfl, c5⟩
    · refine lv_if_eq (tgt := 59) hx hb dX12_child_30 (by decide) (fun _ => ?_) (fun c6 => absurd (by decide) c6)
      refine lv_aload_n hx hb dX12_child_59 rfl (lv_at hl 0 rfl) ?_
      refine lv_iconst (v := (-1)) hx hb dX12_child_60 (by decide) ?_
      refine z_bi (wr := [(q_1, .inl (k 0, 27101, .inl (fun _ => 0)))]) (z_runV (C := RX12) (As := [.int (-1)]) (rest := []) C0 (c_X12_told_1 l D k q_0 q_1 q_2 q_3 q_4 q_5 q_6 q_7 q_8 q_9 q_10 q_11 q_12 q_13 q_14 q_15 q_16 q_17 q_18 q_19 q_20 q_21 q_22 q_23 q_24 q_25 0 x_6 x_7 x_8 x_9 x_10 x_11 g_12 x_13 x_14 x_15 x_16 x_17 x_18 x_19 x_20 g_21 g_22 x_23 x_24 x_25 x_26 x_27 x_28 x_29 x_30 x_31 x_32 x_33 x_34 x_35 _) okV_X12_told kM_X12_106 rfl (z_pV (q0 := 0) hK hN hP hD [0] rfl rfl rfl rfl rfl) rfl hl.1 rfl (Nat.le_of_ble_eq_true rfl) dX12_child_61 rfl) hP hD hS hA [0] [1] rfl rfl rfl rfl (fun r7 u7 H locs hw7 hP hD hS => ?_)
      obtain ⟨i7, a7⟩ := u7
      dsimp only at hw7
      obtain ⟨rfl, rfl⟩ := hw7
      have hP : va_P D vwCl [(q_1, .inl (k 0, 27101, .inl (fun _ => 0))), (q_0, .inr (12, [.int 0, .int (-1), .ref q_1, .ref q_2, .ref q_3, .int x_7, .ref q_4, .ref q_5, .ref q_6, .ref q_7, .ref q_8, .int x_8, .int x_9, .int x_10, .int x_11, .long g_12, .int x_13, .int x_14, .int x_15, .ref q_9, .int x_16, .ref q_10, .ref q_11, .int x_17, .ref q_12, .ref q_13, .int x_18, .int x_19, .ref q_14, .ref q_15, .ref q_16, .ref q_17, .int x_20, .long g_21, .long g_22, .int x_23, .int x_24, .int x_25, .int x_26, .ref q_18, .ref q_19, .int x_27, .int x_28, .int x_29, .int x_30, .ref q_20, .ref q_21, .int x_31, .int x_32, .ref q_22, .ref q_23, .ref q_24, .ref q_25, .int x_33, .int x_34, .int x_35]))] H := hP
      have hD : va_D A [(q_1, .inl (k 0, 27101, .inl (fun _ => 0))), (q_0, .inr (12, [.int 0, .int (-1), .ref q_1, .ref q_2, .ref q_3, .int x_7, .ref q_4, .ref q_5, .ref q_6, .ref q_7, .ref q_8, .int x_8, .int x_9, .int x_10, .int x_11, .long g_12, .int x_13, .int x_14, .int x_15, .ref q_9, .int x_16, .ref q_10, .ref q_11, .int x_17, .ref q_12, .ref q_13, .int x_18, .int x_19, .ref q_14, .ref q_15, .ref q_16, .ref q_17, .int x_20, .long g_21, .long g_22, .int x_23, .int x_24, .int x_25, .int x_26, .ref q_18, .ref q_19, .int x_27, .int x_28, .int x_29, .int x_30, .ref q_20, .ref q_21, .int x_31, .int x_32, .ref q_22, .ref q_23, .ref q_24, .ref q_25, .int x_33, .int x_34, .int x_35]))] := hD
      exact z_iret C0 hr hlk rfl hK hP hD hS (0, fun _ => 0) (Or.inl ⟨rfl, rfl, (Or.inr (Or.inl (⟨c1, c5⟩)))⟩) [] rfl rfl rfl dX12_child_64
    · refine lv_if_eq (tgt := 59) hx hb dX12_child_30 (by decide) (fun c8 => absurd c8 (by decide)) (fun _ => ?_)
      refine lv_iload hx hb dX12_child_33 (lv_at hl 4 rfl) ?_
      refine lv_i2l (v := (Int32.toInt64 x_3)) hx hb dX12_child_35 rfl ?_
      refine lv_lconst (v := 0) hx hb dX12_child_36 (by decide) ?_
      refine lv_ldc2 hx hb hown (hts _ kL_X12_118) dX12_child_37 ?_
      refine z_bi0 (z_runS (As := [.long (Int32.toInt64 x_3), .long 0, .long 99]) (rest := []) C0 (c_X12_in_1 l D k (Int32.toInt64 x_3) 0 99 _) okS_X12_in kM_X12_100 rfl (z_p0 hK hN) rfl hl.1 rfl (Nat.le_of_ble_eq_true rfl) dX12_child_40 rfl) hP hS hA (fun r9 u9 H locs hw9 hP hS => ?_)
      obtain ⟨i9, a9⟩ := u9
      dsimp only at hw9
      rcases hw9 with ⟨rfl, rfl, c9⟩ | ⟨rfl, rfl, c9⟩
      · refine lv_if_eq (tgt := 59) hx hb dX12_child_43 (by decide) (fun _ => ?_) (fun c10 => absurd (by decide) c10)
        refine lv_aload_n hx hb dX12_child_59 rfl (lv_at hl 0 rfl) ?_
        refine lv_iconst (v := (-1)) hx hb dX12_child_60 (by decide) ?_
        refine z_bi (wr := [(q_1, .inl (k 0, 27101, .inl (fun _ => 0)))]) (z_runV (C := RX12) (As := [.int (-1)]) (rest := []) C0 (c_X12_told_1 l D k q_0 q_1 q_2 q_3 q_4 q_5 q_6 q_7 q_8 q_9 q_10 q_11 q_12 q_13 q_14 q_15 q_16 q_17 q_18 q_19 q_20 q_21 q_22 q_23 q_24 q_25 0 x_6 x_7 x_8 x_9 x_10 x_11 g_12 x_13 x_14 x_15 x_16 x_17 x_18 x_19 x_20 g_21 g_22 x_23 x_24 x_25 x_26 x_27 x_28 x_29 x_30 x_31 x_32 x_33 x_34 x_35 _) okV_X12_told kM_X12_106 rfl (z_pV (q0 := 0) hK hN hP hD [0] rfl rfl rfl rfl rfl) rfl hl.1 rfl (Nat.le_of_ble_eq_true rfl) dX12_child_61 rfl) hP hD hS hA [0] [1] rfl rfl rfl rfl (fun r11 u11 H locs hw11 hP hD hS => ?_)
        obtain ⟨i11, a11⟩ := u11
        dsimp only at hw11
        obtain ⟨rfl, rfl⟩ := hw11
        have hP : va_P D vwCl [(q_1, .inl (k 0, 27101, .inl (fun _ => 0))), (q_0, .inr (12, [.int 0, .int (-1), .ref q_1, .ref q_2, .ref q_3, .int x_7, .ref q_4, .ref q_5, .ref q_6, .ref q_7, .ref q_8, .int x_8, .int x_9, .int x_10, .int x_11, .long g_12, .int x_13, .int x_14, .int x_15, .ref q_9, .int x_16, .ref q_10, .ref q_11, .int x_17, .ref q_12, .ref q_13, .int x_18, .int x_19, .ref q_14, .ref q_15, .ref q_16, .ref q_17, .int x_20, .long g_21, .long g_22, .int x_23, .int x_24, .int x_25, .int x_26, .ref q_18, .ref q_19, .int x_27, .int x_28, .int x_29, .int x_30, .ref q_20, .ref q_21, .int x_31, .int x_32, .ref q_22, .ref q_23, .ref q_24, .ref q_25, .int x_33, .int x_34, .int x_35]))] H := hP
        have hD : va_D A [(q_1, .inl (k 0, 27101, .inl (fun _ => 0))), (q_0, .inr (12, [.int 0, .int (-1), .ref q_1, .ref q_2, .ref q_3, .int x_7, .ref q_4, .ref q_5, .ref q_6, .ref q_7, .ref q_8, .int x_8, .int x_9, .int x_10, .int x_11, .long g_12, .int x_13, .int x_14, .int x_15, .ref q_9, .int x_16, .ref q_10, .ref q_11, .int x_17, .ref q_12, .ref q_13, .int x_18, .int x_19, .ref q_14, .ref q_15, .ref q_16, .ref q_17, .int x_20, .long g_21, .long g_22, .int x_23, .int x_24, .int x_25, .int x_26, .ref q_18, .ref q_19, .int x_27, .int x_28, .int x_29, .int x_30, .ref q_20, .ref q_21, .int x_31, .int x_32, .ref q_22, .ref q_23, .ref q_24, .ref q_25, .int x_33, .int x_34, .int x_35]))] := hD
        exact z_iret C0 hr hlk rfl hK hP hD hS (0, fun _ => 0) (Or.inl ⟨rfl, rfl, (Or.inr (Or.inr (Or.inl (⟨c1, c5, c9⟩))))⟩) [] rfl rfl rfl dX12_child_64
      · refine lv_if_eq (tgt := 59) hx hb dX12_child_43 (by decide) (fun c12 => absurd c12 (by decide)) (fun _ => ?_)
        refine lv_iload hx hb dX12_child_46 (lv_at hl 5 rfl) ?_
        refine lv_i2l (v := (Int32.toInt64 x_4)) hx hb dX12_child_48 rfl ?_
        refine lv_lconst (v := 0) hx hb dX12_child_49 (by decide) ?_
        refine lv_ldc2 hx hb hown (hts _ kL_X12_118) dX12_child_50 ?_
        refine z_bi0 (z_runS (As := [.long (Int32.toInt64 x_4), .long 0, .long 99]) (rest := []) C0 (c_X12_in_1 l D k (Int32.toInt64 x_4) 0 99 _) okS_X12_in kM_X12_100 rfl (z_p0 hK hN) rfl hl.1 rfl (Nat.le_of_ble_eq_true rfl) dX12_child_53 rfl) hP hS hA (fun r13 u13 H locs hw13 hP hS => ?_)
        obtain ⟨i13, a13⟩ := u13
        dsimp only at hw13
        rcases hw13 with ⟨rfl, rfl, c13⟩ | ⟨rfl, rfl, c13⟩
        · refine lv_if_ne (tgt := 65) hx hb dX12_child_56 (by decide) (fun c14 => absurd (by decide) c14) (fun _ => ?_)
          refine lv_aload_n hx hb dX12_child_59 rfl (lv_at hl 0 rfl) ?_
          refine lv_iconst (v := (-1)) hx hb dX12_child_60 (by decide) ?_
          refine z_bi (wr := [(q_1, .inl (k 0, 27101, .inl (fun _ => 0)))]) (z_runV (C := RX12) (As := [.int (-1)]) (rest := []) C0 (c_X12_told_1 l D k q_0 q_1 q_2 q_3 q_4 q_5 q_6 q_7 q_8 q_9 q_10 q_11 q_12 q_13 q_14 q_15 q_16 q_17 q_18 q_19 q_20 q_21 q_22 q_23 q_24 q_25 0 x_6 x_7 x_8 x_9 x_10 x_11 g_12 x_13 x_14 x_15 x_16 x_17 x_18 x_19 x_20 g_21 g_22 x_23 x_24 x_25 x_26 x_27 x_28 x_29 x_30 x_31 x_32 x_33 x_34 x_35 _) okV_X12_told kM_X12_106 rfl (z_pV (q0 := 0) hK hN hP hD [0] rfl rfl rfl rfl rfl) rfl hl.1 rfl (Nat.le_of_ble_eq_true rfl) dX12_child_61 rfl) hP hD hS hA [0] [1] rfl rfl rfl rfl (fun r15 u15 H locs hw15 hP hD hS => ?_)
          obtain ⟨i15, a15⟩ := u15
          dsimp only at hw15
          obtain ⟨rfl, rfl⟩ := hw15
          have hP : va_P D vwCl [(q_1, .inl (k 0, 27101, .inl (fun _ => 0))), (q_0, .inr (12, [.int 0, .int (-1), .ref q_1, .ref q_2, .ref q_3, .int x_7, .ref q_4, .ref q_5, .ref q_6, .ref q_7, .ref q_8, .int x_8, .int x_9, .int x_10, .int x_11, .long g_12, .int x_13, .int x_14, .int x_15, .ref q_9, .int x_16, .ref q_10, .ref q_11, .int x_17, .ref q_12, .ref q_13, .int x_18, .int x_19, .ref q_14, .ref q_15, .ref q_16, .ref q_17, .int x_20, .long g_21, .long g_22, .int x_23, .int x_24, .int x_25, .int x_26, .ref q_18, .ref q_19, .int x_27, .int x_28, .int x_29, .int x_30, .ref q_20, .ref q_21, .int x_31, .int x_32, .ref q_22, .ref q_23, .ref q_24, .ref q_25, .int x_33, .int x_34, .int x_35]))] H := hP
          have hD : va_D A [(q_1, .inl (k 0, 27101, .inl (fun _ => 0))), (q_0, .inr (12, [.int 0, .int (-1), .ref q_1, .ref q_2, .ref q_3, .int x_7, .ref q_4, .ref q_5, .ref q_6, .ref q_7, .ref q_8, .int x_8, .int x_9, .int x_10, .int x_11, .long g_12, .int x_13, .int x_14, .int x_15, .ref q_9, .int x_16, .ref q_10, .ref q_11, .int x_17, .ref q_12, .ref q_13, .int x_18, .int x_19, .ref q_14, .ref q_15, .ref q_16, .ref q_17, .int x_20, .long g_21, .long g_22, .int x_23, .int x_24, .int x_25, .int x_26, .ref q_18, .ref q_19, .int x_27, .int x_28, .int x_29, .int x_30, .ref q_20, .ref q_21, .int x_31, .int x_32, .ref q_22, .ref q_23, .ref q_24, .ref q_25, .int x_33, .int x_34, .int x_35]))] := hD
          exact z_iret C0 hr hlk rfl hK hP hD hS (0, fun _ => 0) (Or.inl ⟨rfl, rfl, (Or.inr (Or.inr (Or.inr (⟨c1, c5, c9, c13⟩))))⟩) [] rfl rfl rfl dX12_child_64
        · refine lv_if_ne (tgt := 65) hx hb dX12_child_56 (by decide) (fun _ => ?_) (fun c16 => absurd c16 (by decide))
          refine lv_aload_n hx hb dX12_child_65 rfl (lv_at hl 0 rfl) ?_
          refine va_get (D := D) (ci := 12) (v := .ref q_1) (C := RX12) (T := TX12) (N := 56) hx hb hts inX12 hown hK hP 0 rfl rfl 2 (by decide) (hts _ kF_X12_7) (fun _ h9 => h9) rfl dX12_child_66 ?_
          refine lv_iconst (v := 0) hx hb dX12_child_69 (by decide) ?_
          refine va_iald hx hb hK hP 1 0 rfl rfl (by unfold vp_in; decide) dX12_child_70 ?_
          refine lv_toc (v := 0) rfl ?_
          refine lv_bipush (v := 40) hx hb dX12_child_71 (by decide) ?_
          refine lv_icmp_ne (tgt := 83) hx hb dX12_child_73 (by decide) (fun _ => ?_) (fun c17 => absurd c17 (by decide))
          refine lv_aload_n hx hb dX12_child_83 rfl (lv_at hl 0 rfl) ?_
          refine va_get (D := D) (ci := 12) (v := .ref q_1) (C := RX12) (T := TX12) (N := 56) hx hb hts inX12 hown hK hP 0 rfl rfl 2 (by decide) (hts _ kF_X12_7) (fun _ h9 => h9) rfl dX12_child_84 ?_
          refine lv_iconst (v := 0) hx hb dX12_child_87 (by decide) ?_
          refine va_iald hx hb hK hP 1 0 rfl rfl (by unfold vp_in; decide) dX12_child_88 ?_
          refine lv_toc (v := 0) rfl ?_
          refine z_bi0 (z_runS (As := [.int 0]) (rest := []) C0 (c_X12_childAt_1 l D k _) okS_X12_childAt kM_X12_120 rfl (z_p0 hK hN) rfl hl.1 rfl (Nat.le_of_ble_eq_true rfl) dX12_child_89 rfl) hP hS hA (fun r18 u18 H locs hw18 hP hS => ?_)
          obtain ⟨i18, a18⟩ := u18
          dsimp only at hw18
          obtain ⟨rfl, rfl⟩ := hw18
          refine lv_istore (lv' := [(6, .int 20), (0, .ref q_0), (1, .int x_0), (2, .int x_1), (3, .int x_2), (4, .int x_3), (5, .int x_4)]) hx hb dX12_child_92 hl (by decide) rfl (fun ls hl => ?_)
          refine lv_aload_n hx hb dX12_child_94 rfl (lv_at hl 1 rfl) ?_
          refine lv_iload hx hb dX12_child_95 (lv_at hl 0 rfl) ?_
          refine lv_iload_n hx hb dX12_child_97 rfl (lv_at hl 2 rfl) ?_
          refine lv_iload_n hx hb dX12_child_98 rfl (lv_at hl 3 rfl) ?_
          refine lv_if_eq (tgt := 106) hx hb dX12_child_99 (by decide) (fun c19 => ?_) (fun c19 => ?_)
          · refine lv_iconst (v := 0) hx hb dX12_child_106 (by decide) ?_
            refine lv_iload_n hx hb dX12_child_107 rfl (lv_at hl 4 rfl) ?_
            refine lv_iload hx hb dX12_child_108 (lv_at hl 5 rfl) ?_
            refine z_bv (wr := []) (z_runV (C := RX12) (As := [.int 20, .int x_0, .int 0, .int x_2, .int x_3]) (rest := []) C0 (c_X12_addFour_1 l D k q_0 q_1 q_2 q_3 q_4 q_5 q_6 q_7 q_8 q_9 q_10 q_11 q_12 q_13 q_14 q_15 q_16 q_17 q_18 q_19 q_20 q_21 q_22 q_23 q_24 q_25 x_0 x_2 x_3 0 x_6 x_7 x_8 x_9 x_10 x_11 g_12 x_13 x_14 x_15 x_16 x_17 x_18 x_19 x_20 g_21 g_22 x_23 x_24 x_25 x_26 x_27 x_28 x_29 x_30 x_31 x_32 x_33 x_34 x_35 (fun _ => 0) _) okV_X12_addFour kM_X12_123 rfl (z_pV (q0 := 0) hK hN hP hD [0, 1] rfl rfl rfl rfl rfl) rfl hl.1 rfl (Nat.le_of_ble_eq_true rfl) dX12_child_110 rfl) hP hD hS hA [0, 1] [] rfl rfl rfl rfl (fun u20 H locs hw20 hP hD hS => ?_)
            obtain ⟨i20, a20⟩ := u20
            dsimp only at hw20
            obtain rfl := hw20
            have hP : va_P D vwCl [(q_0, .inr (12, [.int 0, .int x_6, .ref q_1, .ref q_2, .ref q_3, .int x_7, .ref q_4, .ref q_5, .ref q_6, .ref q_7, .ref q_8, .int x_8, .int x_9, .int x_10, .int x_11, .long g_12, .int x_13, .int x_14, .int x_15, .ref q_9, .int x_16, .ref q_10, .ref q_11, .int x_17, .ref q_12, .ref q_13, .int x_18, .int x_19, .ref q_14, .ref q_15, .ref q_16, .ref q_17, .int x_20, .long g_21, .long g_22, .int x_23, .int x_24, .int x_25, .int x_26, .ref q_18, .ref q_19, .int x_27, .int x_28, .int x_29, .int x_30, .ref q_20, .ref q_21, .int x_31, .int x_32, .ref q_22, .ref q_23, .ref q_24, .ref q_25, .int x_33, .int x_34, .int x_35])), (q_1, .inl (k 0, 27101, .inl (upd (upd (upd (upd (fun _ => 0) 20 x_0) 21 0) 22 x_2) 23 x_3)))] H := hP
            have hD : va_D A [(q_0, .inr (12, [.int 0, .int x_6, .ref q_1, .ref q_2, .ref q_3, .int x_7, .ref q_4, .ref q_5, .ref q_6, .ref q_7, .ref q_8, .int x_8, .int x_9, .int x_10, .int x_11, .long g_12, .int x_13, .int x_14, .int x_15, .ref q_9, .int x_16, .ref q_10, .ref q_11, .int x_17, .ref q_12, .ref q_13, .int x_18, .int x_19, .ref q_14, .ref q_15, .ref q_16, .ref q_17, .int x_20, .long g_21, .long g_22, .int x_23, .int x_24, .int x_25, .int x_26, .ref q_18, .ref q_19, .int x_27, .int x_28, .int x_29, .int x_30, .ref q_20, .ref q_21, .int x_31, .int x_32, .ref q_22, .ref q_23, .ref q_24, .ref q_25, .int x_33, .int x_34, .int x_35])), (q_1, .inl (k 0, 27101, .inl (upd (upd (upd (upd (fun _ => 0) 20 x_0) 21 0) 22 x_2) 23 x_3)))] := hD
            refine lv_aload_n hx hb dX12_child_113 rfl (lv_at hl 1 rfl) ?_
            refine va_get (D := D) (ci := 12) (v := .ref q_1) (C := RX12) (T := TX12) (N := 56) hx hb hts inX12 hown hK hP 0 rfl rfl 2 (by decide) (hts _ kF_X12_7) (fun _ h9 => h9) rfl dX12_child_114 ?_
            refine lv_iload hx hb dX12_child_117 (lv_at hl 0 rfl) ?_
            refine lv_iconst (v := 4) hx hb dX12_child_119 (by decide) ?_
            refine lv_iadd hx hb dX12_child_120 ?_
            refine lv_toc (v := 24) (by decide) ?_
            refine lv_iload hx hb dX12_child_121 (lv_at hl 6 rfl) ?_
            refine va_iast hx hb hK hP hD hS 1 0 rfl rfl (by unfold vp_in; decide) dX12_child_123 (fun H locs hP hD hS => ?_)
            have hP : va_P D vwCl [(q_0, .inr (12, [.int 0, .int x_6, .ref q_1, .ref q_2, .ref q_3, .int x_7, .ref q_4, .ref q_5, .ref q_6, .ref q_7, .ref q_8, .int x_8, .int x_9, .int x_10, .int x_11, .long g_12, .int x_13, .int x_14, .int x_15, .ref q_9, .int x_16, .ref q_10, .ref q_11, .int x_17, .ref q_12, .ref q_13, .int x_18, .int x_19, .ref q_14, .ref q_15, .ref q_16, .ref q_17, .int x_20, .long g_21, .long g_22, .int x_23, .int x_24, .int x_25, .int x_26, .ref q_18, .ref q_19, .int x_27, .int x_28, .int x_29, .int x_30, .ref q_20, .ref q_21, .int x_31, .int x_32, .ref q_22, .ref q_23, .ref q_24, .ref q_25, .int x_33, .int x_34, .int x_35])), (q_1, .inl (k 0, 27101, .inl (upd (upd (upd (upd (upd (fun _ => 0) 20 x_0) 21 0) 22 x_2) 23 x_3) 24 x_4)))] H := hP
            have hD : va_D A [(q_0, .inr (12, [.int 0, .int x_6, .ref q_1, .ref q_2, .ref q_3, .int x_7, .ref q_4, .ref q_5, .ref q_6, .ref q_7, .ref q_8, .int x_8, .int x_9, .int x_10, .int x_11, .long g_12, .int x_13, .int x_14, .int x_15, .ref q_9, .int x_16, .ref q_10, .ref q_11, .int x_17, .ref q_12, .ref q_13, .int x_18, .int x_19, .ref q_14, .ref q_15, .ref q_16, .ref q_17, .int x_20, .long g_21, .long g_22, .int x_23, .int x_24, .int x_25, .int x_26, .ref q_18, .ref q_19, .int x_27, .int x_28, .int x_29, .int x_30, .ref q_20, .ref q_21, .int x_31, .int x_32, .ref q_22, .ref q_23, .ref q_24, .ref q_25, .int x_33, .int x_34, .int x_35])), (q_1, .inl (k 0, 27101, .inl (upd (upd (upd (upd (upd (fun _ => 0) 20 x_0) 21 0) 22 x_2) 23 x_3) 24 x_4)))] := hD
            refine lv_iconst (v := 5) hx hb dX12_child_124 (by decide) ?_
            refine lv_istore (lv' := [(7, .int 5), (6, .int 20), (0, .ref q_0), (1, .int x_0), (2, .int x_1), (3, .int x_2), (4, .int x_3), (5, .int x_4)]) hx hb dX12_child_125 hl (by decide) rfl (fun ls hl => ?_)
            refine lv_iload hx hb dX12_child_127 (lv_at hl 0 rfl) ?_
            refine lv_bipush (v := 17) hx hb dX12_child_129 (by decide) ?_
            refine lv_icmp_ge (tgt := 162) hx hb dX12_child_131 (by decide) (fun c21 => absurd c21 (by decide)) (fun _ => ?_)
            refine lv_aload_n hx hb dX12_child_134 rfl (lv_at hl 2 rfl) ?_
            refine va_get (D := D) (ci := 12) (v := .ref q_1) (C := RX12) (T := TX12) (N := 56) hx hb hts inX12 hown hK hP 0 rfl rfl 2 (by decide) (hts _ kF_X12_7) (fun _ h9 => h9) rfl dX12_child_135 ?_
            refine lv_iload hx hb dX12_child_138 (lv_at hl 1 rfl) ?_
            refine lv_iload hx hb dX12_child_140 (lv_at hl 0 rfl) ?_
            refine lv_iadd hx hb dX12_child_142 ?_
            refine lv_toc (v := 25) (by decide) ?_
            refine lv_iload hx hb dX12_child_143 (lv_at hl 0 rfl) ?_
            refine lv_bipush (v := 13) hx hb dX12_child_145 (by decide) ?_
            refine lv_icmp_ge (tgt := 154) hx hb dX12_child_147 (by decide) (fun c22 => absurd c22 (by decide)) (fun _ => ?_)
            refine lv_iconst (v := (-1)) hx hb dX12_child_150 (by decide) ?_
            refine lv_goto (tgt := 155) hx hb dX12_child_151 (by decide) ?_
            refine va_iast hx hb hK hP hD hS 1 0 rfl rfl (by unfold vp_in; decide) dX12_child_155 (fun H locs hP hD hS => ?_)
            have hP : va_P D vwCl [(q_0, .inr (12, [.int 0, .int x_6, .ref q_1, .ref q_2, .ref q_3, .int x_7, .ref q_4, .ref q_5, .ref q_6, .ref q_7, .ref q_8, .int x_8, .int x_9, .int x_10, .int x_11, .long g_12, .int x_13, .int x_14, .int x_15, .ref q_9, .int x_16, .ref q_10, .ref q_11, .int x_17, .ref q_12, .ref q_13, .int x_18, .int x_19, .ref q_14, .ref q_15, .ref q_16, .ref q_17, .int x_20, .long g_21, .long g_22, .int x_23, .int x_24, .int x_25, .int x_26, .ref q_18, .ref q_19, .int x_27, .int x_28, .int x_29, .int x_30, .ref q_20, .ref q_21, .int x_31, .int x_32, .ref q_22, .ref q_23, .ref q_24, .ref q_25, .int x_33, .int x_34, .int x_35])), (q_1, .inl (k 0, 27101, .inl (upd (upd (upd (upd (upd (upd (fun _ => 0) 20 x_0) 21 0) 22 x_2) 23 x_3) 24 x_4) 25 (-1))))] H := hP
            have hD : va_D A [(q_0, .inr (12, [.int 0, .int x_6, .ref q_1, .ref q_2, .ref q_3, .int x_7, .ref q_4, .ref q_5, .ref q_6, .ref q_7, .ref q_8, .int x_8, .int x_9, .int x_10, .int x_11, .long g_12, .int x_13, .int x_14, .int x_15, .ref q_9, .int x_16, .ref q_10, .ref q_11, .int x_17, .ref q_12, .ref q_13, .int x_18, .int x_19, .ref q_14, .ref q_15, .ref q_16, .ref q_17, .int x_20, .long g_21, .long g_22, .int x_23, .int x_24, .int x_25, .int x_26, .ref q_18, .ref q_19, .int x_27, .int x_28, .int x_29, .int x_30, .ref q_20, .ref q_21, .int x_31, .int x_32, .ref q_22, .ref q_23, .ref q_24, .ref q_25, .int x_33, .int x_34, .int x_35])), (q_1, .inl (k 0, 27101, .inl (upd (upd (upd (upd (upd (upd (fun _ => 0) 20 x_0) 21 0) 22 x_2) 23 x_3) 24 x_4) 25 (-1))))] := hD
            refine lv_iinc (v := 6) (lv' := [(7, .int 6), (6, .int 20), (0, .ref q_0), (1, .int x_0), (2, .int x_1), (3, .int x_2), (4, .int x_3), (5, .int x_4)]) hx hb dX12_child_156 hl (k := 0) rfl (by decide) (by decide) rfl (fun ls hl => ?_)
            refine lv_goto (tgt := 127) hx hb dX12_child_159 (by decide) ?_
            refine lv_iload hx hb dX12_child_127 (lv_at hl 0 rfl) ?_
            refine lv_bipush (v := 17) hx hb dX12_child_129 (by decide) ?_
            refine lv_icmp_ge (tgt := 162) hx hb dX12_child_131 (by decide) (fun c23 => absurd c23 (by decide)) (fun _ => ?_)
            refine lv_aload_n hx hb dX12_child_134 rfl (lv_at hl 2 rfl) ?_
            refine va_get (D := D) (ci := 12) (v := .ref q_1) (C := RX12) (T := TX12) (N := 56) hx hb hts inX12 hown hK hP 0 rfl rfl 2 (by decide) (hts _ kF_X12_7) (fun _ h9 => h9) rfl dX12_child_135 ?_
            refine lv_iload hx hb dX12_child_138 (lv_at hl 1 rfl) ?_
            refine lv_iload hx hb dX12_child_140 (lv_at hl 0 rfl) ?_
            refine lv_iadd hx hb dX12_child_142 ?_
            refine lv_toc (v := 26) (by decide) ?_
            refine lv_iload hx hb dX12_child_143 (lv_at hl 0 rfl) ?_
            refine lv_bipush (v := 13) hx hb dX12_child_145 (by decide) ?_
            refine lv_icmp_ge (tgt := 154) hx hb dX12_child_147 (by decide) (fun c24 => absurd c24 (by decide)) (fun _ => ?_)
            refine lv_iconst (v := (-1)) hx hb dX12_child_150 (by decide) ?_
            refine lv_goto (tgt := 155) hx hb dX12_child_151 (by decide) ?_
            refine va_iast hx hb hK hP hD hS 1 0 rfl rfl (by unfold vp_in; decide) dX12_child_155 (fun H locs hP hD hS => ?_)
            have hP : va_P D vwCl [(q_0, .inr (12, [.int 0, .int x_6, .ref q_1, .ref q_2, .ref q_3, .int x_7, .ref q_4, .ref q_5, .ref q_6, .ref q_7, .ref q_8, .int x_8, .int x_9, .int x_10, .int x_11, .long g_12, .int x_13, .int x_14, .int x_15, .ref q_9, .int x_16, .ref q_10, .ref q_11, .int x_17, .ref q_12, .ref q_13, .int x_18, .int x_19, .ref q_14, .ref q_15, .ref q_16, .ref q_17, .int x_20, .long g_21, .long g_22, .int x_23, .int x_24, .int x_25, .int x_26, .ref q_18, .ref q_19, .int x_27, .int x_28, .int x_29, .int x_30, .ref q_20, .ref q_21, .int x_31, .int x_32, .ref q_22, .ref q_23, .ref q_24, .ref q_25, .int x_33, .int x_34, .int x_35])), (q_1, .inl (k 0, 27101, .inl (upd (upd (upd (upd (upd (upd (upd (fun _ => 0) 20 x_0) 21 0) 22 x_2) 23 x_3) 24 x_4) 25 (-1)) 26 (-1))))] H := hP
            have hD : va_D A [(q_0, .inr (12, [.int 0, .int x_6, .ref q_1, .ref q_2, .ref q_3, .int x_7, .ref q_4, .ref q_5, .ref q_6, .ref q_7, .ref q_8, .int x_8, .int x_9, .int x_10, .int x_11, .long g_12, .int x_13, .int x_14, .int x_15, .ref q_9, .int x_16, .ref q_10, .ref q_11, .int x_17, .ref q_12, .ref q_13, .int x_18, .int x_19, .ref q_14, .ref q_15, .ref q_16, .ref q_17, .int x_20, .long g_21, .long g_22, .int x_23, .int x_24, .int x_25, .int x_26, .ref q_18, .ref q_19, .int x_27, .int x_28, .int x_29, .int x_30, .ref q_20, .ref q_21, .int x_31, .int x_32, .ref q_22, .ref q_23, .ref q_24, .ref q_25, .int x_33, .int x_34, .int x_35])), (q_1, .inl (k 0, 27101, .inl (upd (upd (upd (upd (upd (upd (upd (fun _ => 0) 20 x_0) 21 0) 22 x_2) 23 x_3) 24 x_4) 25 (-1)) 26 (-1))))] := hD
            refine lv_iinc (v := 7) (lv' := [(7, .int 7), (6, .int 20), (0, .ref q_0), (1, .int x_0), (2, .int x_1), (3, .int x_2), (4, .int x_3), (5, .int x_4)]) hx hb dX12_child_156 hl (k := 0) rfl (by decide) (by decide) rfl (fun ls hl => ?_)
            refine lv_goto (tgt := 127) hx hb dX12_child_159 (by decide) ?_
            refine lv_iload hx hb dX12_child_127 (lv_at hl 0 rfl) ?_
            refine lv_bipush (v := 17) hx hb dX12_child_129 (by decide) ?_
            refine lv_icmp_ge (tgt := 162) hx hb dX12_child_131 (by decide) (fun c25 => absurd c25 (by decide)) (fun _ => ?_)
            refine lv_aload_n hx hb dX12_child_134 rfl (lv_at hl 2 rfl) ?_
            refine va_get (D := D) (ci := 12) (v := .ref q_1) (C := RX12) (T := TX12) (N := 56) hx hb hts inX12 hown hK hP 0 rfl rfl 2 (by decide) (hts _ kF_X12_7) (fun _ h9 => h9) rfl dX12_child_135 ?_
            refine lv_iload hx hb dX12_child_138 (lv_at hl 1 rfl) ?_
            refine lv_iload hx hb dX12_child_140 (lv_at hl 0 rfl) ?_
            refine lv_iadd hx hb dX12_child_142 ?_
            refine lv_toc (v := 27) (by decide) ?_
            refine lv_iload hx hb dX12_child_143 (lv_at hl 0 rfl) ?_
            refine lv_bipush (v := 13) hx hb dX12_child_145 (by decide) ?_
            refine lv_icmp_ge (tgt := 154) hx hb dX12_child_147 (by decide) (fun c26 => absurd c26 (by decide)) (fun _ => ?_)
            refine lv_iconst (v := (-1)) hx hb dX12_child_150 (by decide) ?_
            refine lv_goto (tgt := 155) hx hb dX12_child_151 (by decide) ?_
            refine va_iast hx hb hK hP hD hS 1 0 rfl rfl (by unfold vp_in; decide) dX12_child_155 (fun H locs hP hD hS => ?_)
            have hP : va_P D vwCl [(q_0, .inr (12, [.int 0, .int x_6, .ref q_1, .ref q_2, .ref q_3, .int x_7, .ref q_4, .ref q_5, .ref q_6, .ref q_7, .ref q_8, .int x_8, .int x_9, .int x_10, .int x_11, .long g_12, .int x_13, .int x_14, .int x_15, .ref q_9, .int x_16, .ref q_10, .ref q_11, .int x_17, .ref q_12, .ref q_13, .int x_18, .int x_19, .ref q_14, .ref q_15, .ref q_16, .ref q_17, .int x_20, .long g_21, .long g_22, .int x_23, .int x_24, .int x_25, .int x_26, .ref q_18, .ref q_19, .int x_27, .int x_28, .int x_29, .int x_30, .ref q_20, .ref q_21, .int x_31, .int x_32, .ref q_22, .ref q_23, .ref q_24, .ref q_25, .int x_33, .int x_34, .int x_35])), (q_1, .inl (k 0, 27101, .inl (upd (upd (upd (upd (upd (upd (upd (upd (fun _ => 0) 20 x_0) 21 0) 22 x_2) 23 x_3) 24 x_4) 25 (-1)) 26 (-1)) 27 (-1))))] H := hP
            have hD : va_D A [(q_0, .inr (12, [.int 0, .int x_6, .ref q_1, .ref q_2, .ref q_3, .int x_7, .ref q_4, .ref q_5, .ref q_6, .ref q_7, .ref q_8, .int x_8, .int x_9, .int x_10, .int x_11, .long g_12, .int x_13, .int x_14, .int x_15, .ref q_9, .int x_16, .ref q_10, .ref q_11, .int x_17, .ref q_12, .ref q_13, .int x_18, .int x_19, .ref q_14, .ref q_15, .ref q_16, .ref q_17, .int x_20, .long g_21, .long g_22, .int x_23, .int x_24, .int x_25, .int x_26, .ref q_18, .ref q_19, .int x_27, .int x_28, .int x_29, .int x_30, .ref q_20, .ref q_21, .int x_31, .int x_32, .ref q_22, .ref q_23, .ref q_24, .ref q_25, .int x_33, .int x_34, .int x_35])), (q_1, .inl (k 0, 27101, .inl (upd (upd (upd (upd (upd (upd (upd (upd (fun _ => 0) 20 x_0) 21 0) 22 x_2) 23 x_3) 24 x_4) 25 (-1)) 26 (-1)) 27 (-1))))] := hD
            refine lv_iinc (v := 8) (lv' := [(7, .int 8), (6, .int 20), (0, .ref q_0), (1, .int x_0), (2, .int x_1), (3, .int x_2), (4, .int x_3), (5, .int x_4)]) hx hb dX12_child_156 hl (k := 0) rfl (by decide) (by decide) rfl (fun ls hl => ?_)
            refine lv_goto (tgt := 127) hx hb dX12_child_159 (by decide) ?_
            refine lv_iload hx hb dX12_child_127 (lv_at hl 0 rfl) ?_
            refine lv_bipush (v := 17) hx hb dX12_child_129 (by decide) ?_
            refine lv_icmp_ge (tgt := 162) hx hb dX12_child_131 (by decide) (fun c27 => absurd c27 (by decide)) (fun _ => ?_)
            refine lv_aload_n hx hb dX12_child_134 rfl (lv_at hl 2 rfl) ?_
            refine va_get (D := D) (ci := 12) (v := .ref q_1) (C := RX12) (T := TX12) (N := 56) hx hb hts inX12 hown hK hP 0 rfl rfl 2 (by decide) (hts _ kF_X12_7) (fun _ h9 => h9) rfl dX12_child_135 ?_
            refine lv_iload hx hb dX12_child_138 (lv_at hl 1 rfl) ?_
            refine lv_iload hx hb dX12_child_140 (lv_at hl 0 rfl) ?_
            refine lv_iadd hx hb dX12_child_142 ?_
            refine lv_toc (v := 28) (by decide) ?_
            refine lv_iload hx hb dX12_child_143 (lv_at hl 0 rfl) ?_
            refine lv_bipush (v := 13) hx hb dX12_child_145 (by decide) ?_
            refine lv_icmp_ge (tgt := 154) hx hb dX12_child_147 (by decide) (fun c28 => absurd c28 (by decide)) (fun _ => ?_)
            refine lv_iconst (v := (-1)) hx hb dX12_child_150 (by decide) ?_
            refine lv_goto (tgt := 155) hx hb dX12_child_151 (by decide) ?_
            refine va_iast hx hb hK hP hD hS 1 0 rfl rfl (by unfold vp_in; decide) dX12_child_155 (fun H locs hP hD hS => ?_)
            have hP : va_P D vwCl [(q_0, .inr (12, [.int 0, .int x_6, .ref q_1, .ref q_2, .ref q_3, .int x_7, .ref q_4, .ref q_5, .ref q_6, .ref q_7, .ref q_8, .int x_8, .int x_9, .int x_10, .int x_11, .long g_12, .int x_13, .int x_14, .int x_15, .ref q_9, .int x_16, .ref q_10, .ref q_11, .int x_17, .ref q_12, .ref q_13, .int x_18, .int x_19, .ref q_14, .ref q_15, .ref q_16, .ref q_17, .int x_20, .long g_21, .long g_22, .int x_23, .int x_24, .int x_25, .int x_26, .ref q_18, .ref q_19, .int x_27, .int x_28, .int x_29, .int x_30, .ref q_20, .ref q_21, .int x_31, .int x_32, .ref q_22, .ref q_23, .ref q_24, .ref q_25, .int x_33, .int x_34, .int x_35])), (q_1, .inl (k 0, 27101, .inl (upd (upd (upd (upd (upd (upd (upd (upd (upd (fun _ => 0) 20 x_0) 21 0) 22 x_2) 23 x_3) 24 x_4) 25 (-1)) 26 (-1)) 27 (-1)) 28 (-1))))] H := hP
            have hD : va_D A [(q_0, .inr (12, [.int 0, .int x_6, .ref q_1, .ref q_2, .ref q_3, .int x_7, .ref q_4, .ref q_5, .ref q_6, .ref q_7, .ref q_8, .int x_8, .int x_9, .int x_10, .int x_11, .long g_12, .int x_13, .int x_14, .int x_15, .ref q_9, .int x_16, .ref q_10, .ref q_11, .int x_17, .ref q_12, .ref q_13, .int x_18, .int x_19, .ref q_14, .ref q_15, .ref q_16, .ref q_17, .int x_20, .long g_21, .long g_22, .int x_23, .int x_24, .int x_25, .int x_26, .ref q_18, .ref q_19, .int x_27, .int x_28, .int x_29, .int x_30, .ref q_20, .ref q_21, .int x_31, .int x_32, .ref q_22, .ref q_23, .ref q_24, .ref q_25, .int x_33, .int x_34, .int x_35])), (q_1, .inl (k 0, 27101, .inl (upd (upd (upd (upd (upd (upd (upd (upd (upd (fun _ => 0) 20 x_0) 21 0) 22 x_2) 23 x_3) 24 x_4) 25 (-1)) 26 (-1)) 27 (-1)) 28 (-1))))] := hD
            refine lv_iinc (v := 9) (lv' := [(7, .int 9), (6, .int 20), (0, .ref q_0), (1, .int x_0), (2, .int x_1), (3, .int x_2), (4, .int x_3), (5, .int x_4)]) hx hb dX12_child_156 hl (k := 0) rfl (by decide) (by decide) rfl (fun ls hl => ?_)
            refine lv_goto (tgt := 127) hx hb dX12_child_159 (by decide) ?_
            refine lv_iload hx hb dX12_child_127 (lv_at hl 0 rfl) ?_
            refine lv_bipush (v := 17) hx hb dX12_child_129 (by decide) ?_
            refine lv_icmp_ge (tgt := 162) hx hb dX12_child_131 (by decide) (fun c29 => absurd c29 (by decide)) (fun _ => ?_)
            refine lv_aload_n hx hb dX12_child_134 rfl (lv_at hl 2 rfl) ?_
            refine va_get (D := D) (ci := 12) (v := .ref q_1) (C := RX12) (T := TX12) (N := 56) hx hb hts inX12 hown hK hP 0 rfl rfl 2 (by decide) (hts _ kF_X12_7) (fun _ h9 => h9) rfl dX12_child_135 ?_
            refine lv_iload hx hb dX12_child_138 (lv_at hl 1 rfl) ?_
            refine lv_iload hx hb dX12_child_140 (lv_at hl 0 rfl) ?_
            refine lv_iadd hx hb dX12_child_142 ?_
            refine lv_toc (v := 29) (by decide) ?_
            refine lv_iload hx hb dX12_child_143 (lv_at hl 0 rfl) ?_
            refine lv_bipush (v := 13) hx hb dX12_child_145 (by decide) ?_
            refine lv_icmp_ge (tgt := 154) hx hb dX12_child_147 (by decide) (fun c30 => absurd c30 (by decide)) (fun _ => ?_)
            refine lv_iconst (v := (-1)) hx hb dX12_child_150 (by decide) ?_
            refine lv_goto (tgt := 155) hx hb dX12_child_151 (by decide) ?_
            refine va_iast hx hb hK hP hD hS 1 0 rfl rfl (by unfold vp_in; decide) dX12_child_155 (fun H locs hP hD hS => ?_)
            have hP : va_P D vwCl [(q_0, .inr (12, [.int 0, .int x_6, .ref q_1, .ref q_2, .ref q_3, .int x_7, .ref q_4, .ref q_5, .ref q_6, .ref q_7, .ref q_8, .int x_8, .int x_9, .int x_10, .int x_11, .long g_12, .int x_13, .int x_14, .int x_15, .ref q_9, .int x_16, .ref q_10, .ref q_11, .int x_17, .ref q_12, .ref q_13, .int x_18, .int x_19, .ref q_14, .ref q_15, .ref q_16, .ref q_17, .int x_20, .long g_21, .long g_22, .int x_23, .int x_24, .int x_25, .int x_26, .ref q_18, .ref q_19, .int x_27, .int x_28, .int x_29, .int x_30, .ref q_20, .ref q_21, .int x_31, .int x_32, .ref q_22, .ref q_23, .ref q_24, .ref q_25, .int x_33, .int x_34, .int x_35])), (q_1, .inl (k 0, 27101, .inl (upd (upd (upd (upd (upd (upd (upd (upd (upd (upd (fun _ => 0) 20 x_0) 21 0) 22 x_2) 23 x_3) 24 x_4) 25 (-1)) 26 (-1)) 27 (-1)) 28 (-1)) 29 (-1))))] H := hP
            have hD : va_D A [(q_0, .inr (12, [.int 0, .int x_6, .ref q_1, .ref q_2, .ref q_3, .int x_7, .ref q_4, .ref q_5, .ref q_6, .ref q_7, .ref q_8, .int x_8, .int x_9, .int x_10, .int x_11, .long g_12, .int x_13, .int x_14, .int x_15, .ref q_9, .int x_16, .ref q_10, .ref q_11, .int x_17, .ref q_12, .ref q_13, .int x_18, .int x_19, .ref q_14, .ref q_15, .ref q_16, .ref q_17, .int x_20, .long g_21, .long g_22, .int x_23, .int x_24, .int x_25, .int x_26, .ref q_18, .ref q_19, .int x_27, .int x_28, .int x_29, .int x_30, .ref q_20, .ref q_21, .int x_31, .int x_32, .ref q_22, .ref q_23, .ref q_24, .ref q_25, .int x_33, .int x_34, .int x_35])), (q_1, .inl (k 0, 27101, .inl (upd (upd (upd (upd (upd (upd (upd (upd (upd (upd (fun _ => 0) 20 x_0) 21 0) 22 x_2) 23 x_3) 24 x_4) 25 (-1)) 26 (-1)) 27 (-1)) 28 (-1)) 29 (-1))))] := hD
            refine lv_iinc (v := 10) (lv' := [(7, .int 10), (6, .int 20), (0, .ref q_0), (1, .int x_0), (2, .int x_1), (3, .int x_2), (4, .int x_3), (5, .int x_4)]) hx hb dX12_child_156 hl (k := 0) rfl (by decide) (by decide) rfl (fun ls hl => ?_)
            refine lv_goto (tgt := 127) hx hb dX12_child_159 (by decide) ?_
            refine lv_iload hx hb dX12_child_127 (lv_at hl 0 rfl) ?_
            refine lv_bipush (v := 17) hx hb dX12_child_129 (by decide) ?_
            refine lv_icmp_ge (tgt := 162) hx hb dX12_child_131 (by decide) (fun c31 => absurd c31 (by decide)) (fun _ => ?_)
            refine lv_aload_n hx hb dX12_child_134 rfl (lv_at hl 2 rfl) ?_
            refine va_get (D := D) (ci := 12) (v := .ref q_1) (C := RX12) (T := TX12) (N := 56) hx hb hts inX12 hown hK hP 0 rfl rfl 2 (by decide) (hts _ kF_X12_7) (fun _ h9 => h9) rfl dX12_child_135 ?_
            refine lv_iload hx hb dX12_child_138 (lv_at hl 1 rfl) ?_
            refine lv_iload hx hb dX12_child_140 (lv_at hl 0 rfl) ?_
            refine lv_iadd hx hb dX12_child_142 ?_
            refine lv_toc (v := 30) (by decide) ?_
            refine lv_iload hx hb dX12_child_143 (lv_at hl 0 rfl) ?_
            refine lv_bipush (v := 13) hx hb dX12_child_145 (by decide) ?_
            refine lv_icmp_ge (tgt := 154) hx hb dX12_child_147 (by decide) (fun c32 => absurd c32 (by decide)) (fun _ => ?_)
            refine lv_iconst (v := (-1)) hx hb dX12_child_150 (by decide) ?_
            refine lv_goto (tgt := 155) hx hb dX12_child_151 (by decide) ?_
            refine va_iast hx hb hK hP hD hS 1 0 rfl rfl (by unfold vp_in; decide) dX12_child_155 (fun H locs hP hD hS => ?_)
            have hP : va_P D vwCl [(q_0, .inr (12, [.int 0, .int x_6, .ref q_1, .ref q_2, .ref q_3, .int x_7, .ref q_4, .ref q_5, .ref q_6, .ref q_7, .ref q_8, .int x_8, .int x_9, .int x_10, .int x_11, .long g_12, .int x_13, .int x_14, .int x_15, .ref q_9, .int x_16, .ref q_10, .ref q_11, .int x_17, .ref q_12, .ref q_13, .int x_18, .int x_19, .ref q_14, .ref q_15, .ref q_16, .ref q_17, .int x_20, .long g_21, .long g_22, .int x_23, .int x_24, .int x_25, .int x_26, .ref q_18, .ref q_19, .int x_27, .int x_28, .int x_29, .int x_30, .ref q_20, .ref q_21, .int x_31, .int x_32, .ref q_22, .ref q_23, .ref q_24, .ref q_25, .int x_33, .int x_34, .int x_35])), (q_1, .inl (k 0, 27101, .inl (upd (upd (upd (upd (upd (upd (upd (upd (upd (upd (upd (fun _ => 0) 20 x_0) 21 0) 22 x_2) 23 x_3) 24 x_4) 25 (-1)) 26 (-1)) 27 (-1)) 28 (-1)) 29 (-1)) 30 (-1))))] H := hP
            have hD : va_D A [(q_0, .inr (12, [.int 0, .int x_6, .ref q_1, .ref q_2, .ref q_3, .int x_7, .ref q_4, .ref q_5, .ref q_6, .ref q_7, .ref q_8, .int x_8, .int x_9, .int x_10, .int x_11, .long g_12, .int x_13, .int x_14, .int x_15, .ref q_9, .int x_16, .ref q_10, .ref q_11, .int x_17, .ref q_12, .ref q_13, .int x_18, .int x_19, .ref q_14, .ref q_15, .ref q_16, .ref q_17, .int x_20, .long g_21, .long g_22, .int x_23, .int x_24, .int x_25, .int x_26, .ref q_18, .ref q_19, .int x_27, .int x_28, .int x_29, .int x_30, .ref q_20, .ref q_21, .int x_31, .int x_32, .ref q_22, .ref q_23, .ref q_24, .ref q_25, .int x_33, .int x_34, .int x_35])), (q_1, .inl (k 0, 27101, .inl (upd (upd (upd (upd (upd (upd (upd (upd (upd (upd (upd (fun _ => 0) 20 x_0) 21 0) 22 x_2) 23 x_3) 24 x_4) 25 (-1)) 26 (-1)) 27 (-1)) 28 (-1)) 29 (-1)) 30 (-1))))] := hD
            refine lv_iinc (v := 11) (lv' := [(7, .int 11), (6, .int 20), (0, .ref q_0), (1, .int x_0), (2, .int x_1), (3, .int x_2), (4, .int x_3), (5, .int x_4)]) hx hb dX12_child_156 hl (k := 0) rfl (by decide) (by decide) rfl (fun ls hl => ?_)
            refine lv_goto (tgt := 127) hx hb dX12_child_159 (by decide) ?_
            refine lv_iload hx hb dX12_child_127 (lv_at hl 0 rfl) ?_
            refine lv_bipush (v := 17) hx hb dX12_child_129 (by decide) ?_
            refine lv_icmp_ge (tgt := 162) hx hb dX12_child_131 (by decide) (fun c33 => absurd c33 (by decide)) (fun _ => ?_)
            refine lv_aload_n hx hb dX12_child_134 rfl (lv_at hl 2 rfl) ?_
            refine va_get (D := D) (ci := 12) (v := .ref q_1) (C := RX12) (T := TX12) (N := 56) hx hb hts inX12 hown hK hP 0 rfl rfl 2 (by decide) (hts _ kF_X12_7) (fun _ h9 => h9) rfl dX12_child_135 ?_
            refine lv_iload hx hb dX12_child_138 (lv_at hl 1 rfl) ?_
            refine lv_iload hx hb dX12_child_140 (lv_at hl 0 rfl) ?_
            refine lv_iadd hx hb dX12_child_142 ?_
            refine lv_toc (v := 31) (by decide) ?_
            refine lv_iload hx hb dX12_child_143 (lv_at hl 0 rfl) ?_
            refine lv_bipush (v := 13) hx hb dX12_child_145 (by decide) ?_
            refine lv_icmp_ge (tgt := 154) hx hb dX12_child_147 (by decide) (fun c34 => absurd c34 (by decide)) (fun _ => ?_)
            refine lv_iconst (v := (-1)) hx hb dX12_child_150 (by decide) ?_
            refine lv_goto (tgt := 155) hx hb dX12_child_151 (by decide) ?_
            refine va_iast hx hb hK hP hD hS 1 0 rfl rfl (by unfold vp_in; decide) dX12_child_155 (fun H locs hP hD hS => ?_)
            have hP : va_P D vwCl [(q_0, .inr (12, [.int 0, .int x_6, .ref q_1, .ref q_2, .ref q_3, .int x_7, .ref q_4, .ref q_5, .ref q_6, .ref q_7, .ref q_8, .int x_8, .int x_9, .int x_10, .int x_11, .long g_12, .int x_13, .int x_14, .int x_15, .ref q_9, .int x_16, .ref q_10, .ref q_11, .int x_17, .ref q_12, .ref q_13, .int x_18, .int x_19, .ref q_14, .ref q_15, .ref q_16, .ref q_17, .int x_20, .long g_21, .long g_22, .int x_23, .int x_24, .int x_25, .int x_26, .ref q_18, .ref q_19, .int x_27, .int x_28, .int x_29, .int x_30, .ref q_20, .ref q_21, .int x_31, .int x_32, .ref q_22, .ref q_23, .ref q_24, .ref q_25, .int x_33, .int x_34, .int x_35])), (q_1, .inl (k 0, 27101, .inl (upd (upd (upd (upd (upd (upd (upd (upd (upd (upd (upd (upd (fun _ => 0) 20 x_0) 21 0) 22 x_2) 23 x_3) 24 x_4) 25 (-1)) 26 (-1)) 27 (-1)) 28 (-1)) 29 (-1)) 30 (-1)) 31 (-1))))] H := hP
            have hD : va_D A [(q_0, .inr (12, [.int 0, .int x_6, .ref q_1, .ref q_2, .ref q_3, .int x_7, .ref q_4, .ref q_5, .ref q_6, .ref q_7, .ref q_8, .int x_8, .int x_9, .int x_10, .int x_11, .long g_12, .int x_13, .int x_14, .int x_15, .ref q_9, .int x_16, .ref q_10, .ref q_11, .int x_17, .ref q_12, .ref q_13, .int x_18, .int x_19, .ref q_14, .ref q_15, .ref q_16, .ref q_17, .int x_20, .long g_21, .long g_22, .int x_23, .int x_24, .int x_25, .int x_26, .ref q_18, .ref q_19, .int x_27, .int x_28, .int x_29, .int x_30, .ref q_20, .ref q_21, .int x_31, .int x_32, .ref q_22, .ref q_23, .ref q_24, .ref q_25, .int x_33, .int x_34, .int x_35])), (q_1, .inl (k 0, 27101, .inl (upd (upd (upd (upd (upd (upd (upd (upd (upd (upd (upd (upd (fun _ => 0) 20 x_0) 21 0) 22 x_2) 23 x_3) 24 x_4) 25 (-1)) 26 (-1)) 27 (-1)) 28 (-1)) 29 (-1)) 30 (-1)) 31 (-1))))] := hD
            refine lv_iinc (v := 12) (lv' := [(7, .int 12), (6, .int 20), (0, .ref q_0), (1, .int x_0), (2, .int x_1), (3, .int x_2), (4, .int x_3), (5, .int x_4)]) hx hb dX12_child_156 hl (k := 0) rfl (by decide) (by decide) rfl (fun ls hl => ?_)
            refine lv_goto (tgt := 127) hx hb dX12_child_159 (by decide) ?_
            refine lv_iload hx hb dX12_child_127 (lv_at hl 0 rfl) ?_
            refine lv_bipush (v := 17) hx hb dX12_child_129 (by decide) ?_
            refine lv_icmp_ge (tgt := 162) hx hb dX12_child_131 (by decide) (fun c35 => absurd c35 (by decide)) (fun _ => ?_)
            refine lv_aload_n hx hb dX12_child_134 rfl (lv_at hl 2 rfl) ?_
            refine va_get (D := D) (ci := 12) (v := .ref q_1) (C := RX12) (T := TX12) (N := 56) hx hb hts inX12 hown hK hP 0 rfl rfl 2 (by decide) (hts _ kF_X12_7) (fun _ h9 => h9) rfl dX12_child_135 ?_
            refine lv_iload hx hb dX12_child_138 (lv_at hl 1 rfl) ?_
            refine lv_iload hx hb dX12_child_140 (lv_at hl 0 rfl) ?_
            refine lv_iadd hx hb dX12_child_142 ?_
            refine lv_toc (v := 32) (by decide) ?_
            refine lv_iload hx hb dX12_child_143 (lv_at hl 0 rfl) ?_
            refine lv_bipush (v := 13) hx hb dX12_child_145 (by decide) ?_
            refine lv_icmp_ge (tgt := 154) hx hb dX12_child_147 (by decide) (fun c36 => absurd c36 (by decide)) (fun _ => ?_)
            refine lv_iconst (v := (-1)) hx hb dX12_child_150 (by decide) ?_
            refine lv_goto (tgt := 155) hx hb dX12_child_151 (by decide) ?_
            refine va_iast hx hb hK hP hD hS 1 0 rfl rfl (by unfold vp_in; decide) dX12_child_155 (fun H locs hP hD hS => ?_)
            have hP : va_P D vwCl [(q_0, .inr (12, [.int 0, .int x_6, .ref q_1, .ref q_2, .ref q_3, .int x_7, .ref q_4, .ref q_5, .ref q_6, .ref q_7, .ref q_8, .int x_8, .int x_9, .int x_10, .int x_11, .long g_12, .int x_13, .int x_14, .int x_15, .ref q_9, .int x_16, .ref q_10, .ref q_11, .int x_17, .ref q_12, .ref q_13, .int x_18, .int x_19, .ref q_14, .ref q_15, .ref q_16, .ref q_17, .int x_20, .long g_21, .long g_22, .int x_23, .int x_24, .int x_25, .int x_26, .ref q_18, .ref q_19, .int x_27, .int x_28, .int x_29, .int x_30, .ref q_20, .ref q_21, .int x_31, .int x_32, .ref q_22, .ref q_23, .ref q_24, .ref q_25, .int x_33, .int x_34, .int x_35])), (q_1, .inl (k 0, 27101, .inl (upd (upd (upd (upd (upd (upd (upd (upd (upd (upd (upd (upd (upd (fun _ => 0) 20 x_0) 21 0) 22 x_2) 23 x_3) 24 x_4) 25 (-1)) 26 (-1)) 27 (-1)) 28 (-1)) 29 (-1)) 30 (-1)) 31 (-1)) 32 (-1))))] H := hP
            have hD : va_D A [(q_0, .inr (12, [.int 0, .int x_6, .ref q_1, .ref q_2, .ref q_3, .int x_7, .ref q_4, .ref q_5, .ref q_6, .ref q_7, .ref q_8, .int x_8, .int x_9, .int x_10, .int x_11, .long g_12, .int x_13, .int x_14, .int x_15, .ref q_9, .int x_16, .ref q_10, .ref q_11, .int x_17, .ref q_12, .ref q_13, .int x_18, .int x_19, .ref q_14, .ref q_15, .ref q_16, .ref q_17, .int x_20, .long g_21, .long g_22, .int x_23, .int x_24, .int x_25, .int x_26, .ref q_18, .ref q_19, .int x_27, .int x_28, .int x_29, .int x_30, .ref q_20, .ref q_21, .int x_31, .int x_32, .ref q_22, .ref q_23, .ref q_24, .ref q_25, .int x_33, .int x_34, .int x_35])), (q_1, .inl (k 0, 27101, .inl (upd (upd (upd (upd (upd (upd (upd (upd (upd (upd (upd (upd (upd (fun _ => 0) 20 x_0) 21 0) 22 x_2) 23 x_3) 24 x_4) 25 (-1)) 26 (-1)) 27 (-1)) 28 (-1)) 29 (-1)) 30 (-1)) 31 (-1)) 32 (-1))))] := hD
            refine lv_iinc (v := 13) (lv' := [(7, .int 13), (6, .int 20), (0, .ref q_0), (1, .int x_0), (2, .int x_1), (3, .int x_2), (4, .int x_3), (5, .int x_4)]) hx hb dX12_child_156 hl (k := 0) rfl (by decide) (by decide) rfl (fun ls hl => ?_)
            refine lv_goto (tgt := 127) hx hb dX12_child_159 (by decide) ?_
            refine lv_iload hx hb dX12_child_127 (lv_at hl 0 rfl) ?_
            refine lv_bipush (v := 17) hx hb dX12_child_129 (by decide) ?_
            refine lv_icmp_ge (tgt := 162) hx hb dX12_child_131 (by decide) (fun c37 => absurd c37 (by decide)) (fun _ => ?_)
            refine lv_aload_n hx hb dX12_child_134 rfl (lv_at hl 2 rfl) ?_
            refine va_get (D := D) (ci := 12) (v := .ref q_1) (C := RX12) (T := TX12) (N := 56) hx hb hts inX12 hown hK hP 0 rfl rfl 2 (by decide) (hts _ kF_X12_7) (fun _ h9 => h9) rfl dX12_child_135 ?_
            refine lv_iload hx hb dX12_child_138 (lv_at hl 1 rfl) ?_
            refine lv_iload hx hb dX12_child_140 (lv_at hl 0 rfl) ?_
            refine lv_iadd hx hb dX12_child_142 ?_
            refine lv_toc (v := 33) (by decide) ?_
            refine lv_iload hx hb dX12_child_143 (lv_at hl 0 rfl) ?_
            refine lv_bipush (v := 13) hx hb dX12_child_145 (by decide) ?_
            refine lv_icmp_ge (tgt := 154) hx hb dX12_child_147 (by decide) (fun _ => ?_) (fun c38 => absurd (by decide) c38)
            refine lv_iconst (v := 0) hx hb dX12_child_154 (by decide) ?_
            refine va_iast hx hb hK hP hD hS 1 0 rfl rfl (by unfold vp_in; decide) dX12_child_155 (fun H locs hP hD hS => ?_)
            have hP : va_P D vwCl [(q_0, .inr (12, [.int 0, .int x_6, .ref q_1, .ref q_2, .ref q_3, .int x_7, .ref q_4, .ref q_5, .ref q_6, .ref q_7, .ref q_8, .int x_8, .int x_9, .int x_10, .int x_11, .long g_12, .int x_13, .int x_14, .int x_15, .ref q_9, .int x_16, .ref q_10, .ref q_11, .int x_17, .ref q_12, .ref q_13, .int x_18, .int x_19, .ref q_14, .ref q_15, .ref q_16, .ref q_17, .int x_20, .long g_21, .long g_22, .int x_23, .int x_24, .int x_25, .int x_26, .ref q_18, .ref q_19, .int x_27, .int x_28, .int x_29, .int x_30, .ref q_20, .ref q_21, .int x_31, .int x_32, .ref q_22, .ref q_23, .ref q_24, .ref q_25, .int x_33, .int x_34, .int x_35])), (q_1, .inl (k 0, 27101, .inl (upd (upd (upd (upd (upd (upd (upd (upd (upd (upd (upd (upd (upd (upd (fun _ => 0) 20 x_0) 21 0) 22 x_2) 23 x_3) 24 x_4) 25 (-1)) 26 (-1)) 27 (-1)) 28 (-1)) 29 (-1)) 30 (-1)) 31 (-1)) 32 (-1)) 33 0)))] H := hP
            have hD : va_D A [(q_0, .inr (12, [.int 0, .int x_6, .ref q_1, .ref q_2, .ref q_3, .int x_7, .ref q_4, .ref q_5, .ref q_6, .ref q_7, .ref q_8, .int x_8, .int x_9, .int x_10, .int x_11, .long g_12, .int x_13, .int x_14, .int x_15, .ref q_9, .int x_16, .ref q_10, .ref q_11, .int x_17, .ref q_12, .ref q_13, .int x_18, .int x_19, .ref q_14, .ref q_15, .ref q_16, .ref q_17, .int x_20, .long g_21, .long g_22, .int x_23, .int x_24, .int x_25, .int x_26, .ref q_18, .ref q_19, .int x_27, .int x_28, .int x_29, .int x_30, .ref q_20, .ref q_21, .int x_31, .int x_32, .ref q_22, .ref q_23, .ref q_24, .ref q_25, .int x_33, .int x_34, .int x_35])), (q_1, .inl (k 0, 27101, .inl (upd (upd (upd (upd (upd (upd (upd (upd (upd (upd (upd (upd (upd (upd (fun _ => 0) 20 x_0) 21 0) 22 x_2) 23 x_3) 24 x_4) 25 (-1)) 26 (-1)) 27 (-1)) 28 (-1)) 29 (-1)) 30 (-1)) 31 (-1)) 32 (-1)) 33 0)))] := hD
            refine lv_iinc (v := 14) (lv' := [(7, .int 14), (6, .int 20), (0, .ref q_0), (1, .int x_0), (2, .int x_1), (3, .int x_2), (4, .int x_3), (5, .int x_4)]) hx hb dX12_child_156 hl (k := 0) rfl (by decide) (by decide) rfl (fun ls hl => ?_)
            refine lv_goto (tgt := 127) hx hb dX12_child_159 (by decide) ?_
            refine lv_iload hx hb dX12_child_127 (lv_at hl 0 rfl) ?_
            refine lv_bipush (v := 17) hx hb dX12_child_129 (by decide) ?_
            refine lv_icmp_ge (tgt := 162) hx hb dX12_child_131 (by decide) (fun c39 => absurd c39 (by decide)) (fun _ => ?_)
            refine lv_aload_n hx hb dX12_child_134 rfl (lv_at hl 2 rfl) ?_
            refine va_get (D := D) (ci := 12) (v := .ref q_1) (C := RX12) (T := TX12) (N := 56) hx hb hts inX12 hown hK hP 0 rfl rfl 2 (by decide) (hts _ kF_X12_7) (fun _ h9 => h9) rfl dX12_child_135 ?_
            refine lv_iload hx hb dX12_child_138 (lv_at hl 1 rfl) ?_
            refine lv_iload hx hb dX12_child_140 (lv_at hl 0 rfl) ?_
            refine lv_iadd hx hb dX12_child_142 ?_
            refine lv_toc (v := 34) (by decide) ?_
            refine lv_iload hx hb dX12_child_143 (lv_at hl 0 rfl) ?_
            refine lv_bipush (v := 13) hx hb dX12_child_145 (by decide) ?_
            refine lv_icmp_ge (tgt := 154) hx hb dX12_child_147 (by decide) (fun _ => ?_) (fun c40 => absurd (by decide) c40)
            refine lv_iconst (v := 0) hx hb dX12_child_154 (by decide) ?_
            refine va_iast hx hb hK hP hD hS 1 0 rfl rfl (by unfold vp_in; decide) dX12_child_155 (fun H locs hP hD hS => ?_)
            have hP : va_P D vwCl [(q_0, .inr (12, [.int 0, .int x_6, .ref q_1, .ref q_2, .ref q_3, .int x_7, .ref q_4, .ref q_5, .ref q_6, .ref q_7, .ref q_8, .int x_8, .int x_9, .int x_10, .int x_11, .long g_12, .int x_13, .int x_14, .int x_15, .ref q_9, .int x_16, .ref q_10, .ref q_11, .int x_17, .ref q_12, .ref q_13, .int x_18, .int x_19, .ref q_14, .ref q_15, .ref q_16, .ref q_17, .int x_20, .long g_21, .long g_22, .int x_23, .int x_24, .int x_25, .int x_26, .ref q_18, .ref q_19, .int x_27, .int x_28, .int x_29, .int x_30, .ref q_20, .ref q_21, .int x_31, .int x_32, .ref q_22, .ref q_23, .ref q_24, .ref q_25, .int x_33, .int x_34, .int x_35])), (q_1, .inl (k 0, 27101, .inl (upd (upd (upd (upd (upd (upd (upd (upd (upd (upd (upd (upd (upd (upd (upd (fun _ => 0) 20 x_0) 21 0) 22 x_2) 23 x_3) 24 x_4) 25 (-1)) 26 (-1)) 27 (-1)) 28 (-1)) 29 (-1)) 30 (-1)) 31 (-1)) 32 (-1)) 33 0) 34 0)))] H := hP
            have hD : va_D A [(q_0, .inr (12, [.int 0, .int x_6, .ref q_1, .ref q_2, .ref q_3, .int x_7, .ref q_4, .ref q_5, .ref q_6, .ref q_7, .ref q_8, .int x_8, .int x_9, .int x_10, .int x_11, .long g_12, .int x_13, .int x_14, .int x_15, .ref q_9, .int x_16, .ref q_10, .ref q_11, .int x_17, .ref q_12, .ref q_13, .int x_18, .int x_19, .ref q_14, .ref q_15, .ref q_16, .ref q_17, .int x_20, .long g_21, .long g_22, .int x_23, .int x_24, .int x_25, .int x_26, .ref q_18, .ref q_19, .int x_27, .int x_28, .int x_29, .int x_30, .ref q_20, .ref q_21, .int x_31, .int x_32, .ref q_22, .ref q_23, .ref q_24, .ref q_25, .int x_33, .int x_34, .int x_35])), (q_1, .inl (k 0, 27101, .inl (upd (upd (upd (upd (upd (upd (upd (upd (upd (upd (upd (upd (upd (upd (upd (fun _ => 0) 20 x_0) 21 0) 22 x_2) 23 x_3) 24 x_4) 25 (-1)) 26 (-1)) 27 (-1)) 28 (-1)) 29 (-1)) 30 (-1)) 31 (-1)) 32 (-1)) 33 0) 34 0)))] := hD
            refine lv_iinc (v := 15) (lv' := [(7, .int 15), (6, .int 20), (0, .ref q_0), (1, .int x_0), (2, .int x_1), (3, .int x_2), (4, .int x_3), (5, .int x_4)]) hx hb dX12_child_156 hl (k := 0) rfl (by decide) (by decide) rfl (fun ls hl => ?_)
            refine lv_goto (tgt := 127) hx hb dX12_child_159 (by decide) ?_
            refine lv_iload hx hb dX12_child_127 (lv_at hl 0 rfl) ?_
            refine lv_bipush (v := 17) hx hb dX12_child_129 (by decide) ?_
            refine lv_icmp_ge (tgt := 162) hx hb dX12_child_131 (by decide) (fun c41 => absurd c41 (by decide)) (fun _ => ?_)
            refine lv_aload_n hx hb dX12_child_134 rfl (lv_at hl 2 rfl) ?_
            refine va_get (D := D) (ci := 12) (v := .ref q_1) (C := RX12) (T := TX12) (N := 56) hx hb hts inX12 hown hK hP 0 rfl rfl 2 (by decide) (hts _ kF_X12_7) (fun _ h9 => h9) rfl dX12_child_135 ?_
            refine lv_iload hx hb dX12_child_138 (lv_at hl 1 rfl) ?_
            refine lv_iload hx hb dX12_child_140 (lv_at hl 0 rfl) ?_
            refine lv_iadd hx hb dX12_child_142 ?_
            refine lv_toc (v := 35) (by decide) ?_
            refine lv_iload hx hb dX12_child_143 (lv_at hl 0 rfl) ?_
            refine lv_bipush (v := 13) hx hb dX12_child_145 (by decide) ?_
            refine lv_icmp_ge (tgt := 154) hx hb dX12_child_147 (by decide) (fun _ => ?_) (fun c42 => absurd (by decide) c42)
            refine lv_iconst (v := 0) hx hb dX12_child_154 (by decide) ?_
            refine va_iast hx hb hK hP hD hS 1 0 rfl rfl (by unfold vp_in; decide) dX12_child_155 (fun H locs hP hD hS => ?_)
            have hP : va_P D vwCl [(q_0, .inr (12, [.int 0, .int x_6, .ref q_1, .ref q_2, .ref q_3, .int x_7, .ref q_4, .ref q_5, .ref q_6, .ref q_7, .ref q_8, .int x_8, .int x_9, .int x_10, .int x_11, .long g_12, .int x_13, .int x_14, .int x_15, .ref q_9, .int x_16, .ref q_10, .ref q_11, .int x_17, .ref q_12, .ref q_13, .int x_18, .int x_19, .ref q_14, .ref q_15, .ref q_16, .ref q_17, .int x_20, .long g_21, .long g_22, .int x_23, .int x_24, .int x_25, .int x_26, .ref q_18, .ref q_19, .int x_27, .int x_28, .int x_29, .int x_30, .ref q_20, .ref q_21, .int x_31, .int x_32, .ref q_22, .ref q_23, .ref q_24, .ref q_25, .int x_33, .int x_34, .int x_35])), (q_1, .inl (k 0, 27101, .inl (upd (upd (upd (upd (upd (upd (upd (upd (upd (upd (upd (upd (upd (upd (upd (upd (fun _ => 0) 20 x_0) 21 0) 22 x_2) 23 x_3) 24 x_4) 25 (-1)) 26 (-1)) 27 (-1)) 28 (-1)) 29 (-1)) 30 (-1)) 31 (-1)) 32 (-1)) 33 0) 34 0) 35 0)))] H := hP
            have hD : va_D A [(q_0, .inr (12, [.int 0, .int x_6, .ref q_1, .ref q_2, .ref q_3, .int x_7, .ref q_4, .ref q_5, .ref q_6, .ref q_7, .ref q_8, .int x_8, .int x_9, .int x_10, .int x_11, .long g_12, .int x_13, .int x_14, .int x_15, .ref q_9, .int x_16, .ref q_10, .ref q_11, .int x_17, .ref q_12, .ref q_13, .int x_18, .int x_19, .ref q_14, .ref q_15, .ref q_16, .ref q_17, .int x_20, .long g_21, .long g_22, .int x_23, .int x_24, .int x_25, .int x_26, .ref q_18, .ref q_19, .int x_27, .int x_28, .int x_29, .int x_30, .ref q_20, .ref q_21, .int x_31, .int x_32, .ref q_22, .ref q_23, .ref q_24, .ref q_25, .int x_33, .int x_34, .int x_35])), (q_1, .inl (k 0, 27101, .inl (upd (upd (upd (upd (upd (upd (upd (upd (upd (upd (upd (upd (upd (upd (upd (upd (fun _ => 0) 20 x_0) 21 0) 22 x_2) 23 x_3) 24 x_4) 25 (-1)) 26 (-1)) 27 (-1)) 28 (-1)) 29 (-1)) 30 (-1)) 31 (-1)) 32 (-1)) 33 0) 34 0) 35 0)))] := hD
            refine lv_iinc (v := 16) (lv' := [(7, .int 16), (6, .int 20), (0, .ref q_0), (1, .int x_0), (2, .int x_1), (3, .int x_2), (4, .int x_3), (5, .int x_4)]) hx hb dX12_child_156 hl (k := 0) rfl (by decide) (by decide) rfl (fun ls hl => ?_)
            refine lv_goto (tgt := 127) hx hb dX12_child_159 (by decide) ?_
            refine lv_iload hx hb dX12_child_127 (lv_at hl 0 rfl) ?_
            refine lv_bipush (v := 17) hx hb dX12_child_129 (by decide) ?_
            refine lv_icmp_ge (tgt := 162) hx hb dX12_child_131 (by decide) (fun c43 => absurd c43 (by decide)) (fun _ => ?_)
            refine lv_aload_n hx hb dX12_child_134 rfl (lv_at hl 2 rfl) ?_
            refine va_get (D := D) (ci := 12) (v := .ref q_1) (C := RX12) (T := TX12) (N := 56) hx hb hts inX12 hown hK hP 0 rfl rfl 2 (by decide) (hts _ kF_X12_7) (fun _ h9 => h9) rfl dX12_child_135 ?_
            refine lv_iload hx hb dX12_child_138 (lv_at hl 1 rfl) ?_
            refine lv_iload hx hb dX12_child_140 (lv_at hl 0 rfl) ?_
            refine lv_iadd hx hb dX12_child_142 ?_
            refine lv_toc (v := 36) (by decide) ?_
            refine lv_iload hx hb dX12_child_143 (lv_at hl 0 rfl) ?_
            refine lv_bipush (v := 13) hx hb dX12_child_145 (by decide) ?_
            refine lv_icmp_ge (tgt := 154) hx hb dX12_child_147 (by decide) (fun _ => ?_) (fun c44 => absurd (by decide) c44)
            refine lv_iconst (v := 0) hx hb dX12_child_154 (by decide) ?_
            refine va_iast hx hb hK hP hD hS 1 0 rfl rfl (by unfold vp_in; decide) dX12_child_155 (fun H locs hP hD hS => ?_)
            have hP : va_P D vwCl [(q_0, .inr (12, [.int 0, .int x_6, .ref q_1, .ref q_2, .ref q_3, .int x_7, .ref q_4, .ref q_5, .ref q_6, .ref q_7, .ref q_8, .int x_8, .int x_9, .int x_10, .int x_11, .long g_12, .int x_13, .int x_14, .int x_15, .ref q_9, .int x_16, .ref q_10, .ref q_11, .int x_17, .ref q_12, .ref q_13, .int x_18, .int x_19, .ref q_14, .ref q_15, .ref q_16, .ref q_17, .int x_20, .long g_21, .long g_22, .int x_23, .int x_24, .int x_25, .int x_26, .ref q_18, .ref q_19, .int x_27, .int x_28, .int x_29, .int x_30, .ref q_20, .ref q_21, .int x_31, .int x_32, .ref q_22, .ref q_23, .ref q_24, .ref q_25, .int x_33, .int x_34, .int x_35])), (q_1, .inl (k 0, 27101, .inl (upd (upd (upd (upd (upd (upd (upd (upd (upd (upd (upd (upd (upd (upd (upd (upd (upd (fun _ => 0) 20 x_0) 21 0) 22 x_2) 23 x_3) 24 x_4) 25 (-1)) 26 (-1)) 27 (-1)) 28 (-1)) 29 (-1)) 30 (-1)) 31 (-1)) 32 (-1)) 33 0) 34 0) 35 0) 36 0)))] H := hP
            have hD : va_D A [(q_0, .inr (12, [.int 0, .int x_6, .ref q_1, .ref q_2, .ref q_3, .int x_7, .ref q_4, .ref q_5, .ref q_6, .ref q_7, .ref q_8, .int x_8, .int x_9, .int x_10, .int x_11, .long g_12, .int x_13, .int x_14, .int x_15, .ref q_9, .int x_16, .ref q_10, .ref q_11, .int x_17, .ref q_12, .ref q_13, .int x_18, .int x_19, .ref q_14, .ref q_15, .ref q_16, .ref q_17, .int x_20, .long g_21, .long g_22, .int x_23, .int x_24, .int x_25, .int x_26, .ref q_18, .ref q_19, .int x_27, .int x_28, .int x_29, .int x_30, .ref q_20, .ref q_21, .int x_31, .int x_32, .ref q_22, .ref q_23, .ref q_24, .ref q_25, .int x_33, .int x_34, .int x_35])), (q_1, .inl (k 0, 27101, .inl (upd (upd (upd (upd (upd (upd (upd (upd (upd (upd (upd (upd (upd (upd (upd (upd (upd (fun _ => 0) 20 x_0) 21 0) 22 x_2) 23 x_3) 24 x_4) 25 (-1)) 26 (-1)) 27 (-1)) 28 (-1)) 29 (-1)) 30 (-1)) 31 (-1)) 32 (-1)) 33 0) 34 0) 35 0) 36 0)))] := hD
            refine lv_iinc (v := 17) (lv' := [(7, .int 17), (6, .int 20), (0, .ref q_0), (1, .int x_0), (2, .int x_1), (3, .int x_2), (4, .int x_3), (5, .int x_4)]) hx hb dX12_child_156 hl (k := 0) rfl (by decide) (by decide) rfl (fun ls hl => ?_)
            refine lv_goto (tgt := 127) hx hb dX12_child_159 (by decide) ?_
            refine lv_iload hx hb dX12_child_127 (lv_at hl 0 rfl) ?_
            refine lv_bipush (v := 17) hx hb dX12_child_129 (by decide) ?_
            refine lv_icmp_ge (tgt := 162) hx hb dX12_child_131 (by decide) (fun _ => ?_) (fun c45 => absurd (by decide) c45)
            refine lv_aload_n hx hb dX12_child_162 rfl (lv_at hl 2 rfl) ?_
            refine va_get (D := D) (ci := 12) (v := .ref q_1) (C := RX12) (T := TX12) (N := 56) hx hb hts inX12 hown hK hP 0 rfl rfl 2 (by decide) (hts _ kF_X12_7) (fun _ h9 => h9) rfl dX12_child_163 ?_
            refine lv_iconst (v := 0) hx hb dX12_child_166 (by decide) ?_
            refine lv_dup2_11 hx hb dX12_child_167 rfl rfl ?_
            refine va_iald hx hb hK hP 1 0 rfl rfl (by unfold vp_in; decide) dX12_child_168 ?_
            refine lv_toc (v := 0) rfl ?_
            refine lv_iconst (v := 1) hx hb dX12_child_169 (by decide) ?_
            refine lv_iadd hx hb dX12_child_170 ?_
            refine lv_toc (v := 1) (by decide) ?_
            refine va_iast hx hb hK hP hD hS 1 0 rfl rfl (by unfold vp_in; decide) dX12_child_171 (fun H locs hP hD hS => ?_)
            have hP : va_P D vwCl [(q_0, .inr (12, [.int 0, .int x_6, .ref q_1, .ref q_2, .ref q_3, .int x_7, .ref q_4, .ref q_5, .ref q_6, .ref q_7, .ref q_8, .int x_8, .int x_9, .int x_10, .int x_11, .long g_12, .int x_13, .int x_14, .int x_15, .ref q_9, .int x_16, .ref q_10, .ref q_11, .int x_17, .ref q_12, .ref q_13, .int x_18, .int x_19, .ref q_14, .ref q_15, .ref q_16, .ref q_17, .int x_20, .long g_21, .long g_22, .int x_23, .int x_24, .int x_25, .int x_26, .ref q_18, .ref q_19, .int x_27, .int x_28, .int x_29, .int x_30, .ref q_20, .ref q_21, .int x_31, .int x_32, .ref q_22, .ref q_23, .ref q_24, .ref q_25, .int x_33, .int x_34, .int x_35])), (q_1, .inl (k 0, 27101, .inl (upd (upd (upd (upd (upd (upd (upd (upd (upd (upd (upd (upd (upd (upd (upd (upd (upd (upd (fun _ => 0) 20 x_0) 21 0) 22 x_2) 23 x_3) 24 x_4) 25 (-1)) 26 (-1)) 27 (-1)) 28 (-1)) 29 (-1)) 30 (-1)) 31 (-1)) 32 (-1)) 33 0) 34 0) 35 0) 36 0) 0 1)))] H := hP
            have hD : va_D A [(q_0, .inr (12, [.int 0, .int x_6, .ref q_1, .ref q_2, .ref q_3, .int x_7, .ref q_4, .ref q_5, .ref q_6, .ref q_7, .ref q_8, .int x_8, .int x_9, .int x_10, .int x_11, .long g_12, .int x_13, .int x_14, .int x_15, .ref q_9, .int x_16, .ref q_10, .ref q_11, .int x_17, .ref q_12, .ref q_13, .int x_18, .int x_19, .ref q_14, .ref q_15, .ref q_16, .ref q_17, .int x_20, .long g_21, .long g_22, .int x_23, .int x_24, .int x_25, .int x_26, .ref q_18, .ref q_19, .int x_27, .int x_28, .int x_29, .int x_30, .ref q_20, .ref q_21, .int x_31, .int x_32, .ref q_22, .ref q_23, .ref q_24, .ref q_25, .int x_33, .int x_34, .int x_35])), (q_1, .inl (k 0, 27101, .inl (upd (upd (upd (upd (upd (upd (upd (upd (upd (upd (upd (upd (upd (upd (upd (upd (upd (upd (fun _ => 0) 20 x_0) 21 0) 22 x_2) 23 x_3) 24 x_4) 25 (-1)) 26 (-1)) 27 (-1)) 28 (-1)) 29 (-1)) 30 (-1)) 31 (-1)) 32 (-1)) 33 0) 34 0) 35 0) 36 0) 0 1)))] := hD
            refine lv_aload_n hx hb dX12_child_172 rfl (lv_at hl 2 rfl) ?_
            refine lv_aload_n hx hb dX12_child_173 rfl (lv_at hl 2 rfl) ?_
            refine va_get (D := D) (ci := 12) (v := .ref q_1) (C := RX12) (T := TX12) (N := 56) hx hb hts inX12 hown hK hP 0 rfl rfl 2 (by decide) (hts _ kF_X12_7) (fun _ h9 => h9) rfl dX12_child_174 ?_
            refine lv_iconst (v := 0) hx hb dX12_child_177 (by decide) ?_
            refine va_iald hx hb hK hP 1 0 rfl rfl (by unfold vp_in; decide) dX12_child_178 ?_
            refine lv_toc (v := 1) rfl ?_
            refine lv_iconst (v := 1) hx hb dX12_child_179 (by decide) ?_
            refine lv_isub hx hb dX12_child_180 ?_
            refine lv_toc (v := 0) (by decide) ?_
            refine z_bi (wr := [(q_1, .inl (k 0, 27101, .inl (upd (upd (upd (upd (upd (upd (upd (upd (upd (upd (upd (upd (upd (upd (upd (upd (upd (upd (fun _ => 0) 20 x_0) 21 0) 22 x_2) 23 x_3) 24 x_4) 25 (-1)) 26 (-1)) 27 (-1)) 28 (-1)) 29 (-1)) 30 (-1)) 31 (-1)) 32 (-1)) 33 0) 34 0) 35 0) 36 0) 0 1)))]) (z_runV (C := RX12) (As := [.int 0]) (rest := []) C0 (c_X12_told_2 l D k q_0 q_1 q_2 q_3 q_4 q_5 q_6 q_7 q_8 q_9 q_10 q_11 q_12 q_13 q_14 q_15 q_16 q_17 q_18 q_19 q_20 q_21 q_22 q_23 q_24 q_25 0 x_6 x_7 x_8 x_9 x_10 x_11 g_12 x_13 x_14 x_15 x_16 x_17 x_18 x_19 x_20 g_21 g_22 x_23 x_24 x_25 x_26 x_27 x_28 x_29 x_30 x_31 x_32 x_33 x_34 x_35 _) okV_X12_told kM_X12_106 rfl (z_pV (q0 := 0) hK hN hP hD [0] rfl rfl rfl rfl rfl) rfl hl.1 rfl (Nat.le_of_ble_eq_true rfl) dX12_child_181 rfl) hP hD hS hA [0] [1] rfl rfl rfl rfl (fun r46 u46 H locs hw46 hP hD hS => ?_)
            obtain ⟨i46, a46⟩ := u46
            dsimp only at hw46
            obtain ⟨rfl, rfl⟩ := hw46
            have hP : va_P D vwCl [(q_1, .inl (k 0, 27101, .inl (upd (upd (upd (upd (upd (upd (upd (upd (upd (upd (upd (upd (upd (upd (upd (upd (upd (upd (fun _ => 0) 20 x_0) 21 0) 22 x_2) 23 x_3) 24 x_4) 25 (-1)) 26 (-1)) 27 (-1)) 28 (-1)) 29 (-1)) 30 (-1)) 31 (-1)) 32 (-1)) 33 0) 34 0) 35 0) 36 0) 0 1))), (q_0, .inr (12, [.int 0, .int 0, .ref q_1, .ref q_2, .ref q_3, .int x_7, .ref q_4, .ref q_5, .ref q_6, .ref q_7, .ref q_8, .int x_8, .int x_9, .int x_10, .int x_11, .long g_12, .int x_13, .int x_14, .int x_15, .ref q_9, .int x_16, .ref q_10, .ref q_11, .int x_17, .ref q_12, .ref q_13, .int x_18, .int x_19, .ref q_14, .ref q_15, .ref q_16, .ref q_17, .int x_20, .long g_21, .long g_22, .int x_23, .int x_24, .int x_25, .int x_26, .ref q_18, .ref q_19, .int x_27, .int x_28, .int x_29, .int x_30, .ref q_20, .ref q_21, .int x_31, .int x_32, .ref q_22, .ref q_23, .ref q_24, .ref q_25, .int x_33, .int x_34, .int x_35]))] H := hP
            have hD : va_D A [(q_1, .inl (k 0, 27101, .inl (upd (upd (upd (upd (upd (upd (upd (upd (upd (upd (upd (upd (upd (upd (upd (upd (upd (upd (fun _ => 0) 20 x_0) 21 0) 22 x_2) 23 x_3) 24 x_4) 25 (-1)) 26 (-1)) 27 (-1)) 28 (-1)) 29 (-1)) 30 (-1)) 31 (-1)) 32 (-1)) 33 0) 34 0) 35 0) 36 0) 0 1))), (q_0, .inr (12, [.int 0, .int 0, .ref q_1, .ref q_2, .ref q_3, .int x_7, .ref q_4, .ref q_5, .ref q_6, .ref q_7, .ref q_8, .int x_8, .int x_9, .int x_10, .int x_11, .long g_12, .int x_13, .int x_14, .int x_15, .ref q_9, .int x_16, .ref q_10, .ref q_11, .int x_17, .ref q_12, .ref q_13, .int x_18, .int x_19, .ref q_14, .ref q_15, .ref q_16, .ref q_17, .int x_20, .long g_21, .long g_22, .int x_23, .int x_24, .int x_25, .int x_26, .ref q_18, .ref q_19, .int x_27, .int x_28, .int x_29, .int x_30, .ref q_20, .ref q_21, .int x_31, .int x_32, .ref q_22, .ref q_23, .ref q_24, .ref q_25, .int x_33, .int x_34, .int x_35]))] := hD
            exact z_iret C0 hr hlk rfl hK hP hD hS (1, fun _ => 0) (Or.inr (⟨rfl, rfl, (Or.inl (⟨c1, c5, c9, c13, c19⟩))⟩)) [] rfl rfl rfl dX12_child_184
          · refine lv_iconst (v := 1) hx hb dX12_child_102 (by decide) ?_
            refine lv_goto (tgt := 107) hx hb dX12_child_103 (by decide) ?_
            refine lv_iload_n hx hb dX12_child_107 rfl (lv_at hl 4 rfl) ?_
            refine lv_iload hx hb dX12_child_108 (lv_at hl 5 rfl) ?_
            refine z_bv (wr := []) (z_runV (C := RX12) (As := [.int 20, .int x_0, .int 1, .int x_2, .int x_3]) (rest := []) C0 (c_X12_addFour_2 l D k q_0 q_1 q_2 q_3 q_4 q_5 q_6 q_7 q_8 q_9 q_10 q_11 q_12 q_13 q_14 q_15 q_16 q_17 q_18 q_19 q_20 q_21 q_22 q_23 q_24 q_25 x_0 x_2 x_3 0 x_6 x_7 x_8 x_9 x_10 x_11 g_12 x_13 x_14 x_15 x_16 x_17 x_18 x_19 x_20 g_21 g_22 x_23 x_24 x_25 x_26 x_27 x_28 x_29 x_30 x_31 x_32 x_33 x_34 x_35 (fun _ => 0) _) okV_X12_addFour kM_X12_123 rfl (z_pV (q0 := 0) hK hN hP hD [0, 1] rfl rfl rfl rfl rfl) rfl hl.1 rfl (Nat.le_of_ble_eq_true rfl) dX12_child_110 rfl) hP hD hS hA [0, 1] [] rfl rfl rfl rfl (fun u47 H locs hw47 hP hD hS => ?_)
            obtain ⟨i47, a47⟩ := u47
            dsimp only at hw47
            obtain rfl := hw47
            have hP : va_P D vwCl [(q_0, .inr (12, [.int 0, .int x_6, .ref q_1, .ref q_2, .ref q_3, .int x_7, .ref q_4, .ref q_5, .ref q_6, .ref q_7, .ref q_8, .int x_8, .int x_9, .int x_10, .int x_11, .long g_12, .int x_13, .int x_14, .int x_15, .ref q_9, .int x_16, .ref q_10, .ref q_11, .int x_17, .ref q_12, .ref q_13, .int x_18, .int x_19, .ref q_14, .ref q_15, .ref q_16, .ref q_17, .int x_20, .long g_21, .long g_22, .int x_23, .int x_24, .int x_25, .int x_26, .ref q_18, .ref q_19, .int x_27, .int x_28, .int x_29, .int x_30, .ref q_20, .ref q_21, .int x_31, .int x_32, .ref q_22, .ref q_23, .ref q_24, .ref q_25, .int x_33, .int x_34, .int x_35])), (q_1, .inl (k 0, 27101, .inl (upd (upd (upd (upd (fun _ => 0) 20 x_0) 21 1) 22 x_2) 23 x_3)))] H := hP
            have hD : va_D A [(q_0, .inr (12, [.int 0, .int x_6, .ref q_1, .ref q_2, .ref q_3, .int x_7, .ref q_4, .ref q_5, .ref q_6, .ref q_7, .ref q_8, .int x_8, .int x_9, .int x_10, .int x_11, .long g_12, .int x_13, .int x_14, .int x_15, .ref q_9, .int x_16, .ref q_10, .ref q_11, .int x_17, .ref q_12, .ref q_13, .int x_18, .int x_19, .ref q_14, .ref q_15, .ref q_16, .ref q_17, .int x_20, .long g_21, .long g_22, .int x_23, .int x_24, .int x_25, .int x_26, .ref q_18, .ref q_19, .int x_27, .int x_28, .int x_29, .int x_30, .ref q_20, .ref q_21, .int x_31, .int x_32, .ref q_22, .ref q_23, .ref q_24, .ref q_25, .int x_33, .int x_34, .int x_35])), (q_1, .inl (k 0, 27101, .inl (upd (upd (upd (upd (fun _ => 0) 20 x_0) 21 1) 22 x_2) 23 x_3)))] := hD
            refine lv_aload_n hx hb dX12_child_113 rfl (lv_at hl 1 rfl) ?_
            refine va_get (D := D) (ci := 12) (v := .ref q_1) (C := RX12) (T := TX12) (N := 56) hx hb hts inX12 hown hK hP 0 rfl rfl 2 (by decide) (hts _ kF_X12_7) (fun _ h9 => h9) rfl dX12_child_114 ?_
            refine lv_iload hx hb dX12_child_117 (lv_at hl 0 rfl) ?_
            refine lv_iconst (v := 4) hx hb dX12_child_119 (by decide) ?_
            refine lv_iadd hx hb dX12_child_120 ?_
            refine lv_toc (v := 24) (by decide) ?_
            refine lv_iload hx hb dX12_child_121 (lv_at hl 6 rfl) ?_
            refine va_iast hx hb hK hP hD hS 1 0 rfl rfl (by unfold vp_in; decide) dX12_child_123 (fun H locs hP hD hS => ?_)
            have hP : va_P D vwCl [(q_0, .inr (12, [.int 0, .int x_6, .ref q_1, .ref q_2, .ref q_3, .int x_7, .ref q_4, .ref q_5, .ref q_6, .ref q_7, .ref q_8, .int x_8, .int x_9, .int x_10, .int x_11, .long g_12, .int x_13, .int x_14, .int x_15, .ref q_9, .int x_16, .ref q_10, .ref q_11, .int x_17, .ref q_12, .ref q_13, .int x_18, .int x_19, .ref q_14, .ref q_15, .ref q_16, .ref q_17, .int x_20, .long g_21, .long g_22, .int x_23, .int x_24, .int x_25, .int x_26, .ref q_18, .ref q_19, .int x_27, .int x_28, .int x_29, .int x_30, .ref q_20, .ref q_21, .int x_31, .int x_32, .ref q_22, .ref q_23, .ref q_24, .ref q_25, .int x_33, .int x_34, .int x_35])), (q_1, .inl (k 0, 27101, .inl (upd (upd (upd (upd (upd (fun _ => 0) 20 x_0) 21 1) 22 x_2) 23 x_3) 24 x_4)))] H := hP
            have hD : va_D A [(q_0, .inr (12, [.int 0, .int x_6, .ref q_1, .ref q_2, .ref q_3, .int x_7, .ref q_4, .ref q_5, .ref q_6, .ref q_7, .ref q_8, .int x_8, .int x_9, .int x_10, .int x_11, .long g_12, .int x_13, .int x_14, .int x_15, .ref q_9, .int x_16, .ref q_10, .ref q_11, .int x_17, .ref q_12, .ref q_13, .int x_18, .int x_19, .ref q_14, .ref q_15, .ref q_16, .ref q_17, .int x_20, .long g_21, .long g_22, .int x_23, .int x_24, .int x_25, .int x_26, .ref q_18, .ref q_19, .int x_27, .int x_28, .int x_29, .int x_30, .ref q_20, .ref q_21, .int x_31, .int x_32, .ref q_22, .ref q_23, .ref q_24, .ref q_25, .int x_33, .int x_34, .int x_35])), (q_1, .inl (k 0, 27101, .inl (upd (upd (upd (upd (upd (fun _ => 0) 20 x_0) 21 1) 22 x_2) 23 x_3) 24 x_4)))] := hD
            refine lv_iconst (v := 5) hx hb dX12_child_124 (by decide) ?_
            refine lv_istore (lv' := [(7, .int 5), (6, .int 20), (0, .ref q_0), (1, .int x_0), (2, .int x_1), (3, .int x_2), (4, .int x_3), (5, .int x_4)]) hx hb dX12_child_125 hl (by decide) rfl (fun ls hl => ?_)
            refine lv_iload hx hb dX12_child_127 (lv_at hl 0 rfl) ?_
            refine lv_bipush (v := 17) hx hb dX12_child_129 (by decide) ?_
            refine lv_icmp_ge (tgt := 162) hx hb dX12_child_131 (by decide) (fun c48 => absurd c48 (by decide)) (fun _ => ?_)
            refine lv_aload_n hx hb dX12_child_134 rfl (lv_at hl 2 rfl) ?_
            refine va_get (D := D) (ci := 12) (v := .ref q_1) (C := RX12) (T := TX12) (N := 56) hx hb hts inX12 hown hK hP 0 rfl rfl 2 (by decide) (hts _ kF_X12_7) (fun _ h9 => h9) rfl dX12_child_135 ?_
            refine lv_iload hx hb dX12_child_138 (lv_at hl 1 rfl) ?_
            refine lv_iload hx hb dX12_child_140 (lv_at hl 0 rfl) ?_
            refine lv_iadd hx hb dX12_child_142 ?_
            refine lv_toc (v := 25) (by decide) ?_
            refine lv_iload hx hb dX12_child_143 (lv_at hl 0 rfl) ?_
            refine lv_bipush (v := 13) hx hb dX12_child_145 (by decide) ?_
            refine lv_icmp_ge (tgt := 154) hx hb dX12_child_147 (by decide) (fun c49 => absurd c49 (by decide)) (fun _ => ?_)
            refine lv_iconst (v := (-1)) hx hb dX12_child_150 (by decide) ?_
            refine lv_goto (tgt := 155) hx hb dX12_child_151 (by decide) ?_
            refine va_iast hx hb hK hP hD hS 1 0 rfl rfl (by unfold vp_in; decide) dX12_child_155 (fun H locs hP hD hS => ?_)
            have hP : va_P D vwCl [(q_0, .inr (12, [.int 0, .int x_6, .ref q_1, .ref q_2, .ref q_3, .int x_7, .ref q_4, .ref q_5, .ref q_6, .ref q_7, .ref q_8, .int x_8, .int x_9, .int x_10, .int x_11, .long g_12, .int x_13, .int x_14, .int x_15, .ref q_9, .int x_16, .ref q_10, .ref q_11, .int x_17, .ref q_12, .ref q_13, .int x_18, .int x_19, .ref q_14, .ref q_15, .ref q_16, .ref q_17, .int x_20, .long g_21, .long g_22, .int x_23, .int x_24, .int x_25, .int x_26, .ref q_18, .ref q_19, .int x_27, .int x_28, .int x_29, .int x_30, .ref q_20, .ref q_21, .int x_31, .int x_32, .ref q_22, .ref q_23, .ref q_24, .ref q_25, .int x_33, .int x_34, .int x_35])), (q_1, .inl (k 0, 27101, .inl (upd (upd (upd (upd (upd (upd (fun _ => 0) 20 x_0) 21 1) 22 x_2) 23 x_3) 24 x_4) 25 (-1))))] H := hP
            have hD : va_D A [(q_0, .inr (12, [.int 0, .int x_6, .ref q_1, .ref q_2, .ref q_3, .int x_7, .ref q_4, .ref q_5, .ref q_6, .ref q_7, .ref q_8, .int x_8, .int x_9, .int x_10, .int x_11, .long g_12, .int x_13, .int x_14, .int x_15, .ref q_9, .int x_16, .ref q_10, .ref q_11, .int x_17, .ref q_12, .ref q_13, .int x_18, .int x_19, .ref q_14, .ref q_15, .ref q_16, .ref q_17, .int x_20, .long g_21, .long g_22, .int x_23, .int x_24, .int x_25, .int x_26, .ref q_18, .ref q_19, .int x_27, .int x_28, .int x_29, .int x_30, .ref q_20, .ref q_21, .int x_31, .int x_32, .ref q_22, .ref q_23, .ref q_24, .ref q_25, .int x_33, .int x_34, .int x_35])), (q_1, .inl (k 0, 27101, .inl (upd (upd (upd (upd (upd (upd (fun _ => 0) 20 x_0) 21 1) 22 x_2) 23 x_3) 24 x_4) 25 (-1))))] := hD
            refine lv_iinc (v := 6) (lv' := [(7, .int 6), (6, .int 20), (0, .ref q_0), (1, .int x_0), (2, .int x_1), (3, .int x_2), (4, .int x_3), (5, .int x_4)]) hx hb dX12_child_156 hl (k := 0) rfl (by decide) (by decide) rfl (fun ls hl => ?_)
            refine lv_goto (tgt := 127) hx hb dX12_child_159 (by decide) ?_
            refine lv_iload hx hb dX12_child_127 (lv_at hl 0 rfl) ?_
            refine lv_bipush (v := 17) hx hb dX12_child_129 (by decide) ?_
            refine lv_icmp_ge (tgt := 162) hx hb dX12_child_131 (by decide) (fun c50 => absurd c50 (by decide)) (fun _ => ?_)
            refine lv_aload_n hx hb dX12_child_134 rfl (lv_at hl 2 rfl) ?_
            refine va_get (D := D) (ci := 12) (v := .ref q_1) (C := RX12) (T := TX12) (N := 56) hx hb hts inX12 hown hK hP 0 rfl rfl 2 (by decide) (hts _ kF_X12_7) (fun _ h9 => h9) rfl dX12_child_135 ?_
            refine lv_iload hx hb dX12_child_138 (lv_at hl 1 rfl) ?_
            refine lv_iload hx hb dX12_child_140 (lv_at hl 0 rfl) ?_
            refine lv_iadd hx hb dX12_child_142 ?_
            refine lv_toc (v := 26) (by decide) ?_
            refine lv_iload hx hb dX12_child_143 (lv_at hl 0 rfl) ?_
            refine lv_bipush (v := 13) hx hb dX12_child_145 (by decide) ?_
            refine lv_icmp_ge (tgt := 154) hx hb dX12_child_147 (by decide) (fun c51 => absurd c51 (by decide)) (fun _ => ?_)
            refine lv_iconst (v := (-1)) hx hb dX12_child_150 (by decide) ?_
            refine lv_goto (tgt := 155) hx hb dX12_child_151 (by decide) ?_
            refine va_iast hx hb hK hP hD hS 1 0 rfl rfl (by unfold vp_in; decide) dX12_child_155 (fun H locs hP hD hS => ?_)
            have hP : va_P D vwCl [(q_0, .inr (12, [.int 0, .int x_6, .ref q_1, .ref q_2, .ref q_3, .int x_7, .ref q_4, .ref q_5, .ref q_6, .ref q_7, .ref q_8, .int x_8, .int x_9, .int x_10, .int x_11, .long g_12, .int x_13, .int x_14, .int x_15, .ref q_9, .int x_16, .ref q_10, .ref q_11, .int x_17, .ref q_12, .ref q_13, .int x_18, .int x_19, .ref q_14, .ref q_15, .ref q_16, .ref q_17, .int x_20, .long g_21, .long g_22, .int x_23, .int x_24, .int x_25, .int x_26, .ref q_18, .ref q_19, .int x_27, .int x_28, .int x_29, .int x_30, .ref q_20, .ref q_21, .int x_31, .int x_32, .ref q_22, .ref q_23, .ref q_24, .ref q_25, .int x_33, .int x_34, .int x_35])), (q_1, .inl (k 0, 27101, .inl (upd (upd (upd (upd (upd (upd (upd (fun _ => 0) 20 x_0) 21 1) 22 x_2) 23 x_3) 24 x_4) 25 (-1)) 26 (-1))))] H := hP
            have hD : va_D A [(q_0, .inr (12, [.int 0, .int x_6, .ref q_1, .ref q_2, .ref q_3, .int x_7, .ref q_4, .ref q_5, .ref q_6, .ref q_7, .ref q_8, .int x_8, .int x_9, .int x_10, .int x_11, .long g_12, .int x_13, .int x_14, .int x_15, .ref q_9, .int x_16, .ref q_10, .ref q_11, .int x_17, .ref q_12, .ref q_13, .int x_18, .int x_19, .ref q_14, .ref q_15, .ref q_16, .ref q_17, .int x_20, .long g_21, .long g_22, .int x_23, .int x_24, .int x_25, .int x_26, .ref q_18, .ref q_19, .int x_27, .int x_28, .int x_29, .int x_30, .ref q_20, .ref q_21, .int x_31, .int x_32, .ref q_22, .ref q_23, .ref q_24, .ref q_25, .int x_33, .int x_34, .int x_35])), (q_1, .inl (k 0, 27101, .inl (upd (upd (upd (upd (upd (upd (upd (fun _ => 0) 20 x_0) 21 1) 22 x_2) 23 x_3) 24 x_4) 25 (-1)) 26 (-1))))] := hD
            refine lv_iinc (v := 7) (lv' := [(7, .int 7), (6, .int 20), (0, .ref q_0), (1, .int x_0), (2, .int x_1), (3, .int x_2), (4, .int x_3), (5, .int x_4)]) hx hb dX12_child_156 hl (k := 0) rfl (by decide) (by decide) rfl (fun ls hl => ?_)
            refine lv_goto (tgt := 127) hx hb dX12_child_159 (by decide) ?_
            refine lv_iload hx hb dX12_child_127 (lv_at hl 0 rfl) ?_
            refine lv_bipush (v := 17) hx hb dX12_child_129 (by decide) ?_
            refine lv_icmp_ge (tgt := 162) hx hb dX12_child_131 (by decide) (fun c52 => absurd c52 (by decide)) (fun _ => ?_)
            refine lv_aload_n hx hb dX12_child_134 rfl (lv_at hl 2 rfl) ?_
            refine va_get (D := D) (ci := 12) (v := .ref q_1) (C := RX12) (T := TX12) (N := 56) hx hb hts inX12 hown hK hP 0 rfl rfl 2 (by decide) (hts _ kF_X12_7) (fun _ h9 => h9) rfl dX12_child_135 ?_
            refine lv_iload hx hb dX12_child_138 (lv_at hl 1 rfl) ?_
            refine lv_iload hx hb dX12_child_140 (lv_at hl 0 rfl) ?_
            refine lv_iadd hx hb dX12_child_142 ?_
            refine lv_toc (v := 27) (by decide) ?_
            refine lv_iload hx hb dX12_child_143 (lv_at hl 0 rfl) ?_
            refine lv_bipush (v := 13) hx hb dX12_child_145 (by decide) ?_
            refine lv_icmp_ge (tgt := 154) hx hb dX12_child_147 (by decide) (fun c53 => absurd c53 (by decide)) (fun _ => ?_)
            refine lv_iconst (v := (-1)) hx hb dX12_child_150 (by decide) ?_
            refine lv_goto (tgt := 155) hx hb dX12_child_151 (by decide) ?_
            refine va_iast hx hb hK hP hD hS 1 0 rfl rfl (by unfold vp_in; decide) dX12_child_155 (fun H locs hP hD hS => ?_)
            have hP : va_P D vwCl [(q_0, .inr (12, [.int 0, .int x_6, .ref q_1, .ref q_2, .ref q_3, .int x_7, .ref q_4, .ref q_5, .ref q_6, .ref q_7, .ref q_8, .int x_8, .int x_9, .int x_10, .int x_11, .long g_12, .int x_13, .int x_14, .int x_15, .ref q_9, .int x_16, .ref q_10, .ref q_11, .int x_17, .ref q_12, .ref q_13, .int x_18, .int x_19, .ref q_14, .ref q_15, .ref q_16, .ref q_17, .int x_20, .long g_21, .long g_22, .int x_23, .int x_24, .int x_25, .int x_26, .ref q_18, .ref q_19, .int x_27, .int x_28, .int x_29, .int x_30, .ref q_20, .ref q_21, .int x_31, .int x_32, .ref q_22, .ref q_23, .ref q_24, .ref q_25, .int x_33, .int x_34, .int x_35])), (q_1, .inl (k 0, 27101, .inl (upd (upd (upd (upd (upd (upd (upd (upd (fun _ => 0) 20 x_0) 21 1) 22 x_2) 23 x_3) 24 x_4) 25 (-1)) 26 (-1)) 27 (-1))))] H := hP
            have hD : va_D A [(q_0, .inr (12, [.int 0, .int x_6, .ref q_1, .ref q_2, .ref q_3, .int x_7, .ref q_4, .ref q_5, .ref q_6, .ref q_7, .ref q_8, .int x_8, .int x_9, .int x_10, .int x_11, .long g_12, .int x_13, .int x_14, .int x_15, .ref q_9, .int x_16, .ref q_10, .ref q_11, .int x_17, .ref q_12, .ref q_13, .int x_18, .int x_19, .ref q_14, .ref q_15, .ref q_16, .ref q_17, .int x_20, .long g_21, .long g_22, .int x_23, .int x_24, .int x_25, .int x_26, .ref q_18, .ref q_19, .int x_27, .int x_28, .int x_29, .int x_30, .ref q_20, .ref q_21, .int x_31, .int x_32, .ref q_22, .ref q_23, .ref q_24, .ref q_25, .int x_33, .int x_34, .int x_35])), (q_1, .inl (k 0, 27101, .inl (upd (upd (upd (upd (upd (upd (upd (upd (fun _ => 0) 20 x_0) 21 1) 22 x_2) 23 x_3) 24 x_4) 25 (-1)) 26 (-1)) 27 (-1))))] := hD
            refine lv_iinc (v := 8) (lv' := [(7, .int 8), (6, .int 20), (0, .ref q_0), (1, .int x_0), (2, .int x_1), (3, .int x_2), (4, .int x_3), (5, .int x_4)]) hx hb dX12_child_156 hl (k := 0) rfl (by decide) (by decide) rfl (fun ls hl => ?_)
            refine lv_goto (tgt := 127) hx hb dX12_child_159 (by decide) ?_
            refine lv_iload hx hb dX12_child_127 (lv_at hl 0 rfl) ?_
            refine lv_bipush (v := 17) hx hb dX12_child_129 (by decide) ?_
            refine lv_icmp_ge (tgt := 162) hx hb dX12_child_131 (by decide) (fun c54 => absurd c54 (by decide)) (fun _ => ?_)
            refine lv_aload_n hx hb dX12_child_134 rfl (lv_at hl 2 rfl) ?_
            refine va_get (D := D) (ci := 12) (v := .ref q_1) (C := RX12) (T := TX12) (N := 56) hx hb hts inX12 hown hK hP 0 rfl rfl 2 (by decide) (hts _ kF_X12_7) (fun _ h9 => h9) rfl dX12_child_135 ?_
            refine lv_iload hx hb dX12_child_138 (lv_at hl 1 rfl) ?_
            refine lv_iload hx hb dX12_child_140 (lv_at hl 0 rfl) ?_
            refine lv_iadd hx hb dX12_child_142 ?_
            refine lv_toc (v := 28) (by decide) ?_
            refine lv_iload hx hb dX12_child_143 (lv_at hl 0 rfl) ?_
            refine lv_bipush (v := 13) hx hb dX12_child_145 (by decide) ?_
            refine lv_icmp_ge (tgt := 154) hx hb dX12_child_147 (by decide) (fun c55 => absurd c55 (by decide)) (fun _ => ?_)
            refine lv_iconst (v := (-1)) hx hb dX12_child_150 (by decide) ?_
            refine lv_goto (tgt := 155) hx hb dX12_child_151 (by decide) ?_
            refine va_iast hx hb hK hP hD hS 1 0 rfl rfl (by unfold vp_in; decide) dX12_child_155 (fun H locs hP hD hS => ?_)
            have hP : va_P D vwCl [(q_0, .inr (12, [.int 0, .int x_6, .ref q_1, .ref q_2, .ref q_3, .int x_7, .ref q_4, .ref q_5, .ref q_6, .ref q_7, .ref q_8, .int x_8, .int x_9, .int x_10, .int x_11, .long g_12, .int x_13, .int x_14, .int x_15, .ref q_9, .int x_16, .ref q_10, .ref q_11, .int x_17, .ref q_12, .ref q_13, .int x_18, .int x_19, .ref q_14, .ref q_15, .ref q_16, .ref q_17, .int x_20, .long g_21, .long g_22, .int x_23, .int x_24, .int x_25, .int x_26, .ref q_18, .ref q_19, .int x_27, .int x_28, .int x_29, .int x_30, .ref q_20, .ref q_21, .int x_31, .int x_32, .ref q_22, .ref q_23, .ref q_24, .ref q_25, .int x_33, .int x_34, .int x_35])), (q_1, .inl (k 0, 27101, .inl (upd (upd (upd (upd (upd (upd (upd (upd (upd (fun _ => 0) 20 x_0) 21 1) 22 x_2) 23 x_3) 24 x_4) 25 (-1)) 26 (-1)) 27 (-1)) 28 (-1))))] H := hP
            have hD : va_D A [(q_0, .inr (12, [.int 0, .int x_6, .ref q_1, .ref q_2, .ref q_3, .int x_7, .ref q_4, .ref q_5, .ref q_6, .ref q_7, .ref q_8, .int x_8, .int x_9, .int x_10, .int x_11, .long g_12, .int x_13, .int x_14, .int x_15, .ref q_9, .int x_16, .ref q_10, .ref q_11, .int x_17, .ref q_12, .ref q_13, .int x_18, .int x_19, .ref q_14, .ref q_15, .ref q_16, .ref q_17, .int x_20, .long g_21, .long g_22, .int x_23, .int x_24, .int x_25, .int x_26, .ref q_18, .ref q_19, .int x_27, .int x_28, .int x_29, .int x_30, .ref q_20, .ref q_21, .int x_31, .int x_32, .ref q_22, .ref q_23, .ref q_24, .ref q_25, .int x_33, .int x_34, .int x_35])), (q_1, .inl (k 0, 27101, .inl (upd (upd (upd (upd (upd (upd (upd (upd (upd (fun _ => 0) 20 x_0) 21 1) 22 x_2) 23 x_3) 24 x_4) 25 (-1)) 26 (-1)) 27 (-1)) 28 (-1))))] := hD
            refine lv_iinc (v := 9) (lv' := [(7, .int 9), (6, .int 20), (0, .ref q_0), (1, .int x_0), (2, .int x_1), (3, .int x_2), (4, .int x_3), (5, .int x_4)]) hx hb dX12_child_156 hl (k := 0) rfl (by decide) (by decide) rfl (fun ls hl => ?_)
            refine lv_goto (tgt := 127) hx hb dX12_child_159 (by decide) ?_
            refine lv_iload hx hb dX12_child_127 (lv_at hl 0 rfl) ?_
            refine lv_bipush (v := 17) hx hb dX12_child_129 (by decide) ?_
            refine lv_icmp_ge (tgt := 162) hx hb dX12_child_131 (by decide) (fun c56 => absurd c56 (by decide)) (fun _ => ?_)
            refine lv_aload_n hx hb dX12_child_134 rfl (lv_at hl 2 rfl) ?_
            refine va_get (D := D) (ci := 12) (v := .ref q_1) (C := RX12) (T := TX12) (N := 56) hx hb hts inX12 hown hK hP 0 rfl rfl 2 (by decide) (hts _ kF_X12_7) (fun _ h9 => h9) rfl dX12_child_135 ?_
            refine lv_iload hx hb dX12_child_138 (lv_at hl 1 rfl) ?_
            refine lv_iload hx hb dX12_child_140 (lv_at hl 0 rfl) ?_
            refine lv_iadd hx hb dX12_child_142 ?_
            refine lv_toc (v := 29) (by decide) ?_
            refine lv_iload hx hb dX12_child_143 (lv_at hl 0 rfl) ?_
            refine lv_bipush (v := 13) hx hb dX12_child_145 (by decide) ?_
            refine lv_icmp_ge (tgt := 154) hx hb dX12_child_147 (by decide) (fun c57 => absurd c57 (by decide)) (fun _ => ?_)
            refine lv_iconst (v := (-1)) hx hb dX12_child_150 (by decide) ?_
            refine lv_goto (tgt := 155) hx hb dX12_child_151 (by decide) ?_
            refine va_iast hx hb hK hP hD hS 1 0 rfl rfl (by unfold vp_in; decide) dX12_child_155 (fun H locs hP hD hS => ?_)
            have hP : va_P D vwCl [(q_0, .inr (12, [.int 0, .int x_6, .ref q_1, .ref q_2, .ref q_3, .int x_7, .ref q_4, .ref q_5, .ref q_6, .ref q_7, .ref q_8, .int x_8, .int x_9, .int x_10, .int x_11, .long g_12, .int x_13, .int x_14, .int x_15, .ref q_9, .int x_16, .ref q_10, .ref q_11, .int x_17, .ref q_12, .ref q_13, .int x_18, .int x_19, .ref q_14, .ref q_15, .ref q_16, .ref q_17, .int x_20, .long g_21, .long g_22, .int x_23, .int x_24, .int x_25, .int x_26, .ref q_18, .ref q_19, .int x_27, .int x_28, .int x_29, .int x_30, .ref q_20, .ref q_21, .int x_31, .int x_32, .ref q_22, .ref q_23, .ref q_24, .ref q_25, .int x_33, .int x_34, .int x_35])), (q_1, .inl (k 0, 27101, .inl (upd (upd (upd (upd (upd (upd (upd (upd (upd (upd (fun _ => 0) 20 x_0) 21 1) 22 x_2) 23 x_3) 24 x_4) 25 (-1)) 26 (-1)) 27 (-1)) 28 (-1)) 29 (-1))))] H := hP
            have hD : va_D A [(q_0, .inr (12, [.int 0, .int x_6, .ref q_1, .ref q_2, .ref q_3, .int x_7, .ref q_4, .ref q_5, .ref q_6, .ref q_7, .ref q_8, .int x_8, .int x_9, .int x_10, .int x_11, .long g_12, .int x_13, .int x_14, .int x_15, .ref q_9, .int x_16, .ref q_10, .ref q_11, .int x_17, .ref q_12, .ref q_13, .int x_18, .int x_19, .ref q_14, .ref q_15, .ref q_16, .ref q_17, .int x_20, .long g_21, .long g_22, .int x_23, .int x_24, .int x_25, .int x_26, .ref q_18, .ref q_19, .int x_27, .int x_28, .int x_29, .int x_30, .ref q_20, .ref q_21, .int x_31, .int x_32, .ref q_22, .ref q_23, .ref q_24, .ref q_25, .int x_33, .int x_34, .int x_35])), (q_1, .inl (k 0, 27101, .inl (upd (upd (upd (upd (upd (upd (upd (upd (upd (upd (fun _ => 0) 20 x_0) 21 1) 22 x_2) 23 x_3) 24 x_4) 25 (-1)) 26 (-1)) 27 (-1)) 28 (-1)) 29 (-1))))] := hD
            refine lv_iinc (v := 10) (lv' := [(7, .int 10), (6, .int 20), (0, .ref q_0), (1, .int x_0), (2, .int x_1), (3, .int x_2), (4, .int x_3), (5, .int x_4)]) hx hb dX12_child_156 hl (k := 0) rfl (by decide) (by decide) rfl (fun ls hl => ?_)
            refine lv_goto (tgt := 127) hx hb dX12_child_159 (by decide) ?_
            refine lv_iload hx hb dX12_child_127 (lv_at hl 0 rfl) ?_
            refine lv_bipush (v := 17) hx hb dX12_child_129 (by decide) ?_
            refine lv_icmp_ge (tgt := 162) hx hb dX12_child_131 (by decide) (fun c58 => absurd c58 (by decide)) (fun _ => ?_)
            refine lv_aload_n hx hb dX12_child_134 rfl (lv_at hl 2 rfl) ?_
            refine va_get (D := D) (ci := 12) (v := .ref q_1) (C := RX12) (T := TX12) (N := 56) hx hb hts inX12 hown hK hP 0 rfl rfl 2 (by decide) (hts _ kF_X12_7) (fun _ h9 => h9) rfl dX12_child_135 ?_
            refine lv_iload hx hb dX12_child_138 (lv_at hl 1 rfl) ?_
            refine lv_iload hx hb dX12_child_140 (lv_at hl 0 rfl) ?_
            refine lv_iadd hx hb dX12_child_142 ?_
            refine lv_toc (v := 30) (by decide) ?_
            refine lv_iload hx hb dX12_child_143 (lv_at hl 0 rfl) ?_
            refine lv_bipush (v := 13) hx hb dX12_child_145 (by decide) ?_
            refine lv_icmp_ge (tgt := 154) hx hb dX12_child_147 (by decide) (fun c59 => absurd c59 (by decide)) (fun _ => ?_)
            refine lv_iconst (v := (-1)) hx hb dX12_child_150 (by decide) ?_
            refine lv_goto (tgt := 155) hx hb dX12_child_151 (by decide) ?_
            refine va_iast hx hb hK hP hD hS 1 0 rfl rfl (by unfold vp_in; decide) dX12_child_155 (fun H locs hP hD hS => ?_)
            have hP : va_P D vwCl [(q_0, .inr (12, [.int 0, .int x_6, .ref q_1, .ref q_2, .ref q_3, .int x_7, .ref q_4, .ref q_5, .ref q_6, .ref q_7, .ref q_8, .int x_8, .int x_9, .int x_10, .int x_11, .long g_12, .int x_13, .int x_14, .int x_15, .ref q_9, .int x_16, .ref q_10, .ref q_11, .int x_17, .ref q_12, .ref q_13, .int x_18, .int x_19, .ref q_14, .ref q_15, .ref q_16, .ref q_17, .int x_20, .long g_21, .long g_22, .int x_23, .int x_24, .int x_25, .int x_26, .ref q_18, .ref q_19, .int x_27, .int x_28, .int x_29, .int x_30, .ref q_20, .ref q_21, .int x_31, .int x_32, .ref q_22, .ref q_23, .ref q_24, .ref q_25, .int x_33, .int x_34, .int x_35])), (q_1, .inl (k 0, 27101, .inl (upd (upd (upd (upd (upd (upd (upd (upd (upd (upd (upd (fun _ => 0) 20 x_0) 21 1) 22 x_2) 23 x_3) 24 x_4) 25 (-1)) 26 (-1)) 27 (-1)) 28 (-1)) 29 (-1)) 30 (-1))))] H := hP
            have hD : va_D A [(q_0, .inr (12, [.int 0, .int x_6, .ref q_1, .ref q_2, .ref q_3, .int x_7, .ref q_4, .ref q_5, .ref q_6, .ref q_7, .ref q_8, .int x_8, .int x_9, .int x_10, .int x_11, .long g_12, .int x_13, .int x_14, .int x_15, .ref q_9, .int x_16, .ref q_10, .ref q_11, .int x_17, .ref q_12, .ref q_13, .int x_18, .int x_19, .ref q_14, .ref q_15, .ref q_16, .ref q_17, .int x_20, .long g_21, .long g_22, .int x_23, .int x_24, .int x_25, .int x_26, .ref q_18, .ref q_19, .int x_27, .int x_28, .int x_29, .int x_30, .ref q_20, .ref q_21, .int x_31, .int x_32, .ref q_22, .ref q_23, .ref q_24, .ref q_25, .int x_33, .int x_34, .int x_35])), (q_1, .inl (k 0, 27101, .inl (upd (upd (upd (upd (upd (upd (upd (upd (upd (upd (upd (fun _ => 0) 20 x_0) 21 1) 22 x_2) 23 x_3) 24 x_4) 25 (-1)) 26 (-1)) 27 (-1)) 28 (-1)) 29 (-1)) 30 (-1))))] := hD
            refine lv_iinc (v := 11) (lv' := [(7, .int 11), (6, .int 20), (0, .ref q_0), (1, .int x_0), (2, .int x_1), (3, .int x_2), (4, .int x_3), (5, .int x_4)]) hx hb dX12_child_156 hl (k := 0) rfl (by decide) (by decide) rfl (fun ls hl => ?_)
            refine lv_goto (tgt := 127) hx hb dX12_child_159 (by decide) ?_
            refine lv_iload hx hb dX12_child_127 (lv_at hl 0 rfl) ?_
            refine lv_bipush (v := 17) hx hb dX12_child_129 (by decide) ?_
            refine lv_icmp_ge (tgt := 162) hx hb dX12_child_131 (by decide) (fun c60 => absurd c60 (by decide)) (fun _ => ?_)
            refine lv_aload_n hx hb dX12_child_134 rfl (lv_at hl 2 rfl) ?_
            refine va_get (D := D) (ci := 12) (v := .ref q_1) (C := RX12) (T := TX12) (N := 56) hx hb hts inX12 hown hK hP 0 rfl rfl 2 (by decide) (hts _ kF_X12_7) (fun _ h9 => h9) rfl dX12_child_135 ?_
            refine lv_iload hx hb dX12_child_138 (lv_at hl 1 rfl) ?_
            refine lv_iload hx hb dX12_child_140 (lv_at hl 0 rfl) ?_
            refine lv_iadd hx hb dX12_child_142 ?_
            refine lv_toc (v := 31) (by decide) ?_
            refine lv_iload hx hb dX12_child_143 (lv_at hl 0 rfl) ?_
            refine lv_bipush (v := 13) hx hb dX12_child_145 (by decide) ?_
            refine lv_icmp_ge (tgt := 154) hx hb dX12_child_147 (by decide) (fun c61 => absurd c61 (by decide)) (fun _ => ?_)
            refine lv_iconst (v := (-1)) hx hb dX12_child_150 (by decide) ?_
            refine lv_goto (tgt := 155) hx hb dX12_child_151 (by decide) ?_
            refine va_iast hx hb hK hP hD hS 1 0 rfl rfl (by unfold vp_in; decide) dX12_child_155 (fun H locs hP hD hS => ?_)
            have hP : va_P D vwCl [(q_0, .inr (12, [.int 0, .int x_6, .ref q_1, .ref q_2, .ref q_3, .int x_7, .ref q_4, .ref q_5, .ref q_6, .ref q_7, .ref q_8, .int x_8, .int x_9, .int x_10, .int x_11, .long g_12, .int x_13, .int x_14, .int x_15, .ref q_9, .int x_16, .ref q_10, .ref q_11, .int x_17, .ref q_12, .ref q_13, .int x_18, .int x_19, .ref q_14, .ref q_15, .ref q_16, .ref q_17, .int x_20, .long g_21, .long g_22, .int x_23, .int x_24, .int x_25, .int x_26, .ref q_18, .ref q_19, .int x_27, .int x_28, .int x_29, .int x_30, .ref q_20, .ref q_21, .int x_31, .int x_32, .ref q_22, .ref q_23, .ref q_24, .ref q_25, .int x_33, .int x_34, .int x_35])), (q_1, .inl (k 0, 27101, .inl (upd (upd (upd (upd (upd (upd (upd (upd (upd (upd (upd (upd (fun _ => 0) 20 x_0) 21 1) 22 x_2) 23 x_3) 24 x_4) 25 (-1)) 26 (-1)) 27 (-1)) 28 (-1)) 29 (-1)) 30 (-1)) 31 (-1))))] H := hP
            have hD : va_D A [(q_0, .inr (12, [.int 0, .int x_6, .ref q_1, .ref q_2, .ref q_3, .int x_7, .ref q_4, .ref q_5, .ref q_6, .ref q_7, .ref q_8, .int x_8, .int x_9, .int x_10, .int x_11, .long g_12, .int x_13, .int x_14, .int x_15, .ref q_9, .int x_16, .ref q_10, .ref q_11, .int x_17, .ref q_12, .ref q_13, .int x_18, .int x_19, .ref q_14, .ref q_15, .ref q_16, .ref q_17, .int x_20, .long g_21, .long g_22, .int x_23, .int x_24, .int x_25, .int x_26, .ref q_18, .ref q_19, .int x_27, .int x_28, .int x_29, .int x_30, .ref q_20, .ref q_21, .int x_31, .int x_32, .ref q_22, .ref q_23, .ref q_24, .ref q_25, .int x_33, .int x_34, .int x_35])), (q_1, .inl (k 0, 27101, .inl (upd (upd (upd (upd (upd (upd (upd (upd (upd (upd (upd (upd (fun _ => 0) 20 x_0) 21 1) 22 x_2) 23 x_3) 24 x_4) 25 (-1)) 26 (-1)) 27 (-1)) 28 (-1)) 29 (-1)) 30 (-1)) 31 (-1))))] := hD
            refine lv_iinc (v := 12) (lv' := [(7, .int 12), (6, .int 20), (0, .ref q_0), (1, .int x_0), (2, .int x_1), (3, .int x_2), (4, .int x_3), (5, .int x_4)]) hx hb dX12_child_156 hl (k := 0) rfl (by decide) (by decide) rfl (fun ls hl => ?_)
            refine lv_goto (tgt := 127) hx hb dX12_child_159 (by decide) ?_
            refine lv_iload hx hb dX12_child_127 (lv_at hl 0 rfl) ?_
            refine lv_bipush (v := 17) hx hb dX12_child_129 (by decide) ?_
            refine lv_icmp_ge (tgt := 162) hx hb dX12_child_131 (by decide) (fun c62 => absurd c62 (by decide)) (fun _ => ?_)
            refine lv_aload_n hx hb dX12_child_134 rfl (lv_at hl 2 rfl) ?_
            refine va_get (D := D) (ci := 12) (v := .ref q_1) (C := RX12) (T := TX12) (N := 56) hx hb hts inX12 hown hK hP 0 rfl rfl 2 (by decide) (hts _ kF_X12_7) (fun _ h9 => h9) rfl dX12_child_135 ?_
            refine lv_iload hx hb dX12_child_138 (lv_at hl 1 rfl) ?_
            refine lv_iload hx hb dX12_child_140 (lv_at hl 0 rfl) ?_
            refine lv_iadd hx hb dX12_child_142 ?_
            refine lv_toc (v := 32) (by decide) ?_
            refine lv_iload hx hb dX12_child_143 (lv_at hl 0 rfl) ?_
            refine lv_bipush (v := 13) hx hb dX12_child_145 (by decide) ?_
            refine lv_icmp_ge (tgt := 154) hx hb dX12_child_147 (by decide) (fun c63 => absurd c63 (by decide)) (fun _ => ?_)
            refine lv_iconst (v := (-1)) hx hb dX12_child_150 (by decide) ?_
            refine lv_goto (tgt := 155) hx hb dX12_child_151 (by decide) ?_
            refine va_iast hx hb hK hP hD hS 1 0 rfl rfl (by unfold vp_in; decide) dX12_child_155 (fun H locs hP hD hS => ?_)
            have hP : va_P D vwCl [(q_0, .inr (12, [.int 0, .int x_6, .ref q_1, .ref q_2, .ref q_3, .int x_7, .ref q_4, .ref q_5, .ref q_6, .ref q_7, .ref q_8, .int x_8, .int x_9, .int x_10, .int x_11, .long g_12, .int x_13, .int x_14, .int x_15, .ref q_9, .int x_16, .ref q_10, .ref q_11, .int x_17, .ref q_12, .ref q_13, .int x_18, .int x_19, .ref q_14, .ref q_15, .ref q_16, .ref q_17, .int x_20, .long g_21, .long g_22, .int x_23, .int x_24, .int x_25, .int x_26, .ref q_18, .ref q_19, .int x_27, .int x_28, .int x_29, .int x_30, .ref q_20, .ref q_21, .int x_31, .int x_32, .ref q_22, .ref q_23, .ref q_24, .ref q_25, .int x_33, .int x_34, .int x_35])), (q_1, .inl (k 0, 27101, .inl (upd (upd (upd (upd (upd (upd (upd (upd (upd (upd (upd (upd (upd (fun _ => 0) 20 x_0) 21 1) 22 x_2) 23 x_3) 24 x_4) 25 (-1)) 26 (-1)) 27 (-1)) 28 (-1)) 29 (-1)) 30 (-1)) 31 (-1)) 32 (-1))))] H := hP
            have hD : va_D A [(q_0, .inr (12, [.int 0, .int x_6, .ref q_1, .ref q_2, .ref q_3, .int x_7, .ref q_4, .ref q_5, .ref q_6, .ref q_7, .ref q_8, .int x_8, .int x_9, .int x_10, .int x_11, .long g_12, .int x_13, .int x_14, .int x_15, .ref q_9, .int x_16, .ref q_10, .ref q_11, .int x_17, .ref q_12, .ref q_13, .int x_18, .int x_19, .ref q_14, .ref q_15, .ref q_16, .ref q_17, .int x_20, .long g_21, .long g_22, .int x_23, .int x_24, .int x_25, .int x_26, .ref q_18, .ref q_19, .int x_27, .int x_28, .int x_29, .int x_30, .ref q_20, .ref q_21, .int x_31, .int x_32, .ref q_22, .ref q_23, .ref q_24, .ref q_25, .int x_33, .int x_34, .int x_35])), (q_1, .inl (k 0, 27101, .inl (upd (upd (upd (upd (upd (upd (upd (upd (upd (upd (upd (upd (upd (fun _ => 0) 20 x_0) 21 1) 22 x_2) 23 x_3) 24 x_4) 25 (-1)) 26 (-1)) 27 (-1)) 28 (-1)) 29 (-1)) 30 (-1)) 31 (-1)) 32 (-1))))] := hD
            refine lv_iinc (v := 13) (lv' := [(7, .int 13), (6, .int 20), (0, .ref q_0), (1, .int x_0), (2, .int x_1), (3, .int x_2), (4, .int x_3), (5, .int x_4)]) hx hb dX12_child_156 hl (k := 0) rfl (by decide) (by decide) rfl (fun ls hl => ?_)
            refine lv_goto (tgt := 127) hx hb dX12_child_159 (by decide) ?_
            refine lv_iload hx hb dX12_child_127 (lv_at hl 0 rfl) ?_
            refine lv_bipush (v := 17) hx hb dX12_child_129 (by decide) ?_
            refine lv_icmp_ge (tgt := 162) hx hb dX12_child_131 (by decide) (fun c64 => absurd c64 (by decide)) (fun _ => ?_)
            refine lv_aload_n hx hb dX12_child_134 rfl (lv_at hl 2 rfl) ?_
            refine va_get (D := D) (ci := 12) (v := .ref q_1) (C := RX12) (T := TX12) (N := 56) hx hb hts inX12 hown hK hP 0 rfl rfl 2 (by decide) (hts _ kF_X12_7) (fun _ h9 => h9) rfl dX12_child_135 ?_
            refine lv_iload hx hb dX12_child_138 (lv_at hl 1 rfl) ?_
            refine lv_iload hx hb dX12_child_140 (lv_at hl 0 rfl) ?_
            refine lv_iadd hx hb dX12_child_142 ?_
            refine lv_toc (v := 33) (by decide) ?_
            refine lv_iload hx hb dX12_child_143 (lv_at hl 0 rfl) ?_
            refine lv_bipush (v := 13) hx hb dX12_child_145 (by decide) ?_
            refine lv_icmp_ge (tgt := 154) hx hb dX12_child_147 (by decide) (fun _ => ?_) (fun c65 => absurd (by decide) c65)
            refine lv_iconst (v := 0) hx hb dX12_child_154 (by decide) ?_
            refine va_iast hx hb hK hP hD hS 1 0 rfl rfl (by unfold vp_in; decide) dX12_child_155 (fun H locs hP hD hS => ?_)
            have hP : va_P D vwCl [(q_0, .inr (12, [.int 0, .int x_6, .ref q_1, .ref q_2, .ref q_3, .int x_7, .ref q_4, .ref q_5, .ref q_6, .ref q_7, .ref q_8, .int x_8, .int x_9, .int x_10, .int x_11, .long g_12, .int x_13, .int x_14, .int x_15, .ref q_9, .int x_16, .ref q_10, .ref q_11, .int x_17, .ref q_12, .ref q_13, .int x_18, .int x_19, .ref q_14, .ref q_15, .ref q_16, .ref q_17, .int x_20, .long g_21, .long g_22, .int x_23, .int x_24, .int x_25, .int x_26, .ref q_18, .ref q_19, .int x_27, .int x_28, .int x_29, .int x_30, .ref q_20, .ref q_21, .int x_31, .int x_32, .ref q_22, .ref q_23, .ref q_24, .ref q_25, .int x_33, .int x_34, .int x_35])), (q_1, .inl (k 0, 27101, .inl (upd (upd (upd (upd (upd (upd (upd (upd (upd (upd (upd (upd (upd (upd (fun _ => 0) 20 x_0) 21 1) 22 x_2) 23 x_3) 24 x_4) 25 (-1)) 26 (-1)) 27 (-1)) 28 (-1)) 29 (-1)) 30 (-1)) 31 (-1)) 32 (-1)) 33 0)))] H := hP
            have hD : va_D A [(q_0, .inr (12, [.int 0, .int x_6, .ref q_1, .ref q_2, .ref q_3, .int x_7, .ref q_4, .ref q_5, .ref q_6, .ref q_7, .ref q_8, .int x_8, .int x_9, .int x_10, .int x_11, .long g_12, .int x_13, .int x_14, .int x_15, .ref q_9, .int x_16, .ref q_10, .ref q_11, .int x_17, .ref q_12, .ref q_13, .int x_18, .int x_19, .ref q_14, .ref q_15, .ref q_16, .ref q_17, .int x_20, .long g_21, .long g_22, .int x_23, .int x_24, .int x_25, .int x_26, .ref q_18, .ref q_19, .int x_27, .int x_28, .int x_29, .int x_30, .ref q_20, .ref q_21, .int x_31, .int x_32, .ref q_22, .ref q_23, .ref q_24, .ref q_25, .int x_33, .int x_34, .int x_35])), (q_1, .inl (k 0, 27101, .inl (upd (upd (upd (upd (upd (upd (upd (upd (upd (upd (upd (upd (upd (upd (fun _ => 0) 20 x_0) 21 1) 22 x_2) 23 x_3) 24 x_4) 25 (-1)) 26 (-1)) 27 (-1)) 28 (-1)) 29 (-1)) 30 (-1)) 31 (-1)) 32 (-1)) 33 0)))] := hD
            refine lv_iinc (v := 14) (lv' := [(7, .int 14), (6, .int 20), (0, .ref q_0), (1, .int x_0), (2, .int x_1), (3, .int x_2), (4, .int x_3), (5, .int x_4)]) hx hb dX12_child_156 hl (k := 0) rfl (by decide) (by decide) rfl (fun ls hl => ?_)
            refine lv_goto (tgt := 127) hx hb dX12_child_159 (by decide) ?_
            refine lv_iload hx hb dX12_child_127 (lv_at hl 0 rfl) ?_
            refine lv_bipush (v := 17) hx hb dX12_child_129 (by decide) ?_
            refine lv_icmp_ge (tgt := 162) hx hb dX12_child_131 (by decide) (fun c66 => absurd c66 (by decide)) (fun _ => ?_)
            refine lv_aload_n hx hb dX12_child_134 rfl (lv_at hl 2 rfl) ?_
            refine va_get (D := D) (ci := 12) (v := .ref q_1) (C := RX12) (T := TX12) (N := 56) hx hb hts inX12 hown hK hP 0 rfl rfl 2 (by decide) (hts _ kF_X12_7) (fun _ h9 => h9) rfl dX12_child_135 ?_
            refine lv_iload hx hb dX12_child_138 (lv_at hl 1 rfl) ?_
            refine lv_iload hx hb dX12_child_140 (lv_at hl 0 rfl) ?_
            refine lv_iadd hx hb dX12_child_142 ?_
            refine lv_toc (v := 34) (by decide) ?_
            refine lv_iload hx hb dX12_child_143 (lv_at hl 0 rfl) ?_
            refine lv_bipush (v := 13) hx hb dX12_child_145 (by decide) ?_
            refine lv_icmp_ge (tgt := 154) hx hb dX12_child_147 (by decide) (fun _ => ?_) (fun c67 => absurd (by decide) c67)
            refine lv_iconst (v := 0) hx hb dX12_child_154 (by decide) ?_
            refine va_iast hx hb hK hP hD hS 1 0 rfl rfl (by unfold vp_in; decide) dX12_child_155 (fun H locs hP hD hS => ?_)
            have hP : va_P D vwCl [(q_0, .inr (12, [.int 0, .int x_6, .ref q_1, .ref q_2, .ref q_3, .int x_7, .ref q_4, .ref q_5, .ref q_6, .ref q_7, .ref q_8, .int x_8, .int x_9, .int x_10, .int x_11, .long g_12, .int x_13, .int x_14, .int x_15, .ref q_9, .int x_16, .ref q_10, .ref q_11, .int x_17, .ref q_12, .ref q_13, .int x_18, .int x_19, .ref q_14, .ref q_15, .ref q_16, .ref q_17, .int x_20, .long g_21, .long g_22, .int x_23, .int x_24, .int x_25, .int x_26, .ref q_18, .ref q_19, .int x_27, .int x_28, .int x_29, .int x_30, .ref q_20, .ref q_21, .int x_31, .int x_32, .ref q_22, .ref q_23, .ref q_24, .ref q_25, .int x_33, .int x_34, .int x_35])), (q_1, .inl (k 0, 27101, .inl (upd (upd (upd (upd (upd (upd (upd (upd (upd (upd (upd (upd (upd (upd (upd (fun _ => 0) 20 x_0) 21 1) 22 x_2) 23 x_3) 24 x_4) 25 (-1)) 26 (-1)) 27 (-1)) 28 (-1)) 29 (-1)) 30 (-1)) 31 (-1)) 32 (-1)) 33 0) 34 0)))] H := hP
            have hD : va_D A [(q_0, .inr (12, [.int 0, .int x_6, .ref q_1, .ref q_2, .ref q_3, .int x_7, .ref q_4, .ref q_5, .ref q_6, .ref q_7, .ref q_8, .int x_8, .int x_9, .int x_10, .int x_11, .long g_12, .int x_13, .int x_14, .int x_15, .ref q_9, .int x_16, .ref q_10, .ref q_11, .int x_17, .ref q_12, .ref q_13, .int x_18, .int x_19, .ref q_14, .ref q_15, .ref q_16, .ref q_17, .int x_20, .long g_21, .long g_22, .int x_23, .int x_24, .int x_25, .int x_26, .ref q_18, .ref q_19, .int x_27, .int x_28, .int x_29, .int x_30, .ref q_20, .ref q_21, .int x_31, .int x_32, .ref q_22, .ref q_23, .ref q_24, .ref q_25, .int x_33, .int x_34, .int x_35])), (q_1, .inl (k 0, 27101, .inl (upd (upd (upd (upd (upd (upd (upd (upd (upd (upd (upd (upd (upd (upd (upd (fun _ => 0) 20 x_0) 21 1) 22 x_2) 23 x_3) 24 x_4) 25 (-1)) 26 (-1)) 27 (-1)) 28 (-1)) 29 (-1)) 30 (-1)) 31 (-1)) 32 (-1)) 33 0) 34 0)))] := hD
            refine lv_iinc (v := 15) (lv' := [(7, .int 15), (6, .int 20), (0, .ref q_0), (1, .int x_0), (2, .int x_1), (3, .int x_2), (4, .int x_3), (5, .int x_4)]) hx hb dX12_child_156 hl (k := 0) rfl (by decide) (by decide) rfl (fun ls hl => ?_)
            refine lv_goto (tgt := 127) hx hb dX12_child_159 (by decide) ?_
            refine lv_iload hx hb dX12_child_127 (lv_at hl 0 rfl) ?_
            refine lv_bipush (v := 17) hx hb dX12_child_129 (by decide) ?_
            refine lv_icmp_ge (tgt := 162) hx hb dX12_child_131 (by decide) (fun c68 => absurd c68 (by decide)) (fun _ => ?_)
            refine lv_aload_n hx hb dX12_child_134 rfl (lv_at hl 2 rfl) ?_
            refine va_get (D := D) (ci := 12) (v := .ref q_1) (C := RX12) (T := TX12) (N := 56) hx hb hts inX12 hown hK hP 0 rfl rfl 2 (by decide) (hts _ kF_X12_7) (fun _ h9 => h9) rfl dX12_child_135 ?_
            refine lv_iload hx hb dX12_child_138 (lv_at hl 1 rfl) ?_
            refine lv_iload hx hb dX12_child_140 (lv_at hl 0 rfl) ?_
            refine lv_iadd hx hb dX12_child_142 ?_
            refine lv_toc (v := 35) (by decide) ?_
            refine lv_iload hx hb dX12_child_143 (lv_at hl 0 rfl) ?_
            refine lv_bipush (v := 13) hx hb dX12_child_145 (by decide) ?_
            refine lv_icmp_ge (tgt := 154) hx hb dX12_child_147 (by decide) (fun _ => ?_) (fun c69 => absurd (by decide) c69)
            refine lv_iconst (v := 0) hx hb dX12_child_154 (by decide) ?_
            refine va_iast hx hb hK hP hD hS 1 0 rfl rfl (by unfold vp_in; decide) dX12_child_155 (fun H locs hP hD hS => ?_)
            have hP : va_P D vwCl [(q_0, .inr (12, [.int 0, .int x_6, .ref q_1, .ref q_2, .ref q_3, .int x_7, .ref q_4, .ref q_5, .ref q_6, .ref q_7, .ref q_8, .int x_8, .int x_9, .int x_10, .int x_11, .long g_12, .int x_13, .int x_14, .int x_15, .ref q_9, .int x_16, .ref q_10, .ref q_11, .int x_17, .ref q_12, .ref q_13, .int x_18, .int x_19, .ref q_14, .ref q_15, .ref q_16, .ref q_17, .int x_20, .long g_21, .long g_22, .int x_23, .int x_24, .int x_25, .int x_26, .ref q_18, .ref q_19, .int x_27, .int x_28, .int x_29, .int x_30, .ref q_20, .ref q_21, .int x_31, .int x_32, .ref q_22, .ref q_23, .ref q_24, .ref q_25, .int x_33, .int x_34, .int x_35])), (q_1, .inl (k 0, 27101, .inl (upd (upd (upd (upd (upd (upd (upd (upd (upd (upd (upd (upd (upd (upd (upd (upd (fun _ => 0) 20 x_0) 21 1) 22 x_2) 23 x_3) 24 x_4) 25 (-1)) 26 (-1)) 27 (-1)) 28 (-1)) 29 (-1)) 30 (-1)) 31 (-1)) 32 (-1)) 33 0) 34 0) 35 0)))] H := hP
            have hD : va_D A [(q_0, .inr (12, [.int 0, .int x_6, .ref q_1, .ref q_2, .ref q_3, .int x_7, .ref q_4, .ref q_5, .ref q_6, .ref q_7, .ref q_8, .int x_8, .int x_9, .int x_10, .int x_11, .long g_12, .int x_13, .int x_14, .int x_15, .ref q_9, .int x_16, .ref q_10, .ref q_11, .int x_17, .ref q_12, .ref q_13, .int x_18, .int x_19, .ref q_14, .ref q_15, .ref q_16, .ref q_17, .int x_20, .long g_21, .long g_22, .int x_23, .int x_24, .int x_25, .int x_26, .ref q_18, .ref q_19, .int x_27, .int x_28, .int x_29, .int x_30, .ref q_20, .ref q_21, .int x_31, .int x_32, .ref q_22, .ref q_23, .ref q_24, .ref q_25, .int x_33, .int x_34, .int x_35])), (q_1, .inl (k 0, 27101, .inl (upd (upd (upd (upd (upd (upd (upd (upd (upd (upd (upd (upd (upd (upd (upd (upd (fun _ => 0) 20 x_0) 21 1) 22 x_2) 23 x_3) 24 x_4) 25 (-1)) 26 (-1)) 27 (-1)) 28 (-1)) 29 (-1)) 30 (-1)) 31 (-1)) 32 (-1)) 33 0) 34 0) 35 0)))] := hD
            refine lv_iinc (v := 16) (lv' := [(7, .int 16), (6, .int 20), (0, .ref q_0), (1, .int x_0), (2, .int x_1), (3, .int x_2), (4, .int x_3), (5, .int x_4)]) hx hb dX12_child_156 hl (k := 0) rfl (by decide) (by decide) rfl (fun ls hl => ?_)
            refine lv_goto (tgt := 127) hx hb dX12_child_159 (by decide) ?_
            refine lv_iload hx hb dX12_child_127 (lv_at hl 0 rfl) ?_
            refine lv_bipush (v := 17) hx hb dX12_child_129 (by decide) ?_
            refine lv_icmp_ge (tgt := 162) hx hb dX12_child_131 (by decide) (fun c70 => absurd c70 (by decide)) (fun _ => ?_)
            refine lv_aload_n hx hb dX12_child_134 rfl (lv_at hl 2 rfl) ?_
            refine va_get (D := D) (ci := 12) (v := .ref q_1) (C := RX12) (T := TX12) (N := 56) hx hb hts inX12 hown hK hP 0 rfl rfl 2 (by decide) (hts _ kF_X12_7) (fun _ h9 => h9) rfl dX12_child_135 ?_
            refine lv_iload hx hb dX12_child_138 (lv_at hl 1 rfl) ?_
            refine lv_iload hx hb dX12_child_140 (lv_at hl 0 rfl) ?_
            refine lv_iadd hx hb dX12_child_142 ?_
            refine lv_toc (v := 36) (by decide) ?_
            refine lv_iload hx hb dX12_child_143 (lv_at hl 0 rfl) ?_
            refine lv_bipush (v := 13) hx hb dX12_child_145 (by decide) ?_
            refine lv_icmp_ge (tgt := 154) hx hb dX12_child_147 (by decide) (fun _ => ?_) (fun c71 => absurd (by decide) c71)
            refine lv_iconst (v := 0) hx hb dX12_child_154 (by decide) ?_
            refine va_iast hx hb hK hP hD hS 1 0 rfl rfl (by unfold vp_in; decide) dX12_child_155 (fun H locs hP hD hS => ?_)
            have hP : va_P D vwCl [(q_0, .inr (12, [.int 0, .int x_6, .ref q_1, .ref q_2, .ref q_3, .int x_7, .ref q_4, .ref q_5, .ref q_6, .ref q_7, .ref q_8, .int x_8, .int x_9, .int x_10, .int x_11, .long g_12, .int x_13, .int x_14, .int x_15, .ref q_9, .int x_16, .ref q_10, .ref q_11, .int x_17, .ref q_12, .ref q_13, .int x_18, .int x_19, .ref q_14, .ref q_15, .ref q_16, .ref q_17, .int x_20, .long g_21, .long g_22, .int x_23, .int x_24, .int x_25, .int x_26, .ref q_18, .ref q_19, .int x_27, .int x_28, .int x_29, .int x_30, .ref q_20, .ref q_21, .int x_31, .int x_32, .ref q_22, .ref q_23, .ref q_24, .ref q_25, .int x_33, .int x_34, .int x_35])), (q_1, .inl (k 0, 27101, .inl (upd (upd (upd (upd (upd (upd (upd (upd (upd (upd (upd (upd (upd (upd (upd (upd (upd (fun _ => 0) 20 x_0) 21 1) 22 x_2) 23 x_3) 24 x_4) 25 (-1)) 26 (-1)) 27 (-1)) 28 (-1)) 29 (-1)) 30 (-1)) 31 (-1)) 32 (-1)) 33 0) 34 0) 35 0) 36 0)))] H := hP
            have hD : va_D A [(q_0, .inr (12, [.int 0, .int x_6, .ref q_1, .ref q_2, .ref q_3, .int x_7, .ref q_4, .ref q_5, .ref q_6, .ref q_7, .ref q_8, .int x_8, .int x_9, .int x_10, .int x_11, .long g_12, .int x_13, .int x_14, .int x_15, .ref q_9, .int x_16, .ref q_10, .ref q_11, .int x_17, .ref q_12, .ref q_13, .int x_18, .int x_19, .ref q_14, .ref q_15, .ref q_16, .ref q_17, .int x_20, .long g_21, .long g_22, .int x_23, .int x_24, .int x_25, .int x_26, .ref q_18, .ref q_19, .int x_27, .int x_28, .int x_29, .int x_30, .ref q_20, .ref q_21, .int x_31, .int x_32, .ref q_22, .ref q_23, .ref q_24, .ref q_25, .int x_33, .int x_34, .int x_35])), (q_1, .inl (k 0, 27101, .inl (upd (upd (upd (upd (upd (upd (upd (upd (upd (upd (upd (upd (upd (upd (upd (upd (upd (fun _ => 0) 20 x_0) 21 1) 22 x_2) 23 x_3) 24 x_4) 25 (-1)) 26 (-1)) 27 (-1)) 28 (-1)) 29 (-1)) 30 (-1)) 31 (-1)) 32 (-1)) 33 0) 34 0) 35 0) 36 0)))] := hD
            refine lv_iinc (v := 17) (lv' := [(7, .int 17), (6, .int 20), (0, .ref q_0), (1, .int x_0), (2, .int x_1), (3, .int x_2), (4, .int x_3), (5, .int x_4)]) hx hb dX12_child_156 hl (k := 0) rfl (by decide) (by decide) rfl (fun ls hl => ?_)
            refine lv_goto (tgt := 127) hx hb dX12_child_159 (by decide) ?_
            refine lv_iload hx hb dX12_child_127 (lv_at hl 0 rfl) ?_
            refine lv_bipush (v := 17) hx hb dX12_child_129 (by decide) ?_
            refine lv_icmp_ge (tgt := 162) hx hb dX12_child_131 (by decide) (fun _ => ?_) (fun c72 => absurd (by decide) c72)
            refine lv_aload_n hx hb dX12_child_162 rfl (lv_at hl 2 rfl) ?_
            refine va_get (D := D) (ci := 12) (v := .ref q_1) (C := RX12) (T := TX12) (N := 56) hx hb hts inX12 hown hK hP 0 rfl rfl 2 (by decide) (hts _ kF_X12_7) (fun _ h9 => h9) rfl dX12_child_163 ?_
            refine lv_iconst (v := 0) hx hb dX12_child_166 (by decide) ?_
            refine lv_dup2_11 hx hb dX12_child_167 rfl rfl ?_
            refine va_iald hx hb hK hP 1 0 rfl rfl (by unfold vp_in; decide) dX12_child_168 ?_
            refine lv_toc (v := 0) rfl ?_
            refine lv_iconst (v := 1) hx hb dX12_child_169 (by decide) ?_
            refine lv_iadd hx hb dX12_child_170 ?_
            refine lv_toc (v := 1) (by decide) ?_
            refine va_iast hx hb hK hP hD hS 1 0 rfl rfl (by unfold vp_in; decide) dX12_child_171 (fun H locs hP hD hS => ?_)
            have hP : va_P D vwCl [(q_0, .inr (12, [.int 0, .int x_6, .ref q_1, .ref q_2, .ref q_3, .int x_7, .ref q_4, .ref q_5, .ref q_6, .ref q_7, .ref q_8, .int x_8, .int x_9, .int x_10, .int x_11, .long g_12, .int x_13, .int x_14, .int x_15, .ref q_9, .int x_16, .ref q_10, .ref q_11, .int x_17, .ref q_12, .ref q_13, .int x_18, .int x_19, .ref q_14, .ref q_15, .ref q_16, .ref q_17, .int x_20, .long g_21, .long g_22, .int x_23, .int x_24, .int x_25, .int x_26, .ref q_18, .ref q_19, .int x_27, .int x_28, .int x_29, .int x_30, .ref q_20, .ref q_21, .int x_31, .int x_32, .ref q_22, .ref q_23, .ref q_24, .ref q_25, .int x_33, .int x_34, .int x_35])), (q_1, .inl (k 0, 27101, .inl (upd (upd (upd (upd (upd (upd (upd (upd (upd (upd (upd (upd (upd (upd (upd (upd (upd (upd (fun _ => 0) 20 x_0) 21 1) 22 x_2) 23 x_3) 24 x_4) 25 (-1)) 26 (-1)) 27 (-1)) 28 (-1)) 29 (-1)) 30 (-1)) 31 (-1)) 32 (-1)) 33 0) 34 0) 35 0) 36 0) 0 1)))] H := hP
            have hD : va_D A [(q_0, .inr (12, [.int 0, .int x_6, .ref q_1, .ref q_2, .ref q_3, .int x_7, .ref q_4, .ref q_5, .ref q_6, .ref q_7, .ref q_8, .int x_8, .int x_9, .int x_10, .int x_11, .long g_12, .int x_13, .int x_14, .int x_15, .ref q_9, .int x_16, .ref q_10, .ref q_11, .int x_17, .ref q_12, .ref q_13, .int x_18, .int x_19, .ref q_14, .ref q_15, .ref q_16, .ref q_17, .int x_20, .long g_21, .long g_22, .int x_23, .int x_24, .int x_25, .int x_26, .ref q_18, .ref q_19, .int x_27, .int x_28, .int x_29, .int x_30, .ref q_20, .ref q_21, .int x_31, .int x_32, .ref q_22, .ref q_23, .ref q_24, .ref q_25, .int x_33, .int x_34, .int x_35])), (q_1, .inl (k 0, 27101, .inl (upd (upd (upd (upd (upd (upd (upd (upd (upd (upd (upd (upd (upd (upd (upd (upd (upd (upd (fun _ => 0) 20 x_0) 21 1) 22 x_2) 23 x_3) 24 x_4) 25 (-1)) 26 (-1)) 27 (-1)) 28 (-1)) 29 (-1)) 30 (-1)) 31 (-1)) 32 (-1)) 33 0) 34 0) 35 0) 36 0) 0 1)))] := hD
            refine lv_aload_n hx hb dX12_child_172 rfl (lv_at hl 2 rfl) ?_
            refine lv_aload_n hx hb dX12_child_173 rfl (lv_at hl 2 rfl) ?_
            refine va_get (D := D) (ci := 12) (v := .ref q_1) (C := RX12) (T := TX12) (N := 56) hx hb hts inX12 hown hK hP 0 rfl rfl 2 (by decide) (hts _ kF_X12_7) (fun _ h9 => h9) rfl dX12_child_174 ?_
            refine lv_iconst (v := 0) hx hb dX12_child_177 (by decide) ?_
            refine va_iald hx hb hK hP 1 0 rfl rfl (by unfold vp_in; decide) dX12_child_178 ?_
            refine lv_toc (v := 1) rfl ?_
            refine lv_iconst (v := 1) hx hb dX12_child_179 (by decide) ?_
            refine lv_isub hx hb dX12_child_180 ?_
            refine lv_toc (v := 0) (by decide) ?_
            refine z_bi (wr := [(q_1, .inl (k 0, 27101, .inl (upd (upd (upd (upd (upd (upd (upd (upd (upd (upd (upd (upd (upd (upd (upd (upd (upd (upd (fun _ => 0) 20 x_0) 21 1) 22 x_2) 23 x_3) 24 x_4) 25 (-1)) 26 (-1)) 27 (-1)) 28 (-1)) 29 (-1)) 30 (-1)) 31 (-1)) 32 (-1)) 33 0) 34 0) 35 0) 36 0) 0 1)))]) (z_runV (C := RX12) (As := [.int 0]) (rest := []) C0 (c_X12_told_2 l D k q_0 q_1 q_2 q_3 q_4 q_5 q_6 q_7 q_8 q_9 q_10 q_11 q_12 q_13 q_14 q_15 q_16 q_17 q_18 q_19 q_20 q_21 q_22 q_23 q_24 q_25 0 x_6 x_7 x_8 x_9 x_10 x_11 g_12 x_13 x_14 x_15 x_16 x_17 x_18 x_19 x_20 g_21 g_22 x_23 x_24 x_25 x_26 x_27 x_28 x_29 x_30 x_31 x_32 x_33 x_34 x_35 _) okV_X12_told kM_X12_106 rfl (z_pV (q0 := 0) hK hN hP hD [0] rfl rfl rfl rfl rfl) rfl hl.1 rfl (Nat.le_of_ble_eq_true rfl) dX12_child_181 rfl) hP hD hS hA [0] [1] rfl rfl rfl rfl (fun r73 u73 H locs hw73 hP hD hS => ?_)
            obtain ⟨i73, a73⟩ := u73
            dsimp only at hw73
            obtain ⟨rfl, rfl⟩ := hw73
            have hP : va_P D vwCl [(q_1, .inl (k 0, 27101, .inl (upd (upd (upd (upd (upd (upd (upd (upd (upd (upd (upd (upd (upd (upd (upd (upd (upd (upd (fun _ => 0) 20 x_0) 21 1) 22 x_2) 23 x_3) 24 x_4) 25 (-1)) 26 (-1)) 27 (-1)) 28 (-1)) 29 (-1)) 30 (-1)) 31 (-1)) 32 (-1)) 33 0) 34 0) 35 0) 36 0) 0 1))), (q_0, .inr (12, [.int 0, .int 0, .ref q_1, .ref q_2, .ref q_3, .int x_7, .ref q_4, .ref q_5, .ref q_6, .ref q_7, .ref q_8, .int x_8, .int x_9, .int x_10, .int x_11, .long g_12, .int x_13, .int x_14, .int x_15, .ref q_9, .int x_16, .ref q_10, .ref q_11, .int x_17, .ref q_12, .ref q_13, .int x_18, .int x_19, .ref q_14, .ref q_15, .ref q_16, .ref q_17, .int x_20, .long g_21, .long g_22, .int x_23, .int x_24, .int x_25, .int x_26, .ref q_18, .ref q_19, .int x_27, .int x_28, .int x_29, .int x_30, .ref q_20, .ref q_21, .int x_31, .int x_32, .ref q_22, .ref q_23, .ref q_24, .ref q_25, .int x_33, .int x_34, .int x_35]))] H := hP
            have hD : va_D A [(q_1, .inl (k 0, 27101, .inl (upd (upd (upd (upd (upd (upd (upd (upd (upd (upd (upd (upd (upd (upd (upd (upd (upd (upd (fun _ => 0) 20 x_0) 21 1) 22 x_2) 23 x_3) 24 x_4) 25 (-1)) 26 (-1)) 27 (-1)) 28 (-1)) 29 (-1)) 30 (-1)) 31 (-1)) 32 (-1)) 33 0) 34 0) 35 0) 36 0) 0 1))), (q_0, .inr (12, [.int 0, .int 0, .ref q_1, .ref q_2, .ref q_3, .int x_7, .ref q_4, .ref q_5, .ref q_6, .ref q_7, .ref q_8, .int x_8, .int x_9, .int x_10, .int x_11, .long g_12, .int x_13, .int x_14, .int x_15, .ref q_9, .int x_16, .ref q_10, .ref q_11, .int x_17, .ref q_12, .ref q_13, .int x_18, .int x_19, .ref q_14, .ref q_15, .ref q_16, .ref q_17, .int x_20, .long g_21, .long g_22, .int x_23, .int x_24, .int x_25, .int x_26, .ref q_18, .ref q_19, .int x_27, .int x_28, .int x_29, .int x_30, .ref q_20, .ref q_21, .int x_31, .int x_32, .ref q_22, .ref q_23, .ref q_24, .ref q_25, .int x_33, .int x_34, .int x_35]))] := hD
            exact z_iret C0 hr hlk rfl hK hP hD hS (1, fun _ => 0) (Or.inr (⟨rfl, rfl, (Or.inr (⟨c1, c5, c9, c13, c19⟩))⟩)) [] rfl rfl rfl dX12_child_184
