set_option maxHeartbeats 4000000 in
set_option maxRecDepth 100000 in
theorem s_X6_isNoChild_1 (l : Launch) (D : va_G) (k : Nat → ClassId) (T : zTy) (q_0 : Nat) (q_1 : Nat) (q_2 : Nat) (q_3 : Nat) (q_4 : Nat) (q_5 : Nat) (q_6 : Nat) (q_7 : Nat) (q_8 : Nat) (q_9 : Nat) (q_10 : Nat) (q_11 : Nat) (q_12 : Nat) (x_0 : Int32) (x_1 : Int32) (x_2 : Int32) (x_3 : Int32) (h_x_1 : 0 ≤ Int32.toInt x_1 ∧ Int32.toInt x_1 ≤ 40) (h_x_2 : 0 ≤ Int32.toInt x_2 ∧ Int32.toInt x_2 ≤ 5) (h_x_3 : 0 ≤ Int32.toInt x_3 ∧ Int32.toInt x_3 ≤ 60) : zMi l yX6_isNoChild cX6_isNoChild 2 (some .boolean) ({ frames := 0, cells := 0, slots := 0, locals := 0 }) D k T [.ref q_0, .int x_0] [(q_0, .inr (6, [.int x_1, .ref q_1, .ref q_2, .ref q_3, .ref q_4, .ref q_5, .int x_2, .ref q_6, .int x_3, .ref q_7, .ref q_8, .ref q_9, .ref q_10, .ref q_11, .ref q_12]))] (fun r u => (u.1 = 0 ∧ r = 1 ∧ ((x_0 < 0) ∨ (¬ x_0 < 0 ∧ ¬ x_0 < x_1))) ∨ (u.1 = 1 ∧ r = 0 ∧ (0 ≤ Int32.toInt x_0 ∧ Int32.toInt x_0 ≤ 39) ∧ ((¬ x_0 < 0 ∧ x_0 < x_1)))) (fun u => [(q_0, .inr (6, [.int x_1, .ref q_1, .ref q_2, .ref q_3, .ref q_4, .ref q_5, .int x_2, .ref q_6, .int x_3, .ref q_7, .ref q_8, .ref q_9, .ref q_10, .ref q_11, .ref q_12]))]) := by
  refine zMi_of (own := RX6) (by decide +kernel) rfl (Nat.le_of_ble_eq_true rfl) ?_
  intro p e s m args below meth c A ls C0 hr hlk hin hP hD hS hA hK hN hT hl
  have hx := C0.1
  have hb := C0.2.1
  have hml := C0.2.2.1
  have hown := C0.2.2.2.1
  have hts := C0.2.2.2.2
  have hl : lv_has ls 2 [(0, .ref q_0), (1, .int x_0)] := hl
  have hP : va_P D vwCl [(q_0, .inr (6, [.int x_1, .ref q_1, .ref q_2, .ref q_3, .ref q_4, .ref q_5, .int x_2, .ref q_6, .int x_3, .ref q_7, .ref q_8, .ref q_9, .ref q_10, .ref q_11, .ref q_12]))] s.heap := hP
  refine lv_iload_n hx hb dX6_isNoChild_0 rfl (lv_at hl 1 rfl) ?_
  refine lv_if_lt (tgt := 12) hx hb dX6_isNoChild_1 (by decide) (fun c1 => ?_) (fun c1 => ?_)
  · refine lv_iconst (v := 1) hx hb dX6_isNoChild_12 (by decide) ?_
    refine lv_goto (tgt := 17) hx hb dX6_isNoChild_13 (by decide) ?_
    exact z_iret C0 hr hlk rfl hK hP hD hS (0, fun _ => 0, fun _ => 0, fun _ => 0, fun _ => (fun _ => 0), fun _ => (fun _ => 0), fun _ => (fun _ => none)) (Or.inl ⟨rfl, rfl, (Or.inl c1)⟩) [0] rfl rfl rfl dX6_isNoChild_17
  · refine lv_iload_n hx hb dX6_isNoChild_4 rfl (lv_at hl 1 rfl) ?_
    refine lv_aload_n hx hb dX6_isNoChild_5 rfl (lv_at hl 0 rfl) ?_
    refine va_get (D := D) (ci := 6) (v := .int x_1) (C := RX6) (T := TX6) (N := 15) hx hb hts inX6 hown hK hP 0 rfl rfl 0 (by decide) (hts _ kF_X6_48) (fun _ h9 => h9) rfl dX6_isNoChild_6 ?_
    refine lv_icmp_lt (tgt := 16) hx hb dX6_isNoChild_9 (by decide) (fun c2 => ?_) (fun c2 => ?_)
    · refine lv_iconst (v := 0) hx hb dX6_isNoChild_16 (by decide) ?_
      exact z_iret C0 hr hlk rfl hK hP hD hS (1, fun _ => 0, fun _ => 0, fun _ => 0, fun _ => (fun _ => 0), fun _ => (fun _ => 0), fun _ => (fun _ => none)) (Or.inr (⟨rfl, rfl, (show 0 ≤ Int32.toInt x_0 ∧ Int32.toInt x_0 ≤ 39 from (by revert c1 c2 h_x_1; first | (simp only [vp_in_iff, Int32.lt_iff_toInt_lt, Int32.le_iff_toInt_le, Int64.lt_iff_toInt_lt, Int64.le_iff_toInt_le, Int32.toInt_toInt64, ← Int32.toInt_inj, ← Int64.toInt_inj, Int32.reduceToInt, Int64.reduceToInt] <;> omega) | omega)), ⟨c1, c2⟩⟩)) [0] rfl rfl rfl dX6_isNoChild_17
    · refine lv_iconst (v := 1) hx hb dX6_isNoChild_12 (by decide) ?_
      refine lv_goto (tgt := 17) hx hb dX6_isNoChild_13 (by decide) ?_
      exact z_iret C0 hr hlk rfl hK hP hD hS (0, fun _ => 0, fun _ => 0, fun _ => 0, fun _ => (fun _ => 0), fun _ => (fun _ => 0), fun _ => (fun _ => none)) (Or.inl ⟨rfl, rfl, (Or.inr (⟨c1, c2⟩))⟩) [0] rfl rfl rfl dX6_isNoChild_17

