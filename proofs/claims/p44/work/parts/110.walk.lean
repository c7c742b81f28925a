set_option maxHeartbeats 4000000 in
set_option maxRecDepth 100000 in
theorem s_X2_worthOf_1 (l : Launch) (D : va_G) (k : Nat → ClassId) (q_0 : Nat) (q_1 : Nat) (q_2 : Nat) (q_3 : Nat) (q_4 : Nat) (q_5 : Nat) (q_6 : Nat) (q_7 : Nat) (q_8 : Nat) (q_9 : Nat) (q_10 : Nat) (q_11 : Nat) (q_12 : Nat) (q_13 : Nat) (q_14 : Nat) (q_15 : Nat) (q_16 : Nat) (q_17 : Nat) (q_18 : Nat) (x_0 : Int32) (x_1 : Int32) (x_2 : Int32) (x_3 : Int32) (x_4 : Int32) (x_5 : Int32) (x_6 : Int32) (x_7 : Int32) (x_8 : Int32) (x_9 : Int32) (f_10 : Nat → Int32) (h_x_1 : 0 ≤ Int32.toInt x_1 ∧ Int32.toInt x_1 ≤ 6) (h_x_6 : 0 ≤ Int32.toInt x_6 ∧ Int32.toInt x_6 ≤ 6) (h_x_7 : 0 ≤ Int32.toInt x_7 ∧ Int32.toInt x_7 ≤ 6) (h_x_8 : 0 ≤ Int32.toInt x_8 ∧ Int32.toInt x_8 ≤ 9) (h_x_9 : 0 ≤ Int32.toInt x_9 ∧ Int32.toInt x_9 ≤ 12) : zMi l yX2_worthOf cX2_worthOf 4 (some .int) ({ frames := 0, cells := 0, slots := 0, locals := 0 }) D k [.ref q_0, .int x_0] [(q_0, .inr (2, [.ref q_3, .ref q_1, .ref q_4, .int x_1, .int x_2, .ref q_5, .ref q_6, .ref q_7, .int x_3, .int x_4, .int x_5, .ref q_8, .ref q_9, .ref q_10])), (q_1, .inr (4, [.int x_6, .ref q_11, .int x_7, .ref q_12, .ref q_13, .int x_8, .ref q_14, .ref q_15, .ref q_2, .int x_9, .ref q_16, .ref q_17, .ref q_18])), (q_2, .inl (k 0, 9, .inl f_10))] (fun r u => u.1 = 0) (fun u => [(q_0, .inr (2, [.ref q_3, .ref q_1, .ref q_4, .int x_1, .int x_2, .ref q_5, .ref q_6, .ref q_7, .int x_3, .int x_4, .int x_5, .ref q_8, .ref q_9, .ref q_10])), (q_1, .inr (4, [.int x_6, .ref q_11, .int x_7, .ref q_12, .ref q_13, .int x_8, .ref q_14, .ref q_15, .ref q_2, .int x_9, .ref q_16, .ref q_17, .ref q_18])), (q_2, .inl (k 0, 9, .inl f_10))]) := by
  refine zMi_of (own := RX2) (by decide +kernel) rfl (Nat.le_of_ble_eq_true rfl) ?_
  intro p e s m args below meth c A ls C0 hr hlk hin hP hD hS hA hK hN hl
  have hx := C0.1
  have hb := C0.2.1
  have hml := C0.2.2.1
  have hown := C0.2.2.2.1
  have hts := C0.2.2.2.2
  have hl : lv_has ls 4 [(0, .ref q_0), (1, .int x_0)] := hl
  have hP : va_P D vwCl [(q_0, .inr (2, [.ref q_3, .ref q_1, .ref q_4, .int x_1, .int x_2, .ref q_5, .ref q_6, .ref q_7, .int x_3, .int x_4, .int x_5, .ref q_8, .ref q_9, .ref q_10])), (q_1, .inr (4, [.int x_6, .ref q_11, .int x_7, .ref q_12, .ref q_13, .int x_8, .ref q_14, .ref q_15, .ref q_2, .int x_9, .ref q_16, .ref q_17, .ref q_18])), (q_2, .inl (k 0, 9, .inl f_10))] s.heap := hP
  refine lv_iconst (v := 0) hx hb dX2_worthOf_0 (by decide) ?_
  refine lv_istore_n (lv' := [(2, .int 0), (0, .ref q_0), (1, .int x_0)]) hx hb dX2_worthOf_1 rfl hl (by decide) rfl (fun ls hl => ?_)
  refine lv_iconst (v := 0) hx hb dX2_worthOf_2 (by decide) ?_
  refine lv_istore_n (lv' := [(3, .int 0), (2, .int 0), (0, .ref q_0), (1, .int x_0)]) hx hb dX2_worthOf_3 rfl hl (by decide) rfl (fun ls hl => ?_)
  have loop13 : ∀ (N14 : Nat) (y11 : Int32) (y12 : Int32) (H : Heap) (locs : List Loc) (ls : Array Slot), Int.toNat (9 - Int32.toInt y11) < N14 → 0 ≤ Int32.toInt y11 ∧ Int32.toInt y11 ≤ 9 → va_P D vwCl [(q_0, .inr (2, [.ref q_3, .ref q_1, .ref q_4, .int x_1, .int x_2, .ref q_5, .ref q_6, .ref q_7, .int x_3, .int x_4, .int x_5, .ref q_8, .ref q_9, .ref q_10])), (q_1, .inr (4, [.int x_6, .ref q_11, .int x_7, .ref q_12, .ref q_13, .int x_8, .ref q_14, .ref q_15, .ref q_2, .int x_9, .ref q_16, .ref q_17, .ref q_18])), (q_2, .inl (k 0, 9, .inl f_10))] H → va_D A [(q_0, .inr (2, [.ref q_3, .ref q_1, .ref q_4, .int x_1, .int x_2, .ref q_5, .ref q_6, .ref q_7, .int x_3, .int x_4, .int x_5, .ref q_8, .ref q_9, .ref q_10])), (q_1, .inr (4, [.int x_6, .ref q_11, .int x_7, .ref q_12, .ref q_13, .int x_8, .ref q_14, .ref q_15, .ref q_2, .int x_9, .ref q_16, .ref q_17, .ref q_18])), (q_2, .inl (k 0, 9, .inl f_10))] → va_S A s.heap H locs → lv_has ls 4 [(3, .int y11), (2, .int y12), (0, .ref q_0), (1, .int x_0)] → W p l e { frames := 0, cells := 0, slots := 0, locals := 0 } s m args below meth c H locs 0 0 (MQ below (va_Qi (fun (r : Int32) (u : zS) => u.1 = 0) (zB D k A (fun (u : zS) => [(q_0, .inr (2, [.ref q_3, .ref q_1, .ref q_4, .int x_1, .int x_2, .ref q_5, .ref q_6, .ref q_7, .int x_3, .int x_4, .int x_5, .ref q_8, .ref q_9, .ref q_10])), (q_1, .inr (4, [.int x_6, .ref q_11, .int x_7, .ref q_12, .ref q_13, .int x_8, .ref q_14, .ref q_15, .ref q_2, .int x_9, .ref q_16, .ref q_17, .ref q_18])), (q_2, .inl (k 0, 9, .inl f_10))])) A) args s 0 0 A) (F0 m 4 ls []) := by
    intro N14
    induction N14 with
    | zero => intro y11 y12 H locs ls hm; exact absurd hm (Nat.not_lt_zero _)
    | succ N14 ihN14 =>
      intro y11 y12 H locs ls hN14 hy11 hP hD hS hl
      refine lv_iload_n hx hb dX2_worthOf_4 rfl (lv_at hl 0 rfl) ?_
      refine lv_aload_n hx hb dX2_worthOf_5 rfl (lv_at hl 2 rfl) ?_
      refine va_get (D := D) (ci := 2) (v := .ref q_1) (C := RX2) (T := TX2) (N := 14) hx hb hts inX2 hown hK hP 0 rfl rfl 1 (by decide) (hts _ kF_X2_48) (fun _ h9 => h9) rfl dX2_worthOf_6 ?_
      refine va_get (D := D) (ci := 4) (v := .int x_8) (C := RX4) (T := TX4) (N := 13) hx hb hts inX4 hown hK hP 1 rfl rfl 5 (by decide) (hts _ kF_X2_97) (fun _ h9 => h9) rfl dX2_worthOf_9 ?_
      refine lv_icmp_ge (tgt := 39) hx hb dX2_worthOf_12 (by decide) (fun c15 => ?_) (fun c15 => ?_)
      · refine lv_iload_n hx hb dX2_worthOf_39 rfl (lv_at hl 1 rfl) ?_
        exact z_iret C0 hr hlk rfl hK hP hD hS (0, fun _ => 0, fun _ => 0, fun _ => 0, fun _ => (fun _ => 0), fun _ => (fun _ => 0), fun _ => (fun _ => none)) rfl [0, 1, 2] rfl rfl rfl dX2_worthOf_40
      · refine lv_iload_n hx hb dX2_worthOf_15 rfl (lv_at hl 1 rfl) ?_
        refine lv_iload_n hx hb dX2_worthOf_16 rfl (lv_at hl 3 rfl) ?_
        refine lv_iload_n hx hb dX2_worthOf_17 rfl (lv_at hl 0 rfl) ?_
        refine lv_ishr hx hb dX2_worthOf_18 ?_
        refine lv_topi (fun y16 ey16 => ?_)
        refine lv_iconst (v := 1) hx hb dX2_worthOf_19 (by decide) ?_
        refine lv_iand hx hb dX2_worthOf_20 ?_
        refine lv_topi (fun y17 ey17 => ?_)
        have hy17 : 0 ≤ Int32.toInt y17 ∧ Int32.toInt y17 ≤ 1 := by rw [ey17]; exact zo_and _ (by decide)
        refine lv_aload_n hx hb dX2_worthOf_21 rfl (lv_at hl 2 rfl) ?_
        refine va_get (D := D) (ci := 2) (v := .ref q_1) (C := RX2) (T := TX2) (N := 14) hx hb hts inX2 hown hK hP 0 rfl rfl 1 (by decide) (hts _ kF_X2_48) (fun _ h9 => h9) rfl dX2_worthOf_22 ?_
        refine va_get (D := D) (ci := 4) (v := .ref q_2) (C := RX4) (T := TX4) (N := 13) hx hb hts inX4 hown hK hP 1 rfl rfl 8 (by decide) (hts _ kF_X2_133) (fun _ h9 => h9) rfl dX2_worthOf_25 ?_
        refine lv_iload_n hx hb dX2_worthOf_28 rfl (lv_at hl 0 rfl) ?_
        refine va_iald hx hb hK hP 2 0 rfl rfl (by revert hN14 hy11 c15 h_x_8; simp only [vp_in_iff, Int32.lt_iff_toInt_lt, Int32.le_iff_toInt_le, Int64.lt_iff_toInt_lt, Int64.le_iff_toInt_le, Int32.toInt_toInt64, ← Int32.toInt_inj, ← Int64.toInt_inj, Int32.reduceToInt, Int64.reduceToInt] <;> omega) dX2_worthOf_29 ?_
        refine lv_topi (fun y18 ey18 => ?_)
        refine lv_imul hx hb dX2_worthOf_30 ?_
        refine lv_iadd hx hb dX2_worthOf_31 ?_
        refine lv_istore_n (lv' := [(2, .int (y12 + (y17 * y18))), (3, .int y11), (0, .ref q_0), (1, .int x_0)]) hx hb dX2_worthOf_32 rfl hl (by decide) rfl (fun ls hl => ?_)
        have e19 : Int32.toInt (y11 + 1) = Int32.toInt y11 + Int32.toInt (1 : Int32) := zi_add (by revert hN14 hy11 c15 h_x_8; simp only [vp_in_iff, Int32.lt_iff_toInt_lt, Int32.le_iff_toInt_le, Int64.lt_iff_toInt_lt, Int64.le_iff_toInt_le, Int32.toInt_toInt64, ← Int32.toInt_inj, ← Int64.toInt_inj, Int32.reduceToInt, Int64.reduceToInt] <;> omega)
        refine lv_iinc (v := (y11 + 1)) (lv' := [(3, .int (y11 + 1)), (2, .int (y12 + (y17 * y18))), (0, .ref q_0), (1, .int x_0)]) hx hb dX2_worthOf_33 hl (k := 1) rfl rfl (by decide) rfl (fun ls hl => ?_)
        refine lv_goto (tgt := 4) hx hb dX2_worthOf_36 (by decide) ?_
        exact ihN14 (y11 + 1) (y12 + (y17 * y18)) _ _ ls (by revert hN14 hy11 c15 e19 h_x_8; simp only [vp_in_iff, Int32.lt_iff_toInt_lt, Int32.le_iff_toInt_le, Int64.lt_iff_toInt_lt, Int64.le_iff_toInt_le, Int32.toInt_toInt64, ← Int32.toInt_inj, ← Int64.toInt_inj, Int32.reduceToInt, Int64.reduceToInt] <;> omega) (by revert hN14 hy11 c15 e19 h_x_8; simp only [vp_in_iff, Int32.lt_iff_toInt_lt, Int32.le_iff_toInt_le, Int64.lt_iff_toInt_lt, Int64.le_iff_toInt_le, Int32.toInt_toInt64, ← Int32.toInt_inj, ← Int64.toInt_inj, Int32.reduceToInt, Int64.reduceToInt] <;> omega) hP hD hS (lv_sub hl [0, 1, 2, 3] rfl)
  exact loop13 _ 0 0 _ _ _ (Nat.lt_succ_self _) (by simp only [vp_in_iff, Int32.lt_iff_toInt_lt, Int32.le_iff_toInt_le, Int64.lt_iff_toInt_lt, Int64.le_iff_toInt_le, Int32.toInt_toInt64, ← Int32.toInt_inj, ← Int64.toInt_inj, Int32.reduceToInt, Int64.reduceToInt] <;> omega) hP hD hS (lv_sub hl [0, 1, 2, 3] rfl)

set_option maxHeartbeats 4000000 in
set_option maxRecDepth 100000 in
theorem s_X2_fewestMinutes_2 (l : Launch) (D : va_G) (k : Nat → ClassId) (q_0 : Nat) (q_1 : Nat) (q_2 : Nat) (q_3 : Nat) (q_4 : Nat) (q_5 : Nat) (q_6 : Nat) (q_7 : Nat) (q_8 : Nat) (q_9 : Nat) (q_10 : Nat) (q_11 : Nat) (q_12 : Nat) (q_13 : Nat) (q_14 : Nat) (q_15 : Nat) (q_16 : Nat) (q_17 : Nat) (q_18 : Nat) (x_0 : Int32) (x_1 : Int32) (x_2 : Int32) (x_3 : Int32) (x_4 : Int32) (x_5 : Int32) (x_6 : Int32) (x_7 : Int32) (x_8 : Int32) (x_9 : Int32) (f_10 : Nat → Int32) (f_11 : Nat → Int32) (f_12 : Nat → Int32) (f_13 : Nat → Int32) (h_x_0 : 1 ≤ Int32.toInt x_0 ∧ Int32.toInt x_0 ≤ 2) (h_x_1 : 0 ≤ Int32.toInt x_1 ∧ Int32.toInt x_1 ≤ 6) (h_x_3 : 0 ≤ Int32.toInt x_3 ∧ Int32.toInt x_3 ≤ 1) (h_x_4 : 0 ≤ Int32.toInt x_4 ∧ Int32.toInt x_4 ≤ 2147483647) (h_x_5 : (-2147483648) ≤ Int32.toInt x_5 ∧ Int32.toInt x_5 ≤ 1000000) (h_x_6 : 0 ≤ Int32.toInt x_6 ∧ Int32.toInt x_6 ≤ 6) (h_x_7 : 0 ≤ Int32.toInt x_7 ∧ Int32.toInt x_7 ≤ 6) (h_x_8 : 0 ≤ Int32.toInt x_8 ∧ Int32.toInt x_8 ≤ 9) (h_x_9 : 0 ≤ Int32.toInt x_9 ∧ Int32.toInt x_9 ≤ 12) : zMi l yX2_fewestMinutes cX2_fewestMinutes 9 (some .int) ({ frames := 1, cells := 0, slots := 0, locals := 40 }) D k [.ref q_0, .int x_0] [(q_0, .inr (2, [.ref q_6, .ref q_1, .ref q_7, .int x_1, .int x_2, .ref q_8, .ref q_9, .ref q_10, .int x_3, .int x_4, .int x_5, .ref q_3, .ref q_5, .ref q_2])), (q_1, .inr (4, [.int x_6, .ref q_11, .int x_7, .ref q_12, .ref q_13, .int x_8, .ref q_14, .ref q_4, .ref q_15, .int x_9, .ref q_16, .ref q_17, .ref q_18])), (q_2, .inl (k 0, 4608, .inl f_10)), (q_3, .inl (k 0, 81, .inl f_11)), (q_4, .inl (k 0, 9, .inl f_12)), (q_5, .inl (k 0, 9, .inl f_13))] (fun r u => u.1 = 0 ∧ ((-2147483648) ≤ Int32.toInt r ∧ Int32.toInt r ≤ 1000000)) (fun u => [(q_0, .inr (2, [.ref q_6, .ref q_1, .ref q_7, .int x_1, .int x_2, .ref q_8, .ref q_9, .ref q_10, .int x_3, .int x_4, .int x_5, .ref q_3, .ref q_5, .ref q_2])), (q_1, .inr (4, [.int x_6, .ref q_11, .int x_7, .ref q_12, .ref q_13, .int x_8, .ref q_14, .ref q_4, .ref q_15, .int x_9, .ref q_16, .ref q_17, .ref q_18])), (q_2, .inl (k 0, 4608, .inl (u.2.2.2.2.1 0))), (q_3, .inl (k 0, 81, .inl f_11)), (q_4, .inl (k 0, 9, .inl f_12)), (q_5, .inl (k 0, 9, .inl f_13))]) := by
  refine zMi_of (own := RX2) (by decide +kernel) rfl (Nat.le_of_ble_eq_true rfl) ?_
  intro p e s m args below meth c A ls C0 hr hlk hin hP hD hS hA hK hN hl
  have hx := C0.1
  have hb := C0.2.1
  have hml := C0.2.2.1
  have hown := C0.2.2.2.1
  have hts := C0.2.2.2.2
  have hl : lv_has ls 9 [(0, .ref q_0), (1, .int x_0)] := hl
  have hP : va_P D vwCl [(q_0, .inr (2, [.ref q_6, .ref q_1, .ref q_7, .int x_1, .int x_2, .ref q_8, .ref q_9, .ref q_10, .int x_3, .int x_4, .int x_5, .ref q_3, .ref q_5, .ref q_2])), (q_1, .inr (4, [.int x_6, .ref q_11, .int x_7, .ref q_12, .ref q_13, .int x_8, .ref q_14, .ref q_4, .ref q_15, .int x_9, .ref q_16, .ref q_17, .ref q_18])), (q_2, .inl (k 0, 4608, .inl f_10)), (q_3, .inl (k 0, 81, .inl f_11)), (q_4, .inl (k 0, 9, .inl f_12)), (q_5, .inl (k 0, 9, .inl f_13))] s.heap := hP
  refine lv_ldc hx hb hown (hts _ kK_X2_121) dX2_fewestMinutes_0 ?_
  refine lv_istore_n (lv' := [(2, .int 1000000), (0, .ref q_0), (1, .int x_0)]) hx hb dX2_fewestMinutes_2 rfl hl (by decide) rfl (fun ls hl => ?_)
  refine lv_iconst (v := 0) hx hb dX2_fewestMinutes_3 (by decide) ?_
  refine lv_istore_n (lv' := [(3, .int 0), (2, .int 1000000), (0, .ref q_0), (1, .int x_0)]) hx hb dX2_fewestMinutes_4 rfl hl (by decide) rfl (fun ls hl => ?_)
  have loop19 : ∀ (N20 : Nat) (y16 : Int32) (y17 : Int32) (F18 : Nat → Int32) (H : Heap) (locs : List Loc) (ls : Array Slot), Int.toNat (9 - Int32.toInt y16) < N20 → 0 ≤ Int32.toInt y16 ∧ Int32.toInt y16 ≤ 9 → (-2147483648) ≤ Int32.toInt y17 ∧ Int32.toInt y17 ≤ 1000000 → va_P D vwCl [(q_0, .inr (2, [.ref q_6, .ref q_1, .ref q_7, .int x_1, .int x_2, .ref q_8, .ref q_9, .ref q_10, .int x_3, .int x_4, .int x_5, .ref q_3, .ref q_5, .ref q_2])), (q_1, .inr (4, [.int x_6, .ref q_11, .int x_7, .ref q_12, .ref q_13, .int x_8, .ref q_14, .ref q_4, .ref q_15, .int x_9, .ref q_16, .ref q_17, .ref q_18])), (q_2, .inl (k 0, 4608, .inl F18)), (q_3, .inl (k 0, 81, .inl f_11)), (q_4, .inl (k 0, 9, .inl f_12)), (q_5, .inl (k 0, 9, .inl f_13))] H → va_D A [(q_0, .inr (2, [.ref q_6, .ref q_1, .ref q_7, .int x_1, .int x_2, .ref q_8, .ref q_9, .ref q_10, .int x_3, .int x_4, .int x_5, .ref q_3, .ref q_5, .ref q_2])), (q_1, .inr (4, [.int x_6, .ref q_11, .int x_7, .ref q_12, .ref q_13, .int x_8, .ref q_14, .ref q_4, .ref q_15, .int x_9, .ref q_16, .ref q_17, .ref q_18])), (q_2, .inl (k 0, 4608, .inl F18)), (q_3, .inl (k 0, 81, .inl f_11)), (q_4, .inl (k 0, 9, .inl f_12)), (q_5, .inl (k 0, 9, .inl f_13))] → va_S A s.heap H locs → lv_has ls 9 [(3, .int y16), (2, .int y17), (0, .ref q_0), (1, .int x_0)] → W p l e { frames := 1, cells := 0, slots := 0, locals := 40 } s m args below meth c H locs 0 0 (MQ below (va_Qi (fun (r : Int32) (u : zS) => u.1 = 0 ∧ ((-2147483648) ≤ Int32.toInt r ∧ Int32.toInt r ≤ 1000000)) (zB D k A (fun (u : zS) => [(q_0, .inr (2, [.ref q_6, .ref q_1, .ref q_7, .int x_1, .int x_2, .ref q_8, .ref q_9, .ref q_10, .int x_3, .int x_4, .int x_5, .ref q_3, .ref q_5, .ref q_2])), (q_1, .inr (4, [.int x_6, .ref q_11, .int x_7, .ref q_12, .ref q_13, .int x_8, .ref q_14, .ref q_4, .ref q_15, .int x_9, .ref q_16, .ref q_17, .ref q_18])), (q_2, .inl (k 0, 4608, .inl (u.2.2.2.2.1 0))), (q_3, .inl (k 0, 81, .inl f_11)), (q_4, .inl (k 0, 9, .inl f_12)), (q_5, .inl (k 0, 9, .inl f_13))])) A) args s 0 0 A) (F0 m 5 ls []) := by
    intro N20
    induction N20 with
    | zero => intro y16 y17 F18 H locs ls hm; exact absurd hm (Nat.not_lt_zero _)
    | succ N20 ihN20 =>
      intro y16 y17 F18 H locs ls hN20 hy16 hy17 hP hD hS hl
      refine lv_iload_n hx hb dX2_fewestMinutes_5 rfl (lv_at hl 0 rfl) ?_
      refine lv_aload_n hx hb dX2_fewestMinutes_6 rfl (lv_at hl 2 rfl) ?_
      refine va_get (D := D) (ci := 2) (v := .ref q_1) (C := RX2) (T := TX2) (N := 14) hx hb hts inX2 hown hK hP 0 rfl rfl 1 (by decide) (hts _ kF_X2_48) (fun _ h9 => h9) rfl dX2_fewestMinutes_7 ?_
      refine va_get (D := D) (ci := 4) (v := .int x_8) (C := RX4) (T := TX4) (N := 13) hx hb hts inX4 hown hK hP 1 rfl rfl 5 (by decide) (hts _ kF_X2_97) (fun _ h9 => h9) rfl dX2_fewestMinutes_10 ?_
      refine lv_icmp_ge (tgt := 180) hx hb dX2_fewestMinutes_13 (by decide) (fun c21 => ?_) (fun c21 => ?_)
      · refine lv_iload_n hx hb dX2_fewestMinutes_180 rfl (lv_at hl 1 rfl) ?_
        exact z_iret C0 hr hlk rfl hK hP hD hS (0, fun _ => 0, fun _ => 0, fun _ => 0, fun i => [F18].getD i (fun _ => 0), fun _ => (fun _ => 0), fun _ => (fun _ => none)) ⟨rfl, (by revert hy17; simp only [vp_in_iff, Int32.lt_iff_toInt_lt, Int32.le_iff_toInt_le, Int64.lt_iff_toInt_lt, Int64.le_iff_toInt_le, Int32.toInt_toInt64, ← Int32.toInt_inj, ← Int64.toInt_inj, Int32.reduceToInt, Int64.reduceToInt] <;> omega)⟩ [0, 1, 2, 3, 4, 5] rfl rfl rfl dX2_fewestMinutes_181
      · refine lv_iload_n hx hb dX2_fewestMinutes_16 rfl (lv_at hl 3 rfl) ?_
        refine lv_iconst (v := 1) hx hb dX2_fewestMinutes_17 (by decide) ?_
        refine lv_iload_n hx hb dX2_fewestMinutes_18 rfl (lv_at hl 0 rfl) ?_
        refine lv_ishl hx hb dX2_fewestMinutes_19 ?_
        refine lv_topi (fun y22 ey22 => ?_)
        have hy22 : 1 ≤ Int32.toInt y22 ∧ Int32.toInt y22 ≤ 256 := by rw [ey22]; exact zo_shl1 8 (show 0 ≤ Int32.toInt y16 ∧ Int32.toInt y16 ≤ 8 by revert hN20 hy16 c21 h_x_8; simp only [vp_in_iff, Int32.lt_iff_toInt_lt, Int32.le_iff_toInt_le, Int64.lt_iff_toInt_lt, Int64.le_iff_toInt_le, Int32.toInt_toInt64, ← Int32.toInt_inj, ← Int64.toInt_inj, Int32.reduceToInt, Int64.reduceToInt] <;> omega) (by decide)
        refine lv_ixor hx hb dX2_fewestMinutes_20 ?_
        refine lv_topi (fun y23 ey23 => ?_)
        have hy23 : 0 ≤ Int32.toInt y23 ∧ Int32.toInt y23 ≤ 511 := by rw [ey23]; exact zo_xor 9 (show 0 ≤ Int32.toInt x_0 ∧ Int32.toInt x_0 < 2 ^ 9 by revert h_x_0 hy22; simp only [vp_in_iff, Int32.lt_iff_toInt_lt, Int32.le_iff_toInt_le, Int64.lt_iff_toInt_lt, Int64.le_iff_toInt_le, Int32.toInt_toInt64, ← Int32.toInt_inj, ← Int64.toInt_inj, Int32.reduceToInt, Int64.reduceToInt] <;> omega) (show 0 ≤ Int32.toInt y22 ∧ Int32.toInt y22 < 2 ^ 9 by revert h_x_0 hy22; simp only [vp_in_iff, Int32.lt_iff_toInt_lt, Int32.le_iff_toInt_le, Int64.lt_iff_toInt_lt, Int64.le_iff_toInt_le, Int32.toInt_toInt64, ← Int32.toInt_inj, ← Int64.toInt_inj, Int32.reduceToInt, Int64.reduceToInt] <;> omega) (by decide)
        refine lv_istore (lv' := [(4, .int y23), (3, .int y16), (2, .int y17), (0, .ref q_0), (1, .int x_0)]) hx hb dX2_fewestMinutes_21 hl (by decide) rfl (fun ls hl => ?_)
        refine lv_iload hx hb dX2_fewestMinutes_23 (lv_at hl 0 rfl) ?_
        refine lv_iload_n hx hb dX2_fewestMinutes_25 rfl (lv_at hl 4 rfl) ?_
        refine lv_icmp_le (tgt := 32) hx hb dX2_fewestMinutes_26 (by decide) (fun c24 => ?_) (fun c24 => ?_)
        · refine lv_iload hx hb dX2_fewestMinutes_32 (lv_at hl 0 rfl) ?_
          refine lv_if_ne (tgt := 46) hx hb dX2_fewestMinutes_34 (by decide) (fun c25 => ?_) (fun c25 => ?_)
          · refine lv_ldc hx hb hown (hts _ kK_X2_121) dX2_fewestMinutes_46 ?_
            refine lv_istore (lv' := [(5, .int 1000000), (4, .int y23), (3, .int y16), (2, .int y17), (0, .ref q_0), (1, .int x_0)]) hx hb dX2_fewestMinutes_48 hl (by decide) rfl (fun ls hl => ?_)
            refine lv_iload hx hb dX2_fewestMinutes_50 (lv_at hl 1 rfl) ?_
            refine lv_istore (lv' := [(6, .int y23), (5, .int 1000000), (4, .int y23), (3, .int y16), (2, .int y17), (0, .ref q_0), (1, .int x_0)]) hx hb dX2_fewestMinutes_52 hl (by decide) rfl (fun ls hl => ?_)
            refine lv_iconst (v := 0) hx hb dX2_fewestMinutes_54 (by decide) ?_
            refine lv_istore (lv' := [(7, .int 0), (6, .int y23), (5, .int 1000000), (4, .int y23), (3, .int y16), (2, .int y17), (0, .ref q_0), (1, .int x_0)]) hx hb dX2_fewestMinutes_55 hl (by decide) rfl (fun ls hl => ?_)
            have loop44 : ∀ (N45 : Nat) (y41 : Int32) (y42 : Int32) (y43 : Int32) (H : Heap) (locs : List Loc) (ls : Array Slot), Int.toNat (9 - Int32.toInt y41) < N45 → 0 ≤ Int32.toInt y41 ∧ Int32.toInt y41 ≤ 9 → va_P D vwCl [(q_0, .inr (2, [.ref q_6, .ref q_1, .ref q_7, .int x_1, .int x_2, .ref q_8, .ref q_9, .ref q_10, .int x_3, .int x_4, .int x_5, .ref q_3, .ref q_5, .ref q_2])), (q_1, .inr (4, [.int x_6, .ref q_11, .int x_7, .ref q_12, .ref q_13, .int x_8, .ref q_14, .ref q_4, .ref q_15, .int x_9, .ref q_16, .ref q_17, .ref q_18])), (q_2, .inl (k 0, 4608, .inl F18)), (q_3, .inl (k 0, 81, .inl f_11)), (q_4, .inl (k 0, 9, .inl f_12)), (q_5, .inl (k 0, 9, .inl f_13))] H → va_D A [(q_0, .inr (2, [.ref q_6, .ref q_1, .ref q_7, .int x_1, .int x_2, .ref q_8, .ref q_9, .ref q_10, .int x_3, .int x_4, .int x_5, .ref q_3, .ref q_5, .ref q_2])), (q_1, .inr (4, [.int x_6, .ref q_11, .int x_7, .ref q_12, .ref q_13, .int x_8, .ref q_14, .ref q_4, .ref q_15, .int x_9, .ref q_16, .ref q_17, .ref q_18])), (q_2, .inl (k 0, 4608, .inl F18)), (q_3, .inl (k 0, 81, .inl f_11)), (q_4, .inl (k 0, 9, .inl f_12)), (q_5, .inl (k 0, 9, .inl f_13))] → va_S A s.heap H locs → lv_has ls 9 [(7, .int y41), (6, .int y42), (5, .int y43), (4, .int y23), (3, .int y16), (2, .int y17), (0, .ref q_0), (1, .int x_0)] → W p l e { frames := 1, cells := 0, slots := 0, locals := 40 } s m args below meth c H locs 0 0 (MQ below (va_Qi (fun (r : Int32) (u : zS) => u.1 = 0 ∧ ((-2147483648) ≤ Int32.toInt r ∧ Int32.toInt r ≤ 1000000)) (zB D k A (fun (u : zS) => [(q_0, .inr (2, [.ref q_6, .ref q_1, .ref q_7, .int x_1, .int x_2, .ref q_8, .ref q_9, .ref q_10, .int x_3, .int x_4, .int x_5, .ref q_3, .ref q_5, .ref q_2])), (q_1, .inr (4, [.int x_6, .ref q_11, .int x_7, .ref q_12, .ref q_13, .int x_8, .ref q_14, .ref q_4, .ref q_15, .int x_9, .ref q_16, .ref q_17, .ref q_18])), (q_2, .inl (k 0, 4608, .inl (u.2.2.2.2.1 0))), (q_3, .inl (k 0, 81, .inl f_11)), (q_4, .inl (k 0, 9, .inl f_12)), (q_5, .inl (k 0, 9, .inl f_13))])) A) args s 0 0 A) (F0 m 57 ls []) := by
              intro N45
              induction N45 with
              | zero => intro y41 y42 y43 H locs ls hm; exact absurd hm (Nat.not_lt_zero _)
              | succ N45 ihN45 =>
                intro y41 y42 y43 H locs ls hN45 hy41 hP hD hS hl
                refine lv_iload hx hb dX2_fewestMinutes_57 (lv_at hl 0 rfl) ?_
                refine lv_bipush (v := 9) hx hb dX2_fewestMinutes_59 (by decide) ?_
                refine lv_icmp_ge (tgt := 133) hx hb dX2_fewestMinutes_61 (by decide) (fun c46 => ?_) (fun c46 => ?_)
                · refine lv_iload hx hb dX2_fewestMinutes_133 (lv_at hl 2 rfl) ?_
                  refine lv_aload_n hx hb dX2_fewestMinutes_135 rfl (lv_at hl 6 rfl) ?_
                  refine va_get (D := D) (ci := 2) (v := .ref q_1) (C := RX2) (T := TX2) (N := 14) hx hb hts inX2 hown hK hP 0 rfl rfl 1 (by decide) (hts _ kF_X2_48) (fun _ h9 => h9) rfl dX2_fewestMinutes_136 ?_
                  refine va_get (D := D) (ci := 4) (v := .ref q_4) (C := RX4) (T := TX4) (N := 13) hx hb hts inX4 hown hK hP 1 rfl rfl 7 (by decide) (hts _ kF_X2_122) (fun _ h9 => h9) rfl dX2_fewestMinutes_139 ?_
                  refine lv_iload_n hx hb dX2_fewestMinutes_142 rfl (lv_at hl 4 rfl) ?_
                  refine va_iald hx hb hK hP 4 0 rfl rfl (by revert hN20 hy16 c21 h_x_8; simp only [vp_in_iff, Int32.lt_iff_toInt_lt, Int32.le_iff_toInt_le, Int64.lt_iff_toInt_lt, Int64.le_iff_toInt_le, Int32.toInt_toInt64, ← Int32.toInt_inj, ← Int64.toInt_inj, Int32.reduceToInt, Int64.reduceToInt] <;> omega) dX2_fewestMinutes_143 ?_
                  refine lv_topi (fun y47 ey47 => ?_)
                  refine lv_iadd hx hb dX2_fewestMinutes_144 ?_
                  refine lv_istore (lv' := [(7, .int (y43 + y47)), (6, .int y42), (5, .int y43), (4, .int y23), (3, .int y16), (2, .int y17), (0, .ref q_0), (1, .int x_0)]) hx hb dX2_fewestMinutes_145 hl (by decide) rfl (fun ls hl => ?_)
                  refine lv_aload_n hx hb dX2_fewestMinutes_147 rfl (lv_at hl 6 rfl) ?_
                  refine va_get (D := D) (ci := 2) (v := .ref q_2) (C := RX2) (T := TX2) (N := 14) hx hb hts inX2 hown hK hP 0 rfl rfl 13 (by decide) (hts _ kF_X2_34) (fun _ h9 => h9) rfl dX2_fewestMinutes_148 ?_
                  refine lv_iload_n hx hb dX2_fewestMinutes_151 rfl (lv_at hl 7 rfl) ?_
                  refine lv_bipush (v := 9) hx hb dX2_fewestMinutes_152 (by decide) ?_
                  refine lv_imul hx hb dX2_fewestMinutes_154 ?_
                  have e48 : Int32.toInt (x_0 * 9) = Int32.toInt x_0 * Int32.toInt (9 : Int32) := zi_mul (by revert h_x_0 c24 c25 hy23; simp only [vp_in_iff, Int32.lt_iff_toInt_lt, Int32.le_iff_toInt_le, Int64.lt_iff_toInt_lt, Int64.le_iff_toInt_le, Int32.toInt_toInt64, ← Int32.toInt_inj, ← Int64.toInt_inj, Int32.reduceToInt, Int64.reduceToInt] <;> omega)
                  refine lv_iload_n hx hb dX2_fewestMinutes_155 rfl (lv_at hl 4 rfl) ?_
                  refine lv_iadd hx hb dX2_fewestMinutes_156 ?_
                  have e49 : Int32.toInt ((x_0 * 9) + y16) = Int32.toInt (x_0 * 9) + Int32.toInt y16 := zi_add (by revert h_x_0 hN20 hy16 c21 c24 c25 e48 h_x_8 hy23; simp only [vp_in_iff, Int32.lt_iff_toInt_lt, Int32.le_iff_toInt_le, Int64.lt_iff_toInt_lt, Int64.le_iff_toInt_le, Int32.toInt_toInt64, ← Int32.toInt_inj, ← Int64.toInt_inj, Int32.reduceToInt, Int64.reduceToInt] <;> omega)
                  refine lv_iload hx hb dX2_fewestMinutes_157 (lv_at hl 0 rfl) ?_
                  refine va_iast hx hb hK hP hD hS 2 0 rfl rfl (by revert h_x_0 hN20 hy16 c21 c24 c25 e48 e49 h_x_8 hy23; simp only [vp_in_iff, Int32.lt_iff_toInt_lt, Int32.le_iff_toInt_le, Int64.lt_iff_toInt_lt, Int64.le_iff_toInt_le, Int32.toInt_toInt64, ← Int32.toInt_inj, ← Int64.toInt_inj, Int32.reduceToInt, Int64.reduceToInt] <;> omega) dX2_fewestMinutes_159 (fun H locs hP hD hS => ?_)
                  obtain ⟨F50, eF50⟩ : ∃ q, q = upd F18 (Int32.toNatClampNeg ((x_0 * 9) + y16)) (y43 + y47) := ⟨_, rfl⟩
                  have hP : va_P D vwCl [(q_0, .inr (2, [.ref q_6, .ref q_1, .ref q_7, .int x_1, .int x_2, .ref q_8, .ref q_9, .ref q_10, .int x_3, .int x_4, .int x_5, .ref q_3, .ref q_5, .ref q_2])), (q_1, .inr (4, [.int x_6, .ref q_11, .int x_7, .ref q_12, .ref q_13, .int x_8, .ref q_14, .ref q_4, .ref q_15, .int x_9, .ref q_16, .ref q_17, .ref q_18])), (q_2, .inl (k 0, 4608, .inl F50)), (q_3, .inl (k 0, 81, .inl f_11)), (q_4, .inl (k 0, 9, .inl f_12)), (q_5, .inl (k 0, 9, .inl f_13))] H := by rw [eF50]; exact hP
                  have hD : va_D A [(q_0, .inr (2, [.ref q_6, .ref q_1, .ref q_7, .int x_1, .int x_2, .ref q_8, .ref q_9, .ref q_10, .int x_3, .int x_4, .int x_5, .ref q_3, .ref q_5, .ref q_2])), (q_1, .inr (4, [.int x_6, .ref q_11, .int x_7, .ref q_12, .ref q_13, .int x_8, .ref q_14, .ref q_4, .ref q_15, .int x_9, .ref q_16, .ref q_17, .ref q_18])), (q_2, .inl (k 0, 4608, .inl F50)), (q_3, .inl (k 0, 81, .inl f_11)), (q_4, .inl (k 0, 9, .inl f_12)), (q_5, .inl (k 0, 9, .inl f_13))] := by rw [eF50]; exact hD
                  refine lv_iload_n hx hb dX2_fewestMinutes_160 rfl (lv_at hl 5 rfl) ?_
                  refine lv_iload hx hb dX2_fewestMinutes_161 (lv_at hl 0 rfl) ?_
                  refine lv_aload_n hx hb dX2_fewestMinutes_163 rfl (lv_at hl 6 rfl) ?_
                  refine va_get (D := D) (ci := 2) (v := .ref q_5) (C := RX2) (T := TX2) (N := 14) hx hb hts inX2 hown hK hP 0 rfl rfl 12 (by decide) (hts _ kF_X2_31) (fun _ h9 => h9) rfl dX2_fewestMinutes_164 ?_
                  refine lv_iload_n hx hb dX2_fewestMinutes_167 rfl (lv_at hl 4 rfl) ?_
                  refine va_iald hx hb hK hP 5 0 rfl rfl (by revert hN20 hy16 c21 e49 h_x_0 h_x_8 c24 c25 e48 hy23; simp only [vp_in_iff, Int32.lt_iff_toInt_lt, Int32.le_iff_toInt_le, Int64.lt_iff_toInt_lt, Int64.le_iff_toInt_le, Int32.toInt_toInt64, ← Int32.toInt_inj, ← Int64.toInt_inj, Int32.reduceToInt, Int64.reduceToInt] <;> omega) dX2_fewestMinutes_168 ?_
                  refine lv_topi (fun y51 ey51 => ?_)
                  refine lv_iadd hx hb dX2_fewestMinutes_169 ?_
                  refine va_mmin hx hb (by rw [hml]; exact hl.1.symm) hown (hts _ kminL_X2_125) (hts _ kminS) (hts _ kZ_J9) (hts _ kminC) (Nat.le_of_ble_eq_true rfl) (Nat.le_of_ble_eq_true rfl) (Nat.le_of_ble_eq_true rfl) (Nat.le_of_ble_eq_true rfl) dX2_fewestMinutes_170 ?_
                  refine lv_topi (fun y52 ey52 => ?_)
                  have hy52 := zo_min y17 ((y43 + y47) + y51)
                  rw [← ey52] at hy52
                  refine lv_istore_n (lv' := [(2, .int y52), (7, .int (y43 + y47)), (6, .int y42), (5, .int y43), (4, .int y23), (3, .int y16), (0, .ref q_0), (1, .int x_0)]) hx hb dX2_fewestMinutes_173 rfl hl (by decide) rfl (fun ls hl => ?_)
                  have e53 : Int32.toInt (y16 + 1) = Int32.toInt y16 + Int32.toInt (1 : Int32) := zi_add (by revert hN20 hy16 c21 e49 h_x_0 h_x_8 c24 c25 e48 hy23; simp only [vp_in_iff, Int32.lt_iff_toInt_lt, Int32.le_iff_toInt_le, Int64.lt_iff_toInt_lt, Int64.le_iff_toInt_le, Int32.toInt_toInt64, ← Int32.toInt_inj, ← Int64.toInt_inj, Int32.reduceToInt, Int64.reduceToInt] <;> omega)
                  refine lv_iinc (v := (y16 + 1)) (lv' := [(3, .int (y16 + 1)), (2, .int y52), (7, .int (y43 + y47)), (6, .int y42), (5, .int y43), (4, .int y23), (0, .ref q_0), (1, .int x_0)]) hx hb dX2_fewestMinutes_174 hl (k := 5) rfl rfl (by decide) rfl (fun ls hl => ?_)
                  refine lv_goto (tgt := 5) hx hb dX2_fewestMinutes_177 (by decide) ?_
                  exact ihN20 (y16 + 1) y52 F50 _ _ ls (by revert hN20 hy16 c21 e49 e53 h_x_0 h_x_8 c24 c25 e48 hy23; simp only [vp_in_iff, Int32.lt_iff_toInt_lt, Int32.le_iff_toInt_le, Int64.lt_iff_toInt_lt, Int64.le_iff_toInt_le, Int32.toInt_toInt64, ← Int32.toInt_inj, ← Int64.toInt_inj, Int32.reduceToInt, Int64.reduceToInt] <;> omega) (by revert hN20 hy16 c21 e49 e53 h_x_0 h_x_8 c24 c25 e48 hy23; simp only [vp_in_iff, Int32.lt_iff_toInt_lt, Int32.le_iff_toInt_le, Int64.lt_iff_toInt_lt, Int64.le_iff_toInt_le, Int32.toInt_toInt64, ← Int32.toInt_inj, ← Int64.toInt_inj, Int32.reduceToInt, Int64.reduceToInt] <;> omega) (by revert hy17 hy52; simp only [vp_in_iff, Int32.lt_iff_toInt_lt, Int32.le_iff_toInt_le, Int64.lt_iff_toInt_lt, Int64.le_iff_toInt_le, Int32.toInt_toInt64, ← Int32.toInt_inj, ← Int64.toInt_inj, Int32.reduceToInt, Int64.reduceToInt] <;> omega) hP hD hS (lv_sub hl [0, 1, 6, 7] rfl)
                · refine lv_iload hx hb dX2_fewestMinutes_64 (lv_at hl 1 rfl) ?_
                  refine lv_if_eq (tgt := 133) hx hb dX2_fewestMinutes_66 (by decide) (fun c54 => ?_) (fun c54 => ?_)
                  · refine lv_iload hx hb dX2_fewestMinutes_133 (lv_at hl 2 rfl) ?_
                    refine lv_aload_n hx hb dX2_fewestMinutes_135 rfl (lv_at hl 6 rfl) ?_
                    refine va_get (D := D) (ci := 2) (v := .ref q_1) (C := RX2) (T := TX2) (N := 14) hx hb hts inX2 hown hK hP 0 rfl rfl 1 (by decide) (hts _ kF_X2_48) (fun _ h9 => h9) rfl dX2_fewestMinutes_136 ?_
                    refine va_get (D := D) (ci := 4) (v := .ref q_4) (C := RX4) (T := TX4) (N := 13) hx hb hts inX4 hown hK hP 1 rfl rfl 7 (by decide) (hts _ kF_X2_122) (fun _ h9 => h9) rfl dX2_fewestMinutes_139 ?_
                    refine lv_iload_n hx hb dX2_fewestMinutes_142 rfl (lv_at hl 4 rfl) ?_
                    refine va_iald hx hb hK hP 4 0 rfl rfl (by revert hN20 hy16 c21 h_x_8; simp only [vp_in_iff, Int32.lt_iff_toInt_lt, Int32.le_iff_toInt_le, Int64.lt_iff_toInt_lt, Int64.le_iff_toInt_le, Int32.toInt_toInt64, ← Int32.toInt_inj, ← Int64.toInt_inj, Int32.reduceToInt, Int64.reduceToInt] <;> omega) dX2_fewestMinutes_143 ?_
                    refine lv_topi (fun y55 ey55 => ?_)
                    refine lv_iadd hx hb dX2_fewestMinutes_144 ?_
                    refine lv_istore (lv' := [(7, .int (y43 + y55)), (6, .int y42), (5, .int y43), (4, .int y23), (3, .int y16), (2, .int y17), (0, .ref q_0), (1, .int x_0)]) hx hb dX2_fewestMinutes_145 hl (by decide) rfl (fun ls hl => ?_)
                    refine lv_aload_n hx hb dX2_fewestMinutes_147 rfl (lv_at hl 6 rfl) ?_
                    refine va_get (D := D) (ci := 2) (v := .ref q_2) (C := RX2) (T := TX2) (N := 14) hx hb hts inX2 hown hK hP 0 rfl rfl 13 (by decide) (hts _ kF_X2_34) (fun _ h9 => h9) rfl dX2_fewestMinutes_148 ?_
                    refine lv_iload_n hx hb dX2_fewestMinutes_151 rfl (lv_at hl 7 rfl) ?_
                    refine lv_bipush (v := 9) hx hb dX2_fewestMinutes_152 (by decide) ?_
                    refine lv_imul hx hb dX2_fewestMinutes_154 ?_
                    have e56 : Int32.toInt (x_0 * 9) = Int32.toInt x_0 * Int32.toInt (9 : Int32) := zi_mul (by revert h_x_0 c24 c25 hy23; simp only [vp_in_iff, Int32.lt_iff_toInt_lt, Int32.le_iff_toInt_le, Int64.lt_iff_toInt_lt, Int64.le_iff_toInt_le, Int32.toInt_toInt64, ← Int32.toInt_inj, ← Int64.toInt_inj, Int32.reduceToInt, Int64.reduceToInt] <;> omega)
                    refine lv_iload_n hx hb dX2_fewestMinutes_155 rfl (lv_at hl 4 rfl) ?_
                    refine lv_iadd hx hb dX2_fewestMinutes_156 ?_
                    have e57 : Int32.toInt ((x_0 * 9) + y16) = Int32.toInt (x_0 * 9) + Int32.toInt y16 := zi_add (by revert h_x_0 hN20 hy16 c21 c24 c25 e56 h_x_8 hy23; simp only [vp_in_iff, Int32.lt_iff_toInt_lt, Int32.le_iff_toInt_le, Int64.lt_iff_toInt_lt, Int64.le_iff_toInt_le, Int32.toInt_toInt64, ← Int32.toInt_inj, ← Int64.toInt_inj, Int32.reduceToInt, Int64.reduceToInt] <;> omega)
                    refine lv_iload hx hb dX2_fewestMinutes_157 (lv_at hl 0 rfl) ?_
                    refine va_iast hx hb hK hP hD hS 2 0 rfl rfl (by revert h_x_0 hN20 hy16 c21 c24 c25 e56 e57 h_x_8 hy23; simp only [vp_in_iff, Int32.lt_iff_toInt_lt, Int32.le_iff_toInt_le, Int64.lt_iff_toInt_lt, Int64.le_iff_toInt_le, Int32.toInt_toInt64, ← Int32.toInt_inj, ← Int64.toInt_inj, Int32.reduceToInt, Int64.reduceToInt] <;> omega) dX2_fewestMinutes_159 (fun H locs hP hD hS => ?_)
                    obtain ⟨F58, eF58⟩ : ∃ q, q = upd F18 (Int32.toNatClampNeg ((x_0 * 9) + y16)) (y43 + y55) := ⟨_, rfl⟩
                    have hP : va_P D vwCl [(q_0, .inr (2, [.ref q_6, .ref q_1, .ref q_7, .int x_1, .int x_2, .ref q_8, .ref q_9, .ref q_10, .int x_3, .int x_4, .int x_5, .ref q_3, .ref q_5, .ref q_2])), (q_1, .inr (4, [.int x_6, .ref q_11, .int x_7, .ref q_12, .ref q_13, .int x_8, .ref q_14, .ref q_4, .ref q_15, .int x_9, .ref q_16, .ref q_17, .ref q_18])), (q_2, .inl (k 0, 4608, .inl F58)), (q_3, .inl (k 0, 81, .inl f_11)), (q_4, .inl (k 0, 9, .inl f_12)), (q_5, .inl (k 0, 9, .inl f_13))] H := by rw [eF58]; exact hP
                    have hD : va_D A [(q_0, .inr (2, [.ref q_6, .ref q_1, .ref q_7, .int x_1, .int x_2, .ref q_8, .ref q_9, .ref q_10, .int x_3, .int x_4, .int x_5, .ref q_3, .ref q_5, .ref q_2])), (q_1, .inr (4, [.int x_6, .ref q_11, .int x_7, .ref q_12, .ref q_13, .int x_8, .ref q_14, .ref q_4, .ref q_15, .int x_9, .ref q_16, .ref q_17, .ref q_18])), (q_2, .inl (k 0, 4608, .inl F58)), (q_3, .inl (k 0, 81, .inl f_11)), (q_4, .inl (k 0, 9, .inl f_12)), (q_5, .inl (k 0, 9, .inl f_13))] := by rw [eF58]; exact hD
                    refine lv_iload_n hx hb dX2_fewestMinutes_160 rfl (lv_at hl 5 rfl) ?_
                    refine lv_iload hx hb dX2_fewestMinutes_161 (lv_at hl 0 rfl) ?_
                    refine lv_aload_n hx hb dX2_fewestMinutes_163 rfl (lv_at hl 6 rfl) ?_
                    refine va_get (D := D) (ci := 2) (v := .ref q_5) (C := RX2) (T := TX2) (N := 14) hx hb hts inX2 hown hK hP 0 rfl rfl 12 (by decide) (hts _ kF_X2_31) (fun _ h9 => h9) rfl dX2_fewestMinutes_164 ?_
                    refine lv_iload_n hx hb dX2_fewestMinutes_167 rfl (lv_at hl 4 rfl) ?_
                    refine va_iald hx hb hK hP 5 0 rfl rfl (by revert hN20 hy16 c21 e57 h_x_0 h_x_8 c24 c25 e56 hy23; simp only [vp_in_iff, Int32.lt_iff_toInt_lt, Int32.le_iff_toInt_le, Int64.lt_iff_toInt_lt, Int64.le_iff_toInt_le, Int32.toInt_toInt64, ← Int32.toInt_inj, ← Int64.toInt_inj, Int32.reduceToInt, Int64.reduceToInt] <;> omega) dX2_fewestMinutes_168 ?_
                    refine lv_topi (fun y59 ey59 => ?_)
                    refine lv_iadd hx hb dX2_fewestMinutes_169 ?_
                    refine va_mmin hx hb (by rw [hml]; exact hl.1.symm) hown (hts _ kminL_X2_125) (hts _ kminS) (hts _ kZ_J9) (hts _ kminC) (Nat.le_of_ble_eq_true rfl) (Nat.le_of_ble_eq_true rfl) (Nat.le_of_ble_eq_true rfl) (Nat.le_of_ble_eq_true rfl) dX2_fewestMinutes_170 ?_
                    refine lv_topi (fun y60 ey60 => ?_)
                    have hy60 := zo_min y17 ((y43 + y55) + y59)
                    rw [← ey60] at hy60
                    refine lv_istore_n (lv' := [(2, .int y60), (7, .int (y43 + y55)), (6, .int y42), (5, .int y43), (4, .int y23), (3, .int y16), (0, .ref q_0), (1, .int x_0)]) hx hb dX2_fewestMinutes_173 rfl hl (by decide) rfl (fun ls hl => ?_)
                    have e61 : Int32.toInt (y16 + 1) = Int32.toInt y16 + Int32.toInt (1 : Int32) := zi_add (by revert hN20 hy16 c21 e57 h_x_0 h_x_8 c24 c25 e56 hy23; simp only [vp_in_iff, Int32.lt_iff_toInt_lt, Int32.le_iff_toInt_le, Int64.lt_iff_toInt_lt, Int64.le_iff_toInt_le, Int32.toInt_toInt64, ← Int32.toInt_inj, ← Int64.toInt_inj, Int32.reduceToInt, Int64.reduceToInt] <;> omega)
                    refine lv_iinc (v := (y16 + 1)) (lv' := [(3, .int (y16 + 1)), (2, .int y60), (7, .int (y43 + y55)), (6, .int y42), (5, .int y43), (4, .int y23), (0, .ref q_0), (1, .int x_0)]) hx hb dX2_fewestMinutes_174 hl (k := 5) rfl rfl (by decide) rfl (fun ls hl => ?_)
                    refine lv_goto (tgt := 5) hx hb dX2_fewestMinutes_177 (by decide) ?_
                    exact ihN20 (y16 + 1) y60 F58 _ _ ls (by revert hN20 hy16 c21 e57 e61 h_x_0 h_x_8 c24 c25 e56 hy23; simp only [vp_in_iff, Int32.lt_iff_toInt_lt, Int32.le_iff_toInt_le, Int64.lt_iff_toInt_lt, Int64.le_iff_toInt_le, Int32.toInt_toInt64, ← Int32.toInt_inj, ← Int64.toInt_inj, Int32.reduceToInt, Int64.reduceToInt] <;> omega) (by revert hN20 hy16 c21 e57 e61 h_x_0 h_x_8 c24 c25 e56 hy23; simp only [vp_in_iff, Int32.lt_iff_toInt_lt, Int32.le_iff_toInt_le, Int64.lt_iff_toInt_lt, Int64.le_iff_toInt_le, Int32.toInt_toInt64, ← Int32.toInt_inj, ← Int64.toInt_inj, Int32.reduceToInt, Int64.reduceToInt] <;> omega) (by revert hy17 hy60; simp only [vp_in_iff, Int32.lt_iff_toInt_lt, Int32.le_iff_toInt_le, Int64.lt_iff_toInt_lt, Int64.le_iff_toInt_le, Int32.toInt_toInt64, ← Int32.toInt_inj, ← Int64.toInt_inj, Int32.reduceToInt, Int64.reduceToInt] <;> omega) hP hD hS (lv_sub hl [0, 1, 6, 7] rfl)
                  · refine lv_iload hx hb dX2_fewestMinutes_69 (lv_at hl 1 rfl) ?_
                    refine lv_iconst (v := 1) hx hb dX2_fewestMinutes_71 (by decide) ?_
                    refine lv_iand hx hb dX2_fewestMinutes_72 ?_
                    refine lv_topi (fun y62 ey62 => ?_)
                    have hy62 : 0 ≤ Int32.toInt y62 ∧ Int32.toInt y62 ≤ 1 := by rw [ey62]; exact zo_and _ (by decide)
                    refine lv_iconst (v := 1) hx hb dX2_fewestMinutes_73 (by decide) ?_
                    refine lv_icmp_ne (tgt := 121) hx hb dX2_fewestMinutes_74 (by decide) (fun c63 => ?_) (fun c63 => ?_)
                    · refine lv_iload hx hb dX2_fewestMinutes_121 (lv_at hl 1 rfl) ?_
                      refine lv_iconst (v := 1) hx hb dX2_fewestMinutes_123 (by decide) ?_
                      refine lv_ishr hx hb dX2_fewestMinutes_124 ?_
                      refine lv_topi (fun y64 ey64 => ?_)
                      refine lv_istore (lv' := [(6, .int y64), (7, .int y41), (5, .int y43), (4, .int y23), (3, .int y16), (2, .int y17), (0, .ref q_0), (1, .int x_0)]) hx hb dX2_fewestMinutes_125 hl (by decide) rfl (fun ls hl => ?_)
                      have e65 : Int32.toInt (y41 + 1) = Int32.toInt y41 + Int32.toInt (1 : Int32) := zi_add (by revert hN45 hy41 c46; simp only [vp_in_iff, Int32.lt_iff_toInt_lt, Int32.le_iff_toInt_le, Int64.lt_iff_toInt_lt, Int64.le_iff_toInt_le, Int32.toInt_toInt64, ← Int32.toInt_inj, ← Int64.toInt_inj, Int32.reduceToInt, Int64.reduceToInt] <;> omega)
                      refine lv_iinc (v := (y41 + 1)) (lv' := [(7, .int (y41 + 1)), (6, .int y64), (5, .int y43), (4, .int y23), (3, .int y16), (2, .int y17), (0, .ref q_0), (1, .int x_0)]) hx hb dX2_fewestMinutes_127 hl (k := 1) rfl rfl (by decide) rfl (fun ls hl => ?_)
                      refine lv_goto (tgt := 57) hx hb dX2_fewestMinutes_130 (by decide) ?_
                      exact ihN45 (y41 + 1) y64 y43 _ _ ls (by revert hN45 hy41 c46 e65; simp only [vp_in_iff, Int32.lt_iff_toInt_lt, Int32.le_iff_toInt_le, Int64.lt_iff_toInt_lt, Int64.le_iff_toInt_le, Int32.toInt_toInt64, ← Int32.toInt_inj, ← Int64.toInt_inj, Int32.reduceToInt, Int64.reduceToInt] <;> omega) (by revert hN45 hy41 c46 e65; simp only [vp_in_iff, Int32.lt_iff_toInt_lt, Int32.le_iff_toInt_le, Int64.lt_iff_toInt_lt, Int64.le_iff_toInt_le, Int32.toInt_toInt64, ← Int32.toInt_inj, ← Int64.toInt_inj, Int32.reduceToInt, Int64.reduceToInt] <;> omega) hP hD hS (lv_sub hl [0, 1, 2, 3, 4, 5, 6, 7] rfl)
                    · refine lv_aload_n hx hb dX2_fewestMinutes_77 rfl (lv_at hl 6 rfl) ?_
                      refine va_get (D := D) (ci := 2) (v := .ref q_2) (C := RX2) (T := TX2) (N := 14) hx hb hts inX2 hown hK hP 0 rfl rfl 13 (by decide) (hts _ kF_X2_34) (fun _ h9 => h9) rfl dX2_fewestMinutes_78 ?_
                      refine lv_iload hx hb dX2_fewestMinutes_81 (lv_at hl 3 rfl) ?_
                      refine lv_bipush (v := 9) hx hb dX2_fewestMinutes_83 (by decide) ?_
                      refine lv_imul hx hb dX2_fewestMinutes_85 ?_
                      have e66 : Int32.toInt (y23 * 9) = Int32.toInt y23 * Int32.toInt (9 : Int32) := zi_mul (by revert hy23 c24 c25 h_x_0; simp only [vp_in_iff, Int32.lt_iff_toInt_lt, Int32.le_iff_toInt_le, Int64.lt_iff_toInt_lt, Int64.le_iff_toInt_le, Int32.toInt_toInt64, ← Int32.toInt_inj, ← Int64.toInt_inj, Int32.reduceToInt, Int64.reduceToInt] <;> omega)
                      refine lv_iload hx hb dX2_fewestMinutes_86 (lv_at hl 0 rfl) ?_
                      refine lv_iadd hx hb dX2_fewestMinutes_88 ?_
                      have e67 : Int32.toInt ((y23 * 9) + y41) = Int32.toInt (y23 * 9) + Int32.toInt y41 := zi_add (by revert hy23 c24 c25 hN45 hy41 c46 e66 h_x_0; simp only [vp_in_iff, Int32.lt_iff_toInt_lt, Int32.le_iff_toInt_le, Int64.lt_iff_toInt_lt, Int64.le_iff_toInt_le, Int32.toInt_toInt64, ← Int32.toInt_inj, ← Int64.toInt_inj, Int32.reduceToInt, Int64.reduceToInt] <;> omega)
                      refine va_iald hx hb hK hP 2 0 rfl rfl (by revert hy23 c24 c25 hN45 hy41 c46 e66 e67 h_x_0; simp only [vp_in_iff, Int32.lt_iff_toInt_lt, Int32.le_iff_toInt_le, Int64.lt_iff_toInt_lt, Int64.le_iff_toInt_le, Int32.toInt_toInt64, ← Int32.toInt_inj, ← Int64.toInt_inj, Int32.reduceToInt, Int64.reduceToInt] <;> omega) dX2_fewestMinutes_89 ?_
                      refine lv_topi (fun y68 ey68 => ?_)
                      refine lv_aload_n hx hb dX2_fewestMinutes_90 rfl (lv_at hl 6 rfl) ?_
                      refine va_get (D := D) (ci := 2) (v := .ref q_3) (C := RX2) (T := TX2) (N := 14) hx hb hts inX2 hown hK hP 0 rfl rfl 11 (by decide) (hts _ kF_X2_28) (fun _ h9 => h9) rfl dX2_fewestMinutes_91 ?_
                      refine lv_iload hx hb dX2_fewestMinutes_94 (lv_at hl 0 rfl) ?_
                      refine lv_bipush (v := 9) hx hb dX2_fewestMinutes_96 (by decide) ?_
                      refine lv_imul hx hb dX2_fewestMinutes_98 ?_
                      have e69 : Int32.toInt (y41 * 9) = Int32.toInt y41 * Int32.toInt (9 : Int32) := zi_mul (by revert hN45 hy41 c46 e67 hy23 c24 c25 e66 h_x_0; simp only [vp_in_iff, Int32.lt_iff_toInt_lt, Int32.le_iff_toInt_le, Int64.lt_iff_toInt_lt, Int64.le_iff_toInt_le, Int32.toInt_toInt64, ← Int32.toInt_inj, ← Int64.toInt_inj, Int32.reduceToInt, Int64.reduceToInt] <;> omega)
                      refine lv_iload_n hx hb dX2_fewestMinutes_99 rfl (lv_at hl 4 rfl) ?_
                      refine lv_iadd hx hb dX2_fewestMinutes_100 ?_
                      have e70 : Int32.toInt ((y41 * 9) + y16) = Int32.toInt (y41 * 9) + Int32.toInt y16 := zi_add (by revert hN20 hy16 c21 hN45 hy41 c46 e67 e69 h_x_8 hy23 c24 c25 e66 h_x_0; simp only [vp_in_iff, Int32.lt_iff_toInt_lt, Int32.le_iff_toInt_le, Int64.lt_iff_toInt_lt, Int64.le_iff_toInt_le, Int32.toInt_toInt64, ← Int32.toInt_inj, ← Int64.toInt_inj, Int32.reduceToInt, Int64.reduceToInt] <;> omega)
                      refine va_iald hx hb hK hP 3 0 rfl rfl (by revert hN20 hy16 c21 hN45 hy41 c46 e67 e69 e70 h_x_8 hy23 c24 c25 e66 h_x_0; simp only [vp_in_iff, Int32.lt_iff_toInt_lt, Int32.le_iff_toInt_le, Int64.lt_iff_toInt_lt, Int64.le_iff_toInt_le, Int32.toInt_toInt64, ← Int32.toInt_inj, ← Int64.toInt_inj, Int32.reduceToInt, Int64.reduceToInt] <;> omega) dX2_fewestMinutes_101 ?_
                      refine lv_topi (fun y71 ey71 => ?_)
                      refine lv_iadd hx hb dX2_fewestMinutes_102 ?_
                      refine lv_istore (lv' := [(8, .int (y68 + y71)), (7, .int y41), (6, .int y42), (5, .int y43), (4, .int y23), (3, .int y16), (2, .int y17), (0, .ref q_0), (1, .int x_0)]) hx hb dX2_fewestMinutes_103 hl (by decide) rfl (fun ls hl => ?_)
                      refine lv_iload hx hb dX2_fewestMinutes_105 (lv_at hl 0 rfl) ?_
                      refine lv_iload hx hb dX2_fewestMinutes_107 (lv_at hl 3 rfl) ?_
                      refine lv_icmp_ge (tgt := 117) hx hb dX2_fewestMinutes_109 (by decide) (fun c72 => ?_) (fun c72 => ?_)
                      · refine lv_iload hx hb dX2_fewestMinutes_117 (lv_at hl 3 rfl) ?_
                        refine lv_istore (lv' := [(5, .int y43), (8, .int (y68 + y71)), (7, .int y41), (6, .int y42), (4, .int y23), (3, .int y16), (2, .int y17), (0, .ref q_0), (1, .int x_0)]) hx hb dX2_fewestMinutes_119 hl (by decide) rfl (fun ls hl => ?_)
                        refine lv_iload hx hb dX2_fewestMinutes_121 (lv_at hl 3 rfl) ?_
                        refine lv_iconst (v := 1) hx hb dX2_fewestMinutes_123 (by decide) ?_
                        refine lv_ishr hx hb dX2_fewestMinutes_124 ?_
                        refine lv_topi (fun y73 ey73 => ?_)
                        refine lv_istore (lv' := [(6, .int y73), (5, .int y43), (8, .int (y68 + y71)), (7, .int y41), (4, .int y23), (3, .int y16), (2, .int y17), (0, .ref q_0), (1, .int x_0)]) hx hb dX2_fewestMinutes_125 hl (by decide) rfl (fun ls hl => ?_)
                        have e74 : Int32.toInt (y41 + 1) = Int32.toInt y41 + Int32.toInt (1 : Int32) := zi_add (by revert hN45 hy41 c46 e67 e69 e70 hN20 hy16 c21 hy23 c24 c25 e66 h_x_0 h_x_8; simp only [vp_in_iff, Int32.lt_iff_toInt_lt, Int32.le_iff_toInt_le, Int64.lt_iff_toInt_lt, Int64.le_iff_toInt_le, Int32.toInt_toInt64, ← Int32.toInt_inj, ← Int64.toInt_inj, Int32.reduceToInt, Int64.reduceToInt] <;> omega)
                        refine lv_iinc (v := (y41 + 1)) (lv' := [(7, .int (y41 + 1)), (6, .int y73), (5, .int y43), (8, .int (y68 + y71)), (4, .int y23), (3, .int y16), (2, .int y17), (0, .ref q_0), (1, .int x_0)]) hx hb dX2_fewestMinutes_127 hl (k := 3) rfl rfl (by decide) rfl (fun ls hl => ?_)
                        refine lv_goto (tgt := 57) hx hb dX2_fewestMinutes_130 (by decide) ?_
                        exact ihN45 (y41 + 1) y73 y43 _ _ ls (by revert hN45 hy41 c46 e67 e69 e70 e74 hN20 hy16 c21 hy23 c24 c25 e66 h_x_0 h_x_8; simp only [vp_in_iff, Int32.lt_iff_toInt_lt, Int32.le_iff_toInt_le, Int64.lt_iff_toInt_lt, Int64.le_iff_toInt_le, Int32.toInt_toInt64, ← Int32.toInt_inj, ← Int64.toInt_inj, Int32.reduceToInt, Int64.reduceToInt] <;> omega) (by revert hN45 hy41 c46 e67 e69 e70 e74 hN20 hy16 c21 hy23 c24 c25 e66 h_x_0 h_x_8; simp only [vp_in_iff, Int32.lt_iff_toInt_lt, Int32.le_iff_toInt_le, Int64.lt_iff_toInt_lt, Int64.le_iff_toInt_le, Int32.toInt_toInt64, ← Int32.toInt_inj, ← Int64.toInt_inj, Int32.reduceToInt, Int64.reduceToInt] <;> omega) hP hD hS (lv_sub hl [0, 1, 2, 4, 5, 6, 7, 8] rfl)
                      · refine lv_iload hx hb dX2_fewestMinutes_112 (lv_at hl 0 rfl) ?_
                        refine lv_goto (tgt := 119) hx hb dX2_fewestMinutes_114 (by decide) ?_
                        refine lv_istore (lv' := [(5, .int (y68 + y71)), (8, .int (y68 + y71)), (7, .int y41), (6, .int y42), (4, .int y23), (3, .int y16), (2, .int y17), (0, .ref q_0), (1, .int x_0)]) hx hb dX2_fewestMinutes_119 hl (by decide) rfl (fun ls hl => ?_)
                        refine lv_iload hx hb dX2_fewestMinutes_121 (lv_at hl 3 rfl) ?_
                        refine lv_iconst (v := 1) hx hb dX2_fewestMinutes_123 (by decide) ?_
                        refine lv_ishr hx hb dX2_fewestMinutes_124 ?_
                        refine lv_topi (fun y75 ey75 => ?_)
                        refine lv_istore (lv' := [(6, .int y75), (5, .int (y68 + y71)), (8, .int (y68 + y71)), (7, .int y41), (4, .int y23), (3, .int y16), (2, .int y17), (0, .ref q_0), (1, .int x_0)]) hx hb dX2_fewestMinutes_125 hl (by decide) rfl (fun ls hl => ?_)
                        have e76 : Int32.toInt (y41 + 1) = Int32.toInt y41 + Int32.toInt (1 : Int32) := zi_add (by revert hN45 hy41 c46 e67 e69 e70 hN20 hy16 c21 hy23 c24 c25 e66 h_x_0 h_x_8; simp only [vp_in_iff, Int32.lt_iff_toInt_lt, Int32.le_iff_toInt_le, Int64.lt_iff_toInt_lt, Int64.le_iff_toInt_le, Int32.toInt_toInt64, ← Int32.toInt_inj, ← Int64.toInt_inj, Int32.reduceToInt, Int64.reduceToInt] <;> omega)
                        refine lv_iinc (v := (y41 + 1)) (lv' := [(7, .int (y41 + 1)), (6, .int y75), (5, .int (y68 + y71)), (8, .int (y68 + y71)), (4, .int y23), (3, .int y16), (2, .int y17), (0, .ref q_0), (1, .int x_0)]) hx hb dX2_fewestMinutes_127 hl (k := 3) rfl rfl (by decide) rfl (fun ls hl => ?_)
                        refine lv_goto (tgt := 57) hx hb dX2_fewestMinutes_130 (by decide) ?_
                        exact ihN45 (y41 + 1) y75 (y68 + y71) _ _ ls (by revert hN45 hy41 c46 e67 e69 e70 e76 hN20 hy16 c21 hy23 c24 c25 e66 h_x_0 h_x_8; simp only [vp_in_iff, Int32.lt_iff_toInt_lt, Int32.le_iff_toInt_le, Int64.lt_iff_toInt_lt, Int64.le_iff_toInt_le, Int32.toInt_toInt64, ← Int32.toInt_inj, ← Int64.toInt_inj, Int32.reduceToInt, Int64.reduceToInt] <;> omega) (by revert hN45 hy41 c46 e67 e69 e70 e76 hN20 hy16 c21 hy23 c24 c25 e66 h_x_0 h_x_8; simp only [vp_in_iff, Int32.lt_iff_toInt_lt, Int32.le_iff_toInt_le, Int64.lt_iff_toInt_lt, Int64.le_iff_toInt_le, Int32.toInt_toInt64, ← Int32.toInt_inj, ← Int64.toInt_inj, Int32.reduceToInt, Int64.reduceToInt] <;> omega) hP hD hS (lv_sub hl [0, 1, 2, 4, 5, 6, 7, 8] rfl)
            exact loop44 _ 0 y23 1000000 _ _ _ (Nat.lt_succ_self _) (by simp only [vp_in_iff, Int32.lt_iff_toInt_lt, Int32.le_iff_toInt_le, Int64.lt_iff_toInt_lt, Int64.le_iff_toInt_le, Int32.toInt_toInt64, ← Int32.toInt_inj, ← Int64.toInt_inj, Int32.reduceToInt, Int64.reduceToInt] <;> omega) hP hD hS (lv_sub hl [0, 1, 2, 3, 4, 5, 6, 7] rfl)
          · refine lv_aload_n hx hb dX2_fewestMinutes_37 rfl (lv_at hl 3 rfl) ?_
            refine va_get (D := D) (ci := 2) (v := .ref q_5) (C := RX2) (T := TX2) (N := 14) hx hb hts inX2 hown hK hP 0 rfl rfl 12 (by decide) (hts _ kF_X2_31) (fun _ h9 => h9) rfl dX2_fewestMinutes_38 ?_
            refine lv_iload_n hx hb dX2_fewestMinutes_41 rfl (lv_at hl 1 rfl) ?_
            refine va_iald hx hb hK hP 5 0 rfl rfl (by revert hN20 hy16 c21 h_x_8; simp only [vp_in_iff, Int32.lt_iff_toInt_lt, Int32.le_iff_toInt_le, Int64.lt_iff_toInt_lt, Int64.le_iff_toInt_le, Int32.toInt_toInt64, ← Int32.toInt_inj, ← Int64.toInt_inj, Int32.reduceToInt, Int64.reduceToInt] <;> omega) dX2_fewestMinutes_42 ?_
            refine lv_topi (fun y77 ey77 => ?_)
            refine lv_goto (tgt := 48) hx hb dX2_fewestMinutes_43 (by decide) ?_
            refine lv_istore (lv' := [(5, .int y77), (4, .int y23), (3, .int y16), (2, .int y17), (0, .ref q_0), (1, .int x_0)]) hx hb dX2_fewestMinutes_48 hl (by decide) rfl (fun ls hl => ?_)
            refine lv_iload hx hb dX2_fewestMinutes_50 (lv_at hl 1 rfl) ?_
            refine lv_istore (lv' := [(6, .int y23), (5, .int y77), (4, .int y23), (3, .int y16), (2, .int y17), (0, .ref q_0), (1, .int x_0)]) hx hb dX2_fewestMinutes_52 hl (by decide) rfl (fun ls hl => ?_)
            refine lv_iconst (v := 0) hx hb dX2_fewestMinutes_54 (by decide) ?_
            refine lv_istore (lv' := [(7, .int 0), (6, .int y23), (5, .int y77), (4, .int y23), (3, .int y16), (2, .int y17), (0, .ref q_0), (1, .int x_0)]) hx hb dX2_fewestMinutes_55 hl (by decide) rfl (fun ls hl => ?_)
            have loop78 : ∀ (N79 : Nat) (H : Heap) (locs : List Loc) (ls : Array Slot), Int.toNat 0 < N79 → va_P D vwCl [(q_0, .inr (2, [.ref q_6, .ref q_1, .ref q_7, .int x_1, .int x_2, .ref q_8, .ref q_9, .ref q_10, .int x_3, .int x_4, .int x_5, .ref q_3, .ref q_5, .ref q_2])), (q_1, .inr (4, [.int x_6, .ref q_11, .int x_7, .ref q_12, .ref q_13, .int x_8, .ref q_14, .ref q_4, .ref q_15, .int x_9, .ref q_16, .ref q_17, .ref q_18])), (q_2, .inl (k 0, 4608, .inl F18)), (q_3, .inl (k 0, 81, .inl f_11)), (q_4, .inl (k 0, 9, .inl f_12)), (q_5, .inl (k 0, 9, .inl f_13))] H → va_D A [(q_0, .inr (2, [.ref q_6, .ref q_1, .ref q_7, .int x_1, .int x_2, .ref q_8, .ref q_9, .ref q_10, .int x_3, .int x_4, .int x_5, .ref q_3, .ref q_5, .ref q_2])), (q_1, .inr (4, [.int x_6, .ref q_11, .int x_7, .ref q_12, .ref q_13, .int x_8, .ref q_14, .ref q_4, .ref q_15, .int x_9, .ref q_16, .ref q_17, .ref q_18])), (q_2, .inl (k 0, 4608, .inl F18)), (q_3, .inl (k 0, 81, .inl f_11)), (q_4, .inl (k 0, 9, .inl f_12)), (q_5, .inl (k 0, 9, .inl f_13))] → va_S A s.heap H locs → lv_has ls 9 [(7, .int 0), (6, .int y23), (5, .int y77), (4, .int y23), (3, .int y16), (2, .int y17), (0, .ref q_0), (1, .int x_0)] → W p l e { frames := 1, cells := 0, slots := 0, locals := 40 } s m args below meth c H locs 0 0 (MQ below (va_Qi (fun (r : Int32) (u : zS) => u.1 = 0 ∧ ((-2147483648) ≤ Int32.toInt r ∧ Int32.toInt r ≤ 1000000)) (zB D k A (fun (u : zS) => [(q_0, .inr (2, [.ref q_6, .ref q_1, .ref q_7, .int x_1, .int x_2, .ref q_8, .ref q_9, .ref q_10, .int x_3, .int x_4, .int x_5, .ref q_3, .ref q_5, .ref q_2])), (q_1, .inr (4, [.int x_6, .ref q_11, .int x_7, .ref q_12, .ref q_13, .int x_8, .ref q_14, .ref q_4, .ref q_15, .int x_9, .ref q_16, .ref q_17, .ref q_18])), (q_2, .inl (k 0, 4608, .inl (u.2.2.2.2.1 0))), (q_3, .inl (k 0, 81, .inl f_11)), (q_4, .inl (k 0, 9, .inl f_12)), (q_5, .inl (k 0, 9, .inl f_13))])) A) args s 0 0 A) (F0 m 57 ls []) := by
              intro N79
              induction N79 with
              | zero => intro H locs ls hm; exact absurd hm (Nat.not_lt_zero _)
              | succ N79 ihN79 =>
                intro H locs ls hN79 hP hD hS hl
                refine lv_iload hx hb dX2_fewestMinutes_57 (lv_at hl 0 rfl) ?_
                refine lv_bipush (v := 9) hx hb dX2_fewestMinutes_59 (by decide) ?_
                refine lv_icmp_ge (tgt := 133) hx hb dX2_fewestMinutes_61 (by decide) (fun c80 => absurd c80 (by decide)) (fun _ => ?_)
                refine lv_iload hx hb dX2_fewestMinutes_64 (lv_at hl 1 rfl) ?_
                refine lv_if_eq (tgt := 133) hx hb dX2_fewestMinutes_66 (by decide) (fun c81 => ?_) (fun c81 => ?_)
                · refine lv_iload hx hb dX2_fewestMinutes_133 (lv_at hl 2 rfl) ?_
                  refine lv_aload_n hx hb dX2_fewestMinutes_135 rfl (lv_at hl 6 rfl) ?_
                  refine va_get (D := D) (ci := 2) (v := .ref q_1) (C := RX2) (T := TX2) (N := 14) hx hb hts inX2 hown hK hP 0 rfl rfl 1 (by decide) (hts _ kF_X2_48) (fun _ h9 => h9) rfl dX2_fewestMinutes_136 ?_
                  refine va_get (D := D) (ci := 4) (v := .ref q_4) (C := RX4) (T := TX4) (N := 13) hx hb hts inX4 hown hK hP 1 rfl rfl 7 (by decide) (hts _ kF_X2_122) (fun _ h9 => h9) rfl dX2_fewestMinutes_139 ?_
                  refine lv_iload_n hx hb dX2_fewestMinutes_142 rfl (lv_at hl 4 rfl) ?_
                  refine va_iald hx hb hK hP 4 0 rfl rfl (by revert hN20 hy16 c21 h_x_8; simp only [vp_in_iff, Int32.lt_iff_toInt_lt, Int32.le_iff_toInt_le, Int64.lt_iff_toInt_lt, Int64.le_iff_toInt_le, Int32.toInt_toInt64, ← Int32.toInt_inj, ← Int64.toInt_inj, Int32.reduceToInt, Int64.reduceToInt] <;> omega) dX2_fewestMinutes_143 ?_
                  refine lv_topi (fun y82 ey82 => ?_)
                  refine lv_iadd hx hb dX2_fewestMinutes_144 ?_
                  refine lv_istore (lv' := [(7, .int (y77 + y82)), (6, .int y23), (5, .int y77), (4, .int y23), (3, .int y16), (2, .int y17), (0, .ref q_0), (1, .int x_0)]) hx hb dX2_fewestMinutes_145 hl (by decide) rfl (fun ls hl => ?_)
                  refine lv_aload_n hx hb dX2_fewestMinutes_147 rfl (lv_at hl 6 rfl) ?_
                  refine va_get (D := D) (ci := 2) (v := .ref q_2) (C := RX2) (T := TX2) (N := 14) hx hb hts inX2 hown hK hP 0 rfl rfl 13 (by decide) (hts _ kF_X2_34) (fun _ h9 => h9) rfl dX2_fewestMinutes_148 ?_
                  refine lv_iload_n hx hb dX2_fewestMinutes_151 rfl (lv_at hl 7 rfl) ?_
                  refine lv_bipush (v := 9) hx hb dX2_fewestMinutes_152 (by decide) ?_
                  refine lv_imul hx hb dX2_fewestMinutes_154 ?_
                  have e83 : Int32.toInt (x_0 * 9) = Int32.toInt x_0 * Int32.toInt (9 : Int32) := zi_mul (by revert h_x_0 c24 c25 c81 hy23; simp only [vp_in_iff, Int32.lt_iff_toInt_lt, Int32.le_iff_toInt_le, Int64.lt_iff_toInt_lt, Int64.le_iff_toInt_le, Int32.toInt_toInt64, ← Int32.toInt_inj, ← Int64.toInt_inj, Int32.reduceToInt, Int64.reduceToInt] <;> omega)
                  refine lv_iload_n hx hb dX2_fewestMinutes_155 rfl (lv_at hl 4 rfl) ?_
                  refine lv_iadd hx hb dX2_fewestMinutes_156 ?_
                  have e84 : Int32.toInt ((x_0 * 9) + y16) = Int32.toInt (x_0 * 9) + Int32.toInt y16 := zi_add (by revert h_x_0 hN20 hy16 c21 c24 c25 c81 e83 h_x_8 hy23; simp only [vp_in_iff, Int32.lt_iff_toInt_lt, Int32.le_iff_toInt_le, Int64.lt_iff_toInt_lt, Int64.le_iff_toInt_le, Int32.toInt_toInt64, ← Int32.toInt_inj, ← Int64.toInt_inj, Int32.reduceToInt, Int64.reduceToInt] <;> omega)
                  refine lv_iload hx hb dX2_fewestMinutes_157 (lv_at hl 0 rfl) ?_
                  refine va_iast hx hb hK hP hD hS 2 0 rfl rfl (by revert h_x_0 hN20 hy16 c21 c24 c25 c81 e83 e84 h_x_8 hy23; simp only [vp_in_iff, Int32.lt_iff_toInt_lt, Int32.le_iff_toInt_le, Int64.lt_iff_toInt_lt, Int64.le_iff_toInt_le, Int32.toInt_toInt64, ← Int32.toInt_inj, ← Int64.toInt_inj, Int32.reduceToInt, Int64.reduceToInt] <;> omega) dX2_fewestMinutes_159 (fun H locs hP hD hS => ?_)
                  obtain ⟨F85, eF85⟩ : ∃ q, q = upd F18 (Int32.toNatClampNeg ((x_0 * 9) + y16)) (y77 + y82) := ⟨_, rfl⟩
                  have hP : va_P D vwCl [(q_0, .inr (2, [.ref q_6, .ref q_1, .ref q_7, .int x_1, .int x_2, .ref q_8, .ref q_9, .ref q_10, .int x_3, .int x_4, .int x_5, .ref q_3, .ref q_5, .ref q_2])), (q_1, .inr (4, [.int x_6, .ref q_11, .int x_7, .ref q_12, .ref q_13, .int x_8, .ref q_14, .ref q_4, .ref q_15, .int x_9, .ref q_16, .ref q_17, .ref q_18])), (q_2, .inl (k 0, 4608, .inl F85)), (q_3, .inl (k 0, 81, .inl f_11)), (q_4, .inl (k 0, 9, .inl f_12)), (q_5, .inl (k 0, 9, .inl f_13))] H := by rw [eF85]; exact hP
                  have hD : va_D A [(q_0, .inr (2, [.ref q_6, .ref q_1, .ref q_7, .int x_1, .int x_2, .ref q_8, .ref q_9, .ref q_10, .int x_3, .int x_4, .int x_5, .ref q_3, .ref q_5, .ref q_2])), (q_1, .inr (4, [.int x_6, .ref q_11, .int x_7, .ref q_12, .ref q_13, .int x_8, .ref q_14, .ref q_4, .ref q_15, .int x_9, .ref q_16, .ref q_17, .ref q_18])), (q_2, .inl (k 0, 4608, .inl F85)), (q_3, .inl (k 0, 81, .inl f_11)), (q_4, .inl (k 0, 9, .inl f_12)), (q_5, .inl (k 0, 9, .inl f_13))] := by rw [eF85]; exact hD
                  refine lv_iload_n hx hb dX2_fewestMinutes_160 rfl (lv_at hl 5 rfl) ?_
                  refine lv_iload hx hb dX2_fewestMinutes_161 (lv_at hl 0 rfl) ?_
                  refine lv_aload_n hx hb dX2_fewestMinutes_163 rfl (lv_at hl 6 rfl) ?_
                  refine va_get (D := D) (ci := 2) (v := .ref q_5) (C := RX2) (T := TX2) (N := 14) hx hb hts inX2 hown hK hP 0 rfl rfl 12 (by decide) (hts _ kF_X2_31) (fun _ h9 => h9) rfl dX2_fewestMinutes_164 ?_
                  refine lv_iload_n hx hb dX2_fewestMinutes_167 rfl (lv_at hl 4 rfl) ?_
                  refine va_iald hx hb hK hP 5 0 rfl rfl (by revert hN20 hy16 c21 e84 h_x_0 h_x_8 c24 c25 c81 e83 hy23; simp only [vp_in_iff, Int32.lt_iff_toInt_lt, Int32.le_iff_toInt_le, Int64.lt_iff_toInt_lt, Int64.le_iff_toInt_le, Int32.toInt_toInt64, ← Int32.toInt_inj, ← Int64.toInt_inj, Int32.reduceToInt, Int64.reduceToInt] <;> omega) dX2_fewestMinutes_168 ?_
                  refine lv_topi (fun y86 ey86 => ?_)
                  refine lv_iadd hx hb dX2_fewestMinutes_169 ?_
                  refine va_mmin hx hb (by rw [hml]; exact hl.1.symm) hown (hts _ kminL_X2_125) (hts _ kminS) (hts _ kZ_J9) (hts _ kminC) (Nat.le_of_ble_eq_true rfl) (Nat.le_of_ble_eq_true rfl) (Nat.le_of_ble_eq_true rfl) (Nat.le_of_ble_eq_true rfl) dX2_fewestMinutes_170 ?_
                  refine lv_topi (fun y87 ey87 => ?_)
                  have hy87 := zo_min y17 ((y77 + y82) + y86)
                  rw [← ey87] at hy87
                  refine lv_istore_n (lv' := [(2, .int y87), (7, .int (y77 + y82)), (6, .int y23), (5, .int y77), (4, .int y23), (3, .int y16), (0, .ref q_0), (1, .int x_0)]) hx hb dX2_fewestMinutes_173 rfl hl (by decide) rfl (fun ls hl => ?_)
                  have e88 : Int32.toInt (y16 + 1) = Int32.toInt y16 + Int32.toInt (1 : Int32) := zi_add (by revert hN20 hy16 c21 e84 h_x_0 h_x_8 c24 c25 c81 e83 hy23; simp only [vp_in_iff, Int32.lt_iff_toInt_lt, Int32.le_iff_toInt_le, Int64.lt_iff_toInt_lt, Int64.le_iff_toInt_le, Int32.toInt_toInt64, ← Int32.toInt_inj, ← Int64.toInt_inj, Int32.reduceToInt, Int64.reduceToInt] <;> omega)
                  refine lv_iinc (v := (y16 + 1)) (lv' := [(3, .int (y16 + 1)), (2, .int y87), (7, .int (y77 + y82)), (6, .int y23), (5, .int y77), (4, .int y23), (0, .ref q_0), (1, .int x_0)]) hx hb dX2_fewestMinutes_174 hl (k := 5) rfl rfl (by decide) rfl (fun ls hl => ?_)
                  refine lv_goto (tgt := 5) hx hb dX2_fewestMinutes_177 (by decide) ?_
                  exact ihN20 (y16 + 1) y87 F85 _ _ ls (by revert hN20 hy16 c21 e84 e88 h_x_0 h_x_8 c24 c25 c81 e83 hy23; simp only [vp_in_iff, Int32.lt_iff_toInt_lt, Int32.le_iff_toInt_le, Int64.lt_iff_toInt_lt, Int64.le_iff_toInt_le, Int32.toInt_toInt64, ← Int32.toInt_inj, ← Int64.toInt_inj, Int32.reduceToInt, Int64.reduceToInt] <;> omega) (by revert hN20 hy16 c21 e84 e88 h_x_0 h_x_8 c24 c25 c81 e83 hy23; simp only [vp_in_iff, Int32.lt_iff_toInt_lt, Int32.le_iff_toInt_le, Int64.lt_iff_toInt_lt, Int64.le_iff_toInt_le, Int32.toInt_toInt64, ← Int32.toInt_inj, ← Int64.toInt_inj, Int32.reduceToInt, Int64.reduceToInt] <;> omega) (by revert hy17 hy87; simp only [vp_in_iff, Int32.lt_iff_toInt_lt, Int32.le_iff_toInt_le, Int64.lt_iff_toInt_lt, Int64.le_iff_toInt_le, Int32.toInt_toInt64, ← Int32.toInt_inj, ← Int64.toInt_inj, Int32.reduceToInt, Int64.reduceToInt] <;> omega) hP hD hS (lv_sub hl [0, 1, 6, 7] rfl)
                · exact (show False by revert hy23 c24 c25 c81 h_x_0; simp only [vp_in_iff, Int32.lt_iff_toInt_lt, Int32.le_iff_toInt_le, Int64.lt_iff_toInt_lt, Int64.le_iff_toInt_le, Int32.toInt_toInt64, ← Int32.toInt_inj, ← Int64.toInt_inj, Int32.reduceToInt, Int64.reduceToInt] <;> omega).elim
            exact loop78 _ _ _ _ (Nat.lt_succ_self _) hP hD hS (lv_sub hl [0, 1, 2, 3, 4, 5, 6, 7] rfl)
        · refine lv_goto (tgt := 174) hx hb dX2_fewestMinutes_29 (by decide) ?_
          have e89 : Int32.toInt (y16 + 1) = Int32.toInt y16 + Int32.toInt (1 : Int32) := zi_add (by revert hN20 hy16 c21 h_x_8; simp only [vp_in_iff, Int32.lt_iff_toInt_lt, Int32.le_iff_toInt_le, Int64.lt_iff_toInt_lt, Int64.le_iff_toInt_le, Int32.toInt_toInt64, ← Int32.toInt_inj, ← Int64.toInt_inj, Int32.reduceToInt, Int64.reduceToInt] <;> omega)
          refine lv_iinc (v := (y16 + 1)) (lv' := [(3, .int (y16 + 1)), (4, .int y23), (2, .int y17), (0, .ref q_0), (1, .int x_0)]) hx hb dX2_fewestMinutes_174 hl (k := 1) rfl rfl (by decide) rfl (fun ls hl => ?_)
          refine lv_goto (tgt := 5) hx hb dX2_fewestMinutes_177 (by decide) ?_
          exact ihN20 (y16 + 1) y17 F18 _ _ ls (by revert hN20 hy16 c21 e89 h_x_8; simp only [vp_in_iff, Int32.lt_iff_toInt_lt, Int32.le_iff_toInt_le, Int64.lt_iff_toInt_lt, Int64.le_iff_toInt_le, Int32.toInt_toInt64, ← Int32.toInt_inj, ← Int64.toInt_inj, Int32.reduceToInt, Int64.reduceToInt] <;> omega) (by revert hN20 hy16 c21 e89 h_x_8; simp only [vp_in_iff, Int32.lt_iff_toInt_lt, Int32.le_iff_toInt_le, Int64.lt_iff_toInt_lt, Int64.le_iff_toInt_le, Int32.toInt_toInt64, ← Int32.toInt_inj, ← Int64.toInt_inj, Int32.reduceToInt, Int64.reduceToInt] <;> omega) (by revert hy17; simp only [vp_in_iff, Int32.lt_iff_toInt_lt, Int32.le_iff_toInt_le, Int64.lt_iff_toInt_lt, Int64.le_iff_toInt_le, Int32.toInt_toInt64, ← Int32.toInt_inj, ← Int64.toInt_inj, Int32.reduceToInt, Int64.reduceToInt] <;> omega) hP hD hS (lv_sub hl [0, 2, 3, 4] rfl)
  exact loop19 _ 0 1000000 f_10 _ _ _ (Nat.lt_succ_self _) (by simp only [vp_in_iff, Int32.lt_iff_toInt_lt, Int32.le_iff_toInt_le, Int64.lt_iff_toInt_lt, Int64.le_iff_toInt_le, Int32.toInt_toInt64, ← Int32.toInt_inj, ← Int64.toInt_inj, Int32.reduceToInt, Int64.reduceToInt] <;> omega) (by simp only [vp_in_iff, Int32.lt_iff_toInt_lt, Int32.le_iff_toInt_le, Int64.lt_iff_toInt_lt, Int64.le_iff_toInt_le, Int32.toInt_toInt64, ← Int32.toInt_inj, ← Int64.toInt_inj, Int32.reduceToInt, Int64.reduceToInt] <;> omega) hP hD hS (lv_sub hl [0, 1, 2, 3] rfl)

set_option maxHeartbeats 4000000 in
set_option maxRecDepth 100000 in
theorem s_X2_fewestMinutes_3 (l : Launch) (D : va_G) (k : Nat → ClassId) (q_0 : Nat) (q_1 : Nat) (q_2 : Nat) (q_3 : Nat) (q_4 : Nat) (q_5 : Nat) (q_6 : Nat) (q_7 : Nat) (q_8 : Nat) (q_9 : Nat) (q_10 : Nat) (q_11 : Nat) (q_12 : Nat) (q_13 : Nat) (q_14 : Nat) (q_15 : Nat) (q_16 : Nat) (q_17 : Nat) (q_18 : Nat) (x_0 : Int32) (x_1 : Int32) (x_2 : Int32) (x_3 : Int32) (x_4 : Int32) (x_5 : Int32) (x_6 : Int32) (x_7 : Int32) (x_8 : Int32) (x_9 : Int32) (f_10 : Nat → Int32) (f_11 : Nat → Int32) (f_12 : Nat → Int32) (f_13 : Nat → Int32) (h_x_0 : 1 ≤ Int32.toInt x_0 ∧ Int32.toInt x_0 ≤ 3) (h_x_1 : 0 ≤ Int32.toInt x_1 ∧ Int32.toInt x_1 ≤ 6) (h_x_3 : 0 ≤ Int32.toInt x_3 ∧ Int32.toInt x_3 ≤ 2) (h_x_4 : 0 ≤ Int32.toInt x_4 ∧ Int32.toInt x_4 ≤ 2147483647) (h_x_5 : (-2147483648) ≤ Int32.toInt x_5 ∧ Int32.toInt x_5 ≤ 1000000) (h_x_6 : 0 ≤ Int32.toInt x_6 ∧ Int32.toInt x_6 ≤ 6) (h_x_7 : 0 ≤ Int32.toInt x_7 ∧ Int32.toInt x_7 ≤ 6) (h_x_8 : 0 ≤ Int32.toInt x_8 ∧ Int32.toInt x_8 ≤ 9) (h_x_9 : 0 ≤ Int32.toInt x_9 ∧ Int32.toInt x_9 ≤ 12) : zMi l yX2_fewestMinutes cX2_fewestMinutes 9 (some .int) ({ frames := 1, cells := 0, slots := 0, locals := 40 }) D k [.ref q_0, .int x_0] [(q_0, .inr (2, [.ref q_6, .ref q_1, .ref q_7, .int x_1, .int x_2, .ref q_8, .ref q_9, .ref q_10, .int x_3, .int x_4, .int x_5, .ref q_3, .ref q_5, .ref q_2])), (q_1, .inr (4, [.int x_6, .ref q_11, .int x_7, .ref q_12, .ref q_13, .int x_8, .ref q_14, .ref q_4, .ref q_15, .int x_9, .ref q_16, .ref q_17, .ref q_18])), (q_2, .inl (k 0, 4608, .inl f_10)), (q_3, .inl (k 0, 81, .inl f_11)), (q_4, .inl (k 0, 9, .inl f_12)), (q_5, .inl (k 0, 9, .inl f_13))] (fun r u => u.1 = 0 ∧ ((-2147483648) ≤ Int32.toInt r ∧ Int32.toInt r ≤ 1000000)) (fun u => [(q_0, .inr (2, [.ref q_6, .ref q_1, .ref q_7, .int x_1, .int x_2, .ref q_8, .ref q_9, .ref q_10, .int x_3, .int x_4, .int x_5, .ref q_3, .ref q_5, .ref q_2])), (q_1, .inr (4, [.int x_6, .ref q_11, .int x_7, .ref q_12, .ref q_13, .int x_8, .ref q_14, .ref q_4, .ref q_15, .int x_9, .ref q_16, .ref q_17, .ref q_18])), (q_2, .inl (k 0, 4608, .inl (u.2.2.2.2.1 0))), (q_3, .inl (k 0, 81, .inl f_11)), (q_4, .inl (k 0, 9, .inl f_12)), (q_5, .inl (k 0, 9, .inl f_13))]) := by
  refine zMi_of (own := RX2) (by decide +kernel) rfl (Nat.le_of_ble_eq_true rfl) ?_
  intro p e s m args below meth c A ls C0 hr hlk hin hP hD hS hA hK hN hl
  have hx := C0.1
  have hb := C0.2.1
  have hml := C0.2.2.1
  have hown := C0.2.2.2.1
  have hts := C0.2.2.2.2
  have hl : lv_has ls 9 [(0, .ref q_0), (1, .int x_0)] := hl
  have hP : va_P D vwCl [(q_0, .inr (2, [.ref q_6, .ref q_1, .ref q_7, .int x_1, .int x_2, .ref q_8, .ref q_9, .ref q_10, .int x_3, .int x_4, .int x_5, .ref q_3, .ref q_5, .ref q_2])), (q_1, .inr (4, [.int x_6, .ref q_11, .int x_7, .ref q_12, .ref q_13, .int x_8, .ref q_14, .ref q_4, .ref q_15, .int x_9, .ref q_16, .ref q_17, .ref q_18])), (q_2, .inl (k 0, 4608, .inl f_10)), (q_3, .inl (k 0, 81, .inl f_11)), (q_4, .inl (k 0, 9, .inl f_12)), (q_5, .inl (k 0, 9, .inl f_13))] s.heap := hP
  refine lv_ldc hx hb hown (hts _ kK_X2_121) dX2_fewestMinutes_0 ?_
  refine lv_istore_n (lv' := [(2, .int 1000000), (0, .ref q_0), (1, .int x_0)]) hx hb dX2_fewestMinutes_2 rfl hl (by decide) rfl (fun ls hl => ?_)
  refine lv_iconst (v := 0) hx hb dX2_fewestMinutes_3 (by decide) ?_
  refine lv_istore_n (lv' := [(3, .int 0), (2, .int 1000000), (0, .ref q_0), (1, .int x_0)]) hx hb dX2_fewestMinutes_4 rfl hl (by decide) rfl (fun ls hl => ?_)
  have loop19 : ∀ (N20 : Nat) (y16 : Int32) (y17 : Int32) (F18 : Nat → Int32) (H : Heap) (locs : List Loc) (ls : Array Slot), Int.toNat (9 - Int32.toInt y16) < N20 → 0 ≤ Int32.toInt y16 ∧ Int32.toInt y16 ≤ 9 → (-2147483648) ≤ Int32.toInt y17 ∧ Int32.toInt y17 ≤ 1000000 → va_P D vwCl [(q_0, .inr (2, [.ref q_6, .ref q_1, .ref q_7, .int x_1, .int x_2, .ref q_8, .ref q_9, .ref q_10, .int x_3, .int x_4, .int x_5, .ref q_3, .ref q_5, .ref q_2])), (q_1, .inr (4, [.int x_6, .ref q_11, .int x_7, .ref q_12, .ref q_13, .int x_8, .ref q_14, .ref q_4, .ref q_15, .int x_9, .ref q_16, .ref q_17, .ref q_18])), (q_2, .inl (k 0, 4608, .inl F18)), (q_3, .inl (k 0, 81, .inl f_11)), (q_4, .inl (k 0, 9, .inl f_12)), (q_5, .inl (k 0, 9, .inl f_13))] H → va_D A [(q_0, .inr (2, [.ref q_6, .ref q_1, .ref q_7, .int x_1, .int x_2, .ref q_8, .ref q_9, .ref q_10, .int x_3, .int x_4, .int x_5, .ref q_3, .ref q_5, .ref q_2])), (q_1, .inr (4, [.int x_6, .ref q_11, .int x_7, .ref q_12, .ref q_13, .int x_8, .ref q_14, .ref q_4, .ref q_15, .int x_9, .ref q_16, .ref q_17, .ref q_18])), (q_2, .inl (k 0, 4608, .inl F18)), (q_3, .inl (k 0, 81, .inl f_11)), (q_4, .inl (k 0, 9, .inl f_12)), (q_5, .inl (k 0, 9, .inl f_13))] → va_S A s.heap H locs → lv_has ls 9 [(3, .int y16), (2, .int y17), (0, .ref q_0), (1, .int x_0)] → W p l e { frames := 1, cells := 0, slots := 0, locals := 40 } s m args below meth c H locs 0 0 (MQ below (va_Qi (fun (r : Int32) (u : zS) => u.1 = 0 ∧ ((-2147483648) ≤ Int32.toInt r ∧ Int32.toInt r ≤ 1000000)) (zB D k A (fun (u : zS) => [(q_0, .inr (2, [.ref q_6, .ref q_1, .ref q_7, .int x_1, .int x_2, .ref q_8, .ref q_9, .ref q_10, .int x_3, .int x_4, .int x_5, .ref q_3, .ref q_5, .ref q_2])), (q_1, .inr (4, [.int x_6, .ref q_11, .int x_7, .ref q_12, .ref q_13, .int x_8, .ref q_14, .ref q_4, .ref q_15, .int x_9, .ref q_16, .ref q_17, .ref q_18])), (q_2, .inl (k 0, 4608, .inl (u.2.2.2.2.1 0))), (q_3, .inl (k 0, 81, .inl f_11)), (q_4, .inl (k 0, 9, .inl f_12)), (q_5, .inl (k 0, 9, .inl f_13))])) A) args s 0 0 A) (F0 m 5 ls []) := by
    intro N20
    induction N20 with
    | zero => intro y16 y17 F18 H locs ls hm; exact absurd hm (Nat.not_lt_zero _)
    | succ N20 ihN20 =>
      intro y16 y17 F18 H locs ls hN20 hy16 hy17 hP hD hS hl
      refine lv_iload_n hx hb dX2_fewestMinutes_5 rfl (lv_at hl 0 rfl) ?_
      refine lv_aload_n hx hb dX2_fewestMinutes_6 rfl (lv_at hl 2 rfl) ?_
      refine va_get (D := D) (ci := 2) (v := .ref q_1) (C := RX2) (T := TX2) (N := 14) hx hb hts inX2 hown hK hP 0 rfl rfl 1 (by decide) (hts _ kF_X2_48) (fun _ h9 => h9) rfl dX2_fewestMinutes_7 ?_
      refine va_get (D := D) (ci := 4) (v := .int x_8) (C := RX4) (T := TX4) (N := 13) hx hb hts inX4 hown hK hP 1 rfl rfl 5 (by decide) (hts _ kF_X2_97) (fun _ h9 => h9) rfl dX2_fewestMinutes_10 ?_
      refine lv_icmp_ge (tgt := 180) hx hb dX2_fewestMinutes_13 (by decide) (fun c21 => ?_) (fun c21 => ?_)
      · refine lv_iload_n hx hb dX2_fewestMinutes_180 rfl (lv_at hl 1 rfl) ?_
        exact z_iret C0 hr hlk rfl hK hP hD hS (0, fun _ => 0, fun _ => 0, fun _ => 0, fun i => [F18].getD i (fun _ => 0), fun _ => (fun _ => 0), fun _ => (fun _ => none)) ⟨rfl, (by revert hy17; simp only [vp_in_iff, Int32.lt_iff_toInt_lt, Int32.le_iff_toInt_le, Int64.lt_iff_toInt_lt, Int64.le_iff_toInt_le, Int32.toInt_toInt64, ← Int32.toInt_inj, ← Int64.toInt_inj, Int32.reduceToInt, Int64.reduceToInt] <;> omega)⟩ [0, 1, 2, 3, 4, 5] rfl rfl rfl dX2_fewestMinutes_181
      · refine lv_iload_n hx hb dX2_fewestMinutes_16 rfl (lv_at hl 3 rfl) ?_
        refine lv_iconst (v := 1) hx hb dX2_fewestMinutes_17 (by decide) ?_
        refine lv_iload_n hx hb dX2_fewestMinutes_18 rfl (lv_at hl 0 rfl) ?_
        refine lv_ishl hx hb dX2_fewestMinutes_19 ?_
        refine lv_topi (fun y22 ey22 => ?_)
        have hy22 : 1 ≤ Int32.toInt y22 ∧ Int32.toInt y22 ≤ 256 := by rw [ey22]; exact zo_shl1 8 (show 0 ≤ Int32.toInt y16 ∧ Int32.toInt y16 ≤ 8 by revert hN20 hy16 c21 h_x_8; simp only [vp_in_iff, Int32.lt_iff_toInt_lt, Int32.le_iff_toInt_le, Int64.lt_iff_toInt_lt, Int64.le_iff_toInt_le, Int32.toInt_toInt64, ← Int32.toInt_inj, ← Int64.toInt_inj, Int32.reduceToInt, Int64.reduceToInt] <;> omega) (by decide)
        refine lv_ixor hx hb dX2_fewestMinutes_20 ?_
        refine lv_topi (fun y23 ey23 => ?_)
        have hy23 : 0 ≤ Int32.toInt y23 ∧ Int32.toInt y23 ≤ 511 := by rw [ey23]; exact zo_xor 9 (show 0 ≤ Int32.toInt x_0 ∧ Int32.toInt x_0 < 2 ^ 9 by revert h_x_0 hy22; simp only [vp_in_iff, Int32.lt_iff_toInt_lt, Int32.le_iff_toInt_le, Int64.lt_iff_toInt_lt, Int64.le_iff_toInt_le, Int32.toInt_toInt64, ← Int32.toInt_inj, ← Int64.toInt_inj, Int32.reduceToInt, Int64.reduceToInt] <;> omega) (show 0 ≤ Int32.toInt y22 ∧ Int32.toInt y22 < 2 ^ 9 by revert h_x_0 hy22; simp only [vp_in_iff, Int32.lt_iff_toInt_lt, Int32.le_iff_toInt_le, Int64.lt_iff_toInt_lt, Int64.le_iff_toInt_le, Int32.toInt_toInt64, ← Int32.toInt_inj, ← Int64.toInt_inj, Int32.reduceToInt, Int64.reduceToInt] <;> omega) (by decide)
        refine lv_istore (lv' := [(4, .int y23), (3, .int y16), (2, .int y17), (0, .ref q_0), (1, .int x_0)]) hx hb dX2_fewestMinutes_21 hl (by decide) rfl (fun ls hl => ?_)
        refine lv_iload hx hb dX2_fewestMinutes_23 (lv_at hl 0 rfl) ?_
        refine lv_iload_n hx hb dX2_fewestMinutes_25 rfl (lv_at hl 4 rfl) ?_
        refine lv_icmp_le (tgt := 32) hx hb dX2_fewestMinutes_26 (by decide) (fun c24 => ?_) (fun c24 => ?_)
        · refine lv_iload hx hb dX2_fewestMinutes_32 (lv_at hl 0 rfl) ?_
          refine lv_if_ne (tgt := 46) hx hb dX2_fewestMinutes_34 (by decide) (fun c25 => ?_) (fun c25 => ?_)
          · refine lv_ldc hx hb hown (hts _ kK_X2_121) dX2_fewestMinutes_46 ?_
            refine lv_istore (lv' := [(5, .int 1000000), (4, .int y23), (3, .int y16), (2, .int y17), (0, .ref q_0), (1, .int x_0)]) hx hb dX2_fewestMinutes_48 hl (by decide) rfl (fun ls hl => ?_)
            refine lv_iload hx hb dX2_fewestMinutes_50 (lv_at hl 1 rfl) ?_
            refine lv_istore (lv' := [(6, .int y23), (5, .int 1000000), (4, .int y23), (3, .int y16), (2, .int y17), (0, .ref q_0), (1, .int x_0)]) hx hb dX2_fewestMinutes_52 hl (by decide) rfl (fun ls hl => ?_)
            refine lv_iconst (v := 0) hx hb dX2_fewestMinutes_54 (by decide) ?_
            refine lv_istore (lv' := [(7, .int 0), (6, .int y23), (5, .int 1000000), (4, .int y23), (3, .int y16), (2, .int y17), (0, .ref q_0), (1, .int x_0)]) hx hb dX2_fewestMinutes_55 hl (by decide) rfl (fun ls hl => ?_)
            have loop44 : ∀ (N45 : Nat) (y41 : Int32) (y42 : Int32) (y43 : Int32) (H : Heap) (locs : List Loc) (ls : Array Slot), Int.toNat (9 - Int32.toInt y41) < N45 → 0 ≤ Int32.toInt y41 ∧ Int32.toInt y41 ≤ 9 → va_P D vwCl [(q_0, .inr (2, [.ref q_6, .ref q_1, .ref q_7, .int x_1, .int x_2, .ref q_8, .ref q_9, .ref q_10, .int x_3, .int x_4, .int x_5, .ref q_3, .ref q_5, .ref q_2])), (q_1, .inr (4, [.int x_6, .ref q_11, .int x_7, .ref q_12, .ref q_13, .int x_8, .ref q_14, .ref q_4, .ref q_15, .int x_9, .ref q_16, .ref q_17, .ref q_18])), (q_2, .inl (k 0, 4608, .inl F18)), (q_3, .inl (k 0, 81, .inl f_11)), (q_4, .inl (k 0, 9, .inl f_12)), (q_5, .inl (k 0, 9, .inl f_13))] H → va_D A [(q_0, .inr (2, [.ref q_6, .ref q_1, .ref q_7, .int x_1, .int x_2, .ref q_8, .ref q_9, .ref q_10, .int x_3, .int x_4, .int x_5, .ref q_3, .ref q_5, .ref q_2])), (q_1, .inr (4, [.int x_6, .ref q_11, .int x_7, .ref q_12, .ref q_13, .int x_8, .ref q_14, .ref q_4, .ref q_15, .int x_9, .ref q_16, .ref q_17, .ref q_18])), (q_2, .inl (k 0, 4608, .inl F18)), (q_3, .inl (k 0, 81, .inl f_11)), (q_4, .inl (k 0, 9, .inl f_12)), (q_5, .inl (k 0, 9, .inl f_13))] → va_S A s.heap H locs → lv_has ls 9 [(7, .int y41), (6, .int y42), (5, .int y43), (4, .int y23), (3, .int y16), (2, .int y17), (0, .ref q_0), (1, .int x_0)] → W p l e { frames := 1, cells := 0, slots := 0, locals := 40 } s m args below meth c H locs 0 0 (MQ below (va_Qi (fun (r : Int32) (u : zS) => u.1 = 0 ∧ ((-2147483648) ≤ Int32.toInt r ∧ Int32.toInt r ≤ 1000000)) (zB D k A (fun (u : zS) => [(q_0, .inr (2, [.ref q_6, .ref q_1, .ref q_7, .int x_1, .int x_2, .ref q_8, .ref q_9, .ref q_10, .int x_3, .int x_4, .int x_5, .ref q_3, .ref q_5, .ref q_2])), (q_1, .inr (4, [.int x_6, .ref q_11, .int x_7, .ref q_12, .ref q_13, .int x_8, .ref q_14, .ref q_4, .ref q_15, .int x_9, .ref q_16, .ref q_17, .ref q_18])), (q_2, .inl (k 0, 4608, .inl (u.2.2.2.2.1 0))), (q_3, .inl (k 0, 81, .inl f_11)), (q_4, .inl (k 0, 9, .inl f_12)), (q_5, .inl (k 0, 9, .inl f_13))])) A) args s 0 0 A) (F0 m 57 ls []) := by
              intro N45
              induction N45 with
              | zero => intro y41 y42 y43 H locs ls hm; exact absurd hm (Nat.not_lt_zero _)
              | succ N45 ihN45 =>
                intro y41 y42 y43 H locs ls hN45 hy41 hP hD hS hl
                refine lv_iload hx hb dX2_fewestMinutes_57 (lv_at hl 0 rfl) ?_
                refine lv_bipush (v := 9) hx hb dX2_fewestMinutes_59 (by decide) ?_
                refine lv_icmp_ge (tgt := 133) hx hb dX2_fewestMinutes_61 (by decide) (fun c46 => ?_) (fun c46 => ?_)
                · refine lv_iload hx hb dX2_fewestMinutes_133 (lv_at hl 2 rfl) ?_
                  refine lv_aload_n hx hb dX2_fewestMinutes_135 rfl (lv_at hl 6 rfl) ?_
                  refine va_get (D := D) (ci := 2) (v := .ref q_1) (C := RX2) (T := TX2) (N := 14) hx hb hts inX2 hown hK hP 0 rfl rfl 1 (by decide) (hts _ kF_X2_48) (fun _ h9 => h9) rfl dX2_fewestMinutes_136 ?_
                  refine va_get (D := D) (ci := 4) (v := .ref q_4) (C := RX4) (T := TX4) (N := 13) hx hb hts inX4 hown hK hP 1 rfl rfl 7 (by decide) (hts _ kF_X2_122) (fun _ h9 => h9) rfl dX2_fewestMinutes_139 ?_
                  refine lv_iload_n hx hb dX2_fewestMinutes_142 rfl (lv_at hl 4 rfl) ?_
                  refine va_iald hx hb hK hP 4 0 rfl rfl (by revert hN20 hy16 c21 h_x_8; simp only [vp_in_iff, Int32.lt_iff_toInt_lt, Int32.le_iff_toInt_le, Int64.lt_iff_toInt_lt, Int64.le_iff_toInt_le, Int32.toInt_toInt64, ← Int32.toInt_inj, ← Int64.toInt_inj, Int32.reduceToInt, Int64.reduceToInt] <;> omega) dX2_fewestMinutes_143 ?_
                  refine lv_topi (fun y47 ey47 => ?_)
                  refine lv_iadd hx hb dX2_fewestMinutes_144 ?_
                  refine lv_istore (lv' := [(7, .int (y43 + y47)), (6, .int y42), (5, .int y43), (4, .int y23), (3, .int y16), (2, .int y17), (0, .ref q_0), (1, .int x_0)]) hx hb dX2_fewestMinutes_145 hl (by decide) rfl (fun ls hl => ?_)
                  refine lv_aload_n hx hb dX2_fewestMinutes_147 rfl (lv_at hl 6 rfl) ?_
                  refine va_get (D := D) (ci := 2) (v := .ref q_2) (C := RX2) (T := TX2) (N := 14) hx hb hts inX2 hown hK hP 0 rfl rfl 13 (by decide) (hts _ kF_X2_34) (fun _ h9 => h9) rfl dX2_fewestMinutes_148 ?_
                  refine lv_iload_n hx hb dX2_fewestMinutes_151 rfl (lv_at hl 7 rfl) ?_
                  refine lv_bipush (v := 9) hx hb dX2_fewestMinutes_152 (by decide) ?_
                  refine lv_imul hx hb dX2_fewestMinutes_154 ?_
                  have e48 : Int32.toInt (x_0 * 9) = Int32.toInt x_0 * Int32.toInt (9 : Int32) := zi_mul (by revert h_x_0 c24 c25 hy23; simp only [vp_in_iff, Int32.lt_iff_toInt_lt, Int32.le_iff_toInt_le, Int64.lt_iff_toInt_lt, Int64.le_iff_toInt_le, Int32.toInt_toInt64, ← Int32.toInt_inj, ← Int64.toInt_inj, Int32.reduceToInt, Int64.reduceToInt] <;> omega)
                  refine lv_iload_n hx hb dX2_fewestMinutes_155 rfl (lv_at hl 4 rfl) ?_
                  refine lv_iadd hx hb dX2_fewestMinutes_156 ?_
                  have e49 : Int32.toInt ((x_0 * 9) + y16) = Int32.toInt (x_0 * 9) + Int32.toInt y16 := zi_add (by revert h_x_0 hN20 hy16 c21 c24 c25 e48 h_x_8 hy23; simp only [vp_in_iff, Int32.lt_iff_toInt_lt, Int32.le_iff_toInt_le, Int64.lt_iff_toInt_lt, Int64.le_iff_toInt_le, Int32.toInt_toInt64, ← Int32.toInt_inj, ← Int64.toInt_inj, Int32.reduceToInt, Int64.reduceToInt] <;> omega)
                  refine lv_iload hx hb dX2_fewestMinutes_157 (lv_at hl 0 rfl) ?_
                  refine va_iast hx hb hK hP hD hS 2 0 rfl rfl (by revert h_x_0 hN20 hy16 c21 c24 c25 e48 e49 h_x_8 hy23; simp only [vp_in_iff, Int32.lt_iff_toInt_lt, Int32.le_iff_toInt_le, Int64.lt_iff_toInt_lt, Int64.le_iff_toInt_le, Int32.toInt_toInt64, ← Int32.toInt_inj, ← Int64.toInt_inj, Int32.reduceToInt, Int64.reduceToInt] <;> omega) dX2_fewestMinutes_159 (fun H locs hP hD hS => ?_)
                  obtain ⟨F50, eF50⟩ : ∃ q, q = upd F18 (Int32.toNatClampNeg ((x_0 * 9) + y16)) (y43 + y47) := ⟨_, rfl⟩
                  have hP : va_P D vwCl [(q_0, .inr (2, [.ref q_6, .ref q_1, .ref q_7, .int x_1, .int x_2, .ref q_8, .ref q_9, .ref q_10, .int x_3, .int x_4, .int x_5, .ref q_3, .ref q_5, .ref q_2])), (q_1, .inr (4, [.int x_6, .ref q_11, .int x_7, .ref q_12, .ref q_13, .int x_8, .ref q_14, .ref q_4, .ref q_15, .int x_9, .ref q_16, .ref q_17, .ref q_18])), (q_2, .inl (k 0, 4608, .inl F50)), (q_3, .inl (k 0, 81, .inl f_11)), (q_4, .inl (k 0, 9, .inl f_12)), (q_5, .inl (k 0, 9, .inl f_13))] H := by rw [eF50]; exact hP
                  have hD : va_D A [(q_0, .inr (2, [.ref q_6, .ref q_1, .ref q_7, .int x_1, .int x_2, .ref q_8, .ref q_9, .ref q_10, .int x_3, .int x_4, .int x_5, .ref q_3, .ref q_5, .ref q_2])), (q_1, .inr (4, [.int x_6, .ref q_11, .int x_7, .ref q_12, .ref q_13, .int x_8, .ref q_14, .ref q_4, .ref q_15, .int x_9, .ref q_16, .ref q_17, .ref q_18])), (q_2, .inl (k 0, 4608, .inl F50)), (q_3, .inl (k 0, 81, .inl f_11)), (q_4, .inl (k 0, 9, .inl f_12)), (q_5, .inl (k 0, 9, .inl f_13))] := by rw [eF50]; exact hD
                  refine lv_iload_n hx hb dX2_fewestMinutes_160 rfl (lv_at hl 5 rfl) ?_
                  refine lv_iload hx hb dX2_fewestMinutes_161 (lv_at hl 0 rfl) ?_
                  refine lv_aload_n hx hb dX2_fewestMinutes_163 rfl (lv_at hl 6 rfl) ?_
                  refine va_get (D := D) (ci := 2) (v := .ref q_5) (C := RX2) (T := TX2) (N := 14) hx hb hts inX2 hown hK hP 0 rfl rfl 12 (by decide) (hts _ kF_X2_31) (fun _ h9 => h9) rfl dX2_fewestMinutes_164 ?_
                  refine lv_iload_n hx hb dX2_fewestMinutes_167 rfl (lv_at hl 4 rfl) ?_
                  refine va_iald hx hb hK hP 5 0 rfl rfl (by revert hN20 hy16 c21 e49 h_x_0 h_x_8 c24 c25 e48 hy23; simp only [vp_in_iff, Int32.lt_iff_toInt_lt, Int32.le_iff_toInt_le, Int64.lt_iff_toInt_lt, Int64.le_iff_toInt_le, Int32.toInt_toInt64, ← Int32.toInt_inj, ← Int64.toInt_inj, Int32.reduceToInt, Int64.reduceToInt] <;> omega) dX2_fewestMinutes_168 ?_
                  refine lv_topi (fun y51 ey51 => ?_)
                  refine lv_iadd hx hb dX2_fewestMinutes_169 ?_
                  refine va_mmin hx hb (by rw [hml]; exact hl.1.symm) hown (hts _ kminL_X2_125) (hts _ kminS) (hts _ kZ_J9) (hts _ kminC) (Nat.le_of_ble_eq_true rfl) (Nat.le_of_ble_eq_true rfl) (Nat.le_of_ble_eq_true rfl) (Nat.le_of_ble_eq_true rfl) dX2_fewestMinutes_170 ?_
                  refine lv_topi (fun y52 ey52 => ?_)
                  have hy52 := zo_min y17 ((y43 + y47) + y51)
                  rw [← ey52] at hy52
                  refine lv_istore_n (lv' := [(2, .int y52), (7, .int (y43 + y47)), (6, .int y42), (5, .int y43), (4, .int y23), (3, .int y16), (0, .ref q_0), (1, .int x_0)]) hx hb dX2_fewestMinutes_173 rfl hl (by decide) rfl (fun ls hl => ?_)
                  have e53 : Int32.toInt (y16 + 1) = Int32.toInt y16 + Int32.toInt (1 : Int32) := zi_add (by revert hN20 hy16 c21 e49 h_x_0 h_x_8 c24 c25 e48 hy23; simp only [vp_in_iff, Int32.lt_iff_toInt_lt, Int32.le_iff_toInt_le, Int64.lt_iff_toInt_lt, Int64.le_iff_toInt_le, Int32.toInt_toInt64, ← Int32.toInt_inj, ← Int64.toInt_inj, Int32.reduceToInt, Int64.reduceToInt] <;> omega)
                  refine lv_iinc (v := (y16 + 1)) (lv' := [(3, .int (y16 + 1)), (2, .int y52), (7, .int (y43 + y47)), (6, .int y42), (5, .int y43), (4, .int y23), (0, .ref q_0), (1, .int x_0)]) hx hb dX2_fewestMinutes_174 hl (k := 5) rfl rfl (by decide) rfl (fun ls hl => ?_)
                  refine lv_goto (tgt := 5) hx hb dX2_fewestMinutes_177 (by decide) ?_
                  exact ihN20 (y16 + 1) y52 F50 _ _ ls (by revert hN20 hy16 c21 e49 e53 h_x_0 h_x_8 c24 c25 e48 hy23; simp only [vp_in_iff, Int32.lt_iff_toInt_lt, Int32.le_iff_toInt_le, Int64.lt_iff_toInt_lt, Int64.le_iff_toInt_le, Int32.toInt_toInt64, ← Int32.toInt_inj, ← Int64.toInt_inj, Int32.reduceToInt, Int64.reduceToInt] <;> omega) (by revert hN20 hy16 c21 e49 e53 h_x_0 h_x_8 c24 c25 e48 hy23; simp only [vp_in_iff, Int32.lt_iff_toInt_lt, Int32.le_iff_toInt_le, Int64.lt_iff_toInt_lt, Int64.le_iff_toInt_le, Int32.toInt_toInt64, ← Int32.toInt_inj, ← Int64.toInt_inj, Int32.reduceToInt, Int64.reduceToInt] <;> omega) (by revert hy17 hy52; simp only [vp_in_iff, Int32.lt_iff_toInt_lt, Int32.le_iff_toInt_le, Int64.lt_iff_toInt_lt, Int64.le_iff_toInt_le, Int32.toInt_toInt64, ← Int32.toInt_inj, ← Int64.toInt_inj, Int32.reduceToInt, Int64.reduceToInt] <;> omega) hP hD hS (lv_sub hl [0, 1, 6, 7] rfl)
                · refine lv_iload hx hb dX2_fewestMinutes_64 (lv_at hl 1 rfl) ?_
                  refine lv_if_eq (tgt := 133) hx hb dX2_fewestMinutes_66 (by decide) (fun c54 => ?_) (fun c54 => ?_)
                  · refine lv_iload hx hb dX2_fewestMinutes_133 (lv_at hl 2 rfl) ?_
                    refine lv_aload_n hx hb dX2_fewestMinutes_135 rfl (lv_at hl 6 rfl) ?_
                    refine va_get (D := D) (ci := 2) (v := .ref q_1) (C := RX2) (T := TX2) (N := 14) hx hb hts inX2 hown hK hP 0 rfl rfl 1 (by decide) (hts _ kF_X2_48) (fun _ h9 => h9) rfl dX2_fewestMinutes_136 ?_
                    refine va_get (D := D) (ci := 4) (v := .ref q_4) (C := RX4) (T := TX4) (N := 13) hx hb hts inX4 hown hK hP 1 rfl rfl 7 (by decide) (hts _ kF_X2_122) (fun _ h9 => h9) rfl dX2_fewestMinutes_139 ?_
                    refine lv_iload_n hx hb dX2_fewestMinutes_142 rfl (lv_at hl 4 rfl) ?_
                    refine va_iald hx hb hK hP 4 0 rfl rfl (by revert hN20 hy16 c21 h_x_8; simp only [vp_in_iff, Int32.lt_iff_toInt_lt, Int32.le_iff_toInt_le, Int64.lt_iff_toInt_lt, Int64.le_iff_toInt_le, Int32.toInt_toInt64, ← Int32.toInt_inj, ← Int64.toInt_inj, Int32.reduceToInt, Int64.reduceToInt] <;> omega) dX2_fewestMinutes_143 ?_
                    refine lv_topi (fun y55 ey55 => ?_)
                    refine lv_iadd hx hb dX2_fewestMinutes_144 ?_
                    refine lv_istore (lv' := [(7, .int (y43 + y55)), (6, .int y42), (5, .int y43), (4, .int y23), (3, .int y16), (2, .int y17), (0, .ref q_0), (1, .int x_0)]) hx hb dX2_fewestMinutes_145 hl (by decide) rfl (fun ls hl => ?_)
                    refine lv_aload_n hx hb dX2_fewestMinutes_147 rfl (lv_at hl 6 rfl) ?_
                    refine va_get (D := D) (ci := 2) (v := .ref q_2) (C := RX2) (T := TX2) (N := 14) hx hb hts inX2 hown hK hP 0 rfl rfl 13 (by decide) (hts _ kF_X2_34) (fun _ h9 => h9) rfl dX2_fewestMinutes_148 ?_
                    refine lv_iload_n hx hb dX2_fewestMinutes_151 rfl (lv_at hl 7 rfl) ?_
                    refine lv_bipush (v := 9) hx hb dX2_fewestMinutes_152 (by decide) ?_
                    refine lv_imul hx hb dX2_fewestMinutes_154 ?_
                    have e56 : Int32.toInt (x_0 * 9) = Int32.toInt x_0 * Int32.toInt (9 : Int32) := zi_mul (by revert h_x_0 c24 c25 hy23; simp only [vp_in_iff, Int32.lt_iff_toInt_lt, Int32.le_iff_toInt_le, Int64.lt_iff_toInt_lt, Int64.le_iff_toInt_le, Int32.toInt_toInt64, ← Int32.toInt_inj, ← Int64.toInt_inj, Int32.reduceToInt, Int64.reduceToInt] <;> omega)
                    refine lv_iload_n hx hb dX2_fewestMinutes_155 rfl (lv_at hl 4 rfl) ?_
                    refine lv_iadd hx hb dX2_fewestMinutes_156 ?_
                    have e57 : Int32.toInt ((x_0 * 9) + y16) = Int32.toInt (x_0 * 9) + Int32.toInt y16 := zi_add (by revert h_x_0 hN20 hy16 c21 c24 c25 e56 h_x_8 hy23; simp only [vp_in_iff, Int32.lt_iff_toInt_lt, Int32.le_iff_toInt_le, Int64.lt_iff_toInt_lt, Int64.le_iff_toInt_le, Int32.toInt_toInt64, ← Int32.toInt_inj, ← Int64.toInt_inj, Int32.reduceToInt, Int64.reduceToInt] <;> omega)
                    refine lv_iload hx hb dX2_fewestMinutes_157 (lv_at hl 0 rfl) ?_
                    refine va_iast hx hb hK hP hD hS 2 0 rfl rfl (by revert h_x_0 hN20 hy16 c21 c24 c25 e56 e57 h_x_8 hy23; simp only [vp_in_iff, Int32.lt_iff_toInt_lt, Int32.le_iff_toInt_le, Int64.lt_iff_toInt_lt, Int64.le_iff_toInt_le, Int32.toInt_toInt64, ← Int32.toInt_inj, ← Int64.toInt_inj, Int32.reduceToInt, Int64.reduceToInt] <;> omega) dX2_fewestMinutes_159 (fun H locs hP hD hS => ?_)
                    obtain ⟨F58, eF58⟩ : ∃ q, q = upd F18 (Int32.toNatClampNeg ((x_0 * 9) + y16)) (y43 + y55) := ⟨_, rfl⟩
                    have hP : va_P D vwCl [(q_0, .inr (2, [.ref q_6, .ref q_1, .ref q_7, .int x_1, .int x_2, .ref q_8, .ref q_9, .ref q_10, .int x_3, .int x_4, .int x_5, .ref q_3, .ref q_5, .ref q_2])), (q_1, .inr (4, [.int x_6, .ref q_11, .int x_7, .ref q_12, .ref q_13, .int x_8, .ref q_14, .ref q_4, .ref q_15, .int x_9, .ref q_16, .ref q_17, .ref q_18])), (q_2, .inl (k 0, 4608, .inl F58)), (q_3, .inl (k 0, 81, .inl f_11)), (q_4, .inl (k 0, 9, .inl f_12)), (q_5, .inl (k 0, 9, .inl f_13))] H := by rw [eF58]; exact hP
                    have hD : va_D A [(q_0, .inr (2, [.ref q_6, .ref q_1, .ref q_7, .int x_1, .int x_2, .ref q_8, .ref q_9, .ref q_10, .int x_3, .int x_4, .int x_5, .ref q_3, .ref q_5, .ref q_2])), (q_1, .inr (4, [.int x_6, .ref q_11, .int x_7, .ref q_12, .ref q_13, .int x_8, .ref q_14, .ref q_4, .ref q_15, .int x_9, .ref q_16, .ref q_17, .ref q_18])), (q_2, .inl (k 0, 4608, .inl F58)), (q_3, .inl (k 0, 81, .inl f_11)), (q_4, .inl (k 0, 9, .inl f_12)), (q_5, .inl (k 0, 9, .inl f_13))] := by rw [eF58]; exact hD
                    refine lv_iload_n hx hb dX2_fewestMinutes_160 rfl (lv_at hl 5 rfl) ?_
                    refine lv_iload hx hb dX2_fewestMinutes_161 (lv_at hl 0 rfl) ?_
                    refine lv_aload_n hx hb dX2_fewestMinutes_163 rfl (lv_at hl 6 rfl) ?_
                    refine va_get (D := D) (ci := 2) (v := .ref q_5) (C := RX2) (T := TX2) (N := 14) hx hb hts inX2 hown hK hP 0 rfl rfl 12 (by decide) (hts _ kF_X2_31) (fun _ h9 => h9) rfl dX2_fewestMinutes_164 ?_
                    refine lv_iload_n hx hb dX2_fewestMinutes_167 rfl (lv_at hl 4 rfl) ?_
                    refine va_iald hx hb hK hP 5 0 rfl rfl (by revert hN20 hy16 c21 e57 h_x_0 h_x_8 c24 c25 e56 hy23; simp only [vp_in_iff, Int32.lt_iff_toInt_lt, Int32.le_iff_toInt_le, Int64.lt_iff_toInt_lt, Int64.le_iff_toInt_le, Int32.toInt_toInt64, ← Int32.toInt_inj, ← Int64.toInt_inj, Int32.reduceToInt, Int64.reduceToInt] <;> omega) dX2_fewestMinutes_168 ?_
                    refine lv_topi (fun y59 ey59 => ?_)
                    refine lv_iadd hx hb dX2_fewestMinutes_169 ?_
                    refine va_mmin hx hb (by rw [hml]; exact hl.1.symm) hown (hts _ kminL_X2_125) (hts _ kminS) (hts _ kZ_J9) (hts _ kminC) (Nat.le_of_ble_eq_true rfl) (Nat.le_of_ble_eq_true rfl) (Nat.le_of_ble_eq_true rfl) (Nat.le_of_ble_eq_true rfl) dX2_fewestMinutes_170 ?_
                    refine lv_topi (fun y60 ey60 => ?_)
                    have hy60 := zo_min y17 ((y43 + y55) + y59)
                    rw [← ey60] at hy60
                    refine lv_istore_n (lv' := [(2, .int y60), (7, .int (y43 + y55)), (6, .int y42), (5, .int y43), (4, .int y23), (3, .int y16), (0, .ref q_0), (1, .int x_0)]) hx hb dX2_fewestMinutes_173 rfl hl (by decide) rfl (fun ls hl => ?_)
                    have e61 : Int32.toInt (y16 + 1) = Int32.toInt y16 + Int32.toInt (1 : Int32) := zi_add (by revert hN20 hy16 c21 e57 h_x_0 h_x_8 c24 c25 e56 hy23; simp only [vp_in_iff, Int32.lt_iff_toInt_lt, Int32.le_iff_toInt_le, Int64.lt_iff_toInt_lt, Int64.le_iff_toInt_le, Int32.toInt_toInt64, ← Int32.toInt_inj, ← Int64.toInt_inj, Int32.reduceToInt, Int64.reduceToInt] <;> omega)
                    refine lv_iinc (v := (y16 + 1)) (lv' := [(3, .int (y16 + 1)), (2, .int y60), (7, .int (y43 + y55)), (6, .int y42), (5, .int y43), (4, .int y23), (0, .ref q_0), (1, .int x_0)]) hx hb dX2_fewestMinutes_174 hl (k := 5) rfl rfl (by decide) rfl (fun ls hl => ?_)
                    refine lv_goto (tgt := 5) hx hb dX2_fewestMinutes_177 (by decide) ?_
                    exact ihN20 (y16 + 1) y60 F58 _ _ ls (by revert hN20 hy16 c21 e57 e61 h_x_0 h_x_8 c24 c25 e56 hy23; simp only [vp_in_iff, Int32.lt_iff_toInt_lt, Int32.le_iff_toInt_le, Int64.lt_iff_toInt_lt, Int64.le_iff_toInt_le, Int32.toInt_toInt64, ← Int32.toInt_inj, ← Int64.toInt_inj, Int32.reduceToInt, Int64.reduceToInt] <;> omega) (by revert hN20 hy16 c21 e57 e61 h_x_0 h_x_8 c24 c25 e56 hy23; simp only [vp_in_iff, Int32.lt_iff_toInt_lt, Int32.le_iff_toInt_le, Int64.lt_iff_toInt_lt, Int64.le_iff_toInt_le, Int32.toInt_toInt64, ← Int32.toInt_inj, ← Int64.toInt_inj, Int32.reduceToInt, Int64.reduceToInt] <;> omega) (by revert hy17 hy60; simp only [vp_in_iff, Int32.lt_iff_toInt_lt, Int32.le_iff_toInt_le, Int64.lt_iff_toInt_lt, Int64.le_iff_toInt_le, Int32.toInt_toInt64, ← Int32.toInt_inj, ← Int64.toInt_inj, Int32.reduceToInt, Int64.reduceToInt] <;> omega) hP hD hS (lv_sub hl [0, 1, 6, 7] rfl)
                  · refine lv_iload hx hb dX2_fewestMinutes_69 (lv_at hl 1 rfl) ?_
                    refine lv_iconst (v := 1) hx hb dX2_fewestMinutes_71 (by decide) ?_
                    refine lv_iand hx hb dX2_fewestMinutes_72 ?_
                    refine lv_topi (fun y62 ey62 => ?_)
                    have hy62 : 0 ≤ Int32.toInt y62 ∧ Int32.toInt y62 ≤ 1 := by rw [ey62]; exact zo_and _ (by decide)
                    refine lv_iconst (v := 1) hx hb dX2_fewestMinutes_73 (by decide) ?_
                    refine lv_icmp_ne (tgt := 121) hx hb dX2_fewestMinutes_74 (by decide) (fun c63 => ?_) (fun c63 => ?_)
                    · refine lv_iload hx hb dX2_fewestMinutes_121 (lv_at hl 1 rfl) ?_
                      refine lv_iconst (v := 1) hx hb dX2_fewestMinutes_123 (by decide) ?_
                      refine lv_ishr hx hb dX2_fewestMinutes_124 ?_
                      refine lv_topi (fun y64 ey64 => ?_)
                      refine lv_istore (lv' := [(6, .int y64), (7, .int y41), (5, .int y43), (4, .int y23), (3, .int y16), (2, .int y17), (0, .ref q_0), (1, .int x_0)]) hx hb dX2_fewestMinutes_125 hl (by decide) rfl (fun ls hl => ?_)
                      have e65 : Int32.toInt (y41 + 1) = Int32.toInt y41 + Int32.toInt (1 : Int32) := zi_add (by revert hN45 hy41 c46; simp only [vp_in_iff, Int32.lt_iff_toInt_lt, Int32.le_iff_toInt_le, Int64.lt_iff_toInt_lt, Int64.le_iff_toInt_le, Int32.toInt_toInt64, ← Int32.toInt_inj, ← Int64.toInt_inj, Int32.reduceToInt, Int64.reduceToInt] <;> omega)
                      refine lv_iinc (v := (y41 + 1)) (lv' := [(7, .int (y41 + 1)), (6, .int y64), (5, .int y43), (4, .int y23), (3, .int y16), (2, .int y17), (0, .ref q_0), (1, .int x_0)]) hx hb dX2_fewestMinutes_127 hl (k := 1) rfl rfl (by decide) rfl (fun ls hl => ?_)
                      refine lv_goto (tgt := 57) hx hb dX2_fewestMinutes_130 (by decide) ?_
                      exact ihN45 (y41 + 1) y64 y43 _ _ ls (by revert hN45 hy41 c46 e65; simp only [vp_in_iff, Int32.lt_iff_toInt_lt, Int32.le_iff_toInt_le, Int64.lt_iff_toInt_lt, Int64.le_iff_toInt_le, Int32.toInt_toInt64, ← Int32.toInt_inj, ← Int64.toInt_inj, Int32.reduceToInt, Int64.reduceToInt] <;> omega) (by revert hN45 hy41 c46 e65; simp only [vp_in_iff, Int32.lt_iff_toInt_lt, Int32.le_iff_toInt_le, Int64.lt_iff_toInt_lt, Int64.le_iff_toInt_le, Int32.toInt_toInt64, ← Int32.toInt_inj, ← Int64.toInt_inj, Int32.reduceToInt, Int64.reduceToInt] <;> omega) hP hD hS (lv_sub hl [0, 1, 2, 3, 4, 5, 6, 7] rfl)
                    · refine lv_aload_n hx hb dX2_fewestMinutes_77 rfl (lv_at hl 6 rfl) ?_
                      refine va_get (D := D) (ci := 2) (v := .ref q_2) (C := RX2) (T := TX2) (N := 14) hx hb hts inX2 hown hK hP 0 rfl rfl 13 (by decide) (hts _ kF_X2_34) (fun _ h9 => h9) rfl dX2_fewestMinutes_78 ?_
                      refine lv_iload hx hb dX2_fewestMinutes_81 (lv_at hl 3 rfl) ?_
                      refine lv_bipush (v := 9) hx hb dX2_fewestMinutes_83 (by decide) ?_
                      refine lv_imul hx hb dX2_fewestMinutes_85 ?_
                      have e66 : Int32.toInt (y23 * 9) = Int32.toInt y23 * Int32.toInt (9 : Int32) := zi_mul (by revert hy23 c24 c25 h_x_0; simp only [vp_in_iff, Int32.lt_iff_toInt_lt, Int32.le_iff_toInt_le, Int64.lt_iff_toInt_lt, Int64.le_iff_toInt_le, Int32.toInt_toInt64, ← Int32.toInt_inj, ← Int64.toInt_inj, Int32.reduceToInt, Int64.reduceToInt] <;> omega)
                      refine lv_iload hx hb dX2_fewestMinutes_86 (lv_at hl 0 rfl) ?_
                      refine lv_iadd hx hb dX2_fewestMinutes_88 ?_
                      have e67 : Int32.toInt ((y23 * 9) + y41) = Int32.toInt (y23 * 9) + Int32.toInt y41 := zi_add (by revert hy23 c24 c25 hN45 hy41 c46 e66 h_x_0; simp only [vp_in_iff, Int32.lt_iff_toInt_lt, Int32.le_iff_toInt_le, Int64.lt_iff_toInt_lt, Int64.le_iff_toInt_le, Int32.toInt_toInt64, ← Int32.toInt_inj, ← Int64.toInt_inj, Int32.reduceToInt, Int64.reduceToInt] <;> omega)
                      refine va_iald hx hb hK hP 2 0 rfl rfl (by revert hy23 c24 c25 hN45 hy41 c46 e66 e67 h_x_0; simp only [vp_in_iff, Int32.lt_iff_toInt_lt, Int32.le_iff_toInt_le, Int64.lt_iff_toInt_lt, Int64.le_iff_toInt_le, Int32.toInt_toInt64, ← Int32.toInt_inj, ← Int64.toInt_inj, Int32.reduceToInt, Int64.reduceToInt] <;> omega) dX2_fewestMinutes_89 ?_
                      refine lv_topi (fun y68 ey68 => ?_)
                      refine lv_aload_n hx hb dX2_fewestMinutes_90 rfl (lv_at hl 6 rfl) ?_
                      refine va_get (D := D) (ci := 2) (v := .ref q_3) (C := RX2) (T := TX2) (N := 14) hx hb hts inX2 hown hK hP 0 rfl rfl 11 (by decide) (hts _ kF_X2_28) (fun _ h9 => h9) rfl dX2_fewestMinutes_91 ?_
                      refine lv_iload hx hb dX2_fewestMinutes_94 (lv_at hl 0 rfl) ?_
                      refine lv_bipush (v := 9) hx hb dX2_fewestMinutes_96 (by decide) ?_
                      refine lv_imul hx hb dX2_fewestMinutes_98 ?_
                      have e69 : Int32.toInt (y41 * 9) = Int32.toInt y41 * Int32.toInt (9 : Int32) := zi_mul (by revert hN45 hy41 c46 e67 hy23 c24 c25 e66 h_x_0; simp only [vp_in_iff, Int32.lt_iff_toInt_lt, Int32.le_iff_toInt_le, Int64.lt_iff_toInt_lt, Int64.le_iff_toInt_le, Int32.toInt_toInt64, ← Int32.toInt_inj, ← Int64.toInt_inj, Int32.reduceToInt, Int64.reduceToInt] <;> omega)
                      refine lv_iload_n hx hb dX2_fewestMinutes_99 rfl (lv_at hl 4 rfl) ?_
                      refine lv_iadd hx hb dX2_fewestMinutes_100 ?_
                      have e70 : Int32.toInt ((y41 * 9) + y16) = Int32.toInt (y41 * 9) + Int32.toInt y16 := zi_add (by revert hN20 hy16 c21 hN45 hy41 c46 e67 e69 h_x_8 hy23 c24 c25 e66 h_x_0; simp only [vp_in_iff, Int32.lt_iff_toInt_lt, Int32.le_iff_toInt_le, Int64.lt_iff_toInt_lt, Int64.le_iff_toInt_le, Int32.toInt_toInt64, ← Int32.toInt_inj, ← Int64.toInt_inj, Int32.reduceToInt, Int64.reduceToInt] <;> omega)
                      refine va_iald hx hb hK hP 3 0 rfl rfl (by revert hN20 hy16 c21 hN45 hy41 c46 e67 e69 e70 h_x_8 hy23 c24 c25 e66 h_x_0; simp only [vp_in_iff, Int32.lt_iff_toInt_lt, Int32.le_iff_toInt_le, Int64.lt_iff_toInt_lt, Int64.le_iff_toInt_le, Int32.toInt_toInt64, ← Int32.toInt_inj, ← Int64.toInt_inj, Int32.reduceToInt, Int64.reduceToInt] <;> omega) dX2_fewestMinutes_101 ?_
                      refine lv_topi (fun y71 ey71 => ?_)
                      refine lv_iadd hx hb dX2_fewestMinutes_102 ?_
                      refine lv_istore (lv' := [(8, .int (y68 + y71)), (7, .int y41), (6, .int y42), (5, .int y43), (4, .int y23), (3, .int y16), (2, .int y17), (0, .ref q_0), (1, .int x_0)]) hx hb dX2_fewestMinutes_103 hl (by decide) rfl (fun ls hl => ?_)
                      refine lv_iload hx hb dX2_fewestMinutes_105 (lv_at hl 0 rfl) ?_
                      refine lv_iload hx hb dX2_fewestMinutes_107 (lv_at hl 3 rfl) ?_
                      refine lv_icmp_ge (tgt := 117) hx hb dX2_fewestMinutes_109 (by decide) (fun c72 => ?_) (fun c72 => ?_)
                      · refine lv_iload hx hb dX2_fewestMinutes_117 (lv_at hl 3 rfl) ?_
                        refine lv_istore (lv' := [(5, .int y43), (8, .int (y68 + y71)), (7, .int y41), (6, .int y42), (4, .int y23), (3, .int y16), (2, .int y17), (0, .ref q_0), (1, .int x_0)]) hx hb dX2_fewestMinutes_119 hl (by decide) rfl (fun ls hl => ?_)
                        refine lv_iload hx hb dX2_fewestMinutes_121 (lv_at hl 3 rfl) ?_
                        refine lv_iconst (v := 1) hx hb dX2_fewestMinutes_123 (by decide) ?_
                        refine lv_ishr hx hb dX2_fewestMinutes_124 ?_
                        refine lv_topi (fun y73 ey73 => ?_)
                        refine lv_istore (lv' := [(6, .int y73), (5, .int y43), (8, .int (y68 + y71)), (7, .int y41), (4, .int y23), (3, .int y16), (2, .int y17), (0, .ref q_0), (1, .int x_0)]) hx hb dX2_fewestMinutes_125 hl (by decide) rfl (fun ls hl => ?_)
                        have e74 : Int32.toInt (y41 + 1) = Int32.toInt y41 + Int32.toInt (1 : Int32) := zi_add (by revert hN45 hy41 c46 e67 e69 e70 hN20 hy16 c21 hy23 c24 c25 e66 h_x_0 h_x_8; simp only [vp_in_iff, Int32.lt_iff_toInt_lt, Int32.le_iff_toInt_le, Int64.lt_iff_toInt_lt, Int64.le_iff_toInt_le, Int32.toInt_toInt64, ← Int32.toInt_inj, ← Int64.toInt_inj, Int32.reduceToInt, Int64.reduceToInt] <;> omega)
                        refine lv_iinc (v := (y41 + 1)) (lv' := [(7, .int (y41 + 1)), (6, .int y73), (5, .int y43), (8, .int (y68 + y71)), (4, .int y23), (3, .int y16), (2, .int y17), (0, .ref q_0), (1, .int x_0)]) hx hb dX2_fewestMinutes_127 hl (k := 3) rfl rfl (by decide) rfl (fun ls hl => ?_)
                        refine lv_goto (tgt := 57) hx hb dX2_fewestMinutes_130 (by decide) ?_
                        exact ihN45 (y41 + 1) y73 y43 _ _ ls (by revert hN45 hy41 c46 e67 e69 e70 e74 hN20 hy16 c21 hy23 c24 c25 e66 h_x_0 h_x_8; simp only [vp_in_iff, Int32.lt_iff_toInt_lt, Int32.le_iff_toInt_le, Int64.lt_iff_toInt_lt, Int64.le_iff_toInt_le, Int32.toInt_toInt64, ← Int32.toInt_inj, ← Int64.toInt_inj, Int32.reduceToInt, Int64.reduceToInt] <;> omega) (by revert hN45 hy41 c46 e67 e69 e70 e74 hN20 hy16 c21 hy23 c24 c25 e66 h_x_0 h_x_8; simp only [vp_in_iff, Int32.lt_iff_toInt_lt, Int32.le_iff_toInt_le, Int64.lt_iff_toInt_lt, Int64.le_iff_toInt_le, Int32.toInt_toInt64, ← Int32.toInt_inj, ← Int64.toInt_inj, Int32.reduceToInt, Int64.reduceToInt] <;> omega) hP hD hS (lv_sub hl [0, 1, 2, 4, 5, 6, 7, 8] rfl)
                      · refine lv_iload hx hb dX2_fewestMinutes_112 (lv_at hl 0 rfl) ?_
                        refine lv_goto (tgt := 119) hx hb dX2_fewestMinutes_114 (by decide) ?_
                        refine lv_istore (lv' := [(5, .int (y68 + y71)), (8, .int (y68 + y71)), (7, .int y41), (6, .int y42), (4, .int y23), (3, .int y16), (2, .int y17), (0, .ref q_0), (1, .int x_0)]) hx hb dX2_fewestMinutes_119 hl (by decide) rfl (fun ls hl => ?_)
                        refine lv_iload hx hb dX2_fewestMinutes_121 (lv_at hl 3 rfl) ?_
                        refine lv_iconst (v := 1) hx hb dX2_fewestMinutes_123 (by decide) ?_
                        refine lv_ishr hx hb dX2_fewestMinutes_124 ?_
                        refine lv_topi (fun y75 ey75 => ?_)
                        refine lv_istore (lv' := [(6, .int y75), (5, .int (y68 + y71)), (8, .int (y68 + y71)), (7, .int y41), (4, .int y23), (3, .int y16), (2, .int y17), (0, .ref q_0), (1, .int x_0)]) hx hb dX2_fewestMinutes_125 hl (by decide) rfl (fun ls hl => ?_)
                        have e76 : Int32.toInt (y41 + 1) = Int32.toInt y41 + Int32.toInt (1 : Int32) := zi_add (by revert hN45 hy41 c46 e67 e69 e70 hN20 hy16 c21 hy23 c24 c25 e66 h_x_0 h_x_8; simp only [vp_in_iff, Int32.lt_iff_toInt_lt, Int32.le_iff_toInt_le, Int64.lt_iff_toInt_lt, Int64.le_iff_toInt_le, Int32.toInt_toInt64, ← Int32.toInt_inj, ← Int64.toInt_inj, Int32.reduceToInt, Int64.reduceToInt] <;> omega)
                        refine lv_iinc (v := (y41 + 1)) (lv' := [(7, .int (y41 + 1)), (6, .int y75), (5, .int (y68 + y71)), (8, .int (y68 + y71)), (4, .int y23), (3, .int y16), (2, .int y17), (0, .ref q_0), (1, .int x_0)]) hx hb dX2_fewestMinutes_127 hl (k := 3) rfl rfl (by decide) rfl (fun ls hl => ?_)
                        refine lv_goto (tgt := 57) hx hb dX2_fewestMinutes_130 (by decide) ?_
                        exact ihN45 (y41 + 1) y75 (y68 + y71) _ _ ls (by revert hN45 hy41 c46 e67 e69 e70 e76 hN20 hy16 c21 hy23 c24 c25 e66 h_x_0 h_x_8; simp only [vp_in_iff, Int32.lt_iff_toInt_lt, Int32.le_iff_toInt_le, Int64.lt_iff_toInt_lt, Int64.le_iff_toInt_le, Int32.toInt_toInt64, ← Int32.toInt_inj, ← Int64.toInt_inj, Int32.reduceToInt, Int64.reduceToInt] <;> omega) (by revert hN45 hy41 c46 e67 e69 e70 e76 hN20 hy16 c21 hy23 c24 c25 e66 h_x_0 h_x_8; simp only [vp_in_iff, Int32.lt_iff_toInt_lt, Int32.le_iff_toInt_le, Int64.lt_iff_toInt_lt, Int64.le_iff_toInt_le, Int32.toInt_toInt64, ← Int32.toInt_inj, ← Int64.toInt_inj, Int32.reduceToInt, Int64.reduceToInt] <;> omega) hP hD hS (lv_sub hl [0, 1, 2, 4, 5, 6, 7, 8] rfl)
            exact loop44 _ 0 y23 1000000 _ _ _ (Nat.lt_succ_self _) (by simp only [vp_in_iff, Int32.lt_iff_toInt_lt, Int32.le_iff_toInt_le, Int64.lt_iff_toInt_lt, Int64.le_iff_toInt_le, Int32.toInt_toInt64, ← Int32.toInt_inj, ← Int64.toInt_inj, Int32.reduceToInt, Int64.reduceToInt] <;> omega) hP hD hS (lv_sub hl [0, 1, 2, 3, 4, 5, 6, 7] rfl)
          · refine lv_aload_n hx hb dX2_fewestMinutes_37 rfl (lv_at hl 3 rfl) ?_
            refine va_get (D := D) (ci := 2) (v := .ref q_5) (C := RX2) (T := TX2) (N := 14) hx hb hts inX2 hown hK hP 0 rfl rfl 12 (by decide) (hts _ kF_X2_31) (fun _ h9 => h9) rfl dX2_fewestMinutes_38 ?_
            refine lv_iload_n hx hb dX2_fewestMinutes_41 rfl (lv_at hl 1 rfl) ?_
            refine va_iald hx hb hK hP 5 0 rfl rfl (by revert hN20 hy16 c21 h_x_8; simp only [vp_in_iff, Int32.lt_iff_toInt_lt, Int32.le_iff_toInt_le, Int64.lt_iff_toInt_lt, Int64.le_iff_toInt_le, Int32.toInt_toInt64, ← Int32.toInt_inj, ← Int64.toInt_inj, Int32.reduceToInt, Int64.reduceToInt] <;> omega) dX2_fewestMinutes_42 ?_
            refine lv_topi (fun y77 ey77 => ?_)
            refine lv_goto (tgt := 48) hx hb dX2_fewestMinutes_43 (by decide) ?_
            refine lv_istore (lv' := [(5, .int y77), (4, .int y23), (3, .int y16), (2, .int y17), (0, .ref q_0), (1, .int x_0)]) hx hb dX2_fewestMinutes_48 hl (by decide) rfl (fun ls hl => ?_)
            refine lv_iload hx hb dX2_fewestMinutes_50 (lv_at hl 1 rfl) ?_
            refine lv_istore (lv' := [(6, .int y23), (5, .int y77), (4, .int y23), (3, .int y16), (2, .int y17), (0, .ref q_0), (1, .int x_0)]) hx hb dX2_fewestMinutes_52 hl (by decide) rfl (fun ls hl => ?_)
            refine lv_iconst (v := 0) hx hb dX2_fewestMinutes_54 (by decide) ?_
            refine lv_istore (lv' := [(7, .int 0), (6, .int y23), (5, .int y77), (4, .int y23), (3, .int y16), (2, .int y17), (0, .ref q_0), (1, .int x_0)]) hx hb dX2_fewestMinutes_55 hl (by decide) rfl (fun ls hl => ?_)
            have loop78 : ∀ (N79 : Nat) (H : Heap) (locs : List Loc) (ls : Array Slot), Int.toNat 0 < N79 → va_P D vwCl [(q_0, .inr (2, [.ref q_6, .ref q_1, .ref q_7, .int x_1, .int x_2, .ref q_8, .ref q_9, .ref q_10, .int x_3, .int x_4, .int x_5, .ref q_3, .ref q_5, .ref q_2])), (q_1, .inr (4, [.int x_6, .ref q_11, .int x_7, .ref q_12, .ref q_13, .int x_8, .ref q_14, .ref q_4, .ref q_15, .int x_9, .ref q_16, .ref q_17, .ref q_18])), (q_2, .inl (k 0, 4608, .inl F18)), (q_3, .inl (k 0, 81, .inl f_11)), (q_4, .inl (k 0, 9, .inl f_12)), (q_5, .inl (k 0, 9, .inl f_13))] H → va_D A [(q_0, .inr (2, [.ref q_6, .ref q_1, .ref q_7, .int x_1, .int x_2, .ref q_8, .ref q_9, .ref q_10, .int x_3, .int x_4, .int x_5, .ref q_3, .ref q_5, .ref q_2])), (q_1, .inr (4, [.int x_6, .ref q_11, .int x_7, .ref q_12, .ref q_13, .int x_8, .ref q_14, .ref q_4, .ref q_15, .int x_9, .ref q_16, .ref q_17, .ref q_18])), (q_2, .inl (k 0, 4608, .inl F18)), (q_3, .inl (k 0, 81, .inl f_11)), (q_4, .inl (k 0, 9, .inl f_12)), (q_5, .inl (k 0, 9, .inl f_13))] → va_S A s.heap H locs → lv_has ls 9 [(7, .int 0), (6, .int y23), (5, .int y77), (4, .int y23), (3, .int y16), (2, .int y17), (0, .ref q_0), (1, .int x_0)] → W p l e { frames := 1, cells := 0, slots := 0, locals := 40 } s m args below meth c H locs 0 0 (MQ below (va_Qi (fun (r : Int32) (u : zS) => u.1 = 0 ∧ ((-2147483648) ≤ Int32.toInt r ∧ Int32.toInt r ≤ 1000000)) (zB D k A (fun (u : zS) => [(q_0, .inr (2, [.ref q_6, .ref q_1, .ref q_7, .int x_1, .int x_2, .ref q_8, .ref q_9, .ref q_10, .int x_3, .int x_4, .int x_5, .ref q_3, .ref q_5, .ref q_2])), (q_1, .inr (4, [.int x_6, .ref q_11, .int x_7, .ref q_12, .ref q_13, .int x_8, .ref q_14, .ref q_4, .ref q_15, .int x_9, .ref q_16, .ref q_17, .ref q_18])), (q_2, .inl (k 0, 4608, .inl (u.2.2.2.2.1 0))), (q_3, .inl (k 0, 81, .inl f_11)), (q_4, .inl (k 0, 9, .inl f_12)), (q_5, .inl (k 0, 9, .inl f_13))])) A) args s 0 0 A) (F0 m 57 ls []) := by
              intro N79
              induction N79 with
              | zero => intro H locs ls hm; exact absurd hm (Nat.not_lt_zero _)
              | succ N79 ihN79 =>
                intro H locs ls hN79 hP hD hS hl
                refine lv_iload hx hb dX2_fewestMinutes_57 (lv_at hl 0 rfl) ?_
                refine lv_bipush (v := 9) hx hb dX2_fewestMinutes_59 (by decide) ?_
                refine lv_icmp_ge (tgt := 133) hx hb dX2_fewestMinutes_61 (by decide) (fun c80 => absurd c80 (by decide)) (fun _ => ?_)
                refine lv_iload hx hb dX2_fewestMinutes_64 (lv_at hl 1 rfl) ?_
                refine lv_if_eq (tgt := 133) hx hb dX2_fewestMinutes_66 (by decide) (fun c81 => ?_) (fun c81 => ?_)
                · refine lv_iload hx hb dX2_fewestMinutes_133 (lv_at hl 2 rfl) ?_
                  refine lv_aload_n hx hb dX2_fewestMinutes_135 rfl (lv_at hl 6 rfl) ?_
                  refine va_get (D := D) (ci := 2) (v := .ref q_1) (C := RX2) (T := TX2) (N := 14) hx hb hts inX2 hown hK hP 0 rfl rfl 1 (by decide) (hts _ kF_X2_48) (fun _ h9 => h9) rfl dX2_fewestMinutes_136 ?_
                  refine va_get (D := D) (ci := 4) (v := .ref q_4) (C := RX4) (T := TX4) (N := 13) hx hb hts inX4 hown hK hP 1 rfl rfl 7 (by decide) (hts _ kF_X2_122) (fun _ h9 => h9) rfl dX2_fewestMinutes_139 ?_
                  refine lv_iload_n hx hb dX2_fewestMinutes_142 rfl (lv_at hl 4 rfl) ?_
                  refine va_iald hx hb hK hP 4 0 rfl rfl (by revert hN20 hy16 c21 h_x_8; simp only [vp_in_iff, Int32.lt_iff_toInt_lt, Int32.le_iff_toInt_le, Int64.lt_iff_toInt_lt, Int64.le_iff_toInt_le, Int32.toInt_toInt64, ← Int32.toInt_inj, ← Int64.toInt_inj, Int32.reduceToInt, Int64.reduceToInt] <;> omega) dX2_fewestMinutes_143 ?_
                  refine lv_topi (fun y82 ey82 => ?_)
                  refine lv_iadd hx hb dX2_fewestMinutes_144 ?_
                  refine lv_istore (lv' := [(7, .int (y77 + y82)), (6, .int y23), (5, .int y77), (4, .int y23), (3, .int y16), (2, .int y17), (0, .ref q_0), (1, .int x_0)]) hx hb dX2_fewestMinutes_145 hl (by decide) rfl (fun ls hl => ?_)
                  refine lv_aload_n hx hb dX2_fewestMinutes_147 rfl (lv_at hl 6 rfl) ?_
                  refine va_get (D := D) (ci := 2) (v := .ref q_2) (C := RX2) (T := TX2) (N := 14) hx hb hts inX2 hown hK hP 0 rfl rfl 13 (by decide) (hts _ kF_X2_34) (fun _ h9 => h9) rfl dX2_fewestMinutes_148 ?_
                  refine lv_iload_n hx hb dX2_fewestMinutes_151 rfl (lv_at hl 7 rfl) ?_
                  refine lv_bipush (v := 9) hx hb dX2_fewestMinutes_152 (by decide) ?_
                  refine lv_imul hx hb dX2_fewestMinutes_154 ?_
                  have e83 : Int32.toInt (x_0 * 9) = Int32.toInt x_0 * Int32.toInt (9 : Int32) := zi_mul (by revert h_x_0 c24 c25 c81 hy23; simp only [vp_in_iff, Int32.lt_iff_toInt_lt, Int32.le_iff_toInt_le, Int64.lt_iff_toInt_lt, Int64.le_iff_toInt_le, Int32.toInt_toInt64, ← Int32.toInt_inj, ← Int64.toInt_inj, Int32.reduceToInt, Int64.reduceToInt] <;> omega)
                  refine lv_iload_n hx hb dX2_fewestMinutes_155 rfl (lv_at hl 4 rfl) ?_
                  refine lv_iadd hx hb dX2_fewestMinutes_156 ?_
                  have e84 : Int32.toInt ((x_0 * 9) + y16) = Int32.toInt (x_0 * 9) + Int32.toInt y16 := zi_add (by revert h_x_0 hN20 hy16 c21 c24 c25 c81 e83 h_x_8 hy23; simp only [vp_in_iff, Int32.lt_iff_toInt_lt, Int32.le_iff_toInt_le, Int64.lt_iff_toInt_lt, Int64.le_iff_toInt_le, Int32.toInt_toInt64, ← Int32.toInt_inj, ← Int64.toInt_inj, Int32.reduceToInt, Int64.reduceToInt] <;> omega)
                  refine lv_iload hx hb dX2_fewestMinutes_157 (lv_at hl 0 rfl) ?_
                  refine va_iast hx hb hK hP hD hS 2 0 rfl rfl (by revert h_x_0 hN20 hy16 c21 c24 c25 c81 e83 e84 h_x_8 hy23; simp only [vp_in_iff, Int32.lt_iff_toInt_lt, Int32.le_iff_toInt_le, Int64.lt_iff_toInt_lt, Int64.le_iff_toInt_le, Int32.toInt_toInt64, ← Int32.toInt_inj, ← Int64.toInt_inj, Int32.reduceToInt, Int64.reduceToInt] <;> omega) dX2_fewestMinutes_159 (fun H locs hP hD hS => ?_)
                  obtain ⟨F85, eF85⟩ : ∃ q, q = upd F18 (Int32.toNatClampNeg ((x_0 * 9) + y16)) (y77 + y82) := ⟨_, rfl⟩
                  have hP : va_P D vwCl [(q_0, .inr (2, [.ref q_6, .ref q_1, .ref q_7, .int x_1, .int x_2, .ref q_8, .ref q_9, .ref q_10, .int x_3, .int x_4, .int x_5, .ref q_3, .ref q_5, .ref q_2])), (q_1, .inr (4, [.int x_6, .ref q_11, .int x_7, .ref q_12, .ref q_13, .int x_8, .ref q_14, .ref q_4, .ref q_15, .int x_9, .ref q_16, .ref q_17, .ref q_18])), (q_2, .inl (k 0, 4608, .inl F85)), (q_3, .inl (k 0, 81, .inl f_11)), (q_4, .inl (k 0, 9, .inl f_12)), (q_5, .inl (k 0, 9, .inl f_13))] H := by rw [eF85]; exact hP
                  have hD : va_D A [(q_0, .inr (2, [.ref q_6, .ref q_1, .ref q_7, .int x_1, .int x_2, .ref q_8, .ref q_9, .ref q_10, .int x_3, .int x_4, .int x_5, .ref q_3, .ref q_5, .ref q_2])), (q_1, .inr (4, [.int x_6, .ref q_11, .int x_7, .ref q_12, .ref q_13, .int x_8, .ref q_14, .ref q_4, .ref q_15, .int x_9, .ref q_16, .ref q_17, .ref q_18])), (q_2, .inl (k 0, 4608, .inl F85)), (q_3, .inl (k 0, 81, .inl f_11)), (q_4, .inl (k 0, 9, .inl f_12)), (q_5, .inl (k 0, 9, .inl f_13))] := by rw [eF85]; exact hD
                  refine lv_iload_n hx hb dX2_fewestMinutes_160 rfl (lv_at hl 5 rfl) ?_
                  refine lv_iload hx hb dX2_fewestMinutes_161 (lv_at hl 0 rfl) ?_
                  refine lv_aload_n hx hb dX2_fewestMinutes_163 rfl (lv_at hl 6 rfl) ?_
                  refine va_get (D := D) (ci := 2) (v := .ref q_5) (C := RX2) (T := TX2) (N := 14) hx hb hts inX2 hown hK hP 0 rfl rfl 12 (by decide) (hts _ kF_X2_31) (fun _ h9 => h9) rfl dX2_fewestMinutes_164 ?_
                  refine lv_iload_n hx hb dX2_fewestMinutes_167 rfl (lv_at hl 4 rfl) ?_
                  refine va_iald hx hb hK hP 5 0 rfl rfl (by revert hN20 hy16 c21 e84 h_x_0 h_x_8 c24 c25 c81 e83 hy23; simp only [vp_in_iff, Int32.lt_iff_toInt_lt, Int32.le_iff_toInt_le, Int64.lt_iff_toInt_lt, Int64.le_iff_toInt_le, Int32.toInt_toInt64, ← Int32.toInt_inj, ← Int64.toInt_inj, Int32.reduceToInt, Int64.reduceToInt] <;> omega) dX2_fewestMinutes_168 ?_
                  refine lv_topi (fun y86 ey86 => ?_)
                  refine lv_iadd hx hb dX2_fewestMinutes_169 ?_
                  refine va_mmin hx hb (by rw [hml]; exact hl.1.symm) hown (hts _ kminL_X2_125) (hts _ kminS) (hts _ kZ_J9) (hts _ kminC) (Nat.le_of_ble_eq_true rfl) (Nat.le_of_ble_eq_true rfl) (Nat.le_of_ble_eq_true rfl) (Nat.le_of_ble_eq_true rfl) dX2_fewestMinutes_170 ?_
                  refine lv_topi (fun y87 ey87 => ?_)
                  have hy87 := zo_min y17 ((y77 + y82) + y86)
                  rw [← ey87] at hy87
                  refine lv_istore_n (lv' := [(2, .int y87), (7, .int (y77 + y82)), (6, .int y23), (5, .int y77), (4, .int y23), (3, .int y16), (0, .ref q_0), (1, .int x_0)]) hx hb dX2_fewestMinutes_173 rfl hl (by decide) rfl (fun ls hl => ?_)
                  have e88 : Int32.toInt (y16 + 1) = Int32.toInt y16 + Int32.toInt (1 : Int32) := zi_add (by revert hN20 hy16 c21 e84 h_x_0 h_x_8 c24 c25 c81 e83 hy23; simp only [vp_in_iff, Int32.lt_iff_toInt_lt, Int32.le_iff_toInt_le, Int64.lt_iff_toInt_lt, Int64.le_iff_toInt_le, Int32.toInt_toInt64, ← Int32.toInt_inj, ← Int64.toInt_inj, Int32.reduceToInt, Int64.reduceToInt] <;> omega)
                  refine lv_iinc (v := (y16 + 1)) (lv' := [(3, .int (y16 + 1)), (2, .int y87), (7, .int (y77 + y82)), (6, .int y23), (5, .int y77), (4, .int y23), (0, .ref q_0), (1, .int x_0)]) hx hb dX2_fewestMinutes_174 hl (k := 5) rfl rfl (by decide) rfl (fun ls hl => ?_)
                  refine lv_goto (tgt := 5) hx hb dX2_fewestMinutes_177 (by decide) ?_
                  exact ihN20 (y16 + 1) y87 F85 _ _ ls (by revert hN20 hy16 c21 e84 e88 h_x_0 h_x_8 c24 c25 c81 e83 hy23; simp only [vp_in_iff, Int32.lt_iff_toInt_lt, Int32.le_iff_toInt_le, Int64.lt_iff_toInt_lt, Int64.le_iff_toInt_le, Int32.toInt_toInt64, ← Int32.toInt_inj, ← Int64.toInt_inj, Int32.reduceToInt, Int64.reduceToInt] <;> omega) (by revert hN20 hy16 c21 e84 e88 h_x_0 h_x_8 c24 c25 c81 e83 hy23; simp only [vp_in_iff, Int32.lt_iff_toInt_lt, Int32.le_iff_toInt_le, Int64.lt_iff_toInt_lt, Int64.le_iff_toInt_le, Int32.toInt_toInt64, ← Int32.toInt_inj, ← Int64.toInt_inj, Int32.reduceToInt, Int64.reduceToInt] <;> omega) (by revert hy17 hy87; simp only [vp_in_iff, Int32.lt_iff_toInt_lt, Int32.le_iff_toInt_le, Int64.lt_iff_toInt_lt, Int64.le_iff_toInt_le, Int32.toInt_toInt64, ← Int32.toInt_inj, ← Int64.toInt_inj, Int32.reduceToInt, Int64.reduceToInt] <;> omega) hP hD hS (lv_sub hl [0, 1, 6, 7] rfl)
                · exact (show False by revert hy23 c24 c25 c81 h_x_0; simp only [vp_in_iff, Int32.lt_iff_toInt_lt, Int32.le_iff_toInt_le, Int64.lt_iff_toInt_lt, Int64.le_iff_toInt_le, Int32.toInt_toInt64, ← Int32.toInt_inj, ← Int64.toInt_inj, Int32.reduceToInt, Int64.reduceToInt] <;> omega).elim
            exact loop78 _ _ _ _ (Nat.lt_succ_self _) hP hD hS (lv_sub hl [0, 1, 2, 3, 4, 5, 6, 7] rfl)
        · refine lv_goto (tgt := 174) hx hb dX2_fewestMinutes_29 (by decide) ?_
          have e89 : Int32.toInt (y16 + 1) = Int32.toInt y16 + Int32.toInt (1 : Int32) := zi_add (by revert hN20 hy16 c21 h_x_8; simp only [vp_in_iff, Int32.lt_iff_toInt_lt, Int32.le_iff_toInt_le, Int64.lt_iff_toInt_lt, Int64.le_iff_toInt_le, Int32.toInt_toInt64, ← Int32.toInt_inj, ← Int64.toInt_inj, Int32.reduceToInt, Int64.reduceToInt] <;> omega)
          refine lv_iinc (v := (y16 + 1)) (lv' := [(3, .int (y16 + 1)), (4, .int y23), (2, .int y17), (0, .ref q_0), (1, .int x_0)]) hx hb dX2_fewestMinutes_174 hl (k := 1) rfl rfl (by decide) rfl (fun ls hl => ?_)
          refine lv_goto (tgt := 5) hx hb dX2_fewestMinutes_177 (by decide) ?_
          exact ihN20 (y16 + 1) y17 F18 _ _ ls (by revert hN20 hy16 c21 e89 h_x_8; simp only [vp_in_iff, Int32.lt_iff_toInt_lt, Int32.le_iff_toInt_le, Int64.lt_iff_toInt_lt, Int64.le_iff_toInt_le, Int32.toInt_toInt64, ← Int32.toInt_inj, ← Int64.toInt_inj, Int32.reduceToInt, Int64.reduceToInt] <;> omega) (by revert hN20 hy16 c21 e89 h_x_8; simp only [vp_in_iff, Int32.lt_iff_toInt_lt, Int32.le_iff_toInt_le, Int64.lt_iff_toInt_lt, Int64.le_iff_toInt_le, Int32.toInt_toInt64, ← Int32.toInt_inj, ← Int64.toInt_inj, Int32.reduceToInt, Int64.reduceToInt] <;> omega) (by revert hy17; simp only [vp_in_iff, Int32.lt_iff_toInt_lt, Int32.le_iff_toInt_le, Int64.lt_iff_toInt_lt, Int64.le_iff_toInt_le, Int32.toInt_toInt64, ← Int32.toInt_inj, ← Int64.toInt_inj, Int32.reduceToInt, Int64.reduceToInt] <;> omega) hP hD hS (lv_sub hl [0, 2, 3, 4] rfl)
  exact loop19 _ 0 1000000 f_10 _ _ _ (Nat.lt_succ_self _) (by simp only [vp_in_iff, Int32.lt_iff_toInt_lt, Int32.le_iff_toInt_le, Int64.lt_iff_toInt_lt, Int64.le_iff_toInt_le, Int32.toInt_toInt64, ← Int32.toInt_inj, ← Int64.toInt_inj, Int32.reduceToInt, Int64.reduceToInt] <;> omega) (by simp only [vp_in_iff, Int32.lt_iff_toInt_lt, Int32.le_iff_toInt_le, Int64.lt_iff_toInt_lt, Int64.le_iff_toInt_le, Int32.toInt_toInt64, ← Int32.toInt_inj, ← Int64.toInt_inj, Int32.reduceToInt, Int64.reduceToInt] <;> omega) hP hD hS (lv_sub hl [0, 1, 2, 3] rfl)

set_option maxHeartbeats 4000000 in
set_option maxRecDepth 100000 in
theorem s_X2_fewestMinutes_4 (l : Launch) (D : va_G) (k : Nat → ClassId) (q_0 : Nat) (q_1 : Nat) (q_2 : Nat) (q_3 : Nat) (q_4 : Nat) (q_5 : Nat) (q_6 : Nat) (q_7 : Nat) (q_8 : Nat) (q_9 : Nat) (q_10 : Nat) (q_11 : Nat) (q_12 : Nat) (q_13 : Nat) (q_14 : Nat) (q_15 : Nat) (q_16 : Nat) (q_17 : Nat) (q_18 : Nat) (x_0 : Int32) (x_1 : Int32) (x_2 : Int32) (x_3 : Int32) (x_4 : Int32) (x_5 : Int32) (x_6 : Int32) (x_7 : Int32) (x_8 : Int32) (x_9 : Int32) (f_10 : Nat → Int32) (f_11 : Nat → Int32) (f_12 : Nat → Int32) (f_13 : Nat → Int32) (h_x_0 : 1 ≤ Int32.toInt x_0 ∧ Int32.toInt x_0 ≤ 4) (h_x_1 : 0 ≤ Int32.toInt x_1 ∧ Int32.toInt x_1 ≤ 6) (h_x_3 : 0 ≤ Int32.toInt x_3 ∧ Int32.toInt x_3 ≤ 3) (h_x_4 : 0 ≤ Int32.toInt x_4 ∧ Int32.toInt x_4 ≤ 2147483647) (h_x_5 : (-2147483648) ≤ Int32.toInt x_5 ∧ Int32.toInt x_5 ≤ 1000000) (h_x_6 : 0 ≤ Int32.toInt x_6 ∧ Int32.toInt x_6 ≤ 6) (h_x_7 : 0 ≤ Int32.toInt x_7 ∧ Int32.toInt x_7 ≤ 6) (h_x_8 : 0 ≤ Int32.toInt x_8 ∧ Int32.toInt x_8 ≤ 9) (h_x_9 : 0 ≤ Int32.toInt x_9 ∧ Int32.toInt x_9 ≤ 12) : zMi l yX2_fewestMinutes cX2_fewestMinutes 9 (some .int) ({ frames := 1, cells := 0, slots := 0, locals := 40 }) D k [.ref q_0, .int x_0] [(q_0, .inr (2, [.ref q_6, .ref q_1, .ref q_7, .int x_1, .int x_2, .ref q_8, .ref q_9, .ref q_10, .int x_3, .int x_4, .int x_5, .ref q_3, .ref q_5, .ref q_2])), (q_1, .inr (4, [.int x_6, .ref q_11, .int x_7, .ref q_12, .ref q_13, .int x_8, .ref q_14, .ref q_4, .ref q_15, .int x_9, .ref q_16, .ref q_17, .ref q_18])), (q_2, .inl (k 0, 4608, .inl f_10)), (q_3, .inl (k 0, 81, .inl f_11)), (q_4, .inl (k 0, 9, .inl f_12)), (q_5, .inl (k 0, 9, .inl f_13))] (fun r u => u.1 = 0 ∧ ((-2147483648) ≤ Int32.toInt r ∧ Int32.toInt r ≤ 1000000)) (fun u => [(q_0, .inr (2, [.ref q_6, .ref q_1, .ref q_7, .int x_1, .int x_2, .ref q_8, .ref q_9, .ref q_10, .int x_3, .int x_4, .int x_5, .ref q_3, .ref q_5, .ref q_2])), (q_1, .inr (4, [.int x_6, .ref q_11, .int x_7, .ref q_12, .ref q_13, .int x_8, .ref q_14, .ref q_4, .ref q_15, .int x_9, .ref q_16, .ref q_17, .ref q_18])), (q_2, .inl (k 0, 4608, .inl (u.2.2.2.2.1 0))), (q_3, .inl (k 0, 81, .inl f_11)), (q_4, .inl (k 0, 9, .inl f_12)), (q_5, .inl (k 0, 9, .inl f_13))]) := by
  refine zMi_of (own := RX2) (by decide +kernel) rfl (Nat.le_of_ble_eq_true rfl) ?_
  intro p e s m args below meth c A ls C0 hr hlk hin hP hD hS hA hK hN hl
  have hx := C0.1
  have hb := C0.2.1
  have hml := C0.2.2.1
  have hown := C0.2.2.2.1
  have hts := C0.2.2.2.2
  have hl : lv_has ls 9 [(0, .ref q_0), (1, .int x_0)] := hl
  have hP : va_P D vwCl [(q_0, .inr (2, [.ref q_6, .ref q_1, .ref q_7, .int x_1, .int x_2, .ref q_8, .ref q_9, .ref q_10, .int x_3, .int x_4, .int x_5, .ref q_3, .ref q_5, .ref q_2])), (q_1, .inr (4, [.int x_6, .ref q_11, .int x_7, .ref q_12, .ref q_13, .int x_8, .ref q_14, .ref q_4, .ref q_15, .int x_9, .ref q_16, .ref q_17, .ref q_18])), (q_2, .inl (k 0, 4608, .inl f_10)), (q_3, .inl (k 0, 81, .inl f_11)), (q_4, .inl (k 0, 9, .inl f_12)), (q_5, .inl (k 0, 9, .inl f_13))] s.heap := hP
  refine lv_ldc hx hb hown (hts _ kK_X2_121) dX2_fewestMinutes_0 ?_
  refine lv_istore_n (lv' := [(2, .int 1000000), (0, .ref q_0), (1, .int x_0)]) hx hb dX2_fewestMinutes_2 rfl hl (by decide) rfl (fun ls hl => ?_)
  refine lv_iconst (v := 0) hx hb dX2_fewestMinutes_3 (by decide) ?_
  refine lv_istore_n (lv' := [(3, .int 0), (2, .int 1000000), (0, .ref q_0), (1, .int x_0)]) hx hb dX2_fewestMinutes_4 rfl hl (by decide) rfl (fun ls hl => ?_)
  have loop19 : ∀ (N20 : Nat) (y16 : Int32) (y17 : Int32) (F18 : Nat → Int32) (H : Heap) (locs : List Loc) (ls : Array Slot), Int.toNat (9 - Int32.toInt y16) < N20 → 0 ≤ Int32.toInt y16 ∧ Int32.toInt y16 ≤ 9 → (-2147483648) ≤ Int32.toInt y17 ∧ Int32.toInt y17 ≤ 1000000 → va_P D vwCl [(q_0, .inr (2, [.ref q_6, .ref q_1, .ref q_7, .int x_1, .int x_2, .ref q_8, .ref q_9, .ref q_10, .int x_3, .int x_4, .int x_5, .ref q_3, .ref q_5, .ref q_2])), (q_1, .inr (4, [.int x_6, .ref q_11, .int x_7, .ref q_12, .ref q_13, .int x_8, .ref q_14, .ref q_4, .ref q_15, .int x_9, .ref q_16, .ref q_17, .ref q_18])), (q_2, .inl (k 0, 4608, .inl F18)), (q_3, .inl (k 0, 81, .inl f_11)), (q_4, .inl (k 0, 9, .inl f_12)), (q_5, .inl (k 0, 9, .inl f_13))] H → va_D A [(q_0, .inr (2, [.ref q_6, .ref q_1, .ref q_7, .int x_1, .int x_2, .ref q_8, .ref q_9, .ref q_10, .int x_3, .int x_4, .int x_5, .ref q_3, .ref q_5, .ref q_2])), (q_1, .inr (4, [.int x_6, .ref q_11, .int x_7, .ref q_12, .ref q_13, .int x_8, .ref q_14, .ref q_4, .ref q_15, .int x_9, .ref q_16, .ref q_17, .ref q_18])), (q_2, .inl (k 0, 4608, .inl F18)), (q_3, .inl (k 0, 81, .inl f_11)), (q_4, .inl (k 0, 9, .inl f_12)), (q_5, .inl (k 0, 9, .inl f_13))] → va_S A s.heap H locs → lv_has ls 9 [(3, .int y16), (2, .int y17), (0, .ref q_0), (1, .int x_0)] → W p l e { frames := 1, cells := 0, slots := 0, locals := 40 } s m args below meth c H locs 0 0 (MQ below (va_Qi (fun (r : Int32) (u : zS) => u.1 = 0 ∧ ((-2147483648) ≤ Int32.toInt r ∧ Int32.toInt r ≤ 1000000)) (zB D k A (fun (u : zS) => [(q_0, .inr (2, [.ref q_6, .ref q_1, .ref q_7, .int x_1, .int x_2, .ref q_8, .ref q_9, .ref q_10, .int x_3, .int x_4, .int x_5, .ref q_3, .ref q_5, .ref q_2])), (q_1, .inr (4, [.int x_6, .ref q_11, .int x_7, .ref q_12, .ref q_13, .int x_8, .ref q_14, .ref q_4, .ref q_15, .int x_9, .ref q_16, .ref q_17, .ref q_18])), (q_2, .inl (k 0, 4608, .inl (u.2.2.2.2.1 0))), (q_3, .inl (k 0, 81, .inl f_11)), (q_4, .inl (k 0, 9, .inl f_12)), (q_5, .inl (k 0, 9, .inl f_13))])) A) args s 0 0 A) (F0 m 5 ls []) := by
    intro N20
    induction N20 with
    | zero => intro y16 y17 F18 H locs ls hm; exact absurd hm (Nat.not_lt_zero _)
    | succ N20 ihN20 =>
      intro y16 y17 F18 H locs ls hN20 hy16 hy17 hP hD hS hl
      refine lv_iload_n hx hb dX2_fewestMinutes_5 rfl (lv_at hl 0 rfl) ?_
      refine lv_aload_n hx hb dX2_fewestMinutes_6 rfl (lv_at hl 2 rfl) ?_
      refine va_get (D := D) (ci := 2) (v := .ref q_1) (C := RX2) (T := TX2) (N := 14) hx hb hts inX2 hown hK hP 0 rfl rfl 1 (by decide) (hts _ kF_X2_48) (fun _ h9 => h9) rfl dX2_fewestMinutes_7 ?_
      refine va_get (D := D) (ci := 4) (v := .int x_8) (C := RX4) (T := TX4) (N := 13) hx hb hts inX4 hown hK hP 1 rfl rfl 5 (by decide) (hts _ kF_X2_97) (fun _ h9 => h9) rfl dX2_fewestMinutes_10 ?_
      refine lv_icmp_ge (tgt := 180) hx hb dX2_fewestMinutes_13 (by decide) (fun c21 => ?_) (fun c21 => ?_)
      · refine lv_iload_n hx hb dX2_fewestMinutes_180 rfl (lv_at hl 1 rfl) ?_
        exact z_iret C0 hr hlk rfl hK hP hD hS (0, fun _ => 0, fun _ => 0, fun _ => 0, fun i => [F18].getD i (fun _ => 0), fun _ => (fun _ => 0), fun _ => (fun _ => none)) ⟨rfl, (by revert hy17; simp only [vp_in_iff, Int32.lt_iff_toInt_lt, Int32.le_iff_toInt_le, Int64.lt_iff_toInt_lt, Int64.le_iff_toInt_le, Int32.toInt_toInt64, ← Int32.toInt_inj, ← Int64.toInt_inj, Int32.reduceToInt, Int64.reduceToInt] <;> omega)⟩ [0, 1, 2, 3, 4, 5] rfl rfl rfl dX2_fewestMinutes_181
      · refine lv_iload_n hx hb dX2_fewestMinutes_16 rfl (lv_at hl 3 rfl) ?_
        refine lv_iconst (v := 1) hx hb dX2_fewestMinutes_17 (by decide) ?_
        refine lv_iload_n hx hb dX2_fewestMinutes_18 rfl (lv_at hl 0 rfl) ?_
        refine lv_ishl hx hb dX2_fewestMinutes_19 ?_
        refine lv_topi (fun y22 ey22 => ?_)
        have hy22 : 1 ≤ Int32.toInt y22 ∧ Int32.toInt y22 ≤ 256 := by rw [ey22]; exact zo_shl1 8 (show 0 ≤ Int32.toInt y16 ∧ Int32.toInt y16 ≤ 8 by revert hN20 hy16 c21 h_x_8; simp only [vp_in_iff, Int32.lt_iff_toInt_lt, Int32.le_iff_toInt_le, Int64.lt_iff_toInt_lt, Int64.le_iff_toInt_le, Int32.toInt_toInt64, ← Int32.toInt_inj, ← Int64.toInt_inj, Int32.reduceToInt, Int64.reduceToInt] <;> omega) (by decide)
        refine lv_ixor hx hb dX2_fewestMinutes_20 ?_
        refine lv_topi (fun y23 ey23 => ?_)
        have hy23 : 0 ≤ Int32.toInt y23 ∧ Int32.toInt y23 ≤ 511 := by rw [ey23]; exact zo_xor 9 (show 0 ≤ Int32.toInt x_0 ∧ Int32.toInt x_0 < 2 ^ 9 by revert h_x_0 hy22; simp only [vp_in_iff, Int32.lt_iff_toInt_lt, Int32.le_iff_toInt_le, Int64.lt_iff_toInt_lt, Int64.le_iff_toInt_le, Int32.toInt_toInt64, ← Int32.toInt_inj, ← Int64.toInt_inj, Int32.reduceToInt, Int64.reduceToInt] <;> omega) (show 0 ≤ Int32.toInt y22 ∧ Int32.toInt y22 < 2 ^ 9 by revert h_x_0 hy22; simp only [vp_in_iff, Int32.lt_iff_toInt_lt, Int32.le_iff_toInt_le, Int64.lt_iff_toInt_lt, Int64.le_iff_toInt_le, Int32.toInt_toInt64, ← Int32.toInt_inj, ← Int64.toInt_inj, Int32.reduceToInt, Int64.reduceToInt] <;> omega) (by decide)
        refine lv_istore (lv' := [(4, .int y23), (3, .int y16), (2, .int y17), (0, .ref q_0), (1, .int x_0)]) hx hb dX2_fewestMinutes_21 hl (by decide) rfl (fun ls hl => ?_)
        refine lv_iload hx hb dX2_fewestMinutes_23 (lv_at hl 0 rfl) ?_
        refine lv_iload_n hx hb dX2_fewestMinutes_25 rfl (lv_at hl 4 rfl) ?_
        refine lv_icmp_le (tgt := 32) hx hb dX2_fewestMinutes_26 (by decide) (fun c24 => ?_) (fun c24 => ?_)
        · refine lv_iload hx hb dX2_fewestMinutes_32 (lv_at hl 0 rfl) ?_
          refine lv_if_ne (tgt := 46) hx hb dX2_fewestMinutes_34 (by decide) (fun c25 => ?_) (fun c25 => ?_)
          · refine lv_ldc hx hb hown (hts _ kK_X2_121) dX2_fewestMinutes_46 ?_
            refine lv_istore (lv' := [(5, .int 1000000), (4, .int y23), (3, .int y16), (2, .int y17), (0, .ref q_0), (1, .int x_0)]) hx hb dX2_fewestMinutes_48 hl (by decide) rfl (fun ls hl => ?_)
            refine lv_iload hx hb dX2_fewestMinutes_50 (lv_at hl 1 rfl) ?_
            refine lv_istore (lv' := [(6, .int y23), (5, .int 1000000), (4, .int y23), (3, .int y16), (2, .int y17), (0, .ref q_0), (1, .int x_0)]) hx hb dX2_fewestMinutes_52 hl (by decide) rfl (fun ls hl => ?_)
            refine lv_iconst (v := 0) hx hb dX2_fewestMinutes_54 (by decide) ?_
            refine lv_istore (lv' := [(7, .int 0), (6, .int y23), (5, .int 1000000), (4, .int y23), (3, .int y16), (2, .int y17), (0, .ref q_0), (1, .int x_0)]) hx hb dX2_fewestMinutes_55 hl (by decide) rfl (fun ls hl => ?_)
            have loop44 : ∀ (N45 : Nat) (y41 : Int32) (y42 : Int32) (y43 : Int32) (H : Heap) (locs : List Loc) (ls : Array Slot), Int.toNat (9 - Int32.toInt y41) < N45 → 0 ≤ Int32.toInt y41 ∧ Int32.toInt y41 ≤ 9 → va_P D vwCl [(q_0, .inr (2, [.ref q_6, .ref q_1, .ref q_7, .int x_1, .int x_2, .ref q_8, .ref q_9, .ref q_10, .int x_3, .int x_4, .int x_5, .ref q_3, .ref q_5, .ref q_2])), (q_1, .inr (4, [.int x_6, .ref q_11, .int x_7, .ref q_12, .ref q_13, .int x_8, .ref q_14, .ref q_4, .ref q_15, .int x_9, .ref q_16, .ref q_17, .ref q_18])), (q_2, .inl (k 0, 4608, .inl F18)), (q_3, .inl (k 0, 81, .inl f_11)), (q_4, .inl (k 0, 9, .inl f_12)), (q_5, .inl (k 0, 9, .inl f_13))] H → va_D A [(q_0, .inr (2, [.ref q_6, .ref q_1, .ref q_7, .int x_1, .int x_2, .ref q_8, .ref q_9, .ref q_10, .int x_3, .int x_4, .int x_5, .ref q_3, .ref q_5, .ref q_2])), (q_1, .inr (4, [.int x_6, .ref q_11, .int x_7, .ref q_12, .ref q_13, .int x_8, .ref q_14, .ref q_4, .ref q_15, .int x_9, .ref q_16, .ref q_17, .ref q_18])), (q_2, .inl (k 0, 4608, .inl F18)), (q_3, .inl (k 0, 81, .inl f_11)), (q_4, .inl (k 0, 9, .inl f_12)), (q_5, .inl (k 0, 9, .inl f_13))] → va_S A s.heap H locs → lv_has ls 9 [(7, .int y41), (6, .int y42), (5, .int y43), (4, .int y23), (3, .int y16), (2, .int y17), (0, .ref q_0), (1, .int x_0)] → W p l e { frames := 1, cells := 0, slots := 0, locals := 40 } s m args below meth c H locs 0 0 (MQ below (va_Qi (fun (r : Int32) (u : zS) => u.1 = 0 ∧ ((-2147483648) ≤ Int32.toInt r ∧ Int32.toInt r ≤ 1000000)) (zB D k A (fun (u : zS) => [(q_0, .inr (2, [.ref q_6, .ref q_1, .ref q_7, .int x_1, .int x_2, .ref q_8, .ref q_9, .ref q_10, .int x_3, .int x_4, .int x_5, .ref q_3, .ref q_5, .ref q_2])), (q_1, .inr (4, [.int x_6, .ref q_11, .int x_7, .ref q_12, .ref q_13, .int x_8, .ref q_14, .ref q_4, .ref q_15, .int x_9, .ref q_16, .ref q_17, .ref q_18])), (q_2, .inl (k 0, 4608, .inl (u.2.2.2.2.1 0))), (q_3, .inl (k 0, 81, .inl f_11)), (q_4, .inl (k 0, 9, .inl f_12)), (q_5, .inl (k 0, 9, .inl f_13))])) A) args s 0 0 A) (F0 m 57 ls []) := by
              intro N45
              induction N45 with
              | zero => intro y41 y42 y43 H locs ls hm; exact absurd hm (Nat.not_lt_zero _)
              | succ N45 ihN45 =>
                intro y41 y42 y43 H locs ls hN45 hy41 hP hD hS hl
                refine lv_iload hx hb dX2_fewestMinutes_57 (lv_at hl 0 rfl) ?_
                refine lv_bipush (v := 9) hx hb dX2_fewestMinutes_59 (by decide) ?_
                refine lv_icmp_ge (tgt := 133) hx hb dX2_fewestMinutes_61 (by decide) (fun c46 => ?_) (fun c46 => ?_)
                · refine lv_iload hx hb dX2_fewestMinutes_133 (lv_at hl 2 rfl) ?_
                  refine lv_aload_n hx hb dX2_fewestMinutes_135 rfl (lv_at hl 6 rfl) ?_
                  refine va_get (D := D) (ci := 2) (v := .ref q_1) (C := RX2) (T := TX2) (N := 14) hx hb hts inX2 hown hK hP 0 rfl rfl 1 (by decide) (hts _ kF_X2_48) (fun _ h9 => h9) rfl dX2_fewestMinutes_136 ?_
                  refine va_get (D := D) (ci := 4) (v := .ref q_4) (C := RX4) (T := TX4) (N := 13) hx hb hts inX4 hown hK hP 1 rfl rfl 7 (by decide) (hts _ kF_X2_122) (fun _ h9 => h9) rfl dX2_fewestMinutes_139 ?_
                  refine lv_iload_n hx hb dX2_fewestMinutes_142 rfl (lv_at hl 4 rfl) ?_
                  refine va_iald hx hb hK hP 4 0 rfl rfl (by revert hN20 hy16 c21 h_x_8; simp only [vp_in_iff, Int32.lt_iff_toInt_lt, Int32.le_iff_toInt_le, Int64.lt_iff_toInt_lt, Int64.le_iff_toInt_le, Int32.toInt_toInt64, ← Int32.toInt_inj, ← Int64.toInt_inj, Int32.reduceToInt, Int64.reduceToInt] <;> omega) dX2_fewestMinutes_143 ?_
                  refine lv_topi (fun y47 ey47 => ?_)
                  refine lv_iadd hx hb dX2_fewestMinutes_144 ?_
                  refine lv_istore (lv' := [(7, .int (y43 + y47)), (6, .int y42), (5, .int y43), (4, .int y23), (3, .int y16), (2, .int y17), (0, .ref q_0), (1, .int x_0)]) hx hb dX2_fewestMinutes_145 hl (by decide) rfl (fun ls hl => ?_)
                  refine lv_aload_n hx hb dX2_fewestMinutes_147 rfl (lv_at hl 6 rfl) ?_
                  refine va_get (D := D) (ci := 2) (v := .ref q_2) (C := RX2) (T := TX2) (N := 14) hx hb hts inX2 hown hK hP 0 rfl rfl 13 (by decide) (hts _ kF_X2_34) (fun _ h9 => h9) rfl dX2_fewestMinutes_148 ?_
                  refine lv_iload_n hx hb dX2_fewestMinutes_151 rfl (lv_at hl 7 rfl) ?_
                  refine lv_bipush (v := 9) hx hb dX2_fewestMinutes_152 (by decide) ?_
                  refine lv_imul hx hb dX2_fewestMinutes_154 ?_
                  have e48 : Int32.toInt (x_0 * 9) = Int32.toInt x_0 * Int32.toInt (9 : Int32) := zi_mul (by revert h_x_0 c24 c25 hy23; simp only [vp_in_iff, Int32.lt_iff_toInt_lt, Int32.le_iff_toInt_le, Int64.lt_iff_toInt_lt, Int64.le_iff_toInt_le, Int32.toInt_toInt64, ← Int32.toInt_inj, ← Int64.toInt_inj, Int32.reduceToInt, Int64.reduceToInt] <;> omega)
                  refine lv_iload_n hx hb dX2_fewestMinutes_155 rfl (lv_at hl 4 rfl) ?_
                  refine lv_iadd hx hb dX2_fewestMinutes_156 ?_
                  have e49 : Int32.toInt ((x_0 * 9) + y16) = Int32.toInt (x_0 * 9) + Int32.toInt y16 := zi_add (by revert h_x_0 hN20 hy16 c21 c24 c25 e48 h_x_8 hy23; simp only [vp_in_iff, Int32.lt_iff_toInt_lt, Int32.le_iff_toInt_le, Int64.lt_iff_toInt_lt, Int64.le_iff_toInt_le, Int32.toInt_toInt64, ← Int32.toInt_inj, ← Int64.toInt_inj, Int32.reduceToInt, Int64.reduceToInt] <;> omega)
                  refine lv_iload hx hb dX2_fewestMinutes_157 (lv_at hl 0 rfl) ?_
                  refine va_iast hx hb hK hP hD hS 2 0 rfl rfl (by revert h_x_0 hN20 hy16 c21 c24 c25 e48 e49 h_x_8 hy23; simp only [vp_in_iff, Int32.lt_iff_toInt_lt, Int32.le_iff_toInt_le, Int64.lt_iff_toInt_lt, Int64.le_iff_toInt_le, Int32.toInt_toInt64, ← Int32.toInt_inj, ← Int64.toInt_inj, Int32.reduceToInt, Int64.reduceToInt] <;> omega) dX2_fewestMinutes_159 (fun H locs hP hD hS => ?_)
                  obtain ⟨F50, eF50⟩ : ∃ q, q = upd F18 (Int32.toNatClampNeg ((x_0 * 9) + y16)) (y43 + y47) := ⟨_, rfl⟩
                  have hP : va_P D vwCl [(q_0, .inr (2, [.ref q_6, .ref q_1, .ref q_7, .int x_1, .int x_2, .ref q_8, .ref q_9, .ref q_10, .int x_3, .int x_4, .int x_5, .ref q_3, .ref q_5, .ref q_2])), (q_1, .inr (4, [.int x_6, .ref q_11, .int x_7, .ref q_12, .ref q_13, .int x_8, .ref q_14, .ref q_4, .ref q_15, .int x_9, .ref q_16, .ref q_17, .ref q_18])), (q_2, .inl (k 0, 4608, .inl F50)), (q_3, .inl (k 0, 81, .inl f_11)), (q_4, .inl (k 0, 9, .inl f_12)), (q_5, .inl (k 0, 9, .inl f_13))] H := by rw [eF50]; exact hP
                  have hD : va_D A [(q_0, .inr (2, [.ref q_6, .ref q_1, .ref q_7, .int x_1, .int x_2, .ref q_8, .ref q_9, .ref q_10, .int x_3, .int x_4, .int x_5, .ref q_3, .ref q_5, .ref q_2])), (q_1, .inr (4, [.int x_6, .ref q_11, .int x_7, .ref q_12, .ref q_13, .int x_8, .ref q_14, .ref q_4, .ref q_15, .int x_9, .ref q_16, .ref q_17, .ref q_18])), (q_2, .inl (k 0, 4608, .inl F50)), (q_3, .inl (k 0, 81, .inl f_11)), (q_4, .inl (k 0, 9, .inl f_12)), (q_5, .inl (k 0, 9, .inl f_13))] := by rw [eF50]; exact hD
                  refine lv_iload_n hx hb dX2_fewestMinutes_160 rfl (lv_at hl 5 rfl) ?_
                  refine lv_iload hx hb dX2_fewestMinutes_161 (lv_at hl 0 rfl) ?_
                  refine lv_aload_n hx hb dX2_fewestMinutes_163 rfl (lv_at hl 6 rfl) ?_
                  refine va_get (D := D) (ci := 2) (v := .ref q_5) (C := RX2) (T := TX2) (N := 14) hx hb hts inX2 hown hK hP 0 rfl rfl 12 (by decide) (hts _ kF_X2_31) (fun _ h9 => h9) rfl dX2_fewestMinutes_164 ?_
                  refine lv_iload_n hx hb dX2_fewestMinutes_167 rfl (lv_at hl 4 rfl) ?_
                  refine va_iald hx hb hK hP 5 0 rfl rfl (by revert hN20 hy16 c21 e49 h_x_0 h_x_8 c24 c25 e48 hy23; simp only [vp_in_iff, Int32.lt_iff_toInt_lt, Int32.le_iff_toInt_le, Int64.lt_iff_toInt_lt, Int64.le_iff_toInt_le, Int32.toInt_toInt64, ← Int32.toInt_inj, ← Int64.toInt_inj, Int32.reduceToInt, Int64.reduceToInt] <;> omega) dX2_fewestMinutes_168 ?_
                  refine lv_topi (fun y51 ey51 => ?_)
                  refine lv_iadd hx hb dX2_fewestMinutes_169 ?_
                  refine va_mmin hx hb (by rw [hml]; exact hl.1.symm) hown (hts _ kminL_X2_125) (hts _ kminS) (hts _ kZ_J9) (hts _ kminC) (Nat.le_of_ble_eq_true rfl) (Nat.le_of_ble_eq_true rfl) (Nat.le_of_ble_eq_true rfl) (Nat.le_of_ble_eq_true rfl) dX2_fewestMinutes_170 ?_
                  refine lv_topi (fun y52 ey52 => ?_)
                  have hy52 := zo_min y17 ((y43 + y47) + y51)
                  rw [← ey52] at hy52
                  refine lv_istore_n (lv' := [(2, .int y52), (7, .int (y43 + y47)), (6, .int y42), (5, .int y43), (4, .int y23), (3, .int y16), (0, .ref q_0), (1, .int x_0)]) hx hb dX2_fewestMinutes_173 rfl hl (by decide) rfl (fun ls hl => ?_)
                  have e53 : Int32.toInt (y16 + 1) = Int32.toInt y16 + Int32.toInt (1 : Int32) := zi_add (by revert hN20 hy16 c21 e49 h_x_0 h_x_8 c24 c25 e48 hy23; simp only [vp_in_iff, Int32.lt_iff_toInt_lt, Int32.le_iff_toInt_le, Int64.lt_iff_toInt_lt, Int64.le_iff_toInt_le, Int32.toInt_toInt64, ← Int32.toInt_inj, ← Int64.toInt_inj, Int32.reduceToInt, Int64.reduceToInt] <;> omega)
                  refine lv_iinc (v := (y16 + 1)) (lv' := [(3, .int (y16 + 1)), (2, .int y52), (7, .int (y43 + y47)), (6, .int y42), (5, .int y43), (4, .int y23), (0, .ref q_0), (1, .int x_0)]) hx hb dX2_fewestMinutes_174 hl (k := 5) rfl rfl (by decide) rfl (fun ls hl => ?_)
                  refine lv_goto (tgt := 5) hx hb dX2_fewestMinutes_177 (by decide) ?_
                  exact ihN20 (y16 + 1) y52 F50 _ _ ls (by revert hN20 hy16 c21 e49 e53 h_x_0 h_x_8 c24 c25 e48 hy23; simp only [vp_in_iff, Int32.lt_iff_toInt_lt, Int32.le_iff_toInt_le, Int64.lt_iff_toInt_lt, Int64.le_iff_toInt_le, Int32.toInt_toInt64, ← Int32.toInt_inj, ← Int64.toInt_inj, Int32.reduceToInt, Int64.reduceToInt] <;> omega) (by revert hN20 hy16 c21 e49 e53 h_x_0 h_x_8 c24 c25 e48 hy23; simp only [vp_in_iff, Int32.lt_iff_toInt_lt, Int32.le_iff_toInt_le, Int64.lt_iff_toInt_lt, Int64.le_iff_toInt_le, Int32.toInt_toInt64, ← Int32.toInt_inj, ← Int64.toInt_inj, Int32.reduceToInt, Int64.reduceToInt] <;> omega) (by revert hy17 hy52; simp only [vp_in_iff, Int32.lt_iff_toInt_lt, Int32.le_iff_toInt_le, Int64.lt_iff_toInt_lt, Int64.le_iff_toInt_le, Int32.toInt_toInt64, ← Int32.toInt_inj, ← Int64.toInt_inj, Int32.reduceToInt, Int64.reduceToInt] <;> omega) hP hD hS (lv_sub hl [0, 1, 6, 7] rfl)
                · refine lv_iload hx hb dX2_fewestMinutes_64 (lv_at hl 1 rfl) ?_
                  refine lv_if_eq (tgt := 133) hx hb dX2_fewestMinutes_66 (by decide) (fun c54 => ?_) (fun c54 => ?_)
                  · refine lv_iload hx hb dX2_fewestMinutes_133 (lv_at hl 2 rfl) ?_
                    refine lv_aload_n hx hb dX2_fewestMinutes_135 rfl (lv_at hl 6 rfl) ?_
                    refine va_get (D := D) (ci := 2) (v := .ref q_1) (C := RX2) (T := TX2) (N := 14) hx hb hts inX2 hown hK hP 0 rfl rfl 1 (by decide) (hts _ kF_X2_48) (fun _ h9 => h9) rfl dX2_fewestMinutes_136 ?_
                    refine va_get (D := D) (ci := 4) (v := .ref q_4) (C := RX4) (T := TX4) (N := 13) hx hb hts inX4 hown hK hP 1 rfl rfl 7 (by decide) (hts _ kF_X2_122) (fun _ h9 => h9) rfl dX2_fewestMinutes_139 ?_
                    refine lv_iload_n hx hb dX2_fewestMinutes_142 rfl (lv_at hl 4 rfl) ?_
                    refine va_iald hx hb hK hP 4 0 rfl rfl (by revert hN20 hy16 c21 h_x_8; simp only [vp_in_iff, Int32.lt_iff_toInt_lt, Int32.le_iff_toInt_le, Int64.lt_iff_toInt_lt, Int64.le_iff_toInt_le, Int32.toInt_toInt64, ← Int32.toInt_inj, ← Int64.toInt_inj, Int32.reduceToInt, Int64.reduceToInt] <;> omega) dX2_fewestMinutes_143 ?_
                    refine lv_topi (fun y55 ey55 => ?_)
                    refine lv_iadd hx hb dX2_fewestMinutes_144 ?_
                    refine lv_istore (lv' := [(7, .int (y43 + y55)), (6, .int y42), (5, .int y43), (4, .int y23), (3, .int y16), (2, .int y17), (0, .ref q_0), (1, .int x_0)]) hx hb dX2_fewestMinutes_145 hl (by decide) rfl (fun ls hl => ?_)
                    refine lv_aload_n hx hb dX2_fewestMinutes_147 rfl (lv_at hl 6 rfl) ?_
                    refine va_get (D := D) (ci := 2) (v := .ref q_2) (C := RX2) (T := TX2) (N := 14) hx hb hts inX2 hown hK hP 0 rfl rfl 13 (by decide) (hts _ kF_X2_34) (fun _ h9 => h9) rfl dX2_fewestMinutes_148 ?_
                    refine lv_iload_n hx hb dX2_fewestMinutes_151 rfl (lv_at hl 7 rfl) ?_
                    refine lv_bipush (v := 9) hx hb dX2_fewestMinutes_152 (by decide) ?_
                    refine lv_imul hx hb dX2_fewestMinutes_154 ?_
                    have e56 : Int32.toInt (x_0 * 9) = Int32.toInt x_0 * Int32.toInt (9 : Int32) := zi_mul (by revert h_x_0 c24 c25 hy23; simp only [vp_in_iff, Int32.lt_iff_toInt_lt, Int32.le_iff_toInt_le, Int64.lt_iff_toInt_lt, Int64.le_iff_toInt_le, Int32.toInt_toInt64, ← Int32.toInt_inj, ← Int64.toInt_inj, Int32.reduceToInt, Int64.reduceToInt] <;> omega)
                    refine lv_iload_n hx hb dX2_fewestMinutes_155 rfl (lv_at hl 4 rfl) ?_
                    refine lv_iadd hx hb dX2_fewestMinutes_156 ?_
                    have e57 : Int32.toInt ((x_0 * 9) + y16) = Int32.toInt (x_0 * 9) + Int32.toInt y16 := zi_add (by revert h_x_0 hN20 hy16 c21 c24 c25 e56 h_x_8 hy23; simp only [vp_in_iff, Int32.lt_iff_toInt_lt, Int32.le_iff_toInt_le, Int64.lt_iff_toInt_lt, Int64.le_iff_toInt_le, Int32.toInt_toInt64, ← Int32.toInt_inj, ← Int64.toInt_inj, Int32.reduceToInt, Int64.reduceToInt] <;> omega)
                    refine lv_iload hx hb dX2_fewestMinutes_157 (lv_at hl 0 rfl) ?_
                    refine va_iast hx hb hK hP hD hS 2 0 rfl rfl (by revert h_x_0 hN20 hy16 c21 c24 c25 e56 e57 h_x_8 hy23; simp only [vp_in_iff, Int32.lt_iff_toInt_lt, Int32.le_iff_toInt_le, Int64.lt_iff_toInt_lt, Int64.le_iff_toInt_le, Int32.toInt_toInt64, ← Int32.toInt_inj, ← Int64.toInt_inj, Int32.reduceToInt, Int64.reduceToInt] <;> omega) dX2_fewestMinutes_159 (fun H locs hP hD hS => ?_)
                    obtain ⟨F58, eF58⟩ : ∃ q, q = upd F18 (Int32.toNatClampNeg ((x_0 * 9) + y16)) (y43 + y55) := ⟨_, rfl⟩
                    have hP : va_P D vwCl [(q_0, .inr (2, [.ref q_6, .ref q_1, .ref q_7, .int x_1, .int x_2, .ref q_8, .ref q_9, .ref q_10, .int x_3, .int x_4, .int x_5, .ref q_3, .ref q_5, .ref q_2])), (q_1, .inr (4, [.int x_6, .ref q_11, .int x_7, .ref q_12, .ref q_13, .int x_8, .ref q_14, .ref q_4, .ref q_15, .int x_9, .ref q_16, .ref q_17, .ref q_18])), (q_2, .inl (k 0, 4608, .inl F58)), (q_3, .inl (k 0, 81, .inl f_11)), (q_4, .inl (k 0, 9, .inl f_12)), (q_5, .inl (k 0, 9, .inl f_13))] H := by rw [eF58]; exact hP
                    have hD : va_D A [(q_0, .inr (2, [.ref q_6, .ref q_1, .ref q_7, .int x_1, .int x_2, .ref q_8, .ref q_9, .ref q_10, .int x_3, .int x_4, .int x_5, .ref q_3, .ref q_5, .ref q_2])), (q_1, .inr (4, [.int x_6, .ref q_11, .int x_7, .ref q_12, .ref q_13, .int x_8, .ref q_14, .ref q_4, .ref q_15, .int x_9, .ref q_16, .ref q_17, .ref q_18])), (q_2, .inl (k 0, 4608, .inl F58)), (q_3, .inl (k 0, 81, .inl f_11)), (q_4, .inl (k 0, 9, .inl f_12)), (q_5, .inl (k 0, 9, .inl f_13))] := by rw [eF58]; exact hD
                    refine lv_iload_n hx hb dX2_fewestMinutes_160 rfl (lv_at hl 5 rfl) ?_
                    refine lv_iload hx hb dX2_fewestMinutes_161 (lv_at hl 0 rfl) ?_
                    refine lv_aload_n hx hb dX2_fewestMinutes_163 rfl (lv_at hl 6 rfl) ?_
                    refine va_get (D := D) (ci := 2) (v := .ref q_5) (C := RX2) (T := TX2) (N := 14) hx hb hts inX2 hown hK hP 0 rfl rfl 12 (by decide) (hts _ kF_X2_31) (fun _ h9 => h9) rfl dX2_fewestMinutes_164 ?_
                    refine lv_iload_n hx hb dX2_fewestMinutes_167 rfl (lv_at hl 4 rfl) ?_
                    refine va_iald hx hb hK hP 5 0 rfl rfl (by revert hN20 hy16 c21 e57 h_x_0 h_x_8 c24 c25 e56 hy23; simp only [vp_in_iff, Int32.lt_iff_toInt_lt, Int32.le_iff_toInt_le, Int64.lt_iff_toInt_lt, Int64.le_iff_toInt_le, Int32.toInt_toInt64, ← Int32.toInt_inj, ← Int64.toInt_inj, Int32.reduceToInt, Int64.reduceToInt] <;> omega) dX2_fewestMinutes_168 ?_
                    refine lv_topi (fun y59 ey59 => ?_)
                    refine lv_iadd hx hb dX2_fewestMinutes_169 ?_
                    refine va_mmin hx hb (by rw [hml]; exact hl.1.symm) hown (hts _ kminL_X2_125) (hts _ kminS) (hts _ kZ_J9) (hts _ kminC) (Nat.le_of_ble_eq_true rfl) (Nat.le_of_ble_eq_true rfl) (Nat.le_of_ble_eq_true rfl) (Nat.le_of_ble_eq_true rfl) dX2_fewestMinutes_170 ?_
                    refine lv_topi (fun y60 ey60 => ?_)
                    have hy60 := zo_min y17 ((y43 + y55) + y59)
                    rw [← ey60] at hy60
                    refine lv_istore_n (lv' := [(2, .int y60), (7, .int (y43 + y55)), (6, .int y42), (5, .int y43), (4, .int y23), (3, .int y16), (0, .ref q_0), (1, .int x_0)]) hx hb dX2_fewestMinutes_173 rfl hl (by decide) rfl (fun ls hl => ?_)
                    have e61 : Int32.toInt (y16 + 1) = Int32.toInt y16 + Int32.toInt (1 : Int32) := zi_add (by revert hN20 hy16 c21 e57 h_x_0 h_x_8 c24 c25 e56 hy23; simp only [vp_in_iff, Int32.lt_iff_toInt_lt, Int32.le_iff_toInt_le, Int64.lt_iff_toInt_lt, Int64.le_iff_toInt_le, Int32.toInt_toInt64, ← Int32.toInt_inj, ← Int64.toInt_inj, Int32.reduceToInt, Int64.reduceToInt] <;> omega)
                    refine lv_iinc (v := (y16 + 1)) (lv' := [(3, .int (y16 + 1)), (2, .int y60), (7, .int (y43 + y55)), (6, .int y42), (5, .int y43), (4, .int y23), (0, .ref q_0), (1, .int x_0)]) hx hb dX2_fewestMinutes_174 hl (k := 5) rfl rfl (by decide) rfl (fun ls hl => ?_)
                    refine lv_goto (tgt := 5) hx hb dX2_fewestMinutes_177 (by decide) ?_
                    exact ihN20 (y16 + 1) y60 F58 _ _ ls (by revert hN20 hy16 c21 e57 e61 h_x_0 h_x_8 c24 c25 e56 hy23; simp only [vp_in_iff, Int32.lt_iff_toInt_lt, Int32.le_iff_toInt_le, Int64.lt_iff_toInt_lt, Int64.le_iff_toInt_le, Int32.toInt_toInt64, ← Int32.toInt_inj, ← Int64.toInt_inj, Int32.reduceToInt, Int64.reduceToInt] <;> omega) (by revert hN20 hy16 c21 e57 e61 h_x_0 h_x_8 c24 c25 e56 hy23; simp only [vp_in_iff, Int32.lt_iff_toInt_lt, Int32.le_iff_toInt_le, Int64.lt_iff_toInt_lt, Int64.le_iff_toInt_le, Int32.toInt_toInt64, ← Int32.toInt_inj, ← Int64.toInt_inj, Int32.reduceToInt, Int64.reduceToInt] <;> omega) (by revert hy17 hy60; simp only [vp_in_iff, Int32.lt_iff_toInt_lt, Int32.le_iff_toInt_le, Int64.lt_iff_toInt_lt, Int64.le_iff_toInt_le, Int32.toInt_toInt64, ← Int32.toInt_inj, ← Int64.toInt_inj, Int32.reduceToInt, Int64.reduceToInt] <;> omega) hP hD hS (lv_sub hl [0, 1, 6, 7] rfl)
                  · refine lv_iload hx hb dX2_fewestMinutes_69 (lv_at hl 1 rfl) ?_
                    refine lv_iconst (v := 1) hx hb dX2_fewestMinutes_71 (by decide) ?_
                    refine lv_iand hx hb dX2_fewestMinutes_72 ?_
                    refine lv_topi (fun y62 ey62 => ?_)
                    have hy62 : 0 ≤ Int32.toInt y62 ∧ Int32.toInt y62 ≤ 1 := by rw [ey62]; exact zo_and _ (by decide)
                    refine lv_iconst (v := 1) hx hb dX2_fewestMinutes_73 (by decide) ?_
                    refine lv_icmp_ne (tgt := 121) hx hb dX2_fewestMinutes_74 (by decide) (fun c63 => ?_) (fun c63 => ?_)
                    · refine lv_iload hx hb dX2_fewestMinutes_121 (lv_at hl 1 rfl) ?_
                      refine lv_iconst (v := 1) hx hb dX2_fewestMinutes_123 (by decide) ?_
                      refine lv_ishr hx hb dX2_fewestMinutes_124 ?_
                      refine lv_topi (fun y64 ey64 => ?_)
                      refine lv_istore (lv' := [(6, .int y64), (7, .int y41), (5, .int y43), (4, .int y23), (3, .int y16), (2, .int y17), (0, .ref q_0), (1, .int x_0)]) hx hb dX2_fewestMinutes_125 hl (by decide) rfl (fun ls hl => ?_)
                      have e65 : Int32.toInt (y41 + 1) = Int32.toInt y41 + Int32.toInt (1 : Int32) := zi_add (by revert hN45 hy41 c46; simp only [vp_in_iff, Int32.lt_iff_toInt_lt, Int32.le_iff_toInt_le, Int64.lt_iff_toInt_lt, Int64.le_iff_toInt_le, Int32.toInt_toInt64, ← Int32.toInt_inj, ← Int64.toInt_inj, Int32.reduceToInt, Int64.reduceToInt] <;> omega)
                      refine lv_iinc (v := (y41 + 1)) (lv' := [(7, .int (y41 + 1)), (6, .int y64), (5, .int y43), (4, .int y23), (3, .int y16), (2, .int y17), (0, .ref q_0), (1, .int x_0)]) hx hb dX2_fewestMinutes_127 hl (k := 1) rfl rfl (by decide) rfl (fun ls hl => ?_)
                      refine lv_goto (tgt := 57) hx hb dX2_fewestMinutes_130 (by decide) ?_
                      exact ihN45 (y41 + 1) y64 y43 _ _ ls (by revert hN45 hy41 c46 e65; simp only [vp_in_iff, Int32.lt_iff_toInt_lt, Int32.le_iff_toInt_le, Int64.lt_iff_toInt_lt, Int64.le_iff_toInt_le, Int32.toInt_toInt64, ← Int32.toInt_inj, ← Int64.toInt_inj, Int32.reduceToInt, Int64.reduceToInt] <;> omega) (by revert hN45 hy41 c46 e65; simp only [vp_in_iff, Int32.lt_iff_toInt_lt, Int32.le_iff_toInt_le, Int64.lt_iff_toInt_lt, Int64.le_iff_toInt_le, Int32.toInt_toInt64, ← Int32.toInt_inj, ← Int64.toInt_inj, Int32.reduceToInt, Int64.reduceToInt] <;> omega) hP hD hS (lv_sub hl [0, 1, 2, 3, 4, 5, 6, 7] rfl)
                    · refine lv_aload_n hx hb dX2_fewestMinutes_77 rfl (lv_at hl 6 rfl) ?_
                      refine va_get (D := D) (ci := 2) (v := .ref q_2) (C := RX2) (T := TX2) (N := 14) hx hb hts inX2 hown hK hP 0 rfl rfl 13 (by decide) (hts _ kF_X2_34) (fun _ h9 => h9) rfl dX2_fewestMinutes_78 ?_
                      refine lv_iload hx hb dX2_fewestMinutes_81 (lv_at hl 3 rfl) ?_
                      refine lv_bipush (v := 9) hx hb dX2_fewestMinutes_83 (by decide) ?_
                      refine lv_imul hx hb dX2_fewestMinutes_85 ?_
                      have e66 : Int32.toInt (y23 * 9) = Int32.toInt y23 * Int32.toInt (9 : Int32) := zi_mul (by revert hy23 c24 c25 h_x_0; simp only [vp_in_iff, Int32.lt_iff_toInt_lt, Int32.le_iff_toInt_le, Int64.lt_iff_toInt_lt, Int64.le_iff_toInt_le, Int32.toInt_toInt64, ← Int32.toInt_inj, ← Int64.toInt_inj, Int32.reduceToInt, Int64.reduceToInt] <;> omega)
                      refine lv_iload hx hb dX2_fewestMinutes_86 (lv_at hl 0 rfl) ?_
                      refine lv_iadd hx hb dX2_fewestMinutes_88 ?_
                      have e67 : Int32.toInt ((y23 * 9) + y41) = Int32.toInt (y23 * 9) + Int32.toInt y41 := zi_add (by revert hy23 c24 c25 hN45 hy41 c46 e66 h_x_0; simp only [vp_in_iff, Int32.lt_iff_toInt_lt, Int32.le_iff_toInt_le, Int64.lt_iff_toInt_lt, Int64.le_iff_toInt_le, Int32.toInt_toInt64, ← Int32.toInt_inj, ← Int64.toInt_inj, Int32.reduceToInt, Int64.reduceToInt] <;> omega)
                      refine va_iald hx hb hK hP 2 0 rfl rfl (by revert hy23 c24 c25 hN45 hy41 c46 e66 e67 h_x_0; simp only [vp_in_iff, Int32.lt_iff_toInt_lt, Int32.le_iff_toInt_le, Int64.lt_iff_toInt_lt, Int64.le_iff_toInt_le, Int32.toInt_toInt64, ← Int32.toInt_inj, ← Int64.toInt_inj, Int32.reduceToInt, Int64.reduceToInt] <;> omega) dX2_fewestMinutes_89 ?_
                      refine lv_topi (fun y68 ey68 => ?_)
                      refine lv_aload_n hx hb dX2_fewestMinutes_90 rfl (lv_at hl 6 rfl) ?_
                      refine va_get (D := D) (ci := 2) (v := .ref q_3) (C := RX2) (T := TX2) (N := 14) hx hb hts inX2 hown hK hP 0 rfl rfl 11 (by decide) (hts _ kF_X2_28) (fun _ h9 => h9) rfl dX2_fewestMinutes_91 ?_
                      refine lv_iload hx hb dX2_fewestMinutes_94 (lv_at hl 0 rfl) ?_
                      refine lv_bipush (v := 9) hx hb dX2_fewestMinutes_96 (by decide) ?_
                      refine lv_imul hx hb dX2_fewestMinutes_98 ?_
                      have e69 : Int32.toInt (y41 * 9) = Int32.toInt y41 * Int32.toInt (9 : Int32) := zi_mul (by revert hN45 hy41 c46 e67 hy23 c24 c25 e66 h_x_0; simp only [vp_in_iff, Int32.lt_iff_toInt_lt, Int32.le_iff_toInt_le, Int64.lt_iff_toInt_lt, Int64.le_iff_toInt_le, Int32.toInt_toInt64, ← Int32.toInt_inj, ← Int64.toInt_inj, Int32.reduceToInt, Int64.reduceToInt] <;> omega)
                      refine lv_iload_n hx hb dX2_fewestMinutes_99 rfl (lv_at hl 4 rfl) ?_
                      refine lv_iadd hx hb dX2_fewestMinutes_100 ?_
                      have e70 : Int32.toInt ((y41 * 9) + y16) = Int32.toInt (y41 * 9) + Int32.toInt y16 := zi_add (by revert hN20 hy16 c21 hN45 hy41 c46 e67 e69 h_x_8 hy23 c24 c25 e66 h_x_0; simp only [vp_in_iff, Int32.lt_iff_toInt_lt, Int32.le_iff_toInt_le, Int64.lt_iff_toInt_lt, Int64.le_iff_toInt_le, Int32.toInt_toInt64, ← Int32.toInt_inj, ← Int64.toInt_inj, Int32.reduceToInt, Int64.reduceToInt] <;> omega)
                      refine va_iald hx hb hK hP 3 0 rfl rfl (by revert hN20 hy16 c21 hN45 hy41 c46 e67 e69 e70 h_x_8 hy23 c24 c25 e66 h_x_0; simp only [vp_in_iff, Int32.lt_iff_toInt_lt, Int32.le_iff_toInt_le, Int64.lt_iff_toInt_lt, Int64.le_iff_toInt_le, Int32.toInt_toInt64, ← Int32.toInt_inj, ← Int64.toInt_inj, Int32.reduceToInt, Int64.reduceToInt] <;> omega) dX2_fewestMinutes_101 ?_
                      refine lv_topi (fun y71 ey71 => ?_)
                      refine lv_iadd hx hb dX2_fewestMinutes_102 ?_
                      refine lv_istore (lv' := [(8, .int (y68 + y71)), (7, .int y41), (6, .int y42), (5, .int y43), (4, .int y23), (3, .int y16), (2, .int y17), (0, .ref q_0), (1, .int x_0)]) hx hb dX2_fewestMinutes_103 hl (by decide) rfl (fun ls hl => ?_)
                      refine lv_iload hx hb dX2_fewestMinutes_105 (lv_at hl 0 rfl) ?_
                      refine lv_iload hx hb dX2_fewestMinutes_107 (lv_at hl 3 rfl) ?_
                      refine lv_icmp_ge (tgt := 117) hx hb dX2_fewestMinutes_109 (by decide) (fun c72 => ?_) (fun c72 => ?_)
                      · refine lv_iload hx hb dX2_fewestMinutes_117 (lv_at hl 3 rfl) ?_
                        refine lv_istore (lv' := [(5, .int y43), (8, .int (y68 + y71)), (7, .int y41), (6, .int y42), (4, .int y23), (3, .int y16), (2, .int y17), (0, .ref q_0), (1, .int x_0)]) hx hb dX2_fewestMinutes_119 hl (by decide) rfl (fun ls hl => ?_)
                        refine lv_iload hx hb dX2_fewestMinutes_121 (lv_at hl 3 rfl) ?_
                        refine lv_iconst (v := 1) hx hb dX2_fewestMinutes_123 (by decide) ?_
                        refine lv_ishr hx hb dX2_fewestMinutes_124 ?_
                        refine lv_topi (fun y73 ey73 => ?_)
                        refine lv_istore (lv' := [(6, .int y73), (5, .int y43), (8, .int (y68 + y71)), (7, .int y41), (4, .int y23), (3, .int y16), (2, .int y17), (0, .ref q_0), (1, .int x_0)]) hx hb dX2_fewestMinutes_125 hl (by decide) rfl (fun ls hl => ?_)
                        have e74 : Int32.toInt (y41 + 1) = Int32.toInt y41 + Int32.toInt (1 : Int32) := zi_add (by revert hN45 hy41 c46 e67 e69 e70 hN20 hy16 c21 hy23 c24 c25 e66 h_x_0 h_x_8; simp only [vp_in_iff, Int32.lt_iff_toInt_lt, Int32.le_iff_toInt_le, Int64.lt_iff_toInt_lt, Int64.le_iff_toInt_le, Int32.toInt_toInt64, ← Int32.toInt_inj, ← Int64.toInt_inj, Int32.reduceToInt, Int64.reduceToInt] <;> omega)
                        refine lv_iinc (v := (y41 + 1)) (lv' := [(7, .int (y41 + 1)), (6, .int y73), (5, .int y43), (8, .int (y68 + y71)), (4, .int y23), (3, .int y16), (2, .int y17), (0, .ref q_0), (1, .int x_0)]) hx hb dX2_fewestMinutes_127 hl (k := 3) rfl rfl (by decide) rfl (fun ls hl => ?_)
                        refine lv_goto (tgt := 57) hx hb dX2_fewestMinutes_130 (by decide) ?_
                        exact ihN45 (y41 + 1) y73 y43 _ _ ls (by revert hN45 hy41 c46 e67 e69 e70 e74 hN20 hy16 c21 hy23 c24 c25 e66 h_x_0 h_x_8; simp only [vp_in_iff, Int32.lt_iff_toInt_lt, Int32.le_iff_toInt_le, Int64.lt_iff_toInt_lt, Int64.le_iff_toInt_le, Int32.toInt_toInt64, ← Int32.toInt_inj, ← Int64.toInt_inj, Int32.reduceToInt, Int64.reduceToInt] <;> omega) (by revert hN45 hy41 c46 e67 e69 e70 e74 hN20 hy16 c21 hy23 c24 c25 e66 h_x_0 h_x_8; simp only [vp_in_iff, Int32.lt_iff_toInt_lt, Int32.le_iff_toInt_le, Int64.lt_iff_toInt_lt, Int64.le_iff_toInt_le, Int32.toInt_toInt64, ← Int32.toInt_inj, ← Int64.toInt_inj, Int32.reduceToInt, Int64.reduceToInt] <;> omega) hP hD hS (lv_sub hl [0, 1, 2, 4, 5, 6, 7, 8] rfl)
                      · refine lv_iload hx hb dX2_fewestMinutes_112 (lv_at hl 0 rfl) ?_
                        refine lv_goto (tgt := 119) hx hb dX2_fewestMinutes_114 (by decide) ?_
                        refine lv_istore (lv' := [(5, .int (y68 + y71)), (8, .int (y68 + y71)), (7, .int y41), (6, .int y42), (4, .int y23), (3, .int y16), (2, .int y17), (0, .ref q_0), (1, .int x_0)]) hx hb dX2_fewestMinutes_119 hl (by decide) rfl (fun ls hl => ?_)
                        refine lv_iload hx hb dX2_fewestMinutes_121 (lv_at hl 3 rfl) ?_
                        refine lv_iconst (v := 1) hx hb dX2_fewestMinutes_123 (by decide) ?_
                        refine lv_ishr hx hb dX2_fewestMinutes_124 ?_
                        refine lv_topi (fun y75 ey75 => ?_)
                        refine lv_istore (lv' := [(6, .int y75), (5, .int (y68 + y71)), (8, .int (y68 + y71)), (7, .int y41), (4, .int y23), (3, .int y16), (2, .int y17), (0, .ref q_0), (1, .int x_0)]) hx hb dX2_fewestMinutes_125 hl (by decide) rfl (fun ls hl => ?_)
                        have e76 : Int32.toInt (y41 + 1) = Int32.toInt y41 + Int32.toInt (1 : Int32) := zi_add (by revert hN45 hy41 c46 e67 e69 e70 hN20 hy16 c21 hy23 c24 c25 e66 h_x_0 h_x_8; simp only [vp_in_iff, Int32.lt_iff_toInt_lt, Int32.le_iff_toInt_le, Int64.lt_iff_toInt_lt, Int64.le_iff_toInt_le, Int32.toInt_toInt64, ← Int32.toInt_inj, ← Int64.toInt_inj, Int32.reduceToInt, Int64.reduceToInt] <;> omega)
                        refine lv_iinc (v := (y41 + 1)) (lv' := [(7, .int (y41 + 1)), (6, .int y75), (5, .int (y68 + y71)), (8, .int (y68 + y71)), (4, .int y23), (3, .int y16), (2, .int y17), (0, .ref q_0), (1, .int x_0)]) hx hb dX2_fewestMinutes_127 hl (k := 3) rfl rfl (by decide) rfl (fun ls hl => ?_)
                        refine lv_goto (tgt := 57) hx hb dX2_fewestMinutes_130 (by decide) ?_
                        exact ihN45 (y41 + 1) y75 (y68 + y71) _ _ ls (by revert hN45 hy41 c46 e67 e69 e70 e76 hN20 hy16 c21 hy23 c24 c25 e66 h_x_0 h_x_8; simp only [vp_in_iff, Int32.lt_iff_toInt_lt, Int32.le_iff_toInt_le, Int64.lt_iff_toInt_lt, Int64.le_iff_toInt_le, Int32.toInt_toInt64, ← Int32.toInt_inj, ← Int64.toInt_inj, Int32.reduceToInt, Int64.reduceToInt] <;> omega) (by revert hN45 hy41 c46 e67 e69 e70 e76 hN20 hy16 c21 hy23 c24 c25 e66 h_x_0 h_x_8; simp only [vp_in_iff, Int32.lt_iff_toInt_lt, Int32.le_iff_toInt_le, Int64.lt_iff_toInt_lt, Int64.le_iff_toInt_le, Int32.toInt_toInt64, ← Int32.toInt_inj, ← Int64.toInt_inj, Int32.reduceToInt, Int64.reduceToInt] <;> omega) hP hD hS (lv_sub hl [0, 1, 2, 4, 5, 6, 7, 8] rfl)
            exact loop44 _ 0 y23 1000000 _ _ _ (Nat.lt_succ_self _) (by simp only [vp_in_iff, Int32.lt_iff_toInt_lt, Int32.le_iff_toInt_le, Int64.lt_iff_toInt_lt, Int64.le_iff_toInt_le, Int32.toInt_toInt64, ← Int32.toInt_inj, ← Int64.toInt_inj, Int32.reduceToInt, Int64.reduceToInt] <;> omega) hP hD hS (lv_sub hl [0, 1, 2, 3, 4, 5, 6, 7] rfl)
          · refine lv_aload_n hx hb dX2_fewestMinutes_37 rfl (lv_at hl 3 rfl) ?_
            refine va_get (D := D) (ci := 2) (v := .ref q_5) (C := RX2) (T := TX2) (N := 14) hx hb hts inX2 hown hK hP 0 rfl rfl 12 (by decide) (hts _ kF_X2_31) (fun _ h9 => h9) rfl dX2_fewestMinutes_38 ?_
            refine lv_iload_n hx hb dX2_fewestMinutes_41 rfl (lv_at hl 1 rfl) ?_
            refine va_iald hx hb hK hP 5 0 rfl rfl (by revert hN20 hy16 c21 h_x_8; simp only [vp_in_iff, Int32.lt_iff_toInt_lt, Int32.le_iff_toInt_le, Int64.lt_iff_toInt_lt, Int64.le_iff_toInt_le, Int32.toInt_toInt64, ← Int32.toInt_inj, ← Int64.toInt_inj, Int32.reduceToInt, Int64.reduceToInt] <;> omega) dX2_fewestMinutes_42 ?_
            refine lv_topi (fun y77 ey77 => ?_)
            refine lv_goto (tgt := 48) hx hb dX2_fewestMinutes_43 (by decide) ?_
            refine lv_istore (lv' := [(5, .int y77), (4, .int y23), (3, .int y16), (2, .int y17), (0, .ref q_0), (1, .int x_0)]) hx hb dX2_fewestMinutes_48 hl (by decide) rfl (fun ls hl => ?_)
            refine lv_iload hx hb dX2_fewestMinutes_50 (lv_at hl 1 rfl) ?_
            refine lv_istore (lv' := [(6, .int y23), (5, .int y77), (4, .int y23), (3, .int y16), (2, .int y17), (0, .ref q_0), (1, .int x_0)]) hx hb dX2_fewestMinutes_52 hl (by decide) rfl (fun ls hl => ?_)
            refine lv_iconst (v := 0) hx hb dX2_fewestMinutes_54 (by decide) ?_
            refine lv_istore (lv' := [(7, .int 0), (6, .int y23), (5, .int y77), (4, .int y23), (3, .int y16), (2, .int y17), (0, .ref q_0), (1, .int x_0)]) hx hb dX2_fewestMinutes_55 hl (by decide) rfl (fun ls hl => ?_)
            have loop78 : ∀ (N79 : Nat) (H : Heap) (locs : List Loc) (ls : Array Slot), Int.toNat 0 < N79 → va_P D vwCl [(q_0, .inr (2, [.ref q_6, .ref q_1, .ref q_7, .int x_1, .int x_2, .ref q_8, .ref q_9, .ref q_10, .int x_3, .int x_4, .int x_5, .ref q_3, .ref q_5, .ref q_2])), (q_1, .inr (4, [.int x_6, .ref q_11, .int x_7, .ref q_12, .ref q_13, .int x_8, .ref q_14, .ref q_4, .ref q_15, .int x_9, .ref q_16, .ref q_17, .ref q_18])), (q_2, .inl (k 0, 4608, .inl F18)), (q_3, .inl (k 0, 81, .inl f_11)), (q_4, .inl (k 0, 9, .inl f_12)), (q_5, .inl (k 0, 9, .inl f_13))] H → va_D A [(q_0, .inr (2, [.ref q_6, .ref q_1, .ref q_7, .int x_1, .int x_2, .ref q_8, .ref q_9, .ref q_10, .int x_3, .int x_4, .int x_5, .ref q_3, .ref q_5, .ref q_2])), (q_1, .inr (4, [.int x_6, .ref q_11, .int x_7, .ref q_12, .ref q_13, .int x_8, .ref q_14, .ref q_4, .ref q_15, .int x_9, .ref q_16, .ref q_17, .ref q_18])), (q_2, .inl (k 0, 4608, .inl F18)), (q_3, .inl (k 0, 81, .inl f_11)), (q_4, .inl (k 0, 9, .inl f_12)), (q_5, .inl (k 0, 9, .inl f_13))] → va_S A s.heap H locs → lv_has ls 9 [(7, .int 0), (6, .int y23), (5, .int y77), (4, .int y23), (3, .int y16), (2, .int y17), (0, .ref q_0), (1, .int x_0)] → W p l e { frames := 1, cells := 0, slots := 0, locals := 40 } s m args below meth c H locs 0 0 (MQ below (va_Qi (fun (r : Int32) (u : zS) => u.1 = 0 ∧ ((-2147483648) ≤ Int32.toInt r ∧ Int32.toInt r ≤ 1000000)) (zB D k A (fun (u : zS) => [(q_0, .inr (2, [.ref q_6, .ref q_1, .ref q_7, .int x_1, .int x_2, .ref q_8, .ref q_9, .ref q_10, .int x_3, .int x_4, .int x_5, .ref q_3, .ref q_5, .ref q_2])), (q_1, .inr (4, [.int x_6, .ref q_11, .int x_7, .ref q_12, .ref q_13, .int x_8, .ref q_14, .ref q_4, .ref q_15, .int x_9, .ref q_16, .ref q_17, .ref q_18])), (q_2, .inl (k 0, 4608, .inl (u.2.2.2.2.1 0))), (q_3, .inl (k 0, 81, .inl f_11)), (q_4, .inl (k 0, 9, .inl f_12)), (q_5, .inl (k 0, 9, .inl f_13))])) A) args s 0 0 A) (F0 m 57 ls []) := by
              intro N79
              induction N79 with
              | zero => intro H locs ls hm; exact absurd hm (Nat.not_lt_zero _)
              | succ N79 ihN79 =>
                intro H locs ls hN79 hP hD hS hl
                refine lv_iload hx hb dX2_fewestMinutes_57 (lv_at hl 0 rfl) ?_
                refine lv_bipush (v := 9) hx hb dX2_fewestMinutes_59 (by decide) ?_
                refine lv_icmp_ge (tgt := 133) hx hb dX2_fewestMinutes_61 (by decide) (fun c80 => absurd c80 (by decide)) (fun _ => ?_)
                refine lv_iload hx hb dX2_fewestMinutes_64 (lv_at hl 1 rfl) ?_
                refine lv_if_eq (tgt := 133) hx hb dX2_fewestMinutes_66 (by decide) (fun c81 => ?_) (fun c81 => ?_)
                · refine lv_iload hx hb dX2_fewestMinutes_133 (lv_at hl 2 rfl) ?_
                  refine lv_aload_n hx hb dX2_fewestMinutes_135 rfl (lv_at hl 6 rfl) ?_
                  refine va_get (D := D) (ci := 2) (v := .ref q_1) (C := RX2) (T := TX2) (N := 14) hx hb hts inX2 hown hK hP 0 rfl rfl 1 (by decide) (hts _ kF_X2_48) (fun _ h9 => h9) rfl dX2_fewestMinutes_136 ?_
                  refine va_get (D := D) (ci := 4) (v := .ref q_4) (C := RX4) (T := TX4) (N := 13) hx hb hts inX4 hown hK hP 1 rfl rfl 7 (by decide) (hts _ kF_X2_122) (fun _ h9 => h9) rfl dX2_fewestMinutes_139 ?_
                  refine lv_iload_n hx hb dX2_fewestMinutes_142 rfl (lv_at hl 4 rfl) ?_
                  refine va_iald hx hb hK hP 4 0 rfl rfl (by revert hN20 hy16 c21 h_x_8; simp only [vp_in_iff, Int32.lt_iff_toInt_lt, Int32.le_iff_toInt_le, Int64.lt_iff_toInt_lt, Int64.le_iff_toInt_le, Int32.toInt_toInt64, ← Int32.toInt_inj, ← Int64.toInt_inj, Int32.reduceToInt, Int64.reduceToInt] <;> omega) dX2_fewestMinutes_143 ?_
                  refine lv_topi (fun y82 ey82 => ?_)
                  refine lv_iadd hx hb dX2_fewestMinutes_144 ?_
                  refine lv_istore (lv' := [(7, .int (y77 + y82)), (6, .int y23), (5, .int y77), (4, .int y23), (3, .int y16), (2, .int y17), (0, .ref q_0), (1, .int x_0)]) hx hb dX2_fewestMinutes_145 hl (by decide) rfl (fun ls hl => ?_)
                  refine lv_aload_n hx hb dX2_fewestMinutes_147 rfl (lv_at hl 6 rfl) ?_
                  refine va_get (D := D) (ci := 2) (v := .ref q_2) (C := RX2) (T := TX2) (N := 14) hx hb hts inX2 hown hK hP 0 rfl rfl 13 (by decide) (hts _ kF_X2_34) (fun _ h9 => h9) rfl dX2_fewestMinutes_148 ?_
                  refine lv_iload_n hx hb dX2_fewestMinutes_151 rfl (lv_at hl 7 rfl) ?_
                  refine lv_bipush (v := 9) hx hb dX2_fewestMinutes_152 (by decide) ?_
                  refine lv_imul hx hb dX2_fewestMinutes_154 ?_
                  have e83 : Int32.toInt (x_0 * 9) = Int32.toInt x_0 * Int32.toInt (9 : Int32) := zi_mul (by revert h_x_0 c24 c25 c81 hy23; simp only [vp_in_iff, Int32.lt_iff_toInt_lt, Int32.le_iff_toInt_le, Int64.lt_iff_toInt_lt, Int64.le_iff_toInt_le, Int32.toInt_toInt64, ← Int32.toInt_inj, ← Int64.toInt_inj, Int32.reduceToInt, Int64.reduceToInt] <;> omega)
                  refine lv_iload_n hx hb dX2_fewestMinutes_155 rfl (lv_at hl 4 rfl) ?_
                  refine lv_iadd hx hb dX2_fewestMinutes_156 ?_
                  have e84 : Int32.toInt ((x_0 * 9) + y16) = Int32.toInt (x_0 * 9) + Int32.toInt y16 := zi_add (by revert h_x_0 hN20 hy16 c21 c24 c25 c81 e83 h_x_8 hy23; simp only [vp_in_iff, Int32.lt_iff_toInt_lt, Int32.le_iff_toInt_le, Int64.lt_iff_toInt_lt, Int64.le_iff_toInt_le, Int32.toInt_toInt64, ← Int32.toInt_inj, ← Int64.toInt_inj, Int32.reduceToInt, Int64.reduceToInt] <;> omega)
                  refine lv_iload hx hb dX2_fewestMinutes_157 (lv_at hl 0 rfl) ?_
                  refine va_iast hx hb hK hP hD hS 2 0 rfl rfl (by revert h_x_0 hN20 hy16 c21 c24 c25 c81 e83 e84 h_x_8 hy23; simp only [vp_in_iff, Int32.lt_iff_toInt_lt, Int32.le_iff_toInt_le, Int64.lt_iff_toInt_lt, Int64.le_iff_toInt_le, Int32.toInt_toInt64, ← Int32.toInt_inj, ← Int64.toInt_inj, Int32.reduceToInt, Int64.reduceToInt] <;> omega) dX2_fewestMinutes_159 (fun H locs hP hD hS => ?_)
                  obtain ⟨F85, eF85⟩ : ∃ q, q = upd F18 (Int32.toNatClampNeg ((x_0 * 9) + y16)) (y77 + y82) := ⟨_, rfl⟩
                  have hP : va_P D vwCl [(q_0, .inr (2, [.ref q_6, .ref q_1, .ref q_7, .int x_1, .int x_2, .ref q_8, .ref q_9, .ref q_10, .int x_3, .int x_4, .int x_5, .ref q_3, .ref q_5, .ref q_2])), (q_1, .inr (4, [.int x_6, .ref q_11, .int x_7, .ref q_12, .ref q_13, .int x_8, .ref q_14, .ref q_4, .ref q_15, .int x_9, .ref q_16, .ref q_17, .ref q_18])), (q_2, .inl (k 0, 4608, .inl F85)), (q_3, .inl (k 0, 81, .inl f_11)), (q_4, .inl (k 0, 9, .inl f_12)), (q_5, .inl (k 0, 9, .inl f_13))] H := by rw [eF85]; exact hP
                  have hD : va_D A [(q_0, .inr (2, [.ref q_6, .ref q_1, .ref q_7, .int x_1, .int x_2, .ref q_8, .ref q_9, .ref q_10, .int x_3, .int x_4, .int x_5, .ref q_3, .ref q_5, .ref q_2])), (q_1, .inr (4, [.int x_6, .ref q_11, .int x_7, .ref q_12, .ref q_13, .int x_8, .ref q_14, .ref q_4, .ref q_15, .int x_9, .ref q_16, .ref q_17, .ref q_18])), (q_2, .inl (k 0, 4608, .inl F85)), (q_3, .inl (k 0, 81, .inl f_11)), (q_4, .inl (k 0, 9, .inl f_12)), (q_5, .inl (k 0, 9, .inl f_13))] := by rw [eF85]; exact hD
                  refine lv_iload_n hx hb dX2_fewestMinutes_160 rfl (lv_at hl 5 rfl) ?_
                  refine lv_iload hx hb dX2_fewestMinutes_161 (lv_at hl 0 rfl) ?_
                  refine lv_aload_n hx hb dX2_fewestMinutes_163 rfl (lv_at hl 6 rfl) ?_
                  refine va_get (D := D) (ci := 2) (v := .ref q_5) (C := RX2) (T := TX2) (N := 14) hx hb hts inX2 hown hK hP 0 rfl rfl 12 (by decide) (hts _ kF_X2_31) (fun _ h9 => h9) rfl dX2_fewestMinutes_164 ?_
                  refine lv_iload_n hx hb dX2_fewestMinutes_167 rfl (lv_at hl 4 rfl) ?_
                  refine va_iald hx hb hK hP 5 0 rfl rfl (by revert hN20 hy16 c21 e84 h_x_0 h_x_8 c24 c25 c81 e83 hy23; simp only [vp_in_iff, Int32.lt_iff_toInt_lt, Int32.le_iff_toInt_le, Int64.lt_iff_toInt_lt, Int64.le_iff_toInt_le, Int32.toInt_toInt64, ← Int32.toInt_inj, ← Int64.toInt_inj, Int32.reduceToInt, Int64.reduceToInt] <;> omega) dX2_fewestMinutes_168 ?_
                  refine lv_topi (fun y86 ey86 => ?_)
                  refine lv_iadd hx hb dX2_fewestMinutes_169 ?_
                  refine va_mmin hx hb (by rw [hml]; exact hl.1.symm) hown (hts _ kminL_X2_125) (hts _ kminS) (hts _ kZ_J9) (hts _ kminC) (Nat.le_of_ble_eq_true rfl) (Nat.le_of_ble_eq_true rfl) (Nat.le_of_ble_eq_true rfl) (Nat.le_of_ble_eq_true rfl) dX2_fewestMinutes_170 ?_
                  refine lv_topi (fun y87 ey87 => ?_)
                  have hy87 := zo_min y17 ((y77 + y82) + y86)
                  rw [← ey87] at hy87
                  refine lv_istore_n (lv' := [(2, .int y87), (7, .int (y77 + y82)), (6, .int y23), (5, .int y77), (4, .int y23), (3, .int y16), (0, .ref q_0), (1, .int x_0)]) hx hb dX2_fewestMinutes_173 rfl hl (by decide) rfl (fun ls hl => ?_)
                  have e88 : Int32.toInt (y16 + 1) = Int32.toInt y16 + Int32.toInt (1 : Int32) := zi_add (by revert hN20 hy16 c21 e84 h_x_0 h_x_8 c24 c25 c81 e83 hy23; simp only [vp_in_iff, Int32.lt_iff_toInt_lt, Int32.le_iff_toInt_le, Int64.lt_iff_toInt_lt, Int64.le_iff_toInt_le, Int32.toInt_toInt64, ← Int32.toInt_inj, ← Int64.toInt_inj, Int32.reduceToInt, Int64.reduceToInt] <;> omega)
                  refine lv_iinc (v := (y16 + 1)) (lv' := [(3, .int (y16 + 1)), (2, .int y87), (7, .int (y77 + y82)), (6, .int y23), (5, .int y77), (4, .int y23), (0, .ref q_0), (1, .int x_0)]) hx hb dX2_fewestMinutes_174 hl (k := 5) rfl rfl (by decide) rfl (fun ls hl => ?_)
                  refine lv_goto (tgt := 5) hx hb dX2_fewestMinutes_177 (by decide) ?_
                  exact ihN20 (y16 + 1) y87 F85 _ _ ls (by revert hN20 hy16 c21 e84 e88 h_x_0 h_x_8 c24 c25 c81 e83 hy23; simp only [vp_in_iff, Int32.lt_iff_toInt_lt, Int32.le_iff_toInt_le, Int64.lt_iff_toInt_lt, Int64.le_iff_toInt_le, Int32.toInt_toInt64, ← Int32.toInt_inj, ← Int64.toInt_inj, Int32.reduceToInt, Int64.reduceToInt] <;> omega) (by revert hN20 hy16 c21 e84 e88 h_x_0 h_x_8 c24 c25 c81 e83 hy23; simp only [vp_in_iff, Int32.lt_iff_toInt_lt, Int32.le_iff_toInt_le, Int64.lt_iff_toInt_lt, Int64.le_iff_toInt_le, Int32.toInt_toInt64, ← Int32.toInt_inj, ← Int64.toInt_inj, Int32.reduceToInt, Int64.reduceToInt] <;> omega) (by revert hy17 hy87; simp only [vp_in_iff, Int32.lt_iff_toInt_lt, Int32.le_iff_toInt_le, Int64.lt_iff_toInt_lt, Int64.le_iff_toInt_le, Int32.toInt_toInt64, ← Int32.toInt_inj, ← Int64.toInt_inj, Int32.reduceToInt, Int64.reduceToInt] <;> omega) hP hD hS (lv_sub hl [0, 1, 6, 7] rfl)
                · exact (show False by revert hy23 c24 c25 c81 h_x_0; simp only [vp_in_iff, Int32.lt_iff_toInt_lt, Int32.le_iff_toInt_le, Int64.lt_iff_toInt_lt, Int64.le_iff_toInt_le, Int32.toInt_toInt64, ← Int32.toInt_inj, ← Int64.toInt_inj, Int32.reduceToInt, Int64.reduceToInt] <;> omega).elim
            exact loop78 _ _ _ _ (Nat.lt_succ_self _) hP hD hS (lv_sub hl [0, 1, 2, 3, 4, 5, 6, 7] rfl)
        · refine lv_goto (tgt := 174) hx hb dX2_fewestMinutes_29 (by decide) ?_
          have e89 : Int32.toInt (y16 + 1) = Int32.toInt y16 + Int32.toInt (1 : Int32) := zi_add (by revert hN20 hy16 c21 h_x_8; simp only [vp_in_iff, Int32.lt_iff_toInt_lt, Int32.le_iff_toInt_le, Int64.lt_iff_toInt_lt, Int64.le_iff_toInt_le, Int32.toInt_toInt64, ← Int32.toInt_inj, ← Int64.toInt_inj, Int32.reduceToInt, Int64.reduceToInt] <;> omega)
          refine lv_iinc (v := (y16 + 1)) (lv' := [(3, .int (y16 + 1)), (4, .int y23), (2, .int y17), (0, .ref q_0), (1, .int x_0)]) hx hb dX2_fewestMinutes_174 hl (k := 1) rfl rfl (by decide) rfl (fun ls hl => ?_)
          refine lv_goto (tgt := 5) hx hb dX2_fewestMinutes_177 (by decide) ?_
          exact ihN20 (y16 + 1) y17 F18 _ _ ls (by revert hN20 hy16 c21 e89 h_x_8; simp only [vp_in_iff, Int32.lt_iff_toInt_lt, Int32.le_iff_toInt_le, Int64.lt_iff_toInt_lt, Int64.le_iff_toInt_le, Int32.toInt_toInt64, ← Int32.toInt_inj, ← Int64.toInt_inj, Int32.reduceToInt, Int64.reduceToInt] <;> omega) (by revert hN20 hy16 c21 e89 h_x_8; simp only [vp_in_iff, Int32.lt_iff_toInt_lt, Int32.le_iff_toInt_le, Int64.lt_iff_toInt_lt, Int64.le_iff_toInt_le, Int32.toInt_toInt64, ← Int32.toInt_inj, ← Int64.toInt_inj, Int32.reduceToInt, Int64.reduceToInt] <;> omega) (by revert hy17; simp only [vp_in_iff, Int32.lt_iff_toInt_lt, Int32.le_iff_toInt_le, Int64.lt_iff_toInt_lt, Int64.le_iff_toInt_le, Int32.toInt_toInt64, ← Int32.toInt_inj, ← Int64.toInt_inj, Int32.reduceToInt, Int64.reduceToInt] <;> omega) hP hD hS (lv_sub hl [0, 2, 3, 4] rfl)
  exact loop19 _ 0 1000000 f_10 _ _ _ (Nat.lt_succ_self _) (by simp only [vp_in_iff, Int32.lt_iff_toInt_lt, Int32.le_iff_toInt_le, Int64.lt_iff_toInt_lt, Int64.le_iff_toInt_le, Int32.toInt_toInt64, ← Int32.toInt_inj, ← Int64.toInt_inj, Int32.reduceToInt, Int64.reduceToInt] <;> omega) (by simp only [vp_in_iff, Int32.lt_iff_toInt_lt, Int32.le_iff_toInt_le, Int64.lt_iff_toInt_lt, Int64.le_iff_toInt_le, Int32.toInt_toInt64, ← Int32.toInt_inj, ← Int64.toInt_inj, Int32.reduceToInt, Int64.reduceToInt] <;> omega) hP hD hS (lv_sub hl [0, 1, 2, 3] rfl)

set_option maxHeartbeats 4000000 in
set_option maxRecDepth 100000 in
theorem s_X2_fewestMinutes_5 (l : Launch) (D : va_G) (k : Nat → ClassId) (q_0 : Nat) (q_1 : Nat) (q_2 : Nat) (q_3 : Nat) (q_4 : Nat) (q_5 : Nat) (q_6 : Nat) (q_7 : Nat) (q_8 : Nat) (q_9 : Nat) (q_10 : Nat) (q_11 : Nat) (q_12 : Nat) (q_13 : Nat) (q_14 : Nat) (q_15 : Nat) (q_16 : Nat) (q_17 : Nat) (q_18 : Nat) (x_0 : Int32) (x_1 : Int32) (x_2 : Int32) (x_3 : Int32) (x_4 : Int32) (x_5 : Int32) (x_6 : Int32) (x_7 : Int32) (x_8 : Int32) (x_9 : Int32) (f_10 : Nat → Int32) (f_11 : Nat → Int32) (f_12 : Nat → Int32) (f_13 : Nat → Int32) (h_x_0 : 1 ≤ Int32.toInt x_0 ∧ Int32.toInt x_0 ≤ 19) (h_x_1 : 0 ≤ Int32.toInt x_1 ∧ Int32.toInt x_1 ≤ 6) (h_x_3 : 0 ≤ Int32.toInt x_3 ∧ Int32.toInt x_3 ≤ 19) (h_x_4 : 0 ≤ Int32.toInt x_4 ∧ Int32.toInt x_4 ≤ 2147483647) (h_x_5 : (-2147483648) ≤ Int32.toInt x_5 ∧ Int32.toInt x_5 ≤ 1000000) (h_x_6 : 0 ≤ Int32.toInt x_6 ∧ Int32.toInt x_6 ≤ 6) (h_x_7 : 0 ≤ Int32.toInt x_7 ∧ Int32.toInt x_7 ≤ 6) (h_x_8 : 0 ≤ Int32.toInt x_8 ∧ Int32.toInt x_8 ≤ 9) (h_x_9 : 0 ≤ Int32.toInt x_9 ∧ Int32.toInt x_9 ≤ 12) : zMi l yX2_fewestMinutes cX2_fewestMinutes 9 (some .int) ({ frames := 1, cells := 0, slots := 0, locals := 40 }) D k [.ref q_0, .int x_0] [(q_0, .inr (2, [.ref q_6, .ref q_1, .ref q_7, .int x_1, .int x_2, .ref q_8, .ref q_9, .ref q_10, .int x_3, .int x_4, .int x_5, .ref q_3, .ref q_5, .ref q_2])), (q_1, .inr (4, [.int x_6, .ref q_11, .int x_7, .ref q_12, .ref q_13, .int x_8, .ref q_14, .ref q_4, .ref q_15, .int x_9, .ref q_16, .ref q_17, .ref q_18])), (q_2, .inl (k 0, 4608, .inl f_10)), (q_3, .inl (k 0, 81, .inl f_11)), (q_4, .inl (k 0, 9, .inl f_12)), (q_5, .inl (k 0, 9, .inl f_13))] (fun r u => u.1 = 0 ∧ ((-2147483648) ≤ Int32.toInt r ∧ Int32.toInt r ≤ 1000000)) (fun u => [(q_0, .inr (2, [.ref q_6, .ref q_1, .ref q_7, .int x_1, .int x_2, .ref q_8, .ref q_9, .ref q_10, .int x_3, .int x_4, .int x_5, .ref q_3, .ref q_5, .ref q_2])), (q_1, .inr (4, [.int x_6, .ref q_11, .int x_7, .ref q_12, .ref q_13, .int x_8, .ref q_14, .ref q_4, .ref q_15, .int x_9, .ref q_16, .ref q_17, .ref q_18])), (q_2, .inl (k 0, 4608, .inl (u.2.2.2.2.1 0))), (q_3, .inl (k 0, 81, .inl f_11)), (q_4, .inl (k 0, 9, .inl f_12)), (q_5, .inl (k 0, 9, .inl f_13))]) := by
  refine zMi_of (own := RX2) (by decide +kernel) rfl (Nat.le_of_ble_eq_true rfl) ?_
  intro p e s m args below meth c A ls C0 hr hlk hin hP hD hS hA hK hN hl
  have hx := C0.1
  have hb := C0.2.1
  have hml := C0.2.2.1
  have hown := C0.2.2.2.1
  have hts := C0.2.2.2.2
  have hl : lv_has ls 9 [(0, .ref q_0), (1, .int x_0)] := hl
  have hP : va_P D vwCl [(q_0, .inr (2, [.ref q_6, .ref q_1, .ref q_7, .int x_1, .int x_2, .ref q_8, .ref q_9, .ref q_10, .int x_3, .int x_4, .int x_5, .ref q_3, .ref q_5, .ref q_2])), (q_1, .inr (4, [.int x_6, .ref q_11, .int x_7, .ref q_12, .ref q_13, .int x_8, .ref q_14, .ref q_4, .ref q_15, .int x_9, .ref q_16, .ref q_17, .ref q_18])), (q_2, .inl (k 0, 4608, .inl f_10)), (q_3, .inl (k 0, 81, .inl f_11)), (q_4, .inl (k 0, 9, .inl f_12)), (q_5, .inl (k 0, 9, .inl f_13))] s.heap := hP
  refine lv_ldc hx hb hown (hts _ kK_X2_121) dX2_fewestMinutes_0 ?_
  refine lv_istore_n (lv' := [(2, .int 1000000), (0, .ref q_0), (1, .int x_0)]) hx hb dX2_fewestMinutes_2 rfl hl (by decide) rfl (fun ls hl => ?_)
  refine lv_iconst (v := 0) hx hb dX2_fewestMinutes_3 (by decide) ?_
  refine lv_istore_n (lv' := [(3, .int 0), (2, .int 1000000), (0, .ref q_0), (1, .int x_0)]) hx hb dX2_fewestMinutes_4 rfl hl (by decide) rfl (fun ls hl => ?_)
  have loop19 : ∀ (N20 : Nat) (y16 : Int32) (y17 : Int32) (F18 : Nat → Int32) (H : Heap) (locs : List Loc) (ls : Array Slot), Int.toNat (9 - Int32.toInt y16) < N20 → 0 ≤ Int32.toInt y16 ∧ Int32.toInt y16 ≤ 9 → (-2147483648) ≤ Int32.toInt y17 ∧ Int32.toInt y17 ≤ 1000000 → va_P D vwCl [(q_0, .inr (2, [.ref q_6, .ref q_1, .ref q_7, .int x_1, .int x_2, .ref q_8, .ref q_9, .ref q_10, .int x_3, .int x_4, .int x_5, .ref q_3, .ref q_5, .ref q_2])), (q_1, .inr (4, [.int x_6, .ref q_11, .int x_7, .ref q_12, .ref q_13, .int x_8, .ref q_14, .ref q_4, .ref q_15, .int x_9, .ref q_16, .ref q_17, .ref q_18])), (q_2, .inl (k 0, 4608, .inl F18)), (q_3, .inl (k 0, 81, .inl f_11)), (q_4, .inl (k 0, 9, .inl f_12)), (q_5, .inl (k 0, 9, .inl f_13))] H → va_D A [(q_0, .inr (2, [.ref q_6, .ref q_1, .ref q_7, .int x_1, .int x_2, .ref q_8, .ref q_9, .ref q_10, .int x_3, .int x_4, .int x_5, .ref q_3, .ref q_5, .ref q_2])), (q_1, .inr (4, [.int x_6, .ref q_11, .int x_7, .ref q_12, .ref q_13, .int x_8, .ref q_14, .ref q_4, .ref q_15, .int x_9, .ref q_16, .ref q_17, .ref q_18])), (q_2, .inl (k 0, 4608, .inl F18)), (q_3, .inl (k 0, 81, .inl f_11)), (q_4, .inl (k 0, 9, .inl f_12)), (q_5, .inl (k 0, 9, .inl f_13))] → va_S A s.heap H locs → lv_has ls 9 [(3, .int y16), (2, .int y17), (0, .ref q_0), (1, .int x_0)] → W p l e { frames := 1, cells := 0, slots := 0, locals := 40 } s m args below meth c H locs 0 0 (MQ below (va_Qi (fun (r : Int32) (u : zS) => u.1 = 0 ∧ ((-2147483648) ≤ Int32.toInt r ∧ Int32.toInt r ≤ 1000000)) (zB D k A (fun (u : zS) => [(q_0, .inr (2, [.ref q_6, .ref q_1, .ref q_7, .int x_1, .int x_2, .ref q_8, .ref q_9, .ref q_10, .int x_3, .int x_4, .int x_5, .ref q_3, .ref q_5, .ref q_2])), (q_1, .inr (4, [.int x_6, .ref q_11, .int x_7, .ref q_12, .ref q_13, .int x_8, .ref q_14, .ref q_4, .ref q_15, .int x_9, .ref q_16, .ref q_17, .ref q_18])), (q_2, .inl (k 0, 4608, .inl (u.2.2.2.2.1 0))), (q_3, .inl (k 0, 81, .inl f_11)), (q_4, .inl (k 0, 9, .inl f_12)), (q_5, .inl (k 0, 9, .inl f_13))])) A) args s 0 0 A) (F0 m 5 ls []) := by
    intro N20
    induction N20 with
    | zero => intro y16 y17 F18 H locs ls hm; exact absurd hm (Nat.not_lt_zero _)
    | succ N20 ihN20 =>
      intro y16 y17 F18 H locs ls hN20 hy16 hy17 hP hD hS hl
      refine lv_iload_n hx hb dX2_fewestMinutes_5 rfl (lv_at hl 0 rfl) ?_
      refine lv_aload_n hx hb dX2_fewestMinutes_6 rfl (lv_at hl 2 rfl) ?_
      refine va_get (D := D) (ci := 2) (v := .ref q_1) (C := RX2) (T := TX2) (N := 14) hx hb hts inX2 hown hK hP 0 rfl rfl 1 (by decide) (hts _ kF_X2_48) (fun _ h9 => h9) rfl dX2_fewestMinutes_7 ?_
      refine va_get (D := D) (ci := 4) (v := .int x_8) (C := RX4) (T := TX4) (N := 13) hx hb hts inX4 hown hK hP 1 rfl rfl 5 (by decide) (hts _ kF_X2_97) (fun _ h9 => h9) rfl dX2_fewestMinutes_10 ?_
      refine lv_icmp_ge (tgt := 180) hx hb dX2_fewestMinutes_13 (by decide) (fun c21 => ?_) (fun c21 => ?_)
      · refine lv_iload_n hx hb dX2_fewestMinutes_180 rfl (lv_at hl 1 rfl) ?_
        exact z_iret C0 hr hlk rfl hK hP hD hS (0, fun _ => 0, fun _ => 0, fun _ => 0, fun i => [F18].getD i (fun _ => 0), fun _ => (fun _ => 0), fun _ => (fun _ => none)) ⟨rfl, (by revert hy17; simp only [vp_in_iff, Int32.lt_iff_toInt_lt, Int32.le_iff_toInt_le, Int64.lt_iff_toInt_lt, Int64.le_iff_toInt_le, Int32.toInt_toInt64, ← Int32.toInt_inj, ← Int64.toInt_inj, Int32.reduceToInt, Int64.reduceToInt] <;> omega)⟩ [0, 1, 2, 3, 4, 5] rfl rfl rfl dX2_fewestMinutes_181
      · refine lv_iload_n hx hb dX2_fewestMinutes_16 rfl (lv_at hl 3 rfl) ?_
        refine lv_iconst (v := 1) hx hb dX2_fewestMinutes_17 (by decide) ?_
        refine lv_iload_n hx hb dX2_fewestMinutes_18 rfl (lv_at hl 0 rfl) ?_
        refine lv_ishl hx hb dX2_fewestMinutes_19 ?_
        refine lv_topi (fun y22 ey22 => ?_)
        have hy22 : 1 ≤ Int32.toInt y22 ∧ Int32.toInt y22 ≤ 256 := by rw [ey22]; exact zo_shl1 8 (show 0 ≤ Int32.toInt y16 ∧ Int32.toInt y16 ≤ 8 by revert hN20 hy16 c21 h_x_8; simp only [vp_in_iff, Int32.lt_iff_toInt_lt, Int32.le_iff_toInt_le, Int64.lt_iff_toInt_lt, Int64.le_iff_toInt_le, Int32.toInt_toInt64, ← Int32.toInt_inj, ← Int64.toInt_inj, Int32.reduceToInt, Int64.reduceToInt] <;> omega) (by decide)
        refine lv_ixor hx hb dX2_fewestMinutes_20 ?_
        refine lv_topi (fun y23 ey23 => ?_)
        have hy23 : 0 ≤ Int32.toInt y23 ∧ Int32.toInt y23 ≤ 511 := by rw [ey23]; exact zo_xor 9 (show 0 ≤ Int32.toInt x_0 ∧ Int32.toInt x_0 < 2 ^ 9 by revert h_x_0 hy22; simp only [vp_in_iff, Int32.lt_iff_toInt_lt, Int32.le_iff_toInt_le, Int64.lt_iff_toInt_lt, Int64.le_iff_toInt_le, Int32.toInt_toInt64, ← Int32.toInt_inj, ← Int64.toInt_inj, Int32.reduceToInt, Int64.reduceToInt] <;> omega) (show 0 ≤ Int32.toInt y22 ∧ Int32.toInt y22 < 2 ^ 9 by revert h_x_0 hy22; simp only [vp_in_iff, Int32.lt_iff_toInt_lt, Int32.le_iff_toInt_le, Int64.lt_iff_toInt_lt, Int64.le_iff_toInt_le, Int32.toInt_toInt64, ← Int32.toInt_inj, ← Int64.toInt_inj, Int32.reduceToInt, Int64.reduceToInt] <;> omega) (by decide)
        refine lv_istore (lv' := [(4, .int y23), (3, .int y16), (2, .int y17), (0, .ref q_0), (1, .int x_0)]) hx hb dX2_fewestMinutes_21 hl (by decide) rfl (fun ls hl => ?_)
        refine lv_iload hx hb dX2_fewestMinutes_23 (lv_at hl 0 rfl) ?_
        refine lv_iload_n hx hb dX2_fewestMinutes_25 rfl (lv_at hl 4 rfl) ?_
        refine lv_icmp_le (tgt := 32) hx hb dX2_fewestMinutes_26 (by decide) (fun c24 => ?_) (fun c24 => ?_)
        · refine lv_iload hx hb dX2_fewestMinutes_32 (lv_at hl 0 rfl) ?_
          refine lv_if_ne (tgt := 46) hx hb dX2_fewestMinutes_34 (by decide) (fun c25 => ?_) (fun c25 => ?_)
          · refine lv_ldc hx hb hown (hts _ kK_X2_121) dX2_fewestMinutes_46 ?_
            refine lv_istore (lv' := [(5, .int 1000000), (4, .int y23), (3, .int y16), (2, .int y17), (0, .ref q_0), (1, .int x_0)]) hx hb dX2_fewestMinutes_48 hl (by decide) rfl (fun ls hl => ?_)
            refine lv_iload hx hb dX2_fewestMinutes_50 (lv_at hl 1 rfl) ?_
            refine lv_istore (lv' := [(6, .int y23), (5, .int 1000000), (4, .int y23), (3, .int y16), (2, .int y17), (0, .ref q_0), (1, .int x_0)]) hx hb dX2_fewestMinutes_52 hl (by decide) rfl (fun ls hl => ?_)
            refine lv_iconst (v := 0) hx hb dX2_fewestMinutes_54 (by decide) ?_
            refine lv_istore (lv' := [(7, .int 0), (6, .int y23), (5, .int 1000000), (4, .int y23), (3, .int y16), (2, .int y17), (0, .ref q_0), (1, .int x_0)]) hx hb dX2_fewestMinutes_55 hl (by decide) rfl (fun ls hl => ?_)
            have loop44 : ∀ (N45 : Nat) (y41 : Int32) (y42 : Int32) (y43 : Int32) (H : Heap) (locs : List Loc) (ls : Array Slot), Int.toNat (9 - Int32.toInt y41) < N45 → 0 ≤ Int32.toInt y41 ∧ Int32.toInt y41 ≤ 9 → va_P D vwCl [(q_0, .inr (2, [.ref q_6, .ref q_1, .ref q_7, .int x_1, .int x_2, .ref q_8, .ref q_9, .ref q_10, .int x_3, .int x_4, .int x_5, .ref q_3, .ref q_5, .ref q_2])), (q_1, .inr (4, [.int x_6, .ref q_11, .int x_7, .ref q_12, .ref q_13, .int x_8, .ref q_14, .ref q_4, .ref q_15, .int x_9, .ref q_16, .ref q_17, .ref q_18])), (q_2, .inl (k 0, 4608, .inl F18)), (q_3, .inl (k 0, 81, .inl f_11)), (q_4, .inl (k 0, 9, .inl f_12)), (q_5, .inl (k 0, 9, .inl f_13))] H → va_D A [(q_0, .inr (2, [.ref q_6, .ref q_1, .ref q_7, .int x_1, .int x_2, .ref q_8, .ref q_9, .ref q_10, .int x_3, .int x_4, .int x_5, .ref q_3, .ref q_5, .ref q_2])), (q_1, .inr (4, [.int x_6, .ref q_11, .int x_7, .ref q_12, .ref q_13, .int x_8, .ref q_14, .ref q_4, .ref q_15, .int x_9, .ref q_16, .ref q_17, .ref q_18])), (q_2, .inl (k 0, 4608, .inl F18)), (q_3, .inl (k 0, 81, .inl f_11)), (q_4, .inl (k 0, 9, .inl f_12)), (q_5, .inl (k 0, 9, .inl f_13))] → va_S A s.heap H locs → lv_has ls 9 [(7, .int y41), (6, .int y42), (5, .int y43), (4, .int y23), (3, .int y16), (2, .int y17), (0, .ref q_0), (1, .int x_0)] → W p l e { frames := 1, cells := 0, slots := 0, locals := 40 } s m args below meth c H locs 0 0 (MQ below (va_Qi (fun (r : Int32) (u : zS) => u.1 = 0 ∧ ((-2147483648) ≤ Int32.toInt r ∧ Int32.toInt r ≤ 1000000)) (zB D k A (fun (u : zS) => [(q_0, .inr (2, [.ref q_6, .ref q_1, .ref q_7, .int x_1, .int x_2, .ref q_8, .ref q_9, .ref q_10, .int x_3, .int x_4, .int x_5, .ref q_3, .ref q_5, .ref q_2])), (q_1, .inr (4, [.int x_6, .ref q_11, .int x_7, .ref q_12, .ref q_13, .int x_8, .ref q_14, .ref q_4, .ref q_15, .int x_9, .ref q_16, .ref q_17, .ref q_18])), (q_2, .inl (k 0, 4608, .inl (u.2.2.2.2.1 0))), (q_3, .inl (k 0, 81, .inl f_11)), (q_4, .inl (k 0, 9, .inl f_12)), (q_5, .inl (k 0, 9, .inl f_13))])) A) args s 0 0 A) (F0 m 57 ls []) := by
              intro N45
              induction N45 with
              | zero => intro y41 y42 y43 H locs ls hm; exact absurd hm (Nat.not_lt_zero _)
              | succ N45 ihN45 =>
                intro y41 y42 y43 H locs ls hN45 hy41 hP hD hS hl
                refine lv_iload hx hb dX2_fewestMinutes_57 (lv_at hl 0 rfl) ?_
                refine lv_bipush (v := 9) hx hb dX2_fewestMinutes_59 (by decide) ?_
                refine lv_icmp_ge (tgt := 133) hx hb dX2_fewestMinutes_61 (by decide) (fun c46 => ?_) (fun c46 => ?_)
                · refine lv_iload hx hb dX2_fewestMinutes_133 (lv_at hl 2 rfl) ?_
                  refine lv_aload_n hx hb dX2_fewestMinutes_135 rfl (lv_at hl 6 rfl) ?_
                  refine va_get (D := D) (ci := 2) (v := .ref q_1) (C := RX2) (T := TX2) (N := 14) hx hb hts inX2 hown hK hP 0 rfl rfl 1 (by decide) (hts _ kF_X2_48) (fun _ h9 => h9) rfl dX2_fewestMinutes_136 ?_
                  refine va_get (D := D) (ci := 4) (v := .ref q_4) (C := RX4) (T := TX4) (N := 13) hx hb hts inX4 hown hK hP 1 rfl rfl 7 (by decide) (hts _ kF_X2_122) (fun _ h9 => h9) rfl dX2_fewestMinutes_139 ?_
                  refine lv_iload_n hx hb dX2_fewestMinutes_142 rfl (lv_at hl 4 rfl) ?_
                  refine va_iald hx hb hK hP 4 0 rfl rfl (by revert hN20 hy16 c21 h_x_8; simp only [vp_in_iff, Int32.lt_iff_toInt_lt, Int32.le_iff_toInt_le, Int64.lt_iff_toInt_lt, Int64.le_iff_toInt_le, Int32.toInt_toInt64, ← Int32.toInt_inj, ← Int64.toInt_inj, Int32.reduceToInt, Int64.reduceToInt] <;> omega) dX2_fewestMinutes_143 ?_
                  refine lv_topi (fun y47 ey47 => ?_)
                  refine lv_iadd hx hb dX2_fewestMinutes_144 ?_
                  refine lv_istore (lv' := [(7, .int (y43 + y47)), (6, .int y42), (5, .int y43), (4, .int y23), (3, .int y16), (2, .int y17), (0, .ref q_0), (1, .int x_0)]) hx hb dX2_fewestMinutes_145 hl (by decide) rfl (fun ls hl => ?_)
                  refine lv_aload_n hx hb dX2_fewestMinutes_147 rfl (lv_at hl 6 rfl) ?_
                  refine va_get (D := D) (ci := 2) (v := .ref q_2) (C := RX2) (T := TX2) (N := 14) hx hb hts inX2 hown hK hP 0 rfl rfl 13 (by decide) (hts _ kF_X2_34) (fun _ h9 => h9) rfl dX2_fewestMinutes_148 ?_
                  refine lv_iload_n hx hb dX2_fewestMinutes_151 rfl (lv_at hl 7 rfl) ?_
                  refine lv_bipush (v := 9) hx hb dX2_fewestMinutes_152 (by decide) ?_
                  refine lv_imul hx hb dX2_fewestMinutes_154 ?_
                  have e48 : Int32.toInt (x_0 * 9) = Int32.toInt x_0 * Int32.toInt (9 : Int32) := zi_mul (by revert h_x_0 c24 c25 hy23; simp only [vp_in_iff, Int32.lt_iff_toInt_lt, Int32.le_iff_toInt_le, Int64.lt_iff_toInt_lt, Int64.le_iff_toInt_le, Int32.toInt_toInt64, ← Int32.toInt_inj, ← Int64.toInt_inj, Int32.reduceToInt, Int64.reduceToInt] <;> omega)
                  refine lv_iload_n hx hb dX2_fewestMinutes_155 rfl (lv_at hl 4 rfl) ?_
                  refine lv_iadd hx hb dX2_fewestMinutes_156 ?_
                  have e49 : Int32.toInt ((x_0 * 9) + y16) = Int32.toInt (x_0 * 9) + Int32.toInt y16 := zi_add (by revert h_x_0 hN20 hy16 c21 c24 c25 e48 h_x_8 hy23; simp only [vp_in_iff, Int32.lt_iff_toInt_lt, Int32.le_iff_toInt_le, Int64.lt_iff_toInt_lt, Int64.le_iff_toInt_le, Int32.toInt_toInt64, ← Int32.toInt_inj, ← Int64.toInt_inj, Int32.reduceToInt, Int64.reduceToInt] <;> omega)
                  refine lv_iload hx hb dX2_fewestMinutes_157 (lv_at hl 0 rfl) ?_
                  refine va_iast hx hb hK hP hD hS 2 0 rfl rfl (by revert h_x_0 hN20 hy16 c21 c24 c25 e48 e49 h_x_8 hy23; simp only [vp_in_iff, Int32.lt_iff_toInt_lt, Int32.le_iff_toInt_le, Int64.lt_iff_toInt_lt, Int64.le_iff_toInt_le, Int32.toInt_toInt64, ← Int32.toInt_inj, ← Int64.toInt_inj, Int32.reduceToInt, Int64.reduceToInt] <;> omega) dX2_fewestMinutes_159 (fun H locs hP hD hS => ?_)
                  obtain ⟨F50, eF50⟩ : ∃ q, q = upd F18 (Int32.toNatClampNeg ((x_0 * 9) + y16)) (y43 + y47) := ⟨_, rfl⟩
                  have hP : va_P D vwCl [(q_0, .inr (2, [.ref q_6, .ref q_1, .ref q_7, .int x_1, .int x_2, .ref q_8, .ref q_9, .ref q_10, .int x_3, .int x_4, .int x_5, .ref q_3, .ref q_5, .ref q_2])), (q_1, .inr (4, [.int x_6, .ref q_11, .int x_7, .ref q_12, .ref q_13, .int x_8, .ref q_14, .ref q_4, .ref q_15, .int x_9, .ref q_16, .ref q_17, .ref q_18])), (q_2, .inl (k 0, 4608, .inl F50)), (q_3, .inl (k 0, 81, .inl f_11)), (q_4, .inl (k 0, 9, .inl f_12)), (q_5, .inl (k 0, 9, .inl f_13))] H := by rw [eF50]; exact hP
                  have hD : va_D A [(q_0, .inr (2, [.ref q_6, .ref q_1, .ref q_7, .int x_1, .int x_2, .ref q_8, .ref q_9, .ref q_10, .int x_3, .int x_4, .int x_5, .ref q_3, .ref q_5, .ref q_2])), (q_1, .inr (4, [.int x_6, .ref q_11, .int x_7, .ref q_12, .ref q_13, .int x_8, .ref q_14, .ref q_4, .ref q_15, .int x_9, .ref q_16, .ref q_17, .ref q_18])), (q_2, .inl (k 0, 4608, .inl F50)), (q_3, .inl (k 0, 81, .inl f_11)), (q_4, .inl (k 0, 9, .inl f_12)), (q_5, .inl (k 0, 9, .inl f_13))] := by rw [eF50]; exact hD
                  refine lv_iload_n hx hb dX2_fewestMinutes_160 rfl (lv_at hl 5 rfl) ?_
                  refine lv_iload hx hb dX2_fewestMinutes_161 (lv_at hl 0 rfl) ?_
                  refine lv_aload_n hx hb dX2_fewestMinutes_163 rfl (lv_at hl 6 rfl) ?_
                  refine va_get (D := D) (ci := 2) (v := .ref q_5) (C := RX2) (T := TX2) (N := 14) hx hb hts inX2 hown hK hP 0 rfl rfl 12 (by decide) (hts _ kF_X2_31) (fun _ h9 => h9) rfl dX2_fewestMinutes_164 ?_
                  refine lv_iload_n hx hb dX2_fewestMinutes_167 rfl (lv_at hl 4 rfl) ?_
                  refine va_iald hx hb hK hP 5 0 rfl rfl (by revert hN20 hy16 c21 e49 h_x_0 h_x_8 c24 c25 e48 hy23; simp only [vp_in_iff, Int32.lt_iff_toInt_lt, Int32.le_iff_toInt_le, Int64.lt_iff_toInt_lt, Int64.le_iff_toInt_le, Int32.toInt_toInt64, ← Int32.toInt_inj, ← Int64.toInt_inj, Int32.reduceToInt, Int64.reduceToInt] <;> omega) dX2_fewestMinutes_168 ?_
                  refine lv_topi (fun y51 ey51 => ?_)
                  refine lv_iadd hx hb dX2_fewestMinutes_169 ?_
                  refine va_mmin hx hb (by rw [hml]; exact hl.1.symm) hown (hts _ kminL_X2_125) (hts _ kminS) (hts _ kZ_J9) (hts _ kminC) (Nat.le_of_ble_eq_true rfl) (Nat.le_of_ble_eq_true rfl) (Nat.le_of_ble_eq_true rfl) (Nat.le_of_ble_eq_true rfl) dX2_fewestMinutes_170 ?_
                  refine lv_topi (fun y52 ey52 => ?_)
                  have hy52 := zo_min y17 ((y43 + y47) + y51)
                  rw [← ey52] at hy52
                  refine lv_istore_n (lv' := [(2, .int y52), (7, .int (y43 + y47)), (6, .int y42), (5, .int y43), (4, .int y23), (3, .int y16), (0, .ref q_0), (1, .int x_0)]) hx hb dX2_fewestMinutes_173 rfl hl (by decide) rfl (fun ls hl => ?_)
                  have e53 : Int32.toInt (y16 + 1) = Int32.toInt y16 + Int32.toInt (1 : Int32) := zi_add (by revert hN20 hy16 c21 e49 h_x_0 h_x_8 c24 c25 e48 hy23; simp only [vp_in_iff, Int32.lt_iff_toInt_lt, Int32.le_iff_toInt_le, Int64.lt_iff_toInt_lt, Int64.le_iff_toInt_le, Int32.toInt_toInt64, ← Int32.toInt_inj, ← Int64.toInt_inj, Int32.reduceToInt, Int64.reduceToInt] <;> omega)
                  refine lv_iinc (v := (y16 + 1)) (lv' := [(3, .int (y16 + 1)), (2, .int y52), (7, .int (y43 + y47)), (6, .int y42), (5, .int y43), (4, .int y23), (0, .ref q_0), (1, .int x_0)]) hx hb dX2_fewestMinutes_174 hl (k := 5) rfl rfl (by decide) rfl (fun ls hl => ?_)
                  refine lv_goto (tgt := 5) hx hb dX2_fewestMinutes_177 (by decide) ?_
                  exact ihN20 (y16 + 1) y52 F50 _ _ ls (by revert hN20 hy16 c21 e49 e53 h_x_0 h_x_8 c24 c25 e48 hy23; simp only [vp_in_iff, Int32.lt_iff_toInt_lt, Int32.le_iff_toInt_le, Int64.lt_iff_toInt_lt, Int64.le_iff_toInt_le, Int32.toInt_toInt64, ← Int32.toInt_inj, ← Int64.toInt_inj, Int32.reduceToInt, Int64.reduceToInt] <;> omega) (by revert hN20 hy16 c21 e49 e53 h_x_0 h_x_8 c24 c25 e48 hy23; simp only [vp_in_iff, Int32.lt_iff_toInt_lt, Int32.le_iff_toInt_le, Int64.lt_iff_toInt_lt, Int64.le_iff_toInt_le, Int32.toInt_toInt64, ← Int32.toInt_inj, ← Int64.toInt_inj, Int32.reduceToInt, Int64.reduceToInt] <;> omega) (by revert hy17 hy52; simp only [vp_in_iff, Int32.lt_iff_toInt_lt, Int32.le_iff_toInt_le, Int64.lt_iff_toInt_lt, Int64.le_iff_toInt_le, Int32.toInt_toInt64, ← Int32.toInt_inj, ← Int64.toInt_inj, Int32.reduceToInt, Int64.reduceToInt] <;> omega) hP hD hS (lv_sub hl [0, 1, 6, 7] rfl)
                · refine lv_iload hx hb dX2_fewestMinutes_64 (lv_at hl 1 rfl) ?_
                  refine lv_if_eq (tgt := 133) hx hb dX2_fewestMinutes_66 (by decide) (fun c54 => ?_) (fun c54 => ?_)
                  · refine lv_iload hx hb dX2_fewestMinutes_133 (lv_at hl 2 rfl) ?_
                    refine lv_aload_n hx hb dX2_fewestMinutes_135 rfl (lv_at hl 6 rfl) ?_
                    refine va_get (D := D) (ci := 2) (v := .ref q_1) (C := RX2) (T := TX2) (N := 14) hx hb hts inX2 hown hK hP 0 rfl rfl 1 (by decide) (hts _ kF_X2_48) (fun _ h9 => h9) rfl dX2_fewestMinutes_136 ?_
                    refine va_get (D := D) (ci := 4) (v := .ref q_4) (C := RX4) (T := TX4) (N := 13) hx hb hts inX4 hown hK hP 1 rfl rfl 7 (by decide) (hts _ kF_X2_122) (fun _ h9 => h9) rfl dX2_fewestMinutes_139 ?_
                    refine lv_iload_n hx hb dX2_fewestMinutes_142 rfl (lv_at hl 4 rfl) ?_
                    refine va_iald hx hb hK hP 4 0 rfl rfl (by revert hN20 hy16 c21 h_x_8; simp only [vp_in_iff, Int32.lt_iff_toInt_lt, Int32.le_iff_toInt_le, Int64.lt_iff_toInt_lt, Int64.le_iff_toInt_le, Int32.toInt_toInt64, ← Int32.toInt_inj, ← Int64.toInt_inj, Int32.reduceToInt, Int64.reduceToInt] <;> omega) dX2_fewestMinutes_143 ?_
                    refine lv_topi (fun y55 ey55 => ?_)
                    refine lv_iadd hx hb dX2_fewestMinutes_144 ?_
                    refine lv_istore (lv' := [(7, .int (y43 + y55)), (6, .int y42), (5, .int y43), (4, .int y23), (3, .int y16), (2, .int y17), (0, .ref q_0), (1, .int x_0)]) hx hb dX2_fewestMinutes_145 hl (by decide) rfl (fun ls hl => ?_)
                    refine lv_aload_n hx hb dX2_fewestMinutes_147 rfl (lv_at hl 6 rfl) ?_
                    refine va_get (D := D) (ci := 2) (v := .ref q_2) (C := RX2) (T := TX2) (N := 14) hx hb hts inX2 hown hK hP 0 rfl rfl 13 (by decide) (hts _ kF_X2_34) (fun _ h9 => h9) rfl dX2_fewestMinutes_148 ?_
                    refine lv_iload_n hx hb dX2_fewestMinutes_151 rfl (lv_at hl 7 rfl) ?_
                    refine lv_bipush (v := 9) hx hb dX2_fewestMinutes_152 (by decide) ?_
                    refine lv_imul hx hb dX2_fewestMinutes_154 ?_
                    have e56 : Int32.toInt (x_0 * 9) = Int32.toInt x_0 * Int32.toInt (9 : Int32) := zi_mul (by revert h_x_0 c24 c25 hy23; simp only [vp_in_iff, Int32.lt_iff_toInt_lt, Int32.le_iff_toInt_le, Int64.lt_iff_toInt_lt, Int64.le_iff_toInt_le, Int32.toInt_toInt64, ← Int32.toInt_inj, ← Int64.toInt_inj, Int32.reduceToInt, Int64.reduceToInt] <;> omega)
                    refine lv_iload_n hx hb dX2_fewestMinutes_155 rfl (lv_at hl 4 rfl) ?_
                    refine lv_iadd hx hb dX2_fewestMinutes_156 ?_
                    have e57 : Int32.toInt ((x_0 * 9) + y16) = Int32.toInt (x_0 * 9) + Int32.toInt y16 := zi_add (by revert h_x_0 hN20 hy16 c21 c24 c25 e56 h_x_8 hy23; simp only [vp_in_iff, Int32.lt_iff_toInt_lt, Int32.le_iff_toInt_le, Int64.lt_iff_toInt_lt, Int64.le_iff_toInt_le, Int32.toInt_toInt64, ← Int32.toInt_inj, ← Int64.toInt_inj, Int32.reduceToInt, Int64.reduceToInt] <;> omega)
                    refine lv_iload hx hb dX2_fewestMinutes_157 (lv_at hl 0 rfl) ?_
                    refine va_iast hx hb hK hP hD hS 2 0 rfl rfl (by revert h_x_0 hN20 hy16 c21 c24 c25 e56 e57 h_x_8 hy23; simp only [vp_in_iff, Int32.lt_iff_toInt_lt, Int32.le_iff_toInt_le, Int64.lt_iff_toInt_lt, Int64.le_iff_toInt_le, Int32.toInt_toInt64, ← Int32.toInt_inj, ← Int64.toInt_inj, Int32.reduceToInt, Int64.reduceToInt] <;> omega) dX2_fewestMinutes_159 (fun H locs hP hD hS => ?_)
                    obtain ⟨F58, eF58⟩ : ∃ q, q = upd F18 (Int32.toNatClampNeg ((x_0 * 9) + y16)) (y43 + y55) := ⟨_, rfl⟩
                    have hP : va_P D vwCl [(q_0, .inr (2, [.ref q_6, .ref q_1, .ref q_7, .int x_1, .int x_2, .ref q_8, .ref q_9, .ref q_10, .int x_3, .int x_4, .int x_5, .ref q_3, .ref q_5, .ref q_2])), (q_1, .inr (4, [.int x_6, .ref q_11, .int x_7, .ref q_12, .ref q_13, .int x_8, .ref q_14, .ref q_4, .ref q_15, .int x_9, .ref q_16, .ref q_17, .ref q_18])), (q_2, .inl (k 0, 4608, .inl F58)), (q_3, .inl (k 0, 81, .inl f_11)), (q_4, .inl (k 0, 9, .inl f_12)), (q_5, .inl (k 0, 9, .inl f_13))] H := by rw [eF58]; exact hP
                    have hD : va_D A [(q_0, .inr (2, [.ref q_6, .ref q_1, .ref q_7, .int x_1, .int x_2, .ref q_8, .ref q_9, .ref q_10, .int x_3, .int x_4, .int x_5, .ref q_3, .ref q_5, .ref q_2])), (q_1, .inr (4, [.int x_6, .ref q_11, .int x_7, .ref q_12, .ref q_13, .int x_8, .ref q_14, .ref q_4, .ref q_15, .int x_9, .ref q_16, .ref q_17, .ref q_18])), (q_2, .inl (k 0, 4608, .inl F58)), (q_3, .inl (k 0, 81, .inl f_11)), (q_4, .inl (k 0, 9, .inl f_12)), (q_5, .inl (k 0, 9, .inl f_13))] := by rw [eF58]; exact hD
                    refine lv_iload_n hx hb dX2_fewestMinutes_160 rfl (lv_at hl 5 rfl) ?_
                    refine lv_iload hx hb dX2_fewestMinutes_161 (lv_at hl 0 rfl) ?_
                    refine lv_aload_n hx hb dX2_fewestMinutes_163 rfl (lv_at hl 6 rfl) ?_
                    refine va_get (D := D) (ci := 2) (v := .ref q_5) (C := RX2) (T := TX2) (N := 14) hx hb hts inX2 hown hK hP 0 rfl rfl 12 (by decide) (hts _ kF_X2_31) (fun _ h9 => h9) rfl dX2_fewestMinutes_164 ?_
                    refine lv_iload_n hx hb dX2_fewestMinutes_167 rfl (lv_at hl 4 rfl) ?_
                    refine va_iald hx hb hK hP 5 0 rfl rfl (by revert hN20 hy16 c21 e57 h_x_0 h_x_8 c24 c25 e56 hy23; simp only [vp_in_iff, Int32.lt_iff_toInt_lt, Int32.le_iff_toInt_le, Int64.lt_iff_toInt_lt, Int64.le_iff_toInt_le, Int32.toInt_toInt64, ← Int32.toInt_inj, ← Int64.toInt_inj, Int32.reduceToInt, Int64.reduceToInt] <;> omega) dX2_fewestMinutes_168 ?_
                    refine lv_topi (fun y59 ey59 => ?_)
                    refine lv_iadd hx hb dX2_fewestMinutes_169 ?_
                    refine va_mmin hx hb (by rw [hml]; exact hl.1.symm) hown (hts _ kminL_X2_125) (hts _ kminS) (hts _ kZ_J9) (hts _ kminC) (Nat.le_of_ble_eq_true rfl) (Nat.le_of_ble_eq_true rfl) (Nat.le_of_ble_eq_true rfl) (Nat.le_of_ble_eq_true rfl) dX2_fewestMinutes_170 ?_
                    refine lv_topi (fun y60 ey60 => ?_)
                    have hy60 := zo_min y17 ((y43 + y55) + y59)
                    rw [← ey60] at hy60
                    refine lv_istore_n (lv' := [(2, .int y60), (7, .int (y43 + y55)), (6, .int y42), (5, .int y43), (4, .int y23), (3, .int y16), (0, .ref q_0), (1, .int x_0)]) hx hb dX2_fewestMinutes_173 rfl hl (by decide) rfl (fun ls hl => ?_)
                    have e61 : Int32.toInt (y16 + 1) = Int32.toInt y16 + Int32.toInt (1 : Int32) := zi_add (by revert hN20 hy16 c21 e57 h_x_0 h_x_8 c24 c25 e56 hy23; simp only [vp_in_iff, Int32.lt_iff_toInt_lt, Int32.le_iff_toInt_le, Int64.lt_iff_toInt_lt, Int64.le_iff_toInt_le, Int32.toInt_toInt64, ← Int32.toInt_inj, ← Int64.toInt_inj, Int32.reduceToInt, Int64.reduceToInt] <;> omega)
                    refine lv_iinc (v := (y16 + 1)) (lv' := [(3, .int (y16 + 1)), (2, .int y60), (7, .int (y43 + y55)), (6, .int y42), (5, .int y43), (4, .int y23), (0, .ref q_0), (1, .int x_0)]) hx hb dX2_fewestMinutes_174 hl (k := 5) rfl rfl (by decide) rfl (fun ls hl => ?_)
                    refine lv_goto (tgt := 5) hx hb dX2_fewestMinutes_177 (by decide) ?_
                    exact ihN20 (y16 + 1) y60 F58 _ _ ls (by revert hN20 hy16 c21 e57 e61 h_x_0 h_x_8 c24 c25 e56 hy23; simp only [vp_in_iff, Int32.lt_iff_toInt_lt, Int32.le_iff_toInt_le, Int64.lt_iff_toInt_lt, Int64.le_iff_toInt_le, Int32.toInt_toInt64, ← Int32.toInt_inj, ← Int64.toInt_inj, Int32.reduceToInt, Int64.reduceToInt] <;> omega) (by revert hN20 hy16 c21 e57 e61 h_x_0 h_x_8 c24 c25 e56 hy23; simp only [vp_in_iff, Int32.lt_iff_toInt_lt, Int32.le_iff_toInt_le, Int64.lt_iff_toInt_lt, Int64.le_iff_toInt_le, Int32.toInt_toInt64, ← Int32.toInt_inj, ← Int64.toInt_inj, Int32.reduceToInt, Int64.reduceToInt] <;> omega) (by revert hy17 hy60; simp only [vp_in_iff, Int32.lt_iff_toInt_lt, Int32.le_iff_toInt_le, Int64.lt_iff_toInt_lt, Int64.le_iff_toInt_le, Int32.toInt_toInt64, ← Int32.toInt_inj, ← Int64.toInt_inj, Int32.reduceToInt, Int64.reduceToInt] <;> omega) hP hD hS (lv_sub hl [0, 1, 6, 7] rfl)
                  · refine lv_iload hx hb dX2_fewestMinutes_69 (lv_at hl 1 rfl) ?_
                    refine lv_iconst (v := 1) hx hb dX2_fewestMinutes_71 (by decide) ?_
                    refine lv_iand hx hb dX2_fewestMinutes_72 ?_
                    refine lv_topi (fun y62 ey62 => ?_)
                    have hy62 : 0 ≤ Int32.toInt y62 ∧ Int32.toInt y62 ≤ 1 := by rw [ey62]; exact zo_and _ (by decide)
                    refine lv_iconst (v := 1) hx hb dX2_fewestMinutes_73 (by decide) ?_
                    refine lv_icmp_ne (tgt := 121) hx hb dX2_fewestMinutes_74 (by decide) (fun c63 => ?_) (fun c63 => ?_)
                    · refine lv_iload hx hb dX2_fewestMinutes_121 (lv_at hl 1 rfl) ?_
                      refine lv_iconst (v := 1) hx hb dX2_fewestMinutes_123 (by decide) ?_
                      refine lv_ishr hx hb dX2_fewestMinutes_124 ?_
                      refine lv_topi (fun y64 ey64 => ?_)
                      refine lv_istore (lv' := [(6, .int y64), (7, .int y41), (5, .int y43), (4, .int y23), (3, .int y16), (2, .int y17), (0, .ref q_0), (1, .int x_0)]) hx hb dX2_fewestMinutes_125 hl (by decide) rfl (fun ls hl => ?_)
                      have e65 : Int32.toInt (y41 + 1) = Int32.toInt y41 + Int32.toInt (1 : Int32) := zi_add (by revert hN45 hy41 c46; simp only [vp_in_iff, Int32.lt_iff_toInt_lt, Int32.le_iff_toInt_le, Int64.lt_iff_toInt_lt, Int64.le_iff_toInt_le, Int32.toInt_toInt64, ← Int32.toInt_inj, ← Int64.toInt_inj, Int32.reduceToInt, Int64.reduceToInt] <;> omega)
                      refine lv_iinc (v := (y41 + 1)) (lv' := [(7, .int (y41 + 1)), (6, .int y64), (5, .int y43), (4, .int y23), (3, .int y16), (2, .int y17), (0, .ref q_0), (1, .int x_0)]) hx hb dX2_fewestMinutes_127 hl (k := 1) rfl rfl (by decide) rfl (fun ls hl => ?_)
                      refine lv_goto (tgt := 57) hx hb dX2_fewestMinutes_130 (by decide) ?_
                      exact ihN45 (y41 + 1) y64 y43 _ _ ls (by revert hN45 hy41 c46 e65; simp only [vp_in_iff, Int32.lt_iff_toInt_lt, Int32.le_iff_toInt_le, Int64.lt_iff_toInt_lt, Int64.le_iff_toInt_le, Int32.toInt_toInt64, ← Int32.toInt_inj, ← Int64.toInt_inj, Int32.reduceToInt, Int64.reduceToInt] <;> omega) (by revert hN45 hy41 c46 e65; simp only [vp_in_iff, Int32.lt_iff_toInt_lt, Int32.le_iff_toInt_le, Int64.lt_iff_toInt_lt, Int64.le_iff_toInt_le, Int32.toInt_toInt64, ← Int32.toInt_inj, ← Int64.toInt_inj, Int32.reduceToInt, Int64.reduceToInt] <;> omega) hP hD hS (lv_sub hl [0, 1, 2, 3, 4, 5, 6, 7] rfl)
                    · refine lv_aload_n hx hb dX2_fewestMinutes_77 rfl (lv_at hl 6 rfl) ?_
                      refine va_get (D := D) (ci := 2) (v := .ref q_2) (C := RX2) (T := TX2) (N := 14) hx hb hts inX2 hown hK hP 0 rfl rfl 13 (by decide) (hts _ kF_X2_34) (fun _ h9 => h9) rfl dX2_fewestMinutes_78 ?_
                      refine lv_iload hx hb dX2_fewestMinutes_81 (lv_at hl 3 rfl) ?_
                      refine lv_bipush (v := 9) hx hb dX2_fewestMinutes_83 (by decide) ?_
                      refine lv_imul hx hb dX2_fewestMinutes_85 ?_
                      have e66 : Int32.toInt (y23 * 9) = Int32.toInt y23 * Int32.toInt (9 : Int32) := zi_mul (by revert hy23 c24 c25 h_x_0; simp only [vp_in_iff, Int32.lt_iff_toInt_lt, Int32.le_iff_toInt_le, Int64.lt_iff_toInt_lt, Int64.le_iff_toInt_le, Int32.toInt_toInt64, ← Int32.toInt_inj, ← Int64.toInt_inj, Int32.reduceToInt, Int64.reduceToInt] <;> omega)
                      refine lv_iload hx hb dX2_fewestMinutes_86 (lv_at hl 0 rfl) ?_
                      refine lv_iadd hx hb dX2_fewestMinutes_88 ?_
                      have e67 : Int32.toInt ((y23 * 9) + y41) = Int32.toInt (y23 * 9) + Int32.toInt y41 := zi_add (by revert hy23 c24 c25 hN45 hy41 c46 e66 h_x_0; simp only [vp_in_iff, Int32.lt_iff_toInt_lt, Int32.le_iff_toInt_le, Int64.lt_iff_toInt_lt, Int64.le_iff_toInt_le, Int32.toInt_toInt64, ← Int32.toInt_inj, ← Int64.toInt_inj, Int32.reduceToInt, Int64.reduceToInt] <;> omega)
                      refine va_iald hx hb hK hP 2 0 rfl rfl (by revert hy23 c24 c25 hN45 hy41 c46 e66 e67 h_x_0; simp only [vp_in_iff, Int32.lt_iff_toInt_lt, Int32.le_iff_toInt_le, Int64.lt_iff_toInt_lt, Int64.le_iff_toInt_le, Int32.toInt_toInt64, ← Int32.toInt_inj, ← Int64.toInt_inj, Int32.reduceToInt, Int64.reduceToInt] <;> omega) dX2_fewestMinutes_89 ?_
                      refine lv_topi (fun y68 ey68 => ?_)
                      refine lv_aload_n hx hb dX2_fewestMinutes_90 rfl (lv_at hl 6 rfl) ?_
                      refine va_get (D := D) (ci := 2) (v := .ref q_3) (C := RX2) (T := TX2) (N := 14) hx hb hts inX2 hown hK hP 0 rfl rfl 11 (by decide) (hts _ kF_X2_28) (fun _ h9 => h9) rfl dX2_fewestMinutes_91 ?_
                      refine lv_iload hx hb dX2_fewestMinutes_94 (lv_at hl 0 rfl) ?_
                      refine lv_bipush (v := 9) hx hb dX2_fewestMinutes_96 (by decide) ?_
                      refine lv_imul hx hb dX2_fewestMinutes_98 ?_
                      have e69 : Int32.toInt (y41 * 9) = Int32.toInt y41 * Int32.toInt (9 : Int32) := zi_mul (by revert hN45 hy41 c46 e67 hy23 c24 c25 e66 h_x_0; simp only [vp_in_iff, Int32.lt_iff_toInt_lt, Int32.le_iff_toInt_le, Int64.lt_iff_toInt_lt, Int64.le_iff_toInt_le, Int32.toInt_toInt64, ← Int32.toInt_inj, ← Int64.toInt_inj, Int32.reduceToInt, Int64.reduceToInt] <;> omega)
                      refine lv_iload_n hx hb dX2_fewestMinutes_99 rfl (lv_at hl 4 rfl) ?_
                      refine lv_iadd hx hb dX2_fewestMinutes_100 ?_
                      have e70 : Int32.toInt ((y41 * 9) + y16) = Int32.toInt (y41 * 9) + Int32.toInt y16 := zi_add (by revert hN20 hy16 c21 hN45 hy41 c46 e67 e69 h_x_8 hy23 c24 c25 e66 h_x_0; simp only [vp_in_iff, Int32.lt_iff_toInt_lt, Int32.le_iff_toInt_le, Int64.lt_iff_toInt_lt, Int64.le_iff_toInt_le, Int32.toInt_toInt64, ← Int32.toInt_inj, ← Int64.toInt_inj, Int32.reduceToInt, Int64.reduceToInt] <;> omega)
                      refine va_iald hx hb hK hP 3 0 rfl rfl (by revert hN20 hy16 c21 hN45 hy41 c46 e67 e69 e70 h_x_8 hy23 c24 c25 e66 h_x_0; simp only [vp_in_iff, Int32.lt_iff_toInt_lt, Int32.le_iff_toInt_le, Int64.lt_iff_toInt_lt, Int64.le_iff_toInt_le, Int32.toInt_toInt64, ← Int32.toInt_inj, ← Int64.toInt_inj, Int32.reduceToInt, Int64.reduceToInt] <;> omega) dX2_fewestMinutes_101 ?_
                      refine lv_topi (fun y71 ey71 => ?_)
                      refine lv_iadd hx hb dX2_fewestMinutes_102 ?_
                      refine lv_istore (lv' := [(8, .int (y68 + y71)), (7, .int y41), (6, .int y42), (5, .int y43), (4, .int y23), (3, .int y16), (2, .int y17), (0, .ref q_0), (1, .int x_0)]) hx hb dX2_fewestMinutes_103 hl (by decide) rfl (fun ls hl => ?_)
                      refine lv_iload hx hb dX2_fewestMinutes_105 (lv_at hl 0 rfl) ?_
                      refine lv_iload hx hb dX2_fewestMinutes_107 (lv_at hl 3 rfl) ?_
                      refine lv_icmp_ge (tgt := 117) hx hb dX2_fewestMinutes_109 (by decide) (fun c72 => ?_) (fun c72 => ?_)
                      · refine lv_iload hx hb dX2_fewestMinutes_117 (lv_at hl 3 rfl) ?_
                        refine lv_istore (lv' := [(5, .int y43), (8, .int (y68 + y71)), (7, .int y41), (6, .int y42), (4, .int y23), (3, .int y16), (2, .int y17), (0, .ref q_0), (1, .int x_0)]) hx hb dX2_fewestMinutes_119 hl (by decide) rfl (fun ls hl => ?_)
                        refine lv_iload hx hb dX2_fewestMinutes_121 (lv_at hl 3 rfl) ?_
                        refine lv_iconst (v := 1) hx hb dX2_fewestMinutes_123 (by decide) ?_
                        refine lv_ishr hx hb dX2_fewestMinutes_124 ?_
                        refine lv_topi (fun y73 ey73 => ?_)
                        refine lv_istore (lv' := [(6, .int y73), (5, .int y43), (8, .int (y68 + y71)), (7, .int y41), (4, .int y23), (3, .int y16), (2, .int y17), (0, .ref q_0), (1, .int x_0)]) hx hb dX2_fewestMinutes_125 hl (by decide) rfl (fun ls hl => ?_)
                        have e74 : Int32.toInt (y41 + 1) = Int32.toInt y41 + Int32.toInt (1 : Int32) := zi_add (by revert hN45 hy41 c46 e67 e69 e70 hN20 hy16 c21 hy23 c24 c25 e66 h_x_0 h_x_8; simp only [vp_in_iff, Int32.lt_iff_toInt_lt, Int32.le_iff_toInt_le, Int64.lt_iff_toInt_lt, Int64.le_iff_toInt_le, Int32.toInt_toInt64, ← Int32.toInt_inj, ← Int64.toInt_inj, Int32.reduceToInt, Int64.reduceToInt] <;> omega)
                        refine lv_iinc (v := (y41 + 1)) (lv' := [(7, .int (y41 + 1)), (6, .int y73), (5, .int y43), (8, .int (y68 + y71)), (4, .int y23), (3, .int y16), (2, .int y17), (0, .ref q_0), (1, .int x_0)]) hx hb dX2_fewestMinutes_127 hl (k := 3) rfl rfl (by decide) rfl (fun ls hl => ?_)
                        refine lv_goto (tgt := 57) hx hb dX2_fewestMinutes_130 (by decide) ?_
                        exact ihN45 (y41 + 1) y73 y43 _ _ ls (by revert hN45 hy41 c46 e67 e69 e70 e74 hN20 hy16 c21 hy23 c24 c25 e66 h_x_0 h_x_8; simp only [vp_in_iff, Int32.lt_iff_toInt_lt, Int32.le_iff_toInt_le, Int64.lt_iff_toInt_lt, Int64.le_iff_toInt_le, Int32.toInt_toInt64, ← Int32.toInt_inj, ← Int64.toInt_inj, Int32.reduceToInt, Int64.reduceToInt] <;> omega) (by revert hN45 hy41 c46 e67 e69 e70 e74 hN20 hy16 c21 hy23 c24 c25 e66 h_x_0 h_x_8; simp only [vp_in_iff, Int32.lt_iff_toInt_lt, Int32.le_iff_toInt_le, Int64.lt_iff_toInt_lt, Int64.le_iff_toInt_le, Int32.toInt_toInt64, ← Int32.toInt_inj, ← Int64.toInt_inj, Int32.reduceToInt, Int64.reduceToInt] <;> omega) hP hD hS (lv_sub hl [0, 1, 2, 4, 5, 6, 7, 8] rfl)
                      · refine lv_iload hx hb dX2_fewestMinutes_112 (lv_at hl 0 rfl) ?_
                        refine lv_goto (tgt := 119) hx hb dX2_fewestMinutes_114 (by decide) ?_
                        refine lv_istore (lv' := [(5, .int (y68 + y71)), (8, .int (y68 + y71)), (7, .int y41), (6, .int y42), (4, .int y23), (3, .int y16), (2, .int y17), (0, .ref q_0), (1, .int x_0)]) hx hb dX2_fewestMinutes_119 hl (by decide) rfl (fun ls hl => ?_)
                        refine lv_iload hx hb dX2_fewestMinutes_121 (lv_at hl 3 rfl) ?_
                        refine lv_iconst (v := 1) hx hb dX2_fewestMinutes_123 (by decide) ?_
                        refine lv_ishr hx hb dX2_fewestMinutes_124 ?_
                        refine lv_topi (fun y75 ey75 => ?_)
                        refine lv_istore (lv' := [(6, .int y75), (5, .int (y68 + y71)), (8, .int (y68 + y71)), (7, .int y41), (4, .int y23), (3, .int y16), (2, .int y17), (0, .ref q_0), (1, .int x_0)]) hx hb dX2_fewestMinutes_125 hl (by decide) rfl (fun ls hl => ?_)
                        have e76 : Int32.toInt (y41 + 1) = Int32.toInt y41 + Int32.toInt (1 : Int32) := zi_add (by revert hN45 hy41 c46 e67 e69 e70 hN20 hy16 c21 hy23 c24 c25 e66 h_x_0 h_x_8; simp only [vp_in_iff, Int32.lt_iff_toInt_lt, Int32.le_iff_toInt_le, Int64.lt_iff_toInt_lt, Int64.le_iff_toInt_le, Int32.toInt_toInt64, ← Int32.toInt_inj, ← Int64.toInt_inj, Int32.reduceToInt, Int64.reduceToInt] <;> omega)
                        refine lv_iinc (v := (y41 + 1)) (lv' := [(7, .int (y41 + 1)), (6, .int y75), (5, .int (y68 + y71)), (8, .int (y68 + y71)), (4, .int y23), (3, .int y16), (2, .int y17), (0, .ref q_0), (1, .int x_0)]) hx hb dX2_fewestMinutes_127 hl (k := 3) rfl rfl (by decide) rfl (fun ls hl => ?_)
                        refine lv_goto (tgt := 57) hx hb dX2_fewestMinutes_130 (by decide) ?_
                        exact ihN45 (y41 + 1) y75 (y68 + y71) _ _ ls (by revert hN45 hy41 c46 e67 e69 e70 e76 hN20 hy16 c21 hy23 c24 c25 e66 h_x_0 h_x_8; simp only [vp_in_iff, Int32.lt_iff_toInt_lt, Int32.le_iff_toInt_le, Int64.lt_iff_toInt_lt, Int64.le_iff_toInt_le, Int32.toInt_toInt64, ← Int32.toInt_inj, ← Int64.toInt_inj, Int32.reduceToInt, Int64.reduceToInt] <;> omega) (by revert hN45 hy41 c46 e67 e69 e70 e76 hN20 hy16 c21 hy23 c24 c25 e66 h_x_0 h_x_8; simp only [vp_in_iff, Int32.lt_iff_toInt_lt, Int32.le_iff_toInt_le, Int64.lt_iff_toInt_lt, Int64.le_iff_toInt_le, Int32.toInt_toInt64, ← Int32.toInt_inj, ← Int64.toInt_inj, Int32.reduceToInt, Int64.reduceToInt] <;> omega) hP hD hS (lv_sub hl [0, 1, 2, 4, 5, 6, 7, 8] rfl)
            exact loop44 _ 0 y23 1000000 _ _ _ (Nat.lt_succ_self _) (by simp only [vp_in_iff, Int32.lt_iff_toInt_lt, Int32.le_iff_toInt_le, Int64.lt_iff_toInt_lt, Int64.le_iff_toInt_le, Int32.toInt_toInt64, ← Int32.toInt_inj, ← Int64.toInt_inj, Int32.reduceToInt, Int64.reduceToInt] <;> omega) hP hD hS (lv_sub hl [0, 1, 2, 3, 4, 5, 6, 7] rfl)
          · refine lv_aload_n hx hb dX2_fewestMinutes_37 rfl (lv_at hl 3 rfl) ?_
            refine va_get (D := D) (ci := 2) (v := .ref q_5) (C := RX2) (T := TX2) (N := 14) hx hb hts inX2 hown hK hP 0 rfl rfl 12 (by decide) (hts _ kF_X2_31) (fun _ h9 => h9) rfl dX2_fewestMinutes_38 ?_
            refine lv_iload_n hx hb dX2_fewestMinutes_41 rfl (lv_at hl 1 rfl) ?_
            refine va_iald hx hb hK hP 5 0 rfl rfl (by revert hN20 hy16 c21 h_x_8; simp only [vp_in_iff, Int32.lt_iff_toInt_lt, Int32.le_iff_toInt_le, Int64.lt_iff_toInt_lt, Int64.le_iff_toInt_le, Int32.toInt_toInt64, ← Int32.toInt_inj, ← Int64.toInt_inj, Int32.reduceToInt, Int64.reduceToInt] <;> omega) dX2_fewestMinutes_42 ?_
            refine lv_topi (fun y77 ey77 => ?_)
            refine lv_goto (tgt := 48) hx hb dX2_fewestMinutes_43 (by decide) ?_
            refine lv_istore (lv' := [(5, .int y77), (4, .int y23), (3, .int y16), (2, .int y17), (0, .ref q_0), (1, .int x_0)]) hx hb dX2_fewestMinutes_48 hl (by decide) rfl (fun ls hl => ?_)
            refine lv_iload hx hb dX2_fewestMinutes_50 (lv_at hl 1 rfl) ?_
            refine lv_istore (lv' := [(6, .int y23), (5, .int y77), (4, .int y23), (3, .int y16), (2, .int y17), (0, .ref q_0), (1, .int x_0)]) hx hb dX2_fewestMinutes_52 hl (by decide) rfl (fun ls hl => ?_)
            refine lv_iconst (v := 0) hx hb dX2_fewestMinutes_54 (by decide) ?_
            refine lv_istore (lv' := [(7, .int 0), (6, .int y23), (5, .int y77), (4, .int y23), (3, .int y16), (2, .int y17), (0, .ref q_0), (1, .int x_0)]) hx hb dX2_fewestMinutes_55 hl (by decide) rfl (fun ls hl => ?_)
            have loop78 : ∀ (N79 : Nat) (H : Heap) (locs : List Loc) (ls : Array Slot), Int.toNat 0 < N79 → va_P D vwCl [(q_0, .inr (2, [.ref q_6, .ref q_1, .ref q_7, .int x_1, .int x_2, .ref q_8, .ref q_9, .ref q_10, .int x_3, .int x_4, .int x_5, .ref q_3, .ref q_5, .ref q_2])), (q_1, .inr (4, [.int x_6, .ref q_11, .int x_7, .ref q_12, .ref q_13, .int x_8, .ref q_14, .ref q_4, .ref q_15, .int x_9, .ref q_16, .ref q_17, .ref q_18])), (q_2, .inl (k 0, 4608, .inl F18)), (q_3, .inl (k 0, 81, .inl f_11)), (q_4, .inl (k 0, 9, .inl f_12)), (q_5, .inl (k 0, 9, .inl f_13))] H → va_D A [(q_0, .inr (2, [.ref q_6, .ref q_1, .ref q_7, .int x_1, .int x_2, .ref q_8, .ref q_9, .ref q_10, .int x_3, .int x_4, .int x_5, .ref q_3, .ref q_5, .ref q_2])), (q_1, .inr (4, [.int x_6, .ref q_11, .int x_7, .ref q_12, .ref q_13, .int x_8, .ref q_14, .ref q_4, .ref q_15, .int x_9, .ref q_16, .ref q_17, .ref q_18])), (q_2, .inl (k 0, 4608, .inl F18)), (q_3, .inl (k 0, 81, .inl f_11)), (q_4, .inl (k 0, 9, .inl f_12)), (q_5, .inl (k 0, 9, .inl f_13))] → va_S A s.heap H locs → lv_has ls 9 [(7, .int 0), (6, .int y23), (5, .int y77), (4, .int y23), (3, .int y16), (2, .int y17), (0, .ref q_0), (1, .int x_0)] → W p l e { frames := 1, cells := 0, slots := 0, locals := 40 } s m args below meth c H locs 0 0 (MQ below (va_Qi (fun (r : Int32) (u : zS) => u.1 = 0 ∧ ((-2147483648) ≤ Int32.toInt r ∧ Int32.toInt r ≤ 1000000)) (zB D k A (fun (u : zS) => [(q_0, .inr (2, [.ref q_6, .ref q_1, .ref q_7, .int x_1, .int x_2, .ref q_8, .ref q_9, .ref q_10, .int x_3, .int x_4, .int x_5, .ref q_3, .ref q_5, .ref q_2])), (q_1, .inr (4, [.int x_6, .ref q_11, .int x_7, .ref q_12, .ref q_13, .int x_8, .ref q_14, .ref q_4, .ref q_15, .int x_9, .ref q_16, .ref q_17, .ref q_18])), (q_2, .inl (k 0, 4608, .inl (u.2.2.2.2.1 0))), (q_3, .inl (k 0, 81, .inl f_11)), (q_4, .inl (k 0, 9, .inl f_12)), (q_5, .inl (k 0, 9, .inl f_13))])) A) args s 0 0 A) (F0 m 57 ls []) := by
              intro N79
              induction N79 with
              | zero => intro H locs ls hm; exact absurd hm (Nat.not_lt_zero _)
              | succ N79 ihN79 =>
                intro H locs ls hN79 hP hD hS hl
                refine lv_iload hx hb dX2_fewestMinutes_57 (lv_at hl 0 rfl) ?_
                refine lv_bipush (v := 9) hx hb dX2_fewestMinutes_59 (by decide) ?_
                refine lv_icmp_ge (tgt := 133) hx hb dX2_fewestMinutes_61 (by decide) (fun c80 => absurd c80 (by decide)) (fun _ => ?_)
                refine lv_iload hx hb dX2_fewestMinutes_64 (lv_at hl 1 rfl) ?_
                refine lv_if_eq (tgt := 133) hx hb dX2_fewestMinutes_66 (by decide) (fun c81 => ?_) (fun c81 => ?_)
                · refine lv_iload hx hb dX2_fewestMinutes_133 (lv_at hl 2 rfl) ?_
                  refine lv_aload_n hx hb dX2_fewestMinutes_135 rfl (lv_at hl 6 rfl) ?_
                  refine va_get (D := D) (ci := 2) (v := .ref q_1) (C := RX2) (T := TX2) (N := 14) hx hb hts inX2 hown hK hP 0 rfl rfl 1 (by decide) (hts _ kF_X2_48) (fun _ h9 => h9) rfl dX2_fewestMinutes_136 ?_
                  refine va_get (D := D) (ci := 4) (v := .ref q_4) (C := RX4) (T := TX4) (N := 13) hx hb hts inX4 hown hK hP 1 rfl rfl 7 (by decide) (hts _ kF_X2_122) (fun _ h9 => h9) rfl dX2_fewestMinutes_139 ?_
                  refine lv_iload_n hx hb dX2_fewestMinutes_142 rfl (lv_at hl 4 rfl) ?_
                  refine va_iald hx hb hK hP 4 0 rfl rfl (by revert hN20 hy16 c21 h_x_8; simp only [vp_in_iff, Int32.lt_iff_toInt_lt, Int32.le_iff_toInt_le, Int64.lt_iff_toInt_lt, Int64.le_iff_toInt_le, Int32.toInt_toInt64, ← Int32.toInt_inj, ← Int64.toInt_inj, Int32.reduceToInt, Int64.reduceToInt] <;> omega) dX2_fewestMinutes_143 ?_
                  refine lv_topi (fun y82 ey82 => ?_)
                  refine lv_iadd hx hb dX2_fewestMinutes_144 ?_
                  refine lv_istore (lv' := [(7, .int (y77 + y82)), (6, .int y23), (5, .int y77), (4, .int y23), (3, .int y16), (2, .int y17), (0, .ref q_0), (1, .int x_0)]) hx hb dX2_fewestMinutes_145 hl (by decide) rfl (fun ls hl => ?_)
                  refine lv_aload_n hx hb dX2_fewestMinutes_147 rfl (lv_at hl 6 rfl) ?_
                  refine va_get (D := D) (ci := 2) (v := .ref q_2) (C := RX2) (T := TX2) (N := 14) hx hb hts inX2 hown hK hP 0 rfl rfl 13 (by decide) (hts _ kF_X2_34) (fun _ h9 => h9) rfl dX2_fewestMinutes_148 ?_
                  refine lv_iload_n hx hb dX2_fewestMinutes_151 rfl (lv_at hl 7 rfl) ?_
                  refine lv_bipush (v := 9) hx hb dX2_fewestMinutes_152 (by decide) ?_
                  refine lv_imul hx hb dX2_fewestMinutes_154 ?_
                  have e83 : Int32.toInt (x_0 * 9) = Int32.toInt x_0 * Int32.toInt (9 : Int32) := zi_mul (by revert h_x_0 c24 c25 c81 hy23; simp only [vp_in_iff, Int32.lt_iff_toInt_lt, Int32.le_iff_toInt_le, Int64.lt_iff_toInt_lt, Int64.le_iff_toInt_le, Int32.toInt_toInt64, ← Int32.toInt_inj, ← Int64.toInt_inj, Int32.reduceToInt, Int64.reduceToInt] <;> omega)
                  refine lv_iload_n hx hb dX2_fewestMinutes_155 rfl (lv_at hl 4 rfl) ?_
                  refine lv_iadd hx hb dX2_fewestMinutes_156 ?_
                  have e84 : Int32.toInt ((x_0 * 9) + y16) = Int32.toInt (x_0 * 9) + Int32.toInt y16 := zi_add (by revert h_x_0 hN20 hy16 c21 c24 c25 c81 e83 h_x_8 hy23; simp only [vp_in_iff, Int32.lt_iff_toInt_lt, Int32.le_iff_toInt_le, Int64.lt_iff_toInt_lt, Int64.le_iff_toInt_le, Int32.toInt_toInt64, ← Int32.toInt_inj, ← Int64.toInt_inj, Int32.reduceToInt, Int64.reduceToInt] <;> omega)
                  refine lv_iload hx hb dX2_fewestMinutes_157 (lv_at hl 0 rfl) ?_
                  refine va_iast hx hb hK hP hD hS 2 0 rfl rfl (by revert h_x_0 hN20 hy16 c21 c24 c25 c81 e83 e84 h_x_8 hy23; simp only [vp_in_iff, Int32.lt_iff_toInt_lt, Int32.le_iff_toInt_le, Int64.lt_iff_toInt_lt, Int64.le_iff_toInt_le, Int32.toInt_toInt64, ← Int32.toInt_inj, ← Int64.toInt_inj, Int32.reduceToInt, Int64.reduceToInt] <;> omega) dX2_fewestMinutes_159 (fun H locs hP hD hS => ?_)
                  obtain ⟨F85, eF85⟩ : ∃ q, q = upd F18 (Int32.toNatClampNeg ((x_0 * 9) + y16)) (y77 + y82) := ⟨_, rfl⟩
                  have hP : va_P D vwCl [(q_0, .inr (2, [.ref q_6, .ref q_1, .ref q_7, .int x_1, .int x_2, .ref q_8, .ref q_9, .ref q_10, .int x_3, .int x_4, .int x_5, .ref q_3, .ref q_5, .ref q_2])), (q_1, .inr (4, [.int x_6, .ref q_11, .int x_7, .ref q_12, .ref q_13, .int x_8, .ref q_14, .ref q_4, .ref q_15, .int x_9, .ref q_16, .ref q_17, .ref q_18])), (q_2, .inl (k 0, 4608, .inl F85)), (q_3, .inl (k 0, 81, .inl f_11)), (q_4, .inl (k 0, 9, .inl f_12)), (q_5, .inl (k 0, 9, .inl f_13))] H := by rw [eF85]; exact hP
                  have hD : va_D A [(q_0, .inr (2, [.ref q_6, .ref q_1, .ref q_7, .int x_1, .int x_2, .ref q_8, .ref q_9, .ref q_10, .int x_3, .int x_4, .int x_5, .ref q_3, .ref q_5, .ref q_2])), (q_1, .inr (4, [.int x_6, .ref q_11, .int x_7, .ref q_12, .ref q_13, .int x_8, .ref q_14, .ref q_4, .ref q_15, .int x_9, .ref q_16, .ref q_17, .ref q_18])), (q_2, .inl (k 0, 4608, .inl F85)), (q_3, .inl (k 0, 81, .inl f_11)), (q_4, .inl (k 0, 9, .inl f_12)), (q_5, .inl (k 0, 9, .inl f_13))] := by rw [eF85]; exact hD
                  refine lv_iload_n hx hb dX2_fewestMinutes_160 rfl (lv_at hl 5 rfl) ?_
                  refine lv_iload hx hb dX2_fewestMinutes_161 (lv_at hl 0 rfl) ?_
                  refine lv_aload_n hx hb dX2_fewestMinutes_163 rfl (lv_at hl 6 rfl) ?_
                  refine va_get (D := D) (ci := 2) (v := .ref q_5) (C := RX2) (T := TX2) (N := 14) hx hb hts inX2 hown hK hP 0 rfl rfl 12 (by decide) (hts _ kF_X2_31) (fun _ h9 => h9) rfl dX2_fewestMinutes_164 ?_
                  refine lv_iload_n hx hb dX2_fewestMinutes_167 rfl (lv_at hl 4 rfl) ?_
                  refine va_iald hx hb hK hP 5 0 rfl rfl (by revert hN20 hy16 c21 e84 h_x_0 h_x_8 c24 c25 c81 e83 hy23; simp only [vp_in_iff, Int32.lt_iff_toInt_lt, Int32.le_iff_toInt_le, Int64.lt_iff_toInt_lt, Int64.le_iff_toInt_le, Int32.toInt_toInt64, ← Int32.toInt_inj, ← Int64.toInt_inj, Int32.reduceToInt, Int64.reduceToInt] <;> omega) dX2_fewestMinutes_168 ?_
                  refine lv_topi (fun y86 ey86 => ?_)
                  refine lv_iadd hx hb dX2_fewestMinutes_169 ?_
                  refine va_mmin hx hb (by rw [hml]; exact hl.1.symm) hown (hts _ kminL_X2_125) (hts _ kminS) (hts _ kZ_J9) (hts _ kminC) (Nat.le_of_ble_eq_true rfl) (Nat.le_of_ble_eq_true rfl) (Nat.le_of_ble_eq_true rfl) (Nat.le_of_ble_eq_true rfl) dX2_fewestMinutes_170 ?_
                  refine lv_topi (fun y87 ey87 => ?_)
                  have hy87 := zo_min y17 ((y77 + y82) + y86)
                  rw [← ey87] at hy87
                  refine lv_istore_n (lv' := [(2, .int y87), (7, .int (y77 + y82)), (6, .int y23), (5, .int y77), (4, .int y23), (3, .int y16), (0, .ref q_0), (1, .int x_0)]) hx hb dX2_fewestMinutes_173 rfl hl (by decide) rfl (fun ls hl => ?_)
                  have e88 : Int32.toInt (y16 + 1) = Int32.toInt y16 + Int32.toInt (1 : Int32) := zi_add (by revert hN20 hy16 c21 e84 h_x_0 h_x_8 c24 c25 c81 e83 hy23; simp only [vp_in_iff, Int32.lt_iff_toInt_lt, Int32.le_iff_toInt_le, Int64.lt_iff_toInt_lt, Int64.le_iff_toInt_le, Int32.toInt_toInt64, ← Int32.toInt_inj, ← Int64.toInt_inj, Int32.reduceToInt, Int64.reduceToInt] <;> omega)
                  refine lv_iinc (v := (y16 + 1)) (lv' := [(3, .int (y16 + 1)), (2, .int y87), (7, .int (y77 + y82)), (6, .int y23), (5, .int y77), (4, .int y23), (0, .ref q_0), (1, .int x_0)]) hx hb dX2_fewestMinutes_174 hl (k := 5) rfl rfl (by decide) rfl (fun ls hl => ?_)
                  refine lv_goto (tgt := 5) hx hb dX2_fewestMinutes_177 (by decide) ?_
                  exact ihN20 (y16 + 1) y87 F85 _ _ ls (by revert hN20 hy16 c21 e84 e88 h_x_0 h_x_8 c24 c25 c81 e83 hy23; simp only [vp_in_iff, Int32.lt_iff_toInt_lt, Int32.le_iff_toInt_le, Int64.lt_iff_toInt_lt, Int64.le_iff_toInt_le, Int32.toInt_toInt64, ← Int32.toInt_inj, ← Int64.toInt_inj, Int32.reduceToInt, Int64.reduceToInt] <;> omega) (by revert hN20 hy16 c21 e84 e88 h_x_0 h_x_8 c24 c25 c81 e83 hy23; simp only [vp_in_iff, Int32.lt_iff_toInt_lt, Int32.le_iff_toInt_le, Int64.lt_iff_toInt_lt, Int64.le_iff_toInt_le, Int32.toInt_toInt64, ← Int32.toInt_inj, ← Int64.toInt_inj, Int32.reduceToInt, Int64.reduceToInt] <;> omega) (by revert hy17 hy87; simp only [vp_in_iff, Int32.lt_iff_toInt_lt, Int32.le_iff_toInt_le, Int64.lt_iff_toInt_lt, Int64.le_iff_toInt_le, Int32.toInt_toInt64, ← Int32.toInt_inj, ← Int64.toInt_inj, Int32.reduceToInt, Int64.reduceToInt] <;> omega) hP hD hS (lv_sub hl [0, 1, 6, 7] rfl)
                · exact (show False by revert hy23 c24 c25 c81 h_x_0; simp only [vp_in_iff, Int32.lt_iff_toInt_lt, Int32.le_iff_toInt_le, Int64.lt_iff_toInt_lt, Int64.le_iff_toInt_le, Int32.toInt_toInt64, ← Int32.toInt_inj, ← Int64.toInt_inj, Int32.reduceToInt, Int64.reduceToInt] <;> omega).elim
            exact loop78 _ _ _ _ (Nat.lt_succ_self _) hP hD hS (lv_sub hl [0, 1, 2, 3, 4, 5, 6, 7] rfl)
        · refine lv_goto (tgt := 174) hx hb dX2_fewestMinutes_29 (by decide) ?_
          have e89 : Int32.toInt (y16 + 1) = Int32.toInt y16 + Int32.toInt (1 : Int32) := zi_add (by revert hN20 hy16 c21 h_x_8; simp only [vp_in_iff, Int32.lt_iff_toInt_lt, Int32.le_iff_toInt_le, Int64.lt_iff_toInt_lt, Int64.le_iff_toInt_le, Int32.toInt_toInt64, ← Int32.toInt_inj, ← Int64.toInt_inj, Int32.reduceToInt, Int64.reduceToInt] <;> omega)
          refine lv_iinc (v := (y16 + 1)) (lv' := [(3, .int (y16 + 1)), (4, .int y23), (2, .int y17), (0, .ref q_0), (1, .int x_0)]) hx hb dX2_fewestMinutes_174 hl (k := 1) rfl rfl (by decide) rfl (fun ls hl => ?_)
          refine lv_goto (tgt := 5) hx hb dX2_fewestMinutes_177 (by decide) ?_
          exact ihN20 (y16 + 1) y17 F18 _ _ ls (by revert hN20 hy16 c21 e89 h_x_8; simp only [vp_in_iff, Int32.lt_iff_toInt_lt, Int32.le_iff_toInt_le, Int64.lt_iff_toInt_lt, Int64.le_iff_toInt_le, Int32.toInt_toInt64, ← Int32.toInt_inj, ← Int64.toInt_inj, Int32.reduceToInt, Int64.reduceToInt] <;> omega) (by revert hN20 hy16 c21 e89 h_x_8; simp only [vp_in_iff, Int32.lt_iff_toInt_lt, Int32.le_iff_toInt_le, Int64.lt_iff_toInt_lt, Int64.le_iff_toInt_le, Int32.toInt_toInt64, ← Int32.toInt_inj, ← Int64.toInt_inj, Int32.reduceToInt, Int64.reduceToInt] <;> omega) (by revert hy17; simp only [vp_in_iff, Int32.lt_iff_toInt_lt, Int32.le_iff_toInt_le, Int64.lt_iff_toInt_lt, Int64.le_iff_toInt_le, Int32.toInt_toInt64, ← Int32.toInt_inj, ← Int64.toInt_inj, Int32.reduceToInt, Int64.reduceToInt] <;> omega) hP hD hS (lv_sub hl [0, 2, 3, 4] rfl)
  exact loop19 _ 0 1000000 f_10 _ _ _ (Nat.lt_succ_self _) (by simp only [vp_in_iff, Int32.lt_iff_toInt_lt, Int32.le_iff_toInt_le, Int64.lt_iff_toInt_lt, Int64.le_iff_toInt_le, Int32.toInt_toInt64, ← Int32.toInt_inj, ← Int64.toInt_inj, Int32.reduceToInt, Int64.reduceToInt] <;> omega) (by simp only [vp_in_iff, Int32.lt_iff_toInt_lt, Int32.le_iff_toInt_le, Int64.lt_iff_toInt_lt, Int64.le_iff_toInt_le, Int32.toInt_toInt64, ← Int32.toInt_inj, ← Int64.toInt_inj, Int32.reduceToInt, Int64.reduceToInt] <;> omega) hP hD hS (lv_sub hl [0, 1, 2, 3] rfl)

set_option maxHeartbeats 4000000 in
set_option maxRecDepth 100000 in
theorem s_X2_fewestMinutes_6 (l : Launch) (D : va_G) (k : Nat → ClassId) (q_0 : Nat) (q_1 : Nat) (q_2 : Nat) (q_3 : Nat) (q_4 : Nat) (q_5 : Nat) (q_6 : Nat) (q_7 : Nat) (q_8 : Nat) (q_9 : Nat) (q_10 : Nat) (q_11 : Nat) (q_12 : Nat) (q_13 : Nat) (q_14 : Nat) (q_15 : Nat) (q_16 : Nat) (q_17 : Nat) (q_18 : Nat) (x_0 : Int32) (x_1 : Int32) (x_2 : Int32) (x_3 : Int32) (x_4 : Int32) (x_5 : Int32) (x_6 : Int32) (x_7 : Int32) (x_8 : Int32) (x_9 : Int32) (f_10 : Nat → Int32) (f_11 : Nat → Int32) (f_12 : Nat → Int32) (f_13 : Nat → Int32) (h_x_0 : 1 ≤ Int32.toInt x_0 ∧ Int32.toInt x_0 ≤ 49) (h_x_1 : 0 ≤ Int32.toInt x_1 ∧ Int32.toInt x_1 ≤ 6) (h_x_3 : 0 ≤ Int32.toInt x_3 ∧ Int32.toInt x_3 ≤ 19) (h_x_4 : 0 ≤ Int32.toInt x_4 ∧ Int32.toInt x_4 ≤ 2147483647) (h_x_5 : (-2147483648) ≤ Int32.toInt x_5 ∧ Int32.toInt x_5 ≤ 1000000) (h_x_6 : 0 ≤ Int32.toInt x_6 ∧ Int32.toInt x_6 ≤ 6) (h_x_7 : 0 ≤ Int32.toInt x_7 ∧ Int32.toInt x_7 ≤ 6) (h_x_8 : 0 ≤ Int32.toInt x_8 ∧ Int32.toInt x_8 ≤ 9) (h_x_9 : 0 ≤ Int32.toInt x_9 ∧ Int32.toInt x_9 ≤ 12) : zMi l yX2_fewestMinutes cX2_fewestMinutes 9 (some .int) ({ frames := 1, cells := 0, slots := 0, locals := 40 }) D k [.ref q_0, .int x_0] [(q_0, .inr (2, [.ref q_6, .ref q_1, .ref q_7, .int x_1, .int x_2, .ref q_8, .ref q_9, .ref q_10, .int x_3, .int x_4, .int x_5, .ref q_3, .ref q_5, .ref q_2])), (q_1, .inr (4, [.int x_6, .ref q_11, .int x_7, .ref q_12, .ref q_13, .int x_8, .ref q_14, .ref q_4, .ref q_15, .int x_9, .ref q_16, .ref q_17, .ref q_18])), (q_2, .inl (k 0, 4608, .inl f_10)), (q_3, .inl (k 0, 81, .inl f_11)), (q_4, .inl (k 0, 9, .inl f_12)), (q_5, .inl (k 0, 9, .inl f_13))] (fun r u => u.1 = 0 ∧ ((-2147483648) ≤ Int32.toInt r ∧ Int32.toInt r ≤ 1000000)) (fun u => [(q_0, .inr (2, [.ref q_6, .ref q_1, .ref q_7, .int x_1, .int x_2, .ref q_8, .ref q_9, .ref q_10, .int x_3, .int x_4, .int x_5, .ref q_3, .ref q_5, .ref q_2])), (q_1, .inr (4, [.int x_6, .ref q_11, .int x_7, .ref q_12, .ref q_13, .int x_8, .ref q_14, .ref q_4, .ref q_15, .int x_9, .ref q_16, .ref q_17, .ref q_18])), (q_2, .inl (k 0, 4608, .inl (u.2.2.2.2.1 0))), (q_3, .inl (k 0, 81, .inl f_11)), (q_4, .inl (k 0, 9, .inl f_12)), (q_5, .inl (k 0, 9, .inl f_13))]) := by
  refine zMi_of (own := RX2) (by decide +kernel) rfl (Nat.le_of_ble_eq_true rfl) ?_
  intro p e s m args below meth c A ls C0 hr hlk hin hP hD hS hA hK hN hl
  have hx := C0.1
  have hb := C0.2.1
  have hml := C0.2.2.1
  have hown := C0.2.2.2.1
  have hts := C0.2.2.2.2
  have hl : lv_has ls 9 [(0, .ref q_0), (1, .int x_0)] := hl
  have hP : va_P D vwCl [(q_0, .inr (2, [.ref q_6, .ref q_1, .ref q_7, .int x_1, .int x_2, .ref q_8, .ref q_9, .ref q_10, .int x_3, .int x_4, .int x_5, .ref q_3, .ref q_5, .ref q_2])), (q_1, .inr (4, [.int x_6, .ref q_11, .int x_7, .ref q_12, .ref q_13, .int x_8, .ref q_14, .ref q_4, .ref q_15, .int x_9, .ref q_16, .ref q_17, .ref q_18])), (q_2, .inl (k 0, 4608, .inl f_10)), (q_3, .inl (k 0, 81, .inl f_11)), (q_4, .inl (k 0, 9, .inl f_12)), (q_5, .inl (k 0, 9, .inl f_13))] s.heap := hP
  refine lv_ldc hx hb hown (hts _ kK_X2_121) dX2_fewestMinutes_0 ?_
  refine lv_istore_n (lv' := [(2, .int 1000000), (0, .ref q_0), (1, .int x_0)]) hx hb dX2_fewestMinutes_2 rfl hl (by decide) rfl (fun ls hl => ?_)
  refine lv_iconst (v := 0) hx hb dX2_fewestMinutes_3 (by decide) ?_
  refine lv_istore_n (lv' := [(3, .int 0), (2, .int 1000000), (0, .ref q_0), (1, .int x_0)]) hx hb dX2_fewestMinutes_4 rfl hl (by decide) rfl (fun ls hl => ?_)
  have loop19 : ∀ (N20 : Nat) (y16 : Int32) (y17 : Int32) (F18 : Nat → Int32) (H : Heap) (locs : List Loc) (ls : Array Slot), Int.toNat (9 - Int32.toInt y16) < N20 → 0 ≤ Int32.toInt y16 ∧ Int32.toInt y16 ≤ 9 → (-2147483648) ≤ Int32.toInt y17 ∧ Int32.toInt y17 ≤ 1000000 → va_P D vwCl [(q_0, .inr (2, [.ref q_6, .ref q_1, .ref q_7, .int x_1, .int x_2, .ref q_8, .ref q_9, .ref q_10, .int x_3, .int x_4, .int x_5, .ref q_3, .ref q_5, .ref q_2])), (q_1, .inr (4, [.int x_6, .ref q_11, .int x_7, .ref q_12, .ref q_13, .int x_8, .ref q_14, .ref q_4, .ref q_15, .int x_9, .ref q_16, .ref q_17, .ref q_18])), (q_2, .inl (k 0, 4608, .inl F18)), (q_3, .inl (k 0, 81, .inl f_11)), (q_4, .inl (k 0, 9, .inl f_12)), (q_5, .inl (k 0, 9, .inl f_13))] H → va_D A [(q_0, .inr (2, [.ref q_6, .ref q_1, .ref q_7, .int x_1, .int x_2, .ref q_8, .ref q_9, .ref q_10, .int x_3, .int x_4, .int x_5, .ref q_3, .ref q_5, .ref q_2])), (q_1, .inr (4, [.int x_6, .ref q_11, .int x_7, .ref q_12, .ref q_13, .int x_8, .ref q_14, .ref q_4, .ref q_15, .int x_9, .ref q_16, .ref q_17, .ref q_18])), (q_2, .inl (k 0, 4608, .inl F18)), (q_3, .inl (k 0, 81, .inl f_11)), (q_4, .inl (k 0, 9, .inl f_12)), (q_5, .inl (k 0, 9, .inl f_13))] → va_S A s.heap H locs → lv_has ls 9 [(3, .int y16), (2, .int y17), (0, .ref q_0), (1, .int x_0)] → W p l e { frames := 1, cells := 0, slots := 0, locals := 40 } s m args below meth c H locs 0 0 (MQ below (va_Qi (fun (r : Int32) (u : zS) => u.1 = 0 ∧ ((-2147483648) ≤ Int32.toInt r ∧ Int32.toInt r ≤ 1000000)) (zB D k A (fun (u : zS) => [(q_0, .inr (2, [.ref q_6, .ref q_1, .ref q_7, .int x_1, .int x_2, .ref q_8, .ref q_9, .ref q_10, .int x_3, .int x_4, .int x_5, .ref q_3, .ref q_5, .ref q_2])), (q_1, .inr (4, [.int x_6, .ref q_11, .int x_7, .ref q_12, .ref q_13, .int x_8, .ref q_14, .ref q_4, .ref q_15, .int x_9, .ref q_16, .ref q_17, .ref q_18])), (q_2, .inl (k 0, 4608, .inl (u.2.2.2.2.1 0))), (q_3, .inl (k 0, 81, .inl f_11)), (q_4, .inl (k 0, 9, .inl f_12)), (q_5, .inl (k 0, 9, .inl f_13))])) A) args s 0 0 A) (F0 m 5 ls []) := by
    intro N20
    induction N20 with
    | zero => intro y16 y17 F18 H locs ls hm; exact absurd hm (Nat.not_lt_zero _)
    | succ N20 ihN20 =>
      intro y16 y17 F18 H locs ls hN20 hy16 hy17 hP hD hS hl
      refine lv_iload_n hx hb dX2_fewestMinutes_5 rfl (lv_at hl 0 rfl) ?_
      refine lv_aload_n hx hb dX2_fewestMinutes_6 rfl (lv_at hl 2 rfl) ?_
      refine va_get (D := D) (ci := 2) (v := .ref q_1) (C := RX2) (T := TX2) (N := 14) hx hb hts inX2 hown hK hP 0 rfl rfl 1 (by decide) (hts _ kF_X2_48) (fun _ h9 => h9) rfl dX2_fewestMinutes_7 ?_
      refine va_get (D := D) (ci := 4) (v := .int x_8) (C := RX4) (T := TX4) (N := 13) hx hb hts inX4 hown hK hP 1 rfl rfl 5 (by decide) (hts _ kF_X2_97) (fun _ h9 => h9) rfl dX2_fewestMinutes_10 ?_
      refine lv_icmp_ge (tgt := 180) hx hb dX2_fewestMinutes_13 (by decide) (fun c21 => ?_) (fun c21 => ?_)
      · refine lv_iload_n hx hb dX2_fewestMinutes_180 rfl (lv_at hl 1 rfl) ?_
        exact z_iret C0 hr hlk rfl hK hP hD hS (0, fun _ => 0, fun _ => 0, fun _ => 0, fun i => [F18].getD i (fun _ => 0), fun _ => (fun _ => 0), fun _ => (fun _ => none)) ⟨rfl, (by revert hy17; simp only [vp_in_iff, Int32.lt_iff_toInt_lt, Int32.le_iff_toInt_le, Int64.lt_iff_toInt_lt, Int64.le_iff_toInt_le, Int32.toInt_toInt64, ← Int32.toInt_inj, ← Int64.toInt_inj, Int32.reduceToInt, Int64.reduceToInt] <;> omega)⟩ [0, 1, 2, 3, 4, 5] rfl rfl rfl dX2_fewestMinutes_181
      · refine lv_iload_n hx hb dX2_fewestMinutes_16 rfl (lv_at hl 3 rfl) ?_
        refine lv_iconst (v := 1) hx hb dX2_fewestMinutes_17 (by decide) ?_
        refine lv_iload_n hx hb dX2_fewestMinutes_18 rfl (lv_at hl 0 rfl) ?_
        refine lv_ishl hx hb dX2_fewestMinutes_19 ?_
        refine lv_topi (fun y22 ey22 => ?_)
        have hy22 : 1 ≤ Int32.toInt y22 ∧ Int32.toInt y22 ≤ 256 := by rw [ey22]; exact zo_shl1 8 (show 0 ≤ Int32.toInt y16 ∧ Int32.toInt y16 ≤ 8 by revert hN20 hy16 c21 h_x_8; simp only [vp_in_iff, Int32.lt_iff_toInt_lt, Int32.le_iff_toInt_le, Int64.lt_iff_toInt_lt, Int64.le_iff_toInt_le, Int32.toInt_toInt64, ← Int32.toInt_inj, ← Int64.toInt_inj, Int32.reduceToInt, Int64.reduceToInt] <;> omega) (by decide)
        refine lv_ixor hx hb dX2_fewestMinutes_20 ?_
        refine lv_topi (fun y23 ey23 => ?_)
        have hy23 : 0 ≤ Int32.toInt y23 ∧ Int32.toInt y23 ≤ 511 := by rw [ey23]; exact zo_xor 9 (show 0 ≤ Int32.toInt x_0 ∧ Int32.toInt x_0 < 2 ^ 9 by revert h_x_0 hy22; simp only [vp_in_iff, Int32.lt_iff_toInt_lt, Int32.le_iff_toInt_le, Int64.lt_iff_toInt_lt, Int64.le_iff_toInt_le, Int32.toInt_toInt64, ← Int32.toInt_inj, ← Int64.toInt_inj, Int32.reduceToInt, Int64.reduceToInt] <;> omega) (show 0 ≤ Int32.toInt y22 ∧ Int32.toInt y22 < 2 ^ 9 by revert h_x_0 hy22; simp only [vp_in_iff, Int32.lt_iff_toInt_lt, Int32.le_iff_toInt_le, Int64.lt_iff_toInt_lt, Int64.le_iff_toInt_le, Int32.toInt_toInt64, ← Int32.toInt_inj, ← Int64.toInt_inj, Int32.reduceToInt, Int64.reduceToInt] <;> omega) (by decide)
        refine lv_istore (lv' := [(4, .int y23), (3, .int y16), (2, .int y17), (0, .ref q_0), (1, .int x_0)]) hx hb dX2_fewestMinutes_21 hl (by decide) rfl (fun ls hl => ?_)
        refine lv_iload hx hb dX2_fewestMinutes_23 (lv_at hl 0 rfl) ?_
        refine lv_iload_n hx hb dX2_fewestMinutes_25 rfl (lv_at hl 4 rfl) ?_
        refine lv_icmp_le (tgt := 32) hx hb dX2_fewestMinutes_26 (by decide) (fun c24 => ?_) (fun c24 => ?_)
        · refine lv_iload hx hb dX2_fewestMinutes_32 (lv_at hl 0 rfl) ?_
          refine lv_if_ne (tgt := 46) hx hb dX2_fewestMinutes_34 (by decide) (fun c25 => ?_) (fun c25 => ?_)
          · refine lv_ldc hx hb hown (hts _ kK_X2_121) dX2_fewestMinutes_46 ?_
            refine lv_istore (lv' := [(5, .int 1000000), (4, .int y23), (3, .int y16), (2, .int y17), (0, .ref q_0), (1, .int x_0)]) hx hb dX2_fewestMinutes_48 hl (by decide) rfl (fun ls hl => ?_)
            refine lv_iload hx hb dX2_fewestMinutes_50 (lv_at hl 1 rfl) ?_
            refine lv_istore (lv' := [(6, .int y23), (5, .int 1000000), (4, .int y23), (3, .int y16), (2, .int y17), (0, .ref q_0), (1, .int x_0)]) hx hb dX2_fewestMinutes_52 hl (by decide) rfl (fun ls hl => ?_)
            refine lv_iconst (v := 0) hx hb dX2_fewestMinutes_54 (by decide) ?_
            refine lv_istore (lv' := [(7, .int 0), (6, .int y23), (5, .int 1000000), (4, .int y23), (3, .int y16), (2, .int y17), (0, .ref q_0), (1, .int x_0)]) hx hb dX2_fewestMinutes_55 hl (by decide) rfl (fun ls hl => ?_)
            have loop44 : ∀ (N45 : Nat) (y41 : Int32) (y42 : Int32) (y43 : Int32) (H : Heap) (locs : List Loc) (ls : Array Slot), Int.toNat (9 - Int32.toInt y41) < N45 → 0 ≤ Int32.toInt y41 ∧ Int32.toInt y41 ≤ 9 → va_P D vwCl [(q_0, .inr (2, [.ref q_6, .ref q_1, .ref q_7, .int x_1, .int x_2, .ref q_8, .ref q_9, .ref q_10, .int x_3, .int x_4, .int x_5, .ref q_3, .ref q_5, .ref q_2])), (q_1, .inr (4, [.int x_6, .ref q_11, .int x_7, .ref q_12, .ref q_13, .int x_8, .ref q_14, .ref q_4, .ref q_15, .int x_9, .ref q_16, .ref q_17, .ref q_18])), (q_2, .inl (k 0, 4608, .inl F18)), (q_3, .inl (k 0, 81, .inl f_11)), (q_4, .inl (k 0, 9, .inl f_12)), (q_5, .inl (k 0, 9, .inl f_13))] H → va_D A [(q_0, .inr (2, [.ref q_6, .ref q_1, .ref q_7, .int x_1, .int x_2, .ref q_8, .ref q_9, .ref q_10, .int x_3, .int x_4, .int x_5, .ref q_3, .ref q_5, .ref q_2])), (q_1, .inr (4, [.int x_6, .ref q_11, .int x_7, .ref q_12, .ref q_13, .int x_8, .ref q_14, .ref q_4, .ref q_15, .int x_9, .ref q_16, .ref q_17, .ref q_18])), (q_2, .inl (k 0, 4608, .inl F18)), (q_3, .inl (k 0, 81, .inl f_11)), (q_4, .inl (k 0, 9, .inl f_12)), (q_5, .inl (k 0, 9, .inl f_13))] → va_S A s.heap H locs → lv_has ls 9 [(7, .int y41), (6, .int y42), (5, .int y43), (4, .int y23), (3, .int y16), (2, .int y17), (0, .ref q_0), (1, .int x_0)] → W p l e { frames := 1, cells := 0, slots := 0, locals := 40 } s m args below meth c H locs 0 0 (MQ below (va_Qi (fun (r : Int32) (u : zS) => u.1 = 0 ∧ ((-2147483648) ≤ Int32.toInt r ∧ Int32.toInt r ≤ 1000000)) (zB D k A (fun (u : zS) => [(q_0, .inr (2, [.ref q_6, .ref q_1, .ref q_7, .int x_1, .int x_2, .ref q_8, .ref q_9, .ref q_10, .int x_3, .int x_4, .int x_5, .ref q_3, .ref q_5, .ref q_2])), (q_1, .inr (4, [.int x_6, .ref q_11, .int x_7, .ref q_12, .ref q_13, .int x_8, .ref q_14, .ref q_4, .ref q_15, .int x_9, .ref q_16, .ref q_17, .ref q_18])), (q_2, .inl (k 0, 4608, .inl (u.2.2.2.2.1 0))), (q_3, .inl (k 0, 81, .inl f_11)), (q_4, .inl (k 0, 9, .inl f_12)), (q_5, .inl (k 0, 9, .inl f_13))])) A) args s 0 0 A) (F0 m 57 ls []) := by
              intro N45
              induction N45 with
              | zero => intro y41 y42 y43 H locs ls hm; exact absurd hm (Nat.not_lt_zero _)
              | succ N45 ihN45 =>
                intro y41 y42 y43 H locs ls hN45 hy41 hP hD hS hl
                refine lv_iload hx hb dX2_fewestMinutes_57 (lv_at hl 0 rfl) ?_
                refine lv_bipush (v := 9) hx hb dX2_fewestMinutes_59 (by decide) ?_
                refine lv_icmp_ge (tgt := 133) hx hb dX2_fewestMinutes_61 (by decide) (fun c46 => ?_) (fun c46 => ?_)
                · refine lv_iload hx hb dX2_fewestMinutes_133 (lv_at hl 2 rfl) ?_
                  refine lv_aload_n hx hb dX2_fewestMinutes_135 rfl (lv_at hl 6 rfl) ?_
                  refine va_get (D := D) (ci := 2) (v := .ref q_1) (C := RX2) (T := TX2) (N := 14) hx hb hts inX2 hown hK hP 0 rfl rfl 1 (by decide) (hts _ kF_X2_48) (fun _ h9 => h9) rfl dX2_fewestMinutes_136 ?_
                  refine va_get (D := D) (ci := 4) (v := .ref q_4) (C := RX4) (T := TX4) (N := 13) hx hb hts inX4 hown hK hP 1 rfl rfl 7 (by decide) (hts _ kF_X2_122) (fun _ h9 => h9) rfl dX2_fewestMinutes_139 ?_
                  refine lv_iload_n hx hb dX2_fewestMinutes_142 rfl (lv_at hl 4 rfl) ?_
                  refine va_iald hx hb hK hP 4 0 rfl rfl (by revert hN20 hy16 c21 h_x_8; simp only [vp_in_iff, Int32.lt_iff_toInt_lt, Int32.le_iff_toInt_le, Int64.lt_iff_toInt_lt, Int64.le_iff_toInt_le, Int32.toInt_toInt64, ← Int32.toInt_inj, ← Int64.toInt_inj, Int32.reduceToInt, Int64.reduceToInt] <;> omega) dX2_fewestMinutes_143 ?_
                  refine lv_topi (fun y47 ey47 => ?_)
                  refine lv_iadd hx hb dX2_fewestMinutes_144 ?_
                  refine lv_istore (lv' := [(7, .int (y43 + y47)), (6, .int y42), (5, .int y43), (4, .int y23), (3, .int y16), (2, .int y17), (0, .ref q_0), (1, .int x_0)]) hx hb dX2_fewestMinutes_145 hl (by decide) rfl (fun ls hl => ?_)
                  refine lv_aload_n hx hb dX2_fewestMinutes_147 rfl (lv_at hl 6 rfl) ?_
                  refine va_get (D := D) (ci := 2) (v := .ref q_2) (C := RX2) (T := TX2) (N := 14) hx hb hts inX2 hown hK hP 0 rfl rfl 13 (by decide) (hts _ kF_X2_34) (fun _ h9 => h9) rfl dX2_fewestMinutes_148 ?_
                  refine lv_iload_n hx hb dX2_fewestMinutes_151 rfl (lv_at hl 7 rfl) ?_
                  refine lv_bipush (v := 9) hx hb dX2_fewestMinutes_152 (by decide) ?_
                  refine lv_imul hx hb dX2_fewestMinutes_154 ?_
                  have e48 : Int32.toInt (x_0 * 9) = Int32.toInt x_0 * Int32.toInt (9 : Int32) := zi_mul (by revert h_x_0 c24 c25 hy23; simp only [vp_in_iff, Int32.lt_iff_toInt_lt, Int32.le_iff_toInt_le, Int64.lt_iff_toInt_lt, Int64.le_iff_toInt_le, Int32.toInt_toInt64, ← Int32.toInt_inj, ← Int64.toInt_inj, Int32.reduceToInt, Int64.reduceToInt] <;> omega)
                  refine lv_iload_n hx hb dX2_fewestMinutes_155 rfl (lv_at hl 4 rfl) ?_
                  refine lv_iadd hx hb dX2_fewestMinutes_156 ?_
                  have e49 : Int32.toInt ((x_0 * 9) + y16) = Int32.toInt (x_0 * 9) + Int32.toInt y16 := zi_add (by revert h_x_0 hN20 hy16 c21 c24 c25 e48 h_x_8 hy23; simp only [vp_in_iff, Int32.lt_iff_toInt_lt, Int32.le_iff_toInt_le, Int64.lt_iff_toInt_lt, Int64.le_iff_toInt_le, Int32.toInt_toInt64, ← Int32.toInt_inj, ← Int64.toInt_inj, Int32.reduceToInt, Int64.reduceToInt] <;> omega)
                  refine lv_iload hx hb dX2_fewestMinutes_157 (lv_at hl 0 rfl) ?_
                  refine va_iast hx hb hK hP hD hS 2 0 rfl rfl (by revert h_x_0 hN20 hy16 c21 c24 c25 e48 e49 h_x_8 hy23; simp only [vp_in_iff, Int32.lt_iff_toInt_lt, Int32.le_iff_toInt_le, Int64.lt_iff_toInt_lt, Int64.le_iff_toInt_le, Int32.toInt_toInt64, ← Int32.toInt_inj, ← Int64.toInt_inj, Int32.reduceToInt, Int64.reduceToInt] <;> omega) dX2_fewestMinutes_159 (fun H locs hP hD hS => ?_)
                  obtain ⟨F50, eF50⟩ : ∃ q, q = upd F18 (Int32.toNatClampNeg ((x_0 * 9) + y16)) (y43 + y47) := ⟨_, rfl⟩
                  have hP : va_P D vwCl [(q_0, .inr (2, [.ref q_6, .ref q_1, .ref q_7, .int x_1, .int x_2, .ref q_8, .ref q_9, .ref q_10, .int x_3, .int x_4, .int x_5, .ref q_3, .ref q_5, .ref q_2])), (q_1, .inr (4, [.int x_6, .ref q_11, .int x_7, .ref q_12, .ref q_13, .int x_8, .ref q_14, .ref q_4, .ref q_15, .int x_9, .ref q_16, .ref q_17, .ref q_18])), (q_2, .inl (k 0, 4608, .inl F50)), (q_3, .inl (k 0, 81, .inl f_11)), (q_4, .inl (k 0, 9, .inl f_12)), (q_5, .inl (k 0, 9, .inl f_13))] H := by rw [eF50]; exact hP
                  have hD : va_D A [(q_0, .inr (2, [.ref q_6, .ref q_1, .ref q_7, .int x_1, .int x_2, .ref q_8, .ref q_9, .ref q_10, .int x_3, .int x_4, .int x_5, .ref q_3, .ref q_5, .ref q_2])), (q_1, .inr (4, [.int x_6, .ref q_11, .int x_7, .ref q_12, .ref q_13, .int x_8, .ref q_14, .ref q_4, .ref q_15, .int x_9, .ref q_16, .ref q_17, .ref q_18])), (q_2, .inl (k 0, 4608, .inl F50)), (q_3, .inl (k 0, 81, .inl f_11)), (q_4, .inl (k 0, 9, .inl f_12)), (q_5, .inl (k 0, 9, .inl f_13))] := by rw [eF50]; exact hD
                  refine lv_iload_n hx hb dX2_fewestMinutes_160 rfl (lv_at hl 5 rfl) ?_
                  refine lv_iload hx hb dX2_fewestMinutes_161 (lv_at hl 0 rfl) ?_
                  refine lv_aload_n hx hb dX2_fewestMinutes_163 rfl (lv_at hl 6 rfl) ?_
                  refine va_get (D := D) (ci := 2) (v := .ref q_5) (C := RX2) (T := TX2) (N := 14) hx hb hts inX2 hown hK hP 0 rfl rfl 12 (by decide) (hts _ kF_X2_31) (fun _ h9 => h9) rfl dX2_fewestMinutes_164 ?_
                  refine lv_iload_n hx hb dX2_fewestMinutes_167 rfl (lv_at hl 4 rfl) ?_
                  refine va_iald hx hb hK hP 5 0 rfl rfl (by revert hN20 hy16 c21 e49 h_x_0 h_x_8 c24 c25 e48 hy23; simp only [vp_in_iff, Int32.lt_iff_toInt_lt, Int32.le_iff_toInt_le, Int64.lt_iff_toInt_lt, Int64.le_iff_toInt_le, Int32.toInt_toInt64, ← Int32.toInt_inj, ← Int64.toInt_inj, Int32.reduceToInt, Int64.reduceToInt] <;> omega) dX2_fewestMinutes_168 ?_
                  refine lv_topi (fun y51 ey51 => ?_)
                  refine lv_iadd hx hb dX2_fewestMinutes_169 ?_
                  refine va_mmin hx hb (by rw [hml]; exact hl.1.symm) hown (hts _ kminL_X2_125) (hts _ kminS) (hts _ kZ_J9) (hts _ kminC) (Nat.le_of_ble_eq_true rfl) (Nat.le_of_ble_eq_true rfl) (Nat.le_of_ble_eq_true rfl) (Nat.le_of_ble_eq_true rfl) dX2_fewestMinutes_170 ?_
                  refine lv_topi (fun y52 ey52 => ?_)
                  have hy52 := zo_min y17 ((y43 + y47) + y51)
                  rw [← ey52] at hy52
                  refine lv_istore_n (lv' := [(2, .int y52), (7, .int (y43 + y47)), (6, .int y42), (5, .int y43), (4, .int y23), (3, .int y16), (0, .ref q_0), (1, .int x_0)]) hx hb dX2_fewestMinutes_173 rfl hl (by decide) rfl (fun ls hl => ?_)
                  have e53 : Int32.toInt (y16 + 1) = Int32.toInt y16 + Int32.toInt (1 : Int32) := zi_add (by revert hN20 hy16 c21 e49 h_x_0 h_x_8 c24 c25 e48 hy23; simp only [vp_in_iff, Int32.lt_iff_toInt_lt, Int32.le_iff_toInt_le, Int64.lt_iff_toInt_lt, Int64.le_iff_toInt_le, Int32.toInt_toInt64, ← Int32.toInt_inj, ← Int64.toInt_inj, Int32.reduceToInt, Int64.reduceToInt] <;> omega)
                  refine lv_iinc (v := (y16 + 1)) (lv' := [(3, .int (y16 + 1)), (2, .int y52), (7, .int (y43 + y47)), (6, .int y42), (5, .int y43), (4, .int y23), (0, .ref q_0), (1, .int x_0)]) hx hb dX2_fewestMinutes_174 hl (k := 5) rfl rfl (by decide) rfl (fun ls hl => ?_)
                  refine lv_goto (tgt := 5) hx hb dX2_fewestMinutes_177 (by decide) ?_
                  exact ihN20 (y16 + 1) y52 F50 _ _ ls (by revert hN20 hy16 c21 e49 e53 h_x_0 h_x_8 c24 c25 e48 hy23; simp only [vp_in_iff, Int32.lt_iff_toInt_lt, Int32.le_iff_toInt_le, Int64.lt_iff_toInt_lt, Int64.le_iff_toInt_le, Int32.toInt_toInt64, ← Int32.toInt_inj, ← Int64.toInt_inj, Int32.reduceToInt, Int64.reduceToInt] <;> omega) (by revert hN20 hy16 c21 e49 e53 h_x_0 h_x_8 c24 c25 e48 hy23; simp only [vp_in_iff, Int32.lt_iff_toInt_lt, Int32.le_iff_toInt_le, Int64.lt_iff_toInt_lt, Int64.le_iff_toInt_le, Int32.toInt_toInt64, ← Int32.toInt_inj, ← Int64.toInt_inj, Int32.reduceToInt, Int64.reduceToInt] <;> omega) (by revert hy17 hy52; simp only [vp_in_iff, Int32.lt_iff_toInt_lt, Int32.le_iff_toInt_le, Int64.lt_iff_toInt_lt, Int64.le_iff_toInt_le, Int32.toInt_toInt64, ← Int32.toInt_inj, ← Int64.toInt_inj, Int32.reduceToInt, Int64.reduceToInt] <;> omega) hP hD hS (lv_sub hl [0, 1, 6, 7] rfl)
                · refine lv_iload hx hb dX2_fewestMinutes_64 (lv_at hl 1 rfl) ?_
                  refine lv_if_eq (tgt := 133) hx hb dX2_fewestMinutes_66 (by decide) (fun c54 => ?_) (fun c54 => ?_)
                  · refine lv_iload hx hb dX2_fewestMinutes_133 (lv_at hl 2 rfl) ?_
                    refine lv_aload_n hx hb dX2_fewestMinutes_135 rfl (lv_at hl 6 rfl) ?_
                    refine va_get (D := D) (ci := 2) (v := .ref q_1) (C := RX2) (T := TX2) (N := 14) hx hb hts inX2 hown hK hP 0 rfl rfl 1 (by decide) (hts _ kF_X2_48) (fun _ h9 => h9) rfl dX2_fewestMinutes_136 ?_
                    refine va_get (D := D) (ci := 4) (v := .ref q_4) (C := RX4) (T := TX4) (N := 13) hx hb hts inX4 hown hK hP 1 rfl rfl 7 (by decide) (hts _ kF_X2_122) (fun _ h9 => h9) rfl dX2_fewestMinutes_139 ?_
                    refine lv_iload_n hx hb dX2_fewestMinutes_142 rfl (lv_at hl 4 rfl) ?_
                    refine va_iald hx hb hK hP 4 0 rfl rfl (by revert hN20 hy16 c21 h_x_8; simp only [vp_in_iff, Int32.lt_iff_toInt_lt, Int32.le_iff_toInt_le, Int64.lt_iff_toInt_lt, Int64.le_iff_toInt_le, Int32.toInt_toInt64, ← Int32.toInt_inj, ← Int64.toInt_inj, Int32.reduceToInt, Int64.reduceToInt] <;> omega) dX2_fewestMinutes_143 ?_
                    refine lv_topi (fun y55 ey55 => ?_)
                    refine lv_iadd hx hb dX2_fewestMinutes_144 ?_
                    refine lv_istore (lv' := [(7, .int (y43 + y55)), (6, .int y42), (5, .int y43), (4, .int y23), (3, .int y16), (2, .int y17), (0, .ref q_0), (1, .int x_0)]) hx hb dX2_fewestMinutes_145 hl (by decide) rfl (fun ls hl => ?_)
                    refine lv_aload_n hx hb dX2_fewestMinutes_147 rfl (lv_at hl 6 rfl) ?_
                    refine va_get (D := D) (ci := 2) (v := .ref q_2) (C := RX2) (T := TX2) (N := 14) hx hb hts inX2 hown hK hP 0 rfl rfl 13 (by decide) (hts _ kF_X2_34) (fun _ h9 => h9) rfl dX2_fewestMinutes_148 ?_
                    refine lv_iload_n hx hb dX2_fewestMinutes_151 rfl (lv_at hl 7 rfl) ?_
                    refine lv_bipush (v := 9) hx hb dX2_fewestMinutes_152 (by decide) ?_
                    refine lv_imul hx hb dX2_fewestMinutes_154 ?_
                    have e56 : Int32.toInt (x_0 * 9) = Int32.toInt x_0 * Int32.toInt (9 : Int32) := zi_mul (by revert h_x_0 c24 c25 hy23; simp only [vp_in_iff, Int32.lt_iff_toInt_lt, Int32.le_iff_toInt_le, Int64.lt_iff_toInt_lt, Int64.le_iff_toInt_le, Int32.toInt_toInt64, ← Int32.toInt_inj, ← Int64.toInt_inj, Int32.reduceToInt, Int64.reduceToInt] <;> omega)
                    refine lv_iload_n hx hb dX2_fewestMinutes_155 rfl (lv_at hl 4 rfl) ?_
                    refine lv_iadd hx hb dX2_fewestMinutes_156 ?_
                    have e57 : Int32.toInt ((x_0 * 9) + y16) = Int32.toInt (x_0 * 9) + Int32.toInt y16 := zi_add (by revert h_x_0 hN20 hy16 c21 c24 c25 e56 h_x_8 hy23; simp only [vp_in_iff, Int32.lt_iff_toInt_lt, Int32.le_iff_toInt_le, Int64.lt_iff_toInt_lt, Int64.le_iff_toInt_le, Int32.toInt_toInt64, ← Int32.toInt_inj, ← Int64.toInt_inj, Int32.reduceToInt, Int64.reduceToInt] <;> omega)
                    refine lv_iload hx hb dX2_fewestMinutes_157 (lv_at hl 0 rfl) ?_
                    refine va_iast hx hb hK hP hD hS 2 0 rfl rfl (by revert h_x_0 hN20 hy16 c21 c24 c25 e56 e57 h_x_8 hy23; simp only [vp_in_iff, Int32.lt_iff_toInt_lt, Int32.le_iff_toInt_le, Int64.lt_iff_toInt_lt, Int64.le_iff_toInt_le, Int32.toInt_toInt64, ← Int32.toInt_inj, ← Int64.toInt_inj, Int32.reduceToInt, Int64.reduceToInt] <;> omega) dX2_fewestMinutes_159 (fun H locs hP hD hS => ?_)
                    obtain ⟨F58, eF58⟩ : ∃ q, q = upd F18 (Int32.toNatClampNeg ((x_0 * 9) + y16)) (y43 + y55) := ⟨_, rfl⟩
                    have hP : va_P D vwCl [(q_0, .inr (2, [.ref q_6, .ref q_1, .ref q_7, .int x_1, .int x_2, .ref q_8, .ref q_9, .ref q_10, .int x_3, .int x_4, .int x_5, .ref q_3, .ref q_5, .ref q_2])), (q_1, .inr (4, [.int x_6, .ref q_11, .int x_7, .ref q_12, .ref q_13, .int x_8, .ref q_14, .ref q_4, .ref q_15, .int x_9, .ref q_16, .ref q_17, .ref q_18])), (q_2, .inl (k 0, 4608, .inl F58)), (q_3, .inl (k 0, 81, .inl f_11)), (q_4, .inl (k 0, 9, .inl f_12)), (q_5, .inl (k 0, 9, .inl f_13))] H := by rw [eF58]; exact hP
                    have hD : va_D A [(q_0, .inr (2, [.ref q_6, .ref q_1, .ref q_7, .int x_1, .int x_2, .ref q_8, .ref q_9, .ref q_10, .int x_3, .int x_4, .int x_5, .ref q_3, .ref q_5, .ref q_2])), (q_1, .inr (4, [.int x_6, .ref q_11, .int x_7, .ref q_12, .ref q_13, .int x_8, .ref q_14, .ref q_4, .ref q_15, .int x_9, .ref q_16, .ref q_17, .ref q_18])), (q_2, .inl (k 0, 4608, .inl F58)), (q_3, .inl (k 0, 81, .inl f_11)), (q_4, .inl (k 0, 9, .inl f_12)), (q_5, .inl (k 0, 9, .inl f_13))] := by rw [eF58]; exact hD
                    refine lv_iload_n hx hb dX2_fewestMinutes_160 rfl (lv_at hl 5 rfl) ?_
                    refine lv_iload hx hb dX2_fewestMinutes_161 (lv_at hl 0 rfl) ?_
                    refine lv_aload_n hx hb dX2_fewestMinutes_163 rfl (lv_at hl 6 rfl) ?_
                    refine va_get (D := D) (ci := 2) (v := .ref q_5) (C := RX2) (T := TX2) (N := 14) hx hb hts inX2 hown hK hP 0 rfl rfl 12 (by decide) (hts _ kF_X2_31) (fun _ h9 => h9) rfl dX2_fewestMinutes_164 ?_
                    refine lv_iload_n hx hb dX2_fewestMinutes_167 rfl (lv_at hl 4 rfl) ?_
                    refine va_iald hx hb hK hP 5 0 rfl rfl (by revert hN20 hy16 c21 e57 h_x_0 h_x_8 c24 c25 e56 hy23; simp only [vp_in_iff, Int32.lt_iff_toInt_lt, Int32.le_iff_toInt_le, Int64.lt_iff_toInt_lt, Int64.le_iff_toInt_le, Int32.toInt_toInt64, ← Int32.toInt_inj, ← Int64.toInt_inj, Int32.reduceToInt, Int64.reduceToInt] <;> omega) dX2_fewestMinutes_168 ?_
                    refine lv_topi (fun y59 ey59 => ?_)
                    refine lv_iadd hx hb dX2_fewestMinutes_169 ?_
                    refine va_mmin hx hb (by rw [hml]; exact hl.1.symm) hown (hts _ kminL_X2_125) (hts _ kminS) (hts _ kZ_J9) (hts _ kminC) (Nat.le_of_ble_eq_true rfl) (Nat.le_of_ble_eq_true rfl) (Nat.le_of_ble_eq_true rfl) (Nat.le_of_ble_eq_true rfl) dX2_fewestMinutes_170 ?_
                    refine lv_topi (fun y60 ey60 => ?_)
                    have hy60 := zo_min y17 ((y43 + y55) + y59)
                    rw [← ey60] at hy60
                    refine lv_istore_n (lv' := [(2, .int y60), (7, .int (y43 + y55)), (6, .int y42), (5, .int y43), (4, .int y23), (3, .int y16), (0, .ref q_0), (1, .int x_0)]) hx hb dX2_fewestMinutes_173 rfl hl (by decide) rfl (fun ls hl => ?_)
                    have e61 : Int32.toInt (y16 + 1) = Int32.toInt y16 + Int32.toInt (1 : Int32) := zi_add (by revert hN20 hy16 c21 e57 h_x_0 h_x_8 c24 c25 e56 hy23; simp only [vp_in_iff, Int32.lt_iff_toInt_lt, Int32.le_iff_toInt_le, Int64.lt_iff_toInt_lt, Int64.le_iff_toInt_le, Int32.toInt_toInt64, ← Int32.toInt_inj, ← Int64.toInt_inj, Int32.reduceToInt, Int64.reduceToInt] <;> omega)
                    refine lv_iinc (v := (y16 + 1)) (lv' := [(3, .int (y16 + 1)), (2, .int y60), (7, .int (y43 + y55)), (6, .int y42), (5, .int y43), (4, .int y23), (0, .ref q_0), (1, .int x_0)]) hx hb dX2_fewestMinutes_174 hl (k := 5) rfl rfl (by decide) rfl (fun ls hl => ?_)
                    refine lv_goto (tgt := 5) hx hb dX2_fewestMinutes_177 (by decide) ?_
                    exact ihN20 (y16 + 1) y60 F58 _ _ ls (by revert hN20 hy16 c21 e57 e61 h_x_0 h_x_8 c24 c25 e56 hy23; simp only [vp_in_iff, Int32.lt_iff_toInt_lt, Int32.le_iff_toInt_le, Int64.lt_iff_toInt_lt, Int64.le_iff_toInt_le, Int32.toInt_toInt64, ← Int32.toInt_inj, ← Int64.toInt_inj, Int32.reduceToInt, Int64.reduceToInt] <;> omega) (by revert hN20 hy16 c21 e57 e61 h_x_0 h_x_8 c24 c25 e56 hy23; simp only [vp_in_iff, Int32.lt_iff_toInt_lt, Int32.le_iff_toInt_le, Int64.lt_iff_toInt_lt, Int64.le_iff_toInt_le, Int32.toInt_toInt64, ← Int32.toInt_inj, ← Int64.toInt_inj, Int32.reduceToInt, Int64.reduceToInt] <;> omega) (by revert hy17 hy60; simp only [vp_in_iff, Int32.lt_iff_toInt_lt, Int32.le_iff_toInt_le, Int64.lt_iff_toInt_lt, Int64.le_iff_toInt_le, Int32.toInt_toInt64, ← Int32.toInt_inj, ← Int64.toInt_inj, Int32.reduceToInt, Int64.reduceToInt] <;> omega) hP hD hS (lv_sub hl [0, 1, 6, 7] rfl)
                  · refine lv_iload hx hb dX2_fewestMinutes_69 (lv_at hl 1 rfl) ?_
                    refine lv_iconst (v := 1) hx hb dX2_fewestMinutes_71 (by decide) ?_
                    refine lv_iand hx hb dX2_fewestMinutes_72 ?_
                    refine lv_topi (fun y62 ey62 => ?_)
                    have hy62 : 0 ≤ Int32.toInt y62 ∧ Int32.toInt y62 ≤ 1 := by rw [ey62]; exact zo_and _ (by decide)
                    refine lv_iconst (v := 1) hx hb dX2_fewestMinutes_73 (by decide) ?_
                    refine lv_icmp_ne (tgt := 121) hx hb dX2_fewestMinutes_74 (by decide) (fun c63 => ?_) (fun c63 => ?_)
                    · refine lv_iload hx hb dX2_fewestMinutes_121 (lv_at hl 1 rfl) ?_
                      refine lv_iconst (v := 1) hx hb dX2_fewestMinutes_123 (by decide) ?_
                      refine lv_ishr hx hb dX2_fewestMinutes_124 ?_
                      refine lv_topi (fun y64 ey64 => ?_)
                      refine lv_istore (lv' := [(6, .int y64), (7, .int y41), (5, .int y43), (4, .int y23), (3, .int y16), (2, .int y17), (0, .ref q_0), (1, .int x_0)]) hx hb dX2_fewestMinutes_125 hl (by decide) rfl (fun ls hl => ?_)
                      have e65 : Int32.toInt (y41 + 1) = Int32.toInt y41 + Int32.toInt (1 : Int32) := zi_add (by revert hN45 hy41 c46; simp only [vp_in_iff, Int32.lt_iff_toInt_lt, Int32.le_iff_toInt_le, Int64.lt_iff_toInt_lt, Int64.le_iff_toInt_le, Int32.toInt_toInt64, ← Int32.toInt_inj, ← Int64.toInt_inj, Int32.reduceToInt, Int64.reduceToInt] <;> omega)
                      refine lv_iinc (v := (y41 + 1)) (lv' := [(7, .int (y41 + 1)), (6, .int y64), (5, .int y43), (4, .int y23), (3, .int y16), (2, .int y17), (0, .ref q_0), (1, .int x_0)]) hx hb dX2_fewestMinutes_127 hl (k := 1) rfl rfl (by decide) rfl (fun ls hl => ?_)
                      refine lv_goto (tgt := 57) hx hb dX2_fewestMinutes_130 (by decide) ?_
                      exact ihN45 (y41 + 1) y64 y43 _ _ ls (by revert hN45 hy41 c46 e65; simp only [vp_in_iff, Int32.lt_iff_toInt_lt, Int32.le_iff_toInt_le, Int64.lt_iff_toInt_lt, Int64.le_iff_toInt_le, Int32.toInt_toInt64, ← Int32.toInt_inj, ← Int64.toInt_inj, Int32.reduceToInt, Int64.reduceToInt] <;> omega) (by revert hN45 hy41 c46 e65; simp only [vp_in_iff, Int32.lt_iff_toInt_lt, Int32.le_iff_toInt_le, Int64.lt_iff_toInt_lt, Int64.le_iff_toInt_le, Int32.toInt_toInt64, ← Int32.toInt_inj, ← Int64.toInt_inj, Int32.reduceToInt, Int64.reduceToInt] <;> omega) hP hD hS (lv_sub hl [0, 1, 2, 3, 4, 5, 6, 7] rfl)
                    · refine lv_aload_n hx hb dX2_fewestMinutes_77 rfl (lv_at hl 6 rfl) ?_
                      refine va_get (D := D) (ci := 2) (v := .ref q_2) (C := RX2) (T := TX2) (N := 14) hx hb hts inX2 hown hK hP 0 rfl rfl 13 (by decide) (hts _ kF_X2_34) (fun _ h9 => h9) rfl dX2_fewestMinutes_78 ?_
                      refine lv_iload hx hb dX2_fewestMinutes_81 (lv_at hl 3 rfl) ?_
                      refine lv_bipush (v := 9) hx hb dX2_fewestMinutes_83 (by decide) ?_
                      refine lv_imul hx hb dX2_fewestMinutes_85 ?_
                      have e66 : Int32.toInt (y23 * 9) = Int32.toInt y23 * Int32.toInt (9 : Int32) := zi_mul (by revert hy23 c24 c25 h_x_0; simp only [vp_in_iff, Int32.lt_iff_toInt_lt, Int32.le_iff_toInt_le, Int64.lt_iff_toInt_lt, Int64.le_iff_toInt_le, Int32.toInt_toInt64, ← Int32.toInt_inj, ← Int64.toInt_inj, Int32.reduceToInt, Int64.reduceToInt] <;> omega)
                      refine lv_iload hx hb dX2_fewestMinutes_86 (lv_at hl 0 rfl) ?_
                      refine lv_iadd hx hb dX2_fewestMinutes_88 ?_
                      have e67 : Int32.toInt ((y23 * 9) + y41) = Int32.toInt (y23 * 9) + Int32.toInt y41 := zi_add (by revert hy23 c24 c25 hN45 hy41 c46 e66 h_x_0; simp only [vp_in_iff, Int32.lt_iff_toInt_lt, Int32.le_iff_toInt_le, Int64.lt_iff_toInt_lt, Int64.le_iff_toInt_le, Int32.toInt_toInt64, ← Int32.toInt_inj, ← Int64.toInt_inj, Int32.reduceToInt, Int64.reduceToInt] <;> omega)
                      refine va_iald hx hb hK hP 2 0 rfl rfl (by revert hy23 c24 c25 hN45 hy41 c46 e66 e67 h_x_0; simp only [vp_in_iff, Int32.lt_iff_toInt_lt, Int32.le_iff_toInt_le, Int64.lt_iff_toInt_lt, Int64.le_iff_toInt_le, Int32.toInt_toInt64, ← Int32.toInt_inj, ← Int64.toInt_inj, Int32.reduceToInt, Int64.reduceToInt] <;> omega) dX2_fewestMinutes_89 ?_
                      refine lv_topi (fun y68 ey68 => ?_)
                      refine lv_aload_n hx hb dX2_fewestMinutes_90 rfl (lv_at hl 6 rfl) ?_
                      refine va_get (D := D) (ci := 2) (v := .ref q_3) (C := RX2) (T := TX2) (N := 14) hx hb hts inX2 hown hK hP 0 rfl rfl 11 (by decide) (hts _ kF_X2_28) (fun _ h9 => h9) rfl dX2_fewestMinutes_91 ?_
                      refine lv_iload hx hb dX2_fewestMinutes_94 (lv_at hl 0 rfl) ?_
                      refine lv_bipush (v := 9) hx hb dX2_fewestMinutes_96 (by decide) ?_
                      refine lv_imul hx hb dX2_fewestMinutes_98 ?_
                      have e69 : Int32.toInt (y41 * 9) = Int32.toInt y41 * Int32.toInt (9 : Int32) := zi_mul (by revert hN45 hy41 c46 e67 hy23 c24 c25 e66 h_x_0; simp only [vp_in_iff, Int32.lt_iff_toInt_lt, Int32.le_iff_toInt_le, Int64.lt_iff_toInt_lt, Int64.le_iff_toInt_le, Int32.toInt_toInt64, ← Int32.toInt_inj, ← Int64.toInt_inj, Int32.reduceToInt, Int64.reduceToInt] <;> omega)
                      refine lv_iload_n hx hb dX2_fewestMinutes_99 rfl (lv_at hl 4 rfl) ?_
                      refine lv_iadd hx hb dX2_fewestMinutes_100 ?_
                      have e70 : Int32.toInt ((y41 * 9) + y16) = Int32.toInt (y41 * 9) + Int32.toInt y16 := zi_add (by revert hN20 hy16 c21 hN45 hy41 c46 e67 e69 h_x_8 hy23 c24 c25 e66 h_x_0; simp only [vp_in_iff, Int32.lt_iff_toInt_lt, Int32.le_iff_toInt_le, Int64.lt_iff_toInt_lt, Int64.le_iff_toInt_le, Int32.toInt_toInt64, ← Int32.toInt_inj, ← Int64.toInt_inj, Int32.reduceToInt, Int64.reduceToInt] <;> omega)
                      refine va_iald hx hb hK hP 3 0 rfl rfl (by revert hN20 hy16 c21 hN45 hy41 c46 e67 e69 e70 h_x_8 hy23 c24 c25 e66 h_x_0; simp only [vp_in_iff, Int32.lt_iff_toInt_lt, Int32.le_iff_toInt_le, Int64.lt_iff_toInt_lt, Int64.le_iff_toInt_le, Int32.toInt_toInt64, ← Int32.toInt_inj, ← Int64.toInt_inj, Int32.reduceToInt, Int64.reduceToInt] <;> omega) dX2_fewestMinutes_101 ?_
                      refine lv_topi (fun y71 ey71 => ?_)
                      refine lv_iadd hx hb dX2_fewestMinutes_102 ?_
                      refine lv_istore (lv' := [(8, .int (y68 + y71)), (7, .int y41), (6, .int y42), (5, .int y43), (4, .int y23), (3, .int y16), (2, .int y17), (0, .ref q_0), (1, .int x_0)]) hx hb dX2_fewestMinutes_103 hl (by decide) rfl (fun ls hl => ?_)
                      refine lv_iload hx hb dX2_fewestMinutes_105 (lv_at hl 0 rfl) ?_
                      refine lv_iload hx hb dX2_fewestMinutes_107 (lv_at hl 3 rfl) ?_
                      refine lv_icmp_ge (tgt := 117) hx hb dX2_fewestMinutes_109 (by decide) (fun c72 => ?_) (fun c72 => ?_)
                      · refine lv_iload hx hb dX2_fewestMinutes_117 (lv_at hl 3 rfl) ?_
                        refine lv_istore (lv' := [(5, .int y43), (8, .int (y68 + y71)), (7, .int y41), (6, .int y42), (4, .int y23), (3, .int y16), (2, .int y17), (0, .ref q_0), (1, .int x_0)]) hx hb dX2_fewestMinutes_119 hl (by decide) rfl (fun ls hl => ?_)
                        refine lv_iload hx hb dX2_fewestMinutes_121 (lv_at hl 3 rfl) ?_
                        refine lv_iconst (v := 1) hx hb dX2_fewestMinutes_123 (by decide) ?_
                        refine lv_ishr hx hb dX2_fewestMinutes_124 ?_
                        refine lv_topi (fun y73 ey73 => ?_)
                        refine lv_istore (lv' := [(6, .int y73), (5, .int y43), (8, .int (y68 + y71)), (7, .int y41), (4, .int y23), (3, .int y16), (2, .int y17), (0, .ref q_0), (1, .int x_0)]) hx hb dX2_fewestMinutes_125 hl (by decide) rfl (fun ls hl => ?_)
                        have e74 : Int32.toInt (y41 + 1) = Int32.toInt y41 + Int32.toInt (1 : Int32) := zi_add (by revert hN45 hy41 c46 e67 e69 e70 hN20 hy16 c21 hy23 c24 c25 e66 h_x_0 h_x_8; simp only [vp_in_iff, Int32.lt_iff_toInt_lt, Int32.le_iff_toInt_le, Int64.lt_iff_toInt_lt, Int64.le_iff_toInt_le, Int32.toInt_toInt64, ← Int32.toInt_inj, ← Int64.toInt_inj, Int32.reduceToInt, Int64.reduceToInt] <;> omega)
                        refine lv_iinc (v := (y41 + 1)) (lv' := [(7, .int (y41 + 1)), (6, .int y73), (5, .int y43), (8, .int (y68 + y71)), (4, .int y23), (3, .int y16), (2, .int y17), (0, .ref q_0), (1, .int x_0)]) hx hb dX2_fewestMinutes_127 hl (k := 3) rfl rfl (by decide) rfl (fun ls hl => ?_)
                        refine lv_goto (tgt := 57) hx hb dX2_fewestMinutes_130 (by decide) ?_
                        exact ihN45 (y41 + 1) y73 y43 _ _ ls (by revert hN45 hy41 c46 e67 e69 e70 e74 hN20 hy16 c21 hy23 c24 c25 e66 h_x_0 h_x_8; simp only [vp_in_iff, Int32.lt_iff_toInt_lt, Int32.le_iff_toInt_le, Int64.lt_iff_toInt_lt, Int64.le_iff_toInt_le, Int32.toInt_toInt64, ← Int32.toInt_inj, ← Int64.toInt_inj, Int32.reduceToInt, Int64.reduceToInt] <;> omega) (by revert hN45 hy41 c46 e67 e69 e70 e74 hN20 hy16 c21 hy23 c24 c25 e66 h_x_0 h_x_8; simp only [vp_in_iff, Int32.lt_iff_toInt_lt, Int32.le_iff_toInt_le, Int64.lt_iff_toInt_lt, Int64.le_iff_toInt_le, Int32.toInt_toInt64, ← Int32.toInt_inj, ← Int64.toInt_inj, Int32.reduceToInt, Int64.reduceToInt] <;> omega) hP hD hS (lv_sub hl [0, 1, 2, 4, 5, 6, 7, 8] rfl)
                      · refine lv_iload hx hb dX2_fewestMinutes_112 (lv_at hl 0 rfl) ?_
                        refine lv_goto (tgt := 119) hx hb dX2_fewestMinutes_114 (by decide) ?_
                        refine lv_istore (lv' := [(5, .int (y68 + y71)), (8, .int (y68 + y71)), (7, .int y41), (6, .int y42), (4, .int y23), (3, .int y16), (2, .int y17), (0, .ref q_0), (1, .int x_0)]) hx hb dX2_fewestMinutes_119 hl (by decide) rfl (fun ls hl => ?_)
                        refine lv_iload hx hb dX2_fewestMinutes_121 (lv_at hl 3 rfl) ?_
                        refine lv_iconst (v := 1) hx hb dX2_fewestMinutes_123 (by decide) ?_
                        refine lv_ishr hx hb dX2_fewestMinutes_124 ?_
                        refine lv_topi (fun y75 ey75 => ?_)
                        refine lv_istore (lv' := [(6, .int y75), (5, .int (y68 + y71)), (8, .int (y68 + y71)), (7, .int y41), (4, .int y23), (3, .int y16), (2, .int y17), (0, .ref q_0), (1, .int x_0)]) hx hb dX2_fewestMinutes_125 hl (by decide) rfl (fun ls hl => ?_)
                        have e76 : Int32.toInt (y41 + 1) = Int32.toInt y41 + Int32.toInt (1 : Int32) := zi_add (by revert hN45 hy41 c46 e67 e69 e70 hN20 hy16 c21 hy23 c24 c25 e66 h_x_0 h_x_8; simp only [vp_in_iff, Int32.lt_iff_toInt_lt, Int32.le_iff_toInt_le, Int64.lt_iff_toInt_lt, Int64.le_iff_toInt_le, Int32.toInt_toInt64, ← Int32.toInt_inj, ← Int64.toInt_inj, Int32.reduceToInt, Int64.reduceToInt] <;> omega)
                        refine lv_iinc (v := (y41 + 1)) (lv' := [(7, .int (y41 + 1)), (6, .int y75), (5, .int (y68 + y71)), (8, .int (y68 + y71)), (4, .int y23), (3, .int y16), (2, .int y17), (0, .ref q_0), (1, .int x_0)]) hx hb dX2_fewestMinutes_127 hl (k := 3) rfl rfl (by decide) rfl (fun ls hl => ?_)
                        refine lv_goto (tgt := 57) hx hb dX2_fewestMinutes_130 (by decide) ?_
                        exact ihN45 (y41 + 1) y75 (y68 + y71) _ _ ls (by revert hN45 hy41 c46 e67 e69 e70 e76 hN20 hy16 c21 hy23 c24 c25 e66 h_x_0 h_x_8; simp only [vp_in_iff, Int32.lt_iff_toInt_lt, Int32.le_iff_toInt_le, Int64.lt_iff_toInt_lt, Int64.le_iff_toInt_le, Int32.toInt_toInt64, ← Int32.toInt_inj, ← Int64.toInt_inj, Int32.reduceToInt, Int64.reduceToInt] <;> omega) (by revert hN45 hy41 c46 e67 e69 e70 e76 hN20 hy16 c21 hy23 c24 c25 e66 h_x_0 h_x_8; simp only [vp_in_iff, Int32.lt_iff_toInt_lt, Int32.le_iff_toInt_le, Int64.lt_iff_toInt_lt, Int64.le_iff_toInt_le, Int32.toInt_toInt64, ← Int32.toInt_inj, ← Int64.toInt_inj, Int32.reduceToInt, Int64.reduceToInt] <;> omega) hP hD hS (lv_sub hl [0, 1, 2, 4, 5, 6, 7, 8] rfl)
            exact loop44 _ 0 y23 1000000 _ _ _ (Nat.lt_succ_self _) (by simp only [vp_in_iff, Int32.lt_iff_toInt_lt, Int32.le_iff_toInt_le, Int64.lt_iff_toInt_lt, Int64.le_iff_toInt_le, Int32.toInt_toInt64, ← Int32.toInt_inj, ← Int64.toInt_inj, Int32.reduceToInt, Int64.reduceToInt] <;> omega) hP hD hS (lv_sub hl [0, 1, 2, 3, 4, 5, 6, 7] rfl)
          · refine lv_aload_n hx hb dX2_fewestMinutes_37 rfl (lv_at hl 3 rfl) ?_
            refine va_get (D := D) (ci := 2) (v := .ref q_5) (C := RX2) (T := TX2) (N := 14) hx hb hts inX2 hown hK hP 0 rfl rfl 12 (by decide) (hts _ kF_X2_31) (fun _ h9 => h9) rfl dX2_fewestMinutes_38 ?_
            refine lv_iload_n hx hb dX2_fewestMinutes_41 rfl (lv_at hl 1 rfl) ?_
            refine va_iald hx hb hK hP 5 0 rfl rfl (by revert hN20 hy16 c21 h_x_8; simp only [vp_in_iff, Int32.lt_iff_toInt_lt, Int32.le_iff_toInt_le, Int64.lt_iff_toInt_lt, Int64.le_iff_toInt_le, Int32.toInt_toInt64, ← Int32.toInt_inj, ← Int64.toInt_inj, Int32.reduceToInt, Int64.reduceToInt] <;> omega) dX2_fewestMinutes_42 ?_
            refine lv_topi (fun y77 ey77 => ?_)
            refine lv_goto (tgt := 48) hx hb dX2_fewestMinutes_43 (by decide) ?_
            refine lv_istore (lv' := [(5, .int y77), (4, .int y23), (3, .int y16), (2, .int y17), (0, .ref q_0), (1, .int x_0)]) hx hb dX2_fewestMinutes_48 hl (by decide) rfl (fun ls hl => ?_)
            refine lv_iload hx hb dX2_fewestMinutes_50 (lv_at hl 1 rfl) ?_
            refine lv_istore (lv' := [(6, .int y23), (5, .int y77), (4, .int y23), (3, .int y16), (2, .int y17), (0, .ref q_0), (1, .int x_0)]) hx hb dX2_fewestMinutes_52 hl (by decide) rfl (fun ls hl => ?_)
            refine lv_iconst (v := 0) hx hb dX2_fewestMinutes_54 (by decide) ?_
            refine lv_istore (lv' := [(7, .int 0), (6, .int y23), (5, .int y77), (4, .int y23), (3, .int y16), (2, .int y17), (0, .ref q_0), (1, .int x_0)]) hx hb dX2_fewestMinutes_55 hl (by decide) rfl (fun ls hl => ?_)
            have loop78 : ∀ (N79 : Nat) (H : Heap) (locs : List Loc) (ls : Array Slot), Int.toNat 0 < N79 → va_P D vwCl [(q_0, .inr (2, [.ref q_6, .ref q_1, .ref q_7, .int x_1, .int x_2, .ref q_8, .ref q_9, .ref q_10, .int x_3, .int x_4, .int x_5, .ref q_3, .ref q_5, .ref q_2])), (q_1, .inr (4, [.int x_6, .ref q_11, .int x_7, .ref q_12, .ref q_13, .int x_8, .ref q_14, .ref q_4, .ref q_15, .int x_9, .ref q_16, .ref q_17, .ref q_18])), (q_2, .inl (k 0, 4608, .inl F18)), (q_3, .inl (k 0, 81, .inl f_11)), (q_4, .inl (k 0, 9, .inl f_12)), (q_5, .inl (k 0, 9, .inl f_13))] H → va_D A [(q_0, .inr (2, [.ref q_6, .ref q_1, .ref q_7, .int x_1, .int x_2, .ref q_8, .ref q_9, .ref q_10, .int x_3, .int x_4, .int x_5, .ref q_3, .ref q_5, .ref q_2])), (q_1, .inr (4, [.int x_6, .ref q_11, .int x_7, .ref q_12, .ref q_13, .int x_8, .ref q_14, .ref q_4, .ref q_15, .int x_9, .ref q_16, .ref q_17, .ref q_18])), (q_2, .inl (k 0, 4608, .inl F18)), (q_3, .inl (k 0, 81, .inl f_11)), (q_4, .inl (k 0, 9, .inl f_12)), (q_5, .inl (k 0, 9, .inl f_13))] → va_S A s.heap H locs → lv_has ls 9 [(7, .int 0), (6, .int y23), (5, .int y77), (4, .int y23), (3, .int y16), (2, .int y17), (0, .ref q_0), (1, .int x_0)] → W p l e { frames := 1, cells := 0, slots := 0, locals := 40 } s m args below meth c H locs 0 0 (MQ below (va_Qi (fun (r : Int32) (u : zS) => u.1 = 0 ∧ ((-2147483648) ≤ Int32.toInt r ∧ Int32.toInt r ≤ 1000000)) (zB D k A (fun (u : zS) => [(q_0, .inr (2, [.ref q_6, .ref q_1, .ref q_7, .int x_1, .int x_2, .ref q_8, .ref q_9, .ref q_10, .int x_3, .int x_4, .int x_5, .ref q_3, .ref q_5, .ref q_2])), (q_1, .inr (4, [.int x_6, .ref q_11, .int x_7, .ref q_12, .ref q_13, .int x_8, .ref q_14, .ref q_4, .ref q_15, .int x_9, .ref q_16, .ref q_17, .ref q_18])), (q_2, .inl (k 0, 4608, .inl (u.2.2.2.2.1 0))), (q_3, .inl (k 0, 81, .inl f_11)), (q_4, .inl (k 0, 9, .inl f_12)), (q_5, .inl (k 0, 9, .inl f_13))])) A) args s 0 0 A) (F0 m 57 ls []) := by
              intro N79
              induction N79 with
              | zero => intro H locs ls hm; exact absurd hm (Nat.not_lt_zero _)
              | succ N79 ihN79 =>
                intro H locs ls hN79 hP hD hS hl
                refine lv_iload hx hb dX2_fewestMinutes_57 (lv_at hl 0 rfl) ?_
                refine lv_bipush (v := 9) hx hb dX2_fewestMinutes_59 (by decide) ?_
                refine lv_icmp_ge (tgt := 133) hx hb dX2_fewestMinutes_61 (by decide) (fun c80 => absurd c80 (by decide)) (fun _ => ?_)
                refine lv_iload hx hb dX2_fewestMinutes_64 (lv_at hl 1 rfl) ?_
                refine lv_if_eq (tgt := 133) hx hb dX2_fewestMinutes_66 (by decide) (fun c81 => ?_) (fun c81 => ?_)
                · refine lv_iload hx hb dX2_fewestMinutes_133 (lv_at hl 2 rfl) ?_
                  refine lv_aload_n hx hb dX2_fewestMinutes_135 rfl (lv_at hl 6 rfl) ?_
                  refine va_get (D := D) (ci := 2) (v := .ref q_1) (C := RX2) (T := TX2) (N := 14) hx hb hts inX2 hown hK hP 0 rfl rfl 1 (by decide) (hts _ kF_X2_48) (fun _ h9 => h9) rfl dX2_fewestMinutes_136 ?_
                  refine va_get (D := D) (ci := 4) (v := .ref q_4) (C := RX4) (T := TX4) (N := 13) hx hb hts inX4 hown hK hP 1 rfl rfl 7 (by decide) (hts _ kF_X2_122) (fun _ h9 => h9) rfl dX2_fewestMinutes_139 ?_
                  refine lv_iload_n hx hb dX2_fewestMinutes_142 rfl (lv_at hl 4 rfl) ?_
                  refine va_iald hx hb hK hP 4 0 rfl rfl (by revert hN20 hy16 c21 h_x_8; simp only [vp_in_iff, Int32.lt_iff_toInt_lt, Int32.le_iff_toInt_le, Int64.lt_iff_toInt_lt, Int64.le_iff_toInt_le, Int32.toInt_toInt64, ← Int32.toInt_inj, ← Int64.toInt_inj, Int32.reduceToInt, Int64.reduceToInt] <;> omega) dX2_fewestMinutes_143 ?_
                  refine lv_topi (fun y82 ey82 => ?_)
                  refine lv_iadd hx hb dX2_fewestMinutes_144 ?_
                  refine lv_istore (lv' := [(7, .int (y77 + y82)), (6, .int y23), (5, .int y77), (4, .int y23), (3, .int y16), (2, .int y17), (0, .ref q_0), (1, .int x_0)]) hx hb dX2_fewestMinutes_145 hl (by decide) rfl (fun ls hl => ?_)
                  refine lv_aload_n hx hb dX2_fewestMinutes_147 rfl (lv_at hl 6 rfl) ?_
                  refine va_get (D := D) (ci := 2) (v := .ref q_2) (C := RX2) (T := TX2) (N := 14) hx hb hts inX2 hown hK hP 0 rfl rfl 13 (by decide) (hts _ kF_X2_34) (fun _ h9 => h9) rfl dX2_fewestMinutes_148 ?_
                  refine lv_iload_n hx hb dX2_fewestMinutes_151 rfl (lv_at hl 7 rfl) ?_
                  refine lv_bipush (v := 9) hx hb dX2_fewestMinutes_152 (by decide) ?_
                  refine lv_imul hx hb dX2_fewestMinutes_154 ?_
                  have e83 : Int32.toInt (x_0 * 9) = Int32.toInt x_0 * Int32.toInt (9 : Int32) := zi_mul (by revert h_x_0 c24 c25 c81 hy23; simp only [vp_in_iff, Int32.lt_iff_toInt_lt, Int32.le_iff_toInt_le, Int64.lt_iff_toInt_lt, Int64.le_iff_toInt_le, Int32.toInt_toInt64, ← Int32.toInt_inj, ← Int64.toInt_inj, Int32.reduceToInt, Int64.reduceToInt] <;> omega)
                  refine lv_iload_n hx hb dX2_fewestMinutes_155 rfl (lv_at hl 4 rfl) ?_
                  refine lv_iadd hx hb dX2_fewestMinutes_156 ?_
                  have e84 : Int32.toInt ((x_0 * 9) + y16) = Int32.toInt (x_0 * 9) + Int32.toInt y16 := zi_add (by revert h_x_0 hN20 hy16 c21 c24 c25 c81 e83 h_x_8 hy23; simp only [vp_in_iff, Int32.lt_iff_toInt_lt, Int32.le_iff_toInt_le, Int64.lt_iff_toInt_lt, Int64.le_iff_toInt_le, Int32.toInt_toInt64, ← Int32.toInt_inj, ← Int64.toInt_inj, Int32.reduceToInt, Int64.reduceToInt] <;> omega)
                  refine lv_iload hx hb dX2_fewestMinutes_157 (lv_at hl 0 rfl) ?_
                  refine va_iast hx hb hK hP hD hS 2 0 rfl rfl (by revert h_x_0 hN20 hy16 c21 c24 c25 c81 e83 e84 h_x_8 hy23; simp only [vp_in_iff, Int32.lt_iff_toInt_lt, Int32.le_iff_toInt_le, Int64.lt_iff_toInt_lt, Int64.le_iff_toInt_le, Int32.toInt_toInt64, ← Int32.toInt_inj, ← Int64.toInt_inj, Int32.reduceToInt, Int64.reduceToInt] <;> omega) dX2_fewestMinutes_159 (fun H locs hP hD hS => ?_)
                  obtain ⟨F85, eF85⟩ : ∃ q, q = upd F18 (Int32.toNatClampNeg ((x_0 * 9) + y16)) (y77 + y82) := ⟨_, rfl⟩
                  have hP : va_P D vwCl [(q_0, .inr (2, [.ref q_6, .ref q_1, .ref q_7, .int x_1, .int x_2, .ref q_8, .ref q_9, .ref q_10, .int x_3, .int x_4, .int x_5, .ref q_3, .ref q_5, .ref q_2])), (q_1, .inr (4, [.int x_6, .ref q_11, .int x_7, .ref q_12, .ref q_13, .int x_8, .ref q_14, .ref q_4, .ref q_15, .int x_9, .ref q_16, .ref q_17, .ref q_18])), (q_2, .inl (k 0, 4608, .inl F85)), (q_3, .inl (k 0, 81, .inl f_11)), (q_4, .inl (k 0, 9, .inl f_12)), (q_5, .inl (k 0, 9, .inl f_13))] H := by rw [eF85]; exact hP
                  have hD : va_D A [(q_0, .inr (2, [.ref q_6, .ref q_1, .ref q_7, .int x_1, .int x_2, .ref q_8, .ref q_9, .ref q_10, .int x_3, .int x_4, .int x_5, .ref q_3, .ref q_5, .ref q_2])), (q_1, .inr (4, [.int x_6, .ref q_11, .int x_7, .ref q_12, .ref q_13, .int x_8, .ref q_14, .ref q_4, .ref q_15, .int x_9, .ref q_16, .ref q_17, .ref q_18])), (q_2, .inl (k 0, 4608, .inl F85)), (q_3, .inl (k 0, 81, .inl f_11)), (q_4, .inl (k 0, 9, .inl f_12)), (q_5, .inl (k 0, 9, .inl f_13))] := by rw [eF85]; exact hD
                  refine lv_iload_n hx hb dX2_fewestMinutes_160 rfl (lv_at hl 5 rfl) ?_
                  refine lv_iload hx hb dX2_fewestMinutes_161 (lv_at hl 0 rfl) ?_
                  refine lv_aload_n hx hb dX2_fewestMinutes_163 rfl (lv_at hl 6 rfl) ?_
                  refine va_get (D := D) (ci := 2) (v := .ref q_5) (C := RX2) (T := TX2) (N := 14) hx hb hts inX2 hown hK hP 0 rfl rfl 12 (by decide) (hts _ kF_X2_31) (fun _ h9 => h9) rfl dX2_fewestMinutes_164 ?_
                  refine lv_iload_n hx hb dX2_fewestMinutes_167 rfl (lv_at hl 4 rfl) ?_
                  refine va_iald hx hb hK hP 5 0 rfl rfl (by revert hN20 hy16 c21 e84 h_x_0 h_x_8 c24 c25 c81 e83 hy23; simp only [vp_in_iff, Int32.lt_iff_toInt_lt, Int32.le_iff_toInt_le, Int64.lt_iff_toInt_lt, Int64.le_iff_toInt_le, Int32.toInt_toInt64, ← Int32.toInt_inj, ← Int64.toInt_inj, Int32.reduceToInt, Int64.reduceToInt] <;> omega) dX2_fewestMinutes_168 ?_
                  refine lv_topi (fun y86 ey86 => ?_)
                  refine lv_iadd hx hb dX2_fewestMinutes_169 ?_
                  refine va_mmin hx hb (by rw [hml]; exact hl.1.symm) hown (hts _ kminL_X2_125) (hts _ kminS) (hts _ kZ_J9) (hts _ kminC) (Nat.le_of_ble_eq_true rfl) (Nat.le_of_ble_eq_true rfl) (Nat.le_of_ble_eq_true rfl) (Nat.le_of_ble_eq_true rfl) dX2_fewestMinutes_170 ?_
                  refine lv_topi (fun y87 ey87 => ?_)
                  have hy87 := zo_min y17 ((y77 + y82) + y86)
                  rw [← ey87] at hy87
                  refine lv_istore_n (lv' := [(2, .int y87), (7, .int (y77 + y82)), (6, .int y23), (5, .int y77), (4, .int y23), (3, .int y16), (0, .ref q_0), (1, .int x_0)]) hx hb dX2_fewestMinutes_173 rfl hl (by decide) rfl (fun ls hl => ?_)
                  have e88 : Int32.toInt (y16 + 1) = Int32.toInt y16 + Int32.toInt (1 : Int32) := zi_add (by revert hN20 hy16 c21 e84 h_x_0 h_x_8 c24 c25 c81 e83 hy23; simp only [vp_in_iff, Int32.lt_iff_toInt_lt, Int32.le_iff_toInt_le, Int64.lt_iff_toInt_lt, Int64.le_iff_toInt_le, Int32.toInt_toInt64, ← Int32.toInt_inj, ← Int64.toInt_inj, Int32.reduceToInt, Int64.reduceToInt] <;> omega)
                  refine lv_iinc (v := (y16 + 1)) (lv' := [(3, .int (y16 + 1)), (2, .int y87), (7, .int (y77 + y82)), (6, .int y23), (5, .int y77), (4, .int y23), (0, .ref q_0), (1, .int x_0)]) hx hb dX2_fewestMinutes_174 hl (k := 5) rfl rfl (by decide) rfl (fun ls hl => ?_)
                  refine lv_goto (tgt := 5) hx hb dX2_fewestMinutes_177 (by decide) ?_
                  exact ihN20 (y16 + 1) y87 F85 _ _ ls (by revert hN20 hy16 c21 e84 e88 h_x_0 h_x_8 c24 c25 c81 e83 hy23; simp only [vp_in_iff, Int32.lt_iff_toInt_lt, Int32.le_iff_toInt_le, Int64.lt_iff_toInt_lt, Int64.le_iff_toInt_le, Int32.toInt_toInt64, ← Int32.toInt_inj, ← Int64.toInt_inj, Int32.reduceToInt, Int64.reduceToInt] <;> omega) (by revert hN20 hy16 c21 e84 e88 h_x_0 h_x_8 c24 c25 c81 e83 hy23; simp only [vp_in_iff, Int32.lt_iff_toInt_lt, Int32.le_iff_toInt_le, Int64.lt_iff_toInt_lt, Int64.le_iff_toInt_le, Int32.toInt_toInt64, ← Int32.toInt_inj, ← Int64.toInt_inj, Int32.reduceToInt, Int64.reduceToInt] <;> omega) (by revert hy17 hy87; simp only [vp_in_iff, Int32.lt_iff_toInt_lt, Int32.le_iff_toInt_le, Int64.lt_iff_toInt_lt, Int64.le_iff_toInt_le, Int32.toInt_toInt64, ← Int32.toInt_inj, ← Int64.toInt_inj, Int32.reduceToInt, Int64.reduceToInt] <;> omega) hP hD hS (lv_sub hl [0, 1, 6, 7] rfl)
                · exact (show False by revert hy23 c24 c25 c81 h_x_0; simp only [vp_in_iff, Int32.lt_iff_toInt_lt, Int32.le_iff_toInt_le, Int64.lt_iff_toInt_lt, Int64.le_iff_toInt_le, Int32.toInt_toInt64, ← Int32.toInt_inj, ← Int64.toInt_inj, Int32.reduceToInt, Int64.reduceToInt] <;> omega).elim
            exact loop78 _ _ _ _ (Nat.lt_succ_self _) hP hD hS (lv_sub hl [0, 1, 2, 3, 4, 5, 6, 7] rfl)
        · refine lv_goto (tgt := 174) hx hb dX2_fewestMinutes_29 (by decide) ?_
          have e89 : Int32.toInt (y16 + 1) = Int32.toInt y16 + Int32.toInt (1 : Int32) := zi_add (by revert hN20 hy16 c21 h_x_8; simp only [vp_in_iff, Int32.lt_iff_toInt_lt, Int32.le_iff_toInt_le, Int64.lt_iff_toInt_lt, Int64.le_iff_toInt_le, Int32.toInt_toInt64, ← Int32.toInt_inj, ← Int64.toInt_inj, Int32.reduceToInt, Int64.reduceToInt] <;> omega)
          refine lv_iinc (v := (y16 + 1)) (lv' := [(3, .int (y16 + 1)), (4, .int y23), (2, .int y17), (0, .ref q_0), (1, .int x_0)]) hx hb dX2_fewestMinutes_174 hl (k := 1) rfl rfl (by decide) rfl (fun ls hl => ?_)
          refine lv_goto (tgt := 5) hx hb dX2_fewestMinutes_177 (by decide) ?_
          exact ihN20 (y16 + 1) y17 F18 _ _ ls (by revert hN20 hy16 c21 e89 h_x_8; simp only [vp_in_iff, Int32.lt_iff_toInt_lt, Int32.le_iff_toInt_le, Int64.lt_iff_toInt_lt, Int64.le_iff_toInt_le, Int32.toInt_toInt64, ← Int32.toInt_inj, ← Int64.toInt_inj, Int32.reduceToInt, Int64.reduceToInt] <;> omega) (by revert hN20 hy16 c21 e89 h_x_8; simp only [vp_in_iff, Int32.lt_iff_toInt_lt, Int32.le_iff_toInt_le, Int64.lt_iff_toInt_lt, Int64.le_iff_toInt_le, Int32.toInt_toInt64, ← Int32.toInt_inj, ← Int64.toInt_inj, Int32.reduceToInt, Int64.reduceToInt] <;> omega) (by revert hy17; simp only [vp_in_iff, Int32.lt_iff_toInt_lt, Int32.le_iff_toInt_le, Int64.lt_iff_toInt_lt, Int64.le_iff_toInt_le, Int32.toInt_toInt64, ← Int32.toInt_inj, ← Int64.toInt_inj, Int32.reduceToInt, Int64.reduceToInt] <;> omega) hP hD hS (lv_sub hl [0, 2, 3, 4] rfl)
  exact loop19 _ 0 1000000 f_10 _ _ _ (Nat.lt_succ_self _) (by simp only [vp_in_iff, Int32.lt_iff_toInt_lt, Int32.le_iff_toInt_le, Int64.lt_iff_toInt_lt, Int64.le_iff_toInt_le, Int32.toInt_toInt64, ← Int32.toInt_inj, ← Int64.toInt_inj, Int32.reduceToInt, Int64.reduceToInt] <;> omega) (by simp only [vp_in_iff, Int32.lt_iff_toInt_lt, Int32.le_iff_toInt_le, Int64.lt_iff_toInt_lt, Int64.le_iff_toInt_le, Int32.toInt_toInt64, ← Int32.toInt_inj, ← Int64.toInt_inj, Int32.reduceToInt, Int64.reduceToInt] <;> omega) hP hD hS (lv_sub hl [0, 1, 2, 3] rfl)
