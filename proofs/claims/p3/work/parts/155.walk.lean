set_option maxHeartbeats 4000000 in
set_option maxRecDepth 100000 in
theorem s_J6_bitCount_0f7a4_1 (l : Launch) (D : va_G) (k : Nat → ClassId) (T : zTy) (x_0 : Int32) : zMi l yJ6_bitCount_0f7a4 cJ6_bitCount_0f7a4 1 (some .int) ({ frames := 0, cells := 0, slots := 0, locals := 0 }) D k T [.int x_0] [] (fun r u => u.1 = 0 ∧ (0 ≤ Int32.toInt r ∧ Int32.toInt r ≤ 63)) (fun u => []) := by
  refine zMi_of (own := RJ6) (by decide +kernel) rfl (Nat.le_of_ble_eq_true rfl) ?_
  intro p e s m args below meth c A ls C0 hr hlk hin hP hD hS hA hK hN hT hl
  have hx := C0.1
  have hb := C0.2.1
  have hml := C0.2.2.1
  have hown := C0.2.2.2.1
  have hts := C0.2.2.2.2
  have hl : lv_has ls 1 [(0, .int x_0)] := hl
  have hP : va_P D vwCl [] s.heap := hP
  refine lv_iload_n hx hb dJ6_bitCount_0f7a4_0 rfl (lv_at hl 0 rfl) ?_
  refine lv_iload_n hx hb dJ6_bitCount_0f7a4_1 rfl (lv_at hl 0 rfl) ?_
  refine lv_iconst (v := 1) hx hb dJ6_bitCount_0f7a4_2 (by decide) ?_
  refine lv_iushr hx hb dJ6_bitCount_0f7a4_3 rfl ?_
  refine lv_topi (fun y1 ey1 => ?_)
  refine lv_ldcw hx hb hown (hts _ kK_J6_265) dJ6_bitCount_0f7a4_4 ?_
  refine lv_iand hx hb dJ6_bitCount_0f7a4_7 ?_
  refine lv_topi (fun y2 ey2 => ?_)
  have hy2 : 0 ≤ Int32.toInt y2 ∧ Int32.toInt y2 ≤ 1431655765 := by rw [ey2]; exact zo_and _ (by decide)
  refine lv_isub hx hb dJ6_bitCount_0f7a4_8 ?_
  refine lv_topi (fun y3 ey3 => ?_)
  refine lv_istore_n (lv' := [(0, .int y3)]) hx hb dJ6_bitCount_0f7a4_9 rfl hl (by decide) rfl (fun ls hl => ?_)
  refine lv_iload_n hx hb dJ6_bitCount_0f7a4_10 rfl (lv_at hl 0 rfl) ?_
  refine lv_ldcw hx hb hown (hts _ kK_J6_266) dJ6_bitCount_0f7a4_11 ?_
  refine lv_iand hx hb dJ6_bitCount_0f7a4_14 ?_
  refine lv_topi (fun y4 ey4 => ?_)
  have hy4 : 0 ≤ Int32.toInt y4 ∧ Int32.toInt y4 ≤ 858993459 := by rw [ey4]; exact zo_and _ (by decide)
  refine lv_iload_n hx hb dJ6_bitCount_0f7a4_15 rfl (lv_at hl 0 rfl) ?_
  refine lv_iconst (v := 2) hx hb dJ6_bitCount_0f7a4_16 (by decide) ?_
  refine lv_iushr hx hb dJ6_bitCount_0f7a4_17 rfl ?_
  refine lv_topi (fun y5 ey5 => ?_)
  refine lv_ldcw hx hb hown (hts _ kK_J6_266) dJ6_bitCount_0f7a4_18 ?_
  refine lv_iand hx hb dJ6_bitCount_0f7a4_21 ?_
  refine lv_topi (fun y6 ey6 => ?_)
  have hy6 : 0 ≤ Int32.toInt y6 ∧ Int32.toInt y6 ≤ 858993459 := by rw [ey6]; exact zo_and _ (by decide)
  refine lv_iadd hx hb dJ6_bitCount_0f7a4_22 ?_
  refine lv_topi (fun y7 ey7 => ?_)
  have hy7 : Int32.toInt y7 = Int32.toInt y4 + Int32.toInt y6 := by rw [ey7]; exact zi_addc rfl rfl (by revert hy4 hy6; first | omega | (simp only [vp_in_iff, Int32.lt_iff_toInt_lt, Int32.le_iff_toInt_le, Int64.lt_iff_toInt_lt, Int64.le_iff_toInt_le, Int32.toInt_toInt64, ← Int32.toInt_inj, ← Int64.toInt_inj, Int32.reduceToInt, Int64.reduceToInt] <;> omega))
  refine lv_istore_n (lv' := [(0, .int y7)]) hx hb dJ6_bitCount_0f7a4_23 rfl hl (by decide) rfl (fun ls hl => ?_)
  refine lv_iload_n hx hb dJ6_bitCount_0f7a4_24 rfl (lv_at hl 0 rfl) ?_
  refine lv_iload_n hx hb dJ6_bitCount_0f7a4_25 rfl (lv_at hl 0 rfl) ?_
  refine lv_iconst (v := 4) hx hb dJ6_bitCount_0f7a4_26 (by decide) ?_
  refine lv_iushr hx hb dJ6_bitCount_0f7a4_27 rfl ?_
  refine lv_topi (fun y8 ey8 => ?_)
  refine lv_iadd hx hb dJ6_bitCount_0f7a4_28 ?_
  refine lv_topi (fun y9 ey9 => ?_)
  refine lv_ldcw hx hb hown (hts _ kK_J6_267) dJ6_bitCount_0f7a4_29 ?_
  refine lv_iand hx hb dJ6_bitCount_0f7a4_32 ?_
  refine lv_topi (fun y10 ey10 => ?_)
  have hy10 : 0 ≤ Int32.toInt y10 ∧ Int32.toInt y10 ≤ 252645135 := by rw [ey10]; exact zo_and _ (by decide)
  refine lv_istore_n (lv' := [(0, .int y10)]) hx hb dJ6_bitCount_0f7a4_33 rfl hl (by decide) rfl (fun ls hl => ?_)
  refine lv_iload_n hx hb dJ6_bitCount_0f7a4_34 rfl (lv_at hl 0 rfl) ?_
  refine lv_iload_n hx hb dJ6_bitCount_0f7a4_35 rfl (lv_at hl 0 rfl) ?_
  refine lv_bipush (v := 8) hx hb dJ6_bitCount_0f7a4_36 (by decide) ?_
  refine lv_iushr hx hb dJ6_bitCount_0f7a4_38 rfl ?_
  refine lv_topi (fun y11 ey11 => ?_)
  refine lv_iadd hx hb dJ6_bitCount_0f7a4_39 ?_
  refine lv_topi (fun y12 ey12 => ?_)
  refine lv_istore_n (lv' := [(0, .int y12)]) hx hb dJ6_bitCount_0f7a4_40 rfl hl (by decide) rfl (fun ls hl => ?_)
  refine lv_iload_n hx hb dJ6_bitCount_0f7a4_41 rfl (lv_at hl 0 rfl) ?_
  refine lv_iload_n hx hb dJ6_bitCount_0f7a4_42 rfl (lv_at hl 0 rfl) ?_
  refine lv_bipush (v := 16) hx hb dJ6_bitCount_0f7a4_43 (by decide) ?_
  refine lv_iushr hx hb dJ6_bitCount_0f7a4_45 rfl ?_
  refine lv_topi (fun y13 ey13 => ?_)
  refine lv_iadd hx hb dJ6_bitCount_0f7a4_46 ?_
  refine lv_topi (fun y14 ey14 => ?_)
  refine lv_istore_n (lv' := [(0, .int y14)]) hx hb dJ6_bitCount_0f7a4_47 rfl hl (by decide) rfl (fun ls hl => ?_)
  refine lv_iload_n hx hb dJ6_bitCount_0f7a4_48 rfl (lv_at hl 0 rfl) ?_
  refine lv_bipush (v := 63) hx hb dJ6_bitCount_0f7a4_49 (by decide) ?_
  refine lv_iand hx hb dJ6_bitCount_0f7a4_51 ?_
  refine lv_topi (fun y15 ey15 => ?_)
  have hy15 : 0 ≤ Int32.toInt y15 ∧ Int32.toInt y15 ≤ 63 := by rw [ey15]; exact zo_and _ (by decide)
  exact z_iret C0 hr hlk rfl hK hP hD hS (0, fun _ => 0, fun _ => 0, fun _ => 0, fun _ => (fun _ => 0), fun _ => (fun _ => 0), fun _ => (fun _ => none)) ⟨rfl, (by revert hy15; first | omega | (simp only [vp_in_iff, Int32.lt_iff_toInt_lt, Int32.le_iff_toInt_le, Int64.lt_iff_toInt_lt, Int64.le_iff_toInt_le, Int32.toInt_toInt64, ← Int32.toInt_inj, ← Int64.toInt_inj, Int32.reduceToInt, Int64.reduceToInt] <;> omega))⟩ [] rfl rfl rfl dJ6_bitCount_0f7a4_52

set_option maxHeartbeats 4000000 in
set_option maxRecDepth 100000 in
theorem s_X2_waysToDraw_1 (l : Launch) (D : va_G) (k : Nat → ClassId) (T : zTy) (q_0 : Nat) (q_1 : Nat) (q_2 : Nat) (q_3 : Nat) (q_4 : Nat) (q_5 : Nat) (q_6 : Nat) (q_7 : Nat) (q_8 : Nat) (q_9 : Nat) (q_10 : Nat) (q_11 : Nat) (q_12 : Nat) (q_13 : Nat) (q_14 : Nat) (q_15 : Nat) (q_16 : Nat) (q_17 : Nat) (q_18 : Nat) (x_0 : Int32) (x_1 : Int32) (x_2 : Int32) (x_3 : Int32) (x_4 : Int32) (x_5 : Int32) (f_6 : Nat → Int32) (x_7 : Int32) (x_8 : Int32) (x_9 : Int32) (x_10 : Int32) (f_11 : Nat → Int32) (f_12 : Nat → Int32) (h_x_1 : 0 ≤ Int32.toInt x_1 ∧ Int32.toInt x_1 ≤ 6) (h_x_7 : 0 ≤ Int32.toInt x_7 ∧ Int32.toInt x_7 ≤ 6) (h_x_8 : 0 ≤ Int32.toInt x_8 ∧ Int32.toInt x_8 ≤ 6) (h_x_9 : 0 ≤ Int32.toInt x_9 ∧ Int32.toInt x_9 ≤ 9) (h_x_10 : 0 ≤ Int32.toInt x_10 ∧ Int32.toInt x_10 ≤ 12) (h_f_11 : zR f_11 0 1) : zMi l yX2_waysToDraw cX2_waysToDraw 7 (some .int) ({ frames := 1, cells := 0, slots := 0, locals := 20 }) D k T [.ref q_0, .int x_0] [(q_0, .inr (2, [.ref q_5, .ref q_2, .ref q_6, .int x_1, .int x_2, .ref q_7, .ref q_8, .ref q_9, .int x_3, .int x_4, .int x_5, .ref q_10, .ref q_11, .ref q_1])), (q_1, .inl (k 0, 4608, .inl f_6)), (q_2, .inr (4, [.int x_7, .ref q_12, .int x_8, .ref q_13, .ref q_14, .int x_9, .ref q_15, .ref q_16, .ref q_17, .int x_10, .ref q_18, .ref q_3, .ref q_4])), (q_3, .inl (k 0, 12, .inl f_11)), (q_4, .inl (k 0, 12, .inl f_12))] (fun r u => u.1 = 0) (fun u => [(q_0, .inr (2, [.ref q_5, .ref q_2, .ref q_6, .int x_1, .int x_2, .ref q_7, .ref q_8, .ref q_9, .int x_3, .int x_4, .int x_5, .ref q_10, .ref q_11, .ref q_1])), (q_1, .inl (k 0, 4608, .inl (u.2.2.2.2.1 0))), (q_2, .inr (4, [.int x_7, .ref q_12, .int x_8, .ref q_13, .ref q_14, .int x_9, .ref q_15, .ref q_16, .ref q_17, .int x_10, .ref q_18, .ref q_3, .ref q_4])), (q_3, .inl (k 0, 12, .inl f_11)), (q_4, .inl (k 0, 12, .inl f_12))]) := by
  refine zMi_of (own := RX2) (by decide +kernel) rfl (Nat.le_of_ble_eq_true rfl) ?_
  intro p e s m args below meth c A ls C0 hr hlk hin hP hD hS hA hK hN hT hl
  have hx := C0.1
  have hb := C0.2.1
  have hml := C0.2.2.1
  have hown := C0.2.2.2.1
  have hts := C0.2.2.2.2
  have hl : lv_has ls 7 [(0, .ref q_0), (1, .int x_0)] := hl
  have hP : va_P D vwCl [(q_0, .inr (2, [.ref q_5, .ref q_2, .ref q_6, .int x_1, .int x_2, .ref q_7, .ref q_8, .ref q_9, .int x_3, .int x_4, .int x_5, .ref q_10, .ref q_11, .ref q_1])), (q_1, .inl (k 0, 4608, .inl f_6)), (q_2, .inr (4, [.int x_7, .ref q_12, .int x_8, .ref q_13, .ref q_14, .int x_9, .ref q_15, .ref q_16, .ref q_17, .int x_10, .ref q_18, .ref q_3, .ref q_4])), (q_3, .inl (k 0, 12, .inl f_11)), (q_4, .inl (k 0, 12, .inl f_12))] s.heap := hP
  refine lv_iconst (v := 0) hx hb dX2_waysToDraw_0 (by decide) ?_
  refine lv_istore_n (lv' := [(2, .int 0), (0, .ref q_0), (1, .int x_0)]) hx hb dX2_waysToDraw_1 rfl hl (by decide) rfl (fun ls hl => ?_)
  refine lv_aload_n hx hb dX2_waysToDraw_2 rfl (lv_at hl 1 rfl) ?_
  refine va_get (D := D) (ci := 2) (v := .ref q_1) (C := RX2) (T := TX2) (N := 14) hx hb hts inX2 hown hK hP 0 rfl rfl 13 (by decide) (hts _ kF_X2_34) (fun _ h9 => h9) rfl dX2_waysToDraw_3 ?_
  refine lv_iconst (v := 0) hx hb dX2_waysToDraw_6 (by decide) ?_
  refine lv_iconst (v := 0) hx hb dX2_waysToDraw_7 (by decide) ?_
  refine va_iast hx hb hK hP hD hS 1 0 rfl rfl (by unfold vp_in; decide) dX2_waysToDraw_8 (fun H locs hP hD hS => ?_)
  obtain ⟨F1, eF1⟩ : ∃ q, q = upd f_6 (Int32.toNatClampNeg (0 : Int32)) 0 := ⟨_, rfl⟩
  have hP : va_P D vwCl [(q_0, .inr (2, [.ref q_5, .ref q_2, .ref q_6, .int x_1, .int x_2, .ref q_7, .ref q_8, .ref q_9, .int x_3, .int x_4, .int x_5, .ref q_10, .ref q_11, .ref q_1])), (q_1, .inl (k 0, 4608, .inl F1)), (q_2, .inr (4, [.int x_7, .ref q_12, .int x_8, .ref q_13, .ref q_14, .int x_9, .ref q_15, .ref q_16, .ref q_17, .int x_10, .ref q_18, .ref q_3, .ref q_4])), (q_3, .inl (k 0, 12, .inl f_11)), (q_4, .inl (k 0, 12, .inl f_12))] H := by rw [eF1]; exact hP
  have hD : va_D A [(q_0, .inr (2, [.ref q_5, .ref q_2, .ref q_6, .int x_1, .int x_2, .ref q_7, .ref q_8, .ref q_9, .int x_3, .int x_4, .int x_5, .ref q_10, .ref q_11, .ref q_1])), (q_1, .inl (k 0, 4608, .inl F1)), (q_2, .inr (4, [.int x_7, .ref q_12, .int x_8, .ref q_13, .ref q_14, .int x_9, .ref q_15, .ref q_16, .ref q_17, .int x_10, .ref q_18, .ref q_3, .ref q_4])), (q_3, .inl (k 0, 12, .inl f_11)), (q_4, .inl (k 0, 12, .inl f_12))] := by rw [eF1]; exact hD
  refine lv_iconst (v := 0) hx hb dX2_waysToDraw_9 (by decide) ?_
  refine lv_istore_n (lv' := [(3, .int 0), (2, .int 0), (0, .ref q_0), (1, .int x_0)]) hx hb dX2_waysToDraw_10 rfl hl (by decide) rfl (fun ls hl => ?_)
  have loop26 : ∀ (N27 : Nat) (y23 : Int32) (y24 : Int32) (F25 : Nat → Int32) (H : Heap) (locs : List Loc) (ls : Array Slot), Int.toNat (12 - Int32.toInt y23) < N27 → 0 ≤ Int32.toInt y23 ∧ Int32.toInt y23 ≤ 12 → 0 ≤ Int32.toInt y24 ∧ Int32.toInt y24 ≤ 4095 → va_P D vwCl [(q_0, .inr (2, [.ref q_5, .ref q_2, .ref q_6, .int x_1, .int x_2, .ref q_7, .ref q_8, .ref q_9, .int x_3, .int x_4, .int x_5, .ref q_10, .ref q_11, .ref q_1])), (q_1, .inl (k 0, 4608, .inl F25)), (q_2, .inr (4, [.int x_7, .ref q_12, .int x_8, .ref q_13, .ref q_14, .int x_9, .ref q_15, .ref q_16, .ref q_17, .int x_10, .ref q_18, .ref q_3, .ref q_4])), (q_3, .inl (k 0, 12, .inl f_11)), (q_4, .inl (k 0, 12, .inl f_12))] H → va_D A [(q_0, .inr (2, [.ref q_5, .ref q_2, .ref q_6, .int x_1, .int x_2, .ref q_7, .ref q_8, .ref q_9, .int x_3, .int x_4, .int x_5, .ref q_10, .ref q_11, .ref q_1])), (q_1, .inl (k 0, 4608, .inl F25)), (q_2, .inr (4, [.int x_7, .ref q_12, .int x_8, .ref q_13, .ref q_14, .int x_9, .ref q_15, .ref q_16, .ref q_17, .int x_10, .ref q_18, .ref q_3, .ref q_4])), (q_3, .inl (k 0, 12, .inl f_11)), (q_4, .inl (k 0, 12, .inl f_12))] → va_S A s.heap H locs → lv_has ls 7 [(3, .int y23), (2, .int y24), (0, .ref q_0), (1, .int x_0)] → W p l e { frames := 1, cells := 0, slots := 0, locals := 20 } s m args below meth c H locs 0 0 (MQ below (va_Qi (fun (r : Int32) (u : zS) => u.1 = 0) (zB D k A (fun (u : zS) => [(q_0, .inr (2, [.ref q_5, .ref q_2, .ref q_6, .int x_1, .int x_2, .ref q_7, .ref q_8, .ref q_9, .int x_3, .int x_4, .int x_5, .ref q_10, .ref q_11, .ref q_1])), (q_1, .inl (k 0, 4608, .inl (u.2.2.2.2.1 0))), (q_2, .inr (4, [.int x_7, .ref q_12, .int x_8, .ref q_13, .ref q_14, .int x_9, .ref q_15, .ref q_16, .ref q_17, .int x_10, .ref q_18, .ref q_3, .ref q_4])), (q_3, .inl (k 0, 12, .inl f_11)), (q_4, .inl (k 0, 12, .inl f_12))])) A) args s 0 0 A) (F0 m 11 ls []) := by
    intro N27
    induction N27 with
    | zero => intro y23 y24 F25 H locs ls hm; exact absurd hm (Nat.not_lt_zero _)
    | succ N27 ihN27 =>
      intro y23 y24 F25 H locs ls hN27 hy23 hy24 hP hD hS hl
      refine lv_iload_n hx hb dX2_waysToDraw_11 rfl (lv_at hl 0 rfl) ?_
      refine lv_aload_n hx hb dX2_waysToDraw_12 rfl (lv_at hl 2 rfl) ?_
      refine va_get (D := D) (ci := 2) (v := .ref q_2) (C := RX2) (T := TX2) (N := 14) hx hb hts inX2 hown hK hP 0 rfl rfl 1 (by decide) (hts _ kF_X2_48) (fun _ h9 => h9) rfl dX2_waysToDraw_13 ?_
      refine va_get (D := D) (ci := 4) (v := .int x_10) (C := RX4) (T := TX4) (N := 13) hx hb hts inX4 hown hK hP 2 rfl rfl 9 (by decide) (hts _ kF_X2_136) (fun _ h9 => h9) rfl dX2_waysToDraw_16 ?_
      refine lv_icmp_ge (tgt := 87) hx hb dX2_waysToDraw_19 (by decide) (fun c28 => ?_) (fun c28 => ?_)
      · refine lv_iload_n hx hb dX2_waysToDraw_87 rfl (lv_at hl 1 rfl) ?_
        refine z_bi0 (z_runS (As := [.int y24]) (rest := []) C0 (s_J6_bitCount_0f7a4_1 l D k T y24 _) okS_J6_bitCount_0f7a4 kM_X2_145 rfl (z_p0 hT hS hA hK hN) rfl hl.1 rfl (Nat.le_of_ble_eq_true rfl) dX2_waysToDraw_88 rfl) hP hS hA (fun r29 u29 H locs hw29 hP hS => ?_)
        obtain ⟨i29, a29, v29, w29, f29, g29, o29⟩ := u29
        dsimp only at hw29
        obtain ⟨rfl, hr29⟩ := hw29
        refine lv_istore_n (lv' := [(3, .int r29), (2, .int y24), (0, .ref q_0), (1, .int x_0)]) hx hb dX2_waysToDraw_91 rfl hl (by decide) rfl (fun ls hl => ?_)
        refine lv_aload_n hx hb dX2_waysToDraw_92 rfl (lv_at hl 2 rfl) ?_
        refine va_get (D := D) (ci := 2) (v := .ref q_1) (C := RX2) (T := TX2) (N := 14) hx hb hts inX2 hown hK hP 0 rfl rfl 13 (by decide) (hts _ kF_X2_34) (fun _ h9 => h9) rfl dX2_waysToDraw_93 ?_
        refine lv_iload_n hx hb dX2_waysToDraw_96 rfl (lv_at hl 1 rfl) ?_
        refine va_iald hx hb hK hP 1 0 rfl rfl (by revert hy24; first | omega | (simp only [vp_in_iff, Int32.lt_iff_toInt_lt, Int32.le_iff_toInt_le, Int64.lt_iff_toInt_lt, Int64.le_iff_toInt_le, Int32.toInt_toInt64, ← Int32.toInt_inj, ← Int64.toInt_inj, Int32.reduceToInt, Int64.reduceToInt] <;> omega)) dX2_waysToDraw_97 ?_
        refine lv_topi (fun y30 ey30 => ?_)
        refine lv_istore (lv' := [(4, .int y30), (3, .int r29), (2, .int y24), (0, .ref q_0), (1, .int x_0)]) hx hb dX2_waysToDraw_98 hl (by decide) rfl (fun ls hl => ?_)
        refine lv_iconst (v := 0) hx hb dX2_waysToDraw_100 (by decide) ?_
        refine lv_istore (lv' := [(5, .int 0), (4, .int y30), (3, .int r29), (2, .int y24), (0, .ref q_0), (1, .int x_0)]) hx hb dX2_waysToDraw_101 hl (by decide) rfl (fun ls hl => ?_)
        refine lv_iconst (v := 0) hx hb dX2_waysToDraw_103 (by decide) ?_
        refine lv_istore (lv' := [(6, .int 0), (5, .int 0), (4, .int y30), (3, .int r29), (2, .int y24), (0, .ref q_0), (1, .int x_0)]) hx hb dX2_waysToDraw_104 hl (by decide) rfl (fun ls hl => ?_)
        have loop75 : ∀ (N76 : Nat) (y73 : Int32) (y74 : Int32) (H : Heap) (locs : List Loc) (ls : Array Slot), Int.toNat (4096 - Int32.toInt y73) < N76 → 0 ≤ Int32.toInt y73 ∧ Int32.toInt y73 ≤ 4096 → va_P D vwCl [(q_0, .inr (2, [.ref q_5, .ref q_2, .ref q_6, .int x_1, .int x_2, .ref q_7, .ref q_8, .ref q_9, .int x_3, .int x_4, .int x_5, .ref q_10, .ref q_11, .ref q_1])), (q_1, .inl (k 0, 4608, .inl F25)), (q_2, .inr (4, [.int x_7, .ref q_12, .int x_8, .ref q_13, .ref q_14, .int x_9, .ref q_15, .ref q_16, .ref q_17, .int x_10, .ref q_18, .ref q_3, .ref q_4])), (q_3, .inl (k 0, 12, .inl f_11)), (q_4, .inl (k 0, 12, .inl f_12))] H → va_D A [(q_0, .inr (2, [.ref q_5, .ref q_2, .ref q_6, .int x_1, .int x_2, .ref q_7, .ref q_8, .ref q_9, .int x_3, .int x_4, .int x_5, .ref q_10, .ref q_11, .ref q_1])), (q_1, .inl (k 0, 4608, .inl F25)), (q_2, .inr (4, [.int x_7, .ref q_12, .int x_8, .ref q_13, .ref q_14, .int x_9, .ref q_15, .ref q_16, .ref q_17, .int x_10, .ref q_18, .ref q_3, .ref q_4])), (q_3, .inl (k 0, 12, .inl f_11)), (q_4, .inl (k 0, 12, .inl f_12))] → va_S A s.heap H locs → lv_has ls 7 [(6, .int y73), (5, .int y74), (4, .int y30), (3, .int r29), (2, .int y24), (0, .ref q_0), (1, .int x_0)] → W p l e { frames := 1, cells := 0, slots := 0, locals := 20 } s m args below meth c H locs 0 0 (MQ below (va_Qi (fun (r : Int32) (u : zS) => u.1 = 0) (zB D k A (fun (u : zS) => [(q_0, .inr (2, [.ref q_5, .ref q_2, .ref q_6, .int x_1, .int x_2, .ref q_7, .ref q_8, .ref q_9, .int x_3, .int x_4, .int x_5, .ref q_10, .ref q_11, .ref q_1])), (q_1, .inl (k 0, 4608, .inl (u.2.2.2.2.1 0))), (q_2, .inr (4, [.int x_7, .ref q_12, .int x_8, .ref q_13, .ref q_14, .int x_9, .ref q_15, .ref q_16, .ref q_17, .int x_10, .ref q_18, .ref q_3, .ref q_4])), (q_3, .inl (k 0, 12, .inl f_11)), (q_4, .inl (k 0, 12, .inl f_12))])) A) args s 0 0 A) (F0 m 106 ls []) := by
          intro N76
          induction N76 with
          | zero => intro y73 y74 H locs ls hm; exact absurd hm (Nat.not_lt_zero _)
          | succ N76 ihN76 =>
            intro y73 y74 H locs ls hN76 hy73 hP hD hS hl
            refine lv_iload hx hb dX2_waysToDraw_106 (lv_at hl 0 rfl) ?_
            refine lv_iconst (v := 1) hx hb dX2_waysToDraw_108 (by decide) ?_
            refine lv_aload_n hx hb dX2_waysToDraw_109 rfl (lv_at hl 5 rfl) ?_
            refine va_get (D := D) (ci := 2) (v := .ref q_2) (C := RX2) (T := TX2) (N := 14) hx hb hts inX2 hown hK hP 0 rfl rfl 1 (by decide) (hts _ kF_X2_48) (fun _ h9 => h9) rfl dX2_waysToDraw_110 ?_
            refine va_get (D := D) (ci := 4) (v := .int x_10) (C := RX4) (T := TX4) (N := 13) hx hb hts inX4 hown hK hP 2 rfl rfl 9 (by decide) (hts _ kF_X2_136) (fun _ h9 => h9) rfl dX2_waysToDraw_113 ?_
            refine lv_ishl hx hb dX2_waysToDraw_116 ?_
            refine lv_topi (fun y77 ey77 => ?_)
            have hy77 : 1 ≤ Int32.toInt y77 ∧ Int32.toInt y77 ≤ 4096 := by rw [ey77]; exact zo_shl1 12 (show 0 ≤ Int32.toInt x_10 ∧ Int32.toInt x_10 ≤ 12 by revert h_x_10 c28 hN27 hy23; first | omega | (simp only [vp_in_iff, Int32.lt_iff_toInt_lt, Int32.le_iff_toInt_le, Int64.lt_iff_toInt_lt, Int64.le_iff_toInt_le, Int32.toInt_toInt64, ← Int32.toInt_inj, ← Int64.toInt_inj, Int32.reduceToInt, Int64.reduceToInt] <;> omega)) (by decide)
            refine lv_icmp_ge (tgt := 154) hx hb dX2_waysToDraw_117 (by decide) (fun c78 => ?_) (fun c78 => ?_)
            · refine lv_iload hx hb dX2_waysToDraw_154 (lv_at hl 1 rfl) ?_
              exact z_iret C0 hr hlk rfl hK hP hD hS (0, fun _ => 0, fun _ => 0, fun _ => 0, fun i => [F25].getD i (fun _ => 0), fun _ => (fun _ => 0), fun _ => (fun _ => none)) rfl [0, 1, 2, 3, 4] rfl rfl rfl dX2_waysToDraw_156
            · refine lv_iload_n hx hb dX2_waysToDraw_120 rfl (lv_at hl 6 rfl) ?_
              refine lv_if_eq (tgt := 136) hx hb dX2_waysToDraw_121 (by decide) (fun c79 => ?_) (fun c79 => ?_)
              · refine lv_iload hx hb dX2_waysToDraw_136 (lv_at hl 0 rfl) ?_
                refine z_bi0 (z_runS (As := [.int y73]) (rest := []) C0 (s_J6_bitCount_0f7a4_1 l D k T y73 _) okS_J6_bitCount_0f7a4 kM_X2_145 rfl (z_p0 hT hS hA hK hN) rfl hl.1 rfl (Nat.le_of_ble_eq_true rfl) dX2_waysToDraw_138 rfl) hP hS hA (fun r80 u80 H locs hw80 hP hS => ?_)
                obtain ⟨i80, a80, v80, w80, f80, g80, o80⟩ := u80
                dsimp only at hw80
                obtain ⟨rfl, hr80⟩ := hw80
                refine lv_iload_n hx hb dX2_waysToDraw_141 rfl (lv_at hl 3 rfl) ?_
                refine lv_icmp_ne (tgt := 148) hx hb dX2_waysToDraw_142 (by decide) (fun c81 => ?_) (fun c81 => ?_)
                · obtain ⟨y82, ey82⟩ : ∃ q : Int32, q = y73 + 1 := ⟨_, rfl⟩
                  have hy82 : Int32.toInt y82 = Int32.toInt y73 + 1 := by rw [ey82]; exact zi_addc rfl (by decide) (by revert hN76 hy73 c78 hy77; first | omega | (simp only [vp_in_iff, Int32.lt_iff_toInt_lt, Int32.le_iff_toInt_le, Int64.lt_iff_toInt_lt, Int64.le_iff_toInt_le, Int32.toInt_toInt64, ← Int32.toInt_inj, ← Int64.toInt_inj, Int32.reduceToInt, Int64.reduceToInt] <;> omega))
                  refine lv_iinc (v := y82) (lv' := [(6, .int y82), (5, .int y74), (4, .int y30), (3, .int r29), (2, .int y24), (0, .ref q_0), (1, .int x_0)]) hx hb dX2_waysToDraw_148 hl (k := 0) rfl (by rw [ey82]; exact zz_inc (by decide)) (by decide) rfl (fun ls hl => ?_)
                  refine lv_goto (tgt := 106) hx hb dX2_waysToDraw_151 (by decide) ?_
                  exact ihN76 y82 y74 _ _ ls (by revert hN76 hy73 c78 hy82 hy77; first | omega | (simp only [vp_in_iff, Int32.lt_iff_toInt_lt, Int32.le_iff_toInt_le, Int64.lt_iff_toInt_lt, Int64.le_iff_toInt_le, Int32.toInt_toInt64, ← Int32.toInt_inj, ← Int64.toInt_inj, Int32.reduceToInt, Int64.reduceToInt] <;> omega)) (by revert hN76 hy73 c78 hy82 hy77; first | omega | (simp only [vp_in_iff, Int32.lt_iff_toInt_lt, Int32.le_iff_toInt_le, Int64.lt_iff_toInt_lt, Int64.le_iff_toInt_le, Int32.toInt_toInt64, ← Int32.toInt_inj, ← Int64.toInt_inj, Int32.reduceToInt, Int64.reduceToInt] <;> omega)) hP hD hS (lv_sub hl [0, 1, 2, 3, 4, 5, 6] rfl)
                · obtain ⟨y83, ey83⟩ : ∃ q : Int32, q = y74 + 1 := ⟨_, rfl⟩
                  refine lv_iinc (v := y83) (lv' := [(5, .int y83), (6, .int y73), (4, .int y30), (3, .int r29), (2, .int y24), (0, .ref q_0), (1, .int x_0)]) hx hb dX2_waysToDraw_145 hl (k := 1) rfl (by rw [ey83]; exact zz_inc (by decide)) (by decide) rfl (fun ls hl => ?_)
                  obtain ⟨y84, ey84⟩ : ∃ q : Int32, q = y73 + 1 := ⟨_, rfl⟩
                  have hy84 : Int32.toInt y84 = Int32.toInt y73 + 1 := by rw [ey84]; exact zi_addc rfl (by decide) (by revert hN76 hy73 c78 hy77; first | omega | (simp only [vp_in_iff, Int32.lt_iff_toInt_lt, Int32.le_iff_toInt_le, Int64.lt_iff_toInt_lt, Int64.le_iff_toInt_le, Int32.toInt_toInt64, ← Int32.toInt_inj, ← Int64.toInt_inj, Int32.reduceToInt, Int64.reduceToInt] <;> omega))
                  refine lv_iinc (v := y84) (lv' := [(6, .int y84), (5, .int y83), (4, .int y30), (3, .int r29), (2, .int y24), (0, .ref q_0), (1, .int x_0)]) hx hb dX2_waysToDraw_148 hl (k := 1) rfl (by rw [ey84]; exact zz_inc (by decide)) (by decide) rfl (fun ls hl => ?_)
                  refine lv_goto (tgt := 106) hx hb dX2_waysToDraw_151 (by decide) ?_
                  exact ihN76 y84 y83 _ _ ls (by revert hN76 hy73 c78 hy84 hy77; first | omega | (simp only [vp_in_iff, Int32.lt_iff_toInt_lt, Int32.le_iff_toInt_le, Int64.lt_iff_toInt_lt, Int64.le_iff_toInt_le, Int32.toInt_toInt64, ← Int32.toInt_inj, ← Int64.toInt_inj, Int32.reduceToInt, Int64.reduceToInt] <;> omega)) (by revert hN76 hy73 c78 hy84 hy77; first | omega | (simp only [vp_in_iff, Int32.lt_iff_toInt_lt, Int32.le_iff_toInt_le, Int64.lt_iff_toInt_lt, Int64.le_iff_toInt_le, Int32.toInt_toInt64, ← Int32.toInt_inj, ← Int64.toInt_inj, Int32.reduceToInt, Int64.reduceToInt] <;> omega)) hP hD hS (lv_sub hl [0, 1, 2, 3, 4, 5, 6] rfl)
              · refine lv_aload_n hx hb dX2_waysToDraw_124 rfl (lv_at hl 5 rfl) ?_
                refine va_get (D := D) (ci := 2) (v := .ref q_1) (C := RX2) (T := TX2) (N := 14) hx hb hts inX2 hown hK hP 0 rfl rfl 13 (by decide) (hts _ kF_X2_34) (fun _ h9 => h9) rfl dX2_waysToDraw_125 ?_
                refine lv_iload hx hb dX2_waysToDraw_128 (lv_at hl 0 rfl) ?_
                refine va_iald hx hb hK hP 1 0 rfl rfl (by revert hN76 hy73 c78 hy77; first | omega | (simp only [vp_in_iff, Int32.lt_iff_toInt_lt, Int32.le_iff_toInt_le, Int64.lt_iff_toInt_lt, Int64.le_iff_toInt_le, Int32.toInt_toInt64, ← Int32.toInt_inj, ← Int64.toInt_inj, Int32.reduceToInt, Int64.reduceToInt] <;> omega)) dX2_waysToDraw_130 ?_
                refine lv_topi (fun y85 ey85 => ?_)
                refine lv_iload hx hb dX2_waysToDraw_131 (lv_at hl 2 rfl) ?_
                refine lv_icmp_lt (tgt := 148) hx hb dX2_waysToDraw_133 (by decide) (fun c86 => ?_) (fun c86 => ?_)
                · obtain ⟨y87, ey87⟩ : ∃ q : Int32, q = y73 + 1 := ⟨_, rfl⟩
                  have hy87 : Int32.toInt y87 = Int32.toInt y73 + 1 := by rw [ey87]; exact zi_addc rfl (by decide) (by revert hN76 hy73 c78 hy77; first | omega | (simp only [vp_in_iff, Int32.lt_iff_toInt_lt, Int32.le_iff_toInt_le, Int64.lt_iff_toInt_lt, Int64.le_iff_toInt_le, Int32.toInt_toInt64, ← Int32.toInt_inj, ← Int64.toInt_inj, Int32.reduceToInt, Int64.reduceToInt] <;> omega))
                  refine lv_iinc (v := y87) (lv' := [(6, .int y87), (5, .int y74), (4, .int y30), (3, .int r29), (2, .int y24), (0, .ref q_0), (1, .int x_0)]) hx hb dX2_waysToDraw_148 hl (k := 0) rfl (by rw [ey87]; exact zz_inc (by decide)) (by decide) rfl (fun ls hl => ?_)
                  refine lv_goto (tgt := 106) hx hb dX2_waysToDraw_151 (by decide) ?_
                  exact ihN76 y87 y74 _ _ ls (by revert hN76 hy73 c78 hy87 hy77; first | omega | (simp only [vp_in_iff, Int32.lt_iff_toInt_lt, Int32.le_iff_toInt_le, Int64.lt_iff_toInt_lt, Int64.le_iff_toInt_le, Int32.toInt_toInt64, ← Int32.toInt_inj, ← Int64.toInt_inj, Int32.reduceToInt, Int64.reduceToInt] <;> omega)) (by revert hN76 hy73 c78 hy87 hy77; first | omega | (simp only [vp_in_iff, Int32.lt_iff_toInt_lt, Int32.le_iff_toInt_le, Int64.lt_iff_toInt_lt, Int64.le_iff_toInt_le, Int32.toInt_toInt64, ← Int32.toInt_inj, ← Int64.toInt_inj, Int32.reduceToInt, Int64.reduceToInt] <;> omega)) hP hD hS (lv_sub hl [0, 1, 2, 3, 4, 5, 6] rfl)
                · refine lv_iload hx hb dX2_waysToDraw_136 (lv_at hl 0 rfl) ?_
                  refine z_bi0 (z_runS (As := [.int y73]) (rest := []) C0 (s_J6_bitCount_0f7a4_1 l D k T y73 _) okS_J6_bitCount_0f7a4 kM_X2_145 rfl (z_p0 hT hS hA hK hN) rfl hl.1 rfl (Nat.le_of_ble_eq_true rfl) dX2_waysToDraw_138 rfl) hP hS hA (fun r88 u88 H locs hw88 hP hS => ?_)
                  obtain ⟨i88, a88, v88, w88, f88, g88, o88⟩ := u88
                  dsimp only at hw88
                  obtain ⟨rfl, hr88⟩ := hw88
                  refine lv_iload_n hx hb dX2_waysToDraw_141 rfl (lv_at hl 3 rfl) ?_
                  refine lv_icmp_ne (tgt := 148) hx hb dX2_waysToDraw_142 (by decide) (fun c89 => ?_) (fun c89 => ?_)
                  · obtain ⟨y90, ey90⟩ : ∃ q : Int32, q = y73 + 1 := ⟨_, rfl⟩
                    have hy90 : Int32.toInt y90 = Int32.toInt y73 + 1 := by rw [ey90]; exact zi_addc rfl (by decide) (by revert hN76 hy73 c78 hy77; first | omega | (simp only [vp_in_iff, Int32.lt_iff_toInt_lt, Int32.le_iff_toInt_le, Int64.lt_iff_toInt_lt, Int64.le_iff_toInt_le, Int32.toInt_toInt64, ← Int32.toInt_inj, ← Int64.toInt_inj, Int32.reduceToInt, Int64.reduceToInt] <;> omega))
                    refine lv_iinc (v := y90) (lv' := [(6, .int y90), (5, .int y74), (4, .int y30), (3, .int r29), (2, .int y24), (0, .ref q_0), (1, .int x_0)]) hx hb dX2_waysToDraw_148 hl (k := 0) rfl (by rw [ey90]; exact zz_inc (by decide)) (by decide) rfl (fun ls hl => ?_)
                    refine lv_goto (tgt := 106) hx hb dX2_waysToDraw_151 (by decide) ?_
                    exact ihN76 y90 y74 _ _ ls (by revert hN76 hy73 c78 hy90 hy77; first | omega | (simp only [vp_in_iff, Int32.lt_iff_toInt_lt, Int32.le_iff_toInt_le, Int64.lt_iff_toInt_lt, Int64.le_iff_toInt_le, Int32.toInt_toInt64, ← Int32.toInt_inj, ← Int64.toInt_inj, Int32.reduceToInt, Int64.reduceToInt] <;> omega)) (by revert hN76 hy73 c78 hy90 hy77; first | omega | (simp only [vp_in_iff, Int32.lt_iff_toInt_lt, Int32.le_iff_toInt_le, Int64.lt_iff_toInt_lt, Int64.le_iff_toInt_le, Int32.toInt_toInt64, ← Int32.toInt_inj, ← Int64.toInt_inj, Int32.reduceToInt, Int64.reduceToInt] <;> omega)) hP hD hS (lv_sub hl [0, 1, 2, 3, 4, 5, 6] rfl)
                  · obtain ⟨y91, ey91⟩ : ∃ q : Int32, q = y74 + 1 := ⟨_, rfl⟩
                    refine lv_iinc (v := y91) (lv' := [(5, .int y91), (6, .int y73), (4, .int y30), (3, .int r29), (2, .int y24), (0, .ref q_0), (1, .int x_0)]) hx hb dX2_waysToDraw_145 hl (k := 1) rfl (by rw [ey91]; exact zz_inc (by decide)) (by decide) rfl (fun ls hl => ?_)
                    obtain ⟨y92, ey92⟩ : ∃ q : Int32, q = y73 + 1 := ⟨_, rfl⟩
                    have hy92 : Int32.toInt y92 = Int32.toInt y73 + 1 := by rw [ey92]; exact zi_addc rfl (by decide) (by revert hN76 hy73 c78 hy77; first | omega | (simp only [vp_in_iff, Int32.lt_iff_toInt_lt, Int32.le_iff_toInt_le, Int64.lt_iff_toInt_lt, Int64.le_iff_toInt_le, Int32.toInt_toInt64, ← Int32.toInt_inj, ← Int64.toInt_inj, Int32.reduceToInt, Int64.reduceToInt] <;> omega))
                    refine lv_iinc (v := y92) (lv' := [(6, .int y92), (5, .int y91), (4, .int y30), (3, .int r29), (2, .int y24), (0, .ref q_0), (1, .int x_0)]) hx hb dX2_waysToDraw_148 hl (k := 1) rfl (by rw [ey92]; exact zz_inc (by decide)) (by decide) rfl (fun ls hl => ?_)
                    refine lv_goto (tgt := 106) hx hb dX2_waysToDraw_151 (by decide) ?_
                    exact ihN76 y92 y91 _ _ ls (by revert hN76 hy73 c78 hy92 hy77; first | omega | (simp only [vp_in_iff, Int32.lt_iff_toInt_lt, Int32.le_iff_toInt_le, Int64.lt_iff_toInt_lt, Int64.le_iff_toInt_le, Int32.toInt_toInt64, ← Int32.toInt_inj, ← Int64.toInt_inj, Int32.reduceToInt, Int64.reduceToInt] <;> omega)) (by revert hN76 hy73 c78 hy92 hy77; first | omega | (simp only [vp_in_iff, Int32.lt_iff_toInt_lt, Int32.le_iff_toInt_le, Int64.lt_iff_toInt_lt, Int64.le_iff_toInt_le, Int32.toInt_toInt64, ← Int32.toInt_inj, ← Int64.toInt_inj, Int32.reduceToInt, Int64.reduceToInt] <;> omega)) hP hD hS (lv_sub hl [0, 1, 2, 3, 4, 5, 6] rfl)
        exact loop75 _ 0 0 _ _ _ (Nat.lt_succ_self _) (by first | omega | (simp only [vp_in_iff, Int32.lt_iff_toInt_lt, Int32.le_iff_toInt_le, Int64.lt_iff_toInt_lt, Int64.le_iff_toInt_le, Int32.toInt_toInt64, ← Int32.toInt_inj, ← Int64.toInt_inj, Int32.reduceToInt, Int64.reduceToInt] <;> omega)) hP hD hS (lv_sub hl [0, 1, 2, 3, 4, 5, 6] rfl)
      · refine lv_iload_n hx hb dX2_waysToDraw_22 rfl (lv_at hl 1 rfl) ?_
        refine lv_aload_n hx hb dX2_waysToDraw_23 rfl (lv_at hl 2 rfl) ?_
        refine va_get (D := D) (ci := 2) (v := .ref q_2) (C := RX2) (T := TX2) (N := 14) hx hb hts inX2 hown hK hP 0 rfl rfl 1 (by decide) (hts _ kF_X2_48) (fun _ h9 => h9) rfl dX2_waysToDraw_24 ?_
        refine va_get (D := D) (ci := 4) (v := .ref q_3) (C := RX4) (T := TX4) (N := 13) hx hb hts inX4 hown hK hP 2 rfl rfl 11 (by decide) (hts _ kF_X2_139) (fun _ h9 => h9) rfl dX2_waysToDraw_27 ?_
        refine lv_iload_n hx hb dX2_waysToDraw_30 rfl (lv_at hl 0 rfl) ?_
        refine va_iald hx hb hK hP 3 0 rfl rfl (by revert hN27 hy23 c28 h_x_10; first | omega | (simp only [vp_in_iff, Int32.lt_iff_toInt_lt, Int32.le_iff_toInt_le, Int64.lt_iff_toInt_lt, Int64.le_iff_toInt_le, Int32.toInt_toInt64, ← Int32.toInt_inj, ← Int64.toInt_inj, Int32.reduceToInt, Int64.reduceToInt] <;> omega)) dX2_waysToDraw_31 ?_
        refine lv_topi (fun y93 ey93 => ?_)
        have hy93 : 0 ≤ Int32.toInt y93 ∧ Int32.toInt y93 ≤ 1 := by rw [ey93]; exact h_f_11 _
        refine lv_iload_n hx hb dX2_waysToDraw_32 rfl (lv_at hl 0 rfl) ?_
        refine lv_ishl hx hb dX2_waysToDraw_33 ?_
        refine lv_topi (fun y94 ey94 => ?_)
        have hy94 : 0 ≤ Int32.toInt y94 ∧ Int32.toInt y94 ≤ 2048 := by rw [ey94]; exact zo_shlb 11 (show 0 ≤ Int32.toInt y93 ∧ Int32.toInt y93 ≤ 1 by revert hN27 hy23 c28 hy93 h_x_10; first | omega | (simp only [vp_in_iff, Int32.lt_iff_toInt_lt, Int32.le_iff_toInt_le, Int64.lt_iff_toInt_lt, Int64.le_iff_toInt_le, Int32.toInt_toInt64, ← Int32.toInt_inj, ← Int64.toInt_inj, Int32.reduceToInt, Int64.reduceToInt] <;> omega)) (show 0 ≤ Int32.toInt y23 ∧ Int32.toInt y23 ≤ 11 by revert hN27 hy23 c28 hy93 h_x_10; first | omega | (simp only [vp_in_iff, Int32.lt_iff_toInt_lt, Int32.le_iff_toInt_le, Int64.lt_iff_toInt_lt, Int64.le_iff_toInt_le, Int32.toInt_toInt64, ← Int32.toInt_inj, ← Int64.toInt_inj, Int32.reduceToInt, Int64.reduceToInt] <;> omega)) (by decide)
        refine lv_ior hx hb dX2_waysToDraw_34 ?_
        refine lv_topi (fun y95 ey95 => ?_)
        have hy95 : 0 ≤ Int32.toInt y95 ∧ Int32.toInt y95 ≤ 4095 := by rw [ey95]; exact zo_or 12 (show 0 ≤ Int32.toInt y24 ∧ Int32.toInt y24 < 2 ^ 12 by revert hy24 hy94; first | omega | (simp only [vp_in_iff, Int32.lt_iff_toInt_lt, Int32.le_iff_toInt_le, Int64.lt_iff_toInt_lt, Int64.le_iff_toInt_le, Int32.toInt_toInt64, ← Int32.toInt_inj, ← Int64.toInt_inj, Int32.reduceToInt, Int64.reduceToInt] <;> omega)) (show 0 ≤ Int32.toInt y94 ∧ Int32.toInt y94 < 2 ^ 12 by revert hy24 hy94; first | omega | (simp only [vp_in_iff, Int32.lt_iff_toInt_lt, Int32.le_iff_toInt_le, Int64.lt_iff_toInt_lt, Int64.le_iff_toInt_le, Int32.toInt_toInt64, ← Int32.toInt_inj, ← Int64.toInt_inj, Int32.reduceToInt, Int64.reduceToInt] <;> omega)) (by decide)
        refine lv_istore_n (lv' := [(2, .int y95), (3, .int y23), (0, .ref q_0), (1, .int x_0)]) hx hb dX2_waysToDraw_35 rfl hl (by decide) rfl (fun ls hl => ?_)
        refine lv_iconst (v := 0) hx hb dX2_waysToDraw_36 (by decide) ?_
        refine lv_istore (lv' := [(4, .int 0), (2, .int y95), (3, .int y23), (0, .ref q_0), (1, .int x_0)]) hx hb dX2_waysToDraw_37 hl (by decide) rfl (fun ls hl => ?_)
        have loop124 : ∀ (N125 : Nat) (y122 : Int32) (F123 : Nat → Int32) (H : Heap) (locs : List Loc) (ls : Array Slot), Int.toNat (2048 - Int32.toInt y122) < N125 → 0 ≤ Int32.toInt y122 ∧ Int32.toInt y122 ≤ 2048 → va_P D vwCl [(q_0, .inr (2, [.ref q_5, .ref q_2, .ref q_6, .int x_1, .int x_2, .ref q_7, .ref q_8, .ref q_9, .int x_3, .int x_4, .int x_5, .ref q_10, .ref q_11, .ref q_1])), (q_1, .inl (k 0, 4608, .inl F123)), (q_2, .inr (4, [.int x_7, .ref q_12, .int x_8, .ref q_13, .ref q_14, .int x_9, .ref q_15, .ref q_16, .ref q_17, .int x_10, .ref q_18, .ref q_3, .ref q_4])), (q_3, .inl (k 0, 12, .inl f_11)), (q_4, .inl (k 0, 12, .inl f_12))] H → va_D A [(q_0, .inr (2, [.ref q_5, .ref q_2, .ref q_6, .int x_1, .int x_2, .ref q_7, .ref q_8, .ref q_9, .int x_3, .int x_4, .int x_5, .ref q_10, .ref q_11, .ref q_1])), (q_1, .inl (k 0, 4608, .inl F123)), (q_2, .inr (4, [.int x_7, .ref q_12, .int x_8, .ref q_13, .ref q_14, .int x_9, .ref q_15, .ref q_16, .ref q_17, .int x_10, .ref q_18, .ref q_3, .ref q_4])), (q_3, .inl (k 0, 12, .inl f_11)), (q_4, .inl (k 0, 12, .inl f_12))] → va_S A s.heap H locs → lv_has ls 7 [(4, .int y122), (2, .int y95), (3, .int y23), (0, .ref q_0), (1, .int x_0)] → W p l e { frames := 1, cells := 0, slots := 0, locals := 20 } s m args below meth c H locs 0 0 (MQ below (va_Qi (fun (r : Int32) (u : zS) => u.1 = 0) (zB D k A (fun (u : zS) => [(q_0, .inr (2, [.ref q_5, .ref q_2, .ref q_6, .int x_1, .int x_2, .ref q_7, .ref q_8, .ref q_9, .int x_3, .int x_4, .int x_5, .ref q_10, .ref q_11, .ref q_1])), (q_1, .inl (k 0, 4608, .inl (u.2.2.2.2.1 0))), (q_2, .inr (4, [.int x_7, .ref q_12, .int x_8, .ref q_13, .ref q_14, .int x_9, .ref q_15, .ref q_16, .ref q_17, .int x_10, .ref q_18, .ref q_3, .ref q_4])), (q_3, .inl (k 0, 12, .inl f_11)), (q_4, .inl (k 0, 12, .inl f_12))])) A) args s 0 0 A) (F0 m 39 ls []) := by
          intro N125
          induction N125 with
          | zero => intro y122 F123 H locs ls hm; exact absurd hm (Nat.not_lt_zero _)
          | succ N125 ihN125 =>
            intro y122 F123 H locs ls hN125 hy122 hP hD hS hl
            refine lv_iload hx hb dX2_waysToDraw_39 (lv_at hl 0 rfl) ?_
            refine lv_iconst (v := 1) hx hb dX2_waysToDraw_41 (by decide) ?_
            refine lv_iload_n hx hb dX2_waysToDraw_42 rfl (lv_at hl 2 rfl) ?_
            refine lv_ishl hx hb dX2_waysToDraw_43 ?_
            refine lv_topi (fun y126 ey126 => ?_)
            have hy126 : 1 ≤ Int32.toInt y126 ∧ Int32.toInt y126 ≤ 2048 := by rw [ey126]; exact zo_shl1 11 (show 0 ≤ Int32.toInt y23 ∧ Int32.toInt y23 ≤ 11 by revert hN27 hy23 c28 h_x_10; first | omega | (simp only [vp_in_iff, Int32.lt_iff_toInt_lt, Int32.le_iff_toInt_le, Int64.lt_iff_toInt_lt, Int64.le_iff_toInt_le, Int32.toInt_toInt64, ← Int32.toInt_inj, ← Int64.toInt_inj, Int32.reduceToInt, Int64.reduceToInt] <;> omega)) (by decide)
            refine lv_icmp_ge (tgt := 81) hx hb dX2_waysToDraw_44 (by decide) (fun c127 => ?_) (fun c127 => ?_)
            · obtain ⟨y128, ey128⟩ : ∃ q : Int32, q = y23 + 1 := ⟨_, rfl⟩
              have hy128 : Int32.toInt y128 = Int32.toInt y23 + 1 := by rw [ey128]; exact zi_addc rfl (by decide) (by revert hN27 hy23 c28 h_x_10; first | omega | (simp only [vp_in_iff, Int32.lt_iff_toInt_lt, Int32.le_iff_toInt_le, Int64.lt_iff_toInt_lt, Int64.le_iff_toInt_le, Int32.toInt_toInt64, ← Int32.toInt_inj, ← Int64.toInt_inj, Int32.reduceToInt, Int64.reduceToInt] <;> omega))
              refine lv_iinc (v := y128) (lv' := [(3, .int y128), (4, .int y122), (2, .int y95), (0, .ref q_0), (1, .int x_0)]) hx hb dX2_waysToDraw_81 hl (k := 2) rfl (by rw [ey128]; exact zz_inc (by decide)) (by decide) rfl (fun ls hl => ?_)
              refine lv_goto (tgt := 11) hx hb dX2_waysToDraw_84 (by decide) ?_
              exact ihN27 y128 y95 F123 _ _ ls (by revert hN27 hy23 c28 hy128 h_x_10; first | omega | (simp only [vp_in_iff, Int32.lt_iff_toInt_lt, Int32.le_iff_toInt_le, Int64.lt_iff_toInt_lt, Int64.le_iff_toInt_le, Int32.toInt_toInt64, ← Int32.toInt_inj, ← Int64.toInt_inj, Int32.reduceToInt, Int64.reduceToInt] <;> omega)) (by revert hN27 hy23 c28 hy128 h_x_10; first | omega | (simp only [vp_in_iff, Int32.lt_iff_toInt_lt, Int32.le_iff_toInt_le, Int64.lt_iff_toInt_lt, Int64.le_iff_toInt_le, Int32.toInt_toInt64, ← Int32.toInt_inj, ← Int64.toInt_inj, Int32.reduceToInt, Int64.reduceToInt] <;> omega)) (by revert hy95; first | omega | (simp only [vp_in_iff, Int32.lt_iff_toInt_lt, Int32.le_iff_toInt_le, Int64.lt_iff_toInt_lt, Int64.le_iff_toInt_le, Int32.toInt_toInt64, ← Int32.toInt_inj, ← Int64.toInt_inj, Int32.reduceToInt, Int64.reduceToInt] <;> omega)) hP hD hS (lv_sub hl [0, 2, 3, 4] rfl)
            · refine lv_aload_n hx hb dX2_waysToDraw_47 rfl (lv_at hl 3 rfl) ?_
              refine va_get (D := D) (ci := 2) (v := .ref q_1) (C := RX2) (T := TX2) (N := 14) hx hb hts inX2 hown hK hP 0 rfl rfl 13 (by decide) (hts _ kF_X2_34) (fun _ h9 => h9) rfl dX2_waysToDraw_48 ?_
              refine lv_iconst (v := 1) hx hb dX2_waysToDraw_51 (by decide) ?_
              refine lv_iload_n hx hb dX2_waysToDraw_52 rfl (lv_at hl 2 rfl) ?_
              refine lv_ishl hx hb dX2_waysToDraw_53 ?_
              refine lv_topi (fun y129 ey129 => ?_)
              have hy129 : 1 ≤ Int32.toInt y129 ∧ Int32.toInt y129 ≤ 2048 := by rw [ey129]; exact zo_shl1 11 (show 0 ≤ Int32.toInt y23 ∧ Int32.toInt y23 ≤ 11 by revert hN27 hy23 c28 h_x_10; first | omega | (simp only [vp_in_iff, Int32.lt_iff_toInt_lt, Int32.le_iff_toInt_le, Int64.lt_iff_toInt_lt, Int64.le_iff_toInt_le, Int32.toInt_toInt64, ← Int32.toInt_inj, ← Int64.toInt_inj, Int32.reduceToInt, Int64.reduceToInt] <;> omega)) (by decide)
              refine lv_iload hx hb dX2_waysToDraw_54 (lv_at hl 0 rfl) ?_
              refine lv_ior hx hb dX2_waysToDraw_56 ?_
              refine lv_topi (fun y130 ey130 => ?_)
              have hy130 : 0 ≤ Int32.toInt y130 ∧ Int32.toInt y130 ≤ 4095 := by rw [ey130]; exact zo_or 12 (show 0 ≤ Int32.toInt y129 ∧ Int32.toInt y129 < 2 ^ 12 by revert hN125 hy122 c127 hy129 hy126; first | omega | (simp only [vp_in_iff, Int32.lt_iff_toInt_lt, Int32.le_iff_toInt_le, Int64.lt_iff_toInt_lt, Int64.le_iff_toInt_le, Int32.toInt_toInt64, ← Int32.toInt_inj, ← Int64.toInt_inj, Int32.reduceToInt, Int64.reduceToInt] <;> omega)) (show 0 ≤ Int32.toInt y122 ∧ Int32.toInt y122 < 2 ^ 12 by revert hN125 hy122 c127 hy129 hy126; first | omega | (simp only [vp_in_iff, Int32.lt_iff_toInt_lt, Int32.le_iff_toInt_le, Int64.lt_iff_toInt_lt, Int64.le_iff_toInt_le, Int32.toInt_toInt64, ← Int32.toInt_inj, ← Int64.toInt_inj, Int32.reduceToInt, Int64.reduceToInt] <;> omega)) (by decide)
              refine lv_aload_n hx hb dX2_waysToDraw_57 rfl (lv_at hl 3 rfl) ?_
              refine va_get (D := D) (ci := 2) (v := .ref q_1) (C := RX2) (T := TX2) (N := 14) hx hb hts inX2 hown hK hP 0 rfl rfl 13 (by decide) (hts _ kF_X2_34) (fun _ h9 => h9) rfl dX2_waysToDraw_58 ?_
              refine lv_iload hx hb dX2_waysToDraw_61 (lv_at hl 0 rfl) ?_
              refine va_iald hx hb hK hP 1 0 rfl rfl (by revert hN125 hy122 c127 hy126; first | omega | (simp only [vp_in_iff, Int32.lt_iff_toInt_lt, Int32.le_iff_toInt_le, Int64.lt_iff_toInt_lt, Int64.le_iff_toInt_le, Int32.toInt_toInt64, ← Int32.toInt_inj, ← Int64.toInt_inj, Int32.reduceToInt, Int64.reduceToInt] <;> omega)) dX2_waysToDraw_63 ?_
              refine lv_topi (fun y131 ey131 => ?_)
              refine lv_aload_n hx hb dX2_waysToDraw_64 rfl (lv_at hl 3 rfl) ?_
              refine va_get (D := D) (ci := 2) (v := .ref q_2) (C := RX2) (T := TX2) (N := 14) hx hb hts inX2 hown hK hP 0 rfl rfl 1 (by decide) (hts _ kF_X2_48) (fun _ h9 => h9) rfl dX2_waysToDraw_65 ?_
              refine va_get (D := D) (ci := 4) (v := .ref q_4) (C := RX4) (T := TX4) (N := 13) hx hb hts inX4 hown hK hP 2 rfl rfl 12 (by decide) (hts _ kF_X2_142) (fun _ h9 => h9) rfl dX2_waysToDraw_68 ?_
              refine lv_iload_n hx hb dX2_waysToDraw_71 rfl (lv_at hl 2 rfl) ?_
              refine va_iald hx hb hK hP 4 0 rfl rfl (by revert hN27 hy23 c28 h_x_10; first | omega | (simp only [vp_in_iff, Int32.lt_iff_toInt_lt, Int32.le_iff_toInt_le, Int64.lt_iff_toInt_lt, Int64.le_iff_toInt_le, Int32.toInt_toInt64, ← Int32.toInt_inj, ← Int64.toInt_inj, Int32.reduceToInt, Int64.reduceToInt] <;> omega)) dX2_waysToDraw_72 ?_
              refine lv_topi (fun y132 ey132 => ?_)
              refine lv_iadd hx hb dX2_waysToDraw_73 ?_
              refine lv_topi (fun y133 ey133 => ?_)
              refine va_iast hx hb hK hP hD hS 1 0 rfl rfl (by revert hy130; first | omega | (simp only [vp_in_iff, Int32.lt_iff_toInt_lt, Int32.le_iff_toInt_le, Int64.lt_iff_toInt_lt, Int64.le_iff_toInt_le, Int32.toInt_toInt64, ← Int32.toInt_inj, ← Int64.toInt_inj, Int32.reduceToInt, Int64.reduceToInt] <;> omega)) dX2_waysToDraw_74 (fun H locs hP hD hS => ?_)
              obtain ⟨F134, eF134⟩ : ∃ q, q = upd F123 (Int32.toNatClampNeg y130) y133 := ⟨_, rfl⟩
              have hP : va_P D vwCl [(q_0, .inr (2, [.ref q_5, .ref q_2, .ref q_6, .int x_1, .int x_2, .ref q_7, .ref q_8, .ref q_9, .int x_3, .int x_4, .int x_5, .ref q_10, .ref q_11, .ref q_1])), (q_1, .inl (k 0, 4608, .inl F134)), (q_2, .inr (4, [.int x_7, .ref q_12, .int x_8, .ref q_13, .ref q_14, .int x_9, .ref q_15, .ref q_16, .ref q_17, .int x_10, .ref q_18, .ref q_3, .ref q_4])), (q_3, .inl (k 0, 12, .inl f_11)), (q_4, .inl (k 0, 12, .inl f_12))] H := by rw [eF134]; exact hP
              have hD : va_D A [(q_0, .inr (2, [.ref q_5, .ref q_2, .ref q_6, .int x_1, .int x_2, .ref q_7, .ref q_8, .ref q_9, .int x_3, .int x_4, .int x_5, .ref q_10, .ref q_11, .ref q_1])), (q_1, .inl (k 0, 4608, .inl F134)), (q_2, .inr (4, [.int x_7, .ref q_12, .int x_8, .ref q_13, .ref q_14, .int x_9, .ref q_15, .ref q_16, .ref q_17, .int x_10, .ref q_18, .ref q_3, .ref q_4])), (q_3, .inl (k 0, 12, .inl f_11)), (q_4, .inl (k 0, 12, .inl f_12))] := by rw [eF134]; exact hD
              obtain ⟨y135, ey135⟩ : ∃ q : Int32, q = y122 + 1 := ⟨_, rfl⟩
              have hy135 : Int32.toInt y135 = Int32.toInt y122 + 1 := by rw [ey135]; exact zi_addc rfl (by decide) (by revert hN125 hy122 c127 hy126; first | omega | (simp only [vp_in_iff, Int32.lt_iff_toInt_lt, Int32.le_iff_toInt_le, Int64.lt_iff_toInt_lt, Int64.le_iff_toInt_le, Int32.toInt_toInt64, ← Int32.toInt_inj, ← Int64.toInt_inj, Int32.reduceToInt, Int64.reduceToInt] <;> omega))
              refine lv_iinc (v := y135) (lv' := [(4, .int y135), (2, .int y95), (3, .int y23), (0, .ref q_0), (1, .int x_0)]) hx hb dX2_waysToDraw_75 hl (k := 0) rfl (by rw [ey135]; exact zz_inc (by decide)) (by decide) rfl (fun ls hl => ?_)
              refine lv_goto (tgt := 39) hx hb dX2_waysToDraw_78 (by decide) ?_
              exact ihN125 y135 F134 _ _ ls (by revert hN125 hy122 c127 hy135 hy126; first | omega | (simp only [vp_in_iff, Int32.lt_iff_toInt_lt, Int32.le_iff_toInt_le, Int64.lt_iff_toInt_lt, Int64.le_iff_toInt_le, Int32.toInt_toInt64, ← Int32.toInt_inj, ← Int64.toInt_inj, Int32.reduceToInt, Int64.reduceToInt] <;> omega)) (by revert hN125 hy122 c127 hy135 hy126; first | omega | (simp only [vp_in_iff, Int32.lt_iff_toInt_lt, Int32.le_iff_toInt_le, Int64.lt_iff_toInt_lt, Int64.le_iff_toInt_le, Int32.toInt_toInt64, ← Int32.toInt_inj, ← Int64.toInt_inj, Int32.reduceToInt, Int64.reduceToInt] <;> omega)) hP hD hS (lv_sub hl [0, 1, 2, 3, 4] rfl)
        exact loop124 _ 0 F25 _ _ _ (Nat.lt_succ_self _) (by first | omega | (simp only [vp_in_iff, Int32.lt_iff_toInt_lt, Int32.le_iff_toInt_le, Int64.lt_iff_toInt_lt, Int64.le_iff_toInt_le, Int32.toInt_toInt64, ← Int32.toInt_inj, ← Int64.toInt_inj, Int32.reduceToInt, Int64.reduceToInt] <;> omega)) hP hD hS (lv_sub hl [0, 1, 2, 3, 4] rfl)
  exact loop26 _ 0 0 F1 _ _ _ (Nat.lt_succ_self _) (by first | omega | (simp only [vp_in_iff, Int32.lt_iff_toInt_lt, Int32.le_iff_toInt_le, Int64.lt_iff_toInt_lt, Int64.le_iff_toInt_le, Int32.toInt_toInt64, ← Int32.toInt_inj, ← Int64.toInt_inj, Int32.reduceToInt, Int64.reduceToInt] <;> omega)) (by first | omega | (simp only [vp_in_iff, Int32.lt_iff_toInt_lt, Int32.le_iff_toInt_le, Int64.lt_iff_toInt_lt, Int64.le_iff_toInt_le, Int32.toInt_toInt64, ← Int32.toInt_inj, ← Int64.toInt_inj, Int32.reduceToInt, Int64.reduceToInt] <;> omega)) hP hD hS (lv_sub hl [0, 1, 2, 3] rfl)

set_option maxHeartbeats 4000000 in
set_option maxRecDepth 100000 in
theorem s_X11_helped_1 (l : Launch) (D : va_G) (k : Nat → ClassId) (T : zTy) (q_0 : Nat) (q_1 : Nat) (q_2 : Nat) (q_3 : Nat) (q_4 : Nat) (q_5 : Nat) (q_6 : Nat) (q_7 : Nat) (q_8 : Nat) (q_9 : Nat) (q_10 : Nat) (q_11 : Nat) (q_12 : Nat) (q_13 : Nat) (q_14 : Nat) (q_15 : Nat) (q_16 : Nat) (q_17 : Nat) (q_18 : Nat) (q_19 : Nat) (q_20 : Nat) (q_21 : Nat) (q_22 : Nat) (q_23 : Nat) (x_0 : Int32) (x_1 : Int32) (x_2 : Int32) (x_3 : Int32) (x_4 : Int32) (x_5 : Int32) (x_6 : Int32) (f_7 : Nat → Int32) (x_8 : Int32) (x_9 : Int32) (x_10 : Int32) (x_11 : Int32) (f_12 : Nat → Int32) (f_13 : Nat → Int32) (h_x_2 : 0 ≤ Int32.toInt x_2 ∧ Int32.toInt x_2 ≤ 6) (h_x_8 : 0 ≤ Int32.toInt x_8 ∧ Int32.toInt x_8 ≤ 6) (h_x_9 : 0 ≤ Int32.toInt x_9 ∧ Int32.toInt x_9 ≤ 6) (h_x_10 : 0 ≤ Int32.toInt x_10 ∧ Int32.toInt x_10 ≤ 9) (h_x_11 : 0 ≤ Int32.toInt x_11 ∧ Int32.toInt x_11 ≤ 12) (h_f_12 : zR f_12 0 1) : zMi l yX11_helped cX11_helped 2 (some .int) ({ frames := 2, cells := 0, slots := 0, locals := 46 }) D k T [.ref q_0, .int x_0] [(q_0, .inr (11, [.ref q_6, .ref q_7, .ref q_8, .ref q_9, .ref q_1, .int x_1])), (q_1, .inr (2, [.ref q_10, .ref q_3, .ref q_11, .int x_2, .int x_3, .ref q_12, .ref q_13, .ref q_14, .int x_4, .int x_5, .int x_6, .ref q_15, .ref q_16, .ref q_2])), (q_2, .inl (k 0, 4608, .inl f_7)), (q_3, .inr (4, [.int x_8, .ref q_17, .int x_9, .ref q_18, .ref q_19, .int x_10, .ref q_20, .ref q_21, .ref q_22, .int x_11, .ref q_23, .ref q_4, .ref q_5])), (q_4, .inl (k 0, 12, .inl f_12)), (q_5, .inl (k 0, 12, .inl f_13))] (fun r u => u.1 = 0) (fun u => [(q_0, .inr (11, [.ref q_6, .ref q_7, .ref q_8, .ref q_9, .ref q_1, .int x_1])), (q_1, .inr (2, [.ref q_10, .ref q_3, .ref q_11, .int x_2, .int x_3, .ref q_12, .ref q_13, .ref q_14, .int x_4, .int x_5, .int x_6, .ref q_15, .ref q_16, .ref q_2])), (q_2, .inl (k 0, 4608, .inl (u.2.2.2.2.1 0))), (q_3, .inr (4, [.int x_8, .ref q_17, .int x_9, .ref q_18, .ref q_19, .int x_10, .ref q_20, .ref q_21, .ref q_22, .int x_11, .ref q_23, .ref q_4, .ref q_5])), (q_4, .inl (k 0, 12, .inl f_12)), (q_5, .inl (k 0, 12, .inl f_13))]) := by
  refine zMi_of (own := RX11) (by decide +kernel) rfl (Nat.le_of_ble_eq_true rfl) ?_
  intro p e s m args below meth c A ls C0 hr hlk hin hP hD hS hA hK hN hT hl
  have hx := C0.1
  have hb := C0.2.1
  have hml := C0.2.2.1
  have hown := C0.2.2.2.1
  have hts := C0.2.2.2.2
  have hl : lv_has ls 2 [(0, .ref q_0), (1, .int x_0)] := hl
  have hP : va_P D vwCl [(q_0, .inr (11, [.ref q_6, .ref q_7, .ref q_8, .ref q_9, .ref q_1, .int x_1])), (q_1, .inr (2, [.ref q_10, .ref q_3, .ref q_11, .int x_2, .int x_3, .ref q_12, .ref q_13, .ref q_14, .int x_4, .int x_5, .int x_6, .ref q_15, .ref q_16, .ref q_2])), (q_2, .inl (k 0, 4608, .inl f_7)), (q_3, .inr (4, [.int x_8, .ref q_17, .int x_9, .ref q_18, .ref q_19, .int x_10, .ref q_20, .ref q_21, .ref q_22, .int x_11, .ref q_23, .ref q_4, .ref q_5])), (q_4, .inl (k 0, 12, .inl f_12)), (q_5, .inl (k 0, 12, .inl f_13))] s.heap := hP
  refine lv_iload_n hx hb dX11_helped_0 rfl (lv_at hl 1 rfl) ?_
  refine lv_iconst (v := 0) hx hb dX11_helped_1 (by decide) ?_
  refine lv_iconst (v := 1) hx hb dX11_helped_2 (by decide) ?_
  refine z_bi0 (z_runS (As := [.int x_0, .int 0, .int 1]) (rest := []) C0 (s_X11_isOutside_1 l D k T x_0 0 1 _) okS_X11_isOutside kM_X11_47 rfl (z_p0 hT hS hA hK hN) rfl hl.1 rfl (Nat.le_of_ble_eq_true rfl) dX11_helped_3 rfl) hP hS hA (fun r1 u1 H locs hw1 hP hS => ?_)
  obtain ⟨i1, a1, v1, w1, f1, g1, o1⟩ := u1
  dsimp only at hw1
  rcases hw1 with ⟨rfl, rfl, c1⟩ | ⟨rfl, rfl, c1⟩
  · refine lv_if_eq (tgt := 13) hx hb dX11_helped_6 (by decide) (fun c2 => absurd c2 (by decide)) (fun _ => ?_)
    refine lv_iconst (v := (-1)) hx hb dX11_helped_9 (by decide) ?_
    refine lv_goto (tgt := 29) hx hb dX11_helped_10 (by decide) ?_
    exact z_iret C0 hr hlk rfl hK hP hD hS (0, fun _ => 0, fun _ => 0, fun _ => 0, fun i => [f_7].getD i (fun _ => 0), fun _ => (fun _ => 0), fun _ => (fun _ => none)) rfl [0, 1, 2, 3, 4, 5] rfl rfl rfl dX11_helped_29
  · refine lv_if_eq (tgt := 13) hx hb dX11_helped_6 (by decide) (fun _ => ?_) (fun c3 => absurd (by decide) c3)
    refine lv_aload_n hx hb dX11_helped_13 rfl (lv_at hl 0 rfl) ?_
    refine va_get (D := D) (ci := 11) (v := .ref q_1) (C := RX11) (T := TX11) (N := 6) hx hb hts inX11 hown hK hP 0 rfl rfl 4 (by decide) (hts _ kF_X11_39) (fun _ h9 => h9) rfl dX11_helped_14 ?_
    refine lv_iload_n hx hb dX11_helped_17 rfl (lv_at hl 1 rfl) ?_
    refine lv_if_ne (tgt := 25) hx hb dX11_helped_18 (by decide) (fun c4 => ?_) (fun c4 => ?_)
    · refine lv_iconst (v := 0) hx hb dX11_helped_25 (by decide) ?_
      refine z_bi (wr := [(q_0, .inr (11, [.ref q_6, .ref q_7, .ref q_8, .ref q_9, .ref q_1, .int x_1]))]) (z_runV (C := RX2) (As := [.int 0]) (rest := []) C0 (s_X2_waysToDraw_1 l D k T q_1 q_2 q_3 q_4 q_5 q_10 q_11 q_12 q_13 q_14 q_15 q_16 q_17 q_18 q_19 q_20 q_21 q_22 q_23 0 x_2 x_3 x_4 x_5 x_6 f_7 x_8 x_9 x_10 x_11 f_12 f_13 (by revert h_x_2; first | omega | (simp only [vp_in_iff, Int32.lt_iff_toInt_lt, Int32.le_iff_toInt_le, Int64.lt_iff_toInt_lt, Int64.le_iff_toInt_le, Int32.toInt_toInt64, ← Int32.toInt_inj, ← Int64.toInt_inj, Int32.reduceToInt, Int64.reduceToInt] <;> omega)) (by revert h_x_8; first | omega | (simp only [vp_in_iff, Int32.lt_iff_toInt_lt, Int32.le_iff_toInt_le, Int64.lt_iff_toInt_lt, Int64.le_iff_toInt_le, Int32.toInt_toInt64, ← Int32.toInt_inj, ← Int64.toInt_inj, Int32.reduceToInt, Int64.reduceToInt] <;> omega)) (by revert h_x_9; first | omega | (simp only [vp_in_iff, Int32.lt_iff_toInt_lt, Int32.le_iff_toInt_le, Int64.lt_iff_toInt_lt, Int64.le_iff_toInt_le, Int32.toInt_toInt64, ← Int32.toInt_inj, ← Int64.toInt_inj, Int32.reduceToInt, Int64.reduceToInt] <;> omega)) (by revert h_x_10; first | omega | (simp only [vp_in_iff, Int32.lt_iff_toInt_lt, Int32.le_iff_toInt_le, Int64.lt_iff_toInt_lt, Int64.le_iff_toInt_le, Int32.toInt_toInt64, ← Int32.toInt_inj, ← Int64.toInt_inj, Int32.reduceToInt, Int64.reduceToInt] <;> omega)) (by revert h_x_11; first | omega | (simp only [vp_in_iff, Int32.lt_iff_toInt_lt, Int32.le_iff_toInt_le, Int64.lt_iff_toInt_lt, Int64.le_iff_toInt_le, Int32.toInt_toInt64, ← Int32.toInt_inj, ← Int64.toInt_inj, Int32.reduceToInt, Int64.reduceToInt] <;> omega)) h_f_12 _) okV_X2_waysToDraw kM_X11_361 rfl (z_pV (q0 := 1) hT hS hA hK hN hP hD [1, 2, 3, 4, 5] rfl rfl rfl rfl rfl) rfl hl.1 rfl (Nat.le_of_ble_eq_true rfl) dX11_helped_26 rfl) hP hD hS hA [1, 2, 3, 4, 5] [0] rfl rfl rfl rfl (fun r5 u5 H locs hw5 hP hD hS => ?_)
      obtain ⟨i5, a5, v5, w5, f5, g5, o5⟩ := u5
      dsimp only at hw5
      obtain rfl := hw5
      have hP : va_P D vwCl [(q_0, .inr (11, [.ref q_6, .ref q_7, .ref q_8, .ref q_9, .ref q_1, .int x_1])), (q_1, .inr (2, [.ref q_10, .ref q_3, .ref q_11, .int x_2, .int x_3, .ref q_12, .ref q_13, .ref q_14, .int x_4, .int x_5, .int x_6, .ref q_15, .ref q_16, .ref q_2])), (q_2, .inl (k 0, 4608, .inl (f5 0))), (q_3, .inr (4, [.int x_8, .ref q_17, .int x_9, .ref q_18, .ref q_19, .int x_10, .ref q_20, .ref q_21, .ref q_22, .int x_11, .ref q_23, .ref q_4, .ref q_5])), (q_4, .inl (k 0, 12, .inl f_12)), (q_5, .inl (k 0, 12, .inl f_13))] H := hP
      have hD : va_D A [(q_0, .inr (11, [.ref q_6, .ref q_7, .ref q_8, .ref q_9, .ref q_1, .int x_1])), (q_1, .inr (2, [.ref q_10, .ref q_3, .ref q_11, .int x_2, .int x_3, .ref q_12, .ref q_13, .ref q_14, .int x_4, .int x_5, .int x_6, .ref q_15, .ref q_16, .ref q_2])), (q_2, .inl (k 0, 4608, .inl (f5 0))), (q_3, .inr (4, [.int x_8, .ref q_17, .int x_9, .ref q_18, .ref q_19, .int x_10, .ref q_20, .ref q_21, .ref q_22, .int x_11, .ref q_23, .ref q_4, .ref q_5])), (q_4, .inl (k 0, 12, .inl f_12)), (q_5, .inl (k 0, 12, .inl f_13))] := hD
      exact z_iret C0 hr hlk rfl hK hP hD hS (0, fun _ => 0, fun _ => 0, fun _ => 0, fun i => [(f5 0)].getD i (fun _ => 0), fun _ => (fun _ => 0), fun _ => (fun _ => none)) rfl [0, 1, 2, 3, 4, 5] rfl rfl rfl dX11_helped_29
    · refine lv_iconst (v := 1) hx hb dX11_helped_21 (by decide) ?_
      refine lv_goto (tgt := 26) hx hb dX11_helped_22 (by decide) ?_
      refine z_bi (wr := [(q_0, .inr (11, [.ref q_6, .ref q_7, .ref q_8, .ref q_9, .ref q_1, .int x_1]))]) (z_runV (C := RX2) (As := [.int 1]) (rest := []) C0 (s_X2_waysToDraw_1 l D k T q_1 q_2 q_3 q_4 q_5 q_10 q_11 q_12 q_13 q_14 q_15 q_16 q_17 q_18 q_19 q_20 q_21 q_22 q_23 1 x_2 x_3 x_4 x_5 x_6 f_7 x_8 x_9 x_10 x_11 f_12 f_13 (by revert h_x_2; first | omega | (simp only [vp_in_iff, Int32.lt_iff_toInt_lt, Int32.le_iff_toInt_le, Int64.lt_iff_toInt_lt, Int64.le_iff_toInt_le, Int32.toInt_toInt64, ← Int32.toInt_inj, ← Int64.toInt_inj, Int32.reduceToInt, Int64.reduceToInt] <;> omega)) (by revert h_x_8; first | omega | (simp only [vp_in_iff, Int32.lt_iff_toInt_lt, Int32.le_iff_toInt_le, Int64.lt_iff_toInt_lt, Int64.le_iff_toInt_le, Int32.toInt_toInt64, ← Int32.toInt_inj, ← Int64.toInt_inj, Int32.reduceToInt, Int64.reduceToInt] <;> omega)) (by revert h_x_9; first | omega | (simp only [vp_in_iff, Int32.lt_iff_toInt_lt, Int32.le_iff_toInt_le, Int64.lt_iff_toInt_lt, Int64.le_iff_toInt_le, Int32.toInt_toInt64, ← Int32.toInt_inj, ← Int64.toInt_inj, Int32.reduceToInt, Int64.reduceToInt] <;> omega)) (by revert h_x_10; first | omega | (simp only [vp_in_iff, Int32.lt_iff_toInt_lt, Int32.le_iff_toInt_le, Int64.lt_iff_toInt_lt, Int64.le_iff_toInt_le, Int32.toInt_toInt64, ← Int32.toInt_inj, ← Int64.toInt_inj, Int32.reduceToInt, Int64.reduceToInt] <;> omega)) (by revert h_x_11; first | omega | (simp only [vp_in_iff, Int32.lt_iff_toInt_lt, Int32.le_iff_toInt_le, Int64.lt_iff_toInt_lt, Int64.le_iff_toInt_le, Int32.toInt_toInt64, ← Int32.toInt_inj, ← Int64.toInt_inj, Int32.reduceToInt, Int64.reduceToInt] <;> omega)) h_f_12 _) okV_X2_waysToDraw kM_X11_361 rfl (z_pV (q0 := 1) hT hS hA hK hN hP hD [1, 2, 3, 4, 5] rfl rfl rfl rfl rfl) rfl hl.1 rfl (Nat.le_of_ble_eq_true rfl) dX11_helped_26 rfl) hP hD hS hA [1, 2, 3, 4, 5] [0] rfl rfl rfl rfl (fun r6 u6 H locs hw6 hP hD hS => ?_)
      obtain ⟨i6, a6, v6, w6, f6, g6, o6⟩ := u6
      dsimp only at hw6
      obtain rfl := hw6
      have hP : va_P D vwCl [(q_0, .inr (11, [.ref q_6, .ref q_7, .ref q_8, .ref q_9, .ref q_1, .int x_1])), (q_1, .inr (2, [.ref q_10, .ref q_3, .ref q_11, .int x_2, .int x_3, .ref q_12, .ref q_13, .ref q_14, .int x_4, .int x_5, .int x_6, .ref q_15, .ref q_16, .ref q_2])), (q_2, .inl (k 0, 4608, .inl (f6 0))), (q_3, .inr (4, [.int x_8, .ref q_17, .int x_9, .ref q_18, .ref q_19, .int x_10, .ref q_20, .ref q_21, .ref q_22, .int x_11, .ref q_23, .ref q_4, .ref q_5])), (q_4, .inl (k 0, 12, .inl f_12)), (q_5, .inl (k 0, 12, .inl f_13))] H := hP
      have hD : va_D A [(q_0, .inr (11, [.ref q_6, .ref q_7, .ref q_8, .ref q_9, .ref q_1, .int x_1])), (q_1, .inr (2, [.ref q_10, .ref q_3, .ref q_11, .int x_2, .int x_3, .ref q_12, .ref q_13, .ref q_14, .int x_4, .int x_5, .int x_6, .ref q_15, .ref q_16, .ref q_2])), (q_2, .inl (k 0, 4608, .inl (f6 0))), (q_3, .inr (4, [.int x_8, .ref q_17, .int x_9, .ref q_18, .ref q_19, .int x_10, .ref q_20, .ref q_21, .ref q_22, .int x_11, .ref q_23, .ref q_4, .ref q_5])), (q_4, .inl (k 0, 12, .inl f_12)), (q_5, .inl (k 0, 12, .inl f_13))] := hD
      exact z_iret C0 hr hlk rfl hK hP hD hS (0, fun _ => 0, fun _ => 0, fun _ => 0, fun i => [(f6 0)].getD i (fun _ => 0), fun _ => (fun _ => 0), fun _ => (fun _ => none)) rfl [0, 1, 2, 3, 4, 5] rfl rfl rfl dX11_helped_29
