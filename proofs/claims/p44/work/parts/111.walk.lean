set_option maxHeartbeats 4000000 in
set_option maxRecDepth 100000 in
theorem s_J6_bitCount_0f7a4_1 (l : Launch) (D : va_G) (k : Nat → ClassId) (x_0 : Int32) : zMi l yJ6_bitCount_0f7a4 cJ6_bitCount_0f7a4 1 (some .int) ({ frames := 0, cells := 0, slots := 0, locals := 0 }) D k [.int x_0] [] (fun r u => u.1 = 0 ∧ (0 ≤ Int32.toInt r ∧ Int32.toInt r ≤ 63)) (fun u => []) := by
  refine zMi_of (own := RJ6) (by decide +kernel) rfl (Nat.le_of_ble_eq_true rfl) ?_
  intro p e s m args below meth c A ls C0 hr hlk hin hP hD hS hA hK hN hl
  have hx := C0.1
  have hb := C0.2.1
  have hml := C0.2.2.1
  have hown := C0.2.2.2.1
  have hts := C0.2.2.2.2
  have hl : lv_has ls 1 [(0, .int x_0)] := hl
  have hP : va_P D vwCl [] s.heap := hP
  refine lv_iload_n hx hb dJ6_bitCount_0f7a4_0 rfl (lv_at hl 0 rfl) ?_
  refine lv_iload_n hx hb dJ6_bitCount_0f7a4_1 rfl (lv_at hl 0 rfl) ?_
  refine lv_iconst (v := 1) hx hb dJ6_bitCount_0f7a4_2 (by decide) ?_
  refine lv_iushr hx hb dJ6_bitCount_0f7a4_3 rfl ?_
  refine lv_topi (fun y1 ey1 => ?_)
  refine lv_ldcw hx hb hown (hts _ kK_J6_265) dJ6_bitCount_0f7a4_4 ?_
  refine lv_iand hx hb dJ6_bitCount_0f7a4_7 ?_
  refine lv_topi (fun y2 ey2 => ?_)
  have hy2 : 0 ≤ Int32.toInt y2 ∧ Int32.toInt y2 ≤ 1431655765 := by rw [ey2]; exact zo_and _ (by decide)
  refine lv_isub hx hb dJ6_bitCount_0f7a4_8 ?_
  refine lv_topi (fun y3 ey3 => ?_)
  refine lv_istore_n (lv' := [(0, .int y3)]) hx hb dJ6_bitCount_0f7a4_9 rfl hl (by decide) rfl (fun ls hl => ?_)
  refine lv_iload_n hx hb dJ6_bitCount_0f7a4_10 rfl (lv_at hl 0 rfl) ?_
  refine lv_ldcw hx hb hown (hts _ kK_J6_266) dJ6_bitCount_0f7a4_11 ?_
  refine lv_iand hx hb dJ6_bitCount_0f7a4_14 ?_
  refine lv_topi (fun y4 ey4 => ?_)
  have hy4 : 0 ≤ Int32.toInt y4 ∧ Int32.toInt y4 ≤ 858993459 := by rw [ey4]; exact zo_and _ (by decide)
  refine lv_iload_n hx hb dJ6_bitCount_0f7a4_15 rfl (lv_at hl 0 rfl) ?_
  refine lv_iconst (v := 2) hx hb dJ6_bitCount_0f7a4_16 (by decide) ?_
  refine lv_iushr hx hb dJ6_bitCount_0f7a4_17 rfl ?_
  refine lv_topi (fun y5 ey5 => ?_)
  refine lv_ldcw hx hb hown (hts _ kK_J6_266) dJ6_bitCount_0f7a4_18 ?_
  refine lv_iand hx hb dJ6_bitCount_0f7a4_21 ?_
  refine lv_topi (fun y6 ey6 => ?_)
  have hy6 : 0 ≤ Int32.toInt y6 ∧ Int32.toInt y6 ≤ 858993459 := by rw [ey6]; exact zo_and _ (by decide)
  refine lv_iadd hx hb dJ6_bitCount_0f7a4_22 ?_
  refine lv_topi (fun y7 ey7 => ?_)
  have hy7 : Int32.toInt y7 = Int32.toInt y4 + Int32.toInt y6 := by rw [ey7]; exact zi_addc rfl rfl (by revert hy4 hy6; first | omega | (simp only [vp_in_iff, Int32.lt_iff_toInt_lt, Int32.le_iff_toInt_le, Int64.lt_iff_toInt_lt, Int64.le_iff_toInt_le, Int32.toInt_toInt64, ← Int32.toInt_inj, ← Int64.toInt_inj, Int32.reduceToInt, Int64.reduceToInt] <;> omega))
  refine lv_istore_n (lv' := [(0, .int y7)]) hx hb dJ6_bitCount_0f7a4_23 rfl hl (by decide) rfl (fun ls hl => ?_)
  refine lv_iload_n hx hb dJ6_bitCount_0f7a4_24 rfl (lv_at hl 0 rfl) ?_
  refine lv_iload_n hx hb dJ6_bitCount_0f7a4_25 rfl (lv_at hl 0 rfl) ?_
  refine lv_iconst (v := 4) hx hb dJ6_bitCount_0f7a4_26 (by decide) ?_
  refine lv_iushr hx hb dJ6_bitCount_0f7a4_27 rfl ?_
  refine lv_topi (fun y8 ey8 => ?_)
  refine lv_iadd hx hb dJ6_bitCount_0f7a4_28 ?_
  refine lv_topi (fun y9 ey9 => ?_)
  refine lv_ldcw hx hb hown (hts _ kK_J6_267) dJ6_bitCount_0f7a4_29 ?_
  refine lv_iand hx hb dJ6_bitCount_0f7a4_32 ?_
  refine lv_topi (fun y10 ey10 => ?_)
  have hy10 : 0 ≤ Int32.toInt y10 ∧ Int32.toInt y10 ≤ 252645135 := by rw [ey10]; exact zo_and _ (by decide)
  refine lv_istore_n (lv' := [(0, .int y10)]) hx hb dJ6_bitCount_0f7a4_33 rfl hl (by decide) rfl (fun ls hl => ?_)
  refine lv_iload_n hx hb dJ6_bitCount_0f7a4_34 rfl (lv_at hl 0 rfl) ?_
  refine lv_iload_n hx hb dJ6_bitCount_0f7a4_35 rfl (lv_at hl 0 rfl) ?_
  refine lv_bipush (v := 8) hx hb dJ6_bitCount_0f7a4_36 (by decide) ?_
  refine lv_iushr hx hb dJ6_bitCount_0f7a4_38 rfl ?_
  refine lv_topi (fun y11 ey11 => ?_)
  refine lv_iadd hx hb dJ6_bitCount_0f7a4_39 ?_
  refine lv_topi (fun y12 ey12 => ?_)
  refine lv_istore_n (lv' := [(0, .int y12)]) hx hb dJ6_bitCount_0f7a4_40 rfl hl (by decide) rfl (fun ls hl => ?_)
  refine lv_iload_n hx hb dJ6_bitCount_0f7a4_41 rfl (lv_at hl 0 rfl) ?_
  refine lv_iload_n hx hb dJ6_bitCount_0f7a4_42 rfl (lv_at hl 0 rfl) ?_
  refine lv_bipush (v := 16) hx hb dJ6_bitCount_0f7a4_43 (by decide) ?_
  refine lv_iushr hx hb dJ6_bitCount_0f7a4_45 rfl ?_
  refine lv_topi (fun y13 ey13 => ?_)
  refine lv_iadd hx hb dJ6_bitCount_0f7a4_46 ?_
  refine lv_topi (fun y14 ey14 => ?_)
  refine lv_istore_n (lv' := [(0, .int y14)]) hx hb dJ6_bitCount_0f7a4_47 rfl hl (by decide) rfl (fun ls hl => ?_)
  refine lv_iload_n hx hb dJ6_bitCount_0f7a4_48 rfl (lv_at hl 0 rfl) ?_
  refine lv_bipush (v := 63) hx hb dJ6_bitCount_0f7a4_49 (by decide) ?_
  refine lv_iand hx hb dJ6_bitCount_0f7a4_51 ?_
  refine lv_topi (fun y15 ey15 => ?_)
  have hy15 : 0 ≤ Int32.toInt y15 ∧ Int32.toInt y15 ≤ 63 := by rw [ey15]; exact zo_and _ (by decide)
  exact z_iret C0 hr hlk rfl hK hP hD hS (0, fun _ => 0, fun _ => 0, fun _ => 0, fun _ => (fun _ => 0), fun _ => (fun _ => 0), fun _ => (fun _ => none)) ⟨rfl, (by revert hy15; first | omega | (simp only [vp_in_iff, Int32.lt_iff_toInt_lt, Int32.le_iff_toInt_le, Int64.lt_iff_toInt_lt, Int64.le_iff_toInt_le, Int32.toInt_toInt64, ← Int32.toInt_inj, ← Int64.toInt_inj, Int32.reduceToInt, Int64.reduceToInt] <;> omega))⟩ [] rfl rfl rfl dJ6_bitCount_0f7a4_52

set_option maxHeartbeats 4000000 in
set_option maxRecDepth 100000 in
theorem s_X2_waysToDraw_1 (l : Launch) (D : va_G) (k : Nat → ClassId) (q_0 : Nat) (q_1 : Nat) (q_2 : Nat) (q_3 : Nat) (q_4 : Nat) (q_5 : Nat) (q_6 : Nat) (q_7 : Nat) (q_8 : Nat) (q_9 : Nat) (q_10 : Nat) (q_11 : Nat) (q_12 : Nat) (q_13 : Nat) (q_14 : Nat) (q_15 : Nat) (q_16 : Nat) (q_17 : Nat) (q_18 : Nat) (x_0 : Int32) (x_1 : Int32) (x_2 : Int32) (x_3 : Int32) (x_4 : Int32) (x_5 : Int32) (f_6 : Nat → Int32) (x_7 : Int32) (x_8 : Int32) (x_9 : Int32) (x_10 : Int32) (f_11 : Nat → Int32) (f_12 : Nat → Int32) (h_x_1 : 0 ≤ Int32.toInt x_1 ∧ Int32.toInt x_1 ≤ 6) (h_x_7 : 0 ≤ Int32.toInt x_7 ∧ Int32.toInt x_7 ≤ 6) (h_x_8 : 0 ≤ Int32.toInt x_8 ∧ Int32.toInt x_8 ≤ 6) (h_x_9 : 0 ≤ Int32.toInt x_9 ∧ Int32.toInt x_9 ≤ 9) (h_x_10 : 0 ≤ Int32.toInt x_10 ∧ Int32.toInt x_10 ≤ 12) (h_f_11 : zR f_11 0 1) : zMi l yX2_waysToDraw cX2_waysToDraw 7 (some .int) ({ frames := 1, cells := 0, slots := 0, locals := 20 }) D k [.ref q_0, .int x_0] [(q_0, .inr (2, [.ref q_5, .ref q_2, .ref q_6, .int x_1, .int x_2, .ref q_7, .ref q_8, .ref q_9, .int x_3, .int x_4, .int x_5, .ref q_10, .ref q_11, .ref q_1])), (q_1, .inl (k 0, 4608, .inl f_6)), (q_2, .inr (4, [.int x_7, .ref q_12, .int x_8, .ref q_13, .ref q_14, .int x_9, .ref q_15, .ref q_16, .ref q_17, .int x_10, .ref q_18, .ref q_3, .ref q_4])), (q_3, .inl (k 0, 12, .inl f_11)), (q_4, .inl (k 0, 12, .inl f_12))] (fun r u => u.1 = 0) (fun u => [(q_0, .inr (2, [.ref q_5, .ref q_2, .ref q_6, .int x_1, .int x_2, .ref q_7, .ref q_8, .ref q_9, .int x_3, .int x_4, .int x_5, .ref q_10, .ref q_11, .ref q_1])), (q_1, .inl (k 0, 4608, .inl (u.2.2.2.2.1 0))), (q_2, .inr (4, [.int x_7, .ref q_12, .int x_8, .ref q_13, .ref q_14, .int x_9, .ref q_15, .ref q_16, .ref q_17, .int x_10, .ref q_18, .ref q_3, .ref q_4])), (q_3, .inl (k 0, 12, .inl f_11)), (q_4, .inl (k 0, 12, .inl f_12))]) := by
  refine zMi_of (own := RX2) (by decide +kernel) rfl (Nat.le_of_ble_eq_true rfl) ?_
  intro p e s m args below meth c A ls C0 hr hlk hin hP hD hS hA hK hN hl
  have hx := C0.1
  have hb := C0.2.1
  have hml := C0.2.2.1
  have hown := C0.2.2.2.1
  have hts := C0.2.2.2.2
  have hl : lv_has ls 7 [(0, .ref q_0), (1, .int x_0)] := hl
  have hP : va_P D vwCl [(q_0, .inr (2, [.ref q_5, .ref q_2, .ref q_6, .int x_1, .int x_2, .ref q_7, .ref q_8, .ref q_9, .int x_3, .int x_4, .int x_5, .ref q_10, .ref q_11, .ref q_1])), (q_1, .inl (k 0, 4608, .inl f_6)), (q_2, .inr (4, [.int x_7, .ref q_12, .int x_8, .ref q_13, .ref q_14, .int x_9, .ref q_15, .ref q_16, .ref q_17, .int x_10, .ref q_18, .ref q_3, .ref q_4])), (q_3, .inl (k 0, 12, .inl f_11)), (q_4, .inl (k 0, 12, .inl f_12))] s.heap := hP
  refine lv_iconst (v := 0) hx hb dX2_waysToDraw_0 (by decide) ?_
  refine lv_istore_n (lv' := [(2, .int 0), (0, .ref q_0), (1, .int x_0)]) hx hb dX2_waysToDraw_1 rfl hl (by decide) rfl (fun ls hl => ?_)
  refine lv_aload_n hx hb dX2_waysToDraw_2 rfl (lv_at hl 1 rfl) ?_
  refine va_get (D := D) (ci := 2) (v := .ref q_1) (C := RX2) (T := TX2) (N := 14) hx hb hts inX2 hown hK hP 0 rfl rfl 13 (by decide) (hts _ kF_X2_34) (fun _ h9 => h9) rfl dX2_waysToDraw_3 ?_
  refine lv_iconst (v := 0) hx hb dX2_waysToDraw_6 (by decide) ?_
  refine lv_iconst (v := 0) hx hb dX2_waysToDraw_7 (by decide) ?_
  refine va_iast hx hb hK hP hD hS 1 0 rfl rfl (by unfold vp_in; decide) dX2_waysToDraw_8 (fun H locs hP hD hS => ?_)
  obtain ⟨F1, eF1⟩ : ∃ q, q = upd f_6 (Int32.toNatClampNeg (0 : Int32)) 0 := ⟨_, rfl⟩
  have hP : va_P D vwCl [(q_0, .inr (2, [.ref q_5, .ref q_2, .ref q_6, .int x_1, .int x_2, .ref q_7, .ref q_8, .ref q_9, .int x_3, .int x_4, .int x_5, .ref q_10, .ref q_11, .ref q_1])), (q_1, .inl (k 0, 4608, .inl F1)), (q_2, .inr (4, [.int x_7, .ref q_12, .int x_8, .ref q_13, .ref q_14, .int x_9, .ref q_15, .ref q_16, .ref q_17, .int x_10, .ref q_18, .ref q_3, .ref q_4])), (q_3, .inl (k 0, 12, .inl f_11)), (q_4, .inl (k 0, 12, .inl f_12))] H := by rw [eF1]; exact hP
  have hD : va_D A [(q_0, .inr (2, [.ref q_5, .ref q_2, .ref q_6, .int x_1, .int x_2, .ref q_7, .ref q_8, .ref q_9, .int x_3, .int x_4, .int x_5, .ref q_10, .ref q_11, .ref q_1])), (q_1, .inl (k 0, 4608, .inl F1)), (q_2, .inr (4, [.int x_7, .ref q_12, .int x_8, .ref q_13, .ref q_14, .int x_9, .ref q_15, .ref q_16, .ref q_17, .int x_10, .ref q_18, .ref q_3, .ref q_4])), (q_3, .inl (k 0, 12, .inl f_11)), (q_4, .inl (k 0, 12, .inl f_12))] := by rw [eF1]; exact hD
  refine lv_iconst (v := 0) hx hb dX2_waysToDraw_9 (by decide) ?_
  refine lv_istore_n (lv' := [(3, .int 0), (2, .int 0), (0, .ref q_0), (1, .int x_0)]) hx hb dX2_waysToDraw_10 rfl hl (by decide) rfl (fun ls hl => ?_)
  have loop23 : ∀ (N24 : Nat) (y20 : Int32) (y21 : Int32) (F22 : Nat → Int32) (H : Heap) (locs : List Loc) (ls : Array Slot), Int.toNat (12 - Int32.toInt y20) < N24 → 0 ≤ Int32.toInt y20 ∧ Int32.toInt y20 ≤ 12 → 0 ≤ Int32.toInt y21 ∧ Int32.toInt y21 ≤ 4095 → va_P D vwCl [(q_0, .inr (2, [.ref q_5, .ref q_2, .ref q_6, .int x_1, .int x_2, .ref q_7, .ref q_8, .ref q_9, .int x_3, .int x_4, .int x_5, .ref q_10, .ref q_11, .ref q_1])), (q_1, .inl (k 0, 4608, .inl F22)), (q_2, .inr (4, [.int x_7, .ref q_12, .int x_8, .ref q_13, .ref q_14, .int x_9, .ref q_15, .ref q_16, .ref q_17, .int x_10, .ref q_18, .ref q_3, .ref q_4])), (q_3, .inl (k 0, 12, .inl f_11)), (q_4, .inl (k 0, 12, .inl f_12))] H → va_D A [(q_0, .inr (2, [.ref q_5, .ref q_2, .ref q_6, .int x_1, .int x_2, .ref q_7, .ref q_8, .ref q_9, .int x_3, .int x_4, .int x_5, .ref q_10, .ref q_11, .ref q_1])), (q_1, .inl (k 0, 4608, .inl F22)), (q_2, .inr (4, [.int x_7, .ref q_12, .int x_8, .ref q_13, .ref q_14, .int x_9, .ref q_15, .ref q_16, .ref q_17, .int x_10, .ref q_18, .ref q_3, .ref q_4])), (q_3, .inl (k 0, 12, .inl f_11)), (q_4, .inl (k 0, 12, .inl f_12))] → va_S A s.heap H locs → lv_has ls 7 [(3, .int y20), (2, .int y21), (0, .ref q_0), (1, .int x_0)] → W p l e { frames := 1, cells := 0, slots := 0, locals := 20 } s m args below meth c H locs 0 0 (MQ below (va_Qi (fun (r : Int32) (u : zS) => u.1 = 0) (zB D k A (fun (u : zS) => [(q_0, .inr (2, [.ref q_5, .ref q_2, .ref q_6, .int x_1, .int x_2, .ref q_7, .ref q_8, .ref q_9, .int x_3, .int x_4, .int x_5, .ref q_10, .ref q_11, .ref q_1])), (q_1, .inl (k 0, 4608, .inl (u.2.2.2.2.1 0))), (q_2, .inr (4, [.int x_7, .ref q_12, .int x_8, .ref q_13, .ref q_14, .int x_9, .ref q_15, .ref q_16, .ref q_17, .int x_10, .ref q_18, .ref q_3, .ref q_4])), (q_3, .inl (k 0, 12, .inl f_11)), (q_4, .inl (k 0, 12, .inl f_12))])) A) args s 0 0 A) (F0 m 11 ls []) := by
    intro N24
    induction N24 with
    | zero => intro y20 y21 F22 H locs ls hm; exact absurd hm (Nat.not_lt_zero _)
    | succ N24 ihN24 =>
      intro y20 y21 F22 H locs ls hN24 hy20 hy21 hP hD hS hl
      refine lv_iload_n hx hb dX2_waysToDraw_11 rfl (lv_at hl 0 rfl) ?_
      refine lv_aload_n hx hb dX2_waysToDraw_12 rfl (lv_at hl 2 rfl) ?_
      refine va_get (D := D) (ci := 2) (v := .ref q_2) (C := RX2) (T := TX2) (N := 14) hx hb hts inX2 hown hK hP 0 rfl rfl 1 (by decide) (hts _ kF_X2_48) (fun _ h9 => h9) rfl dX2_waysToDraw_13 ?_
      refine va_get (D := D) (ci := 4) (v := .int x_10) (C := RX4) (T := TX4) (N := 13) hx hb hts inX4 hown hK hP 2 rfl rfl 9 (by decide) (hts _ kF_X2_136) (fun _ h9 => h9) rfl dX2_waysToDraw_16 ?_
      refine lv_icmp_ge (tgt := 87) hx hb dX2_waysToDraw_19 (by decide) (fun c25 => ?_) (fun c25 => ?_)
      · refine lv_iload_n hx hb dX2_waysToDraw_87 rfl (lv_at hl 1 rfl) ?_
        refine z_bi0 (z_runS (As := [.int y21]) (rest := []) C0 (s_J6_bitCount_0f7a4_1 l D k y21 _) okS_J6_bitCount_0f7a4 kM_X2_145 rfl (z_p0 hK hN) rfl hl.1 rfl (Nat.le_of_ble_eq_true rfl) dX2_waysToDraw_88 rfl) hP hS hA (fun r26 u26 H locs hw26 hP hS => ?_)
        obtain ⟨i26, a26, v26, w26, f26, g26, o26⟩ := u26
        dsimp only at hw26
        obtain ⟨rfl, hr26⟩ := hw26
        refine lv_istore_n (lv' := [(3, .int r26), (2, .int y21), (0, .ref q_0), (1, .int x_0)]) hx hb dX2_waysToDraw_91 rfl hl (by decide) rfl (fun ls hl => ?_)
        refine lv_aload_n hx hb dX2_waysToDraw_92 rfl (lv_at hl 2 rfl) ?_
        refine va_get (D := D) (ci := 2) (v := .ref q_1) (C := RX2) (T := TX2) (N := 14) hx hb hts inX2 hown hK hP 0 rfl rfl 13 (by decide) (hts _ kF_X2_34) (fun _ h9 => h9) rfl dX2_waysToDraw_93 ?_
        refine lv_iload_n hx hb dX2_waysToDraw_96 rfl (lv_at hl 1 rfl) ?_
        refine va_iald hx hb hK hP 1 0 rfl rfl (by revert hy21; first | omega | (simp only [vp_in_iff, Int32.lt_iff_toInt_lt, Int32.le_iff_toInt_le, Int64.lt_iff_toInt_lt, Int64.le_iff_toInt_le, Int32.toInt_toInt64, ← Int32.toInt_inj, ← Int64.toInt_inj, Int32.reduceToInt, Int64.reduceToInt] <;> omega)) dX2_waysToDraw_97 ?_
        refine lv_topi (fun y27 ey27 => ?_)
        refine lv_istore (lv' := [(4, .int y27), (3, .int r26), (2, .int y21), (0, .ref q_0), (1, .int x_0)]) hx hb dX2_waysToDraw_98 hl (by decide) rfl (fun ls hl => ?_)
        refine lv_iconst (v := 0) hx hb dX2_waysToDraw_100 (by decide) ?_
        refine lv_istore (lv' := [(5, .int 0), (4, .int y27), (3, .int r26), (2, .int y21), (0, .ref q_0), (1, .int x_0)]) hx hb dX2_waysToDraw_101 hl (by decide) rfl (fun ls hl => ?_)
        refine lv_iconst (v := 0) hx hb dX2_waysToDraw_103 (by decide) ?_
        refine lv_istore (lv' := [(6, .int 0), (5, .int 0), (4, .int y27), (3, .int r26), (2, .int y21), (0, .ref q_0), (1, .int x_0)]) hx hb dX2_waysToDraw_104 hl (by decide) rfl (fun ls hl => ?_)
        have loop64 : ∀ (N65 : Nat) (y62 : Int32) (y63 : Int32) (H : Heap) (locs : List Loc) (ls : Array Slot), Int.toNat (4096 - Int32.toInt y62) < N65 → 0 ≤ Int32.toInt y62 ∧ Int32.toInt y62 ≤ 4096 → va_P D vwCl [(q_0, .inr (2, [.ref q_5, .ref q_2, .ref q_6, .int x_1, .int x_2, .ref q_7, .ref q_8, .ref q_9, .int x_3, .int x_4, .int x_5, .ref q_10, .ref q_11, .ref q_1])), (q_1, .inl (k 0, 4608, .inl F22)), (q_2, .inr (4, [.int x_7, .ref q_12, .int x_8, .ref q_13, .ref q_14, .int x_9, .ref q_15, .ref q_16, .ref q_17, .int x_10, .ref q_18, .ref q_3, .ref q_4])), (q_3, .inl (k 0, 12, .inl f_11)), (q_4, .inl (k 0, 12, .inl f_12))] H → va_D A [(q_0, .inr (2, [.ref q_5, .ref q_2, .ref q_6, .int x_1, .int x_2, .ref q_7, .ref q_8, .ref q_9, .int x_3, .int x_4, .int x_5, .ref q_10, .ref q_11, .ref q_1])), (q_1, .inl (k 0, 4608, .inl F22)), (q_2, .inr (4, [.int x_7, .ref q_12, .int x_8, .ref q_13, .ref q_14, .int x_9, .ref q_15, .ref q_16, .ref q_17, .int x_10, .ref q_18, .ref q_3, .ref q_4])), (q_3, .inl (k 0, 12, .inl f_11)), (q_4, .inl (k 0, 12, .inl f_12))] → va_S A s.heap H locs → lv_has ls 7 [(6, .int y62), (5, .int y63), (4, .int y27), (3, .int r26), (2, .int y21), (0, .ref q_0), (1, .int x_0)] → W p l e { frames := 1, cells := 0, slots := 0, locals := 20 } s m args below meth c H locs 0 0 (MQ below (va_Qi (fun (r : Int32) (u : zS) => u.1 = 0) (zB D k A (fun (u : zS) => [(q_0, .inr (2, [.ref q_5, .ref q_2, .ref q_6, .int x_1, .int x_2, .ref q_7, .ref q_8, .ref q_9, .int x_3, .int x_4, .int x_5, .ref q_10, .ref q_11, .ref q_1])), (q_1, .inl (k 0, 4608, .inl (u.2.2.2.2.1 0))), (q_2, .inr (4, [.int x_7, .ref q_12, .int x_8, .ref q_13, .ref q_14, .int x_9, .ref q_15, .ref q_16, .ref q_17, .int x_10, .ref q_18, .ref q_3, .ref q_4])), (q_3, .inl (k 0, 12, .inl f_11)), (q_4, .inl (k 0, 12, .inl f_12))])) A) args s 0 0 A) (F0 m 106 ls []) := by
          intro N65
          induction N65 with
          | zero => intro y62 y63 H locs ls hm; exact absurd hm (Nat.not_lt_zero _)
          | succ N65 ihN65 =>
            intro y62 y63 H locs ls hN65 hy62 hP hD hS hl
            refine lv_iload hx hb dX2_waysToDraw_106 (lv_at hl 0 rfl) ?_
            refine lv_iconst (v := 1) hx hb dX2_waysToDraw_108 (by decide) ?_
            refine lv_aload_n hx hb dX2_waysToDraw_109 rfl (lv_at hl 5 rfl) ?_
            refine va_get (D := D) (ci := 2) (v := .ref q_2) (C := RX2) (T := TX2) (N := 14) hx hb hts inX2 hown hK hP 0 rfl rfl 1 (by decide) (hts _ kF_X2_48) (fun _ h9 => h9) rfl dX2_waysToDraw_110 ?_
            refine va_get (D := D) (ci := 4) (v := .int x_10) (C := RX4) (T := TX4) (N := 13) hx hb hts inX4 hown hK hP 2 rfl rfl 9 (by decide) (hts _ kF_X2_136) (fun _ h9 => h9) rfl dX2_waysToDraw_113 ?_
            refine lv_ishl hx hb dX2_waysToDraw_116 ?_
            refine lv_topi (fun y66 ey66 => ?_)
            have hy66 : 1 ≤ Int32.toInt y66 ∧ Int32.toInt y66 ≤ 4096 := by rw [ey66]; exact zo_shl1 12 (show 0 ≤ Int32.toInt x_10 ∧ Int32.toInt x_10 ≤ 12 by revert h_x_10 c25 hN24 hy20; first | omega | (simp only [vp_in_iff, Int32.lt_iff_toInt_lt, Int32.le_iff_toInt_le, Int64.lt_iff_toInt_lt, Int64.le_iff_toInt_le, Int32.toInt_toInt64, ← Int32.toInt_inj, ← Int64.toInt_inj, Int32.reduceToInt, Int64.reduceToInt] <;> omega)) (by decide)
            refine lv_icmp_ge (tgt := 154) hx hb dX2_waysToDraw_117 (by decide) (fun c67 => ?_) (fun c67 => ?_)
            · refine lv_iload hx hb dX2_waysToDraw_154 (lv_at hl 1 rfl) ?_
              exact z_iret C0 hr hlk rfl hK hP hD hS (0, fun _ => 0, fun _ => 0, fun _ => 0, fun i => [F22].getD i (fun _ => 0), fun _ => (fun _ => 0), fun _ => (fun _ => none)) rfl [0, 1, 2, 3, 4] rfl rfl rfl dX2_waysToDraw_156
            · refine lv_iload_n hx hb dX2_waysToDraw_120 rfl (lv_at hl 6 rfl) ?_
              refine lv_if_eq (tgt := 136) hx hb dX2_waysToDraw_121 (by decide) (fun c68 => ?_) (fun c68 => ?_)
              · refine lv_iload hx hb dX2_waysToDraw_136 (lv_at hl 0 rfl) ?_
                refine z_bi0 (z_runS (As := [.int y62]) (rest := []) C0 (s_J6_bitCount_0f7a4_1 l D k y62 _) okS_J6_bitCount_0f7a4 kM_X2_145 rfl (z_p0 hK hN) rfl hl.1 rfl (Nat.le_of_ble_eq_true rfl) dX2_waysToDraw_138 rfl) hP hS hA (fun r69 u69 H locs hw69 hP hS => ?_)
                obtain ⟨i69, a69, v69, w69, f69, g69, o69⟩ := u69
                dsimp only at hw69
                obtain ⟨rfl, hr69⟩ := hw69
                refine lv_iload_n hx hb dX2_waysToDraw_141 rfl (lv_at hl 3 rfl) ?_
                refine lv_icmp_ne (tgt := 148) hx hb dX2_waysToDraw_142 (by decide) (fun c70 => ?_) (fun c70 => ?_)
                · obtain ⟨y71, ey71⟩ : ∃ q : Int32, q = y62 + 1 := ⟨_, rfl⟩
                  have hy71 : Int32.toInt y71 = Int32.toInt y62 + 1 := by rw [ey71]; exact zi_addc rfl (by decide) (by revert hN65 hy62 c67 hy66; first | omega | (simp only [vp_in_iff, Int32.lt_iff_toInt_lt, Int32.le_iff_toInt_le, Int64.lt_iff_toInt_lt, Int64.le_iff_toInt_le, Int32.toInt_toInt64, ← Int32.toInt_inj, ← Int64.toInt_inj, Int32.reduceToInt, Int64.reduceToInt] <;> omega))
                  refine lv_iinc (v := y71) (lv' := [(6, .int y71), (5, .int y63), (4, .int y27), (3, .int r26), (2, .int y21), (0, .ref q_0), (1, .int x_0)]) hx hb dX2_waysToDraw_148 hl (k := 0) rfl (by rw [ey71]; exact zz_inc (by decide)) (by decide) rfl (fun ls hl => ?_)
                  refine lv_goto (tgt := 106) hx hb dX2_waysToDraw_151 (by decide) ?_
                  exact ihN65 y71 y63 _ _ ls (by revert hN65 hy62 c67 hy71 hy66; first | omega | (simp only [vp_in_iff, Int32.lt_iff_toInt_lt, Int32.le_iff_toInt_le, Int64.lt_iff_toInt_lt, Int64.le_iff_toInt_le, Int32.toInt_toInt64, ← Int32.toInt_inj, ← Int64.toInt_inj, Int32.reduceToInt, Int64.reduceToInt] <;> omega)) (by revert hN65 hy62 c67 hy71 hy66; first | omega | (simp only [vp_in_iff, Int32.lt_iff_toInt_lt, Int32.le_iff_toInt_le, Int64.lt_iff_toInt_lt, Int64.le_iff_toInt_le, Int32.toInt_toInt64, ← Int32.toInt_inj, ← Int64.toInt_inj, Int32.reduceToInt, Int64.reduceToInt] <;> omega)) hP hD hS (lv_sub hl [0, 1, 2, 3, 4, 5, 6] rfl)
                · obtain ⟨y72, ey72⟩ : ∃ q : Int32, q = y63 + 1 := ⟨_, rfl⟩
                  refine lv_iinc (v := y72) (lv' := [(5, .int y72), (6, .int y62), (4, .int y27), (3, .int r26), (2, .int y21), (0, .ref q_0), (1, .int x_0)]) hx hb dX2_waysToDraw_145 hl (k := 1) rfl (by rw [ey72]; exact zz_inc (by decide)) (by decide) rfl (fun ls hl => ?_)
                  obtain ⟨y73, ey73⟩ : ∃ q : Int32, q = y62 + 1 := ⟨_, rfl⟩
                  have hy73 : Int32.toInt y73 = Int32.toInt y62 + 1 := by rw [ey73]; exact zi_addc rfl (by decide) (by revert hN65 hy62 c67 hy66; first | omega | (simp only [vp_in_iff, Int32.lt_iff_toInt_lt, Int32.le_iff_toInt_le, Int64.lt_iff_toInt_lt, Int64.le_iff_toInt_le, Int32.toInt_toInt64, ← Int32.toInt_inj, ← Int64.toInt_inj, Int32.reduceToInt, Int64.reduceToInt] <;> omega))
                  refine lv_iinc (v := y73) (lv' := [(6, .int y73), (5, .int y72), (4, .int y27), (3, .int r26), (2, .int y21), (0, .ref q_0), (1, .int x_0)]) hx hb dX2_waysToDraw_148 hl (k := 1) rfl (by rw [ey73]; exact zz_inc (by decide)) (by decide) rfl (fun ls hl => ?_)
                  refine lv_goto (tgt := 106) hx hb dX2_waysToDraw_151 (by decide) ?_
                  exact ihN65 y73 y72 _ _ ls (by revert hN65 hy62 c67 hy73 hy66; first | omega | (simp only [vp_in_iff, Int32.lt_iff_toInt_lt, Int32.le_iff_toInt_le, Int64.lt_iff_toInt_lt, Int64.le_iff_toInt_le, Int32.toInt_toInt64, ← Int32.toInt_inj, ← Int64.toInt_inj, Int32.reduceToInt, Int64.reduceToInt] <;> omega)) (by revert hN65 hy62 c67 hy73 hy66; first | omega | (simp only [vp_in_iff, Int32.lt_iff_toInt_lt, Int32.le_iff_toInt_le, Int64.lt_iff_toInt_lt, Int64.le_iff_toInt_le, Int32.toInt_toInt64, ← Int32.toInt_inj, ← Int64.toInt_inj, Int32.reduceToInt, Int64.reduceToInt] <;> omega)) hP hD hS (lv_sub hl [0, 1, 2, 3, 4, 5, 6] rfl)
              · refine lv_aload_n hx hb dX2_waysToDraw_124 rfl (lv_at hl 5 rfl) ?_
                refine va_get (D := D) (ci := 2) (v := .ref q_1) (C := RX2) (T := TX2) (N := 14) hx hb hts inX2 hown hK hP 0 rfl rfl 13 (by decide) (hts _ kF_X2_34) (fun _ h9 => h9) rfl dX2_waysToDraw_125 ?_
                refine lv_iload hx hb dX2_waysToDraw_128 (lv_at hl 0 rfl) ?_
                refine va_iald hx hb hK hP 1 0 rfl rfl (by revert hN65 hy62 c67 hy66; first | omega | (simp only [vp_in_iff, Int32.lt_iff_toInt_lt, Int32.le_iff_toInt_le, Int64.lt_iff_toInt_lt, Int64.le_iff_toInt_le, Int32.toInt_toInt64, ← Int32.toInt_inj, ← Int64.toInt_inj, Int32.reduceToInt, Int64.reduceToInt] <;> omega)) dX2_waysToDraw_130 ?_
                refine lv_topi (fun y74 ey74 => ?_)
                refine lv_iload hx hb dX2_waysToDraw_131 (lv_at hl 2 rfl) ?_
                refine lv_icmp_lt (tgt := 148) hx hb dX2_waysToDraw_133 (by decide) (fun c75 => ?_) (fun c75 => ?_)
                · obtain ⟨y76, ey76⟩ : ∃ q : Int32, q = y62 + 1 := ⟨_, rfl⟩
                  have hy76 : Int32.toInt y76 = Int32.toInt y62 + 1 := by rw [ey76]; exact zi_addc rfl (by decide) (by revert hN65 hy62 c67 hy66; first | omega | (simp only [vp_in_iff, Int32.lt_iff_toInt_lt, Int32.le_iff_toInt_le, Int64.lt_iff_toInt_lt, Int64.le_iff_toInt_le, Int32.toInt_toInt64, ← Int32.toInt_inj, ← Int64.toInt_inj, Int32.reduceToInt, Int64.reduceToInt] <;> omega))
                  refine lv_iinc (v := y76) (lv' := [(6, .int y76), (5, .int y63), (4, .int y27), (3, .int r26), (2, .int y21), (0, .ref q_0), (1, .int x_0)]) hx hb dX2_waysToDraw_148 hl (k := 0) rfl (by rw [ey76]; exact zz_inc (by decide)) (by decide) rfl (fun ls hl => ?_)
                  refine lv_goto (tgt := 106) hx hb dX2_waysToDraw_151 (by decide) ?_
                  exact ihN65 y76 y63 _ _ ls (by revert hN65 hy62 c67 hy76 hy66; first | omega | (simp only [vp_in_iff, Int32.lt_iff_toInt_lt, Int32.le_iff_toInt_le, Int64.lt_iff_toInt_lt, Int64.le_iff_toInt_le, Int32.toInt_toInt64, ← Int32.toInt_inj, ← Int64.toInt_inj, Int32.reduceToInt, Int64.reduceToInt] <;> omega)) (by revert hN65 hy62 c67 hy76 hy66; first | omega | (simp only [vp_in_iff, Int32.lt_iff_toInt_lt, Int32.le_iff_toInt_le, Int64.lt_iff_toInt_lt, Int64.le_iff_toInt_le, Int32.toInt_toInt64, ← Int32.toInt_inj, ← Int64.toInt_inj, Int32.reduceToInt, Int64.reduceToInt] <;> omega)) hP hD hS (lv_sub hl [0, 1, 2, 3, 4, 5, 6] rfl)
                · refine lv_iload hx hb dX2_waysToDraw_136 (lv_at hl 0 rfl) ?_
                  refine z_bi0 (z_runS (As := [.int y62]) (rest := []) C0 (s_J6_bitCount_0f7a4_1 l D k y62 _) okS_J6_bitCount_0f7a4 kM_X2_145 rfl (z_p0 hK hN) rfl hl.1 rfl (Nat.le_of_ble_eq_true rfl) dX2_waysToDraw_138 rfl) hP hS hA (fun r77 u77 H locs hw77 hP hS => ?_)
                  obtain ⟨i77, a77, v77, w77, f77, g77, o77⟩ := u77
                  dsimp only at hw77
                  obtain ⟨rfl, hr77⟩ := hw77
                  refine lv_iload_n hx hb dX2_waysToDraw_141 rfl (lv_at hl 3 rfl) ?_
                  refine lv_icmp_ne (tgt := 148) hx hb dX2_waysToDraw_142 (by decide) (fun c78 => ?_) (fun c78 => ?_)
                  · obtain ⟨y79, ey79⟩ : ∃ q : Int32, q = y62 + 1 := ⟨_, rfl⟩
                    have hy79 : Int32.toInt y79 = Int32.toInt y62 + 1 := by rw [ey79]; exact zi_addc rfl (by decide) (by revert hN65 hy62 c67 hy66; first | omega | (simp only [vp_in_iff, Int32.lt_iff_toInt_lt, Int32.le_iff_toInt_le, Int64.lt_iff_toInt_lt, Int64.le_iff_toInt_le, Int32.toInt_toInt64, ← Int32.toInt_inj, ← Int64.toInt_inj, Int32.reduceToInt, Int64.reduceToInt] <;> omega))
                    refine lv_iinc (v := y79) (lv' := [(6, .int y79), (5, .int y63), (4, .int y27), (3, .int r26), (2, .int y21), (0, .ref q_0), (1, .int x_0)]) hx hb dX2_waysToDraw_148 hl (k := 0) rfl (by rw [ey79]; exact zz_inc (by decide)) (by decide) rfl (fun ls hl => ?_)
                    refine lv_goto (tgt := 106) hx hb dX2_waysToDraw_151 (by decide) ?_
                    exact ihN65 y79 y63 _ _ ls (by revert hN65 hy62 c67 hy79 hy66; first | omega | (simp only [vp_in_iff, Int32.lt_iff_toInt_lt, Int32.le_iff_toInt_le, Int64.lt_iff_toInt_lt, Int64.le_iff_toInt_le, Int32.toInt_toInt64, ← Int32.toInt_inj, ← Int64.toInt_inj, Int32.reduceToInt, Int64.reduceToInt] <;> omega)) (by revert hN65 hy62 c67 hy79 hy66; first | omega | (simp only [vp_in_iff, Int32.lt_iff_toInt_lt, Int32.le_iff_toInt_le, Int64.lt_iff_toInt_lt, Int64.le_iff_toInt_le, Int32.toInt_toInt64, ← Int32.toInt_inj, ← Int64.toInt_inj, Int32.reduceToInt, Int64.reduceToInt] <;> omega)) hP hD hS (lv_sub hl [0, 1, 2, 3, 4, 5, 6] rfl)
                  · obtain ⟨y80, ey80⟩ : ∃ q : Int32, q = y63 + 1 := ⟨_, rfl⟩
                    refine lv_iinc (v := y80) (lv' := [(5, .int y80), (6, .int y62), (4, .int y27), (3, .int r26), (2, .int y21), (0, .ref q_0), (1, .int x_0)]) hx hb dX2_waysToDraw_145 hl (k := 1) rfl (by rw [ey80]; exact zz_inc (by decide)) (by decide) rfl (fun ls hl => ?_)
                    obtain ⟨y81, ey81⟩ : ∃ q : Int32, q = y62 + 1 := ⟨_, rfl⟩
                    have hy81 : Int32.toInt y81 = Int32.toInt y62 + 1 := by rw [ey81]; exact zi_addc rfl (by decide) (by revert hN65 hy62 c67 hy66; first | omega | (simp only [vp_in_iff, Int32.lt_iff_toInt_lt, Int32.le_iff_toInt_le, Int64.lt_iff_toInt_lt, Int64.le_iff_toInt_le, Int32.toInt_toInt64, ← Int32.toInt_inj, ← Int64.toInt_inj, Int32.reduceToInt, Int64.reduceToInt] <;> omega))
                    refine lv_iinc (v := y81) (lv' := [(6, .int y81), (5, .int y80), (4, .int y27), (3, .int r26), (2, .int y21), (0, .ref q_0), (1, .int x_0)]) hx hb dX2_waysToDraw_148 hl (k := 1) rfl (by rw [ey81]; exact zz_inc (by decide)) (by decide) rfl (fun ls hl => ?_)
                    refine lv_goto (tgt := 106) hx hb dX2_waysToDraw_151 (by decide) ?_
                    exact ihN65 y81 y80 _ _ ls (by revert hN65 hy62 c67 hy81 hy66; first | omega | (simp only [vp_in_iff, Int32.lt_iff_toInt_lt, Int32.le_iff_toInt_le, Int64.lt_iff_toInt_lt, Int64.le_iff_toInt_le, Int32.toInt_toInt64, ← Int32.toInt_inj, ← Int64.toInt_inj, Int32.reduceToInt, Int64.reduceToInt] <;> omega)) (by revert hN65 hy62 c67 hy81 hy66; first | omega | (simp only [vp_in_iff, Int32.lt_iff_toInt_lt, Int32.le_iff_toInt_le, Int64.lt_iff_toInt_lt, Int64.le_iff_toInt_le, Int32.toInt_toInt64, ← Int32.toInt_inj, ← Int64.toInt_inj, Int32.reduceToInt, Int64.reduceToInt] <;> omega)) hP hD hS (lv_sub hl [0, 1, 2, 3, 4, 5, 6] rfl)
        exact loop64 _ 0 0 _ _ _ (Nat.lt_succ_self _) (by first | omega | (simp only [vp_in_iff, Int32.lt_iff_toInt_lt, Int32.le_iff_toInt_le, Int64.lt_iff_toInt_lt, Int64.le_iff_toInt_le, Int32.toInt_toInt64, ← Int32.toInt_inj, ← Int64.toInt_inj, Int32.reduceToInt, Int64.reduceToInt] <;> omega)) hP hD hS (lv_sub hl [0, 1, 2, 3, 4, 5, 6] rfl)
      · refine lv_iload_n hx hb dX2_waysToDraw_22 rfl (lv_at hl 1 rfl) ?_
        refine lv_aload_n hx hb dX2_waysToDraw_23 rfl (lv_at hl 2 rfl) ?_
        refine va_get (D := D) (ci := 2) (v := .ref q_2) (C := RX2) (T := TX2) (N := 14) hx hb hts inX2 hown hK hP 0 rfl rfl 1 (by decide) (hts _ kF_X2_48) (fun _ h9 => h9) rfl dX2_waysToDraw_24 ?_
        refine va_get (D := D) (ci := 4) (v := .ref q_3) (C := RX4) (T := TX4) (N := 13) hx hb hts inX4 hown hK hP 2 rfl rfl 11 (by decide) (hts _ kF_X2_139) (fun _ h9 => h9) rfl dX2_waysToDraw_27 ?_
        refine lv_iload_n hx hb dX2_waysToDraw_30 rfl (lv_at hl 0 rfl) ?_
        refine va_iald hx hb hK hP 3 0 rfl rfl (by revert hN24 hy20 c25 h_x_10; first | omega | (simp only [vp_in_iff, Int32.lt_iff_toInt_lt, Int32.le_iff_toInt_le, Int64.lt_iff_toInt_lt, Int64.le_iff_toInt_le, Int32.toInt_toInt64, ← Int32.toInt_inj, ← Int64.toInt_inj, Int32.reduceToInt, Int64.reduceToInt] <;> omega)) dX2_waysToDraw_31 ?_
        refine lv_topi (fun y82 ey82 => ?_)
        have hy82 : 0 ≤ Int32.toInt y82 ∧ Int32.toInt y82 ≤ 1 := by rw [ey82]; exact h_f_11 _
        refine lv_iload_n hx hb dX2_waysToDraw_32 rfl (lv_at hl 0 rfl) ?_
        refine lv_ishl hx hb dX2_waysToDraw_33 ?_
        refine lv_topi (fun y83 ey83 => ?_)
        have hy83 : 0 ≤ Int32.toInt y83 ∧ Int32.toInt y83 ≤ 2048 := by rw [ey83]; exact zo_shlb 11 (show 0 ≤ Int32.toInt y82 ∧ Int32.toInt y82 ≤ 1 by revert hN24 hy20 c25 hy82 h_x_10; first | omega | (simp only [vp_in_iff, Int32.lt_iff_toInt_lt, Int32.le_iff_toInt_le, Int64.lt_iff_toInt_lt, Int64.le_iff_toInt_le, Int32.toInt_toInt64, ← Int32.toInt_inj, ← Int64.toInt_inj, Int32.reduceToInt, Int64.reduceToInt] <;> omega)) (show 0 ≤ Int32.toInt y20 ∧ Int32.toInt y20 ≤ 11 by revert hN24 hy20 c25 hy82 h_x_10; first | omega | (simp only [vp_in_iff, Int32.lt_iff_toInt_lt, Int32.le_iff_toInt_le, Int64.lt_iff_toInt_lt, Int64.le_iff_toInt_le, Int32.toInt_toInt64, ← Int32.toInt_inj, ← Int64.toInt_inj, Int32.reduceToInt, Int64.reduceToInt] <;> omega)) (by decide)
        refine lv_ior hx hb dX2_waysToDraw_34 ?_
        refine lv_topi (fun y84 ey84 => ?_)
        have hy84 : 0 ≤ Int32.toInt y84 ∧ Int32.toInt y84 ≤ 4095 := by rw [ey84]; exact zo_or 12 (show 0 ≤ Int32.toInt y21 ∧ Int32.toInt y21 < 2 ^ 12 by revert hy21 hy83; first | omega | (simp only [vp_in_iff, Int32.lt_iff_toInt_lt, Int32.le_iff_toInt_le, Int64.lt_iff_toInt_lt, Int64.le_iff_toInt_le, Int32.toInt_toInt64, ← Int32.toInt_inj, ← Int64.toInt_inj, Int32.reduceToInt, Int64.reduceToInt] <;> omega)) (show 0 ≤ Int32.toInt y83 ∧ Int32.toInt y83 < 2 ^ 12 by revert hy21 hy83; first | omega | (simp only [vp_in_iff, Int32.lt_iff_toInt_lt, Int32.le_iff_toInt_le, Int64.lt_iff_toInt_lt, Int64.le_iff_toInt_le, Int32.toInt_toInt64, ← Int32.toInt_inj, ← Int64.toInt_inj, Int32.reduceToInt, Int64.reduceToInt] <;> omega)) (by decide)
        refine lv_istore_n (lv' := [(2, .int y84), (3, .int y20), (0, .ref q_0), (1, .int x_0)]) hx hb dX2_waysToDraw_35 rfl hl (by decide) rfl (fun ls hl => ?_)
        refine lv_iconst (v := 0) hx hb dX2_waysToDraw_36 (by decide) ?_
        refine lv_istore (lv' := [(4, .int 0), (2, .int y84), (3, .int y20), (0, .ref q_0), (1, .int x_0)]) hx hb dX2_waysToDraw_37 hl (by decide) rfl (fun ls hl => ?_)
        have loop109 : ∀ (N110 : Nat) (y107 : Int32) (F108 : Nat → Int32) (H : Heap) (locs : List Loc) (ls : Array Slot), Int.toNat (2048 - Int32.toInt y107) < N110 → 0 ≤ Int32.toInt y107 ∧ Int32.toInt y107 ≤ 2048 → va_P D vwCl [(q_0, .inr (2, [.ref q_5, .ref q_2, .ref q_6, .int x_1, .int x_2, .ref q_7, .ref q_8, .ref q_9, .int x_3, .int x_4, .int x_5, .ref q_10, .ref q_11, .ref q_1])), (q_1, .inl (k 0, 4608, .inl F108)), (q_2, .inr (4, [.int x_7, .ref q_12, .int x_8, .ref q_13, .ref q_14, .int x_9, .ref q_15, .ref q_16, .ref q_17, .int x_10, .ref q_18, .ref q_3, .ref q_4])), (q_3, .inl (k 0, 12, .inl f_11)), (q_4, .inl (k 0, 12, .inl f_12))] H → va_D A [(q_0, .inr (2, [.ref q_5, .ref q_2, .ref q_6, .int x_1, .int x_2, .ref q_7, .ref q_8, .ref q_9, .int x_3, .int x_4, .int x_5, .ref q_10, .ref q_11, .ref q_1])), (q_1, .inl (k 0, 4608, .inl F108)), (q_2, .inr (4, [.int x_7, .ref q_12, .int x_8, .ref q_13, .ref q_14, .int x_9, .ref q_15, .ref q_16, .ref q_17, .int x_10, .ref q_18, .ref q_3, .ref q_4])), (q_3, .inl (k 0, 12, .inl f_11)), (q_4, .inl (k 0, 12, .inl f_12))] → va_S A s.heap H locs → lv_has ls 7 [(4, .int y107), (2, .int y84), (3, .int y20), (0, .ref q_0), (1, .int x_0)] → W p l e { frames := 1, cells := 0, slots := 0, locals := 20 } s m args below meth c H locs 0 0 (MQ below (va_Qi (fun (r : Int32) (u : zS) => u.1 = 0) (zB D k A (fun (u : zS) => [(q_0, .inr (2, [.ref q_5, .ref q_2, .ref q_6, .int x_1, .int x_2, .ref q_7, .ref q_8, .ref q_9, .int x_3, .int x_4, .int x_5, .ref q_10, .ref q_11, .ref q_1])), (q_1, .inl (k 0, 4608, .inl (u.2.2.2.2.1 0))), (q_2, .inr (4, [.int x_7, .ref q_12, .int x_8, .ref q_13, .ref q_14, .int x_9, .ref q_15, .ref q_16, .ref q_17, .int x_10, .ref q_18, .ref q_3, .ref q_4])), (q_3, .inl (k 0, 12, .inl f_11)), (q_4, .inl (k 0, 12, .inl f_12))])) A) args s 0 0 A) (F0 m 39 ls []) := by
          intro N110
          induction N110 with
          | zero => intro y107 F108 H locs ls hm; exact absurd hm (Nat.not_lt_zero _)
          | succ N110 ihN110 =>
            intro y107 F108 H locs ls hN110 hy107 hP hD hS hl
            refine lv_iload hx hb dX2_waysToDraw_39 (lv_at hl 0 rfl) ?_
            refine lv_iconst (v := 1) hx hb dX2_waysToDraw_41 (by decide) ?_
            refine lv_iload_n hx hb dX2_waysToDraw_42 rfl (lv_at hl 2 rfl) ?_
            refine lv_ishl hx hb dX2_waysToDraw_43 ?_
            refine lv_topi (fun y111 ey111 => ?_)
            have hy111 : 1 ≤ Int32.toInt y111 ∧ Int32.toInt y111 ≤ 2048 := by rw [ey111]; exact zo_shl1 11 (show 0 ≤ Int32.toInt y20 ∧ Int32.toInt y20 ≤ 11 by revert hN24 hy20 c25 h_x_10; first | omega | (simp only [vp_in_iff, Int32.lt_iff_toInt_lt, Int32.le_iff_toInt_le, Int64.lt_iff_toInt_lt, Int64.le_iff_toInt_le, Int32.toInt_toInt64, ← Int32.toInt_inj, ← Int64.toInt_inj, Int32.reduceToInt, Int64.reduceToInt] <;> omega)) (by decide)
            refine lv_icmp_ge (tgt := 81) hx hb dX2_waysToDraw_44 (by decide) (fun c112 => ?_) (fun c112 => ?_)
            · obtain ⟨y113, ey113⟩ : ∃ q : Int32, q = y20 + 1 := ⟨_, rfl⟩
              have hy113 : Int32.toInt y113 = Int32.toInt y20 + 1 := by rw [ey113]; exact zi_addc rfl (by decide) (by revert hN24 hy20 c25 h_x_10; first | omega | (simp only [vp_in_iff, Int32.lt_iff_toInt_lt, Int32.le_iff_toInt_le, Int64.lt_iff_toInt_lt, Int64.le_iff_toInt_le, Int32.toInt_toInt64, ← Int32.toInt_inj, ← Int64.toInt_inj, Int32.reduceToInt, Int64.reduceToInt] <;> omega))
              refine lv_iinc (v := y113) (lv' := [(3, .int y113), (4, .int y107), (2, .int y84), (0, .ref q_0), (1, .int x_0)]) hx hb dX2_waysToDraw_81 hl (k := 2) rfl (by rw [ey113]; exact zz_inc (by decide)) (by decide) rfl (fun ls hl => ?_)
              refine lv_goto (tgt := 11) hx hb dX2_waysToDraw_84 (by decide) ?_
              exact ihN24 y113 y84 F108 _ _ ls (by revert hN24 hy20 c25 hy113 h_x_10; first | omega | (simp only [vp_in_iff, Int32.lt_iff_toInt_lt, Int32.le_iff_toInt_le, Int64.lt_iff_toInt_lt, Int64.le_iff_toInt_le, Int32.toInt_toInt64, ← Int32.toInt_inj, ← Int64.toInt_inj, Int32.reduceToInt, Int64.reduceToInt] <;> omega)) (by revert hN24 hy20 c25 hy113 h_x_10; first | omega | (simp only [vp_in_iff, Int32.lt_iff_toInt_lt, Int32.le_iff_toInt_le, Int64.lt_iff_toInt_lt, Int64.le_iff_toInt_le, Int32.toInt_toInt64, ← Int32.toInt_inj, ← Int64.toInt_inj, Int32.reduceToInt, Int64.reduceToInt] <;> omega)) (by revert hy84; first | omega | (simp only [vp_in_iff, Int32.lt_iff_toInt_lt, Int32.le_iff_toInt_le, Int64.lt_iff_toInt_lt, Int64.le_iff_toInt_le, Int32.toInt_toInt64, ← Int32.toInt_inj, ← Int64.toInt_inj, Int32.reduceToInt, Int64.reduceToInt] <;> omega)) hP hD hS (lv_sub hl [0, 2, 3, 4] rfl)
            · refine lv_aload_n hx hb dX2_waysToDraw_47 rfl (lv_at hl 3 rfl) ?_
              refine va_get (D := D) (ci := 2) (v := .ref q_1) (C := RX2) (T := TX2) (N := 14) hx hb hts inX2 hown hK hP 0 rfl rfl 13 (by decide) (hts _ kF_X2_34) (fun _ h9 => h9) rfl dX2_waysToDraw_48 ?_
              refine lv_iconst (v := 1) hx hb dX2_waysToDraw_51 (by decide) ?_
              refine lv_iload_n hx hb dX2_waysToDraw_52 rfl (lv_at hl 2 rfl) ?_
              refine lv_ishl hx hb dX2_waysToDraw_53 ?_
              refine lv_topi (fun y114 ey114 => ?_)
              have hy114 : 1 ≤ Int32.toInt y114 ∧ Int32.toInt y114 ≤ 2048 := by rw [ey114]; exact zo_shl1 11 (show 0 ≤ Int32.toInt y20 ∧ Int32.toInt y20 ≤ 11 by revert hN24 hy20 c25 h_x_10; first | omega | (simp only [vp_in_iff, Int32.lt_iff_toInt_lt, Int32.le_iff_toInt_le, Int64.lt_iff_toInt_lt, Int64.le_iff_toInt_le, Int32.toInt_toInt64, ← Int32.toInt_inj, ← Int64.toInt_inj, Int32.reduceToInt, Int64.reduceToInt] <;> omega)) (by decide)
              refine lv_iload hx hb dX2_waysToDraw_54 (lv_at hl 0 rfl) ?_
              refine lv_ior hx hb dX2_waysToDraw_56 ?_
              refine lv_topi (fun y115 ey115 => ?_)
              have hy115 : 0 ≤ Int32.toInt y115 ∧ Int32.toInt y115 ≤ 4095 := by rw [ey115]; exact zo_or 12 (show 0 ≤ Int32.toInt y114 ∧ Int32.toInt y114 < 2 ^ 12 by revert hN110 hy107 c112 hy114 hy111; first | omega | (simp only [vp_in_iff, Int32.lt_iff_toInt_lt, Int32.le_iff_toInt_le, Int64.lt_iff_toInt_lt, Int64.le_iff_toInt_le, Int32.toInt_toInt64, ← Int32.toInt_inj, ← Int64.toInt_inj, Int32.reduceToInt, Int64.reduceToInt] <;> omega)) (show 0 ≤ Int32.toInt y107 ∧ Int32.toInt y107 < 2 ^ 12 by revert hN110 hy107 c112 hy114 hy111; first | omega | (simp only [vp_in_iff, Int32.lt_iff_toInt_lt, Int32.le_iff_toInt_le, Int64.lt_iff_toInt_lt, Int64.le_iff_toInt_le, Int32.toInt_toInt64, ← Int32.toInt_inj, ← Int64.toInt_inj, Int32.reduceToInt, Int64.reduceToInt] <;> omega)) (by decide)
              refine lv_aload_n hx hb dX2_waysToDraw_57 rfl (lv_at hl 3 rfl) ?_
              refine va_get (D := D) (ci := 2) (v := .ref q_1) (C := RX2) (T := TX2) (N := 14) hx hb hts inX2 hown hK hP 0 rfl rfl 13 (by decide) (hts _ kF_X2_34) (fun _ h9 => h9) rfl dX2_waysToDraw_58 ?_
              refine lv_iload hx hb dX2_waysToDraw_61 (lv_at hl 0 rfl) ?_
              refine va_iald hx hb hK hP 1 0 rfl rfl (by revert hN110 hy107 c112 hy111; first | omega | (simp only [vp_in_iff, Int32.lt_iff_toInt_lt, Int32.le_iff_toInt_le, Int64.lt_iff_toInt_lt, Int64.le_iff_toInt_le, Int32.toInt_toInt64, ← Int32.toInt_inj, ← Int64.toInt_inj, Int32.reduceToInt, Int64.reduceToInt] <;> omega)) dX2_waysToDraw_63 ?_
              refine lv_topi (fun y116 ey116 => ?_)
              refine lv_aload_n hx hb dX2_waysToDraw_64 rfl (lv_at hl 3 rfl) ?_
              refine va_get (D := D) (ci := 2) (v := .ref q_2) (C := RX2) (T := TX2) (N := 14) hx hb hts inX2 hown hK hP 0 rfl rfl 1 (by decide) (hts _ kF_X2_48) (fun _ h9 => h9) rfl dX2_waysToDraw_65 ?_
              refine va_get (D := D) (ci := 4) (v := .ref q_4) (C := RX4) (T := TX4) (N := 13) hx hb hts inX4 hown hK hP 2 rfl rfl 12 (by decide) (hts _ kF_X2_142) (fun _ h9 => h9) rfl dX2_waysToDraw_68 ?_
              refine lv_iload_n hx hb dX2_waysToDraw_71 rfl (lv_at hl 2 rfl) ?_
              refine va_iald hx hb hK hP 4 0 rfl rfl (by revert hN24 hy20 c25 h_x_10; first | omega | (simp only [vp_in_iff, Int32.lt_iff_toInt_lt, Int32.le_iff_toInt_le, Int64.lt_iff_toInt_lt, Int64.le_iff_toInt_le, Int32.toInt_toInt64, ← Int32.toInt_inj, ← Int64.toInt_inj, Int32.reduceToInt, Int64.reduceToInt] <;> omega)) dX2_waysToDraw_72 ?_
              refine lv_topi (fun y117 ey117 => ?_)
              refine lv_iadd hx hb dX2_waysToDraw_73 ?_
              refine lv_topi (fun y118 ey118 => ?_)
              refine va_iast hx hb hK hP hD hS 1 0 rfl rfl (by revert hy115; first | omega | (simp only [vp_in_iff, Int32.lt_iff_toInt_lt, Int32.le_iff_toInt_le, Int64.lt_iff_toInt_lt, Int64.le_iff_toInt_le, Int32.toInt_toInt64, ← Int32.toInt_inj, ← Int64.toInt_inj, Int32.reduceToInt, Int64.reduceToInt] <;> omega)) dX2_waysToDraw_74 (fun H locs hP hD hS => ?_)
              obtain ⟨F119, eF119⟩ : ∃ q, q = upd F108 (Int32.toNatClampNeg y115) y118 := ⟨_, rfl⟩
              have hP : va_P D vwCl [(q_0, .inr (2, [.ref q_5, .ref q_2, .ref q_6, .int x_1, .int x_2, .ref q_7, .ref q_8, .ref q_9, .int x_3, .int x_4, .int x_5, .ref q_10, .ref q_11, .ref q_1])), (q_1, .inl (k 0, 4608, .inl F119)), (q_2, .inr (4, [.int x_7, .ref q_12, .int x_8, .ref q_13, .ref q_14, .int x_9, .ref q_15, .ref q_16, .ref q_17, .int x_10, .ref q_18, .ref q_3, .ref q_4])), (q_3, .inl (k 0, 12, .inl f_11)), (q_4, .inl (k 0, 12, .inl f_12))] H := by rw [eF119]; exact hP
              have hD : va_D A [(q_0, .inr (2, [.ref q_5, .ref q_2, .ref q_6, .int x_1, .int x_2, .ref q_7, .ref q_8, .ref q_9, .int x_3, .int x_4, .int x_5, .ref q_10, .ref q_11, .ref q_1])), (q_1, .inl (k 0, 4608, .inl F119)), (q_2, .inr (4, [.int x_7, .ref q_12, .int x_8, .ref q_13, .ref q_14, .int x_9, .ref q_15, .ref q_16, .ref q_17, .int x_10, .ref q_18, .ref q_3, .ref q_4])), (q_3, .inl (k 0, 12, .inl f_11)), (q_4, .inl (k 0, 12, .inl f_12))] := by rw [eF119]; exact hD
              obtain ⟨y120, ey120⟩ : ∃ q : Int32, q = y107 + 1 := ⟨_, rfl⟩
              have hy120 : Int32.toInt y120 = Int32.toInt y107 + 1 := by rw [ey120]; exact zi_addc rfl (by decide) (by revert hN110 hy107 c112 hy111; first | omega | (simp only [vp_in_iff, Int32.lt_iff_toInt_lt, Int32.le_iff_toInt_le, Int64.lt_iff_toInt_lt, Int64.le_iff_toInt_le, Int32.toInt_toInt64, ← Int32.toInt_inj, ← Int64.toInt_inj, Int32.reduceToInt, Int64.reduceToInt] <;> omega))
              refine lv_iinc (v := y120) (lv' := [(4, .int y120), (2, .int y84), (3, .int y20), (0, .ref q_0), (1, .int x_0)]) hx hb dX2_waysToDraw_75 hl (k := 0) rfl (by rw [ey120]; exact zz_inc (by decide)) (by decide) rfl (fun ls hl => ?_)
              refine lv_goto (tgt := 39) hx hb dX2_waysToDraw_78 (by decide) ?_
              exact ihN110 y120 F119 _ _ ls (by revert hN110 hy107 c112 hy120 hy111; first | omega | (simp only [vp_in_iff, Int32.lt_iff_toInt_lt, Int32.le_iff_toInt_le, Int64.lt_iff_toInt_lt, Int64.le_iff_toInt_le, Int32.toInt_toInt64, ← Int32.toInt_inj, ← Int64.toInt_inj, Int32.reduceToInt, Int64.reduceToInt] <;> omega)) (by revert hN110 hy107 c112 hy120 hy111; first | omega | (simp only [vp_in_iff, Int32.lt_iff_toInt_lt, Int32.le_iff_toInt_le, Int64.lt_iff_toInt_lt, Int64.le_iff_toInt_le, Int32.toInt_toInt64, ← Int32.toInt_inj, ← Int64.toInt_inj, Int32.reduceToInt, Int64.reduceToInt] <;> omega)) hP hD hS (lv_sub hl [0, 1, 2, 3, 4] rfl)
        exact loop109 _ 0 F22 _ _ _ (Nat.lt_succ_self _) (by first | omega | (simp only [vp_in_iff, Int32.lt_iff_toInt_lt, Int32.le_iff_toInt_le, Int64.lt_iff_toInt_lt, Int64.le_iff_toInt_le, Int32.toInt_toInt64, ← Int32.toInt_inj, ← Int64.toInt_inj, Int32.reduceToInt, Int64.reduceToInt] <;> omega)) hP hD hS (lv_sub hl [0, 1, 2, 3, 4] rfl)
  exact loop23 _ 0 0 F1 _ _ _ (Nat.lt_succ_self _) (by first | omega | (simp only [vp_in_iff, Int32.lt_iff_toInt_lt, Int32.le_iff_toInt_le, Int64.lt_iff_toInt_lt, Int64.le_iff_toInt_le, Int32.toInt_toInt64, ← Int32.toInt_inj, ← Int64.toInt_inj, Int32.reduceToInt, Int64.reduceToInt] <;> omega)) (by first | omega | (simp only [vp_in_iff, Int32.lt_iff_toInt_lt, Int32.le_iff_toInt_le, Int64.lt_iff_toInt_lt, Int64.le_iff_toInt_le, Int32.toInt_toInt64, ← Int32.toInt_inj, ← Int64.toInt_inj, Int32.reduceToInt, Int64.reduceToInt] <;> omega)) hP hD hS (lv_sub hl [0, 1, 2, 3] rfl)

set_option maxHeartbeats 4000000 in
set_option maxRecDepth 100000 in
theorem s_X11_helped_1 (l : Launch) (D : va_G) (k : Nat → ClassId) (q_0 : Nat) (q_1 : Nat) (q_2 : Nat) (q_3 : Nat) (q_4 : Nat) (q_5 : Nat) (q_6 : Nat) (q_7 : Nat) (q_8 : Nat) (q_9 : Nat) (q_10 : Nat) (q_11 : Nat) (q_12 : Nat) (q_13 : Nat) (q_14 : Nat) (q_15 : Nat) (q_16 : Nat) (q_17 : Nat) (q_18 : Nat) (q_19 : Nat) (q_20 : Nat) (q_21 : Nat) (q_22 : Nat) (q_23 : Nat) (x_0 : Int32) (x_1 : Int32) (x_2 : Int32) (x_3 : Int32) (x_4 : Int32) (x_5 : Int32) (x_6 : Int32) (f_7 : Nat → Int32) (x_8 : Int32) (x_9 : Int32) (x_10 : Int32) (x_11 : Int32) (f_12 : Nat → Int32) (f_13 : Nat → Int32) (h_x_2 : 0 ≤ Int32.toInt x_2 ∧ Int32.toInt x_2 ≤ 6) (h_x_8 : 0 ≤ Int32.toInt x_8 ∧ Int32.toInt x_8 ≤ 6) (h_x_9 : 0 ≤ Int32.toInt x_9 ∧ Int32.toInt x_9 ≤ 6) (h_x_10 : 0 ≤ Int32.toInt x_10 ∧ Int32.toInt x_10 ≤ 9) (h_x_11 : 0 ≤ Int32.toInt x_11 ∧ Int32.toInt x_11 ≤ 12) (h_f_12 : zR f_12 0 1) : zMi l yX11_helped cX11_helped 2 (some .int) ({ frames := 2, cells := 0, slots := 0, locals := 46 }) D k [.ref q_0, .int x_0] [(q_0, .inr (11, [.ref q_6, .ref q_7, .ref q_8, .ref q_9, .ref q_1, .int x_1])), (q_1, .inr (2, [.ref q_10, .ref q_3, .ref q_11, .int x_2, .int x_3, .ref q_12, .ref q_13, .ref q_14, .int x_4, .int x_5, .int x_6, .ref q_15, .ref q_16, .ref q_2])), (q_2, .inl (k 0, 4608, .inl f_7)), (q_3, .inr (4, [.int x_8, .ref q_17, .int x_9, .ref q_18, .ref q_19, .int x_10, .ref q_20, .ref q_21, .ref q_22, .int x_11, .ref q_23, .ref q_4, .ref q_5])), (q_4, .inl (k 0, 12, .inl f_12)), (q_5, .inl (k 0, 12, .inl f_13))] (fun r u => u.1 = 0) (fun u => [(q_0, .inr (11, [.ref q_6, .ref q_7, .ref q_8, .ref q_9, .ref q_1, .int x_1])), (q_1, .inr (2, [.ref q_10, .ref q_3, .ref q_11, .int x_2, .int x_3, .ref q_12, .ref q_13, .ref q_14, .int x_4, .int x_5, .int x_6, .ref q_15, .ref q_16, .ref q_2])), (q_2, .inl (k 0, 4608, .inl (u.2.2.2.2.1 0))), (q_3, .inr (4, [.int x_8, .ref q_17, .int x_9, .ref q_18, .ref q_19, .int x_10, .ref q_20, .ref q_21, .ref q_22, .int x_11, .ref q_23, .ref q_4, .ref q_5])), (q_4, .inl (k 0, 12, .inl f_12)), (q_5, .inl (k 0, 12, .inl f_13))]) := by
  refine zMi_of (own := RX11) (by decide +kernel) rfl (Nat.le_of_ble_eq_true rfl) ?_
  intro p e s m args below meth c A ls C0 hr hlk hin hP hD hS hA hK hN hl
  have hx := C0.1
  have hb := C0.2.1
  have hml := C0.2.2.1
  have hown := C0.2.2.2.1
  have hts := C0.2.2.2.2
  have hl : lv_has ls 2 [(0, .ref q_0), (1, .int x_0)] := hl
  have hP : va_P D vwCl [(q_0, .inr (11, [.ref q_6, .ref q_7, .ref q_8, .ref q_9, .ref q_1, .int x_1])), (q_1, .inr (2, [.ref q_10, .ref q_3, .ref q_11, .int x_2, .int x_3, .ref q_12, .ref q_13, .ref q_14, .int x_4, .int x_5, .int x_6, .ref q_15, .ref q_16, .ref q_2])), (q_2, .inl (k 0, 4608, .inl f_7)), (q_3, .inr (4, [.int x_8, .ref q_17, .int x_9, .ref q_18, .ref q_19, .int x_10, .ref q_20, .ref q_21, .ref q_22, .int x_11, .ref q_23, .ref q_4, .ref q_5])), (q_4, .inl (k 0, 12, .inl f_12)), (q_5, .inl (k 0, 12, .inl f_13))] s.heap := hP
  refine lv_iload_n hx hb dX11_helped_0 rfl (lv_at hl 1 rfl) ?_
  refine lv_iconst (v := 0) hx hb dX11_helped_1 (by decide) ?_
  refine lv_iconst (v := 1) hx hb dX11_helped_2 (by decide) ?_
  refine z_bi0 (z_runS (As := [.int x_0, .int 0, .int 1]) (rest := []) C0 (s_X11_isOutside_1 l D k x_0 0 1 _) okS_X11_isOutside kM_X11_47 rfl (z_p0 hK hN) rfl hl.1 rfl (Nat.le_of_ble_eq_true rfl) dX11_helped_3 rfl) hP hS hA (fun r1 u1 H locs hw1 hP hS => ?_)
  obtain ⟨i1, a1, v1, w1, f1, g1, o1⟩ := u1
  dsimp only at hw1
  rcases hw1 with ⟨rfl, rfl, c1⟩ | ⟨rfl, rfl, c1⟩
  · refine lv_if_eq (tgt := 13) hx hb dX11_helped_6 (by decide) (fun c2 => absurd c2 (by decide)) (fun _ => ?_)
    refine lv_iconst (v := (-1)) hx hb dX11_helped_9 (by decide) ?_
    refine lv_goto (tgt := 29) hx hb dX11_helped_10 (by decide) ?_
    exact z_iret C0 hr hlk rfl hK hP hD hS (0, fun _ => 0, fun _ => 0, fun _ => 0, fun i => [f_7].getD i (fun _ => 0), fun _ => (fun _ => 0), fun _ => (fun _ => none)) rfl [0, 1, 2, 3, 4, 5] rfl rfl rfl dX11_helped_29
  · refine lv_if_eq (tgt := 13) hx hb dX11_helped_6 (by decide) (fun _ => ?_) (fun c3 => absurd (by decide) c3)
    refine lv_aload_n hx hb dX11_helped_13 rfl (lv_at hl 0 rfl) ?_
    refine va_get (D := D) (ci := 11) (v := .ref q_1) (C := RX11) (T := TX11) (N := 6) hx hb hts inX11 hown hK hP 0 rfl rfl 4 (by decide) (hts _ kF_X11_39) (fun _ h9 => h9) rfl dX11_helped_14 ?_
    refine lv_iload_n hx hb dX11_helped_17 rfl (lv_at hl 1 rfl) ?_
    refine lv_if_ne (tgt := 25) hx hb dX11_helped_18 (by decide) (fun c4 => ?_) (fun c4 => ?_)
    · refine lv_iconst (v := 0) hx hb dX11_helped_25 (by decide) ?_
      refine z_bi (wr := [(q_0, .inr (11, [.ref q_6, .ref q_7, .ref q_8, .ref q_9, .ref q_1, .int x_1]))]) (z_runV (C := RX2) (As := [.int 0]) (rest := []) C0 (s_X2_waysToDraw_1 l D k q_1 q_2 q_3 q_4 q_5 q_10 q_11 q_12 q_13 q_14 q_15 q_16 q_17 q_18 q_19 q_20 q_21 q_22 q_23 0 x_2 x_3 x_4 x_5 x_6 f_7 x_8 x_9 x_10 x_11 f_12 f_13 (by revert h_x_2; first | omega | (simp only [vp_in_iff, Int32.lt_iff_toInt_lt, Int32.le_iff_toInt_le, Int64.lt_iff_toInt_lt, Int64.le_iff_toInt_le, Int32.toInt_toInt64, ← Int32.toInt_inj, ← Int64.toInt_inj, Int32.reduceToInt, Int64.reduceToInt] <;> omega)) (by revert h_x_8; first | omega | (simp only [vp_in_iff, Int32.lt_iff_toInt_lt, Int32.le_iff_toInt_le, Int64.lt_iff_toInt_lt, Int64.le_iff_toInt_le, Int32.toInt_toInt64, ← Int32.toInt_inj, ← Int64.toInt_inj, Int32.reduceToInt, Int64.reduceToInt] <;> omega)) (by revert h_x_9; first | omega | (simp only [vp_in_iff, Int32.lt_iff_toInt_lt, Int32.le_iff_toInt_le, Int64.lt_iff_toInt_lt, Int64.le_iff_toInt_le, Int32.toInt_toInt64, ← Int32.toInt_inj, ← Int64.toInt_inj, Int32.reduceToInt, Int64.reduceToInt] <;> omega)) (by revert h_x_10; first | omega | (simp only [vp_in_iff, Int32.lt_iff_toInt_lt, Int32.le_iff_toInt_le, Int64.lt_iff_toInt_lt, Int64.le_iff_toInt_le, Int32.toInt_toInt64, ← Int32.toInt_inj, ← Int64.toInt_inj, Int32.reduceToInt, Int64.reduceToInt] <;> omega)) (by revert h_x_11; first | omega | (simp only [vp_in_iff, Int32.lt_iff_toInt_lt, Int32.le_iff_toInt_le, Int64.lt_iff_toInt_lt, Int64.le_iff_toInt_le, Int32.toInt_toInt64, ← Int32.toInt_inj, ← Int64.toInt_inj, Int32.reduceToInt, Int64.reduceToInt] <;> omega)) h_f_12 _) okV_X2_waysToDraw kM_X11_361 rfl (z_pV (q0 := 1) hK hN hP hD [1, 2, 3, 4, 5] rfl rfl rfl rfl rfl) rfl hl.1 rfl (Nat.le_of_ble_eq_true rfl) dX11_helped_26 rfl) hP hD hS hA [1, 2, 3, 4, 5] [0] rfl rfl rfl rfl (fun r5 u5 H locs hw5 hP hD hS => ?_)
      obtain ⟨i5, a5, v5, w5, f5, g5, o5⟩ := u5
      dsimp only at hw5
      obtain rfl := hw5
      have hP : va_P D vwCl [(q_0, .inr (11, [.ref q_6, .ref q_7, .ref q_8, .ref q_9, .ref q_1, .int x_1])), (q_1, .inr (2, [.ref q_10, .ref q_3, .ref q_11, .int x_2, .int x_3, .ref q_12, .ref q_13, .ref q_14, .int x_4, .int x_5, .int x_6, .ref q_15, .ref q_16, .ref q_2])), (q_2, .inl (k 0, 4608, .inl (f5 0))), (q_3, .inr (4, [.int x_8, .ref q_17, .int x_9, .ref q_18, .ref q_19, .int x_10, .ref q_20, .ref q_21, .ref q_22, .int x_11, .ref q_23, .ref q_4, .ref q_5])), (q_4, .inl (k 0, 12, .inl f_12)), (q_5, .inl (k 0, 12, .inl f_13))] H := hP
      have hD : va_D A [(q_0, .inr (11, [.ref q_6, .ref q_7, .ref q_8, .ref q_9, .ref q_1, .int x_1])), (q_1, .inr (2, [.ref q_10, .ref q_3, .ref q_11, .int x_2, .int x_3, .ref q_12, .ref q_13, .ref q_14, .int x_4, .int x_5, .int x_6, .ref q_15, .ref q_16, .ref q_2])), (q_2, .inl (k 0, 4608, .inl (f5 0))), (q_3, .inr (4, [.int x_8, .ref q_17, .int x_9, .ref q_18, .ref q_19, .int x_10, .ref q_20, .ref q_21, .ref q_22, .int x_11, .ref q_23, .ref q_4, .ref q_5])), (q_4, .inl (k 0, 12, .inl f_12)), (q_5, .inl (k 0, 12, .inl f_13))] := hD
      exact z_iret C0 hr hlk rfl hK hP hD hS (0, fun _ => 0, fun _ => 0, fun _ => 0, fun i => [(f5 0)].getD i (fun _ => 0), fun _ => (fun _ => 0), fun _ => (fun _ => none)) rfl [0, 1, 2, 3, 4, 5] rfl rfl rfl dX11_helped_29
    · refine lv_iconst (v := 1) hx hb dX11_helped_21 (by decide) ?_
      refine lv_goto (tgt := 26) hx hb dX11_helped_22 (by decide) ?_
      refine z_bi (wr := [(q_0, .inr (11, [.ref q_6, .ref q_7, .ref q_8, .ref q_9, .ref q_1, .int x_1]))]) (z_runV (C := RX2) (As := [.int 1]) (rest := []) C0 (s_X2_waysToDraw_1 l D k q_1 q_2 q_3 q_4 q_5 q_10 q_11 q_12 q_13 q_14 q_15 q_16 q_17 q_18 q_19 q_20 q_21 q_22 q_23 1 x_2 x_3 x_4 x_5 x_6 f_7 x_8 x_9 x_10 x_11 f_12 f_13 (by revert h_x_2; first | omega | (simp only [vp_in_iff, Int32.lt_iff_toInt_lt, Int32.le_iff_toInt_le, Int64.lt_iff_toInt_lt, Int64.le_iff_toInt_le, Int32.toInt_toInt64, ← Int32.toInt_inj, ← Int64.toInt_inj, Int32.reduceToInt, Int64.reduceToInt] <;> omega)) (by revert h_x_8; first | omega | (simp only [vp_in_iff, Int32.lt_iff_toInt_lt, Int32.le_iff_toInt_le, Int64.lt_iff_toInt_lt, Int64.le_iff_toInt_le, Int32.toInt_toInt64, ← Int32.toInt_inj, ← Int64.toInt_inj, Int32.reduceToInt, Int64.reduceToInt] <;> omega)) (by revert h_x_9; first | omega | (simp only [vp_in_iff, Int32.lt_iff_toInt_lt, Int32.le_iff_toInt_le, Int64.lt_iff_toInt_lt, Int64.le_iff_toInt_le, Int32.toInt_toInt64, ← Int32.toInt_inj, ← Int64.toInt_inj, Int32.reduceToInt, Int64.reduceToInt] <;> omega)) (by revert h_x_10; first | omega | (simp only [vp_in_iff, Int32.lt_iff_toInt_lt, Int32.le_iff_toInt_le, Int64.lt_iff_toInt_lt, Int64.le_iff_toInt_le, Int32.toInt_toInt64, ← Int32.toInt_inj, ← Int64.toInt_inj, Int32.reduceToInt, Int64.reduceToInt] <;> omega)) (by revert h_x_11; first | omega | (simp only [vp_in_iff, Int32.lt_iff_toInt_lt, Int32.le_iff_toInt_le, Int64.lt_iff_toInt_lt, Int64.le_iff_toInt_le, Int32.toInt_toInt64, ← Int32.toInt_inj, ← Int64.toInt_inj, Int32.reduceToInt, Int64.reduceToInt] <;> omega)) h_f_12 _) okV_X2_waysToDraw kM_X11_361 rfl (z_pV (q0 := 1) hK hN hP hD [1, 2, 3, 4, 5] rfl rfl rfl rfl rfl) rfl hl.1 rfl (Nat.le_of_ble_eq_true rfl) dX11_helped_26 rfl) hP hD hS hA [1, 2, 3, 4, 5] [0] rfl rfl rfl rfl (fun r6 u6 H locs hw6 hP hD hS => ?_)
      obtain ⟨i6, a6, v6, w6, f6, g6, o6⟩ := u6
      dsimp only at hw6
      obtain rfl := hw6
      have hP : va_P D vwCl [(q_0, .inr (11, [.ref q_6, .ref q_7, .ref q_8, .ref q_9, .ref q_1, .int x_1])), (q_1, .inr (2, [.ref q_10, .ref q_3, .ref q_11, .int x_2, .int x_3, .ref q_12, .ref q_13, .ref q_14, .int x_4, .int x_5, .int x_6, .ref q_15, .ref q_16, .ref q_2])), (q_2, .inl (k 0, 4608, .inl (f6 0))), (q_3, .inr (4, [.int x_8, .ref q_17, .int x_9, .ref q_18, .ref q_19, .int x_10, .ref q_20, .ref q_21, .ref q_22, .int x_11, .ref q_23, .ref q_4, .ref q_5])), (q_4, .inl (k 0, 12, .inl f_12)), (q_5, .inl (k 0, 12, .inl f_13))] H := hP
      have hD : va_D A [(q_0, .inr (11, [.ref q_6, .ref q_7, .ref q_8, .ref q_9, .ref q_1, .int x_1])), (q_1, .inr (2, [.ref q_10, .ref q_3, .ref q_11, .int x_2, .int x_3, .ref q_12, .ref q_13, .ref q_14, .int x_4, .int x_5, .int x_6, .ref q_15, .ref q_16, .ref q_2])), (q_2, .inl (k 0, 4608, .inl (f6 0))), (q_3, .inr (4, [.int x_8, .ref q_17, .int x_9, .ref q_18, .ref q_19, .int x_10, .ref q_20, .ref q_21, .ref q_22, .int x_11, .ref q_23, .ref q_4, .ref q_5])), (q_4, .inl (k 0, 12, .inl f_12)), (q_5, .inl (k 0, 12, .inl f_13))] := hD
      exact z_iret C0 hr hlk rfl hK hP hD hS (0, fun _ => 0, fun _ => 0, fun _ => 0, fun i => [(f6 0)].getD i (fun _ => 0), fun _ => (fun _ => 0), fun _ => (fun _ => none)) rfl [0, 1, 2, 3, 4, 5] rfl rfl rfl dX11_helped_29

set_option maxHeartbeats 4000000 in
set_option maxRecDepth 100000 in
theorem s_X5_numberOf_10 (l : Launch) (D : va_G) (k : Nat → ClassId) (q_0 : Nat) (q_1 : Nat) (q_2 : Nat) (q_3 : Nat) (q_4 : Nat) (q_5 : Nat) (q_6 : Nat) (q_7 : Nat) (q_8 : Nat) (q_9 : Nat) (q_10 : Nat) (q_11 : Nat) (q_12 : Nat) (x_0 : Int32) (x_1 : Int32) (x_2 : Int32) (x_3 : Int32) (f_4 : Nat → Int32) (f_5 : Nat → Int32) (h_x_0 : 0 ≤ Int32.toInt x_0 ∧ Int32.toInt x_0 ≤ 399) (h_x_1 : 1 ≤ Int32.toInt x_1 ∧ Int32.toInt x_1 ≤ 400) : zMi l yX5_numberOf cX5_numberOf 2 (some .int) ({ frames := 0, cells := 0, slots := 0, locals := 0 }) D k [.ref q_0, .int x_0] [(q_0, .inr (5, [.int x_1, .ref q_3, .ref q_4, .ref q_5, .ref q_2, .ref q_1, .ref q_6, .ref q_7, .ref q_8, .ref q_9, .ref q_10, .ref q_11, .ref q_12, .int x_2, .int x_3])), (q_1, .inl (k 0, 400, .inl f_4)), (q_2, .inl (k 0, 400, .inl f_5))] (fun r u => u.1 = 0) (fun u => [(q_0, .inr (5, [.int x_1, .ref q_3, .ref q_4, .ref q_5, .ref q_2, .ref q_1, .ref q_6, .ref q_7, .ref q_8, .ref q_9, .ref q_10, .ref q_11, .ref q_12, .int x_2, .int x_3])), (q_1, .inl (k 0, 400, .inl f_4)), (q_2, .inl (k 0, 400, .inl f_5))]) := by
  refine zMi_of (own := RX5) (by decide +kernel) rfl (Nat.le_of_ble_eq_true rfl) ?_
  intro p e s m args below meth c A ls C0 hr hlk hin hP hD hS hA hK hN hl
  have hx := C0.1
  have hb := C0.2.1
  have hml := C0.2.2.1
  have hown := C0.2.2.2.1
  have hts := C0.2.2.2.2
  have hl : lv_has ls 2 [(0, .ref q_0), (1, .int x_0)] := hl
  have hP : va_P D vwCl [(q_0, .inr (5, [.int x_1, .ref q_3, .ref q_4, .ref q_5, .ref q_2, .ref q_1, .ref q_6, .ref q_7, .ref q_8, .ref q_9, .ref q_10, .ref q_11, .ref q_12, .int x_2, .int x_3])), (q_1, .inl (k 0, 400, .inl f_4)), (q_2, .inl (k 0, 400, .inl f_5))] s.heap := hP
  refine lv_bipush (v := 26) hx hb dX5_numberOf_0 (by decide) ?_
  refine lv_aload_n hx hb dX5_numberOf_2 rfl (lv_at hl 0 rfl) ?_
  refine va_get (D := D) (ci := 5) (v := .ref q_1) (C := RX5) (T := TX5) (N := 15) hx hb hts inX5 hown hK hP 0 rfl rfl 5 (by decide) (hts _ kF_X5_24) (fun _ h9 => h9) rfl dX5_numberOf_3 ?_
  refine lv_iload_n hx hb dX5_numberOf_6 rfl (lv_at hl 1 rfl) ?_
  refine va_iald hx hb hK hP 1 0 rfl rfl (by revert h_x_0; first | omega | (simp only [vp_in_iff, Int32.lt_iff_toInt_lt, Int32.le_iff_toInt_le, Int64.lt_iff_toInt_lt, Int64.le_iff_toInt_le, Int32.toInt_toInt64, ← Int32.toInt_inj, ← Int64.toInt_inj, Int32.reduceToInt, Int64.reduceToInt] <;> omega)) dX5_numberOf_7 ?_
  refine lv_topi (fun y1 ey1 => ?_)
  refine lv_imul hx hb dX5_numberOf_8 ?_
  refine lv_topi (fun y2 ey2 => ?_)
  refine lv_aload_n hx hb dX5_numberOf_9 rfl (lv_at hl 0 rfl) ?_
  refine va_get (D := D) (ci := 5) (v := .ref q_2) (C := RX5) (T := TX5) (N := 15) hx hb hts inX5 hown hK hP 0 rfl rfl 4 (by decide) (hts _ kF_X5_21) (fun _ h9 => h9) rfl dX5_numberOf_10 ?_
  refine lv_iload_n hx hb dX5_numberOf_13 rfl (lv_at hl 1 rfl) ?_
  refine va_iald hx hb hK hP 2 0 rfl rfl (by revert h_x_0; first | omega | (simp only [vp_in_iff, Int32.lt_iff_toInt_lt, Int32.le_iff_toInt_le, Int64.lt_iff_toInt_lt, Int64.le_iff_toInt_le, Int32.toInt_toInt64, ← Int32.toInt_inj, ← Int64.toInt_inj, Int32.reduceToInt, Int64.reduceToInt] <;> omega)) dX5_numberOf_14 ?_
  refine lv_topi (fun y3 ey3 => ?_)
  refine lv_iadd hx hb dX5_numberOf_15 ?_
  refine lv_topi (fun y4 ey4 => ?_)
  exact z_iret C0 hr hlk rfl hK hP hD hS (0, fun _ => 0, fun _ => 0, fun _ => 0, fun _ => (fun _ => 0), fun _ => (fun _ => 0), fun _ => (fun _ => none)) rfl [0, 1, 2] rfl rfl rfl dX5_numberOf_16

set_option maxHeartbeats 4000000 in
set_option maxRecDepth 100000 in
theorem s_X5_sumDay_1 (l : Launch) (D : va_G) (k : Nat → ClassId) (q_0 : Nat) (q_1 : Nat) (q_2 : Nat) (q_3 : Nat) (q_4 : Nat) (q_5 : Nat) (q_6 : Nat) (q_7 : Nat) (q_8 : Nat) (q_9 : Nat) (q_10 : Nat) (q_11 : Nat) (q_12 : Nat) (x_0 : Int32) (x_1 : Int32) (x_2 : Int32) (x_3 : Int32) (f_4 : Nat → Int32) (f_5 : Nat → Int32) (f_6 : Nat → Int32) (h_x_1 : 0 ≤ Int32.toInt x_1 ∧ Int32.toInt x_1 ≤ 400) (h_f_4 : zR f_4 0 799) : zMi l yX5_sumDay cX5_sumDay 4 (some .int) ({ frames := 1, cells := 0, slots := 0, locals := 21 }) D k [.ref q_0, .int x_0] [(q_0, .inr (5, [.int x_1, .ref q_4, .ref q_5, .ref q_1, .ref q_3, .ref q_2, .ref q_6, .ref q_7, .ref q_8, .ref q_9, .ref q_10, .ref q_11, .ref q_12, .int x_2, .int x_3])), (q_1, .inl (k 0, 400, .inl f_4)), (q_2, .inl (k 0, 400, .inl f_5)), (q_3, .inl (k 0, 400, .inl f_6))] (fun r u => u.1 = 0) (fun u => [(q_0, .inr (5, [.int x_1, .ref q_4, .ref q_5, .ref q_1, .ref q_3, .ref q_2, .ref q_6, .ref q_7, .ref q_8, .ref q_9, .ref q_10, .ref q_11, .ref q_12, .int (u.2.2.1 0), .int (u.2.2.1 1)])), (q_1, .inl (k 0, 400, .inl f_4)), (q_2, .inl (k 0, 400, .inl f_5)), (q_3, .inl (k 0, 400, .inl f_6))]) := by
  refine zMi_of (own := RX5) (by decide +kernel) rfl (Nat.le_of_ble_eq_true rfl) ?_
  intro p e s m args below meth c A ls C0 hr hlk hin hP hD hS hA hK hN hl
  have hx := C0.1
  have hb := C0.2.1
  have hml := C0.2.2.1
  have hown := C0.2.2.2.1
  have hts := C0.2.2.2.2
  have hl : lv_has ls 4 [(0, .ref q_0), (1, .int x_0)] := hl
  have hP : va_P D vwCl [(q_0, .inr (5, [.int x_1, .ref q_4, .ref q_5, .ref q_1, .ref q_3, .ref q_2, .ref q_6, .ref q_7, .ref q_8, .ref q_9, .ref q_10, .ref q_11, .ref q_12, .int x_2, .int x_3])), (q_1, .inl (k 0, 400, .inl f_4)), (q_2, .inl (k 0, 400, .inl f_5)), (q_3, .inl (k 0, 400, .inl f_6))] s.heap := hP
  refine lv_iconst (v := 0) hx hb dX5_sumDay_0 (by decide) ?_
  refine lv_istore_n (lv' := [(2, .int 0), (0, .ref q_0), (1, .int x_0)]) hx hb dX5_sumDay_1 rfl hl (by decide) rfl (fun ls hl => ?_)
  refine lv_aload_n hx hb dX5_sumDay_2 rfl (lv_at hl 1 rfl) ?_
  refine lv_iconst (v := 0) hx hb dX5_sumDay_3 (by decide) ?_
  refine va_put (D := D) (ci := 5) (v := .int 0) (ty := .int) (C := RX5) (T := TX5) (N := 15) hx hb hts inX5 tyX5 tyX5_ok nmX5 hown hK hP hD hS 0 rfl rfl 13 (by decide) (hts _ kF_X5_69) (fun _ h9 => h9) rfl (by decide +kernel) rfl rfl (Nat.le_of_ble_eq_true rfl) dX5_sumDay_4 (fun H locs hP hD hS => ?_)
  have hP : va_P D vwCl [(q_0, .inr (5, [.int x_1, .ref q_4, .ref q_5, .ref q_1, .ref q_3, .ref q_2, .ref q_6, .ref q_7, .ref q_8, .ref q_9, .ref q_10, .ref q_11, .ref q_12, .int 0, .int x_3])), (q_1, .inl (k 0, 400, .inl f_4)), (q_2, .inl (k 0, 400, .inl f_5)), (q_3, .inl (k 0, 400, .inl f_6))] H := hP
  have hD : va_D A [(q_0, .inr (5, [.int x_1, .ref q_4, .ref q_5, .ref q_1, .ref q_3, .ref q_2, .ref q_6, .ref q_7, .ref q_8, .ref q_9, .ref q_10, .ref q_11, .ref q_12, .int 0, .int x_3])), (q_1, .inl (k 0, 400, .inl f_4)), (q_2, .inl (k 0, 400, .inl f_5)), (q_3, .inl (k 0, 400, .inl f_6))] := hD
  refine lv_aload_n hx hb dX5_sumDay_7 rfl (lv_at hl 1 rfl) ?_
  refine lv_iconst (v := 0) hx hb dX5_sumDay_8 (by decide) ?_
  refine va_put (D := D) (ci := 5) (v := .int 0) (ty := .int) (C := RX5) (T := TX5) (N := 15) hx hb hts inX5 tyX5 tyX5_ok nmX5 hown hK hP hD hS 0 rfl rfl 14 (by decide) (hts _ kF_X5_72) (fun _ h9 => h9) rfl (by decide +kernel) rfl rfl (Nat.le_of_ble_eq_true rfl) dX5_sumDay_9 (fun H locs hP hD hS => ?_)
  have hP : va_P D vwCl [(q_0, .inr (5, [.int x_1, .ref q_4, .ref q_5, .ref q_1, .ref q_3, .ref q_2, .ref q_6, .ref q_7, .ref q_8, .ref q_9, .ref q_10, .ref q_11, .ref q_12, .int 0, .int 0])), (q_1, .inl (k 0, 400, .inl f_4)), (q_2, .inl (k 0, 400, .inl f_5)), (q_3, .inl (k 0, 400, .inl f_6))] H := hP
  have hD : va_D A [(q_0, .inr (5, [.int x_1, .ref q_4, .ref q_5, .ref q_1, .ref q_3, .ref q_2, .ref q_6, .ref q_7, .ref q_8, .ref q_9, .ref q_10, .ref q_11, .ref q_12, .int 0, .int 0])), (q_1, .inl (k 0, 400, .inl f_4)), (q_2, .inl (k 0, 400, .inl f_5)), (q_3, .inl (k 0, 400, .inl f_6))] := hD
  refine lv_iconst (v := 0) hx hb dX5_sumDay_12 (by decide) ?_
  refine lv_istore_n (lv' := [(3, .int 0), (2, .int 0), (0, .ref q_0), (1, .int x_0)]) hx hb dX5_sumDay_13 rfl hl (by decide) rfl (fun ls hl => ?_)
  have loop73 : ∀ (N74 : Nat) (y69 : Int32) (y70 : Int32) (y71 : Int32) (y72 : Int32) (H : Heap) (locs : List Loc) (ls : Array Slot), Int.toNat (400 - Int32.toInt y69) < N74 → 0 ≤ Int32.toInt y69 ∧ Int32.toInt y69 ≤ 400 → va_P D vwCl [(q_0, .inr (5, [.int x_1, .ref q_4, .ref q_5, .ref q_1, .ref q_3, .ref q_2, .ref q_6, .ref q_7, .ref q_8, .ref q_9, .ref q_10, .ref q_11, .ref q_12, .int y71, .int y72])), (q_1, .inl (k 0, 400, .inl f_4)), (q_2, .inl (k 0, 400, .inl f_5)), (q_3, .inl (k 0, 400, .inl f_6))] H → va_D A [(q_0, .inr (5, [.int x_1, .ref q_4, .ref q_5, .ref q_1, .ref q_3, .ref q_2, .ref q_6, .ref q_7, .ref q_8, .ref q_9, .ref q_10, .ref q_11, .ref q_12, .int y71, .int y72])), (q_1, .inl (k 0, 400, .inl f_4)), (q_2, .inl (k 0, 400, .inl f_5)), (q_3, .inl (k 0, 400, .inl f_6))] → va_S A s.heap H locs → lv_has ls 4 [(3, .int y69), (2, .int y70), (0, .ref q_0), (1, .int x_0)] → W p l e { frames := 1, cells := 0, slots := 0, locals := 21 } s m args below meth c H locs 0 0 (MQ below (va_Qi (fun (r : Int32) (u : zS) => u.1 = 0) (zB D k A (fun (u : zS) => [(q_0, .inr (5, [.int x_1, .ref q_4, .ref q_5, .ref q_1, .ref q_3, .ref q_2, .ref q_6, .ref q_7, .ref q_8, .ref q_9, .ref q_10, .ref q_11, .ref q_12, .int (u.2.2.1 0), .int (u.2.2.1 1)])), (q_1, .inl (k 0, 400, .inl f_4)), (q_2, .inl (k 0, 400, .inl f_5)), (q_3, .inl (k 0, 400, .inl f_6))])) A) args s 0 0 A) (F0 m 14 ls []) := by
    intro N74
    induction N74 with
    | zero => intro y69 y70 y71 y72 H locs ls hm; exact absurd hm (Nat.not_lt_zero _)
    | succ N74 ihN74 =>
      intro y69 y70 y71 y72 H locs ls hN74 hy69 hP hD hS hl
      refine lv_iload_n hx hb dX5_sumDay_14 rfl (lv_at hl 0 rfl) ?_
      refine lv_aload_n hx hb dX5_sumDay_15 rfl (lv_at hl 2 rfl) ?_
      refine va_get (D := D) (ci := 5) (v := .int x_1) (C := RX5) (T := TX5) (N := 15) hx hb hts inX5 hown hK hP 0 rfl rfl 0 (by decide) (hts _ kF_X5_54) (fun _ h9 => h9) rfl dX5_sumDay_16 ?_
      refine lv_icmp_ge (tgt := 73) hx hb dX5_sumDay_19 (by decide) (fun c75 => ?_) (fun c75 => ?_)
      · refine lv_iload_n hx hb dX5_sumDay_73 rfl (lv_at hl 1 rfl) ?_
        exact z_iret C0 hr hlk rfl hK hP hD hS (0, fun _ => 0, fun i => [y71, y72].getD i 0, fun _ => 0, fun _ => (fun _ => 0), fun _ => (fun _ => 0), fun _ => (fun _ => none)) rfl [0, 1, 2, 3] rfl rfl rfl dX5_sumDay_74
      · refine lv_aload_n hx hb dX5_sumDay_22 rfl (lv_at hl 2 rfl) ?_
        refine va_get (D := D) (ci := 5) (v := .ref q_1) (C := RX5) (T := TX5) (N := 15) hx hb hts inX5 hown hK hP 0 rfl rfl 3 (by decide) (hts _ kF_X5_18) (fun _ h9 => h9) rfl dX5_sumDay_23 ?_
        refine lv_iload_n hx hb dX5_sumDay_26 rfl (lv_at hl 0 rfl) ?_
        refine va_iald hx hb hK hP 1 0 rfl rfl (by revert hN74 hy69 c75 h_x_1; first | omega | (simp only [vp_in_iff, Int32.lt_iff_toInt_lt, Int32.le_iff_toInt_le, Int64.lt_iff_toInt_lt, Int64.le_iff_toInt_le, Int32.toInt_toInt64, ← Int32.toInt_inj, ← Int64.toInt_inj, Int32.reduceToInt, Int64.reduceToInt] <;> omega)) dX5_sumDay_27 ?_
        refine lv_topi (fun y76 ey76 => ?_)
        have hy76 : 0 ≤ Int32.toInt y76 ∧ Int32.toInt y76 ≤ 799 := by rw [ey76]; exact h_f_4 _
        refine lv_iconst (v := 2) hx hb dX5_sumDay_28 (by decide) ?_
        refine lv_idiv hx hb dX5_sumDay_29 (by decide) ?_
        refine lv_topi (fun y77 ey77 => ?_)
        have hy77 : Int32.toInt y77 = Int32.toInt y76 / 2 := by rw [ey77]; exact zo_div 2 (show 0 ≤ Int32.toInt y76 by revert hy76; first | omega | (simp only [vp_in_iff, Int32.lt_iff_toInt_lt, Int32.le_iff_toInt_le, Int64.lt_iff_toInt_lt, Int64.le_iff_toInt_le, Int32.toInt_toInt64, ← Int32.toInt_inj, ← Int64.toInt_inj, Int32.reduceToInt, Int64.reduceToInt] <;> omega)) rfl (by decide)
        refine lv_iload_n hx hb dX5_sumDay_30 rfl (lv_at hl 3 rfl) ?_
        refine lv_icmp_ne (tgt := 67) hx hb dX5_sumDay_31 (by decide) (fun c78 => ?_) (fun c78 => ?_)
        · obtain ⟨y79, ey79⟩ : ∃ q : Int32, q = y69 + 1 := ⟨_, rfl⟩
          have hy79 : Int32.toInt y79 = Int32.toInt y69 + 1 := by rw [ey79]; exact zi_addc rfl (by decide) (by revert hN74 hy69 c75 h_x_1; first | omega | (simp only [vp_in_iff, Int32.lt_iff_toInt_lt, Int32.le_iff_toInt_le, Int64.lt_iff_toInt_lt, Int64.le_iff_toInt_le, Int32.toInt_toInt64, ← Int32.toInt_inj, ← Int64.toInt_inj, Int32.reduceToInt, Int64.reduceToInt] <;> omega))
          refine lv_iinc (v := y79) (lv' := [(3, .int y79), (2, .int y70), (0, .ref q_0), (1, .int x_0)]) hx hb dX5_sumDay_67 hl (k := 0) rfl (by rw [ey79]; exact zz_inc (by decide)) (by decide) rfl (fun ls hl => ?_)
          refine lv_goto (tgt := 14) hx hb dX5_sumDay_70 (by decide) ?_
          exact ihN74 y79 y70 y71 y72 _ _ ls (by revert hN74 hy69 c75 hy79 h_x_1; first | omega | (simp only [vp_in_iff, Int32.lt_iff_toInt_lt, Int32.le_iff_toInt_le, Int64.lt_iff_toInt_lt, Int64.le_iff_toInt_le, Int32.toInt_toInt64, ← Int32.toInt_inj, ← Int64.toInt_inj, Int32.reduceToInt, Int64.reduceToInt] <;> omega)) (by revert hN74 hy69 c75 hy79 h_x_1; first | omega | (simp only [vp_in_iff, Int32.lt_iff_toInt_lt, Int32.le_iff_toInt_le, Int64.lt_iff_toInt_lt, Int64.le_iff_toInt_le, Int32.toInt_toInt64, ← Int32.toInt_inj, ← Int64.toInt_inj, Int32.reduceToInt, Int64.reduceToInt] <;> omega)) hP hD hS (lv_sub hl [0, 1, 2, 3] rfl)
        · obtain ⟨y80, ey80⟩ : ∃ q : Int32, q = y70 + 1 := ⟨_, rfl⟩
          refine lv_iinc (v := y80) (lv' := [(2, .int y80), (3, .int y69), (0, .ref q_0), (1, .int x_0)]) hx hb dX5_sumDay_34 hl (k := 1) rfl (by rw [ey80]; exact zz_inc (by decide)) (by decide) rfl (fun ls hl => ?_)
          refine lv_aload_n hx hb dX5_sumDay_37 rfl (lv_at hl 2 rfl) ?_
          refine lv_dup hx hb dX5_sumDay_38 rfl ?_
          refine va_get (D := D) (ci := 5) (v := .int y71) (C := RX5) (T := TX5) (N := 15) hx hb hts inX5 hown hK hP 0 rfl rfl 13 (by decide) (hts _ kF_X5_69) (fun _ h9 => h9) rfl dX5_sumDay_39 ?_
          refine lv_aload_n hx hb dX5_sumDay_42 rfl (lv_at hl 2 rfl) ?_
          refine lv_iload_n hx hb dX5_sumDay_43 rfl (lv_at hl 1 rfl) ?_
          refine z_bi (wr := [(q_1, .inl (k 0, 400, .inl f_4))]) (z_runV (C := RX5) (As := [.int y69]) (rest := [.int y71, .ref q_0]) C0 (s_X5_numberOf_10 l D k q_0 q_2 q_3 q_4 q_5 q_1 q_6 q_7 q_8 q_9 q_10 q_11 q_12 y69 x_1 y71 y72 f_5 f_6 (by revert hN74 hy69 c75 h_x_1; first | omega | (simp only [vp_in_iff, Int32.lt_iff_toInt_lt, Int32.le_iff_toInt_le, Int64.lt_iff_toInt_lt, Int64.le_iff_toInt_le, Int32.toInt_toInt64, ← Int32.toInt_inj, ← Int64.toInt_inj, Int32.reduceToInt, Int64.reduceToInt] <;> omega)) (by revert h_x_1 c75 hN74 hy69; first | omega | (simp only [vp_in_iff, Int32.lt_iff_toInt_lt, Int32.le_iff_toInt_le, Int64.lt_iff_toInt_lt, Int64.le_iff_toInt_le, Int32.toInt_toInt64, ← Int32.toInt_inj, ← Int64.toInt_inj, Int32.reduceToInt, Int64.reduceToInt] <;> omega)) _) okV_X5_numberOf kM_X5_62 rfl (z_pV (q0 := 0) hK hN hP hD [0, 2, 3] rfl rfl rfl rfl rfl) rfl hl.1 rfl (Nat.le_of_ble_eq_true rfl) dX5_sumDay_44 rfl) hP hD hS hA [0, 2, 3] [1] rfl rfl rfl rfl (fun r81 u81 H locs hw81 hP hD hS => ?_)
          obtain ⟨i81, a81, v81, w81, f81, g81, o81⟩ := u81
          dsimp only at hw81
          obtain rfl := hw81
          have hP : va_P D vwCl [(q_1, .inl (k 0, 400, .inl f_4)), (q_0, .inr (5, [.int x_1, .ref q_4, .ref q_5, .ref q_1, .ref q_3, .ref q_2, .ref q_6, .ref q_7, .ref q_8, .ref q_9, .ref q_10, .ref q_11, .ref q_12, .int y71, .int y72])), (q_2, .inl (k 0, 400, .inl f_5)), (q_3, .inl (k 0, 400, .inl f_6))] H := hP
          have hD : va_D A [(q_1, .inl (k 0, 400, .inl f_4)), (q_0, .inr (5, [.int x_1, .ref q_4, .ref q_5, .ref q_1, .ref q_3, .ref q_2, .ref q_6, .ref q_7, .ref q_8, .ref q_9, .ref q_10, .ref q_11, .ref q_12, .int y71, .int y72])), (q_2, .inl (k 0, 400, .inl f_5)), (q_3, .inl (k 0, 400, .inl f_6))] := hD
          refine lv_iadd hx hb dX5_sumDay_47 ?_
          refine lv_topi (fun y82 ey82 => ?_)
          refine va_put (D := D) (ci := 5) (v := .int y82) (ty := .int) (C := RX5) (T := TX5) (N := 15) hx hb hts inX5 tyX5 tyX5_ok nmX5 hown hK hP hD hS 1 rfl rfl 13 (by decide) (hts _ kF_X5_69) (fun _ h9 => h9) rfl (by decide +kernel) rfl rfl (Nat.le_of_ble_eq_true rfl) dX5_sumDay_48 (fun H locs hP hD hS => ?_)
          have hP : va_P D vwCl [(q_1, .inl (k 0, 400, .inl f_4)), (q_0, .inr (5, [.int x_1, .ref q_4, .ref q_5, .ref q_1, .ref q_3, .ref q_2, .ref q_6, .ref q_7, .ref q_8, .ref q_9, .ref q_10, .ref q_11, .ref q_12, .int y82, .int y72])), (q_2, .inl (k 0, 400, .inl f_5)), (q_3, .inl (k 0, 400, .inl f_6))] H := hP
          have hD : va_D A [(q_1, .inl (k 0, 400, .inl f_4)), (q_0, .inr (5, [.int x_1, .ref q_4, .ref q_5, .ref q_1, .ref q_3, .ref q_2, .ref q_6, .ref q_7, .ref q_8, .ref q_9, .ref q_10, .ref q_11, .ref q_12, .int y82, .int y72])), (q_2, .inl (k 0, 400, .inl f_5)), (q_3, .inl (k 0, 400, .inl f_6))] := hD
          refine lv_aload_n hx hb dX5_sumDay_51 rfl (lv_at hl 2 rfl) ?_
          refine lv_dup hx hb dX5_sumDay_52 rfl ?_
          refine va_get (D := D) (ci := 5) (v := .int y72) (C := RX5) (T := TX5) (N := 15) hx hb hts inX5 hown hK hP 1 rfl rfl 14 (by decide) (hts _ kF_X5_72) (fun _ h9 => h9) rfl dX5_sumDay_53 ?_
          refine lv_aload_n hx hb dX5_sumDay_56 rfl (lv_at hl 2 rfl) ?_
          refine lv_iload_n hx hb dX5_sumDay_57 rfl (lv_at hl 1 rfl) ?_
          refine z_bi (wr := [(q_1, .inl (k 0, 400, .inl f_4))]) (z_runV (C := RX5) (As := [.int y69]) (rest := [.int y72, .ref q_0]) C0 (s_X5_numberOf_10 l D k q_0 q_2 q_3 q_4 q_5 q_1 q_6 q_7 q_8 q_9 q_10 q_11 q_12 y69 x_1 y82 y72 f_5 f_6 (by revert hN74 hy69 c75 h_x_1; first | omega | (simp only [vp_in_iff, Int32.lt_iff_toInt_lt, Int32.le_iff_toInt_le, Int64.lt_iff_toInt_lt, Int64.le_iff_toInt_le, Int32.toInt_toInt64, ← Int32.toInt_inj, ← Int64.toInt_inj, Int32.reduceToInt, Int64.reduceToInt] <;> omega)) (by revert h_x_1 c75 hN74 hy69; first | omega | (simp only [vp_in_iff, Int32.lt_iff_toInt_lt, Int32.le_iff_toInt_le, Int64.lt_iff_toInt_lt, Int64.le_iff_toInt_le, Int32.toInt_toInt64, ← Int32.toInt_inj, ← Int64.toInt_inj, Int32.reduceToInt, Int64.reduceToInt] <;> omega)) _) okV_X5_numberOf kM_X5_62 rfl (z_pV (q0 := 1) hK hN hP hD [1, 2, 3] rfl rfl rfl rfl rfl) rfl hl.1 rfl (Nat.le_of_ble_eq_true rfl) dX5_sumDay_58 rfl) hP hD hS hA [1, 2, 3] [0] rfl rfl rfl rfl (fun r83 u83 H locs hw83 hP hD hS => ?_)
          obtain ⟨i83, a83, v83, w83, f83, g83, o83⟩ := u83
          dsimp only at hw83
          obtain rfl := hw83
          have hP : va_P D vwCl [(q_1, .inl (k 0, 400, .inl f_4)), (q_0, .inr (5, [.int x_1, .ref q_4, .ref q_5, .ref q_1, .ref q_3, .ref q_2, .ref q_6, .ref q_7, .ref q_8, .ref q_9, .ref q_10, .ref q_11, .ref q_12, .int y82, .int y72])), (q_2, .inl (k 0, 400, .inl f_5)), (q_3, .inl (k 0, 400, .inl f_6))] H := hP
          have hD : va_D A [(q_1, .inl (k 0, 400, .inl f_4)), (q_0, .inr (5, [.int x_1, .ref q_4, .ref q_5, .ref q_1, .ref q_3, .ref q_2, .ref q_6, .ref q_7, .ref q_8, .ref q_9, .ref q_10, .ref q_11, .ref q_12, .int y82, .int y72])), (q_2, .inl (k 0, 400, .inl f_5)), (q_3, .inl (k 0, 400, .inl f_6))] := hD
          refine lv_iload_n hx hb dX5_sumDay_61 rfl (lv_at hl 0 rfl) ?_
          refine lv_imul hx hb dX5_sumDay_62 ?_
          refine lv_topi (fun y84 ey84 => ?_)
          refine lv_iadd hx hb dX5_sumDay_63 ?_
          refine lv_topi (fun y85 ey85 => ?_)
          refine va_put (D := D) (ci := 5) (v := .int y85) (ty := .int) (C := RX5) (T := TX5) (N := 15) hx hb hts inX5 tyX5 tyX5_ok nmX5 hown hK hP hD hS 1 rfl rfl 14 (by decide) (hts _ kF_X5_72) (fun _ h9 => h9) rfl (by decide +kernel) rfl rfl (Nat.le_of_ble_eq_true rfl) dX5_sumDay_64 (fun H locs hP hD hS => ?_)
          have hP : va_P D vwCl [(q_1, .inl (k 0, 400, .inl f_4)), (q_0, .inr (5, [.int x_1, .ref q_4, .ref q_5, .ref q_1, .ref q_3, .ref q_2, .ref q_6, .ref q_7, .ref q_8, .ref q_9, .ref q_10, .ref q_11, .ref q_12, .int y82, .int y85])), (q_2, .inl (k 0, 400, .inl f_5)), (q_3, .inl (k 0, 400, .inl f_6))] H := hP
          have hD : va_D A [(q_1, .inl (k 0, 400, .inl f_4)), (q_0, .inr (5, [.int x_1, .ref q_4, .ref q_5, .ref q_1, .ref q_3, .ref q_2, .ref q_6, .ref q_7, .ref q_8, .ref q_9, .ref q_10, .ref q_11, .ref q_12, .int y82, .int y85])), (q_2, .inl (k 0, 400, .inl f_5)), (q_3, .inl (k 0, 400, .inl f_6))] := hD
          obtain ⟨y86, ey86⟩ : ∃ q : Int32, q = y69 + 1 := ⟨_, rfl⟩
          have hy86 : Int32.toInt y86 = Int32.toInt y69 + 1 := by rw [ey86]; exact zi_addc rfl (by decide) (by revert hN74 hy69 c75 h_x_1; first | omega | (simp only [vp_in_iff, Int32.lt_iff_toInt_lt, Int32.le_iff_toInt_le, Int64.lt_iff_toInt_lt, Int64.le_iff_toInt_le, Int32.toInt_toInt64, ← Int32.toInt_inj, ← Int64.toInt_inj, Int32.reduceToInt, Int64.reduceToInt] <;> omega))
          refine lv_iinc (v := y86) (lv' := [(3, .int y86), (2, .int y80), (0, .ref q_0), (1, .int x_0)]) hx hb dX5_sumDay_67 hl (k := 1) rfl (by rw [ey86]; exact zz_inc (by decide)) (by decide) rfl (fun ls hl => ?_)
          refine lv_goto (tgt := 14) hx hb dX5_sumDay_70 (by decide) ?_
          exact ihN74 y86 y80 y82 y85 _ _ ls (by revert hN74 hy69 c75 hy86 h_x_1; first | omega | (simp only [vp_in_iff, Int32.lt_iff_toInt_lt, Int32.le_iff_toInt_le, Int64.lt_iff_toInt_lt, Int64.le_iff_toInt_le, Int32.toInt_toInt64, ← Int32.toInt_inj, ← Int64.toInt_inj, Int32.reduceToInt, Int64.reduceToInt] <;> omega)) (by revert hN74 hy69 c75 hy86 h_x_1; first | omega | (simp only [vp_in_iff, Int32.lt_iff_toInt_lt, Int32.le_iff_toInt_le, Int64.lt_iff_toInt_lt, Int64.le_iff_toInt_le, Int32.toInt_toInt64, ← Int32.toInt_inj, ← Int64.toInt_inj, Int32.reduceToInt, Int64.reduceToInt] <;> omega)) (z_sub hP [1, 0, 2, 3] rfl) (hD.sub [1, 0, 2, 3] rfl rfl) hS (lv_sub hl [0, 1, 2, 3] rfl)
  exact loop73 _ 0 0 0 0 _ _ _ (Nat.lt_succ_self _) (by first | omega | (simp only [vp_in_iff, Int32.lt_iff_toInt_lt, Int32.le_iff_toInt_le, Int64.lt_iff_toInt_lt, Int64.le_iff_toInt_le, Int32.toInt_toInt64, ← Int32.toInt_inj, ← Int64.toInt_inj, Int32.reduceToInt, Int64.reduceToInt] <;> omega)) hP hD hS (lv_sub hl [0, 1, 2, 3] rfl)

set_option maxHeartbeats 4000000 in
set_option maxRecDepth 100000 in
theorem s_X5_sealDay_1 (l : Launch) (D : va_G) (k : Nat → ClassId) (q_0 : Nat) (q_1 : Nat) (q_2 : Nat) (q_3 : Nat) (q_4 : Nat) (q_5 : Nat) (q_6 : Nat) (q_7 : Nat) (q_8 : Nat) (q_9 : Nat) (q_10 : Nat) (q_11 : Nat) (q_12 : Nat) (x_0 : Int32) (x_1 : Int32) (x_2 : Int32) (x_3 : Int32) (f_4 : Nat → Int32) (f_5 : Nat → Int32) (f_6 : Nat → Int32) (f_7 : Nat → Int32) (f_8 : Nat → Int32) (f_9 : Nat → Int32) (h_x_0 : 0 ≤ Int32.toInt x_0 ∧ Int32.toInt x_0 ≤ 399) (h_x_1 : 0 ≤ Int32.toInt x_1 ∧ Int32.toInt x_1 ≤ 400) (h_f_4 : zR f_4 0 799) : zMi l yX5_sealDay cX5_sealDay 2 (some .int) ({ frames := 2, cells := 0, slots := 0, locals := 44 }) D k [.ref q_0, .int x_0] [(q_0, .inr (5, [.int x_1, .ref q_7, .ref q_8, .ref q_1, .ref q_3, .ref q_2, .ref q_9, .ref q_10, .ref q_11, .ref q_12, .ref q_4, .ref q_5, .ref q_6, .int x_2, .int x_3])), (q_1, .inl (k 0, 400, .inl f_4)), (q_2, .inl (k 0, 400, .inl f_5)), (q_3, .inl (k 0, 400, .inl f_6)), (q_4, .inl (k 0, 400, .inl f_7)), (q_5, .inl (k 0, 400, .inl f_8)), (q_6, .inl (k 0, 400, .inl f_9))] (fun r u => u.1 = 0) (fun u => [(q_0, .inr (5, [.int x_1, .ref q_7, .ref q_8, .ref q_1, .ref q_3, .ref q_2, .ref q_9, .ref q_10, .ref q_11, .ref q_12, .ref q_4, .ref q_5, .ref q_6, .int (u.2.2.1 0), .int (u.2.2.1 1)])), (q_1, .inl (k 0, 400, .inl f_4)), (q_2, .inl (k 0, 400, .inl f_5)), (q_3, .inl (k 0, 400, .inl f_6)), (q_4, .inl (k 0, 400, .inl (u.2.2.2.2.1 0))), (q_5, .inl (k 0, 400, .inl (u.2.2.2.2.1 1))), (q_6, .inl (k 0, 400, .inl (u.2.2.2.2.1 2)))]) := by
  refine zMi_of (own := RX5) (by decide +kernel) rfl (Nat.le_of_ble_eq_true rfl) ?_
  intro p e s m args below meth c A ls C0 hr hlk hin hP hD hS hA hK hN hl
  have hx := C0.1
  have hb := C0.2.1
  have hml := C0.2.2.1
  have hown := C0.2.2.2.1
  have hts := C0.2.2.2.2
  have hl : lv_has ls 2 [(0, .ref q_0), (1, .int x_0)] := hl
  have hP : va_P D vwCl [(q_0, .inr (5, [.int x_1, .ref q_7, .ref q_8, .ref q_1, .ref q_3, .ref q_2, .ref q_9, .ref q_10, .ref q_11, .ref q_12, .ref q_4, .ref q_5, .ref q_6, .int x_2, .int x_3])), (q_1, .inl (k 0, 400, .inl f_4)), (q_2, .inl (k 0, 400, .inl f_5)), (q_3, .inl (k 0, 400, .inl f_6)), (q_4, .inl (k 0, 400, .inl f_7)), (q_5, .inl (k 0, 400, .inl f_8)), (q_6, .inl (k 0, 400, .inl f_9))] s.heap := hP
  refine lv_aload_n hx hb dX5_sealDay_0 rfl (lv_at hl 0 rfl) ?_
  refine va_get (D := D) (ci := 5) (v := .ref q_4) (C := RX5) (T := TX5) (N := 15) hx hb hts inX5 hown hK hP 0 rfl rfl 10 (by decide) (hts _ kF_X5_39) (fun _ h9 => h9) rfl dX5_sealDay_1 ?_
  refine lv_iload_n hx hb dX5_sealDay_4 rfl (lv_at hl 1 rfl) ?_
  refine lv_aload_n hx hb dX5_sealDay_5 rfl (lv_at hl 0 rfl) ?_
  refine lv_iload_n hx hb dX5_sealDay_6 rfl (lv_at hl 1 rfl) ?_
  refine z_bi (wr := [(q_4, .inl (k 0, 400, .inl f_7)), (q_5, .inl (k 0, 400, .inl f_8)), (q_6, .inl (k 0, 400, .inl f_9))]) (z_runV (C := RX5) (As := [.int x_0]) (rest := [.int x_0, .ref q_4]) C0 (s_X5_sumDay_1 l D k q_0 q_1 q_2 q_3 q_7 q_8 q_9 q_10 q_11 q_12 q_4 q_5 q_6 x_0 x_1 x_2 x_3 f_4 f_5 f_6 (by revert h_x_1; first | omega | (simp only [vp_in_iff, Int32.lt_iff_toInt_lt, Int32.le_iff_toInt_le, Int64.lt_iff_toInt_lt, Int64.le_iff_toInt_le, Int32.toInt_toInt64, ← Int32.toInt_inj, ← Int64.toInt_inj, Int32.reduceToInt, Int64.reduceToInt] <;> omega)) h_f_4 _) okV_X5_sumDay kM_X5_66 rfl (z_pV (q0 := 0) hK hN hP hD [0, 1, 2, 3] rfl rfl rfl rfl rfl) rfl hl.1 rfl (Nat.le_of_ble_eq_true rfl) dX5_sealDay_7 rfl) hP hD hS hA [0, 1, 2, 3] [4, 5, 6] rfl rfl rfl rfl (fun r1 u1 H locs hw1 hP hD hS => ?_)
  obtain ⟨i1, a1, v1, w1, f1, g1, o1⟩ := u1
  dsimp only at hw1
  obtain rfl := hw1
  have hP : va_P D vwCl [(q_4, .inl (k 0, 400, .inl f_7)), (q_5, .inl (k 0, 400, .inl f_8)), (q_6, .inl (k 0, 400, .inl f_9)), (q_0, .inr (5, [.int x_1, .ref q_7, .ref q_8, .ref q_1, .ref q_3, .ref q_2, .ref q_9, .ref q_10, .ref q_11, .ref q_12, .ref q_4, .ref q_5, .ref q_6, .int (v1 0), .int (v1 1)])), (q_1, .inl (k 0, 400, .inl f_4)), (q_2, .inl (k 0, 400, .inl f_5)), (q_3, .inl (k 0, 400, .inl f_6))] H := hP
  have hD : va_D A [(q_4, .inl (k 0, 400, .inl f_7)), (q_5, .inl (k 0, 400, .inl f_8)), (q_6, .inl (k 0, 400, .inl f_9)), (q_0, .inr (5, [.int x_1, .ref q_7, .ref q_8, .ref q_1, .ref q_3, .ref q_2, .ref q_9, .ref q_10, .ref q_11, .ref q_12, .ref q_4, .ref q_5, .ref q_6, .int (v1 0), .int (v1 1)])), (q_1, .inl (k 0, 400, .inl f_4)), (q_2, .inl (k 0, 400, .inl f_5)), (q_3, .inl (k 0, 400, .inl f_6))] := hD
  refine va_iast hx hb hK hP hD hS 0 0 rfl rfl (by revert h_x_0; first | omega | (simp only [vp_in_iff, Int32.lt_iff_toInt_lt, Int32.le_iff_toInt_le, Int64.lt_iff_toInt_lt, Int64.le_iff_toInt_le, Int32.toInt_toInt64, ← Int32.toInt_inj, ← Int64.toInt_inj, Int32.reduceToInt, Int64.reduceToInt] <;> omega)) dX5_sealDay_10 (fun H locs hP hD hS => ?_)
  obtain ⟨F2, eF2⟩ : ∃ q, q = upd f_7 (Int32.toNatClampNeg x_0) r1 := ⟨_, rfl⟩
  have hP : va_P D vwCl [(q_4, .inl (k 0, 400, .inl F2)), (q_5, .inl (k 0, 400, .inl f_8)), (q_6, .inl (k 0, 400, .inl f_9)), (q_0, .inr (5, [.int x_1, .ref q_7, .ref q_8, .ref q_1, .ref q_3, .ref q_2, .ref q_9, .ref q_10, .ref q_11, .ref q_12, .ref q_4, .ref q_5, .ref q_6, .int (v1 0), .int (v1 1)])), (q_1, .inl (k 0, 400, .inl f_4)), (q_2, .inl (k 0, 400, .inl f_5)), (q_3, .inl (k 0, 400, .inl f_6))] H := by rw [eF2]; exact hP
  have hD : va_D A [(q_4, .inl (k 0, 400, .inl F2)), (q_5, .inl (k 0, 400, .inl f_8)), (q_6, .inl (k 0, 400, .inl f_9)), (q_0, .inr (5, [.int x_1, .ref q_7, .ref q_8, .ref q_1, .ref q_3, .ref q_2, .ref q_9, .ref q_10, .ref q_11, .ref q_12, .ref q_4, .ref q_5, .ref q_6, .int (v1 0), .int (v1 1)])), (q_1, .inl (k 0, 400, .inl f_4)), (q_2, .inl (k 0, 400, .inl f_5)), (q_3, .inl (k 0, 400, .inl f_6))] := by rw [eF2]; exact hD
  refine lv_aload_n hx hb dX5_sealDay_11 rfl (lv_at hl 0 rfl) ?_
  refine va_get (D := D) (ci := 5) (v := .ref q_5) (C := RX5) (T := TX5) (N := 15) hx hb hts inX5 hown hK hP 3 rfl rfl 11 (by decide) (hts _ kF_X5_42) (fun _ h9 => h9) rfl dX5_sealDay_12 ?_
  refine lv_iload_n hx hb dX5_sealDay_15 rfl (lv_at hl 1 rfl) ?_
  refine lv_aload_n hx hb dX5_sealDay_16 rfl (lv_at hl 0 rfl) ?_
  refine va_get (D := D) (ci := 5) (v := .int (v1 0)) (C := RX5) (T := TX5) (N := 15) hx hb hts inX5 hown hK hP 3 rfl rfl 13 (by decide) (hts _ kF_X5_69) (fun _ h9 => h9) rfl dX5_sealDay_17 ?_
  refine va_iast hx hb hK hP hD hS 1 0 rfl rfl (by revert h_x_0; first | omega | (simp only [vp_in_iff, Int32.lt_iff_toInt_lt, Int32.le_iff_toInt_le, Int64.lt_iff_toInt_lt, Int64.le_iff_toInt_le, Int32.toInt_toInt64, ← Int32.toInt_inj, ← Int64.toInt_inj, Int32.reduceToInt, Int64.reduceToInt] <;> omega)) dX5_sealDay_20 (fun H locs hP hD hS => ?_)
  obtain ⟨F3, eF3⟩ : ∃ q, q = upd f_8 (Int32.toNatClampNeg x_0) (v1 0) := ⟨_, rfl⟩
  have hP : va_P D vwCl [(q_4, .inl (k 0, 400, .inl F2)), (q_5, .inl (k 0, 400, .inl F3)), (q_6, .inl (k 0, 400, .inl f_9)), (q_0, .inr (5, [.int x_1, .ref q_7, .ref q_8, .ref q_1, .ref q_3, .ref q_2, .ref q_9, .ref q_10, .ref q_11, .ref q_12, .ref q_4, .ref q_5, .ref q_6, .int (v1 0), .int (v1 1)])), (q_1, .inl (k 0, 400, .inl f_4)), (q_2, .inl (k 0, 400, .inl f_5)), (q_3, .inl (k 0, 400, .inl f_6))] H := by rw [eF3]; exact hP
  have hD : va_D A [(q_4, .inl (k 0, 400, .inl F2)), (q_5, .inl (k 0, 400, .inl F3)), (q_6, .inl (k 0, 400, .inl f_9)), (q_0, .inr (5, [.int x_1, .ref q_7, .ref q_8, .ref q_1, .ref q_3, .ref q_2, .ref q_9, .ref q_10, .ref q_11, .ref q_12, .ref q_4, .ref q_5, .ref q_6, .int (v1 0), .int (v1 1)])), (q_1, .inl (k 0, 400, .inl f_4)), (q_2, .inl (k 0, 400, .inl f_5)), (q_3, .inl (k 0, 400, .inl f_6))] := by rw [eF3]; exact hD
  refine lv_aload_n hx hb dX5_sealDay_21 rfl (lv_at hl 0 rfl) ?_
  refine va_get (D := D) (ci := 5) (v := .ref q_6) (C := RX5) (T := TX5) (N := 15) hx hb hts inX5 hown hK hP 3 rfl rfl 12 (by decide) (hts _ kF_X5_45) (fun _ h9 => h9) rfl dX5_sealDay_22 ?_
  refine lv_iload_n hx hb dX5_sealDay_25 rfl (lv_at hl 1 rfl) ?_
  refine lv_aload_n hx hb dX5_sealDay_26 rfl (lv_at hl 0 rfl) ?_
  refine va_get (D := D) (ci := 5) (v := .int (v1 1)) (C := RX5) (T := TX5) (N := 15) hx hb hts inX5 hown hK hP 3 rfl rfl 14 (by decide) (hts _ kF_X5_72) (fun _ h9 => h9) rfl dX5_sealDay_27 ?_
  refine va_iast hx hb hK hP hD hS 2 0 rfl rfl (by revert h_x_0; first | omega | (simp only [vp_in_iff, Int32.lt_iff_toInt_lt, Int32.le_iff_toInt_le, Int64.lt_iff_toInt_lt, Int64.le_iff_toInt_le, Int32.toInt_toInt64, ← Int32.toInt_inj, ← Int64.toInt_inj, Int32.reduceToInt, Int64.reduceToInt] <;> omega)) dX5_sealDay_30 (fun H locs hP hD hS => ?_)
  obtain ⟨F4, eF4⟩ : ∃ q, q = upd f_9 (Int32.toNatClampNeg x_0) (v1 1) := ⟨_, rfl⟩
  have hP : va_P D vwCl [(q_4, .inl (k 0, 400, .inl F2)), (q_5, .inl (k 0, 400, .inl F3)), (q_6, .inl (k 0, 400, .inl F4)), (q_0, .inr (5, [.int x_1, .ref q_7, .ref q_8, .ref q_1, .ref q_3, .ref q_2, .ref q_9, .ref q_10, .ref q_11, .ref q_12, .ref q_4, .ref q_5, .ref q_6, .int (v1 0), .int (v1 1)])), (q_1, .inl (k 0, 400, .inl f_4)), (q_2, .inl (k 0, 400, .inl f_5)), (q_3, .inl (k 0, 400, .inl f_6))] H := by rw [eF4]; exact hP
  have hD : va_D A [(q_4, .inl (k 0, 400, .inl F2)), (q_5, .inl (k 0, 400, .inl F3)), (q_6, .inl (k 0, 400, .inl F4)), (q_0, .inr (5, [.int x_1, .ref q_7, .ref q_8, .ref q_1, .ref q_3, .ref q_2, .ref q_9, .ref q_10, .ref q_11, .ref q_12, .ref q_4, .ref q_5, .ref q_6, .int (v1 0), .int (v1 1)])), (q_1, .inl (k 0, 400, .inl f_4)), (q_2, .inl (k 0, 400, .inl f_5)), (q_3, .inl (k 0, 400, .inl f_6))] := by rw [eF4]; exact hD
  refine lv_aload_n hx hb dX5_sealDay_31 rfl (lv_at hl 0 rfl) ?_
  refine va_get (D := D) (ci := 5) (v := .ref q_4) (C := RX5) (T := TX5) (N := 15) hx hb hts inX5 hown hK hP 3 rfl rfl 10 (by decide) (hts _ kF_X5_39) (fun _ h9 => h9) rfl dX5_sealDay_32 ?_
  refine lv_iload_n hx hb dX5_sealDay_35 rfl (lv_at hl 1 rfl) ?_
  refine va_iald hx hb hK hP 0 0 rfl rfl (by revert h_x_0; first | omega | (simp only [vp_in_iff, Int32.lt_iff_toInt_lt, Int32.le_iff_toInt_le, Int64.lt_iff_toInt_lt, Int64.le_iff_toInt_le, Int32.toInt_toInt64, ← Int32.toInt_inj, ← Int64.toInt_inj, Int32.reduceToInt, Int64.reduceToInt] <;> omega)) dX5_sealDay_36 ?_
  refine lv_topi (fun y5 ey5 => ?_)
  exact z_iret C0 hr hlk rfl hK hP hD hS (0, fun _ => 0, fun i => [(v1 0), (v1 1)].getD i 0, fun _ => 0, fun i => [F2, F3, F4].getD i (fun _ => 0), fun _ => (fun _ => 0), fun _ => (fun _ => none)) rfl [3, 4, 5, 6, 0, 1, 2] rfl rfl rfl dX5_sealDay_37

set_option maxHeartbeats 4000000 in
set_option maxRecDepth 100000 in
theorem s_X11_seal_1 (l : Launch) (D : va_G) (k : Nat → ClassId) (q_0 : Nat) (q_1 : Nat) (q_2 : Nat) (q_3 : Nat) (q_4 : Nat) (q_5 : Nat) (q_6 : Nat) (q_7 : Nat) (q_8 : Nat) (q_9 : Nat) (q_10 : Nat) (q_11 : Nat) (q_12 : Nat) (q_13 : Nat) (q_14 : Nat) (q_15 : Nat) (q_16 : Nat) (q_17 : Nat) (q_18 : Nat) (q_19 : Nat) (q_20 : Nat) (q_21 : Nat) (q_22 : Nat) (q_23 : Nat) (x_0 : Int32) (x_1 : Int32) (x_2 : Int32) (x_3 : Int32) (x_4 : Int32) (f_5 : Nat → Int32) (f_6 : Nat → Int32) (f_7 : Nat → Int32) (f_8 : Nat → Int32) (f_9 : Nat → Int32) (f_10 : Nat → Int32) (h_x_2 : 0 ≤ Int32.toInt x_2 ∧ Int32.toInt x_2 ≤ 400) (h_f_5 : zR f_5 0 799) : zMi l yX11_seal cX11_seal 2 (some .int) ({ frames := 3, cells := 0, slots := 0, locals := 65 }) D k [.ref q_0, .int x_0] [(q_0, .inr (11, [.ref q_1, .ref q_9, .ref q_10, .ref q_11, .ref q_12, .int x_1])), (q_1, .inr (3, [.ref q_13, .ref q_14, .ref q_2, .ref q_15, .ref q_16, .ref q_17])), (q_2, .inr (5, [.int x_2, .ref q_18, .ref q_19, .ref q_3, .ref q_5, .ref q_4, .ref q_20, .ref q_21, .ref q_22, .ref q_23, .ref q_6, .ref q_7, .ref q_8, .int x_3, .int x_4])), (q_3, .inl (k 0, 400, .inl f_5)), (q_4, .inl (k 0, 400, .inl f_6)), (q_5, .inl (k 0, 400, .inl f_7)), (q_6, .inl (k 0, 400, .inl f_8)), (q_7, .inl (k 0, 400, .inl f_9)), (q_8, .inl (k 0, 400, .inl f_10))] (fun r u => u.1 = 0) (fun u => [(q_0, .inr (11, [.ref q_1, .ref q_9, .ref q_10, .ref q_11, .ref q_12, .int (u.2.2.1 0)])), (q_1, .inr (3, [.ref q_13, .ref q_14, .ref q_2, .ref q_15, .ref q_16, .ref q_17])), (q_2, .inr (5, [.int x_2, .ref q_18, .ref q_19, .ref q_3, .ref q_5, .ref q_4, .ref q_20, .ref q_21, .ref q_22, .ref q_23, .ref q_6, .ref q_7, .ref q_8, .int (u.2.2.1 1), .int (u.2.2.1 2)])), (q_3, .inl (k 0, 400, .inl f_5)), (q_4, .inl (k 0, 400, .inl f_6)), (q_5, .inl (k 0, 400, .inl f_7)), (q_6, .inl (k 0, 400, .inl (u.2.2.2.2.1 0))), (q_7, .inl (k 0, 400, .inl (u.2.2.2.2.1 1))), (q_8, .inl (k 0, 400, .inl (u.2.2.2.2.1 2)))]) := by
  refine zMi_of (own := RX11) (by decide +kernel) rfl (Nat.le_of_ble_eq_true rfl) ?_
  intro p e s m args below meth c A ls C0 hr hlk hin hP hD hS hA hK hN hl
  have hx := C0.1
  have hb := C0.2.1
  have hml := C0.2.2.1
  have hown := C0.2.2.2.1
  have hts := C0.2.2.2.2
  have hl : lv_has ls 2 [(0, .ref q_0), (1, .int x_0)] := hl
  have hP : va_P D vwCl [(q_0, .inr (11, [.ref q_1, .ref q_9, .ref q_10, .ref q_11, .ref q_12, .int x_1])), (q_1, .inr (3, [.ref q_13, .ref q_14, .ref q_2, .ref q_15, .ref q_16, .ref q_17])), (q_2, .inr (5, [.int x_2, .ref q_18, .ref q_19, .ref q_3, .ref q_5, .ref q_4, .ref q_20, .ref q_21, .ref q_22, .ref q_23, .ref q_6, .ref q_7, .ref q_8, .int x_3, .int x_4])), (q_3, .inl (k 0, 400, .inl f_5)), (q_4, .inl (k 0, 400, .inl f_6)), (q_5, .inl (k 0, 400, .inl f_7)), (q_6, .inl (k 0, 400, .inl f_8)), (q_7, .inl (k 0, 400, .inl f_9)), (q_8, .inl (k 0, 400, .inl f_10))] s.heap := hP
  refine lv_iload_n hx hb dX11_seal_0 rfl (lv_at hl 1 rfl) ?_
  refine z_bi0 (z_runS (As := [.int x_0]) (rest := []) C0 (s_X11_isNoDay_1 l D k x_0 _) okS_X11_isNoDay kM_X11_72 rfl (z_p0 hK hN) rfl hl.1 rfl (Nat.le_of_ble_eq_true rfl) dX11_seal_1 rfl) hP hS hA (fun r1 u1 H locs hw1 hP hS => ?_)
  obtain ⟨i1, a1, v1, w1, f1, g1, o1⟩ := u1
  dsimp only at hw1
  rcases hw1 with ⟨rfl, rfl, c1⟩ | ⟨rfl, rfl, c1⟩
  · refine lv_if_eq (tgt := 13) hx hb dX11_seal_4 (by decide) (fun c2 => absurd c2 (by decide)) (fun _ => ?_)
    refine lv_aload_n hx hb dX11_seal_7 rfl (lv_at hl 0 rfl) ?_
    refine lv_iconst (v := (-1)) hx hb dX11_seal_8 (by decide) ?_
    refine z_bi (wr := [(q_1, .inr (3, [.ref q_13, .ref q_14, .ref q_2, .ref q_15, .ref q_16, .ref q_17])), (q_2, .inr (5, [.int x_2, .ref q_18, .ref q_19, .ref q_3, .ref q_5, .ref q_4, .ref q_20, .ref q_21, .ref q_22, .ref q_23, .ref q_6, .ref q_7, .ref q_8, .int x_3, .int x_4])), (q_3, .inl (k 0, 400, .inl f_5)), (q_4, .inl (k 0, 400, .inl f_6)), (q_5, .inl (k 0, 400, .inl f_7)), (q_6, .inl (k 0, 400, .inl f_8)), (q_7, .inl (k 0, 400, .inl f_9)), (q_8, .inl (k 0, 400, .inl f_10))]) (z_runV (C := RX11) (As := [.int (-1)]) (rest := []) C0 (s_X11_answer_1 l D k q_0 q_1 q_9 q_10 q_11 q_12 (-1) x_1 _) okV_X11_answer kM_X11_55 rfl (z_pV (q0 := 0) hK hN hP hD [0] rfl rfl rfl rfl rfl) rfl hl.1 rfl (Nat.le_of_ble_eq_true rfl) dX11_seal_9 rfl) hP hD hS hA [0] [1, 2, 3, 4, 5, 6, 7, 8] rfl rfl rfl rfl (fun r3 u3 H locs hw3 hP hD hS => ?_)
    obtain ⟨i3, a3, v3, w3, f3, g3, o3⟩ := u3
    dsimp only at hw3
    obtain rfl := hw3
    have hP : va_P D vwCl [(q_1, .inr (3, [.ref q_13, .ref q_14, .ref q_2, .ref q_15, .ref q_16, .ref q_17])), (q_2, .inr (5, [.int x_2, .ref q_18, .ref q_19, .ref q_3, .ref q_5, .ref q_4, .ref q_20, .ref q_21, .ref q_22, .ref q_23, .ref q_6, .ref q_7, .ref q_8, .int x_3, .int x_4])), (q_3, .inl (k 0, 400, .inl f_5)), (q_4, .inl (k 0, 400, .inl f_6)), (q_5, .inl (k 0, 400, .inl f_7)), (q_6, .inl (k 0, 400, .inl f_8)), (q_7, .inl (k 0, 400, .inl f_9)), (q_8, .inl (k 0, 400, .inl f_10)), (q_0, .inr (11, [.ref q_1, .ref q_9, .ref q_10, .ref q_11, .ref q_12, .int (v3 0)]))] H := hP
    have hD : va_D A [(q_1, .inr (3, [.ref q_13, .ref q_14, .ref q_2, .ref q_15, .ref q_16, .ref q_17])), (q_2, .inr (5, [.int x_2, .ref q_18, .ref q_19, .ref q_3, .ref q_5, .ref q_4, .ref q_20, .ref q_21, .ref q_22, .ref q_23, .ref q_6, .ref q_7, .ref q_8, .int x_3, .int x_4])), (q_3, .inl (k 0, 400, .inl f_5)), (q_4, .inl (k 0, 400, .inl f_6)), (q_5, .inl (k 0, 400, .inl f_7)), (q_6, .inl (k 0, 400, .inl f_8)), (q_7, .inl (k 0, 400, .inl f_9)), (q_8, .inl (k 0, 400, .inl f_10)), (q_0, .inr (11, [.ref q_1, .ref q_9, .ref q_10, .ref q_11, .ref q_12, .int (v3 0)]))] := hD
    exact z_iret C0 hr hlk rfl hK hP hD hS (0, fun _ => 0, fun i => [(v3 0), x_3, x_4].getD i 0, fun _ => 0, fun i => [f_8, f_9, f_10].getD i (fun _ => 0), fun _ => (fun _ => 0), fun _ => (fun _ => none)) rfl [8, 0, 1, 2, 3, 4, 5, 6, 7] rfl rfl rfl dX11_seal_12
  · refine lv_if_eq (tgt := 13) hx hb dX11_seal_4 (by decide) (fun _ => ?_) (fun c4 => absurd (by decide) c4)
    refine lv_aload_n hx hb dX11_seal_13 rfl (lv_at hl 0 rfl) ?_
    refine lv_aload_n hx hb dX11_seal_14 rfl (lv_at hl 0 rfl) ?_
    refine va_get (D := D) (ci := 11) (v := .ref q_1) (C := RX11) (T := TX11) (N := 6) hx hb hts inX11 hown hK hP 0 rfl rfl 0 (by decide) (hts _ kF_X11_12) (fun _ h9 => h9) rfl dX11_seal_15 ?_
    refine va_get (D := D) (ci := 3) (v := .ref q_2) (C := RX3) (T := TX3) (N := 6) hx hb hts inX3 hown hK hP 1 rfl rfl 2 (by decide) (hts _ kF_X11_137) (fun _ h9 => h9) rfl dX11_seal_18 ?_
    refine lv_iload_n hx hb dX11_seal_21 rfl (lv_at hl 1 rfl) ?_
    refine z_bi (wr := [(q_0, .inr (11, [.ref q_1, .ref q_9, .ref q_10, .ref q_11, .ref q_12, .int x_1])), (q_1, .inr (3, [.ref q_13, .ref q_14, .ref q_2, .ref q_15, .ref q_16, .ref q_17]))]) (z_runV (C := RX5) (As := [.int x_0]) (rest := [.ref q_0]) C0 (s_X5_sealDay_1 l D k q_2 q_3 q_4 q_5 q_6 q_7 q_8 q_18 q_19 q_20 q_21 q_22 q_23 x_0 x_2 x_3 x_4 f_5 f_6 f_7 f_8 f_9 f_10 (by revert c1; first | omega | (simp only [vp_in_iff, Int32.lt_iff_toInt_lt, Int32.le_iff_toInt_le, Int64.lt_iff_toInt_lt, Int64.le_iff_toInt_le, Int32.toInt_toInt64, ← Int32.toInt_inj, ← Int64.toInt_inj, Int32.reduceToInt, Int64.reduceToInt] <;> omega)) (by revert h_x_2; first | omega | (simp only [vp_in_iff, Int32.lt_iff_toInt_lt, Int32.le_iff_toInt_le, Int64.lt_iff_toInt_lt, Int64.le_iff_toInt_le, Int32.toInt_toInt64, ← Int32.toInt_inj, ← Int64.toInt_inj, Int32.reduceToInt, Int64.reduceToInt] <;> omega)) h_f_5 _) okV_X5_sealDay kM_X11_371 rfl (z_pV (q0 := 2) hK hN hP hD [2, 3, 4, 5, 6, 7, 8] rfl rfl rfl rfl rfl) rfl hl.1 rfl (Nat.le_of_ble_eq_true rfl) dX11_seal_22 rfl) hP hD hS hA [2, 3, 4, 5, 6, 7, 8] [0, 1] rfl rfl rfl rfl (fun r5 u5 H locs hw5 hP hD hS => ?_)
    obtain ⟨i5, a5, v5, w5, f5, g5, o5⟩ := u5
    dsimp only at hw5
    obtain rfl := hw5
    have hP : va_P D vwCl [(q_0, .inr (11, [.ref q_1, .ref q_9, .ref q_10, .ref q_11, .ref q_12, .int x_1])), (q_1, .inr (3, [.ref q_13, .ref q_14, .ref q_2, .ref q_15, .ref q_16, .ref q_17])), (q_2, .inr (5, [.int x_2, .ref q_18, .ref q_19, .ref q_3, .ref q_5, .ref q_4, .ref q_20, .ref q_21, .ref q_22, .ref q_23, .ref q_6, .ref q_7, .ref q_8, .int (v5 0), .int (v5 1)])), (q_3, .inl (k 0, 400, .inl f_5)), (q_4, .inl (k 0, 400, .inl f_6)), (q_5, .inl (k 0, 400, .inl f_7)), (q_6, .inl (k 0, 400, .inl (f5 0))), (q_7, .inl (k 0, 400, .inl (f5 1))), (q_8, .inl (k 0, 400, .inl (f5 2)))] H := hP
    have hD : va_D A [(q_0, .inr (11, [.ref q_1, .ref q_9, .ref q_10, .ref q_11, .ref q_12, .int x_1])), (q_1, .inr (3, [.ref q_13, .ref q_14, .ref q_2, .ref q_15, .ref q_16, .ref q_17])), (q_2, .inr (5, [.int x_2, .ref q_18, .ref q_19, .ref q_3, .ref q_5, .ref q_4, .ref q_20, .ref q_21, .ref q_22, .ref q_23, .ref q_6, .ref q_7, .ref q_8, .int (v5 0), .int (v5 1)])), (q_3, .inl (k 0, 400, .inl f_5)), (q_4, .inl (k 0, 400, .inl f_6)), (q_5, .inl (k 0, 400, .inl f_7)), (q_6, .inl (k 0, 400, .inl (f5 0))), (q_7, .inl (k 0, 400, .inl (f5 1))), (q_8, .inl (k 0, 400, .inl (f5 2)))] := hD
    refine z_bi (wr := [(q_1, .inr (3, [.ref q_13, .ref q_14, .ref q_2, .ref q_15, .ref q_16, .ref q_17])), (q_2, .inr (5, [.int x_2, .ref q_18, .ref q_19, .ref q_3, .ref q_5, .ref q_4, .ref q_20, .ref q_21, .ref q_22, .ref q_23, .ref q_6, .ref q_7, .ref q_8, .int (v5 0), .int (v5 1)])), (q_3, .inl (k 0, 400, .inl f_5)), (q_4, .inl (k 0, 400, .inl f_6)), (q_5, .inl (k 0, 400, .inl f_7)), (q_6, .inl (k 0, 400, .inl (f5 0))), (q_7, .inl (k 0, 400, .inl (f5 1))), (q_8, .inl (k 0, 400, .inl (f5 2)))]) (z_runV (C := RX11) (As := [.int r5]) (rest := []) C0 (s_X11_answer_1 l D k q_0 q_1 q_9 q_10 q_11 q_12 r5 x_1 _) okV_X11_answer kM_X11_55 rfl (z_pV (q0 := 0) hK hN hP hD [0] rfl rfl rfl rfl rfl) rfl hl.1 rfl (Nat.le_of_ble_eq_true rfl) dX11_seal_25 rfl) hP hD hS hA [0] [1, 2, 3, 4, 5, 6, 7, 8] rfl rfl rfl rfl (fun r6 u6 H locs hw6 hP hD hS => ?_)
    obtain ⟨i6, a6, v6, w6, f6, g6, o6⟩ := u6
    dsimp only at hw6
    obtain rfl := hw6
    have hP : va_P D vwCl [(q_1, .inr (3, [.ref q_13, .ref q_14, .ref q_2, .ref q_15, .ref q_16, .ref q_17])), (q_2, .inr (5, [.int x_2, .ref q_18, .ref q_19, .ref q_3, .ref q_5, .ref q_4, .ref q_20, .ref q_21, .ref q_22, .ref q_23, .ref q_6, .ref q_7, .ref q_8, .int (v5 0), .int (v5 1)])), (q_3, .inl (k 0, 400, .inl f_5)), (q_4, .inl (k 0, 400, .inl f_6)), (q_5, .inl (k 0, 400, .inl f_7)), (q_6, .inl (k 0, 400, .inl (f5 0))), (q_7, .inl (k 0, 400, .inl (f5 1))), (q_8, .inl (k 0, 400, .inl (f5 2))), (q_0, .inr (11, [.ref q_1, .ref q_9, .ref q_10, .ref q_11, .ref q_12, .int (v6 0)]))] H := hP
    have hD : va_D A [(q_1, .inr (3, [.ref q_13, .ref q_14, .ref q_2, .ref q_15, .ref q_16, .ref q_17])), (q_2, .inr (5, [.int x_2, .ref q_18, .ref q_19, .ref q_3, .ref q_5, .ref q_4, .ref q_20, .ref q_21, .ref q_22, .ref q_23, .ref q_6, .ref q_7, .ref q_8, .int (v5 0), .int (v5 1)])), (q_3, .inl (k 0, 400, .inl f_5)), (q_4, .inl (k 0, 400, .inl f_6)), (q_5, .inl (k 0, 400, .inl f_7)), (q_6, .inl (k 0, 400, .inl (f5 0))), (q_7, .inl (k 0, 400, .inl (f5 1))), (q_8, .inl (k 0, 400, .inl (f5 2))), (q_0, .inr (11, [.ref q_1, .ref q_9, .ref q_10, .ref q_11, .ref q_12, .int (v6 0)]))] := hD
    exact z_iret C0 hr hlk rfl hK hP hD hS (0, fun _ => 0, fun i => [(v6 0), (v5 0), (v5 1)].getD i 0, fun _ => 0, fun i => [(f5 0), (f5 1), (f5 2)].getD i (fun _ => 0), fun _ => (fun _ => 0), fun _ => (fun _ => none)) rfl [8, 0, 1, 2, 3, 4, 5, 6, 7] rfl rfl rfl dX11_seal_28
