set_option maxHeartbeats 4000000 in
set_option maxRecDepth 100000 in
theorem s_X12_likeOf_45 (l : Launch) (D : va_G) (k : Nat → ClassId) (T : zTy) (q_0 : Nat) (q_1 : Nat) (q_2 : Nat) (q_3 : Nat) (q_4 : Nat) (q_5 : Nat) (q_6 : Nat) (q_7 : Nat) (q_8 : Nat) (q_9 : Nat) (q_10 : Nat) (q_11 : Nat) (q_12 : Nat) (q_13 : Nat) (q_14 : Nat) (q_15 : Nat) (q_16 : Nat) (q_17 : Nat) (q_18 : Nat) (q_19 : Nat) (q_20 : Nat) (q_21 : Nat) (q_22 : Nat) (q_23 : Nat) (q_24 : Nat) (q_25 : Nat) (x_0 : Int32) (x_1 : Int32) (x_2 : Int32) (x_3 : Int32) (x_4 : Int32) (x_5 : Int32) (x_6 : Int32) (x_7 : Int32) (x_8 : Int32) (g_9 : Int64) (x_10 : Int32) (x_11 : Int32) (x_12 : Int32) (x_13 : Int32) (x_14 : Int32) (x_15 : Int32) (x_16 : Int32) (x_17 : Int32) (g_18 : Int64) (g_19 : Int64) (x_20 : Int32) (x_21 : Int32) (x_22 : Int32) (x_23 : Int32) (x_24 : Int32) (x_25 : Int32) (x_26 : Int32) (x_27 : Int32) (x_28 : Int32) (x_29 : Int32) (x_30 : Int32) (x_31 : Int32) (x_32 : Int32) (f_33 : Nat → Int32) (h_x_0 : 0 ≤ Int32.toInt x_0 ∧ Int32.toInt x_0 ≤ 5) (h_x_1 : 0 ≤ Int32.toInt x_1 ∧ Int32.toInt x_1 ≤ 5) (h_x_5 : 0 ≤ Int32.toInt x_5 ∧ Int32.toInt x_5 ≤ 400) (h_x_6 : 0 ≤ Int32.toInt x_6 ∧ Int32.toInt x_6 ≤ 400) (h_x_7 : 0 ≤ Int32.toInt x_7 ∧ Int32.toInt x_7 ≤ 400) (h_x_8 : 0 ≤ Int32.toInt x_8 ∧ Int32.toInt x_8 ≤ 3) (h_x_11 : 0 ≤ Int32.toInt x_11 ∧ Int32.toInt x_11 ≤ 1) (h_x_12 : 0 ≤ Int32.toInt x_12 ∧ Int32.toInt x_12 ≤ 12) (h_x_13 : 0 ≤ Int32.toInt x_13 ∧ Int32.toInt x_13 ≤ 400) (h_x_14 : 0 ≤ Int32.toInt x_14 ∧ Int32.toInt x_14 ≤ 50) (h_x_15 : 0 ≤ Int32.toInt x_15 ∧ Int32.toInt x_15 ≤ 400) (h_x_17 : 0 ≤ Int32.toInt x_17 ∧ Int32.toInt x_17 ≤ 1) (h_x_20 : 0 ≤ Int32.toInt x_20 ∧ Int32.toInt x_20 ≤ 400) (h_x_22 : 0 ≤ Int32.toInt x_22 ∧ Int32.toInt x_22 ≤ 400) (h_x_23 : 0 ≤ Int32.toInt x_23 ∧ Int32.toInt x_23 ≤ 400) (h_x_25 : 0 ≤ Int32.toInt x_25 ∧ Int32.toInt x_25 ≤ 1) (h_x_26 : 0 ≤ Int32.toInt x_26 ∧ Int32.toInt x_26 ≤ 6) (h_f_33 : zRw f_33) : zMi l yX12_likeOf cX12_likeOf 7 (some .int) ({ frames := 0, cells := 0, slots := 0, locals := 0 }) D k T [.ref q_0, .int x_0, .int x_1] [(q_0, .inr (12, [.int x_2, .int x_3, .ref q_1, .ref q_2, .ref q_3, .int x_4, .ref q_4, .ref q_5, .ref q_6, .ref q_7, .ref q_8, .int x_5, .int x_6, .int x_7, .int x_8, .long g_9, .int x_10, .int x_11, .int x_12, .ref q_9, .int x_13, .ref q_10, .ref q_11, .int x_14, .ref q_12, .ref q_13, .int x_15, .int x_16, .ref q_14, .ref q_15, .ref q_16, .ref q_17, .int x_17, .long g_18, .long g_19, .int x_20, .int x_21, .int x_22, .int x_23, .ref q_18, .ref q_19, .int x_24, .int x_25, .int x_26, .int x_27, .ref q_20, .ref q_21, .int x_28, .int x_29, .ref q_22, .ref q_23, .ref q_24, .ref q_25, .int x_30, .int x_31, .int x_32])), (q_1, .inl (k 0, 27101, .inl f_33))] (fun r u => u.1 = 0) (fun u => [(q_0, .inr (12, [.int x_2, .int x_3, .ref q_1, .ref q_2, .ref q_3, .int x_4, .ref q_4, .ref q_5, .ref q_6, .ref q_7, .ref q_8, .int x_5, .int x_6, .int x_7, .int x_8, .long g_9, .int x_10, .int x_11, .int x_12, .ref q_9, .int x_13, .ref q_10, .ref q_11, .int x_14, .ref q_12, .ref q_13, .int x_15, .int x_16, .ref q_14, .ref q_15, .ref q_16, .ref q_17, .int x_17, .long g_18, .long g_19, .int x_20, .int x_21, .int x_22, .int x_23, .ref q_18, .ref q_19, .int x_24, .int x_25, .int x_26, .int x_27, .ref q_20, .ref q_21, .int x_28, .int x_29, .ref q_22, .ref q_23, .ref q_24, .ref q_25, .int x_30, .int x_31, .int x_32])), (q_1, .inl (k 0, 27101, .inl f_33))]) := by
  refine zMi_of (own := RX12) (by decide +kernel) rfl (Nat.le_of_ble_eq_true rfl) ?_
  intro p e s m args below meth c A ls C0 hr hlk hin hP hD hS hA hK hN hT hl
  have hx := C0.1
  have hb := C0.2.1
  have hml := C0.2.2.1
  have hown := C0.2.2.2.1
  have hts := C0.2.2.2.2
  have hl : lv_has ls 7 [(0, .ref q_0), (1, .int x_0), (2, .int x_1)] := hl
  have hP : va_P D vwCl [(q_0, .inr (12, [.int x_2, .int x_3, .ref q_1, .ref q_2, .ref q_3, .int x_4, .ref q_4, .ref q_5, .ref q_6, .ref q_7, .ref q_8, .int x_5, .int x_6, .int x_7, .int x_8, .long g_9, .int x_10, .int x_11, .int x_12, .ref q_9, .int x_13, .ref q_10, .ref q_11, .int x_14, .ref q_12, .ref q_13, .int x_15, .int x_16, .ref q_14, .ref q_15, .ref q_16, .ref q_17, .int x_17, .long g_18, .long g_19, .int x_20, .int x_21, .int x_22, .int x_23, .ref q_18, .ref q_19, .int x_24, .int x_25, .int x_26, .int x_27, .ref q_20, .ref q_21, .int x_28, .int x_29, .ref q_22, .ref q_23, .ref q_24, .ref q_25, .int x_30, .int x_31, .int x_32])), (q_1, .inl (k 0, 27101, .inl f_33))] s.heap := hP
  refine lv_aload_n hx hb dX12_likeOf_0 rfl (lv_at hl 0 rfl) ?_
  refine va_get (D := D) (ci := 12) (v := .ref q_1) (C := RX12) (T := TX12) (N := 56) hx hb hts inX12 hown hK hP 0 rfl rfl 2 (by decide) (hts _ kF_X12_7) (fun _ h9 => h9) rfl dX12_likeOf_1 ?_
  refine lv_sipush (v := 6986) hx hb dX12_likeOf_4 (by decide) ?_
  refine lv_iconst (v := 2) hx hb dX12_likeOf_7 (by decide) ?_
  refine lv_iload_n hx hb dX12_likeOf_8 rfl (lv_at hl 1 rfl) ?_
  refine lv_imul hx hb dX12_likeOf_9 ?_
  refine lv_topi (fun y1 ey1 => ?_)
  have hy1 : Int32.toInt y1 = 2 * Int32.toInt x_0 := by rw [ey1]; exact zi_mulc (by decide) rfl (by revert h_x_0; first | omega | (simp only [vp_in_iff, Int32.lt_iff_toInt_lt, Int32.le_iff_toInt_le, Int64.lt_iff_toInt_lt, Int64.le_iff_toInt_le, Int32.toInt_toInt64, ← Int32.toInt_inj, ← Int64.toInt_inj, Int32.reduceToInt, Int64.reduceToInt] <;> omega))
  refine lv_iadd hx hb dX12_likeOf_10 ?_
  refine lv_topi (fun y2 ey2 => ?_)
  have hy2 : Int32.toInt y2 = 6986 + Int32.toInt y1 := by rw [ey2]; exact zi_addc (by decide) rfl (by revert h_x_0 hy1; first | omega | (simp only [vp_in_iff, Int32.lt_iff_toInt_lt, Int32.le_iff_toInt_le, Int64.lt_iff_toInt_lt, Int64.le_iff_toInt_le, Int32.toInt_toInt64, ← Int32.toInt_inj, ← Int64.toInt_inj, Int32.reduceToInt, Int64.reduceToInt] <;> omega))
  refine lv_iconst (v := 1) hx hb dX12_likeOf_11 (by decide) ?_
  refine lv_iadd hx hb dX12_likeOf_12 ?_
  refine lv_topi (fun y3 ey3 => ?_)
  have hy3 : Int32.toInt y3 = Int32.toInt y2 + 1 := by rw [ey3]; exact zi_addc rfl (by decide) (by revert h_x_0 hy1 hy2; first | omega | (simp only [vp_in_iff, Int32.lt_iff_toInt_lt, Int32.le_iff_toInt_le, Int64.lt_iff_toInt_lt, Int64.le_iff_toInt_le, Int32.toInt_toInt64, ← Int32.toInt_inj, ← Int64.toInt_inj, Int32.reduceToInt, Int64.reduceToInt] <;> omega))
  refine va_iald hx hb hK hP 1 0 rfl rfl (by revert h_x_0 hy1 hy2 hy3; first | omega | (simp only [vp_in_iff, Int32.lt_iff_toInt_lt, Int32.le_iff_toInt_le, Int64.lt_iff_toInt_lt, Int64.le_iff_toInt_le, Int32.toInt_toInt64, ← Int32.toInt_inj, ← Int64.toInt_inj, Int32.reduceToInt, Int64.reduceToInt] <;> omega)) dX12_likeOf_13 ?_
  refine lv_topi (fun y4 ey4 => ?_)
  refine lv_istore_n (lv' := [(3, .int y4), (0, .ref q_0), (1, .int x_0), (2, .int x_1)]) hx hb dX12_likeOf_14 rfl hl (by decide) rfl (fun ls hl => ?_)
  refine lv_aload_n hx hb dX12_likeOf_15 rfl (lv_at hl 1 rfl) ?_
  refine va_get (D := D) (ci := 12) (v := .ref q_1) (C := RX12) (T := TX12) (N := 56) hx hb hts inX12 hown hK hP 0 rfl rfl 2 (by decide) (hts _ kF_X12_7) (fun _ h9 => h9) rfl dX12_likeOf_16 ?_
  refine lv_sipush (v := 6980) hx hb dX12_likeOf_19 (by decide) ?_
  refine lv_iload_n hx hb dX12_likeOf_22 rfl (lv_at hl 3 rfl) ?_
  refine lv_iadd hx hb dX12_likeOf_23 ?_
  refine lv_topi (fun y5 ey5 => ?_)
  have hy5 : Int32.toInt y5 = 6980 + Int32.toInt x_1 := by rw [ey5]; exact zi_addc (by decide) rfl (by revert h_x_1; first | omega | (simp only [vp_in_iff, Int32.lt_iff_toInt_lt, Int32.le_iff_toInt_le, Int64.lt_iff_toInt_lt, Int64.le_iff_toInt_le, Int32.toInt_toInt64, ← Int32.toInt_inj, ← Int64.toInt_inj, Int32.reduceToInt, Int64.reduceToInt] <;> omega))
  refine va_iald hx hb hK hP 1 0 rfl rfl (by revert h_x_1 hy5; first | omega | (simp only [vp_in_iff, Int32.lt_iff_toInt_lt, Int32.le_iff_toInt_le, Int64.lt_iff_toInt_lt, Int64.le_iff_toInt_le, Int32.toInt_toInt64, ← Int32.toInt_inj, ← Int64.toInt_inj, Int32.reduceToInt, Int64.reduceToInt] <;> omega)) dX12_likeOf_24 ?_
  refine lv_topi (fun y6 ey6 => ?_)
  refine lv_istore (lv' := [(4, .int y6), (3, .int y4), (0, .ref q_0), (1, .int x_0), (2, .int x_1)]) hx hb dX12_likeOf_25 hl (by decide) rfl (fun ls hl => ?_)
  refine lv_iconst (v := 0) hx hb dX12_likeOf_27 (by decide) ?_
  refine lv_istore (lv' := [(5, .int 0), (4, .int y6), (3, .int y4), (0, .ref q_0), (1, .int x_0), (2, .int x_1)]) hx hb dX12_likeOf_28 hl (by decide) rfl (fun ls hl => ?_)
  refine lv_iconst (v := 0) hx hb dX12_likeOf_30 (by decide) ?_
  refine lv_istore (lv' := [(6, .int 0), (5, .int 0), (4, .int y6), (3, .int y4), (0, .ref q_0), (1, .int x_0), (2, .int x_1)]) hx hb dX12_likeOf_31 hl (by decide) rfl (fun ls hl => ?_)
  have loop151 : ∀ (N152 : Nat) (y147 : Int32) (y148 : Int32) (y149 : Int32) (y150 : Int32) (H : Heap) (locs : List Loc) (ls : Array Slot), Int.toNat (8 - Int32.toInt y147) < N152 → 0 ≤ Int32.toInt y147 ∧ Int32.toInt y147 ≤ 8 → va_P D vwCl [(q_0, .inr (12, [.int x_2, .int x_3, .ref q_1, .ref q_2, .ref q_3, .int x_4, .ref q_4, .ref q_5, .ref q_6, .ref q_7, .ref q_8, .int x_5, .int x_6, .int x_7, .int x_8, .long g_9, .int x_10, .int x_11, .int x_12, .ref q_9, .int x_13, .ref q_10, .ref q_11, .int x_14, .ref q_12, .ref q_13, .int x_15, .int x_16, .ref q_14, .ref q_15, .ref q_16, .ref q_17, .int x_17, .long g_18, .long g_19, .int x_20, .int x_21, .int x_22, .int x_23, .ref q_18, .ref q_19, .int x_24, .int x_25, .int x_26, .int x_27, .ref q_20, .ref q_21, .int x_28, .int x_29, .ref q_22, .ref q_23, .ref q_24, .ref q_25, .int x_30, .int x_31, .int x_32])), (q_1, .inl (k 0, 27101, .inl f_33))] H → va_D A [(q_0, .inr (12, [.int x_2, .int x_3, .ref q_1, .ref q_2, .ref q_3, .int x_4, .ref q_4, .ref q_5, .ref q_6, .ref q_7, .ref q_8, .int x_5, .int x_6, .int x_7, .int x_8, .long g_9, .int x_10, .int x_11, .int x_12, .ref q_9, .int x_13, .ref q_10, .ref q_11, .int x_14, .ref q_12, .ref q_13, .int x_15, .int x_16, .ref q_14, .ref q_15, .ref q_16, .ref q_17, .int x_17, .long g_18, .long g_19, .int x_20, .int x_21, .int x_22, .int x_23, .ref q_18, .ref q_19, .int x_24, .int x_25, .int x_26, .int x_27, .ref q_20, .ref q_21, .int x_28, .int x_29, .ref q_22, .ref q_23, .ref q_24, .ref q_25, .int x_30, .int x_31, .int x_32])), (q_1, .inl (k 0, 27101, .inl f_33))] → va_S A s.heap H locs → lv_has ls 7 [(6, .int y147), (5, .int y148), (4, .int y149), (3, .int y150), (0, .ref q_0), (1, .int x_0), (2, .int x_1)] → W p l e { frames := 0, cells := 0, slots := 0, locals := 0 } s m args below meth c H locs 0 0 (MQ below (va_Qi (fun (r : Int32) (u : zS) => u.1 = 0) (zB D k A (fun (u : zS) => [(q_0, .inr (12, [.int x_2, .int x_3, .ref q_1, .ref q_2, .ref q_3, .int x_4, .ref q_4, .ref q_5, .ref q_6, .ref q_7, .ref q_8, .int x_5, .int x_6, .int x_7, .int x_8, .long g_9, .int x_10, .int x_11, .int x_12, .ref q_9, .int x_13, .ref q_10, .ref q_11, .int x_14, .ref q_12, .ref q_13, .int x_15, .int x_16, .ref q_14, .ref q_15, .ref q_16, .ref q_17, .int x_17, .long g_18, .long g_19, .int x_20, .int x_21, .int x_22, .int x_23, .ref q_18, .ref q_19, .int x_24, .int x_25, .int x_26, .int x_27, .ref q_20, .ref q_21, .int x_28, .int x_29, .ref q_22, .ref q_23, .ref q_24, .ref q_25, .int x_30, .int x_31, .int x_32])), (q_1, .inl (k 0, 27101, .inl f_33))])) A) args s 0 0 A) (F0 m 33 ls []) := by
    intro N152
    induction N152 with
    | zero => intro y147 y148 y149 y150 H locs ls hm; exact absurd hm (Nat.not_lt_zero _)
    | succ N152 ihN152 =>
      intro y147 y148 y149 y150 H locs ls hN152 hy147 hP hD hS hl
      refine lv_iload hx hb dX12_likeOf_33 (lv_at hl 0 rfl) ?_
      refine lv_bipush (v := 8) hx hb dX12_likeOf_35 (by decide) ?_
      refine lv_icmp_ge (tgt := 80) hx hb dX12_likeOf_37 (by decide) (fun c153 => ?_) (fun c153 => ?_)
      · refine lv_iload hx hb dX12_likeOf_80 (lv_at hl 1 rfl) ?_
        exact z_iret C0 hr hlk rfl hK hP hD hS (0, fun _ => 0, fun _ => 0, fun _ => 0, fun _ => (fun _ => 0), fun _ => (fun _ => 0), fun _ => (fun _ => none)) rfl [0, 1] rfl rfl rfl dX12_likeOf_82
      · refine lv_iload hx hb dX12_likeOf_40 (lv_at hl 1 rfl) ?_
        refine lv_iload_n hx hb dX12_likeOf_42 rfl (lv_at hl 3 rfl) ?_
        refine lv_bipush (v := 10) hx hb dX12_likeOf_43 (by decide) ?_
        refine lv_irem hx hb dX12_likeOf_45 (by decide) ?_
        refine lv_topi (fun y154 ey154 => ?_)
        refine lv_iload hx hb dX12_likeOf_46 (lv_at hl 2 rfl) ?_
        refine lv_bipush (v := 10) hx hb dX12_likeOf_48 (by decide) ?_
        refine lv_irem hx hb dX12_likeOf_50 (by decide) ?_
        refine lv_topi (fun y155 ey155 => ?_)
        refine lv_icmp_ne (tgt := 58) hx hb dX12_likeOf_51 (by decide) (fun c156 => ?_) (fun c156 => ?_)
        · refine lv_iconst (v := 0) hx hb dX12_likeOf_58 (by decide) ?_
          refine lv_iadd hx hb dX12_likeOf_59 ?_
          refine lv_topi (fun y157 ey157 => ?_)
          have hy157 : Int32.toInt y157 = Int32.toInt y148 + 0 := by rw [ey157]; exact zi_addc rfl (by decide) (by have := Int32.le_toInt y148; have := Int32.toInt_lt y148; first | omega | (simp only [vp_in_iff, Int32.lt_iff_toInt_lt, Int32.le_iff_toInt_le, Int64.lt_iff_toInt_lt, Int64.le_iff_toInt_le, Int32.toInt_toInt64, ← Int32.toInt_inj, ← Int64.toInt_inj, Int32.reduceToInt, Int64.reduceToInt] <;> omega))
          refine lv_istore (lv' := [(5, .int y157), (6, .int y147), (4, .int y149), (3, .int y150), (0, .ref q_0), (1, .int x_0), (2, .int x_1)]) hx hb dX12_likeOf_60 hl (by decide) rfl (fun ls hl => ?_)
          refine lv_iload_n hx hb dX12_likeOf_62 rfl (lv_at hl 3 rfl) ?_
          refine lv_bipush (v := 10) hx hb dX12_likeOf_63 (by decide) ?_
          refine lv_idiv hx hb dX12_likeOf_65 (by decide) ?_
          refine lv_topi (fun y158 ey158 => ?_)
          refine lv_istore_n (lv' := [(3, .int y158), (5, .int y157), (6, .int y147), (4, .int y149), (0, .ref q_0), (1, .int x_0), (2, .int x_1)]) hx hb dX12_likeOf_66 rfl hl (by decide) rfl (fun ls hl => ?_)
          refine lv_iload hx hb dX12_likeOf_67 (lv_at hl 3 rfl) ?_
          refine lv_bipush (v := 10) hx hb dX12_likeOf_69 (by decide) ?_
          refine lv_idiv hx hb dX12_likeOf_71 (by decide) ?_
          refine lv_topi (fun y159 ey159 => ?_)
          refine lv_istore (lv' := [(4, .int y159), (3, .int y158), (5, .int y157), (6, .int y147), (0, .ref q_0), (1, .int x_0), (2, .int x_1)]) hx hb dX12_likeOf_72 hl (by decide) rfl (fun ls hl => ?_)
          obtain ⟨y160, ey160⟩ : ∃ q : Int32, q = y147 + 1 := ⟨_, rfl⟩
          have hy160 : Int32.toInt y160 = Int32.toInt y147 + 1 := by rw [ey160]; exact zi_addc rfl (by decide) (by revert hN152 hy147 c153; first | omega | (simp only [vp_in_iff, Int32.lt_iff_toInt_lt, Int32.le_iff_toInt_le, Int64.lt_iff_toInt_lt, Int64.le_iff_toInt_le, Int32.toInt_toInt64, ← Int32.toInt_inj, ← Int64.toInt_inj, Int32.reduceToInt, Int64.reduceToInt] <;> omega))
          refine lv_iinc (v := y160) (lv' := [(6, .int y160), (4, .int y159), (3, .int y158), (5, .int y157), (0, .ref q_0), (1, .int x_0), (2, .int x_1)]) hx hb dX12_likeOf_74 hl (k := 3) rfl (by rw [ey160]; exact zz_inc (by decide)) (by decide) rfl (fun ls hl => ?_)
          refine lv_goto (tgt := 33) hx hb dX12_likeOf_77 (by decide) ?_
          exact ihN152 y160 y157 y159 y158 _ _ ls (by revert hN152 hy147 c153 hy160; first | omega | (simp only [vp_in_iff, Int32.lt_iff_toInt_lt, Int32.le_iff_toInt_le, Int64.lt_iff_toInt_lt, Int64.le_iff_toInt_le, Int32.toInt_toInt64, ← Int32.toInt_inj, ← Int64.toInt_inj, Int32.reduceToInt, Int64.reduceToInt] <;> omega)) (by revert hN152 hy147 c153 hy160; first | omega | (simp only [vp_in_iff, Int32.lt_iff_toInt_lt, Int32.le_iff_toInt_le, Int64.lt_iff_toInt_lt, Int64.le_iff_toInt_le, Int32.toInt_toInt64, ← Int32.toInt_inj, ← Int64.toInt_inj, Int32.reduceToInt, Int64.reduceToInt] <;> omega)) hP hD hS (lv_sub hl [0, 3, 1, 2, 4, 5, 6] rfl)
        · refine lv_iconst (v := 1) hx hb dX12_likeOf_54 (by decide) ?_
          refine lv_goto (tgt := 59) hx hb dX12_likeOf_55 (by decide) ?_
          refine lv_iadd hx hb dX12_likeOf_59 ?_
          refine lv_topi (fun y161 ey161 => ?_)
          refine lv_istore (lv' := [(5, .int y161), (6, .int y147), (4, .int y149), (3, .int y150), (0, .ref q_0), (1, .int x_0), (2, .int x_1)]) hx hb dX12_likeOf_60 hl (by decide) rfl (fun ls hl => ?_)
          refine lv_iload_n hx hb dX12_likeOf_62 rfl (lv_at hl 3 rfl) ?_
          refine lv_bipush (v := 10) hx hb dX12_likeOf_63 (by decide) ?_
          refine lv_idiv hx hb dX12_likeOf_65 (by decide) ?_
          refine lv_topi (fun y162 ey162 => ?_)
          refine lv_istore_n (lv' := [(3, .int y162), (5, .int y161), (6, .int y147), (4, .int y149), (0, .ref q_0), (1, .int x_0), (2, .int x_1)]) hx hb dX12_likeOf_66 rfl hl (by decide) rfl (fun ls hl => ?_)
          refine lv_iload hx hb dX12_likeOf_67 (lv_at hl 3 rfl) ?_
          refine lv_bipush (v := 10) hx hb dX12_likeOf_69 (by decide) ?_
          refine lv_idiv hx hb dX12_likeOf_71 (by decide) ?_
          refine lv_topi (fun y163 ey163 => ?_)
          refine lv_istore (lv' := [(4, .int y163), (3, .int y162), (5, .int y161), (6, .int y147), (0, .ref q_0), (1, .int x_0), (2, .int x_1)]) hx hb dX12_likeOf_72 hl (by decide) rfl (fun ls hl => ?_)
          obtain ⟨y164, ey164⟩ : ∃ q : Int32, q = y147 + 1 := ⟨_, rfl⟩
          have hy164 : Int32.toInt y164 = Int32.toInt y147 + 1 := by rw [ey164]; exact zi_addc rfl (by decide) (by revert hN152 hy147 c153; first | omega | (simp only [vp_in_iff, Int32.lt_iff_toInt_lt, Int32.le_iff_toInt_le, Int64.lt_iff_toInt_lt, Int64.le_iff_toInt_le, Int32.toInt_toInt64, ← Int32.toInt_inj, ← Int64.toInt_inj, Int32.reduceToInt, Int64.reduceToInt] <;> omega))
          refine lv_iinc (v := y164) (lv' := [(6, .int y164), (4, .int y163), (3, .int y162), (5, .int y161), (0, .ref q_0), (1, .int x_0), (2, .int x_1)]) hx hb dX12_likeOf_74 hl (k := 3) rfl (by rw [ey164]; exact zz_inc (by decide)) (by decide) rfl (fun ls hl => ?_)
          refine lv_goto (tgt := 33) hx hb dX12_likeOf_77 (by decide) ?_
          exact ihN152 y164 y161 y163 y162 _ _ ls (by revert hN152 hy147 c153 hy164; first | omega | (simp only [vp_in_iff, Int32.lt_iff_toInt_lt, Int32.le_iff_toInt_le, Int64.lt_iff_toInt_lt, Int64.le_iff_toInt_le, Int32.toInt_toInt64, ← Int32.toInt_inj, ← Int64.toInt_inj, Int32.reduceToInt, Int64.reduceToInt] <;> omega)) (by revert hN152 hy147 c153 hy164; first | omega | (simp only [vp_in_iff, Int32.lt_iff_toInt_lt, Int32.le_iff_toInt_le, Int64.lt_iff_toInt_lt, Int64.le_iff_toInt_le, Int32.toInt_toInt64, ← Int32.toInt_inj, ← Int64.toInt_inj, Int32.reduceToInt, Int64.reduceToInt] <;> omega)) hP hD hS (lv_sub hl [0, 3, 1, 2, 4, 5, 6] rfl)
  exact loop151 _ 0 0 y6 y4 _ _ _ (Nat.lt_succ_self _) (by first | omega | (simp only [vp_in_iff, Int32.lt_iff_toInt_lt, Int32.le_iff_toInt_le, Int64.lt_iff_toInt_lt, Int64.le_iff_toInt_le, Int32.toInt_toInt64, ← Int32.toInt_inj, ← Int64.toInt_inj, Int32.reduceToInt, Int64.reduceToInt] <;> omega)) hP hD hS (lv_sub hl [0, 1, 2, 3, 4, 5, 6] rfl)
