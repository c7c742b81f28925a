set_option maxHeartbeats 4000000 in
set_option maxRecDepth 100000 in
theorem s_X5_numberOf_8 (l : Launch) (D : va_G) (k : Nat → ClassId) (T : zTy) (q_0 : Nat) (q_1 : Nat) (q_2 : Nat) (q_3 : Nat) (q_4 : Nat) (q_5 : Nat) (q_6 : Nat) (q_7 : Nat) (q_8 : Nat) (q_9 : Nat) (q_10 : Nat) (q_11 : Nat) (q_12 : Nat) (x_0 : Int32) (x_1 : Int32) (x_2 : Int32) (x_3 : Int32) (f_4 : Nat → Int32) (f_5 : Nat → Int32) (h_x_0 : 0 ≤ Int32.toInt x_0 ∧ Int32.toInt x_0 ≤ 399) (h_x_1 : 1 ≤ Int32.toInt x_1 ∧ Int32.toInt x_1 ≤ 400) : zMi l yX5_numberOf cX5_numberOf 2 (some .int) ({ frames := 0, cells := 0, slots := 0, locals := 0 }) D k T [.ref q_0, .int x_0] [(q_0, .inr (5, [.int x_1, .ref q_3, .ref q_4, .ref q_5, .ref q_2, .ref q_1, .ref q_6, .ref q_7, .ref q_8, .ref q_9, .ref q_10, .ref q_11, .ref q_12, .int x_2, .int x_3])), (q_1, .inl (k 0, 400, .inl f_4)), (q_2, .inl (k 0, 400, .inl f_5))] (fun r u => u.1 = 0) (fun u => [(q_0, .inr (5, [.int x_1, .ref q_3, .ref q_4, .ref q_5, .ref q_2, .ref q_1, .ref q_6, .ref q_7, .ref q_8, .ref q_9, .ref q_10, .ref q_11, .ref q_12, .int x_2, .int x_3])), (q_1, .inl (k 0, 400, .inl f_4)), (q_2, .inl (k 0, 400, .inl f_5))]) := by
  refine zMi_of (own := RX5) (by decide +kernel) rfl (Nat.le_of_ble_eq_true rfl) ?_
  intro p e s m args below meth c A ls C0 hr hlk hin hP hD hS hA hK hN hT hl
  have hx := C0.1
  have hb := C0.2.1
  have hml := C0.2.2.1
  have hown := C0.2.2.2.1
  have hts := C0.2.2.2.2
  have hl : lv_has ls 2 [(0, .ref q_0), (1, .int x_0)] := hl
  have hP : va_P D vwCl [(q_0, .inr (5, [.int x_1, .ref q_3, .ref q_4, .ref q_5, .ref q_2, .ref q_1, .ref q_6, .ref q_7, .ref q_8, .ref q_9, .ref q_10, .ref q_11, .ref q_12, .int x_2, .int x_3])), (q_1, .inl (k 0, 400, .inl f_4)), (q_2, .inl (k 0, 400, .inl f_5))] s.heap := hP
  refine lv_bipush (v := 26) hx hb dX5_numberOf_0 (by decide) ?_
  refine lv_aload_n hx hb dX5_numberOf_2 rfl (lv_at hl 0 rfl) ?_
  refine va_get (D := D) (ci := 5) (v := .ref q_1) (C := RX5) (T := TX5) (N := 15) hx hb hts inX5 hown hK hP 0 rfl rfl 5 (by decide) (hts _ kF_X5_24) (fun _ h9 => h9) rfl dX5_numberOf_3 ?_
  refine lv_iload_n hx hb dX5_numberOf_6 rfl (lv_at hl 1 rfl) ?_
  refine va_iald hx hb hK hP 1 0 rfl rfl (by revert h_x_0; first | omega | (simp only [vp_in_iff, Int32.lt_iff_toInt_lt, Int32.le_iff_toInt_le, Int64.lt_iff_toInt_lt, Int64.le_iff_toInt_le, Int32.toInt_toInt64, ← Int32.toInt_inj, ← Int64.toInt_inj, Int32.reduceToInt, Int64.reduceToInt] <;> omega)) dX5_numberOf_7 ?_
  refine lv_topi (fun y1 ey1 => ?_)
  refine lv_imul hx hb dX5_numberOf_8 ?_
  refine lv_topi (fun y2 ey2 => ?_)
  refine lv_aload_n hx hb dX5_numberOf_9 rfl (lv_at hl 0 rfl) ?_
  refine va_get (D := D) (ci := 5) (v := .ref q_2) (C := RX5) (T := TX5) (N := 15) hx hb hts inX5 hown hK hP 0 rfl rfl 4 (by decide) (hts _ kF_X5_21) (fun _ h9 => h9) rfl dX5_numberOf_10 ?_
  refine lv_iload_n hx hb dX5_numberOf_13 rfl (lv_at hl 1 rfl) ?_
  refine va_iald hx hb hK hP 2 0 rfl rfl (by revert h_x_0; first | omega | (simp only [vp_in_iff, Int32.lt_iff_toInt_lt, Int32.le_iff_toInt_le, Int64.lt_iff_toInt_lt, Int64.le_iff_toInt_le, Int32.toInt_toInt64, ← Int32.toInt_inj, ← Int64.toInt_inj, Int32.reduceToInt, Int64.reduceToInt] <;> omega)) dX5_numberOf_14 ?_
  refine lv_topi (fun y3 ey3 => ?_)
  refine lv_iadd hx hb dX5_numberOf_15 ?_
  refine lv_topi (fun y4 ey4 => ?_)
  exact z_iret C0 hr hlk rfl hK hP hD hS (0, fun _ => 0, fun _ => 0, fun _ => 0, fun _ => (fun _ => 0), fun _ => (fun _ => 0), fun _ => (fun _ => none)) rfl [0, 1, 2] rfl rfl rfl dX5_numberOf_16

set_option maxHeartbeats 4000000 in
set_option maxRecDepth 100000 in
theorem s_X5_sumDay_1 (l : Launch) (D : va_G) (k : Nat → ClassId) (T : zTy) (q_0 : Nat) (q_1 : Nat) (q_2 : Nat) (q_3 : Nat) (q_4 : Nat) (q_5 : Nat) (q_6 : Nat) (q_7 : Nat) (q_8 : Nat) (q_9 : Nat) (q_10 : Nat) (q_11 : Nat) (q_12 : Nat) (x_0 : Int32) (x_1 : Int32) (x_2 : Int32) (x_3 : Int32) (f_4 : Nat → Int32) (f_5 : Nat → Int32) (f_6 : Nat → Int32) (h_x_1 : 0 ≤ Int32.toInt x_1 ∧ Int32.toInt x_1 ≤ 400) (h_f_4 : zR f_4 0 799) : zMi l yX5_sumDay cX5_sumDay 4 (some .int) ({ frames := 1, cells := 0, slots := 0, locals := 21 }) D k T [.ref q_0, .int x_0] [(q_0, .inr (5, [.int x_1, .ref q_4, .ref q_5, .ref q_1, .ref q_3, .ref q_2, .ref q_6, .ref q_7, .ref q_8, .ref q_9, .ref q_10, .ref q_11, .ref q_12, .int x_2, .int x_3])), (q_1, .inl (k 0, 400, .inl f_4)), (q_2, .inl (k 0, 400, .inl f_5)), (q_3, .inl (k 0, 400, .inl f_6))] (fun r u => u.1 = 0) (fun u => [(q_0, .inr (5, [.int x_1, .ref q_4, .ref q_5, .ref q_1, .ref q_3, .ref q_2, .ref q_6, .ref q_7, .ref q_8, .ref q_9, .ref q_10, .ref q_11, .ref q_12, .int (u.2.2.1 0), .int (u.2.2.1 1)])), (q_1, .inl (k 0, 400, .inl f_4)), (q_2, .inl (k 0, 400, .inl f_5)), (q_3, .inl (k 0, 400, .inl f_6))]) := by
  refine zMi_of (own := RX5) (by decide +kernel) rfl (Nat.le_of_ble_eq_true rfl) ?_
  intro p e s m args below meth c A ls C0 hr hlk hin hP hD hS hA hK hN hT hl
  have hx := C0.1
  have hb := C0.2.1
  have hml := C0.2.2.1
  have hown := C0.2.2.2.1
  have hts := C0.2.2.2.2
  have hl : lv_has ls 4 [(0, .ref q_0), (1, .int x_0)] := hl
  have hP : va_P D vwCl [(q_0, .inr (5, [.int x_1, .ref q_4, .ref q_5, .ref q_1, .ref q_3, .ref q_2, .ref q_6, .ref q_7, .ref q_8, .ref q_9, .ref q_10, .ref q_11, .ref q_12, .int x_2, .int x_3])), (q_1, .inl (k 0, 400, .inl f_4)), (q_2, .inl (k 0, 400, .inl f_5)), (q_3, .inl (k 0, 400, .inl f_6))] s.heap := hP
  refine lv_iconst (v := 0) hx hb dX5_sumDay_0 (by decide) ?_
  refine lv_istore_n (lv' := [(2, .int 0), (0, .ref q_0), (1, .int x_0)]) hx hb dX5_sumDay_1 rfl hl (by decide) rfl (fun ls hl => ?_)
  refine lv_aload_n hx hb dX5_sumDay_2 rfl (lv_at hl 1 rfl) ?_
  refine lv_iconst (v := 0) hx hb dX5_sumDay_3 (by decide) ?_
  refine va_put (D := D) (ci := 5) (v := .int 0) (ty := .int) (C := RX5) (T := TX5) (N := 15) hx hb hts inX5 tyX5 tyX5_ok nmX5 hown hK hP hD hS 0 rfl rfl 13 (by decide) (hts _ kF_X5_69) (fun _ h9 => h9) rfl (by decide +kernel) rfl rfl (Nat.le_of_ble_eq_true rfl) dX5_sumDay_4 (fun H locs hP hD hS => ?_)
  have hP : va_P D vwCl [(q_0, .inr (5, [.int x_1, .ref q_4, .ref q_5, .ref q_1, .ref q_3, .ref q_2, .ref q_6, .ref q_7, .ref q_8, .ref q_9, .ref q_10, .ref q_11, .ref q_12, .int 0, .int x_3])), (q_1, .inl (k 0, 400, .inl f_4)), (q_2, .inl (k 0, 400, .inl f_5)), (q_3, .inl (k 0, 400, .inl f_6))] H := hP
  have hD : va_D A [(q_0, .inr (5, [.int x_1, .ref q_4, .ref q_5, .ref q_1, .ref q_3, .ref q_2, .ref q_6, .ref q_7, .ref q_8, .ref q_9, .ref q_10, .ref q_11, .ref q_12, .int 0, .int x_3])), (q_1, .inl (k 0, 400, .inl f_4)), (q_2, .inl (k 0, 400, .inl f_5)), (q_3, .inl (k 0, 400, .inl f_6))] := hD
  refine lv_aload_n hx hb dX5_sumDay_7 rfl (lv_at hl 1 rfl) ?_
  refine lv_iconst (v := 0) hx hb dX5_sumDay_8 (by decide) ?_
  refine va_put (D := D) (ci := 5) (v := .int 0) (ty := .int) (C := RX5) (T := TX5) (N := 15) hx hb hts inX5 tyX5 tyX5_ok nmX5 hown hK hP hD hS 0 rfl rfl 14 (by decide) (hts _ kF_X5_72) (fun _ h9 => h9) rfl (by decide +kernel) rfl rfl (Nat.le_of_ble_eq_true rfl) dX5_sumDay_9 (fun H locs hP hD hS => ?_)
  have hP : va_P D vwCl [(q_0, .inr (5, [.int x_1, .ref q_4, .ref q_5, .ref q_1, .ref q_3, .ref q_2, .ref q_6, .ref q_7, .ref q_8, .ref q_9, .ref q_10, .ref q_11, .ref q_12, .int 0, .int 0])), (q_1, .inl (k 0, 400, .inl f_4)), (q_2, .inl (k 0, 400, .inl f_5)), (q_3, .inl (k 0, 400, .inl f_6))] H := hP
  have hD : va_D A [(q_0, .inr (5, [.int x_1, .ref q_4, .ref q_5, .ref q_1, .ref q_3, .ref q_2, .ref q_6, .ref q_7, .ref q_8, .ref q_9, .ref q_10, .ref q_11, .ref q_12, .int 0, .int 0])), (q_1, .inl (k 0, 400, .inl f_4)), (q_2, .inl (k 0, 400, .inl f_5)), (q_3, .inl (k 0, 400, .inl f_6))] := hD
  refine lv_iconst (v := 0) hx hb dX5_sumDay_12 (by decide) ?_
  refine lv_istore_n (lv' := [(3, .int 0), (2, .int 0), (0, .ref q_0), (1, .int x_0)]) hx hb dX5_sumDay_13 rfl hl (by decide) rfl (fun ls hl => ?_)
  have loop73 : ∀ (N74 : Nat) (y69 : Int32) (y70 : Int32) (y71 : Int32) (y72 : Int32) (H : Heap) (locs : List Loc) (ls : Array Slot), Int.toNat (400 - Int32.toInt y69) < N74 → 0 ≤ Int32.toInt y69 ∧ Int32.toInt y69 ≤ 400 → va_P D vwCl [(q_0, .inr (5, [.int x_1, .ref q_4, .ref q_5, .ref q_1, .ref q_3, .ref q_2, .ref q_6, .ref q_7, .ref q_8, .ref q_9, .ref q_10, .ref q_11, .ref q_12, .int y71, .int y72])), (q_1, .inl (k 0, 400, .inl f_4)), (q_2, .inl (k 0, 400, .inl f_5)), (q_3, .inl (k 0, 400, .inl f_6))] H → va_D A [(q_0, .inr (5, [.int x_1, .ref q_4, .ref q_5, .ref q_1, .ref q_3, .ref q_2, .ref q_6, .ref q_7, .ref q_8, .ref q_9, .ref q_10, .ref q_11, .ref q_12, .int y71, .int y72])), (q_1, .inl (k 0, 400, .inl f_4)), (q_2, .inl (k 0, 400, .inl f_5)), (q_3, .inl (k 0, 400, .inl f_6))] → va_S A s.heap H locs → lv_has ls 4 [(3, .int y69), (2, .int y70), (0, .ref q_0), (1, .int x_0)] → W p l e { frames := 1, cells := 0, slots := 0, locals := 21 } s m args below meth c H locs 0 0 (MQ below (va_Qi (fun (r : Int32) (u : zS) => u.1 = 0) (zB D k A (fun (u : zS) => [(q_0, .inr (5, [.int x_1, .ref q_4, .ref q_5, .ref q_1, .ref q_3, .ref q_2, .ref q_6, .ref q_7, .ref q_8, .ref q_9, .ref q_10, .ref q_11, .ref q_12, .int (u.2.2.1 0), .int (u.2.2.1 1)])), (q_1, .inl (k 0, 400, .inl f_4)), (q_2, .inl (k 0, 400, .inl f_5)), (q_3, .inl (k 0, 400, .inl f_6))])) A) args s 0 0 A) (F0 m 14 ls []) := by
    intro N74
    induction N74 with
    | zero => intro y69 y70 y71 y72 H locs ls hm; exact absurd hm (Nat.not_lt_zero _)
    | succ N74 ihN74 =>
      intro y69 y70 y71 y72 H locs ls hN74 hy69 hP hD hS hl
      refine lv_iload_n hx hb dX5_sumDay_14 rfl (lv_at hl 0 rfl) ?_
      refine lv_aload_n hx hb dX5_sumDay_15 rfl (lv_at hl 2 rfl) ?_
      refine va_get (D := D) (ci := 5) (v := .int x_1) (C := RX5) (T := TX5) (N := 15) hx hb hts inX5 hown hK hP 0 rfl rfl 0 (by decide) (hts _ kF_X5_54) (fun _ h9 => h9) rfl dX5_sumDay_16 ?_
      refine lv_icmp_ge (tgt := 73) hx hb dX5_sumDay_19 (by decide) (fun c75 => ?_) (fun c75 => ?_)
      · refine lv_iload_n hx hb dX5_sumDay_73 rfl (lv_at hl 1 rfl) ?_
        exact z_iret C0 hr hlk rfl hK hP hD hS (0, fun _ => 0, fun i => [y71, y72].getD i 0, fun _ => 0, fun _ => (fun _ => 0), fun _ => (fun _ => 0), fun _ => (fun _ => none)) rfl [0, 1, 2, 3] rfl rfl rfl dX5_sumDay_74
      · refine lv_aload_n hx hb dX5_sumDay_22 rfl (lv_at hl 2 rfl) ?_
        refine va_get (D := D) (ci := 5) (v := .ref q_1) (C := RX5) (T := TX5) (N := 15) hx hb hts inX5 hown hK hP 0 rfl rfl 3 (by decide) (hts _ kF_X5_18) (fun _ h9 => h9) rfl dX5_sumDay_23 ?_
        refine lv_iload_n hx hb dX5_sumDay_26 rfl (lv_at hl 0 rfl) ?_
        refine va_iald hx hb hK hP 1 0 rfl rfl (by revert hN74 hy69 c75 h_x_1; first | omega | (simp only [vp_in_iff, Int32.lt_iff_toInt_lt, Int32.le_iff_toInt_le, Int64.lt_iff_toInt_lt, Int64.le_iff_toInt_le, Int32.toInt_toInt64, ← Int32.toInt_inj, ← Int64.toInt_inj, Int32.reduceToInt, Int64.reduceToInt] <;> omega)) dX5_sumDay_27 ?_
        refine lv_topi (fun y76 ey76 => ?_)
        have hy76 : 0 ≤ Int32.toInt y76 ∧ Int32.toInt y76 ≤ 799 := by rw [ey76]; exact h_f_4 _
        refine lv_iconst (v := 2) hx hb dX5_sumDay_28 (by decide) ?_
        refine lv_idiv hx hb dX5_sumDay_29 (by decide) ?_
        refine lv_topi (fun y77 ey77 => ?_)
        have hy77 : Int32.toInt y77 = Int32.toInt y76 / 2 := by rw [ey77]; exact zo_div 2 (show 0 ≤ Int32.toInt y76 by revert hy76; first | omega | (simp only [vp_in_iff, Int32.lt_iff_toInt_lt, Int32.le_iff_toInt_le, Int64.lt_iff_toInt_lt, Int64.le_iff_toInt_le, Int32.toInt_toInt64, ← Int32.toInt_inj, ← Int64.toInt_inj, Int32.reduceToInt, Int64.reduceToInt] <;> omega)) rfl (by decide)
        refine lv_iload_n hx hb dX5_sumDay_30 rfl (lv_at hl 3 rfl) ?_
        refine lv_icmp_ne (tgt := 67) hx hb dX5_sumDay_31 (by decide) (fun c78 => ?_) (fun c78 => ?_)
        · obtain ⟨y79, ey79⟩ : ∃ q : Int32, q = y69 + 1 := ⟨_, rfl⟩
          have hy79 : Int32.toInt y79 = Int32.toInt y69 + 1 := by rw [ey79]; exact zi_addc rfl (by decide) (by revert hN74 hy69 c75 h_x_1; first | omega | (simp only [vp_in_iff, Int32.lt_iff_toInt_lt, Int32.le_iff_toInt_le, Int64.lt_iff_toInt_lt, Int64.le_iff_toInt_le, Int32.toInt_toInt64, ← Int32.toInt_inj, ← Int64.toInt_inj, Int32.reduceToInt, Int64.reduceToInt] <;> omega))
          refine lv_iinc (v := y79) (lv' := [(3, .int y79), (2, .int y70), (0, .ref q_0), (1, .int x_0)]) hx hb dX5_sumDay_67 hl (k := 0) rfl (by rw [ey79]; exact zz_inc (by decide)) (by decide) rfl (fun ls hl => ?_)
          refine lv_goto (tgt := 14) hx hb dX5_sumDay_70 (by decide) ?_
          exact ihN74 y79 y70 y71 y72 _ _ ls (by revert hN74 hy69 c75 hy79 h_x_1; first | omega | (simp only [vp_in_iff, Int32.lt_iff_toInt_lt, Int32.le_iff_toInt_le, Int64.lt_iff_toInt_lt, Int64.le_iff_toInt_le, Int32.toInt_toInt64, ← Int32.toInt_inj, ← Int64.toInt_inj, Int32.reduceToInt, Int64.reduceToInt] <;> omega)) (by revert hN74 hy69 c75 hy79 h_x_1; first | omega | (simp only [vp_in_iff, Int32.lt_iff_toInt_lt, Int32.le_iff_toInt_le, Int64.lt_iff_toInt_lt, Int64.le_iff_toInt_le, Int32.toInt_toInt64, ← Int32.toInt_inj, ← Int64.toInt_inj, Int32.reduceToInt, Int64.reduceToInt] <;> omega)) hP hD hS (lv_sub hl [0, 1, 2, 3] rfl)
        · obtain ⟨y80, ey80⟩ : ∃ q : Int32, q = y70 + 1 := ⟨_, rfl⟩
          refine lv_iinc (v := y80) (lv' := [(2, .int y80), (3, .int y69), (0, .ref q_0), (1, .int x_0)]) hx hb dX5_sumDay_34 hl (k := 1) rfl (by rw [ey80]; exact zz_inc (by decide)) (by decide) rfl (fun ls hl => ?_)
          refine lv_aload_n hx hb dX5_sumDay_37 rfl (lv_at hl 2 rfl) ?_
          refine lv_dup hx hb dX5_sumDay_38 rfl ?_
          refine va_get (D := D) (ci := 5) (v := .int y71) (C := RX5) (T := TX5) (N := 15) hx hb hts inX5 hown hK hP 0 rfl rfl 13 (by decide) (hts _ kF_X5_69) (fun _ h9 => h9) rfl dX5_sumDay_39 ?_
          refine lv_aload_n hx hb dX5_sumDay_42 rfl (lv_at hl 2 rfl) ?_
          refine lv_iload_n hx hb dX5_sumDay_43 rfl (lv_at hl 1 rfl) ?_
          refine z_bi (wr := [(q_1, .inl (k 0, 400, .inl f_4))]) (z_runV (C := RX5) (As := [.int y69]) (rest := [.int y71, .ref q_0]) C0 (s_X5_numberOf_8 l D k T q_0 q_2 q_3 q_4 q_5 q_1 q_6 q_7 q_8 q_9 q_10 q_11 q_12 y69 x_1 y71 y72 f_5 f_6 (by revert hN74 hy69 c75 h_x_1; first | omega | (simp only [vp_in_iff, Int32.lt_iff_toInt_lt, Int32.le_iff_toInt_le, Int64.lt_iff_toInt_lt, Int64.le_iff_toInt_le, Int32.toInt_toInt64, ← Int32.toInt_inj, ← Int64.toInt_inj, Int32.reduceToInt, Int64.reduceToInt] <;> omega)) (by revert h_x_1 c75 hN74 hy69; first | omega | (simp only [vp_in_iff, Int32.lt_iff_toInt_lt, Int32.le_iff_toInt_le, Int64.lt_iff_toInt_lt, Int64.le_iff_toInt_le, Int32.toInt_toInt64, ← Int32.toInt_inj, ← Int64.toInt_inj, Int32.reduceToInt, Int64.reduceToInt] <;> omega)) _) okV_X5_numberOf kM_X5_62 rfl (z_pV (q0 := 0) hT hS hA hK hN hP hD [0, 2, 3] rfl rfl rfl rfl rfl) rfl hl.1 rfl (Nat.le_of_ble_eq_true rfl) dX5_sumDay_44 rfl) hP hD hS hA [0, 2, 3] [1] rfl rfl rfl rfl (fun r81 u81 H locs hw81 hP hD hS => ?_)
          obtain ⟨i81, a81, v81, w81, f81, g81, o81⟩ := u81
          dsimp only at hw81
          obtain rfl := hw81
          have hP : va_P D vwCl [(q_1, .inl (k 0, 400, .inl f_4)), (q_0, .inr (5, [.int x_1, .ref q_4, .ref q_5, .ref q_1, .ref q_3, .ref q_2, .ref q_6, .ref q_7, .ref q_8, .ref q_9, .ref q_10, .ref q_11, .ref q_12, .int y71, .int y72])), (q_2, .inl (k 0, 400, .inl f_5)), (q_3, .inl (k 0, 400, .inl f_6))] H := hP
          have hD : va_D A [(q_1, .inl (k 0, 400, .inl f_4)), (q_0, .inr (5, [.int x_1, .ref q_4, .ref q_5, .ref q_1, .ref q_3, .ref q_2, .ref q_6, .ref q_7, .ref q_8, .ref q_9, .ref q_10, .ref q_11, .ref q_12, .int y71, .int y72])), (q_2, .inl (k 0, 400, .inl f_5)), (q_3, .inl (k 0, 400, .inl f_6))] := hD
          refine lv_iadd hx hb dX5_sumDay_47 ?_
          refine lv_topi (fun y82 ey82 => ?_)
          refine va_put (D := D) (ci := 5) (v := .int y82) (ty := .int) (C := RX5) (T := TX5) (N := 15) hx hb hts inX5 tyX5 tyX5_ok nmX5 hown hK hP hD hS 1 rfl rfl 13 (by decide) (hts _ kF_X5_69) (fun _ h9 => h9) rfl (by decide +kernel) rfl rfl (Nat.le_of_ble_eq_true rfl) dX5_sumDay_48 (fun H locs hP hD hS => ?_)
          have hP : va_P D vwCl [(q_1, .inl (k 0, 400, .inl f_4)), (q_0, .inr (5, [.int x_1, .ref q_4, .ref q_5, .ref q_1, .ref q_3, .ref q_2, .ref q_6, .ref q_7, .ref q_8, .ref q_9, .ref q_10, .ref q_11, .ref q_12, .int y82, .int y72])), (q_2, .inl (k 0, 400, .inl f_5)), (q_3, .inl (k 0, 400, .inl f_6))] H := hP
          have hD : va_D A [(q_1, .inl (k 0, 400, .inl f_4)), (q_0, .inr (5, [.int x_1, .ref q_4, .ref q_5, .ref q_1, .ref q_3, .ref q_2, .ref q_6, .ref q_7, .ref q_8, .ref q_9, .ref q_10, .ref q_11, .ref q_12, .int y82, .int y72])), (q_2, .inl (k 0, 400, .inl f_5)), (q_3, .inl (k 0, 400, .inl f_6))] := hD
          refine lv_aload_n hx hb dX5_sumDay_51 rfl (lv_at hl 2 rfl) ?_
          refine lv_dup hx hb dX5_sumDay_52 rfl ?_
          refine va_get (D := D) (ci := 5) (v := .int y72) (C := RX5) (T := TX5) (N := 15) hx hb hts inX5 hown hK hP 1 rfl rfl 14 (by decide) (hts _ kF_X5_72) (fun _ h9 => h9) rfl dX5_sumDay_53 ?_
          refine lv_aload_n hx hb dX5_sumDay_56 rfl (lv_at hl 2 rfl) ?_
          refine lv_iload_n hx hb dX5_sumDay_57 rfl (lv_at hl 1 rfl) ?_
          refine z_bi (wr := [(q_1, .inl (k 0, 400, .inl f_4))]) (z_runV (C := RX5) (As := [.int y69]) (rest := [.int y72, .ref q_0]) C0 (s_X5_numberOf_8 l D k T q_0 q_2 q_3 q_4 q_5 q_1 q_6 q_7 q_8 q_9 q_10 q_11 q_12 y69 x_1 y82 y72 f_5 f_6 (by revert hN74 hy69 c75 h_x_1; first | omega | (simp only [vp_in_iff, Int32.lt_iff_toInt_lt, Int32.le_iff_toInt_le, Int64.lt_iff_toInt_lt, Int64.le_iff_toInt_le, Int32.toInt_toInt64, ← Int32.toInt_inj, ← Int64.toInt_inj, Int32.reduceToInt, Int64.reduceToInt] <;> omega)) (by revert h_x_1 c75 hN74 hy69; first | omega | (simp only [vp_in_iff, Int32.lt_iff_toInt_lt, Int32.le_iff_toInt_le, Int64.lt_iff_toInt_lt, Int64.le_iff_toInt_le, Int32.toInt_toInt64, ← Int32.toInt_inj, ← Int64.toInt_inj, Int32.reduceToInt, Int64.reduceToInt] <;> omega)) _) okV_X5_numberOf kM_X5_62 rfl (z_pV (q0 := 1) hT hS hA hK hN hP hD [1, 2, 3] rfl rfl rfl rfl rfl) rfl hl.1 rfl (Nat.le_of_ble_eq_true rfl) dX5_sumDay_58 rfl) hP hD hS hA [1, 2, 3] [0] rfl rfl rfl rfl (fun r83 u83 H locs hw83 hP hD hS => ?_)
          obtain ⟨i83, a83, v83, w83, f83, g83, o83⟩ := u83
          dsimp only at hw83
          obtain rfl := hw83
          have hP : va_P D vwCl [(q_1, .inl (k 0, 400, .inl f_4)), (q_0, .inr (5, [.int x_1, .ref q_4, .ref q_5, .ref q_1, .ref q_3, .ref q_2, .ref q_6, .ref q_7, .ref q_8, .ref q_9, .ref q_10, .ref q_11, .ref q_12, .int y82, .int y72])), (q_2, .inl (k 0, 400, .inl f_5)), (q_3, .inl (k 0, 400, .inl f_6))] H := hP
          have hD : va_D A [(q_1, .inl (k 0, 400, .inl f_4)), (q_0, .inr (5, [.int x_1, .ref q_4, .ref q_5, .ref q_1, .ref q_3, .ref q_2, .ref q_6, .ref q_7, .ref q_8, .ref q_9, .ref q_10, .ref q_11, .ref q_12, .int y82, .int y72])), (q_2, .inl (k 0, 400, .inl f_5)), (q_3, .inl (k 0, 400, .inl f_6))] := hD
          refine lv_iload_n hx hb dX5_sumDay_61 rfl (lv_at hl 0 rfl) ?_
          refine lv_imul hx hb dX5_sumDay_62 ?_
          refine lv_topi (fun y84 ey84 => ?_)
          refine lv_iadd hx hb dX5_sumDay_63 ?_
          refine lv_topi (fun y85 ey85 => ?_)
          refine va_put (D := D) (ci := 5) (v := .int y85) (ty := .int) (C := RX5) (T := TX5) (N := 15) hx hb hts inX5 tyX5 tyX5_ok nmX5 hown hK hP hD hS 1 rfl rfl 14 (by decide) (hts _ kF_X5_72) (fun _ h9 => h9) rfl (by decide +kernel) rfl rfl (Nat.le_of_ble_eq_true rfl) dX5_sumDay_64 (fun H locs hP hD hS => ?_)
          have hP : va_P D vwCl [(q_1, .inl (k 0, 400, .inl f_4)), (q_0, .inr (5, [.int x_1, .ref q_4, .ref q_5, .ref q_1, .ref q_3, .ref q_2, .ref q_6, .ref q_7, .ref q_8, .ref q_9, .ref q_10, .ref q_11, .ref q_12, .int y82, .int y85])), (q_2, .inl (k 0, 400, .inl f_5)), (q_3, .inl (k 0, 400, .inl f_6))] H := hP
          have hD : va_D A [(q_1, .inl (k 0, 400, .inl f_4)), (q_0, .inr (5, [.int x_1, .ref q_4, .ref q_5, .ref q_1, .ref q_3, .ref q_2, .ref q_6, .ref q_7, .ref q_8, .ref q_9, .ref q_10, .ref q_11, .ref q_12, .int y82, .int y85])), (q_2, .inl (k 0, 400, .inl f_5)), (q_3, .inl (k 0, 400, .inl f_6))] := hD
          obtain ⟨y86, ey86⟩ : ∃ q : Int32, q = y69 + 1 := ⟨_, rfl⟩
          have hy86 : Int32.toInt y86 = Int32.toInt y69 + 1 := by rw [ey86]; exact zi_addc rfl (by decide) (by revert hN74 hy69 c75 h_x_1; first | omega | (simp only [vp_in_iff, Int32.lt_iff_toInt_lt, Int32.le_iff_toInt_le, Int64.lt_iff_toInt_lt, Int64.le_iff_toInt_le, Int32.toInt_toInt64, ← Int32.toInt_inj, ← Int64.toInt_inj, Int32.reduceToInt, Int64.reduceToInt] <;> omega))
          refine lv_iinc (v := y86) (lv' := [(3, .int y86), (2, .int y80), (0, .ref q_0), (1, .int x_0)]) hx hb dX5_sumDay_67 hl (k := 1) rfl (by rw [ey86]; exact zz_inc (by decide)) (by decide) rfl (fun ls hl => ?_)
          refine lv_goto (tgt := 14) hx hb dX5_sumDay_70 (by decide) ?_
          exact ihN74 y86 y80 y82 y85 _ _ ls (by revert hN74 hy69 c75 hy86 h_x_1; first | omega | (simp only [vp_in_iff, Int32.lt_iff_toInt_lt, Int32.le_iff_toInt_le, Int64.lt_iff_toInt_lt, Int64.le_iff_toInt_le, Int32.toInt_toInt64, ← Int32.toInt_inj, ← Int64.toInt_inj, Int32.reduceToInt, Int64.reduceToInt] <;> omega)) (by revert hN74 hy69 c75 hy86 h_x_1; first | omega | (simp only [vp_in_iff, Int32.lt_iff_toInt_lt, Int32.le_iff_toInt_le, Int64.lt_iff_toInt_lt, Int64.le_iff_toInt_le, Int32.toInt_toInt64, ← Int32.toInt_inj, ← Int64.toInt_inj, Int32.reduceToInt, Int64.reduceToInt] <;> omega)) (z_sub hP [1, 0, 2, 3] rfl) (hD.sub [1, 0, 2, 3] rfl rfl) hS (lv_sub hl [0, 1, 2, 3] rfl)
  exact loop73 _ 0 0 0 0 _ _ _ (Nat.lt_succ_self _) (by first | omega | (simp only [vp_in_iff, Int32.lt_iff_toInt_lt, Int32.le_iff_toInt_le, Int64.lt_iff_toInt_lt, Int64.le_iff_toInt_le, Int32.toInt_toInt64, ← Int32.toInt_inj, ← Int64.toInt_inj, Int32.reduceToInt, Int64.reduceToInt] <;> omega)) hP hD hS (lv_sub hl [0, 1, 2, 3] rfl)

set_option maxHeartbeats 4000000 in
set_option maxRecDepth 100000 in
theorem s_X5_sealDay_1 (l : Launch) (D : va_G) (k : Nat → ClassId) (T : zTy) (q_0 : Nat) (q_1 : Nat) (q_2 : Nat) (q_3 : Nat) (q_4 : Nat) (q_5 : Nat) (q_6 : Nat) (q_7 : Nat) (q_8 : Nat) (q_9 : Nat) (q_10 : Nat) (q_11 : Nat) (q_12 : Nat) (x_0 : Int32) (x_1 : Int32) (x_2 : Int32) (x_3 : Int32) (f_4 : Nat → Int32) (f_5 : Nat → Int32) (f_6 : Nat → Int32) (f_7 : Nat → Int32) (f_8 : Nat → Int32) (f_9 : Nat → Int32) (h_x_0 : 0 ≤ Int32.toInt x_0 ∧ Int32.toInt x_0 ≤ 399) (h_x_1 : 0 ≤ Int32.toInt x_1 ∧ Int32.toInt x_1 ≤ 400) (h_f_4 : zR f_4 0 799) : zMi l yX5_sealDay cX5_sealDay 2 (some .int) ({ frames := 2, cells := 0, slots := 0, locals := 44 }) D k T [.ref q_0, .int x_0] [(q_0, .inr (5, [.int x_1, .ref q_7, .ref q_8, .ref q_1, .ref q_3, .ref q_2, .ref q_9, .ref q_10, .ref q_11, .ref q_12, .ref q_4, .ref q_5, .ref q_6, .int x_2, .int x_3])), (q_1, .inl (k 0, 400, .inl f_4)), (q_2, .inl (k 0, 400, .inl f_5)), (q_3, .inl (k 0, 400, .inl f_6)), (q_4, .inl (k 0, 400, .inl f_7)), (q_5, .inl (k 0, 400, .inl f_8)), (q_6, .inl (k 0, 400, .inl f_9))] (fun r u => u.1 = 0) (fun u => [(q_0, .inr (5, [.int x_1, .ref q_7, .ref q_8, .ref q_1, .ref q_3, .ref q_2, .ref q_9, .ref q_10, .ref q_11, .ref q_12, .ref q_4, .ref q_5, .ref q_6, .int (u.2.2.1 0), .int (u.2.2.1 1)])), (q_1, .inl (k 0, 400, .inl f_4)), (q_2, .inl (k 0, 400, .inl f_5)), (q_3, .inl (k 0, 400, .inl f_6)), (q_4, .inl (k 0, 400, .inl (u.2.2.2.2.1 0))), (q_5, .inl (k 0, 400, .inl (u.2.2.2.2.1 1))), (q_6, .inl (k 0, 400, .inl (u.2.2.2.2.1 2)))]) := by
  refine zMi_of (own := RX5) (by decide +kernel) rfl (Nat.le_of_ble_eq_true rfl) ?_
  intro p e s m args below meth c A ls C0 hr hlk hin hP hD hS hA hK hN hT hl
  have hx := C0.1
  have hb := C0.2.1
  have hml := C0.2.2.1
  have hown := C0.2.2.2.1
  have hts := C0.2.2.2.2
  have hl : lv_has ls 2 [(0, .ref q_0), (1, .int x_0)] := hl
  have hP : va_P D vwCl [(q_0, .inr (5, [.int x_1, .ref q_7, .ref q_8, .ref q_1, .ref q_3, .ref q_2, .ref q_9, .ref q_10, .ref q_11, .ref q_12, .ref q_4, .ref q_5, .ref q_6, .int x_2, .int x_3])), (q_1, .inl (k 0, 400, .inl f_4)), (q_2, .inl (k 0, 400, .inl f_5)), (q_3, .inl (k 0, 400, .inl f_6)), (q_4, .inl (k 0, 400, .inl f_7)), (q_5, .inl (k 0, 400, .inl f_8)), (q_6, .inl (k 0, 400, .inl f_9))] s.heap := hP
  refine lv_aload_n hx hb dX5_sealDay_0 rfl (lv_at hl 0 rfl) ?_
  refine va_get (D := D) (ci := 5) (v := .ref q_4) (C := RX5) (T := TX5) (N := 15) hx hb hts inX5 hown hK hP 0 rfl rfl 10 (by decide) (hts _ kF_X5_39) (fun _ h9 => h9) rfl dX5_sealDay_1 ?_
  refine lv_iload_n hx hb dX5_sealDay_4 rfl (lv_at hl 1 rfl) ?_
  refine lv_aload_n hx hb dX5_sealDay_5 rfl (lv_at hl 0 rfl) ?_
  refine lv_iload_n hx hb dX5_sealDay_6 rfl (lv_at hl 1 rfl) ?_
  refine z_bi (wr := [(q_4, .inl (k 0, 400, .inl f_7)), (q_5, .inl (k 0, 400, .inl f_8)), (q_6, .inl (k 0, 400, .inl f_9))]) (z_runV (C := RX5) (As := [.int x_0]) (rest := [.int x_0, .ref q_4]) C0 (s_X5_sumDay_1 l D k T q_0 q_1 q_2 q_3 q_7 q_8 q_9 q_10 q_11 q_12 q_4 q_5 q_6 x_0 x_1 x_2 x_3 f_4 f_5 f_6 (by revert h_x_1; first | omega | (simp only [vp_in_iff, Int32.lt_iff_toInt_lt, Int32.le_iff_toInt_le, Int64.lt_iff_toInt_lt, Int64.le_iff_toInt_le, Int32.toInt_toInt64, ← Int32.toInt_inj, ← Int64.toInt_inj, Int32.reduceToInt, Int64.reduceToInt] <;> omega)) h_f_4 _) okV_X5_sumDay kM_X5_66 rfl (z_pV (q0 := 0) hT hS hA hK hN hP hD [0, 1, 2, 3] rfl rfl rfl rfl rfl) rfl hl.1 rfl (Nat.le_of_ble_eq_true rfl) dX5_sealDay_7 rfl) hP hD hS hA [0, 1, 2, 3] [4, 5, 6] rfl rfl rfl rfl (fun r1 u1 H locs hw1 hP hD hS => ?_)
  obtain ⟨i1, a1, v1, w1, f1, g1, o1⟩ := u1
  dsimp only at hw1
  obtain rfl := hw1
  have hP : va_P D vwCl [(q_4, .inl (k 0, 400, .inl f_7)), (q_5, .inl (k 0, 400, .inl f_8)), (q_6, .inl (k 0, 400, .inl f_9)), (q_0, .inr (5, [.int x_1, .ref q_7, .ref q_8, .ref q_1, .ref q_3, .ref q_2, .ref q_9, .ref q_10, .ref q_11, .ref q_12, .ref q_4, .ref q_5, .ref q_6, .int (v1 0), .int (v1 1)])), (q_1, .inl (k 0, 400, .inl f_4)), (q_2, .inl (k 0, 400, .inl f_5)), (q_3, .inl (k 0, 400, .inl f_6))] H := hP
  have hD : va_D A [(q_4, .inl (k 0, 400, .inl f_7)), (q_5, .inl (k 0, 400, .inl f_8)), (q_6, .inl (k 0, 400, .inl f_9)), (q_0, .inr (5, [.int x_1, .ref q_7, .ref q_8, .ref q_1, .ref q_3, .ref q_2, .ref q_9, .ref q_10, .ref q_11, .ref q_12, .ref q_4, .ref q_5, .ref q_6, .int (v1 0), .int (v1 1)])), (q_1, .inl (k 0, 400, .inl f_4)), (q_2, .inl (k 0, 400, .inl f_5)), (q_3, .inl (k 0, 400, .inl f_6))] := hD
  refine va_iast hx hb hK hP hD hS 0 0 rfl rfl (by revert h_x_0; first | omega | (simp only [vp_in_iff, Int32.lt_iff_toInt_lt, Int32.le_iff_toInt_le, Int64.lt_iff_toInt_lt, Int64.le_iff_toInt_le, Int32.toInt_toInt64, ← Int32.toInt_inj, ← Int64.toInt_inj, Int32.reduceToInt, Int64.reduceToInt] <;> omega)) dX5_sealDay_10 (fun H locs hP hD hS => ?_)
  obtain ⟨F2, eF2⟩ : ∃ q, q = upd f_7 (Int32.toNatClampNeg x_0) r1 := ⟨_, rfl⟩
  have hP : va_P D vwCl [(q_4, .inl (k 0, 400, .inl F2)), (q_5, .inl (k 0, 400, .inl f_8)), (q_6, .inl (k 0, 400, .inl f_9)), (q_0, .inr (5, [.int x_1, .ref q_7, .ref q_8, .ref q_1, .ref q_3, .ref q_2, .ref q_9, .ref q_10, .ref q_11, .ref q_12, .ref q_4, .ref q_5, .ref q_6, .int (v1 0), .int (v1 1)])), (q_1, .inl (k 0, 400, .inl f_4)), (q_2, .inl (k 0, 400, .inl f_5)), (q_3, .inl (k 0, 400, .inl f_6))] H := by rw [eF2]; exact hP
  have hD : va_D A [(q_4, .inl (k 0, 400, .inl F2)), (q_5, .inl (k 0, 400, .inl f_8)), (q_6, .inl (k 0, 400, .inl f_9)), (q_0, .inr (5, [.int x_1, .ref q_7, .ref q_8, .ref q_1, .ref q_3, .ref q_2, .ref q_9, .ref q_10, .ref q_11, .ref q_12, .ref q_4, .ref q_5, .ref q_6, .int (v1 0), .int (v1 1)])), (q_1, .inl (k 0, 400, .inl f_4)), (q_2, .inl (k 0, 400, .inl f_5)), (q_3, .inl (k 0, 400, .inl f_6))] := by rw [eF2]; exact hD
  refine lv_aload_n hx hb dX5_sealDay_11 rfl (lv_at hl 0 rfl) ?_
  refine va_get (D := D) (ci := 5) (v := .ref q_5) (C := RX5) (T := TX5) (N := 15) hx hb hts inX5 hown hK hP 3 rfl rfl 11 (by decide) (hts _ kF_X5_42) (fun _ h9 => h9) rfl dX5_sealDay_12 ?_
  refine lv_iload_n hx hb dX5_sealDay_15 rfl (lv_at hl 1 rfl) ?_
  refine lv_aload_n hx hb dX5_sealDay_16 rfl (lv_at hl 0 rfl) ?_
  refine va_get (D := D) (ci := 5) (v := .int (v1 0)) (C := RX5) (T := TX5) (N := 15) hx hb hts inX5 hown hK hP 3 rfl rfl 13 (by decide) (hts _ kF_X5_69) (fun _ h9 => h9) rfl dX5_sealDay_17 ?_
  refine va_iast hx hb hK hP hD hS 1 0 rfl rfl (by revert h_x_0; first | omega | (simp only [vp_in_iff, Int32.lt_iff_toInt_lt, Int32.le_iff_toInt_le, Int64.lt_iff_toInt_lt, Int64.le_iff_toInt_le, Int32.toInt_toInt64, ← Int32.toInt_inj, ← Int64.toInt_inj, Int32.reduceToInt, Int64.reduceToInt] <;> omega)) dX5_sealDay_20 (fun H locs hP hD hS => ?_)
  obtain ⟨F3, eF3⟩ : ∃ q, q = upd f_8 (Int32.toNatClampNeg x_0) (v1 0) := ⟨_, rfl⟩
  have hP : va_P D vwCl [(q_4, .inl (k 0, 400, .inl F2)), (q_5, .inl (k 0, 400, .inl F3)), (q_6, .inl (k 0, 400, .inl f_9)), (q_0, .inr (5, [.int x_1, .ref q_7, .ref q_8, .ref q_1, .ref q_3, .ref q_2, .ref q_9, .ref q_10, .ref q_11, .ref q_12, .ref q_4, .ref q_5, .ref q_6, .int (v1 0), .int (v1 1)])), (q_1, .inl (k 0, 400, .inl f_4)), (q_2, .inl (k 0, 400, .inl f_5)), (q_3, .inl (k 0, 400, .inl f_6))] H := by rw [eF3]; exact hP
  have hD : va_D A [(q_4, .inl (k 0, 400, .inl F2)), (q_5, .inl (k 0, 400, .inl F3)), (q_6, .inl (k 0, 400, .inl f_9)), (q_0, .inr (5, [.int x_1, .ref q_7, .ref q_8, .ref q_1, .ref q_3, .ref q_2, .ref q_9, .ref q_10, .ref q_11, .ref q_12, .ref q_4, .ref q_5, .ref q_6, .int (v1 0), .int (v1 1)])), (q_1, .inl (k 0, 400, .inl f_4)), (q_2, .inl (k 0, 400, .inl f_5)), (q_3, .inl (k 0, 400, .inl f_6))] := by rw [eF3]; exact hD
  refine lv_aload_n hx hb dX5_sealDay_21 rfl (lv_at hl 0 rfl) ?_
  refine va_get (D := D) (ci := 5) (v := .ref q_6) (C := RX5) (T := TX5) (N := 15) hx hb hts inX5 hown hK hP 3 rfl rfl 12 (by decide) (hts _ kF_X5_45) (fun _ h9 => h9) rfl dX5_sealDay_22 ?_
  refine lv_iload_n hx hb dX5_sealDay_25 rfl (lv_at hl 1 rfl) ?_
  refine lv_aload_n hx hb dX5_sealDay_26 rfl (lv_at hl 0 rfl) ?_
  refine va_get (D := D) (ci := 5) (v := .int (v1 1)) (C := RX5) (T := TX5) (N := 15) hx hb hts inX5 hown hK hP 3 rfl rfl 14 (by decide) (hts _ kF_X5_72) (fun _ h9 => h9) rfl dX5_sealDay_27 ?_
  refine va_iast hx hb hK hP hD hS 2 0 rfl rfl (by revert h_x_0; first | omega | (simp only [vp_in_iff, Int32.lt_iff_toInt_lt, Int32.le_iff_toInt_le, Int64.lt_iff_toInt_lt, Int64.le_iff_toInt_le, Int32.toInt_toInt64, ← Int32.toInt_inj, ← Int64.toInt_inj, Int32.reduceToInt, Int64.reduceToInt] <;> omega)) dX5_sealDay_30 (fun H locs hP hD hS => ?_)
  obtain ⟨F4, eF4⟩ : ∃ q, q = upd f_9 (Int32.toNatClampNeg x_0) (v1 1) := ⟨_, rfl⟩
  have hP : va_P D vwCl [(q_4, .inl (k 0, 400, .inl F2)), (q_5, .inl (k 0, 400, .inl F3)), (q_6, .inl (k 0, 400, .inl F4)), (q_0, .inr (5, [.int x_1, .ref q_7, .ref q_8, .ref q_1, .ref q_3, .ref q_2, .ref q_9, .ref q_10, .ref q_11, .ref q_12, .ref q_4, .ref q_5, .ref q_6, .int (v1 0), .int (v1 1)])), (q_1, .inl (k 0, 400, .inl f_4)), (q_2, .inl (k 0, 400, .inl f_5)), (q_3, .inl (k 0, 400, .inl f_6))] H := by rw [eF4]; exact hP
  have hD : va_D A [(q_4, .inl (k 0, 400, .inl F2)), (q_5, .inl (k 0, 400, .inl F3)), (q_6, .inl (k 0, 400, .inl F4)), (q_0, .inr (5, [.int x_1, .ref q_7, .ref q_8, .ref q_1, .ref q_3, .ref q_2, .ref q_9, .ref q_10, .ref q_11, .ref q_12, .ref q_4, .ref q_5, .ref q_6, .int (v1 0), .int (v1 1)])), (q_1, .inl (k 0, 400, .inl f_4)), (q_2, .inl (k 0, 400, .inl f_5)), (q_3, .inl (k 0, 400, .inl f_6))] := by rw [eF4]; exact hD
  refine lv_aload_n hx hb dX5_sealDay_31 rfl (lv_at hl 0 rfl) ?_
  refine va_get (D := D) (ci := 5) (v := .ref q_4) (C := RX5) (T := TX5) (N := 15) hx hb hts inX5 hown hK hP 3 rfl rfl 10 (by decide) (hts _ kF_X5_39) (fun _ h9 => h9) rfl dX5_sealDay_32 ?_
  refine lv_iload_n hx hb dX5_sealDay_35 rfl (lv_at hl 1 rfl) ?_
  refine va_iald hx hb hK hP 0 0 rfl rfl (by revert h_x_0; first | omega | (simp only [vp_in_iff, Int32.lt_iff_toInt_lt, Int32.le_iff_toInt_le, Int64.lt_iff_toInt_lt, Int64.le_iff_toInt_le, Int32.toInt_toInt64, ← Int32.toInt_inj, ← Int64.toInt_inj, Int32.reduceToInt, Int64.reduceToInt] <;> omega)) dX5_sealDay_36 ?_
  refine lv_topi (fun y5 ey5 => ?_)
  exact z_iret C0 hr hlk rfl hK hP hD hS (0, fun _ => 0, fun i => [(v1 0), (v1 1)].getD i 0, fun _ => 0, fun i => [F2, F3, F4].getD i (fun _ => 0), fun _ => (fun _ => 0), fun _ => (fun _ => none)) rfl [3, 4, 5, 6, 0, 1, 2] rfl rfl rfl dX5_sealDay_37

set_option maxHeartbeats 4000000 in
set_option maxRecDepth 100000 in
theorem s_X11_seal_1 (l : Launch) (D : va_G) (k : Nat → ClassId) (T : zTy) (q_0 : Nat) (q_1 : Nat) (q_2 : Nat) (q_3 : Nat) (q_4 : Nat) (q_5 : Nat) (q_6 : Nat) (q_7 : Nat) (q_8 : Nat) (q_9 : Nat) (q_10 : Nat) (q_11 : Nat) (q_12 : Nat) (q_13 : Nat) (q_14 : Nat) (q_15 : Nat) (q_16 : Nat) (q_17 : Nat) (q_18 : Nat) (q_19 : Nat) (q_20 : Nat) (q_21 : Nat) (q_22 : Nat) (q_23 : Nat) (x_0 : Int32) (x_1 : Int32) (x_2 : Int32) (x_3 : Int32) (x_4 : Int32) (f_5 : Nat → Int32) (f_6 : Nat → Int32) (f_7 : Nat → Int32) (f_8 : Nat → Int32) (f_9 : Nat → Int32) (f_10 : Nat → Int32) (h_x_2 : 0 ≤ Int32.toInt x_2 ∧ Int32.toInt x_2 ≤ 400) (h_f_5 : zR f_5 0 799) : zMi l yX11_seal cX11_seal 2 (some .int) ({ frames := 3, cells := 0, slots := 0, locals := 65 }) D k T [.ref q_0, .int x_0] [(q_0, .inr (11, [.ref q_1, .ref q_9, .ref q_10, .ref q_11, .ref q_12, .int x_1])), (q_1, .inr (3, [.ref q_13, .ref q_14, .ref q_2, .ref q_15, .ref q_16, .ref q_17])), (q_2, .inr (5, [.int x_2, .ref q_18, .ref q_19, .ref q_3, .ref q_5, .ref q_4, .ref q_20, .ref q_21, .ref q_22, .ref q_23, .ref q_6, .ref q_7, .ref q_8, .int x_3, .int x_4])), (q_3, .inl (k 0, 400, .inl f_5)), (q_4, .inl (k 0, 400, .inl f_6)), (q_5, .inl (k 0, 400, .inl f_7)), (q_6, .inl (k 0, 400, .inl f_8)), (q_7, .inl (k 0, 400, .inl f_9)), (q_8, .inl (k 0, 400, .inl f_10))] (fun r u => u.1 = 0) (fun u => [(q_0, .inr (11, [.ref q_1, .ref q_9, .ref q_10, .ref q_11, .ref q_12, .int (u.2.2.1 0)])), (q_1, .inr (3, [.ref q_13, .ref q_14, .ref q_2, .ref q_15, .ref q_16, .ref q_17])), (q_2, .inr (5, [.int x_2, .ref q_18, .ref q_19, .ref q_3, .ref q_5, .ref q_4, .ref q_20, .ref q_21, .ref q_22, .ref q_23, .ref q_6, .ref q_7, .ref q_8, .int (u.2.2.1 1), .int (u.2.2.1 2)])), (q_3, .inl (k 0, 400, .inl f_5)), (q_4, .inl (k 0, 400, .inl f_6)), (q_5, .inl (k 0, 400, .inl f_7)), (q_6, .inl (k 0, 400, .inl (u.2.2.2.2.1 0))), (q_7, .inl (k 0, 400, .inl (u.2.2.2.2.1 1))), (q_8, .inl (k 0, 400, .inl (u.2.2.2.2.1 2)))]) := by
  refine zMi_of (own := RX11) (by decide +kernel) rfl (Nat.le_of_ble_eq_true rfl) ?_
  intro p e s m args below meth c A ls C0 hr hlk hin hP hD hS hA hK hN hT hl
  have hx := C0.1
  have hb := C0.2.1
  have hml := C0.2.2.1
  have hown := C0.2.2.2.1
  have hts := C0.2.2.2.2
  have hl : lv_has ls 2 [(0, .ref q_0), (1, .int x_0)] := hl
  have hP : va_P D vwCl [(q_0, .inr (11, [.ref q_1, .ref q_9, .ref q_10, .ref q_11, .ref q_12, .int x_1])), (q_1, .inr (3, [.ref q_13, .ref q_14, .ref q_2, .ref q_15, .ref q_16, .ref q_17])), (q_2, .inr (5, [.int x_2, .ref q_18, .ref q_19, .ref q_3, .ref q_5, .ref q_4, .ref q_20, .ref q_21, .ref q_22, .ref q_23, .ref q_6, .ref q_7, .ref q_8, .int x_3, .int x_4])), (q_3, .inl (k 0, 400, .inl f_5)), (q_4, .inl (k 0, 400, .inl f_6)), (q_5, .inl (k 0, 400, .inl f_7)), (q_6, .inl (k 0, 400, .inl f_8)), (q_7, .inl (k 0, 400, .inl f_9)), (q_8, .inl (k 0, 400, .inl f_10))] s.heap := hP
  refine lv_iload_n hx hb dX11_seal_0 rfl (lv_at hl 1 rfl) ?_
  refine z_bi0 (z_runS (As := [.int x_0]) (rest := []) C0 (s_X11_isNoDay_1 l D k T x_0 _) okS_X11_isNoDay kM_X11_72 rfl (z_p0 hT hS hA hK hN) rfl hl.1 rfl (Nat.le_of_ble_eq_true rfl) dX11_seal_1 rfl) hP hS hA (fun r1 u1 H locs hw1 hP hS => ?_)
  obtain ⟨i1, a1, v1, w1, f1, g1, o1⟩ := u1
  dsimp only at hw1
  rcases hw1 with ⟨rfl, rfl, c1⟩ | ⟨rfl, rfl, hq1_0, c1⟩
  · refine lv_if_eq (tgt := 13) hx hb dX11_seal_4 (by decide) (fun c2 => absurd c2 (by decide)) (fun _ => ?_)
    refine lv_aload_n hx hb dX11_seal_7 rfl (lv_at hl 0 rfl) ?_
    refine lv_iconst (v := (-1)) hx hb dX11_seal_8 (by decide) ?_
    refine z_bi (wr := [(q_1, .inr (3, [.ref q_13, .ref q_14, .ref q_2, .ref q_15, .ref q_16, .ref q_17])), (q_2, .inr (5, [.int x_2, .ref q_18, .ref q_19, .ref q_3, .ref q_5, .ref q_4, .ref q_20, .ref q_21, .ref q_22, .ref q_23, .ref q_6, .ref q_7, .ref q_8, .int x_3, .int x_4])), (q_3, .inl (k 0, 400, .inl f_5)), (q_4, .inl (k 0, 400, .inl f_6)), (q_5, .inl (k 0, 400, .inl f_7)), (q_6, .inl (k 0, 400, .inl f_8)), (q_7, .inl (k 0, 400, .inl f_9)), (q_8, .inl (k 0, 400, .inl f_10))]) (z_runV (C := RX11) (As := [.int (-1)]) (rest := []) C0 (s_X11_answer_1 l D k T q_0 q_1 q_9 q_10 q_11 q_12 (-1) x_1 _) okV_X11_answer kM_X11_55 rfl (z_pV (q0 := 0) hT hS hA hK hN hP hD [0] rfl rfl rfl rfl rfl) rfl hl.1 rfl (Nat.le_of_ble_eq_true rfl) dX11_seal_9 rfl) hP hD hS hA [0] [1, 2, 3, 4, 5, 6, 7, 8] rfl rfl rfl rfl (fun r3 u3 H locs hw3 hP hD hS => ?_)
    obtain ⟨i3, a3, v3, w3, f3, g3, o3⟩ := u3
    dsimp only at hw3
    obtain ⟨rfl, hw3⟩ := hw3
    have hw3 := hw3.symm
    subst hw3
    have hP : va_P D vwCl [(q_1, .inr (3, [.ref q_13, .ref q_14, .ref q_2, .ref q_15, .ref q_16, .ref q_17])), (q_2, .inr (5, [.int x_2, .ref q_18, .ref q_19, .ref q_3, .ref q_5, .ref q_4, .ref q_20, .ref q_21, .ref q_22, .ref q_23, .ref q_6, .ref q_7, .ref q_8, .int x_3, .int x_4])), (q_3, .inl (k 0, 400, .inl f_5)), (q_4, .inl (k 0, 400, .inl f_6)), (q_5, .inl (k 0, 400, .inl f_7)), (q_6, .inl (k 0, 400, .inl f_8)), (q_7, .inl (k 0, 400, .inl f_9)), (q_8, .inl (k 0, 400, .inl f_10)), (q_0, .inr (11, [.ref q_1, .ref q_9, .ref q_10, .ref q_11, .ref q_12, .int (v3 0)]))] H := hP
    have hD : va_D A [(q_1, .inr (3, [.ref q_13, .ref q_14, .ref q_2, .ref q_15, .ref q_16, .ref q_17])), (q_2, .inr (5, [.int x_2, .ref q_18, .ref q_19, .ref q_3, .ref q_5, .ref q_4, .ref q_20, .ref q_21, .ref q_22, .ref q_23, .ref q_6, .ref q_7, .ref q_8, .int x_3, .int x_4])), (q_3, .inl (k 0, 400, .inl f_5)), (q_4, .inl (k 0, 400, .inl f_6)), (q_5, .inl (k 0, 400, .inl f_7)), (q_6, .inl (k 0, 400, .inl f_8)), (q_7, .inl (k 0, 400, .inl f_9)), (q_8, .inl (k 0, 400, .inl f_10)), (q_0, .inr (11, [.ref q_1, .ref q_9, .ref q_10, .ref q_11, .ref q_12, .int (v3 0)]))] := hD
    exact z_iret C0 hr hlk rfl hK hP hD hS (0, fun _ => 0, fun i => [(v3 0), x_3, x_4].getD i 0, fun _ => 0, fun i => [f_8, f_9, f_10].getD i (fun _ => 0), fun _ => (fun _ => 0), fun _ => (fun _ => none)) rfl [8, 0, 1, 2, 3, 4, 5, 6, 7] rfl rfl rfl dX11_seal_12
  · refine lv_if_eq (tgt := 13) hx hb dX11_seal_4 (by decide) (fun _ => ?_) (fun c4 => absurd (by decide) c4)
    refine lv_aload_n hx hb dX11_seal_13 rfl (lv_at hl 0 rfl) ?_
    refine lv_aload_n hx hb dX11_seal_14 rfl (lv_at hl 0 rfl) ?_
    refine va_get (D := D) (ci := 11) (v := .ref q_1) (C := RX11) (T := TX11) (N := 6) hx hb hts inX11 hown hK hP 0 rfl rfl 0 (by decide) (hts _ kF_X11_12) (fun _ h9 => h9) rfl dX11_seal_15 ?_
    refine va_get (D := D) (ci := 3) (v := .ref q_2) (C := RX3) (T := TX3) (N := 6) hx hb hts inX3 hown hK hP 1 rfl rfl 2 (by decide) (hts _ kF_X11_137) (fun _ h9 => h9) rfl dX11_seal_18 ?_
    refine lv_iload_n hx hb dX11_seal_21 rfl (lv_at hl 1 rfl) ?_
    refine z_bi (wr := [(q_0, .inr (11, [.ref q_1, .ref q_9, .ref q_10, .ref q_11, .ref q_12, .int x_1])), (q_1, .inr (3, [.ref q_13, .ref q_14, .ref q_2, .ref q_15, .ref q_16, .ref q_17]))]) (z_runV (C := RX5) (As := [.int x_0]) (rest := [.ref q_0]) C0 (s_X5_sealDay_1 l D k T q_2 q_3 q_4 q_5 q_6 q_7 q_8 q_18 q_19 q_20 q_21 q_22 q_23 x_0 x_2 x_3 x_4 f_5 f_6 f_7 f_8 f_9 f_10 (by revert hq1_0 c1; first | omega | (simp only [vp_in_iff, Int32.lt_iff_toInt_lt, Int32.le_iff_toInt_le, Int64.lt_iff_toInt_lt, Int64.le_iff_toInt_le, Int32.toInt_toInt64, ← Int32.toInt_inj, ← Int64.toInt_inj, Int32.reduceToInt, Int64.reduceToInt] <;> omega)) (by revert h_x_2; first | omega | (simp only [vp_in_iff, Int32.lt_iff_toInt_lt, Int32.le_iff_toInt_le, Int64.lt_iff_toInt_lt, Int64.le_iff_toInt_le, Int32.toInt_toInt64, ← Int32.toInt_inj, ← Int64.toInt_inj, Int32.reduceToInt, Int64.reduceToInt] <;> omega)) h_f_5 _) okV_X5_sealDay kM_X11_371 rfl (z_pV (q0 := 2) hT hS hA hK hN hP hD [2, 3, 4, 5, 6, 7, 8] rfl rfl rfl rfl rfl) rfl hl.1 rfl (Nat.le_of_ble_eq_true rfl) dX11_seal_22 rfl) hP hD hS hA [2, 3, 4, 5, 6, 7, 8] [0, 1] rfl rfl rfl rfl (fun r5 u5 H locs hw5 hP hD hS => ?_)
    obtain ⟨i5, a5, v5, w5, f5, g5, o5⟩ := u5
    dsimp only at hw5
    obtain rfl := hw5
    have hP : va_P D vwCl [(q_0, .inr (11, [.ref q_1, .ref q_9, .ref q_10, .ref q_11, .ref q_12, .int x_1])), (q_1, .inr (3, [.ref q_13, .ref q_14, .ref q_2, .ref q_15, .ref q_16, .ref q_17])), (q_2, .inr (5, [.int x_2, .ref q_18, .ref q_19, .ref q_3, .ref q_5, .ref q_4, .ref q_20, .ref q_21, .ref q_22, .ref q_23, .ref q_6, .ref q_7, .ref q_8, .int (v5 0), .int (v5 1)])), (q_3, .inl (k 0, 400, .inl f_5)), (q_4, .inl (k 0, 400, .inl f_6)), (q_5, .inl (k 0, 400, .inl f_7)), (q_6, .inl (k 0, 400, .inl (f5 0))), (q_7, .inl (k 0, 400, .inl (f5 1))), (q_8, .inl (k 0, 400, .inl (f5 2)))] H := hP
    have hD : va_D A [(q_0, .inr (11, [.ref q_1, .ref q_9, .ref q_10, .ref q_11, .ref q_12, .int x_1])), (q_1, .inr (3, [.ref q_13, .ref q_14, .ref q_2, .ref q_15, .ref q_16, .ref q_17])), (q_2, .inr (5, [.int x_2, .ref q_18, .ref q_19, .ref q_3, .ref q_5, .ref q_4, .ref q_20, .ref q_21, .ref q_22, .ref q_23, .ref q_6, .ref q_7, .ref q_8, .int (v5 0), .int (v5 1)])), (q_3, .inl (k 0, 400, .inl f_5)), (q_4, .inl (k 0, 400, .inl f_6)), (q_5, .inl (k 0, 400, .inl f_7)), (q_6, .inl (k 0, 400, .inl (f5 0))), (q_7, .inl (k 0, 400, .inl (f5 1))), (q_8, .inl (k 0, 400, .inl (f5 2)))] := hD
    refine z_bi (wr := [(q_1, .inr (3, [.ref q_13, .ref q_14, .ref q_2, .ref q_15, .ref q_16, .ref q_17])), (q_2, .inr (5, [.int x_2, .ref q_18, .ref q_19, .ref q_3, .ref q_5, .ref q_4, .ref q_20, .ref q_21, .ref q_22, .ref q_23, .ref q_6, .ref q_7, .ref q_8, .int (v5 0), .int (v5 1)])), (q_3, .inl (k 0, 400, .inl f_5)), (q_4, .inl (k 0, 400, .inl f_6)), (q_5, .inl (k 0, 400, .inl f_7)), (q_6, .inl (k 0, 400, .inl (f5 0))), (q_7, .inl (k 0, 400, .inl (f5 1))), (q_8, .inl (k 0, 400, .inl (f5 2)))]) (z_runV (C := RX11) (As := [.int r5]) (rest := []) C0 (s_X11_answer_1 l D k T q_0 q_1 q_9 q_10 q_11 q_12 r5 x_1 _) okV_X11_answer kM_X11_55 rfl (z_pV (q0 := 0) hT hS hA hK hN hP hD [0] rfl rfl rfl rfl rfl) rfl hl.1 rfl (Nat.le_of_ble_eq_true rfl) dX11_seal_25 rfl) hP hD hS hA [0] [1, 2, 3, 4, 5, 6, 7, 8] rfl rfl rfl rfl (fun r6 u6 H locs hw6 hP hD hS => ?_)
    obtain ⟨i6, a6, v6, w6, f6, g6, o6⟩ := u6
    dsimp only at hw6
    obtain ⟨rfl, hw6⟩ := hw6
    have hw6 := hw6.symm
    subst hw6
    have hP : va_P D vwCl [(q_1, .inr (3, [.ref q_13, .ref q_14, .ref q_2, .ref q_15, .ref q_16, .ref q_17])), (q_2, .inr (5, [.int x_2, .ref q_18, .ref q_19, .ref q_3, .ref q_5, .ref q_4, .ref q_20, .ref q_21, .ref q_22, .ref q_23, .ref q_6, .ref q_7, .ref q_8, .int (v5 0), .int (v5 1)])), (q_3, .inl (k 0, 400, .inl f_5)), (q_4, .inl (k 0, 400, .inl f_6)), (q_5, .inl (k 0, 400, .inl f_7)), (q_6, .inl (k 0, 400, .inl (f5 0))), (q_7, .inl (k 0, 400, .inl (f5 1))), (q_8, .inl (k 0, 400, .inl (f5 2))), (q_0, .inr (11, [.ref q_1, .ref q_9, .ref q_10, .ref q_11, .ref q_12, .int (v6 0)]))] H := hP
    have hD : va_D A [(q_1, .inr (3, [.ref q_13, .ref q_14, .ref q_2, .ref q_15, .ref q_16, .ref q_17])), (q_2, .inr (5, [.int x_2, .ref q_18, .ref q_19, .ref q_3, .ref q_5, .ref q_4, .ref q_20, .ref q_21, .ref q_22, .ref q_23, .ref q_6, .ref q_7, .ref q_8, .int (v5 0), .int (v5 1)])), (q_3, .inl (k 0, 400, .inl f_5)), (q_4, .inl (k 0, 400, .inl f_6)), (q_5, .inl (k 0, 400, .inl f_7)), (q_6, .inl (k 0, 400, .inl (f5 0))), (q_7, .inl (k 0, 400, .inl (f5 1))), (q_8, .inl (k 0, 400, .inl (f5 2))), (q_0, .inr (11, [.ref q_1, .ref q_9, .ref q_10, .ref q_11, .ref q_12, .int (v6 0)]))] := hD
    exact z_iret C0 hr hlk rfl hK hP hD hS (0, fun _ => 0, fun i => [(v6 0), (v5 0), (v5 1)].getD i 0, fun _ => 0, fun i => [(f5 0), (f5 1), (f5 2)].getD i (fun _ => 0), fun _ => (fun _ => 0), fun _ => (fun _ => none)) rfl [8, 0, 1, 2, 3, 4, 5, 6, 7] rfl rfl rfl dX11_seal_28

set_option maxHeartbeats 4000000 in
set_option maxRecDepth 100000 in
theorem s_X5_turnBits_1 (l : Launch) (D : va_G) (k : Nat → ClassId) (T : zTy) (q_0 : Nat) (q_1 : Nat) (q_2 : Nat) (q_3 : Nat) (q_4 : Nat) (q_5 : Nat) (q_6 : Nat) (q_7 : Nat) (q_8 : Nat) (q_9 : Nat) (q_10 : Nat) (q_11 : Nat) (q_12 : Nat) (x_0 : Int32) (x_1 : Int32) (x_2 : Int32) (x_3 : Int32) (x_4 : Int32) (f_5 : Nat → Int32) (f_6 : Nat → Int32) (h_x_0 : 0 ≤ Int32.toInt x_0 ∧ Int32.toInt x_0 ≤ 399) (h_x_1 : 1 ≤ Int32.toInt x_1 ∧ Int32.toInt x_1 ≤ 7) (h_x_2 : 1 ≤ Int32.toInt x_2 ∧ Int32.toInt x_2 ≤ 400) : zMi l yX5_turnBits cX5_turnBits 4 (some .int) ({ frames := 1, cells := 0, slots := 0, locals := 21 }) D k T [.ref q_0, .int x_0, .int x_1] [(q_0, .inr (5, [.int x_2, .ref q_3, .ref q_4, .ref q_5, .ref q_2, .ref q_1, .ref q_6, .ref q_7, .ref q_8, .ref q_9, .ref q_10, .ref q_11, .ref q_12, .int x_3, .int x_4])), (q_1, .inl (k 0, 400, .inl f_5)), (q_2, .inl (k 0, 400, .inl f_6))] (fun r u => u.1 = 0) (fun u => [(q_0, .inr (5, [.int x_2, .ref q_3, .ref q_4, .ref q_5, .ref q_2, .ref q_1, .ref q_6, .ref q_7, .ref q_8, .ref q_9, .ref q_10, .ref q_11, .ref q_12, .int x_3, .int x_4])), (q_1, .inl (k 0, 400, .inl (u.2.2.2.2.1 0))), (q_2, .inl (k 0, 400, .inl (u.2.2.2.2.1 1)))]) := by
  refine zMi_of (own := RX5) (by decide +kernel) rfl (Nat.le_of_ble_eq_true rfl) ?_
  intro p e s m args below meth c A ls C0 hr hlk hin hP hD hS hA hK hN hT hl
  have hx := C0.1
  have hb := C0.2.1
  have hml := C0.2.2.1
  have hown := C0.2.2.2.1
  have hts := C0.2.2.2.2
  have hl : lv_has ls 4 [(0, .ref q_0), (1, .int x_0), (2, .int x_1)] := hl
  have hP : va_P D vwCl [(q_0, .inr (5, [.int x_2, .ref q_3, .ref q_4, .ref q_5, .ref q_2, .ref q_1, .ref q_6, .ref q_7, .ref q_8, .ref q_9, .ref q_10, .ref q_11, .ref q_12, .int x_3, .int x_4])), (q_1, .inl (k 0, 400, .inl f_5)), (q_2, .inl (k 0, 400, .inl f_6))] s.heap := hP
  refine lv_aload_n hx hb dX5_turnBits_0 rfl (lv_at hl 0 rfl) ?_
  refine lv_iload_n hx hb dX5_turnBits_1 rfl (lv_at hl 1 rfl) ?_
  refine z_bi (wr := []) (z_runV (C := RX5) (As := [.int x_0]) (rest := []) C0 (s_X5_numberOf_8 l D k T q_0 q_1 q_2 q_3 q_4 q_5 q_6 q_7 q_8 q_9 q_10 q_11 q_12 x_0 x_2 x_3 x_4 f_5 f_6 (by revert h_x_0; first | omega | (simp only [vp_in_iff, Int32.lt_iff_toInt_lt, Int32.le_iff_toInt_le, Int64.lt_iff_toInt_lt, Int64.le_iff_toInt_le, Int32.toInt_toInt64, ← Int32.toInt_inj, ← Int64.toInt_inj, Int32.reduceToInt, Int64.reduceToInt] <;> omega)) (by revert h_x_2; first | omega | (simp only [vp_in_iff, Int32.lt_iff_toInt_lt, Int32.le_iff_toInt_le, Int64.lt_iff_toInt_lt, Int64.le_iff_toInt_le, Int32.toInt_toInt64, ← Int32.toInt_inj, ← Int64.toInt_inj, Int32.reduceToInt, Int64.reduceToInt] <;> omega)) _) okV_X5_numberOf kM_X5_62 rfl (z_pV (q0 := 0) hT hS hA hK hN hP hD [0, 1, 2] rfl rfl rfl rfl rfl) rfl hl.1 rfl (Nat.le_of_ble_eq_true rfl) dX5_turnBits_2 rfl) hP hD hS hA [0, 1, 2] [] rfl rfl rfl rfl (fun r1 u1 H locs hw1 hP hD hS => ?_)
  obtain ⟨i1, a1, v1, w1, f1, g1, o1⟩ := u1
  dsimp only at hw1
  obtain rfl := hw1
  have hP : va_P D vwCl [(q_0, .inr (5, [.int x_2, .ref q_3, .ref q_4, .ref q_5, .ref q_2, .ref q_1, .ref q_6, .ref q_7, .ref q_8, .ref q_9, .ref q_10, .ref q_11, .ref q_12, .int x_3, .int x_4])), (q_1, .inl (k 0, 400, .inl f_5)), (q_2, .inl (k 0, 400, .inl f_6))] H := hP
  have hD : va_D A [(q_0, .inr (5, [.int x_2, .ref q_3, .ref q_4, .ref q_5, .ref q_2, .ref q_1, .ref q_6, .ref q_7, .ref q_8, .ref q_9, .ref q_10, .ref q_11, .ref q_12, .int x_3, .int x_4])), (q_1, .inl (k 0, 400, .inl f_5)), (q_2, .inl (k 0, 400, .inl f_6))] := hD
  refine lv_iload_n hx hb dX5_turnBits_5 rfl (lv_at hl 2 rfl) ?_
  refine lv_ixor hx hb dX5_turnBits_6 ?_
  refine lv_topi (fun y2 ey2 => ?_)
  refine lv_istore_n (lv' := [(3, .int y2), (0, .ref q_0), (1, .int x_0), (2, .int x_1)]) hx hb dX5_turnBits_7 rfl hl (by decide) rfl (fun ls hl => ?_)
  refine lv_aload_n hx hb dX5_turnBits_8 rfl (lv_at hl 1 rfl) ?_
  refine va_get (D := D) (ci := 5) (v := .ref q_2) (C := RX5) (T := TX5) (N := 15) hx hb hts inX5 hown hK hP 0 rfl rfl 4 (by decide) (hts _ kF_X5_21) (fun _ h9 => h9) rfl dX5_turnBits_9 ?_
  refine lv_iload_n hx hb dX5_turnBits_12 rfl (lv_at hl 2 rfl) ?_
  refine lv_iload_n hx hb dX5_turnBits_13 rfl (lv_at hl 0 rfl) ?_
  refine lv_bipush (v := 26) hx hb dX5_turnBits_14 (by decide) ?_
  refine lv_irem hx hb dX5_turnBits_16 (by decide) ?_
  refine lv_topi (fun y3 ey3 => ?_)
  refine va_iast hx hb hK hP hD hS 2 0 rfl rfl (by revert h_x_0; first | omega | (simp only [vp_in_iff, Int32.lt_iff_toInt_lt, Int32.le_iff_toInt_le, Int64.lt_iff_toInt_lt, Int64.le_iff_toInt_le, Int32.toInt_toInt64, ← Int32.toInt_inj, ← Int64.toInt_inj, Int32.reduceToInt, Int64.reduceToInt] <;> omega)) dX5_turnBits_17 (fun H locs hP hD hS => ?_)
  obtain ⟨F4, eF4⟩ : ∃ q, q = upd f_6 (Int32.toNatClampNeg x_0) y3 := ⟨_, rfl⟩
  have hP : va_P D vwCl [(q_0, .inr (5, [.int x_2, .ref q_3, .ref q_4, .ref q_5, .ref q_2, .ref q_1, .ref q_6, .ref q_7, .ref q_8, .ref q_9, .ref q_10, .ref q_11, .ref q_12, .int x_3, .int x_4])), (q_1, .inl (k 0, 400, .inl f_5)), (q_2, .inl (k 0, 400, .inl F4))] H := by rw [eF4]; exact hP
  have hD : va_D A [(q_0, .inr (5, [.int x_2, .ref q_3, .ref q_4, .ref q_5, .ref q_2, .ref q_1, .ref q_6, .ref q_7, .ref q_8, .ref q_9, .ref q_10, .ref q_11, .ref q_12, .int x_3, .int x_4])), (q_1, .inl (k 0, 400, .inl f_5)), (q_2, .inl (k 0, 400, .inl F4))] := by rw [eF4]; exact hD
  refine lv_aload_n hx hb dX5_turnBits_18 rfl (lv_at hl 1 rfl) ?_
  refine va_get (D := D) (ci := 5) (v := .ref q_1) (C := RX5) (T := TX5) (N := 15) hx hb hts inX5 hown hK hP 0 rfl rfl 5 (by decide) (hts _ kF_X5_24) (fun _ h9 => h9) rfl dX5_turnBits_19 ?_
  refine lv_iload_n hx hb dX5_turnBits_22 rfl (lv_at hl 2 rfl) ?_
  refine lv_iload_n hx hb dX5_turnBits_23 rfl (lv_at hl 0 rfl) ?_
  refine lv_bipush (v := 26) hx hb dX5_turnBits_24 (by decide) ?_
  refine lv_idiv hx hb dX5_turnBits_26 (by decide) ?_
  refine lv_topi (fun y5 ey5 => ?_)
  refine va_iast hx hb hK hP hD hS 1 0 rfl rfl (by revert h_x_0; first | omega | (simp only [vp_in_iff, Int32.lt_iff_toInt_lt, Int32.le_iff_toInt_le, Int64.lt_iff_toInt_lt, Int64.le_iff_toInt_le, Int32.toInt_toInt64, ← Int32.toInt_inj, ← Int64.toInt_inj, Int32.reduceToInt, Int64.reduceToInt] <;> omega)) dX5_turnBits_27 (fun H locs hP hD hS => ?_)
  obtain ⟨F6, eF6⟩ : ∃ q, q = upd f_5 (Int32.toNatClampNeg x_0) y5 := ⟨_, rfl⟩
  have hP : va_P D vwCl [(q_0, .inr (5, [.int x_2, .ref q_3, .ref q_4, .ref q_5, .ref q_2, .ref q_1, .ref q_6, .ref q_7, .ref q_8, .ref q_9, .ref q_10, .ref q_11, .ref q_12, .int x_3, .int x_4])), (q_1, .inl (k 0, 400, .inl F6)), (q_2, .inl (k 0, 400, .inl F4))] H := by rw [eF6]; exact hP
  have hD : va_D A [(q_0, .inr (5, [.int x_2, .ref q_3, .ref q_4, .ref q_5, .ref q_2, .ref q_1, .ref q_6, .ref q_7, .ref q_8, .ref q_9, .ref q_10, .ref q_11, .ref q_12, .int x_3, .int x_4])), (q_1, .inl (k 0, 400, .inl F6)), (q_2, .inl (k 0, 400, .inl F4))] := by rw [eF6]; exact hD
  refine lv_iload_n hx hb dX5_turnBits_28 rfl (lv_at hl 0 rfl) ?_
  exact z_iret C0 hr hlk rfl hK hP hD hS (0, fun _ => 0, fun _ => 0, fun _ => 0, fun i => [F6, F4].getD i (fun _ => 0), fun _ => (fun _ => 0), fun _ => (fun _ => none)) rfl [0, 1, 2] rfl rfl rfl dX5_turnBits_29

set_option maxHeartbeats 4000000 in
set_option maxRecDepth 100000 in
theorem s_X11_alter_1 (l : Launch) (D : va_G) (k : Nat → ClassId) (T : zTy) (q_0 : Nat) (q_1 : Nat) (q_2 : Nat) (q_3 : Nat) (q_4 : Nat) (q_5 : Nat) (q_6 : Nat) (q_7 : Nat) (q_8 : Nat) (q_9 : Nat) (q_10 : Nat) (q_11 : Nat) (q_12 : Nat) (q_13 : Nat) (q_14 : Nat) (q_15 : Nat) (q_16 : Nat) (q_17 : Nat) (q_18 : Nat) (q_19 : Nat) (q_20 : Nat) (q_21 : Nat) (q_22 : Nat) (q_23 : Nat) (x_0 : Int32) (x_1 : Int32) (x_2 : Int32) (x_3 : Int32) (x_4 : Int32) (x_5 : Int32) (f_6 : Nat → Int32) (f_7 : Nat → Int32) (h_x_3 : 0 ≤ Int32.toInt x_3 ∧ Int32.toInt x_3 ≤ 400) : zMi l yX11_alter cX11_alter 3 (some .int) ({ frames := 2, cells := 0, slots := 0, locals := 44 }) D k T [.ref q_0, .int x_0, .int x_1] [(q_0, .inr (11, [.ref q_1, .ref q_5, .ref q_6, .ref q_7, .ref q_8, .int x_2])), (q_1, .inr (3, [.ref q_9, .ref q_10, .ref q_2, .ref q_11, .ref q_12, .ref q_13])), (q_2, .inr (5, [.int x_3, .ref q_14, .ref q_15, .ref q_16, .ref q_4, .ref q_3, .ref q_17, .ref q_18, .ref q_19, .ref q_20, .ref q_21, .ref q_22, .ref q_23, .int x_4, .int x_5])), (q_3, .inl (k 0, 400, .inl f_6)), (q_4, .inl (k 0, 400, .inl f_7))] (fun r u => u.1 = 0) (fun u => [(q_0, .inr (11, [.ref q_1, .ref q_5, .ref q_6, .ref q_7, .ref q_8, .int (u.2.2.1 0)])), (q_1, .inr (3, [.ref q_9, .ref q_10, .ref q_2, .ref q_11, .ref q_12, .ref q_13])), (q_2, .inr (5, [.int x_3, .ref q_14, .ref q_15, .ref q_16, .ref q_4, .ref q_3, .ref q_17, .ref q_18, .ref q_19, .ref q_20, .ref q_21, .ref q_22, .ref q_23, .int x_4, .int x_5])), (q_3, .inl (k 0, 400, .inl (u.2.2.2.2.1 0))), (q_4, .inl (k 0, 400, .inl (u.2.2.2.2.1 1)))]) := by
  refine zMi_of (own := RX11) (by decide +kernel) rfl (Nat.le_of_ble_eq_true rfl) ?_
  intro p e s m args below meth c A ls C0 hr hlk hin hP hD hS hA hK hN hT hl
  have hx := C0.1
  have hb := C0.2.1
  have hml := C0.2.2.1
  have hown := C0.2.2.2.1
  have hts := C0.2.2.2.2
  have hl : lv_has ls 3 [(0, .ref q_0), (1, .int x_0), (2, .int x_1)] := hl
  have hP : va_P D vwCl [(q_0, .inr (11, [.ref q_1, .ref q_5, .ref q_6, .ref q_7, .ref q_8, .int x_2])), (q_1, .inr (3, [.ref q_9, .ref q_10, .ref q_2, .ref q_11, .ref q_12, .ref q_13])), (q_2, .inr (5, [.int x_3, .ref q_14, .ref q_15, .ref q_16, .ref q_4, .ref q_3, .ref q_17, .ref q_18, .ref q_19, .ref q_20, .ref q_21, .ref q_22, .ref q_23, .int x_4, .int x_5])), (q_3, .inl (k 0, 400, .inl f_6)), (q_4, .inl (k 0, 400, .inl f_7))] s.heap := hP
  refine lv_iload_n hx hb dX11_alter_0 rfl (lv_at hl 2 rfl) ?_
  refine lv_iconst (v := 1) hx hb dX11_alter_1 (by decide) ?_
  refine lv_bipush (v := 7) hx hb dX11_alter_2 (by decide) ?_
  refine z_bi0 (z_runS (As := [.int x_1, .int 1, .int 7]) (rest := []) C0 (s_X11_isOutside_1 l D k T x_1 1 7 _) okS_X11_isOutside kM_X11_47 rfl (z_p0 hT hS hA hK hN) rfl hl.1 rfl (Nat.le_of_ble_eq_true rfl) dX11_alter_4 rfl) hP hS hA (fun r1 u1 H locs hw1 hP hS => ?_)
  obtain ⟨i1, a1, v1, w1, f1, g1, o1⟩ := u1
  dsimp only at hw1
  rcases hw1 with ⟨rfl, rfl, c1⟩ | ⟨rfl, rfl, c1⟩
  · refine lv_if_eq (tgt := 16) hx hb dX11_alter_7 (by decide) (fun c2 => absurd c2 (by decide)) (fun _ => ?_)
    refine lv_aload_n hx hb dX11_alter_10 rfl (lv_at hl 0 rfl) ?_
    refine lv_iconst (v := (-1)) hx hb dX11_alter_11 (by decide) ?_
    refine z_bi (wr := [(q_1, .inr (3, [.ref q_9, .ref q_10, .ref q_2, .ref q_11, .ref q_12, .ref q_13])), (q_2, .inr (5, [.int x_3, .ref q_14, .ref q_15, .ref q_16, .ref q_4, .ref q_3, .ref q_17, .ref q_18, .ref q_19, .ref q_20, .ref q_21, .ref q_22, .ref q_23, .int x_4, .int x_5])), (q_3, .inl (k 0, 400, .inl f_6)), (q_4, .inl (k 0, 400, .inl f_7))]) (z_runV (C := RX11) (As := [.int (-1)]) (rest := []) C0 (s_X11_answer_1 l D k T q_0 q_1 q_5 q_6 q_7 q_8 (-1) x_2 _) okV_X11_answer kM_X11_55 rfl (z_pV (q0 := 0) hT hS hA hK hN hP hD [0] rfl rfl rfl rfl rfl) rfl hl.1 rfl (Nat.le_of_ble_eq_true rfl) dX11_alter_12 rfl) hP hD hS hA [0] [1, 2, 3, 4] rfl rfl rfl rfl (fun r3 u3 H locs hw3 hP hD hS => ?_)
    obtain ⟨i3, a3, v3, w3, f3, g3, o3⟩ := u3
    dsimp only at hw3
    obtain ⟨rfl, hw3⟩ := hw3
    have hw3 := hw3.symm
    subst hw3
    have hP : va_P D vwCl [(q_1, .inr (3, [.ref q_9, .ref q_10, .ref q_2, .ref q_11, .ref q_12, .ref q_13])), (q_2, .inr (5, [.int x_3, .ref q_14, .ref q_15, .ref q_16, .ref q_4, .ref q_3, .ref q_17, .ref q_18, .ref q_19, .ref q_20, .ref q_21, .ref q_22, .ref q_23, .int x_4, .int x_5])), (q_3, .inl (k 0, 400, .inl f_6)), (q_4, .inl (k 0, 400, .inl f_7)), (q_0, .inr (11, [.ref q_1, .ref q_5, .ref q_6, .ref q_7, .ref q_8, .int (v3 0)]))] H := hP
    have hD : va_D A [(q_1, .inr (3, [.ref q_9, .ref q_10, .ref q_2, .ref q_11, .ref q_12, .ref q_13])), (q_2, .inr (5, [.int x_3, .ref q_14, .ref q_15, .ref q_16, .ref q_4, .ref q_3, .ref q_17, .ref q_18, .ref q_19, .ref q_20, .ref q_21, .ref q_22, .ref q_23, .int x_4, .int x_5])), (q_3, .inl (k 0, 400, .inl f_6)), (q_4, .inl (k 0, 400, .inl f_7)), (q_0, .inr (11, [.ref q_1, .ref q_5, .ref q_6, .ref q_7, .ref q_8, .int (v3 0)]))] := hD
    exact z_iret C0 hr hlk rfl hK hP hD hS (0, fun _ => 0, fun i => [(v3 0)].getD i 0, fun _ => 0, fun i => [f_6, f_7].getD i (fun _ => 0), fun _ => (fun _ => 0), fun _ => (fun _ => none)) rfl [4, 0, 1, 2, 3] rfl rfl rfl dX11_alter_15
  · refine lv_if_eq (tgt := 16) hx hb dX11_alter_7 (by decide) (fun _ => ?_) (fun c4 => absurd (by decide) c4)
    refine lv_aload_n hx hb dX11_alter_16 rfl (lv_at hl 0 rfl) ?_
    refine va_get (D := D) (ci := 11) (v := .ref q_1) (C := RX11) (T := TX11) (N := 6) hx hb hts inX11 hown hK hP 0 rfl rfl 0 (by decide) (hts _ kF_X11_12) (fun _ h9 => h9) rfl dX11_alter_17 ?_
    refine va_get (D := D) (ci := 3) (v := .ref q_2) (C := RX3) (T := TX3) (N := 6) hx hb hts inX3 hown hK hP 1 rfl rfl 2 (by decide) (hts _ kF_X11_137) (fun _ h9 => h9) rfl dX11_alter_20 ?_
    refine lv_iload_n hx hb dX11_alter_23 rfl (lv_at hl 1 rfl) ?_
    refine z_bi (wr := [(q_0, .inr (11, [.ref q_1, .ref q_5, .ref q_6, .ref q_7, .ref q_8, .int x_2])), (q_1, .inr (3, [.ref q_9, .ref q_10, .ref q_2, .ref q_11, .ref q_12, .ref q_13])), (q_3, .inl (k 0, 400, .inl f_6)), (q_4, .inl (k 0, 400, .inl f_7))]) (z_runV (C := RX5) (As := [.int x_0]) (rest := []) C0 (s_X5_isNoMark_1 l D k T q_2 q_14 q_15 q_16 q_4 q_3 q_17 q_18 q_19 q_20 q_21 q_22 q_23 x_0 x_3 x_4 x_5 (by revert h_x_3; first | omega | (simp only [vp_in_iff, Int32.lt_iff_toInt_lt, Int32.le_iff_toInt_le, Int64.lt_iff_toInt_lt, Int64.le_iff_toInt_le, Int32.toInt_toInt64, ← Int32.toInt_inj, ← Int64.toInt_inj, Int32.reduceToInt, Int64.reduceToInt] <;> omega)) _) okV_X5_isNoMark kM_X11_149 rfl (z_pV (q0 := 2) hT hS hA hK hN hP hD [2] rfl rfl rfl rfl rfl) rfl hl.1 rfl (Nat.le_of_ble_eq_true rfl) dX11_alter_24 rfl) hP hD hS hA [2] [0, 1, 3, 4] rfl rfl rfl rfl (fun r5 u5 H locs hw5 hP hD hS => ?_)
    obtain ⟨i5, a5, v5, w5, f5, g5, o5⟩ := u5
    dsimp only at hw5
    rcases hw5 with ⟨rfl, rfl, c5⟩ | ⟨rfl, rfl, hq5_0, c5⟩
    · have hP : va_P D vwCl [(q_0, .inr (11, [.ref q_1, .ref q_5, .ref q_6, .ref q_7, .ref q_8, .int x_2])), (q_1, .inr (3, [.ref q_9, .ref q_10, .ref q_2, .ref q_11, .ref q_12, .ref q_13])), (q_3, .inl (k 0, 400, .inl f_6)), (q_4, .inl (k 0, 400, .inl f_7)), (q_2, .inr (5, [.int x_3, .ref q_14, .ref q_15, .ref q_16, .ref q_4, .ref q_3, .ref q_17, .ref q_18, .ref q_19, .ref q_20, .ref q_21, .ref q_22, .ref q_23, .int x_4, .int x_5]))] H := hP
      have hD : va_D A [(q_0, .inr (11, [.ref q_1, .ref q_5, .ref q_6, .ref q_7, .ref q_8, .int x_2])), (q_1, .inr (3, [.ref q_9, .ref q_10, .ref q_2, .ref q_11, .ref q_12, .ref q_13])), (q_3, .inl (k 0, 400, .inl f_6)), (q_4, .inl (k 0, 400, .inl f_7)), (q_2, .inr (5, [.int x_3, .ref q_14, .ref q_15, .ref q_16, .ref q_4, .ref q_3, .ref q_17, .ref q_18, .ref q_19, .ref q_20, .ref q_21, .ref q_22, .ref q_23, .int x_4, .int x_5]))] := hD
      refine lv_if_eq (tgt := 37) hx hb dX11_alter_27 (by decide) (fun c6 => absurd c6 (by decide)) (fun _ => ?_)
      refine lv_aload_n hx hb dX11_alter_30 rfl (lv_at hl 0 rfl) ?_
      refine lv_bipush (v := (-2)) hx hb dX11_alter_31 (by decide) ?_
      refine z_bi (wr := [(q_1, .inr (3, [.ref q_9, .ref q_10, .ref q_2, .ref q_11, .ref q_12, .ref q_13])), (q_3, .inl (k 0, 400, .inl f_6)), (q_4, .inl (k 0, 400, .inl f_7)), (q_2, .inr (5, [.int x_3, .ref q_14, .ref q_15, .ref q_16, .ref q_4, .ref q_3, .ref q_17, .ref q_18, .ref q_19, .ref q_20, .ref q_21, .ref q_22, .ref q_23, .int x_4, .int x_5]))]) (z_runV (C := RX11) (As := [.int (-2)]) (rest := []) C0 (s_X11_answer_1 l D k T q_0 q_1 q_5 q_6 q_7 q_8 (-2) x_2 _) okV_X11_answer kM_X11_55 rfl (z_pV (q0 := 0) hT hS hA hK hN hP hD [0] rfl rfl rfl rfl rfl) rfl hl.1 rfl (Nat.le_of_ble_eq_true rfl) dX11_alter_33 rfl) hP hD hS hA [0] [1, 2, 3, 4] rfl rfl rfl rfl (fun r7 u7 H locs hw7 hP hD hS => ?_)
      obtain ⟨i7, a7, v7, w7, f7, g7, o7⟩ := u7
      dsimp only at hw7
      obtain ⟨rfl, hw7⟩ := hw7
      have hw7 := hw7.symm
      subst hw7
      have hP : va_P D vwCl [(q_1, .inr (3, [.ref q_9, .ref q_10, .ref q_2, .ref q_11, .ref q_12, .ref q_13])), (q_3, .inl (k 0, 400, .inl f_6)), (q_4, .inl (k 0, 400, .inl f_7)), (q_2, .inr (5, [.int x_3, .ref q_14, .ref q_15, .ref q_16, .ref q_4, .ref q_3, .ref q_17, .ref q_18, .ref q_19, .ref q_20, .ref q_21, .ref q_22, .ref q_23, .int x_4, .int x_5])), (q_0, .inr (11, [.ref q_1, .ref q_5, .ref q_6, .ref q_7, .ref q_8, .int (v7 0)]))] H := hP
      have hD : va_D A [(q_1, .inr (3, [.ref q_9, .ref q_10, .ref q_2, .ref q_11, .ref q_12, .ref q_13])), (q_3, .inl (k 0, 400, .inl f_6)), (q_4, .inl (k 0, 400, .inl f_7)), (q_2, .inr (5, [.int x_3, .ref q_14, .ref q_15, .ref q_16, .ref q_4, .ref q_3, .ref q_17, .ref q_18, .ref q_19, .ref q_20, .ref q_21, .ref q_22, .ref q_23, .int x_4, .int x_5])), (q_0, .inr (11, [.ref q_1, .ref q_5, .ref q_6, .ref q_7, .ref q_8, .int (v7 0)]))] := hD
      exact z_iret C0 hr hlk rfl hK hP hD hS (0, fun _ => 0, fun i => [(v7 0)].getD i 0, fun _ => 0, fun i => [f_6, f_7].getD i (fun _ => 0), fun _ => (fun _ => 0), fun _ => (fun _ => none)) rfl [4, 0, 3, 1, 2] rfl rfl rfl dX11_alter_36
    · have hP : va_P D vwCl [(q_0, .inr (11, [.ref q_1, .ref q_5, .ref q_6, .ref q_7, .ref q_8, .int x_2])), (q_1, .inr (3, [.ref q_9, .ref q_10, .ref q_2, .ref q_11, .ref q_12, .ref q_13])), (q_3, .inl (k 0, 400, .inl f_6)), (q_4, .inl (k 0, 400, .inl f_7)), (q_2, .inr (5, [.int x_3, .ref q_14, .ref q_15, .ref q_16, .ref q_4, .ref q_3, .ref q_17, .ref q_18, .ref q_19, .ref q_20, .ref q_21, .ref q_22, .ref q_23, .int x_4, .int x_5]))] H := hP
      have hD : va_D A [(q_0, .inr (11, [.ref q_1, .ref q_5, .ref q_6, .ref q_7, .ref q_8, .int x_2])), (q_1, .inr (3, [.ref q_9, .ref q_10, .ref q_2, .ref q_11, .ref q_12, .ref q_13])), (q_3, .inl (k 0, 400, .inl f_6)), (q_4, .inl (k 0, 400, .inl f_7)), (q_2, .inr (5, [.int x_3, .ref q_14, .ref q_15, .ref q_16, .ref q_4, .ref q_3, .ref q_17, .ref q_18, .ref q_19, .ref q_20, .ref q_21, .ref q_22, .ref q_23, .int x_4, .int x_5]))] := hD
      refine lv_if_eq (tgt := 37) hx hb dX11_alter_27 (by decide) (fun _ => ?_) (fun c8 => absurd (by decide) c8)
      refine lv_aload_n hx hb dX11_alter_37 rfl (lv_at hl 0 rfl) ?_
      refine lv_aload_n hx hb dX11_alter_38 rfl (lv_at hl 0 rfl) ?_
      refine va_get (D := D) (ci := 11) (v := .ref q_1) (C := RX11) (T := TX11) (N := 6) hx hb hts inX11 hown hK hP 0 rfl rfl 0 (by decide) (hts _ kF_X11_12) (fun _ h9 => h9) rfl dX11_alter_39 ?_
      refine va_get (D := D) (ci := 3) (v := .ref q_2) (C := RX3) (T := TX3) (N := 6) hx hb hts inX3 hown hK hP 1 rfl rfl 2 (by decide) (hts _ kF_X11_137) (fun _ h9 => h9) rfl dX11_alter_42 ?_
      refine lv_iload_n hx hb dX11_alter_45 rfl (lv_at hl 1 rfl) ?_
      refine lv_iload_n hx hb dX11_alter_46 rfl (lv_at hl 2 rfl) ?_
      refine z_bi (wr := [(q_0, .inr (11, [.ref q_1, .ref q_5, .ref q_6, .ref q_7, .ref q_8, .int x_2])), (q_1, .inr (3, [.ref q_9, .ref q_10, .ref q_2, .ref q_11, .ref q_12, .ref q_13]))]) (z_runV (C := RX5) (As := [.int x_0, .int x_1]) (rest := [.ref q_0]) C0 (s_X5_turnBits_1 l D k T q_2 q_3 q_4 q_14 q_15 q_16 q_17 q_18 q_19 q_20 q_21 q_22 q_23 x_0 x_1 x_3 x_4 x_5 f_6 f_7 (by revert hq5_0 c5 h_x_3; first | omega | (simp only [vp_in_iff, Int32.lt_iff_toInt_lt, Int32.le_iff_toInt_le, Int64.lt_iff_toInt_lt, Int64.le_iff_toInt_le, Int32.toInt_toInt64, ← Int32.toInt_inj, ← Int64.toInt_inj, Int32.reduceToInt, Int64.reduceToInt] <;> omega)) (by revert c1; first | omega | (simp only [vp_in_iff, Int32.lt_iff_toInt_lt, Int32.le_iff_toInt_le, Int64.lt_iff_toInt_lt, Int64.le_iff_toInt_le, Int32.toInt_toInt64, ← Int32.toInt_inj, ← Int64.toInt_inj, Int32.reduceToInt, Int64.reduceToInt] <;> omega)) (by revert h_x_3 c5 hq5_0; first | omega | (simp only [vp_in_iff, Int32.lt_iff_toInt_lt, Int32.le_iff_toInt_le, Int64.lt_iff_toInt_lt, Int64.le_iff_toInt_le, Int32.toInt_toInt64, ← Int32.toInt_inj, ← Int64.toInt_inj, Int32.reduceToInt, Int64.reduceToInt] <;> omega)) _) okV_X5_turnBits kM_X11_374 rfl (z_pV (q0 := 4) hT hS hA hK hN hP hD [4, 2, 3] rfl rfl rfl rfl rfl) rfl hl.1 rfl (Nat.le_of_ble_eq_true rfl) dX11_alter_47 rfl) hP hD hS hA [4, 2, 3] [0, 1] rfl rfl rfl rfl (fun r9 u9 H locs hw9 hP hD hS => ?_)
      obtain ⟨i9, a9, v9, w9, f9, g9, o9⟩ := u9
      dsimp only at hw9
      obtain rfl := hw9
      have hP : va_P D vwCl [(q_0, .inr (11, [.ref q_1, .ref q_5, .ref q_6, .ref q_7, .ref q_8, .int x_2])), (q_1, .inr (3, [.ref q_9, .ref q_10, .ref q_2, .ref q_11, .ref q_12, .ref q_13])), (q_2, .inr (5, [.int x_3, .ref q_14, .ref q_15, .ref q_16, .ref q_4, .ref q_3, .ref q_17, .ref q_18, .ref q_19, .ref q_20, .ref q_21, .ref q_22, .ref q_23, .int x_4, .int x_5])), (q_3, .inl (k 0, 400, .inl (f9 0))), (q_4, .inl (k 0, 400, .inl (f9 1)))] H := hP
      have hD : va_D A [(q_0, .inr (11, [.ref q_1, .ref q_5, .ref q_6, .ref q_7, .ref q_8, .int x_2])), (q_1, .inr (3, [.ref q_9, .ref q_10, .ref q_2, .ref q_11, .ref q_12, .ref q_13])), (q_2, .inr (5, [.int x_3, .ref q_14, .ref q_15, .ref q_16, .ref q_4, .ref q_3, .ref q_17, .ref q_18, .ref q_19, .ref q_20, .ref q_21, .ref q_22, .ref q_23, .int x_4, .int x_5])), (q_3, .inl (k 0, 400, .inl (f9 0))), (q_4, .inl (k 0, 400, .inl (f9 1)))] := hD
      refine z_bi (wr := [(q_1, .inr (3, [.ref q_9, .ref q_10, .ref q_2, .ref q_11, .ref q_12, .ref q_13])), (q_2, .inr (5, [.int x_3, .ref q_14, .ref q_15, .ref q_16, .ref q_4, .ref q_3, .ref q_17, .ref q_18, .ref q_19, .ref q_20, .ref q_21, .ref q_22, .ref q_23, .int x_4, .int x_5])), (q_3, .inl (k 0, 400, .inl (f9 0))), (q_4, .inl (k 0, 400, .inl (f9 1)))]) (z_runV (C := RX11) (As := [.int r9]) (rest := []) C0 (s_X11_answer_1 l D k T q_0 q_1 q_5 q_6 q_7 q_8 r9 x_2 _) okV_X11_answer kM_X11_55 rfl (z_pV (q0 := 0) hT hS hA hK hN hP hD [0] rfl rfl rfl rfl rfl) rfl hl.1 rfl (Nat.le_of_ble_eq_true rfl) dX11_alter_50 rfl) hP hD hS hA [0] [1, 2, 3, 4] rfl rfl rfl rfl (fun r10 u10 H locs hw10 hP hD hS => ?_)
      obtain ⟨i10, a10, v10, w10, f10, g10, o10⟩ := u10
      dsimp only at hw10
      obtain ⟨rfl, hw10⟩ := hw10
      have hw10 := hw10.symm
      subst hw10
      have hP : va_P D vwCl [(q_1, .inr (3, [.ref q_9, .ref q_10, .ref q_2, .ref q_11, .ref q_12, .ref q_13])), (q_2, .inr (5, [.int x_3, .ref q_14, .ref q_15, .ref q_16, .ref q_4, .ref q_3, .ref q_17, .ref q_18, .ref q_19, .ref q_20, .ref q_21, .ref q_22, .ref q_23, .int x_4, .int x_5])), (q_3, .inl (k 0, 400, .inl (f9 0))), (q_4, .inl (k 0, 400, .inl (f9 1))), (q_0, .inr (11, [.ref q_1, .ref q_5, .ref q_6, .ref q_7, .ref q_8, .int (v10 0)]))] H := hP
      have hD : va_D A [(q_1, .inr (3, [.ref q_9, .ref q_10, .ref q_2, .ref q_11, .ref q_12, .ref q_13])), (q_2, .inr (5, [.int x_3, .ref q_14, .ref q_15, .ref q_16, .ref q_4, .ref q_3, .ref q_17, .ref q_18, .ref q_19, .ref q_20, .ref q_21, .ref q_22, .ref q_23, .int x_4, .int x_5])), (q_3, .inl (k 0, 400, .inl (f9 0))), (q_4, .inl (k 0, 400, .inl (f9 1))), (q_0, .inr (11, [.ref q_1, .ref q_5, .ref q_6, .ref q_7, .ref q_8, .int (v10 0)]))] := hD
      exact z_iret C0 hr hlk rfl hK hP hD hS (0, fun _ => 0, fun i => [(v10 0)].getD i 0, fun _ => 0, fun i => [(f9 0), (f9 1)].getD i (fun _ => 0), fun _ => (fun _ => 0), fun _ => (fun _ => none)) rfl [4, 0, 1, 2, 3] rfl rfl rfl dX11_alter_53

set_option maxHeartbeats 4000000 in
set_option maxRecDepth 100000 in
theorem s_X5_markAtPlace_1 (l : Launch) (D : va_G) (k : Nat → ClassId) (T : zTy) (q_0 : Nat) (q_1 : Nat) (q_2 : Nat) (q_3 : Nat) (q_4 : Nat) (q_5 : Nat) (q_6 : Nat) (q_7 : Nat) (q_8 : Nat) (q_9 : Nat) (q_10 : Nat) (q_11 : Nat) (q_12 : Nat) (x_0 : Int32) (x_1 : Int32) (x_2 : Int32) (x_3 : Int32) (x_4 : Int32) (f_5 : Nat → Int32) (h_x_2 : 0 ≤ Int32.toInt x_2 ∧ Int32.toInt x_2 ≤ 400) (h_f_5 : zR f_5 0 799) : zMi l yX5_markAtPlace cX5_markAtPlace 5 (some .int) ({ frames := 0, cells := 0, slots := 0, locals := 0 }) D k T [.ref q_0, .int x_0, .int x_1] [(q_0, .inr (5, [.int x_2, .ref q_2, .ref q_3, .ref q_1, .ref q_4, .ref q_5, .ref q_6, .ref q_7, .ref q_8, .ref q_9, .ref q_10, .ref q_11, .ref q_12, .int x_3, .int x_4])), (q_1, .inl (k 0, 400, .inl f_5))] (fun r u => u.1 = 0 ∧ ((-2) ≤ Int32.toInt r ∧ Int32.toInt r ≤ 399)) (fun u => [(q_0, .inr (5, [.int x_2, .ref q_2, .ref q_3, .ref q_1, .ref q_4, .ref q_5, .ref q_6, .ref q_7, .ref q_8, .ref q_9, .ref q_10, .ref q_11, .ref q_12, .int x_3, .int x_4])), (q_1, .inl (k 0, 400, .inl f_5))]) := by
  refine zMi_of (own := RX5) (by decide +kernel) rfl (Nat.le_of_ble_eq_true rfl) ?_
  intro p e s m args below meth c A ls C0 hr hlk hin hP hD hS hA hK hN hT hl
  have hx := C0.1
  have hb := C0.2.1
  have hml := C0.2.2.1
  have hown := C0.2.2.2.1
  have hts := C0.2.2.2.2
  have hl : lv_has ls 5 [(0, .ref q_0), (1, .int x_0), (2, .int x_1)] := hl
  have hP : va_P D vwCl [(q_0, .inr (5, [.int x_2, .ref q_2, .ref q_3, .ref q_1, .ref q_4, .ref q_5, .ref q_6, .ref q_7, .ref q_8, .ref q_9, .ref q_10, .ref q_11, .ref q_12, .int x_3, .int x_4])), (q_1, .inl (k 0, 400, .inl f_5))] s.heap := hP
  refine lv_iconst (v := 0) hx hb dX5_markAtPlace_0 (by decide) ?_
  refine lv_istore_n (lv' := [(3, .int 0), (0, .ref q_0), (1, .int x_0), (2, .int x_1)]) hx hb dX5_markAtPlace_1 rfl hl (by decide) rfl (fun ls hl => ?_)
  refine lv_iconst (v := 0) hx hb dX5_markAtPlace_2 (by decide) ?_
  refine lv_istore (lv' := [(4, .int 0), (3, .int 0), (0, .ref q_0), (1, .int x_0), (2, .int x_1)]) hx hb dX5_markAtPlace_3 hl (by decide) rfl (fun ls hl => ?_)
  have loop37 : ∀ (N38 : Nat) (y35 : Int32) (y36 : Int32) (H : Heap) (locs : List Loc) (ls : Array Slot), Int.toNat (400 - Int32.toInt y35) < N38 → 0 ≤ Int32.toInt y35 ∧ Int32.toInt y35 ≤ 400 → va_P D vwCl [(q_0, .inr (5, [.int x_2, .ref q_2, .ref q_3, .ref q_1, .ref q_4, .ref q_5, .ref q_6, .ref q_7, .ref q_8, .ref q_9, .ref q_10, .ref q_11, .ref q_12, .int x_3, .int x_4])), (q_1, .inl (k 0, 400, .inl f_5))] H → va_D A [(q_0, .inr (5, [.int x_2, .ref q_2, .ref q_3, .ref q_1, .ref q_4, .ref q_5, .ref q_6, .ref q_7, .ref q_8, .ref q_9, .ref q_10, .ref q_11, .ref q_12, .int x_3, .int x_4])), (q_1, .inl (k 0, 400, .inl f_5))] → va_S A s.heap H locs → lv_has ls 5 [(4, .int y35), (3, .int y36), (0, .ref q_0), (1, .int x_0), (2, .int x_1)] → W p l e { frames := 0, cells := 0, slots := 0, locals := 0 } s m args below meth c H locs 0 0 (MQ below (va_Qi (fun (r : Int32) (u : zS) => u.1 = 0 ∧ ((-2) ≤ Int32.toInt r ∧ Int32.toInt r ≤ 399)) (zB D k A (fun (u : zS) => [(q_0, .inr (5, [.int x_2, .ref q_2, .ref q_3, .ref q_1, .ref q_4, .ref q_5, .ref q_6, .ref q_7, .ref q_8, .ref q_9, .ref q_10, .ref q_11, .ref q_12, .int x_3, .int x_4])), (q_1, .inl (k 0, 400, .inl f_5))])) A) args s 0 0 A) (F0 m 5 ls []) := by
    intro N38
    induction N38 with
    | zero => intro y35 y36 H locs ls hm; exact absurd hm (Nat.not_lt_zero _)
    | succ N38 ihN38 =>
      intro y35 y36 H locs ls hN38 hy35 hP hD hS hl
      refine lv_iload hx hb dX5_markAtPlace_5 (lv_at hl 0 rfl) ?_
      refine lv_aload_n hx hb dX5_markAtPlace_7 rfl (lv_at hl 2 rfl) ?_
      refine va_get (D := D) (ci := 5) (v := .int x_2) (C := RX5) (T := TX5) (N := 15) hx hb hts inX5 hown hK hP 0 rfl rfl 0 (by decide) (hts _ kF_X5_54) (fun _ h9 => h9) rfl dX5_markAtPlace_8 ?_
      refine lv_icmp_ge (tgt := 44) hx hb dX5_markAtPlace_11 (by decide) (fun c39 => ?_) (fun c39 => ?_)
      · refine lv_bipush (v := (-2)) hx hb dX5_markAtPlace_44 (by decide) ?_
        exact z_iret C0 hr hlk rfl hK hP hD hS (0, fun _ => 0, fun _ => 0, fun _ => 0, fun _ => (fun _ => 0), fun _ => (fun _ => 0), fun _ => (fun _ => none)) ⟨rfl, (by decide)⟩ [0, 1] rfl rfl rfl dX5_markAtPlace_46
      · refine lv_aload_n hx hb dX5_markAtPlace_14 rfl (lv_at hl 2 rfl) ?_
        refine va_get (D := D) (ci := 5) (v := .ref q_1) (C := RX5) (T := TX5) (N := 15) hx hb hts inX5 hown hK hP 0 rfl rfl 3 (by decide) (hts _ kF_X5_18) (fun _ h9 => h9) rfl dX5_markAtPlace_15 ?_
        refine lv_iload hx hb dX5_markAtPlace_18 (lv_at hl 0 rfl) ?_
        refine va_iald hx hb hK hP 1 0 rfl rfl (by revert hN38 hy35 c39 h_x_2; first | omega | (simp only [vp_in_iff, Int32.lt_iff_toInt_lt, Int32.le_iff_toInt_le, Int64.lt_iff_toInt_lt, Int64.le_iff_toInt_le, Int32.toInt_toInt64, ← Int32.toInt_inj, ← Int64.toInt_inj, Int32.reduceToInt, Int64.reduceToInt] <;> omega)) dX5_markAtPlace_20 ?_
        refine lv_topi (fun y40 ey40 => ?_)
        have hy40 : 0 ≤ Int32.toInt y40 ∧ Int32.toInt y40 ≤ 799 := by rw [ey40]; exact h_f_5 _
        refine lv_iconst (v := 2) hx hb dX5_markAtPlace_21 (by decide) ?_
        refine lv_idiv hx hb dX5_markAtPlace_22 (by decide) ?_
        refine lv_topi (fun y41 ey41 => ?_)
        have hy41 : Int32.toInt y41 = Int32.toInt y40 / 2 := by rw [ey41]; exact zo_div 2 (show 0 ≤ Int32.toInt y40 by revert hy40; first | omega | (simp only [vp_in_iff, Int32.lt_iff_toInt_lt, Int32.le_iff_toInt_le, Int64.lt_iff_toInt_lt, Int64.le_iff_toInt_le, Int32.toInt_toInt64, ← Int32.toInt_inj, ← Int64.toInt_inj, Int32.reduceToInt, Int64.reduceToInt] <;> omega)) rfl (by decide)
        refine lv_iload_n hx hb dX5_markAtPlace_23 rfl (lv_at hl 3 rfl) ?_
        refine lv_icmp_ne (tgt := 38) hx hb dX5_markAtPlace_24 (by decide) (fun c42 => ?_) (fun c42 => ?_)
        · obtain ⟨y43, ey43⟩ : ∃ q : Int32, q = y35 + 1 := ⟨_, rfl⟩
          have hy43 : Int32.toInt y43 = Int32.toInt y35 + 1 := by rw [ey43]; exact zi_addc rfl (by decide) (by revert hN38 hy35 c39 h_x_2; first | omega | (simp only [vp_in_iff, Int32.lt_iff_toInt_lt, Int32.le_iff_toInt_le, Int64.lt_iff_toInt_lt, Int64.le_iff_toInt_le, Int32.toInt_toInt64, ← Int32.toInt_inj, ← Int64.toInt_inj, Int32.reduceToInt, Int64.reduceToInt] <;> omega))
          refine lv_iinc (v := y43) (lv' := [(4, .int y43), (3, .int y36), (0, .ref q_0), (1, .int x_0), (2, .int x_1)]) hx hb dX5_markAtPlace_38 hl (k := 0) rfl (by rw [ey43]; exact zz_inc (by decide)) (by decide) rfl (fun ls hl => ?_)
          refine lv_goto (tgt := 5) hx hb dX5_markAtPlace_41 (by decide) ?_
          exact ihN38 y43 y36 _ _ ls (by revert hN38 hy35 c39 hy43 h_x_2; first | omega | (simp only [vp_in_iff, Int32.lt_iff_toInt_lt, Int32.le_iff_toInt_le, Int64.lt_iff_toInt_lt, Int64.le_iff_toInt_le, Int32.toInt_toInt64, ← Int32.toInt_inj, ← Int64.toInt_inj, Int32.reduceToInt, Int64.reduceToInt] <;> omega)) (by revert hN38 hy35 c39 hy43 h_x_2; first | omega | (simp only [vp_in_iff, Int32.lt_iff_toInt_lt, Int32.le_iff_toInt_le, Int64.lt_iff_toInt_lt, Int64.le_iff_toInt_le, Int32.toInt_toInt64, ← Int32.toInt_inj, ← Int64.toInt_inj, Int32.reduceToInt, Int64.reduceToInt] <;> omega)) hP hD hS (lv_sub hl [0, 1, 2, 3, 4] rfl)
        · obtain ⟨y44, ey44⟩ : ∃ q : Int32, q = y36 + 1 := ⟨_, rfl⟩
          refine lv_iinc (v := y44) (lv' := [(3, .int y44), (4, .int y35), (0, .ref q_0), (1, .int x_0), (2, .int x_1)]) hx hb dX5_markAtPlace_27 hl (k := 1) rfl (by rw [ey44]; exact zz_inc (by decide)) (by decide) rfl (fun ls hl => ?_)
          refine lv_iload_n hx hb dX5_markAtPlace_30 rfl (lv_at hl 0 rfl) ?_
          refine lv_iload_n hx hb dX5_markAtPlace_31 rfl (lv_at hl 4 rfl) ?_
          refine lv_icmp_ne (tgt := 38) hx hb dX5_markAtPlace_32 (by decide) (fun c45 => ?_) (fun c45 => ?_)
          · obtain ⟨y46, ey46⟩ : ∃ q : Int32, q = y35 + 1 := ⟨_, rfl⟩
            have hy46 : Int32.toInt y46 = Int32.toInt y35 + 1 := by rw [ey46]; exact zi_addc rfl (by decide) (by revert hN38 hy35 c39 h_x_2; first | omega | (simp only [vp_in_iff, Int32.lt_iff_toInt_lt, Int32.le_iff_toInt_le, Int64.lt_iff_toInt_lt, Int64.le_iff_toInt_le, Int32.toInt_toInt64, ← Int32.toInt_inj, ← Int64.toInt_inj, Int32.reduceToInt, Int64.reduceToInt] <;> omega))
            refine lv_iinc (v := y46) (lv' := [(4, .int y46), (3, .int y44), (0, .ref q_0), (1, .int x_0), (2, .int x_1)]) hx hb dX5_markAtPlace_38 hl (k := 1) rfl (by rw [ey46]; exact zz_inc (by decide)) (by decide) rfl (fun ls hl => ?_)
            refine lv_goto (tgt := 5) hx hb dX5_markAtPlace_41 (by decide) ?_
            exact ihN38 y46 y44 _ _ ls (by revert hN38 hy35 c39 hy46 h_x_2; first | omega | (simp only [vp_in_iff, Int32.lt_iff_toInt_lt, Int32.le_iff_toInt_le, Int64.lt_iff_toInt_lt, Int64.le_iff_toInt_le, Int32.toInt_toInt64, ← Int32.toInt_inj, ← Int64.toInt_inj, Int32.reduceToInt, Int64.reduceToInt] <;> omega)) (by revert hN38 hy35 c39 hy46 h_x_2; first | omega | (simp only [vp_in_iff, Int32.lt_iff_toInt_lt, Int32.le_iff_toInt_le, Int64.lt_iff_toInt_lt, Int64.le_iff_toInt_le, Int32.toInt_toInt64, ← Int32.toInt_inj, ← Int64.toInt_inj, Int32.reduceToInt, Int64.reduceToInt] <;> omega)) hP hD hS (lv_sub hl [0, 1, 2, 3, 4] rfl)
          · refine lv_iload hx hb dX5_markAtPlace_35 (lv_at hl 1 rfl) ?_
            exact z_iret C0 hr hlk rfl hK hP hD hS (0, fun _ => 0, fun _ => 0, fun _ => 0, fun _ => (fun _ => 0), fun _ => (fun _ => 0), fun _ => (fun _ => none)) ⟨rfl, (by revert hN38 hy35 c39 h_x_2; first | omega | (simp only [vp_in_iff, Int32.lt_iff_toInt_lt, Int32.le_iff_toInt_le, Int64.lt_iff_toInt_lt, Int64.le_iff_toInt_le, Int32.toInt_toInt64, ← Int32.toInt_inj, ← Int64.toInt_inj, Int32.reduceToInt, Int64.reduceToInt] <;> omega))⟩ [0, 1] rfl rfl rfl dX5_markAtPlace_37
  exact loop37 _ 0 0 _ _ _ (Nat.lt_succ_self _) (by first | omega | (simp only [vp_in_iff, Int32.lt_iff_toInt_lt, Int32.le_iff_toInt_le, Int64.lt_iff_toInt_lt, Int64.le_iff_toInt_le, Int32.toInt_toInt64, ← Int32.toInt_inj, ← Int64.toInt_inj, Int32.reduceToInt, Int64.reduceToInt] <;> omega)) hP hD hS (lv_sub hl [0, 1, 2, 3, 4] rfl)

set_option maxHeartbeats 4000000 in
set_option maxRecDepth 100000 in
theorem s_X5_findAltered_1 (l : Launch) (D : va_G) (k : Nat → ClassId) (T : zTy) (q_0 : Nat) (q_1 : Nat) (q_2 : Nat) (q_3 : Nat) (q_4 : Nat) (q_5 : Nat) (q_6 : Nat) (q_7 : Nat) (q_8 : Nat) (q_9 : Nat) (q_10 : Nat) (q_11 : Nat) (q_12 : Nat) (x_0 : Int32) (x_1 : Int32) (x_2 : Int32) (x_3 : Int32) (f_4 : Nat → Int32) (f_5 : Nat → Int32) (f_6 : Nat → Int32) (f_7 : Nat → Int32) (f_8 : Nat → Int32) (f_9 : Nat → Int32) (h_x_0 : 0 ≤ Int32.toInt x_0 ∧ Int32.toInt x_0 ≤ 399) (h_x_1 : 0 ≤ Int32.toInt x_1 ∧ Int32.toInt x_1 ≤ 400) (h_f_5 : zR f_5 0 799) : zMi l yX5_findAltered cX5_findAltered 5 (some .int) ({ frames := 2, cells := 0, slots := 0, locals := 44 }) D k T [.ref q_0, .int x_0] [(q_0, .inr (5, [.int x_1, .ref q_7, .ref q_8, .ref q_2, .ref q_4, .ref q_3, .ref q_9, .ref q_10, .ref q_11, .ref q_12, .ref q_1, .ref q_5, .ref q_6, .int x_2, .int x_3])), (q_1, .inl (k 0, 400, .inl f_4)), (q_2, .inl (k 0, 400, .inl f_5)), (q_3, .inl (k 0, 400, .inl f_6)), (q_4, .inl (k 0, 400, .inl f_7)), (q_5, .inl (k 0, 400, .inl f_8)), (q_6, .inl (k 0, 400, .inl f_9))] (fun r u => u.1 = 0 ∧ ((-3) ≤ Int32.toInt r ∧ Int32.toInt r ≤ 399)) (fun u => [(q_0, .inr (5, [.int x_1, .ref q_7, .ref q_8, .ref q_2, .ref q_4, .ref q_3, .ref q_9, .ref q_10, .ref q_11, .ref q_12, .ref q_1, .ref q_5, .ref q_6, .int (u.2.2.1 0), .int (u.2.2.1 1)])), (q_1, .inl (k 0, 400, .inl f_4)), (q_2, .inl (k 0, 400, .inl f_5)), (q_3, .inl (k 0, 400, .inl f_6)), (q_4, .inl (k 0, 400, .inl f_7)), (q_5, .inl (k 0, 400, .inl f_8)), (q_6, .inl (k 0, 400, .inl f_9))]) := by
  refine zMi_of (own := RX5) (by decide +kernel) rfl (Nat.le_of_ble_eq_true rfl) ?_
  intro p e s m args below meth c A ls C0 hr hlk hin hP hD hS hA hK hN hT hl
  have hx := C0.1
  have hb := C0.2.1
  have hml := C0.2.2.1
  have hown := C0.2.2.2.1
  have hts := C0.2.2.2.2
  have hl : lv_has ls 5 [(0, .ref q_0), (1, .int x_0)] := hl
  have hP : va_P D vwCl [(q_0, .inr (5, [.int x_1, .ref q_7, .ref q_8, .ref q_2, .ref q_4, .ref q_3, .ref q_9, .ref q_10, .ref q_11, .ref q_12, .ref q_1, .ref q_5, .ref q_6, .int x_2, .int x_3])), (q_1, .inl (k 0, 400, .inl f_4)), (q_2, .inl (k 0, 400, .inl f_5)), (q_3, .inl (k 0, 400, .inl f_6)), (q_4, .inl (k 0, 400, .inl f_7)), (q_5, .inl (k 0, 400, .inl f_8)), (q_6, .inl (k 0, 400, .inl f_9))] s.heap := hP
  refine lv_aload_n hx hb dX5_findAltered_0 rfl (lv_at hl 0 rfl) ?_
  refine va_get (D := D) (ci := 5) (v := .ref q_1) (C := RX5) (T := TX5) (N := 15) hx hb hts inX5 hown hK hP 0 rfl rfl 10 (by decide) (hts _ kF_X5_39) (fun _ h9 => h9) rfl dX5_findAltered_1 ?_
  refine lv_iload_n hx hb dX5_findAltered_4 rfl (lv_at hl 1 rfl) ?_
  refine va_iald hx hb hK hP 1 0 rfl rfl (by revert h_x_0; first | omega | (simp only [vp_in_iff, Int32.lt_iff_toInt_lt, Int32.le_iff_toInt_le, Int64.lt_iff_toInt_lt, Int64.le_iff_toInt_le, Int32.toInt_toInt64, ← Int32.toInt_inj, ← Int64.toInt_inj, Int32.reduceToInt, Int64.reduceToInt] <;> omega)) dX5_findAltered_5 ?_
  refine lv_topi (fun y1 ey1 => ?_)
  refine lv_iconst (v := (-1)) hx hb dX5_findAltered_6 (by decide) ?_
  refine lv_icmp_ne (tgt := 13) hx hb dX5_findAltered_7 (by decide) (fun c2 => ?_) (fun c2 => ?_)
  · refine lv_aload_n hx hb dX5_findAltered_13 rfl (lv_at hl 0 rfl) ?_
    refine lv_iload_n hx hb dX5_findAltered_14 rfl (lv_at hl 1 rfl) ?_
    refine z_bi (wr := [(q_1, .inl (k 0, 400, .inl f_4)), (q_5, .inl (k 0, 400, .inl f_8)), (q_6, .inl (k 0, 400, .inl f_9))]) (z_runV (C := RX5) (As := [.int x_0]) (rest := []) C0 (s_X5_sumDay_1 l D k T q_0 q_2 q_3 q_4 q_7 q_8 q_9 q_10 q_11 q_12 q_1 q_5 q_6 x_0 x_1 x_2 x_3 f_5 f_6 f_7 (by revert h_x_1; first | omega | (simp only [vp_in_iff, Int32.lt_iff_toInt_lt, Int32.le_iff_toInt_le, Int64.lt_iff_toInt_lt, Int64.le_iff_toInt_le, Int32.toInt_toInt64, ← Int32.toInt_inj, ← Int64.toInt_inj, Int32.reduceToInt, Int64.reduceToInt] <;> omega)) h_f_5 _) okV_X5_sumDay kM_X5_66 rfl (z_pV (q0 := 0) hT hS hA hK hN hP hD [0, 2, 3, 4] rfl rfl rfl rfl rfl) rfl hl.1 rfl (Nat.le_of_ble_eq_true rfl) dX5_findAltered_15 rfl) hP hD hS hA [0, 2, 3, 4] [1, 5, 6] rfl rfl rfl rfl (fun r3 u3 H locs hw3 hP hD hS => ?_)
    obtain ⟨i3, a3, v3, w3, f3, g3, o3⟩ := u3
    dsimp only at hw3
    obtain rfl := hw3
    have hP : va_P D vwCl [(q_1, .inl (k 0, 400, .inl f_4)), (q_5, .inl (k 0, 400, .inl f_8)), (q_6, .inl (k 0, 400, .inl f_9)), (q_0, .inr (5, [.int x_1, .ref q_7, .ref q_8, .ref q_2, .ref q_4, .ref q_3, .ref q_9, .ref q_10, .ref q_11, .ref q_12, .ref q_1, .ref q_5, .ref q_6, .int (v3 0), .int (v3 1)])), (q_2, .inl (k 0, 400, .inl f_5)), (q_3, .inl (k 0, 400, .inl f_6)), (q_4, .inl (k 0, 400, .inl f_7))] H := hP
    have hD : va_D A [(q_1, .inl (k 0, 400, .inl f_4)), (q_5, .inl (k 0, 400, .inl f_8)), (q_6, .inl (k 0, 400, .inl f_9)), (q_0, .inr (5, [.int x_1, .ref q_7, .ref q_8, .ref q_2, .ref q_4, .ref q_3, .ref q_9, .ref q_10, .ref q_11, .ref q_12, .ref q_1, .ref q_5, .ref q_6, .int (v3 0), .int (v3 1)])), (q_2, .inl (k 0, 400, .inl f_5)), (q_3, .inl (k 0, 400, .inl f_6)), (q_4, .inl (k 0, 400, .inl f_7))] := hD
    refine lv_istore_n (lv' := [(2, .int r3), (0, .ref q_0), (1, .int x_0)]) hx hb dX5_findAltered_18 rfl hl (by decide) rfl (fun ls hl => ?_)
    refine lv_aload_n hx hb dX5_findAltered_19 rfl (lv_at hl 1 rfl) ?_
    refine va_get (D := D) (ci := 5) (v := .int (v3 0)) (C := RX5) (T := TX5) (N := 15) hx hb hts inX5 hown hK hP 3 rfl rfl 13 (by decide) (hts _ kF_X5_69) (fun _ h9 => h9) rfl dX5_findAltered_20 ?_
    refine lv_aload_n hx hb dX5_findAltered_23 rfl (lv_at hl 1 rfl) ?_
    refine va_get (D := D) (ci := 5) (v := .ref q_5) (C := RX5) (T := TX5) (N := 15) hx hb hts inX5 hown hK hP 3 rfl rfl 11 (by decide) (hts _ kF_X5_42) (fun _ h9 => h9) rfl dX5_findAltered_24 ?_
    refine lv_iload_n hx hb dX5_findAltered_27 rfl (lv_at hl 2 rfl) ?_
    refine va_iald hx hb hK hP 1 0 rfl rfl (by revert h_x_0; first | omega | (simp only [vp_in_iff, Int32.lt_iff_toInt_lt, Int32.le_iff_toInt_le, Int64.lt_iff_toInt_lt, Int64.le_iff_toInt_le, Int32.toInt_toInt64, ← Int32.toInt_inj, ← Int64.toInt_inj, Int32.reduceToInt, Int64.reduceToInt] <;> omega)) dX5_findAltered_28 ?_
    refine lv_topi (fun y4 ey4 => ?_)
    refine lv_isub hx hb dX5_findAltered_29 ?_
    refine lv_topi (fun y5 ey5 => ?_)
    refine lv_istore_n (lv' := [(3, .int y5), (2, .int r3), (0, .ref q_0), (1, .int x_0)]) hx hb dX5_findAltered_30 rfl hl (by decide) rfl (fun ls hl => ?_)
    refine lv_aload_n hx hb dX5_findAltered_31 rfl (lv_at hl 2 rfl) ?_
    refine va_get (D := D) (ci := 5) (v := .int (v3 1)) (C := RX5) (T := TX5) (N := 15) hx hb hts inX5 hown hK hP 3 rfl rfl 14 (by decide) (hts _ kF_X5_72) (fun _ h9 => h9) rfl dX5_findAltered_32 ?_
    refine lv_aload_n hx hb dX5_findAltered_35 rfl (lv_at hl 2 rfl) ?_
    refine va_get (D := D) (ci := 5) (v := .ref q_6) (C := RX5) (T := TX5) (N := 15) hx hb hts inX5 hown hK hP 3 rfl rfl 12 (by decide) (hts _ kF_X5_45) (fun _ h9 => h9) rfl dX5_findAltered_36 ?_
    refine lv_iload_n hx hb dX5_findAltered_39 rfl (lv_at hl 3 rfl) ?_
    refine va_iald hx hb hK hP 2 0 rfl rfl (by revert h_x_0; first | omega | (simp only [vp_in_iff, Int32.lt_iff_toInt_lt, Int32.le_iff_toInt_le, Int64.lt_iff_toInt_lt, Int64.le_iff_toInt_le, Int32.toInt_toInt64, ← Int32.toInt_inj, ← Int64.toInt_inj, Int32.reduceToInt, Int64.reduceToInt] <;> omega)) dX5_findAltered_40 ?_
    refine lv_topi (fun y6 ey6 => ?_)
    refine lv_isub hx hb dX5_findAltered_41 ?_
    refine lv_topi (fun y7 ey7 => ?_)
    refine lv_istore (lv' := [(4, .int y7), (3, .int y5), (2, .int r3), (0, .ref q_0), (1, .int x_0)]) hx hb dX5_findAltered_42 hl (by decide) rfl (fun ls hl => ?_)
    refine lv_iload_n hx hb dX5_findAltered_44 rfl (lv_at hl 1 rfl) ?_
    refine lv_if_ne (tgt := 55) hx hb dX5_findAltered_45 (by decide) (fun c8 => ?_) (fun c8 => ?_)
    · refine lv_iload_n hx hb dX5_findAltered_55 rfl (lv_at hl 2 rfl) ?_
      refine lv_aload_n hx hb dX5_findAltered_56 rfl (lv_at hl 3 rfl) ?_
      refine va_get (D := D) (ci := 5) (v := .ref q_1) (C := RX5) (T := TX5) (N := 15) hx hb hts inX5 hown hK hP 3 rfl rfl 10 (by decide) (hts _ kF_X5_39) (fun _ h9 => h9) rfl dX5_findAltered_57 ?_
      refine lv_iload_n hx hb dX5_findAltered_60 rfl (lv_at hl 4 rfl) ?_
      refine va_iald hx hb hK hP 0 0 rfl rfl (by revert h_x_0; first | omega | (simp only [vp_in_iff, Int32.lt_iff_toInt_lt, Int32.le_iff_toInt_le, Int64.lt_iff_toInt_lt, Int64.le_iff_toInt_le, Int32.toInt_toInt64, ← Int32.toInt_inj, ← Int64.toInt_inj, Int32.reduceToInt, Int64.reduceToInt] <;> omega)) dX5_findAltered_61 ?_
      refine lv_toc (v := y1) ey1.symm ?_
      refine lv_icmp_gt (tgt := 76) hx hb dX5_findAltered_62 (by decide) (fun c9 => ?_) (fun c9 => ?_)
      · refine lv_bipush (v := (-2)) hx hb dX5_findAltered_76 (by decide) ?_
        exact z_iret C0 hr hlk rfl hK hP hD hS (0, fun _ => 0, fun i => [(v3 0), (v3 1)].getD i 0, fun _ => 0, fun _ => (fun _ => 0), fun _ => (fun _ => 0), fun _ => (fun _ => none)) ⟨rfl, (by decide)⟩ [3, 0, 4, 5, 6, 1, 2] rfl rfl rfl dX5_findAltered_78
      · refine lv_iload_n hx hb dX5_findAltered_65 rfl (lv_at hl 1 rfl) ?_
        refine lv_if_eq (tgt := 76) hx hb dX5_findAltered_66 (by decide) (fun c10 => ?_) (fun c10 => ?_)
        · refine lv_bipush (v := (-2)) hx hb dX5_findAltered_76 (by decide) ?_
          exact z_iret C0 hr hlk rfl hK hP hD hS (0, fun _ => 0, fun i => [(v3 0), (v3 1)].getD i 0, fun _ => 0, fun _ => (fun _ => 0), fun _ => (fun _ => 0), fun _ => (fun _ => none)) ⟨rfl, (by decide)⟩ [3, 0, 4, 5, 6, 1, 2] rfl rfl rfl dX5_findAltered_78
        · refine lv_iload hx hb dX5_findAltered_69 (lv_at hl 0 rfl) ?_
          refine lv_iload_n hx hb dX5_findAltered_71 rfl (lv_at hl 1 rfl) ?_
          refine lv_irem hx hb dX5_findAltered_72 c8 ?_
          refine lv_topi (fun y11 ey11 => ?_)
          refine lv_if_eq (tgt := 79) hx hb dX5_findAltered_73 (by decide) (fun c12 => ?_) (fun c12 => ?_)
          · refine lv_aload_n hx hb dX5_findAltered_79 rfl (lv_at hl 3 rfl) ?_
            refine lv_iload_n hx hb dX5_findAltered_80 rfl (lv_at hl 4 rfl) ?_
            refine lv_iload hx hb dX5_findAltered_81 (lv_at hl 0 rfl) ?_
            refine lv_iload_n hx hb dX5_findAltered_83 rfl (lv_at hl 1 rfl) ?_
            refine lv_idiv hx hb dX5_findAltered_84 c8 ?_
            refine lv_topi (fun y13 ey13 => ?_)
            refine z_bi (wr := [(q_1, .inl (k 0, 400, .inl f_4)), (q_5, .inl (k 0, 400, .inl f_8)), (q_6, .inl (k 0, 400, .inl f_9)), (q_3, .inl (k 0, 400, .inl f_6)), (q_4, .inl (k 0, 400, .inl f_7))]) (z_runV (C := RX5) (As := [.int x_0, .int y13]) (rest := []) C0 (s_X5_markAtPlace_1 l D k T q_0 q_2 q_7 q_8 q_4 q_3 q_9 q_10 q_11 q_12 q_1 q_5 q_6 x_0 y13 x_1 (v3 0) (v3 1) f_5 (by revert h_x_1; first | omega | (simp only [vp_in_iff, Int32.lt_iff_toInt_lt, Int32.le_iff_toInt_le, Int64.lt_iff_toInt_lt, Int64.le_iff_toInt_le, Int32.toInt_toInt64, ← Int32.toInt_inj, ← Int64.toInt_inj, Int32.reduceToInt, Int64.reduceToInt] <;> omega)) h_f_5 _) okV_X5_markAtPlace kM_X5_75 rfl (z_pV (q0 := 3) hT hS hA hK hN hP hD [3, 4] rfl rfl rfl rfl rfl) rfl hl.1 rfl (Nat.le_of_ble_eq_true rfl) dX5_findAltered_85 rfl) hP hD hS hA [3, 4] [0, 1, 2, 5, 6] rfl rfl rfl rfl (fun r14 u14 H locs hw14 hP hD hS => ?_)
            obtain ⟨i14, a14, v14, w14, f14, g14, o14⟩ := u14
            dsimp only at hw14
            obtain ⟨rfl, hr14⟩ := hw14
            have hP : va_P D vwCl [(q_1, .inl (k 0, 400, .inl f_4)), (q_5, .inl (k 0, 400, .inl f_8)), (q_6, .inl (k 0, 400, .inl f_9)), (q_3, .inl (k 0, 400, .inl f_6)), (q_4, .inl (k 0, 400, .inl f_7)), (q_0, .inr (5, [.int x_1, .ref q_7, .ref q_8, .ref q_2, .ref q_4, .ref q_3, .ref q_9, .ref q_10, .ref q_11, .ref q_12, .ref q_1, .ref q_5, .ref q_6, .int (v3 0), .int (v3 1)])), (q_2, .inl (k 0, 400, .inl f_5))] H := hP
            have hD : va_D A [(q_1, .inl (k 0, 400, .inl f_4)), (q_5, .inl (k 0, 400, .inl f_8)), (q_6, .inl (k 0, 400, .inl f_9)), (q_3, .inl (k 0, 400, .inl f_6)), (q_4, .inl (k 0, 400, .inl f_7)), (q_0, .inr (5, [.int x_1, .ref q_7, .ref q_8, .ref q_2, .ref q_4, .ref q_3, .ref q_9, .ref q_10, .ref q_11, .ref q_12, .ref q_1, .ref q_5, .ref q_6, .int (v3 0), .int (v3 1)])), (q_2, .inl (k 0, 400, .inl f_5))] := hD
            exact z_iret C0 hr hlk rfl hK hP hD hS (0, fun _ => 0, fun i => [(v3 0), (v3 1)].getD i 0, fun _ => 0, fun _ => (fun _ => 0), fun _ => (fun _ => 0), fun _ => (fun _ => none)) ⟨rfl, (by revert hr14; first | omega | (simp only [vp_in_iff, Int32.lt_iff_toInt_lt, Int32.le_iff_toInt_le, Int64.lt_iff_toInt_lt, Int64.le_iff_toInt_le, Int32.toInt_toInt64, ← Int32.toInt_inj, ← Int64.toInt_inj, Int32.reduceToInt, Int64.reduceToInt] <;> omega))⟩ [5, 0, 6, 3, 4, 1, 2] rfl rfl rfl dX5_findAltered_88
          · refine lv_bipush (v := (-2)) hx hb dX5_findAltered_76 (by decide) ?_
            exact z_iret C0 hr hlk rfl hK hP hD hS (0, fun _ => 0, fun i => [(v3 0), (v3 1)].getD i 0, fun _ => 0, fun _ => (fun _ => 0), fun _ => (fun _ => 0), fun _ => (fun _ => none)) ⟨rfl, (by decide)⟩ [3, 0, 4, 5, 6, 1, 2] rfl rfl rfl dX5_findAltered_78
    · refine lv_iload hx hb dX5_findAltered_48 (lv_at hl 0 rfl) ?_
      refine lv_if_ne (tgt := 55) hx hb dX5_findAltered_50 (by decide) (fun c15 => ?_) (fun c15 => ?_)
      · refine lv_iload_n hx hb dX5_findAltered_55 rfl (lv_at hl 2 rfl) ?_
        refine lv_aload_n hx hb dX5_findAltered_56 rfl (lv_at hl 3 rfl) ?_
        refine va_get (D := D) (ci := 5) (v := .ref q_1) (C := RX5) (T := TX5) (N := 15) hx hb hts inX5 hown hK hP 3 rfl rfl 10 (by decide) (hts _ kF_X5_39) (fun _ h9 => h9) rfl dX5_findAltered_57 ?_
        refine lv_iload_n hx hb dX5_findAltered_60 rfl (lv_at hl 4 rfl) ?_
        refine va_iald hx hb hK hP 0 0 rfl rfl (by revert h_x_0; first | omega | (simp only [vp_in_iff, Int32.lt_iff_toInt_lt, Int32.le_iff_toInt_le, Int64.lt_iff_toInt_lt, Int64.le_iff_toInt_le, Int32.toInt_toInt64, ← Int32.toInt_inj, ← Int64.toInt_inj, Int32.reduceToInt, Int64.reduceToInt] <;> omega)) dX5_findAltered_61 ?_
        refine lv_toc (v := y1) ey1.symm ?_
        refine lv_icmp_gt (tgt := 76) hx hb dX5_findAltered_62 (by decide) (fun c16 => ?_) (fun c16 => ?_)
        · refine lv_bipush (v := (-2)) hx hb dX5_findAltered_76 (by decide) ?_
          exact z_iret C0 hr hlk rfl hK hP hD hS (0, fun _ => 0, fun i => [(v3 0), (v3 1)].getD i 0, fun _ => 0, fun _ => (fun _ => 0), fun _ => (fun _ => 0), fun _ => (fun _ => none)) ⟨rfl, (by decide)⟩ [3, 0, 4, 5, 6, 1, 2] rfl rfl rfl dX5_findAltered_78
        · refine lv_iload_n hx hb dX5_findAltered_65 rfl (lv_at hl 1 rfl) ?_
          refine lv_if_eq (tgt := 76) hx hb dX5_findAltered_66 (by decide) (fun c17 => ?_) (fun c17 => ?_)
          · refine lv_bipush (v := (-2)) hx hb dX5_findAltered_76 (by decide) ?_
            exact z_iret C0 hr hlk rfl hK hP hD hS (0, fun _ => 0, fun i => [(v3 0), (v3 1)].getD i 0, fun _ => 0, fun _ => (fun _ => 0), fun _ => (fun _ => 0), fun _ => (fun _ => none)) ⟨rfl, (by decide)⟩ [3, 0, 4, 5, 6, 1, 2] rfl rfl rfl dX5_findAltered_78
          · exact (show False by revert c8 c17; first | omega | (simp only [vp_in_iff, Int32.lt_iff_toInt_lt, Int32.le_iff_toInt_le, Int64.lt_iff_toInt_lt, Int64.le_iff_toInt_le, Int32.toInt_toInt64, ← Int32.toInt_inj, ← Int64.toInt_inj, Int32.reduceToInt, Int64.reduceToInt] <;> omega)).elim
      · refine lv_iconst (v := (-1)) hx hb dX5_findAltered_53 (by decide) ?_
        exact z_iret C0 hr hlk rfl hK hP hD hS (0, fun _ => 0, fun i => [(v3 0), (v3 1)].getD i 0, fun _ => 0, fun _ => (fun _ => 0), fun _ => (fun _ => 0), fun _ => (fun _ => none)) ⟨rfl, (by decide)⟩ [3, 0, 4, 5, 6, 1, 2] rfl rfl rfl dX5_findAltered_54
  · refine lv_bipush (v := (-3)) hx hb dX5_findAltered_10 (by decide) ?_
    exact z_iret C0 hr hlk rfl hK hP hD hS (0, fun _ => 0, fun i => [x_2, x_3].getD i 0, fun _ => 0, fun _ => (fun _ => 0), fun _ => (fun _ => 0), fun _ => (fun _ => none)) ⟨rfl, (by decide)⟩ [0, 1, 2, 3, 4, 5, 6] rfl rfl rfl dX5_findAltered_12
