set_option maxHeartbeats 4000000 in
set_option maxRecDepth 100000 in
theorem s_X5_numberOf_8 (l : Launch) (D : va_G) (k : Nat → ClassId) (T : zTy) (q_0 : Nat) (q_1 : Nat) (q_2 : Nat) (q_3 : Nat) (q_4 : Nat) (q_5 : Nat) (q_6 : Nat) (q_7 : Nat) (q_8 : Nat) (q_9 : Nat) (q_10 : Nat) (q_11 : Nat) (q_12 : Nat) (x_0 : Int32) (x_1 : Int32) (x_2 : Int32) (x_3 : Int32) (f_4 : Nat → Int32) (f_5 : Nat → Int32) (h_x_0 : 0 ≤ Int32.toInt x_0 ∧ Int32.toInt x_0 ≤ 399) (h_x_1 : 1 ≤ Int32.toInt x_1 ∧ Int32.toInt x_1 ≤ 400) : zMi l yX5_numberOf cX5_numberOf 2 (some .int) ({ frames := 0, cells := 0, slots := 0, locals := 0 }) D k T [.ref q_0, .int x_0] [(q_0, .inr (5, [.int x_1, .ref q_3, .ref q_4, .ref q_5, .ref q_2, .ref q_1, .ref q_6, .ref q_7, .ref q_8, .ref q_9, .ref q_10, .ref q_11, .ref q_12, .int x_2, .int x_3])), (q_1, .inl (k 0, 400, .inl f_4)), (q_2, .inl (k 0, 400, .inl f_5))] (fun r u => u.1 = 0) (fun u => [(q_0, .inr (5, [.int x_1, .ref q_3, .ref q_4, .ref q_5, .ref q_2, .ref q_1, .ref q_6, .ref q_7, .ref q_8, .ref q_9, .ref q_10, .ref q_11, .ref q_12, .int x_2, .int x_3])), (q_1, .inl (k 0, 400, .inl f_4)), (q_2, .inl (k 0, 400, .inl f_5))]) := by
  refine zMi_of (own := RX5) (by decide +kernel) rfl (Nat.le_of_ble_eq_true rfl) ?_
  intro p e s m args below meth c A ls C0 hr hlk hin hP hD hS hA hK hN hT hl
  have hx := C0.1
  have hb := C0.2.1
  have hml := C0.2.2.1
  have hown := C0.2.2.2.1
  have hts := C0.2.2.2.2
  have hl : lv_has ls 2 [(0, .ref q_0), (1, .int x_0)] := hl
  have hP : va_P D vwCl [(q_0, .inr (5, [.int x_1, .ref q_3, .ref q_4, .ref q_5, .ref q_2, .ref q_1, .ref q_6, .ref q_7, .ref q_8, .ref q_9, .ref q_10, .ref q_11, .ref q_12, .int x_2, .int x_3])), (q_1, .inl (k 0, 400, .inl f_4)), (q_2, .inl (k 0, 400, .inl f_5))] s.heap := hP
  refine lv_bipush (v := 26) hx hb dX5_numberOf_0 (by decide) ?_
  refine lv_aload_n hx hb dX5_numberOf_2 rfl (lv_at hl 0 rfl) ?_
  refine va_get (D := D) (ci := 5) (v := .ref q_1) (C := RX5) (T := TX5) (N := 15) hx hb hts inX5 hown hK hP 0 rfl rfl 5 (by decide) (hts _ kF_X5_24) (fun _ h9 => h9) rfl dX5_numberOf_3 ?_
  refine lv_iload_n hx hb dX5_numberOf_6 rfl (lv_at hl 1 rfl) ?_
  refine va_iald hx hb hK hP 1 0 rfl rfl (by first | with_reducible exact h_x_0 | (revert h_x_0; first | omega | (simp only [vp_in_iff, Int32.lt_iff_toInt_lt, Int32.le_iff_toInt_le, Int64.lt_iff_toInt_lt, Int64.le_iff_toInt_le, Int32.toInt_toInt64, ← Int32.toInt_inj, ← Int64.toInt_inj, Int32.reduceToInt, Int64.reduceToInt] <;> omega))) dX5_numberOf_7 ?_
  refine lv_topi (fun y1 ey1 => ?_)
  refine lv_imul hx hb dX5_numberOf_8 ?_
  refine lv_topi (fun y2 ey2 => ?_)
  refine lv_aload_n hx hb dX5_numberOf_9 rfl (lv_at hl 0 rfl) ?_
  refine va_get (D := D) (ci := 5) (v := .ref q_2) (C := RX5) (T := TX5) (N := 15) hx hb hts inX5 hown hK hP 0 rfl rfl 4 (by decide) (hts _ kF_X5_21) (fun _ h9 => h9) rfl dX5_numberOf_10 ?_
  refine lv_iload_n hx hb dX5_numberOf_13 rfl (lv_at hl 1 rfl) ?_
  refine va_iald hx hb hK hP 2 0 rfl rfl (by first | with_reducible exact h_x_0 | (revert h_x_0; first | omega | (simp only [vp_in_iff, Int32.lt_iff_toInt_lt, Int32.le_iff_toInt_le, Int64.lt_iff_toInt_lt, Int64.le_iff_toInt_le, Int32.toInt_toInt64, ← Int32.toInt_inj, ← Int64.toInt_inj, Int32.reduceToInt, Int64.reduceToInt] <;> omega))) dX5_numberOf_14 ?_
  refine lv_topi (fun y3 ey3 => ?_)
  refine lv_iadd hx hb dX5_numberOf_15 ?_
  refine lv_topi (fun y4 ey4 => ?_)
  exact z_iret C0 hr hlk rfl hK hP hD hS (0, fun _ => 0, fun _ => 0, fun _ => 0, fun _ => (fun _ => 0), fun _ => (fun _ => 0), fun _ => (fun _ => none)) rfl [0, 1, 2] rfl rfl rfl dX5_numberOf_16

set_option maxHeartbeats 4000000 in
set_option maxRecDepth 100000 in
theorem s_X5_sumDay_1 (l : Launch) (D : va_G) (k : Nat → ClassId) (T : zTy) (q_0 : Nat) (q_1 : Nat) (q_2 : Nat) (q_3 : Nat) (q_4 : Nat) (q_5 : Nat) (q_6 : Nat) (q_7 : Nat) (q_8 : Nat) (q_9 : Nat) (q_10 : Nat) (q_11 : Nat) (q_12 : Nat) (x_0 : Int32) (x_1 : Int32) (x_2 : Int32) (x_3 : Int32) (f_4 : Nat → Int32) (f_5 : Nat → Int32) (f_6 : Nat → Int32) (h_x_1 : 0 ≤ Int32.toInt x_1 ∧ Int32.toInt x_1 ≤ 400) (h_f_4 : zR f_4 0 799) : zMi l yX5_sumDay cX5_sumDay 4 (some .int) ({ frames := 1, cells := 0, slots := 0, locals := 21 }) D k T [.ref q_0, .int x_0] [(q_0, .inr (5, [.int x_1, .ref q_4, .ref q_5, .ref q_1, .ref q_3, .ref q_2, .ref q_6, .ref q_7, .ref q_8, .ref q_9, .ref q_10, .ref q_11, .ref q_12, .int x_2, .int x_3])), (q_1, .inl (k 0, 400, .inl f_4)), (q_2, .inl (k 0, 400, .inl f_5)), (q_3, .inl (k 0, 400, .inl f_6))] (fun r u => u.1 = 0) (fun u => [(q_0, .inr (5, [.int x_1, .ref q_4, .ref q_5, .ref q_1, .ref q_3, .ref q_2, .ref q_6, .ref q_7, .ref q_8, .ref q_9, .ref q_10, .ref q_11, .ref q_12, .int (u.2.2.1 0), .int (u.2.2.1 1)])), (q_1, .inl (k 0, 400, .inl f_4)), (q_2, .inl (k 0, 400, .inl f_5)), (q_3, .inl (k 0, 400, .inl f_6))]) := by
  refine zMi_of (own := RX5) (by decide +kernel) rfl (Nat.le_of_ble_eq_true rfl) ?_
  intro p e s m args below meth c A ls C0 hr hlk hin hP hD hS hA hK hN hT hl
  have hx := C0.1
  have hb := C0.2.1
  have hml := C0.2.2.1
  have hown := C0.2.2.2.1
  have hts := C0.2.2.2.2
  have hl : lv_has ls 4 [(0, .ref q_0), (1, .int x_0)] := hl
  have hP : va_P D vwCl [(q_0, .inr (5, [.int x_1, .ref q_4, .ref q_5, .ref q_1, .ref q_3, .ref q_2, .ref q_6, .ref q_7, .ref q_8, .ref q_9, .ref q_10, .ref q_11, .ref q_12, .int x_2, .int x_3])), (q_1, .inl (k 0, 400, .inl f_4)), (q_2, .inl (k 0, 400, .inl f_5)), (q_3, .inl (k 0, 400, .inl f_6))] s.heap := hP
  refine lv_iconst (v := 0) hx hb dX5_sumDay_0 (by decide) ?_
  refine lv_istore_n (lv' := [(2, .int 0), (0, .ref q_0), (1, .int x_0)]) hx hb dX5_sumDay_1 rfl hl (by decide) rfl (fun ls hl => ?_)
  refine lv_aload_n hx hb dX5_sumDay_2 rfl (lv_at hl 1 rfl) ?_
  refine lv_iconst (v := 0) hx hb dX5_sumDay_3 (by decide) ?_
  refine va_put (D := D) (ci := 5) (v := .int 0) (ty := .int) (C := RX5) (T := TX5) (N := 15) hx hb hts inX5 tyX5 tyX5_ok nmX5 hown hK hP hD hS 0 rfl rfl 13 (by decide) (hts _ kF_X5_69) (fun _ h9 => h9) rfl (by decide +kernel) rfl rfl (Nat.le_of_ble_eq_true rfl) dX5_sumDay_4 (fun H locs hP hD hS => ?_)
  have hP : va_P D vwCl [(q_0, .inr (5, [.int x_1, .ref q_4, .ref q_5, .ref q_1, .ref q_3, .ref q_2, .ref q_6, .ref q_7, .ref q_8, .ref q_9, .ref q_10, .ref q_11, .ref q_12, .int 0, .int x_3])), (q_1, .inl (k 0, 400, .inl f_4)), (q_2, .inl (k 0, 400, .inl f_5)), (q_3, .inl (k 0, 400, .inl f_6))] H := hP
  have hD : va_D A [(q_0, .inr (5, [.int x_1, .ref q_4, .ref q_5, .ref q_1, .ref q_3, .ref q_2, .ref q_6, .ref q_7, .ref q_8, .ref q_9, .ref q_10, .ref q_11, .ref q_12, .int 0, .int x_3])), (q_1, .inl (k 0, 400, .inl f_4)), (q_2, .inl (k 0, 400, .inl f_5)), (q_3, .inl (k 0, 400, .inl f_6))] := hD
  refine lv_aload_n hx hb dX5_sumDay_7 rfl (lv_at hl 1 rfl) ?_
  refine lv_iconst (v := 0) hx hb dX5_sumDay_8 (by decide) ?_
  refine va_put (D := D) (ci := 5) (v := .int 0) (ty := .int) (C := RX5) (T := TX5) (N := 15) hx hb hts inX5 tyX5 tyX5_ok nmX5 hown hK hP hD hS 0 rfl rfl 14 (by decide) (hts _ kF_X5_72) (fun _ h9 => h9) rfl (by decide +kernel) rfl rfl (Nat.le_of_ble_eq_true rfl) dX5_sumDay_9 (fun H locs hP hD hS => ?_)
  have hP : va_P D vwCl [(q_0, .inr (5, [.int x_1, .ref q_4, .ref q_5, .ref q_1, .ref q_3, .ref q_2, .ref q_6, .ref q_7, .ref q_8, .ref q_9, .ref q_10, .ref q_11, .ref q_12, .int 0, .int 0])), (q_1, .inl (k 0, 400, .inl f_4)), (q_2, .inl (k 0, 400, .inl f_5)), (q_3, .inl (k 0, 400, .inl f_6))] H := hP
  have hD : va_D A [(q_0, .inr (5, [.int x_1, .ref q_4, .ref q_5, .ref q_1, .ref q_3, .ref q_2, .ref q_6, .ref q_7, .ref q_8, .ref q_9, .ref q_10, .ref q_11, .ref q_12, .int 0, .int 0])), (q_1, .inl (k 0, 400, .inl f_4)), (q_2, .inl (k 0, 400, .inl f_5)), (q_3, .inl (k 0, 400, .inl f_6))] := hD
  refine lv_iconst (v := 0) hx hb dX5_sumDay_12 (by decide) ?_
  refine lv_istore_n (lv' := [(3, .int 0), (2, .int 0), (0, .ref q_0), (1, .int x_0)]) hx hb dX5_sumDay_13 rfl hl (by decide) rfl (fun ls hl => ?_)
  have loop73 : ∀ (N74 : Nat) (y69 : Int32) (y70 : Int32) (y71 : Int32) (y72 : Int32) (H : Heap) (locs : List Loc) (ls : Array Slot), Int.toNat (400 - Int32.toInt y69) < N74 → 0 ≤ Int32.toInt y69 ∧ Int32.toInt y69 ≤ 400 → va_P D vwCl [(q_0, .inr (5, [.int x_1, .ref q_4, .ref q_5, .ref q_1, .ref q_3, .ref q_2, .ref q_6, .ref q_7, .ref q_8, .ref q_9, .ref q_10, .ref q_11, .ref q_12, .int y71, .int y72])), (q_1, .inl (k 0, 400, .inl f_4)), (q_2, .inl (k 0, 400, .inl f_5)), (q_3, .inl (k 0, 400, .inl f_6))] H → va_D A [(q_0, .inr (5, [.int x_1, .ref q_4, .ref q_5, .ref q_1, .ref q_3, .ref q_2, .ref q_6, .ref q_7, .ref q_8, .ref q_9, .ref q_10, .ref q_11, .ref q_12, .int y71, .int y72])), (q_1, .inl (k 0, 400, .inl f_4)), (q_2, .inl (k 0, 400, .inl f_5)), (q_3, .inl (k 0, 400, .inl f_6))] → va_S A s.heap H locs → lv_has ls 4 [(3, .int y69), (2, .int y70), (0, .ref q_0), (1, .int x_0)] → W p l e { frames := 1, cells := 0, slots := 0, locals := 21 } s m args below meth c H locs 0 0 (MQ below (va_Qi (fun (r : Int32) (u : zS) => u.1 = 0) (zB D k A (fun (u : zS) => [(q_0, .inr (5, [.int x_1, .ref q_4, .ref q_5, .ref q_1, .ref q_3, .ref q_2, .ref q_6, .ref q_7, .ref q_8, .ref q_9, .ref q_10, .ref q_11, .ref q_12, .int (u.2.2.1 0), .int (u.2.2.1 1)])), (q_1, .inl (k 0, 400, .inl f_4)), (q_2, .inl (k 0, 400, .inl f_5)), (q_3, .inl (k 0, 400, .inl f_6))])) A) args s 0 0 A) (F0 m 14 ls []) := by
    intro N74
    induction N74 with
    | zero => intro y69 y70 y71 y72 H locs ls hm; exact absurd hm (Nat.not_lt_zero _)
    | succ N74 ihN74 =>
      intro y69 y70 y71 y72 H locs ls hN74 hy69 hP hD hS hl
      refine lv_iload_n hx hb dX5_sumDay_14 rfl (lv_at hl 0 rfl) ?_
      refine lv_aload_n hx hb dX5_sumDay_15 rfl (lv_at hl 2 rfl) ?_
      refine va_get (D := D) (ci := 5) (v := .int x_1) (C := RX5) (T := TX5) (N := 15) hx hb hts inX5 hown hK hP 0 rfl rfl 0 (by decide) (hts _ kF_X5_54) (fun _ h9 => h9) rfl dX5_sumDay_16 ?_
      refine lv_icmp_ge (tgt := 73) hx hb dX5_sumDay_19 (by decide) (fun c75 => ?_) (fun c75 => ?_)
      · refine lv_iload_n hx hb dX5_sumDay_73 rfl (lv_at hl 1 rfl) ?_
        exact z_iret C0 hr hlk rfl hK hP hD hS (0, fun _ => 0, fun i => [y71, y72].getD i 0, fun _ => 0, fun _ => (fun _ => 0), fun _ => (fun _ => 0), fun _ => (fun _ => none)) rfl [0, 1, 2, 3] rfl rfl rfl dX5_sumDay_74
      · refine lv_aload_n hx hb dX5_sumDay_22 rfl (lv_at hl 2 rfl) ?_
        refine va_get (D := D) (ci := 5) (v := .ref q_1) (C := RX5) (T := TX5) (N := 15) hx hb hts inX5 hown hK hP 0 rfl rfl 3 (by decide) (hts _ kF_X5_18) (fun _ h9 => h9) rfl dX5_sumDay_23 ?_
        refine lv_iload_n hx hb dX5_sumDay_26 rfl (lv_at hl 0 rfl) ?_
        refine va_iald hx hb hK hP 1 0 rfl rfl (by revert hN74 hy69 c75 h_x_1; first | (simp only [vp_in_iff, Int32.lt_iff_toInt_lt, Int32.le_iff_toInt_le, Int64.lt_iff_toInt_lt, Int64.le_iff_toInt_le, Int32.toInt_toInt64, ← Int32.toInt_inj, ← Int64.toInt_inj, Int32.reduceToInt, Int64.reduceToInt] <;> omega) | omega) dX5_sumDay_27 ?_
        refine lv_topi (fun y76 ey76 => ?_)
        have hy76 : 0 ≤ Int32.toInt y76 ∧ Int32.toInt y76 ≤ 799 := by rw [ey76]; exact h_f_4 _
        refine lv_iconst (v := 2) hx hb dX5_sumDay_28 (by decide) ?_
        refine lv_idiv hx hb dX5_sumDay_29 (by decide) ?_
        refine lv_topi (fun y77 ey77 => ?_)
        have hy77 : Int32.toInt y77 = Int32.toInt y76 / 2 := by rw [ey77]; exact zo_div 2 (show 0 ≤ Int32.toInt y76 by revert hy76; first | omega | (simp only [vp_in_iff, Int32.lt_iff_toInt_lt, Int32.le_iff_toInt_le, Int64.lt_iff_toInt_lt, Int64.le_iff_toInt_le, Int32.toInt_toInt64, ← Int32.toInt_inj, ← Int64.toInt_inj, Int32.reduceToInt, Int64.reduceToInt] <;> omega)) rfl (by decide)
        refine lv_iload_n hx hb dX5_sumDay_30 rfl (lv_at hl 3 rfl) ?_
        refine lv_icmp_ne (tgt := 67) hx hb dX5_sumDay_31 (by decide) (fun c78 => ?_) (fun c78 => ?_)
        · obtain ⟨y79, ey79⟩ : ∃ q : Int32, q = y69 + 1 := ⟨_, rfl⟩
          have hy79 : Int32.toInt y79 = Int32.toInt y69 + 1 := by rw [ey79]; exact zi_addc rfl (by decide) (by revert hN74 hy69 c75 h_x_1; first | (simp only [vp_in_iff, Int32.lt_iff_toInt_lt, Int32.le_iff_toInt_le, Int64.lt_iff_toInt_lt, Int64.le_iff_toInt_le, Int32.toInt_toInt64, ← Int32.toInt_inj, ← Int64.toInt_inj, Int32.reduceToInt, Int64.reduceToInt] <;> omega) | omega)
          refine lv_iinc (v := y79) (lv' := [(3, .int y79), (2, .int y70), (0, .ref q_0), (1, .int x_0)]) hx hb dX5_sumDay_67 hl (k := 0) rfl (by rw [ey79]; exact zz_inc (by decide)) (by decide) rfl (fun ls hl => ?_)
          refine lv_goto (tgt := 14) hx hb dX5_sumDay_70 (by decide) ?_
          exact ihN74 y79 y70 y71 y72 _ _ ls (by revert hN74 hy69 c75 hy79 h_x_1; first | (simp only [vp_in_iff, Int32.lt_iff_toInt_lt, Int32.le_iff_toInt_le, Int64.lt_iff_toInt_lt, Int64.le_iff_toInt_le, Int32.toInt_toInt64, ← Int32.toInt_inj, ← Int64.toInt_inj, Int32.reduceToInt, Int64.reduceToInt] <;> omega) | omega) (by revert hN74 hy69 c75 hy79 h_x_1; first | (simp only [vp_in_iff, Int32.lt_iff_toInt_lt, Int32.le_iff_toInt_le, Int64.lt_iff_toInt_lt, Int64.le_iff_toInt_le, Int32.toInt_toInt64, ← Int32.toInt_inj, ← Int64.toInt_inj, Int32.reduceToInt, Int64.reduceToInt] <;> omega) | omega) hP hD hS (lv_sub hl [0, 1, 2, 3] rfl)
        · obtain ⟨y80, ey80⟩ : ∃ q : Int32, q = y70 + 1 := ⟨_, rfl⟩
          refine lv_iinc (v := y80) (lv' := [(2, .int y80), (3, .int y69), (0, .ref q_0), (1, .int x_0)]) hx hb dX5_sumDay_34 hl (k := 1) rfl (by rw [ey80]; exact zz_inc (by decide)) (by decide) rfl (fun ls hl => ?_)
          refine lv_aload_n hx hb dX5_sumDay_37 rfl (lv_at hl 2 rfl) ?_
          refine lv_dup hx hb dX5_sumDay_38 rfl ?_
          refine va_get (D := D) (ci := 5) (v := .int y71) (C := RX5) (T := TX5) (N := 15) hx hb hts inX5 hown hK hP 0 rfl rfl 13 (by decide) (hts _ kF_X5_69) (fun _ h9 => h9) rfl dX5_sumDay_39 ?_
          refine lv_aload_n hx hb dX5_sumDay_42 rfl (lv_at hl 2 rfl) ?_
          refine lv_iload_n hx hb dX5_sumDay_43 rfl (lv_at hl 1 rfl) ?_
          refine z_bi (wr := [(q_1, .inl (k 0, 400, .inl f_4))]) (z_runV (C := RX5) (As := [.int y69]) (rest := [.int y71, .ref q_0]) C0 (s_X5_numberOf_8 l D k T q_0 q_2 q_3 q_4 q_5 q_1 q_6 q_7 q_8 q_9 q_10 q_11 q_12 y69 x_1 y71 y72 f_5 f_6 (by revert hN74 hy69 c75 h_x_1; first | (simp only [vp_in_iff, Int32.lt_iff_toInt_lt, Int32.le_iff_toInt_le, Int64.lt_iff_toInt_lt, Int64.le_iff_toInt_le, Int32.toInt_toInt64, ← Int32.toInt_inj, ← Int64.toInt_inj, Int32.reduceToInt, Int64.reduceToInt] <;> omega) | omega) (by revert h_x_1 c75 hN74 hy69; first | (simp only [vp_in_iff, Int32.lt_iff_toInt_lt, Int32.le_iff_toInt_le, Int64.lt_iff_toInt_lt, Int64.le_iff_toInt_le, Int32.toInt_toInt64, ← Int32.toInt_inj, ← Int64.toInt_inj, Int32.reduceToInt, Int64.reduceToInt] <;> omega) | omega) _) okV_X5_numberOf kM_X5_62 rfl (z_pV (q0 := 0) hT hS hA hK hN hP hD [0, 2, 3] rfl rfl rfl rfl rfl) rfl hl.1 rfl (Nat.le_of_ble_eq_true rfl) dX5_sumDay_44 rfl) hP hD hS hA [0, 2, 3] [1] rfl rfl rfl rfl (fun r81 u81 H locs hw81 hP hD hS => ?_)
          obtain ⟨i81, a81, v81, w81, f81, g81, o81⟩ := u81
          dsimp only at hw81
          obtain rfl := hw81
          have hP : va_P D vwCl [(q_1, .inl (k 0, 400, .inl f_4)), (q_0, .inr (5, [.int x_1, .ref q_4, .ref q_5, .ref q_1, .ref q_3, .ref q_2, .ref q_6, .ref q_7, .ref q_8, .ref q_9, .ref q_10, .ref q_11, .ref q_12, .int y71, .int y72])), (q_2, .inl (k 0, 400, .inl f_5)), (q_3, .inl (k 0, 400, .inl f_6))] H := hP
          have hD : va_D A [(q_1, .inl (k 0, 400, .inl f_4)), (q_0, .inr (5, [.int x_1, .ref q_4, .ref q_5, .ref q_1, .ref q_3, .ref q_2, .ref q_6, .ref q_7, .ref q_8, .ref q_9, .ref q_10, .ref q_11, .ref q_12, .int y71, .int y72])), (q_2, .inl (k 0, 400, .inl f_5)), (q_3, .inl (k 0, 400, .inl f_6))] := hD
          refine lv_iadd hx hb dX5_sumDay_47 ?_
          refine lv_topi (fun y82 ey82 => ?_)
          refine va_put (D := D) (ci := 5) (v := .int y82) (ty := .int) (C := RX5) (T := TX5) (N := 15) hx hb hts inX5 tyX5 tyX5_ok nmX5 hown hK hP hD hS 1 rfl rfl 13 (by decide) (hts _ kF_X5_69) (fun _ h9 => h9) rfl (by decide +kernel) rfl rfl (Nat.le_of_ble_eq_true rfl) dX5_sumDay_48 (fun H locs hP hD hS => ?_)
          have hP : va_P D vwCl [(q_1, .inl (k 0, 400, .inl f_4)), (q_0, .inr (5, [.int x_1, .ref q_4, .ref q_5, .ref q_1, .ref q_3, .ref q_2, .ref q_6, .ref q_7, .ref q_8, .ref q_9, .ref q_10, .ref q_11, .ref q_12, .int y82, .int y72])), (q_2, .inl (k 0, 400, .inl f_5)), (q_3, .inl (k 0, 400, .inl f_6))] H := hP
          have hD : va_D A [(q_1, .inl (k 0, 400, .inl f_4)), (q_0, .inr (5, [.int x_1, .ref q_4, .ref q_5, .ref q_1, .ref q_3, .ref q_2, .ref q_6, .ref q_7, .ref q_8, .ref q_9, .ref q_10, .ref q_11, .ref q_12, .int y82, .int y72])), (q_2, .inl (k 0, 400, .inl f_5)), (q_3, .inl (k 0, 400, .inl f_6))] := hD
          refine lv_aload_n hx hb dX5_sumDay_51 rfl (lv_at hl 2 rfl) ?_
          refine lv_dup hx hb dX5_sumDay_52 rfl ?_
          refine va_get (D := D) (ci := 5) (v := .int y72) (C := RX5) (T := TX5) (N := 15) hx hb hts inX5 hown hK hP 1 rfl rfl 14 (by decide) (hts _ kF_X5_72) (fun _ h9 => h9) rfl dX5_sumDay_53 ?_
          refine lv_aload_n hx hb dX5_sumDay_56 rfl (lv_at hl 2 rfl) ?_
          refine lv_iload_n hx hb dX5_sumDay_57 rfl (lv_at hl 1 rfl) ?_
          refine z_bi (wr := [(q_1, .inl (k 0, 400, .inl f_4))]) (z_runV (C := RX5) (As := [.int y69]) (rest := [.int y72, .ref q_0]) C0 (s_X5_numberOf_8 l D k T q_0 q_2 q_3 q_4 q_5 q_1 q_6 q_7 q_8 q_9 q_10 q_11 q_12 y69 x_1 y82 y72 f_5 f_6 (by revert hN74 hy69 c75 h_x_1; first | (simp only [vp_in_iff, Int32.lt_iff_toInt_lt, Int32.le_iff_toInt_le, Int64.lt_iff_toInt_lt, Int64.le_iff_toInt_le, Int32.toInt_toInt64, ← Int32.toInt_inj, ← Int64.toInt_inj, Int32.reduceToInt, Int64.reduceToInt] <;> omega) | omega) (by revert h_x_1 c75 hN74 hy69; first | (simp only [vp_in_iff, Int32.lt_iff_toInt_lt, Int32.le_iff_toInt_le, Int64.lt_iff_toInt_lt, Int64.le_iff_toInt_le, Int32.toInt_toInt64, ← Int32.toInt_inj, ← Int64.toInt_inj, Int32.reduceToInt, Int64.reduceToInt] <;> omega) | omega) _) okV_X5_numberOf kM_X5_62 rfl (z_pV (q0 := 1) hT hS hA hK hN hP hD [1, 2, 3] rfl rfl rfl rfl rfl) rfl hl.1 rfl (Nat.le_of_ble_eq_true rfl) dX5_sumDay_58 rfl) hP hD hS hA [1, 2, 3] [0] rfl rfl rfl rfl (fun r83 u83 H locs hw83 hP hD hS => ?_)
          obtain ⟨i83, a83, v83, w83, f83, g83, o83⟩ := u83
          dsimp only at hw83
          obtain rfl := hw83
          have hP : va_P D vwCl [(q_1, .inl (k 0, 400, .inl f_4)), (q_0, .inr (5, [.int x_1, .ref q_4, .ref q_5, .ref q_1, .ref q_3, .ref q_2, .ref q_6, .ref q_7, .ref q_8, .ref q_9, .ref q_10, .ref q_11, .ref q_12, .int y82, .int y72])), (q_2, .inl (k 0, 400, .inl f_5)), (q_3, .inl (k 0, 400, .inl f_6))] H := hP
          have hD : va_D A [(q_1, .inl (k 0, 400, .inl f_4)), (q_0, .inr (5, [.int x_1, .ref q_4, .ref q_5, .ref q_1, .ref q_3, .ref q_2, .ref q_6, .ref q_7, .ref q_8, .ref q_9, .ref q_10, .ref q_11, .ref q_12, .int y82, .int y72])), (q_2, .inl (k 0, 400, .inl f_5)), (q_3, .inl (k 0, 400, .inl f_6))] := hD
          refine lv_iload_n hx hb dX5_sumDay_61 rfl (lv_at hl 0 rfl) ?_
          refine lv_imul hx hb dX5_sumDay_62 ?_
          refine lv_topi (fun y84 ey84 => ?_)
          refine lv_iadd hx hb dX5_sumDay_63 ?_
          refine lv_topi (fun y85 ey85 => ?_)
          refine va_put (D := D) (ci := 5) (v := .int y85) (ty := .int) (C := RX5) (T := TX5) (N := 15) hx hb hts inX5 tyX5 tyX5_ok nmX5 hown hK hP hD hS 1 rfl rfl 14 (by decide) (hts _ kF_X5_72) (fun _ h9 => h9) rfl (by decide +kernel) rfl rfl (Nat.le_of_ble_eq_true rfl) dX5_sumDay_64 (fun H locs hP hD hS => ?_)
          have hP : va_P D vwCl [(q_1, .inl (k 0, 400, .inl f_4)), (q_0, .inr (5, [.int x_1, .ref q_4, .ref q_5, .ref q_1, .ref q_3, .ref q_2, .ref q_6, .ref q_7, .ref q_8, .ref q_9, .ref q_10, .ref q_11, .ref q_12, .int y82, .int y85])), (q_2, .inl (k 0, 400, .inl f_5)), (q_3, .inl (k 0, 400, .inl f_6))] H := hP
          have hD : va_D A [(q_1, .inl (k 0, 400, .inl f_4)), (q_0, .inr (5, [.int x_1, .ref q_4, .ref q_5, .ref q_1, .ref q_3, .ref q_2, .ref q_6, .ref q_7, .ref q_8, .ref q_9, .ref q_10, .ref q_11, .ref q_12, .int y82, .int y85])), (q_2, .inl (k 0, 400, .inl f_5)), (q_3, .inl (k 0, 400, .inl f_6))] := hD
          obtain ⟨y86, ey86⟩ : ∃ q : Int32, q = y69 + 1 := ⟨_, rfl⟩
          have hy86 : Int32.toInt y86 = Int32.toInt y69 + 1 := by rw [ey86]; exact zi_addc rfl (by decide) (by revert hN74 hy69 c75 h_x_1; first | (simp only [vp_in_iff, Int32.lt_iff_toInt_lt, Int32.le_iff_toInt_le, Int64.lt_iff_toInt_lt, Int64.le_iff_toInt_le, Int32.toInt_toInt64, ← Int32.toInt_inj, ← Int64.toInt_inj, Int32.reduceToInt, Int64.reduceToInt] <;> omega) | omega)
          refine lv_iinc (v := y86) (lv' := [(3, .int y86), (2, .int y80), (0, .ref q_0), (1, .int x_0)]) hx hb dX5_sumDay_67 hl (k := 1) rfl (by rw [ey86]; exact zz_inc (by decide)) (by decide) rfl (fun ls hl => ?_)
          refine lv_goto (tgt := 14) hx hb dX5_sumDay_70 (by decide) ?_
          exact ihN74 y86 y80 y82 y85 _ _ ls (by revert hN74 hy69 c75 hy86 h_x_1; first | (simp only [vp_in_iff, Int32.lt_iff_toInt_lt, Int32.le_iff_toInt_le, Int64.lt_iff_toInt_lt, Int64.le_iff_toInt_le, Int32.toInt_toInt64, ← Int32.toInt_inj, ← Int64.toInt_inj, Int32.reduceToInt, Int64.reduceToInt] <;> omega) | omega) (by revert hN74 hy69 c75 hy86 h_x_1; first | (simp only [vp_in_iff, Int32.lt_iff_toInt_lt, Int32.le_iff_toInt_le, Int64.lt_iff_toInt_lt, Int64.le_iff_toInt_le, Int32.toInt_toInt64, ← Int32.toInt_inj, ← Int64.toInt_inj, Int32.reduceToInt, Int64.reduceToInt] <;> omega) | omega) (z_sub hP [1, 0, 2, 3] rfl) (hD.sub [1, 0, 2, 3] rfl rfl) hS (lv_sub hl [0, 1, 2, 3] rfl)
  exact loop73 _ 0 0 0 0 _ _ _ (Nat.lt_succ_self _) (by first | omega | (simp only [vp_in_iff, Int32.lt_iff_toInt_lt, Int32.le_iff_toInt_le, Int64.lt_iff_toInt_lt, Int64.le_iff_toInt_le, Int32.toInt_toInt64, ← Int32.toInt_inj, ← Int64.toInt_inj, Int32.reduceToInt, Int64.reduceToInt] <;> omega)) hP hD hS (lv_sub hl [0, 1, 2, 3] rfl)

set_option maxHeartbeats 4000000 in
set_option maxRecDepth 100000 in
theorem s_X5_markAtPlace_1 (l : Launch) (D : va_G) (k : Nat → ClassId) (T : zTy) (q_0 : Nat) (q_1 : Nat) (q_2 : Nat) (q_3 : Nat) (q_4 : Nat) (q_5 : Nat) (q_6 : Nat) (q_7 : Nat) (q_8 : Nat) (q_9 : Nat) (q_10 : Nat) (q_11 : Nat) (q_12 : Nat) (x_0 : Int32) (x_1 : Int32) (x_2 : Int32) (x_3 : Int32) (x_4 : Int32) (f_5 : Nat → Int32) (h_x_2 : 0 ≤ Int32.toInt x_2 ∧ Int32.toInt x_2 ≤ 400) (h_f_5 : zR f_5 0 799) : zMi l yX5_markAtPlace cX5_markAtPlace 5 (some .int) ({ frames := 0, cells := 0, slots := 0, locals := 0 }) D k T [.ref q_0, .int x_0, .int x_1] [(q_0, .inr (5, [.int x_2, .ref q_2, .ref q_3, .ref q_1, .ref q_4, .ref q_5, .ref q_6, .ref q_7, .ref q_8, .ref q_9, .ref q_10, .ref q_11, .ref q_12, .int x_3, .int x_4])), (q_1, .inl (k 0, 400, .inl f_5))] (fun r u => u.1 = 0 ∧ ((-2) ≤ Int32.toInt r ∧ Int32.toInt r ≤ 399)) (fun u => [(q_0, .inr (5, [.int x_2, .ref q_2, .ref q_3, .ref q_1, .ref q_4, .ref q_5, .ref q_6, .ref q_7, .ref q_8, .ref q_9, .ref q_10, .ref q_11, .ref q_12, .int x_3, .int x_4])), (q_1, .inl (k 0, 400, .inl f_5))]) := by
  refine zMi_of (own := RX5) (by decide +kernel) rfl (Nat.le_of_ble_eq_true rfl) ?_
  intro p e s m args below meth c A ls C0 hr hlk hin hP hD hS hA hK hN hT hl
  have hx := C0.1
  have hb := C0.2.1
  have hml := C0.2.2.1
  have hown := C0.2.2.2.1
  have hts := C0.2.2.2.2
  have hl : lv_has ls 5 [(0, .ref q_0), (1, .int x_0), (2, .int x_1)] := hl
  have hP : va_P D vwCl [(q_0, .inr (5, [.int x_2, .ref q_2, .ref q_3, .ref q_1, .ref q_4, .ref q_5, .ref q_6, .ref q_7, .ref q_8, .ref q_9, .ref q_10, .ref q_11, .ref q_12, .int x_3, .int x_4])), (q_1, .inl (k 0, 400, .inl f_5))] s.heap := hP
  refine lv_iconst (v := 0) hx hb dX5_markAtPlace_0 (by decide) ?_
  refine lv_istore_n (lv' := [(3, .int 0), (0, .ref q_0), (1, .int x_0), (2, .int x_1)]) hx hb dX5_markAtPlace_1 rfl hl (by decide) rfl (fun ls hl => ?_)
  refine lv_iconst (v := 0) hx hb dX5_markAtPlace_2 (by decide) ?_
  refine lv_istore (lv' := [(4, .int 0), (3, .int 0), (0, .ref q_0), (1, .int x_0), (2, .int x_1)]) hx hb dX5_markAtPlace_3 hl (by decide) rfl (fun ls hl => ?_)
  have loop37 : ∀ (N38 : Nat) (y35 : Int32) (y36 : Int32) (H : Heap) (locs : List Loc) (ls : Array Slot), Int.toNat (400 - Int32.toInt y35) < N38 → 0 ≤ Int32.toInt y35 ∧ Int32.toInt y35 ≤ 400 → va_P D vwCl [(q_0, .inr (5, [.int x_2, .ref q_2, .ref q_3, .ref q_1, .ref q_4, .ref q_5, .ref q_6, .ref q_7, .ref q_8, .ref q_9, .ref q_10, .ref q_11, .ref q_12, .int x_3, .int x_4])), (q_1, .inl (k 0, 400, .inl f_5))] H → va_D A [(q_0, .inr (5, [.int x_2, .ref q_2, .ref q_3, .ref q_1, .ref q_4, .ref q_5, .ref q_6, .ref q_7, .ref q_8, .ref q_9, .ref q_10, .ref q_11, .ref q_12, .int x_3, .int x_4])), (q_1, .inl (k 0, 400, .inl f_5))] → va_S A s.heap H locs → lv_has ls 5 [(4, .int y35), (3, .int y36), (0, .ref q_0), (1, .int x_0), (2, .int x_1)] → W p l e { frames := 0, cells := 0, slots := 0, locals := 0 } s m args below meth c H locs 0 0 (MQ below (va_Qi (fun (r : Int32) (u : zS) => u.1 = 0 ∧ ((-2) ≤ Int32.toInt r ∧ Int32.toInt r ≤ 399)) (zB D k A (fun (u : zS) => [(q_0, .inr (5, [.int x_2, .ref q_2, .ref q_3, .ref q_1, .ref q_4, .ref q_5, .ref q_6, .ref q_7, .ref q_8, .ref q_9, .ref q_10, .ref q_11, .ref q_12, .int x_3, .int x_4])), (q_1, .inl (k 0, 400, .inl f_5))])) A) args s 0 0 A) (F0 m 5 ls []) := by
    intro N38
    induction N38 with
    | zero => intro y35 y36 H locs ls hm; exact absurd hm (Nat.not_lt_zero _)
    | succ N38 ihN38 =>
      intro y35 y36 H locs ls hN38 hy35 hP hD hS hl
      refine lv_iload hx hb dX5_markAtPlace_5 (lv_at hl 0 rfl) ?_
      refine lv_aload_n hx hb dX5_markAtPlace_7 rfl (lv_at hl 2 rfl) ?_
      refine va_get (D := D) (ci := 5) (v := .int x_2) (C := RX5) (T := TX5) (N := 15) hx hb hts inX5 hown hK hP 0 rfl rfl 0 (by decide) (hts _ kF_X5_54) (fun _ h9 => h9) rfl dX5_markAtPlace_8 ?_
      refine lv_icmp_ge (tgt := 44) hx hb dX5_markAtPlace_11 (by decide) (fun c39 => ?_) (fun c39 => ?_)
      · refine lv_bipush (v := (-2)) hx hb dX5_markAtPlace_44 (by decide) ?_
        exact z_iret C0 hr hlk rfl hK hP hD hS (0, fun _ => 0, fun _ => 0, fun _ => 0, fun _ => (fun _ => 0), fun _ => (fun _ => 0), fun _ => (fun _ => none)) ⟨rfl, (by decide)⟩ [0, 1] rfl rfl rfl dX5_markAtPlace_46
      · refine lv_aload_n hx hb dX5_markAtPlace_14 rfl (lv_at hl 2 rfl) ?_
        refine va_get (D := D) (ci := 5) (v := .ref q_1) (C := RX5) (T := TX5) (N := 15) hx hb hts inX5 hown hK hP 0 rfl rfl 3 (by decide) (hts _ kF_X5_18) (fun _ h9 => h9) rfl dX5_markAtPlace_15 ?_
        refine lv_iload hx hb dX5_markAtPlace_18 (lv_at hl 0 rfl) ?_
        refine va_iald hx hb hK hP 1 0 rfl rfl (by revert hN38 hy35 c39 h_x_2; first | (simp only [vp_in_iff, Int32.lt_iff_toInt_lt, Int32.le_iff_toInt_le, Int64.lt_iff_toInt_lt, Int64.le_iff_toInt_le, Int32.toInt_toInt64, ← Int32.toInt_inj, ← Int64.toInt_inj, Int32.reduceToInt, Int64.reduceToInt] <;> omega) | omega) dX5_markAtPlace_20 ?_
        refine lv_topi (fun y40 ey40 => ?_)
        have hy40 : 0 ≤ Int32.toInt y40 ∧ Int32.toInt y40 ≤ 799 := by rw [ey40]; exact h_f_5 _
        refine lv_iconst (v := 2) hx hb dX5_markAtPlace_21 (by decide) ?_
        refine lv_idiv hx hb dX5_markAtPlace_22 (by decide) ?_
        refine lv_topi (fun y41 ey41 => ?_)
        have hy41 : Int32.toInt y41 = Int32.toInt y40 / 2 := by rw [ey41]; exact zo_div 2 (show 0 ≤ Int32.toInt y40 by revert hy40; first | omega | (simp only [vp_in_iff, Int32.lt_iff_toInt_lt, Int32.le_iff_toInt_le, Int64.lt_iff_toInt_lt, Int64.le_iff_toInt_le, Int32.toInt_toInt64, ← Int32.toInt_inj, ← Int64.toInt_inj, Int32.reduceToInt, Int64.reduceToInt] <;> omega)) rfl (by decide)
        refine lv_iload_n hx hb dX5_markAtPlace_23 rfl (lv_at hl 3 rfl) ?_
        refine lv_icmp_ne (tgt := 38) hx hb dX5_markAtPlace_24 (by decide) (fun c42 => ?_) (fun c42 => ?_)
        · obtain ⟨y43, ey43⟩ : ∃ q : Int32, q = y35 + 1 := ⟨_, rfl⟩
          have hy43 : Int32.toInt y43 = Int32.toInt y35 + 1 := by rw [ey43]; exact zi_addc rfl (by decide) (by revert hN38 hy35 c39 h_x_2; first | (simp only [vp_in_iff, Int32.lt_iff_toInt_lt, Int32.le_iff_toInt_le, Int64.lt_iff_toInt_lt, Int64.le_iff_toInt_le, Int32.toInt_toInt64, ← Int32.toInt_inj, ← Int64.toInt_inj, Int32.reduceToInt, Int64.reduceToInt] <;> omega) | omega)
          refine lv_iinc (v := y43) (lv' := [(4, .int y43), (3, .int y36), (0, .ref q_0), (1, .int x_0), (2, .int x_1)]) hx hb dX5_markAtPlace_38 hl (k := 0) rfl (by rw [ey43]; exact zz_inc (by decide)) (by decide) rfl (fun ls hl => ?_)
          refine lv_goto (tgt := 5) hx hb dX5_markAtPlace_41 (by decide) ?_
          exact ihN38 y43 y36 _ _ ls (by revert hN38 hy35 c39 hy43 h_x_2; first | (simp only [vp_in_iff, Int32.lt_iff_toInt_lt, Int32.le_iff_toInt_le, Int64.lt_iff_toInt_lt, Int64.le_iff_toInt_le, Int32.toInt_toInt64, ← Int32.toInt_inj, ← Int64.toInt_inj, Int32.reduceToInt, Int64.reduceToInt] <;> omega) | omega) (by revert hN38 hy35 c39 hy43 h_x_2; first | (simp only [vp_in_iff, Int32.lt_iff_toInt_lt, Int32.le_iff_toInt_le, Int64.lt_iff_toInt_lt, Int64.le_iff_toInt_le, Int32.toInt_toInt64, ← Int32.toInt_inj, ← Int64.toInt_inj, Int32.reduceToInt, Int64.reduceToInt] <;> omega) | omega) hP hD hS (lv_sub hl [0, 1, 2, 3, 4] rfl)
        · obtain ⟨y44, ey44⟩ : ∃ q : Int32, q = y36 + 1 := ⟨_, rfl⟩
          refine lv_iinc (v := y44) (lv' := [(3, .int y44), (4, .int y35), (0, .ref q_0), (1, .int x_0), (2, .int x_1)]) hx hb dX5_markAtPlace_27 hl (k := 1) rfl (by rw [ey44]; exact zz_inc (by decide)) (by decide) rfl (fun ls hl => ?_)
          refine lv_iload_n hx hb dX5_markAtPlace_30 rfl (lv_at hl 0 rfl) ?_
          refine lv_iload_n hx hb dX5_markAtPlace_31 rfl (lv_at hl 4 rfl) ?_
          refine lv_icmp_ne (tgt := 38) hx hb dX5_markAtPlace_32 (by decide) (fun c45 => ?_) (fun c45 => ?_)
          · obtain ⟨y46, ey46⟩ : ∃ q : Int32, q = y35 + 1 := ⟨_, rfl⟩
            have hy46 : Int32.toInt y46 = Int32.toInt y35 + 1 := by rw [ey46]; exact zi_addc rfl (by decide) (by revert hN38 hy35 c39 h_x_2; first | (simp only [vp_in_iff, Int32.lt_iff_toInt_lt, Int32.le_iff_toInt_le, Int64.lt_iff_toInt_lt, Int64.le_iff_toInt_le, Int32.toInt_toInt64, ← Int32.toInt_inj, ← Int64.toInt_inj, Int32.reduceToInt, Int64.reduceToInt] <;> omega) | omega)
            refine lv_iinc (v := y46) (lv' := [(4, .int y46), (3, .int y44), (0, .ref q_0), (1, .int x_0), (2, .int x_1)]) hx hb dX5_markAtPlace_38 hl (k := 1) rfl (by rw [ey46]; exact zz_inc (by decide)) (by decide) rfl (fun ls hl => ?_)
            refine lv_goto (tgt := 5) hx hb dX5_markAtPlace_41 (by decide) ?_
            exact ihN38 y46 y44 _ _ ls (by revert hN38 hy35 c39 hy46 h_x_2; first | (simp only [vp_in_iff, Int32.lt_iff_toInt_lt, Int32.le_iff_toInt_le, Int64.lt_iff_toInt_lt, Int64.le_iff_toInt_le, Int32.toInt_toInt64, ← Int32.toInt_inj, ← Int64.toInt_inj, Int32.reduceToInt, Int64.reduceToInt] <;> omega) | omega) (by revert hN38 hy35 c39 hy46 h_x_2; first | (simp only [vp_in_iff, Int32.lt_iff_toInt_lt, Int32.le_iff_toInt_le, Int64.lt_iff_toInt_lt, Int64.le_iff_toInt_le, Int32.toInt_toInt64, ← Int32.toInt_inj, ← Int64.toInt_inj, Int32.reduceToInt, Int64.reduceToInt] <;> omega) | omega) hP hD hS (lv_sub hl [0, 1, 2, 3, 4] rfl)
          · refine lv_iload hx hb dX5_markAtPlace_35 (lv_at hl 1 rfl) ?_
            exact z_iret C0 hr hlk rfl hK hP hD hS (0, fun _ => 0, fun _ => 0, fun _ => 0, fun _ => (fun _ => 0), fun _ => (fun _ => 0), fun _ => (fun _ => none)) ⟨rfl, (by revert hN38 hy35 c39 h_x_2; first | (simp only [vp_in_iff, Int32.lt_iff_toInt_lt, Int32.le_iff_toInt_le, Int64.lt_iff_toInt_lt, Int64.le_iff_toInt_le, Int32.toInt_toInt64, ← Int32.toInt_inj, ← Int64.toInt_inj, Int32.reduceToInt, Int64.reduceToInt] <;> omega) | omega)⟩ [0, 1] rfl rfl rfl dX5_markAtPlace_37
  exact loop37 _ 0 0 _ _ _ (Nat.lt_succ_self _) (by first | omega | (simp only [vp_in_iff, Int32.lt_iff_toInt_lt, Int32.le_iff_toInt_le, Int64.lt_iff_toInt_lt, Int64.le_iff_toInt_le, Int32.toInt_toInt64, ← Int32.toInt_inj, ← Int64.toInt_inj, Int32.reduceToInt, Int64.reduceToInt] <;> omega)) hP hD hS (lv_sub hl [0, 1, 2, 3, 4] rfl)

set_option maxHeartbeats 4000000 in
set_option maxRecDepth 100000 in
theorem s_X5_findAltered_1 (l : Launch) (D : va_G) (k : Nat → ClassId) (T : zTy) (q_0 : Nat) (q_1 : Nat) (q_2 : Nat) (q_3 : Nat) (q_4 : Nat) (q_5 : Nat) (q_6 : Nat) (q_7 : Nat) (q_8 : Nat) (q_9 : Nat) (q_10 : Nat) (q_11 : Nat) (q_12 : Nat) (x_0 : Int32) (x_1 : Int32) (x_2 : Int32) (x_3 : Int32) (f_4 : Nat → Int32) (f_5 : Nat → Int32) (f_6 : Nat → Int32) (f_7 : Nat → Int32) (f_8 : Nat → Int32) (f_9 : Nat → Int32) (h_x_0 : 0 ≤ Int32.toInt x_0 ∧ Int32.toInt x_0 ≤ 399) (h_x_1 : 0 ≤ Int32.toInt x_1 ∧ Int32.toInt x_1 ≤ 400) (h_f_5 : zR f_5 0 799) : zMi l yX5_findAltered cX5_findAltered 5 (some .int) ({ frames := 2, cells := 0, slots := 0, locals := 44 }) D k T [.ref q_0, .int x_0] [(q_0, .inr (5, [.int x_1, .ref q_7, .ref q_8, .ref q_2, .ref q_4, .ref q_3, .ref q_9, .ref q_10, .ref q_11, .ref q_12, .ref q_1, .ref q_5, .ref q_6, .int x_2, .int x_3])), (q_1, .inl (k 0, 400, .inl f_4)), (q_2, .inl (k 0, 400, .inl f_5)), (q_3, .inl (k 0, 400, .inl f_6)), (q_4, .inl (k 0, 400, .inl f_7)), (q_5, .inl (k 0, 400, .inl f_8)), (q_6, .inl (k 0, 400, .inl f_9))] (fun r u => u.1 = 0 ∧ ((-3) ≤ Int32.toInt r ∧ Int32.toInt r ≤ 399)) (fun u => [(q_0, .inr (5, [.int x_1, .ref q_7, .ref q_8, .ref q_2, .ref q_4, .ref q_3, .ref q_9, .ref q_10, .ref q_11, .ref q_12, .ref q_1, .ref q_5, .ref q_6, .int (u.2.2.1 0), .int (u.2.2.1 1)])), (q_1, .inl (k 0, 400, .inl f_4)), (q_2, .inl (k 0, 400, .inl f_5)), (q_3, .inl (k 0, 400, .inl f_6)), (q_4, .inl (k 0, 400, .inl f_7)), (q_5, .inl (k 0, 400, .inl f_8)), (q_6, .inl (k 0, 400, .inl f_9))]) := by
  refine zMi_of (own := RX5) (by decide +kernel) rfl (Nat.le_of_ble_eq_true rfl) ?_
  intro p e s m args below meth c A ls C0 hr hlk hin hP hD hS hA hK hN hT hl
  have hx := C0.1
  have hb := C0.2.1
  have hml := C0.2.2.1
  have hown := C0.2.2.2.1
  have hts := C0.2.2.2.2
  have hl : lv_has ls 5 [(0, .ref q_0), (1, .int x_0)] := hl
  have hP : va_P D vwCl [(q_0, .inr (5, [.int x_1, .ref q_7, .ref q_8, .ref q_2, .ref q_4, .ref q_3, .ref q_9, .ref q_10, .ref q_11, .ref q_12, .ref q_1, .ref q_5, .ref q_6, .int x_2, .int x_3])), (q_1, .inl (k 0, 400, .inl f_4)), (q_2, .inl (k 0, 400, .inl f_5)), (q_3, .inl (k 0, 400, .inl f_6)), (q_4, .inl (k 0, 400, .inl f_7)), (q_5, .inl (k 0, 400, .inl f_8)), (q_6, .inl (k 0, 400, .inl f_9))] s.heap := hP
  refine lv_aload_n hx hb dX5_findAltered_0 rfl (lv_at hl 0 rfl) ?_
  refine va_get (D := D) (ci := 5) (v := .ref q_1) (C := RX5) (T := TX5) (N := 15) hx hb hts inX5 hown hK hP 0 rfl rfl 10 (by decide) (hts _ kF_X5_39) (fun _ h9 => h9) rfl dX5_findAltered_1 ?_
  refine lv_iload_n hx hb dX5_findAltered_4 rfl (lv_at hl 1 rfl) ?_
  refine va_iald hx hb hK hP 1 0 rfl rfl (by first | with_reducible exact h_x_0 | (revert h_x_0; first | omega | (simp only [vp_in_iff, Int32.lt_iff_toInt_lt, Int32.le_iff_toInt_le, Int64.lt_iff_toInt_lt, Int64.le_iff_toInt_le, Int32.toInt_toInt64, ← Int32.toInt_inj, ← Int64.toInt_inj, Int32.reduceToInt, Int64.reduceToInt] <;> omega))) dX5_findAltered_5 ?_
  refine lv_topi (fun y1 ey1 => ?_)
  refine lv_iconst (v := (-1)) hx hb dX5_findAltered_6 (by decide) ?_
  refine lv_icmp_ne (tgt := 13) hx hb dX5_findAltered_7 (by decide) (fun c2 => ?_) (fun c2 => ?_)
  · refine lv_aload_n hx hb dX5_findAltered_13 rfl (lv_at hl 0 rfl) ?_
    refine lv_iload_n hx hb dX5_findAltered_14 rfl (lv_at hl 1 rfl) ?_
    refine z_bi (wr := [(q_1, .inl (k 0, 400, .inl f_4)), (q_5, .inl (k 0, 400, .inl f_8)), (q_6, .inl (k 0, 400, .inl f_9))]) (z_runV (C := RX5) (As := [.int x_0]) (rest := []) C0 (s_X5_sumDay_1 l D k T q_0 q_2 q_3 q_4 q_7 q_8 q_9 q_10 q_11 q_12 q_1 q_5 q_6 x_0 x_1 x_2 x_3 f_5 f_6 f_7 (by first | with_reducible exact h_x_1 | (revert h_x_1; first | omega | (simp only [vp_in_iff, Int32.lt_iff_toInt_lt, Int32.le_iff_toInt_le, Int64.lt_iff_toInt_lt, Int64.le_iff_toInt_le, Int32.toInt_toInt64, ← Int32.toInt_inj, ← Int64.toInt_inj, Int32.reduceToInt, Int64.reduceToInt] <;> omega))) h_f_5 _) okV_X5_sumDay kM_X5_66 rfl (z_pV (q0 := 0) hT hS hA hK hN hP hD [0, 2, 3, 4] rfl rfl rfl rfl rfl) rfl hl.1 rfl (Nat.le_of_ble_eq_true rfl) dX5_findAltered_15 rfl) hP hD hS hA [0, 2, 3, 4] [1, 5, 6] rfl rfl rfl rfl (fun r3 u3 H locs hw3 hP hD hS => ?_)
    obtain ⟨i3, a3, v3, w3, f3, g3, o3⟩ := u3
    dsimp only at hw3
    obtain rfl := hw3
    have hP : va_P D vwCl [(q_1, .inl (k 0, 400, .inl f_4)), (q_5, .inl (k 0, 400, .inl f_8)), (q_6, .inl (k 0, 400, .inl f_9)), (q_0, .inr (5, [.int x_1, .ref q_7, .ref q_8, .ref q_2, .ref q_4, .ref q_3, .ref q_9, .ref q_10, .ref q_11, .ref q_12, .ref q_1, .ref q_5, .ref q_6, .int (v3 0), .int (v3 1)])), (q_2, .inl (k 0, 400, .inl f_5)), (q_3, .inl (k 0, 400, .inl f_6)), (q_4, .inl (k 0, 400, .inl f_7))] H := hP
    have hD : va_D A [(q_1, .inl (k 0, 400, .inl f_4)), (q_5, .inl (k 0, 400, .inl f_8)), (q_6, .inl (k 0, 400, .inl f_9)), (q_0, .inr (5, [.int x_1, .ref q_7, .ref q_8, .ref q_2, .ref q_4, .ref q_3, .ref q_9, .ref q_10, .ref q_11, .ref q_12, .ref q_1, .ref q_5, .ref q_6, .int (v3 0), .int (v3 1)])), (q_2, .inl (k 0, 400, .inl f_5)), (q_3, .inl (k 0, 400, .inl f_6)), (q_4, .inl (k 0, 400, .inl f_7))] := hD
    refine lv_istore_n (lv' := [(2, .int r3), (0, .ref q_0), (1, .int x_0)]) hx hb dX5_findAltered_18 rfl hl (by decide) rfl (fun ls hl => ?_)
    refine lv_aload_n hx hb dX5_findAltered_19 rfl (lv_at hl 1 rfl) ?_
    refine va_get (D := D) (ci := 5) (v := .int (v3 0)) (C := RX5) (T := TX5) (N := 15) hx hb hts inX5 hown hK hP 3 rfl rfl 13 (by decide) (hts _ kF_X5_69) (fun _ h9 => h9) rfl dX5_findAltered_20 ?_
    refine lv_aload_n hx hb dX5_findAltered_23 rfl (lv_at hl 1 rfl) ?_
    refine va_get (D := D) (ci := 5) (v := .ref q_5) (C := RX5) (T := TX5) (N := 15) hx hb hts inX5 hown hK hP 3 rfl rfl 11 (by decide) (hts _ kF_X5_42) (fun _ h9 => h9) rfl dX5_findAltered_24 ?_
    refine lv_iload_n hx hb dX5_findAltered_27 rfl (lv_at hl 2 rfl) ?_
    refine va_iald hx hb hK hP 1 0 rfl rfl (by first | with_reducible exact h_x_0 | (revert h_x_0; first | omega | (simp only [vp_in_iff, Int32.lt_iff_toInt_lt, Int32.le_iff_toInt_le, Int64.lt_iff_toInt_lt, Int64.le_iff_toInt_le, Int32.toInt_toInt64, ← Int32.toInt_inj, ← Int64.toInt_inj, Int32.reduceToInt, Int64.reduceToInt] <;> omega))) dX5_findAltered_28 ?_
    refine lv_topi (fun y4 ey4 => ?_)
    refine lv_isub hx hb dX5_findAltered_29 ?_
    refine lv_topi (fun y5 ey5 => ?_)
    refine lv_istore_n (lv' := [(3, .int y5), (2, .int r3), (0, .ref q_0), (1, .int x_0)]) hx hb dX5_findAltered_30 rfl hl (by decide) rfl (fun ls hl => ?_)
    refine lv_aload_n hx hb dX5_findAltered_31 rfl (lv_at hl 2 rfl) ?_
    refine va_get (D := D) (ci := 5) (v := .int (v3 1)) (C := RX5) (T := TX5) (N := 15) hx hb hts inX5 hown hK hP 3 rfl rfl 14 (by decide) (hts _ kF_X5_72) (fun _ h9 => h9) rfl dX5_findAltered_32 ?_
    refine lv_aload_n hx hb dX5_findAltered_35 rfl (lv_at hl 2 rfl) ?_
    refine va_get (D := D) (ci := 5) (v := .ref q_6) (C := RX5) (T := TX5) (N := 15) hx hb hts inX5 hown hK hP 3 rfl rfl 12 (by decide) (hts _ kF_X5_45) (fun _ h9 => h9) rfl dX5_findAltered_36 ?_
    refine lv_iload_n hx hb dX5_findAltered_39 rfl (lv_at hl 3 rfl) ?_
    refine va_iald hx hb hK hP 2 0 rfl rfl (by first | with_reducible exact h_x_0 | (revert h_x_0; first | omega | (simp only [vp_in_iff, Int32.lt_iff_toInt_lt, Int32.le_iff_toInt_le, Int64.lt_iff_toInt_lt, Int64.le_iff_toInt_le, Int32.toInt_toInt64, ← Int32.toInt_inj, ← Int64.toInt_inj, Int32.reduceToInt, Int64.reduceToInt] <;> omega))) dX5_findAltered_40 ?_
    refine lv_topi (fun y6 ey6 => ?_)
    refine lv_isub hx hb dX5_findAltered_41 ?_
    refine lv_topi (fun y7 ey7 => ?_)
    refine lv_istore (lv' := [(4, .int y7), (3, .int y5), (2, .int r3), (0, .ref q_0), (1, .int x_0)]) hx hb dX5_findAltered_42 hl (by decide) rfl (fun ls hl => ?_)
    refine lv_iload_n hx hb dX5_findAltered_44 rfl (lv_at hl 1 rfl) ?_
    refine lv_if_ne (tgt := 55) hx hb dX5_findAltered_45 (by decide) (fun c8 => ?_) (fun c8 => ?_)
    · refine lv_iload_n hx hb dX5_findAltered_55 rfl (lv_at hl 2 rfl) ?_
      refine lv_aload_n hx hb dX5_findAltered_56 rfl (lv_at hl 3 rfl) ?_
      refine va_get (D := D) (ci := 5) (v := .ref q_1) (C := RX5) (T := TX5) (N := 15) hx hb hts inX5 hown hK hP 3 rfl rfl 10 (by decide) (hts _ kF_X5_39) (fun _ h9 => h9) rfl dX5_findAltered_57 ?_
      refine lv_iload_n hx hb dX5_findAltered_60 rfl (lv_at hl 4 rfl) ?_
      refine va_iald hx hb hK hP 0 0 rfl rfl (by first | with_reducible exact h_x_0 | (revert h_x_0; first | omega | (simp only [vp_in_iff, Int32.lt_iff_toInt_lt, Int32.le_iff_toInt_le, Int64.lt_iff_toInt_lt, Int64.le_iff_toInt_le, Int32.toInt_toInt64, ← Int32.toInt_inj, ← Int64.toInt_inj, Int32.reduceToInt, Int64.reduceToInt] <;> omega))) dX5_findAltered_61 ?_
      refine lv_toc (v := y1) ey1.symm ?_
      refine lv_icmp_gt (tgt := 76) hx hb dX5_findAltered_62 (by decide) (fun c9 => ?_) (fun c9 => ?_)
      · refine lv_bipush (v := (-2)) hx hb dX5_findAltered_76 (by decide) ?_
        exact z_iret C0 hr hlk rfl hK hP hD hS (0, fun _ => 0, fun i => [(v3 0), (v3 1)].getD i 0, fun _ => 0, fun _ => (fun _ => 0), fun _ => (fun _ => 0), fun _ => (fun _ => none)) ⟨rfl, (by decide)⟩ [3, 0, 4, 5, 6, 1, 2] rfl rfl rfl dX5_findAltered_78
      · refine lv_iload_n hx hb dX5_findAltered_65 rfl (lv_at hl 1 rfl) ?_
        refine lv_if_eq (tgt := 76) hx hb dX5_findAltered_66 (by decide) (fun c10 => ?_) (fun c10 => ?_)
        · refine lv_bipush (v := (-2)) hx hb dX5_findAltered_76 (by decide) ?_
          exact z_iret C0 hr hlk rfl hK hP hD hS (0, fun _ => 0, fun i => [(v3 0), (v3 1)].getD i 0, fun _ => 0, fun _ => (fun _ => 0), fun _ => (fun _ => 0), fun _ => (fun _ => none)) ⟨rfl, (by decide)⟩ [3, 0, 4, 5, 6, 1, 2] rfl rfl rfl dX5_findAltered_78
        · refine lv_iload hx hb dX5_findAltered_69 (lv_at hl 0 rfl) ?_
          refine lv_iload_n hx hb dX5_findAltered_71 rfl (lv_at hl 1 rfl) ?_
          refine lv_irem hx hb dX5_findAltered_72 c8 ?_
          refine lv_topi (fun y11 ey11 => ?_)
          refine lv_if_eq (tgt := 79) hx hb dX5_findAltered_73 (by decide) (fun c12 => ?_) (fun c12 => ?_)
          · refine lv_aload_n hx hb dX5_findAltered_79 rfl (lv_at hl 3 rfl) ?_
            refine lv_iload_n hx hb dX5_findAltered_80 rfl (lv_at hl 4 rfl) ?_
            refine lv_iload hx hb dX5_findAltered_81 (lv_at hl 0 rfl) ?_
            refine lv_iload_n hx hb dX5_findAltered_83 rfl (lv_at hl 1 rfl) ?_
            refine lv_idiv hx hb dX5_findAltered_84 c8 ?_
            refine lv_topi (fun y13 ey13 => ?_)
            refine z_bi (wr := [(q_1, .inl (k 0, 400, .inl f_4)), (q_5, .inl (k 0, 400, .inl f_8)), (q_6, .inl (k 0, 400, .inl f_9)), (q_3, .inl (k 0, 400, .inl f_6)), (q_4, .inl (k 0, 400, .inl f_7))]) (z_runV (C := RX5) (As := [.int x_0, .int y13]) (rest := []) C0 (s_X5_markAtPlace_1 l D k T q_0 q_2 q_7 q_8 q_4 q_3 q_9 q_10 q_11 q_12 q_1 q_5 q_6 x_0 y13 x_1 (v3 0) (v3 1) f_5 (by first | with_reducible exact h_x_1 | (revert h_x_1; first | omega | (simp only [vp_in_iff, Int32.lt_iff_toInt_lt, Int32.le_iff_toInt_le, Int64.lt_iff_toInt_lt, Int64.le_iff_toInt_le, Int32.toInt_toInt64, ← Int32.toInt_inj, ← Int64.toInt_inj, Int32.reduceToInt, Int64.reduceToInt] <;> omega))) h_f_5 _) okV_X5_markAtPlace kM_X5_75 rfl (z_pV (q0 := 3) hT hS hA hK hN hP hD [3, 4] rfl rfl rfl rfl rfl) rfl hl.1 rfl (Nat.le_of_ble_eq_true rfl) dX5_findAltered_85 rfl) hP hD hS hA [3, 4] [0, 1, 2, 5, 6] rfl rfl rfl rfl (fun r14 u14 H locs hw14 hP hD hS => ?_)
            obtain ⟨i14, a14, v14, w14, f14, g14, o14⟩ := u14
            dsimp only at hw14
            obtain ⟨rfl, hr14⟩ := hw14
            have hP : va_P D vwCl [(q_1, .inl (k 0, 400, .inl f_4)), (q_5, .inl (k 0, 400, .inl f_8)), (q_6, .inl (k 0, 400, .inl f_9)), (q_3, .inl (k 0, 400, .inl f_6)), (q_4, .inl (k 0, 400, .inl f_7)), (q_0, .inr (5, [.int x_1, .ref q_7, .ref q_8, .ref q_2, .ref q_4, .ref q_3, .ref q_9, .ref q_10, .ref q_11, .ref q_12, .ref q_1, .ref q_5, .ref q_6, .int (v3 0), .int (v3 1)])), (q_2, .inl (k 0, 400, .inl f_5))] H := hP
            have hD : va_D A [(q_1, .inl (k 0, 400, .inl f_4)), (q_5, .inl (k 0, 400, .inl f_8)), (q_6, .inl (k 0, 400, .inl f_9)), (q_3, .inl (k 0, 400, .inl f_6)), (q_4, .inl (k 0, 400, .inl f_7)), (q_0, .inr (5, [.int x_1, .ref q_7, .ref q_8, .ref q_2, .ref q_4, .ref q_3, .ref q_9, .ref q_10, .ref q_11, .ref q_12, .ref q_1, .ref q_5, .ref q_6, .int (v3 0), .int (v3 1)])), (q_2, .inl (k 0, 400, .inl f_5))] := hD
            exact z_iret C0 hr hlk rfl hK hP hD hS (0, fun _ => 0, fun i => [(v3 0), (v3 1)].getD i 0, fun _ => 0, fun _ => (fun _ => 0), fun _ => (fun _ => 0), fun _ => (fun _ => none)) ⟨rfl, (by first | with_reducible exact hr14 | (revert hr14; first | omega | (simp only [vp_in_iff, Int32.lt_iff_toInt_lt, Int32.le_iff_toInt_le, Int64.lt_iff_toInt_lt, Int64.le_iff_toInt_le, Int32.toInt_toInt64, ← Int32.toInt_inj, ← Int64.toInt_inj, Int32.reduceToInt, Int64.reduceToInt] <;> omega)))⟩ [5, 0, 6, 3, 4, 1, 2] rfl rfl rfl dX5_findAltered_88
          · refine lv_bipush (v := (-2)) hx hb dX5_findAltered_76 (by decide) ?_
            exact z_iret C0 hr hlk rfl hK hP hD hS (0, fun _ => 0, fun i => [(v3 0), (v3 1)].getD i 0, fun _ => 0, fun _ => (fun _ => 0), fun _ => (fun _ => 0), fun _ => (fun _ => none)) ⟨rfl, (by decide)⟩ [3, 0, 4, 5, 6, 1, 2] rfl rfl rfl dX5_findAltered_78
    · refine lv_iload hx hb dX5_findAltered_48 (lv_at hl 0 rfl) ?_
      refine lv_if_ne (tgt := 55) hx hb dX5_findAltered_50 (by decide) (fun c15 => ?_) (fun c15 => ?_)
      · refine lv_iload_n hx hb dX5_findAltered_55 rfl (lv_at hl 2 rfl) ?_
        refine lv_aload_n hx hb dX5_findAltered_56 rfl (lv_at hl 3 rfl) ?_
        refine va_get (D := D) (ci := 5) (v := .ref q_1) (C := RX5) (T := TX5) (N := 15) hx hb hts inX5 hown hK hP 3 rfl rfl 10 (by decide) (hts _ kF_X5_39) (fun _ h9 => h9) rfl dX5_findAltered_57 ?_
        refine lv_iload_n hx hb dX5_findAltered_60 rfl (lv_at hl 4 rfl) ?_
        refine va_iald hx hb hK hP 0 0 rfl rfl (by first | with_reducible exact h_x_0 | (revert h_x_0; first | omega | (simp only [vp_in_iff, Int32.lt_iff_toInt_lt, Int32.le_iff_toInt_le, Int64.lt_iff_toInt_lt, Int64.le_iff_toInt_le, Int32.toInt_toInt64, ← Int32.toInt_inj, ← Int64.toInt_inj, Int32.reduceToInt, Int64.reduceToInt] <;> omega))) dX5_findAltered_61 ?_
        refine lv_toc (v := y1) ey1.symm ?_
        refine lv_icmp_gt (tgt := 76) hx hb dX5_findAltered_62 (by decide) (fun c16 => ?_) (fun c16 => ?_)
        · refine lv_bipush (v := (-2)) hx hb dX5_findAltered_76 (by decide) ?_
          exact z_iret C0 hr hlk rfl hK hP hD hS (0, fun _ => 0, fun i => [(v3 0), (v3 1)].getD i 0, fun _ => 0, fun _ => (fun _ => 0), fun _ => (fun _ => 0), fun _ => (fun _ => none)) ⟨rfl, (by decide)⟩ [3, 0, 4, 5, 6, 1, 2] rfl rfl rfl dX5_findAltered_78
        · refine lv_iload_n hx hb dX5_findAltered_65 rfl (lv_at hl 1 rfl) ?_
          refine lv_if_eq (tgt := 76) hx hb dX5_findAltered_66 (by decide) (fun c17 => ?_) (fun c17 => ?_)
          · refine lv_bipush (v := (-2)) hx hb dX5_findAltered_76 (by decide) ?_
            exact z_iret C0 hr hlk rfl hK hP hD hS (0, fun _ => 0, fun i => [(v3 0), (v3 1)].getD i 0, fun _ => 0, fun _ => (fun _ => 0), fun _ => (fun _ => 0), fun _ => (fun _ => none)) ⟨rfl, (by decide)⟩ [3, 0, 4, 5, 6, 1, 2] rfl rfl rfl dX5_findAltered_78
          · exact (show False by revert c8 c17; first | omega | (simp only [vp_in_iff, Int32.lt_iff_toInt_lt, Int32.le_iff_toInt_le, Int64.lt_iff_toInt_lt, Int64.le_iff_toInt_le, Int32.toInt_toInt64, ← Int32.toInt_inj, ← Int64.toInt_inj, Int32.reduceToInt, Int64.reduceToInt] <;> omega)).elim
      · refine lv_iconst (v := (-1)) hx hb dX5_findAltered_53 (by decide) ?_
        exact z_iret C0 hr hlk rfl hK hP hD hS (0, fun _ => 0, fun i => [(v3 0), (v3 1)].getD i 0, fun _ => 0, fun _ => (fun _ => 0), fun _ => (fun _ => 0), fun _ => (fun _ => none)) ⟨rfl, (by decide)⟩ [3, 0, 4, 5, 6, 1, 2] rfl rfl rfl dX5_findAltered_54
  · refine lv_bipush (v := (-3)) hx hb dX5_findAltered_10 (by decide) ?_
    exact z_iret C0 hr hlk rfl hK hP hD hS (0, fun _ => 0, fun i => [x_2, x_3].getD i 0, fun _ => 0, fun _ => (fun _ => 0), fun _ => (fun _ => 0), fun _ => (fun _ => none)) ⟨rfl, (by decide)⟩ [0, 1, 2, 3, 4, 5, 6] rfl rfl rfl dX5_findAltered_12
