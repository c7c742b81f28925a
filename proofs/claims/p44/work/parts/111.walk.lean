set_option maxHeartbeats 4000000 in
set_option maxRecDepth 100000 in
theorem s_X7_append_1 (l : Launch) (D : va_G) (k : Nat → ClassId) (T : zTy) (q_0 : Nat) (q_1 : Nat) (q_2 : Nat) (q_3 : Nat) (q_4 : Nat) (q_5 : Nat) (x_0 : Int32) (x_1 : Int32) (x_2 : Int32) (x_3 : Int32) (x_4 : Int32) (x_5 : Int32) (x_6 : Int32) (x_7 : Int32) (x_8 : Int32) (x_9 : Int32) (g_10 : Int64) (x_11 : Int32) (f_12 : Nat → Int32) (h_x_1 : 0 ≤ Int32.toInt x_1 ∧ Int32.toInt x_1 ≤ 400) (h_x_3 : 0 ≤ Int32.toInt x_3 ∧ Int32.toInt x_3 ≤ 12) (h_x_4 : 0 ≤ Int32.toInt x_4 ∧ Int32.toInt x_4 ≤ 400) (h_x_5 : 0 ≤ Int32.toInt x_5 ∧ Int32.toInt x_5 ≤ 50) (h_x_7 : 0 ≤ Int32.toInt x_7 ∧ Int32.toInt x_7 ≤ 400) (h_x_8 : 0 ≤ Int32.toInt x_8 ∧ Int32.toInt x_8 ≤ 400) (h_x_9 : 0 ≤ Int32.toInt x_9 ∧ Int32.toInt x_9 ≤ 10001) (h_f_12 : zR f_12 0 255) : zMv l yX7_append cX7_append 3 none ({ frames := 0, cells := 0, slots := 0, locals := 0 }) D k T [.ref q_0, .int x_0] [(q_0, .inr (7, [.ref q_1, .int x_1, .int x_2, .int x_3, .ref q_2, .ref q_3, .ref q_4, .ref q_5, .int x_4, .int x_5, .int x_6, .int x_7, .int x_8, .int x_9, .long g_10, .int x_11])), (q_1, .inl (k 0, 400, .inl f_12))] (fun u => u.1 = 0 ∧ (0 ≤ Int32.toInt (u.2.2.1 0) ∧ Int32.toInt (u.2.2.1 0) ≤ 400) ∧ zR (u.2.2.2.2.1 0) 0 255) (fun u => [(q_0, .inr (7, [.ref q_1, .int (u.2.2.1 0), .int x_2, .int x_3, .ref q_2, .ref q_3, .ref q_4, .ref q_5, .int x_4, .int x_5, .int x_6, .int x_7, .int x_8, .int x_9, .long g_10, .int x_11])), (q_1, .inl (k 0, 400, .inl (u.2.2.2.2.1 0)))]) := by
  refine zMv_of (own := RX7) (by decide +kernel) rfl (Nat.le_of_ble_eq_true rfl) ?_
  intro p e s m args below meth c A ls C0 hr hlk hin hP hD hS hA hK hN hT hl
  have hx := C0.1
  have hb := C0.2.1
  have hml := C0.2.2.1
  have hown := C0.2.2.2.1
  have hts := C0.2.2.2.2
  have hl : lv_has ls 3 [(0, .ref q_0), (1, .int x_0)] := hl
  have hP : va_P D vwCl [(q_0, .inr (7, [.ref q_1, .int x_1, .int x_2, .int x_3, .ref q_2, .ref q_3, .ref q_4, .ref q_5, .int x_4, .int x_5, .int x_6, .int x_7, .int x_8, .int x_9, .long g_10, .int x_11])), (q_1, .inl (k 0, 400, .inl f_12))] s.heap := hP
  refine lv_bipush (v := 24) hx hb dX7_append_0 (by decide) ?_
  refine lv_istore_n (lv' := [(2, .int 24), (0, .ref q_0), (1, .int x_0)]) hx hb dX7_append_2 rfl hl (by decide) rfl (fun ls hl => ?_)
  have loop19 : ∀ (N20 : Nat) (y16 : Int32) (y17 : Int32) (F18 : Nat → Int32) (H : Heap) (locs : List Loc) (ls : Array Slot), Int.toNat (Int32.toInt y16 - (-8)) < N20 → (-8) ≤ Int32.toInt y16 ∧ Int32.toInt y16 ≤ 24 → 0 ≤ Int32.toInt y17 ∧ Int32.toInt y17 ≤ 400 → zR F18 0 255 → Int32.toInt y17 ≥ Int32.toInt x_1 → va_P D vwCl [(q_0, .inr (7, [.ref q_1, .int y17, .int x_2, .int x_3, .ref q_2, .ref q_3, .ref q_4, .ref q_5, .int x_4, .int x_5, .int x_6, .int x_7, .int x_8, .int x_9, .long g_10, .int x_11])), (q_1, .inl (k 0, 400, .inl F18))] H → va_D A [(q_0, .inr (7, [.ref q_1, .int y17, .int x_2, .int x_3, .ref q_2, .ref q_3, .ref q_4, .ref q_5, .int x_4, .int x_5, .int x_6, .int x_7, .int x_8, .int x_9, .long g_10, .int x_11])), (q_1, .inl (k 0, 400, .inl F18))] → va_S A s.heap H locs → lv_has ls 3 [(2, .int y16), (0, .ref q_0), (1, .int x_0)] → W p l e { frames := 0, cells := 0, slots := 0, locals := 0 } s m args below meth c H locs 0 0 (MQ below (va_Qv (fun (u : zS) => u.1 = 0 ∧ (0 ≤ Int32.toInt (u.2.2.1 0) ∧ Int32.toInt (u.2.2.1 0) ≤ 400) ∧ zR (u.2.2.2.2.1 0) 0 255) (zB D k A (fun (u : zS) => [(q_0, .inr (7, [.ref q_1, .int (u.2.2.1 0), .int x_2, .int x_3, .ref q_2, .ref q_3, .ref q_4, .ref q_5, .int x_4, .int x_5, .int x_6, .int x_7, .int x_8, .int x_9, .long g_10, .int x_11])), (q_1, .inl (k 0, 400, .inl (u.2.2.2.2.1 0)))])) A) args s 0 0 A) (F0 m 3 ls []) := by
    intro N20
    induction N20 with
    | zero => intro y16 y17 F18 H locs ls hm; exact absurd hm (Nat.not_lt_zero _)
    | succ N20 ihN20 =>
      intro y16 y17 F18 H locs ls hN20 hy16 hy17 hF18 ky17 hP hD hS hl
      refine lv_iload_n hx hb dX7_append_3 rfl (lv_at hl 0 rfl) ?_
      refine lv_if_lt (tgt := 49) hx hb dX7_append_4 (by decide) (fun c21 => ?_) (fun c21 => ?_)
      · exact z_vret C0 hr hlk hK hP hD hS (0, fun _ => 0, fun i => [y17].getD i 0, fun _ => 0, fun i => [F18].getD i (fun _ => 0), fun _ => (fun _ => 0), fun _ => (fun _ => none)) ⟨rfl, (show 0 ≤ Int32.toInt (y17 : Int32) ∧ Int32.toInt (y17 : Int32) ≤ 400 from (by revert hy17 ky17 h_x_1; first | omega | (simp only [vp_in_iff, Int32.lt_iff_toInt_lt, Int32.le_iff_toInt_le, Int64.lt_iff_toInt_lt, Int64.le_iff_toInt_le, Int32.toInt_toInt64, ← Int32.toInt_inj, ← Int64.toInt_inj, Int32.reduceToInt, Int64.reduceToInt] <;> omega))), hF18⟩ [0, 1] rfl rfl rfl dX7_append_49
      · refine lv_aload_n hx hb dX7_append_7 rfl (lv_at hl 1 rfl) ?_
        refine va_get (D := D) (ci := 7) (v := .int y17) (C := RX7) (T := TX7) (N := 16) hx hb hts inX7 hown hK hP 0 rfl rfl 1 (by decide) (hts _ kF_X7_31) (fun _ h9 => h9) rfl dX7_append_8 ?_
        refine lv_sipush (v := 400) hx hb dX7_append_11 (by decide) ?_
        refine lv_icmp_ge (tgt := 49) hx hb dX7_append_14 (by decide) (fun c22 => ?_) (fun c22 => ?_)
        · exact z_vret C0 hr hlk hK hP hD hS (0, fun _ => 0, fun i => [y17].getD i 0, fun _ => 0, fun i => [F18].getD i (fun _ => 0), fun _ => (fun _ => 0), fun _ => (fun _ => none)) ⟨rfl, (show 0 ≤ Int32.toInt (y17 : Int32) ∧ Int32.toInt (y17 : Int32) ≤ 400 from (by revert hy17 ky17 c22 h_x_1; first | omega | (simp only [vp_in_iff, Int32.lt_iff_toInt_lt, Int32.le_iff_toInt_le, Int64.lt_iff_toInt_lt, Int64.le_iff_toInt_le, Int32.toInt_toInt64, ← Int32.toInt_inj, ← Int64.toInt_inj, Int32.reduceToInt, Int64.reduceToInt] <;> omega))), hF18⟩ [0, 1] rfl rfl rfl dX7_append_49
        · refine lv_aload_n hx hb dX7_append_17 rfl (lv_at hl 1 rfl) ?_
          refine va_get (D := D) (ci := 7) (v := .ref q_1) (C := RX7) (T := TX7) (N := 16) hx hb hts inX7 hown hK hP 0 rfl rfl 0 (by decide) (hts _ kF_X7_9) (fun _ h9 => h9) rfl dX7_append_18 ?_
          refine lv_aload_n hx hb dX7_append_21 rfl (lv_at hl 1 rfl) ?_
          refine va_get (D := D) (ci := 7) (v := .int y17) (C := RX7) (T := TX7) (N := 16) hx hb hts inX7 hown hK hP 0 rfl rfl 1 (by decide) (hts _ kF_X7_31) (fun _ h9 => h9) rfl dX7_append_22 ?_
          refine lv_iload_n hx hb dX7_append_25 rfl (lv_at hl 2 rfl) ?_
          refine lv_iload_n hx hb dX7_append_26 rfl (lv_at hl 0 rfl) ?_
          refine lv_ishr hx hb dX7_append_27 ?_
          refine lv_topi (fun y23 ey23 => ?_)
          refine lv_sipush (v := 255) hx hb dX7_append_28 (by decide) ?_
          refine lv_iand hx hb dX7_append_31 ?_
          refine lv_topi (fun y24 ey24 => ?_)
          have hy24 : 0 ≤ Int32.toInt y24 ∧ Int32.toInt y24 ≤ 255 := by rw [ey24]; exact zo_and _ (by decide)
          refine va_iast hx hb hK hP hD hS 1 0 rfl rfl (by revert hy17 ky17 c22 h_x_1; first | omega | (simp only [vp_in_iff, Int32.lt_iff_toInt_lt, Int32.le_iff_toInt_le, Int64.lt_iff_toInt_lt, Int64.le_iff_toInt_le, Int32.toInt_toInt64, ← Int32.toInt_inj, ← Int64.toInt_inj, Int32.reduceToInt, Int64.reduceToInt] <;> omega)) dX7_append_32 (fun H locs hP hD hS => ?_)
          have hF25 := zR_upd (j := Int32.toNatClampNeg y17) (v := y24) hF18 (by revert hy24; first | omega | (simp only [vp_in_iff, Int32.lt_iff_toInt_lt, Int32.le_iff_toInt_le, Int64.lt_iff_toInt_lt, Int64.le_iff_toInt_le, Int32.toInt_toInt64, ← Int32.toInt_inj, ← Int64.toInt_inj, Int32.reduceToInt, Int64.reduceToInt] <;> omega))
          obtain ⟨F25, eF25⟩ : ∃ q, q = upd F18 (Int32.toNatClampNeg y17) y24 := ⟨_, rfl⟩
          rw [← eF25] at hF25
          have hP : va_P D vwCl [(q_0, .inr (7, [.ref q_1, .int y17, .int x_2, .int x_3, .ref q_2, .ref q_3, .ref q_4, .ref q_5, .int x_4, .int x_5, .int x_6, .int x_7, .int x_8, .int x_9, .long g_10, .int x_11])), (q_1, .inl (k 0, 400, .inl F25))] H := by rw [eF25]; exact hP
          have hD : va_D A [(q_0, .inr (7, [.ref q_1, .int y17, .int x_2, .int x_3, .ref q_2, .ref q_3, .ref q_4, .ref q_5, .int x_4, .int x_5, .int x_6, .int x_7, .int x_8, .int x_9, .long g_10, .int x_11])), (q_1, .inl (k 0, 400, .inl F25))] := by rw [eF25]; exact hD
          refine lv_aload_n hx hb dX7_append_33 rfl (lv_at hl 1 rfl) ?_
          refine lv_dup hx hb dX7_append_34 rfl ?_
          refine va_get (D := D) (ci := 7) (v := .int y17) (C := RX7) (T := TX7) (N := 16) hx hb hts inX7 hown hK hP 0 rfl rfl 1 (by decide) (hts _ kF_X7_31) (fun _ h9 => h9) rfl dX7_append_35 ?_
          refine lv_iconst (v := 1) hx hb dX7_append_38 (by decide) ?_
          refine lv_iadd hx hb dX7_append_39 ?_
          refine lv_topi (fun y26 ey26 => ?_)
          have hy26 : Int32.toInt y26 = Int32.toInt y17 + 1 := by rw [ey26]; exact zi_addc rfl (by decide) (by revert hy17 ky17 c22 h_x_1; first | omega | (simp only [vp_in_iff, Int32.lt_iff_toInt_lt, Int32.le_iff_toInt_le, Int64.lt_iff_toInt_lt, Int64.le_iff_toInt_le, Int32.toInt_toInt64, ← Int32.toInt_inj, ← Int64.toInt_inj, Int32.reduceToInt, Int64.reduceToInt] <;> omega))
          refine va_put (D := D) (ci := 7) (v := .int y26) (ty := .int) (C := RX7) (T := TX7) (N := 16) hx hb hts inX7 tyX7 tyX7_ok nmX7 hown hK hP hD hS 0 rfl rfl 1 (by decide) (hts _ kF_X7_31) (fun _ h9 => h9) rfl (by decide +kernel) rfl rfl (Nat.le_of_ble_eq_true rfl) dX7_append_40 (fun H locs hP hD hS => ?_)
          have hP : va_P D vwCl [(q_0, .inr (7, [.ref q_1, .int y26, .int x_2, .int x_3, .ref q_2, .ref q_3, .ref q_4, .ref q_5, .int x_4, .int x_5, .int x_6, .int x_7, .int x_8, .int x_9, .long g_10, .int x_11])), (q_1, .inl (k 0, 400, .inl F25))] H := hP
          have hD : va_D A [(q_0, .inr (7, [.ref q_1, .int y26, .int x_2, .int x_3, .ref q_2, .ref q_3, .ref q_4, .ref q_5, .int x_4, .int x_5, .int x_6, .int x_7, .int x_8, .int x_9, .long g_10, .int x_11])), (q_1, .inl (k 0, 400, .inl F25))] := hD
          obtain ⟨y27, ey27⟩ : ∃ q : Int32, q = y16 + (-8) := ⟨_, rfl⟩
          have hy27 : Int32.toInt y27 = Int32.toInt y16 + (-8) := by rw [ey27]; exact zi_addc rfl (by decide) (by revert hN20 hy16 c21; first | omega | (simp only [vp_in_iff, Int32.lt_iff_toInt_lt, Int32.le_iff_toInt_le, Int64.lt_iff_toInt_lt, Int64.le_iff_toInt_le, Int32.toInt_toInt64, ← Int32.toInt_inj, ← Int64.toInt_inj, Int32.reduceToInt, Int64.reduceToInt] <;> omega))
          refine lv_iinc (v := y27) (lv' := [(2, .int y27), (0, .ref q_0), (1, .int x_0)]) hx hb dX7_append_43 hl (k := 0) rfl (by rw [ey27]; exact zz_inc (by decide)) (by decide) rfl (fun ls hl => ?_)
          refine lv_goto (tgt := 3) hx hb dX7_append_46 (by decide) ?_
          exact ihN20 y27 y26 F25 _ _ ls (by revert hN20 hy16 c21 hy27; first | omega | (simp only [vp_in_iff, Int32.lt_iff_toInt_lt, Int32.le_iff_toInt_le, Int64.lt_iff_toInt_lt, Int64.le_iff_toInt_le, Int32.toInt_toInt64, ← Int32.toInt_inj, ← Int64.toInt_inj, Int32.reduceToInt, Int64.reduceToInt] <;> omega)) (by revert hN20 hy16 c21 hy27; first | omega | (simp only [vp_in_iff, Int32.lt_iff_toInt_lt, Int32.le_iff_toInt_le, Int64.lt_iff_toInt_lt, Int64.le_iff_toInt_le, Int32.toInt_toInt64, ← Int32.toInt_inj, ← Int64.toInt_inj, Int32.reduceToInt, Int64.reduceToInt] <;> omega)) (by revert hy17 ky17 c22 hy26 h_x_1; first | omega | (simp only [vp_in_iff, Int32.lt_iff_toInt_lt, Int32.le_iff_toInt_le, Int64.lt_iff_toInt_lt, Int64.le_iff_toInt_le, Int32.toInt_toInt64, ← Int32.toInt_inj, ← Int64.toInt_inj, Int32.reduceToInt, Int64.reduceToInt] <;> omega)) hF25 (by revert h_x_1 hy17 ky17 c22 hy26; first | omega | (simp only [vp_in_iff, Int32.lt_iff_toInt_lt, Int32.le_iff_toInt_le, Int64.lt_iff_toInt_lt, Int64.le_iff_toInt_le, Int32.toInt_toInt64, ← Int32.toInt_inj, ← Int64.toInt_inj, Int32.reduceToInt, Int64.reduceToInt] <;> omega)) hP hD hS (lv_sub hl [0, 1, 2] rfl)
  exact loop19 _ 24 x_1 f_12 _ _ _ (Nat.lt_succ_self _) (by first | omega | (simp only [vp_in_iff, Int32.lt_iff_toInt_lt, Int32.le_iff_toInt_le, Int64.lt_iff_toInt_lt, Int64.le_iff_toInt_le, Int32.toInt_toInt64, ← Int32.toInt_inj, ← Int64.toInt_inj, Int32.reduceToInt, Int64.reduceToInt] <;> omega)) (by revert h_x_1; first | omega | (simp only [vp_in_iff, Int32.lt_iff_toInt_lt, Int32.le_iff_toInt_le, Int64.lt_iff_toInt_lt, Int64.le_iff_toInt_le, Int32.toInt_toInt64, ← Int32.toInt_inj, ← Int64.toInt_inj, Int32.reduceToInt, Int64.reduceToInt] <;> omega)) h_f_12 (Int.le_refl _) hP hD hS (lv_sub hl [0, 1, 2] rfl)

set_option maxHeartbeats 4000000 in
set_option maxRecDepth 100000 in
theorem s_X11_feed_1 (l : Launch) (D : va_G) (k : Nat → ClassId) (T : zTy) (q_0 : Nat) (q_1 : Nat) (q_2 : Nat) (q_3 : Nat) (q_4 : Nat) (q_5 : Nat) (q_6 : Nat) (q_7 : Nat) (q_8 : Nat) (q_9 : Nat) (q_10 : Nat) (x_0 : Int32) (x_1 : Int32) (x_2 : Int32) (x_3 : Int32) (x_4 : Int32) (x_5 : Int32) (x_6 : Int32) (x_7 : Int32) (x_8 : Int32) (x_9 : Int32) (x_10 : Int32) (x_11 : Int32) (x_12 : Int32) (x_13 : Int32) (x_14 : Int32) (g_15 : Int64) (x_16 : Int32) (f_17 : Nat → Int32) (h_x_6 : 0 ≤ Int32.toInt x_6 ∧ Int32.toInt x_6 ≤ 400) (h_x_8 : 0 ≤ Int32.toInt x_8 ∧ Int32.toInt x_8 ≤ 12) (h_x_9 : 0 ≤ Int32.toInt x_9 ∧ Int32.toInt x_9 ≤ 400) (h_x_10 : 0 ≤ Int32.toInt x_10 ∧ Int32.toInt x_10 ≤ 50) (h_x_12 : 0 ≤ Int32.toInt x_12 ∧ Int32.toInt x_12 ≤ 400) (h_x_13 : 0 ≤ Int32.toInt x_13 ∧ Int32.toInt x_13 ≤ 400) (h_x_14 : 0 ≤ Int32.toInt x_14 ∧ Int32.toInt x_14 ≤ 10001) (h_f_17 : zR f_17 0 255) : zMi l yX11_feed cX11_feed 6 (some .int) ({ frames := 1, cells := 0, slots := 0, locals := 22 }) D k T [.ref q_0, .int x_0, .int x_1, .int x_2, .int x_3, .int x_4] [(q_0, .inr (11, [.ref q_3, .ref q_4, .ref q_1, .ref q_5, .ref q_6, .int x_5])), (q_1, .inr (7, [.ref q_2, .int x_6, .int x_7, .int x_8, .ref q_7, .ref q_8, .ref q_9, .ref q_10, .int x_9, .int x_10, .int x_11, .int x_12, .int x_13, .int x_14, .long g_15, .int x_16])), (q_2, .inl (k 0, 400, .inl f_17))] (fun r u => u.1 = 0 ∧ ((-1) ≤ Int32.toInt r ∧ Int32.toInt r ≤ 400) ∧ (0 ≤ Int32.toInt (u.2.2.1 0) ∧ Int32.toInt (u.2.2.1 0) ≤ 400) ∧ zR (u.2.2.2.2.1 0) 0 255) (fun u => [(q_0, .inr (11, [.ref q_3, .ref q_4, .ref q_1, .ref q_5, .ref q_6, .int x_5])), (q_1, .inr (7, [.ref q_2, .int (u.2.2.1 0), .int x_7, .int x_8, .ref q_7, .ref q_8, .ref q_9, .ref q_10, .int x_9, .int x_10, .int x_11, .int x_12, .int x_13, .int x_14, .long g_15, .int x_16])), (q_2, .inl (k 0, 400, .inl (u.2.2.2.2.1 0)))]) := by
  refine zMi_of (own := RX11) (by decide +kernel) rfl (Nat.le_of_ble_eq_true rfl) ?_
  intro p e s m args below meth c A ls C0 hr hlk hin hP hD hS hA hK hN hT hl
  have hx := C0.1
  have hb := C0.2.1
  have hml := C0.2.2.1
  have hown := C0.2.2.2.1
  have hts := C0.2.2.2.2
  have hl : lv_has ls 6 [(0, .ref q_0), (1, .int x_0), (2, .int x_1), (3, .int x_2), (4, .int x_3), (5, .int x_4)] := hl
  have hP : va_P D vwCl [(q_0, .inr (11, [.ref q_3, .ref q_4, .ref q_1, .ref q_5, .ref q_6, .int x_5])), (q_1, .inr (7, [.ref q_2, .int x_6, .int x_7, .int x_8, .ref q_7, .ref q_8, .ref q_9, .ref q_10, .int x_9, .int x_10, .int x_11, .int x_12, .int x_13, .int x_14, .long g_15, .int x_16])), (q_2, .inl (k 0, 400, .inl f_17))] s.heap := hP
  refine lv_aload_n hx hb dX11_feed_0 rfl (lv_at hl 0 rfl) ?_
  refine va_get (D := D) (ci := 11) (v := .ref q_1) (C := RX11) (T := TX11) (N := 6) hx hb hts inX11 hown hK hP 0 rfl rfl 2 (by decide) (hts _ kF_X11_23) (fun _ h9 => h9) rfl dX11_feed_1 ?_
  refine va_get (D := D) (ci := 7) (v := .int x_6) (C := RX7) (T := TX7) (N := 16) hx hb hts inX7 hown hK hP 1 rfl rfl 1 (by decide) (hts _ kF_X11_181) (fun _ h9 => h9) rfl dX11_feed_4 ?_
  refine lv_sipush (v := 380) hx hb dX11_feed_7 (by decide) ?_
  refine lv_icmp_le (tgt := 15) hx hb dX11_feed_10 (by decide) (fun c1 => ?_) (fun c1 => ?_)
  · refine lv_aload_n hx hb dX11_feed_15 rfl (lv_at hl 0 rfl) ?_
    refine va_get (D := D) (ci := 11) (v := .ref q_1) (C := RX11) (T := TX11) (N := 6) hx hb hts inX11 hown hK hP 0 rfl rfl 2 (by decide) (hts _ kF_X11_23) (fun _ h9 => h9) rfl dX11_feed_16 ?_
    refine lv_iload_n hx hb dX11_feed_19 rfl (lv_at hl 1 rfl) ?_
    refine z_bv (wr := [(q_0, .inr (11, [.ref q_3, .ref q_4, .ref q_1, .ref q_5, .ref q_6, .int x_5]))]) (z_runV (C := RX7) (As := [.int x_0]) (rest := []) C0 (s_X7_append_1 l D k T q_1 q_2 q_7 q_8 q_9 q_10 x_0 x_6 x_7 x_8 x_9 x_10 x_11 x_12 x_13 x_14 g_15 x_16 f_17 (by revert h_x_6 c1; first | omega | (simp only [vp_in_iff, Int32.lt_iff_toInt_lt, Int32.le_iff_toInt_le, Int64.lt_iff_toInt_lt, Int64.le_iff_toInt_le, Int32.toInt_toInt64, ← Int32.toInt_inj, ← Int64.toInt_inj, Int32.reduceToInt, Int64.reduceToInt] <;> omega)) (by revert h_x_8; first | omega | (simp only [vp_in_iff, Int32.lt_iff_toInt_lt, Int32.le_iff_toInt_le, Int64.lt_iff_toInt_lt, Int64.le_iff_toInt_le, Int32.toInt_toInt64, ← Int32.toInt_inj, ← Int64.toInt_inj, Int32.reduceToInt, Int64.reduceToInt] <;> omega)) (by revert h_x_9; first | omega | (simp only [vp_in_iff, Int32.lt_iff_toInt_lt, Int32.le_iff_toInt_le, Int64.lt_iff_toInt_lt, Int64.le_iff_toInt_le, Int32.toInt_toInt64, ← Int32.toInt_inj, ← Int64.toInt_inj, Int32.reduceToInt, Int64.reduceToInt] <;> omega)) (by revert h_x_10; first | omega | (simp only [vp_in_iff, Int32.lt_iff_toInt_lt, Int32.le_iff_toInt_le, Int64.lt_iff_toInt_lt, Int64.le_iff_toInt_le, Int32.toInt_toInt64, ← Int32.toInt_inj, ← Int64.toInt_inj, Int32.reduceToInt, Int64.reduceToInt] <;> omega)) (by revert h_x_12; first | omega | (simp only [vp_in_iff, Int32.lt_iff_toInt_lt, Int32.le_iff_toInt_le, Int64.lt_iff_toInt_lt, Int64.le_iff_toInt_le, Int32.toInt_toInt64, ← Int32.toInt_inj, ← Int64.toInt_inj, Int32.reduceToInt, Int64.reduceToInt] <;> omega)) (by revert h_x_13; first | omega | (simp only [vp_in_iff, Int32.lt_iff_toInt_lt, Int32.le_iff_toInt_le, Int64.lt_iff_toInt_lt, Int64.le_iff_toInt_le, Int32.toInt_toInt64, ← Int32.toInt_inj, ← Int64.toInt_inj, Int32.reduceToInt, Int64.reduceToInt] <;> omega)) (by revert h_x_14; first | omega | (simp only [vp_in_iff, Int32.lt_iff_toInt_lt, Int32.le_iff_toInt_le, Int64.lt_iff_toInt_lt, Int64.le_iff_toInt_le, Int32.toInt_toInt64, ← Int32.toInt_inj, ← Int64.toInt_inj, Int32.reduceToInt, Int64.reduceToInt] <;> omega)) h_f_17 _) okV_X7_append kM_X11_184 rfl (z_pV (q0 := 1) hT hS hA hK hN hP hD [1, 2] rfl rfl rfl rfl rfl) rfl hl.1 rfl (Nat.le_of_ble_eq_true rfl) dX11_feed_20 rfl) hP hD hS hA [1, 2] [0] rfl rfl rfl rfl (fun u2 H locs hw2 hP hD hS => ?_)
    obtain ⟨i2, a2, v2, w2, f2, g2, o2⟩ := u2
    dsimp only at hw2
    obtain ⟨rfl, hq2_0, hq2_1⟩ := hw2
    have hP : va_P D vwCl [(q_0, .inr (11, [.ref q_3, .ref q_4, .ref q_1, .ref q_5, .ref q_6, .int x_5])), (q_1, .inr (7, [.ref q_2, .int (v2 0), .int x_7, .int x_8, .ref q_7, .ref q_8, .ref q_9, .ref q_10, .int x_9, .int x_10, .int x_11, .int x_12, .int x_13, .int x_14, .long g_15, .int x_16])), (q_2, .inl (k 0, 400, .inl (f2 0)))] H := hP
    have hD : va_D A [(q_0, .inr (11, [.ref q_3, .ref q_4, .ref q_1, .ref q_5, .ref q_6, .int x_5])), (q_1, .inr (7, [.ref q_2, .int (v2 0), .int x_7, .int x_8, .ref q_7, .ref q_8, .ref q_9, .ref q_10, .int x_9, .int x_10, .int x_11, .int x_12, .int x_13, .int x_14, .long g_15, .int x_16])), (q_2, .inl (k 0, 400, .inl (f2 0)))] := hD
    refine lv_aload_n hx hb dX11_feed_23 rfl (lv_at hl 0 rfl) ?_
    refine va_get (D := D) (ci := 11) (v := .ref q_1) (C := RX11) (T := TX11) (N := 6) hx hb hts inX11 hown hK hP 0 rfl rfl 2 (by decide) (hts _ kF_X11_23) (fun _ h9 => h9) rfl dX11_feed_24 ?_
    refine lv_iload_n hx hb dX11_feed_27 rfl (lv_at hl 2 rfl) ?_
    refine z_bv (wr := [(q_0, .inr (11, [.ref q_3, .ref q_4, .ref q_1, .ref q_5, .ref q_6, .int x_5]))]) (z_runV (C := RX7) (As := [.int x_1]) (rest := []) C0 (s_X7_append_1 l D k T q_1 q_2 q_7 q_8 q_9 q_10 x_1 (v2 0) x_7 x_8 x_9 x_10 x_11 x_12 x_13 x_14 g_15 x_16 (f2 0) (by revert hq2_0; first | omega | (simp only [vp_in_iff, Int32.lt_iff_toInt_lt, Int32.le_iff_toInt_le, Int64.lt_iff_toInt_lt, Int64.le_iff_toInt_le, Int32.toInt_toInt64, ← Int32.toInt_inj, ← Int64.toInt_inj, Int32.reduceToInt, Int64.reduceToInt] <;> omega)) (by revert h_x_8; first | omega | (simp only [vp_in_iff, Int32.lt_iff_toInt_lt, Int32.le_iff_toInt_le, Int64.lt_iff_toInt_lt, Int64.le_iff_toInt_le, Int32.toInt_toInt64, ← Int32.toInt_inj, ← Int64.toInt_inj, Int32.reduceToInt, Int64.reduceToInt] <;> omega)) (by revert h_x_9; first | omega | (simp only [vp_in_iff, Int32.lt_iff_toInt_lt, Int32.le_iff_toInt_le, Int64.lt_iff_toInt_lt, Int64.le_iff_toInt_le, Int32.toInt_toInt64, ← Int32.toInt_inj, ← Int64.toInt_inj, Int32.reduceToInt, Int64.reduceToInt] <;> omega)) (by revert h_x_10; first | omega | (simp only [vp_in_iff, Int32.lt_iff_toInt_lt, Int32.le_iff_toInt_le, Int64.lt_iff_toInt_lt, Int64.le_iff_toInt_le, Int32.toInt_toInt64, ← Int32.toInt_inj, ← Int64.toInt_inj, Int32.reduceToInt, Int64.reduceToInt] <;> omega)) (by revert h_x_12; first | omega | (simp only [vp_in_iff, Int32.lt_iff_toInt_lt, Int32.le_iff_toInt_le, Int64.lt_iff_toInt_lt, Int64.le_iff_toInt_le, Int32.toInt_toInt64, ← Int32.toInt_inj, ← Int64.toInt_inj, Int32.reduceToInt, Int64.reduceToInt] <;> omega)) (by revert h_x_13; first | omega | (simp only [vp_in_iff, Int32.lt_iff_toInt_lt, Int32.le_iff_toInt_le, Int64.lt_iff_toInt_lt, Int64.le_iff_toInt_le, Int32.toInt_toInt64, ← Int32.toInt_inj, ← Int64.toInt_inj, Int32.reduceToInt, Int64.reduceToInt] <;> omega)) (by revert h_x_14; first | omega | (simp only [vp_in_iff, Int32.lt_iff_toInt_lt, Int32.le_iff_toInt_le, Int64.lt_iff_toInt_lt, Int64.le_iff_toInt_le, Int32.toInt_toInt64, ← Int32.toInt_inj, ← Int64.toInt_inj, Int32.reduceToInt, Int64.reduceToInt] <;> omega)) hq2_1 _) okV_X7_append kM_X11_184 rfl (z_pV (q0 := 1) hT hS hA hK hN hP hD [1, 2] rfl rfl rfl rfl rfl) rfl hl.1 rfl (Nat.le_of_ble_eq_true rfl) dX11_feed_28 rfl) hP hD hS hA [1, 2] [0] rfl rfl rfl rfl (fun u3 H locs hw3 hP hD hS => ?_)
    obtain ⟨i3, a3, v3, w3, f3, g3, o3⟩ := u3
    dsimp only at hw3
    obtain ⟨rfl, hq3_0, hq3_1⟩ := hw3
    have hP : va_P D vwCl [(q_0, .inr (11, [.ref q_3, .ref q_4, .ref q_1, .ref q_5, .ref q_6, .int x_5])), (q_1, .inr (7, [.ref q_2, .int (v3 0), .int x_7, .int x_8, .ref q_7, .ref q_8, .ref q_9, .ref q_10, .int x_9, .int x_10, .int x_11, .int x_12, .int x_13, .int x_14, .long g_15, .int x_16])), (q_2, .inl (k 0, 400, .inl (f3 0)))] H := hP
    have hD : va_D A [(q_0, .inr (11, [.ref q_3, .ref q_4, .ref q_1, .ref q_5, .ref q_6, .int x_5])), (q_1, .inr (7, [.ref q_2, .int (v3 0), .int x_7, .int x_8, .ref q_7, .ref q_8, .ref q_9, .ref q_10, .int x_9, .int x_10, .int x_11, .int x_12, .int x_13, .int x_14, .long g_15, .int x_16])), (q_2, .inl (k 0, 400, .inl (f3 0)))] := hD
    refine lv_aload_n hx hb dX11_feed_31 rfl (lv_at hl 0 rfl) ?_
    refine va_get (D := D) (ci := 11) (v := .ref q_1) (C := RX11) (T := TX11) (N := 6) hx hb hts inX11 hown hK hP 0 rfl rfl 2 (by decide) (hts _ kF_X11_23) (fun _ h9 => h9) rfl dX11_feed_32 ?_
    refine lv_iload_n hx hb dX11_feed_35 rfl (lv_at hl 3 rfl) ?_
    refine z_bv (wr := [(q_0, .inr (11, [.ref q_3, .ref q_4, .ref q_1, .ref q_5, .ref q_6, .int x_5]))]) (z_runV (C := RX7) (As := [.int x_2]) (rest := []) C0 (s_X7_append_1 l D k T q_1 q_2 q_7 q_8 q_9 q_10 x_2 (v3 0) x_7 x_8 x_9 x_10 x_11 x_12 x_13 x_14 g_15 x_16 (f3 0) (by revert hq3_0; first | omega | (simp only [vp_in_iff, Int32.lt_iff_toInt_lt, Int32.le_iff_toInt_le, Int64.lt_iff_toInt_lt, Int64.le_iff_toInt_le, Int32.toInt_toInt64, ← Int32.toInt_inj, ← Int64.toInt_inj, Int32.reduceToInt, Int64.reduceToInt] <;> omega)) (by revert h_x_8; first | omega | (simp only [vp_in_iff, Int32.lt_iff_toInt_lt, Int32.le_iff_toInt_le, Int64.lt_iff_toInt_lt, Int64.le_iff_toInt_le, Int32.toInt_toInt64, ← Int32.toInt_inj, ← Int64.toInt_inj, Int32.reduceToInt, Int64.reduceToInt] <;> omega)) (by revert h_x_9; first | omega | (simp only [vp_in_iff, Int32.lt_iff_toInt_lt, Int32.le_iff_toInt_le, Int64.lt_iff_toInt_lt, Int64.le_iff_toInt_le, Int32.toInt_toInt64, ← Int32.toInt_inj, ← Int64.toInt_inj, Int32.reduceToInt, Int64.reduceToInt] <;> omega)) (by revert h_x_10; first | omega | (simp only [vp_in_iff, Int32.lt_iff_toInt_lt, Int32.le_iff_toInt_le, Int64.lt_iff_toInt_lt, Int64.le_iff_toInt_le, Int32.toInt_toInt64, ← Int32.toInt_inj, ← Int64.toInt_inj, Int32.reduceToInt, Int64.reduceToInt] <;> omega)) (by revert h_x_12; first | omega | (simp only [vp_in_iff, Int32.lt_iff_toInt_lt, Int32.le_iff_toInt_le, Int64.lt_iff_toInt_lt, Int64.le_iff_toInt_le, Int32.toInt_toInt64, ← Int32.toInt_inj, ← Int64.toInt_inj, Int32.reduceToInt, Int64.reduceToInt] <;> omega)) (by revert h_x_13; first | omega | (simp only [vp_in_iff, Int32.lt_iff_toInt_lt, Int32.le_iff_toInt_le, Int64.lt_iff_toInt_lt, Int64.le_iff_toInt_le, Int32.toInt_toInt64, ← Int32.toInt_inj, ← Int64.toInt_inj, Int32.reduceToInt, Int64.reduceToInt] <;> omega)) (by revert h_x_14; first | omega | (simp only [vp_in_iff, Int32.lt_iff_toInt_lt, Int32.le_iff_toInt_le, Int64.lt_iff_toInt_lt, Int64.le_iff_toInt_le, Int32.toInt_toInt64, ← Int32.toInt_inj, ← Int64.toInt_inj, Int32.reduceToInt, Int64.reduceToInt] <;> omega)) hq3_1 _) okV_X7_append kM_X11_184 rfl (z_pV (q0 := 1) hT hS hA hK hN hP hD [1, 2] rfl rfl rfl rfl rfl) rfl hl.1 rfl (Nat.le_of_ble_eq_true rfl) dX11_feed_36 rfl) hP hD hS hA [1, 2] [0] rfl rfl rfl rfl (fun u4 H locs hw4 hP hD hS => ?_)
    obtain ⟨i4, a4, v4, w4, f4, g4, o4⟩ := u4
    dsimp only at hw4
    obtain ⟨rfl, hq4_0, hq4_1⟩ := hw4
    have hP : va_P D vwCl [(q_0, .inr (11, [.ref q_3, .ref q_4, .ref q_1, .ref q_5, .ref q_6, .int x_5])), (q_1, .inr (7, [.ref q_2, .int (v4 0), .int x_7, .int x_8, .ref q_7, .ref q_8, .ref q_9, .ref q_10, .int x_9, .int x_10, .int x_11, .int x_12, .int x_13, .int x_14, .long g_15, .int x_16])), (q_2, .inl (k 0, 400, .inl (f4 0)))] H := hP
    have hD : va_D A [(q_0, .inr (11, [.ref q_3, .ref q_4, .ref q_1, .ref q_5, .ref q_6, .int x_5])), (q_1, .inr (7, [.ref q_2, .int (v4 0), .int x_7, .int x_8, .ref q_7, .ref q_8, .ref q_9, .ref q_10, .int x_9, .int x_10, .int x_11, .int x_12, .int x_13, .int x_14, .long g_15, .int x_16])), (q_2, .inl (k 0, 400, .inl (f4 0)))] := hD
    refine lv_aload_n hx hb dX11_feed_39 rfl (lv_at hl 0 rfl) ?_
    refine va_get (D := D) (ci := 11) (v := .ref q_1) (C := RX11) (T := TX11) (N := 6) hx hb hts inX11 hown hK hP 0 rfl rfl 2 (by decide) (hts _ kF_X11_23) (fun _ h9 => h9) rfl dX11_feed_40 ?_
    refine lv_iload hx hb dX11_feed_43 (lv_at hl 4 rfl) ?_
    refine z_bv (wr := [(q_0, .inr (11, [.ref q_3, .ref q_4, .ref q_1, .ref q_5, .ref q_6, .int x_5]))]) (z_runV (C := RX7) (As := [.int x_3]) (rest := []) C0 (s_X7_append_1 l D k T q_1 q_2 q_7 q_8 q_9 q_10 x_3 (v4 0) x_7 x_8 x_9 x_10 x_11 x_12 x_13 x_14 g_15 x_16 (f4 0) (by revert hq4_0; first | omega | (simp only [vp_in_iff, Int32.lt_iff_toInt_lt, Int32.le_iff_toInt_le, Int64.lt_iff_toInt_lt, Int64.le_iff_toInt_le, Int32.toInt_toInt64, ← Int32.toInt_inj, ← Int64.toInt_inj, Int32.reduceToInt, Int64.reduceToInt] <;> omega)) (by revert h_x_8; first | omega | (simp only [vp_in_iff, Int32.lt_iff_toInt_lt, Int32.le_iff_toInt_le, Int64.lt_iff_toInt_lt, Int64.le_iff_toInt_le, Int32.toInt_toInt64, ← Int32.toInt_inj, ← Int64.toInt_inj, Int32.reduceToInt, Int64.reduceToInt] <;> omega)) (by revert h_x_9; first | omega | (simp only [vp_in_iff, Int32.lt_iff_toInt_lt, Int32.le_iff_toInt_le, Int64.lt_iff_toInt_lt, Int64.le_iff_toInt_le, Int32.toInt_toInt64, ← Int32.toInt_inj, ← Int64.toInt_inj, Int32.reduceToInt, Int64.reduceToInt] <;> omega)) (by revert h_x_10; first | omega | (simp only [vp_in_iff, Int32.lt_iff_toInt_lt, Int32.le_iff_toInt_le, Int64.lt_iff_toInt_lt, Int64.le_iff_toInt_le, Int32.toInt_toInt64, ← Int32.toInt_inj, ← Int64.toInt_inj, Int32.reduceToInt, Int64.reduceToInt] <;> omega)) (by revert h_x_12; first | omega | (simp only [vp_in_iff, Int32.lt_iff_toInt_lt, Int32.le_iff_toInt_le, Int64.lt_iff_toInt_lt, Int64.le_iff_toInt_le, Int32.toInt_toInt64, ← Int32.toInt_inj, ← Int64.toInt_inj, Int32.reduceToInt, Int64.reduceToInt] <;> omega)) (by revert h_x_13; first | omega | (simp only [vp_in_iff, Int32.lt_iff_toInt_lt, Int32.le_iff_toInt_le, Int64.lt_iff_toInt_lt, Int64.le_iff_toInt_le, Int32.toInt_toInt64, ← Int32.toInt_inj, ← Int64.toInt_inj, Int32.reduceToInt, Int64.reduceToInt] <;> omega)) (by revert h_x_14; first | omega | (simp only [vp_in_iff, Int32.lt_iff_toInt_lt, Int32.le_iff_toInt_le, Int64.lt_iff_toInt_lt, Int64.le_iff_toInt_le, Int32.toInt_toInt64, ← Int32.toInt_inj, ← Int64.toInt_inj, Int32.reduceToInt, Int64.reduceToInt] <;> omega)) hq4_1 _) okV_X7_append kM_X11_184 rfl (z_pV (q0 := 1) hT hS hA hK hN hP hD [1, 2] rfl rfl rfl rfl rfl) rfl hl.1 rfl (Nat.le_of_ble_eq_true rfl) dX11_feed_45 rfl) hP hD hS hA [1, 2] [0] rfl rfl rfl rfl (fun u5 H locs hw5 hP hD hS => ?_)
    obtain ⟨i5, a5, v5, w5, f5, g5, o5⟩ := u5
    dsimp only at hw5
    obtain ⟨rfl, hq5_0, hq5_1⟩ := hw5
    have hP : va_P D vwCl [(q_0, .inr (11, [.ref q_3, .ref q_4, .ref q_1, .ref q_5, .ref q_6, .int x_5])), (q_1, .inr (7, [.ref q_2, .int (v5 0), .int x_7, .int x_8, .ref q_7, .ref q_8, .ref q_9, .ref q_10, .int x_9, .int x_10, .int x_11, .int x_12, .int x_13, .int x_14, .long g_15, .int x_16])), (q_2, .inl (k 0, 400, .inl (f5 0)))] H := hP
    have hD : va_D A [(q_0, .inr (11, [.ref q_3, .ref q_4, .ref q_1, .ref q_5, .ref q_6, .int x_5])), (q_1, .inr (7, [.ref q_2, .int (v5 0), .int x_7, .int x_8, .ref q_7, .ref q_8, .ref q_9, .ref q_10, .int x_9, .int x_10, .int x_11, .int x_12, .int x_13, .int x_14, .long g_15, .int x_16])), (q_2, .inl (k 0, 400, .inl (f5 0)))] := hD
    refine lv_aload_n hx hb dX11_feed_48 rfl (lv_at hl 0 rfl) ?_
    refine va_get (D := D) (ci := 11) (v := .ref q_1) (C := RX11) (T := TX11) (N := 6) hx hb hts inX11 hown hK hP 0 rfl rfl 2 (by decide) (hts _ kF_X11_23) (fun _ h9 => h9) rfl dX11_feed_49 ?_
    refine lv_iload hx hb dX11_feed_52 (lv_at hl 5 rfl) ?_
    refine z_bv (wr := [(q_0, .inr (11, [.ref q_3, .ref q_4, .ref q_1, .ref q_5, .ref q_6, .int x_5]))]) (z_runV (C := RX7) (As := [.int x_4]) (rest := []) C0 (s_X7_append_1 l D k T q_1 q_2 q_7 q_8 q_9 q_10 x_4 (v5 0) x_7 x_8 x_9 x_10 x_11 x_12 x_13 x_14 g_15 x_16 (f5 0) (by revert hq5_0; first | omega | (simp only [vp_in_iff, Int32.lt_iff_toInt_lt, Int32.le_iff_toInt_le, Int64.lt_iff_toInt_lt, Int64.le_iff_toInt_le, Int32.toInt_toInt64, ← Int32.toInt_inj, ← Int64.toInt_inj, Int32.reduceToInt, Int64.reduceToInt] <;> omega)) (by revert h_x_8; first | omega | (simp only [vp_in_iff, Int32.lt_iff_toInt_lt, Int32.le_iff_toInt_le, Int64.lt_iff_toInt_lt, Int64.le_iff_toInt_le, Int32.toInt_toInt64, ← Int32.toInt_inj, ← Int64.toInt_inj, Int32.reduceToInt, Int64.reduceToInt] <;> omega)) (by revert h_x_9; first | omega | (simp only [vp_in_iff, Int32.lt_iff_toInt_lt, Int32.le_iff_toInt_le, Int64.lt_iff_toInt_lt, Int64.le_iff_toInt_le, Int32.toInt_toInt64, ← Int32.toInt_inj, ← Int64.toInt_inj, Int32.reduceToInt, Int64.reduceToInt] <;> omega)) (by revert h_x_10; first | omega | (simp only [vp_in_iff, Int32.lt_iff_toInt_lt, Int32.le_iff_toInt_le, Int64.lt_iff_toInt_lt, Int64.le_iff_toInt_le, Int32.toInt_toInt64, ← Int32.toInt_inj, ← Int64.toInt_inj, Int32.reduceToInt, Int64.reduceToInt] <;> omega)) (by revert h_x_12; first | omega | (simp only [vp_in_iff, Int32.lt_iff_toInt_lt, Int32.le_iff_toInt_le, Int64.lt_iff_toInt_lt, Int64.le_iff_toInt_le, Int32.toInt_toInt64, ← Int32.toInt_inj, ← Int64.toInt_inj, Int32.reduceToInt, Int64.reduceToInt] <;> omega)) (by revert h_x_13; first | omega | (simp only [vp_in_iff, Int32.lt_iff_toInt_lt, Int32.le_iff_toInt_le, Int64.lt_iff_toInt_lt, Int64.le_iff_toInt_le, Int32.toInt_toInt64, ← Int32.toInt_inj, ← Int64.toInt_inj, Int32.reduceToInt, Int64.reduceToInt] <;> omega)) (by revert h_x_14; first | omega | (simp only [vp_in_iff, Int32.lt_iff_toInt_lt, Int32.le_iff_toInt_le, Int64.lt_iff_toInt_lt, Int64.le_iff_toInt_le, Int32.toInt_toInt64, ← Int32.toInt_inj, ← Int64.toInt_inj, Int32.reduceToInt, Int64.reduceToInt] <;> omega)) hq5_1 _) okV_X7_append kM_X11_184 rfl (z_pV (q0 := 1) hT hS hA hK hN hP hD [1, 2] rfl rfl rfl rfl rfl) rfl hl.1 rfl (Nat.le_of_ble_eq_true rfl) dX11_feed_54 rfl) hP hD hS hA [1, 2] [0] rfl rfl rfl rfl (fun u6 H locs hw6 hP hD hS => ?_)
    obtain ⟨i6, a6, v6, w6, f6, g6, o6⟩ := u6
    dsimp only at hw6
    obtain ⟨rfl, hq6_0, hq6_1⟩ := hw6
    have hP : va_P D vwCl [(q_0, .inr (11, [.ref q_3, .ref q_4, .ref q_1, .ref q_5, .ref q_6, .int x_5])), (q_1, .inr (7, [.ref q_2, .int (v6 0), .int x_7, .int x_8, .ref q_7, .ref q_8, .ref q_9, .ref q_10, .int x_9, .int x_10, .int x_11, .int x_12, .int x_13, .int x_14, .long g_15, .int x_16])), (q_2, .inl (k 0, 400, .inl (f6 0)))] H := hP
    have hD : va_D A [(q_0, .inr (11, [.ref q_3, .ref q_4, .ref q_1, .ref q_5, .ref q_6, .int x_5])), (q_1, .inr (7, [.ref q_2, .int (v6 0), .int x_7, .int x_8, .ref q_7, .ref q_8, .ref q_9, .ref q_10, .int x_9, .int x_10, .int x_11, .int x_12, .int x_13, .int x_14, .long g_15, .int x_16])), (q_2, .inl (k 0, 400, .inl (f6 0)))] := hD
    refine lv_aload_n hx hb dX11_feed_57 rfl (lv_at hl 0 rfl) ?_
    refine va_get (D := D) (ci := 11) (v := .ref q_1) (C := RX11) (T := TX11) (N := 6) hx hb hts inX11 hown hK hP 0 rfl rfl 2 (by decide) (hts _ kF_X11_23) (fun _ h9 => h9) rfl dX11_feed_58 ?_
    refine va_get (D := D) (ci := 7) (v := .int (v6 0)) (C := RX7) (T := TX7) (N := 16) hx hb hts inX7 hown hK hP 1 rfl rfl 1 (by decide) (hts _ kF_X11_181) (fun _ h9 => h9) rfl dX11_feed_61 ?_
    exact z_iret C0 hr hlk rfl hK hP hD hS (0, fun _ => 0, fun i => [(v6 0)].getD i 0, fun _ => 0, fun i => [(f6 0)].getD i (fun _ => 0), fun _ => (fun _ => 0), fun _ => (fun _ => none)) ⟨rfl, (by revert hq6_0; first | omega | (simp only [vp_in_iff, Int32.lt_iff_toInt_lt, Int32.le_iff_toInt_le, Int64.lt_iff_toInt_lt, Int64.le_iff_toInt_le, Int32.toInt_toInt64, ← Int32.toInt_inj, ← Int64.toInt_inj, Int32.reduceToInt, Int64.reduceToInt] <;> omega)), (show 0 ≤ Int32.toInt ((v6 0) : Int32) ∧ Int32.toInt ((v6 0) : Int32) ≤ 400 from (by revert hq6_0; first | omega | (simp only [vp_in_iff, Int32.lt_iff_toInt_lt, Int32.le_iff_toInt_le, Int64.lt_iff_toInt_lt, Int64.le_iff_toInt_le, Int32.toInt_toInt64, ← Int32.toInt_inj, ← Int64.toInt_inj, Int32.reduceToInt, Int64.reduceToInt] <;> omega))), hq6_1⟩ [0, 1, 2] rfl rfl rfl dX11_feed_64
  · refine lv_iconst (v := (-1)) hx hb dX11_feed_13 (by decide) ?_
    exact z_iret C0 hr hlk rfl hK hP hD hS (0, fun _ => 0, fun i => [x_6].getD i 0, fun _ => 0, fun i => [f_17].getD i (fun _ => 0), fun _ => (fun _ => 0), fun _ => (fun _ => none)) ⟨rfl, (by decide), (show 0 ≤ Int32.toInt (x_6 : Int32) ∧ Int32.toInt (x_6 : Int32) ≤ 400 from (by revert h_x_6 c1; first | omega | (simp only [vp_in_iff, Int32.lt_iff_toInt_lt, Int32.le_iff_toInt_le, Int64.lt_iff_toInt_lt, Int64.le_iff_toInt_le, Int32.toInt_toInt64, ← Int32.toInt_inj, ← Int64.toInt_inj, Int32.reduceToInt, Int64.reduceToInt] <;> omega))), h_f_17⟩ [0, 1, 2] rfl rfl rfl dX11_feed_14

set_option maxHeartbeats 4000000 in
set_option maxRecDepth 100000 in
theorem s_X11_end_1 (l : Launch) (D : va_G) (k : Nat → ClassId) (T : zTy) (q_0 : Nat) (q_1 : Nat) (q_2 : Nat) (q_3 : Nat) (q_4 : Nat) (q_5 : Nat) (q_6 : Nat) (q_7 : Nat) (q_8 : Nat) (q_9 : Nat) (q_10 : Nat) (x_0 : Int32) (x_1 : Int32) (x_2 : Int32) (x_3 : Int32) (x_4 : Int32) (x_5 : Int32) (x_6 : Int32) (x_7 : Int32) (x_8 : Int32) (x_9 : Int32) (x_10 : Int32) (g_11 : Int64) (x_12 : Int32) (h_x_2 : 0 ≤ Int32.toInt x_2 ∧ Int32.toInt x_2 ≤ 400) (h_x_4 : 0 ≤ Int32.toInt x_4 ∧ Int32.toInt x_4 ≤ 12) (h_x_5 : 0 ≤ Int32.toInt x_5 ∧ Int32.toInt x_5 ≤ 400) (h_x_6 : 0 ≤ Int32.toInt x_6 ∧ Int32.toInt x_6 ≤ 50) (h_x_8 : 0 ≤ Int32.toInt x_8 ∧ Int32.toInt x_8 ≤ 400) (h_x_9 : 0 ≤ Int32.toInt x_9 ∧ Int32.toInt x_9 ≤ 400) (h_x_10 : 0 ≤ Int32.toInt x_10 ∧ Int32.toInt x_10 ≤ 10001) : zMi l yX11_end cX11_end 2 (some .int) ({ frames := 1, cells := 0, slots := 0, locals := 22 }) D k T [.ref q_0, .int x_0] [(q_0, .inr (11, [.ref q_2, .ref q_3, .ref q_1, .ref q_4, .ref q_5, .int x_1])), (q_1, .inr (7, [.ref q_6, .int x_2, .int x_3, .int x_4, .ref q_7, .ref q_8, .ref q_9, .ref q_10, .int x_5, .int x_6, .int x_7, .int x_8, .int x_9, .int x_10, .long g_11, .int x_12]))] (fun r u => u.1 = 0 ∧ ((-1) ≤ Int32.toInt r ∧ Int32.toInt r ≤ 400) ∧ (0 ≤ Int32.toInt (u.2.2.1 0) ∧ Int32.toInt (u.2.2.1 0) ≤ 400)) (fun u => [(q_0, .inr (11, [.ref q_2, .ref q_3, .ref q_1, .ref q_4, .ref q_5, .int x_1])), (q_1, .inr (7, [.ref q_6, .int (u.2.2.1 0), .int x_3, .int x_4, .ref q_7, .ref q_8, .ref q_9, .ref q_10, .int x_5, .int x_6, .int x_7, .int x_8, .int x_9, .int x_10, .long g_11, .int x_12]))]) := by
  refine zMi_of (own := RX11) (by decide +kernel) rfl (Nat.le_of_ble_eq_true rfl) ?_
  intro p e s m args below meth c A ls C0 hr hlk hin hP hD hS hA hK hN hT hl
  have hx := C0.1
  have hb := C0.2.1
  have hml := C0.2.2.1
  have hown := C0.2.2.2.1
  have hts := C0.2.2.2.2
  have hl : lv_has ls 2 [(0, .ref q_0), (1, .int x_0)] := hl
  have hP : va_P D vwCl [(q_0, .inr (11, [.ref q_2, .ref q_3, .ref q_1, .ref q_4, .ref q_5, .int x_1])), (q_1, .inr (7, [.ref q_6, .int x_2, .int x_3, .int x_4, .ref q_7, .ref q_8, .ref q_9, .ref q_10, .int x_5, .int x_6, .int x_7, .int x_8, .int x_9, .int x_10, .long g_11, .int x_12]))] s.heap := hP
  refine lv_iload_n hx hb dX11_end_0 rfl (lv_at hl 1 rfl) ?_
  refine lv_iconst (v := 0) hx hb dX11_end_1 (by decide) ?_
  refine lv_aload_n hx hb dX11_end_2 rfl (lv_at hl 0 rfl) ?_
  refine va_get (D := D) (ci := 11) (v := .ref q_1) (C := RX11) (T := TX11) (N := 6) hx hb hts inX11 hown hK hP 0 rfl rfl 2 (by decide) (hts _ kF_X11_23) (fun _ h9 => h9) rfl dX11_end_3 ?_
  refine va_get (D := D) (ci := 7) (v := .int x_2) (C := RX7) (T := TX7) (N := 16) hx hb hts inX7 hown hK hP 1 rfl rfl 1 (by decide) (hts _ kF_X11_181) (fun _ h9 => h9) rfl dX11_end_6 ?_
  refine z_bi0 (z_runS (As := [.int x_0, .int 0, .int x_2]) (rest := []) C0 (s_X11_isOutside_1 l D k T x_0 0 x_2 _) okS_X11_isOutside kM_X11_47 rfl (z_p0 hT hS hA hK hN) rfl hl.1 rfl (Nat.le_of_ble_eq_true rfl) dX11_end_9 rfl) hP hS hA (fun r1 u1 H locs hw1 hP hS => ?_)
  obtain ⟨i1, a1, v1, w1, f1, g1, o1⟩ := u1
  dsimp only at hw1
  rcases hw1 with ⟨rfl, rfl, c1⟩ | ⟨rfl, rfl, c1⟩
  · refine lv_if_eq (tgt := 17) hx hb dX11_end_12 (by decide) (fun c2 => absurd c2 (by decide)) (fun _ => ?_)
    refine lv_iconst (v := (-1)) hx hb dX11_end_15 (by decide) ?_
    exact z_iret C0 hr hlk rfl hK hP hD hS (0, fun _ => 0, fun i => [x_2].getD i 0, fun _ => 0, fun _ => (fun _ => 0), fun _ => (fun _ => 0), fun _ => (fun _ => none)) ⟨rfl, (by decide), (show 0 ≤ Int32.toInt (x_2 : Int32) ∧ Int32.toInt (x_2 : Int32) ≤ 400 from (by revert h_x_2 c1; first | omega | (simp only [vp_in_iff, Int32.lt_iff_toInt_lt, Int32.le_iff_toInt_le, Int64.lt_iff_toInt_lt, Int64.le_iff_toInt_le, Int32.toInt_toInt64, ← Int32.toInt_inj, ← Int64.toInt_inj, Int32.reduceToInt, Int64.reduceToInt] <;> omega)))⟩ [0, 1] rfl rfl rfl dX11_end_16
  · refine lv_if_eq (tgt := 17) hx hb dX11_end_12 (by decide) (fun _ => ?_) (fun c3 => absurd (by decide) c3)
    refine lv_aload_n hx hb dX11_end_17 rfl (lv_at hl 0 rfl) ?_
    refine va_get (D := D) (ci := 11) (v := .ref q_1) (C := RX11) (T := TX11) (N := 6) hx hb hts inX11 hown hK hP 0 rfl rfl 2 (by decide) (hts _ kF_X11_23) (fun _ h9 => h9) rfl dX11_end_18 ?_
    refine lv_iload_n hx hb dX11_end_21 rfl (lv_at hl 1 rfl) ?_
    refine va_put (D := D) (ci := 7) (v := .int x_0) (ty := .int) (C := RX7) (T := TX7) (N := 16) hx hb hts inX7 tyX7 tyX7_ok nmX7 hown hK hP hD hS 1 rfl rfl 1 (by decide) (hts _ kF_X11_181) (fun _ h9 => h9) rfl (by decide +kernel) rfl rfl (Nat.le_of_ble_eq_true rfl) dX11_end_22 (fun H locs hP hD hS => ?_)
    have hP : va_P D vwCl [(q_0, .inr (11, [.ref q_2, .ref q_3, .ref q_1, .ref q_4, .ref q_5, .int x_1])), (q_1, .inr (7, [.ref q_6, .int x_0, .int x_3, .int x_4, .ref q_7, .ref q_8, .ref q_9, .ref q_10, .int x_5, .int x_6, .int x_7, .int x_8, .int x_9, .int x_10, .long g_11, .int x_12]))] H := hP
    have hD : va_D A [(q_0, .inr (11, [.ref q_2, .ref q_3, .ref q_1, .ref q_4, .ref q_5, .int x_1])), (q_1, .inr (7, [.ref q_6, .int x_0, .int x_3, .int x_4, .ref q_7, .ref q_8, .ref q_9, .ref q_10, .int x_5, .int x_6, .int x_7, .int x_8, .int x_9, .int x_10, .long g_11, .int x_12]))] := hD
    refine lv_iload_n hx hb dX11_end_25 rfl (lv_at hl 1 rfl) ?_
    exact z_iret C0 hr hlk rfl hK hP hD hS (0, fun _ => 0, fun i => [x_0].getD i 0, fun _ => 0, fun _ => (fun _ => 0), fun _ => (fun _ => 0), fun _ => (fun _ => none)) ⟨rfl, (by revert c1 h_x_2; first | omega | (simp only [vp_in_iff, Int32.lt_iff_toInt_lt, Int32.le_iff_toInt_le, Int64.lt_iff_toInt_lt, Int64.le_iff_toInt_le, Int32.toInt_toInt64, ← Int32.toInt_inj, ← Int64.toInt_inj, Int32.reduceToInt, Int64.reduceToInt] <;> omega)), (show 0 ≤ Int32.toInt (x_0 : Int32) ∧ Int32.toInt (x_0 : Int32) ≤ 400 from (by revert c1 h_x_2; first | omega | (simp only [vp_in_iff, Int32.lt_iff_toInt_lt, Int32.le_iff_toInt_le, Int64.lt_iff_toInt_lt, Int64.le_iff_toInt_le, Int32.toInt_toInt64, ← Int32.toInt_inj, ← Int64.toInt_inj, Int32.reduceToInt, Int64.reduceToInt] <;> omega)))⟩ [0, 1] rfl rfl rfl dX11_end_26

set_option maxHeartbeats 4000000 in
set_option maxRecDepth 100000 in
theorem s_X11_fault_1 (l : Launch) (D : va_G) (k : Nat → ClassId) (T : zTy) (q_0 : Nat) (q_1 : Nat) (q_2 : Nat) (q_3 : Nat) (q_4 : Nat) (q_5 : Nat) (q_6 : Nat) (q_7 : Nat) (q_8 : Nat) (q_9 : Nat) (q_10 : Nat) (x_0 : Int32) (x_1 : Int32) (x_2 : Int32) (x_3 : Int32) (x_4 : Int32) (x_5 : Int32) (x_6 : Int32) (x_7 : Int32) (x_8 : Int32) (x_9 : Int32) (g_10 : Int64) (x_11 : Int32) (h_x_1 : 0 ≤ Int32.toInt x_1 ∧ Int32.toInt x_1 ≤ 400) (h_x_3 : 0 ≤ Int32.toInt x_3 ∧ Int32.toInt x_3 ≤ 12) (h_x_4 : 0 ≤ Int32.toInt x_4 ∧ Int32.toInt x_4 ≤ 400) (h_x_5 : 0 ≤ Int32.toInt x_5 ∧ Int32.toInt x_5 ≤ 50) (h_x_7 : 0 ≤ Int32.toInt x_7 ∧ Int32.toInt x_7 ≤ 400) (h_x_8 : 0 ≤ Int32.toInt x_8 ∧ Int32.toInt x_8 ≤ 400) (h_x_9 : 0 ≤ Int32.toInt x_9 ∧ Int32.toInt x_9 ≤ 10001) : zMi l yX11_fault cX11_fault 1 (some .int) ({ frames := 0, cells := 0, slots := 0, locals := 0 }) D k T [.ref q_0] [(q_0, .inr (11, [.ref q_2, .ref q_3, .ref q_1, .ref q_4, .ref q_5, .int x_0])), (q_1, .inr (7, [.ref q_6, .int x_1, .int x_2, .int x_3, .ref q_7, .ref q_8, .ref q_9, .ref q_10, .int x_4, .int x_5, .int x_6, .int x_7, .int x_8, .int x_9, .long g_10, .int x_11]))] (fun r u => u.1 = 0) (fun u => [(q_0, .inr (11, [.ref q_2, .ref q_3, .ref q_1, .ref q_4, .ref q_5, .int x_0])), (q_1, .inr (7, [.ref q_6, .int x_1, .int x_2, .int x_3, .ref q_7, .ref q_8, .ref q_9, .ref q_10, .int x_4, .int x_5, .int x_6, .int x_7, .int x_8, .int x_9, .long g_10, .int x_11]))]) := by
  refine zMi_of (own := RX11) (by decide +kernel) rfl (Nat.le_of_ble_eq_true rfl) ?_
  intro p e s m args below meth c A ls C0 hr hlk hin hP hD hS hA hK hN hT hl
  have hx := C0.1
  have hb := C0.2.1
  have hml := C0.2.2.1
  have hown := C0.2.2.2.1
  have hts := C0.2.2.2.2
  have hl : lv_has ls 1 [(0, .ref q_0)] := hl
  have hP : va_P D vwCl [(q_0, .inr (11, [.ref q_2, .ref q_3, .ref q_1, .ref q_4, .ref q_5, .int x_0])), (q_1, .inr (7, [.ref q_6, .int x_1, .int x_2, .int x_3, .ref q_7, .ref q_8, .ref q_9, .ref q_10, .int x_4, .int x_5, .int x_6, .int x_7, .int x_8, .int x_9, .long g_10, .int x_11]))] s.heap := hP
  refine lv_aload_n hx hb dX11_fault_0 rfl (lv_at hl 0 rfl) ?_
  refine va_get (D := D) (ci := 11) (v := .ref q_1) (C := RX11) (T := TX11) (N := 6) hx hb hts inX11 hown hK hP 0 rfl rfl 2 (by decide) (hts _ kF_X11_23) (fun _ h9 => h9) rfl dX11_fault_1 ?_
  refine va_get (D := D) (ci := 7) (v := .int x_2) (C := RX7) (T := TX7) (N := 16) hx hb hts inX7 hown hK hP 1 rfl rfl 2 (by decide) (hts _ kF_X11_204) (fun _ h9 => h9) rfl dX11_fault_4 ?_
  exact z_iret C0 hr hlk rfl hK hP hD hS (0, fun _ => 0, fun _ => 0, fun _ => 0, fun _ => (fun _ => 0), fun _ => (fun _ => 0), fun _ => (fun _ => none)) rfl [0, 1] rfl rfl rfl dX11_fault_7

set_option maxHeartbeats 4000000 in
set_option maxRecDepth 100000 in
theorem s_X1_isInForce_1 (l : Launch) (D : va_G) (k : Nat → ClassId) (T : zTy) (q_0 : Nat) (q_1 : Nat) (q_2 : Nat) (q_3 : Nat) (q_4 : Nat) (q_5 : Nat) (q_6 : Nat) (q_7 : Nat) (q_8 : Nat) (q_9 : Nat) (q_10 : Nat) (q_11 : Nat) (q_12 : Nat) (q_13 : Nat) (q_14 : Nat) (q_15 : Nat) (q_16 : Nat) (x_0 : Int32) (x_1 : Int32) (x_2 : Int32) (x_3 : Int32) (x_4 : Int32) (x_5 : Int32) (x_6 : Int32) (x_7 : Int32) (x_8 : Int32) (x_9 : Int32) (x_10 : Int32) (x_11 : Int32) (x_12 : Int32) (x_13 : Int32) (x_14 : Int32) (f_15 : Nat → Option Nat) (f_16 : Nat → Int32) (f_17 : Nat → Int32) (h_x_3 : 0 ≤ Int32.toInt x_3 ∧ Int32.toInt x_3 ≤ 39) (h_x_4 : 0 ≤ Int32.toInt x_4 ∧ Int32.toInt x_4 ≤ 799) (h_x_7 : 0 ≤ Int32.toInt x_7 ∧ Int32.toInt x_7 ≤ 1) (h_x_13 : 0 ≤ Int32.toInt x_13 ∧ Int32.toInt x_13 ≤ 400) (h_x_14 : 0 ≤ Int32.toInt x_14 ∧ Int32.toInt x_14 ≤ 20) (h_f_15 : zRo k T f_15) : zMi l yX1_isInForce cX1_isInForce 5 (some .int) ({ frames := 2, cells := 0, slots := 0, locals := 49 }) D k T [.ref q_0, .int x_0, .int x_1, .int x_2] [(q_0, .inr (1, [.ref q_1, .ref q_6, .ref q_4, .ref q_7, .ref q_8, .ref q_9, .ref q_10, .ref q_11, .int x_3, .int x_4, .int x_5, .int x_6, .int x_7, .int x_8, .int x_9, .int x_10, .int x_11, .int x_12, .int x_13])), (q_1, .inr (3, [.ref q_12, .ref q_13, .ref q_14, .ref q_2, .ref q_15, .ref q_16])), (q_2, .inr (0, [.int x_14, .ref q_3, .ref q_5])), (q_3, .inl (k 3, 20, .inr (.inr (.inr (.inr f_15))))), (q_4, .inl (k 0, 20, .inl f_16)), (q_5, .inl (k 0, 20, .inl f_17))] (fun r u => u.1 = 0 ∧ ((-1) ≤ Int32.toInt r ∧ Int32.toInt r ≤ 1)) (fun u => [(q_0, .inr (1, [.ref q_1, .ref q_6, .ref q_4, .ref q_7, .ref q_8, .ref q_9, .ref q_10, .ref q_11, .int x_3, .int x_4, .int x_5, .int x_6, .int x_7, .int x_8, .int x_9, .int x_10, .int x_11, .int x_12, .int x_13])), (q_1, .inr (3, [.ref q_12, .ref q_13, .ref q_14, .ref q_2, .ref q_15, .ref q_16])), (q_2, .inr (0, [.int x_14, .ref q_3, .ref q_5])), (q_3, .inl (k 3, 20, .inr (.inr (.inr (.inr f_15))))), (q_4, .inl (k 0, 20, .inl (u.2.2.2.2.1 0))), (q_5, .inl (k 0, 20, .inl f_17))]) := by
  refine zMi_of (own := RX1) (by decide +kernel) rfl (Nat.le_of_ble_eq_true rfl) ?_
  intro p e s m args below meth c A ls C0 hr hlk hin hP hD hS hA hK hN hT hl
  have hx := C0.1
  have hb := C0.2.1
  have hml := C0.2.2.1
  have hown := C0.2.2.2.1
  have hts := C0.2.2.2.2
  have hl : lv_has ls 5 [(0, .ref q_0), (1, .int x_0), (2, .int x_1), (3, .int x_2)] := hl
  have hP : va_P D vwCl [(q_0, .inr (1, [.ref q_1, .ref q_6, .ref q_4, .ref q_7, .ref q_8, .ref q_9, .ref q_10, .ref q_11, .int x_3, .int x_4, .int x_5, .int x_6, .int x_7, .int x_8, .int x_9, .int x_10, .int x_11, .int x_12, .int x_13])), (q_1, .inr (3, [.ref q_12, .ref q_13, .ref q_14, .ref q_2, .ref q_15, .ref q_16])), (q_2, .inr (0, [.int x_14, .ref q_3, .ref q_5])), (q_3, .inl (k 3, 20, .inr (.inr (.inr (.inr f_15))))), (q_4, .inl (k 0, 20, .inl f_16)), (q_5, .inl (k 0, 20, .inl f_17))] s.heap := hP
  refine lv_aload_n hx hb dX1_isInForce_0 rfl (lv_at hl 0 rfl) ?_
  refine va_get (D := D) (ci := 1) (v := .ref q_1) (C := RX1) (T := TX1) (N := 19) hx hb hts inX1 hown hK hP 0 rfl rfl 0 (by decide) (hts _ kF_X1_34) (fun _ h9 => h9) rfl dX1_isInForce_1 ?_
  refine va_get (D := D) (ci := 3) (v := .ref q_2) (C := RX3) (T := TX3) (N := 6) hx hb hts inX3 hown hK hP 1 rfl rfl 3 (by decide) (hts _ kF_X1_96) (fun _ h9 => h9) rfl dX1_isInForce_4 ?_
  refine lv_astore (lv' := [(4, .ref q_2), (0, .ref q_0), (1, .int x_0), (2, .int x_1), (3, .int x_2)]) hx hb dX1_isInForce_7 hl (by decide) rfl (fun ls hl => ?_)
  refine lv_iload_n hx hb dX1_isInForce_9 rfl (lv_at hl 2 rfl) ?_
  refine lv_if_lt (tgt := 52) hx hb dX1_isInForce_10 (by decide) (fun c1 => ?_) (fun c1 => ?_)
  · refine lv_iconst (v := (-1)) hx hb dX1_isInForce_52 (by decide) ?_
    exact z_iret C0 hr hlk rfl hK hP hD hS (0, fun _ => 0, fun _ => 0, fun _ => 0, fun i => [f_16].getD i (fun _ => 0), fun _ => (fun _ => 0), fun _ => (fun _ => none)) ⟨rfl, (by decide)⟩ [0, 1, 2, 3, 4, 5] rfl rfl rfl dX1_isInForce_53
  · refine lv_iload_n hx hb dX1_isInForce_13 rfl (lv_at hl 2 rfl) ?_
    refine lv_aload hx hb dX1_isInForce_14 (lv_at hl 0 rfl) ?_
    refine va_get (D := D) (ci := 0) (v := .int x_14) (C := RX0) (T := TX0) (N := 3) hx hb hts inX0 hown hK hP 2 rfl rfl 0 (by decide) (hts _ kF_X1_103) (fun _ h9 => h9) rfl dX1_isInForce_16 ?_
    refine lv_icmp_ge (tgt := 52) hx hb dX1_isInForce_19 (by decide) (fun c2 => ?_) (fun c2 => ?_)
    · refine lv_iconst (v := (-1)) hx hb dX1_isInForce_52 (by decide) ?_
      exact z_iret C0 hr hlk rfl hK hP hD hS (0, fun _ => 0, fun _ => 0, fun _ => 0, fun i => [f_16].getD i (fun _ => 0), fun _ => (fun _ => 0), fun _ => (fun _ => none)) ⟨rfl, (by decide)⟩ [0, 1, 2, 3, 4, 5] rfl rfl rfl dX1_isInForce_53
    · refine lv_aload hx hb dX1_isInForce_22 (lv_at hl 0 rfl) ?_
      refine va_get (D := D) (ci := 0) (v := .ref q_3) (C := RX0) (T := TX0) (N := 3) hx hb hts inX0 hown hK hP 2 rfl rfl 1 (by decide) (hts _ kF_X1_108) (fun _ h9 => h9) rfl dX1_isInForce_24 ?_
      refine lv_iload_n hx hb dX1_isInForce_27 rfl (lv_at hl 2 rfl) ?_
      refine va_aldq hx hb hK hP 3 3 rfl rfl (by revert c1 c2 h_x_14; first | omega | (simp only [vp_in_iff, Int32.lt_iff_toInt_lt, Int32.le_iff_toInt_le, Int64.lt_iff_toInt_lt, Int64.le_iff_toInt_le, Int32.toInt_toInt64, ← Int32.toInt_inj, ← Int64.toInt_inj, Int32.reduceToInt, Int64.reduceToInt] <;> omega)) dX1_isInForce_28 ?_
      rcases hO3 : f_15 (Int32.toNatClampNeg x_0) with _ | qa3
      · refine lv_torf (v := .null) rfl ?_
        refine lv_ifnullN (tgt := 52) hx hb dX1_isInForce_29 (by decide) ?_
        refine lv_iconst (v := (-1)) hx hb dX1_isInForce_52 (by decide) ?_
        exact z_iret C0 hr hlk rfl hK hP hD hS (0, fun _ => 0, fun _ => 0, fun _ => 0, fun i => [f_16].getD i (fun _ => 0), fun _ => (fun _ => 0), fun _ => (fun _ => none)) ⟨rfl, (by decide)⟩ [0, 1, 2, 3, 4, 5] rfl rfl rfl dX1_isInForce_53
      · obtain ⟨nc3, sk3, qk3, qv3, qt3, qc3, lc3, fk3, fv3, ft3, fc3, hx3⟩ := h_f_15 _ _ hO3
        refine lv_torf (v := .ref qa3) rfl ?_
        have h_nc3 := hx3.2.1
        have h_lc3 := hx3.2.2.1
        refine lv_ifnull hx hb dX1_isInForce_29 ?_
        refine lv_iload_n hx hb dX1_isInForce_32 rfl (lv_at hl 3 rfl) ?_
        refine lv_iconst (v := 0) hx hb dX1_isInForce_33 (by decide) ?_
        refine lv_aload hx hb dX1_isInForce_34 (lv_at hl 0 rfl) ?_
        refine va_get (D := D) (ci := 0) (v := .ref q_3) (C := RX0) (T := TX0) (N := 3) hx hb hts inX0 hown hK hP 2 rfl rfl 1 (by decide) (hts _ kF_X1_108) (fun _ h9 => h9) rfl dX1_isInForce_36 ?_
        refine lv_iload_n hx hb dX1_isInForce_39 rfl (lv_at hl 2 rfl) ?_
        refine va_aldq hx hb hK hP 3 3 rfl rfl (by revert c1 c2 h_x_14; first | omega | (simp only [vp_in_iff, Int32.lt_iff_toInt_lt, Int32.le_iff_toInt_le, Int64.lt_iff_toInt_lt, Int64.le_iff_toInt_le, Int32.toInt_toInt64, ← Int32.toInt_inj, ← Int64.toInt_inj, Int32.reduceToInt, Int64.reduceToInt] <;> omega)) dX1_isInForce_40 ?_
        refine lv_torf (v := .ref qa3) (by rw [hO3]; rfl) ?_
        refine va_get (D := D) (ci := 10) (v := .int nc3) (C := RX10) (T := TX10) (N := 6) hx hb hts inX10 hown hK (z_tx hT hS hx3.1) 0 rfl rfl 0 (by decide) (hts _ kF_X1_115) (fun _ h9 => h9) rfl dX1_isInForce_41 ?_
        refine lv_iconst (v := 1) hx hb dX1_isInForce_44 (by decide) ?_
        refine lv_isub hx hb dX1_isInForce_45 ?_
        refine lv_topi (fun y4 ey4 => ?_)
        have hy4 : Int32.toInt y4 = Int32.toInt nc3 - 1 := by rw [ey4]; exact zi_subc rfl (by decide) (by revert h_nc3; first | omega | (simp only [vp_in_iff, Int32.lt_iff_toInt_lt, Int32.le_iff_toInt_le, Int64.lt_iff_toInt_lt, Int64.le_iff_toInt_le, Int32.toInt_toInt64, ← Int32.toInt_inj, ← Int64.toInt_inj, Int32.reduceToInt, Int64.reduceToInt] <;> omega))
        refine z_bi0 (z_runSN (As := [.int x_1, .int 0, .int y4]) (rest := []) C0 hN (s_X11_isOutside_1 l D k T x_1 0 y4 _) okS_X11_isOutside kN_X1_138 rfl (z_p0 hT hS hA hK hN) rfl hl.1 rfl (Nat.le_of_ble_eq_true rfl) dX1_isInForce_46 rfl) hP hS hA (fun r5 u5 H locs hw5 hP hS => ?_)
        obtain ⟨i5, a5, v5, w5, f5, g5, o5⟩ := u5
        dsimp only at hw5
        rcases hw5 with ⟨rfl, rfl, c5⟩ | ⟨rfl, rfl, c5⟩
        · refine lv_if_eq (tgt := 54) hx hb dX1_isInForce_49 (by decide) (fun c6 => absurd c6 (by decide)) (fun _ => ?_)
          refine lv_iconst (v := (-1)) hx hb dX1_isInForce_52 (by decide) ?_
          exact z_iret C0 hr hlk rfl hK hP hD hS (0, fun _ => 0, fun _ => 0, fun _ => 0, fun i => [f_16].getD i (fun _ => 0), fun _ => (fun _ => 0), fun _ => (fun _ => none)) ⟨rfl, (by decide)⟩ [0, 1, 2, 3, 4, 5] rfl rfl rfl dX1_isInForce_53
        · refine lv_if_eq (tgt := 54) hx hb dX1_isInForce_49 (by decide) (fun _ => ?_) (fun c7 => absurd (by decide) c7)
          refine lv_aload_n hx hb dX1_isInForce_54 rfl (lv_at hl 1 rfl) ?_
          refine lv_iload_n hx hb dX1_isInForce_55 rfl (lv_at hl 4 rfl) ?_
          refine z_bv (wr := []) (z_runV (C := RX1) (As := [.int x_2]) (rest := []) C0 (s_X1_strikeClauses_1 l D k T q_0 q_1 q_4 q_2 q_3 q_5 q_6 q_7 q_8 q_9 q_10 q_11 q_12 q_13 q_14 q_15 q_16 x_2 x_3 x_4 x_5 x_6 x_7 x_8 x_9 x_10 x_11 x_12 x_13 f_16 x_14 f_15 f_17 (by revert h_x_3; first | omega | (simp only [vp_in_iff, Int32.lt_iff_toInt_lt, Int32.le_iff_toInt_le, Int64.lt_iff_toInt_lt, Int64.le_iff_toInt_le, Int32.toInt_toInt64, ← Int32.toInt_inj, ← Int64.toInt_inj, Int32.reduceToInt, Int64.reduceToInt] <;> omega)) (by revert h_x_4; first | omega | (simp only [vp_in_iff, Int32.lt_iff_toInt_lt, Int32.le_iff_toInt_le, Int64.lt_iff_toInt_lt, Int64.le_iff_toInt_le, Int32.toInt_toInt64, ← Int32.toInt_inj, ← Int64.toInt_inj, Int32.reduceToInt, Int64.reduceToInt] <;> omega)) (by revert h_x_7; first | omega | (simp only [vp_in_iff, Int32.lt_iff_toInt_lt, Int32.le_iff_toInt_le, Int64.lt_iff_toInt_lt, Int64.le_iff_toInt_le, Int32.toInt_toInt64, ← Int32.toInt_inj, ← Int64.toInt_inj, Int32.reduceToInt, Int64.reduceToInt] <;> omega)) (by revert h_x_13; first | omega | (simp only [vp_in_iff, Int32.lt_iff_toInt_lt, Int32.le_iff_toInt_le, Int64.lt_iff_toInt_lt, Int64.le_iff_toInt_le, Int32.toInt_toInt64, ← Int32.toInt_inj, ← Int64.toInt_inj, Int32.reduceToInt, Int64.reduceToInt] <;> omega)) (by revert h_x_14 c2 c1; first | omega | (simp only [vp_in_iff, Int32.lt_iff_toInt_lt, Int32.le_iff_toInt_le, Int64.lt_iff_toInt_lt, Int64.le_iff_toInt_le, Int32.toInt_toInt64, ← Int32.toInt_inj, ← Int64.toInt_inj, Int32.reduceToInt, Int64.reduceToInt] <;> omega)) h_f_15 _) okV_X1_strikeClauses kM_X1_100 rfl (z_pV (q0 := 0) hT hS hA hK hN hP hD [0, 1, 4, 2, 3, 5] rfl rfl rfl rfl rfl) rfl hl.1 rfl (Nat.le_of_ble_eq_true rfl) dX1_isInForce_56 rfl) hP hD hS hA [0, 1, 4, 2, 3, 5] [] rfl rfl rfl rfl (fun u8 H locs hw8 hP hD hS => ?_)
          obtain ⟨i8, a8, v8, w8, f8, g8, o8⟩ := u8
          dsimp only at hw8
          obtain rfl := hw8
          have hP : va_P D vwCl [(q_0, .inr (1, [.ref q_1, .ref q_6, .ref q_4, .ref q_7, .ref q_8, .ref q_9, .ref q_10, .ref q_11, .int x_3, .int x_4, .int x_5, .int x_6, .int x_7, .int x_8, .int x_9, .int x_10, .int x_11, .int x_12, .int x_13])), (q_1, .inr (3, [.ref q_12, .ref q_13, .ref q_14, .ref q_2, .ref q_15, .ref q_16])), (q_4, .inl (k 0, 20, .inl (f8 0))), (q_2, .inr (0, [.int x_14, .ref q_3, .ref q_5])), (q_3, .inl (k 3, 20, .inr (.inr (.inr (.inr f_15))))), (q_5, .inl (k 0, 20, .inl f_17))] H := hP
          have hD : va_D A [(q_0, .inr (1, [.ref q_1, .ref q_6, .ref q_4, .ref q_7, .ref q_8, .ref q_9, .ref q_10, .ref q_11, .int x_3, .int x_4, .int x_5, .int x_6, .int x_7, .int x_8, .int x_9, .int x_10, .int x_11, .int x_12, .int x_13])), (q_1, .inr (3, [.ref q_12, .ref q_13, .ref q_14, .ref q_2, .ref q_15, .ref q_16])), (q_4, .inl (k 0, 20, .inl (f8 0))), (q_2, .inr (0, [.int x_14, .ref q_3, .ref q_5])), (q_3, .inl (k 3, 20, .inr (.inr (.inr (.inr f_15))))), (q_5, .inl (k 0, 20, .inl f_17))] := hD
          refine lv_aload hx hb dX1_isInForce_59 (lv_at hl 0 rfl) ?_
          refine va_get (D := D) (ci := 0) (v := .ref q_5) (C := RX0) (T := TX0) (N := 3) hx hb hts inX0 hown hK hP 3 rfl rfl 2 (by decide) (hts _ kF_X1_112) (fun _ h9 => h9) rfl dX1_isInForce_61 ?_
          refine lv_iload_n hx hb dX1_isInForce_64 rfl (lv_at hl 2 rfl) ?_
          refine va_iald hx hb hK hP 5 0 rfl rfl (by revert c1 c2 h_x_14; first | omega | (simp only [vp_in_iff, Int32.lt_iff_toInt_lt, Int32.le_iff_toInt_le, Int64.lt_iff_toInt_lt, Int64.le_iff_toInt_le, Int32.toInt_toInt64, ← Int32.toInt_inj, ← Int64.toInt_inj, Int32.reduceToInt, Int64.reduceToInt] <;> omega)) dX1_isInForce_65 ?_
          refine lv_topi (fun y9 ey9 => ?_)
          refine lv_iload_n hx hb dX1_isInForce_66 rfl (lv_at hl 4 rfl) ?_
          refine lv_icmp_gt (tgt := 87) hx hb dX1_isInForce_67 (by decide) (fun c10 => ?_) (fun c10 => ?_)
          · refine lv_iconst (v := 0) hx hb dX1_isInForce_87 (by decide) ?_
            exact z_iret C0 hr hlk rfl hK hP hD hS (0, fun _ => 0, fun _ => 0, fun _ => 0, fun i => [(f8 0)].getD i (fun _ => 0), fun _ => (fun _ => 0), fun _ => (fun _ => none)) ⟨rfl, (by decide)⟩ [0, 1, 3, 4, 2, 5] rfl rfl rfl dX1_isInForce_88
          · refine lv_aload_n hx hb dX1_isInForce_70 rfl (lv_at hl 1 rfl) ?_
            refine va_get (D := D) (ci := 1) (v := .ref q_4) (C := RX1) (T := TX1) (N := 19) hx hb hts inX1 hown hK hP 0 rfl rfl 2 (by decide) (hts _ kF_X1_15) (fun _ h9 => h9) rfl dX1_isInForce_71 ?_
            refine lv_iload_n hx hb dX1_isInForce_74 rfl (lv_at hl 2 rfl) ?_
            refine va_iald hx hb hK hP 2 0 rfl rfl (by revert c1 c2 h_x_14; first | omega | (simp only [vp_in_iff, Int32.lt_iff_toInt_lt, Int32.le_iff_toInt_le, Int64.lt_iff_toInt_lt, Int64.le_iff_toInt_le, Int32.toInt_toInt64, ← Int32.toInt_inj, ← Int64.toInt_inj, Int32.reduceToInt, Int64.reduceToInt] <;> omega)) dX1_isInForce_75 ?_
            refine lv_topi (fun y11 ey11 => ?_)
            refine lv_iload_n hx hb dX1_isInForce_76 rfl (lv_at hl 3 rfl) ?_
            refine lv_ishr hx hb dX1_isInForce_77 ?_
            refine lv_topi (fun y12 ey12 => ?_)
            refine lv_iconst (v := 1) hx hb dX1_isInForce_78 (by decide) ?_
            refine lv_iand hx hb dX1_isInForce_79 ?_
            refine lv_topi (fun y13 ey13 => ?_)
            have hy13 : 0 ≤ Int32.toInt y13 ∧ Int32.toInt y13 ≤ 1 := by rw [ey13]; exact zo_and _ (by decide)
            refine lv_if_ne (tgt := 87) hx hb dX1_isInForce_80 (by decide) (fun c14 => ?_) (fun c14 => ?_)
            · refine lv_iconst (v := 0) hx hb dX1_isInForce_87 (by decide) ?_
              exact z_iret C0 hr hlk rfl hK hP hD hS (0, fun _ => 0, fun _ => 0, fun _ => 0, fun i => [(f8 0)].getD i (fun _ => 0), fun _ => (fun _ => 0), fun _ => (fun _ => none)) ⟨rfl, (by decide)⟩ [0, 1, 3, 4, 2, 5] rfl rfl rfl dX1_isInForce_88
            · refine lv_iconst (v := 1) hx hb dX1_isInForce_83 (by decide) ?_
              refine lv_goto (tgt := 88) hx hb dX1_isInForce_84 (by decide) ?_
              exact z_iret C0 hr hlk rfl hK hP hD hS (0, fun _ => 0, fun _ => 0, fun _ => 0, fun i => [(f8 0)].getD i (fun _ => 0), fun _ => (fun _ => 0), fun _ => (fun _ => none)) ⟨rfl, (by decide)⟩ [0, 1, 3, 4, 2, 5] rfl rfl rfl dX1_isInForce_88

set_option maxHeartbeats 4000000 in
set_option maxRecDepth 100000 in
theorem s_X11_force_1 (l : Launch) (D : va_G) (k : Nat → ClassId) (T : zTy) (q_0 : Nat) (q_1 : Nat) (q_2 : Nat) (q_3 : Nat) (q_4 : Nat) (q_5 : Nat) (q_6 : Nat) (q_7 : Nat) (q_8 : Nat) (q_9 : Nat) (q_10 : Nat) (q_11 : Nat) (q_12 : Nat) (q_13 : Nat) (q_14 : Nat) (q_15 : Nat) (q_16 : Nat) (q_17 : Nat) (q_18 : Nat) (q_19 : Nat) (q_20 : Nat) (x_0 : Int32) (x_1 : Int32) (x_2 : Int32) (x_3 : Int32) (x_4 : Int32) (x_5 : Int32) (x_6 : Int32) (x_7 : Int32) (x_8 : Int32) (x_9 : Int32) (x_10 : Int32) (x_11 : Int32) (x_12 : Int32) (x_13 : Int32) (x_14 : Int32) (x_15 : Int32) (f_16 : Nat → Option Nat) (f_17 : Nat → Int32) (f_18 : Nat → Int32) (h_x_4 : 0 ≤ Int32.toInt x_4 ∧ Int32.toInt x_4 ≤ 39) (h_x_5 : 0 ≤ Int32.toInt x_5 ∧ Int32.toInt x_5 ≤ 799) (h_x_8 : 0 ≤ Int32.toInt x_8 ∧ Int32.toInt x_8 ≤ 1) (h_x_14 : 0 ≤ Int32.toInt x_14 ∧ Int32.toInt x_14 ≤ 400) (h_x_15 : 0 ≤ Int32.toInt x_15 ∧ Int32.toInt x_15 ≤ 20) (h_f_16 : zRo k T f_16) : zMi l yX11_force cX11_force 4 (some .int) ({ frames := 3, cells := 0, slots := 0, locals := 73 }) D k T [.ref q_0, .int x_0, .int x_1, .int x_2] [(q_0, .inr (11, [.ref q_2, .ref q_7, .ref q_8, .ref q_1, .ref q_9, .int x_3])), (q_1, .inr (1, [.ref q_2, .ref q_10, .ref q_5, .ref q_11, .ref q_12, .ref q_13, .ref q_14, .ref q_15, .int x_4, .int x_5, .int x_6, .int x_7, .int x_8, .int x_9, .int x_10, .int x_11, .int x_12, .int x_13, .int x_14])), (q_2, .inr (3, [.ref q_16, .ref q_17, .ref q_18, .ref q_3, .ref q_19, .ref q_20])), (q_3, .inr (0, [.int x_15, .ref q_4, .ref q_6])), (q_4, .inl (k 3, 20, .inr (.inr (.inr (.inr f_16))))), (q_5, .inl (k 0, 20, .inl f_17)), (q_6, .inl (k 0, 20, .inl f_18))] (fun r u => u.1 = 0 ∧ ((-1) ≤ Int32.toInt r ∧ Int32.toInt r ≤ 1)) (fun u => [(q_0, .inr (11, [.ref q_2, .ref q_7, .ref q_8, .ref q_1, .ref q_9, .int x_3])), (q_1, .inr (1, [.ref q_2, .ref q_10, .ref q_5, .ref q_11, .ref q_12, .ref q_13, .ref q_14, .ref q_15, .int x_4, .int x_5, .int x_6, .int x_7, .int x_8, .int x_9, .int x_10, .int x_11, .int x_12, .int x_13, .int x_14])), (q_2, .inr (3, [.ref q_16, .ref q_17, .ref q_18, .ref q_3, .ref q_19, .ref q_20])), (q_3, .inr (0, [.int x_15, .ref q_4, .ref q_6])), (q_4, .inl (k 3, 20, .inr (.inr (.inr (.inr f_16))))), (q_5, .inl (k 0, 20, .inl (u.2.2.2.2.1 0))), (q_6, .inl (k 0, 20, .inl f_18))]) := by
  refine zMi_of (own := RX11) (by decide +kernel) rfl (Nat.le_of_ble_eq_true rfl) ?_
  intro p e s m args below meth c A ls C0 hr hlk hin hP hD hS hA hK hN hT hl
  have hx := C0.1
  have hb := C0.2.1
  have hml := C0.2.2.1
  have hown := C0.2.2.2.1
  have hts := C0.2.2.2.2
  have hl : lv_has ls 4 [(0, .ref q_0), (1, .int x_0), (2, .int x_1), (3, .int x_2)] := hl
  have hP : va_P D vwCl [(q_0, .inr (11, [.ref q_2, .ref q_7, .ref q_8, .ref q_1, .ref q_9, .int x_3])), (q_1, .inr (1, [.ref q_2, .ref q_10, .ref q_5, .ref q_11, .ref q_12, .ref q_13, .ref q_14, .ref q_15, .int x_4, .int x_5, .int x_6, .int x_7, .int x_8, .int x_9, .int x_10, .int x_11, .int x_12, .int x_13, .int x_14])), (q_2, .inr (3, [.ref q_16, .ref q_17, .ref q_18, .ref q_3, .ref q_19, .ref q_20])), (q_3, .inr (0, [.int x_15, .ref q_4, .ref q_6])), (q_4, .inl (k 3, 20, .inr (.inr (.inr (.inr f_16))))), (q_5, .inl (k 0, 20, .inl f_17)), (q_6, .inl (k 0, 20, .inl f_18))] s.heap := hP
  refine lv_iload_n hx hb dX11_force_0 rfl (lv_at hl 3 rfl) ?_
  refine z_bi0 (z_runS (As := [.int x_2]) (rest := []) C0 (s_X11_isNoDay_1 l D k T x_2 _) okS_X11_isNoDay kM_X11_72 rfl (z_p0 hT hS hA hK hN) rfl hl.1 rfl (Nat.le_of_ble_eq_true rfl) dX11_force_1 rfl) hP hS hA (fun r1 u1 H locs hw1 hP hS => ?_)
  obtain ⟨i1, a1, v1, w1, f1, g1, o1⟩ := u1
  dsimp only at hw1
  rcases hw1 with ⟨rfl, rfl, c1⟩ | ⟨rfl, rfl, c1⟩
  · refine lv_if_eq (tgt := 9) hx hb dX11_force_4 (by decide) (fun c2 => absurd c2 (by decide)) (fun _ => ?_)
    refine lv_iconst (v := (-1)) hx hb dX11_force_7 (by decide) ?_
    exact z_iret C0 hr hlk rfl hK hP hD hS (0, fun _ => 0, fun _ => 0, fun _ => 0, fun i => [f_17].getD i (fun _ => 0), fun _ => (fun _ => 0), fun _ => (fun _ => none)) ⟨rfl, (by decide)⟩ [0, 1, 2, 3, 4, 5, 6] rfl rfl rfl dX11_force_8
  · refine lv_if_eq (tgt := 9) hx hb dX11_force_4 (by decide) (fun _ => ?_) (fun c3 => absurd (by decide) c3)
    refine lv_aload_n hx hb dX11_force_9 rfl (lv_at hl 0 rfl) ?_
    refine va_get (D := D) (ci := 11) (v := .ref q_1) (C := RX11) (T := TX11) (N := 6) hx hb hts inX11 hown hK hP 0 rfl rfl 3 (by decide) (hts _ kF_X11_32) (fun _ h9 => h9) rfl dX11_force_10 ?_
    refine lv_iload_n hx hb dX11_force_13 rfl (lv_at hl 1 rfl) ?_
    refine lv_iload_n hx hb dX11_force_14 rfl (lv_at hl 2 rfl) ?_
    refine lv_iload_n hx hb dX11_force_15 rfl (lv_at hl 3 rfl) ?_
    refine z_bi (wr := [(q_0, .inr (11, [.ref q_2, .ref q_7, .ref q_8, .ref q_1, .ref q_9, .int x_3]))]) (z_runV (C := RX1) (As := [.int x_0, .int x_1, .int x_2]) (rest := []) C0 (s_X1_isInForce_1 l D k T q_1 q_2 q_3 q_4 q_5 q_6 q_10 q_11 q_12 q_13 q_14 q_15 q_16 q_17 q_18 q_19 q_20 x_0 x_1 x_2 x_4 x_5 x_6 x_7 x_8 x_9 x_10 x_11 x_12 x_13 x_14 x_15 f_16 f_17 f_18 (by revert h_x_4; first | omega | (simp only [vp_in_iff, Int32.lt_iff_toInt_lt, Int32.le_iff_toInt_le, Int64.lt_iff_toInt_lt, Int64.le_iff_toInt_le, Int32.toInt_toInt64, ← Int32.toInt_inj, ← Int64.toInt_inj, Int32.reduceToInt, Int64.reduceToInt] <;> omega)) (by revert h_x_5; first | omega | (simp only [vp_in_iff, Int32.lt_iff_toInt_lt, Int32.le_iff_toInt_le, Int64.lt_iff_toInt_lt, Int64.le_iff_toInt_le, Int32.toInt_toInt64, ← Int32.toInt_inj, ← Int64.toInt_inj, Int32.reduceToInt, Int64.reduceToInt] <;> omega)) (by revert h_x_8; first | omega | (simp only [vp_in_iff, Int32.lt_iff_toInt_lt, Int32.le_iff_toInt_le, Int64.lt_iff_toInt_lt, Int64.le_iff_toInt_le, Int32.toInt_toInt64, ← Int32.toInt_inj, ← Int64.toInt_inj, Int32.reduceToInt, Int64.reduceToInt] <;> omega)) (by revert h_x_14; first | omega | (simp only [vp_in_iff, Int32.lt_iff_toInt_lt, Int32.le_iff_toInt_le, Int64.lt_iff_toInt_lt, Int64.le_iff_toInt_le, Int32.toInt_toInt64, ← Int32.toInt_inj, ← Int64.toInt_inj, Int32.reduceToInt, Int64.reduceToInt] <;> omega)) (by revert h_x_15; first | omega | (simp only [vp_in_iff, Int32.lt_iff_toInt_lt, Int32.le_iff_toInt_le, Int64.lt_iff_toInt_lt, Int64.le_iff_toInt_le, Int32.toInt_toInt64, ← Int32.toInt_inj, ← Int64.toInt_inj, Int32.reduceToInt, Int64.reduceToInt] <;> omega)) h_f_16 _) okV_X1_isInForce kM_X11_207 rfl (z_pV (q0 := 1) hT hS hA hK hN hP hD [1, 2, 3, 4, 5, 6] rfl rfl rfl rfl rfl) rfl hl.1 rfl (Nat.le_of_ble_eq_true rfl) dX11_force_16 rfl) hP hD hS hA [1, 2, 3, 4, 5, 6] [0] rfl rfl rfl rfl (fun r4 u4 H locs hw4 hP hD hS => ?_)
    obtain ⟨i4, a4, v4, w4, f4, g4, o4⟩ := u4
    dsimp only at hw4
    obtain ⟨rfl, hr4⟩ := hw4
    have hP : va_P D vwCl [(q_0, .inr (11, [.ref q_2, .ref q_7, .ref q_8, .ref q_1, .ref q_9, .int x_3])), (q_1, .inr (1, [.ref q_2, .ref q_10, .ref q_5, .ref q_11, .ref q_12, .ref q_13, .ref q_14, .ref q_15, .int x_4, .int x_5, .int x_6, .int x_7, .int x_8, .int x_9, .int x_10, .int x_11, .int x_12, .int x_13, .int x_14])), (q_2, .inr (3, [.ref q_16, .ref q_17, .ref q_18, .ref q_3, .ref q_19, .ref q_20])), (q_3, .inr (0, [.int x_15, .ref q_4, .ref q_6])), (q_4, .inl (k 3, 20, .inr (.inr (.inr (.inr f_16))))), (q_5, .inl (k 0, 20, .inl (f4 0))), (q_6, .inl (k 0, 20, .inl f_18))] H := hP
    have hD : va_D A [(q_0, .inr (11, [.ref q_2, .ref q_7, .ref q_8, .ref q_1, .ref q_9, .int x_3])), (q_1, .inr (1, [.ref q_2, .ref q_10, .ref q_5, .ref q_11, .ref q_12, .ref q_13, .ref q_14, .ref q_15, .int x_4, .int x_5, .int x_6, .int x_7, .int x_8, .int x_9, .int x_10, .int x_11, .int x_12, .int x_13, .int x_14])), (q_2, .inr (3, [.ref q_16, .ref q_17, .ref q_18, .ref q_3, .ref q_19, .ref q_20])), (q_3, .inr (0, [.int x_15, .ref q_4, .ref q_6])), (q_4, .inl (k 3, 20, .inr (.inr (.inr (.inr f_16))))), (q_5, .inl (k 0, 20, .inl (f4 0))), (q_6, .inl (k 0, 20, .inl f_18))] := hD
    exact z_iret C0 hr hlk rfl hK hP hD hS (0, fun _ => 0, fun _ => 0, fun _ => 0, fun i => [(f4 0)].getD i (fun _ => 0), fun _ => (fun _ => 0), fun _ => (fun _ => none)) ⟨rfl, (by revert hr4; first | omega | (simp only [vp_in_iff, Int32.lt_iff_toInt_lt, Int32.le_iff_toInt_le, Int64.lt_iff_toInt_lt, Int64.le_iff_toInt_le, Int32.toInt_toInt64, ← Int32.toInt_inj, ← Int64.toInt_inj, Int32.reduceToInt, Int64.reduceToInt] <;> omega))⟩ [0, 1, 2, 3, 4, 5, 6] rfl rfl rfl dX11_force_19

set_option maxHeartbeats 4000000 in
set_option maxRecDepth 100000 in
theorem s_X11_areNoHalves_1 (l : Launch) (D : va_G) (k : Nat → ClassId) (T : zTy) (x_0 : Int32) (x_1 : Int32) : zMi l yX11_areNoHalves cX11_areNoHalves 2 (some .boolean) ({ frames := 0, cells := 0, slots := 0, locals := 0 }) D k T [.int x_0, .int x_1] [] (fun r u => (u.1 = 0 ∧ r = 1 ∧ ((x_0 < 0) ∨ (¬ x_0 < 0 ∧ (800 : Int32) ≤ x_1) ∨ (¬ x_0 < 0 ∧ ¬ (800 : Int32) ≤ x_1 ∧ ¬ x_0 ≤ x_1))) ∨ (u.1 = 1 ∧ r = 0 ∧ ((¬ x_0 < 0 ∧ ¬ (800 : Int32) ≤ x_1 ∧ x_0 ≤ x_1)))) (fun u => []) := by
  refine zMi_of (own := RX11) (by decide +kernel) rfl (Nat.le_of_ble_eq_true rfl) ?_
  intro p e s m args below meth c A ls C0 hr hlk hin hP hD hS hA hK hN hT hl
  have hx := C0.1
  have hb := C0.2.1
  have hml := C0.2.2.1
  have hown := C0.2.2.2.1
  have hts := C0.2.2.2.2
  have hl : lv_has ls 2 [(0, .int x_0), (1, .int x_1)] := hl
  have hP : va_P D vwCl [] s.heap := hP
  refine lv_iload_n hx hb dX11_areNoHalves_0 rfl (lv_at hl 0 rfl) ?_
  refine lv_if_lt (tgt := 16) hx hb dX11_areNoHalves_1 (by decide) (fun c1 => ?_) (fun c1 => ?_)
  · refine lv_iconst (v := 1) hx hb dX11_areNoHalves_16 (by decide) ?_
    refine lv_goto (tgt := 21) hx hb dX11_areNoHalves_17 (by decide) ?_
    exact z_iret C0 hr hlk rfl hK hP hD hS (0, fun _ => 0, fun _ => 0, fun _ => 0, fun _ => (fun _ => 0), fun _ => (fun _ => 0), fun _ => (fun _ => none)) (Or.inl ⟨rfl, rfl, (Or.inl c1)⟩) [] rfl rfl rfl dX11_areNoHalves_21
  · refine lv_iload_n hx hb dX11_areNoHalves_4 rfl (lv_at hl 1 rfl) ?_
    refine lv_sipush (v := 800) hx hb dX11_areNoHalves_5 (by decide) ?_
    refine lv_icmp_ge (tgt := 16) hx hb dX11_areNoHalves_8 (by decide) (fun c2 => ?_) (fun c2 => ?_)
    · refine lv_iconst (v := 1) hx hb dX11_areNoHalves_16 (by decide) ?_
      refine lv_goto (tgt := 21) hx hb dX11_areNoHalves_17 (by decide) ?_
      exact z_iret C0 hr hlk rfl hK hP hD hS (0, fun _ => 0, fun _ => 0, fun _ => 0, fun _ => (fun _ => 0), fun _ => (fun _ => 0), fun _ => (fun _ => none)) (Or.inl ⟨rfl, rfl, (Or.inr (Or.inl ⟨c1, c2⟩))⟩) [] rfl rfl rfl dX11_areNoHalves_21
    · refine lv_iload_n hx hb dX11_areNoHalves_11 rfl (lv_at hl 0 rfl) ?_
      refine lv_iload_n hx hb dX11_areNoHalves_12 rfl (lv_at hl 1 rfl) ?_
      refine lv_icmp_le (tgt := 20) hx hb dX11_areNoHalves_13 (by decide) (fun c3 => ?_) (fun c3 => ?_)
      · refine lv_iconst (v := 0) hx hb dX11_areNoHalves_20 (by decide) ?_
        exact z_iret C0 hr hlk rfl hK hP hD hS (1, fun _ => 0, fun _ => 0, fun _ => 0, fun _ => (fun _ => 0), fun _ => (fun _ => 0), fun _ => (fun _ => none)) (Or.inr (⟨rfl, rfl, ⟨c1, c2, c3⟩⟩)) [] rfl rfl rfl dX11_areNoHalves_21
      · refine lv_iconst (v := 1) hx hb dX11_areNoHalves_16 (by decide) ?_
        refine lv_goto (tgt := 21) hx hb dX11_areNoHalves_17 (by decide) ?_
        exact z_iret C0 hr hlk rfl hK hP hD hS (0, fun _ => 0, fun _ => 0, fun _ => 0, fun _ => (fun _ => 0), fun _ => (fun _ => 0), fun _ => (fun _ => none)) (Or.inl ⟨rfl, rfl, (Or.inr (Or.inr (⟨c1, c2, c3⟩)))⟩) [] rfl rfl rfl dX11_areNoHalves_21

set_option maxHeartbeats 4000000 in
set_option maxRecDepth 100000 in
theorem s_X5_countsAsKnown_35 (l : Launch) (D : va_G) (k : Nat → ClassId) (T : zTy) (q_0 : Nat) (q_1 : Nat) (q_2 : Nat) (q_3 : Nat) (q_4 : Nat) (q_5 : Nat) (q_6 : Nat) (q_7 : Nat) (q_8 : Nat) (q_9 : Nat) (q_10 : Nat) (q_11 : Nat) (q_12 : Nat) (x_0 : Int32) (x_1 : Int32) (x_2 : Int32) (x_3 : Int32) (x_4 : Int32) (f_5 : Nat → Int32) (f_6 : Nat → Int32) (h_x_0 : 0 ≤ Int32.toInt x_0 ∧ Int32.toInt x_0 ≤ 399) (h_x_2 : 1 ≤ Int32.toInt x_2 ∧ Int32.toInt x_2 ≤ 400) (h_f_6 : zR f_6 (-1) 399) : zMi l yX5_countsAsKnown cX5_countsAsKnown 5 (some .boolean) ({ frames := 0, cells := 0, slots := 0, locals := 0 }) D k T [.ref q_0, .int x_0, .int x_1] [(q_0, .inr (5, [.int x_2, .ref q_3, .ref q_4, .ref q_5, .ref q_6, .ref q_7, .ref q_1, .ref q_8, .ref q_9, .ref q_2, .ref q_10, .ref q_11, .ref q_12, .int x_3, .int x_4])), (q_1, .inl (k 0, 400, .inl f_5)), (q_2, .inl (k 0, 400, .inl f_6))] (fun r u => (u.1 = 0 ∧ r = 1) ∨ (u.1 = 1 ∧ r = 0)) (fun u => [(q_0, .inr (5, [.int x_2, .ref q_3, .ref q_4, .ref q_5, .ref q_6, .ref q_7, .ref q_1, .ref q_8, .ref q_9, .ref q_2, .ref q_10, .ref q_11, .ref q_12, .int x_3, .int x_4])), (q_1, .inl (k 0, 400, .inl f_5)), (q_2, .inl (k 0, 400, .inl f_6))]) := by
  refine zMi_of (own := RX5) (by decide +kernel) rfl (Nat.le_of_ble_eq_true rfl) ?_
  intro p e s m args below meth c A ls C0 hr hlk hin hP hD hS hA hK hN hT hl
  have hx := C0.1
  have hb := C0.2.1
  have hml := C0.2.2.1
  have hown := C0.2.2.2.1
  have hts := C0.2.2.2.2
  have hl : lv_has ls 5 [(0, .ref q_0), (1, .int x_0), (2, .int x_1)] := hl
  have hP : va_P D vwCl [(q_0, .inr (5, [.int x_2, .ref q_3, .ref q_4, .ref q_5, .ref q_6, .ref q_7, .ref q_1, .ref q_8, .ref q_9, .ref q_2, .ref q_10, .ref q_11, .ref q_12, .int x_3, .int x_4])), (q_1, .inl (k 0, 400, .inl f_5)), (q_2, .inl (k 0, 400, .inl f_6))] s.heap := hP
  refine lv_aload_n hx hb dX5_countsAsKnown_0 rfl (lv_at hl 0 rfl) ?_
  refine va_get (D := D) (ci := 5) (v := .ref q_1) (C := RX5) (T := TX5) (N := 15) hx hb hts inX5 hown hK hP 0 rfl rfl 6 (by decide) (hts _ kF_X5_27) (fun _ h9 => h9) rfl dX5_countsAsKnown_1 ?_
  refine lv_iload_n hx hb dX5_countsAsKnown_4 rfl (lv_at hl 1 rfl) ?_
  refine va_iald hx hb hK hP 1 0 rfl rfl (by revert h_x_0; first | omega | (simp only [vp_in_iff, Int32.lt_iff_toInt_lt, Int32.le_iff_toInt_le, Int64.lt_iff_toInt_lt, Int64.le_iff_toInt_le, Int32.toInt_toInt64, ← Int32.toInt_inj, ← Int64.toInt_inj, Int32.reduceToInt, Int64.reduceToInt] <;> omega)) dX5_countsAsKnown_5 ?_
  refine lv_topi (fun y1 ey1 => ?_)
  refine lv_iload_n hx hb dX5_countsAsKnown_6 rfl (lv_at hl 2 rfl) ?_
  refine lv_icmp_le (tgt := 12) hx hb dX5_countsAsKnown_7 (by decide) (fun c2 => ?_) (fun c2 => ?_)
  · refine lv_aload_n hx hb dX5_countsAsKnown_12 rfl (lv_at hl 0 rfl) ?_
    refine va_get (D := D) (ci := 5) (v := .ref q_2) (C := RX5) (T := TX5) (N := 15) hx hb hts inX5 hown hK hP 0 rfl rfl 9 (by decide) (hts _ kF_X5_36) (fun _ h9 => h9) rfl dX5_countsAsKnown_13 ?_
    refine lv_iload_n hx hb dX5_countsAsKnown_16 rfl (lv_at hl 1 rfl) ?_
    refine va_iald hx hb hK hP 2 0 rfl rfl (by revert h_x_0; first | omega | (simp only [vp_in_iff, Int32.lt_iff_toInt_lt, Int32.le_iff_toInt_le, Int64.lt_iff_toInt_lt, Int64.le_iff_toInt_le, Int32.toInt_toInt64, ← Int32.toInt_inj, ← Int64.toInt_inj, Int32.reduceToInt, Int64.reduceToInt] <;> omega)) dX5_countsAsKnown_17 ?_
    refine lv_topi (fun y3 ey3 => ?_)
    have hy3 : (-1) ≤ Int32.toInt y3 ∧ Int32.toInt y3 ≤ 399 := by rw [ey3]; exact h_f_6 _
    refine lv_istore_n (lv' := [(3, .int y3), (0, .ref q_0), (1, .int x_0), (2, .int x_1)]) hx hb dX5_countsAsKnown_18 rfl hl (by decide) rfl (fun ls hl => ?_)
    refine lv_iconst (v := 0) hx hb dX5_countsAsKnown_19 (by decide) ?_
    refine lv_istore (lv' := [(4, .int 0), (3, .int y3), (0, .ref q_0), (1, .int x_0), (2, .int x_1)]) hx hb dX5_countsAsKnown_20 hl (by decide) rfl (fun ls hl => ?_)
    have loop20 : ∀ (N21 : Nat) (y18 : Int32) (y19 : Int32) (H : Heap) (locs : List Loc) (ls : Array Slot), Int.toNat (400 - Int32.toInt y18) < N21 → 0 ≤ Int32.toInt y18 ∧ Int32.toInt y18 ≤ 400 → (-1) ≤ Int32.toInt y19 ∧ Int32.toInt y19 ≤ 399 → va_P D vwCl [(q_0, .inr (5, [.int x_2, .ref q_3, .ref q_4, .ref q_5, .ref q_6, .ref q_7, .ref q_1, .ref q_8, .ref q_9, .ref q_2, .ref q_10, .ref q_11, .ref q_12, .int x_3, .int x_4])), (q_1, .inl (k 0, 400, .inl f_5)), (q_2, .inl (k 0, 400, .inl f_6))] H → va_D A [(q_0, .inr (5, [.int x_2, .ref q_3, .ref q_4, .ref q_5, .ref q_6, .ref q_7, .ref q_1, .ref q_8, .ref q_9, .ref q_2, .ref q_10, .ref q_11, .ref q_12, .int x_3, .int x_4])), (q_1, .inl (k 0, 400, .inl f_5)), (q_2, .inl (k 0, 400, .inl f_6))] → va_S A s.heap H locs → lv_has ls 5 [(4, .int y18), (3, .int y19), (0, .ref q_0), (1, .int x_0), (2, .int x_1)] → W p l e { frames := 0, cells := 0, slots := 0, locals := 0 } s m args below meth c H locs 0 0 (MQ below (va_Qi (fun (r : Int32) (u : zS) => (u.1 = 0 ∧ r = 1) ∨ (u.1 = 1 ∧ r = 0)) (zB D k A (fun (u : zS) => [(q_0, .inr (5, [.int x_2, .ref q_3, .ref q_4, .ref q_5, .ref q_6, .ref q_7, .ref q_1, .ref q_8, .ref q_9, .ref q_2, .ref q_10, .ref q_11, .ref q_12, .int x_3, .int x_4])), (q_1, .inl (k 0, 400, .inl f_5)), (q_2, .inl (k 0, 400, .inl f_6))])) A) args s 0 0 A) (F0 m 22 ls []) := by
      intro N21
      induction N21 with
      | zero => intro y18 y19 H locs ls hm; exact absurd hm (Nat.not_lt_zero _)
      | succ N21 ihN21 =>
        intro y18 y19 H locs ls hN21 hy18 hy19 hP hD hS hl
        refine lv_iload hx hb dX5_countsAsKnown_22 (lv_at hl 0 rfl) ?_
        refine lv_aload_n hx hb dX5_countsAsKnown_24 rfl (lv_at hl 2 rfl) ?_
        refine va_get (D := D) (ci := 5) (v := .int x_2) (C := RX5) (T := TX5) (N := 15) hx hb hts inX5 hown hK hP 0 rfl rfl 0 (by decide) (hts _ kF_X5_54) (fun _ h9 => h9) rfl dX5_countsAsKnown_25 ?_
        refine lv_icmp_ge (tgt := 61) hx hb dX5_countsAsKnown_28 (by decide) (fun c22 => ?_) (fun c22 => ?_)
        · refine lv_iconst (v := 1) hx hb dX5_countsAsKnown_61 (by decide) ?_
          exact z_iret C0 hr hlk rfl hK hP hD hS (0, fun _ => 0, fun _ => 0, fun _ => 0, fun _ => (fun _ => 0), fun _ => (fun _ => 0), fun _ => (fun _ => none)) (Or.inl ⟨rfl, rfl⟩) [0, 1, 2] rfl rfl rfl dX5_countsAsKnown_62
        · refine lv_iload_n hx hb dX5_countsAsKnown_31 rfl (lv_at hl 1 rfl) ?_
          refine lv_iconst (v := (-1)) hx hb dX5_countsAsKnown_32 (by decide) ?_
          refine lv_icmp_eq (tgt := 61) hx hb dX5_countsAsKnown_33 (by decide) (fun c23 => ?_) (fun c23 => ?_)
          · refine lv_iconst (v := 1) hx hb dX5_countsAsKnown_61 (by decide) ?_
            exact z_iret C0 hr hlk rfl hK hP hD hS (0, fun _ => 0, fun _ => 0, fun _ => 0, fun _ => (fun _ => 0), fun _ => (fun _ => 0), fun _ => (fun _ => none)) (Or.inl ⟨rfl, rfl⟩) [0, 1, 2] rfl rfl rfl dX5_countsAsKnown_62
          · refine lv_aload_n hx hb dX5_countsAsKnown_36 rfl (lv_at hl 2 rfl) ?_
            refine va_get (D := D) (ci := 5) (v := .ref q_1) (C := RX5) (T := TX5) (N := 15) hx hb hts inX5 hown hK hP 0 rfl rfl 6 (by decide) (hts _ kF_X5_27) (fun _ h9 => h9) rfl dX5_countsAsKnown_37 ?_
            refine lv_iload_n hx hb dX5_countsAsKnown_40 rfl (lv_at hl 1 rfl) ?_
            refine va_iald hx hb hK hP 1 0 rfl rfl (by revert hy19 c23; first | omega | (simp only [vp_in_iff, Int32.lt_iff_toInt_lt, Int32.le_iff_toInt_le, Int64.lt_iff_toInt_lt, Int64.le_iff_toInt_le, Int32.toInt_toInt64, ← Int32.toInt_inj, ← Int64.toInt_inj, Int32.reduceToInt, Int64.reduceToInt] <;> omega)) dX5_countsAsKnown_41 ?_
            refine lv_topi (fun y24 ey24 => ?_)
            refine lv_iload_n hx hb dX5_countsAsKnown_42 rfl (lv_at hl 4 rfl) ?_
            refine lv_icmp_gt (tgt := 48) hx hb dX5_countsAsKnown_43 (by decide) (fun c25 => ?_) (fun c25 => ?_)
            · refine lv_aload_n hx hb dX5_countsAsKnown_48 rfl (lv_at hl 2 rfl) ?_
              refine va_get (D := D) (ci := 5) (v := .ref q_2) (C := RX5) (T := TX5) (N := 15) hx hb hts inX5 hown hK hP 0 rfl rfl 9 (by decide) (hts _ kF_X5_36) (fun _ h9 => h9) rfl dX5_countsAsKnown_49 ?_
              refine lv_iload_n hx hb dX5_countsAsKnown_52 rfl (lv_at hl 1 rfl) ?_
              refine va_iald hx hb hK hP 2 0 rfl rfl (by revert hy19 c23; first | omega | (simp only [vp_in_iff, Int32.lt_iff_toInt_lt, Int32.le_iff_toInt_le, Int64.lt_iff_toInt_lt, Int64.le_iff_toInt_le, Int32.toInt_toInt64, ← Int32.toInt_inj, ← Int64.toInt_inj, Int32.reduceToInt, Int64.reduceToInt] <;> omega)) dX5_countsAsKnown_53 ?_
              refine lv_topi (fun y26 ey26 => ?_)
              have hy26 : (-1) ≤ Int32.toInt y26 ∧ Int32.toInt y26 ≤ 399 := by rw [ey26]; exact h_f_6 _
              refine lv_istore_n (lv' := [(3, .int y26), (4, .int y18), (0, .ref q_0), (1, .int x_0), (2, .int x_1)]) hx hb dX5_countsAsKnown_54 rfl hl (by decide) rfl (fun ls hl => ?_)
              obtain ⟨y27, ey27⟩ : ∃ q : Int32, q = y18 + 1 := ⟨_, rfl⟩
              have hy27 : Int32.toInt y27 = Int32.toInt y18 + 1 := by rw [ey27]; exact zi_addc rfl (by decide) (by revert hN21 hy18 c22 h_x_2; first | omega | (simp only [vp_in_iff, Int32.lt_iff_toInt_lt, Int32.le_iff_toInt_le, Int64.lt_iff_toInt_lt, Int64.le_iff_toInt_le, Int32.toInt_toInt64, ← Int32.toInt_inj, ← Int64.toInt_inj, Int32.reduceToInt, Int64.reduceToInt] <;> omega))
              refine lv_iinc (v := y27) (lv' := [(4, .int y27), (3, .int y26), (0, .ref q_0), (1, .int x_0), (2, .int x_1)]) hx hb dX5_countsAsKnown_55 hl (k := 1) rfl (by rw [ey27]; exact zz_inc (by decide)) (by decide) rfl (fun ls hl => ?_)
              refine lv_goto (tgt := 22) hx hb dX5_countsAsKnown_58 (by decide) ?_
              exact ihN21 y27 y26 _ _ ls (by revert hN21 hy18 c22 hy27 h_x_2; first | omega | (simp only [vp_in_iff, Int32.lt_iff_toInt_lt, Int32.le_iff_toInt_le, Int64.lt_iff_toInt_lt, Int64.le_iff_toInt_le, Int32.toInt_toInt64, ← Int32.toInt_inj, ← Int64.toInt_inj, Int32.reduceToInt, Int64.reduceToInt] <;> omega)) (by revert hN21 hy18 c22 hy27 h_x_2; first | omega | (simp only [vp_in_iff, Int32.lt_iff_toInt_lt, Int32.le_iff_toInt_le, Int64.lt_iff_toInt_lt, Int64.le_iff_toInt_le, Int32.toInt_toInt64, ← Int32.toInt_inj, ← Int64.toInt_inj, Int32.reduceToInt, Int64.reduceToInt] <;> omega)) (by revert hy26; first | omega | (simp only [vp_in_iff, Int32.lt_iff_toInt_lt, Int32.le_iff_toInt_le, Int64.lt_iff_toInt_lt, Int64.le_iff_toInt_le, Int32.toInt_toInt64, ← Int32.toInt_inj, ← Int64.toInt_inj, Int32.reduceToInt, Int64.reduceToInt] <;> omega)) hP hD hS (lv_sub hl [0, 1, 2, 3, 4] rfl)
            · refine lv_iconst (v := 0) hx hb dX5_countsAsKnown_46 (by decide) ?_
              exact z_iret C0 hr hlk rfl hK hP hD hS (1, fun _ => 0, fun _ => 0, fun _ => 0, fun _ => (fun _ => 0), fun _ => (fun _ => 0), fun _ => (fun _ => none)) (Or.inr (⟨rfl, rfl⟩)) [0, 1, 2] rfl rfl rfl dX5_countsAsKnown_47
    exact loop20 _ 0 y3 _ _ _ (Nat.lt_succ_self _) (by first | omega | (simp only [vp_in_iff, Int32.lt_iff_toInt_lt, Int32.le_iff_toInt_le, Int64.lt_iff_toInt_lt, Int64.le_iff_toInt_le, Int32.toInt_toInt64, ← Int32.toInt_inj, ← Int64.toInt_inj, Int32.reduceToInt, Int64.reduceToInt] <;> omega)) (by revert hy3; first | omega | (simp only [vp_in_iff, Int32.lt_iff_toInt_lt, Int32.le_iff_toInt_le, Int64.lt_iff_toInt_lt, Int64.le_iff_toInt_le, Int32.toInt_toInt64, ← Int32.toInt_inj, ← Int64.toInt_inj, Int32.reduceToInt, Int64.reduceToInt] <;> omega)) hP hD hS (lv_sub hl [0, 1, 2, 3, 4] rfl)
  · refine lv_iconst (v := 0) hx hb dX5_countsAsKnown_10 (by decide) ?_
    exact z_iret C0 hr hlk rfl hK hP hD hS (1, fun _ => 0, fun _ => 0, fun _ => 0, fun _ => (fun _ => 0), fun _ => (fun _ => 0), fun _ => (fun _ => none)) (Or.inr (⟨rfl, rfl⟩)) [0, 1, 2] rfl rfl rfl dX5_countsAsKnown_11

set_option maxHeartbeats 4000000 in
set_option maxRecDepth 100000 in
theorem s_X5_letterAsKnown_36 (l : Launch) (D : va_G) (k : Nat → ClassId) (T : zTy) (q_0 : Nat) (q_1 : Nat) (q_2 : Nat) (q_3 : Nat) (q_4 : Nat) (q_5 : Nat) (q_6 : Nat) (q_7 : Nat) (q_8 : Nat) (q_9 : Nat) (q_10 : Nat) (q_11 : Nat) (q_12 : Nat) (x_0 : Int32) (x_1 : Int32) (x_2 : Int32) (x_3 : Int32) (x_4 : Int32) (f_5 : Nat → Int32) (f_6 : Nat → Int32) (f_7 : Nat → Int32) (h_x_0 : 0 ≤ Int32.toInt x_0 ∧ Int32.toInt x_0 ≤ 399) (h_x_2 : 1 ≤ Int32.toInt x_2 ∧ Int32.toInt x_2 ≤ 400) : zMi l yX5_letterAsKnown cX5_letterAsKnown 4 (some .int) ({ frames := 0, cells := 0, slots := 0, locals := 0 }) D k T [.ref q_0, .int x_0, .int x_1] [(q_0, .inr (5, [.int x_2, .ref q_4, .ref q_5, .ref q_6, .ref q_2, .ref q_7, .ref q_8, .ref q_3, .ref q_1, .ref q_9, .ref q_10, .ref q_11, .ref q_12, .int x_3, .int x_4])), (q_1, .inl (k 0, 400, .inl f_5)), (q_2, .inl (k 0, 400, .inl f_6)), (q_3, .inl (k 0, 400, .inl f_7))] (fun r u => u.1 = 0) (fun u => [(q_0, .inr (5, [.int x_2, .ref q_4, .ref q_5, .ref q_6, .ref q_2, .ref q_7, .ref q_8, .ref q_3, .ref q_1, .ref q_9, .ref q_10, .ref q_11, .ref q_12, .int x_3, .int x_4])), (q_1, .inl (k 0, 400, .inl f_5)), (q_2, .inl (k 0, 400, .inl f_6)), (q_3, .inl (k 0, 400, .inl f_7))]) := by
  refine zMi_of (own := RX5) (by decide +kernel) rfl (Nat.le_of_ble_eq_true rfl) ?_
  intro p e s m args below meth c A ls C0 hr hlk hin hP hD hS hA hK hN hT hl
  have hx := C0.1
  have hb := C0.2.1
  have hml := C0.2.2.1
  have hown := C0.2.2.2.1
  have hts := C0.2.2.2.2
  have hl : lv_has ls 4 [(0, .ref q_0), (1, .int x_0), (2, .int x_1)] := hl
  have hP : va_P D vwCl [(q_0, .inr (5, [.int x_2, .ref q_4, .ref q_5, .ref q_6, .ref q_2, .ref q_7, .ref q_8, .ref q_3, .ref q_1, .ref q_9, .ref q_10, .ref q_11, .ref q_12, .int x_3, .int x_4])), (q_1, .inl (k 0, 400, .inl f_5)), (q_2, .inl (k 0, 400, .inl f_6)), (q_3, .inl (k 0, 400, .inl f_7))] s.heap := hP
  refine lv_aload_n hx hb dX5_letterAsKnown_0 rfl (lv_at hl 0 rfl) ?_
  refine va_get (D := D) (ci := 5) (v := .ref q_1) (C := RX5) (T := TX5) (N := 15) hx hb hts inX5 hown hK hP 0 rfl rfl 8 (by decide) (hts _ kF_X5_33) (fun _ h9 => h9) rfl dX5_letterAsKnown_1 ?_
  refine lv_iload_n hx hb dX5_letterAsKnown_4 rfl (lv_at hl 1 rfl) ?_
  refine va_iald hx hb hK hP 1 0 rfl rfl (by revert h_x_0; first | omega | (simp only [vp_in_iff, Int32.lt_iff_toInt_lt, Int32.le_iff_toInt_le, Int64.lt_iff_toInt_lt, Int64.le_iff_toInt_le, Int32.toInt_toInt64, ← Int32.toInt_inj, ← Int64.toInt_inj, Int32.reduceToInt, Int64.reduceToInt] <;> omega)) dX5_letterAsKnown_5 ?_
  refine lv_topi (fun y1 ey1 => ?_)
  refine lv_iconst (v := (-1)) hx hb dX5_letterAsKnown_6 (by decide) ?_
  refine lv_icmp_eq (tgt := 24) hx hb dX5_letterAsKnown_7 (by decide) (fun c2 => ?_) (fun c2 => ?_)
  · refine lv_iconst (v := 0) hx hb dX5_letterAsKnown_24 (by decide) ?_
    refine lv_istore_n (lv' := [(3, .int 0), (0, .ref q_0), (1, .int x_0), (2, .int x_1)]) hx hb dX5_letterAsKnown_25 rfl hl (by decide) rfl (fun ls hl => ?_)
    refine lv_iload_n hx hb dX5_letterAsKnown_26 rfl (lv_at hl 0 rfl) ?_
    refine lv_if_eq (tgt := 39) hx hb dX5_letterAsKnown_27 (by decide) (fun _ => ?_) (fun c3 => absurd (by decide) c3)
    refine lv_aload_n hx hb dX5_letterAsKnown_39 rfl (lv_at hl 1 rfl) ?_
    refine va_get (D := D) (ci := 5) (v := .ref q_2) (C := RX5) (T := TX5) (N := 15) hx hb hts inX5 hown hK hP 0 rfl rfl 4 (by decide) (hts _ kF_X5_21) (fun _ h9 => h9) rfl dX5_letterAsKnown_40 ?_
    refine lv_iload_n hx hb dX5_letterAsKnown_43 rfl (lv_at hl 2 rfl) ?_
    refine va_iald hx hb hK hP 2 0 rfl rfl (by revert h_x_0; first | omega | (simp only [vp_in_iff, Int32.lt_iff_toInt_lt, Int32.le_iff_toInt_le, Int64.lt_iff_toInt_lt, Int64.le_iff_toInt_le, Int32.toInt_toInt64, ← Int32.toInt_inj, ← Int64.toInt_inj, Int32.reduceToInt, Int64.reduceToInt] <;> omega)) dX5_letterAsKnown_44 ?_
    refine lv_topi (fun y4 ey4 => ?_)
    exact z_iret C0 hr hlk rfl hK hP hD hS (0, fun _ => 0, fun _ => 0, fun _ => 0, fun _ => (fun _ => 0), fun _ => (fun _ => 0), fun _ => (fun _ => none)) rfl [0, 1, 2, 3] rfl rfl rfl dX5_letterAsKnown_45
  · refine lv_aload_n hx hb dX5_letterAsKnown_10 rfl (lv_at hl 0 rfl) ?_
    refine va_get (D := D) (ci := 5) (v := .ref q_1) (C := RX5) (T := TX5) (N := 15) hx hb hts inX5 hown hK hP 0 rfl rfl 8 (by decide) (hts _ kF_X5_33) (fun _ h9 => h9) rfl dX5_letterAsKnown_11 ?_
    refine lv_iload_n hx hb dX5_letterAsKnown_14 rfl (lv_at hl 1 rfl) ?_
    refine va_iald hx hb hK hP 1 0 rfl rfl (by revert h_x_0; first | omega | (simp only [vp_in_iff, Int32.lt_iff_toInt_lt, Int32.le_iff_toInt_le, Int64.lt_iff_toInt_lt, Int64.le_iff_toInt_le, Int32.toInt_toInt64, ← Int32.toInt_inj, ← Int64.toInt_inj, Int32.reduceToInt, Int64.reduceToInt] <;> omega)) dX5_letterAsKnown_15 ?_
    refine lv_toc (v := y1) ey1.symm ?_
    refine lv_iload_n hx hb dX5_letterAsKnown_16 rfl (lv_at hl 2 rfl) ?_
    refine lv_icmp_gt (tgt := 24) hx hb dX5_letterAsKnown_17 (by decide) (fun c5 => ?_) (fun c5 => ?_)
    · refine lv_iconst (v := 0) hx hb dX5_letterAsKnown_24 (by decide) ?_
      refine lv_istore_n (lv' := [(3, .int 0), (0, .ref q_0), (1, .int x_0), (2, .int x_1)]) hx hb dX5_letterAsKnown_25 rfl hl (by decide) rfl (fun ls hl => ?_)
      refine lv_iload_n hx hb dX5_letterAsKnown_26 rfl (lv_at hl 0 rfl) ?_
      refine lv_if_eq (tgt := 39) hx hb dX5_letterAsKnown_27 (by decide) (fun _ => ?_) (fun c6 => absurd (by decide) c6)
      refine lv_aload_n hx hb dX5_letterAsKnown_39 rfl (lv_at hl 1 rfl) ?_
      refine va_get (D := D) (ci := 5) (v := .ref q_2) (C := RX5) (T := TX5) (N := 15) hx hb hts inX5 hown hK hP 0 rfl rfl 4 (by decide) (hts _ kF_X5_21) (fun _ h9 => h9) rfl dX5_letterAsKnown_40 ?_
      refine lv_iload_n hx hb dX5_letterAsKnown_43 rfl (lv_at hl 2 rfl) ?_
      refine va_iald hx hb hK hP 2 0 rfl rfl (by revert h_x_0; first | omega | (simp only [vp_in_iff, Int32.lt_iff_toInt_lt, Int32.le_iff_toInt_le, Int64.lt_iff_toInt_lt, Int64.le_iff_toInt_le, Int32.toInt_toInt64, ← Int32.toInt_inj, ← Int64.toInt_inj, Int32.reduceToInt, Int64.reduceToInt] <;> omega)) dX5_letterAsKnown_44 ?_
      refine lv_topi (fun y7 ey7 => ?_)
      exact z_iret C0 hr hlk rfl hK hP hD hS (0, fun _ => 0, fun _ => 0, fun _ => 0, fun _ => (fun _ => 0), fun _ => (fun _ => 0), fun _ => (fun _ => none)) rfl [0, 1, 2, 3] rfl rfl rfl dX5_letterAsKnown_45
    · refine lv_iconst (v := 1) hx hb dX5_letterAsKnown_20 (by decide) ?_
      refine lv_goto (tgt := 25) hx hb dX5_letterAsKnown_21 (by decide) ?_
      refine lv_istore_n (lv' := [(3, .int 1), (0, .ref q_0), (1, .int x_0), (2, .int x_1)]) hx hb dX5_letterAsKnown_25 rfl hl (by decide) rfl (fun ls hl => ?_)
      refine lv_iload_n hx hb dX5_letterAsKnown_26 rfl (lv_at hl 0 rfl) ?_
      refine lv_if_eq (tgt := 39) hx hb dX5_letterAsKnown_27 (by decide) (fun c8 => absurd c8 (by decide)) (fun _ => ?_)
      refine lv_aload_n hx hb dX5_letterAsKnown_30 rfl (lv_at hl 1 rfl) ?_
      refine va_get (D := D) (ci := 5) (v := .ref q_3) (C := RX5) (T := TX5) (N := 15) hx hb hts inX5 hown hK hP 0 rfl rfl 7 (by decide) (hts _ kF_X5_30) (fun _ h9 => h9) rfl dX5_letterAsKnown_31 ?_
      refine lv_iload_n hx hb dX5_letterAsKnown_34 rfl (lv_at hl 2 rfl) ?_
      refine va_iald hx hb hK hP 3 0 rfl rfl (by revert h_x_0; first | omega | (simp only [vp_in_iff, Int32.lt_iff_toInt_lt, Int32.le_iff_toInt_le, Int64.lt_iff_toInt_lt, Int64.le_iff_toInt_le, Int32.toInt_toInt64, ← Int32.toInt_inj, ← Int64.toInt_inj, Int32.reduceToInt, Int64.reduceToInt] <;> omega)) dX5_letterAsKnown_35 ?_
      refine lv_topi (fun y9 ey9 => ?_)
      refine lv_goto (tgt := 45) hx hb dX5_letterAsKnown_36 (by decide) ?_
      exact z_iret C0 hr hlk rfl hK hP hD hS (0, fun _ => 0, fun _ => 0, fun _ => 0, fun _ => (fun _ => 0), fun _ => (fun _ => 0), fun _ => (fun _ => none)) rfl [0, 1, 2, 3] rfl rfl rfl dX5_letterAsKnown_45

set_option maxHeartbeats 4000000 in
set_option maxRecDepth 100000 in
theorem s_X1_askOfMark_49 (l : Launch) (D : va_G) (k : Nat → ClassId) (T : zTy) (q_0 : Nat) (q_1 : Nat) (q_2 : Nat) (q_3 : Nat) (q_4 : Nat) (q_5 : Nat) (q_6 : Nat) (q_7 : Nat) (q_8 : Nat) (q_9 : Nat) (q_10 : Nat) (q_11 : Nat) (q_12 : Nat) (q_13 : Nat) (q_14 : Nat) (q_15 : Nat) (q_16 : Nat) (q_17 : Nat) (q_18 : Nat) (q_19 : Nat) (q_20 : Nat) (q_21 : Nat) (q_22 : Nat) (q_23 : Nat) (q_24 : Nat) (q_25 : Nat) (q_26 : Nat) (x_0 : Int32) (x_1 : Int32) (x_2 : Int32) (x_3 : Int32) (x_4 : Int32) (x_5 : Int32) (x_6 : Int32) (x_7 : Int32) (x_8 : Int32) (x_9 : Int32) (x_10 : Int32) (x_11 : Int32) (x_12 : Int32) (x_13 : Int32) (x_14 : Int32) (f_15 : Nat → Int32) (f_16 : Nat → Int32) (f_17 : Nat → Int32) (f_18 : Nat → Int32) (h_x_0 : 0 ≤ Int32.toInt x_0 ∧ Int32.toInt x_0 ≤ 399) (h_x_1 : 0 ≤ Int32.toInt x_1 ∧ Int32.toInt x_1 ≤ 39) (h_x_2 : 0 ≤ Int32.toInt x_2 ∧ Int32.toInt x_2 ≤ 799) (h_x_5 : 0 ≤ Int32.toInt x_5 ∧ Int32.toInt x_5 ≤ 1) (h_x_11 : 0 ≤ Int32.toInt x_11 ∧ Int32.toInt x_11 ≤ 400) (h_x_12 : 1 ≤ Int32.toInt x_12 ∧ Int32.toInt x_12 ≤ 400) (h_f_15 : zR f_15 0 39) (h_f_16 : zR f_16 0 799) (h_f_18 : zR f_18 0 4) : zMv l yX1_askOfMark cX1_askOfMark 2 none ({ frames := 0, cells := 0, slots := 0, locals := 0 }) D k T [.ref q_0, .int x_0] [(q_0, .inr (1, [.ref q_1, .ref q_7, .ref q_8, .ref q_9, .ref q_10, .ref q_11, .ref q_12, .ref q_13, .int x_1, .int x_2, .int x_3, .int x_4, .int x_5, .int x_6, .int x_7, .int x_8, .int x_9, .int x_10, .int x_11])), (q_1, .inr (3, [.ref q_14, .ref q_15, .ref q_2, .ref q_16, .ref q_17, .ref q_18])), (q_2, .inr (5, [.int x_12, .ref q_6, .ref q_3, .ref q_4, .ref q_19, .ref q_5, .ref q_20, .ref q_21, .ref q_22, .ref q_23, .ref q_24, .ref q_25, .ref q_26, .int x_13, .int x_14])), (q_3, .inl (k 0, 400, .inl f_15)), (q_4, .inl (k 0, 400, .inl f_16)), (q_5, .inl (k 0, 400, .inl f_17)), (q_6, .inl (k 0, 400, .inl f_18))] (fun u => u.1 = 0 ∧ (0 ≤ Int32.toInt (u.2.2.1 0) ∧ Int32.toInt (u.2.2.1 0) ≤ 39) ∧ (0 ≤ Int32.toInt (u.2.2.1 1) ∧ Int32.toInt (u.2.2.1 1) ≤ 799) ∧ (0 ≤ Int32.toInt (u.2.2.1 4) ∧ Int32.toInt (u.2.2.1 4) ≤ 1)) (fun u => [(q_0, .inr (1, [.ref q_1, .ref q_7, .ref q_8, .ref q_9, .ref q_10, .ref q_11, .ref q_12, .ref q_13, .int (u.2.2.1 0), .int (u.2.2.1 1), .int (u.2.2.1 2), .int (u.2.2.1 3), .int (u.2.2.1 4), .int x_6, .int x_7, .int x_8, .int x_9, .int x_10, .int x_11])), (q_1, .inr (3, [.ref q_14, .ref q_15, .ref q_2, .ref q_16, .ref q_17, .ref q_18])), (q_2, .inr (5, [.int x_12, .ref q_6, .ref q_3, .ref q_4, .ref q_19, .ref q_5, .ref q_20, .ref q_21, .ref q_22, .ref q_23, .ref q_24, .ref q_25, .ref q_26, .int x_13, .int x_14])), (q_3, .inl (k 0, 400, .inl f_15)), (q_4, .inl (k 0, 400, .inl f_16)), (q_5, .inl (k 0, 400, .inl f_17)), (q_6, .inl (k 0, 400, .inl f_18))]) := by
  refine zMv_of (own := RX1) (by decide +kernel) rfl (Nat.le_of_ble_eq_true rfl) ?_
  intro p e s m args below meth c A ls C0 hr hlk hin hP hD hS hA hK hN hT hl
  have hx := C0.1
  have hb := C0.2.1
  have hml := C0.2.2.1
  have hown := C0.2.2.2.1
  have hts := C0.2.2.2.2
  have hl : lv_has ls 2 [(0, .ref q_0), (1, .int x_0)] := hl
  have hP : va_P D vwCl [(q_0, .inr (1, [.ref q_1, .ref q_7, .ref q_8, .ref q_9, .ref q_10, .ref q_11, .ref q_12, .ref q_13, .int x_1, .int x_2, .int x_3, .int x_4, .int x_5, .int x_6, .int x_7, .int x_8, .int x_9, .int x_10, .int x_11])), (q_1, .inr (3, [.ref q_14, .ref q_15, .ref q_2, .ref q_16, .ref q_17, .ref q_18])), (q_2, .inr (5, [.int x_12, .ref q_6, .ref q_3, .ref q_4, .ref q_19, .ref q_5, .ref q_20, .ref q_21, .ref q_22, .ref q_23, .ref q_24, .ref q_25, .ref q_26, .int x_13, .int x_14])), (q_3, .inl (k 0, 400, .inl f_15)), (q_4, .inl (k 0, 400, .inl f_16)), (q_5, .inl (k 0, 400, .inl f_17)), (q_6, .inl (k 0, 400, .inl f_18))] s.heap := hP
  refine lv_aload_n hx hb dX1_askOfMark_0 rfl (lv_at hl 0 rfl) ?_
  refine lv_aload_n hx hb dX1_askOfMark_1 rfl (lv_at hl 0 rfl) ?_
  refine va_get (D := D) (ci := 1) (v := .ref q_1) (C := RX1) (T := TX1) (N := 19) hx hb hts inX1 hown hK hP 0 rfl rfl 0 (by decide) (hts _ kF_X1_34) (fun _ h9 => h9) rfl dX1_askOfMark_2 ?_
  refine va_get (D := D) (ci := 3) (v := .ref q_2) (C := RX3) (T := TX3) (N := 6) hx hb hts inX3 hown hK hP 1 rfl rfl 2 (by decide) (hts _ kF_X1_38) (fun _ h9 => h9) rfl dX1_askOfMark_5 ?_
  refine va_get (D := D) (ci := 5) (v := .ref q_3) (C := RX5) (T := TX5) (N := 15) hx hb hts inX5 hown hK hP 2 rfl rfl 2 (by decide) (hts _ kF_X1_44) (fun _ h9 => h9) rfl dX1_askOfMark_8 ?_
  refine lv_iload_n hx hb dX1_askOfMark_11 rfl (lv_at hl 1 rfl) ?_
  refine va_iald hx hb hK hP 3 0 rfl rfl (by revert h_x_0; first | omega | (simp only [vp_in_iff, Int32.lt_iff_toInt_lt, Int32.le_iff_toInt_le, Int64.lt_iff_toInt_lt, Int64.le_iff_toInt_le, Int32.toInt_toInt64, ← Int32.toInt_inj, ← Int64.toInt_inj, Int32.reduceToInt, Int64.reduceToInt] <;> omega)) dX1_askOfMark_12 ?_
  refine lv_topi (fun y1 ey1 => ?_)
  have hy1 : 0 ≤ Int32.toInt y1 ∧ Int32.toInt y1 ≤ 39 := by rw [ey1]; exact h_f_15 _
  refine va_put (D := D) (ci := 1) (v := .int y1) (ty := .int) (C := RX1) (T := TX1) (N := 19) hx hb hts inX1 tyX1 tyX1_ok nmX1 hown hK hP hD hS 0 rfl rfl 8 (by decide) (hts _ kF_X1_49) (fun _ h9 => h9) rfl (by decide +kernel) rfl rfl (Nat.le_of_ble_eq_true rfl) dX1_askOfMark_13 (fun H locs hP hD hS => ?_)
  have hP : va_P D vwCl [(q_0, .inr (1, [.ref q_1, .ref q_7, .ref q_8, .ref q_9, .ref q_10, .ref q_11, .ref q_12, .ref q_13, .int y1, .int x_2, .int x_3, .int x_4, .int x_5, .int x_6, .int x_7, .int x_8, .int x_9, .int x_10, .int x_11])), (q_1, .inr (3, [.ref q_14, .ref q_15, .ref q_2, .ref q_16, .ref q_17, .ref q_18])), (q_2, .inr (5, [.int x_12, .ref q_6, .ref q_3, .ref q_4, .ref q_19, .ref q_5, .ref q_20, .ref q_21, .ref q_22, .ref q_23, .ref q_24, .ref q_25, .ref q_26, .int x_13, .int x_14])), (q_3, .inl (k 0, 400, .inl f_15)), (q_4, .inl (k 0, 400, .inl f_16)), (q_5, .inl (k 0, 400, .inl f_17)), (q_6, .inl (k 0, 400, .inl f_18))] H := hP
  have hD : va_D A [(q_0, .inr (1, [.ref q_1, .ref q_7, .ref q_8, .ref q_9, .ref q_10, .ref q_11, .ref q_12, .ref q_13, .int y1, .int x_2, .int x_3, .int x_4, .int x_5, .int x_6, .int x_7, .int x_8, .int x_9, .int x_10, .int x_11])), (q_1, .inr (3, [.ref q_14, .ref q_15, .ref q_2, .ref q_16, .ref q_17, .ref q_18])), (q_2, .inr (5, [.int x_12, .ref q_6, .ref q_3, .ref q_4, .ref q_19, .ref q_5, .ref q_20, .ref q_21, .ref q_22, .ref q_23, .ref q_24, .ref q_25, .ref q_26, .int x_13, .int x_14])), (q_3, .inl (k 0, 400, .inl f_15)), (q_4, .inl (k 0, 400, .inl f_16)), (q_5, .inl (k 0, 400, .inl f_17)), (q_6, .inl (k 0, 400, .inl f_18))] := hD
  refine lv_aload_n hx hb dX1_askOfMark_16 rfl (lv_at hl 0 rfl) ?_
  refine lv_aload_n hx hb dX1_askOfMark_17 rfl (lv_at hl 0 rfl) ?_
  refine va_get (D := D) (ci := 1) (v := .ref q_1) (C := RX1) (T := TX1) (N := 19) hx hb hts inX1 hown hK hP 0 rfl rfl 0 (by decide) (hts _ kF_X1_34) (fun _ h9 => h9) rfl dX1_askOfMark_18 ?_
  refine va_get (D := D) (ci := 3) (v := .ref q_2) (C := RX3) (T := TX3) (N := 6) hx hb hts inX3 hown hK hP 1 rfl rfl 2 (by decide) (hts _ kF_X1_38) (fun _ h9 => h9) rfl dX1_askOfMark_21 ?_
  refine va_get (D := D) (ci := 5) (v := .ref q_4) (C := RX5) (T := TX5) (N := 15) hx hb hts inX5 hown hK hP 2 rfl rfl 3 (by decide) (hts _ kF_X1_53) (fun _ h9 => h9) rfl dX1_askOfMark_24 ?_
  refine lv_iload_n hx hb dX1_askOfMark_27 rfl (lv_at hl 1 rfl) ?_
  refine va_iald hx hb hK hP 4 0 rfl rfl (by revert h_x_0; first | omega | (simp only [vp_in_iff, Int32.lt_iff_toInt_lt, Int32.le_iff_toInt_le, Int64.lt_iff_toInt_lt, Int64.le_iff_toInt_le, Int32.toInt_toInt64, ← Int32.toInt_inj, ← Int64.toInt_inj, Int32.reduceToInt, Int64.reduceToInt] <;> omega)) dX1_askOfMark_28 ?_
  refine lv_topi (fun y2 ey2 => ?_)
  have hy2 : 0 ≤ Int32.toInt y2 ∧ Int32.toInt y2 ≤ 799 := by rw [ey2]; exact h_f_16 _
  refine va_put (D := D) (ci := 1) (v := .int y2) (ty := .int) (C := RX1) (T := TX1) (N := 19) hx hb hts inX1 tyX1 tyX1_ok nmX1 hown hK hP hD hS 0 rfl rfl 9 (by decide) (hts _ kF_X1_56) (fun _ h9 => h9) rfl (by decide +kernel) rfl rfl (Nat.le_of_ble_eq_true rfl) dX1_askOfMark_29 (fun H locs hP hD hS => ?_)
  have hP : va_P D vwCl [(q_0, .inr (1, [.ref q_1, .ref q_7, .ref q_8, .ref q_9, .ref q_10, .ref q_11, .ref q_12, .ref q_13, .int y1, .int y2, .int x_3, .int x_4, .int x_5, .int x_6, .int x_7, .int x_8, .int x_9, .int x_10, .int x_11])), (q_1, .inr (3, [.ref q_14, .ref q_15, .ref q_2, .ref q_16, .ref q_17, .ref q_18])), (q_2, .inr (5, [.int x_12, .ref q_6, .ref q_3, .ref q_4, .ref q_19, .ref q_5, .ref q_20, .ref q_21, .ref q_22, .ref q_23, .ref q_24, .ref q_25, .ref q_26, .int x_13, .int x_14])), (q_3, .inl (k 0, 400, .inl f_15)), (q_4, .inl (k 0, 400, .inl f_16)), (q_5, .inl (k 0, 400, .inl f_17)), (q_6, .inl (k 0, 400, .inl f_18))] H := hP
  have hD : va_D A [(q_0, .inr (1, [.ref q_1, .ref q_7, .ref q_8, .ref q_9, .ref q_10, .ref q_11, .ref q_12, .ref q_13, .int y1, .int y2, .int x_3, .int x_4, .int x_5, .int x_6, .int x_7, .int x_8, .int x_9, .int x_10, .int x_11])), (q_1, .inr (3, [.ref q_14, .ref q_15, .ref q_2, .ref q_16, .ref q_17, .ref q_18])), (q_2, .inr (5, [.int x_12, .ref q_6, .ref q_3, .ref q_4, .ref q_19, .ref q_5, .ref q_20, .ref q_21, .ref q_22, .ref q_23, .ref q_24, .ref q_25, .ref q_26, .int x_13, .int x_14])), (q_3, .inl (k 0, 400, .inl f_15)), (q_4, .inl (k 0, 400, .inl f_16)), (q_5, .inl (k 0, 400, .inl f_17)), (q_6, .inl (k 0, 400, .inl f_18))] := hD
  refine lv_aload_n hx hb dX1_askOfMark_32 rfl (lv_at hl 0 rfl) ?_
  refine lv_aload_n hx hb dX1_askOfMark_33 rfl (lv_at hl 0 rfl) ?_
  refine va_get (D := D) (ci := 1) (v := .ref q_1) (C := RX1) (T := TX1) (N := 19) hx hb hts inX1 hown hK hP 0 rfl rfl 0 (by decide) (hts _ kF_X1_34) (fun _ h9 => h9) rfl dX1_askOfMark_34 ?_
  refine va_get (D := D) (ci := 3) (v := .ref q_2) (C := RX3) (T := TX3) (N := 6) hx hb hts inX3 hown hK hP 1 rfl rfl 2 (by decide) (hts _ kF_X1_38) (fun _ h9 => h9) rfl dX1_askOfMark_37 ?_
  refine va_get (D := D) (ci := 5) (v := .ref q_5) (C := RX5) (T := TX5) (N := 15) hx hb hts inX5 hown hK hP 2 rfl rfl 5 (by decide) (hts _ kF_X1_59) (fun _ h9 => h9) rfl dX1_askOfMark_40 ?_
  refine lv_iload_n hx hb dX1_askOfMark_43 rfl (lv_at hl 1 rfl) ?_
  refine va_iald hx hb hK hP 5 0 rfl rfl (by revert h_x_0; first | omega | (simp only [vp_in_iff, Int32.lt_iff_toInt_lt, Int32.le_iff_toInt_le, Int64.lt_iff_toInt_lt, Int64.le_iff_toInt_le, Int32.toInt_toInt64, ← Int32.toInt_inj, ← Int64.toInt_inj, Int32.reduceToInt, Int64.reduceToInt] <;> omega)) dX1_askOfMark_44 ?_
  refine lv_topi (fun y3 ey3 => ?_)
  refine va_put (D := D) (ci := 1) (v := .int y3) (ty := .int) (C := RX1) (T := TX1) (N := 19) hx hb hts inX1 tyX1 tyX1_ok nmX1 hown hK hP hD hS 0 rfl rfl 10 (by decide) (hts _ kF_X1_62) (fun _ h9 => h9) rfl (by decide +kernel) rfl rfl (Nat.le_of_ble_eq_true rfl) dX1_askOfMark_45 (fun H locs hP hD hS => ?_)
  have hP : va_P D vwCl [(q_0, .inr (1, [.ref q_1, .ref q_7, .ref q_8, .ref q_9, .ref q_10, .ref q_11, .ref q_12, .ref q_13, .int y1, .int y2, .int y3, .int x_4, .int x_5, .int x_6, .int x_7, .int x_8, .int x_9, .int x_10, .int x_11])), (q_1, .inr (3, [.ref q_14, .ref q_15, .ref q_2, .ref q_16, .ref q_17, .ref q_18])), (q_2, .inr (5, [.int x_12, .ref q_6, .ref q_3, .ref q_4, .ref q_19, .ref q_5, .ref q_20, .ref q_21, .ref q_22, .ref q_23, .ref q_24, .ref q_25, .ref q_26, .int x_13, .int x_14])), (q_3, .inl (k 0, 400, .inl f_15)), (q_4, .inl (k 0, 400, .inl f_16)), (q_5, .inl (k 0, 400, .inl f_17)), (q_6, .inl (k 0, 400, .inl f_18))] H := hP
  have hD : va_D A [(q_0, .inr (1, [.ref q_1, .ref q_7, .ref q_8, .ref q_9, .ref q_10, .ref q_11, .ref q_12, .ref q_13, .int y1, .int y2, .int y3, .int x_4, .int x_5, .int x_6, .int x_7, .int x_8, .int x_9, .int x_10, .int x_11])), (q_1, .inr (3, [.ref q_14, .ref q_15, .ref q_2, .ref q_16, .ref q_17, .ref q_18])), (q_2, .inr (5, [.int x_12, .ref q_6, .ref q_3, .ref q_4, .ref q_19, .ref q_5, .ref q_20, .ref q_21, .ref q_22, .ref q_23, .ref q_24, .ref q_25, .ref q_26, .int x_13, .int x_14])), (q_3, .inl (k 0, 400, .inl f_15)), (q_4, .inl (k 0, 400, .inl f_16)), (q_5, .inl (k 0, 400, .inl f_17)), (q_6, .inl (k 0, 400, .inl f_18))] := hD
  refine lv_aload_n hx hb dX1_askOfMark_48 rfl (lv_at hl 0 rfl) ?_
  refine lv_aload_n hx hb dX1_askOfMark_49 rfl (lv_at hl 0 rfl) ?_
  refine va_get (D := D) (ci := 1) (v := .ref q_1) (C := RX1) (T := TX1) (N := 19) hx hb hts inX1 hown hK hP 0 rfl rfl 0 (by decide) (hts _ kF_X1_34) (fun _ h9 => h9) rfl dX1_askOfMark_50 ?_
  refine va_get (D := D) (ci := 3) (v := .ref q_2) (C := RX3) (T := TX3) (N := 6) hx hb hts inX3 hown hK hP 1 rfl rfl 2 (by decide) (hts _ kF_X1_38) (fun _ h9 => h9) rfl dX1_askOfMark_53 ?_
  refine va_get (D := D) (ci := 5) (v := .ref q_6) (C := RX5) (T := TX5) (N := 15) hx hb hts inX5 hown hK hP 2 rfl rfl 1 (by decide) (hts _ kF_X1_65) (fun _ h9 => h9) rfl dX1_askOfMark_56 ?_
  refine lv_iload_n hx hb dX1_askOfMark_59 rfl (lv_at hl 1 rfl) ?_
  refine va_iald hx hb hK hP 6 0 rfl rfl (by revert h_x_0; first | omega | (simp only [vp_in_iff, Int32.lt_iff_toInt_lt, Int32.le_iff_toInt_le, Int64.lt_iff_toInt_lt, Int64.le_iff_toInt_le, Int32.toInt_toInt64, ← Int32.toInt_inj, ← Int64.toInt_inj, Int32.reduceToInt, Int64.reduceToInt] <;> omega)) dX1_askOfMark_60 ?_
  refine lv_topi (fun y4 ey4 => ?_)
  have hy4 : 0 ≤ Int32.toInt y4 ∧ Int32.toInt y4 ≤ 4 := by rw [ey4]; exact h_f_18 _
  refine va_put (D := D) (ci := 1) (v := .int y4) (ty := .int) (C := RX1) (T := TX1) (N := 19) hx hb hts inX1 tyX1 tyX1_ok nmX1 hown hK hP hD hS 0 rfl rfl 11 (by decide) (hts _ kF_X1_68) (fun _ h9 => h9) rfl (by decide +kernel) rfl rfl (Nat.le_of_ble_eq_true rfl) dX1_askOfMark_61 (fun H locs hP hD hS => ?_)
  have hP : va_P D vwCl [(q_0, .inr (1, [.ref q_1, .ref q_7, .ref q_8, .ref q_9, .ref q_10, .ref q_11, .ref q_12, .ref q_13, .int y1, .int y2, .int y3, .int y4, .int x_5, .int x_6, .int x_7, .int x_8, .int x_9, .int x_10, .int x_11])), (q_1, .inr (3, [.ref q_14, .ref q_15, .ref q_2, .ref q_16, .ref q_17, .ref q_18])), (q_2, .inr (5, [.int x_12, .ref q_6, .ref q_3, .ref q_4, .ref q_19, .ref q_5, .ref q_20, .ref q_21, .ref q_22, .ref q_23, .ref q_24, .ref q_25, .ref q_26, .int x_13, .int x_14])), (q_3, .inl (k 0, 400, .inl f_15)), (q_4, .inl (k 0, 400, .inl f_16)), (q_5, .inl (k 0, 400, .inl f_17)), (q_6, .inl (k 0, 400, .inl f_18))] H := hP
  have hD : va_D A [(q_0, .inr (1, [.ref q_1, .ref q_7, .ref q_8, .ref q_9, .ref q_10, .ref q_11, .ref q_12, .ref q_13, .int y1, .int y2, .int y3, .int y4, .int x_5, .int x_6, .int x_7, .int x_8, .int x_9, .int x_10, .int x_11])), (q_1, .inr (3, [.ref q_14, .ref q_15, .ref q_2, .ref q_16, .ref q_17, .ref q_18])), (q_2, .inr (5, [.int x_12, .ref q_6, .ref q_3, .ref q_4, .ref q_19, .ref q_5, .ref q_20, .ref q_21, .ref q_22, .ref q_23, .ref q_24, .ref q_25, .ref q_26, .int x_13, .int x_14])), (q_3, .inl (k 0, 400, .inl f_15)), (q_4, .inl (k 0, 400, .inl f_16)), (q_5, .inl (k 0, 400, .inl f_17)), (q_6, .inl (k 0, 400, .inl f_18))] := hD
  refine lv_aload_n hx hb dX1_askOfMark_64 rfl (lv_at hl 0 rfl) ?_
  refine lv_iconst (v := 0) hx hb dX1_askOfMark_65 (by decide) ?_
  refine va_put (D := D) (ci := 1) (v := .int 0) (ty := .boolean) (C := RX1) (T := TX1) (N := 19) hx hb hts inX1 tyX1 tyX1_ok nmX1 hown hK hP hD hS 0 rfl rfl 12 (by decide) (hts _ kF_X1_71) (fun _ h9 => h9) rfl (by decide +kernel) rfl rfl (Nat.le_of_ble_eq_true rfl) dX1_askOfMark_66 (fun H locs hP hD hS => ?_)
  have hP : va_P D vwCl [(q_0, .inr (1, [.ref q_1, .ref q_7, .ref q_8, .ref q_9, .ref q_10, .ref q_11, .ref q_12, .ref q_13, .int y1, .int y2, .int y3, .int y4, .int 0, .int x_6, .int x_7, .int x_8, .int x_9, .int x_10, .int x_11])), (q_1, .inr (3, [.ref q_14, .ref q_15, .ref q_2, .ref q_16, .ref q_17, .ref q_18])), (q_2, .inr (5, [.int x_12, .ref q_6, .ref q_3, .ref q_4, .ref q_19, .ref q_5, .ref q_20, .ref q_21, .ref q_22, .ref q_23, .ref q_24, .ref q_25, .ref q_26, .int x_13, .int x_14])), (q_3, .inl (k 0, 400, .inl f_15)), (q_4, .inl (k 0, 400, .inl f_16)), (q_5, .inl (k 0, 400, .inl f_17)), (q_6, .inl (k 0, 400, .inl f_18))] H := hP
  have hD : va_D A [(q_0, .inr (1, [.ref q_1, .ref q_7, .ref q_8, .ref q_9, .ref q_10, .ref q_11, .ref q_12, .ref q_13, .int y1, .int y2, .int y3, .int y4, .int 0, .int x_6, .int x_7, .int x_8, .int x_9, .int x_10, .int x_11])), (q_1, .inr (3, [.ref q_14, .ref q_15, .ref q_2, .ref q_16, .ref q_17, .ref q_18])), (q_2, .inr (5, [.int x_12, .ref q_6, .ref q_3, .ref q_4, .ref q_19, .ref q_5, .ref q_20, .ref q_21, .ref q_22, .ref q_23, .ref q_24, .ref q_25, .ref q_26, .int x_13, .int x_14])), (q_3, .inl (k 0, 400, .inl f_15)), (q_4, .inl (k 0, 400, .inl f_16)), (q_5, .inl (k 0, 400, .inl f_17)), (q_6, .inl (k 0, 400, .inl f_18))] := hD
  exact z_vret C0 hr hlk hK hP hD hS (0, fun _ => 0, fun i => [y1, y2, y3, y4, 0].getD i 0, fun _ => 0, fun _ => (fun _ => 0), fun _ => (fun _ => 0), fun _ => (fun _ => none)) ⟨rfl, (show 0 ≤ Int32.toInt (y1 : Int32) ∧ Int32.toInt (y1 : Int32) ≤ 39 from (by revert hy1; first | omega | (simp only [vp_in_iff, Int32.lt_iff_toInt_lt, Int32.le_iff_toInt_le, Int64.lt_iff_toInt_lt, Int64.le_iff_toInt_le, Int32.toInt_toInt64, ← Int32.toInt_inj, ← Int64.toInt_inj, Int32.reduceToInt, Int64.reduceToInt] <;> omega))), (show 0 ≤ Int32.toInt (y2 : Int32) ∧ Int32.toInt (y2 : Int32) ≤ 799 from (by revert hy2; first | omega | (simp only [vp_in_iff, Int32.lt_iff_toInt_lt, Int32.le_iff_toInt_le, Int64.lt_iff_toInt_lt, Int64.le_iff_toInt_le, Int32.toInt_toInt64, ← Int32.toInt_inj, ← Int64.toInt_inj, Int32.reduceToInt, Int64.reduceToInt] <;> omega))), (show 0 ≤ Int32.toInt (0 : Int32) ∧ Int32.toInt (0 : Int32) ≤ 1 from by decide)⟩ [0, 1, 2, 3, 4, 5, 6] rfl rfl rfl dX1_askOfMark_69
