set_option maxHeartbeats 4000000 in
set_option maxRecDepth 100000 in
theorem s_X11_isNoHalf_1 (l : Launch) (D : va_G) (k : Nat → ClassId) (T : zTy) (x_0 : Int32) : zMi l yX11_isNoHalf cX11_isNoHalf 1 (some .boolean) ({ frames := 0, cells := 0, slots := 0, locals := 0 }) D k T [.int x_0] [] (fun r u => (u.1 = 0 ∧ r = 1 ∧ ((x_0 < 0) ∨ (¬ x_0 < 0 ∧ ¬ x_0 < 800))) ∨ (u.1 = 1 ∧ r = 0 ∧ (0 ≤ Int32.toInt x_0 ∧ Int32.toInt x_0 ≤ 799) ∧ ((¬ x_0 < 0 ∧ x_0 < 800)))) (fun u => []) := by
  refine zMi_of (own := RX11) (by decide +kernel) rfl (Nat.le_of_ble_eq_true rfl) ?_
  intro p e s m args below meth c A ls C0 hr hlk hin hP hD hS hA hK hN hT hl
  have hx := C0.1
  have hb := C0.2.1
  have hml := C0.2.2.1
  have hown := C0.2.2.2.1
  have hts := C0.2.2.2.2
  have hl : lv_has ls 1 [(0, .int x_0)] := hl
  have hP : va_P D vwCl [] s.heap := hP
  refine lv_iload_n hx hb dX11_isNoHalf_0 rfl (lv_at hl 0 rfl) ?_
  refine lv_if_lt (tgt := 11) hx hb dX11_isNoHalf_1 (by decide) (fun c1 => ?_) (fun c1 => ?_)
  · refine lv_iconst (v := 1) hx hb dX11_isNoHalf_11 (by decide) ?_
    refine lv_goto (tgt := 16) hx hb dX11_isNoHalf_12 (by decide) ?_
    exact z_iret C0 hr hlk rfl hK hP hD hS (0, fun _ => 0, fun _ => 0, fun _ => 0, fun _ => (fun _ => 0), fun _ => (fun _ => 0), fun _ => (fun _ => none)) (Or.inl ⟨rfl, rfl, (Or.inl c1)⟩) [] rfl rfl rfl dX11_isNoHalf_16
  · refine lv_iload_n hx hb dX11_isNoHalf_4 rfl (lv_at hl 0 rfl) ?_
    refine lv_sipush (v := 800) hx hb dX11_isNoHalf_5 (by decide) ?_
    refine lv_icmp_lt (tgt := 15) hx hb dX11_isNoHalf_8 (by decide) (fun c2 => ?_) (fun c2 => ?_)
    · refine lv_iconst (v := 0) hx hb dX11_isNoHalf_15 (by decide) ?_
      exact z_iret C0 hr hlk rfl hK hP hD hS (1, fun _ => 0, fun _ => 0, fun _ => 0, fun _ => (fun _ => 0), fun _ => (fun _ => 0), fun _ => (fun _ => none)) (Or.inr (⟨rfl, rfl, (show 0 ≤ Int32.toInt x_0 ∧ Int32.toInt x_0 ≤ 799 from (by revert c1 c2; first | (simp only [vp_in_iff, Int32.lt_iff_toInt_lt, Int32.le_iff_toInt_le, Int64.lt_iff_toInt_lt, Int64.le_iff_toInt_le, Int32.toInt_toInt64, ← Int32.toInt_inj, ← Int64.toInt_inj, Int32.reduceToInt, Int64.reduceToInt] <;> omega) | omega)), ⟨c1, c2⟩⟩)) [] rfl rfl rfl dX11_isNoHalf_16
    · refine lv_iconst (v := 1) hx hb dX11_isNoHalf_11 (by decide) ?_
      refine lv_goto (tgt := 16) hx hb dX11_isNoHalf_12 (by decide) ?_
      exact z_iret C0 hr hlk rfl hK hP hD hS (0, fun _ => 0, fun _ => 0, fun _ => 0, fun _ => (fun _ => 0), fun _ => (fun _ => 0), fun _ => (fun _ => none)) (Or.inl ⟨rfl, rfl, (Or.inr (⟨c1, c2⟩))⟩) [] rfl rfl rfl dX11_isNoHalf_16

set_option maxHeartbeats 4000000 in
set_option maxRecDepth 100000 in
theorem s_X6_hasFailed_1 (l : Launch) (D : va_G) (k : Nat → ClassId) (T : zTy) (q_0 : Nat) (q_1 : Nat) (q_2 : Nat) (q_3 : Nat) (q_4 : Nat) (q_5 : Nat) (q_6 : Nat) (q_7 : Nat) (q_8 : Nat) (q_9 : Nat) (q_10 : Nat) (q_11 : Nat) (q_12 : Nat) (x_0 : Int32) (x_1 : Int32) (x_2 : Int32) (x_3 : Int32) (x_4 : Int32) (f_5 : Nat → Int32) (f_6 : Nat → Int32) (h_x_2 : 0 ≤ Int32.toInt x_2 ∧ Int32.toInt x_2 ≤ 40) (h_x_3 : 0 ≤ Int32.toInt x_3 ∧ Int32.toInt x_3 ≤ 5) (h_x_4 : 0 ≤ Int32.toInt x_4 ∧ Int32.toInt x_4 ≤ 60) (h_f_5 : zR f_5 0 7) (h_f_6 : zR f_6 0 799) : zMi l yX6_hasFailed cX6_hasFailed 4 (some .boolean) ({ frames := 0, cells := 0, slots := 0, locals := 0 }) D k T [.ref q_0, .int x_0, .int x_1] [(q_0, .inr (6, [.int x_2, .ref q_3, .ref q_4, .ref q_5, .ref q_6, .ref q_7, .int x_3, .ref q_8, .int x_4, .ref q_1, .ref q_2, .ref q_9, .ref q_10, .ref q_11, .ref q_12])), (q_1, .inl (k 0, 60, .inl f_5)), (q_2, .inl (k 0, 60, .inl f_6))] (fun r u => (u.1 = 0 ∧ r = 0) ∨ (u.1 = 1 ∧ r = 1 ∧ (0 ≤ Int32.toInt x_0 ∧ Int32.toInt x_0 ≤ 7) ∧ (0 ≤ Int32.toInt x_1 ∧ Int32.toInt x_1 ≤ 799))) (fun u => [(q_0, .inr (6, [.int x_2, .ref q_3, .ref q_4, .ref q_5, .ref q_6, .ref q_7, .int x_3, .ref q_8, .int x_4, .ref q_1, .ref q_2, .ref q_9, .ref q_10, .ref q_11, .ref q_12])), (q_1, .inl (k 0, 60, .inl f_5)), (q_2, .inl (k 0, 60, .inl f_6))]) := by
  refine zMi_of (own := RX6) (by decide +kernel) rfl (Nat.le_of_ble_eq_true rfl) ?_
  intro p e s m args below meth c A ls C0 hr hlk hin hP hD hS hA hK hN hT hl
  have hx := C0.1
  have hb := C0.2.1
  have hml := C0.2.2.1
  have hown := C0.2.2.2.1
  have hts := C0.2.2.2.2
  have hl : lv_has ls 4 [(0, .ref q_0), (1, .int x_0), (2, .int x_1)] := hl
  have hP : va_P D vwCl [(q_0, .inr (6, [.int x_2, .ref q_3, .ref q_4, .ref q_5, .ref q_6, .ref q_7, .int x_3, .ref q_8, .int x_4, .ref q_1, .ref q_2, .ref q_9, .ref q_10, .ref q_11, .ref q_12])), (q_1, .inl (k 0, 60, .inl f_5)), (q_2, .inl (k 0, 60, .inl f_6))] s.heap := hP
  refine lv_iconst (v := 0) hx hb dX6_hasFailed_0 (by decide) ?_
  refine lv_istore_n (lv' := [(3, .int 0), (0, .ref q_0), (1, .int x_0), (2, .int x_1)]) hx hb dX6_hasFailed_1 rfl hl (by decide) rfl (fun ls hl => ?_)
  have loop9 : ∀ (N10 : Nat) (y8 : Int32) (H : Heap) (locs : List Loc) (ls : Array Slot), Int.toNat (60 - Int32.toInt y8) < N10 → 0 ≤ Int32.toInt y8 ∧ Int32.toInt y8 ≤ 60 → va_P D vwCl [(q_0, .inr (6, [.int x_2, .ref q_3, .ref q_4, .ref q_5, .ref q_6, .ref q_7, .int x_3, .ref q_8, .int x_4, .ref q_1, .ref q_2, .ref q_9, .ref q_10, .ref q_11, .ref q_12])), (q_1, .inl (k 0, 60, .inl f_5)), (q_2, .inl (k 0, 60, .inl f_6))] H → va_D A [(q_0, .inr (6, [.int x_2, .ref q_3, .ref q_4, .ref q_5, .ref q_6, .ref q_7, .int x_3, .ref q_8, .int x_4, .ref q_1, .ref q_2, .ref q_9, .ref q_10, .ref q_11, .ref q_12])), (q_1, .inl (k 0, 60, .inl f_5)), (q_2, .inl (k 0, 60, .inl f_6))] → va_S A s.heap H locs → lv_has ls 4 [(3, .int y8), (0, .ref q_0), (1, .int x_0), (2, .int x_1)] → W p l e { frames := 0, cells := 0, slots := 0, locals := 0 } s m args below meth c H locs 0 0 (MQ below (va_Qi (fun (r : Int32) (u : zS) => (u.1 = 0 ∧ r = 0) ∨ (u.1 = 1 ∧ r = 1 ∧ (0 ≤ Int32.toInt x_0 ∧ Int32.toInt x_0 ≤ 7) ∧ (0 ≤ Int32.toInt x_1 ∧ Int32.toInt x_1 ≤ 799))) (zB D k A (fun (u : zS) => [(q_0, .inr (6, [.int x_2, .ref q_3, .ref q_4, .ref q_5, .ref q_6, .ref q_7, .int x_3, .ref q_8, .int x_4, .ref q_1, .ref q_2, .ref q_9, .ref q_10, .ref q_11, .ref q_12])), (q_1, .inl (k 0, 60, .inl f_5)), (q_2, .inl (k 0, 60, .inl f_6))])) A) args s 0 0 A) (F0 m 2 ls []) := by
    intro N10
    induction N10 with
    | zero => intro y8 H locs ls hm; exact absurd hm (Nat.not_lt_zero _)
    | succ N10 ihN10 =>
      intro y8 H locs ls hN10 hy8 hP hD hS hl
      refine lv_iload_n hx hb dX6_hasFailed_2 rfl (lv_at hl 0 rfl) ?_
      refine lv_aload_n hx hb dX6_hasFailed_3 rfl (lv_at hl 1 rfl) ?_
      refine va_get (D := D) (ci := 6) (v := .int x_4) (C := RX6) (T := TX6) (N := 15) hx hb hts inX6 hown hK hP 0 rfl rfl 8 (by decide) (hts _ kF_X6_55) (fun _ h9 => h9) rfl dX6_hasFailed_4 ?_
      refine lv_icmp_ge (tgt := 38) hx hb dX6_hasFailed_7 (by decide) (fun c11 => ?_) (fun c11 => ?_)
      · refine lv_iconst (v := 0) hx hb dX6_hasFailed_38 (by decide) ?_
        exact z_iret C0 hr hlk rfl hK hP hD hS (0, fun _ => 0, fun _ => 0, fun _ => 0, fun _ => (fun _ => 0), fun _ => (fun _ => 0), fun _ => (fun _ => none)) (Or.inl ⟨rfl, rfl⟩) [0, 1, 2] rfl rfl rfl dX6_hasFailed_39
      · refine lv_aload_n hx hb dX6_hasFailed_10 rfl (lv_at hl 1 rfl) ?_
        refine va_get (D := D) (ci := 6) (v := .ref q_1) (C := RX6) (T := TX6) (N := 15) hx hb hts inX6 hown hK hP 0 rfl rfl 9 (by decide) (hts _ kF_X6_30) (fun _ h9 => h9) rfl dX6_hasFailed_11 ?_
        refine lv_iload_n hx hb dX6_hasFailed_14 rfl (lv_at hl 0 rfl) ?_
        refine va_iald hx hb hK hP 1 0 rfl rfl (by revert hN10 hy8 c11 h_x_4; first | (simp only [vp_in_iff, Int32.lt_iff_toInt_lt, Int32.le_iff_toInt_le, Int64.lt_iff_toInt_lt, Int64.le_iff_toInt_le, Int32.toInt_toInt64, ← Int32.toInt_inj, ← Int64.toInt_inj, Int32.reduceToInt, Int64.reduceToInt] <;> omega) | omega) dX6_hasFailed_15 ?_
        refine lv_topi (fun y12 ey12 => ?_)
        have hy12 : 0 ≤ Int32.toInt y12 ∧ Int32.toInt y12 ≤ 7 := by rw [ey12]; exact h_f_5 _
        refine lv_iload_n hx hb dX6_hasFailed_16 rfl (lv_at hl 2 rfl) ?_
        refine lv_icmp_ne (tgt := 32) hx hb dX6_hasFailed_17 (by decide) (fun c13 => ?_) (fun c13 => ?_)
        · obtain ⟨y14, ey14⟩ : ∃ q : Int32, q = y8 + 1 := ⟨_, rfl⟩
          have hy14 : Int32.toInt y14 = Int32.toInt y8 + 1 := by rw [ey14]; exact zi_addc rfl (by decide) (by revert hN10 hy8 c11 h_x_4; first | (simp only [vp_in_iff, Int32.lt_iff_toInt_lt, Int32.le_iff_toInt_le, Int64.lt_iff_toInt_lt, Int64.le_iff_toInt_le, Int32.toInt_toInt64, ← Int32.toInt_inj, ← Int64.toInt_inj, Int32.reduceToInt, Int64.reduceToInt] <;> omega) | omega)
          refine lv_iinc (v := y14) (lv' := [(3, .int y14), (0, .ref q_0), (1, .int x_0), (2, .int x_1)]) hx hb dX6_hasFailed_32 hl (k := 0) rfl (by rw [ey14]; exact zz_inc (by decide)) (by decide) rfl (fun ls hl => ?_)
          refine lv_goto (tgt := 2) hx hb dX6_hasFailed_35 (by decide) ?_
          exact ihN10 y14 _ _ ls (by revert hN10 hy8 c11 hy14 h_x_4; first | (simp only [vp_in_iff, Int32.lt_iff_toInt_lt, Int32.le_iff_toInt_le, Int64.lt_iff_toInt_lt, Int64.le_iff_toInt_le, Int32.toInt_toInt64, ← Int32.toInt_inj, ← Int64.toInt_inj, Int32.reduceToInt, Int64.reduceToInt] <;> omega) | omega) (by revert hN10 hy8 c11 hy14 h_x_4; first | (simp only [vp_in_iff, Int32.lt_iff_toInt_lt, Int32.le_iff_toInt_le, Int64.lt_iff_toInt_lt, Int64.le_iff_toInt_le, Int32.toInt_toInt64, ← Int32.toInt_inj, ← Int64.toInt_inj, Int32.reduceToInt, Int64.reduceToInt] <;> omega) | omega) hP hD hS (lv_sub hl [0, 1, 2, 3] rfl)
        · refine lv_aload_n hx hb dX6_hasFailed_20 rfl (lv_at hl 1 rfl) ?_
          refine va_get (D := D) (ci := 6) (v := .ref q_2) (C := RX6) (T := TX6) (N := 15) hx hb hts inX6 hown hK hP 0 rfl rfl 10 (by decide) (hts _ kF_X6_33) (fun _ h9 => h9) rfl dX6_hasFailed_21 ?_
          refine lv_iload_n hx hb dX6_hasFailed_24 rfl (lv_at hl 0 rfl) ?_
          refine va_iald hx hb hK hP 2 0 rfl rfl (by revert hN10 hy8 c11 h_x_4; first | (simp only [vp_in_iff, Int32.lt_iff_toInt_lt, Int32.le_iff_toInt_le, Int64.lt_iff_toInt_lt, Int64.le_iff_toInt_le, Int32.toInt_toInt64, ← Int32.toInt_inj, ← Int64.toInt_inj, Int32.reduceToInt, Int64.reduceToInt] <;> omega) | omega) dX6_hasFailed_25 ?_
          refine lv_topi (fun y15 ey15 => ?_)
          have hy15 : 0 ≤ Int32.toInt y15 ∧ Int32.toInt y15 ≤ 799 := by rw [ey15]; exact h_f_6 _
          refine lv_iload_n hx hb dX6_hasFailed_26 rfl (lv_at hl 3 rfl) ?_
          refine lv_icmp_ne (tgt := 32) hx hb dX6_hasFailed_27 (by decide) (fun c16 => ?_) (fun c16 => ?_)
          · obtain ⟨y17, ey17⟩ : ∃ q : Int32, q = y8 + 1 := ⟨_, rfl⟩
            have hy17 : Int32.toInt y17 = Int32.toInt y8 + 1 := by rw [ey17]; exact zi_addc rfl (by decide) (by revert hN10 hy8 c11 h_x_4; first | (simp only [vp_in_iff, Int32.lt_iff_toInt_lt, Int32.le_iff_toInt_le, Int64.lt_iff_toInt_lt, Int64.le_iff_toInt_le, Int32.toInt_toInt64, ← Int32.toInt_inj, ← Int64.toInt_inj, Int32.reduceToInt, Int64.reduceToInt] <;> omega) | omega)
            refine lv_iinc (v := y17) (lv' := [(3, .int y17), (0, .ref q_0), (1, .int x_0), (2, .int x_1)]) hx hb dX6_hasFailed_32 hl (k := 0) rfl (by rw [ey17]; exact zz_inc (by decide)) (by decide) rfl (fun ls hl => ?_)
            refine lv_goto (tgt := 2) hx hb dX6_hasFailed_35 (by decide) ?_
            exact ihN10 y17 _ _ ls (by revert hN10 hy8 c11 hy17 h_x_4; first | (simp only [vp_in_iff, Int32.lt_iff_toInt_lt, Int32.le_iff_toInt_le, Int64.lt_iff_toInt_lt, Int64.le_iff_toInt_le, Int32.toInt_toInt64, ← Int32.toInt_inj, ← Int64.toInt_inj, Int32.reduceToInt, Int64.reduceToInt] <;> omega) | omega) (by revert hN10 hy8 c11 hy17 h_x_4; first | (simp only [vp_in_iff, Int32.lt_iff_toInt_lt, Int32.le_iff_toInt_le, Int64.lt_iff_toInt_lt, Int64.le_iff_toInt_le, Int32.toInt_toInt64, ← Int32.toInt_inj, ← Int64.toInt_inj, Int32.reduceToInt, Int64.reduceToInt] <;> omega) | omega) hP hD hS (lv_sub hl [0, 1, 2, 3] rfl)
          · refine lv_iconst (v := 1) hx hb dX6_hasFailed_30 (by decide) ?_
            exact z_iret C0 hr hlk rfl hK hP hD hS (1, fun _ => 0, fun _ => 0, fun _ => 0, fun _ => (fun _ => 0), fun _ => (fun _ => 0), fun _ => (fun _ => none)) (Or.inr (⟨rfl, rfl, (show 0 ≤ Int32.toInt x_0 ∧ Int32.toInt x_0 ≤ 7 from (by revert c13 hy12; first | (simp only [vp_in_iff, Int32.lt_iff_toInt_lt, Int32.le_iff_toInt_le, Int64.lt_iff_toInt_lt, Int64.le_iff_toInt_le, Int32.toInt_toInt64, ← Int32.toInt_inj, ← Int64.toInt_inj, Int32.reduceToInt, Int64.reduceToInt] <;> omega) | omega)), (show 0 ≤ Int32.toInt x_1 ∧ Int32.toInt x_1 ≤ 799 from (by revert c16 hy15; first | (simp only [vp_in_iff, Int32.lt_iff_toInt_lt, Int32.le_iff_toInt_le, Int64.lt_iff_toInt_lt, Int64.le_iff_toInt_le, Int32.toInt_toInt64, ← Int32.toInt_inj, ← Int64.toInt_inj, Int32.reduceToInt, Int64.reduceToInt] <;> omega) | omega))⟩)) [0, 1, 2] rfl rfl rfl dX6_hasFailed_31
  exact loop9 _ 0 _ _ _ (Nat.lt_succ_self _) (by first | omega | (simp only [vp_in_iff, Int32.lt_iff_toInt_lt, Int32.le_iff_toInt_le, Int64.lt_iff_toInt_lt, Int64.le_iff_toInt_le, Int32.toInt_toInt64, ← Int32.toInt_inj, ← Int64.toInt_inj, Int32.reduceToInt, Int64.reduceToInt] <;> omega)) hP hD hS (lv_sub hl [0, 1, 2, 3] rfl)

