set_option maxHeartbeats 4000000 in
set_option maxRecDepth 100000 in
theorem s_X8_isListedWithin_1 (l : Launch) (D : va_G) (k : Nat → ClassId) (T : zTy) (q_0 : Nat) (q_1 : Nat) (q_2 : Nat) (q_3 : Nat) (q_4 : Nat) (q_5 : Nat) (x_0 : Int32) (x_1 : Int32) (x_2 : Int32) (x_3 : Int32) (x_4 : Int32) (f_5 : Nat → Int32) (f_6 : Nat → Int32) (f_7 : Nat → Int32) (f_8 : Nat → Int32) (h_x_4 : 0 ≤ Int32.toInt x_4 ∧ Int32.toInt x_4 ≤ 120) (h_f_5 : zR f_5 0 39) (h_f_6 : zR f_6 0 4) (h_f_7 : zR f_7 0 399) (h_f_8 : zR f_8 0 400) : zMi l yX8_isListedWithin cX8_isListedWithin 6 (some .boolean) ({ frames := 1, cells := 0, slots := 0, locals := 40 }) D k T [.ref q_0, .int x_0, .int x_1, .int x_2, .int x_3] [(q_0, .inr (8, [.int x_4, .ref q_1, .ref q_2, .ref q_3, .ref q_4, .ref q_5])), (q_1, .inl (k 0, 120, .inl f_5)), (q_2, .inl (k 0, 120, .inl f_6)), (q_3, .inl (k 0, 120, .inl f_7)), (q_4, .inl (k 0, 120, .inl f_8))] (fun r u => (u.1 = 0 ∧ r = 0) ∨ (u.1 = 1 ∧ r = 1)) (fun u => [(q_0, .inr (8, [.int x_4, .ref q_1, .ref q_2, .ref q_3, .ref q_4, .ref q_5])), (q_1, .inl (k 0, 120, .inl f_5)), (q_2, .inl (k 0, 120, .inl f_6)), (q_3, .inl (k 0, 120, .inl f_7)), (q_4, .inl (k 0, 120, .inl f_8))]) := by
  refine zMi_of (own := RX8) (by decide +kernel) rfl (Nat.le_of_ble_eq_true rfl) ?_
  intro p e s m args below meth c A ls C0 hr hlk hin hP hD hS hA hK hN hT hl
  have hx := C0.1
  have hb := C0.2.1
  have hml := C0.2.2.1
  have hown := C0.2.2.2.1
  have hts := C0.2.2.2.2
  have hl : lv_has ls 6 [(0, .ref q_0), (1, .int x_0), (2, .int x_1), (3, .int x_2), (4, .int x_3)] := hl
  have hP : va_P D vwCl [(q_0, .inr (8, [.int x_4, .ref q_1, .ref q_2, .ref q_3, .ref q_4, .ref q_5])), (q_1, .inl (k 0, 120, .inl f_5)), (q_2, .inl (k 0, 120, .inl f_6)), (q_3, .inl (k 0, 120, .inl f_7)), (q_4, .inl (k 0, 120, .inl f_8))] s.heap := hP
  refine lv_iconst (v := 0) hx hb dX8_isListedWithin_0 (by decide) ?_
  refine lv_istore (lv' := [(5, .int 0), (0, .ref q_0), (1, .int x_0), (2, .int x_1), (3, .int x_2), (4, .int x_3)]) hx hb dX8_isListedWithin_1 hl (by decide) rfl (fun ls hl => ?_)
  have loop9 : ∀ (N10 : Nat) (y8 : Int32) (H : Heap) (locs : List Loc) (ls : Array Slot), Int.toNat (120 - Int32.toInt y8) < N10 → 0 ≤ Int32.toInt y8 ∧ Int32.toInt y8 ≤ 120 → va_P D vwCl [(q_0, .inr (8, [.int x_4, .ref q_1, .ref q_2, .ref q_3, .ref q_4, .ref q_5])), (q_1, .inl (k 0, 120, .inl f_5)), (q_2, .inl (k 0, 120, .inl f_6)), (q_3, .inl (k 0, 120, .inl f_7)), (q_4, .inl (k 0, 120, .inl f_8))] H → va_D A [(q_0, .inr (8, [.int x_4, .ref q_1, .ref q_2, .ref q_3, .ref q_4, .ref q_5])), (q_1, .inl (k 0, 120, .inl f_5)), (q_2, .inl (k 0, 120, .inl f_6)), (q_3, .inl (k 0, 120, .inl f_7)), (q_4, .inl (k 0, 120, .inl f_8))] → va_S A s.heap H locs → lv_has ls 6 [(5, .int y8), (0, .ref q_0), (1, .int x_0), (2, .int x_1), (3, .int x_2), (4, .int x_3)] → W p l e { frames := 1, cells := 0, slots := 0, locals := 40 } s m args below meth c H locs 0 0 (MQ below (va_Qi (fun (r : Int32) (u : zS) => (u.1 = 0 ∧ r = 0) ∨ (u.1 = 1 ∧ r = 1)) (zB D k A (fun (u : zS) => [(q_0, .inr (8, [.int x_4, .ref q_1, .ref q_2, .ref q_3, .ref q_4, .ref q_5])), (q_1, .inl (k 0, 120, .inl f_5)), (q_2, .inl (k 0, 120, .inl f_6)), (q_3, .inl (k 0, 120, .inl f_7)), (q_4, .inl (k 0, 120, .inl f_8))])) A) args s 0 0 A) (F0 m 3 ls []) := by
    intro N10
    induction N10 with
    | zero => intro y8 H locs ls hm; exact absurd hm (Nat.not_lt_zero _)
    | succ N10 ihN10 =>
      intro y8 H locs ls hN10 hy8 hP hD hS hl
      refine lv_iload hx hb dX8_isListedWithin_3 (lv_at hl 0 rfl) ?_
      refine lv_aload_n hx hb dX8_isListedWithin_5 rfl (lv_at hl 1 rfl) ?_
      refine va_get (D := D) (ci := 8) (v := .int x_4) (C := RX8) (T := TX8) (N := 6) hx hb hts inX8 hown hK hP 0 rfl rfl 0 (by decide) (hts _ kF_X8_27) (fun _ h9 => h9) rfl dX8_isListedWithin_6 ?_
      refine lv_icmp_ge (tgt := 70) hx hb dX8_isListedWithin_9 (by decide) (fun c11 => ?_) (fun c11 => ?_)
      · refine lv_iconst (v := 0) hx hb dX8_isListedWithin_70 (by decide) ?_
        exact z_iret C0 hr hlk rfl hK hP hD hS (0, fun _ => 0, fun _ => 0, fun _ => 0, fun _ => (fun _ => 0), fun _ => (fun _ => 0), fun _ => (fun _ => none)) (Or.inl ⟨rfl, rfl⟩) [0, 1, 2, 3, 4] rfl rfl rfl dX8_isListedWithin_71
      · refine lv_aload_n hx hb dX8_isListedWithin_12 rfl (lv_at hl 1 rfl) ?_
        refine va_get (D := D) (ci := 8) (v := .ref q_1) (C := RX8) (T := TX8) (N := 6) hx hb hts inX8 hown hK hP 0 rfl rfl 1 (by decide) (hts _ kF_X8_9) (fun _ h9 => h9) rfl dX8_isListedWithin_13 ?_
        refine lv_iload hx hb dX8_isListedWithin_16 (lv_at hl 0 rfl) ?_
        refine va_iald hx hb hK hP 1 0 rfl rfl (by revert hN10 hy8 c11 h_x_4; first | omega | (simp only [vp_in_iff, Int32.lt_iff_toInt_lt, Int32.le_iff_toInt_le, Int64.lt_iff_toInt_lt, Int64.le_iff_toInt_le, Int32.toInt_toInt64, ← Int32.toInt_inj, ← Int64.toInt_inj, Int32.reduceToInt, Int64.reduceToInt] <;> omega)) dX8_isListedWithin_18 ?_
        refine lv_topi (fun y12 ey12 => ?_)
        have hy12 : 0 ≤ Int32.toInt y12 ∧ Int32.toInt y12 ≤ 39 := by rw [ey12]; exact h_f_5 _
        refine lv_iload_n hx hb dX8_isListedWithin_19 rfl (lv_at hl 2 rfl) ?_
        refine lv_icmp_ne (tgt := 64) hx hb dX8_isListedWithin_20 (by decide) (fun c13 => ?_) (fun c13 => ?_)
        · obtain ⟨y14, ey14⟩ : ∃ q : Int32, q = y8 + 1 := ⟨_, rfl⟩
          have hy14 : Int32.toInt y14 = Int32.toInt y8 + 1 := by rw [ey14]; exact zi_addc rfl (by decide) (by revert hN10 hy8 c11 h_x_4; first | omega | (simp only [vp_in_iff, Int32.lt_iff_toInt_lt, Int32.le_iff_toInt_le, Int64.lt_iff_toInt_lt, Int64.le_iff_toInt_le, Int32.toInt_toInt64, ← Int32.toInt_inj, ← Int64.toInt_inj, Int32.reduceToInt, Int64.reduceToInt] <;> omega))
          refine lv_iinc (v := y14) (lv' := [(5, .int y14), (0, .ref q_0), (1, .int x_0), (2, .int x_1), (3, .int x_2), (4, .int x_3)]) hx hb dX8_isListedWithin_64 hl (k := 0) rfl (by rw [ey14]; exact zz_inc (by decide)) (by decide) rfl (fun ls hl => ?_)
          refine lv_goto (tgt := 3) hx hb dX8_isListedWithin_67 (by decide) ?_
          exact ihN10 y14 _ _ ls (by revert hN10 hy8 c11 hy14 h_x_4; first | omega | (simp only [vp_in_iff, Int32.lt_iff_toInt_lt, Int32.le_iff_toInt_le, Int64.lt_iff_toInt_lt, Int64.le_iff_toInt_le, Int32.toInt_toInt64, ← Int32.toInt_inj, ← Int64.toInt_inj, Int32.reduceToInt, Int64.reduceToInt] <;> omega)) (by revert hN10 hy8 c11 hy14 h_x_4; first | omega | (simp only [vp_in_iff, Int32.lt_iff_toInt_lt, Int32.le_iff_toInt_le, Int64.lt_iff_toInt_lt, Int64.le_iff_toInt_le, Int32.toInt_toInt64, ← Int32.toInt_inj, ← Int64.toInt_inj, Int32.reduceToInt, Int64.reduceToInt] <;> omega)) hP hD hS (lv_sub hl [0, 1, 2, 3, 4, 5] rfl)
        · refine lv_aload_n hx hb dX8_isListedWithin_23 rfl (lv_at hl 1 rfl) ?_
          refine va_get (D := D) (ci := 8) (v := .ref q_2) (C := RX8) (T := TX8) (N := 6) hx hb hts inX8 hown hK hP 0 rfl rfl 2 (by decide) (hts _ kF_X8_15) (fun _ h9 => h9) rfl dX8_isListedWithin_24 ?_
          refine lv_iload hx hb dX8_isListedWithin_27 (lv_at hl 0 rfl) ?_
          refine va_iald hx hb hK hP 2 0 rfl rfl (by revert hN10 hy8 c11 h_x_4; first | omega | (simp only [vp_in_iff, Int32.lt_iff_toInt_lt, Int32.le_iff_toInt_le, Int64.lt_iff_toInt_lt, Int64.le_iff_toInt_le, Int32.toInt_toInt64, ← Int32.toInt_inj, ← Int64.toInt_inj, Int32.reduceToInt, Int64.reduceToInt] <;> omega)) dX8_isListedWithin_29 ?_
          refine lv_topi (fun y15 ey15 => ?_)
          have hy15 : 0 ≤ Int32.toInt y15 ∧ Int32.toInt y15 ≤ 4 := by rw [ey15]; exact h_f_6 _
          refine lv_iload_n hx hb dX8_isListedWithin_30 rfl (lv_at hl 3 rfl) ?_
          refine lv_icmp_ne (tgt := 64) hx hb dX8_isListedWithin_31 (by decide) (fun c16 => ?_) (fun c16 => ?_)
          · obtain ⟨y17, ey17⟩ : ∃ q : Int32, q = y8 + 1 := ⟨_, rfl⟩
            have hy17 : Int32.toInt y17 = Int32.toInt y8 + 1 := by rw [ey17]; exact zi_addc rfl (by decide) (by revert hN10 hy8 c11 h_x_4; first | omega | (simp only [vp_in_iff, Int32.lt_iff_toInt_lt, Int32.le_iff_toInt_le, Int64.lt_iff_toInt_lt, Int64.le_iff_toInt_le, Int32.toInt_toInt64, ← Int32.toInt_inj, ← Int64.toInt_inj, Int32.reduceToInt, Int64.reduceToInt] <;> omega))
            refine lv_iinc (v := y17) (lv' := [(5, .int y17), (0, .ref q_0), (1, .int x_0), (2, .int x_1), (3, .int x_2), (4, .int x_3)]) hx hb dX8_isListedWithin_64 hl (k := 0) rfl (by rw [ey17]; exact zz_inc (by decide)) (by decide) rfl (fun ls hl => ?_)
            refine lv_goto (tgt := 3) hx hb dX8_isListedWithin_67 (by decide) ?_
            exact ihN10 y17 _ _ ls (by revert hN10 hy8 c11 hy17 h_x_4; first | omega | (simp only [vp_in_iff, Int32.lt_iff_toInt_lt, Int32.le_iff_toInt_le, Int64.lt_iff_toInt_lt, Int64.le_iff_toInt_le, Int32.toInt_toInt64, ← Int32.toInt_inj, ← Int64.toInt_inj, Int32.reduceToInt, Int64.reduceToInt] <;> omega)) (by revert hN10 hy8 c11 hy17 h_x_4; first | omega | (simp only [vp_in_iff, Int32.lt_iff_toInt_lt, Int32.le_iff_toInt_le, Int64.lt_iff_toInt_lt, Int64.le_iff_toInt_le, Int32.toInt_toInt64, ← Int32.toInt_inj, ← Int64.toInt_inj, Int32.reduceToInt, Int64.reduceToInt] <;> omega)) hP hD hS (lv_sub hl [0, 1, 2, 3, 4, 5] rfl)
          · refine lv_aload_n hx hb dX8_isListedWithin_34 rfl (lv_at hl 1 rfl) ?_
            refine va_get (D := D) (ci := 8) (v := .ref q_3) (C := RX8) (T := TX8) (N := 6) hx hb hts inX8 hown hK hP 0 rfl rfl 3 (by decide) (hts _ kF_X8_18) (fun _ h9 => h9) rfl dX8_isListedWithin_35 ?_
            refine lv_iload hx hb dX8_isListedWithin_38 (lv_at hl 0 rfl) ?_
            refine va_iald hx hb hK hP 3 0 rfl rfl (by revert hN10 hy8 c11 h_x_4; first | omega | (simp only [vp_in_iff, Int32.lt_iff_toInt_lt, Int32.le_iff_toInt_le, Int64.lt_iff_toInt_lt, Int64.le_iff_toInt_le, Int32.toInt_toInt64, ← Int32.toInt_inj, ← Int64.toInt_inj, Int32.reduceToInt, Int64.reduceToInt] <;> omega)) dX8_isListedWithin_40 ?_
            refine lv_topi (fun y18 ey18 => ?_)
            have hy18 : 0 ≤ Int32.toInt y18 ∧ Int32.toInt y18 ≤ 399 := by rw [ey18]; exact h_f_7 _
            refine lv_iload_n hx hb dX8_isListedWithin_41 rfl (lv_at hl 4 rfl) ?_
            refine va_mmax hx hb (by rw [hml]; exact hl.1.symm) hown (hts _ kmaxL_X8_35) (hts _ kmaxS) (hts _ kZ_J9) (hts _ kmaxC) (Nat.le_of_ble_eq_true rfl) (Nat.le_of_ble_eq_true rfl) (Nat.le_of_ble_eq_true rfl) (Nat.le_of_ble_eq_true rfl) dX8_isListedWithin_42 ?_
            refine lv_topi (fun y19 ey19 => ?_)
            have hy19 := zo_max y18 x_2
            rw [← ey19] at hy19
            refine lv_aload_n hx hb dX8_isListedWithin_45 rfl (lv_at hl 1 rfl) ?_
            refine va_get (D := D) (ci := 8) (v := .ref q_4) (C := RX8) (T := TX8) (N := 6) hx hb hts inX8 hown hK hP 0 rfl rfl 4 (by decide) (hts _ kF_X8_21) (fun _ h9 => h9) rfl dX8_isListedWithin_46 ?_
            refine lv_iload hx hb dX8_isListedWithin_49 (lv_at hl 0 rfl) ?_
            refine va_iald hx hb hK hP 4 0 rfl rfl (by revert hN10 hy8 c11 h_x_4; first | omega | (simp only [vp_in_iff, Int32.lt_iff_toInt_lt, Int32.le_iff_toInt_le, Int64.lt_iff_toInt_lt, Int64.le_iff_toInt_le, Int32.toInt_toInt64, ← Int32.toInt_inj, ← Int64.toInt_inj, Int32.reduceToInt, Int64.reduceToInt] <;> omega)) dX8_isListedWithin_51 ?_
            refine lv_topi (fun y20 ey20 => ?_)
            have hy20 : 0 ≤ Int32.toInt y20 ∧ Int32.toInt y20 ≤ 400 := by rw [ey20]; exact h_f_8 _
            refine lv_iconst (v := 1) hx hb dX8_isListedWithin_52 (by decide) ?_
            refine lv_isub hx hb dX8_isListedWithin_53 ?_
            refine lv_topi (fun y21 ey21 => ?_)
            have hy21 : Int32.toInt y21 = Int32.toInt y20 - 1 := by rw [ey21]; exact zi_subc rfl (by decide) (by revert hy20; first | omega | (simp only [vp_in_iff, Int32.lt_iff_toInt_lt, Int32.le_iff_toInt_le, Int64.lt_iff_toInt_lt, Int64.le_iff_toInt_le, Int32.toInt_toInt64, ← Int32.toInt_inj, ← Int64.toInt_inj, Int32.reduceToInt, Int64.reduceToInt] <;> omega))
            refine lv_iload hx hb dX8_isListedWithin_54 (lv_at hl 5 rfl) ?_
            refine va_mmin hx hb (by rw [hml]; exact hl.1.symm) hown (hts _ kminL_X8_41) (hts _ kminS) (hts _ kZ_J9) (hts _ kminC) (Nat.le_of_ble_eq_true rfl) (Nat.le_of_ble_eq_true rfl) (Nat.le_of_ble_eq_true rfl) (Nat.le_of_ble_eq_true rfl) dX8_isListedWithin_56 ?_
            refine lv_topi (fun y22 ey22 => ?_)
            have hy22 := zo_min y21 x_3
            rw [← ey22] at hy22
            refine lv_icmp_gt (tgt := 64) hx hb dX8_isListedWithin_59 (by decide) (fun c23 => ?_) (fun c23 => ?_)
            · obtain ⟨y24, ey24⟩ : ∃ q : Int32, q = y8 + 1 := ⟨_, rfl⟩
              have hy24 : Int32.toInt y24 = Int32.toInt y8 + 1 := by rw [ey24]; exact zi_addc rfl (by decide) (by revert hN10 hy8 c11 h_x_4; first | omega | (simp only [vp_in_iff, Int32.lt_iff_toInt_lt, Int32.le_iff_toInt_le, Int64.lt_iff_toInt_lt, Int64.le_iff_toInt_le, Int32.toInt_toInt64, ← Int32.toInt_inj, ← Int64.toInt_inj, Int32.reduceToInt, Int64.reduceToInt] <;> omega))
              refine lv_iinc (v := y24) (lv' := [(5, .int y24), (0, .ref q_0), (1, .int x_0), (2, .int x_1), (3, .int x_2), (4, .int x_3)]) hx hb dX8_isListedWithin_64 hl (k := 0) rfl (by rw [ey24]; exact zz_inc (by decide)) (by decide) rfl (fun ls hl => ?_)
              refine lv_goto (tgt := 3) hx hb dX8_isListedWithin_67 (by decide) ?_
              exact ihN10 y24 _ _ ls (by revert hN10 hy8 c11 hy24 h_x_4; first | omega | (simp only [vp_in_iff, Int32.lt_iff_toInt_lt, Int32.le_iff_toInt_le, Int64.lt_iff_toInt_lt, Int64.le_iff_toInt_le, Int32.toInt_toInt64, ← Int32.toInt_inj, ← Int64.toInt_inj, Int32.reduceToInt, Int64.reduceToInt] <;> omega)) (by revert hN10 hy8 c11 hy24 h_x_4; first | omega | (simp only [vp_in_iff, Int32.lt_iff_toInt_lt, Int32.le_iff_toInt_le, Int64.lt_iff_toInt_lt, Int64.le_iff_toInt_le, Int32.toInt_toInt64, ← Int32.toInt_inj, ← Int64.toInt_inj, Int32.reduceToInt, Int64.reduceToInt] <;> omega)) hP hD hS (lv_sub hl [0, 1, 2, 3, 4, 5] rfl)
            · refine lv_iconst (v := 1) hx hb dX8_isListedWithin_62 (by decide) ?_
              exact z_iret C0 hr hlk rfl hK hP hD hS (1, fun _ => 0, fun _ => 0, fun _ => 0, fun _ => (fun _ => 0), fun _ => (fun _ => 0), fun _ => (fun _ => none)) (Or.inr (⟨rfl, rfl⟩)) [0, 1, 2, 3, 4] rfl rfl rfl dX8_isListedWithin_63
  exact loop9 _ 0 _ _ _ (Nat.lt_succ_self _) (by first | omega | (simp only [vp_in_iff, Int32.lt_iff_toInt_lt, Int32.le_iff_toInt_le, Int64.lt_iff_toInt_lt, Int64.le_iff_toInt_le, Int32.toInt_toInt64, ← Int32.toInt_inj, ← Int64.toInt_inj, Int32.reduceToInt, Int64.reduceToInt] <;> omega)) hP hD hS (lv_sub hl [0, 1, 2, 3, 4, 5] rfl)

set_option maxHeartbeats 4000000 in
set_option maxRecDepth 100000 in
theorem s_X8_isListed_1 (l : Launch) (D : va_G) (k : Nat → ClassId) (T : zTy) (q_0 : Nat) (q_1 : Nat) (q_2 : Nat) (q_3 : Nat) (q_4 : Nat) (q_5 : Nat) (x_0 : Int32) (x_1 : Int32) (x_2 : Int32) (x_3 : Int32) (f_4 : Nat → Int32) (f_5 : Nat → Int32) (f_6 : Nat → Int32) (f_7 : Nat → Int32) (h_x_3 : 0 ≤ Int32.toInt x_3 ∧ Int32.toInt x_3 ≤ 120) (h_f_4 : zR f_4 0 39) (h_f_5 : zR f_5 0 4) (h_f_6 : zR f_6 0 399) (h_f_7 : zR f_7 0 400) : zMi l yX8_isListed cX8_isListed 4 (some .boolean) ({ frames := 2, cells := 0, slots := 0, locals := 65 }) D k T [.ref q_0, .int x_0, .int x_1, .int x_2] [(q_0, .inr (8, [.int x_3, .ref q_1, .ref q_2, .ref q_3, .ref q_4, .ref q_5])), (q_1, .inl (k 0, 120, .inl f_4)), (q_2, .inl (k 0, 120, .inl f_5)), (q_3, .inl (k 0, 120, .inl f_6)), (q_4, .inl (k 0, 120, .inl f_7))] (fun r u => (u.1 = 0 ∧ r = 0) ∨ (u.1 = 1 ∧ r = 1)) (fun u => [(q_0, .inr (8, [.int x_3, .ref q_1, .ref q_2, .ref q_3, .ref q_4, .ref q_5])), (q_1, .inl (k 0, 120, .inl f_4)), (q_2, .inl (k 0, 120, .inl f_5)), (q_3, .inl (k 0, 120, .inl f_6)), (q_4, .inl (k 0, 120, .inl f_7))]) := by
  refine zMi_of (own := RX8) (by decide +kernel) rfl (Nat.le_of_ble_eq_true rfl) ?_
  intro p e s m args below meth c A ls C0 hr hlk hin hP hD hS hA hK hN hT hl
  have hx := C0.1
  have hb := C0.2.1
  have hml := C0.2.2.1
  have hown := C0.2.2.2.1
  have hts := C0.2.2.2.2
  have hl : lv_has ls 4 [(0, .ref q_0), (1, .int x_0), (2, .int x_1), (3, .int x_2)] := hl
  have hP : va_P D vwCl [(q_0, .inr (8, [.int x_3, .ref q_1, .ref q_2, .ref q_3, .ref q_4, .ref q_5])), (q_1, .inl (k 0, 120, .inl f_4)), (q_2, .inl (k 0, 120, .inl f_5)), (q_3, .inl (k 0, 120, .inl f_6)), (q_4, .inl (k 0, 120, .inl f_7))] s.heap := hP
  refine lv_aload_n hx hb dX8_isListed_0 rfl (lv_at hl 0 rfl) ?_
  refine lv_iload_n hx hb dX8_isListed_1 rfl (lv_at hl 1 rfl) ?_
  refine lv_iload_n hx hb dX8_isListed_2 rfl (lv_at hl 2 rfl) ?_
  refine lv_iload_n hx hb dX8_isListed_3 rfl (lv_at hl 3 rfl) ?_
  refine lv_iload_n hx hb dX8_isListed_4 rfl (lv_at hl 3 rfl) ?_
  refine z_bi (wr := []) (z_runV (C := RX8) (As := [.int x_0, .int x_1, .int x_2, .int x_2]) (rest := []) C0 (s_X8_isListedWithin_1 l D k T q_0 q_1 q_2 q_3 q_4 q_5 x_0 x_1 x_2 x_2 x_3 f_4 f_5 f_6 f_7 (by revert h_x_3; first | omega | (simp only [vp_in_iff, Int32.lt_iff_toInt_lt, Int32.le_iff_toInt_le, Int64.lt_iff_toInt_lt, Int64.le_iff_toInt_le, Int32.toInt_toInt64, ← Int32.toInt_inj, ← Int64.toInt_inj, Int32.reduceToInt, Int64.reduceToInt] <;> omega)) h_f_4 h_f_5 h_f_6 h_f_7 _) okV_X8_isListedWithin kM_X8_31 rfl (z_pV (q0 := 0) hT hS hA hK hN hP hD [0, 1, 2, 3, 4] rfl rfl rfl rfl rfl) rfl hl.1 rfl (Nat.le_of_ble_eq_true rfl) dX8_isListed_5 rfl) hP hD hS hA [0, 1, 2, 3, 4] [] rfl rfl rfl rfl (fun r1 u1 H locs hw1 hP hD hS => ?_)
  obtain ⟨i1, a1, v1, w1, f1, g1, o1⟩ := u1
  dsimp only at hw1
  rcases hw1 with ⟨rfl, rfl⟩ | ⟨rfl, rfl⟩
  · have hP : va_P D vwCl [(q_0, .inr (8, [.int x_3, .ref q_1, .ref q_2, .ref q_3, .ref q_4, .ref q_5])), (q_1, .inl (k 0, 120, .inl f_4)), (q_2, .inl (k 0, 120, .inl f_5)), (q_3, .inl (k 0, 120, .inl f_6)), (q_4, .inl (k 0, 120, .inl f_7))] H := hP
    have hD : va_D A [(q_0, .inr (8, [.int x_3, .ref q_1, .ref q_2, .ref q_3, .ref q_4, .ref q_5])), (q_1, .inl (k 0, 120, .inl f_4)), (q_2, .inl (k 0, 120, .inl f_5)), (q_3, .inl (k 0, 120, .inl f_6)), (q_4, .inl (k 0, 120, .inl f_7))] := hD
    exact z_iret C0 hr hlk rfl hK hP hD hS (0, fun _ => 0, fun _ => 0, fun _ => 0, fun _ => (fun _ => 0), fun _ => (fun _ => 0), fun _ => (fun _ => none)) (Or.inl ⟨rfl, rfl⟩) [0, 1, 2, 3, 4] rfl rfl rfl dX8_isListed_8
  · have hP : va_P D vwCl [(q_0, .inr (8, [.int x_3, .ref q_1, .ref q_2, .ref q_3, .ref q_4, .ref q_5])), (q_1, .inl (k 0, 120, .inl f_4)), (q_2, .inl (k 0, 120, .inl f_5)), (q_3, .inl (k 0, 120, .inl f_6)), (q_4, .inl (k 0, 120, .inl f_7))] H := hP
    have hD : va_D A [(q_0, .inr (8, [.int x_3, .ref q_1, .ref q_2, .ref q_3, .ref q_4, .ref q_5])), (q_1, .inl (k 0, 120, .inl f_4)), (q_2, .inl (k 0, 120, .inl f_5)), (q_3, .inl (k 0, 120, .inl f_6)), (q_4, .inl (k 0, 120, .inl f_7))] := hD
    exact z_iret C0 hr hlk rfl hK hP hD hS (1, fun _ => 0, fun _ => 0, fun _ => 0, fun _ => (fun _ => 0), fun _ => (fun _ => 0), fun _ => (fun _ => none)) (Or.inr (⟨rfl, rfl⟩)) [0, 1, 2, 3, 4] rfl rfl rfl dX8_isListed_8

set_option maxHeartbeats 4000000 in
set_option maxRecDepth 100000 in
theorem s_X11_isOn_1 (l : Launch) (D : va_G) (k : Nat → ClassId) (T : zTy) (q_0 : Nat) (q_1 : Nat) (q_2 : Nat) (q_3 : Nat) (q_4 : Nat) (q_5 : Nat) (q_6 : Nat) (q_7 : Nat) (q_8 : Nat) (q_9 : Nat) (q_10 : Nat) (q_11 : Nat) (q_12 : Nat) (q_13 : Nat) (q_14 : Nat) (q_15 : Nat) (q_16 : Nat) (q_17 : Nat) (q_18 : Nat) (q_19 : Nat) (q_20 : Nat) (q_21 : Nat) (q_22 : Nat) (q_23 : Nat) (q_24 : Nat) (q_25 : Nat) (q_26 : Nat) (q_27 : Nat) (q_28 : Nat) (x_0 : Int32) (x_1 : Int32) (x_2 : Int32) (x_3 : Int32) (x_4 : Int32) (x_5 : Int32) (x_6 : Int32) (x_7 : Int32) (f_8 : Nat → Int32) (f_9 : Nat → Int32) (f_10 : Nat → Int32) (f_11 : Nat → Int32) (h_x_4 : 0 ≤ Int32.toInt x_4 ∧ Int32.toInt x_4 ≤ 40) (h_x_5 : 0 ≤ Int32.toInt x_5 ∧ Int32.toInt x_5 ≤ 5) (h_x_6 : 0 ≤ Int32.toInt x_6 ∧ Int32.toInt x_6 ≤ 60) (h_x_7 : 0 ≤ Int32.toInt x_7 ∧ Int32.toInt x_7 ≤ 120) (h_f_8 : zR f_8 0 39) (h_f_9 : zR f_9 0 4) (h_f_10 : zR f_10 0 399) (h_f_11 : zR f_11 0 400) : zMi l yX11_isOn cX11_isOn 4 (some .int) ({ frames := 3, cells := 0, slots := 0, locals := 88 }) D k T [.ref q_0, .int x_0, .int x_1, .int x_2] [(q_0, .inr (11, [.ref q_1, .ref q_8, .ref q_9, .ref q_10, .ref q_11, .int x_3])), (q_1, .inr (3, [.ref q_2, .ref q_3, .ref q_12, .ref q_13, .ref q_14, .ref q_15])), (q_2, .inr (6, [.int x_4, .ref q_16, .ref q_17, .ref q_18, .ref q_19, .ref q_20, .int x_5, .ref q_21, .int x_6, .ref q_22, .ref q_23, .ref q_24, .ref q_25, .ref q_26, .ref q_27])), (q_3, .inr (8, [.int x_7, .ref q_4, .ref q_5, .ref q_6, .ref q_7, .ref q_28])), (q_4, .inl (k 0, 120, .inl f_8)), (q_5, .inl (k 0, 120, .inl f_9)), (q_6, .inl (k 0, 120, .inl f_10)), (q_7, .inl (k 0, 120, .inl f_11))] (fun r u => u.1 = 0 ∧ ((-1) ≤ Int32.toInt r ∧ Int32.toInt r ≤ 1)) (fun u => [(q_0, .inr (11, [.ref q_1, .ref q_8, .ref q_9, .ref q_10, .ref q_11, .int x_3])), (q_1, .inr (3, [.ref q_2, .ref q_3, .ref q_12, .ref q_13, .ref q_14, .ref q_15])), (q_2, .inr (6, [.int x_4, .ref q_16, .ref q_17, .ref q_18, .ref q_19, .ref q_20, .int x_5, .ref q_21, .int x_6, .ref q_22, .ref q_23, .ref q_24, .ref q_25, .ref q_26, .ref q_27])), (q_3, .inr (8, [.int x_7, .ref q_4, .ref q_5, .ref q_6, .ref q_7, .ref q_28])), (q_4, .inl (k 0, 120, .inl f_8)), (q_5, .inl (k 0, 120, .inl f_9)), (q_6, .inl (k 0, 120, .inl f_10)), (q_7, .inl (k 0, 120, .inl f_11))]) := by
  refine zMi_of (own := RX11) (by decide +kernel) rfl (Nat.le_of_ble_eq_true rfl) ?_
  intro p e s m args below meth c A ls C0 hr hlk hin hP hD hS hA hK hN hT hl
  have hx := C0.1
  have hb := C0.2.1
  have hml := C0.2.2.1
  have hown := C0.2.2.2.1
  have hts := C0.2.2.2.2
  have hl : lv_has ls 4 [(0, .ref q_0), (1, .int x_0), (2, .int x_1), (3, .int x_2)] := hl
  have hP : va_P D vwCl [(q_0, .inr (11, [.ref q_1, .ref q_8, .ref q_9, .ref q_10, .ref q_11, .int x_3])), (q_1, .inr (3, [.ref q_2, .ref q_3, .ref q_12, .ref q_13, .ref q_14, .ref q_15])), (q_2, .inr (6, [.int x_4, .ref q_16, .ref q_17, .ref q_18, .ref q_19, .ref q_20, .int x_5, .ref q_21, .int x_6, .ref q_22, .ref q_23, .ref q_24, .ref q_25, .ref q_26, .ref q_27])), (q_3, .inr (8, [.int x_7, .ref q_4, .ref q_5, .ref q_6, .ref q_7, .ref q_28])), (q_4, .inl (k 0, 120, .inl f_8)), (q_5, .inl (k 0, 120, .inl f_9)), (q_6, .inl (k 0, 120, .inl f_10)), (q_7, .inl (k 0, 120, .inl f_11))] s.heap := hP
  refine lv_iload_n hx hb dX11_isOn_0 rfl (lv_at hl 3 rfl) ?_
  refine z_bi0 (z_runS (As := [.int x_2]) (rest := []) C0 (s_X11_isNoDay_1 l D k T x_2 _) okS_X11_isNoDay kM_X11_72 rfl (z_p0 hT hS hA hK hN) rfl hl.1 rfl (Nat.le_of_ble_eq_true rfl) dX11_isOn_1 rfl) hP hS hA (fun r1 u1 H locs hw1 hP hS => ?_)
  obtain ⟨i1, a1, v1, w1, f1, g1, o1⟩ := u1
  dsimp only at hw1
  rcases hw1 with ⟨rfl, rfl, c1⟩ | ⟨rfl, rfl, c1⟩
  · refine lv_if_ne (tgt := 35) hx hb dX11_isOn_4 (by decide) (fun _ => ?_) (fun c2 => absurd c2 (by decide))
    refine lv_iconst (v := (-1)) hx hb dX11_isOn_35 (by decide) ?_
    exact z_iret C0 hr hlk rfl hK hP hD hS (0, fun _ => 0, fun _ => 0, fun _ => 0, fun _ => (fun _ => 0), fun _ => (fun _ => 0), fun _ => (fun _ => none)) ⟨rfl, (by decide)⟩ [0, 1, 2, 3, 4, 5, 6, 7] rfl rfl rfl dX11_isOn_36
  · refine lv_if_ne (tgt := 35) hx hb dX11_isOn_4 (by decide) (fun c3 => absurd (by decide) c3) (fun _ => ?_)
    refine lv_aload_n hx hb dX11_isOn_7 rfl (lv_at hl 0 rfl) ?_
    refine va_get (D := D) (ci := 11) (v := .ref q_1) (C := RX11) (T := TX11) (N := 6) hx hb hts inX11 hown hK hP 0 rfl rfl 0 (by decide) (hts _ kF_X11_12) (fun _ h9 => h9) rfl dX11_isOn_8 ?_
    refine va_get (D := D) (ci := 3) (v := .ref q_2) (C := RX3) (T := TX3) (N := 6) hx hb hts inX3 hown hK hP 1 rfl rfl 0 (by decide) (hts _ kF_X11_43) (fun _ h9 => h9) rfl dX11_isOn_11 ?_
    refine lv_iload_n hx hb dX11_isOn_14 rfl (lv_at hl 1 rfl) ?_
    refine z_bi (wr := [(q_0, .inr (11, [.ref q_1, .ref q_8, .ref q_9, .ref q_10, .ref q_11, .int x_3])), (q_1, .inr (3, [.ref q_2, .ref q_3, .ref q_12, .ref q_13, .ref q_14, .ref q_15])), (q_3, .inr (8, [.int x_7, .ref q_4, .ref q_5, .ref q_6, .ref q_7, .ref q_28])), (q_4, .inl (k 0, 120, .inl f_8)), (q_5, .inl (k 0, 120, .inl f_9)), (q_6, .inl (k 0, 120, .inl f_10)), (q_7, .inl (k 0, 120, .inl f_11))]) (z_runV (C := RX6) (As := [.int x_0]) (rest := []) C0 (s_X6_isNoChild_1 l D k T q_2 q_16 q_17 q_18 q_19 q_20 q_21 q_22 q_23 q_24 q_25 q_26 q_27 x_0 x_4 x_5 x_6 (by revert h_x_4; first | omega | (simp only [vp_in_iff, Int32.lt_iff_toInt_lt, Int32.le_iff_toInt_le, Int64.lt_iff_toInt_lt, Int64.le_iff_toInt_le, Int32.toInt_toInt64, ← Int32.toInt_inj, ← Int64.toInt_inj, Int32.reduceToInt, Int64.reduceToInt] <;> omega)) (by revert h_x_5; first | omega | (simp only [vp_in_iff, Int32.lt_iff_toInt_lt, Int32.le_iff_toInt_le, Int64.lt_iff_toInt_lt, Int64.le_iff_toInt_le, Int32.toInt_toInt64, ← Int32.toInt_inj, ← Int64.toInt_inj, Int32.reduceToInt, Int64.reduceToInt] <;> omega)) (by revert h_x_6; first | omega | (simp only [vp_in_iff, Int32.lt_iff_toInt_lt, Int32.le_iff_toInt_le, Int64.lt_iff_toInt_lt, Int64.le_iff_toInt_le, Int32.toInt_toInt64, ← Int32.toInt_inj, ← Int64.toInt_inj, Int32.reduceToInt, Int64.reduceToInt] <;> omega)) _) okV_X6_isNoChild kM_X11_90 rfl (z_pV (q0 := 2) hT hS hA hK hN hP hD [2] rfl rfl rfl rfl rfl) rfl hl.1 rfl (Nat.le_of_ble_eq_true rfl) dX11_isOn_15 rfl) hP hD hS hA [2] [0, 1, 3, 4, 5, 6, 7] rfl rfl rfl rfl (fun r4 u4 H locs hw4 hP hD hS => ?_)
    obtain ⟨i4, a4, v4, w4, f4, g4, o4⟩ := u4
    dsimp only at hw4
    rcases hw4 with ⟨rfl, rfl, c4⟩ | ⟨rfl, rfl, c4⟩
    · have hP : va_P D vwCl [(q_0, .inr (11, [.ref q_1, .ref q_8, .ref q_9, .ref q_10, .ref q_11, .int x_3])), (q_1, .inr (3, [.ref q_2, .ref q_3, .ref q_12, .ref q_13, .ref q_14, .ref q_15])), (q_3, .inr (8, [.int x_7, .ref q_4, .ref q_5, .ref q_6, .ref q_7, .ref q_28])), (q_4, .inl (k 0, 120, .inl f_8)), (q_5, .inl (k 0, 120, .inl f_9)), (q_6, .inl (k 0, 120, .inl f_10)), (q_7, .inl (k 0, 120, .inl f_11)), (q_2, .inr (6, [.int x_4, .ref q_16, .ref q_17, .ref q_18, .ref q_19, .ref q_20, .int x_5, .ref q_21, .int x_6, .ref q_22, .ref q_23, .ref q_24, .ref q_25, .ref q_26, .ref q_27]))] H := hP
      have hD : va_D A [(q_0, .inr (11, [.ref q_1, .ref q_8, .ref q_9, .ref q_10, .ref q_11, .int x_3])), (q_1, .inr (3, [.ref q_2, .ref q_3, .ref q_12, .ref q_13, .ref q_14, .ref q_15])), (q_3, .inr (8, [.int x_7, .ref q_4, .ref q_5, .ref q_6, .ref q_7, .ref q_28])), (q_4, .inl (k 0, 120, .inl f_8)), (q_5, .inl (k 0, 120, .inl f_9)), (q_6, .inl (k 0, 120, .inl f_10)), (q_7, .inl (k 0, 120, .inl f_11)), (q_2, .inr (6, [.int x_4, .ref q_16, .ref q_17, .ref q_18, .ref q_19, .ref q_20, .int x_5, .ref q_21, .int x_6, .ref q_22, .ref q_23, .ref q_24, .ref q_25, .ref q_26, .ref q_27]))] := hD
      refine lv_if_ne (tgt := 35) hx hb dX11_isOn_18 (by decide) (fun _ => ?_) (fun c5 => absurd c5 (by decide))
      refine lv_iconst (v := (-1)) hx hb dX11_isOn_35 (by decide) ?_
      exact z_iret C0 hr hlk rfl hK hP hD hS (0, fun _ => 0, fun _ => 0, fun _ => 0, fun _ => (fun _ => 0), fun _ => (fun _ => 0), fun _ => (fun _ => none)) ⟨rfl, (by decide)⟩ [0, 1, 7, 2, 3, 4, 5, 6] rfl rfl rfl dX11_isOn_36
    · have hP : va_P D vwCl [(q_0, .inr (11, [.ref q_1, .ref q_8, .ref q_9, .ref q_10, .ref q_11, .int x_3])), (q_1, .inr (3, [.ref q_2, .ref q_3, .ref q_12, .ref q_13, .ref q_14, .ref q_15])), (q_3, .inr (8, [.int x_7, .ref q_4, .ref q_5, .ref q_6, .ref q_7, .ref q_28])), (q_4, .inl (k 0, 120, .inl f_8)), (q_5, .inl (k 0, 120, .inl f_9)), (q_6, .inl (k 0, 120, .inl f_10)), (q_7, .inl (k 0, 120, .inl f_11)), (q_2, .inr (6, [.int x_4, .ref q_16, .ref q_17, .ref q_18, .ref q_19, .ref q_20, .int x_5, .ref q_21, .int x_6, .ref q_22, .ref q_23, .ref q_24, .ref q_25, .ref q_26, .ref q_27]))] H := hP
      have hD : va_D A [(q_0, .inr (11, [.ref q_1, .ref q_8, .ref q_9, .ref q_10, .ref q_11, .int x_3])), (q_1, .inr (3, [.ref q_2, .ref q_3, .ref q_12, .ref q_13, .ref q_14, .ref q_15])), (q_3, .inr (8, [.int x_7, .ref q_4, .ref q_5, .ref q_6, .ref q_7, .ref q_28])), (q_4, .inl (k 0, 120, .inl f_8)), (q_5, .inl (k 0, 120, .inl f_9)), (q_6, .inl (k 0, 120, .inl f_10)), (q_7, .inl (k 0, 120, .inl f_11)), (q_2, .inr (6, [.int x_4, .ref q_16, .ref q_17, .ref q_18, .ref q_19, .ref q_20, .int x_5, .ref q_21, .int x_6, .ref q_22, .ref q_23, .ref q_24, .ref q_25, .ref q_26, .ref q_27]))] := hD
      refine lv_if_ne (tgt := 35) hx hb dX11_isOn_18 (by decide) (fun c6 => absurd (by decide) c6) (fun _ => ?_)
      refine lv_aload_n hx hb dX11_isOn_21 rfl (lv_at hl 0 rfl) ?_
      refine va_get (D := D) (ci := 11) (v := .ref q_1) (C := RX11) (T := TX11) (N := 6) hx hb hts inX11 hown hK hP 0 rfl rfl 0 (by decide) (hts _ kF_X11_12) (fun _ h9 => h9) rfl dX11_isOn_22 ?_
      refine va_get (D := D) (ci := 3) (v := .ref q_2) (C := RX3) (T := TX3) (N := 6) hx hb hts inX3 hown hK hP 1 rfl rfl 0 (by decide) (hts _ kF_X11_43) (fun _ h9 => h9) rfl dX11_isOn_25 ?_
      refine lv_iload_n hx hb dX11_isOn_28 rfl (lv_at hl 2 rfl) ?_
      refine z_bi (wr := [(q_0, .inr (11, [.ref q_1, .ref q_8, .ref q_9, .ref q_10, .ref q_11, .int x_3])), (q_1, .inr (3, [.ref q_2, .ref q_3, .ref q_12, .ref q_13, .ref q_14, .ref q_15])), (q_3, .inr (8, [.int x_7, .ref q_4, .ref q_5, .ref q_6, .ref q_7, .ref q_28])), (q_4, .inl (k 0, 120, .inl f_8)), (q_5, .inl (k 0, 120, .inl f_9)), (q_6, .inl (k 0, 120, .inl f_10)), (q_7, .inl (k 0, 120, .inl f_11))]) (z_runV (C := RX6) (As := [.int x_1]) (rest := []) C0 (s_X6_isNoSchool_1 l D k T q_2 q_16 q_17 q_18 q_19 q_20 q_21 q_22 q_23 q_24 q_25 q_26 q_27 x_1 x_4 x_5 x_6 (by revert h_x_4 c4; first | omega | (simp only [vp_in_iff, Int32.lt_iff_toInt_lt, Int32.le_iff_toInt_le, Int64.lt_iff_toInt_lt, Int64.le_iff_toInt_le, Int32.toInt_toInt64, ← Int32.toInt_inj, ← Int64.toInt_inj, Int32.reduceToInt, Int64.reduceToInt] <;> omega)) (by revert h_x_5; first | omega | (simp only [vp_in_iff, Int32.lt_iff_toInt_lt, Int32.le_iff_toInt_le, Int64.lt_iff_toInt_lt, Int64.le_iff_toInt_le, Int32.toInt_toInt64, ← Int32.toInt_inj, ← Int64.toInt_inj, Int32.reduceToInt, Int64.reduceToInt] <;> omega)) (by revert h_x_6; first | omega | (simp only [vp_in_iff, Int32.lt_iff_toInt_lt, Int32.le_iff_toInt_le, Int64.lt_iff_toInt_lt, Int64.le_iff_toInt_le, Int32.toInt_toInt64, ← Int32.toInt_inj, ← Int64.toInt_inj, Int32.reduceToInt, Int64.reduceToInt] <;> omega)) _) okV_X6_isNoSchool kM_X11_76 rfl (z_pV (q0 := 7) hT hS hA hK hN hP hD [7] rfl rfl rfl rfl rfl) rfl hl.1 rfl (Nat.le_of_ble_eq_true rfl) dX11_isOn_29 rfl) hP hD hS hA [7] [0, 1, 2, 3, 4, 5, 6] rfl rfl rfl rfl (fun r7 u7 H locs hw7 hP hD hS => ?_)
      obtain ⟨i7, a7, v7, w7, f7, g7, o7⟩ := u7
      dsimp only at hw7
      rcases hw7 with ⟨rfl, rfl, c7⟩ | ⟨rfl, rfl, c7⟩
      · have hP : va_P D vwCl [(q_0, .inr (11, [.ref q_1, .ref q_8, .ref q_9, .ref q_10, .ref q_11, .int x_3])), (q_1, .inr (3, [.ref q_2, .ref q_3, .ref q_12, .ref q_13, .ref q_14, .ref q_15])), (q_3, .inr (8, [.int x_7, .ref q_4, .ref q_5, .ref q_6, .ref q_7, .ref q_28])), (q_4, .inl (k 0, 120, .inl f_8)), (q_5, .inl (k 0, 120, .inl f_9)), (q_6, .inl (k 0, 120, .inl f_10)), (q_7, .inl (k 0, 120, .inl f_11)), (q_2, .inr (6, [.int x_4, .ref q_16, .ref q_17, .ref q_18, .ref q_19, .ref q_20, .int x_5, .ref q_21, .int x_6, .ref q_22, .ref q_23, .ref q_24, .ref q_25, .ref q_26, .ref q_27]))] H := hP
        have hD : va_D A [(q_0, .inr (11, [.ref q_1, .ref q_8, .ref q_9, .ref q_10, .ref q_11, .int x_3])), (q_1, .inr (3, [.ref q_2, .ref q_3, .ref q_12, .ref q_13, .ref q_14, .ref q_15])), (q_3, .inr (8, [.int x_7, .ref q_4, .ref q_5, .ref q_6, .ref q_7, .ref q_28])), (q_4, .inl (k 0, 120, .inl f_8)), (q_5, .inl (k 0, 120, .inl f_9)), (q_6, .inl (k 0, 120, .inl f_10)), (q_7, .inl (k 0, 120, .inl f_11)), (q_2, .inr (6, [.int x_4, .ref q_16, .ref q_17, .ref q_18, .ref q_19, .ref q_20, .int x_5, .ref q_21, .int x_6, .ref q_22, .ref q_23, .ref q_24, .ref q_25, .ref q_26, .ref q_27]))] := hD
        refine lv_if_eq (tgt := 37) hx hb dX11_isOn_32 (by decide) (fun c8 => absurd c8 (by decide)) (fun _ => ?_)
        refine lv_iconst (v := (-1)) hx hb dX11_isOn_35 (by decide) ?_
        exact z_iret C0 hr hlk rfl hK hP hD hS (0, fun _ => 0, fun _ => 0, fun _ => 0, fun _ => (fun _ => 0), fun _ => (fun _ => 0), fun _ => (fun _ => none)) ⟨rfl, (by decide)⟩ [0, 1, 7, 2, 3, 4, 5, 6] rfl rfl rfl dX11_isOn_36
      · have hP : va_P D vwCl [(q_0, .inr (11, [.ref q_1, .ref q_8, .ref q_9, .ref q_10, .ref q_11, .int x_3])), (q_1, .inr (3, [.ref q_2, .ref q_3, .ref q_12, .ref q_13, .ref q_14, .ref q_15])), (q_3, .inr (8, [.int x_7, .ref q_4, .ref q_5, .ref q_6, .ref q_7, .ref q_28])), (q_4, .inl (k 0, 120, .inl f_8)), (q_5, .inl (k 0, 120, .inl f_9)), (q_6, .inl (k 0, 120, .inl f_10)), (q_7, .inl (k 0, 120, .inl f_11)), (q_2, .inr (6, [.int x_4, .ref q_16, .ref q_17, .ref q_18, .ref q_19, .ref q_20, .int x_5, .ref q_21, .int x_6, .ref q_22, .ref q_23, .ref q_24, .ref q_25, .ref q_26, .ref q_27]))] H := hP
        have hD : va_D A [(q_0, .inr (11, [.ref q_1, .ref q_8, .ref q_9, .ref q_10, .ref q_11, .int x_3])), (q_1, .inr (3, [.ref q_2, .ref q_3, .ref q_12, .ref q_13, .ref q_14, .ref q_15])), (q_3, .inr (8, [.int x_7, .ref q_4, .ref q_5, .ref q_6, .ref q_7, .ref q_28])), (q_4, .inl (k 0, 120, .inl f_8)), (q_5, .inl (k 0, 120, .inl f_9)), (q_6, .inl (k 0, 120, .inl f_10)), (q_7, .inl (k 0, 120, .inl f_11)), (q_2, .inr (6, [.int x_4, .ref q_16, .ref q_17, .ref q_18, .ref q_19, .ref q_20, .int x_5, .ref q_21, .int x_6, .ref q_22, .ref q_23, .ref q_24, .ref q_25, .ref q_26, .ref q_27]))] := hD
        refine lv_if_eq (tgt := 37) hx hb dX11_isOn_32 (by decide) (fun _ => ?_) (fun c9 => absurd (by decide) c9)
        refine lv_aload_n hx hb dX11_isOn_37 rfl (lv_at hl 0 rfl) ?_
        refine va_get (D := D) (ci := 11) (v := .ref q_1) (C := RX11) (T := TX11) (N := 6) hx hb hts inX11 hown hK hP 0 rfl rfl 0 (by decide) (hts _ kF_X11_12) (fun _ h9 => h9) rfl dX11_isOn_38 ?_
        refine va_get (D := D) (ci := 3) (v := .ref q_3) (C := RX3) (T := TX3) (N := 6) hx hb hts inX3 hown hK hP 1 rfl rfl 1 (by decide) (hts _ kF_X11_86) (fun _ h9 => h9) rfl dX11_isOn_41 ?_
        refine lv_iload_n hx hb dX11_isOn_44 rfl (lv_at hl 1 rfl) ?_
        refine lv_iload_n hx hb dX11_isOn_45 rfl (lv_at hl 2 rfl) ?_
        refine lv_iload_n hx hb dX11_isOn_46 rfl (lv_at hl 3 rfl) ?_
        refine z_bi (wr := [(q_0, .inr (11, [.ref q_1, .ref q_8, .ref q_9, .ref q_10, .ref q_11, .int x_3])), (q_1, .inr (3, [.ref q_2, .ref q_3, .ref q_12, .ref q_13, .ref q_14, .ref q_15])), (q_2, .inr (6, [.int x_4, .ref q_16, .ref q_17, .ref q_18, .ref q_19, .ref q_20, .int x_5, .ref q_21, .int x_6, .ref q_22, .ref q_23, .ref q_24, .ref q_25, .ref q_26, .ref q_27]))]) (z_runV (C := RX8) (As := [.int x_0, .int x_1, .int x_2]) (rest := []) C0 (s_X8_isListed_1 l D k T q_3 q_4 q_5 q_6 q_7 q_28 x_0 x_1 x_2 x_7 f_8 f_9 f_10 f_11 (by revert h_x_7; first | omega | (simp only [vp_in_iff, Int32.lt_iff_toInt_lt, Int32.le_iff_toInt_le, Int64.lt_iff_toInt_lt, Int64.le_iff_toInt_le, Int32.toInt_toInt64, ← Int32.toInt_inj, ← Int64.toInt_inj, Int32.reduceToInt, Int64.reduceToInt] <;> omega)) h_f_8 h_f_9 h_f_10 h_f_11 _) okV_X8_isListed kM_X11_115 rfl (z_pV (q0 := 2) hT hS hA hK hN hP hD [2, 3, 4, 5, 6] rfl rfl rfl rfl rfl) rfl hl.1 rfl (Nat.le_of_ble_eq_true rfl) dX11_isOn_47 rfl) hP hD hS hA [2, 3, 4, 5, 6] [0, 1, 7] rfl rfl rfl rfl (fun r10 u10 H locs hw10 hP hD hS => ?_)
        obtain ⟨i10, a10, v10, w10, f10, g10, o10⟩ := u10
        dsimp only at hw10
        rcases hw10 with ⟨rfl, rfl⟩ | ⟨rfl, rfl⟩
        · have hP : va_P D vwCl [(q_0, .inr (11, [.ref q_1, .ref q_8, .ref q_9, .ref q_10, .ref q_11, .int x_3])), (q_1, .inr (3, [.ref q_2, .ref q_3, .ref q_12, .ref q_13, .ref q_14, .ref q_15])), (q_2, .inr (6, [.int x_4, .ref q_16, .ref q_17, .ref q_18, .ref q_19, .ref q_20, .int x_5, .ref q_21, .int x_6, .ref q_22, .ref q_23, .ref q_24, .ref q_25, .ref q_26, .ref q_27])), (q_3, .inr (8, [.int x_7, .ref q_4, .ref q_5, .ref q_6, .ref q_7, .ref q_28])), (q_4, .inl (k 0, 120, .inl f_8)), (q_5, .inl (k 0, 120, .inl f_9)), (q_6, .inl (k 0, 120, .inl f_10)), (q_7, .inl (k 0, 120, .inl f_11))] H := hP
          have hD : va_D A [(q_0, .inr (11, [.ref q_1, .ref q_8, .ref q_9, .ref q_10, .ref q_11, .int x_3])), (q_1, .inr (3, [.ref q_2, .ref q_3, .ref q_12, .ref q_13, .ref q_14, .ref q_15])), (q_2, .inr (6, [.int x_4, .ref q_16, .ref q_17, .ref q_18, .ref q_19, .ref q_20, .int x_5, .ref q_21, .int x_6, .ref q_22, .ref q_23, .ref q_24, .ref q_25, .ref q_26, .ref q_27])), (q_3, .inr (8, [.int x_7, .ref q_4, .ref q_5, .ref q_6, .ref q_7, .ref q_28])), (q_4, .inl (k 0, 120, .inl f_8)), (q_5, .inl (k 0, 120, .inl f_9)), (q_6, .inl (k 0, 120, .inl f_10)), (q_7, .inl (k 0, 120, .inl f_11))] := hD
          refine lv_if_eq (tgt := 57) hx hb dX11_isOn_50 (by decide) (fun _ => ?_) (fun c11 => absurd (by decide) c11)
          refine lv_iconst (v := 0) hx hb dX11_isOn_57 (by decide) ?_
          exact z_iret C0 hr hlk rfl hK hP hD hS (0, fun _ => 0, fun _ => 0, fun _ => 0, fun _ => (fun _ => 0), fun _ => (fun _ => 0), fun _ => (fun _ => none)) ⟨rfl, (by decide)⟩ [0, 1, 2, 3, 4, 5, 6, 7] rfl rfl rfl dX11_isOn_58
        · have hP : va_P D vwCl [(q_0, .inr (11, [.ref q_1, .ref q_8, .ref q_9, .ref q_10, .ref q_11, .int x_3])), (q_1, .inr (3, [.ref q_2, .ref q_3, .ref q_12, .ref q_13, .ref q_14, .ref q_15])), (q_2, .inr (6, [.int x_4, .ref q_16, .ref q_17, .ref q_18, .ref q_19, .ref q_20, .int x_5, .ref q_21, .int x_6, .ref q_22, .ref q_23, .ref q_24, .ref q_25, .ref q_26, .ref q_27])), (q_3, .inr (8, [.int x_7, .ref q_4, .ref q_5, .ref q_6, .ref q_7, .ref q_28])), (q_4, .inl (k 0, 120, .inl f_8)), (q_5, .inl (k 0, 120, .inl f_9)), (q_6, .inl (k 0, 120, .inl f_10)), (q_7, .inl (k 0, 120, .inl f_11))] H := hP
          have hD : va_D A [(q_0, .inr (11, [.ref q_1, .ref q_8, .ref q_9, .ref q_10, .ref q_11, .int x_3])), (q_1, .inr (3, [.ref q_2, .ref q_3, .ref q_12, .ref q_13, .ref q_14, .ref q_15])), (q_2, .inr (6, [.int x_4, .ref q_16, .ref q_17, .ref q_18, .ref q_19, .ref q_20, .int x_5, .ref q_21, .int x_6, .ref q_22, .ref q_23, .ref q_24, .ref q_25, .ref q_26, .ref q_27])), (q_3, .inr (8, [.int x_7, .ref q_4, .ref q_5, .ref q_6, .ref q_7, .ref q_28])), (q_4, .inl (k 0, 120, .inl f_8)), (q_5, .inl (k 0, 120, .inl f_9)), (q_6, .inl (k 0, 120, .inl f_10)), (q_7, .inl (k 0, 120, .inl f_11))] := hD
          refine lv_if_eq (tgt := 57) hx hb dX11_isOn_50 (by decide) (fun c12 => absurd c12 (by decide)) (fun _ => ?_)
          refine lv_iconst (v := 1) hx hb dX11_isOn_53 (by decide) ?_
          refine lv_goto (tgt := 58) hx hb dX11_isOn_54 (by decide) ?_
          exact z_iret C0 hr hlk rfl hK hP hD hS (0, fun _ => 0, fun _ => 0, fun _ => 0, fun _ => (fun _ => 0), fun _ => (fun _ => 0), fun _ => (fun _ => none)) ⟨rfl, (by decide)⟩ [0, 1, 2, 3, 4, 5, 6, 7] rfl rfl rfl dX11_isOn_58

set_option maxHeartbeats 4000000 in
set_option maxRecDepth 100000 in
theorem s_X11_isNoHalf_1 (l : Launch) (D : va_G) (k : Nat → ClassId) (T : zTy) (x_0 : Int32) : zMi l yX11_isNoHalf cX11_isNoHalf 1 (some .boolean) ({ frames := 0, cells := 0, slots := 0, locals := 0 }) D k T [.int x_0] [] (fun r u => (u.1 = 0 ∧ r = 1 ∧ ((x_0 < 0) ∨ (¬ x_0 < 0 ∧ ¬ x_0 < 800))) ∨ (u.1 = 1 ∧ r = 0 ∧ ((¬ x_0 < 0 ∧ x_0 < 800)))) (fun u => []) := by
  refine zMi_of (own := RX11) (by decide +kernel) rfl (Nat.le_of_ble_eq_true rfl) ?_
  intro p e s m args below meth c A ls C0 hr hlk hin hP hD hS hA hK hN hT hl
  have hx := C0.1
  have hb := C0.2.1
  have hml := C0.2.2.1
  have hown := C0.2.2.2.1
  have hts := C0.2.2.2.2
  have hl : lv_has ls 1 [(0, .int x_0)] := hl
  have hP : va_P D vwCl [] s.heap := hP
  refine lv_iload_n hx hb dX11_isNoHalf_0 rfl (lv_at hl 0 rfl) ?_
  refine lv_if_lt (tgt := 11) hx hb dX11_isNoHalf_1 (by decide) (fun c1 => ?_) (fun c1 => ?_)
  · refine lv_iconst (v := 1) hx hb dX11_isNoHalf_11 (by decide) ?_
    refine lv_goto (tgt := 16) hx hb dX11_isNoHalf_12 (by decide) ?_
    exact z_iret C0 hr hlk rfl hK hP hD hS (0, fun _ => 0, fun _ => 0, fun _ => 0, fun _ => (fun _ => 0), fun _ => (fun _ => 0), fun _ => (fun _ => none)) (Or.inl ⟨rfl, rfl, (Or.inl c1)⟩) [] rfl rfl rfl dX11_isNoHalf_16
  · refine lv_iload_n hx hb dX11_isNoHalf_4 rfl (lv_at hl 0 rfl) ?_
    refine lv_sipush (v := 800) hx hb dX11_isNoHalf_5 (by decide) ?_
    refine lv_icmp_lt (tgt := 15) hx hb dX11_isNoHalf_8 (by decide) (fun c2 => ?_) (fun c2 => ?_)
    · refine lv_iconst (v := 0) hx hb dX11_isNoHalf_15 (by decide) ?_
      exact z_iret C0 hr hlk rfl hK hP hD hS (1, fun _ => 0, fun _ => 0, fun _ => 0, fun _ => (fun _ => 0), fun _ => (fun _ => 0), fun _ => (fun _ => none)) (Or.inr (⟨rfl, rfl, ⟨c1, c2⟩⟩)) [] rfl rfl rfl dX11_isNoHalf_16
    · refine lv_iconst (v := 1) hx hb dX11_isNoHalf_11 (by decide) ?_
      refine lv_goto (tgt := 16) hx hb dX11_isNoHalf_12 (by decide) ?_
      exact z_iret C0 hr hlk rfl hK hP hD hS (0, fun _ => 0, fun _ => 0, fun _ => 0, fun _ => (fun _ => 0), fun _ => (fun _ => 0), fun _ => (fun _ => none)) (Or.inl ⟨rfl, rfl, (Or.inr (⟨c1, c2⟩))⟩) [] rfl rfl rfl dX11_isNoHalf_16

set_option maxHeartbeats 4000000 in
set_option maxRecDepth 100000 in
theorem s_X6_hasFailed_1 (l : Launch) (D : va_G) (k : Nat → ClassId) (T : zTy) (q_0 : Nat) (q_1 : Nat) (q_2 : Nat) (q_3 : Nat) (q_4 : Nat) (q_5 : Nat) (q_6 : Nat) (q_7 : Nat) (q_8 : Nat) (q_9 : Nat) (q_10 : Nat) (q_11 : Nat) (q_12 : Nat) (x_0 : Int32) (x_1 : Int32) (x_2 : Int32) (x_3 : Int32) (x_4 : Int32) (f_5 : Nat → Int32) (f_6 : Nat → Int32) (h_x_2 : 0 ≤ Int32.toInt x_2 ∧ Int32.toInt x_2 ≤ 40) (h_x_3 : 0 ≤ Int32.toInt x_3 ∧ Int32.toInt x_3 ≤ 5) (h_x_4 : 0 ≤ Int32.toInt x_4 ∧ Int32.toInt x_4 ≤ 60) (h_f_5 : zR f_5 0 7) (h_f_6 : zR f_6 0 799) : zMi l yX6_hasFailed cX6_hasFailed 4 (some .boolean) ({ frames := 0, cells := 0, slots := 0, locals := 0 }) D k T [.ref q_0, .int x_0, .int x_1] [(q_0, .inr (6, [.int x_2, .ref q_3, .ref q_4, .ref q_5, .ref q_6, .ref q_7, .int x_3, .ref q_8, .int x_4, .ref q_1, .ref q_2, .ref q_9, .ref q_10, .ref q_11, .ref q_12])), (q_1, .inl (k 0, 60, .inl f_5)), (q_2, .inl (k 0, 60, .inl f_6))] (fun r u => (u.1 = 0 ∧ r = 0) ∨ (u.1 = 1 ∧ r = 1)) (fun u => [(q_0, .inr (6, [.int x_2, .ref q_3, .ref q_4, .ref q_5, .ref q_6, .ref q_7, .int x_3, .ref q_8, .int x_4, .ref q_1, .ref q_2, .ref q_9, .ref q_10, .ref q_11, .ref q_12])), (q_1, .inl (k 0, 60, .inl f_5)), (q_2, .inl (k 0, 60, .inl f_6))]) := by
  refine zMi_of (own := RX6) (by decide +kernel) rfl (Nat.le_of_ble_eq_true rfl) ?_
  intro p e s m args below meth c A ls C0 hr hlk hin hP hD hS hA hK hN hT hl
  have hx := C0.1
  have hb := C0.2.1
  have hml := C0.2.2.1
  have hown := C0.2.2.2.1
  have hts := C0.2.2.2.2
  have hl : lv_has ls 4 [(0, .ref q_0), (1, .int x_0), (2, .int x_1)] := hl
  have hP : va_P D vwCl [(q_0, .inr (6, [.int x_2, .ref q_3, .ref q_4, .ref q_5, .ref q_6, .ref q_7, .int x_3, .ref q_8, .int x_4, .ref q_1, .ref q_2, .ref q_9, .ref q_10, .ref q_11, .ref q_12])), (q_1, .inl (k 0, 60, .inl f_5)), (q_2, .inl (k 0, 60, .inl f_6))] s.heap := hP
  refine lv_iconst (v := 0) hx hb dX6_hasFailed_0 (by decide) ?_
  refine lv_istore_n (lv' := [(3, .int 0), (0, .ref q_0), (1, .int x_0), (2, .int x_1)]) hx hb dX6_hasFailed_1 rfl hl (by decide) rfl (fun ls hl => ?_)
  have loop9 : ∀ (N10 : Nat) (y8 : Int32) (H : Heap) (locs : List Loc) (ls : Array Slot), Int.toNat (60 - Int32.toInt y8) < N10 → 0 ≤ Int32.toInt y8 ∧ Int32.toInt y8 ≤ 60 → va_P D vwCl [(q_0, .inr (6, [.int x_2, .ref q_3, .ref q_4, .ref q_5, .ref q_6, .ref q_7, .int x_3, .ref q_8, .int x_4, .ref q_1, .ref q_2, .ref q_9, .ref q_10, .ref q_11, .ref q_12])), (q_1, .inl (k 0, 60, .inl f_5)), (q_2, .inl (k 0, 60, .inl f_6))] H → va_D A [(q_0, .inr (6, [.int x_2, .ref q_3, .ref q_4, .ref q_5, .ref q_6, .ref q_7, .int x_3, .ref q_8, .int x_4, .ref q_1, .ref q_2, .ref q_9, .ref q_10, .ref q_11, .ref q_12])), (q_1, .inl (k 0, 60, .inl f_5)), (q_2, .inl (k 0, 60, .inl f_6))] → va_S A s.heap H locs → lv_has ls 4 [(3, .int y8), (0, .ref q_0), (1, .int x_0), (2, .int x_1)] → W p l e { frames := 0, cells := 0, slots := 0, locals := 0 } s m args below meth c H locs 0 0 (MQ below (va_Qi (fun (r : Int32) (u : zS) => (u.1 = 0 ∧ r = 0) ∨ (u.1 = 1 ∧ r = 1)) (zB D k A (fun (u : zS) => [(q_0, .inr (6, [.int x_2, .ref q_3, .ref q_4, .ref q_5, .ref q_6, .ref q_7, .int x_3, .ref q_8, .int x_4, .ref q_1, .ref q_2, .ref q_9, .ref q_10, .ref q_11, .ref q_12])), (q_1, .inl (k 0, 60, .inl f_5)), (q_2, .inl (k 0, 60, .inl f_6))])) A) args s 0 0 A) (F0 m 2 ls []) := by
    intro N10
    induction N10 with
    | zero => intro y8 H locs ls hm; exact absurd hm (Nat.not_lt_zero _)
    | succ N10 ihN10 =>
      intro y8 H locs ls hN10 hy8 hP hD hS hl
      refine lv_iload_n hx hb dX6_hasFailed_2 rfl (lv_at hl 0 rfl) ?_
      refine lv_aload_n hx hb dX6_hasFailed_3 rfl (lv_at hl 1 rfl) ?_
      refine va_get (D := D) (ci := 6) (v := .int x_4) (C := RX6) (T := TX6) (N := 15) hx hb hts inX6 hown hK hP 0 rfl rfl 8 (by decide) (hts _ kF_X6_55) (fun _ h9 => h9) rfl dX6_hasFailed_4 ?_
      refine lv_icmp_ge (tgt := 38) hx hb dX6_hasFailed_7 (by decide) (fun c11 => ?_) (fun c11 => ?_)
      · refine lv_iconst (v := 0) hx hb dX6_hasFailed_38 (by decide) ?_
        exact z_iret C0 hr hlk rfl hK hP hD hS (0, fun _ => 0, fun _ => 0, fun _ => 0, fun _ => (fun _ => 0), fun _ => (fun _ => 0), fun _ => (fun _ => none)) (Or.inl ⟨rfl, rfl⟩) [0, 1, 2] rfl rfl rfl dX6_hasFailed_39
      · refine lv_aload_n hx hb dX6_hasFailed_10 rfl (lv_at hl 1 rfl) ?_
        refine va_get (D := D) (ci := 6) (v := .ref q_1) (C := RX6) (T := TX6) (N := 15) hx hb hts inX6 hown hK hP 0 rfl rfl 9 (by decide) (hts _ kF_X6_30) (fun _ h9 => h9) rfl dX6_hasFailed_11 ?_
        refine lv_iload_n hx hb dX6_hasFailed_14 rfl (lv_at hl 0 rfl) ?_
        refine va_iald hx hb hK hP 1 0 rfl rfl (by revert hN10 hy8 c11 h_x_4; first | omega | (simp only [vp_in_iff, Int32.lt_iff_toInt_lt, Int32.le_iff_toInt_le, Int64.lt_iff_toInt_lt, Int64.le_iff_toInt_le, Int32.toInt_toInt64, ← Int32.toInt_inj, ← Int64.toInt_inj, Int32.reduceToInt, Int64.reduceToInt] <;> omega)) dX6_hasFailed_15 ?_
        refine lv_topi (fun y12 ey12 => ?_)
        have hy12 : 0 ≤ Int32.toInt y12 ∧ Int32.toInt y12 ≤ 7 := by rw [ey12]; exact h_f_5 _
        refine lv_iload_n hx hb dX6_hasFailed_16 rfl (lv_at hl 2 rfl) ?_
        refine lv_icmp_ne (tgt := 32) hx hb dX6_hasFailed_17 (by decide) (fun c13 => ?_) (fun c13 => ?_)
        · obtain ⟨y14, ey14⟩ : ∃ q : Int32, q = y8 + 1 := ⟨_, rfl⟩
          have hy14 : Int32.toInt y14 = Int32.toInt y8 + 1 := by rw [ey14]; exact zi_addc rfl (by decide) (by revert hN10 hy8 c11 h_x_4; first | omega | (simp only [vp_in_iff, Int32.lt_iff_toInt_lt, Int32.le_iff_toInt_le, Int64.lt_iff_toInt_lt, Int64.le_iff_toInt_le, Int32.toInt_toInt64, ← Int32.toInt_inj, ← Int64.toInt_inj, Int32.reduceToInt, Int64.reduceToInt] <;> omega))
          refine lv_iinc (v := y14) (lv' := [(3, .int y14), (0, .ref q_0), (1, .int x_0), (2, .int x_1)]) hx hb dX6_hasFailed_32 hl (k := 0) rfl (by rw [ey14]; exact zz_inc (by decide)) (by decide) rfl (fun ls hl => ?_)
          refine lv_goto (tgt := 2) hx hb dX6_hasFailed_35 (by decide) ?_
          exact ihN10 y14 _ _ ls (by revert hN10 hy8 c11 hy14 h_x_4; first | omega | (simp only [vp_in_iff, Int32.lt_iff_toInt_lt, Int32.le_iff_toInt_le, Int64.lt_iff_toInt_lt, Int64.le_iff_toInt_le, Int32.toInt_toInt64, ← Int32.toInt_inj, ← Int64.toInt_inj, Int32.reduceToInt, Int64.reduceToInt] <;> omega)) (by revert hN10 hy8 c11 hy14 h_x_4; first | omega | (simp only [vp_in_iff, Int32.lt_iff_toInt_lt, Int32.le_iff_toInt_le, Int64.lt_iff_toInt_lt, Int64.le_iff_toInt_le, Int32.toInt_toInt64, ← Int32.toInt_inj, ← Int64.toInt_inj, Int32.reduceToInt, Int64.reduceToInt] <;> omega)) hP hD hS (lv_sub hl [0, 1, 2, 3] rfl)
        · refine lv_aload_n hx hb dX6_hasFailed_20 rfl (lv_at hl 1 rfl) ?_
          refine va_get (D := D) (ci := 6) (v := .ref q_2) (C := RX6) (T := TX6) (N := 15) hx hb hts inX6 hown hK hP 0 rfl rfl 10 (by decide) (hts _ kF_X6_33) (fun _ h9 => h9) rfl dX6_hasFailed_21 ?_
          refine lv_iload_n hx hb dX6_hasFailed_24 rfl (lv_at hl 0 rfl) ?_
          refine va_iald hx hb hK hP 2 0 rfl rfl (by revert hN10 hy8 c11 h_x_4; first | omega | (simp only [vp_in_iff, Int32.lt_iff_toInt_lt, Int32.le_iff_toInt_le, Int64.lt_iff_toInt_lt, Int64.le_iff_toInt_le, Int32.toInt_toInt64, ← Int32.toInt_inj, ← Int64.toInt_inj, Int32.reduceToInt, Int64.reduceToInt] <;> omega)) dX6_hasFailed_25 ?_
          refine lv_topi (fun y15 ey15 => ?_)
          have hy15 : 0 ≤ Int32.toInt y15 ∧ Int32.toInt y15 ≤ 799 := by rw [ey15]; exact h_f_6 _
          refine lv_iload_n hx hb dX6_hasFailed_26 rfl (lv_at hl 3 rfl) ?_
          refine lv_icmp_ne (tgt := 32) hx hb dX6_hasFailed_27 (by decide) (fun c16 => ?_) (fun c16 => ?_)
          · obtain ⟨y17, ey17⟩ : ∃ q : Int32, q = y8 + 1 := ⟨_, rfl⟩
            have hy17 : Int32.toInt y17 = Int32.toInt y8 + 1 := by rw [ey17]; exact zi_addc rfl (by decide) (by revert hN10 hy8 c11 h_x_4; first | omega | (simp only [vp_in_iff, Int32.lt_iff_toInt_lt, Int32.le_iff_toInt_le, Int64.lt_iff_toInt_lt, Int64.le_iff_toInt_le, Int32.toInt_toInt64, ← Int32.toInt_inj, ← Int64.toInt_inj, Int32.reduceToInt, Int64.reduceToInt] <;> omega))
            refine lv_iinc (v := y17) (lv' := [(3, .int y17), (0, .ref q_0), (1, .int x_0), (2, .int x_1)]) hx hb dX6_hasFailed_32 hl (k := 0) rfl (by rw [ey17]; exact zz_inc (by decide)) (by decide) rfl (fun ls hl => ?_)
            refine lv_goto (tgt := 2) hx hb dX6_hasFailed_35 (by decide) ?_
            exact ihN10 y17 _ _ ls (by revert hN10 hy8 c11 hy17 h_x_4; first | omega | (simp only [vp_in_iff, Int32.lt_iff_toInt_lt, Int32.le_iff_toInt_le, Int64.lt_iff_toInt_lt, Int64.le_iff_toInt_le, Int32.toInt_toInt64, ← Int32.toInt_inj, ← Int64.toInt_inj, Int32.reduceToInt, Int64.reduceToInt] <;> omega)) (by revert hN10 hy8 c11 hy17 h_x_4; first | omega | (simp only [vp_in_iff, Int32.lt_iff_toInt_lt, Int32.le_iff_toInt_le, Int64.lt_iff_toInt_lt, Int64.le_iff_toInt_le, Int32.toInt_toInt64, ← Int32.toInt_inj, ← Int64.toInt_inj, Int32.reduceToInt, Int64.reduceToInt] <;> omega)) hP hD hS (lv_sub hl [0, 1, 2, 3] rfl)
          · refine lv_iconst (v := 1) hx hb dX6_hasFailed_30 (by decide) ?_
            exact z_iret C0 hr hlk rfl hK hP hD hS (1, fun _ => 0, fun _ => 0, fun _ => 0, fun _ => (fun _ => 0), fun _ => (fun _ => 0), fun _ => (fun _ => none)) (Or.inr (⟨rfl, rfl⟩)) [0, 1, 2] rfl rfl rfl dX6_hasFailed_31
  exact loop9 _ 0 _ _ _ (Nat.lt_succ_self _) (by first | omega | (simp only [vp_in_iff, Int32.lt_iff_toInt_lt, Int32.le_iff_toInt_le, Int64.lt_iff_toInt_lt, Int64.le_iff_toInt_le, Int32.toInt_toInt64, ← Int32.toInt_inj, ← Int64.toInt_inj, Int32.reduceToInt, Int64.reduceToInt] <;> omega)) hP hD hS (lv_sub hl [0, 1, 2, 3] rfl)

set_option maxHeartbeats 4000000 in
set_option maxRecDepth 100000 in
theorem s_X6_addBus_1 (l : Launch) (D : va_G) (k : Nat → ClassId) (T : zTy) (q_0 : Nat) (q_1 : Nat) (q_2 : Nat) (q_3 : Nat) (q_4 : Nat) (q_5 : Nat) (q_6 : Nat) (q_7 : Nat) (q_8 : Nat) (q_9 : Nat) (q_10 : Nat) (q_11 : Nat) (q_12 : Nat) (x_0 : Int32) (x_1 : Int32) (x_2 : Int32) (x_3 : Int32) (x_4 : Int32) (f_5 : Nat → Int32) (f_6 : Nat → Int32) (h_x_0 : 0 ≤ Int32.toInt x_0 ∧ Int32.toInt x_0 ≤ 7) (h_x_1 : 0 ≤ Int32.toInt x_1 ∧ Int32.toInt x_1 ≤ 799) (h_x_2 : 0 ≤ Int32.toInt x_2 ∧ Int32.toInt x_2 ≤ 40) (h_x_3 : 0 ≤ Int32.toInt x_3 ∧ Int32.toInt x_3 ≤ 5) (h_x_4 : 0 ≤ Int32.toInt x_4 ∧ Int32.toInt x_4 ≤ 59) (h_f_5 : zR f_5 0 7) (h_f_6 : zR f_6 0 799) : zMi l yX6_addBus cX6_addBus 3 (some .int) ({ frames := 0, cells := 0, slots := 0, locals := 0 }) D k T [.ref q_0, .int x_0, .int x_1] [(q_0, .inr (6, [.int x_2, .ref q_3, .ref q_4, .ref q_5, .ref q_6, .ref q_7, .int x_3, .ref q_8, .int x_4, .ref q_1, .ref q_2, .ref q_9, .ref q_10, .ref q_11, .ref q_12])), (q_1, .inl (k 0, 60, .inl f_5)), (q_2, .inl (k 0, 60, .inl f_6))] (fun r u => u.1 = 0 ∧ (1 ≤ Int32.toInt r ∧ Int32.toInt r ≤ 60) ∧ (0 ≤ Int32.toInt (u.2.2.1 0) ∧ Int32.toInt (u.2.2.1 0) ≤ 60) ∧ zR (u.2.2.2.2.1 0) 0 7 ∧ zR (u.2.2.2.2.1 1) 0 799) (fun u => [(q_0, .inr (6, [.int x_2, .ref q_3, .ref q_4, .ref q_5, .ref q_6, .ref q_7, .int x_3, .ref q_8, .int (u.2.2.1 0), .ref q_1, .ref q_2, .ref q_9, .ref q_10, .ref q_11, .ref q_12])), (q_1, .inl (k 0, 60, .inl (u.2.2.2.2.1 0))), (q_2, .inl (k 0, 60, .inl (u.2.2.2.2.1 1)))]) := by
  refine zMi_of (own := RX6) (by decide +kernel) rfl (Nat.le_of_ble_eq_true rfl) ?_
  intro p e s m args below meth c A ls C0 hr hlk hin hP hD hS hA hK hN hT hl
  have hx := C0.1
  have hb := C0.2.1
  have hml := C0.2.2.1
  have hown := C0.2.2.2.1
  have hts := C0.2.2.2.2
  have hl : lv_has ls 3 [(0, .ref q_0), (1, .int x_0), (2, .int x_1)] := hl
  have hP : va_P D vwCl [(q_0, .inr (6, [.int x_2, .ref q_3, .ref q_4, .ref q_5, .ref q_6, .ref q_7, .int x_3, .ref q_8, .int x_4, .ref q_1, .ref q_2, .ref q_9, .ref q_10, .ref q_11, .ref q_12])), (q_1, .inl (k 0, 60, .inl f_5)), (q_2, .inl (k 0, 60, .inl f_6))] s.heap := hP
  refine lv_aload_n hx hb dX6_addBus_0 rfl (lv_at hl 0 rfl) ?_
  refine va_get (D := D) (ci := 6) (v := .ref q_1) (C := RX6) (T := TX6) (N := 15) hx hb hts inX6 hown hK hP 0 rfl rfl 9 (by decide) (hts _ kF_X6_30) (fun _ h9 => h9) rfl dX6_addBus_1 ?_
  refine lv_aload_n hx hb dX6_addBus_4 rfl (lv_at hl 0 rfl) ?_
  refine va_get (D := D) (ci := 6) (v := .int x_4) (C := RX6) (T := TX6) (N := 15) hx hb hts inX6 hown hK hP 0 rfl rfl 8 (by decide) (hts _ kF_X6_55) (fun _ h9 => h9) rfl dX6_addBus_5 ?_
  refine lv_iload_n hx hb dX6_addBus_8 rfl (lv_at hl 1 rfl) ?_
  refine va_iast hx hb hK hP hD hS 1 0 rfl rfl (by revert h_x_4; first | omega | (simp only [vp_in_iff, Int32.lt_iff_toInt_lt, Int32.le_iff_toInt_le, Int64.lt_iff_toInt_lt, Int64.le_iff_toInt_le, Int32.toInt_toInt64, ← Int32.toInt_inj, ← Int64.toInt_inj, Int32.reduceToInt, Int64.reduceToInt] <;> omega)) dX6_addBus_9 (fun H locs hP hD hS => ?_)
  have hF1 := zR_upd (j := Int32.toNatClampNeg x_4) (v := x_0) h_f_5 (by revert h_x_0; first | omega | (simp only [vp_in_iff, Int32.lt_iff_toInt_lt, Int32.le_iff_toInt_le, Int64.lt_iff_toInt_lt, Int64.le_iff_toInt_le, Int32.toInt_toInt64, ← Int32.toInt_inj, ← Int64.toInt_inj, Int32.reduceToInt, Int64.reduceToInt] <;> omega))
  obtain ⟨F1, eF1⟩ : ∃ q, q = upd f_5 (Int32.toNatClampNeg x_4) x_0 := ⟨_, rfl⟩
  rw [← eF1] at hF1
  have hP : va_P D vwCl [(q_0, .inr (6, [.int x_2, .ref q_3, .ref q_4, .ref q_5, .ref q_6, .ref q_7, .int x_3, .ref q_8, .int x_4, .ref q_1, .ref q_2, .ref q_9, .ref q_10, .ref q_11, .ref q_12])), (q_1, .inl (k 0, 60, .inl F1)), (q_2, .inl (k 0, 60, .inl f_6))] H := by rw [eF1]; exact hP
  have hD : va_D A [(q_0, .inr (6, [.int x_2, .ref q_3, .ref q_4, .ref q_5, .ref q_6, .ref q_7, .int x_3, .ref q_8, .int x_4, .ref q_1, .ref q_2, .ref q_9, .ref q_10, .ref q_11, .ref q_12])), (q_1, .inl (k 0, 60, .inl F1)), (q_2, .inl (k 0, 60, .inl f_6))] := by rw [eF1]; exact hD
  refine lv_aload_n hx hb dX6_addBus_10 rfl (lv_at hl 0 rfl) ?_
  refine va_get (D := D) (ci := 6) (v := .ref q_2) (C := RX6) (T := TX6) (N := 15) hx hb hts inX6 hown hK hP 0 rfl rfl 10 (by decide) (hts _ kF_X6_33) (fun _ h9 => h9) rfl dX6_addBus_11 ?_
  refine lv_aload_n hx hb dX6_addBus_14 rfl (lv_at hl 0 rfl) ?_
  refine va_get (D := D) (ci := 6) (v := .int x_4) (C := RX6) (T := TX6) (N := 15) hx hb hts inX6 hown hK hP 0 rfl rfl 8 (by decide) (hts _ kF_X6_55) (fun _ h9 => h9) rfl dX6_addBus_15 ?_
  refine lv_iload_n hx hb dX6_addBus_18 rfl (lv_at hl 2 rfl) ?_
  refine va_iast hx hb hK hP hD hS 2 0 rfl rfl (by revert h_x_4; first | omega | (simp only [vp_in_iff, Int32.lt_iff_toInt_lt, Int32.le_iff_toInt_le, Int64.lt_iff_toInt_lt, Int64.le_iff_toInt_le, Int32.toInt_toInt64, ← Int32.toInt_inj, ← Int64.toInt_inj, Int32.reduceToInt, Int64.reduceToInt] <;> omega)) dX6_addBus_19 (fun H locs hP hD hS => ?_)
  have hF2 := zR_upd (j := Int32.toNatClampNeg x_4) (v := x_1) h_f_6 (by revert h_x_1; first | omega | (simp only [vp_in_iff, Int32.lt_iff_toInt_lt, Int32.le_iff_toInt_le, Int64.lt_iff_toInt_lt, Int64.le_iff_toInt_le, Int32.toInt_toInt64, ← Int32.toInt_inj, ← Int64.toInt_inj, Int32.reduceToInt, Int64.reduceToInt] <;> omega))
  obtain ⟨F2, eF2⟩ : ∃ q, q = upd f_6 (Int32.toNatClampNeg x_4) x_1 := ⟨_, rfl⟩
  rw [← eF2] at hF2
  have hP : va_P D vwCl [(q_0, .inr (6, [.int x_2, .ref q_3, .ref q_4, .ref q_5, .ref q_6, .ref q_7, .int x_3, .ref q_8, .int x_4, .ref q_1, .ref q_2, .ref q_9, .ref q_10, .ref q_11, .ref q_12])), (q_1, .inl (k 0, 60, .inl F1)), (q_2, .inl (k 0, 60, .inl F2))] H := by rw [eF2]; exact hP
  have hD : va_D A [(q_0, .inr (6, [.int x_2, .ref q_3, .ref q_4, .ref q_5, .ref q_6, .ref q_7, .int x_3, .ref q_8, .int x_4, .ref q_1, .ref q_2, .ref q_9, .ref q_10, .ref q_11, .ref q_12])), (q_1, .inl (k 0, 60, .inl F1)), (q_2, .inl (k 0, 60, .inl F2))] := by rw [eF2]; exact hD
  refine lv_aload_n hx hb dX6_addBus_20 rfl (lv_at hl 0 rfl) ?_
  refine lv_dup hx hb dX6_addBus_21 rfl ?_
  refine va_get (D := D) (ci := 6) (v := .int x_4) (C := RX6) (T := TX6) (N := 15) hx hb hts inX6 hown hK hP 0 rfl rfl 8 (by decide) (hts _ kF_X6_55) (fun _ h9 => h9) rfl dX6_addBus_22 ?_
  refine lv_iconst (v := 1) hx hb dX6_addBus_25 (by decide) ?_
  refine lv_iadd hx hb dX6_addBus_26 ?_
  refine lv_topi (fun y3 ey3 => ?_)
  have hy3 : Int32.toInt y3 = Int32.toInt x_4 + 1 := by rw [ey3]; exact zi_addc rfl (by decide) (by revert h_x_4; first | omega | (simp only [vp_in_iff, Int32.lt_iff_toInt_lt, Int32.le_iff_toInt_le, Int64.lt_iff_toInt_lt, Int64.le_iff_toInt_le, Int32.toInt_toInt64, ← Int32.toInt_inj, ← Int64.toInt_inj, Int32.reduceToInt, Int64.reduceToInt] <;> omega))
  refine va_put (D := D) (ci := 6) (v := .int y3) (ty := .int) (C := RX6) (T := TX6) (N := 15) hx hb hts inX6 tyX6 tyX6_ok nmX6 hown hK hP hD hS 0 rfl rfl 8 (by decide) (hts _ kF_X6_55) (fun _ h9 => h9) rfl (by decide +kernel) rfl rfl (Nat.le_of_ble_eq_true rfl) dX6_addBus_27 (fun H locs hP hD hS => ?_)
  have hP : va_P D vwCl [(q_0, .inr (6, [.int x_2, .ref q_3, .ref q_4, .ref q_5, .ref q_6, .ref q_7, .int x_3, .ref q_8, .int y3, .ref q_1, .ref q_2, .ref q_9, .ref q_10, .ref q_11, .ref q_12])), (q_1, .inl (k 0, 60, .inl F1)), (q_2, .inl (k 0, 60, .inl F2))] H := hP
  have hD : va_D A [(q_0, .inr (6, [.int x_2, .ref q_3, .ref q_4, .ref q_5, .ref q_6, .ref q_7, .int x_3, .ref q_8, .int y3, .ref q_1, .ref q_2, .ref q_9, .ref q_10, .ref q_11, .ref q_12])), (q_1, .inl (k 0, 60, .inl F1)), (q_2, .inl (k 0, 60, .inl F2))] := hD
  refine lv_aload_n hx hb dX6_addBus_30 rfl (lv_at hl 0 rfl) ?_
  refine va_get (D := D) (ci := 6) (v := .int y3) (C := RX6) (T := TX6) (N := 15) hx hb hts inX6 hown hK hP 0 rfl rfl 8 (by decide) (hts _ kF_X6_55) (fun _ h9 => h9) rfl dX6_addBus_31 ?_
  exact z_iret C0 hr hlk rfl hK hP hD hS (0, fun _ => 0, fun i => [y3].getD i 0, fun _ => 0, fun i => [F1, F2].getD i (fun _ => 0), fun _ => (fun _ => 0), fun _ => (fun _ => none)) ⟨rfl, (by revert h_x_4 hy3; first | omega | (simp only [vp_in_iff, Int32.lt_iff_toInt_lt, Int32.le_iff_toInt_le, Int64.lt_iff_toInt_lt, Int64.le_iff_toInt_le, Int32.toInt_toInt64, ← Int32.toInt_inj, ← Int64.toInt_inj, Int32.reduceToInt, Int64.reduceToInt] <;> omega)), (show 0 ≤ Int32.toInt (y3 : Int32) ∧ Int32.toInt (y3 : Int32) ≤ 60 from (by revert h_x_4 hy3; first | omega | (simp only [vp_in_iff, Int32.lt_iff_toInt_lt, Int32.le_iff_toInt_le, Int64.lt_iff_toInt_lt, Int64.le_iff_toInt_le, Int32.toInt_toInt64, ← Int32.toInt_inj, ← Int64.toInt_inj, Int32.reduceToInt, Int64.reduceToInt] <;> omega))), hF1, hF2⟩ [0, 1, 2] rfl rfl rfl dX6_addBus_34

set_option maxHeartbeats 4000000 in
set_option maxRecDepth 100000 in
theorem s_X11_failed_1 (l : Launch) (D : va_G) (k : Nat → ClassId) (T : zTy) (q_0 : Nat) (q_1 : Nat) (q_2 : Nat) (q_3 : Nat) (q_4 : Nat) (q_5 : Nat) (q_6 : Nat) (q_7 : Nat) (q_8 : Nat) (q_9 : Nat) (q_10 : Nat) (q_11 : Nat) (q_12 : Nat) (q_13 : Nat) (q_14 : Nat) (q_15 : Nat) (q_16 : Nat) (q_17 : Nat) (q_18 : Nat) (q_19 : Nat) (q_20 : Nat) (q_21 : Nat) (q_22 : Nat) (q_23 : Nat) (x_0 : Int32) (x_1 : Int32) (x_2 : Int32) (x_3 : Int32) (x_4 : Int32) (x_5 : Int32) (f_6 : Nat → Int32) (f_7 : Nat → Int32) (h_x_3 : 0 ≤ Int32.toInt x_3 ∧ Int32.toInt x_3 ≤ 40) (h_x_4 : 0 ≤ Int32.toInt x_4 ∧ Int32.toInt x_4 ≤ 5) (h_x_5 : 0 ≤ Int32.toInt x_5 ∧ Int32.toInt x_5 ≤ 60) (h_f_6 : zR f_6 0 7) (h_f_7 : zR f_7 0 799) : zMi l yX11_failed cX11_failed 4 (some .int) ({ frames := 1, cells := 0, slots := 0, locals := 23 }) D k T [.ref q_0, .int x_0, .int x_1] [(q_0, .inr (11, [.ref q_1, .ref q_5, .ref q_6, .ref q_7, .ref q_8, .int x_2])), (q_1, .inr (3, [.ref q_2, .ref q_9, .ref q_10, .ref q_11, .ref q_12, .ref q_13])), (q_2, .inr (6, [.int x_3, .ref q_14, .ref q_15, .ref q_16, .ref q_17, .ref q_18, .int x_4, .ref q_19, .int x_5, .ref q_3, .ref q_4, .ref q_20, .ref q_21, .ref q_22, .ref q_23])), (q_3, .inl (k 0, 60, .inl f_6)), (q_4, .inl (k 0, 60, .inl f_7))] (fun r u => u.1 = 0 ∧ ((-5) ≤ Int32.toInt r ∧ Int32.toInt r ≤ 60) ∧ (0 ≤ Int32.toInt (u.2.2.1 1) ∧ Int32.toInt (u.2.2.1 1) ≤ 60) ∧ zR (u.2.2.2.2.1 0) 0 7 ∧ zR (u.2.2.2.2.1 1) 0 799) (fun u => [(q_0, .inr (11, [.ref q_1, .ref q_5, .ref q_6, .ref q_7, .ref q_8, .int (u.2.2.1 0)])), (q_1, .inr (3, [.ref q_2, .ref q_9, .ref q_10, .ref q_11, .ref q_12, .ref q_13])), (q_2, .inr (6, [.int x_3, .ref q_14, .ref q_15, .ref q_16, .ref q_17, .ref q_18, .int x_4, .ref q_19, .int (u.2.2.1 1), .ref q_3, .ref q_4, .ref q_20, .ref q_21, .ref q_22, .ref q_23])), (q_3, .inl (k 0, 60, .inl (u.2.2.2.2.1 0))), (q_4, .inl (k 0, 60, .inl (u.2.2.2.2.1 1)))]) := by
  refine zMi_of (own := RX11) (by decide +kernel) rfl (Nat.le_of_ble_eq_true rfl) ?_
  intro p e s m args below meth c A ls C0 hr hlk hin hP hD hS hA hK hN hT hl
  have hx := C0.1
  have hb := C0.2.1
  have hml := C0.2.2.1
  have hown := C0.2.2.2.1
  have hts := C0.2.2.2.2
  have hl : lv_has ls 4 [(0, .ref q_0), (1, .int x_0), (2, .int x_1)] := hl
  have hP : va_P D vwCl [(q_0, .inr (11, [.ref q_1, .ref q_5, .ref q_6, .ref q_7, .ref q_8, .int x_2])), (q_1, .inr (3, [.ref q_2, .ref q_9, .ref q_10, .ref q_11, .ref q_12, .ref q_13])), (q_2, .inr (6, [.int x_3, .ref q_14, .ref q_15, .ref q_16, .ref q_17, .ref q_18, .int x_4, .ref q_19, .int x_5, .ref q_3, .ref q_4, .ref q_20, .ref q_21, .ref q_22, .ref q_23])), (q_3, .inl (k 0, 60, .inl f_6)), (q_4, .inl (k 0, 60, .inl f_7))] s.heap := hP
  refine lv_aload_n hx hb dX11_failed_0 rfl (lv_at hl 0 rfl) ?_
  refine va_get (D := D) (ci := 11) (v := .ref q_1) (C := RX11) (T := TX11) (N := 6) hx hb hts inX11 hown hK hP 0 rfl rfl 0 (by decide) (hts _ kF_X11_12) (fun _ h9 => h9) rfl dX11_failed_1 ?_
  refine va_get (D := D) (ci := 3) (v := .ref q_2) (C := RX3) (T := TX3) (N := 6) hx hb hts inX3 hown hK hP 1 rfl rfl 0 (by decide) (hts _ kF_X11_43) (fun _ h9 => h9) rfl dX11_failed_4 ?_
  refine lv_astore_n (lv' := [(3, .ref q_2), (0, .ref q_0), (1, .int x_0), (2, .int x_1)]) hx hb dX11_failed_7 rfl hl (by decide) rfl (fun ls hl => ?_)
  refine lv_iload_n hx hb dX11_failed_8 rfl (lv_at hl 2 rfl) ?_
  refine lv_iconst (v := 0) hx hb dX11_failed_9 (by decide) ?_
  refine lv_bipush (v := 7) hx hb dX11_failed_10 (by decide) ?_
  refine z_bi0 (z_runS (As := [.int x_0, .int 0, .int 7]) (rest := []) C0 (s_X11_isOutside_1 l D k T x_0 0 7 _) okS_X11_isOutside kM_X11_47 rfl (z_p0 hT hS hA hK hN) rfl hl.1 rfl (Nat.le_of_ble_eq_true rfl) dX11_failed_12 rfl) hP hS hA (fun r1 u1 H locs hw1 hP hS => ?_)
  obtain ⟨i1, a1, v1, w1, f1, g1, o1⟩ := u1
  dsimp only at hw1
  rcases hw1 with ⟨rfl, rfl, c1⟩ | ⟨rfl, rfl, c1⟩
  · refine lv_if_ne (tgt := 25) hx hb dX11_failed_15 (by decide) (fun _ => ?_) (fun c2 => absurd c2 (by decide))
    refine lv_aload_n hx hb dX11_failed_25 rfl (lv_at hl 1 rfl) ?_
    refine lv_iconst (v := (-1)) hx hb dX11_failed_26 (by decide) ?_
    refine z_bi (wr := [(q_1, .inr (3, [.ref q_2, .ref q_9, .ref q_10, .ref q_11, .ref q_12, .ref q_13])), (q_2, .inr (6, [.int x_3, .ref q_14, .ref q_15, .ref q_16, .ref q_17, .ref q_18, .int x_4, .ref q_19, .int x_5, .ref q_3, .ref q_4, .ref q_20, .ref q_21, .ref q_22, .ref q_23])), (q_3, .inl (k 0, 60, .inl f_6)), (q_4, .inl (k 0, 60, .inl f_7))]) (z_runV (C := RX11) (As := [.int (-1)]) (rest := []) C0 (s_X11_answer_1 l D k T q_0 q_1 q_5 q_6 q_7 q_8 (-1) x_2 _) okV_X11_answer kM_X11_55 rfl (z_pV (q0 := 0) hT hS hA hK hN hP hD [0] rfl rfl rfl rfl rfl) rfl hl.1 rfl (Nat.le_of_ble_eq_true rfl) dX11_failed_27 rfl) hP hD hS hA [0] [1, 2, 3, 4] rfl rfl rfl rfl (fun r3 u3 H locs hw3 hP hD hS => ?_)
    obtain ⟨i3, a3, v3, w3, f3, g3, o3⟩ := u3
    dsimp only at hw3
    obtain ⟨rfl, rfl⟩ := hw3
    have hP : va_P D vwCl [(q_1, .inr (3, [.ref q_2, .ref q_9, .ref q_10, .ref q_11, .ref q_12, .ref q_13])), (q_2, .inr (6, [.int x_3, .ref q_14, .ref q_15, .ref q_16, .ref q_17, .ref q_18, .int x_4, .ref q_19, .int x_5, .ref q_3, .ref q_4, .ref q_20, .ref q_21, .ref q_22, .ref q_23])), (q_3, .inl (k 0, 60, .inl f_6)), (q_4, .inl (k 0, 60, .inl f_7)), (q_0, .inr (11, [.ref q_1, .ref q_5, .ref q_6, .ref q_7, .ref q_8, .int (v3 0)]))] H := hP
    have hD : va_D A [(q_1, .inr (3, [.ref q_2, .ref q_9, .ref q_10, .ref q_11, .ref q_12, .ref q_13])), (q_2, .inr (6, [.int x_3, .ref q_14, .ref q_15, .ref q_16, .ref q_17, .ref q_18, .int x_4, .ref q_19, .int x_5, .ref q_3, .ref q_4, .ref q_20, .ref q_21, .ref q_22, .ref q_23])), (q_3, .inl (k 0, 60, .inl f_6)), (q_4, .inl (k 0, 60, .inl f_7)), (q_0, .inr (11, [.ref q_1, .ref q_5, .ref q_6, .ref q_7, .ref q_8, .int (v3 0)]))] := hD
    exact z_iret C0 hr hlk rfl hK hP hD hS (0, fun _ => 0, fun i => [(v3 0), x_5].getD i 0, fun _ => 0, fun i => [f_6, f_7].getD i (fun _ => 0), fun _ => (fun _ => 0), fun _ => (fun _ => none)) ⟨rfl, (by decide), (show 0 ≤ Int32.toInt (x_5 : Int32) ∧ Int32.toInt (x_5 : Int32) ≤ 60 from (by revert h_x_5; first | omega | (simp only [vp_in_iff, Int32.lt_iff_toInt_lt, Int32.le_iff_toInt_le, Int64.lt_iff_toInt_lt, Int64.le_iff_toInt_le, Int32.toInt_toInt64, ← Int32.toInt_inj, ← Int64.toInt_inj, Int32.reduceToInt, Int64.reduceToInt] <;> omega))), h_f_6, h_f_7⟩ [4, 0, 1, 2, 3] rfl rfl rfl dX11_failed_30
  · refine lv_if_ne (tgt := 25) hx hb dX11_failed_15 (by decide) (fun c4 => absurd (by decide) c4) (fun _ => ?_)
    refine lv_iload_n hx hb dX11_failed_18 rfl (lv_at hl 3 rfl) ?_
    refine z_bi0 (z_runS (As := [.int x_1]) (rest := []) C0 (s_X11_isNoHalf_1 l D k T x_1 _) okS_X11_isNoHalf kM_X11_118 rfl (z_p0 hT hS hA hK hN) rfl hl.1 rfl (Nat.le_of_ble_eq_true rfl) dX11_failed_19 rfl) hP hS hA (fun r5 u5 H locs hw5 hP hS => ?_)
    obtain ⟨i5, a5, v5, w5, f5, g5, o5⟩ := u5
    dsimp only at hw5
    rcases hw5 with ⟨rfl, rfl, c5⟩ | ⟨rfl, rfl, c5⟩
    · refine lv_if_eq (tgt := 31) hx hb dX11_failed_22 (by decide) (fun c6 => absurd c6 (by decide)) (fun _ => ?_)
      refine lv_aload_n hx hb dX11_failed_25 rfl (lv_at hl 1 rfl) ?_
      refine lv_iconst (v := (-1)) hx hb dX11_failed_26 (by decide) ?_
      refine z_bi (wr := [(q_1, .inr (3, [.ref q_2, .ref q_9, .ref q_10, .ref q_11, .ref q_12, .ref q_13])), (q_2, .inr (6, [.int x_3, .ref q_14, .ref q_15, .ref q_16, .ref q_17, .ref q_18, .int x_4, .ref q_19, .int x_5, .ref q_3, .ref q_4, .ref q_20, .ref q_21, .ref q_22, .ref q_23])), (q_3, .inl (k 0, 60, .inl f_6)), (q_4, .inl (k 0, 60, .inl f_7))]) (z_runV (C := RX11) (As := [.int (-1)]) (rest := []) C0 (s_X11_answer_1 l D k T q_0 q_1 q_5 q_6 q_7 q_8 (-1) x_2 _) okV_X11_answer kM_X11_55 rfl (z_pV (q0 := 0) hT hS hA hK hN hP hD [0] rfl rfl rfl rfl rfl) rfl hl.1 rfl (Nat.le_of_ble_eq_true rfl) dX11_failed_27 rfl) hP hD hS hA [0] [1, 2, 3, 4] rfl rfl rfl rfl (fun r7 u7 H locs hw7 hP hD hS => ?_)
      obtain ⟨i7, a7, v7, w7, f7, g7, o7⟩ := u7
      dsimp only at hw7
      obtain ⟨rfl, rfl⟩ := hw7
      have hP : va_P D vwCl [(q_1, .inr (3, [.ref q_2, .ref q_9, .ref q_10, .ref q_11, .ref q_12, .ref q_13])), (q_2, .inr (6, [.int x_3, .ref q_14, .ref q_15, .ref q_16, .ref q_17, .ref q_18, .int x_4, .ref q_19, .int x_5, .ref q_3, .ref q_4, .ref q_20, .ref q_21, .ref q_22, .ref q_23])), (q_3, .inl (k 0, 60, .inl f_6)), (q_4, .inl (k 0, 60, .inl f_7)), (q_0, .inr (11, [.ref q_1, .ref q_5, .ref q_6, .ref q_7, .ref q_8, .int (v7 0)]))] H := hP
      have hD : va_D A [(q_1, .inr (3, [.ref q_2, .ref q_9, .ref q_10, .ref q_11, .ref q_12, .ref q_13])), (q_2, .inr (6, [.int x_3, .ref q_14, .ref q_15, .ref q_16, .ref q_17, .ref q_18, .int x_4, .ref q_19, .int x_5, .ref q_3, .ref q_4, .ref q_20, .ref q_21, .ref q_22, .ref q_23])), (q_3, .inl (k 0, 60, .inl f_6)), (q_4, .inl (k 0, 60, .inl f_7)), (q_0, .inr (11, [.ref q_1, .ref q_5, .ref q_6, .ref q_7, .ref q_8, .int (v7 0)]))] := hD
      exact z_iret C0 hr hlk rfl hK hP hD hS (0, fun _ => 0, fun i => [(v7 0), x_5].getD i 0, fun _ => 0, fun i => [f_6, f_7].getD i (fun _ => 0), fun _ => (fun _ => 0), fun _ => (fun _ => none)) ⟨rfl, (by decide), (show 0 ≤ Int32.toInt (x_5 : Int32) ∧ Int32.toInt (x_5 : Int32) ≤ 60 from (by revert h_x_5; first | omega | (simp only [vp_in_iff, Int32.lt_iff_toInt_lt, Int32.le_iff_toInt_le, Int64.lt_iff_toInt_lt, Int64.le_iff_toInt_le, Int32.toInt_toInt64, ← Int32.toInt_inj, ← Int64.toInt_inj, Int32.reduceToInt, Int64.reduceToInt] <;> omega))), h_f_6, h_f_7⟩ [4, 0, 1, 2, 3] rfl rfl rfl dX11_failed_30
    · refine lv_if_eq (tgt := 31) hx hb dX11_failed_22 (by decide) (fun _ => ?_) (fun c8 => absurd (by decide) c8)
      refine lv_aload_n hx hb dX11_failed_31 rfl (lv_at hl 0 rfl) ?_
      refine lv_iload_n hx hb dX11_failed_32 rfl (lv_at hl 2 rfl) ?_
      refine lv_iload_n hx hb dX11_failed_33 rfl (lv_at hl 3 rfl) ?_
      refine z_bi (wr := [(q_0, .inr (11, [.ref q_1, .ref q_5, .ref q_6, .ref q_7, .ref q_8, .int x_2])), (q_1, .inr (3, [.ref q_2, .ref q_9, .ref q_10, .ref q_11, .ref q_12, .ref q_13]))]) (z_runV (C := RX6) (As := [.int x_0, .int x_1]) (rest := []) C0 (s_X6_hasFailed_1 l D k T q_2 q_3 q_4 q_14 q_15 q_16 q_17 q_18 q_19 q_20 q_21 q_22 q_23 x_0 x_1 x_3 x_4 x_5 f_6 f_7 (by revert h_x_3; first | omega | (simp only [vp_in_iff, Int32.lt_iff_toInt_lt, Int32.le_iff_toInt_le, Int64.lt_iff_toInt_lt, Int64.le_iff_toInt_le, Int32.toInt_toInt64, ← Int32.toInt_inj, ← Int64.toInt_inj, Int32.reduceToInt, Int64.reduceToInt] <;> omega)) (by revert h_x_4; first | omega | (simp only [vp_in_iff, Int32.lt_iff_toInt_lt, Int32.le_iff_toInt_le, Int64.lt_iff_toInt_lt, Int64.le_iff_toInt_le, Int32.toInt_toInt64, ← Int32.toInt_inj, ← Int64.toInt_inj, Int32.reduceToInt, Int64.reduceToInt] <;> omega)) (by revert h_x_5; first | omega | (simp only [vp_in_iff, Int32.lt_iff_toInt_lt, Int32.le_iff_toInt_le, Int64.lt_iff_toInt_lt, Int64.le_iff_toInt_le, Int32.toInt_toInt64, ← Int32.toInt_inj, ← Int64.toInt_inj, Int32.reduceToInt, Int64.reduceToInt] <;> omega)) h_f_6 h_f_7 _) okV_X6_hasFailed kM_X11_121 rfl (z_pV (q0 := 2) hT hS hA hK hN hP hD [2, 3, 4] rfl rfl rfl rfl rfl) rfl hl.1 rfl (Nat.le_of_ble_eq_true rfl) dX11_failed_34 rfl) hP hD hS hA [2, 3, 4] [0, 1] rfl rfl rfl rfl (fun r9 u9 H locs hw9 hP hD hS => ?_)
      obtain ⟨i9, a9, v9, w9, f9, g9, o9⟩ := u9
      dsimp only at hw9
      rcases hw9 with ⟨rfl, rfl⟩ | ⟨rfl, rfl⟩
      · have hP : va_P D vwCl [(q_0, .inr (11, [.ref q_1, .ref q_5, .ref q_6, .ref q_7, .ref q_8, .int x_2])), (q_1, .inr (3, [.ref q_2, .ref q_9, .ref q_10, .ref q_11, .ref q_12, .ref q_13])), (q_2, .inr (6, [.int x_3, .ref q_14, .ref q_15, .ref q_16, .ref q_17, .ref q_18, .int x_4, .ref q_19, .int x_5, .ref q_3, .ref q_4, .ref q_20, .ref q_21, .ref q_22, .ref q_23])), (q_3, .inl (k 0, 60, .inl f_6)), (q_4, .inl (k 0, 60, .inl f_7))] H := hP
        have hD : va_D A [(q_0, .inr (11, [.ref q_1, .ref q_5, .ref q_6, .ref q_7, .ref q_8, .int x_2])), (q_1, .inr (3, [.ref q_2, .ref q_9, .ref q_10, .ref q_11, .ref q_12, .ref q_13])), (q_2, .inr (6, [.int x_3, .ref q_14, .ref q_15, .ref q_16, .ref q_17, .ref q_18, .int x_4, .ref q_19, .int x_5, .ref q_3, .ref q_4, .ref q_20, .ref q_21, .ref q_22, .ref q_23])), (q_3, .inl (k 0, 60, .inl f_6)), (q_4, .inl (k 0, 60, .inl f_7))] := hD
        refine lv_if_eq (tgt := 47) hx hb dX11_failed_37 (by decide) (fun _ => ?_) (fun c10 => absurd (by decide) c10)
        refine lv_aload_n hx hb dX11_failed_47 rfl (lv_at hl 0 rfl) ?_
        refine va_get (D := D) (ci := 6) (v := .int x_5) (C := RX6) (T := TX6) (N := 15) hx hb hts inX6 hown hK hP 2 rfl rfl 8 (by decide) (hts _ kF_X11_124) (fun _ h9 => h9) rfl dX11_failed_48 ?_
        refine lv_bipush (v := 60) hx hb dX11_failed_51 (by decide) ?_
        refine lv_icmp_lt (tgt := 63) hx hb dX11_failed_53 (by decide) (fun c11 => ?_) (fun c11 => ?_)
        · refine lv_aload_n hx hb dX11_failed_63 rfl (lv_at hl 1 rfl) ?_
          refine lv_aload_n hx hb dX11_failed_64 rfl (lv_at hl 0 rfl) ?_
          refine lv_iload_n hx hb dX11_failed_65 rfl (lv_at hl 2 rfl) ?_
          refine lv_iload_n hx hb dX11_failed_66 rfl (lv_at hl 3 rfl) ?_
          refine z_bi (wr := [(q_0, .inr (11, [.ref q_1, .ref q_5, .ref q_6, .ref q_7, .ref q_8, .int x_2])), (q_1, .inr (3, [.ref q_2, .ref q_9, .ref q_10, .ref q_11, .ref q_12, .ref q_13]))]) (z_runV (C := RX6) (As := [.int x_0, .int x_1]) (rest := [.ref q_0]) C0 (s_X6_addBus_1 l D k T q_2 q_3 q_4 q_14 q_15 q_16 q_17 q_18 q_19 q_20 q_21 q_22 q_23 x_0 x_1 x_3 x_4 x_5 f_6 f_7 (by revert c1; first | omega | (simp only [vp_in_iff, Int32.lt_iff_toInt_lt, Int32.le_iff_toInt_le, Int64.lt_iff_toInt_lt, Int64.le_iff_toInt_le, Int32.toInt_toInt64, ← Int32.toInt_inj, ← Int64.toInt_inj, Int32.reduceToInt, Int64.reduceToInt] <;> omega)) (by revert c5; first | omega | (simp only [vp_in_iff, Int32.lt_iff_toInt_lt, Int32.le_iff_toInt_le, Int64.lt_iff_toInt_lt, Int64.le_iff_toInt_le, Int32.toInt_toInt64, ← Int32.toInt_inj, ← Int64.toInt_inj, Int32.reduceToInt, Int64.reduceToInt] <;> omega)) (by revert h_x_3; first | omega | (simp only [vp_in_iff, Int32.lt_iff_toInt_lt, Int32.le_iff_toInt_le, Int64.lt_iff_toInt_lt, Int64.le_iff_toInt_le, Int32.toInt_toInt64, ← Int32.toInt_inj, ← Int64.toInt_inj, Int32.reduceToInt, Int64.reduceToInt] <;> omega)) (by revert h_x_4; first | omega | (simp only [vp_in_iff, Int32.lt_iff_toInt_lt, Int32.le_iff_toInt_le, Int64.lt_iff_toInt_lt, Int64.le_iff_toInt_le, Int32.toInt_toInt64, ← Int32.toInt_inj, ← Int64.toInt_inj, Int32.reduceToInt, Int64.reduceToInt] <;> omega)) (by revert h_x_5 c11; first | omega | (simp only [vp_in_iff, Int32.lt_iff_toInt_lt, Int32.le_iff_toInt_le, Int64.lt_iff_toInt_lt, Int64.le_iff_toInt_le, Int32.toInt_toInt64, ← Int32.toInt_inj, ← Int64.toInt_inj, Int32.reduceToInt, Int64.reduceToInt] <;> omega)) h_f_6 h_f_7 _) okV_X6_addBus kM_X11_127 rfl (z_pV (q0 := 2) hT hS hA hK hN hP hD [2, 3, 4] rfl rfl rfl rfl rfl) rfl hl.1 rfl (Nat.le_of_ble_eq_true rfl) dX11_failed_67 rfl) hP hD hS hA [2, 3, 4] [0, 1] rfl rfl rfl rfl (fun r12 u12 H locs hw12 hP hD hS => ?_)
          obtain ⟨i12, a12, v12, w12, f12, g12, o12⟩ := u12
          dsimp only at hw12
          obtain ⟨rfl, hr12, hq12_0, hq12_1, hq12_2⟩ := hw12
          have hP : va_P D vwCl [(q_0, .inr (11, [.ref q_1, .ref q_5, .ref q_6, .ref q_7, .ref q_8, .int x_2])), (q_1, .inr (3, [.ref q_2, .ref q_9, .ref q_10, .ref q_11, .ref q_12, .ref q_13])), (q_2, .inr (6, [.int x_3, .ref q_14, .ref q_15, .ref q_16, .ref q_17, .ref q_18, .int x_4, .ref q_19, .int (v12 0), .ref q_3, .ref q_4, .ref q_20, .ref q_21, .ref q_22, .ref q_23])), (q_3, .inl (k 0, 60, .inl (f12 0))), (q_4, .inl (k 0, 60, .inl (f12 1)))] H := hP
          have hD : va_D A [(q_0, .inr (11, [.ref q_1, .ref q_5, .ref q_6, .ref q_7, .ref q_8, .int x_2])), (q_1, .inr (3, [.ref q_2, .ref q_9, .ref q_10, .ref q_11, .ref q_12, .ref q_13])), (q_2, .inr (6, [.int x_3, .ref q_14, .ref q_15, .ref q_16, .ref q_17, .ref q_18, .int x_4, .ref q_19, .int (v12 0), .ref q_3, .ref q_4, .ref q_20, .ref q_21, .ref q_22, .ref q_23])), (q_3, .inl (k 0, 60, .inl (f12 0))), (q_4, .inl (k 0, 60, .inl (f12 1)))] := hD
          refine z_bi (wr := [(q_1, .inr (3, [.ref q_2, .ref q_9, .ref q_10, .ref q_11, .ref q_12, .ref q_13])), (q_2, .inr (6, [.int x_3, .ref q_14, .ref q_15, .ref q_16, .ref q_17, .ref q_18, .int x_4, .ref q_19, .int (v12 0), .ref q_3, .ref q_4, .ref q_20, .ref q_21, .ref q_22, .ref q_23])), (q_3, .inl (k 0, 60, .inl (f12 0))), (q_4, .inl (k 0, 60, .inl (f12 1)))]) (z_runV (C := RX11) (As := [.int r12]) (rest := []) C0 (s_X11_answer_1 l D k T q_0 q_1 q_5 q_6 q_7 q_8 r12 x_2 _) okV_X11_answer kM_X11_55 rfl (z_pV (q0 := 0) hT hS hA hK hN hP hD [0] rfl rfl rfl rfl rfl) rfl hl.1 rfl (Nat.le_of_ble_eq_true rfl) dX11_failed_70 rfl) hP hD hS hA [0] [1, 2, 3, 4] rfl rfl rfl rfl (fun r13 u13 H locs hw13 hP hD hS => ?_)
          obtain ⟨i13, a13, v13, w13, f13, g13, o13⟩ := u13
          dsimp only at hw13
          obtain ⟨rfl, rfl⟩ := hw13
          have hP : va_P D vwCl [(q_1, .inr (3, [.ref q_2, .ref q_9, .ref q_10, .ref q_11, .ref q_12, .ref q_13])), (q_2, .inr (6, [.int x_3, .ref q_14, .ref q_15, .ref q_16, .ref q_17, .ref q_18, .int x_4, .ref q_19, .int (v12 0), .ref q_3, .ref q_4, .ref q_20, .ref q_21, .ref q_22, .ref q_23])), (q_3, .inl (k 0, 60, .inl (f12 0))), (q_4, .inl (k 0, 60, .inl (f12 1))), (q_0, .inr (11, [.ref q_1, .ref q_5, .ref q_6, .ref q_7, .ref q_8, .int (v13 0)]))] H := hP
          have hD : va_D A [(q_1, .inr (3, [.ref q_2, .ref q_9, .ref q_10, .ref q_11, .ref q_12, .ref q_13])), (q_2, .inr (6, [.int x_3, .ref q_14, .ref q_15, .ref q_16, .ref q_17, .ref q_18, .int x_4, .ref q_19, .int (v12 0), .ref q_3, .ref q_4, .ref q_20, .ref q_21, .ref q_22, .ref q_23])), (q_3, .inl (k 0, 60, .inl (f12 0))), (q_4, .inl (k 0, 60, .inl (f12 1))), (q_0, .inr (11, [.ref q_1, .ref q_5, .ref q_6, .ref q_7, .ref q_8, .int (v13 0)]))] := hD
          exact z_iret C0 hr hlk rfl hK hP hD hS (0, fun _ => 0, fun i => [(v13 0), (v12 0)].getD i 0, fun _ => 0, fun i => [(f12 0), (f12 1)].getD i (fun _ => 0), fun _ => (fun _ => 0), fun _ => (fun _ => none)) ⟨rfl, (by revert hr12; first | omega | (simp only [vp_in_iff, Int32.lt_iff_toInt_lt, Int32.le_iff_toInt_le, Int64.lt_iff_toInt_lt, Int64.le_iff_toInt_le, Int32.toInt_toInt64, ← Int32.toInt_inj, ← Int64.toInt_inj, Int32.reduceToInt, Int64.reduceToInt] <;> omega)), (show 0 ≤ Int32.toInt ((v12 0) : Int32) ∧ Int32.toInt ((v12 0) : Int32) ≤ 60 from (by revert hq12_0; first | omega | (simp only [vp_in_iff, Int32.lt_iff_toInt_lt, Int32.le_iff_toInt_le, Int64.lt_iff_toInt_lt, Int64.le_iff_toInt_le, Int32.toInt_toInt64, ← Int32.toInt_inj, ← Int64.toInt_inj, Int32.reduceToInt, Int64.reduceToInt] <;> omega))), hq12_1, hq12_2⟩ [4, 0, 1, 2, 3] rfl rfl rfl dX11_failed_73
        · refine lv_aload_n hx hb dX11_failed_56 rfl (lv_at hl 1 rfl) ?_
          refine lv_bipush (v := (-5)) hx hb dX11_failed_57 (by decide) ?_
          refine z_bi (wr := [(q_1, .inr (3, [.ref q_2, .ref q_9, .ref q_10, .ref q_11, .ref q_12, .ref q_13])), (q_2, .inr (6, [.int x_3, .ref q_14, .ref q_15, .ref q_16, .ref q_17, .ref q_18, .int x_4, .ref q_19, .int x_5, .ref q_3, .ref q_4, .ref q_20, .ref q_21, .ref q_22, .ref q_23])), (q_3, .inl (k 0, 60, .inl f_6)), (q_4, .inl (k 0, 60, .inl f_7))]) (z_runV (C := RX11) (As := [.int (-5)]) (rest := []) C0 (s_X11_answer_1 l D k T q_0 q_1 q_5 q_6 q_7 q_8 (-5) x_2 _) okV_X11_answer kM_X11_55 rfl (z_pV (q0 := 0) hT hS hA hK hN hP hD [0] rfl rfl rfl rfl rfl) rfl hl.1 rfl (Nat.le_of_ble_eq_true rfl) dX11_failed_59 rfl) hP hD hS hA [0] [1, 2, 3, 4] rfl rfl rfl rfl (fun r14 u14 H locs hw14 hP hD hS => ?_)
          obtain ⟨i14, a14, v14, w14, f14, g14, o14⟩ := u14
          dsimp only at hw14
          obtain ⟨rfl, rfl⟩ := hw14
          have hP : va_P D vwCl [(q_1, .inr (3, [.ref q_2, .ref q_9, .ref q_10, .ref q_11, .ref q_12, .ref q_13])), (q_2, .inr (6, [.int x_3, .ref q_14, .ref q_15, .ref q_16, .ref q_17, .ref q_18, .int x_4, .ref q_19, .int x_5, .ref q_3, .ref q_4, .ref q_20, .ref q_21, .ref q_22, .ref q_23])), (q_3, .inl (k 0, 60, .inl f_6)), (q_4, .inl (k 0, 60, .inl f_7)), (q_0, .inr (11, [.ref q_1, .ref q_5, .ref q_6, .ref q_7, .ref q_8, .int (v14 0)]))] H := hP
          have hD : va_D A [(q_1, .inr (3, [.ref q_2, .ref q_9, .ref q_10, .ref q_11, .ref q_12, .ref q_13])), (q_2, .inr (6, [.int x_3, .ref q_14, .ref q_15, .ref q_16, .ref q_17, .ref q_18, .int x_4, .ref q_19, .int x_5, .ref q_3, .ref q_4, .ref q_20, .ref q_21, .ref q_22, .ref q_23])), (q_3, .inl (k 0, 60, .inl f_6)), (q_4, .inl (k 0, 60, .inl f_7)), (q_0, .inr (11, [.ref q_1, .ref q_5, .ref q_6, .ref q_7, .ref q_8, .int (v14 0)]))] := hD
          exact z_iret C0 hr hlk rfl hK hP hD hS (0, fun _ => 0, fun i => [(v14 0), x_5].getD i 0, fun _ => 0, fun i => [f_6, f_7].getD i (fun _ => 0), fun _ => (fun _ => 0), fun _ => (fun _ => none)) ⟨rfl, (by decide), (show 0 ≤ Int32.toInt (x_5 : Int32) ∧ Int32.toInt (x_5 : Int32) ≤ 60 from (by revert h_x_5 c11; first | omega | (simp only [vp_in_iff, Int32.lt_iff_toInt_lt, Int32.le_iff_toInt_le, Int64.lt_iff_toInt_lt, Int64.le_iff_toInt_le, Int32.toInt_toInt64, ← Int32.toInt_inj, ← Int64.toInt_inj, Int32.reduceToInt, Int64.reduceToInt] <;> omega))), h_f_6, h_f_7⟩ [4, 0, 1, 2, 3] rfl rfl rfl dX11_failed_62
      · have hP : va_P D vwCl [(q_0, .inr (11, [.ref q_1, .ref q_5, .ref q_6, .ref q_7, .ref q_8, .int x_2])), (q_1, .inr (3, [.ref q_2, .ref q_9, .ref q_10, .ref q_11, .ref q_12, .ref q_13])), (q_2, .inr (6, [.int x_3, .ref q_14, .ref q_15, .ref q_16, .ref q_17, .ref q_18, .int x_4, .ref q_19, .int x_5, .ref q_3, .ref q_4, .ref q_20, .ref q_21, .ref q_22, .ref q_23])), (q_3, .inl (k 0, 60, .inl f_6)), (q_4, .inl (k 0, 60, .inl f_7))] H := hP
        have hD : va_D A [(q_0, .inr (11, [.ref q_1, .ref q_5, .ref q_6, .ref q_7, .ref q_8, .int x_2])), (q_1, .inr (3, [.ref q_2, .ref q_9, .ref q_10, .ref q_11, .ref q_12, .ref q_13])), (q_2, .inr (6, [.int x_3, .ref q_14, .ref q_15, .ref q_16, .ref q_17, .ref q_18, .int x_4, .ref q_19, .int x_5, .ref q_3, .ref q_4, .ref q_20, .ref q_21, .ref q_22, .ref q_23])), (q_3, .inl (k 0, 60, .inl f_6)), (q_4, .inl (k 0, 60, .inl f_7))] := hD
        refine lv_if_eq (tgt := 47) hx hb dX11_failed_37 (by decide) (fun c15 => absurd c15 (by decide)) (fun _ => ?_)
        refine lv_aload_n hx hb dX11_failed_40 rfl (lv_at hl 1 rfl) ?_
        refine lv_bipush (v := (-4)) hx hb dX11_failed_41 (by decide) ?_
        refine z_bi (wr := [(q_1, .inr (3, [.ref q_2, .ref q_9, .ref q_10, .ref q_11, .ref q_12, .ref q_13])), (q_2, .inr (6, [.int x_3, .ref q_14, .ref q_15, .ref q_16, .ref q_17, .ref q_18, .int x_4, .ref q_19, .int x_5, .ref q_3, .ref q_4, .ref q_20, .ref q_21, .ref q_22, .ref q_23])), (q_3, .inl (k 0, 60, .inl f_6)), (q_4, .inl (k 0, 60, .inl f_7))]) (z_runV (C := RX11) (As := [.int (-4)]) (rest := []) C0 (s_X11_answer_1 l D k T q_0 q_1 q_5 q_6 q_7 q_8 (-4) x_2 _) okV_X11_answer kM_X11_55 rfl (z_pV (q0 := 0) hT hS hA hK hN hP hD [0] rfl rfl rfl rfl rfl) rfl hl.1 rfl (Nat.le_of_ble_eq_true rfl) dX11_failed_43 rfl) hP hD hS hA [0] [1, 2, 3, 4] rfl rfl rfl rfl (fun r16 u16 H locs hw16 hP hD hS => ?_)
        obtain ⟨i16, a16, v16, w16, f16, g16, o16⟩ := u16
        dsimp only at hw16
        obtain ⟨rfl, rfl⟩ := hw16
        have hP : va_P D vwCl [(q_1, .inr (3, [.ref q_2, .ref q_9, .ref q_10, .ref q_11, .ref q_12, .ref q_13])), (q_2, .inr (6, [.int x_3, .ref q_14, .ref q_15, .ref q_16, .ref q_17, .ref q_18, .int x_4, .ref q_19, .int x_5, .ref q_3, .ref q_4, .ref q_20, .ref q_21, .ref q_22, .ref q_23])), (q_3, .inl (k 0, 60, .inl f_6)), (q_4, .inl (k 0, 60, .inl f_7)), (q_0, .inr (11, [.ref q_1, .ref q_5, .ref q_6, .ref q_7, .ref q_8, .int (v16 0)]))] H := hP
        have hD : va_D A [(q_1, .inr (3, [.ref q_2, .ref q_9, .ref q_10, .ref q_11, .ref q_12, .ref q_13])), (q_2, .inr (6, [.int x_3, .ref q_14, .ref q_15, .ref q_16, .ref q_17, .ref q_18, .int x_4, .ref q_19, .int x_5, .ref q_3, .ref q_4, .ref q_20, .ref q_21, .ref q_22, .ref q_23])), (q_3, .inl (k 0, 60, .inl f_6)), (q_4, .inl (k 0, 60, .inl f_7)), (q_0, .inr (11, [.ref q_1, .ref q_5, .ref q_6, .ref q_7, .ref q_8, .int (v16 0)]))] := hD
        exact z_iret C0 hr hlk rfl hK hP hD hS (0, fun _ => 0, fun i => [(v16 0), x_5].getD i 0, fun _ => 0, fun i => [f_6, f_7].getD i (fun _ => 0), fun _ => (fun _ => 0), fun _ => (fun _ => none)) ⟨rfl, (by decide), (show 0 ≤ Int32.toInt (x_5 : Int32) ∧ Int32.toInt (x_5 : Int32) ≤ 60 from (by revert h_x_5; first | omega | (simp only [vp_in_iff, Int32.lt_iff_toInt_lt, Int32.le_iff_toInt_le, Int64.lt_iff_toInt_lt, Int64.le_iff_toInt_le, Int32.toInt_toInt64, ← Int32.toInt_inj, ← Int64.toInt_inj, Int32.reduceToInt, Int64.reduceToInt] <;> omega))), h_f_6, h_f_7⟩ [4, 0, 1, 2, 3] rfl rfl rfl dX11_failed_46

set_option maxHeartbeats 4000000 in
set_option maxRecDepth 100000 in
theorem s_X6_addSpan_1 (l : Launch) (D : va_G) (k : Nat → ClassId) (T : zTy) (q_0 : Nat) (q_1 : Nat) (q_2 : Nat) (q_3 : Nat) (q_4 : Nat) (q_5 : Nat) (q_6 : Nat) (q_7 : Nat) (q_8 : Nat) (q_9 : Nat) (q_10 : Nat) (q_11 : Nat) (q_12 : Nat) (x_0 : Int32) (x_1 : Int32) (x_2 : Int32) (x_3 : Int32) (x_4 : Int32) (x_5 : Int32) (x_6 : Int32) (f_7 : Nat → Int32) (f_8 : Nat → Int32) (f_9 : Nat → Int32) (f_10 : Nat → Int32) (h_x_0 : 0 ≤ Int32.toInt x_0 ∧ Int32.toInt x_0 ≤ 39) (h_x_1 : 0 ≤ Int32.toInt x_1 ∧ Int32.toInt x_1 ≤ 1) (h_x_2 : 0 ≤ Int32.toInt x_2 ∧ Int32.toInt x_2 ≤ 399) (h_x_3 : 0 ≤ Int32.toInt x_3 ∧ Int32.toInt x_3 ≤ 399) (h_x_4 : 1 ≤ Int32.toInt x_4 ∧ Int32.toInt x_4 ≤ 40) (h_x_5 : 0 ≤ Int32.toInt x_5 ∧ Int32.toInt x_5 ≤ 5) (h_x_6 : 0 ≤ Int32.toInt x_6 ∧ Int32.toInt x_6 ≤ 60) (h_f_7 : zR f_7 0 60) (h_f_8 : zR f_8 0 39) (h_f_9 : zR f_9 0 399) (h_f_10 : zR f_10 0 399) (h_e_f_7_x_1 : 0 ≤ Int32.toInt (f_7 (Int32.toNatClampNeg x_1)) ∧ Int32.toInt (f_7 (Int32.toNatClampNeg x_1)) ≤ 59) : zMi l yX6_addSpan cX6_addSpan 6 (some .int) ({ frames := 0, cells := 0, slots := 0, locals := 0 }) D k T [.ref q_0, .int x_0, .int x_1, .int x_2, .int x_3] [(q_0, .inr (6, [.int x_4, .ref q_5, .ref q_6, .ref q_7, .ref q_8, .ref q_9, .int x_5, .ref q_10, .int x_6, .ref q_11, .ref q_12, .ref q_1, .ref q_2, .ref q_3, .ref q_4])), (q_1, .inl (k 0, 2, .inl f_7)), (q_2, .inl (k 0, 120, .inl f_8)), (q_3, .inl (k 0, 120, .inl f_9)), (q_4, .inl (k 0, 120, .inl f_10))] (fun r u => u.1 = 0 ∧ (0 ≤ Int32.toInt r ∧ Int32.toInt r ≤ 60) ∧ zR (u.2.2.2.2.1 0) 0 60 ∧ zR (u.2.2.2.2.1 1) 0 39 ∧ zR (u.2.2.2.2.1 2) 0 399 ∧ zR (u.2.2.2.2.1 3) 0 399) (fun u => [(q_0, .inr (6, [.int x_4, .ref q_5, .ref q_6, .ref q_7, .ref q_8, .ref q_9, .int x_5, .ref q_10, .int x_6, .ref q_11, .ref q_12, .ref q_1, .ref q_2, .ref q_3, .ref q_4])), (q_1, .inl (k 0, 2, .inl (u.2.2.2.2.1 0))), (q_2, .inl (k 0, 120, .inl (u.2.2.2.2.1 1))), (q_3, .inl (k 0, 120, .inl (u.2.2.2.2.1 2))), (q_4, .inl (k 0, 120, .inl (u.2.2.2.2.1 3)))]) := by
  refine zMi_of (own := RX6) (by decide +kernel) rfl (Nat.le_of_ble_eq_true rfl) ?_
  intro p e s m args below meth c A ls C0 hr hlk hin hP hD hS hA hK hN hT hl
  have hx := C0.1
  have hb := C0.2.1
  have hml := C0.2.2.1
  have hown := C0.2.2.2.1
  have hts := C0.2.2.2.2
  have hl : lv_has ls 6 [(0, .ref q_0), (1, .int x_0), (2, .int x_1), (3, .int x_2), (4, .int x_3)] := hl
  have hP : va_P D vwCl [(q_0, .inr (6, [.int x_4, .ref q_5, .ref q_6, .ref q_7, .ref q_8, .ref q_9, .int x_5, .ref q_10, .int x_6, .ref q_11, .ref q_12, .ref q_1, .ref q_2, .ref q_3, .ref q_4])), (q_1, .inl (k 0, 2, .inl f_7)), (q_2, .inl (k 0, 120, .inl f_8)), (q_3, .inl (k 0, 120, .inl f_9)), (q_4, .inl (k 0, 120, .inl f_10))] s.heap := hP
  refine lv_iload_n hx hb dX6_addSpan_0 rfl (lv_at hl 2 rfl) ?_
  refine lv_bipush (v := 60) hx hb dX6_addSpan_1 (by decide) ?_
  refine lv_imul hx hb dX6_addSpan_3 ?_
  refine lv_topi (fun y1 ey1 => ?_)
  have hy1 : Int32.toInt y1 = Int32.toInt x_1 * 60 := by rw [ey1]; exact zi_mulc rfl (by decide) (by revert h_x_1; first | omega | (simp only [vp_in_iff, Int32.lt_iff_toInt_lt, Int32.le_iff_toInt_le, Int64.lt_iff_toInt_lt, Int64.le_iff_toInt_le, Int32.toInt_toInt64, ← Int32.toInt_inj, ← Int64.toInt_inj, Int32.reduceToInt, Int64.reduceToInt] <;> omega))
  refine lv_aload_n hx hb dX6_addSpan_4 rfl (lv_at hl 0 rfl) ?_
  refine va_get (D := D) (ci := 6) (v := .ref q_1) (C := RX6) (T := TX6) (N := 15) hx hb hts inX6 hown hK hP 0 rfl rfl 11 (by decide) (hts _ kF_X6_36) (fun _ h9 => h9) rfl dX6_addSpan_5 ?_
  refine lv_iload_n hx hb dX6_addSpan_8 rfl (lv_at hl 2 rfl) ?_
  refine va_iald hx hb hK hP 1 0 rfl rfl (by revert h_x_1 hy1; first | omega | (simp only [vp_in_iff, Int32.lt_iff_toInt_lt, Int32.le_iff_toInt_le, Int64.lt_iff_toInt_lt, Int64.le_iff_toInt_le, Int32.toInt_toInt64, ← Int32.toInt_inj, ← Int64.toInt_inj, Int32.reduceToInt, Int64.reduceToInt] <;> omega)) dX6_addSpan_9 ?_
  refine lv_topi (fun y2 ey2 => ?_)
  have hy2 : 0 ≤ Int32.toInt y2 ∧ Int32.toInt y2 ≤ 59 := by rw [ey2]; exact h_e_f_7_x_1
  refine lv_iadd hx hb dX6_addSpan_10 ?_
  refine lv_topi (fun y3 ey3 => ?_)
  have hy3 : Int32.toInt y3 = Int32.toInt y1 + Int32.toInt y2 := by rw [ey3]; exact zi_addc rfl rfl (by revert h_x_1 hy1 hy2; first | omega | (simp only [vp_in_iff, Int32.lt_iff_toInt_lt, Int32.le_iff_toInt_le, Int64.lt_iff_toInt_lt, Int64.le_iff_toInt_le, Int32.toInt_toInt64, ← Int32.toInt_inj, ← Int64.toInt_inj, Int32.reduceToInt, Int64.reduceToInt] <;> omega))
  refine lv_istore (lv' := [(5, .int y3), (0, .ref q_0), (1, .int x_0), (2, .int x_1), (3, .int x_2), (4, .int x_3)]) hx hb dX6_addSpan_11 hl (by decide) rfl (fun ls hl => ?_)
  refine lv_aload_n hx hb dX6_addSpan_13 rfl (lv_at hl 1 rfl) ?_
  refine va_get (D := D) (ci := 6) (v := .ref q_2) (C := RX6) (T := TX6) (N := 15) hx hb hts inX6 hown hK hP 0 rfl rfl 12 (by decide) (hts _ kF_X6_39) (fun _ h9 => h9) rfl dX6_addSpan_14 ?_
  refine lv_iload hx hb dX6_addSpan_17 (lv_at hl 0 rfl) ?_
  refine lv_iload_n hx hb dX6_addSpan_19 rfl (lv_at hl 2 rfl) ?_
  refine va_iast hx hb hK hP hD hS 2 0 rfl rfl (by revert h_x_1 hy1 hy2 hy3; first | omega | (simp only [vp_in_iff, Int32.lt_iff_toInt_lt, Int32.le_iff_toInt_le, Int64.lt_iff_toInt_lt, Int64.le_iff_toInt_le, Int32.toInt_toInt64, ← Int32.toInt_inj, ← Int64.toInt_inj, Int32.reduceToInt, Int64.reduceToInt] <;> omega)) dX6_addSpan_20 (fun H locs hP hD hS => ?_)
  have hF4 := zR_upd (j := Int32.toNatClampNeg y3) (v := x_0) h_f_8 (by revert h_x_0; first | omega | (simp only [vp_in_iff, Int32.lt_iff_toInt_lt, Int32.le_iff_toInt_le, Int64.lt_iff_toInt_lt, Int64.le_iff_toInt_le, Int32.toInt_toInt64, ← Int32.toInt_inj, ← Int64.toInt_inj, Int32.reduceToInt, Int64.reduceToInt] <;> omega))
  obtain ⟨F4, eF4⟩ : ∃ q, q = upd f_8 (Int32.toNatClampNeg y3) x_0 := ⟨_, rfl⟩
  rw [← eF4] at hF4
  have hP : va_P D vwCl [(q_0, .inr (6, [.int x_4, .ref q_5, .ref q_6, .ref q_7, .ref q_8, .ref q_9, .int x_5, .ref q_10, .int x_6, .ref q_11, .ref q_12, .ref q_1, .ref q_2, .ref q_3, .ref q_4])), (q_1, .inl (k 0, 2, .inl f_7)), (q_2, .inl (k 0, 120, .inl F4)), (q_3, .inl (k 0, 120, .inl f_9)), (q_4, .inl (k 0, 120, .inl f_10))] H := by rw [eF4]; exact hP
  have hD : va_D A [(q_0, .inr (6, [.int x_4, .ref q_5, .ref q_6, .ref q_7, .ref q_8, .ref q_9, .int x_5, .ref q_10, .int x_6, .ref q_11, .ref q_12, .ref q_1, .ref q_2, .ref q_3, .ref q_4])), (q_1, .inl (k 0, 2, .inl f_7)), (q_2, .inl (k 0, 120, .inl F4)), (q_3, .inl (k 0, 120, .inl f_9)), (q_4, .inl (k 0, 120, .inl f_10))] := by rw [eF4]; exact hD
  refine lv_aload_n hx hb dX6_addSpan_21 rfl (lv_at hl 1 rfl) ?_
  refine va_get (D := D) (ci := 6) (v := .ref q_3) (C := RX6) (T := TX6) (N := 15) hx hb hts inX6 hown hK hP 0 rfl rfl 13 (by decide) (hts _ kF_X6_42) (fun _ h9 => h9) rfl dX6_addSpan_22 ?_
  refine lv_iload hx hb dX6_addSpan_25 (lv_at hl 0 rfl) ?_
  refine lv_iload_n hx hb dX6_addSpan_27 rfl (lv_at hl 4 rfl) ?_
  refine va_iast hx hb hK hP hD hS 3 0 rfl rfl (by revert h_x_1 hy1 hy2 hy3; first | omega | (simp only [vp_in_iff, Int32.lt_iff_toInt_lt, Int32.le_iff_toInt_le, Int64.lt_iff_toInt_lt, Int64.le_iff_toInt_le, Int32.toInt_toInt64, ← Int32.toInt_inj, ← Int64.toInt_inj, Int32.reduceToInt, Int64.reduceToInt] <;> omega)) dX6_addSpan_28 (fun H locs hP hD hS => ?_)
  have hF5 := zR_upd (j := Int32.toNatClampNeg y3) (v := x_2) h_f_9 (by revert h_x_2; first | omega | (simp only [vp_in_iff, Int32.lt_iff_toInt_lt, Int32.le_iff_toInt_le, Int64.lt_iff_toInt_lt, Int64.le_iff_toInt_le, Int32.toInt_toInt64, ← Int32.toInt_inj, ← Int64.toInt_inj, Int32.reduceToInt, Int64.reduceToInt] <;> omega))
  obtain ⟨F5, eF5⟩ : ∃ q, q = upd f_9 (Int32.toNatClampNeg y3) x_2 := ⟨_, rfl⟩
  rw [← eF5] at hF5
  have hP : va_P D vwCl [(q_0, .inr (6, [.int x_4, .ref q_5, .ref q_6, .ref q_7, .ref q_8, .ref q_9, .int x_5, .ref q_10, .int x_6, .ref q_11, .ref q_12, .ref q_1, .ref q_2, .ref q_3, .ref q_4])), (q_1, .inl (k 0, 2, .inl f_7)), (q_2, .inl (k 0, 120, .inl F4)), (q_3, .inl (k 0, 120, .inl F5)), (q_4, .inl (k 0, 120, .inl f_10))] H := by rw [eF5]; exact hP
  have hD : va_D A [(q_0, .inr (6, [.int x_4, .ref q_5, .ref q_6, .ref q_7, .ref q_8, .ref q_9, .int x_5, .ref q_10, .int x_6, .ref q_11, .ref q_12, .ref q_1, .ref q_2, .ref q_3, .ref q_4])), (q_1, .inl (k 0, 2, .inl f_7)), (q_2, .inl (k 0, 120, .inl F4)), (q_3, .inl (k 0, 120, .inl F5)), (q_4, .inl (k 0, 120, .inl f_10))] := by rw [eF5]; exact hD
  refine lv_aload_n hx hb dX6_addSpan_29 rfl (lv_at hl 1 rfl) ?_
  refine va_get (D := D) (ci := 6) (v := .ref q_4) (C := RX6) (T := TX6) (N := 15) hx hb hts inX6 hown hK hP 0 rfl rfl 14 (by decide) (hts _ kF_X6_45) (fun _ h9 => h9) rfl dX6_addSpan_30 ?_
  refine lv_iload hx hb dX6_addSpan_33 (lv_at hl 0 rfl) ?_
  refine lv_iload hx hb dX6_addSpan_35 (lv_at hl 5 rfl) ?_
  refine va_iast hx hb hK hP hD hS 4 0 rfl rfl (by revert h_x_1 hy1 hy2 hy3; first | omega | (simp only [vp_in_iff, Int32.lt_iff_toInt_lt, Int32.le_iff_toInt_le, Int64.lt_iff_toInt_lt, Int64.le_iff_toInt_le, Int32.toInt_toInt64, ← Int32.toInt_inj, ← Int64.toInt_inj, Int32.reduceToInt, Int64.reduceToInt] <;> omega)) dX6_addSpan_37 (fun H locs hP hD hS => ?_)
  have hF6 := zR_upd (j := Int32.toNatClampNeg y3) (v := x_3) h_f_10 (by revert h_x_3; first | omega | (simp only [vp_in_iff, Int32.lt_iff_toInt_lt, Int32.le_iff_toInt_le, Int64.lt_iff_toInt_lt, Int64.le_iff_toInt_le, Int32.toInt_toInt64, ← Int32.toInt_inj, ← Int64.toInt_inj, Int32.reduceToInt, Int64.reduceToInt] <;> omega))
  obtain ⟨F6, eF6⟩ : ∃ q, q = upd f_10 (Int32.toNatClampNeg y3) x_3 := ⟨_, rfl⟩
  rw [← eF6] at hF6
  have hP : va_P D vwCl [(q_0, .inr (6, [.int x_4, .ref q_5, .ref q_6, .ref q_7, .ref q_8, .ref q_9, .int x_5, .ref q_10, .int x_6, .ref q_11, .ref q_12, .ref q_1, .ref q_2, .ref q_3, .ref q_4])), (q_1, .inl (k 0, 2, .inl f_7)), (q_2, .inl (k 0, 120, .inl F4)), (q_3, .inl (k 0, 120, .inl F5)), (q_4, .inl (k 0, 120, .inl F6))] H := by rw [eF6]; exact hP
  have hD : va_D A [(q_0, .inr (6, [.int x_4, .ref q_5, .ref q_6, .ref q_7, .ref q_8, .ref q_9, .int x_5, .ref q_10, .int x_6, .ref q_11, .ref q_12, .ref q_1, .ref q_2, .ref q_3, .ref q_4])), (q_1, .inl (k 0, 2, .inl f_7)), (q_2, .inl (k 0, 120, .inl F4)), (q_3, .inl (k 0, 120, .inl F5)), (q_4, .inl (k 0, 120, .inl F6))] := by rw [eF6]; exact hD
  refine lv_aload_n hx hb dX6_addSpan_38 rfl (lv_at hl 1 rfl) ?_
  refine va_get (D := D) (ci := 6) (v := .ref q_1) (C := RX6) (T := TX6) (N := 15) hx hb hts inX6 hown hK hP 0 rfl rfl 11 (by decide) (hts _ kF_X6_36) (fun _ h9 => h9) rfl dX6_addSpan_39 ?_
  refine lv_iload_n hx hb dX6_addSpan_42 rfl (lv_at hl 3 rfl) ?_
  refine lv_dup2_11 hx hb dX6_addSpan_43 rfl rfl ?_
  refine va_iald hx hb hK hP 1 0 rfl rfl (by revert h_x_1 hy1 hy3 hy2; first | omega | (simp only [vp_in_iff, Int32.lt_iff_toInt_lt, Int32.le_iff_toInt_le, Int64.lt_iff_toInt_lt, Int64.le_iff_toInt_le, Int32.toInt_toInt64, ← Int32.toInt_inj, ← Int64.toInt_inj, Int32.reduceToInt, Int64.reduceToInt] <;> omega)) dX6_addSpan_44 ?_
  refine lv_toc (v := y2) ey2.symm ?_
  refine lv_iconst (v := 1) hx hb dX6_addSpan_45 (by decide) ?_
  refine lv_iadd hx hb dX6_addSpan_46 ?_
  refine lv_topi (fun y7 ey7 => ?_)
  have hy7 : Int32.toInt y7 = Int32.toInt y2 + 1 := by rw [ey7]; exact zi_addc rfl (by decide) (by revert hy2 hy3 h_x_1 hy1; first | omega | (simp only [vp_in_iff, Int32.lt_iff_toInt_lt, Int32.le_iff_toInt_le, Int64.lt_iff_toInt_lt, Int64.le_iff_toInt_le, Int32.toInt_toInt64, ← Int32.toInt_inj, ← Int64.toInt_inj, Int32.reduceToInt, Int64.reduceToInt] <;> omega))
  refine va_iast hx hb hK hP hD hS 1 0 rfl rfl (by revert h_x_1 hy1 hy3 hy7 hy2; first | omega | (simp only [vp_in_iff, Int32.lt_iff_toInt_lt, Int32.le_iff_toInt_le, Int64.lt_iff_toInt_lt, Int64.le_iff_toInt_le, Int32.toInt_toInt64, ← Int32.toInt_inj, ← Int64.toInt_inj, Int32.reduceToInt, Int64.reduceToInt] <;> omega)) dX6_addSpan_47 (fun H locs hP hD hS => ?_)
  have hF8 := zR_upd (j := Int32.toNatClampNeg x_1) (v := y7) h_f_7 (by revert hy2 hy3 hy7 h_x_1 hy1; first | omega | (simp only [vp_in_iff, Int32.lt_iff_toInt_lt, Int32.le_iff_toInt_le, Int64.lt_iff_toInt_lt, Int64.le_iff_toInt_le, Int32.toInt_toInt64, ← Int32.toInt_inj, ← Int64.toInt_inj, Int32.reduceToInt, Int64.reduceToInt] <;> omega))
  obtain ⟨F8, eF8⟩ : ∃ q, q = upd f_7 (Int32.toNatClampNeg x_1) y7 := ⟨_, rfl⟩
  rw [← eF8] at hF8
  have hP : va_P D vwCl [(q_0, .inr (6, [.int x_4, .ref q_5, .ref q_6, .ref q_7, .ref q_8, .ref q_9, .int x_5, .ref q_10, .int x_6, .ref q_11, .ref q_12, .ref q_1, .ref q_2, .ref q_3, .ref q_4])), (q_1, .inl (k 0, 2, .inl F8)), (q_2, .inl (k 0, 120, .inl F4)), (q_3, .inl (k 0, 120, .inl F5)), (q_4, .inl (k 0, 120, .inl F6))] H := by rw [eF8]; exact hP
  have hD : va_D A [(q_0, .inr (6, [.int x_4, .ref q_5, .ref q_6, .ref q_7, .ref q_8, .ref q_9, .int x_5, .ref q_10, .int x_6, .ref q_11, .ref q_12, .ref q_1, .ref q_2, .ref q_3, .ref q_4])), (q_1, .inl (k 0, 2, .inl F8)), (q_2, .inl (k 0, 120, .inl F4)), (q_3, .inl (k 0, 120, .inl F5)), (q_4, .inl (k 0, 120, .inl F6))] := by rw [eF8]; exact hD
  refine lv_aload_n hx hb dX6_addSpan_48 rfl (lv_at hl 1 rfl) ?_
  refine va_get (D := D) (ci := 6) (v := .ref q_1) (C := RX6) (T := TX6) (N := 15) hx hb hts inX6 hown hK hP 0 rfl rfl 11 (by decide) (hts _ kF_X6_36) (fun _ h9 => h9) rfl dX6_addSpan_49 ?_
  refine lv_iload_n hx hb dX6_addSpan_52 rfl (lv_at hl 3 rfl) ?_
  refine va_iald hx hb hK hP 1 0 rfl rfl (by revert h_x_1 hy1 hy3 hy7 hy2; first | omega | (simp only [vp_in_iff, Int32.lt_iff_toInt_lt, Int32.le_iff_toInt_le, Int64.lt_iff_toInt_lt, Int64.le_iff_toInt_le, Int32.toInt_toInt64, ← Int32.toInt_inj, ← Int64.toInt_inj, Int32.reduceToInt, Int64.reduceToInt] <;> omega)) dX6_addSpan_53 ?_
  refine lv_topi (fun y9 ey9 => ?_)
  have hy9 : 0 ≤ Int32.toInt y9 ∧ Int32.toInt y9 ≤ 60 := by rw [ey9]; exact hF8 _
  exact z_iret C0 hr hlk rfl hK hP hD hS (0, fun _ => 0, fun _ => 0, fun _ => 0, fun i => [F8, F4, F5, F6].getD i (fun _ => 0), fun _ => (fun _ => 0), fun _ => (fun _ => none)) ⟨rfl, (by revert hy9; first | omega | (simp only [vp_in_iff, Int32.lt_iff_toInt_lt, Int32.le_iff_toInt_le, Int64.lt_iff_toInt_lt, Int64.le_iff_toInt_le, Int32.toInt_toInt64, ← Int32.toInt_inj, ← Int64.toInt_inj, Int32.reduceToInt, Int64.reduceToInt] <;> omega)), hF8, hF4, hF5, hF6⟩ [0, 1, 2, 3, 4] rfl rfl rfl dX6_addSpan_54
