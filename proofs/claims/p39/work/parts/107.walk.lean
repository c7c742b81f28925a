set_option maxHeartbeats 4000000 in
set_option maxRecDepth 100000 in
theorem s_X6_isWithin_1 (l : Launch) (D : va_G) (k : Nat → ClassId) (T : zTy) (q_0 : Nat) (q_1 : Nat) (q_2 : Nat) (q_3 : Nat) (q_4 : Nat) (q_5 : Nat) (q_6 : Nat) (q_7 : Nat) (q_8 : Nat) (q_9 : Nat) (q_10 : Nat) (q_11 : Nat) (q_12 : Nat) (x_0 : Int32) (x_1 : Int32) (x_2 : Int32) (x_3 : Int32) (x_4 : Int32) (x_5 : Int32) (f_6 : Nat → Int32) (f_7 : Nat → Int32) (f_8 : Nat → Int32) (f_9 : Nat → Int32) (h_x_0 : 0 ≤ Int32.toInt x_0 ∧ Int32.toInt x_0 ≤ 39) (h_x_1 : 0 ≤ Int32.toInt x_1 ∧ Int32.toInt x_1 ≤ 0) (h_x_2 : 0 ≤ Int32.toInt x_2 ∧ Int32.toInt x_2 ≤ 399) (h_x_3 : 0 ≤ Int32.toInt x_3 ∧ Int32.toInt x_3 ≤ 40) (h_x_4 : 0 ≤ Int32.toInt x_4 ∧ Int32.toInt x_4 ≤ 5) (h_x_5 : 0 ≤ Int32.toInt x_5 ∧ Int32.toInt x_5 ≤ 60) (h_f_6 : zR f_6 0 60) (h_f_7 : zR f_7 0 39) (h_f_8 : zR f_8 0 399) (h_f_9 : zR f_9 0 399) : zMi l yX6_isWithin cX6_isWithin 6 (some .boolean) ({ frames := 0, cells := 0, slots := 0, locals := 0 }) D k T [.ref q_0, .int x_0, .int x_1, .int x_2] [(q_0, .inr (6, [.int x_3, .ref q_5, .ref q_6, .ref q_7, .ref q_8, .ref q_9, .int x_4, .ref q_10, .int x_5, .ref q_11, .ref q_12, .ref q_1, .ref q_2, .ref q_3, .ref q_4])), (q_1, .inl (k 0, 2, .inl f_6)), (q_2, .inl (k 0, 120, .inl f_7)), (q_3, .inl (k 0, 120, .inl f_8)), (q_4, .inl (k 0, 120, .inl f_9))] (fun r u => (u.1 = 0 ∧ r = 0) ∨ (u.1 = 1 ∧ r = 1)) (fun u => [(q_0, .inr (6, [.int x_3, .ref q_5, .ref q_6, .ref q_7, .ref q_8, .ref q_9, .int x_4, .ref q_10, .int x_5, .ref q_11, .ref q_12, .ref q_1, .ref q_2, .ref q_3, .ref q_4])), (q_1, .inl (k 0, 2, .inl f_6)), (q_2, .inl (k 0, 120, .inl f_7)), (q_3, .inl (k 0, 120, .inl f_8)), (q_4, .inl (k 0, 120, .inl f_9))]) := by
  refine zMi_of (own := RX6) (by decide +kernel) rfl (Nat.le_of_ble_eq_true rfl) ?_
  intro p e s m args below meth c A ls C0 hr hlk hin hP hD hS hA hK hN hT hl
  have hx := C0.1
  have hb := C0.2.1
  have hml := C0.2.2.1
  have hown := C0.2.2.2.1
  have hts := C0.2.2.2.2
  have hl : lv_has ls 6 [(0, .ref q_0), (1, .int x_0), (2, .int x_1), (3, .int x_2)] := hl
  have hP : va_P D vwCl [(q_0, .inr (6, [.int x_3, .ref q_5, .ref q_6, .ref q_7, .ref q_8, .ref q_9, .int x_4, .ref q_10, .int x_5, .ref q_11, .ref q_12, .ref q_1, .ref q_2, .ref q_3, .ref q_4])), (q_1, .inl (k 0, 2, .inl f_6)), (q_2, .inl (k 0, 120, .inl f_7)), (q_3, .inl (k 0, 120, .inl f_8)), (q_4, .inl (k 0, 120, .inl f_9))] s.heap := hP
  refine lv_iload_n hx hb dX6_isWithin_0 rfl (lv_at hl 2 rfl) ?_
  refine lv_bipush (v := 60) hx hb dX6_isWithin_1 (by decide) ?_
  refine lv_imul hx hb dX6_isWithin_3 ?_
  refine lv_topi (fun y1 ey1 => ?_)
  have hy1 : Int32.toInt y1 = Int32.toInt x_1 * 60 := by rw [ey1]; exact zi_mulc rfl (by decide) (by first | with_reducible exact h_x_1 | (revert h_x_1; first | omega | (simp only [vp_in_iff, Int32.lt_iff_toInt_lt, Int32.le_iff_toInt_le, Int64.lt_iff_toInt_lt, Int64.le_iff_toInt_le, Int32.toInt_toInt64, ← Int32.toInt_inj, ← Int64.toInt_inj, Int32.reduceToInt, Int64.reduceToInt] <;> omega)))
  refine lv_istore (lv' := [(4, .int y1), (0, .ref q_0), (1, .int x_0), (2, .int x_1), (3, .int x_2)]) hx hb dX6_isWithin_4 hl (by decide) rfl (fun ls hl => ?_)
  refine lv_iload hx hb dX6_isWithin_6 (lv_at hl 0 rfl) ?_
  refine lv_istore (lv' := [(5, .int y1), (4, .int y1), (0, .ref q_0), (1, .int x_0), (2, .int x_1), (3, .int x_2)]) hx hb dX6_isWithin_8 hl (by decide) rfl (fun ls hl => ?_)
  have loop11 : ∀ (N12 : Nat) (y10 : Int32) (H : Heap) (locs : List Loc) (ls : Array Slot), Int.toNat (60 - Int32.toInt y10) < N12 → 0 ≤ Int32.toInt y10 ∧ Int32.toInt y10 ≤ 60 → Int32.toInt y10 ≥ Int32.toInt y1 → va_P D vwCl [(q_0, .inr (6, [.int x_3, .ref q_5, .ref q_6, .ref q_7, .ref q_8, .ref q_9, .int x_4, .ref q_10, .int x_5, .ref q_11, .ref q_12, .ref q_1, .ref q_2, .ref q_3, .ref q_4])), (q_1, .inl (k 0, 2, .inl f_6)), (q_2, .inl (k 0, 120, .inl f_7)), (q_3, .inl (k 0, 120, .inl f_8)), (q_4, .inl (k 0, 120, .inl f_9))] H → va_D A [(q_0, .inr (6, [.int x_3, .ref q_5, .ref q_6, .ref q_7, .ref q_8, .ref q_9, .int x_4, .ref q_10, .int x_5, .ref q_11, .ref q_12, .ref q_1, .ref q_2, .ref q_3, .ref q_4])), (q_1, .inl (k 0, 2, .inl f_6)), (q_2, .inl (k 0, 120, .inl f_7)), (q_3, .inl (k 0, 120, .inl f_8)), (q_4, .inl (k 0, 120, .inl f_9))] → va_S A s.heap H locs → lv_has ls 6 [(5, .int y10), (4, .int y1), (0, .ref q_0), (1, .int x_0), (2, .int x_1), (3, .int x_2)] → W p l e { frames := 0, cells := 0, slots := 0, locals := 0 } s m args below meth c H locs 0 0 (MQ below (va_Qi (fun (r : Int32) (u : zS) => (u.1 = 0 ∧ r = 0) ∨ (u.1 = 1 ∧ r = 1)) (zB D k A (fun (u : zS) => [(q_0, .inr (6, [.int x_3, .ref q_5, .ref q_6, .ref q_7, .ref q_8, .ref q_9, .int x_4, .ref q_10, .int x_5, .ref q_11, .ref q_12, .ref q_1, .ref q_2, .ref q_3, .ref q_4])), (q_1, .inl (k 0, 2, .inl f_6)), (q_2, .inl (k 0, 120, .inl f_7)), (q_3, .inl (k 0, 120, .inl f_8)), (q_4, .inl (k 0, 120, .inl f_9))])) A) args s 0 0 A) (F0 m 10 ls []) := by
    intro N12
    induction N12 with
    | zero => intro y10 H locs ls hm; exact absurd hm (Nat.not_lt_zero _)
    | succ N12 ihN12 =>
      intro y10 H locs ls hN12 hy10 ky10 hP hD hS hl
      refine lv_iload hx hb dX6_isWithin_10 (lv_at hl 0 rfl) ?_
      refine lv_iload hx hb dX6_isWithin_12 (lv_at hl 1 rfl) ?_
      refine lv_aload_n hx hb dX6_isWithin_14 rfl (lv_at hl 2 rfl) ?_
      refine va_get (D := D) (ci := 6) (v := .ref q_1) (C := RX6) (T := TX6) (N := 15) hx hb hts inX6 hown hK hP 0 rfl rfl 11 (by decide) (hts _ kF_X6_36) (fun _ h9 => h9) rfl dX6_isWithin_15 ?_
      refine lv_iload_n hx hb dX6_isWithin_18 rfl (lv_at hl 4 rfl) ?_
      refine va_iald hx hb hK hP 1 0 rfl rfl (by revert h_x_1 hy1 ky10 hN12 hy10; first | omega | (simp only [vp_in_iff, Int32.lt_iff_toInt_lt, Int32.le_iff_toInt_le, Int64.lt_iff_toInt_lt, Int64.le_iff_toInt_le, Int32.toInt_toInt64, ← Int32.toInt_inj, ← Int64.toInt_inj, Int32.reduceToInt, Int64.reduceToInt] <;> omega)) dX6_isWithin_19 ?_
      refine lv_topi (fun y13 ey13 => ?_)
      have hy13 : 0 ≤ Int32.toInt y13 ∧ Int32.toInt y13 ≤ 60 := by rw [ey13]; exact h_f_6 _
      refine lv_iadd hx hb dX6_isWithin_20 ?_
      refine lv_topi (fun y14 ey14 => ?_)
      have hy14 : Int32.toInt y14 = Int32.toInt y1 + Int32.toInt y13 := by rw [ey14]; exact zi_addc rfl rfl (by revert h_x_1 hy1 ky10 hy13 hN12 hy10; first | omega | (simp only [vp_in_iff, Int32.lt_iff_toInt_lt, Int32.le_iff_toInt_le, Int64.lt_iff_toInt_lt, Int64.le_iff_toInt_le, Int32.toInt_toInt64, ← Int32.toInt_inj, ← Int64.toInt_inj, Int32.reduceToInt, Int64.reduceToInt] <;> omega))
      refine lv_icmp_ge (tgt := 65) hx hb dX6_isWithin_21 (by decide) (fun c15 => ?_) (fun c15 => ?_)
      · refine lv_iconst (v := 0) hx hb dX6_isWithin_65 (by decide) ?_
        exact z_iret C0 hr hlk rfl hK hP hD hS (0, fun _ => 0, fun _ => 0, fun _ => 0, fun _ => (fun _ => 0), fun _ => (fun _ => 0), fun _ => (fun _ => none)) (Or.inl ⟨rfl, rfl⟩) [0, 1, 2, 3, 4] rfl rfl rfl dX6_isWithin_66
      · refine lv_aload_n hx hb dX6_isWithin_24 rfl (lv_at hl 2 rfl) ?_
        refine va_get (D := D) (ci := 6) (v := .ref q_2) (C := RX6) (T := TX6) (N := 15) hx hb hts inX6 hown hK hP 0 rfl rfl 12 (by decide) (hts _ kF_X6_39) (fun _ h9 => h9) rfl dX6_isWithin_25 ?_
        refine lv_iload hx hb dX6_isWithin_28 (lv_at hl 0 rfl) ?_
        refine va_iald hx hb hK hP 2 0 rfl rfl (by revert hN12 hy10 ky10 hy14 c15 h_x_1 hy1 hy13; first | (simp only [vp_in_iff, Int32.lt_iff_toInt_lt, Int32.le_iff_toInt_le, Int64.lt_iff_toInt_lt, Int64.le_iff_toInt_le, Int32.toInt_toInt64, ← Int32.toInt_inj, ← Int64.toInt_inj, Int32.reduceToInt, Int64.reduceToInt] <;> omega) | omega) dX6_isWithin_30 ?_
        refine lv_topi (fun y16 ey16 => ?_)
        have hy16 : 0 ≤ Int32.toInt y16 ∧ Int32.toInt y16 ≤ 39 := by rw [ey16]; exact h_f_7 _
        refine lv_iload_n hx hb dX6_isWithin_31 rfl (lv_at hl 3 rfl) ?_
        refine lv_icmp_ne (tgt := 59) hx hb dX6_isWithin_32 (by decide) (fun c17 => ?_) (fun c17 => ?_)
        · obtain ⟨y18, ey18⟩ : ∃ q : Int32, q = y10 + 1 := ⟨_, rfl⟩
          have hy18 : Int32.toInt y18 = Int32.toInt y10 + 1 := by rw [ey18]; exact zi_addc rfl (by decide) (by revert hN12 hy10 ky10 hy14 c15 h_x_1 hy1 hy13; first | (simp only [vp_in_iff, Int32.lt_iff_toInt_lt, Int32.le_iff_toInt_le, Int64.lt_iff_toInt_lt, Int64.le_iff_toInt_le, Int32.toInt_toInt64, ← Int32.toInt_inj, ← Int64.toInt_inj, Int32.reduceToInt, Int64.reduceToInt] <;> omega) | omega)
          refine lv_iinc (v := y18) (lv' := [(5, .int y18), (4, .int y1), (0, .ref q_0), (1, .int x_0), (2, .int x_1), (3, .int x_2)]) hx hb dX6_isWithin_59 hl (k := 0) rfl (by rw [ey18]; exact zz_inc (by decide)) (by decide) rfl (fun ls hl => ?_)
          refine lv_goto (tgt := 10) hx hb dX6_isWithin_62 (by decide) ?_
          exact ihN12 y18 _ _ ls (by revert hN12 hy10 ky10 hy14 c15 hy18 h_x_1 hy1 hy13; first | (simp only [vp_in_iff, Int32.lt_iff_toInt_lt, Int32.le_iff_toInt_le, Int64.lt_iff_toInt_lt, Int64.le_iff_toInt_le, Int32.toInt_toInt64, ← Int32.toInt_inj, ← Int64.toInt_inj, Int32.reduceToInt, Int64.reduceToInt] <;> omega) | omega) (by revert hN12 hy10 ky10 hy14 c15 hy18 h_x_1 hy1 hy13; first | (simp only [vp_in_iff, Int32.lt_iff_toInt_lt, Int32.le_iff_toInt_le, Int64.lt_iff_toInt_lt, Int64.le_iff_toInt_le, Int32.toInt_toInt64, ← Int32.toInt_inj, ← Int64.toInt_inj, Int32.reduceToInt, Int64.reduceToInt] <;> omega) | omega) (by revert h_x_1 hy1 hN12 hy10 ky10 hy14 c15 hy18 hy13; first | (simp only [vp_in_iff, Int32.lt_iff_toInt_lt, Int32.le_iff_toInt_le, Int64.lt_iff_toInt_lt, Int64.le_iff_toInt_le, Int32.toInt_toInt64, ← Int32.toInt_inj, ← Int64.toInt_inj, Int32.reduceToInt, Int64.reduceToInt] <;> omega) | omega) hP hD hS (lv_sub hl [0, 1, 2, 3, 4, 5] rfl)
        · refine lv_aload_n hx hb dX6_isWithin_35 rfl (lv_at hl 2 rfl) ?_
          refine va_get (D := D) (ci := 6) (v := .ref q_3) (C := RX6) (T := TX6) (N := 15) hx hb hts inX6 hown hK hP 0 rfl rfl 13 (by decide) (hts _ kF_X6_42) (fun _ h9 => h9) rfl dX6_isWithin_36 ?_
          refine lv_iload hx hb dX6_isWithin_39 (lv_at hl 0 rfl) ?_
          refine va_iald hx hb hK hP 3 0 rfl rfl (by revert hN12 hy10 ky10 hy14 c15 h_x_1 hy1 hy13; first | (simp only [vp_in_iff, Int32.lt_iff_toInt_lt, Int32.le_iff_toInt_le, Int64.lt_iff_toInt_lt, Int64.le_iff_toInt_le, Int32.toInt_toInt64, ← Int32.toInt_inj, ← Int64.toInt_inj, Int32.reduceToInt, Int64.reduceToInt] <;> omega) | omega) dX6_isWithin_41 ?_
          refine lv_topi (fun y19 ey19 => ?_)
          have hy19 : 0 ≤ Int32.toInt y19 ∧ Int32.toInt y19 ≤ 399 := by rw [ey19]; exact h_f_8 _
          refine lv_iload_n hx hb dX6_isWithin_42 rfl (lv_at hl 5 rfl) ?_
          refine lv_icmp_gt (tgt := 59) hx hb dX6_isWithin_43 (by decide) (fun c20 => ?_) (fun c20 => ?_)
          · obtain ⟨y21, ey21⟩ : ∃ q : Int32, q = y10 + 1 := ⟨_, rfl⟩
            have hy21 : Int32.toInt y21 = Int32.toInt y10 + 1 := by rw [ey21]; exact zi_addc rfl (by decide) (by revert hN12 hy10 ky10 hy14 c15 h_x_1 hy1 hy13; first | (simp only [vp_in_iff, Int32.lt_iff_toInt_lt, Int32.le_iff_toInt_le, Int64.lt_iff_toInt_lt, Int64.le_iff_toInt_le, Int32.toInt_toInt64, ← Int32.toInt_inj, ← Int64.toInt_inj, Int32.reduceToInt, Int64.reduceToInt] <;> omega) | omega)
            refine lv_iinc (v := y21) (lv' := [(5, .int y21), (4, .int y1), (0, .ref q_0), (1, .int x_0), (2, .int x_1), (3, .int x_2)]) hx hb dX6_isWithin_59 hl (k := 0) rfl (by rw [ey21]; exact zz_inc (by decide)) (by decide) rfl (fun ls hl => ?_)
            refine lv_goto (tgt := 10) hx hb dX6_isWithin_62 (by decide) ?_
            exact ihN12 y21 _ _ ls (by revert hN12 hy10 ky10 hy14 c15 hy21 h_x_1 hy1 hy13; first | (simp only [vp_in_iff, Int32.lt_iff_toInt_lt, Int32.le_iff_toInt_le, Int64.lt_iff_toInt_lt, Int64.le_iff_toInt_le, Int32.toInt_toInt64, ← Int32.toInt_inj, ← Int64.toInt_inj, Int32.reduceToInt, Int64.reduceToInt] <;> omega) | omega) (by revert hN12 hy10 ky10 hy14 c15 hy21 h_x_1 hy1 hy13; first | (simp only [vp_in_iff, Int32.lt_iff_toInt_lt, Int32.le_iff_toInt_le, Int64.lt_iff_toInt_lt, Int64.le_iff_toInt_le, Int32.toInt_toInt64, ← Int32.toInt_inj, ← Int64.toInt_inj, Int32.reduceToInt, Int64.reduceToInt] <;> omega) | omega) (by revert h_x_1 hy1 hN12 hy10 ky10 hy14 c15 hy21 hy13; first | (simp only [vp_in_iff, Int32.lt_iff_toInt_lt, Int32.le_iff_toInt_le, Int64.lt_iff_toInt_lt, Int64.le_iff_toInt_le, Int32.toInt_toInt64, ← Int32.toInt_inj, ← Int64.toInt_inj, Int32.reduceToInt, Int64.reduceToInt] <;> omega) | omega) hP hD hS (lv_sub hl [0, 1, 2, 3, 4, 5] rfl)
          · refine lv_iload_n hx hb dX6_isWithin_46 rfl (lv_at hl 5 rfl) ?_
            refine lv_aload_n hx hb dX6_isWithin_47 rfl (lv_at hl 2 rfl) ?_
            refine va_get (D := D) (ci := 6) (v := .ref q_4) (C := RX6) (T := TX6) (N := 15) hx hb hts inX6 hown hK hP 0 rfl rfl 14 (by decide) (hts _ kF_X6_45) (fun _ h9 => h9) rfl dX6_isWithin_48 ?_
            refine lv_iload hx hb dX6_isWithin_51 (lv_at hl 0 rfl) ?_
            refine va_iald hx hb hK hP 4 0 rfl rfl (by revert hN12 hy10 ky10 hy14 c15 h_x_1 hy1 hy13; first | (simp only [vp_in_iff, Int32.lt_iff_toInt_lt, Int32.le_iff_toInt_le, Int64.lt_iff_toInt_lt, Int64.le_iff_toInt_le, Int32.toInt_toInt64, ← Int32.toInt_inj, ← Int64.toInt_inj, Int32.reduceToInt, Int64.reduceToInt] <;> omega) | omega) dX6_isWithin_53 ?_
            refine lv_topi (fun y22 ey22 => ?_)
            have hy22 : 0 ≤ Int32.toInt y22 ∧ Int32.toInt y22 ≤ 399 := by rw [ey22]; exact h_f_9 _
            refine lv_icmp_gt (tgt := 59) hx hb dX6_isWithin_54 (by decide) (fun c23 => ?_) (fun c23 => ?_)
            · obtain ⟨y24, ey24⟩ : ∃ q : Int32, q = y10 + 1 := ⟨_, rfl⟩
              have hy24 : Int32.toInt y24 = Int32.toInt y10 + 1 := by rw [ey24]; exact zi_addc rfl (by decide) (by revert hN12 hy10 ky10 hy14 c15 h_x_1 hy1 hy13; first | (simp only [vp_in_iff, Int32.lt_iff_toInt_lt, Int32.le_iff_toInt_le, Int64.lt_iff_toInt_lt, Int64.le_iff_toInt_le, Int32.toInt_toInt64, ← Int32.toInt_inj, ← Int64.toInt_inj, Int32.reduceToInt, Int64.reduceToInt] <;> omega) | omega)
              refine lv_iinc (v := y24) (lv' := [(5, .int y24), (4, .int y1), (0, .ref q_0), (1, .int x_0), (2, .int x_1), (3, .int x_2)]) hx hb dX6_isWithin_59 hl (k := 0) rfl (by rw [ey24]; exact zz_inc (by decide)) (by decide) rfl (fun ls hl => ?_)
              refine lv_goto (tgt := 10) hx hb dX6_isWithin_62 (by decide) ?_
              exact ihN12 y24 _ _ ls (by revert hN12 hy10 ky10 hy14 c15 hy24 h_x_1 hy1 hy13; first | (simp only [vp_in_iff, Int32.lt_iff_toInt_lt, Int32.le_iff_toInt_le, Int64.lt_iff_toInt_lt, Int64.le_iff_toInt_le, Int32.toInt_toInt64, ← Int32.toInt_inj, ← Int64.toInt_inj, Int32.reduceToInt, Int64.reduceToInt] <;> omega) | omega) (by revert hN12 hy10 ky10 hy14 c15 hy24 h_x_1 hy1 hy13; first | (simp only [vp_in_iff, Int32.lt_iff_toInt_lt, Int32.le_iff_toInt_le, Int64.lt_iff_toInt_lt, Int64.le_iff_toInt_le, Int32.toInt_toInt64, ← Int32.toInt_inj, ← Int64.toInt_inj, Int32.reduceToInt, Int64.reduceToInt] <;> omega) | omega) (by revert h_x_1 hy1 hN12 hy10 ky10 hy14 c15 hy24 hy13; first | (simp only [vp_in_iff, Int32.lt_iff_toInt_lt, Int32.le_iff_toInt_le, Int64.lt_iff_toInt_lt, Int64.le_iff_toInt_le, Int32.toInt_toInt64, ← Int32.toInt_inj, ← Int64.toInt_inj, Int32.reduceToInt, Int64.reduceToInt] <;> omega) | omega) hP hD hS (lv_sub hl [0, 1, 2, 3, 4, 5] rfl)
            · refine lv_iconst (v := 1) hx hb dX6_isWithin_57 (by decide) ?_
              exact z_iret C0 hr hlk rfl hK hP hD hS (1, fun _ => 0, fun _ => 0, fun _ => 0, fun _ => (fun _ => 0), fun _ => (fun _ => 0), fun _ => (fun _ => none)) (Or.inr (⟨rfl, rfl⟩)) [0, 1, 2, 3, 4] rfl rfl rfl dX6_isWithin_58
  exact loop11 _ y1 _ _ _ (Nat.lt_succ_self _) (by revert h_x_1 hy1; first | omega | (simp only [vp_in_iff, Int32.lt_iff_toInt_lt, Int32.le_iff_toInt_le, Int64.lt_iff_toInt_lt, Int64.le_iff_toInt_le, Int32.toInt_toInt64, ← Int32.toInt_inj, ← Int64.toInt_inj, Int32.reduceToInt, Int64.reduceToInt] <;> omega)) (Int.le_refl _) hP hD hS (lv_sub hl [0, 1, 2, 3, 4, 5] rfl)

set_option maxHeartbeats 4000000 in
set_option maxRecDepth 100000 in
theorem s_X6_isWithin_2 (l : Launch) (D : va_G) (k : Nat → ClassId) (T : zTy) (q_0 : Nat) (q_1 : Nat) (q_2 : Nat) (q_3 : Nat) (q_4 : Nat) (q_5 : Nat) (q_6 : Nat) (q_7 : Nat) (q_8 : Nat) (q_9 : Nat) (q_10 : Nat) (q_11 : Nat) (q_12 : Nat) (x_0 : Int32) (x_1 : Int32) (x_2 : Int32) (x_3 : Int32) (x_4 : Int32) (x_5 : Int32) (f_6 : Nat → Int32) (f_7 : Nat → Int32) (f_8 : Nat → Int32) (f_9 : Nat → Int32) (h_x_0 : 0 ≤ Int32.toInt x_0 ∧ Int32.toInt x_0 ≤ 39) (h_x_1 : 1 ≤ Int32.toInt x_1 ∧ Int32.toInt x_1 ≤ 1) (h_x_2 : 0 ≤ Int32.toInt x_2 ∧ Int32.toInt x_2 ≤ 399) (h_x_3 : 0 ≤ Int32.toInt x_3 ∧ Int32.toInt x_3 ≤ 40) (h_x_4 : 0 ≤ Int32.toInt x_4 ∧ Int32.toInt x_4 ≤ 5) (h_x_5 : 0 ≤ Int32.toInt x_5 ∧ Int32.toInt x_5 ≤ 60) (h_f_6 : zR f_6 0 60) (h_f_7 : zR f_7 0 39) (h_f_8 : zR f_8 0 399) (h_f_9 : zR f_9 0 399) : zMi l yX6_isWithin cX6_isWithin 6 (some .boolean) ({ frames := 0, cells := 0, slots := 0, locals := 0 }) D k T [.ref q_0, .int x_0, .int x_1, .int x_2] [(q_0, .inr (6, [.int x_3, .ref q_5, .ref q_6, .ref q_7, .ref q_8, .ref q_9, .int x_4, .ref q_10, .int x_5, .ref q_11, .ref q_12, .ref q_1, .ref q_2, .ref q_3, .ref q_4])), (q_1, .inl (k 0, 2, .inl f_6)), (q_2, .inl (k 0, 120, .inl f_7)), (q_3, .inl (k 0, 120, .inl f_8)), (q_4, .inl (k 0, 120, .inl f_9))] (fun r u => (u.1 = 0 ∧ r = 0) ∨ (u.1 = 1 ∧ r = 1)) (fun u => [(q_0, .inr (6, [.int x_3, .ref q_5, .ref q_6, .ref q_7, .ref q_8, .ref q_9, .int x_4, .ref q_10, .int x_5, .ref q_11, .ref q_12, .ref q_1, .ref q_2, .ref q_3, .ref q_4])), (q_1, .inl (k 0, 2, .inl f_6)), (q_2, .inl (k 0, 120, .inl f_7)), (q_3, .inl (k 0, 120, .inl f_8)), (q_4, .inl (k 0, 120, .inl f_9))]) := by
  refine zMi_of (own := RX6) (by decide +kernel) rfl (Nat.le_of_ble_eq_true rfl) ?_
  intro p e s m args below meth c A ls C0 hr hlk hin hP hD hS hA hK hN hT hl
  have hx := C0.1
  have hb := C0.2.1
  have hml := C0.2.2.1
  have hown := C0.2.2.2.1
  have hts := C0.2.2.2.2
  have hl : lv_has ls 6 [(0, .ref q_0), (1, .int x_0), (2, .int x_1), (3, .int x_2)] := hl
  have hP : va_P D vwCl [(q_0, .inr (6, [.int x_3, .ref q_5, .ref q_6, .ref q_7, .ref q_8, .ref q_9, .int x_4, .ref q_10, .int x_5, .ref q_11, .ref q_12, .ref q_1, .ref q_2, .ref q_3, .ref q_4])), (q_1, .inl (k 0, 2, .inl f_6)), (q_2, .inl (k 0, 120, .inl f_7)), (q_3, .inl (k 0, 120, .inl f_8)), (q_4, .inl (k 0, 120, .inl f_9))] s.heap := hP
  refine lv_iload_n hx hb dX6_isWithin_0 rfl (lv_at hl 2 rfl) ?_
  refine lv_bipush (v := 60) hx hb dX6_isWithin_1 (by decide) ?_
  refine lv_imul hx hb dX6_isWithin_3 ?_
  refine lv_topi (fun y1 ey1 => ?_)
  have hy1 : Int32.toInt y1 = Int32.toInt x_1 * 60 := by rw [ey1]; exact zi_mulc rfl (by decide) (by first | with_reducible exact h_x_1 | (revert h_x_1; first | omega | (simp only [vp_in_iff, Int32.lt_iff_toInt_lt, Int32.le_iff_toInt_le, Int64.lt_iff_toInt_lt, Int64.le_iff_toInt_le, Int32.toInt_toInt64, ← Int32.toInt_inj, ← Int64.toInt_inj, Int32.reduceToInt, Int64.reduceToInt] <;> omega)))
  refine lv_istore (lv' := [(4, .int y1), (0, .ref q_0), (1, .int x_0), (2, .int x_1), (3, .int x_2)]) hx hb dX6_isWithin_4 hl (by decide) rfl (fun ls hl => ?_)
  refine lv_iload hx hb dX6_isWithin_6 (lv_at hl 0 rfl) ?_
  refine lv_istore (lv' := [(5, .int y1), (4, .int y1), (0, .ref q_0), (1, .int x_0), (2, .int x_1), (3, .int x_2)]) hx hb dX6_isWithin_8 hl (by decide) rfl (fun ls hl => ?_)
  have loop9 : ∀ (N10 : Nat) (y8 : Int32) (H : Heap) (locs : List Loc) (ls : Array Slot), Int.toNat (120 - Int32.toInt y8) < N10 → 60 ≤ Int32.toInt y8 ∧ Int32.toInt y8 ≤ 120 → Int32.toInt y8 ≥ Int32.toInt y1 → va_P D vwCl [(q_0, .inr (6, [.int x_3, .ref q_5, .ref q_6, .ref q_7, .ref q_8, .ref q_9, .int x_4, .ref q_10, .int x_5, .ref q_11, .ref q_12, .ref q_1, .ref q_2, .ref q_3, .ref q_4])), (q_1, .inl (k 0, 2, .inl f_6)), (q_2, .inl (k 0, 120, .inl f_7)), (q_3, .inl (k 0, 120, .inl f_8)), (q_4, .inl (k 0, 120, .inl f_9))] H → va_D A [(q_0, .inr (6, [.int x_3, .ref q_5, .ref q_6, .ref q_7, .ref q_8, .ref q_9, .int x_4, .ref q_10, .int x_5, .ref q_11, .ref q_12, .ref q_1, .ref q_2, .ref q_3, .ref q_4])), (q_1, .inl (k 0, 2, .inl f_6)), (q_2, .inl (k 0, 120, .inl f_7)), (q_3, .inl (k 0, 120, .inl f_8)), (q_4, .inl (k 0, 120, .inl f_9))] → va_S A s.heap H locs → lv_has ls 6 [(5, .int y8), (4, .int y1), (0, .ref q_0), (1, .int x_0), (2, .int x_1), (3, .int x_2)] → W p l e { frames := 0, cells := 0, slots := 0, locals := 0 } s m args below meth c H locs 0 0 (MQ below (va_Qi (fun (r : Int32) (u : zS) => (u.1 = 0 ∧ r = 0) ∨ (u.1 = 1 ∧ r = 1)) (zB D k A (fun (u : zS) => [(q_0, .inr (6, [.int x_3, .ref q_5, .ref q_6, .ref q_7, .ref q_8, .ref q_9, .int x_4, .ref q_10, .int x_5, .ref q_11, .ref q_12, .ref q_1, .ref q_2, .ref q_3, .ref q_4])), (q_1, .inl (k 0, 2, .inl f_6)), (q_2, .inl (k 0, 120, .inl f_7)), (q_3, .inl (k 0, 120, .inl f_8)), (q_4, .inl (k 0, 120, .inl f_9))])) A) args s 0 0 A) (F0 m 10 ls []) := by
    intro N10
    induction N10 with
    | zero => intro y8 H locs ls hm; exact absurd hm (Nat.not_lt_zero _)
    | succ N10 ihN10 =>
      intro y8 H locs ls hN10 hy8 ky8 hP hD hS hl
      refine lv_iload hx hb dX6_isWithin_10 (lv_at hl 0 rfl) ?_
      refine lv_iload hx hb dX6_isWithin_12 (lv_at hl 1 rfl) ?_
      refine lv_aload_n hx hb dX6_isWithin_14 rfl (lv_at hl 2 rfl) ?_
      refine va_get (D := D) (ci := 6) (v := .ref q_1) (C := RX6) (T := TX6) (N := 15) hx hb hts inX6 hown hK hP 0 rfl rfl 11 (by decide) (hts _ kF_X6_36) (fun _ h9 => h9) rfl dX6_isWithin_15 ?_
      refine lv_iload_n hx hb dX6_isWithin_18 rfl (lv_at hl 4 rfl) ?_
      refine va_iald hx hb hK hP 1 0 rfl rfl (by revert h_x_1 hy1 ky8 hN10 hy8; first | omega | (simp only [vp_in_iff, Int32.lt_iff_toInt_lt, Int32.le_iff_toInt_le, Int64.lt_iff_toInt_lt, Int64.le_iff_toInt_le, Int32.toInt_toInt64, ← Int32.toInt_inj, ← Int64.toInt_inj, Int32.reduceToInt, Int64.reduceToInt] <;> omega)) dX6_isWithin_19 ?_
      refine lv_topi (fun y11 ey11 => ?_)
      have hy11 : 0 ≤ Int32.toInt y11 ∧ Int32.toInt y11 ≤ 60 := by rw [ey11]; exact h_f_6 _
      refine lv_iadd hx hb dX6_isWithin_20 ?_
      refine lv_topi (fun y12 ey12 => ?_)
      have hy12 : Int32.toInt y12 = Int32.toInt y1 + Int32.toInt y11 := by rw [ey12]; exact zi_addc rfl rfl (by revert h_x_1 hy1 ky8 hy11 hN10 hy8; first | omega | (simp only [vp_in_iff, Int32.lt_iff_toInt_lt, Int32.le_iff_toInt_le, Int64.lt_iff_toInt_lt, Int64.le_iff_toInt_le, Int32.toInt_toInt64, ← Int32.toInt_inj, ← Int64.toInt_inj, Int32.reduceToInt, Int64.reduceToInt] <;> omega))
      refine lv_icmp_ge (tgt := 65) hx hb dX6_isWithin_21 (by decide) (fun c13 => ?_) (fun c13 => ?_)
      · refine lv_iconst (v := 0) hx hb dX6_isWithin_65 (by decide) ?_
        exact z_iret C0 hr hlk rfl hK hP hD hS (0, fun _ => 0, fun _ => 0, fun _ => 0, fun _ => (fun _ => 0), fun _ => (fun _ => 0), fun _ => (fun _ => none)) (Or.inl ⟨rfl, rfl⟩) [0, 1, 2, 3, 4] rfl rfl rfl dX6_isWithin_66
      · refine lv_aload_n hx hb dX6_isWithin_24 rfl (lv_at hl 2 rfl) ?_
        refine va_get (D := D) (ci := 6) (v := .ref q_2) (C := RX6) (T := TX6) (N := 15) hx hb hts inX6 hown hK hP 0 rfl rfl 12 (by decide) (hts _ kF_X6_39) (fun _ h9 => h9) rfl dX6_isWithin_25 ?_
        refine lv_iload hx hb dX6_isWithin_28 (lv_at hl 0 rfl) ?_
        refine va_iald hx hb hK hP 2 0 rfl rfl (by revert hN10 hy8 ky8 hy12 c13 h_x_1 hy1 hy11; first | (simp only [vp_in_iff, Int32.lt_iff_toInt_lt, Int32.le_iff_toInt_le, Int64.lt_iff_toInt_lt, Int64.le_iff_toInt_le, Int32.toInt_toInt64, ← Int32.toInt_inj, ← Int64.toInt_inj, Int32.reduceToInt, Int64.reduceToInt] <;> omega) | omega) dX6_isWithin_30 ?_
        refine lv_topi (fun y14 ey14 => ?_)
        have hy14 : 0 ≤ Int32.toInt y14 ∧ Int32.toInt y14 ≤ 39 := by rw [ey14]; exact h_f_7 _
        refine lv_iload_n hx hb dX6_isWithin_31 rfl (lv_at hl 3 rfl) ?_
        refine lv_icmp_ne (tgt := 59) hx hb dX6_isWithin_32 (by decide) (fun c15 => ?_) (fun c15 => ?_)
        · obtain ⟨y16, ey16⟩ : ∃ q : Int32, q = y8 + 1 := ⟨_, rfl⟩
          have hy16 : Int32.toInt y16 = Int32.toInt y8 + 1 := by rw [ey16]; exact zi_addc rfl (by decide) (by revert hN10 hy8 ky8 hy12 c13 h_x_1 hy1 hy11; first | (simp only [vp_in_iff, Int32.lt_iff_toInt_lt, Int32.le_iff_toInt_le, Int64.lt_iff_toInt_lt, Int64.le_iff_toInt_le, Int32.toInt_toInt64, ← Int32.toInt_inj, ← Int64.toInt_inj, Int32.reduceToInt, Int64.reduceToInt] <;> omega) | omega)
          refine lv_iinc (v := y16) (lv' := [(5, .int y16), (4, .int y1), (0, .ref q_0), (1, .int x_0), (2, .int x_1), (3, .int x_2)]) hx hb dX6_isWithin_59 hl (k := 0) rfl (by rw [ey16]; exact zz_inc (by decide)) (by decide) rfl (fun ls hl => ?_)
          refine lv_goto (tgt := 10) hx hb dX6_isWithin_62 (by decide) ?_
          exact ihN10 y16 _ _ ls (by revert hN10 hy8 ky8 hy12 c13 hy16 h_x_1 hy1 hy11; first | (simp only [vp_in_iff, Int32.lt_iff_toInt_lt, Int32.le_iff_toInt_le, Int64.lt_iff_toInt_lt, Int64.le_iff_toInt_le, Int32.toInt_toInt64, ← Int32.toInt_inj, ← Int64.toInt_inj, Int32.reduceToInt, Int64.reduceToInt] <;> omega) | omega) (by revert hN10 hy8 ky8 hy12 c13 hy16 h_x_1 hy1 hy11; first | (simp only [vp_in_iff, Int32.lt_iff_toInt_lt, Int32.le_iff_toInt_le, Int64.lt_iff_toInt_lt, Int64.le_iff_toInt_le, Int32.toInt_toInt64, ← Int32.toInt_inj, ← Int64.toInt_inj, Int32.reduceToInt, Int64.reduceToInt] <;> omega) | omega) (by revert h_x_1 hy1 hN10 hy8 ky8 hy12 c13 hy16 hy11; first | (simp only [vp_in_iff, Int32.lt_iff_toInt_lt, Int32.le_iff_toInt_le, Int64.lt_iff_toInt_lt, Int64.le_iff_toInt_le, Int32.toInt_toInt64, ← Int32.toInt_inj, ← Int64.toInt_inj, Int32.reduceToInt, Int64.reduceToInt] <;> omega) | omega) hP hD hS (lv_sub hl [0, 1, 2, 3, 4, 5] rfl)
        · refine lv_aload_n hx hb dX6_isWithin_35 rfl (lv_at hl 2 rfl) ?_
          refine va_get (D := D) (ci := 6) (v := .ref q_3) (C := RX6) (T := TX6) (N := 15) hx hb hts inX6 hown hK hP 0 rfl rfl 13 (by decide) (hts _ kF_X6_42) (fun _ h9 => h9) rfl dX6_isWithin_36 ?_
          refine lv_iload hx hb dX6_isWithin_39 (lv_at hl 0 rfl) ?_
          refine va_iald hx hb hK hP 3 0 rfl rfl (by revert hN10 hy8 ky8 hy12 c13 h_x_1 hy1 hy11; first | (simp only [vp_in_iff, Int32.lt_iff_toInt_lt, Int32.le_iff_toInt_le, Int64.lt_iff_toInt_lt, Int64.le_iff_toInt_le, Int32.toInt_toInt64, ← Int32.toInt_inj, ← Int64.toInt_inj, Int32.reduceToInt, Int64.reduceToInt] <;> omega) | omega) dX6_isWithin_41 ?_
          refine lv_topi (fun y17 ey17 => ?_)
          have hy17 : 0 ≤ Int32.toInt y17 ∧ Int32.toInt y17 ≤ 399 := by rw [ey17]; exact h_f_8 _
          refine lv_iload_n hx hb dX6_isWithin_42 rfl (lv_at hl 5 rfl) ?_
          refine lv_icmp_gt (tgt := 59) hx hb dX6_isWithin_43 (by decide) (fun c18 => ?_) (fun c18 => ?_)
          · obtain ⟨y19, ey19⟩ : ∃ q : Int32, q = y8 + 1 := ⟨_, rfl⟩
            have hy19 : Int32.toInt y19 = Int32.toInt y8 + 1 := by rw [ey19]; exact zi_addc rfl (by decide) (by revert hN10 hy8 ky8 hy12 c13 h_x_1 hy1 hy11; first | (simp only [vp_in_iff, Int32.lt_iff_toInt_lt, Int32.le_iff_toInt_le, Int64.lt_iff_toInt_lt, Int64.le_iff_toInt_le, Int32.toInt_toInt64, ← Int32.toInt_inj, ← Int64.toInt_inj, Int32.reduceToInt, Int64.reduceToInt] <;> omega) | omega)
            refine lv_iinc (v := y19) (lv' := [(5, .int y19), (4, .int y1), (0, .ref q_0), (1, .int x_0), (2, .int x_1), (3, .int x_2)]) hx hb dX6_isWithin_59 hl (k := 0) rfl (by rw [ey19]; exact zz_inc (by decide)) (by decide) rfl (fun ls hl => ?_)
            refine lv_goto (tgt := 10) hx hb dX6_isWithin_62 (by decide) ?_
            exact ihN10 y19 _ _ ls (by revert hN10 hy8 ky8 hy12 c13 hy19 h_x_1 hy1 hy11; first | (simp only [vp_in_iff, Int32.lt_iff_toInt_lt, Int32.le_iff_toInt_le, Int64.lt_iff_toInt_lt, Int64.le_iff_toInt_le, Int32.toInt_toInt64, ← Int32.toInt_inj, ← Int64.toInt_inj, Int32.reduceToInt, Int64.reduceToInt] <;> omega) | omega) (by revert hN10 hy8 ky8 hy12 c13 hy19 h_x_1 hy1 hy11; first | (simp only [vp_in_iff, Int32.lt_iff_toInt_lt, Int32.le_iff_toInt_le, Int64.lt_iff_toInt_lt, Int64.le_iff_toInt_le, Int32.toInt_toInt64, ← Int32.toInt_inj, ← Int64.toInt_inj, Int32.reduceToInt, Int64.reduceToInt] <;> omega) | omega) (by revert h_x_1 hy1 hN10 hy8 ky8 hy12 c13 hy19 hy11; first | (simp only [vp_in_iff, Int32.lt_iff_toInt_lt, Int32.le_iff_toInt_le, Int64.lt_iff_toInt_lt, Int64.le_iff_toInt_le, Int32.toInt_toInt64, ← Int32.toInt_inj, ← Int64.toInt_inj, Int32.reduceToInt, Int64.reduceToInt] <;> omega) | omega) hP hD hS (lv_sub hl [0, 1, 2, 3, 4, 5] rfl)
          · refine lv_iload_n hx hb dX6_isWithin_46 rfl (lv_at hl 5 rfl) ?_
            refine lv_aload_n hx hb dX6_isWithin_47 rfl (lv_at hl 2 rfl) ?_
            refine va_get (D := D) (ci := 6) (v := .ref q_4) (C := RX6) (T := TX6) (N := 15) hx hb hts inX6 hown hK hP 0 rfl rfl 14 (by decide) (hts _ kF_X6_45) (fun _ h9 => h9) rfl dX6_isWithin_48 ?_
            refine lv_iload hx hb dX6_isWithin_51 (lv_at hl 0 rfl) ?_
            refine va_iald hx hb hK hP 4 0 rfl rfl (by revert hN10 hy8 ky8 hy12 c13 h_x_1 hy1 hy11; first | (simp only [vp_in_iff, Int32.lt_iff_toInt_lt, Int32.le_iff_toInt_le, Int64.lt_iff_toInt_lt, Int64.le_iff_toInt_le, Int32.toInt_toInt64, ← Int32.toInt_inj, ← Int64.toInt_inj, Int32.reduceToInt, Int64.reduceToInt] <;> omega) | omega) dX6_isWithin_53 ?_
            refine lv_topi (fun y20 ey20 => ?_)
            have hy20 : 0 ≤ Int32.toInt y20 ∧ Int32.toInt y20 ≤ 399 := by rw [ey20]; exact h_f_9 _
            refine lv_icmp_gt (tgt := 59) hx hb dX6_isWithin_54 (by decide) (fun c21 => ?_) (fun c21 => ?_)
            · obtain ⟨y22, ey22⟩ : ∃ q : Int32, q = y8 + 1 := ⟨_, rfl⟩
              have hy22 : Int32.toInt y22 = Int32.toInt y8 + 1 := by rw [ey22]; exact zi_addc rfl (by decide) (by revert hN10 hy8 ky8 hy12 c13 h_x_1 hy1 hy11; first | (simp only [vp_in_iff, Int32.lt_iff_toInt_lt, Int32.le_iff_toInt_le, Int64.lt_iff_toInt_lt, Int64.le_iff_toInt_le, Int32.toInt_toInt64, ← Int32.toInt_inj, ← Int64.toInt_inj, Int32.reduceToInt, Int64.reduceToInt] <;> omega) | omega)
              refine lv_iinc (v := y22) (lv' := [(5, .int y22), (4, .int y1), (0, .ref q_0), (1, .int x_0), (2, .int x_1), (3, .int x_2)]) hx hb dX6_isWithin_59 hl (k := 0) rfl (by rw [ey22]; exact zz_inc (by decide)) (by decide) rfl (fun ls hl => ?_)
              refine lv_goto (tgt := 10) hx hb dX6_isWithin_62 (by decide) ?_
              exact ihN10 y22 _ _ ls (by revert hN10 hy8 ky8 hy12 c13 hy22 h_x_1 hy1 hy11; first | (simp only [vp_in_iff, Int32.lt_iff_toInt_lt, Int32.le_iff_toInt_le, Int64.lt_iff_toInt_lt, Int64.le_iff_toInt_le, Int32.toInt_toInt64, ← Int32.toInt_inj, ← Int64.toInt_inj, Int32.reduceToInt, Int64.reduceToInt] <;> omega) | omega) (by revert hN10 hy8 ky8 hy12 c13 hy22 h_x_1 hy1 hy11; first | (simp only [vp_in_iff, Int32.lt_iff_toInt_lt, Int32.le_iff_toInt_le, Int64.lt_iff_toInt_lt, Int64.le_iff_toInt_le, Int32.toInt_toInt64, ← Int32.toInt_inj, ← Int64.toInt_inj, Int32.reduceToInt, Int64.reduceToInt] <;> omega) | omega) (by revert h_x_1 hy1 hN10 hy8 ky8 hy12 c13 hy22 hy11; first | (simp only [vp_in_iff, Int32.lt_iff_toInt_lt, Int32.le_iff_toInt_le, Int64.lt_iff_toInt_lt, Int64.le_iff_toInt_le, Int32.toInt_toInt64, ← Int32.toInt_inj, ← Int64.toInt_inj, Int32.reduceToInt, Int64.reduceToInt] <;> omega) | omega) hP hD hS (lv_sub hl [0, 1, 2, 3, 4, 5] rfl)
            · refine lv_iconst (v := 1) hx hb dX6_isWithin_57 (by decide) ?_
              exact z_iret C0 hr hlk rfl hK hP hD hS (1, fun _ => 0, fun _ => 0, fun _ => 0, fun _ => (fun _ => 0), fun _ => (fun _ => 0), fun _ => (fun _ => none)) (Or.inr (⟨rfl, rfl⟩)) [0, 1, 2, 3, 4] rfl rfl rfl dX6_isWithin_58
  exact loop9 _ y1 _ _ _ (Nat.lt_succ_self _) (by revert h_x_1 hy1; first | omega | (simp only [vp_in_iff, Int32.lt_iff_toInt_lt, Int32.le_iff_toInt_le, Int64.lt_iff_toInt_lt, Int64.le_iff_toInt_le, Int32.toInt_toInt64, ← Int32.toInt_inj, ← Int64.toInt_inj, Int32.reduceToInt, Int64.reduceToInt] <;> omega)) (Int.le_refl _) hP hD hS (lv_sub hl [0, 1, 2, 3, 4, 5] rfl)

set_option maxHeartbeats 4000000 in
set_option maxRecDepth 100000 in
theorem s_X1_wordsValue_1 (l : Launch) (D : va_G) (k : Nat → ClassId) (T : zTy) (q_0 : Nat) (q_1 : Nat) (q_2 : Nat) (q_3 : Nat) (q_4 : Nat) (q_5 : Nat) (q_6 : Nat) (q_7 : Nat) (q_8 : Nat) (q_9 : Nat) (q_10 : Nat) (q_11 : Nat) (q_12 : Nat) (q_13 : Nat) (q_14 : Nat) (q_15 : Nat) (q_16 : Nat) (q_17 : Nat) (q_18 : Nat) (q_19 : Nat) (q_20 : Nat) (q_21 : Nat) (q_22 : Nat) (q_23 : Nat) (q_24 : Nat) (q_25 : Nat) (q_26 : Nat) (x_0 : Int32) (x_1 : Int32) (x_2 : Int32) (x_3 : Int32) (x_4 : Int32) (x_5 : Int32) (x_6 : Int32) (x_7 : Int32) (x_8 : Int32) (x_9 : Int32) (x_10 : Int32) (x_11 : Int32) (x_12 : Int32) (x_13 : Int32) (x_14 : Int32) (f_15 : Nat → Int32) (f_16 : Nat → Int32) (f_17 : Nat → Int32) (f_18 : Nat → Int32) (f_19 : Nat → Int32) (f_20 : Nat → Int32) (f_21 : Nat → Int32) (f_22 : Nat → Int32) (f_23 : Nat → Int32) (f_24 : Nat → Int32) (f_25 : Nat → Int32) (h_x_1 : 0 ≤ Int32.toInt x_1 ∧ Int32.toInt x_1 ≤ 39) (h_x_2 : 0 ≤ Int32.toInt x_2 ∧ Int32.toInt x_2 ≤ 799) (h_x_5 : 0 ≤ Int32.toInt x_5 ∧ Int32.toInt x_5 ≤ 1) (h_x_11 : 0 ≤ Int32.toInt x_11 ∧ Int32.toInt x_11 ≤ 400) (h_x_12 : 0 ≤ Int32.toInt x_12 ∧ Int32.toInt x_12 ≤ 40) (h_x_13 : 0 ≤ Int32.toInt x_13 ∧ Int32.toInt x_13 ≤ 5) (h_x_14 : 0 ≤ Int32.toInt x_14 ∧ Int32.toInt x_14 ≤ 60) (h_f_15 : zR f_15 0 18) (h_f_18 : zR f_18 0 1) (h_f_19 : zR f_19 0 60) (h_f_20 : zR f_20 0 39) (h_f_21 : zR f_21 0 399) (h_f_22 : zR f_22 0 399) (h_f_23 : zR f_23 (-1) 7) (h_f_24 : zR f_24 0 7) (h_f_25 : zR f_25 0 799) : zMi l yX1_wordsValue cX1_wordsValue 4 (some .int) ({ frames := 1, cells := 0, slots := 0, locals := 40 }) D k T [.ref q_0, .int x_0] [(q_0, .inr (1, [.ref q_1, .ref q_14, .ref q_15, .ref q_16, .ref q_4, .ref q_5, .ref q_17, .ref q_18, .int x_1, .int x_2, .int x_3, .int x_4, .int x_5, .int x_6, .int x_7, .int x_8, .int x_9, .int x_10, .int x_11])), (q_1, .inr (3, [.ref q_2, .ref q_19, .ref q_20, .ref q_21, .ref q_22, .ref q_23])), (q_2, .inr (6, [.int x_12, .ref q_3, .ref q_6, .ref q_11, .ref q_24, .ref q_25, .int x_13, .ref q_26, .int x_14, .ref q_12, .ref q_13, .ref q_7, .ref q_8, .ref q_9, .ref q_10])), (q_3, .inl (k 0, 40, .inl f_15)), (q_4, .inl (k 0, 401, .inl f_16)), (q_5, .inl (k 0, 401, .inl f_17)), (q_6, .inl (k 0, 40, .inl f_18)), (q_7, .inl (k 0, 2, .inl f_19)), (q_8, .inl (k 0, 120, .inl f_20)), (q_9, .inl (k 0, 120, .inl f_21)), (q_10, .inl (k 0, 120, .inl f_22)), (q_11, .inl (k 0, 40, .inl f_23)), (q_12, .inl (k 0, 60, .inl f_24)), (q_13, .inl (k 0, 60, .inl f_25))] (fun r u => u.1 = 0) (fun u => [(q_0, .inr (1, [.ref q_1, .ref q_14, .ref q_15, .ref q_16, .ref q_4, .ref q_5, .ref q_17, .ref q_18, .int x_1, .int x_2, .int x_3, .int x_4, .int x_5, .int x_6, .int x_7, .int x_8, .int x_9, .int x_10, .int x_11])), (q_1, .inr (3, [.ref q_2, .ref q_19, .ref q_20, .ref q_21, .ref q_22, .ref q_23])), (q_2, .inr (6, [.int x_12, .ref q_3, .ref q_6, .ref q_11, .ref q_24, .ref q_25, .int x_13, .ref q_26, .int x_14, .ref q_12, .ref q_13, .ref q_7, .ref q_8, .ref q_9, .ref q_10])), (q_3, .inl (k 0, 40, .inl f_15)), (q_4, .inl (k 0, 401, .inl f_16)), (q_5, .inl (k 0, 401, .inl f_17)), (q_6, .inl (k 0, 40, .inl f_18)), (q_7, .inl (k 0, 2, .inl f_19)), (q_8, .inl (k 0, 120, .inl f_20)), (q_9, .inl (k 0, 120, .inl f_21)), (q_10, .inl (k 0, 120, .inl f_22)), (q_11, .inl (k 0, 40, .inl f_23)), (q_12, .inl (k 0, 60, .inl f_24)), (q_13, .inl (k 0, 60, .inl f_25))]) := by
  refine zMi_of (own := RX1) (by decide +kernel) rfl (Nat.le_of_ble_eq_true rfl) ?_
  intro p e s m args below meth c A ls C0 hr hlk hin hP hD hS hA hK hN hT hl
  have hx := C0.1
  have hb := C0.2.1
  have hml := C0.2.2.1
  have hown := C0.2.2.2.1
  have hts := C0.2.2.2.2
  have hl : lv_has ls 4 [(0, .ref q_0), (1, .int x_0)] := hl
  have hP : va_P D vwCl [(q_0, .inr (1, [.ref q_1, .ref q_14, .ref q_15, .ref q_16, .ref q_4, .ref q_5, .ref q_17, .ref q_18, .int x_1, .int x_2, .int x_3, .int x_4, .int x_5, .int x_6, .int x_7, .int x_8, .int x_9, .int x_10, .int x_11])), (q_1, .inr (3, [.ref q_2, .ref q_19, .ref q_20, .ref q_21, .ref q_22, .ref q_23])), (q_2, .inr (6, [.int x_12, .ref q_3, .ref q_6, .ref q_11, .ref q_24, .ref q_25, .int x_13, .ref q_26, .int x_14, .ref q_12, .ref q_13, .ref q_7, .ref q_8, .ref q_9, .ref q_10])), (q_3, .inl (k 0, 40, .inl f_15)), (q_4, .inl (k 0, 401, .inl f_16)), (q_5, .inl (k 0, 401, .inl f_17)), (q_6, .inl (k 0, 40, .inl f_18)), (q_7, .inl (k 0, 2, .inl f_19)), (q_8, .inl (k 0, 120, .inl f_20)), (q_9, .inl (k 0, 120, .inl f_21)), (q_10, .inl (k 0, 120, .inl f_22)), (q_11, .inl (k 0, 40, .inl f_23)), (q_12, .inl (k 0, 60, .inl f_24)), (q_13, .inl (k 0, 60, .inl f_25))] s.heap := hP
  refine lv_aload_n hx hb dX1_wordsValue_0 rfl (lv_at hl 0 rfl) ?_
  refine va_get (D := D) (ci := 1) (v := .ref q_1) (C := RX1) (T := TX1) (N := 19) hx hb hts inX1 hown hK hP 0 rfl rfl 0 (by decide) (hts _ kF_X1_34) (fun _ h9 => h9) rfl dX1_wordsValue_1 ?_
  refine va_get (D := D) (ci := 3) (v := .ref q_2) (C := RX3) (T := TX3) (N := 6) hx hb hts inX3 hown hK hP 1 rfl rfl 0 (by decide) (hts _ kF_X1_174) (fun _ h9 => h9) rfl dX1_wordsValue_4 ?_
  refine lv_astore_n (lv' := [(2, .ref q_2), (0, .ref q_0), (1, .int x_0)]) hx hb dX1_wordsValue_7 rfl hl (by decide) rfl (fun ls hl => ?_)
  refine lv_aload_n hx hb dX1_wordsValue_8 rfl (lv_at hl 1 rfl) ?_
  refine va_get (D := D) (ci := 1) (v := .int x_2) (C := RX1) (T := TX1) (N := 19) hx hb hts inX1 hown hK hP 0 rfl rfl 9 (by decide) (hts _ kF_X1_56) (fun _ h9 => h9) rfl dX1_wordsValue_9 ?_
  refine lv_iconst (v := 2) hx hb dX1_wordsValue_12 (by decide) ?_
  refine lv_idiv hx hb dX1_wordsValue_13 (by decide) ?_
  refine lv_topi (fun y1 ey1 => ?_)
  have hy1 : Int32.toInt y1 = Int32.toInt x_2 / 2 := by rw [ey1]; exact zo_div 2 (show 0 ≤ Int32.toInt x_2 by revert h_x_2; first | omega | (simp only [vp_in_iff, Int32.lt_iff_toInt_lt, Int32.le_iff_toInt_le, Int64.lt_iff_toInt_lt, Int64.le_iff_toInt_le, Int32.toInt_toInt64, ← Int32.toInt_inj, ← Int64.toInt_inj, Int32.reduceToInt, Int64.reduceToInt] <;> omega)) rfl (by decide)
  refine lv_istore_n (lv' := [(3, .int y1), (2, .ref q_2), (0, .ref q_0), (1, .int x_0)]) hx hb dX1_wordsValue_14 rfl hl (by decide) rfl (fun ls hl => ?_)
  refine lv_iload_n hx hb dX1_wordsValue_15 rfl (lv_at hl 3 rfl) ?_
  by_cases c2 : x_0 = 0
  · refine lv_tableIn (off := 60) (tgt := 76) hx hb dX1_wordsValue_16 (by rw [c2]; decide) (by rw [c2]; decide) (by rw [c2]; rfl) (by decide) ?_
    refine lv_aload_n hx hb dX1_wordsValue_76 rfl (lv_at hl 1 rfl) ?_
    refine va_get (D := D) (ci := 6) (v := .ref q_3) (C := RX6) (T := TX6) (N := 15) hx hb hts inX6 hown hK hP 2 rfl rfl 1 (by decide) (hts _ kF_X1_178) (fun _ h9 => h9) rfl dX1_wordsValue_77 ?_
    refine lv_aload_n hx hb dX1_wordsValue_80 rfl (lv_at hl 2 rfl) ?_
    refine va_get (D := D) (ci := 1) (v := .int x_1) (C := RX1) (T := TX1) (N := 19) hx hb hts inX1 hown hK hP 0 rfl rfl 8 (by decide) (hts _ kF_X1_49) (fun _ h9 => h9) rfl dX1_wordsValue_81 ?_
    refine va_iald hx hb hK hP 3 0 rfl rfl (by first | with_reducible exact h_x_1 | (revert h_x_1; first | omega | (simp only [vp_in_iff, Int32.lt_iff_toInt_lt, Int32.le_iff_toInt_le, Int64.lt_iff_toInt_lt, Int64.le_iff_toInt_le, Int32.toInt_toInt64, ← Int32.toInt_inj, ← Int64.toInt_inj, Int32.reduceToInt, Int64.reduceToInt] <;> omega))) dX1_wordsValue_84 ?_
    refine lv_topi (fun y3 ey3 => ?_)
    have hy3 : 0 ≤ Int32.toInt y3 ∧ Int32.toInt y3 ≤ 18 := by rw [ey3]; exact h_f_15 _
    exact z_iret C0 hr hlk rfl hK hP hD hS (0, fun _ => 0, fun _ => 0, fun _ => 0, fun _ => (fun _ => 0), fun _ => (fun _ => 0), fun _ => (fun _ => none)) rfl [0, 1, 2, 3, 4, 5, 6, 7, 8, 9, 10, 11, 12, 13] rfl rfl rfl dX1_wordsValue_85
  · by_cases c4 : x_0 = 1
    · refine lv_tableIn (off := 70) (tgt := 86) hx hb dX1_wordsValue_16 (by rw [c4]; decide) (by rw [c4]; decide) (by rw [c4]; rfl) (by decide) ?_
      refine lv_aload_n hx hb dX1_wordsValue_86 rfl (lv_at hl 2 rfl) ?_
      refine va_get (D := D) (ci := 1) (v := .int x_3) (C := RX1) (T := TX1) (N := 19) hx hb hts inX1 hown hK hP 0 rfl rfl 10 (by decide) (hts _ kF_X1_62) (fun _ h9 => h9) rfl dX1_wordsValue_87 ?_
      exact z_iret C0 hr hlk rfl hK hP hD hS (0, fun _ => 0, fun _ => 0, fun _ => 0, fun _ => (fun _ => 0), fun _ => (fun _ => 0), fun _ => (fun _ => none)) rfl [0, 1, 2, 3, 4, 5, 6, 7, 8, 9, 10, 11, 12, 13] rfl rfl rfl dX1_wordsValue_90
    · by_cases c5 : x_0 = 2
      · refine lv_tableIn (off := 75) (tgt := 91) hx hb dX1_wordsValue_16 (by rw [c5]; decide) (by rw [c5]; decide) (by rw [c5]; rfl) (by decide) ?_
        refine lv_aload_n hx hb dX1_wordsValue_91 rfl (lv_at hl 2 rfl) ?_
        refine va_get (D := D) (ci := 1) (v := .int x_2) (C := RX1) (T := TX1) (N := 19) hx hb hts inX1 hown hK hP 0 rfl rfl 9 (by decide) (hts _ kF_X1_56) (fun _ h9 => h9) rfl dX1_wordsValue_92 ?_
        refine lv_iconst (v := 2) hx hb dX1_wordsValue_95 (by decide) ?_
        refine lv_irem hx hb dX1_wordsValue_96 (by decide) ?_
        refine lv_topi (fun y6 ey6 => ?_)
        have hy6 : Int32.toInt y6 = Int32.toInt x_2 % 2 := by rw [ey6]; exact zo_rem 2 (show 0 ≤ Int32.toInt x_2 by revert h_x_2 hy1; first | omega | (simp only [vp_in_iff, Int32.lt_iff_toInt_lt, Int32.le_iff_toInt_le, Int64.lt_iff_toInt_lt, Int64.le_iff_toInt_le, Int32.toInt_toInt64, ← Int32.toInt_inj, ← Int64.toInt_inj, Int32.reduceToInt, Int64.reduceToInt] <;> omega)) rfl (by decide)
        exact z_iret C0 hr hlk rfl hK hP hD hS (0, fun _ => 0, fun _ => 0, fun _ => 0, fun _ => (fun _ => 0), fun _ => (fun _ => 0), fun _ => (fun _ => none)) rfl [0, 1, 2, 3, 4, 5, 6, 7, 8, 9, 10, 11, 12, 13] rfl rfl rfl dX1_wordsValue_97
      · by_cases c7 : x_0 = 3
        · refine lv_tableIn (off := 82) (tgt := 98) hx hb dX1_wordsValue_16 (by rw [c7]; decide) (by rw [c7]; decide) (by rw [c7]; rfl) (by decide) ?_
          refine lv_iload_n hx hb dX1_wordsValue_98 rfl (lv_at hl 0 rfl) ?_
          exact z_iret C0 hr hlk rfl hK hP hD hS (0, fun _ => 0, fun _ => 0, fun _ => 0, fun _ => (fun _ => 0), fun _ => (fun _ => 0), fun _ => (fun _ => none)) rfl [0, 1, 2, 3, 4, 5, 6, 7, 8, 9, 10, 11, 12, 13] rfl rfl rfl dX1_wordsValue_99
        · by_cases c8 : x_0 = 4
          · refine lv_tableIn (off := 84) (tgt := 100) hx hb dX1_wordsValue_16 (by rw [c8]; decide) (by rw [c8]; decide) (by rw [c8]; rfl) (by decide) ?_
            refine lv_iload_n hx hb dX1_wordsValue_100 rfl (lv_at hl 0 rfl) ?_
            refine lv_bipush (v := 7) hx hb dX1_wordsValue_101 (by decide) ?_
            refine lv_idiv hx hb dX1_wordsValue_103 (by decide) ?_
            refine lv_topi (fun y9 ey9 => ?_)
            have hy9 : Int32.toInt y9 = Int32.toInt y1 / 7 := by rw [ey9]; exact zo_div 7 (show 0 ≤ Int32.toInt y1 by revert h_x_2 hy1; first | omega | (simp only [vp_in_iff, Int32.lt_iff_toInt_lt, Int32.le_iff_toInt_le, Int64.lt_iff_toInt_lt, Int64.le_iff_toInt_le, Int32.toInt_toInt64, ← Int32.toInt_inj, ← Int64.toInt_inj, Int32.reduceToInt, Int64.reduceToInt] <;> omega)) rfl (by decide)
            exact z_iret C0 hr hlk rfl hK hP hD hS (0, fun _ => 0, fun _ => 0, fun _ => 0, fun _ => (fun _ => 0), fun _ => (fun _ => 0), fun _ => (fun _ => none)) rfl [0, 1, 2, 3, 4, 5, 6, 7, 8, 9, 10, 11, 12, 13] rfl rfl rfl dX1_wordsValue_104
          · by_cases c10 : x_0 = 5
            · refine lv_tableIn (off := 89) (tgt := 105) hx hb dX1_wordsValue_16 (by rw [c10]; decide) (by rw [c10]; decide) (by rw [c10]; rfl) (by decide) ?_
              refine lv_aload_n hx hb dX1_wordsValue_105 rfl (lv_at hl 2 rfl) ?_
              refine va_get (D := D) (ci := 1) (v := .int x_4) (C := RX1) (T := TX1) (N := 19) hx hb hts inX1 hown hK hP 0 rfl rfl 11 (by decide) (hts _ kF_X1_68) (fun _ h9 => h9) rfl dX1_wordsValue_106 ?_
              exact z_iret C0 hr hlk rfl hK hP hD hS (0, fun _ => 0, fun _ => 0, fun _ => 0, fun _ => (fun _ => 0), fun _ => (fun _ => 0), fun _ => (fun _ => none)) rfl [0, 1, 2, 3, 4, 5, 6, 7, 8, 9, 10, 11, 12, 13] rfl rfl rfl dX1_wordsValue_109
            · by_cases c11 : x_0 = 6
              · refine lv_tableIn (off := 94) (tgt := 110) hx hb dX1_wordsValue_16 (by rw [c11]; decide) (by rw [c11]; decide) (by rw [c11]; rfl) (by decide) ?_
                refine lv_aload_n hx hb dX1_wordsValue_110 rfl (lv_at hl 2 rfl) ?_
                refine va_get (D := D) (ci := 1) (v := .int x_5) (C := RX1) (T := TX1) (N := 19) hx hb hts inX1 hown hK hP 0 rfl rfl 12 (by decide) (hts _ kF_X1_71) (fun _ h9 => h9) rfl dX1_wordsValue_111 ?_
                refine lv_if_eq (tgt := 140) hx hb dX1_wordsValue_114 (by decide) (fun c12 => ?_) (fun c12 => ?_)
                · refine lv_iconst (v := 0) hx hb dX1_wordsValue_140 (by decide) ?_
                  exact z_iret C0 hr hlk rfl hK hP hD hS (0, fun _ => 0, fun _ => 0, fun _ => 0, fun _ => (fun _ => 0), fun _ => (fun _ => 0), fun _ => (fun _ => none)) rfl [0, 1, 2, 3, 4, 5, 6, 7, 8, 9, 10, 11, 12, 13] rfl rfl rfl dX1_wordsValue_141
                · refine lv_aload_n hx hb dX1_wordsValue_117 rfl (lv_at hl 2 rfl) ?_
                  refine va_get (D := D) (ci := 1) (v := .ref q_4) (C := RX1) (T := TX1) (N := 19) hx hb hts inX1 hown hK hP 0 rfl rfl 4 (by decide) (hts _ kF_X1_22) (fun _ h9 => h9) rfl dX1_wordsValue_118 ?_
                  refine lv_iload_n hx hb dX1_wordsValue_121 rfl (lv_at hl 0 rfl) ?_
                  refine va_iald hx hb hK hP 4 0 rfl rfl (by revert h_x_2 hy1; first | omega | (simp only [vp_in_iff, Int32.lt_iff_toInt_lt, Int32.le_iff_toInt_le, Int64.lt_iff_toInt_lt, Int64.le_iff_toInt_le, Int32.toInt_toInt64, ← Int32.toInt_inj, ← Int64.toInt_inj, Int32.reduceToInt, Int64.reduceToInt] <;> omega)) dX1_wordsValue_122 ?_
                  refine lv_topi (fun y13 ey13 => ?_)
                  refine lv_aload_n hx hb dX1_wordsValue_123 rfl (lv_at hl 2 rfl) ?_
                  refine va_get (D := D) (ci := 1) (v := .ref q_4) (C := RX1) (T := TX1) (N := 19) hx hb hts inX1 hown hK hP 0 rfl rfl 4 (by decide) (hts _ kF_X1_22) (fun _ h9 => h9) rfl dX1_wordsValue_124 ?_
                  refine lv_iconst (v := 0) hx hb dX1_wordsValue_127 (by decide) ?_
                  refine lv_iload_n hx hb dX1_wordsValue_128 rfl (lv_at hl 0 rfl) ?_
                  refine lv_bipush (v := 84) hx hb dX1_wordsValue_129 (by decide) ?_
                  refine lv_isub hx hb dX1_wordsValue_131 ?_
                  refine lv_topi (fun y14 ey14 => ?_)
                  have hy14 : Int32.toInt y14 = Int32.toInt y1 - 84 := by rw [ey14]; exact zi_subc rfl (by decide) (by revert h_x_2 hy1; first | omega | (simp only [vp_in_iff, Int32.lt_iff_toInt_lt, Int32.le_iff_toInt_le, Int64.lt_iff_toInt_lt, Int64.le_iff_toInt_le, Int32.toInt_toInt64, ← Int32.toInt_inj, ← Int64.toInt_inj, Int32.reduceToInt, Int64.reduceToInt] <;> omega))
                  refine va_mmax hx hb (by rw [hml]; exact hl.1.symm) hown (hts _ kmaxL_X1_161) (hts _ kmaxS) (hts _ kZ_J9) (hts _ kmaxC) (Nat.le_of_ble_eq_true rfl) (Nat.le_of_ble_eq_true rfl) (Nat.le_of_ble_eq_true rfl) (Nat.le_of_ble_eq_true rfl) dX1_wordsValue_132 ?_
                  refine lv_topi (fun y15 ey15 => ?_)
                  have hy15 := zo_max (0 : Int32) y14
                  rw [← ey15] at hy15
                  refine va_iald hx hb hK hP 4 0 rfl rfl (by revert h_x_2 hy1 hy14 hy15; first | omega | (simp only [vp_in_iff, Int32.lt_iff_toInt_lt, Int32.le_iff_toInt_le, Int64.lt_iff_toInt_lt, Int64.le_iff_toInt_le, Int32.toInt_toInt64, ← Int32.toInt_inj, ← Int64.toInt_inj, Int32.reduceToInt, Int64.reduceToInt] <;> omega)) dX1_wordsValue_135 ?_
                  refine lv_topi (fun y16 ey16 => ?_)
                  refine lv_isub hx hb dX1_wordsValue_136 ?_
                  refine lv_topi (fun y17 ey17 => ?_)
                  refine lv_goto (tgt := 141) hx hb dX1_wordsValue_137 (by decide) ?_
                  exact z_iret C0 hr hlk rfl hK hP hD hS (0, fun _ => 0, fun _ => 0, fun _ => 0, fun _ => (fun _ => 0), fun _ => (fun _ => 0), fun _ => (fun _ => none)) rfl [0, 1, 2, 3, 4, 5, 6, 7, 8, 9, 10, 11, 12, 13] rfl rfl rfl dX1_wordsValue_141
              · by_cases c18 : x_0 = 7
                · refine lv_tableIn (off := 126) (tgt := 142) hx hb dX1_wordsValue_16 (by rw [c18]; decide) (by rw [c18]; decide) (by rw [c18]; rfl) (by decide) ?_
                  refine lv_aload_n hx hb dX1_wordsValue_142 rfl (lv_at hl 2 rfl) ?_
                  refine va_get (D := D) (ci := 1) (v := .int x_5) (C := RX1) (T := TX1) (N := 19) hx hb hts inX1 hown hK hP 0 rfl rfl 12 (by decide) (hts _ kF_X1_71) (fun _ h9 => h9) rfl dX1_wordsValue_143 ?_
                  refine lv_if_eq (tgt := 172) hx hb dX1_wordsValue_146 (by decide) (fun c19 => ?_) (fun c19 => ?_)
                  · refine lv_iconst (v := 0) hx hb dX1_wordsValue_172 (by decide) ?_
                    exact z_iret C0 hr hlk rfl hK hP hD hS (0, fun _ => 0, fun _ => 0, fun _ => 0, fun _ => (fun _ => 0), fun _ => (fun _ => 0), fun _ => (fun _ => none)) rfl [0, 1, 2, 3, 4, 5, 6, 7, 8, 9, 10, 11, 12, 13] rfl rfl rfl dX1_wordsValue_173
                  · refine lv_aload_n hx hb dX1_wordsValue_149 rfl (lv_at hl 2 rfl) ?_
                    refine va_get (D := D) (ci := 1) (v := .ref q_5) (C := RX1) (T := TX1) (N := 19) hx hb hts inX1 hown hK hP 0 rfl rfl 5 (by decide) (hts _ kF_X1_25) (fun _ h9 => h9) rfl dX1_wordsValue_150 ?_
                    refine lv_iload_n hx hb dX1_wordsValue_153 rfl (lv_at hl 0 rfl) ?_
                    refine va_iald hx hb hK hP 5 0 rfl rfl (by revert h_x_2 hy1; first | omega | (simp only [vp_in_iff, Int32.lt_iff_toInt_lt, Int32.le_iff_toInt_le, Int64.lt_iff_toInt_lt, Int64.le_iff_toInt_le, Int32.toInt_toInt64, ← Int32.toInt_inj, ← Int64.toInt_inj, Int32.reduceToInt, Int64.reduceToInt] <;> omega)) dX1_wordsValue_154 ?_
                    refine lv_topi (fun y20 ey20 => ?_)
                    refine lv_aload_n hx hb dX1_wordsValue_155 rfl (lv_at hl 2 rfl) ?_
                    refine va_get (D := D) (ci := 1) (v := .ref q_5) (C := RX1) (T := TX1) (N := 19) hx hb hts inX1 hown hK hP 0 rfl rfl 5 (by decide) (hts _ kF_X1_25) (fun _ h9 => h9) rfl dX1_wordsValue_156 ?_
                    refine lv_iconst (v := 0) hx hb dX1_wordsValue_159 (by decide) ?_
                    refine lv_iload_n hx hb dX1_wordsValue_160 rfl (lv_at hl 0 rfl) ?_
                    refine lv_bipush (v := 84) hx hb dX1_wordsValue_161 (by decide) ?_
                    refine lv_isub hx hb dX1_wordsValue_163 ?_
                    refine lv_topi (fun y21 ey21 => ?_)
                    have hy21 : Int32.toInt y21 = Int32.toInt y1 - 84 := by rw [ey21]; exact zi_subc rfl (by decide) (by revert h_x_2 hy1; first | omega | (simp only [vp_in_iff, Int32.lt_iff_toInt_lt, Int32.le_iff_toInt_le, Int64.lt_iff_toInt_lt, Int64.le_iff_toInt_le, Int32.toInt_toInt64, ← Int32.toInt_inj, ← Int64.toInt_inj, Int32.reduceToInt, Int64.reduceToInt] <;> omega))
                    refine va_mmax hx hb (by rw [hml]; exact hl.1.symm) hown (hts _ kmaxL_X1_161) (hts _ kmaxS) (hts _ kZ_J9) (hts _ kmaxC) (Nat.le_of_ble_eq_true rfl) (Nat.le_of_ble_eq_true rfl) (Nat.le_of_ble_eq_true rfl) (Nat.le_of_ble_eq_true rfl) dX1_wordsValue_164 ?_
                    refine lv_topi (fun y22 ey22 => ?_)
                    have hy22 := zo_max (0 : Int32) y21
                    rw [← ey22] at hy22
                    refine va_iald hx hb hK hP 5 0 rfl rfl (by revert h_x_2 hy1 hy21 hy22; first | omega | (simp only [vp_in_iff, Int32.lt_iff_toInt_lt, Int32.le_iff_toInt_le, Int64.lt_iff_toInt_lt, Int64.le_iff_toInt_le, Int32.toInt_toInt64, ← Int32.toInt_inj, ← Int64.toInt_inj, Int32.reduceToInt, Int64.reduceToInt] <;> omega)) dX1_wordsValue_167 ?_
                    refine lv_topi (fun y23 ey23 => ?_)
                    refine lv_isub hx hb dX1_wordsValue_168 ?_
                    refine lv_topi (fun y24 ey24 => ?_)
                    refine lv_goto (tgt := 173) hx hb dX1_wordsValue_169 (by decide) ?_
                    exact z_iret C0 hr hlk rfl hK hP hD hS (0, fun _ => 0, fun _ => 0, fun _ => 0, fun _ => (fun _ => 0), fun _ => (fun _ => 0), fun _ => (fun _ => none)) rfl [0, 1, 2, 3, 4, 5, 6, 7, 8, 9, 10, 11, 12, 13] rfl rfl rfl dX1_wordsValue_173
                · by_cases c25 : x_0 = 8
                  · refine lv_tableIn (off := 158) (tgt := 174) hx hb dX1_wordsValue_16 (by rw [c25]; decide) (by rw [c25]; decide) (by rw [c25]; rfl) (by decide) ?_
                    refine lv_aload_n hx hb dX1_wordsValue_174 rfl (lv_at hl 1 rfl) ?_
                    refine va_get (D := D) (ci := 6) (v := .ref q_6) (C := RX6) (T := TX6) (N := 15) hx hb hts inX6 hown hK hP 2 rfl rfl 2 (by decide) (hts _ kF_X1_183) (fun _ h9 => h9) rfl dX1_wordsValue_175 ?_
                    refine lv_aload_n hx hb dX1_wordsValue_178 rfl (lv_at hl 2 rfl) ?_
                    refine va_get (D := D) (ci := 1) (v := .int x_1) (C := RX1) (T := TX1) (N := 19) hx hb hts inX1 hown hK hP 0 rfl rfl 8 (by decide) (hts _ kF_X1_49) (fun _ h9 => h9) rfl dX1_wordsValue_179 ?_
                    refine va_iald hx hb hK hP 6 0 rfl rfl (by first | with_reducible exact h_x_1 | (revert h_x_1; first | omega | (simp only [vp_in_iff, Int32.lt_iff_toInt_lt, Int32.le_iff_toInt_le, Int64.lt_iff_toInt_lt, Int64.le_iff_toInt_le, Int32.toInt_toInt64, ← Int32.toInt_inj, ← Int64.toInt_inj, Int32.reduceToInt, Int64.reduceToInt] <;> omega))) dX1_wordsValue_182 ?_
                    refine lv_topi (fun y26 ey26 => ?_)
                    have hy26 : 0 ≤ Int32.toInt y26 ∧ Int32.toInt y26 ≤ 1 := by rw [ey26]; exact h_f_18 _
                    exact z_iret C0 hr hlk rfl hK hP hD hS (0, fun _ => 0, fun _ => 0, fun _ => 0, fun _ => (fun _ => 0), fun _ => (fun _ => 0), fun _ => (fun _ => none)) rfl [0, 1, 2, 3, 4, 5, 6, 7, 8, 9, 10, 11, 12, 13] rfl rfl rfl dX1_wordsValue_183
                  · by_cases c27 : x_0 = 9
                    · refine lv_tableIn (off := 168) (tgt := 184) hx hb dX1_wordsValue_16 (by rw [c27]; decide) (by rw [c27]; decide) (by rw [c27]; rfl) (by decide) ?_
                      refine lv_aload_n hx hb dX1_wordsValue_184 rfl (lv_at hl 1 rfl) ?_
                      refine lv_aload_n hx hb dX1_wordsValue_185 rfl (lv_at hl 2 rfl) ?_
                      refine va_get (D := D) (ci := 1) (v := .int x_1) (C := RX1) (T := TX1) (N := 19) hx hb hts inX1 hown hK hP 0 rfl rfl 8 (by decide) (hts _ kF_X1_49) (fun _ h9 => h9) rfl dX1_wordsValue_186 ?_
                      refine lv_iconst (v := 0) hx hb dX1_wordsValue_189 (by decide) ?_
                      refine lv_iload_n hx hb dX1_wordsValue_190 rfl (lv_at hl 0 rfl) ?_
                      refine z_bi (wr := [(q_0, .inr (1, [.ref q_1, .ref q_14, .ref q_15, .ref q_16, .ref q_4, .ref q_5, .ref q_17, .ref q_18, .int x_1, .int x_2, .int x_3, .int x_4, .int x_5, .int x_6, .int x_7, .int x_8, .int x_9, .int x_10, .int x_11])), (q_1, .inr (3, [.ref q_2, .ref q_19, .ref q_20, .ref q_21, .ref q_22, .ref q_23])), (q_3, .inl (k 0, 40, .inl f_15)), (q_4, .inl (k 0, 401, .inl f_16)), (q_5, .inl (k 0, 401, .inl f_17)), (q_6, .inl (k 0, 40, .inl f_18)), (q_11, .inl (k 0, 40, .inl f_23)), (q_12, .inl (k 0, 60, .inl f_24)), (q_13, .inl (k 0, 60, .inl f_25))]) (z_runV (C := RX6) (As := [.int x_1, .int 0, .int y1]) (rest := []) C0 (s_X6_isWithin_1 l D k T q_2 q_7 q_8 q_9 q_10 q_3 q_6 q_11 q_24 q_25 q_26 q_12 q_13 x_1 0 y1 x_12 x_13 x_14 f_19 f_20 f_21 f_22 (by first | with_reducible exact h_x_1 | (revert h_x_1; first | omega | (simp only [vp_in_iff, Int32.lt_iff_toInt_lt, Int32.le_iff_toInt_le, Int64.lt_iff_toInt_lt, Int64.le_iff_toInt_le, Int32.toInt_toInt64, ← Int32.toInt_inj, ← Int64.toInt_inj, Int32.reduceToInt, Int64.reduceToInt] <;> omega))) (by decide) (by revert h_x_2 hy1; first | omega | (simp only [vp_in_iff, Int32.lt_iff_toInt_lt, Int32.le_iff_toInt_le, Int64.lt_iff_toInt_lt, Int64.le_iff_toInt_le, Int32.toInt_toInt64, ← Int32.toInt_inj, ← Int64.toInt_inj, Int32.reduceToInt, Int64.reduceToInt] <;> omega)) (by first | with_reducible exact h_x_12 | (revert h_x_12; first | omega | (simp only [vp_in_iff, Int32.lt_iff_toInt_lt, Int32.le_iff_toInt_le, Int64.lt_iff_toInt_lt, Int64.le_iff_toInt_le, Int32.toInt_toInt64, ← Int32.toInt_inj, ← Int64.toInt_inj, Int32.reduceToInt, Int64.reduceToInt] <;> omega))) (by first | with_reducible exact h_x_13 | (revert h_x_13; first | omega | (simp only [vp_in_iff, Int32.lt_iff_toInt_lt, Int32.le_iff_toInt_le, Int64.lt_iff_toInt_lt, Int64.le_iff_toInt_le, Int32.toInt_toInt64, ← Int32.toInt_inj, ← Int64.toInt_inj, Int32.reduceToInt, Int64.reduceToInt] <;> omega))) (by first | with_reducible exact h_x_14 | (revert h_x_14; first | omega | (simp only [vp_in_iff, Int32.lt_iff_toInt_lt, Int32.le_iff_toInt_le, Int64.lt_iff_toInt_lt, Int64.le_iff_toInt_le, Int32.toInt_toInt64, ← Int32.toInt_inj, ← Int64.toInt_inj, Int32.reduceToInt, Int64.reduceToInt] <;> omega))) h_f_19 h_f_20 h_f_21 h_f_22 _) okV_X6_isWithin kM_X1_186 rfl (z_pV (q0 := 2) hT hS hA hK hN hP hD [2, 7, 8, 9, 10] rfl rfl rfl rfl rfl) rfl hl.1 rfl (Nat.le_of_ble_eq_true rfl) dX1_wordsValue_191 rfl) hP hD hS hA [2, 7, 8, 9, 10] [0, 1, 3, 4, 5, 6, 11, 12, 13] rfl rfl rfl rfl (fun r28 u28 H locs hw28 hP hD hS => ?_)
                      obtain ⟨i28, a28, v28, w28, f28, g28, o28⟩ := u28
                      dsimp only at hw28
                      rcases hw28 with ⟨rfl, rfl⟩ | ⟨rfl, rfl⟩
                      · have hP : va_P D vwCl [(q_0, .inr (1, [.ref q_1, .ref q_14, .ref q_15, .ref q_16, .ref q_4, .ref q_5, .ref q_17, .ref q_18, .int x_1, .int x_2, .int x_3, .int x_4, .int x_5, .int x_6, .int x_7, .int x_8, .int x_9, .int x_10, .int x_11])), (q_1, .inr (3, [.ref q_2, .ref q_19, .ref q_20, .ref q_21, .ref q_22, .ref q_23])), (q_3, .inl (k 0, 40, .inl f_15)), (q_4, .inl (k 0, 401, .inl f_16)), (q_5, .inl (k 0, 401, .inl f_17)), (q_6, .inl (k 0, 40, .inl f_18)), (q_11, .inl (k 0, 40, .inl f_23)), (q_12, .inl (k 0, 60, .inl f_24)), (q_13, .inl (k 0, 60, .inl f_25)), (q_2, .inr (6, [.int x_12, .ref q_3, .ref q_6, .ref q_11, .ref q_24, .ref q_25, .int x_13, .ref q_26, .int x_14, .ref q_12, .ref q_13, .ref q_7, .ref q_8, .ref q_9, .ref q_10])), (q_7, .inl (k 0, 2, .inl f_19)), (q_8, .inl (k 0, 120, .inl f_20)), (q_9, .inl (k 0, 120, .inl f_21)), (q_10, .inl (k 0, 120, .inl f_22))] H := hP
                        have hD : va_D A [(q_0, .inr (1, [.ref q_1, .ref q_14, .ref q_15, .ref q_16, .ref q_4, .ref q_5, .ref q_17, .ref q_18, .int x_1, .int x_2, .int x_3, .int x_4, .int x_5, .int x_6, .int x_7, .int x_8, .int x_9, .int x_10, .int x_11])), (q_1, .inr (3, [.ref q_2, .ref q_19, .ref q_20, .ref q_21, .ref q_22, .ref q_23])), (q_3, .inl (k 0, 40, .inl f_15)), (q_4, .inl (k 0, 401, .inl f_16)), (q_5, .inl (k 0, 401, .inl f_17)), (q_6, .inl (k 0, 40, .inl f_18)), (q_11, .inl (k 0, 40, .inl f_23)), (q_12, .inl (k 0, 60, .inl f_24)), (q_13, .inl (k 0, 60, .inl f_25)), (q_2, .inr (6, [.int x_12, .ref q_3, .ref q_6, .ref q_11, .ref q_24, .ref q_25, .int x_13, .ref q_26, .int x_14, .ref q_12, .ref q_13, .ref q_7, .ref q_8, .ref q_9, .ref q_10])), (q_7, .inl (k 0, 2, .inl f_19)), (q_8, .inl (k 0, 120, .inl f_20)), (q_9, .inl (k 0, 120, .inl f_21)), (q_10, .inl (k 0, 120, .inl f_22))] := hD
                        refine lv_if_eq (tgt := 201) hx hb dX1_wordsValue_194 (by decide) (fun _ => ?_) (fun c29 => absurd (by decide) c29)
                        refine lv_iconst (v := 0) hx hb dX1_wordsValue_201 (by decide) ?_
                        exact z_iret C0 hr hlk rfl hK hP hD hS (0, fun _ => 0, fun _ => 0, fun _ => 0, fun _ => (fun _ => 0), fun _ => (fun _ => 0), fun _ => (fun _ => none)) rfl [0, 1, 9, 2, 3, 4, 5, 10, 11, 12, 13, 6, 7, 8] rfl rfl rfl dX1_wordsValue_202
                      · have hP : va_P D vwCl [(q_0, .inr (1, [.ref q_1, .ref q_14, .ref q_15, .ref q_16, .ref q_4, .ref q_5, .ref q_17, .ref q_18, .int x_1, .int x_2, .int x_3, .int x_4, .int x_5, .int x_6, .int x_7, .int x_8, .int x_9, .int x_10, .int x_11])), (q_1, .inr (3, [.ref q_2, .ref q_19, .ref q_20, .ref q_21, .ref q_22, .ref q_23])), (q_3, .inl (k 0, 40, .inl f_15)), (q_4, .inl (k 0, 401, .inl f_16)), (q_5, .inl (k 0, 401, .inl f_17)), (q_6, .inl (k 0, 40, .inl f_18)), (q_11, .inl (k 0, 40, .inl f_23)), (q_12, .inl (k 0, 60, .inl f_24)), (q_13, .inl (k 0, 60, .inl f_25)), (q_2, .inr (6, [.int x_12, .ref q_3, .ref q_6, .ref q_11, .ref q_24, .ref q_25, .int x_13, .ref q_26, .int x_14, .ref q_12, .ref q_13, .ref q_7, .ref q_8, .ref q_9, .ref q_10])), (q_7, .inl (k 0, 2, .inl f_19)), (q_8, .inl (k 0, 120, .inl f_20)), (q_9, .inl (k 0, 120, .inl f_21)), (q_10, .inl (k 0, 120, .inl f_22))] H := hP
                        have hD : va_D A [(q_0, .inr (1, [.ref q_1, .ref q_14, .ref q_15, .ref q_16, .ref q_4, .ref q_5, .ref q_17, .ref q_18, .int x_1, .int x_2, .int x_3, .int x_4, .int x_5, .int x_6, .int x_7, .int x_8, .int x_9, .int x_10, .int x_11])), (q_1, .inr (3, [.ref q_2, .ref q_19, .ref q_20, .ref q_21, .ref q_22, .ref q_23])), (q_3, .inl (k 0, 40, .inl f_15)), (q_4, .inl (k 0, 401, .inl f_16)), (q_5, .inl (k 0, 401, .inl f_17)), (q_6, .inl (k 0, 40, .inl f_18)), (q_11, .inl (k 0, 40, .inl f_23)), (q_12, .inl (k 0, 60, .inl f_24)), (q_13, .inl (k 0, 60, .inl f_25)), (q_2, .inr (6, [.int x_12, .ref q_3, .ref q_6, .ref q_11, .ref q_24, .ref q_25, .int x_13, .ref q_26, .int x_14, .ref q_12, .ref q_13, .ref q_7, .ref q_8, .ref q_9, .ref q_10])), (q_7, .inl (k 0, 2, .inl f_19)), (q_8, .inl (k 0, 120, .inl f_20)), (q_9, .inl (k 0, 120, .inl f_21)), (q_10, .inl (k 0, 120, .inl f_22))] := hD
                        refine lv_if_eq (tgt := 201) hx hb dX1_wordsValue_194 (by decide) (fun c30 => absurd c30 (by decide)) (fun _ => ?_)
                        refine lv_iconst (v := 1) hx hb dX1_wordsValue_197 (by decide) ?_
                        refine lv_goto (tgt := 202) hx hb dX1_wordsValue_198 (by decide) ?_
                        exact z_iret C0 hr hlk rfl hK hP hD hS (0, fun _ => 0, fun _ => 0, fun _ => 0, fun _ => (fun _ => 0), fun _ => (fun _ => 0), fun _ => (fun _ => none)) rfl [0, 1, 9, 2, 3, 4, 5, 10, 11, 12, 13, 6, 7, 8] rfl rfl rfl dX1_wordsValue_202
                    · by_cases c31 : x_0 = 10
                      · refine lv_tableIn (off := 187) (tgt := 203) hx hb dX1_wordsValue_16 (by rw [c31]; decide) (by rw [c31]; decide) (by rw [c31]; rfl) (by decide) ?_
                        refine lv_aload_n hx hb dX1_wordsValue_203 rfl (lv_at hl 1 rfl) ?_
                        refine lv_aload_n hx hb dX1_wordsValue_204 rfl (lv_at hl 1 rfl) ?_
                        refine va_get (D := D) (ci := 6) (v := .ref q_11) (C := RX6) (T := TX6) (N := 15) hx hb hts inX6 hown hK hP 2 rfl rfl 3 (by decide) (hts _ kF_X1_189) (fun _ h9 => h9) rfl dX1_wordsValue_205 ?_
                        refine lv_aload_n hx hb dX1_wordsValue_208 rfl (lv_at hl 2 rfl) ?_
                        refine va_get (D := D) (ci := 1) (v := .int x_1) (C := RX1) (T := TX1) (N := 19) hx hb hts inX1 hown hK hP 0 rfl rfl 8 (by decide) (hts _ kF_X1_49) (fun _ h9 => h9) rfl dX1_wordsValue_209 ?_
                        refine va_iald hx hb hK hP 11 0 rfl rfl (by first | with_reducible exact h_x_1 | (revert h_x_1; first | omega | (simp only [vp_in_iff, Int32.lt_iff_toInt_lt, Int32.le_iff_toInt_le, Int64.lt_iff_toInt_lt, Int64.le_iff_toInt_le, Int32.toInt_toInt64, ← Int32.toInt_inj, ← Int64.toInt_inj, Int32.reduceToInt, Int64.reduceToInt] <;> omega))) dX1_wordsValue_212 ?_
                        refine lv_topi (fun y32 ey32 => ?_)
                        have hy32 : (-1) ≤ Int32.toInt y32 ∧ Int32.toInt y32 ≤ 7 := by rw [ey32]; exact h_f_23 _
                        refine lv_aload_n hx hb dX1_wordsValue_213 rfl (lv_at hl 2 rfl) ?_
                        refine va_get (D := D) (ci := 1) (v := .int x_2) (C := RX1) (T := TX1) (N := 19) hx hb hts inX1 hown hK hP 0 rfl rfl 9 (by decide) (hts _ kF_X1_56) (fun _ h9 => h9) rfl dX1_wordsValue_214 ?_
                        refine z_bi (wr := [(q_0, .inr (1, [.ref q_1, .ref q_14, .ref q_15, .ref q_16, .ref q_4, .ref q_5, .ref q_17, .ref q_18, .int x_1, .int x_2, .int x_3, .int x_4, .int x_5, .int x_6, .int x_7, .int x_8, .int x_9, .int x_10, .int x_11])), (q_1, .inr (3, [.ref q_2, .ref q_19, .ref q_20, .ref q_21, .ref q_22, .ref q_23])), (q_3, .inl (k 0, 40, .inl f_15)), (q_4, .inl (k 0, 401, .inl f_16)), (q_5, .inl (k 0, 401, .inl f_17)), (q_6, .inl (k 0, 40, .inl f_18)), (q_7, .inl (k 0, 2, .inl f_19)), (q_8, .inl (k 0, 120, .inl f_20)), (q_9, .inl (k 0, 120, .inl f_21)), (q_10, .inl (k 0, 120, .inl f_22)), (q_11, .inl (k 0, 40, .inl f_23))]) (z_runV (C := RX6) (As := [.int y32, .int x_2]) (rest := []) C0 (s_X6_hasFailed_1 l D k T q_2 q_12 q_13 q_3 q_6 q_11 q_24 q_25 q_26 q_7 q_8 q_9 q_10 y32 x_2 x_12 x_13 x_14 f_24 f_25 (by first | with_reducible exact h_x_12 | (revert h_x_12; first | omega | (simp only [vp_in_iff, Int32.lt_iff_toInt_lt, Int32.le_iff_toInt_le, Int64.lt_iff_toInt_lt, Int64.le_iff_toInt_le, Int32.toInt_toInt64, ← Int32.toInt_inj, ← Int64.toInt_inj, Int32.reduceToInt, Int64.reduceToInt] <;> omega))) (by first | with_reducible exact h_x_13 | (revert h_x_13; first | omega | (simp only [vp_in_iff, Int32.lt_iff_toInt_lt, Int32.le_iff_toInt_le, Int64.lt_iff_toInt_lt, Int64.le_iff_toInt_le, Int32.toInt_toInt64, ← Int32.toInt_inj, ← Int64.toInt_inj, Int32.reduceToInt, Int64.reduceToInt] <;> omega))) (by first | with_reducible exact h_x_14 | (revert h_x_14; first | omega | (simp only [vp_in_iff, Int32.lt_iff_toInt_lt, Int32.le_iff_toInt_le, Int64.lt_iff_toInt_lt, Int64.le_iff_toInt_le, Int32.toInt_toInt64, ← Int32.toInt_inj, ← Int64.toInt_inj, Int32.reduceToInt, Int64.reduceToInt] <;> omega))) h_f_24 h_f_25 _) okV_X6_hasFailed kM_X1_192 rfl (z_pV (q0 := 2) hT hS hA hK hN hP hD [2, 12, 13] rfl rfl rfl rfl rfl) rfl hl.1 rfl (Nat.le_of_ble_eq_true rfl) dX1_wordsValue_217 rfl) hP hD hS hA [2, 12, 13] [0, 1, 3, 4, 5, 6, 7, 8, 9, 10, 11] rfl rfl rfl rfl (fun r33 u33 H locs hw33 hP hD hS => ?_)
                        obtain ⟨i33, a33, v33, w33, f33, g33, o33⟩ := u33
                        dsimp only at hw33
                        rcases hw33 with ⟨rfl, rfl⟩ | ⟨rfl, rfl, hq33_0, hq33_1⟩
                        · have hP : va_P D vwCl [(q_0, .inr (1, [.ref q_1, .ref q_14, .ref q_15, .ref q_16, .ref q_4, .ref q_5, .ref q_17, .ref q_18, .int x_1, .int x_2, .int x_3, .int x_4, .int x_5, .int x_6, .int x_7, .int x_8, .int x_9, .int x_10, .int x_11])), (q_1, .inr (3, [.ref q_2, .ref q_19, .ref q_20, .ref q_21, .ref q_22, .ref q_23])), (q_3, .inl (k 0, 40, .inl f_15)), (q_4, .inl (k 0, 401, .inl f_16)), (q_5, .inl (k 0, 401, .inl f_17)), (q_6, .inl (k 0, 40, .inl f_18)), (q_7, .inl (k 0, 2, .inl f_19)), (q_8, .inl (k 0, 120, .inl f_20)), (q_9, .inl (k 0, 120, .inl f_21)), (q_10, .inl (k 0, 120, .inl f_22)), (q_11, .inl (k 0, 40, .inl f_23)), (q_2, .inr (6, [.int x_12, .ref q_3, .ref q_6, .ref q_11, .ref q_24, .ref q_25, .int x_13, .ref q_26, .int x_14, .ref q_12, .ref q_13, .ref q_7, .ref q_8, .ref q_9, .ref q_10])), (q_12, .inl (k 0, 60, .inl f_24)), (q_13, .inl (k 0, 60, .inl f_25))] H := hP
                          have hD : va_D A [(q_0, .inr (1, [.ref q_1, .ref q_14, .ref q_15, .ref q_16, .ref q_4, .ref q_5, .ref q_17, .ref q_18, .int x_1, .int x_2, .int x_3, .int x_4, .int x_5, .int x_6, .int x_7, .int x_8, .int x_9, .int x_10, .int x_11])), (q_1, .inr (3, [.ref q_2, .ref q_19, .ref q_20, .ref q_21, .ref q_22, .ref q_23])), (q_3, .inl (k 0, 40, .inl f_15)), (q_4, .inl (k 0, 401, .inl f_16)), (q_5, .inl (k 0, 401, .inl f_17)), (q_6, .inl (k 0, 40, .inl f_18)), (q_7, .inl (k 0, 2, .inl f_19)), (q_8, .inl (k 0, 120, .inl f_20)), (q_9, .inl (k 0, 120, .inl f_21)), (q_10, .inl (k 0, 120, .inl f_22)), (q_11, .inl (k 0, 40, .inl f_23)), (q_2, .inr (6, [.int x_12, .ref q_3, .ref q_6, .ref q_11, .ref q_24, .ref q_25, .int x_13, .ref q_26, .int x_14, .ref q_12, .ref q_13, .ref q_7, .ref q_8, .ref q_9, .ref q_10])), (q_12, .inl (k 0, 60, .inl f_24)), (q_13, .inl (k 0, 60, .inl f_25))] := hD
                          refine lv_if_eq (tgt := 227) hx hb dX1_wordsValue_220 (by decide) (fun _ => ?_) (fun c34 => absurd (by decide) c34)
                          refine lv_iconst (v := 0) hx hb dX1_wordsValue_227 (by decide) ?_
                          exact z_iret C0 hr hlk rfl hK hP hD hS (0, fun _ => 0, fun _ => 0, fun _ => 0, fun _ => (fun _ => 0), fun _ => (fun _ => 0), fun _ => (fun _ => none)) rfl [0, 1, 11, 2, 3, 4, 5, 6, 7, 8, 9, 10, 12, 13] rfl rfl rfl dX1_wordsValue_228
                        · have hP : va_P D vwCl [(q_0, .inr (1, [.ref q_1, .ref q_14, .ref q_15, .ref q_16, .ref q_4, .ref q_5, .ref q_17, .ref q_18, .int x_1, .int x_2, .int x_3, .int x_4, .int x_5, .int x_6, .int x_7, .int x_8, .int x_9, .int x_10, .int x_11])), (q_1, .inr (3, [.ref q_2, .ref q_19, .ref q_20, .ref q_21, .ref q_22, .ref q_23])), (q_3, .inl (k 0, 40, .inl f_15)), (q_4, .inl (k 0, 401, .inl f_16)), (q_5, .inl (k 0, 401, .inl f_17)), (q_6, .inl (k 0, 40, .inl f_18)), (q_7, .inl (k 0, 2, .inl f_19)), (q_8, .inl (k 0, 120, .inl f_20)), (q_9, .inl (k 0, 120, .inl f_21)), (q_10, .inl (k 0, 120, .inl f_22)), (q_11, .inl (k 0, 40, .inl f_23)), (q_2, .inr (6, [.int x_12, .ref q_3, .ref q_6, .ref q_11, .ref q_24, .ref q_25, .int x_13, .ref q_26, .int x_14, .ref q_12, .ref q_13, .ref q_7, .ref q_8, .ref q_9, .ref q_10])), (q_12, .inl (k 0, 60, .inl f_24)), (q_13, .inl (k 0, 60, .inl f_25))] H := hP
                          have hD : va_D A [(q_0, .inr (1, [.ref q_1, .ref q_14, .ref q_15, .ref q_16, .ref q_4, .ref q_5, .ref q_17, .ref q_18, .int x_1, .int x_2, .int x_3, .int x_4, .int x_5, .int x_6, .int x_7, .int x_8, .int x_9, .int x_10, .int x_11])), (q_1, .inr (3, [.ref q_2, .ref q_19, .ref q_20, .ref q_21, .ref q_22, .ref q_23])), (q_3, .inl (k 0, 40, .inl f_15)), (q_4, .inl (k 0, 401, .inl f_16)), (q_5, .inl (k 0, 401, .inl f_17)), (q_6, .inl (k 0, 40, .inl f_18)), (q_7, .inl (k 0, 2, .inl f_19)), (q_8, .inl (k 0, 120, .inl f_20)), (q_9, .inl (k 0, 120, .inl f_21)), (q_10, .inl (k 0, 120, .inl f_22)), (q_11, .inl (k 0, 40, .inl f_23)), (q_2, .inr (6, [.int x_12, .ref q_3, .ref q_6, .ref q_11, .ref q_24, .ref q_25, .int x_13, .ref q_26, .int x_14, .ref q_12, .ref q_13, .ref q_7, .ref q_8, .ref q_9, .ref q_10])), (q_12, .inl (k 0, 60, .inl f_24)), (q_13, .inl (k 0, 60, .inl f_25))] := hD
                          refine lv_if_eq (tgt := 227) hx hb dX1_wordsValue_220 (by decide) (fun c35 => absurd c35 (by decide)) (fun _ => ?_)
                          refine lv_iconst (v := 1) hx hb dX1_wordsValue_223 (by decide) ?_
                          refine lv_goto (tgt := 228) hx hb dX1_wordsValue_224 (by decide) ?_
                          exact z_iret C0 hr hlk rfl hK hP hD hS (0, fun _ => 0, fun _ => 0, fun _ => 0, fun _ => (fun _ => 0), fun _ => (fun _ => 0), fun _ => (fun _ => none)) rfl [0, 1, 11, 2, 3, 4, 5, 6, 7, 8, 9, 10, 12, 13] rfl rfl rfl dX1_wordsValue_228
                      · refine lv_tableOut (tgt := 229) hx hb dX1_wordsValue_16 (by have := Int32.le_toInt x_0; have := Int32.toInt_lt x_0; revert c2 c4 c5 c7 c8 c10 c11 c18 c25 c27 c31; first | omega | (simp only [vp_in_iff, Int32.lt_iff_toInt_lt, Int32.le_iff_toInt_le, Int64.lt_iff_toInt_lt, Int64.le_iff_toInt_le, Int32.toInt_toInt64, ← Int32.toInt_inj, ← Int64.toInt_inj, Int32.reduceToInt, Int64.reduceToInt] <;> omega)) (by decide) ?_
                        refine lv_aload_n hx hb dX1_wordsValue_229 rfl (lv_at hl 1 rfl) ?_
                        refine lv_aload_n hx hb dX1_wordsValue_230 rfl (lv_at hl 2 rfl) ?_
                        refine va_get (D := D) (ci := 1) (v := .int x_1) (C := RX1) (T := TX1) (N := 19) hx hb hts inX1 hown hK hP 0 rfl rfl 8 (by decide) (hts _ kF_X1_49) (fun _ h9 => h9) rfl dX1_wordsValue_231 ?_
                        refine lv_iconst (v := 1) hx hb dX1_wordsValue_234 (by decide) ?_
                        refine lv_iload_n hx hb dX1_wordsValue_235 rfl (lv_at hl 0 rfl) ?_
                        refine z_bi (wr := [(q_0, .inr (1, [.ref q_1, .ref q_14, .ref q_15, .ref q_16, .ref q_4, .ref q_5, .ref q_17, .ref q_18, .int x_1, .int x_2, .int x_3, .int x_4, .int x_5, .int x_6, .int x_7, .int x_8, .int x_9, .int x_10, .int x_11])), (q_1, .inr (3, [.ref q_2, .ref q_19, .ref q_20, .ref q_21, .ref q_22, .ref q_23])), (q_3, .inl (k 0, 40, .inl f_15)), (q_4, .inl (k 0, 401, .inl f_16)), (q_5, .inl (k 0, 401, .inl f_17)), (q_6, .inl (k 0, 40, .inl f_18)), (q_11, .inl (k 0, 40, .inl f_23)), (q_12, .inl (k 0, 60, .inl f_24)), (q_13, .inl (k 0, 60, .inl f_25))]) (z_runV (C := RX6) (As := [.int x_1, .int 1, .int y1]) (rest := []) C0 (s_X6_isWithin_2 l D k T q_2 q_7 q_8 q_9 q_10 q_3 q_6 q_11 q_24 q_25 q_26 q_12 q_13 x_1 1 y1 x_12 x_13 x_14 f_19 f_20 f_21 f_22 (by first | with_reducible exact h_x_1 | (revert h_x_1; first | omega | (simp only [vp_in_iff, Int32.lt_iff_toInt_lt, Int32.le_iff_toInt_le, Int64.lt_iff_toInt_lt, Int64.le_iff_toInt_le, Int32.toInt_toInt64, ← Int32.toInt_inj, ← Int64.toInt_inj, Int32.reduceToInt, Int64.reduceToInt] <;> omega))) (by decide) (by revert h_x_2 hy1; first | omega | (simp only [vp_in_iff, Int32.lt_iff_toInt_lt, Int32.le_iff_toInt_le, Int64.lt_iff_toInt_lt, Int64.le_iff_toInt_le, Int32.toInt_toInt64, ← Int32.toInt_inj, ← Int64.toInt_inj, Int32.reduceToInt, Int64.reduceToInt] <;> omega)) (by first | with_reducible exact h_x_12 | (revert h_x_12; first | omega | (simp only [vp_in_iff, Int32.lt_iff_toInt_lt, Int32.le_iff_toInt_le, Int64.lt_iff_toInt_lt, Int64.le_iff_toInt_le, Int32.toInt_toInt64, ← Int32.toInt_inj, ← Int64.toInt_inj, Int32.reduceToInt, Int64.reduceToInt] <;> omega))) (by first | with_reducible exact h_x_13 | (revert h_x_13; first | omega | (simp only [vp_in_iff, Int32.lt_iff_toInt_lt, Int32.le_iff_toInt_le, Int64.lt_iff_toInt_lt, Int64.le_iff_toInt_le, Int32.toInt_toInt64, ← Int32.toInt_inj, ← Int64.toInt_inj, Int32.reduceToInt, Int64.reduceToInt] <;> omega))) (by first | with_reducible exact h_x_14 | (revert h_x_14; first | omega | (simp only [vp_in_iff, Int32.lt_iff_toInt_lt, Int32.le_iff_toInt_le, Int64.lt_iff_toInt_lt, Int64.le_iff_toInt_le, Int32.toInt_toInt64, ← Int32.toInt_inj, ← Int64.toInt_inj, Int32.reduceToInt, Int64.reduceToInt] <;> omega))) h_f_19 h_f_20 h_f_21 h_f_22 _) okV_X6_isWithin kM_X1_186 rfl (z_pV (q0 := 2) hT hS hA hK hN hP hD [2, 7, 8, 9, 10] rfl rfl rfl rfl rfl) rfl hl.1 rfl (Nat.le_of_ble_eq_true rfl) dX1_wordsValue_236 rfl) hP hD hS hA [2, 7, 8, 9, 10] [0, 1, 3, 4, 5, 6, 11, 12, 13] rfl rfl rfl rfl (fun r36 u36 H locs hw36 hP hD hS => ?_)
                        obtain ⟨i36, a36, v36, w36, f36, g36, o36⟩ := u36
                        dsimp only at hw36
                        rcases hw36 with ⟨rfl, rfl⟩ | ⟨rfl, rfl⟩
                        · have hP : va_P D vwCl [(q_0, .inr (1, [.ref q_1, .ref q_14, .ref q_15, .ref q_16, .ref q_4, .ref q_5, .ref q_17, .ref q_18, .int x_1, .int x_2, .int x_3, .int x_4, .int x_5, .int x_6, .int x_7, .int x_8, .int x_9, .int x_10, .int x_11])), (q_1, .inr (3, [.ref q_2, .ref q_19, .ref q_20, .ref q_21, .ref q_22, .ref q_23])), (q_3, .inl (k 0, 40, .inl f_15)), (q_4, .inl (k 0, 401, .inl f_16)), (q_5, .inl (k 0, 401, .inl f_17)), (q_6, .inl (k 0, 40, .inl f_18)), (q_11, .inl (k 0, 40, .inl f_23)), (q_12, .inl (k 0, 60, .inl f_24)), (q_13, .inl (k 0, 60, .inl f_25)), (q_2, .inr (6, [.int x_12, .ref q_3, .ref q_6, .ref q_11, .ref q_24, .ref q_25, .int x_13, .ref q_26, .int x_14, .ref q_12, .ref q_13, .ref q_7, .ref q_8, .ref q_9, .ref q_10])), (q_7, .inl (k 0, 2, .inl f_19)), (q_8, .inl (k 0, 120, .inl f_20)), (q_9, .inl (k 0, 120, .inl f_21)), (q_10, .inl (k 0, 120, .inl f_22))] H := hP
                          have hD : va_D A [(q_0, .inr (1, [.ref q_1, .ref q_14, .ref q_15, .ref q_16, .ref q_4, .ref q_5, .ref q_17, .ref q_18, .int x_1, .int x_2, .int x_3, .int x_4, .int x_5, .int x_6, .int x_7, .int x_8, .int x_9, .int x_10, .int x_11])), (q_1, .inr (3, [.ref q_2, .ref q_19, .ref q_20, .ref q_21, .ref q_22, .ref q_23])), (q_3, .inl (k 0, 40, .inl f_15)), (q_4, .inl (k 0, 401, .inl f_16)), (q_5, .inl (k 0, 401, .inl f_17)), (q_6, .inl (k 0, 40, .inl f_18)), (q_11, .inl (k 0, 40, .inl f_23)), (q_12, .inl (k 0, 60, .inl f_24)), (q_13, .inl (k 0, 60, .inl f_25)), (q_2, .inr (6, [.int x_12, .ref q_3, .ref q_6, .ref q_11, .ref q_24, .ref q_25, .int x_13, .ref q_26, .int x_14, .ref q_12, .ref q_13, .ref q_7, .ref q_8, .ref q_9, .ref q_10])), (q_7, .inl (k 0, 2, .inl f_19)), (q_8, .inl (k 0, 120, .inl f_20)), (q_9, .inl (k 0, 120, .inl f_21)), (q_10, .inl (k 0, 120, .inl f_22))] := hD
                          refine lv_if_eq (tgt := 246) hx hb dX1_wordsValue_239 (by decide) (fun _ => ?_) (fun c37 => absurd (by decide) c37)
                          refine lv_iconst (v := 0) hx hb dX1_wordsValue_246 (by decide) ?_
                          exact z_iret C0 hr hlk rfl hK hP hD hS (0, fun _ => 0, fun _ => 0, fun _ => 0, fun _ => (fun _ => 0), fun _ => (fun _ => 0), fun _ => (fun _ => none)) rfl [0, 1, 9, 2, 3, 4, 5, 10, 11, 12, 13, 6, 7, 8] rfl rfl rfl dX1_wordsValue_247
                        · have hP : va_P D vwCl [(q_0, .inr (1, [.ref q_1, .ref q_14, .ref q_15, .ref q_16, .ref q_4, .ref q_5, .ref q_17, .ref q_18, .int x_1, .int x_2, .int x_3, .int x_4, .int x_5, .int x_6, .int x_7, .int x_8, .int x_9, .int x_10, .int x_11])), (q_1, .inr (3, [.ref q_2, .ref q_19, .ref q_20, .ref q_21, .ref q_22, .ref q_23])), (q_3, .inl (k 0, 40, .inl f_15)), (q_4, .inl (k 0, 401, .inl f_16)), (q_5, .inl (k 0, 401, .inl f_17)), (q_6, .inl (k 0, 40, .inl f_18)), (q_11, .inl (k 0, 40, .inl f_23)), (q_12, .inl (k 0, 60, .inl f_24)), (q_13, .inl (k 0, 60, .inl f_25)), (q_2, .inr (6, [.int x_12, .ref q_3, .ref q_6, .ref q_11, .ref q_24, .ref q_25, .int x_13, .ref q_26, .int x_14, .ref q_12, .ref q_13, .ref q_7, .ref q_8, .ref q_9, .ref q_10])), (q_7, .inl (k 0, 2, .inl f_19)), (q_8, .inl (k 0, 120, .inl f_20)), (q_9, .inl (k 0, 120, .inl f_21)), (q_10, .inl (k 0, 120, .inl f_22))] H := hP
                          have hD : va_D A [(q_0, .inr (1, [.ref q_1, .ref q_14, .ref q_15, .ref q_16, .ref q_4, .ref q_5, .ref q_17, .ref q_18, .int x_1, .int x_2, .int x_3, .int x_4, .int x_5, .int x_6, .int x_7, .int x_8, .int x_9, .int x_10, .int x_11])), (q_1, .inr (3, [.ref q_2, .ref q_19, .ref q_20, .ref q_21, .ref q_22, .ref q_23])), (q_3, .inl (k 0, 40, .inl f_15)), (q_4, .inl (k 0, 401, .inl f_16)), (q_5, .inl (k 0, 401, .inl f_17)), (q_6, .inl (k 0, 40, .inl f_18)), (q_11, .inl (k 0, 40, .inl f_23)), (q_12, .inl (k 0, 60, .inl f_24)), (q_13, .inl (k 0, 60, .inl f_25)), (q_2, .inr (6, [.int x_12, .ref q_3, .ref q_6, .ref q_11, .ref q_24, .ref q_25, .int x_13, .ref q_26, .int x_14, .ref q_12, .ref q_13, .ref q_7, .ref q_8, .ref q_9, .ref q_10])), (q_7, .inl (k 0, 2, .inl f_19)), (q_8, .inl (k 0, 120, .inl f_20)), (q_9, .inl (k 0, 120, .inl f_21)), (q_10, .inl (k 0, 120, .inl f_22))] := hD
                          refine lv_if_eq (tgt := 246) hx hb dX1_wordsValue_239 (by decide) (fun c38 => absurd c38 (by decide)) (fun _ => ?_)
                          refine lv_iconst (v := 1) hx hb dX1_wordsValue_242 (by decide) ?_
                          refine lv_goto (tgt := 247) hx hb dX1_wordsValue_243 (by decide) ?_
                          exact z_iret C0 hr hlk rfl hK hP hD hS (0, fun _ => 0, fun _ => 0, fun _ => 0, fun _ => (fun _ => 0), fun _ => (fun _ => 0), fun _ => (fun _ => none)) rfl [0, 1, 9, 2, 3, 4, 5, 10, 11, 12, 13, 6, 7, 8] rfl rfl rfl dX1_wordsValue_247

set_option maxHeartbeats 4000000 in
set_option maxRecDepth 100000 in
theorem s_X1_joinTwo_1 (l : Launch) (D : va_G) (k : Nat → ClassId) (T : zTy) (x_0 : Int32) (g_1 : Int64) (g_2 : Int64) : zMl l yX1_joinTwo cX1_joinTwo 7 (some .long) ({ frames := 0, cells := 0, slots := 0, locals := 0 }) D k T [.int x_0, .long g_1, .long g_2] [] (fun r u => u.1 = 0 ∧ ((-1000000000) ≤ Int64.toInt r ∧ Int64.toInt r ≤ 4611686018427387904)) (fun u => []) := by
  refine zMl_of (own := RX1) (by decide +kernel) rfl (Nat.le_of_ble_eq_true rfl) ?_
  intro p e s m args below meth c A ls C0 hr hlk hin hP hD hS hA hK hN hT hl
  have hx := C0.1
  have hb := C0.2.1
  have hml := C0.2.2.1
  have hown := C0.2.2.2.1
  have hts := C0.2.2.2.2
  have hl : lv_has ls 7 [(0, .int x_0), (1, .long g_1), (3, .long g_2)] := hl
  have hP : va_P D vwCl [] s.heap := hP
  refine lv_iload_n hx hb dX1_joinTwo_0 rfl (lv_at hl 0 rfl) ?_
  by_cases c1 : x_0 = 2
  · refine lv_tableIn (off := 79) (tgt := 80) hx hb dX1_joinTwo_1 (by rw [c1]; decide) (by rw [c1]; decide) (by rw [c1]; rfl) (by decide) ?_
    refine lv_lload_n hx hb dX1_joinTwo_80 rfl (lv_at hl 1 rfl) ?_
    refine lv_lload_n hx hb dX1_joinTwo_81 rfl (lv_at hl 2 rfl) ?_
    refine lv_ladd hx hb dX1_joinTwo_82 ?_
    refine lv_topl (fun w2 ew2 => ?_)
    refine lv_lstore (lv' := [(5, .long w2), (0, .int x_0), (1, .long g_1), (3, .long g_2)]) hx hb dX1_joinTwo_83 hl (by decide) rfl (fun ls hl => ?_)
    refine lv_goto (tgt := 121) hx hb dX1_joinTwo_85 (by decide) ?_
    refine lv_lload hx hb dX1_joinTwo_121 (lv_at hl 0 rfl) ?_
    refine lv_ldc2 hx hb hown (hts _ kL_X1_170) dX1_joinTwo_123 ?_
    refine W.lcmp hx hb dX1_joinTwo_126 ?_
    refine lv_if_gt (tgt := 139) hx hb dX1_joinTwo_127 (by decide) (fun c3 => ?_) (fun c3 => ?_)
    · have c3 : (1000000000 : Int64) < w2 := (lg_cgt _ _).mp c3
      refine lv_ldc2 hx hb hown (hts _ kL_X1_155) dX1_joinTwo_139 ?_
      refine lv_goto (tgt := 147) hx hb dX1_joinTwo_142 (by decide) ?_
      exact z_lret C0 hr hlk hK hP hD hS (0, fun _ => 0, fun _ => 0, fun _ => 0, fun _ => (fun _ => 0), fun _ => (fun _ => 0), fun _ => (fun _ => none)) ⟨rfl, (by decide)⟩ [] rfl rfl rfl dX1_joinTwo_147
    · have c3 : ¬ (1000000000 : Int64) < w2 := fun q => c3 ((lg_cgt _ _).mpr q)
      refine lv_lload hx hb dX1_joinTwo_130 (lv_at hl 0 rfl) ?_
      refine lv_ldc2 hx hb hown (hts _ kL_X1_172) dX1_joinTwo_132 ?_
      refine W.lcmp hx hb dX1_joinTwo_135 ?_
      refine lv_if_ge (tgt := 145) hx hb dX1_joinTwo_136 (by decide) (fun c4 => ?_) (fun c4 => ?_)
      · have c4 : ¬ w2 < (-1000000000) := (lg_cge _ _).mp c4
        refine lv_lload hx hb dX1_joinTwo_145 (lv_at hl 0 rfl) ?_
        exact z_lret C0 hr hlk hK hP hD hS (0, fun _ => 0, fun _ => 0, fun _ => 0, fun _ => (fun _ => 0), fun _ => (fun _ => 0), fun _ => (fun _ => none)) ⟨rfl, (by revert c3 c4; first | (simp only [vp_in_iff, Int32.lt_iff_toInt_lt, Int32.le_iff_toInt_le, Int64.lt_iff_toInt_lt, Int64.le_iff_toInt_le, Int32.toInt_toInt64, ← Int32.toInt_inj, ← Int64.toInt_inj, Int32.reduceToInt, Int64.reduceToInt] <;> omega) | omega)⟩ [] rfl rfl rfl dX1_joinTwo_147
      · have c4 : w2 < (-1000000000) := Decidable.not_not.mp (fun q => c4 ((lg_cge _ _).mpr q))
        refine lv_ldc2 hx hb hown (hts _ kL_X1_155) dX1_joinTwo_139 ?_
        refine lv_goto (tgt := 147) hx hb dX1_joinTwo_142 (by decide) ?_
        exact z_lret C0 hr hlk hK hP hD hS (0, fun _ => 0, fun _ => 0, fun _ => 0, fun _ => (fun _ => 0), fun _ => (fun _ => 0), fun _ => (fun _ => none)) ⟨rfl, (by decide)⟩ [] rfl rfl rfl dX1_joinTwo_147
  · by_cases c5 : x_0 = 3
    · refine lv_tableIn (off := 87) (tgt := 88) hx hb dX1_joinTwo_1 (by rw [c5]; decide) (by rw [c5]; decide) (by rw [c5]; rfl) (by decide) ?_
      refine lv_lload_n hx hb dX1_joinTwo_88 rfl (lv_at hl 1 rfl) ?_
      refine lv_lload_n hx hb dX1_joinTwo_89 rfl (lv_at hl 2 rfl) ?_
      refine lv_lsub hx hb dX1_joinTwo_90 ?_
      refine lv_topl (fun w6 ew6 => ?_)
      refine lv_lstore (lv' := [(5, .long w6), (0, .int x_0), (1, .long g_1), (3, .long g_2)]) hx hb dX1_joinTwo_91 hl (by decide) rfl (fun ls hl => ?_)
      refine lv_goto (tgt := 121) hx hb dX1_joinTwo_93 (by decide) ?_
      refine lv_lload hx hb dX1_joinTwo_121 (lv_at hl 0 rfl) ?_
      refine lv_ldc2 hx hb hown (hts _ kL_X1_170) dX1_joinTwo_123 ?_
      refine W.lcmp hx hb dX1_joinTwo_126 ?_
      refine lv_if_gt (tgt := 139) hx hb dX1_joinTwo_127 (by decide) (fun c7 => ?_) (fun c7 => ?_)
      · have c7 : (1000000000 : Int64) < w6 := (lg_cgt _ _).mp c7
        refine lv_ldc2 hx hb hown (hts _ kL_X1_155) dX1_joinTwo_139 ?_
        refine lv_goto (tgt := 147) hx hb dX1_joinTwo_142 (by decide) ?_
        exact z_lret C0 hr hlk hK hP hD hS (0, fun _ => 0, fun _ => 0, fun _ => 0, fun _ => (fun _ => 0), fun _ => (fun _ => 0), fun _ => (fun _ => none)) ⟨rfl, (by decide)⟩ [] rfl rfl rfl dX1_joinTwo_147
      · have c7 : ¬ (1000000000 : Int64) < w6 := fun q => c7 ((lg_cgt _ _).mpr q)
        refine lv_lload hx hb dX1_joinTwo_130 (lv_at hl 0 rfl) ?_
        refine lv_ldc2 hx hb hown (hts _ kL_X1_172) dX1_joinTwo_132 ?_
        refine W.lcmp hx hb dX1_joinTwo_135 ?_
        refine lv_if_ge (tgt := 145) hx hb dX1_joinTwo_136 (by decide) (fun c8 => ?_) (fun c8 => ?_)
        · have c8 : ¬ w6 < (-1000000000) := (lg_cge _ _).mp c8
          refine lv_lload hx hb dX1_joinTwo_145 (lv_at hl 0 rfl) ?_
          exact z_lret C0 hr hlk hK hP hD hS (0, fun _ => 0, fun _ => 0, fun _ => 0, fun _ => (fun _ => 0), fun _ => (fun _ => 0), fun _ => (fun _ => none)) ⟨rfl, (by revert c7 c8; first | (simp only [vp_in_iff, Int32.lt_iff_toInt_lt, Int32.le_iff_toInt_le, Int64.lt_iff_toInt_lt, Int64.le_iff_toInt_le, Int32.toInt_toInt64, ← Int32.toInt_inj, ← Int64.toInt_inj, Int32.reduceToInt, Int64.reduceToInt] <;> omega) | omega)⟩ [] rfl rfl rfl dX1_joinTwo_147
        · have c8 : w6 < (-1000000000) := Decidable.not_not.mp (fun q => c8 ((lg_cge _ _).mpr q))
          refine lv_ldc2 hx hb hown (hts _ kL_X1_155) dX1_joinTwo_139 ?_
          refine lv_goto (tgt := 147) hx hb dX1_joinTwo_142 (by decide) ?_
          exact z_lret C0 hr hlk hK hP hD hS (0, fun _ => 0, fun _ => 0, fun _ => 0, fun _ => (fun _ => 0), fun _ => (fun _ => 0), fun _ => (fun _ => none)) ⟨rfl, (by decide)⟩ [] rfl rfl rfl dX1_joinTwo_147
    · by_cases c9 : x_0 = 4
      · refine lv_tableIn (off := 95) (tgt := 96) hx hb dX1_joinTwo_1 (by rw [c9]; decide) (by rw [c9]; decide) (by rw [c9]; rfl) (by decide) ?_
        refine lv_lload_n hx hb dX1_joinTwo_96 rfl (lv_at hl 1 rfl) ?_
        refine lv_lload_n hx hb dX1_joinTwo_97 rfl (lv_at hl 2 rfl) ?_
        refine lv_lmul hx hb dX1_joinTwo_98 ?_
        refine lv_topl (fun w10 ew10 => ?_)
        refine lv_lstore (lv' := [(5, .long w10), (0, .int x_0), (1, .long g_1), (3, .long g_2)]) hx hb dX1_joinTwo_99 hl (by decide) rfl (fun ls hl => ?_)
        refine lv_goto (tgt := 121) hx hb dX1_joinTwo_101 (by decide) ?_
        refine lv_lload hx hb dX1_joinTwo_121 (lv_at hl 0 rfl) ?_
        refine lv_ldc2 hx hb hown (hts _ kL_X1_170) dX1_joinTwo_123 ?_
        refine W.lcmp hx hb dX1_joinTwo_126 ?_
        refine lv_if_gt (tgt := 139) hx hb dX1_joinTwo_127 (by decide) (fun c11 => ?_) (fun c11 => ?_)
        · have c11 : (1000000000 : Int64) < w10 := (lg_cgt _ _).mp c11
          refine lv_ldc2 hx hb hown (hts _ kL_X1_155) dX1_joinTwo_139 ?_
          refine lv_goto (tgt := 147) hx hb dX1_joinTwo_142 (by decide) ?_
          exact z_lret C0 hr hlk hK hP hD hS (0, fun _ => 0, fun _ => 0, fun _ => 0, fun _ => (fun _ => 0), fun _ => (fun _ => 0), fun _ => (fun _ => none)) ⟨rfl, (by decide)⟩ [] rfl rfl rfl dX1_joinTwo_147
        · have c11 : ¬ (1000000000 : Int64) < w10 := fun q => c11 ((lg_cgt _ _).mpr q)
          refine lv_lload hx hb dX1_joinTwo_130 (lv_at hl 0 rfl) ?_
          refine lv_ldc2 hx hb hown (hts _ kL_X1_172) dX1_joinTwo_132 ?_
          refine W.lcmp hx hb dX1_joinTwo_135 ?_
          refine lv_if_ge (tgt := 145) hx hb dX1_joinTwo_136 (by decide) (fun c12 => ?_) (fun c12 => ?_)
          · have c12 : ¬ w10 < (-1000000000) := (lg_cge _ _).mp c12
            refine lv_lload hx hb dX1_joinTwo_145 (lv_at hl 0 rfl) ?_
            exact z_lret C0 hr hlk hK hP hD hS (0, fun _ => 0, fun _ => 0, fun _ => 0, fun _ => (fun _ => 0), fun _ => (fun _ => 0), fun _ => (fun _ => none)) ⟨rfl, (by revert c11 c12; first | (simp only [vp_in_iff, Int32.lt_iff_toInt_lt, Int32.le_iff_toInt_le, Int64.lt_iff_toInt_lt, Int64.le_iff_toInt_le, Int32.toInt_toInt64, ← Int32.toInt_inj, ← Int64.toInt_inj, Int32.reduceToInt, Int64.reduceToInt] <;> omega) | omega)⟩ [] rfl rfl rfl dX1_joinTwo_147
          · have c12 : w10 < (-1000000000) := Decidable.not_not.mp (fun q => c12 ((lg_cge _ _).mpr q))
            refine lv_ldc2 hx hb hown (hts _ kL_X1_155) dX1_joinTwo_139 ?_
            refine lv_goto (tgt := 147) hx hb dX1_joinTwo_142 (by decide) ?_
            exact z_lret C0 hr hlk hK hP hD hS (0, fun _ => 0, fun _ => 0, fun _ => 0, fun _ => (fun _ => 0), fun _ => (fun _ => 0), fun _ => (fun _ => none)) ⟨rfl, (by decide)⟩ [] rfl rfl rfl dX1_joinTwo_147
      · by_cases c13 : x_0 = 5
        · refine lv_tableIn (off := 103) (tgt := 104) hx hb dX1_joinTwo_1 (by rw [c13]; decide) (by rw [c13]; decide) (by rw [c13]; rfl) (by decide) ?_
          refine lv_lload_n hx hb dX1_joinTwo_104 rfl (lv_at hl 2 rfl) ?_
          refine lv_lconst (v := 0) hx hb dX1_joinTwo_105 (by decide) ?_
          refine W.lcmp hx hb dX1_joinTwo_106 ?_
          refine lv_if_ne (tgt := 116) hx hb dX1_joinTwo_107 (by decide) (fun c14 => ?_) (fun c14 => ?_)
          · have c14 : ¬ g_2 = 0 := fun q => c14 ((lg_ceq _ _).mpr q)
            refine lv_lload_n hx hb dX1_joinTwo_116 rfl (lv_at hl 1 rfl) ?_
            refine lv_lload_n hx hb dX1_joinTwo_117 rfl (lv_at hl 2 rfl) ?_
            refine lv_ldiv hx hb dX1_joinTwo_118 c14 ?_
            refine lv_topl (fun w15 ew15 => ?_)
            refine lv_lstore (lv' := [(5, .long w15), (0, .int x_0), (1, .long g_1), (3, .long g_2)]) hx hb dX1_joinTwo_119 hl (by decide) rfl (fun ls hl => ?_)
            refine lv_lload hx hb dX1_joinTwo_121 (lv_at hl 0 rfl) ?_
            refine lv_ldc2 hx hb hown (hts _ kL_X1_170) dX1_joinTwo_123 ?_
            refine W.lcmp hx hb dX1_joinTwo_126 ?_
            refine lv_if_gt (tgt := 139) hx hb dX1_joinTwo_127 (by decide) (fun c16 => ?_) (fun c16 => ?_)
            · have c16 : (1000000000 : Int64) < w15 := (lg_cgt _ _).mp c16
              refine lv_ldc2 hx hb hown (hts _ kL_X1_155) dX1_joinTwo_139 ?_
              refine lv_goto (tgt := 147) hx hb dX1_joinTwo_142 (by decide) ?_
              exact z_lret C0 hr hlk hK hP hD hS (0, fun _ => 0, fun _ => 0, fun _ => 0, fun _ => (fun _ => 0), fun _ => (fun _ => 0), fun _ => (fun _ => none)) ⟨rfl, (by decide)⟩ [] rfl rfl rfl dX1_joinTwo_147
            · have c16 : ¬ (1000000000 : Int64) < w15 := fun q => c16 ((lg_cgt _ _).mpr q)
              refine lv_lload hx hb dX1_joinTwo_130 (lv_at hl 0 rfl) ?_
              refine lv_ldc2 hx hb hown (hts _ kL_X1_172) dX1_joinTwo_132 ?_
              refine W.lcmp hx hb dX1_joinTwo_135 ?_
              refine lv_if_ge (tgt := 145) hx hb dX1_joinTwo_136 (by decide) (fun c17 => ?_) (fun c17 => ?_)
              · have c17 : ¬ w15 < (-1000000000) := (lg_cge _ _).mp c17
                refine lv_lload hx hb dX1_joinTwo_145 (lv_at hl 0 rfl) ?_
                exact z_lret C0 hr hlk hK hP hD hS (0, fun _ => 0, fun _ => 0, fun _ => 0, fun _ => (fun _ => 0), fun _ => (fun _ => 0), fun _ => (fun _ => none)) ⟨rfl, (by revert c16 c17; first | (simp only [vp_in_iff, Int32.lt_iff_toInt_lt, Int32.le_iff_toInt_le, Int64.lt_iff_toInt_lt, Int64.le_iff_toInt_le, Int32.toInt_toInt64, ← Int32.toInt_inj, ← Int64.toInt_inj, Int32.reduceToInt, Int64.reduceToInt] <;> omega) | omega)⟩ [] rfl rfl rfl dX1_joinTwo_147
              · have c17 : w15 < (-1000000000) := Decidable.not_not.mp (fun q => c17 ((lg_cge _ _).mpr q))
                refine lv_ldc2 hx hb hown (hts _ kL_X1_155) dX1_joinTwo_139 ?_
                refine lv_goto (tgt := 147) hx hb dX1_joinTwo_142 (by decide) ?_
                exact z_lret C0 hr hlk hK hP hD hS (0, fun _ => 0, fun _ => 0, fun _ => 0, fun _ => (fun _ => 0), fun _ => (fun _ => 0), fun _ => (fun _ => none)) ⟨rfl, (by decide)⟩ [] rfl rfl rfl dX1_joinTwo_147
          · have c14 : g_2 = 0 := (lg_ceq _ _).mp c14
            refine lv_ldc2 hx hb hown (hts _ kL_X1_155) dX1_joinTwo_110 ?_
            refine lv_goto (tgt := 119) hx hb dX1_joinTwo_113 (by decide) ?_
            refine lv_lstore (lv' := [(5, .long 4611686018427387904), (0, .int x_0), (1, .long g_1), (3, .long g_2)]) hx hb dX1_joinTwo_119 hl (by decide) rfl (fun ls hl => ?_)
            refine lv_lload hx hb dX1_joinTwo_121 (lv_at hl 0 rfl) ?_
            refine lv_ldc2 hx hb hown (hts _ kL_X1_170) dX1_joinTwo_123 ?_
            refine W.lcmp hx hb dX1_joinTwo_126 ?_
            refine lv_toc (v := 1) (by decide) ?_
            refine lv_if_gt (tgt := 139) hx hb dX1_joinTwo_127 (by decide) (fun _ => ?_) (fun c18 => absurd (by decide) c18)
            refine lv_ldc2 hx hb hown (hts _ kL_X1_155) dX1_joinTwo_139 ?_
            refine lv_goto (tgt := 147) hx hb dX1_joinTwo_142 (by decide) ?_
            exact z_lret C0 hr hlk hK hP hD hS (0, fun _ => 0, fun _ => 0, fun _ => 0, fun _ => (fun _ => 0), fun _ => (fun _ => 0), fun _ => (fun _ => none)) ⟨rfl, (by decide)⟩ [] rfl rfl rfl dX1_joinTwo_147
        · by_cases c19 : x_0 = 6
          · refine lv_tableIn (off := 43) (tgt := 44) hx hb dX1_joinTwo_1 (by rw [c19]; decide) (by rw [c19]; decide) (by rw [c19]; rfl) (by decide) ?_
            refine lv_lload_n hx hb dX1_joinTwo_44 rfl (lv_at hl 1 rfl) ?_
            refine lv_lload_n hx hb dX1_joinTwo_45 rfl (lv_at hl 2 rfl) ?_
            refine W.lcmp hx hb dX1_joinTwo_46 ?_
            refine lv_if_ge (tgt := 54) hx hb dX1_joinTwo_47 (by decide) (fun c20 => ?_) (fun c20 => ?_)
            · have c20 : ¬ g_1 < g_2 := (lg_cge _ _).mp c20
              refine lv_lconst (v := 0) hx hb dX1_joinTwo_54 (by decide) ?_
              exact z_lret C0 hr hlk hK hP hD hS (0, fun _ => 0, fun _ => 0, fun _ => 0, fun _ => (fun _ => 0), fun _ => (fun _ => 0), fun _ => (fun _ => none)) ⟨rfl, (by decide)⟩ [] rfl rfl rfl dX1_joinTwo_55
            · have c20 : g_1 < g_2 := Decidable.not_not.mp (fun q => c20 ((lg_cge _ _).mpr q))
              refine lv_lconst (v := 1) hx hb dX1_joinTwo_50 (by decide) ?_
              refine lv_goto (tgt := 55) hx hb dX1_joinTwo_51 (by decide) ?_
              exact z_lret C0 hr hlk hK hP hD hS (0, fun _ => 0, fun _ => 0, fun _ => 0, fun _ => (fun _ => 0), fun _ => (fun _ => 0), fun _ => (fun _ => none)) ⟨rfl, (by decide)⟩ [] rfl rfl rfl dX1_joinTwo_55
          · by_cases c21 : x_0 = 7
            · refine lv_tableIn (off := 55) (tgt := 56) hx hb dX1_joinTwo_1 (by rw [c21]; decide) (by rw [c21]; decide) (by rw [c21]; rfl) (by decide) ?_
              refine lv_lload_n hx hb dX1_joinTwo_56 rfl (lv_at hl 1 rfl) ?_
              refine lv_lload_n hx hb dX1_joinTwo_57 rfl (lv_at hl 2 rfl) ?_
              refine W.lcmp hx hb dX1_joinTwo_58 ?_
              refine lv_if_le (tgt := 66) hx hb dX1_joinTwo_59 (by decide) (fun c22 => ?_) (fun c22 => ?_)
              · have c22 : ¬ g_2 < g_1 := (lg_cle _ _).mp c22
                refine lv_lconst (v := 0) hx hb dX1_joinTwo_66 (by decide) ?_
                exact z_lret C0 hr hlk hK hP hD hS (0, fun _ => 0, fun _ => 0, fun _ => 0, fun _ => (fun _ => 0), fun _ => (fun _ => 0), fun _ => (fun _ => none)) ⟨rfl, (by decide)⟩ [] rfl rfl rfl dX1_joinTwo_67
              · have c22 : g_2 < g_1 := Decidable.not_not.mp (fun q => c22 ((lg_cle _ _).mpr q))
                refine lv_lconst (v := 1) hx hb dX1_joinTwo_62 (by decide) ?_
                refine lv_goto (tgt := 67) hx hb dX1_joinTwo_63 (by decide) ?_
                exact z_lret C0 hr hlk hK hP hD hS (0, fun _ => 0, fun _ => 0, fun _ => 0, fun _ => (fun _ => 0), fun _ => (fun _ => 0), fun _ => (fun _ => none)) ⟨rfl, (by decide)⟩ [] rfl rfl rfl dX1_joinTwo_67
            · by_cases c23 : x_0 = 8
              · refine lv_tableIn (off := 67) (tgt := 68) hx hb dX1_joinTwo_1 (by rw [c23]; decide) (by rw [c23]; decide) (by rw [c23]; rfl) (by decide) ?_
                refine lv_lload_n hx hb dX1_joinTwo_68 rfl (lv_at hl 1 rfl) ?_
                refine lv_lload_n hx hb dX1_joinTwo_69 rfl (lv_at hl 2 rfl) ?_
                refine W.lcmp hx hb dX1_joinTwo_70 ?_
                refine lv_if_ne (tgt := 78) hx hb dX1_joinTwo_71 (by decide) (fun c24 => ?_) (fun c24 => ?_)
                · have c24 : ¬ g_1 = g_2 := fun q => c24 ((lg_ceq _ _).mpr q)
                  refine lv_lconst (v := 0) hx hb dX1_joinTwo_78 (by decide) ?_
                  exact z_lret C0 hr hlk hK hP hD hS (0, fun _ => 0, fun _ => 0, fun _ => 0, fun _ => (fun _ => 0), fun _ => (fun _ => 0), fun _ => (fun _ => none)) ⟨rfl, (by decide)⟩ [] rfl rfl rfl dX1_joinTwo_79
                · have c24 : g_1 = g_2 := (lg_ceq _ _).mp c24
                  refine lv_lconst (v := 1) hx hb dX1_joinTwo_74 (by decide) ?_
                  refine lv_goto (tgt := 79) hx hb dX1_joinTwo_75 (by decide) ?_
                  exact z_lret C0 hr hlk hK hP hD hS (0, fun _ => 0, fun _ => 0, fun _ => 0, fun _ => (fun _ => 0), fun _ => (fun _ => 0), fun _ => (fun _ => none)) ⟨rfl, (by decide)⟩ [] rfl rfl rfl dX1_joinTwo_79
              · refine lv_tableOut (tgt := 104) hx hb dX1_joinTwo_1 (by have := Int32.le_toInt x_0; have := Int32.toInt_lt x_0; revert c1 c5 c9 c13 c19 c21 c23; first | omega | (simp only [vp_in_iff, Int32.lt_iff_toInt_lt, Int32.le_iff_toInt_le, Int64.lt_iff_toInt_lt, Int64.le_iff_toInt_le, Int32.toInt_toInt64, ← Int32.toInt_inj, ← Int64.toInt_inj, Int32.reduceToInt, Int64.reduceToInt] <;> omega)) (by decide) ?_
                refine lv_lload_n hx hb dX1_joinTwo_104 rfl (lv_at hl 2 rfl) ?_
                refine lv_lconst (v := 0) hx hb dX1_joinTwo_105 (by decide) ?_
                refine W.lcmp hx hb dX1_joinTwo_106 ?_
                refine lv_if_ne (tgt := 116) hx hb dX1_joinTwo_107 (by decide) (fun c25 => ?_) (fun c25 => ?_)
                · have c25 : ¬ g_2 = 0 := fun q => c25 ((lg_ceq _ _).mpr q)
                  refine lv_lload_n hx hb dX1_joinTwo_116 rfl (lv_at hl 1 rfl) ?_
                  refine lv_lload_n hx hb dX1_joinTwo_117 rfl (lv_at hl 2 rfl) ?_
                  refine lv_ldiv hx hb dX1_joinTwo_118 c25 ?_
                  refine lv_topl (fun w26 ew26 => ?_)
                  refine lv_lstore (lv' := [(5, .long w26), (0, .int x_0), (1, .long g_1), (3, .long g_2)]) hx hb dX1_joinTwo_119 hl (by decide) rfl (fun ls hl => ?_)
                  refine lv_lload hx hb dX1_joinTwo_121 (lv_at hl 0 rfl) ?_
                  refine lv_ldc2 hx hb hown (hts _ kL_X1_170) dX1_joinTwo_123 ?_
                  refine W.lcmp hx hb dX1_joinTwo_126 ?_
                  refine lv_if_gt (tgt := 139) hx hb dX1_joinTwo_127 (by decide) (fun c27 => ?_) (fun c27 => ?_)
                  · have c27 : (1000000000 : Int64) < w26 := (lg_cgt _ _).mp c27
                    refine lv_ldc2 hx hb hown (hts _ kL_X1_155) dX1_joinTwo_139 ?_
                    refine lv_goto (tgt := 147) hx hb dX1_joinTwo_142 (by decide) ?_
                    exact z_lret C0 hr hlk hK hP hD hS (0, fun _ => 0, fun _ => 0, fun _ => 0, fun _ => (fun _ => 0), fun _ => (fun _ => 0), fun _ => (fun _ => none)) ⟨rfl, (by decide)⟩ [] rfl rfl rfl dX1_joinTwo_147
                  · have c27 : ¬ (1000000000 : Int64) < w26 := fun q => c27 ((lg_cgt _ _).mpr q)
                    refine lv_lload hx hb dX1_joinTwo_130 (lv_at hl 0 rfl) ?_
                    refine lv_ldc2 hx hb hown (hts _ kL_X1_172) dX1_joinTwo_132 ?_
                    refine W.lcmp hx hb dX1_joinTwo_135 ?_
                    refine lv_if_ge (tgt := 145) hx hb dX1_joinTwo_136 (by decide) (fun c28 => ?_) (fun c28 => ?_)
                    · have c28 : ¬ w26 < (-1000000000) := (lg_cge _ _).mp c28
                      refine lv_lload hx hb dX1_joinTwo_145 (lv_at hl 0 rfl) ?_
                      exact z_lret C0 hr hlk hK hP hD hS (0, fun _ => 0, fun _ => 0, fun _ => 0, fun _ => (fun _ => 0), fun _ => (fun _ => 0), fun _ => (fun _ => none)) ⟨rfl, (by revert c27 c28; first | (simp only [vp_in_iff, Int32.lt_iff_toInt_lt, Int32.le_iff_toInt_le, Int64.lt_iff_toInt_lt, Int64.le_iff_toInt_le, Int32.toInt_toInt64, ← Int32.toInt_inj, ← Int64.toInt_inj, Int32.reduceToInt, Int64.reduceToInt] <;> omega) | omega)⟩ [] rfl rfl rfl dX1_joinTwo_147
                    · have c28 : w26 < (-1000000000) := Decidable.not_not.mp (fun q => c28 ((lg_cge _ _).mpr q))
                      refine lv_ldc2 hx hb hown (hts _ kL_X1_155) dX1_joinTwo_139 ?_
                      refine lv_goto (tgt := 147) hx hb dX1_joinTwo_142 (by decide) ?_
                      exact z_lret C0 hr hlk hK hP hD hS (0, fun _ => 0, fun _ => 0, fun _ => 0, fun _ => (fun _ => 0), fun _ => (fun _ => 0), fun _ => (fun _ => none)) ⟨rfl, (by decide)⟩ [] rfl rfl rfl dX1_joinTwo_147
                · have c25 : g_2 = 0 := (lg_ceq _ _).mp c25
                  refine lv_ldc2 hx hb hown (hts _ kL_X1_155) dX1_joinTwo_110 ?_
                  refine lv_goto (tgt := 119) hx hb dX1_joinTwo_113 (by decide) ?_
                  refine lv_lstore (lv' := [(5, .long 4611686018427387904), (0, .int x_0), (1, .long g_1), (3, .long g_2)]) hx hb dX1_joinTwo_119 hl (by decide) rfl (fun ls hl => ?_)
                  refine lv_lload hx hb dX1_joinTwo_121 (lv_at hl 0 rfl) ?_
                  refine lv_ldc2 hx hb hown (hts _ kL_X1_170) dX1_joinTwo_123 ?_
                  refine W.lcmp hx hb dX1_joinTwo_126 ?_
                  refine lv_toc (v := 1) (by decide) ?_
                  refine lv_if_gt (tgt := 139) hx hb dX1_joinTwo_127 (by decide) (fun _ => ?_) (fun c29 => absurd (by decide) c29)
                  refine lv_ldc2 hx hb hown (hts _ kL_X1_155) dX1_joinTwo_139 ?_
                  refine lv_goto (tgt := 147) hx hb dX1_joinTwo_142 (by decide) ?_
                  exact z_lret C0 hr hlk hK hP hD hS (0, fun _ => 0, fun _ => 0, fun _ => 0, fun _ => (fun _ => 0), fun _ => (fun _ => 0), fun _ => (fun _ => none)) ⟨rfl, (by decide)⟩ [] rfl rfl rfl dX1_joinTwo_147
