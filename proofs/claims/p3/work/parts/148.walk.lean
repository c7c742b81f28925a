set_option maxHeartbeats 4000000 in
set_option maxRecDepth 100000 in
theorem s_X2_figuresAlike_1 (l : Launch) (D : va_G) (k : Nat → ClassId) (T : zTy) (x_0 : Int32) (x_1 : Int32) : zMi l yX2_figuresAlike cX2_figuresAlike 6 (some .int) ({ frames := 0, cells := 0, slots := 0, locals := 0 }) D k T [.int x_0, .int x_1] [] (fun r u => u.1 = 0) (fun u => []) := by
  refine zMi_of (own := RX2) (by decide +kernel) rfl (Nat.le_of_ble_eq_true rfl) ?_
  intro p e s m args below meth c A ls C0 hr hlk hin hP hD hS hA hK hN hT hl
  have hx := C0.1
  have hb := C0.2.1
  have hml := C0.2.2.1
  have hown := C0.2.2.2.1
  have hts := C0.2.2.2.2
  have hl : lv_has ls 6 [(0, .int x_0), (1, .int x_1)] := hl
  have hP : va_P D vwCl [] s.heap := hP
  refine lv_iconst (v := 0) hx hb dX2_figuresAlike_0 (by decide) ?_
  refine lv_istore_n (lv' := [(2, .int 0), (0, .int x_0), (1, .int x_1)]) hx hb dX2_figuresAlike_1 rfl hl (by decide) rfl (fun ls hl => ?_)
  refine lv_iload_n hx hb dX2_figuresAlike_2 rfl (lv_at hl 1 rfl) ?_
  refine lv_istore_n (lv' := [(3, .int x_0), (2, .int 0), (0, .int x_0), (1, .int x_1)]) hx hb dX2_figuresAlike_3 rfl hl (by decide) rfl (fun ls hl => ?_)
  refine lv_iload_n hx hb dX2_figuresAlike_4 rfl (lv_at hl 3 rfl) ?_
  refine lv_istore (lv' := [(4, .int x_1), (3, .int x_0), (2, .int 0), (0, .int x_0), (1, .int x_1)]) hx hb dX2_figuresAlike_5 hl (by decide) rfl (fun ls hl => ?_)
  refine lv_iconst (v := 0) hx hb dX2_figuresAlike_7 (by decide) ?_
  refine lv_istore (lv' := [(5, .int 0), (4, .int x_1), (3, .int x_0), (2, .int 0), (0, .int x_0), (1, .int x_1)]) hx hb dX2_figuresAlike_8 hl (by decide) rfl (fun ls hl => ?_)
  have loop81 : ∀ (N82 : Nat) (y77 : Int32) (y78 : Int32) (y79 : Int32) (y80 : Int32) (H : Heap) (locs : List Loc) (ls : Array Slot), Int.toNat (8 - Int32.toInt y77) < N82 → 0 ≤ Int32.toInt y77 ∧ Int32.toInt y77 ≤ 8 → va_P D vwCl [] H → va_D A [] → va_S A s.heap H locs → lv_has ls 6 [(5, .int y77), (4, .int y78), (3, .int y79), (2, .int y80), (0, .int x_0), (1, .int x_1)] → W p l e { frames := 0, cells := 0, slots := 0, locals := 0 } s m args below meth c H locs 0 0 (MQ below (va_Qi (fun (r : Int32) (u : zS) => u.1 = 0) (zB D k A (fun (u : zS) => [])) A) args s 0 0 A) (F0 m 10 ls []) := by
    intro N82
    induction N82 with
    | zero => intro y77 y78 y79 y80 H locs ls hm; exact absurd hm (Nat.not_lt_zero _)
    | succ N82 ihN82 =>
      intro y77 y78 y79 y80 H locs ls hN82 hy77 hP hD hS hl
      refine lv_iload hx hb dX2_figuresAlike_10 (lv_at hl 0 rfl) ?_
      refine lv_bipush (v := 8) hx hb dX2_figuresAlike_12 (by decide) ?_
      refine lv_icmp_ge (tgt := 55) hx hb dX2_figuresAlike_14 (by decide) (fun c83 => ?_) (fun c83 => ?_)
      · refine lv_iload_n hx hb dX2_figuresAlike_55 rfl (lv_at hl 3 rfl) ?_
        exact z_iret C0 hr hlk rfl hK hP hD hS (0, fun _ => 0, fun _ => 0, fun _ => 0, fun _ => (fun _ => 0), fun _ => (fun _ => 0), fun _ => (fun _ => none)) rfl [] rfl rfl rfl dX2_figuresAlike_56
      · refine lv_iload_n hx hb dX2_figuresAlike_17 rfl (lv_at hl 3 rfl) ?_
        refine lv_iload_n hx hb dX2_figuresAlike_18 rfl (lv_at hl 2 rfl) ?_
        refine lv_bipush (v := 10) hx hb dX2_figuresAlike_19 (by decide) ?_
        refine lv_irem hx hb dX2_figuresAlike_21 (by decide) ?_
        refine lv_topi (fun y84 ey84 => ?_)
        refine lv_iload hx hb dX2_figuresAlike_22 (lv_at hl 1 rfl) ?_
        refine lv_bipush (v := 10) hx hb dX2_figuresAlike_24 (by decide) ?_
        refine lv_irem hx hb dX2_figuresAlike_26 (by decide) ?_
        refine lv_topi (fun y85 ey85 => ?_)
        refine lv_icmp_ne (tgt := 34) hx hb dX2_figuresAlike_27 (by decide) (fun c86 => ?_) (fun c86 => ?_)
        · refine lv_iconst (v := 0) hx hb dX2_figuresAlike_34 (by decide) ?_
          refine lv_iadd hx hb dX2_figuresAlike_35 ?_
          refine lv_topi (fun y87 ey87 => ?_)
          have hy87 : Int32.toInt y87 = Int32.toInt y80 + 0 := by rw [ey87]; exact zi_addc rfl (by decide) (by have := Int32.le_toInt y80; have := Int32.toInt_lt y80; first | omega | (simp only [vp_in_iff, Int32.lt_iff_toInt_lt, Int32.le_iff_toInt_le, Int64.lt_iff_toInt_lt, Int64.le_iff_toInt_le, Int32.toInt_toInt64, ← Int32.toInt_inj, ← Int64.toInt_inj, Int32.reduceToInt, Int64.reduceToInt] <;> omega))
          refine lv_istore_n (lv' := [(2, .int y87), (5, .int y77), (4, .int y78), (3, .int y79), (0, .int x_0), (1, .int x_1)]) hx hb dX2_figuresAlike_36 rfl hl (by decide) rfl (fun ls hl => ?_)
          refine lv_iload_n hx hb dX2_figuresAlike_37 rfl (lv_at hl 3 rfl) ?_
          refine lv_bipush (v := 10) hx hb dX2_figuresAlike_38 (by decide) ?_
          refine lv_idiv hx hb dX2_figuresAlike_40 (by decide) ?_
          refine lv_topi (fun y88 ey88 => ?_)
          refine lv_istore_n (lv' := [(3, .int y88), (2, .int y87), (5, .int y77), (4, .int y78), (0, .int x_0), (1, .int x_1)]) hx hb dX2_figuresAlike_41 rfl hl (by decide) rfl (fun ls hl => ?_)
          refine lv_iload hx hb dX2_figuresAlike_42 (lv_at hl 3 rfl) ?_
          refine lv_bipush (v := 10) hx hb dX2_figuresAlike_44 (by decide) ?_
          refine lv_idiv hx hb dX2_figuresAlike_46 (by decide) ?_
          refine lv_topi (fun y89 ey89 => ?_)
          refine lv_istore (lv' := [(4, .int y89), (3, .int y88), (2, .int y87), (5, .int y77), (0, .int x_0), (1, .int x_1)]) hx hb dX2_figuresAlike_47 hl (by decide) rfl (fun ls hl => ?_)
          obtain ⟨y90, ey90⟩ : ∃ q : Int32, q = y77 + 1 := ⟨_, rfl⟩
          have hy90 : Int32.toInt y90 = Int32.toInt y77 + 1 := by rw [ey90]; exact zi_addc rfl (by decide) (by revert hN82 hy77 c83; first | omega | (simp only [vp_in_iff, Int32.lt_iff_toInt_lt, Int32.le_iff_toInt_le, Int64.lt_iff_toInt_lt, Int64.le_iff_toInt_le, Int32.toInt_toInt64, ← Int32.toInt_inj, ← Int64.toInt_inj, Int32.reduceToInt, Int64.reduceToInt] <;> omega))
          refine lv_iinc (v := y90) (lv' := [(5, .int y90), (4, .int y89), (3, .int y88), (2, .int y87), (0, .int x_0), (1, .int x_1)]) hx hb dX2_figuresAlike_49 hl (k := 3) rfl (by rw [ey90]; exact zz_inc (by decide)) (by decide) rfl (fun ls hl => ?_)
          refine lv_goto (tgt := 10) hx hb dX2_figuresAlike_52 (by decide) ?_
          exact ihN82 y90 y89 y88 y87 _ _ ls (by revert hN82 hy77 c83 hy90; first | omega | (simp only [vp_in_iff, Int32.lt_iff_toInt_lt, Int32.le_iff_toInt_le, Int64.lt_iff_toInt_lt, Int64.le_iff_toInt_le, Int32.toInt_toInt64, ← Int32.toInt_inj, ← Int64.toInt_inj, Int32.reduceToInt, Int64.reduceToInt] <;> omega)) (by revert hN82 hy77 c83 hy90; first | omega | (simp only [vp_in_iff, Int32.lt_iff_toInt_lt, Int32.le_iff_toInt_le, Int64.lt_iff_toInt_lt, Int64.le_iff_toInt_le, Int32.toInt_toInt64, ← Int32.toInt_inj, ← Int64.toInt_inj, Int32.reduceToInt, Int64.reduceToInt] <;> omega)) hP hD hS (lv_sub hl [0, 1, 2, 3, 4, 5] rfl)
        · refine lv_iconst (v := 1) hx hb dX2_figuresAlike_30 (by decide) ?_
          refine lv_goto (tgt := 35) hx hb dX2_figuresAlike_31 (by decide) ?_
          refine lv_iadd hx hb dX2_figuresAlike_35 ?_
          refine lv_topi (fun y91 ey91 => ?_)
          refine lv_istore_n (lv' := [(2, .int y91), (5, .int y77), (4, .int y78), (3, .int y79), (0, .int x_0), (1, .int x_1)]) hx hb dX2_figuresAlike_36 rfl hl (by decide) rfl (fun ls hl => ?_)
          refine lv_iload_n hx hb dX2_figuresAlike_37 rfl (lv_at hl 3 rfl) ?_
          refine lv_bipush (v := 10) hx hb dX2_figuresAlike_38 (by decide) ?_
          refine lv_idiv hx hb dX2_figuresAlike_40 (by decide) ?_
          refine lv_topi (fun y92 ey92 => ?_)
          refine lv_istore_n (lv' := [(3, .int y92), (2, .int y91), (5, .int y77), (4, .int y78), (0, .int x_0), (1, .int x_1)]) hx hb dX2_figuresAlike_41 rfl hl (by decide) rfl (fun ls hl => ?_)
          refine lv_iload hx hb dX2_figuresAlike_42 (lv_at hl 3 rfl) ?_
          refine lv_bipush (v := 10) hx hb dX2_figuresAlike_44 (by decide) ?_
          refine lv_idiv hx hb dX2_figuresAlike_46 (by decide) ?_
          refine lv_topi (fun y93 ey93 => ?_)
          refine lv_istore (lv' := [(4, .int y93), (3, .int y92), (2, .int y91), (5, .int y77), (0, .int x_0), (1, .int x_1)]) hx hb dX2_figuresAlike_47 hl (by decide) rfl (fun ls hl => ?_)
          obtain ⟨y94, ey94⟩ : ∃ q : Int32, q = y77 + 1 := ⟨_, rfl⟩
          have hy94 : Int32.toInt y94 = Int32.toInt y77 + 1 := by rw [ey94]; exact zi_addc rfl (by decide) (by revert hN82 hy77 c83; first | omega | (simp only [vp_in_iff, Int32.lt_iff_toInt_lt, Int32.le_iff_toInt_le, Int64.lt_iff_toInt_lt, Int64.le_iff_toInt_le, Int32.toInt_toInt64, ← Int32.toInt_inj, ← Int64.toInt_inj, Int32.reduceToInt, Int64.reduceToInt] <;> omega))
          refine lv_iinc (v := y94) (lv' := [(5, .int y94), (4, .int y93), (3, .int y92), (2, .int y91), (0, .int x_0), (1, .int x_1)]) hx hb dX2_figuresAlike_49 hl (k := 3) rfl (by rw [ey94]; exact zz_inc (by decide)) (by decide) rfl (fun ls hl => ?_)
          refine lv_goto (tgt := 10) hx hb dX2_figuresAlike_52 (by decide) ?_
          exact ihN82 y94 y93 y92 y91 _ _ ls (by revert hN82 hy77 c83 hy94; first | omega | (simp only [vp_in_iff, Int32.lt_iff_toInt_lt, Int32.le_iff_toInt_le, Int64.lt_iff_toInt_lt, Int64.le_iff_toInt_le, Int32.toInt_toInt64, ← Int32.toInt_inj, ← Int64.toInt_inj, Int32.reduceToInt, Int64.reduceToInt] <;> omega)) (by revert hN82 hy77 c83 hy94; first | omega | (simp only [vp_in_iff, Int32.lt_iff_toInt_lt, Int32.le_iff_toInt_le, Int64.lt_iff_toInt_lt, Int64.le_iff_toInt_le, Int32.toInt_toInt64, ← Int32.toInt_inj, ← Int64.toInt_inj, Int32.reduceToInt, Int64.reduceToInt] <;> omega)) hP hD hS (lv_sub hl [0, 1, 2, 3, 4, 5] rfl)
  exact loop81 _ 0 x_1 x_0 0 _ _ _ (Nat.lt_succ_self _) (by first | omega | (simp only [vp_in_iff, Int32.lt_iff_toInt_lt, Int32.le_iff_toInt_le, Int64.lt_iff_toInt_lt, Int64.le_iff_toInt_le, Int32.toInt_toInt64, ← Int32.toInt_inj, ← Int64.toInt_inj, Int32.reduceToInt, Int64.reduceToInt] <;> omega)) hP hD hS (lv_sub hl [0, 1, 2, 3, 4, 5] rfl)

set_option maxHeartbeats 4000000 in
set_option maxRecDepth 100000 in
theorem s_X2_noteLikeness_1 (l : Launch) (D : va_G) (k : Nat → ClassId) (T : zTy) (q_0 : Nat) (q_1 : Nat) (q_2 : Nat) (q_3 : Nat) (q_4 : Nat) (q_5 : Nat) (q_6 : Nat) (q_7 : Nat) (q_8 : Nat) (q_9 : Nat) (q_10 : Nat) (q_11 : Nat) (q_12 : Nat) (q_13 : Nat) (q_14 : Nat) (q_15 : Nat) (q_16 : Nat) (q_17 : Nat) (q_18 : Nat) (x_0 : Int32) (x_1 : Int32) (x_2 : Int32) (x_3 : Int32) (x_4 : Int32) (x_5 : Int32) (x_6 : Int32) (x_7 : Int32) (x_8 : Int32) (x_9 : Int32) (f_10 : Nat → Int32) (f_11 : Nat → Int32) (f_12 : Nat → Int32) (h_x_1 : 0 ≤ Int32.toInt x_1 ∧ Int32.toInt x_1 ≤ 6) (h_x_6 : 0 ≤ Int32.toInt x_6 ∧ Int32.toInt x_6 ≤ 6) (h_x_7 : 0 ≤ Int32.toInt x_7 ∧ Int32.toInt x_7 ≤ 6) (h_x_8 : 0 ≤ Int32.toInt x_8 ∧ Int32.toInt x_8 ≤ 9) (h_x_9 : 0 ≤ Int32.toInt x_9 ∧ Int32.toInt x_9 ≤ 12) (h_f_10 : zR f_10 0 99999999) (h_f_11 : zR f_11 0 99999999) : zMv l yX2_noteLikeness cX2_noteLikeness 5 none ({ frames := 1, cells := 0, slots := 0, locals := 25 }) D k T [.ref q_0, .int x_0] [(q_0, .inr (2, [.ref q_5, .ref q_1, .ref q_6, .int x_1, .int x_2, .ref q_4, .ref q_7, .ref q_8, .int x_3, .int x_4, .int x_5, .ref q_9, .ref q_10, .ref q_11])), (q_1, .inr (4, [.int x_6, .ref q_3, .int x_7, .ref q_12, .ref q_2, .int x_8, .ref q_13, .ref q_14, .ref q_15, .int x_9, .ref q_16, .ref q_17, .ref q_18])), (q_2, .inl (k 0, 6, .inl f_10)), (q_3, .inl (k 0, 6, .inl f_11)), (q_4, .inl (k 0, 36, .inl f_12))] (fun u => u.1 = 0) (fun u => [(q_0, .inr (2, [.ref q_5, .ref q_1, .ref q_6, .int x_1, .int x_2, .ref q_4, .ref q_7, .ref q_8, .int x_3, .int x_4, .int x_5, .ref q_9, .ref q_10, .ref q_11])), (q_1, .inr (4, [.int x_6, .ref q_3, .int x_7, .ref q_12, .ref q_2, .int x_8, .ref q_13, .ref q_14, .ref q_15, .int x_9, .ref q_16, .ref q_17, .ref q_18])), (q_2, .inl (k 0, 6, .inl f_10)), (q_3, .inl (k 0, 6, .inl f_11)), (q_4, .inl (k 0, 36, .inl (u.2.2.2.2.1 0)))]) := by
  refine zMv_of (own := RX2) (by decide +kernel) rfl (Nat.le_of_ble_eq_true rfl) ?_
  intro p e s m args below meth c A ls C0 hr hlk hin hP hD hS hA hK hN hT hl
  have hx := C0.1
  have hb := C0.2.1
  have hml := C0.2.2.1
  have hown := C0.2.2.2.1
  have hts := C0.2.2.2.2
  have hl : lv_has ls 5 [(0, .ref q_0), (1, .int x_0)] := hl
  have hP : va_P D vwCl [(q_0, .inr (2, [.ref q_5, .ref q_1, .ref q_6, .int x_1, .int x_2, .ref q_4, .ref q_7, .ref q_8, .int x_3, .int x_4, .int x_5, .ref q_9, .ref q_10, .ref q_11])), (q_1, .inr (4, [.int x_6, .ref q_3, .int x_7, .ref q_12, .ref q_2, .int x_8, .ref q_13, .ref q_14, .ref q_15, .int x_9, .ref q_16, .ref q_17, .ref q_18])), (q_2, .inl (k 0, 6, .inl f_10)), (q_3, .inl (k 0, 6, .inl f_11)), (q_4, .inl (k 0, 36, .inl f_12))] s.heap := hP
  refine lv_iconst (v := 0) hx hb dX2_noteLikeness_0 (by decide) ?_
  refine lv_istore_n (lv' := [(2, .int 0), (0, .ref q_0), (1, .int x_0)]) hx hb dX2_noteLikeness_1 rfl hl (by decide) rfl (fun ls hl => ?_)
  have loop13 : ∀ (N14 : Nat) (y11 : Int32) (F12 : Nat → Int32) (H : Heap) (locs : List Loc) (ls : Array Slot), Int.toNat (6 - Int32.toInt y11) < N14 → 0 ≤ Int32.toInt y11 ∧ Int32.toInt y11 ≤ 6 → va_P D vwCl [(q_0, .inr (2, [.ref q_5, .ref q_1, .ref q_6, .int x_1, .int x_2, .ref q_4, .ref q_7, .ref q_8, .int x_3, .int x_4, .int x_5, .ref q_9, .ref q_10, .ref q_11])), (q_1, .inr (4, [.int x_6, .ref q_3, .int x_7, .ref q_12, .ref q_2, .int x_8, .ref q_13, .ref q_14, .ref q_15, .int x_9, .ref q_16, .ref q_17, .ref q_18])), (q_2, .inl (k 0, 6, .inl f_10)), (q_3, .inl (k 0, 6, .inl f_11)), (q_4, .inl (k 0, 36, .inl F12))] H → va_D A [(q_0, .inr (2, [.ref q_5, .ref q_1, .ref q_6, .int x_1, .int x_2, .ref q_4, .ref q_7, .ref q_8, .int x_3, .int x_4, .int x_5, .ref q_9, .ref q_10, .ref q_11])), (q_1, .inr (4, [.int x_6, .ref q_3, .int x_7, .ref q_12, .ref q_2, .int x_8, .ref q_13, .ref q_14, .ref q_15, .int x_9, .ref q_16, .ref q_17, .ref q_18])), (q_2, .inl (k 0, 6, .inl f_10)), (q_3, .inl (k 0, 6, .inl f_11)), (q_4, .inl (k 0, 36, .inl F12))] → va_S A s.heap H locs → lv_has ls 5 [(2, .int y11), (0, .ref q_0), (1, .int x_0)] → W p l e { frames := 1, cells := 0, slots := 0, locals := 25 } s m args below meth c H locs 0 0 (MQ below (va_Qv (fun (u : zS) => u.1 = 0) (zB D k A (fun (u : zS) => [(q_0, .inr (2, [.ref q_5, .ref q_1, .ref q_6, .int x_1, .int x_2, .ref q_4, .ref q_7, .ref q_8, .int x_3, .int x_4, .int x_5, .ref q_9, .ref q_10, .ref q_11])), (q_1, .inr (4, [.int x_6, .ref q_3, .int x_7, .ref q_12, .ref q_2, .int x_8, .ref q_13, .ref q_14, .ref q_15, .int x_9, .ref q_16, .ref q_17, .ref q_18])), (q_2, .inl (k 0, 6, .inl f_10)), (q_3, .inl (k 0, 6, .inl f_11)), (q_4, .inl (k 0, 36, .inl (u.2.2.2.2.1 0)))])) A) args s 0 0 A) (F0 m 2 ls []) := by
    intro N14
    induction N14 with
    | zero => intro y11 F12 H locs ls hm; exact absurd hm (Nat.not_lt_zero _)
    | succ N14 ihN14 =>
      intro y11 F12 H locs ls hN14 hy11 hP hD hS hl
      refine lv_iload_n hx hb dX2_noteLikeness_2 rfl (lv_at hl 0 rfl) ?_
      refine lv_aload_n hx hb dX2_noteLikeness_3 rfl (lv_at hl 1 rfl) ?_
      refine va_get (D := D) (ci := 2) (v := .ref q_1) (C := RX2) (T := TX2) (N := 14) hx hb hts inX2 hown hK hP 0 rfl rfl 1 (by decide) (hts _ kF_X2_48) (fun _ h9 => h9) rfl dX2_noteLikeness_4 ?_
      refine va_get (D := D) (ci := 4) (v := .int x_7) (C := RX4) (T := TX4) (N := 13) hx hb hts inX4 hown hK hP 1 rfl rfl 2 (by decide) (hts _ kF_X2_58) (fun _ h9 => h9) rfl dX2_noteLikeness_7 ?_
      refine lv_icmp_ge (tgt := 84) hx hb dX2_noteLikeness_10 (by decide) (fun c15 => ?_) (fun c15 => ?_)
      · exact z_vret C0 hr hlk hK hP hD hS (0, fun _ => 0, fun _ => 0, fun _ => 0, fun i => [F12].getD i (fun _ => 0), fun _ => (fun _ => 0), fun _ => (fun _ => none)) rfl [0, 1, 2, 3, 4] rfl rfl rfl dX2_noteLikeness_84
      · refine lv_iconst (v := 0) hx hb dX2_noteLikeness_13 (by decide) ?_
        refine lv_istore_n (lv' := [(3, .int 0), (2, .int y11), (0, .ref q_0), (1, .int x_0)]) hx hb dX2_noteLikeness_14 rfl hl (by decide) rfl (fun ls hl => ?_)
        have loop28 : ∀ (N29 : Nat) (y26 : Int32) (F27 : Nat → Int32) (H : Heap) (locs : List Loc) (ls : Array Slot), Int.toNat (6 - Int32.toInt y26) < N29 → 0 ≤ Int32.toInt y26 ∧ Int32.toInt y26 ≤ 6 → va_P D vwCl [(q_0, .inr (2, [.ref q_5, .ref q_1, .ref q_6, .int x_1, .int x_2, .ref q_4, .ref q_7, .ref q_8, .int x_3, .int x_4, .int x_5, .ref q_9, .ref q_10, .ref q_11])), (q_1, .inr (4, [.int x_6, .ref q_3, .int x_7, .ref q_12, .ref q_2, .int x_8, .ref q_13, .ref q_14, .ref q_15, .int x_9, .ref q_16, .ref q_17, .ref q_18])), (q_2, .inl (k 0, 6, .inl f_10)), (q_3, .inl (k 0, 6, .inl f_11)), (q_4, .inl (k 0, 36, .inl F27))] H → va_D A [(q_0, .inr (2, [.ref q_5, .ref q_1, .ref q_6, .int x_1, .int x_2, .ref q_4, .ref q_7, .ref q_8, .int x_3, .int x_4, .int x_5, .ref q_9, .ref q_10, .ref q_11])), (q_1, .inr (4, [.int x_6, .ref q_3, .int x_7, .ref q_12, .ref q_2, .int x_8, .ref q_13, .ref q_14, .ref q_15, .int x_9, .ref q_16, .ref q_17, .ref q_18])), (q_2, .inl (k 0, 6, .inl f_10)), (q_3, .inl (k 0, 6, .inl f_11)), (q_4, .inl (k 0, 36, .inl F27))] → va_S A s.heap H locs → lv_has ls 5 [(3, .int y26), (2, .int y11), (0, .ref q_0), (1, .int x_0)] → W p l e { frames := 1, cells := 0, slots := 0, locals := 25 } s m args below meth c H locs 0 0 (MQ below (va_Qv (fun (u : zS) => u.1 = 0) (zB D k A (fun (u : zS) => [(q_0, .inr (2, [.ref q_5, .ref q_1, .ref q_6, .int x_1, .int x_2, .ref q_4, .ref q_7, .ref q_8, .int x_3, .int x_4, .int x_5, .ref q_9, .ref q_10, .ref q_11])), (q_1, .inr (4, [.int x_6, .ref q_3, .int x_7, .ref q_12, .ref q_2, .int x_8, .ref q_13, .ref q_14, .ref q_15, .int x_9, .ref q_16, .ref q_17, .ref q_18])), (q_2, .inl (k 0, 6, .inl f_10)), (q_3, .inl (k 0, 6, .inl f_11)), (q_4, .inl (k 0, 36, .inl (u.2.2.2.2.1 0)))])) A) args s 0 0 A) (F0 m 15 ls []) := by
          intro N29
          induction N29 with
          | zero => intro y26 F27 H locs ls hm; exact absurd hm (Nat.not_lt_zero _)
          | succ N29 ihN29 =>
            intro y26 F27 H locs ls hN29 hy26 hP hD hS hl
            refine lv_iload_n hx hb dX2_noteLikeness_15 rfl (lv_at hl 0 rfl) ?_
            refine lv_aload_n hx hb dX2_noteLikeness_16 rfl (lv_at hl 2 rfl) ?_
            refine va_get (D := D) (ci := 2) (v := .ref q_1) (C := RX2) (T := TX2) (N := 14) hx hb hts inX2 hown hK hP 0 rfl rfl 1 (by decide) (hts _ kF_X2_48) (fun _ h9 => h9) rfl dX2_noteLikeness_17 ?_
            refine va_get (D := D) (ci := 4) (v := .int x_6) (C := RX4) (T := TX4) (N := 13) hx hb hts inX4 hown hK hP 1 rfl rfl 0 (by decide) (hts _ kF_X2_49) (fun _ h9 => h9) rfl dX2_noteLikeness_20 ?_
            refine lv_icmp_ge (tgt := 78) hx hb dX2_noteLikeness_23 (by decide) (fun c30 => ?_) (fun c30 => ?_)
            · obtain ⟨y31, ey31⟩ : ∃ q : Int32, q = y11 + 1 := ⟨_, rfl⟩
              have hy31 : Int32.toInt y31 = Int32.toInt y11 + 1 := by rw [ey31]; exact zi_addc rfl (by decide) (by revert hN14 hy11 c15 h_x_7; first | omega | (simp only [vp_in_iff, Int32.lt_iff_toInt_lt, Int32.le_iff_toInt_le, Int64.lt_iff_toInt_lt, Int64.le_iff_toInt_le, Int32.toInt_toInt64, ← Int32.toInt_inj, ← Int64.toInt_inj, Int32.reduceToInt, Int64.reduceToInt] <;> omega))
              refine lv_iinc (v := y31) (lv' := [(2, .int y31), (3, .int y26), (0, .ref q_0), (1, .int x_0)]) hx hb dX2_noteLikeness_78 hl (k := 1) rfl (by rw [ey31]; exact zz_inc (by decide)) (by decide) rfl (fun ls hl => ?_)
              refine lv_goto (tgt := 2) hx hb dX2_noteLikeness_81 (by decide) ?_
              exact ihN14 y31 F27 _ _ ls (by revert hN14 hy11 c15 hy31 h_x_7; first | omega | (simp only [vp_in_iff, Int32.lt_iff_toInt_lt, Int32.le_iff_toInt_le, Int64.lt_iff_toInt_lt, Int64.le_iff_toInt_le, Int32.toInt_toInt64, ← Int32.toInt_inj, ← Int64.toInt_inj, Int32.reduceToInt, Int64.reduceToInt] <;> omega)) (by revert hN14 hy11 c15 hy31 h_x_7; first | omega | (simp only [vp_in_iff, Int32.lt_iff_toInt_lt, Int32.le_iff_toInt_le, Int64.lt_iff_toInt_lt, Int64.le_iff_toInt_le, Int32.toInt_toInt64, ← Int32.toInt_inj, ← Int64.toInt_inj, Int32.reduceToInt, Int64.reduceToInt] <;> omega)) hP hD hS (lv_sub hl [0, 2, 3] rfl)
            · refine lv_aload_n hx hb dX2_noteLikeness_26 rfl (lv_at hl 2 rfl) ?_
              refine va_get (D := D) (ci := 2) (v := .ref q_1) (C := RX2) (T := TX2) (N := 14) hx hb hts inX2 hown hK hP 0 rfl rfl 1 (by decide) (hts _ kF_X2_48) (fun _ h9 => h9) rfl dX2_noteLikeness_27 ?_
              refine va_get (D := D) (ci := 4) (v := .ref q_2) (C := RX4) (T := TX4) (N := 13) hx hb hts inX4 hown hK hP 1 rfl rfl 4 (by decide) (hts _ kF_X2_68) (fun _ h9 => h9) rfl dX2_noteLikeness_30 ?_
              refine lv_iload_n hx hb dX2_noteLikeness_33 rfl (lv_at hl 1 rfl) ?_
              refine va_iald hx hb hK hP 2 0 rfl rfl (by revert hN14 hy11 c15 h_x_7; first | omega | (simp only [vp_in_iff, Int32.lt_iff_toInt_lt, Int32.le_iff_toInt_le, Int64.lt_iff_toInt_lt, Int64.le_iff_toInt_le, Int32.toInt_toInt64, ← Int32.toInt_inj, ← Int64.toInt_inj, Int32.reduceToInt, Int64.reduceToInt] <;> omega)) dX2_noteLikeness_34 ?_
              refine lv_topi (fun y32 ey32 => ?_)
              have hy32 : 0 ≤ Int32.toInt y32 ∧ Int32.toInt y32 ≤ 99999999 := by rw [ey32]; exact h_f_10 _
              refine lv_aload_n hx hb dX2_noteLikeness_35 rfl (lv_at hl 2 rfl) ?_
              refine va_get (D := D) (ci := 2) (v := .ref q_1) (C := RX2) (T := TX2) (N := 14) hx hb hts inX2 hown hK hP 0 rfl rfl 1 (by decide) (hts _ kF_X2_48) (fun _ h9 => h9) rfl dX2_noteLikeness_36 ?_
              refine va_get (D := D) (ci := 4) (v := .ref q_3) (C := RX4) (T := TX4) (N := 13) hx hb hts inX4 hown hK hP 1 rfl rfl 1 (by decide) (hts _ kF_X2_71) (fun _ h9 => h9) rfl dX2_noteLikeness_39 ?_
              refine lv_iload_n hx hb dX2_noteLikeness_42 rfl (lv_at hl 0 rfl) ?_
              refine va_iald hx hb hK hP 3 0 rfl rfl (by revert hN29 hy26 c30 h_x_6; first | omega | (simp only [vp_in_iff, Int32.lt_iff_toInt_lt, Int32.le_iff_toInt_le, Int64.lt_iff_toInt_lt, Int64.le_iff_toInt_le, Int32.toInt_toInt64, ← Int32.toInt_inj, ← Int64.toInt_inj, Int32.reduceToInt, Int64.reduceToInt] <;> omega)) dX2_noteLikeness_43 ?_
              refine lv_topi (fun y33 ey33 => ?_)
              have hy33 : 0 ≤ Int32.toInt y33 ∧ Int32.toInt y33 ≤ 99999999 := by rw [ey33]; exact h_f_11 _
              refine z_bi0 (z_runS (As := [.int y32, .int y33]) (rest := []) C0 (s_X2_figuresAlike_1 l D k T y32 y33 _) okS_X2_figuresAlike kM_X2_74 rfl (z_p0 hT hS hA hK hN) rfl hl.1 rfl (Nat.le_of_ble_eq_true rfl) dX2_noteLikeness_44 rfl) hP hS hA (fun r34 u34 H locs hw34 hP hS => ?_)
              obtain ⟨i34, a34, v34, w34, f34, g34, o34⟩ := u34
              dsimp only at hw34
              obtain rfl := hw34
              refine lv_istore (lv' := [(4, .int r34), (3, .int y26), (2, .int y11), (0, .ref q_0), (1, .int x_0)]) hx hb dX2_noteLikeness_47 hl (by decide) rfl (fun ls hl => ?_)
              refine lv_aload_n hx hb dX2_noteLikeness_49 rfl (lv_at hl 3 rfl) ?_
              refine va_get (D := D) (ci := 2) (v := .ref q_4) (C := RX2) (T := TX2) (N := 14) hx hb hts inX2 hown hK hP 0 rfl rfl 5 (by decide) (hts _ kF_X2_19) (fun _ h9 => h9) rfl dX2_noteLikeness_50 ?_
              refine lv_iload_n hx hb dX2_noteLikeness_53 rfl (lv_at hl 2 rfl) ?_
              refine lv_bipush (v := 6) hx hb dX2_noteLikeness_54 (by decide) ?_
              refine lv_imul hx hb dX2_noteLikeness_56 ?_
              refine lv_topi (fun y35 ey35 => ?_)
              have hy35 : Int32.toInt y35 = Int32.toInt y11 * 6 := by rw [ey35]; exact zi_mulc rfl (by decide) (by revert hN14 hy11 c15 h_x_7; first | omega | (simp only [vp_in_iff, Int32.lt_iff_toInt_lt, Int32.le_iff_toInt_le, Int64.lt_iff_toInt_lt, Int64.le_iff_toInt_le, Int32.toInt_toInt64, ← Int32.toInt_inj, ← Int64.toInt_inj, Int32.reduceToInt, Int64.reduceToInt] <;> omega))
              refine lv_iload_n hx hb dX2_noteLikeness_57 rfl (lv_at hl 1 rfl) ?_
              refine lv_iadd hx hb dX2_noteLikeness_58 ?_
              refine lv_topi (fun y36 ey36 => ?_)
              have hy36 : Int32.toInt y36 = Int32.toInt y35 + Int32.toInt y26 := by rw [ey36]; exact zi_addc rfl rfl (by revert hN14 hy11 c15 hN29 hy26 c30 hy35 h_x_6 h_x_7; first | omega | (simp only [vp_in_iff, Int32.lt_iff_toInt_lt, Int32.le_iff_toInt_le, Int64.lt_iff_toInt_lt, Int64.le_iff_toInt_le, Int32.toInt_toInt64, ← Int32.toInt_inj, ← Int64.toInt_inj, Int32.reduceToInt, Int64.reduceToInt] <;> omega))
              refine lv_iload hx hb dX2_noteLikeness_59 (lv_at hl 0 rfl) ?_
              refine lv_iload_n hx hb dX2_noteLikeness_61 rfl (lv_at hl 4 rfl) ?_
              refine lv_icmp_ge (tgt := 69) hx hb dX2_noteLikeness_62 (by decide) (fun c37 => ?_) (fun c37 => ?_)
              · refine lv_iload hx hb dX2_noteLikeness_69 (lv_at hl 0 rfl) ?_
                refine va_iast hx hb hK hP hD hS 4 0 rfl rfl (by revert hN14 hy11 c15 hN29 hy26 c30 hy35 hy36 h_x_6 h_x_7; first | omega | (simp only [vp_in_iff, Int32.lt_iff_toInt_lt, Int32.le_iff_toInt_le, Int64.lt_iff_toInt_lt, Int64.le_iff_toInt_le, Int32.toInt_toInt64, ← Int32.toInt_inj, ← Int64.toInt_inj, Int32.reduceToInt, Int64.reduceToInt] <;> omega)) dX2_noteLikeness_71 (fun H locs hP hD hS => ?_)
                obtain ⟨F38, eF38⟩ : ∃ q, q = upd F27 (Int32.toNatClampNeg y36) r34 := ⟨_, rfl⟩
                have hP : va_P D vwCl [(q_0, .inr (2, [.ref q_5, .ref q_1, .ref q_6, .int x_1, .int x_2, .ref q_4, .ref q_7, .ref q_8, .int x_3, .int x_4, .int x_5, .ref q_9, .ref q_10, .ref q_11])), (q_1, .inr (4, [.int x_6, .ref q_3, .int x_7, .ref q_12, .ref q_2, .int x_8, .ref q_13, .ref q_14, .ref q_15, .int x_9, .ref q_16, .ref q_17, .ref q_18])), (q_2, .inl (k 0, 6, .inl f_10)), (q_3, .inl (k 0, 6, .inl f_11)), (q_4, .inl (k 0, 36, .inl F38))] H := by rw [eF38]; exact hP
                have hD : va_D A [(q_0, .inr (2, [.ref q_5, .ref q_1, .ref q_6, .int x_1, .int x_2, .ref q_4, .ref q_7, .ref q_8, .int x_3, .int x_4, .int x_5, .ref q_9, .ref q_10, .ref q_11])), (q_1, .inr (4, [.int x_6, .ref q_3, .int x_7, .ref q_12, .ref q_2, .int x_8, .ref q_13, .ref q_14, .ref q_15, .int x_9, .ref q_16, .ref q_17, .ref q_18])), (q_2, .inl (k 0, 6, .inl f_10)), (q_3, .inl (k 0, 6, .inl f_11)), (q_4, .inl (k 0, 36, .inl F38))] := by rw [eF38]; exact hD
                obtain ⟨y39, ey39⟩ : ∃ q : Int32, q = y26 + 1 := ⟨_, rfl⟩
                have hy39 : Int32.toInt y39 = Int32.toInt y26 + 1 := by rw [ey39]; exact zi_addc rfl (by decide) (by revert hN29 hy26 c30 hy36 h_x_6 hN14 hy11 c15 hy35 h_x_7; first | omega | (simp only [vp_in_iff, Int32.lt_iff_toInt_lt, Int32.le_iff_toInt_le, Int64.lt_iff_toInt_lt, Int64.le_iff_toInt_le, Int32.toInt_toInt64, ← Int32.toInt_inj, ← Int64.toInt_inj, Int32.reduceToInt, Int64.reduceToInt] <;> omega))
                refine lv_iinc (v := y39) (lv' := [(3, .int y39), (4, .int r34), (2, .int y11), (0, .ref q_0), (1, .int x_0)]) hx hb dX2_noteLikeness_72 hl (k := 1) rfl (by rw [ey39]; exact zz_inc (by decide)) (by decide) rfl (fun ls hl => ?_)
                refine lv_goto (tgt := 15) hx hb dX2_noteLikeness_75 (by decide) ?_
                exact ihN29 y39 F38 _ _ ls (by revert hN29 hy26 c30 hy36 hy39 h_x_6 hN14 hy11 c15 hy35 h_x_7; first | omega | (simp only [vp_in_iff, Int32.lt_iff_toInt_lt, Int32.le_iff_toInt_le, Int64.lt_iff_toInt_lt, Int64.le_iff_toInt_le, Int32.toInt_toInt64, ← Int32.toInt_inj, ← Int64.toInt_inj, Int32.reduceToInt, Int64.reduceToInt] <;> omega)) (by revert hN29 hy26 c30 hy36 hy39 h_x_6 hN14 hy11 c15 hy35 h_x_7; first | omega | (simp only [vp_in_iff, Int32.lt_iff_toInt_lt, Int32.le_iff_toInt_le, Int64.lt_iff_toInt_lt, Int64.le_iff_toInt_le, Int32.toInt_toInt64, ← Int32.toInt_inj, ← Int64.toInt_inj, Int32.reduceToInt, Int64.reduceToInt] <;> omega)) hP hD hS (lv_sub hl [0, 2, 3, 4] rfl)
              · refine lv_iconst (v := (-1)) hx hb dX2_noteLikeness_65 (by decide) ?_
                refine lv_goto (tgt := 71) hx hb dX2_noteLikeness_66 (by decide) ?_
                refine va_iast hx hb hK hP hD hS 4 0 rfl rfl (by revert hN14 hy11 c15 hN29 hy26 c30 hy35 hy36 h_x_6 h_x_7; first | omega | (simp only [vp_in_iff, Int32.lt_iff_toInt_lt, Int32.le_iff_toInt_le, Int64.lt_iff_toInt_lt, Int64.le_iff_toInt_le, Int32.toInt_toInt64, ← Int32.toInt_inj, ← Int64.toInt_inj, Int32.reduceToInt, Int64.reduceToInt] <;> omega)) dX2_noteLikeness_71 (fun H locs hP hD hS => ?_)
                obtain ⟨F40, eF40⟩ : ∃ q, q = upd F27 (Int32.toNatClampNeg y36) (-1) := ⟨_, rfl⟩
                have hP : va_P D vwCl [(q_0, .inr (2, [.ref q_5, .ref q_1, .ref q_6, .int x_1, .int x_2, .ref q_4, .ref q_7, .ref q_8, .int x_3, .int x_4, .int x_5, .ref q_9, .ref q_10, .ref q_11])), (q_1, .inr (4, [.int x_6, .ref q_3, .int x_7, .ref q_12, .ref q_2, .int x_8, .ref q_13, .ref q_14, .ref q_15, .int x_9, .ref q_16, .ref q_17, .ref q_18])), (q_2, .inl (k 0, 6, .inl f_10)), (q_3, .inl (k 0, 6, .inl f_11)), (q_4, .inl (k 0, 36, .inl F40))] H := by rw [eF40]; exact hP
                have hD : va_D A [(q_0, .inr (2, [.ref q_5, .ref q_1, .ref q_6, .int x_1, .int x_2, .ref q_4, .ref q_7, .ref q_8, .int x_3, .int x_4, .int x_5, .ref q_9, .ref q_10, .ref q_11])), (q_1, .inr (4, [.int x_6, .ref q_3, .int x_7, .ref q_12, .ref q_2, .int x_8, .ref q_13, .ref q_14, .ref q_15, .int x_9, .ref q_16, .ref q_17, .ref q_18])), (q_2, .inl (k 0, 6, .inl f_10)), (q_3, .inl (k 0, 6, .inl f_11)), (q_4, .inl (k 0, 36, .inl F40))] := by rw [eF40]; exact hD
                obtain ⟨y41, ey41⟩ : ∃ q : Int32, q = y26 + 1 := ⟨_, rfl⟩
                have hy41 : Int32.toInt y41 = Int32.toInt y26 + 1 := by rw [ey41]; exact zi_addc rfl (by decide) (by revert hN29 hy26 c30 hy36 h_x_6 hN14 hy11 c15 hy35 h_x_7; first | omega | (simp only [vp_in_iff, Int32.lt_iff_toInt_lt, Int32.le_iff_toInt_le, Int64.lt_iff_toInt_lt, Int64.le_iff_toInt_le, Int32.toInt_toInt64, ← Int32.toInt_inj, ← Int64.toInt_inj, Int32.reduceToInt, Int64.reduceToInt] <;> omega))
                refine lv_iinc (v := y41) (lv' := [(3, .int y41), (4, .int r34), (2, .int y11), (0, .ref q_0), (1, .int x_0)]) hx hb dX2_noteLikeness_72 hl (k := 1) rfl (by rw [ey41]; exact zz_inc (by decide)) (by decide) rfl (fun ls hl => ?_)
                refine lv_goto (tgt := 15) hx hb dX2_noteLikeness_75 (by decide) ?_
                exact ihN29 y41 F40 _ _ ls (by revert hN29 hy26 c30 hy36 hy41 h_x_6 hN14 hy11 c15 hy35 h_x_7; first | omega | (simp only [vp_in_iff, Int32.lt_iff_toInt_lt, Int32.le_iff_toInt_le, Int64.lt_iff_toInt_lt, Int64.le_iff_toInt_le, Int32.toInt_toInt64, ← Int32.toInt_inj, ← Int64.toInt_inj, Int32.reduceToInt, Int64.reduceToInt] <;> omega)) (by revert hN29 hy26 c30 hy36 hy41 h_x_6 hN14 hy11 c15 hy35 h_x_7; first | omega | (simp only [vp_in_iff, Int32.lt_iff_toInt_lt, Int32.le_iff_toInt_le, Int64.lt_iff_toInt_lt, Int64.le_iff_toInt_le, Int32.toInt_toInt64, ← Int32.toInt_inj, ← Int64.toInt_inj, Int32.reduceToInt, Int64.reduceToInt] <;> omega)) hP hD hS (lv_sub hl [0, 2, 3, 4] rfl)
        exact loop28 _ 0 F12 _ _ _ (Nat.lt_succ_self _) (by first | omega | (simp only [vp_in_iff, Int32.lt_iff_toInt_lt, Int32.le_iff_toInt_le, Int64.lt_iff_toInt_lt, Int64.le_iff_toInt_le, Int32.toInt_toInt64, ← Int32.toInt_inj, ← Int64.toInt_inj, Int32.reduceToInt, Int64.reduceToInt] <;> omega)) hP hD hS (lv_sub hl [0, 1, 2, 3] rfl)
  exact loop13 _ 0 f_12 _ _ _ (Nat.lt_succ_self _) (by first | omega | (simp only [vp_in_iff, Int32.lt_iff_toInt_lt, Int32.le_iff_toInt_le, Int64.lt_iff_toInt_lt, Int64.le_iff_toInt_le, Int32.toInt_toInt64, ← Int32.toInt_inj, ← Int64.toInt_inj, Int32.reduceToInt, Int64.reduceToInt] <;> omega)) hP hD hS (lv_sub hl [0, 1, 2] rfl)

set_option maxHeartbeats 4000000 in
set_option maxRecDepth 100000 in
theorem s_X2_scoreWith_115 (l : Launch) (D : va_G) (k : Nat → ClassId) (T : zTy) (q_0 : Nat) (q_1 : Nat) (q_2 : Nat) (q_3 : Nat) (q_4 : Nat) (q_5 : Nat) (q_6 : Nat) (q_7 : Nat) (q_8 : Nat) (q_9 : Nat) (x_0 : Int32) (x_1 : Int32) (x_2 : Int32) (x_3 : Int32) (x_4 : Int32) (x_5 : Int32) (x_6 : Int32) (x_7 : Int32) (f_8 : Nat → Int32) (f_9 : Nat → Int32) (h_x_0 : 0 ≤ Int32.toInt x_0 ∧ Int32.toInt x_0 ≤ 5) (h_x_1 : 0 ≤ Int32.toInt x_1 ∧ Int32.toInt x_1 ≤ 63) (h_x_2 : 0 ≤ Int32.toInt x_2 ∧ Int32.toInt x_2 ≤ 5) (h_x_3 : 0 ≤ Int32.toInt x_3 ∧ Int32.toInt x_3 ≤ 6) : zMi l yX2_scoreWith cX2_scoreWith 4 (some .int) ({ frames := 0, cells := 0, slots := 0, locals := 0 }) D k T [.ref q_0, .int x_0, .int x_1, .int x_2] [(q_0, .inr (2, [.ref q_3, .ref q_4, .ref q_5, .int x_3, .int x_4, .ref q_1, .ref q_2, .ref q_6, .int x_5, .int x_6, .int x_7, .ref q_7, .ref q_8, .ref q_9])), (q_1, .inl (k 0, 36, .inl f_8)), (q_2, .inl (k 0, 448, .inl f_9))] (fun r u => u.1 = 0) (fun u => [(q_0, .inr (2, [.ref q_3, .ref q_4, .ref q_5, .int x_3, .int x_4, .ref q_1, .ref q_2, .ref q_6, .int x_5, .int x_6, .int x_7, .ref q_7, .ref q_8, .ref q_9])), (q_1, .inl (k 0, 36, .inl f_8)), (q_2, .inl (k 0, 448, .inl f_9))]) := by
  refine zMi_of (own := RX2) (by decide +kernel) rfl (Nat.le_of_ble_eq_true rfl) ?_
  intro p e s m args below meth c A ls C0 hr hlk hin hP hD hS hA hK hN hT hl
  have hx := C0.1
  have hb := C0.2.1
  have hml := C0.2.2.1
  have hown := C0.2.2.2.1
  have hts := C0.2.2.2.2
  have hl : lv_has ls 4 [(0, .ref q_0), (1, .int x_0), (2, .int x_1), (3, .int x_2)] := hl
  have hP : va_P D vwCl [(q_0, .inr (2, [.ref q_3, .ref q_4, .ref q_5, .int x_3, .int x_4, .ref q_1, .ref q_2, .ref q_6, .int x_5, .int x_6, .int x_7, .ref q_7, .ref q_8, .ref q_9])), (q_1, .inl (k 0, 36, .inl f_8)), (q_2, .inl (k 0, 448, .inl f_9))] s.heap := hP
  refine lv_iload_n hx hb dX2_scoreWith_0 rfl (lv_at hl 2 rfl) ?_
  refine lv_iload_n hx hb dX2_scoreWith_1 rfl (lv_at hl 3 rfl) ?_
  refine lv_ishr hx hb dX2_scoreWith_2 ?_
  refine lv_topi (fun y1 ey1 => ?_)
  refine lv_iconst (v := 1) hx hb dX2_scoreWith_3 (by decide) ?_
  refine lv_iand hx hb dX2_scoreWith_4 ?_
  refine lv_topi (fun y2 ey2 => ?_)
  have hy2 : 0 ≤ Int32.toInt y2 ∧ Int32.toInt y2 ≤ 1 := by rw [ey2]; exact zo_and _ (by decide)
  refine lv_iconst (v := 1) hx hb dX2_scoreWith_5 (by decide) ?_
  refine lv_icmp_eq (tgt := 24) hx hb dX2_scoreWith_6 (by decide) (fun c3 => ?_) (fun c3 => ?_)
  · refine lv_iconst (v := (-1)) hx hb dX2_scoreWith_24 (by decide) ?_
    exact z_iret C0 hr hlk rfl hK hP hD hS (0, fun _ => 0, fun _ => 0, fun _ => 0, fun _ => (fun _ => 0), fun _ => (fun _ => 0), fun _ => (fun _ => none)) rfl [0, 1, 2] rfl rfl rfl dX2_scoreWith_25
  · refine lv_aload_n hx hb dX2_scoreWith_9 rfl (lv_at hl 0 rfl) ?_
    refine va_get (D := D) (ci := 2) (v := .ref q_1) (C := RX2) (T := TX2) (N := 14) hx hb hts inX2 hown hK hP 0 rfl rfl 5 (by decide) (hts _ kF_X2_19) (fun _ h9 => h9) rfl dX2_scoreWith_10 ?_
    refine lv_iload_n hx hb dX2_scoreWith_13 rfl (lv_at hl 1 rfl) ?_
    refine lv_bipush (v := 6) hx hb dX2_scoreWith_14 (by decide) ?_
    refine lv_imul hx hb dX2_scoreWith_16 ?_
    refine lv_topi (fun y4 ey4 => ?_)
    have hy4 : Int32.toInt y4 = Int32.toInt x_0 * 6 := by rw [ey4]; exact zi_mulc rfl (by decide) (by revert h_x_0; first | omega | (simp only [vp_in_iff, Int32.lt_iff_toInt_lt, Int32.le_iff_toInt_le, Int64.lt_iff_toInt_lt, Int64.le_iff_toInt_le, Int32.toInt_toInt64, ← Int32.toInt_inj, ← Int64.toInt_inj, Int32.reduceToInt, Int64.reduceToInt] <;> omega))
    refine lv_iload_n hx hb dX2_scoreWith_17 rfl (lv_at hl 3 rfl) ?_
    refine lv_iadd hx hb dX2_scoreWith_18 ?_
    refine lv_topi (fun y5 ey5 => ?_)
    have hy5 : Int32.toInt y5 = Int32.toInt y4 + Int32.toInt x_2 := by rw [ey5]; exact zi_addc rfl rfl (by revert h_x_0 h_x_2 hy4; first | omega | (simp only [vp_in_iff, Int32.lt_iff_toInt_lt, Int32.le_iff_toInt_le, Int64.lt_iff_toInt_lt, Int64.le_iff_toInt_le, Int32.toInt_toInt64, ← Int32.toInt_inj, ← Int64.toInt_inj, Int32.reduceToInt, Int64.reduceToInt] <;> omega))
    refine va_iald hx hb hK hP 1 0 rfl rfl (by revert h_x_0 h_x_2 hy4 hy5; first | omega | (simp only [vp_in_iff, Int32.lt_iff_toInt_lt, Int32.le_iff_toInt_le, Int64.lt_iff_toInt_lt, Int64.le_iff_toInt_le, Int32.toInt_toInt64, ← Int32.toInt_inj, ← Int64.toInt_inj, Int32.reduceToInt, Int64.reduceToInt] <;> omega)) dX2_scoreWith_19 ?_
    refine lv_topi (fun y6 ey6 => ?_)
    refine lv_iconst (v := (-1)) hx hb dX2_scoreWith_20 (by decide) ?_
    refine lv_icmp_ne (tgt := 26) hx hb dX2_scoreWith_21 (by decide) (fun c7 => ?_) (fun c7 => ?_)
    · refine lv_aload_n hx hb dX2_scoreWith_26 rfl (lv_at hl 0 rfl) ?_
      refine va_get (D := D) (ci := 2) (v := .ref q_2) (C := RX2) (T := TX2) (N := 14) hx hb hts inX2 hown hK hP 0 rfl rfl 6 (by decide) (hts _ kF_X2_22) (fun _ h9 => h9) rfl dX2_scoreWith_27 ?_
      refine lv_iload_n hx hb dX2_scoreWith_30 rfl (lv_at hl 1 rfl) ?_
      refine lv_iconst (v := 1) hx hb dX2_scoreWith_31 (by decide) ?_
      refine lv_iadd hx hb dX2_scoreWith_32 ?_
      refine lv_topi (fun y8 ey8 => ?_)
      have hy8 : Int32.toInt y8 = Int32.toInt x_0 + 1 := by rw [ey8]; exact zi_addc rfl (by decide) (by revert h_x_0 hy4 hy5 h_x_2; first | omega | (simp only [vp_in_iff, Int32.lt_iff_toInt_lt, Int32.le_iff_toInt_le, Int64.lt_iff_toInt_lt, Int64.le_iff_toInt_le, Int32.toInt_toInt64, ← Int32.toInt_inj, ← Int64.toInt_inj, Int32.reduceToInt, Int64.reduceToInt] <;> omega))
      refine lv_bipush (v := 64) hx hb dX2_scoreWith_33 (by decide) ?_
      refine lv_imul hx hb dX2_scoreWith_35 ?_
      refine lv_topi (fun y9 ey9 => ?_)
      have hy9 : Int32.toInt y9 = Int32.toInt y8 * 64 := by rw [ey9]; exact zi_mulc rfl (by decide) (by revert h_x_0 hy4 hy5 hy8 h_x_2; first | omega | (simp only [vp_in_iff, Int32.lt_iff_toInt_lt, Int32.le_iff_toInt_le, Int64.lt_iff_toInt_lt, Int64.le_iff_toInt_le, Int32.toInt_toInt64, ← Int32.toInt_inj, ← Int64.toInt_inj, Int32.reduceToInt, Int64.reduceToInt] <;> omega))
      refine lv_iload_n hx hb dX2_scoreWith_36 rfl (lv_at hl 2 rfl) ?_
      refine lv_iconst (v := 1) hx hb dX2_scoreWith_37 (by decide) ?_
      refine lv_iload_n hx hb dX2_scoreWith_38 rfl (lv_at hl 3 rfl) ?_
      refine lv_ishl hx hb dX2_scoreWith_39 ?_
      refine lv_topi (fun y10 ey10 => ?_)
      have hy10 : 1 ≤ Int32.toInt y10 ∧ Int32.toInt y10 ≤ 32 := by rw [ey10]; exact zo_shl1 5 (show 0 ≤ Int32.toInt x_2 ∧ Int32.toInt x_2 ≤ 5 by revert h_x_2 hy5 hy8 hy9 h_x_0 hy4; first | omega | (simp only [vp_in_iff, Int32.lt_iff_toInt_lt, Int32.le_iff_toInt_le, Int64.lt_iff_toInt_lt, Int64.le_iff_toInt_le, Int32.toInt_toInt64, ← Int32.toInt_inj, ← Int64.toInt_inj, Int32.reduceToInt, Int64.reduceToInt] <;> omega)) (by decide)
      refine lv_ior hx hb dX2_scoreWith_40 ?_
      refine lv_topi (fun y11 ey11 => ?_)
      have hy11 : 0 ≤ Int32.toInt y11 ∧ Int32.toInt y11 ≤ 63 := by rw [ey11]; exact zo_or 6 (show 0 ≤ Int32.toInt x_1 ∧ Int32.toInt x_1 < 2 ^ 6 by revert h_x_1 hy10; first | omega | (simp only [vp_in_iff, Int32.lt_iff_toInt_lt, Int32.le_iff_toInt_le, Int64.lt_iff_toInt_lt, Int64.le_iff_toInt_le, Int32.toInt_toInt64, ← Int32.toInt_inj, ← Int64.toInt_inj, Int32.reduceToInt, Int64.reduceToInt] <;> omega)) (show 0 ≤ Int32.toInt y10 ∧ Int32.toInt y10 < 2 ^ 6 by revert h_x_1 hy10; first | omega | (simp only [vp_in_iff, Int32.lt_iff_toInt_lt, Int32.le_iff_toInt_le, Int64.lt_iff_toInt_lt, Int64.le_iff_toInt_le, Int32.toInt_toInt64, ← Int32.toInt_inj, ← Int64.toInt_inj, Int32.reduceToInt, Int64.reduceToInt] <;> omega)) (by decide)
      refine lv_iadd hx hb dX2_scoreWith_41 ?_
      refine lv_topi (fun y12 ey12 => ?_)
      have hy12 : Int32.toInt y12 = Int32.toInt y9 + Int32.toInt y11 := by rw [ey12]; exact zi_addc rfl rfl (by revert h_x_0 hy4 hy5 hy8 hy9 hy11 h_x_2; first | omega | (simp only [vp_in_iff, Int32.lt_iff_toInt_lt, Int32.le_iff_toInt_le, Int64.lt_iff_toInt_lt, Int64.le_iff_toInt_le, Int32.toInt_toInt64, ← Int32.toInt_inj, ← Int64.toInt_inj, Int32.reduceToInt, Int64.reduceToInt] <;> omega))
      refine va_iald hx hb hK hP 2 0 rfl rfl (by revert h_x_0 hy4 hy5 hy8 hy9 hy11 hy12 h_x_2; first | omega | (simp only [vp_in_iff, Int32.lt_iff_toInt_lt, Int32.le_iff_toInt_le, Int64.lt_iff_toInt_lt, Int64.le_iff_toInt_le, Int32.toInt_toInt64, ← Int32.toInt_inj, ← Int64.toInt_inj, Int32.reduceToInt, Int64.reduceToInt] <;> omega)) dX2_scoreWith_42 ?_
      refine lv_topi (fun y13 ey13 => ?_)
      refine lv_aload_n hx hb dX2_scoreWith_43 rfl (lv_at hl 0 rfl) ?_
      refine va_get (D := D) (ci := 2) (v := .ref q_1) (C := RX2) (T := TX2) (N := 14) hx hb hts inX2 hown hK hP 0 rfl rfl 5 (by decide) (hts _ kF_X2_19) (fun _ h9 => h9) rfl dX2_scoreWith_44 ?_
      refine lv_iload_n hx hb dX2_scoreWith_47 rfl (lv_at hl 1 rfl) ?_
      refine lv_bipush (v := 6) hx hb dX2_scoreWith_48 (by decide) ?_
      refine lv_imul hx hb dX2_scoreWith_50 ?_
      refine lv_topi (fun y14 ey14 => ?_)
      have hy14 : Int32.toInt y14 = Int32.toInt x_0 * 6 := by rw [ey14]; exact zi_mulc rfl (by decide) (by revert h_x_0 hy4 hy5 hy8 hy9 hy12 h_x_2 hy11; first | omega | (simp only [vp_in_iff, Int32.lt_iff_toInt_lt, Int32.le_iff_toInt_le, Int64.lt_iff_toInt_lt, Int64.le_iff_toInt_le, Int32.toInt_toInt64, ← Int32.toInt_inj, ← Int64.toInt_inj, Int32.reduceToInt, Int64.reduceToInt] <;> omega))
      refine lv_iload_n hx hb dX2_scoreWith_51 rfl (lv_at hl 3 rfl) ?_
      refine lv_iadd hx hb dX2_scoreWith_52 ?_
      refine lv_topi (fun y15 ey15 => ?_)
      have hy15 : Int32.toInt y15 = Int32.toInt y14 + Int32.toInt x_2 := by rw [ey15]; exact zi_addc rfl rfl (by revert h_x_0 h_x_2 hy4 hy5 hy8 hy9 hy12 hy14 hy11; first | omega | (simp only [vp_in_iff, Int32.lt_iff_toInt_lt, Int32.le_iff_toInt_le, Int64.lt_iff_toInt_lt, Int64.le_iff_toInt_le, Int32.toInt_toInt64, ← Int32.toInt_inj, ← Int64.toInt_inj, Int32.reduceToInt, Int64.reduceToInt] <;> omega))
      refine va_iald hx hb hK hP 1 0 rfl rfl (by revert h_x_0 h_x_2 hy4 hy5 hy8 hy9 hy12 hy14 hy15 hy11; first | omega | (simp only [vp_in_iff, Int32.lt_iff_toInt_lt, Int32.le_iff_toInt_le, Int64.lt_iff_toInt_lt, Int64.le_iff_toInt_le, Int32.toInt_toInt64, ← Int32.toInt_inj, ← Int64.toInt_inj, Int32.reduceToInt, Int64.reduceToInt] <;> omega)) dX2_scoreWith_53 ?_
      refine lv_toc (v := y6) (show y6 = f_8 (Int32.toNatClampNeg y15) from (show y5 = y15 from Int32.toInt_inj.mp (by revert h_x_0 h_x_2 hy4 hy5 hy8 hy9 hy12 hy14 hy15 hy11; first | omega | (simp only [vp_in_iff, Int32.lt_iff_toInt_lt, Int32.le_iff_toInt_le, Int64.lt_iff_toInt_lt, Int64.le_iff_toInt_le, Int32.toInt_toInt64, ← Int32.toInt_inj, ← Int64.toInt_inj, Int32.reduceToInt, Int64.reduceToInt] <;> omega))) ▸ ey6).symm ?_
      refine lv_bipush (v := 8) hx hb dX2_scoreWith_54 (by decide) ?_
      refine lv_imul hx hb dX2_scoreWith_56 ?_
      refine lv_topi (fun y16 ey16 => ?_)
      refine lv_iadd hx hb dX2_scoreWith_57 ?_
      refine lv_topi (fun y17 ey17 => ?_)
      refine lv_iconst (v := 1) hx hb dX2_scoreWith_58 (by decide) ?_
      refine lv_iadd hx hb dX2_scoreWith_59 ?_
      refine lv_topi (fun y18 ey18 => ?_)
      exact z_iret C0 hr hlk rfl hK hP hD hS (0, fun _ => 0, fun _ => 0, fun _ => 0, fun _ => (fun _ => 0), fun _ => (fun _ => 0), fun _ => (fun _ => none)) rfl [0, 1, 2] rfl rfl rfl dX2_scoreWith_60
    · refine lv_iconst (v := (-1)) hx hb dX2_scoreWith_24 (by decide) ?_
      exact z_iret C0 hr hlk rfl hK hP hD hS (0, fun _ => 0, fun _ => 0, fun _ => 0, fun _ => (fun _ => 0), fun _ => (fun _ => 0), fun _ => (fun _ => none)) rfl [0, 1, 2] rfl rfl rfl dX2_scoreWith_25

set_option maxHeartbeats 4000000 in
set_option maxRecDepth 100000 in
theorem s_X2_weighJoins_46 (l : Launch) (D : va_G) (k : Nat → ClassId) (T : zTy) (q_0 : Nat) (q_1 : Nat) (q_2 : Nat) (q_3 : Nat) (q_4 : Nat) (q_5 : Nat) (q_6 : Nat) (q_7 : Nat) (q_8 : Nat) (q_9 : Nat) (q_10 : Nat) (q_11 : Nat) (q_12 : Nat) (q_13 : Nat) (q_14 : Nat) (q_15 : Nat) (q_16 : Nat) (q_17 : Nat) (q_18 : Nat) (x_0 : Int32) (x_1 : Int32) (x_2 : Int32) (x_3 : Int32) (x_4 : Int32) (x_5 : Int32) (x_6 : Int32) (f_7 : Nat → Int32) (f_8 : Nat → Int32) (x_9 : Int32) (x_10 : Int32) (x_11 : Int32) (x_12 : Int32) (f_13 : Nat → Int32) (h_x_0 : 0 ≤ Int32.toInt x_0 ∧ Int32.toInt x_0 ≤ 5) (h_x_1 : 0 ≤ Int32.toInt x_1 ∧ Int32.toInt x_1 ≤ 63) (h_x_2 : 0 ≤ Int32.toInt x_2 ∧ Int32.toInt x_2 ≤ 6) (h_x_9 : 0 ≤ Int32.toInt x_9 ∧ Int32.toInt x_9 ≤ 6) (h_x_10 : 0 ≤ Int32.toInt x_10 ∧ Int32.toInt x_10 ≤ 6) (h_x_11 : 0 ≤ Int32.toInt x_11 ∧ Int32.toInt x_11 ≤ 9) (h_x_12 : 0 ≤ Int32.toInt x_12 ∧ Int32.toInt x_12 ≤ 12) : zMv l yX2_weighJoins cX2_weighJoins 8 none ({ frames := 1, cells := 0, slots := 0, locals := 23 }) D k T [.ref q_0, .int x_0, .int x_1] [(q_0, .inr (2, [.ref q_5, .ref q_3, .ref q_6, .int x_2, .int x_3, .ref q_4, .ref q_1, .ref q_2, .int x_4, .int x_5, .int x_6, .ref q_7, .ref q_8, .ref q_9])), (q_1, .inl (k 0, 448, .inl f_7)), (q_2, .inl (k 0, 448, .inl f_8)), (q_3, .inr (4, [.int x_9, .ref q_10, .int x_10, .ref q_11, .ref q_12, .int x_11, .ref q_13, .ref q_14, .ref q_15, .int x_12, .ref q_16, .ref q_17, .ref q_18])), (q_4, .inl (k 0, 36, .inl f_13))] (fun u => u.1 = 0) (fun u => [(q_0, .inr (2, [.ref q_5, .ref q_3, .ref q_6, .int x_2, .int x_3, .ref q_4, .ref q_1, .ref q_2, .int x_4, .int x_5, .int x_6, .ref q_7, .ref q_8, .ref q_9])), (q_1, .inl (k 0, 448, .inl (u.2.2.2.2.1 0))), (q_2, .inl (k 0, 448, .inl (u.2.2.2.2.1 1))), (q_3, .inr (4, [.int x_9, .ref q_10, .int x_10, .ref q_11, .ref q_12, .int x_11, .ref q_13, .ref q_14, .ref q_15, .int x_12, .ref q_16, .ref q_17, .ref q_18])), (q_4, .inl (k 0, 36, .inl f_13))]) := by
  refine zMv_of (own := RX2) (by decide +kernel) rfl (Nat.le_of_ble_eq_true rfl) ?_
  intro p e s m args below meth c A ls C0 hr hlk hin hP hD hS hA hK hN hT hl
  have hx := C0.1
  have hb := C0.2.1
  have hml := C0.2.2.1
  have hown := C0.2.2.2.1
  have hts := C0.2.2.2.2
  have hl : lv_has ls 8 [(0, .ref q_0), (1, .int x_0), (2, .int x_1)] := hl
  have hP : va_P D vwCl [(q_0, .inr (2, [.ref q_5, .ref q_3, .ref q_6, .int x_2, .int x_3, .ref q_4, .ref q_1, .ref q_2, .int x_4, .int x_5, .int x_6, .ref q_7, .ref q_8, .ref q_9])), (q_1, .inl (k 0, 448, .inl f_7)), (q_2, .inl (k 0, 448, .inl f_8)), (q_3, .inr (4, [.int x_9, .ref q_10, .int x_10, .ref q_11, .ref q_12, .int x_11, .ref q_13, .ref q_14, .ref q_15, .int x_12, .ref q_16, .ref q_17, .ref q_18])), (q_4, .inl (k 0, 36, .inl f_13))] s.heap := hP
  refine lv_iload_n hx hb dX2_weighJoins_0 rfl (lv_at hl 1 rfl) ?_
  refine lv_bipush (v := 64) hx hb dX2_weighJoins_1 (by decide) ?_
  refine lv_imul hx hb dX2_weighJoins_3 ?_
  refine lv_topi (fun y1 ey1 => ?_)
  have hy1 : Int32.toInt y1 = Int32.toInt x_0 * 64 := by rw [ey1]; exact zi_mulc rfl (by decide) (by revert h_x_0; first | omega | (simp only [vp_in_iff, Int32.lt_iff_toInt_lt, Int32.le_iff_toInt_le, Int64.lt_iff_toInt_lt, Int64.le_iff_toInt_le, Int32.toInt_toInt64, ← Int32.toInt_inj, ← Int64.toInt_inj, Int32.reduceToInt, Int64.reduceToInt] <;> omega))
  refine lv_iload_n hx hb dX2_weighJoins_4 rfl (lv_at hl 2 rfl) ?_
  refine lv_iadd hx hb dX2_weighJoins_5 ?_
  refine lv_topi (fun y2 ey2 => ?_)
  have hy2 : Int32.toInt y2 = Int32.toInt y1 + Int32.toInt x_1 := by rw [ey2]; exact zi_addc rfl rfl (by revert h_x_0 h_x_1 hy1; first | omega | (simp only [vp_in_iff, Int32.lt_iff_toInt_lt, Int32.le_iff_toInt_le, Int64.lt_iff_toInt_lt, Int64.le_iff_toInt_le, Int32.toInt_toInt64, ← Int32.toInt_inj, ← Int64.toInt_inj, Int32.reduceToInt, Int64.reduceToInt] <;> omega))
  refine lv_istore_n (lv' := [(3, .int y2), (0, .ref q_0), (1, .int x_0), (2, .int x_1)]) hx hb dX2_weighJoins_6 rfl hl (by decide) rfl (fun ls hl => ?_)
  refine lv_aload_n hx hb dX2_weighJoins_7 rfl (lv_at hl 1 rfl) ?_
  refine va_get (D := D) (ci := 2) (v := .ref q_1) (C := RX2) (T := TX2) (N := 14) hx hb hts inX2 hown hK hP 0 rfl rfl 6 (by decide) (hts _ kF_X2_22) (fun _ h9 => h9) rfl dX2_weighJoins_8 ?_
  refine lv_iload_n hx hb dX2_weighJoins_11 rfl (lv_at hl 0 rfl) ?_
  refine lv_bipush (v := 64) hx hb dX2_weighJoins_12 (by decide) ?_
  refine lv_iadd hx hb dX2_weighJoins_14 ?_
  refine lv_topi (fun y3 ey3 => ?_)
  have hy3 : Int32.toInt y3 = Int32.toInt y2 + 64 := by rw [ey3]; exact zi_addc rfl (by decide) (by revert h_x_0 h_x_1 hy1 hy2; first | omega | (simp only [vp_in_iff, Int32.lt_iff_toInt_lt, Int32.le_iff_toInt_le, Int64.lt_iff_toInt_lt, Int64.le_iff_toInt_le, Int32.toInt_toInt64, ← Int32.toInt_inj, ← Int64.toInt_inj, Int32.reduceToInt, Int64.reduceToInt] <;> omega))
  refine va_iald hx hb hK hP 1 0 rfl rfl (by revert h_x_0 h_x_1 hy1 hy2 hy3; first | omega | (simp only [vp_in_iff, Int32.lt_iff_toInt_lt, Int32.le_iff_toInt_le, Int64.lt_iff_toInt_lt, Int64.le_iff_toInt_le, Int32.toInt_toInt64, ← Int32.toInt_inj, ← Int64.toInt_inj, Int32.reduceToInt, Int64.reduceToInt] <;> omega)) dX2_weighJoins_15 ?_
  refine lv_topi (fun y4 ey4 => ?_)
  refine lv_istore (lv' := [(4, .int y4), (3, .int y2), (0, .ref q_0), (1, .int x_0), (2, .int x_1)]) hx hb dX2_weighJoins_16 hl (by decide) rfl (fun ls hl => ?_)
  refine lv_aload_n hx hb dX2_weighJoins_18 rfl (lv_at hl 2 rfl) ?_
  refine va_get (D := D) (ci := 2) (v := .ref q_2) (C := RX2) (T := TX2) (N := 14) hx hb hts inX2 hown hK hP 0 rfl rfl 7 (by decide) (hts _ kF_X2_25) (fun _ h9 => h9) rfl dX2_weighJoins_19 ?_
  refine lv_iload_n hx hb dX2_weighJoins_22 rfl (lv_at hl 1 rfl) ?_
  refine lv_bipush (v := 64) hx hb dX2_weighJoins_23 (by decide) ?_
  refine lv_iadd hx hb dX2_weighJoins_25 ?_
  refine lv_topi (fun y5 ey5 => ?_)
  have hy5 : Int32.toInt y5 = Int32.toInt y2 + 64 := by rw [ey5]; exact zi_addc rfl (by decide) (by revert h_x_0 h_x_1 hy1 hy2 hy3; first | omega | (simp only [vp_in_iff, Int32.lt_iff_toInt_lt, Int32.le_iff_toInt_le, Int64.lt_iff_toInt_lt, Int64.le_iff_toInt_le, Int32.toInt_toInt64, ← Int32.toInt_inj, ← Int64.toInt_inj, Int32.reduceToInt, Int64.reduceToInt] <;> omega))
  refine va_iald hx hb hK hP 2 0 rfl rfl (by revert h_x_0 h_x_1 hy1 hy2 hy3 hy5; first | omega | (simp only [vp_in_iff, Int32.lt_iff_toInt_lt, Int32.le_iff_toInt_le, Int64.lt_iff_toInt_lt, Int64.le_iff_toInt_le, Int32.toInt_toInt64, ← Int32.toInt_inj, ← Int64.toInt_inj, Int32.reduceToInt, Int64.reduceToInt] <;> omega)) dX2_weighJoins_26 ?_
  refine lv_topi (fun y6 ey6 => ?_)
  refine lv_istore (lv' := [(5, .int y6), (4, .int y4), (3, .int y2), (0, .ref q_0), (1, .int x_0), (2, .int x_1)]) hx hb dX2_weighJoins_27 hl (by decide) rfl (fun ls hl => ?_)
  refine lv_iconst (v := 0) hx hb dX2_weighJoins_29 (by decide) ?_
  refine lv_istore (lv' := [(6, .int 0), (5, .int y6), (4, .int y4), (3, .int y2), (0, .ref q_0), (1, .int x_0), (2, .int x_1)]) hx hb dX2_weighJoins_30 hl (by decide) rfl (fun ls hl => ?_)
  have loop25 : ∀ (N26 : Nat) (y22 : Int32) (y23 : Int32) (y24 : Int32) (H : Heap) (locs : List Loc) (ls : Array Slot), Int.toNat (6 - Int32.toInt y22) < N26 → 0 ≤ Int32.toInt y22 ∧ Int32.toInt y22 ≤ 6 → Int32.toInt y24 ≥ Int32.toInt y4 → va_P D vwCl [(q_0, .inr (2, [.ref q_5, .ref q_3, .ref q_6, .int x_2, .int x_3, .ref q_4, .ref q_1, .ref q_2, .int x_4, .int x_5, .int x_6, .ref q_7, .ref q_8, .ref q_9])), (q_1, .inl (k 0, 448, .inl f_7)), (q_2, .inl (k 0, 448, .inl f_8)), (q_3, .inr (4, [.int x_9, .ref q_10, .int x_10, .ref q_11, .ref q_12, .int x_11, .ref q_13, .ref q_14, .ref q_15, .int x_12, .ref q_16, .ref q_17, .ref q_18])), (q_4, .inl (k 0, 36, .inl f_13))] H → va_D A [(q_0, .inr (2, [.ref q_5, .ref q_3, .ref q_6, .int x_2, .int x_3, .ref q_4, .ref q_1, .ref q_2, .int x_4, .int x_5, .int x_6, .ref q_7, .ref q_8, .ref q_9])), (q_1, .inl (k 0, 448, .inl f_7)), (q_2, .inl (k 0, 448, .inl f_8)), (q_3, .inr (4, [.int x_9, .ref q_10, .int x_10, .ref q_11, .ref q_12, .int x_11, .ref q_13, .ref q_14, .ref q_15, .int x_12, .ref q_16, .ref q_17, .ref q_18])), (q_4, .inl (k 0, 36, .inl f_13))] → va_S A s.heap H locs → lv_has ls 8 [(6, .int y22), (5, .int y23), (4, .int y24), (3, .int y2), (0, .ref q_0), (1, .int x_0), (2, .int x_1)] → W p l e { frames := 1, cells := 0, slots := 0, locals := 23 } s m args below meth c H locs 0 0 (MQ below (va_Qv (fun (u : zS) => u.1 = 0) (zB D k A (fun (u : zS) => [(q_0, .inr (2, [.ref q_5, .ref q_3, .ref q_6, .int x_2, .int x_3, .ref q_4, .ref q_1, .ref q_2, .int x_4, .int x_5, .int x_6, .ref q_7, .ref q_8, .ref q_9])), (q_1, .inl (k 0, 448, .inl (u.2.2.2.2.1 0))), (q_2, .inl (k 0, 448, .inl (u.2.2.2.2.1 1))), (q_3, .inr (4, [.int x_9, .ref q_10, .int x_10, .ref q_11, .ref q_12, .int x_11, .ref q_13, .ref q_14, .ref q_15, .int x_12, .ref q_16, .ref q_17, .ref q_18])), (q_4, .inl (k 0, 36, .inl f_13))])) A) args s 0 0 A) (F0 m 32 ls []) := by
    intro N26
    induction N26 with
    | zero => intro y22 y23 y24 H locs ls hm; exact absurd hm (Nat.not_lt_zero _)
    | succ N26 ihN26 =>
      intro y22 y23 y24 H locs ls hN26 hy22 ky24 hP hD hS hl
      refine lv_iload hx hb dX2_weighJoins_32 (lv_at hl 0 rfl) ?_
      refine lv_aload_n hx hb dX2_weighJoins_34 rfl (lv_at hl 4 rfl) ?_
      refine va_get (D := D) (ci := 2) (v := .ref q_3) (C := RX2) (T := TX2) (N := 14) hx hb hts inX2 hown hK hP 0 rfl rfl 1 (by decide) (hts _ kF_X2_48) (fun _ h9 => h9) rfl dX2_weighJoins_35 ?_
      refine va_get (D := D) (ci := 4) (v := .int x_9) (C := RX4) (T := TX4) (N := 13) hx hb hts inX4 hown hK hP 3 rfl rfl 0 (by decide) (hts _ kF_X2_49) (fun _ h9 => h9) rfl dX2_weighJoins_38 ?_
      refine lv_icmp_ge (tgt := 104) hx hb dX2_weighJoins_41 (by decide) (fun c27 => ?_) (fun c27 => ?_)
      · refine lv_aload_n hx hb dX2_weighJoins_104 rfl (lv_at hl 4 rfl) ?_
        refine va_get (D := D) (ci := 2) (v := .ref q_1) (C := RX2) (T := TX2) (N := 14) hx hb hts inX2 hown hK hP 0 rfl rfl 6 (by decide) (hts _ kF_X2_22) (fun _ h9 => h9) rfl dX2_weighJoins_105 ?_
        refine lv_iload_n hx hb dX2_weighJoins_108 rfl (lv_at hl 3 rfl) ?_
        refine lv_iload hx hb dX2_weighJoins_109 (lv_at hl 2 rfl) ?_
        refine va_iast hx hb hK hP hD hS 1 0 rfl rfl (by revert h_x_0 h_x_1 hy1 hy2 hy3 hy5; first | omega | (simp only [vp_in_iff, Int32.lt_iff_toInt_lt, Int32.le_iff_toInt_le, Int64.lt_iff_toInt_lt, Int64.le_iff_toInt_le, Int32.toInt_toInt64, ← Int32.toInt_inj, ← Int64.toInt_inj, Int32.reduceToInt, Int64.reduceToInt] <;> omega)) dX2_weighJoins_111 (fun H locs hP hD hS => ?_)
        obtain ⟨F28, eF28⟩ : ∃ q, q = upd f_7 (Int32.toNatClampNeg y2) y24 := ⟨_, rfl⟩
        have hP : va_P D vwCl [(q_0, .inr (2, [.ref q_5, .ref q_3, .ref q_6, .int x_2, .int x_3, .ref q_4, .ref q_1, .ref q_2, .int x_4, .int x_5, .int x_6, .ref q_7, .ref q_8, .ref q_9])), (q_1, .inl (k 0, 448, .inl F28)), (q_2, .inl (k 0, 448, .inl f_8)), (q_3, .inr (4, [.int x_9, .ref q_10, .int x_10, .ref q_11, .ref q_12, .int x_11, .ref q_13, .ref q_14, .ref q_15, .int x_12, .ref q_16, .ref q_17, .ref q_18])), (q_4, .inl (k 0, 36, .inl f_13))] H := by rw [eF28]; exact hP
        have hD : va_D A [(q_0, .inr (2, [.ref q_5, .ref q_3, .ref q_6, .int x_2, .int x_3, .ref q_4, .ref q_1, .ref q_2, .int x_4, .int x_5, .int x_6, .ref q_7, .ref q_8, .ref q_9])), (q_1, .inl (k 0, 448, .inl F28)), (q_2, .inl (k 0, 448, .inl f_8)), (q_3, .inr (4, [.int x_9, .ref q_10, .int x_10, .ref q_11, .ref q_12, .int x_11, .ref q_13, .ref q_14, .ref q_15, .int x_12, .ref q_16, .ref q_17, .ref q_18])), (q_4, .inl (k 0, 36, .inl f_13))] := by rw [eF28]; exact hD
        refine lv_aload_n hx hb dX2_weighJoins_112 rfl (lv_at hl 4 rfl) ?_
        refine va_get (D := D) (ci := 2) (v := .ref q_2) (C := RX2) (T := TX2) (N := 14) hx hb hts inX2 hown hK hP 0 rfl rfl 7 (by decide) (hts _ kF_X2_25) (fun _ h9 => h9) rfl dX2_weighJoins_113 ?_
        refine lv_iload_n hx hb dX2_weighJoins_116 rfl (lv_at hl 3 rfl) ?_
        refine lv_iload hx hb dX2_weighJoins_117 (lv_at hl 1 rfl) ?_
        refine va_iast hx hb hK hP hD hS 2 0 rfl rfl (by revert h_x_0 h_x_1 hy1 hy2 hy3 hy5; first | omega | (simp only [vp_in_iff, Int32.lt_iff_toInt_lt, Int32.le_iff_toInt_le, Int64.lt_iff_toInt_lt, Int64.le_iff_toInt_le, Int32.toInt_toInt64, ← Int32.toInt_inj, ← Int64.toInt_inj, Int32.reduceToInt, Int64.reduceToInt] <;> omega)) dX2_weighJoins_119 (fun H locs hP hD hS => ?_)
        obtain ⟨F29, eF29⟩ : ∃ q, q = upd f_8 (Int32.toNatClampNeg y2) y23 := ⟨_, rfl⟩
        have hP : va_P D vwCl [(q_0, .inr (2, [.ref q_5, .ref q_3, .ref q_6, .int x_2, .int x_3, .ref q_4, .ref q_1, .ref q_2, .int x_4, .int x_5, .int x_6, .ref q_7, .ref q_8, .ref q_9])), (q_1, .inl (k 0, 448, .inl F28)), (q_2, .inl (k 0, 448, .inl F29)), (q_3, .inr (4, [.int x_9, .ref q_10, .int x_10, .ref q_11, .ref q_12, .int x_11, .ref q_13, .ref q_14, .ref q_15, .int x_12, .ref q_16, .ref q_17, .ref q_18])), (q_4, .inl (k 0, 36, .inl f_13))] H := by rw [eF29]; exact hP
        have hD : va_D A [(q_0, .inr (2, [.ref q_5, .ref q_3, .ref q_6, .int x_2, .int x_3, .ref q_4, .ref q_1, .ref q_2, .int x_4, .int x_5, .int x_6, .ref q_7, .ref q_8, .ref q_9])), (q_1, .inl (k 0, 448, .inl F28)), (q_2, .inl (k 0, 448, .inl F29)), (q_3, .inr (4, [.int x_9, .ref q_10, .int x_10, .ref q_11, .ref q_12, .int x_11, .ref q_13, .ref q_14, .ref q_15, .int x_12, .ref q_16, .ref q_17, .ref q_18])), (q_4, .inl (k 0, 36, .inl f_13))] := by rw [eF29]; exact hD
        exact z_vret C0 hr hlk hK hP hD hS (0, fun _ => 0, fun _ => 0, fun _ => 0, fun i => [F28, F29].getD i (fun _ => 0), fun _ => (fun _ => 0), fun _ => (fun _ => none)) rfl [0, 1, 2, 3, 4] rfl rfl rfl dX2_weighJoins_120
      · refine lv_aload_n hx hb dX2_weighJoins_44 rfl (lv_at hl 4 rfl) ?_
        refine lv_iload_n hx hb dX2_weighJoins_45 rfl (lv_at hl 5 rfl) ?_
        refine lv_iload_n hx hb dX2_weighJoins_46 rfl (lv_at hl 6 rfl) ?_
        refine lv_iload hx hb dX2_weighJoins_47 (lv_at hl 0 rfl) ?_
        refine z_bi (wr := [(q_2, .inl (k 0, 448, .inl f_8)), (q_3, .inr (4, [.int x_9, .ref q_10, .int x_10, .ref q_11, .ref q_12, .int x_11, .ref q_13, .ref q_14, .ref q_15, .int x_12, .ref q_16, .ref q_17, .ref q_18]))]) (z_runV (C := RX2) (As := [.int x_0, .int x_1, .int y22]) (rest := []) C0 (s_X2_scoreWith_115 l D k T q_0 q_4 q_1 q_5 q_3 q_6 q_2 q_7 q_8 q_9 x_0 x_1 y22 x_2 x_3 x_4 x_5 x_6 f_13 f_7 (by revert h_x_0 hy1 hy2 hy3 hy5 h_x_1; first | omega | (simp only [vp_in_iff, Int32.lt_iff_toInt_lt, Int32.le_iff_toInt_le, Int64.lt_iff_toInt_lt, Int64.le_iff_toInt_le, Int32.toInt_toInt64, ← Int32.toInt_inj, ← Int64.toInt_inj, Int32.reduceToInt, Int64.reduceToInt] <;> omega)) (by revert h_x_1 hy2 hy3 hy5 h_x_0 hy1; first | omega | (simp only [vp_in_iff, Int32.lt_iff_toInt_lt, Int32.le_iff_toInt_le, Int64.lt_iff_toInt_lt, Int64.le_iff_toInt_le, Int32.toInt_toInt64, ← Int32.toInt_inj, ← Int64.toInt_inj, Int32.reduceToInt, Int64.reduceToInt] <;> omega)) (by revert hN26 hy22 c27 h_x_9; first | omega | (simp only [vp_in_iff, Int32.lt_iff_toInt_lt, Int32.le_iff_toInt_le, Int64.lt_iff_toInt_lt, Int64.le_iff_toInt_le, Int32.toInt_toInt64, ← Int32.toInt_inj, ← Int64.toInt_inj, Int32.reduceToInt, Int64.reduceToInt] <;> omega)) (by revert h_x_2; first | omega | (simp only [vp_in_iff, Int32.lt_iff_toInt_lt, Int32.le_iff_toInt_le, Int64.lt_iff_toInt_lt, Int64.le_iff_toInt_le, Int32.toInt_toInt64, ← Int32.toInt_inj, ← Int64.toInt_inj, Int32.reduceToInt, Int64.reduceToInt] <;> omega)) _) okV_X2_scoreWith kM_X2_78 rfl (z_pV (q0 := 0) hT hS hA hK hN hP hD [0, 4, 1] rfl rfl rfl rfl rfl) rfl hl.1 rfl (Nat.le_of_ble_eq_true rfl) dX2_weighJoins_49 rfl) hP hD hS hA [0, 4, 1] [2, 3] rfl rfl rfl rfl (fun r30 u30 H locs hw30 hP hD hS => ?_)
        obtain ⟨i30, a30, v30, w30, f30, g30, o30⟩ := u30
        dsimp only at hw30
        obtain rfl := hw30
        have hP : va_P D vwCl [(q_2, .inl (k 0, 448, .inl f_8)), (q_3, .inr (4, [.int x_9, .ref q_10, .int x_10, .ref q_11, .ref q_12, .int x_11, .ref q_13, .ref q_14, .ref q_15, .int x_12, .ref q_16, .ref q_17, .ref q_18])), (q_0, .inr (2, [.ref q_5, .ref q_3, .ref q_6, .int x_2, .int x_3, .ref q_4, .ref q_1, .ref q_2, .int x_4, .int x_5, .int x_6, .ref q_7, .ref q_8, .ref q_9])), (q_4, .inl (k 0, 36, .inl f_13)), (q_1, .inl (k 0, 448, .inl f_7))] H := hP
        have hD : va_D A [(q_2, .inl (k 0, 448, .inl f_8)), (q_3, .inr (4, [.int x_9, .ref q_10, .int x_10, .ref q_11, .ref q_12, .int x_11, .ref q_13, .ref q_14, .ref q_15, .int x_12, .ref q_16, .ref q_17, .ref q_18])), (q_0, .inr (2, [.ref q_5, .ref q_3, .ref q_6, .int x_2, .int x_3, .ref q_4, .ref q_1, .ref q_2, .int x_4, .int x_5, .int x_6, .ref q_7, .ref q_8, .ref q_9])), (q_4, .inl (k 0, 36, .inl f_13)), (q_1, .inl (k 0, 448, .inl f_7))] := hD
        refine lv_istore (lv' := [(7, .int r30), (6, .int y22), (5, .int y23), (4, .int y24), (3, .int y2), (0, .ref q_0), (1, .int x_0), (2, .int x_1)]) hx hb dX2_weighJoins_52 hl (by decide) rfl (fun ls hl => ?_)
        refine lv_iload hx hb dX2_weighJoins_54 (lv_at hl 0 rfl) ?_
        refine lv_iload hx hb dX2_weighJoins_56 (lv_at hl 3 rfl) ?_
        refine lv_icmp_le (tgt := 68) hx hb dX2_weighJoins_58 (by decide) (fun c31 => ?_) (fun c31 => ?_)
        · refine lv_iload hx hb dX2_weighJoins_68 (lv_at hl 0 rfl) ?_
          refine lv_iload hx hb dX2_weighJoins_70 (lv_at hl 3 rfl) ?_
          refine lv_icmp_ne (tgt := 98) hx hb dX2_weighJoins_72 (by decide) (fun c32 => ?_) (fun c32 => ?_)
          · obtain ⟨y33, ey33⟩ : ∃ q : Int32, q = y22 + 1 := ⟨_, rfl⟩
            have hy33 : Int32.toInt y33 = Int32.toInt y22 + 1 := by rw [ey33]; exact zi_addc rfl (by decide) (by revert hN26 hy22 c27 h_x_9; first | omega | (simp only [vp_in_iff, Int32.lt_iff_toInt_lt, Int32.le_iff_toInt_le, Int64.lt_iff_toInt_lt, Int64.le_iff_toInt_le, Int32.toInt_toInt64, ← Int32.toInt_inj, ← Int64.toInt_inj, Int32.reduceToInt, Int64.reduceToInt] <;> omega))
            refine lv_iinc (v := y33) (lv' := [(6, .int y33), (7, .int r30), (5, .int y23), (4, .int y24), (3, .int y2), (0, .ref q_0), (1, .int x_0), (2, .int x_1)]) hx hb dX2_weighJoins_98 hl (k := 1) rfl (by rw [ey33]; exact zz_inc (by decide)) (by decide) rfl (fun ls hl => ?_)
            refine lv_goto (tgt := 32) hx hb dX2_weighJoins_101 (by decide) ?_
            exact ihN26 y33 y23 y24 _ _ ls (by revert hN26 hy22 c27 hy33 h_x_9; first | omega | (simp only [vp_in_iff, Int32.lt_iff_toInt_lt, Int32.le_iff_toInt_le, Int64.lt_iff_toInt_lt, Int64.le_iff_toInt_le, Int32.toInt_toInt64, ← Int32.toInt_inj, ← Int64.toInt_inj, Int32.reduceToInt, Int64.reduceToInt] <;> omega)) (by revert hN26 hy22 c27 hy33 h_x_9; first | omega | (simp only [vp_in_iff, Int32.lt_iff_toInt_lt, Int32.le_iff_toInt_le, Int64.lt_iff_toInt_lt, Int64.le_iff_toInt_le, Int32.toInt_toInt64, ← Int32.toInt_inj, ← Int64.toInt_inj, Int32.reduceToInt, Int64.reduceToInt] <;> omega)) (by have := Int32.le_toInt y24; have := Int32.toInt_lt y24; have := Int32.le_toInt y4; have := Int32.toInt_lt y4; revert ky24 c31 c32; first | omega | (simp only [vp_in_iff, Int32.lt_iff_toInt_lt, Int32.le_iff_toInt_le, Int64.lt_iff_toInt_lt, Int64.le_iff_toInt_le, Int32.toInt_toInt64, ← Int32.toInt_inj, ← Int64.toInt_inj, Int32.reduceToInt, Int64.reduceToInt] <;> omega)) (z_sub hP [2, 4, 0, 1, 3] rfl) (hD.sub [2, 4, 0, 1, 3] rfl rfl) hS (lv_sub hl [0, 2, 3, 4, 5, 6, 7] rfl)
          · refine lv_iload hx hb dX2_weighJoins_75 (lv_at hl 2 rfl) ?_
            refine lv_aload_n hx hb dX2_weighJoins_77 rfl (lv_at hl 5 rfl) ?_
            refine va_get (D := D) (ci := 2) (v := .ref q_2) (C := RX2) (T := TX2) (N := 14) hx hb hts inX2 hown hK hP 2 rfl rfl 7 (by decide) (hts _ kF_X2_25) (fun _ h9 => h9) rfl dX2_weighJoins_78 ?_
            refine lv_iload_n hx hb dX2_weighJoins_81 rfl (lv_at hl 6 rfl) ?_
            refine lv_iconst (v := 1) hx hb dX2_weighJoins_82 (by decide) ?_
            refine lv_iadd hx hb dX2_weighJoins_83 ?_
            refine lv_topi (fun y34 ey34 => ?_)
            have hy34 : Int32.toInt y34 = Int32.toInt x_0 + 1 := by rw [ey34]; exact zi_addc rfl (by decide) (by revert h_x_0 hy1 hy2 hy3 hy5 h_x_1; first | omega | (simp only [vp_in_iff, Int32.lt_iff_toInt_lt, Int32.le_iff_toInt_le, Int64.lt_iff_toInt_lt, Int64.le_iff_toInt_le, Int32.toInt_toInt64, ← Int32.toInt_inj, ← Int64.toInt_inj, Int32.reduceToInt, Int64.reduceToInt] <;> omega))
            refine lv_bipush (v := 64) hx hb dX2_weighJoins_84 (by decide) ?_
            refine lv_imul hx hb dX2_weighJoins_86 ?_
            refine lv_topi (fun y35 ey35 => ?_)
            have hy35 : Int32.toInt y35 = Int32.toInt y34 * 64 := by rw [ey35]; exact zi_mulc rfl (by decide) (by revert h_x_0 hy1 hy2 hy3 hy5 hy34 h_x_1; first | omega | (simp only [vp_in_iff, Int32.lt_iff_toInt_lt, Int32.le_iff_toInt_le, Int64.lt_iff_toInt_lt, Int64.le_iff_toInt_le, Int32.toInt_toInt64, ← Int32.toInt_inj, ← Int64.toInt_inj, Int32.reduceToInt, Int64.reduceToInt] <;> omega))
            refine lv_iload_n hx hb dX2_weighJoins_87 rfl (lv_at hl 7 rfl) ?_
            refine lv_iconst (v := 1) hx hb dX2_weighJoins_88 (by decide) ?_
            refine lv_iload hx hb dX2_weighJoins_89 (lv_at hl 1 rfl) ?_
            refine lv_ishl hx hb dX2_weighJoins_91 ?_
            refine lv_topi (fun y36 ey36 => ?_)
            have hy36 : 1 ≤ Int32.toInt y36 ∧ Int32.toInt y36 ≤ 32 := by rw [ey36]; exact zo_shl1 5 (show 0 ≤ Int32.toInt y22 ∧ Int32.toInt y22 ≤ 5 by revert hN26 hy22 c27 h_x_9; first | omega | (simp only [vp_in_iff, Int32.lt_iff_toInt_lt, Int32.le_iff_toInt_le, Int64.lt_iff_toInt_lt, Int64.le_iff_toInt_le, Int32.toInt_toInt64, ← Int32.toInt_inj, ← Int64.toInt_inj, Int32.reduceToInt, Int64.reduceToInt] <;> omega)) (by decide)
            refine lv_ior hx hb dX2_weighJoins_92 ?_
            refine lv_topi (fun y37 ey37 => ?_)
            have hy37 : 0 ≤ Int32.toInt y37 ∧ Int32.toInt y37 ≤ 63 := by rw [ey37]; exact zo_or 6 (show 0 ≤ Int32.toInt x_1 ∧ Int32.toInt x_1 < 2 ^ 6 by revert h_x_1 hy2 hy3 hy5 hy34 hy35 hy36 h_x_0 hy1; first | omega | (simp only [vp_in_iff, Int32.lt_iff_toInt_lt, Int32.le_iff_toInt_le, Int64.lt_iff_toInt_lt, Int64.le_iff_toInt_le, Int32.toInt_toInt64, ← Int32.toInt_inj, ← Int64.toInt_inj, Int32.reduceToInt, Int64.reduceToInt] <;> omega)) (show 0 ≤ Int32.toInt y36 ∧ Int32.toInt y36 < 2 ^ 6 by revert h_x_1 hy2 hy3 hy5 hy34 hy35 hy36 h_x_0 hy1; first | omega | (simp only [vp_in_iff, Int32.lt_iff_toInt_lt, Int32.le_iff_toInt_le, Int64.lt_iff_toInt_lt, Int64.le_iff_toInt_le, Int32.toInt_toInt64, ← Int32.toInt_inj, ← Int64.toInt_inj, Int32.reduceToInt, Int64.reduceToInt] <;> omega)) (by decide)
            refine lv_iadd hx hb dX2_weighJoins_93 ?_
            refine lv_topi (fun y38 ey38 => ?_)
            have hy38 : Int32.toInt y38 = Int32.toInt y35 + Int32.toInt y37 := by rw [ey38]; exact zi_addc rfl rfl (by revert h_x_0 hy1 hy2 hy3 hy5 hy34 hy35 hy37 h_x_1; first | omega | (simp only [vp_in_iff, Int32.lt_iff_toInt_lt, Int32.le_iff_toInt_le, Int64.lt_iff_toInt_lt, Int64.le_iff_toInt_le, Int32.toInt_toInt64, ← Int32.toInt_inj, ← Int64.toInt_inj, Int32.reduceToInt, Int64.reduceToInt] <;> omega))
            refine va_iald hx hb hK hP 0 0 rfl rfl (by revert h_x_0 hy1 hy2 hy3 hy5 hy34 hy35 hy37 hy38 h_x_1; first | omega | (simp only [vp_in_iff, Int32.lt_iff_toInt_lt, Int32.le_iff_toInt_le, Int64.lt_iff_toInt_lt, Int64.le_iff_toInt_le, Int32.toInt_toInt64, ← Int32.toInt_inj, ← Int64.toInt_inj, Int32.reduceToInt, Int64.reduceToInt] <;> omega)) dX2_weighJoins_94 ?_
            refine lv_topi (fun y39 ey39 => ?_)
            refine lv_iadd hx hb dX2_weighJoins_95 ?_
            refine lv_topi (fun y40 ey40 => ?_)
            refine lv_istore (lv' := [(5, .int y40), (7, .int r30), (6, .int y22), (4, .int y24), (3, .int y2), (0, .ref q_0), (1, .int x_0), (2, .int x_1)]) hx hb dX2_weighJoins_96 hl (by decide) rfl (fun ls hl => ?_)
            obtain ⟨y41, ey41⟩ : ∃ q : Int32, q = y22 + 1 := ⟨_, rfl⟩
            have hy41 : Int32.toInt y41 = Int32.toInt y22 + 1 := by rw [ey41]; exact zi_addc rfl (by decide) (by revert hN26 hy22 c27 h_x_9; first | omega | (simp only [vp_in_iff, Int32.lt_iff_toInt_lt, Int32.le_iff_toInt_le, Int64.lt_iff_toInt_lt, Int64.le_iff_toInt_le, Int32.toInt_toInt64, ← Int32.toInt_inj, ← Int64.toInt_inj, Int32.reduceToInt, Int64.reduceToInt] <;> omega))
            refine lv_iinc (v := y41) (lv' := [(6, .int y41), (5, .int y40), (7, .int r30), (4, .int y24), (3, .int y2), (0, .ref q_0), (1, .int x_0), (2, .int x_1)]) hx hb dX2_weighJoins_98 hl (k := 2) rfl (by rw [ey41]; exact zz_inc (by decide)) (by decide) rfl (fun ls hl => ?_)
            refine lv_goto (tgt := 32) hx hb dX2_weighJoins_101 (by decide) ?_
            exact ihN26 y41 y40 y24 _ _ ls (by revert hN26 hy22 c27 hy41 h_x_9; first | omega | (simp only [vp_in_iff, Int32.lt_iff_toInt_lt, Int32.le_iff_toInt_le, Int64.lt_iff_toInt_lt, Int64.le_iff_toInt_le, Int32.toInt_toInt64, ← Int32.toInt_inj, ← Int64.toInt_inj, Int32.reduceToInt, Int64.reduceToInt] <;> omega)) (by revert hN26 hy22 c27 hy41 h_x_9; first | omega | (simp only [vp_in_iff, Int32.lt_iff_toInt_lt, Int32.le_iff_toInt_le, Int64.lt_iff_toInt_lt, Int64.le_iff_toInt_le, Int32.toInt_toInt64, ← Int32.toInt_inj, ← Int64.toInt_inj, Int32.reduceToInt, Int64.reduceToInt] <;> omega)) (by have := Int32.le_toInt y24; have := Int32.toInt_lt y24; have := Int32.le_toInt y4; have := Int32.toInt_lt y4; revert ky24 c31 c32; first | omega | (simp only [vp_in_iff, Int32.lt_iff_toInt_lt, Int32.le_iff_toInt_le, Int64.lt_iff_toInt_lt, Int64.le_iff_toInt_le, Int32.toInt_toInt64, ← Int32.toInt_inj, ← Int64.toInt_inj, Int32.reduceToInt, Int64.reduceToInt] <;> omega)) (z_sub hP [2, 4, 0, 1, 3] rfl) (hD.sub [2, 4, 0, 1, 3] rfl rfl) hS (lv_sub hl [0, 1, 3, 4, 5, 6, 7] rfl)
        · refine lv_iload hx hb dX2_weighJoins_61 (lv_at hl 0 rfl) ?_
          refine lv_istore (lv' := [(4, .int r30), (7, .int r30), (6, .int y22), (5, .int y23), (3, .int y2), (0, .ref q_0), (1, .int x_0), (2, .int x_1)]) hx hb dX2_weighJoins_63 hl (by decide) rfl (fun ls hl => ?_)
          refine lv_iconst (v := 0) hx hb dX2_weighJoins_65 (by decide) ?_
          refine lv_istore (lv' := [(5, .int 0), (4, .int r30), (7, .int r30), (6, .int y22), (3, .int y2), (0, .ref q_0), (1, .int x_0), (2, .int x_1)]) hx hb dX2_weighJoins_66 hl (by decide) rfl (fun ls hl => ?_)
          refine lv_iload hx hb dX2_weighJoins_68 (lv_at hl 2 rfl) ?_
          refine lv_iload hx hb dX2_weighJoins_70 (lv_at hl 1 rfl) ?_
          refine lv_icmp_ne (tgt := 98) hx hb dX2_weighJoins_72 (by decide) (fun c42 => absurd rfl c42) (fun _ => ?_)
          refine lv_iload hx hb dX2_weighJoins_75 (lv_at hl 0 rfl) ?_
          refine lv_aload_n hx hb dX2_weighJoins_77 rfl (lv_at hl 5 rfl) ?_
          refine va_get (D := D) (ci := 2) (v := .ref q_2) (C := RX2) (T := TX2) (N := 14) hx hb hts inX2 hown hK hP 2 rfl rfl 7 (by decide) (hts _ kF_X2_25) (fun _ h9 => h9) rfl dX2_weighJoins_78 ?_
          refine lv_iload_n hx hb dX2_weighJoins_81 rfl (lv_at hl 6 rfl) ?_
          refine lv_iconst (v := 1) hx hb dX2_weighJoins_82 (by decide) ?_
          refine lv_iadd hx hb dX2_weighJoins_83 ?_
          refine lv_topi (fun y43 ey43 => ?_)
          have hy43 : Int32.toInt y43 = Int32.toInt x_0 + 1 := by rw [ey43]; exact zi_addc rfl (by decide) (by revert h_x_0 hy1 hy2 hy3 hy5 h_x_1; first | omega | (simp only [vp_in_iff, Int32.lt_iff_toInt_lt, Int32.le_iff_toInt_le, Int64.lt_iff_toInt_lt, Int64.le_iff_toInt_le, Int32.toInt_toInt64, ← Int32.toInt_inj, ← Int64.toInt_inj, Int32.reduceToInt, Int64.reduceToInt] <;> omega))
          refine lv_bipush (v := 64) hx hb dX2_weighJoins_84 (by decide) ?_
          refine lv_imul hx hb dX2_weighJoins_86 ?_
          refine lv_topi (fun y44 ey44 => ?_)
          have hy44 : Int32.toInt y44 = Int32.toInt y43 * 64 := by rw [ey44]; exact zi_mulc rfl (by decide) (by revert h_x_0 hy1 hy2 hy3 hy5 hy43 h_x_1; first | omega | (simp only [vp_in_iff, Int32.lt_iff_toInt_lt, Int32.le_iff_toInt_le, Int64.lt_iff_toInt_lt, Int64.le_iff_toInt_le, Int32.toInt_toInt64, ← Int32.toInt_inj, ← Int64.toInt_inj, Int32.reduceToInt, Int64.reduceToInt] <;> omega))
          refine lv_iload_n hx hb dX2_weighJoins_87 rfl (lv_at hl 7 rfl) ?_
          refine lv_iconst (v := 1) hx hb dX2_weighJoins_88 (by decide) ?_
          refine lv_iload hx hb dX2_weighJoins_89 (lv_at hl 3 rfl) ?_
          refine lv_ishl hx hb dX2_weighJoins_91 ?_
          refine lv_topi (fun y45 ey45 => ?_)
          have hy45 : 1 ≤ Int32.toInt y45 ∧ Int32.toInt y45 ≤ 32 := by rw [ey45]; exact zo_shl1 5 (show 0 ≤ Int32.toInt y22 ∧ Int32.toInt y22 ≤ 5 by revert hN26 hy22 c27 h_x_9; first | omega | (simp only [vp_in_iff, Int32.lt_iff_toInt_lt, Int32.le_iff_toInt_le, Int64.lt_iff_toInt_lt, Int64.le_iff_toInt_le, Int32.toInt_toInt64, ← Int32.toInt_inj, ← Int64.toInt_inj, Int32.reduceToInt, Int64.reduceToInt] <;> omega)) (by decide)
          refine lv_ior hx hb dX2_weighJoins_92 ?_
          refine lv_topi (fun y46 ey46 => ?_)
          have hy46 : 0 ≤ Int32.toInt y46 ∧ Int32.toInt y46 ≤ 63 := by rw [ey46]; exact zo_or 6 (show 0 ≤ Int32.toInt x_1 ∧ Int32.toInt x_1 < 2 ^ 6 by revert h_x_1 hy2 hy3 hy5 hy43 hy44 hy45 h_x_0 hy1; first | omega | (simp only [vp_in_iff, Int32.lt_iff_toInt_lt, Int32.le_iff_toInt_le, Int64.lt_iff_toInt_lt, Int64.le_iff_toInt_le, Int32.toInt_toInt64, ← Int32.toInt_inj, ← Int64.toInt_inj, Int32.reduceToInt, Int64.reduceToInt] <;> omega)) (show 0 ≤ Int32.toInt y45 ∧ Int32.toInt y45 < 2 ^ 6 by revert h_x_1 hy2 hy3 hy5 hy43 hy44 hy45 h_x_0 hy1; first | omega | (simp only [vp_in_iff, Int32.lt_iff_toInt_lt, Int32.le_iff_toInt_le, Int64.lt_iff_toInt_lt, Int64.le_iff_toInt_le, Int32.toInt_toInt64, ← Int32.toInt_inj, ← Int64.toInt_inj, Int32.reduceToInt, Int64.reduceToInt] <;> omega)) (by decide)
          refine lv_iadd hx hb dX2_weighJoins_93 ?_
          refine lv_topi (fun y47 ey47 => ?_)
          have hy47 : Int32.toInt y47 = Int32.toInt y44 + Int32.toInt y46 := by rw [ey47]; exact zi_addc rfl rfl (by revert h_x_0 hy1 hy2 hy3 hy5 hy43 hy44 hy46 h_x_1; first | omega | (simp only [vp_in_iff, Int32.lt_iff_toInt_lt, Int32.le_iff_toInt_le, Int64.lt_iff_toInt_lt, Int64.le_iff_toInt_le, Int32.toInt_toInt64, ← Int32.toInt_inj, ← Int64.toInt_inj, Int32.reduceToInt, Int64.reduceToInt] <;> omega))
          refine va_iald hx hb hK hP 0 0 rfl rfl (by revert h_x_0 hy1 hy2 hy3 hy5 hy43 hy44 hy46 hy47 h_x_1; first | omega | (simp only [vp_in_iff, Int32.lt_iff_toInt_lt, Int32.le_iff_toInt_le, Int64.lt_iff_toInt_lt, Int64.le_iff_toInt_le, Int32.toInt_toInt64, ← Int32.toInt_inj, ← Int64.toInt_inj, Int32.reduceToInt, Int64.reduceToInt] <;> omega)) dX2_weighJoins_94 ?_
          refine lv_topi (fun y48 ey48 => ?_)
          refine lv_iadd hx hb dX2_weighJoins_95 ?_
          refine lv_topi (fun y49 ey49 => ?_)
          have hy49 : Int32.toInt y49 = 0 + Int32.toInt y48 := by rw [ey49]; exact zi_addc (by decide) rfl (by have := Int32.le_toInt y48; have := Int32.toInt_lt y48; first | omega | (simp only [vp_in_iff, Int32.lt_iff_toInt_lt, Int32.le_iff_toInt_le, Int64.lt_iff_toInt_lt, Int64.le_iff_toInt_le, Int32.toInt_toInt64, ← Int32.toInt_inj, ← Int64.toInt_inj, Int32.reduceToInt, Int64.reduceToInt] <;> omega))
          refine lv_istore (lv' := [(5, .int y49), (4, .int r30), (7, .int r30), (6, .int y22), (3, .int y2), (0, .ref q_0), (1, .int x_0), (2, .int x_1)]) hx hb dX2_weighJoins_96 hl (by decide) rfl (fun ls hl => ?_)
          obtain ⟨y50, ey50⟩ : ∃ q : Int32, q = y22 + 1 := ⟨_, rfl⟩
          have hy50 : Int32.toInt y50 = Int32.toInt y22 + 1 := by rw [ey50]; exact zi_addc rfl (by decide) (by revert hN26 hy22 c27 h_x_9; first | omega | (simp only [vp_in_iff, Int32.lt_iff_toInt_lt, Int32.le_iff_toInt_le, Int64.lt_iff_toInt_lt, Int64.le_iff_toInt_le, Int32.toInt_toInt64, ← Int32.toInt_inj, ← Int64.toInt_inj, Int32.reduceToInt, Int64.reduceToInt] <;> omega))
          refine lv_iinc (v := y50) (lv' := [(6, .int y50), (5, .int y49), (4, .int r30), (7, .int r30), (3, .int y2), (0, .ref q_0), (1, .int x_0), (2, .int x_1)]) hx hb dX2_weighJoins_98 hl (k := 3) rfl (by rw [ey50]; exact zz_inc (by decide)) (by decide) rfl (fun ls hl => ?_)
          refine lv_goto (tgt := 32) hx hb dX2_weighJoins_101 (by decide) ?_
          exact ihN26 y50 y49 r30 _ _ ls (by revert hN26 hy22 c27 hy50 h_x_9; first | omega | (simp only [vp_in_iff, Int32.lt_iff_toInt_lt, Int32.le_iff_toInt_le, Int64.lt_iff_toInt_lt, Int64.le_iff_toInt_le, Int32.toInt_toInt64, ← Int32.toInt_inj, ← Int64.toInt_inj, Int32.reduceToInt, Int64.reduceToInt] <;> omega)) (by revert hN26 hy22 c27 hy50 h_x_9; first | omega | (simp only [vp_in_iff, Int32.lt_iff_toInt_lt, Int32.le_iff_toInt_le, Int64.lt_iff_toInt_lt, Int64.le_iff_toInt_le, Int32.toInt_toInt64, ← Int32.toInt_inj, ← Int64.toInt_inj, Int32.reduceToInt, Int64.reduceToInt] <;> omega)) (by have := Int32.le_toInt r30; have := Int32.toInt_lt r30; have := Int32.le_toInt y24; have := Int32.toInt_lt y24; have := Int32.le_toInt y4; have := Int32.toInt_lt y4; revert ky24 c31; first | omega | (simp only [vp_in_iff, Int32.lt_iff_toInt_lt, Int32.le_iff_toInt_le, Int64.lt_iff_toInt_lt, Int64.le_iff_toInt_le, Int32.toInt_toInt64, ← Int32.toInt_inj, ← Int64.toInt_inj, Int32.reduceToInt, Int64.reduceToInt] <;> omega)) (z_sub hP [2, 4, 0, 1, 3] rfl) (hD.sub [2, 4, 0, 1, 3] rfl rfl) hS (lv_sub hl [0, 1, 2, 4, 5, 6, 7] rfl)
  exact loop25 _ 0 y6 y4 _ _ _ (Nat.lt_succ_self _) (by first | omega | (simp only [vp_in_iff, Int32.lt_iff_toInt_lt, Int32.le_iff_toInt_le, Int64.lt_iff_toInt_lt, Int64.le_iff_toInt_le, Int32.toInt_toInt64, ← Int32.toInt_inj, ← Int64.toInt_inj, Int32.reduceToInt, Int64.reduceToInt] <;> omega)) (Int.le_refl _) hP hD hS (lv_sub hl [0, 1, 2, 3, 4, 5, 6] rfl)

set_option maxHeartbeats 4000000 in
set_option maxRecDepth 100000 in
theorem s_X2_keepFirstBest_1 (l : Launch) (D : va_G) (k : Nat → ClassId) (T : zTy) (q_0 : Nat) (q_1 : Nat) (q_2 : Nat) (q_3 : Nat) (q_4 : Nat) (q_5 : Nat) (q_6 : Nat) (q_7 : Nat) (q_8 : Nat) (q_9 : Nat) (q_10 : Nat) (q_11 : Nat) (q_12 : Nat) (q_13 : Nat) (q_14 : Nat) (q_15 : Nat) (q_16 : Nat) (q_17 : Nat) (q_18 : Nat) (x_0 : Int32) (x_1 : Int32) (x_2 : Int32) (x_3 : Int32) (x_4 : Int32) (x_5 : Int32) (x_6 : Int32) (x_7 : Int32) (x_8 : Int32) (f_9 : Nat → Int32) (f_10 : Nat → Int32) (f_11 : Nat → Int32) (f_12 : Nat → Int32) (h_x_0 : 0 ≤ Int32.toInt x_0 ∧ Int32.toInt x_0 ≤ 6) (h_x_5 : 0 ≤ Int32.toInt x_5 ∧ Int32.toInt x_5 ≤ 6) (h_x_6 : 0 ≤ Int32.toInt x_6 ∧ Int32.toInt x_6 ≤ 6) (h_x_7 : 0 ≤ Int32.toInt x_7 ∧ Int32.toInt x_7 ≤ 9) (h_x_8 : 0 ≤ Int32.toInt x_8 ∧ Int32.toInt x_8 ≤ 12) (h_f_9 : zR f_9 (-1) 5) : zMv l yX2_keepFirstBest cX2_keepFirstBest 4 none ({ frames := 1, cells := 0, slots := 0, locals := 23 }) D k T [.ref q_0] [(q_0, .inr (2, [.ref q_6, .ref q_1, .ref q_2, .int x_0, .int x_1, .ref q_3, .ref q_4, .ref q_5, .int x_2, .int x_3, .int x_4, .ref q_7, .ref q_8, .ref q_9])), (q_1, .inr (4, [.int x_5, .ref q_10, .int x_6, .ref q_11, .ref q_12, .int x_7, .ref q_13, .ref q_14, .ref q_15, .int x_8, .ref q_16, .ref q_17, .ref q_18])), (q_2, .inl (k 0, 6, .inl f_9)), (q_3, .inl (k 0, 36, .inl f_10)), (q_4, .inl (k 0, 448, .inl f_11)), (q_5, .inl (k 0, 448, .inl f_12))] (fun u => u.1 = 0 ∧ zR (u.2.2.2.2.1 0) (-1) 5) (fun u => [(q_0, .inr (2, [.ref q_6, .ref q_1, .ref q_2, .int x_6, .int (u.2.2.1 0), .ref q_3, .ref q_4, .ref q_5, .int x_2, .int x_3, .int x_4, .ref q_7, .ref q_8, .ref q_9])), (q_1, .inr (4, [.int x_5, .ref q_10, .int x_6, .ref q_11, .ref q_12, .int x_7, .ref q_13, .ref q_14, .ref q_15, .int x_8, .ref q_16, .ref q_17, .ref q_18])), (q_2, .inl (k 0, 6, .inl (u.2.2.2.2.1 0))), (q_3, .inl (k 0, 36, .inl f_10)), (q_4, .inl (k 0, 448, .inl f_11)), (q_5, .inl (k 0, 448, .inl f_12))]) := by
  refine zMv_of (own := RX2) (by decide +kernel) rfl (Nat.le_of_ble_eq_true rfl) ?_
  intro p e s m args below meth c A ls C0 hr hlk hin hP hD hS hA hK hN hT hl
  have hx := C0.1
  have hb := C0.2.1
  have hml := C0.2.2.1
  have hown := C0.2.2.2.1
  have hts := C0.2.2.2.2
  have hl : lv_has ls 4 [(0, .ref q_0)] := hl
  have hP : va_P D vwCl [(q_0, .inr (2, [.ref q_6, .ref q_1, .ref q_2, .int x_0, .int x_1, .ref q_3, .ref q_4, .ref q_5, .int x_2, .int x_3, .int x_4, .ref q_7, .ref q_8, .ref q_9])), (q_1, .inr (4, [.int x_5, .ref q_10, .int x_6, .ref q_11, .ref q_12, .int x_7, .ref q_13, .ref q_14, .ref q_15, .int x_8, .ref q_16, .ref q_17, .ref q_18])), (q_2, .inl (k 0, 6, .inl f_9)), (q_3, .inl (k 0, 36, .inl f_10)), (q_4, .inl (k 0, 448, .inl f_11)), (q_5, .inl (k 0, 448, .inl f_12))] s.heap := hP
  refine lv_iconst (v := 0) hx hb dX2_keepFirstBest_0 (by decide) ?_
  refine lv_istore_n (lv' := [(1, .int 0), (0, .ref q_0)]) hx hb dX2_keepFirstBest_1 rfl hl (by decide) rfl (fun ls hl => ?_)
  refine lv_iconst (v := 0) hx hb dX2_keepFirstBest_2 (by decide) ?_
  refine lv_istore_n (lv' := [(2, .int 0), (1, .int 0), (0, .ref q_0)]) hx hb dX2_keepFirstBest_3 rfl hl (by decide) rfl (fun ls hl => ?_)
  have loop19 : ∀ (N20 : Nat) (y16 : Int32) (y17 : Int32) (F18 : Nat → Int32) (H : Heap) (locs : List Loc) (ls : Array Slot), Int.toNat (6 - Int32.toInt y16) < N20 → 0 ≤ Int32.toInt y16 ∧ Int32.toInt y16 ≤ 6 → 0 ≤ Int32.toInt y17 ∧ Int32.toInt y17 ≤ 63 → zR F18 (-1) 5 → va_P D vwCl [(q_0, .inr (2, [.ref q_6, .ref q_1, .ref q_2, .int x_0, .int x_1, .ref q_3, .ref q_4, .ref q_5, .int x_2, .int x_3, .int x_4, .ref q_7, .ref q_8, .ref q_9])), (q_1, .inr (4, [.int x_5, .ref q_10, .int x_6, .ref q_11, .ref q_12, .int x_7, .ref q_13, .ref q_14, .ref q_15, .int x_8, .ref q_16, .ref q_17, .ref q_18])), (q_2, .inl (k 0, 6, .inl F18)), (q_3, .inl (k 0, 36, .inl f_10)), (q_4, .inl (k 0, 448, .inl f_11)), (q_5, .inl (k 0, 448, .inl f_12))] H → va_D A [(q_0, .inr (2, [.ref q_6, .ref q_1, .ref q_2, .int x_0, .int x_1, .ref q_3, .ref q_4, .ref q_5, .int x_2, .int x_3, .int x_4, .ref q_7, .ref q_8, .ref q_9])), (q_1, .inr (4, [.int x_5, .ref q_10, .int x_6, .ref q_11, .ref q_12, .int x_7, .ref q_13, .ref q_14, .ref q_15, .int x_8, .ref q_16, .ref q_17, .ref q_18])), (q_2, .inl (k 0, 6, .inl F18)), (q_3, .inl (k 0, 36, .inl f_10)), (q_4, .inl (k 0, 448, .inl f_11)), (q_5, .inl (k 0, 448, .inl f_12))] → va_S A s.heap H locs → lv_has ls 4 [(2, .int y16), (1, .int y17), (0, .ref q_0)] → W p l e { frames := 1, cells := 0, slots := 0, locals := 23 } s m args below meth c H locs 0 0 (MQ below (va_Qv (fun (u : zS) => u.1 = 0 ∧ zR (u.2.2.2.2.1 0) (-1) 5) (zB D k A (fun (u : zS) => [(q_0, .inr (2, [.ref q_6, .ref q_1, .ref q_2, .int x_6, .int (u.2.2.1 0), .ref q_3, .ref q_4, .ref q_5, .int x_2, .int x_3, .int x_4, .ref q_7, .ref q_8, .ref q_9])), (q_1, .inr (4, [.int x_5, .ref q_10, .int x_6, .ref q_11, .ref q_12, .int x_7, .ref q_13, .ref q_14, .ref q_15, .int x_8, .ref q_16, .ref q_17, .ref q_18])), (q_2, .inl (k 0, 6, .inl (u.2.2.2.2.1 0))), (q_3, .inl (k 0, 36, .inl f_10)), (q_4, .inl (k 0, 448, .inl f_11)), (q_5, .inl (k 0, 448, .inl f_12))])) A) args s 0 0 A) (F0 m 4 ls []) := by
    intro N20
    induction N20 with
    | zero => intro y16 y17 F18 H locs ls hm; exact absurd hm (Nat.not_lt_zero _)
    | succ N20 ihN20 =>
      intro y16 y17 F18 H locs ls hN20 hy16 hy17 hF18 hP hD hS hl
      refine lv_iload_n hx hb dX2_keepFirstBest_4 rfl (lv_at hl 0 rfl) ?_
      refine lv_aload_n hx hb dX2_keepFirstBest_5 rfl (lv_at hl 2 rfl) ?_
      refine va_get (D := D) (ci := 2) (v := .ref q_1) (C := RX2) (T := TX2) (N := 14) hx hb hts inX2 hown hK hP 0 rfl rfl 1 (by decide) (hts _ kF_X2_48) (fun _ h9 => h9) rfl dX2_keepFirstBest_6 ?_
      refine va_get (D := D) (ci := 4) (v := .int x_6) (C := RX4) (T := TX4) (N := 13) hx hb hts inX4 hown hK hP 1 rfl rfl 2 (by decide) (hts _ kF_X2_58) (fun _ h9 => h9) rfl dX2_keepFirstBest_9 ?_
      refine lv_icmp_ge (tgt := 110) hx hb dX2_keepFirstBest_12 (by decide) (fun c21 => ?_) (fun c21 => ?_)
      · refine lv_aload_n hx hb dX2_keepFirstBest_110 rfl (lv_at hl 2 rfl) ?_
        refine lv_aload_n hx hb dX2_keepFirstBest_111 rfl (lv_at hl 2 rfl) ?_
        refine va_get (D := D) (ci := 2) (v := .ref q_1) (C := RX2) (T := TX2) (N := 14) hx hb hts inX2 hown hK hP 0 rfl rfl 1 (by decide) (hts _ kF_X2_48) (fun _ h9 => h9) rfl dX2_keepFirstBest_112 ?_
        refine va_get (D := D) (ci := 4) (v := .int x_6) (C := RX4) (T := TX4) (N := 13) hx hb hts inX4 hown hK hP 1 rfl rfl 2 (by decide) (hts _ kF_X2_58) (fun _ h9 => h9) rfl dX2_keepFirstBest_115 ?_
        refine va_put (D := D) (ci := 2) (v := .int x_6) (ty := .int) (C := RX2) (T := TX2) (N := 14) hx hb hts inX2 tyX2 tyX2_ok nmX2 hown hK hP hD hS 0 rfl rfl 3 (by decide) (hts _ kF_X2_82) (fun _ h9 => h9) rfl (by decide +kernel) rfl rfl (Nat.le_of_ble_eq_true rfl) dX2_keepFirstBest_118 (fun H locs hP hD hS => ?_)
        have hP : va_P D vwCl [(q_0, .inr (2, [.ref q_6, .ref q_1, .ref q_2, .int x_6, .int x_1, .ref q_3, .ref q_4, .ref q_5, .int x_2, .int x_3, .int x_4, .ref q_7, .ref q_8, .ref q_9])), (q_1, .inr (4, [.int x_5, .ref q_10, .int x_6, .ref q_11, .ref q_12, .int x_7, .ref q_13, .ref q_14, .ref q_15, .int x_8, .ref q_16, .ref q_17, .ref q_18])), (q_2, .inl (k 0, 6, .inl F18)), (q_3, .inl (k 0, 36, .inl f_10)), (q_4, .inl (k 0, 448, .inl f_11)), (q_5, .inl (k 0, 448, .inl f_12))] H := hP
        have hD : va_D A [(q_0, .inr (2, [.ref q_6, .ref q_1, .ref q_2, .int x_6, .int x_1, .ref q_3, .ref q_4, .ref q_5, .int x_2, .int x_3, .int x_4, .ref q_7, .ref q_8, .ref q_9])), (q_1, .inr (4, [.int x_5, .ref q_10, .int x_6, .ref q_11, .ref q_12, .int x_7, .ref q_13, .ref q_14, .ref q_15, .int x_8, .ref q_16, .ref q_17, .ref q_18])), (q_2, .inl (k 0, 6, .inl F18)), (q_3, .inl (k 0, 36, .inl f_10)), (q_4, .inl (k 0, 448, .inl f_11)), (q_5, .inl (k 0, 448, .inl f_12))] := hD
        refine lv_aload_n hx hb dX2_keepFirstBest_121 rfl (lv_at hl 2 rfl) ?_
        refine lv_aload_n hx hb dX2_keepFirstBest_122 rfl (lv_at hl 2 rfl) ?_
        refine va_get (D := D) (ci := 2) (v := .ref q_5) (C := RX2) (T := TX2) (N := 14) hx hb hts inX2 hown hK hP 0 rfl rfl 7 (by decide) (hts _ kF_X2_25) (fun _ h9 => h9) rfl dX2_keepFirstBest_123 ?_
        refine lv_iconst (v := 0) hx hb dX2_keepFirstBest_126 (by decide) ?_
        refine va_iald hx hb hK hP 5 0 rfl rfl (by unfold vp_in; decide) dX2_keepFirstBest_127 ?_
        refine lv_topi (fun y22 ey22 => ?_)
        refine va_put (D := D) (ci := 2) (v := .int y22) (ty := .int) (C := RX2) (T := TX2) (N := 14) hx hb hts inX2 tyX2 tyX2_ok nmX2 hown hK hP hD hS 0 rfl rfl 4 (by decide) (hts _ kF_X2_15) (fun _ h9 => h9) rfl (by decide +kernel) rfl rfl (Nat.le_of_ble_eq_true rfl) dX2_keepFirstBest_128 (fun H locs hP hD hS => ?_)
        have hP : va_P D vwCl [(q_0, .inr (2, [.ref q_6, .ref q_1, .ref q_2, .int x_6, .int y22, .ref q_3, .ref q_4, .ref q_5, .int x_2, .int x_3, .int x_4, .ref q_7, .ref q_8, .ref q_9])), (q_1, .inr (4, [.int x_5, .ref q_10, .int x_6, .ref q_11, .ref q_12, .int x_7, .ref q_13, .ref q_14, .ref q_15, .int x_8, .ref q_16, .ref q_17, .ref q_18])), (q_2, .inl (k 0, 6, .inl F18)), (q_3, .inl (k 0, 36, .inl f_10)), (q_4, .inl (k 0, 448, .inl f_11)), (q_5, .inl (k 0, 448, .inl f_12))] H := hP
        have hD : va_D A [(q_0, .inr (2, [.ref q_6, .ref q_1, .ref q_2, .int x_6, .int y22, .ref q_3, .ref q_4, .ref q_5, .int x_2, .int x_3, .int x_4, .ref q_7, .ref q_8, .ref q_9])), (q_1, .inr (4, [.int x_5, .ref q_10, .int x_6, .ref q_11, .ref q_12, .int x_7, .ref q_13, .ref q_14, .ref q_15, .int x_8, .ref q_16, .ref q_17, .ref q_18])), (q_2, .inl (k 0, 6, .inl F18)), (q_3, .inl (k 0, 36, .inl f_10)), (q_4, .inl (k 0, 448, .inl f_11)), (q_5, .inl (k 0, 448, .inl f_12))] := hD
        exact z_vret C0 hr hlk hK hP hD hS (0, fun _ => 0, fun i => [y22].getD i 0, fun _ => 0, fun i => [F18].getD i (fun _ => 0), fun _ => (fun _ => 0), fun _ => (fun _ => none)) ⟨rfl, hF18⟩ [0, 1, 2, 3, 4, 5] rfl rfl rfl dX2_keepFirstBest_131
      · refine lv_aload_n hx hb dX2_keepFirstBest_15 rfl (lv_at hl 2 rfl) ?_
        refine va_get (D := D) (ci := 2) (v := .ref q_2) (C := RX2) (T := TX2) (N := 14) hx hb hts inX2 hown hK hP 0 rfl rfl 2 (by decide) (hts _ kF_X2_9) (fun _ h9 => h9) rfl dX2_keepFirstBest_16 ?_
        refine lv_iload_n hx hb dX2_keepFirstBest_19 rfl (lv_at hl 0 rfl) ?_
        refine lv_iconst (v := (-1)) hx hb dX2_keepFirstBest_20 (by decide) ?_
        refine va_iast hx hb hK hP hD hS 2 0 rfl rfl (by revert hN20 hy16 c21 h_x_6; first | omega | (simp only [vp_in_iff, Int32.lt_iff_toInt_lt, Int32.le_iff_toInt_le, Int64.lt_iff_toInt_lt, Int64.le_iff_toInt_le, Int32.toInt_toInt64, ← Int32.toInt_inj, ← Int64.toInt_inj, Int32.reduceToInt, Int64.reduceToInt] <;> omega)) dX2_keepFirstBest_21 (fun H locs hP hD hS => ?_)
        have hF23 := zR_upd (j := Int32.toNatClampNeg y16) (v := ((-1) : Int32)) hF18 (by decide)
        obtain ⟨F23, eF23⟩ : ∃ q, q = upd F18 (Int32.toNatClampNeg y16) (-1) := ⟨_, rfl⟩
        rw [← eF23] at hF23
        have hP : va_P D vwCl [(q_0, .inr (2, [.ref q_6, .ref q_1, .ref q_2, .int x_0, .int x_1, .ref q_3, .ref q_4, .ref q_5, .int x_2, .int x_3, .int x_4, .ref q_7, .ref q_8, .ref q_9])), (q_1, .inr (4, [.int x_5, .ref q_10, .int x_6, .ref q_11, .ref q_12, .int x_7, .ref q_13, .ref q_14, .ref q_15, .int x_8, .ref q_16, .ref q_17, .ref q_18])), (q_2, .inl (k 0, 6, .inl F23)), (q_3, .inl (k 0, 36, .inl f_10)), (q_4, .inl (k 0, 448, .inl f_11)), (q_5, .inl (k 0, 448, .inl f_12))] H := by rw [eF23]; exact hP
        have hD : va_D A [(q_0, .inr (2, [.ref q_6, .ref q_1, .ref q_2, .int x_0, .int x_1, .ref q_3, .ref q_4, .ref q_5, .int x_2, .int x_3, .int x_4, .ref q_7, .ref q_8, .ref q_9])), (q_1, .inr (4, [.int x_5, .ref q_10, .int x_6, .ref q_11, .ref q_12, .int x_7, .ref q_13, .ref q_14, .ref q_15, .int x_8, .ref q_16, .ref q_17, .ref q_18])), (q_2, .inl (k 0, 6, .inl F23)), (q_3, .inl (k 0, 36, .inl f_10)), (q_4, .inl (k 0, 448, .inl f_11)), (q_5, .inl (k 0, 448, .inl f_12))] := by rw [eF23]; exact hD
        refine lv_iconst (v := 0) hx hb dX2_keepFirstBest_22 (by decide) ?_
        refine lv_istore_n (lv' := [(3, .int 0), (2, .int y16), (1, .int y17), (0, .ref q_0)]) hx hb dX2_keepFirstBest_23 rfl hl (by decide) rfl (fun ls hl => ?_)
        have loop36 : ∀ (N37 : Nat) (y34 : Int32) (F35 : Nat → Int32) (H : Heap) (locs : List Loc) (ls : Array Slot), Int.toNat (6 - Int32.toInt y34) < N37 → 0 ≤ Int32.toInt y34 ∧ Int32.toInt y34 ≤ 6 → zR F35 (-1) 5 → va_P D vwCl [(q_0, .inr (2, [.ref q_6, .ref q_1, .ref q_2, .int x_0, .int x_1, .ref q_3, .ref q_4, .ref q_5, .int x_2, .int x_3, .int x_4, .ref q_7, .ref q_8, .ref q_9])), (q_1, .inr (4, [.int x_5, .ref q_10, .int x_6, .ref q_11, .ref q_12, .int x_7, .ref q_13, .ref q_14, .ref q_15, .int x_8, .ref q_16, .ref q_17, .ref q_18])), (q_2, .inl (k 0, 6, .inl F35)), (q_3, .inl (k 0, 36, .inl f_10)), (q_4, .inl (k 0, 448, .inl f_11)), (q_5, .inl (k 0, 448, .inl f_12))] H → va_D A [(q_0, .inr (2, [.ref q_6, .ref q_1, .ref q_2, .int x_0, .int x_1, .ref q_3, .ref q_4, .ref q_5, .int x_2, .int x_3, .int x_4, .ref q_7, .ref q_8, .ref q_9])), (q_1, .inr (4, [.int x_5, .ref q_10, .int x_6, .ref q_11, .ref q_12, .int x_7, .ref q_13, .ref q_14, .ref q_15, .int x_8, .ref q_16, .ref q_17, .ref q_18])), (q_2, .inl (k 0, 6, .inl F35)), (q_3, .inl (k 0, 36, .inl f_10)), (q_4, .inl (k 0, 448, .inl f_11)), (q_5, .inl (k 0, 448, .inl f_12))] → va_S A s.heap H locs → lv_has ls 4 [(3, .int y34), (2, .int y16), (1, .int y17), (0, .ref q_0)] → W p l e { frames := 1, cells := 0, slots := 0, locals := 23 } s m args below meth c H locs 0 0 (MQ below (va_Qv (fun (u : zS) => u.1 = 0 ∧ zR (u.2.2.2.2.1 0) (-1) 5) (zB D k A (fun (u : zS) => [(q_0, .inr (2, [.ref q_6, .ref q_1, .ref q_2, .int x_6, .int (u.2.2.1 0), .ref q_3, .ref q_4, .ref q_5, .int x_2, .int x_3, .int x_4, .ref q_7, .ref q_8, .ref q_9])), (q_1, .inr (4, [.int x_5, .ref q_10, .int x_6, .ref q_11, .ref q_12, .int x_7, .ref q_13, .ref q_14, .ref q_15, .int x_8, .ref q_16, .ref q_17, .ref q_18])), (q_2, .inl (k 0, 6, .inl (u.2.2.2.2.1 0))), (q_3, .inl (k 0, 36, .inl f_10)), (q_4, .inl (k 0, 448, .inl f_11)), (q_5, .inl (k 0, 448, .inl f_12))])) A) args s 0 0 A) (F0 m 24 ls []) := by
          intro N37
          induction N37 with
          | zero => intro y34 F35 H locs ls hm; exact absurd hm (Nat.not_lt_zero _)
          | succ N37 ihN37 =>
            intro y34 F35 H locs ls hN37 hy34 hF35 hP hD hS hl
            refine lv_iload_n hx hb dX2_keepFirstBest_24 rfl (lv_at hl 0 rfl) ?_
            refine lv_aload_n hx hb dX2_keepFirstBest_25 rfl (lv_at hl 3 rfl) ?_
            refine va_get (D := D) (ci := 2) (v := .ref q_1) (C := RX2) (T := TX2) (N := 14) hx hb hts inX2 hown hK hP 0 rfl rfl 1 (by decide) (hts _ kF_X2_48) (fun _ h9 => h9) rfl dX2_keepFirstBest_26 ?_
            refine va_get (D := D) (ci := 4) (v := .int x_5) (C := RX4) (T := TX4) (N := 13) hx hb hts inX4 hown hK hP 1 rfl rfl 0 (by decide) (hts _ kF_X2_49) (fun _ h9 => h9) rfl dX2_keepFirstBest_29 ?_
            refine lv_icmp_ge (tgt := 79) hx hb dX2_keepFirstBest_32 (by decide) (fun c38 => ?_) (fun c38 => ?_)
            · refine lv_iload_n hx hb dX2_keepFirstBest_79 rfl (lv_at hl 2 rfl) ?_
              refine lv_aload_n hx hb dX2_keepFirstBest_80 rfl (lv_at hl 3 rfl) ?_
              refine va_get (D := D) (ci := 2) (v := .ref q_2) (C := RX2) (T := TX2) (N := 14) hx hb hts inX2 hown hK hP 0 rfl rfl 2 (by decide) (hts _ kF_X2_9) (fun _ h9 => h9) rfl dX2_keepFirstBest_81 ?_
              refine lv_iload_n hx hb dX2_keepFirstBest_84 rfl (lv_at hl 1 rfl) ?_
              refine va_iald hx hb hK hP 2 0 rfl rfl (by revert hN20 hy16 c21 h_x_6; first | omega | (simp only [vp_in_iff, Int32.lt_iff_toInt_lt, Int32.le_iff_toInt_le, Int64.lt_iff_toInt_lt, Int64.le_iff_toInt_le, Int32.toInt_toInt64, ← Int32.toInt_inj, ← Int64.toInt_inj, Int32.reduceToInt, Int64.reduceToInt] <;> omega)) dX2_keepFirstBest_85 ?_
              refine lv_topi (fun y39 ey39 => ?_)
              have hy39 : (-1) ≤ Int32.toInt y39 ∧ Int32.toInt y39 ≤ 5 := by rw [ey39]; exact hF35 _
              refine lv_iconst (v := (-1)) hx hb dX2_keepFirstBest_86 (by decide) ?_
              refine lv_icmp_ne (tgt := 94) hx hb dX2_keepFirstBest_87 (by decide) (fun c40 => ?_) (fun c40 => ?_)
              · refine lv_iconst (v := 1) hx hb dX2_keepFirstBest_94 (by decide) ?_
                refine lv_aload_n hx hb dX2_keepFirstBest_95 rfl (lv_at hl 3 rfl) ?_
                refine va_get (D := D) (ci := 2) (v := .ref q_2) (C := RX2) (T := TX2) (N := 14) hx hb hts inX2 hown hK hP 0 rfl rfl 2 (by decide) (hts _ kF_X2_9) (fun _ h9 => h9) rfl dX2_keepFirstBest_96 ?_
                refine lv_iload_n hx hb dX2_keepFirstBest_99 rfl (lv_at hl 1 rfl) ?_
                refine va_iald hx hb hK hP 2 0 rfl rfl (by revert hN20 hy16 c21 h_x_6; first | omega | (simp only [vp_in_iff, Int32.lt_iff_toInt_lt, Int32.le_iff_toInt_le, Int64.lt_iff_toInt_lt, Int64.le_iff_toInt_le, Int32.toInt_toInt64, ← Int32.toInt_inj, ← Int64.toInt_inj, Int32.reduceToInt, Int64.reduceToInt] <;> omega)) dX2_keepFirstBest_100 ?_
                refine lv_toc (v := y39) ey39.symm ?_
                refine lv_ishl hx hb dX2_keepFirstBest_101 ?_
                refine lv_topi (fun y41 ey41 => ?_)
                have hy41 : 1 ≤ Int32.toInt y41 ∧ Int32.toInt y41 ≤ 32 := by rw [ey41]; exact zo_shl1 5 (show 0 ≤ Int32.toInt y39 ∧ Int32.toInt y39 ≤ 5 by revert hy39 c40; first | omega | (simp only [vp_in_iff, Int32.lt_iff_toInt_lt, Int32.le_iff_toInt_le, Int64.lt_iff_toInt_lt, Int64.le_iff_toInt_le, Int32.toInt_toInt64, ← Int32.toInt_inj, ← Int64.toInt_inj, Int32.reduceToInt, Int64.reduceToInt] <;> omega)) (by decide)
                refine lv_ior hx hb dX2_keepFirstBest_102 ?_
                refine lv_topi (fun y42 ey42 => ?_)
                have hy42 : 0 ≤ Int32.toInt y42 ∧ Int32.toInt y42 ≤ 63 := by rw [ey42]; exact zo_or 6 (show 0 ≤ Int32.toInt y17 ∧ Int32.toInt y17 < 2 ^ 6 by revert hy17 hy41; first | omega | (simp only [vp_in_iff, Int32.lt_iff_toInt_lt, Int32.le_iff_toInt_le, Int64.lt_iff_toInt_lt, Int64.le_iff_toInt_le, Int32.toInt_toInt64, ← Int32.toInt_inj, ← Int64.toInt_inj, Int32.reduceToInt, Int64.reduceToInt] <;> omega)) (show 0 ≤ Int32.toInt y41 ∧ Int32.toInt y41 < 2 ^ 6 by revert hy17 hy41; first | omega | (simp only [vp_in_iff, Int32.lt_iff_toInt_lt, Int32.le_iff_toInt_le, Int64.lt_iff_toInt_lt, Int64.le_iff_toInt_le, Int32.toInt_toInt64, ← Int32.toInt_inj, ← Int64.toInt_inj, Int32.reduceToInt, Int64.reduceToInt] <;> omega)) (by decide)
                refine lv_istore_n (lv' := [(1, .int y42), (3, .int y34), (2, .int y16), (0, .ref q_0)]) hx hb dX2_keepFirstBest_103 rfl hl (by decide) rfl (fun ls hl => ?_)
                obtain ⟨y43, ey43⟩ : ∃ q : Int32, q = y16 + 1 := ⟨_, rfl⟩
                have hy43 : Int32.toInt y43 = Int32.toInt y16 + 1 := by rw [ey43]; exact zi_addc rfl (by decide) (by revert hN20 hy16 c21 h_x_6; first | omega | (simp only [vp_in_iff, Int32.lt_iff_toInt_lt, Int32.le_iff_toInt_le, Int64.lt_iff_toInt_lt, Int64.le_iff_toInt_le, Int32.toInt_toInt64, ← Int32.toInt_inj, ← Int64.toInt_inj, Int32.reduceToInt, Int64.reduceToInt] <;> omega))
                refine lv_iinc (v := y43) (lv' := [(2, .int y43), (1, .int y42), (3, .int y34), (0, .ref q_0)]) hx hb dX2_keepFirstBest_104 hl (k := 2) rfl (by rw [ey43]; exact zz_inc (by decide)) (by decide) rfl (fun ls hl => ?_)
                refine lv_goto (tgt := 4) hx hb dX2_keepFirstBest_107 (by decide) ?_
                exact ihN20 y43 y42 F35 _ _ ls (by revert hN20 hy16 c21 hy43 h_x_6; first | omega | (simp only [vp_in_iff, Int32.lt_iff_toInt_lt, Int32.le_iff_toInt_le, Int64.lt_iff_toInt_lt, Int64.le_iff_toInt_le, Int32.toInt_toInt64, ← Int32.toInt_inj, ← Int64.toInt_inj, Int32.reduceToInt, Int64.reduceToInt] <;> omega)) (by revert hN20 hy16 c21 hy43 h_x_6; first | omega | (simp only [vp_in_iff, Int32.lt_iff_toInt_lt, Int32.le_iff_toInt_le, Int64.lt_iff_toInt_lt, Int64.le_iff_toInt_le, Int32.toInt_toInt64, ← Int32.toInt_inj, ← Int64.toInt_inj, Int32.reduceToInt, Int64.reduceToInt] <;> omega)) (by revert hy42; first | omega | (simp only [vp_in_iff, Int32.lt_iff_toInt_lt, Int32.le_iff_toInt_le, Int64.lt_iff_toInt_lt, Int64.le_iff_toInt_le, Int32.toInt_toInt64, ← Int32.toInt_inj, ← Int64.toInt_inj, Int32.reduceToInt, Int64.reduceToInt] <;> omega)) hF35 hP hD hS (lv_sub hl [0, 1, 3] rfl)
              · refine lv_iconst (v := 0) hx hb dX2_keepFirstBest_90 (by decide) ?_
                refine lv_goto (tgt := 102) hx hb dX2_keepFirstBest_91 (by decide) ?_
                refine lv_ior hx hb dX2_keepFirstBest_102 ?_
                refine lv_topi (fun y44 ey44 => ?_)
                have hy44 : 0 ≤ Int32.toInt y44 ∧ Int32.toInt y44 ≤ 63 := by rw [ey44]; exact zo_or 6 (show 0 ≤ Int32.toInt y17 ∧ Int32.toInt y17 < 2 ^ 6 by revert hy17; first | omega | (simp only [vp_in_iff, Int32.lt_iff_toInt_lt, Int32.le_iff_toInt_le, Int64.lt_iff_toInt_lt, Int64.le_iff_toInt_le, Int32.toInt_toInt64, ← Int32.toInt_inj, ← Int64.toInt_inj, Int32.reduceToInt, Int64.reduceToInt] <;> omega)) (show 0 ≤ Int32.toInt 0 ∧ Int32.toInt 0 < 2 ^ 6 by revert hy17; first | omega | (simp only [vp_in_iff, Int32.lt_iff_toInt_lt, Int32.le_iff_toInt_le, Int64.lt_iff_toInt_lt, Int64.le_iff_toInt_le, Int32.toInt_toInt64, ← Int32.toInt_inj, ← Int64.toInt_inj, Int32.reduceToInt, Int64.reduceToInt] <;> omega)) (by decide)
                refine lv_istore_n (lv' := [(1, .int y44), (3, .int y34), (2, .int y16), (0, .ref q_0)]) hx hb dX2_keepFirstBest_103 rfl hl (by decide) rfl (fun ls hl => ?_)
                obtain ⟨y45, ey45⟩ : ∃ q : Int32, q = y16 + 1 := ⟨_, rfl⟩
                have hy45 : Int32.toInt y45 = Int32.toInt y16 + 1 := by rw [ey45]; exact zi_addc rfl (by decide) (by revert hN20 hy16 c21 h_x_6; first | omega | (simp only [vp_in_iff, Int32.lt_iff_toInt_lt, Int32.le_iff_toInt_le, Int64.lt_iff_toInt_lt, Int64.le_iff_toInt_le, Int32.toInt_toInt64, ← Int32.toInt_inj, ← Int64.toInt_inj, Int32.reduceToInt, Int64.reduceToInt] <;> omega))
                refine lv_iinc (v := y45) (lv' := [(2, .int y45), (1, .int y44), (3, .int y34), (0, .ref q_0)]) hx hb dX2_keepFirstBest_104 hl (k := 2) rfl (by rw [ey45]; exact zz_inc (by decide)) (by decide) rfl (fun ls hl => ?_)
                refine lv_goto (tgt := 4) hx hb dX2_keepFirstBest_107 (by decide) ?_
                exact ihN20 y45 y44 F35 _ _ ls (by revert hN20 hy16 c21 hy45 h_x_6; first | omega | (simp only [vp_in_iff, Int32.lt_iff_toInt_lt, Int32.le_iff_toInt_le, Int64.lt_iff_toInt_lt, Int64.le_iff_toInt_le, Int32.toInt_toInt64, ← Int32.toInt_inj, ← Int64.toInt_inj, Int32.reduceToInt, Int64.reduceToInt] <;> omega)) (by revert hN20 hy16 c21 hy45 h_x_6; first | omega | (simp only [vp_in_iff, Int32.lt_iff_toInt_lt, Int32.le_iff_toInt_le, Int64.lt_iff_toInt_lt, Int64.le_iff_toInt_le, Int32.toInt_toInt64, ← Int32.toInt_inj, ← Int64.toInt_inj, Int32.reduceToInt, Int64.reduceToInt] <;> omega)) (by revert hy44; first | omega | (simp only [vp_in_iff, Int32.lt_iff_toInt_lt, Int32.le_iff_toInt_le, Int64.lt_iff_toInt_lt, Int64.le_iff_toInt_le, Int32.toInt_toInt64, ← Int32.toInt_inj, ← Int64.toInt_inj, Int32.reduceToInt, Int64.reduceToInt] <;> omega)) hF35 hP hD hS (lv_sub hl [0, 1, 3] rfl)
            · refine lv_aload_n hx hb dX2_keepFirstBest_35 rfl (lv_at hl 3 rfl) ?_
              refine va_get (D := D) (ci := 2) (v := .ref q_2) (C := RX2) (T := TX2) (N := 14) hx hb hts inX2 hown hK hP 0 rfl rfl 2 (by decide) (hts _ kF_X2_9) (fun _ h9 => h9) rfl dX2_keepFirstBest_36 ?_
              refine lv_iload_n hx hb dX2_keepFirstBest_39 rfl (lv_at hl 1 rfl) ?_
              refine va_iald hx hb hK hP 2 0 rfl rfl (by revert hN20 hy16 c21 h_x_6; first | omega | (simp only [vp_in_iff, Int32.lt_iff_toInt_lt, Int32.le_iff_toInt_le, Int64.lt_iff_toInt_lt, Int64.le_iff_toInt_le, Int32.toInt_toInt64, ← Int32.toInt_inj, ← Int64.toInt_inj, Int32.reduceToInt, Int64.reduceToInt] <;> omega)) dX2_keepFirstBest_40 ?_
              refine lv_topi (fun y46 ey46 => ?_)
              have hy46 : (-1) ≤ Int32.toInt y46 ∧ Int32.toInt y46 ≤ 5 := by rw [ey46]; exact hF35 _
              refine lv_iconst (v := (-1)) hx hb dX2_keepFirstBest_41 (by decide) ?_
              refine lv_icmp_ne (tgt := 79) hx hb dX2_keepFirstBest_42 (by decide) (fun c47 => ?_) (fun c47 => ?_)
              · refine lv_iload_n hx hb dX2_keepFirstBest_79 rfl (lv_at hl 2 rfl) ?_
                refine lv_aload_n hx hb dX2_keepFirstBest_80 rfl (lv_at hl 3 rfl) ?_
                refine va_get (D := D) (ci := 2) (v := .ref q_2) (C := RX2) (T := TX2) (N := 14) hx hb hts inX2 hown hK hP 0 rfl rfl 2 (by decide) (hts _ kF_X2_9) (fun _ h9 => h9) rfl dX2_keepFirstBest_81 ?_
                refine lv_iload_n hx hb dX2_keepFirstBest_84 rfl (lv_at hl 1 rfl) ?_
                refine va_iald hx hb hK hP 2 0 rfl rfl (by revert hN20 hy16 c21 h_x_6; first | omega | (simp only [vp_in_iff, Int32.lt_iff_toInt_lt, Int32.le_iff_toInt_le, Int64.lt_iff_toInt_lt, Int64.le_iff_toInt_le, Int32.toInt_toInt64, ← Int32.toInt_inj, ← Int64.toInt_inj, Int32.reduceToInt, Int64.reduceToInt] <;> omega)) dX2_keepFirstBest_85 ?_
                refine lv_toc (v := y46) ey46.symm ?_
                refine lv_iconst (v := (-1)) hx hb dX2_keepFirstBest_86 (by decide) ?_
                refine lv_icmp_ne (tgt := 94) hx hb dX2_keepFirstBest_87 (by decide) (fun c48 => ?_) (fun c48 => ?_)
                · refine lv_iconst (v := 1) hx hb dX2_keepFirstBest_94 (by decide) ?_
                  refine lv_aload_n hx hb dX2_keepFirstBest_95 rfl (lv_at hl 3 rfl) ?_
                  refine va_get (D := D) (ci := 2) (v := .ref q_2) (C := RX2) (T := TX2) (N := 14) hx hb hts inX2 hown hK hP 0 rfl rfl 2 (by decide) (hts _ kF_X2_9) (fun _ h9 => h9) rfl dX2_keepFirstBest_96 ?_
                  refine lv_iload_n hx hb dX2_keepFirstBest_99 rfl (lv_at hl 1 rfl) ?_
                  refine va_iald hx hb hK hP 2 0 rfl rfl (by revert hN20 hy16 c21 h_x_6; first | omega | (simp only [vp_in_iff, Int32.lt_iff_toInt_lt, Int32.le_iff_toInt_le, Int64.lt_iff_toInt_lt, Int64.le_iff_toInt_le, Int32.toInt_toInt64, ← Int32.toInt_inj, ← Int64.toInt_inj, Int32.reduceToInt, Int64.reduceToInt] <;> omega)) dX2_keepFirstBest_100 ?_
                  refine lv_toc (v := y46) ey46.symm ?_
                  refine lv_ishl hx hb dX2_keepFirstBest_101 ?_
                  refine lv_topi (fun y49 ey49 => ?_)
                  have hy49 : 1 ≤ Int32.toInt y49 ∧ Int32.toInt y49 ≤ 32 := by rw [ey49]; exact zo_shl1 5 (show 0 ≤ Int32.toInt y46 ∧ Int32.toInt y46 ≤ 5 by revert hy46 c47 c48; first | omega | (simp only [vp_in_iff, Int32.lt_iff_toInt_lt, Int32.le_iff_toInt_le, Int64.lt_iff_toInt_lt, Int64.le_iff_toInt_le, Int32.toInt_toInt64, ← Int32.toInt_inj, ← Int64.toInt_inj, Int32.reduceToInt, Int64.reduceToInt] <;> omega)) (by decide)
                  refine lv_ior hx hb dX2_keepFirstBest_102 ?_
                  refine lv_topi (fun y50 ey50 => ?_)
                  have hy50 : 0 ≤ Int32.toInt y50 ∧ Int32.toInt y50 ≤ 63 := by rw [ey50]; exact zo_or 6 (show 0 ≤ Int32.toInt y17 ∧ Int32.toInt y17 < 2 ^ 6 by revert hy17 hy49; first | omega | (simp only [vp_in_iff, Int32.lt_iff_toInt_lt, Int32.le_iff_toInt_le, Int64.lt_iff_toInt_lt, Int64.le_iff_toInt_le, Int32.toInt_toInt64, ← Int32.toInt_inj, ← Int64.toInt_inj, Int32.reduceToInt, Int64.reduceToInt] <;> omega)) (show 0 ≤ Int32.toInt y49 ∧ Int32.toInt y49 < 2 ^ 6 by revert hy17 hy49; first | omega | (simp only [vp_in_iff, Int32.lt_iff_toInt_lt, Int32.le_iff_toInt_le, Int64.lt_iff_toInt_lt, Int64.le_iff_toInt_le, Int32.toInt_toInt64, ← Int32.toInt_inj, ← Int64.toInt_inj, Int32.reduceToInt, Int64.reduceToInt] <;> omega)) (by decide)
                  refine lv_istore_n (lv' := [(1, .int y50), (3, .int y34), (2, .int y16), (0, .ref q_0)]) hx hb dX2_keepFirstBest_103 rfl hl (by decide) rfl (fun ls hl => ?_)
                  obtain ⟨y51, ey51⟩ : ∃ q : Int32, q = y16 + 1 := ⟨_, rfl⟩
                  have hy51 : Int32.toInt y51 = Int32.toInt y16 + 1 := by rw [ey51]; exact zi_addc rfl (by decide) (by revert hN20 hy16 c21 h_x_6; first | omega | (simp only [vp_in_iff, Int32.lt_iff_toInt_lt, Int32.le_iff_toInt_le, Int64.lt_iff_toInt_lt, Int64.le_iff_toInt_le, Int32.toInt_toInt64, ← Int32.toInt_inj, ← Int64.toInt_inj, Int32.reduceToInt, Int64.reduceToInt] <;> omega))
                  refine lv_iinc (v := y51) (lv' := [(2, .int y51), (1, .int y50), (3, .int y34), (0, .ref q_0)]) hx hb dX2_keepFirstBest_104 hl (k := 2) rfl (by rw [ey51]; exact zz_inc (by decide)) (by decide) rfl (fun ls hl => ?_)
                  refine lv_goto (tgt := 4) hx hb dX2_keepFirstBest_107 (by decide) ?_
                  exact ihN20 y51 y50 F35 _ _ ls (by revert hN20 hy16 c21 hy51 h_x_6; first | omega | (simp only [vp_in_iff, Int32.lt_iff_toInt_lt, Int32.le_iff_toInt_le, Int64.lt_iff_toInt_lt, Int64.le_iff_toInt_le, Int32.toInt_toInt64, ← Int32.toInt_inj, ← Int64.toInt_inj, Int32.reduceToInt, Int64.reduceToInt] <;> omega)) (by revert hN20 hy16 c21 hy51 h_x_6; first | omega | (simp only [vp_in_iff, Int32.lt_iff_toInt_lt, Int32.le_iff_toInt_le, Int64.lt_iff_toInt_lt, Int64.le_iff_toInt_le, Int32.toInt_toInt64, ← Int32.toInt_inj, ← Int64.toInt_inj, Int32.reduceToInt, Int64.reduceToInt] <;> omega)) (by revert hy50; first | omega | (simp only [vp_in_iff, Int32.lt_iff_toInt_lt, Int32.le_iff_toInt_le, Int64.lt_iff_toInt_lt, Int64.le_iff_toInt_le, Int32.toInt_toInt64, ← Int32.toInt_inj, ← Int64.toInt_inj, Int32.reduceToInt, Int64.reduceToInt] <;> omega)) hF35 hP hD hS (lv_sub hl [0, 1, 3] rfl)
                · exact (show False by revert hy46 c47 c48; first | omega | (simp only [vp_in_iff, Int32.lt_iff_toInt_lt, Int32.le_iff_toInt_le, Int64.lt_iff_toInt_lt, Int64.le_iff_toInt_le, Int32.toInt_toInt64, ← Int32.toInt_inj, ← Int64.toInt_inj, Int32.reduceToInt, Int64.reduceToInt] <;> omega)).elim
              · refine lv_aload_n hx hb dX2_keepFirstBest_45 rfl (lv_at hl 3 rfl) ?_
                refine lv_iload_n hx hb dX2_keepFirstBest_46 rfl (lv_at hl 1 rfl) ?_
                refine lv_iload_n hx hb dX2_keepFirstBest_47 rfl (lv_at hl 2 rfl) ?_
                refine lv_iload_n hx hb dX2_keepFirstBest_48 rfl (lv_at hl 0 rfl) ?_
                refine z_bi (wr := [(q_1, .inr (4, [.int x_5, .ref q_10, .int x_6, .ref q_11, .ref q_12, .int x_7, .ref q_13, .ref q_14, .ref q_15, .int x_8, .ref q_16, .ref q_17, .ref q_18])), (q_2, .inl (k 0, 6, .inl F35)), (q_5, .inl (k 0, 448, .inl f_12))]) (z_runV (C := RX2) (As := [.int y16, .int y17, .int y34]) (rest := []) C0 (s_X2_scoreWith_115 l D k T q_0 q_3 q_4 q_6 q_1 q_2 q_5 q_7 q_8 q_9 y16 y17 y34 x_0 x_1 x_2 x_3 x_4 f_10 f_11 (by revert hN20 hy16 c21 h_x_6; first | omega | (simp only [vp_in_iff, Int32.lt_iff_toInt_lt, Int32.le_iff_toInt_le, Int64.lt_iff_toInt_lt, Int64.le_iff_toInt_le, Int32.toInt_toInt64, ← Int32.toInt_inj, ← Int64.toInt_inj, Int32.reduceToInt, Int64.reduceToInt] <;> omega)) (by revert hy17; first | omega | (simp only [vp_in_iff, Int32.lt_iff_toInt_lt, Int32.le_iff_toInt_le, Int64.lt_iff_toInt_lt, Int64.le_iff_toInt_le, Int32.toInt_toInt64, ← Int32.toInt_inj, ← Int64.toInt_inj, Int32.reduceToInt, Int64.reduceToInt] <;> omega)) (by revert hN37 hy34 c38 h_x_5; first | omega | (simp only [vp_in_iff, Int32.lt_iff_toInt_lt, Int32.le_iff_toInt_le, Int64.lt_iff_toInt_lt, Int64.le_iff_toInt_le, Int32.toInt_toInt64, ← Int32.toInt_inj, ← Int64.toInt_inj, Int32.reduceToInt, Int64.reduceToInt] <;> omega)) (by revert h_x_0; first | omega | (simp only [vp_in_iff, Int32.lt_iff_toInt_lt, Int32.le_iff_toInt_le, Int64.lt_iff_toInt_lt, Int64.le_iff_toInt_le, Int32.toInt_toInt64, ← Int32.toInt_inj, ← Int64.toInt_inj, Int32.reduceToInt, Int64.reduceToInt] <;> omega)) _) okV_X2_scoreWith kM_X2_78 rfl (z_pV (q0 := 0) hT hS hA hK hN hP hD [0, 3, 4] rfl rfl rfl rfl rfl) rfl hl.1 rfl (Nat.le_of_ble_eq_true rfl) dX2_keepFirstBest_49 rfl) hP hD hS hA [0, 3, 4] [1, 2, 5] rfl rfl rfl rfl (fun r52 u52 H locs hw52 hP hD hS => ?_)
                obtain ⟨i52, a52, v52, w52, f52, g52, o52⟩ := u52
                dsimp only at hw52
                obtain rfl := hw52
                have hP : va_P D vwCl [(q_1, .inr (4, [.int x_5, .ref q_10, .int x_6, .ref q_11, .ref q_12, .int x_7, .ref q_13, .ref q_14, .ref q_15, .int x_8, .ref q_16, .ref q_17, .ref q_18])), (q_2, .inl (k 0, 6, .inl F35)), (q_5, .inl (k 0, 448, .inl f_12)), (q_0, .inr (2, [.ref q_6, .ref q_1, .ref q_2, .int x_0, .int x_1, .ref q_3, .ref q_4, .ref q_5, .int x_2, .int x_3, .int x_4, .ref q_7, .ref q_8, .ref q_9])), (q_3, .inl (k 0, 36, .inl f_10)), (q_4, .inl (k 0, 448, .inl f_11))] H := hP
                have hD : va_D A [(q_1, .inr (4, [.int x_5, .ref q_10, .int x_6, .ref q_11, .ref q_12, .int x_7, .ref q_13, .ref q_14, .ref q_15, .int x_8, .ref q_16, .ref q_17, .ref q_18])), (q_2, .inl (k 0, 6, .inl F35)), (q_5, .inl (k 0, 448, .inl f_12)), (q_0, .inr (2, [.ref q_6, .ref q_1, .ref q_2, .int x_0, .int x_1, .ref q_3, .ref q_4, .ref q_5, .int x_2, .int x_3, .int x_4, .ref q_7, .ref q_8, .ref q_9])), (q_3, .inl (k 0, 36, .inl f_10)), (q_4, .inl (k 0, 448, .inl f_11))] := hD
                refine lv_aload_n hx hb dX2_keepFirstBest_52 rfl (lv_at hl 3 rfl) ?_
                refine va_get (D := D) (ci := 2) (v := .ref q_4) (C := RX2) (T := TX2) (N := 14) hx hb hts inX2 hown hK hP 3 rfl rfl 6 (by decide) (hts _ kF_X2_22) (fun _ h9 => h9) rfl dX2_keepFirstBest_53 ?_
                refine lv_iload_n hx hb dX2_keepFirstBest_56 rfl (lv_at hl 1 rfl) ?_
                refine lv_bipush (v := 64) hx hb dX2_keepFirstBest_57 (by decide) ?_
                refine lv_imul hx hb dX2_keepFirstBest_59 ?_
                refine lv_topi (fun y53 ey53 => ?_)
                have hy53 : Int32.toInt y53 = Int32.toInt y16 * 64 := by rw [ey53]; exact zi_mulc rfl (by decide) (by revert hN20 hy16 c21 h_x_6; first | omega | (simp only [vp_in_iff, Int32.lt_iff_toInt_lt, Int32.le_iff_toInt_le, Int64.lt_iff_toInt_lt, Int64.le_iff_toInt_le, Int32.toInt_toInt64, ← Int32.toInt_inj, ← Int64.toInt_inj, Int32.reduceToInt, Int64.reduceToInt] <;> omega))
                refine lv_iload_n hx hb dX2_keepFirstBest_60 rfl (lv_at hl 2 rfl) ?_
                refine lv_iadd hx hb dX2_keepFirstBest_61 ?_
                refine lv_topi (fun y54 ey54 => ?_)
                have hy54 : Int32.toInt y54 = Int32.toInt y53 + Int32.toInt y17 := by rw [ey54]; exact zi_addc rfl rfl (by revert hN20 hy16 hy17 c21 hy53 h_x_6; first | omega | (simp only [vp_in_iff, Int32.lt_iff_toInt_lt, Int32.le_iff_toInt_le, Int64.lt_iff_toInt_lt, Int64.le_iff_toInt_le, Int32.toInt_toInt64, ← Int32.toInt_inj, ← Int64.toInt_inj, Int32.reduceToInt, Int64.reduceToInt] <;> omega))
                refine va_iald hx hb hK hP 5 0 rfl rfl (by revert hN20 hy16 hy17 c21 hy53 hy54 h_x_6; first | omega | (simp only [vp_in_iff, Int32.lt_iff_toInt_lt, Int32.le_iff_toInt_le, Int64.lt_iff_toInt_lt, Int64.le_iff_toInt_le, Int32.toInt_toInt64, ← Int32.toInt_inj, ← Int64.toInt_inj, Int32.reduceToInt, Int64.reduceToInt] <;> omega)) dX2_keepFirstBest_62 ?_
                refine lv_topi (fun y55 ey55 => ?_)
                refine lv_icmp_ne (tgt := 73) hx hb dX2_keepFirstBest_63 (by decide) (fun c56 => ?_) (fun c56 => ?_)
                · obtain ⟨y57, ey57⟩ : ∃ q : Int32, q = y34 + 1 := ⟨_, rfl⟩
                  have hy57 : Int32.toInt y57 = Int32.toInt y34 + 1 := by rw [ey57]; exact zi_addc rfl (by decide) (by revert hN37 hy34 c38 h_x_5; first | omega | (simp only [vp_in_iff, Int32.lt_iff_toInt_lt, Int32.le_iff_toInt_le, Int64.lt_iff_toInt_lt, Int64.le_iff_toInt_le, Int32.toInt_toInt64, ← Int32.toInt_inj, ← Int64.toInt_inj, Int32.reduceToInt, Int64.reduceToInt] <;> omega))
                  refine lv_iinc (v := y57) (lv' := [(3, .int y57), (2, .int y16), (1, .int y17), (0, .ref q_0)]) hx hb dX2_keepFirstBest_73 hl (k := 0) rfl (by rw [ey57]; exact zz_inc (by decide)) (by decide) rfl (fun ls hl => ?_)
                  refine lv_goto (tgt := 24) hx hb dX2_keepFirstBest_76 (by decide) ?_
                  exact ihN37 y57 F35 _ _ ls (by revert hN37 hy34 c38 hy57 h_x_5; first | omega | (simp only [vp_in_iff, Int32.lt_iff_toInt_lt, Int32.le_iff_toInt_le, Int64.lt_iff_toInt_lt, Int64.le_iff_toInt_le, Int32.toInt_toInt64, ← Int32.toInt_inj, ← Int64.toInt_inj, Int32.reduceToInt, Int64.reduceToInt] <;> omega)) (by revert hN37 hy34 c38 hy57 h_x_5; first | omega | (simp only [vp_in_iff, Int32.lt_iff_toInt_lt, Int32.le_iff_toInt_le, Int64.lt_iff_toInt_lt, Int64.le_iff_toInt_le, Int32.toInt_toInt64, ← Int32.toInt_inj, ← Int64.toInt_inj, Int32.reduceToInt, Int64.reduceToInt] <;> omega)) hF35 (z_sub hP [3, 0, 1, 4, 5, 2] rfl) (hD.sub [3, 0, 1, 4, 5, 2] rfl rfl) hS (lv_sub hl [0, 1, 2, 3] rfl)
                · refine lv_aload_n hx hb dX2_keepFirstBest_66 rfl (lv_at hl 3 rfl) ?_
                  refine va_get (D := D) (ci := 2) (v := .ref q_2) (C := RX2) (T := TX2) (N := 14) hx hb hts inX2 hown hK hP 3 rfl rfl 2 (by decide) (hts _ kF_X2_9) (fun _ h9 => h9) rfl dX2_keepFirstBest_67 ?_
                  refine lv_iload_n hx hb dX2_keepFirstBest_70 rfl (lv_at hl 1 rfl) ?_
                  refine lv_iload_n hx hb dX2_keepFirstBest_71 rfl (lv_at hl 0 rfl) ?_
                  refine va_iast hx hb hK hP hD hS 1 0 rfl rfl (by revert hN20 hy16 c21 hy53 hy54 h_x_6 hy17; first | omega | (simp only [vp_in_iff, Int32.lt_iff_toInt_lt, Int32.le_iff_toInt_le, Int64.lt_iff_toInt_lt, Int64.le_iff_toInt_le, Int32.toInt_toInt64, ← Int32.toInt_inj, ← Int64.toInt_inj, Int32.reduceToInt, Int64.reduceToInt] <;> omega)) dX2_keepFirstBest_72 (fun H locs hP hD hS => ?_)
                  have hF58 := zR_upd (j := Int32.toNatClampNeg y16) (v := y34) hF35 (by revert hN37 hy34 c38 h_x_5; first | omega | (simp only [vp_in_iff, Int32.lt_iff_toInt_lt, Int32.le_iff_toInt_le, Int64.lt_iff_toInt_lt, Int64.le_iff_toInt_le, Int32.toInt_toInt64, ← Int32.toInt_inj, ← Int64.toInt_inj, Int32.reduceToInt, Int64.reduceToInt] <;> omega))
                  obtain ⟨F58, eF58⟩ : ∃ q, q = upd F35 (Int32.toNatClampNeg y16) y34 := ⟨_, rfl⟩
                  rw [← eF58] at hF58
                  have hP : va_P D vwCl [(q_1, .inr (4, [.int x_5, .ref q_10, .int x_6, .ref q_11, .ref q_12, .int x_7, .ref q_13, .ref q_14, .ref q_15, .int x_8, .ref q_16, .ref q_17, .ref q_18])), (q_2, .inl (k 0, 6, .inl F58)), (q_5, .inl (k 0, 448, .inl f_12)), (q_0, .inr (2, [.ref q_6, .ref q_1, .ref q_2, .int x_0, .int x_1, .ref q_3, .ref q_4, .ref q_5, .int x_2, .int x_3, .int x_4, .ref q_7, .ref q_8, .ref q_9])), (q_3, .inl (k 0, 36, .inl f_10)), (q_4, .inl (k 0, 448, .inl f_11))] H := by rw [eF58]; exact hP
                  have hD : va_D A [(q_1, .inr (4, [.int x_5, .ref q_10, .int x_6, .ref q_11, .ref q_12, .int x_7, .ref q_13, .ref q_14, .ref q_15, .int x_8, .ref q_16, .ref q_17, .ref q_18])), (q_2, .inl (k 0, 6, .inl F58)), (q_5, .inl (k 0, 448, .inl f_12)), (q_0, .inr (2, [.ref q_6, .ref q_1, .ref q_2, .int x_0, .int x_1, .ref q_3, .ref q_4, .ref q_5, .int x_2, .int x_3, .int x_4, .ref q_7, .ref q_8, .ref q_9])), (q_3, .inl (k 0, 36, .inl f_10)), (q_4, .inl (k 0, 448, .inl f_11))] := by rw [eF58]; exact hD
                  obtain ⟨y59, ey59⟩ : ∃ q : Int32, q = y34 + 1 := ⟨_, rfl⟩
                  have hy59 : Int32.toInt y59 = Int32.toInt y34 + 1 := by rw [ey59]; exact zi_addc rfl (by decide) (by revert hN37 hy34 c38 h_x_5; first | omega | (simp only [vp_in_iff, Int32.lt_iff_toInt_lt, Int32.le_iff_toInt_le, Int64.lt_iff_toInt_lt, Int64.le_iff_toInt_le, Int32.toInt_toInt64, ← Int32.toInt_inj, ← Int64.toInt_inj, Int32.reduceToInt, Int64.reduceToInt] <;> omega))
                  refine lv_iinc (v := y59) (lv' := [(3, .int y59), (2, .int y16), (1, .int y17), (0, .ref q_0)]) hx hb dX2_keepFirstBest_73 hl (k := 0) rfl (by rw [ey59]; exact zz_inc (by decide)) (by decide) rfl (fun ls hl => ?_)
                  refine lv_goto (tgt := 24) hx hb dX2_keepFirstBest_76 (by decide) ?_
                  exact ihN37 y59 F58 _ _ ls (by revert hN37 hy34 c38 hy59 h_x_5; first | omega | (simp only [vp_in_iff, Int32.lt_iff_toInt_lt, Int32.le_iff_toInt_le, Int64.lt_iff_toInt_lt, Int64.le_iff_toInt_le, Int32.toInt_toInt64, ← Int32.toInt_inj, ← Int64.toInt_inj, Int32.reduceToInt, Int64.reduceToInt] <;> omega)) (by revert hN37 hy34 c38 hy59 h_x_5; first | omega | (simp only [vp_in_iff, Int32.lt_iff_toInt_lt, Int32.le_iff_toInt_le, Int64.lt_iff_toInt_lt, Int64.le_iff_toInt_le, Int32.toInt_toInt64, ← Int32.toInt_inj, ← Int64.toInt_inj, Int32.reduceToInt, Int64.reduceToInt] <;> omega)) hF58 (z_sub hP [3, 0, 1, 4, 5, 2] rfl) (hD.sub [3, 0, 1, 4, 5, 2] rfl rfl) hS (lv_sub hl [0, 1, 2, 3] rfl)
        exact loop36 _ 0 F23 _ _ _ (Nat.lt_succ_self _) (by first | omega | (simp only [vp_in_iff, Int32.lt_iff_toInt_lt, Int32.le_iff_toInt_le, Int64.lt_iff_toInt_lt, Int64.le_iff_toInt_le, Int32.toInt_toInt64, ← Int32.toInt_inj, ← Int64.toInt_inj, Int32.reduceToInt, Int64.reduceToInt] <;> omega)) hF23 hP hD hS (lv_sub hl [0, 1, 2, 3] rfl)
  exact loop19 _ 0 0 f_9 _ _ _ (Nat.lt_succ_self _) (by first | omega | (simp only [vp_in_iff, Int32.lt_iff_toInt_lt, Int32.le_iff_toInt_le, Int64.lt_iff_toInt_lt, Int64.le_iff_toInt_le, Int32.toInt_toInt64, ← Int32.toInt_inj, ← Int64.toInt_inj, Int32.reduceToInt, Int64.reduceToInt] <;> omega)) (by first | omega | (simp only [vp_in_iff, Int32.lt_iff_toInt_lt, Int32.le_iff_toInt_le, Int64.lt_iff_toInt_lt, Int64.le_iff_toInt_le, Int32.toInt_toInt64, ← Int32.toInt_inj, ← Int64.toInt_inj, Int32.reduceToInt, Int64.reduceToInt] <;> omega)) h_f_9 hP hD hS (lv_sub hl [0, 1, 2] rfl)
