/-! Arrays.fill and copyRow, by hand: loops over a whole row -/
set_option maxHeartbeats 4000000 in
set_option maxRecDepth 100000 in
theorem c_fill (l : Launch) (D : va_G) (k : Nat → ClassId) (T : zTy) (q_0 : Nat) (x_0 : Int32) (f_0 : Nat → Int32) (n_0 : Nat) (hn : n_0 < 2 ^ 31) : zMv l yJ7_fill_53178 cJ7_fill_53178 4 none ({ frames := 0, cells := 0, slots := 0, locals := 0 }) D k T [.ref q_0, .int x_0] [(q_0, .inl (k 0, n_0, .inl f_0))] (fun u => u.1 = 0) (fun u => [(q_0, .inl (k 0, n_0, .inl (fun _ => x_0)))]) := by
  refine zMv_of (own := RJ7) (by decide +kernel) rfl (Nat.le_of_ble_eq_true rfl) ?_
  intro p e s m args below meth c A ls C0 hr hlk hin hP hD hS hA hK hN hT hl
  have hx := C0.1
  have hb := C0.2.1
  have hl : lv_has ls 4 [(0, .ref q_0), (1, .int x_0)] := hl
  have loop : ∀ (r i : Nat) (f : Nat → Int32) (H : Heap) (locs : List Loc) (ls : Array Slot), i + r = n_0 → (∀ j, j < i → f j = x_0) → va_P D vwCl [(q_0, .inl (k 0, n_0, .inl f))] H → va_D A [(q_0, .inl (k 0, n_0, .inl f))] → va_S A s.heap H locs → lv_has ls 4 [(0, .ref q_0), (1, .int x_0), (2, .int (nI i)), (3, .int (nI n_0))] → W p l e { frames := 0, cells := 0, slots := 0, locals := 0 } s m args below meth c H locs 0 0 (MQ below (va_Qv (fun u : zS => u.1 = 0) (zB D k A (fun u => [(q_0, .inl (k 0, n_0, .inl (fun _ => x_0)))])) A) args s 0 0 A) (F0 m 5 ls []) := by
    intro r
    induction r with
    | zero =>
      intro i f H locs ls hi hf hP hD hS hl
      refine lv_iload_n hx hb dJ7_fill_53178_5 rfl (lv_at hl 2 rfl) ?_
      refine lv_iload_n hx hb dJ7_fill_53178_6 rfl (lv_at hl 3 rfl) ?_
      refine lv_icmp_ge (tgt := 20) hx hb dJ7_fill_53178_7 (by decide) (fun _ => ?_) (fun c1 => absurd (nI_le (by omega) (by omega)) c1)
      have hP2 := z_cellEq (g := fun _ => x_0) hP (q0 := 0) rfl (fun j hj => hf j (by omega))
      have hD2 : va_D A [(q_0, .inl (k 0, n_0, .inl (fun _ => x_0)))] := hD.set (p := 0) rfl
      exact z_vret (ws := [(q_0, .inl (k 0, n_0, .inl (fun _ => x_0)))]) C0 hr hlk hK hP2 hD2 hS (0, fun _ => 0, zu0) rfl [0] rfl rfl rfl dJ7_fill_53178_20
    | succ r ih =>
      intro i f H locs ls hi hf hP hD hS hl
      refine lv_iload_n hx hb dJ7_fill_53178_5 rfl (lv_at hl 2 rfl) ?_
      refine lv_iload_n hx hb dJ7_fill_53178_6 rfl (lv_at hl 3 rfl) ?_
      refine lv_icmp_ge (tgt := 20) hx hb dJ7_fill_53178_7 (by decide) (fun c1 => absurd c1 (nI_ge (by omega) (by omega))) (fun _ => ?_)
      refine lv_aload_n hx hb dJ7_fill_53178_10 rfl (lv_at hl 0 rfl) ?_
      refine lv_iload_n hx hb dJ7_fill_53178_11 rfl (lv_at hl 2 rfl) ?_
      refine lv_iload_n hx hb dJ7_fill_53178_12 rfl (lv_at hl 1 rfl) ?_
      refine va_iast hx hb hK hP hD hS 0 0 rfl rfl (vp_in_nI (by omega) (by omega)) dJ7_fill_53178_13 (fun H locs hP hD hS => ?_)
      rw [nI_clamp (by omega)] at hP hD
      refine lv_iinc (v := nI (i + 1)) (lv' := [(2, .int (nI (i + 1))), (0, .ref q_0), (1, .int x_0), (3, .int (nI n_0))]) hx hb dJ7_fill_53178_14 hl (k := 2) rfl (nI_1 i) (by decide) rfl (fun ls hl => ?_)
      refine lv_goto (tgt := 5) hx hb dJ7_fill_53178_17 (by decide) ?_
      exact ih (i + 1) (upd f i x_0) H locs ls (by omega) (fun j hj => by
        by_cases h : j = i
        · subst h; exact pk_us
        · rw [pk_un h]; exact hf j (by omega)) hP hD hS (lv_sub hl [1, 2, 0, 3] rfl)
  refine lv_iconst (v := 0) hx hb dJ7_fill_53178_0 (by decide) ?_
  refine lv_istore_n (lv' := [(2, .int 0), (0, .ref q_0), (1, .int x_0)]) hx hb dJ7_fill_53178_1 rfl hl (by decide) rfl (fun ls hl => ?_)
  refine lv_aload_n hx hb dJ7_fill_53178_2 rfl (lv_at hl 1 rfl) ?_
  refine va_alen (v := nI n_0) (ty := .int) hx hb hK hP 0 0 rfl rfl rfl dJ7_fill_53178_3 ?_
  refine lv_istore_n (lv' := [(3, .int (nI n_0)), (2, .int 0), (0, .ref q_0), (1, .int x_0)]) hx hb dJ7_fill_53178_4 rfl hl (by decide) rfl (fun ls hl => ?_)
  exact loop n_0 0 f_0 _ _ ls (by omega) (fun j hj => absurd hj (Nat.not_lt_zero j)) hP hD hS (lv_sub hl [2, 3, 1, 0] rfl)
theorem kMinL : Cond.methodLink RX11 390 Lib.Math.min.name ∈ lw_g := mk_k 1206 (by decide +kernel) rfl
theorem kMinS : Cond.static Lib.Math.min.name ∈ lw_g := mk_k 611 (by decide +kernel) rfl
theorem kMinC : Cond.code Lib.Math.min.name Lib.Math.min.code 2 (some .int) ∈ lw_g := mk_k 612 (by decide +kernel) rfl
theorem kAcpL : Cond.methodLink RX11 395 arraycopyName ∈ lw_g := mk_k 1207 (by decide +kernel) rfl
theorem kAcpN : Cond.native arraycopyName ∈ lw_g := mk_k 857 (by decide +kernel) rfl
theorem kAcpS : Cond.static arraycopyName ∈ lw_g := mk_k 856 (by decide +kernel) rfl
set_option maxHeartbeats 4000000 in
set_option maxRecDepth 100000 in
theorem c_copyRow (l : Launch) (D : va_G) (k : Nat → ClassId) (T : zTy) (q_0 q_1 : Nat) (f_0 f_1 : Nat → Int32) (n_0 : Nat) (hn : n_0 < 2 ^ 31) : zMv l yX11_copyRow cX11_copyRow 2 none ({ frames := 1, cells := 0, slots := 0, locals := 60 }) D k T [.ref q_0, .ref q_1] [(q_0, .inl (k 0, n_0, .inl f_0)), (q_1, .inl (k 0, n_0, .inl f_1))] (fun u => u.1 = 0) (fun u => [(q_0, .inl (k 0, n_0, .inl f_0)), (q_1, .inl (k 0, n_0, .inl f_0))]) := by
  refine zMv_of (own := RX11) (by decide +kernel) rfl (Nat.le_of_ble_eq_true rfl) ?_
  intro p e s m args below meth c A ls C0 hr hlk hin hP hD hS hA hK hN hT hl
  have hx := C0.1
  have hb := C0.2.1
  have hml := C0.2.2.1
  have hown := C0.2.2.2.1
  have hts := C0.2.2.2.2
  have hl : lv_has ls 2 [(0, .ref q_0), (1, .ref q_1)] := hl
  refine lv_aload_n hx hb dX11_copyRow_0 rfl (lv_at hl 0 rfl) ?_
  refine lv_iconst (v := 0) hx hb dX11_copyRow_1 (by decide) ?_
  refine lv_aload_n hx hb dX11_copyRow_2 rfl (lv_at hl 1 rfl) ?_
  refine lv_iconst (v := 0) hx hb dX11_copyRow_3 (by decide) ?_
  refine lv_aload_n hx hb dX11_copyRow_4 rfl (lv_at hl 0 rfl) ?_
  refine va_alen (v := nI n_0) (ty := .int) hx hb hK hP 0 0 rfl rfl rfl dX11_copyRow_5 ?_
  refine lv_aload_n hx hb dX11_copyRow_6 rfl (lv_at hl 1 rfl) ?_
  refine va_alen (v := nI n_0) (ty := .int) hx hb hK hP 1 0 rfl rfl rfl dX11_copyRow_7 ?_
  refine va_mmin hx hb (by rw [hml]; exact hl.1.symm) hown (hts _ kMinL) (hts _ kMinS) (hts _ kZ_J9) (hts _ kMinC) (Nat.le_of_ble_eq_true rfl) (Nat.le_of_ble_eq_true rfl) (Nat.le_of_ble_eq_true rfl) (Nat.le_of_ble_eq_true rfl) dX11_copyRow_8 ?_
  refine lv_toc (v := nI n_0) (by simp) ?_
  refine va_copyi (ty := .int) hx hb (by rw [hml]; exact hl.1.symm) hown (hts _ kAcpL) (hts _ kAcpN) (hts _ kAcpS) (hts _ kZ_J10) hK hP hD hS 0 1 0 0 rfl rfl rfl rfl rfl (by decide) (by decide) (nI_pos hn) (by rw [nI_clamp hn]; simp) (by rw [nI_clamp hn]; simp) (fun i _ => rfl) (Nat.le_of_ble_eq_true rfl) (by decide) dX11_copyRow_11 (fun H locs hP hD hS => ?_)
  have hP2 := z_cellEq (g := f_0) hP (q0 := 1) rfl (fun j hj => by
    rw [nI_clamp hn]
    show va_cpy f_0 f_1 0 0 n_0 j = f_0 j
    rw [pk_cpy_in (Nat.zero_le j) (by omega)]
    congr 1
    omega)
  have hP2 : va_P D vwCl [(q_0, .inl (k 0, n_0, .inl f_0)), (q_1, .inl (k 0, n_0, .inl f_0))] H := hP2
  have hD2 : va_D A [(q_0, .inl (k 0, n_0, .inl f_0)), (q_1, .inl (k 0, n_0, .inl f_0))] := hD.set (p := 1) rfl
  exact z_vret C0 hr hlk hK hP2 hD2 hS (0, fun _ => 0, zu0) rfl [0, 1] rfl rfl rfl dX11_copyRow_14
