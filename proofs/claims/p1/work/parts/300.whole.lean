set_option maxHeartbeats 8000000 in
set_option maxRecDepth 100000 in
theorem whole_start {p : Program} {e : Env} {s : State} {m : MethodId} {below : List Frame} {meth : Method} {c : Code} (l : Launch) {b L : Nat} {xs : Nat → Int32} (hL : L ≤ 7) (C0 : lw_At p s m meth c b L xs) : W p l e room_1 s m #[Value.ref b] below meth c s.heap [] 0 0 (lw_Z below #[Value.ref b] s) (entryFrame m ([Value.ref b] : List Value).toArray 4) := by
  obtain ⟨hx, hb, hr, hml, hown, hts0, hXx, hbl, hlk, hgv⟩ := id C0
  obtain ⟨D, k, hK, hN⟩ := z_start hts0
  have hown : s.vm.findClass RL = some m.cls := hown
  have hts : ∀ w ∈ lw_g, w.before #[Value.ref b] s = true := fun w h => hts0 w (lw_g_sub h)
  have C1 : CallFix p m c code 4 s #[Value.ref b] lw_g RL := ⟨hx, hb, hml, hown, hts⟩
  have hA : ∀ q : Nat, s.heap.size ≤ q → (fun q : Nat => s.heap.size ≤ q) q := fun _ h => h
  have hbA : ¬ (fun q : Nat => s.heap.size ≤ q) b := Nat.not_le.mpr hbl
  have hS : va_S (fun q : Nat => s.heap.size ≤ q) s.heap s.heap [] := va_S.rf
  have hP : va_P D vwCl [] s.heap := fun k q h => by simp at h
  have hD : va_D (fun q : Nat => s.heap.size ≤ q) [] := ⟨fun i j p q h => by simp at h, fun k q h => by simp at h⟩
  have hl := lv_entry ([.ref b]) (n := 4) (Nat.le_of_ble_eq_true rfl)
  rw [lg_entry_eq]
  generalize (lg_sl ([.ref b]) ++ List.replicate (4 - (lg_sl ([.ref b])).length) Slot.unset).toArray = ls at hl ⊢
  have hl : lv_has ls 4 [(0, .ref b)] := hl
  refine va_new (ci := 11) (fs := [.null, .null, .null, .null, .null, .int 0]) (C := RX11) (T := TX11) (N := 6) hx hb hts inX11 tyX11 tyX11_ok hown (hts _ kC_L_7) (hts _ kI_X11) (hts _ kZ_X11) hK hP hD hS hA rfl dfX11 (Nat.le_of_ble_eq_true rfl) (Nat.le_of_ble_eq_true rfl) dL_law_0 (fun hX H hP hD hS => ?_)
  refine lv_dup hx hb dL_law_3 rfl ?_
  refine z_bv (wr := []) (z_runI (As := []) (rest := [.ref hX]) C1 (c_X11_init_1 l D k hX 0 _) okI_X11_init kM_L_9 rfl (z_pS hK hN hP hD [0] rfl rfl) rfl hl.1 rfl (Nat.le_of_ble_eq_true rfl) dL_law_4 rfl) hP hD hS hA [0] [] rfl rfl rfl rfl (fun u1 H locs hw1 hP hD hS => ?_)
  obtain ⟨i1, aX⟩ := u1
  dsimp only at hw1
  obtain rfl := hw1
  have hP : va_P D vwCl (WX k hX aX) H := hP
  have hD : va_D (fun q : Nat => s.heap.size ≤ q) (WX k hX aX) := hD
  refine lv_astore_n (lv' := [(1, .ref hX), (0, .ref b)]) hx hb dL_law_7 rfl hl (by decide) rfl (fun ls hl => ?_)
  refine va_new (ci := 12) (fs := [.int 0, .int 0, .null, .null, .null, .int 0, .null, .null, .null, .null, .null, .int 0, .int 0, .int 0, .int 0, .long 0, .int 0, .int 0, .int 0, .null, .int 0, .null, .null, .int 0, .null, .null, .int 0, .int 0, .null, .null, .null, .null, .int 0, .long 0, .long 0, .int 0, .int 0, .int 0, .int 0, .null, .null, .int 0, .int 0, .int 0, .int 0, .null, .null, .int 0, .int 0, .null, .null, .null, .null, .int 0, .int 0, .int 0]) (C := RX12) (T := TX12) (N := 56) hx hb hts inX12 tyX12 tyX12_ok hown (hts _ kC_L_10) (hts _ kI_X12) (hts _ kZ_X12) hK hP hD hS hA rfl dfX12 (Nat.le_of_ble_eq_true rfl) (Nat.le_of_ble_eq_true rfl) dL_law_8 (fun hM H hP hD hS => ?_)
  refine lv_dup hx hb dL_law_11 rfl ?_
  refine z_bv (wr := WX k hX aX) (z_runI (As := []) (rest := [.ref hM]) C1 (c_X12_init_1 l D k hM 0 0 0 0 0 0 0 0 0 0 0 0 0 0 0 0 0 0 0 0 0 0 0 0 0 0 0 0 0 0 0 _) okI_X12_init kM_L_12 rfl (z_pS hK hN hP hD [74] rfl rfl) rfl hl.1 rfl (Nat.le_of_ble_eq_true rfl) dL_law_12 rfl) hP hD hS hA [74] [0, 1, 2, 3, 4, 5, 6, 7, 8, 9, 10, 11, 12, 13, 14, 15, 16, 17, 18, 19, 20, 21, 22, 23, 24, 25, 26, 27, 28, 29, 30, 31, 32, 33, 34, 35, 36, 37, 38, 39, 40, 41, 42, 43, 44, 45, 46, 47, 48, 49, 50, 51, 52, 53, 54, 55, 56, 57, 58, 59, 60, 61, 62, 63, 64, 65, 66, 67, 68, 69, 70, 71, 72, 73] rfl rfl rfl rfl (fun u2 H locs hw2 hP hD hS => ?_)
  obtain ⟨i2, aM⟩ := u2
  dsimp only at hw2
  obtain rfl := hw2
  have hP : va_P D vwCl (WX k hX aX ++ WM k hM aM) H := hP
  have hD : va_D (fun q : Nat => s.heap.size ≤ q) (WX k hX aX ++ WM k hM aM) := hD
  refine lv_astore_n (lv' := [(2, .ref hM), (1, .ref hX), (0, .ref b)]) hx hb dL_law_15 rfl hl (by decide) rfl (fun ls hl => ?_)
  refine lv_iconst (v := 0) hx hb dL_law_16 (by decide) ?_
  refine lv_istore_n (lv' := [(3, .int 0), (2, .ref hM), (1, .ref hX), (0, .ref b)]) hx hb dL_law_17 rfl hl (by decide) rfl (fun ls hl => ?_)
  refine lv_iload_n hx hb dL_law_18 rfl (lv_at hl 0 rfl) ?_
  refine lv_aload_n hx hb dL_law_19 rfl (lv_at hl 3 rfl) ?_
  refine va_slen hx hb hXx hbl hbA hS dL_law_20 ?_
  refine lv_bipush (v := 7) hx hb dL_law_21 (by decide) ?_
  refine lv_isub hx hb dL_law_23 ?_
  refine lv_icmp_gt (tgt := 2084) hx hb dL_law_24 (by decide) (fun _ => ?_) (fun hc => ?_)
  · refine lv_iconst (v := 1) hx hb dL_law_2084 (by decide) ?_
    refine va_forget (fun q hq => hS.2.2 q hq) ?_
    refine W.widen (k := 600000) (n := 7302250) (Nat.le_of_ble_eq_true rfl) (Nat.le_of_ble_eq_true rfl) ?_
    exact lw_ret hx hb hr hlk dL_law_2085
  · have hL7 : L = 7 := by
      match L, hL, hc with
      | 0, _, hc => exact absurd (by decide) hc
      | 1, _, hc => exact absurd (by decide) hc
      | 2, _, hc => exact absurd (by decide) hc
      | 3, _, hc => exact absurd (by decide) hc
      | 4, _, hc => exact absurd (by decide) hc
      | 5, _, hc => exact absurd (by decide) hc
      | 6, _, hc => exact absurd (by decide) hc
      | 7, _, _ => rfl
      | n + 8, h, _ => exact absurd h (by omega)
    subst hL7
    have hC : law_C p s m meth c D k b 7 xs := ⟨C1, hr, hlk, hXx, hbl, hK, hN⟩
    refine lv_aload_n hx hb dL_law_27 rfl (lv_at hl 3 rfl) ?_
    refine lv_iload_n hx hb dL_law_28 rfl (lv_at hl 0 rfl) ?_
    refine z_sld hx hb hXx hbl hbA hS 0 (by decide) (by unfold vp_in; decide) dL_law_29 ?_
    refine lv_bipush (v := 63) hx hb dL_law_30 (by decide) ?_
    refine lv_iand hx hb dL_law_32 ?_
    obtain ⟨j, hj, ej⟩ := pk_andE (xs 0) (m := 63) 6 (by decide)
    refine lv_toc (v := nI j) ej ?_
    have hl := lv_sub hl [3, 2, 1, 0] rfl
    match j, hj with
    | 0, _ =>
      refine lv_tableIn (off := 199) (tgt := 232) hx hb dL_law_33 (by decide) (by decide) (by decide +kernel) (by decide) ?_
      exact law_case_0 hC hP hD hS hl
    | 1, _ =>
      refine lv_tableIn (off := 278) (tgt := 311) hx hb dL_law_33 (by decide) (by decide) (by decide +kernel) (by decide) ?_
      exact law_case_1 hC hP hD hS hl
    | 2, _ =>
      refine lv_tableIn (off := 291) (tgt := 324) hx hb dL_law_33 (by decide) (by decide) (by decide +kernel) (by decide) ?_
      exact law_case_2 hC hP hD hS hl
    | 3, _ =>
      refine lv_tableIn (off := 324) (tgt := 357) hx hb dL_law_33 (by decide) (by decide) (by decide +kernel) (by decide) ?_
      exact law_case_3 hC hP hD hS hl
    | 4, _ =>
      refine lv_tableIn (off := 367) (tgt := 400) hx hb dL_law_33 (by decide) (by decide) (by decide +kernel) (by decide) ?_
      exact law_case_4 hC hP hD hS hl
    | 5, _ =>
      refine lv_tableIn (off := 420) (tgt := 453) hx hb dL_law_33 (by decide) (by decide) (by decide +kernel) (by decide) ?_
      exact law_case_5 hC hP hD hS hl
    | 6, _ =>
      refine lv_tableIn (off := 463) (tgt := 496) hx hb dL_law_33 (by decide) (by decide) (by decide +kernel) (by decide) ?_
      exact law_case_6 hC hP hD hS hl
    | 7, _ =>
      refine lv_tableIn (off := 496) (tgt := 529) hx hb dL_law_33 (by decide) (by decide) (by decide +kernel) (by decide) ?_
      exact law_case_7 hC hP hD hS hl
    | 8, _ =>
      refine lv_tableIn (off := 549) (tgt := 582) hx hb dL_law_33 (by decide) (by decide) (by decide +kernel) (by decide) ?_
      exact law_case_8 hC hP hD hS hl
    | 9, _ =>
      refine lv_tableIn (off := 624) (tgt := 657) hx hb dL_law_33 (by decide) (by decide) (by decide +kernel) (by decide) ?_
      exact law_case_9 hC hP hD hS hl
    | 10, _ =>
      refine lv_tableIn (off := 667) (tgt := 700) hx hb dL_law_33 (by decide) (by decide) (by decide +kernel) (by decide) ?_
      exact law_case_10 hC hP hD hS hl
    | 11, _ =>
      refine lv_tableIn (off := 730) (tgt := 763) hx hb dL_law_33 (by decide) (by decide) (by decide +kernel) (by decide) ?_
      exact law_case_11 hC hP hD hS hl
    | 12, _ =>
      refine lv_tableIn (off := 793) (tgt := 826) hx hb dL_law_33 (by decide) (by decide) (by decide +kernel) (by decide) ?_
      exact law_case_12 hC hP hD hS hl
    | 13, _ =>
      refine lv_tableIn (off := 856) (tgt := 889) hx hb dL_law_33 (by decide) (by decide) (by decide +kernel) (by decide) ?_
      exact law_case_13 hC hP hD hS hl
    | 14, _ =>
      refine lv_tableIn (off := 879) (tgt := 912) hx hb dL_law_33 (by decide) (by decide) (by decide +kernel) (by decide) ?_
      exact law_case_14 hC hP hD hS hl
    | 15, _ =>
      refine lv_tableIn (off := 902) (tgt := 935) hx hb dL_law_33 (by decide) (by decide) (by decide +kernel) (by decide) ?_
      exact law_case_15 hC hP hD hS hl
    | 16, _ =>
      refine lv_tableIn (off := 915) (tgt := 948) hx hb dL_law_33 (by decide) (by decide) (by decide +kernel) (by decide) ?_
      exact law_case_16 hC hP hD hS hl
    | 17, _ =>
      refine lv_tableIn (off := 958) (tgt := 991) hx hb dL_law_33 (by decide) (by decide) (by decide +kernel) (by decide) ?_
      exact law_case_17 hC hP hD hS hl
    | 18, _ =>
      refine lv_tableIn (off := 1021) (tgt := 1054) hx hb dL_law_33 (by decide) (by decide) (by decide +kernel) (by decide) ?_
      exact law_case_18 hC hP hD hS hl
    | 19, _ =>
      refine lv_tableIn (off := 1084) (tgt := 1117) hx hb dL_law_33 (by decide) (by decide) (by decide +kernel) (by decide) ?_
      exact law_case_19 hC hP hD hS hl
    | 20, _ =>
      refine lv_tableIn (off := 1137) (tgt := 1170) hx hb dL_law_33 (by decide) (by decide) (by decide +kernel) (by decide) ?_
      exact law_case_20 hC hP hD hS hl
    | 21, _ =>
      refine lv_tableIn (off := 1180) (tgt := 1213) hx hb dL_law_33 (by decide) (by decide) (by decide +kernel) (by decide) ?_
      exact law_case_21 hC hP hD hS hl
    | 22, _ =>
      refine lv_tableIn (off := 1223) (tgt := 1256) hx hb dL_law_33 (by decide) (by decide) (by decide +kernel) (by decide) ?_
      exact law_case_22 hC hP hD hS hl
    | 23, _ =>
      refine lv_tableIn (off := 1266) (tgt := 1299) hx hb dL_law_33 (by decide) (by decide) (by decide +kernel) (by decide) ?_
      exact law_case_23 hC hP hD hS hl
    | 24, _ =>
      refine lv_tableIn (off := 1319) (tgt := 1352) hx hb dL_law_33 (by decide) (by decide) (by decide +kernel) (by decide) ?_
      exact law_case_24 hC hP hD hS hl
    | 25, _ =>
      refine lv_tableIn (off := 1362) (tgt := 1395) hx hb dL_law_33 (by decide) (by decide) (by decide +kernel) (by decide) ?_
      exact law_case_25 hC hP hD hS hl
    | 26, _ =>
      refine lv_tableIn (off := 1405) (tgt := 1438) hx hb dL_law_33 (by decide) (by decide) (by decide +kernel) (by decide) ?_
      exact law_case_26 hC hP hD hS hl
    | 27, _ =>
      refine lv_tableIn (off := 1448) (tgt := 1481) hx hb dL_law_33 (by decide) (by decide) (by decide +kernel) (by decide) ?_
      exact law_case_27 hC hP hD hS hl
    | 28, _ =>
      refine lv_tableIn (off := 1471) (tgt := 1504) hx hb dL_law_33 (by decide) (by decide) (by decide +kernel) (by decide) ?_
      exact law_case_28 hC hP hD hS hl
    | 29, _ =>
      refine lv_tableIn (off := 1504) (tgt := 1537) hx hb dL_law_33 (by decide) (by decide) (by decide +kernel) (by decide) ?_
      exact law_case_29 hC hP hD hS hl
    | 30, _ =>
      refine lv_tableIn (off := 1527) (tgt := 1560) hx hb dL_law_33 (by decide) (by decide) (by decide +kernel) (by decide) ?_
      exact law_case_30 hC hP hD hS hl
    | 31, _ =>
      refine lv_tableIn (off := 1550) (tgt := 1583) hx hb dL_law_33 (by decide) (by decide) (by decide +kernel) (by decide) ?_
      exact law_case_31 hC hP hD hS hl
    | 32, _ =>
      refine lv_tableIn (off := 1583) (tgt := 1616) hx hb dL_law_33 (by decide) (by decide) (by decide +kernel) (by decide) ?_
      exact law_case_32 hC hP hD hS hl
    | 33, _ =>
      refine lv_tableIn (off := 1636) (tgt := 1669) hx hb dL_law_33 (by decide) (by decide) (by decide +kernel) (by decide) ?_
      exact law_case_33 hC hP hD hS hl
    | 34, _ =>
      refine lv_tableIn (off := 1679) (tgt := 1712) hx hb dL_law_33 (by decide) (by decide) (by decide +kernel) (by decide) ?_
      exact law_case_34 hC hP hD hS hl
    | 35, _ =>
      refine lv_tableIn (off := 1732) (tgt := 1765) hx hb dL_law_33 (by decide) (by decide) (by decide +kernel) (by decide) ?_
      exact law_case_35 hC hP hD hS hl
    | 36, _ =>
      refine lv_tableIn (off := 1785) (tgt := 1818) hx hb dL_law_33 (by decide) (by decide) (by decide +kernel) (by decide) ?_
      exact law_case_36 hC hP hD hS hl
    | 37, _ =>
      refine lv_tableIn (off := 1828) (tgt := 1861) hx hb dL_law_33 (by decide) (by decide) (by decide +kernel) (by decide) ?_
      exact law_case_37 hC hP hD hS hl
    | 38, _ =>
      refine lv_tableIn (off := 1851) (tgt := 1884) hx hb dL_law_33 (by decide) (by decide) (by decide +kernel) (by decide) ?_
      exact law_case_38 hC hP hD hS hl
    | 39, _ =>
      refine lv_tableIn (off := 1884) (tgt := 1917) hx hb dL_law_33 (by decide) (by decide) (by decide +kernel) (by decide) ?_
      exact law_case_39 hC hP hD hS hl
    | 40, _ =>
      refine lv_tableIn (off := 1907) (tgt := 1940) hx hb dL_law_33 (by decide) (by decide) (by decide +kernel) (by decide) ?_
      exact law_case_40 hC hP hD hS hl
    | 41, _ =>
      refine lv_tableIn (off := 1940) (tgt := 1973) hx hb dL_law_33 (by decide) (by decide) (by decide +kernel) (by decide) ?_
      exact law_case_41 hC hP hD hS hl
    | 42, _ =>
      refine lv_tableIn (off := 1963) (tgt := 1996) hx hb dL_law_33 (by decide) (by decide) (by decide +kernel) (by decide) ?_
      exact law_case_42 hC hP hD hS hl
    | 43, _ =>
      refine lv_tableIn (off := 1986) (tgt := 2019) hx hb dL_law_33 (by decide) (by decide) (by decide +kernel) (by decide) ?_
      exact law_case_43 hC hP hD hS hl
    | 44, _ =>
      refine lv_tableIn (off := 2009) (tgt := 2042) hx hb dL_law_33 (by decide) (by decide) (by decide +kernel) (by decide) ?_
      exact law_case_44 hC hP hD hS hl
    | 45, _ =>
      refine lv_tableIn (off := 2032) (tgt := 2065) hx hb dL_law_33 (by decide) (by decide) (by decide +kernel) (by decide) ?_
      exact law_case_45 hC hP hD hS hl
    | j + 46, hj =>
      refine lv_tableOut (tgt := 2078) hx hb dL_law_33 (Or.inr (by rw [nI_toInt (by omega)]; omega)) (by decide) ?_
      exact law_end hC (Nat.le_of_ble_eq_true rfl) (Nat.le_of_ble_eq_true rfl) hS (lv_sub hl [0, 3] rfl)
