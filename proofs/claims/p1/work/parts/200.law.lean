def R_law : String := "HalfDaysLaw"
def lw_P (b : Addr) (xs : List Int32) (args : Array Value) (s : State) : Prop := args = #[.ref b] ∧ s.IntsAt b xs ∧ xs.length ≤ 7 ∧ (Jvm.Cond.and given_1 narrow_1).before args s = true
def lw_Q (_ : Array Value) (s : State) (o : Outcome) (t : State) : Prop := o = .returned (some (.int 1)) ∧ Framed s o t [] 600000 7302250
def lw_Z (below : List Frame) (a : Array Value) (s : State) : State → Prop := fun t => ∃ o, t.status = .running ∧ Ended t below o ∧ lw_Q a s o t
/-- the law's own end, with 1 on the stack, nothing written that was there before, its room as the claim has it -/
theorem lw_ret {p : Program} {l : Launch} {e : Env} {s : State} {m : MethodId} {below : List Frame} {meth : Method} {c : Code} {b : Nat} (hx : p.tables.exec = Jvm.exec) (hb : c.code = code) (hr : meth.sig.returnType = ret) (hlocks : meth.locks = false) {pc : Nat} {H : Heap} {ls : Array Slot} (hdg : decode code pc = .ok (.ireturn, 1)) : W p l e room_1 s m #[Value.ref b] below meth c H [] 600000 7302250 (lw_Z below #[Value.ref b] s) (F0 m pc ls [.int 1]) := by
  intro T hT X
  obtain ⟨fs, hret, hrun, hended, hW, hframe⟩ := X.leave (v := some (.int 1)) (hlocks := hlocks) (fun h => by rw [hr] at h; cases h)
  have hmeth' : T.vm.method? m = some meth := X.method'
  refine ⟨T.setFrames fs, ?_, .returned (some (.int 1)), hrun, hended, rfl, ⟨_, rfl⟩, hW, hframe⟩
  jvm_step X.here [X.here.top, hx, hb, hdg, hmeth', hr, ret, narrow_b1]
  (try refine ⟨rfl, ?_⟩); (try refine ⟨rfl, ?_⟩)
  first | (intro acts; rw [hret _ acts rfl rfl rfl]) | rw [hret _ _ rfl rfl rfl]
  exact Steps.refl _
/-- what holds at the law's entry: the machine, the code, the tables' words (any of lw_tbl by 'hts w (by decide +kernel)'), the script of L ints xs at the cell b, what the Statement gives of the start (any of its parts by flat_of_before) -/
def lw_At (p : Program) (s : State) (m : MethodId) (meth : Method) (c : Code) (b L : Nat) (xs : Nat → Int32) : Prop :=
  p.tables.exec = Jvm.exec ∧ c.code = code ∧ meth.sig.returnType = ret ∧ c.maxLocals = 4 ∧ s.vm.findClass R_law = some m.cls ∧ (∀ w ∈ lw_tbl, w.before #[Value.ref b] s = true) ∧ va_X b L xs s s.heap ∧ b < s.heap.size ∧ meth.locks = false ∧ (Jvm.Cond.and given_1 narrow_1).before #[Value.ref b] s = true
abbrev WX (k : Nat → ClassId) (hX : Nat) (aX : Nat → Nat) : va_W := [(hX, .inr (11, [.ref (aX 0), .ref (aX 50), .ref (aX 51), .ref (aX 57), .ref (aX 65), .int 0])), ((aX 0), .inr (3, [.ref (aX 1), .ref (aX 14), .ref (aX 20), .ref (aX 33), .ref (aX 36), .ref (aX 40)])), ((aX 1), .inr (6, [.int 0, .ref (aX 2), .ref (aX 3), .ref (aX 4), .ref (aX 5), .ref (aX 6), .int 0, .ref (aX 7), .int 0, .ref (aX 8), .ref (aX 9), .ref (aX 10), .ref (aX 11), .ref (aX 12), .ref (aX 13)])), ((aX 2), .inl (k 0, 40, .inl (fun _ => 0))), ((aX 3), .inl (k 0, 40, .inl (fun _ => 0))), ((aX 4), .inl (k 0, 40, .inl (fun _ => 0))), ((aX 5), .inl (k 0, 40, .inl (fun _ => 0))), ((aX 6), .inl (k 0, 40, .inl (fun _ => 0))), ((aX 7), .inl (k 0, 400, .inl (fun _ => 0))), ((aX 8), .inl (k 0, 60, .inl (fun _ => 0))), ((aX 9), .inl (k 0, 60, .inl (fun _ => 0))), ((aX 10), .inl (k 0, 2, .inl (fun _ => 0))), ((aX 11), .inl (k 0, 120, .inl (fun _ => 0))), ((aX 12), .inl (k 0, 120, .inl (fun _ => 0))), ((aX 13), .inl (k 0, 120, .inl (fun _ => 0))), ((aX 14), .inr (8, [.int 0, .ref (aX 15), .ref (aX 16), .ref (aX 17), .ref (aX 18), .ref (aX 19)])), ((aX 15), .inl (k 0, 120, .inl (fun _ => 0))), ((aX 16), .inl (k 0, 120, .inl (fun _ => 0))), ((aX 17), .inl (k 0, 120, .inl (fun _ => 0))), ((aX 18), .inl (k 0, 120, .inl (fun _ => 0))), ((aX 19), .inl (k 0, 120, .inl (fun _ => 0))), ((aX 20), .inr (5, [.int 0, .ref (aX 21), .ref (aX 22), .ref (aX 23), .ref (aX 24), .ref (aX 25), .ref (aX 26), .ref (aX 27), .ref (aX 28), .ref (aX 29), .ref (aX 30), .ref (aX 31), .ref (aX 32), .int 0, .int 0])), ((aX 21), .inl (k 0, 400, .inl (fun _ => 0))), ((aX 22), .inl (k 0, 400, .inl (fun _ => 0))), ((aX 23), .inl (k 0, 400, .inl (fun _ => 0))), ((aX 24), .inl (k 0, 400, .inl (fun _ => 0))), ((aX 25), .inl (k 0, 400, .inl (fun _ => 0))), ((aX 26), .inl (k 0, 400, .inl (fun _ => 0))), ((aX 27), .inl (k 0, 400, .inl (fun _ => 0))), ((aX 28), .inl (k 0, 400, .inl (fun _ => 0))), ((aX 29), .inl (k 0, 400, .inl (fun _ => 0))), ((aX 30), .inl (k 0, 400, .inl (fun _ => (-1)))), ((aX 31), .inl (k 0, 400, .inl (fun _ => 0))), ((aX 32), .inl (k 0, 400, .inl (fun _ => 0))), ((aX 33), .inr (0, [.int 0, .ref (aX 34), .ref (aX 35)])), ((aX 34), .inl (k 3, 20, .inr (.inr (.inr (.inr (fun _ => none)))))), ((aX 35), .inl (k 0, 20, .inl (fun _ => 0))), ((aX 36), .inr (9, [.ref (aX 37), .ref (aX 38), .ref (aX 39)])), ((aX 37), .inl (k 0, 160, .inl (fun _ => (-1)))), ((aX 38), .inl (k 0, 160, .inl (fun _ => (-1)))), ((aX 39), .inl (k 0, 160, .inl (fun _ => 0))), ((aX 40), .inr (4, [.int 0, .ref (aX 41), .int 0, .ref (aX 42), .ref (aX 43), .int 0, .ref (aX 44), .ref (aX 45), .ref (aX 46), .int 0, .ref (aX 47), .ref (aX 48), .ref (aX 49)])), ((aX 41), .inl (k 0, 6, .inl (fun _ => 0))), ((aX 42), .inl (k 0, 6, .inl (fun _ => 0))), ((aX 43), .inl (k 0, 6, .inl (fun _ => 0))), ((aX 44), .inl (k 0, 9, .inl (fun _ => 0))), ((aX 45), .inl (k 0, 9, .inl (fun _ => 0))), ((aX 46), .inl (k 0, 9, .inl (fun _ => 0))), ((aX 47), .inl (k 0, 12, .inl (fun _ => 0))), ((aX 48), .inl (k 0, 12, .inl (fun _ => 0))), ((aX 49), .inl (k 0, 12, .inl (fun _ => 0))), ((aX 50), .inl (k 4, 2, .inr (.inr (.inr (.inr (fun _ => none)))))), ((aX 51), .inr (7, [.ref (aX 52), .int 0, .int (-1), .int 0, .ref (aX 53), .ref (aX 54), .ref (aX 55), .ref (aX 56), .int 0, .int 0, .int 0, .int 0, .int 0, .int 0, .long 0, .int 0])), ((aX 52), .inl (k 0, 400, .inl (fun _ => 0))), ((aX 53), .inl (k 0, 12, .inl (fun _ => 0))), ((aX 54), .inl (k 0, 12, .inl (fun _ => 0))), ((aX 55), .inl (k 0, 25, .inl (fun _ => 0))), ((aX 56), .inl (k 0, 400, .inl (fun _ => 0))), ((aX 57), .inr (1, [.ref (aX 0), .ref (aX 58), .ref (aX 59), .ref (aX 60), .ref (aX 61), .ref (aX 62), .ref (aX 63), .ref (aX 64), .int 0, .int 0, .int 0, .int 0, .int 0, .int 0, .int 0, .int 0, .int 0, .int 0, .int 0])), ((aX 58), .inl (k 1, 51, .inr (.inl (fun _ => 0)))), ((aX 59), .inl (k 0, 20, .inl (fun _ => 0))), ((aX 60), .inl (k 0, 400, .inl (fun _ => 0))), ((aX 61), .inl (k 0, 401, .inl (fun _ => 0))), ((aX 62), .inl (k 0, 401, .inl (fun _ => 0))), ((aX 63), .inl (k 0, 5, .inl (fun _ => 0))), ((aX 64), .inl (k 0, 5, .inl (fun _ => 0))), ((aX 65), .inr (2, [.ref (aX 1), .ref (aX 40), .ref (aX 66), .int 0, .int (-1), .ref (aX 67), .ref (aX 68), .ref (aX 69), .int 0, .int 0, .int 0, .ref (aX 70), .ref (aX 71), .ref (aX 72)])), ((aX 66), .inl (k 0, 6, .inl (fun _ => 0))), ((aX 67), .inl (k 0, 36, .inl (fun _ => 0))), ((aX 68), .inl (k 0, 448, .inl (fun _ => 0))), ((aX 69), .inl (k 0, 448, .inl (fun _ => 0))), ((aX 70), .inl (k 0, 81, .inl (fun _ => 0))), ((aX 71), .inl (k 0, 9, .inl (fun _ => 0))), ((aX 72), .inl (k 0, 4608, .inl (fun _ => 0)))]
abbrev WM (k : Nat → ClassId) (hM : Nat) (aM : Nat → Nat) : va_W := [(hM, .inr (12, [.int 0, .int 0, .ref (aM 0), .ref (aM 1), .ref (aM 2), .int 0, .ref (aM 3), .ref (aM 4), .ref (aM 5), .ref (aM 6), .ref (aM 7), .int 0, .int 0, .int 0, .int 0, .long 0, .int (-1), .int 0, .int 0, .ref (aM 8), .int 0, .ref (aM 9), .ref (aM 10), .int 0, .ref (aM 11), .ref (aM 12), .int 0, .int 0, .ref (aM 13), .ref (aM 14), .ref (aM 15), .ref (aM 16), .int 0, .long 0, .long 0, .int 0, .int 0, .int 0, .int 0, .ref (aM 17), .ref (aM 18), .int 0, .int 0, .int 0, .int 0, .ref (aM 19), .ref (aM 20), .int 0, .int 0, .ref (aM 21), .ref (aM 22), .ref (aM 23), .ref (aM 24), .int 0, .int 0, .int 0])), ((aM 0), .inl (k 0, 27101, .inl (fun _ => 0))), ((aM 1), .inl (k 0, 54202, .inl (fun _ => 0))), ((aM 2), .inl (k 2, 2, .inl (fun _ => 0))), ((aM 3), .inl (k 2, 400, .inl (fun _ => 0))), ((aM 4), .inl (k 0, 400, .inl (fun _ => 0))), ((aM 5), .inl (k 0, 400, .inl (fun _ => 0))), ((aM 6), .inl (k 0, 400, .inl (fun _ => 0))), ((aM 7), .inl (k 0, 400, .inl (fun _ => 0))), ((aM 8), .inl (k 0, 120, .inl (fun _ => 0))), ((aM 9), .inl (k 0, 400, .inl (fun _ => 0))), ((aM 10), .inl (k 0, 400, .inl (fun _ => 0))), ((aM 11), .inl (k 0, 400, .inl (fun _ => 0))), ((aM 12), .inl (k 0, 400, .inl (fun _ => 0))), ((aM 13), .inl (k 2, 20, .inl (fun _ => 0))), ((aM 14), .inl (k 2, 240, .inl (fun _ => 0))), ((aM 15), .inl (k 1, 16, .inr (.inl (fun _ => 0)))), ((aM 16), .inl (k 1, 400, .inr (.inl (fun _ => 0)))), ((aM 17), .inl (k 0, 401, .inl (fun _ => 0))), ((aM 18), .inl (k 0, 401, .inl (fun _ => 0))), ((aM 19), .inl (k 0, 6, .inl (fun _ => 0))), ((aM 20), .inl (k 0, 6, .inl (fun _ => 0))), ((aM 21), .inl (k 0, 4608, .inl (fun _ => 0))), ((aM 22), .inl (k 0, 5, .inl (fun _ => 0))), ((aM 23), .inl (k 0, 5, .inl (fun _ => 0))), ((aM 24), .inl (k 0, 400, .inl (fun _ => 0)))]
def law_C (p : Program) (s : State) (m : MethodId) (meth : Method) (c : Code) (D : va_G) (k : Nat → ClassId) (b L : Nat) (xs : Nat → Int32) : Prop := CallFix p m c code 4 s #[Value.ref b] lw_g RL ∧ meth.sig.returnType = ret ∧ meth.locks = false ∧ va_X b L xs s s.heap ∧ b < s.heap.size ∧ va_K D vwCl (TYk k) s ∧ zN s
theorem z_start {s : State} {args : Array Value} (hts : ∀ w ∈ lw_tbl, w.before args s = true) : ∃ (D : va_G) (k : Nat → ClassId), va_K D vwCl (TYk k) s ∧ zN s := by
  have hg : ∀ w ∈ lw_g, w.before args s = true := fun w h => hts w (lw_g_sub h)
  obtain ⟨cc0, ii0, hh0⟩ := u_known (C := RX0) (T := TX0) (N := 3) hg inX0 (hg _ kI_X0)
  obtain ⟨cc1, ii1, hh1⟩ := u_known (C := RX1) (T := TX1) (N := 19) hg inX1 (hg _ kI_X1)
  obtain ⟨cc2, ii2, hh2⟩ := u_known (C := RX2) (T := TX2) (N := 14) hg inX2 (hg _ kI_X2)
  obtain ⟨cc3, ii3, hh3⟩ := u_known (C := RX3) (T := TX3) (N := 6) hg inX3 (hg _ kI_X3)
  obtain ⟨cc4, ii4, hh4⟩ := u_known (C := RX4) (T := TX4) (N := 13) hg inX4 (hg _ kI_X4)
  obtain ⟨cc5, ii5, hh5⟩ := u_known (C := RX5) (T := TX5) (N := 15) hg inX5 (hg _ kI_X5)
  obtain ⟨cc6, ii6, hh6⟩ := u_known (C := RX6) (T := TX6) (N := 15) hg inX6 (hg _ kI_X6)
  obtain ⟨cc7, ii7, hh7⟩ := u_known (C := RX7) (T := TX7) (N := 16) hg inX7 (hg _ kI_X7)
  obtain ⟨cc8, ii8, hh8⟩ := u_known (C := RX8) (T := TX8) (N := 6) hg inX8 (hg _ kI_X8)
  obtain ⟨cc9, ii9, hh9⟩ := u_known (C := RX9) (T := TX9) (N := 3) hg inX9 (hg _ kI_X9)
  obtain ⟨cc10, ii10, hh10⟩ := u_known (C := RX10) (T := TX10) (N := 6) hg inX10 (hg _ kI_X10)
  obtain ⟨cc11, ii11, hh11⟩ := u_known (C := RX11) (T := TX11) (N := 6) hg inX11 (hg _ kI_X11)
  obtain ⟨cc12, ii12, hh12⟩ := u_known (C := RX12) (T := TX12) (N := 56) hg inX12 (hg _ kI_X12)
  obtain ⟨k0, kk0, km0, ka0, kb0, kc0⟩ := Cond.arrayClass_spec (hg _ kArr_int)
  obtain ⟨k1, kk1, km1, ka1, kb1, kc1⟩ := Cond.arrayClass_spec (hg _ kArr_long)
  obtain ⟨k2, kk2, km2, ka2, kb2, kc2⟩ := Cond.arrayClass_spec (hg _ kArr_boolean)
  have ho3 : (Cond.arrayOver (.object "HalfDays$Text")).before args s = true := hts _ (List.mem_append_right _ (List.mem_of_getElem? (i := 197) (by decide +kernel)))
  obtain ⟨km3, k3, kk3, kd3, -, ka3, kb3, kc3⟩ := Cond.arrayOver_spec ho3
  have ho4 : (Cond.arrayOver (.object "HalfDays$County")).before args s = true := hts _ (List.mem_append_right _ (List.mem_of_getElem? (i := 334) (by decide +kernel)))
  obtain ⟨km4, k4, kk4, kd4, -, ka4, kb4, kc4⟩ := Cond.arrayOver_spec ho4
  refine ⟨(fun j => [cc0, cc1, cc2, cc3, cc4, cc5, cc6, cc7, cc8, cc9, cc10, cc11, cc12].getD j cc0, fun j => [ii0, ii1, ii2, ii3, ii4, ii5, ii6, ii7, ii8, ii9, ii10, ii11, ii12].getD j ii0), fun j => [k0, k1, k2, k3, k4].getD j k0, ⟨fun j q hq => ?_, fun j q hq => ?_⟩, fun w hw => ?_, ho3, ho4⟩
  · match j, hq with
    | 0, hq => cases hq; exact hh0
    | 1, hq => cases hq; exact hh1
    | 2, hq => cases hq; exact hh2
    | 3, hq => cases hq; exact hh3
    | 4, hq => cases hq; exact hh4
    | 5, hq => cases hq; exact hh5
    | 6, hq => cases hq; exact hh6
    | 7, hq => cases hq; exact hh7
    | 8, hq => cases hq; exact hh8
    | 9, hq => cases hq; exact hh9
    | 10, hq => cases hq; exact hh10
    | 11, hq => cases hq; exact hh11
    | 12, hq => cases hq; exact hh12
    | j + 13, hq => simp [vwCl] at hq
  · match j, hq with
    | 0, hq => cases hq; exact ⟨fun n z => ⟨fun _ h => (by cases h), kk0, kb0, km0, kc0⟩, ka0⟩
    | 1, hq => cases hq; exact ⟨fun n z => ⟨fun _ h => (by cases h), kk1, kb1, km1, kc1⟩, ka1⟩
    | 2, hq => cases hq; exact ⟨fun n z => ⟨fun _ h => (by cases h), kk2, kb2, km2, kc2⟩, ka2⟩
    | 3, hq => cases hq; exact ⟨fun n z => ⟨fun _ h => (by cases h), kk3, ka3, km3, kb3⟩, kk3, km3, ka3, kb3, kd3, kc3⟩
    | 4, hq => cases hq; exact ⟨fun n z => ⟨fun _ h => (by cases h), kk4, ka4, km4, kb4⟩, kk4, km4, ka4, kb4, kd4, kc4⟩
    | j + 5, hq => simp [TYk] at hq
  · have h1 := (List.mem_filter.mp hw).1
    have h2 := (List.mem_filter.mp hw).2
    refine va_Nw.of ?_ (hts w (List.mem_append_right _ h1))
    cases w <;> first | rfl | cases h2
set_option maxHeartbeats 4000000 in
theorem law_end {p : Program} {l : Launch} {e : Env} {s : State} {m : MethodId} {below : List Frame} {meth : Method} {c : Code} {D : va_G} {k : Nat → ClassId} {b : Nat} {xs : Nat → Int32} (hC : law_C p s m meth c D k b 7 xs) {H : Heap} {locs : List Loc} {ls : Array Slot} {cells slots : Nat} (hc : cells ≤ 600000) (hs : slots ≤ 7302250) (hS : va_S (fun q : Nat => s.heap.size ≤ q) s.heap H locs) (hl : lv_has ls 4 [(0, .ref b), (3, .int 0)]) : W p l e room_1 s m #[Value.ref b] below meth c H locs cells slots (lw_Z below #[Value.ref b] s) (F0 m 2078 ls []) := by
  obtain ⟨C0, hr, hlk, hX, hbl, hK, hN⟩ := hC
  have hx := C0.1
  have hb := C0.2.1
  have hbA : ¬ (fun q : Nat => s.heap.size ≤ q) b := Nat.not_le.mpr hbl
  refine lv_iinc (v := 7) (lv' := [(3, .int 7), (0, .ref b)]) hx hb dL_law_2078 hl (k := 1) rfl (by decide) (by decide) rfl (fun ls hl => ?_)
  refine lv_goto (tgt := 18) hx hb dL_law_2081 (by decide) ?_
  refine lv_iload_n hx hb dL_law_18 rfl (lv_at hl 0 rfl) ?_
  refine lv_aload_n hx hb dL_law_19 rfl (lv_at hl 1 rfl) ?_
  refine va_slen hx hb hX hbl hbA hS dL_law_20 ?_
  refine lv_bipush (v := 7) hx hb dL_law_21 (by decide) ?_
  refine lv_isub hx hb dL_law_23 ?_
  refine lv_toc (v := 0) (by decide) ?_
  refine lv_icmp_gt (tgt := 2084) hx hb dL_law_24 (by decide) (fun _ => ?_) (fun c => absurd (by decide) c)
  refine lv_iconst (v := 1) hx hb dL_law_2084 (by decide) ?_
  refine va_forget (fun q hq => hS.2.2 q hq) ?_
  refine W.widen (k := 600000) (n := 7302250) hc hs ?_
  exact lw_ret hx hb hr hlk dL_law_2085
