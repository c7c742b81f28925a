/-! the words that every contract takes: the tables' good ones, whole -/
def lw_g : List Cond := lw_tbl.filter goodWord
theorem lw_g_sub {w : Cond} (h : w ∈ lw_g) : w ∈ lw_tbl := (List.mem_filter.mp h).1
theorem lw_g_good : ∀ w ∈ lw_g, goodWord w = true := fun _ h => (List.mem_filter.mp h).2
theorem mk_k {w : Cond} (i : Nat) (h : tables_1[i]? = some w) (hg : goodWord w = true) : w ∈ lw_g := List.mem_filter.mpr ⟨List.mem_append_right _ (List.mem_of_getElem? h), hg⟩
theorem mk_c1 {w : Cond} (i : Nat) (h : tables_1_1[i]? = some w) (hg : goodWord w = true) : w ∈ lw_g := List.mem_filter.mpr ⟨List.mem_append_right _ (List.mem_append_left _ (List.mem_of_getElem? h)), hg⟩
theorem mk_c2 {w : Cond} (i : Nat) (h : tables_1_2[i]? = some w) (hg : goodWord w = true) : w ∈ lw_g := List.mem_filter.mpr ⟨List.mem_append_right _ (List.mem_append_right _ (List.mem_append_left _ (List.mem_of_getElem? h))), hg⟩
theorem mk_c3 {w : Cond} (i : Nat) (h : tables_1_3[i]? = some w) (hg : goodWord w = true) : w ∈ lw_g := List.mem_filter.mpr ⟨List.mem_append_right _ (List.mem_append_right _ (List.mem_append_right _ (List.mem_append_left _ (List.mem_of_getElem? h)))), hg⟩
theorem mk_c4 {w : Cond} (i : Nat) (h : tables_1_4[i]? = some w) (hg : goodWord w = true) : w ∈ lw_g := List.mem_filter.mpr ⟨List.mem_append_right _ (List.mem_append_right _ (List.mem_append_right _ (List.mem_append_right _ (List.mem_append_left _ (List.mem_of_getElem? h))))), hg⟩
theorem mk_c5 {w : Cond} (i : Nat) (h : tables_1_5[i]? = some w) (hg : goodWord w = true) : w ∈ lw_g := List.mem_filter.mpr ⟨List.mem_append_right _ (List.mem_append_right _ (List.mem_append_right _ (List.mem_append_right _ (List.mem_append_right _ (List.mem_append_left _ (List.mem_of_getElem? h)))))), hg⟩
theorem mk_c6 {w : Cond} (i : Nat) (h : tables_1_6[i]? = some w) (hg : goodWord w = true) : w ∈ lw_g := List.mem_filter.mpr ⟨List.mem_append_right _ (List.mem_append_right _ (List.mem_append_right _ (List.mem_append_right _ (List.mem_append_right _ (List.mem_append_right _ (List.mem_append_left _ (List.mem_of_getElem? h))))))), hg⟩
theorem mk_c7 {w : Cond} (i : Nat) (h : tables_1_7[i]? = some w) (hg : goodWord w = true) : w ∈ lw_g := List.mem_filter.mpr ⟨List.mem_append_right _ (List.mem_append_right _ (List.mem_append_right _ (List.mem_append_right _ (List.mem_append_right _ (List.mem_append_right _ (List.mem_append_right _ (List.mem_append_left _ (List.mem_of_getElem? h)))))))), hg⟩
theorem mk_c8 {w : Cond} (i : Nat) (h : tables_1_8[i]? = some w) (hg : goodWord w = true) : w ∈ lw_g := List.mem_filter.mpr ⟨List.mem_append_right _ (List.mem_append_right _ (List.mem_append_right _ (List.mem_append_right _ (List.mem_append_right _ (List.mem_append_right _ (List.mem_append_right _ (List.mem_append_right _ (List.mem_append_left _ (List.mem_of_getElem? h))))))))), hg⟩
theorem mk_c9 {w : Cond} (i : Nat) (h : tables_1_9[i]? = some w) (hg : goodWord w = true) : w ∈ lw_g := List.mem_filter.mpr ⟨List.mem_append_right _ (List.mem_append_right _ (List.mem_append_right _ (List.mem_append_right _ (List.mem_append_right _ (List.mem_append_right _ (List.mem_append_right _ (List.mem_append_right _ (List.mem_append_right _ (List.mem_of_getElem? h))))))))), hg⟩
theorem mk_s {w : Cond} (i : Nat) (h : (k2_sels lw_privs)[i]? = some w) (hg : goodWord w = true) : w ∈ lw_g := List.mem_filter.mpr ⟨List.mem_append_left _ (List.mem_of_getElem? h), hg⟩
theorem mk_u {C : String} {T : u_T} {N : Nat} (ps : List Nat) (hp : u_ws C T N = ps.filterMap (fun i => tables_1[i]?)) (hg : (u_ws C T N).all goodWord = true) : ∀ w ∈ u_ws C T N, w ∈ lw_g := by
  intro w hw
  have h1 := List.all_eq_true.mp hg w hw
  rw [hp] at hw
  obtain ⟨i, -, hi⟩ := List.mem_filterMap.mp hw
  exact mk_k i hi h1
/-- the words that hold by warming alone -/
def zz_nestB : Cond → Bool
  | .methodLinkNest .. => true
  | .fieldLinkNest .. => true
  | _ => false
def lw_nest : List Cond := tables_1.filter zz_nestB
theorem mk_n {w : Cond} (i : Nat) (h : tables_1[i]? = some w) (hg : zz_nestB w = true) : w ∈ lw_nest := List.mem_filter.mpr ⟨List.mem_of_getElem? h, hg⟩
def zN (U : State) : Prop := (∀ w ∈ lw_nest, va_Nw w U) ∧ va_AO "HalfDays$Text" U ∧ va_AO "HalfDays$County" U ∧ va_Nw (.castable "[I" "java/lang/Cloneable") U
theorem zN.warm {s U : State} (hW : s.WarmedH U.vm) (h : zN s) : zN U := by
  refine ⟨fun w hw => ?_, h.2.1.moved hW.alike, h.2.2.1.moved hW.alike, va_Nw.warmC hW h.2.2.2⟩
  have h1 := h.1 w hw
  have h2 := (List.mem_filter.mp hw).2
  cases w with
  | methodLinkNest a i x hh => exact va_Nw.warmM hW h1
  | fieldLinkNest a i b n d hh => exact va_Nw.warmF hW h1
  | _ => cases h2
abbrev TYk (k : Nat → ClassId) : List (ClassId × FieldType) := [(k 0, .int), (k 1, .long), (k 2, .boolean), (k 3, .object "HalfDays$Text"), (k 4, .object "HalfDays$County")]
/-- what no call changes: pools of cells, and the static rows of words -/
abbrev zTy : Type := (va_W → Prop) × (Nat → Nat)
def zTab (i : Nat) : String × Nat := match i with
  | 0 => ("KIND_WORDS", 5)
  | 1 => ("SUM_WORDS", 8)
  | _ => ("TEST_WORDS", 4)
def zEnv (D : va_G) (T : zTy) (A : Nat → Prop) (U : State) : Prop := (∀ pw : va_W, T.1 pw → va_P D vwCl pw U.heap ∧ ∀ (j : Nat) (q : Nat × va_E), pw[j]? = some q → ¬ A q.1) ∧ ∀ i : Nat, i < 3 → va_Z "HalfDays" (zTab i).1 "[J" (.ref (T.2 i)) A U U.heap ∧ ∃ f : Nat → Int64, va_T .long (T.2 i) (zTab i).2 (fun j => .long (f j)) A U U.heap
theorem va_at_lt {D : va_G} {cl : List vw_C} {ws : va_W} {H : Heap} (hP : va_P D cl ws H) {j : Nat} {q : Nat × va_E} (hq : ws[j]? = some q) : q.1 < H.size := (hP j q hq).lt
theorem zEnv.to {D : va_G} {T : zTy} {A B : Nat → Prop} {s U : State} {H : Heap} {locs : List Loc} (h : zEnv D T A s) (hS : va_S A s.heap H locs) (hF : ∀ q, B q → A q) (hU : U.heap = H) (hW : s.WarmedH U.vm) : zEnv D T B U := by
  refine ⟨fun pw hp => ?_, fun i hi => ?_⟩
  · obtain ⟨h1, h2⟩ := h.1 pw hp
    rw [hU]
    exact ⟨h1.kept (fun j q hq => hS.2.1 q.1 (va_at_lt h1 hq) (h2 j q hq)), fun j q hq hB => h2 j q hq (hF _ hB)⟩
  · obtain ⟨h1, f, h2⟩ := h.2 i hi
    rw [hU]
    exact ⟨((h1.kept (fun a ha hn => hS.2.1 a ha hn)).moved hW.alike).narrow hF, f, ((h2.kept (fun a ha hn => hS.2.1 a ha hn)).moved hW.alike).narrow hF⟩
theorem z_tx {D : va_G} {T : zTy} {A : Nat → Prop} {s : State} {H : Heap} {locs : List Loc} {pw : va_W} (h : zEnv D T A s) (hS : va_S A s.heap H locs) (hp : T.1 pw) : va_P D vwCl pw H := by
  obtain ⟨h1, h2⟩ := h.1 pw hp
  exact h1.kept (fun j q hq => hS.2.1 q.1 (va_at_lt h1 hq) (h2 j q hq))
def zPre (D : va_G) (k : Nat → ClassId) (T : zTy) (ws : va_W) (sz : Nat) (U : State) : Prop := U.heap.size = sz ∧ va_P D vwCl ws U.heap ∧ va_K D vwCl (TYk k) U ∧ va_D (fun _ => True) ws ∧ zN U ∧ zEnv D T (va_A ws sz) U
abbrev zS : Type := Nat × (Nat → Nat) × (Nat → Int32) × (Nat → Int64) × (Nat → Nat → Int32) × (Nat → Nat → Int64) × (Nat → Nat → Option Nat)
def zu0 : (Nat → Int32) × (Nat → Int64) × (Nat → Nat → Int32) × (Nat → Nat → Int64) × (Nat → Nat → Option Nat) := (fun _ => 0, fun _ => 0, fun _ _ => 0, fun _ _ => 0, fun _ _ => none)
def zB (D : va_G) (k : Nat → ClassId) (A : Nat → Prop) (wo : zS → va_W) (u : zS) (t : State) : Prop := va_P D vwCl (wo u) t.heap ∧ va_K D vwCl (TYk k) t ∧ va_D A (wo u)
/-- a contract: from any heap that holds ws, the method returns an int -/
def zMi (l : Launch) (y : MethodName) (cc : ByteArray) (n : Nat) (ret : Option FieldType) (rm : Room) (D : va_G) (k : Nat → ClassId) (T : zTy) (av : List Value) (ws : va_W) (post : Int32 → zS → Prop) (wo : zS → va_W) : Prop :=
  ∀ sz : Nat, Met l y (Cond.code y cc n ret :: lw_g) rm (va_Pc av (zPre D k T ws sz)) (va_Qi post (zB D k (va_A ws sz) wo) (va_A ws sz)) rm.cells rm.slots (va_A ws sz)
def zMl (l : Launch) (y : MethodName) (cc : ByteArray) (n : Nat) (ret : Option FieldType) (rm : Room) (D : va_G) (k : Nat → ClassId) (T : zTy) (av : List Value) (ws : va_W) (post : Int64 → zS → Prop) (wo : zS → va_W) : Prop :=
  ∀ sz : Nat, Met l y (Cond.code y cc n ret :: lw_g) rm (va_Pc av (zPre D k T ws sz)) (va_Ql post (zB D k (va_A ws sz) wo) (va_A ws sz)) rm.cells rm.slots (va_A ws sz)
def zMv (l : Launch) (y : MethodName) (cc : ByteArray) (n : Nat) (ret : Option FieldType) (rm : Room) (D : va_G) (k : Nat → ClassId) (T : zTy) (av : List Value) (ws : va_W) (post : zS → Prop) (wo : zS → va_W) : Prop :=
  ∀ sz : Nat, Met l y (Cond.code y cc n ret :: lw_g) rm (va_Pc av (zPre D k T ws sz)) (va_Qv post (zB D k (va_A ws sz) wo) (va_A ws sz)) rm.cells rm.slots (va_A ws sz)
def zMq (l : Launch) (y : MethodName) (cc : ByteArray) (n : Nat) (ret : Option FieldType) (rm : Room) (D : va_G) (k : Nat → ClassId) (T : zTy) (av : List Value) (ws : va_W) (post : Option Nat → zS → Prop) (wo : zS → va_W) : Prop :=
  ∀ sz : Nat, Met l y (Cond.code y cc n ret :: lw_g) rm (va_Pc av (zPre D k T ws sz)) (va_Qq post (zB D k (va_A ws sz) wo) (va_A ws sz)) rm.cells rm.slots (va_A ws sz)
def okd (y : MethodName) (n : Nat) : Prop := y.cls ≠ "java/lang/invoke/MethodHandle" ∧ y.cls ≠ "java/lang/invoke/VarHandle" ∧ (parseMethodDescriptor y.desc).map (fun d => d.parameters.length) = some n
def okV (C : String) (y : MethodName) (cc : ByteArray) (maxL : Nat) (ret : Option FieldType) (n : Nat) : Prop := Cond.instanceMethod y ∈ lw_g ∧ Cond.selects C y y ∈ lw_g ∧ Cond.initialized y.cls ∈ lw_g ∧ Cond.code y cc maxL ret ∈ lw_g ∧ okd y n
def okS (y : MethodName) (cc : ByteArray) (maxL : Nat) (ret : Option FieldType) (n : Nat) : Prop := Cond.static y ∈ lw_g ∧ Cond.initialized y.cls ∈ lw_g ∧ Cond.code y cc maxL ret ∈ lw_g ∧ okd y n
def okI (y : MethodName) (cc : ByteArray) (maxL : Nat) (n : Nat) : Prop := Cond.instanceMethod y ∈ lw_g ∧ Cond.initialized y.cls ∈ lw_g ∧ Cond.code y cc maxL none ∈ lw_g ∧ y.name = "<init>" ∧ okd y n
theorem z_good {y : MethodName} {cc : ByteArray} {maxL : Nat} {ret : Option FieldType} (h : Cond.code y cc maxL ret ∈ lw_g) : GoodIn lw_g (Cond.code y cc maxL ret :: lw_g) := by
  intro w hw
  rcases List.mem_cons.mp hw with rfl | hw
  · exact ⟨h, good_of_word (lw_g_good _ h)⟩
  · exact ⟨hw, good_of_word (lw_g_good _ hw)⟩
theorem z_sub {D : va_G} {cl : List vw_C} {ws wc : va_W} {H : Heap} (hP : va_P D cl ws H) (isC : List Nat) (hC : isC.map (fun i => ws[i]?) = wc.map some) : va_P D cl wc H := by
  intro j q hq
  have h1 : (isC.map (fun i => ws[i]?))[j]? = some (some q) := by rw [hC, List.getElem?_map, hq]; rfl
  rw [List.getElem?_map] at h1
  cases hi : isC[j]? with
  | none => rw [hi] at h1; cases h1
  | some i => rw [hi] at h1; exact hP i q (Option.some.inj h1)
theorem z_blind {D : va_G} {k : Nat → ClassId} {T : zTy} {av : List Value} {ws : va_W} {sz : Nat} : FrameBlind (va_Pc av (zPre D k T ws sz)) := by
  intro a U g mk q
  obtain ⟨q0, q1, qP, qK, qD, qN, qE⟩ := q
  exact ⟨q0, q1, qP, va_K.moved (u := U) (U := U.calling g mk a) (Vm.Alike.refl U.vm) qK, qD, zN.warm (U := U.calling g mk a) (State.WarmedH.refl U) qN, zEnv.to (U := U.calling g mk a) (locs := []) qE va_S.rf (fun _ h => h) rfl (State.WarmedH.refl U)⟩
theorem z_pre {D : va_G} {k : Nat → ClassId} {T : zTy} {av : List Value} {wc : va_W} {s : State} {H : Heap} {A : Nat → Prop} (hK : va_K D vwCl (TYk k) s) (hN : zN s) (hE : ∀ U : State, U.heap = H → s.WarmedH U.vm → zEnv D T (va_A wc H.size) U) (hP : va_P D vwCl wc H) (hD : va_D A wc) : ∀ U : State, U.heap = H → s.WarmedH U.vm → va_Pc av (zPre D k T wc H.size) av.toArray U :=
  fun U hU hW => ⟨rfl, by rw [hU], by rw [hU]; exact hP, va_K.moved hW.alike hK, hD.weaken (fun _ _ _ _ => trivial), hN.warm hW, hE U hU hW⟩
theorem z_RA {U : State} {c1 c2 : ClassId} {ty : FieldType} (h1 : va_RA U c1 ty) (h2 : va_RA U c2 ty) : c1 = c2 := by
  cases ty with
  | object C =>
    obtain ⟨_, _, -, -, -, h1⟩ := h1
    obtain ⟨_, _, -, -, -, h2⟩ := h2
    exact Option.some.inj (h1.symm.trans h2)
  | _ => exact Option.some.inj (h1.symm.trans h2)
section ZZ
variable {p : Program} {l : Launch} {e : Env} {R : Room} {s : State} {m : MethodId} {args : Array Value} {below : List Frame} {meth : Method} {c : Code} {H H0 : Heap} {locs : List Loc} {cells slots : Nat} {Q : State → Prop}
variable {cc bytes : ByteArray} {pc index maxL nL n : Nat} {ls : Array Slot} {rest st0 As : List Value} {D : va_G} {k : Nat → ClassId} {T : zTy} {A : Nat → Prop} {ws wc wr : va_W} {wo : zS → va_W} {y : MethodName} {ret : Option FieldType} {rm : Room} {own C host : String} {b : Addr} {av : List Value}
theorem lv_toc {x v : Int32} (h : x = v) (kk : W p l e R s m args below meth c H locs cells slots Q (F0 m pc ls (.int v :: rest))) : W p l e R s m args below meth c H locs cells slots Q (F0 m pc ls (.int x :: rest)) := h ▸ kk
theorem lv_tocl {x v : Int64} (h : x = v) (kk : W p l e R s m args below meth c H locs cells slots Q (F0 m pc ls (.long v :: rest))) : W p l e R s m args below meth c H locs cells slots Q (F0 m pc ls (.long x :: rest)) := h ▸ kk
/-- a call's run -/
theorem z_runV {Pc : Array Value → State → Prop} {Qc : Array Value → State → Outcome → State → Prop} {free : Addr → Prop} (C0 : CallFix p m c cc nL s args lw_g own) (hM : Met l y (Cond.code y bytes maxL ret :: lw_g) rm Pc Qc rm.cells rm.slots free) (ok : okV C y bytes maxL ret n) (hlink : Cond.methodLink own index y ∈ lw_g) (hR : ((rm.frames + 1).ble R.frames && (8 + (maxL + 11) + rm.locals).ble R.locals) = true)
    (hp : PreV s H C b Pc As) (hn : As.length = n) (hsize : ls.size = nL) (hst : st0 = As.reverse ++ .ref b :: rest) (hW : (rest.map fun v => v.category).sum ≤ 8) (hdg : decode cc pc = .ok (.invokevirtual index, 3)) (hf : ((cells + rm.cells).ble R.cells && (slots + rm.slots).ble R.slots) = true) :
    va_Run p l e R s m args below meth c H locs cells slots rm.cells rm.slots (F0 m pc ls st0) rest (Qc (Value.ref b :: As).toArray) free := by
  obtain ⟨k1, k2, k3, k4, kd⟩ := ok
  have hts := C0.2.2.2.2
  simp only [Bool.and_eq_true, Nat.ble_eq] at hR hf
  exact va_runV C0 hM ⟨callB_of n hts (z_good k4) rfl rfl rfl (hts _ k3) (hts _ hlink) kd hR, hts _ k1, hts _ k2⟩ hp rfl hn hsize hst (lv_room hW) hdg hf
theorem z_runVN {Pc : Array Value → State → Prop} {Qc : Array Value → State → Outcome → State → Prop} {free : Addr → Prop} (C0 : CallFix p m c cc nL s args lw_g own) (hN : zN s) (hM : Met l y (Cond.code y bytes maxL ret :: lw_g) rm Pc Qc rm.cells rm.slots free) (ok : okV C y bytes maxL ret n) (hlink : Cond.methodLinkNest own index y host ∈ lw_nest) (hR : ((rm.frames + 1).ble R.frames && (8 + (maxL + 11) + rm.locals).ble R.locals) = true)
    (hp : PreV s H C b Pc As) (hn : As.length = n) (hsize : ls.size = nL) (hst : st0 = As.reverse ++ .ref b :: rest) (hW : (rest.map fun v => v.category).sum ≤ 8) (hdg : decode cc pc = .ok (.invokevirtual index, 3)) (hf : ((cells + rm.cells).ble R.cells && (slots + rm.slots).ble R.slots) = true) :
    va_Run p l e R s m args below meth c H locs cells slots rm.cells rm.slots (F0 m pc ls st0) rest (Qc (Value.ref b :: As).toArray) free := by
  obtain ⟨k1, k2, k3, k4, kd⟩ := ok
  have hts := C0.2.2.2.2
  simp only [Bool.and_eq_true, Nat.ble_eq] at hR hf
  exact va_runVN C0 hM ⟨va_cnB n hts (z_good k4) rfl rfl rfl (hN.1 _ hlink) (hts _ k3) kd hR, hts _ k1, hts _ k2⟩ hp rfl hn hsize hst (lv_room hW) hdg hf
theorem z_runS {Pc : Array Value → State → Prop} {Qc : Array Value → State → Outcome → State → Prop} {free : Addr → Prop} (C0 : CallFix p m c cc nL s args lw_g own) (hM : Met l y (Cond.code y bytes maxL ret :: lw_g) rm Pc Qc rm.cells rm.slots free) (ok : okS y bytes maxL ret n) (hlink : Cond.methodLink own index y ∈ lw_g) (hR : ((rm.frames + 1).ble R.frames && (8 + (maxL + 11) + rm.locals).ble R.locals) = true)
    (hp : PreS s H Pc As) (hn : As.length = n) (hsize : ls.size = nL) (hst : st0 = As.reverse ++ rest) (hW : (rest.map fun v => v.category).sum ≤ 8) (hdg : decode cc pc = .ok (.invokestatic index, 3)) (hf : ((cells + rm.cells).ble R.cells && (slots + rm.slots).ble R.slots) = true) :
    va_Run p l e R s m args below meth c H locs cells slots rm.cells rm.slots (F0 m pc ls st0) rest (Qc As.toArray) free := by
  obtain ⟨k1, k3, k4, kd⟩ := ok
  have hts := C0.2.2.2.2
  simp only [Bool.and_eq_true, Nat.ble_eq] at hR hf
  exact va_runS C0 hM ⟨callB_of n hts (z_good k4) rfl rfl rfl (hts _ k3) (hts _ hlink) kd hR, hts _ k1⟩ hp rfl hn hsize hst (lv_room hW) hdg hf
theorem z_runSN {Pc : Array Value → State → Prop} {Qc : Array Value → State → Outcome → State → Prop} {free : Addr → Prop} (C0 : CallFix p m c cc nL s args lw_g own) (hN : zN s) (hM : Met l y (Cond.code y bytes maxL ret :: lw_g) rm Pc Qc rm.cells rm.slots free) (ok : okS y bytes maxL ret n) (hlink : Cond.methodLinkNest own index y host ∈ lw_nest) (hR : ((rm.frames + 1).ble R.frames && (8 + (maxL + 11) + rm.locals).ble R.locals) = true)
    (hp : PreS s H Pc As) (hn : As.length = n) (hsize : ls.size = nL) (hst : st0 = As.reverse ++ rest) (hW : (rest.map fun v => v.category).sum ≤ 8) (hdg : decode cc pc = .ok (.invokestatic index, 3)) (hf : ((cells + rm.cells).ble R.cells && (slots + rm.slots).ble R.slots) = true) :
    va_Run p l e R s m args below meth c H locs cells slots rm.cells rm.slots (F0 m pc ls st0) rest (Qc As.toArray) free := by
  obtain ⟨k1, k3, k4, kd⟩ := ok
  have hts := C0.2.2.2.2
  simp only [Bool.and_eq_true, Nat.ble_eq] at hR hf
  exact va_runSN C0 hM ⟨va_cnB n hts (z_good k4) rfl rfl rfl (hN.1 _ hlink) (hts _ k3) kd hR, hts _ k1, trivial⟩ hp rfl hn hsize hst (lv_room hW) hdg hf
theorem z_runI {Pc : Array Value → State → Prop} {Qc : Array Value → State → Outcome → State → Prop} {free : Addr → Prop} (C0 : CallFix p m c cc nL s args lw_g own) (hM : Met l y (Cond.code y bytes maxL none :: lw_g) rm Pc Qc rm.cells rm.slots free) (ok : okI y bytes maxL n) (hlink : Cond.methodLink own index y ∈ lw_g) (hR : ((rm.frames + 1).ble R.frames && (8 + (maxL + 11) + rm.locals).ble R.locals) = true)
    (hp : PreS s H Pc (.ref b :: As)) (hn : As.length = n) (hsize : ls.size = nL) (hst : st0 = As.reverse ++ .ref b :: rest) (hW : (rest.map fun v => v.category).sum ≤ 8) (hdg : decode cc pc = .ok (.invokespecial index, 3)) (hf : ((cells + rm.cells).ble R.cells && (slots + rm.slots).ble R.slots) = true) :
    va_Run p l e R s m args below meth c H locs cells slots rm.cells rm.slots (F0 m pc ls st0) rest (Qc (Value.ref b :: As).toArray) free := by
  obtain ⟨k1, k3, k4, ky, kd⟩ := ok
  have hts := C0.2.2.2.2
  simp only [Bool.and_eq_true, Nat.ble_eq] at hR hf
  exact va_runI C0 hM ⟨callB_of n hts (z_good k4) rfl rfl rfl (hts _ k3) (hts _ hlink) kd hR, ky, hts _ k1⟩ hp rfl hn hsize hst (lv_room hW) hdg hf
theorem z_runIN {Pc : Array Value → State → Prop} {Qc : Array Value → State → Outcome → State → Prop} {free : Addr → Prop} (C0 : CallFix p m c cc nL s args lw_g own) (hN : zN s) (hM : Met l y (Cond.code y bytes maxL none :: lw_g) rm Pc Qc rm.cells rm.slots free) (ok : okI y bytes maxL n) (hlink : Cond.methodLinkNest own index y host ∈ lw_nest) (hR : ((rm.frames + 1).ble R.frames && (8 + (maxL + 11) + rm.locals).ble R.locals) = true)
    (hp : PreS s H Pc (.ref b :: As)) (hn : As.length = n) (hsize : ls.size = nL) (hst : st0 = As.reverse ++ .ref b :: rest) (hW : (rest.map fun v => v.category).sum ≤ 8) (hdg : decode cc pc = .ok (.invokespecial index, 3)) (hf : ((cells + rm.cells).ble R.cells && (slots + rm.slots).ble R.slots) = true) :
    va_Run p l e R s m args below meth c H locs cells slots rm.cells rm.slots (F0 m pc ls st0) rest (Qc (Value.ref b :: As).toArray) free := by
  obtain ⟨k1, k3, k4, ky, kd⟩ := ok
  have hts := C0.2.2.2.2
  simp only [Bool.and_eq_true, Nat.ble_eq] at hR hf
  exact va_runIN C0 hM ⟨va_cnB n hts (z_good k4) rfl rfl rfl (hN.1 _ hlink) (hts _ k3) kd hR, ky, hts _ k1⟩ hp rfl hn hsize hst (lv_room hW) hdg hf
/-- what a call's start wants: its cells out of the caller's -/
theorem z_en (hT : zEnv D T A s) (hD : va_D A ws) (hS : va_S A s.heap H locs) (hA : ∀ q, s.heap.size ≤ q → A q) (isC : List Nat) (hC : isC.map (fun i => ws[i]?) = wc.map some) : ∀ U : State, U.heap = H → s.WarmedH U.vm → zEnv D T (va_A wc H.size) U :=
  fun _ hU hW => hT.to hS (va_free (wc := wc) hD hS hA isC hC) hU hW
theorem z_pSE (hK : va_K D vwCl (TYk k) s) (hN : zN s) (hP : va_P D vwCl ws H) (hD : va_D A ws) (isC : List Nat) (hn : va_nd isC = true) (hC : isC.map (fun i => ws[i]?) = wc.map some) (hE : ∀ U : State, U.heap = H → s.WarmedH U.vm → zEnv D T (va_A wc H.size) U) : PreS s H (va_Pc av (zPre D k T wc H.size)) av :=
  ⟨z_blind, z_pre hK hN hE (z_sub hP isC hC) (hD.sub isC hn hC)⟩
theorem z_pS (hT : zEnv D T A s) (hS : va_S A s.heap H locs) (hA : ∀ q, s.heap.size ≤ q → A q) (hK : va_K D vwCl (TYk k) s) (hN : zN s) (hP : va_P D vwCl ws H) (hD : va_D A ws) (isC : List Nat) (hn : va_nd isC = true) (hC : isC.map (fun i => ws[i]?) = wc.map some) : PreS s H (va_Pc av (zPre D k T wc H.size)) av :=
  z_pSE hK hN hP hD isC hn hC (z_en hT hD hS hA isC hC)
theorem z_pVE {ci q0 : Nat} {r : vw_C} {fs : List Value} (hK : va_K D vwCl (TYk k) s) (hN : zN s) (hP : va_P D vwCl ws H) (hD : va_D A ws) (isC : List Nat) (hn : va_nd isC = true) (hC : isC.map (fun i => ws[i]?) = wc.map some) (he : ws[q0]? = some (b, .inr (ci, fs))) (hc : vwCl[ci]? = some r) (hr : r.1 = C) (hE : ∀ U : State, U.heap = H → s.WarmedH U.vm → zEnv D T (va_A wc H.size) U) : PreV s H C b (va_Pc (.ref b :: As) (zPre D k T wc H.size)) As :=
  ⟨z_blind, by rw [← hr]; exact va_recv hK hP hc he, z_pre hK hN hE (z_sub hP isC hC) (hD.sub isC hn hC)⟩
theorem z_pV {ci q0 : Nat} {r : vw_C} {fs : List Value} (hT : zEnv D T A s) (hS : va_S A s.heap H locs) (hA : ∀ q, s.heap.size ≤ q → A q) (hK : va_K D vwCl (TYk k) s) (hN : zN s) (hP : va_P D vwCl ws H) (hD : va_D A ws) (isC : List Nat) (hn : va_nd isC = true) (hC : isC.map (fun i => ws[i]?) = wc.map some) (he : ws[q0]? = some (b, .inr (ci, fs))) (hc : vwCl[ci]? = some r) (hr : r.1 = C) : PreV s H C b (va_Pc (.ref b :: As) (zPre D k T wc H.size)) As :=
  z_pVE hK hN hP hD isC hn hC he hc hr (z_en hT hD hS hA isC hC)
/-- behind a call -/
theorem z_bi {post : Int32 → zS → Prop} {a : Array Value} (hr : va_Run p l e R s m args below meth c H locs cells slots rm.cells rm.slots (F0 m pc ls st0) rest (va_Qi post (zB D k (va_A wc H.size) wo) (va_A wc H.size) a) (va_A wc H.size)) (hP : va_P D vwCl ws H) (hD : va_D A ws) (hS : va_S A H0 H locs) (hA : ∀ q, H0.size ≤ q → A q) (isC isR : List Nat) (hC : isC.map (fun i => ws[i]?) = wc.map some) (hR : isR.map (fun i => ws[i]?) = wr.map some) (hn : va_nd isR = true) (hdis : isR.all (fun i => !isC.contains i) = true)
    (kk : ∀ (r : Int32) (u : zS) (H1 : Heap) (locs1 : List Loc), post r u → va_P D vwCl (wr ++ wo u) H1 → va_D A (wr ++ wo u) → va_S A H0 H1 locs1 → W p l e R s m args below meth c H1 locs1 (cells + rm.cells) (slots + rm.slots) Q (F0 m (pc + 3) ls (.int r :: rest))) : W p l e R s m args below meth c H locs cells slots Q (F0 m pc ls st0) := by
  have hF := va_free (wc := wc) hD hS hA isC hC
  refine va_calli hr hS (fun q _ h => hF q h) hF (fun r u t H1 locs1 ht hvm hw hB hz1 hk1 hS1 => ?_)
  obtain ⟨hP1, hK1, hD1⟩ := hB
  rw [ht] at hP1
  obtain ⟨hP2, hD2⟩ := va_join (wr := wr) hP hD isC isR hC hR hn (fun i hi => by have := List.all_eq_true.mp hdis i hi; simpa using this) hk1 hF hP1 hD1
  exact kk r u H1 locs1 hw hP2 hD2 hS1
theorem z_bl {post : Int64 → zS → Prop} {a : Array Value} (hr : va_Run p l e R s m args below meth c H locs cells slots rm.cells rm.slots (F0 m pc ls st0) rest (va_Ql post (zB D k (va_A wc H.size) wo) (va_A wc H.size) a) (va_A wc H.size)) (hP : va_P D vwCl ws H) (hD : va_D A ws) (hS : va_S A H0 H locs) (hA : ∀ q, H0.size ≤ q → A q) (isC isR : List Nat) (hC : isC.map (fun i => ws[i]?) = wc.map some) (hR : isR.map (fun i => ws[i]?) = wr.map some) (hn : va_nd isR = true) (hdis : isR.all (fun i => !isC.contains i) = true)
    (kk : ∀ (r : Int64) (u : zS) (H1 : Heap) (locs1 : List Loc), post r u → va_P D vwCl (wr ++ wo u) H1 → va_D A (wr ++ wo u) → va_S A H0 H1 locs1 → W p l e R s m args below meth c H1 locs1 (cells + rm.cells) (slots + rm.slots) Q (F0 m (pc + 3) ls (.long r :: rest))) : W p l e R s m args below meth c H locs cells slots Q (F0 m pc ls st0) := by
  have hF := va_free (wc := wc) hD hS hA isC hC
  refine va_calll hr hS (fun q _ h => hF q h) hF (fun r u t H1 locs1 ht hvm hw hB hz1 hk1 hS1 => ?_)
  obtain ⟨hP1, hK1, hD1⟩ := hB
  rw [ht] at hP1
  obtain ⟨hP2, hD2⟩ := va_join (wr := wr) hP hD isC isR hC hR hn (fun i hi => by have := List.all_eq_true.mp hdis i hi; simpa using this) hk1 hF hP1 hD1
  exact kk r u H1 locs1 hw hP2 hD2 hS1
theorem z_bv {post : zS → Prop} {a : Array Value} (hr : va_Run p l e R s m args below meth c H locs cells slots rm.cells rm.slots (F0 m pc ls st0) rest (va_Qv post (zB D k (va_A wc H.size) wo) (va_A wc H.size) a) (va_A wc H.size)) (hP : va_P D vwCl ws H) (hD : va_D A ws) (hS : va_S A H0 H locs) (hA : ∀ q, H0.size ≤ q → A q) (isC isR : List Nat) (hC : isC.map (fun i => ws[i]?) = wc.map some) (hR : isR.map (fun i => ws[i]?) = wr.map some) (hn : va_nd isR = true) (hdis : isR.all (fun i => !isC.contains i) = true)
    (kk : ∀ (u : zS) (H1 : Heap) (locs1 : List Loc), post u → va_P D vwCl (wr ++ wo u) H1 → va_D A (wr ++ wo u) → va_S A H0 H1 locs1 → W p l e R s m args below meth c H1 locs1 (cells + rm.cells) (slots + rm.slots) Q (F0 m (pc + 3) ls rest)) : W p l e R s m args below meth c H locs cells slots Q (F0 m pc ls st0) := by
  have hF := va_free (wc := wc) hD hS hA isC hC
  refine va_callv hr hS (fun q _ h => hF q h) hF (fun u t H1 locs1 ht hvm hw hB hz1 hk1 hS1 => ?_)
  obtain ⟨hP1, hK1, hD1⟩ := hB
  rw [ht] at hP1
  obtain ⟨hP2, hD2⟩ := va_join (wr := wr) hP hD isC isR hC hR hn (fun i hi => by have := List.all_eq_true.mp hdis i hi; simpa using this) hk1 hF hP1 hD1
  exact kk u H1 locs1 hw hP2 hD2 hS1
theorem z_bq {post : Option Nat → zS → Prop} {a : Array Value} (hr : va_Run p l e R s m args below meth c H locs cells slots rm.cells rm.slots (F0 m pc ls st0) rest (va_Qq post (zB D k (va_A wc H.size) wo) (va_A wc H.size) a) (va_A wc H.size)) (hP : va_P D vwCl ws H) (hD : va_D A ws) (hS : va_S A H0 H locs) (hA : ∀ q, H0.size ≤ q → A q) (isC isR : List Nat) (hC : isC.map (fun i => ws[i]?) = wc.map some) (hR : isR.map (fun i => ws[i]?) = wr.map some) (hn : va_nd isR = true) (hdis : isR.all (fun i => !isC.contains i) = true)
    (kk : ∀ (r : Option Nat) (u : zS) (H1 : Heap) (locs1 : List Loc), post r u → va_P D vwCl (wr ++ wo u) H1 → va_D A (wr ++ wo u) → va_S A H0 H1 locs1 → W p l e R s m args below meth c H1 locs1 (cells + rm.cells) (slots + rm.slots) Q (F0 m (pc + 3) ls (va_rf r :: rest))) : W p l e R s m args below meth c H locs cells slots Q (F0 m pc ls st0) := by
  have hF := va_free (wc := wc) hD hS hA isC hC
  refine va_callq hr hS (fun q _ h => hF q h) hF (fun r u t H1 locs1 ht hvm hw hB hz1 hk1 hS1 => ?_)
  obtain ⟨hP1, hK1, hD1⟩ := hB
  rw [ht] at hP1
  obtain ⟨hP2, hD2⟩ := va_join (wr := wr) hP hD isC isR hC hR hn (fun i hi => by have := List.all_eq_true.mp hdis i hi; simpa using this) hk1 hF hP1 hD1
  exact kk r u H1 locs1 hw hP2 hD2 hS1
/-- new arrays are of the classes that the tables have -/
theorem z_newa {atype : ArrayType} (hexec : p.tables.exec = Jvm.exec) (hb : c.code = cc) (harr : (Cond.arrayClass (newarray.typeOf atype)).before args s = true) {ty : FieldType} (hty : newarray.typeOf atype = ty) (t0 : Nat) {kt : ClassId} (ht : (TYk k)[t0]? = some (kt, ty)) (hK : va_K D vwCl (TYk k) s) (hP : va_P D vwCl ws H) (hD : va_D A ws) (hS : va_S A H0 H locs) (hA : ∀ q, H0.size ≤ q → A q)
    {n : Int32} {N' : Nat} {a0 : vp_A} (ha : ∀ cA : ClassId, vp_cell cA a0 = arrV cA N' (fun _ => defaultValue ty)) (hn : ¬ n < 0) (hN : n.toNatClampNeg = N') (hbytes : N' * componentBytes ty ≤ 536870912) (hcells : cells + 1 ≤ R.cells) (hslots : slots + N' ≤ R.slots) (hdg : decode cc pc = .ok (.newarray atype, 2))
    (kk : ∀ (q : Nat) (H1 : Heap), va_P D vwCl (ws ++ [(q, .inl (kt, a0))]) H1 → va_D A (ws ++ [(q, .inl (kt, a0))]) → va_S A H0 H1 locs → W p l e R s m args below meth c H1 locs (cells + 1) (slots + N') Q (F0 m (pc + 2) ls (.ref q :: rest))) : W p l e R s m args below meth c H locs cells slots Q (F0 m pc ls (.int n :: rest)) := by
  refine va_newa hexec hb harr hty hK hP hD hS hA ha hn hN hbytes hcells hslots hdg (fun q cA H1 hK1 hP1 hD1 hS1 => ?_)
  have e1 := z_RA (hK1.2 5 (cA, ty) rfl).2 (hK.2 t0 _ ht).2
  subst e1
  exact kk q H1 hP1 hD1 hS1
theorem z_newq {index : Nat} (hexec : p.tables.exec = Jvm.exec) (hb : c.code = cc) (hown : s.vm.findClass own = some m.cls) (hclink : (Cond.classLink own index C).before args s = true) (hover : va_AO C s) (t0 : Nat) {kt : ClassId} (ht : (TYk k)[t0]? = some (kt, .object C)) (hK : va_K D vwCl (TYk k) s) (hP : va_P D vwCl ws H) (hD : va_D A ws) (hS : va_S A H0 H locs) (hA : ∀ q, H0.size ≤ q → A q)
    {n : Int32} {N' : Nat} (hn : ¬ n < 0) (hN : n.toNatClampNeg = N') (hbytes : N' * 4 ≤ 536870912) (hcells : cells + 1 ≤ R.cells) (hslots : slots + N' ≤ R.slots) (hdg : decode cc pc = .ok (.anewarray index, 3))
    (kk : ∀ (q : Nat) (H1 : Heap), va_P D vwCl (ws ++ [(q, .inl (kt, N', .inr (.inr (.inr (.inr (fun _ => none))))))]) H1 → va_D A (ws ++ [(q, .inl (kt, N', .inr (.inr (.inr (.inr (fun _ => none))))))]) → va_S A H0 H1 locs → W p l e R s m args below meth c H1 locs (cells + 1) (slots + N') Q (F0 m (pc + 3) ls (.ref q :: rest))) : W p l e R s m args below meth c H locs cells slots Q (F0 m pc ls (.int n :: rest)) := by
  refine va_newq hexec hb hown hclink hover hK hP hD hS hA hn hN hbytes hcells hslots hdg (fun q cA H1 hK1 hP1 hD1 hS1 => ?_)
  have e1 := z_RA (hK1.2 5 (cA, .object C) rfl).2 (hK.2 t0 _ ht).2
  subst e1
  exact kk q H1 hP1 hD1 hS1
end ZZ
