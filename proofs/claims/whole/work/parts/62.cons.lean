/-! constructors: a judgement over worlds that grow -/
def rn_N : List (String × Nat × MethodName × String) := [(RX6, 9, yX4_init, RX6), (RX6, 18, yX1_init, RX6), (RX6, 48, yX3_init, RX6), (RX6, 55, yX0_init, RX6), (RX5, 11, yX2_init, RX6)]
def rn_Y (U : State) : Prop := (∀ q ∈ rn_N, va_Nw (.methodLinkNest q.1 q.2.1 q.2.2.1 q.2.2.2) U) ∧ va_AO RX5 U
theorem rn_Y.warm {s U : State} (hW : s.WarmedH U.vm) (h : rn_Y s) : rn_Y U := ⟨fun q hq => va_Nw.warmM hW (h.1 q hq), va_AO.moved hW.alike h.2⟩
theorem rn_Y.same {u U : State} (hv : U.vm = u.vm) (h : rn_Y u) : rn_Y U := ⟨fun q hq => va_Nw.same rfl hv.symm (h.1 q hq), va_AO.moved (hv ▸ Vm.Alike.refl _) h.2⟩
def rn_cx (y : rf_Me) (p : Program) (s : State) (m : MethodId) (args : Array Value) (meth : Method) (c : Code) (D : va_G) (g : rf_G) (ad : Nat → Nat) (A : Nat → Prop) : Prop :=
  p.tables.exec = Jvm.exec ∧ c.code = y.2.1 ∧ meth.sig.returnType = none ∧ meth.locks = false ∧ c.maxLocals = y.2.2.1 ∧ s.vm.findClass y.1.cls = some m.cls ∧ (∀ w ∈ wsL_law, w.before args s = true) ∧ va_K D vwCl (rf_tys g) s ∧ (∀ q, s.heap.size ≤ q → A q) ∧ rf_X ad A s s.heap ∧ meth.name = "<init>" ∧ rn_Y s
def rn_B (D : va_G) (A : Nat → Prop) (w : va_W) (t : State) : Prop := va_P D vwCl w t.heap ∧ va_D A w
def EvN (g : rf_G) (y : rf_Me) (pc : Nat) (L : List (Option Value)) (st : List Value) (ws : va_W) (k n : Nat) (Po : va_W → Prop) : Prop :=
  ∀ (p : Program) (l : Launch) (e : Env) (s : State) (m : MethodId) (args : Array Value) (below : List Frame) (meth : Method) (c : Code) (D : va_G) (ad : Nat → Nat) (A : Nat → Prop) (H : Heap) (locs : List Loc) (ls : Array Slot),
    rn_cx y p s m args meth c D g ad A → va_P D vwCl ws H → va_D A ws → va_S A s.heap H locs → lv_has ls y.2.2.1 (rf_lv (fun q => q) 0 L) →
    W p l e y.2.2.2.2 s m args below meth c H locs k n (MQ below (va_Qv Po (rn_B D A) A) args s y.2.2.2.2.cells y.2.2.2.2.slots A) (F0 m pc ls st)
theorem rf_cv_id (v : Value) : rf_cv (fun q => q) v = v := by cases v <;> rfl
theorem rf_cv_ids : ∀ vs : List Value, vs.map (rf_cv (fun q => q)) = vs
  | [] => rfl
  | v :: vs => by rw [List.map_cons, rf_cv_id, rf_cv_ids vs]
def rn_Pre (D : va_G) (g : rf_G) (ad : Nat → Nat) (ws : va_W) (sz : Nat) (av : List Value) : Array Value → State → Prop := va_Pc av (fun U => U.heap.size = sz ∧ va_P D vwCl ws U.heap ∧ va_K D vwCl (rf_tys g) U ∧ va_D (fun _ => True) ws ∧ rf_X ad (va_A ws sz) U U.heap ∧ rn_Y U)
theorem rn_met {g : rf_G} {y : rf_Me} {av : List Value} {ws : va_W} {Po : va_W → Prop} (hpl : plainName y.1.cls = true) (hr : y.2.2.2.1 = none) (hnm : y.1.name = "<init>") (hent : (rf_sl av).length ≤ y.2.2.1) (h : EvN g y 0 (rf_ent y.2.2.1 av) [] ws 0 0 Po) (l : Launch) (D : va_G) (ad : Nat → Nat) (sz : Nat) :
    Met l y.1 (rf_ws y) y.2.2.2.2 (rn_Pre D g ad ws sz av) (va_Qv Po (rn_B D (va_A ws sz)) (va_A ws sz)) y.2.2.2.2.cells y.2.2.2.2.slots (va_A ws sz) := by
  refine Met.ofW (cc := y.2.1) (maxL := y.2.2.1) (ret := y.2.2.2.1) hpl rfl ?_
  intro p e s m args below meth c s₁ B hml hv
  obtain ⟨rfl, hsz, hP, hK, hD0, hX, hY⟩ := hv
  subst hsz
  have hl := lv_entry av (n := y.2.2.1) (by have := rf_sl_len (fun q => q) av; rw [rf_cv_ids] at this; rw [this]; exact hent)
  rw [lg_entry_eq]
  have e9 := rf_lv_args (fun q => q) (y.2.2.1 - (rf_sl av).length) av 0
  rw [rf_cv_ids] at e9
  rw [← e9] at hl
  exact h p l e s m _ below meth c D ad _ s.heap [] _ ⟨B.exec, B.bytes, B.returns.trans hr, B.notSynchronized, hml, findClass_of_methodNamed B.named, fun w hw => (atoms_spec (ws := rf_ws y) B.pre) w (List.mem_cons_of_mem _ hw), hK, fun q h => Or.inr h, hX, (name_of_methodNamed B.named B.method).1.trans hnm, hY⟩ hP hD0.self va_S.rf hl
theorem en_iconst {g : rf_G} {y : rf_Me} {pc : Nat} {L : List (Option Value)} {st : List Value} {ws : va_W} {k n : Nat} {Po : va_W → Prop} {z : Int} {v : Int32} (hd : decode y.2.1 pc = .ok (.iconst z, 1)) (hv : Int32.ofInt z = v) (h : EvN g y (pc + 1) L (.int v :: st) ws k n Po) : EvN g y pc L st ws k n Po := by
  intro p l e s m args below meth c D ad A H locs ls C hP hD hS hl
  exact lv_iconst C.1 C.2.1 hd hv (h p l e s m args below meth c D ad A H locs ls C hP hD hS hl)
theorem en_bipush {g : rf_G} {y : rf_Me} {pc : Nat} {L : List (Option Value)} {st : List Value} {ws : va_W} {k n : Nat} {Po : va_W → Prop} {z : Int} {v : Int32} (hd : decode y.2.1 pc = .ok (.bipush z, 2)) (hv : (Int8.ofInt z).toInt32 = v) (h : EvN g y (pc + 2) L (.int v :: st) ws k n Po) : EvN g y pc L st ws k n Po := by
  intro p l e s m args below meth c D ad A H locs ls C hP hD hS hl
  exact lv_bipush C.1 C.2.1 hd hv (h p l e s m args below meth c D ad A H locs ls C hP hD hS hl)
theorem en_sipush {g : rf_G} {y : rf_Me} {pc : Nat} {L : List (Option Value)} {st : List Value} {ws : va_W} {k n : Nat} {Po : va_W → Prop} {z : Int} {v : Int32} (hd : decode y.2.1 pc = .ok (.sipush z, 3)) (hv : (Int16.ofInt z).toInt32 = v) (h : EvN g y (pc + 3) L (.int v :: st) ws k n Po) : EvN g y pc L st ws k n Po := by
  intro p l e s m args below meth c D ad A H locs ls C hP hD hS hl
  exact lv_sipush C.1 C.2.1 hd hv (h p l e s m args below meth c D ad A H locs ls C hP hD hS hl)
theorem en_aload {g : rf_G} {y : rf_Me} {pc : Nat} {L : List (Option Value)} {st : List Value} {ws : va_W} {k n : Nat} {Po : va_W → Prop} {j : Fin 4} {x : Nat} (hd : decode y.2.1 pc = .ok (.aload_n j, 1)) (hL : L[j.val]? = some (some (.ref x))) (h : EvN g y (pc + 1) L (.ref x :: st) ws k n Po) : EvN g y pc L st ws k n Po := by
  intro p l e s m args below meth c D ad A H locs ls C hP hD hS hl
  have hi : ls[j.val]? = some (.val (.ref x)) := by
    have h3 := rf_lv_in (fun q => q) L 0 j.val _ hL
    rw [Nat.zero_add] at h3
    exact hl.2.2 _ h3
  exact lv_aload_n C.1 C.2.1 hd rfl hi (h p l e s m args below meth c D ad A H locs ls C hP hD hS hl)
theorem en_iload {g : rf_G} {y : rf_Me} {pc : Nat} {L : List (Option Value)} {st : List Value} {ws : va_W} {k n : Nat} {Po : va_W → Prop} {j : Fin 4} {x : Int32} (hd : decode y.2.1 pc = .ok (.iload_n j, 1)) (hL : L[j.val]? = some (some (.int x))) (h : EvN g y (pc + 1) L (.int x :: st) ws k n Po) : EvN g y pc L st ws k n Po := by
  intro p l e s m args below meth c D ad A H locs ls C hP hD hS hl
  have hi : ls[j.val]? = some (.val (.int x)) := by
    have h3 := rf_lv_in (fun q => q) L 0 j.val _ hL
    rw [Nat.zero_add] at h3
    exact hl.2.2 _ h3
  exact lv_iload_n C.1 C.2.1 hd rfl hi (h p l e s m args below meth c D ad A H locs ls C hP hD hS hl)
theorem en_dup {g : rf_G} {y : rf_Me} {pc : Nat} {L : List (Option Value)} {st : List Value} {ws : va_W} {k n : Nat} {Po : va_W → Prop} {v : Value} (hd : decode y.2.1 pc = .ok (.dup, 1)) (hv : v.category = 1) (h : EvN g y (pc + 1) L (v :: v :: st) ws k n Po) : EvN g y pc L (v :: st) ws k n Po := by
  intro p l e s m args below meth c D ad A H locs ls C hP hD hS hl
  exact lv_dup C.1 C.2.1 hd hv (h p l e s m args below meth c D ad A H locs ls C hP hD hS hl)
theorem en_goto {g : rf_G} {y : rf_Me} {pc : Nat} {L : List (Option Value)} {st : List Value} {ws : va_W} {k n : Nat} {Po : va_W → Prop} {off : Int} (tgt : Nat) (hd : decode y.2.1 pc = .ok (.goto off, 3)) (ht : (pc : Int) + off = (tgt : Int)) (h : EvN g y tgt L st ws k n Po) : EvN g y pc L st ws k n Po := by
  intro p l e s m args below meth c D ad A H locs ls C hP hD hS hl
  exact lv_goto C.1 C.2.1 hd ht (h p l e s m args below meth c D ad A H locs ls C hP hD hS hl)
theorem en_ge {g : rf_G} {y : rf_Me} {pc : Nat} {L : List (Option Value)} {st : List Value} {ws : va_W} {k n : Nat} {Po : va_W → Prop} {x z : Int32} {off : Int} (tgt : Nat) (hd : decode y.2.1 pc = .ok (.if_icmp .ge off, 3)) (ht : (pc : Int) + off = (tgt : Int)) (h1 : z ≤ x → EvN g y tgt L st ws k n Po) (h2 : ¬ z ≤ x → EvN g y (pc + 3) L st ws k n Po) : EvN g y pc L (.int z :: .int x :: st) ws k n Po := by
  intro p l e s m args below meth c D ad A H locs ls C hP hD hS hl
  exact lv_icmp_ge C.1 C.2.1 hd ht (fun q => h1 q p l e s m args below meth c D ad A H locs ls C hP hD hS hl) (fun q => h2 q p l e s m args below meth c D ad A H locs ls C hP hD hS hl)
theorem en_obj {g : rf_G} {y : rf_Me} {pc : Nat} {L : List (Option Value)} {st : List Value} {ws : va_W} {k n : Nat} {Po : va_W → Prop} {a idx : Nat} (hd : decode y.2.1 pc = .ok (.invokespecial idx, 3)) (hw : Cond.methodLink y.1.cls idx objectInit ∈ wsL_law) (hst : (st.map fun v => v.category).sum + 12 ≤ y.2.2.2.2.locals) (hfr : 1 ≤ y.2.2.2.2.frames) (h : EvN g y (pc + 3) L st ws k n Po) : EvN g y pc L (.ref a :: st) ws k n Po := by
  intro p l e s m args below meth c D ad A H locs ls C hP hD hS hl
  have hts := C.2.2.2.2.2.2.1
  refine W.objInit C.1 C.2.1 C.2.2.2.2.2.1 (hts _ hw) (hts _ (iw_1 _ (List.mem_of_getElem? (i := 11) rfl))) (hts _ (iw_1 _ (List.mem_of_getElem? (i := 12) rfl))) rfl (hl.1.trans C.2.2.2.2.1.symm) rfl hd hfr (by show 2 * 0 + _ + 12 ≤ _; omega) ?_
  exact (h p l e s m args below meth c D ad A H locs ls C hP hD hS hl)
theorem en_vret {g : rf_G} {y : rf_Me} {pc : Nat} {L : List (Option Value)} {st : List Value} {ws : va_W} {k n : Nat} {Po : va_W → Prop} (hd : decode y.2.1 pc = .ok (.return_, 1)) (hk : k ≤ y.2.2.2.2.cells) (hn : n ≤ y.2.2.2.2.slots) (hp : Po ws) : EvN g y pc L [] ws k n Po := by
  intro p l e s m args below meth c D ad A H locs ls C hP hD hS hl
  refine W.widen (k := y.2.2.2.2.cells) (n := y.2.2.2.2.slots) hk hn ?_
  exact W.vret C.1 C.2.1 C.2.2.1 (fun t ht hW => ⟨⟨ws, rfl, hp, by rw [ht]; exact hP, hD⟩, hS.F ht⟩) hS.2.2 hd C.2.2.2.1
theorem fm_of {α β : Type} {f : α → Option β} : ∀ {is : List α} {w : List β}, is.map f = w.map some → is.filterMap f = w
  | [], [], _ => rfl
  | [], _ :: _, h => by cases h
  | i :: is, [], h => by cases h
  | i :: is, b :: w, h => by
    rw [List.map_cons, List.map_cons] at h
    obtain ⟨h1, h2⟩ := List.cons.inj h
    rw [List.filterMap_cons, h1, fm_of h2]
/-- the same cells in another order -/
theorem en_sub {g : rf_G} {y : rf_Me} {pc : Nat} {L : List (Option Value)} {st : List Value} {ws : va_W} {k n : Nat} {Po : va_W → Prop} {ws' : va_W} (is : List Nat) (hi : is.map (fun i => ws[i]?) = ws'.map some) (hnd : va_nd is = true) (h : EvN g y pc L st ws' k n Po) : EvN g y pc L st ws k n Po := by
  intro p l e s m args below meth c D ad A H locs ls C hP hD hS hl
  exact h p l e s m args below meth c D ad A H locs ls C (hP.sub is (fm_of hi)) (hD.sub is hnd hi) hS hl
def rn_cl (own : String) (idx ci N : Nat) (fs : List Value) : Prop := ∃ (Cn : String) (T : u_T) (ty : Nat → FieldType), vwCl[ci]? = some (Cn, T, N) ∧ (∀ w ∈ u_ws Cn T N, w ∈ wsL_law) ∧ (∀ k, k < N → parseFieldDescriptor (T k).2.2.1 = some (ty k)) ∧ Cond.classLink own idx Cn ∈ wsL_law ∧ Cond.instantiable Cn N ∈ wsL_law ∧ Cond.initialized Cn ∈ wsL_law ∧ ∀ j, j < N → defaultValue (ty j) = vp_V fs j
theorem en_new {g : rf_G} {y : rf_Me} {pc : Nat} {L : List (Option Value)} {st : List Value} {ws : va_W} {k n : Nat} {Po : va_W → Prop} {idx ci N : Nat} {fs : List Value} (hd : decode y.2.1 pc = .ok (.new idx, 3)) (hc : rn_cl y.1.cls idx ci N fs) (h1 : k + 1 ≤ y.2.2.2.2.cells) (h2 : n + N ≤ y.2.2.2.2.slots) (h : ∀ q, EvN g y (pc + 3) L (.ref q :: st) (ws ++ [(q, .inr (ci, fs))]) (k + 1) (n + N) Po) : EvN g y pc L st ws k n Po := by
  intro p l e s m args below meth c D ad A H locs ls C hP hD hS hl
  obtain ⟨Cn, T, ty, c1, c2, c3, c4, c5, c6, c7⟩ := hc
  have hts := C.2.2.2.2.2.2.1
  exact va_new (ci := ci) (fs := fs) C.1 C.2.1 hts c2 ty c3 C.2.2.2.2.2.1 (hts _ c4) (hts _ c5) (hts _ c6) C.2.2.2.2.2.2.2.1 hP hD hS C.2.2.2.2.2.2.2.2.1 c1 c7 h1 h2 hd (fun q H1 hP1 hD1 hS1 => h q p l e s m args below meth c D ad A H1 locs ls C hP1 hD1 hS1 hl)
theorem en_newI {g : rf_G} {y : rf_Me} {pc : Nat} {L : List (Option Value)} {st : List Value} {ws : va_W} {k n : Nat} {Po : va_W → Prop} {N : Nat} (hd : decode y.2.1 pc = .ok (.newarray .int, 2)) (hN : N < 100000) (h1 : k + 1 ≤ y.2.2.2.2.cells) (h2 : n + N ≤ y.2.2.2.2.slots) (h : ∀ q, EvN g y (pc + 2) L (.ref q :: st) (ws ++ [(q, .inl (g.1, N, .inl (fun _ => 0)))]) (k + 1) (n + N) Po) : EvN g y pc L (.int (nI N) :: st) ws k n Po := by
  intro p l e s m args below meth c D ad A H locs ls C hP hD hS hl
  have hts := C.2.2.2.2.2.2.1
  have hK := C.2.2.2.2.2.2.2.1
  refine va_newa (ty := .int) (a0 := (N, .inl (fun _ => 0))) C.1 C.2.1 (hts _ (iw_2 _ (List.mem_of_getElem? (i := 13) rfl))) rfl hK hP hD hS C.2.2.2.2.2.2.2.2.1 (fun cA => rfl) (nI_pos (by omega)) (nI_clamp (by omega)) (by show N * 4 ≤ _; omega) h1 h2 hd (fun q cA H1 hK1 hP1 hD1 hS1 => ?_)
  have e1 : s.vm.findClass ("[" ++ (FieldType.int).toString) = some cA := (hK1.2 3 (cA, .int) rfl).2
  have e2 : s.vm.findClass ("[" ++ (FieldType.int).toString) = some g.1 := (hK.2 0 (g.1, .int) rfl).2
  have e3 : cA = g.1 := Option.some.inj (e1.symm.trans e2)
  subst e3
  exact h q p l e s m args below meth c D ad A H1 locs ls C hP1 hD1 hS1 hl
theorem en_newZ {g : rf_G} {y : rf_Me} {pc : Nat} {L : List (Option Value)} {st : List Value} {ws : va_W} {k n : Nat} {Po : va_W → Prop} {N : Nat} (hd : decode y.2.1 pc = .ok (.newarray .boolean, 2)) (hN : N < 100000) (h1 : k + 1 ≤ y.2.2.2.2.cells) (h2 : n + N ≤ y.2.2.2.2.slots) (h : ∀ q, EvN g y (pc + 2) L (.ref q :: st) (ws ++ [(q, .inl (g.2.1, N, .inl (fun _ => 0)))]) (k + 1) (n + N) Po) : EvN g y pc L (.int (nI N) :: st) ws k n Po := by
  intro p l e s m args below meth c D ad A H locs ls C hP hD hS hl
  have hts := C.2.2.2.2.2.2.1
  have hK := C.2.2.2.2.2.2.2.1
  refine va_newa (ty := .boolean) (a0 := (N, .inl (fun _ => 0))) C.1 C.2.1 (hts _ (iw_5 _ (List.mem_of_getElem? (i := 12) rfl))) rfl hK hP hD hS C.2.2.2.2.2.2.2.2.1 (fun cA => rfl) (nI_pos (by omega)) (nI_clamp (by omega)) (by show N * 1 ≤ _; omega) h1 h2 hd (fun q cA H1 hK1 hP1 hD1 hS1 => ?_)
  have e1 : s.vm.findClass ("[" ++ (FieldType.boolean).toString) = some cA := (hK1.2 3 (cA, .boolean) rfl).2
  have e2 : s.vm.findClass ("[" ++ (FieldType.boolean).toString) = some g.2.1 := (hK.2 1 (g.2.1, .boolean) rfl).2
  have e3 : cA = g.2.1 := Option.some.inj (e1.symm.trans e2)
  subst e3
  exact h q p l e s m args below meth c D ad A H1 locs ls C hP1 hD1 hS1 hl
theorem en_newS {g : rf_G} {y : rf_Me} {pc : Nat} {L : List (Option Value)} {st : List Value} {ws : va_W} {k n : Nat} {Po : va_W → Prop} {N idx : Nat} (hd : decode y.2.1 pc = .ok (.anewarray idx, 3)) (hw : Cond.classLink y.1.cls idx RX5 ∈ wsL_law) (hN : N < 100000) (h1 : k + 1 ≤ y.2.2.2.2.cells) (h2 : n + N ≤ y.2.2.2.2.slots) (h : ∀ q, EvN g y (pc + 3) L (.ref q :: st) (ws ++ [(q, .inl (g.2.2, N, .inr (.inr (.inr (.inr (fun _ => none))))))]) (k + 1) (n + N) Po) : EvN g y pc L (.int (nI N) :: st) ws k n Po := by
  intro p l e s m args below meth c D ad A H locs ls C hP hD hS hl
  have hts := C.2.2.2.2.2.2.1
  have hK := C.2.2.2.2.2.2.2.1
  refine va_newq (N' := N) C.1 C.2.1 C.2.2.2.2.2.1 (hts _ hw) C.2.2.2.2.2.2.2.2.2.2.2.2 hK hP hD hS C.2.2.2.2.2.2.2.2.1 (nI_pos (by omega)) (nI_clamp (by omega)) (by omega) h1 h2 hd (fun q cA H1 hK1 hP1 hD1 hS1 => ?_)
  obtain ⟨-, -, -, -, -, e1⟩ := (hK1.2 3 (cA, .object RX5) rfl).2
  obtain ⟨-, -, -, -, -, e2⟩ := (hK.2 2 (g.2.2, .object RX5) rfl).2
  have e3 : cA = g.2.2 := Option.some.inj (e1.symm.trans e2)
  subst e3
  exact h q p l e s m args below meth c D ad A H1 locs ls C hP1 hD1 hS1 hl
def rn_pf (own : String) (idx ci j : Nat) (fin : Bool) (ty : FieldType) : Prop := ∃ (Cn : String) (T : u_T) (N : Nat) (tt : Nat → FieldType), vwCl[ci]? = some (Cn, T, N) ∧ j < N ∧ Cond.fieldLink own idx (T j).1 (T j).2.1 (T j).2.2.1 ∈ wsL_law ∧ (∀ w ∈ u_ws Cn T N, w ∈ wsL_law) ∧ (∀ k, k < N → parseFieldDescriptor (T k).2.2.1 = some (tt k)) ∧ (∀ a, a < N → ∀ b, b < N → a ≠ b → (T a).2.1 ≠ (T b).2.1) ∧ (T j).2.2.2 = fin ∧ tt j = ty ∧ (T j).1 = own
theorem en_putI {g : rf_G} {y : rf_Me} {pc : Nat} {L : List (Option Value)} {st : List Value} {ws : va_W} {k n : Nat} {Po : va_W → Prop} {idx ci j q i0 : Nat} {ty : FieldType} {v : Value} {fs : List Value} {ws' : va_W} (hd : decode y.2.1 pc = .ok (.putfield idx, 3)) (hf : rn_pf y.1.cls idx ci j false ty) (he : ws[i0]? = some (q, .inr (ci, fs))) (hl0 : j < fs.length) (hn : narrow ty v = v) (hfit : fits ty v = true) (hw : ws.set i0 (q, .inr (ci, fs.set j v)) = ws') (h : EvN g y (pc + 3) L st ws' k n Po) : EvN g y pc L (v :: .ref q :: st) ws k n Po := by
  intro p l e s m args below meth c D ad A H locs ls C hP hD hS hl
  obtain ⟨Cn, T, N, tt, c1, c2, c3, c4, c5, c6, c7, c8, c9⟩ := hf
  have hts := C.2.2.2.2.2.2.1
  subst hw
  exact va_put (D := D) (ci := ci) (v := v) (ty := ty) C.1 C.2.1 hts c4 tt c5 c6 C.2.2.2.2.2.1 C.2.2.2.2.2.2.2.1 hP hD hS i0 he c1 j c2 (hts _ c3) (fun _ z => z) c7 (by rw [c5 j c2, c8]) hn hfit hl0 hd (fun H1 locs1 hP1 hD1 hS1 => h p l e s m args below meth c D ad A H1 locs1 ls C hP1 hD1 hS1 hl)
theorem en_putF {g : rf_G} {y : rf_Me} {pc : Nat} {L : List (Option Value)} {st : List Value} {ws : va_W} {k n : Nat} {Po : va_W → Prop} {idx ci j q i0 : Nat} {ty : FieldType} {v : Value} {fs : List Value} {ws' : va_W} (hd : decode y.2.1 pc = .ok (.putfield idx, 3)) (hf : rn_pf y.1.cls idx ci j true ty) (he : ws[i0]? = some (q, .inr (ci, fs))) (hl0 : j < fs.length) (hn : narrow ty v = v) (hfit : fits ty v = true) (hw : ws.set i0 (q, .inr (ci, fs.set j v)) = ws') (h : EvN g y (pc + 3) L st ws' k n Po) : EvN g y pc L (v :: .ref q :: st) ws k n Po := by
  intro p l e s m args below meth c D ad A H locs ls C hP hD hS hl
  obtain ⟨Cn, T, N, tt, c1, c2, c3, c4, c5, c6, c7, c8, c9⟩ := hf
  have hts := C.2.2.2.2.2.2.1
  subst hw
  exact va_putF (D := D) (ci := ci) (v := v) (ty := ty) C.1 C.2.1 hts c4 tt c5 c6 C.2.2.2.2.2.1 C.2.2.2.2.2.2.2.1 hP hD hS i0 he c1 j c2 (hts _ c3) (fun _ z => z) c7 C.2.2.2.2.2.2.2.2.2.2.1 c9 (by rw [c5 j c2, c8]) hn hfit hl0 hd (fun H1 locs1 hP1 hD1 hS1 => h p l e s m args below meth c D ad A H1 locs1 ls C hP1 hD1 hS1 hl)
theorem en_get {g : rf_G} {y : rf_Me} {pc : Nat} {L : List (Option Value)} {st : List Value} {ws : va_W} {k n : Nat} {Po : va_W → Prop} {idx ci j q i0 : Nat} {v : Value} {fs : List Value} (hd : decode y.2.1 pc = .ok (.getfield idx, 3)) (hf : rf_fl y.1.cls idx ci j) (he : ws[i0]? = some (q, .inr (ci, fs))) (hv : fs[j]? = some v) (h : EvN g y (pc + 3) L (v :: st) ws k n Po) : EvN g y pc L (.ref q :: st) ws k n Po := by
  intro p l e s m args below meth c D ad A H locs ls C hP hD hS hl
  obtain ⟨C1, T, N, h1, h2, h3, h4⟩ := hf
  have hts := C.2.2.2.2.2.2.1
  exact va_get (D := D) (ci := ci) (fs := fs) C.1 C.2.1 hts h4 C.2.2.2.2.2.1 C.2.2.2.2.2.2.2.1 hP i0 he h1 j h2 (hts _ h3) (fun _ z => z) hv hd (h p l e s m args below meth c D ad A H locs ls C hP hD hS hl)
theorem en_ast {g : rf_G} {y : rf_Me} {pc : Nat} {L : List (Option Value)} {st : List Value} {ws : va_W} {k n : Nat} {Po : va_W → Prop} {N i q v i0 iv : Nat} {vs : List Value} {f : Nat → Option Nat} {ws' : va_W} (hd : decode y.2.1 pc = .ok (.aastore, 1)) (he : ws[i0]? = some (q, .inl (g.2.2, N, .inr (.inr (.inr (.inr f)))))) (hv : ws[iv]? = some (v, .inr (5, vs))) (hi : i < N) (hN : N < 100000) (hw : ws.set i0 (q, .inl (g.2.2, N, .inr (.inr (.inr (.inr (va_up f i (some v))))))) = ws') (h : EvN g y (pc + 1) L st ws' k n Po) : EvN g y pc L (.ref v :: .int (nI i) :: .ref q :: st) ws k n Po := by
  intro p l e s m args below meth c D ad A H locs ls C hP hD hS hl
  subst hw
  refine va_astq C.1 C.2.1 C.2.2.2.2.2.2.2.1 hP hD hS i0 2 iv 5 he (r := (RX5, TX5, 12)) rfl hv rfl (vp_in_nI hi (by omega)) hd (fun H1 locs1 hP1 hD1 hS1 => ?_)
  rw [nI_clamp (by omega)] at hP1 hD1
  exact h p l e s m args below meth c D ad A H1 locs1 ls C hP1 hD1 hS1 hl
theorem en_istore {g : rf_G} {y : rf_Me} {pc : Nat} {L : List (Option Value)} {st : List Value} {ws : va_W} {k n : Nat} {Po : va_W → Prop} {j : Nat} {x : Int32} (jf : Fin 4) (hd : decode y.2.1 pc = .ok (.istore_n jf, 1)) (hj : jf.val = j) (hn : j < y.2.2.1) (ho : rf_okset L j = true) (h : EvN g y (pc + 1) (L.set j (some (.int x))) st ws k n Po) : EvN g y pc L (.int x :: st) ws k n Po := by
  intro p l e s m args below meth c D ad A H locs ls C hP hD hS hl
  subst hj
  exact lv_istore_n C.1 C.2.1 hd rfl hl hn rfl (fun ls' hl' => h p l e s m args below meth c D ad A H locs ls' C hP hD hS (rf_lv_set (ad := fun q => q) (v := .int x) hl' ho))
theorem en_iinc {g : rf_G} {y : rf_Me} {pc : Nat} {L : List (Option Value)} {st : List Value} {ws : va_W} {k n : Nat} {Po : va_W → Prop} {i : Nat} {z : Int} {x v : Int32} (hd : decode y.2.1 pc = .ok (.iinc i z, 3)) (hL : L[i]? = some (some (.int x))) (hv : Int32.ofInt z = v) (hn : i < y.2.2.1) (ho : rf_okset L i = true) (h : EvN g y (pc + 3) (L.set i (some (.int (x + v)))) st ws k n Po) : EvN g y pc L st ws k n Po := by
  intro p l e s m args below meth c D ad A H locs ls C hP hD hS hl
  have h3 := rf_lv_in (fun q => q) L 0 i _ hL
  rw [Nat.zero_add] at h3
  obtain ⟨kk, hk⟩ := List.getElem?_of_mem h3
  exact lv_iinc C.1 C.2.1 hd hl hk (by rw [hv]) hn rfl (fun ls' hl' => h p l e s m args below meth c D ad A H locs ls' C hP hD hS (rf_lv_set (ad := fun q => q) (v := .int (x + v)) hl' ho))
/-- a constructor's call: the callee's world wc at isC, the rest wr at isR -/
theorem rn_start {y : rf_Me} {p : Program} {s : State} {m : MethodId} {args : Array Value} {meth : Method} {c : Code} {D : va_G} {g : rf_G} {ad : Nat → Nat} {A : Nat → Prop} {H : Heap} {locs : List Loc} {wc : va_W} (C : rn_cx y p s m args meth c D g ad A) (hP : va_P D vwCl wc H) (hD : va_D A wc) (hS : va_S A s.heap H locs) (hA : ∀ q, va_A wc H.size q → A q) (av : List Value) : ∀ U : State, U.heap = H → s.WarmedH U.vm → rn_Pre D g ad wc H.size av av.toArray U := by
  intro U hU hW
  refine ⟨rfl, by rw [hU], by rw [hU]; exact hP, va_K.moved hW.alike C.2.2.2.2.2.2.2.1, hD.weaken (fun _ _ _ _ => trivial), ?_, C.2.2.2.2.2.2.2.2.2.2.2.warm hW⟩
  rw [hU]
  exact (((C.2.2.2.2.2.2.2.2.2.1).kept hS.2.1).narrow hA).warm hW
theorem rn_blind {D : va_G} {g : rf_G} {ad : Nat → Nat} {ws : va_W} {sz : Nat} {av : List Value} : FrameBlind (rn_Pre D g ad ws sz av) := fun a U f mk q => by
  obtain ⟨q0, q1, qP, qK, qD, qX, qY⟩ := q
  exact ⟨q0, q1, qP, va_K.moved (u := U) (U := U.calling f mk a) (Vm.Alike.refl U.vm) qK, qD, rf_X.same (u := U) (U := U.calling f mk a) rfl qX, rn_Y.same (u := U) (U := U.calling f mk a) rfl qY⟩
def rn_ce (y : rf_Me) (n : Nat) : Prop := plainName y.1.cls = true ∧ Cond.code y.1 y.2.1 y.2.2.1 none ∈ wsL_law ∧ Cond.initialized y.1.cls ∈ wsL_law ∧ (y.1.cls ≠ "java/lang/invoke/MethodHandle" ∧ y.1.cls ≠ "java/lang/invoke/VarHandle" ∧ (parseMethodDescriptor y.1.desc).map (fun d => d.parameters.length) = some n) ∧ y.1.name = "<init>" ∧ Cond.instanceMethod y.1 ∈ wsL_law ∧ y.2.2.2.1 = none
theorem en_call {g : rf_G} {y : rf_Me} {pc : Nat} {L : List (Option Value)} {st : List Value} {ws : va_W} {k n : Nat} {Po : va_W → Prop} {y' : rf_Me} {idx nn q : Nat} {stk : List Value} {wc wr : va_W} {Po' : va_W → Prop} (av : List Value) (isC isR : List Nat) (hd : decode y.2.1 pc = .ok (.invokespecial idx, 3)) (hs : stk = av.reverse ++ .ref q :: st) (hc : rn_ce y' nn) (hw : (∃ host, (y.1.cls, idx, y'.1, host) ∈ rn_N) ∨ Cond.methodLink y.1.cls idx y'.1 ∈ wsL_law) (hrm : rf_rm y y') (hav : av.length = nn) (hst : (st.map fun v => v.category).sum ≤ 8) (hent : (rf_sl (.ref q :: av)).length ≤ y'.2.2.1)
    (hC : isC.map (fun i => ws[i]?) = wc.map some) (hR : isR.map (fun i => ws[i]?) = wr.map some) (hndC : va_nd isC = true) (hndR : va_nd isR = true) (hdis : ∀ i ∈ isR, i ∉ isC) (hk : k + y'.2.2.2.2.cells ≤ y.2.2.2.2.cells) (hn : n + y'.2.2.2.2.slots ≤ y.2.2.2.2.slots)
    (hb : EvN g y' 0 (rf_ent y'.2.2.1 (.ref q :: av)) [] wc 0 0 Po') (h : ∀ w1, Po' w1 → EvN g y (pc + 3) L st (wr ++ w1) (k + y'.2.2.2.2.cells) (n + y'.2.2.2.2.slots) Po) : EvN g y pc L stk ws k n Po := by
  intro p l e s m args below meth c D ad A H locs ls C hP hD hS hl
  obtain ⟨g1, g2, g3, g4, g5, g6, g7⟩ := hc
  have hts := C.2.2.2.2.2.2.1
  have hPc := hP.sub isC (fm_of hC)
  have hDc := hD.sub isC hndC hC
  have hFc := va_free (wc := wc) hD hS C.2.2.2.2.2.2.2.2.1 isC hC
  have hM := rn_met g1 g7 g5 hent hb l D ad H.size
  have hst0 := rn_start C hPc hDc hS hFc (.ref q :: av)
  have g2' : Cond.code y'.1 y'.2.1 y'.2.2.1 y'.2.2.2.1 ∈ wsL_law := by rw [g7]; exact g2
  have run : va_Run p l e y.2.2.2.2 s m args below meth c H locs k n y'.2.2.2.2.cells y'.2.2.2.2.slots (F0 m pc ls stk) st (va_Qv Po' (rn_B D (va_A wc H.size)) (va_A wc H.size) (Value.ref q :: av).toArray) (va_A wc H.size) := by
    rcases hw with ⟨host, hN⟩ | hw
    · exact va_runIN (As := av) (rest := st) ⟨C.1, C.2.1, C.2.2.2.2.1, C.2.2.2.2.2.1, hts⟩ hM ⟨by have := va_cnB (R := y.2.2.2.2) (args := args) (ret := y'.2.2.2.1) nn hts (rf_good g2') rfl rfl rfl (C.2.2.2.2.2.2.2.2.2.2.2.1 _ hN) (hts _ g3) g4 hrm; rw [g7] at this; exact this, g5, hts _ g6⟩ ⟨rn_blind, hst0⟩ rfl hav hl.1 hs (lv_room hst) hd ⟨hk, hn⟩
    · exact va_runI (As := av) (rest := st) ⟨C.1, C.2.1, C.2.2.2.2.1, C.2.2.2.2.2.1, hts⟩ hM ⟨by have := callB_of (R := y.2.2.2.2) (args := args) (ret := y'.2.2.2.1) nn hts (rf_good g2') rfl rfl rfl (hts _ g3) (hts _ hw) g4 hrm; rw [g7] at this; exact this, g5, hts _ g6⟩ ⟨rn_blind, hst0⟩ rfl hav hl.1 hs (lv_room hst) hd ⟨hk, hn⟩
  refine va_callv run hS (fun q _ z => hFc q z) hFc (fun w1 t H1 locs1 ht hvm hw1 hB hz1 hk1 hS1 => ?_)
  obtain ⟨hP1, hD1⟩ := hB
  rw [ht] at hP1
  obtain ⟨hP2, hD2⟩ := va_join (wr := wr) (w1 := w1) hP hD isC isR hC hR hndR hdis hk1 hFc hP1 hD1
  exact h w1 hw1 p l e s m args below meth c D ad A H1 locs1 ls C hP2 hD2 hS1 hl
set_option maxRecDepth 20000 in
set_option maxHeartbeats 2000000 in
theorem e_fillL {Lay : List rf_Cell} {a N : Nat} {C : rf_Mem} {v : Int32} (ha : Lay[a]? = some (.inr (.inl (N, 0)))) (hN : N < 2 ^ 31) : Ev Lay mJ7_fill_53178 0 (rf_ent 4 [.ref a, .int v]) [] C none (fillM C a v N) := by
  have key := ev_for (Lay := Lay) (y := mJ7_fill_53178) (pc := 5) (r := none) (M' := fillM C a v N) N (fun i => [some (.ref a), some (.int v), some (.int (nI i)), some (.int (nI N))]) (fun i => fillM C a v i) ?hx ?hs
  case hx =>
    refine ev_iload_n dJ7_fill_53178_5 rfl ?_
    refine ev_iload_n dJ7_fill_53178_6 rfl ?_
    refine ev_icmp_ge 20 dJ7_fill_53178_7 (by decide) (fun hc7 => ?_) (fun hc7 => False.elim (lp_x rfl hN hc7))
    exact ev_vretE dJ7_fill_53178_20 rfl rfl (rfl)
  case hs =>
    intro i hi ih
    refine ev_iload_n dJ7_fill_53178_5 rfl ?_
    refine ev_iload_n dJ7_fill_53178_6 rfl ?_
    refine ev_icmp_ge 20 dJ7_fill_53178_7 (by decide) (fun hc7 => False.elim (lp_s rfl hN hi hc7)) (fun hc7 => ?_)
    refine ev_aload_n dJ7_fill_53178_10 rfl ?_
    refine ev_iload_n dJ7_fill_53178_11 rfl ?_
    refine ev_iload_n dJ7_fill_53178_12 rfl ?_
    refine ev_iastE (i) dJ7_fill_53178_13 (rfl) (by first | assumption | rfl) ⟨hi, hN⟩ ?_
    refine ev_iinc (v := (nI 1)) dJ7_fill_53178_14 rfl (by decide) (by decide) rfl ?_
    refine ev_goto 5 dJ7_fill_53178_17 (by decide) ?_
    exact ev_st ih (by simp [nI_add]) rfl (fillM_s C a v i)
  refine ev_iconst (v := (nI 0)) dJ7_fill_53178_0 (by decide) ?_
  refine ev_istore_k 2 dJ7_fill_53178_1 rfl (by decide) rfl ?_
  refine ev_aload_n dJ7_fill_53178_2 rfl ?_
  refine ev_alen (v := (nI N)) dJ7_fill_53178_3 (by first | assumption | rfl) rfl ?_
  refine ev_istore_k 3 dJ7_fill_53178_4 rfl (by decide) rfl ?_
  exact ev_st (key 0 (Nat.zero_le _)) rfl rfl (fillM_0 C a v).symm
/-- behind a call, with what is made -/
theorem rf_callW2 {p : Program} {l : Launch} {e : Env} {R : Room} {s : State} {m : MethodId} {args : Array Value} {below : List Frame} {meth : Method} {c : Code} {H : Heap} {locs : List Loc} {cells slots : Nat} {Q : State → Prop} {pc : Nat} {ls : Array Slot} {st0 rest : List Value} {a : Array Value} {D : va_G} {g : rf_G} {ad : Nat → Nat} {A A1 : Nat → Prop} {Lay : List rf_Cell} {r1 : Option Value} {M1 : rf_Mem}
    (hr : va_Run p l e R s m args below meth c H locs cells slots 0 0 (F0 m pc ls st0) rest (rf_Q D g ad A1 Lay r1 M1 a) A1) (hS : va_S A s.heap H locs) (hA : ∀ q, A1 q → A q)
    (kk : ∀ (H1 : Heap) (locs1 : List Loc), va_P D vwCl (rf_W g ad M1 0 Lay) H1 → (∀ q : Nat, q < H.size → ¬ A1 q → H1[q]? = H[q]?) → va_S A s.heap H1 locs1 → W p l e R s m args below meth c H1 locs1 cells slots Q (F0 m (pc + 3) ls ((r1.map (rf_cv ad)).toList ++ rest))) : W p l e R s m args below meth c H locs cells slots Q (F0 m pc ls st0) := by
  intro T hT X
  obtain ⟨v, st₀, t, T', L, h0, X', hL, e1, e2, ⟨⟨hv, hp⟩, hz, hk⟩, st⟩ := hr T hT X
  cases hv
  rw [h0] at hz hk
  obtain ⟨t2, a1, b1⟩ := kk T'.heap (locs ++ L) (by rw [e1]; exact hp) (fun q h1 h2 => by rw [e1]; exact hk q h1 h2)
    ⟨Nat.le_trans hS.1 (by rw [e1]; exact hz), fun q h1 h2 => by rw [e1, hk q (Nat.lt_of_lt_of_le h1 hS.1) (fun z => h2 (hA q z))]; exact hS.2.1 q h1 h2, fun q hq => by
      rcases List.mem_append.mp hq with h | h
      · exact hS.2.2 q h
      · exact hA _ (hL q h)⟩ T' rfl X'
  exact ⟨t2, st t2 a1, b1⟩
theorem rf_X.ad {ad ad' : Nat → Nat} {A : Nat → Prop} {U : State} {H : Heap} (ha : ∀ i, 1000 ≤ i → ad' i = ad i) (h : rf_X ad A U H) : rf_X ad' A U H := by
  have e1 : (fun j => ad' (1000 + j)) = fun j => ad (1000 + j) := funext fun j => ha _ (by omega)
  have e2 : (fun j => ad' (2000 + j)) = fun j => ad (2000 + j) := funext fun j => ha _ (by omega)
  unfold rf_X
  rw [e1, e2, ha 3000 (by decide)]
  exact ⟨h.1, fun j q hq => by rw [ha (1000 + j) (by omega)]; exact h.2.1 j q hq, h.2.2⟩
theorem en_fill {g : rf_G} {y : rf_Me} {pc : Nat} {L : List (Option Value)} {st : List Value} {ws : va_W} {k n : Nat} {Po : va_W → Prop} {q N i0 : Nat} {f : Nat → Int32} {v : Int32} {idx : Nat} {wr : va_W} (isR : List Nat) (hd : decode y.2.1 pc = .ok (.invokestatic idx, 3)) (hw : Cond.methodLink y.1.cls idx yJ7_fill_53178 ∈ wsL_law) (hrm : rf_rm y mJ7_fill_53178) (hst : (st.map fun v => v.category).sum ≤ 8) (hN : N < 2 ^ 31) (hk0 : k ≤ y.2.2.2.2.cells) (hn0 : n ≤ y.2.2.2.2.slots)
    (hC : ws[i0]? = some (q, .inl (g.1, N, .inl f))) (hR : isR.map (fun i => ws[i]?) = wr.map some) (hndR : va_nd isR = true) (hdis : ∀ i ∈ isR, i ∉ [i0])
    (h : EvN g y (pc + 3) L st (wr ++ [(q, .inl (g.1, N, .inl (fun j => if j < N then v else f j)))]) k n Po) : EvN g y pc L (.int v :: .ref q :: st) ws k n Po := by
  intro p l e s m args below meth c D ad A H locs ls C hP hD hS hl
  have hts := C.2.2.2.2.2.2.1
  have hb := e_fillL (Lay := [.inr (.inl (N, 0))]) (a := 0) (N := N) (C := fun _ => f) (v := v) rfl hN
  have hW0 : rf_W g (fun i => if i < 1000 then q else ad i) (fun _ => f) 0 [.inr (.inl (N, 0))] = [(q, .inl (g.1, N, .inl f))] := rfl
  have hCm : [i0].map (fun i => ws[i]?) = (rf_W g (fun i => if i < 1000 then q else ad i) (fun _ => f) 0 [.inr (.inl (N, 0))]).map some := by rw [hW0]; simp [hC]
  have hPc := hP.sub [i0] (fm_of hCm)
  have hDc := hD.sub [i0] rfl hCm
  have hFc := va_free hD hS C.2.2.2.2.2.2.2.2.1 [i0] hCm
  obtain ⟨⟨g1, g2, g3, g4, g5, g6⟩, g7⟩ := ceJ7_fill_53178
  have hM := rf_met (y := mJ7_fill_53178) (av := [.ref 0, .int v]) g1 (Nat.le_of_ble_eq_true rfl) hb l D g (fun i => if i < 1000 then q else ad i) H.size
  have cw : CallB y.2.2.2.2 s args y.1.cls idx mJ7_fill_53178.1 mJ7_fill_53178.2.1 mJ7_fill_53178.2.2.1 mJ7_fill_53178.2.2.2.1 (rf_ws mJ7_fill_53178) mJ7_fill_53178.2.2.2.2 0 0 2 ∧ (Cond.static mJ7_fill_53178.1).before args s = true := ⟨callB_of 2 hts (rf_good g2) rfl g5 g6 (hts _ g3) (hts _ hw) g4 hrm, hts _ g7⟩
  have hst0 : ∀ U : State, U.heap = H → s.WarmedH U.vm → rf_Pre D g (fun i => if i < 1000 then q else ad i) [.inr (.inl (N, 0))] (fun _ => f) H.size [.ref 0, .int v] [Value.ref q, Value.int v].toArray U := by
    intro U hU hW
    refine ⟨rfl, by rw [hU], by rw [hU]; exact hPc, va_K.moved hW.alike C.2.2.2.2.2.2.2.1, hDc.weaken (fun _ _ _ _ => trivial), ?_⟩
    rw [hU]
    exact (((((C.2.2.2.2.2.2.2.2.2.1).kept hS.2.1).narrow hFc).warm hW)).ad (fun i hi => if_neg (by omega))
  refine rf_callW2 (va_runS (As := [.ref q, .int v]) (rest := st) ⟨C.1, C.2.1, C.2.2.2.2.1, C.2.2.2.2.2.1, hts⟩ hM cw ⟨rf_blind, hst0⟩ rfl rfl hl.1 rfl (lv_room hst) hd ⟨hk0, hn0⟩) hS hFc (fun H1 locs1 hP1 hk1 hS1 => ?_)
  have hP1' : va_P D vwCl [(q, .inl (g.1, N, .inl (fun j => if j < N then v else f j)))] H1 := hP1
  have hD9 : va_D (fun _ => True) (rf_W g (fun i => if i < 1000 then q else ad i) (fun _ => f) 0 [.inr (.inl (N, 0))]) := hDc.weaken (fun _ _ _ _ => trivial)
  have hD1' : va_D (va_A (rf_W g (fun i => if i < 1000 then q else ad i) (fun _ => f) 0 [.inr (.inl (N, 0))]) H.size) [(q, .inl (g.1, N, .inl (fun j => if j < N then v else f j)))] := rf_D (M := fun _ => f) (M' := fillM (fun _ => f) 0 v N) (Lay := [.inr (.inl (N, 0))]) (ad := fun i => if i < 1000 then q else ad i) hD9.self
  obtain ⟨hP2, hD2⟩ := va_join (wr := wr) hP hD [i0] isR hCm hR hndR hdis hk1 hFc hP1' hD1'
  exact h p l e s m args below meth c D ad A H1 locs1 ls C hP2 hD2 hS1 hl
