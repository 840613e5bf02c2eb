/-! a method: name, bytes, locals, answer's type, room -/
abbrev rf_Me : Type := MethodName × ByteArray × Nat × Option FieldType × Room
def rf_ws (y : rf_Me) : List Cond := Cond.code y.1 y.2.1 y.2.2.1 y.2.2.2.1 :: wsL_law
def rf_len : List Nat := [4, 6, 6, 5, 7, 5, 7, 5]
def rf_byt : List (List Int32) := [[108, 105, 110, 101], [114, 101, 97, 100, 101, 114], [115, 105, 108, 101, 110, 116], [97, 108, 111, 117, 100], [99, 111, 112, 121, 105, 115, 116], [116, 104, 105, 101, 102], [116, 101, 97, 99, 104, 101, 114], [101, 114, 114, 111, 114]]
def rf_sx : List (Nat × String) := [(44, "line"), (54, "reader"), (98, "silent"), (100, "aloud"), (102, "copyist"), (104, "thief"), (106, "teacher"), (59, "error")]
/-- what is carried beside the world: the nest's one link, the texts of the parser, the JDK's one static -/
def rf_X (ad : Nat → Nat) (A : Nat → Prop) (U : State) (H : Heap) : Prop :=
  va_Nw (.methodLinkNest RX3 26 yX6_has RX6) U ∧ (∀ (j : Nat) (q : Nat × String), rf_sx[j]? = some q → vk_R RX4 q.1 q.2 (ad (1000 + j)) U) ∧ vk_S 8 rf_len rf_byt (fun j => ad (1000 + j)) (fun j => ad (2000 + j)) A U H ∧ va_Z "java/lang/String" "COMPACT_STRINGS" "Z" (.int 1) A U H ∧ (va_Z "jdk/internal/util/Preconditions" "SIOOBE_FORMATTER" "Ljava/util/function/BiFunction;" .null A U H ∨ va_Z "jdk/internal/util/Preconditions" "SIOOBE_FORMATTER" "Ljava/util/function/BiFunction;" (.ref (ad 3000)) A U H)
theorem rf_X.warm {ad : Nat → Nat} {A : Nat → Prop} {s U : State} {H : Heap} (hW : s.WarmedH U.vm) (h : rf_X ad A s H) : rf_X ad A U H :=
  ⟨va_Nw.warmM hW h.1, fun j q hq => (h.2.1 j q hq).warm hW, h.2.2.1.moved hW.alike, h.2.2.2.1.moved hW.alike, h.2.2.2.2.imp (fun z => z.moved hW.alike) (fun z => z.moved hW.alike)⟩
theorem rf_X.kept {ad : Nat → Nat} {A : Nat → Prop} {U : State} {H H1 : Heap} (h : rf_X ad A U H) (hq : ∀ a : Nat, a < H.size → ¬ A a → H1[a]? = H[a]?) : rf_X ad A U H1 :=
  ⟨h.1, h.2.1, h.2.2.1.kept hq, h.2.2.2.1.kept hq, h.2.2.2.2.imp (fun z => z.kept hq) (fun z => z.kept hq)⟩
theorem rf_X.narrow {ad : Nat → Nat} {A B : Nat → Prop} {U : State} {H : Heap} (h : rf_X ad A U H) (hAB : ∀ q, B q → A q) : rf_X ad B U H :=
  ⟨h.1, h.2.1, h.2.2.1.narrow hAB, h.2.2.2.1.narrow hAB, h.2.2.2.2.imp (fun z => z.narrow hAB) (fun z => z.narrow hAB)⟩
theorem rf_X.same {ad : Nat → Nat} {A : Nat → Prop} {u U : State} {H : Heap} (hv : U.vm = u.vm) (h : rf_X ad A u H) : rf_X ad A U H :=
  ⟨va_Nw.same rfl hv.symm h.1, fun j q hq => (h.2.1 j q hq).same hv, h.2.2.1.moved (hv ▸ Vm.Alike.refl _), h.2.2.2.1.moved (hv ▸ Vm.Alike.refl _), h.2.2.2.2.imp (fun z => z.moved (hv ▸ Vm.Alike.refl _)) (fun z => z.moved (hv ▸ Vm.Alike.refl _))⟩
/-- where a method stands -/
def rf_cx (y : rf_Me) (p : Program) (s : State) (m : MethodId) (args : Array Value) (meth : Method) (c : Code) (D : va_G) (g : rf_G) (ad : Nat → Nat) (A : Nat → Prop) : Prop :=
  p.tables.exec = Jvm.exec ∧ c.code = y.2.1 ∧ meth.sig.returnType = y.2.2.2.1 ∧ meth.locks = false ∧ c.maxLocals = y.2.2.1 ∧ s.vm.findClass y.1.cls = some m.cls ∧ (∀ w ∈ wsL_law, w.before args s = true) ∧ va_K D vwCl (rf_tys g) s ∧ (∀ q, s.heap.size ≤ q → A q) ∧ rf_X ad A s s.heap
def rf_Q (D : va_G) (g : rf_G) (ad : Nat → Nat) (A : Nat → Prop) (Lay : List rf_Cell) (r : Option Value) (M' : rf_Mem) : Array Value → State → Outcome → State → Prop := fun _ st oc t =>
  (oc = .returned (r.map (rf_cv ad)) ∧ va_P D vwCl (rf_W g ad M' 0 Lay) t.heap) ∧ va_F A st t
/-- from this place of the method, with these locals, this stack and this memory, it comes to its end with the answer r and the memory M' -/
def Ev (Lay : List rf_Cell) (y : rf_Me) (pc : Nat) (L : List (Option Value)) (st : List Value) (M : rf_Mem) (r : Option Value) (M' : rf_Mem) : Prop :=
  ∀ (p : Program) (l : Launch) (e : Env) (s : State) (m : MethodId) (args : Array Value) (below : List Frame) (meth : Method) (c : Code) (D : va_G) (g : rf_G) (ad : Nat → Nat) (A : Nat → Prop) (H : Heap) (locs : List Loc) (ls : Array Slot),
    rf_cx y p s m args meth c D g ad A → va_P D vwCl (rf_W g ad M 0 Lay) H → va_D A (rf_W g ad M 0 Lay) → va_S A s.heap H locs → lv_has ls y.2.2.1 (rf_lv ad 0 L) →
    W p l e y.2.2.2.2 s m args below meth c H locs 0 0 (MQ below (rf_Q D g ad A Lay r M') args s 0 0 A) (F0 m pc ls (st.map (rf_cv ad)))
def rf_Pre (D : va_G) (g : rf_G) (ad : Nat → Nat) (Lay : List rf_Cell) (M : rf_Mem) (sz : Nat) (av : List Value) : Array Value → State → Prop := va_Pc (av.map (rf_cv ad)) (fun U => U.heap.size = sz ∧ va_P D vwCl (rf_W g ad M 0 Lay) U.heap ∧ va_K D vwCl (rf_tys g) U ∧ va_D (fun _ => True) (rf_W g ad M 0 Lay) ∧ rf_X ad (va_A (rf_W g ad M 0 Lay) sz) U U.heap)
/-- the contract of a method out of its walk -/
theorem rf_met {Lay : List rf_Cell} {y : rf_Me} {av : List Value} {M : rf_Mem} {r : Option Value} {M' : rf_Mem} (hpl : plainName y.1.cls = true) (hent : (rf_sl av).length ≤ y.2.2.1) (h : Ev Lay y 0 (rf_ent y.2.2.1 av) [] M r M') (l : Launch) (D : va_G) (g : rf_G) (ad : Nat → Nat) (sz : Nat) :
    Met l y.1 (rf_ws y) y.2.2.2.2 (rf_Pre D g ad Lay M sz av) (rf_Q D g ad (va_A (rf_W g ad M 0 Lay) sz) Lay r M') 0 0 (va_A (rf_W g ad M 0 Lay) sz) := by
  refine Met.ofW (cc := y.2.1) (maxL := y.2.2.1) (ret := y.2.2.2.1) hpl rfl ?_
  intro p e s m args below meth c s₁ B hml hv
  obtain ⟨rfl, hsz, hP, hK, hD0, hX⟩ := hv
  subst hsz
  have hl := lv_entry (av.map (rf_cv ad)) (n := y.2.2.1) (by rw [rf_sl_len]; exact hent)
  rw [lg_entry_eq]
  rw [← rf_lv_args ad (y.2.2.1 - (rf_sl av).length) av 0] at hl
  exact h p l e s m _ below meth c D g ad _ s.heap [] _ ⟨B.exec, B.bytes, B.returns, B.notSynchronized, hml, findClass_of_methodNamed B.named, fun w hw => (atoms_spec (ws := rf_ws y) B.pre) w (List.mem_cons_of_mem _ hw), hK, fun q h => Or.inr h, hX⟩ hP hD0.self va_S.rf hl

theorem ev_iconst {Lay : List rf_Cell} {y : rf_Me} {pc : Nat} {L : List (Option Value)} {st : List Value} {M : rf_Mem} {r : Option Value} {M' : rf_Mem} {n : Int} {v : Int32} (hd : decode y.2.1 pc = .ok (.iconst n, 1)) (hv : Int32.ofInt n = v) (h : Ev Lay y (pc + 1) L (.int v :: st) M r M') : Ev Lay y pc L (st) M r M' := by
  intro p l e s m args below meth c D g ad A H locs ls C hP hD hS hl
  exact lv_iconst C.1 C.2.1 hd hv (h p l e s m args below meth c D g ad A H locs ls C hP hD hS hl)
theorem ev_bipush {Lay : List rf_Cell} {y : rf_Me} {pc : Nat} {L : List (Option Value)} {st : List Value} {M : rf_Mem} {r : Option Value} {M' : rf_Mem} {n : Int} {v : Int32} (hd : decode y.2.1 pc = .ok (.bipush n, 2)) (hv : (Int8.ofInt n).toInt32 = v) (h : Ev Lay y (pc + 2) L (.int v :: st) M r M') : Ev Lay y pc L (st) M r M' := by
  intro p l e s m args below meth c D g ad A H locs ls C hP hD hS hl
  exact lv_bipush C.1 C.2.1 hd hv (h p l e s m args below meth c D g ad A H locs ls C hP hD hS hl)
theorem ev_sipush {Lay : List rf_Cell} {y : rf_Me} {pc : Nat} {L : List (Option Value)} {st : List Value} {M : rf_Mem} {r : Option Value} {M' : rf_Mem} {n : Int} {v : Int32} (hd : decode y.2.1 pc = .ok (.sipush n, 3)) (hv : (Int16.ofInt n).toInt32 = v) (h : Ev Lay y (pc + 3) L (.int v :: st) M r M') : Ev Lay y pc L (st) M r M' := by
  intro p l e s m args below meth c D g ad A H locs ls C hP hD hS hl
  exact lv_sipush C.1 C.2.1 hd hv (h p l e s m args below meth c D g ad A H locs ls C hP hD hS hl)
theorem ev_lconst {Lay : List rf_Cell} {y : rf_Me} {pc : Nat} {L : List (Option Value)} {st : List Value} {M : rf_Mem} {r : Option Value} {M' : rf_Mem} {n : Fin 2} {v : Int64} (hd : decode y.2.1 pc = .ok (.lconst n, 1)) (hv : Int64.ofNat (n : Nat) = v) (h : Ev Lay y (pc + 1) L (.long v :: st) M r M') : Ev Lay y pc L (st) M r M' := by
  intro p l e s m args below meth c D g ad A H locs ls C hP hD hS hl
  exact lv_lconst C.1 C.2.1 hd hv (h p l e s m args below meth c D g ad A H locs ls C hP hD hS hl)
theorem ev_iload {Lay : List rf_Cell} {y : rf_Me} {pc : Nat} {L : List (Option Value)} {st : List Value} {M : rf_Mem} {r : Option Value} {M' : rf_Mem} {i : Nat} {x : Int32} (hd : decode y.2.1 pc = .ok (.iload i, 2)) (hL : L[i]? = some (some (.int x))) (h : Ev Lay y (pc + 2) L (.int x :: st) M r M') : Ev Lay y pc L (st) M r M' := by
  intro p l e s m args below meth c D g ad A H locs ls C hP hD hS hl
  have hi : ls[i]? = some (.val (.int x)) := by
    have h3 := rf_lv_in ad L 0 i _ hL
    rw [Nat.zero_add] at h3
    exact hl.2.2 _ h3
  exact lv_iload C.1 C.2.1 hd hi (h p l e s m args below meth c D g ad A H locs ls C hP hD hS hl)
theorem ev_iload_n {Lay : List rf_Cell} {y : rf_Me} {pc : Nat} {L : List (Option Value)} {st : List Value} {M : rf_Mem} {r : Option Value} {M' : rf_Mem} {k : Fin 4} {x : Int32} (hd : decode y.2.1 pc = .ok (.iload_n k, 1)) (hL : L[k.val]? = some (some (.int x))) (h : Ev Lay y (pc + 1) L (.int x :: st) M r M') : Ev Lay y pc L st M r M' := by
  intro p l e s m args below meth c D g ad A H locs ls C hP hD hS hl
  have hi : ls[k.val]? = some (.val (.int x)) := by
    have h3 := rf_lv_in ad L 0 k.val _ hL
    rw [Nat.zero_add] at h3
    exact hl.2.2 _ h3
  exact lv_iload_n C.1 C.2.1 hd rfl hi (h p l e s m args below meth c D g ad A H locs ls C hP hD hS hl)
theorem ev_lload {Lay : List rf_Cell} {y : rf_Me} {pc : Nat} {L : List (Option Value)} {st : List Value} {M : rf_Mem} {r : Option Value} {M' : rf_Mem} {i : Nat} {x : Int64} (hd : decode y.2.1 pc = .ok (.lload i, 2)) (hL : L[i]? = some (some (.long x))) (h : Ev Lay y (pc + 2) L (.long x :: st) M r M') : Ev Lay y pc L (st) M r M' := by
  intro p l e s m args below meth c D g ad A H locs ls C hP hD hS hl
  have hi : ls[i]? = some (.val (.long x)) := by
    have h3 := rf_lv_in ad L 0 i _ hL
    rw [Nat.zero_add] at h3
    exact hl.2.2 _ h3
  exact lv_lload C.1 C.2.1 hd hi (h p l e s m args below meth c D g ad A H locs ls C hP hD hS hl)
theorem ev_lload_n {Lay : List rf_Cell} {y : rf_Me} {pc : Nat} {L : List (Option Value)} {st : List Value} {M : rf_Mem} {r : Option Value} {M' : rf_Mem} {k : Fin 4} {x : Int64} (hd : decode y.2.1 pc = .ok (.lload_n k, 1)) (hL : L[k.val]? = some (some (.long x))) (h : Ev Lay y (pc + 1) L (.long x :: st) M r M') : Ev Lay y pc L st M r M' := by
  intro p l e s m args below meth c D g ad A H locs ls C hP hD hS hl
  have hi : ls[k.val]? = some (.val (.long x)) := by
    have h3 := rf_lv_in ad L 0 k.val _ hL
    rw [Nat.zero_add] at h3
    exact hl.2.2 _ h3
  exact lv_lload_n C.1 C.2.1 hd rfl hi (h p l e s m args below meth c D g ad A H locs ls C hP hD hS hl)
theorem ev_aload {Lay : List rf_Cell} {y : rf_Me} {pc : Nat} {L : List (Option Value)} {st : List Value} {M : rf_Mem} {r : Option Value} {M' : rf_Mem} {i : Nat} {x : Nat} (hd : decode y.2.1 pc = .ok (.aload i, 2)) (hL : L[i]? = some (some (.ref x))) (h : Ev Lay y (pc + 2) L (.ref x :: st) M r M') : Ev Lay y pc L (st) M r M' := by
  intro p l e s m args below meth c D g ad A H locs ls C hP hD hS hl
  have hi : ls[i]? = some (.val (.ref (ad x))) := by
    have h3 := rf_lv_in ad L 0 i _ hL
    rw [Nat.zero_add] at h3
    exact hl.2.2 _ h3
  exact lv_aload C.1 C.2.1 hd hi (h p l e s m args below meth c D g ad A H locs ls C hP hD hS hl)
theorem ev_aload_n {Lay : List rf_Cell} {y : rf_Me} {pc : Nat} {L : List (Option Value)} {st : List Value} {M : rf_Mem} {r : Option Value} {M' : rf_Mem} {k : Fin 4} {x : Nat} (hd : decode y.2.1 pc = .ok (.aload_n k, 1)) (hL : L[k.val]? = some (some (.ref x))) (h : Ev Lay y (pc + 1) L (.ref x :: st) M r M') : Ev Lay y pc L st M r M' := by
  intro p l e s m args below meth c D g ad A H locs ls C hP hD hS hl
  have hi : ls[k.val]? = some (.val (.ref (ad x))) := by
    have h3 := rf_lv_in ad L 0 k.val _ hL
    rw [Nat.zero_add] at h3
    exact hl.2.2 _ h3
  exact lv_aload_n C.1 C.2.1 hd rfl hi (h p l e s m args below meth c D g ad A H locs ls C hP hD hS hl)
theorem ev_iadd {Lay : List rf_Cell} {y : rf_Me} {pc : Nat} {L : List (Option Value)} {st : List Value} {M : rf_Mem} {r : Option Value} {M' : rf_Mem} {x z : Int32} (hd : decode y.2.1 pc = .ok (.iadd, 1)) (h : Ev Lay y (pc + 1) L (.int (x + z) :: st) M r M') : Ev Lay y pc L (.int z :: .int x :: st) M r M' := by
  intro p l e s m args below meth c D g ad A H locs ls C hP hD hS hl
  exact lv_iadd C.1 C.2.1 hd  (h p l e s m args below meth c D g ad A H locs ls C hP hD hS hl)
theorem ev_isub {Lay : List rf_Cell} {y : rf_Me} {pc : Nat} {L : List (Option Value)} {st : List Value} {M : rf_Mem} {r : Option Value} {M' : rf_Mem} {x z : Int32} (hd : decode y.2.1 pc = .ok (.isub, 1)) (h : Ev Lay y (pc + 1) L (.int (x - z) :: st) M r M') : Ev Lay y pc L (.int z :: .int x :: st) M r M' := by
  intro p l e s m args below meth c D g ad A H locs ls C hP hD hS hl
  exact lv_isub C.1 C.2.1 hd  (h p l e s m args below meth c D g ad A H locs ls C hP hD hS hl)
theorem ev_imul {Lay : List rf_Cell} {y : rf_Me} {pc : Nat} {L : List (Option Value)} {st : List Value} {M : rf_Mem} {r : Option Value} {M' : rf_Mem} {x z : Int32} (hd : decode y.2.1 pc = .ok (.imul, 1)) (h : Ev Lay y (pc + 1) L (.int (x * z) :: st) M r M') : Ev Lay y pc L (.int z :: .int x :: st) M r M' := by
  intro p l e s m args below meth c D g ad A H locs ls C hP hD hS hl
  exact lv_imul C.1 C.2.1 hd  (h p l e s m args below meth c D g ad A H locs ls C hP hD hS hl)
theorem ev_iand {Lay : List rf_Cell} {y : rf_Me} {pc : Nat} {L : List (Option Value)} {st : List Value} {M : rf_Mem} {r : Option Value} {M' : rf_Mem} {x z : Int32} (hd : decode y.2.1 pc = .ok (.iand, 1)) (h : Ev Lay y (pc + 1) L (.int (x &&& z) :: st) M r M') : Ev Lay y pc L (.int z :: .int x :: st) M r M' := by
  intro p l e s m args below meth c D g ad A H locs ls C hP hD hS hl
  exact lv_iand C.1 C.2.1 hd  (h p l e s m args below meth c D g ad A H locs ls C hP hD hS hl)
theorem ev_ior {Lay : List rf_Cell} {y : rf_Me} {pc : Nat} {L : List (Option Value)} {st : List Value} {M : rf_Mem} {r : Option Value} {M' : rf_Mem} {x z : Int32} (hd : decode y.2.1 pc = .ok (.ior, 1)) (h : Ev Lay y (pc + 1) L (.int (x ||| z) :: st) M r M') : Ev Lay y pc L (.int z :: .int x :: st) M r M' := by
  intro p l e s m args below meth c D g ad A H locs ls C hP hD hS hl
  exact lv_ior C.1 C.2.1 hd  (h p l e s m args below meth c D g ad A H locs ls C hP hD hS hl)
theorem ev_ixor {Lay : List rf_Cell} {y : rf_Me} {pc : Nat} {L : List (Option Value)} {st : List Value} {M : rf_Mem} {r : Option Value} {M' : rf_Mem} {x z : Int32} (hd : decode y.2.1 pc = .ok (.ixor, 1)) (h : Ev Lay y (pc + 1) L (.int (x ^^^ z) :: st) M r M') : Ev Lay y pc L (.int z :: .int x :: st) M r M' := by
  intro p l e s m args below meth c D g ad A H locs ls C hP hD hS hl
  exact lv_ixor C.1 C.2.1 hd  (h p l e s m args below meth c D g ad A H locs ls C hP hD hS hl)
theorem ev_idiv {Lay : List rf_Cell} {y : rf_Me} {pc : Nat} {L : List (Option Value)} {st : List Value} {M : rf_Mem} {r : Option Value} {M' : rf_Mem} {x z : Int32} (hd : decode y.2.1 pc = .ok (.idiv, 1)) (hne : ¬ z = 0) (h : Ev Lay y (pc + 1) L (.int (x / z) :: st) M r M') : Ev Lay y pc L (.int z :: .int x :: st) M r M' := by
  intro p l e s m args below meth c D g ad A H locs ls C hP hD hS hl
  exact lv_idiv C.1 C.2.1 hd hne (h p l e s m args below meth c D g ad A H locs ls C hP hD hS hl)
theorem ev_irem {Lay : List rf_Cell} {y : rf_Me} {pc : Nat} {L : List (Option Value)} {st : List Value} {M : rf_Mem} {r : Option Value} {M' : rf_Mem} {x z : Int32} (hd : decode y.2.1 pc = .ok (.irem, 1)) (hne : ¬ z = 0) (h : Ev Lay y (pc + 1) L (.int (x - x / z * z) :: st) M r M') : Ev Lay y pc L (.int z :: .int x :: st) M r M' := by
  intro p l e s m args below meth c D g ad A H locs ls C hP hD hS hl
  exact lv_irem C.1 C.2.1 hd hne (h p l e s m args below meth c D g ad A H locs ls C hP hD hS hl)
theorem ev_ishl {Lay : List rf_Cell} {y : rf_Me} {pc : Nat} {L : List (Option Value)} {st : List Value} {M : rf_Mem} {r : Option Value} {M' : rf_Mem} {x z : Int32} (hd : decode y.2.1 pc = .ok (.ishl, 1)) (h : Ev Lay y (pc + 1) L (.int (x <<< (z &&& 31)) :: st) M r M') : Ev Lay y pc L (.int z :: .int x :: st) M r M' := by
  intro p l e s m args below meth c D g ad A H locs ls C hP hD hS hl
  exact lv_ishl C.1 C.2.1 hd  (h p l e s m args below meth c D g ad A H locs ls C hP hD hS hl)
theorem ev_ishr {Lay : List rf_Cell} {y : rf_Me} {pc : Nat} {L : List (Option Value)} {st : List Value} {M : rf_Mem} {r : Option Value} {M' : rf_Mem} {x z : Int32} (hd : decode y.2.1 pc = .ok (.ishr, 1)) (h : Ev Lay y (pc + 1) L (.int (x >>> (z &&& 31)) :: st) M r M') : Ev Lay y pc L (.int z :: .int x :: st) M r M' := by
  intro p l e s m args below meth c D g ad A H locs ls C hP hD hS hl
  exact lv_ishr C.1 C.2.1 hd  (h p l e s m args below meth c D g ad A H locs ls C hP hD hS hl)
theorem ev_iushr {Lay : List rf_Cell} {y : rf_Me} {pc : Nat} {L : List (Option Value)} {st : List Value} {M : rf_Mem} {r : Option Value} {M' : rf_Mem} {x z : Int32} (hd : decode y.2.1 pc = .ok (.iushr, 1)) (h : Ev Lay y (pc + 1) L (.int (x.toUInt32 >>> (z.toUInt32 &&& Int32.toUInt32 31)).toInt32 :: st) M r M') : Ev Lay y pc L (.int z :: .int x :: st) M r M' := by
  intro p l e s m args below meth c D g ad A H locs ls C hP hD hS hl
  exact lv_iushr C.1 C.2.1 hd rfl (h p l e s m args below meth c D g ad A H locs ls C hP hD hS hl)
theorem ev_i2l {Lay : List rf_Cell} {y : rf_Me} {pc : Nat} {L : List (Option Value)} {st : List Value} {M : rf_Mem} {r : Option Value} {M' : rf_Mem} {x : Int32} (hd : decode y.2.1 pc = .ok (.i2l, 1)) (h : Ev Lay y (pc + 1) L (.long x.toInt64 :: st) M r M') : Ev Lay y pc L (.int x :: st) M r M' := by
  intro p l e s m args below meth c D g ad A H locs ls C hP hD hS hl
  exact lv_i2l C.1 C.2.1 hd rfl (h p l e s m args below meth c D g ad A H locs ls C hP hD hS hl)
theorem ev_l2i {Lay : List rf_Cell} {y : rf_Me} {pc : Nat} {L : List (Option Value)} {st : List Value} {M : rf_Mem} {r : Option Value} {M' : rf_Mem} {x : Int64} (hd : decode y.2.1 pc = .ok (.l2i, 1)) (h : Ev Lay y (pc + 1) L (.int x.toInt32 :: st) M r M') : Ev Lay y pc L (.long x :: st) M r M' := by
  intro p l e s m args below meth c D g ad A H locs ls C hP hD hS hl
  exact lv_l2i C.1 C.2.1 hd rfl (h p l e s m args below meth c D g ad A H locs ls C hP hD hS hl)
theorem ev_ladd {Lay : List rf_Cell} {y : rf_Me} {pc : Nat} {L : List (Option Value)} {st : List Value} {M : rf_Mem} {r : Option Value} {M' : rf_Mem} {x z : Int64} (hd : decode y.2.1 pc = .ok (.ladd, 1)) (h : Ev Lay y (pc + 1) L (.long (x + z) :: st) M r M') : Ev Lay y pc L (.long z :: .long x :: st) M r M' := by
  intro p l e s m args below meth c D g ad A H locs ls C hP hD hS hl
  exact lv_ladd C.1 C.2.1 hd  (h p l e s m args below meth c D g ad A H locs ls C hP hD hS hl)
theorem ev_lmul {Lay : List rf_Cell} {y : rf_Me} {pc : Nat} {L : List (Option Value)} {st : List Value} {M : rf_Mem} {r : Option Value} {M' : rf_Mem} {x z : Int64} (hd : decode y.2.1 pc = .ok (.lmul, 1)) (h : Ev Lay y (pc + 1) L (.long (x * z) :: st) M r M') : Ev Lay y pc L (.long z :: .long x :: st) M r M' := by
  intro p l e s m args below meth c D g ad A H locs ls C hP hD hS hl
  exact lv_lmul C.1 C.2.1 hd  (h p l e s m args below meth c D g ad A H locs ls C hP hD hS hl)
theorem ev_land {Lay : List rf_Cell} {y : rf_Me} {pc : Nat} {L : List (Option Value)} {st : List Value} {M : rf_Mem} {r : Option Value} {M' : rf_Mem} {x z : Int64} (hd : decode y.2.1 pc = .ok (.land, 1)) (h : Ev Lay y (pc + 1) L (.long (x &&& z) :: st) M r M') : Ev Lay y pc L (.long z :: .long x :: st) M r M' := by
  intro p l e s m args below meth c D g ad A H locs ls C hP hD hS hl
  exact lv_land C.1 C.2.1 hd  (h p l e s m args below meth c D g ad A H locs ls C hP hD hS hl)
theorem ev_lrem {Lay : List rf_Cell} {y : rf_Me} {pc : Nat} {L : List (Option Value)} {st : List Value} {M : rf_Mem} {r : Option Value} {M' : rf_Mem} {x z : Int64} (hd : decode y.2.1 pc = .ok (.lrem, 1)) (hne : ¬ z = 0) (h : Ev Lay y (pc + 1) L (.long (x - x / z * z) :: st) M r M') : Ev Lay y pc L (.long z :: .long x :: st) M r M' := by
  intro p l e s m args below meth c D g ad A H locs ls C hP hD hS hl
  exact lv_lrem C.1 C.2.1 hd hne (h p l e s m args below meth c D g ad A H locs ls C hP hD hS hl)
theorem ev_lushr {Lay : List rf_Cell} {y : rf_Me} {pc : Nat} {L : List (Option Value)} {st : List Value} {M : rf_Mem} {r : Option Value} {M' : rf_Mem} {x : Int64} {z : Int32} (hd : decode y.2.1 pc = .ok (.lushr, 1)) (h : Ev Lay y (pc + 1) L (.long (x.toUInt64 >>> (z.toInt64.toUInt64 &&& Int64.toUInt64 63)).toInt64 :: st) M r M') : Ev Lay y pc L (.int z :: .long x :: st) M r M' := by
  intro p l e s m args below meth c D g ad A H locs ls C hP hD hS hl
  exact lv_lushr C.1 C.2.1 hd rfl (h p l e s m args below meth c D g ad A H locs ls C hP hD hS hl)
theorem ev_lshr {Lay : List rf_Cell} {y : rf_Me} {pc : Nat} {L : List (Option Value)} {st : List Value} {M : rf_Mem} {r : Option Value} {M' : rf_Mem} {x : Int64} {z : Int32} (hd : decode y.2.1 pc = .ok (.lshr, 1)) (h : Ev Lay y (pc + 1) L (.long (x >>> (z.toInt64 &&& 63)) :: st) M r M') : Ev Lay y pc L (.int z :: .long x :: st) M r M' := by
  intro p l e s m args below meth c D g ad A H locs ls C hP hD hS hl
  exact lv_lshr C.1 C.2.1 hd rfl (h p l e s m args below meth c D g ad A H locs ls C hP hD hS hl)
theorem ev_lcmp {Lay : List rf_Cell} {y : rf_Me} {pc : Nat} {L : List (Option Value)} {st : List Value} {M : rf_Mem} {r : Option Value} {M' : rf_Mem} {x z : Int64} (hd : decode y.2.1 pc = .ok (.lcmp, 1)) (h : Ev Lay y (pc + 1) L (.int (lg_cmp x z) :: st) M r M') : Ev Lay y pc L (.long z :: .long x :: st) M r M' := by
  intro p l e s m args below meth c D g ad A H locs ls C hP hD hS hl
  exact W.lcmp C.1 C.2.1 hd  (h p l e s m args below meth c D g ad A H locs ls C hP hD hS hl)
theorem ev_dup {Lay : List rf_Cell} {y : rf_Me} {pc : Nat} {L : List (Option Value)} {st : List Value} {M : rf_Mem} {r : Option Value} {M' : rf_Mem} {v : Value} (hd : decode y.2.1 pc = .ok (.dup, 1)) (hv : v.category = 1) (h : Ev Lay y (pc + 1) L (v :: v :: st) M r M') : Ev Lay y pc L (v :: st) M r M' := by
  intro p l e s m args below meth c D g ad A H locs ls C hP hD hS hl
  exact lv_dup C.1 C.2.1 hd ((rf_cv_cat ad v).trans hv) (h p l e s m args below meth c D g ad A H locs ls C hP hD hS hl)
theorem ev_pop {Lay : List rf_Cell} {y : rf_Me} {pc : Nat} {L : List (Option Value)} {st : List Value} {M : rf_Mem} {r : Option Value} {M' : rf_Mem} {v : Value} (hd : decode y.2.1 pc = .ok (.pop, 1)) (hv : v.category = 1) (h : Ev Lay y (pc + 1) L (st) M r M') : Ev Lay y pc L (v :: st) M r M' := by
  intro p l e s m args below meth c D g ad A H locs ls C hP hD hS hl
  exact lv_pop C.1 C.2.1 hd ((rf_cv_cat ad v).trans hv) (h p l e s m args below meth c D g ad A H locs ls C hP hD hS hl)
theorem ev_dup2 {Lay : List rf_Cell} {y : rf_Me} {pc : Nat} {L : List (Option Value)} {st : List Value} {M : rf_Mem} {r : Option Value} {M' : rf_Mem} {v u : Value} (hd : decode y.2.1 pc = .ok (.dup2, 1)) (hv : v.category = 1) (hu : u.category = 1) (h : Ev Lay y (pc + 1) L (v :: u :: v :: u :: st) M r M') : Ev Lay y pc L (v :: u :: st) M r M' := by
  intro p l e s m args below meth c D g ad A H locs ls C hP hD hS hl
  exact lv_dup2_11 C.1 C.2.1 hd ((rf_cv_cat ad v).trans hv) ((rf_cv_cat ad u).trans hu) (h p l e s m args below meth c D g ad A H locs ls C hP hD hS hl)
theorem ev_ldc {Lay : List rf_Cell} {y : rf_Me} {pc : Nat} {L : List (Option Value)} {st : List Value} {M : rf_Mem} {r : Option Value} {M' : rf_Mem} {idx : Nat} {v : Int32} (hd : decode y.2.1 pc = .ok (.ldc idx, 2)) (hw : Cond.constant y.1.cls idx v ∈ wsL_law) (h : Ev Lay y (pc + 2) L (.int v :: st) M r M') : Ev Lay y pc L st M r M' := by
  intro p l e s m args below meth c D g ad A H locs ls C hP hD hS hl
  exact lv_ldc C.1 C.2.1 C.2.2.2.2.2.1 (C.2.2.2.2.2.2.1 _ hw) hd (h p l e s m args below meth c D g ad A H locs ls C hP hD hS hl)
theorem ev_ldcw {Lay : List rf_Cell} {y : rf_Me} {pc : Nat} {L : List (Option Value)} {st : List Value} {M : rf_Mem} {r : Option Value} {M' : rf_Mem} {idx : Nat} {v : Int32} (hd : decode y.2.1 pc = .ok (.ldc_w idx, 3)) (hw : Cond.constant y.1.cls idx v ∈ wsL_law) (h : Ev Lay y (pc + 3) L (.int v :: st) M r M') : Ev Lay y pc L st M r M' := by
  intro p l e s m args below meth c D g ad A H locs ls C hP hD hS hl
  exact lv_ldcw C.1 C.2.1 C.2.2.2.2.2.1 (C.2.2.2.2.2.2.1 _ hw) hd (h p l e s m args below meth c D g ad A H locs ls C hP hD hS hl)
theorem ev_ldc2 {Lay : List rf_Cell} {y : rf_Me} {pc : Nat} {L : List (Option Value)} {st : List Value} {M : rf_Mem} {r : Option Value} {M' : rf_Mem} {idx : Nat} {v : Int64} (hd : decode y.2.1 pc = .ok (.ldc2_w idx, 3)) (hw : Cond.constantLong y.1.cls idx v ∈ wsL_law) (h : Ev Lay y (pc + 3) L (.long v :: st) M r M') : Ev Lay y pc L st M r M' := by
  intro p l e s m args below meth c D g ad A H locs ls C hP hD hS hl
  exact lv_ldc2 C.1 C.2.1 C.2.2.2.2.2.1 (C.2.2.2.2.2.2.1 _ hw) hd (h p l e s m args below meth c D g ad A H locs ls C hP hD hS hl)
theorem ev_ldcS {Lay : List rf_Cell} {y : rf_Me} {pc : Nat} {L : List (Option Value)} {st : List Value} {M : rf_Mem} {r : Option Value} {M' : rf_Mem} {idx j : Nat} {tx : String} (hd : decode y.2.1 pc = .ok (.ldc idx, 2)) (hy : y.1.cls = RX4) (hj : rf_sx[j]? = some (idx, tx)) (h : Ev Lay y (pc + 2) L (.ref (1000 + j) :: st) M r M') : Ev Lay y pc L st M r M' := by
  intro p l e s m args below meth c D g ad A H locs ls C hP hD hS hl
  exact va_ldcS C.1 C.2.1 (own := RX4) (hy ▸ C.2.2.2.2.2.1) (C.2.2.2.2.2.2.2.2.2.2.1 j _ hj) hd (h p l e s m args below meth c D g ad A H locs ls C hP hD hS hl)
theorem ev_istore {Lay : List rf_Cell} {y : rf_Me} {pc : Nat} {L : List (Option Value)} {st : List Value} {M : rf_Mem} {r : Option Value} {M' : rf_Mem} {i : Nat} {x : Int32} (hd : decode y.2.1 pc = .ok (.istore i, 2)) (hn : i < y.2.2.1) (ho : rf_okset L i = true) (h : Ev Lay y (pc + 2) (L.set i (some (.int x))) st M r M') : Ev Lay y pc L (.int x :: st) M r M' := by
  intro p l e s m args below meth c D g ad A H locs ls C hP hD hS hl
  exact lv_istore C.1 C.2.1 hd hl hn rfl (fun ls' hl' => (h p l e s m args below meth c D g ad A H locs ls' C hP hD hS (rf_lv_set hl' ho)))
theorem ev_istore_n {Lay : List rf_Cell} {y : rf_Me} {pc : Nat} {L : List (Option Value)} {st : List Value} {M : rf_Mem} {r : Option Value} {M' : rf_Mem} {k : Fin 4} {x : Int32} (hd : decode y.2.1 pc = .ok (.istore_n k, 1)) (hn : k.val < y.2.2.1) (ho : rf_okset L k.val = true) (h : Ev Lay y (pc + 1) (L.set k.val (some (.int x))) st M r M') : Ev Lay y pc L (.int x :: st) M r M' := by
  intro p l e s m args below meth c D g ad A H locs ls C hP hD hS hl
  exact lv_istore_n C.1 C.2.1 hd rfl hl hn rfl (fun ls' hl' => (h p l e s m args below meth c D g ad A H locs ls' C hP hD hS (rf_lv_set hl' ho)))
theorem ev_astore {Lay : List rf_Cell} {y : rf_Me} {pc : Nat} {L : List (Option Value)} {st : List Value} {M : rf_Mem} {r : Option Value} {M' : rf_Mem} {i : Nat} {x : Nat} (hd : decode y.2.1 pc = .ok (.astore i, 2)) (hn : i < y.2.2.1) (ho : rf_okset L i = true) (h : Ev Lay y (pc + 2) (L.set i (some (.ref x))) st M r M') : Ev Lay y pc L (.ref x :: st) M r M' := by
  intro p l e s m args below meth c D g ad A H locs ls C hP hD hS hl
  exact lv_astore C.1 C.2.1 hd hl hn rfl (fun ls' hl' => (h p l e s m args below meth c D g ad A H locs ls' C hP hD hS (rf_lv_set hl' ho)))
theorem ev_astore_n {Lay : List rf_Cell} {y : rf_Me} {pc : Nat} {L : List (Option Value)} {st : List Value} {M : rf_Mem} {r : Option Value} {M' : rf_Mem} {k : Fin 4} {x : Nat} (hd : decode y.2.1 pc = .ok (.astore_n k, 1)) (hn : k.val < y.2.2.1) (ho : rf_okset L k.val = true) (h : Ev Lay y (pc + 1) (L.set k.val (some (.ref x))) st M r M') : Ev Lay y pc L (.ref x :: st) M r M' := by
  intro p l e s m args below meth c D g ad A H locs ls C hP hD hS hl
  exact lv_astore_n C.1 C.2.1 hd rfl hl hn rfl (fun ls' hl' => (h p l e s m args below meth c D g ad A H locs ls' C hP hD hS (rf_lv_set hl' ho)))
theorem ev_iinc {Lay : List rf_Cell} {y : rf_Me} {pc : Nat} {L : List (Option Value)} {st : List Value} {M : rf_Mem} {r : Option Value} {M' : rf_Mem} {i : Nat} {n : Int} {x v : Int32} (hd : decode y.2.1 pc = .ok (.iinc i n, 3)) (hL : L[i]? = some (some (.int x))) (hv : Int32.ofInt n = v) (hn : i < y.2.2.1) (ho : rf_okset L i = true) (h : Ev Lay y (pc + 3) (L.set i (some (.int (x + v)))) st M r M') : Ev Lay y pc L st M r M' := by
  intro p l e s m args below meth c D g ad A H locs ls C hP hD hS hl
  have h3 := rf_lv_in ad L 0 i _ hL
  rw [Nat.zero_add] at h3
  obtain ⟨k, hk⟩ := List.getElem?_of_mem h3
  exact lv_iinc C.1 C.2.1 hd hl hk (by rw [hv]) hn rfl (fun ls' hl' => (h p l e s m args below meth c D g ad A H locs ls' C hP hD hS (rf_lv_set (v := .int (x + v)) hl' ho)))
theorem ev_if_eq {Lay : List rf_Cell} {y : rf_Me} {pc : Nat} {L : List (Option Value)} {st : List Value} {M : rf_Mem} {r : Option Value} {M' : rf_Mem} {x : Int32} {off : Int} (tgt : Nat) (hd : decode y.2.1 pc = .ok (.ifCond .eq off, 3)) (ht : (pc : Int) + off = (tgt : Int)) (h : x = 0 → Ev Lay y tgt L st M r M') (h2 : ¬ x = 0 → Ev Lay y (pc + 3) L st M r M') : Ev Lay y pc L (.int x :: st) M r M' := by
  intro p l e s m args below meth c D g ad A H locs ls C hP hD hS hl
  exact lv_if_eq C.1 C.2.1 hd ht (fun z9 => (h z9 p l e s m args below meth c D g ad A H locs ls C hP hD hS hl)) (fun z9 => (h2 z9 p l e s m args below meth c D g ad A H locs ls C hP hD hS hl))
theorem ev_icmp_eq {Lay : List rf_Cell} {y : rf_Me} {pc : Nat} {L : List (Option Value)} {st : List Value} {M : rf_Mem} {r : Option Value} {M' : rf_Mem} {x z : Int32} {off : Int} (tgt : Nat) (hd : decode y.2.1 pc = .ok (.if_icmp .eq off, 3)) (ht : (pc : Int) + off = (tgt : Int)) (h : x = z → Ev Lay y tgt L st M r M') (h2 : ¬ x = z → Ev Lay y (pc + 3) L st M r M') : Ev Lay y pc L (.int z :: .int x :: st) M r M' := by
  intro p l e s m args below meth c D g ad A H locs ls C hP hD hS hl
  exact lv_icmp_eq C.1 C.2.1 hd ht (fun z9 => (h z9 p l e s m args below meth c D g ad A H locs ls C hP hD hS hl)) (fun z9 => (h2 z9 p l e s m args below meth c D g ad A H locs ls C hP hD hS hl))
theorem ev_if_ne {Lay : List rf_Cell} {y : rf_Me} {pc : Nat} {L : List (Option Value)} {st : List Value} {M : rf_Mem} {r : Option Value} {M' : rf_Mem} {x : Int32} {off : Int} (tgt : Nat) (hd : decode y.2.1 pc = .ok (.ifCond .ne off, 3)) (ht : (pc : Int) + off = (tgt : Int)) (h : ¬ x = 0 → Ev Lay y tgt L st M r M') (h2 : x = 0 → Ev Lay y (pc + 3) L st M r M') : Ev Lay y pc L (.int x :: st) M r M' := by
  intro p l e s m args below meth c D g ad A H locs ls C hP hD hS hl
  exact lv_if_ne C.1 C.2.1 hd ht (fun z9 => (h z9 p l e s m args below meth c D g ad A H locs ls C hP hD hS hl)) (fun z9 => (h2 z9 p l e s m args below meth c D g ad A H locs ls C hP hD hS hl))
theorem ev_icmp_ne {Lay : List rf_Cell} {y : rf_Me} {pc : Nat} {L : List (Option Value)} {st : List Value} {M : rf_Mem} {r : Option Value} {M' : rf_Mem} {x z : Int32} {off : Int} (tgt : Nat) (hd : decode y.2.1 pc = .ok (.if_icmp .ne off, 3)) (ht : (pc : Int) + off = (tgt : Int)) (h : ¬ x = z → Ev Lay y tgt L st M r M') (h2 : x = z → Ev Lay y (pc + 3) L st M r M') : Ev Lay y pc L (.int z :: .int x :: st) M r M' := by
  intro p l e s m args below meth c D g ad A H locs ls C hP hD hS hl
  exact lv_icmp_ne C.1 C.2.1 hd ht (fun z9 => (h z9 p l e s m args below meth c D g ad A H locs ls C hP hD hS hl)) (fun z9 => (h2 z9 p l e s m args below meth c D g ad A H locs ls C hP hD hS hl))
theorem ev_if_lt {Lay : List rf_Cell} {y : rf_Me} {pc : Nat} {L : List (Option Value)} {st : List Value} {M : rf_Mem} {r : Option Value} {M' : rf_Mem} {x : Int32} {off : Int} (tgt : Nat) (hd : decode y.2.1 pc = .ok (.ifCond .lt off, 3)) (ht : (pc : Int) + off = (tgt : Int)) (h : x < 0 → Ev Lay y tgt L st M r M') (h2 : ¬ x < 0 → Ev Lay y (pc + 3) L st M r M') : Ev Lay y pc L (.int x :: st) M r M' := by
  intro p l e s m args below meth c D g ad A H locs ls C hP hD hS hl
  exact lv_if_lt C.1 C.2.1 hd ht (fun z9 => (h z9 p l e s m args below meth c D g ad A H locs ls C hP hD hS hl)) (fun z9 => (h2 z9 p l e s m args below meth c D g ad A H locs ls C hP hD hS hl))
theorem ev_icmp_lt {Lay : List rf_Cell} {y : rf_Me} {pc : Nat} {L : List (Option Value)} {st : List Value} {M : rf_Mem} {r : Option Value} {M' : rf_Mem} {x z : Int32} {off : Int} (tgt : Nat) (hd : decode y.2.1 pc = .ok (.if_icmp .lt off, 3)) (ht : (pc : Int) + off = (tgt : Int)) (h : x < z → Ev Lay y tgt L st M r M') (h2 : ¬ x < z → Ev Lay y (pc + 3) L st M r M') : Ev Lay y pc L (.int z :: .int x :: st) M r M' := by
  intro p l e s m args below meth c D g ad A H locs ls C hP hD hS hl
  exact lv_icmp_lt C.1 C.2.1 hd ht (fun z9 => (h z9 p l e s m args below meth c D g ad A H locs ls C hP hD hS hl)) (fun z9 => (h2 z9 p l e s m args below meth c D g ad A H locs ls C hP hD hS hl))
theorem ev_if_ge {Lay : List rf_Cell} {y : rf_Me} {pc : Nat} {L : List (Option Value)} {st : List Value} {M : rf_Mem} {r : Option Value} {M' : rf_Mem} {x : Int32} {off : Int} (tgt : Nat) (hd : decode y.2.1 pc = .ok (.ifCond .ge off, 3)) (ht : (pc : Int) + off = (tgt : Int)) (h : 0 ≤ x → Ev Lay y tgt L st M r M') (h2 : ¬ 0 ≤ x → Ev Lay y (pc + 3) L st M r M') : Ev Lay y pc L (.int x :: st) M r M' := by
  intro p l e s m args below meth c D g ad A H locs ls C hP hD hS hl
  exact lv_if_ge C.1 C.2.1 hd ht (fun z9 => (h z9 p l e s m args below meth c D g ad A H locs ls C hP hD hS hl)) (fun z9 => (h2 z9 p l e s m args below meth c D g ad A H locs ls C hP hD hS hl))
theorem ev_icmp_ge {Lay : List rf_Cell} {y : rf_Me} {pc : Nat} {L : List (Option Value)} {st : List Value} {M : rf_Mem} {r : Option Value} {M' : rf_Mem} {x z : Int32} {off : Int} (tgt : Nat) (hd : decode y.2.1 pc = .ok (.if_icmp .ge off, 3)) (ht : (pc : Int) + off = (tgt : Int)) (h : z ≤ x → Ev Lay y tgt L st M r M') (h2 : ¬ z ≤ x → Ev Lay y (pc + 3) L st M r M') : Ev Lay y pc L (.int z :: .int x :: st) M r M' := by
  intro p l e s m args below meth c D g ad A H locs ls C hP hD hS hl
  exact lv_icmp_ge C.1 C.2.1 hd ht (fun z9 => (h z9 p l e s m args below meth c D g ad A H locs ls C hP hD hS hl)) (fun z9 => (h2 z9 p l e s m args below meth c D g ad A H locs ls C hP hD hS hl))
theorem ev_if_gt {Lay : List rf_Cell} {y : rf_Me} {pc : Nat} {L : List (Option Value)} {st : List Value} {M : rf_Mem} {r : Option Value} {M' : rf_Mem} {x : Int32} {off : Int} (tgt : Nat) (hd : decode y.2.1 pc = .ok (.ifCond .gt off, 3)) (ht : (pc : Int) + off = (tgt : Int)) (h : 0 < x → Ev Lay y tgt L st M r M') (h2 : ¬ 0 < x → Ev Lay y (pc + 3) L st M r M') : Ev Lay y pc L (.int x :: st) M r M' := by
  intro p l e s m args below meth c D g ad A H locs ls C hP hD hS hl
  exact lv_if_gt C.1 C.2.1 hd ht (fun z9 => (h z9 p l e s m args below meth c D g ad A H locs ls C hP hD hS hl)) (fun z9 => (h2 z9 p l e s m args below meth c D g ad A H locs ls C hP hD hS hl))
theorem ev_icmp_gt {Lay : List rf_Cell} {y : rf_Me} {pc : Nat} {L : List (Option Value)} {st : List Value} {M : rf_Mem} {r : Option Value} {M' : rf_Mem} {x z : Int32} {off : Int} (tgt : Nat) (hd : decode y.2.1 pc = .ok (.if_icmp .gt off, 3)) (ht : (pc : Int) + off = (tgt : Int)) (h : z < x → Ev Lay y tgt L st M r M') (h2 : ¬ z < x → Ev Lay y (pc + 3) L st M r M') : Ev Lay y pc L (.int z :: .int x :: st) M r M' := by
  intro p l e s m args below meth c D g ad A H locs ls C hP hD hS hl
  exact lv_icmp_gt C.1 C.2.1 hd ht (fun z9 => (h z9 p l e s m args below meth c D g ad A H locs ls C hP hD hS hl)) (fun z9 => (h2 z9 p l e s m args below meth c D g ad A H locs ls C hP hD hS hl))
theorem ev_if_le {Lay : List rf_Cell} {y : rf_Me} {pc : Nat} {L : List (Option Value)} {st : List Value} {M : rf_Mem} {r : Option Value} {M' : rf_Mem} {x : Int32} {off : Int} (tgt : Nat) (hd : decode y.2.1 pc = .ok (.ifCond .le off, 3)) (ht : (pc : Int) + off = (tgt : Int)) (h : x ≤ 0 → Ev Lay y tgt L st M r M') (h2 : ¬ x ≤ 0 → Ev Lay y (pc + 3) L st M r M') : Ev Lay y pc L (.int x :: st) M r M' := by
  intro p l e s m args below meth c D g ad A H locs ls C hP hD hS hl
  exact lv_if_le C.1 C.2.1 hd ht (fun z9 => (h z9 p l e s m args below meth c D g ad A H locs ls C hP hD hS hl)) (fun z9 => (h2 z9 p l e s m args below meth c D g ad A H locs ls C hP hD hS hl))
theorem ev_icmp_le {Lay : List rf_Cell} {y : rf_Me} {pc : Nat} {L : List (Option Value)} {st : List Value} {M : rf_Mem} {r : Option Value} {M' : rf_Mem} {x z : Int32} {off : Int} (tgt : Nat) (hd : decode y.2.1 pc = .ok (.if_icmp .le off, 3)) (ht : (pc : Int) + off = (tgt : Int)) (h : x ≤ z → Ev Lay y tgt L st M r M') (h2 : ¬ x ≤ z → Ev Lay y (pc + 3) L st M r M') : Ev Lay y pc L (.int z :: .int x :: st) M r M' := by
  intro p l e s m args below meth c D g ad A H locs ls C hP hD hS hl
  exact lv_icmp_le C.1 C.2.1 hd ht (fun z9 => (h z9 p l e s m args below meth c D g ad A H locs ls C hP hD hS hl)) (fun z9 => (h2 z9 p l e s m args below meth c D g ad A H locs ls C hP hD hS hl))
theorem ev_goto {Lay : List rf_Cell} {y : rf_Me} {pc : Nat} {L : List (Option Value)} {st : List Value} {M : rf_Mem} {r : Option Value} {M' : rf_Mem} {off : Int} (tgt : Nat) (hd : decode y.2.1 pc = .ok (.goto off, 3)) (ht : (pc : Int) + off = (tgt : Int)) (h : Ev Lay y tgt L st M r M') : Ev Lay y pc L st M r M' := by
  intro p l e s m args below meth c D g ad A H locs ls C hP hD hS hl
  exact lv_goto C.1 C.2.1 hd ht (h p l e s m args below meth c D g ad A H locs ls C hP hD hS hl)
