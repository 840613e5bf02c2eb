/-! THE CLAIM OUT OF ONE WALK OF THE LAW'S BODY. Your part is whole_start (and what it stands on); all else here is the same for every law, but numbers. -/
def R_law : String := "DimBooksLaw"
def lw_P (b : Addr) (xs : List Int32) (args : Array Value) (s : State) : Prop := args = #[.ref b] ∧ s.IntsAt b xs ∧ xs.length ≤ 2048 ∧ (Jvm.Cond.and given_1 narrow_1).before args s = true
def lw_Q (_ : Array Value) (s : State) (o : Outcome) (t : State) : Prop := o = .returned (some (.int 1)) ∧ Framed s o t [] 600000 7302250
def lw_Z (below : List Frame) (a : Array Value) (s : State) : State → Prop := fun t => ∃ o, t.status = .running ∧ Ended t below o ∧ lw_Q a s o t
/-- the law's own end, with 1 on the stack, nothing written that was there before, its room as the claim has it -/
theorem lw_ret {p : Program} {l : Launch} {e : Env} {s : State} {m : MethodId} {below : List Frame} {meth : Method} {c : Code} {b : Nat} (hx : p.tables.exec = Jvm.exec) (hb : c.code = code) (hr : meth.sig.returnType = ret) (hlocks : meth.locks = false) {pc : Nat} {H : Heap} {ls : Array Slot} (hdg : decode code pc = .ok (.ireturn, 1)) : W p l e room_1 s m #[Value.ref b] below meth c H [] 600000 7302250 (lw_Z below #[Value.ref b] s) (F0 m pc ls [.int 1]) := by
  intro T hT X
  obtain ⟨fs, hret, hrun, hended, hW, hframe⟩ := X.leave (v := some (.int 1)) (hlocks := hlocks) (fun h => by rw [hr] at h; cases h)
  have hmeth' : T.vm.method? m = some meth := X.method'
  refine ⟨T.setFrames fs, ?_, .returned (some (.int 1)), hrun, hended, rfl, ⟨_, rfl⟩, hW, hframe⟩
  jvm_step X.here [X.here.top, hx, hb, hdg, hmeth', hr, ret, narrow_b1]
  (try refine ⟨rfl, ?_⟩); (try refine ⟨rfl, ?_⟩)
  first | (intro acts; rw [hret _ acts rfl rfl rfl]) | rw [hret _ _ rfl rfl rfl]
  exact Steps.refl _
/-- what holds at the law's entry: the machine, the code, the tables' words (any of lw_tbl by 'hts w (by decide +kernel)'), the script of L ints xs at the cell b, what the Statement gives of the start (any of its parts by flat_of_before) -/
def lw_At (p : Program) (s : State) (m : MethodId) (meth : Method) (c : Code) (b L : Nat) (xs : Nat → Int32) : Prop :=
  p.tables.exec = Jvm.exec ∧ c.code = code ∧ meth.sig.returnType = ret ∧ c.maxLocals = 4 ∧ s.vm.findClass R_law = some m.cls ∧ (∀ w ∈ lw_tbl, w.before #[Value.ref b] s = true) ∧ va_X b L xs s s.heap ∧ b < s.heap.size ∧ meth.locks = false ∧ (Jvm.Cond.and given_1 narrow_1).before #[Value.ref b] s = true
theorem lq_left {α : Type} (X Y : List α) : (List.range X.length).map (fun i => (X ++ Y)[i]?) = X.map some := by
  apply List.ext_getElem?
  intro j
  rw [List.getElem?_map, List.getElem?_map]
  by_cases h : j < X.length
  · rw [List.getElem?_range h, Option.map_some, List.getElem?_append_left h, List.getElem?_eq_getElem h]; rfl
  · rw [List.getElem?_eq_none (by rw [List.length_range]; omega), List.getElem?_eq_none (by omega)]; rfl
theorem lq_right {α : Type} (X Y : List α) : ((List.range Y.length).map (fun i => X.length + i)).map (fun i => (X ++ Y)[i]?) = Y.map some := by
  apply List.ext_getElem?
  intro j
  rw [List.getElem?_map, List.getElem?_map, List.getElem?_map]
  by_cases h : j < Y.length
  · rw [List.getElem?_range h, Option.map_some, Option.map_some, List.getElem?_append_right (by omega), Nat.add_sub_cancel_left, List.getElem?_eq_getElem h]; rfl
  · rw [List.getElem?_eq_none (by rw [List.length_range]; omega), List.getElem?_eq_none (by omega)]; rfl
theorem va_nd_of : ∀ {l : List Nat}, l.Nodup → va_nd l = true
  | [], _ => rfl
  | a :: l, h => by
    obtain ⟨h1, h2⟩ := List.nodup_cons.mp h
    rw [va_nd, va_nd_of h2, decide_eq_true h1]; rfl
theorem lq_nd (n : Nat) : va_nd (List.range n) = true := va_nd_of List.nodup_range
theorem lq_nd2 (a b : Nat) : va_nd ((List.range b).map (fun i => a + i)) = true := va_nd_of (List.pairwise_map.mpr (List.Pairwise.imp (fun h e => h (by omega)) List.nodup_range))
theorem lq_dis (a b : Nat) : ∀ i ∈ (List.range b).map (fun i => a + i), i ∉ List.range a := by
  intro i hi hn
  obtain ⟨j, -, rfl⟩ := List.mem_map.mp hi
  have := List.mem_range.mp hn
  omega
/-! the law's own walk: a judgement -/
def lw_cx (p : Program) (s : State) (m : MethodId) (meth : Method) (c : Code) (b L0 : Nat) (xs : Nat → Int32) (D : va_G) (g : rf_G) (aS : Nat → Nat) : Prop := lw_At p s m meth c b L0 xs ∧ va_K D vwCl (rf_tys g) s ∧ rf_X aS (fun q => s.heap.size ≤ q) s s.heap ∧ rn_Y s
def EvW (b L0 : Nat) (xs : Nat → Int32) (g : rf_G) (aS : Nat → Nat) (pc : Nat) (L : List (Option Value)) (st : List Value) (ws : va_W) (k n : Nat) : Prop :=
  ∀ (p : Program) (l : Launch) (e : Env) (s : State) (m : MethodId) (below : List Frame) (meth : Method) (c : Code) (D : va_G) (H : Heap) (locs : List Loc) (ls : Array Slot),
    lw_cx p s m meth c b L0 xs D g aS → va_P D vwCl ws H → va_D (fun q => s.heap.size ≤ q) ws → va_S (fun q => s.heap.size ≤ q) s.heap H locs → lv_has ls 4 (rf_lv (fun q => q) 0 L) →
    W p l e room_1 s m #[Value.ref b] below meth c H locs k n (lw_Z below #[Value.ref b] s) (F0 m pc ls st)
theorem lq_iconst {b L0 : Nat} {xs : Nat → Int32} {g : rf_G} {aS : Nat → Nat} {pc : Nat} {L : List (Option Value)} {st : List Value} {ws : va_W} {k n : Nat} {z : Int} {v : Int32} (hd : decode code pc = .ok (.iconst z, 1)) (hv : Int32.ofInt z = v) (h : EvW b L0 xs g aS (pc + 1) L (.int v :: st) ws k n) : EvW b L0 xs g aS pc L st ws k n := by
  intro p l e s m below meth c D H locs ls C hP hD hS hl
  exact lv_iconst C.1.1 C.1.2.1 hd hv (h p l e s m below meth c D H locs ls C hP hD hS hl)
theorem lq_bipush {b L0 : Nat} {xs : Nat → Int32} {g : rf_G} {aS : Nat → Nat} {pc : Nat} {L : List (Option Value)} {st : List Value} {ws : va_W} {k n : Nat} {z : Int} {v : Int32} (hd : decode code pc = .ok (.bipush z, 2)) (hv : (Int8.ofInt z).toInt32 = v) (h : EvW b L0 xs g aS (pc + 2) L (.int v :: st) ws k n) : EvW b L0 xs g aS pc L st ws k n := by
  intro p l e s m below meth c D H locs ls C hP hD hS hl
  exact lv_bipush C.1.1 C.1.2.1 hd hv (h p l e s m below meth c D H locs ls C hP hD hS hl)
theorem lq_aload {b L0 : Nat} {xs : Nat → Int32} {g : rf_G} {aS : Nat → Nat} {pc : Nat} {L : List (Option Value)} {st : List Value} {ws : va_W} {k n : Nat} {j : Fin 4} {x : Nat} (hd : decode code pc = .ok (.aload_n j, 1)) (hL : L[j.val]? = some (some (.ref x))) (h : EvW b L0 xs g aS (pc + 1) L (.ref x :: st) ws k n) : EvW b L0 xs g aS pc L st ws k n := by
  intro p l e s m below meth c D H locs ls C hP hD hS hl
  have hi : ls[j.val]? = some (.val (.ref x)) := by
    have h3 := rf_lv_in (fun q => q) L 0 j.val _ hL
    rw [Nat.zero_add] at h3
    exact hl.2.2 _ h3
  exact lv_aload_n C.1.1 C.1.2.1 hd rfl hi (h p l e s m below meth c D H locs ls C hP hD hS hl)
theorem lq_iload {b L0 : Nat} {xs : Nat → Int32} {g : rf_G} {aS : Nat → Nat} {pc : Nat} {L : List (Option Value)} {st : List Value} {ws : va_W} {k n : Nat} {j : Fin 4} {x : Int32} (hd : decode code pc = .ok (.iload_n j, 1)) (hL : L[j.val]? = some (some (.int x))) (h : EvW b L0 xs g aS (pc + 1) L (.int x :: st) ws k n) : EvW b L0 xs g aS pc L st ws k n := by
  intro p l e s m below meth c D H locs ls C hP hD hS hl
  have hi : ls[j.val]? = some (.val (.int x)) := by
    have h3 := rf_lv_in (fun q => q) L 0 j.val _ hL
    rw [Nat.zero_add] at h3
    exact hl.2.2 _ h3
  exact lv_iload_n C.1.1 C.1.2.1 hd rfl hi (h p l e s m below meth c D H locs ls C hP hD hS hl)
theorem lq_dup {b L0 : Nat} {xs : Nat → Int32} {g : rf_G} {aS : Nat → Nat} {pc : Nat} {L : List (Option Value)} {st : List Value} {ws : va_W} {k n : Nat} {v : Value} (hd : decode code pc = .ok (.dup, 1)) (hv : v.category = 1) (h : EvW b L0 xs g aS (pc + 1) L (v :: v :: st) ws k n) : EvW b L0 xs g aS pc L (v :: st) ws k n := by
  intro p l e s m below meth c D H locs ls C hP hD hS hl
  exact lv_dup C.1.1 C.1.2.1 hd hv (h p l e s m below meth c D H locs ls C hP hD hS hl)
theorem lq_iadd {b L0 : Nat} {xs : Nat → Int32} {g : rf_G} {aS : Nat → Nat} {pc : Nat} {L : List (Option Value)} {st : List Value} {ws : va_W} {k n : Nat} {x z : Int32} (hd : decode code pc = .ok (.iadd, 1)) (h : EvW b L0 xs g aS (pc + 1) L (.int (x + z) :: st) ws k n) : EvW b L0 xs g aS pc L (.int z :: .int x :: st) ws k n := by
  intro p l e s m below meth c D H locs ls C hP hD hS hl
  exact lv_iadd C.1.1 C.1.2.1 hd (h p l e s m below meth c D H locs ls C hP hD hS hl)
theorem lq_isub {b L0 : Nat} {xs : Nat → Int32} {g : rf_G} {aS : Nat → Nat} {pc : Nat} {L : List (Option Value)} {st : List Value} {ws : va_W} {k n : Nat} {x z : Int32} (hd : decode code pc = .ok (.isub, 1)) (h : EvW b L0 xs g aS (pc + 1) L (.int (x - z) :: st) ws k n) : EvW b L0 xs g aS pc L (.int z :: .int x :: st) ws k n := by
  intro p l e s m below meth c D H locs ls C hP hD hS hl
  exact lv_isub C.1.1 C.1.2.1 hd (h p l e s m below meth c D H locs ls C hP hD hS hl)
theorem lq_iand {b L0 : Nat} {xs : Nat → Int32} {g : rf_G} {aS : Nat → Nat} {pc : Nat} {L : List (Option Value)} {st : List Value} {ws : va_W} {k n : Nat} {x z : Int32} (hd : decode code pc = .ok (.iand, 1)) (h : EvW b L0 xs g aS (pc + 1) L (.int (x &&& z) :: st) ws k n) : EvW b L0 xs g aS pc L (.int z :: .int x :: st) ws k n := by
  intro p l e s m below meth c D H locs ls C hP hD hS hl
  exact lv_iand C.1.1 C.1.2.1 hd (h p l e s m below meth c D H locs ls C hP hD hS hl)
theorem lq_i2l {b L0 : Nat} {xs : Nat → Int32} {g : rf_G} {aS : Nat → Nat} {pc : Nat} {L : List (Option Value)} {st : List Value} {ws : va_W} {k n : Nat} {x : Int32} (hd : decode code pc = .ok (.i2l, 1)) (h : EvW b L0 xs g aS (pc + 1) L (.long x.toInt64 :: st) ws k n) : EvW b L0 xs g aS pc L (.int x :: st) ws k n := by
  intro p l e s m below meth c D H locs ls C hP hD hS hl
  exact lv_i2l C.1.1 C.1.2.1 hd rfl (h p l e s m below meth c D H locs ls C hP hD hS hl)
theorem lq_lshl {b L0 : Nat} {xs : Nat → Int32} {g : rf_G} {aS : Nat → Nat} {pc : Nat} {L : List (Option Value)} {st : List Value} {ws : va_W} {k n : Nat} {x : Int64} {z : Int32} (hd : decode code pc = .ok (.lshl, 1)) (h : EvW b L0 xs g aS (pc + 1) L (.long (x <<< (z.toInt64 &&& 63)) :: st) ws k n) : EvW b L0 xs g aS pc L (.int z :: .long x :: st) ws k n := by
  intro p l e s m below meth c D H locs ls C hP hD hS hl
  exact lv_lshl C.1.1 C.1.2.1 hd rfl (h p l e s m below meth c D H locs ls C hP hD hS hl)
theorem lq_land {b L0 : Nat} {xs : Nat → Int32} {g : rf_G} {aS : Nat → Nat} {pc : Nat} {L : List (Option Value)} {st : List Value} {ws : va_W} {k n : Nat} {x z : Int64} (hd : decode code pc = .ok (.land, 1)) (h : EvW b L0 xs g aS (pc + 1) L (.long (x &&& z) :: st) ws k n) : EvW b L0 xs g aS pc L (.long z :: .long x :: st) ws k n := by
  intro p l e s m below meth c D H locs ls C hP hD hS hl
  exact lv_land C.1.1 C.1.2.1 hd (h p l e s m below meth c D H locs ls C hP hD hS hl)
theorem lq_lor {b L0 : Nat} {xs : Nat → Int32} {g : rf_G} {aS : Nat → Nat} {pc : Nat} {L : List (Option Value)} {st : List Value} {ws : va_W} {k n : Nat} {x z : Int64} (hd : decode code pc = .ok (.lor, 1)) (h : EvW b L0 xs g aS (pc + 1) L (.long (x ||| z) :: st) ws k n) : EvW b L0 xs g aS pc L (.long z :: .long x :: st) ws k n := by
  intro p l e s m below meth c D H locs ls C hP hD hS hl
  exact lv_lor C.1.1 C.1.2.1 hd (h p l e s m below meth c D H locs ls C hP hD hS hl)
theorem lq_ldc2 {b L0 : Nat} {xs : Nat → Int32} {g : rf_G} {aS : Nat → Nat} {pc : Nat} {L : List (Option Value)} {st : List Value} {ws : va_W} {k n : Nat} {idx : Nat} {v : Int64} (hd : decode code pc = .ok (.ldc2_w idx, 3)) (hw : Cond.constantLong RL idx v ∈ wsL_law) (h : EvW b L0 xs g aS (pc + 3) L (.long v :: st) ws k n) : EvW b L0 xs g aS pc L st ws k n := by
  intro p l e s m below meth c D H locs ls C hP hD hS hl
  have hts : ∀ w ∈ wsL_law, w.before #[Value.ref b] s = true := fun w hw => C.1.2.2.2.2.2.1 w (wsL_in w hw)
  exact lv_ldc2 C.1.1 C.1.2.1 (own := RL) C.1.2.2.2.2.1 (hts _ hw) hd (h p l e s m below meth c D H locs ls C hP hD hS hl)
theorem lq_goto {b L0 : Nat} {xs : Nat → Int32} {g : rf_G} {aS : Nat → Nat} {pc : Nat} {L : List (Option Value)} {st : List Value} {ws : va_W} {k n : Nat} {off : Int} (tgt : Nat) (hd : decode code pc = .ok (.goto off, 3)) (ht : (pc : Int) + off = (tgt : Int)) (h : EvW b L0 xs g aS tgt L st ws k n) : EvW b L0 xs g aS pc L st ws k n := by
  intro p l e s m below meth c D H locs ls C hP hD hS hl
  exact lv_goto C.1.1 C.1.2.1 hd ht (h p l e s m below meth c D H locs ls C hP hD hS hl)
theorem lq_gt {b L0 : Nat} {xs : Nat → Int32} {g : rf_G} {aS : Nat → Nat} {pc : Nat} {L : List (Option Value)} {st : List Value} {ws : va_W} {k n : Nat} {x z : Int32} {off : Int} (tgt : Nat) (hd : decode code pc = .ok (.if_icmp .gt off, 3)) (ht : (pc : Int) + off = (tgt : Int)) (h1 : z < x → EvW b L0 xs g aS tgt L st ws k n) (h2 : ¬ z < x → EvW b L0 xs g aS (pc + 3) L st ws k n) : EvW b L0 xs g aS pc L (.int z :: .int x :: st) ws k n := by
  intro p l e s m below meth c D H locs ls C hP hD hS hl
  exact lv_icmp_gt C.1.1 C.1.2.1 hd ht (fun q => h1 q p l e s m below meth c D H locs ls C hP hD hS hl) (fun q => h2 q p l e s m below meth c D H locs ls C hP hD hS hl)
theorem lq_eq {b L0 : Nat} {xs : Nat → Int32} {g : rf_G} {aS : Nat → Nat} {pc : Nat} {L : List (Option Value)} {st : List Value} {ws : va_W} {k n : Nat} {x : Int32} {off : Int} (tgt : Nat) (hd : decode code pc = .ok (.if_icmp .eq off, 3)) (ht : (pc : Int) + off = (tgt : Int)) (h : EvW b L0 xs g aS tgt L st ws k n) : EvW b L0 xs g aS pc L (.int x :: .int x :: st) ws k n := by
  intro p l e s m below meth c D H locs ls C hP hD hS hl
  exact lv_icmp_eq C.1.1 C.1.2.1 hd ht (fun _ => h p l e s m below meth c D H locs ls C hP hD hS hl) (fun q => absurd rfl q)
theorem lq_tab {b L0 : Nat} {xs : Nat → Int32} {g : rf_G} {aS : Nat → Nat} {pc : Nat} {L : List (Option Value)} {st : List Value} {ws : va_W} {k n : Nat} {dflt lo hi off : Int} {offs : Array Int} {len : Nat} {x : Int32} (tgt : Nat) (hd : decode code pc = .ok (.tableswitch dflt lo hi offs, len)) (h1 : ¬ x.toInt < lo) (h2 : ¬ hi < x.toInt) (ho : offs[(x.toInt - lo).toNat]? = some off) (ht : (pc : Int) + off = (tgt : Int)) (h : EvW b L0 xs g aS tgt L st ws k n) : EvW b L0 xs g aS pc L (.int x :: st) ws k n := by
  intro p l e s m below meth c D H locs ls C hP hD hS hl
  exact lv_tableIn C.1.1 C.1.2.1 hd h1 h2 ho ht (h p l e s m below meth c D H locs ls C hP hD hS hl)
theorem lq_sld {b L0 : Nat} {xs : Nat → Int32} {g : rf_G} {aS : Nat → Nat} {pc : Nat} {L : List (Option Value)} {st : List Value} {ws : va_W} {k n : Nat} {x : Int32} (j : Nat) (hd : decode code pc = .ok (.iaload, 1)) (hx : x = nI j) (hj : j < L0) (hL0 : L0 < 2 ^ 31) (h : EvW b L0 xs g aS (pc + 1) L (.int (xs j) :: st) ws k n) : EvW b L0 xs g aS pc L (.int x :: .ref b :: st) ws k n := by
  intro p l e s m below meth c D H locs ls C hP hD hS hl
  subst hx
  refine va_sld C.1.1 C.1.2.1 C.1.2.2.2.2.2.2.1 C.1.2.2.2.2.2.2.2.1 (Nat.not_le.mpr C.1.2.2.2.2.2.2.2.1) hS (vp_in_nI hj hL0) hd ?_
  rw [nI_clamp (by omega)]
  exact (h p l e s m below meth c D H locs ls C hP hD hS hl)
theorem lq_slen {b L0 : Nat} {xs : Nat → Int32} {g : rf_G} {aS : Nat → Nat} {pc : Nat} {L : List (Option Value)} {st : List Value} {ws : va_W} {k n : Nat} (hd : decode code pc = .ok (.arraylength, 1)) (h : EvW b L0 xs g aS (pc + 1) L (.int (nI L0) :: st) ws k n) : EvW b L0 xs g aS pc L (.ref b :: st) ws k n := by
  intro p l e s m below meth c D H locs ls C hP hD hS hl
  exact va_slen C.1.1 C.1.2.1 C.1.2.2.2.2.2.2.1 C.1.2.2.2.2.2.2.2.1 (Nat.not_le.mpr C.1.2.2.2.2.2.2.2.1) hS hd (h p l e s m below meth c D H locs ls C hP hD hS hl)
theorem lq_istore {b L0 : Nat} {xs : Nat → Int32} {g : rf_G} {aS : Nat → Nat} {pc : Nat} {L : List (Option Value)} {st : List Value} {ws : va_W} {k n : Nat} {j : Nat} {x : Int32} (jf : Fin 4) (hd : decode code pc = .ok (.istore_n jf, 1)) (hj : jf.val = j) (hn : j < 4) (ho : rf_okset L j = true) (h : EvW b L0 xs g aS (pc + 1) (L.set j (some (.int x))) st ws k n) : EvW b L0 xs g aS pc L (.int x :: st) ws k n := by
  intro p l e s m below meth c D H locs ls C hP hD hS hl
  subst hj
  exact lv_istore_n C.1.1 C.1.2.1 hd rfl hl hn rfl (fun ls' hl' => h p l e s m below meth c D H locs ls' C hP hD hS (rf_lv_set (ad := fun q => q) (v := .int x) hl' ho))
theorem lq_astore {b L0 : Nat} {xs : Nat → Int32} {g : rf_G} {aS : Nat → Nat} {pc : Nat} {L : List (Option Value)} {st : List Value} {ws : va_W} {k n : Nat} {j x : Nat} (jf : Fin 4) (hd : decode code pc = .ok (.astore_n jf, 1)) (hj : jf.val = j) (hn : j < 4) (ho : rf_okset L j = true) (h : EvW b L0 xs g aS (pc + 1) (L.set j (some (.ref x))) st ws k n) : EvW b L0 xs g aS pc L (.ref x :: st) ws k n := by
  intro p l e s m below meth c D H locs ls C hP hD hS hl
  subst hj
  exact lv_astore_n C.1.1 C.1.2.1 hd rfl hl hn rfl (fun ls' hl' => h p l e s m below meth c D H locs ls' C hP hD hS (rf_lv_set (ad := fun q => q) (v := .ref x) hl' ho))
theorem lq_iinc {b L0 : Nat} {xs : Nat → Int32} {g : rf_G} {aS : Nat → Nat} {pc : Nat} {L : List (Option Value)} {st : List Value} {ws : va_W} {k n : Nat} {i : Nat} {z : Int} {x v : Int32} (hd : decode code pc = .ok (.iinc i z, 3)) (hL : L[i]? = some (some (.int x))) (hv : Int32.ofInt z = v) (hn : i < 4) (ho : rf_okset L i = true) (h : EvW b L0 xs g aS (pc + 3) (L.set i (some (.int (x + v)))) st ws k n) : EvW b L0 xs g aS pc L st ws k n := by
  intro p l e s m below meth c D H locs ls C hP hD hS hl
  have h3 := rf_lv_in (fun q => q) L 0 i _ hL
  rw [Nat.zero_add] at h3
  obtain ⟨kk, hk⟩ := List.getElem?_of_mem h3
  exact lv_iinc C.1.1 C.1.2.1 hd hl hk (by rw [hv]) hn rfl (fun ls' hl' => h p l e s m below meth c D H locs ls' C hP hD hS (rf_lv_set (ad := fun q => q) (v := .int (x + v)) hl' ho))
theorem lq_ret {b L0 : Nat} {xs : Nat → Int32} {g : rf_G} {aS : Nat → Nat} {pc : Nat} {L : List (Option Value)} {st : List Value} {ws : va_W} {k n : Nat} (hd : decode code pc = .ok (.ireturn, 1)) (hk : k ≤ 600000) (hn : n ≤ 7302250) : EvW b L0 xs g aS pc L [.int 1] ws k n := by
  intro p l e s m below meth c D H locs ls C hP hD hS hl
  refine va_forget hS.2.2 ?_
  refine W.widen (k := 600000) (n := 7302250) hk hn ?_
  exact lw_ret C.1.1 C.1.2.1 C.1.2.2.1 C.1.2.2.2.2.2.2.2.2.1 hd
theorem lq_new {b L0 : Nat} {xs : Nat → Int32} {g : rf_G} {aS : Nat → Nat} {pc : Nat} {L : List (Option Value)} {st : List Value} {ws : va_W} {k n : Nat} {idx ci N : Nat} {fs : List Value} (hd : decode code pc = .ok (.new idx, 3)) (hc : rn_cl RL idx ci N fs) (h1 : k + 1 ≤ 600000) (h2 : n + N ≤ 7302250) (h : ∀ q, EvW b L0 xs g aS (pc + 3) L (.ref q :: st) (ws ++ [(q, .inr (ci, fs))]) (k + 1) (n + N)) : EvW b L0 xs g aS pc L st ws k n := by
  intro p l e s m below meth c D H locs ls C hP hD hS hl
  have hts : ∀ w ∈ wsL_law, w.before #[Value.ref b] s = true := fun w hw => C.1.2.2.2.2.2.1 w (wsL_in w hw)
  obtain ⟨Cn, T, ty, c1, c2, c3, c4, c5, c6, c7⟩ := hc
  exact va_new (ci := ci) (fs := fs) C.1.1 C.1.2.1 hts c2 ty c3 C.1.2.2.2.2.1 (hts _ c4) (hts _ c5) (hts _ c6) C.2.1 hP hD hS (fun _ z => z) c1 c7 h1 h2 hd (fun q H1 hP1 hD1 hS1 => h q p l e s m below meth c D H1 locs ls C hP1 hD1 hS1 hl)
theorem lq_init {b L0 : Nat} {xs : Nat → Int32} {g : rf_G} {aS : Nat → Nat} {pc : Nat} {L : List (Option Value)} {st : List Value} {ws : va_W} {k n : Nat} {y' : rf_Me} {idx q : Nat} {fs : List Value} {ci : Nat} {wr : va_W} {Po' : va_W → Prop} (hd : decode code pc = .ok (.invokespecial idx, 3)) (hc : rn_ce y' 0) (hw : Cond.methodLink RL idx y'.1 ∈ wsL_law) (hrm : y'.2.2.2.2.frames + 1 ≤ 13 ∧ 8 + (y'.2.2.1 + 11) + y'.2.2.2.2.locals ≤ 484) (hst : (st.map fun v => v.category).sum ≤ 8) (hent : (rf_sl [.ref q]).length ≤ y'.2.2.1)
    (hk : k + y'.2.2.2.2.cells ≤ 600000) (hn : n + y'.2.2.2.2.slots ≤ 7302250)
    (hb : EvN g y' 0 (rf_ent y'.2.2.1 [.ref q]) [] [(q, .inr (ci, fs))] 0 0 Po') (h : ∀ w1, Po' w1 → EvW b L0 xs g aS (pc + 3) L st (wr ++ w1) (k + y'.2.2.2.2.cells) (n + y'.2.2.2.2.slots)) : EvW b L0 xs g aS pc L (.ref q :: st) (wr ++ [(q, .inr (ci, fs))]) k n := by
  intro p l e s m below meth c D H locs ls C hP hD hS hl
  have hts : ∀ w ∈ wsL_law, w.before #[Value.ref b] s = true := fun w hw => C.1.2.2.2.2.2.1 w (wsL_in w hw)
  obtain ⟨g1, g2, g3, g4, g5, g6, g7⟩ := hc
  have hC : [wr.length].map (fun i => (wr ++ [(q, Sum.inr (ci, fs))] : va_W)[i]?) = ([(q, Sum.inr (ci, fs))] : va_W).map some := by simp
  have hR : (List.range wr.length).map (fun i => (wr ++ [(q, Sum.inr (ci, fs))] : va_W)[i]?) = wr.map some := lq_left wr _
  have hPc := hP.sub [wr.length] (fm_of hC)
  have hDc := hD.sub [wr.length] rfl hC
  have hFc := va_free hD hS (fun _ z => z) [wr.length] hC
  have hM := rn_met g1 g7 g5 hent hb l D aS H.size
  have g2' : Cond.code y'.1 y'.2.1 y'.2.2.1 y'.2.2.2.1 ∈ wsL_law := by rw [g7]; exact g2
  have hst0 : ∀ U : State, U.heap = H → s.WarmedH U.vm → rn_Pre D g aS [(q, .inr (ci, fs))] H.size [.ref q] [Value.ref q].toArray U := by
    intro U hU hW
    refine ⟨rfl, by rw [hU], by rw [hU]; exact hPc, va_K.moved hW.alike C.2.1, hDc.weaken (fun _ _ _ _ => trivial), ?_, C.2.2.2.warm hW⟩
    rw [hU]
    exact ((C.2.2.1.kept hS.2.1).narrow hFc).warm hW
  have run : va_Run p l e room_1 s m #[Value.ref b] below meth c H locs k n y'.2.2.2.2.cells y'.2.2.2.2.slots (F0 m pc ls (.ref q :: st)) st (va_Qv Po' (rn_B D (va_A [(q, .inr (ci, fs))] H.size)) (va_A [(q, .inr (ci, fs))] H.size) (Value.ref q :: []).toArray) (va_A [(q, .inr (ci, fs))] H.size) := va_runI (As := []) (rest := st) (own := RL) ⟨C.1.1, C.1.2.1, C.1.2.2.2.1, C.1.2.2.2.2.1, hts⟩ hM ⟨by have := callB_of (R := room_1) (own := RL) (args := #[Value.ref b]) (ret := y'.2.2.2.1) 0 hts (rf_good g2') rfl rfl rfl (hts _ g3) (hts _ hw) g4 hrm; rw [g7] at this; exact this, g5, hts _ g6⟩ ⟨rn_blind, hst0⟩ rfl rfl hl.1 rfl (lv_room hst) hd ⟨hk, hn⟩
  refine va_callv run hS (fun q _ z => hFc q z) hFc (fun w1 t H1 locs1 ht hvm hw1 hB hz1 hk1 hS1 => ?_)
  obtain ⟨hP1, hD1⟩ := hB
  rw [ht] at hP1
  obtain ⟨hP2, hD2⟩ := va_join (wr := wr) (w1 := w1) hP hD [wr.length] (List.range wr.length) hC hR (lq_nd wr.length) (fun i hi => by have := List.mem_range.mp hi; simp; omega) hk1 hFc hP1 hD1
  exact h w1 hw1 p l e s m below meth c D H1 locs1 ls C hP2 hD2 hS1 hl
/-- a call of one of the two objects; the worlds change places -/
theorem lq_call {b L0 : Nat} {xs : Nat → Int32} {g : rf_G} {aS : Nat → Nat} {pc : Nat} {L : List (Option Value)} {st : List Value} {ws : va_W} {k n : Nat} {Lay1 Lay2 : List rf_Cell} {a1 a2 : Nat → Nat} {X1 X2 Y : rf_Mem} {a : rf_Me} {idx nn ci : Nat} {fl : List (Option Nat)} {r : Int32} {stk : List Value} (av : List Value) (hd : decode code pc = .ok (.invokevirtual idx, 3)) (hs : stk = av.reverse ++ .ref (a1 0) :: st) (hc : rf_ceV a nn ci) (hw : Cond.methodLink RL idx a.1 ∈ wsL_law) (hrm : a.2.2.2.2.frames + 1 ≤ 13 ∧ 8 + (a.2.2.1 + 11) + a.2.2.2.2.locals ≤ 484) (hq : Lay1[0]? = some (.inl (ci, fl))) (hnn : av.length = nn) (hcv : av.map (rf_cv a1) = av) (hst : (st.map fun v => v.category).sum ≤ 8) (hent : (rf_sl (.ref 0 :: av)).length ≤ a.2.2.1) (ha : ∀ i, 1000 ≤ i → a1 i = aS i) (hk : k ≤ 600000) (hn : n ≤ 7302250)
    (hb : Ev Lay1 a 0 (rf_ent a.2.2.1 (.ref 0 :: av)) [] X1 (some (.int r)) X2) (h : EvW b L0 xs g aS (pc + 3) L (.int r :: st) (rf_W g a2 Y 0 Lay2 ++ rf_W g a1 X2 0 Lay1) k n) : EvW b L0 xs g aS pc L stk (rf_W g a1 X1 0 Lay1 ++ rf_W g a2 Y 0 Lay2) k n := by
  intro p l e s m below meth c D H locs ls C hP hD hS hl
  have hts : ∀ w ∈ wsL_law, w.before #[Value.ref b] s = true := fun w hw => C.1.2.2.2.2.2.1 w (wsL_in w hw)
  obtain ⟨⟨g1, g2, g3, g4, g5, g6⟩, g7, g8, qc, g9, g10⟩ := hc
  have hC : (List.range (rf_W g a1 X1 0 Lay1).length).map (fun i => (rf_W g a1 X1 0 Lay1 ++ rf_W g a2 Y 0 Lay2)[i]?) = (rf_W g a1 X1 0 Lay1).map some := lq_left _ _
  have hR := lq_right (rf_W g a1 X1 0 Lay1) (rf_W g a2 Y 0 Lay2)
  have hPc := hP.sub _ (fm_of hC)
  have hDc := hD.sub _ (lq_nd _) hC
  have hFc := va_free hD hS (fun _ z => z) _ hC
  have hM := rf_met g1 hent hb l D g a1 H.size
  have hX1 : rf_X a1 (fun q => s.heap.size ≤ q) s s.heap := C.2.2.1.ad ha
  have cw : CallW room_1 s #[Value.ref b] RL a.1.cls idx a.1 a.2.1 a.2.2.1 a.2.2.2.1 (rf_ws a) a.2.2.2.2 0 0 nn := ⟨callB_of nn hts (rf_good g2) rfl g5 g6 (hts _ g3) (hts _ hw) g4 hrm, hts _ g7, hts _ g8⟩
  have hrv : ∃ cellB : Cell, H[a1 0]? = some cellB ∧ cellB.vm.isStatics = false ∧ s.vm.findClass a.1.cls = some cellB.cls := by
    have e := va_recv C.2.1 hPc (ci := ci) (q0 := 0) g9 (rf_W0 g a1 X1 hq)
    rw [← g10]
    exact e
  have hst0 : ∀ U : State, U.heap = H → s.WarmedH U.vm → rf_Pre D g a1 Lay1 X1 H.size (.ref 0 :: av) (Value.ref (a1 0) :: av).toArray U := by
    intro U hU hW
    refine ⟨by rw [List.map_cons, hcv]; rfl, by rw [hU], by rw [hU]; exact hPc, va_K.moved hW.alike C.2.1, hDc.weaken (fun _ _ _ _ => trivial), ?_⟩
    rw [hU]
    exact ((hX1.kept hS.2.1).narrow hFc).warm hW
  refine rf_callW2 (va_runV (As := av) (rest := st) (own := RL) ⟨C.1.1, C.1.2.1, C.1.2.2.2.1, C.1.2.2.2.2.1, hts⟩ hM cw ⟨rf_blind, hrv, hst0⟩ rfl hnn hl.1 hs (lv_room hst) hd ⟨hk, hn⟩) hS hFc (fun H1 locs1 hP1 hk1 hS1 => ?_)
  have hD9 : va_D (fun _ => True) (rf_W g a1 X1 0 Lay1) := hDc.weaken (fun _ _ _ _ => trivial)
  obtain ⟨hP2, hD2⟩ := va_join (wr := rf_W g a2 Y 0 Lay2) hP hD _ _ hC hR (lq_nd2 _ _) (lq_dis _ _) hk1 hFc hP1 (rf_D hD9.self)
  exact h p l e s m below meth c D H1 locs1 ls C hP2 hD2 hS1 hl
