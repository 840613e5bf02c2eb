/-- a field's link: the class's number, the place -/
def rf_fl (own : String) (idx ci k : Nat) : Prop := ∃ (C : String) (T : u_T) (N : Nat), vwCl[ci]? = some (C, T, N) ∧ k < N ∧ Cond.fieldLink own idx (T k).1 (T k).2.1 (T k).2.2.1 ∈ wsL_law ∧ ∀ w ∈ u_ws C T N, w ∈ wsL_law
/-- the same for a write: not final, an int (or a boolean) -/
def rf_fp (own : String) (idx ci k : Nat) (ty : FieldType) : Prop := ∃ (C : String) (T : u_T) (N : Nat) (tt : Nat → FieldType), vwCl[ci]? = some (C, T, N) ∧ k < N ∧ Cond.fieldLink own idx (T k).1 (T k).2.1 (T k).2.2.1 ∈ wsL_law ∧ (∀ w ∈ u_ws C T N, w ∈ wsL_law) ∧ (∀ k, k < N → parseFieldDescriptor (T k).2.2.1 = some (tt k)) ∧ (∀ a, a < N → ∀ b, b < N → a ≠ b → (T a).2.1 ≠ (T b).2.1) ∧ (T k).2.2.2 = false ∧ tt k = ty
theorem ev_getI {Lay : List rf_Cell} {y : rf_Me} {pc : Nat} {L : List (Option Value)} {st : List Value} {M : rf_Mem} {r : Option Value} {M' : rf_Mem} {idx ci k q : Nat} {fl : List (Option Nat)} (hd : decode y.2.1 pc = .ok (.getfield idx, 3)) (hf : rf_fl y.1.cls idx ci k) (hq : Lay[q]? = some (.inl (ci, fl))) (hk : fl[k]? = some none) (h : Ev Lay y (pc + 3) L (.int (M q k) :: st) M r M') : Ev Lay y pc L (.ref q :: st) M r M' := by
  intro p l e s m args below meth c D g ad A H locs ls C hP hD hS hl
  obtain ⟨C1, T, N, h1, h2, h3, h4⟩ := hf
  have e1 := rf_W0 g ad M hq
  have e2 := rf_fs_get ad (M q) fl 0 k
  rw [hk, Nat.zero_add] at e2
  exact va_get (D := D) (ci := ci) (fs := rf_fs ad (M q) 0 fl) C.1 C.2.1 C.2.2.2.2.2.2.1 h4 C.2.2.2.2.2.1 C.2.2.2.2.2.2.2.1 hP q e1 h1 k h2 (C.2.2.2.2.2.2.1 _ h3) (fun _ z => z) e2 hd (h p l e s m args below meth c D g ad A H locs ls C hP hD hS hl)
theorem ev_getR {Lay : List rf_Cell} {y : rf_Me} {pc : Nat} {L : List (Option Value)} {st : List Value} {M : rf_Mem} {r : Option Value} {M' : rf_Mem} {idx ci k q c1 : Nat} {fl : List (Option Nat)} (hd : decode y.2.1 pc = .ok (.getfield idx, 3)) (hf : rf_fl y.1.cls idx ci k) (hq : Lay[q]? = some (.inl (ci, fl))) (hk : fl[k]? = some (some c1)) (h : Ev Lay y (pc + 3) L (.ref c1 :: st) M r M') : Ev Lay y pc L (.ref q :: st) M r M' := by
  intro p l e s m args below meth c D g ad A H locs ls C hP hD hS hl
  obtain ⟨C1, T, N, h1, h2, h3, h4⟩ := hf
  have e1 := rf_W0 g ad M hq
  have e2 := rf_fs_get ad (M q) fl 0 k
  rw [hk, Nat.zero_add] at e2
  exact va_get (D := D) (ci := ci) (fs := rf_fs ad (M q) 0 fl) C.1 C.2.1 C.2.2.2.2.2.2.1 h4 C.2.2.2.2.2.1 C.2.2.2.2.2.2.2.1 hP q e1 h1 k h2 (C.2.2.2.2.2.2.1 _ h3) (fun _ z => z) e2 hd (h p l e s m args below meth c D g ad A H locs ls C hP hD hS hl)
theorem ev_put {Lay : List rf_Cell} {y : rf_Me} {pc : Nat} {L : List (Option Value)} {st : List Value} {M : rf_Mem} {r : Option Value} {M' : rf_Mem} {idx ci k q : Nat} {ty : FieldType} {x : Int32} {fl : List (Option Nat)} (hd : decode y.2.1 pc = .ok (.putfield idx, 3)) (hf : rf_fp y.1.cls idx ci k ty) (hq : Lay[q]? = some (.inl (ci, fl))) (hk : fl[k]? = some none) (hn : narrow ty (.int x) = .int x) (hfit : fits ty (.int x) = true) (h : Ev Lay y (pc + 3) L st (rf_set M q k x) r M') : Ev Lay y pc L (.int x :: .ref q :: st) M r M' := by
  intro p l e s m args below meth c D g ad A H locs ls C hP hD hS hl
  obtain ⟨C1, T, N, tt, h1, h2, h3, h4, h5, h6, h7, h8⟩ := hf
  have e1 := rf_W0 g ad M hq
  have e3 := rf_S0 g ad M (upd (M q) k x) hq
  have e4 : rf_w g ad (rf_row M q (upd (M q) k x)) q (.inl (ci, fl)) = (ad q, .inr (ci, (rf_fs ad (M q) 0 fl).set k (.int x))) := by
    have e5 := rf_fs_set ad (M q) x fl 0 k hk
    rw [Nat.zero_add] at e5
    simp only [rf_w, rf_row_same, e5]
  rw [e4] at e3
  have hl2 : k < (rf_fs ad (M q) 0 fl).length := by
    have e2 := rf_fs_get ad (M q) fl 0 k
    rw [hk] at e2
    exact (List.getElem?_eq_some_iff.mp e2).1
  refine va_put (D := D) (ci := ci) (fs := rf_fs ad (M q) 0 fl) C.1 C.2.1 C.2.2.2.2.2.2.1 h4 tt h5 h6 C.2.2.2.2.2.1 C.2.2.2.2.2.2.2.1 hP hD hS q e1 h1 k h2 (C.2.2.2.2.2.2.1 _ h3) (fun _ z => z) h7 (ty := ty) (v := .int x) (by rw [h5 k h2, h8]) hn hfit hl2 hd (fun H1 locs1 hP1 hD1 hS1 => ?_)
  rw [e3] at hP1 hD1
  exact (h p l e s m args below meth c D g ad A H1 locs1 ls C hP1 hD1 hS1 hl)
theorem ev_iald {Lay : List rf_Cell} {y : rf_Me} {pc : Nat} {L : List (Option Value)} {st : List Value} {M : rf_Mem} {r : Option Value} {M' : rf_Mem} {q n : Nat} {i : Int32} (hd : decode y.2.1 pc = .ok (.iaload, 1)) (hq : Lay[q]? = some (.inr (.inl (n, 0)))) (hin : vp_in i n) (h : Ev Lay y (pc + 1) L (.int (M q i.toNatClampNeg) :: st) M r M') : Ev Lay y pc L (.int i :: .ref q :: st) M r M' := by
  intro p l e s m args below meth c D g ad A H locs ls C hP hD hS hl
  exact va_iald (D := D) C.1 C.2.1 C.2.2.2.2.2.2.2.1 hP q 0 (rf_W0 g ad M hq) rfl hin hd (h p l e s m args below meth c D g ad A H locs ls C hP hD hS hl)
theorem ev_zald {Lay : List rf_Cell} {y : rf_Me} {pc : Nat} {L : List (Option Value)} {st : List Value} {M : rf_Mem} {r : Option Value} {M' : rf_Mem} {q n : Nat} {i : Int32} (hd : decode y.2.1 pc = .ok (.baload, 1)) (hq : Lay[q]? = some (.inr (.inl (n, 1)))) (hin : vp_in i n) (h : Ev Lay y (pc + 1) L (.int (M q i.toNatClampNeg) :: st) M r M') : Ev Lay y pc L (.int i :: .ref q :: st) M r M' := by
  intro p l e s m args below meth c D g ad A H locs ls C hP hD hS hl
  exact va_zald (D := D) C.1 C.2.1 C.2.2.2.2.2.2.2.1 hP q 1 (rf_W0 g ad M hq) rfl hin hd (h p l e s m args below meth c D g ad A H locs ls C hP hD hS hl)
theorem ev_iast {Lay : List rf_Cell} {y : rf_Me} {pc : Nat} {L : List (Option Value)} {st : List Value} {M : rf_Mem} {r : Option Value} {M' : rf_Mem} {q n : Nat} {i x : Int32} (hd : decode y.2.1 pc = .ok (.iastore, 1)) (hq : Lay[q]? = some (.inr (.inl (n, 0)))) (hin : vp_in i n) (h : Ev Lay y (pc + 1) L st (rf_set M q i.toNatClampNeg x) r M') : Ev Lay y pc L (.int x :: .int i :: .ref q :: st) M r M' := by
  intro p l e s m args below meth c D g ad A H locs ls C hP hD hS hl
  have e3 := rf_S0 g ad M (upd (M q) i.toNatClampNeg x) hq
  have e4 : rf_w g ad (rf_row M q (upd (M q) i.toNatClampNeg x)) q (.inr (.inl (n, 0))) = (ad q, .inl (g.1, n, .inl (upd (M q) i.toNatClampNeg x))) := by
    simp only [rf_w, rf_row_same]
    rfl
  rw [e4] at e3
  refine va_iast (D := D) C.1 C.2.1 C.2.2.2.2.2.2.2.1 hP hD hS q 0 (rf_W0 g ad M hq) rfl hin hd (fun H1 locs1 hP1 hD1 hS1 => ?_)
  have hP1 : va_P D vwCl ((rf_W g ad M 0 Lay).set q (ad q, .inl (g.1, n, .inl (upd (M q) i.toNatClampNeg x)))) H1 := hP1
  have hD1 : va_D A ((rf_W g ad M 0 Lay).set q (ad q, .inl (g.1, n, .inl (upd (M q) i.toNatClampNeg x)))) := hD1
  rw [e3] at hP1 hD1
  exact (h p l e s m args below meth c D g ad A H1 locs1 ls C hP1 hD1 hS1 hl)
theorem ev_zast {Lay : List rf_Cell} {y : rf_Me} {pc : Nat} {L : List (Option Value)} {st : List Value} {M : rf_Mem} {r : Option Value} {M' : rf_Mem} {q n : Nat} {i x : Int32} (hd : decode y.2.1 pc = .ok (.bastore, 1)) (hq : Lay[q]? = some (.inr (.inl (n, 1)))) (hin : vp_in i n) (h : Ev Lay y (pc + 1) L st (rf_set M q i.toNatClampNeg (vp_nar .boolean x)) r M') : Ev Lay y pc L (.int x :: .int i :: .ref q :: st) M r M' := by
  intro p l e s m args below meth c D g ad A H locs ls C hP hD hS hl
  have e3 := rf_S0 g ad M (upd (M q) i.toNatClampNeg (vp_nar .boolean x)) hq
  have e4 : rf_w g ad (rf_row M q (upd (M q) i.toNatClampNeg (vp_nar .boolean x))) q (.inr (.inl (n, 1))) = (ad q, .inl (g.2.1, n, .inl (upd (M q) i.toNatClampNeg (vp_nar .boolean x)))) := by
    simp only [rf_w, rf_row_same]
    rfl
  rw [e4] at e3
  refine va_zast (D := D) C.1 C.2.1 C.2.2.2.2.2.2.2.1 hP hD hS q 1 (rf_W0 g ad M hq) rfl hin hd (fun H1 locs1 hP1 hD1 hS1 => ?_)
  have hP1 : va_P D vwCl ((rf_W g ad M 0 Lay).set q (ad q, .inl (g.2.1, n, .inl (upd (M q) i.toNatClampNeg (vp_nar .boolean x))))) H1 := hP1
  have hD1 : va_D A ((rf_W g ad M 0 Lay).set q (ad q, .inl (g.2.1, n, .inl (upd (M q) i.toNatClampNeg (vp_nar .boolean x))))) := hD1
  rw [e3] at hP1 hD1
  exact (h p l e s m args below meth c D g ad A H1 locs1 ls C hP1 hD1 hS1 hl)
theorem ev_alen {Lay : List rf_Cell} {y : rf_Me} {pc : Nat} {L : List (Option Value)} {st : List Value} {M : rf_Mem} {r : Option Value} {M' : rf_Mem} {q n : Nat} {v : Int32} (hd : decode y.2.1 pc = .ok (.arraylength, 1)) (hq : Lay[q]? = some (.inr (.inl (n, 0)))) (hv : Int32.ofNat n = v) (h : Ev Lay y (pc + 1) L (.int v :: st) M r M') : Ev Lay y pc L (.ref q :: st) M r M' := by
  intro p l e s m args below meth c D g ad A H locs ls C hP hD hS hl
  exact va_alen (D := D) C.1 C.2.1 C.2.2.2.2.2.2.2.1 hP q 0 (rf_W0 g ad M hq) rfl hv hd (h p l e s m args below meth c D g ad A H locs ls C hP hD hS hl)
theorem ev_aald {Lay : List rf_Cell} {y : rf_Me} {pc : Nat} {L : List (Option Value)} {st : List Value} {M : rf_Mem} {r : Option Value} {M' : rf_Mem} {q c1 : Nat} {cs : List Nat} {i : Int32} (hd : decode y.2.1 pc = .ok (.aaload, 1)) (hq : Lay[q]? = some (.inr (.inr cs))) (hin : vp_in i cs.length) (hc : cs[i.toNatClampNeg]? = some c1) (h : Ev Lay y (pc + 1) L (.ref c1 :: st) M r M') : Ev Lay y pc L (.int i :: .ref q :: st) M r M' := by
  intro p l e s m args below meth c D g ad A H locs ls C hP hD hS hl
  refine va_aldq (D := D) C.1 C.2.1 C.2.2.2.2.2.2.2.1 hP q 2 (rf_W0 g ad M hq) rfl hin hd ?_
  rw [hc]
  exact (h p l e s m args below meth c D g ad A H locs ls C hP hD hS hl)
theorem rf_cpw : Cond.native arraycopyName ∈ wsL_law ∧ Cond.static arraycopyName ∈ wsL_law ∧ Cond.initialized "java/lang/System" ∈ wsL_law := by decide +kernel
theorem ev_copy {Lay : List rf_Cell} {y : rf_Me} {pc : Nat} {L : List (Option Value)} {st : List Value} {M : rf_Mem} {r : Option Value} {M' : rf_Mem} {idx a b n0 n1 : Nat} {sp dp n : Int32} (hd : decode y.2.1 pc = .ok (.invokestatic idx, 3)) (hw1 : Cond.methodLink y.1.cls idx arraycopyName ∈ wsL_law) (ha : Lay[a]? = some (.inr (.inl (n0, 0)))) (hb : Lay[b]? = some (.inr (.inl (n1, 0)))) (h1 : ¬ sp < 0) (h2 : ¬ dp < 0) (h3 : ¬ n < 0) (h4 : sp.toNatClampNeg + n.toNatClampNeg ≤ n0) (h5 : dp.toNatClampNeg + n.toNatClampNeg ≤ n1)
    (hfr : 1 ≤ y.2.2.2.2.frames) (hlo : (st.map fun v => v.category).sum + (nativeFrameWords "java/lang/System" "arraycopy" 5 + 11) ≤ y.2.2.2.2.locals)
    (h : Ev Lay y (pc + 3) L st (rf_row M b (va_cpy (M a) (M b) sp.toNatClampNeg dp.toNatClampNeg n.toNatClampNeg)) r M') : Ev Lay y pc L (.int n :: .int dp :: .ref b :: .int sp :: .ref a :: st) M r M' := by
  intro p l e s m args below meth c D g ad A H locs ls C hP hD hS hl
  have e3 := rf_S0 g ad M (va_cpy (M a) (M b) sp.toNatClampNeg dp.toNatClampNeg n.toNatClampNeg) hb
  have e4 : rf_w g ad (rf_row M b (va_cpy (M a) (M b) sp.toNatClampNeg dp.toNatClampNeg n.toNatClampNeg)) b (.inr (.inl (n1, 0))) = (ad b, .inl (g.1, n1, .inl (va_cpy (M a) (M b) sp.toNatClampNeg dp.toNatClampNeg n.toNatClampNeg))) := by
    simp only [rf_w, rf_row_same]
    rfl
  rw [e4] at e3
  have hsum : ((st.map (rf_cv ad)).map fun v => v.category).sum = (st.map fun v => v.category).sum := by
    rw [List.map_map]
    congr 1
    exact List.map_congr_left (fun v _ => rf_cv_cat ad v)
  refine va_copyi (D := D) C.1 C.2.1 (C.2.2.2.2.1.trans hl.1.symm) C.2.2.2.2.2.1 (C.2.2.2.2.2.2.1 _ hw1) (C.2.2.2.2.2.2.1 _ (rf_cpw.1)) (C.2.2.2.2.2.2.1 _ (rf_cpw.2.1)) (C.2.2.2.2.2.2.1 _ (rf_cpw.2.2)) C.2.2.2.2.2.2.2.1 hP hD hS a b 0 0 (rf_W0 g ad M ha) (rf_W0 g ad M hb) rfl rfl rfl h1 h2 h3 h4 h5 (fun _ _ => rfl) hfr (by rw [hsum]; exact hlo) hd (fun H1 locs1 hP1 hD1 hS1 => ?_)
  have hP1 : va_P D vwCl ((rf_W g ad M 0 Lay).set b (ad b, .inl (g.1, n1, .inl (va_cpy (M a) (M b) sp.toNatClampNeg dp.toNatClampNeg n.toNatClampNeg)))) H1 := hP1
  have hD1 : va_D A ((rf_W g ad M 0 Lay).set b (ad b, .inl (g.1, n1, .inl (va_cpy (M a) (M b) sp.toNatClampNeg dp.toNatClampNeg n.toNatClampNeg)))) := hD1
  rw [e3] at hP1 hD1
  exact (h p l e s m args below meth c D g ad A H1 locs1 ls C hP1 hD1 hS1 hl)
theorem ev_iret {Lay : List rf_Cell} {y : rf_Me} {pc : Nat} {L : List (Option Value)} {st : List Value} {M : rf_Mem} {r : Option Value} {M' : rf_Mem} {x : Int32} {ty : FieldType} (hd : decode y.2.1 pc = .ok (.ireturn, 1)) (hr : y.2.2.2.1 = some ty) (hn : narrow ty (.int x) = .int x) : Ev Lay y pc L [.int x] M (some (.int x)) M := by
  intro p l e s m args below meth c D g ad A H locs ls C hP hD hS hl
  exact W.zret C.1 C.2.1 (C.2.2.1.trans hr) hn (fun t ht hW => ⟨⟨rfl, by rw [ht]; exact hP⟩, hS.F ht⟩) hS.2.2 hd C.2.2.2.1
theorem ev_vret {Lay : List rf_Cell} {y : rf_Me} {pc : Nat} {L : List (Option Value)} {st : List Value} {M : rf_Mem} {r : Option Value} {M' : rf_Mem} (hd : decode y.2.1 pc = .ok (.return_, 1)) (hr : y.2.2.2.1 = none) : Ev Lay y pc L [] M none M := by
  intro p l e s m args below meth c D g ad A H locs ls C hP hD hS hl
  exact W.vret C.1 C.2.1 (C.2.2.1.trans hr) (fun t ht hW => ⟨⟨rfl, by rw [ht]; exact hP⟩, hS.F ht⟩) hS.2.2 hd C.2.2.2.1
/-- behind a call -/
theorem rf_callW {p : Program} {l : Launch} {e : Env} {R : Room} {s : State} {m : MethodId} {args : Array Value} {below : List Frame} {meth : Method} {c : Code} {H : Heap} {locs : List Loc} {Q : State → Prop} {pc : Nat} {ls : Array Slot} {st0 rest : List Value} {a : Array Value} {D : va_G} {g : rf_G} {ad : Nat → Nat} {A A1 : Nat → Prop} {Lay : List rf_Cell} {r1 : Option Value} {M1 : rf_Mem}
    (hr : va_Run p l e R s m args below meth c H locs 0 0 0 0 (F0 m pc ls st0) rest (rf_Q D g ad A1 Lay r1 M1 a) A1) (hS : va_S A s.heap H locs) (hA : ∀ q, A1 q → A q)
    (kk : ∀ (H1 : Heap) (locs1 : List Loc), va_P D vwCl (rf_W g ad M1 0 Lay) H1 → va_S A s.heap H1 locs1 → W p l e R s m args below meth c H1 locs1 0 0 Q (F0 m (pc + 3) ls ((r1.map (rf_cv ad)).toList ++ rest))) : W p l e R s m args below meth c H locs 0 0 Q (F0 m pc ls st0) := by
  intro T hT X
  obtain ⟨v, st₀, t, T', L, h0, X', hL, e1, e2, ⟨⟨hv, hp⟩, hz, hk⟩, st⟩ := hr T hT X
  cases hv
  rw [h0] at hz hk
  obtain ⟨t2, a1, b1⟩ := kk T'.heap (locs ++ L) (by rw [e1]; exact hp)
    ⟨Nat.le_trans hS.1 (by rw [e1]; exact hz), fun q h1 h2 => by rw [e1, hk q (Nat.lt_of_lt_of_le h1 hS.1) (fun z => h2 (hA q z))]; exact hS.2.1 q h1 h2, fun q hq => by
      rcases List.mem_append.mp hq with h | h
      · exact hS.2.2 q h
      · exact hA _ (hL q h)⟩ T' rfl X'
  exact ⟨t2, st t2 a1, b1⟩
/-- what a callee must be: n parameters beside the receiver -/
def rf_ce (y : rf_Me) (n : Nat) : Prop := plainName y.1.cls = true ∧ Cond.code y.1 y.2.1 y.2.2.1 y.2.2.2.1 ∈ wsL_law ∧ Cond.initialized y.1.cls ∈ wsL_law ∧ (y.1.cls ≠ "java/lang/invoke/MethodHandle" ∧ y.1.cls ≠ "java/lang/invoke/VarHandle" ∧ (parseMethodDescriptor y.1.desc).map (fun d => d.parameters.length) = some n) ∧ y.2.2.2.2.cells = 0 ∧ y.2.2.2.2.slots = 0
def rf_ceV (y : rf_Me) (n ci : Nat) : Prop := rf_ce y n ∧ Cond.instanceMethod y.1 ∈ wsL_law ∧ Cond.selects y.1.cls y.1 y.1 ∈ wsL_law ∧ ∃ q : vw_C, vwCl[ci]? = some q ∧ q.1 = y.1.cls
def rf_ceS (y : rf_Me) (n : Nat) : Prop := rf_ce y n ∧ Cond.static y.1 ∈ wsL_law
def rf_rm (y z : rf_Me) : Prop := z.2.2.2.2.frames + 1 ≤ y.2.2.2.2.frames ∧ 8 + (z.2.2.1 + 11) + z.2.2.2.2.locals ≤ y.2.2.2.2.locals
theorem rf_good {z : rf_Me} (h : Cond.code z.1 z.2.1 z.2.2.1 z.2.2.2.1 ∈ wsL_law) : GoodIn wsL_law (rf_ws z) := by
  intro w hw
  rcases List.mem_cons.mp hw with e | e
  · rw [e]; exact wsL_self _ h
  · exact wsL_self _ e
theorem rf_cat (ad : Nat → Nat) (st : List Value) : ((st.map (rf_cv ad)).map fun v => v.category).sum = (st.map fun v => v.category).sum := by
  rw [List.map_map]
  congr 1
  exact List.map_congr_left (fun v _ => rf_cv_cat ad v)
theorem rf_blind {D : va_G} {g : rf_G} {ad : Nat → Nat} {Lay : List rf_Cell} {M : rf_Mem} {sz : Nat} {av : List Value} : FrameBlind (rf_Pre D g ad Lay M sz av) := fun a U f mk q => by
  obtain ⟨q0, q1, qP, qK, qD, qX⟩ := q
  exact ⟨q0, q1, qP, va_K.moved (u := U) (U := U.calling f mk a) (Vm.Alike.refl U.vm) qK, qD, rf_X.same (u := U) (U := U.calling f mk a) rfl qX⟩
/-- the callee's start -/
theorem rf_start {y : rf_Me} {p : Program} {s : State} {m : MethodId} {args : Array Value} {meth : Method} {c : Code} {D : va_G} {g : rf_G} {ad : Nat → Nat} {A : Nat → Prop} {H : Heap} {locs : List Loc} {Lay : List rf_Cell} {M : rf_Mem} (C : rf_cx y p s m args meth c D g ad A) (hP : va_P D vwCl (rf_W g ad M 0 Lay) H) (hD : va_D A (rf_W g ad M 0 Lay)) (hS : va_S A s.heap H locs) (av : List Value) :
    (∀ q, va_A (rf_W g ad M 0 Lay) H.size q → A q) ∧ ∀ U : State, U.heap = H → s.WarmedH U.vm → rf_Pre D g ad Lay M H.size av (av.map (rf_cv ad)).toArray U := by
  have hA : ∀ q, va_A (rf_W g ad M 0 Lay) H.size q → A q := by
    intro q h
    rcases h with ⟨k, e, h⟩ | h
    · exact hD.2 k _ h
    · exact C.2.2.2.2.2.2.2.2.1 q (Nat.le_trans hS.1 h)
  refine ⟨hA, fun U hU hW => ⟨rfl, by rw [hU], by rw [hU]; exact hP, va_K.moved hW.alike C.2.2.2.2.2.2.2.1, hD.weaken (fun _ _ _ _ => trivial), ?_⟩⟩
  rw [hU]
  exact (((C.2.2.2.2.2.2.2.2.2).kept hS.2.1).narrow hA).warm hW
theorem ev_callV {Lay : List rf_Cell} {y : rf_Me} {pc : Nat} {L : List (Option Value)} {st : List Value} {M : rf_Mem} {r : Option Value} {M' : rf_Mem} {y' : rf_Me} {idx n ci q : Nat} {fl : List (Option Nat)} {stk : List Value} {r1 : Option Value} {M1 : rf_Mem} (av : List Value) (hd : decode y.2.1 pc = .ok (.invokevirtual idx, 3)) (hs : stk = av.reverse ++ .ref q :: st) (hc : rf_ceV y' n ci) (hw : Cond.methodLink y.1.cls idx y'.1 ∈ wsL_law) (hrm : rf_rm y y') (hq : Lay[q]? = some (.inl (ci, fl))) (hn : av.length = n) (hst : (st.map fun v => v.category).sum ≤ 8) (hent : (rf_sl (.ref q :: av)).length ≤ y'.2.2.1)
    (hb : Ev Lay y' 0 (rf_ent y'.2.2.1 (.ref q :: av)) [] M r1 M1) (h : Ev Lay y (pc + 3) L (r1.toList ++ st) M1 r M') : Ev Lay y pc L stk M r M' := by
  intro p l e s m args below meth c D g ad A H locs ls C hP hD hS hl
  obtain ⟨⟨g1, g2, g3, g4, g5, g6⟩, g7, g8, qc, g9, g10⟩ := hc
  have hts := C.2.2.2.2.2.2.1
  obtain ⟨hA, hst0⟩ := rf_start C hP hD hS (.ref q :: av)
  have hM := rf_met g1 hent hb l D g ad H.size
  have cw : CallW y.2.2.2.2 s args y.1.cls y'.1.cls idx y'.1 y'.2.1 y'.2.2.1 y'.2.2.2.1 (rf_ws y') y'.2.2.2.2 0 0 n := ⟨callB_of n hts (rf_good g2) rfl g5 g6 (hts _ g3) (hts _ hw) g4 hrm, hts _ g7, hts _ g8⟩
  have hrv : ∃ cellB : Cell, H[ad q]? = some cellB ∧ cellB.vm.isStatics = false ∧ s.vm.findClass y'.1.cls = some cellB.cls := by
    have e := va_recv C.2.2.2.2.2.2.2.1 hP (ci := ci) (q0 := q) g9 (rf_W0 g ad M hq)
    rw [← g10]
    exact e
  refine rf_callW (va_runV (As := av.map (rf_cv ad)) (rest := st.map (rf_cv ad)) ⟨C.1, C.2.1, C.2.2.2.2.1, C.2.2.2.2.2.1, hts⟩ hM cw ⟨rf_blind, hrv, hst0⟩ rfl (by rw [List.length_map]; exact hn) hl.1 (by rw [hs]; simp [List.map_reverse, rf_cv]) (lv_room (by rw [rf_cat]; exact hst)) hd ⟨by rw [Nat.zero_add]; exact Nat.zero_le _, by rw [Nat.zero_add]; exact Nat.zero_le _⟩) hS hA (fun H1 locs1 hP1 hS1 => ?_)
  have h9 := h p l e s m args below meth c D g ad A H1 locs1 ls C hP1 (rf_D hD) hS1 hl
  cases r1 with
  | none => exact h9
  | some v => exact h9
theorem ev_callS {Lay : List rf_Cell} {y : rf_Me} {pc : Nat} {L : List (Option Value)} {st : List Value} {M : rf_Mem} {r : Option Value} {M' : rf_Mem} {y' : rf_Me} {idx n : Nat} {stk : List Value} {r1 : Option Value} {M1 : rf_Mem} (av : List Value) (hd : decode y.2.1 pc = .ok (.invokestatic idx, 3)) (hs : stk = av.reverse ++ st) (hc : rf_ceS y' n) (hw : Cond.methodLink y.1.cls idx y'.1 ∈ wsL_law) (hrm : rf_rm y y') (hn : av.length = n) (hst : (st.map fun v => v.category).sum ≤ 8) (hent : (rf_sl av).length ≤ y'.2.2.1)
    (hb : Ev Lay y' 0 (rf_ent y'.2.2.1 av) [] M r1 M1) (h : Ev Lay y (pc + 3) L (r1.toList ++ st) M1 r M') : Ev Lay y pc L stk M r M' := by
  intro p l e s m args below meth c D g ad A H locs ls C hP hD hS hl
  obtain ⟨⟨g1, g2, g3, g4, g5, g6⟩, g7⟩ := hc
  have hts := C.2.2.2.2.2.2.1
  obtain ⟨hA, hst0⟩ := rf_start C hP hD hS av
  have hM := rf_met g1 hent hb l D g ad H.size
  have cw : CallB y.2.2.2.2 s args y.1.cls idx y'.1 y'.2.1 y'.2.2.1 y'.2.2.2.1 (rf_ws y') y'.2.2.2.2 0 0 n ∧ (Cond.static y'.1).before args s = true := ⟨callB_of n hts (rf_good g2) rfl g5 g6 (hts _ g3) (hts _ hw) g4 hrm, hts _ g7⟩
  refine rf_callW (va_runS (As := av.map (rf_cv ad)) (rest := st.map (rf_cv ad)) ⟨C.1, C.2.1, C.2.2.2.2.1, C.2.2.2.2.2.1, hts⟩ hM cw ⟨rf_blind, hst0⟩ rfl (by rw [List.length_map]; exact hn) hl.1 (by rw [hs]; simp [List.map_reverse]) (lv_room (by rw [rf_cat]; exact hst)) hd ⟨by rw [Nat.zero_add]; exact Nat.zero_le _, by rw [Nat.zero_add]; exact Nat.zero_le _⟩) hS hA (fun H1 locs1 hP1 hS1 => ?_)
  have h9 := h p l e s m args below meth c D g ad A H1 locs1 ls C hP1 (rf_D hD) hS1 hl
  cases r1 with
  | none => exact h9
  | some v => exact h9
/-- the nest's one call: has, out of Requests -/
theorem ev_callN {Lay : List rf_Cell} {y : rf_Me} {pc : Nat} {L : List (Option Value)} {st : List Value} {M : rf_Mem} {r : Option Value} {M' : rf_Mem} {y' : rf_Me} {n : Nat} {stk : List Value} {r1 : Option Value} {M1 : rf_Mem} (av : List Value) (hd : decode y.2.1 pc = .ok (.invokestatic 26, 3)) (hs : stk = av.reverse ++ st) (hc : rf_ceS y' n) (hy : y.1.cls = RX3) (hy' : y'.1 = yX6_has) (hrm : rf_rm y y') (hn : av.length = n) (hst : (st.map fun v => v.category).sum ≤ 8) (hent : (rf_sl av).length ≤ y'.2.2.1)
    (hb : Ev Lay y' 0 (rf_ent y'.2.2.1 av) [] M r1 M1) (h : Ev Lay y (pc + 3) L (r1.toList ++ st) M1 r M') : Ev Lay y pc L stk M r M' := by
  intro p l e s m args below meth c D g ad A H locs ls C hP hD hS hl
  obtain ⟨⟨g1, g2, g3, g4, g5, g6⟩, g7⟩ := hc
  have hts := C.2.2.2.2.2.2.1
  obtain ⟨hA, hst0⟩ := rf_start C hP hD hS av
  have hM := rf_met g1 hent hb l D g ad H.size
  have hN : va_Nw (.methodLinkNest RX3 26 y'.1 RX6) s := by rw [hy']; exact C.2.2.2.2.2.2.2.2.2.1
  have cw : va_CN y.2.2.2.2 s args RX3 26 y'.1 RX6 y'.2.1 y'.2.2.1 y'.2.2.2.1 (rf_ws y') y'.2.2.2.2 0 0 n ∧ (Cond.static y'.1).before args s = true ∧ True := ⟨va_cnB n hts (rf_good g2) rfl g5 g6 hN (hts _ g3) g4 hrm, hts _ g7, trivial⟩
  refine rf_callW (va_runSN (As := av.map (rf_cv ad)) (rest := st.map (rf_cv ad)) ⟨C.1, C.2.1, C.2.2.2.2.1, hy ▸ C.2.2.2.2.2.1, hts⟩ hM cw ⟨rf_blind, hst0⟩ rfl (by rw [List.length_map]; exact hn) hl.1 (by rw [hs]; simp [List.map_reverse]) (lv_room (by rw [rf_cat]; exact hst)) hd ⟨by rw [Nat.zero_add]; exact Nat.zero_le _, by rw [Nat.zero_add]; exact Nat.zero_le _⟩) hS hA (fun H1 locs1 hP1 hS1 => ?_)
  have h9 := h p l e s m args below meth c D g ad A H1 locs1 ls C hP1 (rf_D hD) hS1 hl
  cases r1 with
  | none => exact h9
  | some v => exact h9
theorem ev_tabI {Lay : List rf_Cell} {y : rf_Me} {pc : Nat} {L : List (Option Value)} {st : List Value} {M : rf_Mem} {r : Option Value} {M' : rf_Mem} {dflt lo hi off : Int} {offs : Array Int} {len : Nat} {x : Int32} (tgt : Nat) (hd : decode y.2.1 pc = .ok (.tableswitch dflt lo hi offs, len)) (h1 : ¬ x.toInt < lo) (h2 : ¬ hi < x.toInt) (ho : offs[(x.toInt - lo).toNat]? = some off) (ht : (pc : Int) + off = (tgt : Int)) (h : Ev Lay y tgt L st M r M') : Ev Lay y pc L (.int x :: st) M r M' := by
  intro p l e s m args below meth c D g ad A H locs ls C hP hD hS hl
  exact lv_tableIn C.1 C.2.1 hd h1 h2 ho ht (h p l e s m args below meth c D g ad A H locs ls C hP hD hS hl)
theorem ev_tabO {Lay : List rf_Cell} {y : rf_Me} {pc : Nat} {L : List (Option Value)} {st : List Value} {M : rf_Mem} {r : Option Value} {M' : rf_Mem} {dflt lo hi : Int} {offs : Array Int} {len : Nat} {x : Int32} (tgt : Nat) (hd : decode y.2.1 pc = .ok (.tableswitch dflt lo hi offs, len)) (h1 : x.toInt < lo ∨ hi < x.toInt) (ht : (pc : Int) + dflt = (tgt : Int)) (h : Ev Lay y tgt L st M r M') : Ev Lay y pc L (.int x :: st) M r M' := by
  intro p l e s m args below meth c D g ad A H locs ls C hP hD hS hl
  exact lv_tableOut C.1 C.2.1 hd h1 ht (h p l e s m args below meth c D g ad A H locs ls C hP hD hS hl)
theorem ev_look {Lay : List rf_Cell} {y : rf_Me} {pc : Nat} {L : List (Option Value)} {st : List Value} {M : rf_Mem} {r : Option Value} {M' : rf_Mem} {dflt off : Int} {ps : Array (Int × Int)} {len : Nat} {x : Int32} (tgt : Nat) (hd : decode y.2.1 pc = .ok (.lookupswitch dflt ps, len)) (hp : (ps.toList.zip (ps.toList.drop 1)).all (fun (a, next) => a.1 < next.1) = true) (ho : Op.lookupswitch.offset ps.toList dflt x.toInt = off) (ht : (pc : Int) + off = (tgt : Int)) (h : Ev Lay y tgt L st M r M') : Ev Lay y pc L (.int x :: st) M r M' := by
  intro p l e s m args below meth c D g ad A H locs ls C hP hD hS hl
  exact lv_lookup C.1 C.2.1 hd hp ho ht (h p l e s m args below meth c D g ad A H locs ls C hP hD hS hl)
