theorem ev_cV0 {Lay : List rf_Cell} {y : rf_Me} {pc : Nat} {L : List (Option Value)} {st : List Value} {M : rf_Mem} {r : Option Value} {M' : rf_Mem} {y' : rf_Me} {idx ci q : Nat} {fl : List (Option Nat)} {w : Value} {M1 : rf_Mem} (hd : decode y.2.1 pc = .ok (.invokevirtual idx, 3)) (hc : rf_ceV y' 0 ci) (hw : Cond.methodLink y.1.cls idx y'.1 ∈ wsL_law) (hrm : rf_rm y y') (hst : (st.map fun v => v.category).sum ≤ 8) (hent : (rf_sl [.ref q]).length ≤ y'.2.2.1) (hb : Ev Lay y' 0 (rf_ent y'.2.2.1 [.ref q]) [] M (some w) M1) (hq : Lay[q]? = some (.inl (ci, fl))) (h : Ev Lay y (pc + 3) L (w :: st) M1 r M') : Ev Lay y pc L (.ref q :: st) M r M' :=
  ev_callV [] hd rfl hc hw hrm hq rfl hst hent hb h
theorem ev_cV0v {Lay : List rf_Cell} {y : rf_Me} {pc : Nat} {L : List (Option Value)} {st : List Value} {M : rf_Mem} {r : Option Value} {M' : rf_Mem} {y' : rf_Me} {idx ci q : Nat} {fl : List (Option Nat)} {M1 : rf_Mem} (hd : decode y.2.1 pc = .ok (.invokevirtual idx, 3)) (hc : rf_ceV y' 0 ci) (hw : Cond.methodLink y.1.cls idx y'.1 ∈ wsL_law) (hrm : rf_rm y y') (hst : (st.map fun v => v.category).sum ≤ 8) (hent : (rf_sl [.ref q]).length ≤ y'.2.2.1) (hb : Ev Lay y' 0 (rf_ent y'.2.2.1 [.ref q]) [] M none M1) (hq : Lay[q]? = some (.inl (ci, fl))) (h : Ev Lay y (pc + 3) L st M1 r M') : Ev Lay y pc L (.ref q :: st) M r M' :=
  ev_callV [] hd rfl hc hw hrm hq rfl hst hent hb h
theorem ev_cV1 {Lay : List rf_Cell} {y : rf_Me} {pc : Nat} {L : List (Option Value)} {st : List Value} {M : rf_Mem} {r : Option Value} {M' : rf_Mem} {y' : rf_Me} {idx ci q : Nat} {fl : List (Option Nat)} {v1 : Value} {w : Value} {M1 : rf_Mem} (hd : decode y.2.1 pc = .ok (.invokevirtual idx, 3)) (hc : rf_ceV y' 1 ci) (hw : Cond.methodLink y.1.cls idx y'.1 ∈ wsL_law) (hrm : rf_rm y y') (hst : (st.map fun v => v.category).sum ≤ 8) (hent : (rf_sl [.ref q, v1]).length ≤ y'.2.2.1) (hb : Ev Lay y' 0 (rf_ent y'.2.2.1 [.ref q, v1]) [] M (some w) M1) (hq : Lay[q]? = some (.inl (ci, fl))) (h : Ev Lay y (pc + 3) L (w :: st) M1 r M') : Ev Lay y pc L (v1 :: .ref q :: st) M r M' :=
  ev_callV [v1] hd rfl hc hw hrm hq rfl hst hent hb h
theorem ev_cV1v {Lay : List rf_Cell} {y : rf_Me} {pc : Nat} {L : List (Option Value)} {st : List Value} {M : rf_Mem} {r : Option Value} {M' : rf_Mem} {y' : rf_Me} {idx ci q : Nat} {fl : List (Option Nat)} {v1 : Value} {M1 : rf_Mem} (hd : decode y.2.1 pc = .ok (.invokevirtual idx, 3)) (hc : rf_ceV y' 1 ci) (hw : Cond.methodLink y.1.cls idx y'.1 ∈ wsL_law) (hrm : rf_rm y y') (hst : (st.map fun v => v.category).sum ≤ 8) (hent : (rf_sl [.ref q, v1]).length ≤ y'.2.2.1) (hb : Ev Lay y' 0 (rf_ent y'.2.2.1 [.ref q, v1]) [] M none M1) (hq : Lay[q]? = some (.inl (ci, fl))) (h : Ev Lay y (pc + 3) L st M1 r M') : Ev Lay y pc L (v1 :: .ref q :: st) M r M' :=
  ev_callV [v1] hd rfl hc hw hrm hq rfl hst hent hb h
theorem ev_cS1 {Lay : List rf_Cell} {y : rf_Me} {pc : Nat} {L : List (Option Value)} {st : List Value} {M : rf_Mem} {r : Option Value} {M' : rf_Mem} {y' : rf_Me} {idx : Nat} {v1 : Value} {w : Value} {M1 : rf_Mem} (hd : decode y.2.1 pc = .ok (.invokestatic idx, 3)) (hc : rf_ceS y' 1) (hw : Cond.methodLink y.1.cls idx y'.1 ∈ wsL_law) (hrm : rf_rm y y') (hst : (st.map fun v => v.category).sum ≤ 8) (hent : (rf_sl [v1]).length ≤ y'.2.2.1) (hb : Ev Lay y' 0 (rf_ent y'.2.2.1 [v1]) [] M (some w) M1) (h : Ev Lay y (pc + 3) L (w :: st) M1 r M') : Ev Lay y pc L (v1 :: st) M r M' :=
  ev_callS [v1] hd rfl hc hw hrm rfl hst hent hb h
theorem ev_cS1v {Lay : List rf_Cell} {y : rf_Me} {pc : Nat} {L : List (Option Value)} {st : List Value} {M : rf_Mem} {r : Option Value} {M' : rf_Mem} {y' : rf_Me} {idx : Nat} {v1 : Value} {M1 : rf_Mem} (hd : decode y.2.1 pc = .ok (.invokestatic idx, 3)) (hc : rf_ceS y' 1) (hw : Cond.methodLink y.1.cls idx y'.1 ∈ wsL_law) (hrm : rf_rm y y') (hst : (st.map fun v => v.category).sum ≤ 8) (hent : (rf_sl [v1]).length ≤ y'.2.2.1) (hb : Ev Lay y' 0 (rf_ent y'.2.2.1 [v1]) [] M none M1) (h : Ev Lay y (pc + 3) L st M1 r M') : Ev Lay y pc L (v1 :: st) M r M' :=
  ev_callS [v1] hd rfl hc hw hrm rfl hst hent hb h
theorem ev_cV2 {Lay : List rf_Cell} {y : rf_Me} {pc : Nat} {L : List (Option Value)} {st : List Value} {M : rf_Mem} {r : Option Value} {M' : rf_Mem} {y' : rf_Me} {idx ci q : Nat} {fl : List (Option Nat)} {v1 v2 : Value} {w : Value} {M1 : rf_Mem} (hd : decode y.2.1 pc = .ok (.invokevirtual idx, 3)) (hc : rf_ceV y' 2 ci) (hw : Cond.methodLink y.1.cls idx y'.1 ∈ wsL_law) (hrm : rf_rm y y') (hst : (st.map fun v => v.category).sum ≤ 8) (hent : (rf_sl [.ref q, v1, v2]).length ≤ y'.2.2.1) (hb : Ev Lay y' 0 (rf_ent y'.2.2.1 [.ref q, v1, v2]) [] M (some w) M1) (hq : Lay[q]? = some (.inl (ci, fl))) (h : Ev Lay y (pc + 3) L (w :: st) M1 r M') : Ev Lay y pc L (v2 :: v1 :: .ref q :: st) M r M' :=
  ev_callV [v1, v2] hd rfl hc hw hrm hq rfl hst hent hb h
theorem ev_cV2v {Lay : List rf_Cell} {y : rf_Me} {pc : Nat} {L : List (Option Value)} {st : List Value} {M : rf_Mem} {r : Option Value} {M' : rf_Mem} {y' : rf_Me} {idx ci q : Nat} {fl : List (Option Nat)} {v1 v2 : Value} {M1 : rf_Mem} (hd : decode y.2.1 pc = .ok (.invokevirtual idx, 3)) (hc : rf_ceV y' 2 ci) (hw : Cond.methodLink y.1.cls idx y'.1 ∈ wsL_law) (hrm : rf_rm y y') (hst : (st.map fun v => v.category).sum ≤ 8) (hent : (rf_sl [.ref q, v1, v2]).length ≤ y'.2.2.1) (hb : Ev Lay y' 0 (rf_ent y'.2.2.1 [.ref q, v1, v2]) [] M none M1) (hq : Lay[q]? = some (.inl (ci, fl))) (h : Ev Lay y (pc + 3) L st M1 r M') : Ev Lay y pc L (v2 :: v1 :: .ref q :: st) M r M' :=
  ev_callV [v1, v2] hd rfl hc hw hrm hq rfl hst hent hb h
theorem ev_cS2 {Lay : List rf_Cell} {y : rf_Me} {pc : Nat} {L : List (Option Value)} {st : List Value} {M : rf_Mem} {r : Option Value} {M' : rf_Mem} {y' : rf_Me} {idx : Nat} {v1 v2 : Value} {w : Value} {M1 : rf_Mem} (hd : decode y.2.1 pc = .ok (.invokestatic idx, 3)) (hc : rf_ceS y' 2) (hw : Cond.methodLink y.1.cls idx y'.1 ∈ wsL_law) (hrm : rf_rm y y') (hst : (st.map fun v => v.category).sum ≤ 8) (hent : (rf_sl [v1, v2]).length ≤ y'.2.2.1) (hb : Ev Lay y' 0 (rf_ent y'.2.2.1 [v1, v2]) [] M (some w) M1) (h : Ev Lay y (pc + 3) L (w :: st) M1 r M') : Ev Lay y pc L (v2 :: v1 :: st) M r M' :=
  ev_callS [v1, v2] hd rfl hc hw hrm rfl hst hent hb h
theorem ev_cS2v {Lay : List rf_Cell} {y : rf_Me} {pc : Nat} {L : List (Option Value)} {st : List Value} {M : rf_Mem} {r : Option Value} {M' : rf_Mem} {y' : rf_Me} {idx : Nat} {v1 v2 : Value} {M1 : rf_Mem} (hd : decode y.2.1 pc = .ok (.invokestatic idx, 3)) (hc : rf_ceS y' 2) (hw : Cond.methodLink y.1.cls idx y'.1 ∈ wsL_law) (hrm : rf_rm y y') (hst : (st.map fun v => v.category).sum ≤ 8) (hent : (rf_sl [v1, v2]).length ≤ y'.2.2.1) (hb : Ev Lay y' 0 (rf_ent y'.2.2.1 [v1, v2]) [] M none M1) (h : Ev Lay y (pc + 3) L st M1 r M') : Ev Lay y pc L (v2 :: v1 :: st) M r M' :=
  ev_callS [v1, v2] hd rfl hc hw hrm rfl hst hent hb h
theorem ev_cV3 {Lay : List rf_Cell} {y : rf_Me} {pc : Nat} {L : List (Option Value)} {st : List Value} {M : rf_Mem} {r : Option Value} {M' : rf_Mem} {y' : rf_Me} {idx ci q : Nat} {fl : List (Option Nat)} {v1 v2 v3 : Value} {w : Value} {M1 : rf_Mem} (hd : decode y.2.1 pc = .ok (.invokevirtual idx, 3)) (hc : rf_ceV y' 3 ci) (hw : Cond.methodLink y.1.cls idx y'.1 ∈ wsL_law) (hrm : rf_rm y y') (hst : (st.map fun v => v.category).sum ≤ 8) (hent : (rf_sl [.ref q, v1, v2, v3]).length ≤ y'.2.2.1) (hb : Ev Lay y' 0 (rf_ent y'.2.2.1 [.ref q, v1, v2, v3]) [] M (some w) M1) (hq : Lay[q]? = some (.inl (ci, fl))) (h : Ev Lay y (pc + 3) L (w :: st) M1 r M') : Ev Lay y pc L (v3 :: v2 :: v1 :: .ref q :: st) M r M' :=
  ev_callV [v1, v2, v3] hd rfl hc hw hrm hq rfl hst hent hb h
theorem ev_cV3v {Lay : List rf_Cell} {y : rf_Me} {pc : Nat} {L : List (Option Value)} {st : List Value} {M : rf_Mem} {r : Option Value} {M' : rf_Mem} {y' : rf_Me} {idx ci q : Nat} {fl : List (Option Nat)} {v1 v2 v3 : Value} {M1 : rf_Mem} (hd : decode y.2.1 pc = .ok (.invokevirtual idx, 3)) (hc : rf_ceV y' 3 ci) (hw : Cond.methodLink y.1.cls idx y'.1 ∈ wsL_law) (hrm : rf_rm y y') (hst : (st.map fun v => v.category).sum ≤ 8) (hent : (rf_sl [.ref q, v1, v2, v3]).length ≤ y'.2.2.1) (hb : Ev Lay y' 0 (rf_ent y'.2.2.1 [.ref q, v1, v2, v3]) [] M none M1) (hq : Lay[q]? = some (.inl (ci, fl))) (h : Ev Lay y (pc + 3) L st M1 r M') : Ev Lay y pc L (v3 :: v2 :: v1 :: .ref q :: st) M r M' :=
  ev_callV [v1, v2, v3] hd rfl hc hw hrm hq rfl hst hent hb h
theorem ev_cS3 {Lay : List rf_Cell} {y : rf_Me} {pc : Nat} {L : List (Option Value)} {st : List Value} {M : rf_Mem} {r : Option Value} {M' : rf_Mem} {y' : rf_Me} {idx : Nat} {v1 v2 v3 : Value} {w : Value} {M1 : rf_Mem} (hd : decode y.2.1 pc = .ok (.invokestatic idx, 3)) (hc : rf_ceS y' 3) (hw : Cond.methodLink y.1.cls idx y'.1 ∈ wsL_law) (hrm : rf_rm y y') (hst : (st.map fun v => v.category).sum ≤ 8) (hent : (rf_sl [v1, v2, v3]).length ≤ y'.2.2.1) (hb : Ev Lay y' 0 (rf_ent y'.2.2.1 [v1, v2, v3]) [] M (some w) M1) (h : Ev Lay y (pc + 3) L (w :: st) M1 r M') : Ev Lay y pc L (v3 :: v2 :: v1 :: st) M r M' :=
  ev_callS [v1, v2, v3] hd rfl hc hw hrm rfl hst hent hb h
theorem ev_cS3v {Lay : List rf_Cell} {y : rf_Me} {pc : Nat} {L : List (Option Value)} {st : List Value} {M : rf_Mem} {r : Option Value} {M' : rf_Mem} {y' : rf_Me} {idx : Nat} {v1 v2 v3 : Value} {M1 : rf_Mem} (hd : decode y.2.1 pc = .ok (.invokestatic idx, 3)) (hc : rf_ceS y' 3) (hw : Cond.methodLink y.1.cls idx y'.1 ∈ wsL_law) (hrm : rf_rm y y') (hst : (st.map fun v => v.category).sum ≤ 8) (hent : (rf_sl [v1, v2, v3]).length ≤ y'.2.2.1) (hb : Ev Lay y' 0 (rf_ent y'.2.2.1 [v1, v2, v3]) [] M none M1) (h : Ev Lay y (pc + 3) L st M1 r M') : Ev Lay y pc L (v3 :: v2 :: v1 :: st) M r M' :=
  ev_callS [v1, v2, v3] hd rfl hc hw hrm rfl hst hent hb h
theorem ev_cV4 {Lay : List rf_Cell} {y : rf_Me} {pc : Nat} {L : List (Option Value)} {st : List Value} {M : rf_Mem} {r : Option Value} {M' : rf_Mem} {y' : rf_Me} {idx ci q : Nat} {fl : List (Option Nat)} {v1 v2 v3 v4 : Value} {w : Value} {M1 : rf_Mem} (hd : decode y.2.1 pc = .ok (.invokevirtual idx, 3)) (hc : rf_ceV y' 4 ci) (hw : Cond.methodLink y.1.cls idx y'.1 ∈ wsL_law) (hrm : rf_rm y y') (hst : (st.map fun v => v.category).sum ≤ 8) (hent : (rf_sl [.ref q, v1, v2, v3, v4]).length ≤ y'.2.2.1) (hb : Ev Lay y' 0 (rf_ent y'.2.2.1 [.ref q, v1, v2, v3, v4]) [] M (some w) M1) (hq : Lay[q]? = some (.inl (ci, fl))) (h : Ev Lay y (pc + 3) L (w :: st) M1 r M') : Ev Lay y pc L (v4 :: v3 :: v2 :: v1 :: .ref q :: st) M r M' :=
  ev_callV [v1, v2, v3, v4] hd rfl hc hw hrm hq rfl hst hent hb h
theorem ev_cV4v {Lay : List rf_Cell} {y : rf_Me} {pc : Nat} {L : List (Option Value)} {st : List Value} {M : rf_Mem} {r : Option Value} {M' : rf_Mem} {y' : rf_Me} {idx ci q : Nat} {fl : List (Option Nat)} {v1 v2 v3 v4 : Value} {M1 : rf_Mem} (hd : decode y.2.1 pc = .ok (.invokevirtual idx, 3)) (hc : rf_ceV y' 4 ci) (hw : Cond.methodLink y.1.cls idx y'.1 ∈ wsL_law) (hrm : rf_rm y y') (hst : (st.map fun v => v.category).sum ≤ 8) (hent : (rf_sl [.ref q, v1, v2, v3, v4]).length ≤ y'.2.2.1) (hb : Ev Lay y' 0 (rf_ent y'.2.2.1 [.ref q, v1, v2, v3, v4]) [] M none M1) (hq : Lay[q]? = some (.inl (ci, fl))) (h : Ev Lay y (pc + 3) L st M1 r M') : Ev Lay y pc L (v4 :: v3 :: v2 :: v1 :: .ref q :: st) M r M' :=
  ev_callV [v1, v2, v3, v4] hd rfl hc hw hrm hq rfl hst hent hb h
theorem ev_cS4 {Lay : List rf_Cell} {y : rf_Me} {pc : Nat} {L : List (Option Value)} {st : List Value} {M : rf_Mem} {r : Option Value} {M' : rf_Mem} {y' : rf_Me} {idx : Nat} {v1 v2 v3 v4 : Value} {w : Value} {M1 : rf_Mem} (hd : decode y.2.1 pc = .ok (.invokestatic idx, 3)) (hc : rf_ceS y' 4) (hw : Cond.methodLink y.1.cls idx y'.1 ∈ wsL_law) (hrm : rf_rm y y') (hst : (st.map fun v => v.category).sum ≤ 8) (hent : (rf_sl [v1, v2, v3, v4]).length ≤ y'.2.2.1) (hb : Ev Lay y' 0 (rf_ent y'.2.2.1 [v1, v2, v3, v4]) [] M (some w) M1) (h : Ev Lay y (pc + 3) L (w :: st) M1 r M') : Ev Lay y pc L (v4 :: v3 :: v2 :: v1 :: st) M r M' :=
  ev_callS [v1, v2, v3, v4] hd rfl hc hw hrm rfl hst hent hb h
theorem ev_cS4v {Lay : List rf_Cell} {y : rf_Me} {pc : Nat} {L : List (Option Value)} {st : List Value} {M : rf_Mem} {r : Option Value} {M' : rf_Mem} {y' : rf_Me} {idx : Nat} {v1 v2 v3 v4 : Value} {M1 : rf_Mem} (hd : decode y.2.1 pc = .ok (.invokestatic idx, 3)) (hc : rf_ceS y' 4) (hw : Cond.methodLink y.1.cls idx y'.1 ∈ wsL_law) (hrm : rf_rm y y') (hst : (st.map fun v => v.category).sum ≤ 8) (hent : (rf_sl [v1, v2, v3, v4]).length ≤ y'.2.2.1) (hb : Ev Lay y' 0 (rf_ent y'.2.2.1 [v1, v2, v3, v4]) [] M none M1) (h : Ev Lay y (pc + 3) L st M1 r M') : Ev Lay y pc L (v4 :: v3 :: v2 :: v1 :: st) M r M' :=
  ev_callS [v1, v2, v3, v4] hd rfl hc hw hrm rfl hst hent hb h
theorem ev_cV8 {Lay : List rf_Cell} {y : rf_Me} {pc : Nat} {L : List (Option Value)} {st : List Value} {M : rf_Mem} {r : Option Value} {M' : rf_Mem} {y' : rf_Me} {idx ci q : Nat} {fl : List (Option Nat)} {v1 v2 v3 v4 v5 v6 v7 v8 : Value} {w : Value} {M1 : rf_Mem} (hd : decode y.2.1 pc = .ok (.invokevirtual idx, 3)) (hc : rf_ceV y' 8 ci) (hw : Cond.methodLink y.1.cls idx y'.1 ∈ wsL_law) (hrm : rf_rm y y') (hst : (st.map fun v => v.category).sum ≤ 8) (hent : (rf_sl [.ref q, v1, v2, v3, v4, v5, v6, v7, v8]).length ≤ y'.2.2.1) (hb : Ev Lay y' 0 (rf_ent y'.2.2.1 [.ref q, v1, v2, v3, v4, v5, v6, v7, v8]) [] M (some w) M1) (hq : Lay[q]? = some (.inl (ci, fl))) (h : Ev Lay y (pc + 3) L (w :: st) M1 r M') : Ev Lay y pc L (v8 :: v7 :: v6 :: v5 :: v4 :: v3 :: v2 :: v1 :: .ref q :: st) M r M' :=
  ev_callV [v1, v2, v3, v4, v5, v6, v7, v8] hd rfl hc hw hrm hq rfl hst hent hb h
theorem ev_cN2 {Lay : List rf_Cell} {y : rf_Me} {pc : Nat} {L : List (Option Value)} {st : List Value} {M : rf_Mem} {r : Option Value} {M' : rf_Mem} {y' : rf_Me} {v1 v2 : Value} {w : Value} {M1 : rf_Mem} (hd : decode y.2.1 pc = .ok (.invokestatic 26, 3)) (hc : rf_ceS y' 2) (hy : y.1.cls = RX3) (hy' : y'.1 = yX6_has) (hrm : rf_rm y y') (hst : (st.map fun v => v.category).sum ≤ 8) (hent : (rf_sl [v1, v2]).length ≤ y'.2.2.1) (hb : Ev Lay y' 0 (rf_ent y'.2.2.1 [v1, v2]) [] M (some w) M1) (h : Ev Lay y (pc + 3) L (w :: st) M1 r M') : Ev Lay y pc L (v2 :: v1 :: st) M r M' :=
  ev_callN [v1, v2] hd rfl hc hy hy' hrm rfl hst hent hb h
theorem ev_ialdE {Lay : List rf_Cell} {y : rf_Me} {pc : Nat} {L : List (Option Value)} {st : List Value} {M : rf_Mem} {r : Option Value} {M' : rf_Mem} {q n : Nat} {i : Int32} (p : Nat) (hd : decode y.2.1 pc = .ok (.iaload, 1)) (hi : i = nI p) (hq : Lay[q]? = some (.inr (.inl (n, 0)))) (hp : p < n ∧ n < 2 ^ 31) (h : Ev Lay y (pc + 1) L (.int (M q p) :: st) M r M') : Ev Lay y pc L (.int i :: .ref q :: st) M r M' := by
  subst hi
  refine ev_iald hd hq (vp_in_nI hp.1 hp.2) ?_
  rw [nI_clamp (Nat.lt_trans hp.1 hp.2)]
  exact h
theorem ev_zaldE {Lay : List rf_Cell} {y : rf_Me} {pc : Nat} {L : List (Option Value)} {st : List Value} {M : rf_Mem} {r : Option Value} {M' : rf_Mem} {q n : Nat} {i : Int32} (p : Nat) (hd : decode y.2.1 pc = .ok (.baload, 1)) (hi : i = nI p) (hq : Lay[q]? = some (.inr (.inl (n, 1)))) (hp : p < n ∧ n < 2 ^ 31) (h : Ev Lay y (pc + 1) L (.int (M q p) :: st) M r M') : Ev Lay y pc L (.int i :: .ref q :: st) M r M' := by
  subst hi
  refine ev_zald hd hq (vp_in_nI hp.1 hp.2) ?_
  rw [nI_clamp (Nat.lt_trans hp.1 hp.2)]
  exact h
theorem ev_iastE {Lay : List rf_Cell} {y : rf_Me} {pc : Nat} {L : List (Option Value)} {st : List Value} {M : rf_Mem} {r : Option Value} {M' : rf_Mem} {q n : Nat} {i x : Int32} (p : Nat) (hd : decode y.2.1 pc = .ok (.iastore, 1)) (hi : i = nI p) (hq : Lay[q]? = some (.inr (.inl (n, 0)))) (hp : p < n ∧ n < 2 ^ 31) (h : Ev Lay y (pc + 1) L st (rf_set M q p x) r M') : Ev Lay y pc L (.int x :: .int i :: .ref q :: st) M r M' := by
  subst hi
  refine ev_iast hd hq (vp_in_nI hp.1 hp.2) ?_
  rw [nI_clamp (Nat.lt_trans hp.1 hp.2)]
  exact h
theorem ev_zastE {Lay : List rf_Cell} {y : rf_Me} {pc : Nat} {L : List (Option Value)} {st : List Value} {M : rf_Mem} {r : Option Value} {M' : rf_Mem} {q n : Nat} {i x : Int32} (p : Nat) (hd : decode y.2.1 pc = .ok (.bastore, 1)) (hi : i = nI p) (hq : Lay[q]? = some (.inr (.inl (n, 1)))) (hp : p < n ∧ n < 2 ^ 31) (h : Ev Lay y (pc + 1) L st (rf_set M q p (vp_nar .boolean x)) r M') : Ev Lay y pc L (.int x :: .int i :: .ref q :: st) M r M' := by
  subst hi
  refine ev_zast hd hq (vp_in_nI hp.1 hp.2) ?_
  rw [nI_clamp (Nat.lt_trans hp.1 hp.2)]
  exact h
theorem ev_iretE {Lay : List rf_Cell} {y : rf_Me} {pc : Nat} {L : List (Option Value)} {M : rf_Mem} {r : Option Value} {M' : rf_Mem} {x : Int32} {ty : FieldType} (hd : decode y.2.1 pc = .ok (.ireturn, 1)) (hr : y.2.2.2.1 = some ty) (hn : narrow ty (.int x) = .int x) (h1 : some (.int x) = r) (h2 : M = M') : Ev Lay y pc L [.int x] M r M' := by
  subst h1
  subst h2
  exact ev_iret (st := []) (r := none) (M' := M) hd hr hn
theorem ev_vretE {Lay : List rf_Cell} {y : rf_Me} {pc : Nat} {L : List (Option Value)} {M : rf_Mem} {r : Option Value} {M' : rf_Mem} (hd : decode y.2.1 pc = .ok (.return_, 1)) (hr : y.2.2.2.1 = none) (h1 : none = r) (h2 : M = M') : Ev Lay y pc L [] M r M' := by
  subst h1
  subst h2
  exact ev_vret (st := []) (r := none) (M' := M) hd hr
/-- another name for the same state -/
theorem ev_st {Lay : List rf_Cell} {y : rf_Me} {pc : Nat} {L L2 : List (Option Value)} {st st2 : List Value} {M M2 : rf_Mem} {r : Option Value} {M' : rf_Mem} (h : Ev Lay y pc L2 st2 M2 r M') (e1 : L = L2) (e2 : st = st2) (e3 : M = M2) : Ev Lay y pc L st M r M' := by
  subst e1; subst e2; subst e3; exact h
/-- a counted loop, down from its end -/
theorem ev_for {Lay : List rf_Cell} {y : rf_Me} {pc : Nat} {r : Option Value} {M' : rf_Mem} (n : Nat) (L : Nat → List (Option Value)) (M : Nat → rf_Mem) (hx : Ev Lay y pc (L n) [] (M n) r M') (hs : ∀ i, i < n → Ev Lay y pc (L (i + 1)) [] (M (i + 1)) r M' → Ev Lay y pc (L i) [] (M i) r M') : ∀ i, i ≤ n → Ev Lay y pc (L i) [] (M i) r M' := by
  intro i hi
  obtain ⟨d, hd⟩ : ∃ d, n - i = d := ⟨_, rfl⟩
  induction d generalizing i with
  | zero =>
    have e : i = n := by omega
    subst e
    exact hx
  | succ d ih => exact hs i (by omega) (ih (i + 1) (by omega) (by omega))
/-! the layouts -/
def stF (q : Nat) : List (Option Nat) := [some 8, some (q + 8), some (q + 1), some (q + 2), some (q + 3), some (q + 4), some (q + 5), some (q + 6), some (q + 7), none, none, none]
def stB (q : Nat) : List rf_Cell := [.inl (5, stF q), .inr (.inl (40, 0)), .inr (.inl (40, 0)), .inr (.inl (40, 0)), .inr (.inl (40, 0)), .inr (.inl (128, 0)), .inr (.inl (128, 0)), .inr (.inl (16, 0)), .inl (2, [some (q + 9), some (q + 10), some (q + 11), none]), .inr (.inl (300, 0)), .inr (.inl (300, 0)), .inr (.inl (300, 0))]
def LayC : List rf_Cell := [
  .inl (6, [some 1, some 3, some 8, some 21, some 33, some 13, none, some 14, some 18, some 19, none, some 20]),
  .inl (4, [some 2, none, none, none, none]), .inr (.inl (400, 0)),
  .inl (1, [some 4, some 5, some 6, some 7, none, none, none, none]), .inr (.inl (16, 0)), .inr (.inl (16, 0)), .inr (.inl (8, 0)), .inr (.inl (8, 0)),
  .inl (1, [some 9, some 10, some 11, some 12, none, none, none, none]), .inr (.inl (16, 0)), .inr (.inl (16, 0)), .inr (.inl (8, 0)), .inr (.inl (8, 0)),
  .inr (.inr [45, 57]),
  .inl (3, [some 15, some 16, some 17, none]), .inr (.inl (10, 0)), .inr (.inl (10, 0)), .inr (.inl (10, 0)),
  .inl (0, [none, none, none]), .inr (.inl (60, 0)), .inr (.inl (41, 0))] ++ stB 21 ++ stB 33 ++ stB 45 ++ stB 57
def LayM : List rf_Cell := [
  .inl (7, [some 1, some 2, some 3, some 4, some 5, some 6, some 7, none, none, none, some 8, none, none, none, none, none, none, none, some 9, some 10, some 11, none, some 12, some 13, none]),
  .inr (.inl (6000, 0)), .inr (.inl (2, 1)), .inr (.inl (32, 0)), .inr (.inl (32, 0)), .inr (.inl (16, 0)), .inr (.inl (16, 0)), .inr (.inl (4, 0)), .inr (.inl (400, 0)), .inr (.inl (10, 0)), .inr (.inl (10, 0)), .inr (.inl (10, 0)), .inr (.inl (42, 0)), .inr (.inl (60, 0))]
/-- a state's block in the layout -/
def st_ok (q : Nat) : Prop := LayC[q]? = some (.inl (5, stF q)) ∧ LayC[q + 1]? = some (.inr (.inl (40, 0))) ∧ LayC[q + 2]? = some (.inr (.inl (40, 0))) ∧ LayC[q + 3]? = some (.inr (.inl (40, 0))) ∧ LayC[q + 4]? = some (.inr (.inl (40, 0))) ∧ LayC[q + 5]? = some (.inr (.inl (128, 0))) ∧ LayC[q + 6]? = some (.inr (.inl (128, 0))) ∧ LayC[q + 7]? = some (.inr (.inl (16, 0))) ∧ LayC[q + 8]? = some (.inl (2, [some (q + 9), some (q + 10), some (q + 11), none])) ∧ LayC[q + 9]? = some (.inr (.inl (300, 0))) ∧ LayC[q + 10]? = some (.inr (.inl (300, 0))) ∧ LayC[q + 11]? = some (.inr (.inl (300, 0))) ∧ 20 < q
theorem st_21 : st_ok 21 := ⟨rfl, rfl, rfl, rfl, rfl, rfl, rfl, rfl, rfl, rfl, rfl, rfl, by decide⟩
theorem st_33 : st_ok 33 := ⟨rfl, rfl, rfl, rfl, rfl, rfl, rfl, rfl, rfl, rfl, rfl, rfl, by decide⟩
theorem st_45 : st_ok 45 := ⟨rfl, rfl, rfl, rfl, rfl, rfl, rfl, rfl, rfl, rfl, rfl, rfl, by decide⟩
theorem st_57 : st_ok 57 := ⟨rfl, rfl, rfl, rfl, rfl, rfl, rfl, rfl, rfl, rfl, rfl, rfl, by decide⟩
theorem rm_le {a b c d : Nat} (h : Nat.ble a b = true) (h2 : Nat.ble c d = true) : a ≤ b ∧ c ≤ d := ⟨Nat.le_of_ble_eq_true h, Nat.le_of_ble_eq_true h2⟩
/-- a set element by k: what the memory holds -/
theorem gs_same (M : rf_Mem) (q k : Nat) (v : Int32) : rf_set M q k v q k = v := by simp [rf_set, rf_row, upd]
theorem gs_k (M : rf_Mem) (q : Nat) {k j : Nat} (v : Int32) (h : j ≠ k) : rf_set M q k v q j = M q j := by simp [rf_set, rf_row, upd, h]
theorem gs_q (M : rf_Mem) {q a : Nat} (k : Nat) (v : Int32) (h : a ≠ q) : rf_set M q k v a = M a := by simp [rf_set, rf_row, h]
theorem gr_same (M : rf_Mem) (q : Nat) (f : Nat → Int32) : rf_row M q f q = f := by simp [rf_row]
theorem gr_q (M : rf_Mem) {q a : Nat} (f : Nat → Int32) (h : a ≠ q) : rf_row M q f a = M a := by simp [rf_row, h]
