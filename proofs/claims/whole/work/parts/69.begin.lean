/-! the law's beginning -/
def tmS (i : Nat) : Term := Term.string RX4 (rf_sx.getD i (0, "")).1
set_option maxRecDepth 100000 in
theorem nr_S : ∀ i, i < 8 → Cond.exactly (tmS i) "java/lang/String" ∈ flatC (Jvm.Cond.and given_1 narrow_1) ∧ Cond.eq (.field (tmS i) "java/lang/String" "coder" "B") (.int 0) ∈ flatC (Jvm.Cond.and given_1 narrow_1) ∧ Cond.arrayOf (.field (tmS i) "java/lang/String" "value" "[B") .byte ∈ flatC (Jvm.Cond.and given_1 narrow_1) ∧ Cond.eq (.length (.field (tmS i) "java/lang/String" "value" "[B")) (.int (Int32.ofNat (rf_len.getD i 0))) ∈ flatC (Jvm.Cond.and given_1 narrow_1) := by decide +kernel
set_option maxRecDepth 100000 in
theorem nr_E : ∀ i, i < 8 → ∀ j, j < rf_len.getD i 0 → Cond.eq (.elem (.field (tmS i) "java/lang/String" "value" "[B") (.int (Int32.ofNat j))) (.int ((rf_byt.getD i []).getD j 0)) ∈ flatC (Jvm.Cond.and given_1 narrow_1) := by decide +kernel
set_option maxRecDepth 100000 in
theorem nr_N : ∀ i, i < 8 → ∀ j, j < 8 → i ≠ j → (Cond.not (Cond.eq (tmS i) (tmS j)) ∈ flatC (Jvm.Cond.and given_1 narrow_1) ∨ Cond.not (Cond.eq (tmS j) (tmS i)) ∈ flatC (Jvm.Cond.and given_1 narrow_1)) := by decide +kernel
set_option maxRecDepth 100000 in
theorem nr_C : Cond.eq (.static "java/lang/String" "COMPACT_STRINGS" "Z") (.int 1) ∈ flatC (Jvm.Cond.and given_1 narrow_1) ∧ Cond.isRef (.static "jdk/internal/util/Preconditions" "SIOOBE_FORMATTER" "Ljava/util/function/BiFunction;") ∈ flatC (Jvm.Cond.and given_1 narrow_1) := by decide +kernel
set_option maxRecDepth 20000 in
theorem tb_N : ∀ q ∈ rn_N, Cond.methodLinkNest q.1 q.2.1 q.2.2.1 q.2.2.2 ∈ lw_tbl := by
  have h := mem_pos (ws := rn_N.map (fun q => Cond.methodLinkNest q.1 q.2.1 q.2.2.1 q.2.2.2)) (tbl := lw_tbl) [77, 103, 231, 251, 155] (by decide +kernel)
  exact fun q hq => h _ (List.mem_map.mpr ⟨q, hq, rfl⟩)
set_option maxRecDepth 20000 in
theorem tb_H : Cond.methodLinkNest RX3 26 yX6_has RX6 ∈ lw_tbl := List.mem_of_getElem? (i := 683) (by decide +kernel)
set_option maxRecDepth 20000 in
theorem tb_A : Cond.arrayOver (.object RX5) ∈ lw_tbl := List.mem_of_getElem? (i := 228) (by decide +kernel)
set_option maxRecDepth 20000 in
theorem tb_L : Cond.laysStatic "java/lang/String" "COMPACT_STRINGS" "Z" ∈ lw_tbl := List.mem_of_getElem? (i := 353) (by decide +kernel)
set_option maxRecDepth 20000 in
theorem tb_F : Cond.laysStatic "jdk/internal/util/Preconditions" "SIOOBE_FORMATTER" "Ljava/util/function/BiFunction;" ∈ lw_tbl := List.mem_of_getElem? (i := 369) (by decide +kernel)
set_option maxRecDepth 20000 in
theorem tb_S : ∀ q ∈ rf_sx, Cond.stringRef RX4 q.1 q.2 ∈ lw_tbl := by
  have h := mem_pos (ws := rf_sx.map (fun q => Cond.stringRef RX4 q.1 q.2)) (tbl := lw_tbl) [339, 415, 424, 425, 426, 427, 428, 433] (by decide +kernel)
  exact fun q hq => h _ (List.mem_map.mpr ⟨q, hq, rfl⟩)
set_option maxHeartbeats 4000000 in
theorem lw_begin {p : Program} {s : State} {m : MethodId} {meth : Method} {c : Code} {b L0 : Nat} {xs : Nat → Int32} (C0 : lw_At p s m meth c b L0 xs) : ∃ D g aS, lw_cx p s m meth c b L0 xs D g aS := by
  obtain ⟨hx, hb, hr, hml, hown, hts, hX, hbl, hlocks, hgv⟩ := id C0
  have hf := flat_of_before _ hgv
  have htl : ∀ w ∈ wsL_law, w.before #[Value.ref b] s = true := fun w hw => hts w (wsL_in w hw)
  obtain ⟨c0, i0, k0⟩ := u_known (C := RX0) (T := TX0) (N := 3) (n := 3) htl inlX0 (htl _ (iw_2 _ (List.mem_of_getElem? (i := 10) rfl)))
  obtain ⟨c1, i1, k1⟩ := u_known (C := RX1) (T := TX1) (N := 8) (n := 8) htl inlX1 (htl _ (iw_1 _ (List.mem_of_getElem? (i := 18) rfl)))
  obtain ⟨c2, i2, k2⟩ := u_known (C := RX2) (T := TX2) (N := 4) (n := 4) htl inlX2 (htl _ (iw_3 _ (List.mem_of_getElem? (i := 17) rfl)))
  obtain ⟨c3, i3, k3⟩ := u_known (C := RX3) (T := TX3) (N := 4) (n := 4) htl inlX3 (htl _ (iw_2 _ (List.mem_of_getElem? (i := 6) rfl)))
  obtain ⟨c4, i4, k4⟩ := u_known (C := RX4) (T := TX4) (N := 5) (n := 5) htl inlX4 (htl _ (iw_1 _ (List.mem_of_getElem? (i := 14) rfl)))
  obtain ⟨c5, i5, k5⟩ := u_known (C := RX5) (T := TX5) (N := 12) (n := 12) htl inlX5 (htl _ (iw_1 _ (List.mem_of_getElem? (i := 23) rfl)))
  obtain ⟨c6, i6, k6⟩ := u_known (C := RX6) (T := TX6) (N := 12) (n := 12) htl inlX6 (htl _ (iw_1 _ (List.mem_of_getElem? (i := 1) rfl)))
  obtain ⟨c7, i7, k7⟩ := u_known (C := RX7) (T := TX7) (N := 25) (n := 25) htl inlX7 (htl _ (iw_1 _ (List.mem_of_getElem? (i := 4) rfl)))
  obtain ⟨cI, kI, pI, a1, a2, a3⟩ := Cond.arrayClass_spec (htl _ (iw_2 _ (List.mem_of_getElem? (i := 13) rfl)))
  obtain ⟨cZ, kZ, pZ, b1, b2, b3⟩ := Cond.arrayClass_spec (htl _ (iw_5 _ (List.mem_of_getElem? (i := 12) rfl)))
  obtain ⟨pS, cS, kS, d1, d2, d3, d4, d5⟩ := Cond.arrayOver_spec (hts _ tb_A)
  have hA : ∀ a : Nat, a < s.heap.size → ¬ (fun q => s.heap.size ≤ q) a := fun a h z => absurd h (Nat.not_lt.mpr z)
  obtain ⟨adK, adV, hVS, hev⟩ := vk_Sof (args := #[Value.ref b]) (s := s) (N := 8) (tm := tmS) (len := rf_len) (byt := rf_byt) (A := fun q => s.heap.size ≤ q) (fun i hi => by have := tx_len i hi; omega) (fun i hi => hf _ (nr_S i hi).1) (fun i hi => hf _ (nr_S i hi).2.1) (fun i hi => hf _ (nr_S i hi).2.2.1) (fun i hi => hf _ (nr_S i hi).2.2.2) (fun i hi j hj => hf _ (nr_E i hi j hj)) (fun i j hi hj hne => (nr_N i hi j hj hne).imp (fun z => hf _ z) (fun z => hf _ z)) hA
  have hZ := va_Zof (hts _ tb_L) (htl _ (iw_8 _ (List.mem_of_getElem? (i := 12) rfl))) (va_eqt (hf _ nr_C.1)) hA
  have hZq := va_Zqof (hts _ tb_F) (htl _ (iw_9 _ (List.mem_of_getElem? (i := 15) rfl))) (hf _ nr_C.2) hA
  obtain ⟨a9, hZ9⟩ : ∃ a9 : Nat, va_Z "jdk/internal/util/Preconditions" "SIOOBE_FORMATTER" "Ljava/util/function/BiFunction;" .null (fun q => s.heap.size ≤ q) s s.heap ∨ va_Z "jdk/internal/util/Preconditions" "SIOOBE_FORMATTER" "Ljava/util/function/BiFunction;" (.ref a9) (fun q => s.heap.size ≤ q) s s.heap := by
    rcases hZq with z | ⟨t, z⟩
    · exact ⟨0, Or.inl z⟩
    · exact ⟨t, Or.inr z⟩
  have eK : ∀ i, i < 8 → (fun i => if i < 2000 then adK (i - 1000) else if i < 3000 then adV (i - 2000) else a9) (1000 + i) = adK i := fun i hi => by
    show (if 1000 + i < 2000 then adK (1000 + i - 1000) else _) = _
    rw [if_pos (by omega), Nat.add_sub_cancel_left]
  have eV : ∀ i, i < 8 → (fun i => if i < 2000 then adK (i - 1000) else if i < 3000 then adV (i - 2000) else a9) (2000 + i) = adV i := fun i hi => by
    show (if 2000 + i < 2000 then _ else if 2000 + i < 3000 then adV (2000 + i - 2000) else _) = _
    rw [if_neg (by omega), if_pos (by omega), Nat.add_sub_cancel_left]
  refine ⟨((fun k => match k with | 0 => c0 | 1 => c1 | 2 => c2 | 3 => c3 | 4 => c4 | 5 => c5 | 6 => c6 | _ => c7), (fun k => match k with | 0 => i0 | 1 => i1 | 2 => i2 | 3 => i3 | 4 => i4 | 5 => i5 | 6 => i6 | _ => i7)), (cI, cZ, cS), (fun i => if i < 2000 then adK (i - 1000) else if i < 3000 then adV (i - 2000) else a9), C0, ⟨fun k q hq => ?_, fun k q hq => ?_⟩, ⟨va_Nw.of rfl (hts _ tb_H), fun j q hq => ?_, ⟨fun i hi => ?_, fun i j hi hj e => ?_⟩, hZ, hZ9⟩, fun q hq => va_Nw.of rfl (hts _ (tb_N q hq)), va_AO.of (hts _ tb_A)⟩
  · match k, hq with
    | 0, hq => cases hq; exact k0
    | 1, hq => cases hq; exact k1
    | 2, hq => cases hq; exact k2
    | 3, hq => cases hq; exact k3
    | 4, hq => cases hq; exact k4
    | 5, hq => cases hq; exact k5
    | 6, hq => cases hq; exact k6
    | 7, hq => cases hq; exact k7
    | k + 8, hq => simp [vwCl] at hq
  · match k, hq with
    | 0, hq => cases hq; exact ⟨fun n z => ⟨fun k h => (by cases h), kI, a2, pI, a3⟩, a1⟩
    | 1, hq => cases hq; exact ⟨fun n z => ⟨fun k h => (by cases h), kZ, b2, pZ, b3⟩, b1⟩
    | 2, hq => cases hq; exact ⟨fun n z => ⟨fun k h => (by cases h), kS, d3, pS, d4⟩, kS, pS, d3, d4, d1, d5⟩
    | k + 3, hq => simp [rf_tys] at hq
  · have hj : j < 8 := (List.getElem?_eq_some_iff.mp hq).1
    have e9 : tmS j = Term.string RX4 q.1 := by unfold tmS; rw [List.getD_eq_getElem?_getD, hq]; rfl
    have h9 := hev j hj
    rw [e9] at h9
    rw [eK j hj]
    exact vk_R.of (hts _ (tb_S q (List.mem_of_getElem? hq))) h9
  · have h9 := hVS.1 i hi
    show va_O "java/lang/String" ((fun i => if i < 2000 then adK (i - 1000) else if i < 3000 then adV (i - 2000) else a9) (1000 + i)) _ _ _ ∧ va_OF _ _ _ _ ((fun i => if i < 2000 then adK (i - 1000) else if i < 3000 then adV (i - 2000) else a9) (1000 + i)) _ _ _ ∧ va_OF _ _ _ (.ref ((fun i => if i < 2000 then adK (i - 1000) else if i < 3000 then adV (i - 2000) else a9) (2000 + i))) ((fun i => if i < 2000 then adK (i - 1000) else if i < 3000 then adV (i - 2000) else a9) (1000 + i)) _ _ _ ∧ va_T _ ((fun i => if i < 2000 then adK (i - 1000) else if i < 3000 then adV (i - 2000) else a9) (2000 + i)) _ _ _ _ _
    rw [eK i hi, eV i hi]
    exact h9
  · have e2 : adK i = adK j := (eK i hi).symm.trans (e.trans (eK j hj))
    exact hVS.2 i j hi hj e2
def okB (c : rf_Cell) : Bool := match c with
  | .inl o => o.2.all (fun x => match x with | none => true | some k => decide (k < 1000))
  | .inr (.inl _) => true
  | .inr (.inr cs) => cs.all (fun k => decide (k < 1000))
theorem rf_fs_ad {ad ad' : Nat → Nat} {f : Nat → Int32} (h : ∀ i, i < 1000 → ad i = ad' i) : ∀ (l : List (Option Nat)) (j : Nat), l.all (fun x => match x with | none => true | some k => decide (k < 1000)) = true → rf_fs ad f j l = rf_fs ad' f j l
  | [], _, _ => rfl
  | none :: l, j, hl => by
    rw [List.all_cons, Bool.and_eq_true] at hl
    rw [rf_fs, rf_fs, rf_fs_ad h l (j + 1) hl.2]
  | some k :: l, j, hl => by
    rw [List.all_cons, Bool.and_eq_true] at hl
    rw [rf_fs, rf_fs, rf_fs_ad h l (j + 1) hl.2, h k (of_decide_eq_true hl.1)]
theorem rf_W_ad {g : rf_G} {ad ad' : Nat → Nat} {M : rf_Mem} (h : ∀ i, i < 1000 → ad i = ad' i) : ∀ (l : List rf_Cell) (k : Nat), k + l.length ≤ 1000 → l.all okB = true → rf_W g ad M k l = rf_W g ad' M k l
  | [], _, _, _ => rfl
  | c :: l, k, hk, hl => by
    rw [List.all_cons, Bool.and_eq_true] at hl
    rw [List.length_cons] at hk
    rw [rf_W, rf_W, rf_W_ad h l (k + 1) (by omega) hl.2]
    congr 1
    unfold rf_w
    rw [h k (by omega)]
    match c, hl.1 with
    | .inl o, ho => show (_, Sum.inr (o.1, rf_fs ad (M k) 0 o.2)) = (_, Sum.inr (o.1, rf_fs ad' (M k) 0 o.2)); rw [rf_fs_ad h o.2 0 ho]
    | .inr (.inl a), _ => rfl
    | .inr (.inr cs), hc =>
      have e : (fun j : Nat => (cs[j]?).map ad) = (fun j : Nat => (cs[j]?).map ad') := funext (fun j => by
        cases hj : cs[j]? with
        | none => rfl
        | some k2 => rw [Option.map_some, Option.map_some, h k2 (of_decide_eq_true (List.all_eq_true.mp hc k2 (List.mem_of_getElem? hj)))])
      show (_, Sum.inl (_, _, Sum.inr (Sum.inr (Sum.inr (Sum.inr (fun j => (cs[j]?).map ad)))))) = (_, Sum.inl (_, _, Sum.inr (Sum.inr (Sum.inr (Sum.inr (fun j => (cs[j]?).map ad'))))))
      rw [e]
theorem lq_st2 {b L0 : Nat} {xs : Nat → Int32} {g : rf_G} {aS : Nat → Nat} {pc : Nat} {L L2 : List (Option Value)} {st : List Value} {ws ws2 : va_W} {k n : Nat} (h : EvW b L0 xs g aS pc L2 st ws2 k n) (e : L = L2) (e2 : ws = ws2) : EvW b L0 xs g aS pc L st ws k n := by
  subst e; subst e2; exact h
theorem cL_7 : rn_cl RL 7 6 12 [.null, .null, .null, .null, .null, .null, .int 0, .null, .null, .null, .int 0, .null] := ⟨RX6, TX6, tyX6, rfl, inlX6, tyX6_ok, iw_1 _ (List.mem_of_getElem? (i := 0) rfl), iw_1 _ (List.mem_of_getElem? (i := 1) rfl), iw_1 _ (List.mem_of_getElem? (i := 2) rfl), fun j hj => by rcases (show j = 0 ∨ j = 1 ∨ j = 2 ∨ j = 3 ∨ j = 4 ∨ j = 5 ∨ j = 6 ∨ j = 7 ∨ j = 8 ∨ j = 9 ∨ j = 10 ∨ j = 11 by omega) with rfl | rfl | rfl | rfl | rfl | rfl | rfl | rfl | rfl | rfl | rfl | rfl <;> rfl⟩
theorem cL_10 : rn_cl RL 10 7 25 [.null, .null, .null, .null, .null, .null, .null, .int 0, .int 0, .int 0, .null, .int 0, .int 0, .int 0, .int 0, .int 0, .int 0, .int 0, .null, .null, .null, .int 0, .null, .null, .int 0] := ⟨RX7, TX7, tyX7, rfl, inlX7, tyX7_ok, iw_1 _ (List.mem_of_getElem? (i := 3) rfl), iw_1 _ (List.mem_of_getElem? (i := 4) rfl), iw_1 _ (List.mem_of_getElem? (i := 5) rfl), fun j hj => by rcases (show j = 0 ∨ j = 1 ∨ j = 2 ∨ j = 3 ∨ j = 4 ∨ j = 5 ∨ j = 6 ∨ j = 7 ∨ j = 8 ∨ j = 9 ∨ j = 10 ∨ j = 11 ∨ j = 12 ∨ j = 13 ∨ j = 14 ∨ j = 15 ∨ j = 16 ∨ j = 17 ∨ j = 18 ∨ j = 19 ∨ j = 20 ∨ j = 21 ∨ j = 22 ∨ j = 23 ∨ j = 24 by omega) with rfl | rfl | rfl | rfl | rfl | rfl | rfl | rfl | rfl | rfl | rfl | rfl | rfl | rfl | rfl | rfl | rfl | rfl | rfl | rfl | rfl | rfl | rfl | rfl | rfl <;> rfl⟩
set_option maxRecDepth 20000 in
set_option maxHeartbeats 4000000 in
theorem lw_go {b L0 : Nat} {xs : Nat → Int32} {g : rf_G} {aS : Nat → Nat} (hL0 : L0 ≤ 2048) : EvW b L0 xs g aS 0 (rf_ent 4 [.ref b]) [] [] 0 0 := by
  refine lq_new dL_law_0 cL_7 (Nat.le_of_ble_eq_true rfl) (Nat.le_of_ble_eq_true rfl) (fun q1 => ?_)
  refine lq_dup dL_law_3 rfl ?_
  refine lq_init (ws := []) (wr := []) dL_law_4 ceX6_init (iw_1 _ (List.mem_of_getElem? (i := 7) rfl)) (rm_le rfl rfl) (Nat.le_of_ble_eq_true rfl) (Nat.le_of_ble_eq_true rfl) (Nat.le_of_ble_eq_true rfl) (Nat.le_of_ble_eq_true rfl) (nX6_init q1) (fun w1 h1 => ?_)
  obtain ⟨a, -, ha, rfl⟩ := h1
  refine lq_astore 1 dL_law_7 rfl (by decide) rfl ?_
  refine lq_new dL_law_8 cL_10 (Nat.le_of_ble_eq_true rfl) (Nat.le_of_ble_eq_true rfl) (fun q2 => ?_)
  refine lq_dup dL_law_11 rfl ?_
  refine lq_init (ws := []) (wr := [] ++ rf_W g (fun i => a.getD i 0) Cini 0 LayC) dL_law_12 ceX7_init (iw_5 _ (List.mem_of_getElem? (i := 7) rfl)) (rm_le rfl rfl) (Nat.le_of_ble_eq_true rfl) (Nat.le_of_ble_eq_true rfl) (Nat.le_of_ble_eq_true rfl) (Nat.le_of_ble_eq_true rfl) (nX7_init q2) (fun w2 h2 => ?_)
  obtain ⟨a', -, ha', rfl⟩ := h2
  refine lq_astore 2 dL_law_15 rfl (by decide) rfl ?_
  refine lq_iconst (v := nI 0) dL_law_16 (by decide) ?_
  refine lq_istore 3 dL_law_17 rfl (by decide) rfl ?_
  have e1 : (if 0 < 1000 then a.getD 0 0 else aS 0) = q1 := by show a.getD 0 0 = q1; rw [List.getD_eq_getElem?_getD, ha]; rfl
  have e2 : (if 0 < 1000 then a'.getD 0 0 else aS 0) = q2 := by show a'.getD 0 0 = q2; rw [List.getD_eq_getElem?_getD, ha']; rfl
  have k1 : rf_W g (fun i => a.getD i 0) Cini 0 LayC = rf_W g (fun i => if i < 1000 then a.getD i 0 else aS i) Cini 0 LayC := rf_W_ad (fun i hi => (if_pos hi).symm) LayC 0 (Nat.le_of_ble_eq_true rfl) rfl
  have k2 : rf_W g (fun i => a'.getD i 0) Gini 0 LayM = rf_W g (fun i => if i < 1000 then a'.getD i 0 else aS i) Gini 0 LayM := rf_W_ad (fun i hi => (if_pos hi).symm) LayM 0 (Nat.le_of_ble_eq_true rfl) rfl
  have key := law_loop (b := b) (xs := xs) (g := g) (aS := aS) (aC := fun i => if i < 1000 then a.getD i 0 else aS i) (aM := fun i => if i < 1000 then a'.getD i 0 else aS i) (k := 0 + 1 + mX6_init.2.2.2.2.cells + 1 + mX7_init.2.2.2.2.cells) (n := 0 + 12 + mX6_init.2.2.2.2.slots + 25 + mX7_init.2.2.2.2.slots) hL0 (fun i hi => if_neg (by omega)) (fun i hi => if_neg (by omega)) (Nat.le_of_ble_eq_true rfl) (Nat.le_of_ble_eq_true rfl) (L0 + 1) 0 Cini Gini (by omega) (by omega) Rg_ini
  exact lq_st2 key (by rw [e1, e2]; rfl) (by rw [List.nil_append, k1, k2])
