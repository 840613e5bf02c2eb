/-! states: acts on hearts, the log, a reading -/
def lgA (q k : Nat) (C : rf_Mem) (d p r : Int32) : rf_Mem := if k < 300 then rf_set (rf_set (rf_set (rf_set C (q + 9) k d) (q + 10) k p) (q + 11) k r) (q + 8) 3 (nI (k + 1)) else C
theorem lgA_out {q k : Nat} {C : rf_Mem} {d p r : Int32} {a : Nat} (h : a ≠ q + 8 ∧ a ≠ q + 9 ∧ a ≠ q + 10 ∧ a ≠ q + 11) : lgA q k C d p r a = C a := by
  unfold lgA
  split
  · rw [gs_q _ _ _ h.1, gs_q _ _ _ h.2.2.2, gs_q _ _ _ h.2.2.1, gs_q _ _ _ h.2.1]
  · rfl
theorem lrn_out {q : Nat} {C : rf_Mem} {r l : Nat} {v : Int32} {a : Nat} (h : a ≠ q + 5 ∧ a ≠ q + 6) : lrn q C r l v a = C a := by
  unfold lrn
  rw [gs_q _ _ _ h.2, gs_q _ _ _ h.1]
def lrnA (q : Nat) (C : rf_Mem) (l : Nat) (v : Int32) : Nat → rf_Mem
  | 0 => C
  | n + 1 => lrn q (lrnA q C l v n) n l v
theorem lrnA_out {q : Nat} {C : rf_Mem} {l : Nat} {v : Int32} {a : Nat} (h : a ≠ q + 5 ∧ a ≠ q + 6) : ∀ n, lrnA q C l v n a = C a
  | 0 => rfl
  | n + 1 => by rw [lrnA, lrn_out h, lrnA_out h n]
/-- a reading's end: who knows it then -/
def rdT (q nr : Nat) (C : rf_Mem) (r p l : Nat) : rf_Mem := if C 11 r = nI 1 then lrnA q C l (C (q + 2) p) nr else lrn q C r l (C (q + 2) p)
def rdP (q k nr : Nat) (C : rf_Mem) (r p l : Nat) : rf_Mem := rdT q nr (rf_set (lgA q k C (C q 10) (nI p) (nI r)) (q + 3) p (if C 11 r = nI 3 then nI 9 else C (q + 3) p + nI 1)) r p l
def kpB (C : rf_Mem) (q n nr : Nat) (h : Int32) (l : Nat) : Bool := decide (0 < fb_ct (vWith (C (q + 1)) (C (q + 2)) (C (q + 3)) (nI l) (nI 0)) n) || bAny (fun r => decide (knC C q (C q 10 + dA (C q 10) h) r l = 0)) nr
def bcI (x : Int32) : Int32 :=
  let us := fun (x z : Int32) => (x.toUInt32 >>> (z.toUInt32 &&& Int32.toUInt32 31)).toInt32
  let a := x - (us x (nI 1) &&& nI 1431655765)
  let b := (a &&& nI 858993459) + (us a (nI 2) &&& nI 858993459)
  let c := (b + us b (nI 4)) &&& nI 252645135
  let d := c + us c (nI 8)
  let e := d + us d (nI 16)
  e &&& nI 63

set_option maxRecDepth 20000 in
set_option maxHeartbeats 2000000 in
theorem e_variantKnown {q : Nat} {C : rf_Mem} (hq : st_ok q) {r l : Nat} (hr : r < 8) (hl : l < 16) : Ev LayC mX5_variantKnown 0 (rf_ent 3 [.ref q, .int (nI r), .int (nI l)]) [] C (some (.int (knC C q (C q 10) r l))) C := by
  have hq0 := hq
  obtain ⟨h0, h1, h2, h3, h4, h5, h6, h7, h8, h9, h10, h11, h20⟩ := hq
  refine ev_aload_n dX5_variantKnown_0 rfl ?_
  refine ev_iload_n dX5_variantKnown_1 rfl ?_
  refine ev_iload_n dX5_variantKnown_2 rfl ?_
  refine ev_aload_n dX5_variantKnown_3 rfl ?_
  refine ev_getI dX5_variantKnown_4 fX5_44 (by first | assumption | rfl) (by rfl) ?_
  refine ev_cV3 dX5_variantKnown_7 ceX5_variantAt kX5_92 (rm_le rfl rfl) (Nat.le_of_ble_eq_true rfl) (Nat.le_of_ble_eq_true rfl) (e_variantAt hq0 hr hl) (by first | assumption | rfl) ?_
  exact ev_iretE dX5_variantKnown_10 rfl rfl (by first | rfl | simp_all) (rfl)
set_option maxRecDepth 20000 in
set_option maxHeartbeats 2000000 in
theorem e_knowsAny {q : Nat} {C : rf_Mem} (hq : st_ok q) {r l : Nat} (hr : r < 8) (hl : l < 16) : Ev LayC mX5_knowsAny 0 (rf_ent 3 [.ref q, .int (nI r), .int (nI l)]) [] C (some (.int (b2i (!decide (knC C q (C q 10) r l = -1))))) C := by
  have hq0 := hq
  obtain ⟨h0, h1, h2, h3, h4, h5, h6, h7, h8, h9, h10, h11, h20⟩ := hq
  refine ev_aload_n dX5_knowsAny_0 rfl ?_
  refine ev_iload_n dX5_knowsAny_1 rfl ?_
  refine ev_iload_n dX5_knowsAny_2 rfl ?_
  refine ev_cV2 dX5_knowsAny_3 ceX5_variantKnown kX5_96 (rm_le rfl rfl) (Nat.le_of_ble_eq_true rfl) (Nat.le_of_ble_eq_true rfl) (e_variantKnown hq0 hr hl) (by first | assumption | rfl) ?_
  refine ev_iconst (v := (-1)) dX5_knowsAny_6 (by decide) ?_
  refine ev_icmp_eq 14 dX5_knowsAny_7 (by decide) (fun hc7 => ?_) (fun hc7 => ?_)
  · refine ev_iconst (v := (nI 0)) dX5_knowsAny_14 (by decide) ?_
    exact ev_iretE dX5_knowsAny_15 rfl rfl (by simp [b2i, *]) (rfl)
  · refine ev_iconst (v := (nI 1)) dX5_knowsAny_10 (by decide) ?_
    refine ev_goto 15 dX5_knowsAny_11 (by decide) ?_
    exact ev_iretE dX5_knowsAny_15 rfl rfl (by simp [b2i, *]) (rfl)
set_option maxRecDepth 20000 in
set_option maxHeartbeats 2000000 in
theorem e_learn {q : Nat} {C : rf_Mem} (hq : st_ok q) {r l : Nat} (hr : r < 8) (hl : l < 16) {v : Int32} : Ev LayC mX5_learn 0 (rf_ent 4 [.ref q, .int (nI r), .int (nI l), .int v]) [] C none (lrn q C r l v) := by
  have hq0 := hq
  obtain ⟨h0, h1, h2, h3, h4, h5, h6, h7, h8, h9, h10, h11, h20⟩ := hq
  refine ev_aload_n dX5_learn_0 rfl ?_
  refine ev_getR dX5_learn_1 fX5_31 (by first | assumption | rfl) (by rfl) ?_
  refine ev_iload_n dX5_learn_4 rfl ?_
  refine ev_iload_n dX5_learn_5 rfl ?_
  refine ev_cS2 dX5_learn_6 ceX5_heart kX5_85 (rm_le rfl rfl) (Nat.le_of_ble_eq_true rfl) (Nat.le_of_ble_eq_true rfl) (e_heart) ?_
  refine ev_iload_n dX5_learn_9 rfl ?_
  refine ev_iastE _ dX5_learn_10 (rfl) (by first | assumption | rfl) ⟨by omega, by decide⟩ ?_
  refine ev_aload_n dX5_learn_11 rfl ?_
  refine ev_getR dX5_learn_12 fX5_34 (by first | assumption | rfl) (by rfl) ?_
  refine ev_iload_n dX5_learn_15 rfl ?_
  refine ev_iload_n dX5_learn_16 rfl ?_
  refine ev_cS2 dX5_learn_17 ceX5_heart kX5_85 (rm_le rfl rfl) (Nat.le_of_ble_eq_true rfl) (Nat.le_of_ble_eq_true rfl) (e_heart) ?_
  refine ev_aload_n dX5_learn_20 rfl ?_
  refine ev_getI dX5_learn_21 fX5_44 (by first | assumption | rfl) (by rfl) ?_
  refine ev_iastE _ dX5_learn_24 (rfl) (by first | assumption | rfl) ⟨by omega, by decide⟩ ?_
  exact ev_vretE dX5_learn_25 rfl rfl (by rw [gs_q _ _ _ (by omega)]; rfl)
set_option maxRecDepth 20000 in
set_option maxHeartbeats 2000000 in
theorem e_logAdd {q : Nat} {C : rf_Mem} (hq : st_ok q) {k : Nat} (hk : C (q + 8) 3 = nI k) (hk3 : k ≤ 300) {d p r : Int32} : Ev LayC mX2_add 0 (rf_ent 4 [.ref (q + 8), .int d, .int p, .int r]) [] C none (lgA q k C d p r) := by
  have hq0 := hq
  obtain ⟨h0, h1, h2, h3, h4, h5, h6, h7, h8, h9, h10, h11, h20⟩ := hq
  refine ev_aload_n dX2_add_0 rfl ?_
  refine ev_getI dX2_add_1 fX2_21 (by first | assumption | rfl) (by rfl) ?_
  refine ev_sipush (v := (nI 300)) dX2_add_4 (by decide) ?_
  refine ev_icmp_ge 50 dX2_add_7 (by decide) (fun hc7 => ?_) (fun hc7 => ?_)
  · have hk9 : ¬ k < 300 := fun z => nI_ge z (by decide) (by rw [← hk]; exact hc7)
    exact ev_vretE dX2_add_50 rfl rfl (by simp [lgA, hk9, rf_set, rf_row, upd, hk, nI_add])
  · have hk9 : k < 300 := by
      rcases Nat.lt_or_ge k 300 with z | z
      · exact z
      · exact absurd (by rw [hk]; exact nI_le z (by omega)) hc7
    refine ev_aload_n dX2_add_10 rfl ?_
    refine ev_getR dX2_add_11 fX2_9 (by first | assumption | rfl) (by rfl) ?_
    refine ev_aload_n dX2_add_14 rfl ?_
    refine ev_getI dX2_add_15 fX2_21 (by first | assumption | rfl) (by rfl) ?_
    refine ev_iload_n dX2_add_18 rfl ?_
    refine ev_iastE (k) dX2_add_19 (by simp [rf_set, rf_row, upd, hk]) (by first | assumption | rfl) ⟨hk9, by decide⟩ ?_
    refine ev_aload_n dX2_add_20 rfl ?_
    refine ev_getR dX2_add_21 fX2_15 (by first | assumption | rfl) (by rfl) ?_
    refine ev_aload_n dX2_add_24 rfl ?_
    refine ev_getI dX2_add_25 fX2_21 (by first | assumption | rfl) (by rfl) ?_
    refine ev_iload_n dX2_add_28 rfl ?_
    refine ev_iastE (k) dX2_add_29 (by simp [rf_set, rf_row, upd, hk]) (by first | assumption | rfl) ⟨hk9, by decide⟩ ?_
    refine ev_aload_n dX2_add_30 rfl ?_
    refine ev_getR dX2_add_31 fX2_18 (by first | assumption | rfl) (by rfl) ?_
    refine ev_aload_n dX2_add_34 rfl ?_
    refine ev_getI dX2_add_35 fX2_21 (by first | assumption | rfl) (by rfl) ?_
    refine ev_iload_n dX2_add_38 rfl ?_
    refine ev_iastE (k) dX2_add_39 (by simp [rf_set, rf_row, upd, hk]) (by first | assumption | rfl) ⟨hk9, by decide⟩ ?_
    refine ev_aload_n dX2_add_40 rfl ?_
    refine ev_dup dX2_add_41 rfl ?_
    refine ev_getI dX2_add_42 fX2_21 (by first | assumption | rfl) (by rfl) ?_
    refine ev_iconst (v := (nI 1)) dX2_add_45 (by decide) ?_
    refine ev_iadd dX2_add_46 ?_
    refine ev_put dX2_add_47 pX2_21 (by first | assumption | rfl) (by rfl) (rfl) (rfl) ?_
    exact ev_vretE dX2_add_50 rfl rfl (by simp [lgA, hk9, rf_set, rf_row, upd, hk, nI_add])
set_option maxRecDepth 20000 in
set_option maxHeartbeats 2000000 in
theorem e_timesRead {q : Nat} {C : rf_Mem} (hq : st_ok q) {k : Nat} (hk : C (q + 8) 3 = nI k) (hk3 : k ≤ 300) {x : Int32} : Ev LayC mX2_timesRead 0 (rf_ent 4 [.ref (q + 8), .int x]) [] C (some (.int (nI (fb_ct (fun i => decide (C (q + 10) i = x)) k)))) C := by
  have hq0 := hq
  obtain ⟨h0, h1, h2, h3, h4, h5, h6, h7, h8, h9, h10, h11, h20⟩ := hq
  have key := ev_for (Lay := LayC) (y := mX2_timesRead) (pc := 4) (r := (some (.int (nI (fb_ct (fun i => decide (C (q + 10) i = x)) k))))) (M' := C) (k) (fun i => [some (.ref (q + 8)), some (.int x), some (.int (nI (fb_ct (fun i => decide (C (q + 10) i = x)) i))), some (.int (nI i))]) (fun i => C) ?hx ?hs
  case hx =>
    refine ev_iload_n dX2_timesRead_4 rfl ?_
    refine ev_aload_n dX2_timesRead_5 rfl ?_
    refine ev_getI dX2_timesRead_6 fX2_21 (by first | assumption | rfl) (by rfl) ?_
    refine ev_icmp_ge 31 dX2_timesRead_9 (by decide) (fun hc9 => ?_) (fun hc9 => False.elim (lp_x hk (by omega) hc9))
    refine ev_iload_n dX2_timesRead_31 rfl ?_
    exact ev_iretE dX2_timesRead_32 rfl rfl (by first | rfl | simp_all) (rfl)
  case hs =>
    intro i hi ih
    refine ev_iload_n dX2_timesRead_4 rfl ?_
    refine ev_aload_n dX2_timesRead_5 rfl ?_
    refine ev_getI dX2_timesRead_6 fX2_21 (by first | assumption | rfl) (by rfl) ?_
    refine ev_icmp_ge 31 dX2_timesRead_9 (by decide) (fun hc9 => False.elim (lp_s hk (by omega) hi hc9)) (fun hc9 => ?_)
    refine ev_aload_n dX2_timesRead_12 rfl ?_
    refine ev_getR dX2_timesRead_13 fX2_15 (by first | assumption | rfl) (by rfl) ?_
    refine ev_iload_n dX2_timesRead_16 rfl ?_
    refine ev_ialdE _ dX2_timesRead_17 (rfl) (by first | assumption | rfl) ⟨by omega, by decide⟩ ?_
    refine ev_iload_n dX2_timesRead_18 rfl ?_
    refine ev_icmp_ne 25 dX2_timesRead_19 (by decide) (fun hc19 => ?_) (fun hc19 => ?_)
    · refine ev_iinc (v := (nI 1)) dX2_timesRead_25 rfl (by decide) (by decide) rfl ?_
      refine ev_goto 4 dX2_timesRead_28 (by decide) ?_
      exact ev_st ih (by simp [nI_add, fb_ct_succ, *]) rfl (rfl)
    · refine ev_iinc (v := (nI 1)) dX2_timesRead_22 rfl (by decide) (by decide) rfl ?_
      refine ev_iinc (v := (nI 1)) dX2_timesRead_25 rfl (by decide) (by decide) rfl ?_
      refine ev_goto 4 dX2_timesRead_28 (by decide) ?_
      exact ev_st ih (by simp [nI_add, fb_ct_succ, *]) rfl (rfl)
  refine ev_iconst (v := (nI 0)) dX2_timesRead_0 (by decide) ?_
  refine ev_istore_k 2 dX2_timesRead_1 rfl (by decide) rfl ?_
  refine ev_iconst (v := (nI 0)) dX2_timesRead_2 (by decide) ?_
  refine ev_istore_k 3 dX2_timesRead_3 rfl (by decide) rfl ?_
  exact ev_st (key 0 (Nat.zero_le _)) (rfl) rfl (rfl)
set_option maxRecDepth 20000 in
set_option maxHeartbeats 2000000 in
theorem e_draw {q : Nat} {C : rf_Mem} (hq : st_ok q) {x : Int32} : Ev LayC mX5_draw 0 (rf_ent 2 [.ref q, .int x]) [] C (some (.int (if x ≤ 0 then nI 0 else dv (sd (C q 11)) x))) (rf_set C q 11 (sd (C q 11))) := by
  have hq0 := hq
  obtain ⟨h0, h1, h2, h3, h4, h5, h6, h7, h8, h9, h10, h11, h20⟩ := hq
  refine ev_aload_n dX5_draw_0 rfl ?_
  refine ev_aload_n dX5_draw_1 rfl ?_
  refine ev_getI dX5_draw_2 fX5_47 (by first | assumption | rfl) (by rfl) ?_
  refine ev_ldc (v := (nI 1103515245)) dX5_draw_5 nX5_124 ?_
  refine ev_imul dX5_draw_7 ?_
  refine ev_sipush (v := (nI 12345)) dX5_draw_8 (by decide) ?_
  refine ev_iadd dX5_draw_11 ?_
  refine ev_ldc (v := (nI 2147483647)) dX5_draw_12 nX5_125 ?_
  refine ev_iand dX5_draw_14 ?_
  refine ev_put dX5_draw_15 pX5_47 (by first | assumption | rfl) (by rfl) (rfl) (rfl) ?_
  refine ev_iload_n dX5_draw_18 rfl ?_
  refine ev_if_le 34 dX5_draw_19 (by decide) (fun hc19 => ?_) (fun hc19 => ?_)
  · refine ev_iconst (v := (nI 0)) dX5_draw_34 (by decide) ?_
    exact ev_iretE dX5_draw_35 rfl rfl (by first | (rw [if_pos hc19]) | (rw [if_neg hc19, gs_same]; rfl)) (rfl)
  · refine ev_aload_n dX5_draw_22 rfl ?_
    refine ev_getI dX5_draw_23 fX5_47 (by first | assumption | rfl) (by rfl) ?_
    refine ev_ldc (v := (nI 65536)) dX5_draw_26 nX5_126 ?_
    refine ev_idiv dX5_draw_28 (by decide) ?_
    refine ev_iload_n dX5_draw_29 rfl ?_
    refine ev_irem dX5_draw_30 (fun z => hc19 (by rw [z]; decide)) ?_
    refine ev_goto 35 dX5_draw_31 (by decide) ?_
    exact ev_iretE dX5_draw_35 rfl rfl (by first | (rw [if_pos hc19]) | (rw [if_neg hc19, gs_same]; rfl)) (rfl)
set_option maxRecDepth 20000 in
set_option maxHeartbeats 2000000 in
theorem e_daysAhead {q : Nat} {C : rf_Mem} (hq : st_ok q) {x : Int32} : Ev LayC mX5_daysAhead 0 (rf_ent 2 [.ref q, .int x]) [] C (some (.int (dA (C q 10) x))) C := by
  have hq0 := hq
  obtain ⟨h0, h1, h2, h3, h4, h5, h6, h7, h8, h9, h10, h11, h20⟩ := hq
  refine ev_iload_n dX5_daysAhead_0 rfl ?_
  refine ev_sipush (v := (nI 9999)) dX5_daysAhead_1 (by decide) ?_
  refine ev_aload_n dX5_daysAhead_4 rfl ?_
  refine ev_getI dX5_daysAhead_5 fX5_44 (by first | assumption | rfl) (by rfl) ?_
  refine ev_isub dX5_daysAhead_8 ?_
  refine ev_mmin dX5_daysAhead_9 kX5_127 (Nat.le_of_ble_eq_true rfl) (Nat.le_of_ble_eq_true rfl) ?_
  exact ev_iretE dX5_daysAhead_12 rfl rfl (rfl) (rfl)
set_option maxRecDepth 20000 in
set_option maxHeartbeats 2000000 in
theorem e_passDusks {q : Nat} {C : rf_Mem} (hq : st_ok q) {x : Int32} : Ev LayC mX5_passDusks 0 (rf_ent 2 [.ref q, .int x]) [] C none (rf_set C q 10 (C q 10 + dA (C q 10) x)) := by
  have hq0 := hq
  obtain ⟨h0, h1, h2, h3, h4, h5, h6, h7, h8, h9, h10, h11, h20⟩ := hq
  refine ev_aload_n dX5_passDusks_0 rfl ?_
  refine ev_dup dX5_passDusks_1 rfl ?_
  refine ev_getI dX5_passDusks_2 fX5_44 (by first | assumption | rfl) (by rfl) ?_
  refine ev_aload_n dX5_passDusks_5 rfl ?_
  refine ev_iload_n dX5_passDusks_6 rfl ?_
  refine ev_cV1 dX5_passDusks_7 ceX5_daysAhead kX5_132 (rm_le rfl rfl) (Nat.le_of_ble_eq_true rfl) (Nat.le_of_ble_eq_true rfl) (e_daysAhead hq0) (by first | assumption | rfl) ?_
  refine ev_iadd dX5_passDusks_10 ?_
  refine ev_put dX5_passDusks_11 pX5_44 (by first | assumption | rfl) (by rfl) (rfl) (rfl) ?_
  exact ev_vretE dX5_passDusks_14 rfl rfl (rfl)
set_option maxRecDepth 20000 in
set_option maxHeartbeats 2000000 in
theorem e_pagesLeftWith {q n : Nat} {C : rf_Mem} (hq : st_ok q) (hn : C q 9 = nI n) (hn2 : n ≤ 40) {l v : Int32} : Ev LayC mX5_pagesLeftWith 0 (rf_ent 5 [.ref q, .int l, .int v]) [] C (some (.int (nI (fb_ct (vWith (C (q + 1)) (C (q + 2)) (C (q + 3)) l v) n)))) C := by
  have hq0 := hq
  obtain ⟨h0, h1, h2, h3, h4, h5, h6, h7, h8, h9, h10, h11, h20⟩ := hq
  have key := ev_for (Lay := LayC) (y := mX5_pagesLeftWith) (pc := 5) (r := (some (.int (nI (fb_ct (vWith (C (q + 1)) (C (q + 2)) (C (q + 3)) l v) n))))) (M' := C) (n) (fun i => [some (.ref q), some (.int l), some (.int v), some (.int (nI (fb_ct (vWith (C (q + 1)) (C (q + 2)) (C (q + 3)) l v) i))), some (.int (nI i))]) (fun i => C) ?hx ?hs
  case hx =>
    refine ev_iload dX5_pagesLeftWith_5 rfl ?_
    refine ev_aload_n dX5_pagesLeftWith_7 rfl ?_
    refine ev_getI dX5_pagesLeftWith_8 fX5_40 (by first | assumption | rfl) (by rfl) ?_
    refine ev_icmp_ge 44 dX5_pagesLeftWith_11 (by decide) (fun hc11 => ?_) (fun hc11 => False.elim (lp_x hn (by omega) hc11))
    refine ev_iload_n dX5_pagesLeftWith_44 rfl ?_
    exact ev_iretE dX5_pagesLeftWith_45 rfl rfl (by first | rfl | simp_all) (rfl)
  case hs =>
    intro i hi ih
    refine ev_iload dX5_pagesLeftWith_5 rfl ?_
    refine ev_aload_n dX5_pagesLeftWith_7 rfl ?_
    refine ev_getI dX5_pagesLeftWith_8 fX5_40 (by first | assumption | rfl) (by rfl) ?_
    refine ev_icmp_ge 44 dX5_pagesLeftWith_11 (by decide) (fun hc11 => False.elim (lp_s hn (by omega) hi hc11)) (fun hc11 => ?_)
    refine ev_aload_n dX5_pagesLeftWith_14 rfl ?_
    refine ev_iload dX5_pagesLeftWith_15 rfl ?_
    refine ev_iload_n dX5_pagesLeftWith_17 rfl ?_
    refine ev_cV2 dX5_pagesLeftWith_18 ceX5_isLeft kX5_157 (rm_le rfl rfl) (Nat.le_of_ble_eq_true rfl) (Nat.le_of_ble_eq_true rfl) (e_isLeft hq0 (by omega)) (by first | assumption | rfl) ?_
    refine ev_if_eq 38 dX5_pagesLeftWith_21 (by decide) (fun hc21 => ?_) (fun hc21 => ?_)
    · rw [b2i_0] at hc21
      refine ev_iinc (v := (nI 1)) dX5_pagesLeftWith_38 rfl (by decide) (by decide) rfl ?_
      refine ev_goto 5 dX5_pagesLeftWith_41 (by decide) ?_
      exact ev_st ih (by simp [nI_add, fb_ct_succ, vWith, *]) rfl (rfl)
    · rw [b2i_n0] at hc21
      refine ev_aload_n dX5_pagesLeftWith_24 rfl ?_
      refine ev_getR dX5_pagesLeftWith_25 fX5_22 (by first | assumption | rfl) (by rfl) ?_
      refine ev_iload dX5_pagesLeftWith_28 rfl ?_
      refine ev_ialdE _ dX5_pagesLeftWith_30 (rfl) (by first | assumption | rfl) ⟨by omega, by decide⟩ ?_
      refine ev_iload_n dX5_pagesLeftWith_31 rfl ?_
      refine ev_icmp_ne 38 dX5_pagesLeftWith_32 (by decide) (fun hc32 => ?_) (fun hc32 => ?_)
      · refine ev_iinc (v := (nI 1)) dX5_pagesLeftWith_38 rfl (by decide) (by decide) rfl ?_
        refine ev_goto 5 dX5_pagesLeftWith_41 (by decide) ?_
        exact ev_st ih (by simp [nI_add, fb_ct_succ, vWith, *]) rfl (rfl)
      · refine ev_iinc (v := (nI 1)) dX5_pagesLeftWith_35 rfl (by decide) (by decide) rfl ?_
        refine ev_iinc (v := (nI 1)) dX5_pagesLeftWith_38 rfl (by decide) (by decide) rfl ?_
        refine ev_goto 5 dX5_pagesLeftWith_41 (by decide) ?_
        exact ev_st ih (by simp [nI_add, fb_ct_succ, vWith, *]) rfl (rfl)
  refine ev_iconst (v := (nI 0)) dX5_pagesLeftWith_0 (by decide) ?_
  refine ev_istore_k 3 dX5_pagesLeftWith_1 rfl (by decide) rfl ?_
  refine ev_iconst (v := (nI 0)) dX5_pagesLeftWith_2 (by decide) ?_
  refine ev_istore dX5_pagesLeftWith_3 (by decide) rfl ?_
  exact ev_st (key 0 (Nat.zero_le _)) (rfl) rfl (rfl)
set_option maxRecDepth 20000 in
set_option maxHeartbeats 2000000 in
theorem e_truePages {q n : Nat} {C : rf_Mem} (hq : st_ok q) (hn : C q 9 = nI n) (hn2 : n ≤ 40) {l : Int32} : Ev LayC mX5_truePages 0 (rf_ent 2 [.ref q, .int l]) [] C (some (.int (nI (fb_ct (vWith (C (q + 1)) (C (q + 2)) (C (q + 3)) l (nI 0)) n)))) C := by
  have hq0 := hq
  obtain ⟨h0, h1, h2, h3, h4, h5, h6, h7, h8, h9, h10, h11, h20⟩ := hq
  refine ev_aload_n dX5_truePages_0 rfl ?_
  refine ev_iload_n dX5_truePages_1 rfl ?_
  refine ev_iconst (v := (nI 0)) dX5_truePages_2 (by decide) ?_
  refine ev_cV2 dX5_truePages_3 ceX5_pagesLeftWith kX5_160 (rm_le rfl rfl) (Nat.le_of_ble_eq_true rfl) (Nat.le_of_ble_eq_true rfl) (e_pagesLeftWith hq0 hn hn2) (by first | assumption | rfl) ?_
  exact ev_iretE dX5_truePages_6 rfl rfl (by first | rfl | simp_all) (rfl)
set_option maxRecDepth 20000 in
set_option maxHeartbeats 2000000 in
theorem e_countGone {q n : Nat} {C : rf_Mem} (hq : st_ok q) (hn : C q 9 = nI n) (hn2 : n ≤ 40) : Ev LayC mX5_countGone 0 (rf_ent 3 [.ref q]) [] C (some (.int (nI (fb_ct (fun p => !decide (C (q + 3) p < nI 9)) n)))) C := by
  have hq0 := hq
  obtain ⟨h0, h1, h2, h3, h4, h5, h6, h7, h8, h9, h10, h11, h20⟩ := hq
  have key := ev_for (Lay := LayC) (y := mX5_countGone) (pc := 4) (r := (some (.int (nI (fb_ct (fun p => !decide (C (q + 3) p < nI 9)) n))))) (M' := C) (n) (fun i => [some (.ref q), some (.int (nI (fb_ct (fun p => !decide (C (q + 3) p < nI 9)) i))), some (.int (nI i))]) (fun i => C) ?hx ?hs
  case hx =>
    refine ev_iload_n dX5_countGone_4 rfl ?_
    refine ev_aload_n dX5_countGone_5 rfl ?_
    refine ev_getI dX5_countGone_6 fX5_40 (by first | assumption | rfl) (by rfl) ?_
    refine ev_icmp_ge 29 dX5_countGone_9 (by decide) (fun hc9 => ?_) (fun hc9 => False.elim (lp_x hn (by omega) hc9))
    refine ev_iload_n dX5_countGone_29 rfl ?_
    exact ev_iretE dX5_countGone_30 rfl rfl (by first | rfl | simp_all) (rfl)
  case hs =>
    intro i hi ih
    refine ev_iload_n dX5_countGone_4 rfl ?_
    refine ev_aload_n dX5_countGone_5 rfl ?_
    refine ev_getI dX5_countGone_6 fX5_40 (by first | assumption | rfl) (by rfl) ?_
    refine ev_icmp_ge 29 dX5_countGone_9 (by decide) (fun hc9 => False.elim (lp_s hn (by omega) hi hc9)) (fun hc9 => ?_)
    refine ev_aload_n dX5_countGone_12 rfl ?_
    refine ev_iload_n dX5_countGone_13 rfl ?_
    refine ev_cV1 dX5_countGone_14 ceX5_isGone kX5_139 (rm_le rfl rfl) (Nat.le_of_ble_eq_true rfl) (Nat.le_of_ble_eq_true rfl) (e_isGone hq0 (by omega)) (by first | assumption | rfl) ?_
    refine ev_if_eq 23 dX5_countGone_17 (by decide) (fun hc17 => ?_) (fun hc17 => ?_)
    · rw [b2i_0] at hc17
      refine ev_iinc (v := (nI 1)) dX5_countGone_23 rfl (by decide) (by decide) rfl ?_
      refine ev_goto 4 dX5_countGone_26 (by decide) ?_
      exact ev_st ih (by simp [nI_add, fb_ct_succ, *]) rfl (rfl)
    · rw [b2i_n0] at hc17
      refine ev_iinc (v := (nI 1)) dX5_countGone_20 rfl (by decide) (by decide) rfl ?_
      refine ev_iinc (v := (nI 1)) dX5_countGone_23 rfl (by decide) (by decide) rfl ?_
      refine ev_goto 4 dX5_countGone_26 (by decide) ?_
      exact ev_st ih (by simp [nI_add, fb_ct_succ, *]) rfl (rfl)
  refine ev_iconst (v := (nI 0)) dX5_countGone_0 (by decide) ?_
  refine ev_istore_k 1 dX5_countGone_1 rfl (by decide) rfl ?_
  refine ev_iconst (v := (nI 0)) dX5_countGone_2 (by decide) ?_
  refine ev_istore_k 2 dX5_countGone_3 rfl (by decide) rfl ?_
  exact ev_st (key 0 (Nat.zero_le _)) (rfl) rfl (rfl)
set_option maxRecDepth 20000 in
set_option maxHeartbeats 2000000 in
theorem e_trueReadingsLeft {q n : Nat} {C : rf_Mem} (hq : st_ok q) (hn : C q 9 = nI n) (hn2 : n ≤ 40) {l : Int32} : Ev LayC mX5_trueReadingsLeft 0 (rf_ent 4 [.ref q, .int l]) [] C (some (.int (iSum (vWith (C (q + 1)) (C (q + 2)) (C (q + 3)) l (nI 0)) (fun p => nI 9 - C (q + 3) p) n))) C := by
  have hq0 := hq
  obtain ⟨h0, h1, h2, h3, h4, h5, h6, h7, h8, h9, h10, h11, h20⟩ := hq
  have key := ev_for (Lay := LayC) (y := mX5_trueReadingsLeft) (pc := 4) (r := (some (.int (iSum (vWith (C (q + 1)) (C (q + 2)) (C (q + 3)) l (nI 0)) (fun p => nI 9 - C (q + 3) p) n)))) (M' := C) (n) (fun i => [some (.ref q), some (.int l), some (.int (iSum (vWith (C (q + 1)) (C (q + 2)) (C (q + 3)) l (nI 0)) (fun p => nI 9 - C (q + 3) p) i)), some (.int (nI i))]) (fun i => C) ?hx ?hs
  case hx =>
    refine ev_iload_n dX5_trueReadingsLeft_4 rfl ?_
    refine ev_aload_n dX5_trueReadingsLeft_5 rfl ?_
    refine ev_getI dX5_trueReadingsLeft_6 fX5_40 (by first | assumption | rfl) (by rfl) ?_
    refine ev_icmp_ge 48 dX5_trueReadingsLeft_9 (by decide) (fun hc9 => ?_) (fun hc9 => False.elim (lp_x hn (by omega) hc9))
    refine ev_iload_n dX5_trueReadingsLeft_48 rfl ?_
    exact ev_iretE dX5_trueReadingsLeft_49 rfl rfl (by first | rfl | simp_all) (rfl)
  case hs =>
    intro i hi ih
    refine ev_iload_n dX5_trueReadingsLeft_4 rfl ?_
    refine ev_aload_n dX5_trueReadingsLeft_5 rfl ?_
    refine ev_getI dX5_trueReadingsLeft_6 fX5_40 (by first | assumption | rfl) (by rfl) ?_
    refine ev_icmp_ge 48 dX5_trueReadingsLeft_9 (by decide) (fun hc9 => False.elim (lp_s hn (by omega) hi hc9)) (fun hc9 => ?_)
    refine ev_aload_n dX5_trueReadingsLeft_12 rfl ?_
    refine ev_iload_n dX5_trueReadingsLeft_13 rfl ?_
    refine ev_iload_n dX5_trueReadingsLeft_14 rfl ?_
    refine ev_cV2 dX5_trueReadingsLeft_15 ceX5_isLeft kX5_157 (rm_le rfl rfl) (Nat.le_of_ble_eq_true rfl) (Nat.le_of_ble_eq_true rfl) (e_isLeft hq0 (by omega)) (by first | assumption | rfl) ?_
    refine ev_if_eq 42 dX5_trueReadingsLeft_18 (by decide) (fun hc18 => ?_) (fun hc18 => ?_)
    · rw [b2i_0] at hc18
      refine ev_iinc (v := (nI 1)) dX5_trueReadingsLeft_42 rfl (by decide) (by decide) rfl ?_
      refine ev_goto 4 dX5_trueReadingsLeft_45 (by decide) ?_
      exact ev_st ih (by simp [nI_add, iSum, vWith, nI_0, *]) rfl (rfl)
    · rw [b2i_n0] at hc18
      refine ev_aload_n dX5_trueReadingsLeft_21 rfl ?_
      refine ev_getR dX5_trueReadingsLeft_22 fX5_22 (by first | assumption | rfl) (by rfl) ?_
      refine ev_iload_n dX5_trueReadingsLeft_25 rfl ?_
      refine ev_ialdE _ dX5_trueReadingsLeft_26 (rfl) (by first | assumption | rfl) ⟨by omega, by decide⟩ ?_
      refine ev_if_ne 42 dX5_trueReadingsLeft_27 (by decide) (fun hc27 => ?_) (fun hc27 => ?_)
      · refine ev_iinc (v := (nI 1)) dX5_trueReadingsLeft_42 rfl (by decide) (by decide) rfl ?_
        refine ev_goto 4 dX5_trueReadingsLeft_45 (by decide) ?_
        exact ev_st ih (by simp [nI_add, iSum, vWith, nI_0, *]) rfl (rfl)
      · refine ev_iload_n dX5_trueReadingsLeft_30 rfl ?_
        refine ev_bipush (v := (nI 9)) dX5_trueReadingsLeft_31 (by decide) ?_
        refine ev_aload_n dX5_trueReadingsLeft_33 rfl ?_
        refine ev_getR dX5_trueReadingsLeft_34 fX5_25 (by first | assumption | rfl) (by rfl) ?_
        refine ev_iload_n dX5_trueReadingsLeft_37 rfl ?_
        refine ev_ialdE _ dX5_trueReadingsLeft_38 (rfl) (by first | assumption | rfl) ⟨by omega, by decide⟩ ?_
        refine ev_isub dX5_trueReadingsLeft_39 ?_
        refine ev_iadd dX5_trueReadingsLeft_40 ?_
        refine ev_istore_k 2 dX5_trueReadingsLeft_41 rfl (by decide) rfl ?_
        refine ev_iinc (v := (nI 1)) dX5_trueReadingsLeft_42 rfl (by decide) (by decide) rfl ?_
        refine ev_goto 4 dX5_trueReadingsLeft_45 (by decide) ?_
        exact ev_st ih (by simp [nI_add, iSum, vWith, nI_0, *]) rfl (rfl)
  refine ev_iconst (v := (nI 0)) dX5_trueReadingsLeft_0 (by decide) ?_
  refine ev_istore_k 2 dX5_trueReadingsLeft_1 rfl (by decide) rfl ?_
  refine ev_iconst (v := (nI 0)) dX5_trueReadingsLeft_2 (by decide) ?_
  refine ev_istore_k 3 dX5_trueReadingsLeft_3 rfl (by decide) rfl ?_
  exact ev_st (key 0 (Nat.zero_le _)) (rfl) rfl (rfl)
set_option maxRecDepth 20000 in
set_option maxHeartbeats 2000000 in
theorem e_firstPage {q n : Nat} {C : rf_Mem} (hq : st_ok q) (hn : C q 9 = nI n) (hn2 : n ≤ 40) {l : Int32} : Ev LayC mX5_firstPage 0 (rf_ent 3 [.ref q, .int l]) [] C (some (.int (fFst (vLeft (C (q + 1)) (C (q + 3)) l) n))) C := by
  have hq0 := hq
  obtain ⟨h0, h1, h2, h3, h4, h5, h6, h7, h8, h9, h10, h11, h20⟩ := hq
  have key := ev_forI (Lay := LayC) (y := mX5_firstPage) (pc := 2) (r := (some (.int (fFst (vLeft (C (q + 1)) (C (q + 3)) l) n)))) (M' := C) (n) (fun i => ∀ j, j < i → vLeft (C (q + 1)) (C (q + 3)) l j = false) (fun i => [some (.ref q), some (.int l), some (.int (nI i))]) (fun i => C) ?hx ?hs
  case hx =>
    intro hI
    refine ev_iload_n dX5_firstPage_2 rfl ?_
    refine ev_aload_n dX5_firstPage_3 rfl ?_
    refine ev_getI dX5_firstPage_4 fX5_40 (by first | assumption | rfl) (by rfl) ?_
    refine ev_icmp_ge 27 dX5_firstPage_7 (by decide) (fun hc7 => ?_) (fun hc7 => False.elim (lp_x hn (by omega) hc7))
    refine ev_iconst (v := (-1)) dX5_firstPage_27 (by decide) ?_
    exact ev_iretE dX5_firstPage_28 rfl rfl (by rw [fFst_none hI]) (rfl)
  case hs =>
    intro i hi hI ih
    refine ev_iload_n dX5_firstPage_2 rfl ?_
    refine ev_aload_n dX5_firstPage_3 rfl ?_
    refine ev_getI dX5_firstPage_4 fX5_40 (by first | assumption | rfl) (by rfl) ?_
    refine ev_icmp_ge 27 dX5_firstPage_7 (by decide) (fun hc7 => False.elim (lp_s hn (by omega) hi hc7)) (fun hc7 => ?_)
    refine ev_aload_n dX5_firstPage_10 rfl ?_
    refine ev_iload_n dX5_firstPage_11 rfl ?_
    refine ev_iload_n dX5_firstPage_12 rfl ?_
    refine ev_cV2 dX5_firstPage_13 ceX5_isLeft kX5_157 (rm_le rfl rfl) (Nat.le_of_ble_eq_true rfl) (Nat.le_of_ble_eq_true rfl) (e_isLeft hq0 (by omega)) (by first | assumption | rfl) ?_
    refine ev_if_eq 21 dX5_firstPage_16 (by decide) (fun hc16 => ?_) (fun hc16 => ?_)
    · rw [b2i_0] at hc16
      refine ev_iinc (v := (nI 1)) dX5_firstPage_21 rfl (by decide) (by decide) rfl ?_
      refine ev_goto 2 dX5_firstPage_24 (by decide) ?_
      exact ev_st (ih (no_s hI hc16)) (by simp [nI_add]) rfl (rfl)
    · rw [b2i_n0] at hc16
      refine ev_iload_n dX5_firstPage_19 rfl ?_
      exact ev_iretE dX5_firstPage_20 rfl rfl (by rw [fFst_hit hi hI hc16]) (rfl)
  refine ev_iconst (v := (nI 0)) dX5_firstPage_0 (by decide) ?_
  refine ev_istore_k 2 dX5_firstPage_1 rfl (by decide) rfl ?_
  exact ev_st (key 0 (Nat.zero_le _) (by intro j hj; omega)) (rfl) rfl (rfl)
set_option maxRecDepth 20000 in
set_option maxHeartbeats 2000000 in
theorem e_knowers {q : Nat} {C : rf_Mem} (hq : st_ok q) {nr : Nat} (hr8 : C 8 5 = nI nr) (hnr : nr ≤ 8) {l : Nat} (hl : l < 16) : Ev LayC mX5_knowers 0 (rf_ent 4 [.ref q, .int (nI l)]) [] C (some (.int (kset (fun r => !decide (knC C q (C q 10) r l = -1)) nr))) C := by
  have hq0 := hq
  obtain ⟨h0, h1, h2, h3, h4, h5, h6, h7, h8, h9, h10, h11, h20⟩ := hq
  have key := ev_for (Lay := LayC) (y := mX5_knowers) (pc := 4) (r := (some (.int (kset (fun r => !decide (knC C q (C q 10) r l = -1)) nr)))) (M' := C) (nr) (fun i => [some (.ref q), some (.int (nI l)), some (.int (kset (fun r => !decide (knC C q (C q 10) r l = -1)) i)), some (.int (nI i))]) (fun i => C) ?hx ?hs
  case hx =>
    refine ev_iload_n dX5_knowers_4 rfl ?_
    refine ev_aload_n dX5_knowers_5 rfl ?_
    refine ev_getR dX5_knowers_6 fX5_50 (by first | assumption | rfl) (by rfl) ?_
    refine ev_getI dX5_knowers_9 fX5_109 (by first | assumption | rfl) (by rfl) ?_
    refine ev_icmp_ge 36 dX5_knowers_12 (by decide) (fun hc12 => ?_) (fun hc12 => False.elim (lp_x hr8 (by omega) hc12))
    refine ev_iload_n dX5_knowers_36 rfl ?_
    exact ev_iretE dX5_knowers_37 rfl rfl (by first | rfl | simp_all) (rfl)
  case hs =>
    intro i hi ih
    refine ev_iload_n dX5_knowers_4 rfl ?_
    refine ev_aload_n dX5_knowers_5 rfl ?_
    refine ev_getR dX5_knowers_6 fX5_50 (by first | assumption | rfl) (by rfl) ?_
    refine ev_getI dX5_knowers_9 fX5_109 (by first | assumption | rfl) (by rfl) ?_
    refine ev_icmp_ge 36 dX5_knowers_12 (by decide) (fun hc12 => False.elim (lp_s hr8 (by omega) hi hc12)) (fun hc12 => ?_)
    refine ev_aload_n dX5_knowers_15 rfl ?_
    refine ev_iload_n dX5_knowers_16 rfl ?_
    refine ev_iload_n dX5_knowers_17 rfl ?_
    refine ev_cV2 dX5_knowers_18 ceX5_knowsAny kX5_163 (rm_le rfl rfl) (Nat.le_of_ble_eq_true rfl) (Nat.le_of_ble_eq_true rfl) (e_knowsAny hq0 (by omega) hl) (by first | assumption | rfl) ?_
    refine ev_if_eq 30 dX5_knowers_21 (by decide) (fun hc21 => ?_) (fun hc21 => ?_)
    · rw [b2i_0] at hc21
      refine ev_iinc (v := (nI 1)) dX5_knowers_30 rfl (by decide) (by decide) rfl ?_
      refine ev_goto 4 dX5_knowers_33 (by decide) ?_
      exact ev_st ih (by simp_all [kset, nI_add]) rfl (rfl)
    · rw [b2i_n0] at hc21
      refine ev_iload_n dX5_knowers_24 rfl ?_
      refine ev_iconst (v := (nI 1)) dX5_knowers_25 (by decide) ?_
      refine ev_iload_n dX5_knowers_26 rfl ?_
      refine ev_ishl dX5_knowers_27 ?_
      refine ev_ior dX5_knowers_28 ?_
      refine ev_istore_k 2 dX5_knowers_29 rfl (by decide) rfl ?_
      refine ev_iinc (v := (nI 1)) dX5_knowers_30 rfl (by decide) (by decide) rfl ?_
      refine ev_goto 4 dX5_knowers_33 (by decide) ?_
      exact ev_st ih (by simp_all [kset, nI_add]) rfl (rfl)
  refine ev_iconst (v := (nI 0)) dX5_knowers_0 (by decide) ?_
  refine ev_istore_k 2 dX5_knowers_1 rfl (by decide) rfl ?_
  refine ev_iconst (v := (nI 0)) dX5_knowers_2 (by decide) ?_
  refine ev_istore_k 3 dX5_knowers_3 rfl (by decide) rfl ?_
  exact ev_st (key 0 (Nat.zero_le _)) (rfl) rfl (rfl)
set_option maxRecDepth 20000 in
set_option maxHeartbeats 2000000 in
theorem e_knowersOf {q : Nat} {C : rf_Mem} (hq : st_ok q) {nr : Nat} (hr8 : C 8 5 = nI nr) (hnr : nr ≤ 8) {l : Nat} (hl : l < 16) {v : Int32} : Ev LayC mX5_knowersOf 0 (rf_ent 5 [.ref q, .int (nI l), .int v]) [] C (some (.int (kset (fun r => decide (knC C q (C q 10) r l = v)) nr))) C := by
  have hq0 := hq
  obtain ⟨h0, h1, h2, h3, h4, h5, h6, h7, h8, h9, h10, h11, h20⟩ := hq
  have key := ev_for (Lay := LayC) (y := mX5_knowersOf) (pc := 5) (r := (some (.int (kset (fun r => decide (knC C q (C q 10) r l = v)) nr)))) (M' := C) (nr) (fun i => [some (.ref q), some (.int (nI l)), some (.int v), some (.int (kset (fun r => decide (knC C q (C q 10) r l = v)) i)), some (.int (nI i))]) (fun i => C) ?hx ?hs
  case hx =>
    refine ev_iload dX5_knowersOf_5 rfl ?_
    refine ev_aload_n dX5_knowersOf_7 rfl ?_
    refine ev_getR dX5_knowersOf_8 fX5_50 (by first | assumption | rfl) (by rfl) ?_
    refine ev_getI dX5_knowersOf_11 fX5_109 (by first | assumption | rfl) (by rfl) ?_
    refine ev_icmp_ge 41 dX5_knowersOf_14 (by decide) (fun hc14 => ?_) (fun hc14 => False.elim (lp_x hr8 (by omega) hc14))
    refine ev_iload_n dX5_knowersOf_41 rfl ?_
    exact ev_iretE dX5_knowersOf_42 rfl rfl (by first | rfl | simp_all) (rfl)
  case hs =>
    intro i hi ih
    refine ev_iload dX5_knowersOf_5 rfl ?_
    refine ev_aload_n dX5_knowersOf_7 rfl ?_
    refine ev_getR dX5_knowersOf_8 fX5_50 (by first | assumption | rfl) (by rfl) ?_
    refine ev_getI dX5_knowersOf_11 fX5_109 (by first | assumption | rfl) (by rfl) ?_
    refine ev_icmp_ge 41 dX5_knowersOf_14 (by decide) (fun hc14 => False.elim (lp_s hr8 (by omega) hi hc14)) (fun hc14 => ?_)
    refine ev_aload_n dX5_knowersOf_17 rfl ?_
    refine ev_iload dX5_knowersOf_18 rfl ?_
    refine ev_iload_n dX5_knowersOf_20 rfl ?_
    refine ev_cV2 dX5_knowersOf_21 ceX5_variantKnown kX5_96 (rm_le rfl rfl) (Nat.le_of_ble_eq_true rfl) (Nat.le_of_ble_eq_true rfl) (e_variantKnown hq0 (by omega) hl) (by first | assumption | rfl) ?_
    refine ev_iload_n dX5_knowersOf_24 rfl ?_
    refine ev_icmp_ne 35 dX5_knowersOf_25 (by decide) (fun hc25 => ?_) (fun hc25 => ?_)
    · refine ev_iinc (v := (nI 1)) dX5_knowersOf_35 rfl (by decide) (by decide) rfl ?_
      refine ev_goto 5 dX5_knowersOf_38 (by decide) ?_
      exact ev_st ih (by simp_all [kset, nI_add]) rfl (rfl)
    · refine ev_iload_n dX5_knowersOf_28 rfl ?_
      refine ev_iconst (v := (nI 1)) dX5_knowersOf_29 (by decide) ?_
      refine ev_iload dX5_knowersOf_30 rfl ?_
      refine ev_ishl dX5_knowersOf_32 ?_
      refine ev_ior dX5_knowersOf_33 ?_
      refine ev_istore_k 3 dX5_knowersOf_34 rfl (by decide) rfl ?_
      refine ev_iinc (v := (nI 1)) dX5_knowersOf_35 rfl (by decide) (by decide) rfl ?_
      refine ev_goto 5 dX5_knowersOf_38 (by decide) ?_
      exact ev_st ih (by simp_all [kset, nI_add]) rfl (rfl)
  refine ev_iconst (v := (nI 0)) dX5_knowersOf_0 (by decide) ?_
  refine ev_istore_k 3 dX5_knowersOf_1 rfl (by decide) rfl ?_
  refine ev_iconst (v := (nI 0)) dX5_knowersOf_2 (by decide) ?_
  refine ev_istore dX5_knowersOf_3 (by decide) rfl ?_
  exact ev_st (key 0 (Nat.zero_le _)) (rfl) rfl (rfl)
set_option maxRecDepth 20000 in
set_option maxHeartbeats 2000000 in
theorem e_trueKnowers {q : Nat} {C : rf_Mem} (hq : st_ok q) {nr : Nat} (hr8 : C 8 5 = nI nr) (hnr : nr ≤ 8) {l : Nat} (hl : l < 16) : Ev LayC mX5_trueKnowers 0 (rf_ent 2 [.ref q, .int (nI l)]) [] C (some (.int (kset (fun r => decide (knC C q (C q 10) r l = nI 0)) nr))) C := by
  have hq0 := hq
  obtain ⟨h0, h1, h2, h3, h4, h5, h6, h7, h8, h9, h10, h11, h20⟩ := hq
  refine ev_aload_n dX5_trueKnowers_0 rfl ?_
  refine ev_iload_n dX5_trueKnowers_1 rfl ?_
  refine ev_iconst (v := (nI 0)) dX5_trueKnowers_2 (by decide) ?_
  refine ev_cV2 dX5_trueKnowers_3 ceX5_knowersOf kX5_166 (rm_le rfl rfl) (Nat.le_of_ble_eq_true rfl) (Nat.le_of_ble_eq_true rfl) (e_knowersOf hq0 hr8 hnr hl) (by first | assumption | rfl) ?_
  exact ev_iretE dX5_trueKnowers_6 rfl rfl (by first | rfl | simp_all) (rfl)
set_option maxRecDepth 20000 in
set_option maxHeartbeats 2000000 in
theorem e_linesKnown {q : Nat} {C : rf_Mem} (hq : st_ok q) {nl : Nat} (hl4 : C 8 4 = nI nl) (hnl : nl ≤ 16) {r : Nat} (hr : r < 8) : Ev LayC mX5_linesKnown 0 (rf_ent 4 [.ref q, .int (nI r)]) [] C (some (.int (nI (fb_ct (fun l => !decide (knC C q (C q 10) r l = -1)) nl)))) C := by
  have hq0 := hq
  obtain ⟨h0, h1, h2, h3, h4, h5, h6, h7, h8, h9, h10, h11, h20⟩ := hq
  have key := ev_for (Lay := LayC) (y := mX5_linesKnown) (pc := 4) (r := (some (.int (nI (fb_ct (fun l => !decide (knC C q (C q 10) r l = -1)) nl))))) (M' := C) (nl) (fun i => [some (.ref q), some (.int (nI r)), some (.int (nI (fb_ct (fun l => !decide (knC C q (C q 10) r l = -1)) i))), some (.int (nI i))]) (fun i => C) ?hx ?hs
  case hx =>
    refine ev_iload_n dX5_linesKnown_4 rfl ?_
    refine ev_aload_n dX5_linesKnown_5 rfl ?_
    refine ev_getR dX5_linesKnown_6 fX5_50 (by first | assumption | rfl) (by rfl) ?_
    refine ev_getI dX5_linesKnown_9 fX5_60 (by first | assumption | rfl) (by rfl) ?_
    refine ev_icmp_ge 33 dX5_linesKnown_12 (by decide) (fun hc12 => ?_) (fun hc12 => False.elim (lp_x hl4 (by omega) hc12))
    refine ev_iload_n dX5_linesKnown_33 rfl ?_
    exact ev_iretE dX5_linesKnown_34 rfl rfl (by first | rfl | simp_all) (rfl)
  case hs =>
    intro i hi ih
    refine ev_iload_n dX5_linesKnown_4 rfl ?_
    refine ev_aload_n dX5_linesKnown_5 rfl ?_
    refine ev_getR dX5_linesKnown_6 fX5_50 (by first | assumption | rfl) (by rfl) ?_
    refine ev_getI dX5_linesKnown_9 fX5_60 (by first | assumption | rfl) (by rfl) ?_
    refine ev_icmp_ge 33 dX5_linesKnown_12 (by decide) (fun hc12 => False.elim (lp_s hl4 (by omega) hi hc12)) (fun hc12 => ?_)
    refine ev_aload_n dX5_linesKnown_15 rfl ?_
    refine ev_iload_n dX5_linesKnown_16 rfl ?_
    refine ev_iload_n dX5_linesKnown_17 rfl ?_
    refine ev_cV2 dX5_linesKnown_18 ceX5_knowsAny kX5_163 (rm_le rfl rfl) (Nat.le_of_ble_eq_true rfl) (Nat.le_of_ble_eq_true rfl) (e_knowsAny hq0 hr (by omega)) (by first | assumption | rfl) ?_
    refine ev_if_eq 27 dX5_linesKnown_21 (by decide) (fun hc21 => ?_) (fun hc21 => ?_)
    · rw [b2i_0] at hc21
      refine ev_iinc (v := (nI 1)) dX5_linesKnown_27 rfl (by decide) (by decide) rfl ?_
      refine ev_goto 4 dX5_linesKnown_30 (by decide) ?_
      exact ev_st ih (by simp_all [fb_ct_succ, nI_add]) rfl (rfl)
    · rw [b2i_n0] at hc21
      refine ev_iinc (v := (nI 1)) dX5_linesKnown_24 rfl (by decide) (by decide) rfl ?_
      refine ev_iinc (v := (nI 1)) dX5_linesKnown_27 rfl (by decide) (by decide) rfl ?_
      refine ev_goto 4 dX5_linesKnown_30 (by decide) ?_
      exact ev_st ih (by simp_all [fb_ct_succ, nI_add]) rfl (rfl)
  refine ev_iconst (v := (nI 0)) dX5_linesKnown_0 (by decide) ?_
  refine ev_istore_k 2 dX5_linesKnown_1 rfl (by decide) rfl ?_
  refine ev_iconst (v := (nI 0)) dX5_linesKnown_2 (by decide) ?_
  refine ev_istore_k 3 dX5_linesKnown_3 rfl (by decide) rfl ?_
  exact ev_st (key 0 (Nat.zero_le _)) (rfl) rfl (rfl)
set_option maxRecDepth 20000 in
set_option maxHeartbeats 2000000 in
theorem e_bitCount {C : rf_Mem} {x : Int32} : Ev LayC mJ6_bitCount_0f7a4 0 (rf_ent 1 [.int x]) [] C (some (.int (bcI x))) C := by
  refine ev_iload_n dJ6_bitCount_0f7a4_0 rfl ?_
  refine ev_iload_n dJ6_bitCount_0f7a4_1 rfl ?_
  refine ev_iconst (v := (nI 1)) dJ6_bitCount_0f7a4_2 (by decide) ?_
  refine ev_iushr dJ6_bitCount_0f7a4_3 ?_
  refine ev_ldcw (v := (nI 1431655765)) dJ6_bitCount_0f7a4_4 nJ6_265 ?_
  refine ev_iand dJ6_bitCount_0f7a4_7 ?_
  refine ev_isub dJ6_bitCount_0f7a4_8 ?_
  refine ev_istore_k 0 dJ6_bitCount_0f7a4_9 rfl (by decide) rfl ?_
  refine ev_iload_n dJ6_bitCount_0f7a4_10 rfl ?_
  refine ev_ldcw (v := (nI 858993459)) dJ6_bitCount_0f7a4_11 nJ6_266 ?_
  refine ev_iand dJ6_bitCount_0f7a4_14 ?_
  refine ev_iload_n dJ6_bitCount_0f7a4_15 rfl ?_
  refine ev_iconst (v := (nI 2)) dJ6_bitCount_0f7a4_16 (by decide) ?_
  refine ev_iushr dJ6_bitCount_0f7a4_17 ?_
  refine ev_ldcw (v := (nI 858993459)) dJ6_bitCount_0f7a4_18 nJ6_266 ?_
  refine ev_iand dJ6_bitCount_0f7a4_21 ?_
  refine ev_iadd dJ6_bitCount_0f7a4_22 ?_
  refine ev_istore_k 0 dJ6_bitCount_0f7a4_23 rfl (by decide) rfl ?_
  refine ev_iload_n dJ6_bitCount_0f7a4_24 rfl ?_
  refine ev_iload_n dJ6_bitCount_0f7a4_25 rfl ?_
  refine ev_iconst (v := (nI 4)) dJ6_bitCount_0f7a4_26 (by decide) ?_
  refine ev_iushr dJ6_bitCount_0f7a4_27 ?_
  refine ev_iadd dJ6_bitCount_0f7a4_28 ?_
  refine ev_ldcw (v := (nI 252645135)) dJ6_bitCount_0f7a4_29 nJ6_267 ?_
  refine ev_iand dJ6_bitCount_0f7a4_32 ?_
  refine ev_istore_k 0 dJ6_bitCount_0f7a4_33 rfl (by decide) rfl ?_
  refine ev_iload_n dJ6_bitCount_0f7a4_34 rfl ?_
  refine ev_iload_n dJ6_bitCount_0f7a4_35 rfl ?_
  refine ev_bipush (v := (nI 8)) dJ6_bitCount_0f7a4_36 (by decide) ?_
  refine ev_iushr dJ6_bitCount_0f7a4_38 ?_
  refine ev_iadd dJ6_bitCount_0f7a4_39 ?_
  refine ev_istore_k 0 dJ6_bitCount_0f7a4_40 rfl (by decide) rfl ?_
  refine ev_iload_n dJ6_bitCount_0f7a4_41 rfl ?_
  refine ev_iload_n dJ6_bitCount_0f7a4_42 rfl ?_
  refine ev_bipush (v := (nI 16)) dJ6_bitCount_0f7a4_43 (by decide) ?_
  refine ev_iushr dJ6_bitCount_0f7a4_45 ?_
  refine ev_iadd dJ6_bitCount_0f7a4_46 ?_
  refine ev_istore_k 0 dJ6_bitCount_0f7a4_47 rfl (by decide) rfl ?_
  refine ev_iload_n dJ6_bitCount_0f7a4_48 rfl ?_
  refine ev_bipush (v := (nI 63)) dJ6_bitCount_0f7a4_49 (by decide) ?_
  refine ev_iand dJ6_bitCount_0f7a4_51 ?_
  exact ev_iretE dJ6_bitCount_0f7a4_52 rfl rfl (rfl) (rfl)
set_option maxRecDepth 20000 in
set_option maxHeartbeats 2000000 in
theorem e_isKept {q n : Nat} {C : rf_Mem} (hq : st_ok q) (hn : C q 9 = nI n) (hn2 : n ≤ 40) {nr : Nat} (hr8 : C 8 5 = nI nr) (hnr : nr ≤ 8) {l : Nat} (hl : l < 16) {h : Int32} : Ev LayC mX5_isKept 0 (rf_ent 5 [.ref q, .int (nI l), .int h]) [] C (some (.int (b2i (kpB C q n nr h l)))) C := by
  have hq0 := hq
  obtain ⟨h0, h1, h2, h3, h4, h5, h6, h7, h8, h9, h10, h11, h20⟩ := hq
  have key := ev_forI (Lay := LayC) (y := mX5_isKept) (pc := 24) (r := (some (.int (b2i (kpB C q n nr h l))))) (M' := C) (nr) (fun i => (¬ 0 < fb_ct (vWith (C (q + 1)) (C (q + 2)) (C (q + 3)) (nI l) (nI 0)) n) ∧ ∀ j, j < i → (fun r => decide (knC C q (C q 10 + dA (C q 10) h) r l = 0)) j = false) (fun i => [some (.ref q), some (.int (nI l)), some (.int h), some (.int (C q 10 + dA (C q 10) h)), some (.int (nI i))]) (fun i => C) ?hx ?hs
  case hx =>
    intro hI
    refine ev_iload dX5_isKept_24 rfl ?_
    refine ev_aload_n dX5_isKept_26 rfl ?_
    refine ev_getR dX5_isKept_27 fX5_50 (by first | assumption | rfl) (by rfl) ?_
    refine ev_getI dX5_isKept_30 fX5_109 (by first | assumption | rfl) (by rfl) ?_
    refine ev_icmp_ge 55 dX5_isKept_33 (by decide) (fun hc33 => ?_) (fun hc33 => False.elim (lp_x hr8 (by omega) hc33))
    refine ev_iconst (v := (nI 0)) dX5_isKept_55 (by decide) ?_
    exact ev_iretE dX5_isKept_56 rfl rfl (by rw [kpB, bAny_no hI.2]; simp [b2i, hI.1]) (rfl)
  case hs =>
    intro i hi hI ih
    refine ev_iload dX5_isKept_24 rfl ?_
    refine ev_aload_n dX5_isKept_26 rfl ?_
    refine ev_getR dX5_isKept_27 fX5_50 (by first | assumption | rfl) (by rfl) ?_
    refine ev_getI dX5_isKept_30 fX5_109 (by first | assumption | rfl) (by rfl) ?_
    refine ev_icmp_ge 55 dX5_isKept_33 (by decide) (fun hc33 => False.elim (lp_s hr8 (by omega) hi hc33)) (fun hc33 => ?_)
    refine ev_aload_n dX5_isKept_36 rfl ?_
    refine ev_iload dX5_isKept_37 rfl ?_
    refine ev_iload_n dX5_isKept_39 rfl ?_
    refine ev_iload_n dX5_isKept_40 rfl ?_
    refine ev_cV3 dX5_isKept_41 ceX5_variantAt kX5_92 (rm_le rfl rfl) (Nat.le_of_ble_eq_true rfl) (Nat.le_of_ble_eq_true rfl) (e_variantAt hq0 (by omega) hl) (by first | assumption | rfl) ?_
    refine ev_if_ne 49 dX5_isKept_44 (by decide) (fun hc44 => ?_) (fun hc44 => ?_)
    · refine ev_iinc (v := (nI 1)) dX5_isKept_49 rfl (by decide) (by decide) rfl ?_
      refine ev_goto 24 dX5_isKept_52 (by decide) ?_
      exact ev_st (ih (⟨hI.1, no_s hI.2 (by simpa using hc44)⟩)) (by simp [nI_add]) rfl (rfl)
    · refine ev_iconst (v := (nI 1)) dX5_isKept_47 (by decide) ?_
      exact ev_iretE dX5_isKept_48 rfl rfl (by rw [kpB, bAny_of hi (by simpa using hc44)]; simp [b2i]) (rfl)
  refine ev_aload_n dX5_isKept_0 rfl ?_
  refine ev_iload_n dX5_isKept_1 rfl ?_
  refine ev_cV1 dX5_isKept_2 ceX5_truePages kX5_150 (rm_le rfl rfl) (Nat.le_of_ble_eq_true rfl) (Nat.le_of_ble_eq_true rfl) (e_truePages hq0 hn hn2) (by first | assumption | rfl) ?_
  refine ev_if_le 10 dX5_isKept_5 (by decide) (fun hc5 => ?_) (fun hc5 => ?_)
  · refine ev_aload_n dX5_isKept_10 rfl ?_
    refine ev_getI dX5_isKept_11 fX5_44 (by first | assumption | rfl) (by rfl) ?_
    refine ev_aload_n dX5_isKept_14 rfl ?_
    refine ev_iload_n dX5_isKept_15 rfl ?_
    refine ev_cV1 dX5_isKept_16 ceX5_daysAhead kX5_132 (rm_le rfl rfl) (Nat.le_of_ble_eq_true rfl) (Nat.le_of_ble_eq_true rfl) (e_daysAhead hq0) (by first | assumption | rfl) ?_
    refine ev_iadd dX5_isKept_19 ?_
    refine ev_istore_k 3 dX5_isKept_20 rfl (by decide) rfl ?_
    refine ev_iconst (v := (nI 0)) dX5_isKept_21 (by decide) ?_
    refine ev_istore dX5_isKept_22 (by decide) rfl ?_
    exact ev_st (key 0 (Nat.zero_le _) (⟨fun z => nI_nle z (by have := fb_ct_le (vWith (C (q + 1)) (C (q + 2)) (C (q + 3)) (nI l) (nI 0)) n; omega) hc5, by intro j hj; omega⟩)) (rfl) rfl (rfl)
  · refine ev_iconst (v := (nI 1)) dX5_isKept_8 (by decide) ?_
    exact ev_iretE dX5_isKept_9 rfl rfl (by
    have z : 0 < fb_ct (vWith (C (q + 1)) (C (q + 2)) (C (q + 3)) (nI l) (nI 0)) n := by
      rcases Nat.eq_zero_or_pos (fb_ct (vWith (C (q + 1)) (C (q + 2)) (C (q + 3)) (nI l) (nI 0)) n) with e | e
      · exact absurd (by rw [e]; decide) hc5
      · exact e
    simp [kpB, z, b2i]) (rfl)
set_option maxRecDepth 20000 in
set_option maxHeartbeats 2000000 in
theorem e_countKept {q n : Nat} {C : rf_Mem} (hq : st_ok q) (hn : C q 9 = nI n) (hn2 : n ≤ 40) {nr : Nat} (hr8 : C 8 5 = nI nr) (hnr : nr ≤ 8) {nl : Nat} (hl4 : C 8 4 = nI nl) (hnl : nl ≤ 16) {h : Int32} : Ev LayC mX5_countKept 0 (rf_ent 4 [.ref q, .int h]) [] C (some (.int (nI (fb_ct (kpB C q n nr h) nl)))) C := by
  have hq0 := hq
  obtain ⟨h0, h1, h2, h3, h4, h5, h6, h7, h8, h9, h10, h11, h20⟩ := hq
  have key := ev_for (Lay := LayC) (y := mX5_countKept) (pc := 4) (r := (some (.int (nI (fb_ct (kpB C q n nr h) nl))))) (M' := C) (nl) (fun i => [some (.ref q), some (.int h), some (.int (nI (fb_ct (kpB C q n nr h) i))), some (.int (nI i))]) (fun i => C) ?hx ?hs
  case hx =>
    refine ev_iload_n dX5_countKept_4 rfl ?_
    refine ev_aload_n dX5_countKept_5 rfl ?_
    refine ev_getR dX5_countKept_6 fX5_50 (by first | assumption | rfl) (by rfl) ?_
    refine ev_getI dX5_countKept_9 fX5_60 (by first | assumption | rfl) (by rfl) ?_
    refine ev_icmp_ge 33 dX5_countKept_12 (by decide) (fun hc12 => ?_) (fun hc12 => False.elim (lp_x hl4 (by omega) hc12))
    refine ev_iload_n dX5_countKept_33 rfl ?_
    exact ev_iretE dX5_countKept_34 rfl rfl (by first | rfl | simp_all) (rfl)
  case hs =>
    intro i hi ih
    refine ev_iload_n dX5_countKept_4 rfl ?_
    refine ev_aload_n dX5_countKept_5 rfl ?_
    refine ev_getR dX5_countKept_6 fX5_50 (by first | assumption | rfl) (by rfl) ?_
    refine ev_getI dX5_countKept_9 fX5_60 (by first | assumption | rfl) (by rfl) ?_
    refine ev_icmp_ge 33 dX5_countKept_12 (by decide) (fun hc12 => False.elim (lp_s hl4 (by omega) hi hc12)) (fun hc12 => ?_)
    refine ev_aload_n dX5_countKept_15 rfl ?_
    refine ev_iload_n dX5_countKept_16 rfl ?_
    refine ev_iload_n dX5_countKept_17 rfl ?_
    refine ev_cV2 dX5_countKept_18 ceX5_isKept kX5_153 (rm_le rfl rfl) (Nat.le_of_ble_eq_true rfl) (Nat.le_of_ble_eq_true rfl) (e_isKept hq0 hn hn2 hr8 hnr (by omega)) (by first | assumption | rfl) ?_
    refine ev_if_eq 27 dX5_countKept_21 (by decide) (fun hc21 => ?_) (fun hc21 => ?_)
    · rw [b2i_0] at hc21
      refine ev_iinc (v := (nI 1)) dX5_countKept_27 rfl (by decide) (by decide) rfl ?_
      refine ev_goto 4 dX5_countKept_30 (by decide) ?_
      exact ev_st ih (by simp_all [fb_ct_succ, nI_add]) rfl (rfl)
    · rw [b2i_n0] at hc21
      refine ev_iinc (v := (nI 1)) dX5_countKept_24 rfl (by decide) (by decide) rfl ?_
      refine ev_iinc (v := (nI 1)) dX5_countKept_27 rfl (by decide) (by decide) rfl ?_
      refine ev_goto 4 dX5_countKept_30 (by decide) ?_
      exact ev_st ih (by simp_all [fb_ct_succ, nI_add]) rfl (rfl)
  refine ev_iconst (v := (nI 0)) dX5_countKept_0 (by decide) ?_
  refine ev_istore_k 2 dX5_countKept_1 rfl (by decide) rfl ?_
  refine ev_iconst (v := (nI 0)) dX5_countKept_2 (by decide) ?_
  refine ev_istore_k 3 dX5_countKept_3 rfl (by decide) rfl ?_
  exact ev_st (key 0 (Nat.zero_le _)) (rfl) rfl (rfl)
