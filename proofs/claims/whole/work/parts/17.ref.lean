/-! the reference: queries -/
theorem ix3 (a b c : Nat) : nI a + nI b + nI c = nI (a + b + c) := by rw [nI_add, nI_add]
theorem ix_k (a r l : Nat) : nI a + nI 16 * nI r + nI l = nI (a + 16 * r + l) := by rw [pk_mul, nI_add, nI_add]
theorem ix_xk (x a r l : Nat) : nI x + nI a + nI 16 * nI r + nI l = nI (x + a + 16 * r + l) := by rw [pk_mul, nI_add, nI_add, nI_add]
theorem lgc_lt (x y : Int64) : lg_cmp x y < 0 ↔ x < y := by
  have h := lg_cmp_ge x y
  constructor
  · intro z
    rcases Int64.lt_or_le x y with q | q
    · exact q
    · exact absurd (h.mpr q) (fun w => (fa_of_lt z).2.1 w)
  · intro z
    rcases Int32.lt_or_le (lg_cmp x y) 0 with q | q
    · exact q
    · exact absurd (h.mp q) (fun w => by have := (fa_lt64 x y).mp z; have := (fa_le64 y x).mp w; omega)
theorem lgc_gt (x y : Int64) : 0 < lg_cmp x y ↔ y < x := by
  unfold lg_cmp
  by_cases h : x > y
  · simp [h]
  · rw [if_neg h]
    by_cases h2 : x = y
    · rw [if_pos h2]; constructor
      · intro z; exact absurd z (by decide)
      · intro z; exact absurd z h
    · rw [if_neg h2]; constructor
      · intro z; exact absurd z (by decide)
      · intro z; exact absurd z h
theorem b2i_nar (b : Bool) : narrow .boolean (.int (b2i b)) = .int (b2i b) := by cases b <;> rfl
theorem shl0 (y : Int32) : nI 0 <<< y = nI 0 := by
  apply Int32.toBitVec_inj.mp
  simp [nI]
theorem or0 (x : Int32) : x ||| nI 0 = x := by
  apply Int32.toBitVec_inj.mp
  simp [nI]
def kpM (G : rf_Mem) (x n nr l : Nat) : Bool := bAny (fun p => decide (G 1 (x + p) = nI l) && decide (G 1 (x + 40 + p) = 0) && !decide (nI 9 ≤ G 1 (x + 80 + p))) n || bAny (fun r => decide (G 1 (x + 160 + 16 * r + l) = 0)) nr
def lastI (P : Nat → Bool) : Nat → Int32
  | 0 => -1
  | i + 1 => if P i then nI i else lastI P i

set_option maxRecDepth 20000 in
set_option maxHeartbeats 2000000 in
theorem e7_in {G : rf_Mem} {v lo hi : Int64} : Ev LayM mX7_in 0 (rf_ent 6 [.long v, .long lo, .long hi]) [] G (some (.int (b2i (!decide (v < lo) && !decide (hi < v))))) G := by
  refine ev_lload_n dX7_in_0 rfl ?_
  refine ev_lload_n dX7_in_1 rfl ?_
  refine ev_lcmp dX7_in_2 ?_
  refine ev_if_lt 17 dX7_in_3 (by decide) (fun hc3 => ?_) (fun hc3 => ?_)
  · rw [lgc_lt] at hc3
    refine ev_iconst (v := (nI 0)) dX7_in_17 (by decide) ?_
    exact ev_iretE dX7_in_18 rfl rfl (by simp [b2i, *]) (rfl)
  · rw [lgc_lt] at hc3
    refine ev_lload_n dX7_in_6 rfl ?_
    refine ev_lload dX7_in_7 rfl ?_
    refine ev_lcmp dX7_in_9 ?_
    refine ev_if_gt 17 dX7_in_10 (by decide) (fun hc10 => ?_) (fun hc10 => ?_)
    · rw [lgc_gt] at hc10
      refine ev_iconst (v := (nI 0)) dX7_in_17 (by decide) ?_
      exact ev_iretE dX7_in_18 rfl rfl (by simp [b2i, *]) (rfl)
    · rw [lgc_gt] at hc10
      refine ev_iconst (v := (nI 1)) dX7_in_13 (by decide) ?_
      refine ev_goto 18 dX7_in_14 (by decide) ?_
      exact ev_iretE dX7_in_18 rfl rfl (by simp [b2i, *]) (rfl)
set_option maxRecDepth 20000 in
set_option maxHeartbeats 2000000 in
theorem e7_one1 {G : rf_Mem}  : Ev LayM mX7_one 0 (rf_ent 1 [.int (nI 1)]) [] G (some (.int (nI 1))) G := by
  refine ev_iload_n dX7_one_0 rfl ?_
  refine ev_if_eq 8 dX7_one_1 (by decide) (fun hc1 => False.elim (absurd hc1 (by decide))) (fun hc1 => ?_)
  refine ev_iconst (v := (nI 1)) dX7_one_4 (by decide) ?_
  refine ev_goto 9 dX7_one_5 (by decide) ?_
  exact ev_iretE dX7_one_9 rfl rfl (by first | rfl | simp_all) (rfl)
set_option maxRecDepth 20000 in
set_option maxHeartbeats 2000000 in
theorem e7_one0 {G : rf_Mem}  : Ev LayM mX7_one 0 (rf_ent 1 [.int (nI 0)]) [] G (some (.int (nI 0))) G := by
  refine ev_iload_n dX7_one_0 rfl ?_
  refine ev_if_eq 8 dX7_one_1 (by decide) (fun hc1 => ?_) (fun hc1 => False.elim (absurd hc1 (by decide)))
  refine ev_iconst (v := (nI 0)) dX7_one_8 (by decide) ?_
  exact ev_iretE dX7_one_9 rfl rfl (by first | rfl | simp_all) (rfl)
set_option maxRecDepth 20000 in
set_option maxHeartbeats 2000000 in
theorem e7_oneB {G : rf_Mem} {b : Bool} : Ev LayM mX7_one 0 (rf_ent 1 [.int (b2i b)]) [] G (some (.int (b2i b))) G := by
  refine ev_iload_n dX7_one_0 rfl ?_
  refine ev_if_eq 8 dX7_one_1 (by decide) (fun hc1 => ?_) (fun hc1 => ?_)
  · refine ev_iconst (v := (nI 0)) dX7_one_8 (by decide) ?_
    exact ev_iretE dX7_one_9 rfl rfl (by cases b <;> first | rfl | exact absurd hc1 (by decide)) (rfl)
  · refine ev_iconst (v := (nI 1)) dX7_one_4 (by decide) ?_
    refine ev_goto 9 dX7_one_5 (by decide) ?_
    exact ev_iretE dX7_one_9 rfl rfl (by cases b <;> first | rfl | exact absurd hc1 (by decide)) (rfl)
set_option maxRecDepth 20000 in
set_option maxHeartbeats 2000000 in
theorem e7_has {G : rf_Mem} {s k : Int32} : Ev LayM mX7_has 0 (rf_ent 2 [.int s, .int k]) [] G (some (.int (b2i (decide ((s >>> (k &&& 31) &&& nI 1) = nI 1))))) G := by
  refine ev_iload_n dX7_has_0 rfl ?_
  refine ev_iload_n dX7_has_1 rfl ?_
  refine ev_ishr dX7_has_2 ?_
  refine ev_iconst (v := (nI 1)) dX7_has_3 (by decide) ?_
  refine ev_iand dX7_has_4 ?_
  refine ev_iconst (v := (nI 1)) dX7_has_5 (by decide) ?_
  refine ev_icmp_ne 13 dX7_has_6 (by decide) (fun hc6 => ?_) (fun hc6 => ?_)
  · refine ev_iconst (v := (nI 0)) dX7_has_13 (by decide) ?_
    exact ev_iretE dX7_has_14 rfl rfl (by simp [b2i, *]) (rfl)
  · refine ev_iconst (v := (nI 1)) dX7_has_9 (by decide) ?_
    refine ev_goto 14 dX7_has_10 (by decide) ?_
    exact ev_iretE dX7_has_14 rfl rfl (by simp [b2i, *]) (rfl)
set_option maxRecDepth 20000 in
set_option maxHeartbeats 2000000 in
theorem e7_pagesOf {G : rf_Mem} {n : Nat} (hn : G 1 1332 = nI n) (hn2 : n ≤ 40) {l : Int32} : Ev LayM mX7_pagesOf 0 (rf_ent 4 [.ref 0, .int l]) [] G (some (.int (nI (fb_ct (vLeft (G 1) (fun p => G 1 (80 + p)) l) n)))) G := by
  have key0 := ev_for (Lay := LayM) (y := mX7_pagesOf) (pc := 4) (r := (some (.int (nI (fb_ct (vLeft (G 1) (fun p => G 1 (80 + p)) l) n))))) (M' := G) (n) (fun i => [some (.ref 0), some (.int l), some (.int (nI (fb_ct (vLeft (G 1) (fun p => G 1 (80 + p)) l) i))), some (.int (nI i))]) (fun i => G) ?hx0 ?hs0
  case hx0 =>
    refine ev_iload_n dX7_pagesOf_4 rfl ?_
    refine ev_aload_n dX7_pagesOf_5 rfl ?_
    refine ev_getR dX7_pagesOf_6 fX7_7 (by first | assumption | rfl) (by rfl) ?_
    refine ev_sipush (v := (nI 1332)) dX7_pagesOf_9 (by decide) ?_
    refine ev_ialdE _ dX7_pagesOf_12 (by first | with_reducible rfl | with_reducible exact nI_add _ _ | with_reducible exact ix3 _ _ _ | with_reducible exact ix_k _ _ _ | with_reducible exact ix_xk _ _ _ _) (by first | assumption | rfl) ⟨by omega, by decide⟩ ?_
    refine ev_icmp_ge 57 dX7_pagesOf_13 (by decide) (fun hc13 => ?_) (fun hc13 => False.elim (lp_x hn (by omega) hc13))
    refine ev_iload_n dX7_pagesOf_57 rfl ?_
    exact ev_iretE dX7_pagesOf_58 rfl rfl (by first | rfl | simp_all) (rfl)
  case hs0 =>
    intro i hi ih
    refine ev_iload_n dX7_pagesOf_4 rfl ?_
    refine ev_aload_n dX7_pagesOf_5 rfl ?_
    refine ev_getR dX7_pagesOf_6 fX7_7 (by first | assumption | rfl) (by rfl) ?_
    refine ev_sipush (v := (nI 1332)) dX7_pagesOf_9 (by decide) ?_
    refine ev_ialdE _ dX7_pagesOf_12 (by first | with_reducible rfl | with_reducible exact nI_add _ _ | with_reducible exact ix3 _ _ _ | with_reducible exact ix_k _ _ _ | with_reducible exact ix_xk _ _ _ _) (by first | assumption | rfl) ⟨by omega, by decide⟩ ?_
    refine ev_icmp_ge 57 dX7_pagesOf_13 (by decide) (fun hc13 => False.elim (lp_s hn (by omega) hi hc13)) (fun hc13 => ?_)
    refine ev_iload_n dX7_pagesOf_16 rfl ?_
    refine ev_aload_n dX7_pagesOf_17 rfl ?_
    refine ev_getR dX7_pagesOf_18 fX7_7 (by first | assumption | rfl) (by rfl) ?_
    refine ev_iload_n dX7_pagesOf_21 rfl ?_
    refine ev_ialdE _ dX7_pagesOf_22 (by first | with_reducible rfl | with_reducible exact nI_add _ _ | with_reducible exact ix3 _ _ _ | with_reducible exact ix_k _ _ _ | with_reducible exact ix_xk _ _ _ _) (by first | assumption | rfl) ⟨by omega, by decide⟩ ?_
    refine ev_iload_n dX7_pagesOf_23 rfl ?_
    refine ev_icmp_ne 45 dX7_pagesOf_24 (by decide) (fun hc24 => ?_) (fun hc24 => ?_)
    · refine ev_iconst (v := (nI 0)) dX7_pagesOf_45 (by decide) ?_
      refine ev_cS1 dX7_pagesOf_46 ceX7_one kX7_141 (rm_le rfl rfl) (Nat.le_of_ble_eq_true rfl) (Nat.le_of_ble_eq_true rfl) (e7_one0) ?_
      refine ev_iadd dX7_pagesOf_49 ?_
      refine ev_istore_k 2 dX7_pagesOf_50 rfl (by decide) rfl ?_
      refine ev_iinc (v := (nI 1)) dX7_pagesOf_51 rfl (by decide) (by decide) rfl ?_
      refine ev_goto 4 dX7_pagesOf_54 (by decide) ?_
      exact ev_st ih (by simp [nI_add, fb_ct_succ, vLeft, *]) rfl (rfl)
    · refine ev_aload_n dX7_pagesOf_27 rfl ?_
      refine ev_getR dX7_pagesOf_28 fX7_7 (by first | assumption | rfl) (by rfl) ?_
      refine ev_bipush (v := (nI 80)) dX7_pagesOf_31 (by decide) ?_
      refine ev_iload_n dX7_pagesOf_33 rfl ?_
      refine ev_iadd dX7_pagesOf_34 ?_
      refine ev_ialdE _ dX7_pagesOf_35 (by first | with_reducible rfl | with_reducible exact nI_add _ _ | with_reducible exact ix3 _ _ _ | with_reducible exact ix_k _ _ _ | with_reducible exact ix_xk _ _ _ _) (by first | assumption | rfl) ⟨by omega, by decide⟩ ?_
      refine ev_bipush (v := (nI 9)) dX7_pagesOf_36 (by decide) ?_
      refine ev_icmp_ge 45 dX7_pagesOf_38 (by decide) (fun hc38 => ?_) (fun hc38 => ?_)
      · refine ev_iconst (v := (nI 0)) dX7_pagesOf_45 (by decide) ?_
        refine ev_cS1 dX7_pagesOf_46 ceX7_one kX7_141 (rm_le rfl rfl) (Nat.le_of_ble_eq_true rfl) (Nat.le_of_ble_eq_true rfl) (e7_one0) ?_
        refine ev_iadd dX7_pagesOf_49 ?_
        refine ev_istore_k 2 dX7_pagesOf_50 rfl (by decide) rfl ?_
        refine ev_iinc (v := (nI 1)) dX7_pagesOf_51 rfl (by decide) (by decide) rfl ?_
        refine ev_goto 4 dX7_pagesOf_54 (by decide) ?_
        exact ev_st ih (by simp [nI_add, fb_ct_succ, vLeft, *]) rfl (rfl)
      · refine ev_iconst (v := (nI 1)) dX7_pagesOf_41 (by decide) ?_
        refine ev_goto 46 dX7_pagesOf_42 (by decide) ?_
        refine ev_cS1 dX7_pagesOf_46 ceX7_one kX7_141 (rm_le rfl rfl) (Nat.le_of_ble_eq_true rfl) (Nat.le_of_ble_eq_true rfl) (e7_one1) ?_
        refine ev_iadd dX7_pagesOf_49 ?_
        refine ev_istore_k 2 dX7_pagesOf_50 rfl (by decide) rfl ?_
        refine ev_iinc (v := (nI 1)) dX7_pagesOf_51 rfl (by decide) (by decide) rfl ?_
        refine ev_goto 4 dX7_pagesOf_54 (by decide) ?_
        exact ev_st ih (by simp [nI_add, fb_ct_succ, vLeft, *]) rfl (rfl)
  refine ev_iconst (v := (nI 0)) dX7_pagesOf_0 (by decide) ?_
  refine ev_istore_k 2 dX7_pagesOf_1 rfl (by decide) rfl ?_
  refine ev_iconst (v := (nI 0)) dX7_pagesOf_2 (by decide) ?_
  refine ev_istore_k 3 dX7_pagesOf_3 rfl (by decide) rfl ?_
  exact ev_st (key0 0 (Nat.zero_le _)) (rfl) rfl (rfl)
set_option maxRecDepth 20000 in
set_option maxHeartbeats 2000000 in
theorem e7_knowers {G : rf_Mem} {nr : Nat} (hr : G 7 1 = nI nr) (hnr : nr ≤ 8) {l : Nat} (hl : l < 16) : Ev LayM mX7_knowers 0 (rf_ent 4 [.ref 0, .int (nI l)]) [] G (some (.int (kset (fun r => !decide (G 1 (160 + 16 * r + l) < 0)) nr))) G := by
  have key0 := ev_for (Lay := LayM) (y := mX7_knowers) (pc := 4) (r := (some (.int (kset (fun r => !decide (G 1 (160 + 16 * r + l) < 0)) nr)))) (M' := G) (nr) (fun i => [some (.ref 0), some (.int (nI l)), some (.int (kset (fun r => !decide (G 1 (160 + 16 * r + l) < 0)) i)), some (.int (nI i))]) (fun i => G) ?hx0 ?hs0
  case hx0 =>
    refine ev_iload_n dX7_knowers_4 rfl ?_
    refine ev_aload_n dX7_knowers_5 rfl ?_
    refine ev_getR dX7_knowers_6 fX7_29 (by first | assumption | rfl) (by rfl) ?_
    refine ev_iconst (v := (nI 1)) dX7_knowers_9 (by decide) ?_
    refine ev_ialdE _ dX7_knowers_10 (by first | with_reducible rfl | with_reducible exact nI_add _ _ | with_reducible exact ix3 _ _ _ | with_reducible exact ix_k _ _ _ | with_reducible exact ix_xk _ _ _ _) (by first | assumption | rfl) ⟨by omega, by decide⟩ ?_
    refine ev_icmp_ge 51 dX7_knowers_11 (by decide) (fun hc11 => ?_) (fun hc11 => False.elim (lp_x hr (by omega) hc11))
    refine ev_iload_n dX7_knowers_51 rfl ?_
    exact ev_iretE dX7_knowers_52 rfl rfl (by first | rfl | simp_all) (rfl)
  case hs0 =>
    intro i hi ih
    refine ev_iload_n dX7_knowers_4 rfl ?_
    refine ev_aload_n dX7_knowers_5 rfl ?_
    refine ev_getR dX7_knowers_6 fX7_29 (by first | assumption | rfl) (by rfl) ?_
    refine ev_iconst (v := (nI 1)) dX7_knowers_9 (by decide) ?_
    refine ev_ialdE _ dX7_knowers_10 (by first | with_reducible rfl | with_reducible exact nI_add _ _ | with_reducible exact ix3 _ _ _ | with_reducible exact ix_k _ _ _ | with_reducible exact ix_xk _ _ _ _) (by first | assumption | rfl) ⟨by omega, by decide⟩ ?_
    refine ev_icmp_ge 51 dX7_knowers_11 (by decide) (fun hc11 => False.elim (lp_s hr (by omega) hi hc11)) (fun hc11 => ?_)
    refine ev_iload_n dX7_knowers_14 rfl ?_
    refine ev_aload_n dX7_knowers_15 rfl ?_
    refine ev_getR dX7_knowers_16 fX7_7 (by first | assumption | rfl) (by rfl) ?_
    refine ev_sipush (v := (nI 160)) dX7_knowers_19 (by decide) ?_
    refine ev_bipush (v := (nI 16)) dX7_knowers_22 (by decide) ?_
    refine ev_iload_n dX7_knowers_24 rfl ?_
    refine ev_imul dX7_knowers_25 ?_
    refine ev_iadd dX7_knowers_26 ?_
    refine ev_iload_n dX7_knowers_27 rfl ?_
    refine ev_iadd dX7_knowers_28 ?_
    refine ev_ialdE _ dX7_knowers_29 (by first | with_reducible rfl | with_reducible exact nI_add _ _ | with_reducible exact ix3 _ _ _ | with_reducible exact ix_k _ _ _ | with_reducible exact ix_xk _ _ _ _) (by first | assumption | rfl) ⟨by omega, by decide⟩ ?_
    refine ev_if_lt 37 dX7_knowers_30 (by decide) (fun hc30 => ?_) (fun hc30 => ?_)
    · refine ev_iconst (v := (nI 0)) dX7_knowers_37 (by decide) ?_
      refine ev_cS1 dX7_knowers_38 ceX7_one kX7_141 (rm_le rfl rfl) (Nat.le_of_ble_eq_true rfl) (Nat.le_of_ble_eq_true rfl) (e7_one0) ?_
      refine ev_iload_n dX7_knowers_41 rfl ?_
      refine ev_ishl dX7_knowers_42 ?_
      refine ev_ior dX7_knowers_43 ?_
      refine ev_istore_k 2 dX7_knowers_44 rfl (by decide) rfl ?_
      refine ev_iinc (v := (nI 1)) dX7_knowers_45 rfl (by decide) (by decide) rfl ?_
      refine ev_goto 4 dX7_knowers_48 (by decide) ?_
      exact ev_st ih (by simp [nI_add, kset, shl0, or0, *]) rfl (rfl)
    · refine ev_iconst (v := (nI 1)) dX7_knowers_33 (by decide) ?_
      refine ev_goto 38 dX7_knowers_34 (by decide) ?_
      refine ev_cS1 dX7_knowers_38 ceX7_one kX7_141 (rm_le rfl rfl) (Nat.le_of_ble_eq_true rfl) (Nat.le_of_ble_eq_true rfl) (e7_one1) ?_
      refine ev_iload_n dX7_knowers_41 rfl ?_
      refine ev_ishl dX7_knowers_42 ?_
      refine ev_ior dX7_knowers_43 ?_
      refine ev_istore_k 2 dX7_knowers_44 rfl (by decide) rfl ?_
      refine ev_iinc (v := (nI 1)) dX7_knowers_45 rfl (by decide) (by decide) rfl ?_
      refine ev_goto 4 dX7_knowers_48 (by decide) ?_
      exact ev_st ih (by simp [nI_add, kset, shl0, or0, *]) rfl (rfl)
  refine ev_iconst (v := (nI 0)) dX7_knowers_0 (by decide) ?_
  refine ev_istore_k 2 dX7_knowers_1 rfl (by decide) rfl ?_
  refine ev_iconst (v := (nI 0)) dX7_knowers_2 (by decide) ?_
  refine ev_istore_k 3 dX7_knowers_3 rfl (by decide) rfl ?_
  exact ev_st (key0 0 (Nat.zero_le _)) (rfl) rfl (rfl)
set_option maxRecDepth 20000 in
set_option maxHeartbeats 2000000 in
theorem e7_knownBy {G : rf_Mem} {nl : Nat} (hl : G 7 0 = nI nl) (hnl : nl ≤ 16) {r : Nat} (hr : r < 8) : Ev LayM mX7_knownBy 0 (rf_ent 4 [.ref 0, .int (nI r)]) [] G (some (.int (nI (fb_ct (fun l => !decide (G 1 (160 + 16 * r + l) < 0)) nl)))) G := by
  have key0 := ev_for (Lay := LayM) (y := mX7_knownBy) (pc := 4) (r := (some (.int (nI (fb_ct (fun l => !decide (G 1 (160 + 16 * r + l) < 0)) nl))))) (M' := G) (nl) (fun i => [some (.ref 0), some (.int (nI r)), some (.int (nI (fb_ct (fun l => !decide (G 1 (160 + 16 * r + l) < 0)) i))), some (.int (nI i))]) (fun i => G) ?hx0 ?hs0
  case hx0 =>
    refine ev_iload_n dX7_knownBy_4 rfl ?_
    refine ev_aload_n dX7_knownBy_5 rfl ?_
    refine ev_getR dX7_knownBy_6 fX7_29 (by first | assumption | rfl) (by rfl) ?_
    refine ev_iconst (v := (nI 0)) dX7_knownBy_9 (by decide) ?_
    refine ev_ialdE _ dX7_knownBy_10 (by first | with_reducible rfl | with_reducible exact nI_add _ _ | with_reducible exact ix3 _ _ _ | with_reducible exact ix_k _ _ _ | with_reducible exact ix_xk _ _ _ _) (by first | assumption | rfl) ⟨by omega, by decide⟩ ?_
    refine ev_icmp_ge 49 dX7_knownBy_11 (by decide) (fun hc11 => ?_) (fun hc11 => False.elim (lp_x hl (by omega) hc11))
    refine ev_iload_n dX7_knownBy_49 rfl ?_
    exact ev_iretE dX7_knownBy_50 rfl rfl (by first | rfl | simp_all) (rfl)
  case hs0 =>
    intro i hi ih
    refine ev_iload_n dX7_knownBy_4 rfl ?_
    refine ev_aload_n dX7_knownBy_5 rfl ?_
    refine ev_getR dX7_knownBy_6 fX7_29 (by first | assumption | rfl) (by rfl) ?_
    refine ev_iconst (v := (nI 0)) dX7_knownBy_9 (by decide) ?_
    refine ev_ialdE _ dX7_knownBy_10 (by first | with_reducible rfl | with_reducible exact nI_add _ _ | with_reducible exact ix3 _ _ _ | with_reducible exact ix_k _ _ _ | with_reducible exact ix_xk _ _ _ _) (by first | assumption | rfl) ⟨by omega, by decide⟩ ?_
    refine ev_icmp_ge 49 dX7_knownBy_11 (by decide) (fun hc11 => False.elim (lp_s hl (by omega) hi hc11)) (fun hc11 => ?_)
    refine ev_iload_n dX7_knownBy_14 rfl ?_
    refine ev_aload_n dX7_knownBy_15 rfl ?_
    refine ev_getR dX7_knownBy_16 fX7_7 (by first | assumption | rfl) (by rfl) ?_
    refine ev_sipush (v := (nI 160)) dX7_knownBy_19 (by decide) ?_
    refine ev_bipush (v := (nI 16)) dX7_knownBy_22 (by decide) ?_
    refine ev_iload_n dX7_knownBy_24 rfl ?_
    refine ev_imul dX7_knownBy_25 ?_
    refine ev_iadd dX7_knownBy_26 ?_
    refine ev_iload_n dX7_knownBy_27 rfl ?_
    refine ev_iadd dX7_knownBy_28 ?_
    refine ev_ialdE _ dX7_knownBy_29 (by first | with_reducible rfl | with_reducible exact nI_add _ _ | with_reducible exact ix3 _ _ _ | with_reducible exact ix_k _ _ _ | with_reducible exact ix_xk _ _ _ _) (by first | assumption | rfl) ⟨by omega, by decide⟩ ?_
    refine ev_if_lt 37 dX7_knownBy_30 (by decide) (fun hc30 => ?_) (fun hc30 => ?_)
    · refine ev_iconst (v := (nI 0)) dX7_knownBy_37 (by decide) ?_
      refine ev_cS1 dX7_knownBy_38 ceX7_one kX7_141 (rm_le rfl rfl) (Nat.le_of_ble_eq_true rfl) (Nat.le_of_ble_eq_true rfl) (e7_one0) ?_
      refine ev_iadd dX7_knownBy_41 ?_
      refine ev_istore_k 2 dX7_knownBy_42 rfl (by decide) rfl ?_
      refine ev_iinc (v := (nI 1)) dX7_knownBy_43 rfl (by decide) (by decide) rfl ?_
      refine ev_goto 4 dX7_knownBy_46 (by decide) ?_
      exact ev_st ih (by simp [nI_add, fb_ct_succ, *]) rfl (rfl)
    · refine ev_iconst (v := (nI 1)) dX7_knownBy_33 (by decide) ?_
      refine ev_goto 38 dX7_knownBy_34 (by decide) ?_
      refine ev_cS1 dX7_knownBy_38 ceX7_one kX7_141 (rm_le rfl rfl) (Nat.le_of_ble_eq_true rfl) (Nat.le_of_ble_eq_true rfl) (e7_one1) ?_
      refine ev_iadd dX7_knownBy_41 ?_
      refine ev_istore_k 2 dX7_knownBy_42 rfl (by decide) rfl ?_
      refine ev_iinc (v := (nI 1)) dX7_knownBy_43 rfl (by decide) (by decide) rfl ?_
      refine ev_goto 4 dX7_knownBy_46 (by decide) ?_
      exact ev_st ih (by simp [nI_add, fb_ct_succ, *]) rfl (rfl)
  refine ev_iconst (v := (nI 0)) dX7_knownBy_0 (by decide) ?_
  refine ev_istore_k 2 dX7_knownBy_1 rfl (by decide) rfl ?_
  refine ev_iconst (v := (nI 0)) dX7_knownBy_2 (by decide) ?_
  refine ev_istore_k 3 dX7_knownBy_3 rfl (by decide) rfl ?_
  exact ev_st (key0 0 (Nat.zero_le _)) (rfl) rfl (rfl)
set_option maxRecDepth 20000 in
set_option maxHeartbeats 2000000 in
theorem e7_readMany {G : rf_Mem} {k : Nat} (hk : G 1 1333 = nI k) (hk3 : k ≤ 300) {x : Int32} : Ev LayM mX7_readMany 0 (rf_ent 4 [.ref 0, .int x]) [] G (some (.int (nI (fb_ct (fun i => decide (G 1 (732 + i) = x)) k)))) G := by
  have key0 := ev_for (Lay := LayM) (y := mX7_readMany) (pc := 4) (r := (some (.int (nI (fb_ct (fun i => decide (G 1 (732 + i) = x)) k))))) (M' := G) (k) (fun i => [some (.ref 0), some (.int x), some (.int (nI (fb_ct (fun i => decide (G 1 (732 + i) = x)) i))), some (.int (nI i))]) (fun i => G) ?hx0 ?hs0
  case hx0 =>
    refine ev_iload_n dX7_readMany_4 rfl ?_
    refine ev_aload_n dX7_readMany_5 rfl ?_
    refine ev_getR dX7_readMany_6 fX7_7 (by first | assumption | rfl) (by rfl) ?_
    refine ev_sipush (v := (nI 1333)) dX7_readMany_9 (by decide) ?_
    refine ev_ialdE _ dX7_readMany_12 (by first | with_reducible rfl | with_reducible exact nI_add _ _ | with_reducible exact ix3 _ _ _ | with_reducible exact ix_k _ _ _ | with_reducible exact ix_xk _ _ _ _) (by first | assumption | rfl) ⟨by omega, by decide⟩ ?_
    refine ev_icmp_ge 47 dX7_readMany_13 (by decide) (fun hc13 => ?_) (fun hc13 => False.elim (lp_x hk (by omega) hc13))
    refine ev_iload_n dX7_readMany_47 rfl ?_
    exact ev_iretE dX7_readMany_48 rfl rfl (by first | rfl | simp_all) (rfl)
  case hs0 =>
    intro i hi ih
    refine ev_iload_n dX7_readMany_4 rfl ?_
    refine ev_aload_n dX7_readMany_5 rfl ?_
    refine ev_getR dX7_readMany_6 fX7_7 (by first | assumption | rfl) (by rfl) ?_
    refine ev_sipush (v := (nI 1333)) dX7_readMany_9 (by decide) ?_
    refine ev_ialdE _ dX7_readMany_12 (by first | with_reducible rfl | with_reducible exact nI_add _ _ | with_reducible exact ix3 _ _ _ | with_reducible exact ix_k _ _ _ | with_reducible exact ix_xk _ _ _ _) (by first | assumption | rfl) ⟨by omega, by decide⟩ ?_
    refine ev_icmp_ge 47 dX7_readMany_13 (by decide) (fun hc13 => False.elim (lp_s hk (by omega) hi hc13)) (fun hc13 => ?_)
    refine ev_iload_n dX7_readMany_16 rfl ?_
    refine ev_aload_n dX7_readMany_17 rfl ?_
    refine ev_getR dX7_readMany_18 fX7_7 (by first | assumption | rfl) (by rfl) ?_
    refine ev_sipush (v := (nI 732)) dX7_readMany_21 (by decide) ?_
    refine ev_iload_n dX7_readMany_24 rfl ?_
    refine ev_iadd dX7_readMany_25 ?_
    refine ev_ialdE _ dX7_readMany_26 (by first | with_reducible rfl | with_reducible exact nI_add _ _ | with_reducible exact ix3 _ _ _ | with_reducible exact ix_k _ _ _ | with_reducible exact ix_xk _ _ _ _) (by first | assumption | rfl) ⟨by omega, by decide⟩ ?_
    refine ev_iload_n dX7_readMany_27 rfl ?_
    refine ev_icmp_ne 35 dX7_readMany_28 (by decide) (fun hc28 => ?_) (fun hc28 => ?_)
    · refine ev_iconst (v := (nI 0)) dX7_readMany_35 (by decide) ?_
      refine ev_cS1 dX7_readMany_36 ceX7_one kX7_141 (rm_le rfl rfl) (Nat.le_of_ble_eq_true rfl) (Nat.le_of_ble_eq_true rfl) (e7_one0) ?_
      refine ev_iadd dX7_readMany_39 ?_
      refine ev_istore_k 2 dX7_readMany_40 rfl (by decide) rfl ?_
      refine ev_iinc (v := (nI 1)) dX7_readMany_41 rfl (by decide) (by decide) rfl ?_
      refine ev_goto 4 dX7_readMany_44 (by decide) ?_
      exact ev_st ih (by simp [nI_add, fb_ct_succ, *]) rfl (rfl)
    · refine ev_iconst (v := (nI 1)) dX7_readMany_31 (by decide) ?_
      refine ev_goto 36 dX7_readMany_32 (by decide) ?_
      refine ev_cS1 dX7_readMany_36 ceX7_one kX7_141 (rm_le rfl rfl) (Nat.le_of_ble_eq_true rfl) (Nat.le_of_ble_eq_true rfl) (e7_one1) ?_
      refine ev_iadd dX7_readMany_39 ?_
      refine ev_istore_k 2 dX7_readMany_40 rfl (by decide) rfl ?_
      refine ev_iinc (v := (nI 1)) dX7_readMany_41 rfl (by decide) (by decide) rfl ?_
      refine ev_goto 4 dX7_readMany_44 (by decide) ?_
      exact ev_st ih (by simp [nI_add, fb_ct_succ, *]) rfl (rfl)
  refine ev_iconst (v := (nI 0)) dX7_readMany_0 (by decide) ?_
  refine ev_istore_k 2 dX7_readMany_1 rfl (by decide) rfl ?_
  refine ev_iconst (v := (nI 0)) dX7_readMany_2 (by decide) ?_
  refine ev_istore_k 3 dX7_readMany_3 rfl (by decide) rfl ?_
  exact ev_st (key0 0 (Nat.zero_le _)) (rfl) rfl (rfl)
set_option maxRecDepth 20000 in
set_option maxHeartbeats 2000000 in
theorem e7_votesFor {G : rf_Mem} {n : Nat} (hn : G 1 1332 = nI n) (hn2 : n ≤ 40) {nr : Nat} (hr : G 7 1 = nI nr) (hnr : nr ≤ 8) {l : Nat} (hl : l < 16) {v : Int32} : Ev LayM mX7_votesFor 0 (rf_ent 5 [.ref 0, .int (nI l), .int v]) [] G (some (.int (nI (fb_ct (vWith (G 1) (fun p => G 1 (40 + p)) (fun p => G 1 (80 + p)) (nI l) v) n + fb_ct (fun r => decide (G 1 (160 + 16 * r + l) = v)) nr)))) G := by
  have key1 := ev_for (Lay := LayM) (y := mX7_votesFor) (pc := 78) (r := (some (.int (nI (fb_ct (vWith (G 1) (fun p => G 1 (40 + p)) (fun p => G 1 (80 + p)) (nI l) v) n + fb_ct (fun r => decide (G 1 (160 + 16 * r + l) = v)) nr))))) (M' := G) (nr) (fun i => [some (.ref 0), some (.int (nI l)), some (.int v), some (.int (nI (fb_ct (vWith (G 1) (fun p => G 1 (40 + p)) (fun p => G 1 (80 + p)) (nI l) v) n + fb_ct (fun r => decide (G 1 (160 + 16 * r + l) = v)) i))), some (.int (nI i))]) (fun i => G) ?hx1 ?hs1
  case hx1 =>
    refine ev_iload dX7_votesFor_78 rfl ?_
    refine ev_aload_n dX7_votesFor_80 rfl ?_
    refine ev_getR dX7_votesFor_81 fX7_29 (by first | assumption | rfl) (by rfl) ?_
    refine ev_iconst (v := (nI 1)) dX7_votesFor_84 (by decide) ?_
    refine ev_ialdE _ dX7_votesFor_85 (by first | with_reducible rfl | with_reducible exact nI_add _ _ | with_reducible exact ix3 _ _ _ | with_reducible exact ix_k _ _ _ | with_reducible exact ix_xk _ _ _ _) (by first | assumption | rfl) ⟨by omega, by decide⟩ ?_
    refine ev_icmp_ge 126 dX7_votesFor_86 (by decide) (fun hc86 => ?_) (fun hc86 => False.elim (lp_x hr (by omega) hc86))
    refine ev_iload_n dX7_votesFor_126 rfl ?_
    exact ev_iretE dX7_votesFor_127 rfl rfl (by first | rfl | simp_all) (rfl)
  case hs1 =>
    intro i hi ih
    refine ev_iload dX7_votesFor_78 rfl ?_
    refine ev_aload_n dX7_votesFor_80 rfl ?_
    refine ev_getR dX7_votesFor_81 fX7_29 (by first | assumption | rfl) (by rfl) ?_
    refine ev_iconst (v := (nI 1)) dX7_votesFor_84 (by decide) ?_
    refine ev_ialdE _ dX7_votesFor_85 (by first | with_reducible rfl | with_reducible exact nI_add _ _ | with_reducible exact ix3 _ _ _ | with_reducible exact ix_k _ _ _ | with_reducible exact ix_xk _ _ _ _) (by first | assumption | rfl) ⟨by omega, by decide⟩ ?_
    refine ev_icmp_ge 126 dX7_votesFor_86 (by decide) (fun hc86 => False.elim (lp_s hr (by omega) hi hc86)) (fun hc86 => ?_)
    refine ev_iload_n dX7_votesFor_89 rfl ?_
    refine ev_aload_n dX7_votesFor_90 rfl ?_
    refine ev_getR dX7_votesFor_91 fX7_7 (by first | assumption | rfl) (by rfl) ?_
    refine ev_sipush (v := (nI 160)) dX7_votesFor_94 (by decide) ?_
    refine ev_bipush (v := (nI 16)) dX7_votesFor_97 (by decide) ?_
    refine ev_iload dX7_votesFor_99 rfl ?_
    refine ev_imul dX7_votesFor_101 ?_
    refine ev_iadd dX7_votesFor_102 ?_
    refine ev_iload_n dX7_votesFor_103 rfl ?_
    refine ev_iadd dX7_votesFor_104 ?_
    refine ev_ialdE _ dX7_votesFor_105 (by first | with_reducible rfl | with_reducible exact nI_add _ _ | with_reducible exact ix3 _ _ _ | with_reducible exact ix_k _ _ _ | with_reducible exact ix_xk _ _ _ _) (by first | assumption | rfl) ⟨by omega, by decide⟩ ?_
    refine ev_iload_n dX7_votesFor_106 rfl ?_
    refine ev_icmp_ne 114 dX7_votesFor_107 (by decide) (fun hc107 => ?_) (fun hc107 => ?_)
    · refine ev_iconst (v := (nI 0)) dX7_votesFor_114 (by decide) ?_
      refine ev_cS1 dX7_votesFor_115 ceX7_one kX7_141 (rm_le rfl rfl) (Nat.le_of_ble_eq_true rfl) (Nat.le_of_ble_eq_true rfl) (e7_one0) ?_
      refine ev_iadd dX7_votesFor_118 ?_
      refine ev_istore_k 3 dX7_votesFor_119 rfl (by decide) rfl ?_
      refine ev_iinc (v := (nI 1)) dX7_votesFor_120 rfl (by decide) (by decide) rfl ?_
      refine ev_goto 78 dX7_votesFor_123 (by decide) ?_
      exact ev_st ih (by first | (simp [nI_add, fb_ct_succ, *]; done) | (simp [nI_add, fb_ct_succ, *]; rw [Nat.add_assoc])) rfl (rfl)
    · refine ev_iconst (v := (nI 1)) dX7_votesFor_110 (by decide) ?_
      refine ev_goto 115 dX7_votesFor_111 (by decide) ?_
      refine ev_cS1 dX7_votesFor_115 ceX7_one kX7_141 (rm_le rfl rfl) (Nat.le_of_ble_eq_true rfl) (Nat.le_of_ble_eq_true rfl) (e7_one1) ?_
      refine ev_iadd dX7_votesFor_118 ?_
      refine ev_istore_k 3 dX7_votesFor_119 rfl (by decide) rfl ?_
      refine ev_iinc (v := (nI 1)) dX7_votesFor_120 rfl (by decide) (by decide) rfl ?_
      refine ev_goto 78 dX7_votesFor_123 (by decide) ?_
      exact ev_st ih (by first | (simp [nI_add, fb_ct_succ, *]; done) | (simp [nI_add, fb_ct_succ, *]; rw [Nat.add_assoc])) rfl (rfl)
  have key0 := ev_for (Lay := LayM) (y := mX7_votesFor) (pc := 5) (r := (some (.int (nI (fb_ct (vWith (G 1) (fun p => G 1 (40 + p)) (fun p => G 1 (80 + p)) (nI l) v) n + fb_ct (fun r => decide (G 1 (160 + 16 * r + l) = v)) nr))))) (M' := G) (n) (fun i => [some (.ref 0), some (.int (nI l)), some (.int v), some (.int (nI (fb_ct (vWith (G 1) (fun p => G 1 (40 + p)) (fun p => G 1 (80 + p)) (nI l) v) i))), some (.int (nI i))]) (fun i => G) ?hx0 ?hs0
  case hx0 =>
    refine ev_iload dX7_votesFor_5 rfl ?_
    refine ev_aload_n dX7_votesFor_7 rfl ?_
    refine ev_getR dX7_votesFor_8 fX7_7 (by first | assumption | rfl) (by rfl) ?_
    refine ev_sipush (v := (nI 1332)) dX7_votesFor_11 (by decide) ?_
    refine ev_ialdE _ dX7_votesFor_14 (by first | with_reducible rfl | with_reducible exact nI_add _ _ | with_reducible exact ix3 _ _ _ | with_reducible exact ix_k _ _ _ | with_reducible exact ix_xk _ _ _ _) (by first | assumption | rfl) ⟨by omega, by decide⟩ ?_
    refine ev_icmp_ge 75 dX7_votesFor_15 (by decide) (fun hc15 => ?_) (fun hc15 => False.elim (lp_x hn (by omega) hc15))
    refine ev_iconst (v := (nI 0)) dX7_votesFor_75 (by decide) ?_
    refine ev_istore dX7_votesFor_76 (by decide) rfl ?_
    exact ev_st (key1 0 (Nat.zero_le _)) (rfl) rfl (rfl)
  case hs0 =>
    intro i hi ih
    refine ev_iload dX7_votesFor_5 rfl ?_
    refine ev_aload_n dX7_votesFor_7 rfl ?_
    refine ev_getR dX7_votesFor_8 fX7_7 (by first | assumption | rfl) (by rfl) ?_
    refine ev_sipush (v := (nI 1332)) dX7_votesFor_11 (by decide) ?_
    refine ev_ialdE _ dX7_votesFor_14 (by first | with_reducible rfl | with_reducible exact nI_add _ _ | with_reducible exact ix3 _ _ _ | with_reducible exact ix_k _ _ _ | with_reducible exact ix_xk _ _ _ _) (by first | assumption | rfl) ⟨by omega, by decide⟩ ?_
    refine ev_icmp_ge 75 dX7_votesFor_15 (by decide) (fun hc15 => False.elim (lp_s hn (by omega) hi hc15)) (fun hc15 => ?_)
    refine ev_iload_n dX7_votesFor_18 rfl ?_
    refine ev_aload_n dX7_votesFor_19 rfl ?_
    refine ev_getR dX7_votesFor_20 fX7_7 (by first | assumption | rfl) (by rfl) ?_
    refine ev_iload dX7_votesFor_23 rfl ?_
    refine ev_ialdE _ dX7_votesFor_25 (by first | with_reducible rfl | with_reducible exact nI_add _ _ | with_reducible exact ix3 _ _ _ | with_reducible exact ix_k _ _ _ | with_reducible exact ix_xk _ _ _ _) (by first | assumption | rfl) ⟨by omega, by decide⟩ ?_
    refine ev_iload_n dX7_votesFor_26 rfl ?_
    refine ev_icmp_ne 63 dX7_votesFor_27 (by decide) (fun hc27 => ?_) (fun hc27 => ?_)
    · refine ev_iconst (v := (nI 0)) dX7_votesFor_63 (by decide) ?_
      refine ev_cS1 dX7_votesFor_64 ceX7_one kX7_141 (rm_le rfl rfl) (Nat.le_of_ble_eq_true rfl) (Nat.le_of_ble_eq_true rfl) (e7_one0) ?_
      refine ev_iadd dX7_votesFor_67 ?_
      refine ev_istore_k 3 dX7_votesFor_68 rfl (by decide) rfl ?_
      refine ev_iinc (v := (nI 1)) dX7_votesFor_69 rfl (by decide) (by decide) rfl ?_
      refine ev_goto 5 dX7_votesFor_72 (by decide) ?_
      exact ev_st ih (by simp [nI_add, fb_ct_succ, vWith, vLeft, *]) rfl (rfl)
    · refine ev_aload_n dX7_votesFor_30 rfl ?_
      refine ev_getR dX7_votesFor_31 fX7_7 (by first | assumption | rfl) (by rfl) ?_
      refine ev_bipush (v := (nI 80)) dX7_votesFor_34 (by decide) ?_
      refine ev_iload dX7_votesFor_36 rfl ?_
      refine ev_iadd dX7_votesFor_38 ?_
      refine ev_ialdE _ dX7_votesFor_39 (by first | with_reducible rfl | with_reducible exact nI_add _ _ | with_reducible exact ix3 _ _ _ | with_reducible exact ix_k _ _ _ | with_reducible exact ix_xk _ _ _ _) (by first | assumption | rfl) ⟨by omega, by decide⟩ ?_
      refine ev_bipush (v := (nI 9)) dX7_votesFor_40 (by decide) ?_
      refine ev_icmp_ge 63 dX7_votesFor_42 (by decide) (fun hc42 => ?_) (fun hc42 => ?_)
      · refine ev_iconst (v := (nI 0)) dX7_votesFor_63 (by decide) ?_
        refine ev_cS1 dX7_votesFor_64 ceX7_one kX7_141 (rm_le rfl rfl) (Nat.le_of_ble_eq_true rfl) (Nat.le_of_ble_eq_true rfl) (e7_one0) ?_
        refine ev_iadd dX7_votesFor_67 ?_
        refine ev_istore_k 3 dX7_votesFor_68 rfl (by decide) rfl ?_
        refine ev_iinc (v := (nI 1)) dX7_votesFor_69 rfl (by decide) (by decide) rfl ?_
        refine ev_goto 5 dX7_votesFor_72 (by decide) ?_
        exact ev_st ih (by simp [nI_add, fb_ct_succ, vWith, vLeft, *]) rfl (rfl)
      · refine ev_aload_n dX7_votesFor_45 rfl ?_
        refine ev_getR dX7_votesFor_46 fX7_7 (by first | assumption | rfl) (by rfl) ?_
        refine ev_bipush (v := (nI 40)) dX7_votesFor_49 (by decide) ?_
        refine ev_iload dX7_votesFor_51 rfl ?_
        refine ev_iadd dX7_votesFor_53 ?_
        refine ev_ialdE _ dX7_votesFor_54 (by first | with_reducible rfl | with_reducible exact nI_add _ _ | with_reducible exact ix3 _ _ _ | with_reducible exact ix_k _ _ _ | with_reducible exact ix_xk _ _ _ _) (by first | assumption | rfl) ⟨by omega, by decide⟩ ?_
        refine ev_iload_n dX7_votesFor_55 rfl ?_
        refine ev_icmp_ne 63 dX7_votesFor_56 (by decide) (fun hc56 => ?_) (fun hc56 => ?_)
        · refine ev_iconst (v := (nI 0)) dX7_votesFor_63 (by decide) ?_
          refine ev_cS1 dX7_votesFor_64 ceX7_one kX7_141 (rm_le rfl rfl) (Nat.le_of_ble_eq_true rfl) (Nat.le_of_ble_eq_true rfl) (e7_one0) ?_
          refine ev_iadd dX7_votesFor_67 ?_
          refine ev_istore_k 3 dX7_votesFor_68 rfl (by decide) rfl ?_
          refine ev_iinc (v := (nI 1)) dX7_votesFor_69 rfl (by decide) (by decide) rfl ?_
          refine ev_goto 5 dX7_votesFor_72 (by decide) ?_
          exact ev_st ih (by simp [nI_add, fb_ct_succ, vWith, vLeft, *]) rfl (rfl)
        · refine ev_iconst (v := (nI 1)) dX7_votesFor_59 (by decide) ?_
          refine ev_goto 64 dX7_votesFor_60 (by decide) ?_
          refine ev_cS1 dX7_votesFor_64 ceX7_one kX7_141 (rm_le rfl rfl) (Nat.le_of_ble_eq_true rfl) (Nat.le_of_ble_eq_true rfl) (e7_one1) ?_
          refine ev_iadd dX7_votesFor_67 ?_
          refine ev_istore_k 3 dX7_votesFor_68 rfl (by decide) rfl ?_
          refine ev_iinc (v := (nI 1)) dX7_votesFor_69 rfl (by decide) (by decide) rfl ?_
          refine ev_goto 5 dX7_votesFor_72 (by decide) ?_
          exact ev_st ih (by simp [nI_add, fb_ct_succ, vWith, vLeft, *]) rfl (rfl)
  refine ev_iconst (v := (nI 0)) dX7_votesFor_0 (by decide) ?_
  refine ev_istore_k 3 dX7_votesFor_1 rfl (by decide) rfl ?_
  refine ev_iconst (v := (nI 0)) dX7_votesFor_2 (by decide) ?_
  refine ev_istore dX7_votesFor_3 (by decide) rfl ?_
  exact ev_st (key0 0 (Nat.zero_le _)) (rfl) rfl (rfl)
set_option maxRecDepth 20000 in
set_option maxHeartbeats 2000000 in
theorem e7_isKeptLine {G : rf_Mem} {x n : Nat} (hx : x ≤ 4500) (hn : G 1 (x + 1332) = nI n) (hn2 : n ≤ 40) {nr : Nat} (hr : G 7 1 = nI nr) (hnr : nr ≤ 8) {l : Nat} (hl : l < 16) : Ev LayM mX7_isKeptLine 0 (rf_ent 5 [.ref 0, .int (nI x), .int (nI l)]) [] G (some (.int (b2i (kpM G x n nr l)))) G := by
  have key1 := ev_for (Lay := LayM) (y := mX7_isKeptLine) (pc := 84) (r := (some (.int (b2i (kpM G x n nr l))))) (M' := G) (nr) (fun i => [some (.ref 0), some (.int (nI x)), some (.int (nI l)), some (.int (b2i (bAny (fun p => decide (G 1 (x + p) = nI l) && decide (G 1 (x + 40 + p) = 0) && !decide (nI 9 ≤ G 1 (x + 80 + p))) n || bAny (fun r => decide (G 1 (x + 160 + 16 * r + l) = 0)) i))), some (.int (nI i))]) (fun i => G) ?hx1 ?hs1
  case hx1 =>
    refine ev_iload dX7_isKeptLine_84 rfl ?_
    refine ev_aload_n dX7_isKeptLine_86 rfl ?_
    refine ev_getR dX7_isKeptLine_87 fX7_29 (by first | assumption | rfl) (by rfl) ?_
    refine ev_iconst (v := (nI 1)) dX7_isKeptLine_90 (by decide) ?_
    refine ev_ialdE _ dX7_isKeptLine_91 (by first | with_reducible rfl | with_reducible exact nI_add _ _ | with_reducible exact ix3 _ _ _ | with_reducible exact ix_k _ _ _ | with_reducible exact ix_xk _ _ _ _) (by first | assumption | rfl) ⟨by omega, by decide⟩ ?_
    refine ev_icmp_ge 132 dX7_isKeptLine_92 (by decide) (fun hc92 => ?_) (fun hc92 => False.elim (lp_x hr (by omega) hc92))
    refine ev_iload_n dX7_isKeptLine_132 rfl ?_
    exact ev_iretE dX7_isKeptLine_133 rfl (b2i_nar _) (by first | rfl | simp_all) (rfl)
  case hs1 =>
    intro i hi ih
    refine ev_iload dX7_isKeptLine_84 rfl ?_
    refine ev_aload_n dX7_isKeptLine_86 rfl ?_
    refine ev_getR dX7_isKeptLine_87 fX7_29 (by first | assumption | rfl) (by rfl) ?_
    refine ev_iconst (v := (nI 1)) dX7_isKeptLine_90 (by decide) ?_
    refine ev_ialdE _ dX7_isKeptLine_91 (by first | with_reducible rfl | with_reducible exact nI_add _ _ | with_reducible exact ix3 _ _ _ | with_reducible exact ix_k _ _ _ | with_reducible exact ix_xk _ _ _ _) (by first | assumption | rfl) ⟨by omega, by decide⟩ ?_
    refine ev_icmp_ge 132 dX7_isKeptLine_92 (by decide) (fun hc92 => False.elim (lp_s hr (by omega) hi hc92)) (fun hc92 => ?_)
    refine ev_iload_n dX7_isKeptLine_95 rfl ?_
    refine ev_if_ne 120 dX7_isKeptLine_96 (by decide) (fun hc96 => ?_) (fun hc96 => ?_)
    · rw [b2i_n0] at hc96
      refine ev_iconst (v := (nI 1)) dX7_isKeptLine_120 (by decide) ?_
      refine ev_goto 125 dX7_isKeptLine_121 (by decide) ?_
      refine ev_istore_k 3 dX7_isKeptLine_125 rfl (by decide) rfl ?_
      refine ev_iinc (v := (nI 1)) dX7_isKeptLine_126 rfl (by decide) (by decide) rfl ?_
      refine ev_goto 84 dX7_isKeptLine_129 (by decide) ?_
      exact ev_st ih (by cases z1 : bAny (fun p => decide (G 1 (x + p) = nI l) && decide (G 1 (x + 40 + p) = 0) && !decide (nI 9 ≤ G 1 (x + 80 + p))) n <;> cases z2 : bAny (fun r => decide (G 1 (x + 160 + 16 * r + l) = 0)) i <;> simp_all [nI_add, bAny, b2i]) rfl (rfl)
    · rw [b2i_0] at hc96
      refine ev_aload_n dX7_isKeptLine_99 rfl ?_
      refine ev_getR dX7_isKeptLine_100 fX7_7 (by first | assumption | rfl) (by rfl) ?_
      refine ev_iload_n dX7_isKeptLine_103 rfl ?_
      refine ev_sipush (v := (nI 160)) dX7_isKeptLine_104 (by decide) ?_
      refine ev_iadd dX7_isKeptLine_107 ?_
      refine ev_bipush (v := (nI 16)) dX7_isKeptLine_108 (by decide) ?_
      refine ev_iload dX7_isKeptLine_110 rfl ?_
      refine ev_imul dX7_isKeptLine_112 ?_
      refine ev_iadd dX7_isKeptLine_113 ?_
      refine ev_iload_n dX7_isKeptLine_114 rfl ?_
      refine ev_iadd dX7_isKeptLine_115 ?_
      refine ev_ialdE _ dX7_isKeptLine_116 (by first | with_reducible rfl | with_reducible exact nI_add _ _ | with_reducible exact ix3 _ _ _ | with_reducible exact ix_k _ _ _ | with_reducible exact ix_xk _ _ _ _) (by first | assumption | rfl) ⟨by omega, by decide⟩ ?_
      refine ev_if_ne 124 dX7_isKeptLine_117 (by decide) (fun hc117 => ?_) (fun hc117 => ?_)
      · refine ev_iconst (v := (nI 0)) dX7_isKeptLine_124 (by decide) ?_
        refine ev_istore_k 3 dX7_isKeptLine_125 rfl (by decide) rfl ?_
        refine ev_iinc (v := (nI 1)) dX7_isKeptLine_126 rfl (by decide) (by decide) rfl ?_
        refine ev_goto 84 dX7_isKeptLine_129 (by decide) ?_
        exact ev_st ih (by cases z1 : bAny (fun p => decide (G 1 (x + p) = nI l) && decide (G 1 (x + 40 + p) = 0) && !decide (nI 9 ≤ G 1 (x + 80 + p))) n <;> cases z2 : bAny (fun r => decide (G 1 (x + 160 + 16 * r + l) = 0)) i <;> simp_all [nI_add, bAny, b2i]) rfl (rfl)
      · refine ev_iconst (v := (nI 1)) dX7_isKeptLine_120 (by decide) ?_
        refine ev_goto 125 dX7_isKeptLine_121 (by decide) ?_
        refine ev_istore_k 3 dX7_isKeptLine_125 rfl (by decide) rfl ?_
        refine ev_iinc (v := (nI 1)) dX7_isKeptLine_126 rfl (by decide) (by decide) rfl ?_
        refine ev_goto 84 dX7_isKeptLine_129 (by decide) ?_
        exact ev_st ih (by cases z1 : bAny (fun p => decide (G 1 (x + p) = nI l) && decide (G 1 (x + 40 + p) = 0) && !decide (nI 9 ≤ G 1 (x + 80 + p))) n <;> cases z2 : bAny (fun r => decide (G 1 (x + 160 + 16 * r + l) = 0)) i <;> simp_all [nI_add, bAny, b2i]) rfl (rfl)
  have key0 := ev_for (Lay := LayM) (y := mX7_isKeptLine) (pc := 5) (r := (some (.int (b2i (kpM G x n nr l))))) (M' := G) (n) (fun i => [some (.ref 0), some (.int (nI x)), some (.int (nI l)), some (.int (b2i (bAny (fun p => decide (G 1 (x + p) = nI l) && decide (G 1 (x + 40 + p) = 0) && !decide (nI 9 ≤ G 1 (x + 80 + p))) i))), some (.int (nI i))]) (fun i => G) ?hx0 ?hs0
  case hx0 =>
    refine ev_iload dX7_isKeptLine_5 rfl ?_
    refine ev_aload_n dX7_isKeptLine_7 rfl ?_
    refine ev_getR dX7_isKeptLine_8 fX7_7 (by first | assumption | rfl) (by rfl) ?_
    refine ev_iload_n dX7_isKeptLine_11 rfl ?_
    refine ev_sipush (v := (nI 1332)) dX7_isKeptLine_12 (by decide) ?_
    refine ev_iadd dX7_isKeptLine_15 ?_
    refine ev_ialdE _ dX7_isKeptLine_16 (by first | with_reducible rfl | with_reducible exact nI_add _ _ | with_reducible exact ix3 _ _ _ | with_reducible exact ix_k _ _ _ | with_reducible exact ix_xk _ _ _ _) (by first | assumption | rfl) ⟨by omega, by decide⟩ ?_
    refine ev_icmp_ge 81 dX7_isKeptLine_17 (by decide) (fun hc17 => ?_) (fun hc17 => False.elim (lp_x hn (by omega) hc17))
    refine ev_iconst (v := (nI 0)) dX7_isKeptLine_81 (by decide) ?_
    refine ev_istore dX7_isKeptLine_82 (by decide) rfl ?_
    exact ev_st (key1 0 (Nat.zero_le _)) (by simp [bAny]) rfl (rfl)
  case hs0 =>
    intro i hi ih
    refine ev_iload dX7_isKeptLine_5 rfl ?_
    refine ev_aload_n dX7_isKeptLine_7 rfl ?_
    refine ev_getR dX7_isKeptLine_8 fX7_7 (by first | assumption | rfl) (by rfl) ?_
    refine ev_iload_n dX7_isKeptLine_11 rfl ?_
    refine ev_sipush (v := (nI 1332)) dX7_isKeptLine_12 (by decide) ?_
    refine ev_iadd dX7_isKeptLine_15 ?_
    refine ev_ialdE _ dX7_isKeptLine_16 (by first | with_reducible rfl | with_reducible exact nI_add _ _ | with_reducible exact ix3 _ _ _ | with_reducible exact ix_k _ _ _ | with_reducible exact ix_xk _ _ _ _) (by first | assumption | rfl) ⟨by omega, by decide⟩ ?_
    refine ev_icmp_ge 81 dX7_isKeptLine_17 (by decide) (fun hc17 => False.elim (lp_s hn (by omega) hi hc17)) (fun hc17 => ?_)
    refine ev_iload_n dX7_isKeptLine_20 rfl ?_
    refine ev_if_ne 69 dX7_isKeptLine_21 (by decide) (fun hc21 => ?_) (fun hc21 => ?_)
    · rw [b2i_n0] at hc21
      refine ev_iconst (v := (nI 1)) dX7_isKeptLine_69 (by decide) ?_
      refine ev_goto 74 dX7_isKeptLine_70 (by decide) ?_
      refine ev_istore_k 3 dX7_isKeptLine_74 rfl (by decide) rfl ?_
      refine ev_iinc (v := (nI 1)) dX7_isKeptLine_75 rfl (by decide) (by decide) rfl ?_
      refine ev_goto 5 dX7_isKeptLine_78 (by decide) ?_
      exact ev_st ih (by simp [nI_add, bAny, b2i, *]) rfl (rfl)
    · rw [b2i_0] at hc21
      refine ev_aload_n dX7_isKeptLine_24 rfl ?_
      refine ev_getR dX7_isKeptLine_25 fX7_7 (by first | assumption | rfl) (by rfl) ?_
      refine ev_iload_n dX7_isKeptLine_28 rfl ?_
      refine ev_iload dX7_isKeptLine_29 rfl ?_
      refine ev_iadd dX7_isKeptLine_31 ?_
      refine ev_ialdE _ dX7_isKeptLine_32 (by first | with_reducible rfl | with_reducible exact nI_add _ _ | with_reducible exact ix3 _ _ _ | with_reducible exact ix_k _ _ _ | with_reducible exact ix_xk _ _ _ _) (by first | assumption | rfl) ⟨by omega, by decide⟩ ?_
      refine ev_iload_n dX7_isKeptLine_33 rfl ?_
      refine ev_icmp_ne 73 dX7_isKeptLine_34 (by decide) (fun hc34 => ?_) (fun hc34 => ?_)
      · refine ev_iconst (v := (nI 0)) dX7_isKeptLine_73 (by decide) ?_
        refine ev_istore_k 3 dX7_isKeptLine_74 rfl (by decide) rfl ?_
        refine ev_iinc (v := (nI 1)) dX7_isKeptLine_75 rfl (by decide) (by decide) rfl ?_
        refine ev_goto 5 dX7_isKeptLine_78 (by decide) ?_
        exact ev_st ih (by simp [nI_add, bAny, b2i, *]) rfl (rfl)
      · refine ev_aload_n dX7_isKeptLine_37 rfl ?_
        refine ev_getR dX7_isKeptLine_38 fX7_7 (by first | assumption | rfl) (by rfl) ?_
        refine ev_iload_n dX7_isKeptLine_41 rfl ?_
        refine ev_bipush (v := (nI 40)) dX7_isKeptLine_42 (by decide) ?_
        refine ev_iadd dX7_isKeptLine_44 ?_
        refine ev_iload dX7_isKeptLine_45 rfl ?_
        refine ev_iadd dX7_isKeptLine_47 ?_
        refine ev_ialdE _ dX7_isKeptLine_48 (by first | with_reducible rfl | with_reducible exact nI_add _ _ | with_reducible exact ix3 _ _ _ | with_reducible exact ix_k _ _ _ | with_reducible exact ix_xk _ _ _ _) (by first | assumption | rfl) ⟨by omega, by decide⟩ ?_
        refine ev_if_ne 73 dX7_isKeptLine_49 (by decide) (fun hc49 => ?_) (fun hc49 => ?_)
        · refine ev_iconst (v := (nI 0)) dX7_isKeptLine_73 (by decide) ?_
          refine ev_istore_k 3 dX7_isKeptLine_74 rfl (by decide) rfl ?_
          refine ev_iinc (v := (nI 1)) dX7_isKeptLine_75 rfl (by decide) (by decide) rfl ?_
          refine ev_goto 5 dX7_isKeptLine_78 (by decide) ?_
          exact ev_st ih (by simp [nI_add, bAny, b2i, *]) rfl (rfl)
        · refine ev_aload_n dX7_isKeptLine_52 rfl ?_
          refine ev_getR dX7_isKeptLine_53 fX7_7 (by first | assumption | rfl) (by rfl) ?_
          refine ev_iload_n dX7_isKeptLine_56 rfl ?_
          refine ev_bipush (v := (nI 80)) dX7_isKeptLine_57 (by decide) ?_
          refine ev_iadd dX7_isKeptLine_59 ?_
          refine ev_iload dX7_isKeptLine_60 rfl ?_
          refine ev_iadd dX7_isKeptLine_62 ?_
          refine ev_ialdE _ dX7_isKeptLine_63 (by first | with_reducible rfl | with_reducible exact nI_add _ _ | with_reducible exact ix3 _ _ _ | with_reducible exact ix_k _ _ _ | with_reducible exact ix_xk _ _ _ _) (by first | assumption | rfl) ⟨by omega, by decide⟩ ?_
          refine ev_bipush (v := (nI 9)) dX7_isKeptLine_64 (by decide) ?_
          refine ev_icmp_ge 73 dX7_isKeptLine_66 (by decide) (fun hc66 => ?_) (fun hc66 => ?_)
          · refine ev_iconst (v := (nI 0)) dX7_isKeptLine_73 (by decide) ?_
            refine ev_istore_k 3 dX7_isKeptLine_74 rfl (by decide) rfl ?_
            refine ev_iinc (v := (nI 1)) dX7_isKeptLine_75 rfl (by decide) (by decide) rfl ?_
            refine ev_goto 5 dX7_isKeptLine_78 (by decide) ?_
            exact ev_st ih (by simp [nI_add, bAny, b2i, *]) rfl (rfl)
          · refine ev_iconst (v := (nI 1)) dX7_isKeptLine_69 (by decide) ?_
            refine ev_goto 74 dX7_isKeptLine_70 (by decide) ?_
            refine ev_istore_k 3 dX7_isKeptLine_74 rfl (by decide) rfl ?_
            refine ev_iinc (v := (nI 1)) dX7_isKeptLine_75 rfl (by decide) (by decide) rfl ?_
            refine ev_goto 5 dX7_isKeptLine_78 (by decide) ?_
            exact ev_st ih (by simp [nI_add, bAny, b2i, *]) rfl (rfl)
  refine ev_iconst (v := (nI 0)) dX7_isKeptLine_0 (by decide) ?_
  refine ev_istore_k 3 dX7_isKeptLine_1 rfl (by decide) rfl ?_
  refine ev_iconst (v := (nI 0)) dX7_isKeptLine_2 (by decide) ?_
  refine ev_istore dX7_isKeptLine_3 (by decide) rfl ?_
  exact ev_st (key0 0 (Nat.zero_le _)) (rfl) rfl (rfl)
set_option maxRecDepth 20000 in
set_option maxHeartbeats 2000000 in
theorem e7_keptMany {G : rf_Mem} {x n : Nat} (hx : x ≤ 4500) (hn : G 1 (x + 1332) = nI n) (hn2 : n ≤ 40) {nr : Nat} (hr : G 7 1 = nI nr) (hnr : nr ≤ 8) {nl : Nat} (hl : G 7 0 = nI nl) (hnl : nl ≤ 16) : Ev LayM mX7_keptMany 0 (rf_ent 4 [.ref 0, .int (nI x)]) [] G (some (.int (nI (fb_ct (kpM G x n nr) nl)))) G := by
  have key0 := ev_for (Lay := LayM) (y := mX7_keptMany) (pc := 4) (r := (some (.int (nI (fb_ct (kpM G x n nr) nl))))) (M' := G) (nl) (fun i => [some (.ref 0), some (.int (nI x)), some (.int (nI (fb_ct (kpM G x n nr) i))), some (.int (nI i))]) (fun i => G) ?hx0 ?hs0
  case hx0 =>
    refine ev_iload_n dX7_keptMany_4 rfl ?_
    refine ev_aload_n dX7_keptMany_5 rfl ?_
    refine ev_getR dX7_keptMany_6 fX7_29 (by first | assumption | rfl) (by rfl) ?_
    refine ev_iconst (v := (nI 0)) dX7_keptMany_9 (by decide) ?_
    refine ev_ialdE _ dX7_keptMany_10 (by first | with_reducible rfl | with_reducible exact nI_add _ _ | with_reducible exact ix3 _ _ _ | with_reducible exact ix_k _ _ _ | with_reducible exact ix_xk _ _ _ _) (by first | assumption | rfl) ⟨by omega, by decide⟩ ?_
    refine ev_icmp_ge 32 dX7_keptMany_11 (by decide) (fun hc11 => ?_) (fun hc11 => False.elim (lp_x hl (by omega) hc11))
    refine ev_iload_n dX7_keptMany_32 rfl ?_
    exact ev_iretE dX7_keptMany_33 rfl rfl (by first | rfl | simp_all) (rfl)
  case hs0 =>
    intro i hi ih
    refine ev_iload_n dX7_keptMany_4 rfl ?_
    refine ev_aload_n dX7_keptMany_5 rfl ?_
    refine ev_getR dX7_keptMany_6 fX7_29 (by first | assumption | rfl) (by rfl) ?_
    refine ev_iconst (v := (nI 0)) dX7_keptMany_9 (by decide) ?_
    refine ev_ialdE _ dX7_keptMany_10 (by first | with_reducible rfl | with_reducible exact nI_add _ _ | with_reducible exact ix3 _ _ _ | with_reducible exact ix_k _ _ _ | with_reducible exact ix_xk _ _ _ _) (by first | assumption | rfl) ⟨by omega, by decide⟩ ?_
    refine ev_icmp_ge 32 dX7_keptMany_11 (by decide) (fun hc11 => False.elim (lp_s hl (by omega) hi hc11)) (fun hc11 => ?_)
    refine ev_iload_n dX7_keptMany_14 rfl ?_
    refine ev_aload_n dX7_keptMany_15 rfl ?_
    refine ev_iload_n dX7_keptMany_16 rfl ?_
    refine ev_iload_n dX7_keptMany_17 rfl ?_
    refine ev_cV2 dX7_keptMany_18 ceX7_isKeptLine kX7_137 (rm_le rfl rfl) (Nat.le_of_ble_eq_true rfl) (Nat.le_of_ble_eq_true rfl) (e7_isKeptLine hx hn hn2 hr hnr (by omega)) (by first | assumption | rfl) ?_
    refine ev_cS1 dX7_keptMany_21 ceX7_one kX7_141 (rm_le rfl rfl) (Nat.le_of_ble_eq_true rfl) (Nat.le_of_ble_eq_true rfl) (e7_oneB) ?_
    refine ev_iadd dX7_keptMany_24 ?_
    refine ev_istore_k 2 dX7_keptMany_25 rfl (by decide) rfl ?_
    refine ev_iinc (v := (nI 1)) dX7_keptMany_26 rfl (by decide) (by decide) rfl ?_
    refine ev_goto 4 dX7_keptMany_29 (by decide) ?_
    exact ev_st ih (by cases hz : kpM G x n nr i <;> simp [nI_add, fb_ct_succ, hz, b2i]) rfl (rfl)
  refine ev_iconst (v := (nI 0)) dX7_keptMany_0 (by decide) ?_
  refine ev_istore_k 2 dX7_keptMany_1 rfl (by decide) rfl ?_
  refine ev_iconst (v := (nI 0)) dX7_keptMany_2 (by decide) ?_
  refine ev_istore_k 3 dX7_keptMany_3 rfl (by decide) rfl ?_
  exact ev_st (key0 0 (Nat.zero_le _)) (rfl) rfl (rfl)
