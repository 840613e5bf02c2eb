/-! the reference: acts -/
def knM (x : Nat) (G : rf_Mem) (r l : Nat) (v : Int32) : rf_Mem := rf_set (rf_set G 1 (x + 160 + 16 * r + l) v) 1 (x + 288 + 16 * r + l) (G 1 (x + 1334))
theorem gs_j (M : rf_Mem) {q k j : Nat} (v : Int32) (h : j ≠ k) : rf_set M q k v q j = M q j := gs_k M q v h
def knF (x : Nat) (G : rf_Mem) (r : Nat) (al : Bool) (l : Nat) (v : Int32) : Nat → rf_Mem
  | 0 => G
  | s + 1 => if decide (s = r) || al then knM x (knF x G r al l v s) s l v else knF x G r al l v s
theorem knM_o {x : Nat} {G : rf_Mem} {r l : Nat} {v : Int32} {a : Nat} (h : a ≠ 1) : knM x G r l v a = G a := by
  unfold knM
  rw [gs_q _ _ _ h, gs_q _ _ _ h]
theorem knM_j {x : Nat} {G : rf_Mem} {r l : Nat} {v : Int32} {j : Nat} (h : j ≠ x + 160 + 16 * r + l ∧ j ≠ x + 288 + 16 * r + l) : knM x G r l v 1 j = G 1 j := by
  unfold knM
  rw [gs_j _ _ h.2, gs_j _ _ h.1]
theorem knF_o {x : Nat} {G : rf_Mem} {r : Nat} {al : Bool} {l : Nat} {v : Int32} {a : Nat} (h : a ≠ 1) : ∀ n, knF x G r al l v n a = G a
  | 0 => rfl
  | n + 1 => by
    rw [knF]
    split
    · rw [knM_o h, knF_o h n]
    · exact knF_o h n
theorem knF_j {x : Nat} {G : rf_Mem} {r : Nat} {al : Bool} {l : Nat} {v : Int32} {j : Nat} (hl : l < 16) (h : j < x + 160 ∨ x + 416 ≤ j) : ∀ n, n ≤ 8 → knF x G r al l v n 1 j = G 1 j
  | 0, _ => rfl
  | n + 1, hn => by
    rw [knF]
    split
    · rw [knM_j (by omega), knF_j hl h n (by omega)]
    · exact knF_j hl h n (by omega)
/-- the log of row x -/
def lgM (x k : Nat) (G : rf_Mem) (p r : Int32) : rf_Mem := if k < 300 then rf_set (rf_set (rf_set (rf_set G 1 (x + 432 + k) (G 1 (x + 1334))) 1 (x + 732 + k) p) 1 (x + 1032 + k) r) 1 (x + 1333) (nI k + nI 1) else G
def rdM (x k nr : Nat) (G : rf_Mem) (r p l : Nat) : rf_Mem := lgM x k (knF x (rf_set G 1 (x + 80 + p) (if G 5 r = nI 3 then nI 9 else G 1 (x + 80 + p) + nI 1)) r (decide (G 5 r = nI 1)) l (G 1 (x + 40 + p)) nr) (nI p) (nI r)
def sdM (s : Int32) : Int32 := ((s.toInt64 * 1103515245 + 12345) - (s.toInt64 * 1103515245 + 12345) / 2147483648 * 2147483648).toInt32
def cpW (G : rf_Mem) (x y : Nat) (n : Nat) : rf_Mem := rf_row G 1 (fun j => if y ≤ j ∧ j < y + n then G 1 (x + (j - y)) else G 1 j)
theorem cpW_0 (G : rf_Mem) (x y : Nat) : cpW G x y 0 = G := by
  funext a j
  by_cases h : a = 1
  · subst h
    have e : ¬ (y ≤ j ∧ j < y + 0) := by omega
    simp only [cpW, rf_row, if_true, if_neg e]
  · simp [cpW, rf_row, h]
theorem cpW_s (G : rf_Mem) {x y i : Nat} (h : x + i < y ∨ y + i ≤ x + i) : rf_set (cpW G x y i) 1 (y + i) (cpW G x y i 1 (x + i)) = cpW G x y (i + 1) := by
  have e0 : cpW G x y i 1 (x + i) = G 1 (x + i) := by
    have e : ¬ (y ≤ x + i ∧ x + i < y + i) := by omega
    simp only [cpW, rf_row, if_true, if_neg e]
  rw [e0]
  funext a j
  by_cases h2 : a = 1
  · subst h2
    by_cases h3 : j = y + i
    · subst h3
      have e : y ≤ y + i ∧ y + i < y + (i + 1) := by omega
      rw [gs_same]
      simp only [cpW, rf_row, if_true, if_pos e, Nat.add_sub_cancel_left]
    · rw [gs_j _ _ h3]
      by_cases h4 : y ≤ j ∧ j < y + i
      · have e : y ≤ j ∧ j < y + (i + 1) := by omega
        simp only [cpW, rf_row, if_true, if_pos e, if_pos h4]
      · have e : ¬ (y ≤ j ∧ j < y + (i + 1)) := by omega
        simp only [cpW, rf_row, if_true, if_neg e, if_neg h4]
  · simp [rf_set, cpW, rf_row, h2]
def mkM (n : Nat) (G : rf_Mem) (r l v : Int32) : rf_Mem :=
  let M1 := rf_set (rf_set G 1 n l) 1 1335 (sdM (G 1 1335))
  let M2 := rf_set M1 1 (40 + n) (if G 0 7 ≤ dv (sdM (G 1 1335)) (nI 100) then v else nI n + nI 1)
  rf_set (rf_set (rf_set M2 1 (80 + n) (nI 0)) 1 (120 + n) r) 1 1332 (nI n + nI 1)

def onI (s : Int32) : Nat → Int32
  | 0 => nI 0
  | k + 1 => onI s k + (s >>> (nI k &&& 31) &&& nI 1)
set_option maxRecDepth 20000 in
set_option maxHeartbeats 2000000 in
theorem e7_ones {G : rf_Mem} {s : Int32} : Ev LayM mX7_ones 0 (rf_ent 3 [.int s]) [] G (some (.int (onI s 16))) G := by
  have key0 := ev_for (Lay := LayM) (y := mX7_ones) (pc := 4) (r := (some (.int (onI s 16)))) (M' := G) (16) (fun i => [some (.int s), some (.int (onI s i)), some (.int (nI i))]) (fun i => G) ?hx0 ?hs0
  case hx0 =>
    refine ev_iload_n dX7_ones_4 rfl ?_
    refine ev_bipush (v := (nI 16)) dX7_ones_5 (by decide) ?_
    refine ev_icmp_ge 24 dX7_ones_7 (by decide) (fun hc7 => ?_) (fun hc7 => False.elim (lp_x rfl (by decide) hc7))
    refine ev_iload_n dX7_ones_24 rfl ?_
    exact ev_iretE dX7_ones_25 rfl rfl (by first | rfl | simp_all) (rfl)
  case hs0 =>
    intro i hi ih
    refine ev_iload_n dX7_ones_4 rfl ?_
    refine ev_bipush (v := (nI 16)) dX7_ones_5 (by decide) ?_
    refine ev_icmp_ge 24 dX7_ones_7 (by decide) (fun hc7 => False.elim (lp_s rfl (by decide) hi hc7)) (fun hc7 => ?_)
    refine ev_iload_n dX7_ones_10 rfl ?_
    refine ev_iload_n dX7_ones_11 rfl ?_
    refine ev_iload_n dX7_ones_12 rfl ?_
    refine ev_ishr dX7_ones_13 ?_
    refine ev_iconst (v := (nI 1)) dX7_ones_14 (by decide) ?_
    refine ev_iand dX7_ones_15 ?_
    refine ev_iadd dX7_ones_16 ?_
    refine ev_istore_k 1 dX7_ones_17 rfl (by decide) rfl ?_
    refine ev_iinc (v := (nI 1)) dX7_ones_18 rfl (by decide) (by decide) rfl ?_
    refine ev_goto 4 dX7_ones_21 (by decide) ?_
    exact ev_st ih (by simp [nI_add, onI]) rfl (rfl)
  refine ev_iconst (v := (nI 0)) dX7_ones_0 (by decide) ?_
  refine ev_istore_k 1 dX7_ones_1 rfl (by decide) rfl ?_
  refine ev_iconst (v := (nI 0)) dX7_ones_2 (by decide) ?_
  refine ev_istore_k 2 dX7_ones_3 rfl (by decide) rfl ?_
  exact ev_st (key0 0 (Nat.zero_le _)) (rfl) rfl (rfl)
def voM (G : rf_Mem) (n nr l : Nat) : Nat → Bool := fun v => !decide (nI 2 * nI (fb_ct (vWith (G 1) (fun p => G 1 (40 + p)) (fun p => G 1 (80 + p)) (nI l) (nI v)) n + fb_ct (fun r => decide (G 1 (160 + 16 * r + l) = nI v)) nr) ≤ nI (fb_ct (vLeft (G 1) (fun p => G 1 (80 + p)) (nI l)) n) + onI (kset (fun r => !decide (G 1 (160 + 16 * r + l) < 0)) nr) 16)
set_option maxRecDepth 20000 in
set_option maxHeartbeats 2000000 in
theorem e7_vote {G : rf_Mem} {n : Nat} (hn : G 1 1332 = nI n) (hn2 : n ≤ 40) {nr : Nat} (hr : G 7 1 = nI nr) (hnr : nr ≤ 8) {l : Nat} (hl : l < 16) : Ev LayM mX7_vote 0 (rf_ent 5 [.ref 0, .int (nI l)]) [] G (some (.int (lastI (voM G n nr l) 41))) G := by
  have key0 := ev_for (Lay := LayM) (y := mX7_vote) (pc := 20) (r := (some (.int (lastI (voM G n nr l) 41)))) (M' := G) (41) (fun i => [some (.ref 0), some (.int (nI l)), some (.int (nI (fb_ct (vLeft (G 1) (fun p => G 1 (80 + p)) (nI l)) n) + onI (kset (fun r => !decide (G 1 (160 + 16 * r + l) < 0)) nr) 16)), some (.int (lastI (voM G n nr l) i)), some (.int (nI i))]) (fun i => G) ?hx0 ?hs0
  case hx0 =>
    refine ev_iload dX7_vote_20 rfl ?_
    refine ev_bipush (v := (nI 40)) dX7_vote_22 (by decide) ?_
    refine ev_icmp_gt 53 dX7_vote_24 (by decide) (fun hc24 => ?_) (fun hc24 => False.elim (lp_gx (n := 40) rfl (by decide) hc24))
    refine ev_iload_n dX7_vote_53 rfl ?_
    exact ev_iretE dX7_vote_54 rfl rfl (by first | rfl | simp_all) (rfl)
  case hs0 =>
    intro i hi ih
    refine ev_iload dX7_vote_20 rfl ?_
    refine ev_bipush (v := (nI 40)) dX7_vote_22 (by decide) ?_
    refine ev_icmp_gt 53 dX7_vote_24 (by decide) (fun hc24 => False.elim (lp_gs (n := 40) rfl (by decide) hi hc24)) (fun hc24 => ?_)
    refine ev_iconst (v := (nI 2)) dX7_vote_27 (by decide) ?_
    refine ev_aload_n dX7_vote_28 rfl ?_
    refine ev_iload_n dX7_vote_29 rfl ?_
    refine ev_iload dX7_vote_30 rfl ?_
    refine ev_cV2 dX7_vote_32 ceX7_votesFor kX7_158 (rm_le rfl rfl) (Nat.le_of_ble_eq_true rfl) (Nat.le_of_ble_eq_true rfl) (e7_votesFor hn hn2 hr hnr hl) (by first | assumption | rfl) ?_
    refine ev_imul dX7_vote_35 ?_
    refine ev_iload_n dX7_vote_36 rfl ?_
    refine ev_icmp_le 45 dX7_vote_37 (by decide) (fun hc37 => ?_) (fun hc37 => ?_)
    · refine ev_iload_n dX7_vote_45 rfl ?_
      refine ev_istore_k 3 dX7_vote_46 rfl (by decide) rfl ?_
      refine ev_iinc (v := (nI 1)) dX7_vote_47 rfl (by decide) (by decide) rfl ?_
      refine ev_goto 20 dX7_vote_50 (by decide) ?_
      exact ev_st ih (by first | (have z : voM G n nr l i = false := nd_f hc37; simp [nI_add, lastI, z]; done) | (have z : voM G n nr l i = true := nd_t hc37; simp [nI_add, lastI, z])) rfl (rfl)
    · refine ev_iload dX7_vote_40 rfl ?_
      refine ev_goto 46 dX7_vote_42 (by decide) ?_
      refine ev_istore_k 3 dX7_vote_46 rfl (by decide) rfl ?_
      refine ev_iinc (v := (nI 1)) dX7_vote_47 rfl (by decide) (by decide) rfl ?_
      refine ev_goto 20 dX7_vote_50 (by decide) ?_
      exact ev_st ih (by first | (have z : voM G n nr l i = false := nd_f hc37; simp [nI_add, lastI, z]; done) | (have z : voM G n nr l i = true := nd_t hc37; simp [nI_add, lastI, z])) rfl (rfl)
  refine ev_aload_n dX7_vote_0 rfl ?_
  refine ev_iload_n dX7_vote_1 rfl ?_
  refine ev_cV1 dX7_vote_2 ceX7_pagesOf kX7_149 (rm_le rfl rfl) (Nat.le_of_ble_eq_true rfl) (Nat.le_of_ble_eq_true rfl) (e7_pagesOf hn hn2) (by first | assumption | rfl) ?_
  refine ev_aload_n dX7_vote_5 rfl ?_
  refine ev_iload_n dX7_vote_6 rfl ?_
  refine ev_cV1 dX7_vote_7 ceX7_knowers kX7_152 (rm_le rfl rfl) (Nat.le_of_ble_eq_true rfl) (Nat.le_of_ble_eq_true rfl) (e7_knowers hr hnr hl) (by first | assumption | rfl) ?_
  refine ev_cS1 dX7_vote_10 ceX7_ones kX7_155 (rm_le rfl rfl) (Nat.le_of_ble_eq_true rfl) (Nat.le_of_ble_eq_true rfl) (e7_ones) ?_
  refine ev_iadd dX7_vote_13 ?_
  refine ev_istore_k 2 dX7_vote_14 rfl (by decide) rfl ?_
  refine ev_iconst (v := (-1)) dX7_vote_15 (by decide) ?_
  refine ev_istore_k 3 dX7_vote_16 rfl (by decide) rfl ?_
  refine ev_iconst (v := (nI 0)) dX7_vote_17 (by decide) ?_
  refine ev_istore dX7_vote_18 (by decide) rfl ?_
  exact ev_st (key0 0 (Nat.zero_le _)) (rfl) rfl (rfl)
set_option maxRecDepth 20000 in
set_option maxHeartbeats 2000000 in
theorem e7_know {G : rf_Mem} {x r l : Nat} (hx : x ≤ 4500) (hr : r < 8) (hl : l < 16) {v : Int32} : Ev LayM mX7_know 0 (rf_ent 5 [.ref 0, .int (nI x), .int (nI r), .int (nI l), .int v]) [] G none (knM x G r l v) := by
  refine ev_aload_n dX7_know_0 rfl ?_
  refine ev_getR dX7_know_1 fX7_7 (by first | assumption | rfl) (by rfl) ?_
  refine ev_iload_n dX7_know_4 rfl ?_
  refine ev_sipush (v := (nI 160)) dX7_know_5 (by decide) ?_
  refine ev_iadd dX7_know_8 ?_
  refine ev_bipush (v := (nI 16)) dX7_know_9 (by decide) ?_
  refine ev_iload_n dX7_know_11 rfl ?_
  refine ev_imul dX7_know_12 ?_
  refine ev_iadd dX7_know_13 ?_
  refine ev_iload_n dX7_know_14 rfl ?_
  refine ev_iadd dX7_know_15 ?_
  refine ev_iload dX7_know_16 rfl ?_
  refine ev_iastE _ dX7_know_18 (by first | with_reducible rfl | with_reducible exact nI_add _ _ | with_reducible exact ix3 _ _ _ | with_reducible exact ix_k _ _ _ | with_reducible exact ix_xk _ _ _ _) (by first | assumption | rfl) ⟨by omega, by decide⟩ ?_
  refine ev_aload_n dX7_know_19 rfl ?_
  refine ev_getR dX7_know_20 fX7_7 (by first | assumption | rfl) (by rfl) ?_
  refine ev_iload_n dX7_know_23 rfl ?_
  refine ev_sipush (v := (nI 288)) dX7_know_24 (by decide) ?_
  refine ev_iadd dX7_know_27 ?_
  refine ev_bipush (v := (nI 16)) dX7_know_28 (by decide) ?_
  refine ev_iload_n dX7_know_30 rfl ?_
  refine ev_imul dX7_know_31 ?_
  refine ev_iadd dX7_know_32 ?_
  refine ev_iload_n dX7_know_33 rfl ?_
  refine ev_iadd dX7_know_34 ?_
  refine ev_aload_n dX7_know_35 rfl ?_
  refine ev_getR dX7_know_36 fX7_7 (by first | assumption | rfl) (by rfl) ?_
  refine ev_iload_n dX7_know_39 rfl ?_
  refine ev_sipush (v := (nI 1334)) dX7_know_40 (by decide) ?_
  refine ev_iadd dX7_know_43 ?_
  refine ev_ialdE _ dX7_know_44 (by first | with_reducible rfl | with_reducible exact nI_add _ _ | with_reducible exact ix3 _ _ _ | with_reducible exact ix_k _ _ _ | with_reducible exact ix_xk _ _ _ _) (by first | assumption | rfl) ⟨by omega, by decide⟩ ?_
  refine ev_iastE _ dX7_know_45 (by first | with_reducible rfl | with_reducible exact nI_add _ _ | with_reducible exact ix3 _ _ _ | with_reducible exact ix_k _ _ _ | with_reducible exact ix_xk _ _ _ _) (by first | assumption | rfl) ⟨by omega, by decide⟩ ?_
  exact ev_vretE dX7_know_46 rfl rfl (by rw [gs_j _ _ (by omega)]; rfl)
set_option maxRecDepth 20000 in
set_option maxHeartbeats 2000000 in
theorem e7_draw {G : rf_Mem} {x : Nat} (hx : x ≤ 4500) {n : Int32} (hn : ¬ n = 0) : Ev LayM mX7_draw 0 (rf_ent 3 [.ref 0, .int (nI x), .int n]) [] G (some (.int (dv (sdM (G 1 (x + 1335))) n))) (rf_set G 1 (x + 1335) (sdM (G 1 (x + 1335)))) := by
  refine ev_aload_n dX7_draw_0 rfl ?_
  refine ev_getR dX7_draw_1 fX7_7 (by first | assumption | rfl) (by rfl) ?_
  refine ev_iload_n dX7_draw_4 rfl ?_
  refine ev_sipush (v := (nI 1335)) dX7_draw_5 (by decide) ?_
  refine ev_iadd dX7_draw_8 ?_
  refine ev_aload_n dX7_draw_9 rfl ?_
  refine ev_getR dX7_draw_10 fX7_7 (by first | assumption | rfl) (by rfl) ?_
  refine ev_iload_n dX7_draw_13 rfl ?_
  refine ev_sipush (v := (nI 1335)) dX7_draw_14 (by decide) ?_
  refine ev_iadd dX7_draw_17 ?_
  refine ev_ialdE _ dX7_draw_18 (by first | with_reducible rfl | with_reducible exact nI_add _ _ | with_reducible exact ix3 _ _ _ | with_reducible exact ix_k _ _ _ | with_reducible exact ix_xk _ _ _ _) (by first | assumption | rfl) ⟨by omega, by decide⟩ ?_
  refine ev_i2l dX7_draw_19 ?_
  refine ev_ldc2 dX7_draw_20 nX7_192 ?_
  refine ev_lmul dX7_draw_23 ?_
  refine ev_ldc2 dX7_draw_24 nX7_194 ?_
  refine ev_ladd dX7_draw_27 ?_
  refine ev_ldc2 dX7_draw_28 nX7_196 ?_
  refine ev_lrem dX7_draw_31 (by decide) ?_
  refine ev_l2i dX7_draw_32 ?_
  refine ev_iastE _ dX7_draw_33 (by first | with_reducible rfl | with_reducible exact nI_add _ _ | with_reducible exact ix3 _ _ _ | with_reducible exact ix_k _ _ _ | with_reducible exact ix_xk _ _ _ _) (by first | assumption | rfl) ⟨by omega, by decide⟩ ?_
  refine ev_aload_n dX7_draw_34 rfl ?_
  refine ev_getR dX7_draw_35 fX7_7 (by first | assumption | rfl) (by rfl) ?_
  refine ev_iload_n dX7_draw_38 rfl ?_
  refine ev_sipush (v := (nI 1335)) dX7_draw_39 (by decide) ?_
  refine ev_iadd dX7_draw_42 ?_
  refine ev_ialdE _ dX7_draw_43 (by first | with_reducible rfl | with_reducible exact nI_add _ _ | with_reducible exact ix3 _ _ _ | with_reducible exact ix_k _ _ _ | with_reducible exact ix_xk _ _ _ _) (by first | assumption | rfl) ⟨by omega, by decide⟩ ?_
  refine ev_ldc (v := (nI 65536)) dX7_draw_44 nX7_198 ?_
  refine ev_idiv dX7_draw_46 (by decide) ?_
  refine ev_iload_n dX7_draw_47 rfl ?_
  refine ev_irem dX7_draw_48 (hn) ?_
  exact ev_iretE dX7_draw_49 rfl rfl (by rw [gs_same]; rfl) (rfl)
set_option maxRecDepth 20000 in
set_option maxHeartbeats 2000000 in
theorem e7_copyRow {G : rf_Mem} {x y : Nat} (hx : x ≤ 4500) (hy : y ≤ 4500) (hd : x + 1500 ≤ y ∨ y + 1500 ≤ x) : Ev LayM mX7_copyRow 0 (rf_ent 4 [.ref 0, .int (nI x), .int (nI y)]) [] G none (cpW G x y 1500) := by
  have key0 := ev_for (Lay := LayM) (y := mX7_copyRow) (pc := 2) (r := none) (M' := (cpW G x y 1500)) (1500) (fun i => [some (.ref 0), some (.int (nI x)), some (.int (nI y)), some (.int (nI i))]) (fun i => cpW G x y i) ?hx0 ?hs0
  case hx0 =>
    refine ev_iload_n dX7_copyRow_2 rfl ?_
    refine ev_sipush (v := (nI 1500)) dX7_copyRow_3 (by decide) ?_
    refine ev_icmp_ge 31 dX7_copyRow_6 (by decide) (fun hc6 => ?_) (fun hc6 => False.elim (lp_x rfl (by decide) hc6))
    exact ev_vretE dX7_copyRow_31 rfl rfl (rfl)
  case hs0 =>
    intro i hi ih
    refine ev_iload_n dX7_copyRow_2 rfl ?_
    refine ev_sipush (v := (nI 1500)) dX7_copyRow_3 (by decide) ?_
    refine ev_icmp_ge 31 dX7_copyRow_6 (by decide) (fun hc6 => False.elim (lp_s rfl (by decide) hi hc6)) (fun hc6 => ?_)
    refine ev_aload_n dX7_copyRow_9 rfl ?_
    refine ev_getR dX7_copyRow_10 fX7_7 (by first | assumption | rfl) (by rfl) ?_
    refine ev_iload_n dX7_copyRow_13 rfl ?_
    refine ev_iload_n dX7_copyRow_14 rfl ?_
    refine ev_iadd dX7_copyRow_15 ?_
    refine ev_aload_n dX7_copyRow_16 rfl ?_
    refine ev_getR dX7_copyRow_17 fX7_7 (by first | assumption | rfl) (by rfl) ?_
    refine ev_iload_n dX7_copyRow_20 rfl ?_
    refine ev_iload_n dX7_copyRow_21 rfl ?_
    refine ev_iadd dX7_copyRow_22 ?_
    refine ev_ialdE _ dX7_copyRow_23 (by first | with_reducible rfl | with_reducible exact nI_add _ _ | with_reducible exact ix3 _ _ _ | with_reducible exact ix_k _ _ _ | with_reducible exact ix_xk _ _ _ _) (by first | assumption | rfl) ⟨by omega, by decide⟩ ?_
    refine ev_iastE _ dX7_copyRow_24 (by first | with_reducible rfl | with_reducible exact nI_add _ _ | with_reducible exact ix3 _ _ _ | with_reducible exact ix_k _ _ _ | with_reducible exact ix_xk _ _ _ _) (by first | assumption | rfl) ⟨by omega, by decide⟩ ?_
    refine ev_iinc (v := (nI 1)) dX7_copyRow_25 rfl (by decide) (by decide) rfl ?_
    refine ev_goto 2 dX7_copyRow_28 (by decide) ?_
    exact ev_st ih (by simp [nI_add]) rfl (cpW_s G (by omega))
  refine ev_iconst (v := (nI 0)) dX7_copyRow_0 (by decide) ?_
  refine ev_istore_k 3 dX7_copyRow_1 rfl (by decide) rfl ?_
  exact ev_st (key0 0 (Nat.zero_le _)) (rfl) rfl ((cpW_0 G x y).symm)
set_option maxRecDepth 20000 in
set_option maxHeartbeats 2000000 in
theorem e7_rdT {G : rf_Mem} {x k : Nat} (hx : x ≤ 4500) (hk : G 1 (x + 1333) = nI k) (hk3 : k ≤ 300) {nr : Nat} (hr : G 7 1 = nI nr) (hnr : nr ≤ 8) {r p l : Nat} (hrr : r < 8) (hp : p < 40) (hl : l < 16) (hline : G 1 (x + p) = nI l) (sv : Int32) : Ev LayM mX7_readPage 39 [some (.ref 0), some (.int (nI x)), some (.int (nI r)), some (.int (nI p)), none] [] (rf_set G 1 (x + 80 + p) sv) none (lgM x k (knF x (rf_set G 1 (x + 80 + p) sv) r (decide (G 5 r = nI 1)) l (G 1 (x + 40 + p)) nr) (nI p) (nI r)) := by
  have key0 := ev_for (Lay := LayM) (y := mX7_readPage) (pc := 42) (r := none) (M' := (lgM x k (knF x (rf_set G 1 (x + 80 + p) sv) r (decide (G 5 r = nI 1)) l (G 1 (x + 40 + p)) nr) (nI p) (nI r))) (nr) (fun i => [some (.ref 0), some (.int (nI x)), some (.int (nI r)), some (.int (nI p)), some (.int (nI i))]) (fun i => knF x (rf_set G 1 (x + 80 + p) sv) r (decide (G 5 r = nI 1)) l (G 1 (x + 40 + p)) i) ?hx0 ?hs0
  case hx0 =>
    refine ev_iload dX7_readPage_42 rfl ?_
    refine ev_aload_n dX7_readPage_44 rfl ?_
    refine ev_getR dX7_readPage_45 fX7_29 (by first | assumption | rfl) (by rfl) ?_
    refine ev_iconst (v := (nI 1)) dX7_readPage_48 (by decide) ?_
    refine ev_ialdE _ dX7_readPage_49 (by first | with_reducible rfl | with_reducible exact nI_add _ _ | with_reducible exact ix3 _ _ _ | with_reducible exact ix_k _ _ _ | with_reducible exact ix_xk _ _ _ _) (by first | assumption | rfl) ⟨by omega, by decide⟩ ?_
    refine ev_icmp_ge 101 dX7_readPage_50 (by decide) (fun hc50 => ?_) (fun hc50 => False.elim (lp_x (by rw [knF_o (by decide), gs_q _ _ _ (by decide)]; exact hr) (by omega) hc50))
    refine ev_aload_n dX7_readPage_101 rfl ?_
    refine ev_getR dX7_readPage_102 fX7_7 (by first | assumption | rfl) (by rfl) ?_
    refine ev_iload_n dX7_readPage_105 rfl ?_
    refine ev_sipush (v := (nI 1333)) dX7_readPage_106 (by decide) ?_
    refine ev_iadd dX7_readPage_109 ?_
    refine ev_ialdE _ dX7_readPage_110 (by first | with_reducible rfl | with_reducible exact nI_add _ _ | with_reducible exact ix3 _ _ _ | with_reducible exact ix_k _ _ _ | with_reducible exact ix_xk _ _ _ _) (by first | assumption | rfl) ⟨by omega, by decide⟩ ?_
    rw [knF_j hl (by omega) nr (by omega), gs_j _ _ (by omega), hk]
    refine ev_istore dX7_readPage_111 (by decide) rfl ?_
    refine ev_iload dX7_readPage_113 rfl ?_
    refine ev_sipush (v := (nI 300)) dX7_readPage_115 (by decide) ?_
    refine ev_icmp_ge 186 dX7_readPage_118 (by decide) (fun hc118 => ?_) (fun hc118 => ?_)
    · have z8 : ¬ k < 300 := fun z => nI_ge z (by decide) hc118
      exact ev_vretE dX7_readPage_186 rfl rfl (by first | (rw [lgM, if_neg z8]; done) | (rw [lgM, if_pos z8]; done))
    · have z8 : k < 300 := by
        rcases Nat.lt_or_ge k 300 with z | z
        · exact z
        · exact absurd (nI_le z (by omega)) hc118
      refine ev_aload_n dX7_readPage_121 rfl ?_
      refine ev_getR dX7_readPage_122 fX7_7 (by first | assumption | rfl) (by rfl) ?_
      refine ev_iload_n dX7_readPage_125 rfl ?_
      refine ev_sipush (v := (nI 432)) dX7_readPage_126 (by decide) ?_
      refine ev_iadd dX7_readPage_129 ?_
      refine ev_iload dX7_readPage_130 rfl ?_
      refine ev_iadd dX7_readPage_132 ?_
      refine ev_aload_n dX7_readPage_133 rfl ?_
      refine ev_getR dX7_readPage_134 fX7_7 (by first | assumption | rfl) (by rfl) ?_
      refine ev_iload_n dX7_readPage_137 rfl ?_
      refine ev_sipush (v := (nI 1334)) dX7_readPage_138 (by decide) ?_
      refine ev_iadd dX7_readPage_141 ?_
      refine ev_ialdE _ dX7_readPage_142 (by first | with_reducible rfl | with_reducible exact nI_add _ _ | with_reducible exact ix3 _ _ _ | with_reducible exact ix_k _ _ _ | with_reducible exact ix_xk _ _ _ _) (by first | assumption | rfl) ⟨by omega, by decide⟩ ?_
      refine ev_iastE _ dX7_readPage_143 (by first | with_reducible rfl | with_reducible exact nI_add _ _ | with_reducible exact ix3 _ _ _ | with_reducible exact ix_k _ _ _ | with_reducible exact ix_xk _ _ _ _) (by first | assumption | rfl) ⟨by omega, by decide⟩ ?_
      refine ev_aload_n dX7_readPage_144 rfl ?_
      refine ev_getR dX7_readPage_145 fX7_7 (by first | assumption | rfl) (by rfl) ?_
      refine ev_iload_n dX7_readPage_148 rfl ?_
      refine ev_sipush (v := (nI 732)) dX7_readPage_149 (by decide) ?_
      refine ev_iadd dX7_readPage_152 ?_
      refine ev_iload dX7_readPage_153 rfl ?_
      refine ev_iadd dX7_readPage_155 ?_
      refine ev_iload_n dX7_readPage_156 rfl ?_
      refine ev_iastE _ dX7_readPage_157 (by first | with_reducible rfl | with_reducible exact nI_add _ _ | with_reducible exact ix3 _ _ _ | with_reducible exact ix_k _ _ _ | with_reducible exact ix_xk _ _ _ _) (by first | assumption | rfl) ⟨by omega, by decide⟩ ?_
      refine ev_aload_n dX7_readPage_158 rfl ?_
      refine ev_getR dX7_readPage_159 fX7_7 (by first | assumption | rfl) (by rfl) ?_
      refine ev_iload_n dX7_readPage_162 rfl ?_
      refine ev_sipush (v := (nI 1032)) dX7_readPage_163 (by decide) ?_
      refine ev_iadd dX7_readPage_166 ?_
      refine ev_iload dX7_readPage_167 rfl ?_
      refine ev_iadd dX7_readPage_169 ?_
      refine ev_iload_n dX7_readPage_170 rfl ?_
      refine ev_iastE _ dX7_readPage_171 (by first | with_reducible rfl | with_reducible exact nI_add _ _ | with_reducible exact ix3 _ _ _ | with_reducible exact ix_k _ _ _ | with_reducible exact ix_xk _ _ _ _) (by first | assumption | rfl) ⟨by omega, by decide⟩ ?_
      refine ev_aload_n dX7_readPage_172 rfl ?_
      refine ev_getR dX7_readPage_173 fX7_7 (by first | assumption | rfl) (by rfl) ?_
      refine ev_iload_n dX7_readPage_176 rfl ?_
      refine ev_sipush (v := (nI 1333)) dX7_readPage_177 (by decide) ?_
      refine ev_iadd dX7_readPage_180 ?_
      refine ev_iload dX7_readPage_181 rfl ?_
      refine ev_iconst (v := (nI 1)) dX7_readPage_183 (by decide) ?_
      refine ev_iadd dX7_readPage_184 ?_
      refine ev_iastE _ dX7_readPage_185 (by first | with_reducible rfl | with_reducible exact nI_add _ _ | with_reducible exact ix3 _ _ _ | with_reducible exact ix_k _ _ _ | with_reducible exact ix_xk _ _ _ _) (by first | assumption | rfl) ⟨by omega, by decide⟩ ?_
      exact ev_vretE dX7_readPage_186 rfl rfl (by first | (rw [lgM, if_neg z8]; done) | (rw [lgM, if_pos z8]; done))
  case hs0 =>
    intro i hi ih
    have e5 : ∀ a, a ≠ 1 → knF x (rf_set G 1 (x + 80 + p) sv) r (decide (G 5 r = nI 1)) l (G 1 (x + 40 + p)) i a = G a := fun a ha => by rw [knF_o ha, gs_q _ _ _ ha]
    have e1 : knF x (rf_set G 1 (x + 80 + p) sv) r (decide (G 5 r = nI 1)) l (G 1 (x + 40 + p)) i 1 (x + p) = nI l := by rw [knF_j hl (by omega) i (by omega), gs_j _ _ (by omega)]; exact hline
    have e2 : knF x (rf_set G 1 (x + 80 + p) sv) r (decide (G 5 r = nI 1)) l (G 1 (x + 40 + p)) i 1 (x + 40 + p) = G 1 (x + 40 + p) := by rw [knF_j hl (by omega) i (by omega), gs_j _ _ (by omega)]
    refine ev_iload dX7_readPage_42 rfl ?_
    refine ev_aload_n dX7_readPage_44 rfl ?_
    refine ev_getR dX7_readPage_45 fX7_29 (by first | assumption | rfl) (by rfl) ?_
    refine ev_iconst (v := (nI 1)) dX7_readPage_48 (by decide) ?_
    refine ev_ialdE _ dX7_readPage_49 (by first | with_reducible rfl | with_reducible exact nI_add _ _ | with_reducible exact ix3 _ _ _ | with_reducible exact ix_k _ _ _ | with_reducible exact ix_xk _ _ _ _) (by first | assumption | rfl) ⟨by omega, by decide⟩ ?_
    refine ev_icmp_ge 101 dX7_readPage_50 (by decide) (fun hc50 => False.elim (lp_s (by rw [knF_o (by decide), gs_q _ _ _ (by decide)]; exact hr) (by omega) hi hc50)) (fun hc50 => ?_)
    refine ev_iload dX7_readPage_53 rfl ?_
    refine ev_iload_n dX7_readPage_55 rfl ?_
    refine ev_icmp_eq 69 dX7_readPage_56 (by decide) (fun hc56 => ?_) (fun hc56 => ?_)
    · have z9 : i = r := (nI_eq (by omega) (by omega)).mp hc56
      refine ev_aload_n dX7_readPage_69 rfl ?_
      refine ev_iload_n dX7_readPage_70 rfl ?_
      refine ev_iload dX7_readPage_71 rfl ?_
      refine ev_aload_n dX7_readPage_73 rfl ?_
      refine ev_getR dX7_readPage_74 fX7_7 (by first | assumption | rfl) (by rfl) ?_
      refine ev_iload_n dX7_readPage_77 rfl ?_
      refine ev_iload_n dX7_readPage_78 rfl ?_
      refine ev_iadd dX7_readPage_79 ?_
      refine ev_ialdE _ dX7_readPage_80 (by first | with_reducible rfl | with_reducible exact nI_add _ _ | with_reducible exact ix3 _ _ _ | with_reducible exact ix_k _ _ _ | with_reducible exact ix_xk _ _ _ _) (by first | assumption | rfl) ⟨by omega, by decide⟩ ?_
      refine ev_aload_n dX7_readPage_81 rfl ?_
      refine ev_getR dX7_readPage_82 fX7_7 (by first | assumption | rfl) (by rfl) ?_
      refine ev_iload_n dX7_readPage_85 rfl ?_
      refine ev_bipush (v := (nI 40)) dX7_readPage_86 (by decide) ?_
      refine ev_iadd dX7_readPage_88 ?_
      refine ev_iload_n dX7_readPage_89 rfl ?_
      refine ev_iadd dX7_readPage_90 ?_
      refine ev_ialdE _ dX7_readPage_91 (by first | with_reducible rfl | with_reducible exact nI_add _ _ | with_reducible exact ix3 _ _ _ | with_reducible exact ix_k _ _ _ | with_reducible exact ix_xk _ _ _ _) (by first | assumption | rfl) ⟨by omega, by decide⟩ ?_
      rw [e1, e2]
      refine ev_cV4v dX7_readPage_92 ceX7_know kX7_183 (rm_le rfl rfl) (Nat.le_of_ble_eq_true rfl) (Nat.le_of_ble_eq_true rfl) (e7_know hx (by omega) hl) (by first | assumption | rfl) ?_
      refine ev_iinc (v := (nI 1)) dX7_readPage_95 rfl (by decide) (by decide) rfl ?_
      refine ev_goto 42 dX7_readPage_98 (by decide) ?_
      exact ev_st ih (by simp [nI_add]) rfl (by first | (simp [knF, z9]; done) | (simp [knF, z9, hc66]; done))
    · have z9 : ¬ i = r := fun z => hc56 (by rw [z])
      refine ev_aload_n dX7_readPage_59 rfl ?_
      refine ev_getR dX7_readPage_60 fX7_23 (by first | assumption | rfl) (by rfl) ?_
      refine ev_iload_n dX7_readPage_63 rfl ?_
      refine ev_ialdE _ dX7_readPage_64 (by first | with_reducible rfl | with_reducible exact nI_add _ _ | with_reducible exact ix3 _ _ _ | with_reducible exact ix_k _ _ _ | with_reducible exact ix_xk _ _ _ _) (by first | assumption | rfl) ⟨by omega, by decide⟩ ?_
      rw [e5 5 (by decide)]
      refine ev_iconst (v := (nI 1)) dX7_readPage_65 (by decide) ?_
      refine ev_icmp_ne 95 dX7_readPage_66 (by decide) (fun hc66 => ?_) (fun hc66 => ?_)
      · refine ev_iinc (v := (nI 1)) dX7_readPage_95 rfl (by decide) (by decide) rfl ?_
        refine ev_goto 42 dX7_readPage_98 (by decide) ?_
        exact ev_st ih (by simp [nI_add]) rfl (by first | (simp [knF, z9]; done) | (simp [knF, z9, hc66]; done))
      · refine ev_aload_n dX7_readPage_69 rfl ?_
        refine ev_iload_n dX7_readPage_70 rfl ?_
        refine ev_iload dX7_readPage_71 rfl ?_
        refine ev_aload_n dX7_readPage_73 rfl ?_
        refine ev_getR dX7_readPage_74 fX7_7 (by first | assumption | rfl) (by rfl) ?_
        refine ev_iload_n dX7_readPage_77 rfl ?_
        refine ev_iload_n dX7_readPage_78 rfl ?_
        refine ev_iadd dX7_readPage_79 ?_
        refine ev_ialdE _ dX7_readPage_80 (by first | with_reducible rfl | with_reducible exact nI_add _ _ | with_reducible exact ix3 _ _ _ | with_reducible exact ix_k _ _ _ | with_reducible exact ix_xk _ _ _ _) (by first | assumption | rfl) ⟨by omega, by decide⟩ ?_
        refine ev_aload_n dX7_readPage_81 rfl ?_
        refine ev_getR dX7_readPage_82 fX7_7 (by first | assumption | rfl) (by rfl) ?_
        refine ev_iload_n dX7_readPage_85 rfl ?_
        refine ev_bipush (v := (nI 40)) dX7_readPage_86 (by decide) ?_
        refine ev_iadd dX7_readPage_88 ?_
        refine ev_iload_n dX7_readPage_89 rfl ?_
        refine ev_iadd dX7_readPage_90 ?_
        refine ev_ialdE _ dX7_readPage_91 (by first | with_reducible rfl | with_reducible exact nI_add _ _ | with_reducible exact ix3 _ _ _ | with_reducible exact ix_k _ _ _ | with_reducible exact ix_xk _ _ _ _) (by first | assumption | rfl) ⟨by omega, by decide⟩ ?_
        rw [e1, e2]
        refine ev_cV4v dX7_readPage_92 ceX7_know kX7_183 (rm_le rfl rfl) (Nat.le_of_ble_eq_true rfl) (Nat.le_of_ble_eq_true rfl) (e7_know hx (by omega) hl) (by first | assumption | rfl) ?_
        refine ev_iinc (v := (nI 1)) dX7_readPage_95 rfl (by decide) (by decide) rfl ?_
        refine ev_goto 42 dX7_readPage_98 (by decide) ?_
        exact ev_st ih (by simp [nI_add]) rfl (by first | (simp [knF, z9]; done) | (simp [knF, z9, hc66]; done))
  refine ev_iconst (v := (nI 0)) dX7_readPage_39 (by decide) ?_
  refine ev_istore dX7_readPage_40 (by decide) rfl ?_
  exact ev_st (key0 0 (Nat.zero_le _)) (rfl) rfl (rfl)
set_option maxRecDepth 20000 in
set_option maxHeartbeats 2000000 in
theorem e7_readPage {G : rf_Mem} {x k : Nat} (hx : x ≤ 4500) (hk : G 1 (x + 1333) = nI k) (hk3 : k ≤ 300) {nr : Nat} (hr : G 7 1 = nI nr) (hnr : nr ≤ 8) {r p l : Nat} (hrr : r < 8) (hp : p < 40) (hl : l < 16) (hline : G 1 (x + p) = nI l) : Ev LayM mX7_readPage 0 (rf_ent 5 [.ref 0, .int (nI x), .int (nI r), .int (nI p)]) [] G none (rdM x k nr G r p l) := by
  refine ev_aload_n dX7_readPage_0 rfl ?_
  refine ev_getR dX7_readPage_1 fX7_7 (by first | assumption | rfl) (by rfl) ?_
  refine ev_iload_n dX7_readPage_4 rfl ?_
  refine ev_bipush (v := (nI 80)) dX7_readPage_5 (by decide) ?_
  refine ev_iadd dX7_readPage_7 ?_
  refine ev_iload_n dX7_readPage_8 rfl ?_
  refine ev_iadd dX7_readPage_9 ?_
  refine ev_aload_n dX7_readPage_10 rfl ?_
  refine ev_getR dX7_readPage_11 fX7_23 (by first | assumption | rfl) (by rfl) ?_
  refine ev_iload_n dX7_readPage_14 rfl ?_
  refine ev_ialdE _ dX7_readPage_15 (by first | with_reducible rfl | with_reducible exact nI_add _ _ | with_reducible exact ix3 _ _ _ | with_reducible exact ix_k _ _ _ | with_reducible exact ix_xk _ _ _ _) (by first | assumption | rfl) ⟨by omega, by decide⟩ ?_
  refine ev_iconst (v := (nI 3)) dX7_readPage_16 (by decide) ?_
  refine ev_icmp_ne 25 dX7_readPage_17 (by decide) (fun hc17 => ?_) (fun hc17 => ?_)
  · refine ev_aload_n dX7_readPage_25 rfl ?_
    refine ev_getR dX7_readPage_26 fX7_7 (by first | assumption | rfl) (by rfl) ?_
    refine ev_iload_n dX7_readPage_29 rfl ?_
    refine ev_bipush (v := (nI 80)) dX7_readPage_30 (by decide) ?_
    refine ev_iadd dX7_readPage_32 ?_
    refine ev_iload_n dX7_readPage_33 rfl ?_
    refine ev_iadd dX7_readPage_34 ?_
    refine ev_ialdE _ dX7_readPage_35 (by first | with_reducible rfl | with_reducible exact nI_add _ _ | with_reducible exact ix3 _ _ _ | with_reducible exact ix_k _ _ _ | with_reducible exact ix_xk _ _ _ _) (by first | assumption | rfl) ⟨by omega, by decide⟩ ?_
    refine ev_iconst (v := (nI 1)) dX7_readPage_36 (by decide) ?_
    refine ev_iadd dX7_readPage_37 ?_
    refine ev_iastE _ dX7_readPage_38 (by first | with_reducible rfl | with_reducible exact nI_add _ _ | with_reducible exact ix3 _ _ _ | with_reducible exact ix_k _ _ _ | with_reducible exact ix_xk _ _ _ _) (by first | assumption | rfl) ⟨by omega, by decide⟩ ?_
    first | rw [rdM, if_neg hc17] | rw [rdM, if_pos hc17]
    exact e7_rdT hx hk hk3 hr hnr hrr hp hl hline _
  · refine ev_bipush (v := (nI 9)) dX7_readPage_20 (by decide) ?_
    refine ev_goto 38 dX7_readPage_22 (by decide) ?_
    refine ev_iastE _ dX7_readPage_38 (by first | with_reducible rfl | with_reducible exact nI_add _ _ | with_reducible exact ix3 _ _ _ | with_reducible exact ix_k _ _ _ | with_reducible exact ix_xk _ _ _ _) (by first | assumption | rfl) ⟨by omega, by decide⟩ ?_
    first | rw [rdM, if_neg hc17] | rw [rdM, if_pos hc17]
    exact e7_rdT hx hk hk3 hr hnr hrr hp hl hline _
set_option maxRecDepth 20000 in
set_option maxHeartbeats 2000000 in
theorem e7_make {G : rf_Mem} {n : Nat} (hn : G 1 1332 = nI n) (hn2 : n < 40) {r l v : Int32} : Ev LayM mX7_make 0 (rf_ent 5 [.ref 0, .int r, .int l, .int v]) [] G (some (.int (nI n))) (mkM n G r l v) := by
  refine ev_aload_n dX7_make_0 rfl ?_
  refine ev_getR dX7_make_1 fX7_7 (by first | assumption | rfl) (by rfl) ?_
  refine ev_sipush (v := (nI 1332)) dX7_make_4 (by decide) ?_
  refine ev_ialdE _ dX7_make_7 (by first | with_reducible rfl | with_reducible exact nI_add _ _ | with_reducible exact ix3 _ _ _ | with_reducible exact ix_k _ _ _ | with_reducible exact ix_xk _ _ _ _) (by first | assumption | rfl) ⟨by omega, by decide⟩ ?_
  refine ev_istore dX7_make_8 (by decide) rfl ?_
  refine ev_aload_n dX7_make_10 rfl ?_
  refine ev_getR dX7_make_11 fX7_7 (by first | assumption | rfl) (by rfl) ?_
  refine ev_iload dX7_make_14 rfl ?_
  refine ev_iload_n dX7_make_16 rfl ?_
  refine ev_iastE (n) dX7_make_17 (hn) (by first | assumption | rfl) ⟨by omega, by decide⟩ ?_
  refine ev_aload_n dX7_make_18 rfl ?_
  refine ev_getR dX7_make_19 fX7_7 (by first | assumption | rfl) (by rfl) ?_
  refine ev_bipush (v := (nI 40)) dX7_make_22 (by decide) ?_
  refine ev_iload dX7_make_24 rfl ?_
  refine ev_iadd dX7_make_26 ?_
  refine ev_aload_n dX7_make_27 rfl ?_
  refine ev_iconst (v := (nI 0)) dX7_make_28 (by decide) ?_
  refine ev_bipush (v := (nI 100)) dX7_make_29 (by decide) ?_
  refine ev_cV2 dX7_make_31 ceX7_draw kX7_199 (rm_le rfl rfl) (Nat.le_of_ble_eq_true rfl) (Nat.le_of_ble_eq_true rfl) (e7_draw (x := 0) (by decide) (by decide)) (by first | assumption | rfl) ?_
  refine ev_aload_n dX7_make_34 rfl ?_
  refine ev_getI dX7_make_35 fX7_32 (by first | assumption | rfl) (by rfl) ?_
  rw [gs_q _ _ _ (show (0 : Nat) ≠ 1 by decide), gs_q _ _ _ (show (0 : Nat) ≠ 1 by decide)]
  refine ev_icmp_ge 48 dX7_make_38 (by decide) (fun hc38 => ?_) (fun hc38 => ?_)
  · refine ev_iload_n dX7_make_48 rfl ?_
    refine ev_iastE (40 + n) dX7_make_49 (by rw [hn, nI_add]) (by first | assumption | rfl) ⟨by omega, by decide⟩ ?_
    refine ev_aload_n dX7_make_50 rfl ?_
    refine ev_getR dX7_make_51 fX7_7 (by first | assumption | rfl) (by rfl) ?_
    refine ev_bipush (v := (nI 80)) dX7_make_54 (by decide) ?_
    refine ev_iload dX7_make_56 rfl ?_
    refine ev_iadd dX7_make_58 ?_
    refine ev_iconst (v := (nI 0)) dX7_make_59 (by decide) ?_
    refine ev_iastE (80 + n) dX7_make_60 (by rw [hn, nI_add]) (by first | assumption | rfl) ⟨by omega, by decide⟩ ?_
    refine ev_aload_n dX7_make_61 rfl ?_
    refine ev_getR dX7_make_62 fX7_7 (by first | assumption | rfl) (by rfl) ?_
    refine ev_bipush (v := (nI 120)) dX7_make_65 (by decide) ?_
    refine ev_iload dX7_make_67 rfl ?_
    refine ev_iadd dX7_make_69 ?_
    refine ev_iload_n dX7_make_70 rfl ?_
    refine ev_iastE (120 + n) dX7_make_71 (by rw [hn, nI_add]) (by first | assumption | rfl) ⟨by omega, by decide⟩ ?_
    refine ev_aload_n dX7_make_72 rfl ?_
    refine ev_getR dX7_make_73 fX7_7 (by first | assumption | rfl) (by rfl) ?_
    refine ev_sipush (v := (nI 1332)) dX7_make_76 (by decide) ?_
    refine ev_iload dX7_make_79 rfl ?_
    refine ev_iconst (v := (nI 1)) dX7_make_81 (by decide) ?_
    refine ev_iadd dX7_make_82 ?_
    refine ev_iastE _ dX7_make_83 (by first | with_reducible rfl | with_reducible exact nI_add _ _ | with_reducible exact ix3 _ _ _ | with_reducible exact ix_k _ _ _ | with_reducible exact ix_xk _ _ _ _) (by first | assumption | rfl) ⟨by omega, by decide⟩ ?_
    refine ev_iload dX7_make_84 rfl ?_
    exact ev_iretE dX7_make_86 rfl rfl (by rw [hn]) (by
      simp only [Nat.zero_add] at hc38 ⊢
      rw [gs_j G l (show 1335 ≠ n by omega)] at hc38 ⊢
      first | (simp only [mkM, if_pos hc38, hn]; done) | (simp only [mkM, if_neg hc38, hn]; done))
  · refine ev_iload dX7_make_41 rfl ?_
    refine ev_iconst (v := (nI 1)) dX7_make_43 (by decide) ?_
    refine ev_iadd dX7_make_44 ?_
    refine ev_goto 49 dX7_make_45 (by decide) ?_
    refine ev_iastE (40 + n) dX7_make_49 (by rw [hn, nI_add]) (by first | assumption | rfl) ⟨by omega, by decide⟩ ?_
    refine ev_aload_n dX7_make_50 rfl ?_
    refine ev_getR dX7_make_51 fX7_7 (by first | assumption | rfl) (by rfl) ?_
    refine ev_bipush (v := (nI 80)) dX7_make_54 (by decide) ?_
    refine ev_iload dX7_make_56 rfl ?_
    refine ev_iadd dX7_make_58 ?_
    refine ev_iconst (v := (nI 0)) dX7_make_59 (by decide) ?_
    refine ev_iastE (80 + n) dX7_make_60 (by rw [hn, nI_add]) (by first | assumption | rfl) ⟨by omega, by decide⟩ ?_
    refine ev_aload_n dX7_make_61 rfl ?_
    refine ev_getR dX7_make_62 fX7_7 (by first | assumption | rfl) (by rfl) ?_
    refine ev_bipush (v := (nI 120)) dX7_make_65 (by decide) ?_
    refine ev_iload dX7_make_67 rfl ?_
    refine ev_iadd dX7_make_69 ?_
    refine ev_iload_n dX7_make_70 rfl ?_
    refine ev_iastE (120 + n) dX7_make_71 (by rw [hn, nI_add]) (by first | assumption | rfl) ⟨by omega, by decide⟩ ?_
    refine ev_aload_n dX7_make_72 rfl ?_
    refine ev_getR dX7_make_73 fX7_7 (by first | assumption | rfl) (by rfl) ?_
    refine ev_sipush (v := (nI 1332)) dX7_make_76 (by decide) ?_
    refine ev_iload dX7_make_79 rfl ?_
    refine ev_iconst (v := (nI 1)) dX7_make_81 (by decide) ?_
    refine ev_iadd dX7_make_82 ?_
    refine ev_iastE _ dX7_make_83 (by first | with_reducible rfl | with_reducible exact nI_add _ _ | with_reducible exact ix3 _ _ _ | with_reducible exact ix_k _ _ _ | with_reducible exact ix_xk _ _ _ _) (by first | assumption | rfl) ⟨by omega, by decide⟩ ?_
    refine ev_iload dX7_make_84 rfl ?_
    exact ev_iretE dX7_make_86 rfl rfl (by rw [hn]) (by
      simp only [Nat.zero_add] at hc38 ⊢
      rw [gs_j G l (show 1335 ≠ n by omega)] at hc38 ⊢
      first | (simp only [mkM, if_pos hc38, hn]; done) | (simp only [mkM, if_neg hc38, hn]; done))
