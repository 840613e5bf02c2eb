/-! opening, copying, making pages, days by draws; the library, requests, choices -/
theorem vn_b {x : Int32} (h : x = 0 ∨ x = 1) : narrow .boolean (.int x) = .int x ∧ fits .boolean (.int x) = true := by
  rcases h with h | h <;> subst h <;> decide
set_option maxRecDepth 20000 in
set_option maxHeartbeats 2000000 in
theorem e_open {q : Nat} {C : rf_Mem} (hq : st_ok q) {nl : Nat} (hl4 : C 8 4 = nI nl) (hnl : nl ≤ 16) : Ev LayC mX5_open 0 (rf_ent 2 [.ref q]) [] C none (opM q nl C) := by
  have hq0 := hq
  obtain ⟨h0, h1, h2, h3, h4, h5, h6, h7, h8, h9, h10, h11, h20⟩ := hq
  have hlq : (rf_set C q 9 (C 8 4)) 8 4 = nI nl := by rw [gs_q _ _ _ (by omega)]; exact hl4
  have key := ev_for (Lay := LayC) (y := mX5_open) (pc := 13) (r := none) (M' := opM q nl C) nl (fun i => [some (.ref q), some (.int (nI i))]) (fun i => opL q (rf_set C q 9 (C 8 4)) i) ?hx ?hs
  case hx =>
    refine ev_iload_n dX5_open_13 rfl ?_
    refine ev_aload_n dX5_open_14 rfl ?_
    refine ev_getR dX5_open_15 fX5_50 (by first | assumption | rfl) (by rfl) ?_
    refine ev_getI dX5_open_18 fX5_60 (by first | assumption | rfl) (by rfl) ?_
    refine ev_icmp_ge 73 dX5_open_21 (by decide) (fun hc21 => ?_) (fun hc21 => False.elim (lp_x (by rw [opL_out (by omega)]; exact hlq) (by omega) hc21))
    refine ev_aload_n dX5_open_73 rfl ?_
    refine ev_getR dX5_open_74 fX5_31 (by first | assumption | rfl) (by rfl) ?_
    refine ev_iconst (v := (-1)) dX5_open_77 (by decide) ?_
    refine ev_cS2v dX5_open_78 ceJ7_fill_53178 kX5_54 (rm_le rfl rfl) (Nat.le_of_ble_eq_true rfl) (Nat.le_of_ble_eq_true rfl) (e_fill h5 (by decide)) ?_
    refine ev_aload_n dX5_open_81 rfl ?_
    refine ev_getR dX5_open_82 fX5_12 (by first | assumption | rfl) (by rfl) ?_
    refine ev_iconst (v := (nI 0)) dX5_open_85 (by decide) ?_
    refine ev_put dX5_open_86 pX5_68 (by first | assumption | rfl) (by rfl) (rfl) (rfl) ?_
    refine ev_aload_n dX5_open_89 rfl ?_
    refine ev_iconst (v := (nI 0)) dX5_open_90 (by decide) ?_
    refine ev_put dX5_open_91 pX5_44 (by first | assumption | rfl) (by rfl) (rfl) (rfl) ?_
    exact ev_vretE dX5_open_94 rfl rfl (rfl)
  case hs =>
    intro i hi ih
    refine ev_iload_n dX5_open_13 rfl ?_
    refine ev_aload_n dX5_open_14 rfl ?_
    refine ev_getR dX5_open_15 fX5_50 (by first | assumption | rfl) (by rfl) ?_
    refine ev_getI dX5_open_18 fX5_60 (by first | assumption | rfl) (by rfl) ?_
    refine ev_icmp_ge 73 dX5_open_21 (by decide) (fun hc21 => False.elim (lp_s (by rw [opL_out (by omega)]; exact hlq) (by omega) hi hc21)) (fun hc21 => ?_)
    refine ev_aload_n dX5_open_24 rfl ?_
    refine ev_getR dX5_open_25 fX5_18 (by first | assumption | rfl) (by rfl) ?_
    refine ev_iload_n dX5_open_28 rfl ?_
    refine ev_iload_n dX5_open_29 rfl ?_
    refine ev_iastE _ dX5_open_30 (rfl) (by first | assumption | rfl) ⟨by omega, by decide⟩ ?_
    refine ev_aload_n dX5_open_31 rfl ?_
    refine ev_getR dX5_open_32 fX5_22 (by first | assumption | rfl) (by rfl) ?_
    refine ev_iload_n dX5_open_35 rfl ?_
    refine ev_iconst (v := (nI 0)) dX5_open_36 (by decide) ?_
    refine ev_iastE _ dX5_open_37 (rfl) (by first | assumption | rfl) ⟨by omega, by decide⟩ ?_
    refine ev_aload_n dX5_open_38 rfl ?_
    refine ev_getR dX5_open_39 fX5_25 (by first | assumption | rfl) (by rfl) ?_
    refine ev_iload_n dX5_open_42 rfl ?_
    refine ev_aload_n dX5_open_43 rfl ?_
    refine ev_getR dX5_open_44 fX5_50 (by first | assumption | rfl) (by rfl) ?_
    refine ev_getR dX5_open_47 fX5_65 (by first | assumption | rfl) (by rfl) ?_
    refine ev_iload_n dX5_open_50 rfl ?_
    refine ev_ialdE _ dX5_open_51 (rfl) (by first | assumption | rfl) ⟨by omega, by decide⟩ ?_
    rw [gs_q _ _ _ (show 10 ≠ q + 2 by omega), gs_q _ _ _ (show 10 ≠ q + 1 by omega), opL_out (a := 10) (by omega), gs_q _ _ _ (show 10 ≠ q by omega)]
    refine ev_iastE _ dX5_open_52 (rfl) (by first | assumption | rfl) ⟨by omega, by decide⟩ ?_
    refine ev_aload_n dX5_open_53 rfl ?_
    refine ev_getR dX5_open_54 fX5_28 (by first | assumption | rfl) (by rfl) ?_
    refine ev_iload_n dX5_open_57 rfl ?_
    refine ev_iconst (v := (-1)) dX5_open_58 (by decide) ?_
    refine ev_iastE _ dX5_open_59 (rfl) (by first | assumption | rfl) ⟨by omega, by decide⟩ ?_
    refine ev_aload_n dX5_open_60 rfl ?_
    refine ev_getR dX5_open_61 fX5_37 (by first | assumption | rfl) (by rfl) ?_
    refine ev_iload_n dX5_open_64 rfl ?_
    refine ev_iconst (v := (nI 0)) dX5_open_65 (by decide) ?_
    refine ev_iastE _ dX5_open_66 (rfl) (by first | assumption | rfl) ⟨by omega, by decide⟩ ?_
    refine ev_iinc (v := (nI 1)) dX5_open_67 rfl (by decide) (by decide) rfl ?_
    refine ev_goto 13 dX5_open_70 (by decide) ?_
    exact ev_st ih (by simp [nI_add]) rfl (by rw [opL, gs_q _ _ _ (show 10 ≠ q by omega)])
  refine ev_aload_n dX5_open_0 rfl ?_
  refine ev_aload_n dX5_open_1 rfl ?_
  refine ev_getR dX5_open_2 fX5_50 (by first | assumption | rfl) (by rfl) ?_
  refine ev_getI dX5_open_5 fX5_60 (by first | assumption | rfl) (by rfl) ?_
  refine ev_put dX5_open_8 pX5_40 (by first | assumption | rfl) (by rfl) (rfl) (rfl) ?_
  refine ev_iconst (v := (nI 0)) dX5_open_11 (by decide) ?_
  refine ev_istore_k 1 dX5_open_12 rfl (by decide) rfl ?_
  exact ev_st (key 0 (Nat.zero_le _)) rfl rfl rfl
set_option maxRecDepth 20000 in
set_option maxHeartbeats 2000000 in
theorem e_copyBooks {q z : Nat} {C : rf_Mem} (hq : st_ok q) (hz : st_ok z) : Ev LayC mX5_copyBooks 0 (rf_ent 2 [.ref q, .ref z]) [] C none (cpB q z C) := by
  have hq0 := hq
  obtain ⟨h0, h1, h2, h3, h4, h5, h6, h7, h8, h9, h10, h11, h20⟩ := hq
  have hz0 := hz
  obtain ⟨g0, g1, g2, g3, g4, g5, g6, g7, g8, g9, g10, g11, g20⟩ := hz
  refine ev_aload_n dX5_copyBooks_0 rfl ?_
  refine ev_getR dX5_copyBooks_1 fX5_18 (by first | assumption | rfl) (by rfl) ?_
  refine ev_iconst (v := (nI 0)) dX5_copyBooks_4 (by decide) ?_
  refine ev_aload_n dX5_copyBooks_5 rfl ?_
  refine ev_getR dX5_copyBooks_6 fX5_18 (by first | assumption | rfl) (by rfl) ?_
  refine ev_iconst (v := (nI 0)) dX5_copyBooks_9 (by decide) ?_
  refine ev_bipush (v := (nI 40)) dX5_copyBooks_10 (by decide) ?_
  refine ev_copy dX5_copyBooks_12 kX5_75 (by first | assumption | rfl) (by first | assumption | rfl) (by decide) (by decide) (by decide) (by decide) (by decide) (Nat.le_of_ble_eq_true rfl) (by decide) ?_
  refine ev_aload_n dX5_copyBooks_15 rfl ?_
  refine ev_getR dX5_copyBooks_16 fX5_22 (by first | assumption | rfl) (by rfl) ?_
  refine ev_iconst (v := (nI 0)) dX5_copyBooks_19 (by decide) ?_
  refine ev_aload_n dX5_copyBooks_20 rfl ?_
  refine ev_getR dX5_copyBooks_21 fX5_22 (by first | assumption | rfl) (by rfl) ?_
  refine ev_iconst (v := (nI 0)) dX5_copyBooks_24 (by decide) ?_
  refine ev_bipush (v := (nI 40)) dX5_copyBooks_25 (by decide) ?_
  refine ev_copy dX5_copyBooks_27 kX5_75 (by first | assumption | rfl) (by first | assumption | rfl) (by decide) (by decide) (by decide) (by decide) (by decide) (Nat.le_of_ble_eq_true rfl) (by decide) ?_
  refine ev_aload_n dX5_copyBooks_30 rfl ?_
  refine ev_getR dX5_copyBooks_31 fX5_25 (by first | assumption | rfl) (by rfl) ?_
  refine ev_iconst (v := (nI 0)) dX5_copyBooks_34 (by decide) ?_
  refine ev_aload_n dX5_copyBooks_35 rfl ?_
  refine ev_getR dX5_copyBooks_36 fX5_25 (by first | assumption | rfl) (by rfl) ?_
  refine ev_iconst (v := (nI 0)) dX5_copyBooks_39 (by decide) ?_
  refine ev_bipush (v := (nI 40)) dX5_copyBooks_40 (by decide) ?_
  refine ev_copy dX5_copyBooks_42 kX5_75 (by first | assumption | rfl) (by first | assumption | rfl) (by decide) (by decide) (by decide) (by decide) (by decide) (Nat.le_of_ble_eq_true rfl) (by decide) ?_
  refine ev_aload_n dX5_copyBooks_45 rfl ?_
  refine ev_getR dX5_copyBooks_46 fX5_28 (by first | assumption | rfl) (by rfl) ?_
  refine ev_iconst (v := (nI 0)) dX5_copyBooks_49 (by decide) ?_
  refine ev_aload_n dX5_copyBooks_50 rfl ?_
  refine ev_getR dX5_copyBooks_51 fX5_28 (by first | assumption | rfl) (by rfl) ?_
  refine ev_iconst (v := (nI 0)) dX5_copyBooks_54 (by decide) ?_
  refine ev_bipush (v := (nI 40)) dX5_copyBooks_55 (by decide) ?_
  refine ev_copy dX5_copyBooks_57 kX5_75 (by first | assumption | rfl) (by first | assumption | rfl) (by decide) (by decide) (by decide) (by decide) (by decide) (Nat.le_of_ble_eq_true rfl) (by decide) ?_
  refine ev_aload_n dX5_copyBooks_60 rfl ?_
  refine ev_getR dX5_copyBooks_61 fX5_31 (by first | assumption | rfl) (by rfl) ?_
  refine ev_iconst (v := (nI 0)) dX5_copyBooks_64 (by decide) ?_
  refine ev_aload_n dX5_copyBooks_65 rfl ?_
  refine ev_getR dX5_copyBooks_66 fX5_31 (by first | assumption | rfl) (by rfl) ?_
  refine ev_iconst (v := (nI 0)) dX5_copyBooks_69 (by decide) ?_
  refine ev_sipush (v := (nI 128)) dX5_copyBooks_70 (by decide) ?_
  refine ev_copy dX5_copyBooks_73 kX5_75 (by first | assumption | rfl) (by first | assumption | rfl) (by decide) (by decide) (by decide) (by decide) (by decide) (Nat.le_of_ble_eq_true rfl) (by decide) ?_
  refine ev_aload_n dX5_copyBooks_76 rfl ?_
  refine ev_getR dX5_copyBooks_77 fX5_34 (by first | assumption | rfl) (by rfl) ?_
  refine ev_iconst (v := (nI 0)) dX5_copyBooks_80 (by decide) ?_
  refine ev_aload_n dX5_copyBooks_81 rfl ?_
  refine ev_getR dX5_copyBooks_82 fX5_34 (by first | assumption | rfl) (by rfl) ?_
  refine ev_iconst (v := (nI 0)) dX5_copyBooks_85 (by decide) ?_
  refine ev_sipush (v := (nI 128)) dX5_copyBooks_86 (by decide) ?_
  refine ev_copy dX5_copyBooks_89 kX5_75 (by first | assumption | rfl) (by first | assumption | rfl) (by decide) (by decide) (by decide) (by decide) (by decide) (Nat.le_of_ble_eq_true rfl) (by decide) ?_
  refine ev_aload_n dX5_copyBooks_92 rfl ?_
  refine ev_aload_n dX5_copyBooks_93 rfl ?_
  refine ev_getI dX5_copyBooks_94 fX5_40 (by first | assumption | rfl) (by rfl) ?_
  refine ev_put dX5_copyBooks_97 pX5_40 (by first | assumption | rfl) (by rfl) (rfl) (rfl) ?_
  refine ev_aload_n dX5_copyBooks_100 rfl ?_
  refine ev_aload_n dX5_copyBooks_101 rfl ?_
  refine ev_getI dX5_copyBooks_102 fX5_44 (by first | assumption | rfl) (by rfl) ?_
  refine ev_put dX5_copyBooks_105 pX5_44 (by first | assumption | rfl) (by rfl) (rfl) (rfl) ?_
  refine ev_aload_n dX5_copyBooks_108 rfl ?_
  refine ev_aload_n dX5_copyBooks_109 rfl ?_
  refine ev_getI dX5_copyBooks_110 fX5_47 (by first | assumption | rfl) (by rfl) ?_
  refine ev_put dX5_copyBooks_113 pX5_47 (by first | assumption | rfl) (by rfl) (rfl) (rfl) ?_
  exact ev_vretE dX5_copyBooks_116 rfl rfl (rfl)
set_option maxRecDepth 20000 in
set_option maxHeartbeats 2000000 in
theorem e_logCopy {q z : Nat} {C : rf_Mem} (hq : st_ok q) (hz : st_ok z) : Ev LayC mX2_copyFrom 0 (rf_ent 2 [.ref (q + 8), .ref (z + 8)]) [] C none (cpG q z C) := by
  have hq0 := hq
  obtain ⟨h0, h1, h2, h3, h4, h5, h6, h7, h8, h9, h10, h11, h20⟩ := hq
  have hz0 := hz
  obtain ⟨g0, g1, g2, g3, g4, g5, g6, g7, g8, g9, g10, g11, g20⟩ := hz
  refine ev_aload_n dX2_copyFrom_0 rfl ?_
  refine ev_getR dX2_copyFrom_1 fX2_9 (by first | assumption | rfl) (by rfl) ?_
  refine ev_iconst (v := (nI 0)) dX2_copyFrom_4 (by decide) ?_
  refine ev_aload_n dX2_copyFrom_5 rfl ?_
  refine ev_getR dX2_copyFrom_6 fX2_9 (by first | assumption | rfl) (by rfl) ?_
  refine ev_iconst (v := (nI 0)) dX2_copyFrom_9 (by decide) ?_
  refine ev_sipush (v := (nI 300)) dX2_copyFrom_10 (by decide) ?_
  refine ev_copy dX2_copyFrom_13 kX2_25 (by first | assumption | rfl) (by first | assumption | rfl) (by decide) (by decide) (by decide) (by decide) (by decide) (Nat.le_of_ble_eq_true rfl) (by decide) ?_
  refine ev_aload_n dX2_copyFrom_16 rfl ?_
  refine ev_getR dX2_copyFrom_17 fX2_15 (by first | assumption | rfl) (by rfl) ?_
  refine ev_iconst (v := (nI 0)) dX2_copyFrom_20 (by decide) ?_
  refine ev_aload_n dX2_copyFrom_21 rfl ?_
  refine ev_getR dX2_copyFrom_22 fX2_15 (by first | assumption | rfl) (by rfl) ?_
  refine ev_iconst (v := (nI 0)) dX2_copyFrom_25 (by decide) ?_
  refine ev_sipush (v := (nI 300)) dX2_copyFrom_26 (by decide) ?_
  refine ev_copy dX2_copyFrom_29 kX2_25 (by first | assumption | rfl) (by first | assumption | rfl) (by decide) (by decide) (by decide) (by decide) (by decide) (Nat.le_of_ble_eq_true rfl) (by decide) ?_
  refine ev_aload_n dX2_copyFrom_32 rfl ?_
  refine ev_getR dX2_copyFrom_33 fX2_18 (by first | assumption | rfl) (by rfl) ?_
  refine ev_iconst (v := (nI 0)) dX2_copyFrom_36 (by decide) ?_
  refine ev_aload_n dX2_copyFrom_37 rfl ?_
  refine ev_getR dX2_copyFrom_38 fX2_18 (by first | assumption | rfl) (by rfl) ?_
  refine ev_iconst (v := (nI 0)) dX2_copyFrom_41 (by decide) ?_
  refine ev_sipush (v := (nI 300)) dX2_copyFrom_42 (by decide) ?_
  refine ev_copy dX2_copyFrom_45 kX2_25 (by first | assumption | rfl) (by first | assumption | rfl) (by decide) (by decide) (by decide) (by decide) (by decide) (Nat.le_of_ble_eq_true rfl) (by decide) ?_
  refine ev_aload_n dX2_copyFrom_48 rfl ?_
  refine ev_aload_n dX2_copyFrom_49 rfl ?_
  refine ev_getI dX2_copyFrom_50 fX2_21 (by first | assumption | rfl) (by rfl) ?_
  refine ev_put dX2_copyFrom_53 pX2_21 (by first | assumption | rfl) (by rfl) (rfl) (rfl) ?_
  exact ev_vretE dX2_copyFrom_56 rfl rfl (rfl)
set_option maxRecDepth 20000 in
set_option maxHeartbeats 2000000 in
theorem e_stCopy {q z : Nat} {C : rf_Mem} (hq : st_ok q) (hz : st_ok z) : Ev LayC mX5_copyFrom 0 (rf_ent 2 [.ref q, .ref z]) [] C none (cpS q z C) := by
  have hq0 := hq
  obtain ⟨h0, h1, h2, h3, h4, h5, h6, h7, h8, h9, h10, h11, h20⟩ := hq
  have hz0 := hz
  obtain ⟨g0, g1, g2, g3, g4, g5, g6, g7, g8, g9, g10, g11, g20⟩ := hz
  refine ev_aload_n dX5_copyFrom_0 rfl ?_
  refine ev_aload_n dX5_copyFrom_1 rfl ?_
  refine ev_cV1v dX5_copyFrom_2 ceX5_copyBooks kX5_71 (rm_le rfl rfl) (Nat.le_of_ble_eq_true rfl) (Nat.le_of_ble_eq_true rfl) (e_copyBooks hq0 hz0) (by first | assumption | rfl) ?_
  refine ev_aload_n dX5_copyFrom_5 rfl ?_
  refine ev_getR dX5_copyFrom_6 fX5_37 (by first | assumption | rfl) (by rfl) ?_
  refine ev_iconst (v := (nI 0)) dX5_copyFrom_9 (by decide) ?_
  refine ev_aload_n dX5_copyFrom_10 rfl ?_
  refine ev_getR dX5_copyFrom_11 fX5_37 (by first | assumption | rfl) (by rfl) ?_
  refine ev_iconst (v := (nI 0)) dX5_copyFrom_14 (by decide) ?_
  refine ev_bipush (v := (nI 16)) dX5_copyFrom_15 (by decide) ?_
  refine ev_copy dX5_copyFrom_17 kX5_75 (by first | assumption | rfl) (by first | assumption | rfl) (by decide) (by decide) (by decide) (by decide) (by decide) (Nat.le_of_ble_eq_true rfl) (by decide) ?_
  refine ev_aload_n dX5_copyFrom_20 rfl ?_
  refine ev_getR dX5_copyFrom_21 fX5_12 (by first | assumption | rfl) (by rfl) ?_
  refine ev_aload_n dX5_copyFrom_24 rfl ?_
  refine ev_getR dX5_copyFrom_25 fX5_12 (by first | assumption | rfl) (by rfl) ?_
  refine ev_cV1v dX5_copyFrom_28 ceX2_copyFrom kX5_81 (rm_le rfl rfl) (Nat.le_of_ble_eq_true rfl) (Nat.le_of_ble_eq_true rfl) (e_logCopy hq0 hz0) (by first | assumption | rfl) ?_
  exact ev_vretE dX5_copyFrom_31 rfl rfl (rfl)
def adM (q n : Nat) (C : rf_Mem) (l v w : Int32) : rf_Mem :=
  let M1 := rf_set (rf_set C (q + 1) n l) q 11 (sd (C q 11))
  let M2 := rf_set M1 (q + 2) n (if C 8 6 ≤ dv (sd (C q 11)) (nI 100) then v else nI n + nI 1)
  rf_set (rf_set (rf_set M2 (q + 3) n (nI 0)) (q + 4) n w) q 9 (nI n + nI 1)
set_option maxRecDepth 20000 in
set_option maxHeartbeats 2000000 in
theorem e_addPage {q n : Nat} {C : rf_Mem} (hq : st_ok q) (hn : C q 9 = nI n) (hn2 : n ≤ 40) (hfull : n < 40) {l v w : Int32} : Ev LayC mX5_addPage 0 (rf_ent 5 [.ref q, .int l, .int v, .int w]) [] C (some (.int (nI n))) (adM q n C l v w) := by
  have hq0 := hq
  obtain ⟨h0, h1, h2, h3, h4, h5, h6, h7, h8, h9, h10, h11, h20⟩ := hq
  refine ev_aload_n dX5_addPage_0 rfl ?_
  refine ev_cV0 dX5_addPage_1 ceX5_isFull kX5_112 (rm_le rfl rfl) (Nat.le_of_ble_eq_true rfl) (Nat.le_of_ble_eq_true rfl) (e_isFull hq0) (by first | assumption | rfl) ?_
  refine ev_if_eq 10 dX5_addPage_4 (by decide) (fun hc4 => ?_) (fun hc4 => False.elim (by rw [b2i_n0, hn] at hc4; simp [nI_lt hfull] at hc4))
  refine ev_aload_n dX5_addPage_10 rfl ?_
  refine ev_getI dX5_addPage_11 fX5_40 (by first | assumption | rfl) (by rfl) ?_
  refine ev_istore dX5_addPage_14 (by decide) rfl ?_
  refine ev_aload_n dX5_addPage_16 rfl ?_
  refine ev_getR dX5_addPage_17 fX5_18 (by first | assumption | rfl) (by rfl) ?_
  refine ev_iload dX5_addPage_20 rfl ?_
  refine ev_iload_n dX5_addPage_22 rfl ?_
  refine ev_iastE (n) dX5_addPage_23 (hn) (by first | assumption | rfl) ⟨hfull, by decide⟩ ?_
  refine ev_aload_n dX5_addPage_24 rfl ?_
  refine ev_getR dX5_addPage_25 fX5_22 (by first | assumption | rfl) (by rfl) ?_
  refine ev_iload dX5_addPage_28 rfl ?_
  refine ev_aload_n dX5_addPage_30 rfl ?_
  refine ev_bipush (v := (nI 100)) dX5_addPage_31 (by decide) ?_
  refine ev_cV1 dX5_addPage_33 ceX5_draw kX5_117 (rm_le rfl rfl) (Nat.le_of_ble_eq_true rfl) (Nat.le_of_ble_eq_true rfl) (e_draw hq0) (by first | assumption | rfl) ?_
  refine ev_aload_n dX5_addPage_36 rfl ?_
  refine ev_getR dX5_addPage_37 fX5_50 (by first | assumption | rfl) (by rfl) ?_
  refine ev_getI dX5_addPage_40 fX5_121 (by first | assumption | rfl) (by rfl) ?_
  rw [gs_q _ _ _ (show 8 ≠ q by omega), gs_q _ _ _ (show 8 ≠ q + 1 by omega), gs_q _ _ _ (show q ≠ q + 1 by omega), if_neg (show ¬ nI 100 ≤ 0 by decide)]
  refine ev_icmp_ge 53 dX5_addPage_43 (by decide) (fun hc43 => ?_) (fun hc43 => ?_)
  · refine ev_iload_n dX5_addPage_53 rfl ?_
    refine ev_iastE (n) dX5_addPage_54 (hn) (by first | assumption | rfl) ⟨hfull, by decide⟩ ?_
    refine ev_aload_n dX5_addPage_55 rfl ?_
    refine ev_getR dX5_addPage_56 fX5_25 (by first | assumption | rfl) (by rfl) ?_
    refine ev_iload dX5_addPage_59 rfl ?_
    refine ev_iconst (v := (nI 0)) dX5_addPage_61 (by decide) ?_
    refine ev_iastE (n) dX5_addPage_62 (hn) (by first | assumption | rfl) ⟨hfull, by decide⟩ ?_
    refine ev_aload_n dX5_addPage_63 rfl ?_
    refine ev_getR dX5_addPage_64 fX5_28 (by first | assumption | rfl) (by rfl) ?_
    refine ev_iload dX5_addPage_67 rfl ?_
    refine ev_iload_n dX5_addPage_69 rfl ?_
    refine ev_iastE (n) dX5_addPage_70 (hn) (by first | assumption | rfl) ⟨hfull, by decide⟩ ?_
    refine ev_aload_n dX5_addPage_71 rfl ?_
    refine ev_dup dX5_addPage_72 rfl ?_
    refine ev_getI dX5_addPage_73 fX5_40 (by first | assumption | rfl) (by rfl) ?_
    refine ev_iconst (v := (nI 1)) dX5_addPage_76 (by decide) ?_
    refine ev_iadd dX5_addPage_77 ?_
    refine ev_put dX5_addPage_78 pX5_40 (by first | assumption | rfl) (by rfl) (rfl) (rfl) ?_
    refine ev_iload dX5_addPage_81 rfl ?_
    exact ev_iretE dX5_addPage_83 rfl rfl (by rw [hn]) (by first | (simp [adM, rf_set, rf_row, upd, hn, hc43]; done) | (simp [adM, rf_set, rf_row, upd, hn, if_neg hc43]; done))
  · refine ev_iload dX5_addPage_46 rfl ?_
    refine ev_iconst (v := (nI 1)) dX5_addPage_48 (by decide) ?_
    refine ev_iadd dX5_addPage_49 ?_
    refine ev_goto 54 dX5_addPage_50 (by decide) ?_
    refine ev_iastE (n) dX5_addPage_54 (hn) (by first | assumption | rfl) ⟨hfull, by decide⟩ ?_
    refine ev_aload_n dX5_addPage_55 rfl ?_
    refine ev_getR dX5_addPage_56 fX5_25 (by first | assumption | rfl) (by rfl) ?_
    refine ev_iload dX5_addPage_59 rfl ?_
    refine ev_iconst (v := (nI 0)) dX5_addPage_61 (by decide) ?_
    refine ev_iastE (n) dX5_addPage_62 (hn) (by first | assumption | rfl) ⟨hfull, by decide⟩ ?_
    refine ev_aload_n dX5_addPage_63 rfl ?_
    refine ev_getR dX5_addPage_64 fX5_28 (by first | assumption | rfl) (by rfl) ?_
    refine ev_iload dX5_addPage_67 rfl ?_
    refine ev_iload_n dX5_addPage_69 rfl ?_
    refine ev_iastE (n) dX5_addPage_70 (hn) (by first | assumption | rfl) ⟨hfull, by decide⟩ ?_
    refine ev_aload_n dX5_addPage_71 rfl ?_
    refine ev_dup dX5_addPage_72 rfl ?_
    refine ev_getI dX5_addPage_73 fX5_40 (by first | assumption | rfl) (by rfl) ?_
    refine ev_iconst (v := (nI 1)) dX5_addPage_76 (by decide) ?_
    refine ev_iadd dX5_addPage_77 ?_
    refine ev_put dX5_addPage_78 pX5_40 (by first | assumption | rfl) (by rfl) (rfl) (rfl) ?_
    refine ev_iload dX5_addPage_81 rfl ?_
    exact ev_iretE dX5_addPage_83 rfl rfl (by rw [hn]) (by first | (simp [adM, rf_set, rf_row, upd, hn, hc43]; done) | (simp [adM, rf_set, rf_row, upd, hn, if_neg hc43]; done))
set_option maxRecDepth 20000 in
set_option maxHeartbeats 2000000 in
theorem e_addFull {q n : Nat} {C : rf_Mem} (hq : st_ok q) (hn : C q 9 = nI n) (hn2 : n ≤ 40) (hfull : n = 40) {l v w : Int32} : Ev LayC mX5_addPage 0 (rf_ent 5 [.ref q, .int l, .int v, .int w]) [] C (some (.int (-1000000004))) C := by
  have hq0 := hq
  obtain ⟨h0, h1, h2, h3, h4, h5, h6, h7, h8, h9, h10, h11, h20⟩ := hq
  refine ev_aload_n dX5_addPage_0 rfl ?_
  refine ev_cV0 dX5_addPage_1 ceX5_isFull kX5_112 (rm_le rfl rfl) (Nat.le_of_ble_eq_true rfl) (Nat.le_of_ble_eq_true rfl) (e_isFull hq0) (by first | assumption | rfl) ?_
  refine ev_if_eq 10 dX5_addPage_4 (by decide) (fun hc4 => False.elim (by rw [b2i_0, hn, hfull] at hc4; simp at hc4)) (fun hc4 => ?_)
  refine ev_ldc (v := (-1000000004)) dX5_addPage_7 nX5_116 ?_
  exact ev_iretE dX5_addPage_9 rfl rfl (by first | rfl | simp_all) (rfl)
set_option maxRecDepth 20000 in
set_option maxHeartbeats 2000000 in
theorem e_lbClear {C : rf_Mem} : Ev LayC mX1_clear 0 (rf_ent 1 [.ref 3]) [] C none (lbC C) := by
  refine ev_aload_n dX1_clear_0 rfl ?_
  refine ev_iconst (v := (nI 0)) dX1_clear_1 (by decide) ?_
  refine ev_put dX1_clear_2 pX1_24 (by first | assumption | rfl) (by rfl) (rfl) (rfl) ?_
  refine ev_aload_n dX1_clear_5 rfl ?_
  refine ev_iconst (v := (nI 0)) dX1_clear_6 (by decide) ?_
  refine ev_put dX1_clear_7 pX1_28 (by first | assumption | rfl) (by rfl) (rfl) (rfl) ?_
  refine ev_aload_n dX1_clear_10 rfl ?_
  refine ev_bipush (v := (nI 10)) dX1_clear_11 (by decide) ?_
  refine ev_put dX1_clear_13 pX1_31 (by first | assumption | rfl) (by rfl) (rfl) (rfl) ?_
  refine ev_aload_n dX1_clear_16 rfl ?_
  refine ev_iconst (v := (nI 0)) dX1_clear_17 (by decide) ?_
  refine ev_put dX1_clear_18 pX1_34 (by first | assumption | rfl) (by rfl) (rfl) (rfl) ?_
  exact ev_vretE dX1_clear_21 rfl rfl (rfl)
set_option maxRecDepth 20000 in
set_option maxHeartbeats 2000000 in
theorem e_lbCopy {C : rf_Mem} (hb : C 3 7 = 0 ∨ C 3 7 = 1) : Ev LayC mX1_copyFrom 0 (rf_ent 2 [.ref 8, .ref 3]) [] C none (lbP C) := by
  refine ev_aload_n dX1_copyFrom_0 rfl ?_
  refine ev_getR dX1_copyFrom_1 fX1_9 (by first | assumption | rfl) (by rfl) ?_
  refine ev_iconst (v := (nI 0)) dX1_copyFrom_4 (by decide) ?_
  refine ev_aload_n dX1_copyFrom_5 rfl ?_
  refine ev_getR dX1_copyFrom_6 fX1_9 (by first | assumption | rfl) (by rfl) ?_
  refine ev_iconst (v := (nI 0)) dX1_copyFrom_9 (by decide) ?_
  refine ev_bipush (v := (nI 16)) dX1_copyFrom_10 (by decide) ?_
  refine ev_copy dX1_copyFrom_12 kX1_38 (by first | assumption | rfl) (by first | assumption | rfl) (by decide) (by decide) (by decide) (by decide) (by decide) (Nat.le_of_ble_eq_true rfl) (by decide) ?_
  refine ev_aload_n dX1_copyFrom_15 rfl ?_
  refine ev_getR dX1_copyFrom_16 fX1_15 (by first | assumption | rfl) (by rfl) ?_
  refine ev_iconst (v := (nI 0)) dX1_copyFrom_19 (by decide) ?_
  refine ev_aload_n dX1_copyFrom_20 rfl ?_
  refine ev_getR dX1_copyFrom_21 fX1_15 (by first | assumption | rfl) (by rfl) ?_
  refine ev_iconst (v := (nI 0)) dX1_copyFrom_24 (by decide) ?_
  refine ev_bipush (v := (nI 16)) dX1_copyFrom_25 (by decide) ?_
  refine ev_copy dX1_copyFrom_27 kX1_38 (by first | assumption | rfl) (by first | assumption | rfl) (by decide) (by decide) (by decide) (by decide) (by decide) (Nat.le_of_ble_eq_true rfl) (by decide) ?_
  refine ev_aload_n dX1_copyFrom_30 rfl ?_
  refine ev_getR dX1_copyFrom_31 fX1_18 (by first | assumption | rfl) (by rfl) ?_
  refine ev_iconst (v := (nI 0)) dX1_copyFrom_34 (by decide) ?_
  refine ev_aload_n dX1_copyFrom_35 rfl ?_
  refine ev_getR dX1_copyFrom_36 fX1_18 (by first | assumption | rfl) (by rfl) ?_
  refine ev_iconst (v := (nI 0)) dX1_copyFrom_39 (by decide) ?_
  refine ev_bipush (v := (nI 8)) dX1_copyFrom_40 (by decide) ?_
  refine ev_copy dX1_copyFrom_42 kX1_38 (by first | assumption | rfl) (by first | assumption | rfl) (by decide) (by decide) (by decide) (by decide) (by decide) (Nat.le_of_ble_eq_true rfl) (by decide) ?_
  refine ev_aload_n dX1_copyFrom_45 rfl ?_
  refine ev_getR dX1_copyFrom_46 fX1_21 (by first | assumption | rfl) (by rfl) ?_
  refine ev_iconst (v := (nI 0)) dX1_copyFrom_49 (by decide) ?_
  refine ev_aload_n dX1_copyFrom_50 rfl ?_
  refine ev_getR dX1_copyFrom_51 fX1_21 (by first | assumption | rfl) (by rfl) ?_
  refine ev_iconst (v := (nI 0)) dX1_copyFrom_54 (by decide) ?_
  refine ev_bipush (v := (nI 8)) dX1_copyFrom_55 (by decide) ?_
  refine ev_copy dX1_copyFrom_57 kX1_38 (by first | assumption | rfl) (by first | assumption | rfl) (by decide) (by decide) (by decide) (by decide) (by decide) (Nat.le_of_ble_eq_true rfl) (by decide) ?_
  refine ev_aload_n dX1_copyFrom_60 rfl ?_
  refine ev_aload_n dX1_copyFrom_61 rfl ?_
  refine ev_getI dX1_copyFrom_62 fX1_24 (by first | assumption | rfl) (by rfl) ?_
  refine ev_put dX1_copyFrom_65 pX1_24 (by first | assumption | rfl) (by rfl) (rfl) (rfl) ?_
  refine ev_aload_n dX1_copyFrom_68 rfl ?_
  refine ev_aload_n dX1_copyFrom_69 rfl ?_
  refine ev_getI dX1_copyFrom_70 fX1_28 (by first | assumption | rfl) (by rfl) ?_
  refine ev_put dX1_copyFrom_73 pX1_28 (by first | assumption | rfl) (by rfl) (rfl) (rfl) ?_
  refine ev_aload_n dX1_copyFrom_76 rfl ?_
  refine ev_aload_n dX1_copyFrom_77 rfl ?_
  refine ev_getI dX1_copyFrom_78 fX1_31 (by first | assumption | rfl) (by rfl) ?_
  refine ev_put dX1_copyFrom_81 pX1_31 (by first | assumption | rfl) (by rfl) (rfl) (rfl) ?_
  refine ev_aload_n dX1_copyFrom_84 rfl ?_
  refine ev_aload_n dX1_copyFrom_85 rfl ?_
  refine ev_getI dX1_copyFrom_86 fX1_34 (by first | assumption | rfl) (by rfl) ?_
  refine ev_put dX1_copyFrom_89 pX1_34 (by first | assumption | rfl) (by rfl) ((vn_b hb).1) ((vn_b hb).2) ?_
  exact ev_vretE dX1_copyFrom_92 rfl rfl (rfl)
set_option maxRecDepth 20000 in
set_option maxHeartbeats 2000000 in
theorem e_hasLine {C : rf_Mem} {x : Int32} : Ev LayC mX1_hasLine 0 (rf_ent 2 [.ref 8, .int x]) [] C (some (.int (b2i (!decide (x < 0) && !decide (C 8 4 ≤ x))))) C := by
  refine ev_iload_n dX1_hasLine_0 rfl ?_
  refine ev_if_lt 16 dX1_hasLine_1 (by decide) (fun hc1 => ?_) (fun hc1 => ?_)
  · refine ev_iconst (v := (nI 0)) dX1_hasLine_16 (by decide) ?_
    exact ev_iretE dX1_hasLine_17 rfl rfl (by simp [b2i, *]) (rfl)
  · refine ev_iload_n dX1_hasLine_4 rfl ?_
    refine ev_aload_n dX1_hasLine_5 rfl ?_
    refine ev_getI dX1_hasLine_6 fX1_24 (by first | assumption | rfl) (by rfl) ?_
    refine ev_icmp_ge 16 dX1_hasLine_9 (by decide) (fun hc9 => ?_) (fun hc9 => ?_)
    · refine ev_iconst (v := (nI 0)) dX1_hasLine_16 (by decide) ?_
      exact ev_iretE dX1_hasLine_17 rfl rfl (by simp [b2i, *]) (rfl)
    · refine ev_iconst (v := (nI 1)) dX1_hasLine_12 (by decide) ?_
      refine ev_goto 17 dX1_hasLine_13 (by decide) ?_
      exact ev_iretE dX1_hasLine_17 rfl rfl (by simp [b2i, *]) (rfl)
set_option maxRecDepth 20000 in
set_option maxHeartbeats 2000000 in
theorem e_hasReader {C : rf_Mem} {x : Int32} : Ev LayC mX1_hasReader 0 (rf_ent 2 [.ref 8, .int x]) [] C (some (.int (b2i (!decide (x < 0) && !decide (C 8 5 ≤ x))))) C := by
  refine ev_iload_n dX1_hasReader_0 rfl ?_
  refine ev_if_lt 16 dX1_hasReader_1 (by decide) (fun hc1 => ?_) (fun hc1 => ?_)
  · refine ev_iconst (v := (nI 0)) dX1_hasReader_16 (by decide) ?_
    exact ev_iretE dX1_hasReader_17 rfl rfl (by simp [b2i, *]) (rfl)
  · refine ev_iload_n dX1_hasReader_4 rfl ?_
    refine ev_aload_n dX1_hasReader_5 rfl ?_
    refine ev_getI dX1_hasReader_6 fX1_28 (by first | assumption | rfl) (by rfl) ?_
    refine ev_icmp_ge 16 dX1_hasReader_9 (by decide) (fun hc9 => ?_) (fun hc9 => ?_)
    · refine ev_iconst (v := (nI 0)) dX1_hasReader_16 (by decide) ?_
      exact ev_iretE dX1_hasReader_17 rfl rfl (by simp [b2i, *]) (rfl)
    · refine ev_iconst (v := (nI 1)) dX1_hasReader_12 (by decide) ?_
      refine ev_goto 17 dX1_hasReader_13 (by decide) ?_
      exact ev_iretE dX1_hasReader_17 rfl rfl (by simp [b2i, *]) (rfl)
set_option maxRecDepth 20000 in
set_option maxHeartbeats 2000000 in
theorem e_readersOfKind {C : rf_Mem} {nr : Nat} (hr8 : C 8 5 = nI nr) (hnr : nr ≤ 8) {x : Int32} : Ev LayC mX1_readersOfKind 0 (rf_ent 4 [.ref 8, .int x]) [] C (some (.int (kset (fun r => decide (C 11 r = x)) nr))) C := by
  have key := ev_for (Lay := LayC) (y := mX1_readersOfKind) (pc := 4) (r := (some (.int (kset (fun r => decide (C 11 r = x)) nr)))) (M' := C) (nr) (fun i => [some (.ref 8), some (.int x), some (.int (kset (fun r => decide (C 11 r = x)) i)), some (.int (nI i))]) (fun i => C) ?hx ?hs
  case hx =>
    refine ev_iload_n dX1_readersOfKind_4 rfl ?_
    refine ev_aload_n dX1_readersOfKind_5 rfl ?_
    refine ev_getI dX1_readersOfKind_6 fX1_28 (by first | assumption | rfl) (by rfl) ?_
    refine ev_icmp_ge 34 dX1_readersOfKind_9 (by decide) (fun hc9 => ?_) (fun hc9 => False.elim (lp_x hr8 (by omega) hc9))
    refine ev_iload_n dX1_readersOfKind_34 rfl ?_
    exact ev_iretE dX1_readersOfKind_35 rfl rfl (by first | rfl | simp_all) (rfl)
  case hs =>
    intro i hi ih
    refine ev_iload_n dX1_readersOfKind_4 rfl ?_
    refine ev_aload_n dX1_readersOfKind_5 rfl ?_
    refine ev_getI dX1_readersOfKind_6 fX1_28 (by first | assumption | rfl) (by rfl) ?_
    refine ev_icmp_ge 34 dX1_readersOfKind_9 (by decide) (fun hc9 => False.elim (lp_s hr8 (by omega) hi hc9)) (fun hc9 => ?_)
    refine ev_aload_n dX1_readersOfKind_12 rfl ?_
    refine ev_getR dX1_readersOfKind_13 fX1_18 (by first | assumption | rfl) (by rfl) ?_
    refine ev_iload_n dX1_readersOfKind_16 rfl ?_
    refine ev_ialdE _ dX1_readersOfKind_17 (rfl) (by first | assumption | rfl) ⟨by omega, by decide⟩ ?_
    refine ev_iload_n dX1_readersOfKind_18 rfl ?_
    refine ev_icmp_ne 28 dX1_readersOfKind_19 (by decide) (fun hc19 => ?_) (fun hc19 => ?_)
    · refine ev_iinc (v := (nI 1)) dX1_readersOfKind_28 rfl (by decide) (by decide) rfl ?_
      refine ev_goto 4 dX1_readersOfKind_31 (by decide) ?_
      exact ev_st ih (by simp_all [kset, nI_add]) rfl (rfl)
    · refine ev_iload_n dX1_readersOfKind_22 rfl ?_
      refine ev_iconst (v := (nI 1)) dX1_readersOfKind_23 (by decide) ?_
      refine ev_iload_n dX1_readersOfKind_24 rfl ?_
      refine ev_ishl dX1_readersOfKind_25 ?_
      refine ev_ior dX1_readersOfKind_26 ?_
      refine ev_istore_k 2 dX1_readersOfKind_27 rfl (by decide) rfl ?_
      refine ev_iinc (v := (nI 1)) dX1_readersOfKind_28 rfl (by decide) (by decide) rfl ?_
      refine ev_goto 4 dX1_readersOfKind_31 (by decide) ?_
      exact ev_st ih (by simp_all [kset, nI_add]) rfl (rfl)
  refine ev_iconst (v := (nI 0)) dX1_readersOfKind_0 (by decide) ?_
  refine ev_istore_k 2 dX1_readersOfKind_1 rfl (by decide) rfl ?_
  refine ev_iconst (v := (nI 0)) dX1_readersOfKind_2 (by decide) ?_
  refine ev_istore_k 3 dX1_readersOfKind_3 rfl (by decide) rfl ?_
  exact ev_st (key 0 (Nat.zero_le _)) (rfl) rfl (rfl)
set_option maxRecDepth 20000 in
set_option maxHeartbeats 2000000 in
theorem e_forLine {C : rf_Mem} {nq : Nat} (hc14 : C 14 3 = nI nq) (hnq : nq ≤ 10) {x : Int32} : Ev LayC mX3_forLine 0 (rf_ent 4 [.ref 14, .int x]) [] C (some (.int (kset (fun r => decide (C 16 r = x)) nq))) C := by
  have key := ev_for (Lay := LayC) (y := mX3_forLine) (pc := 4) (r := (some (.int (kset (fun r => decide (C 16 r = x)) nq)))) (M' := C) (nq) (fun i => [some (.ref 14), some (.int x), some (.int (kset (fun r => decide (C 16 r = x)) i)), some (.int (nI i))]) (fun i => C) ?hx ?hs
  case hx =>
    refine ev_iload_n dX3_forLine_4 rfl ?_
    refine ev_aload_n dX3_forLine_5 rfl ?_
    refine ev_getI dX3_forLine_6 fX3_21 (by first | assumption | rfl) (by rfl) ?_
    refine ev_icmp_ge 34 dX3_forLine_9 (by decide) (fun hc9 => ?_) (fun hc9 => False.elim (lp_x hc14 (by omega) hc9))
    refine ev_iload_n dX3_forLine_34 rfl ?_
    exact ev_iretE dX3_forLine_35 rfl rfl (by first | rfl | simp_all) (rfl)
  case hs =>
    intro i hi ih
    refine ev_iload_n dX3_forLine_4 rfl ?_
    refine ev_aload_n dX3_forLine_5 rfl ?_
    refine ev_getI dX3_forLine_6 fX3_21 (by first | assumption | rfl) (by rfl) ?_
    refine ev_icmp_ge 34 dX3_forLine_9 (by decide) (fun hc9 => False.elim (lp_s hc14 (by omega) hi hc9)) (fun hc9 => ?_)
    refine ev_aload_n dX3_forLine_12 rfl ?_
    refine ev_getR dX3_forLine_13 fX3_15 (by first | assumption | rfl) (by rfl) ?_
    refine ev_iload_n dX3_forLine_16 rfl ?_
    refine ev_ialdE _ dX3_forLine_17 (rfl) (by first | assumption | rfl) ⟨by omega, by decide⟩ ?_
    refine ev_iload_n dX3_forLine_18 rfl ?_
    refine ev_icmp_ne 28 dX3_forLine_19 (by decide) (fun hc19 => ?_) (fun hc19 => ?_)
    · refine ev_iinc (v := (nI 1)) dX3_forLine_28 rfl (by decide) (by decide) rfl ?_
      refine ev_goto 4 dX3_forLine_31 (by decide) ?_
      exact ev_st ih (by simp_all [kset, nI_add]) rfl (rfl)
    · refine ev_iload_n dX3_forLine_22 rfl ?_
      refine ev_iconst (v := (nI 1)) dX3_forLine_23 (by decide) ?_
      refine ev_iload_n dX3_forLine_24 rfl ?_
      refine ev_ishl dX3_forLine_25 ?_
      refine ev_ior dX3_forLine_26 ?_
      refine ev_istore_k 2 dX3_forLine_27 rfl (by decide) rfl ?_
      refine ev_iinc (v := (nI 1)) dX3_forLine_28 rfl (by decide) (by decide) rfl ?_
      refine ev_goto 4 dX3_forLine_31 (by decide) ?_
      exact ev_st ih (by simp_all [kset, nI_add]) rfl (rfl)
  refine ev_iconst (v := (nI 0)) dX3_forLine_0 (by decide) ?_
  refine ev_istore_k 2 dX3_forLine_1 rfl (by decide) rfl ?_
  refine ev_iconst (v := (nI 0)) dX3_forLine_2 (by decide) ?_
  refine ev_istore_k 3 dX3_forLine_3 rfl (by decide) rfl ?_
  exact ev_st (key 0 (Nat.zero_le _)) (rfl) rfl (rfl)
set_option maxRecDepth 20000 in
set_option maxHeartbeats 2000000 in
theorem e_chClear {C : rf_Mem} : Ev LayC mX0_clear 0 (rf_ent 1 [.ref 18]) [] C none (rf_set (rf_set (rf_set C 18 0 (nI 0)) 18 1 (nI 0)) 18 2 (nI 0)) := by
  refine ev_aload_n dX0_clear_0 rfl ?_
  refine ev_iconst (v := (nI 0)) dX0_clear_1 (by decide) ?_
  refine ev_put dX0_clear_2 pX0_7 (by first | assumption | rfl) (by rfl) (rfl) (rfl) ?_
  refine ev_aload_n dX0_clear_5 rfl ?_
  refine ev_iconst (v := (nI 0)) dX0_clear_6 (by decide) ?_
  refine ev_put dX0_clear_7 pX0_13 (by first | assumption | rfl) (by rfl) (rfl) (rfl) ?_
  refine ev_aload_n dX0_clear_10 rfl ?_
  refine ev_iconst (v := (nI 0)) dX0_clear_11 (by decide) ?_
  refine ev_put dX0_clear_12 pX0_16 (by first | assumption | rfl) (by rfl) (rfl) (rfl) ?_
  exact ev_vretE dX0_clear_15 rfl rfl (rfl)
set_option maxRecDepth 20000 in
set_option maxHeartbeats 2000000 in
theorem e_has {C : rf_Mem} {s k : Int32} : Ev LayC mX6_has 0 (rf_ent 2 [.int s, .int k]) [] C (some (.int (b2i (decide (((s.toUInt32 >>> (k.toUInt32 &&& Int32.toUInt32 31)).toInt32 &&& nI 1) = nI 1))))) C := by
  refine ev_iload_n dX6_has_0 rfl ?_
  refine ev_iload_n dX6_has_1 rfl ?_
  refine ev_iushr dX6_has_2 ?_
  refine ev_iconst (v := (nI 1)) dX6_has_3 (by decide) ?_
  refine ev_iand dX6_has_4 ?_
  refine ev_iconst (v := (nI 1)) dX6_has_5 (by decide) ?_
  refine ev_icmp_ne 13 dX6_has_6 (by decide) (fun hc6 => ?_) (fun hc6 => ?_)
  · refine ev_iconst (v := (nI 0)) dX6_has_13 (by decide) ?_
    exact ev_iretE dX6_has_14 rfl rfl (by simp [b2i, *]) (rfl)
  · refine ev_iconst (v := (nI 1)) dX6_has_9 (by decide) ?_
    refine ev_goto 14 dX6_has_10 (by decide) ?_
    exact ev_iretE dX6_has_14 rfl rfl (by simp [b2i, *]) (rfl)
set_option maxRecDepth 20000 in
set_option maxHeartbeats 2000000 in
theorem e_isSetOf {C : rf_Mem} {s k : Int32} : Ev LayC mX6_isSetOf 0 (rf_ent 2 [.int s, .int k]) [] C (some (.int (b2i (decide ((s.toUInt32 >>> (k.toUInt32 &&& Int32.toUInt32 31)).toInt32 = 0))))) C := by
  refine ev_iload_n dX6_isSetOf_0 rfl ?_
  refine ev_iload_n dX6_isSetOf_1 rfl ?_
  refine ev_iushr dX6_isSetOf_2 ?_
  refine ev_if_ne 10 dX6_isSetOf_3 (by decide) (fun hc3 => ?_) (fun hc3 => ?_)
  · refine ev_iconst (v := (nI 0)) dX6_isSetOf_10 (by decide) ?_
    exact ev_iretE dX6_isSetOf_11 rfl rfl (by simp [b2i, *]) (rfl)
  · refine ev_iconst (v := (nI 1)) dX6_isSetOf_6 (by decide) ?_
    refine ev_goto 11 dX6_isSetOf_7 (by decide) ?_
    exact ev_iretE dX6_isSetOf_11 rfl rfl (by simp [b2i, *]) (rfl)
