/-! the reference: bounds, the darkest page -/
theorem wd_lt (x : Int32) {a : Int64} {k : Int32} (h : k.toInt64 = a) : x.toInt64 < a ↔ x < k := by rw [← h]; exact fa_wide_lt x k
theorem wd_gt (x : Int32) {a : Int64} {k : Int32} (h : k.toInt64 = a) : a < x.toInt64 ↔ k < x := by rw [← h]; exact fa_wide_lt k x
theorem in_n (x : Int32) {n : Nat} (hn : n < 2 ^ 30) : (!decide (x.toInt64 < 0) && !decide ((nI n - nI 1).toInt64 < x.toInt64)) = (!decide (x < 0) && !decide (nI n ≤ x)) := by
  have h1 : x.toInt64 < 0 ↔ x < 0 := wd_lt x (by decide)
  have h2 : (nI n - nI 1).toInt64 < x.toInt64 ↔ nI n ≤ x := by
    rw [fa_wide_lt, fa_lt, fa_le, pk_sub_toInt hn (by decide), nI_toInt (by omega)]
    omega
  rw [decide_eq_decide.mpr h1, decide_eq_decide.mpr h2]
theorem in_c (x : Int32) {a b : Int64} (k m : Int32) (h : k.toInt64 = a) (h2 : m.toInt64 = b) : (!decide (x.toInt64 < a) && !decide (b < x.toInt64)) = (!decide (x < k) && !decide (m < x)) := by
  rw [decide_eq_decide.mpr (wd_lt x h), decide_eq_decide.mpr (wd_gt x h2)]

set_option maxRecDepth 20000 in
set_option maxHeartbeats 2000000 in
theorem e7_isLine {G : rf_Mem} {nl : Nat} (hl : G 7 0 = nI nl) (hnl : nl ≤ 16) {x : Int32} : Ev LayM mX7_isLine 0 (rf_ent 2 [.ref 0, .int x]) [] G (some (.int (b2i (!decide (x < 0) && !decide (nI nl ≤ x))))) G := by
  refine ev_iload_n dX7_isLine_0 rfl ?_
  refine ev_i2l dX7_isLine_1 ?_
  refine ev_lconst (v := 0) dX7_isLine_2 rfl ?_
  refine ev_aload_n dX7_isLine_3 rfl ?_
  refine ev_getR dX7_isLine_4 fX7_29 (by first | assumption | rfl) (by rfl) ?_
  refine ev_iconst (v := (nI 0)) dX7_isLine_7 (by decide) ?_
  refine ev_ialdE _ dX7_isLine_8 (by first | with_reducible rfl | with_reducible exact nI_add _ _ | with_reducible exact ix3 _ _ _ | with_reducible exact ix_k _ _ _ | with_reducible exact ix_xk _ _ _ _) (by first | assumption | rfl) ⟨by omega, by decide⟩ ?_
  refine ev_iconst (v := (nI 1)) dX7_isLine_9 (by decide) ?_
  refine ev_isub dX7_isLine_10 ?_
  refine ev_i2l dX7_isLine_11 ?_
  rw [hl]
  refine ev_cS3 dX7_isLine_12 ceX7_in kX7_59 (rm_le rfl rfl) (Nat.le_of_ble_eq_true rfl) (Nat.le_of_ble_eq_true rfl) (e7_in) ?_
  exact ev_iretE dX7_isLine_15 rfl (b2i_nar _) (by rw [in_n x (by omega)]) (rfl)
set_option maxRecDepth 20000 in
set_option maxHeartbeats 2000000 in
theorem e7_isReader {G : rf_Mem} {nr : Nat} (hr : G 7 1 = nI nr) (hnr : nr ≤ 8) {x : Int32} : Ev LayM mX7_isReader 0 (rf_ent 2 [.ref 0, .int x]) [] G (some (.int (b2i (!decide (x < 0) && !decide (nI nr ≤ x))))) G := by
  refine ev_iload_n dX7_isReader_0 rfl ?_
  refine ev_i2l dX7_isReader_1 ?_
  refine ev_lconst (v := 0) dX7_isReader_2 rfl ?_
  refine ev_aload_n dX7_isReader_3 rfl ?_
  refine ev_getR dX7_isReader_4 fX7_29 (by first | assumption | rfl) (by rfl) ?_
  refine ev_iconst (v := (nI 1)) dX7_isReader_7 (by decide) ?_
  refine ev_ialdE _ dX7_isReader_8 (by first | with_reducible rfl | with_reducible exact nI_add _ _ | with_reducible exact ix3 _ _ _ | with_reducible exact ix_k _ _ _ | with_reducible exact ix_xk _ _ _ _) (by first | assumption | rfl) ⟨by omega, by decide⟩ ?_
  refine ev_iconst (v := (nI 1)) dX7_isReader_9 (by decide) ?_
  refine ev_isub dX7_isReader_10 ?_
  refine ev_i2l dX7_isReader_11 ?_
  rw [hr]
  refine ev_cS3 dX7_isReader_12 ceX7_in kX7_59 (rm_le rfl rfl) (Nat.le_of_ble_eq_true rfl) (Nat.le_of_ble_eq_true rfl) (e7_in) ?_
  exact ev_iretE dX7_isReader_15 rfl (b2i_nar _) (by rw [in_n x (by omega)]) (rfl)
set_option maxRecDepth 20000 in
set_option maxHeartbeats 2000000 in
theorem e7_isPage {G : rf_Mem} {n : Nat} (hn : G 1 1332 = nI n) (hn2 : n ≤ 40) {x : Int32} : Ev LayM mX7_isPage 0 (rf_ent 2 [.ref 0, .int x]) [] G (some (.int (b2i (!decide (x < 0) && !decide (nI n ≤ x))))) G := by
  refine ev_iload_n dX7_isPage_0 rfl ?_
  refine ev_i2l dX7_isPage_1 ?_
  refine ev_lconst (v := 0) dX7_isPage_2 rfl ?_
  refine ev_aload_n dX7_isPage_3 rfl ?_
  refine ev_getR dX7_isPage_4 fX7_7 (by first | assumption | rfl) (by rfl) ?_
  refine ev_sipush (v := (nI 1332)) dX7_isPage_7 (by decide) ?_
  refine ev_ialdE _ dX7_isPage_10 (by first | with_reducible rfl | with_reducible exact nI_add _ _ | with_reducible exact ix3 _ _ _ | with_reducible exact ix_k _ _ _ | with_reducible exact ix_xk _ _ _ _) (by first | assumption | rfl) ⟨by omega, by decide⟩ ?_
  refine ev_iconst (v := (nI 1)) dX7_isPage_11 (by decide) ?_
  refine ev_isub dX7_isPage_12 ?_
  refine ev_i2l dX7_isPage_13 ?_
  rw [hn]
  refine ev_cS3 dX7_isPage_14 ceX7_in kX7_59 (rm_le rfl rfl) (Nat.le_of_ble_eq_true rfl) (Nat.le_of_ble_eq_true rfl) (e7_in) ?_
  exact ev_iretE dX7_isPage_17 rfl (b2i_nar _) (by rw [in_n x (by omega)]) (rfl)
set_option maxRecDepth 20000 in
set_option maxHeartbeats 2000000 in
theorem e7_palest {G : rf_Mem} {x n : Nat} (hx : x ≤ 4500) (hn : G 1 (x + 1332) = nI n) (hn2 : n ≤ 40) {l : Int32} : Ev LayM mX7_palest 0 (rf_ent 5 [.ref 0, .int (nI x), .int l]) [] G (some (.int (oI (dkst (vLeft (fun p => G 1 (x + p)) (fun p => G 1 (x + 80 + p)) l) (fun p => G 1 (x + 80 + p)) n)))) G := by
  have key := ev_for (Lay := LayM) (y := mX7_palest) (pc := 5) (r := (some (.int (oI (dkst (vLeft (fun p => G 1 (x + p)) (fun p => G 1 (x + 80 + p)) l) (fun p => G 1 (x + 80 + p)) n))))) (M' := G) n (fun i => [some (.ref 0), some (.int (nI x)), some (.int l), some (.int (oI (dkst (vLeft (fun p => G 1 (x + p)) (fun p => G 1 (x + 80 + p)) l) (fun p => G 1 (x + 80 + p)) i))), some (.int (nI i))]) (fun _ => G) ?hx ?hs
  case hx =>
    refine ev_iload dX7_palest_5 rfl ?_
    refine ev_aload_n dX7_palest_7 rfl ?_
    refine ev_getR dX7_palest_8 fX7_7 (by first | assumption | rfl) (by rfl) ?_
    refine ev_iload_n dX7_palest_11 rfl ?_
    refine ev_sipush (v := (nI 1332)) dX7_palest_12 (by decide) ?_
    refine ev_iadd dX7_palest_15 ?_
    refine ev_ialdE _ dX7_palest_16 (by first | with_reducible rfl | with_reducible exact nI_add _ _ | with_reducible exact ix3 _ _ _ | with_reducible exact ix_k _ _ _ | with_reducible exact ix_xk _ _ _ _) (by first | assumption | rfl) ⟨by omega, by decide⟩ ?_
    refine ev_icmp_ge 93 dX7_palest_17 (by decide) (fun hc17 => ?_) (fun hc17 => False.elim (lp_x hn (by omega) hc17))
    refine ev_iload_n dX7_palest_93 rfl ?_
    exact ev_iretE dX7_palest_94 rfl rfl (by first | rfl | simp_all) (rfl)
  case hs =>
    intro i hi ih
    cases hd : dkst (vLeft (fun p => G 1 (x + p)) (fun p => G 1 (x + 80 + p)) l) (fun p => G 1 (x + 80 + p)) i with
    | none =>
      have e1 : oI (none : Option Nat) = -1 := rfl
      rw [e1]
      refine ev_iload dX7_palest_5 rfl ?_
      refine ev_aload_n dX7_palest_7 rfl ?_
      refine ev_getR dX7_palest_8 fX7_7 (by first | assumption | rfl) (by rfl) ?_
      refine ev_iload_n dX7_palest_11 rfl ?_
      refine ev_sipush (v := (nI 1332)) dX7_palest_12 (by decide) ?_
      refine ev_iadd dX7_palest_15 ?_
      refine ev_ialdE _ dX7_palest_16 (by first | with_reducible rfl | with_reducible exact nI_add _ _ | with_reducible exact ix3 _ _ _ | with_reducible exact ix_k _ _ _ | with_reducible exact ix_xk _ _ _ _) (by first | assumption | rfl) ⟨by omega, by decide⟩ ?_
      refine ev_icmp_ge 93 dX7_palest_17 (by decide) (fun hc17 => False.elim (lp_s hn (by omega) hi hc17)) (fun hc17 => ?_)
      refine ev_aload_n dX7_palest_20 rfl ?_
      refine ev_getR dX7_palest_21 fX7_7 (by first | assumption | rfl) (by rfl) ?_
      refine ev_iload_n dX7_palest_24 rfl ?_
      refine ev_iload dX7_palest_25 rfl ?_
      refine ev_iadd dX7_palest_27 ?_
      refine ev_ialdE _ dX7_palest_28 (by first | with_reducible rfl | with_reducible exact nI_add _ _ | with_reducible exact ix3 _ _ _ | with_reducible exact ix_k _ _ _ | with_reducible exact ix_xk _ _ _ _) (by first | assumption | rfl) ⟨by omega, by decide⟩ ?_
      refine ev_iload_n dX7_palest_29 rfl ?_
      refine ev_icmp_ne 85 dX7_palest_30 (by decide) (fun hc30 => ?_) (fun hc30 => ?_)
      · refine ev_iload_n dX7_palest_85 rfl ?_
        refine ev_istore_k 3 dX7_palest_86 rfl (by decide) rfl ?_
        refine ev_iinc (v := (nI 1)) dX7_palest_87 rfl (by decide) (by decide) rfl ?_
        refine ev_goto 5 dX7_palest_90 (by decide) ?_
        exact ev_st ih (by simp [nI_add, dkst, hd, oI, vLeft, *]) rfl rfl
      · refine ev_aload_n dX7_palest_33 rfl ?_
        refine ev_getR dX7_palest_34 fX7_7 (by first | assumption | rfl) (by rfl) ?_
        refine ev_iload_n dX7_palest_37 rfl ?_
        refine ev_bipush (v := (nI 80)) dX7_palest_38 (by decide) ?_
        refine ev_iadd dX7_palest_40 ?_
        refine ev_iload dX7_palest_41 rfl ?_
        refine ev_iadd dX7_palest_43 ?_
        refine ev_ialdE _ dX7_palest_44 (by first | with_reducible rfl | with_reducible exact nI_add _ _ | with_reducible exact ix3 _ _ _ | with_reducible exact ix_k _ _ _ | with_reducible exact ix_xk _ _ _ _) (by first | assumption | rfl) ⟨by omega, by decide⟩ ?_
        refine ev_bipush (v := (nI 9)) dX7_palest_45 (by decide) ?_
        refine ev_icmp_ge 85 dX7_palest_47 (by decide) (fun hc47 => ?_) (fun hc47 => ?_)
        · refine ev_iload_n dX7_palest_85 rfl ?_
          refine ev_istore_k 3 dX7_palest_86 rfl (by decide) rfl ?_
          refine ev_iinc (v := (nI 1)) dX7_palest_87 rfl (by decide) (by decide) rfl ?_
          refine ev_goto 5 dX7_palest_90 (by decide) ?_
          exact ev_st ih (by simp [nI_add, dkst, hd, oI, vLeft, *]) rfl rfl
        · refine ev_iload_n dX7_palest_50 rfl ?_
          refine ev_if_lt 80 dX7_palest_51 (by decide) (fun hc51 => ?_) (fun hc51 => False.elim (hc51 (by decide)))
          refine ev_iload dX7_palest_80 rfl ?_
          refine ev_goto 86 dX7_palest_82 (by decide) ?_
          refine ev_istore_k 3 dX7_palest_86 rfl (by decide) rfl ?_
          refine ev_iinc (v := (nI 1)) dX7_palest_87 rfl (by decide) (by decide) rfl ?_
          refine ev_goto 5 dX7_palest_90 (by decide) ?_
          exact ev_st ih (by simp [nI_add, dkst, hd, oI, vLeft, *]) rfl rfl
    | some b =>
      have hb := (dkst_lt hd).1
      have e1 : oI (some b) = nI b := rfl
      rw [e1]
      refine ev_iload dX7_palest_5 rfl ?_
      refine ev_aload_n dX7_palest_7 rfl ?_
      refine ev_getR dX7_palest_8 fX7_7 (by first | assumption | rfl) (by rfl) ?_
      refine ev_iload_n dX7_palest_11 rfl ?_
      refine ev_sipush (v := (nI 1332)) dX7_palest_12 (by decide) ?_
      refine ev_iadd dX7_palest_15 ?_
      refine ev_ialdE _ dX7_palest_16 (by first | with_reducible rfl | with_reducible exact nI_add _ _ | with_reducible exact ix3 _ _ _ | with_reducible exact ix_k _ _ _ | with_reducible exact ix_xk _ _ _ _) (by first | assumption | rfl) ⟨by omega, by decide⟩ ?_
      refine ev_icmp_ge 93 dX7_palest_17 (by decide) (fun hc17 => False.elim (lp_s hn (by omega) hi hc17)) (fun hc17 => ?_)
      refine ev_aload_n dX7_palest_20 rfl ?_
      refine ev_getR dX7_palest_21 fX7_7 (by first | assumption | rfl) (by rfl) ?_
      refine ev_iload_n dX7_palest_24 rfl ?_
      refine ev_iload dX7_palest_25 rfl ?_
      refine ev_iadd dX7_palest_27 ?_
      refine ev_ialdE _ dX7_palest_28 (by first | with_reducible rfl | with_reducible exact nI_add _ _ | with_reducible exact ix3 _ _ _ | with_reducible exact ix_k _ _ _ | with_reducible exact ix_xk _ _ _ _) (by first | assumption | rfl) ⟨by omega, by decide⟩ ?_
      refine ev_iload_n dX7_palest_29 rfl ?_
      refine ev_icmp_ne 85 dX7_palest_30 (by decide) (fun hc30 => ?_) (fun hc30 => ?_)
      · refine ev_iload_n dX7_palest_85 rfl ?_
        refine ev_istore_k 3 dX7_palest_86 rfl (by decide) rfl ?_
        refine ev_iinc (v := (nI 1)) dX7_palest_87 rfl (by decide) (by decide) rfl ?_
        refine ev_goto 5 dX7_palest_90 (by decide) ?_
        exact ev_st ih (by first | (simp [nI_add, dkst, hd, oI, vLeft, *]; done) | (have z9 := fa_of_nle hc77; simp [nI_add, dkst, hd, oI, vLeft, *]; done) | (have z9 : ¬ G 1 (x + 80 + i) < G 1 (x + 80 + b) := fun z => (fa_of_lt z).2.1 hc77; simp [nI_add, dkst, hd, oI, vLeft, *])) rfl rfl
      · refine ev_aload_n dX7_palest_33 rfl ?_
        refine ev_getR dX7_palest_34 fX7_7 (by first | assumption | rfl) (by rfl) ?_
        refine ev_iload_n dX7_palest_37 rfl ?_
        refine ev_bipush (v := (nI 80)) dX7_palest_38 (by decide) ?_
        refine ev_iadd dX7_palest_40 ?_
        refine ev_iload dX7_palest_41 rfl ?_
        refine ev_iadd dX7_palest_43 ?_
        refine ev_ialdE _ dX7_palest_44 (by first | with_reducible rfl | with_reducible exact nI_add _ _ | with_reducible exact ix3 _ _ _ | with_reducible exact ix_k _ _ _ | with_reducible exact ix_xk _ _ _ _) (by first | assumption | rfl) ⟨by omega, by decide⟩ ?_
        refine ev_bipush (v := (nI 9)) dX7_palest_45 (by decide) ?_
        refine ev_icmp_ge 85 dX7_palest_47 (by decide) (fun hc47 => ?_) (fun hc47 => ?_)
        · refine ev_iload_n dX7_palest_85 rfl ?_
          refine ev_istore_k 3 dX7_palest_86 rfl (by decide) rfl ?_
          refine ev_iinc (v := (nI 1)) dX7_palest_87 rfl (by decide) (by decide) rfl ?_
          refine ev_goto 5 dX7_palest_90 (by decide) ?_
          exact ev_st ih (by first | (simp [nI_add, dkst, hd, oI, vLeft, *]; done) | (have z9 := fa_of_nle hc77; simp [nI_add, dkst, hd, oI, vLeft, *]; done) | (have z9 : ¬ G 1 (x + 80 + i) < G 1 (x + 80 + b) := fun z => (fa_of_lt z).2.1 hc77; simp [nI_add, dkst, hd, oI, vLeft, *])) rfl rfl
        · refine ev_iload_n dX7_palest_50 rfl ?_
          refine ev_if_lt 80 dX7_palest_51 (by decide) (fun hc51 => False.elim (nI_pos (by omega) hc51)) (fun hc51 => ?_)
          refine ev_aload_n dX7_palest_54 rfl ?_
          refine ev_getR dX7_palest_55 fX7_7 (by first | assumption | rfl) (by rfl) ?_
          refine ev_iload_n dX7_palest_58 rfl ?_
          refine ev_bipush (v := (nI 80)) dX7_palest_59 (by decide) ?_
          refine ev_iadd dX7_palest_61 ?_
          refine ev_iload dX7_palest_62 rfl ?_
          refine ev_iadd dX7_palest_64 ?_
          refine ev_ialdE _ dX7_palest_65 (by first | with_reducible rfl | with_reducible exact nI_add _ _ | with_reducible exact ix3 _ _ _ | with_reducible exact ix_k _ _ _ | with_reducible exact ix_xk _ _ _ _) (by first | assumption | rfl) ⟨by omega, by decide⟩ ?_
          refine ev_aload_n dX7_palest_66 rfl ?_
          refine ev_getR dX7_palest_67 fX7_7 (by first | assumption | rfl) (by rfl) ?_
          refine ev_iload_n dX7_palest_70 rfl ?_
          refine ev_bipush (v := (nI 80)) dX7_palest_71 (by decide) ?_
          refine ev_iadd dX7_palest_73 ?_
          refine ev_iload_n dX7_palest_74 rfl ?_
          refine ev_iadd dX7_palest_75 ?_
          refine ev_ialdE _ dX7_palest_76 (by first | with_reducible rfl | with_reducible exact nI_add _ _ | with_reducible exact ix3 _ _ _ | with_reducible exact ix_k _ _ _ | with_reducible exact ix_xk _ _ _ _) (by first | assumption | rfl) ⟨by omega, by decide⟩ ?_
          refine ev_icmp_ge 85 dX7_palest_77 (by decide) (fun hc77 => ?_) (fun hc77 => ?_)
          · refine ev_iload_n dX7_palest_85 rfl ?_
            refine ev_istore_k 3 dX7_palest_86 rfl (by decide) rfl ?_
            refine ev_iinc (v := (nI 1)) dX7_palest_87 rfl (by decide) (by decide) rfl ?_
            refine ev_goto 5 dX7_palest_90 (by decide) ?_
            exact ev_st ih (by first | (simp [nI_add, dkst, hd, oI, vLeft, *]; done) | (have z9 := fa_of_nle hc77; simp [nI_add, dkst, hd, oI, vLeft, *]; done) | (have z9 : ¬ G 1 (x + 80 + i) < G 1 (x + 80 + b) := fun z => (fa_of_lt z).2.1 hc77; simp [nI_add, dkst, hd, oI, vLeft, *])) rfl rfl
          · refine ev_iload dX7_palest_80 rfl ?_
            refine ev_goto 86 dX7_palest_82 (by decide) ?_
            refine ev_istore_k 3 dX7_palest_86 rfl (by decide) rfl ?_
            refine ev_iinc (v := (nI 1)) dX7_palest_87 rfl (by decide) (by decide) rfl ?_
            refine ev_goto 5 dX7_palest_90 (by decide) ?_
            exact ev_st ih (by first | (simp [nI_add, dkst, hd, oI, vLeft, *]; done) | (have z9 := fa_of_nle hc77; simp [nI_add, dkst, hd, oI, vLeft, *]; done) | (have z9 : ¬ G 1 (x + 80 + i) < G 1 (x + 80 + b) := fun z => (fa_of_lt z).2.1 hc77; simp [nI_add, dkst, hd, oI, vLeft, *])) rfl rfl
  refine ev_iconst (v := (-1)) dX7_palest_0 (by decide) ?_
  refine ev_istore_k 3 dX7_palest_1 rfl (by decide) rfl ?_
  refine ev_iconst (v := (nI 0)) dX7_palest_2 (by decide) ?_
  refine ev_istore dX7_palest_3 (by decide) rfl ?_
  exact ev_st (key 0 (Nat.zero_le _)) rfl rfl rfl
