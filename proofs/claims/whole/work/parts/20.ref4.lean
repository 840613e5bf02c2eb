def dkD (x nl nr : Nat) (G : rf_Mem) : rf_Mem := if nI 9999 ≤ G 1 (x + 1334) then G else dkG x nl nr 0 (rf_set G 1 (x + 1334) (G 1 (x + 1334) + nI 1))
set_option maxRecDepth 20000 in
set_option maxHeartbeats 2000000 in
theorem e7_darken {G : rf_Mem} {x : Nat} (hx : x ≤ 4500) {nr : Nat} (hr : G 7 1 = nI nr) (hnr : nr ≤ 8) {nl : Nat} (hl : G 7 0 = nI nl) (hnl : nl ≤ 16) : Ev LayM mX7_darken 0 (rf_ent 5 [.ref 0, .int (nI x)]) [] G none (dkD x nl nr G) := by
  have hr1 : (rf_set G 1 (x + 1334) (G 1 (x + 1334) + nI 1)) 7 1 = nI nr := by rw [gs_q _ _ _ (by decide)]; exact hr
  have hl1 : (rf_set G 1 (x + 1334) (G 1 (x + 1334) + nI 1)) 7 0 = nI nl := by rw [gs_q _ _ _ (by decide)]; exact hl
  have keyo := ev_for (Lay := LayM) (y := mX7_darken) (pc := 32) (r := none) (M' := (dkG x nl nr 0 (rf_set G 1 (x + 1334) (G 1 (x + 1334) + nI 1)))) nr (fun j => [some (.ref 0), some (.int (nI x)), some (.int (nI j)), none, none]) (fun j => dkG x nl j 0 (rf_set G 1 (x + 1334) (G 1 (x + 1334) + nI 1))) ?hxo ?hso
  case hxo =>
    refine ev_iload_n dX7_darken_32 rfl ?_
    refine ev_aload_n dX7_darken_33 rfl ?_
    refine ev_getR dX7_darken_34 fX7_29 (by first | assumption | rfl) (by rfl) ?_
    refine ev_iconst (v := (nI 1)) dX7_darken_37 (by decide) ?_
    refine ev_ialdE _ dX7_darken_38 (by first | with_reducible rfl | with_reducible exact nI_add _ _ | with_reducible exact ix3 _ _ _ | with_reducible exact ix_k _ _ _ | with_reducible exact ix_xk _ _ _ _) (by first | assumption | rfl) ⟨by omega, by decide⟩ ?_
    refine ev_icmp_ge 151 dX7_darken_39 (by decide) (fun hc39 => ?_) (fun hc39 => False.elim (lp_x (by rw [dkG, dkF_o (by decide)]; exact hr1) (by omega) hc39))
    exact ev_vretE dX7_darken_151 rfl rfl (rfl)
  case hso =>
    intro j hj ihj
    have keyi := ev_for (Lay := LayM) (y := mX7_darken) (pc := 44) (r := none) (M' := (dkG x nl nr 0 (rf_set G 1 (x + 1334) (G 1 (x + 1334) + nI 1)))) nl (fun i => [some (.ref 0), some (.int (nI x)), some (.int (nI j)), some (.int (nI i)), none]) (fun i => dkG x nl j i (rf_set G 1 (x + 1334) (G 1 (x + 1334) + nI 1))) ?hxi ?hsi
    case hxi =>
      refine ev_iload_n dX7_darken_44 rfl ?_
      refine ev_aload_n dX7_darken_45 rfl ?_
      refine ev_getR dX7_darken_46 fX7_29 (by first | assumption | rfl) (by rfl) ?_
      refine ev_iconst (v := (nI 0)) dX7_darken_49 (by decide) ?_
      refine ev_ialdE _ dX7_darken_50 (by first | with_reducible rfl | with_reducible exact nI_add _ _ | with_reducible exact ix3 _ _ _ | with_reducible exact ix_k _ _ _ | with_reducible exact ix_xk _ _ _ _) (by first | assumption | rfl) ⟨by omega, by decide⟩ ?_
      refine ev_icmp_ge 145 dX7_darken_51 (by decide) (fun hc51 => ?_) (fun hc51 => False.elim (lp_x (by rw [dkG, dkF_o (by decide)]; exact hl1) (by omega) hc51))
      refine ev_iinc (v := (nI 1)) dX7_darken_145 rfl (by decide) (by decide) rfl ?_
      refine ev_goto 32 dX7_darken_148 (by decide) ?_
      exact ev_stw ihj (by simp [rf_sub, nI_add]) rfl (dkG_r x nl j _)
    case hsi =>
      intro i hi ih
      obtain ⟨a1, a2⟩ := dkG_at (x := x) (nl := nl) (r := j) (l := i) (G := (rf_set G 1 (x + 1334) (G 1 (x + 1334) + nI 1))) (by omega) (by omega)
      have a3 : dkG x nl j i (rf_set G 1 (x + 1334) (G 1 (x + 1334) + nI 1)) 1 (x + 1334) = (rf_set G 1 (x + 1334) (G 1 (x + 1334) + nI 1)) 1 (x + 1334) := by rw [dkG, dkF_out (by omega)]
      have a4 : dkG x nl j i (rf_set G 1 (x + 1334) (G 1 (x + 1334) + nI 1)) 6 j = (rf_set G 1 (x + 1334) (G 1 (x + 1334) + nI 1)) 6 j := by rw [dkG, dkF_o (by decide)]
      have a5 : (16 * j + i) / 16 = j := by omega
      refine ev_iload_n dX7_darken_44 rfl ?_
      refine ev_aload_n dX7_darken_45 rfl ?_
      refine ev_getR dX7_darken_46 fX7_29 (by first | assumption | rfl) (by rfl) ?_
      refine ev_iconst (v := (nI 0)) dX7_darken_49 (by decide) ?_
      refine ev_ialdE _ dX7_darken_50 (by first | with_reducible rfl | with_reducible exact nI_add _ _ | with_reducible exact ix3 _ _ _ | with_reducible exact ix_k _ _ _ | with_reducible exact ix_xk _ _ _ _) (by first | assumption | rfl) ⟨by omega, by decide⟩ ?_
      refine ev_icmp_ge 145 dX7_darken_51 (by decide) (fun hc51 => False.elim (lp_s (by rw [dkG, dkF_o (by decide)]; exact hl1) (by omega) hi hc51)) (fun hc51 => ?_)
      refine ev_bipush (v := (nI 16)) dX7_darken_54 (by decide) ?_
      refine ev_iload_n dX7_darken_56 rfl ?_
      refine ev_imul dX7_darken_57 ?_
      refine ev_iload_n dX7_darken_58 rfl ?_
      refine ev_iadd dX7_darken_59 ?_
      refine ev_istore dX7_darken_60 (by decide) rfl ?_
      refine ev_aload_n dX7_darken_62 rfl ?_
      refine ev_getR dX7_darken_63 fX7_7 (by first | assumption | rfl) (by rfl) ?_
      refine ev_iload_n dX7_darken_66 rfl ?_
      refine ev_sipush (v := (nI 160)) dX7_darken_67 (by decide) ?_
      refine ev_iadd dX7_darken_70 ?_
      refine ev_iload dX7_darken_71 rfl ?_
      refine ev_iadd dX7_darken_73 ?_
      refine ev_ialdE (x + 160 + (16 * j + i)) dX7_darken_74 (by rw [pk_mul, nI_add, nI_add, nI_add]) (by first | assumption | rfl) ⟨by omega, by decide⟩ ?_
      rw [a1]
      refine ev_if_lt 139 dX7_darken_75 (by decide) (fun hc75 => ?_) (fun hc75 => ?_)
      · have z1 := dkG_n (x := x) (r := j) (l := i) (G := (rf_set G 1 (x + 1334) (G 1 (x + 1334) + nI 1))) (by omega) hi (by simp [fgM, hc75])
        refine ev_iinc (v := (nI 1)) dX7_darken_139 rfl (by decide) (by decide) rfl ?_
        refine ev_goto 44 dX7_darken_142 (by decide) ?_
        exact ev_stw ih (by simp [rf_sub, nI_add]) rfl z1
      · skip
        refine ev_aload_n dX7_darken_78 rfl ?_
        refine ev_getR dX7_darken_79 fX7_7 (by first | assumption | rfl) (by rfl) ?_
        refine ev_iload_n dX7_darken_82 rfl ?_
        refine ev_sipush (v := (nI 1334)) dX7_darken_83 (by decide) ?_
        refine ev_iadd dX7_darken_86 ?_
        refine ev_ialdE _ dX7_darken_87 (by first | with_reducible rfl | with_reducible exact nI_add _ _ | with_reducible exact ix3 _ _ _ | with_reducible exact ix_k _ _ _ | with_reducible exact ix_xk _ _ _ _) (by first | assumption | rfl) ⟨by omega, by decide⟩ ?_
        refine ev_aload_n dX7_darken_88 rfl ?_
        refine ev_getR dX7_darken_89 fX7_7 (by first | assumption | rfl) (by rfl) ?_
        refine ev_iload_n dX7_darken_92 rfl ?_
        refine ev_sipush (v := (nI 288)) dX7_darken_93 (by decide) ?_
        refine ev_iadd dX7_darken_96 ?_
        refine ev_iload dX7_darken_97 rfl ?_
        refine ev_iadd dX7_darken_99 ?_
        refine ev_ialdE (x + 288 + (16 * j + i)) dX7_darken_100 (by rw [pk_mul, nI_add, nI_add, nI_add]) (by first | assumption | rfl) ⟨by omega, by decide⟩ ?_
        refine ev_isub dX7_darken_101 ?_
        refine ev_aload_n dX7_darken_102 rfl ?_
        refine ev_getR dX7_darken_103 fX7_26 (by first | assumption | rfl) (by rfl) ?_
        refine ev_iload_n dX7_darken_106 rfl ?_
        refine ev_ialdE _ dX7_darken_107 (by first | with_reducible rfl | with_reducible exact nI_add _ _ | with_reducible exact ix3 _ _ _ | with_reducible exact ix_k _ _ _ | with_reducible exact ix_xk _ _ _ _) (by first | assumption | rfl) ⟨by omega, by decide⟩ ?_
        rw [a2, a3, a4]
        refine ev_icmp_lt 139 dX7_darken_108 (by decide) (fun hc108 => ?_) (fun hc108 => ?_)
        · have z1 := dkG_n (x := x) (r := j) (l := i) (G := (rf_set G 1 (x + 1334) (G 1 (x + 1334) + nI 1))) (by omega) hi (by rw [fgM, a5, decide_eq_true hc108]; simp)
          refine ev_iinc (v := (nI 1)) dX7_darken_139 rfl (by decide) (by decide) rfl ?_
          refine ev_goto 44 dX7_darken_142 (by decide) ?_
          exact ev_stw ih (by simp [rf_sub, nI_add]) rfl z1
        · have z1 := dkG_y (x := x) (r := j) (l := i) (G := (rf_set G 1 (x + 1334) (G 1 (x + 1334) + nI 1))) (by omega) (by omega) hi (by rw [fgM, a5, decide_eq_false hc108, decide_eq_false hc75]; rfl)
          refine ev_aload_n dX7_darken_111 rfl ?_
          refine ev_getR dX7_darken_112 fX7_7 (by first | assumption | rfl) (by rfl) ?_
          refine ev_iload_n dX7_darken_115 rfl ?_
          refine ev_sipush (v := (nI 160)) dX7_darken_116 (by decide) ?_
          refine ev_iadd dX7_darken_119 ?_
          refine ev_iload dX7_darken_120 rfl ?_
          refine ev_iadd dX7_darken_122 ?_
          refine ev_iconst (v := (-1)) dX7_darken_123 (by decide) ?_
          refine ev_iastE (x + 160 + (16 * j + i)) dX7_darken_124 (by rw [pk_mul, nI_add, nI_add, nI_add]) (by first | assumption | rfl) ⟨by omega, by decide⟩ ?_
          refine ev_aload_n dX7_darken_125 rfl ?_
          refine ev_getR dX7_darken_126 fX7_7 (by first | assumption | rfl) (by rfl) ?_
          refine ev_iload_n dX7_darken_129 rfl ?_
          refine ev_sipush (v := (nI 288)) dX7_darken_130 (by decide) ?_
          refine ev_iadd dX7_darken_133 ?_
          refine ev_iload dX7_darken_134 rfl ?_
          refine ev_iadd dX7_darken_136 ?_
          refine ev_iconst (v := (-1)) dX7_darken_137 (by decide) ?_
          refine ev_iastE (x + 288 + (16 * j + i)) dX7_darken_138 (by rw [pk_mul, nI_add, nI_add, nI_add]) (by first | assumption | rfl) ⟨by omega, by decide⟩ ?_
          refine ev_iinc (v := (nI 1)) dX7_darken_139 rfl (by decide) (by decide) rfl ?_
          refine ev_goto 44 dX7_darken_142 (by decide) ?_
          exact ev_stw ih (by simp [rf_sub, nI_add]) rfl z1
    refine ev_iload_n dX7_darken_32 rfl ?_
    refine ev_aload_n dX7_darken_33 rfl ?_
    refine ev_getR dX7_darken_34 fX7_29 (by first | assumption | rfl) (by rfl) ?_
    refine ev_iconst (v := (nI 1)) dX7_darken_37 (by decide) ?_
    refine ev_ialdE _ dX7_darken_38 (by first | with_reducible rfl | with_reducible exact nI_add _ _ | with_reducible exact ix3 _ _ _ | with_reducible exact ix_k _ _ _ | with_reducible exact ix_xk _ _ _ _) (by first | assumption | rfl) ⟨by omega, by decide⟩ ?_
    refine ev_icmp_ge 151 dX7_darken_39 (by decide) (fun hc39 => False.elim (lp_s (by rw [dkG, dkF_o (by decide)]; exact hr1) (by omega) hj hc39)) (fun hc39 => ?_)
    refine ev_iconst (v := (nI 0)) dX7_darken_42 (by decide) ?_
    refine ev_istore_k 3 dX7_darken_43 rfl (by decide) rfl ?_
    exact ev_stw (keyi 0 (Nat.zero_le _)) ⟨rfl, rfl, rfl, rfl, trivial⟩ rfl rfl
  refine ev_aload_n dX7_darken_0 rfl ?_
  refine ev_getR dX7_darken_1 fX7_7 (by first | assumption | rfl) (by rfl) ?_
  refine ev_iload_n dX7_darken_4 rfl ?_
  refine ev_sipush (v := (nI 1334)) dX7_darken_5 (by decide) ?_
  refine ev_iadd dX7_darken_8 ?_
  refine ev_ialdE _ dX7_darken_9 (by first | with_reducible rfl | with_reducible exact nI_add _ _ | with_reducible exact ix3 _ _ _ | with_reducible exact ix_k _ _ _ | with_reducible exact ix_xk _ _ _ _) (by first | assumption | rfl) ⟨by omega, by decide⟩ ?_
  refine ev_sipush (v := (nI 9999)) dX7_darken_10 (by decide) ?_
  refine ev_icmp_ge 151 dX7_darken_13 (by decide) (fun hc13 => ?_) (fun hc13 => ?_)
  · skip
    exact ev_vretE dX7_darken_151 rfl rfl (by rw [dkD, if_pos hc13])
  · rw [dkD, if_neg hc13]
    refine ev_aload_n dX7_darken_16 rfl ?_
    refine ev_getR dX7_darken_17 fX7_7 (by first | assumption | rfl) (by rfl) ?_
    refine ev_iload_n dX7_darken_20 rfl ?_
    refine ev_sipush (v := (nI 1334)) dX7_darken_21 (by decide) ?_
    refine ev_iadd dX7_darken_24 ?_
    refine ev_dup2 dX7_darken_25 rfl rfl ?_
    refine ev_ialdE _ dX7_darken_26 (by first | with_reducible rfl | with_reducible exact nI_add _ _ | with_reducible exact ix3 _ _ _ | with_reducible exact ix_k _ _ _ | with_reducible exact ix_xk _ _ _ _) (by first | assumption | rfl) ⟨by omega, by decide⟩ ?_
    refine ev_iconst (v := (nI 1)) dX7_darken_27 (by decide) ?_
    refine ev_iadd dX7_darken_28 ?_
    refine ev_iastE _ dX7_darken_29 (by first | with_reducible rfl | with_reducible exact nI_add _ _ | with_reducible exact ix3 _ _ _ | with_reducible exact ix_k _ _ _ | with_reducible exact ix_xk _ _ _ _) (by first | assumption | rfl) ⟨by omega, by decide⟩ ?_
    refine ev_iconst (v := (nI 0)) dX7_darken_30 (by decide) ?_
    refine ev_istore_k 2 dX7_darken_31 rfl (by decide) rfl ?_
    exact ev_stw (keyo 0 (Nat.zero_le _)) ⟨rfl, rfl, rfl, trivial⟩ rfl (dkG_0 x nl _).symm
