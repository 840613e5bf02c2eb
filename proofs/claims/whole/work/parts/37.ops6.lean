/-! ops: teach, dusk, where, keep, goBack, whence -/
set_option maxRecDepth 20000 in
set_option maxHeartbeats 2000000 in
theorem op_teach {a0 b9 l0 : Int32} : OpOk mX6_teach mX7_teach [.int a0, .int b9, .int l0] := by
  intro C G hR
  have hR0 := hR
  obtain ⟨nl, nr, tm, n, d, nq, tl, nd, b0, b1, kt, hp⟩ := hR
  obtain ⟨hS, hE, hQ, hT, hDr, hI, hkt, hkt3⟩ := id hp
  have hL := hS.1
  obtain ⟨l1, m1, l3, r1, m2, l6, le, lw, lr⟩ := id hL
  obtain ⟨hP, ⟨d1, d2, d3⟩, ⟨s1, s2⟩, hH⟩ := id hS.2.1
  obtain ⟨p1, p2, p3, p4, p5⟩ := id hP
  rw [Nat.zero_add] at p2 d2 s1
  obtain ⟨-, -, k, k', q1, q2, q3, q4, q5⟩ := id hS
  obtain ⟨ke, kl⟩ := q5 rfl
  subst ke
  obtain ⟨-, -, -, kl4⟩ := id kl
  rw [Nat.zero_add] at q3
  rcases ck a0 (show nr < 2 ^ 31 by omega) with ⟨j1, hj1, e1, c1⟩ | c1
  · subst e1
    rcases ck b9 (show nr < 2 ^ 31 by omega) with ⟨j2, hj2, e2, c2⟩ | c2
    · subst e2
      by_cases hab : j1 = j2
      · subst hab
        refine ⟨(-1000000001), C, G, ?_, ?_, hR0⟩
        · refine ev_aload_n dX6_teach_0 rfl ?_
          refine ev_getR dX6_teach_1 fX6_23 (by first | assumption | rfl) (by rfl) ?_
          refine ev_iload_n dX6_teach_4 rfl ?_
          refine ev_cV1 dX6_teach_5 ceX1_hasReader kX6_147 (rm_le rfl rfl) (Nat.le_of_ble_eq_true rfl) (Nat.le_of_ble_eq_true rfl) (e_hasReader) (by first | assumption | rfl) ?_
          rw [r1, c1]
          refine ev_if_eq 38 dX6_teach_8 (by decide) (fun hc8 => False.elim (absurd hc8 (by decide))) (fun hc8 => ?_)
          refine ev_aload_n dX6_teach_11 rfl ?_
          refine ev_getR dX6_teach_12 fX6_23 (by first | assumption | rfl) (by rfl) ?_
          refine ev_iload_n dX6_teach_15 rfl ?_
          refine ev_cV1 dX6_teach_16 ceX1_hasReader kX6_147 (rm_le rfl rfl) (Nat.le_of_ble_eq_true rfl) (Nat.le_of_ble_eq_true rfl) (e_hasReader) (by first | assumption | rfl) ?_
          rw [r1, c2]
          refine ev_if_eq 38 dX6_teach_19 (by decide) (fun hc19 => False.elim (absurd hc19 (by decide))) (fun hc19 => ?_)
          refine ev_iload_n dX6_teach_22 rfl ?_
          refine ev_iload_n dX6_teach_23 rfl ?_
          refine ev_icmp_eq 38 dX6_teach_24 (by decide) (fun hc24 => ?_) (fun hc24 => False.elim (hc24 rfl))
          refine ev_ldc (v := (-1000000001)) dX6_teach_38 nX6_127 ?_
          exact ev_iretE dX6_teach_40 rfl rfl (by first | rfl | simp_all) (rfl)
        · refine ev_aload_n dX7_teach_0 rfl ?_
          refine ev_iload_n dX7_teach_1 rfl ?_
          refine ev_cV1 dX7_teach_2 ceX7_isReader kX7_169 (rm_le rfl rfl) (Nat.le_of_ble_eq_true rfl) (Nat.le_of_ble_eq_true rfl) (e7_isReader m2 l6) (by first | assumption | rfl) ?_
          rw [c1]
          refine ev_if_eq 29 dX7_teach_5 (by decide) (fun hc5 => False.elim (absurd hc5 (by decide))) (fun hc5 => ?_)
          refine ev_aload_n dX7_teach_8 rfl ?_
          refine ev_iload_n dX7_teach_9 rfl ?_
          refine ev_cV1 dX7_teach_10 ceX7_isReader kX7_169 (rm_le rfl rfl) (Nat.le_of_ble_eq_true rfl) (Nat.le_of_ble_eq_true rfl) (e7_isReader m2 l6) (by first | assumption | rfl) ?_
          rw [c2]
          refine ev_if_eq 29 dX7_teach_13 (by decide) (fun hc13 => False.elim (absurd hc13 (by decide))) (fun hc13 => ?_)
          refine ev_iload_n dX7_teach_16 rfl ?_
          refine ev_iload_n dX7_teach_17 rfl ?_
          refine ev_icmp_eq 29 dX7_teach_18 (by decide) (fun hc18 => ?_) (fun hc18 => False.elim (hc18 rfl))
          refine ev_ldc (v := (-1000000001)) dX7_teach_29 nX7_165 ?_
          exact ev_iretE dX7_teach_31 rfl rfl (by first | rfl | simp_all) (rfl)
      · rcases ck l0 (show nl < 2 ^ 31 by omega) with ⟨l, hl, e3, c3⟩ | c3
        · subst e3
          obtain ⟨kn1, -⟩ := kn_same hS hj1 hl
          have kn2 := kn_si hS hj1 hl
          simp only [Nat.zero_add] at kn1 kn2
          have kk := (lr j1 hj1).1
          by_cases hk2 : C 11 j1 = nI 4
          · rcases kn2 with ⟨u1, -⟩ | ⟨u1, ⟨v, hv, hv2⟩, -⟩
            · refine ⟨(-1000000003), C, G, ?_, ?_, hR0⟩
              · refine ev_aload_n dX6_teach_0 rfl ?_
                refine ev_getR dX6_teach_1 fX6_23 (by first | assumption | rfl) (by rfl) ?_
                refine ev_iload_n dX6_teach_4 rfl ?_
                refine ev_cV1 dX6_teach_5 ceX1_hasReader kX6_147 (rm_le rfl rfl) (Nat.le_of_ble_eq_true rfl) (Nat.le_of_ble_eq_true rfl) (e_hasReader) (by first | assumption | rfl) ?_
                rw [r1, c1]
                refine ev_if_eq 38 dX6_teach_8 (by decide) (fun hc8 => False.elim (absurd hc8 (by decide))) (fun hc8 => ?_)
                refine ev_aload_n dX6_teach_11 rfl ?_
                refine ev_getR dX6_teach_12 fX6_23 (by first | assumption | rfl) (by rfl) ?_
                refine ev_iload_n dX6_teach_15 rfl ?_
                refine ev_cV1 dX6_teach_16 ceX1_hasReader kX6_147 (rm_le rfl rfl) (Nat.le_of_ble_eq_true rfl) (Nat.le_of_ble_eq_true rfl) (e_hasReader) (by first | assumption | rfl) ?_
                rw [r1, c2]
                refine ev_if_eq 38 dX6_teach_19 (by decide) (fun hc19 => False.elim (absurd hc19 (by decide))) (fun hc19 => ?_)
                refine ev_iload_n dX6_teach_22 rfl ?_
                refine ev_iload_n dX6_teach_23 rfl ?_
                refine ev_icmp_eq 38 dX6_teach_24 (by decide) (fun hc24 => False.elim (hab ((nI_eq (by omega) (by omega)).mp hc24))) (fun hc24 => ?_)
                refine ev_aload_n dX6_teach_27 rfl ?_
                refine ev_getR dX6_teach_28 fX6_23 (by first | assumption | rfl) (by rfl) ?_
                refine ev_iload_n dX6_teach_31 rfl ?_
                refine ev_cV1 dX6_teach_32 ceX1_hasLine kX6_123 (rm_le rfl rfl) (Nat.le_of_ble_eq_true rfl) (Nat.le_of_ble_eq_true rfl) (e_hasLine) (by first | assumption | rfl) ?_
                rw [l1, c3]
                refine ev_if_ne 41 dX6_teach_35 (by decide) (fun hc35 => ?_) (fun hc35 => False.elim (absurd hc35 (by decide)))
                refine ev_aload_n dX6_teach_41 rfl ?_
                refine ev_getR dX6_teach_42 fX6_23 (by first | assumption | rfl) (by rfl) ?_
                refine ev_getR dX6_teach_45 fX6_150 (by first | assumption | rfl) (by rfl) ?_
                refine ev_iload_n dX6_teach_48 rfl ?_
                refine ev_ialdE _ dX6_teach_49 (rfl) (by first | assumption | rfl) ⟨by omega, by decide⟩ ?_
                refine ev_iconst (v := (nI 4)) dX6_teach_50 (by decide) ?_
                refine ev_icmp_ne 66 dX6_teach_51 (by decide) (fun hc51 => False.elim (hc51 hk2)) (fun hc51 => ?_)
                refine ev_aload_n dX6_teach_54 rfl ?_
                refine ev_getR dX6_teach_55 fX6_31 (by first | assumption | rfl) (by rfl) ?_
                refine ev_iload_n dX6_teach_58 rfl ?_
                refine ev_iload_n dX6_teach_59 rfl ?_
                refine ev_cV2 dX6_teach_60 ceX5_knowsAny kX6_174 (rm_le rfl rfl) (Nat.le_of_ble_eq_true rfl) (Nat.le_of_ble_eq_true rfl) (e_knowsAny st_21 (by omega) (by omega)) (by first | assumption | rfl) ?_
                rw [kn1, u1]
                refine ev_if_ne 69 dX6_teach_63 (by decide) (fun hc63 => False.elim (absurd hc63 (by decide))) (fun hc63 => ?_)
                refine ev_ldc (v := (-1000000003)) dX6_teach_66 nX6_194 ?_
                exact ev_iretE dX6_teach_68 rfl rfl (by first | rfl | simp_all) (rfl)
              · refine ev_aload_n dX7_teach_0 rfl ?_
                refine ev_iload_n dX7_teach_1 rfl ?_
                refine ev_cV1 dX7_teach_2 ceX7_isReader kX7_169 (rm_le rfl rfl) (Nat.le_of_ble_eq_true rfl) (Nat.le_of_ble_eq_true rfl) (e7_isReader m2 l6) (by first | assumption | rfl) ?_
                rw [c1]
                refine ev_if_eq 29 dX7_teach_5 (by decide) (fun hc5 => False.elim (absurd hc5 (by decide))) (fun hc5 => ?_)
                refine ev_aload_n dX7_teach_8 rfl ?_
                refine ev_iload_n dX7_teach_9 rfl ?_
                refine ev_cV1 dX7_teach_10 ceX7_isReader kX7_169 (rm_le rfl rfl) (Nat.le_of_ble_eq_true rfl) (Nat.le_of_ble_eq_true rfl) (e7_isReader m2 l6) (by first | assumption | rfl) ?_
                rw [c2]
                refine ev_if_eq 29 dX7_teach_13 (by decide) (fun hc13 => False.elim (absurd hc13 (by decide))) (fun hc13 => ?_)
                refine ev_iload_n dX7_teach_16 rfl ?_
                refine ev_iload_n dX7_teach_17 rfl ?_
                refine ev_icmp_eq 29 dX7_teach_18 (by decide) (fun hc18 => False.elim (hab ((nI_eq (by omega) (by omega)).mp hc18))) (fun hc18 => ?_)
                refine ev_aload_n dX7_teach_21 rfl ?_
                refine ev_iload_n dX7_teach_22 rfl ?_
                refine ev_cV1 dX7_teach_23 ceX7_isLine kX7_161 (rm_le rfl rfl) (Nat.le_of_ble_eq_true rfl) (Nat.le_of_ble_eq_true rfl) (e7_isLine m1 l3) (by first | assumption | rfl) ?_
                rw [c3]
                refine ev_if_ne 32 dX7_teach_26 (by decide) (fun hc26 => ?_) (fun hc26 => False.elim (absurd hc26 (by decide)))
                refine ev_aload_n dX7_teach_32 rfl ?_
                refine ev_getR dX7_teach_33 fX7_7 (by first | assumption | rfl) (by rfl) ?_
                refine ev_sipush (v := (nI 160)) dX7_teach_36 (by decide) ?_
                refine ev_bipush (v := (nI 16)) dX7_teach_39 (by decide) ?_
                refine ev_iload_n dX7_teach_41 rfl ?_
                refine ev_imul dX7_teach_42 ?_
                refine ev_iadd dX7_teach_43 ?_
                refine ev_iload_n dX7_teach_44 rfl ?_
                refine ev_iadd dX7_teach_45 ?_
                refine ev_ialdE _ dX7_teach_46 (by first | with_reducible rfl | with_reducible exact nI_add _ _ | with_reducible exact ix3 _ _ _ | with_reducible exact ix_k _ _ _ | with_reducible exact ix_xk _ _ _ _) (by first | assumption | rfl) ⟨by omega, by decide⟩ ?_
                refine ev_istore dX7_teach_47 (by decide) rfl ?_
                refine ev_aload_n dX7_teach_49 rfl ?_
                refine ev_getR dX7_teach_50 fX7_23 (by first | assumption | rfl) (by rfl) ?_
                refine ev_iload_n dX7_teach_53 rfl ?_
                refine ev_ialdE _ dX7_teach_54 (by first | with_reducible rfl | with_reducible exact nI_add _ _ | with_reducible exact ix3 _ _ _ | with_reducible exact ix_k _ _ _ | with_reducible exact ix_xk _ _ _ _) (by first | assumption | rfl) ⟨by omega, by decide⟩ ?_
                refine ev_iconst (v := (nI 4)) dX7_teach_55 (by decide) ?_
                refine ev_icmp_ne 64 dX7_teach_56 (by decide) (fun hc56 => False.elim (hc56 (by rw [← kk]; exact hk2))) (fun hc56 => ?_)
                refine ev_iload dX7_teach_59 rfl ?_
                refine ev_if_ge 67 dX7_teach_61 (by decide) (fun hc61 => False.elim (by rw [u1] at hc61; exact absurd hc61 (by decide))) (fun hc61 => ?_)
                refine ev_ldc (v := (-1000000003)) dX7_teach_64 nX7_187 ?_
                exact ev_iretE dX7_teach_66 rfl rfl (by first | rfl | simp_all) (rfl)
            · obtain ⟨hS2, f3, f4⟩ := sim_teach (a := j1) (b := j2) (l := l) hS hj1 hj2 hl hv
              refine ⟨nI v, (lrn 21 (lrn 21 C j2 l (nI v)) j1 l (nI v)), (knM 0 (knM 0 G j1 l (nI v)) j2 l (nI v)), ?_, ?_, hp.act hS2 f3 f4⟩
              · refine ev_aload_n dX6_teach_0 rfl ?_
                refine ev_getR dX6_teach_1 fX6_23 (by first | assumption | rfl) (by rfl) ?_
                refine ev_iload_n dX6_teach_4 rfl ?_
                refine ev_cV1 dX6_teach_5 ceX1_hasReader kX6_147 (rm_le rfl rfl) (Nat.le_of_ble_eq_true rfl) (Nat.le_of_ble_eq_true rfl) (e_hasReader) (by first | assumption | rfl) ?_
                rw [r1, c1]
                refine ev_if_eq 38 dX6_teach_8 (by decide) (fun hc8 => False.elim (absurd hc8 (by decide))) (fun hc8 => ?_)
                refine ev_aload_n dX6_teach_11 rfl ?_
                refine ev_getR dX6_teach_12 fX6_23 (by first | assumption | rfl) (by rfl) ?_
                refine ev_iload_n dX6_teach_15 rfl ?_
                refine ev_cV1 dX6_teach_16 ceX1_hasReader kX6_147 (rm_le rfl rfl) (Nat.le_of_ble_eq_true rfl) (Nat.le_of_ble_eq_true rfl) (e_hasReader) (by first | assumption | rfl) ?_
                rw [r1, c2]
                refine ev_if_eq 38 dX6_teach_19 (by decide) (fun hc19 => False.elim (absurd hc19 (by decide))) (fun hc19 => ?_)
                refine ev_iload_n dX6_teach_22 rfl ?_
                refine ev_iload_n dX6_teach_23 rfl ?_
                refine ev_icmp_eq 38 dX6_teach_24 (by decide) (fun hc24 => False.elim (hab ((nI_eq (by omega) (by omega)).mp hc24))) (fun hc24 => ?_)
                refine ev_aload_n dX6_teach_27 rfl ?_
                refine ev_getR dX6_teach_28 fX6_23 (by first | assumption | rfl) (by rfl) ?_
                refine ev_iload_n dX6_teach_31 rfl ?_
                refine ev_cV1 dX6_teach_32 ceX1_hasLine kX6_123 (rm_le rfl rfl) (Nat.le_of_ble_eq_true rfl) (Nat.le_of_ble_eq_true rfl) (e_hasLine) (by first | assumption | rfl) ?_
                rw [l1, c3]
                refine ev_if_ne 41 dX6_teach_35 (by decide) (fun hc35 => ?_) (fun hc35 => False.elim (absurd hc35 (by decide)))
                refine ev_aload_n dX6_teach_41 rfl ?_
                refine ev_getR dX6_teach_42 fX6_23 (by first | assumption | rfl) (by rfl) ?_
                refine ev_getR dX6_teach_45 fX6_150 (by first | assumption | rfl) (by rfl) ?_
                refine ev_iload_n dX6_teach_48 rfl ?_
                refine ev_ialdE _ dX6_teach_49 (rfl) (by first | assumption | rfl) ⟨by omega, by decide⟩ ?_
                refine ev_iconst (v := (nI 4)) dX6_teach_50 (by decide) ?_
                refine ev_icmp_ne 66 dX6_teach_51 (by decide) (fun hc51 => False.elim (hc51 hk2)) (fun hc51 => ?_)
                refine ev_aload_n dX6_teach_54 rfl ?_
                refine ev_getR dX6_teach_55 fX6_31 (by first | assumption | rfl) (by rfl) ?_
                refine ev_iload_n dX6_teach_58 rfl ?_
                refine ev_iload_n dX6_teach_59 rfl ?_
                refine ev_cV2 dX6_teach_60 ceX5_knowsAny kX6_174 (rm_le rfl rfl) (Nat.le_of_ble_eq_true rfl) (Nat.le_of_ble_eq_true rfl) (e_knowsAny st_21 (by omega) (by omega)) (by first | assumption | rfl) ?_
                rw [kn1, decide_eq_false u1]
                refine ev_if_ne 69 dX6_teach_63 (by decide) (fun hc63 => ?_) (fun hc63 => False.elim (absurd hc63 (by decide)))
                refine ev_aload_n dX6_teach_69 rfl ?_
                refine ev_getR dX6_teach_70 fX6_31 (by first | assumption | rfl) (by rfl) ?_
                refine ev_iload_n dX6_teach_73 rfl ?_
                refine ev_iload_n dX6_teach_74 rfl ?_
                refine ev_cV2 dX6_teach_75 ceX5_variantKnown kX6_177 (rm_le rfl rfl) (Nat.le_of_ble_eq_true rfl) (Nat.le_of_ble_eq_true rfl) (e_variantKnown st_21 (by omega) (by omega)) (by first | assumption | rfl) ?_
                rw [kn1, hv2]
                refine ev_istore dX6_teach_78 (by decide) rfl ?_
                refine ev_aload_n dX6_teach_80 rfl ?_
                refine ev_getR dX6_teach_81 fX6_31 (by first | assumption | rfl) (by rfl) ?_
                refine ev_iload_n dX6_teach_84 rfl ?_
                refine ev_iload_n dX6_teach_85 rfl ?_
                refine ev_iload dX6_teach_86 rfl ?_
                refine ev_cV3v dX6_teach_88 ceX5_learn kX6_207 (rm_le rfl rfl) (Nat.le_of_ble_eq_true rfl) (Nat.le_of_ble_eq_true rfl) (e_learn st_21 (by omega) (by omega)) (by first | assumption | rfl) ?_
                refine ev_aload_n dX6_teach_91 rfl ?_
                refine ev_getR dX6_teach_92 fX6_31 (by first | assumption | rfl) (by rfl) ?_
                refine ev_iload_n dX6_teach_95 rfl ?_
                refine ev_iload_n dX6_teach_96 rfl ?_
                refine ev_iload dX6_teach_97 rfl ?_
                refine ev_cV3v dX6_teach_99 ceX5_learn kX6_207 (rm_le rfl rfl) (Nat.le_of_ble_eq_true rfl) (Nat.le_of_ble_eq_true rfl) (e_learn st_21 (by omega) (by omega)) (by first | assumption | rfl) ?_
                refine ev_iload dX6_teach_102 rfl ?_
                exact ev_iretE dX6_teach_104 rfl rfl (by first | rfl | simp_all) (rfl)
              · refine ev_aload_n dX7_teach_0 rfl ?_
                refine ev_iload_n dX7_teach_1 rfl ?_
                refine ev_cV1 dX7_teach_2 ceX7_isReader kX7_169 (rm_le rfl rfl) (Nat.le_of_ble_eq_true rfl) (Nat.le_of_ble_eq_true rfl) (e7_isReader m2 l6) (by first | assumption | rfl) ?_
                rw [c1]
                refine ev_if_eq 29 dX7_teach_5 (by decide) (fun hc5 => False.elim (absurd hc5 (by decide))) (fun hc5 => ?_)
                refine ev_aload_n dX7_teach_8 rfl ?_
                refine ev_iload_n dX7_teach_9 rfl ?_
                refine ev_cV1 dX7_teach_10 ceX7_isReader kX7_169 (rm_le rfl rfl) (Nat.le_of_ble_eq_true rfl) (Nat.le_of_ble_eq_true rfl) (e7_isReader m2 l6) (by first | assumption | rfl) ?_
                rw [c2]
                refine ev_if_eq 29 dX7_teach_13 (by decide) (fun hc13 => False.elim (absurd hc13 (by decide))) (fun hc13 => ?_)
                refine ev_iload_n dX7_teach_16 rfl ?_
                refine ev_iload_n dX7_teach_17 rfl ?_
                refine ev_icmp_eq 29 dX7_teach_18 (by decide) (fun hc18 => False.elim (hab ((nI_eq (by omega) (by omega)).mp hc18))) (fun hc18 => ?_)
                refine ev_aload_n dX7_teach_21 rfl ?_
                refine ev_iload_n dX7_teach_22 rfl ?_
                refine ev_cV1 dX7_teach_23 ceX7_isLine kX7_161 (rm_le rfl rfl) (Nat.le_of_ble_eq_true rfl) (Nat.le_of_ble_eq_true rfl) (e7_isLine m1 l3) (by first | assumption | rfl) ?_
                rw [c3]
                refine ev_if_ne 32 dX7_teach_26 (by decide) (fun hc26 => ?_) (fun hc26 => False.elim (absurd hc26 (by decide)))
                refine ev_aload_n dX7_teach_32 rfl ?_
                refine ev_getR dX7_teach_33 fX7_7 (by first | assumption | rfl) (by rfl) ?_
                refine ev_sipush (v := (nI 160)) dX7_teach_36 (by decide) ?_
                refine ev_bipush (v := (nI 16)) dX7_teach_39 (by decide) ?_
                refine ev_iload_n dX7_teach_41 rfl ?_
                refine ev_imul dX7_teach_42 ?_
                refine ev_iadd dX7_teach_43 ?_
                refine ev_iload_n dX7_teach_44 rfl ?_
                refine ev_iadd dX7_teach_45 ?_
                refine ev_ialdE _ dX7_teach_46 (by first | with_reducible rfl | with_reducible exact nI_add _ _ | with_reducible exact ix3 _ _ _ | with_reducible exact ix_k _ _ _ | with_reducible exact ix_xk _ _ _ _) (by first | assumption | rfl) ⟨by omega, by decide⟩ ?_
                rw [hv2]
                refine ev_istore dX7_teach_47 (by decide) rfl ?_
                refine ev_aload_n dX7_teach_49 rfl ?_
                refine ev_getR dX7_teach_50 fX7_23 (by first | assumption | rfl) (by rfl) ?_
                refine ev_iload_n dX7_teach_53 rfl ?_
                refine ev_ialdE _ dX7_teach_54 (by first | with_reducible rfl | with_reducible exact nI_add _ _ | with_reducible exact ix3 _ _ _ | with_reducible exact ix_k _ _ _ | with_reducible exact ix_xk _ _ _ _) (by first | assumption | rfl) ⟨by omega, by decide⟩ ?_
                refine ev_iconst (v := (nI 4)) dX7_teach_55 (by decide) ?_
                refine ev_icmp_ne 64 dX7_teach_56 (by decide) (fun hc56 => False.elim (hc56 (by rw [← kk]; exact hk2))) (fun hc56 => ?_)
                refine ev_iload dX7_teach_59 rfl ?_
                refine ev_if_ge 67 dX7_teach_61 (by decide) (fun hc61 => ?_) (fun hc61 => False.elim (hc61 (nI_pos' (by omega))))
                refine ev_aload_n dX7_teach_67 rfl ?_
                refine ev_iconst (v := (nI 0)) dX7_teach_68 (by decide) ?_
                refine ev_iload_n dX7_teach_69 rfl ?_
                refine ev_iload_n dX7_teach_70 rfl ?_
                refine ev_iload dX7_teach_71 rfl ?_
                refine ev_cV4v dX7_teach_73 ceX7_know kX7_183 (rm_le rfl rfl) (Nat.le_of_ble_eq_true rfl) (Nat.le_of_ble_eq_true rfl) (e7_know (x := 0) (by decide) (by omega) (by omega)) (by first | assumption | rfl) ?_
                refine ev_aload_n dX7_teach_76 rfl ?_
                refine ev_iconst (v := (nI 0)) dX7_teach_77 (by decide) ?_
                refine ev_iload_n dX7_teach_78 rfl ?_
                refine ev_iload_n dX7_teach_79 rfl ?_
                refine ev_iload dX7_teach_80 rfl ?_
                refine ev_cV4v dX7_teach_82 ceX7_know kX7_183 (rm_le rfl rfl) (Nat.le_of_ble_eq_true rfl) (Nat.le_of_ble_eq_true rfl) (e7_know (x := 0) (by decide) (by omega) (by omega)) (by first | assumption | rfl) ?_
                refine ev_iload dX7_teach_85 rfl ?_
                exact ev_iretE dX7_teach_87 rfl rfl (by first | rfl | simp_all) (rfl)
          · refine ⟨(-1000000003), C, G, ?_, ?_, hR0⟩
            · refine ev_aload_n dX6_teach_0 rfl ?_
              refine ev_getR dX6_teach_1 fX6_23 (by first | assumption | rfl) (by rfl) ?_
              refine ev_iload_n dX6_teach_4 rfl ?_
              refine ev_cV1 dX6_teach_5 ceX1_hasReader kX6_147 (rm_le rfl rfl) (Nat.le_of_ble_eq_true rfl) (Nat.le_of_ble_eq_true rfl) (e_hasReader) (by first | assumption | rfl) ?_
              rw [r1, c1]
              refine ev_if_eq 38 dX6_teach_8 (by decide) (fun hc8 => False.elim (absurd hc8 (by decide))) (fun hc8 => ?_)
              refine ev_aload_n dX6_teach_11 rfl ?_
              refine ev_getR dX6_teach_12 fX6_23 (by first | assumption | rfl) (by rfl) ?_
              refine ev_iload_n dX6_teach_15 rfl ?_
              refine ev_cV1 dX6_teach_16 ceX1_hasReader kX6_147 (rm_le rfl rfl) (Nat.le_of_ble_eq_true rfl) (Nat.le_of_ble_eq_true rfl) (e_hasReader) (by first | assumption | rfl) ?_
              rw [r1, c2]
              refine ev_if_eq 38 dX6_teach_19 (by decide) (fun hc19 => False.elim (absurd hc19 (by decide))) (fun hc19 => ?_)
              refine ev_iload_n dX6_teach_22 rfl ?_
              refine ev_iload_n dX6_teach_23 rfl ?_
              refine ev_icmp_eq 38 dX6_teach_24 (by decide) (fun hc24 => False.elim (hab ((nI_eq (by omega) (by omega)).mp hc24))) (fun hc24 => ?_)
              refine ev_aload_n dX6_teach_27 rfl ?_
              refine ev_getR dX6_teach_28 fX6_23 (by first | assumption | rfl) (by rfl) ?_
              refine ev_iload_n dX6_teach_31 rfl ?_
              refine ev_cV1 dX6_teach_32 ceX1_hasLine kX6_123 (rm_le rfl rfl) (Nat.le_of_ble_eq_true rfl) (Nat.le_of_ble_eq_true rfl) (e_hasLine) (by first | assumption | rfl) ?_
              rw [l1, c3]
              refine ev_if_ne 41 dX6_teach_35 (by decide) (fun hc35 => ?_) (fun hc35 => False.elim (absurd hc35 (by decide)))
              refine ev_aload_n dX6_teach_41 rfl ?_
              refine ev_getR dX6_teach_42 fX6_23 (by first | assumption | rfl) (by rfl) ?_
              refine ev_getR dX6_teach_45 fX6_150 (by first | assumption | rfl) (by rfl) ?_
              refine ev_iload_n dX6_teach_48 rfl ?_
              refine ev_ialdE _ dX6_teach_49 (rfl) (by first | assumption | rfl) ⟨by omega, by decide⟩ ?_
              refine ev_iconst (v := (nI 4)) dX6_teach_50 (by decide) ?_
              refine ev_icmp_ne 66 dX6_teach_51 (by decide) (fun hc51 => ?_) (fun hc51 => False.elim (hk2 hc51))
              refine ev_ldc (v := (-1000000003)) dX6_teach_66 nX6_194 ?_
              exact ev_iretE dX6_teach_68 rfl rfl (by first | rfl | simp_all) (rfl)
            · refine ev_aload_n dX7_teach_0 rfl ?_
              refine ev_iload_n dX7_teach_1 rfl ?_
              refine ev_cV1 dX7_teach_2 ceX7_isReader kX7_169 (rm_le rfl rfl) (Nat.le_of_ble_eq_true rfl) (Nat.le_of_ble_eq_true rfl) (e7_isReader m2 l6) (by first | assumption | rfl) ?_
              rw [c1]
              refine ev_if_eq 29 dX7_teach_5 (by decide) (fun hc5 => False.elim (absurd hc5 (by decide))) (fun hc5 => ?_)
              refine ev_aload_n dX7_teach_8 rfl ?_
              refine ev_iload_n dX7_teach_9 rfl ?_
              refine ev_cV1 dX7_teach_10 ceX7_isReader kX7_169 (rm_le rfl rfl) (Nat.le_of_ble_eq_true rfl) (Nat.le_of_ble_eq_true rfl) (e7_isReader m2 l6) (by first | assumption | rfl) ?_
              rw [c2]
              refine ev_if_eq 29 dX7_teach_13 (by decide) (fun hc13 => False.elim (absurd hc13 (by decide))) (fun hc13 => ?_)
              refine ev_iload_n dX7_teach_16 rfl ?_
              refine ev_iload_n dX7_teach_17 rfl ?_
              refine ev_icmp_eq 29 dX7_teach_18 (by decide) (fun hc18 => False.elim (hab ((nI_eq (by omega) (by omega)).mp hc18))) (fun hc18 => ?_)
              refine ev_aload_n dX7_teach_21 rfl ?_
              refine ev_iload_n dX7_teach_22 rfl ?_
              refine ev_cV1 dX7_teach_23 ceX7_isLine kX7_161 (rm_le rfl rfl) (Nat.le_of_ble_eq_true rfl) (Nat.le_of_ble_eq_true rfl) (e7_isLine m1 l3) (by first | assumption | rfl) ?_
              rw [c3]
              refine ev_if_ne 32 dX7_teach_26 (by decide) (fun hc26 => ?_) (fun hc26 => False.elim (absurd hc26 (by decide)))
              refine ev_aload_n dX7_teach_32 rfl ?_
              refine ev_getR dX7_teach_33 fX7_7 (by first | assumption | rfl) (by rfl) ?_
              refine ev_sipush (v := (nI 160)) dX7_teach_36 (by decide) ?_
              refine ev_bipush (v := (nI 16)) dX7_teach_39 (by decide) ?_
              refine ev_iload_n dX7_teach_41 rfl ?_
              refine ev_imul dX7_teach_42 ?_
              refine ev_iadd dX7_teach_43 ?_
              refine ev_iload_n dX7_teach_44 rfl ?_
              refine ev_iadd dX7_teach_45 ?_
              refine ev_ialdE _ dX7_teach_46 (by first | with_reducible rfl | with_reducible exact nI_add _ _ | with_reducible exact ix3 _ _ _ | with_reducible exact ix_k _ _ _ | with_reducible exact ix_xk _ _ _ _) (by first | assumption | rfl) ⟨by omega, by decide⟩ ?_
              refine ev_istore dX7_teach_47 (by decide) rfl ?_
              refine ev_aload_n dX7_teach_49 rfl ?_
              refine ev_getR dX7_teach_50 fX7_23 (by first | assumption | rfl) (by rfl) ?_
              refine ev_iload_n dX7_teach_53 rfl ?_
              refine ev_ialdE _ dX7_teach_54 (by first | with_reducible rfl | with_reducible exact nI_add _ _ | with_reducible exact ix3 _ _ _ | with_reducible exact ix_k _ _ _ | with_reducible exact ix_xk _ _ _ _) (by first | assumption | rfl) ⟨by omega, by decide⟩ ?_
              refine ev_iconst (v := (nI 4)) dX7_teach_55 (by decide) ?_
              refine ev_icmp_ne 64 dX7_teach_56 (by decide) (fun hc56 => ?_) (fun hc56 => False.elim (hk2 (by rw [kk]; exact hc56)))
              refine ev_ldc (v := (-1000000003)) dX7_teach_64 nX7_187 ?_
              exact ev_iretE dX7_teach_66 rfl rfl (by first | rfl | simp_all) (rfl)
        · refine ⟨(-1000000001), C, G, ?_, ?_, hR0⟩
          · refine ev_aload_n dX6_teach_0 rfl ?_
            refine ev_getR dX6_teach_1 fX6_23 (by first | assumption | rfl) (by rfl) ?_
            refine ev_iload_n dX6_teach_4 rfl ?_
            refine ev_cV1 dX6_teach_5 ceX1_hasReader kX6_147 (rm_le rfl rfl) (Nat.le_of_ble_eq_true rfl) (Nat.le_of_ble_eq_true rfl) (e_hasReader) (by first | assumption | rfl) ?_
            rw [r1, c1]
            refine ev_if_eq 38 dX6_teach_8 (by decide) (fun hc8 => False.elim (absurd hc8 (by decide))) (fun hc8 => ?_)
            refine ev_aload_n dX6_teach_11 rfl ?_
            refine ev_getR dX6_teach_12 fX6_23 (by first | assumption | rfl) (by rfl) ?_
            refine ev_iload_n dX6_teach_15 rfl ?_
            refine ev_cV1 dX6_teach_16 ceX1_hasReader kX6_147 (rm_le rfl rfl) (Nat.le_of_ble_eq_true rfl) (Nat.le_of_ble_eq_true rfl) (e_hasReader) (by first | assumption | rfl) ?_
            rw [r1, c2]
            refine ev_if_eq 38 dX6_teach_19 (by decide) (fun hc19 => False.elim (absurd hc19 (by decide))) (fun hc19 => ?_)
            refine ev_iload_n dX6_teach_22 rfl ?_
            refine ev_iload_n dX6_teach_23 rfl ?_
            refine ev_icmp_eq 38 dX6_teach_24 (by decide) (fun hc24 => False.elim (hab ((nI_eq (by omega) (by omega)).mp hc24))) (fun hc24 => ?_)
            refine ev_aload_n dX6_teach_27 rfl ?_
            refine ev_getR dX6_teach_28 fX6_23 (by first | assumption | rfl) (by rfl) ?_
            refine ev_iload_n dX6_teach_31 rfl ?_
            refine ev_cV1 dX6_teach_32 ceX1_hasLine kX6_123 (rm_le rfl rfl) (Nat.le_of_ble_eq_true rfl) (Nat.le_of_ble_eq_true rfl) (e_hasLine) (by first | assumption | rfl) ?_
            rw [l1, c3]
            refine ev_if_ne 41 dX6_teach_35 (by decide) (fun hc35 => False.elim (absurd hc35 (by decide))) (fun hc35 => ?_)
            refine ev_ldc (v := (-1000000001)) dX6_teach_38 nX6_127 ?_
            exact ev_iretE dX6_teach_40 rfl rfl (by first | rfl | simp_all) (rfl)
          · refine ev_aload_n dX7_teach_0 rfl ?_
            refine ev_iload_n dX7_teach_1 rfl ?_
            refine ev_cV1 dX7_teach_2 ceX7_isReader kX7_169 (rm_le rfl rfl) (Nat.le_of_ble_eq_true rfl) (Nat.le_of_ble_eq_true rfl) (e7_isReader m2 l6) (by first | assumption | rfl) ?_
            rw [c1]
            refine ev_if_eq 29 dX7_teach_5 (by decide) (fun hc5 => False.elim (absurd hc5 (by decide))) (fun hc5 => ?_)
            refine ev_aload_n dX7_teach_8 rfl ?_
            refine ev_iload_n dX7_teach_9 rfl ?_
            refine ev_cV1 dX7_teach_10 ceX7_isReader kX7_169 (rm_le rfl rfl) (Nat.le_of_ble_eq_true rfl) (Nat.le_of_ble_eq_true rfl) (e7_isReader m2 l6) (by first | assumption | rfl) ?_
            rw [c2]
            refine ev_if_eq 29 dX7_teach_13 (by decide) (fun hc13 => False.elim (absurd hc13 (by decide))) (fun hc13 => ?_)
            refine ev_iload_n dX7_teach_16 rfl ?_
            refine ev_iload_n dX7_teach_17 rfl ?_
            refine ev_icmp_eq 29 dX7_teach_18 (by decide) (fun hc18 => False.elim (hab ((nI_eq (by omega) (by omega)).mp hc18))) (fun hc18 => ?_)
            refine ev_aload_n dX7_teach_21 rfl ?_
            refine ev_iload_n dX7_teach_22 rfl ?_
            refine ev_cV1 dX7_teach_23 ceX7_isLine kX7_161 (rm_le rfl rfl) (Nat.le_of_ble_eq_true rfl) (Nat.le_of_ble_eq_true rfl) (e7_isLine m1 l3) (by first | assumption | rfl) ?_
            rw [c3]
            refine ev_if_ne 32 dX7_teach_26 (by decide) (fun hc26 => False.elim (absurd hc26 (by decide))) (fun hc26 => ?_)
            refine ev_ldc (v := (-1000000001)) dX7_teach_29 nX7_165 ?_
            exact ev_iretE dX7_teach_31 rfl rfl (by first | rfl | simp_all) (rfl)
    · refine ⟨(-1000000001), C, G, ?_, ?_, hR0⟩
      · refine ev_aload_n dX6_teach_0 rfl ?_
        refine ev_getR dX6_teach_1 fX6_23 (by first | assumption | rfl) (by rfl) ?_
        refine ev_iload_n dX6_teach_4 rfl ?_
        refine ev_cV1 dX6_teach_5 ceX1_hasReader kX6_147 (rm_le rfl rfl) (Nat.le_of_ble_eq_true rfl) (Nat.le_of_ble_eq_true rfl) (e_hasReader) (by first | assumption | rfl) ?_
        rw [r1, c1]
        refine ev_if_eq 38 dX6_teach_8 (by decide) (fun hc8 => False.elim (absurd hc8 (by decide))) (fun hc8 => ?_)
        refine ev_aload_n dX6_teach_11 rfl ?_
        refine ev_getR dX6_teach_12 fX6_23 (by first | assumption | rfl) (by rfl) ?_
        refine ev_iload_n dX6_teach_15 rfl ?_
        refine ev_cV1 dX6_teach_16 ceX1_hasReader kX6_147 (rm_le rfl rfl) (Nat.le_of_ble_eq_true rfl) (Nat.le_of_ble_eq_true rfl) (e_hasReader) (by first | assumption | rfl) ?_
        rw [r1, c2]
        refine ev_if_eq 38 dX6_teach_19 (by decide) (fun hc19 => ?_) (fun hc19 => False.elim (absurd hc19 (by decide)))
        refine ev_ldc (v := (-1000000001)) dX6_teach_38 nX6_127 ?_
        exact ev_iretE dX6_teach_40 rfl rfl (by first | rfl | simp_all) (rfl)
      · refine ev_aload_n dX7_teach_0 rfl ?_
        refine ev_iload_n dX7_teach_1 rfl ?_
        refine ev_cV1 dX7_teach_2 ceX7_isReader kX7_169 (rm_le rfl rfl) (Nat.le_of_ble_eq_true rfl) (Nat.le_of_ble_eq_true rfl) (e7_isReader m2 l6) (by first | assumption | rfl) ?_
        rw [c1]
        refine ev_if_eq 29 dX7_teach_5 (by decide) (fun hc5 => False.elim (absurd hc5 (by decide))) (fun hc5 => ?_)
        refine ev_aload_n dX7_teach_8 rfl ?_
        refine ev_iload_n dX7_teach_9 rfl ?_
        refine ev_cV1 dX7_teach_10 ceX7_isReader kX7_169 (rm_le rfl rfl) (Nat.le_of_ble_eq_true rfl) (Nat.le_of_ble_eq_true rfl) (e7_isReader m2 l6) (by first | assumption | rfl) ?_
        rw [c2]
        refine ev_if_eq 29 dX7_teach_13 (by decide) (fun hc13 => ?_) (fun hc13 => False.elim (absurd hc13 (by decide)))
        refine ev_ldc (v := (-1000000001)) dX7_teach_29 nX7_165 ?_
        exact ev_iretE dX7_teach_31 rfl rfl (by first | rfl | simp_all) (rfl)
  · refine ⟨(-1000000001), C, G, ?_, ?_, hR0⟩
    · refine ev_aload_n dX6_teach_0 rfl ?_
      refine ev_getR dX6_teach_1 fX6_23 (by first | assumption | rfl) (by rfl) ?_
      refine ev_iload_n dX6_teach_4 rfl ?_
      refine ev_cV1 dX6_teach_5 ceX1_hasReader kX6_147 (rm_le rfl rfl) (Nat.le_of_ble_eq_true rfl) (Nat.le_of_ble_eq_true rfl) (e_hasReader) (by first | assumption | rfl) ?_
      rw [r1, c1]
      refine ev_if_eq 38 dX6_teach_8 (by decide) (fun hc8 => ?_) (fun hc8 => False.elim (absurd hc8 (by decide)))
      refine ev_ldc (v := (-1000000001)) dX6_teach_38 nX6_127 ?_
      exact ev_iretE dX6_teach_40 rfl rfl (by first | rfl | simp_all) (rfl)
    · refine ev_aload_n dX7_teach_0 rfl ?_
      refine ev_iload_n dX7_teach_1 rfl ?_
      refine ev_cV1 dX7_teach_2 ceX7_isReader kX7_169 (rm_le rfl rfl) (Nat.le_of_ble_eq_true rfl) (Nat.le_of_ble_eq_true rfl) (e7_isReader m2 l6) (by first | assumption | rfl) ?_
      rw [c1]
      refine ev_if_eq 29 dX7_teach_5 (by decide) (fun hc5 => ?_) (fun hc5 => False.elim (absurd hc5 (by decide)))
      refine ev_ldc (v := (-1000000001)) dX7_teach_29 nX7_165 ?_
      exact ev_iretE dX7_teach_31 rfl rfl (by first | rfl | simp_all) (rfl)
theorem up9_n {d N : Nat} (hd : d ≤ 9999) : nI d + dA (nI d) (nI N) = nI (if 9999 - d < N then 9999 else d + N) ∨ 2 ^ 30 ≤ N := by
  rcases Nat.lt_or_ge N (2 ^ 30) with h | h
  · left
    rw [dA_nI hd h, nI_add]
    congr 1
    split <;> omega
  · exact Or.inr h
set_option maxRecDepth 20000 in
set_option maxHeartbeats 2000000 in
theorem sim_dusksM {n nl nr N : Nat} {tm : Nat → Nat} {C : rf_Mem} (hN : N ≤ 200) : ∀ (m j e : Nat) (G : rf_Mem), N - j = m → j ≤ N → Sim true 21 0 n e nl nr tm (rf_set C 21 10 (nI e)) G → ∃ G', Ev LayM mX7_dusk 17 [some (.ref 0), some (.int (nI N)), some (.int (nI (j)))] [] G (some (.int (nI (if 9999 - e < N - j then 9999 else e + (N - j))))) G' ∧ Sim true 21 0 n (if 9999 - e < N - j then 9999 else e + (N - j)) nl nr tm (rf_set C 21 10 (nI (if 9999 - e < N - j then 9999 else e + (N - j)))) G' ∧ FrG 0 G G' := by
  intro m
  induction m with
  | zero =>
    intro j e G hm hj h
    have e1 : j = N := by omega
    subst e1
    have w2 : G 1 1334 = nI e := by have := h.2.1.2.1.2.1; rw [Nat.zero_add] at this; exact this
    have w3 : e ≤ 9999 := h.2.1.2.1.2.2
    have w4 : (if 9999 - e < j - j then 9999 else e + (j - j)) = e := by split <;> omega
    rw [w4]
    refine ⟨G, ?_, h, FrG.rf 0 G⟩
    refine ev_iload_n dX7_dusk_17 rfl ?_
    refine ev_iload_n dX7_dusk_18 rfl ?_
    refine ev_icmp_ge 33 dX7_dusk_19 (by decide) (fun hc19 => ?_) (fun hc19 => False.elim (hc19 (nI_le (Nat.le_refl _) (by omega))))
    refine ev_aload_n dX7_dusk_33 rfl ?_
    refine ev_getR dX7_dusk_34 fX7_7 (by first | assumption | rfl) (by rfl) ?_
    refine ev_sipush (v := (nI 1334)) dX7_dusk_37 (by decide) ?_
    refine ev_ialdE _ dX7_dusk_40 (by first | with_reducible rfl | with_reducible exact nI_add _ _ | with_reducible exact ix3 _ _ _ | with_reducible exact ix_k _ _ _ | with_reducible exact ix_xk _ _ _ _) (by first | assumption | rfl) ⟨by omega, by decide⟩ ?_
    exact ev_iretE dX7_dusk_41 rfl rfl (by rw [w2]) (rfl)
  | succ m ih =>
    intro j e G hm hj h
    obtain ⟨h1, f1⟩ := dusks (by decide) h
    have hL := h.1
    have w3 : e ≤ 9999 := h.2.1.2.1.2.2
    obtain ⟨G2, u1, h2, f2⟩ := ih (j + 1) (up9 e) _ (by omega) (by omega) h1
    have w4 : (if 9999 - up9 e < N - (j + 1) then 9999 else up9 e + (N - (j + 1))) = (if 9999 - e < N - j then 9999 else e + (N - j)) := by unfold up9; split <;> split <;> split <;> omega
    rw [w4] at u1 h2
    refine ⟨G2, ?_, h2, f1.tr f2⟩
    refine ev_iload_n dX7_dusk_17 rfl ?_
    refine ev_iload_n dX7_dusk_18 rfl ?_
    refine ev_icmp_ge 33 dX7_dusk_19 (by decide) (fun hc19 => False.elim (nI_ge (show j < N by omega) (by omega) hc19)) (fun hc19 => ?_)
    refine ev_aload_n dX7_dusk_22 rfl ?_
    refine ev_iconst (v := (nI 0)) dX7_dusk_23 (by decide) ?_
    refine ev_cV1v dX7_dusk_24 ceX7_darken kX7_208 (rm_le rfl rfl) (Nat.le_of_ble_eq_true rfl) (Nat.le_of_ble_eq_true rfl) (e7_darken (x := 0) (by decide) hL.2.2.2.2.1 hL.2.2.2.2.2.1 hL.2.1 hL.2.2.1) (by first | assumption | rfl) ?_
    refine ev_iinc (v := (nI 1)) dX7_dusk_27 rfl (by decide) (by decide) rfl ?_
    refine ev_goto 17 dX7_dusk_30 (by decide) ?_
    exact ev_st u1 (by simp [nI_add]) rfl rfl
set_option maxRecDepth 20000 in
set_option maxHeartbeats 2000000 in
theorem op_dusk {x : Int32} : OpOk mX6_dusk mX7_dusk [.int x] := by
  intro C G hR
  have hR0 := hR
  obtain ⟨nl, nr, tm, n, d, nq, tl, nd, b0, b1, kt, hp⟩ := hR
  obtain ⟨hS, hE, hQ, hT, hDr, hI, hkt, hkt3⟩ := id hp
  have hL := hS.1
  obtain ⟨l1, m1, l3, r1, m2, l6, le, lw, lr⟩ := id hL
  obtain ⟨hP, ⟨d1, d2, d3⟩, ⟨s1, s2⟩, hH⟩ := id hS.2.1
  obtain ⟨p1, p2, p3, p4, p5⟩ := id hP
  rw [Nat.zero_add] at p2 d2 s1
  obtain ⟨-, -, k, k', q1, q2, q3, q4, q5⟩ := id hS
  obtain ⟨ke, kl⟩ := q5 rfl
  subst ke
  obtain ⟨-, -, -, kl4⟩ := id kl
  rw [Nat.zero_add] at q3
  rcases rg1 x (m := 200) (by decide) with ⟨N, hN1, hN, e, c1, c2, hck⟩ | ⟨hck, c1 | ⟨c1, c2⟩⟩
  · subst e
    have hS0 : Sim true 21 0 n d nl nr tm (rf_set C 21 10 (nI d)) G := by rw [gs_id C 21 10 d1]; exact hS
    obtain ⟨G2, u1, h2, f2⟩ := sim_dusksM hN N 0 d G (by omega) (Nat.zero_le _) hS0
    rw [Nat.sub_zero] at u1 h2
    have eD : C 21 10 + dA (C 21 10) (nI N) = nI (if 9999 - d < N then 9999 else d + N) := by
      rw [d1]
      rcases up9_n (N := N) d3 with y | y
      · exact y
      · omega
    have f1 : FrC 21 C (rf_set C 21 10 (nI (if 9999 - d < N then 9999 else d + N))) := fun a ha => gs_q _ _ _ (by omega)
    refine ⟨nI (if 9999 - d < N then 9999 else d + N), _, G2, ?_, ?_, hp.act h2 f1 f2⟩
    · refine ev_iload_n dX6_dusk_0 rfl ?_
      refine ev_iconst (v := (nI 1)) dX6_dusk_1 (by decide) ?_
      refine ev_icmp_lt 12 dX6_dusk_2 (by decide) (fun hc2 => False.elim (c1 hc2)) (fun hc2 => ?_)
      refine ev_iload_n dX6_dusk_5 rfl ?_
      refine ev_sipush (v := (nI 200)) dX6_dusk_6 (by decide) ?_
      refine ev_icmp_le 15 dX6_dusk_9 (by decide) (fun hc9 => ?_) (fun hc9 => False.elim (hc9 c2))
      refine ev_aload_n dX6_dusk_15 rfl ?_
      refine ev_getR dX6_dusk_16 fX6_31 (by first | assumption | rfl) (by rfl) ?_
      refine ev_iload_n dX6_dusk_19 rfl ?_
      refine ev_cV1v dX6_dusk_20 ceX5_passDusks kX6_211 (rm_le rfl rfl) (Nat.le_of_ble_eq_true rfl) (Nat.le_of_ble_eq_true rfl) (e_passDusks st_21) (by first | assumption | rfl) ?_
      refine ev_aload_n dX6_dusk_23 rfl ?_
      refine ev_getR dX6_dusk_24 fX6_31 (by first | assumption | rfl) (by rfl) ?_
      refine ev_getI dX6_dusk_27 fX6_113 (by first | assumption | rfl) (by rfl) ?_
      exact ev_iretE dX6_dusk_30 rfl rfl (by rw [gs_same, eD]) (by rw [eD])
    · refine ev_iload_n dX7_dusk_0 rfl ?_
      refine ev_i2l dX7_dusk_1 ?_
      refine ev_lconst (v := 1) dX7_dusk_2 rfl ?_
      refine ev_ldc2 dX7_dusk_3 nX7_206 ?_
      refine ev_cS3 dX7_dusk_6 ceX7_in kX7_59 (rm_le rfl rfl) (Nat.le_of_ble_eq_true rfl) (Nat.le_of_ble_eq_true rfl) (e7_in) ?_
      rw [in_c _ (nI 1) (nI 200) (by decide) (by decide), hck]
      refine ev_if_ne 15 dX7_dusk_9 (by decide) (fun hc9 => ?_) (fun hc9 => False.elim (absurd hc9 (by decide)))
      refine ev_iconst (v := (nI 0)) dX7_dusk_15 (by decide) ?_
      refine ev_istore_k 2 dX7_dusk_16 rfl (by decide) rfl ?_
      exact ev_st u1 rfl rfl rfl
  · refine ⟨(-1000000002), C, G, ?_, ?_, hR0⟩
    · refine ev_iload_n dX6_dusk_0 rfl ?_
      refine ev_iconst (v := (nI 1)) dX6_dusk_1 (by decide) ?_
      refine ev_icmp_lt 12 dX6_dusk_2 (by decide) (fun hc2 => ?_) (fun hc2 => False.elim (hc2 c1))
      refine ev_ldc (v := (-1000000002)) dX6_dusk_12 nX6_70 ?_
      exact ev_iretE dX6_dusk_14 rfl rfl (by first | rfl | simp_all) (rfl)
    · refine ev_iload_n dX7_dusk_0 rfl ?_
      refine ev_i2l dX7_dusk_1 ?_
      refine ev_lconst (v := 1) dX7_dusk_2 rfl ?_
      refine ev_ldc2 dX7_dusk_3 nX7_206 ?_
      refine ev_cS3 dX7_dusk_6 ceX7_in kX7_59 (rm_le rfl rfl) (Nat.le_of_ble_eq_true rfl) (Nat.le_of_ble_eq_true rfl) (e7_in) ?_
      rw [in_c _ (nI 1) (nI 200) (by decide) (by decide), hck]
      refine ev_if_ne 15 dX7_dusk_9 (by decide) (fun hc9 => False.elim (absurd hc9 (by decide))) (fun hc9 => ?_)
      refine ev_ldc (v := (-1000000002)) dX7_dusk_12 nX7_63 ?_
      exact ev_iretE dX7_dusk_14 rfl rfl (by first | rfl | simp_all) (rfl)
  · refine ⟨(-1000000002), C, G, ?_, ?_, hR0⟩
    · refine ev_iload_n dX6_dusk_0 rfl ?_
      refine ev_iconst (v := (nI 1)) dX6_dusk_1 (by decide) ?_
      refine ev_icmp_lt 12 dX6_dusk_2 (by decide) (fun hc2 => False.elim (c1 hc2)) (fun hc2 => ?_)
      refine ev_iload_n dX6_dusk_5 rfl ?_
      refine ev_sipush (v := (nI 200)) dX6_dusk_6 (by decide) ?_
      refine ev_icmp_le 15 dX6_dusk_9 (by decide) (fun hc9 => False.elim (c2 hc9)) (fun hc9 => ?_)
      refine ev_ldc (v := (-1000000002)) dX6_dusk_12 nX6_70 ?_
      exact ev_iretE dX6_dusk_14 rfl rfl (by first | rfl | simp_all) (rfl)
    · refine ev_iload_n dX7_dusk_0 rfl ?_
      refine ev_i2l dX7_dusk_1 ?_
      refine ev_lconst (v := 1) dX7_dusk_2 rfl ?_
      refine ev_ldc2 dX7_dusk_3 nX7_206 ?_
      refine ev_cS3 dX7_dusk_6 ceX7_in kX7_59 (rm_le rfl rfl) (Nat.le_of_ble_eq_true rfl) (Nat.le_of_ble_eq_true rfl) (e7_in) ?_
      rw [in_c _ (nI 1) (nI 200) (by decide) (by decide), hck]
      refine ev_if_ne 15 dX7_dusk_9 (by decide) (fun hc9 => False.elim (absurd hc9 (by decide))) (fun hc9 => ?_)
      refine ev_ldc (v := (-1000000002)) dX7_dusk_12 nX7_63 ?_
      exact ev_iretE dX7_dusk_14 rfl rfl (by first | rfl | simp_all) (rfl)
set_option maxRecDepth 20000 in
set_option maxHeartbeats 2000000 in
theorem op_whence {l0 x : Int32} : OpOk mX6_whence mX7_whence [.int l0, .int x] := by
  intro C G hR
  have hR0 := hR
  obtain ⟨nl, nr, tm, n, d, nq, tl, nd, b0, b1, kt, hp⟩ := hR
  obtain ⟨hS, hE, hQ, hT, hDr, hI, hkt, hkt3⟩ := id hp
  have hL := hS.1
  obtain ⟨l1, m1, l3, r1, m2, l6, le, lw, lr⟩ := id hL
  obtain ⟨hP, ⟨d1, d2, d3⟩, ⟨s1, s2⟩, hH⟩ := id hS.2.1
  obtain ⟨p1, p2, p3, p4, p5⟩ := id hP
  rw [Nat.zero_add] at p2 d2 s1
  obtain ⟨-, -, k, k', q1, q2, q3, q4, q5⟩ := id hS
  obtain ⟨ke, kl⟩ := q5 rfl
  subst ke
  obtain ⟨-, -, -, kl4⟩ := id kl
  rw [Nat.zero_add] at q3
  rcases ck l0 (show nl < 2 ^ 31 by omega) with ⟨l, hl, e, hck⟩ | hck
  · subst e
    rcases rg0 x (m := 99) (by decide) with ⟨v, hv, e2, c1, c2, hck2⟩ | ⟨hck2, c1 | ⟨c1, c2⟩⟩
    · subst e2
      refine ⟨(fW (fun p => decide (C (21 + 1) p = nI l) && decide (C (21 + 2) p = nI v)) (C (21 + 4)) n), C, G, ?_, ?_, hR0⟩
      · refine ev_aload_n dX6_whence_0 rfl ?_
        refine ev_getR dX6_whence_1 fX6_23 (by first | assumption | rfl) (by rfl) ?_
        refine ev_iload_n dX6_whence_4 rfl ?_
        refine ev_cV1 dX6_whence_5 ceX1_hasLine kX6_123 (rm_le rfl rfl) (Nat.le_of_ble_eq_true rfl) (Nat.le_of_ble_eq_true rfl) (e_hasLine) (by first | assumption | rfl) ?_
        rw [l1, hck]
        refine ev_if_ne 14 dX6_whence_8 (by decide) (fun hc8 => ?_) (fun hc8 => False.elim (absurd hc8 (by decide)))
        refine ev_iload_n dX6_whence_14 rfl ?_
        refine ev_if_lt 24 dX6_whence_15 (by decide) (fun hc15 => False.elim (c1 hc15)) (fun hc15 => ?_)
        refine ev_iload_n dX6_whence_18 rfl ?_
        refine ev_bipush (v := (nI 99)) dX6_whence_19 (by decide) ?_
        refine ev_icmp_le 27 dX6_whence_21 (by decide) (fun hc21 => ?_) (fun hc21 => False.elim (hc21 c2))
        refine ev_aload_n dX6_whence_27 rfl ?_
        refine ev_getR dX6_whence_28 fX6_31 (by first | assumption | rfl) (by rfl) ?_
        refine ev_iload_n dX6_whence_31 rfl ?_
        refine ev_iload_n dX6_whence_32 rfl ?_
        refine ev_cV2 dX6_whence_33 ceX5_firstWriter kX6_298 (rm_le rfl rfl) (Nat.le_of_ble_eq_true rfl) (Nat.le_of_ble_eq_true rfl) (e_firstWriter st_21 p1 p3) (by first | assumption | rfl) ?_
        exact ev_iretE dX6_whence_36 rfl rfl (by first | rfl | simp_all) (rfl)
      · rcases Nat.eq_zero_or_pos v with v0 | v0
        · subst v0
          have hz : (fW (fun p => decide (C (21 + 1) p = nI l) && decide (C (21 + 2) p = nI 0)) (C (21 + 4)) n) = nI 0 := by
            have e1 : (fun p => decide (C (21 + 1) p = nI l) && decide (C (21 + 2) p = nI 0)) l = true := by
              obtain ⟨-, -, -, -, y, -⟩ := p5 l (by omega)
              obtain ⟨y1, y2, y3⟩ := y hl
              simp [y1, y2]
            have e2 : ∀ j, j < l → (fun p => decide (C (21 + 1) p = nI l) && decide (C (21 + 2) p = nI 0)) j = false := fun j hj => by
              obtain ⟨-, -, -, -, y, -⟩ := p5 j (by omega)
              have y1 := (y (by omega)).1
              have y2 : ¬ nI j = nI l := fun z => by have := (nI_eq (by omega) (by omega)).mp z; omega
              simp only [y1, decide_eq_false y2, Bool.false_and]
            rw [fW_hit (show l < n by omega) e2 e1]
            obtain ⟨-, -, -, -, y, -⟩ := p5 l (by omega)
            rw [if_pos (y hl).2.2]
          refine ev_aload_n dX7_whence_0 rfl ?_
          refine ev_iload_n dX7_whence_1 rfl ?_
          refine ev_cV1 dX7_whence_2 ceX7_isLine kX7_161 (rm_le rfl rfl) (Nat.le_of_ble_eq_true rfl) (Nat.le_of_ble_eq_true rfl) (e7_isLine m1 l3) (by first | assumption | rfl) ?_
          rw [hck]
          refine ev_if_ne 11 dX7_whence_5 (by decide) (fun hc5 => ?_) (fun hc5 => False.elim (absurd hc5 (by decide)))
          refine ev_iload_n dX7_whence_11 rfl ?_
          refine ev_i2l dX7_whence_12 ?_
          refine ev_lconst (v := 0) dX7_whence_13 rfl ?_
          refine ev_ldc2 dX7_whence_14 nX7_218 ?_
          refine ev_cS3 dX7_whence_17 ceX7_in kX7_59 (rm_le rfl rfl) (Nat.le_of_ble_eq_true rfl) (Nat.le_of_ble_eq_true rfl) (e7_in) ?_
          rw [in_c _ 0 (nI 99) (by decide) (by decide), hck2]
          refine ev_if_ne 26 dX7_whence_20 (by decide) (fun hc20 => ?_) (fun hc20 => False.elim (absurd hc20 (by decide)))
          refine ev_iconst (v := (nI 0)) dX7_whence_26 (by decide) ?_
          refine ev_istore_k 3 dX7_whence_27 rfl (by decide) rfl ?_
          refine ev_iload_n dX7_whence_28 rfl ?_
          refine ev_aload_n dX7_whence_29 rfl ?_
          refine ev_getR dX7_whence_30 fX7_7 (by first | assumption | rfl) (by rfl) ?_
          refine ev_sipush (v := (nI 1332)) dX7_whence_33 (by decide) ?_
          refine ev_ialdE _ dX7_whence_36 (by first | with_reducible rfl | with_reducible exact nI_add _ _ | with_reducible exact ix3 _ _ _ | with_reducible exact ix_k _ _ _ | with_reducible exact ix_xk _ _ _ _) (by first | assumption | rfl) ⟨by omega, by decide⟩ ?_
          refine ev_icmp_ge 85 dX7_whence_37 (by decide) (fun hc37 => ?_) (fun hc37 => ?_)
          · skip
            refine ev_iconst (v := (nI 0)) dX7_whence_85 (by decide) ?_
            exact ev_iretE dX7_whence_86 rfl rfl (by rw [hz]) (rfl)
          · skip
            refine ev_iload_n dX7_whence_40 rfl ?_
            refine ev_if_le 85 dX7_whence_41 (by decide) (fun hc41 => ?_) (fun hc41 => False.elim (hc41 (by decide)))
            refine ev_iconst (v := (nI 0)) dX7_whence_85 (by decide) ?_
            exact ev_iretE dX7_whence_86 rfl rfl (by rw [hz]) (rfl)
        · have sm : ∀ p, p < n → (fun p => decide (G 1 p = nI l) && decide (G 1 (40 + p) = nI v)) p = (fun p => decide (C (21 + 1) p = nI l) && decide (C (21 + 2) p = nI v)) p := fun p hp => by
            obtain ⟨⟨a1, a2, -, -⟩, -⟩ := p5 p hp
            simp only [Nat.zero_add] at a1 a2
            simp only [a1, a2]
          have key := ev_forI (Lay := LayM) (y := mX7_whence) (pc := 28) (r := some (.int (fW (fun p => decide (C (21 + 1) p = nI l) && decide (C (21 + 2) p = nI v)) (C (21 + 4)) n))) (M' := G) n (fun i => ∀ j, j < i → (fun p => decide (G 1 p = nI l) && decide (G 1 (40 + p) = nI v)) j = false) (fun i => [some (.ref 0), some (.int (nI l)), some (.int (nI v)), some (.int (nI (i)))]) (fun _ => G) ?hx ?hs
          case hx =>
            intro hI2
            refine ev_iload_n dX7_whence_28 rfl ?_
            refine ev_aload_n dX7_whence_29 rfl ?_
            refine ev_getR dX7_whence_30 fX7_7 (by first | assumption | rfl) (by rfl) ?_
            refine ev_sipush (v := (nI 1332)) dX7_whence_33 (by decide) ?_
            refine ev_ialdE _ dX7_whence_36 (by first | with_reducible rfl | with_reducible exact nI_add _ _ | with_reducible exact ix3 _ _ _ | with_reducible exact ix_k _ _ _ | with_reducible exact ix_xk _ _ _ _) (by first | assumption | rfl) ⟨by omega, by decide⟩ ?_
            refine ev_icmp_ge 85 dX7_whence_37 (by decide) (fun hc37 => ?_) (fun hc37 => False.elim (lp_x p2 (by omega) hc37))
            refine ev_iconst (v := (nI 0)) dX7_whence_85 (by decide) ?_
            exact ev_iretE dX7_whence_86 rfl rfl (by rw [fW_none (fun j hj => (sm j hj).symm.trans (hI2 j hj))]) (rfl)
          case hs =>
            intro i hi hI2 ih
            obtain ⟨⟨-, -, -, a4⟩, -, -, ⟨v9, hv9, hv8⟩, w1, w2⟩ := p5 i hi
            simp only [Nat.zero_add] at a4
            have hit : G 1 i = nI l → G 1 (40 + i) = nI v → (fW (fun p => decide (C (21 + 1) p = nI l) && decide (C (21 + 2) p = nI v)) (C (21 + 4)) n) = nI 1 <<< (G 1 (120 + i) &&& 31) := fun g1 g2 => by
              have t1 : (fun p => decide (C (21 + 1) p = nI l) && decide (C (21 + 2) p = nI v)) i = true := by rw [← sm i hi]; simp [g1, g2]
              rw [fW_hit hi (fun j hj => (sm j (by omega)).symm.trans (hI2 j hj)) t1, ← a4]
              rcases Nat.lt_or_ge i nl with z | z
              · exfalso
                simp only [Bool.and_eq_true, decide_eq_true_eq, (w1 z).2.1] at t1
                have := (nI_eq (by decide) (by omega)).mp t1.2
                omega
              · obtain ⟨ww, y1, y2⟩ := w2 z
                rw [if_neg (by rw [y2]; exact nI_m1 (by omega))]
            refine ev_iload_n dX7_whence_28 rfl ?_
            refine ev_aload_n dX7_whence_29 rfl ?_
            refine ev_getR dX7_whence_30 fX7_7 (by first | assumption | rfl) (by rfl) ?_
            refine ev_sipush (v := (nI 1332)) dX7_whence_33 (by decide) ?_
            refine ev_ialdE _ dX7_whence_36 (by first | with_reducible rfl | with_reducible exact nI_add _ _ | with_reducible exact ix3 _ _ _ | with_reducible exact ix_k _ _ _ | with_reducible exact ix_xk _ _ _ _) (by first | assumption | rfl) ⟨by omega, by decide⟩ ?_
            refine ev_icmp_ge 85 dX7_whence_37 (by decide) (fun hc37 => False.elim (lp_s p2 (by omega) hi hc37)) (fun hc37 => ?_)
            refine ev_iload_n dX7_whence_40 rfl ?_
            refine ev_if_le 85 dX7_whence_41 (by decide) (fun hc41 => False.elim (nI_nle v0 (by omega) hc41)) (fun hc41 => ?_)
            refine ev_aload_n dX7_whence_44 rfl ?_
            refine ev_getR dX7_whence_45 fX7_7 (by first | assumption | rfl) (by rfl) ?_
            refine ev_iload_n dX7_whence_48 rfl ?_
            refine ev_ialdE _ dX7_whence_49 (by first | with_reducible rfl | with_reducible exact nI_add _ _ | with_reducible exact ix3 _ _ _ | with_reducible exact ix_k _ _ _ | with_reducible exact ix_xk _ _ _ _) (by first | assumption | rfl) ⟨by omega, by decide⟩ ?_
            refine ev_iload_n dX7_whence_50 rfl ?_
            refine ev_icmp_ne 79 dX7_whence_51 (by decide) (fun hc51 => ?_) (fun hc51 => ?_)
            · refine ev_iinc (v := (nI 1)) dX7_whence_79 rfl (by decide) (by decide) rfl ?_
              refine ev_goto 28 dX7_whence_82 (by decide) ?_
              exact ev_st (ih (no_s hI2 (by simp [*]))) (by simp [nI_add]) rfl rfl
            · refine ev_aload_n dX7_whence_54 rfl ?_
              refine ev_getR dX7_whence_55 fX7_7 (by first | assumption | rfl) (by rfl) ?_
              refine ev_bipush (v := (nI 40)) dX7_whence_58 (by decide) ?_
              refine ev_iload_n dX7_whence_60 rfl ?_
              refine ev_iadd dX7_whence_61 ?_
              refine ev_ialdE _ dX7_whence_62 (by first | with_reducible rfl | with_reducible exact nI_add _ _ | with_reducible exact ix3 _ _ _ | with_reducible exact ix_k _ _ _ | with_reducible exact ix_xk _ _ _ _) (by first | assumption | rfl) ⟨by omega, by decide⟩ ?_
              refine ev_iload_n dX7_whence_63 rfl ?_
              refine ev_icmp_ne 79 dX7_whence_64 (by decide) (fun hc64 => ?_) (fun hc64 => ?_)
              · refine ev_iinc (v := (nI 1)) dX7_whence_79 rfl (by decide) (by decide) rfl ?_
                refine ev_goto 28 dX7_whence_82 (by decide) ?_
                exact ev_st (ih (no_s hI2 (by simp [*]))) (by simp [nI_add]) rfl rfl
              · refine ev_iconst (v := (nI 1)) dX7_whence_67 (by decide) ?_
                refine ev_aload_n dX7_whence_68 rfl ?_
                refine ev_getR dX7_whence_69 fX7_7 (by first | assumption | rfl) (by rfl) ?_
                refine ev_bipush (v := (nI 120)) dX7_whence_72 (by decide) ?_
                refine ev_iload_n dX7_whence_74 rfl ?_
                refine ev_iadd dX7_whence_75 ?_
                refine ev_ialdE _ dX7_whence_76 (by first | with_reducible rfl | with_reducible exact nI_add _ _ | with_reducible exact ix3 _ _ _ | with_reducible exact ix_k _ _ _ | with_reducible exact ix_xk _ _ _ _) (by first | assumption | rfl) ⟨by omega, by decide⟩ ?_
                refine ev_ishl dX7_whence_77 ?_
                exact ev_iretE dX7_whence_78 rfl rfl (by rw [hit hc51 hc64]) (rfl)
          refine ev_aload_n dX7_whence_0 rfl ?_
          refine ev_iload_n dX7_whence_1 rfl ?_
          refine ev_cV1 dX7_whence_2 ceX7_isLine kX7_161 (rm_le rfl rfl) (Nat.le_of_ble_eq_true rfl) (Nat.le_of_ble_eq_true rfl) (e7_isLine m1 l3) (by first | assumption | rfl) ?_
          rw [hck]
          refine ev_if_ne 11 dX7_whence_5 (by decide) (fun hc5 => ?_) (fun hc5 => False.elim (absurd hc5 (by decide)))
          refine ev_iload_n dX7_whence_11 rfl ?_
          refine ev_i2l dX7_whence_12 ?_
          refine ev_lconst (v := 0) dX7_whence_13 rfl ?_
          refine ev_ldc2 dX7_whence_14 nX7_218 ?_
          refine ev_cS3 dX7_whence_17 ceX7_in kX7_59 (rm_le rfl rfl) (Nat.le_of_ble_eq_true rfl) (Nat.le_of_ble_eq_true rfl) (e7_in) ?_
          rw [in_c _ 0 (nI 99) (by decide) (by decide), hck2]
          refine ev_if_ne 26 dX7_whence_20 (by decide) (fun hc20 => ?_) (fun hc20 => False.elim (absurd hc20 (by decide)))
          refine ev_iconst (v := (nI 0)) dX7_whence_26 (by decide) ?_
          refine ev_istore_k 3 dX7_whence_27 rfl (by decide) rfl ?_
          exact ev_st (key 0 (Nat.zero_le _) (by intro j hj; omega)) rfl rfl rfl
    · refine ⟨(-1000000002), C, G, ?_, ?_, hR0⟩
      · refine ev_aload_n dX6_whence_0 rfl ?_
        refine ev_getR dX6_whence_1 fX6_23 (by first | assumption | rfl) (by rfl) ?_
        refine ev_iload_n dX6_whence_4 rfl ?_
        refine ev_cV1 dX6_whence_5 ceX1_hasLine kX6_123 (rm_le rfl rfl) (Nat.le_of_ble_eq_true rfl) (Nat.le_of_ble_eq_true rfl) (e_hasLine) (by first | assumption | rfl) ?_
        rw [l1, hck]
        refine ev_if_ne 14 dX6_whence_8 (by decide) (fun hc8 => ?_) (fun hc8 => False.elim (absurd hc8 (by decide)))
        refine ev_iload_n dX6_whence_14 rfl ?_
        refine ev_if_lt 24 dX6_whence_15 (by decide) (fun hc15 => ?_) (fun hc15 => False.elim (hc15 c1))
        refine ev_ldc (v := (-1000000002)) dX6_whence_24 nX6_70 ?_
        exact ev_iretE dX6_whence_26 rfl rfl (by first | rfl | simp_all) (rfl)
      · refine ev_aload_n dX7_whence_0 rfl ?_
        refine ev_iload_n dX7_whence_1 rfl ?_
        refine ev_cV1 dX7_whence_2 ceX7_isLine kX7_161 (rm_le rfl rfl) (Nat.le_of_ble_eq_true rfl) (Nat.le_of_ble_eq_true rfl) (e7_isLine m1 l3) (by first | assumption | rfl) ?_
        rw [hck]
        refine ev_if_ne 11 dX7_whence_5 (by decide) (fun hc5 => ?_) (fun hc5 => False.elim (absurd hc5 (by decide)))
        refine ev_iload_n dX7_whence_11 rfl ?_
        refine ev_i2l dX7_whence_12 ?_
        refine ev_lconst (v := 0) dX7_whence_13 rfl ?_
        refine ev_ldc2 dX7_whence_14 nX7_218 ?_
        refine ev_cS3 dX7_whence_17 ceX7_in kX7_59 (rm_le rfl rfl) (Nat.le_of_ble_eq_true rfl) (Nat.le_of_ble_eq_true rfl) (e7_in) ?_
        rw [in_c _ 0 (nI 99) (by decide) (by decide), hck2]
        refine ev_if_ne 26 dX7_whence_20 (by decide) (fun hc20 => False.elim (absurd hc20 (by decide))) (fun hc20 => ?_)
        refine ev_ldc (v := (-1000000002)) dX7_whence_23 nX7_63 ?_
        exact ev_iretE dX7_whence_25 rfl rfl (by first | rfl | simp_all) (rfl)
    · refine ⟨(-1000000002), C, G, ?_, ?_, hR0⟩
      · refine ev_aload_n dX6_whence_0 rfl ?_
        refine ev_getR dX6_whence_1 fX6_23 (by first | assumption | rfl) (by rfl) ?_
        refine ev_iload_n dX6_whence_4 rfl ?_
        refine ev_cV1 dX6_whence_5 ceX1_hasLine kX6_123 (rm_le rfl rfl) (Nat.le_of_ble_eq_true rfl) (Nat.le_of_ble_eq_true rfl) (e_hasLine) (by first | assumption | rfl) ?_
        rw [l1, hck]
        refine ev_if_ne 14 dX6_whence_8 (by decide) (fun hc8 => ?_) (fun hc8 => False.elim (absurd hc8 (by decide)))
        refine ev_iload_n dX6_whence_14 rfl ?_
        refine ev_if_lt 24 dX6_whence_15 (by decide) (fun hc15 => False.elim (c1 hc15)) (fun hc15 => ?_)
        refine ev_iload_n dX6_whence_18 rfl ?_
        refine ev_bipush (v := (nI 99)) dX6_whence_19 (by decide) ?_
        refine ev_icmp_le 27 dX6_whence_21 (by decide) (fun hc21 => False.elim (c2 hc21)) (fun hc21 => ?_)
        refine ev_ldc (v := (-1000000002)) dX6_whence_24 nX6_70 ?_
        exact ev_iretE dX6_whence_26 rfl rfl (by first | rfl | simp_all) (rfl)
      · refine ev_aload_n dX7_whence_0 rfl ?_
        refine ev_iload_n dX7_whence_1 rfl ?_
        refine ev_cV1 dX7_whence_2 ceX7_isLine kX7_161 (rm_le rfl rfl) (Nat.le_of_ble_eq_true rfl) (Nat.le_of_ble_eq_true rfl) (e7_isLine m1 l3) (by first | assumption | rfl) ?_
        rw [hck]
        refine ev_if_ne 11 dX7_whence_5 (by decide) (fun hc5 => ?_) (fun hc5 => False.elim (absurd hc5 (by decide)))
        refine ev_iload_n dX7_whence_11 rfl ?_
        refine ev_i2l dX7_whence_12 ?_
        refine ev_lconst (v := 0) dX7_whence_13 rfl ?_
        refine ev_ldc2 dX7_whence_14 nX7_218 ?_
        refine ev_cS3 dX7_whence_17 ceX7_in kX7_59 (rm_le rfl rfl) (Nat.le_of_ble_eq_true rfl) (Nat.le_of_ble_eq_true rfl) (e7_in) ?_
        rw [in_c _ 0 (nI 99) (by decide) (by decide), hck2]
        refine ev_if_ne 26 dX7_whence_20 (by decide) (fun hc20 => False.elim (absurd hc20 (by decide))) (fun hc20 => ?_)
        refine ev_ldc (v := (-1000000002)) dX7_whence_23 nX7_63 ?_
        exact ev_iretE dX7_whence_25 rfl rfl (by first | rfl | simp_all) (rfl)
  · refine ⟨(-1000000001), C, G, ?_, ?_, hR0⟩
    · refine ev_aload_n dX6_whence_0 rfl ?_
      refine ev_getR dX6_whence_1 fX6_23 (by first | assumption | rfl) (by rfl) ?_
      refine ev_iload_n dX6_whence_4 rfl ?_
      refine ev_cV1 dX6_whence_5 ceX1_hasLine kX6_123 (rm_le rfl rfl) (Nat.le_of_ble_eq_true rfl) (Nat.le_of_ble_eq_true rfl) (e_hasLine) (by first | assumption | rfl) ?_
      rw [l1, hck]
      refine ev_if_ne 14 dX6_whence_8 (by decide) (fun hc8 => False.elim (absurd hc8 (by decide))) (fun hc8 => ?_)
      refine ev_ldc (v := (-1000000001)) dX6_whence_11 nX6_127 ?_
      exact ev_iretE dX6_whence_13 rfl rfl (by first | rfl | simp_all) (rfl)
    · refine ev_aload_n dX7_whence_0 rfl ?_
      refine ev_iload_n dX7_whence_1 rfl ?_
      refine ev_cV1 dX7_whence_2 ceX7_isLine kX7_161 (rm_le rfl rfl) (Nat.le_of_ble_eq_true rfl) (Nat.le_of_ble_eq_true rfl) (e7_isLine m1 l3) (by first | assumption | rfl) ?_
      rw [hck]
      refine ev_if_ne 11 dX7_whence_5 (by decide) (fun hc5 => False.elim (absurd hc5 (by decide))) (fun hc5 => ?_)
      refine ev_ldc (v := (-1000000001)) dX7_whence_8 nX7_165 ?_
      exact ev_iretE dX7_whence_10 rfl rfl (by first | rfl | simp_all) (rfl)
