/-! ops: line, knows, reading, read, teach, dusk, run, where -/
set_option maxRecDepth 20000 in
set_option maxHeartbeats 2000000 in
theorem op_line {l0 x : Int32} : OpOk mX6_line mX7_line [.int l0, .int x] := by
  intro C G hR
  have hR0 := hR
  obtain ⟨nl, nr, tm, n, d, nq, tl, nd, b0, b1, kt, hp⟩ := hR
  obtain ⟨hS, hE, hQ, hT, hDr, hI, hkt, hkt3⟩ := id hp
  have hL := hS.1
  obtain ⟨l1, m1, l3, r1, m2, l6, le, lw, lr⟩ := id hL
  obtain ⟨hP, ⟨d1, d2, d3⟩, ⟨s1, s2⟩, hH⟩ := id hS.2.1
  obtain ⟨p1, p2, p3, p4, p5⟩ := id hP
  rw [Nat.zero_add] at p2 d2 s1
  obtain ⟨-, -, k, k', q1, q2, q3, q4, q5⟩ := id hS
  obtain ⟨ke, kl⟩ := q5 rfl
  subst ke
  obtain ⟨-, -, -, kl4⟩ := id kl
  rw [Nat.zero_add] at q3
  rcases ck l0 (show nl < 2 ^ 31 by omega) with ⟨l, hl, e, hck⟩ | hck
  · subst e
    by_cases hs0 : x = nI 0
    · subst hs0
      refine ⟨C 9 l, C, G, ?_, ?_, hR0⟩
      · refine ev_aload_n dX6_line_0 rfl ?_
        refine ev_getR dX6_line_1 fX6_23 (by first | assumption | rfl) (by rfl) ?_
        refine ev_iload_n dX6_line_4 rfl ?_
        refine ev_cV1 dX6_line_5 ceX1_hasLine kX6_123 (rm_le rfl rfl) (Nat.le_of_ble_eq_true rfl) (Nat.le_of_ble_eq_true rfl) (e_hasLine) (by first | assumption | rfl) ?_
        rw [l1, hck]
        refine ev_if_ne 14 dX6_line_8 (by decide) (fun hc8 => ?_) (fun hc8 => False.elim (absurd hc8 (by decide)))
        refine ev_iload_n dX6_line_14 rfl ?_
        refine ev_tabI 52 dX6_line_15 (by decide) (by decide) rfl (by decide) ?_
        refine ev_aload_n dX6_line_52 rfl ?_
        refine ev_getR dX6_line_53 fX6_23 (by first | assumption | rfl) (by rfl) ?_
        refine ev_getR dX6_line_56 fX6_128 (by first | assumption | rfl) (by rfl) ?_
        refine ev_iload_n dX6_line_59 rfl ?_
        refine ev_ialdE _ dX6_line_60 (rfl) (by first | assumption | rfl) ⟨by omega, by decide⟩ ?_
        exact ev_iretE dX6_line_61 rfl rfl (by first | rfl | simp_all) (rfl)
      · refine ev_aload_n dX7_line_0 rfl ?_
        refine ev_iload_n dX7_line_1 rfl ?_
        refine ev_cV1 dX7_line_2 ceX7_isLine kX7_161 (rm_le rfl rfl) (Nat.le_of_ble_eq_true rfl) (Nat.le_of_ble_eq_true rfl) (e7_isLine m1 l3) (by first | assumption | rfl) ?_
        rw [hck]
        refine ev_if_ne 11 dX7_line_5 (by decide) (fun hc5 => ?_) (fun hc5 => False.elim (absurd hc5 (by decide)))
        refine ev_iload_n dX7_line_11 rfl ?_
        refine ev_tabI 52 dX7_line_12 (by decide) (by decide) rfl (by decide) ?_
        refine ev_aload_n dX7_line_52 rfl ?_
        refine ev_getR dX7_line_53 fX7_17 (by first | assumption | rfl) (by rfl) ?_
        refine ev_iload_n dX7_line_56 rfl ?_
        refine ev_ialdE _ dX7_line_57 (by first | with_reducible rfl | with_reducible exact nI_add _ _ | with_reducible exact ix3 _ _ _ | with_reducible exact ix_k _ _ _ | with_reducible exact ix_xk _ _ _ _) (by first | assumption | rfl) ⟨by omega, by decide⟩ ?_
        exact ev_iretE dX7_line_58 rfl rfl (by rw [(lw l hl).1]) (rfl)
    by_cases hs1 : x = nI 1
    · subst hs1
      refine ⟨b2i (kpB C 21 n nr (nI 0) l), C, G, ?_, ?_, hR0⟩
      · refine ev_aload_n dX6_line_0 rfl ?_
        refine ev_getR dX6_line_1 fX6_23 (by first | assumption | rfl) (by rfl) ?_
        refine ev_iload_n dX6_line_4 rfl ?_
        refine ev_cV1 dX6_line_5 ceX1_hasLine kX6_123 (rm_le rfl rfl) (Nat.le_of_ble_eq_true rfl) (Nat.le_of_ble_eq_true rfl) (e_hasLine) (by first | assumption | rfl) ?_
        rw [l1, hck]
        refine ev_if_ne 14 dX6_line_8 (by decide) (fun hc8 => ?_) (fun hc8 => False.elim (absurd hc8 (by decide)))
        refine ev_iload_n dX6_line_14 rfl ?_
        refine ev_tabI 62 dX6_line_15 (by decide) (by decide) rfl (by decide) ?_
        refine ev_aload_n dX6_line_62 rfl ?_
        refine ev_getR dX6_line_63 fX6_31 (by first | assumption | rfl) (by rfl) ?_
        refine ev_iload_n dX6_line_66 rfl ?_
        refine ev_iconst (v := (nI 0)) dX6_line_67 (by decide) ?_
        refine ev_cV2 dX6_line_68 ceX5_isKept kX6_131 (rm_le rfl rfl) (Nat.le_of_ble_eq_true rfl) (Nat.le_of_ble_eq_true rfl) (e_isKept st_21 p1 p3 r1 l6 (by omega)) (by first | assumption | rfl) ?_
        refine ev_if_eq 78 dX6_line_71 (by decide) (fun hc71 => ?_) (fun hc71 => ?_)
        · rw [b2i_0] at hc71
          refine ev_iconst (v := (nI 0)) dX6_line_78 (by decide) ?_
          exact ev_iretE dX6_line_79 rfl rfl (by rw [hc71]; rfl) (rfl)
        · rw [b2i_n0] at hc71
          refine ev_iconst (v := (nI 1)) dX6_line_74 (by decide) ?_
          refine ev_goto 79 dX6_line_75 (by decide) ?_
          exact ev_iretE dX6_line_79 rfl rfl (by rw [hc71]; rfl) (rfl)
      · refine ev_aload_n dX7_line_0 rfl ?_
        refine ev_iload_n dX7_line_1 rfl ?_
        refine ev_cV1 dX7_line_2 ceX7_isLine kX7_161 (rm_le rfl rfl) (Nat.le_of_ble_eq_true rfl) (Nat.le_of_ble_eq_true rfl) (e7_isLine m1 l3) (by first | assumption | rfl) ?_
        rw [hck]
        refine ev_if_ne 11 dX7_line_5 (by decide) (fun hc5 => ?_) (fun hc5 => False.elim (absurd hc5 (by decide)))
        refine ev_iload_n dX7_line_11 rfl ?_
        refine ev_tabI 59 dX7_line_12 (by decide) (by decide) rfl (by decide) ?_
        refine ev_aload_n dX7_line_59 rfl ?_
        refine ev_iconst (v := (nI 0)) dX7_line_60 (by decide) ?_
        refine ev_iload_n dX7_line_61 rfl ?_
        refine ev_cV2 dX7_line_62 ceX7_isKeptLine kX7_137 (rm_le rfl rfl) (Nat.le_of_ble_eq_true rfl) (Nat.le_of_ble_eq_true rfl) (e7_isKeptLine (x := 0) (by decide) (by rw [Nat.zero_add]; exact p2) p3 m2 l6 (by omega)) (by first | assumption | rfl) ?_
        refine ev_cS1 dX7_line_65 ceX7_one kX7_141 (rm_le rfl rfl) (Nat.le_of_ble_eq_true rfl) (Nat.le_of_ble_eq_true rfl) (e7_oneB) ?_
        exact ev_iretE dX7_line_68 rfl rfl (by rw [kp_same hS hl]) (rfl)
    by_cases hs2 : x = nI 2
    · subst hs2
      refine ⟨nI (fb_ct (vLeft (C (21 + 1)) (C (21 + 3)) (nI l)) n), C, G, ?_, ?_, hR0⟩
      · refine ev_aload_n dX6_line_0 rfl ?_
        refine ev_getR dX6_line_1 fX6_23 (by first | assumption | rfl) (by rfl) ?_
        refine ev_iload_n dX6_line_4 rfl ?_
        refine ev_cV1 dX6_line_5 ceX1_hasLine kX6_123 (rm_le rfl rfl) (Nat.le_of_ble_eq_true rfl) (Nat.le_of_ble_eq_true rfl) (e_hasLine) (by first | assumption | rfl) ?_
        rw [l1, hck]
        refine ev_if_ne 14 dX6_line_8 (by decide) (fun hc8 => ?_) (fun hc8 => False.elim (absurd hc8 (by decide)))
        refine ev_iload_n dX6_line_14 rfl ?_
        refine ev_tabI 80 dX6_line_15 (by decide) (by decide) rfl (by decide) ?_
        refine ev_aload_n dX6_line_80 rfl ?_
        refine ev_getR dX6_line_81 fX6_31 (by first | assumption | rfl) (by rfl) ?_
        refine ev_iload_n dX6_line_84 rfl ?_
        refine ev_cV1 dX6_line_85 ceX5_pagesLeft kX6_135 (rm_le rfl rfl) (Nat.le_of_ble_eq_true rfl) (Nat.le_of_ble_eq_true rfl) (e_pagesLeft st_21 p1 p3) (by first | assumption | rfl) ?_
        exact ev_iretE dX6_line_88 rfl rfl (by first | rfl | simp_all) (rfl)
      · refine ev_aload_n dX7_line_0 rfl ?_
        refine ev_iload_n dX7_line_1 rfl ?_
        refine ev_cV1 dX7_line_2 ceX7_isLine kX7_161 (rm_le rfl rfl) (Nat.le_of_ble_eq_true rfl) (Nat.le_of_ble_eq_true rfl) (e7_isLine m1 l3) (by first | assumption | rfl) ?_
        rw [hck]
        refine ev_if_ne 11 dX7_line_5 (by decide) (fun hc5 => ?_) (fun hc5 => False.elim (absurd hc5 (by decide)))
        refine ev_iload_n dX7_line_11 rfl ?_
        refine ev_tabI 69 dX7_line_12 (by decide) (by decide) rfl (by decide) ?_
        refine ev_aload_n dX7_line_69 rfl ?_
        refine ev_iload_n dX7_line_70 rfl ?_
        refine ev_cV1 dX7_line_71 ceX7_pagesOf kX7_149 (rm_le rfl rfl) (Nat.le_of_ble_eq_true rfl) (Nat.le_of_ble_eq_true rfl) (e7_pagesOf p2 p3) (by first | assumption | rfl) ?_
        exact ev_iretE dX7_line_74 rfl rfl (by rw [fb_ct_cong (fun p hp => (by have := lf_same hP (nI l) hp; simp only [Nat.zero_add] at this; exact this))]) (rfl)
    by_cases hs3 : x = nI 3
    · subst hs3
      refine ⟨kset (fun r => !decide (knC C 21 (C 21 10) r l = -1)) nr, C, G, ?_, ?_, hR0⟩
      · refine ev_aload_n dX6_line_0 rfl ?_
        refine ev_getR dX6_line_1 fX6_23 (by first | assumption | rfl) (by rfl) ?_
        refine ev_iload_n dX6_line_4 rfl ?_
        refine ev_cV1 dX6_line_5 ceX1_hasLine kX6_123 (rm_le rfl rfl) (Nat.le_of_ble_eq_true rfl) (Nat.le_of_ble_eq_true rfl) (e_hasLine) (by first | assumption | rfl) ?_
        rw [l1, hck]
        refine ev_if_ne 14 dX6_line_8 (by decide) (fun hc8 => ?_) (fun hc8 => False.elim (absurd hc8 (by decide)))
        refine ev_iload_n dX6_line_14 rfl ?_
        refine ev_tabI 89 dX6_line_15 (by decide) (by decide) rfl (by decide) ?_
        refine ev_aload_n dX6_line_89 rfl ?_
        refine ev_getR dX6_line_90 fX6_31 (by first | assumption | rfl) (by rfl) ?_
        refine ev_iload_n dX6_line_93 rfl ?_
        refine ev_cV1 dX6_line_94 ceX5_knowers kX6_138 (rm_le rfl rfl) (Nat.le_of_ble_eq_true rfl) (Nat.le_of_ble_eq_true rfl) (e_knowers st_21 r1 l6 (by omega)) (by first | assumption | rfl) ?_
        exact ev_iretE dX6_line_97 rfl rfl (by first | rfl | simp_all) (rfl)
      · refine ev_aload_n dX7_line_0 rfl ?_
        refine ev_iload_n dX7_line_1 rfl ?_
        refine ev_cV1 dX7_line_2 ceX7_isLine kX7_161 (rm_le rfl rfl) (Nat.le_of_ble_eq_true rfl) (Nat.le_of_ble_eq_true rfl) (e7_isLine m1 l3) (by first | assumption | rfl) ?_
        rw [hck]
        refine ev_if_ne 11 dX7_line_5 (by decide) (fun hc5 => ?_) (fun hc5 => False.elim (absurd hc5 (by decide)))
        refine ev_iload_n dX7_line_11 rfl ?_
        refine ev_tabI 75 dX7_line_12 (by decide) (by decide) rfl (by decide) ?_
        refine ev_aload_n dX7_line_75 rfl ?_
        refine ev_iload_n dX7_line_76 rfl ?_
        refine ev_cV1 dX7_line_77 ceX7_knowers kX7_152 (rm_le rfl rfl) (Nat.le_of_ble_eq_true rfl) (Nat.le_of_ble_eq_true rfl) (e7_knowers m2 l6 (by omega)) (by first | assumption | rfl) ?_
        exact ev_iretE dX7_line_80 rfl rfl (by rw [kset_cong (fun r hr => (by have := kn_any hS hr hl; simp only [Nat.zero_add] at this; exact this.symm))]) (rfl)
    by_cases hs4 : x = nI 4
    · subst hs4
      refine ⟨fFst (vtP C 21 n nr l) (n + 1), C, G, ?_, ?_, hR0⟩
      · refine ev_aload_n dX6_line_0 rfl ?_
        refine ev_getR dX6_line_1 fX6_23 (by first | assumption | rfl) (by rfl) ?_
        refine ev_iload_n dX6_line_4 rfl ?_
        refine ev_cV1 dX6_line_5 ceX1_hasLine kX6_123 (rm_le rfl rfl) (Nat.le_of_ble_eq_true rfl) (Nat.le_of_ble_eq_true rfl) (e_hasLine) (by first | assumption | rfl) ?_
        rw [l1, hck]
        refine ev_if_ne 14 dX6_line_8 (by decide) (fun hc8 => ?_) (fun hc8 => False.elim (absurd hc8 (by decide)))
        refine ev_iload_n dX6_line_14 rfl ?_
        refine ev_tabI 98 dX6_line_15 (by decide) (by decide) rfl (by decide) ?_
        refine ev_aload_n dX6_line_98 rfl ?_
        refine ev_getR dX6_line_99 fX6_31 (by first | assumption | rfl) (by rfl) ?_
        refine ev_iload_n dX6_line_102 rfl ?_
        refine ev_cV1 dX6_line_103 ceX5_voteOn kX6_141 (rm_le rfl rfl) (Nat.le_of_ble_eq_true rfl) (Nat.le_of_ble_eq_true rfl) (e_voteOn st_21 p1 p3 r1 l6 (by omega)) (by first | assumption | rfl) ?_
        exact ev_iretE dX6_line_106 rfl rfl (by first | rfl | simp_all) (rfl)
      · refine ev_aload_n dX7_line_0 rfl ?_
        refine ev_iload_n dX7_line_1 rfl ?_
        refine ev_cV1 dX7_line_2 ceX7_isLine kX7_161 (rm_le rfl rfl) (Nat.le_of_ble_eq_true rfl) (Nat.le_of_ble_eq_true rfl) (e7_isLine m1 l3) (by first | assumption | rfl) ?_
        rw [hck]
        refine ev_if_ne 11 dX7_line_5 (by decide) (fun hc5 => ?_) (fun hc5 => False.elim (absurd hc5 (by decide)))
        refine ev_iload_n dX7_line_11 rfl ?_
        refine ev_tabI 81 dX7_line_12 (by decide) (by decide) rfl (by decide) ?_
        refine ev_aload_n dX7_line_81 rfl ?_
        refine ev_iload_n dX7_line_82 rfl ?_
        refine ev_cV1 dX7_line_83 ceX7_vote kX7_166 (rm_le rfl rfl) (Nat.le_of_ble_eq_true rfl) (Nat.le_of_ble_eq_true rfl) (e7_vote p2 p3 m2 l6 (by omega)) (by first | assumption | rfl) ?_
        exact ev_iretE dX7_line_86 rfl rfl (by rw [vt_same hS hl]) (rfl)
    by_cases hs5 : x = nI 5
    · subst hs5
      refine ⟨C (21 + 7) l, C, G, ?_, ?_, hR0⟩
      · refine ev_aload_n dX6_line_0 rfl ?_
        refine ev_getR dX6_line_1 fX6_23 (by first | assumption | rfl) (by rfl) ?_
        refine ev_iload_n dX6_line_4 rfl ?_
        refine ev_cV1 dX6_line_5 ceX1_hasLine kX6_123 (rm_le rfl rfl) (Nat.le_of_ble_eq_true rfl) (Nat.le_of_ble_eq_true rfl) (e_hasLine) (by first | assumption | rfl) ?_
        rw [l1, hck]
        refine ev_if_ne 14 dX6_line_8 (by decide) (fun hc8 => ?_) (fun hc8 => False.elim (absurd hc8 (by decide)))
        refine ev_iload_n dX6_line_14 rfl ?_
        refine ev_tabI 107 dX6_line_15 (by decide) (by decide) rfl (by decide) ?_
        refine ev_aload_n dX6_line_107 rfl ?_
        refine ev_getR dX6_line_108 fX6_31 (by first | assumption | rfl) (by rfl) ?_
        refine ev_getR dX6_line_111 fX6_144 (by first | assumption | rfl) (by rfl) ?_
        refine ev_iload_n dX6_line_114 rfl ?_
        refine ev_ialdE _ dX6_line_115 (rfl) (by first | assumption | rfl) ⟨by omega, by decide⟩ ?_
        exact ev_iretE dX6_line_116 rfl rfl (by first | rfl | simp_all) (rfl)
      · refine ev_aload_n dX7_line_0 rfl ?_
        refine ev_iload_n dX7_line_1 rfl ?_
        refine ev_cV1 dX7_line_2 ceX7_isLine kX7_161 (rm_le rfl rfl) (Nat.le_of_ble_eq_true rfl) (Nat.le_of_ble_eq_true rfl) (e7_isLine m1 l3) (by first | assumption | rfl) ?_
        rw [hck]
        refine ev_if_ne 11 dX7_line_5 (by decide) (fun hc5 => ?_) (fun hc5 => False.elim (absurd hc5 (by decide)))
        refine ev_iload_n dX7_line_11 rfl ?_
        refine ev_tabI 87 dX7_line_12 (by decide) (by decide) rfl (by decide) ?_
        refine ev_aload_n dX7_line_87 rfl ?_
        refine ev_getR dX7_line_88 fX7_7 (by first | assumption | rfl) (by rfl) ?_
        refine ev_sipush (v := (nI 416)) dX7_line_91 (by decide) ?_
        refine ev_iload_n dX7_line_94 rfl ?_
        refine ev_iadd dX7_line_95 ?_
        refine ev_ialdE _ dX7_line_96 (by first | with_reducible rfl | with_reducible exact nI_add _ _ | with_reducible exact ix3 _ _ _ | with_reducible exact ix_k _ _ _ | with_reducible exact ix_xk _ _ _ _) (by first | assumption | rfl) ⟨by omega, by decide⟩ ?_
        exact ev_iretE dX7_line_97 rfl rfl (by have := (hE l hl).1; rw [Nat.zero_add] at this; rw [this]) (rfl)
    have hso := sw_out (m := 5) (by decide) (fun j hj => by rcases (show j = 0 ∨ j = 1 ∨ j = 2 ∨ j = 3 ∨ j = 4 ∨ j = 5 by omega) with e | e | e | e | e | e <;> subst e <;> assumption)
    refine ⟨(-1000000002), C, G, ?_, ?_, hR0⟩
    · refine ev_aload_n dX6_line_0 rfl ?_
      refine ev_getR dX6_line_1 fX6_23 (by first | assumption | rfl) (by rfl) ?_
      refine ev_iload_n dX6_line_4 rfl ?_
      refine ev_cV1 dX6_line_5 ceX1_hasLine kX6_123 (rm_le rfl rfl) (Nat.le_of_ble_eq_true rfl) (Nat.le_of_ble_eq_true rfl) (e_hasLine) (by first | assumption | rfl) ?_
      rw [l1, hck]
      refine ev_if_ne 14 dX6_line_8 (by decide) (fun hc8 => ?_) (fun hc8 => False.elim (absurd hc8 (by decide)))
      refine ev_iload_n dX6_line_14 rfl ?_
      refine ev_tabO 117 dX6_line_15 hso (by decide) ?_
      refine ev_ldc (v := (-1000000002)) dX6_line_117 nX6_70 ?_
      exact ev_iretE dX6_line_119 rfl rfl (by first | rfl | simp_all) (rfl)
    · refine ev_aload_n dX7_line_0 rfl ?_
      refine ev_iload_n dX7_line_1 rfl ?_
      refine ev_cV1 dX7_line_2 ceX7_isLine kX7_161 (rm_le rfl rfl) (Nat.le_of_ble_eq_true rfl) (Nat.le_of_ble_eq_true rfl) (e7_isLine m1 l3) (by first | assumption | rfl) ?_
      rw [hck]
      refine ev_if_ne 11 dX7_line_5 (by decide) (fun hc5 => ?_) (fun hc5 => False.elim (absurd hc5 (by decide)))
      refine ev_iload_n dX7_line_11 rfl ?_
      refine ev_tabO 98 dX7_line_12 hso (by decide) ?_
      refine ev_ldc (v := (-1000000002)) dX7_line_98 nX7_63 ?_
      exact ev_iretE dX7_line_100 rfl rfl (by first | rfl | simp_all) (rfl)
  · refine ⟨(-1000000001), C, G, ?_, ?_, hR0⟩
    · refine ev_aload_n dX6_line_0 rfl ?_
      refine ev_getR dX6_line_1 fX6_23 (by first | assumption | rfl) (by rfl) ?_
      refine ev_iload_n dX6_line_4 rfl ?_
      refine ev_cV1 dX6_line_5 ceX1_hasLine kX6_123 (rm_le rfl rfl) (Nat.le_of_ble_eq_true rfl) (Nat.le_of_ble_eq_true rfl) (e_hasLine) (by first | assumption | rfl) ?_
      rw [l1, hck]
      refine ev_if_ne 14 dX6_line_8 (by decide) (fun hc8 => False.elim (absurd hc8 (by decide))) (fun hc8 => ?_)
      refine ev_ldc (v := (-1000000001)) dX6_line_11 nX6_127 ?_
      exact ev_iretE dX6_line_13 rfl rfl (by first | rfl | simp_all) (rfl)
    · refine ev_aload_n dX7_line_0 rfl ?_
      refine ev_iload_n dX7_line_1 rfl ?_
      refine ev_cV1 dX7_line_2 ceX7_isLine kX7_161 (rm_le rfl rfl) (Nat.le_of_ble_eq_true rfl) (Nat.le_of_ble_eq_true rfl) (e7_isLine m1 l3) (by first | assumption | rfl) ?_
      rw [hck]
      refine ev_if_ne 11 dX7_line_5 (by decide) (fun hc5 => False.elim (absurd hc5 (by decide))) (fun hc5 => ?_)
      refine ev_ldc (v := (-1000000001)) dX7_line_8 nX7_165 ?_
      exact ev_iretE dX7_line_10 rfl rfl (by first | rfl | simp_all) (rfl)
set_option maxRecDepth 20000 in
set_option maxHeartbeats 2000000 in
theorem op_knows {r0 l0 x : Int32} : OpOk mX6_knows mX7_knows [.int r0, .int l0, .int x] := by
  intro C G hR
  have hR0 := hR
  obtain ⟨nl, nr, tm, n, d, nq, tl, nd, b0, b1, kt, hp⟩ := hR
  obtain ⟨hS, hE, hQ, hT, hDr, hI, hkt, hkt3⟩ := id hp
  have hL := hS.1
  obtain ⟨l1, m1, l3, r1, m2, l6, le, lw, lr⟩ := id hL
  obtain ⟨hP, ⟨d1, d2, d3⟩, ⟨s1, s2⟩, hH⟩ := id hS.2.1
  obtain ⟨p1, p2, p3, p4, p5⟩ := id hP
  rw [Nat.zero_add] at p2 d2 s1
  obtain ⟨-, -, k, k', q1, q2, q3, q4, q5⟩ := id hS
  obtain ⟨ke, kl⟩ := q5 rfl
  subst ke
  obtain ⟨-, -, -, kl4⟩ := id kl
  rw [Nat.zero_add] at q3
  rcases ck r0 (show nr < 2 ^ 31 by omega) with ⟨j1, hj1, e1, c1⟩ | c1
  · subst e1
    rcases ck l0 (show nl < 2 ^ 31 by omega) with ⟨j2, hj2, e2, c2⟩ | c2
    · subst e2
      obtain ⟨kn1, -⟩ := kn_same hS hj1 hj2
      have kn2 := kn_si hS hj1 hj2
      simp only [Nat.zero_add] at kn1 kn2
      by_cases hs0 : x = nI 0
      · subst hs0
        rcases kn2 with ⟨u1, u2⟩ | ⟨u1, -, u2⟩
        · refine ⟨G 1 (160 + 16 * j1 + j2), C, G, ?_, ?_, hR0⟩
          · refine ev_aload_n dX6_knows_0 rfl ?_
            refine ev_getR dX6_knows_1 fX6_23 (by first | assumption | rfl) (by rfl) ?_
            refine ev_iload_n dX6_knows_4 rfl ?_
            refine ev_cV1 dX6_knows_5 ceX1_hasReader kX6_147 (rm_le rfl rfl) (Nat.le_of_ble_eq_true rfl) (Nat.le_of_ble_eq_true rfl) (e_hasReader) (by first | assumption | rfl) ?_
            rw [r1, c1]
            refine ev_if_eq 22 dX6_knows_8 (by decide) (fun hc8 => False.elim (absurd hc8 (by decide))) (fun hc8 => ?_)
            refine ev_aload_n dX6_knows_11 rfl ?_
            refine ev_getR dX6_knows_12 fX6_23 (by first | assumption | rfl) (by rfl) ?_
            refine ev_iload_n dX6_knows_15 rfl ?_
            refine ev_cV1 dX6_knows_16 ceX1_hasLine kX6_123 (rm_le rfl rfl) (Nat.le_of_ble_eq_true rfl) (Nat.le_of_ble_eq_true rfl) (e_hasLine) (by first | assumption | rfl) ?_
            rw [l1, c2]
            refine ev_if_ne 25 dX6_knows_19 (by decide) (fun hc19 => ?_) (fun hc19 => False.elim (absurd hc19 (by decide)))
            refine ev_iload_n dX6_knows_25 rfl ?_
            refine ev_if_lt 34 dX6_knows_26 (by decide) (fun hc26 => False.elim (absurd hc26 (by decide))) (fun _ => ?_)
            refine ev_iload_n dX6_knows_29 rfl ?_
            refine ev_iconst (v := (nI 1)) dX6_knows_30 (by decide) ?_
            refine ev_icmp_le 37 dX6_knows_31 (by decide) (fun _ => ?_) (fun hc31 => False.elim (absurd hc31 (by decide)))
            refine ev_aload_n dX6_knows_37 rfl ?_
            refine ev_getR dX6_knows_38 fX6_31 (by first | assumption | rfl) (by rfl) ?_
            refine ev_iload_n dX6_knows_41 rfl ?_
            refine ev_iload_n dX6_knows_42 rfl ?_
            refine ev_cV2 dX6_knows_43 ceX5_knowsAny kX6_174 (rm_le rfl rfl) (Nat.le_of_ble_eq_true rfl) (Nat.le_of_ble_eq_true rfl) (e_knowsAny st_21 (by omega) (by omega)) (by first | assumption | rfl) ?_
            rw [kn1, u1]
            refine ev_if_ne 51 dX6_knows_46 (by decide) (fun hc46 => False.elim (absurd hc46 (by decide))) (fun hc46 => ?_)
            refine ev_iconst (v := (-1)) dX6_knows_49 (by decide) ?_
            exact ev_iretE dX6_knows_50 rfl rfl (by first | rfl | rw [u1]) (rfl)
          · refine ev_aload_n dX7_knows_0 rfl ?_
            refine ev_iload_n dX7_knows_1 rfl ?_
            refine ev_cV1 dX7_knows_2 ceX7_isReader kX7_169 (rm_le rfl rfl) (Nat.le_of_ble_eq_true rfl) (Nat.le_of_ble_eq_true rfl) (e7_isReader m2 l6) (by first | assumption | rfl) ?_
            rw [c1]
            refine ev_if_eq 16 dX7_knows_5 (by decide) (fun hc5 => False.elim (absurd hc5 (by decide))) (fun hc5 => ?_)
            refine ev_aload_n dX7_knows_8 rfl ?_
            refine ev_iload_n dX7_knows_9 rfl ?_
            refine ev_cV1 dX7_knows_10 ceX7_isLine kX7_161 (rm_le rfl rfl) (Nat.le_of_ble_eq_true rfl) (Nat.le_of_ble_eq_true rfl) (e7_isLine m1 l3) (by first | assumption | rfl) ?_
            rw [c2]
            refine ev_if_ne 19 dX7_knows_13 (by decide) (fun hc13 => ?_) (fun hc13 => False.elim (absurd hc13 (by decide)))
            refine ev_iload_n dX7_knows_19 rfl ?_
            refine ev_if_ne 41 dX7_knows_20 (by decide) (fun hc20 => False.elim (absurd hc20 (by decide))) (fun _ => ?_)
            refine ev_aload_n dX7_knows_23 rfl ?_
            refine ev_getR dX7_knows_24 fX7_7 (by first | assumption | rfl) (by rfl) ?_
            refine ev_sipush (v := (nI 160)) dX7_knows_27 (by decide) ?_
            refine ev_bipush (v := (nI 16)) dX7_knows_30 (by decide) ?_
            refine ev_iload_n dX7_knows_32 rfl ?_
            refine ev_imul dX7_knows_33 ?_
            refine ev_iadd dX7_knows_34 ?_
            refine ev_iload_n dX7_knows_35 rfl ?_
            refine ev_iadd dX7_knows_36 ?_
            refine ev_ialdE _ dX7_knows_37 (by first | with_reducible rfl | with_reducible exact nI_add _ _ | with_reducible exact ix3 _ _ _ | with_reducible exact ix_k _ _ _ | with_reducible exact ix_xk _ _ _ _) (by first | assumption | rfl) ⟨by omega, by decide⟩ ?_
            refine ev_goto 66 dX7_knows_38 (by decide) ?_
            exact ev_iretE dX7_knows_66 rfl rfl (by first | rfl | simp_all) (rfl)
        · refine ⟨G 1 (160 + 16 * j1 + j2), C, G, ?_, ?_, hR0⟩
          · refine ev_aload_n dX6_knows_0 rfl ?_
            refine ev_getR dX6_knows_1 fX6_23 (by first | assumption | rfl) (by rfl) ?_
            refine ev_iload_n dX6_knows_4 rfl ?_
            refine ev_cV1 dX6_knows_5 ceX1_hasReader kX6_147 (rm_le rfl rfl) (Nat.le_of_ble_eq_true rfl) (Nat.le_of_ble_eq_true rfl) (e_hasReader) (by first | assumption | rfl) ?_
            rw [r1, c1]
            refine ev_if_eq 22 dX6_knows_8 (by decide) (fun hc8 => False.elim (absurd hc8 (by decide))) (fun hc8 => ?_)
            refine ev_aload_n dX6_knows_11 rfl ?_
            refine ev_getR dX6_knows_12 fX6_23 (by first | assumption | rfl) (by rfl) ?_
            refine ev_iload_n dX6_knows_15 rfl ?_
            refine ev_cV1 dX6_knows_16 ceX1_hasLine kX6_123 (rm_le rfl rfl) (Nat.le_of_ble_eq_true rfl) (Nat.le_of_ble_eq_true rfl) (e_hasLine) (by first | assumption | rfl) ?_
            rw [l1, c2]
            refine ev_if_ne 25 dX6_knows_19 (by decide) (fun hc19 => ?_) (fun hc19 => False.elim (absurd hc19 (by decide)))
            refine ev_iload_n dX6_knows_25 rfl ?_
            refine ev_if_lt 34 dX6_knows_26 (by decide) (fun hc26 => False.elim (absurd hc26 (by decide))) (fun _ => ?_)
            refine ev_iload_n dX6_knows_29 rfl ?_
            refine ev_iconst (v := (nI 1)) dX6_knows_30 (by decide) ?_
            refine ev_icmp_le 37 dX6_knows_31 (by decide) (fun _ => ?_) (fun hc31 => False.elim (absurd hc31 (by decide)))
            refine ev_aload_n dX6_knows_37 rfl ?_
            refine ev_getR dX6_knows_38 fX6_31 (by first | assumption | rfl) (by rfl) ?_
            refine ev_iload_n dX6_knows_41 rfl ?_
            refine ev_iload_n dX6_knows_42 rfl ?_
            refine ev_cV2 dX6_knows_43 ceX5_knowsAny kX6_174 (rm_le rfl rfl) (Nat.le_of_ble_eq_true rfl) (Nat.le_of_ble_eq_true rfl) (e_knowsAny st_21 (by omega) (by omega)) (by first | assumption | rfl) ?_
            rw [kn1, decide_eq_false u1]
            refine ev_if_ne 51 dX6_knows_46 (by decide) (fun hc46 => ?_) (fun hc46 => False.elim (absurd hc46 (by decide)))
            refine ev_iload_n dX6_knows_51 rfl ?_
            refine ev_if_ne 67 dX6_knows_52 (by decide) (fun hc52 => False.elim (absurd hc52 (by decide))) (fun _ => ?_)
            refine ev_aload_n dX6_knows_55 rfl ?_
            refine ev_getR dX6_knows_56 fX6_31 (by first | assumption | rfl) (by rfl) ?_
            refine ev_iload_n dX6_knows_59 rfl ?_
            refine ev_iload_n dX6_knows_60 rfl ?_
            refine ev_cV2 dX6_knows_61 ceX5_variantKnown kX6_177 (rm_le rfl rfl) (Nat.le_of_ble_eq_true rfl) (Nat.le_of_ble_eq_true rfl) (e_variantKnown st_21 (by omega) (by omega)) (by first | assumption | rfl) ?_
            refine ev_goto 76 dX6_knows_64 (by decide) ?_
            exact ev_iretE dX6_knows_76 rfl rfl (by first | rfl | rw [kn1]) (rfl)
          · refine ev_aload_n dX7_knows_0 rfl ?_
            refine ev_iload_n dX7_knows_1 rfl ?_
            refine ev_cV1 dX7_knows_2 ceX7_isReader kX7_169 (rm_le rfl rfl) (Nat.le_of_ble_eq_true rfl) (Nat.le_of_ble_eq_true rfl) (e7_isReader m2 l6) (by first | assumption | rfl) ?_
            rw [c1]
            refine ev_if_eq 16 dX7_knows_5 (by decide) (fun hc5 => False.elim (absurd hc5 (by decide))) (fun hc5 => ?_)
            refine ev_aload_n dX7_knows_8 rfl ?_
            refine ev_iload_n dX7_knows_9 rfl ?_
            refine ev_cV1 dX7_knows_10 ceX7_isLine kX7_161 (rm_le rfl rfl) (Nat.le_of_ble_eq_true rfl) (Nat.le_of_ble_eq_true rfl) (e7_isLine m1 l3) (by first | assumption | rfl) ?_
            rw [c2]
            refine ev_if_ne 19 dX7_knows_13 (by decide) (fun hc13 => ?_) (fun hc13 => False.elim (absurd hc13 (by decide)))
            refine ev_iload_n dX7_knows_19 rfl ?_
            refine ev_if_ne 41 dX7_knows_20 (by decide) (fun hc20 => False.elim (absurd hc20 (by decide))) (fun _ => ?_)
            refine ev_aload_n dX7_knows_23 rfl ?_
            refine ev_getR dX7_knows_24 fX7_7 (by first | assumption | rfl) (by rfl) ?_
            refine ev_sipush (v := (nI 160)) dX7_knows_27 (by decide) ?_
            refine ev_bipush (v := (nI 16)) dX7_knows_30 (by decide) ?_
            refine ev_iload_n dX7_knows_32 rfl ?_
            refine ev_imul dX7_knows_33 ?_
            refine ev_iadd dX7_knows_34 ?_
            refine ev_iload_n dX7_knows_35 rfl ?_
            refine ev_iadd dX7_knows_36 ?_
            refine ev_ialdE _ dX7_knows_37 (by first | with_reducible rfl | with_reducible exact nI_add _ _ | with_reducible exact ix3 _ _ _ | with_reducible exact ix_k _ _ _ | with_reducible exact ix_xk _ _ _ _) (by first | assumption | rfl) ⟨by omega, by decide⟩ ?_
            refine ev_goto 66 dX7_knows_38 (by decide) ?_
            exact ev_iretE dX7_knows_66 rfl rfl (by first | rfl | simp_all) (rfl)
      by_cases hs1 : x = nI 1
      · subst hs1
        rcases kn2 with ⟨u1, u2⟩ | ⟨u1, -, u2⟩
        · refine ⟨G 1 (288 + 16 * j1 + j2), C, G, ?_, ?_, hR0⟩
          · refine ev_aload_n dX6_knows_0 rfl ?_
            refine ev_getR dX6_knows_1 fX6_23 (by first | assumption | rfl) (by rfl) ?_
            refine ev_iload_n dX6_knows_4 rfl ?_
            refine ev_cV1 dX6_knows_5 ceX1_hasReader kX6_147 (rm_le rfl rfl) (Nat.le_of_ble_eq_true rfl) (Nat.le_of_ble_eq_true rfl) (e_hasReader) (by first | assumption | rfl) ?_
            rw [r1, c1]
            refine ev_if_eq 22 dX6_knows_8 (by decide) (fun hc8 => False.elim (absurd hc8 (by decide))) (fun hc8 => ?_)
            refine ev_aload_n dX6_knows_11 rfl ?_
            refine ev_getR dX6_knows_12 fX6_23 (by first | assumption | rfl) (by rfl) ?_
            refine ev_iload_n dX6_knows_15 rfl ?_
            refine ev_cV1 dX6_knows_16 ceX1_hasLine kX6_123 (rm_le rfl rfl) (Nat.le_of_ble_eq_true rfl) (Nat.le_of_ble_eq_true rfl) (e_hasLine) (by first | assumption | rfl) ?_
            rw [l1, c2]
            refine ev_if_ne 25 dX6_knows_19 (by decide) (fun hc19 => ?_) (fun hc19 => False.elim (absurd hc19 (by decide)))
            refine ev_iload_n dX6_knows_25 rfl ?_
            refine ev_if_lt 34 dX6_knows_26 (by decide) (fun hc26 => False.elim (absurd hc26 (by decide))) (fun _ => ?_)
            refine ev_iload_n dX6_knows_29 rfl ?_
            refine ev_iconst (v := (nI 1)) dX6_knows_30 (by decide) ?_
            refine ev_icmp_le 37 dX6_knows_31 (by decide) (fun _ => ?_) (fun hc31 => False.elim (absurd hc31 (by decide)))
            refine ev_aload_n dX6_knows_37 rfl ?_
            refine ev_getR dX6_knows_38 fX6_31 (by first | assumption | rfl) (by rfl) ?_
            refine ev_iload_n dX6_knows_41 rfl ?_
            refine ev_iload_n dX6_knows_42 rfl ?_
            refine ev_cV2 dX6_knows_43 ceX5_knowsAny kX6_174 (rm_le rfl rfl) (Nat.le_of_ble_eq_true rfl) (Nat.le_of_ble_eq_true rfl) (e_knowsAny st_21 (by omega) (by omega)) (by first | assumption | rfl) ?_
            rw [kn1, u1]
            refine ev_if_ne 51 dX6_knows_46 (by decide) (fun hc46 => False.elim (absurd hc46 (by decide))) (fun hc46 => ?_)
            refine ev_iconst (v := (-1)) dX6_knows_49 (by decide) ?_
            exact ev_iretE dX6_knows_50 rfl rfl (by first | rfl | rw [u2]) (rfl)
          · refine ev_aload_n dX7_knows_0 rfl ?_
            refine ev_iload_n dX7_knows_1 rfl ?_
            refine ev_cV1 dX7_knows_2 ceX7_isReader kX7_169 (rm_le rfl rfl) (Nat.le_of_ble_eq_true rfl) (Nat.le_of_ble_eq_true rfl) (e7_isReader m2 l6) (by first | assumption | rfl) ?_
            rw [c1]
            refine ev_if_eq 16 dX7_knows_5 (by decide) (fun hc5 => False.elim (absurd hc5 (by decide))) (fun hc5 => ?_)
            refine ev_aload_n dX7_knows_8 rfl ?_
            refine ev_iload_n dX7_knows_9 rfl ?_
            refine ev_cV1 dX7_knows_10 ceX7_isLine kX7_161 (rm_le rfl rfl) (Nat.le_of_ble_eq_true rfl) (Nat.le_of_ble_eq_true rfl) (e7_isLine m1 l3) (by first | assumption | rfl) ?_
            rw [c2]
            refine ev_if_ne 19 dX7_knows_13 (by decide) (fun hc13 => ?_) (fun hc13 => False.elim (absurd hc13 (by decide)))
            refine ev_iload_n dX7_knows_19 rfl ?_
            refine ev_if_ne 41 dX7_knows_20 (by decide) (fun _ => ?_) (fun hc20 => False.elim (absurd hc20 (by decide)))
            refine ev_iload_n dX7_knows_41 rfl ?_
            refine ev_iconst (v := (nI 1)) dX7_knows_42 (by decide) ?_
            refine ev_icmp_ne 64 dX7_knows_43 (by decide) (fun hc43 => False.elim (absurd hc43 (by decide))) (fun _ => ?_)
            refine ev_aload_n dX7_knows_46 rfl ?_
            refine ev_getR dX7_knows_47 fX7_7 (by first | assumption | rfl) (by rfl) ?_
            refine ev_sipush (v := (nI 288)) dX7_knows_50 (by decide) ?_
            refine ev_bipush (v := (nI 16)) dX7_knows_53 (by decide) ?_
            refine ev_iload_n dX7_knows_55 rfl ?_
            refine ev_imul dX7_knows_56 ?_
            refine ev_iadd dX7_knows_57 ?_
            refine ev_iload_n dX7_knows_58 rfl ?_
            refine ev_iadd dX7_knows_59 ?_
            refine ev_ialdE _ dX7_knows_60 (by first | with_reducible rfl | with_reducible exact nI_add _ _ | with_reducible exact ix3 _ _ _ | with_reducible exact ix_k _ _ _ | with_reducible exact ix_xk _ _ _ _) (by first | assumption | rfl) ⟨by omega, by decide⟩ ?_
            refine ev_goto 66 dX7_knows_61 (by decide) ?_
            exact ev_iretE dX7_knows_66 rfl rfl (by first | rfl | simp_all) (rfl)
        · refine ⟨G 1 (288 + 16 * j1 + j2), C, G, ?_, ?_, hR0⟩
          · refine ev_aload_n dX6_knows_0 rfl ?_
            refine ev_getR dX6_knows_1 fX6_23 (by first | assumption | rfl) (by rfl) ?_
            refine ev_iload_n dX6_knows_4 rfl ?_
            refine ev_cV1 dX6_knows_5 ceX1_hasReader kX6_147 (rm_le rfl rfl) (Nat.le_of_ble_eq_true rfl) (Nat.le_of_ble_eq_true rfl) (e_hasReader) (by first | assumption | rfl) ?_
            rw [r1, c1]
            refine ev_if_eq 22 dX6_knows_8 (by decide) (fun hc8 => False.elim (absurd hc8 (by decide))) (fun hc8 => ?_)
            refine ev_aload_n dX6_knows_11 rfl ?_
            refine ev_getR dX6_knows_12 fX6_23 (by first | assumption | rfl) (by rfl) ?_
            refine ev_iload_n dX6_knows_15 rfl ?_
            refine ev_cV1 dX6_knows_16 ceX1_hasLine kX6_123 (rm_le rfl rfl) (Nat.le_of_ble_eq_true rfl) (Nat.le_of_ble_eq_true rfl) (e_hasLine) (by first | assumption | rfl) ?_
            rw [l1, c2]
            refine ev_if_ne 25 dX6_knows_19 (by decide) (fun hc19 => ?_) (fun hc19 => False.elim (absurd hc19 (by decide)))
            refine ev_iload_n dX6_knows_25 rfl ?_
            refine ev_if_lt 34 dX6_knows_26 (by decide) (fun hc26 => False.elim (absurd hc26 (by decide))) (fun _ => ?_)
            refine ev_iload_n dX6_knows_29 rfl ?_
            refine ev_iconst (v := (nI 1)) dX6_knows_30 (by decide) ?_
            refine ev_icmp_le 37 dX6_knows_31 (by decide) (fun _ => ?_) (fun hc31 => False.elim (absurd hc31 (by decide)))
            refine ev_aload_n dX6_knows_37 rfl ?_
            refine ev_getR dX6_knows_38 fX6_31 (by first | assumption | rfl) (by rfl) ?_
            refine ev_iload_n dX6_knows_41 rfl ?_
            refine ev_iload_n dX6_knows_42 rfl ?_
            refine ev_cV2 dX6_knows_43 ceX5_knowsAny kX6_174 (rm_le rfl rfl) (Nat.le_of_ble_eq_true rfl) (Nat.le_of_ble_eq_true rfl) (e_knowsAny st_21 (by omega) (by omega)) (by first | assumption | rfl) ?_
            rw [kn1, decide_eq_false u1]
            refine ev_if_ne 51 dX6_knows_46 (by decide) (fun hc46 => ?_) (fun hc46 => False.elim (absurd hc46 (by decide)))
            refine ev_iload_n dX6_knows_51 rfl ?_
            refine ev_if_ne 67 dX6_knows_52 (by decide) (fun _ => ?_) (fun hc52 => False.elim (absurd hc52 (by decide)))
            refine ev_aload_n dX6_knows_67 rfl ?_
            refine ev_getR dX6_knows_68 fX6_31 (by first | assumption | rfl) (by rfl) ?_
            refine ev_iload_n dX6_knows_71 rfl ?_
            refine ev_iload_n dX6_knows_72 rfl ?_
            refine ev_cV2 dX6_knows_73 ceX5_dayLearnt kX6_181 (rm_le rfl rfl) (Nat.le_of_ble_eq_true rfl) (Nat.le_of_ble_eq_true rfl) (e_dayLearnt st_21 (by omega) (by omega)) (by first | assumption | rfl) ?_
            exact ev_iretE dX6_knows_76 rfl rfl (by first | rfl | rw [u2]) (rfl)
          · refine ev_aload_n dX7_knows_0 rfl ?_
            refine ev_iload_n dX7_knows_1 rfl ?_
            refine ev_cV1 dX7_knows_2 ceX7_isReader kX7_169 (rm_le rfl rfl) (Nat.le_of_ble_eq_true rfl) (Nat.le_of_ble_eq_true rfl) (e7_isReader m2 l6) (by first | assumption | rfl) ?_
            rw [c1]
            refine ev_if_eq 16 dX7_knows_5 (by decide) (fun hc5 => False.elim (absurd hc5 (by decide))) (fun hc5 => ?_)
            refine ev_aload_n dX7_knows_8 rfl ?_
            refine ev_iload_n dX7_knows_9 rfl ?_
            refine ev_cV1 dX7_knows_10 ceX7_isLine kX7_161 (rm_le rfl rfl) (Nat.le_of_ble_eq_true rfl) (Nat.le_of_ble_eq_true rfl) (e7_isLine m1 l3) (by first | assumption | rfl) ?_
            rw [c2]
            refine ev_if_ne 19 dX7_knows_13 (by decide) (fun hc13 => ?_) (fun hc13 => False.elim (absurd hc13 (by decide)))
            refine ev_iload_n dX7_knows_19 rfl ?_
            refine ev_if_ne 41 dX7_knows_20 (by decide) (fun _ => ?_) (fun hc20 => False.elim (absurd hc20 (by decide)))
            refine ev_iload_n dX7_knows_41 rfl ?_
            refine ev_iconst (v := (nI 1)) dX7_knows_42 (by decide) ?_
            refine ev_icmp_ne 64 dX7_knows_43 (by decide) (fun hc43 => False.elim (absurd hc43 (by decide))) (fun _ => ?_)
            refine ev_aload_n dX7_knows_46 rfl ?_
            refine ev_getR dX7_knows_47 fX7_7 (by first | assumption | rfl) (by rfl) ?_
            refine ev_sipush (v := (nI 288)) dX7_knows_50 (by decide) ?_
            refine ev_bipush (v := (nI 16)) dX7_knows_53 (by decide) ?_
            refine ev_iload_n dX7_knows_55 rfl ?_
            refine ev_imul dX7_knows_56 ?_
            refine ev_iadd dX7_knows_57 ?_
            refine ev_iload_n dX7_knows_58 rfl ?_
            refine ev_iadd dX7_knows_59 ?_
            refine ev_ialdE _ dX7_knows_60 (by first | with_reducible rfl | with_reducible exact nI_add _ _ | with_reducible exact ix3 _ _ _ | with_reducible exact ix_k _ _ _ | with_reducible exact ix_xk _ _ _ _) (by first | assumption | rfl) ⟨by omega, by decide⟩ ?_
            refine ev_goto 66 dX7_knows_61 (by decide) ?_
            exact ev_iretE dX7_knows_66 rfl rfl (by first | rfl | simp_all) (rfl)
      rcases sw_lt (m := 1) (by decide) (fun j hj => by rcases (show j = 0 ∨ j = 1 by omega) with e | e <;> subst e <;> assumption) with hx0 | ⟨hx0, hx1⟩
      · refine ⟨(-1000000002), C, G, ?_, ?_, hR0⟩
        · refine ev_aload_n dX6_knows_0 rfl ?_
          refine ev_getR dX6_knows_1 fX6_23 (by first | assumption | rfl) (by rfl) ?_
          refine ev_iload_n dX6_knows_4 rfl ?_
          refine ev_cV1 dX6_knows_5 ceX1_hasReader kX6_147 (rm_le rfl rfl) (Nat.le_of_ble_eq_true rfl) (Nat.le_of_ble_eq_true rfl) (e_hasReader) (by first | assumption | rfl) ?_
          rw [r1, c1]
          refine ev_if_eq 22 dX6_knows_8 (by decide) (fun hc8 => False.elim (absurd hc8 (by decide))) (fun hc8 => ?_)
          refine ev_aload_n dX6_knows_11 rfl ?_
          refine ev_getR dX6_knows_12 fX6_23 (by first | assumption | rfl) (by rfl) ?_
          refine ev_iload_n dX6_knows_15 rfl ?_
          refine ev_cV1 dX6_knows_16 ceX1_hasLine kX6_123 (rm_le rfl rfl) (Nat.le_of_ble_eq_true rfl) (Nat.le_of_ble_eq_true rfl) (e_hasLine) (by first | assumption | rfl) ?_
          rw [l1, c2]
          refine ev_if_ne 25 dX6_knows_19 (by decide) (fun hc19 => ?_) (fun hc19 => False.elim (absurd hc19 (by decide)))
          refine ev_iload_n dX6_knows_25 rfl ?_
          refine ev_if_lt 34 dX6_knows_26 (by decide) (fun hc26 => ?_) (fun hc26 => False.elim (hc26 hx0))
          refine ev_ldc (v := (-1000000002)) dX6_knows_34 nX6_70 ?_
          exact ev_iretE dX6_knows_36 rfl rfl (by first | rfl | simp_all) (rfl)
        · refine ev_aload_n dX7_knows_0 rfl ?_
          refine ev_iload_n dX7_knows_1 rfl ?_
          refine ev_cV1 dX7_knows_2 ceX7_isReader kX7_169 (rm_le rfl rfl) (Nat.le_of_ble_eq_true rfl) (Nat.le_of_ble_eq_true rfl) (e7_isReader m2 l6) (by first | assumption | rfl) ?_
          rw [c1]
          refine ev_if_eq 16 dX7_knows_5 (by decide) (fun hc5 => False.elim (absurd hc5 (by decide))) (fun hc5 => ?_)
          refine ev_aload_n dX7_knows_8 rfl ?_
          refine ev_iload_n dX7_knows_9 rfl ?_
          refine ev_cV1 dX7_knows_10 ceX7_isLine kX7_161 (rm_le rfl rfl) (Nat.le_of_ble_eq_true rfl) (Nat.le_of_ble_eq_true rfl) (e7_isLine m1 l3) (by first | assumption | rfl) ?_
          rw [c2]
          refine ev_if_ne 19 dX7_knows_13 (by decide) (fun hc13 => ?_) (fun hc13 => False.elim (absurd hc13 (by decide)))
          refine ev_iload_n dX7_knows_19 rfl ?_
          refine ev_if_ne 41 dX7_knows_20 (by decide) (fun hc20 => ?_) (fun hc20 => False.elim (hs0 hc20))
          refine ev_iload_n dX7_knows_41 rfl ?_
          refine ev_iconst (v := (nI 1)) dX7_knows_42 (by decide) ?_
          refine ev_icmp_ne 64 dX7_knows_43 (by decide) (fun hc43 => ?_) (fun hc43 => False.elim (hs1 hc43))
          refine ev_ldc (v := (-1000000002)) dX7_knows_64 nX7_63 ?_
          exact ev_iretE dX7_knows_66 rfl rfl (by first | rfl | simp_all) (rfl)
      · refine ⟨(-1000000002), C, G, ?_, ?_, hR0⟩
        · refine ev_aload_n dX6_knows_0 rfl ?_
          refine ev_getR dX6_knows_1 fX6_23 (by first | assumption | rfl) (by rfl) ?_
          refine ev_iload_n dX6_knows_4 rfl ?_
          refine ev_cV1 dX6_knows_5 ceX1_hasReader kX6_147 (rm_le rfl rfl) (Nat.le_of_ble_eq_true rfl) (Nat.le_of_ble_eq_true rfl) (e_hasReader) (by first | assumption | rfl) ?_
          rw [r1, c1]
          refine ev_if_eq 22 dX6_knows_8 (by decide) (fun hc8 => False.elim (absurd hc8 (by decide))) (fun hc8 => ?_)
          refine ev_aload_n dX6_knows_11 rfl ?_
          refine ev_getR dX6_knows_12 fX6_23 (by first | assumption | rfl) (by rfl) ?_
          refine ev_iload_n dX6_knows_15 rfl ?_
          refine ev_cV1 dX6_knows_16 ceX1_hasLine kX6_123 (rm_le rfl rfl) (Nat.le_of_ble_eq_true rfl) (Nat.le_of_ble_eq_true rfl) (e_hasLine) (by first | assumption | rfl) ?_
          rw [l1, c2]
          refine ev_if_ne 25 dX6_knows_19 (by decide) (fun hc19 => ?_) (fun hc19 => False.elim (absurd hc19 (by decide)))
          refine ev_iload_n dX6_knows_25 rfl ?_
          refine ev_if_lt 34 dX6_knows_26 (by decide) (fun hc26 => False.elim (hx0 hc26)) (fun hc26 => ?_)
          refine ev_iload_n dX6_knows_29 rfl ?_
          refine ev_iconst (v := (nI 1)) dX6_knows_30 (by decide) ?_
          refine ev_icmp_le 37 dX6_knows_31 (by decide) (fun hc31 => False.elim (hx1 hc31)) (fun hc31 => ?_)
          refine ev_ldc (v := (-1000000002)) dX6_knows_34 nX6_70 ?_
          exact ev_iretE dX6_knows_36 rfl rfl (by first | rfl | simp_all) (rfl)
        · refine ev_aload_n dX7_knows_0 rfl ?_
          refine ev_iload_n dX7_knows_1 rfl ?_
          refine ev_cV1 dX7_knows_2 ceX7_isReader kX7_169 (rm_le rfl rfl) (Nat.le_of_ble_eq_true rfl) (Nat.le_of_ble_eq_true rfl) (e7_isReader m2 l6) (by first | assumption | rfl) ?_
          rw [c1]
          refine ev_if_eq 16 dX7_knows_5 (by decide) (fun hc5 => False.elim (absurd hc5 (by decide))) (fun hc5 => ?_)
          refine ev_aload_n dX7_knows_8 rfl ?_
          refine ev_iload_n dX7_knows_9 rfl ?_
          refine ev_cV1 dX7_knows_10 ceX7_isLine kX7_161 (rm_le rfl rfl) (Nat.le_of_ble_eq_true rfl) (Nat.le_of_ble_eq_true rfl) (e7_isLine m1 l3) (by first | assumption | rfl) ?_
          rw [c2]
          refine ev_if_ne 19 dX7_knows_13 (by decide) (fun hc13 => ?_) (fun hc13 => False.elim (absurd hc13 (by decide)))
          refine ev_iload_n dX7_knows_19 rfl ?_
          refine ev_if_ne 41 dX7_knows_20 (by decide) (fun hc20 => ?_) (fun hc20 => False.elim (hs0 hc20))
          refine ev_iload_n dX7_knows_41 rfl ?_
          refine ev_iconst (v := (nI 1)) dX7_knows_42 (by decide) ?_
          refine ev_icmp_ne 64 dX7_knows_43 (by decide) (fun hc43 => ?_) (fun hc43 => False.elim (hs1 hc43))
          refine ev_ldc (v := (-1000000002)) dX7_knows_64 nX7_63 ?_
          exact ev_iretE dX7_knows_66 rfl rfl (by first | rfl | simp_all) (rfl)
    · refine ⟨(-1000000001), C, G, ?_, ?_, hR0⟩
      · refine ev_aload_n dX6_knows_0 rfl ?_
        refine ev_getR dX6_knows_1 fX6_23 (by first | assumption | rfl) (by rfl) ?_
        refine ev_iload_n dX6_knows_4 rfl ?_
        refine ev_cV1 dX6_knows_5 ceX1_hasReader kX6_147 (rm_le rfl rfl) (Nat.le_of_ble_eq_true rfl) (Nat.le_of_ble_eq_true rfl) (e_hasReader) (by first | assumption | rfl) ?_
        rw [r1, c1]
        refine ev_if_eq 22 dX6_knows_8 (by decide) (fun hc8 => False.elim (absurd hc8 (by decide))) (fun hc8 => ?_)
        refine ev_aload_n dX6_knows_11 rfl ?_
        refine ev_getR dX6_knows_12 fX6_23 (by first | assumption | rfl) (by rfl) ?_
        refine ev_iload_n dX6_knows_15 rfl ?_
        refine ev_cV1 dX6_knows_16 ceX1_hasLine kX6_123 (rm_le rfl rfl) (Nat.le_of_ble_eq_true rfl) (Nat.le_of_ble_eq_true rfl) (e_hasLine) (by first | assumption | rfl) ?_
        rw [l1, c2]
        refine ev_if_ne 25 dX6_knows_19 (by decide) (fun hc19 => False.elim (absurd hc19 (by decide))) (fun hc19 => ?_)
        refine ev_ldc (v := (-1000000001)) dX6_knows_22 nX6_127 ?_
        exact ev_iretE dX6_knows_24 rfl rfl (by first | rfl | simp_all) (rfl)
      · refine ev_aload_n dX7_knows_0 rfl ?_
        refine ev_iload_n dX7_knows_1 rfl ?_
        refine ev_cV1 dX7_knows_2 ceX7_isReader kX7_169 (rm_le rfl rfl) (Nat.le_of_ble_eq_true rfl) (Nat.le_of_ble_eq_true rfl) (e7_isReader m2 l6) (by first | assumption | rfl) ?_
        rw [c1]
        refine ev_if_eq 16 dX7_knows_5 (by decide) (fun hc5 => False.elim (absurd hc5 (by decide))) (fun hc5 => ?_)
        refine ev_aload_n dX7_knows_8 rfl ?_
        refine ev_iload_n dX7_knows_9 rfl ?_
        refine ev_cV1 dX7_knows_10 ceX7_isLine kX7_161 (rm_le rfl rfl) (Nat.le_of_ble_eq_true rfl) (Nat.le_of_ble_eq_true rfl) (e7_isLine m1 l3) (by first | assumption | rfl) ?_
        rw [c2]
        refine ev_if_ne 19 dX7_knows_13 (by decide) (fun hc13 => False.elim (absurd hc13 (by decide))) (fun hc13 => ?_)
        refine ev_ldc (v := (-1000000001)) dX7_knows_16 nX7_165 ?_
        exact ev_iretE dX7_knows_18 rfl rfl (by first | rfl | simp_all) (rfl)
  · refine ⟨(-1000000001), C, G, ?_, ?_, hR0⟩
    · refine ev_aload_n dX6_knows_0 rfl ?_
      refine ev_getR dX6_knows_1 fX6_23 (by first | assumption | rfl) (by rfl) ?_
      refine ev_iload_n dX6_knows_4 rfl ?_
      refine ev_cV1 dX6_knows_5 ceX1_hasReader kX6_147 (rm_le rfl rfl) (Nat.le_of_ble_eq_true rfl) (Nat.le_of_ble_eq_true rfl) (e_hasReader) (by first | assumption | rfl) ?_
      rw [r1, c1]
      refine ev_if_eq 22 dX6_knows_8 (by decide) (fun hc8 => ?_) (fun hc8 => False.elim (absurd hc8 (by decide)))
      refine ev_ldc (v := (-1000000001)) dX6_knows_22 nX6_127 ?_
      exact ev_iretE dX6_knows_24 rfl rfl (by first | rfl | simp_all) (rfl)
    · refine ev_aload_n dX7_knows_0 rfl ?_
      refine ev_iload_n dX7_knows_1 rfl ?_
      refine ev_cV1 dX7_knows_2 ceX7_isReader kX7_169 (rm_le rfl rfl) (Nat.le_of_ble_eq_true rfl) (Nat.le_of_ble_eq_true rfl) (e7_isReader m2 l6) (by first | assumption | rfl) ?_
      rw [c1]
      refine ev_if_eq 16 dX7_knows_5 (by decide) (fun hc5 => ?_) (fun hc5 => False.elim (absurd hc5 (by decide)))
      refine ev_ldc (v := (-1000000001)) dX7_knows_16 nX7_165 ?_
      exact ev_iretE dX7_knows_18 rfl rfl (by first | rfl | simp_all) (rfl)
set_option maxRecDepth 20000 in
set_option maxHeartbeats 2000000 in
theorem op_reading {i x : Int32} : OpOk mX6_reading mX7_reading [.int i, .int x] := by
  intro C G hR
  have hR0 := hR
  obtain ⟨nl, nr, tm, n, d, nq, tl, nd, b0, b1, kt, hp⟩ := hR
  obtain ⟨hS, hE, hQ, hT, hDr, hI, hkt, hkt3⟩ := id hp
  have hL := hS.1
  obtain ⟨l1, m1, l3, r1, m2, l6, le, lw, lr⟩ := id hL
  obtain ⟨hP, ⟨d1, d2, d3⟩, ⟨s1, s2⟩, hH⟩ := id hS.2.1
  obtain ⟨p1, p2, p3, p4, p5⟩ := id hP
  rw [Nat.zero_add] at p2 d2 s1
  obtain ⟨-, -, k, k', q1, q2, q3, q4, q5⟩ := id hS
  obtain ⟨ke, kl⟩ := q5 rfl
  subst ke
  obtain ⟨-, -, -, kl4⟩ := id kl
  rw [Nat.zero_add] at q3
  by_cases hs0 : x = nI 0
  · subst hs0
    rcases ck i (show k' < 2 ^ 31 by omega) with ⟨j, hj, e, hck⟩ | hck
    · subst e
      obtain ⟨z1, z2, z3, -⟩ := kl4 j hj
      simp only [Nat.zero_add] at z1 z2 z3
      have i0 : ¬ nI j < 0 := nI_pos (by omega)
      have i1 : nI j < C (21 + 8) 3 := by rw [q1]; exact nI_lt hj (by omega)
      have hsl : Op.lookupswitch.offset [(0, 27), (1, 40)] 53 (nI 2).toInt = 53 := rfl
      refine ⟨C (21 + 9) j, C, G, ?_, ?_, hR0⟩
      · refine ev_iload_n dX6_reading_0 rfl ?_
        refine ev_if_lt 9 dX6_reading_1 (by decide) (fun hc1 => False.elim (absurd hc1 (by decide))) (fun _ => ?_)
        refine ev_iload_n dX6_reading_4 rfl ?_
        refine ev_iconst (v := (nI 2)) dX6_reading_5 (by decide) ?_
        refine ev_icmp_le 12 dX6_reading_6 (by decide) (fun _ => ?_) (fun hc6 => False.elim (absurd hc6 (by decide)))
        refine ev_iload_n dX6_reading_12 rfl ?_
        refine ev_if_lt 30 dX6_reading_13 (by decide) (fun hc13 => False.elim (i0 hc13)) (fun hc13 => ?_)
        refine ev_iload_n dX6_reading_16 rfl ?_
        refine ev_aload_n dX6_reading_17 rfl ?_
        refine ev_getR dX6_reading_18 fX6_31 (by first | assumption | rfl) (by rfl) ?_
        refine ev_getR dX6_reading_21 fX6_106 (by first | assumption | rfl) (by rfl) ?_
        refine ev_getI dX6_reading_24 fX6_110 (by first | assumption | rfl) (by rfl) ?_
        refine ev_icmp_lt 32 dX6_reading_27 (by decide) (fun hc27 => ?_) (fun hc27 => False.elim (hc27 i1))
        refine ev_iload_n dX6_reading_32 rfl ?_
        refine ev_look 60 dX6_reading_33 (by decide) rfl (by decide) ?_
        refine ev_aload_n dX6_reading_60 rfl ?_
        refine ev_getR dX6_reading_61 fX6_31 (by first | assumption | rfl) (by rfl) ?_
        refine ev_getR dX6_reading_64 fX6_106 (by first | assumption | rfl) (by rfl) ?_
        refine ev_getR dX6_reading_67 fX6_184 (by first | assumption | rfl) (by rfl) ?_
        refine ev_iload_n dX6_reading_70 rfl ?_
        refine ev_ialdE _ dX6_reading_71 (rfl) (by first | assumption | rfl) ⟨by omega, by decide⟩ ?_
        exact ev_iretE dX6_reading_72 rfl rfl (by first | rfl | simp_all) (rfl)
      · refine ev_iload_n dX7_reading_0 rfl ?_
        refine ev_i2l dX7_reading_1 ?_
        refine ev_lconst (v := 0) dX7_reading_2 rfl ?_
        refine ev_ldc2 dX7_reading_3 nX7_181 ?_
        refine ev_cS3 dX7_reading_6 ceX7_in kX7_59 (rm_le rfl rfl) (Nat.le_of_ble_eq_true rfl) (Nat.le_of_ble_eq_true rfl) (e7_in) ?_
        refine ev_if_ne 15 dX7_reading_9 (by decide) (fun hc9 => ?_) (fun hc9 => False.elim (absurd hc9 (by decide)))
        refine ev_iload_n dX7_reading_15 rfl ?_
        refine ev_i2l dX7_reading_16 ?_
        refine ev_lconst (v := 0) dX7_reading_17 rfl ?_
        refine ev_aload_n dX7_reading_18 rfl ?_
        refine ev_getR dX7_reading_19 fX7_7 (by first | assumption | rfl) (by rfl) ?_
        refine ev_sipush (v := (nI 1333)) dX7_reading_22 (by decide) ?_
        refine ev_ialdE _ dX7_reading_25 (by first | with_reducible rfl | with_reducible exact nI_add _ _ | with_reducible exact ix3 _ _ _ | with_reducible exact ix_k _ _ _ | with_reducible exact ix_xk _ _ _ _) (by first | assumption | rfl) ⟨by omega, by decide⟩ ?_
        refine ev_iconst (v := (nI 1)) dX7_reading_26 (by decide) ?_
        refine ev_isub dX7_reading_27 ?_
        refine ev_i2l dX7_reading_28 ?_
        rw [q3]
        refine ev_cS3 dX7_reading_29 ceX7_in kX7_59 (rm_le rfl rfl) (Nat.le_of_ble_eq_true rfl) (Nat.le_of_ble_eq_true rfl) (e7_in) ?_
        rw [in_n _ (by omega), hck]
        refine ev_if_eq 54 dX7_reading_32 (by decide) (fun hc32 => False.elim (absurd hc32 (by decide))) (fun hc32 => ?_)
        refine ev_aload_n dX7_reading_35 rfl ?_
        refine ev_getR dX7_reading_36 fX7_7 (by first | assumption | rfl) (by rfl) ?_
        refine ev_sipush (v := (nI 432)) dX7_reading_39 (by decide) ?_
        refine ev_sipush (v := (nI 300)) dX7_reading_42 (by decide) ?_
        refine ev_iload_n dX7_reading_45 rfl ?_
        refine ev_imul dX7_reading_46 ?_
        refine ev_iadd dX7_reading_47 ?_
        refine ev_iload_n dX7_reading_48 rfl ?_
        refine ev_iadd dX7_reading_49 ?_
        refine ev_ialdE ((432 + j)) dX7_reading_50 (by have e : 432 + 300 * 0 + j = 432 + j := (by omega); rw [pk_mul, nI_add, nI_add, e]) (by first | assumption | rfl) ⟨by omega, by decide⟩ ?_
        refine ev_goto 55 dX7_reading_51 (by decide) ?_
        exact ev_iretE dX7_reading_55 rfl rfl (by rw [z1]) (rfl)
    · rcases pk_ix i (n := k') (by omega) with z | z | ⟨j, z1, z2⟩
      · refine ⟨(-1), C, G, ?_, ?_, hR0⟩
        · refine ev_iload_n dX6_reading_0 rfl ?_
          refine ev_if_lt 9 dX6_reading_1 (by decide) (fun hc1 => False.elim (absurd hc1 (by decide))) (fun _ => ?_)
          refine ev_iload_n dX6_reading_4 rfl ?_
          refine ev_iconst (v := (nI 2)) dX6_reading_5 (by decide) ?_
          refine ev_icmp_le 12 dX6_reading_6 (by decide) (fun _ => ?_) (fun hc6 => False.elim (absurd hc6 (by decide)))
          refine ev_iload_n dX6_reading_12 rfl ?_
          refine ev_if_lt 30 dX6_reading_13 (by decide) (fun hc13 => ?_) (fun hc13 => False.elim (hc13 z))
          refine ev_iconst (v := (-1)) dX6_reading_30 (by decide) ?_
          exact ev_iretE dX6_reading_31 rfl rfl (by first | rfl | simp_all) (rfl)
        · refine ev_iload_n dX7_reading_0 rfl ?_
          refine ev_i2l dX7_reading_1 ?_
          refine ev_lconst (v := 0) dX7_reading_2 rfl ?_
          refine ev_ldc2 dX7_reading_3 nX7_181 ?_
          refine ev_cS3 dX7_reading_6 ceX7_in kX7_59 (rm_le rfl rfl) (Nat.le_of_ble_eq_true rfl) (Nat.le_of_ble_eq_true rfl) (e7_in) ?_
          refine ev_if_ne 15 dX7_reading_9 (by decide) (fun hc9 => ?_) (fun hc9 => False.elim (absurd hc9 (by decide)))
          refine ev_iload_n dX7_reading_15 rfl ?_
          refine ev_i2l dX7_reading_16 ?_
          refine ev_lconst (v := 0) dX7_reading_17 rfl ?_
          refine ev_aload_n dX7_reading_18 rfl ?_
          refine ev_getR dX7_reading_19 fX7_7 (by first | assumption | rfl) (by rfl) ?_
          refine ev_sipush (v := (nI 1333)) dX7_reading_22 (by decide) ?_
          refine ev_ialdE _ dX7_reading_25 (by first | with_reducible rfl | with_reducible exact nI_add _ _ | with_reducible exact ix3 _ _ _ | with_reducible exact ix_k _ _ _ | with_reducible exact ix_xk _ _ _ _) (by first | assumption | rfl) ⟨by omega, by decide⟩ ?_
          refine ev_iconst (v := (nI 1)) dX7_reading_26 (by decide) ?_
          refine ev_isub dX7_reading_27 ?_
          refine ev_i2l dX7_reading_28 ?_
          rw [q3]
          refine ev_cS3 dX7_reading_29 ceX7_in kX7_59 (rm_le rfl rfl) (Nat.le_of_ble_eq_true rfl) (Nat.le_of_ble_eq_true rfl) (e7_in) ?_
          rw [in_n _ (by omega), hck]
          refine ev_if_eq 54 dX7_reading_32 (by decide) (fun hc32 => ?_) (fun hc32 => False.elim (absurd hc32 (by decide)))
          refine ev_iconst (v := (-1)) dX7_reading_54 (by decide) ?_
          exact ev_iretE dX7_reading_55 rfl rfl (by first | rfl | simp_all) (rfl)
      · have z0 : ¬ i < C (21 + 8) 3 := by rw [q1]; exact fun y => (fa_of_lt y).2.1 z
        refine ⟨(-1), C, G, ?_, ?_, hR0⟩
        · refine ev_iload_n dX6_reading_0 rfl ?_
          refine ev_if_lt 9 dX6_reading_1 (by decide) (fun hc1 => False.elim (absurd hc1 (by decide))) (fun _ => ?_)
          refine ev_iload_n dX6_reading_4 rfl ?_
          refine ev_iconst (v := (nI 2)) dX6_reading_5 (by decide) ?_
          refine ev_icmp_le 12 dX6_reading_6 (by decide) (fun _ => ?_) (fun hc6 => False.elim (absurd hc6 (by decide)))
          refine ev_iload_n dX6_reading_12 rfl ?_
          refine ev_if_lt 30 dX6_reading_13 (by decide) (fun hc13 => ?_) (fun hc13 => ?_)
          · skip
            refine ev_iconst (v := (-1)) dX6_reading_30 (by decide) ?_
            exact ev_iretE dX6_reading_31 rfl rfl (by first | rfl | simp_all) (rfl)
          · skip
            refine ev_iload_n dX6_reading_16 rfl ?_
            refine ev_aload_n dX6_reading_17 rfl ?_
            refine ev_getR dX6_reading_18 fX6_31 (by first | assumption | rfl) (by rfl) ?_
            refine ev_getR dX6_reading_21 fX6_106 (by first | assumption | rfl) (by rfl) ?_
            refine ev_getI dX6_reading_24 fX6_110 (by first | assumption | rfl) (by rfl) ?_
            refine ev_icmp_lt 32 dX6_reading_27 (by decide) (fun hc27 => False.elim (z0 hc27)) (fun hc27 => ?_)
            refine ev_iconst (v := (-1)) dX6_reading_30 (by decide) ?_
            exact ev_iretE dX6_reading_31 rfl rfl (by first | rfl | simp_all) (rfl)
        · refine ev_iload_n dX7_reading_0 rfl ?_
          refine ev_i2l dX7_reading_1 ?_
          refine ev_lconst (v := 0) dX7_reading_2 rfl ?_
          refine ev_ldc2 dX7_reading_3 nX7_181 ?_
          refine ev_cS3 dX7_reading_6 ceX7_in kX7_59 (rm_le rfl rfl) (Nat.le_of_ble_eq_true rfl) (Nat.le_of_ble_eq_true rfl) (e7_in) ?_
          refine ev_if_ne 15 dX7_reading_9 (by decide) (fun hc9 => ?_) (fun hc9 => False.elim (absurd hc9 (by decide)))
          refine ev_iload_n dX7_reading_15 rfl ?_
          refine ev_i2l dX7_reading_16 ?_
          refine ev_lconst (v := 0) dX7_reading_17 rfl ?_
          refine ev_aload_n dX7_reading_18 rfl ?_
          refine ev_getR dX7_reading_19 fX7_7 (by first | assumption | rfl) (by rfl) ?_
          refine ev_sipush (v := (nI 1333)) dX7_reading_22 (by decide) ?_
          refine ev_ialdE _ dX7_reading_25 (by first | with_reducible rfl | with_reducible exact nI_add _ _ | with_reducible exact ix3 _ _ _ | with_reducible exact ix_k _ _ _ | with_reducible exact ix_xk _ _ _ _) (by first | assumption | rfl) ⟨by omega, by decide⟩ ?_
          refine ev_iconst (v := (nI 1)) dX7_reading_26 (by decide) ?_
          refine ev_isub dX7_reading_27 ?_
          refine ev_i2l dX7_reading_28 ?_
          rw [q3]
          refine ev_cS3 dX7_reading_29 ceX7_in kX7_59 (rm_le rfl rfl) (Nat.le_of_ble_eq_true rfl) (Nat.le_of_ble_eq_true rfl) (e7_in) ?_
          rw [in_n _ (by omega), hck]
          refine ev_if_eq 54 dX7_reading_32 (by decide) (fun hc32 => ?_) (fun hc32 => False.elim (absurd hc32 (by decide)))
          refine ev_iconst (v := (-1)) dX7_reading_54 (by decide) ?_
          exact ev_iretE dX7_reading_55 rfl rfl (by first | rfl | simp_all) (rfl)
      · rw [z2, decide_eq_false (nI_pos (by omega)), decide_eq_false (nI_ge z1 (by omega))] at hck
        cases hck
  by_cases hs1 : x = nI 1
  · subst hs1
    rcases ck i (show k' < 2 ^ 31 by omega) with ⟨j, hj, e, hck⟩ | hck
    · subst e
      obtain ⟨z1, z2, z3, -⟩ := kl4 j hj
      simp only [Nat.zero_add] at z1 z2 z3
      have i0 : ¬ nI j < 0 := nI_pos (by omega)
      have i1 : nI j < C (21 + 8) 3 := by rw [q1]; exact nI_lt hj (by omega)
      have hsl : Op.lookupswitch.offset [(0, 27), (1, 40)] 53 (nI 2).toInt = 53 := rfl
      refine ⟨C (21 + 10) j, C, G, ?_, ?_, hR0⟩
      · refine ev_iload_n dX6_reading_0 rfl ?_
        refine ev_if_lt 9 dX6_reading_1 (by decide) (fun hc1 => False.elim (absurd hc1 (by decide))) (fun _ => ?_)
        refine ev_iload_n dX6_reading_4 rfl ?_
        refine ev_iconst (v := (nI 2)) dX6_reading_5 (by decide) ?_
        refine ev_icmp_le 12 dX6_reading_6 (by decide) (fun _ => ?_) (fun hc6 => False.elim (absurd hc6 (by decide)))
        refine ev_iload_n dX6_reading_12 rfl ?_
        refine ev_if_lt 30 dX6_reading_13 (by decide) (fun hc13 => False.elim (i0 hc13)) (fun hc13 => ?_)
        refine ev_iload_n dX6_reading_16 rfl ?_
        refine ev_aload_n dX6_reading_17 rfl ?_
        refine ev_getR dX6_reading_18 fX6_31 (by first | assumption | rfl) (by rfl) ?_
        refine ev_getR dX6_reading_21 fX6_106 (by first | assumption | rfl) (by rfl) ?_
        refine ev_getI dX6_reading_24 fX6_110 (by first | assumption | rfl) (by rfl) ?_
        refine ev_icmp_lt 32 dX6_reading_27 (by decide) (fun hc27 => ?_) (fun hc27 => False.elim (hc27 i1))
        refine ev_iload_n dX6_reading_32 rfl ?_
        refine ev_look 73 dX6_reading_33 (by decide) rfl (by decide) ?_
        refine ev_aload_n dX6_reading_73 rfl ?_
        refine ev_getR dX6_reading_74 fX6_31 (by first | assumption | rfl) (by rfl) ?_
        refine ev_getR dX6_reading_77 fX6_106 (by first | assumption | rfl) (by rfl) ?_
        refine ev_getR dX6_reading_80 fX6_187 (by first | assumption | rfl) (by rfl) ?_
        refine ev_iload_n dX6_reading_83 rfl ?_
        refine ev_ialdE _ dX6_reading_84 (rfl) (by first | assumption | rfl) ⟨by omega, by decide⟩ ?_
        exact ev_iretE dX6_reading_85 rfl rfl (by first | rfl | simp_all) (rfl)
      · refine ev_iload_n dX7_reading_0 rfl ?_
        refine ev_i2l dX7_reading_1 ?_
        refine ev_lconst (v := 0) dX7_reading_2 rfl ?_
        refine ev_ldc2 dX7_reading_3 nX7_181 ?_
        refine ev_cS3 dX7_reading_6 ceX7_in kX7_59 (rm_le rfl rfl) (Nat.le_of_ble_eq_true rfl) (Nat.le_of_ble_eq_true rfl) (e7_in) ?_
        refine ev_if_ne 15 dX7_reading_9 (by decide) (fun hc9 => ?_) (fun hc9 => False.elim (absurd hc9 (by decide)))
        refine ev_iload_n dX7_reading_15 rfl ?_
        refine ev_i2l dX7_reading_16 ?_
        refine ev_lconst (v := 0) dX7_reading_17 rfl ?_
        refine ev_aload_n dX7_reading_18 rfl ?_
        refine ev_getR dX7_reading_19 fX7_7 (by first | assumption | rfl) (by rfl) ?_
        refine ev_sipush (v := (nI 1333)) dX7_reading_22 (by decide) ?_
        refine ev_ialdE _ dX7_reading_25 (by first | with_reducible rfl | with_reducible exact nI_add _ _ | with_reducible exact ix3 _ _ _ | with_reducible exact ix_k _ _ _ | with_reducible exact ix_xk _ _ _ _) (by first | assumption | rfl) ⟨by omega, by decide⟩ ?_
        refine ev_iconst (v := (nI 1)) dX7_reading_26 (by decide) ?_
        refine ev_isub dX7_reading_27 ?_
        refine ev_i2l dX7_reading_28 ?_
        rw [q3]
        refine ev_cS3 dX7_reading_29 ceX7_in kX7_59 (rm_le rfl rfl) (Nat.le_of_ble_eq_true rfl) (Nat.le_of_ble_eq_true rfl) (e7_in) ?_
        rw [in_n _ (by omega), hck]
        refine ev_if_eq 54 dX7_reading_32 (by decide) (fun hc32 => False.elim (absurd hc32 (by decide))) (fun hc32 => ?_)
        refine ev_aload_n dX7_reading_35 rfl ?_
        refine ev_getR dX7_reading_36 fX7_7 (by first | assumption | rfl) (by rfl) ?_
        refine ev_sipush (v := (nI 432)) dX7_reading_39 (by decide) ?_
        refine ev_sipush (v := (nI 300)) dX7_reading_42 (by decide) ?_
        refine ev_iload_n dX7_reading_45 rfl ?_
        refine ev_imul dX7_reading_46 ?_
        refine ev_iadd dX7_reading_47 ?_
        refine ev_iload_n dX7_reading_48 rfl ?_
        refine ev_iadd dX7_reading_49 ?_
        refine ev_ialdE ((732 + j)) dX7_reading_50 (by have e : 432 + 300 * 1 + j = 732 + j := (by omega); rw [pk_mul, nI_add, nI_add, e]) (by first | assumption | rfl) ⟨by omega, by decide⟩ ?_
        refine ev_goto 55 dX7_reading_51 (by decide) ?_
        exact ev_iretE dX7_reading_55 rfl rfl (by rw [z2]) (rfl)
    · rcases pk_ix i (n := k') (by omega) with z | z | ⟨j, z1, z2⟩
      · refine ⟨(-1), C, G, ?_, ?_, hR0⟩
        · refine ev_iload_n dX6_reading_0 rfl ?_
          refine ev_if_lt 9 dX6_reading_1 (by decide) (fun hc1 => False.elim (absurd hc1 (by decide))) (fun _ => ?_)
          refine ev_iload_n dX6_reading_4 rfl ?_
          refine ev_iconst (v := (nI 2)) dX6_reading_5 (by decide) ?_
          refine ev_icmp_le 12 dX6_reading_6 (by decide) (fun _ => ?_) (fun hc6 => False.elim (absurd hc6 (by decide)))
          refine ev_iload_n dX6_reading_12 rfl ?_
          refine ev_if_lt 30 dX6_reading_13 (by decide) (fun hc13 => ?_) (fun hc13 => False.elim (hc13 z))
          refine ev_iconst (v := (-1)) dX6_reading_30 (by decide) ?_
          exact ev_iretE dX6_reading_31 rfl rfl (by first | rfl | simp_all) (rfl)
        · refine ev_iload_n dX7_reading_0 rfl ?_
          refine ev_i2l dX7_reading_1 ?_
          refine ev_lconst (v := 0) dX7_reading_2 rfl ?_
          refine ev_ldc2 dX7_reading_3 nX7_181 ?_
          refine ev_cS3 dX7_reading_6 ceX7_in kX7_59 (rm_le rfl rfl) (Nat.le_of_ble_eq_true rfl) (Nat.le_of_ble_eq_true rfl) (e7_in) ?_
          refine ev_if_ne 15 dX7_reading_9 (by decide) (fun hc9 => ?_) (fun hc9 => False.elim (absurd hc9 (by decide)))
          refine ev_iload_n dX7_reading_15 rfl ?_
          refine ev_i2l dX7_reading_16 ?_
          refine ev_lconst (v := 0) dX7_reading_17 rfl ?_
          refine ev_aload_n dX7_reading_18 rfl ?_
          refine ev_getR dX7_reading_19 fX7_7 (by first | assumption | rfl) (by rfl) ?_
          refine ev_sipush (v := (nI 1333)) dX7_reading_22 (by decide) ?_
          refine ev_ialdE _ dX7_reading_25 (by first | with_reducible rfl | with_reducible exact nI_add _ _ | with_reducible exact ix3 _ _ _ | with_reducible exact ix_k _ _ _ | with_reducible exact ix_xk _ _ _ _) (by first | assumption | rfl) ⟨by omega, by decide⟩ ?_
          refine ev_iconst (v := (nI 1)) dX7_reading_26 (by decide) ?_
          refine ev_isub dX7_reading_27 ?_
          refine ev_i2l dX7_reading_28 ?_
          rw [q3]
          refine ev_cS3 dX7_reading_29 ceX7_in kX7_59 (rm_le rfl rfl) (Nat.le_of_ble_eq_true rfl) (Nat.le_of_ble_eq_true rfl) (e7_in) ?_
          rw [in_n _ (by omega), hck]
          refine ev_if_eq 54 dX7_reading_32 (by decide) (fun hc32 => ?_) (fun hc32 => False.elim (absurd hc32 (by decide)))
          refine ev_iconst (v := (-1)) dX7_reading_54 (by decide) ?_
          exact ev_iretE dX7_reading_55 rfl rfl (by first | rfl | simp_all) (rfl)
      · have z0 : ¬ i < C (21 + 8) 3 := by rw [q1]; exact fun y => (fa_of_lt y).2.1 z
        refine ⟨(-1), C, G, ?_, ?_, hR0⟩
        · refine ev_iload_n dX6_reading_0 rfl ?_
          refine ev_if_lt 9 dX6_reading_1 (by decide) (fun hc1 => False.elim (absurd hc1 (by decide))) (fun _ => ?_)
          refine ev_iload_n dX6_reading_4 rfl ?_
          refine ev_iconst (v := (nI 2)) dX6_reading_5 (by decide) ?_
          refine ev_icmp_le 12 dX6_reading_6 (by decide) (fun _ => ?_) (fun hc6 => False.elim (absurd hc6 (by decide)))
          refine ev_iload_n dX6_reading_12 rfl ?_
          refine ev_if_lt 30 dX6_reading_13 (by decide) (fun hc13 => ?_) (fun hc13 => ?_)
          · skip
            refine ev_iconst (v := (-1)) dX6_reading_30 (by decide) ?_
            exact ev_iretE dX6_reading_31 rfl rfl (by first | rfl | simp_all) (rfl)
          · skip
            refine ev_iload_n dX6_reading_16 rfl ?_
            refine ev_aload_n dX6_reading_17 rfl ?_
            refine ev_getR dX6_reading_18 fX6_31 (by first | assumption | rfl) (by rfl) ?_
            refine ev_getR dX6_reading_21 fX6_106 (by first | assumption | rfl) (by rfl) ?_
            refine ev_getI dX6_reading_24 fX6_110 (by first | assumption | rfl) (by rfl) ?_
            refine ev_icmp_lt 32 dX6_reading_27 (by decide) (fun hc27 => False.elim (z0 hc27)) (fun hc27 => ?_)
            refine ev_iconst (v := (-1)) dX6_reading_30 (by decide) ?_
            exact ev_iretE dX6_reading_31 rfl rfl (by first | rfl | simp_all) (rfl)
        · refine ev_iload_n dX7_reading_0 rfl ?_
          refine ev_i2l dX7_reading_1 ?_
          refine ev_lconst (v := 0) dX7_reading_2 rfl ?_
          refine ev_ldc2 dX7_reading_3 nX7_181 ?_
          refine ev_cS3 dX7_reading_6 ceX7_in kX7_59 (rm_le rfl rfl) (Nat.le_of_ble_eq_true rfl) (Nat.le_of_ble_eq_true rfl) (e7_in) ?_
          refine ev_if_ne 15 dX7_reading_9 (by decide) (fun hc9 => ?_) (fun hc9 => False.elim (absurd hc9 (by decide)))
          refine ev_iload_n dX7_reading_15 rfl ?_
          refine ev_i2l dX7_reading_16 ?_
          refine ev_lconst (v := 0) dX7_reading_17 rfl ?_
          refine ev_aload_n dX7_reading_18 rfl ?_
          refine ev_getR dX7_reading_19 fX7_7 (by first | assumption | rfl) (by rfl) ?_
          refine ev_sipush (v := (nI 1333)) dX7_reading_22 (by decide) ?_
          refine ev_ialdE _ dX7_reading_25 (by first | with_reducible rfl | with_reducible exact nI_add _ _ | with_reducible exact ix3 _ _ _ | with_reducible exact ix_k _ _ _ | with_reducible exact ix_xk _ _ _ _) (by first | assumption | rfl) ⟨by omega, by decide⟩ ?_
          refine ev_iconst (v := (nI 1)) dX7_reading_26 (by decide) ?_
          refine ev_isub dX7_reading_27 ?_
          refine ev_i2l dX7_reading_28 ?_
          rw [q3]
          refine ev_cS3 dX7_reading_29 ceX7_in kX7_59 (rm_le rfl rfl) (Nat.le_of_ble_eq_true rfl) (Nat.le_of_ble_eq_true rfl) (e7_in) ?_
          rw [in_n _ (by omega), hck]
          refine ev_if_eq 54 dX7_reading_32 (by decide) (fun hc32 => ?_) (fun hc32 => False.elim (absurd hc32 (by decide)))
          refine ev_iconst (v := (-1)) dX7_reading_54 (by decide) ?_
          exact ev_iretE dX7_reading_55 rfl rfl (by first | rfl | simp_all) (rfl)
      · rw [z2, decide_eq_false (nI_pos (by omega)), decide_eq_false (nI_ge z1 (by omega))] at hck
        cases hck
  by_cases hs2 : x = nI 2
  · subst hs2
    rcases ck i (show k' < 2 ^ 31 by omega) with ⟨j, hj, e, hck⟩ | hck
    · subst e
      obtain ⟨z1, z2, z3, -⟩ := kl4 j hj
      simp only [Nat.zero_add] at z1 z2 z3
      have i0 : ¬ nI j < 0 := nI_pos (by omega)
      have i1 : nI j < C (21 + 8) 3 := by rw [q1]; exact nI_lt hj (by omega)
      have hsl : Op.lookupswitch.offset [(0, 27), (1, 40)] 53 (nI 2).toInt = 53 := rfl
      refine ⟨C (21 + 11) j, C, G, ?_, ?_, hR0⟩
      · refine ev_iload_n dX6_reading_0 rfl ?_
        refine ev_if_lt 9 dX6_reading_1 (by decide) (fun hc1 => False.elim (absurd hc1 (by decide))) (fun _ => ?_)
        refine ev_iload_n dX6_reading_4 rfl ?_
        refine ev_iconst (v := (nI 2)) dX6_reading_5 (by decide) ?_
        refine ev_icmp_le 12 dX6_reading_6 (by decide) (fun _ => ?_) (fun hc6 => False.elim (absurd hc6 (by decide)))
        refine ev_iload_n dX6_reading_12 rfl ?_
        refine ev_if_lt 30 dX6_reading_13 (by decide) (fun hc13 => False.elim (i0 hc13)) (fun hc13 => ?_)
        refine ev_iload_n dX6_reading_16 rfl ?_
        refine ev_aload_n dX6_reading_17 rfl ?_
        refine ev_getR dX6_reading_18 fX6_31 (by first | assumption | rfl) (by rfl) ?_
        refine ev_getR dX6_reading_21 fX6_106 (by first | assumption | rfl) (by rfl) ?_
        refine ev_getI dX6_reading_24 fX6_110 (by first | assumption | rfl) (by rfl) ?_
        refine ev_icmp_lt 32 dX6_reading_27 (by decide) (fun hc27 => ?_) (fun hc27 => False.elim (hc27 i1))
        refine ev_iload_n dX6_reading_32 rfl ?_
        refine ev_look 86 dX6_reading_33 (by decide) hsl (by decide) ?_
        refine ev_aload_n dX6_reading_86 rfl ?_
        refine ev_getR dX6_reading_87 fX6_31 (by first | assumption | rfl) (by rfl) ?_
        refine ev_getR dX6_reading_90 fX6_106 (by first | assumption | rfl) (by rfl) ?_
        refine ev_getR dX6_reading_93 fX6_189 (by first | assumption | rfl) (by rfl) ?_
        refine ev_iload_n dX6_reading_96 rfl ?_
        refine ev_ialdE _ dX6_reading_97 (rfl) (by first | assumption | rfl) ⟨by omega, by decide⟩ ?_
        exact ev_iretE dX6_reading_98 rfl rfl (by first | rfl | simp_all) (rfl)
      · refine ev_iload_n dX7_reading_0 rfl ?_
        refine ev_i2l dX7_reading_1 ?_
        refine ev_lconst (v := 0) dX7_reading_2 rfl ?_
        refine ev_ldc2 dX7_reading_3 nX7_181 ?_
        refine ev_cS3 dX7_reading_6 ceX7_in kX7_59 (rm_le rfl rfl) (Nat.le_of_ble_eq_true rfl) (Nat.le_of_ble_eq_true rfl) (e7_in) ?_
        refine ev_if_ne 15 dX7_reading_9 (by decide) (fun hc9 => ?_) (fun hc9 => False.elim (absurd hc9 (by decide)))
        refine ev_iload_n dX7_reading_15 rfl ?_
        refine ev_i2l dX7_reading_16 ?_
        refine ev_lconst (v := 0) dX7_reading_17 rfl ?_
        refine ev_aload_n dX7_reading_18 rfl ?_
        refine ev_getR dX7_reading_19 fX7_7 (by first | assumption | rfl) (by rfl) ?_
        refine ev_sipush (v := (nI 1333)) dX7_reading_22 (by decide) ?_
        refine ev_ialdE _ dX7_reading_25 (by first | with_reducible rfl | with_reducible exact nI_add _ _ | with_reducible exact ix3 _ _ _ | with_reducible exact ix_k _ _ _ | with_reducible exact ix_xk _ _ _ _) (by first | assumption | rfl) ⟨by omega, by decide⟩ ?_
        refine ev_iconst (v := (nI 1)) dX7_reading_26 (by decide) ?_
        refine ev_isub dX7_reading_27 ?_
        refine ev_i2l dX7_reading_28 ?_
        rw [q3]
        refine ev_cS3 dX7_reading_29 ceX7_in kX7_59 (rm_le rfl rfl) (Nat.le_of_ble_eq_true rfl) (Nat.le_of_ble_eq_true rfl) (e7_in) ?_
        rw [in_n _ (by omega), hck]
        refine ev_if_eq 54 dX7_reading_32 (by decide) (fun hc32 => False.elim (absurd hc32 (by decide))) (fun hc32 => ?_)
        refine ev_aload_n dX7_reading_35 rfl ?_
        refine ev_getR dX7_reading_36 fX7_7 (by first | assumption | rfl) (by rfl) ?_
        refine ev_sipush (v := (nI 432)) dX7_reading_39 (by decide) ?_
        refine ev_sipush (v := (nI 300)) dX7_reading_42 (by decide) ?_
        refine ev_iload_n dX7_reading_45 rfl ?_
        refine ev_imul dX7_reading_46 ?_
        refine ev_iadd dX7_reading_47 ?_
        refine ev_iload_n dX7_reading_48 rfl ?_
        refine ev_iadd dX7_reading_49 ?_
        refine ev_ialdE ((1032 + j)) dX7_reading_50 (by have e : 432 + 300 * 2 + j = 1032 + j := (by omega); rw [pk_mul, nI_add, nI_add, e]) (by first | assumption | rfl) ⟨by omega, by decide⟩ ?_
        refine ev_goto 55 dX7_reading_51 (by decide) ?_
        exact ev_iretE dX7_reading_55 rfl rfl (by rw [z3]) (rfl)
    · rcases pk_ix i (n := k') (by omega) with z | z | ⟨j, z1, z2⟩
      · refine ⟨(-1), C, G, ?_, ?_, hR0⟩
        · refine ev_iload_n dX6_reading_0 rfl ?_
          refine ev_if_lt 9 dX6_reading_1 (by decide) (fun hc1 => False.elim (absurd hc1 (by decide))) (fun _ => ?_)
          refine ev_iload_n dX6_reading_4 rfl ?_
          refine ev_iconst (v := (nI 2)) dX6_reading_5 (by decide) ?_
          refine ev_icmp_le 12 dX6_reading_6 (by decide) (fun _ => ?_) (fun hc6 => False.elim (absurd hc6 (by decide)))
          refine ev_iload_n dX6_reading_12 rfl ?_
          refine ev_if_lt 30 dX6_reading_13 (by decide) (fun hc13 => ?_) (fun hc13 => False.elim (hc13 z))
          refine ev_iconst (v := (-1)) dX6_reading_30 (by decide) ?_
          exact ev_iretE dX6_reading_31 rfl rfl (by first | rfl | simp_all) (rfl)
        · refine ev_iload_n dX7_reading_0 rfl ?_
          refine ev_i2l dX7_reading_1 ?_
          refine ev_lconst (v := 0) dX7_reading_2 rfl ?_
          refine ev_ldc2 dX7_reading_3 nX7_181 ?_
          refine ev_cS3 dX7_reading_6 ceX7_in kX7_59 (rm_le rfl rfl) (Nat.le_of_ble_eq_true rfl) (Nat.le_of_ble_eq_true rfl) (e7_in) ?_
          refine ev_if_ne 15 dX7_reading_9 (by decide) (fun hc9 => ?_) (fun hc9 => False.elim (absurd hc9 (by decide)))
          refine ev_iload_n dX7_reading_15 rfl ?_
          refine ev_i2l dX7_reading_16 ?_
          refine ev_lconst (v := 0) dX7_reading_17 rfl ?_
          refine ev_aload_n dX7_reading_18 rfl ?_
          refine ev_getR dX7_reading_19 fX7_7 (by first | assumption | rfl) (by rfl) ?_
          refine ev_sipush (v := (nI 1333)) dX7_reading_22 (by decide) ?_
          refine ev_ialdE _ dX7_reading_25 (by first | with_reducible rfl | with_reducible exact nI_add _ _ | with_reducible exact ix3 _ _ _ | with_reducible exact ix_k _ _ _ | with_reducible exact ix_xk _ _ _ _) (by first | assumption | rfl) ⟨by omega, by decide⟩ ?_
          refine ev_iconst (v := (nI 1)) dX7_reading_26 (by decide) ?_
          refine ev_isub dX7_reading_27 ?_
          refine ev_i2l dX7_reading_28 ?_
          rw [q3]
          refine ev_cS3 dX7_reading_29 ceX7_in kX7_59 (rm_le rfl rfl) (Nat.le_of_ble_eq_true rfl) (Nat.le_of_ble_eq_true rfl) (e7_in) ?_
          rw [in_n _ (by omega), hck]
          refine ev_if_eq 54 dX7_reading_32 (by decide) (fun hc32 => ?_) (fun hc32 => False.elim (absurd hc32 (by decide)))
          refine ev_iconst (v := (-1)) dX7_reading_54 (by decide) ?_
          exact ev_iretE dX7_reading_55 rfl rfl (by first | rfl | simp_all) (rfl)
      · have z0 : ¬ i < C (21 + 8) 3 := by rw [q1]; exact fun y => (fa_of_lt y).2.1 z
        refine ⟨(-1), C, G, ?_, ?_, hR0⟩
        · refine ev_iload_n dX6_reading_0 rfl ?_
          refine ev_if_lt 9 dX6_reading_1 (by decide) (fun hc1 => False.elim (absurd hc1 (by decide))) (fun _ => ?_)
          refine ev_iload_n dX6_reading_4 rfl ?_
          refine ev_iconst (v := (nI 2)) dX6_reading_5 (by decide) ?_
          refine ev_icmp_le 12 dX6_reading_6 (by decide) (fun _ => ?_) (fun hc6 => False.elim (absurd hc6 (by decide)))
          refine ev_iload_n dX6_reading_12 rfl ?_
          refine ev_if_lt 30 dX6_reading_13 (by decide) (fun hc13 => ?_) (fun hc13 => ?_)
          · skip
            refine ev_iconst (v := (-1)) dX6_reading_30 (by decide) ?_
            exact ev_iretE dX6_reading_31 rfl rfl (by first | rfl | simp_all) (rfl)
          · skip
            refine ev_iload_n dX6_reading_16 rfl ?_
            refine ev_aload_n dX6_reading_17 rfl ?_
            refine ev_getR dX6_reading_18 fX6_31 (by first | assumption | rfl) (by rfl) ?_
            refine ev_getR dX6_reading_21 fX6_106 (by first | assumption | rfl) (by rfl) ?_
            refine ev_getI dX6_reading_24 fX6_110 (by first | assumption | rfl) (by rfl) ?_
            refine ev_icmp_lt 32 dX6_reading_27 (by decide) (fun hc27 => False.elim (z0 hc27)) (fun hc27 => ?_)
            refine ev_iconst (v := (-1)) dX6_reading_30 (by decide) ?_
            exact ev_iretE dX6_reading_31 rfl rfl (by first | rfl | simp_all) (rfl)
        · refine ev_iload_n dX7_reading_0 rfl ?_
          refine ev_i2l dX7_reading_1 ?_
          refine ev_lconst (v := 0) dX7_reading_2 rfl ?_
          refine ev_ldc2 dX7_reading_3 nX7_181 ?_
          refine ev_cS3 dX7_reading_6 ceX7_in kX7_59 (rm_le rfl rfl) (Nat.le_of_ble_eq_true rfl) (Nat.le_of_ble_eq_true rfl) (e7_in) ?_
          refine ev_if_ne 15 dX7_reading_9 (by decide) (fun hc9 => ?_) (fun hc9 => False.elim (absurd hc9 (by decide)))
          refine ev_iload_n dX7_reading_15 rfl ?_
          refine ev_i2l dX7_reading_16 ?_
          refine ev_lconst (v := 0) dX7_reading_17 rfl ?_
          refine ev_aload_n dX7_reading_18 rfl ?_
          refine ev_getR dX7_reading_19 fX7_7 (by first | assumption | rfl) (by rfl) ?_
          refine ev_sipush (v := (nI 1333)) dX7_reading_22 (by decide) ?_
          refine ev_ialdE _ dX7_reading_25 (by first | with_reducible rfl | with_reducible exact nI_add _ _ | with_reducible exact ix3 _ _ _ | with_reducible exact ix_k _ _ _ | with_reducible exact ix_xk _ _ _ _) (by first | assumption | rfl) ⟨by omega, by decide⟩ ?_
          refine ev_iconst (v := (nI 1)) dX7_reading_26 (by decide) ?_
          refine ev_isub dX7_reading_27 ?_
          refine ev_i2l dX7_reading_28 ?_
          rw [q3]
          refine ev_cS3 dX7_reading_29 ceX7_in kX7_59 (rm_le rfl rfl) (Nat.le_of_ble_eq_true rfl) (Nat.le_of_ble_eq_true rfl) (e7_in) ?_
          rw [in_n _ (by omega), hck]
          refine ev_if_eq 54 dX7_reading_32 (by decide) (fun hc32 => ?_) (fun hc32 => False.elim (absurd hc32 (by decide)))
          refine ev_iconst (v := (-1)) dX7_reading_54 (by decide) ?_
          exact ev_iretE dX7_reading_55 rfl rfl (by first | rfl | simp_all) (rfl)
      · rw [z2, decide_eq_false (nI_pos (by omega)), decide_eq_false (nI_ge z1 (by omega))] at hck
        cases hck
  rcases sw_lt (m := 2) (by decide) (fun j hj => by rcases (show j = 0 ∨ j = 1 ∨ j = 2 by omega) with e | e | e <;> subst e <;> assumption) with hx0 | ⟨hx0, hx1⟩
  · refine ⟨(-1000000002), C, G, ?_, ?_, hR0⟩
    · refine ev_iload_n dX6_reading_0 rfl ?_
      refine ev_if_lt 9 dX6_reading_1 (by decide) (fun hc1 => ?_) (fun hc1 => False.elim (hc1 hx0))
      refine ev_ldc (v := (-1000000002)) dX6_reading_9 nX6_70 ?_
      exact ev_iretE dX6_reading_11 rfl rfl (by first | rfl | simp_all) (rfl)
    · refine ev_iload_n dX7_reading_0 rfl ?_
      refine ev_i2l dX7_reading_1 ?_
      refine ev_lconst (v := 0) dX7_reading_2 rfl ?_
      refine ev_ldc2 dX7_reading_3 nX7_181 ?_
      refine ev_cS3 dX7_reading_6 ceX7_in kX7_59 (rm_le rfl rfl) (Nat.le_of_ble_eq_true rfl) (Nat.le_of_ble_eq_true rfl) (e7_in) ?_
      rw [in_c x 0 (nI 2) (by decide) (by decide), decide_eq_true hx0, Bool.not_true, Bool.false_and]
      refine ev_if_ne 15 dX7_reading_9 (by decide) (fun hc9 => False.elim (absurd hc9 (by decide))) (fun hc9 => ?_)
      refine ev_ldc (v := (-1000000002)) dX7_reading_12 nX7_63 ?_
      exact ev_iretE dX7_reading_14 rfl rfl (by first | rfl | simp_all) (rfl)
  · have hx2 : nI 2 < x := fa_of_nle hx1
    refine ⟨(-1000000002), C, G, ?_, ?_, hR0⟩
    · refine ev_iload_n dX6_reading_0 rfl ?_
      refine ev_if_lt 9 dX6_reading_1 (by decide) (fun hc1 => False.elim (hx0 hc1)) (fun hc1 => ?_)
      refine ev_iload_n dX6_reading_4 rfl ?_
      refine ev_iconst (v := (nI 2)) dX6_reading_5 (by decide) ?_
      refine ev_icmp_le 12 dX6_reading_6 (by decide) (fun hc6 => False.elim (hx1 hc6)) (fun hc6 => ?_)
      refine ev_ldc (v := (-1000000002)) dX6_reading_9 nX6_70 ?_
      exact ev_iretE dX6_reading_11 rfl rfl (by first | rfl | simp_all) (rfl)
    · refine ev_iload_n dX7_reading_0 rfl ?_
      refine ev_i2l dX7_reading_1 ?_
      refine ev_lconst (v := 0) dX7_reading_2 rfl ?_
      refine ev_ldc2 dX7_reading_3 nX7_181 ?_
      refine ev_cS3 dX7_reading_6 ceX7_in kX7_59 (rm_le rfl rfl) (Nat.le_of_ble_eq_true rfl) (Nat.le_of_ble_eq_true rfl) (e7_in) ?_
      rw [in_c x 0 (nI 2) (by decide) (by decide), decide_eq_true hx2, decide_eq_false hx0]
      refine ev_if_ne 15 dX7_reading_9 (by decide) (fun hc9 => False.elim (absurd hc9 (by decide))) (fun hc9 => ?_)
      refine ev_ldc (v := (-1000000002)) dX7_reading_12 nX7_63 ?_
      exact ev_iretE dX7_reading_14 rfl rfl (by first | rfl | simp_all) (rfl)
