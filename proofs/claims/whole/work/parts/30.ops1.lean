/-! ops: queries -/
theorem ck (x : Int32) {n : Nat} (hn : n < 2 ^ 31) : (∃ j, j < n ∧ x = nI j ∧ (!decide (x < 0) && !decide (nI n ≤ x)) = true) ∨ (!decide (x < 0) && !decide (nI n ≤ x)) = false := by
  rcases pk_ix x hn with h | h | ⟨j, h1, h2⟩
  · exact Or.inr (by rw [decide_eq_true h]; rfl)
  · exact Or.inr (by rw [decide_eq_true h]; simp)
  · refine Or.inl ⟨j, h1, h2, ?_⟩
    rw [h2, decide_eq_false (nI_pos (by omega)), decide_eq_false (nI_ge h1 hn)]
    rfl
theorem sw_out {x : Int32} {m : Nat} (hm : m < 2 ^ 30) (h : ∀ j, j ≤ m → ¬ x = nI j) : x.toInt < 0 ∨ (m : Int) < x.toInt := by
  rcases pk_ix x (n := m + 1) (by omega) with z | z | ⟨j, h1, h2⟩
  · exact Or.inl (by rw [fa_lt] at z; exact z)
  · right
    rw [fa_le, nI_toInt (by omega)] at z
    omega
  · exact absurd h2 (h j (by omega))

set_option maxRecDepth 20000 in
set_option maxHeartbeats 2000000 in
theorem op_fault  : OpOk mX6_fault mX7_fault [] := by
  intro C G hR
  have hR0 := hR
  obtain ⟨nl, nr, tm, n, d, nq, tl, nd, b0, b1, kt, hp⟩ := hR
  obtain ⟨hS, hE, hQ, hT, hDr, hI, hkt, hkt3⟩ := id hp
  have hL := hS.1
  obtain ⟨l1, m1, l3, r1, m2, l6, le, lw, lr⟩ := id hL
  obtain ⟨hP, ⟨d1, d2, d3⟩, ⟨s1, s2⟩, hH⟩ := id hS.2.1
  obtain ⟨p1, p2, p3, p4, p5⟩ := id hP
  rw [Nat.zero_add] at p2 d2 s1
  obtain ⟨-, -, k, k', q1, q2, q3, q4, q5⟩ := id hS
  obtain ⟨ke, kl⟩ := q5 rfl
  subst ke
  obtain ⟨-, -, -, kl4⟩ := id kl
  rw [Nat.zero_add] at q3
  refine ⟨C 1 3, C, G, ?_, ?_, hR0⟩
  · refine ev_aload_n dX6_fault_0 rfl ?_
    refine ev_getR dX6_fault_1 fX6_10 (by first | assumption | rfl) (by rfl) ?_
    refine ev_getI dX6_fault_4 fX6_97 (by first | assumption | rfl) (by rfl) ?_
    exact ev_iretE dX6_fault_7 rfl rfl (by first | rfl | simp_all) (rfl)
  · refine ev_aload_n dX7_fault_0 rfl ?_
    refine ev_getI dX7_fault_1 fX7_39 (by first | assumption | rfl) (by rfl) ?_
    exact ev_iretE dX7_fault_4 rfl rfl (by rw [← hT.2.2.2.2]) (rfl)
set_option maxRecDepth 20000 in
set_option maxHeartbeats 2000000 in
theorem op_told {x : Int32} : OpOk mX6_told mX7_told [.int x] := by
  intro C G hR
  have hR0 := hR
  obtain ⟨nl, nr, tm, n, d, nq, tl, nd, b0, b1, kt, hp⟩ := hR
  obtain ⟨hS, hE, hQ, hT, hDr, hI, hkt, hkt3⟩ := id hp
  have hL := hS.1
  obtain ⟨l1, m1, l3, r1, m2, l6, le, lw, lr⟩ := id hL
  obtain ⟨hP, ⟨d1, d2, d3⟩, ⟨s1, s2⟩, hH⟩ := id hS.2.1
  obtain ⟨p1, p2, p3, p4, p5⟩ := id hP
  rw [Nat.zero_add] at p2 d2 s1
  obtain ⟨-, -, k, k', q1, q2, q3, q4, q5⟩ := id hS
  obtain ⟨ke, kl⟩ := q5 rfl
  subst ke
  obtain ⟨-, -, -, kl4⟩ := id kl
  rw [Nat.zero_add] at q3
  by_cases hs0 : x = nI 0
  · subst hs0
    refine ⟨C 8 4, C, G, ?_, ?_, hR0⟩
    · refine ev_iload_n dX6_told_0 rfl ?_
      refine ev_tabI 56 dX6_told_1 (by decide) (by decide) rfl (by decide) ?_
      refine ev_aload_n dX6_told_56 rfl ?_
      refine ev_getR dX6_told_57 fX6_23 (by first | assumption | rfl) (by rfl) ?_
      refine ev_getI dX6_told_60 fX6_94 (by first | assumption | rfl) (by rfl) ?_
      exact ev_iretE dX6_told_63 rfl rfl (by first | rfl | simp_all) (rfl)
    · refine ev_iload_n dX7_told_0 rfl ?_
      refine ev_tabI 56 dX7_told_1 (by decide) (by decide) rfl (by decide) ?_
      refine ev_aload_n dX7_told_56 rfl ?_
      refine ev_getR dX7_told_57 fX7_29 (by first | assumption | rfl) (by rfl) ?_
      refine ev_iconst (v := (nI 0)) dX7_told_60 (by decide) ?_
      refine ev_ialdE _ dX7_told_61 (by first | with_reducible rfl | with_reducible exact nI_add _ _ | with_reducible exact ix3 _ _ _ | with_reducible exact ix_k _ _ _ | with_reducible exact ix_xk _ _ _ _) (by first | assumption | rfl) ⟨by omega, by decide⟩ ?_
      exact ev_iretE dX7_told_62 rfl rfl (by rw [m1, l1]) (rfl)
  by_cases hs1 : x = nI 1
  · subst hs1
    refine ⟨C 8 5, C, G, ?_, ?_, hR0⟩
    · refine ev_iload_n dX6_told_0 rfl ?_
      refine ev_tabI 64 dX6_told_1 (by decide) (by decide) rfl (by decide) ?_
      refine ev_aload_n dX6_told_64 rfl ?_
      refine ev_getR dX6_told_65 fX6_23 (by first | assumption | rfl) (by rfl) ?_
      refine ev_getI dX6_told_68 fX6_100 (by first | assumption | rfl) (by rfl) ?_
      exact ev_iretE dX6_told_71 rfl rfl (by first | rfl | simp_all) (rfl)
    · refine ev_iload_n dX7_told_0 rfl ?_
      refine ev_tabI 63 dX7_told_1 (by decide) (by decide) rfl (by decide) ?_
      refine ev_aload_n dX7_told_63 rfl ?_
      refine ev_getR dX7_told_64 fX7_29 (by first | assumption | rfl) (by rfl) ?_
      refine ev_iconst (v := (nI 1)) dX7_told_67 (by decide) ?_
      refine ev_ialdE _ dX7_told_68 (by first | with_reducible rfl | with_reducible exact nI_add _ _ | with_reducible exact ix3 _ _ _ | with_reducible exact ix_k _ _ _ | with_reducible exact ix_xk _ _ _ _) (by first | assumption | rfl) ⟨by omega, by decide⟩ ?_
      exact ev_iretE dX7_told_69 rfl rfl (by rw [m2, r1]) (rfl)
  by_cases hs2 : x = nI 2
  · subst hs2
    refine ⟨C 21 9, C, G, ?_, ?_, hR0⟩
    · refine ev_iload_n dX6_told_0 rfl ?_
      refine ev_tabI 72 dX6_told_1 (by decide) (by decide) rfl (by decide) ?_
      refine ev_aload_n dX6_told_72 rfl ?_
      refine ev_getR dX6_told_73 fX6_31 (by first | assumption | rfl) (by rfl) ?_
      refine ev_getI dX6_told_76 fX6_103 (by first | assumption | rfl) (by rfl) ?_
      exact ev_iretE dX6_told_79 rfl rfl (by first | rfl | simp_all) (rfl)
    · refine ev_iload_n dX7_told_0 rfl ?_
      refine ev_tabI 70 dX7_told_1 (by decide) (by decide) rfl (by decide) ?_
      refine ev_aload_n dX7_told_70 rfl ?_
      refine ev_getR dX7_told_71 fX7_7 (by first | assumption | rfl) (by rfl) ?_
      refine ev_sipush (v := (nI 1332)) dX7_told_74 (by decide) ?_
      refine ev_ialdE _ dX7_told_77 (by first | with_reducible rfl | with_reducible exact nI_add _ _ | with_reducible exact ix3 _ _ _ | with_reducible exact ix_k _ _ _ | with_reducible exact ix_xk _ _ _ _) (by first | assumption | rfl) ⟨by omega, by decide⟩ ?_
      exact ev_iretE dX7_told_78 rfl rfl (by rw [p2, p1]) (rfl)
  by_cases hs3 : x = nI 3
  · subst hs3
    refine ⟨C 14 3, C, G, ?_, ?_, hR0⟩
    · refine ev_iload_n dX6_told_0 rfl ?_
      refine ev_tabI 80 dX6_told_1 (by decide) (by decide) rfl (by decide) ?_
      refine ev_aload_n dX6_told_80 rfl ?_
      refine ev_getR dX6_told_81 fX6_49 (by first | assumption | rfl) (by rfl) ?_
      refine ev_getI dX6_told_84 fX6_91 (by first | assumption | rfl) (by rfl) ?_
      exact ev_iretE dX6_told_87 rfl rfl (by first | rfl | simp_all) (rfl)
    · refine ev_iload_n dX7_told_0 rfl ?_
      refine ev_tabI 79 dX7_told_1 (by decide) (by decide) rfl (by decide) ?_
      refine ev_aload_n dX7_told_79 rfl ?_
      refine ev_getI dX7_told_80 fX7_131 (by first | assumption | rfl) (by rfl) ?_
      exact ev_iretE dX7_told_83 rfl rfl (by rw [hQ.1, hQ.2.1]) (rfl)
  by_cases hs4 : x = nI 4
  · subst hs4
    refine ⟨C (21 + 8) 3, C, G, ?_, ?_, hR0⟩
    · refine ev_iload_n dX6_told_0 rfl ?_
      refine ev_tabI 88 dX6_told_1 (by decide) (by decide) rfl (by decide) ?_
      refine ev_aload_n dX6_told_88 rfl ?_
      refine ev_getR dX6_told_89 fX6_31 (by first | assumption | rfl) (by rfl) ?_
      refine ev_getR dX6_told_92 fX6_106 (by first | assumption | rfl) (by rfl) ?_
      refine ev_getI dX6_told_95 fX6_110 (by first | assumption | rfl) (by rfl) ?_
      exact ev_iretE dX6_told_98 rfl rfl (by first | rfl | simp_all) (rfl)
    · refine ev_iload_n dX7_told_0 rfl ?_
      refine ev_tabI 84 dX7_told_1 (by decide) (by decide) rfl (by decide) ?_
      refine ev_aload_n dX7_told_84 rfl ?_
      refine ev_getR dX7_told_85 fX7_7 (by first | assumption | rfl) (by rfl) ?_
      refine ev_sipush (v := (nI 1333)) dX7_told_88 (by decide) ?_
      refine ev_ialdE _ dX7_told_91 (by first | with_reducible rfl | with_reducible exact nI_add _ _ | with_reducible exact ix3 _ _ _ | with_reducible exact ix_k _ _ _ | with_reducible exact ix_xk _ _ _ _) (by first | assumption | rfl) ⟨by omega, by decide⟩ ?_
      exact ev_iretE dX7_told_92 rfl rfl (by rw [q3, q1]) (rfl)
  by_cases hs5 : x = nI 5
  · subst hs5
    refine ⟨C 0 10, C, G, ?_, ?_, hR0⟩
    · refine ev_iload_n dX6_told_0 rfl ?_
      refine ev_tabI 99 dX6_told_1 (by decide) (by decide) rfl (by decide) ?_
      refine ev_aload_n dX6_told_99 rfl ?_
      refine ev_getI dX6_told_100 fX6_64 (by first | assumption | rfl) (by rfl) ?_
      exact ev_iretE dX6_told_103 rfl rfl (by first | rfl | simp_all) (rfl)
    · refine ev_iload_n dX7_told_0 rfl ?_
      refine ev_tabI 93 dX7_told_1 (by decide) (by decide) rfl (by decide) ?_
      refine ev_aload_n dX7_told_93 rfl ?_
      refine ev_getI dX7_told_94 fX7_134 (by first | assumption | rfl) (by rfl) ?_
      exact ev_iretE dX7_told_97 rfl rfl (by rw [hDr.1, hDr.2.1]) (rfl)
  by_cases hs6 : x = nI 6
  · subst hs6
    refine ⟨C 1 1, C, G, ?_, ?_, hR0⟩
    · refine ev_iload_n dX6_told_0 rfl ?_
      refine ev_tabI 104 dX6_told_1 (by decide) (by decide) rfl (by decide) ?_
      refine ev_aload_n dX6_told_104 rfl ?_
      refine ev_getR dX6_told_105 fX6_10 (by first | assumption | rfl) (by rfl) ?_
      refine ev_getI dX6_told_108 fX6_71 (by first | assumption | rfl) (by rfl) ?_
      exact ev_iretE dX6_told_111 rfl rfl (by first | rfl | simp_all) (rfl)
    · refine ev_iload_n dX7_told_0 rfl ?_
      refine ev_tabI 98 dX7_told_1 (by decide) (by decide) rfl (by decide) ?_
      refine ev_aload_n dX7_told_98 rfl ?_
      refine ev_getI dX7_told_99 fX7_64 (by first | assumption | rfl) (by rfl) ?_
      exact ev_iretE dX7_told_102 rfl rfl (by rw [hT.1, hT.2.1]) (rfl)
  by_cases hs7 : x = nI 7
  · subst hs7
    refine ⟨C 21 10, C, G, ?_, ?_, hR0⟩
    · refine ev_iload_n dX6_told_0 rfl ?_
      refine ev_tabI 112 dX6_told_1 (by decide) (by decide) rfl (by decide) ?_
      refine ev_aload_n dX6_told_112 rfl ?_
      refine ev_getR dX6_told_113 fX6_31 (by first | assumption | rfl) (by rfl) ?_
      refine ev_getI dX6_told_116 fX6_113 (by first | assumption | rfl) (by rfl) ?_
      exact ev_iretE dX6_told_119 rfl rfl (by first | rfl | simp_all) (rfl)
    · refine ev_iload_n dX7_told_0 rfl ?_
      refine ev_tabI 103 dX7_told_1 (by decide) (by decide) rfl (by decide) ?_
      refine ev_aload_n dX7_told_103 rfl ?_
      refine ev_getR dX7_told_104 fX7_7 (by first | assumption | rfl) (by rfl) ?_
      refine ev_sipush (v := (nI 1334)) dX7_told_107 (by decide) ?_
      refine ev_ialdE _ dX7_told_110 (by first | with_reducible rfl | with_reducible exact nI_add _ _ | with_reducible exact ix3 _ _ _ | with_reducible exact ix_k _ _ _ | with_reducible exact ix_xk _ _ _ _) (by first | assumption | rfl) ⟨by omega, by decide⟩ ?_
      exact ev_iretE dX7_told_111 rfl rfl (by rw [d1, d2]) (rfl)
  by_cases hs8 : x = nI 8
  · subst hs8
    refine ⟨C 8 6, C, G, ?_, ?_, hR0⟩
    · refine ev_iload_n dX6_told_0 rfl ?_
      refine ev_tabI 120 dX6_told_1 (by decide) (by decide) rfl (by decide) ?_
      refine ev_aload_n dX6_told_120 rfl ?_
      refine ev_getR dX6_told_121 fX6_23 (by first | assumption | rfl) (by rfl) ?_
      refine ev_getI dX6_told_124 fX6_116 (by first | assumption | rfl) (by rfl) ?_
      exact ev_iretE dX6_told_127 rfl rfl (by first | rfl | simp_all) (rfl)
    · refine ev_iload_n dX7_told_0 rfl ?_
      refine ev_tabI 112 dX7_told_1 (by decide) (by decide) rfl (by decide) ?_
      refine ev_aload_n dX7_told_112 rfl ?_
      refine ev_getI dX7_told_113 fX7_32 (by first | assumption | rfl) (by rfl) ?_
      exact ev_iretE dX7_told_116 rfl rfl (by rw [le]) (rfl)
  by_cases hs9 : x = nI 9
  · subst hs9
    refine ⟨(nI (fb_ct (kpB C 21 n nr (nI 0)) nl)), C, G, ?_, ?_, hR0⟩
    · refine ev_iload_n dX6_told_0 rfl ?_
      refine ev_tabI 128 dX6_told_1 (by decide) (by decide) rfl (by decide) ?_
      refine ev_aload_n dX6_told_128 rfl ?_
      refine ev_getR dX6_told_129 fX6_31 (by first | assumption | rfl) (by rfl) ?_
      refine ev_iconst (v := (nI 0)) dX6_told_132 (by decide) ?_
      refine ev_cV1 dX6_told_133 ceX5_countKept kX6_119 (rm_le rfl rfl) (Nat.le_of_ble_eq_true rfl) (Nat.le_of_ble_eq_true rfl) (e_countKept st_21 p1 p3 r1 l6 l1 l3) (by first | assumption | rfl) ?_
      exact ev_iretE dX6_told_136 rfl rfl (by first | rfl | simp_all) (rfl)
    · refine ev_iload_n dX7_told_0 rfl ?_
      refine ev_tabI 117 dX7_told_1 (by decide) (by decide) rfl (by decide) ?_
      refine ev_aload_n dX7_told_117 rfl ?_
      refine ev_iconst (v := (nI 0)) dX7_told_118 (by decide) ?_
      refine ev_cV1 dX7_told_119 ceX7_keptMany kX7_145 (rm_le rfl rfl) (Nat.le_of_ble_eq_true rfl) (Nat.le_of_ble_eq_true rfl) (e7_keptMany (x := 0) (by decide) (by rw [Nat.zero_add]; exact p2) p3 m2 l6 m1 l3) (by first | assumption | rfl) ?_
      exact ev_iretE dX7_told_122 rfl rfl (by rw [fb_ct_cong (fun l hl => kp_same hS hl)]) (rfl)
  have hso := sw_out (m := 9) (by decide) (fun j hj => by rcases (show j = 0 ∨ j = 1 ∨ j = 2 ∨ j = 3 ∨ j = 4 ∨ j = 5 ∨ j = 6 ∨ j = 7 ∨ j = 8 ∨ j = 9 by omega) with e | e | e | e | e | e | e | e | e | e <;> subst e <;> assumption)
  refine ⟨(-1000000002), C, G, ?_, ?_, hR0⟩
  · refine ev_iload_n dX6_told_0 rfl ?_
    refine ev_tabO 137 dX6_told_1 hso (by decide) ?_
    refine ev_ldc (v := (-1000000002)) dX6_told_137 nX6_70 ?_
    exact ev_iretE dX6_told_139 rfl rfl (by first | rfl | simp_all) (rfl)
  · refine ev_iload_n dX7_told_0 rfl ?_
    refine ev_tabO 123 dX7_told_1 hso (by decide) ?_
    refine ev_ldc (v := (-1000000002)) dX7_told_123 nX7_63 ?_
    exact ev_iretE dX7_told_125 rfl rfl (by first | rfl | simp_all) (rfl)
set_option maxRecDepth 20000 in
set_option maxHeartbeats 2000000 in
theorem op_reader {r x : Int32} : OpOk mX6_reader mX7_reader [.int r, .int x] := by
  intro C G hR
  have hR0 := hR
  obtain ⟨nl, nr, tm, n, d, nq, tl, nd, b0, b1, kt, hp⟩ := hR
  obtain ⟨hS, hE, hQ, hT, hDr, hI, hkt, hkt3⟩ := id hp
  have hL := hS.1
  obtain ⟨l1, m1, l3, r1, m2, l6, le, lw, lr⟩ := id hL
  obtain ⟨hP, ⟨d1, d2, d3⟩, ⟨s1, s2⟩, hH⟩ := id hS.2.1
  obtain ⟨p1, p2, p3, p4, p5⟩ := id hP
  rw [Nat.zero_add] at p2 d2 s1
  obtain ⟨-, -, k, k', q1, q2, q3, q4, q5⟩ := id hS
  obtain ⟨ke, kl⟩ := q5 rfl
  subst ke
  obtain ⟨-, -, -, kl4⟩ := id kl
  rw [Nat.zero_add] at q3
  rcases ck r (show nr < 2 ^ 31 by omega) with ⟨j, hj, e, hck⟩ | hck
  · subst e
    by_cases hs0 : x = nI 0
    · subst hs0
      refine ⟨C 11 j, C, G, ?_, ?_, hR0⟩
      · refine ev_aload_n dX6_reader_0 rfl ?_
        refine ev_getR dX6_reader_1 fX6_23 (by first | assumption | rfl) (by rfl) ?_
        refine ev_iload_n dX6_reader_4 rfl ?_
        refine ev_cV1 dX6_reader_5 ceX1_hasReader kX6_147 (rm_le rfl rfl) (Nat.le_of_ble_eq_true rfl) (Nat.le_of_ble_eq_true rfl) (e_hasReader) (by first | assumption | rfl) ?_
        rw [r1, hck]
        refine ev_if_ne 14 dX6_reader_8 (by decide) (fun hc8 => ?_) (fun hc8 => False.elim (absurd hc8 (by decide)))
        refine ev_iload_n dX6_reader_14 rfl ?_
        refine ev_tabI 40 dX6_reader_15 (by decide) (by decide) rfl (by decide) ?_
        refine ev_aload_n dX6_reader_40 rfl ?_
        refine ev_getR dX6_reader_41 fX6_23 (by first | assumption | rfl) (by rfl) ?_
        refine ev_getR dX6_reader_44 fX6_150 (by first | assumption | rfl) (by rfl) ?_
        refine ev_iload_n dX6_reader_47 rfl ?_
        refine ev_ialdE _ dX6_reader_48 (rfl) (by first | assumption | rfl) ⟨by omega, by decide⟩ ?_
        exact ev_iretE dX6_reader_49 rfl rfl (by first | rfl | simp_all) (rfl)
      · refine ev_aload_n dX7_reader_0 rfl ?_
        refine ev_iload_n dX7_reader_1 rfl ?_
        refine ev_cV1 dX7_reader_2 ceX7_isReader kX7_169 (rm_le rfl rfl) (Nat.le_of_ble_eq_true rfl) (Nat.le_of_ble_eq_true rfl) (e7_isReader m2 l6) (by first | assumption | rfl) ?_
        rw [hck]
        refine ev_if_ne 11 dX7_reader_5 (by decide) (fun hc5 => ?_) (fun hc5 => False.elim (absurd hc5 (by decide)))
        refine ev_iload_n dX7_reader_11 rfl ?_
        refine ev_if_ne 24 dX7_reader_12 (by decide) (fun hc12 => False.elim (absurd hc12 (by decide))) (fun _ => ?_)
        refine ev_aload_n dX7_reader_15 rfl ?_
        refine ev_getR dX7_reader_16 fX7_23 (by first | assumption | rfl) (by rfl) ?_
        refine ev_iload_n dX7_reader_19 rfl ?_
        refine ev_ialdE _ dX7_reader_20 (by first | with_reducible rfl | with_reducible exact nI_add _ _ | with_reducible exact ix3 _ _ _ | with_reducible exact ix_k _ _ _ | with_reducible exact ix_xk _ _ _ _) (by first | assumption | rfl) ⟨by omega, by decide⟩ ?_
        refine ev_goto 53 dX7_reader_21 (by decide) ?_
        exact ev_iretE dX7_reader_53 rfl rfl (by rw [(lr j hj).1]) (rfl)
    by_cases hs1 : x = nI 1
    · subst hs1
      refine ⟨C 12 j, C, G, ?_, ?_, hR0⟩
      · refine ev_aload_n dX6_reader_0 rfl ?_
        refine ev_getR dX6_reader_1 fX6_23 (by first | assumption | rfl) (by rfl) ?_
        refine ev_iload_n dX6_reader_4 rfl ?_
        refine ev_cV1 dX6_reader_5 ceX1_hasReader kX6_147 (rm_le rfl rfl) (Nat.le_of_ble_eq_true rfl) (Nat.le_of_ble_eq_true rfl) (e_hasReader) (by first | assumption | rfl) ?_
        rw [r1, hck]
        refine ev_if_ne 14 dX6_reader_8 (by decide) (fun hc8 => ?_) (fun hc8 => False.elim (absurd hc8 (by decide)))
        refine ev_iload_n dX6_reader_14 rfl ?_
        refine ev_tabI 50 dX6_reader_15 (by decide) (by decide) rfl (by decide) ?_
        refine ev_aload_n dX6_reader_50 rfl ?_
        refine ev_getR dX6_reader_51 fX6_23 (by first | assumption | rfl) (by rfl) ?_
        refine ev_getR dX6_reader_54 fX6_153 (by first | assumption | rfl) (by rfl) ?_
        refine ev_iload_n dX6_reader_57 rfl ?_
        refine ev_ialdE _ dX6_reader_58 (rfl) (by first | assumption | rfl) ⟨by omega, by decide⟩ ?_
        exact ev_iretE dX6_reader_59 rfl rfl (by first | rfl | simp_all) (rfl)
      · refine ev_aload_n dX7_reader_0 rfl ?_
        refine ev_iload_n dX7_reader_1 rfl ?_
        refine ev_cV1 dX7_reader_2 ceX7_isReader kX7_169 (rm_le rfl rfl) (Nat.le_of_ble_eq_true rfl) (Nat.le_of_ble_eq_true rfl) (e7_isReader m2 l6) (by first | assumption | rfl) ?_
        rw [hck]
        refine ev_if_ne 11 dX7_reader_5 (by decide) (fun hc5 => ?_) (fun hc5 => False.elim (absurd hc5 (by decide)))
        refine ev_iload_n dX7_reader_11 rfl ?_
        refine ev_if_ne 24 dX7_reader_12 (by decide) (fun _ => ?_) (fun hc12 => False.elim (absurd hc12 (by decide)))
        refine ev_iload_n dX7_reader_24 rfl ?_
        refine ev_iconst (v := (nI 1)) dX7_reader_25 (by decide) ?_
        refine ev_icmp_ne 38 dX7_reader_26 (by decide) (fun hc26 => False.elim (absurd hc26 (by decide))) (fun _ => ?_)
        refine ev_aload_n dX7_reader_29 rfl ?_
        refine ev_getR dX7_reader_30 fX7_26 (by first | assumption | rfl) (by rfl) ?_
        refine ev_iload_n dX7_reader_33 rfl ?_
        refine ev_ialdE _ dX7_reader_34 (by first | with_reducible rfl | with_reducible exact nI_add _ _ | with_reducible exact ix3 _ _ _ | with_reducible exact ix_k _ _ _ | with_reducible exact ix_xk _ _ _ _) (by first | assumption | rfl) ⟨by omega, by decide⟩ ?_
        refine ev_goto 53 dX7_reader_35 (by decide) ?_
        exact ev_iretE dX7_reader_53 rfl rfl (by rw [(lr j hj).2.1]) (rfl)
    by_cases hs2 : x = nI 2
    · subst hs2
      refine ⟨nI (fb_ct (fun l => !decide (knC C 21 (C 21 10) j l = -1)) nl), C, G, ?_, ?_, hR0⟩
      · refine ev_aload_n dX6_reader_0 rfl ?_
        refine ev_getR dX6_reader_1 fX6_23 (by first | assumption | rfl) (by rfl) ?_
        refine ev_iload_n dX6_reader_4 rfl ?_
        refine ev_cV1 dX6_reader_5 ceX1_hasReader kX6_147 (rm_le rfl rfl) (Nat.le_of_ble_eq_true rfl) (Nat.le_of_ble_eq_true rfl) (e_hasReader) (by first | assumption | rfl) ?_
        rw [r1, hck]
        refine ev_if_ne 14 dX6_reader_8 (by decide) (fun hc8 => ?_) (fun hc8 => False.elim (absurd hc8 (by decide)))
        refine ev_iload_n dX6_reader_14 rfl ?_
        refine ev_tabI 60 dX6_reader_15 (by decide) (by decide) rfl (by decide) ?_
        refine ev_aload_n dX6_reader_60 rfl ?_
        refine ev_getR dX6_reader_61 fX6_31 (by first | assumption | rfl) (by rfl) ?_
        refine ev_iload_n dX6_reader_64 rfl ?_
        refine ev_cV1 dX6_reader_65 ceX5_linesKnown kX6_156 (rm_le rfl rfl) (Nat.le_of_ble_eq_true rfl) (Nat.le_of_ble_eq_true rfl) (e_linesKnown st_21 l1 l3 (by omega)) (by first | assumption | rfl) ?_
        exact ev_iretE dX6_reader_68 rfl rfl (by first | rfl | simp_all) (rfl)
      · refine ev_aload_n dX7_reader_0 rfl ?_
        refine ev_iload_n dX7_reader_1 rfl ?_
        refine ev_cV1 dX7_reader_2 ceX7_isReader kX7_169 (rm_le rfl rfl) (Nat.le_of_ble_eq_true rfl) (Nat.le_of_ble_eq_true rfl) (e7_isReader m2 l6) (by first | assumption | rfl) ?_
        rw [hck]
        refine ev_if_ne 11 dX7_reader_5 (by decide) (fun hc5 => ?_) (fun hc5 => False.elim (absurd hc5 (by decide)))
        refine ev_iload_n dX7_reader_11 rfl ?_
        refine ev_if_ne 24 dX7_reader_12 (by decide) (fun _ => ?_) (fun hc12 => False.elim (absurd hc12 (by decide)))
        refine ev_iload_n dX7_reader_24 rfl ?_
        refine ev_iconst (v := (nI 1)) dX7_reader_25 (by decide) ?_
        refine ev_icmp_ne 38 dX7_reader_26 (by decide) (fun _ => ?_) (fun hc26 => False.elim (absurd hc26 (by decide)))
        refine ev_iload_n dX7_reader_38 rfl ?_
        refine ev_iconst (v := (nI 2)) dX7_reader_39 (by decide) ?_
        refine ev_icmp_ne 51 dX7_reader_40 (by decide) (fun hc40 => False.elim (absurd hc40 (by decide))) (fun _ => ?_)
        refine ev_aload_n dX7_reader_43 rfl ?_
        refine ev_iload_n dX7_reader_44 rfl ?_
        refine ev_cV1 dX7_reader_45 ceX7_knownBy kX7_172 (rm_le rfl rfl) (Nat.le_of_ble_eq_true rfl) (Nat.le_of_ble_eq_true rfl) (e7_knownBy m1 l3 (by omega)) (by first | assumption | rfl) ?_
        refine ev_goto 53 dX7_reader_48 (by decide) ?_
        exact ev_iretE dX7_reader_53 rfl rfl (by rw [fb_ct_cong (fun l hl => (kn_any hS hj hl).trans (by rw [Nat.zero_add]))]) (rfl)
    have hso := sw_out (m := 2) (by decide) (fun j hj => by rcases (show j = 0 ∨ j = 1 ∨ j = 2 by omega) with e | e | e <;> subst e <;> assumption)
    refine ⟨(-1000000002), C, G, ?_, ?_, hR0⟩
    · refine ev_aload_n dX6_reader_0 rfl ?_
      refine ev_getR dX6_reader_1 fX6_23 (by first | assumption | rfl) (by rfl) ?_
      refine ev_iload_n dX6_reader_4 rfl ?_
      refine ev_cV1 dX6_reader_5 ceX1_hasReader kX6_147 (rm_le rfl rfl) (Nat.le_of_ble_eq_true rfl) (Nat.le_of_ble_eq_true rfl) (e_hasReader) (by first | assumption | rfl) ?_
      rw [r1, hck]
      refine ev_if_ne 14 dX6_reader_8 (by decide) (fun hc8 => ?_) (fun hc8 => False.elim (absurd hc8 (by decide)))
      refine ev_iload_n dX6_reader_14 rfl ?_
      refine ev_tabO 69 dX6_reader_15 hso (by decide) ?_
      refine ev_ldc (v := (-1000000002)) dX6_reader_69 nX6_70 ?_
      exact ev_iretE dX6_reader_71 rfl rfl (by first | rfl | simp_all) (rfl)
    · refine ev_aload_n dX7_reader_0 rfl ?_
      refine ev_iload_n dX7_reader_1 rfl ?_
      refine ev_cV1 dX7_reader_2 ceX7_isReader kX7_169 (rm_le rfl rfl) (Nat.le_of_ble_eq_true rfl) (Nat.le_of_ble_eq_true rfl) (e7_isReader m2 l6) (by first | assumption | rfl) ?_
      rw [hck]
      refine ev_if_ne 11 dX7_reader_5 (by decide) (fun hc5 => ?_) (fun hc5 => False.elim (absurd hc5 (by decide)))
      refine ev_iload_n dX7_reader_11 rfl ?_
      refine ev_if_ne 24 dX7_reader_12 (by decide) (fun hc12 => ?_) (fun hc12 => False.elim (hs0 hc12))
      refine ev_iload_n dX7_reader_24 rfl ?_
      refine ev_iconst (v := (nI 1)) dX7_reader_25 (by decide) ?_
      refine ev_icmp_ne 38 dX7_reader_26 (by decide) (fun hc26 => ?_) (fun hc26 => False.elim (hs1 hc26))
      refine ev_iload_n dX7_reader_38 rfl ?_
      refine ev_iconst (v := (nI 2)) dX7_reader_39 (by decide) ?_
      refine ev_icmp_ne 51 dX7_reader_40 (by decide) (fun hc40 => ?_) (fun hc40 => False.elim (hs2 hc40))
      refine ev_ldc (v := (-1000000002)) dX7_reader_51 nX7_63 ?_
      exact ev_iretE dX7_reader_53 rfl rfl (by first | rfl | simp_all) (rfl)
  · refine ⟨(-1000000001), C, G, ?_, ?_, hR0⟩
    · refine ev_aload_n dX6_reader_0 rfl ?_
      refine ev_getR dX6_reader_1 fX6_23 (by first | assumption | rfl) (by rfl) ?_
      refine ev_iload_n dX6_reader_4 rfl ?_
      refine ev_cV1 dX6_reader_5 ceX1_hasReader kX6_147 (rm_le rfl rfl) (Nat.le_of_ble_eq_true rfl) (Nat.le_of_ble_eq_true rfl) (e_hasReader) (by first | assumption | rfl) ?_
      rw [r1, hck]
      refine ev_if_ne 14 dX6_reader_8 (by decide) (fun hc8 => False.elim (absurd hc8 (by decide))) (fun hc8 => ?_)
      refine ev_ldc (v := (-1000000001)) dX6_reader_11 nX6_127 ?_
      exact ev_iretE dX6_reader_13 rfl rfl (by first | rfl | simp_all) (rfl)
    · refine ev_aload_n dX7_reader_0 rfl ?_
      refine ev_iload_n dX7_reader_1 rfl ?_
      refine ev_cV1 dX7_reader_2 ceX7_isReader kX7_169 (rm_le rfl rfl) (Nat.le_of_ble_eq_true rfl) (Nat.le_of_ble_eq_true rfl) (e7_isReader m2 l6) (by first | assumption | rfl) ?_
      rw [hck]
      refine ev_if_ne 11 dX7_reader_5 (by decide) (fun hc5 => False.elim (absurd hc5 (by decide))) (fun hc5 => ?_)
      refine ev_ldc (v := (-1000000001)) dX7_reader_8 nX7_165 ?_
      exact ev_iretE dX7_reader_10 rfl rfl (by first | rfl | simp_all) (rfl)
set_option maxRecDepth 20000 in
set_option maxHeartbeats 2000000 in
theorem op_page {p x : Int32} : OpOk mX6_page mX7_page [.int p, .int x] := by
  intro C G hR
  have hR0 := hR
  obtain ⟨nl, nr, tm, n, d, nq, tl, nd, b0, b1, kt, hp⟩ := hR
  obtain ⟨hS, hE, hQ, hT, hDr, hI, hkt, hkt3⟩ := id hp
  have hL := hS.1
  obtain ⟨l1, m1, l3, r1, m2, l6, le, lw, lr⟩ := id hL
  obtain ⟨hP, ⟨d1, d2, d3⟩, ⟨s1, s2⟩, hH⟩ := id hS.2.1
  obtain ⟨p1, p2, p3, p4, p5⟩ := id hP
  rw [Nat.zero_add] at p2 d2 s1
  obtain ⟨-, -, k, k', q1, q2, q3, q4, q5⟩ := id hS
  obtain ⟨ke, kl⟩ := q5 rfl
  subst ke
  obtain ⟨-, -, -, kl4⟩ := id kl
  rw [Nat.zero_add] at q3
  rcases ck p (show n < 2 ^ 31 by omega) with ⟨j, hj, e, hck⟩ | hck
  · subst e
    obtain ⟨⟨a1, a2, a3, a4⟩, -⟩ := p5 j hj
    rw [Nat.zero_add] at a1 a2 a3 a4
    by_cases hs0 : x = nI 0
    · subst hs0
      refine ⟨C (21 + 1) j, C, G, ?_, ?_, hR0⟩
      · refine ev_aload_n dX6_page_0 rfl ?_
        refine ev_getR dX6_page_1 fX6_31 (by first | assumption | rfl) (by rfl) ?_
        refine ev_iload_n dX6_page_4 rfl ?_
        refine ev_cV1 dX6_page_5 ceX5_hasPage kX6_159 (rm_le rfl rfl) (Nat.le_of_ble_eq_true rfl) (Nat.le_of_ble_eq_true rfl) (e_hasPage st_21) (by first | assumption | rfl) ?_
        rw [p1, hck]
        refine ev_if_ne 14 dX6_page_8 (by decide) (fun hc8 => ?_) (fun hc8 => False.elim (absurd hc8 (by decide)))
        refine ev_iload_n dX6_page_14 rfl ?_
        refine ev_tabI 44 dX6_page_15 (by decide) (by decide) rfl (by decide) ?_
        refine ev_aload_n dX6_page_44 rfl ?_
        refine ev_getR dX6_page_45 fX6_31 (by first | assumption | rfl) (by rfl) ?_
        refine ev_getR dX6_page_48 fX6_162 (by first | assumption | rfl) (by rfl) ?_
        refine ev_iload_n dX6_page_51 rfl ?_
        refine ev_ialdE _ dX6_page_52 (rfl) (by first | assumption | rfl) ⟨by omega, by decide⟩ ?_
        exact ev_iretE dX6_page_53 rfl rfl (by first | rfl | simp_all) (rfl)
      · refine ev_aload_n dX7_page_0 rfl ?_
        refine ev_iload_n dX7_page_1 rfl ?_
        refine ev_cV1 dX7_page_2 ceX7_isPage kX7_175 (rm_le rfl rfl) (Nat.le_of_ble_eq_true rfl) (Nat.le_of_ble_eq_true rfl) (e7_isPage p2 p3) (by first | assumption | rfl) ?_
        rw [hck]
        refine ev_if_ne 11 dX7_page_5 (by decide) (fun hc5 => ?_) (fun hc5 => False.elim (absurd hc5 (by decide)))
        refine ev_iload_n dX7_page_11 rfl ?_
        refine ev_if_ne 24 dX7_page_12 (by decide) (fun hc12 => False.elim (absurd hc12 (by decide))) (fun _ => ?_)
        refine ev_aload_n dX7_page_15 rfl ?_
        refine ev_getR dX7_page_16 fX7_7 (by first | assumption | rfl) (by rfl) ?_
        refine ev_iload_n dX7_page_19 rfl ?_
        refine ev_ialdE _ dX7_page_20 (by first | with_reducible rfl | with_reducible exact nI_add _ _ | with_reducible exact ix3 _ _ _ | with_reducible exact ix_k _ _ _ | with_reducible exact ix_xk _ _ _ _) (by first | assumption | rfl) ⟨by omega, by decide⟩ ?_
        refine ev_goto 73 dX7_page_21 (by decide) ?_
        exact ev_iretE dX7_page_73 rfl rfl (by rw [a1]) (rfl)
    by_cases hs1 : x = nI 1
    · subst hs1
      refine ⟨C (21 + 2) j, C, G, ?_, ?_, hR0⟩
      · refine ev_aload_n dX6_page_0 rfl ?_
        refine ev_getR dX6_page_1 fX6_31 (by first | assumption | rfl) (by rfl) ?_
        refine ev_iload_n dX6_page_4 rfl ?_
        refine ev_cV1 dX6_page_5 ceX5_hasPage kX6_159 (rm_le rfl rfl) (Nat.le_of_ble_eq_true rfl) (Nat.le_of_ble_eq_true rfl) (e_hasPage st_21) (by first | assumption | rfl) ?_
        rw [p1, hck]
        refine ev_if_ne 14 dX6_page_8 (by decide) (fun hc8 => ?_) (fun hc8 => False.elim (absurd hc8 (by decide)))
        refine ev_iload_n dX6_page_14 rfl ?_
        refine ev_tabI 54 dX6_page_15 (by decide) (by decide) rfl (by decide) ?_
        refine ev_aload_n dX6_page_54 rfl ?_
        refine ev_getR dX6_page_55 fX6_31 (by first | assumption | rfl) (by rfl) ?_
        refine ev_getR dX6_page_58 fX6_165 (by first | assumption | rfl) (by rfl) ?_
        refine ev_iload_n dX6_page_61 rfl ?_
        refine ev_ialdE _ dX6_page_62 (rfl) (by first | assumption | rfl) ⟨by omega, by decide⟩ ?_
        exact ev_iretE dX6_page_63 rfl rfl (by first | rfl | simp_all) (rfl)
      · refine ev_aload_n dX7_page_0 rfl ?_
        refine ev_iload_n dX7_page_1 rfl ?_
        refine ev_cV1 dX7_page_2 ceX7_isPage kX7_175 (rm_le rfl rfl) (Nat.le_of_ble_eq_true rfl) (Nat.le_of_ble_eq_true rfl) (e7_isPage p2 p3) (by first | assumption | rfl) ?_
        rw [hck]
        refine ev_if_ne 11 dX7_page_5 (by decide) (fun hc5 => ?_) (fun hc5 => False.elim (absurd hc5 (by decide)))
        refine ev_iload_n dX7_page_11 rfl ?_
        refine ev_if_ne 24 dX7_page_12 (by decide) (fun _ => ?_) (fun hc12 => False.elim (absurd hc12 (by decide)))
        refine ev_iload_n dX7_page_24 rfl ?_
        refine ev_iconst (v := (nI 1)) dX7_page_25 (by decide) ?_
        refine ev_icmp_ne 41 dX7_page_26 (by decide) (fun hc26 => False.elim (absurd hc26 (by decide))) (fun _ => ?_)
        refine ev_aload_n dX7_page_29 rfl ?_
        refine ev_getR dX7_page_30 fX7_7 (by first | assumption | rfl) (by rfl) ?_
        refine ev_bipush (v := (nI 40)) dX7_page_33 (by decide) ?_
        refine ev_iload_n dX7_page_35 rfl ?_
        refine ev_iadd dX7_page_36 ?_
        refine ev_ialdE _ dX7_page_37 (by first | with_reducible rfl | with_reducible exact nI_add _ _ | with_reducible exact ix3 _ _ _ | with_reducible exact ix_k _ _ _ | with_reducible exact ix_xk _ _ _ _) (by first | assumption | rfl) ⟨by omega, by decide⟩ ?_
        refine ev_goto 73 dX7_page_38 (by decide) ?_
        exact ev_iretE dX7_page_73 rfl rfl (by rw [a2]) (rfl)
    by_cases hs2 : x = nI 2
    · subst hs2
      refine ⟨C (21 + 3) j, C, G, ?_, ?_, hR0⟩
      · refine ev_aload_n dX6_page_0 rfl ?_
        refine ev_getR dX6_page_1 fX6_31 (by first | assumption | rfl) (by rfl) ?_
        refine ev_iload_n dX6_page_4 rfl ?_
        refine ev_cV1 dX6_page_5 ceX5_hasPage kX6_159 (rm_le rfl rfl) (Nat.le_of_ble_eq_true rfl) (Nat.le_of_ble_eq_true rfl) (e_hasPage st_21) (by first | assumption | rfl) ?_
        rw [p1, hck]
        refine ev_if_ne 14 dX6_page_8 (by decide) (fun hc8 => ?_) (fun hc8 => False.elim (absurd hc8 (by decide)))
        refine ev_iload_n dX6_page_14 rfl ?_
        refine ev_tabI 64 dX6_page_15 (by decide) (by decide) rfl (by decide) ?_
        refine ev_aload_n dX6_page_64 rfl ?_
        refine ev_getR dX6_page_65 fX6_31 (by first | assumption | rfl) (by rfl) ?_
        refine ev_getR dX6_page_68 fX6_168 (by first | assumption | rfl) (by rfl) ?_
        refine ev_iload_n dX6_page_71 rfl ?_
        refine ev_ialdE _ dX6_page_72 (rfl) (by first | assumption | rfl) ⟨by omega, by decide⟩ ?_
        exact ev_iretE dX6_page_73 rfl rfl (by first | rfl | simp_all) (rfl)
      · refine ev_aload_n dX7_page_0 rfl ?_
        refine ev_iload_n dX7_page_1 rfl ?_
        refine ev_cV1 dX7_page_2 ceX7_isPage kX7_175 (rm_le rfl rfl) (Nat.le_of_ble_eq_true rfl) (Nat.le_of_ble_eq_true rfl) (e7_isPage p2 p3) (by first | assumption | rfl) ?_
        rw [hck]
        refine ev_if_ne 11 dX7_page_5 (by decide) (fun hc5 => ?_) (fun hc5 => False.elim (absurd hc5 (by decide)))
        refine ev_iload_n dX7_page_11 rfl ?_
        refine ev_if_ne 24 dX7_page_12 (by decide) (fun _ => ?_) (fun hc12 => False.elim (absurd hc12 (by decide)))
        refine ev_iload_n dX7_page_24 rfl ?_
        refine ev_iconst (v := (nI 1)) dX7_page_25 (by decide) ?_
        refine ev_icmp_ne 41 dX7_page_26 (by decide) (fun _ => ?_) (fun hc26 => False.elim (absurd hc26 (by decide)))
        refine ev_iload_n dX7_page_41 rfl ?_
        refine ev_iconst (v := (nI 2)) dX7_page_42 (by decide) ?_
        refine ev_icmp_ne 58 dX7_page_43 (by decide) (fun hc43 => False.elim (absurd hc43 (by decide))) (fun _ => ?_)
        refine ev_aload_n dX7_page_46 rfl ?_
        refine ev_getR dX7_page_47 fX7_7 (by first | assumption | rfl) (by rfl) ?_
        refine ev_bipush (v := (nI 80)) dX7_page_50 (by decide) ?_
        refine ev_iload_n dX7_page_52 rfl ?_
        refine ev_iadd dX7_page_53 ?_
        refine ev_ialdE _ dX7_page_54 (by first | with_reducible rfl | with_reducible exact nI_add _ _ | with_reducible exact ix3 _ _ _ | with_reducible exact ix_k _ _ _ | with_reducible exact ix_xk _ _ _ _) (by first | assumption | rfl) ⟨by omega, by decide⟩ ?_
        refine ev_goto 73 dX7_page_55 (by decide) ?_
        exact ev_iretE dX7_page_73 rfl rfl (by rw [a3]) (rfl)
    by_cases hs3 : x = nI 3
    · subst hs3
      refine ⟨nI (fb_ct (fun i => decide (C (21 + 10) i = nI j)) k'), C, G, ?_, ?_, hR0⟩
      · refine ev_aload_n dX6_page_0 rfl ?_
        refine ev_getR dX6_page_1 fX6_31 (by first | assumption | rfl) (by rfl) ?_
        refine ev_iload_n dX6_page_4 rfl ?_
        refine ev_cV1 dX6_page_5 ceX5_hasPage kX6_159 (rm_le rfl rfl) (Nat.le_of_ble_eq_true rfl) (Nat.le_of_ble_eq_true rfl) (e_hasPage st_21) (by first | assumption | rfl) ?_
        rw [p1, hck]
        refine ev_if_ne 14 dX6_page_8 (by decide) (fun hc8 => ?_) (fun hc8 => False.elim (absurd hc8 (by decide)))
        refine ev_iload_n dX6_page_14 rfl ?_
        refine ev_tabI 74 dX6_page_15 (by decide) (by decide) rfl (by decide) ?_
        refine ev_aload_n dX6_page_74 rfl ?_
        refine ev_getR dX6_page_75 fX6_31 (by first | assumption | rfl) (by rfl) ?_
        refine ev_getR dX6_page_78 fX6_106 (by first | assumption | rfl) (by rfl) ?_
        refine ev_iload_n dX6_page_81 rfl ?_
        refine ev_cV1 dX6_page_82 ceX2_timesRead kX6_171 (rm_le rfl rfl) (Nat.le_of_ble_eq_true rfl) (Nat.le_of_ble_eq_true rfl) (e_timesRead (q := 21) st_21 q1 q2) (by first | assumption | rfl) ?_
        exact ev_iretE dX6_page_85 rfl rfl (by first | rfl | simp_all) (rfl)
      · refine ev_aload_n dX7_page_0 rfl ?_
        refine ev_iload_n dX7_page_1 rfl ?_
        refine ev_cV1 dX7_page_2 ceX7_isPage kX7_175 (rm_le rfl rfl) (Nat.le_of_ble_eq_true rfl) (Nat.le_of_ble_eq_true rfl) (e7_isPage p2 p3) (by first | assumption | rfl) ?_
        rw [hck]
        refine ev_if_ne 11 dX7_page_5 (by decide) (fun hc5 => ?_) (fun hc5 => False.elim (absurd hc5 (by decide)))
        refine ev_iload_n dX7_page_11 rfl ?_
        refine ev_if_ne 24 dX7_page_12 (by decide) (fun _ => ?_) (fun hc12 => False.elim (absurd hc12 (by decide)))
        refine ev_iload_n dX7_page_24 rfl ?_
        refine ev_iconst (v := (nI 1)) dX7_page_25 (by decide) ?_
        refine ev_icmp_ne 41 dX7_page_26 (by decide) (fun _ => ?_) (fun hc26 => False.elim (absurd hc26 (by decide)))
        refine ev_iload_n dX7_page_41 rfl ?_
        refine ev_iconst (v := (nI 2)) dX7_page_42 (by decide) ?_
        refine ev_icmp_ne 58 dX7_page_43 (by decide) (fun _ => ?_) (fun hc43 => False.elim (absurd hc43 (by decide)))
        refine ev_iload_n dX7_page_58 rfl ?_
        refine ev_iconst (v := (nI 3)) dX7_page_59 (by decide) ?_
        refine ev_icmp_ne 71 dX7_page_60 (by decide) (fun hc60 => False.elim (absurd hc60 (by decide))) (fun _ => ?_)
        refine ev_aload_n dX7_page_63 rfl ?_
        refine ev_iload_n dX7_page_64 rfl ?_
        refine ev_cV1 dX7_page_65 ceX7_readMany kX7_178 (rm_le rfl rfl) (Nat.le_of_ble_eq_true rfl) (Nat.le_of_ble_eq_true rfl) (e7_readMany q3 q4) (by first | assumption | rfl) ?_
        refine ev_goto 73 dX7_page_68 (by decide) ?_
        exact ev_iretE dX7_page_73 rfl rfl (by rw [fb_ct_cong (p := fun i => decide (G 1 (732 + i) = nI j)) (q := fun i => decide (C (21 + 10) i = nI j)) (fun i hi => by have := (kl4 i hi).2.1; rw [Nat.zero_add] at this; rw [this])]) (rfl)
    have hso := sw_out (m := 3) (by decide) (fun j hj => by rcases (show j = 0 ∨ j = 1 ∨ j = 2 ∨ j = 3 by omega) with e | e | e | e <;> subst e <;> assumption)
    refine ⟨(-1000000002), C, G, ?_, ?_, hR0⟩
    · refine ev_aload_n dX6_page_0 rfl ?_
      refine ev_getR dX6_page_1 fX6_31 (by first | assumption | rfl) (by rfl) ?_
      refine ev_iload_n dX6_page_4 rfl ?_
      refine ev_cV1 dX6_page_5 ceX5_hasPage kX6_159 (rm_le rfl rfl) (Nat.le_of_ble_eq_true rfl) (Nat.le_of_ble_eq_true rfl) (e_hasPage st_21) (by first | assumption | rfl) ?_
      rw [p1, hck]
      refine ev_if_ne 14 dX6_page_8 (by decide) (fun hc8 => ?_) (fun hc8 => False.elim (absurd hc8 (by decide)))
      refine ev_iload_n dX6_page_14 rfl ?_
      refine ev_tabO 86 dX6_page_15 hso (by decide) ?_
      refine ev_ldc (v := (-1000000002)) dX6_page_86 nX6_70 ?_
      exact ev_iretE dX6_page_88 rfl rfl (by first | rfl | simp_all) (rfl)
    · refine ev_aload_n dX7_page_0 rfl ?_
      refine ev_iload_n dX7_page_1 rfl ?_
      refine ev_cV1 dX7_page_2 ceX7_isPage kX7_175 (rm_le rfl rfl) (Nat.le_of_ble_eq_true rfl) (Nat.le_of_ble_eq_true rfl) (e7_isPage p2 p3) (by first | assumption | rfl) ?_
      rw [hck]
      refine ev_if_ne 11 dX7_page_5 (by decide) (fun hc5 => ?_) (fun hc5 => False.elim (absurd hc5 (by decide)))
      refine ev_iload_n dX7_page_11 rfl ?_
      refine ev_if_ne 24 dX7_page_12 (by decide) (fun hc12 => ?_) (fun hc12 => False.elim (hs0 hc12))
      refine ev_iload_n dX7_page_24 rfl ?_
      refine ev_iconst (v := (nI 1)) dX7_page_25 (by decide) ?_
      refine ev_icmp_ne 41 dX7_page_26 (by decide) (fun hc26 => ?_) (fun hc26 => False.elim (hs1 hc26))
      refine ev_iload_n dX7_page_41 rfl ?_
      refine ev_iconst (v := (nI 2)) dX7_page_42 (by decide) ?_
      refine ev_icmp_ne 58 dX7_page_43 (by decide) (fun hc43 => ?_) (fun hc43 => False.elim (hs2 hc43))
      refine ev_iload_n dX7_page_58 rfl ?_
      refine ev_iconst (v := (nI 3)) dX7_page_59 (by decide) ?_
      refine ev_icmp_ne 71 dX7_page_60 (by decide) (fun hc60 => ?_) (fun hc60 => False.elim (hs3 hc60))
      refine ev_ldc (v := (-1000000002)) dX7_page_71 nX7_63 ?_
      exact ev_iretE dX7_page_73 rfl rfl (by first | rfl | simp_all) (rfl)
  · refine ⟨(-1000000001), C, G, ?_, ?_, hR0⟩
    · refine ev_aload_n dX6_page_0 rfl ?_
      refine ev_getR dX6_page_1 fX6_31 (by first | assumption | rfl) (by rfl) ?_
      refine ev_iload_n dX6_page_4 rfl ?_
      refine ev_cV1 dX6_page_5 ceX5_hasPage kX6_159 (rm_le rfl rfl) (Nat.le_of_ble_eq_true rfl) (Nat.le_of_ble_eq_true rfl) (e_hasPage st_21) (by first | assumption | rfl) ?_
      rw [p1, hck]
      refine ev_if_ne 14 dX6_page_8 (by decide) (fun hc8 => False.elim (absurd hc8 (by decide))) (fun hc8 => ?_)
      refine ev_ldc (v := (-1000000001)) dX6_page_11 nX6_127 ?_
      exact ev_iretE dX6_page_13 rfl rfl (by first | rfl | simp_all) (rfl)
    · refine ev_aload_n dX7_page_0 rfl ?_
      refine ev_iload_n dX7_page_1 rfl ?_
      refine ev_cV1 dX7_page_2 ceX7_isPage kX7_175 (rm_le rfl rfl) (Nat.le_of_ble_eq_true rfl) (Nat.le_of_ble_eq_true rfl) (e7_isPage p2 p3) (by first | assumption | rfl) ?_
      rw [hck]
      refine ev_if_ne 11 dX7_page_5 (by decide) (fun hc5 => False.elim (absurd hc5 (by decide))) (fun hc5 => ?_)
      refine ev_ldc (v := (-1000000001)) dX7_page_8 nX7_165 ?_
      exact ev_iretE dX7_page_10 rfl rfl (by first | rfl | simp_all) (rfl)
