/-! ops: read, grant, run, claim, whence, requests, diary, seed -/
theorem Rp.side {nl nr : Nat} {tm : Nat → Nat} {n d nq tl nd : Nat} {b0 b1 : Bool} {kt : Nat} {C G C' G' : rf_Mem} (h : Rp nl nr tm n d nq tl nd b0 b1 kt C G) (hC : ∀ a, 21 ≤ a ∨ a = 8 ∨ a = 9 ∨ a = 11 ∨ a = 12 → C' a = C a) (hG : ∀ a, a = 1 ∨ a = 2 ∨ a = 3 ∨ a = 5 ∨ a = 6 ∨ a = 7 → G' a = G a) (hG0 : G' 0 7 = G 0 7) : Sim true 21 0 n d nl nr tm C' G' ∧ En 21 0 nl C' G' ∧ (b0 = true → Ig 45 3000 nl nr tm C' G') ∧ (b1 = true → Ig 57 4500 nl nr tm C' G') ∧ C' 41 3 = nI kt := by
  obtain ⟨h1, h2, -, -, -, ⟨-, -, -, i4, i5⟩, k1, k2⟩ := h
  have hL : Lb nl nr tm C' G' := by
    have := h1.1
    unfold Lb at this ⊢
    rw [hC 8 (by omega), hC 9 (by omega), hC 11 (by omega), hC 12 (by omega), hG0, hG 3 (by omega), hG 5 (by omega), hG 6 (by omega), hG 7 (by omega)]
    exact this
  have e1 : G' 1 = G 1 := hG 1 (by omega)
  exact ⟨h1.frame hL (fun a _ _ => hC a (by omega)) (fun j _ _ => by rw [e1]), h2.frame (hC _ (by omega)) (fun j _ _ => by rw [e1]) hL.2.2.1, fun z => (i4 z).frame hL (fun a _ _ => hC a (by omega)) (fun j _ _ => by rw [e1]), fun z => (i5 z).frame hL (fun a _ _ => hC a (by omega)) (fun j _ _ => by rw [e1]), by rw [hC 41 (by omega)]; exact k1⟩

set_option maxRecDepth 20000 in
set_option maxHeartbeats 2000000 in
theorem op_read {r0 p0 : Int32} : OpOk mX6_read mX7_read [.int r0, .int p0] := by
  intro C G hR
  have hR0 := hR
  obtain ⟨nl, nr, tm, n, d, nq, tl, nd, b0, b1, kt, hp⟩ := hR
  obtain ⟨hS, hE, hQ, hT, hDr, hI, hkt, hkt3⟩ := id hp
  have hL := hS.1
  obtain ⟨l1, m1, l3, r1, m2, l6, le, lw, lr⟩ := id hL
  obtain ⟨hP, ⟨d1, d2, d3⟩, ⟨s1, s2⟩, hH⟩ := id hS.2.1
  obtain ⟨p1, p2, p3, p4, p5⟩ := id hP
  rw [Nat.zero_add] at p2 d2 s1
  obtain ⟨-, -, k, k', q1, q2, q3, q4, q5⟩ := id hS
  obtain ⟨ke, kl⟩ := q5 rfl
  subst ke
  obtain ⟨-, -, -, kl4⟩ := id kl
  rw [Nat.zero_add] at q3
  rcases ck r0 (show nr < 2 ^ 31 by omega) with ⟨j1, hj1, e1, c1⟩ | c1
  · subst e1
    rcases ck p0 (show n < 2 ^ 31 by omega) with ⟨j2, hj2, e2, c2⟩ | c2
    · subst e2
      obtain ⟨⟨a1, a2, a3, a4⟩, -, ⟨s, hs, hs2⟩, -⟩ := p5 j2 hj2
      simp only [Nat.zero_add] at a1 a2 a3 a4
      rcases Nat.lt_or_ge s 9 with hs9 | hs9
      · obtain ⟨C2, G2, eC, eG, hS2, f3, f4⟩ := sim_read (p := j2) (r := j1) st_21 (by decide) hS hj1 hj2 hs2 hs9
        have hg : (!decide (C (21 + 3) j2 < nI 9)) = false := by rw [hs2, decide_eq_true (nI_lt hs9 (by decide))]; rfl
        have hg2 : ¬ G 1 (80 + j2) = nI 9 := by rw [← a3, hs2]; exact fun z => by have := (nI_eq (by omega) (by decide)).mp z; omega
        obtain ⟨⟨-, -, b3, -⟩, -⟩ := hS2.2.1.1.2.2.2.2 j2 hj2
        simp only [Nat.zero_add] at b3
        refine ⟨C2 (21 + 3) j2, C2, G2, ?_, ?_, hp.act hS2 f3 f4⟩
        · refine ev_aload_n dX6_read_0 rfl ?_
          refine ev_getR dX6_read_1 fX6_23 (by first | assumption | rfl) (by rfl) ?_
          refine ev_iload_n dX6_read_4 rfl ?_
          refine ev_cV1 dX6_read_5 ceX1_hasReader kX6_147 (rm_le rfl rfl) (Nat.le_of_ble_eq_true rfl) (Nat.le_of_ble_eq_true rfl) (e_hasReader) (by first | assumption | rfl) ?_
          rw [r1, c1]
          refine ev_if_eq 22 dX6_read_8 (by decide) (fun hc8 => False.elim (absurd hc8 (by decide))) (fun hc8 => ?_)
          refine ev_aload_n dX6_read_11 rfl ?_
          refine ev_getR dX6_read_12 fX6_31 (by first | assumption | rfl) (by rfl) ?_
          refine ev_iload_n dX6_read_15 rfl ?_
          refine ev_cV1 dX6_read_16 ceX5_hasPage kX6_159 (rm_le rfl rfl) (Nat.le_of_ble_eq_true rfl) (Nat.le_of_ble_eq_true rfl) (e_hasPage st_21) (by first | assumption | rfl) ?_
          rw [p1, c2]
          refine ev_if_ne 25 dX6_read_19 (by decide) (fun hc19 => ?_) (fun hc19 => False.elim (absurd hc19 (by decide)))
          refine ev_aload_n dX6_read_25 rfl ?_
          refine ev_getR dX6_read_26 fX6_31 (by first | assumption | rfl) (by rfl) ?_
          refine ev_iload_n dX6_read_29 rfl ?_
          refine ev_cV1 dX6_read_30 ceX5_isGone kX6_191 (rm_le rfl rfl) (Nat.le_of_ble_eq_true rfl) (Nat.le_of_ble_eq_true rfl) (e_isGone st_21 (by omega)) (by first | assumption | rfl) ?_
          rw [hg]
          refine ev_if_eq 39 dX6_read_33 (by decide) (fun hc33 => ?_) (fun hc33 => False.elim (absurd hc33 (by decide)))
          refine ev_aload_n dX6_read_39 rfl ?_
          refine ev_getR dX6_read_40 fX6_31 (by first | assumption | rfl) (by rfl) ?_
          refine ev_iload_n dX6_read_43 rfl ?_
          refine ev_iload_n dX6_read_44 rfl ?_
          refine ev_cV2v dX6_read_45 ceX5_readPage kX6_195 (rm_le rfl rfl) (Nat.le_of_ble_eq_true rfl) (Nat.le_of_ble_eq_true rfl) (eC) (by first | assumption | rfl) ?_
          refine ev_aload_n dX6_read_48 rfl ?_
          refine ev_getR dX6_read_49 fX6_31 (by first | assumption | rfl) (by rfl) ?_
          refine ev_getR dX6_read_52 fX6_168 (by first | assumption | rfl) (by rfl) ?_
          refine ev_iload_n dX6_read_55 rfl ?_
          refine ev_ialdE _ dX6_read_56 (rfl) (by first | assumption | rfl) ⟨by omega, by decide⟩ ?_
          exact ev_iretE dX6_read_57 rfl rfl (by first | rfl | simp_all) (rfl)
        · refine ev_aload_n dX7_read_0 rfl ?_
          refine ev_iload_n dX7_read_1 rfl ?_
          refine ev_cV1 dX7_read_2 ceX7_isReader kX7_169 (rm_le rfl rfl) (Nat.le_of_ble_eq_true rfl) (Nat.le_of_ble_eq_true rfl) (e7_isReader m2 l6) (by first | assumption | rfl) ?_
          rw [c1]
          refine ev_if_eq 16 dX7_read_5 (by decide) (fun hc5 => False.elim (absurd hc5 (by decide))) (fun hc5 => ?_)
          refine ev_aload_n dX7_read_8 rfl ?_
          refine ev_iload_n dX7_read_9 rfl ?_
          refine ev_cV1 dX7_read_10 ceX7_isPage kX7_175 (rm_le rfl rfl) (Nat.le_of_ble_eq_true rfl) (Nat.le_of_ble_eq_true rfl) (e7_isPage p2 p3) (by first | assumption | rfl) ?_
          rw [c2]
          refine ev_if_ne 19 dX7_read_13 (by decide) (fun hc13 => ?_) (fun hc13 => False.elim (absurd hc13 (by decide)))
          refine ev_aload_n dX7_read_19 rfl ?_
          refine ev_getR dX7_read_20 fX7_7 (by first | assumption | rfl) (by rfl) ?_
          refine ev_bipush (v := (nI 80)) dX7_read_23 (by decide) ?_
          refine ev_iload_n dX7_read_25 rfl ?_
          refine ev_iadd dX7_read_26 ?_
          refine ev_ialdE _ dX7_read_27 (by first | with_reducible rfl | with_reducible exact nI_add _ _ | with_reducible exact ix3 _ _ _ | with_reducible exact ix_k _ _ _ | with_reducible exact ix_xk _ _ _ _) (by first | assumption | rfl) ⟨by omega, by decide⟩ ?_
          refine ev_bipush (v := (nI 9)) dX7_read_28 (by decide) ?_
          refine ev_icmp_ne 36 dX7_read_30 (by decide) (fun hc30 => ?_) (fun hc30 => False.elim (hg2 hc30))
          refine ev_aload_n dX7_read_36 rfl ?_
          refine ev_iconst (v := (nI 0)) dX7_read_37 (by decide) ?_
          refine ev_iload_n dX7_read_38 rfl ?_
          refine ev_iload_n dX7_read_39 rfl ?_
          refine ev_cV3v dX7_read_40 ceX7_readPage kX7_188 (rm_le rfl rfl) (Nat.le_of_ble_eq_true rfl) (Nat.le_of_ble_eq_true rfl) (eG) (by first | assumption | rfl) ?_
          refine ev_aload_n dX7_read_43 rfl ?_
          refine ev_getR dX7_read_44 fX7_7 (by first | assumption | rfl) (by rfl) ?_
          refine ev_bipush (v := (nI 80)) dX7_read_47 (by decide) ?_
          refine ev_iload_n dX7_read_49 rfl ?_
          refine ev_iadd dX7_read_50 ?_
          refine ev_ialdE _ dX7_read_51 (by first | with_reducible rfl | with_reducible exact nI_add _ _ | with_reducible exact ix3 _ _ _ | with_reducible exact ix_k _ _ _ | with_reducible exact ix_xk _ _ _ _) (by first | assumption | rfl) ⟨by omega, by decide⟩ ?_
          exact ev_iretE dX7_read_52 rfl rfl (by rw [b3]) (rfl)
      · have hs3 : s = 9 := by omega
        have hg : (!decide (C (21 + 3) j2 < nI 9)) = true := by rw [hs2, hs3]; decide
        have hg2 : G 1 (80 + j2) = nI 9 := by rw [← a3, hs2, hs3]
        refine ⟨(-1000000003), C, G, ?_, ?_, hR0⟩
        · refine ev_aload_n dX6_read_0 rfl ?_
          refine ev_getR dX6_read_1 fX6_23 (by first | assumption | rfl) (by rfl) ?_
          refine ev_iload_n dX6_read_4 rfl ?_
          refine ev_cV1 dX6_read_5 ceX1_hasReader kX6_147 (rm_le rfl rfl) (Nat.le_of_ble_eq_true rfl) (Nat.le_of_ble_eq_true rfl) (e_hasReader) (by first | assumption | rfl) ?_
          rw [r1, c1]
          refine ev_if_eq 22 dX6_read_8 (by decide) (fun hc8 => False.elim (absurd hc8 (by decide))) (fun hc8 => ?_)
          refine ev_aload_n dX6_read_11 rfl ?_
          refine ev_getR dX6_read_12 fX6_31 (by first | assumption | rfl) (by rfl) ?_
          refine ev_iload_n dX6_read_15 rfl ?_
          refine ev_cV1 dX6_read_16 ceX5_hasPage kX6_159 (rm_le rfl rfl) (Nat.le_of_ble_eq_true rfl) (Nat.le_of_ble_eq_true rfl) (e_hasPage st_21) (by first | assumption | rfl) ?_
          rw [p1, c2]
          refine ev_if_ne 25 dX6_read_19 (by decide) (fun hc19 => ?_) (fun hc19 => False.elim (absurd hc19 (by decide)))
          refine ev_aload_n dX6_read_25 rfl ?_
          refine ev_getR dX6_read_26 fX6_31 (by first | assumption | rfl) (by rfl) ?_
          refine ev_iload_n dX6_read_29 rfl ?_
          refine ev_cV1 dX6_read_30 ceX5_isGone kX6_191 (rm_le rfl rfl) (Nat.le_of_ble_eq_true rfl) (Nat.le_of_ble_eq_true rfl) (e_isGone st_21 (by omega)) (by first | assumption | rfl) ?_
          rw [hg]
          refine ev_if_eq 39 dX6_read_33 (by decide) (fun hc33 => False.elim (absurd hc33 (by decide))) (fun hc33 => ?_)
          refine ev_ldc (v := (-1000000003)) dX6_read_36 nX6_194 ?_
          exact ev_iretE dX6_read_38 rfl rfl (by first | rfl | simp_all) (rfl)
        · refine ev_aload_n dX7_read_0 rfl ?_
          refine ev_iload_n dX7_read_1 rfl ?_
          refine ev_cV1 dX7_read_2 ceX7_isReader kX7_169 (rm_le rfl rfl) (Nat.le_of_ble_eq_true rfl) (Nat.le_of_ble_eq_true rfl) (e7_isReader m2 l6) (by first | assumption | rfl) ?_
          rw [c1]
          refine ev_if_eq 16 dX7_read_5 (by decide) (fun hc5 => False.elim (absurd hc5 (by decide))) (fun hc5 => ?_)
          refine ev_aload_n dX7_read_8 rfl ?_
          refine ev_iload_n dX7_read_9 rfl ?_
          refine ev_cV1 dX7_read_10 ceX7_isPage kX7_175 (rm_le rfl rfl) (Nat.le_of_ble_eq_true rfl) (Nat.le_of_ble_eq_true rfl) (e7_isPage p2 p3) (by first | assumption | rfl) ?_
          rw [c2]
          refine ev_if_ne 19 dX7_read_13 (by decide) (fun hc13 => ?_) (fun hc13 => False.elim (absurd hc13 (by decide)))
          refine ev_aload_n dX7_read_19 rfl ?_
          refine ev_getR dX7_read_20 fX7_7 (by first | assumption | rfl) (by rfl) ?_
          refine ev_bipush (v := (nI 80)) dX7_read_23 (by decide) ?_
          refine ev_iload_n dX7_read_25 rfl ?_
          refine ev_iadd dX7_read_26 ?_
          refine ev_ialdE _ dX7_read_27 (by first | with_reducible rfl | with_reducible exact nI_add _ _ | with_reducible exact ix3 _ _ _ | with_reducible exact ix_k _ _ _ | with_reducible exact ix_xk _ _ _ _) (by first | assumption | rfl) ⟨by omega, by decide⟩ ?_
          refine ev_bipush (v := (nI 9)) dX7_read_28 (by decide) ?_
          refine ev_icmp_ne 36 dX7_read_30 (by decide) (fun hc30 => False.elim (hc30 hg2)) (fun hc30 => ?_)
          refine ev_ldc (v := (-1000000003)) dX7_read_33 nX7_187 ?_
          exact ev_iretE dX7_read_35 rfl rfl (by first | rfl | simp_all) (rfl)
    · refine ⟨(-1000000001), C, G, ?_, ?_, hR0⟩
      · refine ev_aload_n dX6_read_0 rfl ?_
        refine ev_getR dX6_read_1 fX6_23 (by first | assumption | rfl) (by rfl) ?_
        refine ev_iload_n dX6_read_4 rfl ?_
        refine ev_cV1 dX6_read_5 ceX1_hasReader kX6_147 (rm_le rfl rfl) (Nat.le_of_ble_eq_true rfl) (Nat.le_of_ble_eq_true rfl) (e_hasReader) (by first | assumption | rfl) ?_
        rw [r1, c1]
        refine ev_if_eq 22 dX6_read_8 (by decide) (fun hc8 => False.elim (absurd hc8 (by decide))) (fun hc8 => ?_)
        refine ev_aload_n dX6_read_11 rfl ?_
        refine ev_getR dX6_read_12 fX6_31 (by first | assumption | rfl) (by rfl) ?_
        refine ev_iload_n dX6_read_15 rfl ?_
        refine ev_cV1 dX6_read_16 ceX5_hasPage kX6_159 (rm_le rfl rfl) (Nat.le_of_ble_eq_true rfl) (Nat.le_of_ble_eq_true rfl) (e_hasPage st_21) (by first | assumption | rfl) ?_
        rw [p1, c2]
        refine ev_if_ne 25 dX6_read_19 (by decide) (fun hc19 => False.elim (absurd hc19 (by decide))) (fun hc19 => ?_)
        refine ev_ldc (v := (-1000000001)) dX6_read_22 nX6_127 ?_
        exact ev_iretE dX6_read_24 rfl rfl (by first | rfl | simp_all) (rfl)
      · refine ev_aload_n dX7_read_0 rfl ?_
        refine ev_iload_n dX7_read_1 rfl ?_
        refine ev_cV1 dX7_read_2 ceX7_isReader kX7_169 (rm_le rfl rfl) (Nat.le_of_ble_eq_true rfl) (Nat.le_of_ble_eq_true rfl) (e7_isReader m2 l6) (by first | assumption | rfl) ?_
        rw [c1]
        refine ev_if_eq 16 dX7_read_5 (by decide) (fun hc5 => False.elim (absurd hc5 (by decide))) (fun hc5 => ?_)
        refine ev_aload_n dX7_read_8 rfl ?_
        refine ev_iload_n dX7_read_9 rfl ?_
        refine ev_cV1 dX7_read_10 ceX7_isPage kX7_175 (rm_le rfl rfl) (Nat.le_of_ble_eq_true rfl) (Nat.le_of_ble_eq_true rfl) (e7_isPage p2 p3) (by first | assumption | rfl) ?_
        rw [c2]
        refine ev_if_ne 19 dX7_read_13 (by decide) (fun hc13 => False.elim (absurd hc13 (by decide))) (fun hc13 => ?_)
        refine ev_ldc (v := (-1000000001)) dX7_read_16 nX7_165 ?_
        exact ev_iretE dX7_read_18 rfl rfl (by first | rfl | simp_all) (rfl)
  · refine ⟨(-1000000001), C, G, ?_, ?_, hR0⟩
    · refine ev_aload_n dX6_read_0 rfl ?_
      refine ev_getR dX6_read_1 fX6_23 (by first | assumption | rfl) (by rfl) ?_
      refine ev_iload_n dX6_read_4 rfl ?_
      refine ev_cV1 dX6_read_5 ceX1_hasReader kX6_147 (rm_le rfl rfl) (Nat.le_of_ble_eq_true rfl) (Nat.le_of_ble_eq_true rfl) (e_hasReader) (by first | assumption | rfl) ?_
      rw [r1, c1]
      refine ev_if_eq 22 dX6_read_8 (by decide) (fun hc8 => ?_) (fun hc8 => False.elim (absurd hc8 (by decide)))
      refine ev_ldc (v := (-1000000001)) dX6_read_22 nX6_127 ?_
      exact ev_iretE dX6_read_24 rfl rfl (by first | rfl | simp_all) (rfl)
    · refine ev_aload_n dX7_read_0 rfl ?_
      refine ev_iload_n dX7_read_1 rfl ?_
      refine ev_cV1 dX7_read_2 ceX7_isReader kX7_169 (rm_le rfl rfl) (Nat.le_of_ble_eq_true rfl) (Nat.le_of_ble_eq_true rfl) (e7_isReader m2 l6) (by first | assumption | rfl) ?_
      rw [c1]
      refine ev_if_eq 16 dX7_read_5 (by decide) (fun hc5 => ?_) (fun hc5 => False.elim (absurd hc5 (by decide)))
      refine ev_ldc (v := (-1000000001)) dX7_read_16 nX7_165 ?_
      exact ev_iretE dX7_read_18 rfl rfl (by first | rfl | simp_all) (rfl)
set_option maxRecDepth 20000 in
set_option maxHeartbeats 2000000 in
theorem op_seed {v : Int32} : OpOk mX6_seed mX7_seed [.int v] := by
  intro C G hR
  have hR0 := hR
  obtain ⟨nl, nr, tm, n, d, nq, tl, nd, b0, b1, kt, hp⟩ := hR
  obtain ⟨hS, hE, hQ, hT, hDr, hI, hkt, hkt3⟩ := id hp
  have hL := hS.1
  obtain ⟨l1, m1, l3, r1, m2, l6, le, lw, lr⟩ := id hL
  obtain ⟨hP, ⟨d1, d2, d3⟩, ⟨s1, s2⟩, hH⟩ := id hS.2.1
  obtain ⟨p1, p2, p3, p4, p5⟩ := id hP
  rw [Nat.zero_add] at p2 d2 s1
  obtain ⟨-, -, k, k', q1, q2, q3, q4, q5⟩ := id hS
  obtain ⟨ke, kl⟩ := q5 rfl
  subst ke
  obtain ⟨-, -, -, kl4⟩ := id kl
  rw [Nat.zero_add] at q3
  rcases Int32.lt_or_le v 0 with z | z
  · have z2 : ¬ 0 ≤ v := fun y => (fa_of_lt z).2.1 y
    refine ⟨(-1000000002), C, G, ?_, ?_, hR0⟩
    · refine ev_iload_n dX6_seed_0 rfl ?_
      refine ev_if_ge 7 dX6_seed_1 (by decide) (fun hc1 => False.elim (z2 hc1)) (fun hc1 => ?_)
      refine ev_ldc (v := (-1000000002)) dX6_seed_4 nX6_70 ?_
      exact ev_iretE dX6_seed_6 rfl rfl (by first | rfl | simp_all) (rfl)
    · refine ev_iload_n dX7_seed_0 rfl ?_
      refine ev_if_ge 7 dX7_seed_1 (by decide) (fun hc1 => False.elim (z2 hc1)) (fun hc1 => ?_)
      refine ev_ldc (v := (-1000000002)) dX7_seed_4 nX7_63 ?_
      exact ev_iretE dX7_seed_6 rfl rfl (by first | rfl | simp_all) (rfl)
  · obtain ⟨hS2, f3, f4⟩ := sim_seed (v := v) (by decide) hS (fun y => (fa_of_lt y).2.1 z)
    rw [Nat.zero_add] at hS2 f4
    refine ⟨C 21 11, (rf_set C 21 11 v), (rf_set G 1 1335 v), ?_, ?_, hp.act hS2 f3 f4⟩
    · refine ev_iload_n dX6_seed_0 rfl ?_
      refine ev_if_ge 7 dX6_seed_1 (by decide) (fun hc1 => ?_) (fun hc1 => False.elim (hc1 z))
      refine ev_aload_n dX6_seed_7 rfl ?_
      refine ev_getR dX6_seed_8 fX6_31 (by first | assumption | rfl) (by rfl) ?_
      refine ev_getI dX6_seed_11 fX6_301 (by first | assumption | rfl) (by rfl) ?_
      refine ev_istore_k 2 dX6_seed_14 rfl (by decide) rfl ?_
      refine ev_aload_n dX6_seed_15 rfl ?_
      refine ev_getR dX6_seed_16 fX6_31 (by first | assumption | rfl) (by rfl) ?_
      refine ev_iload_n dX6_seed_19 rfl ?_
      refine ev_put dX6_seed_20 pX6_301 (by first | assumption | rfl) (by rfl) (rfl) (rfl) ?_
      refine ev_iload_n dX6_seed_23 rfl ?_
      exact ev_iretE dX6_seed_24 rfl rfl (by first | rfl | simp_all) (rfl)
    · refine ev_iload_n dX7_seed_0 rfl ?_
      refine ev_if_ge 7 dX7_seed_1 (by decide) (fun hc1 => ?_) (fun hc1 => False.elim (hc1 z))
      refine ev_aload_n dX7_seed_7 rfl ?_
      refine ev_getR dX7_seed_8 fX7_7 (by first | assumption | rfl) (by rfl) ?_
      refine ev_sipush (v := (nI 1335)) dX7_seed_11 (by decide) ?_
      refine ev_ialdE _ dX7_seed_14 (by first | with_reducible rfl | with_reducible exact nI_add _ _ | with_reducible exact ix3 _ _ _ | with_reducible exact ix_k _ _ _ | with_reducible exact ix_xk _ _ _ _) (by first | assumption | rfl) ⟨by omega, by decide⟩ ?_
      refine ev_istore_k 2 dX7_seed_15 rfl (by decide) rfl ?_
      refine ev_aload_n dX7_seed_16 rfl ?_
      refine ev_getR dX7_seed_17 fX7_7 (by first | assumption | rfl) (by rfl) ?_
      refine ev_sipush (v := (nI 1335)) dX7_seed_20 (by decide) ?_
      refine ev_iload_n dX7_seed_23 rfl ?_
      refine ev_iastE _ dX7_seed_24 (by first | with_reducible rfl | with_reducible exact nI_add _ _ | with_reducible exact ix3 _ _ _ | with_reducible exact ix_k _ _ _ | with_reducible exact ix_xk _ _ _ _) (by first | assumption | rfl) ⟨by omega, by decide⟩ ?_
      refine ev_iload_n dX7_seed_25 rfl ?_
      exact ev_iretE dX7_seed_26 rfl rfl (by rw [s1]) (rfl)
theorem rg1 (x : Int32) {m : Nat} (hm : m < 2 ^ 30) : (∃ j, 1 ≤ j ∧ j ≤ m ∧ x = nI j ∧ ¬ x < nI 1 ∧ x ≤ nI m ∧ (!decide (x < nI 1) && !decide (nI m < x)) = true) ∨ ((!decide (x < nI 1) && !decide (nI m < x)) = false ∧ (x < nI 1 ∨ (¬ x < nI 1 ∧ ¬ x ≤ nI m))) := by
  rcases Int32.lt_or_le x (nI 1) with h | h
  · exact Or.inr ⟨by rw [decide_eq_true h]; rfl, Or.inl h⟩
  · have h1 : ¬ x < nI 1 := fun y => (fa_of_lt y).2.1 h
    rcases Int32.lt_or_le (nI m) x with g | g
    · exact Or.inr ⟨by rw [decide_eq_true g]; simp, Or.inr ⟨h1, (fa_of_lt g).2.1⟩⟩
    · have g1 : ¬ nI m < x := fun y => (fa_of_lt y).2.1 g
      rw [fa_le, nI_toInt (by decide)] at h
      rw [fa_le, nI_toInt (by omega)] at g
      obtain ⟨j, hj, e⟩ := nI_of (x := x) (fun y => by rw [fa_lt] at y; have : (0 : Int32).toInt = 0 := rfl; omega)
      have e3 : x.toInt = (j : Int) := by rw [e]; exact nI_toInt hj
      refine Or.inl ⟨j, by omega, by omega, e, h1, ?_, by rw [decide_eq_false h1, decide_eq_false g1]; rfl⟩
      rw [fa_le, nI_toInt (by omega)]
      omega
theorem rg0 (x : Int32) {m : Nat} (hm : m < 2 ^ 30) : (∃ j, j ≤ m ∧ x = nI j ∧ ¬ x < 0 ∧ x ≤ nI m ∧ (!decide (x < 0) && !decide (nI m < x)) = true) ∨ ((!decide (x < 0) && !decide (nI m < x)) = false ∧ (x < 0 ∨ (¬ x < 0 ∧ ¬ x ≤ nI m))) := by
  rcases Int32.lt_or_le x 0 with h | h
  · exact Or.inr ⟨by rw [decide_eq_true h]; rfl, Or.inl h⟩
  · have h1 : ¬ x < 0 := fun y => (fa_of_lt y).2.1 h
    rcases Int32.lt_or_le (nI m) x with g | g
    · exact Or.inr ⟨by rw [decide_eq_true g]; simp, Or.inr ⟨h1, (fa_of_lt g).2.1⟩⟩
    · have g1 : ¬ nI m < x := fun y => (fa_of_lt y).2.1 g
      obtain ⟨j, hj, e⟩ := nI_of h1
      have g2 := g
      rw [fa_le, nI_toInt (by omega)] at g2
      have e3 : x.toInt = (j : Int) := by rw [e]; exact nI_toInt hj
      exact Or.inl ⟨j, by omega, e, h1, g, by rw [decide_eq_false h1, decide_eq_false g1]; rfl⟩
theorem e7_goneT {G : rf_Mem} {n : Nat} {a : Int32} (hn : G 1 1332 = nI n) (hn2 : n ≤ 40) : True := trivial
set_option maxRecDepth 20000 in
set_option maxHeartbeats 2000000 in
theorem op_run {x : Int32} : OpOk mX6_run mX7_run [.int x] := by
  intro C G hR
  have hR0 := hR
  obtain ⟨nl, nr, tm, n, d, nq, tl, nd, b0, b1, kt, hp⟩ := hR
  obtain ⟨hS, hE, hQ, hT, hDr, hI, hkt, hkt3⟩ := id hp
  have hL := hS.1
  obtain ⟨l1, m1, l3, r1, m2, l6, le, lw, lr⟩ := id hL
  obtain ⟨hP, ⟨d1, d2, d3⟩, ⟨s1, s2⟩, hH⟩ := id hS.2.1
  obtain ⟨p1, p2, p3, p4, p5⟩ := id hP
  rw [Nat.zero_add] at p2 d2 s1
  obtain ⟨-, -, k, k', q1, q2, q3, q4, q5⟩ := id hS
  obtain ⟨ke, kl⟩ := q5 rfl
  subst ke
  obtain ⟨-, -, -, kl4⟩ := id kl
  rw [Nat.zero_add] at q3
  rcases rg1 x (m := 100) (by decide) with ⟨N, hN1, hN, e, c1, c2, hck⟩ | ⟨hck, c1 | ⟨c1, c2⟩⟩
  · subst e
    rcases Nat.eq_zero_or_pos n with hn0 | hn0
    · refine ⟨(-1000000003), C, G, ?_, ?_, hR0⟩
      · refine ev_iload_n dX6_run_0 rfl ?_
        refine ev_iconst (v := (nI 1)) dX6_run_1 (by decide) ?_
        refine ev_icmp_lt 11 dX6_run_2 (by decide) (fun hc2 => False.elim (c1 hc2)) (fun hc2 => ?_)
        refine ev_iload_n dX6_run_5 rfl ?_
        refine ev_bipush (v := (nI 100)) dX6_run_6 (by decide) ?_
        refine ev_icmp_le 14 dX6_run_8 (by decide) (fun hc8 => ?_) (fun hc8 => False.elim (hc8 c2))
        refine ev_aload_n dX6_run_14 rfl ?_
        refine ev_getR dX6_run_15 fX6_31 (by first | assumption | rfl) (by rfl) ?_
        refine ev_getI dX6_run_18 fX6_103 (by first | assumption | rfl) (by rfl) ?_
        refine ev_if_ne 27 dX6_run_21 (by decide) (fun hc21 => False.elim (hc21 (by rw [p1, hn0]; rfl))) (fun hc21 => ?_)
        refine ev_ldc (v := (-1000000003)) dX6_run_24 nX6_194 ?_
        exact ev_iretE dX6_run_26 rfl rfl (by first | rfl | simp_all) (rfl)
      · refine ev_iload_n dX7_run_0 rfl ?_
        refine ev_i2l dX7_run_1 ?_
        refine ev_lconst (v := 1) dX7_run_2 rfl ?_
        refine ev_ldc2 dX7_run_3 nX7_212 ?_
        refine ev_cS3 dX7_run_6 ceX7_in kX7_59 (rm_le rfl rfl) (Nat.le_of_ble_eq_true rfl) (Nat.le_of_ble_eq_true rfl) (e7_in) ?_
        rw [in_c _ (nI 1) (nI 100) (by decide) (by decide), hck]
        refine ev_if_ne 15 dX7_run_9 (by decide) (fun hc9 => ?_) (fun hc9 => False.elim (absurd hc9 (by decide)))
        refine ev_aload_n dX7_run_15 rfl ?_
        refine ev_getR dX7_run_16 fX7_7 (by first | assumption | rfl) (by rfl) ?_
        refine ev_sipush (v := (nI 1332)) dX7_run_19 (by decide) ?_
        refine ev_ialdE _ dX7_run_22 (by first | with_reducible rfl | with_reducible exact nI_add _ _ | with_reducible exact ix3 _ _ _ | with_reducible exact ix_k _ _ _ | with_reducible exact ix_xk _ _ _ _) (by first | assumption | rfl) ⟨by omega, by decide⟩ ?_
        refine ev_if_ne 29 dX7_run_23 (by decide) (fun hc23 => False.elim (hc23 (by rw [p2, hn0]; rfl))) (fun hc23 => ?_)
        refine ev_ldc (v := (-1000000003)) dX7_run_26 nX7_187 ?_
        exact ev_iretE dX7_run_28 rfl rfl (by first | rfl | simp_all) (rfl)
    · obtain ⟨C2, G2, d2', eC, eG, hS2, f3, f4⟩ := sim_live (N := N) st_21 (show 0 ≤ 4500 by decide) hn0 (by omega) hS
      have w1 : C2 21 9 = nI n := hS2.2.1.1.1
      have w2 : G2 1 1332 = nI n := by have := hS2.2.1.1.2.1; rw [Nat.zero_add] at this; exact this
      have w3 : ∀ p, p < n → (!decide (C2 (21 + 3) p < nI 9)) = decide (G2 1 (80 + p) = nI 9) := fun p hp => by
        obtain ⟨⟨-, -, b3, -⟩, -, ⟨s, hs, hs2⟩, -⟩ := hS2.2.1.1.2.2.2.2 p hp
        simp only [Nat.zero_add] at b3
        rw [← b3, hs2]
        rcases Nat.lt_or_ge s 9 with z | z
        · rw [decide_eq_true (nI_lt z (by decide)), decide_eq_false (fun y => by have := (nI_eq (by omega) (by decide)).mp y; omega)]; rfl
        · have z9 : s = 9 := by omega
          rw [z9]; decide
      refine ⟨(nI (fb_ct (fun p => !decide (C2 (21 + 3) p < nI 9)) n)), C2, G2, ?_, ?_, hp.act hS2 f3 f4⟩
      · refine ev_iload_n dX6_run_0 rfl ?_
        refine ev_iconst (v := (nI 1)) dX6_run_1 (by decide) ?_
        refine ev_icmp_lt 11 dX6_run_2 (by decide) (fun hc2 => False.elim (c1 hc2)) (fun hc2 => ?_)
        refine ev_iload_n dX6_run_5 rfl ?_
        refine ev_bipush (v := (nI 100)) dX6_run_6 (by decide) ?_
        refine ev_icmp_le 14 dX6_run_8 (by decide) (fun hc8 => ?_) (fun hc8 => False.elim (hc8 c2))
        refine ev_aload_n dX6_run_14 rfl ?_
        refine ev_getR dX6_run_15 fX6_31 (by first | assumption | rfl) (by rfl) ?_
        refine ev_getI dX6_run_18 fX6_103 (by first | assumption | rfl) (by rfl) ?_
        refine ev_if_ne 27 dX6_run_21 (by decide) (fun hc21 => ?_) (fun hc21 => False.elim (nI_ne0 hn0 (by omega) (by rw [← p1]; exact hc21)))
        refine ev_aload_n dX6_run_27 rfl ?_
        refine ev_getR dX6_run_28 fX6_31 (by first | assumption | rfl) (by rfl) ?_
        refine ev_iload_n dX6_run_31 rfl ?_
        refine ev_cV1v dX6_run_32 ceX5_liveByDraws kX6_214 (rm_le rfl rfl) (Nat.le_of_ble_eq_true rfl) (Nat.le_of_ble_eq_true rfl) (eC) (by first | assumption | rfl) ?_
        refine ev_aload_n dX6_run_35 rfl ?_
        refine ev_getR dX6_run_36 fX6_31 (by first | assumption | rfl) (by rfl) ?_
        refine ev_cV0 dX6_run_39 ceX5_countGone kX6_217 (rm_le rfl rfl) (Nat.le_of_ble_eq_true rfl) (Nat.le_of_ble_eq_true rfl) (e_countGone st_21 w1 p3) (by first | assumption | rfl) ?_
        exact ev_iretE dX6_run_42 rfl rfl (by first | rfl | simp_all) (rfl)
      · have key := ev_for (Lay := LayM) (y := mX7_run) (pc := 39) (r := some (.int (nI (fb_ct (fun p => !decide (C2 (21 + 3) p < nI 9)) n)))) (M' := G2) n (fun i => [some (.ref 0), some (.int (nI N)), some (.int (nI (fb_ct (fun p => decide (G2 1 (80 + p) = nI 9)) (i)))), some (.int (nI (i)))]) (fun _ => G2) ?hx ?hs
        case hx =>
          refine ev_iload_n dX7_run_39 rfl ?_
          refine ev_aload_n dX7_run_40 rfl ?_
          refine ev_getR dX7_run_41 fX7_7 (by first | assumption | rfl) (by rfl) ?_
          refine ev_sipush (v := (nI 1332)) dX7_run_44 (by decide) ?_
          refine ev_ialdE _ dX7_run_47 (by first | with_reducible rfl | with_reducible exact nI_add _ _ | with_reducible exact ix3 _ _ _ | with_reducible exact ix_k _ _ _ | with_reducible exact ix_xk _ _ _ _) (by first | assumption | rfl) ⟨by omega, by decide⟩ ?_
          refine ev_icmp_ge 82 dX7_run_48 (by decide) (fun hc48 => ?_) (fun hc48 => False.elim (lp_x w2 (by omega) hc48))
          refine ev_iload_n dX7_run_82 rfl ?_
          exact ev_iretE dX7_run_83 rfl rfl (by rw [fb_ct_cong w3]) (rfl)
        case hs =>
          intro i hi ih
          refine ev_iload_n dX7_run_39 rfl ?_
          refine ev_aload_n dX7_run_40 rfl ?_
          refine ev_getR dX7_run_41 fX7_7 (by first | assumption | rfl) (by rfl) ?_
          refine ev_sipush (v := (nI 1332)) dX7_run_44 (by decide) ?_
          refine ev_ialdE _ dX7_run_47 (by first | with_reducible rfl | with_reducible exact nI_add _ _ | with_reducible exact ix3 _ _ _ | with_reducible exact ix_k _ _ _ | with_reducible exact ix_xk _ _ _ _) (by first | assumption | rfl) ⟨by omega, by decide⟩ ?_
          refine ev_icmp_ge 82 dX7_run_48 (by decide) (fun hc48 => False.elim (lp_s w2 (by omega) hi hc48)) (fun hc48 => ?_)
          refine ev_iload_n dX7_run_51 rfl ?_
          refine ev_aload_n dX7_run_52 rfl ?_
          refine ev_getR dX7_run_53 fX7_7 (by first | assumption | rfl) (by rfl) ?_
          refine ev_bipush (v := (nI 80)) dX7_run_56 (by decide) ?_
          refine ev_iload_n dX7_run_58 rfl ?_
          refine ev_iadd dX7_run_59 ?_
          refine ev_ialdE _ dX7_run_60 (by first | with_reducible rfl | with_reducible exact nI_add _ _ | with_reducible exact ix3 _ _ _ | with_reducible exact ix_k _ _ _ | with_reducible exact ix_xk _ _ _ _) (by first | assumption | rfl) ⟨by omega, by decide⟩ ?_
          refine ev_bipush (v := (nI 9)) dX7_run_61 (by decide) ?_
          refine ev_icmp_ne 70 dX7_run_63 (by decide) (fun hc63 => ?_) (fun hc63 => ?_)
          · refine ev_iconst (v := (nI 0)) dX7_run_70 (by decide) ?_
            refine ev_cS1 dX7_run_71 ceX7_one kX7_141 (rm_le rfl rfl) (Nat.le_of_ble_eq_true rfl) (Nat.le_of_ble_eq_true rfl) (e7_one0) ?_
            refine ev_iadd dX7_run_74 ?_
            refine ev_istore_k 2 dX7_run_75 rfl (by decide) rfl ?_
            refine ev_iinc (v := (nI 1)) dX7_run_76 rfl (by decide) (by decide) rfl ?_
            refine ev_goto 39 dX7_run_79 (by decide) ?_
            exact ev_st ih (by simp [nI_add, fb_ct_succ, *]) rfl rfl
          · refine ev_iconst (v := (nI 1)) dX7_run_66 (by decide) ?_
            refine ev_goto 71 dX7_run_67 (by decide) ?_
            refine ev_cS1 dX7_run_71 ceX7_one kX7_141 (rm_le rfl rfl) (Nat.le_of_ble_eq_true rfl) (Nat.le_of_ble_eq_true rfl) (e7_one1) ?_
            refine ev_iadd dX7_run_74 ?_
            refine ev_istore_k 2 dX7_run_75 rfl (by decide) rfl ?_
            refine ev_iinc (v := (nI 1)) dX7_run_76 rfl (by decide) (by decide) rfl ?_
            refine ev_goto 39 dX7_run_79 (by decide) ?_
            exact ev_st ih (by simp [nI_add, fb_ct_succ, *]) rfl rfl
        refine ev_iload_n dX7_run_0 rfl ?_
        refine ev_i2l dX7_run_1 ?_
        refine ev_lconst (v := 1) dX7_run_2 rfl ?_
        refine ev_ldc2 dX7_run_3 nX7_212 ?_
        refine ev_cS3 dX7_run_6 ceX7_in kX7_59 (rm_le rfl rfl) (Nat.le_of_ble_eq_true rfl) (Nat.le_of_ble_eq_true rfl) (e7_in) ?_
        rw [in_c _ (nI 1) (nI 100) (by decide) (by decide), hck]
        refine ev_if_ne 15 dX7_run_9 (by decide) (fun hc9 => ?_) (fun hc9 => False.elim (absurd hc9 (by decide)))
        refine ev_aload_n dX7_run_15 rfl ?_
        refine ev_getR dX7_run_16 fX7_7 (by first | assumption | rfl) (by rfl) ?_
        refine ev_sipush (v := (nI 1332)) dX7_run_19 (by decide) ?_
        refine ev_ialdE _ dX7_run_22 (by first | with_reducible rfl | with_reducible exact nI_add _ _ | with_reducible exact ix3 _ _ _ | with_reducible exact ix_k _ _ _ | with_reducible exact ix_xk _ _ _ _) (by first | assumption | rfl) ⟨by omega, by decide⟩ ?_
        refine ev_if_ne 29 dX7_run_23 (by decide) (fun hc23 => ?_) (fun hc23 => False.elim (nI_ne0 hn0 (by omega) (by rw [← p2]; exact hc23)))
        refine ev_aload_n dX7_run_29 rfl ?_
        refine ev_iconst (v := (nI 0)) dX7_run_30 (by decide) ?_
        refine ev_iload_n dX7_run_31 rfl ?_
        refine ev_cV2v dX7_run_32 ceX7_runDays kX7_214 (rm_le rfl rfl) (Nat.le_of_ble_eq_true rfl) (Nat.le_of_ble_eq_true rfl) (eG) (by first | assumption | rfl) ?_
        refine ev_iconst (v := (nI 0)) dX7_run_35 (by decide) ?_
        refine ev_istore_k 2 dX7_run_36 rfl (by decide) rfl ?_
        refine ev_iconst (v := (nI 0)) dX7_run_37 (by decide) ?_
        refine ev_istore_k 3 dX7_run_38 rfl (by decide) rfl ?_
        exact ev_st (key 0 (Nat.zero_le _)) rfl rfl rfl
  · refine ⟨(-1000000002), C, G, ?_, ?_, hR0⟩
    · refine ev_iload_n dX6_run_0 rfl ?_
      refine ev_iconst (v := (nI 1)) dX6_run_1 (by decide) ?_
      refine ev_icmp_lt 11 dX6_run_2 (by decide) (fun hc2 => ?_) (fun hc2 => False.elim (hc2 c1))
      refine ev_ldc (v := (-1000000002)) dX6_run_11 nX6_70 ?_
      exact ev_iretE dX6_run_13 rfl rfl (by first | rfl | simp_all) (rfl)
    · refine ev_iload_n dX7_run_0 rfl ?_
      refine ev_i2l dX7_run_1 ?_
      refine ev_lconst (v := 1) dX7_run_2 rfl ?_
      refine ev_ldc2 dX7_run_3 nX7_212 ?_
      refine ev_cS3 dX7_run_6 ceX7_in kX7_59 (rm_le rfl rfl) (Nat.le_of_ble_eq_true rfl) (Nat.le_of_ble_eq_true rfl) (e7_in) ?_
      rw [in_c _ (nI 1) (nI 100) (by decide) (by decide), hck]
      refine ev_if_ne 15 dX7_run_9 (by decide) (fun hc9 => False.elim (absurd hc9 (by decide))) (fun hc9 => ?_)
      refine ev_ldc (v := (-1000000002)) dX7_run_12 nX7_63 ?_
      exact ev_iretE dX7_run_14 rfl rfl (by first | rfl | simp_all) (rfl)
  · refine ⟨(-1000000002), C, G, ?_, ?_, hR0⟩
    · refine ev_iload_n dX6_run_0 rfl ?_
      refine ev_iconst (v := (nI 1)) dX6_run_1 (by decide) ?_
      refine ev_icmp_lt 11 dX6_run_2 (by decide) (fun hc2 => False.elim (c1 hc2)) (fun hc2 => ?_)
      refine ev_iload_n dX6_run_5 rfl ?_
      refine ev_bipush (v := (nI 100)) dX6_run_6 (by decide) ?_
      refine ev_icmp_le 14 dX6_run_8 (by decide) (fun hc8 => False.elim (c2 hc8)) (fun hc8 => ?_)
      refine ev_ldc (v := (-1000000002)) dX6_run_11 nX6_70 ?_
      exact ev_iretE dX6_run_13 rfl rfl (by first | rfl | simp_all) (rfl)
    · refine ev_iload_n dX7_run_0 rfl ?_
      refine ev_i2l dX7_run_1 ?_
      refine ev_lconst (v := 1) dX7_run_2 rfl ?_
      refine ev_ldc2 dX7_run_3 nX7_212 ?_
      refine ev_cS3 dX7_run_6 ceX7_in kX7_59 (rm_le rfl rfl) (Nat.le_of_ble_eq_true rfl) (Nat.le_of_ble_eq_true rfl) (e7_in) ?_
      rw [in_c _ (nI 1) (nI 100) (by decide) (by decide), hck]
      refine ev_if_ne 15 dX7_run_9 (by decide) (fun hc9 => False.elim (absurd hc9 (by decide))) (fun hc9 => ?_)
      refine ev_ldc (v := (-1000000002)) dX7_run_12 nX7_63 ?_
      exact ev_iretE dX7_run_14 rfl rfl (by first | rfl | simp_all) (rfl)
