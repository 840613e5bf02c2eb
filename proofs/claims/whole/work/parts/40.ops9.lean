/-! ops: judge, claim -/
theorem kp_day {C : rf_Mem} {n nr e j l : Nat} (h1 : C 21 10 + dA (C 21 10) (nI j) = nI e) (he : e ≤ 9999) : kpB (rf_set C 21 10 (nI e)) 21 n nr (nI 0) l = kpB C 21 n nr (nI j) l := by
  have e0 : nI e + dA (nI e) (nI 0) = nI e := by
    rw [dA_nI he (by decide)]
    have z : (if 9999 - e < 0 then 9999 - e else 0) = 0 := by split <;> omega
    rw [z, nI_add, Nat.add_zero]
  unfold kpB knC
  rw [gs_same, e0, h1, gs_q _ _ _ (by decide), gs_q _ _ _ (by decide), gs_q _ _ _ (by decide), gs_q _ _ _ (by decide), gs_q _ _ _ (by decide), gs_q _ _ _ (by decide)]
def eD (d j : Nat) : Nat := if 9999 - d < j then 9999 else d + j
theorem eD_s {d j : Nat} (hd : d ≤ 9999) : up9 (eD d j) = eD d (j + 1) := by
  unfold up9 eD
  split <;> split <;> split <;> omega
theorem eD_v {d j : Nat} (hd : d ≤ 9999) (hj : j < 2 ^ 30) : nI d + dA (nI d) (nI j) = nI (eD d j) := by
  rcases up9_n (N := j) hd with h | h
  · exact h
  · omega
def jdP (C : rf_Mem) (n nr nl j : Nat) : Bool := !decide (C 19 j = nI (fb_ct (kpB C 21 n nr (nI j)) nl))
set_option maxRecDepth 20000 in
set_option maxHeartbeats 2000000 in
theorem sim_judge {n d nl nr nd : Nat} {tm : Nat → Nat} {C : rf_Mem} (d1 : C 21 10 = nI d) (d3 : d ≤ 9999) (hnd : nd ≤ 60) : ∀ (m j : Nat) (G : rf_Mem), nd - j = m → j ≤ nd → Sim false 21 1500 n (eD d j) nl nr tm (rf_set C 21 10 (nI (eD d j))) G → G 0 24 = nI nd → (∀ i, i < nd → G 13 i = C 19 i) → (∀ i, i < j → jdP C n nr nl i = false) → ∃ G', Ev LayM mX7_judge 10 [some (.ref 0), some (.int (nI (j)))] [] G (some (.int (fFst (jdP C n nr nl) nd))) G' ∧ FrG 1500 G G' := by
  intro m
  induction m with
  | zero =>
    intro j G hm hj h h24 h13 hI2
    have e1 : j = nd := by omega
    subst e1
    refine ⟨G, ?_, FrG.rf 1500 G⟩
    refine ev_iload_n dX7_judge_10 rfl ?_
    refine ev_aload_n dX7_judge_11 rfl ?_
    refine ev_getI dX7_judge_12 fX7_134 (by first | assumption | rfl) (by rfl) ?_
    refine ev_icmp_ge 49 dX7_judge_15 (by decide) (fun hc15 => ?_) (fun hc15 => False.elim (lp_x h24 (by omega) hc15))
    refine ev_iconst (v := (-1)) dX7_judge_49 (by decide) ?_
    exact ev_iretE dX7_judge_50 rfl rfl (by rw [fFst_none hI2]) (rfl)
  | succ m ih =>
    intro j G hm hj h h24 h13 hI2
    have hL := h.1
    have w1 : G 1 (1500 + 1332) = nI n := h.2.1.1.2.1
    have w2 : n ≤ 40 := h.2.1.1.2.2.1
    have w3 : eD d j ≤ 9999 := h.2.1.2.1.2.2
    have kp : fb_ct (kpM G 1500 n nr) nl = fb_ct (kpB C 21 n nr (nI j)) nl := fb_ct_cong (fun l hl => (kp_same h hl).trans (kp_day (by rw [d1]; exact eD_v d3 (by omega)) w3))
    have v1 := h13 j (by omega)
    cases hb9 : jdP C n nr nl j with
    | true =>
      have v2 : ¬ C 19 j = nI (fb_ct (kpB C 21 n nr (nI j)) nl) := fun z => by rw [jdP, decide_eq_true z] at hb9; cases hb9
      refine ⟨G, ?_, FrG.rf 1500 G⟩
      refine ev_iload_n dX7_judge_10 rfl ?_
      refine ev_aload_n dX7_judge_11 rfl ?_
      refine ev_getI dX7_judge_12 fX7_134 (by first | assumption | rfl) (by rfl) ?_
      refine ev_icmp_ge 49 dX7_judge_15 (by decide) (fun hc15 => False.elim (lp_s h24 (by omega) (show j < nd by omega) hc15)) (fun hc15 => ?_)
      refine ev_aload_n dX7_judge_18 rfl ?_
      refine ev_sipush (v := (nI 1500)) dX7_judge_19 (by decide) ?_
      refine ev_cV1 dX7_judge_22 ceX7_keptMany kX7_145 (rm_le rfl rfl) (Nat.le_of_ble_eq_true rfl) (Nat.le_of_ble_eq_true rfl) (e7_keptMany (x := 1500) (by decide) w1 w2 hL.2.2.2.2.1 hL.2.2.2.2.2.1 hL.2.1 hL.2.2.1) (by first | assumption | rfl) ?_
      rw [kp]
      refine ev_aload_n dX7_judge_25 rfl ?_
      refine ev_getR dX7_judge_26 fX7_54 (by first | assumption | rfl) (by rfl) ?_
      refine ev_iload_n dX7_judge_29 rfl ?_
      refine ev_ialdE _ dX7_judge_30 (by first | with_reducible rfl | with_reducible exact nI_add _ _ | with_reducible exact ix3 _ _ _ | with_reducible exact ix_k _ _ _ | with_reducible exact ix_xk _ _ _ _) (by first | assumption | rfl) ⟨by omega, by decide⟩ ?_
      refine ev_icmp_eq 36 dX7_judge_31 (by decide) (fun hc31 => False.elim (v2 (by rw [← v1]; exact hc31.symm))) (fun hc31 => ?_)
      refine ev_iload_n dX7_judge_34 rfl ?_
      exact ev_iretE dX7_judge_35 rfl rfl (by rw [fFst_hit (show j < nd by omega) hI2 hb9]) (rfl)
    | false =>
      have v2 : C 19 j = nI (fb_ct (kpB C 21 n nr (nI j)) nl) := by
        by_cases z : C 19 j = nI (fb_ct (kpB C 21 n nr (nI j)) nl)
        · exact z
        · rw [jdP, decide_eq_false z] at hb9; cases hb9
      obtain ⟨h1, f1⟩ := dusks (by decide) h
      rw [eD_s d3] at h1
      obtain ⟨G2, u1, f2⟩ := ih (j + 1) _ (by omega) (by omega) h1 (by rw [f1.1 0 (by decide)]; exact h24) (fun i hi => by rw [f1.1 13 (by decide)]; exact h13 i hi) (no_s hI2 hb9)
      refine ⟨G2, ?_, f1.tr f2⟩
      refine ev_iload_n dX7_judge_10 rfl ?_
      refine ev_aload_n dX7_judge_11 rfl ?_
      refine ev_getI dX7_judge_12 fX7_134 (by first | assumption | rfl) (by rfl) ?_
      refine ev_icmp_ge 49 dX7_judge_15 (by decide) (fun hc15 => False.elim (lp_s h24 (by omega) (show j < nd by omega) hc15)) (fun hc15 => ?_)
      refine ev_aload_n dX7_judge_18 rfl ?_
      refine ev_sipush (v := (nI 1500)) dX7_judge_19 (by decide) ?_
      refine ev_cV1 dX7_judge_22 ceX7_keptMany kX7_145 (rm_le rfl rfl) (Nat.le_of_ble_eq_true rfl) (Nat.le_of_ble_eq_true rfl) (e7_keptMany (x := 1500) (by decide) w1 w2 hL.2.2.2.2.1 hL.2.2.2.2.2.1 hL.2.1 hL.2.2.1) (by first | assumption | rfl) ?_
      rw [kp]
      refine ev_aload_n dX7_judge_25 rfl ?_
      refine ev_getR dX7_judge_26 fX7_54 (by first | assumption | rfl) (by rfl) ?_
      refine ev_iload_n dX7_judge_29 rfl ?_
      refine ev_ialdE _ dX7_judge_30 (by first | with_reducible rfl | with_reducible exact nI_add _ _ | with_reducible exact ix3 _ _ _ | with_reducible exact ix_k _ _ _ | with_reducible exact ix_xk _ _ _ _) (by first | assumption | rfl) ⟨by omega, by decide⟩ ?_
      refine ev_icmp_eq 36 dX7_judge_31 (by decide) (fun hc31 => ?_) (fun hc31 => False.elim (hc31 (by rw [v1]; exact v2.symm)))
      refine ev_aload_n dX7_judge_36 rfl ?_
      refine ev_sipush (v := (nI 1500)) dX7_judge_37 (by decide) ?_
      refine ev_cV1v dX7_judge_40 ceX7_darken kX7_208 (rm_le rfl rfl) (Nat.le_of_ble_eq_true rfl) (Nat.le_of_ble_eq_true rfl) (e7_darken (x := 1500) (by decide) hL.2.2.2.2.1 hL.2.2.2.2.2.1 hL.2.1 hL.2.2.1) (by first | assumption | rfl) ?_
      refine ev_iinc (v := (nI 1)) dX7_judge_43 rfl (by decide) (by decide) rfl ?_
      refine ev_goto 10 dX7_judge_46 (by decide) ?_
      exact ev_st u1 (by simp [nI_add]) rfl rfl
set_option maxRecDepth 20000 in
set_option maxHeartbeats 2000000 in
theorem op_judge  : OpOk mX6_judge mX7_judge [] := by
  intro C G hR
  have hR0 := hR
  obtain ⟨nl, nr, tm, n, d, nq, tl, nd, b0, b1, kt, hp⟩ := hR
  obtain ⟨hS, hE, hQ, hT, hDr, hI, hkt, hkt3⟩ := id hp
  have hL := hS.1
  obtain ⟨l1, m1, l3, r1, m2, l6, le, lw, lr⟩ := id hL
  obtain ⟨hP, ⟨d1, d2, d3⟩, ⟨s1, s2⟩, hH⟩ := id hS.2.1
  obtain ⟨p1, p2, p3, p4, p5⟩ := id hP
  rw [Nat.zero_add] at p2 d2 s1
  obtain ⟨-, -, k, k', q1, q2, q3, q4, q5⟩ := id hS
  obtain ⟨ke, kl⟩ := q5 rfl
  subst ke
  obtain ⟨-, -, -, kl4⟩ := id kl
  rw [Nat.zero_add] at q3
  obtain ⟨n1, n2, n3, n4⟩ := id hDr
  obtain ⟨w1, w2, w3⟩ := cpW_v (G := G) (x := 0) (y := 1500)
  have e0 : eD d 0 = d := by unfold eD; split <;> omega
  have hLn : Lb nl nr tm C (cpW G 0 1500 1500) := hL.frame (fun a _ => rfl) (fun a ha => w3 a (by omega))
  have hSn : Sim false 21 1500 n (eD d 0) nl nr tm (rf_set C 21 10 (nI (eD d 0))) (cpW G 0 1500 1500) := by
    rw [e0, gs_id C 21 10 d1]
    exact hS.move hLn ⟨rfl, rfl, rfl⟩ (fun _ _ => ⟨rfl, rfl, rfl, rfl⟩) (fun _ _ => ⟨rfl, rfl⟩) false ⟨k', q1, q2⟩ (fun z => by cases z) (fun j hj _ => w1 j hj)
  obtain ⟨G2, u1, f1⟩ := sim_judge d1 d3 n3 nd 0 (cpW G 0 1500 1500) (by omega) (Nat.zero_le _) hSn (by rw [w3 0 (by decide)]; exact n2) (fun i hi => by rw [w3 13 (by decide)]; exact (n4 i hi).1.symm) (fun i hi => absurd hi (Nat.not_lt_zero i))
  refine ⟨fFst (jdP C n nr nl) nd, C, G2, ?_, ?_, hp.trial (fun _ _ _ _ => rfl) ⟨kt, hkt, hkt3⟩ (fun a h1 h2 h3 => (f1.1 a h2).trans (w3 a h2)) (fun j _ => by rw [f1.1 0 (by decide), w3 0 (by decide)]) (fun j hj => (f1.2 j (by omega)).trans (w2 j (by omega)))⟩
  · have key := ev_forI (Lay := LayC) (y := mX6_judge) (pc := 2) (r := some (.int (fFst (jdP C n nr nl) nd))) (M' := C) nd (fun i => ∀ j, j < i → jdP C n nr nl j = false) (fun i => [some (.ref 0), some (.int (nI (i)))]) (fun _ => C) ?hx ?hs
    case hx =>
      intro hI2
      refine ev_iload_n dX6_judge_2 rfl ?_
      refine ev_aload_n dX6_judge_3 rfl ?_
      refine ev_getI dX6_judge_4 fX6_64 (by first | assumption | rfl) (by rfl) ?_
      refine ev_icmp_ge 35 dX6_judge_7 (by decide) (fun hc7 => ?_) (fun hc7 => False.elim (lp_x n1 (by omega) hc7))
      refine ev_iconst (v := (-1)) dX6_judge_35 (by decide) ?_
      exact ev_iretE dX6_judge_36 rfl rfl (by rw [fFst_none hI2]) (rfl)
    case hs =>
      intro i hi hI2 ih
      refine ev_iload_n dX6_judge_2 rfl ?_
      refine ev_aload_n dX6_judge_3 rfl ?_
      refine ev_getI dX6_judge_4 fX6_64 (by first | assumption | rfl) (by rfl) ?_
      refine ev_icmp_ge 35 dX6_judge_7 (by decide) (fun hc7 => False.elim (lp_s n1 (by omega) hi hc7)) (fun hc7 => ?_)
      refine ev_aload_n dX6_judge_10 rfl ?_
      refine ev_getR dX6_judge_11 fX6_60 (by first | assumption | rfl) (by rfl) ?_
      refine ev_iload_n dX6_judge_14 rfl ?_
      refine ev_ialdE _ dX6_judge_15 (rfl) (by first | assumption | rfl) ⟨by omega, by decide⟩ ?_
      refine ev_aload_n dX6_judge_16 rfl ?_
      refine ev_getR dX6_judge_17 fX6_31 (by first | assumption | rfl) (by rfl) ?_
      refine ev_iload_n dX6_judge_20 rfl ?_
      refine ev_cV1 dX6_judge_21 ceX5_countKept kX6_119 (rm_le rfl rfl) (Nat.le_of_ble_eq_true rfl) (Nat.le_of_ble_eq_true rfl) (e_countKept st_21 p1 p3 r1 l6 l1 l3) (by first | assumption | rfl) ?_
      refine ev_icmp_eq 29 dX6_judge_24 (by decide) (fun hc24 => ?_) (fun hc24 => ?_)
      · refine ev_iinc (v := (nI 1)) dX6_judge_29 rfl (by decide) (by decide) rfl ?_
        refine ev_goto 2 dX6_judge_32 (by decide) ?_
        exact ev_st (ih (no_s hI2 (nd_f hc24))) (by simp [nI_add]) rfl rfl
      · refine ev_iload_n dX6_judge_27 rfl ?_
        exact ev_iretE dX6_judge_28 rfl rfl (by rw [fFst_hit hi hI2 (nd_t hc24)]) (rfl)
    refine ev_iconst (v := (nI 0)) dX6_judge_0 (by decide) ?_
    refine ev_istore_k 1 dX6_judge_1 rfl (by decide) rfl ?_
    exact ev_st (key 0 (Nat.zero_le _) (by intro j hj; omega)) rfl rfl rfl
  · refine ev_aload_n dX7_judge_0 rfl ?_
    refine ev_iconst (v := (nI 0)) dX7_judge_1 (by decide) ?_
    refine ev_sipush (v := (nI 1500)) dX7_judge_2 (by decide) ?_
    refine ev_cV2v dX7_judge_5 ceX7_copyRow kX7_229 (rm_le rfl rfl) (Nat.le_of_ble_eq_true rfl) (Nat.le_of_ble_eq_true rfl) (e7_copyRow (x := 0) (y := 1500) (by decide) (by decide) (by decide)) (by first | assumption | rfl) ?_
    refine ev_iconst (v := (nI 0)) dX7_judge_8 (by decide) ?_
    refine ev_istore_k 1 dX7_judge_9 rfl (by decide) rfl ?_
    exact ev_st u1 rfl rfl rfl
set_option maxRecDepth 20000 in
set_option maxHeartbeats 2000000 in
theorem op_claim {l0 v0 y0 : Int32} : OpOk mX6_claim mX7_claim [.int l0, .int v0, .int y0] := by
  intro C G hR
  have hR0 := hR
  obtain ⟨nl, nr, tm, n, d, nq, tl, nd, b0, b1, kt, hp⟩ := hR
  obtain ⟨hS, hE, hQ, hT, hDr, hI, hkt, hkt3⟩ := id hp
  have hL := hS.1
  obtain ⟨l1, m1, l3, r1, m2, l6, le, lw, lr⟩ := id hL
  obtain ⟨hP, ⟨d1, d2, d3⟩, ⟨s1, s2⟩, hH⟩ := id hS.2.1
  obtain ⟨p1, p2, p3, p4, p5⟩ := id hP
  rw [Nat.zero_add] at p2 d2 s1
  obtain ⟨-, -, k, k', q1, q2, q3, q4, q5⟩ := id hS
  obtain ⟨ke, kl⟩ := q5 rfl
  subst ke
  obtain ⟨-, -, -, kl4⟩ := id kl
  rw [Nat.zero_add] at q3
  rcases ck l0 (show nl < 2 ^ 31 by omega) with ⟨l, hl, e, hck⟩ | hck
  · subst e
    rcases rg0 v0 (m := 99) (by decide) with ⟨v, hv, e2, c1, c2, hck2⟩ | ⟨hck2, c1 | ⟨c1, c2⟩⟩
    · subst e2
      rcases rg0 y0 (m := 9999) (by decide) with ⟨y, hy, e3, c3, c4, hck3⟩ | ⟨hck3, c3 | ⟨c3, c4⟩⟩
      · subst e3
        have hlg : ∀ i, i < k' → (C (21 + 10) i = nI (C (21 + 10) i).toNatClampNeg ∧ (C (21 + 10) i).toNatClampNeg < 40) ∧ (C (21 + 11) i = nI (C (21 + 11) i).toNatClampNeg ∧ (C (21 + 11) i).toNatClampNeg < 8) := fun i hi => by
          obtain ⟨-, -, -, ⟨pp, x1, x2⟩, ⟨rr, x3, x4⟩⟩ := kl4 i hi
          rw [x2, x4, nI_clamp (by omega), nI_clamp (by omega)]
          exact ⟨⟨rfl, by omega⟩, ⟨rfl, by omega⟩⟩
        have gp : ∀ i, i < k' → ∃ pp rr, pp < n ∧ rr < nr ∧ G 1 (732 + i) = nI pp ∧ G 1 (1032 + i) = nI rr ∧ cpy C 21 (nI y) (nI l) i = (decide (G 1 (432 + i) = nI y) && decide (G 1 pp = nI l) && decide (G 5 rr = nI 2)) ∧ decide (C (21 + 2) (C (21 + 10) i).toNatClampNeg = 0) = decide (G 1 (40 + pp) = 0) := fun i hi => by
          obtain ⟨x5, x6, x7, ⟨pp, x1, x2⟩, ⟨rr, x3, x4⟩⟩ := kl4 i hi
          simp only [Nat.zero_add] at x5 x6 x7
          obtain ⟨⟨a1, a2, -, -⟩, -⟩ := p5 pp x1
          simp only [Nat.zero_add] at a1 a2
          refine ⟨pp, rr, x1, x3, by rw [← x6]; exact x2, by rw [← x7]; exact x4, ?_, ?_⟩
          · unfold cpy
            rw [x2, x4, nI_clamp (by omega), nI_clamp (by omega), x5, a1, (lr rr x3).1]
          · rw [x2, nI_clamp (by omega), a2]
        refine ⟨b2i (!bAny (cpyV C 21 (nI y) (nI l) (nI v)) k'), C, G, ?_, ?_, hR0⟩
        · refine ev_aload_n dX6_claim_0 rfl ?_
          refine ev_getR dX6_claim_1 fX6_23 (by first | assumption | rfl) (by rfl) ?_
          refine ev_iload_n dX6_claim_4 rfl ?_
          refine ev_cV1 dX6_claim_5 ceX1_hasLine kX6_123 (rm_le rfl rfl) (Nat.le_of_ble_eq_true rfl) (Nat.le_of_ble_eq_true rfl) (e_hasLine) (by first | assumption | rfl) ?_
          rw [l1, hck]
          refine ev_if_ne 14 dX6_claim_8 (by decide) (fun hc8 => ?_) (fun hc8 => False.elim (absurd hc8 (by decide)))
          refine ev_iload_n dX6_claim_14 rfl ?_
          refine ev_if_lt 35 dX6_claim_15 (by decide) (fun hc15 => False.elim (c1 hc15)) (fun hc15 => ?_)
          refine ev_iload_n dX6_claim_18 rfl ?_
          refine ev_bipush (v := (nI 99)) dX6_claim_19 (by decide) ?_
          refine ev_icmp_gt 35 dX6_claim_21 (by decide) (fun hc21 => False.elim (by have := (fa_of_lt hc21).2.1 c2; exact this)) (fun hc21 => ?_)
          refine ev_iload_n dX6_claim_24 rfl ?_
          refine ev_if_lt 35 dX6_claim_25 (by decide) (fun hc25 => False.elim (c3 hc25)) (fun hc25 => ?_)
          refine ev_iload_n dX6_claim_28 rfl ?_
          refine ev_sipush (v := (nI 9999)) dX6_claim_29 (by decide) ?_
          refine ev_icmp_le 38 dX6_claim_32 (by decide) (fun hc32 => ?_) (fun hc32 => False.elim (hc32 c4))
          refine ev_aload_n dX6_claim_38 rfl ?_
          refine ev_getR dX6_claim_39 fX6_31 (by first | assumption | rfl) (by rfl) ?_
          refine ev_iload_n dX6_claim_42 rfl ?_
          refine ev_iload_n dX6_claim_43 rfl ?_
          refine ev_iload_n dX6_claim_44 rfl ?_
          refine ev_cV3 dX6_claim_45 ceX5_canBeCopied kX6_294 (rm_le rfl rfl) (Nat.le_of_ble_eq_true rfl) (Nat.le_of_ble_eq_true rfl) (e_canBeCopied st_21 q1 q2 hlg) (by first | assumption | rfl) ?_
          refine ev_if_eq 55 dX6_claim_48 (by decide) (fun hc48 => ?_) (fun hc48 => ?_)
          · rw [b2i_0] at hc48
            refine ev_iconst (v := (nI 1)) dX6_claim_55 (by decide) ?_
            exact ev_iretE dX6_claim_56 rfl rfl (by rw [hc48]; rfl) (rfl)
          · rw [b2i_n0] at hc48
            refine ev_iconst (v := (nI 0)) dX6_claim_51 (by decide) ?_
            refine ev_goto 56 dX6_claim_52 (by decide) ?_
            exact ev_iretE dX6_claim_56 rfl rfl (by rw [hc48]; rfl) (rfl)
        · have key := ev_for (Lay := LayM) (y := mX7_claim) (pc := 47) (r := some (.int (b2i (!bAny (cpyV C 21 (nI y) (nI l) (nI v)) k')))) (M' := G) k' (fun i => [some (.ref 0), some (.int (nI l)), some (.int (nI v)), some (.int (nI y)), some (.int (b2i (bAny (cpy C 21 (nI y) (nI l)) (i)))), some (.int (b2i (bAny (fun i => cpy C 21 (nI y) (nI l) i && decide (C (21 + 2) (C (21 + 10) i).toNatClampNeg = 0)) (i)))), some (.int (nI (i))), none, none]) (fun _ => G) ?hx ?hs
          case hx =>
            have fin : bAny (cpyV C 21 (nI y) (nI l) (nI v)) k' = (bAny (cpy C 21 (nI y) (nI l)) k' && (!decide (nI v = 0) || bAny (fun i => cpy C 21 (nI y) (nI l) i && decide (C (21 + 2) (C (21 + 10) i).toNatClampNeg = 0)) k')) := by
              by_cases z : nI v = 0
              · rw [decide_eq_true z, Bool.not_true, Bool.false_or]
                have e9 : bAny (cpyV C 21 (nI y) (nI l) (nI v)) k' = bAny (fun i => cpy C 21 (nI y) (nI l) i && decide (C (21 + 2) (C (21 + 10) i).toNatClampNeg = 0)) k' := bAny_cong (fun i _ => by unfold cpyV; rw [decide_eq_true z, Bool.not_true, Bool.false_or])
                rw [e9]
                cases h2 : bAny (fun i => cpy C 21 (nI y) (nI l) i && decide (C (21 + 2) (C (21 + 10) i).toNatClampNeg = 0)) k' with
                | false => rw [Bool.and_false]
                | true =>
                  obtain ⟨i, y1, y2⟩ := bAny_iff.mp h2
                  simp only [Bool.and_eq_true] at y2
                  rw [bAny_of y1 y2.1]; rfl
              · rw [decide_eq_false z, Bool.not_false, Bool.true_or, Bool.and_true]
                exact bAny_cong (fun i _ => by unfold cpyV; rw [decide_eq_false z, Bool.not_false, Bool.true_or, Bool.and_true])
            refine ev_iload dX7_claim_47 rfl ?_
            refine ev_aload_n dX7_claim_49 rfl ?_
            refine ev_getR dX7_claim_50 fX7_7 (by first | assumption | rfl) (by rfl) ?_
            refine ev_sipush (v := (nI 1333)) dX7_claim_53 (by decide) ?_
            refine ev_ialdE _ dX7_claim_56 (by first | with_reducible rfl | with_reducible exact nI_add _ _ | with_reducible exact ix3 _ _ _ | with_reducible exact ix_k _ _ _ | with_reducible exact ix_xk _ _ _ _) (by first | assumption | rfl) ⟨by omega, by decide⟩ ?_
            refine ev_icmp_ge 179 dX7_claim_57 (by decide) (fun hc57 => ?_) (fun hc57 => False.elim (lp_x q3 (by omega) hc57))
            refine ev_iload dX7_claim_179 rfl ?_
            refine ev_if_eq 193 dX7_claim_181 (by decide) (fun hc181 => ?_) (fun hc181 => ?_)
            · rw [b2i_0] at hc181
              refine ev_iconst (v := (nI 1)) dX7_claim_193 (by decide) ?_
              refine ev_goto 198 dX7_claim_194 (by decide) ?_
              refine ev_cS1 dX7_claim_198 ceX7_one kX7_141 (rm_le rfl rfl) (Nat.le_of_ble_eq_true rfl) (Nat.le_of_ble_eq_true rfl) (e7_one1) ?_
              exact ev_iretE dX7_claim_201 rfl rfl (by first | (rw [fin, hc181]; rfl) | (rw [fin, hc181, decide_eq_false hc185]; rfl) | (rw [fin, hc181, decide_eq_true hc185, hc190]; rfl)) (rfl)
            · rw [b2i_n0] at hc181
              refine ev_iload_n dX7_claim_184 rfl ?_
              refine ev_if_ne 197 dX7_claim_185 (by decide) (fun hc185 => ?_) (fun hc185 => ?_)
              · refine ev_iconst (v := (nI 0)) dX7_claim_197 (by decide) ?_
                refine ev_cS1 dX7_claim_198 ceX7_one kX7_141 (rm_le rfl rfl) (Nat.le_of_ble_eq_true rfl) (Nat.le_of_ble_eq_true rfl) (e7_one0) ?_
                exact ev_iretE dX7_claim_201 rfl rfl (by first | (rw [fin, hc181]; rfl) | (rw [fin, hc181, decide_eq_false hc185]; rfl) | (rw [fin, hc181, decide_eq_true hc185, hc190]; rfl)) (rfl)
              · refine ev_iload dX7_claim_188 rfl ?_
                refine ev_if_ne 197 dX7_claim_190 (by decide) (fun hc190 => ?_) (fun hc190 => ?_)
                · rw [b2i_n0] at hc190
                  refine ev_iconst (v := (nI 0)) dX7_claim_197 (by decide) ?_
                  refine ev_cS1 dX7_claim_198 ceX7_one kX7_141 (rm_le rfl rfl) (Nat.le_of_ble_eq_true rfl) (Nat.le_of_ble_eq_true rfl) (e7_one0) ?_
                  exact ev_iretE dX7_claim_201 rfl rfl (by first | (rw [fin, hc181]; rfl) | (rw [fin, hc181, decide_eq_false hc185]; rfl) | (rw [fin, hc181, decide_eq_true hc185, hc190]; rfl)) (rfl)
                · rw [b2i_0] at hc190
                  refine ev_iconst (v := (nI 1)) dX7_claim_193 (by decide) ?_
                  refine ev_goto 198 dX7_claim_194 (by decide) ?_
                  refine ev_cS1 dX7_claim_198 ceX7_one kX7_141 (rm_le rfl rfl) (Nat.le_of_ble_eq_true rfl) (Nat.le_of_ble_eq_true rfl) (e7_one1) ?_
                  exact ev_iretE dX7_claim_201 rfl rfl (by first | (rw [fin, hc181]; rfl) | (rw [fin, hc181, decide_eq_false hc185]; rfl) | (rw [fin, hc181, decide_eq_true hc185, hc190]; rfl)) (rfl)
          case hs =>
            intro i hi ih
            obtain ⟨pp, rr, x1, x2, x3, x4, x5, x6⟩ := gp i hi
            refine ev_iload dX7_claim_47 rfl ?_
            refine ev_aload_n dX7_claim_49 rfl ?_
            refine ev_getR dX7_claim_50 fX7_7 (by first | assumption | rfl) (by rfl) ?_
            refine ev_sipush (v := (nI 1333)) dX7_claim_53 (by decide) ?_
            refine ev_ialdE _ dX7_claim_56 (by first | with_reducible rfl | with_reducible exact nI_add _ _ | with_reducible exact ix3 _ _ _ | with_reducible exact ix_k _ _ _ | with_reducible exact ix_xk _ _ _ _) (by first | assumption | rfl) ⟨by omega, by decide⟩ ?_
            refine ev_icmp_ge 179 dX7_claim_57 (by decide) (fun hc57 => False.elim (lp_s q3 (by omega) hi hc57)) (fun hc57 => ?_)
            refine ev_aload_n dX7_claim_60 rfl ?_
            refine ev_getR dX7_claim_61 fX7_7 (by first | assumption | rfl) (by rfl) ?_
            refine ev_sipush (v := (nI 732)) dX7_claim_64 (by decide) ?_
            refine ev_iload dX7_claim_67 rfl ?_
            refine ev_iadd dX7_claim_69 ?_
            refine ev_ialdE _ dX7_claim_70 (by first | with_reducible rfl | with_reducible exact nI_add _ _ | with_reducible exact ix3 _ _ _ | with_reducible exact ix_k _ _ _ | with_reducible exact ix_xk _ _ _ _) (by first | assumption | rfl) ⟨by omega, by decide⟩ ?_
            refine ev_istore dX7_claim_71 (by decide) rfl ?_
            refine ev_aload_n dX7_claim_73 rfl ?_
            refine ev_getR dX7_claim_74 fX7_7 (by first | assumption | rfl) (by rfl) ?_
            refine ev_sipush (v := (nI 432)) dX7_claim_77 (by decide) ?_
            refine ev_iload dX7_claim_80 rfl ?_
            refine ev_iadd dX7_claim_82 ?_
            refine ev_ialdE _ dX7_claim_83 (by first | with_reducible rfl | with_reducible exact nI_add _ _ | with_reducible exact ix3 _ _ _ | with_reducible exact ix_k _ _ _ | with_reducible exact ix_xk _ _ _ _) (by first | assumption | rfl) ⟨by omega, by decide⟩ ?_
            refine ev_iload_n dX7_claim_84 rfl ?_
            refine ev_icmp_ne 123 dX7_claim_85 (by decide) (fun hc85 => ?_) (fun hc85 => ?_)
            · refine ev_iconst (v := (nI 0)) dX7_claim_123 (by decide) ?_
              refine ev_istore dX7_claim_124 (by decide) rfl ?_
              refine ev_iload dX7_claim_126 rfl ?_
              refine ev_if_ne 136 dX7_claim_128 (by decide) (fun hc128 => ?_) (fun hc128 => ?_)
              · rw [b2i_n0] at hc128
                refine ev_iconst (v := (nI 1)) dX7_claim_136 (by decide) ?_
                refine ev_goto 141 dX7_claim_137 (by decide) ?_
                refine ev_istore dX7_claim_141 (by decide) rfl ?_
                refine ev_iload dX7_claim_143 rfl ?_
                refine ev_if_ne 166 dX7_claim_145 (by decide) (fun hc145 => ?_) (fun hc145 => ?_)
                · rw [b2i_n0] at hc145
                  refine ev_iconst (v := (nI 1)) dX7_claim_166 (by decide) ?_
                  refine ev_goto 171 dX7_claim_167 (by decide) ?_
                  refine ev_istore dX7_claim_171 (by decide) rfl ?_
                  refine ev_iinc (v := (nI 1)) dX7_claim_173 rfl (by decide) (by decide) rfl ?_
                  refine ev_goto 47 dX7_claim_176 (by decide) ?_
                  exact ev_stw ih (by simp only [rf_sub, bAny, x5, x6]; clear ih gp hlg; simp [rf_sub, nI_add, b2i, *]) rfl rfl
                · rw [b2i_0] at hc145
                  refine ev_iload dX7_claim_148 rfl ?_
                  refine ev_if_eq 170 dX7_claim_150 (by decide) (fun _ => ?_) (fun hc150 => False.elim (absurd hc150 (by decide)))
                  refine ev_iconst (v := (nI 0)) dX7_claim_170 (by decide) ?_
                  refine ev_istore dX7_claim_171 (by decide) rfl ?_
                  refine ev_iinc (v := (nI 1)) dX7_claim_173 rfl (by decide) (by decide) rfl ?_
                  refine ev_goto 47 dX7_claim_176 (by decide) ?_
                  exact ev_stw ih (by simp only [rf_sub, bAny, x5, x6]; clear ih gp hlg; simp [rf_sub, nI_add, b2i, *]) rfl rfl
              · rw [b2i_0] at hc128
                refine ev_iload dX7_claim_131 rfl ?_
                refine ev_if_eq 140 dX7_claim_133 (by decide) (fun _ => ?_) (fun hc133 => False.elim (absurd hc133 (by decide)))
                refine ev_iconst (v := (nI 0)) dX7_claim_140 (by decide) ?_
                refine ev_istore dX7_claim_141 (by decide) rfl ?_
                refine ev_iload dX7_claim_143 rfl ?_
                refine ev_if_ne 166 dX7_claim_145 (by decide) (fun hc145 => ?_) (fun hc145 => ?_)
                · rw [b2i_n0] at hc145
                  refine ev_iconst (v := (nI 1)) dX7_claim_166 (by decide) ?_
                  refine ev_goto 171 dX7_claim_167 (by decide) ?_
                  refine ev_istore dX7_claim_171 (by decide) rfl ?_
                  refine ev_iinc (v := (nI 1)) dX7_claim_173 rfl (by decide) (by decide) rfl ?_
                  refine ev_goto 47 dX7_claim_176 (by decide) ?_
                  exact ev_stw ih (by simp only [rf_sub, bAny, x5, x6]; clear ih gp hlg; simp [rf_sub, nI_add, b2i, *]) rfl rfl
                · rw [b2i_0] at hc145
                  refine ev_iload dX7_claim_148 rfl ?_
                  refine ev_if_eq 170 dX7_claim_150 (by decide) (fun _ => ?_) (fun hc150 => False.elim (absurd hc150 (by decide)))
                  refine ev_iconst (v := (nI 0)) dX7_claim_170 (by decide) ?_
                  refine ev_istore dX7_claim_171 (by decide) rfl ?_
                  refine ev_iinc (v := (nI 1)) dX7_claim_173 rfl (by decide) (by decide) rfl ?_
                  refine ev_goto 47 dX7_claim_176 (by decide) ?_
                  exact ev_stw ih (by simp only [rf_sub, bAny, x5, x6]; clear ih gp hlg; simp [rf_sub, nI_add, b2i, *]) rfl rfl
            · refine ev_aload_n dX7_claim_88 rfl ?_
              refine ev_getR dX7_claim_89 fX7_7 (by first | assumption | rfl) (by rfl) ?_
              refine ev_iload dX7_claim_92 rfl ?_
              refine ev_ialdE (pp) dX7_claim_94 (x3) (by first | assumption | rfl) ⟨by omega, by decide⟩ ?_
              refine ev_iload_n dX7_claim_95 rfl ?_
              refine ev_icmp_ne 123 dX7_claim_96 (by decide) (fun hc96 => ?_) (fun hc96 => ?_)
              · refine ev_iconst (v := (nI 0)) dX7_claim_123 (by decide) ?_
                refine ev_istore dX7_claim_124 (by decide) rfl ?_
                refine ev_iload dX7_claim_126 rfl ?_
                refine ev_if_ne 136 dX7_claim_128 (by decide) (fun hc128 => ?_) (fun hc128 => ?_)
                · rw [b2i_n0] at hc128
                  refine ev_iconst (v := (nI 1)) dX7_claim_136 (by decide) ?_
                  refine ev_goto 141 dX7_claim_137 (by decide) ?_
                  refine ev_istore dX7_claim_141 (by decide) rfl ?_
                  refine ev_iload dX7_claim_143 rfl ?_
                  refine ev_if_ne 166 dX7_claim_145 (by decide) (fun hc145 => ?_) (fun hc145 => ?_)
                  · rw [b2i_n0] at hc145
                    refine ev_iconst (v := (nI 1)) dX7_claim_166 (by decide) ?_
                    refine ev_goto 171 dX7_claim_167 (by decide) ?_
                    refine ev_istore dX7_claim_171 (by decide) rfl ?_
                    refine ev_iinc (v := (nI 1)) dX7_claim_173 rfl (by decide) (by decide) rfl ?_
                    refine ev_goto 47 dX7_claim_176 (by decide) ?_
                    exact ev_stw ih (by simp only [rf_sub, bAny, x5, x6]; clear ih gp hlg; simp [rf_sub, nI_add, b2i, *]) rfl rfl
                  · rw [b2i_0] at hc145
                    refine ev_iload dX7_claim_148 rfl ?_
                    refine ev_if_eq 170 dX7_claim_150 (by decide) (fun _ => ?_) (fun hc150 => False.elim (absurd hc150 (by decide)))
                    refine ev_iconst (v := (nI 0)) dX7_claim_170 (by decide) ?_
                    refine ev_istore dX7_claim_171 (by decide) rfl ?_
                    refine ev_iinc (v := (nI 1)) dX7_claim_173 rfl (by decide) (by decide) rfl ?_
                    refine ev_goto 47 dX7_claim_176 (by decide) ?_
                    exact ev_stw ih (by simp only [rf_sub, bAny, x5, x6]; clear ih gp hlg; simp [rf_sub, nI_add, b2i, *]) rfl rfl
                · rw [b2i_0] at hc128
                  refine ev_iload dX7_claim_131 rfl ?_
                  refine ev_if_eq 140 dX7_claim_133 (by decide) (fun _ => ?_) (fun hc133 => False.elim (absurd hc133 (by decide)))
                  refine ev_iconst (v := (nI 0)) dX7_claim_140 (by decide) ?_
                  refine ev_istore dX7_claim_141 (by decide) rfl ?_
                  refine ev_iload dX7_claim_143 rfl ?_
                  refine ev_if_ne 166 dX7_claim_145 (by decide) (fun hc145 => ?_) (fun hc145 => ?_)
                  · rw [b2i_n0] at hc145
                    refine ev_iconst (v := (nI 1)) dX7_claim_166 (by decide) ?_
                    refine ev_goto 171 dX7_claim_167 (by decide) ?_
                    refine ev_istore dX7_claim_171 (by decide) rfl ?_
                    refine ev_iinc (v := (nI 1)) dX7_claim_173 rfl (by decide) (by decide) rfl ?_
                    refine ev_goto 47 dX7_claim_176 (by decide) ?_
                    exact ev_stw ih (by simp only [rf_sub, bAny, x5, x6]; clear ih gp hlg; simp [rf_sub, nI_add, b2i, *]) rfl rfl
                  · rw [b2i_0] at hc145
                    refine ev_iload dX7_claim_148 rfl ?_
                    refine ev_if_eq 170 dX7_claim_150 (by decide) (fun _ => ?_) (fun hc150 => False.elim (absurd hc150 (by decide)))
                    refine ev_iconst (v := (nI 0)) dX7_claim_170 (by decide) ?_
                    refine ev_istore dX7_claim_171 (by decide) rfl ?_
                    refine ev_iinc (v := (nI 1)) dX7_claim_173 rfl (by decide) (by decide) rfl ?_
                    refine ev_goto 47 dX7_claim_176 (by decide) ?_
                    exact ev_stw ih (by simp only [rf_sub, bAny, x5, x6]; clear ih gp hlg; simp [rf_sub, nI_add, b2i, *]) rfl rfl
              · refine ev_aload_n dX7_claim_99 rfl ?_
                refine ev_getR dX7_claim_100 fX7_23 (by first | assumption | rfl) (by rfl) ?_
                refine ev_aload_n dX7_claim_103 rfl ?_
                refine ev_getR dX7_claim_104 fX7_7 (by first | assumption | rfl) (by rfl) ?_
                refine ev_sipush (v := (nI 1032)) dX7_claim_107 (by decide) ?_
                refine ev_iload dX7_claim_110 rfl ?_
                refine ev_iadd dX7_claim_112 ?_
                refine ev_ialdE _ dX7_claim_113 (by first | with_reducible rfl | with_reducible exact nI_add _ _ | with_reducible exact ix3 _ _ _ | with_reducible exact ix_k _ _ _ | with_reducible exact ix_xk _ _ _ _) (by first | assumption | rfl) ⟨by omega, by decide⟩ ?_
                refine ev_ialdE (rr) dX7_claim_114 (x4) (by first | assumption | rfl) ⟨by omega, by decide⟩ ?_
                refine ev_iconst (v := (nI 2)) dX7_claim_115 (by decide) ?_
                refine ev_icmp_ne 123 dX7_claim_116 (by decide) (fun hc116 => ?_) (fun hc116 => ?_)
                · refine ev_iconst (v := (nI 0)) dX7_claim_123 (by decide) ?_
                  refine ev_istore dX7_claim_124 (by decide) rfl ?_
                  refine ev_iload dX7_claim_126 rfl ?_
                  refine ev_if_ne 136 dX7_claim_128 (by decide) (fun hc128 => ?_) (fun hc128 => ?_)
                  · rw [b2i_n0] at hc128
                    refine ev_iconst (v := (nI 1)) dX7_claim_136 (by decide) ?_
                    refine ev_goto 141 dX7_claim_137 (by decide) ?_
                    refine ev_istore dX7_claim_141 (by decide) rfl ?_
                    refine ev_iload dX7_claim_143 rfl ?_
                    refine ev_if_ne 166 dX7_claim_145 (by decide) (fun hc145 => ?_) (fun hc145 => ?_)
                    · rw [b2i_n0] at hc145
                      refine ev_iconst (v := (nI 1)) dX7_claim_166 (by decide) ?_
                      refine ev_goto 171 dX7_claim_167 (by decide) ?_
                      refine ev_istore dX7_claim_171 (by decide) rfl ?_
                      refine ev_iinc (v := (nI 1)) dX7_claim_173 rfl (by decide) (by decide) rfl ?_
                      refine ev_goto 47 dX7_claim_176 (by decide) ?_
                      exact ev_stw ih (by simp only [rf_sub, bAny, x5, x6]; clear ih gp hlg; simp [rf_sub, nI_add, b2i, *]) rfl rfl
                    · rw [b2i_0] at hc145
                      refine ev_iload dX7_claim_148 rfl ?_
                      refine ev_if_eq 170 dX7_claim_150 (by decide) (fun _ => ?_) (fun hc150 => False.elim (absurd hc150 (by decide)))
                      refine ev_iconst (v := (nI 0)) dX7_claim_170 (by decide) ?_
                      refine ev_istore dX7_claim_171 (by decide) rfl ?_
                      refine ev_iinc (v := (nI 1)) dX7_claim_173 rfl (by decide) (by decide) rfl ?_
                      refine ev_goto 47 dX7_claim_176 (by decide) ?_
                      exact ev_stw ih (by simp only [rf_sub, bAny, x5, x6]; clear ih gp hlg; simp [rf_sub, nI_add, b2i, *]) rfl rfl
                  · rw [b2i_0] at hc128
                    refine ev_iload dX7_claim_131 rfl ?_
                    refine ev_if_eq 140 dX7_claim_133 (by decide) (fun _ => ?_) (fun hc133 => False.elim (absurd hc133 (by decide)))
                    refine ev_iconst (v := (nI 0)) dX7_claim_140 (by decide) ?_
                    refine ev_istore dX7_claim_141 (by decide) rfl ?_
                    refine ev_iload dX7_claim_143 rfl ?_
                    refine ev_if_ne 166 dX7_claim_145 (by decide) (fun hc145 => ?_) (fun hc145 => ?_)
                    · rw [b2i_n0] at hc145
                      refine ev_iconst (v := (nI 1)) dX7_claim_166 (by decide) ?_
                      refine ev_goto 171 dX7_claim_167 (by decide) ?_
                      refine ev_istore dX7_claim_171 (by decide) rfl ?_
                      refine ev_iinc (v := (nI 1)) dX7_claim_173 rfl (by decide) (by decide) rfl ?_
                      refine ev_goto 47 dX7_claim_176 (by decide) ?_
                      exact ev_stw ih (by simp only [rf_sub, bAny, x5, x6]; clear ih gp hlg; simp [rf_sub, nI_add, b2i, *]) rfl rfl
                    · rw [b2i_0] at hc145
                      refine ev_iload dX7_claim_148 rfl ?_
                      refine ev_if_eq 170 dX7_claim_150 (by decide) (fun _ => ?_) (fun hc150 => False.elim (absurd hc150 (by decide)))
                      refine ev_iconst (v := (nI 0)) dX7_claim_170 (by decide) ?_
                      refine ev_istore dX7_claim_171 (by decide) rfl ?_
                      refine ev_iinc (v := (nI 1)) dX7_claim_173 rfl (by decide) (by decide) rfl ?_
                      refine ev_goto 47 dX7_claim_176 (by decide) ?_
                      exact ev_stw ih (by simp only [rf_sub, bAny, x5, x6]; clear ih gp hlg; simp [rf_sub, nI_add, b2i, *]) rfl rfl
                · refine ev_iconst (v := (nI 1)) dX7_claim_119 (by decide) ?_
                  refine ev_goto 124 dX7_claim_120 (by decide) ?_
                  refine ev_istore dX7_claim_124 (by decide) rfl ?_
                  refine ev_iload dX7_claim_126 rfl ?_
                  refine ev_if_ne 136 dX7_claim_128 (by decide) (fun hc128 => ?_) (fun hc128 => ?_)
                  · rw [b2i_n0] at hc128
                    refine ev_iconst (v := (nI 1)) dX7_claim_136 (by decide) ?_
                    refine ev_goto 141 dX7_claim_137 (by decide) ?_
                    refine ev_istore dX7_claim_141 (by decide) rfl ?_
                    refine ev_iload dX7_claim_143 rfl ?_
                    refine ev_if_ne 166 dX7_claim_145 (by decide) (fun hc145 => ?_) (fun hc145 => ?_)
                    · rw [b2i_n0] at hc145
                      refine ev_iconst (v := (nI 1)) dX7_claim_166 (by decide) ?_
                      refine ev_goto 171 dX7_claim_167 (by decide) ?_
                      refine ev_istore dX7_claim_171 (by decide) rfl ?_
                      refine ev_iinc (v := (nI 1)) dX7_claim_173 rfl (by decide) (by decide) rfl ?_
                      refine ev_goto 47 dX7_claim_176 (by decide) ?_
                      exact ev_stw ih (by simp only [rf_sub, bAny, x5, x6]; clear ih gp hlg; simp [rf_sub, nI_add, b2i, *]) rfl rfl
                    · rw [b2i_0] at hc145
                      refine ev_iload dX7_claim_148 rfl ?_
                      refine ev_if_eq 170 dX7_claim_150 (by decide) (fun hc150 => False.elim (absurd hc150 (by decide))) (fun _ => ?_)
                      refine ev_aload_n dX7_claim_153 rfl ?_
                      refine ev_getR dX7_claim_154 fX7_7 (by first | assumption | rfl) (by rfl) ?_
                      refine ev_bipush (v := (nI 40)) dX7_claim_157 (by decide) ?_
                      refine ev_iload dX7_claim_159 rfl ?_
                      refine ev_iadd dX7_claim_161 ?_
                      refine ev_ialdE (40 + pp) dX7_claim_162 (by rw [x3, nI_add]) (by first | assumption | rfl) ⟨by omega, by decide⟩ ?_
                      refine ev_if_ne 170 dX7_claim_163 (by decide) (fun hc163 => ?_) (fun hc163 => ?_)
                      · refine ev_iconst (v := (nI 0)) dX7_claim_170 (by decide) ?_
                        refine ev_istore dX7_claim_171 (by decide) rfl ?_
                        refine ev_iinc (v := (nI 1)) dX7_claim_173 rfl (by decide) (by decide) rfl ?_
                        refine ev_goto 47 dX7_claim_176 (by decide) ?_
                        exact ev_stw ih (by simp only [rf_sub, bAny, x5, x6]; clear ih gp hlg; simp [rf_sub, nI_add, b2i, *]) rfl rfl
                      · refine ev_iconst (v := (nI 1)) dX7_claim_166 (by decide) ?_
                        refine ev_goto 171 dX7_claim_167 (by decide) ?_
                        refine ev_istore dX7_claim_171 (by decide) rfl ?_
                        refine ev_iinc (v := (nI 1)) dX7_claim_173 rfl (by decide) (by decide) rfl ?_
                        refine ev_goto 47 dX7_claim_176 (by decide) ?_
                        exact ev_stw ih (by simp only [rf_sub, bAny, x5, x6]; clear ih gp hlg; simp [rf_sub, nI_add, b2i, *]) rfl rfl
                  · rw [b2i_0] at hc128
                    refine ev_iload dX7_claim_131 rfl ?_
                    refine ev_if_eq 140 dX7_claim_133 (by decide) (fun hc133 => False.elim (absurd hc133 (by decide))) (fun _ => ?_)
                    refine ev_iconst (v := (nI 1)) dX7_claim_136 (by decide) ?_
                    refine ev_goto 141 dX7_claim_137 (by decide) ?_
                    refine ev_istore dX7_claim_141 (by decide) rfl ?_
                    refine ev_iload dX7_claim_143 rfl ?_
                    refine ev_if_ne 166 dX7_claim_145 (by decide) (fun hc145 => ?_) (fun hc145 => ?_)
                    · rw [b2i_n0] at hc145
                      refine ev_iconst (v := (nI 1)) dX7_claim_166 (by decide) ?_
                      refine ev_goto 171 dX7_claim_167 (by decide) ?_
                      refine ev_istore dX7_claim_171 (by decide) rfl ?_
                      refine ev_iinc (v := (nI 1)) dX7_claim_173 rfl (by decide) (by decide) rfl ?_
                      refine ev_goto 47 dX7_claim_176 (by decide) ?_
                      exact ev_stw ih (by simp only [rf_sub, bAny, x5, x6]; clear ih gp hlg; simp [rf_sub, nI_add, b2i, *]) rfl rfl
                    · rw [b2i_0] at hc145
                      refine ev_iload dX7_claim_148 rfl ?_
                      refine ev_if_eq 170 dX7_claim_150 (by decide) (fun hc150 => False.elim (absurd hc150 (by decide))) (fun _ => ?_)
                      refine ev_aload_n dX7_claim_153 rfl ?_
                      refine ev_getR dX7_claim_154 fX7_7 (by first | assumption | rfl) (by rfl) ?_
                      refine ev_bipush (v := (nI 40)) dX7_claim_157 (by decide) ?_
                      refine ev_iload dX7_claim_159 rfl ?_
                      refine ev_iadd dX7_claim_161 ?_
                      refine ev_ialdE (40 + pp) dX7_claim_162 (by rw [x3, nI_add]) (by first | assumption | rfl) ⟨by omega, by decide⟩ ?_
                      refine ev_if_ne 170 dX7_claim_163 (by decide) (fun hc163 => ?_) (fun hc163 => ?_)
                      · refine ev_iconst (v := (nI 0)) dX7_claim_170 (by decide) ?_
                        refine ev_istore dX7_claim_171 (by decide) rfl ?_
                        refine ev_iinc (v := (nI 1)) dX7_claim_173 rfl (by decide) (by decide) rfl ?_
                        refine ev_goto 47 dX7_claim_176 (by decide) ?_
                        exact ev_stw ih (by simp only [rf_sub, bAny, x5, x6]; clear ih gp hlg; simp [rf_sub, nI_add, b2i, *]) rfl rfl
                      · refine ev_iconst (v := (nI 1)) dX7_claim_166 (by decide) ?_
                        refine ev_goto 171 dX7_claim_167 (by decide) ?_
                        refine ev_istore dX7_claim_171 (by decide) rfl ?_
                        refine ev_iinc (v := (nI 1)) dX7_claim_173 rfl (by decide) (by decide) rfl ?_
                        refine ev_goto 47 dX7_claim_176 (by decide) ?_
                        exact ev_stw ih (by simp only [rf_sub, bAny, x5, x6]; clear ih gp hlg; simp [rf_sub, nI_add, b2i, *]) rfl rfl
          refine ev_aload_n dX7_claim_0 rfl ?_
          refine ev_iload_n dX7_claim_1 rfl ?_
          refine ev_cV1 dX7_claim_2 ceX7_isLine kX7_161 (rm_le rfl rfl) (Nat.le_of_ble_eq_true rfl) (Nat.le_of_ble_eq_true rfl) (e7_isLine m1 l3) (by first | assumption | rfl) ?_
          rw [hck]
          refine ev_if_ne 11 dX7_claim_5 (by decide) (fun hc5 => ?_) (fun hc5 => False.elim (absurd hc5 (by decide)))
          refine ev_iload_n dX7_claim_11 rfl ?_
          refine ev_i2l dX7_claim_12 ?_
          refine ev_lconst (v := 0) dX7_claim_13 rfl ?_
          refine ev_ldc2 dX7_claim_14 nX7_218 ?_
          refine ev_cS3 dX7_claim_17 ceX7_in kX7_59 (rm_le rfl rfl) (Nat.le_of_ble_eq_true rfl) (Nat.le_of_ble_eq_true rfl) (e7_in) ?_
          rw [in_c _ 0 (nI 99) (by decide) (by decide), hck2]
          refine ev_if_eq 35 dX7_claim_20 (by decide) (fun hc20 => False.elim (absurd hc20 (by decide))) (fun hc20 => ?_)
          refine ev_iload_n dX7_claim_23 rfl ?_
          refine ev_i2l dX7_claim_24 ?_
          refine ev_lconst (v := 0) dX7_claim_25 rfl ?_
          refine ev_ldc2 dX7_claim_26 nX7_254 ?_
          refine ev_cS3 dX7_claim_29 ceX7_in kX7_59 (rm_le rfl rfl) (Nat.le_of_ble_eq_true rfl) (Nat.le_of_ble_eq_true rfl) (e7_in) ?_
          rw [in_c _ 0 (nI 9999) (by decide) (by decide), hck3]
          refine ev_if_ne 38 dX7_claim_32 (by decide) (fun hc32 => ?_) (fun hc32 => False.elim (absurd hc32 (by decide)))
          refine ev_iconst (v := (nI 0)) dX7_claim_38 (by decide) ?_
          refine ev_istore dX7_claim_39 (by decide) rfl ?_
          refine ev_iconst (v := (nI 0)) dX7_claim_41 (by decide) ?_
          refine ev_istore dX7_claim_42 (by decide) rfl ?_
          refine ev_iconst (v := (nI 0)) dX7_claim_44 (by decide) ?_
          refine ev_istore dX7_claim_45 (by decide) rfl ?_
          exact ev_stw (key 0 (Nat.zero_le _)) ⟨rfl, rfl, rfl, rfl, rfl, rfl, rfl, trivial⟩ rfl rfl
      · refine ⟨(-1000000002), C, G, ?_, ?_, hR0⟩
        · refine ev_aload_n dX6_claim_0 rfl ?_
          refine ev_getR dX6_claim_1 fX6_23 (by first | assumption | rfl) (by rfl) ?_
          refine ev_iload_n dX6_claim_4 rfl ?_
          refine ev_cV1 dX6_claim_5 ceX1_hasLine kX6_123 (rm_le rfl rfl) (Nat.le_of_ble_eq_true rfl) (Nat.le_of_ble_eq_true rfl) (e_hasLine) (by first | assumption | rfl) ?_
          rw [l1, hck]
          refine ev_if_ne 14 dX6_claim_8 (by decide) (fun hc8 => ?_) (fun hc8 => False.elim (absurd hc8 (by decide)))
          refine ev_iload_n dX6_claim_14 rfl ?_
          refine ev_if_lt 35 dX6_claim_15 (by decide) (fun hc15 => False.elim (c1 hc15)) (fun hc15 => ?_)
          refine ev_iload_n dX6_claim_18 rfl ?_
          refine ev_bipush (v := (nI 99)) dX6_claim_19 (by decide) ?_
          refine ev_icmp_gt 35 dX6_claim_21 (by decide) (fun hc21 => False.elim ((fa_of_lt hc21).2.1 c2)) (fun hc21 => ?_)
          refine ev_iload_n dX6_claim_24 rfl ?_
          refine ev_if_lt 35 dX6_claim_25 (by decide) (fun hc25 => ?_) (fun hc25 => False.elim (hc25 c3))
          refine ev_ldc (v := (-1000000002)) dX6_claim_35 nX6_70 ?_
          exact ev_iretE dX6_claim_37 rfl rfl (by first | rfl | simp_all) (rfl)
        · refine ev_aload_n dX7_claim_0 rfl ?_
          refine ev_iload_n dX7_claim_1 rfl ?_
          refine ev_cV1 dX7_claim_2 ceX7_isLine kX7_161 (rm_le rfl rfl) (Nat.le_of_ble_eq_true rfl) (Nat.le_of_ble_eq_true rfl) (e7_isLine m1 l3) (by first | assumption | rfl) ?_
          rw [hck]
          refine ev_if_ne 11 dX7_claim_5 (by decide) (fun hc5 => ?_) (fun hc5 => False.elim (absurd hc5 (by decide)))
          refine ev_iload_n dX7_claim_11 rfl ?_
          refine ev_i2l dX7_claim_12 ?_
          refine ev_lconst (v := 0) dX7_claim_13 rfl ?_
          refine ev_ldc2 dX7_claim_14 nX7_218 ?_
          refine ev_cS3 dX7_claim_17 ceX7_in kX7_59 (rm_le rfl rfl) (Nat.le_of_ble_eq_true rfl) (Nat.le_of_ble_eq_true rfl) (e7_in) ?_
          rw [in_c _ 0 (nI 99) (by decide) (by decide), hck2]
          refine ev_if_eq 35 dX7_claim_20 (by decide) (fun hc20 => False.elim (absurd hc20 (by decide))) (fun hc20 => ?_)
          refine ev_iload_n dX7_claim_23 rfl ?_
          refine ev_i2l dX7_claim_24 ?_
          refine ev_lconst (v := 0) dX7_claim_25 rfl ?_
          refine ev_ldc2 dX7_claim_26 nX7_254 ?_
          refine ev_cS3 dX7_claim_29 ceX7_in kX7_59 (rm_le rfl rfl) (Nat.le_of_ble_eq_true rfl) (Nat.le_of_ble_eq_true rfl) (e7_in) ?_
          rw [in_c _ 0 (nI 9999) (by decide) (by decide), hck3]
          refine ev_if_ne 38 dX7_claim_32 (by decide) (fun hc32 => False.elim (absurd hc32 (by decide))) (fun hc32 => ?_)
          refine ev_ldc (v := (-1000000002)) dX7_claim_35 nX7_63 ?_
          exact ev_iretE dX7_claim_37 rfl rfl (by first | rfl | simp_all) (rfl)
      · refine ⟨(-1000000002), C, G, ?_, ?_, hR0⟩
        · refine ev_aload_n dX6_claim_0 rfl ?_
          refine ev_getR dX6_claim_1 fX6_23 (by first | assumption | rfl) (by rfl) ?_
          refine ev_iload_n dX6_claim_4 rfl ?_
          refine ev_cV1 dX6_claim_5 ceX1_hasLine kX6_123 (rm_le rfl rfl) (Nat.le_of_ble_eq_true rfl) (Nat.le_of_ble_eq_true rfl) (e_hasLine) (by first | assumption | rfl) ?_
          rw [l1, hck]
          refine ev_if_ne 14 dX6_claim_8 (by decide) (fun hc8 => ?_) (fun hc8 => False.elim (absurd hc8 (by decide)))
          refine ev_iload_n dX6_claim_14 rfl ?_
          refine ev_if_lt 35 dX6_claim_15 (by decide) (fun hc15 => False.elim (c1 hc15)) (fun hc15 => ?_)
          refine ev_iload_n dX6_claim_18 rfl ?_
          refine ev_bipush (v := (nI 99)) dX6_claim_19 (by decide) ?_
          refine ev_icmp_gt 35 dX6_claim_21 (by decide) (fun hc21 => False.elim ((fa_of_lt hc21).2.1 c2)) (fun hc21 => ?_)
          refine ev_iload_n dX6_claim_24 rfl ?_
          refine ev_if_lt 35 dX6_claim_25 (by decide) (fun hc25 => False.elim (c3 hc25)) (fun hc25 => ?_)
          refine ev_iload_n dX6_claim_28 rfl ?_
          refine ev_sipush (v := (nI 9999)) dX6_claim_29 (by decide) ?_
          refine ev_icmp_le 38 dX6_claim_32 (by decide) (fun hc32 => False.elim (c4 hc32)) (fun hc32 => ?_)
          refine ev_ldc (v := (-1000000002)) dX6_claim_35 nX6_70 ?_
          exact ev_iretE dX6_claim_37 rfl rfl (by first | rfl | simp_all) (rfl)
        · refine ev_aload_n dX7_claim_0 rfl ?_
          refine ev_iload_n dX7_claim_1 rfl ?_
          refine ev_cV1 dX7_claim_2 ceX7_isLine kX7_161 (rm_le rfl rfl) (Nat.le_of_ble_eq_true rfl) (Nat.le_of_ble_eq_true rfl) (e7_isLine m1 l3) (by first | assumption | rfl) ?_
          rw [hck]
          refine ev_if_ne 11 dX7_claim_5 (by decide) (fun hc5 => ?_) (fun hc5 => False.elim (absurd hc5 (by decide)))
          refine ev_iload_n dX7_claim_11 rfl ?_
          refine ev_i2l dX7_claim_12 ?_
          refine ev_lconst (v := 0) dX7_claim_13 rfl ?_
          refine ev_ldc2 dX7_claim_14 nX7_218 ?_
          refine ev_cS3 dX7_claim_17 ceX7_in kX7_59 (rm_le rfl rfl) (Nat.le_of_ble_eq_true rfl) (Nat.le_of_ble_eq_true rfl) (e7_in) ?_
          rw [in_c _ 0 (nI 99) (by decide) (by decide), hck2]
          refine ev_if_eq 35 dX7_claim_20 (by decide) (fun hc20 => False.elim (absurd hc20 (by decide))) (fun hc20 => ?_)
          refine ev_iload_n dX7_claim_23 rfl ?_
          refine ev_i2l dX7_claim_24 ?_
          refine ev_lconst (v := 0) dX7_claim_25 rfl ?_
          refine ev_ldc2 dX7_claim_26 nX7_254 ?_
          refine ev_cS3 dX7_claim_29 ceX7_in kX7_59 (rm_le rfl rfl) (Nat.le_of_ble_eq_true rfl) (Nat.le_of_ble_eq_true rfl) (e7_in) ?_
          rw [in_c _ 0 (nI 9999) (by decide) (by decide), hck3]
          refine ev_if_ne 38 dX7_claim_32 (by decide) (fun hc32 => False.elim (absurd hc32 (by decide))) (fun hc32 => ?_)
          refine ev_ldc (v := (-1000000002)) dX7_claim_35 nX7_63 ?_
          exact ev_iretE dX7_claim_37 rfl rfl (by first | rfl | simp_all) (rfl)
    · refine ⟨(-1000000002), C, G, ?_, ?_, hR0⟩
      · refine ev_aload_n dX6_claim_0 rfl ?_
        refine ev_getR dX6_claim_1 fX6_23 (by first | assumption | rfl) (by rfl) ?_
        refine ev_iload_n dX6_claim_4 rfl ?_
        refine ev_cV1 dX6_claim_5 ceX1_hasLine kX6_123 (rm_le rfl rfl) (Nat.le_of_ble_eq_true rfl) (Nat.le_of_ble_eq_true rfl) (e_hasLine) (by first | assumption | rfl) ?_
        rw [l1, hck]
        refine ev_if_ne 14 dX6_claim_8 (by decide) (fun hc8 => ?_) (fun hc8 => False.elim (absurd hc8 (by decide)))
        refine ev_iload_n dX6_claim_14 rfl ?_
        refine ev_if_lt 35 dX6_claim_15 (by decide) (fun hc15 => ?_) (fun hc15 => False.elim (hc15 c1))
        refine ev_ldc (v := (-1000000002)) dX6_claim_35 nX6_70 ?_
        exact ev_iretE dX6_claim_37 rfl rfl (by first | rfl | simp_all) (rfl)
      · refine ev_aload_n dX7_claim_0 rfl ?_
        refine ev_iload_n dX7_claim_1 rfl ?_
        refine ev_cV1 dX7_claim_2 ceX7_isLine kX7_161 (rm_le rfl rfl) (Nat.le_of_ble_eq_true rfl) (Nat.le_of_ble_eq_true rfl) (e7_isLine m1 l3) (by first | assumption | rfl) ?_
        rw [hck]
        refine ev_if_ne 11 dX7_claim_5 (by decide) (fun hc5 => ?_) (fun hc5 => False.elim (absurd hc5 (by decide)))
        refine ev_iload_n dX7_claim_11 rfl ?_
        refine ev_i2l dX7_claim_12 ?_
        refine ev_lconst (v := 0) dX7_claim_13 rfl ?_
        refine ev_ldc2 dX7_claim_14 nX7_218 ?_
        refine ev_cS3 dX7_claim_17 ceX7_in kX7_59 (rm_le rfl rfl) (Nat.le_of_ble_eq_true rfl) (Nat.le_of_ble_eq_true rfl) (e7_in) ?_
        rw [in_c _ 0 (nI 99) (by decide) (by decide), hck2]
        refine ev_if_eq 35 dX7_claim_20 (by decide) (fun hc20 => ?_) (fun hc20 => False.elim (absurd hc20 (by decide)))
        refine ev_ldc (v := (-1000000002)) dX7_claim_35 nX7_63 ?_
        exact ev_iretE dX7_claim_37 rfl rfl (by first | rfl | simp_all) (rfl)
    · have c9 : nI 99 < v0 := fa_of_nle c2
      refine ⟨(-1000000002), C, G, ?_, ?_, hR0⟩
      · refine ev_aload_n dX6_claim_0 rfl ?_
        refine ev_getR dX6_claim_1 fX6_23 (by first | assumption | rfl) (by rfl) ?_
        refine ev_iload_n dX6_claim_4 rfl ?_
        refine ev_cV1 dX6_claim_5 ceX1_hasLine kX6_123 (rm_le rfl rfl) (Nat.le_of_ble_eq_true rfl) (Nat.le_of_ble_eq_true rfl) (e_hasLine) (by first | assumption | rfl) ?_
        rw [l1, hck]
        refine ev_if_ne 14 dX6_claim_8 (by decide) (fun hc8 => ?_) (fun hc8 => False.elim (absurd hc8 (by decide)))
        refine ev_iload_n dX6_claim_14 rfl ?_
        refine ev_if_lt 35 dX6_claim_15 (by decide) (fun hc15 => False.elim (c1 hc15)) (fun hc15 => ?_)
        refine ev_iload_n dX6_claim_18 rfl ?_
        refine ev_bipush (v := (nI 99)) dX6_claim_19 (by decide) ?_
        refine ev_icmp_gt 35 dX6_claim_21 (by decide) (fun hc21 => ?_) (fun hc21 => False.elim (hc21 c9))
        refine ev_ldc (v := (-1000000002)) dX6_claim_35 nX6_70 ?_
        exact ev_iretE dX6_claim_37 rfl rfl (by first | rfl | simp_all) (rfl)
      · refine ev_aload_n dX7_claim_0 rfl ?_
        refine ev_iload_n dX7_claim_1 rfl ?_
        refine ev_cV1 dX7_claim_2 ceX7_isLine kX7_161 (rm_le rfl rfl) (Nat.le_of_ble_eq_true rfl) (Nat.le_of_ble_eq_true rfl) (e7_isLine m1 l3) (by first | assumption | rfl) ?_
        rw [hck]
        refine ev_if_ne 11 dX7_claim_5 (by decide) (fun hc5 => ?_) (fun hc5 => False.elim (absurd hc5 (by decide)))
        refine ev_iload_n dX7_claim_11 rfl ?_
        refine ev_i2l dX7_claim_12 ?_
        refine ev_lconst (v := 0) dX7_claim_13 rfl ?_
        refine ev_ldc2 dX7_claim_14 nX7_218 ?_
        refine ev_cS3 dX7_claim_17 ceX7_in kX7_59 (rm_le rfl rfl) (Nat.le_of_ble_eq_true rfl) (Nat.le_of_ble_eq_true rfl) (e7_in) ?_
        rw [in_c _ 0 (nI 99) (by decide) (by decide), hck2]
        refine ev_if_eq 35 dX7_claim_20 (by decide) (fun hc20 => ?_) (fun hc20 => False.elim (absurd hc20 (by decide)))
        refine ev_ldc (v := (-1000000002)) dX7_claim_35 nX7_63 ?_
        exact ev_iretE dX7_claim_37 rfl rfl (by first | rfl | simp_all) (rfl)
  · refine ⟨(-1000000001), C, G, ?_, ?_, hR0⟩
    · refine ev_aload_n dX6_claim_0 rfl ?_
      refine ev_getR dX6_claim_1 fX6_23 (by first | assumption | rfl) (by rfl) ?_
      refine ev_iload_n dX6_claim_4 rfl ?_
      refine ev_cV1 dX6_claim_5 ceX1_hasLine kX6_123 (rm_le rfl rfl) (Nat.le_of_ble_eq_true rfl) (Nat.le_of_ble_eq_true rfl) (e_hasLine) (by first | assumption | rfl) ?_
      rw [l1, hck]
      refine ev_if_ne 14 dX6_claim_8 (by decide) (fun hc8 => False.elim (absurd hc8 (by decide))) (fun hc8 => ?_)
      refine ev_ldc (v := (-1000000001)) dX6_claim_11 nX6_127 ?_
      exact ev_iretE dX6_claim_13 rfl rfl (by first | rfl | simp_all) (rfl)
    · refine ev_aload_n dX7_claim_0 rfl ?_
      refine ev_iload_n dX7_claim_1 rfl ?_
      refine ev_cV1 dX7_claim_2 ceX7_isLine kX7_161 (rm_le rfl rfl) (Nat.le_of_ble_eq_true rfl) (Nat.le_of_ble_eq_true rfl) (e7_isLine m1 l3) (by first | assumption | rfl) ?_
      rw [hck]
      refine ev_if_ne 11 dX7_claim_5 (by decide) (fun hc5 => False.elim (absurd hc5 (by decide))) (fun hc5 => ?_)
      refine ev_ldc (v := (-1000000001)) dX7_claim_8 nX7_165 ?_
      exact ev_iretE dX7_claim_10 rfl rfl (by first | rfl | simp_all) (rfl)
