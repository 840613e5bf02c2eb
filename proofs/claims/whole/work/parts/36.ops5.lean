/-! ops: teach, write, copy -/
def FrC2 (q : Nat) (C C' : rf_Mem) : Prop := ∀ a, (a < q ∨ q + 12 ≤ a ∨ a = q + 7) → C' a = C a
theorem FrC.to2 {q : Nat} {C C' : rf_Mem} (h : FrC q C C') : FrC2 q C C' := fun a ha => h a (by omega)
theorem FrC2.tr {q : Nat} {C C1 C2 : rf_Mem} (h : FrC2 q C C1) (h2 : FrC2 q C1 C2) : FrC2 q C C2 := fun a ha => (h2 a ha).trans (h a ha)
theorem Rp.act2 {nl nr : Nat} {tm : Nat → Nat} {n d nq tl nd : Nat} {b0 b1 : Bool} {kt : Nat} {C G C' G' : rf_Mem} {n' d' : Nat} (h : Rp nl nr tm n d nq tl nd b0 b1 kt C G) (hS : Sim true 21 0 n' d' nl nr tm C' G') (hC : FrC2 21 C C') (hG : FrG 0 G G') : Rg C' G' := by
  obtain ⟨h1, h2, h3, ⟨t1, t2, t3, t4, t5⟩, ⟨e1, e2, e3, e4⟩, ⟨i1, i2, i3, i4, i5⟩, k1, k2⟩ := h
  refine ⟨nl, nr, tm, n', d', nq, tl, nd, b0, b1, kt, hS, h2.frame (hC _ (by omega)) (fun j a b => hG.2 j (by omega)) h1.1.2.2.1, ?_, ?_, ?_, ?_, by rw [hC _ (by omega)]; exact k1, k2⟩
  · rw [Rq, hC 14 (by omega), hC 15 (by omega), hC 16 (by omega), hC 17 (by omega), hG.1 0 (by omega), hG.1 9 (by omega), hG.1 10 (by omega), hG.1 11 (by omega)]
    exact h3
  · rw [Tx, hC 1 (by omega), hC 2 (by omega), hG.1 0 (by omega), hG.1 8 (by omega)]
    exact ⟨t1, t2, t3, t4, t5⟩
  · rw [Dr, hC 0 (by omega), hC 19 (by omega), hG.1 0 (by omega), hG.1 13 (by omega)]
    exact ⟨e1, e2, e3, e4⟩
  · rw [Is, hC 0 (by omega), hG.1 2 (by omega)]
    exact ⟨i1, i2, i3, fun z => (i4 z).frame hS.1 (fun a _ _ => hC a (by omega)) (fun j _ _ => hG.2 j (by omega)), fun z => (i5 z).frame hS.1 (fun a _ _ => hC a (by omega)) (fun j _ _ => hG.2 j (by omega))⟩
theorem mkM_j {n : Nat} {G : rf_Mem} {r l v : Int32} {j : Nat} (h : j ≠ n ∧ j ≠ 40 + n ∧ j ≠ 80 + n ∧ j ≠ 120 + n ∧ j ≠ 1332 ∧ j ≠ 1335) : mkM n G r l v 1 j = G 1 j := by
  unfold mkM
  rw [gs_j _ _ h.2.2.2.2.1, gs_j _ _ h.2.2.2.1, gs_j _ _ h.2.2.1, gs_j _ _ h.2.1, gs_j _ _ h.2.2.2.2.2, gs_j _ _ h.1]
theorem mkM_n {n : Nat} {G : rf_Mem} {r l v : Int32} (hn : n < 40) : mkM n G r l v 1 n = l ∧ mkM n G r l v 1 (40 + n) = (if G 0 7 ≤ dv (sdM (G 1 1335)) (nI 100) then v else nI n + nI 1) ∧ mkM n G r l v 1 (80 + n) = nI 0 ∧ mkM n G r l v 1 (120 + n) = r ∧ mkM n G r l v 1 1332 = nI n + nI 1 ∧ mkM n G r l v 1 1335 = sdM (G 1 1335) := by
  unfold mkM
  refine ⟨?_, ?_, ?_, ?_, gs_same _ _ _ _, ?_⟩
  · rw [gs_j _ _ (by omega), gs_j _ _ (by omega), gs_j _ _ (by omega), gs_j _ _ (by omega), gs_j _ _ (by omega), gs_same]
  · rw [gs_j _ _ (by omega), gs_j _ _ (by omega), gs_j _ _ (by omega), gs_same]
  · rw [gs_j _ _ (by omega), gs_j _ _ (by omega), gs_same]
  · rw [gs_j _ _ (by omega), gs_same]
  · rw [gs_j _ _ (by omega), gs_j _ _ (by omega), gs_j _ _ (by omega), gs_j _ _ (by omega), gs_same]
theorem mkM_o {n : Nat} {G : rf_Mem} {r l v : Int32} {a : Nat} (h : a ≠ 1) : mkM n G r l v a = G a := by
  unfold mkM
  rw [gs_q _ _ _ h, gs_q _ _ _ h, gs_q _ _ _ h, gs_q _ _ _ h, gs_q _ _ _ h, gs_q _ _ _ h]
theorem adM_v {n : Nat} {C : rf_Mem} {l v w : Int32} : (adM 21 n C l v w 21 9 = nI n + nI 1 ∧ adM 21 n C l v w 21 10 = C 21 10 ∧ adM 21 n C l v w 21 11 = sd (C 21 11)) ∧ (∀ p, adM 21 n C l v w 22 p = (if p = n then l else C 22 p) ∧ adM 21 n C l v w 23 p = (if p = n then (if C 8 6 ≤ dv (sd (C 21 11)) (nI 100) then v else nI n + nI 1) else C 23 p) ∧ adM 21 n C l v w 24 p = (if p = n then nI 0 else C 24 p) ∧ adM 21 n C l v w 25 p = (if p = n then w else C 25 p)) ∧ ∀ a, a ≠ 21 → a ≠ 22 → a ≠ 23 → a ≠ 24 → a ≠ 25 → adM 21 n C l v w a = C a := by
  unfold adM
  refine ⟨⟨gs_same _ _ _ _, ?_, ?_⟩, fun p => ⟨?_, ?_, ?_, ?_⟩, fun a h1 h2 h3 h4 h5 => ?_⟩
  · rw [gs_j _ _ (by decide), gs_q _ _ _ (by decide), gs_q _ _ _ (by decide), gs_q _ _ _ (by decide), gs_j _ _ (by decide), gs_q _ _ _ (by decide)]
  · rw [gs_j _ _ (by decide), gs_q _ _ _ (by decide), gs_q _ _ _ (by decide), gs_q _ _ _ (by decide), gs_same]
  · rw [gs_q _ _ _ (by decide), gs_q _ _ _ (by decide), gs_q _ _ _ (by decide), gs_q _ _ _ (by decide), gs_q _ _ _ (by decide)]
    by_cases z : p = n
    · rw [if_pos z, z]; exact gs_same _ _ _ _
    · rw [if_neg z]; exact gs_j _ _ z
  · rw [gs_q _ _ _ (by decide), gs_q _ _ _ (by decide), gs_q _ _ _ (by decide)]
    by_cases z : p = n
    · rw [if_pos z, z]; exact gs_same _ _ _ _
    · rw [if_neg z]; exact (gs_j _ _ z).trans (by rw [gs_q _ _ _ (by decide), gs_q _ _ _ (by decide)])
  · rw [gs_q _ _ _ (by decide), gs_q _ _ _ (by decide)]
    by_cases z : p = n
    · rw [if_pos z, z]; exact gs_same _ _ _ _
    · rw [if_neg z]; exact (gs_j _ _ z).trans (by rw [gs_q _ _ _ (by decide), gs_q _ _ _ (by decide), gs_q _ _ _ (by decide)])
  · rw [gs_q _ _ _ (by decide)]
    by_cases z : p = n
    · rw [if_pos z, z]; exact gs_same _ _ _ _
    · rw [if_neg z]; exact (gs_j _ _ z).trans (by rw [gs_q _ _ _ (by decide), gs_q _ _ _ (by decide), gs_q _ _ _ (by decide), gs_q _ _ _ (by decide)])
  · rw [gs_q _ _ _ (by omega), gs_q _ _ _ (by omega), gs_q _ _ _ (by omega), gs_q _ _ _ (by omega), gs_q _ _ _ (by omega), gs_q _ _ _ (by omega)]
theorem sim_make {n d nl nr : Nat} {tm : Nat → Nat} {C G : rf_Mem} {r l v : Nat} (h : Sim true 21 0 n d nl nr tm C G) (hn : n < 40) (hl : l < nl) (hv : v ≤ n) (hr : r < nr) : Sim true 21 0 (n + 1) d nl nr tm (adM 21 n C (nI l) (nI v) (nI r)) (mkM n G (nI r) (nI l) (nI v)) ∧ FrC2 21 C (adM 21 n C (nI l) (nI v) (nI r)) ∧ FrG 0 G (mkM n G (nI r) (nI l) (nI v)) := by
  obtain ⟨hL, ⟨⟨p1, p2, p3, p4, p5⟩, ⟨d1, d2, d3⟩, ⟨s1, s2⟩, h1⟩, k, k', q1, q2, q3, q4, q5⟩ := h
  have l3 := hL.2.2.1
  have l6 := hL.2.2.2.2.2.1
  obtain ⟨⟨v1, v2, v3⟩, v4, v5⟩ := adM_v (n := n) (C := C) (l := nI l) (v := nI v) (w := nI r)
  obtain ⟨w1, w2, w3, w4, w5, w6⟩ := mkM_n (n := n) (G := G) (r := nI r) (l := nI l) (v := nI v) hn
  rw [Nat.zero_add] at p2 d2 s1
  obtain ⟨se, sp⟩ := sd_eq s2
  have se2 : sdM (G 1 1335) = sd (C 21 11) := by rw [← s1]; exact se
  have lib := hL.2.2.2.2.2.2.1
  have fC : FrC2 21 C (adM 21 n C (nI l) (nI v) (nI r)) := fun a ha => v5 a (by omega) (by omega) (by omega) (by omega) (by omega)
  have fG : FrG 0 G (mkM n G (nI r) (nI l) (nI v)) := ⟨fun a ha => mkM_o ha, fun j hj => mkM_j (by omega)⟩
  have hL2 : Lb nl nr tm (adM 21 n C (nI l) (nI v) (nI r)) (mkM n G (nI r) (nI l) (nI v)) := hL.frame (fun a ha => fC a (by omega)) (fun a ha => fG.1 a (by omega))
  refine ⟨⟨hL2, ⟨⟨by rw [v1, nI_add], by rw [Nat.zero_add, w5, nI_add], by omega, by omega, fun p hp => ?_⟩, ⟨by rw [v2]; exact d1, by rw [Nat.zero_add, mkM_j (by omega)]; exact d2, d3⟩, ⟨by rw [v3, Nat.zero_add, w6, se2], by rw [v3]; exact sp⟩, fun r' l' hr' hl' => ?_⟩, k, k', by rw [v5 _ (by omega) (by omega) (by omega) (by omega) (by omega)]; exact q1, q2, by rw [mkM_j (by omega)]; exact q3, q4, fun hw => ⟨(q5 hw).1, ?_⟩⟩, fC, fG⟩
  · obtain ⟨b1, b2, b3, b4⟩ := v4 p
    unfold PgP
    simp only [Nat.zero_add, show 21 + 1 = 22 from rfl, show 21 + 2 = 23 from rfl, show 21 + 3 = 24 from rfl, show 21 + 4 = 25 from rfl]
    rw [b1, b2, b3, b4]
    by_cases e : p = n
    · rw [if_pos e, if_pos e, if_pos e, if_pos e, e, w1, w2, w3, w4, se2, lib]
      refine ⟨⟨rfl, rfl, rfl, rfl⟩, ⟨l, hl, rfl⟩, ⟨0, by omega, rfl⟩, ?_, fun z => by omega, fun _ => ⟨r, by omega, rfl⟩⟩
      by_cases y : G 0 7 ≤ dv (sd (C 21 11)) (nI 100)
      · rw [if_pos y]; exact ⟨v, by omega, rfl⟩
      · rw [if_neg y]; exact ⟨n + 1, by omega, nI_add n 1⟩
    · rw [if_neg e, if_neg e, if_neg e, if_neg e, mkM_j (by omega), mkM_j (by omega), mkM_j (by omega), mkM_j (by omega)]
      have := p5 p (by omega)
      unfold PgP at this
      simp only [Nat.zero_add] at this
      obtain ⟨x1, x2, x3, ⟨u, x4, x5⟩, x6⟩ := this
      exact ⟨x1, x2, x3, ⟨u, by omega, x5⟩, x6⟩
  · have := h1 r' l' hr' hl'
    rw [v5 _ (by omega) (by omega) (by omega) (by omega) (by omega), v5 _ (by omega) (by omega) (by omega) (by omega) (by omega), mkM_j (by omega), mkM_j (by omega)]
    exact this.mono (by omega)
  · obtain ⟨e1, e2, e3, e4⟩ := (q5 hw).2
    refine ⟨by rw [v5 _ (by omega) (by omega) (by omega) (by omega) (by omega)]; exact e1, by rw [mkM_j (by omega)]; exact e2, e3, fun i hi => ?_⟩
    rw [v5 (21 + 9) (by omega) (by omega) (by omega) (by omega) (by omega), v5 (21 + 10) (by omega) (by omega) (by omega) (by omega) (by omega), v5 (21 + 11) (by omega) (by omega) (by omega) (by omega) (by omega), mkM_j (by omega), mkM_j (by omega), mkM_j (by omega)]
    obtain ⟨f1, f2, f3, ⟨pp, f4, f5⟩, f6⟩ := e4 i hi
    exact ⟨f1, f2, f3, ⟨pp, by omega, f5⟩, f6⟩

set_option maxRecDepth 20000 in
set_option maxHeartbeats 2000000 in
theorem op_write {r0 l0 : Int32} : OpOk mX6_write mX7_write [.int r0, .int l0] := by
  intro C G hR
  have hR0 := hR
  obtain ⟨nl, nr, tm, n, d, nq, tl, nd, b0, b1, kt, hp⟩ := hR
  obtain ⟨hS, hE, hQ, hT, hDr, hI, hkt, hkt3⟩ := id hp
  have hL := hS.1
  obtain ⟨l1, m1, l3, r1, m2, l6, le, lw, lr⟩ := id hL
  obtain ⟨hP, ⟨d1, d2, d3⟩, ⟨s1, s2⟩, hH⟩ := id hS.2.1
  obtain ⟨p1, p2, p3, p4, p5⟩ := id hP
  rw [Nat.zero_add] at p2 d2 s1
  obtain ⟨-, -, k, k', q1, q2, q3, q4, q5⟩ := id hS
  obtain ⟨ke, kl⟩ := q5 rfl
  subst ke
  obtain ⟨-, -, -, kl4⟩ := id kl
  rw [Nat.zero_add] at q3
  rcases ck r0 (show nr < 2 ^ 31 by omega) with ⟨j1, hj1, e1, c1⟩ | c1
  · subst e1
    rcases ck l0 (show nl < 2 ^ 31 by omega) with ⟨j2, hj2, e2, c2⟩ | c2
    · subst e2
      obtain ⟨kn1, -⟩ := kn_same hS hj1 hj2
      have kn2 := kn_si hS hj1 hj2
      simp only [Nat.zero_add] at kn1 kn2
      have kk := (lr j1 hj1).1
      by_cases hk2 : C 11 j1 = nI 2
      · rcases kn2 with ⟨u1, -⟩ | ⟨u1, ⟨v, hv, hv2⟩, -⟩
        · refine ⟨(-1000000003), C, G, ?_, ?_, hR0⟩
          · refine ev_aload_n dX6_write_0 rfl ?_
            refine ev_getR dX6_write_1 fX6_23 (by first | assumption | rfl) (by rfl) ?_
            refine ev_iload_n dX6_write_4 rfl ?_
            refine ev_cV1 dX6_write_5 ceX1_hasReader kX6_147 (rm_le rfl rfl) (Nat.le_of_ble_eq_true rfl) (Nat.le_of_ble_eq_true rfl) (e_hasReader) (by first | assumption | rfl) ?_
            rw [r1, c1]
            refine ev_if_eq 22 dX6_write_8 (by decide) (fun hc8 => False.elim (absurd hc8 (by decide))) (fun hc8 => ?_)
            refine ev_aload_n dX6_write_11 rfl ?_
            refine ev_getR dX6_write_12 fX6_23 (by first | assumption | rfl) (by rfl) ?_
            refine ev_iload_n dX6_write_15 rfl ?_
            refine ev_cV1 dX6_write_16 ceX1_hasLine kX6_123 (rm_le rfl rfl) (Nat.le_of_ble_eq_true rfl) (Nat.le_of_ble_eq_true rfl) (e_hasLine) (by first | assumption | rfl) ?_
            rw [l1, c2]
            refine ev_if_ne 25 dX6_write_19 (by decide) (fun hc19 => ?_) (fun hc19 => False.elim (absurd hc19 (by decide)))
            refine ev_aload_n dX6_write_25 rfl ?_
            refine ev_getR dX6_write_26 fX6_23 (by first | assumption | rfl) (by rfl) ?_
            refine ev_getR dX6_write_29 fX6_150 (by first | assumption | rfl) (by rfl) ?_
            refine ev_iload_n dX6_write_32 rfl ?_
            refine ev_ialdE _ dX6_write_33 (rfl) (by first | assumption | rfl) ⟨by omega, by decide⟩ ?_
            refine ev_iconst (v := (nI 2)) dX6_write_34 (by decide) ?_
            refine ev_icmp_ne 50 dX6_write_35 (by decide) (fun hc35 => False.elim (hc35 hk2)) (fun hc35 => ?_)
            refine ev_aload_n dX6_write_38 rfl ?_
            refine ev_getR dX6_write_39 fX6_31 (by first | assumption | rfl) (by rfl) ?_
            refine ev_iload_n dX6_write_42 rfl ?_
            refine ev_iload_n dX6_write_43 rfl ?_
            refine ev_cV2 dX6_write_44 ceX5_knowsAny kX6_174 (rm_le rfl rfl) (Nat.le_of_ble_eq_true rfl) (Nat.le_of_ble_eq_true rfl) (e_knowsAny st_21 (by omega) (by omega)) (by first | assumption | rfl) ?_
            rw [kn1, u1]
            refine ev_if_ne 53 dX6_write_47 (by decide) (fun hc47 => False.elim (absurd hc47 (by decide))) (fun hc47 => ?_)
            refine ev_ldc (v := (-1000000003)) dX6_write_50 nX6_194 ?_
            exact ev_iretE dX6_write_52 rfl rfl (by first | rfl | simp_all) (rfl)
          · refine ev_aload_n dX7_write_0 rfl ?_
            refine ev_iload_n dX7_write_1 rfl ?_
            refine ev_cV1 dX7_write_2 ceX7_isReader kX7_169 (rm_le rfl rfl) (Nat.le_of_ble_eq_true rfl) (Nat.le_of_ble_eq_true rfl) (e7_isReader m2 l6) (by first | assumption | rfl) ?_
            rw [c1]
            refine ev_if_eq 16 dX7_write_5 (by decide) (fun hc5 => False.elim (absurd hc5 (by decide))) (fun hc5 => ?_)
            refine ev_aload_n dX7_write_8 rfl ?_
            refine ev_iload_n dX7_write_9 rfl ?_
            refine ev_cV1 dX7_write_10 ceX7_isLine kX7_161 (rm_le rfl rfl) (Nat.le_of_ble_eq_true rfl) (Nat.le_of_ble_eq_true rfl) (e7_isLine m1 l3) (by first | assumption | rfl) ?_
            rw [c2]
            refine ev_if_ne 19 dX7_write_13 (by decide) (fun hc13 => ?_) (fun hc13 => False.elim (absurd hc13 (by decide)))
            refine ev_aload_n dX7_write_19 rfl ?_
            refine ev_getR dX7_write_20 fX7_7 (by first | assumption | rfl) (by rfl) ?_
            refine ev_sipush (v := (nI 160)) dX7_write_23 (by decide) ?_
            refine ev_bipush (v := (nI 16)) dX7_write_26 (by decide) ?_
            refine ev_iload_n dX7_write_28 rfl ?_
            refine ev_imul dX7_write_29 ?_
            refine ev_iadd dX7_write_30 ?_
            refine ev_iload_n dX7_write_31 rfl ?_
            refine ev_iadd dX7_write_32 ?_
            refine ev_ialdE _ dX7_write_33 (by first | with_reducible rfl | with_reducible exact nI_add _ _ | with_reducible exact ix3 _ _ _ | with_reducible exact ix_k _ _ _ | with_reducible exact ix_xk _ _ _ _) (by first | assumption | rfl) ⟨by omega, by decide⟩ ?_
            refine ev_istore_k 3 dX7_write_34 rfl (by decide) rfl ?_
            refine ev_aload_n dX7_write_35 rfl ?_
            refine ev_getR dX7_write_36 fX7_23 (by first | assumption | rfl) (by rfl) ?_
            refine ev_iload_n dX7_write_39 rfl ?_
            refine ev_ialdE _ dX7_write_40 (by first | with_reducible rfl | with_reducible exact nI_add _ _ | with_reducible exact ix3 _ _ _ | with_reducible exact ix_k _ _ _ | with_reducible exact ix_xk _ _ _ _) (by first | assumption | rfl) ⟨by omega, by decide⟩ ?_
            refine ev_iconst (v := (nI 2)) dX7_write_41 (by decide) ?_
            refine ev_icmp_ne 49 dX7_write_42 (by decide) (fun hc42 => False.elim (hc42 (by rw [← kk]; exact hk2))) (fun hc42 => ?_)
            refine ev_iload_n dX7_write_45 rfl ?_
            refine ev_if_ge 52 dX7_write_46 (by decide) (fun hc46 => False.elim (by rw [u1] at hc46; exact absurd hc46 (by decide))) (fun hc46 => ?_)
            refine ev_ldc (v := (-1000000003)) dX7_write_49 nX7_187 ?_
            exact ev_iretE dX7_write_51 rfl rfl (by first | rfl | simp_all) (rfl)
        · rcases Nat.lt_or_ge n 40 with hn4 | hn4
          · obtain ⟨hS2, f3, f4⟩ := sim_make (r := j1) (l := j2) hS hn4 hj2 hv hj1
            refine ⟨nI n, (adM 21 n C (nI j2) (nI v) (nI j1)), (mkM n G (nI j1) (nI j2) (nI v)), ?_, ?_, hp.act2 hS2 f3 f4⟩
            · refine ev_aload_n dX6_write_0 rfl ?_
              refine ev_getR dX6_write_1 fX6_23 (by first | assumption | rfl) (by rfl) ?_
              refine ev_iload_n dX6_write_4 rfl ?_
              refine ev_cV1 dX6_write_5 ceX1_hasReader kX6_147 (rm_le rfl rfl) (Nat.le_of_ble_eq_true rfl) (Nat.le_of_ble_eq_true rfl) (e_hasReader) (by first | assumption | rfl) ?_
              rw [r1, c1]
              refine ev_if_eq 22 dX6_write_8 (by decide) (fun hc8 => False.elim (absurd hc8 (by decide))) (fun hc8 => ?_)
              refine ev_aload_n dX6_write_11 rfl ?_
              refine ev_getR dX6_write_12 fX6_23 (by first | assumption | rfl) (by rfl) ?_
              refine ev_iload_n dX6_write_15 rfl ?_
              refine ev_cV1 dX6_write_16 ceX1_hasLine kX6_123 (rm_le rfl rfl) (Nat.le_of_ble_eq_true rfl) (Nat.le_of_ble_eq_true rfl) (e_hasLine) (by first | assumption | rfl) ?_
              rw [l1, c2]
              refine ev_if_ne 25 dX6_write_19 (by decide) (fun hc19 => ?_) (fun hc19 => False.elim (absurd hc19 (by decide)))
              refine ev_aload_n dX6_write_25 rfl ?_
              refine ev_getR dX6_write_26 fX6_23 (by first | assumption | rfl) (by rfl) ?_
              refine ev_getR dX6_write_29 fX6_150 (by first | assumption | rfl) (by rfl) ?_
              refine ev_iload_n dX6_write_32 rfl ?_
              refine ev_ialdE _ dX6_write_33 (rfl) (by first | assumption | rfl) ⟨by omega, by decide⟩ ?_
              refine ev_iconst (v := (nI 2)) dX6_write_34 (by decide) ?_
              refine ev_icmp_ne 50 dX6_write_35 (by decide) (fun hc35 => False.elim (hc35 hk2)) (fun hc35 => ?_)
              refine ev_aload_n dX6_write_38 rfl ?_
              refine ev_getR dX6_write_39 fX6_31 (by first | assumption | rfl) (by rfl) ?_
              refine ev_iload_n dX6_write_42 rfl ?_
              refine ev_iload_n dX6_write_43 rfl ?_
              refine ev_cV2 dX6_write_44 ceX5_knowsAny kX6_174 (rm_le rfl rfl) (Nat.le_of_ble_eq_true rfl) (Nat.le_of_ble_eq_true rfl) (e_knowsAny st_21 (by omega) (by omega)) (by first | assumption | rfl) ?_
              rw [kn1, decide_eq_false u1]
              refine ev_if_ne 53 dX6_write_47 (by decide) (fun hc47 => ?_) (fun hc47 => False.elim (absurd hc47 (by decide)))
              refine ev_aload_n dX6_write_53 rfl ?_
              refine ev_getR dX6_write_54 fX6_31 (by first | assumption | rfl) (by rfl) ?_
              refine ev_iload_n dX6_write_57 rfl ?_
              refine ev_aload_n dX6_write_58 rfl ?_
              refine ev_getR dX6_write_59 fX6_31 (by first | assumption | rfl) (by rfl) ?_
              refine ev_iload_n dX6_write_62 rfl ?_
              refine ev_iload_n dX6_write_63 rfl ?_
              refine ev_cV2 dX6_write_64 ceX5_variantKnown kX6_177 (rm_le rfl rfl) (Nat.le_of_ble_eq_true rfl) (Nat.le_of_ble_eq_true rfl) (e_variantKnown st_21 (by omega) (by omega)) (by first | assumption | rfl) ?_
              refine ev_iload_n dX6_write_67 rfl ?_
              rw [kn1, hv2]
              refine ev_cV3 dX6_write_68 ceX5_addPage kX6_203 (rm_le rfl rfl) (Nat.le_of_ble_eq_true rfl) (Nat.le_of_ble_eq_true rfl) (e_addPage st_21 p1 p3 hn4) (by first | assumption | rfl) ?_
              exact ev_iretE dX6_write_71 rfl rfl (by first | rfl | simp_all) (rfl)
            · refine ev_aload_n dX7_write_0 rfl ?_
              refine ev_iload_n dX7_write_1 rfl ?_
              refine ev_cV1 dX7_write_2 ceX7_isReader kX7_169 (rm_le rfl rfl) (Nat.le_of_ble_eq_true rfl) (Nat.le_of_ble_eq_true rfl) (e7_isReader m2 l6) (by first | assumption | rfl) ?_
              rw [c1]
              refine ev_if_eq 16 dX7_write_5 (by decide) (fun hc5 => False.elim (absurd hc5 (by decide))) (fun hc5 => ?_)
              refine ev_aload_n dX7_write_8 rfl ?_
              refine ev_iload_n dX7_write_9 rfl ?_
              refine ev_cV1 dX7_write_10 ceX7_isLine kX7_161 (rm_le rfl rfl) (Nat.le_of_ble_eq_true rfl) (Nat.le_of_ble_eq_true rfl) (e7_isLine m1 l3) (by first | assumption | rfl) ?_
              rw [c2]
              refine ev_if_ne 19 dX7_write_13 (by decide) (fun hc13 => ?_) (fun hc13 => False.elim (absurd hc13 (by decide)))
              refine ev_aload_n dX7_write_19 rfl ?_
              refine ev_getR dX7_write_20 fX7_7 (by first | assumption | rfl) (by rfl) ?_
              refine ev_sipush (v := (nI 160)) dX7_write_23 (by decide) ?_
              refine ev_bipush (v := (nI 16)) dX7_write_26 (by decide) ?_
              refine ev_iload_n dX7_write_28 rfl ?_
              refine ev_imul dX7_write_29 ?_
              refine ev_iadd dX7_write_30 ?_
              refine ev_iload_n dX7_write_31 rfl ?_
              refine ev_iadd dX7_write_32 ?_
              refine ev_ialdE _ dX7_write_33 (by first | with_reducible rfl | with_reducible exact nI_add _ _ | with_reducible exact ix3 _ _ _ | with_reducible exact ix_k _ _ _ | with_reducible exact ix_xk _ _ _ _) (by first | assumption | rfl) ⟨by omega, by decide⟩ ?_
              refine ev_istore_k 3 dX7_write_34 rfl (by decide) rfl ?_
              refine ev_aload_n dX7_write_35 rfl ?_
              refine ev_getR dX7_write_36 fX7_23 (by first | assumption | rfl) (by rfl) ?_
              refine ev_iload_n dX7_write_39 rfl ?_
              refine ev_ialdE _ dX7_write_40 (by first | with_reducible rfl | with_reducible exact nI_add _ _ | with_reducible exact ix3 _ _ _ | with_reducible exact ix_k _ _ _ | with_reducible exact ix_xk _ _ _ _) (by first | assumption | rfl) ⟨by omega, by decide⟩ ?_
              refine ev_iconst (v := (nI 2)) dX7_write_41 (by decide) ?_
              refine ev_icmp_ne 49 dX7_write_42 (by decide) (fun hc42 => False.elim (hc42 (by rw [← kk]; exact hk2))) (fun hc42 => ?_)
              refine ev_iload_n dX7_write_45 rfl ?_
              refine ev_if_ge 52 dX7_write_46 (by decide) (fun hc46 => ?_) (fun hc46 => False.elim (hc46 (by rw [hv2]; exact nI_pos' (by omega))))
              refine ev_aload_n dX7_write_52 rfl ?_
              refine ev_getR dX7_write_53 fX7_7 (by first | assumption | rfl) (by rfl) ?_
              refine ev_sipush (v := (nI 1332)) dX7_write_56 (by decide) ?_
              refine ev_ialdE _ dX7_write_59 (by first | with_reducible rfl | with_reducible exact nI_add _ _ | with_reducible exact ix3 _ _ _ | with_reducible exact ix_k _ _ _ | with_reducible exact ix_xk _ _ _ _) (by first | assumption | rfl) ⟨by omega, by decide⟩ ?_
              refine ev_bipush (v := (nI 40)) dX7_write_60 (by decide) ?_
              refine ev_icmp_ne 70 dX7_write_62 (by decide) (fun hc62 => ?_) (fun hc62 => False.elim (by rw [p2] at hc62; have := (nI_eq (by omega) (by decide)).mp hc62; omega))
              refine ev_aload_n dX7_write_70 rfl ?_
              refine ev_iload_n dX7_write_71 rfl ?_
              refine ev_iload_n dX7_write_72 rfl ?_
              refine ev_iload_n dX7_write_73 rfl ?_
              rw [hv2]
              refine ev_cV3 dX7_write_74 ceX7_make kX7_202 (rm_le rfl rfl) (Nat.le_of_ble_eq_true rfl) (Nat.le_of_ble_eq_true rfl) (e7_make p2 hn4) (by first | assumption | rfl) ?_
              exact ev_iretE dX7_write_77 rfl rfl (by first | rfl | simp_all) (rfl)
          · have e4 : n = 40 := by omega
            refine ⟨(-1000000004), C, G, ?_, ?_, hR0⟩
            · refine ev_aload_n dX6_write_0 rfl ?_
              refine ev_getR dX6_write_1 fX6_23 (by first | assumption | rfl) (by rfl) ?_
              refine ev_iload_n dX6_write_4 rfl ?_
              refine ev_cV1 dX6_write_5 ceX1_hasReader kX6_147 (rm_le rfl rfl) (Nat.le_of_ble_eq_true rfl) (Nat.le_of_ble_eq_true rfl) (e_hasReader) (by first | assumption | rfl) ?_
              rw [r1, c1]
              refine ev_if_eq 22 dX6_write_8 (by decide) (fun hc8 => False.elim (absurd hc8 (by decide))) (fun hc8 => ?_)
              refine ev_aload_n dX6_write_11 rfl ?_
              refine ev_getR dX6_write_12 fX6_23 (by first | assumption | rfl) (by rfl) ?_
              refine ev_iload_n dX6_write_15 rfl ?_
              refine ev_cV1 dX6_write_16 ceX1_hasLine kX6_123 (rm_le rfl rfl) (Nat.le_of_ble_eq_true rfl) (Nat.le_of_ble_eq_true rfl) (e_hasLine) (by first | assumption | rfl) ?_
              rw [l1, c2]
              refine ev_if_ne 25 dX6_write_19 (by decide) (fun hc19 => ?_) (fun hc19 => False.elim (absurd hc19 (by decide)))
              refine ev_aload_n dX6_write_25 rfl ?_
              refine ev_getR dX6_write_26 fX6_23 (by first | assumption | rfl) (by rfl) ?_
              refine ev_getR dX6_write_29 fX6_150 (by first | assumption | rfl) (by rfl) ?_
              refine ev_iload_n dX6_write_32 rfl ?_
              refine ev_ialdE _ dX6_write_33 (rfl) (by first | assumption | rfl) ⟨by omega, by decide⟩ ?_
              refine ev_iconst (v := (nI 2)) dX6_write_34 (by decide) ?_
              refine ev_icmp_ne 50 dX6_write_35 (by decide) (fun hc35 => False.elim (hc35 hk2)) (fun hc35 => ?_)
              refine ev_aload_n dX6_write_38 rfl ?_
              refine ev_getR dX6_write_39 fX6_31 (by first | assumption | rfl) (by rfl) ?_
              refine ev_iload_n dX6_write_42 rfl ?_
              refine ev_iload_n dX6_write_43 rfl ?_
              refine ev_cV2 dX6_write_44 ceX5_knowsAny kX6_174 (rm_le rfl rfl) (Nat.le_of_ble_eq_true rfl) (Nat.le_of_ble_eq_true rfl) (e_knowsAny st_21 (by omega) (by omega)) (by first | assumption | rfl) ?_
              rw [kn1, decide_eq_false u1]
              refine ev_if_ne 53 dX6_write_47 (by decide) (fun hc47 => ?_) (fun hc47 => False.elim (absurd hc47 (by decide)))
              refine ev_aload_n dX6_write_53 rfl ?_
              refine ev_getR dX6_write_54 fX6_31 (by first | assumption | rfl) (by rfl) ?_
              refine ev_iload_n dX6_write_57 rfl ?_
              refine ev_aload_n dX6_write_58 rfl ?_
              refine ev_getR dX6_write_59 fX6_31 (by first | assumption | rfl) (by rfl) ?_
              refine ev_iload_n dX6_write_62 rfl ?_
              refine ev_iload_n dX6_write_63 rfl ?_
              refine ev_cV2 dX6_write_64 ceX5_variantKnown kX6_177 (rm_le rfl rfl) (Nat.le_of_ble_eq_true rfl) (Nat.le_of_ble_eq_true rfl) (e_variantKnown st_21 (by omega) (by omega)) (by first | assumption | rfl) ?_
              refine ev_iload_n dX6_write_67 rfl ?_
              refine ev_cV3 dX6_write_68 ceX5_addPage kX6_203 (rm_le rfl rfl) (Nat.le_of_ble_eq_true rfl) (Nat.le_of_ble_eq_true rfl) (e_addFull st_21 p1 p3 e4) (by first | assumption | rfl) ?_
              exact ev_iretE dX6_write_71 rfl rfl (by first | rfl | simp_all) (rfl)
            · refine ev_aload_n dX7_write_0 rfl ?_
              refine ev_iload_n dX7_write_1 rfl ?_
              refine ev_cV1 dX7_write_2 ceX7_isReader kX7_169 (rm_le rfl rfl) (Nat.le_of_ble_eq_true rfl) (Nat.le_of_ble_eq_true rfl) (e7_isReader m2 l6) (by first | assumption | rfl) ?_
              rw [c1]
              refine ev_if_eq 16 dX7_write_5 (by decide) (fun hc5 => False.elim (absurd hc5 (by decide))) (fun hc5 => ?_)
              refine ev_aload_n dX7_write_8 rfl ?_
              refine ev_iload_n dX7_write_9 rfl ?_
              refine ev_cV1 dX7_write_10 ceX7_isLine kX7_161 (rm_le rfl rfl) (Nat.le_of_ble_eq_true rfl) (Nat.le_of_ble_eq_true rfl) (e7_isLine m1 l3) (by first | assumption | rfl) ?_
              rw [c2]
              refine ev_if_ne 19 dX7_write_13 (by decide) (fun hc13 => ?_) (fun hc13 => False.elim (absurd hc13 (by decide)))
              refine ev_aload_n dX7_write_19 rfl ?_
              refine ev_getR dX7_write_20 fX7_7 (by first | assumption | rfl) (by rfl) ?_
              refine ev_sipush (v := (nI 160)) dX7_write_23 (by decide) ?_
              refine ev_bipush (v := (nI 16)) dX7_write_26 (by decide) ?_
              refine ev_iload_n dX7_write_28 rfl ?_
              refine ev_imul dX7_write_29 ?_
              refine ev_iadd dX7_write_30 ?_
              refine ev_iload_n dX7_write_31 rfl ?_
              refine ev_iadd dX7_write_32 ?_
              refine ev_ialdE _ dX7_write_33 (by first | with_reducible rfl | with_reducible exact nI_add _ _ | with_reducible exact ix3 _ _ _ | with_reducible exact ix_k _ _ _ | with_reducible exact ix_xk _ _ _ _) (by first | assumption | rfl) ⟨by omega, by decide⟩ ?_
              refine ev_istore_k 3 dX7_write_34 rfl (by decide) rfl ?_
              refine ev_aload_n dX7_write_35 rfl ?_
              refine ev_getR dX7_write_36 fX7_23 (by first | assumption | rfl) (by rfl) ?_
              refine ev_iload_n dX7_write_39 rfl ?_
              refine ev_ialdE _ dX7_write_40 (by first | with_reducible rfl | with_reducible exact nI_add _ _ | with_reducible exact ix3 _ _ _ | with_reducible exact ix_k _ _ _ | with_reducible exact ix_xk _ _ _ _) (by first | assumption | rfl) ⟨by omega, by decide⟩ ?_
              refine ev_iconst (v := (nI 2)) dX7_write_41 (by decide) ?_
              refine ev_icmp_ne 49 dX7_write_42 (by decide) (fun hc42 => False.elim (hc42 (by rw [← kk]; exact hk2))) (fun hc42 => ?_)
              refine ev_iload_n dX7_write_45 rfl ?_
              refine ev_if_ge 52 dX7_write_46 (by decide) (fun hc46 => ?_) (fun hc46 => False.elim (hc46 (by rw [hv2]; exact nI_pos' (by omega))))
              refine ev_aload_n dX7_write_52 rfl ?_
              refine ev_getR dX7_write_53 fX7_7 (by first | assumption | rfl) (by rfl) ?_
              refine ev_sipush (v := (nI 1332)) dX7_write_56 (by decide) ?_
              refine ev_ialdE _ dX7_write_59 (by first | with_reducible rfl | with_reducible exact nI_add _ _ | with_reducible exact ix3 _ _ _ | with_reducible exact ix_k _ _ _ | with_reducible exact ix_xk _ _ _ _) (by first | assumption | rfl) ⟨by omega, by decide⟩ ?_
              refine ev_bipush (v := (nI 40)) dX7_write_60 (by decide) ?_
              refine ev_icmp_ne 70 dX7_write_62 (by decide) (fun hc62 => False.elim (hc62 (by rw [p2, e4]))) (fun hc62 => ?_)
              refine ev_ldc (v := (-1000000004)) dX7_write_65 nX7_67 ?_
              refine ev_goto 77 dX7_write_67 (by decide) ?_
              exact ev_iretE dX7_write_77 rfl rfl (by first | rfl | simp_all) (rfl)
      · refine ⟨(-1000000003), C, G, ?_, ?_, hR0⟩
        · refine ev_aload_n dX6_write_0 rfl ?_
          refine ev_getR dX6_write_1 fX6_23 (by first | assumption | rfl) (by rfl) ?_
          refine ev_iload_n dX6_write_4 rfl ?_
          refine ev_cV1 dX6_write_5 ceX1_hasReader kX6_147 (rm_le rfl rfl) (Nat.le_of_ble_eq_true rfl) (Nat.le_of_ble_eq_true rfl) (e_hasReader) (by first | assumption | rfl) ?_
          rw [r1, c1]
          refine ev_if_eq 22 dX6_write_8 (by decide) (fun hc8 => False.elim (absurd hc8 (by decide))) (fun hc8 => ?_)
          refine ev_aload_n dX6_write_11 rfl ?_
          refine ev_getR dX6_write_12 fX6_23 (by first | assumption | rfl) (by rfl) ?_
          refine ev_iload_n dX6_write_15 rfl ?_
          refine ev_cV1 dX6_write_16 ceX1_hasLine kX6_123 (rm_le rfl rfl) (Nat.le_of_ble_eq_true rfl) (Nat.le_of_ble_eq_true rfl) (e_hasLine) (by first | assumption | rfl) ?_
          rw [l1, c2]
          refine ev_if_ne 25 dX6_write_19 (by decide) (fun hc19 => ?_) (fun hc19 => False.elim (absurd hc19 (by decide)))
          refine ev_aload_n dX6_write_25 rfl ?_
          refine ev_getR dX6_write_26 fX6_23 (by first | assumption | rfl) (by rfl) ?_
          refine ev_getR dX6_write_29 fX6_150 (by first | assumption | rfl) (by rfl) ?_
          refine ev_iload_n dX6_write_32 rfl ?_
          refine ev_ialdE _ dX6_write_33 (rfl) (by first | assumption | rfl) ⟨by omega, by decide⟩ ?_
          refine ev_iconst (v := (nI 2)) dX6_write_34 (by decide) ?_
          refine ev_icmp_ne 50 dX6_write_35 (by decide) (fun hc35 => ?_) (fun hc35 => False.elim (hk2 hc35))
          refine ev_ldc (v := (-1000000003)) dX6_write_50 nX6_194 ?_
          exact ev_iretE dX6_write_52 rfl rfl (by first | rfl | simp_all) (rfl)
        · refine ev_aload_n dX7_write_0 rfl ?_
          refine ev_iload_n dX7_write_1 rfl ?_
          refine ev_cV1 dX7_write_2 ceX7_isReader kX7_169 (rm_le rfl rfl) (Nat.le_of_ble_eq_true rfl) (Nat.le_of_ble_eq_true rfl) (e7_isReader m2 l6) (by first | assumption | rfl) ?_
          rw [c1]
          refine ev_if_eq 16 dX7_write_5 (by decide) (fun hc5 => False.elim (absurd hc5 (by decide))) (fun hc5 => ?_)
          refine ev_aload_n dX7_write_8 rfl ?_
          refine ev_iload_n dX7_write_9 rfl ?_
          refine ev_cV1 dX7_write_10 ceX7_isLine kX7_161 (rm_le rfl rfl) (Nat.le_of_ble_eq_true rfl) (Nat.le_of_ble_eq_true rfl) (e7_isLine m1 l3) (by first | assumption | rfl) ?_
          rw [c2]
          refine ev_if_ne 19 dX7_write_13 (by decide) (fun hc13 => ?_) (fun hc13 => False.elim (absurd hc13 (by decide)))
          refine ev_aload_n dX7_write_19 rfl ?_
          refine ev_getR dX7_write_20 fX7_7 (by first | assumption | rfl) (by rfl) ?_
          refine ev_sipush (v := (nI 160)) dX7_write_23 (by decide) ?_
          refine ev_bipush (v := (nI 16)) dX7_write_26 (by decide) ?_
          refine ev_iload_n dX7_write_28 rfl ?_
          refine ev_imul dX7_write_29 ?_
          refine ev_iadd dX7_write_30 ?_
          refine ev_iload_n dX7_write_31 rfl ?_
          refine ev_iadd dX7_write_32 ?_
          refine ev_ialdE _ dX7_write_33 (by first | with_reducible rfl | with_reducible exact nI_add _ _ | with_reducible exact ix3 _ _ _ | with_reducible exact ix_k _ _ _ | with_reducible exact ix_xk _ _ _ _) (by first | assumption | rfl) ⟨by omega, by decide⟩ ?_
          refine ev_istore_k 3 dX7_write_34 rfl (by decide) rfl ?_
          refine ev_aload_n dX7_write_35 rfl ?_
          refine ev_getR dX7_write_36 fX7_23 (by first | assumption | rfl) (by rfl) ?_
          refine ev_iload_n dX7_write_39 rfl ?_
          refine ev_ialdE _ dX7_write_40 (by first | with_reducible rfl | with_reducible exact nI_add _ _ | with_reducible exact ix3 _ _ _ | with_reducible exact ix_k _ _ _ | with_reducible exact ix_xk _ _ _ _) (by first | assumption | rfl) ⟨by omega, by decide⟩ ?_
          refine ev_iconst (v := (nI 2)) dX7_write_41 (by decide) ?_
          refine ev_icmp_ne 49 dX7_write_42 (by decide) (fun hc42 => ?_) (fun hc42 => False.elim (hk2 (by rw [kk]; exact hc42)))
          refine ev_ldc (v := (-1000000003)) dX7_write_49 nX7_187 ?_
          exact ev_iretE dX7_write_51 rfl rfl (by first | rfl | simp_all) (rfl)
    · refine ⟨(-1000000001), C, G, ?_, ?_, hR0⟩
      · refine ev_aload_n dX6_write_0 rfl ?_
        refine ev_getR dX6_write_1 fX6_23 (by first | assumption | rfl) (by rfl) ?_
        refine ev_iload_n dX6_write_4 rfl ?_
        refine ev_cV1 dX6_write_5 ceX1_hasReader kX6_147 (rm_le rfl rfl) (Nat.le_of_ble_eq_true rfl) (Nat.le_of_ble_eq_true rfl) (e_hasReader) (by first | assumption | rfl) ?_
        rw [r1, c1]
        refine ev_if_eq 22 dX6_write_8 (by decide) (fun hc8 => False.elim (absurd hc8 (by decide))) (fun hc8 => ?_)
        refine ev_aload_n dX6_write_11 rfl ?_
        refine ev_getR dX6_write_12 fX6_23 (by first | assumption | rfl) (by rfl) ?_
        refine ev_iload_n dX6_write_15 rfl ?_
        refine ev_cV1 dX6_write_16 ceX1_hasLine kX6_123 (rm_le rfl rfl) (Nat.le_of_ble_eq_true rfl) (Nat.le_of_ble_eq_true rfl) (e_hasLine) (by first | assumption | rfl) ?_
        rw [l1, c2]
        refine ev_if_ne 25 dX6_write_19 (by decide) (fun hc19 => False.elim (absurd hc19 (by decide))) (fun hc19 => ?_)
        refine ev_ldc (v := (-1000000001)) dX6_write_22 nX6_127 ?_
        exact ev_iretE dX6_write_24 rfl rfl (by first | rfl | simp_all) (rfl)
      · refine ev_aload_n dX7_write_0 rfl ?_
        refine ev_iload_n dX7_write_1 rfl ?_
        refine ev_cV1 dX7_write_2 ceX7_isReader kX7_169 (rm_le rfl rfl) (Nat.le_of_ble_eq_true rfl) (Nat.le_of_ble_eq_true rfl) (e7_isReader m2 l6) (by first | assumption | rfl) ?_
        rw [c1]
        refine ev_if_eq 16 dX7_write_5 (by decide) (fun hc5 => False.elim (absurd hc5 (by decide))) (fun hc5 => ?_)
        refine ev_aload_n dX7_write_8 rfl ?_
        refine ev_iload_n dX7_write_9 rfl ?_
        refine ev_cV1 dX7_write_10 ceX7_isLine kX7_161 (rm_le rfl rfl) (Nat.le_of_ble_eq_true rfl) (Nat.le_of_ble_eq_true rfl) (e7_isLine m1 l3) (by first | assumption | rfl) ?_
        rw [c2]
        refine ev_if_ne 19 dX7_write_13 (by decide) (fun hc13 => False.elim (absurd hc13 (by decide))) (fun hc13 => ?_)
        refine ev_ldc (v := (-1000000001)) dX7_write_16 nX7_165 ?_
        exact ev_iretE dX7_write_18 rfl rfl (by first | rfl | simp_all) (rfl)
  · refine ⟨(-1000000001), C, G, ?_, ?_, hR0⟩
    · refine ev_aload_n dX6_write_0 rfl ?_
      refine ev_getR dX6_write_1 fX6_23 (by first | assumption | rfl) (by rfl) ?_
      refine ev_iload_n dX6_write_4 rfl ?_
      refine ev_cV1 dX6_write_5 ceX1_hasReader kX6_147 (rm_le rfl rfl) (Nat.le_of_ble_eq_true rfl) (Nat.le_of_ble_eq_true rfl) (e_hasReader) (by first | assumption | rfl) ?_
      rw [r1, c1]
      refine ev_if_eq 22 dX6_write_8 (by decide) (fun hc8 => ?_) (fun hc8 => False.elim (absurd hc8 (by decide)))
      refine ev_ldc (v := (-1000000001)) dX6_write_22 nX6_127 ?_
      exact ev_iretE dX6_write_24 rfl rfl (by first | rfl | simp_all) (rfl)
    · refine ev_aload_n dX7_write_0 rfl ?_
      refine ev_iload_n dX7_write_1 rfl ?_
      refine ev_cV1 dX7_write_2 ceX7_isReader kX7_169 (rm_le rfl rfl) (Nat.le_of_ble_eq_true rfl) (Nat.le_of_ble_eq_true rfl) (e7_isReader m2 l6) (by first | assumption | rfl) ?_
      rw [c1]
      refine ev_if_eq 16 dX7_write_5 (by decide) (fun hc5 => ?_) (fun hc5 => False.elim (absurd hc5 (by decide)))
      refine ev_ldc (v := (-1000000001)) dX7_write_16 nX7_165 ?_
      exact ev_iretE dX7_write_18 rfl rfl (by first | rfl | simp_all) (rfl)
set_option maxRecDepth 20000 in
set_option maxHeartbeats 2000000 in
theorem op_copy {r0 p0 : Int32} : OpOk mX6_copy mX7_copy [.int r0, .int p0] := by
  intro C G hR
  have hR0 := hR
  obtain ⟨nl, nr, tm, n, d, nq, tl, nd, b0, b1, kt, hp⟩ := hR
  obtain ⟨hS, hE, hQ, hT, hDr, hI, hkt, hkt3⟩ := id hp
  have hL := hS.1
  obtain ⟨l1, m1, l3, r1, m2, l6, le, lw, lr⟩ := id hL
  obtain ⟨hP, ⟨d1, d2, d3⟩, ⟨s1, s2⟩, hH⟩ := id hS.2.1
  obtain ⟨p1, p2, p3, p4, p5⟩ := id hP
  rw [Nat.zero_add] at p2 d2 s1
  obtain ⟨-, -, k, k', q1, q2, q3, q4, q5⟩ := id hS
  obtain ⟨ke, kl⟩ := q5 rfl
  subst ke
  obtain ⟨-, -, -, kl4⟩ := id kl
  rw [Nat.zero_add] at q3
  rcases ck r0 (show nr < 2 ^ 31 by omega) with ⟨j1, hj1, e1, c1⟩ | c1
  · subst e1
    rcases ck p0 (show n < 2 ^ 31 by omega) with ⟨j2, hj2, e2, c2⟩ | c2
    · subst e2
      obtain ⟨⟨a1, a2, a3, a4⟩, ⟨l, hl, hl2⟩, ⟨s, hs, hs2⟩, ⟨v, hv, hv2⟩, -⟩ := p5 j2 hj2
      simp only [Nat.zero_add] at a1 a2 a3 a4
      have kk := (lr j1 hj1).1
      by_cases hk2 : C 11 j1 = nI 2
      · rcases Nat.lt_or_ge s 9 with hs9 | hs9
        · have hg : (!decide (C (21 + 3) j2 < nI 9)) = false := by rw [hs2, decide_eq_true (nI_lt hs9 (by decide))]; rfl
          have hg2 : ¬ G 1 (80 + j2) = nI 9 := by rw [← a3, hs2]; exact fun z => by have := (nI_eq (by omega) (by decide)).mp z; omega
          rcases Nat.lt_or_ge n 40 with hn4 | hn4
          · obtain ⟨C2, G2, eC, eG, hS2, f3, f4⟩ := sim_read (p := j2) (r := j1) st_21 (by decide) hS hj1 hj2 hs2 hs9
            have x1 : C2 (21 + 1) j2 = nI l := by rw [f3 (21 + 1) (by omega)]; exact hl2
            have x2 : C2 (21 + 2) j2 = nI v := by rw [f3 (21 + 2) (by omega)]; exact hv2
            obtain ⟨⟨b1, b2, -, -⟩, -⟩ := hS2.2.1.1.2.2.2.2 j2 hj2
            simp only [Nat.zero_add] at b1 b2
            rw [x1] at b1
            rw [x2] at b2
            obtain ⟨hS3, f5, f6⟩ := sim_make (r := j1) (l := l) hS2 hn4 hl hv hj1
            have y1 : C2 21 9 = nI n := hS2.2.1.1.1
            have y2 : G2 1 1332 = nI n := by have := hS2.2.1.1.2.1; rw [Nat.zero_add] at this; exact this
            have hfu : (!decide (C 21 9 < nI 40)) = false := by rw [p1, decide_eq_true (nI_lt hn4 (by decide))]; rfl
            refine ⟨nI n, (adM 21 n C2 (nI l) (nI v) (nI j1)), (mkM n G2 (nI j1) (nI l) (nI v)), ?_, ?_, hp.act2 hS3 (f3.to2.tr f5) (f4.tr f6)⟩
            · refine ev_aload_n dX6_copy_0 rfl ?_
              refine ev_getR dX6_copy_1 fX6_23 (by first | assumption | rfl) (by rfl) ?_
              refine ev_iload_n dX6_copy_4 rfl ?_
              refine ev_cV1 dX6_copy_5 ceX1_hasReader kX6_147 (rm_le rfl rfl) (Nat.le_of_ble_eq_true rfl) (Nat.le_of_ble_eq_true rfl) (e_hasReader) (by first | assumption | rfl) ?_
              rw [r1, c1]
              refine ev_if_eq 22 dX6_copy_8 (by decide) (fun hc8 => False.elim (absurd hc8 (by decide))) (fun hc8 => ?_)
              refine ev_aload_n dX6_copy_11 rfl ?_
              refine ev_getR dX6_copy_12 fX6_31 (by first | assumption | rfl) (by rfl) ?_
              refine ev_iload_n dX6_copy_15 rfl ?_
              refine ev_cV1 dX6_copy_16 ceX5_hasPage kX6_159 (rm_le rfl rfl) (Nat.le_of_ble_eq_true rfl) (Nat.le_of_ble_eq_true rfl) (e_hasPage st_21) (by first | assumption | rfl) ?_
              rw [p1, c2]
              refine ev_if_ne 25 dX6_copy_19 (by decide) (fun hc19 => ?_) (fun hc19 => False.elim (absurd hc19 (by decide)))
              refine ev_aload_n dX6_copy_25 rfl ?_
              refine ev_getR dX6_copy_26 fX6_23 (by first | assumption | rfl) (by rfl) ?_
              refine ev_getR dX6_copy_29 fX6_150 (by first | assumption | rfl) (by rfl) ?_
              refine ev_iload_n dX6_copy_32 rfl ?_
              refine ev_ialdE _ dX6_copy_33 (rfl) (by first | assumption | rfl) ⟨by omega, by decide⟩ ?_
              refine ev_iconst (v := (nI 2)) dX6_copy_34 (by decide) ?_
              refine ev_icmp_ne 49 dX6_copy_35 (by decide) (fun hc35 => False.elim (hc35 hk2)) (fun hc35 => ?_)
              refine ev_aload_n dX6_copy_38 rfl ?_
              refine ev_getR dX6_copy_39 fX6_31 (by first | assumption | rfl) (by rfl) ?_
              refine ev_iload_n dX6_copy_42 rfl ?_
              refine ev_cV1 dX6_copy_43 ceX5_isGone kX6_191 (rm_le rfl rfl) (Nat.le_of_ble_eq_true rfl) (Nat.le_of_ble_eq_true rfl) (e_isGone st_21 (by omega)) (by first | assumption | rfl) ?_
              rw [hg]
              refine ev_if_eq 52 dX6_copy_46 (by decide) (fun hc46 => ?_) (fun hc46 => False.elim (absurd hc46 (by decide)))
              refine ev_aload_n dX6_copy_52 rfl ?_
              refine ev_getR dX6_copy_53 fX6_31 (by first | assumption | rfl) (by rfl) ?_
              refine ev_cV0 dX6_copy_56 ceX5_isFull kX6_199 (rm_le rfl rfl) (Nat.le_of_ble_eq_true rfl) (Nat.le_of_ble_eq_true rfl) (e_isFull st_21) (by first | assumption | rfl) ?_
              rw [hfu]
              refine ev_if_eq 65 dX6_copy_59 (by decide) (fun hc59 => ?_) (fun hc59 => False.elim (absurd hc59 (by decide)))
              refine ev_aload_n dX6_copy_65 rfl ?_
              refine ev_getR dX6_copy_66 fX6_31 (by first | assumption | rfl) (by rfl) ?_
              refine ev_iload_n dX6_copy_69 rfl ?_
              refine ev_iload_n dX6_copy_70 rfl ?_
              refine ev_cV2v dX6_copy_71 ceX5_readPage kX6_195 (rm_le rfl rfl) (Nat.le_of_ble_eq_true rfl) (Nat.le_of_ble_eq_true rfl) (eC) (by first | assumption | rfl) ?_
              refine ev_aload_n dX6_copy_74 rfl ?_
              refine ev_getR dX6_copy_75 fX6_31 (by first | assumption | rfl) (by rfl) ?_
              refine ev_aload_n dX6_copy_78 rfl ?_
              refine ev_getR dX6_copy_79 fX6_31 (by first | assumption | rfl) (by rfl) ?_
              refine ev_getR dX6_copy_82 fX6_162 (by first | assumption | rfl) (by rfl) ?_
              refine ev_iload_n dX6_copy_85 rfl ?_
              refine ev_ialdE _ dX6_copy_86 (rfl) (by first | assumption | rfl) ⟨by omega, by decide⟩ ?_
              refine ev_aload_n dX6_copy_87 rfl ?_
              refine ev_getR dX6_copy_88 fX6_31 (by first | assumption | rfl) (by rfl) ?_
              refine ev_getR dX6_copy_91 fX6_165 (by first | assumption | rfl) (by rfl) ?_
              refine ev_iload_n dX6_copy_94 rfl ?_
              refine ev_ialdE _ dX6_copy_95 (rfl) (by first | assumption | rfl) ⟨by omega, by decide⟩ ?_
              refine ev_iload_n dX6_copy_96 rfl ?_
              rw [x1, x2]
              refine ev_cV3 dX6_copy_97 ceX5_addPage kX6_203 (rm_le rfl rfl) (Nat.le_of_ble_eq_true rfl) (Nat.le_of_ble_eq_true rfl) (e_addPage st_21 y1 p3 hn4) (by first | assumption | rfl) ?_
              exact ev_iretE dX6_copy_100 rfl rfl (by first | rfl | simp_all) (rfl)
            · refine ev_aload_n dX7_copy_0 rfl ?_
              refine ev_iload_n dX7_copy_1 rfl ?_
              refine ev_cV1 dX7_copy_2 ceX7_isReader kX7_169 (rm_le rfl rfl) (Nat.le_of_ble_eq_true rfl) (Nat.le_of_ble_eq_true rfl) (e7_isReader m2 l6) (by first | assumption | rfl) ?_
              rw [c1]
              refine ev_if_eq 16 dX7_copy_5 (by decide) (fun hc5 => False.elim (absurd hc5 (by decide))) (fun hc5 => ?_)
              refine ev_aload_n dX7_copy_8 rfl ?_
              refine ev_iload_n dX7_copy_9 rfl ?_
              refine ev_cV1 dX7_copy_10 ceX7_isPage kX7_175 (rm_le rfl rfl) (Nat.le_of_ble_eq_true rfl) (Nat.le_of_ble_eq_true rfl) (e7_isPage p2 p3) (by first | assumption | rfl) ?_
              rw [c2]
              refine ev_if_ne 19 dX7_copy_13 (by decide) (fun hc13 => ?_) (fun hc13 => False.elim (absurd hc13 (by decide)))
              refine ev_aload_n dX7_copy_19 rfl ?_
              refine ev_getR dX7_copy_20 fX7_23 (by first | assumption | rfl) (by rfl) ?_
              refine ev_iload_n dX7_copy_23 rfl ?_
              refine ev_ialdE _ dX7_copy_24 (by first | with_reducible rfl | with_reducible exact nI_add _ _ | with_reducible exact ix3 _ _ _ | with_reducible exact ix_k _ _ _ | with_reducible exact ix_xk _ _ _ _) (by first | assumption | rfl) ⟨by omega, by decide⟩ ?_
              refine ev_iconst (v := (nI 2)) dX7_copy_25 (by decide) ?_
              refine ev_icmp_ne 43 dX7_copy_26 (by decide) (fun hc26 => False.elim (hc26 (by rw [← kk]; exact hk2))) (fun hc26 => ?_)
              refine ev_aload_n dX7_copy_29 rfl ?_
              refine ev_getR dX7_copy_30 fX7_7 (by first | assumption | rfl) (by rfl) ?_
              refine ev_bipush (v := (nI 80)) dX7_copy_33 (by decide) ?_
              refine ev_iload_n dX7_copy_35 rfl ?_
              refine ev_iadd dX7_copy_36 ?_
              refine ev_ialdE _ dX7_copy_37 (by first | with_reducible rfl | with_reducible exact nI_add _ _ | with_reducible exact ix3 _ _ _ | with_reducible exact ix_k _ _ _ | with_reducible exact ix_xk _ _ _ _) (by first | assumption | rfl) ⟨by omega, by decide⟩ ?_
              refine ev_bipush (v := (nI 9)) dX7_copy_38 (by decide) ?_
              refine ev_icmp_ne 46 dX7_copy_40 (by decide) (fun hc40 => ?_) (fun hc40 => False.elim (hg2 hc40))
              refine ev_aload_n dX7_copy_46 rfl ?_
              refine ev_getR dX7_copy_47 fX7_7 (by first | assumption | rfl) (by rfl) ?_
              refine ev_sipush (v := (nI 1332)) dX7_copy_50 (by decide) ?_
              refine ev_ialdE _ dX7_copy_53 (by first | with_reducible rfl | with_reducible exact nI_add _ _ | with_reducible exact ix3 _ _ _ | with_reducible exact ix_k _ _ _ | with_reducible exact ix_xk _ _ _ _) (by first | assumption | rfl) ⟨by omega, by decide⟩ ?_
              refine ev_bipush (v := (nI 40)) dX7_copy_54 (by decide) ?_
              refine ev_icmp_ne 62 dX7_copy_56 (by decide) (fun hc56 => ?_) (fun hc56 => False.elim (by rw [p2] at hc56; have := (nI_eq (by omega) (by decide)).mp hc56; omega))
              refine ev_aload_n dX7_copy_62 rfl ?_
              refine ev_iconst (v := (nI 0)) dX7_copy_63 (by decide) ?_
              refine ev_iload_n dX7_copy_64 rfl ?_
              refine ev_iload_n dX7_copy_65 rfl ?_
              refine ev_cV3v dX7_copy_66 ceX7_readPage kX7_188 (rm_le rfl rfl) (Nat.le_of_ble_eq_true rfl) (Nat.le_of_ble_eq_true rfl) (eG) (by first | assumption | rfl) ?_
              refine ev_aload_n dX7_copy_69 rfl ?_
              refine ev_iload_n dX7_copy_70 rfl ?_
              refine ev_aload_n dX7_copy_71 rfl ?_
              refine ev_getR dX7_copy_72 fX7_7 (by first | assumption | rfl) (by rfl) ?_
              refine ev_iload_n dX7_copy_75 rfl ?_
              refine ev_ialdE _ dX7_copy_76 (by first | with_reducible rfl | with_reducible exact nI_add _ _ | with_reducible exact ix3 _ _ _ | with_reducible exact ix_k _ _ _ | with_reducible exact ix_xk _ _ _ _) (by first | assumption | rfl) ⟨by omega, by decide⟩ ?_
              refine ev_aload_n dX7_copy_77 rfl ?_
              refine ev_getR dX7_copy_78 fX7_7 (by first | assumption | rfl) (by rfl) ?_
              refine ev_bipush (v := (nI 40)) dX7_copy_81 (by decide) ?_
              refine ev_iload_n dX7_copy_83 rfl ?_
              refine ev_iadd dX7_copy_84 ?_
              refine ev_ialdE _ dX7_copy_85 (by first | with_reducible rfl | with_reducible exact nI_add _ _ | with_reducible exact ix3 _ _ _ | with_reducible exact ix_k _ _ _ | with_reducible exact ix_xk _ _ _ _) (by first | assumption | rfl) ⟨by omega, by decide⟩ ?_
              rw [← b1, ← b2]
              refine ev_cV3 dX7_copy_86 ceX7_make kX7_202 (rm_le rfl rfl) (Nat.le_of_ble_eq_true rfl) (Nat.le_of_ble_eq_true rfl) (e7_make y2 hn4) (by first | assumption | rfl) ?_
              exact ev_iretE dX7_copy_89 rfl rfl (by first | rfl | simp_all) (rfl)
          · have e4 : n = 40 := by omega
            have hfu : (!decide (C 21 9 < nI 40)) = true := by rw [p1, e4]; decide
            refine ⟨(-1000000004), C, G, ?_, ?_, hR0⟩
            · refine ev_aload_n dX6_copy_0 rfl ?_
              refine ev_getR dX6_copy_1 fX6_23 (by first | assumption | rfl) (by rfl) ?_
              refine ev_iload_n dX6_copy_4 rfl ?_
              refine ev_cV1 dX6_copy_5 ceX1_hasReader kX6_147 (rm_le rfl rfl) (Nat.le_of_ble_eq_true rfl) (Nat.le_of_ble_eq_true rfl) (e_hasReader) (by first | assumption | rfl) ?_
              rw [r1, c1]
              refine ev_if_eq 22 dX6_copy_8 (by decide) (fun hc8 => False.elim (absurd hc8 (by decide))) (fun hc8 => ?_)
              refine ev_aload_n dX6_copy_11 rfl ?_
              refine ev_getR dX6_copy_12 fX6_31 (by first | assumption | rfl) (by rfl) ?_
              refine ev_iload_n dX6_copy_15 rfl ?_
              refine ev_cV1 dX6_copy_16 ceX5_hasPage kX6_159 (rm_le rfl rfl) (Nat.le_of_ble_eq_true rfl) (Nat.le_of_ble_eq_true rfl) (e_hasPage st_21) (by first | assumption | rfl) ?_
              rw [p1, c2]
              refine ev_if_ne 25 dX6_copy_19 (by decide) (fun hc19 => ?_) (fun hc19 => False.elim (absurd hc19 (by decide)))
              refine ev_aload_n dX6_copy_25 rfl ?_
              refine ev_getR dX6_copy_26 fX6_23 (by first | assumption | rfl) (by rfl) ?_
              refine ev_getR dX6_copy_29 fX6_150 (by first | assumption | rfl) (by rfl) ?_
              refine ev_iload_n dX6_copy_32 rfl ?_
              refine ev_ialdE _ dX6_copy_33 (rfl) (by first | assumption | rfl) ⟨by omega, by decide⟩ ?_
              refine ev_iconst (v := (nI 2)) dX6_copy_34 (by decide) ?_
              refine ev_icmp_ne 49 dX6_copy_35 (by decide) (fun hc35 => False.elim (hc35 hk2)) (fun hc35 => ?_)
              refine ev_aload_n dX6_copy_38 rfl ?_
              refine ev_getR dX6_copy_39 fX6_31 (by first | assumption | rfl) (by rfl) ?_
              refine ev_iload_n dX6_copy_42 rfl ?_
              refine ev_cV1 dX6_copy_43 ceX5_isGone kX6_191 (rm_le rfl rfl) (Nat.le_of_ble_eq_true rfl) (Nat.le_of_ble_eq_true rfl) (e_isGone st_21 (by omega)) (by first | assumption | rfl) ?_
              rw [hg]
              refine ev_if_eq 52 dX6_copy_46 (by decide) (fun hc46 => ?_) (fun hc46 => False.elim (absurd hc46 (by decide)))
              refine ev_aload_n dX6_copy_52 rfl ?_
              refine ev_getR dX6_copy_53 fX6_31 (by first | assumption | rfl) (by rfl) ?_
              refine ev_cV0 dX6_copy_56 ceX5_isFull kX6_199 (rm_le rfl rfl) (Nat.le_of_ble_eq_true rfl) (Nat.le_of_ble_eq_true rfl) (e_isFull st_21) (by first | assumption | rfl) ?_
              rw [hfu]
              refine ev_if_eq 65 dX6_copy_59 (by decide) (fun hc59 => False.elim (absurd hc59 (by decide))) (fun hc59 => ?_)
              refine ev_ldc (v := (-1000000004)) dX6_copy_62 nX6_74 ?_
              exact ev_iretE dX6_copy_64 rfl rfl (by first | rfl | simp_all) (rfl)
            · refine ev_aload_n dX7_copy_0 rfl ?_
              refine ev_iload_n dX7_copy_1 rfl ?_
              refine ev_cV1 dX7_copy_2 ceX7_isReader kX7_169 (rm_le rfl rfl) (Nat.le_of_ble_eq_true rfl) (Nat.le_of_ble_eq_true rfl) (e7_isReader m2 l6) (by first | assumption | rfl) ?_
              rw [c1]
              refine ev_if_eq 16 dX7_copy_5 (by decide) (fun hc5 => False.elim (absurd hc5 (by decide))) (fun hc5 => ?_)
              refine ev_aload_n dX7_copy_8 rfl ?_
              refine ev_iload_n dX7_copy_9 rfl ?_
              refine ev_cV1 dX7_copy_10 ceX7_isPage kX7_175 (rm_le rfl rfl) (Nat.le_of_ble_eq_true rfl) (Nat.le_of_ble_eq_true rfl) (e7_isPage p2 p3) (by first | assumption | rfl) ?_
              rw [c2]
              refine ev_if_ne 19 dX7_copy_13 (by decide) (fun hc13 => ?_) (fun hc13 => False.elim (absurd hc13 (by decide)))
              refine ev_aload_n dX7_copy_19 rfl ?_
              refine ev_getR dX7_copy_20 fX7_23 (by first | assumption | rfl) (by rfl) ?_
              refine ev_iload_n dX7_copy_23 rfl ?_
              refine ev_ialdE _ dX7_copy_24 (by first | with_reducible rfl | with_reducible exact nI_add _ _ | with_reducible exact ix3 _ _ _ | with_reducible exact ix_k _ _ _ | with_reducible exact ix_xk _ _ _ _) (by first | assumption | rfl) ⟨by omega, by decide⟩ ?_
              refine ev_iconst (v := (nI 2)) dX7_copy_25 (by decide) ?_
              refine ev_icmp_ne 43 dX7_copy_26 (by decide) (fun hc26 => False.elim (hc26 (by rw [← kk]; exact hk2))) (fun hc26 => ?_)
              refine ev_aload_n dX7_copy_29 rfl ?_
              refine ev_getR dX7_copy_30 fX7_7 (by first | assumption | rfl) (by rfl) ?_
              refine ev_bipush (v := (nI 80)) dX7_copy_33 (by decide) ?_
              refine ev_iload_n dX7_copy_35 rfl ?_
              refine ev_iadd dX7_copy_36 ?_
              refine ev_ialdE _ dX7_copy_37 (by first | with_reducible rfl | with_reducible exact nI_add _ _ | with_reducible exact ix3 _ _ _ | with_reducible exact ix_k _ _ _ | with_reducible exact ix_xk _ _ _ _) (by first | assumption | rfl) ⟨by omega, by decide⟩ ?_
              refine ev_bipush (v := (nI 9)) dX7_copy_38 (by decide) ?_
              refine ev_icmp_ne 46 dX7_copy_40 (by decide) (fun hc40 => ?_) (fun hc40 => False.elim (hg2 hc40))
              refine ev_aload_n dX7_copy_46 rfl ?_
              refine ev_getR dX7_copy_47 fX7_7 (by first | assumption | rfl) (by rfl) ?_
              refine ev_sipush (v := (nI 1332)) dX7_copy_50 (by decide) ?_
              refine ev_ialdE _ dX7_copy_53 (by first | with_reducible rfl | with_reducible exact nI_add _ _ | with_reducible exact ix3 _ _ _ | with_reducible exact ix_k _ _ _ | with_reducible exact ix_xk _ _ _ _) (by first | assumption | rfl) ⟨by omega, by decide⟩ ?_
              refine ev_bipush (v := (nI 40)) dX7_copy_54 (by decide) ?_
              refine ev_icmp_ne 62 dX7_copy_56 (by decide) (fun hc56 => False.elim (hc56 (by rw [p2, e4]))) (fun hc56 => ?_)
              refine ev_ldc (v := (-1000000004)) dX7_copy_59 nX7_67 ?_
              exact ev_iretE dX7_copy_61 rfl rfl (by first | rfl | simp_all) (rfl)
        · have hs3 : s = 9 := by omega
          have hg : (!decide (C (21 + 3) j2 < nI 9)) = true := by rw [hs2, hs3]; decide
          have hg2 : G 1 (80 + j2) = nI 9 := by rw [← a3, hs2, hs3]
          refine ⟨(-1000000003), C, G, ?_, ?_, hR0⟩
          · refine ev_aload_n dX6_copy_0 rfl ?_
            refine ev_getR dX6_copy_1 fX6_23 (by first | assumption | rfl) (by rfl) ?_
            refine ev_iload_n dX6_copy_4 rfl ?_
            refine ev_cV1 dX6_copy_5 ceX1_hasReader kX6_147 (rm_le rfl rfl) (Nat.le_of_ble_eq_true rfl) (Nat.le_of_ble_eq_true rfl) (e_hasReader) (by first | assumption | rfl) ?_
            rw [r1, c1]
            refine ev_if_eq 22 dX6_copy_8 (by decide) (fun hc8 => False.elim (absurd hc8 (by decide))) (fun hc8 => ?_)
            refine ev_aload_n dX6_copy_11 rfl ?_
            refine ev_getR dX6_copy_12 fX6_31 (by first | assumption | rfl) (by rfl) ?_
            refine ev_iload_n dX6_copy_15 rfl ?_
            refine ev_cV1 dX6_copy_16 ceX5_hasPage kX6_159 (rm_le rfl rfl) (Nat.le_of_ble_eq_true rfl) (Nat.le_of_ble_eq_true rfl) (e_hasPage st_21) (by first | assumption | rfl) ?_
            rw [p1, c2]
            refine ev_if_ne 25 dX6_copy_19 (by decide) (fun hc19 => ?_) (fun hc19 => False.elim (absurd hc19 (by decide)))
            refine ev_aload_n dX6_copy_25 rfl ?_
            refine ev_getR dX6_copy_26 fX6_23 (by first | assumption | rfl) (by rfl) ?_
            refine ev_getR dX6_copy_29 fX6_150 (by first | assumption | rfl) (by rfl) ?_
            refine ev_iload_n dX6_copy_32 rfl ?_
            refine ev_ialdE _ dX6_copy_33 (rfl) (by first | assumption | rfl) ⟨by omega, by decide⟩ ?_
            refine ev_iconst (v := (nI 2)) dX6_copy_34 (by decide) ?_
            refine ev_icmp_ne 49 dX6_copy_35 (by decide) (fun hc35 => False.elim (hc35 hk2)) (fun hc35 => ?_)
            refine ev_aload_n dX6_copy_38 rfl ?_
            refine ev_getR dX6_copy_39 fX6_31 (by first | assumption | rfl) (by rfl) ?_
            refine ev_iload_n dX6_copy_42 rfl ?_
            refine ev_cV1 dX6_copy_43 ceX5_isGone kX6_191 (rm_le rfl rfl) (Nat.le_of_ble_eq_true rfl) (Nat.le_of_ble_eq_true rfl) (e_isGone st_21 (by omega)) (by first | assumption | rfl) ?_
            rw [hg]
            refine ev_if_eq 52 dX6_copy_46 (by decide) (fun hc46 => False.elim (absurd hc46 (by decide))) (fun hc46 => ?_)
            refine ev_ldc (v := (-1000000003)) dX6_copy_49 nX6_194 ?_
            exact ev_iretE dX6_copy_51 rfl rfl (by first | rfl | simp_all) (rfl)
          · refine ev_aload_n dX7_copy_0 rfl ?_
            refine ev_iload_n dX7_copy_1 rfl ?_
            refine ev_cV1 dX7_copy_2 ceX7_isReader kX7_169 (rm_le rfl rfl) (Nat.le_of_ble_eq_true rfl) (Nat.le_of_ble_eq_true rfl) (e7_isReader m2 l6) (by first | assumption | rfl) ?_
            rw [c1]
            refine ev_if_eq 16 dX7_copy_5 (by decide) (fun hc5 => False.elim (absurd hc5 (by decide))) (fun hc5 => ?_)
            refine ev_aload_n dX7_copy_8 rfl ?_
            refine ev_iload_n dX7_copy_9 rfl ?_
            refine ev_cV1 dX7_copy_10 ceX7_isPage kX7_175 (rm_le rfl rfl) (Nat.le_of_ble_eq_true rfl) (Nat.le_of_ble_eq_true rfl) (e7_isPage p2 p3) (by first | assumption | rfl) ?_
            rw [c2]
            refine ev_if_ne 19 dX7_copy_13 (by decide) (fun hc13 => ?_) (fun hc13 => False.elim (absurd hc13 (by decide)))
            refine ev_aload_n dX7_copy_19 rfl ?_
            refine ev_getR dX7_copy_20 fX7_23 (by first | assumption | rfl) (by rfl) ?_
            refine ev_iload_n dX7_copy_23 rfl ?_
            refine ev_ialdE _ dX7_copy_24 (by first | with_reducible rfl | with_reducible exact nI_add _ _ | with_reducible exact ix3 _ _ _ | with_reducible exact ix_k _ _ _ | with_reducible exact ix_xk _ _ _ _) (by first | assumption | rfl) ⟨by omega, by decide⟩ ?_
            refine ev_iconst (v := (nI 2)) dX7_copy_25 (by decide) ?_
            refine ev_icmp_ne 43 dX7_copy_26 (by decide) (fun hc26 => False.elim (hc26 (by rw [← kk]; exact hk2))) (fun hc26 => ?_)
            refine ev_aload_n dX7_copy_29 rfl ?_
            refine ev_getR dX7_copy_30 fX7_7 (by first | assumption | rfl) (by rfl) ?_
            refine ev_bipush (v := (nI 80)) dX7_copy_33 (by decide) ?_
            refine ev_iload_n dX7_copy_35 rfl ?_
            refine ev_iadd dX7_copy_36 ?_
            refine ev_ialdE _ dX7_copy_37 (by first | with_reducible rfl | with_reducible exact nI_add _ _ | with_reducible exact ix3 _ _ _ | with_reducible exact ix_k _ _ _ | with_reducible exact ix_xk _ _ _ _) (by first | assumption | rfl) ⟨by omega, by decide⟩ ?_
            refine ev_bipush (v := (nI 9)) dX7_copy_38 (by decide) ?_
            refine ev_icmp_ne 46 dX7_copy_40 (by decide) (fun hc40 => False.elim (hc40 hg2)) (fun hc40 => ?_)
            refine ev_ldc (v := (-1000000003)) dX7_copy_43 nX7_187 ?_
            exact ev_iretE dX7_copy_45 rfl rfl (by first | rfl | simp_all) (rfl)
      · refine ⟨(-1000000003), C, G, ?_, ?_, hR0⟩
        · refine ev_aload_n dX6_copy_0 rfl ?_
          refine ev_getR dX6_copy_1 fX6_23 (by first | assumption | rfl) (by rfl) ?_
          refine ev_iload_n dX6_copy_4 rfl ?_
          refine ev_cV1 dX6_copy_5 ceX1_hasReader kX6_147 (rm_le rfl rfl) (Nat.le_of_ble_eq_true rfl) (Nat.le_of_ble_eq_true rfl) (e_hasReader) (by first | assumption | rfl) ?_
          rw [r1, c1]
          refine ev_if_eq 22 dX6_copy_8 (by decide) (fun hc8 => False.elim (absurd hc8 (by decide))) (fun hc8 => ?_)
          refine ev_aload_n dX6_copy_11 rfl ?_
          refine ev_getR dX6_copy_12 fX6_31 (by first | assumption | rfl) (by rfl) ?_
          refine ev_iload_n dX6_copy_15 rfl ?_
          refine ev_cV1 dX6_copy_16 ceX5_hasPage kX6_159 (rm_le rfl rfl) (Nat.le_of_ble_eq_true rfl) (Nat.le_of_ble_eq_true rfl) (e_hasPage st_21) (by first | assumption | rfl) ?_
          rw [p1, c2]
          refine ev_if_ne 25 dX6_copy_19 (by decide) (fun hc19 => ?_) (fun hc19 => False.elim (absurd hc19 (by decide)))
          refine ev_aload_n dX6_copy_25 rfl ?_
          refine ev_getR dX6_copy_26 fX6_23 (by first | assumption | rfl) (by rfl) ?_
          refine ev_getR dX6_copy_29 fX6_150 (by first | assumption | rfl) (by rfl) ?_
          refine ev_iload_n dX6_copy_32 rfl ?_
          refine ev_ialdE _ dX6_copy_33 (rfl) (by first | assumption | rfl) ⟨by omega, by decide⟩ ?_
          refine ev_iconst (v := (nI 2)) dX6_copy_34 (by decide) ?_
          refine ev_icmp_ne 49 dX6_copy_35 (by decide) (fun hc35 => ?_) (fun hc35 => False.elim (hk2 hc35))
          refine ev_ldc (v := (-1000000003)) dX6_copy_49 nX6_194 ?_
          exact ev_iretE dX6_copy_51 rfl rfl (by first | rfl | simp_all) (rfl)
        · refine ev_aload_n dX7_copy_0 rfl ?_
          refine ev_iload_n dX7_copy_1 rfl ?_
          refine ev_cV1 dX7_copy_2 ceX7_isReader kX7_169 (rm_le rfl rfl) (Nat.le_of_ble_eq_true rfl) (Nat.le_of_ble_eq_true rfl) (e7_isReader m2 l6) (by first | assumption | rfl) ?_
          rw [c1]
          refine ev_if_eq 16 dX7_copy_5 (by decide) (fun hc5 => False.elim (absurd hc5 (by decide))) (fun hc5 => ?_)
          refine ev_aload_n dX7_copy_8 rfl ?_
          refine ev_iload_n dX7_copy_9 rfl ?_
          refine ev_cV1 dX7_copy_10 ceX7_isPage kX7_175 (rm_le rfl rfl) (Nat.le_of_ble_eq_true rfl) (Nat.le_of_ble_eq_true rfl) (e7_isPage p2 p3) (by first | assumption | rfl) ?_
          rw [c2]
          refine ev_if_ne 19 dX7_copy_13 (by decide) (fun hc13 => ?_) (fun hc13 => False.elim (absurd hc13 (by decide)))
          refine ev_aload_n dX7_copy_19 rfl ?_
          refine ev_getR dX7_copy_20 fX7_23 (by first | assumption | rfl) (by rfl) ?_
          refine ev_iload_n dX7_copy_23 rfl ?_
          refine ev_ialdE _ dX7_copy_24 (by first | with_reducible rfl | with_reducible exact nI_add _ _ | with_reducible exact ix3 _ _ _ | with_reducible exact ix_k _ _ _ | with_reducible exact ix_xk _ _ _ _) (by first | assumption | rfl) ⟨by omega, by decide⟩ ?_
          refine ev_iconst (v := (nI 2)) dX7_copy_25 (by decide) ?_
          refine ev_icmp_ne 43 dX7_copy_26 (by decide) (fun hc26 => ?_) (fun hc26 => False.elim (hk2 (by rw [kk]; exact hc26)))
          refine ev_ldc (v := (-1000000003)) dX7_copy_43 nX7_187 ?_
          exact ev_iretE dX7_copy_45 rfl rfl (by first | rfl | simp_all) (rfl)
    · refine ⟨(-1000000001), C, G, ?_, ?_, hR0⟩
      · refine ev_aload_n dX6_copy_0 rfl ?_
        refine ev_getR dX6_copy_1 fX6_23 (by first | assumption | rfl) (by rfl) ?_
        refine ev_iload_n dX6_copy_4 rfl ?_
        refine ev_cV1 dX6_copy_5 ceX1_hasReader kX6_147 (rm_le rfl rfl) (Nat.le_of_ble_eq_true rfl) (Nat.le_of_ble_eq_true rfl) (e_hasReader) (by first | assumption | rfl) ?_
        rw [r1, c1]
        refine ev_if_eq 22 dX6_copy_8 (by decide) (fun hc8 => False.elim (absurd hc8 (by decide))) (fun hc8 => ?_)
        refine ev_aload_n dX6_copy_11 rfl ?_
        refine ev_getR dX6_copy_12 fX6_31 (by first | assumption | rfl) (by rfl) ?_
        refine ev_iload_n dX6_copy_15 rfl ?_
        refine ev_cV1 dX6_copy_16 ceX5_hasPage kX6_159 (rm_le rfl rfl) (Nat.le_of_ble_eq_true rfl) (Nat.le_of_ble_eq_true rfl) (e_hasPage st_21) (by first | assumption | rfl) ?_
        rw [p1, c2]
        refine ev_if_ne 25 dX6_copy_19 (by decide) (fun hc19 => False.elim (absurd hc19 (by decide))) (fun hc19 => ?_)
        refine ev_ldc (v := (-1000000001)) dX6_copy_22 nX6_127 ?_
        exact ev_iretE dX6_copy_24 rfl rfl (by first | rfl | simp_all) (rfl)
      · refine ev_aload_n dX7_copy_0 rfl ?_
        refine ev_iload_n dX7_copy_1 rfl ?_
        refine ev_cV1 dX7_copy_2 ceX7_isReader kX7_169 (rm_le rfl rfl) (Nat.le_of_ble_eq_true rfl) (Nat.le_of_ble_eq_true rfl) (e7_isReader m2 l6) (by first | assumption | rfl) ?_
        rw [c1]
        refine ev_if_eq 16 dX7_copy_5 (by decide) (fun hc5 => False.elim (absurd hc5 (by decide))) (fun hc5 => ?_)
        refine ev_aload_n dX7_copy_8 rfl ?_
        refine ev_iload_n dX7_copy_9 rfl ?_
        refine ev_cV1 dX7_copy_10 ceX7_isPage kX7_175 (rm_le rfl rfl) (Nat.le_of_ble_eq_true rfl) (Nat.le_of_ble_eq_true rfl) (e7_isPage p2 p3) (by first | assumption | rfl) ?_
        rw [c2]
        refine ev_if_ne 19 dX7_copy_13 (by decide) (fun hc13 => False.elim (absurd hc13 (by decide))) (fun hc13 => ?_)
        refine ev_ldc (v := (-1000000001)) dX7_copy_16 nX7_165 ?_
        exact ev_iretE dX7_copy_18 rfl rfl (by first | rfl | simp_all) (rfl)
  · refine ⟨(-1000000001), C, G, ?_, ?_, hR0⟩
    · refine ev_aload_n dX6_copy_0 rfl ?_
      refine ev_getR dX6_copy_1 fX6_23 (by first | assumption | rfl) (by rfl) ?_
      refine ev_iload_n dX6_copy_4 rfl ?_
      refine ev_cV1 dX6_copy_5 ceX1_hasReader kX6_147 (rm_le rfl rfl) (Nat.le_of_ble_eq_true rfl) (Nat.le_of_ble_eq_true rfl) (e_hasReader) (by first | assumption | rfl) ?_
      rw [r1, c1]
      refine ev_if_eq 22 dX6_copy_8 (by decide) (fun hc8 => ?_) (fun hc8 => False.elim (absurd hc8 (by decide)))
      refine ev_ldc (v := (-1000000001)) dX6_copy_22 nX6_127 ?_
      exact ev_iretE dX6_copy_24 rfl rfl (by first | rfl | simp_all) (rfl)
    · refine ev_aload_n dX7_copy_0 rfl ?_
      refine ev_iload_n dX7_copy_1 rfl ?_
      refine ev_cV1 dX7_copy_2 ceX7_isReader kX7_169 (rm_le rfl rfl) (Nat.le_of_ble_eq_true rfl) (Nat.le_of_ble_eq_true rfl) (e7_isReader m2 l6) (by first | assumption | rfl) ?_
      rw [c1]
      refine ev_if_eq 16 dX7_copy_5 (by decide) (fun hc5 => ?_) (fun hc5 => False.elim (absurd hc5 (by decide)))
      refine ev_ldc (v := (-1000000001)) dX7_copy_16 nX7_165 ?_
      exact ev_iretE dX7_copy_18 rfl rfl (by first | rfl | simp_all) (rfl)
