/-! ops: keep, goBack -/
theorem or_im (b0 b1 : Bool) : (nI ((if b0 then 1 else 0) + (if b1 then 2 else 0)) ||| (nI 1 <<< (nI 0 &&& 31)) = nI (1 + (if b1 then 2 else 0))) ∧ (nI ((if b0 then 1 else 0) + (if b1 then 2 else 0)) ||| (nI 1 <<< (nI 1 &&& 31)) = nI ((if b0 then 1 else 0) + 2)) := by
  cases b0 <;> cases b1 <;> decide
theorem hb_im (b0 b1 : Bool) : hb ((if b0 then 1 else 0) + (if b1 then 2 else 0)) 0 = b0 ∧ hb ((if b0 then 1 else 0) + (if b1 then 2 else 0)) 1 = b1 := by
  cases b0 <;> cases b1 <;> decide
theorem im_lt (b0 b1 : Bool) : (if b0 then 1 else 0) + (if b1 then 2 else 0) < 2 ^ 31 := by
  cases b0 <;> cases b1 <;> decide
theorem En.move {q x z y nl : Nat} {C G C' G' : rf_Mem} (h : En z y nl C G) (hl : nl ≤ 16) (hC : ∀ l, l < 16 → C' (q + 7) l = C (z + 7) l) (hG : ∀ j, j < 1500 → G' 1 (x + j) = G 1 (y + j)) : En q x nl C' G' := by
  intro l hl2
  have e : G' 1 (x + 416 + l) = G 1 (y + 416 + l) := by rw [Nat.add_assoc, Nat.add_assoc]; exact hG _ (by omega)
  rw [hC l (by omega), e]
  exact h l hl2

set_option maxRecDepth 20000 in
set_option maxHeartbeats 2000000 in
theorem op_keep {x : Int32} : OpOk mX6_keep mX7_keep [.int x] := by
  intro C G hR
  have hR0 := hR
  obtain ⟨nl, nr, tm, n, d, nq, tl, nd, b0, b1, kt, hp⟩ := hR
  obtain ⟨hS, hE, hQ, hT, hDr, hI, hkt, hkt3⟩ := id hp
  have hL := hS.1
  obtain ⟨l1, m1, l3, r1, m2, l6, le, lw, lr⟩ := id hL
  obtain ⟨hP, ⟨d1, d2, d3⟩, ⟨s1, s2⟩, hH⟩ := id hS.2.1
  obtain ⟨p1, p2, p3, p4, p5⟩ := id hP
  rw [Nat.zero_add] at p2 d2 s1
  obtain ⟨-, -, k, k', q1, q2, q3, q4, q5⟩ := id hS
  obtain ⟨ke, kl⟩ := q5 rfl
  subst ke
  obtain ⟨-, -, -, kl4⟩ := id kl
  rw [Nat.zero_add] at q3
  rcases rg0 x (m := 1) (by decide) with ⟨v, hv, e, c1, c2, hck⟩ | ⟨hck, c1 | ⟨c1, c2⟩⟩
  · have hv2 : v = 0 ∨ v = 1 := by omega
    subst e
    rcases hv2 with rfl | rfl
    · obtain ⟨Cn, hCn⟩ : ∃ X, X = (rf_set (cpS 45 21 C) 0 6 (C 0 6 ||| (nI 1 <<< (nI 0 &&& 31)))) := ⟨_, rfl⟩
      obtain ⟨Gn, hGn⟩ : ∃ X, X = (rf_set (cpW G 0 3000 1500) 2 0 (nI 1)) := ⟨_, rfl⟩
      obtain ⟨v1, v2, v3, v4, v5, v6, v7⟩ := cpS_v (q := 45) (z := 21) (C := C) (by omega)
      obtain ⟨w1, w2, w3⟩ := cpW_v (G := G) (x := 0) (y := 3000)
      have oC : ∀ a, a ≠ 0 → Cn a = cpS 45 21 C a := fun a ha => by rw [hCn]; exact gs_q _ _ _ ha
      have oC2 : ∀ a, a ≠ 0 → (a < 45 ∨ 57 ≤ a) → Cn a = C a := fun a ha ha2 => by rw [oC a ha]; exact v4 a (by omega)
      have oC0 : ∀ j, j ≠ 6 → Cn 0 j = C 0 j := fun j hj => by rw [hCn, gs_j _ _ hj, v4 0 (by omega)]
      have oG : ∀ a, a ≠ 2 → Gn a = cpW G 0 3000 1500 a := fun a ha => by rw [hGn]; exact gs_q _ _ _ ha
      have oG2 : ∀ a, a ≠ 1 → a ≠ 2 → Gn a = G a := fun a ha ha2 => by rw [oG a ha2]; exact w3 a ha
      have oG3 : ∀ j, j < 3000 ∨ 4500 ≤ j → Gn 1 j = G 1 j := fun j hj => by rw [oG 1 (by omega)]; exact w2 j (by omega)
      have hLn : Lb nl nr tm Cn Gn := hL.frame (fun a ha => oC2 a (by omega) (by omega)) (fun a ha => oG2 a (by omega) (by omega))
      have hSn : Sim true 21 0 n d nl nr tm Cn Gn := hS.frame hLn (fun a _ _ => oC2 a (by omega) (by omega)) (fun j _ _ => oG3 j (by omega))
      have hEn : En 21 0 nl Cn Gn := hE.frame (oC2 _ (by omega) (by omega)) (fun j _ _ => oG3 j (by omega)) l3
      have hSi : Sim true 45 3000 n d nl nr tm Cn Gn := hS.move hLn (by rw [oC 45 (by omega)]; exact v1) (fun p hp9 => by rw [oC (45 + 1) (by omega), oC (45 + 2) (by omega), oC (45 + 3) (by omega), oC (45 + 4) (by omega)]; exact v2 p hp9) (fun j hj => by rw [oC (45 + 5) (by omega), oC (45 + 6) (by omega)]; exact v3 j hj) true ⟨k', by rw [oC _ (by omega), v6]; exact q1, q2⟩ (fun _ => ⟨rfl, by rw [oC _ (by omega)]; exact v6, fun i hi => by rw [oC (45 + 9) (by omega), oC (45 + 10) (by omega), oC (45 + 11) (by omega)]; exact v7 i hi⟩) (fun j hj _ => by rw [oG 1 (by omega)]; exact w1 j hj)
      have hEi : En 45 3000 nl Cn Gn := hE.move l3 (fun l hl9 => by rw [oC _ (by omega)]; exact v5 l hl9) (fun j hj => by rw [oG 1 (by omega)]; exact w1 j hj)
      obtain ⟨i1, i2, i3, i4, i5⟩ := id hI
      have hIn : Is true b1 nl nr tm Cn Gn := by
        refine ⟨?_, ?_, ?_, ?_, ?_⟩
        · rw [hGn, gs_same]; rfl
        · rw [hGn, gs_j _ _ (by decide), w3 2 (by decide)]; exact i2
        · rw [hCn, gs_same, i3]; exact (or_im b0 b1).1
        · exact fun _ => ⟨n, d, hSi, hEi⟩
        · exact fun z => (i5 z).frame hLn (fun a _ _ => oC2 a (by omega) (by omega)) (fun j _ _ => oG3 j (by omega))
      have hRn : Rg Cn Gn := ⟨nl, nr, tm, n, d, nq, tl, nd, true, b1, kt, hSn, hEn, by rw [Rq, oC2 14 (by omega) (by omega), oC2 15 (by omega) (by omega), oC2 16 (by omega) (by omega), oC2 17 (by omega) (by omega), oG2 0 (by omega) (by omega), oG2 9 (by omega) (by omega), oG2 10 (by omega) (by omega), oG2 11 (by omega) (by omega)]; exact hQ, by rw [Tx, oC2 1 (by omega) (by omega), oC2 2 (by omega) (by omega), oG2 0 (by omega) (by omega), oG2 8 (by omega) (by omega)]; exact hT, by rw [Dr, oC0 10 (by omega), oC2 19 (by omega) (by omega), oG2 0 (by omega) (by omega), oG2 13 (by omega) (by omega)]; exact hDr, hIn, by rw [oC2 41 (by omega) (by omega)]; exact hkt, hkt3⟩
      refine ⟨nI 1, Cn, Gn, ?_, ?_, hRn⟩
      · refine ev_iload_n dX6_keep_0 rfl ?_
        refine ev_if_lt 9 dX6_keep_1 (by decide) (fun hc1 => False.elim (c1 hc1)) (fun hc1 => ?_)
        refine ev_iload_n dX6_keep_4 rfl ?_
        refine ev_iconst (v := (nI 2)) dX6_keep_5 (by decide) ?_
        refine ev_icmp_lt 12 dX6_keep_6 (by decide) (fun hc6 => ?_) (fun hc6 => False.elim (hc6 (by decide)))
        refine ev_aload_n dX6_keep_12 rfl ?_
        refine ev_getR dX6_keep_13 fX6_38 (by first | assumption | rfl) (by rfl) ?_
        refine ev_iload_n dX6_keep_16 rfl ?_
        refine ev_aald dX6_keep_17 (by first | assumption | rfl) (vp_in_nI (by decide) (by decide)) (rfl) ?_
        refine ev_aload_n dX6_keep_18 rfl ?_
        refine ev_getR dX6_keep_19 fX6_31 (by first | assumption | rfl) (by rfl) ?_
        refine ev_cV1v dX6_keep_22 ceX5_copyFrom kX6_312 (rm_le rfl rfl) (Nat.le_of_ble_eq_true rfl) (Nat.le_of_ble_eq_true rfl) (e_stCopy st_45 st_21) (by first | assumption | rfl) ?_
        refine ev_aload_n dX6_keep_25 rfl ?_
        refine ev_dup dX6_keep_26 rfl ?_
        refine ev_getI dX6_keep_27 fX6_42 (by first | assumption | rfl) (by rfl) ?_
        refine ev_iconst (v := (nI 1)) dX6_keep_30 (by decide) ?_
        refine ev_iload_n dX6_keep_31 rfl ?_
        refine ev_ishl dX6_keep_32 ?_
        refine ev_ior dX6_keep_33 ?_
        refine ev_put dX6_keep_34 pX6_42 (by first | assumption | rfl) (by rfl) (rfl) (rfl) ?_
        refine ev_iconst (v := (nI 1)) dX6_keep_37 (by decide) ?_
        exact ev_iretE dX6_keep_38 rfl rfl (by first | rfl | simp_all) (by rw [hCn, v4 0 (by omega)])
      · refine ev_iload_n dX7_keep_0 rfl ?_
        refine ev_i2l dX7_keep_1 ?_
        refine ev_lconst (v := 0) dX7_keep_2 rfl ?_
        refine ev_lconst (v := 1) dX7_keep_3 rfl ?_
        refine ev_cS3 dX7_keep_4 ceX7_in kX7_59 (rm_le rfl rfl) (Nat.le_of_ble_eq_true rfl) (Nat.le_of_ble_eq_true rfl) (e7_in) ?_
        rw [in_c _ 0 (nI 1) (by decide) (by decide), hck]
        refine ev_if_ne 13 dX7_keep_7 (by decide) (fun hc7 => ?_) (fun hc7 => False.elim (absurd hc7 (by decide)))
        refine ev_aload_n dX7_keep_13 rfl ?_
        refine ev_iconst (v := (nI 0)) dX7_keep_14 (by decide) ?_
        refine ev_sipush (v := (nI 3000)) dX7_keep_15 (by decide) ?_
        refine ev_sipush (v := (nI 1500)) dX7_keep_18 (by decide) ?_
        refine ev_iload_n dX7_keep_21 rfl ?_
        refine ev_imul dX7_keep_22 ?_
        refine ev_iadd dX7_keep_23 ?_
        rw [show nI 3000 + nI 1500 * nI 0 = nI 3000 from by decide]
        refine ev_cV2v dX7_keep_24 ceX7_copyRow kX7_229 (rm_le rfl rfl) (Nat.le_of_ble_eq_true rfl) (Nat.le_of_ble_eq_true rfl) (e7_copyRow (by decide) (by decide) (by decide)) (by first | assumption | rfl) ?_
        refine ev_aload_n dX7_keep_27 rfl ?_
        refine ev_getR dX7_keep_28 fX7_13 (by first | assumption | rfl) (by rfl) ?_
        refine ev_iload_n dX7_keep_31 rfl ?_
        refine ev_iconst (v := (nI 1)) dX7_keep_32 (by decide) ?_
        refine ev_zastE (0) dX7_keep_33 (rfl) (by first | assumption | rfl) ⟨by decide, by decide⟩ ?_
        refine ev_iconst (v := (nI 1)) dX7_keep_34 (by decide) ?_
        exact ev_iretE dX7_keep_35 rfl rfl (by first | rfl | simp_all) (by rw [hGn, nar1])
    · obtain ⟨Cn, hCn⟩ : ∃ X, X = (rf_set (cpS 57 21 C) 0 6 (C 0 6 ||| (nI 1 <<< (nI 1 &&& 31)))) := ⟨_, rfl⟩
      obtain ⟨Gn, hGn⟩ : ∃ X, X = (rf_set (cpW G 0 4500 1500) 2 1 (nI 1)) := ⟨_, rfl⟩
      obtain ⟨v1, v2, v3, v4, v5, v6, v7⟩ := cpS_v (q := 57) (z := 21) (C := C) (by omega)
      obtain ⟨w1, w2, w3⟩ := cpW_v (G := G) (x := 0) (y := 4500)
      have oC : ∀ a, a ≠ 0 → Cn a = cpS 57 21 C a := fun a ha => by rw [hCn]; exact gs_q _ _ _ ha
      have oC2 : ∀ a, a ≠ 0 → (a < 57 ∨ 69 ≤ a) → Cn a = C a := fun a ha ha2 => by rw [oC a ha]; exact v4 a (by omega)
      have oC0 : ∀ j, j ≠ 6 → Cn 0 j = C 0 j := fun j hj => by rw [hCn, gs_j _ _ hj, v4 0 (by omega)]
      have oG : ∀ a, a ≠ 2 → Gn a = cpW G 0 4500 1500 a := fun a ha => by rw [hGn]; exact gs_q _ _ _ ha
      have oG2 : ∀ a, a ≠ 1 → a ≠ 2 → Gn a = G a := fun a ha ha2 => by rw [oG a ha2]; exact w3 a ha
      have oG3 : ∀ j, j < 4500 ∨ 6000 ≤ j → Gn 1 j = G 1 j := fun j hj => by rw [oG 1 (by omega)]; exact w2 j (by omega)
      have hLn : Lb nl nr tm Cn Gn := hL.frame (fun a ha => oC2 a (by omega) (by omega)) (fun a ha => oG2 a (by omega) (by omega))
      have hSn : Sim true 21 0 n d nl nr tm Cn Gn := hS.frame hLn (fun a _ _ => oC2 a (by omega) (by omega)) (fun j _ _ => oG3 j (by omega))
      have hEn : En 21 0 nl Cn Gn := hE.frame (oC2 _ (by omega) (by omega)) (fun j _ _ => oG3 j (by omega)) l3
      have hSi : Sim true 57 4500 n d nl nr tm Cn Gn := hS.move hLn (by rw [oC 57 (by omega)]; exact v1) (fun p hp9 => by rw [oC (57 + 1) (by omega), oC (57 + 2) (by omega), oC (57 + 3) (by omega), oC (57 + 4) (by omega)]; exact v2 p hp9) (fun j hj => by rw [oC (57 + 5) (by omega), oC (57 + 6) (by omega)]; exact v3 j hj) true ⟨k', by rw [oC _ (by omega), v6]; exact q1, q2⟩ (fun _ => ⟨rfl, by rw [oC _ (by omega)]; exact v6, fun i hi => by rw [oC (57 + 9) (by omega), oC (57 + 10) (by omega), oC (57 + 11) (by omega)]; exact v7 i hi⟩) (fun j hj _ => by rw [oG 1 (by omega)]; exact w1 j hj)
      have hEi : En 57 4500 nl Cn Gn := hE.move l3 (fun l hl9 => by rw [oC _ (by omega)]; exact v5 l hl9) (fun j hj => by rw [oG 1 (by omega)]; exact w1 j hj)
      obtain ⟨i1, i2, i3, i4, i5⟩ := id hI
      have hIn : Is b0 true nl nr tm Cn Gn := by
        refine ⟨?_, ?_, ?_, ?_, ?_⟩
        · rw [hGn, gs_j _ _ (by decide), w3 2 (by decide)]; exact i1
        · rw [hGn, gs_same]; rfl
        · rw [hCn, gs_same, i3]; exact (or_im b0 b1).2
        · exact fun z => (i4 z).frame hLn (fun a _ _ => oC2 a (by omega) (by omega)) (fun j _ _ => oG3 j (by omega))
        · exact fun _ => ⟨n, d, hSi, hEi⟩
      have hRn : Rg Cn Gn := ⟨nl, nr, tm, n, d, nq, tl, nd, b0, true, kt, hSn, hEn, by rw [Rq, oC2 14 (by omega) (by omega), oC2 15 (by omega) (by omega), oC2 16 (by omega) (by omega), oC2 17 (by omega) (by omega), oG2 0 (by omega) (by omega), oG2 9 (by omega) (by omega), oG2 10 (by omega) (by omega), oG2 11 (by omega) (by omega)]; exact hQ, by rw [Tx, oC2 1 (by omega) (by omega), oC2 2 (by omega) (by omega), oG2 0 (by omega) (by omega), oG2 8 (by omega) (by omega)]; exact hT, by rw [Dr, oC0 10 (by omega), oC2 19 (by omega) (by omega), oG2 0 (by omega) (by omega), oG2 13 (by omega) (by omega)]; exact hDr, hIn, by rw [oC2 41 (by omega) (by omega)]; exact hkt, hkt3⟩
      refine ⟨nI 1, Cn, Gn, ?_, ?_, hRn⟩
      · refine ev_iload_n dX6_keep_0 rfl ?_
        refine ev_if_lt 9 dX6_keep_1 (by decide) (fun hc1 => False.elim (c1 hc1)) (fun hc1 => ?_)
        refine ev_iload_n dX6_keep_4 rfl ?_
        refine ev_iconst (v := (nI 2)) dX6_keep_5 (by decide) ?_
        refine ev_icmp_lt 12 dX6_keep_6 (by decide) (fun hc6 => ?_) (fun hc6 => False.elim (hc6 (by decide)))
        refine ev_aload_n dX6_keep_12 rfl ?_
        refine ev_getR dX6_keep_13 fX6_38 (by first | assumption | rfl) (by rfl) ?_
        refine ev_iload_n dX6_keep_16 rfl ?_
        refine ev_aald dX6_keep_17 (by first | assumption | rfl) (vp_in_nI (by decide) (by decide)) (rfl) ?_
        refine ev_aload_n dX6_keep_18 rfl ?_
        refine ev_getR dX6_keep_19 fX6_31 (by first | assumption | rfl) (by rfl) ?_
        refine ev_cV1v dX6_keep_22 ceX5_copyFrom kX6_312 (rm_le rfl rfl) (Nat.le_of_ble_eq_true rfl) (Nat.le_of_ble_eq_true rfl) (e_stCopy st_57 st_21) (by first | assumption | rfl) ?_
        refine ev_aload_n dX6_keep_25 rfl ?_
        refine ev_dup dX6_keep_26 rfl ?_
        refine ev_getI dX6_keep_27 fX6_42 (by first | assumption | rfl) (by rfl) ?_
        refine ev_iconst (v := (nI 1)) dX6_keep_30 (by decide) ?_
        refine ev_iload_n dX6_keep_31 rfl ?_
        refine ev_ishl dX6_keep_32 ?_
        refine ev_ior dX6_keep_33 ?_
        refine ev_put dX6_keep_34 pX6_42 (by first | assumption | rfl) (by rfl) (rfl) (rfl) ?_
        refine ev_iconst (v := (nI 1)) dX6_keep_37 (by decide) ?_
        exact ev_iretE dX6_keep_38 rfl rfl (by first | rfl | simp_all) (by rw [hCn, v4 0 (by omega)])
      · refine ev_iload_n dX7_keep_0 rfl ?_
        refine ev_i2l dX7_keep_1 ?_
        refine ev_lconst (v := 0) dX7_keep_2 rfl ?_
        refine ev_lconst (v := 1) dX7_keep_3 rfl ?_
        refine ev_cS3 dX7_keep_4 ceX7_in kX7_59 (rm_le rfl rfl) (Nat.le_of_ble_eq_true rfl) (Nat.le_of_ble_eq_true rfl) (e7_in) ?_
        rw [in_c _ 0 (nI 1) (by decide) (by decide), hck]
        refine ev_if_ne 13 dX7_keep_7 (by decide) (fun hc7 => ?_) (fun hc7 => False.elim (absurd hc7 (by decide)))
        refine ev_aload_n dX7_keep_13 rfl ?_
        refine ev_iconst (v := (nI 0)) dX7_keep_14 (by decide) ?_
        refine ev_sipush (v := (nI 3000)) dX7_keep_15 (by decide) ?_
        refine ev_sipush (v := (nI 1500)) dX7_keep_18 (by decide) ?_
        refine ev_iload_n dX7_keep_21 rfl ?_
        refine ev_imul dX7_keep_22 ?_
        refine ev_iadd dX7_keep_23 ?_
        rw [show nI 3000 + nI 1500 * nI 1 = nI 4500 from by decide]
        refine ev_cV2v dX7_keep_24 ceX7_copyRow kX7_229 (rm_le rfl rfl) (Nat.le_of_ble_eq_true rfl) (Nat.le_of_ble_eq_true rfl) (e7_copyRow (by decide) (by decide) (by decide)) (by first | assumption | rfl) ?_
        refine ev_aload_n dX7_keep_27 rfl ?_
        refine ev_getR dX7_keep_28 fX7_13 (by first | assumption | rfl) (by rfl) ?_
        refine ev_iload_n dX7_keep_31 rfl ?_
        refine ev_iconst (v := (nI 1)) dX7_keep_32 (by decide) ?_
        refine ev_zastE (1) dX7_keep_33 (rfl) (by first | assumption | rfl) ⟨by decide, by decide⟩ ?_
        refine ev_iconst (v := (nI 1)) dX7_keep_34 (by decide) ?_
        exact ev_iretE dX7_keep_35 rfl rfl (by first | rfl | simp_all) (by rw [hGn, nar1])
  · refine ⟨(-1000000001), C, G, ?_, ?_, hR0⟩
    · refine ev_iload_n dX6_keep_0 rfl ?_
      refine ev_if_lt 9 dX6_keep_1 (by decide) (fun hc1 => ?_) (fun hc1 => False.elim (hc1 c1))
      refine ev_ldc (v := (-1000000001)) dX6_keep_9 nX6_127 ?_
      exact ev_iretE dX6_keep_11 rfl rfl (by first | rfl | simp_all) (rfl)
    · refine ev_iload_n dX7_keep_0 rfl ?_
      refine ev_i2l dX7_keep_1 ?_
      refine ev_lconst (v := 0) dX7_keep_2 rfl ?_
      refine ev_lconst (v := 1) dX7_keep_3 rfl ?_
      refine ev_cS3 dX7_keep_4 ceX7_in kX7_59 (rm_le rfl rfl) (Nat.le_of_ble_eq_true rfl) (Nat.le_of_ble_eq_true rfl) (e7_in) ?_
      rw [in_c _ 0 (nI 1) (by decide) (by decide), hck]
      refine ev_if_ne 13 dX7_keep_7 (by decide) (fun hc7 => False.elim (absurd hc7 (by decide))) (fun hc7 => ?_)
      refine ev_ldc (v := (-1000000001)) dX7_keep_10 nX7_165 ?_
      exact ev_iretE dX7_keep_12 rfl rfl (by first | rfl | simp_all) (rfl)
  · have c3 : ¬ x < nI 2 := fun z => c2 (by rw [fa_lt, nI_toInt (by decide)] at z; rw [fa_le, nI_toInt (by decide)]; omega)
    refine ⟨(-1000000001), C, G, ?_, ?_, hR0⟩
    · refine ev_iload_n dX6_keep_0 rfl ?_
      refine ev_if_lt 9 dX6_keep_1 (by decide) (fun hc1 => False.elim (c1 hc1)) (fun hc1 => ?_)
      refine ev_iload_n dX6_keep_4 rfl ?_
      refine ev_iconst (v := (nI 2)) dX6_keep_5 (by decide) ?_
      refine ev_icmp_lt 12 dX6_keep_6 (by decide) (fun hc6 => False.elim (c3 hc6)) (fun hc6 => ?_)
      refine ev_ldc (v := (-1000000001)) dX6_keep_9 nX6_127 ?_
      exact ev_iretE dX6_keep_11 rfl rfl (by first | rfl | simp_all) (rfl)
    · refine ev_iload_n dX7_keep_0 rfl ?_
      refine ev_i2l dX7_keep_1 ?_
      refine ev_lconst (v := 0) dX7_keep_2 rfl ?_
      refine ev_lconst (v := 1) dX7_keep_3 rfl ?_
      refine ev_cS3 dX7_keep_4 ceX7_in kX7_59 (rm_le rfl rfl) (Nat.le_of_ble_eq_true rfl) (Nat.le_of_ble_eq_true rfl) (e7_in) ?_
      rw [in_c _ 0 (nI 1) (by decide) (by decide), hck]
      refine ev_if_ne 13 dX7_keep_7 (by decide) (fun hc7 => False.elim (absurd hc7 (by decide))) (fun hc7 => ?_)
      refine ev_ldc (v := (-1000000001)) dX7_keep_10 nX7_165 ?_
      exact ev_iretE dX7_keep_12 rfl rfl (by first | rfl | simp_all) (rfl)
set_option maxRecDepth 20000 in
set_option maxHeartbeats 2000000 in
theorem op_goBack {x : Int32} : OpOk mX6_goBack mX7_goBack [.int x] := by
  intro C G hR
  have hR0 := hR
  obtain ⟨nl, nr, tm, n, d, nq, tl, nd, b0, b1, kt, hp⟩ := hR
  obtain ⟨hS, hE, hQ, hT, hDr, hI, hkt, hkt3⟩ := id hp
  have hL := hS.1
  obtain ⟨l1, m1, l3, r1, m2, l6, le, lw, lr⟩ := id hL
  obtain ⟨hP, ⟨d1, d2, d3⟩, ⟨s1, s2⟩, hH⟩ := id hS.2.1
  obtain ⟨p1, p2, p3, p4, p5⟩ := id hP
  rw [Nat.zero_add] at p2 d2 s1
  obtain ⟨-, -, k, k', q1, q2, q3, q4, q5⟩ := id hS
  obtain ⟨ke, kl⟩ := q5 rfl
  subst ke
  obtain ⟨-, -, -, kl4⟩ := id kl
  rw [Nat.zero_add] at q3
  rcases rg0 x (m := 1) (by decide) with ⟨v, hv, e, c1, c2, hck⟩ | ⟨hck, c1 | ⟨c1, c2⟩⟩
  · have hv2 : v = 0 ∨ v = 1 := by omega
    subst e
    obtain ⟨i1, i2, i3, i4, i5⟩ := id hI
    rcases hv2 with rfl | rfl
    · cases hbb : b0 with
        | false =>
          rw [hbb] at i1
          refine ⟨(-1000000003), C, G, ?_, ?_, hR0⟩
          · refine ev_iload_n dX6_goBack_0 rfl ?_
            refine ev_if_lt 9 dX6_goBack_1 (by decide) (fun hc1 => False.elim (c1 hc1)) (fun hc1 => ?_)
            refine ev_iload_n dX6_goBack_4 rfl ?_
            refine ev_iconst (v := (nI 2)) dX6_goBack_5 (by decide) ?_
            refine ev_icmp_lt 12 dX6_goBack_6 (by decide) (fun hc6 => ?_) (fun hc6 => False.elim (hc6 (by decide)))
            refine ev_aload_n dX6_goBack_12 rfl ?_
            refine ev_getI dX6_goBack_13 fX6_42 (by first | assumption | rfl) (by rfl) ?_
            refine ev_iload_n dX6_goBack_16 rfl ?_
            rw [i3]
            refine ev_cS2 dX6_goBack_17 ceX6_has kX6_265 (rm_le rfl rfl) (Nat.le_of_ble_eq_true rfl) (Nat.le_of_ble_eq_true rfl) (e_hasN (im_lt b0 b1) (by decide)) ?_
            rw [(hb_im b0 b1).1, hbb]
            refine ev_if_ne 26 dX6_goBack_20 (by decide) (fun hc20 => False.elim (absurd hc20 (by decide))) (fun hc20 => ?_)
            refine ev_ldc (v := (-1000000003)) dX6_goBack_23 nX6_194 ?_
            exact ev_iretE dX6_goBack_25 rfl rfl (by first | rfl | simp_all) (rfl)
          · refine ev_iload_n dX7_goBack_0 rfl ?_
            refine ev_i2l dX7_goBack_1 ?_
            refine ev_lconst (v := 0) dX7_goBack_2 rfl ?_
            refine ev_lconst (v := 1) dX7_goBack_3 rfl ?_
            refine ev_cS3 dX7_goBack_4 ceX7_in kX7_59 (rm_le rfl rfl) (Nat.le_of_ble_eq_true rfl) (Nat.le_of_ble_eq_true rfl) (e7_in) ?_
            rw [in_c _ 0 (nI 1) (by decide) (by decide), hck]
            refine ev_if_ne 13 dX7_goBack_7 (by decide) (fun hc7 => ?_) (fun hc7 => False.elim (absurd hc7 (by decide)))
            refine ev_aload_n dX7_goBack_13 rfl ?_
            refine ev_getR dX7_goBack_14 fX7_13 (by first | assumption | rfl) (by rfl) ?_
            refine ev_iload_n dX7_goBack_17 rfl ?_
            refine ev_zaldE (0) dX7_goBack_18 (rfl) (by first | assumption | rfl) ⟨by decide, by decide⟩ ?_
            rw [i1]
            refine ev_if_ne 25 dX7_goBack_19 (by decide) (fun hc19 => False.elim (absurd hc19 (by decide))) (fun hc19 => ?_)
            refine ev_ldc (v := (-1000000003)) dX7_goBack_22 nX7_187 ?_
            exact ev_iretE dX7_goBack_24 rfl rfl (by first | rfl | simp_all) (rfl)
        | true =>
          rw [hbb] at i1
          obtain ⟨ni, di, hSi, hEi⟩ := i4 hbb
          obtain ⟨v1, v2, v3, v4, v5, v6, v7⟩ := cpS_v (q := 21) (z := 45) (C := C) (by omega)
          obtain ⟨w1, w2, w3⟩ := cpW_v (G := G) (x := 3000) (y := 0)
          have hLn : Lb nl nr tm (cpS 21 45 C) (cpW G 3000 0 1500) := hL.frame (fun a ha => v4 a (by omega)) (fun a ha => w3 a (by omega))
          obtain ⟨-, -, kk, kk', z1, z2, -⟩ := id hSi
          have hSn : Sim true 21 0 ni di nl nr tm (cpS 21 45 C) (cpW G 3000 0 1500) := hSi.move hLn v1 v2 v3 true ⟨kk, by rw [v6]; exact z1, z2⟩ (fun _ => ⟨rfl, v6, v7⟩) (fun j hj _ => w1 j hj)
          have hEn : En 21 0 nl (cpS 21 45 C) (cpW G 3000 0 1500) := hEi.move l3 v5 w1
          have hRn : Rg (cpS 21 45 C) (cpW G 3000 0 1500) := ⟨nl, nr, tm, ni, di, nq, tl, nd, b0, b1, kt, hSn, hEn, by rw [Rq, v4 14 (by omega), v4 15 (by omega), v4 16 (by omega), v4 17 (by omega), w3 0 (by omega), w3 9 (by omega), w3 10 (by omega), w3 11 (by omega)]; exact hQ, by rw [Tx, v4 1 (by omega), v4 2 (by omega), w3 0 (by omega), w3 8 (by omega)]; exact hT, by rw [Dr, v4 0 (by omega), v4 19 (by omega), w3 0 (by omega), w3 13 (by omega)]; exact hDr, by rw [Is, v4 0 (by omega), w3 2 (by omega)]; exact ⟨by first | exact i1 | (rw [hbb]; exact i1), by first | exact i2 | (rw [hbb]; exact i2), i3, fun z => (i4 z).frame hLn (fun a _ _ => v4 a (by omega)) (fun j _ _ => w2 j (by omega)), fun z => (i5 z).frame hLn (fun a _ _ => v4 a (by omega)) (fun j _ _ => w2 j (by omega))⟩, by rw [v4 41 (by omega)]; exact hkt, hkt3⟩
          refine ⟨nI 1, (cpS 21 45 C), (cpW G 3000 0 1500), ?_, ?_, hRn⟩
          · refine ev_iload_n dX6_goBack_0 rfl ?_
            refine ev_if_lt 9 dX6_goBack_1 (by decide) (fun hc1 => False.elim (c1 hc1)) (fun hc1 => ?_)
            refine ev_iload_n dX6_goBack_4 rfl ?_
            refine ev_iconst (v := (nI 2)) dX6_goBack_5 (by decide) ?_
            refine ev_icmp_lt 12 dX6_goBack_6 (by decide) (fun hc6 => ?_) (fun hc6 => False.elim (hc6 (by decide)))
            refine ev_aload_n dX6_goBack_12 rfl ?_
            refine ev_getI dX6_goBack_13 fX6_42 (by first | assumption | rfl) (by rfl) ?_
            refine ev_iload_n dX6_goBack_16 rfl ?_
            rw [i3]
            refine ev_cS2 dX6_goBack_17 ceX6_has kX6_265 (rm_le rfl rfl) (Nat.le_of_ble_eq_true rfl) (Nat.le_of_ble_eq_true rfl) (e_hasN (im_lt b0 b1) (by decide)) ?_
            rw [(hb_im b0 b1).1, hbb]
            refine ev_if_ne 26 dX6_goBack_20 (by decide) (fun hc20 => ?_) (fun hc20 => False.elim (absurd hc20 (by decide)))
            refine ev_aload_n dX6_goBack_26 rfl ?_
            refine ev_getR dX6_goBack_27 fX6_31 (by first | assumption | rfl) (by rfl) ?_
            refine ev_aload_n dX6_goBack_30 rfl ?_
            refine ev_getR dX6_goBack_31 fX6_38 (by first | assumption | rfl) (by rfl) ?_
            refine ev_iload_n dX6_goBack_34 rfl ?_
            refine ev_aald dX6_goBack_35 (by first | assumption | rfl) (vp_in_nI (by decide) (by decide)) (rfl) ?_
            refine ev_cV1v dX6_goBack_36 ceX5_copyFrom kX6_312 (rm_le rfl rfl) (Nat.le_of_ble_eq_true rfl) (Nat.le_of_ble_eq_true rfl) (e_stCopy st_21 st_45) (by first | assumption | rfl) ?_
            refine ev_iconst (v := (nI 1)) dX6_goBack_39 (by decide) ?_
            exact ev_iretE dX6_goBack_40 rfl rfl (by first | rfl | simp_all) (rfl)
          · refine ev_iload_n dX7_goBack_0 rfl ?_
            refine ev_i2l dX7_goBack_1 ?_
            refine ev_lconst (v := 0) dX7_goBack_2 rfl ?_
            refine ev_lconst (v := 1) dX7_goBack_3 rfl ?_
            refine ev_cS3 dX7_goBack_4 ceX7_in kX7_59 (rm_le rfl rfl) (Nat.le_of_ble_eq_true rfl) (Nat.le_of_ble_eq_true rfl) (e7_in) ?_
            rw [in_c _ 0 (nI 1) (by decide) (by decide), hck]
            refine ev_if_ne 13 dX7_goBack_7 (by decide) (fun hc7 => ?_) (fun hc7 => False.elim (absurd hc7 (by decide)))
            refine ev_aload_n dX7_goBack_13 rfl ?_
            refine ev_getR dX7_goBack_14 fX7_13 (by first | assumption | rfl) (by rfl) ?_
            refine ev_iload_n dX7_goBack_17 rfl ?_
            refine ev_zaldE (0) dX7_goBack_18 (rfl) (by first | assumption | rfl) ⟨by decide, by decide⟩ ?_
            rw [i1]
            refine ev_if_ne 25 dX7_goBack_19 (by decide) (fun hc19 => ?_) (fun hc19 => False.elim (absurd hc19 (by decide)))
            refine ev_aload_n dX7_goBack_25 rfl ?_
            refine ev_sipush (v := (nI 3000)) dX7_goBack_26 (by decide) ?_
            refine ev_sipush (v := (nI 1500)) dX7_goBack_29 (by decide) ?_
            refine ev_iload_n dX7_goBack_32 rfl ?_
            refine ev_imul dX7_goBack_33 ?_
            refine ev_iadd dX7_goBack_34 ?_
            refine ev_iconst (v := (nI 0)) dX7_goBack_35 (by decide) ?_
            rw [show nI 3000 + nI 1500 * nI 0 = nI 3000 from by decide]
            refine ev_cV2v dX7_goBack_36 ceX7_copyRow kX7_229 (rm_le rfl rfl) (Nat.le_of_ble_eq_true rfl) (Nat.le_of_ble_eq_true rfl) (e7_copyRow (by decide) (by decide) (by decide)) (by first | assumption | rfl) ?_
            refine ev_iconst (v := (nI 1)) dX7_goBack_39 (by decide) ?_
            exact ev_iretE dX7_goBack_40 rfl rfl (by first | rfl | simp_all) (rfl)
    · cases hbb : b1 with
        | false =>
          rw [hbb] at i2
          refine ⟨(-1000000003), C, G, ?_, ?_, hR0⟩
          · refine ev_iload_n dX6_goBack_0 rfl ?_
            refine ev_if_lt 9 dX6_goBack_1 (by decide) (fun hc1 => False.elim (c1 hc1)) (fun hc1 => ?_)
            refine ev_iload_n dX6_goBack_4 rfl ?_
            refine ev_iconst (v := (nI 2)) dX6_goBack_5 (by decide) ?_
            refine ev_icmp_lt 12 dX6_goBack_6 (by decide) (fun hc6 => ?_) (fun hc6 => False.elim (hc6 (by decide)))
            refine ev_aload_n dX6_goBack_12 rfl ?_
            refine ev_getI dX6_goBack_13 fX6_42 (by first | assumption | rfl) (by rfl) ?_
            refine ev_iload_n dX6_goBack_16 rfl ?_
            rw [i3]
            refine ev_cS2 dX6_goBack_17 ceX6_has kX6_265 (rm_le rfl rfl) (Nat.le_of_ble_eq_true rfl) (Nat.le_of_ble_eq_true rfl) (e_hasN (im_lt b0 b1) (by decide)) ?_
            rw [(hb_im b0 b1).2, hbb]
            refine ev_if_ne 26 dX6_goBack_20 (by decide) (fun hc20 => False.elim (absurd hc20 (by decide))) (fun hc20 => ?_)
            refine ev_ldc (v := (-1000000003)) dX6_goBack_23 nX6_194 ?_
            exact ev_iretE dX6_goBack_25 rfl rfl (by first | rfl | simp_all) (rfl)
          · refine ev_iload_n dX7_goBack_0 rfl ?_
            refine ev_i2l dX7_goBack_1 ?_
            refine ev_lconst (v := 0) dX7_goBack_2 rfl ?_
            refine ev_lconst (v := 1) dX7_goBack_3 rfl ?_
            refine ev_cS3 dX7_goBack_4 ceX7_in kX7_59 (rm_le rfl rfl) (Nat.le_of_ble_eq_true rfl) (Nat.le_of_ble_eq_true rfl) (e7_in) ?_
            rw [in_c _ 0 (nI 1) (by decide) (by decide), hck]
            refine ev_if_ne 13 dX7_goBack_7 (by decide) (fun hc7 => ?_) (fun hc7 => False.elim (absurd hc7 (by decide)))
            refine ev_aload_n dX7_goBack_13 rfl ?_
            refine ev_getR dX7_goBack_14 fX7_13 (by first | assumption | rfl) (by rfl) ?_
            refine ev_iload_n dX7_goBack_17 rfl ?_
            refine ev_zaldE (1) dX7_goBack_18 (rfl) (by first | assumption | rfl) ⟨by decide, by decide⟩ ?_
            rw [i2]
            refine ev_if_ne 25 dX7_goBack_19 (by decide) (fun hc19 => False.elim (absurd hc19 (by decide))) (fun hc19 => ?_)
            refine ev_ldc (v := (-1000000003)) dX7_goBack_22 nX7_187 ?_
            exact ev_iretE dX7_goBack_24 rfl rfl (by first | rfl | simp_all) (rfl)
        | true =>
          rw [hbb] at i2
          obtain ⟨ni, di, hSi, hEi⟩ := i5 hbb
          obtain ⟨v1, v2, v3, v4, v5, v6, v7⟩ := cpS_v (q := 21) (z := 57) (C := C) (by omega)
          obtain ⟨w1, w2, w3⟩ := cpW_v (G := G) (x := 4500) (y := 0)
          have hLn : Lb nl nr tm (cpS 21 57 C) (cpW G 4500 0 1500) := hL.frame (fun a ha => v4 a (by omega)) (fun a ha => w3 a (by omega))
          obtain ⟨-, -, kk, kk', z1, z2, -⟩ := id hSi
          have hSn : Sim true 21 0 ni di nl nr tm (cpS 21 57 C) (cpW G 4500 0 1500) := hSi.move hLn v1 v2 v3 true ⟨kk, by rw [v6]; exact z1, z2⟩ (fun _ => ⟨rfl, v6, v7⟩) (fun j hj _ => w1 j hj)
          have hEn : En 21 0 nl (cpS 21 57 C) (cpW G 4500 0 1500) := hEi.move l3 v5 w1
          have hRn : Rg (cpS 21 57 C) (cpW G 4500 0 1500) := ⟨nl, nr, tm, ni, di, nq, tl, nd, b0, b1, kt, hSn, hEn, by rw [Rq, v4 14 (by omega), v4 15 (by omega), v4 16 (by omega), v4 17 (by omega), w3 0 (by omega), w3 9 (by omega), w3 10 (by omega), w3 11 (by omega)]; exact hQ, by rw [Tx, v4 1 (by omega), v4 2 (by omega), w3 0 (by omega), w3 8 (by omega)]; exact hT, by rw [Dr, v4 0 (by omega), v4 19 (by omega), w3 0 (by omega), w3 13 (by omega)]; exact hDr, by rw [Is, v4 0 (by omega), w3 2 (by omega)]; exact ⟨by first | exact i1 | (rw [hbb]; exact i1), by first | exact i2 | (rw [hbb]; exact i2), i3, fun z => (i4 z).frame hLn (fun a _ _ => v4 a (by omega)) (fun j _ _ => w2 j (by omega)), fun z => (i5 z).frame hLn (fun a _ _ => v4 a (by omega)) (fun j _ _ => w2 j (by omega))⟩, by rw [v4 41 (by omega)]; exact hkt, hkt3⟩
          refine ⟨nI 1, (cpS 21 57 C), (cpW G 4500 0 1500), ?_, ?_, hRn⟩
          · refine ev_iload_n dX6_goBack_0 rfl ?_
            refine ev_if_lt 9 dX6_goBack_1 (by decide) (fun hc1 => False.elim (c1 hc1)) (fun hc1 => ?_)
            refine ev_iload_n dX6_goBack_4 rfl ?_
            refine ev_iconst (v := (nI 2)) dX6_goBack_5 (by decide) ?_
            refine ev_icmp_lt 12 dX6_goBack_6 (by decide) (fun hc6 => ?_) (fun hc6 => False.elim (hc6 (by decide)))
            refine ev_aload_n dX6_goBack_12 rfl ?_
            refine ev_getI dX6_goBack_13 fX6_42 (by first | assumption | rfl) (by rfl) ?_
            refine ev_iload_n dX6_goBack_16 rfl ?_
            rw [i3]
            refine ev_cS2 dX6_goBack_17 ceX6_has kX6_265 (rm_le rfl rfl) (Nat.le_of_ble_eq_true rfl) (Nat.le_of_ble_eq_true rfl) (e_hasN (im_lt b0 b1) (by decide)) ?_
            rw [(hb_im b0 b1).2, hbb]
            refine ev_if_ne 26 dX6_goBack_20 (by decide) (fun hc20 => ?_) (fun hc20 => False.elim (absurd hc20 (by decide)))
            refine ev_aload_n dX6_goBack_26 rfl ?_
            refine ev_getR dX6_goBack_27 fX6_31 (by first | assumption | rfl) (by rfl) ?_
            refine ev_aload_n dX6_goBack_30 rfl ?_
            refine ev_getR dX6_goBack_31 fX6_38 (by first | assumption | rfl) (by rfl) ?_
            refine ev_iload_n dX6_goBack_34 rfl ?_
            refine ev_aald dX6_goBack_35 (by first | assumption | rfl) (vp_in_nI (by decide) (by decide)) (rfl) ?_
            refine ev_cV1v dX6_goBack_36 ceX5_copyFrom kX6_312 (rm_le rfl rfl) (Nat.le_of_ble_eq_true rfl) (Nat.le_of_ble_eq_true rfl) (e_stCopy st_21 st_57) (by first | assumption | rfl) ?_
            refine ev_iconst (v := (nI 1)) dX6_goBack_39 (by decide) ?_
            exact ev_iretE dX6_goBack_40 rfl rfl (by first | rfl | simp_all) (rfl)
          · refine ev_iload_n dX7_goBack_0 rfl ?_
            refine ev_i2l dX7_goBack_1 ?_
            refine ev_lconst (v := 0) dX7_goBack_2 rfl ?_
            refine ev_lconst (v := 1) dX7_goBack_3 rfl ?_
            refine ev_cS3 dX7_goBack_4 ceX7_in kX7_59 (rm_le rfl rfl) (Nat.le_of_ble_eq_true rfl) (Nat.le_of_ble_eq_true rfl) (e7_in) ?_
            rw [in_c _ 0 (nI 1) (by decide) (by decide), hck]
            refine ev_if_ne 13 dX7_goBack_7 (by decide) (fun hc7 => ?_) (fun hc7 => False.elim (absurd hc7 (by decide)))
            refine ev_aload_n dX7_goBack_13 rfl ?_
            refine ev_getR dX7_goBack_14 fX7_13 (by first | assumption | rfl) (by rfl) ?_
            refine ev_iload_n dX7_goBack_17 rfl ?_
            refine ev_zaldE (1) dX7_goBack_18 (rfl) (by first | assumption | rfl) ⟨by decide, by decide⟩ ?_
            rw [i2]
            refine ev_if_ne 25 dX7_goBack_19 (by decide) (fun hc19 => ?_) (fun hc19 => False.elim (absurd hc19 (by decide)))
            refine ev_aload_n dX7_goBack_25 rfl ?_
            refine ev_sipush (v := (nI 3000)) dX7_goBack_26 (by decide) ?_
            refine ev_sipush (v := (nI 1500)) dX7_goBack_29 (by decide) ?_
            refine ev_iload_n dX7_goBack_32 rfl ?_
            refine ev_imul dX7_goBack_33 ?_
            refine ev_iadd dX7_goBack_34 ?_
            refine ev_iconst (v := (nI 0)) dX7_goBack_35 (by decide) ?_
            rw [show nI 3000 + nI 1500 * nI 1 = nI 4500 from by decide]
            refine ev_cV2v dX7_goBack_36 ceX7_copyRow kX7_229 (rm_le rfl rfl) (Nat.le_of_ble_eq_true rfl) (Nat.le_of_ble_eq_true rfl) (e7_copyRow (by decide) (by decide) (by decide)) (by first | assumption | rfl) ?_
            refine ev_iconst (v := (nI 1)) dX7_goBack_39 (by decide) ?_
            exact ev_iretE dX7_goBack_40 rfl rfl (by first | rfl | simp_all) (rfl)
  · refine ⟨(-1000000001), C, G, ?_, ?_, hR0⟩
    · refine ev_iload_n dX6_goBack_0 rfl ?_
      refine ev_if_lt 9 dX6_goBack_1 (by decide) (fun hc1 => ?_) (fun hc1 => False.elim (hc1 c1))
      refine ev_ldc (v := (-1000000001)) dX6_goBack_9 nX6_127 ?_
      exact ev_iretE dX6_goBack_11 rfl rfl (by first | rfl | simp_all) (rfl)
    · refine ev_iload_n dX7_goBack_0 rfl ?_
      refine ev_i2l dX7_goBack_1 ?_
      refine ev_lconst (v := 0) dX7_goBack_2 rfl ?_
      refine ev_lconst (v := 1) dX7_goBack_3 rfl ?_
      refine ev_cS3 dX7_goBack_4 ceX7_in kX7_59 (rm_le rfl rfl) (Nat.le_of_ble_eq_true rfl) (Nat.le_of_ble_eq_true rfl) (e7_in) ?_
      rw [in_c _ 0 (nI 1) (by decide) (by decide), hck]
      refine ev_if_ne 13 dX7_goBack_7 (by decide) (fun hc7 => False.elim (absurd hc7 (by decide))) (fun hc7 => ?_)
      refine ev_ldc (v := (-1000000001)) dX7_goBack_10 nX7_165 ?_
      exact ev_iretE dX7_goBack_12 rfl rfl (by first | rfl | simp_all) (rfl)
  · have c3 : ¬ x < nI 2 := fun z => c2 (by rw [fa_lt, nI_toInt (by decide)] at z; rw [fa_le, nI_toInt (by decide)]; omega)
    refine ⟨(-1000000001), C, G, ?_, ?_, hR0⟩
    · refine ev_iload_n dX6_goBack_0 rfl ?_
      refine ev_if_lt 9 dX6_goBack_1 (by decide) (fun hc1 => False.elim (c1 hc1)) (fun hc1 => ?_)
      refine ev_iload_n dX6_goBack_4 rfl ?_
      refine ev_iconst (v := (nI 2)) dX6_goBack_5 (by decide) ?_
      refine ev_icmp_lt 12 dX6_goBack_6 (by decide) (fun hc6 => False.elim (c3 hc6)) (fun hc6 => ?_)
      refine ev_ldc (v := (-1000000001)) dX6_goBack_9 nX6_127 ?_
      exact ev_iretE dX6_goBack_11 rfl rfl (by first | rfl | simp_all) (rfl)
    · refine ev_iload_n dX7_goBack_0 rfl ?_
      refine ev_i2l dX7_goBack_1 ?_
      refine ev_lconst (v := 0) dX7_goBack_2 rfl ?_
      refine ev_lconst (v := 1) dX7_goBack_3 rfl ?_
      refine ev_cS3 dX7_goBack_4 ceX7_in kX7_59 (rm_le rfl rfl) (Nat.le_of_ble_eq_true rfl) (Nat.le_of_ble_eq_true rfl) (e7_in) ?_
      rw [in_c _ 0 (nI 1) (by decide) (by decide), hck]
      refine ev_if_ne 13 dX7_goBack_7 (by decide) (fun hc7 => False.elim (absurd hc7 (by decide))) (fun hc7 => ?_)
      refine ev_ldc (v := (-1000000001)) dX7_goBack_10 nX7_165 ?_
      exact ev_iretE dX7_goBack_12 rfl rfl (by first | rfl | simp_all) (rfl)
