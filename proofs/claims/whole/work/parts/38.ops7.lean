/-! ops: where, keep, goBack, judge -/
theorem nar1 : vp_nar .boolean (nI 1) = nI 1 := by decide
/-- changes in the trial state, the choice and the reference's second row alone -/
theorem Rp.trial {nl nr : Nat} {tm : Nat → Nat} {n d nq tl nd : Nat} {b0 b1 : Bool} {kt : Nat} {C G C' G' : rf_Mem} (h : Rp nl nr tm n d nq tl nd b0 b1 kt C G) (hC : ∀ a, a ≠ 18 → a ≠ 20 → (a < 33 ∨ 45 ≤ a) → C' a = C a) (hk : ∃ k, C' 41 3 = nI k ∧ k ≤ 300) (hG : ∀ a, a ≠ 0 → a ≠ 1 → a ≠ 12 → G' a = G a) (hG0 : ∀ j, j ≠ 21 → G' 0 j = G 0 j) (hG1 : ∀ j, j < 1500 ∨ 3000 ≤ j → G' 1 j = G 1 j) : Rg C' G' := by
  obtain ⟨h1, h2, h3, ⟨t1, t2, t3, t4, t5⟩, ⟨e1, e2, e3, e4⟩, ⟨i1, i2, i3, i4, i5⟩, k1, k2⟩ := h
  obtain ⟨kk, hk1, hk2⟩ := hk
  have hL : Lb nl nr tm C' G' := by
    have := h1.1
    unfold Lb at this ⊢
    rw [hC 8 (by omega) (by omega) (by omega), hC 9 (by omega) (by omega) (by omega), hC 11 (by omega) (by omega) (by omega), hC 12 (by omega) (by omega) (by omega), hG0 7 (by omega), hG 3 (by omega) (by omega) (by omega), hG 5 (by omega) (by omega) (by omega), hG 6 (by omega) (by omega) (by omega), hG 7 (by omega) (by omega) (by omega)]
    exact this
  refine ⟨nl, nr, tm, n, d, nq, tl, nd, b0, b1, kk, h1.frame hL (fun a _ _ => hC a (by omega) (by omega) (by omega)) (fun j _ _ => hG1 j (by omega)), h2.frame (hC _ (by omega) (by omega) (by omega)) (fun j _ _ => hG1 j (by omega)) hL.2.2.1, ?_, ?_, ?_, ?_, hk1, hk2⟩
  · rw [Rq, hC 14 (by omega) (by omega) (by omega), hC 15 (by omega) (by omega) (by omega), hC 16 (by omega) (by omega) (by omega), hC 17 (by omega) (by omega) (by omega), hG0 17 (by omega), hG 9 (by omega) (by omega) (by omega), hG 10 (by omega) (by omega) (by omega), hG 11 (by omega) (by omega) (by omega)]
    exact h3
  · rw [Tx, hC 1 (by omega) (by omega) (by omega), hC 2 (by omega) (by omega) (by omega), hG0 11 (by omega), hG0 16 (by omega), hG 8 (by omega) (by omega) (by omega)]
    exact ⟨t1, t2, t3, t4, t5⟩
  · rw [Dr, hC 0 (by omega) (by omega) (by omega), hC 19 (by omega) (by omega) (by omega), hG0 24 (by omega), hG 13 (by omega) (by omega) (by omega)]
    exact ⟨e1, e2, e3, e4⟩
  · rw [Is, hC 0 (by omega) (by omega) (by omega), hG 2 (by omega) (by omega) (by omega)]
    exact ⟨i1, i2, i3, fun z => (i4 z).frame hL (fun a _ _ => hC a (by omega) (by omega) (by omega)) (fun j _ _ => hG1 j (by omega)), fun z => (i5 z).frame hL (fun a _ _ => hC a (by omega) (by omega) (by omega)) (fun j _ _ => hG1 j (by omega))⟩

set_option maxRecDepth 20000 in
set_option maxHeartbeats 2000000 in
theorem op_where {l0 : Int32} : OpOk mX6_where mX7_where [.int l0] := by
  intro C G hR
  have hR0 := hR
  obtain ⟨nl, nr, tm, n, d, nq, tl, nd, b0, b1, kt, hp⟩ := hR
  obtain ⟨hS, hE, hQ, hT, hDr, hI, hkt, hkt3⟩ := id hp
  have hL := hS.1
  obtain ⟨l1, m1, l3, r1, m2, l6, le, lw, lr⟩ := id hL
  obtain ⟨hP, ⟨d1, d2, d3⟩, ⟨s1, s2⟩, hH⟩ := id hS.2.1
  obtain ⟨p1, p2, p3, p4, p5⟩ := id hP
  rw [Nat.zero_add] at p2 d2 s1
  obtain ⟨-, -, k, k', q1, q2, q3, q4, q5⟩ := id hS
  obtain ⟨ke, kl⟩ := q5 rfl
  subst ke
  obtain ⟨-, -, -, kl4⟩ := id kl
  rw [Nat.zero_add] at q3
  rcases ck l0 (show nl < 2 ^ 31 by omega) with ⟨l, hl, e, hck⟩ | hck
  · subst e
    obtain ⟨en1, s, hs, hs2⟩ := hE l hl
    rw [Nat.zero_add] at en1
    rcases Nat.lt_or_ge s 9 with hs9 | hs9
    · obtain ⟨Cn, hCn⟩ : ∃ X, X = (rf_set C (21 + 7) l (C (21 + 7) l + nI 1)) := ⟨_, rfl⟩
      obtain ⟨Gn, hGn⟩ : ∃ X, X = (rf_set G 1 (416 + l) (G 1 (416 + l) + nI 1)) := ⟨_, rfl⟩
      have oC : ∀ a, a ≠ 28 → Cn a = C a := fun a ha => by rw [hCn]; exact gs_q _ _ _ (by omega)
      have oG : ∀ j, j ≠ 416 + l → Gn 1 j = G 1 j := fun j hj => by rw [hGn]; exact gs_j _ _ hj
      have oG2 : ∀ a, a ≠ 1 → Gn a = G a := fun a ha => by rw [hGn]; exact gs_q _ _ _ ha
      have hLn : Lb nl nr tm Cn Gn := hL.frame (fun a ha => oC a (by omega)) (fun a ha => oG2 a (by omega))
      have hSn : Sim true 21 0 n d nl nr tm Cn Gn := by
        refine hS.move hLn (by rw [oC 21 (by omega)]; exact ⟨rfl, rfl, rfl⟩) (fun p _ => by rw [oC (21 + 1) (by omega), oC (21 + 2) (by omega), oC (21 + 3) (by omega), oC (21 + 4) (by omega)]; exact ⟨rfl, rfl, rfl, rfl⟩) (fun j _ => by rw [oC (21 + 5) (by omega), oC (21 + 6) (by omega)]; exact ⟨rfl, rfl⟩) true ⟨k', by rw [oC _ (by omega)]; exact q1, q2⟩ (fun _ => ⟨rfl, by rw [oC _ (by omega)], fun i _ => by rw [oC (21 + 9) (by omega), oC (21 + 10) (by omega), oC (21 + 11) (by omega)]; exact ⟨rfl, rfl, rfl⟩⟩) (fun j _ _ => oG _ (by omega))
      have hEn : En 21 0 nl Cn Gn := fun m hm => by
        rw [hCn, hGn, Nat.zero_add]
        by_cases z : m = l
        · subst z; rw [gs_same, gs_same, en1]; exact ⟨rfl, s + 1, by omega, by rw [← en1, hs2, nI_add]⟩
        · rw [gs_j _ _ z, gs_j _ _ (by omega)]; have := hE m hm; rw [Nat.zero_add] at this; exact this
      obtain ⟨i1, i2, i3, i4, i5⟩ := id hI
      have hRn : Rg Cn Gn := ⟨nl, nr, tm, n, d, nq, tl, nd, b0, b1, kt, hSn, hEn, by rw [Rq, oC 14 (by omega), oC 15 (by omega), oC 16 (by omega), oC 17 (by omega), oG2 0 (by omega), oG2 9 (by omega), oG2 10 (by omega), oG2 11 (by omega)]; exact hQ, by rw [Tx, oC 1 (by omega), oC 2 (by omega), oG2 0 (by omega), oG2 8 (by omega)]; exact hT, by rw [Dr, oC 0 (by omega), oC 19 (by omega), oG2 0 (by omega), oG2 13 (by omega)]; exact hDr, by rw [Is, oC 0 (by omega), oG2 2 (by omega)]; exact ⟨i1, i2, i3, fun z => (i4 z).frame hLn (fun a _ _ => oC a (by omega)) (fun j _ _ => oG j (by omega)), fun z => (i5 z).frame hLn (fun a _ _ => oC a (by omega)) (fun j _ _ => oG j (by omega))⟩, by rw [oC 41 (by omega)]; exact hkt, hkt3⟩
      have pn : Cn 21 9 = nI n := hSn.2.1.1.1
      have pg : Gn 1 1332 = nI n := by have := hSn.2.1.1.2.1; rw [Nat.zero_add] at this; exact this
      have g9 : C (21 + 7) l < nI 9 := by rw [hs2]; exact nI_lt hs9 (by decide)
      have g8 : ¬ G 1 (416 + l) = nI 9 := by rw [← en1, hs2]; exact fun z => by have := (nI_eq (by omega) (by decide)).mp z; omega
      have sm : ∀ p, p < n → vLeft (Cn (21 + 1)) (Cn (21 + 3)) (nI l) p = (decide (Gn 1 p = nI l) && !decide (Gn 1 (80 + p) = nI 9)) := fun p hpn => by
        obtain ⟨⟨a1, -, a3, -⟩, -, ⟨s9, y1, y2⟩, -⟩ := hSn.2.1.1.2.2.2.2 p hpn
        simp only [Nat.zero_add] at a1 a3
        unfold vLeft
        rw [a1, ← a3, y2]
        congr 1
        congr 1
        refine decide_eq_decide.mpr ⟨fun z => ?_, fun z => ?_⟩
        · have : ¬ s9 < 9 := fun w => nI_ge w (by decide) z
          have e9 : s9 = 9 := by omega
          rw [e9]
        · rw [z]; exact nI_le (Nat.le_refl _) (by decide)
      refine ⟨(fFst (vLeft (Cn (21 + 1)) (Cn (21 + 3)) (nI l)) n), Cn, Gn, ?_, ?_, hRn⟩
      · refine ev_aload_n dX6_where_0 rfl ?_
        refine ev_getR dX6_where_1 fX6_23 (by first | assumption | rfl) (by rfl) ?_
        refine ev_iload_n dX6_where_4 rfl ?_
        refine ev_cV1 dX6_where_5 ceX1_hasLine kX6_123 (rm_le rfl rfl) (Nat.le_of_ble_eq_true rfl) (Nat.le_of_ble_eq_true rfl) (e_hasLine) (by first | assumption | rfl) ?_
        rw [l1, hck]
        refine ev_if_ne 14 dX6_where_8 (by decide) (fun hc8 => ?_) (fun hc8 => False.elim (absurd hc8 (by decide)))
        refine ev_aload_n dX6_where_14 rfl ?_
        refine ev_getR dX6_where_15 fX6_31 (by first | assumption | rfl) (by rfl) ?_
        refine ev_getR dX6_where_18 fX6_144 (by first | assumption | rfl) (by rfl) ?_
        refine ev_iload_n dX6_where_21 rfl ?_
        refine ev_ialdE _ dX6_where_22 (rfl) (by first | assumption | rfl) ⟨by omega, by decide⟩ ?_
        refine ev_bipush (v := (nI 9)) dX6_where_23 (by decide) ?_
        refine ev_icmp_lt 31 dX6_where_25 (by decide) (fun hc25 => ?_) (fun hc25 => False.elim (hc25 g9))
        refine ev_aload_n dX6_where_31 rfl ?_
        refine ev_getR dX6_where_32 fX6_31 (by first | assumption | rfl) (by rfl) ?_
        refine ev_getR dX6_where_35 fX6_144 (by first | assumption | rfl) (by rfl) ?_
        refine ev_iload_n dX6_where_38 rfl ?_
        refine ev_dup2 dX6_where_39 rfl rfl ?_
        refine ev_ialdE _ dX6_where_40 (rfl) (by first | assumption | rfl) ⟨by omega, by decide⟩ ?_
        refine ev_iconst (v := (nI 1)) dX6_where_41 (by decide) ?_
        refine ev_iadd dX6_where_42 ?_
        refine ev_iastE _ dX6_where_43 (rfl) (by first | assumption | rfl) ⟨by omega, by decide⟩ ?_
        rw [← hCn]
        refine ev_aload_n dX6_where_44 rfl ?_
        refine ev_getR dX6_where_45 fX6_31 (by first | assumption | rfl) (by rfl) ?_
        refine ev_iload_n dX6_where_48 rfl ?_
        refine ev_cV1 dX6_where_49 ceX5_firstPage kX6_221 (rm_le rfl rfl) (Nat.le_of_ble_eq_true rfl) (Nat.le_of_ble_eq_true rfl) (e_firstPage st_21 pn p3) (by first | assumption | rfl) ?_
        exact ev_iretE dX6_where_52 rfl rfl (by first | rfl | simp_all) (rfl)
      · have key := ev_forI (Lay := LayM) (y := mX7_where) (pc := 45) (r := some (.int (fFst (vLeft (Cn (21 + 1)) (Cn (21 + 3)) (nI l)) n))) (M' := Gn) n (fun i => ∀ j, j < i → (fun p => decide (Gn 1 p = nI l) && !decide (Gn 1 (80 + p) = nI 9)) j = false) (fun i => [some (.ref 0), some (.int (nI l)), some (.int (nI (i)))]) (fun _ => Gn) ?hx ?hs
        case hx =>
          intro hI2
          refine ev_iload_n dX7_where_45 rfl ?_
          refine ev_aload_n dX7_where_46 rfl ?_
          refine ev_getR dX7_where_47 fX7_7 (by first | assumption | rfl) (by rfl) ?_
          refine ev_sipush (v := (nI 1332)) dX7_where_50 (by decide) ?_
          refine ev_ialdE _ dX7_where_53 (by first | with_reducible rfl | with_reducible exact nI_add _ _ | with_reducible exact ix3 _ _ _ | with_reducible exact ix_k _ _ _ | with_reducible exact ix_xk _ _ _ _) (by first | assumption | rfl) ⟨by omega, by decide⟩ ?_
          refine ev_icmp_ge 87 dX7_where_54 (by decide) (fun hc54 => ?_) (fun hc54 => False.elim (lp_x pg (by omega) hc54))
          refine ev_iload_n dX7_where_87 rfl ?_
          refine ev_aload_n dX7_where_88 rfl ?_
          refine ev_getR dX7_where_89 fX7_7 (by first | assumption | rfl) (by rfl) ?_
          refine ev_sipush (v := (nI 1332)) dX7_where_92 (by decide) ?_
          refine ev_ialdE _ dX7_where_95 (by first | with_reducible rfl | with_reducible exact nI_add _ _ | with_reducible exact ix3 _ _ _ | with_reducible exact ix_k _ _ _ | with_reducible exact ix_xk _ _ _ _) (by first | assumption | rfl) ⟨by omega, by decide⟩ ?_
          refine ev_icmp_ne 103 dX7_where_96 (by decide) (fun hc96 => False.elim (hc96 pg.symm)) (fun hc96 => ?_)
          refine ev_iconst (v := (-1)) dX7_where_99 (by decide) ?_
          refine ev_goto 104 dX7_where_100 (by decide) ?_
          exact ev_iretE dX7_where_104 rfl rfl (by rw [fFst_none (fun j hj => (sm j hj).trans (hI2 j hj))]) (rfl)
        case hs =>
          intro i hi hI2 ih
          refine ev_iload_n dX7_where_45 rfl ?_
          refine ev_aload_n dX7_where_46 rfl ?_
          refine ev_getR dX7_where_47 fX7_7 (by first | assumption | rfl) (by rfl) ?_
          refine ev_sipush (v := (nI 1332)) dX7_where_50 (by decide) ?_
          refine ev_ialdE _ dX7_where_53 (by first | with_reducible rfl | with_reducible exact nI_add _ _ | with_reducible exact ix3 _ _ _ | with_reducible exact ix_k _ _ _ | with_reducible exact ix_xk _ _ _ _) (by first | assumption | rfl) ⟨by omega, by decide⟩ ?_
          refine ev_icmp_ge 87 dX7_where_54 (by decide) (fun hc54 => False.elim (lp_s pg (by omega) hi hc54)) (fun hc54 => ?_)
          refine ev_aload_n dX7_where_57 rfl ?_
          refine ev_getR dX7_where_58 fX7_7 (by first | assumption | rfl) (by rfl) ?_
          refine ev_iload_n dX7_where_61 rfl ?_
          refine ev_ialdE _ dX7_where_62 (by first | with_reducible rfl | with_reducible exact nI_add _ _ | with_reducible exact ix3 _ _ _ | with_reducible exact ix_k _ _ _ | with_reducible exact ix_xk _ _ _ _) (by first | assumption | rfl) ⟨by omega, by decide⟩ ?_
          refine ev_iload_n dX7_where_63 rfl ?_
          refine ev_icmp_ne 81 dX7_where_64 (by decide) (fun hc64 => ?_) (fun hc64 => ?_)
          · refine ev_iinc (v := (nI 1)) dX7_where_81 rfl (by decide) (by decide) rfl ?_
            refine ev_goto 45 dX7_where_84 (by decide) ?_
            exact ev_st (ih (no_s hI2 (by clear hGn hCn; simp [*]))) (by simp [nI_add]) rfl rfl
          · refine ev_aload_n dX7_where_67 rfl ?_
            refine ev_getR dX7_where_68 fX7_7 (by first | assumption | rfl) (by rfl) ?_
            refine ev_bipush (v := (nI 80)) dX7_where_71 (by decide) ?_
            refine ev_iload_n dX7_where_73 rfl ?_
            refine ev_iadd dX7_where_74 ?_
            refine ev_ialdE _ dX7_where_75 (by first | with_reducible rfl | with_reducible exact nI_add _ _ | with_reducible exact ix3 _ _ _ | with_reducible exact ix_k _ _ _ | with_reducible exact ix_xk _ _ _ _) (by first | assumption | rfl) ⟨by omega, by decide⟩ ?_
            refine ev_bipush (v := (nI 9)) dX7_where_76 (by decide) ?_
            refine ev_icmp_ne 87 dX7_where_78 (by decide) (fun hc78 => ?_) (fun hc78 => ?_)
            · refine ev_iload_n dX7_where_87 rfl ?_
              refine ev_aload_n dX7_where_88 rfl ?_
              refine ev_getR dX7_where_89 fX7_7 (by first | assumption | rfl) (by rfl) ?_
              refine ev_sipush (v := (nI 1332)) dX7_where_92 (by decide) ?_
              refine ev_ialdE _ dX7_where_95 (by first | with_reducible rfl | with_reducible exact nI_add _ _ | with_reducible exact ix3 _ _ _ | with_reducible exact ix_k _ _ _ | with_reducible exact ix_xk _ _ _ _) (by first | assumption | rfl) ⟨by omega, by decide⟩ ?_
              refine ev_icmp_ne 103 dX7_where_96 (by decide) (fun hc96 => ?_) (fun hc96 => False.elim (by rw [pg] at hc96; have := (nI_eq (by omega) (by omega)).mp hc96; omega))
              refine ev_iload_n dX7_where_103 rfl ?_
              exact ev_iretE dX7_where_104 rfl rfl (by rw [fFst_hit hi (fun j hj => (sm j (by omega)).trans (hI2 j hj)) ((sm i hi).trans (by clear hGn hCn; simp [*]))]) (rfl)
            · refine ev_iinc (v := (nI 1)) dX7_where_81 rfl (by decide) (by decide) rfl ?_
              refine ev_goto 45 dX7_where_84 (by decide) ?_
              exact ev_st (ih (no_s hI2 (by clear hGn hCn; simp [*]))) (by simp [nI_add]) rfl rfl
        refine ev_aload_n dX7_where_0 rfl ?_
        refine ev_iload_n dX7_where_1 rfl ?_
        refine ev_cV1 dX7_where_2 ceX7_isLine kX7_161 (rm_le rfl rfl) (Nat.le_of_ble_eq_true rfl) (Nat.le_of_ble_eq_true rfl) (e7_isLine m1 l3) (by first | assumption | rfl) ?_
        rw [hck]
        refine ev_if_ne 11 dX7_where_5 (by decide) (fun hc5 => ?_) (fun hc5 => False.elim (absurd hc5 (by decide)))
        refine ev_aload_n dX7_where_11 rfl ?_
        refine ev_getR dX7_where_12 fX7_7 (by first | assumption | rfl) (by rfl) ?_
        refine ev_sipush (v := (nI 416)) dX7_where_15 (by decide) ?_
        refine ev_iload_n dX7_where_18 rfl ?_
        refine ev_iadd dX7_where_19 ?_
        refine ev_ialdE _ dX7_where_20 (by first | with_reducible rfl | with_reducible exact nI_add _ _ | with_reducible exact ix3 _ _ _ | with_reducible exact ix_k _ _ _ | with_reducible exact ix_xk _ _ _ _) (by first | assumption | rfl) ⟨by omega, by decide⟩ ?_
        refine ev_bipush (v := (nI 9)) dX7_where_21 (by decide) ?_
        refine ev_icmp_ne 29 dX7_where_23 (by decide) (fun hc23 => ?_) (fun hc23 => False.elim (g8 hc23))
        refine ev_aload_n dX7_where_29 rfl ?_
        refine ev_getR dX7_where_30 fX7_7 (by first | assumption | rfl) (by rfl) ?_
        refine ev_sipush (v := (nI 416)) dX7_where_33 (by decide) ?_
        refine ev_iload_n dX7_where_36 rfl ?_
        refine ev_iadd dX7_where_37 ?_
        refine ev_dup2 dX7_where_38 rfl rfl ?_
        refine ev_ialdE _ dX7_where_39 (by first | with_reducible rfl | with_reducible exact nI_add _ _ | with_reducible exact ix3 _ _ _ | with_reducible exact ix_k _ _ _ | with_reducible exact ix_xk _ _ _ _) (by first | assumption | rfl) ⟨by omega, by decide⟩ ?_
        refine ev_iconst (v := (nI 1)) dX7_where_40 (by decide) ?_
        refine ev_iadd dX7_where_41 ?_
        refine ev_iastE _ dX7_where_42 (by first | with_reducible rfl | with_reducible exact nI_add _ _ | with_reducible exact ix3 _ _ _ | with_reducible exact ix_k _ _ _ | with_reducible exact ix_xk _ _ _ _) (by first | assumption | rfl) ⟨by omega, by decide⟩ ?_
        rw [← hGn]
        refine ev_iconst (v := (nI 0)) dX7_where_43 (by decide) ?_
        refine ev_istore_k 2 dX7_where_44 rfl (by decide) rfl ?_
        exact ev_st (key 0 (Nat.zero_le _) (by intro j hj; omega)) rfl rfl rfl
    · have e9 : s = 9 := by omega
      rw [e9] at hs2
      refine ⟨(-1000000003), C, G, ?_, ?_, hR0⟩
      · refine ev_aload_n dX6_where_0 rfl ?_
        refine ev_getR dX6_where_1 fX6_23 (by first | assumption | rfl) (by rfl) ?_
        refine ev_iload_n dX6_where_4 rfl ?_
        refine ev_cV1 dX6_where_5 ceX1_hasLine kX6_123 (rm_le rfl rfl) (Nat.le_of_ble_eq_true rfl) (Nat.le_of_ble_eq_true rfl) (e_hasLine) (by first | assumption | rfl) ?_
        rw [l1, hck]
        refine ev_if_ne 14 dX6_where_8 (by decide) (fun hc8 => ?_) (fun hc8 => False.elim (absurd hc8 (by decide)))
        refine ev_aload_n dX6_where_14 rfl ?_
        refine ev_getR dX6_where_15 fX6_31 (by first | assumption | rfl) (by rfl) ?_
        refine ev_getR dX6_where_18 fX6_144 (by first | assumption | rfl) (by rfl) ?_
        refine ev_iload_n dX6_where_21 rfl ?_
        refine ev_ialdE _ dX6_where_22 (rfl) (by first | assumption | rfl) ⟨by omega, by decide⟩ ?_
        refine ev_bipush (v := (nI 9)) dX6_where_23 (by decide) ?_
        refine ev_icmp_lt 31 dX6_where_25 (by decide) (fun hc25 => False.elim (by rw [hs2] at hc25; exact absurd hc25 (by decide))) (fun hc25 => ?_)
        refine ev_ldc (v := (-1000000003)) dX6_where_28 nX6_194 ?_
        exact ev_iretE dX6_where_30 rfl rfl (by first | rfl | simp_all) (rfl)
      · refine ev_aload_n dX7_where_0 rfl ?_
        refine ev_iload_n dX7_where_1 rfl ?_
        refine ev_cV1 dX7_where_2 ceX7_isLine kX7_161 (rm_le rfl rfl) (Nat.le_of_ble_eq_true rfl) (Nat.le_of_ble_eq_true rfl) (e7_isLine m1 l3) (by first | assumption | rfl) ?_
        rw [hck]
        refine ev_if_ne 11 dX7_where_5 (by decide) (fun hc5 => ?_) (fun hc5 => False.elim (absurd hc5 (by decide)))
        refine ev_aload_n dX7_where_11 rfl ?_
        refine ev_getR dX7_where_12 fX7_7 (by first | assumption | rfl) (by rfl) ?_
        refine ev_sipush (v := (nI 416)) dX7_where_15 (by decide) ?_
        refine ev_iload_n dX7_where_18 rfl ?_
        refine ev_iadd dX7_where_19 ?_
        refine ev_ialdE _ dX7_where_20 (by first | with_reducible rfl | with_reducible exact nI_add _ _ | with_reducible exact ix3 _ _ _ | with_reducible exact ix_k _ _ _ | with_reducible exact ix_xk _ _ _ _) (by first | assumption | rfl) ⟨by omega, by decide⟩ ?_
        refine ev_bipush (v := (nI 9)) dX7_where_21 (by decide) ?_
        refine ev_icmp_ne 29 dX7_where_23 (by decide) (fun hc23 => False.elim (hc23 (by rw [← en1]; exact hs2))) (fun hc23 => ?_)
        refine ev_ldc (v := (-1000000003)) dX7_where_26 nX7_187 ?_
        exact ev_iretE dX7_where_28 rfl rfl (by first | rfl | simp_all) (rfl)
  · refine ⟨(-1000000001), C, G, ?_, ?_, hR0⟩
    · refine ev_aload_n dX6_where_0 rfl ?_
      refine ev_getR dX6_where_1 fX6_23 (by first | assumption | rfl) (by rfl) ?_
      refine ev_iload_n dX6_where_4 rfl ?_
      refine ev_cV1 dX6_where_5 ceX1_hasLine kX6_123 (rm_le rfl rfl) (Nat.le_of_ble_eq_true rfl) (Nat.le_of_ble_eq_true rfl) (e_hasLine) (by first | assumption | rfl) ?_
      rw [l1, hck]
      refine ev_if_ne 14 dX6_where_8 (by decide) (fun hc8 => False.elim (absurd hc8 (by decide))) (fun hc8 => ?_)
      refine ev_ldc (v := (-1000000001)) dX6_where_11 nX6_127 ?_
      exact ev_iretE dX6_where_13 rfl rfl (by first | rfl | simp_all) (rfl)
    · refine ev_aload_n dX7_where_0 rfl ?_
      refine ev_iload_n dX7_where_1 rfl ?_
      refine ev_cV1 dX7_where_2 ceX7_isLine kX7_161 (rm_le rfl rfl) (Nat.le_of_ble_eq_true rfl) (Nat.le_of_ble_eq_true rfl) (e7_isLine m1 l3) (by first | assumption | rfl) ?_
      rw [hck]
      refine ev_if_ne 11 dX7_where_5 (by decide) (fun hc5 => False.elim (absurd hc5 (by decide))) (fun hc5 => ?_)
      refine ev_ldc (v := (-1000000001)) dX7_where_8 nX7_165 ?_
      exact ev_iretE dX7_where_10 rfl rfl (by first | rfl | simp_all) (rfl)
