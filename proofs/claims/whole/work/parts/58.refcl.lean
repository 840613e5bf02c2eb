/-! the reference's clauses -/
def FrD (G G' : rf_Mem) : Prop := (∀ c, c ≠ 0 → c ≠ 3 → c ≠ 4 → c ≠ 5 → c ≠ 6 → c ≠ 7 → G' c = G c) ∧ (∀ j, j ≠ 8 → j ≠ 9 → G' 0 j = G 0 j) ∧ (∀ j, j < 16 → G' 3 j = G 3 j) ∧ (∀ j, j < 8 → G' 5 j = G 5 j ∧ G' 6 j = G 6 j) ∧ ∀ j, j < 2 → G' 7 j = G 7 j
theorem FrD.rf (G : rf_Mem) : FrD G G := ⟨fun _ _ _ _ _ _ _ => rfl, fun _ _ _ => rfl, fun _ _ => rfl, fun _ _ => ⟨rfl, rfl⟩, fun _ _ => rfl⟩
theorem FrD.tr {G G' G2 : rf_Mem} (h : FrD G G') (h2 : FrD G' G2) : FrD G G2 := ⟨fun c a b d e f g => (h2.1 c a b d e f g).trans (h.1 c a b d e f g), fun j a b => (h2.2.1 j a b).trans (h.2.1 j a b), fun j hj => (h2.2.2.1 j hj).trans (h.2.2.1 j hj), fun j hj => ⟨(h2.2.2.2.1 j hj).1.trans (h.2.2.2.1 j hj).1, (h2.2.2.2.1 j hj).2.trans (h.2.2.2.1 j hj).2⟩, fun j hj => (h2.2.2.2.2 j hj).trans (h.2.2.2.2 j hj)⟩
theorem FrD.set {G : rf_Mem} {c j : Nat} {v : Int32} (h : (c = 3 ∧ 16 ≤ j) ∨ c = 4 ∨ (c = 5 ∧ 8 ≤ j) ∨ (c = 6 ∧ 8 ≤ j) ∨ (c = 7 ∧ 2 ≤ j) ∨ (c = 0 ∧ (j = 8 ∨ j = 9))) : FrD G (rf_set G c j v) := by
  have key : ∀ d k, (d ≠ c ∨ k ≠ j) → rf_set G c j v d k = G d k := fun d k hd => by
    by_cases e : d = c
    · subst e
      rcases hd with z | z
      · exact absurd rfl z
      · exact gs_k _ _ _ z
    · rw [gs_q _ _ _ e]
  refine ⟨fun d a b e f g i => gs_q _ _ _ (by omega), fun k a b => key 0 k (by omega), fun k hk => key 3 k (by omega), fun k hk => ⟨key 5 k (by omega), key 6 k (by omega)⟩, fun k hk => key 7 k (by omega)⟩
def glL (G : rf_Mem) (n : Nat) (v w : Int32) : rf_Mem := rf_set (rf_set (rf_set G 3 (16 + n) v) 4 (16 + n) w) 7 2 (nI (n + 1))
def glR (G : rf_Mem) (n : Nat) (v w : Int32) : rf_Mem := rf_set (rf_set (rf_set G 5 (8 + n) v) 6 (8 + n) w) 7 3 (nI (n + 1))
def glE (G : rf_Mem) (v : Int32) : rf_Mem := rf_set (rf_set G 0 9 (nI 1)) 0 8 v
theorem glL_fr (G : rf_Mem) (n : Nat) (v w : Int32) : FrD G (glL G n v w) := ((FrD.set (Or.inl ⟨rfl, by omega⟩)).tr (FrD.set (Or.inr (Or.inl rfl)))).tr (FrD.set (by omega))
theorem glR_fr (G : rf_Mem) (n : Nat) (v w : Int32) : FrD G (glR G n v w) := ((FrD.set (by omega)).tr (FrD.set (by omega))).tr (FrD.set (by omega))
theorem glE_fr (G : rf_Mem) (v : Int32) : FrD G (glE G v) := (FrD.set (by omega)).tr (FrD.set (by omega))
theorem kE_w {f : Nat → Int32} {tl a : Nat} (hs : sB f tl a = a) : kE f tl a = wE f tl a := by unfold kE wE; rw [hs]
theorem tx_z {f : Nat → Int32} {tl lo hi a : Nat} {x : Nat × Int32} (h : (tnX f tl lo hi a x).1 = 0) : x.1 = 0 := (fl2_z h).1
theorem te_z {f : Nat → Int32} {tl a : Nat} {x : Nat × Int32} (h : (teX f tl a x).1 = 0) : x.1 = 0 := (fl2_z h).1
theorem lnX_eq {f : Nat → Int32} {tl e a1 a2 : Nat} {y : Nat × Int32} (h1 : (tnX f tl 0 99 e y).1 = 0 → a1 = dE f tl e) (h2 : (tnX f tl 0 9 a1 (tnX f tl 0 99 e y)).1 = 0 → a2 = dE f tl a1) : teX f tl a2 (tnX f tl 0 9 a1 (tnX f tl 0 99 e y)) = teX f tl (dE f tl (dE f tl e)) (tnX f tl 0 9 (dE f tl e) (tnX f tl 0 99 e y)) := by
  by_cases z1 : (tnX f tl 0 99 e y).1 = 0
  · rw [h1 z1] at h2 ⊢
    by_cases z2 : (tnX f tl 0 9 (dE f tl e) (tnX f tl 0 99 e y)).1 = 0
    · rw [h2 z2]
    · rw [teX_x z2, teX_x z2]
  · rw [tnX_x z1, tnX_x z1, teX_x z1, teX_x z1]
theorem rdX_eq {f : Nat → Int32} {tl lo hi e a1 : Nat} {y : Nat × Int32} (h1 : (tnX f tl lo hi e y).1 = 0 → a1 = dE f tl e) : teX f tl a1 (tnX f tl lo hi e y) = teX f tl (dE f tl e) (tnX f tl lo hi e y) := by
  by_cases z1 : (tnX f tl lo hi e y).1 = 0
  · rw [h1 z1]
  · rw [teX_x z1, teX_x z1]
set_option maxRecDepth 20000 in
set_option maxHeartbeats 2000000 in
theorem e7_clLine {f : Nat → Int32} {tl : Nat} {G : rf_Mem} (hB : TG tl f G) (hF : TF tl f) {x : Nat × Int32} {a fi ln : Nat} (ha : a ≤ tl) (hs : sB f tl a = a) (hx0 : x.1 = 0) {n : Nat} (h7 : G 7 2 = nI n) (hn16 : n ≤ 16) (w0 : wdB f a (wE f tl a - a) 0 = true) : ∃ G2 a' fi' ln', Ev LayM mX7_takeClause 0 (rf_ent 2 [.ref 0]) [] (rsM (G) (a) (fi) (ln) (x)) none (rsM (G2) (a') (fi') (ln') (lnX f tl n a (wE f tl a) x)) ∧ ((lnX f tl n a (wE f tl a) x).1 = 0 → a' = lnA f tl (wE f tl a) ∧ G2 = glL G n (nI (vN f tl (wE f tl a))) (nI (vN f tl (dE f tl (wE f tl a))))) ∧ FrD G G2 := by
  have h400 := hB.2.1
  obtain ⟨q1, q2⟩ := wE_le (f := f) ha
  have hx : x.1 ≤ 3 := by omega
  have hfl : a + (wE f tl a - a) ≤ tl := by omega
  have tw := e7_takeWord (fi := fi) (ln := ln) (x := x) hB ha
  rw [hs, kE_w hs] at tw
  by_cases hn : n < 16
  · obtain ⟨v1, a1, fi1, eN1, p1, le1⟩ := e7_takeNumber (lo := 0) (hi := 99) (a := wE f tl a) (fi := a) (ln := wE f tl a - a) hB hF q2 (by decide) (by decide) hx
    have hB1 := hB.set (c := 3) (j := 16 + n) (v := nI v1) (by decide) (by decide)
    obtain ⟨v2, a2, fi2, eN2, p2, le2⟩ := e7_takeNumber (lo := 0) (hi := 9) (a := a1) (fi := fi1) (ln := wE f tl a - a) hB1 hF le1 (by decide) (by decide) (tnX_le (lo := 0) (hi := 99) (a := wE f tl a) (tl := tl) (f := f) hx)
    have hB2 := (hB1.set (c := 4) (j := 16 + n) (v := nI v2) (by decide) (by decide)).set (c := 7) (j := 2) (v := nI (n + 1)) (by decide) (by decide)
    obtain ⟨a3, eE, p3⟩ := tc_end (a := a2) (fi := fi2) (ln := wE f tl a - a) (w := nI a) hB2 le2 (tnX_le (tnX_le hx) : (tnX f tl 0 9 a1 (tnX f tl 0 99 (wE f tl a) x)).1 ≤ 3)
    have eX := lnX_eq (f := f) (tl := tl) (e := wE f tl a) (y := x) (fun z => (p1 z).2) (fun z => (p2 z).2)
    have eX2 : lnX f tl n a (wE f tl a) x = teX f tl a2 (tnX f tl 0 9 a1 (tnX f tl 0 99 (wE f tl a) x)) := by rw [lnX, if_pos hn, fl2_0]; exact eX.symm
    rw [eX2]
    refine ⟨glL G n (nI v1) (nI v2), a3, fi2, wE f tl a - a, ?_, fun z => ?_, glL_fr _ _ _ _⟩
    · skip
      refine ev_aload_n dX7_takeClause_0 rfl ?_
      refine ev_cV0v dX7_takeClause_1 ceX7_takeWord kX7_103 (rm_le rfl rfl) (Nat.le_of_ble_eq_true rfl) (Nat.le_of_ble_eq_true rfl) (tw) (by first | assumption | rfl) ?_
      refine ev_aload_n dX7_takeClause_4 rfl ?_
      refine ev_getI dX7_takeClause_5 fX7_80 (by first | assumption | rfl) (by rfl) ?_
      rw [rs_13]
      refine ev_istore_k 1 dX7_takeClause_8 rfl (by decide) rfl ?_
      refine ev_aload_n dX7_takeClause_9 rfl ?_
      refine ev_iconst (v := (nI 4)) dX7_takeClause_10 (by decide) ?_
      refine ev_bipush (v := (nI 108)) dX7_takeClause_11 (by decide) ?_
      refine ev_bipush (v := (nI 105)) dX7_takeClause_13 (by decide) ?_
      refine ev_bipush (v := (nI 110)) dX7_takeClause_15 (by decide) ?_
      refine ev_bipush (v := (nI 101)) dX7_takeClause_17 (by decide) ?_
      refine ev_iconst (v := (nI 0)) dX7_takeClause_19 (by decide) ?_
      refine ev_iconst (v := (nI 0)) dX7_takeClause_20 (by decide) ?_
      refine ev_iconst (v := (nI 0)) dX7_takeClause_21 (by decide) ?_
      refine ev_cV8 dX7_takeClause_22 ceX7_isWord kX7_99 (rm_le rfl rfl) (Nat.le_of_ble_eq_true rfl) (Nat.le_of_ble_eq_true rfl) (e7_isWord hB (j := 0) (by decide) hfl (by decide) (by decide) (by decide) (by decide) (by decide) (by decide) (by decide)) (by first | assumption | rfl) ?_
      refine ev_if_eq 108 dX7_takeClause_25 (by decide) (fun hc25 => False.elim (by rw [b2i_0, w0] at hc25; cases hc25)) (fun hc25 => ?_)
      refine ev_aload_n dX7_takeClause_28 rfl ?_
      refine ev_aload_n dX7_takeClause_29 rfl ?_
      refine ev_getR dX7_takeClause_30 fX7_29 (by first | assumption | rfl) (by rfl) ?_
      refine ev_iconst (v := (nI 2)) dX7_takeClause_33 (by decide) ?_
      refine ev_ialdE _ dX7_takeClause_34 (by first | with_reducible rfl | with_reducible exact nI_add _ _ | with_reducible exact ix3 _ _ _ | with_reducible exact ix_k _ _ _ | with_reducible exact ix_xk _ _ _ _) (by first | assumption | rfl) ⟨by omega, by decide⟩ ?_
      rw [rs_o (show 7 ≠ 0 by decide), h7]
      refine ev_bipush (v := (nI 16)) dX7_takeClause_35 (by decide) ?_
      refine ev_icmp_ge 44 dX7_takeClause_37 (by decide) (fun hc37 => False.elim (nI_ge hn (by decide) hc37)) (fun hc37 => ?_)
      refine ev_iconst (v := (nI 1)) dX7_takeClause_40 (by decide) ?_
      refine ev_goto 45 dX7_takeClause_41 (by decide) ?_
      refine ev_iconst (v := (nI 3)) dX7_takeClause_45 (by decide) ?_
      refine ev_iload_n dX7_takeClause_46 rfl ?_
      refine ev_cV3 dX7_takeClause_47 ceX7_want kX7_94 (rm_le rfl rfl) (Nat.le_of_ble_eq_true rfl) (Nat.le_of_ble_eq_true rfl) (e7_want (good := true) (by decide) (by decide) hx) (by first | assumption | rfl) ?_
      rw [if_pos rfl, fl2_0, decide_eq_true hx0]
      refine ev_if_eq 308 dX7_takeClause_50 (by decide) (fun hc50 => False.elim (absurd hc50 (by decide))) (fun hc50 => ?_)
      refine ev_aload_n dX7_takeClause_53 rfl ?_
      refine ev_getR dX7_takeClause_54 fX7_17 (by first | assumption | rfl) (by rfl) ?_
      refine ev_bipush (v := (nI 16)) dX7_takeClause_57 (by decide) ?_
      refine ev_aload_n dX7_takeClause_59 rfl ?_
      refine ev_getR dX7_takeClause_60 fX7_29 (by first | assumption | rfl) (by rfl) ?_
      refine ev_iconst (v := (nI 2)) dX7_takeClause_63 (by decide) ?_
      refine ev_ialdE _ dX7_takeClause_64 (by first | with_reducible rfl | with_reducible exact nI_add _ _ | with_reducible exact ix3 _ _ _ | with_reducible exact ix_k _ _ _ | with_reducible exact ix_xk _ _ _ _) (by first | assumption | rfl) ⟨by omega, by decide⟩ ?_
      rw [rs_o (show 7 ≠ 0 by decide), h7]
      refine ev_iadd dX7_takeClause_65 ?_
      refine ev_aload_n dX7_takeClause_66 rfl ?_
      refine ev_iconst (v := (nI 0)) dX7_takeClause_67 (by decide) ?_
      refine ev_bipush (v := (nI 99)) dX7_takeClause_68 (by decide) ?_
      refine ev_cV2 dX7_takeClause_70 ceX7_takeNumber kX7_106 (rm_le rfl rfl) (Nat.le_of_ble_eq_true rfl) (Nat.le_of_ble_eq_true rfl) (eN1) (by first | assumption | rfl) ?_
      refine ev_iastE (16 + n) dX7_takeClause_73 (nI_add _ _) (by first | assumption | rfl) ⟨by omega, by decide⟩ ?_
      rw [rs_set (show 3 ≠ 0 by decide)]
      refine ev_aload_n dX7_takeClause_74 rfl ?_
      refine ev_getR dX7_takeClause_75 fX7_20 (by first | assumption | rfl) (by rfl) ?_
      refine ev_bipush (v := (nI 16)) dX7_takeClause_78 (by decide) ?_
      refine ev_aload_n dX7_takeClause_80 rfl ?_
      refine ev_getR dX7_takeClause_81 fX7_29 (by first | assumption | rfl) (by rfl) ?_
      refine ev_iconst (v := (nI 2)) dX7_takeClause_84 (by decide) ?_
      refine ev_ialdE _ dX7_takeClause_85 (by first | with_reducible rfl | with_reducible exact nI_add _ _ | with_reducible exact ix3 _ _ _ | with_reducible exact ix_k _ _ _ | with_reducible exact ix_xk _ _ _ _) (by first | assumption | rfl) ⟨by omega, by decide⟩ ?_
      rw [rs_o (show 7 ≠ 0 by decide), gs_q _ _ _ (show 7 ≠ 3 by decide), h7]
      refine ev_iadd dX7_takeClause_86 ?_
      refine ev_aload_n dX7_takeClause_87 rfl ?_
      refine ev_iconst (v := (nI 0)) dX7_takeClause_88 (by decide) ?_
      refine ev_bipush (v := (nI 9)) dX7_takeClause_89 (by decide) ?_
      refine ev_cV2 dX7_takeClause_91 ceX7_takeNumber kX7_106 (rm_le rfl rfl) (Nat.le_of_ble_eq_true rfl) (Nat.le_of_ble_eq_true rfl) (eN2) (by first | assumption | rfl) ?_
      refine ev_iastE (16 + n) dX7_takeClause_94 (nI_add _ _) (by first | assumption | rfl) ⟨by omega, by decide⟩ ?_
      rw [rs_set (show 4 ≠ 0 by decide)]
      refine ev_aload_n dX7_takeClause_95 rfl ?_
      refine ev_getR dX7_takeClause_96 fX7_29 (by first | assumption | rfl) (by rfl) ?_
      refine ev_iconst (v := (nI 2)) dX7_takeClause_99 (by decide) ?_
      refine ev_dup2 dX7_takeClause_100 rfl rfl ?_
      refine ev_ialdE _ dX7_takeClause_101 (by first | with_reducible rfl | with_reducible exact nI_add _ _ | with_reducible exact ix3 _ _ _ | with_reducible exact ix_k _ _ _ | with_reducible exact ix_xk _ _ _ _) (by first | assumption | rfl) ⟨by omega, by decide⟩ ?_
      rw [rs_o (show 7 ≠ 0 by decide), gs_q _ _ _ (show 7 ≠ 4 by decide), gs_q _ _ _ (show 7 ≠ 3 by decide), h7]
      refine ev_iconst (v := (nI 1)) dX7_takeClause_102 (by decide) ?_
      refine ev_iadd dX7_takeClause_103 ?_
      rw [nI_add]
      refine ev_iastE (2) dX7_takeClause_104 (rfl) (by first | assumption | rfl) ⟨by decide, by decide⟩ ?_
      rw [rs_set (show 7 ≠ 0 by decide)]
      refine ev_goto 308 dX7_takeClause_105 (by decide) ?_
      exact ev_st eE rfl rfl rfl
    · have z2 := te_z z
      have z1 := tx_z z2
      obtain ⟨r1, r2⟩ := p1 z1
      obtain ⟨r3, r4⟩ := p2 z2
      rw [p3 z, r4, r3, r1, r2]
      exact ⟨rfl, rfl⟩
  · obtain ⟨a3, eE, p3⟩ := tc_end (x := fl2 x 3 a) (a := wE f tl a) (fi := a) (ln := wE f tl a - a) (w := nI a) hB q2 (fl2_lt hx (by decide))
    have hne : (fl2 x 3 a).1 ≠ 0 := fun z => absurd (fl2_z z).2 (by decide)
    have eX : lnX f tl n a (wE f tl a) x = teX f tl (wE f tl a) (fl2 x 3 a) := by rw [lnX, if_neg hn, tnX_x hne, tnX_x hne, teX_x hne, teX_x hne]
    rw [eX]
    refine ⟨G, a3, a, wE f tl a - a, ?_, fun z => absurd (te_z z) hne, FrD.rf G⟩
    refine ev_aload_n dX7_takeClause_0 rfl ?_
    refine ev_cV0v dX7_takeClause_1 ceX7_takeWord kX7_103 (rm_le rfl rfl) (Nat.le_of_ble_eq_true rfl) (Nat.le_of_ble_eq_true rfl) (tw) (by first | assumption | rfl) ?_
    refine ev_aload_n dX7_takeClause_4 rfl ?_
    refine ev_getI dX7_takeClause_5 fX7_80 (by first | assumption | rfl) (by rfl) ?_
    rw [rs_13]
    refine ev_istore_k 1 dX7_takeClause_8 rfl (by decide) rfl ?_
    refine ev_aload_n dX7_takeClause_9 rfl ?_
    refine ev_iconst (v := (nI 4)) dX7_takeClause_10 (by decide) ?_
    refine ev_bipush (v := (nI 108)) dX7_takeClause_11 (by decide) ?_
    refine ev_bipush (v := (nI 105)) dX7_takeClause_13 (by decide) ?_
    refine ev_bipush (v := (nI 110)) dX7_takeClause_15 (by decide) ?_
    refine ev_bipush (v := (nI 101)) dX7_takeClause_17 (by decide) ?_
    refine ev_iconst (v := (nI 0)) dX7_takeClause_19 (by decide) ?_
    refine ev_iconst (v := (nI 0)) dX7_takeClause_20 (by decide) ?_
    refine ev_iconst (v := (nI 0)) dX7_takeClause_21 (by decide) ?_
    refine ev_cV8 dX7_takeClause_22 ceX7_isWord kX7_99 (rm_le rfl rfl) (Nat.le_of_ble_eq_true rfl) (Nat.le_of_ble_eq_true rfl) (e7_isWord hB (j := 0) (by decide) hfl (by decide) (by decide) (by decide) (by decide) (by decide) (by decide) (by decide)) (by first | assumption | rfl) ?_
    refine ev_if_eq 108 dX7_takeClause_25 (by decide) (fun hc25 => False.elim (by rw [b2i_0, w0] at hc25; cases hc25)) (fun hc25 => ?_)
    refine ev_aload_n dX7_takeClause_28 rfl ?_
    refine ev_aload_n dX7_takeClause_29 rfl ?_
    refine ev_getR dX7_takeClause_30 fX7_29 (by first | assumption | rfl) (by rfl) ?_
    refine ev_iconst (v := (nI 2)) dX7_takeClause_33 (by decide) ?_
    refine ev_ialdE _ dX7_takeClause_34 (by first | with_reducible rfl | with_reducible exact nI_add _ _ | with_reducible exact ix3 _ _ _ | with_reducible exact ix_k _ _ _ | with_reducible exact ix_xk _ _ _ _) (by first | assumption | rfl) ⟨by omega, by decide⟩ ?_
    rw [rs_o (show 7 ≠ 0 by decide), h7]
    refine ev_bipush (v := (nI 16)) dX7_takeClause_35 (by decide) ?_
    refine ev_icmp_ge 44 dX7_takeClause_37 (by decide) (fun hc37 => ?_) (fun hc37 => False.elim (hc37 (nI_le (by omega) (by omega))))
    refine ev_iconst (v := (nI 0)) dX7_takeClause_44 (by decide) ?_
    refine ev_iconst (v := (nI 3)) dX7_takeClause_45 (by decide) ?_
    refine ev_iload_n dX7_takeClause_46 rfl ?_
    refine ev_cV3 dX7_takeClause_47 ceX7_want kX7_94 (rm_le rfl rfl) (Nat.le_of_ble_eq_true rfl) (Nat.le_of_ble_eq_true rfl) (e7_want (good := false) (by decide) (by decide) hx) (by first | assumption | rfl) ?_
    rw [if_neg (show ¬ false = true by decide), decide_eq_false hne]
    refine ev_if_eq 308 dX7_takeClause_50 (by decide) (fun hc50 => ?_) (fun hc50 => False.elim (hc50 rfl))
    exact ev_st eE rfl rfl rfl
set_option maxRecDepth 20000 in
set_option maxHeartbeats 2000000 in
theorem e7_clReader {f : Nat → Int32} {tl : Nat} {G : rf_Mem} (hB : TG tl f G) (hF : TF tl f) {x : Nat × Int32} {a fi ln : Nat} (ha : a ≤ tl) (hs : sB f tl a = a) (hx0 : x.1 = 0) {n : Nat} (h7 : G 7 3 = nI n) (hn8 : n ≤ 8) (w0 : wdB f a (wE f tl a - a) 0 = false) (w1 : wdB f a (wE f tl a - a) 1 = true) : ∃ G2 a' fi' ln', Ev LayM mX7_takeClause 0 (rf_ent 2 [.ref 0]) [] (rsM (G) (a) (fi) (ln) (x)) none (rsM (G2) (a') (fi') (ln') (rdX f tl n a (wE f tl a) x)) ∧ ((rdX f tl n a (wE f tl a) x).1 = 0 → a' = rdA f tl (wE f tl a) ∧ G2 = glR G n (kK f tl (wE f tl a)) (nI (vN f tl (kE f tl (wE f tl a))))) ∧ FrD G G2 := by
  have h400 := hB.2.1
  obtain ⟨q1, q2⟩ := wE_le (f := f) ha
  have hx : x.1 ≤ 3 := by omega
  have hfl : a + (wE f tl a - a) ≤ tl := by omega
  have tw := e7_takeWord (fi := fi) (ln := ln) (x := x) hB ha
  rw [hs, kE_w hs] at tw
  obtain ⟨k1, k2⟩ := kE_le (f := f) q2
  by_cases hn : n < 8
  · have hB1 := hB.set (c := 5) (j := 8 + n) (v := kdI f (sB f tl (wE f tl a)) (kE f tl (wE f tl a) - sB f tl (wE f tl a))) (by decide) (by decide)
    by_cases hk : kdN f (sB f tl (wE f tl a)) (kE f tl (wE f tl a) - sB f tl (wE f tl a)) = 1
    · have hneg := (kd_neg f (sB f tl (wE f tl a)) (kE f tl (wE f tl a) - sB f tl (wE f tl a))).mpr hk
      have hne : (fl2 x 1 (sB f tl (wE f tl a))).1 ≠ 0 := fun z => absurd (fl2_z z).2 (by decide)
      obtain ⟨a3, eE, p3⟩ := tc_end (x := fl2 x 1 (sB f tl (wE f tl a))) (a := kE f tl (wE f tl a)) (fi := sB f tl (wE f tl a)) (ln := kE f tl (wE f tl a) - sB f tl (wE f tl a)) (w := nI a) hB1 k2 (fl2_lt hx (by decide))
      have eX : rdX f tl n a (wE f tl a) x = teX f tl (kE f tl (wE f tl a)) (fl2 x 1 (sB f tl (wE f tl a))) := by rw [rdX, if_pos hn, fl2_0, kX, hk, tnX_x hne, teX_x hne, teX_x hne]
      rw [eX]
      refine ⟨rf_set G 5 (8 + n) (kdI f (sB f tl (wE f tl a)) (kE f tl (wE f tl a) - sB f tl (wE f tl a))), a3, sB f tl (wE f tl a), kE f tl (wE f tl a) - sB f tl (wE f tl a), ?_, fun z => absurd (te_z z) hne, FrD.set (by omega)⟩
      refine ev_aload_n dX7_takeClause_0 rfl ?_
      refine ev_cV0v dX7_takeClause_1 ceX7_takeWord kX7_103 (rm_le rfl rfl) (Nat.le_of_ble_eq_true rfl) (Nat.le_of_ble_eq_true rfl) (tw) (by first | assumption | rfl) ?_
      refine ev_aload_n dX7_takeClause_4 rfl ?_
      refine ev_getI dX7_takeClause_5 fX7_80 (by first | assumption | rfl) (by rfl) ?_
      rw [rs_13]
      refine ev_istore_k 1 dX7_takeClause_8 rfl (by decide) rfl ?_
      refine ev_aload_n dX7_takeClause_9 rfl ?_
      refine ev_iconst (v := (nI 4)) dX7_takeClause_10 (by decide) ?_
      refine ev_bipush (v := (nI 108)) dX7_takeClause_11 (by decide) ?_
      refine ev_bipush (v := (nI 105)) dX7_takeClause_13 (by decide) ?_
      refine ev_bipush (v := (nI 110)) dX7_takeClause_15 (by decide) ?_
      refine ev_bipush (v := (nI 101)) dX7_takeClause_17 (by decide) ?_
      refine ev_iconst (v := (nI 0)) dX7_takeClause_19 (by decide) ?_
      refine ev_iconst (v := (nI 0)) dX7_takeClause_20 (by decide) ?_
      refine ev_iconst (v := (nI 0)) dX7_takeClause_21 (by decide) ?_
      refine ev_cV8 dX7_takeClause_22 ceX7_isWord kX7_99 (rm_le rfl rfl) (Nat.le_of_ble_eq_true rfl) (Nat.le_of_ble_eq_true rfl) (e7_isWord hB (j := 0) (by decide) hfl (by decide) (by decide) (by decide) (by decide) (by decide) (by decide) (by decide)) (by first | assumption | rfl) ?_
      refine ev_if_eq 108 dX7_takeClause_25 (by decide) (fun hc25 => ?_) (fun hc25 => False.elim (hc25 (by rw [b2i_0]; exact w0)))
      refine ev_aload_n dX7_takeClause_108 rfl ?_
      refine ev_bipush (v := (nI 6)) dX7_takeClause_109 (by decide) ?_
      refine ev_bipush (v := (nI 114)) dX7_takeClause_111 (by decide) ?_
      refine ev_bipush (v := (nI 101)) dX7_takeClause_113 (by decide) ?_
      refine ev_bipush (v := (nI 97)) dX7_takeClause_115 (by decide) ?_
      refine ev_bipush (v := (nI 100)) dX7_takeClause_117 (by decide) ?_
      refine ev_bipush (v := (nI 101)) dX7_takeClause_119 (by decide) ?_
      refine ev_bipush (v := (nI 114)) dX7_takeClause_121 (by decide) ?_
      refine ev_iconst (v := (nI 0)) dX7_takeClause_123 (by decide) ?_
      refine ev_cV8 dX7_takeClause_124 ceX7_isWord kX7_99 (rm_le rfl rfl) (Nat.le_of_ble_eq_true rfl) (Nat.le_of_ble_eq_true rfl) (e7_isWord hB (j := 1) (by decide) hfl (by decide) (by decide) (by decide) (by decide) (by decide) (by decide) (by decide)) (by first | assumption | rfl) ?_
      refine ev_if_eq 245 dX7_takeClause_127 (by decide) (fun hc127 => False.elim (by rw [b2i_0, w1] at hc127; cases hc127)) (fun hc127 => ?_)
      refine ev_aload_n dX7_takeClause_130 rfl ?_
      refine ev_aload_n dX7_takeClause_131 rfl ?_
      refine ev_getR dX7_takeClause_132 fX7_29 (by first | assumption | rfl) (by rfl) ?_
      refine ev_iconst (v := (nI 3)) dX7_takeClause_135 (by decide) ?_
      refine ev_ialdE _ dX7_takeClause_136 (by first | with_reducible rfl | with_reducible exact nI_add _ _ | with_reducible exact ix3 _ _ _ | with_reducible exact ix_k _ _ _ | with_reducible exact ix_xk _ _ _ _) (by first | assumption | rfl) ⟨by omega, by decide⟩ ?_
      rw [rs_o (show 7 ≠ 0 by decide), h7]
      refine ev_bipush (v := (nI 8)) dX7_takeClause_137 (by decide) ?_
      refine ev_icmp_ge 146 dX7_takeClause_139 (by decide) (fun hc139 => False.elim (nI_ge hn (by decide) hc139)) (fun hc139 => ?_)
      refine ev_iconst (v := (nI 1)) dX7_takeClause_142 (by decide) ?_
      refine ev_goto 147 dX7_takeClause_143 (by decide) ?_
      refine ev_iconst (v := (nI 3)) dX7_takeClause_147 (by decide) ?_
      refine ev_iload_n dX7_takeClause_148 rfl ?_
      refine ev_cV3 dX7_takeClause_149 ceX7_want kX7_94 (rm_le rfl rfl) (Nat.le_of_ble_eq_true rfl) (Nat.le_of_ble_eq_true rfl) (e7_want (good := true) (by decide) (by decide) hx) (by first | assumption | rfl) ?_
      rw [if_pos rfl, fl2_0, decide_eq_true hx0]
      refine ev_if_eq 308 dX7_takeClause_152 (by decide) (fun hc152 => False.elim (absurd hc152 (by decide))) (fun hc152 => ?_)
      refine ev_aload_n dX7_takeClause_155 rfl ?_
      refine ev_cV0v dX7_takeClause_156 ceX7_takeWord kX7_103 (rm_le rfl rfl) (Nat.le_of_ble_eq_true rfl) (Nat.le_of_ble_eq_true rfl) (e7_takeWord hB q2) (by first | assumption | rfl) ?_
      refine ev_aload_n dX7_takeClause_159 rfl ?_
      refine ev_getR dX7_takeClause_160 fX7_23 (by first | assumption | rfl) (by rfl) ?_
      refine ev_bipush (v := (nI 8)) dX7_takeClause_163 (by decide) ?_
      refine ev_aload_n dX7_takeClause_165 rfl ?_
      refine ev_getR dX7_takeClause_166 fX7_29 (by first | assumption | rfl) (by rfl) ?_
      refine ev_iconst (v := (nI 3)) dX7_takeClause_169 (by decide) ?_
      refine ev_ialdE _ dX7_takeClause_170 (by first | with_reducible rfl | with_reducible exact nI_add _ _ | with_reducible exact ix3 _ _ _ | with_reducible exact ix_k _ _ _ | with_reducible exact ix_xk _ _ _ _) (by first | assumption | rfl) ⟨by omega, by decide⟩ ?_
      rw [rs_o (show 7 ≠ 0 by decide), h7]
      refine ev_iadd dX7_takeClause_171 ?_
      refine ev_aload_n dX7_takeClause_172 rfl ?_
      refine ev_cV0 dX7_takeClause_173 ceX7_kindHere kX7_110 (rm_le rfl rfl) (Nat.le_of_ble_eq_true rfl) (Nat.le_of_ble_eq_true rfl) (e7_kindHere hB (by omega)) (by first | assumption | rfl) ?_
      refine ev_iastE (8 + n) dX7_takeClause_176 (nI_add _ _) (by first | assumption | rfl) ⟨by omega, by decide⟩ ?_
      rw [rs_set (show 5 ≠ 0 by decide)]
      refine ev_aload_n dX7_takeClause_177 rfl ?_
      refine ev_aload_n dX7_takeClause_178 rfl ?_
      refine ev_getR dX7_takeClause_179 fX7_23 (by first | assumption | rfl) (by rfl) ?_
      refine ev_bipush (v := (nI 8)) dX7_takeClause_182 (by decide) ?_
      refine ev_aload_n dX7_takeClause_184 rfl ?_
      refine ev_getR dX7_takeClause_185 fX7_29 (by first | assumption | rfl) (by rfl) ?_
      refine ev_iconst (v := (nI 3)) dX7_takeClause_188 (by decide) ?_
      refine ev_ialdE _ dX7_takeClause_189 (by first | with_reducible rfl | with_reducible exact nI_add _ _ | with_reducible exact ix3 _ _ _ | with_reducible exact ix_k _ _ _ | with_reducible exact ix_xk _ _ _ _) (by first | assumption | rfl) ⟨by omega, by decide⟩ ?_
      rw [rs_o (show 7 ≠ 0 by decide), gs_q _ _ _ (show 7 ≠ 5 by decide), h7]
      refine ev_iadd dX7_takeClause_190 ?_
      refine ev_ialdE (8 + n) dX7_takeClause_191 (nI_add _ _) (by first | assumption | rfl) ⟨by omega, by decide⟩ ?_
      rw [rs_o (show 5 ≠ 0 by decide), gs_same]
      refine ev_if_lt 199 dX7_takeClause_192 (by decide) (fun hc192 => ?_) (fun hc192 => False.elim (hc192 hneg))
      refine ev_iconst (v := (nI 0)) dX7_takeClause_199 (by decide) ?_
      refine ev_iconst (v := (nI 1)) dX7_takeClause_200 (by decide) ?_
      refine ev_aload_n dX7_takeClause_201 rfl ?_
      refine ev_getI dX7_takeClause_202 fX7_80 (by first | assumption | rfl) (by rfl) ?_
      rw [rs_13]
      refine ev_cV3 dX7_takeClause_205 ceX7_want kX7_94 (rm_le rfl rfl) (Nat.le_of_ble_eq_true rfl) (Nat.le_of_ble_eq_true rfl) (e7_want (good := false) (by decide) (by decide) hx) (by first | assumption | rfl) ?_
      rw [if_neg (show ¬ false = true by decide), decide_eq_false hne]
      refine ev_if_eq 308 dX7_takeClause_208 (by decide) (fun hc208 => ?_) (fun hc208 => False.elim (hc208 rfl))
      exact ev_st eE rfl rfl rfl
    · have hk0 : kdN f (sB f tl (wE f tl a)) (kE f tl (wE f tl a) - sB f tl (wE f tl a)) = 0 := by have := kdN_le f (sB f tl (wE f tl a)) (kE f tl (wE f tl a) - sB f tl (wE f tl a)); unfold kdN at hk ⊢; split <;> simp_all
      have hneg : ¬ kdI f (sB f tl (wE f tl a)) (kE f tl (wE f tl a) - sB f tl (wE f tl a)) < 0 := fun z => hk ((kd_neg f (sB f tl (wE f tl a)) (kE f tl (wE f tl a) - sB f tl (wE f tl a))).mp z)
      obtain ⟨v1, a1, fi1, eN1, p1, le1⟩ := e7_takeNumber (lo := 1) (hi := 99) (a := kE f tl (wE f tl a)) (fi := sB f tl (wE f tl a)) (ln := kE f tl (wE f tl a) - sB f tl (wE f tl a)) hB1 hF k2 (by decide) (by decide) hx
      have hB2 := (hB1.set (c := 6) (j := 8 + n) (v := nI v1) (by decide) (by decide)).set (c := 7) (j := 3) (v := nI (n + 1)) (by decide) (by decide)
      obtain ⟨a3, eE, p3⟩ := tc_end (a := a1) (fi := fi1) (ln := kE f tl (wE f tl a) - sB f tl (wE f tl a)) (w := nI a) hB2 le1 (tnX_le hx : (tnX f tl 1 99 (kE f tl (wE f tl a)) x).1 ≤ 3)
      have eX := rdX_eq (f := f) (tl := tl) (lo := 1) (hi := 99) (e := kE f tl (wE f tl a)) (y := x) (fun z => (p1 z).2)
      have eX2 : rdX f tl n a (wE f tl a) x = teX f tl a1 (tnX f tl 1 99 (kE f tl (wE f tl a)) x) := by rw [rdX, if_pos hn, fl2_0, kX, hk0, fl2_0]; exact eX.symm
      rw [eX2]
      refine ⟨glR G n (kdI f (sB f tl (wE f tl a)) (kE f tl (wE f tl a) - sB f tl (wE f tl a))) (nI v1), a3, fi1, kE f tl (wE f tl a) - sB f tl (wE f tl a), ?_, fun z => ?_, glR_fr _ _ _ _⟩
      · skip
        refine ev_aload_n dX7_takeClause_0 rfl ?_
        refine ev_cV0v dX7_takeClause_1 ceX7_takeWord kX7_103 (rm_le rfl rfl) (Nat.le_of_ble_eq_true rfl) (Nat.le_of_ble_eq_true rfl) (tw) (by first | assumption | rfl) ?_
        refine ev_aload_n dX7_takeClause_4 rfl ?_
        refine ev_getI dX7_takeClause_5 fX7_80 (by first | assumption | rfl) (by rfl) ?_
        rw [rs_13]
        refine ev_istore_k 1 dX7_takeClause_8 rfl (by decide) rfl ?_
        refine ev_aload_n dX7_takeClause_9 rfl ?_
        refine ev_iconst (v := (nI 4)) dX7_takeClause_10 (by decide) ?_
        refine ev_bipush (v := (nI 108)) dX7_takeClause_11 (by decide) ?_
        refine ev_bipush (v := (nI 105)) dX7_takeClause_13 (by decide) ?_
        refine ev_bipush (v := (nI 110)) dX7_takeClause_15 (by decide) ?_
        refine ev_bipush (v := (nI 101)) dX7_takeClause_17 (by decide) ?_
        refine ev_iconst (v := (nI 0)) dX7_takeClause_19 (by decide) ?_
        refine ev_iconst (v := (nI 0)) dX7_takeClause_20 (by decide) ?_
        refine ev_iconst (v := (nI 0)) dX7_takeClause_21 (by decide) ?_
        refine ev_cV8 dX7_takeClause_22 ceX7_isWord kX7_99 (rm_le rfl rfl) (Nat.le_of_ble_eq_true rfl) (Nat.le_of_ble_eq_true rfl) (e7_isWord hB (j := 0) (by decide) hfl (by decide) (by decide) (by decide) (by decide) (by decide) (by decide) (by decide)) (by first | assumption | rfl) ?_
        refine ev_if_eq 108 dX7_takeClause_25 (by decide) (fun hc25 => ?_) (fun hc25 => False.elim (hc25 (by rw [b2i_0]; exact w0)))
        refine ev_aload_n dX7_takeClause_108 rfl ?_
        refine ev_bipush (v := (nI 6)) dX7_takeClause_109 (by decide) ?_
        refine ev_bipush (v := (nI 114)) dX7_takeClause_111 (by decide) ?_
        refine ev_bipush (v := (nI 101)) dX7_takeClause_113 (by decide) ?_
        refine ev_bipush (v := (nI 97)) dX7_takeClause_115 (by decide) ?_
        refine ev_bipush (v := (nI 100)) dX7_takeClause_117 (by decide) ?_
        refine ev_bipush (v := (nI 101)) dX7_takeClause_119 (by decide) ?_
        refine ev_bipush (v := (nI 114)) dX7_takeClause_121 (by decide) ?_
        refine ev_iconst (v := (nI 0)) dX7_takeClause_123 (by decide) ?_
        refine ev_cV8 dX7_takeClause_124 ceX7_isWord kX7_99 (rm_le rfl rfl) (Nat.le_of_ble_eq_true rfl) (Nat.le_of_ble_eq_true rfl) (e7_isWord hB (j := 1) (by decide) hfl (by decide) (by decide) (by decide) (by decide) (by decide) (by decide) (by decide)) (by first | assumption | rfl) ?_
        refine ev_if_eq 245 dX7_takeClause_127 (by decide) (fun hc127 => False.elim (by rw [b2i_0, w1] at hc127; cases hc127)) (fun hc127 => ?_)
        refine ev_aload_n dX7_takeClause_130 rfl ?_
        refine ev_aload_n dX7_takeClause_131 rfl ?_
        refine ev_getR dX7_takeClause_132 fX7_29 (by first | assumption | rfl) (by rfl) ?_
        refine ev_iconst (v := (nI 3)) dX7_takeClause_135 (by decide) ?_
        refine ev_ialdE _ dX7_takeClause_136 (by first | with_reducible rfl | with_reducible exact nI_add _ _ | with_reducible exact ix3 _ _ _ | with_reducible exact ix_k _ _ _ | with_reducible exact ix_xk _ _ _ _) (by first | assumption | rfl) ⟨by omega, by decide⟩ ?_
        rw [rs_o (show 7 ≠ 0 by decide), h7]
        refine ev_bipush (v := (nI 8)) dX7_takeClause_137 (by decide) ?_
        refine ev_icmp_ge 146 dX7_takeClause_139 (by decide) (fun hc139 => False.elim (nI_ge hn (by decide) hc139)) (fun hc139 => ?_)
        refine ev_iconst (v := (nI 1)) dX7_takeClause_142 (by decide) ?_
        refine ev_goto 147 dX7_takeClause_143 (by decide) ?_
        refine ev_iconst (v := (nI 3)) dX7_takeClause_147 (by decide) ?_
        refine ev_iload_n dX7_takeClause_148 rfl ?_
        refine ev_cV3 dX7_takeClause_149 ceX7_want kX7_94 (rm_le rfl rfl) (Nat.le_of_ble_eq_true rfl) (Nat.le_of_ble_eq_true rfl) (e7_want (good := true) (by decide) (by decide) hx) (by first | assumption | rfl) ?_
        rw [if_pos rfl, fl2_0, decide_eq_true hx0]
        refine ev_if_eq 308 dX7_takeClause_152 (by decide) (fun hc152 => False.elim (absurd hc152 (by decide))) (fun hc152 => ?_)
        refine ev_aload_n dX7_takeClause_155 rfl ?_
        refine ev_cV0v dX7_takeClause_156 ceX7_takeWord kX7_103 (rm_le rfl rfl) (Nat.le_of_ble_eq_true rfl) (Nat.le_of_ble_eq_true rfl) (e7_takeWord hB q2) (by first | assumption | rfl) ?_
        refine ev_aload_n dX7_takeClause_159 rfl ?_
        refine ev_getR dX7_takeClause_160 fX7_23 (by first | assumption | rfl) (by rfl) ?_
        refine ev_bipush (v := (nI 8)) dX7_takeClause_163 (by decide) ?_
        refine ev_aload_n dX7_takeClause_165 rfl ?_
        refine ev_getR dX7_takeClause_166 fX7_29 (by first | assumption | rfl) (by rfl) ?_
        refine ev_iconst (v := (nI 3)) dX7_takeClause_169 (by decide) ?_
        refine ev_ialdE _ dX7_takeClause_170 (by first | with_reducible rfl | with_reducible exact nI_add _ _ | with_reducible exact ix3 _ _ _ | with_reducible exact ix_k _ _ _ | with_reducible exact ix_xk _ _ _ _) (by first | assumption | rfl) ⟨by omega, by decide⟩ ?_
        rw [rs_o (show 7 ≠ 0 by decide), h7]
        refine ev_iadd dX7_takeClause_171 ?_
        refine ev_aload_n dX7_takeClause_172 rfl ?_
        refine ev_cV0 dX7_takeClause_173 ceX7_kindHere kX7_110 (rm_le rfl rfl) (Nat.le_of_ble_eq_true rfl) (Nat.le_of_ble_eq_true rfl) (e7_kindHere hB (by omega)) (by first | assumption | rfl) ?_
        refine ev_iastE (8 + n) dX7_takeClause_176 (nI_add _ _) (by first | assumption | rfl) ⟨by omega, by decide⟩ ?_
        rw [rs_set (show 5 ≠ 0 by decide)]
        refine ev_aload_n dX7_takeClause_177 rfl ?_
        refine ev_aload_n dX7_takeClause_178 rfl ?_
        refine ev_getR dX7_takeClause_179 fX7_23 (by first | assumption | rfl) (by rfl) ?_
        refine ev_bipush (v := (nI 8)) dX7_takeClause_182 (by decide) ?_
        refine ev_aload_n dX7_takeClause_184 rfl ?_
        refine ev_getR dX7_takeClause_185 fX7_29 (by first | assumption | rfl) (by rfl) ?_
        refine ev_iconst (v := (nI 3)) dX7_takeClause_188 (by decide) ?_
        refine ev_ialdE _ dX7_takeClause_189 (by first | with_reducible rfl | with_reducible exact nI_add _ _ | with_reducible exact ix3 _ _ _ | with_reducible exact ix_k _ _ _ | with_reducible exact ix_xk _ _ _ _) (by first | assumption | rfl) ⟨by omega, by decide⟩ ?_
        rw [rs_o (show 7 ≠ 0 by decide), gs_q _ _ _ (show 7 ≠ 5 by decide), h7]
        refine ev_iadd dX7_takeClause_190 ?_
        refine ev_ialdE (8 + n) dX7_takeClause_191 (nI_add _ _) (by first | assumption | rfl) ⟨by omega, by decide⟩ ?_
        rw [rs_o (show 5 ≠ 0 by decide), gs_same]
        refine ev_if_lt 199 dX7_takeClause_192 (by decide) (fun hc192 => False.elim (hneg hc192)) (fun hc192 => ?_)
        refine ev_iconst (v := (nI 1)) dX7_takeClause_195 (by decide) ?_
        refine ev_goto 200 dX7_takeClause_196 (by decide) ?_
        refine ev_iconst (v := (nI 1)) dX7_takeClause_200 (by decide) ?_
        refine ev_aload_n dX7_takeClause_201 rfl ?_
        refine ev_getI dX7_takeClause_202 fX7_80 (by first | assumption | rfl) (by rfl) ?_
        rw [rs_13]
        refine ev_cV3 dX7_takeClause_205 ceX7_want kX7_94 (rm_le rfl rfl) (Nat.le_of_ble_eq_true rfl) (Nat.le_of_ble_eq_true rfl) (e7_want (good := true) (by decide) (by decide) hx) (by first | assumption | rfl) ?_
        rw [if_pos rfl, fl2_0, decide_eq_true hx0]
        refine ev_if_eq 308 dX7_takeClause_208 (by decide) (fun hc208 => False.elim (absurd hc208 (by decide))) (fun hc208 => ?_)
        refine ev_aload_n dX7_takeClause_211 rfl ?_
        refine ev_getR dX7_takeClause_212 fX7_26 (by first | assumption | rfl) (by rfl) ?_
        refine ev_bipush (v := (nI 8)) dX7_takeClause_215 (by decide) ?_
        refine ev_aload_n dX7_takeClause_217 rfl ?_
        refine ev_getR dX7_takeClause_218 fX7_29 (by first | assumption | rfl) (by rfl) ?_
        refine ev_iconst (v := (nI 3)) dX7_takeClause_221 (by decide) ?_
        refine ev_ialdE _ dX7_takeClause_222 (by first | with_reducible rfl | with_reducible exact nI_add _ _ | with_reducible exact ix3 _ _ _ | with_reducible exact ix_k _ _ _ | with_reducible exact ix_xk _ _ _ _) (by first | assumption | rfl) ⟨by omega, by decide⟩ ?_
        rw [rs_o (show 7 ≠ 0 by decide), gs_q _ _ _ (show 7 ≠ 5 by decide), h7]
        refine ev_iadd dX7_takeClause_223 ?_
        refine ev_aload_n dX7_takeClause_224 rfl ?_
        refine ev_iconst (v := (nI 1)) dX7_takeClause_225 (by decide) ?_
        refine ev_bipush (v := (nI 99)) dX7_takeClause_226 (by decide) ?_
        refine ev_cV2 dX7_takeClause_228 ceX7_takeNumber kX7_106 (rm_le rfl rfl) (Nat.le_of_ble_eq_true rfl) (Nat.le_of_ble_eq_true rfl) (eN1) (by first | assumption | rfl) ?_
        refine ev_iastE (8 + n) dX7_takeClause_231 (nI_add _ _) (by first | assumption | rfl) ⟨by omega, by decide⟩ ?_
        rw [rs_set (show 6 ≠ 0 by decide)]
        refine ev_aload_n dX7_takeClause_232 rfl ?_
        refine ev_getR dX7_takeClause_233 fX7_29 (by first | assumption | rfl) (by rfl) ?_
        refine ev_iconst (v := (nI 3)) dX7_takeClause_236 (by decide) ?_
        refine ev_dup2 dX7_takeClause_237 rfl rfl ?_
        refine ev_ialdE _ dX7_takeClause_238 (by first | with_reducible rfl | with_reducible exact nI_add _ _ | with_reducible exact ix3 _ _ _ | with_reducible exact ix_k _ _ _ | with_reducible exact ix_xk _ _ _ _) (by first | assumption | rfl) ⟨by omega, by decide⟩ ?_
        rw [rs_o (show 7 ≠ 0 by decide), gs_q _ _ _ (show 7 ≠ 6 by decide), gs_q _ _ _ (show 7 ≠ 5 by decide), h7]
        refine ev_iconst (v := (nI 1)) dX7_takeClause_239 (by decide) ?_
        refine ev_iadd dX7_takeClause_240 ?_
        rw [nI_add]
        refine ev_iastE (3) dX7_takeClause_241 (rfl) (by first | assumption | rfl) ⟨by decide, by decide⟩ ?_
        rw [rs_set (show 7 ≠ 0 by decide)]
        refine ev_goto 308 dX7_takeClause_242 (by decide) ?_
        exact ev_st eE rfl rfl rfl
      · have z1 := te_z z
        obtain ⟨r1, r2⟩ := p1 z1
        rw [p3 z, r2, r1]
        exact ⟨rfl, rfl⟩
  · obtain ⟨a3, eE, p3⟩ := tc_end (x := fl2 x 3 a) (a := wE f tl a) (fi := a) (ln := wE f tl a - a) (w := nI a) hB q2 (fl2_lt hx (by decide))
    have hne : (fl2 x 3 a).1 ≠ 0 := fun z => absurd (fl2_z z).2 (by decide)
    have eX : rdX f tl n a (wE f tl a) x = teX f tl (wE f tl a) (fl2 x 3 a) := by rw [rdX, if_neg hn, kX_x hne, tnX_x hne, teX_x hne, teX_x hne]
    rw [eX]
    refine ⟨G, a3, a, wE f tl a - a, ?_, fun z => absurd (te_z z) hne, FrD.rf G⟩
    refine ev_aload_n dX7_takeClause_0 rfl ?_
    refine ev_cV0v dX7_takeClause_1 ceX7_takeWord kX7_103 (rm_le rfl rfl) (Nat.le_of_ble_eq_true rfl) (Nat.le_of_ble_eq_true rfl) (tw) (by first | assumption | rfl) ?_
    refine ev_aload_n dX7_takeClause_4 rfl ?_
    refine ev_getI dX7_takeClause_5 fX7_80 (by first | assumption | rfl) (by rfl) ?_
    rw [rs_13]
    refine ev_istore_k 1 dX7_takeClause_8 rfl (by decide) rfl ?_
    refine ev_aload_n dX7_takeClause_9 rfl ?_
    refine ev_iconst (v := (nI 4)) dX7_takeClause_10 (by decide) ?_
    refine ev_bipush (v := (nI 108)) dX7_takeClause_11 (by decide) ?_
    refine ev_bipush (v := (nI 105)) dX7_takeClause_13 (by decide) ?_
    refine ev_bipush (v := (nI 110)) dX7_takeClause_15 (by decide) ?_
    refine ev_bipush (v := (nI 101)) dX7_takeClause_17 (by decide) ?_
    refine ev_iconst (v := (nI 0)) dX7_takeClause_19 (by decide) ?_
    refine ev_iconst (v := (nI 0)) dX7_takeClause_20 (by decide) ?_
    refine ev_iconst (v := (nI 0)) dX7_takeClause_21 (by decide) ?_
    refine ev_cV8 dX7_takeClause_22 ceX7_isWord kX7_99 (rm_le rfl rfl) (Nat.le_of_ble_eq_true rfl) (Nat.le_of_ble_eq_true rfl) (e7_isWord hB (j := 0) (by decide) hfl (by decide) (by decide) (by decide) (by decide) (by decide) (by decide) (by decide)) (by first | assumption | rfl) ?_
    refine ev_if_eq 108 dX7_takeClause_25 (by decide) (fun hc25 => ?_) (fun hc25 => False.elim (hc25 (by rw [b2i_0]; exact w0)))
    refine ev_aload_n dX7_takeClause_108 rfl ?_
    refine ev_bipush (v := (nI 6)) dX7_takeClause_109 (by decide) ?_
    refine ev_bipush (v := (nI 114)) dX7_takeClause_111 (by decide) ?_
    refine ev_bipush (v := (nI 101)) dX7_takeClause_113 (by decide) ?_
    refine ev_bipush (v := (nI 97)) dX7_takeClause_115 (by decide) ?_
    refine ev_bipush (v := (nI 100)) dX7_takeClause_117 (by decide) ?_
    refine ev_bipush (v := (nI 101)) dX7_takeClause_119 (by decide) ?_
    refine ev_bipush (v := (nI 114)) dX7_takeClause_121 (by decide) ?_
    refine ev_iconst (v := (nI 0)) dX7_takeClause_123 (by decide) ?_
    refine ev_cV8 dX7_takeClause_124 ceX7_isWord kX7_99 (rm_le rfl rfl) (Nat.le_of_ble_eq_true rfl) (Nat.le_of_ble_eq_true rfl) (e7_isWord hB (j := 1) (by decide) hfl (by decide) (by decide) (by decide) (by decide) (by decide) (by decide) (by decide)) (by first | assumption | rfl) ?_
    refine ev_if_eq 245 dX7_takeClause_127 (by decide) (fun hc127 => False.elim (by rw [b2i_0, w1] at hc127; cases hc127)) (fun hc127 => ?_)
    refine ev_aload_n dX7_takeClause_130 rfl ?_
    refine ev_aload_n dX7_takeClause_131 rfl ?_
    refine ev_getR dX7_takeClause_132 fX7_29 (by first | assumption | rfl) (by rfl) ?_
    refine ev_iconst (v := (nI 3)) dX7_takeClause_135 (by decide) ?_
    refine ev_ialdE _ dX7_takeClause_136 (by first | with_reducible rfl | with_reducible exact nI_add _ _ | with_reducible exact ix3 _ _ _ | with_reducible exact ix_k _ _ _ | with_reducible exact ix_xk _ _ _ _) (by first | assumption | rfl) ⟨by omega, by decide⟩ ?_
    rw [rs_o (show 7 ≠ 0 by decide), h7]
    refine ev_bipush (v := (nI 8)) dX7_takeClause_137 (by decide) ?_
    refine ev_icmp_ge 146 dX7_takeClause_139 (by decide) (fun hc139 => ?_) (fun hc139 => False.elim (hc139 (nI_le (by omega) (by omega))))
    refine ev_iconst (v := (nI 0)) dX7_takeClause_146 (by decide) ?_
    refine ev_iconst (v := (nI 3)) dX7_takeClause_147 (by decide) ?_
    refine ev_iload_n dX7_takeClause_148 rfl ?_
    refine ev_cV3 dX7_takeClause_149 ceX7_want kX7_94 (rm_le rfl rfl) (Nat.le_of_ble_eq_true rfl) (Nat.le_of_ble_eq_true rfl) (e7_want (good := false) (by decide) (by decide) hx) (by first | assumption | rfl) ?_
    rw [if_neg (show ¬ false = true by decide), decide_eq_false hne]
    refine ev_if_eq 308 dX7_takeClause_152 (by decide) (fun hc152 => ?_) (fun hc152 => False.elim (hc152 rfl))
    exact ev_st eE rfl rfl rfl
set_option maxRecDepth 20000 in
set_option maxHeartbeats 2000000 in
theorem e7_clError {f : Nat → Int32} {tl : Nat} {G : rf_Mem} (hB : TG tl f G) (hF : TF tl f) {x : Nat × Int32} {a fi ln : Nat} (ha : a ≤ tl) (hs : sB f tl a = a) (hx0 : x.1 = 0) {b : Bool} (h9 : G 0 9 = b2i b) (w0 : wdB f a (wE f tl a - a) 0 = false) (w1 : wdB f a (wE f tl a - a) 1 = false) (w7 : wdB f a (wE f tl a - a) 7 = true) : ∃ G2 a' fi' ln', Ev LayM mX7_takeClause 0 (rf_ent 2 [.ref 0]) [] (rsM (G) (a) (fi) (ln) (x)) none (rsM (G2) (a') (fi') (ln') (erX f tl a (wE f tl a) b x)) ∧ ((erX f tl a (wE f tl a) b x).1 = 0 → a' = erA f tl (wE f tl a) ∧ G2 = glE G (nI (vN f tl (wE f tl a)))) ∧ FrD G G2 := by
  have h400 := hB.2.1
  obtain ⟨q1, q2⟩ := wE_le (f := f) ha
  have hx : x.1 ≤ 3 := by omega
  have hfl : a + (wE f tl a - a) ≤ tl := by omega
  have tw := e7_takeWord (fi := fi) (ln := ln) (x := x) hB ha
  rw [hs, kE_w hs] at tw
  cases hb : b with
  | false =>
    rw [hb] at h9
    have hB1 := hB.set0 (j := 9) (v := nI 1) (by decide)
    obtain ⟨v1, a1, fi1, eN1, p1, le1⟩ := e7_takeNumber (lo := 0) (hi := 100) (a := wE f tl a) (fi := a) (ln := wE f tl a - a) hB1 hF q2 (by decide) (by decide) hx
    have hB2 := hB1.set0 (j := 8) (v := nI v1) (by decide)
    obtain ⟨a3, eE, p3⟩ := tc_end (a := a1) (fi := fi1) (ln := wE f tl a - a) (w := nI a) hB2 le1 (tnX_le hx : (tnX f tl 0 100 (wE f tl a) x).1 ≤ 3)
    have eX := rdX_eq (f := f) (tl := tl) (lo := 0) (hi := 100) (e := wE f tl a) (y := x) (fun z => (p1 z).2)
    have eX2 : erX f tl a (wE f tl a) false x = teX f tl a1 (tnX f tl 0 100 (wE f tl a) x) := by rw [erX, if_neg (by decide), fl2_0]; exact eX.symm
    rw [eX2]
    refine ⟨glE G (nI v1), a3, fi1, wE f tl a - a, ?_, fun z => ?_, glE_fr _ _⟩
    · skip
      refine ev_aload_n dX7_takeClause_0 rfl ?_
      refine ev_cV0v dX7_takeClause_1 ceX7_takeWord kX7_103 (rm_le rfl rfl) (Nat.le_of_ble_eq_true rfl) (Nat.le_of_ble_eq_true rfl) (tw) (by first | assumption | rfl) ?_
      refine ev_aload_n dX7_takeClause_4 rfl ?_
      refine ev_getI dX7_takeClause_5 fX7_80 (by first | assumption | rfl) (by rfl) ?_
      rw [rs_13]
      refine ev_istore_k 1 dX7_takeClause_8 rfl (by decide) rfl ?_
      refine ev_aload_n dX7_takeClause_9 rfl ?_
      refine ev_iconst (v := (nI 4)) dX7_takeClause_10 (by decide) ?_
      refine ev_bipush (v := (nI 108)) dX7_takeClause_11 (by decide) ?_
      refine ev_bipush (v := (nI 105)) dX7_takeClause_13 (by decide) ?_
      refine ev_bipush (v := (nI 110)) dX7_takeClause_15 (by decide) ?_
      refine ev_bipush (v := (nI 101)) dX7_takeClause_17 (by decide) ?_
      refine ev_iconst (v := (nI 0)) dX7_takeClause_19 (by decide) ?_
      refine ev_iconst (v := (nI 0)) dX7_takeClause_20 (by decide) ?_
      refine ev_iconst (v := (nI 0)) dX7_takeClause_21 (by decide) ?_
      refine ev_cV8 dX7_takeClause_22 ceX7_isWord kX7_99 (rm_le rfl rfl) (Nat.le_of_ble_eq_true rfl) (Nat.le_of_ble_eq_true rfl) (e7_isWord hB (j := 0) (by decide) hfl (by decide) (by decide) (by decide) (by decide) (by decide) (by decide) (by decide)) (by first | assumption | rfl) ?_
      refine ev_if_eq 108 dX7_takeClause_25 (by decide) (fun hc25 => ?_) (fun hc25 => False.elim (hc25 (by rw [b2i_0]; exact w0)))
      refine ev_aload_n dX7_takeClause_108 rfl ?_
      refine ev_bipush (v := (nI 6)) dX7_takeClause_109 (by decide) ?_
      refine ev_bipush (v := (nI 114)) dX7_takeClause_111 (by decide) ?_
      refine ev_bipush (v := (nI 101)) dX7_takeClause_113 (by decide) ?_
      refine ev_bipush (v := (nI 97)) dX7_takeClause_115 (by decide) ?_
      refine ev_bipush (v := (nI 100)) dX7_takeClause_117 (by decide) ?_
      refine ev_bipush (v := (nI 101)) dX7_takeClause_119 (by decide) ?_
      refine ev_bipush (v := (nI 114)) dX7_takeClause_121 (by decide) ?_
      refine ev_iconst (v := (nI 0)) dX7_takeClause_123 (by decide) ?_
      refine ev_cV8 dX7_takeClause_124 ceX7_isWord kX7_99 (rm_le rfl rfl) (Nat.le_of_ble_eq_true rfl) (Nat.le_of_ble_eq_true rfl) (e7_isWord hB (j := 1) (by decide) hfl (by decide) (by decide) (by decide) (by decide) (by decide) (by decide) (by decide)) (by first | assumption | rfl) ?_
      refine ev_if_eq 245 dX7_takeClause_127 (by decide) (fun hc127 => ?_) (fun hc127 => False.elim (hc127 (by rw [b2i_0]; exact w1)))
      refine ev_aload_n dX7_takeClause_245 rfl ?_
      refine ev_aload_n dX7_takeClause_246 rfl ?_
      refine ev_iconst (v := (nI 5)) dX7_takeClause_247 (by decide) ?_
      refine ev_bipush (v := (nI 101)) dX7_takeClause_248 (by decide) ?_
      refine ev_bipush (v := (nI 114)) dX7_takeClause_250 (by decide) ?_
      refine ev_bipush (v := (nI 114)) dX7_takeClause_252 (by decide) ?_
      refine ev_bipush (v := (nI 111)) dX7_takeClause_254 (by decide) ?_
      refine ev_bipush (v := (nI 114)) dX7_takeClause_256 (by decide) ?_
      refine ev_iconst (v := (nI 0)) dX7_takeClause_258 (by decide) ?_
      refine ev_iconst (v := (nI 0)) dX7_takeClause_259 (by decide) ?_
      refine ev_cV8 dX7_takeClause_260 ceX7_isWord kX7_99 (rm_le rfl rfl) (Nat.le_of_ble_eq_true rfl) (Nat.le_of_ble_eq_true rfl) (e7_isWord hB (j := 7) (by decide) hfl (by decide) (by decide) (by decide) (by decide) (by decide) (by decide) (by decide)) (by first | assumption | rfl) ?_
      rw [w7]
      refine ev_iconst (v := (nI 1)) dX7_takeClause_263 (by decide) ?_
      refine ev_iload_n dX7_takeClause_264 rfl ?_
      refine ev_cV3 dX7_takeClause_265 ceX7_want kX7_94 (rm_le rfl rfl) (Nat.le_of_ble_eq_true rfl) (Nat.le_of_ble_eq_true rfl) (e7_want (good := true) (by decide) (by decide) hx) (by first | assumption | rfl) ?_
      rw [if_pos rfl, fl2_0, decide_eq_true hx0]
      refine ev_if_eq 308 dX7_takeClause_268 (by decide) (fun hc268 => False.elim (absurd hc268 (by decide))) (fun hc268 => ?_)
      refine ev_aload_n dX7_takeClause_271 rfl ?_
      refine ev_aload_n dX7_takeClause_272 rfl ?_
      refine ev_getI dX7_takeClause_273 fX7_113 (by first | assumption | rfl) (by rfl) ?_
      rw [rs_j (by omega), h9]
      refine ev_if_ne 283 dX7_takeClause_276 (by decide) (fun hc276 => False.elim (hc276 rfl)) (fun hc276 => ?_)
      refine ev_iconst (v := (nI 1)) dX7_takeClause_279 (by decide) ?_
      refine ev_goto 284 dX7_takeClause_280 (by decide) ?_
      refine ev_iconst (v := (nI 3)) dX7_takeClause_284 (by decide) ?_
      refine ev_iload_n dX7_takeClause_285 rfl ?_
      refine ev_cV3 dX7_takeClause_286 ceX7_want kX7_94 (rm_le rfl rfl) (Nat.le_of_ble_eq_true rfl) (Nat.le_of_ble_eq_true rfl) (e7_want (good := true) (by decide) (by decide) hx) (by first | assumption | rfl) ?_
      rw [if_pos rfl, fl2_0, decide_eq_true hx0]
      refine ev_if_eq 308 dX7_takeClause_289 (by decide) (fun hc289 => False.elim (absurd hc289 (by decide))) (fun hc289 => ?_)
      refine ev_aload_n dX7_takeClause_292 rfl ?_
      refine ev_iconst (v := (nI 1)) dX7_takeClause_293 (by decide) ?_
      refine ev_put dX7_takeClause_294 pX7_113 (by first | assumption | rfl) (by rfl) (rfl) (rfl) ?_
      rw [rs_set0 (by decide)]
      refine ev_aload_n dX7_takeClause_297 rfl ?_
      refine ev_aload_n dX7_takeClause_298 rfl ?_
      refine ev_iconst (v := (nI 0)) dX7_takeClause_299 (by decide) ?_
      refine ev_bipush (v := (nI 100)) dX7_takeClause_300 (by decide) ?_
      refine ev_cV2 dX7_takeClause_302 ceX7_takeNumber kX7_106 (rm_le rfl rfl) (Nat.le_of_ble_eq_true rfl) (Nat.le_of_ble_eq_true rfl) (eN1) (by first | assumption | rfl) ?_
      refine ev_put dX7_takeClause_305 pX7_117 (by first | assumption | rfl) (by rfl) (rfl) (rfl) ?_
      rw [rs_set0 (by decide)]
      exact ev_st eE rfl rfl rfl
    · have z1 := te_z z
      obtain ⟨r1, r2⟩ := p1 z1
      rw [p3 z, r2, r1]
      exact ⟨rfl, rfl⟩
  | true =>
    rw [hb] at h9
    obtain ⟨a3, eE, p3⟩ := tc_end (x := fl2 x 3 a) (a := wE f tl a) (fi := a) (ln := wE f tl a - a) (w := nI a) hB q2 (fl2_lt hx (by decide))
    have hne : (fl2 x 3 a).1 ≠ 0 := fun z => absurd (fl2_z z).2 (by decide)
    have eX : erX f tl a (wE f tl a) true x = teX f tl (wE f tl a) (fl2 x 3 a) := by rw [erX, if_pos rfl, tnX_x hne, teX_x hne, teX_x hne]
    rw [eX]
    refine ⟨G, a3, a, wE f tl a - a, ?_, fun z => absurd (te_z z) hne, FrD.rf G⟩
    refine ev_aload_n dX7_takeClause_0 rfl ?_
    refine ev_cV0v dX7_takeClause_1 ceX7_takeWord kX7_103 (rm_le rfl rfl) (Nat.le_of_ble_eq_true rfl) (Nat.le_of_ble_eq_true rfl) (tw) (by first | assumption | rfl) ?_
    refine ev_aload_n dX7_takeClause_4 rfl ?_
    refine ev_getI dX7_takeClause_5 fX7_80 (by first | assumption | rfl) (by rfl) ?_
    rw [rs_13]
    refine ev_istore_k 1 dX7_takeClause_8 rfl (by decide) rfl ?_
    refine ev_aload_n dX7_takeClause_9 rfl ?_
    refine ev_iconst (v := (nI 4)) dX7_takeClause_10 (by decide) ?_
    refine ev_bipush (v := (nI 108)) dX7_takeClause_11 (by decide) ?_
    refine ev_bipush (v := (nI 105)) dX7_takeClause_13 (by decide) ?_
    refine ev_bipush (v := (nI 110)) dX7_takeClause_15 (by decide) ?_
    refine ev_bipush (v := (nI 101)) dX7_takeClause_17 (by decide) ?_
    refine ev_iconst (v := (nI 0)) dX7_takeClause_19 (by decide) ?_
    refine ev_iconst (v := (nI 0)) dX7_takeClause_20 (by decide) ?_
    refine ev_iconst (v := (nI 0)) dX7_takeClause_21 (by decide) ?_
    refine ev_cV8 dX7_takeClause_22 ceX7_isWord kX7_99 (rm_le rfl rfl) (Nat.le_of_ble_eq_true rfl) (Nat.le_of_ble_eq_true rfl) (e7_isWord hB (j := 0) (by decide) hfl (by decide) (by decide) (by decide) (by decide) (by decide) (by decide) (by decide)) (by first | assumption | rfl) ?_
    refine ev_if_eq 108 dX7_takeClause_25 (by decide) (fun hc25 => ?_) (fun hc25 => False.elim (hc25 (by rw [b2i_0]; exact w0)))
    refine ev_aload_n dX7_takeClause_108 rfl ?_
    refine ev_bipush (v := (nI 6)) dX7_takeClause_109 (by decide) ?_
    refine ev_bipush (v := (nI 114)) dX7_takeClause_111 (by decide) ?_
    refine ev_bipush (v := (nI 101)) dX7_takeClause_113 (by decide) ?_
    refine ev_bipush (v := (nI 97)) dX7_takeClause_115 (by decide) ?_
    refine ev_bipush (v := (nI 100)) dX7_takeClause_117 (by decide) ?_
    refine ev_bipush (v := (nI 101)) dX7_takeClause_119 (by decide) ?_
    refine ev_bipush (v := (nI 114)) dX7_takeClause_121 (by decide) ?_
    refine ev_iconst (v := (nI 0)) dX7_takeClause_123 (by decide) ?_
    refine ev_cV8 dX7_takeClause_124 ceX7_isWord kX7_99 (rm_le rfl rfl) (Nat.le_of_ble_eq_true rfl) (Nat.le_of_ble_eq_true rfl) (e7_isWord hB (j := 1) (by decide) hfl (by decide) (by decide) (by decide) (by decide) (by decide) (by decide) (by decide)) (by first | assumption | rfl) ?_
    refine ev_if_eq 245 dX7_takeClause_127 (by decide) (fun hc127 => ?_) (fun hc127 => False.elim (hc127 (by rw [b2i_0]; exact w1)))
    refine ev_aload_n dX7_takeClause_245 rfl ?_
    refine ev_aload_n dX7_takeClause_246 rfl ?_
    refine ev_iconst (v := (nI 5)) dX7_takeClause_247 (by decide) ?_
    refine ev_bipush (v := (nI 101)) dX7_takeClause_248 (by decide) ?_
    refine ev_bipush (v := (nI 114)) dX7_takeClause_250 (by decide) ?_
    refine ev_bipush (v := (nI 114)) dX7_takeClause_252 (by decide) ?_
    refine ev_bipush (v := (nI 111)) dX7_takeClause_254 (by decide) ?_
    refine ev_bipush (v := (nI 114)) dX7_takeClause_256 (by decide) ?_
    refine ev_iconst (v := (nI 0)) dX7_takeClause_258 (by decide) ?_
    refine ev_iconst (v := (nI 0)) dX7_takeClause_259 (by decide) ?_
    refine ev_cV8 dX7_takeClause_260 ceX7_isWord kX7_99 (rm_le rfl rfl) (Nat.le_of_ble_eq_true rfl) (Nat.le_of_ble_eq_true rfl) (e7_isWord hB (j := 7) (by decide) hfl (by decide) (by decide) (by decide) (by decide) (by decide) (by decide) (by decide)) (by first | assumption | rfl) ?_
    rw [w7]
    refine ev_iconst (v := (nI 1)) dX7_takeClause_263 (by decide) ?_
    refine ev_iload_n dX7_takeClause_264 rfl ?_
    refine ev_cV3 dX7_takeClause_265 ceX7_want kX7_94 (rm_le rfl rfl) (Nat.le_of_ble_eq_true rfl) (Nat.le_of_ble_eq_true rfl) (e7_want (good := true) (by decide) (by decide) hx) (by first | assumption | rfl) ?_
    rw [if_pos rfl, fl2_0, decide_eq_true hx0]
    refine ev_if_eq 308 dX7_takeClause_268 (by decide) (fun hc268 => False.elim (absurd hc268 (by decide))) (fun hc268 => ?_)
    refine ev_aload_n dX7_takeClause_271 rfl ?_
    refine ev_aload_n dX7_takeClause_272 rfl ?_
    refine ev_getI dX7_takeClause_273 fX7_113 (by first | assumption | rfl) (by rfl) ?_
    rw [rs_j (by omega), h9]
    refine ev_if_ne 283 dX7_takeClause_276 (by decide) (fun hc276 => ?_) (fun hc276 => False.elim (absurd hc276 (by decide)))
    refine ev_iconst (v := (nI 0)) dX7_takeClause_283 (by decide) ?_
    refine ev_iconst (v := (nI 3)) dX7_takeClause_284 (by decide) ?_
    refine ev_iload_n dX7_takeClause_285 rfl ?_
    refine ev_cV3 dX7_takeClause_286 ceX7_want kX7_94 (rm_le rfl rfl) (Nat.le_of_ble_eq_true rfl) (Nat.le_of_ble_eq_true rfl) (e7_want (good := false) (by decide) (by decide) hx) (by first | assumption | rfl) ?_
    rw [if_neg (show ¬ false = true by decide), decide_eq_false hne]
    refine ev_if_eq 308 dX7_takeClause_289 (by decide) (fun hc289 => ?_) (fun hc289 => False.elim (hc289 rfl))
    exact ev_st eE rfl rfl rfl
set_option maxRecDepth 20000 in
set_option maxHeartbeats 2000000 in
theorem e7_clNone {f : Nat → Int32} {tl : Nat} {G : rf_Mem} (hB : TG tl f G) (hF : TF tl f) {x : Nat × Int32} {a fi ln : Nat} (ha : a ≤ tl) (hs : sB f tl a = a) (hx0 : x.1 = 0) (w0 : wdB f a (wE f tl a - a) 0 = false) (w1 : wdB f a (wE f tl a - a) 1 = false) (w7 : wdB f a (wE f tl a - a) 7 = false) : ∃ a' fi' ln', Ev LayM mX7_takeClause 0 (rf_ent 2 [.ref 0]) [] (rsM (G) (a) (fi) (ln) (x)) none (rsM (G) (a') (fi') (ln') (fl2 x 1 a)) := by
  have h400 := hB.2.1
  obtain ⟨q1, q2⟩ := wE_le (f := f) ha
  have hx : x.1 ≤ 3 := by omega
  have hfl : a + (wE f tl a - a) ≤ tl := by omega
  have tw := e7_takeWord (fi := fi) (ln := ln) (x := x) hB ha
  rw [hs, kE_w hs] at tw
  obtain ⟨a3, eE, p3⟩ := tc_end (x := fl2 x 1 a) (a := wE f tl a) (fi := a) (ln := wE f tl a - a) (w := nI a) hB q2 (fl2_lt hx (by decide))
  have hne : (fl2 x 1 a).1 ≠ 0 := fun z => absurd (fl2_z z).2 (by decide)
  rw [teX_x hne] at eE
  refine ⟨a3, a, wE f tl a - a, ?_⟩
  refine ev_aload_n dX7_takeClause_0 rfl ?_
  refine ev_cV0v dX7_takeClause_1 ceX7_takeWord kX7_103 (rm_le rfl rfl) (Nat.le_of_ble_eq_true rfl) (Nat.le_of_ble_eq_true rfl) (tw) (by first | assumption | rfl) ?_
  refine ev_aload_n dX7_takeClause_4 rfl ?_
  refine ev_getI dX7_takeClause_5 fX7_80 (by first | assumption | rfl) (by rfl) ?_
  rw [rs_13]
  refine ev_istore_k 1 dX7_takeClause_8 rfl (by decide) rfl ?_
  refine ev_aload_n dX7_takeClause_9 rfl ?_
  refine ev_iconst (v := (nI 4)) dX7_takeClause_10 (by decide) ?_
  refine ev_bipush (v := (nI 108)) dX7_takeClause_11 (by decide) ?_
  refine ev_bipush (v := (nI 105)) dX7_takeClause_13 (by decide) ?_
  refine ev_bipush (v := (nI 110)) dX7_takeClause_15 (by decide) ?_
  refine ev_bipush (v := (nI 101)) dX7_takeClause_17 (by decide) ?_
  refine ev_iconst (v := (nI 0)) dX7_takeClause_19 (by decide) ?_
  refine ev_iconst (v := (nI 0)) dX7_takeClause_20 (by decide) ?_
  refine ev_iconst (v := (nI 0)) dX7_takeClause_21 (by decide) ?_
  refine ev_cV8 dX7_takeClause_22 ceX7_isWord kX7_99 (rm_le rfl rfl) (Nat.le_of_ble_eq_true rfl) (Nat.le_of_ble_eq_true rfl) (e7_isWord hB (j := 0) (by decide) hfl (by decide) (by decide) (by decide) (by decide) (by decide) (by decide) (by decide)) (by first | assumption | rfl) ?_
  refine ev_if_eq 108 dX7_takeClause_25 (by decide) (fun hc25 => ?_) (fun hc25 => False.elim (hc25 (by rw [b2i_0]; exact w0)))
  refine ev_aload_n dX7_takeClause_108 rfl ?_
  refine ev_bipush (v := (nI 6)) dX7_takeClause_109 (by decide) ?_
  refine ev_bipush (v := (nI 114)) dX7_takeClause_111 (by decide) ?_
  refine ev_bipush (v := (nI 101)) dX7_takeClause_113 (by decide) ?_
  refine ev_bipush (v := (nI 97)) dX7_takeClause_115 (by decide) ?_
  refine ev_bipush (v := (nI 100)) dX7_takeClause_117 (by decide) ?_
  refine ev_bipush (v := (nI 101)) dX7_takeClause_119 (by decide) ?_
  refine ev_bipush (v := (nI 114)) dX7_takeClause_121 (by decide) ?_
  refine ev_iconst (v := (nI 0)) dX7_takeClause_123 (by decide) ?_
  refine ev_cV8 dX7_takeClause_124 ceX7_isWord kX7_99 (rm_le rfl rfl) (Nat.le_of_ble_eq_true rfl) (Nat.le_of_ble_eq_true rfl) (e7_isWord hB (j := 1) (by decide) hfl (by decide) (by decide) (by decide) (by decide) (by decide) (by decide) (by decide)) (by first | assumption | rfl) ?_
  refine ev_if_eq 245 dX7_takeClause_127 (by decide) (fun hc127 => ?_) (fun hc127 => False.elim (hc127 (by rw [b2i_0]; exact w1)))
  refine ev_aload_n dX7_takeClause_245 rfl ?_
  refine ev_aload_n dX7_takeClause_246 rfl ?_
  refine ev_iconst (v := (nI 5)) dX7_takeClause_247 (by decide) ?_
  refine ev_bipush (v := (nI 101)) dX7_takeClause_248 (by decide) ?_
  refine ev_bipush (v := (nI 114)) dX7_takeClause_250 (by decide) ?_
  refine ev_bipush (v := (nI 114)) dX7_takeClause_252 (by decide) ?_
  refine ev_bipush (v := (nI 111)) dX7_takeClause_254 (by decide) ?_
  refine ev_bipush (v := (nI 114)) dX7_takeClause_256 (by decide) ?_
  refine ev_iconst (v := (nI 0)) dX7_takeClause_258 (by decide) ?_
  refine ev_iconst (v := (nI 0)) dX7_takeClause_259 (by decide) ?_
  refine ev_cV8 dX7_takeClause_260 ceX7_isWord kX7_99 (rm_le rfl rfl) (Nat.le_of_ble_eq_true rfl) (Nat.le_of_ble_eq_true rfl) (e7_isWord hB (j := 7) (by decide) hfl (by decide) (by decide) (by decide) (by decide) (by decide) (by decide) (by decide)) (by first | assumption | rfl) ?_
  rw [w7]
  refine ev_iconst (v := (nI 1)) dX7_takeClause_263 (by decide) ?_
  refine ev_iload_n dX7_takeClause_264 rfl ?_
  refine ev_cV3 dX7_takeClause_265 ceX7_want kX7_94 (rm_le rfl rfl) (Nat.le_of_ble_eq_true rfl) (Nat.le_of_ble_eq_true rfl) (e7_want (good := false) (by decide) (by decide) hx) (by first | assumption | rfl) ?_
  rw [if_neg (show ¬ false = true by decide), decide_eq_false hne]
  refine ev_if_eq 308 dX7_takeClause_268 (by decide) (fun hc268 => ?_) (fun hc268 => False.elim (hc268 rfl))
  exact ev_st eE rfl rfl rfl
