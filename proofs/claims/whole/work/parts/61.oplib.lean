/-! ops: library, both sides -/
theorem opL_v {q : Nat} {C : rf_Mem} {p : Nat} : ∀ n, p < n → opL q C n (q + 1) p = nI p ∧ opL q C n (q + 2) p = nI 0 ∧ opL q C n (q + 3) p = C 10 p ∧ opL q C n (q + 4) p = -1 ∧ opL q C n (q + 7) p = nI 0
  | 0, h => absurd h (Nat.not_lt_zero _)
  | n + 1, h => by
    have a1 : opL q C (n + 1) (q + 1) = rf_set (opL q C n) (q + 1) n (nI n) (q + 1) := by rw [opL, gs_q _ _ _ (by omega), gs_q _ _ _ (by omega), gs_q _ _ _ (by omega), gs_q _ _ _ (by omega)]
    have a2 : opL q C (n + 1) (q + 2) = rf_set (opL q C n) (q + 2) n (nI 0) (q + 2) := by rw [opL, gs_q _ _ _ (by omega), gs_q _ _ _ (by omega), gs_q _ _ _ (by omega)]; funext j; by_cases e : j = n; (· rw [e, gs_same, gs_same]); rw [gs_k _ _ _ e, gs_k _ _ _ e, gs_q _ _ _ (by omega)]
    have a3 : opL q C (n + 1) (q + 3) = rf_set (opL q C n) (q + 3) n (C 10 n) (q + 3) := by rw [opL, gs_q _ _ _ (by omega), gs_q _ _ _ (by omega)]; funext j; by_cases e : j = n; (· rw [e, gs_same, gs_same]); rw [gs_k _ _ _ e, gs_k _ _ _ e, gs_q _ _ _ (by omega), gs_q _ _ _ (by omega)]
    have a4 : opL q C (n + 1) (q + 4) = rf_set (opL q C n) (q + 4) n (-1) (q + 4) := by rw [opL, gs_q _ _ _ (by omega)]; funext j; by_cases e : j = n; (· rw [e, gs_same, gs_same]); rw [gs_k _ _ _ e, gs_k _ _ _ e, gs_q _ _ _ (by omega), gs_q _ _ _ (by omega), gs_q _ _ _ (by omega)]
    have a5 : opL q C (n + 1) (q + 7) = rf_set (opL q C n) (q + 7) n (nI 0) (q + 7) := by rw [opL]; funext j; by_cases e : j = n; (· rw [e, gs_same, gs_same]); rw [gs_k _ _ _ e, gs_k _ _ _ e, gs_q _ _ _ (by omega), gs_q _ _ _ (by omega), gs_q _ _ _ (by omega), gs_q _ _ _ (by omega)]
    rw [a1, a2, a3, a4, a5]
    by_cases e : p = n
    · rw [e, gs_same, gs_same, gs_same, gs_same, gs_same]; exact ⟨rfl, rfl, rfl, rfl, rfl⟩
    · rw [gs_k _ _ _ e, gs_k _ _ _ e, gs_k _ _ _ e, gs_k _ _ _ e, gs_k _ _ _ e]; exact opL_v n (by omega)
theorem lbP_o {C : rf_Mem} {c : Nat} (h : c < 8 ∨ 12 < c) : lbP C c = C c := by
  unfold lbP
  rw [gs_q _ _ _ (by omega), gs_q _ _ _ (by omega), gs_q _ _ _ (by omega), gs_q _ _ _ (by omega), cpR_o (by omega), cpR_o (by omega), cpR_o (by omega), cpR_o (by omega)]
theorem lbP_8 {C : rf_Mem} : lbP C 8 4 = C 3 4 ∧ lbP C 8 5 = C 3 5 ∧ lbP C 8 6 = C 3 6 := by
  unfold lbP
  simp only [gs_same, gs_k _ _ _ (show 4 ≠ 5 by decide), gs_k _ _ _ (show 4 ≠ 6 by decide), gs_k _ _ _ (show 4 ≠ 7 by decide), gs_k _ _ _ (show 5 ≠ 6 by decide), gs_k _ _ _ (show 5 ≠ 7 by decide), gs_k _ _ _ (show 6 ≠ 7 by decide), gs_q _ _ _ (show 3 ≠ 8 by decide), cpR_o (show 3 ≠ 9 by decide), cpR_o (show 3 ≠ 10 by decide), cpR_o (show 3 ≠ 11 by decide), cpR_o (show 3 ≠ 12 by decide), and_self]
theorem lbP_v {C : rf_Mem} {l : Nat} (hl : l < 16) : lbP C 9 l = C 4 l ∧ lbP C 10 l = C 5 l := by
  unfold lbP
  simp only [gs_q _ _ _ (show 9 ≠ 8 by decide), gs_q _ _ _ (show 10 ≠ 8 by decide), cpR_o (show 9 ≠ 10 by decide), cpR_o (show 9 ≠ 11 by decide), cpR_o (show 9 ≠ 12 by decide), cpR_o (show 10 ≠ 11 by decide), cpR_o (show 10 ≠ 12 by decide)]
  rw [cpR_same (by decide) hl, cpR_same (by decide) hl, cpR_o (by decide)]
  exact ⟨rfl, rfl⟩
theorem lbP_w {C : rf_Mem} {l : Nat} (hl : l < 8) : lbP C 11 l = C 6 l ∧ lbP C 12 l = C 7 l := by
  unfold lbP
  simp only [gs_q _ _ _ (show 11 ≠ 8 by decide), gs_q _ _ _ (show 12 ≠ 8 by decide), cpR_o (show 11 ≠ 12 by decide)]
  rw [cpR_same (by decide) hl, cpR_same (by decide) hl, cpR_o (by decide), cpR_o (by decide), cpR_o (by decide), cpR_o (by decide), cpR_o (by decide)]
  exact ⟨rfl, rfl⟩
theorem fill_in {C : rf_Mem} {a j N : Nat} {v : Int32} (h : j < N) : fillM C a v N a j = v := by simp [fillM, rf_row, h]
theorem fill_o {C : rf_Mem} {a c N : Nat} {v : Int32} (h : c ≠ a) : fillM C a v N c = C c := gr_q C _ h
/-- a library opened -/
theorem op21 {C : rf_Mem} {nl : Nat} : (∀ c, c < 21 ∨ 33 ≤ c → opM 21 nl C c = C c) ∧ (opM 21 nl C 21 9 = C 8 4 ∧ opM 21 nl C 21 10 = nI 0 ∧ opM 21 nl C 21 11 = C 21 11 ∧ opM 21 nl C 29 3 = nI 0) ∧ (∀ p, p < nl → opM 21 nl C 22 p = nI p ∧ opM 21 nl C 23 p = nI 0 ∧ opM 21 nl C 24 p = C 10 p ∧ opM 21 nl C 25 p = -1 ∧ opM 21 nl C 28 p = nI 0) ∧ ∀ j, j < 128 → opM 21 nl C 26 j = -1 := by
  refine ⟨fun c hc => ?_, ⟨?_, ?_, ?_, ?_⟩, fun p hp => ?_, fun j hj => ?_⟩
  · unfold opM; rw [gs_q _ _ _ (by omega), gs_q _ _ _ (by omega), fill_o (by omega), opL_out (by omega), gs_q _ _ _ (by omega)]
  · unfold opM; rw [gs_k _ _ _ (by decide), gs_q _ _ _ (by decide), fill_o (by decide), opL_out (by decide), gs_same]
  · unfold opM; rw [gs_same]
  · unfold opM; rw [gs_k _ _ _ (by decide), gs_q _ _ _ (by decide), fill_o (by decide), opL_out (by decide), gs_k _ _ _ (by decide)]
  · unfold opM; rw [gs_q _ _ _ (by decide), gs_same]
  · obtain ⟨a1, a2, a3, a4, a5⟩ := opL_v (q := 21) (C := rf_set C 21 9 (C 8 4)) nl hp
    rw [gs_q _ _ _ (show 10 ≠ 21 by decide)] at a3
    unfold opM
    rw [gs_q _ _ _ (show 22 ≠ 21 by decide), gs_q _ _ _ (show 22 ≠ 21 + 8 by decide), fill_o (show 22 ≠ 21 + 5 by decide), gs_q _ _ _ (show 23 ≠ 21 by decide), gs_q _ _ _ (show 23 ≠ 21 + 8 by decide), fill_o (show 23 ≠ 21 + 5 by decide), gs_q _ _ _ (show 24 ≠ 21 by decide), gs_q _ _ _ (show 24 ≠ 21 + 8 by decide), fill_o (show 24 ≠ 21 + 5 by decide), gs_q _ _ _ (show 25 ≠ 21 by decide), gs_q _ _ _ (show 25 ≠ 21 + 8 by decide), fill_o (show 25 ≠ 21 + 5 by decide), gs_q _ _ _ (show 28 ≠ 21 by decide), gs_q _ _ _ (show 28 ≠ 21 + 8 by decide), fill_o (show 28 ≠ 21 + 5 by decide)]
    exact ⟨a1, a2, a3, a4, a5⟩
  · unfold opM; rw [gs_q _ _ _ (show 26 ≠ 21 by decide), gs_q _ _ _ (show 26 ≠ 21 + 8 by decide)]; exact fill_in hj
theorem nI_any (v : Int32) : ∃ k : Nat, v = nI k := ⟨v.toBitVec.toNat, by
  apply Int32.toBitVec_inj.mp
  show v.toBitVec = BitVec.ofNat 32 v.toBitVec.toNat
  rw [BitVec.ofNat_toNat, BitVec.setWidth_eq]⟩
theorem sc_in {C : rf_Mem} : rf_set (rf_set (rf_set C 1 4 (nI 0)) 1 2 (nI 0)) 1 3 (-1) = scM C 0 (0, -1) := rf_ext (fun c j => by
  by_cases hc : c = 1
  · subst hc
    by_cases h3 : j = 3
    · subst h3; rw [gs_same, sc_3]
    · rw [gs_k _ _ _ h3]
      by_cases h2 : j = 2
      · subst h2; rw [gs_same, sc_2]
      · rw [gs_k _ _ _ h2]
        by_cases h4 : j = 4
        · subst h4; rw [gs_same, sc_4]
        · rw [gs_k _ _ _ h4]; simp [scM, rf_row, h2, h3, h4]
  · rw [gs_q _ _ _ hc, gs_q _ _ _ hc, gs_q _ _ _ hc, sc_o hc])
theorem rs_in {G : rf_Mem} {fi ln : Nat} (h1 : G 0 13 = nI fi) (h2 : G 0 14 = nI ln) : rf_set (rf_set (rf_set G 0 12 (nI 0)) 0 15 (nI 0)) 0 16 (-1) = rsM G 0 fi ln (0, -1) := rf_ext (fun c j => by
  by_cases hc : c = 0
  · subst hc
    by_cases e6 : j = 16
    · subst e6; rw [gs_same, rs_16]
    · rw [gs_k _ _ _ e6]
      by_cases e5 : j = 15
      · subst e5; rw [gs_same, rs_15]
      · rw [gs_k _ _ _ e5]
        by_cases e2 : j = 12
        · subst e2; rw [gs_same, rs_12]
        · rw [gs_k _ _ _ e2]
          by_cases e3 : j = 13
          · subst e3; rw [rs_13, h1]
          · by_cases e4 : j = 14
            · subst e4; rw [rs_14, h2]
            · rw [rs_j (by omega)]
  · rw [gs_q _ _ _ hc, gs_q _ _ _ hc, gs_q _ _ _ hc, rs_o hc])
theorem lbC_sc {C : rf_Mem} {a : Nat} {x : Nat × Int32} : lbC (scM C a x) = scM (lbC C) a x := by unfold lbC; rw [sc_set (by decide), sc_set (by decide), sc_set (by decide), sc_set (by decide)]
def lgC (G : rf_Mem) : rf_Mem := rf_set (rf_set (rf_set (rf_set G 7 2 (nI 0)) 7 3 (nI 0)) 0 8 (nI 10)) 0 9 (nI 0)
theorem lgC_fr (G : rf_Mem) : FrD G (lgC G) := (((FrD.set (by omega)).tr (FrD.set (by omega))).tr (FrD.set (by omega))).tr (FrD.set (by omega))
theorem lbC_fr (C : rf_Mem) : FcD C (lbC C) := fun c hc => by unfold lbC; rw [gs_q _ _ _ (by omega), gs_q _ _ _ (by omega), gs_q _ _ _ (by omega), gs_q _ _ _ (by omega)]
theorem Df_0 (C G : rf_Mem) : Df 0 0 false (lbC C) (lgC G) := by
  unfold lbC lgC
  refine ⟨?_, ?_, by omega, ?_, ?_, by omega, gs_same _ _ _ _, gs_same _ _ _ _, ?_, fun i hi => absurd hi (Nat.not_lt_zero _), fun i hi => absurd hi (Nat.not_lt_zero _)⟩
  · rw [gs_k _ _ _ (by decide), gs_k _ _ _ (by decide), gs_k _ _ _ (by decide), gs_same]
  · rw [gs_q _ _ _ (by decide), gs_q _ _ _ (by decide), gs_k _ _ _ (by decide), gs_same]
  · rw [gs_k _ _ _ (by decide), gs_k _ _ _ (by decide), gs_same]
  · rw [gs_q _ _ _ (by decide), gs_q _ _ _ (by decide), gs_same]
  · rw [gs_k _ _ _ (by decide), gs_same, gs_k _ _ _ (by decide), gs_same]
/-- a text that was read: nothing of the library has changed -/
theorem Rp.text {nl nr : Nat} {tm : Nat → Nat} {n d nq tl nd : Nat} {b0 b1 : Bool} {kt : Nat} {C G C' G' : rf_Mem} (h : Rp nl nr tm n d nq tl nd b0 b1 kt C G) (hC : ∀ c, c = 0 ∨ 7 < c → C' c = C c) (hG : ∀ c, c = 1 ∨ c = 2 ∨ 9 ≤ c → G' c = G c) (hG0 : ∀ j, j = 7 ∨ 16 < j → G' 0 j = G 0 j) (hG3 : ∀ j, j < 16 → G' 3 j = G 3 j) (hG5 : ∀ j, j < 8 → G' 5 j = G 5 j ∧ G' 6 j = G 6 j) (hG7 : ∀ j, j < 2 → G' 7 j = G 7 j) (hT : Tx 0 C' G') : Rg C' G' := by
  obtain ⟨h1, h2, h3, -, h5, ⟨i1, i2, i3, i4, i5⟩, k1, k2⟩ := h
  have hL : Lb nl nr tm C' G' := by
    obtain ⟨l1, l2, l3, l4, l5, l6, l7, l8, l9⟩ := h1.1
    refine ⟨by rw [hC 8 (by omega)]; exact l1, by rw [hG7 0 (by omega)]; exact l2, l3, by rw [hC 8 (by omega)]; exact l4, by rw [hG7 1 (by omega)]; exact l5, l6, by rw [hC 8 (by omega), hG0 7 (by omega)]; exact l7, fun l hl => ?_, fun r hr => ?_⟩
    · rw [hC 9 (by omega), hG3 l (by omega)]; exact l8 l hl
    · rw [hC 11 (by omega), hC 12 (by omega), (hG5 r (by omega)).1, (hG5 r (by omega)).2]; exact l9 r hr
  have e1 : G' 1 = G 1 := hG 1 (by omega)
  refine ⟨nl, nr, tm, n, d, nq, 0, nd, b0, b1, kt, h1.frame hL (fun a _ _ => hC a (by omega)) (fun j _ _ => by rw [e1]), h2.frame (hC _ (by omega)) (fun j _ _ => by rw [e1]) hL.2.2.1, ?_, hT, ?_, ⟨by rw [hG 2 (by omega)]; exact i1, by rw [hG 2 (by omega)]; exact i2, by rw [hC 0 (by omega)]; exact i3, fun z => (i4 z).frame hL (fun a _ _ => hC a (by omega)) (fun j _ _ => by rw [e1]), fun z => (i5 z).frame hL (fun a _ _ => hC a (by omega)) (fun j _ _ => by rw [e1])⟩, by rw [hC 41 (by omega)]; exact k1, k2⟩
  · unfold Rq at h3 ⊢
    rw [hC 14 (by omega), hC 15 (by omega), hC 16 (by omega), hC 17 (by omega), hG0 17 (by omega), hG 9 (by omega), hG 10 (by omega), hG 11 (by omega)]
    exact h3
  · unfold Dr at h5 ⊢
    rw [hC 0 (by omega), hC 19 (by omega), hG0 24 (by omega), hG 13 (by omega)]
    exact h5
theorem sc_p1 {C : rf_Mem} {a : Nat} {x : Nat × Int32} {v : Int32} : rf_set (scM C a x) 1 1 v = scM (rf_set C 1 1 v) a x := rf_ext (fun c j => by
  by_cases hc : c = 1
  · subst hc
    by_cases hj : j = 1
    · subst hj; rw [gs_same, sc_1, gs_same]
    · rw [gs_k _ _ _ hj]
      simp [scM, rf_row, rf_set, upd, hj]
  · rw [gs_q _ _ _ hc, sc_o hc, sc_o hc, gs_q _ _ _ hc])
set_option maxRecDepth 20000 in
set_option maxHeartbeats 2000000 in
theorem lib_parse {tl : Nat} {C G : rf_Mem} (hT : Tx tl C G) : ∃ C2 G2 a2 a2' fi2 ln2 x2, Ev LayC mX4_parseInto 0 (rf_ent 3 [.ref 1, .ref 3]) [] C none (scM C2 a2 x2) ∧ (∀ r M', Ev LayM mX7_library 61 [some (.ref 0), none, none] [] (rsM (G2) (a2') (fi2) (ln2) (x2)) r M' → Ev LayM mX7_library 0 (rf_ent 3 [.ref 0]) [] G r M') ∧ x2.1 ≤ 3 ∧ FcD C C2 ∧ FrD G G2 ∧ (x2.1 = 0 → ∃ na' nb' bt', Df na' nb' bt' C2 G2) := by
  obtain ⟨t1, t2, t3, t4, t5⟩ := id hT
  have hB : TB tl (C 2) C := ⟨t1, t3, fun _ _ => rfl⟩
  have hF : TF tl (C 2) := fun i hi => (t4 i hi).2
  have hG : TG tl (C 2) G := ⟨t2, t3, fun i hi => (t4 i hi).1.symm⟩
  have hB1 := hB.fr (lbC_fr C)
  have hG1 := hG.fr (lgC_fr G)
  obtain ⟨fi, hfi⟩ := nI_any (G 0 13)
  obtain ⟨ln, hln⟩ := nI_any (G 0 14)
  obtain ⟨C2, G2, a2, a2', fi2, ln2, x2, u1, u2, hx2, fC, fG, hd⟩ := pl_all hB hF (tl + 1) 0 (sB (C 2) tl 0) 0 fi ln (0, -1) 0 0 false (lbC C) (lgC G) (by omega) (Nat.zero_le _) rfl (Nat.zero_le _) rfl hB1 hG1 (Df_0 C G)
  refine ⟨C2, G2, a2, a2', fi2, ln2, x2, ?_, fun r M' hE => ?_, hx2, fun c hc => (fC c hc).trans (lbC_fr C c hc), (lgC_fr G).tr fG, hd⟩
  · refine ev_aload_n dX4_parseInto_0 rfl ?_
    refine ev_iconst (v := (nI 0)) dX4_parseInto_1 (by decide) ?_
    refine ev_put dX4_parseInto_2 pX4_25 (by first | assumption | rfl) (by rfl) (rfl) (rfl) ?_
    refine ev_aload_n dX4_parseInto_5 rfl ?_
    refine ev_iconst (v := (nI 0)) dX4_parseInto_6 (by decide) ?_
    refine ev_put dX4_parseInto_7 pX4_19 (by first | assumption | rfl) (by rfl) (rfl) (rfl) ?_
    refine ev_aload_n dX4_parseInto_10 rfl ?_
    refine ev_iconst (v := (-1)) dX4_parseInto_11 (by decide) ?_
    refine ev_put dX4_parseInto_12 pX4_22 (by first | assumption | rfl) (by rfl) (rfl) (rfl) ?_
    rw [sc_in]
    refine ev_aload_n dX4_parseInto_15 rfl ?_
    refine ev_cV0v dX4_parseInto_16 ceX1_clear kX4_28 (rm_le rfl rfl) (Nat.le_of_ble_eq_true rfl) (Nat.le_of_ble_eq_true rfl) (e_lbClear) (by first | assumption | rfl) ?_
    rw [lbC_sc]
    refine ev_aload_n dX4_parseInto_19 rfl ?_
    refine ev_cV0v dX4_parseInto_20 ceX4_skipBlanks kX4_33 (rm_le rfl rfl) (Nat.le_of_ble_eq_true rfl) (Nat.le_of_ble_eq_true rfl) (e_skipB hB1 (Nat.zero_le _)) (by first | assumption | rfl) ?_
    refine ev_iconst (v := (nI 0)) dX4_parseInto_23 (by decide) ?_
    refine ev_istore_k 2 dX4_parseInto_24 rfl (by decide) rfl ?_
    exact ev_st u1 rfl rfl rfl
  · have v3 := u2 _ _ hE
    refine ev_aload_n dX7_library_0 rfl ?_
    refine ev_iconst (v := (nI 0)) dX7_library_1 (by decide) ?_
    refine ev_put dX7_library_2 pX7_70 (by first | assumption | rfl) (by rfl) (rfl) (rfl) ?_
    refine ev_aload_n dX7_library_5 rfl ?_
    refine ev_iconst (v := (nI 0)) dX7_library_6 (by decide) ?_
    refine ev_put dX7_library_7 pX7_73 (by first | assumption | rfl) (by rfl) (rfl) (rfl) ?_
    refine ev_aload_n dX7_library_10 rfl ?_
    refine ev_iconst (v := (-1)) dX7_library_11 (by decide) ?_
    refine ev_put dX7_library_12 pX7_39 (by first | assumption | rfl) (by rfl) (rfl) (rfl) ?_
    rw [rs_in hfi hln]
    refine ev_aload_n dX7_library_15 rfl ?_
    refine ev_getR dX7_library_16 fX7_29 (by first | assumption | rfl) (by rfl) ?_
    refine ev_iconst (v := (nI 2)) dX7_library_19 (by decide) ?_
    refine ev_iconst (v := (nI 0)) dX7_library_20 (by decide) ?_
    refine ev_iastE (2) dX7_library_21 (rfl) (by first | assumption | rfl) ⟨by decide, by decide⟩ ?_
    rw [rs_set (show 7 ≠ 0 by decide)]
    refine ev_aload_n dX7_library_22 rfl ?_
    refine ev_getR dX7_library_23 fX7_29 (by first | assumption | rfl) (by rfl) ?_
    refine ev_iconst (v := (nI 3)) dX7_library_26 (by decide) ?_
    refine ev_iconst (v := (nI 0)) dX7_library_27 (by decide) ?_
    refine ev_iastE (3) dX7_library_28 (rfl) (by first | assumption | rfl) ⟨by decide, by decide⟩ ?_
    rw [rs_set (show 7 ≠ 0 by decide)]
    refine ev_aload_n dX7_library_29 rfl ?_
    refine ev_bipush (v := (nI 10)) dX7_library_30 (by decide) ?_
    refine ev_put dX7_library_32 pX7_117 (by first | assumption | rfl) (by rfl) (rfl) (rfl) ?_
    rw [rs_set0 (by decide)]
    refine ev_aload_n dX7_library_35 rfl ?_
    refine ev_iconst (v := (nI 0)) dX7_library_36 (by decide) ?_
    refine ev_put dX7_library_37 pX7_113 (by first | assumption | rfl) (by rfl) (rfl) (rfl) ?_
    rw [rs_set0 (by decide)]
    exact v3
set_option maxRecDepth 20000 in
set_option maxHeartbeats 2000000 in
theorem op_library  : OpOk mX6_library mX7_library [] := by
  intro C G hR
  have hR0 := hR
  obtain ⟨nl, nr, tm, n, d, nq, tl, nd, b0, b1, kt, hp⟩ := hR
  obtain ⟨hS, hE, hQ, hT, hDr, hI, hkt, hkt3⟩ := id hp
  have hL := hS.1
  obtain ⟨l1, m1, l3, r1, m2, l6, le, lw, lr⟩ := id hL
  obtain ⟨hP, ⟨d1, d2, d3⟩, ⟨s1, s2⟩, hH⟩ := id hS.2.1
  obtain ⟨p1, p2, p3, p4, p5⟩ := id hP
  rw [Nat.zero_add] at p2 d2 s1
  obtain ⟨-, -, k, k', q1, q2, q3, q4, q5⟩ := id hS
  obtain ⟨ke, kl⟩ := q5 rfl
  subst ke
  obtain ⟨-, -, -, kl4⟩ := id kl
  rw [Nat.zero_add] at q3
  obtain ⟨C2, G2, a2, a2', fi2, ln2, x2, u1, u2, hx2, fC, fG, hd⟩ := lib_parse hT
  by_cases hz : x2.1 = 0
  · obtain ⟨na, nb, bt, hD⟩ := hd hz
    obtain ⟨h1, h2, h3, h4, h5, h6, h7, h8, h9, h10, h11⟩ := id hD
    have z3 : ∀ c, c ≠ 1 → (scM (rf_set C2 1 1 (nI 0)) a2 x2) c = C2 c := fun c hc => by rw [sc_o hc, gs_q _ _ _ hc]
    have zo : ∀ c, c = 0 ∨ 7 < c → (scM (rf_set C2 1 1 (nI 0)) a2 x2) c = C c := fun c hc => (z3 c (by omega)).trans (fC c (by omega))
    have y0 : ∀ c, c ≠ 0 → (rsM (rf_set G2 0 11 (nI 0)) a2' fi2 ln2 x2) c = G2 c := fun c hc => by rw [rs_o hc, gs_q _ _ _ hc]
    have y1 : ∀ j, j < 11 ∨ 16 < j → (rsM (rf_set G2 0 11 (nI 0)) a2' fi2 ln2 x2) 0 j = G2 0 j := fun j hj => by rw [rs_j (by omega), gs_k _ _ _ (by omega)]
    have e84 : lbP (scM (rf_set C2 1 1 (nI 0)) a2 x2) 8 4 = nI na := by rw [lbP_8.1, z3 3 (by decide)]; exact h1
    obtain ⟨o1, ⟨o2, o3, o4, o5⟩, o6, o7⟩ := op21 (C := lbP (scM (rf_set C2 1 1 (nI 0)) a2 x2)) (nl := na)
    obtain ⟨g1, g2, ⟨g3, g4, g5⟩, ⟨g6, g7⟩, g8, g9, g10, g11⟩ := g4_v (M := (rsM (rf_set G2 0 11 (nI 0)) a2' fi2 ln2 x2)) (na := na) (nb := nb)
    obtain ⟨w1, w2, w3, w4⟩ := g4_1 (M := (rsM (rf_set G2 0 11 (nI 0)) a2' fi2 ln2 x2)) (na := na) (nb := nb)
    have cf : ∀ c, c ≠ 0 → c ≠ 14 → (rf_set (rf_set (rf_set (opM 21 na (lbP (scM (rf_set C2 1 1 (nI 0)) a2 x2))) 14 3 (nI 0)) 0 10 (nI 0)) 0 6 (nI 0)) c = (opM 21 na (lbP (scM (rf_set C2 1 1 (nI 0)) a2 x2))) c := fun c a b => by rw [gs_q _ _ _ a, gs_q _ _ _ a, gs_q _ _ _ b]
    have cl : ∀ c, c < 21 → c ≠ 0 → c ≠ 14 → (rf_set (rf_set (rf_set (opM 21 na (lbP (scM (rf_set C2 1 1 (nI 0)) a2 x2))) 14 3 (nI 0)) 0 10 (nI 0)) 0 6 (nI 0)) c = lbP (scM (rf_set C2 1 1 (nI 0)) a2 x2) c := fun c a b e => (cf c b e).trans (o1 c (by omega))
    have wz : ∀ j, 16 ≤ j → j < 120 → (j < 80 ∨ 96 ≤ j) → g4M (rsM (rf_set G2 0 11 (nI 0)) a2' fi2 ln2 x2) na nb 1 j = nI 0 := fun j a b e => by rw [w2 j a (by omega) e (by omega) (by omega), wf0, if_neg (by omega)]
    have wm : ∀ j, 120 ≤ j → j ≤ 415 → g4M (rsM (rf_set G2 0 11 (nI 0)) a2' fi2 ln2 x2) na nb 1 j = -1 := fun j a b => by rw [w2 j (by omega) (by omega) (by omega) (by omega) (by omega), wf0, if_pos ⟨a, b⟩]
    have wy : ∀ j, 415 < j → j < 1500 → j ≠ 1332 → j ≠ 1335 → g4M (rsM (rf_set G2 0 11 (nI 0)) a2' fi2 ln2 x2) na nb 1 j = nI 0 := fun j a b e i => by rw [w2 j (by omega) b (by omega) e i, wf0, if_neg (by omega)]
    have hLn : Lb na nb (fun r => (C2 7 r).toNatClampNeg) (rf_set (rf_set (rf_set (opM 21 na (lbP (scM (rf_set C2 1 1 (nI 0)) a2 x2))) 14 3 (nI 0)) 0 10 (nI 0)) 0 6 (nI 0)) (g4M (rsM (rf_set G2 0 11 (nI 0)) a2' fi2 ln2 x2) na nb) := by
      refine ⟨by rw [cl 8 (by decide) (by decide) (by decide)]; exact e84, g6, h3, by rw [cl 8 (by decide) (by decide) (by decide), lbP_8.2.1, z3 3 (by decide)]; exact h4, g7, h6, by rw [cl 8 (by decide) (by decide) (by decide), lbP_8.2.2, z3 3 (by decide), g3, y1 8 (by omega)]; exact h9, fun l hl => ?_, fun r hr => ?_⟩
      · rw [cl 9 (by decide) (by decide) (by decide), (lbP_v (show l < 16 by omega)).1, z3 4 (by decide), g8 l (by omega), y0 3 (by decide)]
        exact (h10 l hl).1
      · obtain ⟨a1, a2, v, a3, a4, a5⟩ := h11 r hr
        rw [cl 11 (by decide) (by decide) (by decide), cl 12 (by decide) (by decide) (by decide), (lbP_w (show r < 8 by omega)).1, (lbP_w (show r < 8 by omega)).2, z3 6 (by decide), z3 7 (by decide), (g9 r (by omega)).1, (g9 r (by omega)).2, y0 5 (by decide), y0 6 (by decide)]
        have ht : (C2 7 r).toNatClampNeg = v := by rw [a5, nI_clamp (by omega)]
        exact ⟨a1, a2, a5.trans (congrArg nI ht.symm), (by show 1 ≤ (C2 7 r).toNatClampNeg; omega), (by show (C2 7 r).toNatClampNeg ≤ 99; omega)⟩
    have hSn : Sim true 21 0 na 0 na nb (fun r => (C2 7 r).toNatClampNeg) (rf_set (rf_set (rf_set (opM 21 na (lbP (scM (rf_set C2 1 1 (nI 0)) a2 x2))) 14 3 (nI 0)) 0 10 (nI 0)) 0 6 (nI 0)) (g4M (rsM (rf_set G2 0 11 (nI 0)) a2' fi2 ln2 x2) na nb) := by
      refine ⟨hLn, ⟨⟨?_, w3, by omega, Nat.le_refl _, fun p hp => ?_⟩, ⟨?_, ?_, by omega⟩, ⟨?_, ?_⟩, fun r l hr hl => ?_⟩, 0, 0, ?_, by omega, ?_, by omega, fun _ => ⟨rfl, ?_, ?_, by omega, fun i hi => absurd hi (Nat.not_lt_zero _)⟩⟩
      · rw [cf 21 (by decide) (by decide), o2]; exact e84
      · obtain ⟨p1, p2, p3, p4, p5⟩ := o6 p hp
        obtain ⟨-, b1, v, b2, b3⟩ := h10 p hp
        have c24 : (rf_set (rf_set (rf_set (opM 21 na (lbP (scM (rf_set C2 1 1 (nI 0)) a2 x2))) 14 3 (nI 0)) 0 10 (nI 0)) 0 6 (nI 0)) 24 p = nI v := by rw [cf 24 (by decide) (by decide), p3, (lbP_v (show p < 16 by omega)).2, z3 5 (by decide)]; exact b3
        have c22 : (rf_set (rf_set (rf_set (opM 21 na (lbP (scM (rf_set C2 1 1 (nI 0)) a2 x2))) 14 3 (nI 0)) 0 10 (nI 0)) 0 6 (nI 0)) 22 p = nI p := by rw [cf 22 (by decide) (by decide)]; exact p1
        have c23 : (rf_set (rf_set (rf_set (opM 21 na (lbP (scM (rf_set C2 1 1 (nI 0)) a2 x2))) 14 3 (nI 0)) 0 10 (nI 0)) 0 6 (nI 0)) 23 p = nI 0 := by rw [cf 23 (by decide) (by decide)]; exact p2
        have c25 : (rf_set (rf_set (rf_set (opM 21 na (lbP (scM (rf_set C2 1 1 (nI 0)) a2 x2))) 14 3 (nI 0)) 0 10 (nI 0)) 0 6 (nI 0)) 25 p = -1 := by rw [cf 25 (by decide) (by decide)]; exact p4
        have k80 : g4M (rsM (rf_set G2 0 11 (nI 0)) a2' fi2 ln2 x2) na nb 1 (0 + 80 + p) = nI v := by rw [show 0 + 80 + p = 80 + p by omega, (w1 p (by omega)).2, y0 4 (by decide), ← b1]; exact b3
        have k0 : g4M (rsM (rf_set G2 0 11 (nI 0)) a2' fi2 ln2 x2) na nb 1 (0 + p) = nI p := by rw [Nat.zero_add]; exact (w1 p (by omega)).1
        refine ⟨⟨c22.trans k0.symm, c23.trans (wz _ (by omega) (by omega) (by omega)).symm, c24.trans k80.symm, c25.trans (wm _ (by omega) (by omega)).symm⟩, ⟨p, hp, c22⟩, ⟨v, b2, c24⟩, ⟨0, Nat.zero_le _, c23⟩, fun _ => ⟨c22, c23, c25⟩, fun z => absurd hp (by omega)⟩
      · rw [cf 21 (by decide) (by decide)]; exact o3
      · exact wy _ (by decide) (by decide) (by decide) (by decide)
      · rw [cf 21 (by decide) (by decide), o4, lbP_o (by omega), zo 21 (by omega), show 0 + 1335 = 1335 from rfl, w4, y0 1 (by decide), fG.1 1 (by decide) (by decide) (by decide) (by decide) (by decide) (by decide)]; exact s1
      · rw [cf 21 (by decide) (by decide), o4, lbP_o (by omega), zo 21 (by omega)]; exact s2
      · have c26 : (rf_set (rf_set (rf_set (opM 21 na (lbP (scM (rf_set C2 1 1 (nI 0)) a2 x2))) 14 3 (nI 0)) 0 10 (nI 0)) 0 6 (nI 0)) (21 + 5) (r * 16 + l) = -1 := by rw [cf (21 + 5) (by decide) (by decide)]; exact o7 _ (by omega)
        exact Or.inl ⟨c26, wm _ (by omega) (by omega), wm _ (by omega) (by omega)⟩
      · rw [cf (21 + 8) (by decide) (by decide)]; exact o5
      · exact wy _ (by decide) (by decide) (by decide) (by decide)
      · rw [cf (21 + 8) (by decide) (by decide)]; exact o5
      · exact wy _ (by decide) (by decide) (by decide) (by decide)
    have hRn : Rg (rf_set (rf_set (rf_set (opM 21 na (lbP (scM (rf_set C2 1 1 (nI 0)) a2 x2))) 14 3 (nI 0)) 0 10 (nI 0)) 0 6 (nI 0)) (g4M (rsM (rf_set G2 0 11 (nI 0)) a2' fi2 ln2 x2) na nb) := by
      refine ⟨na, nb, _, na, 0, 0, 0, 0, false, false, kt, hSn, fun l hl => ⟨?_, 0, Nat.zero_le _, ?_⟩, ⟨?_, g4, by omega, fun i hi => absurd hi (Nat.not_lt_zero _)⟩, ⟨?_, ?_, by omega, fun i hi => absurd hi (Nat.not_lt_zero _), ?_⟩, ⟨?_, g5, by omega, fun i hi => absurd hi (Nat.not_lt_zero _)⟩, ⟨g10, g11, ?_, (fun z => by cases z), (fun z => by cases z)⟩, ?_, hkt3⟩
      · rw [cf (21 + 7) (by decide) (by decide)]; exact (o6 l hl).2.2.2.2.trans (wy _ (by omega) (by omega) (by omega) (by omega)).symm
      · rw [cf (21 + 7) (by decide) (by decide)]; exact (o6 l hl).2.2.2.2
      · rw [gs_q _ _ _ (by decide), gs_q _ _ _ (by decide), gs_same]
      · rw [cl 1 (by decide) (by decide) (by decide), lbP_o (by omega), sc_1, gs_same]
      · rw [g2 11 (by decide) (by decide) (by decide), rs_11, gs_same]
      · rw [cl 1 (by decide) (by decide) (by decide), lbP_o (by omega), sc_3, g2 16 (by decide) (by decide) (by decide), rs_16]
      · rw [gs_k _ _ _ (by decide), gs_same]
      · rw [gs_same]; rfl
      · rw [cf 41 (by decide) (by decide), o1 41 (by omega), lbP_o (by omega), zo 41 (by omega)]; exact hkt
    refine ⟨nI na, (rf_set (rf_set (rf_set (opM 21 na (lbP (scM (rf_set C2 1 1 (nI 0)) a2 x2))) 14 3 (nI 0)) 0 10 (nI 0)) 0 6 (nI 0)), g4M (rsM (rf_set G2 0 11 (nI 0)) a2' fi2 ln2 x2) na nb, ?_, ?_, hRn⟩
    · refine ev_aload_n dX6_library_0 rfl ?_
      refine ev_getR dX6_library_1 fX6_10 (by first | assumption | rfl) (by rfl) ?_
      refine ev_aload_n dX6_library_4 rfl ?_
      refine ev_getR dX6_library_5 fX6_19 (by first | assumption | rfl) (by rfl) ?_
      refine ev_cV1v dX6_library_8 ceX4_parseInto kX6_79 (rm_le rfl rfl) (Nat.le_of_ble_eq_true rfl) (Nat.le_of_ble_eq_true rfl) (u1) (by first | assumption | rfl) ?_
      refine ev_aload_n dX6_library_11 rfl ?_
      refine ev_getR dX6_library_12 fX6_10 (by first | assumption | rfl) (by rfl) ?_
      refine ev_iconst (v := (nI 0)) dX6_library_15 (by decide) ?_
      refine ev_put dX6_library_16 pX6_71 (by first | assumption | rfl) (by rfl) (rfl) (rfl) ?_
      rw [sc_p1]
      refine ev_aload_n dX6_library_19 rfl ?_
      refine ev_getR dX6_library_20 fX6_10 (by first | assumption | rfl) (by rfl) ?_
      refine ev_getI dX6_library_23 fX6_82 (by first | assumption | rfl) (by rfl) ?_
      rw [sc_2]
      refine ev_if_eq 40 dX6_library_26 (by decide) (fun hc26 => ?_) (fun hc26 => False.elim (hc26 (by rw [hz]; rfl)))
      refine ev_aload_n dX6_library_40 rfl ?_
      refine ev_getR dX6_library_41 fX6_23 (by first | assumption | rfl) (by rfl) ?_
      refine ev_aload_n dX6_library_44 rfl ?_
      refine ev_getR dX6_library_45 fX6_19 (by first | assumption | rfl) (by rfl) ?_
      refine ev_cV1v dX6_library_48 ceX1_copyFrom kX6_85 (rm_le rfl rfl) (Nat.le_of_ble_eq_true rfl) (Nat.le_of_ble_eq_true rfl) (e_lbCopy (by rw [z3 3 (by decide), h7]; cases bt; exact Or.inl rfl; exact Or.inr rfl)) (by first | assumption | rfl) ?_
      refine ev_aload_n dX6_library_51 rfl ?_
      refine ev_getR dX6_library_52 fX6_31 (by first | assumption | rfl) (by rfl) ?_
      refine ev_cV0v dX6_library_55 ceX5_open kX6_88 (rm_le rfl rfl) (Nat.le_of_ble_eq_true rfl) (Nat.le_of_ble_eq_true rfl) (e_open st_21 e84 h3) (by first | assumption | rfl) ?_
      refine ev_aload_n dX6_library_58 rfl ?_
      refine ev_getR dX6_library_59 fX6_49 (by first | assumption | rfl) (by rfl) ?_
      refine ev_iconst (v := (nI 0)) dX6_library_62 (by decide) ?_
      refine ev_put dX6_library_63 pX6_91 (by first | assumption | rfl) (by rfl) (rfl) (rfl) ?_
      refine ev_aload_n dX6_library_66 rfl ?_
      refine ev_iconst (v := (nI 0)) dX6_library_67 (by decide) ?_
      refine ev_put dX6_library_68 pX6_64 (by first | assumption | rfl) (by rfl) (rfl) (rfl) ?_
      refine ev_aload_n dX6_library_71 rfl ?_
      refine ev_iconst (v := (nI 0)) dX6_library_72 (by decide) ?_
      refine ev_put dX6_library_73 pX6_42 (by first | assumption | rfl) (by rfl) (rfl) (rfl) ?_
      refine ev_aload_n dX6_library_76 rfl ?_
      refine ev_getR dX6_library_77 fX6_23 (by first | assumption | rfl) (by rfl) ?_
      refine ev_getI dX6_library_80 fX6_94 (by first | assumption | rfl) (by rfl) ?_
      exact ev_iretE dX6_library_83 rfl rfl (congrArg (fun z => some (Value.int z)) hLn.1) (rfl)
    · refine u2 _ _ ?_
      refine ev_aload_n dX7_library_61 rfl ?_
      refine ev_iconst (v := (nI 0)) dX7_library_62 (by decide) ?_
      refine ev_put dX7_library_63 pX7_64 (by first | assumption | rfl) (by rfl) (rfl) (rfl) ?_
      rw [rs_set0 (by decide)]
      refine ev_aload_n dX7_library_66 rfl ?_
      refine ev_getI dX7_library_67 fX7_73 (by first | assumption | rfl) (by rfl) ?_
      rw [rs_15]
      refine ev_if_le 81 dX7_library_70 (by decide) (fun hc70 => ?_) (fun hc70 => False.elim (hc70 (by rw [hz]; exact Int32.le_refl _)))
      exact e7_libTail (by rw [y0 7 (by decide)]; exact h2) (by rw [y0 7 (by decide)]; exact h5) h3 h6
  · have hRn : Rg (scM (rf_set C2 1 1 (nI 0)) a2 x2) (rsM (rf_set G2 0 11 (nI 0)) a2' fi2 ln2 x2) := by
      refine hp.text (fun c hc => ?_) (fun c hc => ?_) (fun j hj => ?_) (fun j hj => ?_) (fun j hj => ?_) (fun j hj => ?_) ⟨?_, ?_, by omega, fun i hi => absurd hi (Nat.not_lt_zero _), ?_⟩
      · rw [sc_o (by omega), gs_q _ _ _ (by omega)]; exact fC c (by omega)
      · rw [rs_o (by omega), gs_q _ _ _ (by omega)]; exact fG.1 c (by omega) (by omega) (by omega) (by omega) (by omega) (by omega)
      · rw [rs_j (by omega), gs_k _ _ _ (by omega)]; exact fG.2.1 j (by omega) (by omega)
      · rw [rs_o (by decide), gs_q _ _ _ (by decide)]; exact fG.2.2.1 j hj
      · rw [rs_o (by decide), gs_q _ _ _ (by decide), rs_o (by decide), gs_q _ _ _ (by decide)]; exact fG.2.2.2.1 j hj
      · rw [rs_o (by decide), gs_q _ _ _ (by decide)]; exact fG.2.2.2.2 j hj
      · rw [sc_1, gs_same]
      · rw [rs_11, gs_same]
      · rw [sc_3, rs_16]
    refine ⟨(-10) - nI x2.1, (scM (rf_set C2 1 1 (nI 0)) a2 x2), (rsM (rf_set G2 0 11 (nI 0)) a2' fi2 ln2 x2), ?_, ?_, hRn⟩
    · refine ev_aload_n dX6_library_0 rfl ?_
      refine ev_getR dX6_library_1 fX6_10 (by first | assumption | rfl) (by rfl) ?_
      refine ev_aload_n dX6_library_4 rfl ?_
      refine ev_getR dX6_library_5 fX6_19 (by first | assumption | rfl) (by rfl) ?_
      refine ev_cV1v dX6_library_8 ceX4_parseInto kX6_79 (rm_le rfl rfl) (Nat.le_of_ble_eq_true rfl) (Nat.le_of_ble_eq_true rfl) (u1) (by first | assumption | rfl) ?_
      refine ev_aload_n dX6_library_11 rfl ?_
      refine ev_getR dX6_library_12 fX6_10 (by first | assumption | rfl) (by rfl) ?_
      refine ev_iconst (v := (nI 0)) dX6_library_15 (by decide) ?_
      refine ev_put dX6_library_16 pX6_71 (by first | assumption | rfl) (by rfl) (rfl) (rfl) ?_
      rw [sc_p1]
      refine ev_aload_n dX6_library_19 rfl ?_
      refine ev_getR dX6_library_20 fX6_10 (by first | assumption | rfl) (by rfl) ?_
      refine ev_getI dX6_library_23 fX6_82 (by first | assumption | rfl) (by rfl) ?_
      rw [sc_2]
      refine ev_if_eq 40 dX6_library_26 (by decide) (fun hc26 => False.elim (hz ((nI_eq (by omega) (by omega)).mp hc26))) (fun hc26 => ?_)
      refine ev_bipush (v := (-10)) dX6_library_29 (by decide) ?_
      refine ev_aload_n dX6_library_31 rfl ?_
      refine ev_getR dX6_library_32 fX6_10 (by first | assumption | rfl) (by rfl) ?_
      refine ev_getI dX6_library_35 fX6_82 (by first | assumption | rfl) (by rfl) ?_
      rw [sc_2]
      refine ev_isub dX6_library_38 ?_
      exact ev_iretE dX6_library_39 rfl rfl (by first | rfl | simp_all) (rfl)
    · refine u2 _ _ ?_
      refine ev_aload_n dX7_library_61 rfl ?_
      refine ev_iconst (v := (nI 0)) dX7_library_62 (by decide) ?_
      refine ev_put dX7_library_63 pX7_64 (by first | assumption | rfl) (by rfl) (rfl) (rfl) ?_
      rw [rs_set0 (by decide)]
      refine ev_aload_n dX7_library_66 rfl ?_
      refine ev_getI dX7_library_67 fX7_73 (by first | assumption | rfl) (by rfl) ?_
      rw [rs_15]
      refine ev_if_le 81 dX7_library_70 (by decide) (fun hc70 => False.elim (nI_nle (show 0 < x2.1 by omega) (by omega) hc70)) (fun hc70 => ?_)
      refine ev_bipush (v := (-10)) dX7_library_73 (by decide) ?_
      refine ev_aload_n dX7_library_75 rfl ?_
      refine ev_getI dX7_library_76 fX7_73 (by first | assumption | rfl) (by rfl) ?_
      rw [rs_15]
      refine ev_isub dX7_library_79 ?_
      exact ev_iretE dX7_library_80 rfl rfl (by first | rfl | simp_all) (rfl)
