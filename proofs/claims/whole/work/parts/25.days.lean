/-! days by draws, in lockstep -/
def Lq (w : Bool) (q x k k' n nr : Nat) (C G : rf_Mem) : Prop := C (q + 8) 3 = nI k ∧ k ≤ 300 ∧ G 1 (x + 1333) = nI k' ∧ k' ≤ 300 ∧ (w = true → k' = k ∧ Lg q x k n nr C G)
def Sim (w : Bool) (q x n d nl nr : Nat) (tm : Nat → Nat) (C G : rf_Mem) : Prop := Lb nl nr tm C G ∧ Bk q x n d nl nr tm C G ∧ ∃ k k', Lq w q x k k' n nr C G
def FrC (q : Nat) (C C' : rf_Mem) : Prop := ∀ a, (a < q ∨ q + 12 ≤ a ∨ a = q + 7 ∨ a = q + 1 ∨ a = q + 2 ∨ a = q + 4) → C' a = C a
def FrG (x : Nat) (G G' : rf_Mem) : Prop := (∀ a, a ≠ 1 → G' a = G a) ∧ ∀ j, (j < x ∨ x + 1500 ≤ j ∨ (x + 416 ≤ j ∧ j < x + 432)) → G' 1 j = G 1 j
theorem FrC.rf (q : Nat) (C : rf_Mem) : FrC q C C := fun _ _ => rfl
theorem FrG.rf (x : Nat) (G : rf_Mem) : FrG x G G := ⟨fun _ _ => rfl, fun _ _ => rfl⟩
theorem FrC.tr {q : Nat} {C C1 C2 : rf_Mem} (h : FrC q C C1) (h2 : FrC q C1 C2) : FrC q C C2 := fun a ha => (h2 a ha).trans (h a ha)
theorem FrG.tr {x : Nat} {G G1 G2 : rf_Mem} (h : FrG x G G1) (h2 : FrG x G1 G2) : FrG x G G2 := ⟨fun a ha => (h2.1 a ha).trans (h.1 a ha), fun j hj => (h2.2 j hj).trans (h.2 j hj)⟩
theorem Lb.frame {nl nr : Nat} {tm : Nat → Nat} {C G C' G' : rf_Mem} (h : Lb nl nr tm C G) (hC : ∀ a, a = 8 ∨ a = 9 ∨ a = 11 ∨ a = 12 → C' a = C a) (hG : ∀ a, a = 0 ∨ a = 3 ∨ a = 5 ∨ a = 6 ∨ a = 7 → G' a = G a) : Lb nl nr tm C' G' := by
  unfold Lb at h ⊢
  rw [hC 8 (by omega), hC 9 (by omega), hC 11 (by omega), hC 12 (by omega), hG 0 (by omega), hG 3 (by omega), hG 5 (by omega), hG 6 (by omega), hG 7 (by omega)]
  exact h
theorem Lb.fr {nl nr q x : Nat} {tm : Nat → Nat} {C G C' G' : rf_Mem} (h : Lb nl nr tm C G) (hq : 20 < q) (hC : FrC q C C') (hG : FrG x G G') : Lb nl nr tm C' G' := h.frame (fun a ha => hC a (by omega)) (fun a ha => hG.1 a (by omega))
theorem sim_seed {w : Bool} {q x n d nl nr : Nat} {tm : Nat → Nat} {C G : rf_Mem} {v : Int32} (hq : 20 < q) (h : Sim w q x n d nl nr tm C G) (hv : ¬ v < 0) : Sim w q x n d nl nr tm (rf_set C q 11 v) (rf_set G 1 (x + 1335) v) ∧ FrC q C (rf_set C q 11 v) ∧ FrG x G (rf_set G 1 (x + 1335) v) := by
  obtain ⟨hL, ⟨⟨p1, p2, p3, p4, p5⟩, ⟨d1, d2, d3⟩, ⟨s1, s2⟩, h1⟩, k, k', q1, q2, q3, q4, q5⟩ := h
  have l3 := hL.2.2.1
  have l6 := hL.2.2.2.2.2.1
  have fC : FrC q C (rf_set C q 11 v) := fun a ha => gs_q _ _ _ (by omega)
  have fG : FrG x G (rf_set G 1 (x + 1335) v) := ⟨fun a ha => gs_q _ _ _ ha, fun j hj => gs_j _ _ (by omega)⟩
  have eC : ∀ a, a ≠ q → rf_set C q 11 v a = C a := fun a ha => gs_q _ _ _ ha
  have eG : ∀ j, j ≠ x + 1335 → rf_set G 1 (x + 1335) v 1 j = G 1 j := fun j hj => gs_j _ _ hj
  refine ⟨⟨hL.fr hq fC fG, ⟨⟨by rw [gs_j _ _ (by decide)]; exact p1, by rw [eG _ (by omega)]; exact p2, p3, p4, fun p hp => ?_⟩, ⟨by rw [gs_j _ _ (by decide)]; exact d1, by rw [eG _ (by omega)]; exact d2, d3⟩, ⟨by rw [gs_same, gs_same], by rw [gs_same]; exact hv⟩, fun r l hr hl => ?_⟩, k, k', ?_⟩, fC, fG⟩
  · have := p5 p hp
    unfold PgP at this ⊢
    rw [eC _ (by omega), eC _ (by omega), eC _ (by omega), eC _ (by omega), eG _ (by omega), eG _ (by omega), eG _ (by omega), eG _ (by omega)]
    exact this
  · rw [eC _ (by omega), eC _ (by omega), eG _ (by omega), eG _ (by omega)]
    exact h1 r l hr hl
  · refine ⟨by rw [eC _ (by omega)]; exact q1, q2, by rw [eG _ (by omega)]; exact q3, q4, fun hw => ⟨(q5 hw).1, ?_⟩⟩
    obtain ⟨m1, m2, m3, m4⟩ := (q5 hw).2
    refine ⟨by rw [eC _ (by omega)]; exact m1, by rw [eG _ (by omega)]; exact m2, m3, fun i hi => ?_⟩
    rw [eC _ (by omega), eC _ (by omega), eC _ (by omega), eG _ (by omega), eG _ (by omega), eG _ (by omega)]
    exact m4 i hi
theorem rdP_fr {q k nr : Nat} {C : rf_Mem} {r p l : Nat} : FrC q C (rdP q k nr C r p l) := fun a ha => rdP_out (by omega)
theorem rdM_fr {x k nr : Nat} {G : rf_Mem} {r p l : Nat} (hl : l < 16) (hnr : nr ≤ 8) (hp : p < 40) (hk : k ≤ 300) : FrG x G (rdM x k nr G r p l) := by
  refine ⟨fun a ha => rdM_o ha, fun j hj => ?_⟩
  unfold rdM lgM
  split
  · rw [gs_j _ _ (by omega), gs_j _ _ (by omega), gs_j _ _ (by omega), gs_j _ _ (by omega), knF_j hl (by omega) nr hnr, gs_j _ _ (by omega)]
  · rw [knF_j hl (by omega) nr hnr, gs_j _ _ (by omega)]
theorem rdM_k {x k nr : Nat} {G : rf_Mem} {r p l : Nat} (hl : l < 16) (hnr : nr ≤ 8) (hp : p < 40) (hk : G 1 (x + 1333) = nI k) : rdM x k nr G r p l 1 (x + 1333) = nI (kUp k) := by
  unfold rdM lgM kUp
  split
  · rw [gs_same, nI_add]
  · rw [knF_j hl (by omega) nr hnr, gs_j _ _ (by omega)]; exact hk
/-- a reading on both sides -/
theorem sim_read {w : Bool} {q x n d nl nr : Nat} {tm : Nat → Nat} {C G : rf_Mem} {r p s : Nat} (hq : st_ok q) (hx : x ≤ 4500) (h : Sim w q x n d nl nr tm C G) (hr : r < nr) (hp : p < n) (hs : C (q + 3) p = nI s) (hs9 : s < 9) : ∃ C' G', Ev LayC mX5_readPage 0 (rf_ent 4 [.ref q, .int (nI r), .int (nI p)]) [] C none C' ∧ Ev LayM mX7_readPage 0 (rf_ent 5 [.ref 0, .int (nI x), .int (nI r), .int (nI p)]) [] G none G' ∧ Sim w q x n d nl nr tm C' G' ∧ FrC q C C' ∧ FrG x G G' := by
  have hq20 : 20 < q := hq.2.2.2.2.2.2.2.2.2.2.2.2
  obtain ⟨hL, hB, k, k', q1, q2, q3, q4, q5⟩ := h
  have hn40 := hB.1.2.2.1
  obtain ⟨⟨a1, -⟩, ⟨l, hl, hl2⟩, -⟩ := hB.1.2.2.2.2 p hp
  have l3 := hL.2.2.1
  have l6 := hL.2.2.2.2.2.1
  have fG := rdM_fr (x := x) (k := k') (nr := nr) (G := G) (r := r) (p := p) (l := l) (by omega) l6 (by omega) q4
  refine ⟨rdP q k nr C r p l, rdM x k' nr G r p l, e_readPage hq q1 q2 hL.2.2.2.1 l6 (by omega) (by omega) (by omega) hl2, e7_readPage hx q3 q4 hL.2.2.2.2.1 l6 (by omega) (by omega) (by omega) (by rw [← a1]; exact hl2), ⟨hL.fr hq20 rdP_fr fG, rd_bk hq20 hL hB hr hp hl2 hl hs hs9, kUp k, kUp k', rdP_k q1, kUp_le q2, rdM_k (by omega) l6 (by omega) q3, kUp_le q4, fun hw => ?_⟩, rdP_fr, fG⟩
  obtain ⟨e, hg⟩ := q5 hw
  subst e
  exact ⟨rfl, rd_lg (nl := nl) hg hB.2.1 (by omega) l6 hr hp hn40⟩
theorem sim_dusk {w : Bool} {q x n d nl nr : Nat} {tm : Nat → Nat} {C G : rf_Mem} (hq : 20 < q) (h : Sim w q x n d nl nr tm C G) (hd : d + 1 ≤ 9999) : Sim w q x n (d + 1) nl nr tm (rf_set C q 10 (nI (d + 1))) (dkD x nl nr G) ∧ FrC q C (rf_set C q 10 (nI (d + 1))) ∧ FrG x G (dkD x nl nr G) := by
  obtain ⟨hL, hB, k, k', q1, q2, q3, q4, q5⟩ := h
  have fC : FrC q C (rf_set C q 10 (nI (d + 1))) := fun a ha => gs_q _ _ _ (by omega)
  have fG : FrG x G (dkD x nl nr G) := ⟨fun a ha => du_o ha, fun j hj => du_out (by omega) (by omega)⟩
  refine ⟨⟨hL.fr hq fC fG, du_bk hL hB hd, k, k', by rw [gs_q _ _ _ (by omega)]; exact q1, q2, by rw [du_out (by omega) (by omega)]; exact q3, q4, fun hw => ⟨(q5 hw).1, ?_⟩⟩, fC, fG⟩
  obtain ⟨m1, m2, m3, m4⟩ := (q5 hw).2
  refine ⟨by rw [gs_q _ _ _ (by omega)]; exact m1, by rw [du_out (by omega) (by omega)]; exact m2, m3, fun i hi => ?_⟩
  rw [gs_q _ _ _ (by omega), gs_q _ _ _ (by omega), gs_q _ _ _ (by omega), du_out (by omega) (by omega), du_out (by omega) (by omega), du_out (by omega) (by omega)]
  exact m4 i hi
theorem dA_nI {d h : Nat} (hd : d ≤ 9999) (hh : h < 2 ^ 30) : dA (nI d) (nI h) = nI (if 9999 - d < h then 9999 - d else h) := by
  unfold dA
  rw [pk_sub hd]
  have e : (nI (9999 - d) < nI h) ↔ 9999 - d < h := nI_ltI (by omega) (by omega)
  by_cases z : 9999 - d < h
  · rw [if_pos z, if_pos (e.mpr z)]
  · rw [if_neg z, if_neg (fun w => z (e.mp w))]

set_option maxRecDepth 20000 in
set_option maxHeartbeats 2000000 in
theorem sim_one {w : Bool} {q x n d nl nr : Nat} {tm : Nat → Nat} {C G : rf_Mem} {i : Nat} (a1 a2 a3 b2 b3 : Int32) (hq : st_ok q) (hx : x ≤ 4500) (h : Sim w q x n d nl nr tm C G) (hn : 0 < n) (hi : i < nr) : ∃ C' G', (∀ r M', Ev LayC mX5_liveByDraws 16 [some (.ref q), some (.int a1), some (.int a2), some (.int a3), some (.int (nI (i + 1))), none] [] C' r M' → Ev LayC mX5_liveByDraws 16 [some (.ref q), some (.int a1), some (.int a2), some (.int a3), some (.int (nI (i))), none] [] C r M') ∧ (∀ r M', Ev LayM mX7_runDays 26 [some (.ref 0), some (.int (nI x)), some (.int b2), some (.int b3), some (.int (nI (i + 1))), none] [] G' r M' → Ev LayM mX7_runDays 26 [some (.ref 0), some (.int (nI x)), some (.int b2), some (.int b3), some (.int (nI (i))), none] [] G r M') ∧ Sim w q x n d nl nr tm C' G' ∧ FrC q C C' ∧ FrG x G G' := by
  have hq0 := hq
  obtain ⟨h0, h1, h2, h3, h4, h5, h6, h7, h8, h9, h10, h11, h20⟩ := hq
  obtain ⟨hL, hB, -⟩ := id h
  obtain ⟨p1, p2, p3, -, -⟩ := hB.1
  have s1 := hB.2.2.1.1
  have s2 := hB.2.2.1.2
  have l6 := hL.2.2.2.2.2.1
  have hr8 := hL.2.2.2.1
  have hr7 := hL.2.2.2.2.1
  obtain ⟨se, sp⟩ := sd_eq s2
  obtain ⟨hS1, f1, f2⟩ := sim_seed h20 h sp
  obtain ⟨p, hp, hpv⟩ := dv_in sp hn (show n < 2 ^ 31 by omega)
  have v1 : (if C q 9 ≤ 0 then nI 0 else dv (sd (C q 11)) (C q 9)) = nI p := by rw [p1, if_neg (nI_nle hn (by omega)), hpv]
  have v2 : dv (sdM (G 1 (x + 1335))) (G 1 (x + 1332)) = nI p := by rw [p2, ← s1, se, hpv]
  have v3 : sdM (G 1 (x + 1335)) = sd (C q 11) := by rw [← s1]; exact se
  have hhp : (!decide (nI p < 0) && !decide ((rf_set C q 11 (sd (C q 11))) q 9 ≤ nI p)) = true := by rw [gs_j _ _ (by decide), p1, decide_eq_false (nI_pos (by omega)), decide_eq_false (nI_ge hp (by omega))]; rfl
  obtain ⟨-, hB1, -⟩ := id hS1
  obtain ⟨⟨-, -, a3p, -⟩, -, ⟨s, hs, hs2⟩, -⟩ := hB1.1.2.2.2.2 p hp
  have hne : ¬ G 1 (x + 1332) = 0 := by rw [p2]; exact nI_ne0 hn (by omega)
  have hrc : (rf_set C q 11 (sd (C q 11))) 8 5 = nI nr := by rw [gs_q _ _ _ (by omega)]; exact hr8
  rcases Nat.lt_or_ge s 9 with hs9 | hs9
  · obtain ⟨C2, G2, eC, eG, hS2, f3, f4⟩ := sim_read (p := p) (r := i) hq0 hx hS1 hi hp hs2 hs9
    have hg : (!decide ((rf_set C q 11 (sd (C q 11))) (q + 3) p < nI 9)) = false := by rw [hs2, decide_eq_true (nI_lt hs9 (by decide))]; rfl
    have hg2 : ¬ nI 9 ≤ (rf_set G 1 (x + 1335) (sd (C q 11))) 1 (x + 80 + p) := by rw [← a3p, hs2]; exact nI_ge hs9 (by decide)
    refine ⟨C2, G2, fun r M' hE => ?_, fun r M' hE => ?_, hS2, f1.tr f3, f2.tr f4⟩
    · refine ev_iload dX5_liveByDraws_16 rfl ?_
      refine ev_aload_n dX5_liveByDraws_18 rfl ?_
      refine ev_getR dX5_liveByDraws_19 fX5_50 (by first | assumption | rfl) (by rfl) ?_
      refine ev_getI dX5_liveByDraws_22 fX5_109 (by first | assumption | rfl) (by rfl) ?_
      refine ev_icmp_ge 70 dX5_liveByDraws_25 (by decide) (fun hc25 => False.elim (lp_s hr8 (by omega) hi hc25)) (fun hc25 => ?_)
      refine ev_aload_n dX5_liveByDraws_28 rfl ?_
      refine ev_aload_n dX5_liveByDraws_29 rfl ?_
      refine ev_getI dX5_liveByDraws_30 fX5_40 (by first | assumption | rfl) (by rfl) ?_
      refine ev_cV1 dX5_liveByDraws_33 ceX5_draw kX5_117 (rm_le rfl rfl) (Nat.le_of_ble_eq_true rfl) (Nat.le_of_ble_eq_true rfl) (e_draw hq0) (by first | assumption | rfl) ?_
      rw [v1]
      refine ev_istore dX5_liveByDraws_36 (by decide) rfl ?_
      refine ev_aload_n dX5_liveByDraws_38 rfl ?_
      refine ev_iload dX5_liveByDraws_39 rfl ?_
      refine ev_cV1 dX5_liveByDraws_41 ceX5_hasPage kX5_135 (rm_le rfl rfl) (Nat.le_of_ble_eq_true rfl) (Nat.le_of_ble_eq_true rfl) (e_hasPage hq0) (by first | assumption | rfl) ?_
      refine ev_if_eq 64 dX5_liveByDraws_44 (by decide) (fun hc44 => False.elim (by rw [b2i_0, hhp] at hc44; cases hc44)) (fun hc44 => ?_)
      refine ev_aload_n dX5_liveByDraws_47 rfl ?_
      refine ev_iload dX5_liveByDraws_48 rfl ?_
      refine ev_cV1 dX5_liveByDraws_50 ceX5_isGone kX5_139 (rm_le rfl rfl) (Nat.le_of_ble_eq_true rfl) (Nat.le_of_ble_eq_true rfl) (e_isGone hq0 (by omega)) (by first | assumption | rfl) ?_
      refine ev_if_ne 64 dX5_liveByDraws_53 (by decide) (fun hc53 => False.elim (by rw [b2i_n0, hg] at hc53; cases hc53)) (fun hc53 => ?_)
      refine ev_aload_n dX5_liveByDraws_56 rfl ?_
      refine ev_iload dX5_liveByDraws_57 rfl ?_
      refine ev_iload dX5_liveByDraws_59 rfl ?_
      refine ev_cV2v dX5_liveByDraws_61 ceX5_readPage kX5_142 (rm_le rfl rfl) (Nat.le_of_ble_eq_true rfl) (Nat.le_of_ble_eq_true rfl) (eC) (by first | assumption | rfl) ?_
      refine ev_iinc (v := (nI 1)) dX5_liveByDraws_64 rfl (by decide) (by decide) rfl ?_
      refine ev_goto 16 dX5_liveByDraws_67 (by decide) ?_
      exact ev_stw hE (by simp [rf_sub, nI_add]) rfl rfl
    · refine ev_iload dX7_runDays_26 rfl ?_
      refine ev_aload_n dX7_runDays_28 rfl ?_
      refine ev_getR dX7_runDays_29 fX7_29 (by first | assumption | rfl) (by rfl) ?_
      refine ev_iconst (v := (nI 1)) dX7_runDays_32 (by decide) ?_
      refine ev_ialdE _ dX7_runDays_33 (by first | with_reducible rfl | with_reducible exact nI_add _ _ | with_reducible exact ix3 _ _ _ | with_reducible exact ix_k _ _ _ | with_reducible exact ix_xk _ _ _ _) (by first | assumption | rfl) ⟨by omega, by decide⟩ ?_
      refine ev_icmp_ge 86 dX7_runDays_34 (by decide) (fun hc34 => False.elim (lp_s hr7 (by omega) hi hc34)) (fun hc34 => ?_)
      refine ev_aload_n dX7_runDays_37 rfl ?_
      refine ev_iload_n dX7_runDays_38 rfl ?_
      refine ev_aload_n dX7_runDays_39 rfl ?_
      refine ev_getR dX7_runDays_40 fX7_7 (by first | assumption | rfl) (by rfl) ?_
      refine ev_iload_n dX7_runDays_43 rfl ?_
      refine ev_sipush (v := (nI 1332)) dX7_runDays_44 (by decide) ?_
      refine ev_iadd dX7_runDays_47 ?_
      refine ev_ialdE _ dX7_runDays_48 (by first | with_reducible rfl | with_reducible exact nI_add _ _ | with_reducible exact ix3 _ _ _ | with_reducible exact ix_k _ _ _ | with_reducible exact ix_xk _ _ _ _) (by first | assumption | rfl) ⟨by omega, by decide⟩ ?_
      refine ev_cV2 dX7_runDays_49 ceX7_draw kX7_199 (rm_le rfl rfl) (Nat.le_of_ble_eq_true rfl) (Nat.le_of_ble_eq_true rfl) (e7_draw hx hne) (by first | assumption | rfl) ?_
      rw [v2, v3]
      refine ev_istore dX7_runDays_52 (by decide) rfl ?_
      refine ev_aload_n dX7_runDays_54 rfl ?_
      refine ev_getR dX7_runDays_55 fX7_7 (by first | assumption | rfl) (by rfl) ?_
      refine ev_iload_n dX7_runDays_58 rfl ?_
      refine ev_bipush (v := (nI 80)) dX7_runDays_59 (by decide) ?_
      refine ev_iadd dX7_runDays_61 ?_
      refine ev_iload dX7_runDays_62 rfl ?_
      refine ev_iadd dX7_runDays_64 ?_
      refine ev_ialdE _ dX7_runDays_65 (by first | with_reducible rfl | with_reducible exact nI_add _ _ | with_reducible exact ix3 _ _ _ | with_reducible exact ix_k _ _ _ | with_reducible exact ix_xk _ _ _ _) (by first | assumption | rfl) ⟨by omega, by decide⟩ ?_
      refine ev_bipush (v := (nI 9)) dX7_runDays_66 (by decide) ?_
      refine ev_icmp_ge 80 dX7_runDays_68 (by decide) (fun hc68 => False.elim (hg2 hc68)) (fun hc68 => ?_)
      refine ev_aload_n dX7_runDays_71 rfl ?_
      refine ev_iload_n dX7_runDays_72 rfl ?_
      refine ev_iload dX7_runDays_73 rfl ?_
      refine ev_iload dX7_runDays_75 rfl ?_
      refine ev_cV3v dX7_runDays_77 ceX7_readPage kX7_188 (rm_le rfl rfl) (Nat.le_of_ble_eq_true rfl) (Nat.le_of_ble_eq_true rfl) (eG) (by first | assumption | rfl) ?_
      refine ev_iinc (v := (nI 1)) dX7_runDays_80 rfl (by decide) (by decide) rfl ?_
      refine ev_goto 26 dX7_runDays_83 (by decide) ?_
      exact ev_stw hE (by simp [rf_sub, nI_add]) rfl rfl
  · have hg : (!decide ((rf_set C q 11 (sd (C q 11))) (q + 3) p < nI 9)) = true := by rw [hs2, decide_eq_false (nI_nlt hs9 (by omega))]; rfl
    have hg2 : nI 9 ≤ (rf_set G 1 (x + 1335) (sd (C q 11))) 1 (x + 80 + p) := by rw [← a3p, hs2]; exact nI_le hs9 (by omega)
    refine ⟨(rf_set C q 11 (sd (C q 11))), (rf_set G 1 (x + 1335) (sd (C q 11))), fun r M' hE => ?_, fun r M' hE => ?_, hS1, f1, f2⟩
    · refine ev_iload dX5_liveByDraws_16 rfl ?_
      refine ev_aload_n dX5_liveByDraws_18 rfl ?_
      refine ev_getR dX5_liveByDraws_19 fX5_50 (by first | assumption | rfl) (by rfl) ?_
      refine ev_getI dX5_liveByDraws_22 fX5_109 (by first | assumption | rfl) (by rfl) ?_
      refine ev_icmp_ge 70 dX5_liveByDraws_25 (by decide) (fun hc25 => False.elim (lp_s hr8 (by omega) hi hc25)) (fun hc25 => ?_)
      refine ev_aload_n dX5_liveByDraws_28 rfl ?_
      refine ev_aload_n dX5_liveByDraws_29 rfl ?_
      refine ev_getI dX5_liveByDraws_30 fX5_40 (by first | assumption | rfl) (by rfl) ?_
      refine ev_cV1 dX5_liveByDraws_33 ceX5_draw kX5_117 (rm_le rfl rfl) (Nat.le_of_ble_eq_true rfl) (Nat.le_of_ble_eq_true rfl) (e_draw hq0) (by first | assumption | rfl) ?_
      rw [v1]
      refine ev_istore dX5_liveByDraws_36 (by decide) rfl ?_
      refine ev_aload_n dX5_liveByDraws_38 rfl ?_
      refine ev_iload dX5_liveByDraws_39 rfl ?_
      refine ev_cV1 dX5_liveByDraws_41 ceX5_hasPage kX5_135 (rm_le rfl rfl) (Nat.le_of_ble_eq_true rfl) (Nat.le_of_ble_eq_true rfl) (e_hasPage hq0) (by first | assumption | rfl) ?_
      refine ev_if_eq 64 dX5_liveByDraws_44 (by decide) (fun hc44 => False.elim (by rw [b2i_0, hhp] at hc44; cases hc44)) (fun hc44 => ?_)
      refine ev_aload_n dX5_liveByDraws_47 rfl ?_
      refine ev_iload dX5_liveByDraws_48 rfl ?_
      refine ev_cV1 dX5_liveByDraws_50 ceX5_isGone kX5_139 (rm_le rfl rfl) (Nat.le_of_ble_eq_true rfl) (Nat.le_of_ble_eq_true rfl) (e_isGone hq0 (by omega)) (by first | assumption | rfl) ?_
      refine ev_if_ne 64 dX5_liveByDraws_53 (by decide) (fun hc53 => ?_) (fun hc53 => False.elim (by rw [b2i_0, hg] at hc53; cases hc53))
      refine ev_iinc (v := (nI 1)) dX5_liveByDraws_64 rfl (by decide) (by decide) rfl ?_
      refine ev_goto 16 dX5_liveByDraws_67 (by decide) ?_
      exact ev_stw hE (by simp [rf_sub, nI_add]) rfl rfl
    · refine ev_iload dX7_runDays_26 rfl ?_
      refine ev_aload_n dX7_runDays_28 rfl ?_
      refine ev_getR dX7_runDays_29 fX7_29 (by first | assumption | rfl) (by rfl) ?_
      refine ev_iconst (v := (nI 1)) dX7_runDays_32 (by decide) ?_
      refine ev_ialdE _ dX7_runDays_33 (by first | with_reducible rfl | with_reducible exact nI_add _ _ | with_reducible exact ix3 _ _ _ | with_reducible exact ix_k _ _ _ | with_reducible exact ix_xk _ _ _ _) (by first | assumption | rfl) ⟨by omega, by decide⟩ ?_
      refine ev_icmp_ge 86 dX7_runDays_34 (by decide) (fun hc34 => False.elim (lp_s hr7 (by omega) hi hc34)) (fun hc34 => ?_)
      refine ev_aload_n dX7_runDays_37 rfl ?_
      refine ev_iload_n dX7_runDays_38 rfl ?_
      refine ev_aload_n dX7_runDays_39 rfl ?_
      refine ev_getR dX7_runDays_40 fX7_7 (by first | assumption | rfl) (by rfl) ?_
      refine ev_iload_n dX7_runDays_43 rfl ?_
      refine ev_sipush (v := (nI 1332)) dX7_runDays_44 (by decide) ?_
      refine ev_iadd dX7_runDays_47 ?_
      refine ev_ialdE _ dX7_runDays_48 (by first | with_reducible rfl | with_reducible exact nI_add _ _ | with_reducible exact ix3 _ _ _ | with_reducible exact ix_k _ _ _ | with_reducible exact ix_xk _ _ _ _) (by first | assumption | rfl) ⟨by omega, by decide⟩ ?_
      refine ev_cV2 dX7_runDays_49 ceX7_draw kX7_199 (rm_le rfl rfl) (Nat.le_of_ble_eq_true rfl) (Nat.le_of_ble_eq_true rfl) (e7_draw hx hne) (by first | assumption | rfl) ?_
      rw [v2, v3]
      refine ev_istore dX7_runDays_52 (by decide) rfl ?_
      refine ev_aload_n dX7_runDays_54 rfl ?_
      refine ev_getR dX7_runDays_55 fX7_7 (by first | assumption | rfl) (by rfl) ?_
      refine ev_iload_n dX7_runDays_58 rfl ?_
      refine ev_bipush (v := (nI 80)) dX7_runDays_59 (by decide) ?_
      refine ev_iadd dX7_runDays_61 ?_
      refine ev_iload dX7_runDays_62 rfl ?_
      refine ev_iadd dX7_runDays_64 ?_
      refine ev_ialdE _ dX7_runDays_65 (by first | with_reducible rfl | with_reducible exact nI_add _ _ | with_reducible exact ix3 _ _ _ | with_reducible exact ix_k _ _ _ | with_reducible exact ix_xk _ _ _ _) (by first | assumption | rfl) ⟨by omega, by decide⟩ ?_
      refine ev_bipush (v := (nI 9)) dX7_runDays_66 (by decide) ?_
      refine ev_icmp_ge 80 dX7_runDays_68 (by decide) (fun hc68 => ?_) (fun hc68 => False.elim (hc68 hg2))
      refine ev_iinc (v := (nI 1)) dX7_runDays_80 rfl (by decide) (by decide) rfl ?_
      refine ev_goto 26 dX7_runDays_83 (by decide) ?_
      exact ev_stw hE (by simp [rf_sub, nI_add]) rfl rfl
