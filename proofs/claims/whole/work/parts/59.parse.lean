/-! the two parsers side by side -/
def Df (na nb : Nat) (bt : Bool) (C G : rf_Mem) : Prop := C 3 4 = nI na ∧ G 7 2 = nI na ∧ na ≤ 16 ∧ C 3 5 = nI nb ∧ G 7 3 = nI nb ∧ nb ≤ 8 ∧ C 3 7 = b2i bt ∧ G 0 9 = b2i bt ∧ C 3 6 = G 0 8 ∧ (∀ i, i < na → (C 4 i = G 3 (16 + i) ∧ ∃ v, v ≤ 99 ∧ C 4 i = nI v) ∧ C 5 i = G 4 (16 + i) ∧ ∃ v, v ≤ 9 ∧ C 5 i = nI v) ∧ ∀ i, i < nb → C 6 i = G 5 (8 + i) ∧ C 7 i = G 6 (8 + i) ∧ ∃ v, 1 ≤ v ∧ v ≤ 99 ∧ C 7 i = nI v
def FcD (C C' : rf_Mem) : Prop := ∀ c, c < 3 ∨ 7 < c → C' c = C c
theorem TB.fr {tl : Nat} {f : Nat → Int32} {C C' : rf_Mem} (h : TB tl f C) (hC : FcD C C') : TB tl f C' := ⟨by rw [hC 1 (by omega)]; exact h.1, h.2.1, fun i hi => by rw [hC 2 (by omega)]; exact h.2.2 i hi⟩
theorem TG.fr {tl : Nat} {f : Nat → Int32} {G G' : rf_Mem} (h : TG tl f G) (hG : FrD G G') : TG tl f G' := ⟨by rw [hG.2.1 11 (by decide) (by decide)]; exact h.1, h.2.1, fun i hi => by rw [hG.1 8 (by decide) (by decide) (by decide) (by decide) (by decide) (by decide)]; exact h.2.2 i hi⟩
theorem tn_in {f : Nat → Int32} {tl lo hi a : Nat} {x : Nat × Int32} (h : (tnX f tl lo hi a x).1 = 0) : lo ≤ vN f tl a ∧ vN f tl a ≤ hi := by
  have h1 := (fl2_z h).2
  unfold tnB at h1
  split at h1
  · cases h1
  · split at h1
    · cases h1
    · omega
theorem te_up {f : Nat → Int32} {tl a : Nat} {x : Nat × Int32} (ha : a ≤ tl) (h : (teX f tl a x).1 = 0) : a < teA f tl a := by
  have h1 := (fl2_z h).2
  have h2 := (sB_le (f := f) ha).1
  unfold teA
  split at h1
  · next z => rw [if_pos z]; omega
  · cases h1
theorem adL_fr {C : rf_Mem} {n : Nat} {v w : Int32} : FcD C (adL C n v w) := fun c hc => by unfold adL; rw [gs_q _ _ _ (by omega), gs_q _ _ _ (by omega), gs_q _ _ _ (by omega)]
theorem adR_fr {C : rf_Mem} {n : Nat} {v w : Int32} : FcD C (adR C n v w) := fun c hc => by unfold adR; rw [gs_q _ _ _ (by omega), gs_q _ _ _ (by omega), gs_q _ _ _ (by omega)]
theorem teE_fr {C : rf_Mem} {v : Int32} : FcD C (teE C v) := fun c hc => by unfold teE; rw [gs_q _ _ _ (by omega), gs_q _ _ _ (by omega)]
theorem Df.line {na nb : Nat} {bt : Bool} {C G : rf_Mem} (h : Df na nb bt C G) {v w : Nat} (hn : na < 16) (hv : v ≤ 99) (hw : w ≤ 9) : Df (na + 1) nb bt (adL C na (nI v) (nI w)) (glL G na (nI v) (nI w)) := by
  obtain ⟨h1, h2, h3, h4, h5, h6, h7, h8, h9, h10, h11⟩ := h
  unfold adL glL
  refine ⟨gs_same _ _ _ _, gs_same _ _ _ _, by omega, ?_, ?_, h6, ?_, ?_, ?_, fun i hi => ?_, fun i hi => ?_⟩
  · rw [gs_k _ _ _ (by decide), gs_q _ _ _ (by decide), gs_q _ _ _ (by decide)]; exact h4
  · rw [gs_k _ _ _ (by decide), gs_q _ _ _ (by decide), gs_q _ _ _ (by decide)]; exact h5
  · rw [gs_k _ _ _ (by decide), gs_q _ _ _ (by decide), gs_q _ _ _ (by decide)]; exact h7
  · rw [gs_q _ _ _ (by decide), gs_q _ _ _ (by decide), gs_q _ _ _ (by decide)]; exact h8
  · rw [gs_k _ _ _ (by decide), gs_q _ _ _ (by decide), gs_q _ _ _ (by decide), gs_q _ _ _ (by decide), gs_q _ _ _ (by decide), gs_q _ _ _ (by decide)]; exact h9
  · rw [gs_q _ _ _ (show 4 ≠ 3 by decide), gs_q _ _ _ (show 4 ≠ 5 by decide), gs_q _ _ _ (show 3 ≠ 7 by decide), gs_q _ _ _ (show 3 ≠ 4 by decide), gs_q _ _ _ (show 5 ≠ 3 by decide), gs_q _ _ _ (show 4 ≠ 7 by decide)]
    by_cases e : i = na
    · subst e
      rw [gs_same, gs_same, gs_same, gs_same]
      exact ⟨⟨rfl, v, hv, rfl⟩, rfl, w, hw, rfl⟩
    · rw [gs_k _ _ _ e, gs_k _ _ _ (show 16 + i ≠ 16 + na by omega), gs_k _ _ _ e, gs_k _ _ _ (show 16 + i ≠ 16 + na by omega), gs_q _ _ _ (show 5 ≠ 4 by decide), gs_q _ _ _ (show 4 ≠ 3 by decide)]
      exact h10 i (by omega)
  · rw [gs_q _ _ _ (show 6 ≠ 3 by decide), gs_q _ _ _ (show 6 ≠ 5 by decide), gs_q _ _ _ (show 6 ≠ 4 by decide), gs_q _ _ _ (show 7 ≠ 3 by decide), gs_q _ _ _ (show 7 ≠ 5 by decide), gs_q _ _ _ (show 7 ≠ 4 by decide), gs_q _ _ _ (show 5 ≠ 7 by decide), gs_q _ _ _ (show 5 ≠ 4 by decide), gs_q _ _ _ (show 5 ≠ 3 by decide), gs_q _ _ _ (show 6 ≠ 7 by decide), gs_q _ _ _ (show 6 ≠ 4 by decide), gs_q _ _ _ (show 6 ≠ 3 by decide)]
    exact h11 i hi
theorem Df.reader {na nb : Nat} {bt : Bool} {C G : rf_Mem} (h : Df na nb bt C G) {k : Int32} {w : Nat} (hn : nb < 8) (hv : 1 ≤ w) (hw : w ≤ 99) : Df na (nb + 1) bt (adR C nb k (nI w)) (glR G nb k (nI w)) := by
  obtain ⟨h1, h2, h3, h4, h5, h6, h7, h8, h9, h10, h11⟩ := h
  unfold adR glR
  refine ⟨?_, ?_, h3, gs_same _ _ _ _, gs_same _ _ _ _, by omega, ?_, ?_, ?_, fun i hi => ?_, fun i hi => ?_⟩
  · rw [gs_k _ _ _ (by decide), gs_q _ _ _ (by decide), gs_q _ _ _ (by decide)]; exact h1
  · rw [gs_k _ _ _ (by decide), gs_q _ _ _ (by decide), gs_q _ _ _ (by decide)]; exact h2
  · rw [gs_k _ _ _ (by decide), gs_q _ _ _ (by decide), gs_q _ _ _ (by decide)]; exact h7
  · rw [gs_q _ _ _ (by decide), gs_q _ _ _ (by decide), gs_q _ _ _ (by decide)]; exact h8
  · rw [gs_k _ _ _ (by decide), gs_q _ _ _ (by decide), gs_q _ _ _ (by decide), gs_q _ _ _ (by decide), gs_q _ _ _ (by decide), gs_q _ _ _ (by decide)]; exact h9
  · rw [gs_q _ _ _ (show 4 ≠ 3 by decide), gs_q _ _ _ (show 4 ≠ 7 by decide), gs_q _ _ _ (show 4 ≠ 6 by decide), gs_q _ _ _ (show 3 ≠ 7 by decide), gs_q _ _ _ (show 3 ≠ 6 by decide), gs_q _ _ _ (show 3 ≠ 5 by decide), gs_q _ _ _ (show 5 ≠ 3 by decide), gs_q _ _ _ (show 5 ≠ 7 by decide), gs_q _ _ _ (show 5 ≠ 6 by decide), gs_q _ _ _ (show 4 ≠ 7 by decide), gs_q _ _ _ (show 4 ≠ 6 by decide), gs_q _ _ _ (show 4 ≠ 5 by decide)]
    exact h10 i hi
  · rw [gs_q _ _ _ (show 6 ≠ 3 by decide), gs_q _ _ _ (show 6 ≠ 7 by decide), gs_q _ _ _ (show 7 ≠ 3 by decide), gs_q _ _ _ (show 5 ≠ 7 by decide), gs_q _ _ _ (show 5 ≠ 6 by decide), gs_q _ _ _ (show 6 ≠ 7 by decide)]
    by_cases e : i = nb
    · subst e
      rw [gs_same, gs_same, gs_same, gs_same]
      exact ⟨rfl, rfl, w, hv, hw, rfl⟩
    · rw [gs_k _ _ _ e, gs_k _ _ _ (show 8 + i ≠ 8 + nb by omega), gs_k _ _ _ e, gs_k _ _ _ (show 8 + i ≠ 8 + nb by omega), gs_q _ _ _ (show 7 ≠ 6 by decide), gs_q _ _ _ (show 6 ≠ 5 by decide)]
      exact h11 i (by omega)
theorem Df.error {na nb : Nat} {bt : Bool} {C G : rf_Mem} (h : Df na nb bt C G) {v : Int32} : Df na nb true (teE C v) (glE G v) := by
  obtain ⟨h1, h2, h3, h4, h5, h6, h7, h8, h9, h10, h11⟩ := h
  unfold teE glE
  refine ⟨?_, ?_, h3, ?_, ?_, h6, gs_same _ _ _ _, ?_, ?_, fun i hi => ?_, fun i hi => ?_⟩
  · rw [gs_k _ _ _ (by decide), gs_k _ _ _ (by decide)]; exact h1
  · rw [gs_q _ _ _ (by decide), gs_q _ _ _ (by decide)]; exact h2
  · rw [gs_k _ _ _ (by decide), gs_k _ _ _ (by decide)]; exact h4
  · rw [gs_q _ _ _ (by decide), gs_q _ _ _ (by decide)]; exact h5
  · rw [gs_k _ _ _ (by decide), gs_same]; rfl
  · rw [gs_k _ _ _ (by decide), gs_same, gs_same]
  · rw [gs_q _ _ _ (show 4 ≠ 3 by decide), gs_q _ _ _ (show 4 ≠ 3 by decide), gs_q _ _ _ (show 5 ≠ 3 by decide), gs_q _ _ _ (show 5 ≠ 3 by decide), gs_q _ _ _ (show 3 ≠ 0 by decide), gs_q _ _ _ (show 3 ≠ 0 by decide), gs_q _ _ _ (show 4 ≠ 0 by decide), gs_q _ _ _ (show 4 ≠ 0 by decide)]
    exact h10 i hi
  · rw [gs_q _ _ _ (show 6 ≠ 3 by decide), gs_q _ _ _ (show 6 ≠ 3 by decide), gs_q _ _ _ (show 7 ≠ 3 by decide), gs_q _ _ _ (show 7 ≠ 3 by decide), gs_q _ _ _ (show 5 ≠ 0 by decide), gs_q _ _ _ (show 5 ≠ 0 by decide), gs_q _ _ _ (show 6 ≠ 0 by decide), gs_q _ _ _ (show 6 ≠ 0 by decide)]
    exact h11 i hi
set_option maxRecDepth 20000 in
set_option maxHeartbeats 2000000 in
theorem cl_step {f : Nat → Int32} {tl na nb a fi ln : Nat} {bt : Bool} {C G : rf_Mem} {x : Nat × Int32} (hB : TB tl f C) (hG : TG tl f G) (hF : TF tl f) (hD : Df na nb bt C G) (ha : a < tl) (hs : sB f tl a = a) (hx0 : x.1 = 0) : ∃ C2 G2 a1 a' fi' ln' x', Ev LayC mX4_parseClause 0 (rf_ent 4 [.ref 1, .ref 3]) [] (scM C a x) none (scM C2 a1 x') ∧ Ev LayM mX7_takeClause 0 (rf_ent 2 [.ref 0]) [] (rsM (G) (a) (fi) (ln) (x)) none (rsM (G2) (a') (fi') (ln') (x')) ∧ x'.1 ≤ 3 ∧ a1 ≤ tl ∧ FcD C C2 ∧ FrD G G2 ∧ (x'.1 = 0 → a' = a1 ∧ a < a1 ∧ ∃ na' nb' bt', Df na' nb' bt' C2 G2) := by
  obtain ⟨q1, q2⟩ := wE_le (f := f) (Nat.le_of_lt ha)
  have hx3 : x.1 ≤ 3 := by omega
  obtain ⟨h1, h2, h3, h4, h5, h6, h7, h8, h9, h10, h11⟩ := id hD
  obtain ⟨d1, d2⟩ := dE_le (f := f) q2
  obtain ⟨d3, d4⟩ := dE_le (f := f) d2
  obtain ⟨k1, k2⟩ := kE_le (f := f) q2
  obtain ⟨k3, k4⟩ := dE_le (f := f) k2
  have s1 := (sB_le (f := f) q2).1
  have s2 := (sB_le (f := f) d2).1
  have s3 := (sB_le (f := f) k2).1
  cases w0 : wdB f a (wE f tl a - a) 0 with
  | true =>
    obtain ⟨G2, a', fi', ln', u2, p2, fG⟩ := e7_clLine hG hF (Nat.le_of_lt ha) hs hx0 (fi := fi) (ln := ln) h2 h3 w0
    have u1 := e_clLine hB hF h1 h3 (Nat.le_of_lt ha) hx3 w0
    have hX : (lnX f tl na a (wE f tl a) x).1 ≤ 3 := teX_le (tnX_le (tnX_le (fl2_lt hx3 (by split <;> omega))))
    by_cases hz : (lnX f tl na a (wE f tl a) x).1 = 0
    · rw [if_pos hz] at u1
      obtain ⟨r1, r2⟩ := p2 hz
      subst r2
      refine ⟨_, _, _, a', fi', ln', lnX f tl na a (wE f tl a) x, u1, u2, hX, teA_le d4, adL_fr, fG, fun _ => ⟨r1, ?_, ?_⟩⟩
      · have := te_up d4 hz; unfold lnA; omega
      · exact ⟨_, _, _, hD.line (lnX_z hz) (tn_in (te_z hz |> tx_z)).2 (tn_in (te_z hz)).2⟩
    · rw [if_neg hz] at u1
      exact ⟨_, _, _, a', fi', ln', lnX f tl na a (wE f tl a) x, u1, u2, hX, teA_le d4, fun _ _ => rfl, fG, fun z => absurd z hz⟩
  | false =>
    cases w1 : wdB f a (wE f tl a - a) 1 with
    | true =>
      obtain ⟨G2, a', fi', ln', u2, p2, fG⟩ := e7_clReader hG hF (Nat.le_of_lt ha) hs hx0 (fi := fi) (ln := ln) h5 h6 w0 w1
      have u1 := e_clReader hB hF h4 h6 (Nat.le_of_lt ha) hx3 w0 w1
      have hX : (rdX f tl nb a (wE f tl a) x).1 ≤ 3 := teX_le (tnX_le (kX_le (fl2_lt hx3 (by split <;> omega))))
      by_cases hz : (rdX f tl nb a (wE f tl a) x).1 = 0
      · rw [if_pos hz] at u1
        obtain ⟨r1, r2⟩ := p2 hz
        subst r2
        refine ⟨_, _, _, a', fi', ln', rdX f tl nb a (wE f tl a) x, u1, u2, hX, teA_le k4, adR_fr, fG, fun _ => ⟨r1, ?_, ?_⟩⟩
        · have := te_up k4 hz; unfold rdA; omega
        · exact ⟨_, _, _, hD.reader (rdX_z hz) (tn_in (te_z hz)).1 (tn_in (te_z hz)).2⟩
      · rw [if_neg hz] at u1
        exact ⟨_, _, _, a', fi', ln', rdX f tl nb a (wE f tl a) x, u1, u2, hX, teA_le k4, fun _ _ => rfl, fG, fun z => absurd z hz⟩
    | false =>
      cases w7 : wdB f a (wE f tl a - a) 7 with
      | true =>
        obtain ⟨G2, a', fi', ln', u2, p2, fG⟩ := e7_clError hG hF (Nat.le_of_lt ha) hs hx0 (fi := fi) (ln := ln) h8 w0 w1 w7
        have u1 := e_clError hB hF h7 (Nat.le_of_lt ha) hx3 w0 w1 w7
        have hX : (erX f tl a (wE f tl a) bt x).1 ≤ 3 := teX_le (tnX_le (fl2_lt hx3 (by split <;> omega)))
        by_cases hz : (erX f tl a (wE f tl a) bt x).1 = 0
        · rw [if_pos hz] at u1
          obtain ⟨r1, r2⟩ := p2 hz
          subst r2
          refine ⟨_, _, _, a', fi', ln', erX f tl a (wE f tl a) bt x, u1, u2, hX, teA_le d2, teE_fr, fG, fun _ => ⟨r1, ?_, ?_⟩⟩
          · have := te_up d2 hz; unfold erA; omega
          · exact ⟨_, _, _, hD.error⟩
        · rw [if_neg hz] at u1
          exact ⟨_, _, _, a', fi', ln', erX f tl a (wE f tl a) bt x, u1, u2, hX, teA_le d2, fun _ _ => rfl, fG, fun z => absurd z hz⟩
      | false =>
        obtain ⟨a', fi', ln', u2⟩ := e7_clNone hG hF (Nat.le_of_lt ha) hs hx0 (fi := fi) (ln := ln) w0 w1 w7
        have u1 := e_clNone hB hF (Nat.le_of_lt ha) hx3 w0 w1 w7
        exact ⟨C, G, _, a', fi', ln', fl2 x 1 a, u1, u2, fl2_lt hx3 (by decide), q2, fun _ _ => rfl, FrD.rf G, fun z => absurd (fl2_z z).2 (by decide)⟩
theorem sB_id {f : Nat → Int32} {tl a : Nat} (h : a ≤ tl) : sB f tl (sB f tl a) = sB f tl a := by
  obtain ⟨h1, h2⟩ := sB_le (f := f) h
  rcases Nat.lt_or_ge (sB f tl a) tl with z | z
  · exact scn_no (scn_stop (bkB f) (tl - a) a (by show sB f tl a < a + (tl - a); omega))
  · have e : sB f tl a = tl := by omega
    rw [e]
    unfold sB
    rw [Nat.sub_self]
    rfl
set_option maxRecDepth 20000 in
set_option maxHeartbeats 2000000 in
theorem pl_all {f : Nat → Int32} {tl : Nat} {C0 : rf_Mem} (hB0 : TB tl f C0) (hF : TF tl f) : ∀ (m k a a' fi ln : Nat) (x : Nat × Int32) (na nb : Nat) (bt : Bool) (C G : rf_Mem), tl - a < m → a' ≤ tl → sB f tl a' = a → k ≤ a → x.1 = 0 → TB tl f C → TG tl f G → Df na nb bt C G → ∃ C2 G2 a2 a2' fi2 ln2 x2, Ev LayC mX4_parseInto 25 [some (.ref 1), some (.ref 3), some (.int (nI (k)))] [] (scM C a x) none (scM C2 a2 x2) ∧ (∀ r M', Ev LayM mX7_library 61 [some (.ref 0), none, none] [] (rsM (G2) (a2') (fi2) (ln2) (x2)) r M' → Ev LayM mX7_library 40 [some (.ref 0), none, none] [] (rsM (G) (a') (fi) (ln) (x)) r M') ∧ x2.1 ≤ 3 ∧ FcD C C2 ∧ FrD G G2 ∧ (x2.1 = 0 → ∃ na' nb' bt', Df na' nb' bt' C2 G2) := by
  have h400 := hB0.2.1
  intro m
  induction m with
  | zero =>
    intro k a a' fi ln x na nb bt C G hm
    omega
  | succ m ih =>
    intro k a a' fi ln x na nb bt C G hm ha' hsa hk hx0 hB hG hD
    have hale : a ≤ tl := by rw [← hsa]; exact (sB_le (f := f) ha').2
    have hsa2 : sB f tl a = a := by rw [← hsa]; exact sB_id ha'
    have hh := e7_here (fi := fi) (ln := ln) (x := x) hG ha'
    rw [hsa] at hh
    by_cases hlt : a < tl
    · obtain ⟨b0, hb0, hb1⟩ := hF a hlt
      have hr : hrI f tl a = nI b0 := (if_pos hlt).trans hb1
      rw [hr] at hh
      obtain ⟨C1, G1, a1, a1', fi1, ln1, x1, u1, u2, hx1, hle1, fC, fG, hgo⟩ := cl_step (fi := fi) (ln := ln) hB hG hF hD hlt hsa2 hx0
      have hB1 := hB.fr fC
      have hG1 := hG.fr fG
      have sk := e_skipB hB1 (x := x1) hle1
      by_cases hz : x1.1 = 0
      · obtain ⟨g1, g2, na2, nb2, bt2, hD2⟩ := hgo hz
        subst g1
        have s4 := sB_le (f := f) hle1
        obtain ⟨C3, G3, a3, a3', fi3, ln3, x3, v1, v2, hx3, fC3, fG3, hd3⟩ := ih (k + 1) (sB f tl a1') a1' fi1 ln1 x1 na2 nb2 bt2 C1 G1 (by omega) hle1 rfl (by omega) hz hB1 hG1 hD2
        refine ⟨C3, G3, a3, a3', fi3, ln3, x3, ?_, fun r M' hE => ?_, hx3, fun c hc => (fC3 c hc).trans (fC c hc), fG.tr fG3, hd3⟩
        · refine ev_iload_n dX4_parseInto_25 rfl ?_
          refine ev_sipush (v := (nI 400)) dX4_parseInto_26 (by decide) ?_
          refine ev_icmp_ge 65 dX4_parseInto_29 (by decide) (fun hc29 => False.elim (nI_ge (show k < 400 by omega) (by decide) hc29)) (fun hc29 => ?_)
          refine ev_aload_n dX4_parseInto_32 rfl ?_
          refine ev_getI dX4_parseInto_33 fX4_19 (by first | assumption | rfl) (by rfl) ?_
          rw [sc_2]
          refine ev_if_ne 65 dX4_parseInto_36 (by decide) (fun hc36 => False.elim (hc36 (by rw [hx0]; rfl))) (fun hc36 => ?_)
          refine ev_aload_n dX4_parseInto_39 rfl ?_
          refine ev_getI dX4_parseInto_40 fX4_25 (by first | assumption | rfl) (by rfl) ?_
          rw [sc_4]
          refine ev_aload_n dX4_parseInto_43 rfl ?_
          refine ev_getI dX4_parseInto_44 fX4_15 (by first | assumption | rfl) (by rfl) ?_
          rw [sc_1, hB.1]
          refine ev_icmp_ge 65 dX4_parseInto_47 (by decide) (fun hc47 => False.elim (nI_ge hlt (by omega) hc47)) (fun hc47 => ?_)
          refine ev_aload_n dX4_parseInto_50 rfl ?_
          refine ev_aload_n dX4_parseInto_51 rfl ?_
          refine ev_cV1v dX4_parseInto_52 ceX4_parseClause kX4_36 (rm_le rfl rfl) (Nat.le_of_ble_eq_true rfl) (Nat.le_of_ble_eq_true rfl) (u1) (by first | assumption | rfl) ?_
          refine ev_aload_n dX4_parseInto_55 rfl ?_
          refine ev_cV0v dX4_parseInto_56 ceX4_skipBlanks kX4_33 (rm_le rfl rfl) (Nat.le_of_ble_eq_true rfl) (Nat.le_of_ble_eq_true rfl) (sk) (by first | assumption | rfl) ?_
          refine ev_iinc (v := (nI 1)) dX4_parseInto_59 rfl (by decide) (by decide) rfl ?_
          refine ev_goto 25 dX4_parseInto_62 (by decide) ?_
          exact ev_st v1 (by simp [nI_add]) rfl rfl
        · have v3 := v2 _ _ hE
          refine ev_aload_n dX7_library_40 rfl ?_
          refine ev_getI dX7_library_41 fX7_73 (by first | assumption | rfl) (by rfl) ?_
          rw [rs_15]
          refine ev_if_ne 61 dX7_library_44 (by decide) (fun hc44 => False.elim (hc44 (by rw [hx0]; rfl))) (fun hc44 => ?_)
          refine ev_aload_n dX7_library_47 rfl ?_
          refine ev_cV0 dX7_library_48 ceX7_here kX7_76 (rm_le rfl rfl) (Nat.le_of_ble_eq_true rfl) (Nat.le_of_ble_eq_true rfl) (hh) (by first | assumption | rfl) ?_
          refine ev_if_lt 61 dX7_library_51 (by decide) (fun hc51 => False.elim (nI_pos (by omega) hc51)) (fun hc51 => ?_)
          refine ev_aload_n dX7_library_54 rfl ?_
          refine ev_cV0v dX7_library_55 ceX7_takeClause kX7_120 (rm_le rfl rfl) (Nat.le_of_ble_eq_true rfl) (Nat.le_of_ble_eq_true rfl) (u2) (by first | assumption | rfl) ?_
          refine ev_goto 40 dX7_library_58 (by decide) ?_
          exact v3
      · refine ⟨C1, G1, sB f tl a1, a1', fi1, ln1, x1, ?_, fun r M' hE => ?_, hx1, fC, fG, fun z => absurd z hz⟩
        · refine ev_iload_n dX4_parseInto_25 rfl ?_
          refine ev_sipush (v := (nI 400)) dX4_parseInto_26 (by decide) ?_
          refine ev_icmp_ge 65 dX4_parseInto_29 (by decide) (fun hc29 => False.elim (nI_ge (show k < 400 by omega) (by decide) hc29)) (fun hc29 => ?_)
          refine ev_aload_n dX4_parseInto_32 rfl ?_
          refine ev_getI dX4_parseInto_33 fX4_19 (by first | assumption | rfl) (by rfl) ?_
          rw [sc_2]
          refine ev_if_ne 65 dX4_parseInto_36 (by decide) (fun hc36 => False.elim (hc36 (by rw [hx0]; rfl))) (fun hc36 => ?_)
          refine ev_aload_n dX4_parseInto_39 rfl ?_
          refine ev_getI dX4_parseInto_40 fX4_25 (by first | assumption | rfl) (by rfl) ?_
          rw [sc_4]
          refine ev_aload_n dX4_parseInto_43 rfl ?_
          refine ev_getI dX4_parseInto_44 fX4_15 (by first | assumption | rfl) (by rfl) ?_
          rw [sc_1, hB.1]
          refine ev_icmp_ge 65 dX4_parseInto_47 (by decide) (fun hc47 => False.elim (nI_ge hlt (by omega) hc47)) (fun hc47 => ?_)
          refine ev_aload_n dX4_parseInto_50 rfl ?_
          refine ev_aload_n dX4_parseInto_51 rfl ?_
          refine ev_cV1v dX4_parseInto_52 ceX4_parseClause kX4_36 (rm_le rfl rfl) (Nat.le_of_ble_eq_true rfl) (Nat.le_of_ble_eq_true rfl) (u1) (by first | assumption | rfl) ?_
          refine ev_aload_n dX4_parseInto_55 rfl ?_
          refine ev_cV0v dX4_parseInto_56 ceX4_skipBlanks kX4_33 (rm_le rfl rfl) (Nat.le_of_ble_eq_true rfl) (Nat.le_of_ble_eq_true rfl) (sk) (by first | assumption | rfl) ?_
          refine ev_iinc (v := (nI 1)) dX4_parseInto_59 rfl (by decide) (by decide) rfl ?_
          refine ev_goto 25 dX4_parseInto_62 (by decide) ?_
          skip
          by_cases hk4 : k + 1 < 400
          · rw [nI_add]
            refine ev_iload_n dX4_parseInto_25 rfl ?_
            refine ev_sipush (v := (nI 400)) dX4_parseInto_26 (by decide) ?_
            refine ev_icmp_ge 65 dX4_parseInto_29 (by decide) (fun hc29 => False.elim (nI_ge hk4 (by decide) hc29)) (fun hc29 => ?_)
            refine ev_aload_n dX4_parseInto_32 rfl ?_
            refine ev_getI dX4_parseInto_33 fX4_19 (by first | assumption | rfl) (by rfl) ?_
            rw [sc_2]
            refine ev_if_ne 65 dX4_parseInto_36 (by decide) (fun hc36 => ?_) (fun hc36 => False.elim (hz ((nI_eq (by omega) (by omega)).mp hc36)))
            exact ev_vretE dX4_parseInto_65 rfl rfl (rfl)
          · rw [nI_add]
            refine ev_iload_n dX4_parseInto_25 rfl ?_
            refine ev_sipush (v := (nI 400)) dX4_parseInto_26 (by decide) ?_
            refine ev_icmp_ge 65 dX4_parseInto_29 (by decide) (fun hc29 => ?_) (fun hc29 => False.elim (hc29 (nI_le (by omega) (by omega))))
            exact ev_vretE dX4_parseInto_65 rfl rfl (rfl)
        · refine ev_aload_n dX7_library_40 rfl ?_
          refine ev_getI dX7_library_41 fX7_73 (by first | assumption | rfl) (by rfl) ?_
          rw [rs_15]
          refine ev_if_ne 61 dX7_library_44 (by decide) (fun hc44 => False.elim (hc44 (by rw [hx0]; rfl))) (fun hc44 => ?_)
          refine ev_aload_n dX7_library_47 rfl ?_
          refine ev_cV0 dX7_library_48 ceX7_here kX7_76 (rm_le rfl rfl) (Nat.le_of_ble_eq_true rfl) (Nat.le_of_ble_eq_true rfl) (hh) (by first | assumption | rfl) ?_
          refine ev_if_lt 61 dX7_library_51 (by decide) (fun hc51 => False.elim (nI_pos (by omega) hc51)) (fun hc51 => ?_)
          refine ev_aload_n dX7_library_54 rfl ?_
          refine ev_cV0v dX7_library_55 ceX7_takeClause kX7_120 (rm_le rfl rfl) (Nat.le_of_ble_eq_true rfl) (Nat.le_of_ble_eq_true rfl) (u2) (by first | assumption | rfl) ?_
          refine ev_goto 40 dX7_library_58 (by decide) ?_
          skip
          refine ev_aload_n dX7_library_40 rfl ?_
          refine ev_getI dX7_library_41 fX7_73 (by first | assumption | rfl) (by rfl) ?_
          rw [rs_15]
          refine ev_if_ne 61 dX7_library_44 (by decide) (fun hc44 => ?_) (fun hc44 => False.elim (hz ((nI_eq (by omega) (by omega)).mp hc44)))
          exact hE
    · have hat : a = tl := by omega
      have hr : hrI f tl a = -1 := if_neg hlt
      rw [hr] at hh
      refine ⟨C, G, a, a, fi, ln, x, ?_, fun r M' hE => ?_, by omega, fun _ _ => rfl, FrD.rf G, fun _ => ⟨na, nb, bt, hD⟩⟩
      · by_cases hk4 : k < 400
        · skip
          refine ev_iload_n dX4_parseInto_25 rfl ?_
          refine ev_sipush (v := (nI 400)) dX4_parseInto_26 (by decide) ?_
          refine ev_icmp_ge 65 dX4_parseInto_29 (by decide) (fun hc29 => False.elim (nI_ge hk4 (by decide) hc29)) (fun hc29 => ?_)
          refine ev_aload_n dX4_parseInto_32 rfl ?_
          refine ev_getI dX4_parseInto_33 fX4_19 (by first | assumption | rfl) (by rfl) ?_
          rw [sc_2]
          refine ev_if_ne 65 dX4_parseInto_36 (by decide) (fun hc36 => False.elim (hc36 (by rw [hx0]; rfl))) (fun hc36 => ?_)
          refine ev_aload_n dX4_parseInto_39 rfl ?_
          refine ev_getI dX4_parseInto_40 fX4_25 (by first | assumption | rfl) (by rfl) ?_
          rw [sc_4]
          refine ev_aload_n dX4_parseInto_43 rfl ?_
          refine ev_getI dX4_parseInto_44 fX4_15 (by first | assumption | rfl) (by rfl) ?_
          rw [sc_1, hB.1]
          refine ev_icmp_ge 65 dX4_parseInto_47 (by decide) (fun hc47 => ?_) (fun hc47 => False.elim (hc47 (nI_le (by omega) (by omega))))
          exact ev_vretE dX4_parseInto_65 rfl rfl (rfl)
        · skip
          refine ev_iload_n dX4_parseInto_25 rfl ?_
          refine ev_sipush (v := (nI 400)) dX4_parseInto_26 (by decide) ?_
          refine ev_icmp_ge 65 dX4_parseInto_29 (by decide) (fun hc29 => ?_) (fun hc29 => False.elim (hc29 (nI_le (by omega) (by omega))))
          exact ev_vretE dX4_parseInto_65 rfl rfl (rfl)
      · refine ev_aload_n dX7_library_40 rfl ?_
        refine ev_getI dX7_library_41 fX7_73 (by first | assumption | rfl) (by rfl) ?_
        rw [rs_15]
        refine ev_if_ne 61 dX7_library_44 (by decide) (fun hc44 => False.elim (hc44 (by rw [hx0]; rfl))) (fun hc44 => ?_)
        refine ev_aload_n dX7_library_47 rfl ?_
        refine ev_cV0 dX7_library_48 ceX7_here kX7_76 (rm_le rfl rfl) (Nat.le_of_ble_eq_true rfl) (Nat.le_of_ble_eq_true rfl) (hh) (by first | assumption | rfl) ?_
        refine ev_if_lt 61 dX7_library_51 (by decide) (fun hc51 => ?_) (fun hc51 => False.elim (hc51 (by decide)))
        exact hE
