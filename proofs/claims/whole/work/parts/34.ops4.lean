/-! ops: requests, the diary, grants -/
theorem set_of (s : Int32) {m : Nat} (hm : m ≤ 16) : (∃ S, S < 2 ^ m ∧ s = nI S ∧ decide ((s.toUInt32 >>> ((nI m).toUInt32 &&& Int32.toUInt32 31)).toInt32 = 0) = true ∧ (!decide (s.toInt64 < 0) && !decide (((nI 1 <<< (nI m &&& 31)) - nI 1).toInt64 < s.toInt64)) = true) ∨ (decide ((s.toUInt32 >>> ((nI m).toUInt32 &&& Int32.toUInt32 31)).toInt32 = 0) = false ∧ (!decide (s.toInt64 < 0) && !decide (((nI 1 <<< (nI m &&& 31)) - nI 1).toInt64 < s.toInt64)) = false) := by
  have hp : 2 ^ m ≤ 2 ^ 16 := Nat.pow_le_pow_right (by decide) hm
  have hp1 : 0 < 2 ^ m := Nat.two_pow_pos m
  rw [sh_1 (by omega), in_n s (by omega)]
  have hu := pk_ushr s (nI m) m (hs_u m (by omega))
  have e0 : ((s.toUInt32 >>> ((nI m).toUInt32 &&& Int32.toUInt32 31)).toInt32 = 0) ↔ s.toBitVec.toNat / 2 ^ m = 0 := by
    rw [← hu]
    constructor
    · intro z; rw [z]; rfl
    · intro z
      apply Int32.toBitVec_inj.mp
      apply BitVec.eq_of_toNat_eq
      rw [z]; rfl
  have hs : s = nI s.toBitVec.toNat := by
    apply Int32.toBitVec_inj.mp
    apply BitVec.eq_of_toNat_eq
    rw [pk_tn s.toBitVec.isLt]
  obtain ⟨U, hU⟩ : ∃ U, U = s.toBitVec.toNat := ⟨_, rfl⟩
  rw [← hU] at e0 hs
  rcases ck s (n := 2 ^ m) (by omega) with ⟨j, h1, h2, h3⟩ | h3
  · have h4 : U = j := by
      have : s.toBitVec.toNat = j := by rw [h2]; exact pk_tn (by omega)
      omega
    exact Or.inl ⟨j, h1, h2, decide_eq_true (e0.mpr (by rw [h4]; exact Nat.div_eq_of_lt h1)), h3⟩
  · refine Or.inr ⟨decide_eq_false (fun z => ?_), h3⟩
    have h5 : U < 2 ^ m := by
      have := e0.mp z
      rcases Nat.lt_or_ge U (2 ^ m) with y | y
      · exact y
      · have := Nat.div_pos y hp1
        omega
    rw [hs, decide_eq_false (nI_pos (by omega)), decide_eq_false (nI_ge h5 (by omega))] at h3
    cases h3
def rqM (C : rf_Mem) (k : Nat) (r l w : Int32) : rf_Mem := rf_set (rf_set (rf_set (rf_set C 15 k r) 16 k l) 17 k w) 14 3 (nI (k + 1))
set_option maxRecDepth 20000 in
set_option maxHeartbeats 2000000 in
theorem e_rqAdd {C : rf_Mem} {k : Nat} (hc : C 14 3 = nI k) (hk : k < 10) {r l w : Int32} : Ev LayC mX3_add 0 (rf_ent 4 [.ref 14, .int r, .int l, .int w]) [] C (some (.int (nI k))) (rqM C k r l w) := by
  refine ev_aload_n dX3_add_0 rfl ?_
  refine ev_getI dX3_add_1 fX3_21 (by first | assumption | rfl) (by rfl) ?_
  refine ev_bipush (v := (nI 10)) dX3_add_4 (by decide) ?_
  refine ev_icmp_lt 12 dX3_add_6 (by decide) (fun hc6 => ?_) (fun hc6 => False.elim (hc6 (by rw [hc]; exact nI_lt hk (by decide))))
  refine ev_aload_n dX3_add_12 rfl ?_
  refine ev_getR dX3_add_13 fX3_9 (by first | assumption | rfl) (by rfl) ?_
  refine ev_aload_n dX3_add_16 rfl ?_
  refine ev_getI dX3_add_17 fX3_21 (by first | assumption | rfl) (by rfl) ?_
  refine ev_iload_n dX3_add_20 rfl ?_
  refine ev_iastE (k) dX3_add_21 (hc) (by first | assumption | rfl) ⟨hk, by decide⟩ ?_
  refine ev_aload_n dX3_add_22 rfl ?_
  refine ev_getR dX3_add_23 fX3_15 (by first | assumption | rfl) (by rfl) ?_
  refine ev_aload_n dX3_add_26 rfl ?_
  refine ev_getI dX3_add_27 fX3_21 (by first | assumption | rfl) (by rfl) ?_
  refine ev_iload_n dX3_add_30 rfl ?_
  refine ev_iastE (k) dX3_add_31 (by simp [rf_set, rf_row, upd, hc]) (by first | assumption | rfl) ⟨hk, by decide⟩ ?_
  refine ev_aload_n dX3_add_32 rfl ?_
  refine ev_getR dX3_add_33 fX3_18 (by first | assumption | rfl) (by rfl) ?_
  refine ev_aload_n dX3_add_36 rfl ?_
  refine ev_getI dX3_add_37 fX3_21 (by first | assumption | rfl) (by rfl) ?_
  refine ev_iload_n dX3_add_40 rfl ?_
  refine ev_iastE (k) dX3_add_41 (by simp [rf_set, rf_row, upd, hc]) (by first | assumption | rfl) ⟨hk, by decide⟩ ?_
  refine ev_aload_n dX3_add_42 rfl ?_
  refine ev_dup dX3_add_43 rfl ?_
  refine ev_getI dX3_add_44 fX3_21 (by first | assumption | rfl) (by rfl) ?_
  refine ev_iconst (v := (nI 1)) dX3_add_47 (by decide) ?_
  refine ev_iadd dX3_add_48 ?_
  refine ev_put dX3_add_49 pX3_21 (by first | assumption | rfl) (by rfl) (rfl) (rfl) ?_
  refine ev_aload_n dX3_add_52 rfl ?_
  refine ev_getI dX3_add_53 fX3_21 (by first | assumption | rfl) (by rfl) ?_
  refine ev_iconst (v := (nI 1)) dX3_add_56 (by decide) ?_
  refine ev_isub dX3_add_57 ?_
  exact ev_iretE dX3_add_58 rfl rfl (by simp [rf_set, rf_row, upd, hc, nI_add, pk_sub]) (by simp [rqM, rf_set, rf_row, upd, hc, nI_add])
set_option maxRecDepth 20000 in
set_option maxHeartbeats 2000000 in
theorem e_rqFull {C : rf_Mem} (hc : C 14 3 = nI 10) {r l w : Int32} : Ev LayC mX3_add 0 (rf_ent 4 [.ref 14, .int r, .int l, .int w]) [] C (some (.int (-1000000004))) C := by
  refine ev_aload_n dX3_add_0 rfl ?_
  refine ev_getI dX3_add_1 fX3_21 (by first | assumption | rfl) (by rfl) ?_
  refine ev_bipush (v := (nI 10)) dX3_add_4 (by decide) ?_
  refine ev_icmp_lt 12 dX3_add_6 (by decide) (fun hc6 => False.elim (by rw [hc] at hc6; exact absurd hc6 (by decide))) (fun hc6 => ?_)
  refine ev_ldc (v := (-1000000004)) dX3_add_9 nX3_25 ?_
  exact ev_iretE dX3_add_11 rfl rfl (by first | rfl | simp_all) (rfl)
set_option maxRecDepth 20000 in
set_option maxHeartbeats 2000000 in
theorem op_forget  : OpOk mX6_forget mX7_forget [] := by
  intro C G hR
  have hR0 := hR
  obtain ⟨nl, nr, tm, n, d, nq, tl, nd, b0, b1, kt, hp⟩ := hR
  obtain ⟨hS, hE, hQ, hT, hDr, hI, hkt, hkt3⟩ := id hp
  have hL := hS.1
  obtain ⟨l1, m1, l3, r1, m2, l6, le, lw, lr⟩ := id hL
  obtain ⟨hP, ⟨d1, d2, d3⟩, ⟨s1, s2⟩, hH⟩ := id hS.2.1
  obtain ⟨p1, p2, p3, p4, p5⟩ := id hP
  rw [Nat.zero_add] at p2 d2 s1
  obtain ⟨-, -, k, k', q1, q2, q3, q4, q5⟩ := id hS
  obtain ⟨ke, kl⟩ := q5 rfl
  subst ke
  obtain ⟨-, -, -, kl4⟩ := id kl
  rw [Nat.zero_add] at q3
  obtain ⟨S1, E1, I0, I1, K1⟩ := hp.side (C' := (rf_set C 14 3 (nI 0))) (G' := (rf_set G 0 17 (nI 0))) (fun a ha => by simp only [rf_set, rf_row]; repeat (first | rw [if_neg (by omega)] | rfl)) (fun a ha => by simp only [rf_set, rf_row]; repeat (first | rw [if_neg (by omega)] | rfl)) (by simp [rf_set, rf_row, upd])
  have hI1 : Is b0 b1 nl nr tm (rf_set C 14 3 (nI 0)) (rf_set G 0 17 (nI 0)) := ⟨by simpa [rf_set, rf_row, upd] using hI.1, by simpa [rf_set, rf_row, upd] using hI.2.1, by simpa [rf_set, rf_row, upd] using hI.2.2.1, I0, I1⟩
  have hRn : Rg (rf_set C 14 3 (nI 0)) (rf_set G 0 17 (nI 0)) := ⟨nl, nr, tm, n, d, 0, tl, nd, b0, b1, kt, S1, E1, ⟨gs_same _ _ _ _, gs_same _ _ _ _, by decide, fun i hi => absurd hi (Nat.not_lt_zero i)⟩, by simpa [Tx, rf_set, rf_row, upd] using hT, by simpa [Dr, rf_set, rf_row, upd] using hDr, hI1, K1, hkt3⟩
  refine ⟨C 14 3, (rf_set C 14 3 (nI 0)), (rf_set G 0 17 (nI 0)), ?_, ?_, hRn⟩
  · refine ev_aload_n dX6_forget_0 rfl ?_
    refine ev_getR dX6_forget_1 fX6_49 (by first | assumption | rfl) (by rfl) ?_
    refine ev_getI dX6_forget_4 fX6_91 (by first | assumption | rfl) (by rfl) ?_
    refine ev_istore_k 1 dX6_forget_7 rfl (by decide) rfl ?_
    refine ev_aload_n dX6_forget_8 rfl ?_
    refine ev_getR dX6_forget_9 fX6_49 (by first | assumption | rfl) (by rfl) ?_
    refine ev_iconst (v := (nI 0)) dX6_forget_12 (by decide) ?_
    refine ev_put dX6_forget_13 pX6_91 (by first | assumption | rfl) (by rfl) (rfl) (rfl) ?_
    refine ev_iload_n dX6_forget_16 rfl ?_
    exact ev_iretE dX6_forget_17 rfl rfl (by first | rfl | simp_all) (rfl)
  · refine ev_aload_n dX7_forget_0 rfl ?_
    refine ev_getI dX7_forget_1 fX7_131 (by first | assumption | rfl) (by rfl) ?_
    refine ev_istore_k 1 dX7_forget_4 rfl (by decide) rfl ?_
    refine ev_aload_n dX7_forget_5 rfl ?_
    refine ev_iconst (v := (nI 0)) dX7_forget_6 (by decide) ?_
    refine ev_put dX7_forget_7 pX7_131 (by first | assumption | rfl) (by rfl) (rfl) (rfl) ?_
    refine ev_iload_n dX7_forget_10 rfl ?_
    exact ev_iretE dX7_forget_11 rfl rfl (by rw [hQ.1, hQ.2.1]) (rfl)
set_option maxRecDepth 20000 in
set_option maxHeartbeats 2000000 in
theorem op_tear  : OpOk mX6_tear mX7_tear [] := by
  intro C G hR
  have hR0 := hR
  obtain ⟨nl, nr, tm, n, d, nq, tl, nd, b0, b1, kt, hp⟩ := hR
  obtain ⟨hS, hE, hQ, hT, hDr, hI, hkt, hkt3⟩ := id hp
  have hL := hS.1
  obtain ⟨l1, m1, l3, r1, m2, l6, le, lw, lr⟩ := id hL
  obtain ⟨hP, ⟨d1, d2, d3⟩, ⟨s1, s2⟩, hH⟩ := id hS.2.1
  obtain ⟨p1, p2, p3, p4, p5⟩ := id hP
  rw [Nat.zero_add] at p2 d2 s1
  obtain ⟨-, -, k, k', q1, q2, q3, q4, q5⟩ := id hS
  obtain ⟨ke, kl⟩ := q5 rfl
  subst ke
  obtain ⟨-, -, -, kl4⟩ := id kl
  rw [Nat.zero_add] at q3
  obtain ⟨S1, E1, I0, I1, K1⟩ := hp.side (C' := (rf_set C 0 10 (nI 0))) (G' := (rf_set G 0 24 (nI 0))) (fun a ha => by simp only [rf_set, rf_row]; repeat (first | rw [if_neg (by omega)] | rfl)) (fun a ha => by simp only [rf_set, rf_row]; repeat (first | rw [if_neg (by omega)] | rfl)) (by simp [rf_set, rf_row, upd])
  have hI1 : Is b0 b1 nl nr tm (rf_set C 0 10 (nI 0)) (rf_set G 0 24 (nI 0)) := ⟨by simpa [rf_set, rf_row, upd] using hI.1, by simpa [rf_set, rf_row, upd] using hI.2.1, by simpa [rf_set, rf_row, upd] using hI.2.2.1, I0, I1⟩
  have hRn : Rg (rf_set C 0 10 (nI 0)) (rf_set G 0 24 (nI 0)) := ⟨nl, nr, tm, n, d, nq, tl, 0, b0, b1, kt, S1, E1, by simpa [Rq, rf_set, rf_row, upd] using hQ, by simpa [Tx, rf_set, rf_row, upd] using hT, ⟨gs_same _ _ _ _, gs_same _ _ _ _, by decide, fun i hi => absurd hi (Nat.not_lt_zero i)⟩, hI1, K1, hkt3⟩
  refine ⟨C 0 10, (rf_set C 0 10 (nI 0)), (rf_set G 0 24 (nI 0)), ?_, ?_, hRn⟩
  · refine ev_aload_n dX6_tear_0 rfl ?_
    refine ev_getI dX6_tear_1 fX6_64 (by first | assumption | rfl) (by rfl) ?_
    refine ev_istore_k 1 dX6_tear_4 rfl (by decide) rfl ?_
    refine ev_aload_n dX6_tear_5 rfl ?_
    refine ev_iconst (v := (nI 0)) dX6_tear_6 (by decide) ?_
    refine ev_put dX6_tear_7 pX6_64 (by first | assumption | rfl) (by rfl) (rfl) (rfl) ?_
    refine ev_iload_n dX6_tear_10 rfl ?_
    exact ev_iretE dX6_tear_11 rfl rfl (by first | rfl | simp_all) (rfl)
  · refine ev_aload_n dX7_tear_0 rfl ?_
    refine ev_getI dX7_tear_1 fX7_134 (by first | assumption | rfl) (by rfl) ?_
    refine ev_istore_k 1 dX7_tear_4 rfl (by decide) rfl ?_
    refine ev_aload_n dX7_tear_5 rfl ?_
    refine ev_iconst (v := (nI 0)) dX7_tear_6 (by decide) ?_
    refine ev_put dX7_tear_7 pX7_134 (by first | assumption | rfl) (by rfl) (rfl) (rfl) ?_
    refine ev_iload_n dX7_tear_10 rfl ?_
    exact ev_iretE dX7_tear_11 rfl rfl (by rw [hDr.1, hDr.2.1]) (rfl)
set_option maxRecDepth 20000 in
set_option maxHeartbeats 2000000 in
theorem op_note {x : Int32} : OpOk mX6_note mX7_note [.int x] := by
  intro C G hR
  have hR0 := hR
  obtain ⟨nl, nr, tm, n, d, nq, tl, nd, b0, b1, kt, hp⟩ := hR
  obtain ⟨hS, hE, hQ, hT, hDr, hI, hkt, hkt3⟩ := id hp
  have hL := hS.1
  obtain ⟨l1, m1, l3, r1, m2, l6, le, lw, lr⟩ := id hL
  obtain ⟨hP, ⟨d1, d2, d3⟩, ⟨s1, s2⟩, hH⟩ := id hS.2.1
  obtain ⟨p1, p2, p3, p4, p5⟩ := id hP
  rw [Nat.zero_add] at p2 d2 s1
  obtain ⟨-, -, k, k', q1, q2, q3, q4, q5⟩ := id hS
  obtain ⟨ke, kl⟩ := q5 rfl
  subst ke
  obtain ⟨-, -, -, kl4⟩ := id kl
  rw [Nat.zero_add] at q3
  obtain ⟨n1, n2, n3, n4⟩ := id hDr
  rcases rg0 x (m := 16) (by decide) with ⟨v, hv, e, c1, c2, hck⟩ | ⟨hck, c1 | ⟨c1, c2⟩⟩
  · subst e
    rcases Nat.lt_or_ge nd 60 with hn6 | hn6
    · obtain ⟨S1, E1, I0, I1, K1⟩ := hp.side (C' := (rf_set (rf_set C 19 nd (nI v)) 0 10 (nI (nd + 1)))) (G' := (rf_set (rf_set G 13 nd (nI v)) 0 24 (nI (nd + 1)))) (fun a ha => by simp only [rf_set, rf_row]; repeat (first | rw [if_neg (by omega)] | rfl)) (fun a ha => by simp only [rf_set, rf_row]; repeat (first | rw [if_neg (by omega)] | rfl)) (by simp [rf_set, rf_row, upd])
      have hI1 : Is b0 b1 nl nr tm (rf_set (rf_set C 19 nd (nI v)) 0 10 (nI (nd + 1))) (rf_set (rf_set G 13 nd (nI v)) 0 24 (nI (nd + 1))) := ⟨by simpa [rf_set, rf_row, upd] using hI.1, by simpa [rf_set, rf_row, upd] using hI.2.1, by simpa [rf_set, rf_row, upd] using hI.2.2.1, I0, I1⟩
      have hRn : Rg (rf_set (rf_set C 19 nd (nI v)) 0 10 (nI (nd + 1))) (rf_set (rf_set G 13 nd (nI v)) 0 24 (nI (nd + 1))) := ⟨nl, nr, tm, n, d, nq, tl, (nd + 1), b0, b1, kt, S1, E1, by simpa [Rq, rf_set, rf_row, upd] using hQ, by simpa [Tx, rf_set, rf_row, upd] using hT, ⟨gs_same _ _ _ _, gs_same _ _ _ _, by omega, fun i hi => by
        have g1 : rf_set (rf_set C 19 nd (nI v)) 0 10 (nI (nd + 1)) 19 i = if i = nd then nI v else C 19 i := by simp [rf_set, rf_row, upd]
        have g2 : rf_set (rf_set G 13 nd (nI v)) 0 24 (nI (nd + 1)) 13 i = if i = nd then nI v else G 13 i := by simp [rf_set, rf_row, upd]
        rw [g1, g2]
        by_cases z : i = nd
        · rw [if_pos z, if_pos z]; exact ⟨rfl, v, hv, rfl⟩
        · rw [if_neg z, if_neg z]; exact n4 i (by omega)⟩, hI1, K1, hkt3⟩
      refine ⟨nI (nd + 1), (rf_set (rf_set C 19 nd (nI v)) 0 10 (nI (nd + 1))), (rf_set (rf_set G 13 nd (nI v)) 0 24 (nI (nd + 1))), ?_, ?_, hRn⟩
      · refine ev_iload_n dX6_note_0 rfl ?_
        refine ev_if_lt 10 dX6_note_1 (by decide) (fun hc1 => False.elim (c1 hc1)) (fun hc1 => ?_)
        refine ev_iload_n dX6_note_4 rfl ?_
        refine ev_bipush (v := (nI 16)) dX6_note_5 (by decide) ?_
        refine ev_icmp_le 13 dX6_note_7 (by decide) (fun hc7 => ?_) (fun hc7 => False.elim (hc7 c2))
        refine ev_aload_n dX6_note_13 rfl ?_
        refine ev_getI dX6_note_14 fX6_64 (by first | assumption | rfl) (by rfl) ?_
        refine ev_bipush (v := (nI 60)) dX6_note_17 (by decide) ?_
        refine ev_icmp_lt 25 dX6_note_19 (by decide) (fun hc19 => ?_) (fun hc19 => False.elim (hc19 (by rw [n1]; exact nI_lt hn6 (by decide))))
        refine ev_aload_n dX6_note_25 rfl ?_
        refine ev_getR dX6_note_26 fX6_60 (by first | assumption | rfl) (by rfl) ?_
        refine ev_aload_n dX6_note_29 rfl ?_
        refine ev_getI dX6_note_30 fX6_64 (by first | assumption | rfl) (by rfl) ?_
        refine ev_iload_n dX6_note_33 rfl ?_
        refine ev_iastE (nd) dX6_note_34 (n1) (by first | assumption | rfl) ⟨hn6, by decide⟩ ?_
        refine ev_aload_n dX6_note_35 rfl ?_
        refine ev_dup dX6_note_36 rfl ?_
        refine ev_getI dX6_note_37 fX6_64 (by first | assumption | rfl) (by rfl) ?_
        refine ev_iconst (v := (nI 1)) dX6_note_40 (by decide) ?_
        refine ev_iadd dX6_note_41 ?_
        refine ev_put dX6_note_42 pX6_64 (by first | assumption | rfl) (by rfl) (rfl) (rfl) ?_
        refine ev_aload_n dX6_note_45 rfl ?_
        refine ev_getI dX6_note_46 fX6_64 (by first | assumption | rfl) (by rfl) ?_
        exact ev_iretE dX6_note_49 rfl rfl (by simp [rf_set, rf_row, upd, n1, nI_add]) (by simp [rf_set, rf_row, upd, n1, nI_add])
      · refine ev_iload_n dX7_note_0 rfl ?_
        refine ev_i2l dX7_note_1 ?_
        refine ev_lconst (v := 0) dX7_note_2 rfl ?_
        refine ev_ldc2 dX7_note_3 nX7_258 ?_
        refine ev_cS3 dX7_note_6 ceX7_in kX7_59 (rm_le rfl rfl) (Nat.le_of_ble_eq_true rfl) (Nat.le_of_ble_eq_true rfl) (e7_in) ?_
        rw [in_c _ 0 (nI 16) (by decide) (by decide), hck]
        refine ev_if_ne 15 dX7_note_9 (by decide) (fun hc9 => ?_) (fun hc9 => False.elim (absurd hc9 (by decide)))
        refine ev_aload_n dX7_note_15 rfl ?_
        refine ev_getI dX7_note_16 fX7_134 (by first | assumption | rfl) (by rfl) ?_
        refine ev_bipush (v := (nI 60)) dX7_note_19 (by decide) ?_
        refine ev_icmp_ne 27 dX7_note_21 (by decide) (fun hc21 => ?_) (fun hc21 => False.elim (by rw [n2] at hc21; have := (nI_eq (by omega) (by decide)).mp hc21; omega))
        refine ev_aload_n dX7_note_27 rfl ?_
        refine ev_getR dX7_note_28 fX7_54 (by first | assumption | rfl) (by rfl) ?_
        refine ev_aload_n dX7_note_31 rfl ?_
        refine ev_getI dX7_note_32 fX7_134 (by first | assumption | rfl) (by rfl) ?_
        refine ev_iload_n dX7_note_35 rfl ?_
        refine ev_iastE (nd) dX7_note_36 (n2) (by first | assumption | rfl) ⟨hn6, by decide⟩ ?_
        refine ev_aload_n dX7_note_37 rfl ?_
        refine ev_dup dX7_note_38 rfl ?_
        refine ev_getI dX7_note_39 fX7_134 (by first | assumption | rfl) (by rfl) ?_
        refine ev_iconst (v := (nI 1)) dX7_note_42 (by decide) ?_
        refine ev_iadd dX7_note_43 ?_
        refine ev_put dX7_note_44 pX7_134 (by first | assumption | rfl) (by rfl) (rfl) (rfl) ?_
        refine ev_aload_n dX7_note_47 rfl ?_
        refine ev_getI dX7_note_48 fX7_134 (by first | assumption | rfl) (by rfl) ?_
        exact ev_iretE dX7_note_51 rfl rfl (by simp [rf_set, rf_row, upd, n2, nI_add]) (by simp [rf_set, rf_row, upd, n2, nI_add])
    · have e6 : nd = 60 := by omega
      rw [e6] at n1 n2
      refine ⟨(-1000000004), C, G, ?_, ?_, hR0⟩
      · refine ev_iload_n dX6_note_0 rfl ?_
        refine ev_if_lt 10 dX6_note_1 (by decide) (fun hc1 => False.elim (c1 hc1)) (fun hc1 => ?_)
        refine ev_iload_n dX6_note_4 rfl ?_
        refine ev_bipush (v := (nI 16)) dX6_note_5 (by decide) ?_
        refine ev_icmp_le 13 dX6_note_7 (by decide) (fun hc7 => ?_) (fun hc7 => False.elim (hc7 c2))
        refine ev_aload_n dX6_note_13 rfl ?_
        refine ev_getI dX6_note_14 fX6_64 (by first | assumption | rfl) (by rfl) ?_
        refine ev_bipush (v := (nI 60)) dX6_note_17 (by decide) ?_
        refine ev_icmp_lt 25 dX6_note_19 (by decide) (fun hc19 => False.elim (by rw [n1] at hc19; exact absurd hc19 (by decide))) (fun hc19 => ?_)
        refine ev_ldc (v := (-1000000004)) dX6_note_22 nX6_74 ?_
        exact ev_iretE dX6_note_24 rfl rfl (by first | rfl | simp_all) (rfl)
      · refine ev_iload_n dX7_note_0 rfl ?_
        refine ev_i2l dX7_note_1 ?_
        refine ev_lconst (v := 0) dX7_note_2 rfl ?_
        refine ev_ldc2 dX7_note_3 nX7_258 ?_
        refine ev_cS3 dX7_note_6 ceX7_in kX7_59 (rm_le rfl rfl) (Nat.le_of_ble_eq_true rfl) (Nat.le_of_ble_eq_true rfl) (e7_in) ?_
        rw [in_c _ 0 (nI 16) (by decide) (by decide), hck]
        refine ev_if_ne 15 dX7_note_9 (by decide) (fun hc9 => ?_) (fun hc9 => False.elim (absurd hc9 (by decide)))
        refine ev_aload_n dX7_note_15 rfl ?_
        refine ev_getI dX7_note_16 fX7_134 (by first | assumption | rfl) (by rfl) ?_
        refine ev_bipush (v := (nI 60)) dX7_note_19 (by decide) ?_
        refine ev_icmp_ne 27 dX7_note_21 (by decide) (fun hc21 => False.elim (hc21 n2)) (fun hc21 => ?_)
        refine ev_ldc (v := (-1000000004)) dX7_note_24 nX7_67 ?_
        exact ev_iretE dX7_note_26 rfl rfl (by first | rfl | simp_all) (rfl)
  · refine ⟨(-1000000002), C, G, ?_, ?_, hR0⟩
    · refine ev_iload_n dX6_note_0 rfl ?_
      refine ev_if_lt 10 dX6_note_1 (by decide) (fun hc1 => ?_) (fun hc1 => False.elim (hc1 c1))
      refine ev_ldc (v := (-1000000002)) dX6_note_10 nX6_70 ?_
      exact ev_iretE dX6_note_12 rfl rfl (by first | rfl | simp_all) (rfl)
    · refine ev_iload_n dX7_note_0 rfl ?_
      refine ev_i2l dX7_note_1 ?_
      refine ev_lconst (v := 0) dX7_note_2 rfl ?_
      refine ev_ldc2 dX7_note_3 nX7_258 ?_
      refine ev_cS3 dX7_note_6 ceX7_in kX7_59 (rm_le rfl rfl) (Nat.le_of_ble_eq_true rfl) (Nat.le_of_ble_eq_true rfl) (e7_in) ?_
      rw [in_c _ 0 (nI 16) (by decide) (by decide), hck]
      refine ev_if_ne 15 dX7_note_9 (by decide) (fun hc9 => False.elim (absurd hc9 (by decide))) (fun hc9 => ?_)
      refine ev_ldc (v := (-1000000002)) dX7_note_12 nX7_63 ?_
      exact ev_iretE dX7_note_14 rfl rfl (by first | rfl | simp_all) (rfl)
  · refine ⟨(-1000000002), C, G, ?_, ?_, hR0⟩
    · refine ev_iload_n dX6_note_0 rfl ?_
      refine ev_if_lt 10 dX6_note_1 (by decide) (fun hc1 => False.elim (c1 hc1)) (fun hc1 => ?_)
      refine ev_iload_n dX6_note_4 rfl ?_
      refine ev_bipush (v := (nI 16)) dX6_note_5 (by decide) ?_
      refine ev_icmp_le 13 dX6_note_7 (by decide) (fun hc7 => False.elim (c2 hc7)) (fun hc7 => ?_)
      refine ev_ldc (v := (-1000000002)) dX6_note_10 nX6_70 ?_
      exact ev_iretE dX6_note_12 rfl rfl (by first | rfl | simp_all) (rfl)
    · refine ev_iload_n dX7_note_0 rfl ?_
      refine ev_i2l dX7_note_1 ?_
      refine ev_lconst (v := 0) dX7_note_2 rfl ?_
      refine ev_ldc2 dX7_note_3 nX7_258 ?_
      refine ev_cS3 dX7_note_6 ceX7_in kX7_59 (rm_le rfl rfl) (Nat.le_of_ble_eq_true rfl) (Nat.le_of_ble_eq_true rfl) (e7_in) ?_
      rw [in_c _ 0 (nI 16) (by decide) (by decide), hck]
      refine ev_if_ne 15 dX7_note_9 (by decide) (fun hc9 => False.elim (absurd hc9 (by decide))) (fun hc9 => ?_)
      refine ev_ldc (v := (-1000000002)) dX7_note_12 nX7_63 ?_
      exact ev_iretE dX7_note_14 rfl rfl (by first | rfl | simp_all) (rfl)
set_option maxRecDepth 20000 in
set_option maxHeartbeats 2000000 in
theorem op_request {r0 l0 w : Int32} : OpOk mX6_request mX7_request [.int r0, .int l0, .int w] := by
  intro C G hR
  have hR0 := hR
  obtain ⟨nl, nr, tm, n, d, nq, tl, nd, b0, b1, kt, hp⟩ := hR
  obtain ⟨hS, hE, hQ, hT, hDr, hI, hkt, hkt3⟩ := id hp
  have hL := hS.1
  obtain ⟨l1, m1, l3, r1, m2, l6, le, lw, lr⟩ := id hL
  obtain ⟨hP, ⟨d1, d2, d3⟩, ⟨s1, s2⟩, hH⟩ := id hS.2.1
  obtain ⟨p1, p2, p3, p4, p5⟩ := id hP
  rw [Nat.zero_add] at p2 d2 s1
  obtain ⟨-, -, k, k', q1, q2, q3, q4, q5⟩ := id hS
  obtain ⟨ke, kl⟩ := q5 rfl
  subst ke
  obtain ⟨-, -, -, kl4⟩ := id kl
  rw [Nat.zero_add] at q3
  rcases ck r0 (show nr < 2 ^ 31 by omega) with ⟨j1, hj1, e1, c1⟩ | c1
  · subst e1
    rcases ck l0 (show nl < 2 ^ 31 by omega) with ⟨j2, hj2, e2, c2⟩ | c2
    · subst e2
      obtain ⟨u1, u2, u3, u4⟩ := id hQ
      rcases rg0 w (m := 99) (by decide) with ⟨v, hv, e, d1', d2', hck⟩ | ⟨hck, d1' | ⟨d1', d2'⟩⟩
      · subst e
        rcases Nat.lt_or_ge nq 10 with hn6 | hn6
        · obtain ⟨S1, E1, I0, I1, K1⟩ := hp.side (C' := (rqM C nq (nI j1) (nI j2) (nI v))) (G' := (rf_set (rf_set (rf_set (rf_set G 9 nq (nI j1)) 10 nq (nI j2)) 11 nq (nI v)) 0 17 (nI (nq + 1)))) (fun a ha => by simp only [rqM, rf_set, rf_row]; repeat (first | rw [if_neg (by omega)] | rfl)) (fun a ha => by simp only [rqM, rf_set, rf_row]; repeat (first | rw [if_neg (by omega)] | rfl)) (by simp [rf_set, rf_row, upd])
          have hI1 : Is b0 b1 nl nr tm (rqM C nq (nI j1) (nI j2) (nI v)) (rf_set (rf_set (rf_set (rf_set G 9 nq (nI j1)) 10 nq (nI j2)) 11 nq (nI v)) 0 17 (nI (nq + 1))) := ⟨by simpa [rqM, rf_set, rf_row, upd] using hI.1, by simpa [rqM, rf_set, rf_row, upd] using hI.2.1, by simpa [rqM, rf_set, rf_row, upd] using hI.2.2.1, I0, I1⟩
          have hRn : Rg (rqM C nq (nI j1) (nI j2) (nI v)) (rf_set (rf_set (rf_set (rf_set G 9 nq (nI j1)) 10 nq (nI j2)) 11 nq (nI v)) 0 17 (nI (nq + 1))) := ⟨nl, nr, tm, n, d, (nq + 1), tl, nd, b0, b1, kt, S1, E1, ⟨by simp [rqM, rf_set, rf_row, upd], by simp [rf_set, rf_row, upd], by omega, fun i hi => by
            have g1 : rqM C nq (nI j1) (nI j2) (nI v) 15 i = (if i = nq then nI j1 else C 15 i) ∧ rqM C nq (nI j1) (nI j2) (nI v) 16 i = (if i = nq then nI j2 else C 16 i) ∧ rqM C nq (nI j1) (nI j2) (nI v) 17 i = (if i = nq then nI v else C 17 i) := by simp [rqM, rf_set, rf_row, upd]
            have g2 : (rf_set (rf_set (rf_set (rf_set G 9 nq (nI j1)) 10 nq (nI j2)) 11 nq (nI v)) 0 17 (nI (nq + 1))) 9 i = (if i = nq then nI j1 else G 9 i) ∧ (rf_set (rf_set (rf_set (rf_set G 9 nq (nI j1)) 10 nq (nI j2)) 11 nq (nI v)) 0 17 (nI (nq + 1))) 10 i = (if i = nq then nI j2 else G 10 i) ∧ (rf_set (rf_set (rf_set (rf_set G 9 nq (nI j1)) 10 nq (nI j2)) 11 nq (nI v)) 0 17 (nI (nq + 1))) 11 i = (if i = nq then nI v else G 11 i) := by simp [rf_set, rf_row, upd]
            rw [g1.1, g1.2.1, g1.2.2, g2.1, g2.2.1, g2.2.2]
            by_cases z : i = nq
            · rw [if_pos z, if_pos z, if_pos z, if_pos z, if_pos z, if_pos z]; exact ⟨rfl, rfl, rfl, ⟨j1, hj1, rfl⟩, ⟨j2, hj2, rfl⟩, ⟨v, hv, rfl⟩⟩
            · rw [if_neg z, if_neg z, if_neg z, if_neg z, if_neg z, if_neg z]; exact u4 i (by omega)⟩, by simpa [Tx, rqM, rf_set, rf_row, upd] using hT, by simpa [Dr, rqM, rf_set, rf_row, upd] using hDr, hI1, K1, hkt3⟩
          refine ⟨nI nq, (rqM C nq (nI j1) (nI j2) (nI v)), (rf_set (rf_set (rf_set (rf_set G 9 nq (nI j1)) 10 nq (nI j2)) 11 nq (nI v)) 0 17 (nI (nq + 1))), ?_, ?_, hRn⟩
          · refine ev_aload_n dX6_request_0 rfl ?_
            refine ev_getR dX6_request_1 fX6_23 (by first | assumption | rfl) (by rfl) ?_
            refine ev_iload_n dX6_request_4 rfl ?_
            refine ev_cV1 dX6_request_5 ceX1_hasReader kX6_147 (rm_le rfl rfl) (Nat.le_of_ble_eq_true rfl) (Nat.le_of_ble_eq_true rfl) (e_hasReader) (by first | assumption | rfl) ?_
            rw [r1, c1]
            refine ev_if_eq 22 dX6_request_8 (by decide) (fun hc8 => False.elim (absurd hc8 (by decide))) (fun hc8 => ?_)
            refine ev_aload_n dX6_request_11 rfl ?_
            refine ev_getR dX6_request_12 fX6_23 (by first | assumption | rfl) (by rfl) ?_
            refine ev_iload_n dX6_request_15 rfl ?_
            refine ev_cV1 dX6_request_16 ceX1_hasLine kX6_123 (rm_le rfl rfl) (Nat.le_of_ble_eq_true rfl) (Nat.le_of_ble_eq_true rfl) (e_hasLine) (by first | assumption | rfl) ?_
            rw [l1, c2]
            refine ev_if_ne 25 dX6_request_19 (by decide) (fun hc19 => ?_) (fun hc19 => False.elim (absurd hc19 (by decide)))
            refine ev_iload_n dX6_request_25 rfl ?_
            refine ev_if_lt 35 dX6_request_26 (by decide) (fun hc26 => False.elim (d1' hc26)) (fun hc26 => ?_)
            refine ev_iload_n dX6_request_29 rfl ?_
            refine ev_bipush (v := (nI 99)) dX6_request_30 (by decide) ?_
            refine ev_icmp_le 38 dX6_request_32 (by decide) (fun hc32 => ?_) (fun hc32 => False.elim (hc32 d2'))
            refine ev_aload_n dX6_request_38 rfl ?_
            refine ev_getR dX6_request_39 fX6_49 (by first | assumption | rfl) (by rfl) ?_
            refine ev_iload_n dX6_request_42 rfl ?_
            refine ev_iload_n dX6_request_43 rfl ?_
            refine ev_iload_n dX6_request_44 rfl ?_
            refine ev_cV3 dX6_request_45 ceX3_add kX6_224 (rm_le rfl rfl) (Nat.le_of_ble_eq_true rfl) (Nat.le_of_ble_eq_true rfl) (e_rqAdd u1 hn6) (by first | assumption | rfl) ?_
            exact ev_iretE dX6_request_48 rfl rfl (by first | rfl | simp_all) (rfl)
          · refine ev_aload_n dX7_request_0 rfl ?_
            refine ev_iload_n dX7_request_1 rfl ?_
            refine ev_cV1 dX7_request_2 ceX7_isReader kX7_169 (rm_le rfl rfl) (Nat.le_of_ble_eq_true rfl) (Nat.le_of_ble_eq_true rfl) (e7_isReader m2 l6) (by first | assumption | rfl) ?_
            rw [c1]
            refine ev_if_eq 16 dX7_request_5 (by decide) (fun hc5 => False.elim (absurd hc5 (by decide))) (fun hc5 => ?_)
            refine ev_aload_n dX7_request_8 rfl ?_
            refine ev_iload_n dX7_request_9 rfl ?_
            refine ev_cV1 dX7_request_10 ceX7_isLine kX7_161 (rm_le rfl rfl) (Nat.le_of_ble_eq_true rfl) (Nat.le_of_ble_eq_true rfl) (e7_isLine m1 l3) (by first | assumption | rfl) ?_
            rw [c2]
            refine ev_if_ne 19 dX7_request_13 (by decide) (fun hc13 => ?_) (fun hc13 => False.elim (absurd hc13 (by decide)))
            refine ev_iload_n dX7_request_19 rfl ?_
            refine ev_i2l dX7_request_20 ?_
            refine ev_lconst (v := 0) dX7_request_21 rfl ?_
            refine ev_ldc2 dX7_request_22 nX7_218 ?_
            refine ev_cS3 dX7_request_25 ceX7_in kX7_59 (rm_le rfl rfl) (Nat.le_of_ble_eq_true rfl) (Nat.le_of_ble_eq_true rfl) (e7_in) ?_
            rw [in_c _ 0 (nI 99) (by decide) (by decide), hck]
            refine ev_if_ne 34 dX7_request_28 (by decide) (fun hc28 => ?_) (fun hc28 => False.elim (absurd hc28 (by decide)))
            refine ev_aload_n dX7_request_34 rfl ?_
            refine ev_getI dX7_request_35 fX7_131 (by first | assumption | rfl) (by rfl) ?_
            refine ev_bipush (v := (nI 10)) dX7_request_38 (by decide) ?_
            refine ev_icmp_ne 46 dX7_request_40 (by decide) (fun hc40 => ?_) (fun hc40 => False.elim (by rw [u2] at hc40; have := (nI_eq (by omega) (by decide)).mp hc40; omega))
            refine ev_aload_n dX7_request_46 rfl ?_
            refine ev_getR dX7_request_47 fX7_42 (by first | assumption | rfl) (by rfl) ?_
            refine ev_aload_n dX7_request_50 rfl ?_
            refine ev_getI dX7_request_51 fX7_131 (by first | assumption | rfl) (by rfl) ?_
            refine ev_iload_n dX7_request_54 rfl ?_
            refine ev_iastE (nq) dX7_request_55 (u2) (by first | assumption | rfl) ⟨hn6, by decide⟩ ?_
            refine ev_aload_n dX7_request_56 rfl ?_
            refine ev_getR dX7_request_57 fX7_45 (by first | assumption | rfl) (by rfl) ?_
            refine ev_aload_n dX7_request_60 rfl ?_
            refine ev_getI dX7_request_61 fX7_131 (by first | assumption | rfl) (by rfl) ?_
            refine ev_iload_n dX7_request_64 rfl ?_
            refine ev_iastE (nq) dX7_request_65 (by simp [rf_set, rf_row, upd, u2]) (by first | assumption | rfl) ⟨hn6, by decide⟩ ?_
            refine ev_aload_n dX7_request_66 rfl ?_
            refine ev_getR dX7_request_67 fX7_48 (by first | assumption | rfl) (by rfl) ?_
            refine ev_aload_n dX7_request_70 rfl ?_
            refine ev_getI dX7_request_71 fX7_131 (by first | assumption | rfl) (by rfl) ?_
            refine ev_iload_n dX7_request_74 rfl ?_
            refine ev_iastE (nq) dX7_request_75 (by simp [rf_set, rf_row, upd, u2]) (by first | assumption | rfl) ⟨hn6, by decide⟩ ?_
            refine ev_aload_n dX7_request_76 rfl ?_
            refine ev_dup dX7_request_77 rfl ?_
            refine ev_getI dX7_request_78 fX7_131 (by first | assumption | rfl) (by rfl) ?_
            refine ev_iconst (v := (nI 1)) dX7_request_81 (by decide) ?_
            refine ev_iadd dX7_request_82 ?_
            refine ev_put dX7_request_83 pX7_131 (by first | assumption | rfl) (by rfl) (rfl) (rfl) ?_
            refine ev_aload_n dX7_request_86 rfl ?_
            refine ev_getI dX7_request_87 fX7_131 (by first | assumption | rfl) (by rfl) ?_
            refine ev_iconst (v := (nI 1)) dX7_request_90 (by decide) ?_
            refine ev_isub dX7_request_91 ?_
            exact ev_iretE dX7_request_92 rfl rfl (by simp [rf_set, rf_row, upd, u2, nI_add, pk_sub]) (by simp [rf_set, rf_row, upd, u2, nI_add])
        · have e6 : nq = 10 := by omega
          rw [e6] at u1 u2
          refine ⟨(-1000000004), C, G, ?_, ?_, hR0⟩
          · refine ev_aload_n dX6_request_0 rfl ?_
            refine ev_getR dX6_request_1 fX6_23 (by first | assumption | rfl) (by rfl) ?_
            refine ev_iload_n dX6_request_4 rfl ?_
            refine ev_cV1 dX6_request_5 ceX1_hasReader kX6_147 (rm_le rfl rfl) (Nat.le_of_ble_eq_true rfl) (Nat.le_of_ble_eq_true rfl) (e_hasReader) (by first | assumption | rfl) ?_
            rw [r1, c1]
            refine ev_if_eq 22 dX6_request_8 (by decide) (fun hc8 => False.elim (absurd hc8 (by decide))) (fun hc8 => ?_)
            refine ev_aload_n dX6_request_11 rfl ?_
            refine ev_getR dX6_request_12 fX6_23 (by first | assumption | rfl) (by rfl) ?_
            refine ev_iload_n dX6_request_15 rfl ?_
            refine ev_cV1 dX6_request_16 ceX1_hasLine kX6_123 (rm_le rfl rfl) (Nat.le_of_ble_eq_true rfl) (Nat.le_of_ble_eq_true rfl) (e_hasLine) (by first | assumption | rfl) ?_
            rw [l1, c2]
            refine ev_if_ne 25 dX6_request_19 (by decide) (fun hc19 => ?_) (fun hc19 => False.elim (absurd hc19 (by decide)))
            refine ev_iload_n dX6_request_25 rfl ?_
            refine ev_if_lt 35 dX6_request_26 (by decide) (fun hc26 => False.elim (d1' hc26)) (fun hc26 => ?_)
            refine ev_iload_n dX6_request_29 rfl ?_
            refine ev_bipush (v := (nI 99)) dX6_request_30 (by decide) ?_
            refine ev_icmp_le 38 dX6_request_32 (by decide) (fun hc32 => ?_) (fun hc32 => False.elim (hc32 d2'))
            refine ev_aload_n dX6_request_38 rfl ?_
            refine ev_getR dX6_request_39 fX6_49 (by first | assumption | rfl) (by rfl) ?_
            refine ev_iload_n dX6_request_42 rfl ?_
            refine ev_iload_n dX6_request_43 rfl ?_
            refine ev_iload_n dX6_request_44 rfl ?_
            refine ev_cV3 dX6_request_45 ceX3_add kX6_224 (rm_le rfl rfl) (Nat.le_of_ble_eq_true rfl) (Nat.le_of_ble_eq_true rfl) (e_rqFull u1) (by first | assumption | rfl) ?_
            exact ev_iretE dX6_request_48 rfl rfl (by first | rfl | simp_all) (rfl)
          · refine ev_aload_n dX7_request_0 rfl ?_
            refine ev_iload_n dX7_request_1 rfl ?_
            refine ev_cV1 dX7_request_2 ceX7_isReader kX7_169 (rm_le rfl rfl) (Nat.le_of_ble_eq_true rfl) (Nat.le_of_ble_eq_true rfl) (e7_isReader m2 l6) (by first | assumption | rfl) ?_
            rw [c1]
            refine ev_if_eq 16 dX7_request_5 (by decide) (fun hc5 => False.elim (absurd hc5 (by decide))) (fun hc5 => ?_)
            refine ev_aload_n dX7_request_8 rfl ?_
            refine ev_iload_n dX7_request_9 rfl ?_
            refine ev_cV1 dX7_request_10 ceX7_isLine kX7_161 (rm_le rfl rfl) (Nat.le_of_ble_eq_true rfl) (Nat.le_of_ble_eq_true rfl) (e7_isLine m1 l3) (by first | assumption | rfl) ?_
            rw [c2]
            refine ev_if_ne 19 dX7_request_13 (by decide) (fun hc13 => ?_) (fun hc13 => False.elim (absurd hc13 (by decide)))
            refine ev_iload_n dX7_request_19 rfl ?_
            refine ev_i2l dX7_request_20 ?_
            refine ev_lconst (v := 0) dX7_request_21 rfl ?_
            refine ev_ldc2 dX7_request_22 nX7_218 ?_
            refine ev_cS3 dX7_request_25 ceX7_in kX7_59 (rm_le rfl rfl) (Nat.le_of_ble_eq_true rfl) (Nat.le_of_ble_eq_true rfl) (e7_in) ?_
            rw [in_c _ 0 (nI 99) (by decide) (by decide), hck]
            refine ev_if_ne 34 dX7_request_28 (by decide) (fun hc28 => ?_) (fun hc28 => False.elim (absurd hc28 (by decide)))
            refine ev_aload_n dX7_request_34 rfl ?_
            refine ev_getI dX7_request_35 fX7_131 (by first | assumption | rfl) (by rfl) ?_
            refine ev_bipush (v := (nI 10)) dX7_request_38 (by decide) ?_
            refine ev_icmp_ne 46 dX7_request_40 (by decide) (fun hc40 => False.elim (hc40 u2)) (fun hc40 => ?_)
            refine ev_ldc (v := (-1000000004)) dX7_request_43 nX7_67 ?_
            exact ev_iretE dX7_request_45 rfl rfl (by first | rfl | simp_all) (rfl)
      · refine ⟨(-1000000002), C, G, ?_, ?_, hR0⟩
        · refine ev_aload_n dX6_request_0 rfl ?_
          refine ev_getR dX6_request_1 fX6_23 (by first | assumption | rfl) (by rfl) ?_
          refine ev_iload_n dX6_request_4 rfl ?_
          refine ev_cV1 dX6_request_5 ceX1_hasReader kX6_147 (rm_le rfl rfl) (Nat.le_of_ble_eq_true rfl) (Nat.le_of_ble_eq_true rfl) (e_hasReader) (by first | assumption | rfl) ?_
          rw [r1, c1]
          refine ev_if_eq 22 dX6_request_8 (by decide) (fun hc8 => False.elim (absurd hc8 (by decide))) (fun hc8 => ?_)
          refine ev_aload_n dX6_request_11 rfl ?_
          refine ev_getR dX6_request_12 fX6_23 (by first | assumption | rfl) (by rfl) ?_
          refine ev_iload_n dX6_request_15 rfl ?_
          refine ev_cV1 dX6_request_16 ceX1_hasLine kX6_123 (rm_le rfl rfl) (Nat.le_of_ble_eq_true rfl) (Nat.le_of_ble_eq_true rfl) (e_hasLine) (by first | assumption | rfl) ?_
          rw [l1, c2]
          refine ev_if_ne 25 dX6_request_19 (by decide) (fun hc19 => ?_) (fun hc19 => False.elim (absurd hc19 (by decide)))
          refine ev_iload_n dX6_request_25 rfl ?_
          refine ev_if_lt 35 dX6_request_26 (by decide) (fun hc26 => ?_) (fun hc26 => False.elim (hc26 d1'))
          refine ev_ldc (v := (-1000000002)) dX6_request_35 nX6_70 ?_
          exact ev_iretE dX6_request_37 rfl rfl (by first | rfl | simp_all) (rfl)
        · refine ev_aload_n dX7_request_0 rfl ?_
          refine ev_iload_n dX7_request_1 rfl ?_
          refine ev_cV1 dX7_request_2 ceX7_isReader kX7_169 (rm_le rfl rfl) (Nat.le_of_ble_eq_true rfl) (Nat.le_of_ble_eq_true rfl) (e7_isReader m2 l6) (by first | assumption | rfl) ?_
          rw [c1]
          refine ev_if_eq 16 dX7_request_5 (by decide) (fun hc5 => False.elim (absurd hc5 (by decide))) (fun hc5 => ?_)
          refine ev_aload_n dX7_request_8 rfl ?_
          refine ev_iload_n dX7_request_9 rfl ?_
          refine ev_cV1 dX7_request_10 ceX7_isLine kX7_161 (rm_le rfl rfl) (Nat.le_of_ble_eq_true rfl) (Nat.le_of_ble_eq_true rfl) (e7_isLine m1 l3) (by first | assumption | rfl) ?_
          rw [c2]
          refine ev_if_ne 19 dX7_request_13 (by decide) (fun hc13 => ?_) (fun hc13 => False.elim (absurd hc13 (by decide)))
          refine ev_iload_n dX7_request_19 rfl ?_
          refine ev_i2l dX7_request_20 ?_
          refine ev_lconst (v := 0) dX7_request_21 rfl ?_
          refine ev_ldc2 dX7_request_22 nX7_218 ?_
          refine ev_cS3 dX7_request_25 ceX7_in kX7_59 (rm_le rfl rfl) (Nat.le_of_ble_eq_true rfl) (Nat.le_of_ble_eq_true rfl) (e7_in) ?_
          rw [in_c _ 0 (nI 99) (by decide) (by decide), hck]
          refine ev_if_ne 34 dX7_request_28 (by decide) (fun hc28 => False.elim (absurd hc28 (by decide))) (fun hc28 => ?_)
          refine ev_ldc (v := (-1000000002)) dX7_request_31 nX7_63 ?_
          exact ev_iretE dX7_request_33 rfl rfl (by first | rfl | simp_all) (rfl)
      · refine ⟨(-1000000002), C, G, ?_, ?_, hR0⟩
        · refine ev_aload_n dX6_request_0 rfl ?_
          refine ev_getR dX6_request_1 fX6_23 (by first | assumption | rfl) (by rfl) ?_
          refine ev_iload_n dX6_request_4 rfl ?_
          refine ev_cV1 dX6_request_5 ceX1_hasReader kX6_147 (rm_le rfl rfl) (Nat.le_of_ble_eq_true rfl) (Nat.le_of_ble_eq_true rfl) (e_hasReader) (by first | assumption | rfl) ?_
          rw [r1, c1]
          refine ev_if_eq 22 dX6_request_8 (by decide) (fun hc8 => False.elim (absurd hc8 (by decide))) (fun hc8 => ?_)
          refine ev_aload_n dX6_request_11 rfl ?_
          refine ev_getR dX6_request_12 fX6_23 (by first | assumption | rfl) (by rfl) ?_
          refine ev_iload_n dX6_request_15 rfl ?_
          refine ev_cV1 dX6_request_16 ceX1_hasLine kX6_123 (rm_le rfl rfl) (Nat.le_of_ble_eq_true rfl) (Nat.le_of_ble_eq_true rfl) (e_hasLine) (by first | assumption | rfl) ?_
          rw [l1, c2]
          refine ev_if_ne 25 dX6_request_19 (by decide) (fun hc19 => ?_) (fun hc19 => False.elim (absurd hc19 (by decide)))
          refine ev_iload_n dX6_request_25 rfl ?_
          refine ev_if_lt 35 dX6_request_26 (by decide) (fun hc26 => False.elim (d1' hc26)) (fun hc26 => ?_)
          refine ev_iload_n dX6_request_29 rfl ?_
          refine ev_bipush (v := (nI 99)) dX6_request_30 (by decide) ?_
          refine ev_icmp_le 38 dX6_request_32 (by decide) (fun hc32 => False.elim (d2' hc32)) (fun hc32 => ?_)
          refine ev_ldc (v := (-1000000002)) dX6_request_35 nX6_70 ?_
          exact ev_iretE dX6_request_37 rfl rfl (by first | rfl | simp_all) (rfl)
        · refine ev_aload_n dX7_request_0 rfl ?_
          refine ev_iload_n dX7_request_1 rfl ?_
          refine ev_cV1 dX7_request_2 ceX7_isReader kX7_169 (rm_le rfl rfl) (Nat.le_of_ble_eq_true rfl) (Nat.le_of_ble_eq_true rfl) (e7_isReader m2 l6) (by first | assumption | rfl) ?_
          rw [c1]
          refine ev_if_eq 16 dX7_request_5 (by decide) (fun hc5 => False.elim (absurd hc5 (by decide))) (fun hc5 => ?_)
          refine ev_aload_n dX7_request_8 rfl ?_
          refine ev_iload_n dX7_request_9 rfl ?_
          refine ev_cV1 dX7_request_10 ceX7_isLine kX7_161 (rm_le rfl rfl) (Nat.le_of_ble_eq_true rfl) (Nat.le_of_ble_eq_true rfl) (e7_isLine m1 l3) (by first | assumption | rfl) ?_
          rw [c2]
          refine ev_if_ne 19 dX7_request_13 (by decide) (fun hc13 => ?_) (fun hc13 => False.elim (absurd hc13 (by decide)))
          refine ev_iload_n dX7_request_19 rfl ?_
          refine ev_i2l dX7_request_20 ?_
          refine ev_lconst (v := 0) dX7_request_21 rfl ?_
          refine ev_ldc2 dX7_request_22 nX7_218 ?_
          refine ev_cS3 dX7_request_25 ceX7_in kX7_59 (rm_le rfl rfl) (Nat.le_of_ble_eq_true rfl) (Nat.le_of_ble_eq_true rfl) (e7_in) ?_
          rw [in_c _ 0 (nI 99) (by decide) (by decide), hck]
          refine ev_if_ne 34 dX7_request_28 (by decide) (fun hc28 => False.elim (absurd hc28 (by decide))) (fun hc28 => ?_)
          refine ev_ldc (v := (-1000000002)) dX7_request_31 nX7_63 ?_
          exact ev_iretE dX7_request_33 rfl rfl (by first | rfl | simp_all) (rfl)
    · refine ⟨(-1000000001), C, G, ?_, ?_, hR0⟩
      · refine ev_aload_n dX6_request_0 rfl ?_
        refine ev_getR dX6_request_1 fX6_23 (by first | assumption | rfl) (by rfl) ?_
        refine ev_iload_n dX6_request_4 rfl ?_
        refine ev_cV1 dX6_request_5 ceX1_hasReader kX6_147 (rm_le rfl rfl) (Nat.le_of_ble_eq_true rfl) (Nat.le_of_ble_eq_true rfl) (e_hasReader) (by first | assumption | rfl) ?_
        rw [r1, c1]
        refine ev_if_eq 22 dX6_request_8 (by decide) (fun hc8 => False.elim (absurd hc8 (by decide))) (fun hc8 => ?_)
        refine ev_aload_n dX6_request_11 rfl ?_
        refine ev_getR dX6_request_12 fX6_23 (by first | assumption | rfl) (by rfl) ?_
        refine ev_iload_n dX6_request_15 rfl ?_
        refine ev_cV1 dX6_request_16 ceX1_hasLine kX6_123 (rm_le rfl rfl) (Nat.le_of_ble_eq_true rfl) (Nat.le_of_ble_eq_true rfl) (e_hasLine) (by first | assumption | rfl) ?_
        rw [l1, c2]
        refine ev_if_ne 25 dX6_request_19 (by decide) (fun hc19 => False.elim (absurd hc19 (by decide))) (fun hc19 => ?_)
        refine ev_ldc (v := (-1000000001)) dX6_request_22 nX6_127 ?_
        exact ev_iretE dX6_request_24 rfl rfl (by first | rfl | simp_all) (rfl)
      · refine ev_aload_n dX7_request_0 rfl ?_
        refine ev_iload_n dX7_request_1 rfl ?_
        refine ev_cV1 dX7_request_2 ceX7_isReader kX7_169 (rm_le rfl rfl) (Nat.le_of_ble_eq_true rfl) (Nat.le_of_ble_eq_true rfl) (e7_isReader m2 l6) (by first | assumption | rfl) ?_
        rw [c1]
        refine ev_if_eq 16 dX7_request_5 (by decide) (fun hc5 => False.elim (absurd hc5 (by decide))) (fun hc5 => ?_)
        refine ev_aload_n dX7_request_8 rfl ?_
        refine ev_iload_n dX7_request_9 rfl ?_
        refine ev_cV1 dX7_request_10 ceX7_isLine kX7_161 (rm_le rfl rfl) (Nat.le_of_ble_eq_true rfl) (Nat.le_of_ble_eq_true rfl) (e7_isLine m1 l3) (by first | assumption | rfl) ?_
        rw [c2]
        refine ev_if_ne 19 dX7_request_13 (by decide) (fun hc13 => False.elim (absurd hc13 (by decide))) (fun hc13 => ?_)
        refine ev_ldc (v := (-1000000001)) dX7_request_16 nX7_165 ?_
        exact ev_iretE dX7_request_18 rfl rfl (by first | rfl | simp_all) (rfl)
  · refine ⟨(-1000000001), C, G, ?_, ?_, hR0⟩
    · refine ev_aload_n dX6_request_0 rfl ?_
      refine ev_getR dX6_request_1 fX6_23 (by first | assumption | rfl) (by rfl) ?_
      refine ev_iload_n dX6_request_4 rfl ?_
      refine ev_cV1 dX6_request_5 ceX1_hasReader kX6_147 (rm_le rfl rfl) (Nat.le_of_ble_eq_true rfl) (Nat.le_of_ble_eq_true rfl) (e_hasReader) (by first | assumption | rfl) ?_
      rw [r1, c1]
      refine ev_if_eq 22 dX6_request_8 (by decide) (fun hc8 => ?_) (fun hc8 => False.elim (absurd hc8 (by decide)))
      refine ev_ldc (v := (-1000000001)) dX6_request_22 nX6_127 ?_
      exact ev_iretE dX6_request_24 rfl rfl (by first | rfl | simp_all) (rfl)
    · refine ev_aload_n dX7_request_0 rfl ?_
      refine ev_iload_n dX7_request_1 rfl ?_
      refine ev_cV1 dX7_request_2 ceX7_isReader kX7_169 (rm_le rfl rfl) (Nat.le_of_ble_eq_true rfl) (Nat.le_of_ble_eq_true rfl) (e7_isReader m2 l6) (by first | assumption | rfl) ?_
      rw [c1]
      refine ev_if_eq 16 dX7_request_5 (by decide) (fun hc5 => ?_) (fun hc5 => False.elim (absurd hc5 (by decide)))
      refine ev_ldc (v := (-1000000001)) dX7_request_16 nX7_165 ?_
      exact ev_iretE dX7_request_18 rfl rfl (by first | rfl | simp_all) (rfl)
set_option maxRecDepth 20000 in
set_option maxHeartbeats 2000000 in
theorem op_grant {s : Int32} : OpOk mX6_grant mX7_grant [.int s] := by
  intro C G hR
  have hR0 := hR
  obtain ⟨nl, nr, tm, n, d, nq, tl, nd, b0, b1, kt, hp⟩ := hR
  obtain ⟨hS, hE, hQ, hT, hDr, hI, hkt, hkt3⟩ := id hp
  have hL := hS.1
  obtain ⟨l1, m1, l3, r1, m2, l6, le, lw, lr⟩ := id hL
  obtain ⟨hP, ⟨d1, d2, d3⟩, ⟨s1, s2⟩, hH⟩ := id hS.2.1
  obtain ⟨p1, p2, p3, p4, p5⟩ := id hP
  rw [Nat.zero_add] at p2 d2 s1
  obtain ⟨-, -, k, k', q1, q2, q3, q4, q5⟩ := id hS
  obtain ⟨ke, kl⟩ := q5 rfl
  subst ke
  obtain ⟨-, -, -, kl4⟩ := id kl
  rw [Nat.zero_add] at q3
  obtain ⟨u1, u2, u3, u4⟩ := id hQ
  rcases set_of s (m := nq) (by omega) with ⟨S, hS0, e, c1, c2⟩ | ⟨c1, c2⟩
  · subst e
    have hS31 : S < 2 ^ 31 := Nat.lt_trans hS0 (Nat.pow_lt_pow_right (by decide) (by omega))
    obtain ⟨C2, G2, had, eC, eG, hS2, hR2, f3, f4⟩ := sim_grant st_21 (show 0 ≤ 4500 by decide) hS31 hS hQ
    refine ⟨had, C2, G2, ?_, ?_, hp.act hS2 f3 f4⟩
    · refine ev_iload_n dX6_grant_0 rfl ?_
      refine ev_aload_n dX6_grant_1 rfl ?_
      refine ev_getR dX6_grant_2 fX6_49 (by first | assumption | rfl) (by rfl) ?_
      refine ev_getI dX6_grant_5 fX6_91 (by first | assumption | rfl) (by rfl) ?_
      refine ev_cS2 dX6_grant_8 ceX6_isSetOf kX6_227 (rm_le rfl rfl) (Nat.le_of_ble_eq_true rfl) (Nat.le_of_ble_eq_true rfl) (e_isSetOf) ?_
      rw [u1, c1]
      refine ev_if_ne 17 dX6_grant_11 (by decide) (fun hc11 => ?_) (fun hc11 => False.elim (absurd hc11 (by decide)))
      refine ev_aload_n dX6_grant_17 rfl ?_
      refine ev_getR dX6_grant_18 fX6_49 (by first | assumption | rfl) (by rfl) ?_
      refine ev_iload_n dX6_grant_21 rfl ?_
      refine ev_aload_n dX6_grant_22 rfl ?_
      refine ev_getR dX6_grant_23 fX6_31 (by first | assumption | rfl) (by rfl) ?_
      refine ev_cV2 dX6_grant_26 ceX3_fulfil kX6_230 (rm_le rfl rfl) (Nat.le_of_ble_eq_true rfl) (Nat.le_of_ble_eq_true rfl) (eC) (by first | assumption | rfl) ?_
      exact ev_iretE dX6_grant_29 rfl rfl (by first | rfl | simp_all) (rfl)
    · refine ev_iload_n dX7_grant_0 rfl ?_
      refine ev_i2l dX7_grant_1 ?_
      refine ev_lconst (v := 0) dX7_grant_2 rfl ?_
      refine ev_iconst (v := (nI 1)) dX7_grant_3 (by decide) ?_
      refine ev_aload_n dX7_grant_4 rfl ?_
      refine ev_getI dX7_grant_5 fX7_131 (by first | assumption | rfl) (by rfl) ?_
      refine ev_ishl dX7_grant_8 ?_
      refine ev_iconst (v := (nI 1)) dX7_grant_9 (by decide) ?_
      refine ev_isub dX7_grant_10 ?_
      refine ev_i2l dX7_grant_11 ?_
      rw [u2]
      refine ev_cS3 dX7_grant_12 ceX7_in kX7_59 (rm_le rfl rfl) (Nat.le_of_ble_eq_true rfl) (Nat.le_of_ble_eq_true rfl) (e7_in) ?_
      rw [c2]
      refine ev_if_eq 27 dX7_grant_15 (by decide) (fun hc15 => False.elim (absurd hc15 (by decide))) (fun hc15 => ?_)
      refine ev_aload_n dX7_grant_18 rfl ?_
      refine ev_iconst (v := (nI 0)) dX7_grant_19 (by decide) ?_
      refine ev_iload_n dX7_grant_20 rfl ?_
      refine ev_cV2 dX7_grant_21 ceX7_grantAll kX7_226 (rm_le rfl rfl) (Nat.le_of_ble_eq_true rfl) (Nat.le_of_ble_eq_true rfl) (eG) (by first | assumption | rfl) ?_
      refine ev_goto 29 dX7_grant_24 (by decide) ?_
      exact ev_iretE dX7_grant_29 rfl rfl (by first | rfl | simp_all) (rfl)
  · refine ⟨(-1000000001), C, G, ?_, ?_, hR0⟩
    · refine ev_iload_n dX6_grant_0 rfl ?_
      refine ev_aload_n dX6_grant_1 rfl ?_
      refine ev_getR dX6_grant_2 fX6_49 (by first | assumption | rfl) (by rfl) ?_
      refine ev_getI dX6_grant_5 fX6_91 (by first | assumption | rfl) (by rfl) ?_
      refine ev_cS2 dX6_grant_8 ceX6_isSetOf kX6_227 (rm_le rfl rfl) (Nat.le_of_ble_eq_true rfl) (Nat.le_of_ble_eq_true rfl) (e_isSetOf) ?_
      rw [u1, c1]
      refine ev_if_ne 17 dX6_grant_11 (by decide) (fun hc11 => False.elim (absurd hc11 (by decide))) (fun hc11 => ?_)
      refine ev_ldc (v := (-1000000001)) dX6_grant_14 nX6_127 ?_
      exact ev_iretE dX6_grant_16 rfl rfl (by first | rfl | simp_all) (rfl)
    · refine ev_iload_n dX7_grant_0 rfl ?_
      refine ev_i2l dX7_grant_1 ?_
      refine ev_lconst (v := 0) dX7_grant_2 rfl ?_
      refine ev_iconst (v := (nI 1)) dX7_grant_3 (by decide) ?_
      refine ev_aload_n dX7_grant_4 rfl ?_
      refine ev_getI dX7_grant_5 fX7_131 (by first | assumption | rfl) (by rfl) ?_
      refine ev_ishl dX7_grant_8 ?_
      refine ev_iconst (v := (nI 1)) dX7_grant_9 (by decide) ?_
      refine ev_isub dX7_grant_10 ?_
      refine ev_i2l dX7_grant_11 ?_
      rw [u2]
      refine ev_cS3 dX7_grant_12 ceX7_in kX7_59 (rm_le rfl rfl) (Nat.le_of_ble_eq_true rfl) (Nat.le_of_ble_eq_true rfl) (e7_in) ?_
      rw [c2]
      refine ev_if_eq 27 dX7_grant_15 (by decide) (fun hc15 => ?_) (fun hc15 => False.elim (absurd hc15 (by decide)))
      refine ev_ldc (v := (-1000000001)) dX7_grant_27 nX7_165 ?_
      exact ev_iretE dX7_grant_29 rfl rfl (by first | rfl | simp_all) (rfl)
