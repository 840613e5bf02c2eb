/-! ops: feed -/
theorem byt_bv (x : BitVec 64) (n : Nat) (hn : n ≤ 56) : (x >>> n).setWidth 32 &&& 255#32 = ((x.sshiftRight n) &&& 255#64).setWidth 32 := by
  apply BitVec.eq_of_getLsbD_eq
  intro i hi
  simp only [BitVec.getLsbD_and, BitVec.getLsbD_setWidth, BitVec.getLsbD_ushiftRight, BitVec.getLsbD_sshiftRight, BitVec.getLsbD_ofNat]
  by_cases h8 : i < 8
  · have h1 : n + i < 64 := by omega
    have h2 : i < 64 := by omega
    simp [hi, h1, h2, Nat.not_le.mpr h2]
  · have e : Nat.testBit 255 i = false := Nat.testBit_lt_two_pow (Nat.lt_of_lt_of_le (by decide : 255 < 2 ^ 8) (Nat.pow_le_pow_right (by decide) (by omega)))
    simp [e]
theorem sh_u8 : ∀ k, k < 8 → ((nI 8 * nI k).toInt64.toUInt64 &&& Int64.toUInt64 63).toBitVec % 64 = BitVec.ofNat 64 (8 * k) := by decide +kernel
theorem sh_s8 : ∀ k, k < 8 → ((nI 8 * nI k).toInt64 &&& 63).toBitVec.smod 64 = BitVec.ofNat 64 (8 * k) := by decide +kernel
def btI (v : Int64) (k : Nat) : Int32 := (v.toUInt64 >>> ((nI 8 * nI k).toInt64.toUInt64 &&& Int64.toUInt64 63)).toInt64.toInt32 &&& nI 255
theorem bt_ref (v : Int64) {k : Nat} (hk : k < 8) : ((v >>> ((nI 8 * nI k).toInt64 &&& 63)) &&& 255).toInt32 = btI v k := by
  have e1 := sh_u8 k hk
  have e2 := sh_s8 k hk
  have e3 : (BitVec.ofNat 64 (8 * k)).toNat = 8 * k := by rw [BitVec.toNat_ofNat]; exact Nat.mod_eq_of_lt (by omega)
  have h := byt_bv v.toBitVec (8 * k) (by omega)
  apply Int32.toBitVec_inj.mp
  rw [btI, Int32.toBitVec_and, Int64.toBitVec_toInt32, Int64.toBitVec_toInt32, Int64.toBitVec_and, Int64.toBitVec_shiftRight, e2, UInt64.toBitVec_toInt64, UInt64.toBitVec_shiftRight, e1, BitVec.signExtend_eq_setWidth_of_le _ (by decide), BitVec.signExtend_eq_setWidth_of_le _ (by decide)]
  rw [BitVec.ushiftRight_eq', BitVec.sshiftRight_eq', e3]
  exact h.symm
theorem bt_lt (v : Int64) (k : Nat) : ∃ b, b < 256 ∧ btI v k = nI b := pk_andE _ 8 (by decide)
def kI : Nat → Int32
  | 0 => -1
  | k + 1 => nI k
theorem kI_m (k : Nat) : nI k + (-1) = kI k := by
  cases k with
  | zero => decide
  | succ k => exact pk_m1 k
theorem kI_s (k : Nat) : nI k - nI 1 = kI k := by
  cases k with
  | zero => decide
  | succ k => rw [pk_sub (by omega)]; rfl
def apM (C : rf_Mem) (len : Nat) (b : Int32) : rf_Mem := rf_set (rf_set C 2 len b) 1 1 (nI (len + 1))
set_option maxRecDepth 20000 in
set_option maxHeartbeats 2000000 in
theorem e_append {C : rf_Mem} {len : Nat} {b : Int32} (h : C 1 1 = nI len) (hl : len < 400) : Ev LayC mX4_append 0 (rf_ent 2 [.ref 1, .int b]) [] C none (apM C len b) := by
  refine ev_aload_n dX4_append_0 rfl ?_
  refine ev_getI dX4_append_1 fX4_15 (by first | assumption | rfl) (by rfl) ?_
  refine ev_sipush (v := (nI 400)) dX4_append_4 (by decide) ?_
  refine ev_icmp_ge 30 dX4_append_7 (by decide) (fun hc7 => False.elim (lp_s (i := len) (n := 400) rfl (by omega) hl (by rw [← h]; exact hc7))) (fun hc7 => ?_)
  refine ev_aload_n dX4_append_10 rfl ?_
  refine ev_getR dX4_append_11 fX4_9 (by first | assumption | rfl) (by rfl) ?_
  refine ev_aload_n dX4_append_14 rfl ?_
  refine ev_getI dX4_append_15 fX4_15 (by first | assumption | rfl) (by rfl) ?_
  refine ev_iload_n dX4_append_18 rfl ?_
  refine ev_iastE (len) dX4_append_19 (h) (by first | assumption | rfl) ⟨hl, by decide⟩ ?_
  refine ev_aload_n dX4_append_20 rfl ?_
  refine ev_dup dX4_append_21 rfl ?_
  refine ev_getI dX4_append_22 fX4_15 (by first | assumption | rfl) (by rfl) ?_
  rw [gs_q _ _ _ (show 1 ≠ 2 by decide), h]
  refine ev_iconst (v := (nI 1)) dX4_append_25 (by decide) ?_
  refine ev_iadd dX4_append_26 ?_
  rw [nI_add]
  refine ev_put dX4_append_27 pX4_15 (by first | assumption | rfl) (by rfl) (rfl) (rfl) ?_
  exact ev_vretE dX4_append_30 rfl rfl (rfl)
set_option maxRecDepth 20000 in
set_option maxHeartbeats 2000000 in
theorem fd_all {n0 : Int32} {v : Int64} : ∀ (m len : Nat) (C G : rf_Mem), m ≤ 8 → len + m ≤ 400 → Tx len C G → ∃ C' G', Ev LayC mX6_feed 37 [some (.ref 0), some (.int (n0)), some (.long v), none, some (.int (kI (m)))] [] C (some (.int (nI (len + m)))) C' ∧ Ev LayM mX7_feed 35 [some (.ref 0), some (.int (n0)), some (.long v), none, some (.int (kI (m)))] [] G (some (.int (nI (len + m)))) G' ∧ Tx (len + m) C' G' ∧ (∀ a, a ≠ 1 → a ≠ 2 → C' a = C a) ∧ (∀ j, j ≠ 1 → C' 1 j = C 1 j) ∧ (∀ a, a ≠ 0 → a ≠ 8 → G' a = G a) ∧ (∀ j, j ≠ 11 → G' 0 j = G 0 j) := by
  intro m
  induction m with
  | zero =>
    intro len C G hm hl hT
    obtain ⟨t1, t2, t3, t4, t5⟩ := id hT
    refine ⟨C, G, ?_, ?_, hT, fun _ _ _ => rfl, fun _ _ => rfl, fun _ _ _ => rfl, fun _ _ => rfl⟩
    · refine ev_iload dX6_feed_37 rfl ?_
      refine ev_if_lt 67 dX6_feed_39 (by decide) (fun hc39 => ?_) (fun hc39 => False.elim (hc39 (by decide)))
      refine ev_aload_n dX6_feed_67 rfl ?_
      refine ev_getR dX6_feed_68 fX6_10 (by first | assumption | rfl) (by rfl) ?_
      refine ev_getI dX6_feed_71 fX6_71 (by first | assumption | rfl) (by rfl) ?_
      exact ev_iretE dX6_feed_74 rfl rfl (by rw [t1, Nat.add_zero]) (rfl)
    · refine ev_iload dX7_feed_35 rfl ?_
      refine ev_if_lt 77 dX7_feed_37 (by decide) (fun hc37 => ?_) (fun hc37 => False.elim (hc37 (by decide)))
      refine ev_aload_n dX7_feed_77 rfl ?_
      refine ev_getI dX7_feed_78 fX7_64 (by first | assumption | rfl) (by rfl) ?_
      exact ev_iretE dX7_feed_81 rfl rfl (by rw [t2, Nat.add_zero]) (rfl)
  | succ m ih =>
    intro len C G hm hl hT
    obtain ⟨t1, t2, t3, t4, t5⟩ := id hT
    obtain ⟨bb, hb1, hb2⟩ := bt_lt v m
    have hT2 : Tx (len + 1) (apM C len (btI v m)) (rf_set (rf_set G 8 len (btI v m)) 0 11 (nI (len + 1))) := by
      refine ⟨by unfold apM; rw [gs_same], by rw [gs_same], by omega, fun i hi => ?_, ?_⟩
      · unfold apM
        rw [gs_q _ _ _ (show 2 ≠ 1 by decide), gs_q _ _ _ (show 8 ≠ 0 by decide)]
        by_cases e : i = len
        · rw [e, gs_same, gs_same]; exact ⟨rfl, bb, hb1, hb2⟩
        · rw [gs_k _ _ _ e, gs_k _ _ _ e]; exact t4 i (by omega)
      · unfold apM
        rw [gs_k _ _ _ (by decide), gs_k _ _ _ (by decide), gs_q _ _ _ (by decide), gs_q _ _ _ (by decide)]; exact t5
    obtain ⟨C2, G2, u1, u2, hT3, f1, f2, f3, f4⟩ := ih (len + 1) _ _ (by omega) (by omega) hT2
    have e9 : len + 1 + m = len + (m + 1) := by omega
    rw [e9] at u1 u2 hT3
    refine ⟨C2, G2, ?_, ?_, hT3, fun a x y => ?_, fun j x => ?_, fun a x y => ?_, fun j x => ?_⟩
    · rw [show kI (m + 1) = nI m from rfl]
      refine ev_iload dX6_feed_37 rfl ?_
      refine ev_if_lt 67 dX6_feed_39 (by decide) (fun hc39 => False.elim (nI_pos (show m < 2 ^ 31 by omega) hc39)) (fun hc39 => ?_)
      refine ev_aload_n dX6_feed_42 rfl ?_
      refine ev_getR dX6_feed_43 fX6_10 (by first | assumption | rfl) (by rfl) ?_
      refine ev_lload_n dX6_feed_46 rfl ?_
      refine ev_bipush (v := (nI 8)) dX6_feed_47 (by decide) ?_
      refine ev_iload dX6_feed_49 rfl ?_
      refine ev_imul dX6_feed_51 ?_
      refine ev_lushr dX6_feed_52 ?_
      refine ev_l2i dX6_feed_53 ?_
      refine ev_sipush (v := (nI 255)) dX6_feed_54 (by decide) ?_
      refine ev_iand dX6_feed_57 ?_
      refine ev_cV1v dX6_feed_58 ceX4_append kX6_75 (rm_le rfl rfl) (Nat.le_of_ble_eq_true rfl) (Nat.le_of_ble_eq_true rfl) (e_append t1 (by omega)) (by first | assumption | rfl) ?_
      refine ev_iinc (v := (-1)) dX6_feed_61 rfl (by decide) (by decide) rfl ?_
      refine ev_goto 37 dX6_feed_64 (by decide) ?_
      exact ev_st u1 (by simp only [kI_m, List.set_cons_succ, List.set_cons_zero]) rfl rfl
    · rw [show kI (m + 1) = nI m from rfl]
      refine ev_iload dX7_feed_35 rfl ?_
      refine ev_if_lt 77 dX7_feed_37 (by decide) (fun hc37 => False.elim (nI_pos (show m < 2 ^ 31 by omega) hc37)) (fun hc37 => ?_)
      refine ev_aload_n dX7_feed_40 rfl ?_
      refine ev_getR dX7_feed_41 fX7_36 (by first | assumption | rfl) (by rfl) ?_
      refine ev_aload_n dX7_feed_44 rfl ?_
      refine ev_getI dX7_feed_45 fX7_64 (by first | assumption | rfl) (by rfl) ?_
      refine ev_lload_n dX7_feed_48 rfl ?_
      refine ev_bipush (v := (nI 8)) dX7_feed_49 (by decide) ?_
      refine ev_iload dX7_feed_51 rfl ?_
      refine ev_imul dX7_feed_53 ?_
      refine ev_lshr dX7_feed_54 ?_
      refine ev_ldc2 dX7_feed_55 nX7_68 ?_
      refine ev_land dX7_feed_58 ?_
      refine ev_l2i dX7_feed_59 ?_
      rw [bt_ref v (show m < 8 by omega)]
      refine ev_iastE (len) dX7_feed_60 (t2) (by first | assumption | rfl) ⟨by omega, by decide⟩ ?_
      refine ev_aload_n dX7_feed_61 rfl ?_
      refine ev_dup dX7_feed_62 rfl ?_
      refine ev_getI dX7_feed_63 fX7_64 (by first | assumption | rfl) (by rfl) ?_
      rw [gs_q _ _ _ (show 0 ≠ 8 by decide), t2]
      refine ev_iconst (v := (nI 1)) dX7_feed_66 (by decide) ?_
      refine ev_iadd dX7_feed_67 ?_
      rw [nI_add]
      refine ev_put dX7_feed_68 pX7_64 (by first | assumption | rfl) (by rfl) (rfl) (rfl) ?_
      refine ev_iinc (v := (-1)) dX7_feed_71 rfl (by decide) (by decide) rfl ?_
      refine ev_goto 35 dX7_feed_74 (by decide) ?_
      exact ev_st u2 (by simp only [kI_m, List.set_cons_succ, List.set_cons_zero]) rfl rfl
    · rw [f1 a x y]; unfold apM; rw [gs_q _ _ _ x, gs_q _ _ _ y]
    · rw [f2 j x]; unfold apM; rw [gs_k _ _ _ x, gs_q _ _ _ (by decide)]
    · rw [f3 a x y, gs_q _ _ _ x, gs_q _ _ _ y]
    · rw [f4 j x, gs_k _ _ _ x, gs_q _ _ _ (by decide)]
set_option maxRecDepth 20000 in
set_option maxHeartbeats 2000000 in
theorem op_feed {n0 : Int32} {v : Int64} : OpOk mX6_feed mX7_feed [.int n0, .long v] := by
  intro C G hR
  have hR0 := hR
  obtain ⟨nl, nr, tm, n, d, nq, tl, nd, b0, b1, kt, hp⟩ := hR
  obtain ⟨hS, hE, hQ, hT, hDr, hI, hkt, hkt3⟩ := id hp
  have hL := hS.1
  obtain ⟨l1, m1, l3, r1, m2, l6, le, lw, lr⟩ := id hL
  obtain ⟨hP, ⟨d1, d2, d3⟩, ⟨s1, s2⟩, hH⟩ := id hS.2.1
  obtain ⟨p1, p2, p3, p4, p5⟩ := id hP
  rw [Nat.zero_add] at p2 d2 s1
  obtain ⟨-, -, k, k', q1, q2, q3, q4, q5⟩ := id hS
  obtain ⟨ke, kl⟩ := q5 rfl
  subst ke
  obtain ⟨-, -, -, kl4⟩ := id kl
  rw [Nat.zero_add] at q3
  obtain ⟨t1, t2, t3, t4, t5⟩ := id hT
  rcases rg1 n0 (m := 8) (by decide) with ⟨N, hN1, hN, e1, c1, c2, k1⟩ | ⟨k1, c1 | ⟨c1, c2⟩⟩
  · subst e1
    by_cases hf : tl + N ≤ 400
    · obtain ⟨C2, G2, u1, u2, hT2, f1, f2, f3, f4⟩ := fd_all (n0 := nI N) (v := v) N tl C G (by omega) hf hT
      obtain ⟨w1, w2, w3, w4, w5⟩ := hp.side (C' := C2) (G' := G2) (fun a ha => f1 a (by omega) (by omega)) (fun a ha => f3 a (by omega) (by omega)) (f4 7 (by decide))
      have hRn : Rg C2 G2 := by
        refine ⟨nl, nr, tm, n, d, nq, tl + N, nd, b0, b1, kt, w1, w2, ?_, hT2, ?_, ?_, w5, hkt3⟩
        · unfold Rq at hQ ⊢
          rw [f1 14 (by decide) (by decide), f1 15 (by decide) (by decide), f1 16 (by decide) (by decide), f1 17 (by decide) (by decide), f4 17 (by decide), f3 9 (by decide) (by decide), f3 10 (by decide) (by decide), f3 11 (by decide) (by decide)]
          exact hQ
        · unfold Dr at hDr ⊢
          rw [f1 0 (by decide) (by decide), f1 19 (by decide) (by decide), f4 24 (by decide), f3 13 (by decide) (by decide)]
          exact hDr
        · obtain ⟨i1, i2, i3, -, -⟩ := hI
          exact ⟨by rw [f3 2 (by decide) (by decide)]; exact i1, by rw [f3 2 (by decide) (by decide)]; exact i2, by rw [f1 0 (by decide) (by decide)]; exact i3, w3, w4⟩
      refine ⟨nI (tl + N), C2, G2, ?_, ?_, hRn⟩
      · refine ev_iload_n dX6_feed_0 rfl ?_
        refine ev_iconst (v := (nI 1)) dX6_feed_1 (by decide) ?_
        refine ev_icmp_lt 11 dX6_feed_2 (by decide) (fun hc2 => False.elim (c1 hc2)) (fun hc2 => ?_)
        refine ev_iload_n dX6_feed_5 rfl ?_
        refine ev_bipush (v := (nI 8)) dX6_feed_6 (by decide) ?_
        refine ev_icmp_le 14 dX6_feed_8 (by decide) (fun hc8 => ?_) (fun hc8 => False.elim (hc8 c2))
        refine ev_aload_n dX6_feed_14 rfl ?_
        refine ev_getR dX6_feed_15 fX6_10 (by first | assumption | rfl) (by rfl) ?_
        refine ev_getI dX6_feed_18 fX6_71 (by first | assumption | rfl) (by rfl) ?_
        refine ev_iload_n dX6_feed_21 rfl ?_
        refine ev_iadd dX6_feed_22 ?_
        refine ev_sipush (v := (nI 400)) dX6_feed_23 (by decide) ?_
        rw [t1, nI_add]
        refine ev_icmp_le 32 dX6_feed_26 (by decide) (fun hc26 => ?_) (fun hc26 => False.elim (hc26 (nI_le hf (by decide))))
        refine ev_iload_n dX6_feed_32 rfl ?_
        refine ev_iconst (v := (nI 1)) dX6_feed_33 (by decide) ?_
        refine ev_isub dX6_feed_34 ?_
        refine ev_istore dX6_feed_35 (by decide) rfl ?_
        exact ev_st u1 (by rw [kI_s]; rfl) rfl rfl
      · refine ev_iload_n dX7_feed_0 rfl ?_
        refine ev_i2l dX7_feed_1 ?_
        refine ev_lconst (v := 1) dX7_feed_2 rfl ?_
        refine ev_ldc2 dX7_feed_3 nX7_57 ?_
        refine ev_cS3 dX7_feed_6 ceX7_in kX7_59 (rm_le rfl rfl) (Nat.le_of_ble_eq_true rfl) (Nat.le_of_ble_eq_true rfl) (e7_in) ?_
        rw [in_c _ (nI 1) (nI 8) (by decide) (by decide), k1]
        refine ev_if_ne 15 dX7_feed_9 (by decide) (fun hc9 => ?_) (fun hc9 => False.elim (absurd hc9 (by decide)))
        refine ev_aload_n dX7_feed_15 rfl ?_
        refine ev_getI dX7_feed_16 fX7_64 (by first | assumption | rfl) (by rfl) ?_
        refine ev_iload_n dX7_feed_19 rfl ?_
        refine ev_iadd dX7_feed_20 ?_
        refine ev_sipush (v := (nI 400)) dX7_feed_21 (by decide) ?_
        rw [t2, nI_add]
        refine ev_icmp_le 30 dX7_feed_24 (by decide) (fun hc24 => ?_) (fun hc24 => False.elim (hc24 (nI_le hf (by decide))))
        refine ev_iload_n dX7_feed_30 rfl ?_
        refine ev_iconst (v := (nI 1)) dX7_feed_31 (by decide) ?_
        refine ev_isub dX7_feed_32 ?_
        refine ev_istore dX7_feed_33 (by decide) rfl ?_
        exact ev_st u2 (by rw [kI_s]; rfl) rfl rfl
    · refine ⟨(-1000000004), C, G, ?_, ?_, hR0⟩
      · refine ev_iload_n dX6_feed_0 rfl ?_
        refine ev_iconst (v := (nI 1)) dX6_feed_1 (by decide) ?_
        refine ev_icmp_lt 11 dX6_feed_2 (by decide) (fun hc2 => False.elim (c1 hc2)) (fun hc2 => ?_)
        refine ev_iload_n dX6_feed_5 rfl ?_
        refine ev_bipush (v := (nI 8)) dX6_feed_6 (by decide) ?_
        refine ev_icmp_le 14 dX6_feed_8 (by decide) (fun hc8 => ?_) (fun hc8 => False.elim (hc8 c2))
        refine ev_aload_n dX6_feed_14 rfl ?_
        refine ev_getR dX6_feed_15 fX6_10 (by first | assumption | rfl) (by rfl) ?_
        refine ev_getI dX6_feed_18 fX6_71 (by first | assumption | rfl) (by rfl) ?_
        refine ev_iload_n dX6_feed_21 rfl ?_
        refine ev_iadd dX6_feed_22 ?_
        refine ev_sipush (v := (nI 400)) dX6_feed_23 (by decide) ?_
        rw [t1, nI_add]
        refine ev_icmp_le 32 dX6_feed_26 (by decide) (fun hc26 => False.elim (nI_ge (show 400 < tl + N by omega) (by omega) hc26)) (fun hc26 => ?_)
        refine ev_ldc (v := (-1000000004)) dX6_feed_29 nX6_74 ?_
        exact ev_iretE dX6_feed_31 rfl rfl (by first | rfl | simp_all) (rfl)
      · refine ev_iload_n dX7_feed_0 rfl ?_
        refine ev_i2l dX7_feed_1 ?_
        refine ev_lconst (v := 1) dX7_feed_2 rfl ?_
        refine ev_ldc2 dX7_feed_3 nX7_57 ?_
        refine ev_cS3 dX7_feed_6 ceX7_in kX7_59 (rm_le rfl rfl) (Nat.le_of_ble_eq_true rfl) (Nat.le_of_ble_eq_true rfl) (e7_in) ?_
        rw [in_c _ (nI 1) (nI 8) (by decide) (by decide), k1]
        refine ev_if_ne 15 dX7_feed_9 (by decide) (fun hc9 => ?_) (fun hc9 => False.elim (absurd hc9 (by decide)))
        refine ev_aload_n dX7_feed_15 rfl ?_
        refine ev_getI dX7_feed_16 fX7_64 (by first | assumption | rfl) (by rfl) ?_
        refine ev_iload_n dX7_feed_19 rfl ?_
        refine ev_iadd dX7_feed_20 ?_
        refine ev_sipush (v := (nI 400)) dX7_feed_21 (by decide) ?_
        rw [t2, nI_add]
        refine ev_icmp_le 30 dX7_feed_24 (by decide) (fun hc24 => False.elim (nI_ge (show 400 < tl + N by omega) (by omega) hc24)) (fun hc24 => ?_)
        refine ev_ldc (v := (-1000000004)) dX7_feed_27 nX7_67 ?_
        exact ev_iretE dX7_feed_29 rfl rfl (by first | rfl | simp_all) (rfl)
  · refine ⟨(-1000000002), C, G, ?_, ?_, hR0⟩
    · refine ev_iload_n dX6_feed_0 rfl ?_
      refine ev_iconst (v := (nI 1)) dX6_feed_1 (by decide) ?_
      refine ev_icmp_lt 11 dX6_feed_2 (by decide) (fun hc2 => ?_) (fun hc2 => False.elim (hc2 c1))
      refine ev_ldc (v := (-1000000002)) dX6_feed_11 nX6_70 ?_
      exact ev_iretE dX6_feed_13 rfl rfl (by first | rfl | simp_all) (rfl)
    · refine ev_iload_n dX7_feed_0 rfl ?_
      refine ev_i2l dX7_feed_1 ?_
      refine ev_lconst (v := 1) dX7_feed_2 rfl ?_
      refine ev_ldc2 dX7_feed_3 nX7_57 ?_
      refine ev_cS3 dX7_feed_6 ceX7_in kX7_59 (rm_le rfl rfl) (Nat.le_of_ble_eq_true rfl) (Nat.le_of_ble_eq_true rfl) (e7_in) ?_
      rw [in_c _ (nI 1) (nI 8) (by decide) (by decide), k1]
      refine ev_if_ne 15 dX7_feed_9 (by decide) (fun hc9 => False.elim (absurd hc9 (by decide))) (fun hc9 => ?_)
      refine ev_ldc (v := (-1000000002)) dX7_feed_12 nX7_63 ?_
      exact ev_iretE dX7_feed_14 rfl rfl (by first | rfl | simp_all) (rfl)
  · refine ⟨(-1000000002), C, G, ?_, ?_, hR0⟩
    · refine ev_iload_n dX6_feed_0 rfl ?_
      refine ev_iconst (v := (nI 1)) dX6_feed_1 (by decide) ?_
      refine ev_icmp_lt 11 dX6_feed_2 (by decide) (fun hc2 => False.elim (c1 hc2)) (fun hc2 => ?_)
      refine ev_iload_n dX6_feed_5 rfl ?_
      refine ev_bipush (v := (nI 8)) dX6_feed_6 (by decide) ?_
      refine ev_icmp_le 14 dX6_feed_8 (by decide) (fun hc8 => False.elim (c2 hc8)) (fun hc8 => ?_)
      refine ev_ldc (v := (-1000000002)) dX6_feed_11 nX6_70 ?_
      exact ev_iretE dX6_feed_13 rfl rfl (by first | rfl | simp_all) (rfl)
    · refine ev_iload_n dX7_feed_0 rfl ?_
      refine ev_i2l dX7_feed_1 ?_
      refine ev_lconst (v := 1) dX7_feed_2 rfl ?_
      refine ev_ldc2 dX7_feed_3 nX7_57 ?_
      refine ev_cS3 dX7_feed_6 ceX7_in kX7_59 (rm_le rfl rfl) (Nat.le_of_ble_eq_true rfl) (Nat.le_of_ble_eq_true rfl) (e7_in) ?_
      rw [in_c _ (nI 1) (nI 8) (by decide) (by decide), k1]
      refine ev_if_ne 15 dX7_feed_9 (by decide) (fun hc9 => False.elim (absurd hc9 (by decide))) (fun hc9 => ?_)
      refine ev_ldc (v := (-1000000002)) dX7_feed_12 nX7_63 ?_
      exact ev_iretE dX7_feed_14 rfl rfl (by first | rfl | simp_all) (rfl)
