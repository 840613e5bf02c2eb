/-! requests granted, in lockstep -/
theorem hs_u : ∀ i, i < 32 → (((nI i).toUInt32 &&& Int32.toUInt32 31).toBitVec % 32).toNat = i := by decide +kernel
theorem hs_s : ∀ i, i < 32 → (((nI i) &&& 31).toBitVec.smod 32).toNat = i := by decide +kernel
def hb (S i : Nat) : Bool := decide (S / 2 ^ i % 2 = 1)
theorem has_u {S i : Nat} (hS : S < 2 ^ 31) (hi : i < 32) : ((nI S).toUInt32 >>> ((nI i).toUInt32 &&& Int32.toUInt32 31)).toInt32 &&& nI 1 = nI (S / 2 ^ i % 2) := by
  rw [pk_ushrN (by omega) (nI i) i (hs_u i hi)]
  exact fa_mask _ 1
theorem has_s {S i : Nat} (hS : S < 2 ^ 31) (hi : i < 32) : (nI S >>> (nI i &&& 31)) &&& nI 1 = nI (S / 2 ^ i % 2) := by
  rw [pk_shrN hS (nI i &&& 31) i (hs_s i hi)]
  exact fa_mask _ 1
theorem has_1 {S i : Nat} : decide (nI (S / 2 ^ i % 2) = nI 1) = hb S i := by
  have h : S / 2 ^ i % 2 < 2 := Nat.mod_lt _ (by decide)
  exact decide_eq_decide.mpr (nI_eq (by omega) (by decide))
theorem e_hasN {C : rf_Mem} {S i : Nat} (hS : S < 2 ^ 31) (hi : i < 32) : Ev LayC mX6_has 0 (rf_ent 2 [.int (nI S), .int (nI i)]) [] C (some (.int (b2i (hb S i)))) C := by
  have h := e_has (C := C) (s := nI S) (k := nI i)
  rw [has_u hS hi, has_1] at h
  exact h
theorem e7_hasN {G : rf_Mem} {S i : Nat} (hS : S < 2 ^ 31) (hi : i < 32) : Ev LayM mX7_has 0 (rf_ent 2 [.int (nI S), .int (nI i)]) [] G (some (.int (b2i (hb S i)))) G := by
  have h := e7_has (G := G) (s := nI S) (k := nI i)
  rw [has_s hS hi, has_1] at h
  exact h
def Rq (nq nl nr : Nat) (C G : rf_Mem) : Prop := C 14 3 = nI nq ∧ G 0 17 = nI nq ∧ nq ≤ 10 ∧ ∀ i, i < nq → C 15 i = G 9 i ∧ C 16 i = G 10 i ∧ C 17 i = G 11 i ∧ (∃ r, r < nr ∧ C 15 i = nI r) ∧ (∃ l, l < nl ∧ C 16 i = nI l) ∧ (∃ v, v ≤ 99 ∧ C 17 i = nI v)
theorem Rq.fr {nq nl nr q x : Nat} {C G C' G' : rf_Mem} (h : Rq nq nl nr C G) (hq : 20 < q) (hC : FrC q C C') (hG : FrG x G G') : Rq nq nl nr C' G' := by
  unfold Rq at h ⊢
  rw [hC 14 (by omega), hC 15 (by omega), hC 16 (by omega), hC 17 (by omega), hG.1 0 (by omega), hG.1 9 (by omega), hG.1 10 (by omega), hG.1 11 (by omega)]
  exact h
/-- the darkest page is the same one -/
theorem dk_same {q x n nl : Nat} {C G : rf_Mem} (h : Pg q x n nl C G) (l : Int32) : dkst (vLeft (fun p => G 1 (x + p)) (fun p => G 1 (x + 80 + p)) l) (fun p => G 1 (x + 80 + p)) n = dkst (vLeft (C (q + 1)) (C (q + 3)) l) (C (q + 3)) n := by
  refine dkst_cong (fun p hp => ?_)
  obtain ⟨⟨a1, -, a3, -⟩, -⟩ := h.2.2.2.2 p hp
  exact ⟨by unfold vLeft; rw [a1, a3], a3.symm⟩

set_option maxRecDepth 20000 in
set_option maxHeartbeats 2000000 in
theorem sim_ask {w : Bool} {q x n d nl nr nq S : Nat} {tm : Nat → Nat} {C G : rf_Mem} {i : Nat} (had : Int32) (hq : st_ok q) (hx : x ≤ 4500) (hS : S < 2 ^ 31) (hi : i < nq) (h : Sim w q x n d nl nr tm C G) (hR : Rq nq nl nr C G) : ∃ C' G' had', (∀ r M', Ev LayC mX3_fulfil 5 [some (.ref 14), some (.int (nI S)), some (.ref q), some (.int had'), some (.int (nI (i + 1))), none] [] C' r M' → Ev LayC mX3_fulfil 5 [some (.ref 14), some (.int (nI S)), some (.ref q), some (.int had), some (.int (nI (i))), none] [] C r M') ∧ (∀ r M', Ev LayM mX7_grantAll 5 [some (.ref 0), some (.int (nI x)), some (.int (nI S)), some (.int had'), some (.int (nI (i + 1))), none] [] G' r M' → Ev LayM mX7_grantAll 5 [some (.ref 0), some (.int (nI x)), some (.int (nI S)), some (.int had), some (.int (nI (i))), none] [] G r M') ∧ Sim w q x n d nl nr tm C' G' ∧ Rq nq nl nr C' G' ∧ FrC q C C' ∧ FrG x G G' := by
  have hq0 := hq
  obtain ⟨h0, h1, h2, h3, h4, h5, h6, h7, h8, h9, h10, h11, h20⟩ := hq
  obtain ⟨hL, hB, -⟩ := id h
  obtain ⟨p1, p2, p3, -, p5⟩ := id hB.1
  have l3 := hL.2.2.1
  have l6 := hL.2.2.2.2.2.1
  obtain ⟨c14, g17, hnq, hrq⟩ := id hR
  obtain ⟨t1, t2, t3, ⟨r0, hr0, hr1⟩, ⟨l, hl, hl1⟩, -⟩ := hrq i hi
  have u1 : G 9 i = nI r0 := by rw [← t1]; exact hr1
  have u2 : G 10 i = nI l := by rw [← t2]; exact hl1
  have dk := dk_same hB.1 (nI l)
  cases hh : hb S i with
  | false =>
    refine ⟨C, G, had, fun r M' hE => ?_, fun r M' hE => ?_, h, hR, FrC.rf q C, FrG.rf x G⟩
    · refine ev_iload dX3_fulfil_5 rfl ?_
      refine ev_aload_n dX3_fulfil_7 rfl ?_
      refine ev_getI dX3_fulfil_8 fX3_21 (by first | assumption | rfl) (by rfl) ?_
      refine ev_icmp_ge 75 dX3_fulfil_11 (by decide) (fun hc11 => False.elim (lp_s c14 (by omega) hi hc11)) (fun hc11 => ?_)
      refine ev_iload_n dX3_fulfil_14 rfl ?_
      refine ev_iload dX3_fulfil_15 rfl ?_
      refine ev_cN2 dX3_fulfil_17 ceX6_has rfl rfl (rm_le rfl rfl) (Nat.le_of_ble_eq_true rfl) (Nat.le_of_ble_eq_true rfl) (e_hasN hS (by omega)) ?_
      refine ev_if_eq 37 dX3_fulfil_20 (by decide) (fun hc20 => ?_) (fun hc20 => False.elim (by rw [b2i_0, hh] at hc20; exact hc20 rfl))
      refine ev_iconst (v := (-1)) dX3_fulfil_37 (by decide) ?_
      refine ev_istore dX3_fulfil_38 (by decide) rfl ?_
      refine ev_iload dX3_fulfil_40 rfl ?_
      refine ev_iconst (v := (-1)) dX3_fulfil_42 (by decide) ?_
      refine ev_icmp_eq 69 dX3_fulfil_43 (by decide) (fun hc43 => ?_) (fun hc43 => False.elim (hc43 rfl))
      refine ev_iinc (v := (nI 1)) dX3_fulfil_69 rfl (by decide) (by decide) rfl ?_
      refine ev_goto 5 dX3_fulfil_72 (by decide) ?_
      exact ev_stw hE (by simp [rf_sub, nI_add]) rfl rfl
    · refine ev_iload dX7_grantAll_5 rfl ?_
      refine ev_aload_n dX7_grantAll_7 rfl ?_
      refine ev_getI dX7_grantAll_8 fX7_131 (by first | assumption | rfl) (by rfl) ?_
      refine ev_icmp_ge 76 dX7_grantAll_11 (by decide) (fun hc11 => False.elim (lp_s g17 (by omega) hi hc11)) (fun hc11 => ?_)
      refine ev_iload_n dX7_grantAll_14 rfl ?_
      refine ev_iload dX7_grantAll_15 rfl ?_
      refine ev_cS2 dX7_grantAll_17 ceX7_has kX7_220 (rm_le rfl rfl) (Nat.le_of_ble_eq_true rfl) (Nat.le_of_ble_eq_true rfl) (e7_hasN hS (by omega)) ?_
      refine ev_if_eq 38 dX7_grantAll_20 (by decide) (fun hc20 => ?_) (fun hc20 => False.elim (by rw [b2i_0, hh] at hc20; exact hc20 rfl))
      refine ev_iconst (v := (-1)) dX7_grantAll_38 (by decide) ?_
      refine ev_istore dX7_grantAll_39 (by decide) rfl ?_
      refine ev_iload dX7_grantAll_41 rfl ?_
      refine ev_if_lt 70 dX7_grantAll_43 (by decide) (fun hc43 => ?_) (fun hc43 => False.elim (hc43 (by decide)))
      refine ev_iinc (v := (nI 1)) dX7_grantAll_70 rfl (by decide) (by decide) rfl ?_
      refine ev_goto 5 dX7_grantAll_73 (by decide) ?_
      exact ev_stw hE (by simp [rf_sub, nI_add]) rfl rfl
  | true =>
    cases hd : dkst (vLeft (C (q + 1)) (C (q + 3)) (nI l)) (C (q + 3)) n with
    | none =>
      rw [hd] at dk
      refine ⟨C, G, had, fun r M' hE => ?_, fun r M' hE => ?_, h, hR, FrC.rf q C, FrG.rf x G⟩
      · refine ev_iload dX3_fulfil_5 rfl ?_
        refine ev_aload_n dX3_fulfil_7 rfl ?_
        refine ev_getI dX3_fulfil_8 fX3_21 (by first | assumption | rfl) (by rfl) ?_
        refine ev_icmp_ge 75 dX3_fulfil_11 (by decide) (fun hc11 => False.elim (lp_s c14 (by omega) hi hc11)) (fun hc11 => ?_)
        refine ev_iload_n dX3_fulfil_14 rfl ?_
        refine ev_iload dX3_fulfil_15 rfl ?_
        refine ev_cN2 dX3_fulfil_17 ceX6_has rfl rfl (rm_le rfl rfl) (Nat.le_of_ble_eq_true rfl) (Nat.le_of_ble_eq_true rfl) (e_hasN hS (by omega)) ?_
        refine ev_if_eq 37 dX3_fulfil_20 (by decide) (fun hc20 => False.elim (by rw [b2i_0, hh] at hc20; cases hc20)) (fun hc20 => ?_)
        refine ev_aload_n dX3_fulfil_23 rfl ?_
        refine ev_aload_n dX3_fulfil_24 rfl ?_
        refine ev_getR dX3_fulfil_25 fX3_15 (by first | assumption | rfl) (by rfl) ?_
        refine ev_iload dX3_fulfil_28 rfl ?_
        refine ev_ialdE _ dX3_fulfil_30 (rfl) (by first | assumption | rfl) ⟨by omega, by decide⟩ ?_
        rw [hl1]
        refine ev_cV1 dX3_fulfil_31 ceX5_darkestPage kX3_30 (rm_le rfl rfl) (Nat.le_of_ble_eq_true rfl) (Nat.le_of_ble_eq_true rfl) (e_darkestPage hq0 p1 p3) (by first | assumption | rfl) ?_
        rw [hd]
        refine ev_goto 38 dX3_fulfil_34 (by decide) ?_
        refine ev_istore dX3_fulfil_38 (by decide) rfl ?_
        refine ev_iload dX3_fulfil_40 rfl ?_
        refine ev_iconst (v := (-1)) dX3_fulfil_42 (by decide) ?_
        refine ev_icmp_eq 69 dX3_fulfil_43 (by decide) (fun hc43 => ?_) (fun hc43 => False.elim (hc43 rfl))
        refine ev_iinc (v := (nI 1)) dX3_fulfil_69 rfl (by decide) (by decide) rfl ?_
        refine ev_goto 5 dX3_fulfil_72 (by decide) ?_
        exact ev_stw hE (by simp [rf_sub, nI_add]) rfl rfl
      · refine ev_iload dX7_grantAll_5 rfl ?_
        refine ev_aload_n dX7_grantAll_7 rfl ?_
        refine ev_getI dX7_grantAll_8 fX7_131 (by first | assumption | rfl) (by rfl) ?_
        refine ev_icmp_ge 76 dX7_grantAll_11 (by decide) (fun hc11 => False.elim (lp_s g17 (by omega) hi hc11)) (fun hc11 => ?_)
        refine ev_iload_n dX7_grantAll_14 rfl ?_
        refine ev_iload dX7_grantAll_15 rfl ?_
        refine ev_cS2 dX7_grantAll_17 ceX7_has kX7_220 (rm_le rfl rfl) (Nat.le_of_ble_eq_true rfl) (Nat.le_of_ble_eq_true rfl) (e7_hasN hS (by omega)) ?_
        refine ev_if_eq 38 dX7_grantAll_20 (by decide) (fun hc20 => False.elim (by rw [b2i_0, hh] at hc20; cases hc20)) (fun hc20 => ?_)
        refine ev_aload_n dX7_grantAll_23 rfl ?_
        refine ev_iload_n dX7_grantAll_24 rfl ?_
        refine ev_aload_n dX7_grantAll_25 rfl ?_
        refine ev_getR dX7_grantAll_26 fX7_45 (by first | assumption | rfl) (by rfl) ?_
        refine ev_iload dX7_grantAll_29 rfl ?_
        refine ev_ialdE _ dX7_grantAll_31 (by first | with_reducible rfl | with_reducible exact nI_add _ _ | with_reducible exact ix3 _ _ _ | with_reducible exact ix_k _ _ _ | with_reducible exact ix_xk _ _ _ _) (by first | assumption | rfl) ⟨by omega, by decide⟩ ?_
        rw [u2]
        refine ev_cV2 dX7_grantAll_32 ceX7_palest kX7_223 (rm_le rfl rfl) (Nat.le_of_ble_eq_true rfl) (Nat.le_of_ble_eq_true rfl) (e7_palest hx p2 p3) (by first | assumption | rfl) ?_
        rw [dk]
        refine ev_goto 39 dX7_grantAll_35 (by decide) ?_
        refine ev_istore dX7_grantAll_39 (by decide) rfl ?_
        refine ev_iload dX7_grantAll_41 rfl ?_
        refine ev_if_lt 70 dX7_grantAll_43 (by decide) (fun hc43 => ?_) (fun hc43 => False.elim (hc43 (by decide)))
        refine ev_iinc (v := (nI 1)) dX7_grantAll_70 rfl (by decide) (by decide) rfl ?_
        refine ev_goto 5 dX7_grantAll_73 (by decide) ?_
        exact ev_stw hE (by simp [rf_sub, nI_add]) rfl rfl
    | some p =>
      rw [hd] at dk
      obtain ⟨hp, hpv⟩ := dkst_lt hd
      obtain ⟨-, -, ⟨s, hs, hs2⟩, -⟩ := p5 p hp
      have hs9 : s < 9 := by
        rcases Nat.lt_or_ge s 9 with z | z
        · exact z
        · have z2 : nI 9 ≤ C (q + 3) p := by rw [hs2]; exact nI_le z (by omega)
          simp [vLeft, z2] at hpv
      obtain ⟨C2, G2, eC, eG, hS2, f3, f4⟩ := sim_read (p := p) (r := r0) hq0 hx h hr0 hp hs2 hs9
      have w1 : C2 17 i = C 17 i := by rw [f3 17 (by omega)]
      have w2 : G2 11 i = C 17 i := by rw [f4.1 11 (by decide)]; exact t3.symm
      refine ⟨C2, G2, had + C 17 i, fun r M' hE => ?_, fun r M' hE => ?_, hS2, hR.fr h20 f3 f4, f3, f4⟩
      · refine ev_iload dX3_fulfil_5 rfl ?_
        refine ev_aload_n dX3_fulfil_7 rfl ?_
        refine ev_getI dX3_fulfil_8 fX3_21 (by first | assumption | rfl) (by rfl) ?_
        refine ev_icmp_ge 75 dX3_fulfil_11 (by decide) (fun hc11 => False.elim (lp_s c14 (by omega) hi hc11)) (fun hc11 => ?_)
        refine ev_iload_n dX3_fulfil_14 rfl ?_
        refine ev_iload dX3_fulfil_15 rfl ?_
        refine ev_cN2 dX3_fulfil_17 ceX6_has rfl rfl (rm_le rfl rfl) (Nat.le_of_ble_eq_true rfl) (Nat.le_of_ble_eq_true rfl) (e_hasN hS (by omega)) ?_
        refine ev_if_eq 37 dX3_fulfil_20 (by decide) (fun hc20 => False.elim (by rw [b2i_0, hh] at hc20; cases hc20)) (fun hc20 => ?_)
        refine ev_aload_n dX3_fulfil_23 rfl ?_
        refine ev_aload_n dX3_fulfil_24 rfl ?_
        refine ev_getR dX3_fulfil_25 fX3_15 (by first | assumption | rfl) (by rfl) ?_
        refine ev_iload dX3_fulfil_28 rfl ?_
        refine ev_ialdE _ dX3_fulfil_30 (rfl) (by first | assumption | rfl) ⟨by omega, by decide⟩ ?_
        rw [hl1]
        refine ev_cV1 dX3_fulfil_31 ceX5_darkestPage kX3_30 (rm_le rfl rfl) (Nat.le_of_ble_eq_true rfl) (Nat.le_of_ble_eq_true rfl) (e_darkestPage hq0 p1 p3) (by first | assumption | rfl) ?_
        rw [hd]
        refine ev_goto 38 dX3_fulfil_34 (by decide) ?_
        refine ev_istore dX3_fulfil_38 (by decide) rfl ?_
        refine ev_iload dX3_fulfil_40 rfl ?_
        refine ev_iconst (v := (-1)) dX3_fulfil_42 (by decide) ?_
        refine ev_icmp_eq 69 dX3_fulfil_43 (by decide) (fun hc43 => False.elim (nI_m1 (by omega) hc43)) (fun hc43 => ?_)
        refine ev_aload_n dX3_fulfil_46 rfl ?_
        refine ev_aload_n dX3_fulfil_47 rfl ?_
        refine ev_getR dX3_fulfil_48 fX3_9 (by first | assumption | rfl) (by rfl) ?_
        refine ev_iload dX3_fulfil_51 rfl ?_
        refine ev_ialdE _ dX3_fulfil_53 (rfl) (by first | assumption | rfl) ⟨by omega, by decide⟩ ?_
        refine ev_iload dX3_fulfil_54 rfl ?_
        rw [hr1]
        refine ev_cV2v dX3_fulfil_56 ceX5_readPage kX3_36 (rm_le rfl rfl) (Nat.le_of_ble_eq_true rfl) (Nat.le_of_ble_eq_true rfl) (eC) (by first | assumption | rfl) ?_
        refine ev_iload_n dX3_fulfil_59 rfl ?_
        refine ev_aload_n dX3_fulfil_60 rfl ?_
        refine ev_getR dX3_fulfil_61 fX3_18 (by first | assumption | rfl) (by rfl) ?_
        refine ev_iload dX3_fulfil_64 rfl ?_
        refine ev_ialdE _ dX3_fulfil_66 (rfl) (by first | assumption | rfl) ⟨by omega, by decide⟩ ?_
        rw [w1]
        refine ev_iadd dX3_fulfil_67 ?_
        refine ev_istore_k 3 dX3_fulfil_68 rfl (by decide) rfl ?_
        refine ev_iinc (v := (nI 1)) dX3_fulfil_69 rfl (by decide) (by decide) rfl ?_
        refine ev_goto 5 dX3_fulfil_72 (by decide) ?_
        exact ev_stw hE (by simp [rf_sub, nI_add]) rfl rfl
      · refine ev_iload dX7_grantAll_5 rfl ?_
        refine ev_aload_n dX7_grantAll_7 rfl ?_
        refine ev_getI dX7_grantAll_8 fX7_131 (by first | assumption | rfl) (by rfl) ?_
        refine ev_icmp_ge 76 dX7_grantAll_11 (by decide) (fun hc11 => False.elim (lp_s g17 (by omega) hi hc11)) (fun hc11 => ?_)
        refine ev_iload_n dX7_grantAll_14 rfl ?_
        refine ev_iload dX7_grantAll_15 rfl ?_
        refine ev_cS2 dX7_grantAll_17 ceX7_has kX7_220 (rm_le rfl rfl) (Nat.le_of_ble_eq_true rfl) (Nat.le_of_ble_eq_true rfl) (e7_hasN hS (by omega)) ?_
        refine ev_if_eq 38 dX7_grantAll_20 (by decide) (fun hc20 => False.elim (by rw [b2i_0, hh] at hc20; cases hc20)) (fun hc20 => ?_)
        refine ev_aload_n dX7_grantAll_23 rfl ?_
        refine ev_iload_n dX7_grantAll_24 rfl ?_
        refine ev_aload_n dX7_grantAll_25 rfl ?_
        refine ev_getR dX7_grantAll_26 fX7_45 (by first | assumption | rfl) (by rfl) ?_
        refine ev_iload dX7_grantAll_29 rfl ?_
        refine ev_ialdE _ dX7_grantAll_31 (by first | with_reducible rfl | with_reducible exact nI_add _ _ | with_reducible exact ix3 _ _ _ | with_reducible exact ix_k _ _ _ | with_reducible exact ix_xk _ _ _ _) (by first | assumption | rfl) ⟨by omega, by decide⟩ ?_
        rw [u2]
        refine ev_cV2 dX7_grantAll_32 ceX7_palest kX7_223 (rm_le rfl rfl) (Nat.le_of_ble_eq_true rfl) (Nat.le_of_ble_eq_true rfl) (e7_palest hx p2 p3) (by first | assumption | rfl) ?_
        rw [dk]
        refine ev_goto 39 dX7_grantAll_35 (by decide) ?_
        refine ev_istore dX7_grantAll_39 (by decide) rfl ?_
        refine ev_iload dX7_grantAll_41 rfl ?_
        refine ev_if_lt 70 dX7_grantAll_43 (by decide) (fun hc43 => False.elim (nI_pos (by omega) hc43)) (fun hc43 => ?_)
        refine ev_aload_n dX7_grantAll_46 rfl ?_
        refine ev_iload_n dX7_grantAll_47 rfl ?_
        refine ev_aload_n dX7_grantAll_48 rfl ?_
        refine ev_getR dX7_grantAll_49 fX7_42 (by first | assumption | rfl) (by rfl) ?_
        refine ev_iload dX7_grantAll_52 rfl ?_
        refine ev_ialdE _ dX7_grantAll_54 (by first | with_reducible rfl | with_reducible exact nI_add _ _ | with_reducible exact ix3 _ _ _ | with_reducible exact ix_k _ _ _ | with_reducible exact ix_xk _ _ _ _) (by first | assumption | rfl) ⟨by omega, by decide⟩ ?_
        refine ev_iload dX7_grantAll_55 rfl ?_
        rw [u1]
        refine ev_cV3v dX7_grantAll_57 ceX7_readPage kX7_188 (rm_le rfl rfl) (Nat.le_of_ble_eq_true rfl) (Nat.le_of_ble_eq_true rfl) (eG) (by first | assumption | rfl) ?_
        refine ev_iload_n dX7_grantAll_60 rfl ?_
        refine ev_aload_n dX7_grantAll_61 rfl ?_
        refine ev_getR dX7_grantAll_62 fX7_48 (by first | assumption | rfl) (by rfl) ?_
        refine ev_iload dX7_grantAll_65 rfl ?_
        refine ev_ialdE _ dX7_grantAll_67 (by first | with_reducible rfl | with_reducible exact nI_add _ _ | with_reducible exact ix3 _ _ _ | with_reducible exact ix_k _ _ _ | with_reducible exact ix_xk _ _ _ _) (by first | assumption | rfl) ⟨by omega, by decide⟩ ?_
        rw [w2]
        refine ev_iadd dX7_grantAll_68 ?_
        refine ev_istore_k 3 dX7_grantAll_69 rfl (by decide) rfl ?_
        refine ev_iinc (v := (nI 1)) dX7_grantAll_70 rfl (by decide) (by decide) rfl ?_
        refine ev_goto 5 dX7_grantAll_73 (by decide) ?_
        exact ev_stw hE (by simp [rf_sub, nI_add]) rfl rfl
set_option maxRecDepth 20000 in
set_option maxHeartbeats 2000000 in
theorem sim_grants {w : Bool} {q x n d nl nr nq S : Nat} {tm : Nat → Nat} (hq : st_ok q) (hx : x ≤ 4500) (hS : S < 2 ^ 31) : ∀ (m i : Nat) (had : Int32) (C G : rf_Mem), nq - i = m → i ≤ nq → Sim w q x n d nl nr tm C G → Rq nq nl nr C G → ∃ C' G' had', Ev LayC mX3_fulfil 5 [some (.ref 14), some (.int (nI S)), some (.ref q), some (.int had), some (.int (nI (i))), none] [] C (some (.int had')) C' ∧ Ev LayM mX7_grantAll 5 [some (.ref 0), some (.int (nI x)), some (.int (nI S)), some (.int had), some (.int (nI (i))), none] [] G (some (.int had')) G' ∧ Sim w q x n d nl nr tm C' G' ∧ Rq nq nl nr C' G' ∧ FrC q C C' ∧ FrG x G G' := by
  intro m
  induction m with
  | zero =>
    intro i had C G hm hi h hR
    have e : i = nq := by omega
    subst e
    obtain ⟨c14, g17, hnq, -⟩ := id hR
    refine ⟨C, G, had, ?_, ?_, h, hR, FrC.rf q C, FrG.rf x G⟩
    · refine ev_iload dX3_fulfil_5 rfl ?_
      refine ev_aload_n dX3_fulfil_7 rfl ?_
      refine ev_getI dX3_fulfil_8 fX3_21 (by first | assumption | rfl) (by rfl) ?_
      refine ev_icmp_ge 75 dX3_fulfil_11 (by decide) (fun hc11 => ?_) (fun hc11 => False.elim (lp_x c14 (by omega) hc11))
      refine ev_iload_n dX3_fulfil_75 rfl ?_
      exact ev_iretE dX3_fulfil_76 rfl rfl (by first | rfl | simp_all) (rfl)
    · refine ev_iload dX7_grantAll_5 rfl ?_
      refine ev_aload_n dX7_grantAll_7 rfl ?_
      refine ev_getI dX7_grantAll_8 fX7_131 (by first | assumption | rfl) (by rfl) ?_
      refine ev_icmp_ge 76 dX7_grantAll_11 (by decide) (fun hc11 => ?_) (fun hc11 => False.elim (lp_x g17 (by omega) hc11))
      refine ev_iload_n dX7_grantAll_76 rfl ?_
      exact ev_iretE dX7_grantAll_77 rfl rfl (by first | rfl | simp_all) (rfl)
  | succ m ih =>
    intro i had C G hm hi h hR
    obtain ⟨C1, G1, h1, u1, u2, s1, r1, f1, f2⟩ := sim_ask had hq hx hS (show i < nq by omega) h hR
    obtain ⟨C2, G2, h2, u3, u4, s2, r2, f3, f4⟩ := ih (i + 1) h1 C1 G1 (by omega) (by omega) s1 r1
    exact ⟨C2, G2, h2, u1 _ _ u3, u2 _ _ u4, s2, r2, f1.tr f3, f2.tr f4⟩
set_option maxRecDepth 20000 in
set_option maxHeartbeats 2000000 in
theorem sim_grant {w : Bool} {q x n d nl nr nq S : Nat} {tm : Nat → Nat} {C G : rf_Mem} (hq : st_ok q) (hx : x ≤ 4500) (hS : S < 2 ^ 31) (h : Sim w q x n d nl nr tm C G) (hR : Rq nq nl nr C G) : ∃ C' G' had, Ev LayC mX3_fulfil 0 (rf_ent 6 [.ref 14, .int (nI S), .ref q]) [] C (some (.int had)) C' ∧ Ev LayM mX7_grantAll 0 (rf_ent 6 [.ref 0, .int (nI x), .int (nI S)]) [] G (some (.int had)) G' ∧ Sim w q x n d nl nr tm C' G' ∧ Rq nq nl nr C' G' ∧ FrC q C C' ∧ FrG x G G' := by
  obtain ⟨C2, G2, h2, u1, u2, s2, r2, f1, f2⟩ := sim_grants hq hx hS nq 0 (nI 0) C G (by omega) (Nat.zero_le _) h hR
  refine ⟨C2, G2, h2, ?_, ?_, s2, r2, f1, f2⟩
  · refine ev_iconst (v := (nI 0)) dX3_fulfil_0 (by decide) ?_
    refine ev_istore_k 3 dX3_fulfil_1 rfl (by decide) rfl ?_
    refine ev_iconst (v := (nI 0)) dX3_fulfil_2 (by decide) ?_
    refine ev_istore dX3_fulfil_3 (by decide) rfl ?_
    exact ev_stw u1 ⟨rfl, rfl, rfl, rfl, rfl, trivial⟩ rfl rfl
  · refine ev_iconst (v := (nI 0)) dX7_grantAll_0 (by decide) ?_
    refine ev_istore_k 3 dX7_grantAll_1 rfl (by decide) rfl ?_
    refine ev_iconst (v := (nI 0)) dX7_grantAll_2 (by decide) ?_
    refine ev_istore dX7_grantAll_3 (by decide) rfl ?_
    exact ev_stw u2 ⟨rfl, rfl, rfl, rfl, rfl, trivial⟩ rfl rfl
