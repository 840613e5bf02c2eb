/-! best: all lines, all sets -/
theorem Fq.tr {C0 C C' : rf_Mem} (h : Fq C0 C) (h2 : Fq C C') : Fq C0 C' := ⟨fun a x y => (h2.1 a x y).trans (h.1 a x y), h2.2⟩
def BsJ (C0 : rf_Mem) (n nr nq h : Nat) (b : Nat → Nat) (l : Nat) (C : rf_Mem) : Prop := Fq C0 C ∧ C 18 0 = nI (orB C0 b nq l) ∧ C 18 1 = nI (smL (fun l => flB C0 n nr nq h (b l) l) l) ∧ C 18 2 = kset (fun l => !kqB C0 n nr nq h (b l) l) l
set_option maxRecDepth 20000 in
set_option maxHeartbeats 2000000 in
theorem bs_all {n d nl nr nq h : Nat} {tm : Nat → Nat} {C0 G0 : rf_Mem} {b : Nat → Nat} {w : Int32} (hS : Sim true 21 0 n d nl nr tm C0 G0) (hQ : Rq nq nl nr C0 G0) (hh : h ≤ 200) (hb : ∀ l, l < nl → Bst (DW C0 nq l) (fun S => flB C0 n nr nq h (S) l) cN (b l)) : ∀ (m l : Nat) (C : rf_Mem), nl - l = m → l ≤ nl → BsJ C0 n nr nq h b l C → ∃ C', (∀ r M', Ev LayC mX6_best 32 [some (.ref 0), some (.int (nI h)), some (.int (w)), some (.int (nI (nl)))] [] C' r M' → Ev LayC mX6_best 32 [some (.ref 0), some (.int (nI h)), some (.int (w)), some (.int (nI (l)))] [] C r M') ∧ BsJ C0 n nr nq h b nl C' := by
  intro m
  induction m with
  | zero =>
    intro l C hm hl hJ
    have e : l = nl := by omega
    subst e
    exact ⟨C, fun _ _ hE => hE, hJ⟩
  | succ m ih =>
    intro l C hm hl hJ
    have hl2 : l < nl := by omega
    have l3 := hS.1.2.2.1
    obtain ⟨j1, j2, j3, j4⟩ := id hJ
    have hl4 : C 8 4 = nI nl := by rw [j1.1 8 (by decide) (by decide)]; exact hS.1.1
    obtain ⟨C1, eC, f1, x1, x2, x3⟩ := e_chooseFor hS hQ hh hl2 j1 (hb l hl2)
    have x9 : C1 18 2 = kset (fun l => !kqB C0 n nr nq h (b l) l) (l + 1) := by
      rw [x3, j4, kset]
      cases kqB C0 n nr nq h (b l) l with
      | true =>
        rw [if_pos rfl, nI_0, Int32.or_zero]
        rfl
      | false => rfl
    obtain ⟨C2, u, hJ2⟩ := ih (l + 1) C1 (by omega) (by omega) ⟨j1.tr f1, by rw [x1, j2, fa_or, orB_s (hb l hl2).1.2], by rw [x2, j3, nI_add]; rfl, x9⟩
    refine ⟨C2, fun r M' hE => ?_, hJ2⟩
    have hE2 := u _ _ hE
    refine ev_iload_n dX6_best_32 rfl ?_
    refine ev_aload_n dX6_best_33 rfl ?_
    refine ev_getR dX6_best_34 fX6_23 (by first | assumption | rfl) (by rfl) ?_
    refine ev_getI dX6_best_37 fX6_94 (by first | assumption | rfl) (by rfl) ?_
    refine ev_icmp_ge 55 dX6_best_40 (by decide) (fun hc40 => False.elim (lp_s hl4 (by omega) hl2 hc40)) (fun hc40 => ?_)
    refine ev_aload_n dX6_best_43 rfl ?_
    refine ev_iload_n dX6_best_44 rfl ?_
    refine ev_iload_n dX6_best_45 rfl ?_
    refine ev_cV2v dX6_best_46 ceX6_chooseFor kX6_237 (rm_le rfl rfl) (Nat.le_of_ble_eq_true rfl) (Nat.le_of_ble_eq_true rfl) (eC) (by first | assumption | rfl) ?_
    refine ev_iinc (v := (nI 1)) dX6_best_49 rfl (by decide) (by decide) rfl ?_
    refine ev_goto 32 dX6_best_52 (by decide) ?_
    exact ev_st hE2 (by simp [nI_add]) rfl rfl
def RbS (C0 : rf_Mem) (n nl nr nq h s : Nat) (bs bm bk : Int32) : Prop := (s = 0 ∧ bs = -1) ∨ ∃ b, Bst (fun S => S < s ∧ True) (FB C0 n nl nr nq h) cN b ∧ bs = nI b ∧ bm = nI (FB C0 n nl nr nq h (b)) ∧ bk = kset (fun l => !kqB C0 n nr nq h (b) l) nl
set_option maxRecDepth 20000 in
set_option maxHeartbeats 2000000 in
theorem rb_one {n d nl nr nq kt h : Nat} {tm : Nat → Nat} {C0 G0 : rf_Mem} {w : Int32} (hS : Sim true 21 0 n d nl nr tm C0 G0) (hQ : Rq nq nl nr C0 G0) (hkt : C0 41 3 = nI kt) (hk3 : kt ≤ 300) (hh : h ≤ 200) {s : Nat} {bs bm bk : Int32} {G : rf_Mem} (hs : s < 2 ^ nq) (hG : FsG G0 G) (hst : RbS C0 n nl nr nq h s bs bm bk) : ∃ G' bs' bm' bk', (∀ r M', Ev LayM mX7_best 38 [some (.ref 0), some (.int (nI h)), some (.int (w)), some (.int (bs')), some (.int (bm')), some (.int (bk')), some (.int (nI (s + 1))), none] [] G' r M' → Ev LayM mX7_best 38 [some (.ref 0), some (.int (nI h)), some (.int (w)), some (.int (bs)), some (.int (bm)), some (.int (bk)), some (.int (nI (s))), none] [] G r M') ∧ FsG G0 G' ∧ RbS C0 n nl nr nq h (s + 1) bs' bm' bk' := by
  have hL := hS.1
  have l3 := hL.2.2.1
  have hnq := hQ.2.2.1
  have h2 : 2 ^ nq ≤ 2 ^ 10 := Nat.pow_le_pow_right (by decide) hnq
  have h3 : 2 ^ 10 = 1024 := rfl
  have hwq : ∀ j, j < nq → rwB C0 j ≤ 99 := fun j hj => by
    obtain ⟨-, -, -, -, -, v, a1, a2⟩ := hQ.2.2.2 j hj
    rw [rwB, a2, nI_clamp (by omega)]; exact a1
  have hwv : ∀ l, l < nl → wvB C0 l ≤ 99 := fun l hl => by
    obtain ⟨-, v, a2, a3⟩ := hL.2.2.2.2.2.2.2.1 l hl
    rw [wvB, a3, nI_clamp (by omega)]; exact a2
  have hf : ∀ S, FB C0 n nl nr nq h (S) ≤ 17424 := fun S => by
    have := smL_le (f := flB C0 n nr nq h S) (c := 1089) (n := nl) (fun l hl => fl_le hwq hnq (hwv l hl))
    have e : nl * 1089 ≤ 16 * 1089 := Nat.mul_le_mul_right _ l3
    unfold FB
    omega
  have gq : G 0 17 = nI nq := by rw [hG.2.1 17 (by decide)]; exact hQ.2.1
  have hs1 : s < 1024 := by omega
  have y1 := hf s
  have x1 := cN_le s
  have on1 := on_c hs1
  obtain ⟨G2, eG, w21, hG2⟩ := sim_sumBy (S := s) hS hQ hkt hk3 hG (by omega) hh
  rcases hst with ⟨z1, z2⟩ | ⟨b, hB, e1, e2, e3⟩
  · refine ⟨G2, nI s, nI (FB C0 n nl nr nq h (s)), kset (fun l => !kqB C0 n nr nq h (s) l) nl, fun r M' hE => ?_, hG2, Or.inr ⟨s, ?_, rfl, rfl, rfl⟩⟩
    · refine ev_iload dX7_best_38 rfl ?_
      refine ev_iconst (v := (nI 1)) dX7_best_40 (by decide) ?_
      refine ev_aload_n dX7_best_41 rfl ?_
      refine ev_getI dX7_best_42 fX7_131 (by first | assumption | rfl) (by rfl) ?_
      rw [gq]
      refine ev_ishl dX7_best_45 ?_
      rw [sh_1 (by omega)]
      refine ev_icmp_ge 107 dX7_best_46 (by decide) (fun hc46 => False.elim (nI_ge hs (by omega) hc46)) (fun hc46 => ?_)
      refine ev_aload_n dX7_best_49 rfl ?_
      refine ev_iload dX7_best_50 rfl ?_
      refine ev_iload_n dX7_best_52 rfl ?_
      refine ev_cV2 dX7_best_53 ceX7_sumBy kX7_235 (rm_le rfl rfl) (Nat.le_of_ble_eq_true rfl) (Nat.le_of_ble_eq_true rfl) (eG) (by first | assumption | rfl) ?_
      refine ev_istore dX7_best_56 (by decide) rfl ?_
      refine ev_iload_n dX7_best_58 rfl ?_
      refine ev_if_lt 88 dX7_best_59 (by decide) (fun hc59 => ?_) (fun hc59 => False.elim (hc59 (by rw [z2]; decide)))
      refine ev_iload dX7_best_88 rfl ?_
      refine ev_istore_k 3 dX7_best_90 rfl (by decide) rfl ?_
      refine ev_iload dX7_best_91 rfl ?_
      refine ev_istore dX7_best_93 (by decide) rfl ?_
      refine ev_aload_n dX7_best_95 rfl ?_
      refine ev_getI dX7_best_96 fX7_232 (by first | assumption | rfl) (by rfl) ?_
      rw [w21]
      refine ev_istore dX7_best_99 (by decide) rfl ?_
      refine ev_iinc (v := (nI 1)) dX7_best_101 rfl (by decide) (by decide) rfl ?_
      refine ev_goto 38 dX7_best_104 (by decide) ?_
      exact ev_stw hE (by simp [rf_sub, nI_add]) rfl rfl
    · subst z1
      exact Bst.first trivial
  · subst e1 e2 e3
    have hb1 : b < 1024 := by have : b < s := hB.1.1; omega
    have x2 := cN_le b
    have y2 := hf b
    have on2 := on_c hb1
    rcases Nat.lt_trichotomy (FB C0 n nl nr nq h (b)) (FB C0 n nl nr nq h (s)) with g | g | g
    · refine ⟨G2, nI s, nI (FB C0 n nl nr nq h (s)), kset (fun l => !kqB C0 n nr nq h (s) l) nl, fun r M' hE => ?_, hG2, Or.inr ⟨s, hB.new trivial (Or.inl g), rfl, rfl, rfl⟩⟩
      refine ev_iload dX7_best_38 rfl ?_
      refine ev_iconst (v := (nI 1)) dX7_best_40 (by decide) ?_
      refine ev_aload_n dX7_best_41 rfl ?_
      refine ev_getI dX7_best_42 fX7_131 (by first | assumption | rfl) (by rfl) ?_
      rw [gq]
      refine ev_ishl dX7_best_45 ?_
      rw [sh_1 (by omega)]
      refine ev_icmp_ge 107 dX7_best_46 (by decide) (fun hc46 => False.elim (nI_ge hs (by omega) hc46)) (fun hc46 => ?_)
      refine ev_aload_n dX7_best_49 rfl ?_
      refine ev_iload dX7_best_50 rfl ?_
      refine ev_iload_n dX7_best_52 rfl ?_
      refine ev_cV2 dX7_best_53 ceX7_sumBy kX7_235 (rm_le rfl rfl) (Nat.le_of_ble_eq_true rfl) (Nat.le_of_ble_eq_true rfl) (eG) (by first | assumption | rfl) ?_
      refine ev_istore dX7_best_56 (by decide) rfl ?_
      refine ev_iload_n dX7_best_58 rfl ?_
      refine ev_if_lt 88 dX7_best_59 (by decide) (fun hc59 => False.elim (nI_pos (by omega) hc59)) (fun hc59 => ?_)
      refine ev_iload dX7_best_62 rfl ?_
      refine ev_iload dX7_best_64 rfl ?_
      refine ev_icmp_gt 88 dX7_best_66 (by decide) (fun hc66 => ?_) (fun hc66 => False.elim (hc66 (nI_lt g (by omega))))
      refine ev_iload dX7_best_88 rfl ?_
      refine ev_istore_k 3 dX7_best_90 rfl (by decide) rfl ?_
      refine ev_iload dX7_best_91 rfl ?_
      refine ev_istore dX7_best_93 (by decide) rfl ?_
      refine ev_aload_n dX7_best_95 rfl ?_
      refine ev_getI dX7_best_96 fX7_232 (by first | assumption | rfl) (by rfl) ?_
      rw [w21]
      refine ev_istore dX7_best_99 (by decide) rfl ?_
      refine ev_iinc (v := (nI 1)) dX7_best_101 rfl (by decide) (by decide) rfl ?_
      refine ev_goto 38 dX7_best_104 (by decide) ?_
      exact ev_stw hE (by simp [rf_sub, nI_add]) rfl rfl
    · by_cases g2 : cN s < cN b
      · refine ⟨G2, nI s, nI (FB C0 n nl nr nq h (s)), kset (fun l => !kqB C0 n nr nq h (s) l) nl, fun r M' hE => ?_, hG2, Or.inr ⟨s, hB.new trivial (Or.inr ⟨g.symm, g2⟩), rfl, rfl, rfl⟩⟩
        refine ev_iload dX7_best_38 rfl ?_
        refine ev_iconst (v := (nI 1)) dX7_best_40 (by decide) ?_
        refine ev_aload_n dX7_best_41 rfl ?_
        refine ev_getI dX7_best_42 fX7_131 (by first | assumption | rfl) (by rfl) ?_
        rw [gq]
        refine ev_ishl dX7_best_45 ?_
        rw [sh_1 (by omega)]
        refine ev_icmp_ge 107 dX7_best_46 (by decide) (fun hc46 => False.elim (nI_ge hs (by omega) hc46)) (fun hc46 => ?_)
        refine ev_aload_n dX7_best_49 rfl ?_
        refine ev_iload dX7_best_50 rfl ?_
        refine ev_iload_n dX7_best_52 rfl ?_
        refine ev_cV2 dX7_best_53 ceX7_sumBy kX7_235 (rm_le rfl rfl) (Nat.le_of_ble_eq_true rfl) (Nat.le_of_ble_eq_true rfl) (eG) (by first | assumption | rfl) ?_
        refine ev_istore dX7_best_56 (by decide) rfl ?_
        refine ev_iload_n dX7_best_58 rfl ?_
        refine ev_if_lt 88 dX7_best_59 (by decide) (fun hc59 => False.elim (nI_pos (by omega) hc59)) (fun hc59 => ?_)
        refine ev_iload dX7_best_62 rfl ?_
        refine ev_iload dX7_best_64 rfl ?_
        refine ev_icmp_gt 88 dX7_best_66 (by decide) (fun hc66 => False.elim (nI_nlt (Nat.le_of_eq g.symm) (by omega) hc66)) (fun hc66 => ?_)
        refine ev_iload dX7_best_69 rfl ?_
        refine ev_iload dX7_best_71 rfl ?_
        refine ev_icmp_ne 101 dX7_best_73 (by decide) (fun hc73 => False.elim (hc73 (by rw [g]))) (fun hc73 => ?_)
        refine ev_iload dX7_best_76 rfl ?_
        refine ev_cS1 dX7_best_78 ceX7_ones kX7_155 (rm_le rfl rfl) (Nat.le_of_ble_eq_true rfl) (Nat.le_of_ble_eq_true rfl) (e7_ones) ?_
        rw [on1]
        refine ev_iload_n dX7_best_81 rfl ?_
        refine ev_cS1 dX7_best_82 ceX7_ones kX7_155 (rm_le rfl rfl) (Nat.le_of_ble_eq_true rfl) (Nat.le_of_ble_eq_true rfl) (e7_ones) ?_
        rw [on2]
        refine ev_icmp_ge 101 dX7_best_85 (by decide) (fun hc85 => False.elim (nI_ge g2 (by omega) hc85)) (fun hc85 => ?_)
        refine ev_iload dX7_best_88 rfl ?_
        refine ev_istore_k 3 dX7_best_90 rfl (by decide) rfl ?_
        refine ev_iload dX7_best_91 rfl ?_
        refine ev_istore dX7_best_93 (by decide) rfl ?_
        refine ev_aload_n dX7_best_95 rfl ?_
        refine ev_getI dX7_best_96 fX7_232 (by first | assumption | rfl) (by rfl) ?_
        rw [w21]
        refine ev_istore dX7_best_99 (by decide) rfl ?_
        refine ev_iinc (v := (nI 1)) dX7_best_101 rfl (by decide) (by decide) rfl ?_
        refine ev_goto 38 dX7_best_104 (by decide) ?_
        exact ev_stw hE (by simp [rf_sub, nI_add]) rfl rfl
      · refine ⟨G2, _, _, _, fun r M' hE => ?_, hG2, Or.inr ⟨b, hB.keep (fun z => by rcases z with z | z; exact absurd z (by omega); exact g2 z.2), rfl, rfl, rfl⟩⟩
        refine ev_iload dX7_best_38 rfl ?_
        refine ev_iconst (v := (nI 1)) dX7_best_40 (by decide) ?_
        refine ev_aload_n dX7_best_41 rfl ?_
        refine ev_getI dX7_best_42 fX7_131 (by first | assumption | rfl) (by rfl) ?_
        rw [gq]
        refine ev_ishl dX7_best_45 ?_
        rw [sh_1 (by omega)]
        refine ev_icmp_ge 107 dX7_best_46 (by decide) (fun hc46 => False.elim (nI_ge hs (by omega) hc46)) (fun hc46 => ?_)
        refine ev_aload_n dX7_best_49 rfl ?_
        refine ev_iload dX7_best_50 rfl ?_
        refine ev_iload_n dX7_best_52 rfl ?_
        refine ev_cV2 dX7_best_53 ceX7_sumBy kX7_235 (rm_le rfl rfl) (Nat.le_of_ble_eq_true rfl) (Nat.le_of_ble_eq_true rfl) (eG) (by first | assumption | rfl) ?_
        refine ev_istore dX7_best_56 (by decide) rfl ?_
        refine ev_iload_n dX7_best_58 rfl ?_
        refine ev_if_lt 88 dX7_best_59 (by decide) (fun hc59 => False.elim (nI_pos (by omega) hc59)) (fun hc59 => ?_)
        refine ev_iload dX7_best_62 rfl ?_
        refine ev_iload dX7_best_64 rfl ?_
        refine ev_icmp_gt 88 dX7_best_66 (by decide) (fun hc66 => False.elim (nI_nlt (Nat.le_of_eq g.symm) (by omega) hc66)) (fun hc66 => ?_)
        refine ev_iload dX7_best_69 rfl ?_
        refine ev_iload dX7_best_71 rfl ?_
        refine ev_icmp_ne 101 dX7_best_73 (by decide) (fun hc73 => False.elim (hc73 (by rw [g]))) (fun hc73 => ?_)
        refine ev_iload dX7_best_76 rfl ?_
        refine ev_cS1 dX7_best_78 ceX7_ones kX7_155 (rm_le rfl rfl) (Nat.le_of_ble_eq_true rfl) (Nat.le_of_ble_eq_true rfl) (e7_ones) ?_
        rw [on1]
        refine ev_iload_n dX7_best_81 rfl ?_
        refine ev_cS1 dX7_best_82 ceX7_ones kX7_155 (rm_le rfl rfl) (Nat.le_of_ble_eq_true rfl) (Nat.le_of_ble_eq_true rfl) (e7_ones) ?_
        rw [on2]
        refine ev_icmp_ge 101 dX7_best_85 (by decide) (fun hc85 => ?_) (fun hc85 => False.elim (hc85 (nI_le (Nat.le_of_not_lt g2) (by omega))))
        refine ev_iinc (v := (nI 1)) dX7_best_101 rfl (by decide) (by decide) rfl ?_
        refine ev_goto 38 dX7_best_104 (by decide) ?_
        exact ev_stw hE (by simp [rf_sub, nI_add]) rfl rfl
    · refine ⟨G2, _, _, _, fun r M' hE => ?_, hG2, Or.inr ⟨b, hB.keep (fun z => by rcases z with z | z; exact absurd z (Nat.not_lt.mpr (Nat.le_of_lt g)); exact absurd z.1 (Nat.ne_of_lt g)), rfl, rfl, rfl⟩⟩
      refine ev_iload dX7_best_38 rfl ?_
      refine ev_iconst (v := (nI 1)) dX7_best_40 (by decide) ?_
      refine ev_aload_n dX7_best_41 rfl ?_
      refine ev_getI dX7_best_42 fX7_131 (by first | assumption | rfl) (by rfl) ?_
      rw [gq]
      refine ev_ishl dX7_best_45 ?_
      rw [sh_1 (by omega)]
      refine ev_icmp_ge 107 dX7_best_46 (by decide) (fun hc46 => False.elim (nI_ge hs (by omega) hc46)) (fun hc46 => ?_)
      refine ev_aload_n dX7_best_49 rfl ?_
      refine ev_iload dX7_best_50 rfl ?_
      refine ev_iload_n dX7_best_52 rfl ?_
      refine ev_cV2 dX7_best_53 ceX7_sumBy kX7_235 (rm_le rfl rfl) (Nat.le_of_ble_eq_true rfl) (Nat.le_of_ble_eq_true rfl) (eG) (by first | assumption | rfl) ?_
      refine ev_istore dX7_best_56 (by decide) rfl ?_
      refine ev_iload_n dX7_best_58 rfl ?_
      refine ev_if_lt 88 dX7_best_59 (by decide) (fun hc59 => False.elim (nI_pos (by omega) hc59)) (fun hc59 => ?_)
      refine ev_iload dX7_best_62 rfl ?_
      refine ev_iload dX7_best_64 rfl ?_
      refine ev_icmp_gt 88 dX7_best_66 (by decide) (fun hc66 => False.elim (nI_nlt (Nat.le_of_lt g) (by omega) hc66)) (fun hc66 => ?_)
      refine ev_iload dX7_best_69 rfl ?_
      refine ev_iload dX7_best_71 rfl ?_
      refine ev_icmp_ne 101 dX7_best_73 (by decide) (fun hc73 => ?_) (fun hc73 => False.elim (absurd ((nI_eq (by omega) (by omega)).mp hc73) (Nat.ne_of_lt g)))
      refine ev_iinc (v := (nI 1)) dX7_best_101 rfl (by decide) (by decide) rfl ?_
      refine ev_goto 38 dX7_best_104 (by decide) ?_
      exact ev_stw hE (by simp [rf_sub, nI_add]) rfl rfl
set_option maxRecDepth 20000 in
set_option maxHeartbeats 2000000 in
theorem rb_all {n d nl nr nq kt h : Nat} {tm : Nat → Nat} {C0 G0 : rf_Mem} {w : Int32} (hS : Sim true 21 0 n d nl nr tm C0 G0) (hQ : Rq nq nl nr C0 G0) (hkt : C0 41 3 = nI kt) (hk3 : kt ≤ 300) (hh : h ≤ 200) : ∀ (m s : Nat) (bs bm bk : Int32) (G : rf_Mem), 2 ^ nq - s = m → s ≤ 2 ^ nq → FsG G0 G → RbS C0 n nl nr nq h s bs bm bk → ∃ G' bs' bm' bk', (∀ r M', Ev LayM mX7_best 38 [some (.ref 0), some (.int (nI h)), some (.int (w)), some (.int (bs')), some (.int (bm')), some (.int (bk')), some (.int (nI (2 ^ nq))), none] [] G' r M' → Ev LayM mX7_best 38 [some (.ref 0), some (.int (nI h)), some (.int (w)), some (.int (bs)), some (.int (bm)), some (.int (bk)), some (.int (nI (s))), none] [] G r M') ∧ FsG G0 G' ∧ RbS C0 n nl nr nq h (2 ^ nq) bs' bm' bk' := by
  intro m
  induction m with
  | zero =>
    intro s bs bm bk G hm hs hF hst
    have e : s = 2 ^ nq := by omega
    subst e
    exact ⟨G, bs, bm, bk, fun _ _ hE => hE, hF, hst⟩
  | succ m ih =>
    intro s bs bm bk G hm hs hF hst
    obtain ⟨G1, bs1, bm1, bk1, u1, hF1, hst1⟩ := rb_one (w := w) hS hQ hkt hk3 hh (by omega) hF hst
    obtain ⟨G2, bs2, bm2, bk2, u2, hF2, hst2⟩ := ih (s + 1) bs1 bm1 bk1 G1 (by omega) (by omega) hF1 hst1
    exact ⟨G2, bs2, bm2, bk2, fun r M' hE => u1 _ _ (u2 _ _ hE), hF2, hst2⟩
set_option maxRecDepth 20000 in
set_option maxHeartbeats 2000000 in
theorem op_best {h0 w : Int32} : OpOk mX6_best mX7_best [.int h0, .int w] := by
  intro C G hR
  have hR0 := hR
  obtain ⟨nl, nr, tm, n, d, nq, tl, nd, b0, b1, kt, hp⟩ := hR
  obtain ⟨hS, hE, hQ, hT, hDr, hI, hkt, hkt3⟩ := id hp
  have hL := hS.1
  obtain ⟨l1, m1, l3, r1, m2, l6, le, lw, lr⟩ := id hL
  obtain ⟨hP, ⟨d1, d2, d3⟩, ⟨s1, s2⟩, hH⟩ := id hS.2.1
  obtain ⟨p1, p2, p3, p4, p5⟩ := id hP
  rw [Nat.zero_add] at p2 d2 s1
  obtain ⟨-, -, k, k', q1, q2, q3, q4, q5⟩ := id hS
  obtain ⟨ke, kl⟩ := q5 rfl
  subst ke
  obtain ⟨-, -, -, kl4⟩ := id kl
  rw [Nat.zero_add] at q3
  rcases rg0 h0 (m := 200) (by decide) with ⟨h, hh, e1, c1, c2, k1⟩ | ⟨k1, c1 | ⟨c1, c2⟩⟩
  · subst e1
    rcases rg0 w (m := 2) (by decide) with ⟨v, hv, e2, c3, c4, k2⟩ | ⟨k2, c3 | ⟨c3, c4⟩⟩
    · have hnq := hQ.2.2.1
      have hrl : ∀ i, i < nq → rlB C i < nl := fun i hi => by
        obtain ⟨-, -, -, -, ⟨v, a1, a2⟩, -⟩ := hQ.2.2.2 i hi
        rw [rlB, a2, nI_clamp (by omega)]; exact a1
      have hex : ∀ l, ∃ b, Bst (DW C nq l) (fun S => flB C n nr nq h S l) cN b := fun l => Bst.ex (P := fun S => S &&& wnL (rlB C) nq l = S) (Nat.zero_and _) _
      obtain ⟨b, hb⟩ : ∃ b : Nat → Nat, ∀ l, Bst (DW C nq l) (fun S => flB C n nr nq h S l) cN (b l) := ⟨fun l => Classical.choose (hex l), fun l => Classical.choose_spec (hex l)⟩
      obtain ⟨hA, hA2⟩ := best_all (n := n) (nr := nr) (h := h) hrl hnq (fun l _ => hb l)
      have hz : BsJ C n nr nq h b 0 (rf_set (rf_set (rf_set C 18 0 (nI 0)) 18 1 (nI 0)) 18 2 (nI 0)) := by
        refine ⟨⟨fun a ha _ => by rw [gs_q _ _ _ ha, gs_q _ _ _ ha, gs_q _ _ _ ha], by rw [gs_q _ _ _ (by decide), gs_q _ _ _ (by decide), gs_q _ _ _ (by decide)]; exact ⟨kt, hkt, hkt3⟩⟩, ?_, ?_, ?_⟩
        · rw [gs_k _ _ _ (by decide), gs_k _ _ _ (by decide), gs_same, orB_0]
        · rw [gs_k _ _ _ (by decide), gs_same]; rfl
        · rw [gs_same]; rfl
      obtain ⟨C2, u1, ⟨fq, j1, j2, j3⟩⟩ := bs_all (w := w) hS hQ hh (fun l _ => hb l) nl 0 _ (by omega) (Nat.zero_le _) hz
      obtain ⟨G2, bs, bm, bk, u2, fG, hst⟩ := rb_all (w := w) hS hQ hkt hkt3 hh (2 ^ nq) 0 (-1) (nI 0) (nI 0) G (Nat.sub_zero _) (Nat.zero_le _) (FsG.rf G) (Or.inl ⟨rfl, rfl⟩)
      have hpp := Nat.two_pow_pos nq
      rcases hst with ⟨z1, -⟩ | ⟨b', hB', e3, e4, e5⟩
      · omega
      have e0 := Bst.one hB' hA
      rw [orB_n hrl, ← e0] at j1
      have j2 : C2 18 1 = nI (FB C n nl nr nq h b') := by rw [j2, e0]; exact congrArg nI (smL_cong (fun l hl => ((hA2 l hl).1).symm))
      have j3 : C2 18 2 = kset (fun l => !kqB C n nr nq h b' l) nl := by rw [j3, e0]; exact kset_cong (fun l hl => by rw [(hA2 l hl).2])
      subst e3 e4 e5
      have hRn : Rg C2 G2 := hp.trial (fun a x _ ha => fq.1 a x ha) fq.2 (fun a x y _ => fG.1 a x y) fG.2.1 fG.2.2
      have c8 : C2 8 4 = nI nl := by rw [fq.1 8 (by decide) (by decide)]; exact l1
      have gq : G2 0 17 = nI nq := by rw [fG.2.1 17 (by decide)]; exact hQ.2.1
      have h2 : 2 ^ nq ≤ 2 ^ 10 := Nat.pow_le_pow_right (by decide) hnq
      have h3 : 2 ^ 10 = 1024 := rfl
      have hv3 : v = 0 ∨ v = 1 ∨ v = 2 := by omega
      rcases hv3 with rfl | rfl | rfl
      · refine ⟨nI b', C2, G2, ?_, ?_, hRn⟩
        · refine ev_iload_n dX6_best_0 rfl ?_
          refine ev_if_lt 20 dX6_best_1 (by decide) (fun hc1 => False.elim (c1 hc1)) (fun hc1 => ?_)
          refine ev_iload_n dX6_best_4 rfl ?_
          refine ev_sipush (v := (nI 200)) dX6_best_5 (by decide) ?_
          refine ev_icmp_gt 20 dX6_best_8 (by decide) (fun hc8 => False.elim ((fa_of_lt hc8).2.1 c2)) (fun hc8 => ?_)
          refine ev_iload_n dX6_best_11 rfl ?_
          refine ev_if_lt 20 dX6_best_12 (by decide) (fun hc12 => False.elim (c3 hc12)) (fun hc12 => ?_)
          refine ev_iload_n dX6_best_15 rfl ?_
          refine ev_iconst (v := (nI 2)) dX6_best_16 (by decide) ?_
          refine ev_icmp_le 23 dX6_best_17 (by decide) (fun hc17 => ?_) (fun hc17 => False.elim (hc17 c4))
          refine ev_aload_n dX6_best_23 rfl ?_
          refine ev_getR dX6_best_24 fX6_56 (by first | assumption | rfl) (by rfl) ?_
          refine ev_cV0v dX6_best_27 ceX0_clear kX6_234 (rm_le rfl rfl) (Nat.le_of_ble_eq_true rfl) (Nat.le_of_ble_eq_true rfl) (e_chClear) (by first | assumption | rfl) ?_
          refine ev_iconst (v := (nI 0)) dX6_best_30 (by decide) ?_
          refine ev_istore_k 3 dX6_best_31 rfl (by decide) rfl ?_
          refine ev_stw (u1 _ _ ?_) ⟨rfl, rfl, rfl, rfl, trivial⟩ rfl rfl
          refine ev_iload_n dX6_best_32 rfl ?_
          refine ev_aload_n dX6_best_33 rfl ?_
          refine ev_getR dX6_best_34 fX6_23 (by first | assumption | rfl) (by rfl) ?_
          refine ev_getI dX6_best_37 fX6_94 (by first | assumption | rfl) (by rfl) ?_
          refine ev_icmp_ge 55 dX6_best_40 (by decide) (fun hc40 => ?_) (fun hc40 => False.elim (lp_x c8 (by omega) hc40))
          refine ev_iload_n dX6_best_55 rfl ?_
          rw [e2]
          refine ev_look 84 dX6_best_56 (by decide) rfl (by decide) ?_
          refine ev_aload_n dX6_best_84 rfl ?_
          refine ev_getR dX6_best_85 fX6_56 (by first | assumption | rfl) (by rfl) ?_
          refine ev_getI dX6_best_88 fX6_240 (by first | assumption | rfl) (by rfl) ?_
          exact ev_iretE dX6_best_91 rfl rfl (by rw [j1]) (rfl)
        · refine ev_iload_n dX7_best_0 rfl ?_
          refine ev_i2l dX7_best_1 ?_
          refine ev_lconst (v := 0) dX7_best_2 rfl ?_
          refine ev_ldc2 dX7_best_3 nX7_206 ?_
          refine ev_cS3 dX7_best_6 ceX7_in kX7_59 (rm_le rfl rfl) (Nat.le_of_ble_eq_true rfl) (Nat.le_of_ble_eq_true rfl) (e7_in) ?_
          rw [in_c _ 0 (nI 200) (by decide) (by decide), k1]
          refine ev_if_eq 24 dX7_best_9 (by decide) (fun hc9 => False.elim (absurd hc9 (by decide))) (fun hc9 => ?_)
          refine ev_iload_n dX7_best_12 rfl ?_
          refine ev_i2l dX7_best_13 ?_
          refine ev_lconst (v := 0) dX7_best_14 rfl ?_
          refine ev_ldc2 dX7_best_15 nX7_181 ?_
          refine ev_cS3 dX7_best_18 ceX7_in kX7_59 (rm_le rfl rfl) (Nat.le_of_ble_eq_true rfl) (Nat.le_of_ble_eq_true rfl) (e7_in) ?_
          rw [in_c _ 0 (nI 2) (by decide) (by decide), k2]
          refine ev_if_ne 27 dX7_best_21 (by decide) (fun hc21 => ?_) (fun hc21 => False.elim (absurd hc21 (by decide)))
          refine ev_iconst (v := (-1)) dX7_best_27 (by decide) ?_
          refine ev_istore_k 3 dX7_best_28 rfl (by decide) rfl ?_
          refine ev_iconst (v := (nI 0)) dX7_best_29 (by decide) ?_
          refine ev_istore dX7_best_30 (by decide) rfl ?_
          refine ev_iconst (v := (nI 0)) dX7_best_32 (by decide) ?_
          refine ev_istore dX7_best_33 (by decide) rfl ?_
          refine ev_iconst (v := (nI 0)) dX7_best_35 (by decide) ?_
          refine ev_istore dX7_best_36 (by decide) rfl ?_
          refine ev_stw (u2 _ _ ?_) ⟨rfl, rfl, rfl, rfl, rfl, rfl, rfl, trivial⟩ rfl rfl
          refine ev_iload dX7_best_38 rfl ?_
          refine ev_iconst (v := (nI 1)) dX7_best_40 (by decide) ?_
          refine ev_aload_n dX7_best_41 rfl ?_
          refine ev_getI dX7_best_42 fX7_131 (by first | assumption | rfl) (by rfl) ?_
          rw [gq]
          refine ev_ishl dX7_best_45 ?_
          rw [sh_1 (by omega)]
          refine ev_icmp_ge 107 dX7_best_46 (by decide) (fun hc46 => ?_) (fun hc46 => False.elim (hc46 (nI_le (Nat.le_refl _) (by omega))))
          refine ev_iload_n dX7_best_107 rfl ?_
          rw [e2]
          refine ev_if_ne 115 dX7_best_108 (by decide) (fun hc108 => False.elim (hc108 rfl)) (fun hc108 => ?_)
          refine ev_iload_n dX7_best_111 rfl ?_
          refine ev_goto 127 dX7_best_112 (by decide) ?_
          exact ev_iretE dX7_best_127 rfl rfl (rfl) (rfl)
      · refine ⟨nI (FB C n nl nr nq h b'), C2, G2, ?_, ?_, hRn⟩
        · refine ev_iload_n dX6_best_0 rfl ?_
          refine ev_if_lt 20 dX6_best_1 (by decide) (fun hc1 => False.elim (c1 hc1)) (fun hc1 => ?_)
          refine ev_iload_n dX6_best_4 rfl ?_
          refine ev_sipush (v := (nI 200)) dX6_best_5 (by decide) ?_
          refine ev_icmp_gt 20 dX6_best_8 (by decide) (fun hc8 => False.elim ((fa_of_lt hc8).2.1 c2)) (fun hc8 => ?_)
          refine ev_iload_n dX6_best_11 rfl ?_
          refine ev_if_lt 20 dX6_best_12 (by decide) (fun hc12 => False.elim (c3 hc12)) (fun hc12 => ?_)
          refine ev_iload_n dX6_best_15 rfl ?_
          refine ev_iconst (v := (nI 2)) dX6_best_16 (by decide) ?_
          refine ev_icmp_le 23 dX6_best_17 (by decide) (fun hc17 => ?_) (fun hc17 => False.elim (hc17 c4))
          refine ev_aload_n dX6_best_23 rfl ?_
          refine ev_getR dX6_best_24 fX6_56 (by first | assumption | rfl) (by rfl) ?_
          refine ev_cV0v dX6_best_27 ceX0_clear kX6_234 (rm_le rfl rfl) (Nat.le_of_ble_eq_true rfl) (Nat.le_of_ble_eq_true rfl) (e_chClear) (by first | assumption | rfl) ?_
          refine ev_iconst (v := (nI 0)) dX6_best_30 (by decide) ?_
          refine ev_istore_k 3 dX6_best_31 rfl (by decide) rfl ?_
          refine ev_stw (u1 _ _ ?_) ⟨rfl, rfl, rfl, rfl, trivial⟩ rfl rfl
          refine ev_iload_n dX6_best_32 rfl ?_
          refine ev_aload_n dX6_best_33 rfl ?_
          refine ev_getR dX6_best_34 fX6_23 (by first | assumption | rfl) (by rfl) ?_
          refine ev_getI dX6_best_37 fX6_94 (by first | assumption | rfl) (by rfl) ?_
          refine ev_icmp_ge 55 dX6_best_40 (by decide) (fun hc40 => ?_) (fun hc40 => False.elim (lp_x c8 (by omega) hc40))
          refine ev_iload_n dX6_best_55 rfl ?_
          rw [e2]
          refine ev_look 92 dX6_best_56 (by decide) rfl (by decide) ?_
          refine ev_aload_n dX6_best_92 rfl ?_
          refine ev_getR dX6_best_93 fX6_56 (by first | assumption | rfl) (by rfl) ?_
          refine ev_getI dX6_best_96 fX6_243 (by first | assumption | rfl) (by rfl) ?_
          exact ev_iretE dX6_best_99 rfl rfl (by rw [j2]) (rfl)
        · refine ev_iload_n dX7_best_0 rfl ?_
          refine ev_i2l dX7_best_1 ?_
          refine ev_lconst (v := 0) dX7_best_2 rfl ?_
          refine ev_ldc2 dX7_best_3 nX7_206 ?_
          refine ev_cS3 dX7_best_6 ceX7_in kX7_59 (rm_le rfl rfl) (Nat.le_of_ble_eq_true rfl) (Nat.le_of_ble_eq_true rfl) (e7_in) ?_
          rw [in_c _ 0 (nI 200) (by decide) (by decide), k1]
          refine ev_if_eq 24 dX7_best_9 (by decide) (fun hc9 => False.elim (absurd hc9 (by decide))) (fun hc9 => ?_)
          refine ev_iload_n dX7_best_12 rfl ?_
          refine ev_i2l dX7_best_13 ?_
          refine ev_lconst (v := 0) dX7_best_14 rfl ?_
          refine ev_ldc2 dX7_best_15 nX7_181 ?_
          refine ev_cS3 dX7_best_18 ceX7_in kX7_59 (rm_le rfl rfl) (Nat.le_of_ble_eq_true rfl) (Nat.le_of_ble_eq_true rfl) (e7_in) ?_
          rw [in_c _ 0 (nI 2) (by decide) (by decide), k2]
          refine ev_if_ne 27 dX7_best_21 (by decide) (fun hc21 => ?_) (fun hc21 => False.elim (absurd hc21 (by decide)))
          refine ev_iconst (v := (-1)) dX7_best_27 (by decide) ?_
          refine ev_istore_k 3 dX7_best_28 rfl (by decide) rfl ?_
          refine ev_iconst (v := (nI 0)) dX7_best_29 (by decide) ?_
          refine ev_istore dX7_best_30 (by decide) rfl ?_
          refine ev_iconst (v := (nI 0)) dX7_best_32 (by decide) ?_
          refine ev_istore dX7_best_33 (by decide) rfl ?_
          refine ev_iconst (v := (nI 0)) dX7_best_35 (by decide) ?_
          refine ev_istore dX7_best_36 (by decide) rfl ?_
          refine ev_stw (u2 _ _ ?_) ⟨rfl, rfl, rfl, rfl, rfl, rfl, rfl, trivial⟩ rfl rfl
          refine ev_iload dX7_best_38 rfl ?_
          refine ev_iconst (v := (nI 1)) dX7_best_40 (by decide) ?_
          refine ev_aload_n dX7_best_41 rfl ?_
          refine ev_getI dX7_best_42 fX7_131 (by first | assumption | rfl) (by rfl) ?_
          rw [gq]
          refine ev_ishl dX7_best_45 ?_
          rw [sh_1 (by omega)]
          refine ev_icmp_ge 107 dX7_best_46 (by decide) (fun hc46 => ?_) (fun hc46 => False.elim (hc46 (nI_le (Nat.le_refl _) (by omega))))
          refine ev_iload_n dX7_best_107 rfl ?_
          rw [e2]
          refine ev_if_ne 115 dX7_best_108 (by decide) (fun hc108 => ?_) (fun hc108 => False.elim (absurd hc108 (by decide)))
          refine ev_iload_n dX7_best_115 rfl ?_
          refine ev_iconst (v := (nI 1)) dX7_best_116 (by decide) ?_
          refine ev_icmp_ne 125 dX7_best_117 (by decide) (fun hc117 => False.elim (hc117 rfl)) (fun hc117 => ?_)
          refine ev_iload dX7_best_120 rfl ?_
          refine ev_goto 127 dX7_best_122 (by decide) ?_
          exact ev_iretE dX7_best_127 rfl rfl (rfl) (rfl)
      · have hsl : Op.lookupswitch.offset [(0, 28), (1, 36)] 44 (nI 2).toInt = 44 := rfl
        refine ⟨kset (fun l => !kqB C n nr nq h b' l) nl, C2, G2, ?_, ?_, hRn⟩
        · refine ev_iload_n dX6_best_0 rfl ?_
          refine ev_if_lt 20 dX6_best_1 (by decide) (fun hc1 => False.elim (c1 hc1)) (fun hc1 => ?_)
          refine ev_iload_n dX6_best_4 rfl ?_
          refine ev_sipush (v := (nI 200)) dX6_best_5 (by decide) ?_
          refine ev_icmp_gt 20 dX6_best_8 (by decide) (fun hc8 => False.elim ((fa_of_lt hc8).2.1 c2)) (fun hc8 => ?_)
          refine ev_iload_n dX6_best_11 rfl ?_
          refine ev_if_lt 20 dX6_best_12 (by decide) (fun hc12 => False.elim (c3 hc12)) (fun hc12 => ?_)
          refine ev_iload_n dX6_best_15 rfl ?_
          refine ev_iconst (v := (nI 2)) dX6_best_16 (by decide) ?_
          refine ev_icmp_le 23 dX6_best_17 (by decide) (fun hc17 => ?_) (fun hc17 => False.elim (hc17 c4))
          refine ev_aload_n dX6_best_23 rfl ?_
          refine ev_getR dX6_best_24 fX6_56 (by first | assumption | rfl) (by rfl) ?_
          refine ev_cV0v dX6_best_27 ceX0_clear kX6_234 (rm_le rfl rfl) (Nat.le_of_ble_eq_true rfl) (Nat.le_of_ble_eq_true rfl) (e_chClear) (by first | assumption | rfl) ?_
          refine ev_iconst (v := (nI 0)) dX6_best_30 (by decide) ?_
          refine ev_istore_k 3 dX6_best_31 rfl (by decide) rfl ?_
          refine ev_stw (u1 _ _ ?_) ⟨rfl, rfl, rfl, rfl, trivial⟩ rfl rfl
          refine ev_iload_n dX6_best_32 rfl ?_
          refine ev_aload_n dX6_best_33 rfl ?_
          refine ev_getR dX6_best_34 fX6_23 (by first | assumption | rfl) (by rfl) ?_
          refine ev_getI dX6_best_37 fX6_94 (by first | assumption | rfl) (by rfl) ?_
          refine ev_icmp_ge 55 dX6_best_40 (by decide) (fun hc40 => ?_) (fun hc40 => False.elim (lp_x c8 (by omega) hc40))
          refine ev_iload_n dX6_best_55 rfl ?_
          rw [e2]
          refine ev_look 100 dX6_best_56 (by decide) hsl (by decide) ?_
          refine ev_aload_n dX6_best_100 rfl ?_
          refine ev_getR dX6_best_101 fX6_56 (by first | assumption | rfl) (by rfl) ?_
          refine ev_getI dX6_best_104 fX6_246 (by first | assumption | rfl) (by rfl) ?_
          exact ev_iretE dX6_best_107 rfl rfl (by rw [j3]) (rfl)
        · refine ev_iload_n dX7_best_0 rfl ?_
          refine ev_i2l dX7_best_1 ?_
          refine ev_lconst (v := 0) dX7_best_2 rfl ?_
          refine ev_ldc2 dX7_best_3 nX7_206 ?_
          refine ev_cS3 dX7_best_6 ceX7_in kX7_59 (rm_le rfl rfl) (Nat.le_of_ble_eq_true rfl) (Nat.le_of_ble_eq_true rfl) (e7_in) ?_
          rw [in_c _ 0 (nI 200) (by decide) (by decide), k1]
          refine ev_if_eq 24 dX7_best_9 (by decide) (fun hc9 => False.elim (absurd hc9 (by decide))) (fun hc9 => ?_)
          refine ev_iload_n dX7_best_12 rfl ?_
          refine ev_i2l dX7_best_13 ?_
          refine ev_lconst (v := 0) dX7_best_14 rfl ?_
          refine ev_ldc2 dX7_best_15 nX7_181 ?_
          refine ev_cS3 dX7_best_18 ceX7_in kX7_59 (rm_le rfl rfl) (Nat.le_of_ble_eq_true rfl) (Nat.le_of_ble_eq_true rfl) (e7_in) ?_
          rw [in_c _ 0 (nI 2) (by decide) (by decide), k2]
          refine ev_if_ne 27 dX7_best_21 (by decide) (fun hc21 => ?_) (fun hc21 => False.elim (absurd hc21 (by decide)))
          refine ev_iconst (v := (-1)) dX7_best_27 (by decide) ?_
          refine ev_istore_k 3 dX7_best_28 rfl (by decide) rfl ?_
          refine ev_iconst (v := (nI 0)) dX7_best_29 (by decide) ?_
          refine ev_istore dX7_best_30 (by decide) rfl ?_
          refine ev_iconst (v := (nI 0)) dX7_best_32 (by decide) ?_
          refine ev_istore dX7_best_33 (by decide) rfl ?_
          refine ev_iconst (v := (nI 0)) dX7_best_35 (by decide) ?_
          refine ev_istore dX7_best_36 (by decide) rfl ?_
          refine ev_stw (u2 _ _ ?_) ⟨rfl, rfl, rfl, rfl, rfl, rfl, rfl, trivial⟩ rfl rfl
          refine ev_iload dX7_best_38 rfl ?_
          refine ev_iconst (v := (nI 1)) dX7_best_40 (by decide) ?_
          refine ev_aload_n dX7_best_41 rfl ?_
          refine ev_getI dX7_best_42 fX7_131 (by first | assumption | rfl) (by rfl) ?_
          rw [gq]
          refine ev_ishl dX7_best_45 ?_
          rw [sh_1 (by omega)]
          refine ev_icmp_ge 107 dX7_best_46 (by decide) (fun hc46 => ?_) (fun hc46 => False.elim (hc46 (nI_le (Nat.le_refl _) (by omega))))
          refine ev_iload_n dX7_best_107 rfl ?_
          rw [e2]
          refine ev_if_ne 115 dX7_best_108 (by decide) (fun hc108 => ?_) (fun hc108 => False.elim (absurd hc108 (by decide)))
          refine ev_iload_n dX7_best_115 rfl ?_
          refine ev_iconst (v := (nI 1)) dX7_best_116 (by decide) ?_
          refine ev_icmp_ne 125 dX7_best_117 (by decide) (fun hc117 => ?_) (fun hc117 => False.elim (absurd hc117 (by decide)))
          refine ev_iload dX7_best_125 rfl ?_
          exact ev_iretE dX7_best_127 rfl rfl (rfl) (rfl)
    · refine ⟨(-1000000002), C, G, ?_, ?_, hR0⟩
      · refine ev_iload_n dX6_best_0 rfl ?_
        refine ev_if_lt 20 dX6_best_1 (by decide) (fun hc1 => False.elim (c1 hc1)) (fun hc1 => ?_)
        refine ev_iload_n dX6_best_4 rfl ?_
        refine ev_sipush (v := (nI 200)) dX6_best_5 (by decide) ?_
        refine ev_icmp_gt 20 dX6_best_8 (by decide) (fun hc8 => False.elim ((fa_of_lt hc8).2.1 c2)) (fun hc8 => ?_)
        refine ev_iload_n dX6_best_11 rfl ?_
        refine ev_if_lt 20 dX6_best_12 (by decide) (fun hc12 => ?_) (fun hc12 => False.elim (hc12 c3))
        refine ev_ldc (v := (-1000000002)) dX6_best_20 nX6_70 ?_
        exact ev_iretE dX6_best_22 rfl rfl (by first | rfl | simp_all) (rfl)
      · refine ev_iload_n dX7_best_0 rfl ?_
        refine ev_i2l dX7_best_1 ?_
        refine ev_lconst (v := 0) dX7_best_2 rfl ?_
        refine ev_ldc2 dX7_best_3 nX7_206 ?_
        refine ev_cS3 dX7_best_6 ceX7_in kX7_59 (rm_le rfl rfl) (Nat.le_of_ble_eq_true rfl) (Nat.le_of_ble_eq_true rfl) (e7_in) ?_
        rw [in_c _ 0 (nI 200) (by decide) (by decide), k1]
        refine ev_if_eq 24 dX7_best_9 (by decide) (fun hc9 => False.elim (absurd hc9 (by decide))) (fun hc9 => ?_)
        refine ev_iload_n dX7_best_12 rfl ?_
        refine ev_i2l dX7_best_13 ?_
        refine ev_lconst (v := 0) dX7_best_14 rfl ?_
        refine ev_ldc2 dX7_best_15 nX7_181 ?_
        refine ev_cS3 dX7_best_18 ceX7_in kX7_59 (rm_le rfl rfl) (Nat.le_of_ble_eq_true rfl) (Nat.le_of_ble_eq_true rfl) (e7_in) ?_
        rw [in_c _ 0 (nI 2) (by decide) (by decide), k2]
        refine ev_if_ne 27 dX7_best_21 (by decide) (fun hc21 => False.elim (absurd hc21 (by decide))) (fun hc21 => ?_)
        refine ev_ldc (v := (-1000000002)) dX7_best_24 nX7_63 ?_
        exact ev_iretE dX7_best_26 rfl rfl (by first | rfl | simp_all) (rfl)
    · refine ⟨(-1000000002), C, G, ?_, ?_, hR0⟩
      · refine ev_iload_n dX6_best_0 rfl ?_
        refine ev_if_lt 20 dX6_best_1 (by decide) (fun hc1 => False.elim (c1 hc1)) (fun hc1 => ?_)
        refine ev_iload_n dX6_best_4 rfl ?_
        refine ev_sipush (v := (nI 200)) dX6_best_5 (by decide) ?_
        refine ev_icmp_gt 20 dX6_best_8 (by decide) (fun hc8 => False.elim ((fa_of_lt hc8).2.1 c2)) (fun hc8 => ?_)
        refine ev_iload_n dX6_best_11 rfl ?_
        refine ev_if_lt 20 dX6_best_12 (by decide) (fun hc12 => False.elim (c3 hc12)) (fun hc12 => ?_)
        refine ev_iload_n dX6_best_15 rfl ?_
        refine ev_iconst (v := (nI 2)) dX6_best_16 (by decide) ?_
        refine ev_icmp_le 23 dX6_best_17 (by decide) (fun hc17 => False.elim (c4 hc17)) (fun hc17 => ?_)
        refine ev_ldc (v := (-1000000002)) dX6_best_20 nX6_70 ?_
        exact ev_iretE dX6_best_22 rfl rfl (by first | rfl | simp_all) (rfl)
      · refine ev_iload_n dX7_best_0 rfl ?_
        refine ev_i2l dX7_best_1 ?_
        refine ev_lconst (v := 0) dX7_best_2 rfl ?_
        refine ev_ldc2 dX7_best_3 nX7_206 ?_
        refine ev_cS3 dX7_best_6 ceX7_in kX7_59 (rm_le rfl rfl) (Nat.le_of_ble_eq_true rfl) (Nat.le_of_ble_eq_true rfl) (e7_in) ?_
        rw [in_c _ 0 (nI 200) (by decide) (by decide), k1]
        refine ev_if_eq 24 dX7_best_9 (by decide) (fun hc9 => False.elim (absurd hc9 (by decide))) (fun hc9 => ?_)
        refine ev_iload_n dX7_best_12 rfl ?_
        refine ev_i2l dX7_best_13 ?_
        refine ev_lconst (v := 0) dX7_best_14 rfl ?_
        refine ev_ldc2 dX7_best_15 nX7_181 ?_
        refine ev_cS3 dX7_best_18 ceX7_in kX7_59 (rm_le rfl rfl) (Nat.le_of_ble_eq_true rfl) (Nat.le_of_ble_eq_true rfl) (e7_in) ?_
        rw [in_c _ 0 (nI 2) (by decide) (by decide), k2]
        refine ev_if_ne 27 dX7_best_21 (by decide) (fun hc21 => False.elim (absurd hc21 (by decide))) (fun hc21 => ?_)
        refine ev_ldc (v := (-1000000002)) dX7_best_24 nX7_63 ?_
        exact ev_iretE dX7_best_26 rfl rfl (by first | rfl | simp_all) (rfl)
  · refine ⟨(-1000000002), C, G, ?_, ?_, hR0⟩
    · refine ev_iload_n dX6_best_0 rfl ?_
      refine ev_if_lt 20 dX6_best_1 (by decide) (fun hc1 => ?_) (fun hc1 => False.elim (hc1 c1))
      refine ev_ldc (v := (-1000000002)) dX6_best_20 nX6_70 ?_
      exact ev_iretE dX6_best_22 rfl rfl (by first | rfl | simp_all) (rfl)
    · refine ev_iload_n dX7_best_0 rfl ?_
      refine ev_i2l dX7_best_1 ?_
      refine ev_lconst (v := 0) dX7_best_2 rfl ?_
      refine ev_ldc2 dX7_best_3 nX7_206 ?_
      refine ev_cS3 dX7_best_6 ceX7_in kX7_59 (rm_le rfl rfl) (Nat.le_of_ble_eq_true rfl) (Nat.le_of_ble_eq_true rfl) (e7_in) ?_
      rw [in_c _ 0 (nI 200) (by decide) (by decide), k1]
      refine ev_if_eq 24 dX7_best_9 (by decide) (fun hc9 => ?_) (fun hc9 => False.elim (absurd hc9 (by decide)))
      refine ev_ldc (v := (-1000000002)) dX7_best_24 nX7_63 ?_
      exact ev_iretE dX7_best_26 rfl rfl (by first | rfl | simp_all) (rfl)
  · have c9 : nI 200 < h0 := fa_of_nle c2
    refine ⟨(-1000000002), C, G, ?_, ?_, hR0⟩
    · refine ev_iload_n dX6_best_0 rfl ?_
      refine ev_if_lt 20 dX6_best_1 (by decide) (fun hc1 => False.elim (c1 hc1)) (fun hc1 => ?_)
      refine ev_iload_n dX6_best_4 rfl ?_
      refine ev_sipush (v := (nI 200)) dX6_best_5 (by decide) ?_
      refine ev_icmp_gt 20 dX6_best_8 (by decide) (fun hc8 => ?_) (fun hc8 => False.elim (hc8 c9))
      refine ev_ldc (v := (-1000000002)) dX6_best_20 nX6_70 ?_
      exact ev_iretE dX6_best_22 rfl rfl (by first | rfl | simp_all) (rfl)
    · refine ev_iload_n dX7_best_0 rfl ?_
      refine ev_i2l dX7_best_1 ?_
      refine ev_lconst (v := 0) dX7_best_2 rfl ?_
      refine ev_ldc2 dX7_best_3 nX7_206 ?_
      refine ev_cS3 dX7_best_6 ceX7_in kX7_59 (rm_le rfl rfl) (Nat.le_of_ble_eq_true rfl) (Nat.le_of_ble_eq_true rfl) (e7_in) ?_
      rw [in_c _ 0 (nI 200) (by decide) (by decide), k1]
      refine ev_if_eq 24 dX7_best_9 (by decide) (fun hc9 => ?_) (fun hc9 => False.elim (absurd hc9 (by decide)))
      refine ev_ldc (v := (-1000000002)) dX7_best_24 nX7_63 ?_
      exact ev_iretE dX7_best_26 rfl rfl (by first | rfl | simp_all) (rfl)
