/-! best: the class's chooseFor -/
theorem m1_nI {v : Nat} (h : v < 2 ^ 31) : (-1 : Int32) < nI v := by
  rw [fa_lt, nI_toInt h]
  have e : (-1 : Int32).toInt = -1 := by decide
  omega
theorem bc_c {S : Nat} (h : S < 1024) : bcI (nI S) = nI (cN S) := bc_N S h
theorem on_c {S : Nat} (h : S < 1024) : onI (nI S) 16 = nI (cN S) := by rw [on_N (by omega) 16 (by decide), cN_16 h]
theorem wn_lt {rl : Nat → Nat} {nq l : Nat} (h : nq ≤ 10) : wnL rl nq l < 1024 := Nat.lt_of_lt_of_le (ksN_lt _ _) (Nat.pow_le_pow_right (by decide) h : 2 ^ nq ≤ 2 ^ 10)
def Fk (C0 C : rf_Mem) : Prop := (∀ a, a < 33 ∨ 45 ≤ a → C a = C0 a) ∧ ∃ k, C 41 3 = nI k ∧ k ≤ 300
def Fq (C0 C : rf_Mem) : Prop := (∀ a, a ≠ 18 → a < 33 ∨ 45 ≤ a → C a = C0 a) ∧ ∃ k, C 41 3 = nI k ∧ k ≤ 300
theorem gs_off {B : rf_Mem} {n nl nq l s : Nat} (hl : l < nl) (hm : s &&& wnL (rlB B) nq l = s) : smL (fun l => gsB B n l s nq) nl = gsB B n l s nq := by
  refine sm_ind (g := fun l => gsB B n l s nq) hl rfl (fun l' _ hne => gs_z (fun j _ hr => ?_))
  cases e : hb s j with
  | false => rfl
  | true => exact absurd ((wn_in hm e).2.symm.trans hr) (fun z => hne z.symm)
set_option maxRecDepth 20000 in
set_option maxHeartbeats 2000000 in
theorem e_chAdd {C : rf_Mem} {l b f : Int32} {k : Bool} : Ev LayC mX0_addLine 0 (rf_ent 5 [.ref 18, .int l, .int b, .int f, .int (b2i k)]) [] C none (rf_set (rf_set (rf_set C 18 0 (C 18 0 ||| b)) 18 1 (C 18 1 + f)) 18 2 (C 18 2 ||| (if k = true then nI 0 else nI 1 <<< (l &&& 31)))) := by
  refine ev_aload_n dX0_addLine_0 rfl ?_
  refine ev_dup dX0_addLine_1 rfl ?_
  refine ev_getI dX0_addLine_2 fX0_7 (by first | assumption | rfl) (by rfl) ?_
  refine ev_iload_n dX0_addLine_5 rfl ?_
  refine ev_ior dX0_addLine_6 ?_
  refine ev_put dX0_addLine_7 pX0_7 (by first | assumption | rfl) (by rfl) (rfl) (rfl) ?_
  refine ev_aload_n dX0_addLine_10 rfl ?_
  refine ev_dup dX0_addLine_11 rfl ?_
  refine ev_getI dX0_addLine_12 fX0_13 (by first | assumption | rfl) (by rfl) ?_
  rw [gs_k _ _ _ (show 1 ≠ 0 by decide)]
  refine ev_iload_n dX0_addLine_15 rfl ?_
  refine ev_iadd dX0_addLine_16 ?_
  refine ev_put dX0_addLine_17 pX0_13 (by first | assumption | rfl) (by rfl) (rfl) (rfl) ?_
  refine ev_aload_n dX0_addLine_20 rfl ?_
  refine ev_dup dX0_addLine_21 rfl ?_
  refine ev_getI dX0_addLine_22 fX0_16 (by first | assumption | rfl) (by rfl) ?_
  rw [gs_k _ _ _ (show 2 ≠ 1 by decide), gs_k _ _ _ (show 2 ≠ 0 by decide)]
  refine ev_iload dX0_addLine_25 rfl ?_
  refine ev_if_eq 34 dX0_addLine_27 (by decide) (fun hc27 => ?_) (fun hc27 => ?_)
  · rw [b2i_0] at hc27
    refine ev_iconst (v := (nI 1)) dX0_addLine_34 (by decide) ?_
    refine ev_iload_n dX0_addLine_35 rfl ?_
    refine ev_ishl dX0_addLine_36 ?_
    refine ev_ior dX0_addLine_37 ?_
    refine ev_put dX0_addLine_38 pX0_16 (by first | assumption | rfl) (by rfl) (rfl) (rfl) ?_
    exact ev_vretE dX0_addLine_41 rfl rfl (by rw [hc27]; rfl)
  · rw [b2i_n0] at hc27
    refine ev_iconst (v := (nI 0)) dX0_addLine_30 (by decide) ?_
    refine ev_goto 37 dX0_addLine_31 (by decide) ?_
    refine ev_ior dX0_addLine_37 ?_
    refine ev_put dX0_addLine_38 pX0_16 (by first | assumption | rfl) (by rfl) (rfl) (rfl) ?_
    exact ev_vretE dX0_addLine_41 rfl rfl (by rw [hc27]; rfl)
set_option maxRecDepth 20000 in
set_option maxHeartbeats 2000000 in
theorem ch_try {n d nl nr nq h l : Nat} {tm : Nat → Nat} {C0 G0 C1 : rf_Mem} (hS : Sim true 21 0 n d nl nr tm C0 G0) (hQ : Rq nq nl nr C0 G0) (hh : h ≤ 200) (hl : l < nl) (h1 : Fq C0 C1) {s : Nat} {bs bm bk : Int32} {C : rf_Mem} (hm : s &&& wnL (rlB C0) nq l = s) (hF : Fk C1 C) : ∃ C', (∀ r M', Ev LayC mX6_chooseFor 99 [some (.ref 0), some (.int (nI l)), some (.int (nI h)), some (.int (nI (wnL (rlB C0) nq l))), some (.int (bs)), some (.int (bm)), some (.int (bk)), some (.int (nI (s))), some (.int (nI (flB C0 n nr nq h s l))), some (.int (b2i (kqB C0 n nr nq h s l)))] [] C' r M' → Ev LayC mX6_chooseFor 39 [some (.ref 0), some (.int (nI l)), some (.int (nI h)), some (.int (nI (wnL (rlB C0) nq l))), some (.int (bs)), some (.int (bm)), some (.int (bk)), some (.int (nI (s))), none, none] [] C r M') ∧ Fk C1 C' := by
  have hL := hS.1
  have l3 := hL.2.2.1
  have l6 := hL.2.2.2.2.2.1
  have hnq := hQ.2.2.1
  have hC0 : ∀ a, a < 18 ∨ (21 ≤ a ∧ a < 33) → C a = C0 a := fun a ha => (hF.1 a (by omega)).trans (h1.1 a (by omega) (by omega))
  obtain ⟨kt, k1, k2⟩ := hF.2
  have hSC : Sim true 21 0 n d nl nr tm C G0 := hS.frame (hL.frame (fun a ha => hC0 a (by omega)) (fun _ _ => rfl)) (fun a _ _ => hC0 a (by omega)) (fun _ _ _ => rfl)
  have hQC : Rq nq nl nr C G0 := by
    unfold Rq at hQ ⊢
    rw [hC0 14 (by omega), hC0 15 (by omega), hC0 16 (by omega), hC0 17 (by omega)]
    exact hQ
  obtain ⟨t1, t2, t3, t4, t5, -, -⟩ := tri_0 hSC hQC k1 k2 hC0
  have hs31 : s < 2 ^ 31 := by
    have := wn_le hm
    have := wn_lt (rl := rlB C0) (l := l) hnq
    omega
  obtain ⟨C2, G2, eC, -, s2, -, f1, -, v1, v2⟩ := sim_grantX hs31 t1 t2 t3 (t4 s)
  rw [gs_off hl hm] at eC
  have hk : kpB C2 33 n nr (nI h) l = kqB C0 n nr nq h s l := kp_view v1 (v2 l hl)
  have w1 : C2 33 9 = nI n := s2.2.1.1.1
  have w2 : n ≤ 40 := s2.2.1.1.2.2.1
  have r1 := s2.1.2.2.2.1
  have hwv : C2 9 l = nI (wvB C0 l) := by
    obtain ⟨a1, v, a2, a3⟩ := hL.2.2.2.2.2.2.2.1 l hl
    rw [v1.1 9 (by decide), wvB, a3, nI_clamp (by omega)]
  obtain ⟨-, -, k, k', q1, q2, -⟩ := id s2
  refine ⟨C2, fun r M' hE => ?_, fun a ha => (f1 a (by omega)).trans ((t5 a ha).trans (hF.1 a ha)), k, q1, q2⟩
  cases hkq : kqB C0 n nr nq h s l with
  | true =>
    rw [hkq] at hE
    have hfl : nI (gsB C0 n l s nq) + nI (wvB C0 l) = nI (flB C0 n nr nq h s l) := by rw [nI_add, flB, hkq, if_pos rfl]
    refine ev_aload_n dX6_chooseFor_39 rfl ?_
    refine ev_getR dX6_chooseFor_40 fX6_35 (by first | assumption | rfl) (by rfl) ?_
    refine ev_aload_n dX6_chooseFor_43 rfl ?_
    refine ev_getR dX6_chooseFor_44 fX6_31 (by first | assumption | rfl) (by rfl) ?_
    refine ev_cV1v dX6_chooseFor_47 ceX5_copyBooks kX6_252 (rm_le rfl rfl) (Nat.le_of_ble_eq_true rfl) (Nat.le_of_ble_eq_true rfl) (e_copyBooks st_33 st_21) (by first | assumption | rfl) ?_
    refine ev_aload_n dX6_chooseFor_50 rfl ?_
    refine ev_getR dX6_chooseFor_51 fX6_49 (by first | assumption | rfl) (by rfl) ?_
    refine ev_iload dX6_chooseFor_54 rfl ?_
    refine ev_aload_n dX6_chooseFor_56 rfl ?_
    refine ev_getR dX6_chooseFor_57 fX6_35 (by first | assumption | rfl) (by rfl) ?_
    refine ev_cV2 dX6_chooseFor_60 ceX3_fulfil kX6_230 (rm_le rfl rfl) (Nat.le_of_ble_eq_true rfl) (Nat.le_of_ble_eq_true rfl) (eC) (by first | assumption | rfl) ?_
    refine ev_istore dX6_chooseFor_63 (by decide) rfl ?_
    refine ev_aload_n dX6_chooseFor_65 rfl ?_
    refine ev_getR dX6_chooseFor_66 fX6_35 (by first | assumption | rfl) (by rfl) ?_
    refine ev_iload_n dX6_chooseFor_69 rfl ?_
    refine ev_iload_n dX6_chooseFor_70 rfl ?_
    refine ev_cV2 dX6_chooseFor_71 ceX5_isKept kX6_131 (rm_le rfl rfl) (Nat.le_of_ble_eq_true rfl) (Nat.le_of_ble_eq_true rfl) (e_isKept st_33 w1 w2 r1 l6 (by omega)) (by first | assumption | rfl) ?_
    rw [hk, hkq]
    refine ev_istore dX6_chooseFor_74 (by decide) rfl ?_
    refine ev_iload dX6_chooseFor_76 rfl ?_
    refine ev_iload dX6_chooseFor_78 rfl ?_
    refine ev_if_eq 95 dX6_chooseFor_80 (by decide) (fun hc80 => False.elim (absurd hc80 (by decide))) (fun hc80 => ?_)
    refine ev_aload_n dX6_chooseFor_83 rfl ?_
    refine ev_getR dX6_chooseFor_84 fX6_23 (by first | assumption | rfl) (by rfl) ?_
    refine ev_getR dX6_chooseFor_87 fX6_128 (by first | assumption | rfl) (by rfl) ?_
    refine ev_iload_n dX6_chooseFor_90 rfl ?_
    refine ev_ialdE _ dX6_chooseFor_91 (rfl) (by first | assumption | rfl) ⟨by omega, by decide⟩ ?_
    rw [hwv]
    refine ev_goto 96 dX6_chooseFor_92 (by decide) ?_
    refine ev_iadd dX6_chooseFor_96 ?_
    rw [hfl]
    refine ev_istore dX6_chooseFor_97 (by decide) rfl ?_
    exact hE
  | false =>
    rw [hkq] at hE
    have hfl : nI (gsB C0 n l s nq) + nI 0 = nI (flB C0 n nr nq h s l) := by rw [nI_add, flB, hkq, if_neg (by decide)]
    refine ev_aload_n dX6_chooseFor_39 rfl ?_
    refine ev_getR dX6_chooseFor_40 fX6_35 (by first | assumption | rfl) (by rfl) ?_
    refine ev_aload_n dX6_chooseFor_43 rfl ?_
    refine ev_getR dX6_chooseFor_44 fX6_31 (by first | assumption | rfl) (by rfl) ?_
    refine ev_cV1v dX6_chooseFor_47 ceX5_copyBooks kX6_252 (rm_le rfl rfl) (Nat.le_of_ble_eq_true rfl) (Nat.le_of_ble_eq_true rfl) (e_copyBooks st_33 st_21) (by first | assumption | rfl) ?_
    refine ev_aload_n dX6_chooseFor_50 rfl ?_
    refine ev_getR dX6_chooseFor_51 fX6_49 (by first | assumption | rfl) (by rfl) ?_
    refine ev_iload dX6_chooseFor_54 rfl ?_
    refine ev_aload_n dX6_chooseFor_56 rfl ?_
    refine ev_getR dX6_chooseFor_57 fX6_35 (by first | assumption | rfl) (by rfl) ?_
    refine ev_cV2 dX6_chooseFor_60 ceX3_fulfil kX6_230 (rm_le rfl rfl) (Nat.le_of_ble_eq_true rfl) (Nat.le_of_ble_eq_true rfl) (eC) (by first | assumption | rfl) ?_
    refine ev_istore dX6_chooseFor_63 (by decide) rfl ?_
    refine ev_aload_n dX6_chooseFor_65 rfl ?_
    refine ev_getR dX6_chooseFor_66 fX6_35 (by first | assumption | rfl) (by rfl) ?_
    refine ev_iload_n dX6_chooseFor_69 rfl ?_
    refine ev_iload_n dX6_chooseFor_70 rfl ?_
    refine ev_cV2 dX6_chooseFor_71 ceX5_isKept kX6_131 (rm_le rfl rfl) (Nat.le_of_ble_eq_true rfl) (Nat.le_of_ble_eq_true rfl) (e_isKept st_33 w1 w2 r1 l6 (by omega)) (by first | assumption | rfl) ?_
    rw [hk, hkq]
    refine ev_istore dX6_chooseFor_74 (by decide) rfl ?_
    refine ev_iload dX6_chooseFor_76 rfl ?_
    refine ev_iload dX6_chooseFor_78 rfl ?_
    refine ev_if_eq 95 dX6_chooseFor_80 (by decide) (fun hc80 => ?_) (fun hc80 => False.elim (absurd hc80 (by decide)))
    refine ev_iconst (v := (nI 0)) dX6_chooseFor_95 (by decide) ?_
    refine ev_iadd dX6_chooseFor_96 ?_
    rw [hfl]
    refine ev_istore dX6_chooseFor_97 (by decide) rfl ?_
    exact hE
def ChS (C0 : rf_Mem) (n nr nq h l s : Nat) (bs bm bk : Int32) : Prop := (s = 0 ∧ bm = -1) ∨ ∃ b, Bst (fun S => S < s ∧ S &&& wnL (rlB C0) nq l = S) (fun S => flB C0 n nr nq h S l) cN b ∧ bs = nI b ∧ bm = nI (flB C0 n nr nq h b l) ∧ bk = b2i (kqB C0 n nr nq h b l)
set_option maxRecDepth 20000 in
set_option maxHeartbeats 2000000 in
theorem ch_one {n d nl nr nq h l : Nat} {tm : Nat → Nat} {C0 G0 C1 : rf_Mem} (hS : Sim true 21 0 n d nl nr tm C0 G0) (hQ : Rq nq nl nr C0 G0) (hh : h ≤ 200) (hl : l < nl) (h1 : Fq C0 C1) {s : Nat} {bs bm bk : Int32} {C : rf_Mem} (hsW : s ≤ wnL (rlB C0) nq l) (hF : Fk C1 C) (hst : ChS C0 n nr nq h l s bs bm bk) : ∃ C' bs' bm' bk', (∀ r M', Ev LayC mX6_chooseFor 21 [some (.ref 0), some (.int (nI l)), some (.int (nI h)), some (.int (nI (wnL (rlB C0) nq l))), some (.int (bs')), some (.int (bm')), some (.int (bk')), some (.int (nI (s + 1))), none, none] [] C' r M' → Ev LayC mX6_chooseFor 21 [some (.ref 0), some (.int (nI l)), some (.int (nI h)), some (.int (nI (wnL (rlB C0) nq l))), some (.int (bs)), some (.int (bm)), some (.int (bk)), some (.int (nI (s))), none, none] [] C r M') ∧ Fk C1 C' ∧ ChS C0 n nr nq h l (s + 1) bs' bm' bk' := by
  have hL := hS.1
  have hnq := hQ.2.2.1
  have hW : wnL (rlB C0) nq l < 1024 := wn_lt hnq
  have hwq : ∀ j, j < nq → rwB C0 j ≤ 99 := fun j hj => by
    obtain ⟨-, -, -, -, -, v, a1, a2⟩ := hQ.2.2.2 j hj
    rw [rwB, a2, nI_clamp (by omega)]; exact a1
  have hwv : wvB C0 l ≤ 99 := by
    obtain ⟨-, v, a2, a3⟩ := hL.2.2.2.2.2.2.2.1 l hl
    rw [wvB, a3, nI_clamp (by omega)]; exact a2
  have hf : ∀ S, flB C0 n nr nq h S l ≤ 1089 := fun S => fl_le hwq hnq hwv
  by_cases hm : s &&& wnL (rlB C0) nq l = s
  · obtain ⟨C2, u, hF2⟩ := ch_try (bs := bs) (bm := bm) (bk := bk) hS hQ hh hl h1 hm hF
    rcases hst with ⟨z1, z2⟩ | ⟨b, hB, e1, e2, e3⟩
    · refine ⟨C2, nI s, nI (flB C0 n nr nq h s l), b2i (kqB C0 n nr nq h s l), fun r M' hE => ?_, hF2, Or.inr ⟨s, ?_, rfl, rfl, rfl⟩⟩
      · refine ev_iload dX6_chooseFor_21 rfl ?_
        refine ev_iload_n dX6_chooseFor_23 rfl ?_
        refine ev_icmp_gt 144 dX6_chooseFor_24 (by decide) (fun hc24 => False.elim (nI_nlt hsW (by omega) hc24)) (fun hc24 => ?_)
        refine ev_iload dX6_chooseFor_27 rfl ?_
        refine ev_iload_n dX6_chooseFor_29 rfl ?_
        refine ev_iand dX6_chooseFor_30 ?_
        refine ev_iload dX6_chooseFor_31 rfl ?_
        refine ev_icmp_eq 39 dX6_chooseFor_33 (by decide) (fun hc33 => ?_) (fun hc33 => False.elim (hc33 (by rw [fa_and, hm])))
        refine u _ _ ?_
        refine ev_iload dX6_chooseFor_99 rfl ?_
        refine ev_iload dX6_chooseFor_101 rfl ?_
        refine ev_icmp_gt 126 dX6_chooseFor_103 (by decide) (fun hc103 => ?_) (fun hc103 => False.elim (hc103 (by rw [z2]; exact m1_nI (by have := hf s; omega))))
        refine ev_iload dX6_chooseFor_126 rfl ?_
        refine ev_istore dX6_chooseFor_128 (by decide) rfl ?_
        refine ev_iload dX6_chooseFor_130 rfl ?_
        refine ev_istore dX6_chooseFor_132 (by decide) rfl ?_
        refine ev_iload dX6_chooseFor_134 rfl ?_
        refine ev_istore dX6_chooseFor_136 (by decide) rfl ?_
        refine ev_iinc (v := (nI 1)) dX6_chooseFor_138 rfl (by decide) (by decide) rfl ?_
        refine ev_goto 21 dX6_chooseFor_141 (by decide) ?_
        exact ev_stw hE (by simp [rf_sub, nI_add]) rfl rfl
      · subst z1
        exact Bst.first hm
    · subst e1 e2 e3
      have hb1 : b < 1024 := by have : b < s := hB.1.1; omega
      have hs1 : s < 1024 := by omega
      have bc1 := bc_c hs1
      have bc2 := bc_c hb1
      have x1 := cN_le s
      have x2 := cN_le b
      have y1 := hf s
      have y2 := hf b
      rcases Nat.lt_trichotomy (flB C0 n nr nq h b l) (flB C0 n nr nq h s l) with g | g | g
      · refine ⟨C2, nI s, nI (flB C0 n nr nq h s l), b2i (kqB C0 n nr nq h s l), fun r M' hE => ?_, hF2, Or.inr ⟨s, hB.new hm (Or.inl g), rfl, rfl, rfl⟩⟩
        refine ev_iload dX6_chooseFor_21 rfl ?_
        refine ev_iload_n dX6_chooseFor_23 rfl ?_
        refine ev_icmp_gt 144 dX6_chooseFor_24 (by decide) (fun hc24 => False.elim (nI_nlt hsW (by omega) hc24)) (fun hc24 => ?_)
        refine ev_iload dX6_chooseFor_27 rfl ?_
        refine ev_iload_n dX6_chooseFor_29 rfl ?_
        refine ev_iand dX6_chooseFor_30 ?_
        refine ev_iload dX6_chooseFor_31 rfl ?_
        refine ev_icmp_eq 39 dX6_chooseFor_33 (by decide) (fun hc33 => ?_) (fun hc33 => False.elim (hc33 (by rw [fa_and, hm])))
        refine u _ _ ?_
        refine ev_iload dX6_chooseFor_99 rfl ?_
        refine ev_iload dX6_chooseFor_101 rfl ?_
        refine ev_icmp_gt 126 dX6_chooseFor_103 (by decide) (fun hc103 => ?_) (fun hc103 => False.elim (hc103 (nI_lt g (by omega))))
        refine ev_iload dX6_chooseFor_126 rfl ?_
        refine ev_istore dX6_chooseFor_128 (by decide) rfl ?_
        refine ev_iload dX6_chooseFor_130 rfl ?_
        refine ev_istore dX6_chooseFor_132 (by decide) rfl ?_
        refine ev_iload dX6_chooseFor_134 rfl ?_
        refine ev_istore dX6_chooseFor_136 (by decide) rfl ?_
        refine ev_iinc (v := (nI 1)) dX6_chooseFor_138 rfl (by decide) (by decide) rfl ?_
        refine ev_goto 21 dX6_chooseFor_141 (by decide) ?_
        exact ev_stw hE (by simp [rf_sub, nI_add]) rfl rfl
      · by_cases g2 : cN s < cN b
        · refine ⟨C2, nI s, nI (flB C0 n nr nq h s l), b2i (kqB C0 n nr nq h s l), fun r M' hE => ?_, hF2, Or.inr ⟨s, hB.new hm (Or.inr ⟨g.symm, g2⟩), rfl, rfl, rfl⟩⟩
          refine ev_iload dX6_chooseFor_21 rfl ?_
          refine ev_iload_n dX6_chooseFor_23 rfl ?_
          refine ev_icmp_gt 144 dX6_chooseFor_24 (by decide) (fun hc24 => False.elim (nI_nlt hsW (by omega) hc24)) (fun hc24 => ?_)
          refine ev_iload dX6_chooseFor_27 rfl ?_
          refine ev_iload_n dX6_chooseFor_29 rfl ?_
          refine ev_iand dX6_chooseFor_30 ?_
          refine ev_iload dX6_chooseFor_31 rfl ?_
          refine ev_icmp_eq 39 dX6_chooseFor_33 (by decide) (fun hc33 => ?_) (fun hc33 => False.elim (hc33 (by rw [fa_and, hm])))
          refine u _ _ ?_
          refine ev_iload dX6_chooseFor_99 rfl ?_
          refine ev_iload dX6_chooseFor_101 rfl ?_
          refine ev_icmp_gt 126 dX6_chooseFor_103 (by decide) (fun hc103 => False.elim (nI_nlt (Nat.le_of_eq g.symm) (by omega) hc103)) (fun hc103 => ?_)
          refine ev_iload dX6_chooseFor_106 rfl ?_
          refine ev_iload dX6_chooseFor_108 rfl ?_
          refine ev_icmp_ne 138 dX6_chooseFor_110 (by decide) (fun hc110 => False.elim (hc110 (by rw [g]))) (fun hc110 => ?_)
          refine ev_iload dX6_chooseFor_113 rfl ?_
          refine ev_cS1 dX6_chooseFor_115 ceJ6_bitCount_0f7a4 kX6_256 (rm_le rfl rfl) (Nat.le_of_ble_eq_true rfl) (Nat.le_of_ble_eq_true rfl) (e_bitCount) ?_
          rw [bc1]
          refine ev_iload dX6_chooseFor_118 rfl ?_
          refine ev_cS1 dX6_chooseFor_120 ceJ6_bitCount_0f7a4 kX6_256 (rm_le rfl rfl) (Nat.le_of_ble_eq_true rfl) (Nat.le_of_ble_eq_true rfl) (e_bitCount) ?_
          rw [bc2]
          refine ev_icmp_ge 138 dX6_chooseFor_123 (by decide) (fun hc123 => False.elim (nI_ge g2 (by omega) hc123)) (fun hc123 => ?_)
          refine ev_iload dX6_chooseFor_126 rfl ?_
          refine ev_istore dX6_chooseFor_128 (by decide) rfl ?_
          refine ev_iload dX6_chooseFor_130 rfl ?_
          refine ev_istore dX6_chooseFor_132 (by decide) rfl ?_
          refine ev_iload dX6_chooseFor_134 rfl ?_
          refine ev_istore dX6_chooseFor_136 (by decide) rfl ?_
          refine ev_iinc (v := (nI 1)) dX6_chooseFor_138 rfl (by decide) (by decide) rfl ?_
          refine ev_goto 21 dX6_chooseFor_141 (by decide) ?_
          exact ev_stw hE (by simp [rf_sub, nI_add]) rfl rfl
        · refine ⟨C2, _, _, _, fun r M' hE => ?_, hF2, Or.inr ⟨b, hB.keep (fun z => by rcases z with z | z; exact absurd z (by omega); exact g2 z.2), rfl, rfl, rfl⟩⟩
          refine ev_iload dX6_chooseFor_21 rfl ?_
          refine ev_iload_n dX6_chooseFor_23 rfl ?_
          refine ev_icmp_gt 144 dX6_chooseFor_24 (by decide) (fun hc24 => False.elim (nI_nlt hsW (by omega) hc24)) (fun hc24 => ?_)
          refine ev_iload dX6_chooseFor_27 rfl ?_
          refine ev_iload_n dX6_chooseFor_29 rfl ?_
          refine ev_iand dX6_chooseFor_30 ?_
          refine ev_iload dX6_chooseFor_31 rfl ?_
          refine ev_icmp_eq 39 dX6_chooseFor_33 (by decide) (fun hc33 => ?_) (fun hc33 => False.elim (hc33 (by rw [fa_and, hm])))
          refine u _ _ ?_
          refine ev_iload dX6_chooseFor_99 rfl ?_
          refine ev_iload dX6_chooseFor_101 rfl ?_
          refine ev_icmp_gt 126 dX6_chooseFor_103 (by decide) (fun hc103 => False.elim (nI_nlt (Nat.le_of_eq g.symm) (by omega) hc103)) (fun hc103 => ?_)
          refine ev_iload dX6_chooseFor_106 rfl ?_
          refine ev_iload dX6_chooseFor_108 rfl ?_
          refine ev_icmp_ne 138 dX6_chooseFor_110 (by decide) (fun hc110 => False.elim (hc110 (by rw [g]))) (fun hc110 => ?_)
          refine ev_iload dX6_chooseFor_113 rfl ?_
          refine ev_cS1 dX6_chooseFor_115 ceJ6_bitCount_0f7a4 kX6_256 (rm_le rfl rfl) (Nat.le_of_ble_eq_true rfl) (Nat.le_of_ble_eq_true rfl) (e_bitCount) ?_
          rw [bc1]
          refine ev_iload dX6_chooseFor_118 rfl ?_
          refine ev_cS1 dX6_chooseFor_120 ceJ6_bitCount_0f7a4 kX6_256 (rm_le rfl rfl) (Nat.le_of_ble_eq_true rfl) (Nat.le_of_ble_eq_true rfl) (e_bitCount) ?_
          rw [bc2]
          refine ev_icmp_ge 138 dX6_chooseFor_123 (by decide) (fun hc123 => ?_) (fun hc123 => False.elim (hc123 (nI_le (Nat.le_of_not_lt g2) (by omega))))
          refine ev_iinc (v := (nI 1)) dX6_chooseFor_138 rfl (by decide) (by decide) rfl ?_
          refine ev_goto 21 dX6_chooseFor_141 (by decide) ?_
          exact ev_stw hE (by simp [rf_sub, nI_add]) rfl rfl
      · refine ⟨C2, _, _, _, fun r M' hE => ?_, hF2, Or.inr ⟨b, hB.keep (fun z => by rcases z with z | z; exact absurd z (Nat.not_lt.mpr (Nat.le_of_lt g)); exact absurd z.1 (Nat.ne_of_lt g)), rfl, rfl, rfl⟩⟩
        refine ev_iload dX6_chooseFor_21 rfl ?_
        refine ev_iload_n dX6_chooseFor_23 rfl ?_
        refine ev_icmp_gt 144 dX6_chooseFor_24 (by decide) (fun hc24 => False.elim (nI_nlt hsW (by omega) hc24)) (fun hc24 => ?_)
        refine ev_iload dX6_chooseFor_27 rfl ?_
        refine ev_iload_n dX6_chooseFor_29 rfl ?_
        refine ev_iand dX6_chooseFor_30 ?_
        refine ev_iload dX6_chooseFor_31 rfl ?_
        refine ev_icmp_eq 39 dX6_chooseFor_33 (by decide) (fun hc33 => ?_) (fun hc33 => False.elim (hc33 (by rw [fa_and, hm])))
        refine u _ _ ?_
        refine ev_iload dX6_chooseFor_99 rfl ?_
        refine ev_iload dX6_chooseFor_101 rfl ?_
        refine ev_icmp_gt 126 dX6_chooseFor_103 (by decide) (fun hc103 => False.elim (nI_nlt (Nat.le_of_lt g) (by omega) hc103)) (fun hc103 => ?_)
        refine ev_iload dX6_chooseFor_106 rfl ?_
        refine ev_iload dX6_chooseFor_108 rfl ?_
        refine ev_icmp_ne 138 dX6_chooseFor_110 (by decide) (fun hc110 => ?_) (fun hc110 => False.elim (absurd ((nI_eq (by omega) (by omega)).mp hc110) (Nat.ne_of_lt g)))
        refine ev_iinc (v := (nI 1)) dX6_chooseFor_138 rfl (by decide) (by decide) rfl ?_
        refine ev_goto 21 dX6_chooseFor_141 (by decide) ?_
        exact ev_stw hE (by simp [rf_sub, nI_add]) rfl rfl
  · rcases hst with ⟨z1, z2⟩ | ⟨b, hB, e1, e2, e3⟩
    · exact absurd (by rw [z1]; exact Nat.zero_and _) hm
    · refine ⟨C, bs, bm, bk, fun r M' hE => ?_, hF, Or.inr ⟨b, hB.no hm, e1, e2, e3⟩⟩
      have hle : s &&& wnL (rlB C0) nq l ≤ s := Nat.and_le_left
      refine ev_iload dX6_chooseFor_21 rfl ?_
      refine ev_iload_n dX6_chooseFor_23 rfl ?_
      refine ev_icmp_gt 144 dX6_chooseFor_24 (by decide) (fun hc24 => False.elim (nI_nlt hsW (by omega) hc24)) (fun hc24 => ?_)
      refine ev_iload dX6_chooseFor_27 rfl ?_
      refine ev_iload_n dX6_chooseFor_29 rfl ?_
      refine ev_iand dX6_chooseFor_30 ?_
      refine ev_iload dX6_chooseFor_31 rfl ?_
      refine ev_icmp_eq 39 dX6_chooseFor_33 (by decide) (fun hc33 => False.elim (hm ((nI_eq (by omega) (by omega)).mp (by rw [← fa_and]; exact hc33)))) (fun hc33 => ?_)
      refine ev_goto 138 dX6_chooseFor_36 (by decide) ?_
      refine ev_iinc (v := (nI 1)) dX6_chooseFor_138 rfl (by decide) (by decide) rfl ?_
      refine ev_goto 21 dX6_chooseFor_141 (by decide) ?_
      exact ev_stw hE (by simp [rf_sub, nI_add]) rfl rfl
set_option maxRecDepth 20000 in
set_option maxHeartbeats 2000000 in
theorem ch_all {n d nl nr nq h l : Nat} {tm : Nat → Nat} {C0 G0 C1 : rf_Mem} (hS : Sim true 21 0 n d nl nr tm C0 G0) (hQ : Rq nq nl nr C0 G0) (hh : h ≤ 200) (hl : l < nl) (h1 : Fq C0 C1) : ∀ (m s : Nat) (bs bm bk : Int32) (C : rf_Mem), wnL (rlB C0) nq l + 1 - s = m → s ≤ wnL (rlB C0) nq l + 1 → Fk C1 C → ChS C0 n nr nq h l s bs bm bk → ∃ C' bs' bm' bk', (∀ r M', Ev LayC mX6_chooseFor 21 [some (.ref 0), some (.int (nI l)), some (.int (nI h)), some (.int (nI (wnL (rlB C0) nq l))), some (.int (bs')), some (.int (bm')), some (.int (bk')), some (.int (nI (wnL (rlB C0) nq l + 1))), none, none] [] C' r M' → Ev LayC mX6_chooseFor 21 [some (.ref 0), some (.int (nI l)), some (.int (nI h)), some (.int (nI (wnL (rlB C0) nq l))), some (.int (bs)), some (.int (bm)), some (.int (bk)), some (.int (nI (s))), none, none] [] C r M') ∧ Fk C1 C' ∧ ChS C0 n nr nq h l (wnL (rlB C0) nq l + 1) bs' bm' bk' := by
  intro m
  induction m with
  | zero =>
    intro s bs bm bk C hm hs hF hst
    have e : s = wnL (rlB C0) nq l + 1 := by omega
    subst e
    exact ⟨C, bs, bm, bk, fun _ _ hE => hE, hF, hst⟩
  | succ m ih =>
    intro s bs bm bk C hm hs hF hst
    obtain ⟨C1', bs1, bm1, bk1, u1, hF1, hst1⟩ := ch_one hS hQ hh hl h1 (by omega) hF hst
    obtain ⟨C2, bs2, bm2, bk2, u2, hF2, hst2⟩ := ih (s + 1) bs1 bm1 bk1 C1' (by omega) (by omega) hF1 hst1
    exact ⟨C2, bs2, bm2, bk2, fun r M' hE => u1 _ _ (u2 _ _ hE), hF2, hst2⟩
set_option maxRecDepth 20000 in
set_option maxHeartbeats 2000000 in
theorem e_chooseFor {n d nl nr nq h l : Nat} {tm : Nat → Nat} {C0 G0 C1 : rf_Mem} (hS : Sim true 21 0 n d nl nr tm C0 G0) (hQ : Rq nq nl nr C0 G0) (hh : h ≤ 200) (hl : l < nl) (h1 : Fq C0 C1) {b : Nat} (hB : Bst (DW C0 nq l) (fun S => flB C0 n nr nq h S l) cN b) : ∃ C', Ev LayC mX6_chooseFor 0 (rf_ent 10 [.ref 0, .int (nI l), .int (nI h)]) [] C1 none C' ∧ Fq C1 C' ∧ C' 18 0 = C1 18 0 ||| nI b ∧ C' 18 1 = C1 18 1 + nI (flB C0 n nr nq h b l) ∧ C' 18 2 = C1 18 2 ||| (if kqB C0 n nr nq h b l = true then nI 0 else nI 1 <<< (nI l &&& 31)) := by
  have hnq := hQ.2.2.1
  have l3 := hS.1.2.2.1
  have hW : wnL (rlB C0) nq l < 1024 := wn_lt hnq
  obtain ⟨C2, bs, bm, bk, u, hF, hst⟩ := ch_all hS hQ hh hl h1 (wnL (rlB C0) nq l + 1) 0 (nI 0) (-1) (nI 0) C1 (by omega) (Nat.zero_le _) ⟨fun _ _ => rfl, h1.2⟩ (Or.inl ⟨rfl, rfl⟩)
  rcases hst with ⟨z1, -⟩ | ⟨b', hB', e1, e2, e3⟩
  · omega
  have e0 : b' = b := Bst.one hB' hB
  subst e0
  subst e1 e2 e3
  have hfl : kset (fun r => decide (C1 16 r = nI l)) nq = nI (wnL (rlB C0) nq l) := by
    rw [wnL, ← kset_N _ nq (by omega)]
    refine kset_cong (fun i hi => ?_)
    obtain ⟨-, -, -, -, ⟨v, a1, a2⟩, -⟩ := hQ.2.2.2 i hi
    have e5 : rlB C0 i = v := by rw [rlB, a2]; exact nI_clamp (by omega)
    rw [h1.1 16 (by decide) (by decide), a2, e5]
    exact decide_eq_decide.mpr (nI_eq (by omega) (by omega))
  have x18 : C2 18 = C1 18 := hF.1 18 (by decide)
  refine ⟨rf_set (rf_set (rf_set C2 18 0 (C2 18 0 ||| nI b')) 18 1 (C2 18 1 + nI (flB C0 n nr nq h b' l))) 18 2 (C2 18 2 ||| (if kqB C0 n nr nq h b' l = true then nI 0 else nI 1 <<< (nI l &&& 31))), ?_, ⟨fun a ha hb => ?_, ?_⟩, ?_, ?_, ?_⟩
  · refine ev_aload_n dX6_chooseFor_0 rfl ?_
    refine ev_getR dX6_chooseFor_1 fX6_49 (by first | assumption | rfl) (by rfl) ?_
    refine ev_iload_n dX6_chooseFor_4 rfl ?_
    refine ev_cV1 dX6_chooseFor_5 ceX3_forLine kX6_249 (rm_le rfl rfl) (Nat.le_of_ble_eq_true rfl) (Nat.le_of_ble_eq_true rfl) (e_forLine (by rw [h1.1 14 (by decide) (by decide)]; exact hQ.1) hnq) (by first | assumption | rfl) ?_
    rw [hfl]
    refine ev_istore_k 3 dX6_chooseFor_8 rfl (by decide) rfl ?_
    refine ev_iconst (v := (nI 0)) dX6_chooseFor_9 (by decide) ?_
    refine ev_istore dX6_chooseFor_10 (by decide) rfl ?_
    refine ev_iconst (v := (-1)) dX6_chooseFor_12 (by decide) ?_
    refine ev_istore dX6_chooseFor_13 (by decide) rfl ?_
    refine ev_iconst (v := (nI 0)) dX6_chooseFor_15 (by decide) ?_
    refine ev_istore dX6_chooseFor_16 (by decide) rfl ?_
    refine ev_iconst (v := (nI 0)) dX6_chooseFor_18 (by decide) ?_
    refine ev_istore dX6_chooseFor_19 (by decide) rfl ?_
    refine ev_stw (u _ _ ?_) ⟨rfl, rfl, rfl, rfl, rfl, rfl, rfl, rfl, trivial⟩ rfl rfl
    refine ev_iload dX6_chooseFor_21 rfl ?_
    refine ev_iload_n dX6_chooseFor_23 rfl ?_
    refine ev_icmp_gt 144 dX6_chooseFor_24 (by decide) (fun hc24 => ?_) (fun hc24 => False.elim (hc24 (nI_lt (Nat.lt_succ_self _) (by omega))))
    refine ev_aload_n dX6_chooseFor_144 rfl ?_
    refine ev_getR dX6_chooseFor_145 fX6_56 (by first | assumption | rfl) (by rfl) ?_
    refine ev_iload_n dX6_chooseFor_148 rfl ?_
    refine ev_iload dX6_chooseFor_149 rfl ?_
    refine ev_iload dX6_chooseFor_151 rfl ?_
    refine ev_iload dX6_chooseFor_153 rfl ?_
    refine ev_cV4v dX6_chooseFor_155 ceX0_addLine kX6_261 (rm_le rfl rfl) (Nat.le_of_ble_eq_true rfl) (Nat.le_of_ble_eq_true rfl) (e_chAdd) (by first | assumption | rfl) ?_
    exact ev_vretE dX6_chooseFor_158 rfl rfl (rfl)
  · rw [gs_q _ _ _ ha, gs_q _ _ _ ha, gs_q _ _ _ ha]; exact hF.1 a hb
  · rw [gs_q _ _ _ (by decide), gs_q _ _ _ (by decide), gs_q _ _ _ (by decide)]; exact hF.2
  · rw [gs_k _ _ _ (by decide), gs_k _ _ _ (by decide), gs_same, x18]
  · rw [gs_k _ _ _ (by decide), gs_same, x18]
  · rw [gs_same, x18]
