/-! ops: span -/
def Fs (C0 G0 C G : rf_Mem) : Prop := (∀ a, a < 33 ∨ 45 ≤ a → C a = C0 a) ∧ (∃ k, C 41 3 = nI k ∧ k ≤ 300) ∧ (∀ a, a ≠ 1 → G a = G0 a) ∧ ∀ j, j < 1500 ∨ 3000 ≤ j → G 1 j = G0 1 j
theorem Fs.sim {n d nl nr : Nat} {tm : Nat → Nat} {C0 G0 C G : rf_Mem} (h : Fs C0 G0 C G) (hS : Sim true 21 0 n d nl nr tm C0 G0) : Sim true 21 0 n d nl nr tm C G := hS.frame (hS.1.frame (fun a ha => h.1 a (by omega)) (fun a ha => h.2.2.1 a (by omega))) (fun a _ _ => h.1 a (by omega)) (fun j _ _ => h.2.2.2 j (by omega))
/-- the trial begins -/
theorem trial_0 {n d nl nr : Nat} {tm : Nat → Nat} {C0 G0 C G : rf_Mem} (h : Fs C0 G0 C G) (hS : Sim true 21 0 n d nl nr tm C0 G0) : Sim false 33 1500 n d nl nr tm (cpB 33 21 C) (cpW G 0 1500 1500) ∧ Fs C0 G0 (cpB 33 21 C) (cpW G 0 1500 1500) := by
  have hS1 := h.sim hS
  obtain ⟨f1, ⟨kt, k1, k2⟩, f3, f4⟩ := h
  obtain ⟨v1, v2, v3, v4⟩ := cpB_v (q := 33) (z := 21) (C := C) (by omega)
  obtain ⟨w1, w2, w3⟩ := cpW_v (G := G) (x := 0) (y := 1500)
  have hL : Lb nl nr tm (cpB 33 21 C) (cpW G 0 1500 1500) := hS1.1.frame (fun a ha => v4 a (by omega)) (fun a ha => w3 a (by omega))
  have kk : cpB 33 21 C (33 + 8) 3 = nI kt := by rw [v4 _ (by omega)]; exact k1
  refine ⟨hS1.move hL v1 v2 v3 false ⟨kt, kk, k2⟩ (fun z => by cases z) (fun j hj _ => w1 j hj), fun a ha => (v4 a (by omega)).trans (f1 a ha), ⟨kt, kk, k2⟩, fun a ha => (w3 a ha).trans (f3 a ha), fun j hj => (w2 j (by omega)).trans (f4 j hj)⟩
/-- and goes on -/
theorem Fs.on {w : Bool} {n d nl nr : Nat} {tm : Nat → Nat} {C0 G0 C G C' G' : rf_Mem} (h : Fs C0 G0 C G) (hS : Sim w 33 1500 n d nl nr tm C' G') (hC : FrC 33 C C') (hG : FrG 1500 G G') : Fs C0 G0 C' G' := by
  obtain ⟨f1, -, f3, f4⟩ := h
  obtain ⟨-, -, k, k', q1, q2, -⟩ := hS
  exact ⟨fun a ha => (hC a (by omega)).trans (f1 a ha), ⟨k, q1, q2⟩, fun a ha => (hG.1 a ha).trans (f3 a ha), fun j hj => (hG.2 j (by omega)).trans (f4 j hj)⟩
set_option maxRecDepth 20000 in
set_option maxHeartbeats 2000000 in
theorem sim_spanOne {n d nl nr N K i : Nat} {tm : Nat → Nat} {C0 G0 C G : rf_Mem} (x a b a9 b9 s : Int32) (hN : N ≤ 100) (hK : K ≤ 20) (hi : i < K) (hn : 0 < n) (hs : ¬ s < 0) (hS : Sim true 21 0 n d nl nr tm C0 G0) (hF : Fs C0 G0 C G) : ∃ (C' G' : rf_Mem) (s' : Int32) (m : Nat), m ≤ 16 ∧ ¬ s' < 0 ∧ (∀ r M', Ev LayC mX6_span 66 [some (.ref 0), some (.int (nI N)), some (.int (nI K)), some (.int x), some (.int (if nI m < a then nI m else a)), some (.int (if b < nI m then nI m else b)), some (.int s'), some (.int (nI (i + 1))), none] [] C' r M' → Ev LayC mX6_span 66 [some (.ref 0), some (.int (nI N)), some (.int (nI K)), some (.int x), some (.int a), some (.int b), some (.int s), some (.int (nI (i))), none] [] C r M') ∧ (∀ r M', Ev LayM mX7_span 71 [some (.ref 0), some (.int (nI N)), some (.int (nI K)), some (.int x), some (.int (if a9 ≤ nI m then a9 else nI m)), some (.int (if nI m ≤ b9 then b9 else nI m)), some (.int s'), some (.int (nI (i + 1))), none] [] G' r M' → Ev LayM mX7_span 71 [some (.ref 0), some (.int (nI N)), some (.int (nI K)), some (.int x), some (.int a9), some (.int b9), some (.int s), some (.int (nI (i))), none] [] G r M') ∧ Fs C0 G0 C' G' := by
  obtain ⟨hT0, hF0⟩ := trial_0 hF hS
  obtain ⟨hT1, f1, f2⟩ := sim_seed (v := s) (by decide) hT0 hs
  have hF1 := hF0.on hT1 f1 f2
  obtain ⟨C2, G2, d2, eC, eG, hT2, f3, f4⟩ := sim_live (N := N) st_33 (show 1500 ≤ 4500 by decide) hn (by omega) hT1
  have hF2 := hF1.on hT2 f3 f4
  have hL2 := hT2.1
  have e5 : C2 33 11 = G2 1 (1500 + 1335) := hT2.2.1.2.2.1.1
  have w1 : C2 33 9 = nI n := hT2.2.1.1.1
  have w2 : G2 1 (1500 + 1332) = nI n := hT2.2.1.1.2.1
  have w3 : n ≤ 40 := hT2.2.1.1.2.2.1
  obtain ⟨m, hm⟩ : ∃ m, m = fb_ct (kpB C2 33 n nr (nI 0)) nl := ⟨_, rfl⟩
  have hm16 : m ≤ 16 := by rw [hm]; exact Nat.le_trans (fb_ct_le _ _) hL2.2.2.1
  have hm2 : fb_ct (kpM G2 1500 n nr) nl = m := by rw [hm]; exact fb_ct_cong (fun l hl => kp_same hT2 hl)
  refine ⟨C2, G2, C2 33 11, m, hm16, hT2.2.1.2.2.1.2, fun r M' hE => ?_, fun r M' hE => ?_, hF2⟩
  · refine ev_iload dX6_span_66 rfl ?_
    refine ev_iload_n dX6_span_68 rfl ?_
    refine ev_icmp_ge 143 dX6_span_69 (by decide) (fun hc69 => False.elim (nI_ge hi (by omega) hc69)) (fun hc69 => ?_)
    refine ev_aload_n dX6_span_72 rfl ?_
    refine ev_getR dX6_span_73 fX6_35 (by first | assumption | rfl) (by rfl) ?_
    refine ev_aload_n dX6_span_76 rfl ?_
    refine ev_getR dX6_span_77 fX6_31 (by first | assumption | rfl) (by rfl) ?_
    refine ev_cV1v dX6_span_80 ceX5_copyBooks kX6_252 (rm_le rfl rfl) (Nat.le_of_ble_eq_true rfl) (Nat.le_of_ble_eq_true rfl) (e_copyBooks st_33 st_21) (by first | assumption | rfl) ?_
    refine ev_aload_n dX6_span_83 rfl ?_
    refine ev_getR dX6_span_84 fX6_35 (by first | assumption | rfl) (by rfl) ?_
    refine ev_iload dX6_span_87 rfl ?_
    refine ev_put dX6_span_89 pX6_301 (by first | assumption | rfl) (by rfl) (rfl) (rfl) ?_
    refine ev_aload_n dX6_span_92 rfl ?_
    refine ev_getR dX6_span_93 fX6_35 (by first | assumption | rfl) (by rfl) ?_
    refine ev_iload_n dX6_span_96 rfl ?_
    refine ev_cV1v dX6_span_97 ceX5_liveByDraws kX6_214 (rm_le rfl rfl) (Nat.le_of_ble_eq_true rfl) (Nat.le_of_ble_eq_true rfl) (eC) (by first | assumption | rfl) ?_
    refine ev_aload_n dX6_span_100 rfl ?_
    refine ev_getR dX6_span_101 fX6_35 (by first | assumption | rfl) (by rfl) ?_
    refine ev_getI dX6_span_104 fX6_301 (by first | assumption | rfl) (by rfl) ?_
    refine ev_istore dX6_span_107 (by decide) rfl ?_
    refine ev_aload_n dX6_span_109 rfl ?_
    refine ev_getR dX6_span_110 fX6_35 (by first | assumption | rfl) (by rfl) ?_
    refine ev_iconst (v := (nI 0)) dX6_span_113 (by decide) ?_
    refine ev_cV1 dX6_span_114 ceX5_countKept kX6_119 (rm_le rfl rfl) (Nat.le_of_ble_eq_true rfl) (Nat.le_of_ble_eq_true rfl) (e_countKept st_33 w1 w3 hL2.2.2.2.1 hL2.2.2.2.2.2.1 hL2.1 hL2.2.2.1) (by first | assumption | rfl) ?_
    rw [← hm]
    refine ev_istore dX6_span_117 (by decide) rfl ?_
    refine ev_iload dX6_span_119 rfl ?_
    refine ev_iload dX6_span_121 rfl ?_
    refine ev_mmin dX6_span_123 kX6_304 (Nat.le_of_ble_eq_true rfl) (Nat.le_of_ble_eq_true rfl) ?_
    refine ev_istore dX6_span_126 (by decide) rfl ?_
    refine ev_iload dX6_span_128 rfl ?_
    refine ev_iload dX6_span_130 rfl ?_
    refine ev_mmax dX6_span_132 kX6_309 (Nat.le_of_ble_eq_true rfl) (Nat.le_of_ble_eq_true rfl) ?_
    refine ev_istore dX6_span_135 (by decide) rfl ?_
    refine ev_iinc (v := (nI 1)) dX6_span_137 rfl (by decide) (by decide) rfl ?_
    refine ev_goto 66 dX6_span_140 (by decide) ?_
    exact ev_stw hE (by simp [rf_sub, nI_add]) rfl rfl
  · refine ev_iload dX7_span_71 rfl ?_
    refine ev_iload_n dX7_span_73 rfl ?_
    refine ev_icmp_ge 160 dX7_span_74 (by decide) (fun hc74 => False.elim (nI_ge hi (by omega) hc74)) (fun hc74 => ?_)
    refine ev_aload_n dX7_span_77 rfl ?_
    refine ev_iconst (v := (nI 0)) dX7_span_78 (by decide) ?_
    refine ev_sipush (v := (nI 1500)) dX7_span_79 (by decide) ?_
    refine ev_cV2v dX7_span_82 ceX7_copyRow kX7_229 (rm_le rfl rfl) (Nat.le_of_ble_eq_true rfl) (Nat.le_of_ble_eq_true rfl) (e7_copyRow (x := 0) (y := 1500) (by decide) (by decide) (by decide)) (by first | assumption | rfl) ?_
    refine ev_aload_n dX7_span_85 rfl ?_
    refine ev_getR dX7_span_86 fX7_7 (by first | assumption | rfl) (by rfl) ?_
    refine ev_sipush (v := (nI 2835)) dX7_span_89 (by decide) ?_
    refine ev_iload dX7_span_92 rfl ?_
    refine ev_iastE _ dX7_span_94 (by first | with_reducible rfl | with_reducible exact nI_add _ _ | with_reducible exact ix3 _ _ _ | with_reducible exact ix_k _ _ _ | with_reducible exact ix_xk _ _ _ _) (by first | assumption | rfl) ⟨by omega, by decide⟩ ?_
    refine ev_aload_n dX7_span_95 rfl ?_
    refine ev_sipush (v := (nI 1500)) dX7_span_96 (by decide) ?_
    refine ev_iload_n dX7_span_99 rfl ?_
    refine ev_cV2v dX7_span_100 ceX7_runDays kX7_214 (rm_le rfl rfl) (Nat.le_of_ble_eq_true rfl) (Nat.le_of_ble_eq_true rfl) (eG) (by first | assumption | rfl) ?_
    refine ev_aload_n dX7_span_103 rfl ?_
    refine ev_getR dX7_span_104 fX7_7 (by first | assumption | rfl) (by rfl) ?_
    refine ev_sipush (v := (nI 2835)) dX7_span_107 (by decide) ?_
    refine ev_ialdE _ dX7_span_110 (by first | with_reducible rfl | with_reducible exact nI_add _ _ | with_reducible exact ix3 _ _ _ | with_reducible exact ix_k _ _ _ | with_reducible exact ix_xk _ _ _ _) (by first | assumption | rfl) ⟨by omega, by decide⟩ ?_
    refine ev_istore dX7_span_111 (by decide) rfl ?_
    refine ev_aload_n dX7_span_113 rfl ?_
    refine ev_sipush (v := (nI 1500)) dX7_span_114 (by decide) ?_
    refine ev_cV1 dX7_span_117 ceX7_keptMany kX7_145 (rm_le rfl rfl) (Nat.le_of_ble_eq_true rfl) (Nat.le_of_ble_eq_true rfl) (e7_keptMany (x := 1500) (by decide) w2 w3 hL2.2.2.2.2.1 hL2.2.2.2.2.2.1 hL2.2.1 hL2.2.2.1) (by first | assumption | rfl) ?_
    rw [hm2]
    refine ev_istore dX7_span_120 (by decide) rfl ?_
    refine ev_iload dX7_span_122 rfl ?_
    refine ev_iload dX7_span_124 rfl ?_
    refine ev_icmp_ge 134 dX7_span_126 (by decide) (fun hc126 => ?_) (fun hc126 => ?_)
    · refine ev_iload dX7_span_134 rfl ?_
      refine ev_istore dX7_span_136 (by decide) rfl ?_
      refine ev_iload dX7_span_138 rfl ?_
      refine ev_iload dX7_span_140 rfl ?_
      refine ev_icmp_le 150 dX7_span_142 (by decide) (fun hc142 => ?_) (fun hc142 => ?_)
      · refine ev_iload dX7_span_150 rfl ?_
        refine ev_istore dX7_span_152 (by decide) rfl ?_
        refine ev_iinc (v := (nI 1)) dX7_span_154 rfl (by decide) (by decide) rfl ?_
        refine ev_goto 71 dX7_span_157 (by decide) ?_
        exact ev_stw hE (by clear hm hm2; simp [rf_sub, nI_add, e5, *]) rfl rfl
      · refine ev_iload dX7_span_145 rfl ?_
        refine ev_goto 152 dX7_span_147 (by decide) ?_
        refine ev_istore dX7_span_152 (by decide) rfl ?_
        refine ev_iinc (v := (nI 1)) dX7_span_154 rfl (by decide) (by decide) rfl ?_
        refine ev_goto 71 dX7_span_157 (by decide) ?_
        exact ev_stw hE (by clear hm hm2; simp [rf_sub, nI_add, e5, *]) rfl rfl
    · refine ev_iload dX7_span_129 rfl ?_
      refine ev_goto 136 dX7_span_131 (by decide) ?_
      refine ev_istore dX7_span_136 (by decide) rfl ?_
      refine ev_iload dX7_span_138 rfl ?_
      refine ev_iload dX7_span_140 rfl ?_
      refine ev_icmp_le 150 dX7_span_142 (by decide) (fun hc142 => ?_) (fun hc142 => ?_)
      · refine ev_iload dX7_span_150 rfl ?_
        refine ev_istore dX7_span_152 (by decide) rfl ?_
        refine ev_iinc (v := (nI 1)) dX7_span_154 rfl (by decide) (by decide) rfl ?_
        refine ev_goto 71 dX7_span_157 (by decide) ?_
        exact ev_stw hE (by clear hm hm2; simp [rf_sub, nI_add, e5, *]) rfl rfl
      · refine ev_iload dX7_span_145 rfl ?_
        refine ev_goto 152 dX7_span_147 (by decide) ?_
        refine ev_istore dX7_span_152 (by decide) rfl ?_
        refine ev_iinc (v := (nI 1)) dX7_span_154 rfl (by decide) (by decide) rfl ?_
        refine ev_goto 71 dX7_span_157 (by decide) ?_
        exact ev_stw hE (by clear hm hm2; simp [rf_sub, nI_add, e5, *]) rfl rfl
theorem sp_1 {m : Nat} (hm : m ≤ 16) : (if nI m < nI 16 then nI m else nI 16) = nI m ∧ (if nI 0 < nI m then nI m else nI 0) = nI m ∧ (if nI 99 ≤ nI m then nI 99 else nI m) = nI m ∧ (if nI m ≤ (-1) then (-1) else nI m) = nI m := by
  refine ⟨?_, ?_, if_neg (nI_ge (by omega) (by decide)), if_neg (fun z => ?_)⟩
  · by_cases h : m < 16
    · rw [if_pos (nI_lt h (by decide))]
    · have e : m = 16 := by omega
      rw [e]; decide
  · by_cases h : 0 < m
    · rw [if_pos (nI_lt h (by omega))]
    · have e : m = 0 := by omega
      rw [e]; decide
  · rw [fa_le, nI_toInt (by omega)] at z
    have : (-1 : Int32).toInt = -1 := rfl
    omega
theorem sp_2 (a b u : Int32) : (if u < a then u else a) = (if a ≤ u then a else u) ∧ (if b < u then u else b) = (if u ≤ b then b else u) := by
  constructor
  · by_cases h : a ≤ u
    · rw [if_pos h, if_neg (fun z => (fa_of_lt z).2.1 h)]
    · rw [if_neg h, if_pos (fa_of_nle h)]
  · by_cases h : u ≤ b
    · rw [if_pos h, if_neg (fun z => (fa_of_lt z).2.1 h)]
    · rw [if_neg h, if_pos (fa_of_nle h)]
set_option maxRecDepth 20000 in
set_option maxHeartbeats 2000000 in
theorem sim_spans {n d nl nr N K : Nat} {tm : Nat → Nat} {C0 G0 : rf_Mem} (x : Int32) (hN : N ≤ 100) (hK1 : 1 ≤ K) (hK : K ≤ 20) (hn : 0 < n) (hS : Sim true 21 0 n d nl nr tm C0 G0) : ∀ (u i : Nat) (a b a9 b9 s : Int32) (C G : rf_Mem), K - i = u → i ≤ K → ¬ s < 0 → ((i = 0 ∧ a = nI 16 ∧ b = nI 0 ∧ a9 = nI 99 ∧ b9 = -1) ∨ (a = a9 ∧ b = b9)) → Fs C0 G0 C G → ∃ (C' G' : rf_Mem) (a2 b2 : Int32), Ev LayC mX6_span 66 [some (.ref 0), some (.int (nI N)), some (.int (nI K)), some (.int x), some (.int a), some (.int b), some (.int s), some (.int (nI (i))), none] [] C (some (.int (if x = 0 then a2 else b2))) C' ∧ Ev LayM mX7_span 71 [some (.ref 0), some (.int (nI N)), some (.int (nI K)), some (.int x), some (.int a9), some (.int b9), some (.int s), some (.int (nI (i))), none] [] G (some (.int (if x = 0 then a2 else b2))) G' ∧ Fs C0 G0 C' G' := by
  intro u
  induction u with
  | zero =>
    intro i a b a9 b9 s C G hu hi hs hr hF
    have e1 : i = K := by omega
    subst e1
    have e2 : a = a9 ∧ b = b9 := by
      rcases hr with y | y
      · omega
      · exact y
    obtain ⟨rfl, rfl⟩ := e2
    refine ⟨C, G, a, b, ?_, ?_, hF⟩
    · refine ev_iload dX6_span_66 rfl ?_
      refine ev_iload_n dX6_span_68 rfl ?_
      refine ev_icmp_ge 143 dX6_span_69 (by decide) (fun hc69 => ?_) (fun hc69 => False.elim (hc69 (nI_le (Nat.le_refl _) (by omega))))
      refine ev_iload_n dX6_span_143 rfl ?_
      refine ev_if_ne 152 dX6_span_144 (by decide) (fun hc144 => ?_) (fun hc144 => ?_)
      · refine ev_iload dX6_span_152 rfl ?_
        exact ev_iretE dX6_span_154 rfl rfl (by first | (rw [if_neg hc144]) | (rw [if_pos hc144])) (rfl)
      · refine ev_iload dX6_span_147 rfl ?_
        refine ev_goto 154 dX6_span_149 (by decide) ?_
        exact ev_iretE dX6_span_154 rfl rfl (by first | (rw [if_neg hc144]) | (rw [if_pos hc144])) (rfl)
    · refine ev_iload dX7_span_71 rfl ?_
      refine ev_iload_n dX7_span_73 rfl ?_
      refine ev_icmp_ge 160 dX7_span_74 (by decide) (fun hc74 => ?_) (fun hc74 => False.elim (hc74 (nI_le (Nat.le_refl _) (by omega))))
      refine ev_iload_n dX7_span_160 rfl ?_
      refine ev_if_ne 169 dX7_span_161 (by decide) (fun hc161 => ?_) (fun hc161 => ?_)
      · refine ev_iload dX7_span_169 rfl ?_
        exact ev_iretE dX7_span_171 rfl rfl (by first | (rw [if_neg hc161]) | (rw [if_pos hc161])) (rfl)
      · refine ev_iload dX7_span_164 rfl ?_
        refine ev_goto 171 dX7_span_166 (by decide) ?_
        exact ev_iretE dX7_span_171 rfl rfl (by first | (rw [if_neg hc161]) | (rw [if_pos hc161])) (rfl)
  | succ u ih =>
    intro i a b a9 b9 s C G hu hi hs hr hF
    obtain ⟨C1, G1, s1, m, hm, hs1, u1, u2, hF1⟩ := sim_spanOne x a b a9 b9 s hN hK (show i < K by omega) hn hs hS hF
    have hr1 : ((if nI m < a then nI m else a) = (if a9 ≤ nI m then a9 else nI m) ∧ (if b < nI m then nI m else b) = (if nI m ≤ b9 then b9 else nI m)) := by
      rcases hr with ⟨-, y1, y2, y3, y4⟩ | ⟨y1, y2⟩
      · rw [y1, y2, y3, y4]; obtain ⟨z1, z2, z3, z4⟩ := sp_1 hm; exact ⟨z1.trans z3.symm, z2.trans z4.symm⟩
      · rw [y1, y2]; exact sp_2 a9 b9 (nI m)
    obtain ⟨C2, G2, a2, b2, u3, u4, hF2⟩ := ih (i + 1) _ _ _ _ s1 C1 G1 (by omega) (by omega) hs1 (Or.inr hr1) hF1
    exact ⟨C2, G2, a2, b2, u1 _ _ u3, u2 _ _ u4, hF2⟩
set_option maxRecDepth 20000 in
set_option maxHeartbeats 2000000 in
theorem op_span {n0 k0 x : Int32} : OpOk mX6_span mX7_span [.int n0, .int k0, .int x] := by
  intro C G hR
  have hR0 := hR
  obtain ⟨nl, nr, tm, n, d, nq, tl, nd, b0, b1, kt, hp⟩ := hR
  obtain ⟨hS, hE, hQ, hT, hDr, hI, hkt, hkt3⟩ := id hp
  have hL := hS.1
  obtain ⟨l1, m1, l3, r1, m2, l6, le, lw, lr⟩ := id hL
  obtain ⟨hP, ⟨d1, d2, d3⟩, ⟨s1, s2⟩, hH⟩ := id hS.2.1
  obtain ⟨p1, p2, p3, p4, p5⟩ := id hP
  rw [Nat.zero_add] at p2 d2 s1
  obtain ⟨-, -, k, k', q1, q2, q3, q4, q5⟩ := id hS
  obtain ⟨ke, kl⟩ := q5 rfl
  subst ke
  obtain ⟨-, -, -, kl4⟩ := id kl
  rw [Nat.zero_add] at q3
  rcases rg1 n0 (m := 100) (by decide) with ⟨N, hN1, hN, e1, c1, c2, k1⟩ | ⟨k1, c1 | ⟨c1, c2⟩⟩
  · subst e1
    rcases rg1 k0 (m := 20) (by decide) with ⟨K, hK1, hK, e2, c3, c4, k2⟩ | ⟨k2, c3 | ⟨c3, c4⟩⟩
    · subst e2
      rcases rg0 x (m := 1) (by decide) with ⟨v, hv, e3, c5, c6, k3⟩ | ⟨k3, c5 | ⟨c5, c6⟩⟩
      · rcases Nat.eq_zero_or_pos n with hn0 | hn0
        · refine ⟨(-1000000003), C, G, ?_, ?_, hR0⟩
          · refine ev_iload_n dX6_span_0 rfl ?_
            refine ev_iconst (v := (nI 1)) dX6_span_1 (by decide) ?_
            refine ev_icmp_lt 31 dX6_span_2 (by decide) (fun hc2 => False.elim (c1 hc2)) (fun hc2 => ?_)
            refine ev_iload_n dX6_span_5 rfl ?_
            refine ev_bipush (v := (nI 100)) dX6_span_6 (by decide) ?_
            refine ev_icmp_gt 31 dX6_span_8 (by decide) (fun hc8 => False.elim ((fa_of_lt hc8).2.1 c2)) (fun hc8 => ?_)
            refine ev_iload_n dX6_span_11 rfl ?_
            refine ev_iconst (v := (nI 1)) dX6_span_12 (by decide) ?_
            refine ev_icmp_lt 31 dX6_span_13 (by decide) (fun hc13 => False.elim (c3 hc13)) (fun hc13 => ?_)
            refine ev_iload_n dX6_span_16 rfl ?_
            refine ev_bipush (v := (nI 20)) dX6_span_17 (by decide) ?_
            refine ev_icmp_gt 31 dX6_span_19 (by decide) (fun hc19 => False.elim ((fa_of_lt hc19).2.1 c4)) (fun hc19 => ?_)
            refine ev_iload_n dX6_span_22 rfl ?_
            refine ev_if_lt 31 dX6_span_23 (by decide) (fun hc23 => False.elim (c5 hc23)) (fun hc23 => ?_)
            refine ev_iload_n dX6_span_26 rfl ?_
            refine ev_iconst (v := (nI 1)) dX6_span_27 (by decide) ?_
            refine ev_icmp_le 34 dX6_span_28 (by decide) (fun hc28 => ?_) (fun hc28 => False.elim (hc28 c6))
            refine ev_aload_n dX6_span_34 rfl ?_
            refine ev_getR dX6_span_35 fX6_31 (by first | assumption | rfl) (by rfl) ?_
            refine ev_getI dX6_span_38 fX6_103 (by first | assumption | rfl) (by rfl) ?_
            refine ev_if_ne 47 dX6_span_41 (by decide) (fun hc41 => False.elim (hc41 (by rw [p1, hn0]; rfl))) (fun hc41 => ?_)
            refine ev_ldc (v := (-1000000003)) dX6_span_44 nX6_194 ?_
            exact ev_iretE dX6_span_46 rfl rfl (by first | rfl | simp_all) (rfl)
          · refine ev_iload_n dX7_span_0 rfl ?_
            refine ev_i2l dX7_span_1 ?_
            refine ev_lconst (v := 1) dX7_span_2 rfl ?_
            refine ev_ldc2 dX7_span_3 nX7_212 ?_
            refine ev_cS3 dX7_span_6 ceX7_in kX7_59 (rm_le rfl rfl) (Nat.le_of_ble_eq_true rfl) (Nat.le_of_ble_eq_true rfl) (e7_in) ?_
            rw [in_c _ (nI 1) (nI 100) (by decide) (by decide), k1]
            refine ev_if_eq 34 dX7_span_9 (by decide) (fun hc9 => False.elim (absurd hc9 (by decide))) (fun hc9 => ?_)
            refine ev_iload_n dX7_span_12 rfl ?_
            refine ev_i2l dX7_span_13 ?_
            refine ev_lconst (v := 1) dX7_span_14 rfl ?_
            refine ev_ldc2 dX7_span_15 nX7_256 ?_
            refine ev_cS3 dX7_span_18 ceX7_in kX7_59 (rm_le rfl rfl) (Nat.le_of_ble_eq_true rfl) (Nat.le_of_ble_eq_true rfl) (e7_in) ?_
            rw [in_c _ (nI 1) (nI 20) (by decide) (by decide), k2]
            refine ev_if_eq 34 dX7_span_21 (by decide) (fun hc21 => False.elim (absurd hc21 (by decide))) (fun hc21 => ?_)
            refine ev_iload_n dX7_span_24 rfl ?_
            refine ev_i2l dX7_span_25 ?_
            refine ev_lconst (v := 0) dX7_span_26 rfl ?_
            refine ev_lconst (v := 1) dX7_span_27 rfl ?_
            refine ev_cS3 dX7_span_28 ceX7_in kX7_59 (rm_le rfl rfl) (Nat.le_of_ble_eq_true rfl) (Nat.le_of_ble_eq_true rfl) (e7_in) ?_
            rw [in_c _ 0 (nI 1) (by decide) (by decide), k3]
            refine ev_if_ne 37 dX7_span_31 (by decide) (fun hc31 => ?_) (fun hc31 => False.elim (absurd hc31 (by decide)))
            refine ev_aload_n dX7_span_37 rfl ?_
            refine ev_getR dX7_span_38 fX7_7 (by first | assumption | rfl) (by rfl) ?_
            refine ev_sipush (v := (nI 1332)) dX7_span_41 (by decide) ?_
            refine ev_ialdE _ dX7_span_44 (by first | with_reducible rfl | with_reducible exact nI_add _ _ | with_reducible exact ix3 _ _ _ | with_reducible exact ix_k _ _ _ | with_reducible exact ix_xk _ _ _ _) (by first | assumption | rfl) ⟨by omega, by decide⟩ ?_
            refine ev_if_ne 51 dX7_span_45 (by decide) (fun hc45 => False.elim (hc45 (by rw [p2, hn0]; rfl))) (fun hc45 => ?_)
            refine ev_ldc (v := (-1000000003)) dX7_span_48 nX7_187 ?_
            exact ev_iretE dX7_span_50 rfl rfl (by first | rfl | simp_all) (rfl)
        · have hF : Fs C G C G := ⟨fun _ _ => rfl, ⟨kt, hkt, hkt3⟩, fun _ _ => rfl, fun _ _ => rfl⟩
          obtain ⟨C2, G2, a2, b2, u1, u2, hF2⟩ := sim_spans (N := N) (K := K) x hN hK1 hK hn0 hS K 0 (nI 16) (nI 0) (nI 99) (-1) (C 21 11) C G (by omega) (Nat.zero_le _) s2 (Or.inl ⟨rfl, rfl, rfl, rfl, rfl⟩) hF
          have hRn : Rg C2 G2 := hp.trial (fun a _ _ ha => hF2.1 a ha) hF2.2.1 (fun a _ h2 _ => hF2.2.2.1 a h2) (fun j _ => by rw [hF2.2.2.1 0 (by decide)]) hF2.2.2.2
          refine ⟨(if x = 0 then a2 else b2), C2, G2, ?_, ?_, hRn⟩
          · refine ev_iload_n dX6_span_0 rfl ?_
            refine ev_iconst (v := (nI 1)) dX6_span_1 (by decide) ?_
            refine ev_icmp_lt 31 dX6_span_2 (by decide) (fun hc2 => False.elim (c1 hc2)) (fun hc2 => ?_)
            refine ev_iload_n dX6_span_5 rfl ?_
            refine ev_bipush (v := (nI 100)) dX6_span_6 (by decide) ?_
            refine ev_icmp_gt 31 dX6_span_8 (by decide) (fun hc8 => False.elim ((fa_of_lt hc8).2.1 c2)) (fun hc8 => ?_)
            refine ev_iload_n dX6_span_11 rfl ?_
            refine ev_iconst (v := (nI 1)) dX6_span_12 (by decide) ?_
            refine ev_icmp_lt 31 dX6_span_13 (by decide) (fun hc13 => False.elim (c3 hc13)) (fun hc13 => ?_)
            refine ev_iload_n dX6_span_16 rfl ?_
            refine ev_bipush (v := (nI 20)) dX6_span_17 (by decide) ?_
            refine ev_icmp_gt 31 dX6_span_19 (by decide) (fun hc19 => False.elim ((fa_of_lt hc19).2.1 c4)) (fun hc19 => ?_)
            refine ev_iload_n dX6_span_22 rfl ?_
            refine ev_if_lt 31 dX6_span_23 (by decide) (fun hc23 => False.elim (c5 hc23)) (fun hc23 => ?_)
            refine ev_iload_n dX6_span_26 rfl ?_
            refine ev_iconst (v := (nI 1)) dX6_span_27 (by decide) ?_
            refine ev_icmp_le 34 dX6_span_28 (by decide) (fun hc28 => ?_) (fun hc28 => False.elim (hc28 c6))
            refine ev_aload_n dX6_span_34 rfl ?_
            refine ev_getR dX6_span_35 fX6_31 (by first | assumption | rfl) (by rfl) ?_
            refine ev_getI dX6_span_38 fX6_103 (by first | assumption | rfl) (by rfl) ?_
            refine ev_if_ne 47 dX6_span_41 (by decide) (fun hc41 => ?_) (fun hc41 => False.elim (nI_ne0 hn0 (by omega) (by rw [← p1]; exact hc41)))
            refine ev_bipush (v := (nI 16)) dX6_span_47 (by decide) ?_
            refine ev_istore dX6_span_49 (by decide) rfl ?_
            refine ev_iconst (v := (nI 0)) dX6_span_51 (by decide) ?_
            refine ev_istore dX6_span_52 (by decide) rfl ?_
            refine ev_aload_n dX6_span_54 rfl ?_
            refine ev_getR dX6_span_55 fX6_31 (by first | assumption | rfl) (by rfl) ?_
            refine ev_getI dX6_span_58 fX6_301 (by first | assumption | rfl) (by rfl) ?_
            refine ev_istore dX6_span_61 (by decide) rfl ?_
            refine ev_iconst (v := (nI 0)) dX6_span_63 (by decide) ?_
            refine ev_istore dX6_span_64 (by decide) rfl ?_
            exact ev_stw u1 ⟨rfl, rfl, rfl, rfl, rfl, rfl, rfl, rfl, trivial⟩ rfl rfl
          · refine ev_iload_n dX7_span_0 rfl ?_
            refine ev_i2l dX7_span_1 ?_
            refine ev_lconst (v := 1) dX7_span_2 rfl ?_
            refine ev_ldc2 dX7_span_3 nX7_212 ?_
            refine ev_cS3 dX7_span_6 ceX7_in kX7_59 (rm_le rfl rfl) (Nat.le_of_ble_eq_true rfl) (Nat.le_of_ble_eq_true rfl) (e7_in) ?_
            rw [in_c _ (nI 1) (nI 100) (by decide) (by decide), k1]
            refine ev_if_eq 34 dX7_span_9 (by decide) (fun hc9 => False.elim (absurd hc9 (by decide))) (fun hc9 => ?_)
            refine ev_iload_n dX7_span_12 rfl ?_
            refine ev_i2l dX7_span_13 ?_
            refine ev_lconst (v := 1) dX7_span_14 rfl ?_
            refine ev_ldc2 dX7_span_15 nX7_256 ?_
            refine ev_cS3 dX7_span_18 ceX7_in kX7_59 (rm_le rfl rfl) (Nat.le_of_ble_eq_true rfl) (Nat.le_of_ble_eq_true rfl) (e7_in) ?_
            rw [in_c _ (nI 1) (nI 20) (by decide) (by decide), k2]
            refine ev_if_eq 34 dX7_span_21 (by decide) (fun hc21 => False.elim (absurd hc21 (by decide))) (fun hc21 => ?_)
            refine ev_iload_n dX7_span_24 rfl ?_
            refine ev_i2l dX7_span_25 ?_
            refine ev_lconst (v := 0) dX7_span_26 rfl ?_
            refine ev_lconst (v := 1) dX7_span_27 rfl ?_
            refine ev_cS3 dX7_span_28 ceX7_in kX7_59 (rm_le rfl rfl) (Nat.le_of_ble_eq_true rfl) (Nat.le_of_ble_eq_true rfl) (e7_in) ?_
            rw [in_c _ 0 (nI 1) (by decide) (by decide), k3]
            refine ev_if_ne 37 dX7_span_31 (by decide) (fun hc31 => ?_) (fun hc31 => False.elim (absurd hc31 (by decide)))
            refine ev_aload_n dX7_span_37 rfl ?_
            refine ev_getR dX7_span_38 fX7_7 (by first | assumption | rfl) (by rfl) ?_
            refine ev_sipush (v := (nI 1332)) dX7_span_41 (by decide) ?_
            refine ev_ialdE _ dX7_span_44 (by first | with_reducible rfl | with_reducible exact nI_add _ _ | with_reducible exact ix3 _ _ _ | with_reducible exact ix_k _ _ _ | with_reducible exact ix_xk _ _ _ _) (by first | assumption | rfl) ⟨by omega, by decide⟩ ?_
            refine ev_if_ne 51 dX7_span_45 (by decide) (fun hc45 => ?_) (fun hc45 => False.elim (nI_ne0 hn0 (by omega) (by rw [← p2]; exact hc45)))
            refine ev_bipush (v := (nI 99)) dX7_span_51 (by decide) ?_
            refine ev_istore dX7_span_53 (by decide) rfl ?_
            refine ev_iconst (v := (-1)) dX7_span_55 (by decide) ?_
            refine ev_istore dX7_span_56 (by decide) rfl ?_
            refine ev_aload_n dX7_span_58 rfl ?_
            refine ev_getR dX7_span_59 fX7_7 (by first | assumption | rfl) (by rfl) ?_
            refine ev_sipush (v := (nI 1335)) dX7_span_62 (by decide) ?_
            refine ev_ialdE _ dX7_span_65 (by first | with_reducible rfl | with_reducible exact nI_add _ _ | with_reducible exact ix3 _ _ _ | with_reducible exact ix_k _ _ _ | with_reducible exact ix_xk _ _ _ _) (by first | assumption | rfl) ⟨by omega, by decide⟩ ?_
            rw [← s1]
            refine ev_istore dX7_span_66 (by decide) rfl ?_
            refine ev_iconst (v := (nI 0)) dX7_span_68 (by decide) ?_
            refine ev_istore dX7_span_69 (by decide) rfl ?_
            exact ev_stw u2 ⟨rfl, rfl, rfl, rfl, rfl, rfl, rfl, rfl, trivial⟩ rfl rfl
      · refine ⟨(-1000000002), C, G, ?_, ?_, hR0⟩
        · refine ev_iload_n dX6_span_0 rfl ?_
          refine ev_iconst (v := (nI 1)) dX6_span_1 (by decide) ?_
          refine ev_icmp_lt 31 dX6_span_2 (by decide) (fun hc2 => False.elim (c1 hc2)) (fun hc2 => ?_)
          refine ev_iload_n dX6_span_5 rfl ?_
          refine ev_bipush (v := (nI 100)) dX6_span_6 (by decide) ?_
          refine ev_icmp_gt 31 dX6_span_8 (by decide) (fun hc8 => False.elim ((fa_of_lt hc8).2.1 c2)) (fun hc8 => ?_)
          refine ev_iload_n dX6_span_11 rfl ?_
          refine ev_iconst (v := (nI 1)) dX6_span_12 (by decide) ?_
          refine ev_icmp_lt 31 dX6_span_13 (by decide) (fun hc13 => False.elim (c3 hc13)) (fun hc13 => ?_)
          refine ev_iload_n dX6_span_16 rfl ?_
          refine ev_bipush (v := (nI 20)) dX6_span_17 (by decide) ?_
          refine ev_icmp_gt 31 dX6_span_19 (by decide) (fun hc19 => False.elim ((fa_of_lt hc19).2.1 c4)) (fun hc19 => ?_)
          refine ev_iload_n dX6_span_22 rfl ?_
          refine ev_if_lt 31 dX6_span_23 (by decide) (fun hc23 => ?_) (fun hc23 => False.elim (hc23 c5))
          refine ev_ldc (v := (-1000000002)) dX6_span_31 nX6_70 ?_
          exact ev_iretE dX6_span_33 rfl rfl (by first | rfl | simp_all) (rfl)
        · refine ev_iload_n dX7_span_0 rfl ?_
          refine ev_i2l dX7_span_1 ?_
          refine ev_lconst (v := 1) dX7_span_2 rfl ?_
          refine ev_ldc2 dX7_span_3 nX7_212 ?_
          refine ev_cS3 dX7_span_6 ceX7_in kX7_59 (rm_le rfl rfl) (Nat.le_of_ble_eq_true rfl) (Nat.le_of_ble_eq_true rfl) (e7_in) ?_
          rw [in_c _ (nI 1) (nI 100) (by decide) (by decide), k1]
          refine ev_if_eq 34 dX7_span_9 (by decide) (fun hc9 => False.elim (absurd hc9 (by decide))) (fun hc9 => ?_)
          refine ev_iload_n dX7_span_12 rfl ?_
          refine ev_i2l dX7_span_13 ?_
          refine ev_lconst (v := 1) dX7_span_14 rfl ?_
          refine ev_ldc2 dX7_span_15 nX7_256 ?_
          refine ev_cS3 dX7_span_18 ceX7_in kX7_59 (rm_le rfl rfl) (Nat.le_of_ble_eq_true rfl) (Nat.le_of_ble_eq_true rfl) (e7_in) ?_
          rw [in_c _ (nI 1) (nI 20) (by decide) (by decide), k2]
          refine ev_if_eq 34 dX7_span_21 (by decide) (fun hc21 => False.elim (absurd hc21 (by decide))) (fun hc21 => ?_)
          refine ev_iload_n dX7_span_24 rfl ?_
          refine ev_i2l dX7_span_25 ?_
          refine ev_lconst (v := 0) dX7_span_26 rfl ?_
          refine ev_lconst (v := 1) dX7_span_27 rfl ?_
          refine ev_cS3 dX7_span_28 ceX7_in kX7_59 (rm_le rfl rfl) (Nat.le_of_ble_eq_true rfl) (Nat.le_of_ble_eq_true rfl) (e7_in) ?_
          rw [in_c _ 0 (nI 1) (by decide) (by decide), k3]
          refine ev_if_ne 37 dX7_span_31 (by decide) (fun hc31 => False.elim (absurd hc31 (by decide))) (fun hc31 => ?_)
          refine ev_ldc (v := (-1000000002)) dX7_span_34 nX7_63 ?_
          exact ev_iretE dX7_span_36 rfl rfl (by first | rfl | simp_all) (rfl)
      · refine ⟨(-1000000002), C, G, ?_, ?_, hR0⟩
        · refine ev_iload_n dX6_span_0 rfl ?_
          refine ev_iconst (v := (nI 1)) dX6_span_1 (by decide) ?_
          refine ev_icmp_lt 31 dX6_span_2 (by decide) (fun hc2 => False.elim (c1 hc2)) (fun hc2 => ?_)
          refine ev_iload_n dX6_span_5 rfl ?_
          refine ev_bipush (v := (nI 100)) dX6_span_6 (by decide) ?_
          refine ev_icmp_gt 31 dX6_span_8 (by decide) (fun hc8 => False.elim ((fa_of_lt hc8).2.1 c2)) (fun hc8 => ?_)
          refine ev_iload_n dX6_span_11 rfl ?_
          refine ev_iconst (v := (nI 1)) dX6_span_12 (by decide) ?_
          refine ev_icmp_lt 31 dX6_span_13 (by decide) (fun hc13 => False.elim (c3 hc13)) (fun hc13 => ?_)
          refine ev_iload_n dX6_span_16 rfl ?_
          refine ev_bipush (v := (nI 20)) dX6_span_17 (by decide) ?_
          refine ev_icmp_gt 31 dX6_span_19 (by decide) (fun hc19 => False.elim ((fa_of_lt hc19).2.1 c4)) (fun hc19 => ?_)
          refine ev_iload_n dX6_span_22 rfl ?_
          refine ev_if_lt 31 dX6_span_23 (by decide) (fun hc23 => False.elim (c5 hc23)) (fun hc23 => ?_)
          refine ev_iload_n dX6_span_26 rfl ?_
          refine ev_iconst (v := (nI 1)) dX6_span_27 (by decide) ?_
          refine ev_icmp_le 34 dX6_span_28 (by decide) (fun hc28 => False.elim (c6 hc28)) (fun hc28 => ?_)
          refine ev_ldc (v := (-1000000002)) dX6_span_31 nX6_70 ?_
          exact ev_iretE dX6_span_33 rfl rfl (by first | rfl | simp_all) (rfl)
        · refine ev_iload_n dX7_span_0 rfl ?_
          refine ev_i2l dX7_span_1 ?_
          refine ev_lconst (v := 1) dX7_span_2 rfl ?_
          refine ev_ldc2 dX7_span_3 nX7_212 ?_
          refine ev_cS3 dX7_span_6 ceX7_in kX7_59 (rm_le rfl rfl) (Nat.le_of_ble_eq_true rfl) (Nat.le_of_ble_eq_true rfl) (e7_in) ?_
          rw [in_c _ (nI 1) (nI 100) (by decide) (by decide), k1]
          refine ev_if_eq 34 dX7_span_9 (by decide) (fun hc9 => False.elim (absurd hc9 (by decide))) (fun hc9 => ?_)
          refine ev_iload_n dX7_span_12 rfl ?_
          refine ev_i2l dX7_span_13 ?_
          refine ev_lconst (v := 1) dX7_span_14 rfl ?_
          refine ev_ldc2 dX7_span_15 nX7_256 ?_
          refine ev_cS3 dX7_span_18 ceX7_in kX7_59 (rm_le rfl rfl) (Nat.le_of_ble_eq_true rfl) (Nat.le_of_ble_eq_true rfl) (e7_in) ?_
          rw [in_c _ (nI 1) (nI 20) (by decide) (by decide), k2]
          refine ev_if_eq 34 dX7_span_21 (by decide) (fun hc21 => False.elim (absurd hc21 (by decide))) (fun hc21 => ?_)
          refine ev_iload_n dX7_span_24 rfl ?_
          refine ev_i2l dX7_span_25 ?_
          refine ev_lconst (v := 0) dX7_span_26 rfl ?_
          refine ev_lconst (v := 1) dX7_span_27 rfl ?_
          refine ev_cS3 dX7_span_28 ceX7_in kX7_59 (rm_le rfl rfl) (Nat.le_of_ble_eq_true rfl) (Nat.le_of_ble_eq_true rfl) (e7_in) ?_
          rw [in_c _ 0 (nI 1) (by decide) (by decide), k3]
          refine ev_if_ne 37 dX7_span_31 (by decide) (fun hc31 => False.elim (absurd hc31 (by decide))) (fun hc31 => ?_)
          refine ev_ldc (v := (-1000000002)) dX7_span_34 nX7_63 ?_
          exact ev_iretE dX7_span_36 rfl rfl (by first | rfl | simp_all) (rfl)
    · refine ⟨(-1000000002), C, G, ?_, ?_, hR0⟩
      · refine ev_iload_n dX6_span_0 rfl ?_
        refine ev_iconst (v := (nI 1)) dX6_span_1 (by decide) ?_
        refine ev_icmp_lt 31 dX6_span_2 (by decide) (fun hc2 => False.elim (c1 hc2)) (fun hc2 => ?_)
        refine ev_iload_n dX6_span_5 rfl ?_
        refine ev_bipush (v := (nI 100)) dX6_span_6 (by decide) ?_
        refine ev_icmp_gt 31 dX6_span_8 (by decide) (fun hc8 => False.elim ((fa_of_lt hc8).2.1 c2)) (fun hc8 => ?_)
        refine ev_iload_n dX6_span_11 rfl ?_
        refine ev_iconst (v := (nI 1)) dX6_span_12 (by decide) ?_
        refine ev_icmp_lt 31 dX6_span_13 (by decide) (fun hc13 => ?_) (fun hc13 => False.elim (hc13 c3))
        refine ev_ldc (v := (-1000000002)) dX6_span_31 nX6_70 ?_
        exact ev_iretE dX6_span_33 rfl rfl (by first | rfl | simp_all) (rfl)
      · refine ev_iload_n dX7_span_0 rfl ?_
        refine ev_i2l dX7_span_1 ?_
        refine ev_lconst (v := 1) dX7_span_2 rfl ?_
        refine ev_ldc2 dX7_span_3 nX7_212 ?_
        refine ev_cS3 dX7_span_6 ceX7_in kX7_59 (rm_le rfl rfl) (Nat.le_of_ble_eq_true rfl) (Nat.le_of_ble_eq_true rfl) (e7_in) ?_
        rw [in_c _ (nI 1) (nI 100) (by decide) (by decide), k1]
        refine ev_if_eq 34 dX7_span_9 (by decide) (fun hc9 => False.elim (absurd hc9 (by decide))) (fun hc9 => ?_)
        refine ev_iload_n dX7_span_12 rfl ?_
        refine ev_i2l dX7_span_13 ?_
        refine ev_lconst (v := 1) dX7_span_14 rfl ?_
        refine ev_ldc2 dX7_span_15 nX7_256 ?_
        refine ev_cS3 dX7_span_18 ceX7_in kX7_59 (rm_le rfl rfl) (Nat.le_of_ble_eq_true rfl) (Nat.le_of_ble_eq_true rfl) (e7_in) ?_
        rw [in_c _ (nI 1) (nI 20) (by decide) (by decide), k2]
        refine ev_if_eq 34 dX7_span_21 (by decide) (fun hc21 => ?_) (fun hc21 => False.elim (absurd hc21 (by decide)))
        refine ev_ldc (v := (-1000000002)) dX7_span_34 nX7_63 ?_
        exact ev_iretE dX7_span_36 rfl rfl (by first | rfl | simp_all) (rfl)
    · have c9 : nI 20 < k0 := fa_of_nle c4
      refine ⟨(-1000000002), C, G, ?_, ?_, hR0⟩
      · refine ev_iload_n dX6_span_0 rfl ?_
        refine ev_iconst (v := (nI 1)) dX6_span_1 (by decide) ?_
        refine ev_icmp_lt 31 dX6_span_2 (by decide) (fun hc2 => False.elim (c1 hc2)) (fun hc2 => ?_)
        refine ev_iload_n dX6_span_5 rfl ?_
        refine ev_bipush (v := (nI 100)) dX6_span_6 (by decide) ?_
        refine ev_icmp_gt 31 dX6_span_8 (by decide) (fun hc8 => False.elim ((fa_of_lt hc8).2.1 c2)) (fun hc8 => ?_)
        refine ev_iload_n dX6_span_11 rfl ?_
        refine ev_iconst (v := (nI 1)) dX6_span_12 (by decide) ?_
        refine ev_icmp_lt 31 dX6_span_13 (by decide) (fun hc13 => False.elim (c3 hc13)) (fun hc13 => ?_)
        refine ev_iload_n dX6_span_16 rfl ?_
        refine ev_bipush (v := (nI 20)) dX6_span_17 (by decide) ?_
        refine ev_icmp_gt 31 dX6_span_19 (by decide) (fun hc19 => ?_) (fun hc19 => False.elim (hc19 c9))
        refine ev_ldc (v := (-1000000002)) dX6_span_31 nX6_70 ?_
        exact ev_iretE dX6_span_33 rfl rfl (by first | rfl | simp_all) (rfl)
      · refine ev_iload_n dX7_span_0 rfl ?_
        refine ev_i2l dX7_span_1 ?_
        refine ev_lconst (v := 1) dX7_span_2 rfl ?_
        refine ev_ldc2 dX7_span_3 nX7_212 ?_
        refine ev_cS3 dX7_span_6 ceX7_in kX7_59 (rm_le rfl rfl) (Nat.le_of_ble_eq_true rfl) (Nat.le_of_ble_eq_true rfl) (e7_in) ?_
        rw [in_c _ (nI 1) (nI 100) (by decide) (by decide), k1]
        refine ev_if_eq 34 dX7_span_9 (by decide) (fun hc9 => False.elim (absurd hc9 (by decide))) (fun hc9 => ?_)
        refine ev_iload_n dX7_span_12 rfl ?_
        refine ev_i2l dX7_span_13 ?_
        refine ev_lconst (v := 1) dX7_span_14 rfl ?_
        refine ev_ldc2 dX7_span_15 nX7_256 ?_
        refine ev_cS3 dX7_span_18 ceX7_in kX7_59 (rm_le rfl rfl) (Nat.le_of_ble_eq_true rfl) (Nat.le_of_ble_eq_true rfl) (e7_in) ?_
        rw [in_c _ (nI 1) (nI 20) (by decide) (by decide), k2]
        refine ev_if_eq 34 dX7_span_21 (by decide) (fun hc21 => ?_) (fun hc21 => False.elim (absurd hc21 (by decide)))
        refine ev_ldc (v := (-1000000002)) dX7_span_34 nX7_63 ?_
        exact ev_iretE dX7_span_36 rfl rfl (by first | rfl | simp_all) (rfl)
  · refine ⟨(-1000000002), C, G, ?_, ?_, hR0⟩
    · refine ev_iload_n dX6_span_0 rfl ?_
      refine ev_iconst (v := (nI 1)) dX6_span_1 (by decide) ?_
      refine ev_icmp_lt 31 dX6_span_2 (by decide) (fun hc2 => ?_) (fun hc2 => False.elim (hc2 c1))
      refine ev_ldc (v := (-1000000002)) dX6_span_31 nX6_70 ?_
      exact ev_iretE dX6_span_33 rfl rfl (by first | rfl | simp_all) (rfl)
    · refine ev_iload_n dX7_span_0 rfl ?_
      refine ev_i2l dX7_span_1 ?_
      refine ev_lconst (v := 1) dX7_span_2 rfl ?_
      refine ev_ldc2 dX7_span_3 nX7_212 ?_
      refine ev_cS3 dX7_span_6 ceX7_in kX7_59 (rm_le rfl rfl) (Nat.le_of_ble_eq_true rfl) (Nat.le_of_ble_eq_true rfl) (e7_in) ?_
      rw [in_c _ (nI 1) (nI 100) (by decide) (by decide), k1]
      refine ev_if_eq 34 dX7_span_9 (by decide) (fun hc9 => ?_) (fun hc9 => False.elim (absurd hc9 (by decide)))
      refine ev_ldc (v := (-1000000002)) dX7_span_34 nX7_63 ?_
      exact ev_iretE dX7_span_36 rfl rfl (by first | rfl | simp_all) (rfl)
  · have c9 : nI 100 < n0 := fa_of_nle c2
    refine ⟨(-1000000002), C, G, ?_, ?_, hR0⟩
    · refine ev_iload_n dX6_span_0 rfl ?_
      refine ev_iconst (v := (nI 1)) dX6_span_1 (by decide) ?_
      refine ev_icmp_lt 31 dX6_span_2 (by decide) (fun hc2 => False.elim (c1 hc2)) (fun hc2 => ?_)
      refine ev_iload_n dX6_span_5 rfl ?_
      refine ev_bipush (v := (nI 100)) dX6_span_6 (by decide) ?_
      refine ev_icmp_gt 31 dX6_span_8 (by decide) (fun hc8 => ?_) (fun hc8 => False.elim (hc8 c9))
      refine ev_ldc (v := (-1000000002)) dX6_span_31 nX6_70 ?_
      exact ev_iretE dX6_span_33 rfl rfl (by first | rfl | simp_all) (rfl)
    · refine ev_iload_n dX7_span_0 rfl ?_
      refine ev_i2l dX7_span_1 ?_
      refine ev_lconst (v := 1) dX7_span_2 rfl ?_
      refine ev_ldc2 dX7_span_3 nX7_212 ?_
      refine ev_cS3 dX7_span_6 ceX7_in kX7_59 (rm_le rfl rfl) (Nat.le_of_ble_eq_true rfl) (Nat.le_of_ble_eq_true rfl) (e7_in) ?_
      rw [in_c _ (nI 1) (nI 100) (by decide) (by decide), k1]
      refine ev_if_eq 34 dX7_span_9 (by decide) (fun hc9 => ?_) (fun hc9 => False.elim (absurd hc9 (by decide)))
      refine ev_ldc (v := (-1000000002)) dX7_span_34 nX7_63 ?_
      exact ev_iretE dX7_span_36 rfl rfl (by first | rfl | simp_all) (rfl)
