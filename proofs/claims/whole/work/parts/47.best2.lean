/-! best: the reference's sumBy -/
theorem kp_dayQ {C : rf_Mem} {q n nr e j l : Nat} (hq : 20 < q) (h1 : C q 10 + dA (C q 10) (nI j) = nI e) (he : e ≤ 9999) : kpB (rf_set C q 10 (nI e)) q n nr (nI 0) l = kpB C q n nr (nI j) l := by
  have e0 : nI e + dA (nI e) (nI 0) = nI e := by
    rw [dA_nI he (by decide)]
    have z : (if 9999 - e < 0 then 9999 - e else 0) = 0 := by split <;> omega
    rw [z, nI_add, Nat.add_zero]
  unfold kpB knC
  rw [gs_same, e0, h1, gs_q _ _ _ (by omega), gs_q _ _ _ (by omega), gs_q _ _ _ (by omega), gs_q _ _ _ (by omega), gs_q _ _ _ (by omega), gs_q _ _ _ (by omega)]
def wvB (B : rf_Mem) (l : Nat) : Nat := (B 9 l).toNatClampNeg
def kqB (B : rf_Mem) (n nr nq h S l : Nat) : Bool := klB B n nr (nI h) l (rnB B n l S nq)
def flB (B : rf_Mem) (n nr nq h S l : Nat) : Nat := gsB B n l S nq + (if kqB B n nr nq h S l = true then wvB B l else 0)
def FB (B : rf_Mem) (n nl nr nq h S : Nat) : Nat := smL (flB B n nr nq h S) nl
def FsG (G0 G : rf_Mem) : Prop := (∀ a, a ≠ 0 → a ≠ 1 → G a = G0 a) ∧ (∀ j, j ≠ 21 → G 0 j = G0 0 j) ∧ ∀ j, j < 1500 ∨ 3000 ≤ j → G 1 j = G0 1 j
theorem FsG.rf (G : rf_Mem) : FsG G G := ⟨fun _ _ _ => rfl, fun _ _ => rfl, fun _ _ => rfl⟩
theorem FsG.tr {G0 G G' : rf_Mem} (h : FsG G0 G) (h2 : FsG G G') : FsG G0 G' := ⟨fun a x y => (h2.1 a x y).trans (h.1 a x y), fun j x => (h2.2.1 j x).trans (h.2.1 j x), fun j x => (h2.2.2 j x).trans (h.2.2 j x)⟩
theorem FsG.fr {G0 G G' : rf_Mem} (h : FsG G0 G) (h2 : FrG 1500 G G') : FsG G0 G' := h.tr ⟨fun a _ y => h2.1 a y, fun j _ => by rw [h2.1 0 (by decide)], fun j hj => h2.2 j (by omega)⟩
theorem FsG.lb {nl nr : Nat} {tm : Nat → Nat} {C G0 G : rf_Mem} (h : FsG G0 G) (hL : Lb nl nr tm C G0) : Lb nl nr tm C G := by
  unfold Lb at hL ⊢
  rw [h.2.1 7 (by omega), h.1 3 (by omega) (by omega), h.1 5 (by omega) (by omega), h.1 6 (by omega) (by omega), h.1 7 (by omega) (by omega)]
  exact hL
theorem FsG.rq {nq nl nr : Nat} {C G0 G : rf_Mem} (h : FsG G0 G) (hQ : Rq nq nl nr C G0) : Rq nq nl nr C G := by
  unfold Rq at hQ ⊢
  rw [h.2.1 17 (by omega), h.1 9 (by omega) (by omega), h.1 10 (by omega) (by omega), h.1 11 (by omega) (by omega)]
  exact hQ
theorem sh_0 (k : Int32) : nI 0 <<< k = 0 := by
  have : nI 0 = 0 := rfl
  rw [this]; apply Int32.toBitVec_inj.mp; simp
/-- the trial's beginning: both sides, and what it shows of each line -/
theorem tri_0 {n d nl nr nq kt : Nat} {tm : Nat → Nat} {C0 C G : rf_Mem} (hS : Sim true 21 0 n d nl nr tm C G) (hQ : Rq nq nl nr C G) (hkt : C 41 3 = nI kt) (hk3 : kt ≤ 300) (hC : ∀ a, a < 18 ∨ (21 ≤ a ∧ a < 33) → C a = C0 a) : Sim false 33 1500 n d nl nr tm (cpB 33 21 C) (cpW G 0 1500 1500) ∧ Rq nq nl nr (cpB 33 21 C) (cpW G 0 1500 1500) ∧ Vc C0 (cpB 33 21 C) n ∧ (∀ S l, l < nl → Vl (cpB 33 21 C) C0 n nr l (rnB C0 n l S 0)) ∧ (∀ a, a < 33 ∨ 45 ≤ a → cpB 33 21 C a = C a) ∧ (cpB 33 21 C) 41 3 = nI kt ∧ FsG G (cpW G 0 1500 1500) := by
  obtain ⟨h1, h2⟩ := trial_0 (C0 := C) (G0 := G) ⟨fun _ _ => rfl, ⟨kt, hkt, hk3⟩, fun _ _ => rfl, fun _ _ => rfl⟩ hS
  obtain ⟨v1, v2, v3, v4⟩ := cpB_v (q := 33) (z := 21) (C := C) (by omega)
  obtain ⟨w1, w2, w3⟩ := cpW_v (G := G) (x := 0) (y := 1500)
  have hn : n ≤ 40 := hS.2.1.1.2.2.1
  have l3 := hS.1.2.2.1
  have l6 := hS.1.2.2.2.2.2.1
  refine ⟨h1, ?_, ⟨fun a ha => (v4 a (by omega)).trans (hC a (by omega)), v1.2.1.trans (by rw [hC 21 (by omega)]), fun p hp => ⟨(v2 p (by omega)).1.trans (by rw [hC (21 + 1) (by omega)]), (v2 p (by omega)).2.1.trans (by rw [hC (21 + 2) (by omega)])⟩⟩, fun S l hl => ⟨fun p hp _ => ?_, fun r hr => ⟨?_, ?_⟩⟩, h2.1, by rw [v4 41 (by omega)]; exact hkt, fun a x y => w3 a y, fun j _ => by rw [w3 0 (by decide)], fun j hj => w2 j (by omega)⟩
  · unfold Rq at hQ ⊢
    rw [v4 14 (by omega), v4 15 (by omega), v4 16 (by omega), v4 17 (by omega), w3 0 (by omega), w3 9 (by omega), w3 10 (by omega), w3 11 (by omega)]
    exact hQ
  · show _ = C0 24 p
    rw [(v2 p (by omega)).2.2.1, hC (21 + 3) (by omega)]
  · show _ = C0 26 (r * 16 + l)
    rw [(v3 (r * 16 + l) (by omega)).1, hC (21 + 5) (by omega)]
  · show _ = C0 27 (r * 16 + l)
    rw [(v3 (r * 16 + l) (by omega)).2, hC (21 + 6) (by omega)]
set_option maxRecDepth 20000 in
set_option maxHeartbeats 2000000 in
theorem sim_dk {n d nl nr S h : Nat} {tm : Nat → Nat} {C : rf_Mem} {had : Int32} (hd : d ≤ 9999) (hh : h ≤ 200) : ∀ (m k : Nat) (G : rf_Mem), h - k = m → k ≤ h → Sim false 33 1500 n (eD d k) nl nr tm (rf_set C 33 10 (nI (eD d k))) G → ∃ G', (∀ r M', Ev LayM mX7_sumBy 20 [some (.ref 0), some (.int (nI S)), some (.int (nI h)), some (.int (had)), some (.int (nI h)), none] [] G' r M' → Ev LayM mX7_sumBy 20 [some (.ref 0), some (.int (nI S)), some (.int (nI h)), some (.int (had)), some (.int (nI k)), none] [] G r M') ∧ Sim false 33 1500 n (eD d h) nl nr tm (rf_set C 33 10 (nI (eD d h))) G' ∧ FrG 1500 G G' := by
  intro m
  induction m with
  | zero =>
    intro k G hm hk hs
    have e1 : k = h := by omega
    subst e1
    exact ⟨G, fun _ _ hE => hE, hs, FrG.rf 1500 G⟩
  | succ m ih =>
    intro k G hm hk hs
    have hL := hs.1
    obtain ⟨h1, f1⟩ := dusks (by decide) hs
    rw [eD_s hd] at h1
    obtain ⟨G2, u1, s2, f2⟩ := ih (k + 1) _ (by omega) (by omega) h1
    refine ⟨G2, fun r M' hE => ?_, s2, f1.tr f2⟩
    have hE2 := u1 _ _ hE
    refine ev_iload dX7_sumBy_20 rfl ?_
    refine ev_iload_n dX7_sumBy_22 rfl ?_
    refine ev_icmp_ge 39 dX7_sumBy_23 (by decide) (fun hc23 => False.elim (nI_ge (show k < h by omega) (by omega) hc23)) (fun hc23 => ?_)
    refine ev_aload_n dX7_sumBy_26 rfl ?_
    refine ev_sipush (v := (nI 1500)) dX7_sumBy_27 (by decide) ?_
    refine ev_cV1v dX7_sumBy_30 ceX7_darken kX7_208 (rm_le rfl rfl) (Nat.le_of_ble_eq_true rfl) (Nat.le_of_ble_eq_true rfl) (e7_darken (x := 1500) (by decide) hL.2.2.2.2.1 hL.2.2.2.2.2.1 hL.2.1 hL.2.2.1) (by first | assumption | rfl) ?_
    refine ev_iinc (v := (nI 1)) dX7_sumBy_33 rfl (by decide) (by decide) rfl ?_
    refine ev_goto 20 dX7_sumBy_36 (by decide) ?_
    exact ev_st hE2 (by simp [nI_add]) rfl rfl
set_option maxRecDepth 20000 in
set_option maxHeartbeats 2000000 in
theorem sim_sumBy {n d nl nr nq kt S h : Nat} {tm : Nat → Nat} {C0 G0 G : rf_Mem} (hS : Sim true 21 0 n d nl nr tm C0 G0) (hQ : Rq nq nl nr C0 G0) (hkt : C0 41 3 = nI kt) (hk3 : kt ≤ 300) (hG : FsG G0 G) (hS31 : S < 2 ^ 31) (hh : h ≤ 200) : ∃ G', Ev LayM mX7_sumBy 0 (rf_ent 6 [.ref 0, .int (nI S), .int (nI h)]) [] G (some (.int (nI (FB C0 n nl nr nq h S)))) G' ∧ G' 0 21 = kset (fun l => !kqB C0 n nr nq h S l) nl ∧ FsG G0 G' := by
  have hL := hS.1
  have l3 := hL.2.2.1
  have l6 := hL.2.2.2.2.2.1
  have hS1 : Sim true 21 0 n d nl nr tm C0 G := hS.frame (hG.lb hL) (fun _ _ _ => rfl) (fun j _ _ => hG.2.2 j (by omega))
  have hQ1 : Rq nq nl nr C0 G := hG.rq hQ
  obtain ⟨t1, t2, t3, t4, -, -, t7⟩ := tri_0 hS1 hQ1 hkt hk3 (fun _ _ => rfl)
  obtain ⟨C1, G1, -, eG, s1, -, -, f1, v1, v2⟩ := sim_grantX hS31 t1 t2 t3 (t4 S)
  have hd3 : d ≤ 9999 := s1.2.1.2.1.2.2
  have hd1 : C1 33 10 = nI d := s1.2.1.2.1.1
  have e0 : eD d 0 = d := by unfold eD; split <;> omega
  obtain ⟨G2, u1, s2, f2⟩ := sim_dk (S := S) (had := nI (smL (fun l => gsB C0 n l S nq) nl)) hd3 hh h 0 G1 (by omega) (Nat.zero_le _) (by rw [e0, gs_id C1 33 10 hd1]; exact s1)
  have hL2 := s2.1
  have w1 : G2 1 (1500 + 1332) = nI n := s2.2.1.1.2.1
  have w2 : n ≤ 40 := s2.2.1.1.2.2.1
  have kpe : ∀ (v : Int32) l, l < nl → kpM (rf_set G2 0 21 v) 1500 n nr l = (kqB C0 n nr nq h S) l := fun v l hl => by
    have z1 : kpM (rf_set G2 0 21 v) 1500 n nr l = kpM G2 1500 n nr l := by unfold kpM; rw [gs_q _ _ _ (by decide)]
    rw [z1, kp_same s2 hl, kp_dayQ (by decide) (by rw [hd1]; exact eD_v hd3 (by omega)) s2.2.1.2.1.2.2]
    exact kp_view v1 (v2 l hl)
  have hwv : ∀ l, l < nl → G2 3 l = nI (wvB C0 l) := fun l hl => by
    obtain ⟨a1, v, a2, a3⟩ := hL.2.2.2.2.2.2.2.1 l hl
    rw [f2.1 3 (by decide), f1.1 3 (by decide), t7.1 3 (by decide) (by decide), hG.1 3 (by decide) (by decide), ← a1, wvB, a3, nI_clamp (by omega)]
  have fin : FB C0 n nl nr nq h S = smL (fun l => gsB C0 n l S nq) nl + smL (fun l => if kqB C0 n nr nq h S l = true then wvB C0 l else 0) (nl) := smL_add
  refine ⟨rf_set G2 0 21 (kset (fun l => !kqB C0 n nr nq h S l) (nl)), ?_, gs_same _ _ _ _, (((hG.tr t7).fr f1).fr f2).tr ⟨fun a x y => gs_q _ _ _ x, fun j x => gs_j _ _ x, fun j _ => by rw [gs_q _ _ _ (by decide)]⟩⟩
  rw [fin]
  have key := ev_for (Lay := LayM) (y := mX7_sumBy) (pc := 47) (r := some (.int (nI (smL (fun l => gsB C0 n l S nq) nl + smL (fun l => if kqB C0 n nr nq h S l = true then wvB C0 l else 0) (nl))))) (M' := rf_set G2 0 21 (kset (fun l => !kqB C0 n nr nq h S l) (nl))) nl (fun i => [some (.ref 0), some (.int (nI S)), some (.int (nI h)), some (.int (nI (smL (fun l => gsB C0 n l S nq) nl + smL (fun l => if kqB C0 n nr nq h S l = true then wvB C0 l else 0) (i)))), some (.int (nI i)), none]) (fun i => rf_set G2 0 21 (kset (fun l => !kqB C0 n nr nq h S l) (i))) ?hx ?hs
  case hx =>
    refine ev_iload dX7_sumBy_47 rfl ?_
    refine ev_aload_n dX7_sumBy_49 rfl ?_
    refine ev_getR dX7_sumBy_50 fX7_29 (by first | assumption | rfl) (by rfl) ?_
    refine ev_iconst (v := (nI 0)) dX7_sumBy_53 (by decide) ?_
    refine ev_ialdE _ dX7_sumBy_54 (by first | with_reducible rfl | with_reducible exact nI_add _ _ | with_reducible exact ix3 _ _ _ | with_reducible exact ix_k _ _ _ | with_reducible exact ix_xk _ _ _ _) (by first | assumption | rfl) ⟨by omega, by decide⟩ ?_
    refine ev_icmp_ge 119 dX7_sumBy_55 (by decide) (fun hc55 => ?_) (fun hc55 => False.elim (lp_x (show (rf_set G2 0 21 _) 7 0 = nI nl by rw [gs_q _ _ _ (by decide)]; exact hL2.2.1) (by omega) hc55))
    refine ev_iload_n dX7_sumBy_119 rfl ?_
    exact ev_iretE dX7_sumBy_120 rfl rfl (by first | rfl | simp_all) (rfl)
  case hs =>
    intro i hi ih
    have ws : smL (fun l => if kqB C0 n nr nq h S l = true then wvB C0 l else 0) (i + 1) = smL (fun l => if kqB C0 n nr nq h S l = true then wvB C0 l else 0) (i) + (if kqB C0 n nr nq h S i = true then wvB C0 i else 0) := rfl
    have ks : kset (fun l => !kqB C0 n nr nq h S l) (i + 1) = if (!kqB C0 n nr nq h S i) = true then kset (fun l => !kqB C0 n nr nq h S l) i ||| (nI 1 <<< (nI i &&& 31)) else kset (fun l => !kqB C0 n nr nq h S l) i := rfl
    simp only [ws, ks] at ih
    cases hPi : kqB C0 n nr nq h S i with
    | true =>
      simp only [hPi] at ih
      refine ev_iload dX7_sumBy_47 rfl ?_
      refine ev_aload_n dX7_sumBy_49 rfl ?_
      refine ev_getR dX7_sumBy_50 fX7_29 (by first | assumption | rfl) (by rfl) ?_
      refine ev_iconst (v := (nI 0)) dX7_sumBy_53 (by decide) ?_
      refine ev_ialdE _ dX7_sumBy_54 (by first | with_reducible rfl | with_reducible exact nI_add _ _ | with_reducible exact ix3 _ _ _ | with_reducible exact ix_k _ _ _ | with_reducible exact ix_xk _ _ _ _) (by first | assumption | rfl) ⟨by omega, by decide⟩ ?_
      refine ev_icmp_ge 119 dX7_sumBy_55 (by decide) (fun hc55 => False.elim (lp_s (show (rf_set G2 0 21 _) 7 0 = nI nl by rw [gs_q _ _ _ (by decide)]; exact hL2.2.1) (by omega) hi hc55)) (fun hc55 => ?_)
      refine ev_aload_n dX7_sumBy_58 rfl ?_
      refine ev_sipush (v := (nI 1500)) dX7_sumBy_59 (by decide) ?_
      refine ev_iload dX7_sumBy_62 rfl ?_
      refine ev_cV2 dX7_sumBy_64 ceX7_isKeptLine kX7_137 (rm_le rfl rfl) (Nat.le_of_ble_eq_true rfl) (Nat.le_of_ble_eq_true rfl) (e7_isKeptLine (x := 1500) (by decide) (by rw [gs_q _ _ _ (by decide)]; exact w1) w2 (by rw [gs_q _ _ _ (by decide)]; exact hL2.2.2.2.2.1) hL2.2.2.2.2.2.1 (by omega)) (by first | assumption | rfl) ?_
      rw [kpe _ i hi, hPi]
      refine ev_istore dX7_sumBy_67 (by decide) rfl ?_
      refine ev_iload_n dX7_sumBy_69 rfl ?_
      refine ev_iload dX7_sumBy_70 rfl ?_
      refine ev_if_eq 85 dX7_sumBy_72 (by decide) (fun hc72 => False.elim (absurd hc72 (by decide))) (fun hc72 => ?_)
      refine ev_aload_n dX7_sumBy_75 rfl ?_
      refine ev_getR dX7_sumBy_76 fX7_17 (by first | assumption | rfl) (by rfl) ?_
      refine ev_iload dX7_sumBy_79 rfl ?_
      refine ev_ialdE _ dX7_sumBy_81 (by first | with_reducible rfl | with_reducible exact nI_add _ _ | with_reducible exact ix3 _ _ _ | with_reducible exact ix_k _ _ _ | with_reducible exact ix_xk _ _ _ _) (by first | assumption | rfl) ⟨by omega, by decide⟩ ?_
      refine ev_goto 86 dX7_sumBy_82 (by decide) ?_
      rw [gs_q _ _ _ (show 3 ≠ 0 by decide), hwv i hi]
      refine ev_iadd dX7_sumBy_86 ?_
      refine ev_istore_k 3 dX7_sumBy_87 rfl (by decide) rfl ?_
      refine ev_aload_n dX7_sumBy_88 rfl ?_
      refine ev_dup dX7_sumBy_89 rfl ?_
      refine ev_getI dX7_sumBy_90 fX7_232 (by first | assumption | rfl) (by rfl) ?_
      refine ev_iload dX7_sumBy_93 rfl ?_
      refine ev_if_ne 102 dX7_sumBy_95 (by decide) (fun hc95 => ?_) (fun hc95 => False.elim (absurd hc95 (by decide)))
      refine ev_iconst (v := (nI 0)) dX7_sumBy_102 (by decide) ?_
      refine ev_cS1 dX7_sumBy_103 ceX7_one kX7_141 (rm_le rfl rfl) (Nat.le_of_ble_eq_true rfl) (Nat.le_of_ble_eq_true rfl) (e7_one0) ?_
      refine ev_iload dX7_sumBy_106 rfl ?_
      refine ev_ishl dX7_sumBy_108 ?_
      refine ev_ior dX7_sumBy_109 ?_
      refine ev_put dX7_sumBy_110 pX7_232 (by first | assumption | rfl) (by rfl) (rfl) (rfl) ?_
      refine ev_iinc (v := (nI 1)) dX7_sumBy_113 rfl (by decide) (by decide) rfl ?_
      refine ev_goto 47 dX7_sumBy_116 (by decide) ?_
      exact ev_stw ih (by simp [rf_sub, nI_add, Nat.add_assoc]) rfl (by rw [gs_two, gs_same, sh_0, Int32.or_zero]; rfl)
    | false =>
      simp only [hPi] at ih
      refine ev_iload dX7_sumBy_47 rfl ?_
      refine ev_aload_n dX7_sumBy_49 rfl ?_
      refine ev_getR dX7_sumBy_50 fX7_29 (by first | assumption | rfl) (by rfl) ?_
      refine ev_iconst (v := (nI 0)) dX7_sumBy_53 (by decide) ?_
      refine ev_ialdE _ dX7_sumBy_54 (by first | with_reducible rfl | with_reducible exact nI_add _ _ | with_reducible exact ix3 _ _ _ | with_reducible exact ix_k _ _ _ | with_reducible exact ix_xk _ _ _ _) (by first | assumption | rfl) ⟨by omega, by decide⟩ ?_
      refine ev_icmp_ge 119 dX7_sumBy_55 (by decide) (fun hc55 => False.elim (lp_s (show (rf_set G2 0 21 _) 7 0 = nI nl by rw [gs_q _ _ _ (by decide)]; exact hL2.2.1) (by omega) hi hc55)) (fun hc55 => ?_)
      refine ev_aload_n dX7_sumBy_58 rfl ?_
      refine ev_sipush (v := (nI 1500)) dX7_sumBy_59 (by decide) ?_
      refine ev_iload dX7_sumBy_62 rfl ?_
      refine ev_cV2 dX7_sumBy_64 ceX7_isKeptLine kX7_137 (rm_le rfl rfl) (Nat.le_of_ble_eq_true rfl) (Nat.le_of_ble_eq_true rfl) (e7_isKeptLine (x := 1500) (by decide) (by rw [gs_q _ _ _ (by decide)]; exact w1) w2 (by rw [gs_q _ _ _ (by decide)]; exact hL2.2.2.2.2.1) hL2.2.2.2.2.2.1 (by omega)) (by first | assumption | rfl) ?_
      rw [kpe _ i hi, hPi]
      refine ev_istore dX7_sumBy_67 (by decide) rfl ?_
      refine ev_iload_n dX7_sumBy_69 rfl ?_
      refine ev_iload dX7_sumBy_70 rfl ?_
      refine ev_if_eq 85 dX7_sumBy_72 (by decide) (fun hc72 => ?_) (fun hc72 => False.elim (absurd hc72 (by decide)))
      refine ev_iconst (v := (nI 0)) dX7_sumBy_85 (by decide) ?_
      refine ev_iadd dX7_sumBy_86 ?_
      refine ev_istore_k 3 dX7_sumBy_87 rfl (by decide) rfl ?_
      refine ev_aload_n dX7_sumBy_88 rfl ?_
      refine ev_dup dX7_sumBy_89 rfl ?_
      refine ev_getI dX7_sumBy_90 fX7_232 (by first | assumption | rfl) (by rfl) ?_
      refine ev_iload dX7_sumBy_93 rfl ?_
      refine ev_if_ne 102 dX7_sumBy_95 (by decide) (fun hc95 => False.elim (absurd hc95 (by decide))) (fun hc95 => ?_)
      refine ev_iconst (v := (nI 1)) dX7_sumBy_98 (by decide) ?_
      refine ev_goto 103 dX7_sumBy_99 (by decide) ?_
      refine ev_cS1 dX7_sumBy_103 ceX7_one kX7_141 (rm_le rfl rfl) (Nat.le_of_ble_eq_true rfl) (Nat.le_of_ble_eq_true rfl) (e7_one1) ?_
      refine ev_iload dX7_sumBy_106 rfl ?_
      refine ev_ishl dX7_sumBy_108 ?_
      refine ev_ior dX7_sumBy_109 ?_
      refine ev_put dX7_sumBy_110 pX7_232 (by first | assumption | rfl) (by rfl) (rfl) (rfl) ?_
      refine ev_iinc (v := (nI 1)) dX7_sumBy_113 rfl (by decide) (by decide) rfl ?_
      refine ev_goto 47 dX7_sumBy_116 (by decide) ?_
      exact ev_stw ih (by simp [rf_sub, nI_add, nI_0]) rfl (by rw [gs_two, gs_same]; rfl)
  refine ev_aload_n dX7_sumBy_0 rfl ?_
  refine ev_iconst (v := (nI 0)) dX7_sumBy_1 (by decide) ?_
  refine ev_sipush (v := (nI 1500)) dX7_sumBy_2 (by decide) ?_
  refine ev_cV2v dX7_sumBy_5 ceX7_copyRow kX7_229 (rm_le rfl rfl) (Nat.le_of_ble_eq_true rfl) (Nat.le_of_ble_eq_true rfl) (e7_copyRow (x := 0) (y := 1500) (by decide) (by decide) (by decide)) (by first | assumption | rfl) ?_
  refine ev_aload_n dX7_sumBy_8 rfl ?_
  refine ev_sipush (v := (nI 1500)) dX7_sumBy_9 (by decide) ?_
  refine ev_iload_n dX7_sumBy_12 rfl ?_
  refine ev_cV2 dX7_sumBy_13 ceX7_grantAll kX7_226 (rm_le rfl rfl) (Nat.le_of_ble_eq_true rfl) (Nat.le_of_ble_eq_true rfl) (eG) (by first | assumption | rfl) ?_
  refine ev_istore_k 3 dX7_sumBy_16 rfl (by decide) rfl ?_
  refine ev_iconst (v := (nI 0)) dX7_sumBy_17 (by decide) ?_
  refine ev_istore dX7_sumBy_18 (by decide) rfl ?_
  refine ev_stw (u1 _ _ ?_) ⟨rfl, rfl, rfl, rfl, rfl, trivial⟩ rfl rfl
  refine ev_iload dX7_sumBy_20 rfl ?_
  refine ev_iload_n dX7_sumBy_22 rfl ?_
  refine ev_icmp_ge 39 dX7_sumBy_23 (by decide) (fun hc23 => ?_) (fun hc23 => False.elim (hc23 (nI_le (Nat.le_refl _) (by omega))))
  refine ev_aload_n dX7_sumBy_39 rfl ?_
  refine ev_iconst (v := (nI 0)) dX7_sumBy_40 (by decide) ?_
  refine ev_put dX7_sumBy_41 pX7_232 (by first | assumption | rfl) (by rfl) (rfl) (rfl) ?_
  refine ev_iconst (v := (nI 0)) dX7_sumBy_44 (by decide) ?_
  refine ev_istore dX7_sumBy_45 (by decide) rfl ?_
  exact ev_stw (key 0 (Nat.zero_le _)) (by simp [rf_sub, smL]) rfl rfl
