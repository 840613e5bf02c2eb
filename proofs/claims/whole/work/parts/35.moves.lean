/-! dusks, copies of states, teaching, making pages: the relation -/
theorem gs_two (M : rf_Mem) (q k : Nat) (a b : Int32) : rf_set (rf_set M q k a) q k b = rf_set M q k b := by
  funext c j
  by_cases h : c = q
  · subst h
    by_cases h2 : j = k
    · subst h2; rw [gs_same, gs_same]
    · rw [gs_j _ _ h2, gs_j _ _ h2, gs_j _ _ h2]
  · rw [gs_q _ _ _ h, gs_q _ _ _ h, gs_q _ _ _ h]
theorem gs_id (M : rf_Mem) (q k : Nat) {a : Int32} (h : M q k = a) : rf_set M q k a = M := by
  funext c j
  by_cases hc : c = q
  · subst hc
    by_cases h2 : j = k
    · subst h2; rw [gs_same, h]
    · rw [gs_j _ _ h2]
  · rw [gs_q _ _ _ hc]
def up9 (e : Nat) : Nat := if e < 9999 then e + 1 else e
theorem dusks {w : Bool} {q x n e nl nr : Nat} {tm : Nat → Nat} {C G : rf_Mem} (hq : 20 < q) (h : Sim w q x n e nl nr tm (rf_set C q 10 (nI e)) G) : Sim w q x n (up9 e) nl nr tm (rf_set C q 10 (nI (up9 e))) (dkD x nl nr G) ∧ FrG x G (dkD x nl nr G) := by
  unfold up9
  by_cases he : e < 9999
  · rw [if_pos he]
    obtain ⟨h1, -, h3⟩ := sim_dusk hq h (by omega)
    rw [gs_two] at h1
    exact ⟨h1, h3⟩
  · rw [if_neg he]
    have d2 : G 1 (x + 1334) = nI e := h.2.1.2.1.2.1
    have d3 : e ≤ 9999 := h.2.1.2.1.2.2
    have e1 : dkD x nl nr G = G := by
      unfold dkD
      rw [if_pos (by rw [d2]; exact nI_le (by omega) (by omega))]
    rw [e1]
    exact ⟨h, FrG.rf x G⟩
/-- the same state at another place -/
theorem Sim.move {w : Bool} {q x n d nl nr : Nat} {tm : Nat → Nat} {C G C' G' : rf_Mem} {z y : Nat} (h : Sim w z y n d nl nr tm C G) (hL : Lb nl nr tm C' G') (c0 : C' q 9 = C z 9 ∧ C' q 10 = C z 10 ∧ C' q 11 = C z 11) (c1 : ∀ p, p < 40 → C' (q + 1) p = C (z + 1) p ∧ C' (q + 2) p = C (z + 2) p ∧ C' (q + 3) p = C (z + 3) p ∧ C' (q + 4) p = C (z + 4) p) (c5 : ∀ j, j < 128 → C' (q + 5) j = C (z + 5) j ∧ C' (q + 6) j = C (z + 6) j) (w' : Bool) (hk : ∃ k, C' (q + 8) 3 = nI k ∧ k ≤ 300) (c8 : w' = true → w = true ∧ C' (q + 8) 3 = C (z + 8) 3 ∧ ∀ i, i < 300 → C' (q + 9) i = C (z + 9) i ∧ C' (q + 10) i = C (z + 10) i ∧ C' (q + 11) i = C (z + 11) i) (hG : ∀ j, j < 1500 → (j < 416 ∨ 432 ≤ j) → G' 1 (x + j) = G 1 (y + j)) : Sim w' q x n d nl nr tm C' G' := by
  obtain ⟨-, ⟨⟨p1, p2, p3, p4, p5⟩, ⟨d1, d2, d3⟩, ⟨s1, s2⟩, h1⟩, k, k', q1, q2, q3, q4, q5⟩ := h
  have l3 := hL.2.2.1
  have l6 := hL.2.2.2.2.2.1
  refine ⟨hL, ⟨⟨by rw [c0.1]; exact p1, by rw [hG _ (by omega) (by omega)]; exact p2, p3, p4, fun p hp => ?_⟩, ⟨by rw [c0.2.1]; exact d1, by rw [hG _ (by omega) (by omega)]; exact d2, d3⟩, ⟨by rw [c0.2.2, hG _ (by omega) (by omega)]; exact s1, by rw [c0.2.2]; exact s2⟩, fun r l hr hl => ?_⟩, ?_⟩
  · have := p5 p hp
    obtain ⟨e1, e2, e3, e4⟩ := c1 p (by omega)
    unfold PgP at this ⊢
    have g1 : G' 1 (x + p) = G 1 (y + p) := hG p (by omega) (by omega)
    have g2 : G' 1 (x + 40 + p) = G 1 (y + 40 + p) := by rw [Nat.add_assoc, Nat.add_assoc]; exact hG _ (by omega) (by omega)
    have g3 : G' 1 (x + 80 + p) = G 1 (y + 80 + p) := by rw [Nat.add_assoc, Nat.add_assoc]; exact hG _ (by omega) (by omega)
    have g4 : G' 1 (x + 120 + p) = G 1 (y + 120 + p) := by rw [Nat.add_assoc, Nat.add_assoc]; exact hG _ (by omega) (by omega)
    rw [e1, e2, e3, e4, g1, g2, g3, g4]
    exact this
  · have := h1 r l hr hl
    obtain ⟨e1, e2⟩ := c5 (r * 16 + l) (by omega)
    have g1 : G' 1 (x + 160 + 16 * r + l) = G 1 (y + 160 + 16 * r + l) := by
      have := hG (160 + 16 * r + l) (by omega) (by omega)
      simpa [Nat.add_assoc] using this
    have g2 : G' 1 (x + 288 + 16 * r + l) = G 1 (y + 288 + 16 * r + l) := by
      have := hG (288 + 16 * r + l) (by omega) (by omega)
      simpa [Nat.add_assoc] using this
    rw [e1, e2, g1, g2]
    exact this
  · obtain ⟨kk, k1, k2⟩ := hk
    refine ⟨kk, k', k1, k2, by rw [hG _ (by omega) (by omega)]; exact q3, q4, fun hw => ?_⟩
    obtain ⟨hw2, f1, f2⟩ := c8 hw
    obtain ⟨ke, m1, m2, m3, m4⟩ := q5 hw2
    have kk2 : kk = k := by
      rw [f1, q1] at k1
      exact ((nI_eq (by omega) (by omega)).mp k1).symm
    subst kk2
    refine ⟨ke, k1, by rw [hG _ (by omega) (by omega)]; exact m2, m3, fun i hi => ?_⟩
    obtain ⟨e1, e2, e3⟩ := f2 i (by omega)
    have g1 : G' 1 (x + 432 + i) = G 1 (y + 432 + i) := by rw [Nat.add_assoc, Nat.add_assoc]; exact hG _ (by omega) (by omega)
    have g2 : G' 1 (x + 732 + i) = G 1 (y + 732 + i) := by rw [Nat.add_assoc, Nat.add_assoc]; exact hG _ (by omega) (by omega)
    have g3 : G' 1 (x + 1032 + i) = G 1 (y + 1032 + i) := by rw [Nat.add_assoc, Nat.add_assoc]; exact hG _ (by omega) (by omega)
    rw [e1, e2, e3, g1, g2, g3]
    exact m4 i hi
theorem cpR_same {M : rf_Mem} {a b n j : Nat} (hn : n < 2 ^ 31) (hj : j < n) : cpR M a b n b j = M a j := by
  unfold cpR
  rw [gr_same]
  unfold va_cpy
  rw [nI_clamp (by decide), nI_clamp hn, if_pos ⟨by omega, by omega⟩]
  congr 1
  omega
theorem cpR_o {M : rf_Mem} {a b n c : Nat} (h : c ≠ b) : cpR M a b n c = M c := gr_q M _ h
/-- copyBooks: what it brings, what it leaves -/
theorem cpB_v {q z : Nat} {C : rf_Mem} (h : q + 12 ≤ z ∨ z + 12 ≤ q) : (cpB q z C q 9 = C z 9 ∧ cpB q z C q 10 = C z 10 ∧ cpB q z C q 11 = C z 11) ∧ (∀ p, p < 40 → cpB q z C (q + 1) p = C (z + 1) p ∧ cpB q z C (q + 2) p = C (z + 2) p ∧ cpB q z C (q + 3) p = C (z + 3) p ∧ cpB q z C (q + 4) p = C (z + 4) p) ∧ (∀ j, j < 128 → cpB q z C (q + 5) j = C (z + 5) j ∧ cpB q z C (q + 6) j = C (z + 6) j) ∧ (∀ a, a < q ∨ q + 7 ≤ a → cpB q z C a = C a) := by
  unfold cpB
  refine ⟨⟨?_, ?_, ?_⟩, fun p hp => ⟨?_, ?_, ?_, ?_⟩, fun j hj => ⟨?_, ?_⟩, fun a ha => ?_⟩
  · rw [gs_j _ _ (by decide), gs_j _ _ (by decide), gs_same, cpR_o (by omega), cpR_o (by omega), cpR_o (by omega), cpR_o (by omega), cpR_o (by omega), cpR_o (by omega)]
  · rw [gs_j _ _ (by decide), gs_same, gs_q _ _ _ (by omega), cpR_o (by omega), cpR_o (by omega), cpR_o (by omega), cpR_o (by omega), cpR_o (by omega), cpR_o (by omega)]
  · rw [gs_same, gs_q _ _ _ (by omega), gs_q _ _ _ (by omega), cpR_o (by omega), cpR_o (by omega), cpR_o (by omega), cpR_o (by omega), cpR_o (by omega), cpR_o (by omega)]
  · rw [gs_q _ _ _ (by omega), gs_q _ _ _ (by omega), gs_q _ _ _ (by omega), cpR_o (by omega), cpR_o (by omega), cpR_o (by omega), cpR_o (by omega), cpR_o (by omega), cpR_same (by decide) hp]
  · rw [gs_q _ _ _ (by omega), gs_q _ _ _ (by omega), gs_q _ _ _ (by omega), cpR_o (by omega), cpR_o (by omega), cpR_o (by omega), cpR_o (by omega), cpR_same (by decide) hp, cpR_o (by omega)]
  · rw [gs_q _ _ _ (by omega), gs_q _ _ _ (by omega), gs_q _ _ _ (by omega), cpR_o (by omega), cpR_o (by omega), cpR_o (by omega), cpR_same (by decide) hp, cpR_o (by omega), cpR_o (by omega)]
  · rw [gs_q _ _ _ (by omega), gs_q _ _ _ (by omega), gs_q _ _ _ (by omega), cpR_o (by omega), cpR_o (by omega), cpR_same (by decide) hp, cpR_o (by omega), cpR_o (by omega), cpR_o (by omega)]
  · rw [gs_q _ _ _ (by omega), gs_q _ _ _ (by omega), gs_q _ _ _ (by omega), cpR_o (by omega), cpR_same (by decide) hj, cpR_o (by omega), cpR_o (by omega), cpR_o (by omega), cpR_o (by omega)]
  · rw [gs_q _ _ _ (by omega), gs_q _ _ _ (by omega), gs_q _ _ _ (by omega), cpR_same (by decide) hj, cpR_o (by omega), cpR_o (by omega), cpR_o (by omega), cpR_o (by omega), cpR_o (by omega)]
  · rw [gs_q _ _ _ (by omega), gs_q _ _ _ (by omega), gs_q _ _ _ (by omega), cpR_o (by omega), cpR_o (by omega), cpR_o (by omega), cpR_o (by omega), cpR_o (by omega), cpR_o (by omega)]
theorem cpS_v {q z : Nat} {C : rf_Mem} (h : q + 12 ≤ z ∨ z + 12 ≤ q) : (cpS q z C q 9 = C z 9 ∧ cpS q z C q 10 = C z 10 ∧ cpS q z C q 11 = C z 11) ∧ (∀ p, p < 40 → cpS q z C (q + 1) p = C (z + 1) p ∧ cpS q z C (q + 2) p = C (z + 2) p ∧ cpS q z C (q + 3) p = C (z + 3) p ∧ cpS q z C (q + 4) p = C (z + 4) p) ∧ (∀ j, j < 128 → cpS q z C (q + 5) j = C (z + 5) j ∧ cpS q z C (q + 6) j = C (z + 6) j) ∧ (∀ a, a < q ∨ q + 12 ≤ a → cpS q z C a = C a) ∧ (∀ l, l < 16 → cpS q z C (q + 7) l = C (z + 7) l) ∧ cpS q z C (q + 8) 3 = C (z + 8) 3 ∧ (∀ i, i < 300 → cpS q z C (q + 9) i = C (z + 9) i ∧ cpS q z C (q + 10) i = C (z + 10) i ∧ cpS q z C (q + 11) i = C (z + 11) i) := by
  obtain ⟨b1, b2, b3, b4⟩ := cpB_v (C := C) h
  have low : ∀ a, a < q + 7 ∨ q + 12 ≤ a → cpS q z C a = cpB q z C a := fun a ha => by
    unfold cpS cpG
    rw [gs_q _ _ _ (by omega), cpR_o (by omega), cpR_o (by omega), cpR_o (by omega), cpR_o (by omega)]
  refine ⟨by rw [low q (by omega)]; exact b1, fun p hp => by rw [low (q + 1) (by omega), low (q + 2) (by omega), low (q + 3) (by omega), low (q + 4) (by omega)]; exact b2 p hp, fun j hj => by rw [low (q + 5) (by omega), low (q + 6) (by omega)]; exact b3 j hj, fun a ha => by rw [low a (by omega)]; exact b4 a (by omega), fun l hl => ?_, ?_, fun i hi => ⟨?_, ?_, ?_⟩⟩
  · unfold cpS cpG
    rw [gs_q _ _ _ (by omega), cpR_o (by omega), cpR_o (by omega), cpR_o (by omega), cpR_same (by decide) hl, b4 _ (by omega)]
  · unfold cpS cpG
    rw [gs_same, cpR_o (by omega), cpR_o (by omega), cpR_o (by omega), cpR_o (by omega), b4 _ (by omega)]
  · unfold cpS cpG
    rw [gs_q _ _ _ (by omega), cpR_o (by omega), cpR_o (by omega), cpR_same (by decide) hi, cpR_o (by omega), b4 _ (by omega)]
  · unfold cpS cpG
    rw [gs_q _ _ _ (by omega), cpR_o (by omega), cpR_same (by decide) hi, cpR_o (by omega), cpR_o (by omega), b4 _ (by omega)]
  · unfold cpS cpG
    rw [gs_q _ _ _ (by omega), cpR_same (by decide) hi, cpR_o (by omega), cpR_o (by omega), cpR_o (by omega), b4 _ (by omega)]
theorem cpW_v {G : rf_Mem} {x y : Nat} : (∀ j, j < 1500 → cpW G x y 1500 1 (y + j) = G 1 (x + j)) ∧ (∀ j, j < y ∨ y + 1500 ≤ j → cpW G x y 1500 1 j = G 1 j) ∧ ∀ a, a ≠ 1 → cpW G x y 1500 a = G a := by
  refine ⟨fun j hj => ?_, fun j hj => ?_, fun a ha => gr_q G _ ha⟩
  · rw [cpW, gr_same, if_pos ⟨by omega, by omega⟩]
    congr 1
    omega
  · rw [cpW, gr_same, if_neg (by omega)]
/-- teaching -/
theorem sim_teach {n d nl nr : Nat} {tm : Nat → Nat} {C G : rf_Mem} {a b l v : Nat} (h : Sim true 21 0 n d nl nr tm C G) (ha : a < nr) (hb : b < nr) (hl : l < nl) (hv : v ≤ n) : Sim true 21 0 n d nl nr tm (lrn 21 (lrn 21 C b l (nI v)) a l (nI v)) (knM 0 (knM 0 G a l (nI v)) b l (nI v)) ∧ FrC 21 C (lrn 21 (lrn 21 C b l (nI v)) a l (nI v)) ∧ FrG 0 G (knM 0 (knM 0 G a l (nI v)) b l (nI v)) := by
  obtain ⟨hL, ⟨⟨p1, p2, p3, p4, p5⟩, ⟨d1, d2, d3⟩, ⟨s1, s2⟩, h1⟩, k, k', q1, q2, q3, q4, q5⟩ := h
  have l3 := hL.2.2.1
  have l6 := hL.2.2.2.2.2.1
  have oC : ∀ c, c ≠ 26 → c ≠ 27 → lrn 21 (lrn 21 C b l (nI v)) a l (nI v) c = C c := fun c h1 h2 => by rw [lrn_out (by omega), lrn_out (by omega)]
  have oG : ∀ j, j < 160 ∨ 416 ≤ j → knM 0 (knM 0 G a l (nI v)) b l (nI v) 1 j = G 1 j := fun j hj => by rw [knM_j (by omega), knM_j (by omega)]
  have fC : FrC 21 C (lrn 21 (lrn 21 C b l (nI v)) a l (nI v)) := fun c hc => oC c (by omega) (by omega)
  have fG : FrG 0 G (knM 0 (knM 0 G a l (nI v)) b l (nI v)) := ⟨fun c hc => by rw [knM_o hc, knM_o hc], fun j hj => oG j (by omega)⟩
  refine ⟨⟨hL.fr (by decide) fC fG, ⟨⟨by rw [oC _ (by omega) (by omega)]; exact p1, by rw [oG _ (by omega)]; exact p2, p3, p4, fun p hp => ?_⟩, ⟨by rw [oC _ (by omega) (by omega)]; exact d1, by rw [oG _ (by omega)]; exact d2, d3⟩, ⟨by rw [oC _ (by omega) (by omega), oG _ (by omega)]; exact s1, by rw [oC _ (by omega) (by omega)]; exact s2⟩, ?_⟩, k, k', by rw [oC _ (by omega) (by omega)]; exact q1, q2, by rw [oG _ (by omega)]; exact q3, q4, fun hw => ⟨(q5 hw).1, ?_⟩⟩, fC, fG⟩
  · have := p5 p hp
    unfold PgP at this ⊢
    rw [oC (21 + 1) (by omega) (by omega), oC (21 + 2) (by omega) (by omega), oC (21 + 3) (by omega) (by omega), oC (21 + 4) (by omega) (by omega), oG _ (by omega), oG _ (by omega), oG _ (by omega), oG _ (by omega)]
    exact this
  · have e10 : lrn 21 C b l (nI v) 21 10 = nI d := by rw [lrn_out (by omega)]; exact d1
    have g10 : knM 0 G a l (nI v) 1 (0 + 1334) = nI d := by rw [knM_j (by omega)]; exact d2
    refine h1.learn (fun r hr => (hL.2.2.2.2.2.2.2.2 r hr).2.2.2.1) hv (fun r m => m = l ∧ (r = a ∨ r = b)) (fun r m hr hm hT => ?_) (fun r m hr hm hT => ?_)
    · rw [lrn_5, lrn_5, lrn_6, lrn_6, knM_a _ _ _ _ _ _ _ (by omega) (by omega) (by omega) (by omega), knM_a _ _ _ _ _ _ _ (by omega) (by omega) (by omega) (by omega), knM_b _ _ _ _ _ _ _ (by omega) (by omega) (by omega) (by omega), knM_b _ _ _ _ _ _ _ (by omega) (by omega) (by omega) (by omega), e10, g10, d1, d2]
      rcases hT with ⟨rfl, rfl | rfl⟩
      · refine ⟨by rw [if_pos rfl], by rw [if_pos rfl], ?_, ?_⟩
        · by_cases z : r = b
          · rw [if_pos ⟨z, rfl⟩]
          · rw [if_neg (fun y => z y.1), if_pos ⟨rfl, rfl⟩]
        · by_cases z : r = b
          · rw [if_pos ⟨z, rfl⟩]
          · rw [if_neg (fun y => z y.1), if_pos ⟨rfl, rfl⟩]
      · refine ⟨?_, ?_, by rw [if_pos ⟨rfl, rfl⟩], by rw [if_pos ⟨rfl, rfl⟩]⟩
        · by_cases z : r * 16 + m = a * 16 + m
          · rw [if_pos z]
          · rw [if_neg z, if_pos rfl]
        · by_cases z : r * 16 + m = a * 16 + m
          · rw [if_pos z]
          · rw [if_neg z, if_pos rfl]
    · rw [lrn_5, lrn_5, lrn_6, lrn_6, knM_a _ _ _ _ _ _ _ (by omega) (by omega) (by omega) (by omega), knM_a _ _ _ _ _ _ _ (by omega) (by omega) (by omega) (by omega), knM_b _ _ _ _ _ _ _ (by omega) (by omega) (by omega) (by omega), knM_b _ _ _ _ _ _ _ (by omega) (by omega) (by omega) (by omega)]
      have z1 : ¬ r * 16 + m = a * 16 + l := fun z => hT ⟨by omega, Or.inl (by omega)⟩
      have z2 : ¬ r * 16 + m = b * 16 + l := fun z => hT ⟨by omega, Or.inr (by omega)⟩
      have z3 : ¬ (r = b ∧ m = l) := fun z => hT ⟨z.2, Or.inr z.1⟩
      have z4 : ¬ (r = a ∧ m = l) := fun z => hT ⟨z.2, Or.inl z.1⟩
      rw [if_neg z1, if_neg z2, if_neg z1, if_neg z2, if_neg z3, if_neg z4, if_neg z3, if_neg z4]
      exact ⟨rfl, rfl, rfl, rfl⟩
  · obtain ⟨e1, e2, e3, e4⟩ := (q5 hw).2
    refine ⟨by rw [oC _ (by omega) (by omega)]; exact e1, by rw [oG _ (by omega)]; exact e2, e3, fun i hi => ?_⟩
    rw [oC (21 + 9) (by omega) (by omega), oC (21 + 10) (by omega) (by omega), oC (21 + 11) (by omega) (by omega), oG _ (by omega), oG _ (by omega), oG _ (by omega)]
    exact e4 i hi
