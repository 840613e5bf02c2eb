/-! a reading keeps the relation -/
theorem rdT_out {q nr : Nat} {C : rf_Mem} {r p l a : Nat} (h : a ≠ q + 5 ∧ a ≠ q + 6) : rdT q nr C r p l a = C a := by
  unfold rdT
  split
  · exact lrnA_out h nr
  · exact lrn_out h
theorem rdP_out {q k nr : Nat} {C : rf_Mem} {r p l a : Nat} (h : a ≠ q + 3 ∧ a ≠ q + 5 ∧ a ≠ q + 6 ∧ a ≠ q + 8 ∧ a ≠ q + 9 ∧ a ≠ q + 10 ∧ a ≠ q + 11) : rdP q k nr C r p l a = C a := by
  unfold rdP
  rw [rdT_out (by omega), gs_q _ _ _ (by omega), lgA_out (by omega)]
theorem rdP_3 {q k nr : Nat} {C : rf_Mem} {r p l : Nat} (j : Nat) : rdP q k nr C r p l (q + 3) j = if j = p then (if C 11 r = nI 3 then nI 9 else C (q + 3) p + nI 1) else C (q + 3) j := by
  unfold rdP
  rw [rdT_out (by omega)]
  by_cases h : j = p
  · rw [if_pos h, h, gs_same]
  · rw [if_neg h, gs_j _ _ h, lgA_out (by omega)]
theorem rdP_5 {q k nr : Nat} {C : rf_Mem} {r p l : Nat} (hq : 20 < q) (hr : r < nr) (hl : l < 16) (r' m : Nat) (hr' : r' < nr) (hm : m < 16) : rdP q k nr C r p l (q + 5) (r' * 16 + m) = (if m = l ∧ (r' = r ∨ C 11 r = nI 1) then C (q + 2) p else C (q + 5) (r' * 16 + m)) ∧ rdP q k nr C r p l (q + 6) (r' * 16 + m) = (if m = l ∧ (r' = r ∨ C 11 r = nI 1) then C q 10 else C (q + 6) (r' * 16 + m)) := by
  have e11 : ∀ v, rf_set (lgA q k C (C q 10) (nI p) (nI r)) (q + 3) p v 11 = C 11 := fun v => by rw [gs_q _ _ _ (by omega), lgA_out (by omega)]
  have e2 : ∀ v, rf_set (lgA q k C (C q 10) (nI p) (nI r)) (q + 3) p v (q + 2) = C (q + 2) := fun v => by rw [gs_q _ _ _ (by omega), lgA_out (by omega)]
  have e5 : ∀ v, rf_set (lgA q k C (C q 10) (nI p) (nI r)) (q + 3) p v (q + 5) = C (q + 5) := fun v => by rw [gs_q _ _ _ (by omega), lgA_out (by omega)]
  have e6 : ∀ v, rf_set (lgA q k C (C q 10) (nI p) (nI r)) (q + 3) p v (q + 6) = C (q + 6) := fun v => by rw [gs_q _ _ _ (by omega), lgA_out (by omega)]
  have e0 : ∀ v, rf_set (lgA q k C (C q 10) (nI p) (nI r)) (q + 3) p v q = C q := fun v => by rw [gs_q _ _ _ (by omega), lgA_out (by omega)]
  unfold rdP rdT
  rw [e11, e2]
  by_cases hk : C 11 r = nI 1
  · rw [if_pos hk, lrnA_5 _ _ _ _ hl _ _ hm, lrnA_6 _ _ _ _ hl _ _ hm, e5, e6, e0]
    by_cases h : m = l
    · exact ⟨by rw [if_pos ⟨hr', h⟩, if_pos ⟨h, Or.inr hk⟩], by rw [if_pos ⟨hr', h⟩, if_pos ⟨h, Or.inr hk⟩]⟩
    · exact ⟨by rw [if_neg (fun z => h z.2), if_neg (fun z => h z.1)], by rw [if_neg (fun z => h z.2), if_neg (fun z => h z.1)]⟩
  · rw [if_neg hk, lrn_5, lrn_6, e5, e6, e0]
    by_cases h : r' * 16 + m = r * 16 + l
    · have h2 : m = l ∧ r' = r := by omega
      exact ⟨by rw [if_pos h, if_pos ⟨h2.1, Or.inl h2.2⟩], by rw [if_pos h, if_pos ⟨h2.1, Or.inl h2.2⟩]⟩
    · have h2 : ¬ (m = l ∧ (r' = r ∨ C 11 r = nI 1)) := fun z => by
        rcases z.2 with w | w
        · have := z.1; omega
        · exact hk w
      exact ⟨by rw [if_neg h, if_neg h2], by rw [if_neg h, if_neg h2]⟩
theorem lgM_o {x k : Nat} {G : rf_Mem} {p r : Int32} {a : Nat} (h : a ≠ 1) : lgM x k G p r a = G a := by
  unfold lgM
  split
  · rw [gs_q _ _ _ h, gs_q _ _ _ h, gs_q _ _ _ h, gs_q _ _ _ h]
  · rfl
theorem lgM_j {x k : Nat} {G : rf_Mem} {p r : Int32} {j : Nat} (h : j < x + 432 ∨ x + 1332 = j ∨ x + 1333 < j) : lgM x k G p r 1 j = G 1 j := by
  unfold lgM
  split
  · rw [gs_j _ _ (by omega), gs_j _ _ (by omega), gs_j _ _ (by omega), gs_j _ _ (by omega)]
  · rfl
theorem rdM_o {x k nr : Nat} {G : rf_Mem} {r p l a : Nat} (h : a ≠ 1) : rdM x k nr G r p l a = G a := by
  unfold rdM
  rw [lgM_o h, knF_o h, gs_q _ _ _ h]
theorem rdM_j {x k nr : Nat} {G : rf_Mem} {r p l j : Nat} (hl : l < 16) (hnr : nr ≤ 8) (h : j < x + 160 ∨ (x + 416 ≤ j ∧ j < x + 432) ∨ x + 1332 = j ∨ x + 1333 < j) (hp : j ≠ x + 80 + p) : rdM x k nr G r p l 1 j = G 1 j := by
  unfold rdM
  rw [lgM_j (by omega), knF_j hl (by omega) nr hnr, gs_j _ _ hp]
theorem rdM_3 {x k nr : Nat} {G : rf_Mem} {r p l : Nat} (hp : p < 40) (hl : l < 16) (hnr : nr ≤ 8) : rdM x k nr G r p l 1 (x + 80 + p) = if G 5 r = nI 3 then nI 9 else G 1 (x + 80 + p) + nI 1 := by
  unfold rdM
  rw [lgM_j (by omega), knF_j hl (by omega) nr hnr, gs_same]
theorem rdM_5 {x k nr : Nat} {G : rf_Mem} {r p l : Nat} (hp : p < 40) (hnr : nr ≤ 8) (hl : l < 16) (r' m : Nat) (hr' : r' < nr) (hm : m < 16) : rdM x k nr G r p l 1 (x + 160 + 16 * r' + m) = (if m = l ∧ (r' = r ∨ G 5 r = nI 1) then G 1 (x + 40 + p) else G 1 (x + 160 + 16 * r' + m)) ∧ rdM x k nr G r p l 1 (x + 288 + 16 * r' + m) = (if m = l ∧ (r' = r ∨ G 5 r = nI 1) then G 1 (x + 1334) else G 1 (x + 288 + 16 * r' + m)) := by
  unfold rdM
  rw [lgM_j (by omega), lgM_j (by omega), knF_a _ _ _ _ _ _ hl _ _ (by omega) hm nr hnr, knF_b _ _ _ _ _ _ hl _ _ (by omega) hm nr hnr, gs_j _ _ (by omega), gs_j _ _ (by omega), gs_j _ _ (by omega)]
  have e : ∀ (c : Prop), (r' < nr ∧ m = l ∧ (r' = r ∨ decide (G 5 r = nI 1) = true)) ↔ (m = l ∧ (r' = r ∨ G 5 r = nI 1)) := fun _ => by
    rw [decide_eq_true_iff]
    exact ⟨fun z => z.2, fun z => ⟨hr', z⟩⟩
  by_cases h : m = l ∧ (r' = r ∨ G 5 r = nI 1)
  · rw [if_pos ((e True).mpr h), if_pos h, if_pos ((e True).mpr h), if_pos h]
    exact ⟨rfl, rfl⟩
  · rw [if_neg (fun z => h ((e True).mp z)), if_neg h, if_neg (fun z => h ((e True).mp z)), if_neg h]
    exact ⟨rfl, rfl⟩
/-- a reading of a page that is not gone -/
theorem rd_bk {q x n d nl nr : Nat} {tm : Nat → Nat} {C G : rf_Mem} {k k' r p l s : Nat} (hq : 20 < q) (hL : Lb nl nr tm C G) (hB : Bk q x n d nl nr tm C G) (hr : r < nr) (hp : p < n) (hl : C (q + 1) p = nI l) (hl2 : l < nl) (hs : C (q + 3) p = nI s) (hs9 : s < 9) : Bk q x n d nl nr tm (rdP q k nr C r p l) (rdM x k' nr G r p l) := by
  obtain ⟨⟨p1, p2, p3, p4, p5⟩, ⟨d1, d2, d3⟩, ⟨s1, s2⟩, h1⟩ := hB
  obtain ⟨-, -, l3, -, -, l6, -, -, l9⟩ := hL
  obtain ⟨⟨g1, g2, g3, g4⟩, -, -, ⟨v, hv, hv2⟩, -⟩ := p5 p hp
  have k5 : C 11 r = G 5 r := (l9 r hr).1
  refine ⟨⟨by rw [rdP_out (by omega)]; exact p1, by rw [rdM_j (by omega) l6 (by omega) (by omega)]; exact p2, p3, p4, fun p' hp' => ?_⟩, ⟨by rw [rdP_out (by omega)]; exact d1, by rw [rdM_j (by omega) l6 (by omega) (by omega)]; exact d2, d3⟩, ⟨by rw [rdP_out (by omega), rdM_j (by omega) l6 (by omega) (by omega)]; exact s1, by rw [rdP_out (by omega)]; exact s2⟩, ?_⟩
  · obtain ⟨⟨a1, a2, a3, a4⟩, a5, a6, a7, a8⟩ := p5 p' hp'
    refine ⟨⟨?_, ?_, ?_, ?_⟩, ?_, ?_, ?_, ?_⟩
    · rw [rdP_out (by omega), rdM_j (by omega) l6 (by omega) (by omega)]; exact a1
    · rw [rdP_out (by omega), rdM_j (by omega) l6 (by omega) (by omega)]; exact a2
    · rw [rdP_3]
      by_cases e : p' = p
      · subst e
        rw [if_pos rfl, rdM_3 (by omega) (by omega) l6, k5, g3]
      · rw [if_neg e, rdM_j (by omega) l6 (by omega) (by omega)]; exact a3
    · rw [rdP_out (by omega), rdM_j (by omega) l6 (by omega) (by omega)]; exact a4
    · rw [rdP_out (by omega)]; exact a5
    · rw [rdP_3]
      by_cases e : p' = p
      · rw [if_pos e]
        by_cases e2 : C 11 r = nI 3
        · rw [if_pos e2]; exact ⟨9, by omega, rfl⟩
        · rw [if_neg e2, hs]; exact ⟨s + 1, by omega, nI_add s 1⟩
      · rw [if_neg e]; exact a6
    · rw [rdP_out (by omega)]; exact a7
    · rw [rdP_out (by omega), rdP_out (by omega), rdP_out (by omega)]; exact a8
  · refine h1.learn (fun r' hr' => (l9 r' hr').2.2.2.1) hv (fun r' m => m = l ∧ (r' = r ∨ C 11 r = nI 1)) (fun r' m hr' hm hT => ?_) (fun r' m hr' hm hT => ?_)
    · obtain ⟨b1, b2⟩ := rdP_5 (k := k) (C := C) (p := p) hq hr (show l < 16 by omega) r' m hr' (show m < 16 by omega)
      obtain ⟨b3, b4⟩ := rdM_5 (x := x) (k := k') (G := G) (r := r) (p := p) (by omega) l6 (show l < 16 by omega) r' m hr' (show m < 16 by omega)
      have hT2 : m = l ∧ (r' = r ∨ G 5 r = nI 1) := by rw [← k5]; exact hT
      rw [b1, b2, b3, b4, if_pos hT, if_pos hT, if_pos hT2, if_pos hT2]
      exact ⟨hv2, d1, by rw [← g2]; exact hv2, d2⟩
    · obtain ⟨b1, b2⟩ := rdP_5 (k := k) (C := C) (p := p) hq hr (show l < 16 by omega) r' m hr' (show m < 16 by omega)
      obtain ⟨b3, b4⟩ := rdM_5 (x := x) (k := k') (G := G) (r := r) (p := p) (by omega) l6 (show l < 16 by omega) r' m hr' (show m < 16 by omega)
      have hT2 : ¬ (m = l ∧ (r' = r ∨ G 5 r = nI 1)) := by rw [← k5]; exact hT
      rw [b1, b2, b3, b4, if_neg hT, if_neg hT, if_neg hT2, if_neg hT2]
      exact ⟨rfl, rfl, rfl, rfl⟩
