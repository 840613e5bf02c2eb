/-! the vote is the same -/
theorem sw_lt {x : Int32} {m : Nat} (hm : m < 2 ^ 30) (h : ∀ j, j ≤ m → ¬ x = nI j) : x < 0 ∨ (¬ x < 0 ∧ ¬ x ≤ nI m) := by
  rcases pk_ix x (n := m + 1) (by omega) with z | z | ⟨j, h1, h2⟩
  · exact Or.inl z
  · rw [fa_le, nI_toInt (by omega)] at z
    refine Or.inr ⟨fun w => ?_, fun w => ?_⟩
    · rw [fa_lt] at w
      have : (0 : Int32).toInt = 0 := rfl
      omega
    · rw [fa_le, nI_toInt (by omega)] at w
      omega
  · exact absurd h2 (h j (by omega))
theorem kn_si {w : Bool} {q x n d nl nr : Nat} {tm : Nat → Nat} {C G : rf_Mem} (h : Sim w q x n d nl nr tm C G) {r l : Nat} (hr : r < nr) (hl : l < nl) : (G 1 (x + 160 + 16 * r + l) = -1 ∧ G 1 (x + 288 + 16 * r + l) = -1) ∨ (¬ G 1 (x + 160 + 16 * r + l) = -1 ∧ (∃ v, v ≤ n ∧ G 1 (x + 160 + 16 * r + l) = nI v) ∧ C (q + 6) (r * 16 + l) = G 1 (x + 288 + 16 * r + l)) := by
  have p3 := h.2.1.1.2.2.1
  rcases (h.2.1.2.2.2 r l hr hl).val with h1 | ⟨v, s, h1, h2, h3, h4, h5⟩
  · exact Or.inl h1
  · exact Or.inr ⟨by rw [h3]; exact nI_m1 (by omega), ⟨v, h1, h3⟩, by rw [h4, h5]⟩
theorem vt_same {n d nl nr : Nat} {tm : Nat → Nat} {C G : rf_Mem} (h : Sim true 21 0 n d nl nr tm C G) {l : Nat} (hl : l < nl) : lastI (voM G n nr l) 41 = fFst (vtP C 21 n nr l) (n + 1) := by
  have hP := h.2.1.1
  have p3 := hP.2.2.1
  have l6 := h.1.2.2.2.2.2.1
  have ctA : ∀ (P : Nat → Bool), fb_ct P n ≤ 40 := fun P => Nat.le_trans (fb_ct_le P n) p3
  have ctB : ∀ (P : Nat → Bool), fb_ct P nr ≤ 8 := fun P => Nat.le_trans (fb_ct_le P nr) l6
  have eA : fb_ct (vLeft (G 1) (fun p => G 1 (80 + p)) (nI l)) n = fb_ct (vLeft (C (21 + 1)) (C (21 + 3)) (nI l)) n := fb_ct_cong (fun p hp => by
    have := lf_same hP (nI l) hp
    simp only [Nat.zero_add] at this
    exact this)
  have ea : ∀ v, fb_ct (vWith (G 1) (fun p => G 1 (40 + p)) (fun p => G 1 (80 + p)) (nI l) (nI v)) n = fb_ct (vWith (C (21 + 1)) (C (21 + 2)) (C (21 + 3)) (nI l) (nI v)) n := fun v => fb_ct_cong (fun p hp => by
    have := wt_same hP (nI l) (nI v) hp
    simp only [Nat.zero_add] at this
    exact this)
  have kn : ∀ r, r < nr → knC C 21 (C 21 10) r l = G 1 (160 + 16 * r + l) := fun r hr => by
    have := (kn_same h hr hl).1
    simp only [Nat.zero_add] at this
    exact this
  have eB : kset (fun r => !decide (G 1 (160 + 16 * r + l) < 0)) nr = kset (fun r => !decide (knC C 21 (C 21 10) r l = -1)) nr := kset_cong (fun r hr => by
    have := kn_any h hr hl
    simp only [Nat.zero_add] at this
    exact this.symm)
  have eb : ∀ v, fb_ct (fun r => decide (G 1 (160 + 16 * r + l) = nI v)) nr = fb_ct (fun r => decide (knC C 21 (C 21 10) r l = nI v)) nr := fun v => fb_ct_cong (fun r hr => by rw [kn r hr])
  obtain ⟨A, hA⟩ : ∃ A, A = fb_ct (vLeft (C (21 + 1)) (C (21 + 3)) (nI l)) n + fb_ct (fun r => !decide (knC C 21 (C 21 10) r l = -1)) nr := ⟨_, rfl⟩
  obtain ⟨a, ha⟩ : ∃ a : Nat → Nat, ∀ v, a v = fb_ct (vWith (C (21 + 1)) (C (21 + 2)) (C (21 + 3)) (nI l) (nI v)) n + fb_ct (fun r => decide (knC C 21 (C 21 10) r l = nI v)) nr := ⟨_, fun _ => rfl⟩
  have a48 : ∀ v, a v ≤ 48 := fun v => by rw [ha]; have := ctA (vWith (C (21 + 1)) (C (21 + 2)) (C (21 + 3)) (nI l) (nI v)); have := ctB (fun r => decide (knC C 21 (C 21 10) r l = nI v)); omega
  have A48 : A ≤ 48 := by rw [hA]; have := ctA (vLeft (C (21 + 1)) (C (21 + 3)) (nI l)); have := ctB (fun r => !decide (knC C 21 (C 21 10) r l = -1)); omega
  have h1 : ∀ v, vtP C 21 n nr l v = decide (A < a v * 2) := fun v => by
    unfold vtP vtI vaI
    rw [bc_ks _ (by omega), bc_ks _ (by omega), nI_add, nI_add, ← hA, ← ha, pk_mul]
    have e : (nI (a v * 2) ≤ nI A) ↔ a v * 2 ≤ A := nI_leI (by have := a48 v; omega) (by omega)
    by_cases z : a v * 2 ≤ A
    · rw [decide_eq_true (e.mpr z), decide_eq_false (by omega)]; rfl
    · rw [decide_eq_false (fun w => z (e.mp w)), decide_eq_true (by omega)]; rfl
  have h2 : ∀ v, voM G n nr l v = decide (A < a v * 2) := fun v => by
    unfold voM
    rw [ea, eb, eA, eB, on_ks _ (by omega), nI_add, ← hA, ← ha, pk_mul]
    have e : (nI (2 * a v) ≤ nI A) ↔ 2 * a v ≤ A := nI_leI (by have := a48 v; omega) (by omega)
    by_cases z : 2 * a v ≤ A
    · rw [decide_eq_true (e.mpr z), decide_eq_false (by omega)]; rfl
    · rw [decide_eq_false (fun w => z (e.mp w)), decide_eq_true (by omega)]; rfl
  refine fst_last (by omega) (fun j _ => by rw [h1, h2]) (fun j hj hj2 => ?_) (fun i j hi hj hi2 hj2 => ?_)
  · rw [h2]
    have z1 : fb_ct (vWith (C (21 + 1)) (C (21 + 2)) (C (21 + 3)) (nI l) (nI j)) n = 0 := fb_ct_zero.mpr (fun p hp => by
      obtain ⟨-, -, -, ⟨v, hv, hv2⟩, -⟩ := hP.2.2.2.2 p hp
      unfold vWith
      rw [hv2, decide_eq_false (fun z => by have := (nI_eq (by omega) (by omega)).mp z; omega), Bool.and_false])
    have z2 : fb_ct (fun r => decide (knC C 21 (C 21 10) r l = nI j)) nr = 0 := fb_ct_zero.mpr (fun r hr => by
      refine decide_eq_false (fun z => ?_)
      rw [(kn_same h hr hl).1] at z
      rcases kn_si h hr hl with w | w
      · rw [w.1] at z; exact nI_m1 (by omega) z.symm
      · obtain ⟨v, hv, hv2⟩ := w.2.1
        rw [hv2] at z
        have := (nI_eq (by omega) (by omega)).mp z
        omega)
    have z3 : a j = 0 := by rw [ha, z1, z2]
    rw [z3]
    exact decide_eq_false (by omega)
  · rw [h2] at hi2 hj2
    have y1 := of_decide_eq_true hi2
    have y2 := of_decide_eq_true hj2
    rcases Nat.decEq i j with hne | he
    · exfalso
      have w1 : fb_ct (vWith (C (21 + 1)) (C (21 + 2)) (C (21 + 3)) (nI l) (nI i)) n + fb_ct (vWith (C (21 + 1)) (C (21 + 2)) (C (21 + 3)) (nI l) (nI j)) n ≤ fb_ct (vLeft (C (21 + 1)) (C (21 + 3)) (nI l)) n := by
        rw [← fb_ct_or (fun p hp z => by
          unfold vWith at z
          simp only [Bool.and_eq_true, decide_eq_true_eq] at z
          have := (nI_eq (by omega) (by omega)).mp (z.1.2.symm.trans z.2.2)
          omega)]
        exact fb_ct_sub (fun p hp z => by
          unfold vWith at z
          simp only [Bool.or_eq_true, Bool.and_eq_true] at z
          rcases z with z | z
          · exact z.1
          · exact z.1)
      have w2 : fb_ct (fun r => decide (knC C 21 (C 21 10) r l = nI i)) nr + fb_ct (fun r => decide (knC C 21 (C 21 10) r l = nI j)) nr ≤ fb_ct (fun r => !decide (knC C 21 (C 21 10) r l = -1)) nr := by
        rw [← fb_ct_or (fun p hp z => by
          simp only [decide_eq_true_eq] at z
          have := (nI_eq (by omega) (by omega)).mp (z.1.symm.trans z.2)
          omega)]
        exact fb_ct_sub (fun p hp z => by
          simp only [Bool.or_eq_true, decide_eq_true_eq] at z
          rw [decide_eq_false (fun w => by
            rcases z with z | z
            · rw [z] at w; exact nI_m1 (by omega) w
            · rw [z] at w; exact nI_m1 (by omega) w)]
          rfl)
      rw [ha] at y1 y2
      omega
    · exact he
