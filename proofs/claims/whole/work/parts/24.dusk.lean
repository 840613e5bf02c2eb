/-! the log, the catalogue, dusk, draws -/
def Lg (q x k n nr : Nat) (C G : rf_Mem) : Prop := C (q + 8) 3 = nI k ∧ G 1 (x + 1333) = nI k ∧ k ≤ 300 ∧ ∀ i, i < k → C (q + 9) i = G 1 (x + 432 + i) ∧ C (q + 10) i = G 1 (x + 732 + i) ∧ C (q + 11) i = G 1 (x + 1032 + i) ∧ (∃ p, p < n ∧ C (q + 10) i = nI p) ∧ (∃ r, r < nr ∧ C (q + 11) i = nI r)
def En (q x nl : Nat) (C G : rf_Mem) : Prop := ∀ l, l < nl → C (q + 7) l = G 1 (x + 416 + l) ∧ ∃ s, s ≤ 9 ∧ C (q + 7) l = nI s
def kUp (k : Nat) : Nat := if k < 300 then k + 1 else k
theorem lgA_v {q k : Nat} {C : rf_Mem} {d p r : Int32} (h : k < 300) : lgA q k C d p r (q + 8) 3 = nI (k + 1) ∧ (∀ i, lgA q k C d p r (q + 9) i = if i = k then d else C (q + 9) i) ∧ (∀ i, lgA q k C d p r (q + 10) i = if i = k then p else C (q + 10) i) ∧ (∀ i, lgA q k C d p r (q + 11) i = if i = k then r else C (q + 11) i) := by
  unfold lgA
  rw [if_pos h]
  refine ⟨gs_same _ _ _ _, fun i => ?_, fun i => ?_, fun i => ?_⟩
  · rw [gs_q _ _ _ (by omega), gs_q _ _ _ (by omega), gs_q _ _ _ (by omega)]
    by_cases e : i = k
    · rw [if_pos e, e, gs_same]
    · rw [if_neg e, gs_j _ _ e]
  · rw [gs_q _ _ _ (by omega), gs_q _ _ _ (by omega)]
    by_cases e : i = k
    · rw [if_pos e, e, gs_same]
    · rw [if_neg e, gs_j _ _ e, gs_q _ _ _ (by omega)]
  · rw [gs_q _ _ _ (by omega)]
    by_cases e : i = k
    · rw [if_pos e, e, gs_same]
    · rw [if_neg e, gs_j _ _ e, gs_q _ _ _ (by omega), gs_q _ _ _ (by omega)]
theorem rdP_lg {q k nr : Nat} {C : rf_Mem} {r p l a : Nat} (h : a = q + 8 ∨ a = q + 9 ∨ a = q + 10 ∨ a = q + 11) : rdP q k nr C r p l a = lgA q k C (C q 10) (nI p) (nI r) a := by
  unfold rdP
  rw [rdT_out (by omega), gs_q _ _ _ (by omega)]
theorem rdP_k {q k nr : Nat} {C : rf_Mem} {r p l : Nat} (hk : C (q + 8) 3 = nI k) : rdP q k nr C r p l (q + 8) 3 = nI (kUp k) := by
  rw [rdP_lg (Or.inl rfl), kUp]
  by_cases h : k < 300
  · rw [if_pos h]; exact (lgA_v h).1
  · rw [if_neg h, lgA, if_neg h]; exact hk
theorem kUp_le {k : Nat} (h : k ≤ 300) : kUp k ≤ 300 := by unfold kUp; split <;> omega
theorem rd_lg {q x n d nl nr : Nat} {C G : rf_Mem} {k r p l : Nat} (hL : Lg q x k n nr C G) (hD : Dy q x d C G) (hl : l < 16) (hnr : nr ≤ 8) (hr : r < nr) (hp : p < n) (hp40 : n ≤ 40) : Lg q x (kUp k) n nr (rdP q k nr C r p l) (rdM x k nr G r p l) := by
  obtain ⟨h1, h2, h3, h4⟩ := hL
  by_cases hk : k < 300
  · have e : kUp k = k + 1 := by simp [kUp, hk]
    obtain ⟨a1, a2, a3, a4⟩ := lgA_v (q := q) (C := C) (d := C q 10) (p := nI p) (r := nI r) hk
    have b0 : ∀ j, j < x + 160 ∨ x + 416 ≤ j → j ≠ x + 80 + p → knF x (rf_set G 1 (x + 80 + p) (if G 5 r = nI 3 then nI 9 else G 1 (x + 80 + p) + nI 1)) r (decide (G 5 r = nI 1)) l (G 1 (x + 40 + p)) nr 1 j = G 1 j := fun j hj hj2 => by rw [knF_j hl hj nr hnr, gs_j _ _ hj2]
    rw [e]
    refine ⟨by rw [rdP_lg (Or.inl rfl)]; exact a1, ?_, by omega, fun i hi => ?_⟩
    · unfold rdM lgM
      rw [if_pos hk, gs_same, nI_add]
    · rw [rdP_lg (a := q + 9) (by omega), rdP_lg (a := q + 10) (by omega), rdP_lg (a := q + 11) (by omega), a2, a3, a4]
      unfold rdM lgM
      rw [if_pos hk]
      by_cases e2 : i = k
      · subst e2
        rw [if_pos rfl, if_pos rfl, if_pos rfl]
        refine ⟨?_, ?_, ?_, ⟨p, hp, rfl⟩, ⟨r, hr, rfl⟩⟩
        · rw [gs_j _ _ (by omega), gs_j _ _ (by omega), gs_j _ _ (by omega), gs_same, b0 _ (by omega) (by omega), hD.1, hD.2.1]
        · rw [gs_j _ _ (by omega), gs_j _ _ (by omega), gs_same]
        · rw [gs_j _ _ (by omega), gs_same]
      · obtain ⟨c1, c2, c3, c4⟩ := h4 i (by omega)
        rw [if_neg e2, if_neg e2, if_neg e2]
        refine ⟨?_, ?_, ?_, c4⟩
        · rw [gs_j _ _ (by omega), gs_j _ _ (by omega), gs_j _ _ (by omega), gs_j _ _ (by omega), b0 _ (by omega) (by omega)]; exact c1
        · rw [gs_j _ _ (by omega), gs_j _ _ (by omega), gs_j _ _ (by omega), gs_j _ _ (by omega), b0 _ (by omega) (by omega)]; exact c2
        · rw [gs_j _ _ (by omega), gs_j _ _ (by omega), gs_j _ _ (by omega), gs_j _ _ (by omega), b0 _ (by omega) (by omega)]; exact c3
  · have e : kUp k = k := by simp [kUp, hk]
    have b0 : ∀ j, j < x + 160 ∨ x + 416 ≤ j → j ≠ x + 80 + p → rdM x k nr G r p l 1 j = G 1 j := fun j hj hj2 => by
      unfold rdM lgM
      rw [if_neg hk, knF_j hl hj nr hnr, gs_j _ _ hj2]
    have c0 : ∀ a, a = q + 8 ∨ a = q + 9 ∨ a = q + 10 ∨ a = q + 11 → rdP q k nr C r p l a = C a := fun a ha => by
      rw [rdP_lg ha, lgA, if_neg hk]
    rw [e]
    refine ⟨by rw [c0 _ (by omega)]; exact h1, by rw [b0 _ (by omega) (by omega)]; exact h2, h3, fun i hi => ?_⟩
    rw [c0 (q + 9) (by omega), c0 (q + 10) (by omega), c0 (q + 11) (by omega), b0 _ (by omega) (by omega), b0 _ (by omega) (by omega), b0 _ (by omega) (by omega)]
    exact h4 i hi
theorem rd_en {q x nl nr : Nat} {C G : rf_Mem} {k k' r p l : Nat} (h : En q x nl C G) (hl : l < 16) (hnr : nr ≤ 8) (hp : p < 40) (hnl : nl ≤ 16) : En q x nl (rdP q k nr C r p l) (rdM x k' nr G r p l) := by
  intro m hm
  rw [rdP_out (by omega), rdM_j hl hnr (by omega) (by omega)]
  exact h m hm
/-- one dusk -/
theorem du_bk {q x n d nl nr : Nat} {tm : Nat → Nat} {C G : rf_Mem} (hL : Lb nl nr tm C G) (hB : Bk q x n d nl nr tm C G) (hd : d + 1 ≤ 9999) : Bk q x n (d + 1) nl nr tm (rf_set C q 10 (nI (d + 1))) (dkD x nl nr G) := by
  obtain ⟨⟨p1, p2, p3, p4, p5⟩, ⟨d1, d2, d3⟩, ⟨s1, s2⟩, h1⟩ := hB
  obtain ⟨-, -, l3, -, -, l6, -, -, l9⟩ := hL
  have hlt : ¬ nI 9999 ≤ G 1 (x + 1334) := by rw [d2]; exact nI_ge (by omega) (by decide)
  have eD : dkD x nl nr G = dkG x nl nr 0 (rf_set G 1 (x + 1334) (nI (d + 1))) := by
    unfold dkD
    rw [if_neg hlt, d2, nI_add]
  rw [eD]
  have out : ∀ j, j < x + 160 ∨ x + 416 ≤ j → j ≠ x + 1334 → dkG x nl nr 0 (rf_set G 1 (x + 1334) (nI (d + 1))) 1 j = G 1 j := fun j hj hj2 => by rw [dkG, dkF_out hj, gs_j _ _ hj2]
  refine ⟨⟨by rw [gs_j _ _ (by decide)]; exact p1, by rw [out _ (by omega) (by omega)]; exact p2, p3, p4, fun p hp => ?_⟩, ⟨gs_same _ _ _ _, ?_, hd⟩, ⟨by rw [gs_j _ _ (by decide), out _ (by omega) (by omega)]; exact s1, by rw [gs_j _ _ (by decide)]; exact s2⟩, fun r l hr hl => ?_⟩
  · have := p5 p hp
    unfold PgP at this ⊢
    rw [gs_q _ _ _ (by omega), gs_q _ _ _ (by omega), gs_q _ _ _ (by omega), gs_q _ _ _ (by omega), out _ (by omega) (by omega), out _ (by omega) (by omega), out _ (by omega) (by omega), out _ (by omega) (by omega)]
    exact this
  · rw [dkG, dkF_out (by omega), gs_same]
  · have hH := h1 r l hr hl
    obtain ⟨-, t2, t3, t4, t5⟩ := l9 r hr
    have hx := hH.dusk hd t5 p3
    have e1 : x + 160 + 16 * r + l = x + 160 + (16 * r + l) := by omega
    have e2 : x + 288 + 16 * r + l = x + 288 + (16 * r + l) := by omega
    have e3 : (16 * r + l) / 16 = r := by omega
    have e4 : dnM nl nr 0 (16 * r + l) = true := by
      have e5 : (16 * r + l) % 16 = l := by omega
      simp [dnM, e3, e5, hl, hr]
    have e6 : fgM (rf_set G 1 (x + 1334) (nI (d + 1))) x (16 * r + l) = (!decide (G 1 (x + 160 + 16 * r + l) < 0) && !decide (nI (d + 1) - G 1 (x + 288 + 16 * r + l) < nI (tm r))) := by
      unfold fgM
      rw [gs_j (j := x + 160 + (16 * r + l)) _ _ (by omega), gs_j (j := x + 288 + (16 * r + l)) _ _ (by omega), gs_same, gs_q _ _ _ (by decide), e3, ← t2, t3, e1, e2]
    rw [gs_q _ _ _ (by omega), gs_q _ _ _ (by omega), dkG, e1, e2, dkF_a (by omega), dkF_b (by omega), e4, Bool.true_and, e6, gs_j _ _ (by omega), gs_j _ _ (by omega), ← e1, ← e2]
    exact hx
theorem du_out {x nl nr : Nat} {G : rf_Mem} {j : Nat} (h : j < x + 160 ∨ x + 416 ≤ j) (h2 : j ≠ x + 1334) : dkD x nl nr G 1 j = G 1 j := by
  unfold dkD
  split
  · rfl
  · rw [dkG, dkF_out h, gs_j _ _ h2]
theorem du_o {x nl nr : Nat} {G : rf_Mem} {a : Nat} (h : a ≠ 1) : dkD x nl nr G a = G a := by
  unfold dkD
  split
  · rfl
  · rw [dkG, dkF_o h, gs_q _ _ _ h]
/-- draws -/
theorem sd_nI {a : Nat} : sd (nI a) = nI ((a * 1103515245 + 12345) % 2 ^ 31) := by
  unfold sd
  rw [pk_mul, nI_add]
  exact fa_mask _ 31
theorem sdM_nI {a : Nat} (h : a < 2 ^ 31) : sdM (nI a) = nI ((a * 1103515245 + 12345) % 2 ^ 31) := by
  unfold sdM
  have e1 : (1103515245 : Int64) = lN 1103515245 := rfl
  have e2 : (12345 : Int64) = lN 12345 := rfl
  have e3 : (2147483648 : Int64) = lN 2147483648 := rfl
  rw [nI_l h, e1, e2, e3, lN_mul, lN_add, pk_lRem (by omega) (by decide) (by decide), lN_i]
theorem sd_eq {s : Int32} (h : ¬ s < 0) : sdM s = sd s ∧ ¬ sd s < 0 := by
  obtain ⟨a, ha, rfl⟩ := nI_of h
  rw [sd_nI, sdM_nI ha]
  exact ⟨rfl, nI_pos (Nat.mod_lt _ (by decide))⟩
theorem dv_in {s : Int32} {n : Nat} (h : ¬ s < 0) (hn : 0 < n) (hn2 : n < 2 ^ 31) : ∃ p, p < n ∧ dv s (nI n) = nI p := by
  obtain ⟨a, ha, rfl⟩ := nI_of h
  have e : (65536 : Nat) < 2 ^ 31 := by decide
  refine ⟨a / 65536 % n, Nat.mod_lt _ hn, ?_⟩
  unfold dv
  rw [pk_div ha (by decide) e, pk_rem (by omega) hn hn2]
