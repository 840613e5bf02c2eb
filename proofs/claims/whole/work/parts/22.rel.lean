/-! the relation between the class's memory C (a state's block at cell q) and the reference's G (row x of w) -/
def Lb (nl nr : Nat) (tm : Nat → Nat) (C G : rf_Mem) : Prop := C 8 4 = nI nl ∧ G 7 0 = nI nl ∧ nl ≤ 16 ∧ C 8 5 = nI nr ∧ G 7 1 = nI nr ∧ nr ≤ 8 ∧ C 8 6 = G 0 7 ∧ (∀ l, l < nl → C 9 l = G 3 l ∧ ∃ v, v ≤ 99 ∧ C 9 l = nI v) ∧ (∀ r, r < nr → C 11 r = G 5 r ∧ C 12 r = G 6 r ∧ C 12 r = nI (tm r) ∧ 1 ≤ tm r ∧ tm r ≤ 99)
def PgP (q x n nl : Nat) (C G : rf_Mem) (p : Nat) : Prop :=
  (C (q + 1) p = G 1 (x + p) ∧ C (q + 2) p = G 1 (x + 40 + p) ∧ C (q + 3) p = G 1 (x + 80 + p) ∧ C (q + 4) p = G 1 (x + 120 + p)) ∧
  (∃ l, l < nl ∧ C (q + 1) p = nI l) ∧ (∃ s, s ≤ 9 ∧ C (q + 3) p = nI s) ∧ (∃ v, v ≤ n ∧ C (q + 2) p = nI v) ∧
  (p < nl → C (q + 1) p = nI p ∧ C (q + 2) p = nI 0 ∧ C (q + 4) p = -1) ∧ (nl ≤ p → ∃ w, w < 8 ∧ C (q + 4) p = nI w)
def Pg (q x n nl : Nat) (C G : rf_Mem) : Prop := C q 9 = nI n ∧ G 1 (x + 1332) = nI n ∧ n ≤ 40 ∧ nl ≤ n ∧ ∀ p, p < n → PgP q x n nl C G p
def Dy (q x d : Nat) (C G : rf_Mem) : Prop := C q 10 = nI d ∧ G 1 (x + 1334) = nI d ∧ d ≤ 9999
def Sd (q x : Nat) (C G : rf_Mem) : Prop := C q 11 = G 1 (x + 1335) ∧ ¬ C q 11 < 0
def Hc (n d t : Nat) (vh ds kn si : Int32) : Prop := (vh = -1 ∧ kn = -1 ∧ si = -1) ∨ ∃ v s, v ≤ n ∧ s ≤ d ∧ vh = nI v ∧ ds = nI s ∧ ((d - s < t ∧ kn = nI v ∧ si = nI s) ∨ (t ≤ d - s ∧ kn = -1 ∧ si = -1))
def Ht (q x n d nl nr : Nat) (tm : Nat → Nat) (C G : rf_Mem) : Prop := ∀ r l, r < nr → l < nl → Hc n d (tm r) (C (q + 5) (r * 16 + l)) (C (q + 6) (r * 16 + l)) (G 1 (x + 160 + 16 * r + l)) (G 1 (x + 288 + 16 * r + l))
def Bk (q x n d nl nr : Nat) (tm : Nat → Nat) (C G : rf_Mem) : Prop := Pg q x n nl C G ∧ Dy q x d C G ∧ Sd q x C G ∧ Ht q x n d nl nr tm C G
/-- what a state's books are made of, and no more -/
theorem Bk.frame {q x n d nl nr : Nat} {tm : Nat → Nat} {C G C' G' : rf_Mem} (h : Bk q x n d nl nr tm C G) (hC : ∀ a, q ≤ a → a < q + 7 → C' a = C a) (hG : ∀ j, x ≤ j → j < x + 1500 → G' 1 j = G 1 j) (hn : nr ≤ 8) (hl : nl ≤ 16) : Bk q x n d nl nr tm C' G' := by
  obtain ⟨⟨p1, p2, p3, p4, p5⟩, ⟨d1, d2, d3⟩, ⟨s1, s2⟩, h1⟩ := h
  have c0 := hC q (by omega) (by omega)
  have c1 := hC (q + 1) (by omega) (by omega)
  have c2 := hC (q + 2) (by omega) (by omega)
  have c3 := hC (q + 3) (by omega) (by omega)
  have c4 := hC (q + 4) (by omega) (by omega)
  have c5 := hC (q + 5) (by omega) (by omega)
  have c6 := hC (q + 6) (by omega) (by omega)
  refine ⟨⟨by rw [c0]; exact p1, by rw [hG _ (by omega) (by omega)]; exact p2, p3, p4, fun p hp => ?_⟩, ⟨by rw [c0]; exact d1, by rw [hG _ (by omega) (by omega)]; exact d2, d3⟩, ⟨by rw [c0, hG _ (by omega) (by omega)]; exact s1, by rw [c0]; exact s2⟩, fun r l hr hl2 => ?_⟩
  · have := p5 p hp
    unfold PgP at this ⊢
    rw [c1, c2, c3, c4, hG (x + p) (by omega) (by omega), hG (x + 40 + p) (by omega) (by omega), hG (x + 80 + p) (by omega) (by omega), hG (x + 120 + p) (by omega) (by omega)]
    exact this
  · rw [c5, c6, hG (x + 160 + 16 * r + l) (by omega) (by omega), hG (x + 288 + 16 * r + l) (by omega) (by omega)]
    exact h1 r l hr hl2
theorem Hc.learn {n d t v : Nat} (hv : v ≤ n) (ht : 1 ≤ t) : Hc n d t (nI v) (nI d) (nI v) (nI d) := Or.inr ⟨v, d, hv, Nat.le_refl d, rfl, rfl, Or.inl ⟨by omega, rfl, rfl⟩⟩
theorem Hc.mono {n n' d t : Nat} {vh ds kn si : Int32} (h : Hc n d t vh ds kn si) (hn : n ≤ n') : Hc n' d t vh ds kn si := by
  rcases h with h | ⟨v, s, h1, h2⟩
  · exact Or.inl h
  · exact Or.inr ⟨v, s, by omega, h2⟩
/-- what is held on a later day -/
theorem Hc.later {n d e t : Nat} {vh ds kn si : Int32} (h : Hc n d t vh ds kn si) (he : d ≤ e) (he2 : e ≤ 9999) (ht : t ≤ 99) : (vh = -1 ∧ kn = -1 ∧ (if nI t ≤ nI e - ds then -1 else vh) = (-1 : Int32)) ∨ ∃ v s, v ≤ n ∧ s ≤ d ∧ vh = nI v ∧ ds = nI s ∧ (if nI t ≤ nI e - ds then -1 else vh) = (if t ≤ e - s then -1 else nI v) ∧ ((d - s < t ∧ kn = nI v ∧ si = nI s) ∨ (t ≤ d - s ∧ kn = -1 ∧ si = -1)) := by
  rcases h with ⟨h1, h2, h3⟩ | ⟨v, s, h1, h2, h3, h4, h5⟩
  · exact Or.inl ⟨h1, h2, by rw [h1]; split <;> rfl⟩
  · refine Or.inr ⟨v, s, h1, h2, h3, h4, ?_, h5⟩
    rw [h4, pk_sub (by omega), h3]
    have e2 : (nI t ≤ nI (e - s)) ↔ t ≤ e - s := nI_leI (by omega) (by omega)
    by_cases z : t ≤ e - s
    · rw [if_pos z, if_pos (e2.mpr z)]
    · rw [if_neg z, if_neg (fun w => z (e2.mp w))]
theorem Hc.now {n d t : Nat} {vh ds kn si : Int32} (h : Hc n d t vh ds kn si) (he2 : d ≤ 9999) (ht : t ≤ 99) : (if nI t ≤ nI d - ds then -1 else vh) = kn := by
  rcases h.later (Nat.le_refl d) he2 ht with ⟨h1, h2, h3⟩ | ⟨v, s, h1, h2, h3, h4, h5, h6 | h6⟩
  · rw [h3, h2]
  · rw [h5, if_neg (by omega), h6.2.1]
  · rw [h5, if_pos h6.1, h6.2.1]
theorem Hc.val {n d t : Nat} {vh ds kn si : Int32} (h : Hc n d t vh ds kn si) : (kn = -1 ∧ si = -1) ∨ ∃ v s, v ≤ n ∧ s ≤ d ∧ kn = nI v ∧ si = nI s ∧ ds = nI s := by
  rcases h with ⟨h1, h2, h3⟩ | ⟨v, s, h1, h2, h3, h4, h5 | h5⟩
  · exact Or.inl ⟨h2, h3⟩
  · exact Or.inr ⟨v, s, h1, h2, h5.2.1, h5.2.2, h4⟩
  · exact Or.inl h5.2
theorem m1_lt : (-1 : Int32) < 0 := by decide
theorem Hc.neg {n d t : Nat} {vh ds kn si : Int32} (h : Hc n d t vh ds kn si) (hn : n ≤ 40) : (kn < 0) ↔ kn = -1 := by
  rcases h.val with ⟨h1, -⟩ | ⟨v, s, h1, h2, h3, h4⟩
  · rw [h1]; exact ⟨fun _ => rfl, fun _ => by decide⟩
  · rw [h3]; exact ⟨fun z => absurd z (nI_pos (by omega)), fun z => absurd z (nI_m1 (by omega))⟩
theorem Hc.dusk {n d t : Nat} {vh ds kn si : Int32} (h : Hc n d t vh ds kn si) (hd : d + 1 ≤ 9999) (ht : t ≤ 99) (hn : n ≤ 40) : Hc n (d + 1) t vh ds (if (!decide (kn < 0) && !decide (nI (d + 1) - si < nI t)) = true then -1 else kn) (if (!decide (kn < 0) && !decide (nI (d + 1) - si < nI t)) = true then -1 else si) := by
  rcases h with ⟨h1, h2, h3⟩ | ⟨v, s, h1, h2, h3, h4, h5 | h5⟩
  · have e : decide (kn < 0) = true := decide_eq_true (by rw [h2]; decide)
    rw [e]
    exact Or.inl ⟨h1, by simpa using h2, by simpa using h3⟩
  · have e : decide (kn < 0) = false := decide_eq_false (by rw [h5.2.1]; exact nI_pos (by omega))
    have e2 : (nI (d + 1) - si < nI t) ↔ d + 1 - s < t := by rw [h5.2.2, pk_sub (by omega)]; exact nI_ltI (by omega) (by omega)
    have e3 : decide (nI (d + 1) - si < nI t) = decide (d + 1 - s < t) := decide_eq_decide.mpr e2
    rw [e, e3]
    refine Or.inr ⟨v, s, h1, by omega, h3, h4, ?_⟩
    by_cases z : d + 1 - s < t
    · exact Or.inl ⟨z, by simp [z]; exact h5.2.1, by simp [z]; exact h5.2.2⟩
    · exact Or.inr ⟨by omega, by simp [z], by simp [z]⟩
  · have e : decide (kn < 0) = true := decide_eq_true (by rw [h5.2.1]; decide)
    rw [e]
    exact Or.inr ⟨v, s, h1, by omega, h3, h4, Or.inr ⟨by omega, by simpa using h5.2.1, by simpa using h5.2.2⟩⟩
/-- hearts: those of a set learn v today -/
theorem Ht.learn {q x n d nl nr v : Nat} {tm : Nat → Nat} {C G C' G' : rf_Mem} (h : Ht q x n d nl nr tm C G) (htm : ∀ r, r < nr → 1 ≤ tm r) (hv : v ≤ n) (T : Nat → Nat → Prop)
    (h1 : ∀ r l, r < nr → l < nl → T r l → C' (q + 5) (r * 16 + l) = nI v ∧ C' (q + 6) (r * 16 + l) = nI d ∧ G' 1 (x + 160 + 16 * r + l) = nI v ∧ G' 1 (x + 288 + 16 * r + l) = nI d)
    (h2 : ∀ r l, r < nr → l < nl → ¬ T r l → C' (q + 5) (r * 16 + l) = C (q + 5) (r * 16 + l) ∧ C' (q + 6) (r * 16 + l) = C (q + 6) (r * 16 + l) ∧ G' 1 (x + 160 + 16 * r + l) = G 1 (x + 160 + 16 * r + l) ∧ G' 1 (x + 288 + 16 * r + l) = G 1 (x + 288 + 16 * r + l)) : Ht q x n d nl nr tm C' G' := by
  intro r l hr hl
  by_cases hT : T r l
  · obtain ⟨a, b, c, e⟩ := h1 r l hr hl hT
    rw [a, b, c, e]
    exact Hc.learn hv (htm r hr)
  · obtain ⟨a, b, c, e⟩ := h2 r l hr hl hT
    rw [a, b, c, e]
    exact h r l hr hl
theorem lrn_5 (q : Nat) (C : rf_Mem) (r l : Nat) (v : Int32) (j : Nat) : lrn q C r l v (q + 5) j = if j = r * 16 + l then v else C (q + 5) j := by
  unfold lrn
  rw [gs_q _ _ _ (by omega)]
  by_cases h : j = r * 16 + l
  · rw [if_pos h, h, gs_same]
  · rw [if_neg h, gs_j _ _ h]
theorem lrn_6 (q : Nat) (C : rf_Mem) (r l : Nat) (v : Int32) (j : Nat) : lrn q C r l v (q + 6) j = if j = r * 16 + l then C q 10 else C (q + 6) j := by
  unfold lrn
  by_cases h : j = r * 16 + l
  · rw [if_pos h, h, gs_same]
  · rw [if_neg h, gs_j _ _ h, gs_q _ _ _ (by omega)]
theorem lrnA_5 (q : Nat) (C : rf_Mem) (l : Nat) (v : Int32) (hl : l < 16) (r m : Nat) (hm : m < 16) : ∀ n, lrnA q C l v n (q + 5) (r * 16 + m) = if r < n ∧ m = l then v else C (q + 5) (r * 16 + m)
  | 0 => by rw [lrnA, if_neg (by omega)]
  | n + 1 => by
    rw [lrnA, lrn_5, lrnA_5 q C l v hl r m hm n]
    by_cases h : r * 16 + m = n * 16 + l
    · rw [if_pos h, if_pos (by omega)]
    · rw [if_neg h]
      by_cases h2 : r < n ∧ m = l
      · rw [if_pos h2, if_pos (by omega)]
      · rw [if_neg h2, if_neg (by omega)]
theorem lrnA_6 (q : Nat) (C : rf_Mem) (l : Nat) (v : Int32) (hl : l < 16) (r m : Nat) (hm : m < 16) : ∀ n, lrnA q C l v n (q + 6) (r * 16 + m) = if r < n ∧ m = l then C q 10 else C (q + 6) (r * 16 + m)
  | 0 => by rw [lrnA, if_neg (by omega)]
  | n + 1 => by
    rw [lrnA, lrn_6, lrnA_6 q C l v hl r m hm n, lrnA_out (by omega)]
    by_cases h : r * 16 + m = n * 16 + l
    · rw [if_pos h, if_pos (by omega)]
    · rw [if_neg h]
      by_cases h2 : r < n ∧ m = l
      · rw [if_pos h2, if_pos (by omega)]
      · rw [if_neg h2, if_neg (by omega)]
theorem knM_a (x : Nat) (G : rf_Mem) (r l : Nat) (v : Int32) (r' l' : Nat) (hr : r < 8) (hl : l < 16) (hr' : r' < 8) (hl' : l' < 16) : knM x G r l v 1 (x + 160 + 16 * r' + l') = if r' = r ∧ l' = l then v else G 1 (x + 160 + 16 * r' + l') := by
  unfold knM
  rw [gs_j _ _ (by omega)]
  by_cases h : r' = r ∧ l' = l
  · rw [if_pos h, h.1, h.2, gs_same]
  · rw [if_neg h, gs_j _ _ (by omega)]
theorem knM_b (x : Nat) (G : rf_Mem) (r l : Nat) (v : Int32) (r' l' : Nat) (hr : r < 8) (hl : l < 16) (hr' : r' < 8) (hl' : l' < 16) : knM x G r l v 1 (x + 288 + 16 * r' + l') = if r' = r ∧ l' = l then G 1 (x + 1334) else G 1 (x + 288 + 16 * r' + l') := by
  unfold knM
  by_cases h : r' = r ∧ l' = l
  · rw [if_pos h, h.1, h.2, gs_same]
  · rw [if_neg h, gs_j _ _ (by omega), gs_j _ _ (by omega)]
theorem knF_a (x : Nat) (G : rf_Mem) (r : Nat) (al : Bool) (l : Nat) (v : Int32) (hl : l < 16) (r' l' : Nat) (hr' : r' < 8) (hl' : l' < 16) : ∀ n, n ≤ 8 → knF x G r al l v n 1 (x + 160 + 16 * r' + l') = if r' < n ∧ l' = l ∧ (r' = r ∨ al = true) then v else G 1 (x + 160 + 16 * r' + l')
  | 0, _ => by rw [knF, if_neg (by omega)]
  | n + 1, hn => by
    have ih := knF_a x G r al l v hl r' l' hr' hl' n (by omega)
    rw [knF]
    by_cases hc : n = r ∨ al = true
    · have e : (decide (n = r) || al) = true := by simpa using hc
      rw [if_pos e, knM_a _ _ _ _ _ _ _ (by omega) hl hr' hl', ih]
      by_cases h : r' = n ∧ l' = l
      · rw [if_pos h, if_pos ⟨by omega, h.2, by rw [h.1]; exact hc⟩]
      · rw [if_neg h]
        by_cases h2 : r' < n ∧ l' = l ∧ (r' = r ∨ al = true)
        · rw [if_pos h2, if_pos ⟨by omega, h2.2⟩]
        · rw [if_neg h2, if_neg (fun z => h2 ⟨by have := z.1; omega, z.2⟩)]
    · have e : ¬ (decide (n = r) || al) = true := by simpa using hc
      rw [if_neg e, ih]
      by_cases h2 : r' < n ∧ l' = l ∧ (r' = r ∨ al = true)
      · rw [if_pos h2, if_pos ⟨by omega, h2.2⟩]
      · rw [if_neg h2, if_neg (fun z => h2 ⟨by
          have h3 := z.1
          rcases Nat.lt_or_ge r' n with q | q
          · exact q
          · have e4 : r' = n := by omega
            rw [e4] at z
            exact absurd z.2.2 hc, z.2⟩)]
theorem knF_b (x : Nat) (G : rf_Mem) (r : Nat) (al : Bool) (l : Nat) (v : Int32) (hl : l < 16) (r' l' : Nat) (hr' : r' < 8) (hl' : l' < 16) : ∀ n, n ≤ 8 → knF x G r al l v n 1 (x + 288 + 16 * r' + l') = if r' < n ∧ l' = l ∧ (r' = r ∨ al = true) then G 1 (x + 1334) else G 1 (x + 288 + 16 * r' + l')
  | 0, _ => by rw [knF, if_neg (by omega)]
  | n + 1, hn => by
    have ih := knF_b x G r al l v hl r' l' hr' hl' n (by omega)
    rw [knF]
    by_cases hc : n = r ∨ al = true
    · have e : (decide (n = r) || al) = true := by simpa using hc
      rw [if_pos e, knM_b _ _ _ _ _ _ _ (by omega) hl hr' hl', ih, knF_j hl (by omega) n (by omega)]
      by_cases h : r' = n ∧ l' = l
      · rw [if_pos h, if_pos ⟨by omega, h.2, by rw [h.1]; exact hc⟩]
      · rw [if_neg h]
        by_cases h2 : r' < n ∧ l' = l ∧ (r' = r ∨ al = true)
        · rw [if_pos h2, if_pos ⟨by omega, h2.2⟩]
        · rw [if_neg h2, if_neg (fun z => h2 ⟨by have := z.1; omega, z.2⟩)]
    · have e : ¬ (decide (n = r) || al) = true := by simpa using hc
      rw [if_neg e, ih]
      by_cases h2 : r' < n ∧ l' = l ∧ (r' = r ∨ al = true)
      · rw [if_pos h2, if_pos ⟨by omega, h2.2⟩]
      · rw [if_neg h2, if_neg (fun z => h2 ⟨by
          have h3 := z.1
          rcases Nat.lt_or_ge r' n with q | q
          · exact q
          · have e4 : r' = n := by omega
            rw [e4] at z
            exact absurd z.2.2 hc, z.2⟩)]
