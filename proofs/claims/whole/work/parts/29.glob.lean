/-! the relation of the two objects -/
def Tx (tl : Nat) (C G : rf_Mem) : Prop := C 1 1 = nI tl ∧ G 0 11 = nI tl ∧ tl ≤ 400 ∧ (∀ i, i < tl → C 2 i = G 8 i ∧ ∃ b, b < 256 ∧ C 2 i = nI b) ∧ C 1 3 = G 0 16
def Dr (nd : Nat) (C G : rf_Mem) : Prop := C 0 10 = nI nd ∧ G 0 24 = nI nd ∧ nd ≤ 60 ∧ ∀ i, i < nd → C 19 i = G 13 i ∧ ∃ v, v ≤ 16 ∧ C 19 i = nI v
def Ig (q x nl nr : Nat) (tm : Nat → Nat) (C G : rf_Mem) : Prop := ∃ n d, Sim true q x n d nl nr tm C G ∧ En q x nl C G
def Is (b0 b1 : Bool) (nl nr : Nat) (tm : Nat → Nat) (C G : rf_Mem) : Prop := G 2 0 = b2i b0 ∧ G 2 1 = b2i b1 ∧ C 0 6 = nI ((if b0 then 1 else 0) + (if b1 then 2 else 0)) ∧ (b0 = true → Ig 45 3000 nl nr tm C G) ∧ (b1 = true → Ig 57 4500 nl nr tm C G)
def Rp (nl nr : Nat) (tm : Nat → Nat) (n d nq tl nd : Nat) (b0 b1 : Bool) (kt : Nat) (C G : rf_Mem) : Prop := Sim true 21 0 n d nl nr tm C G ∧ En 21 0 nl C G ∧ Rq nq nl nr C G ∧ Tx tl C G ∧ Dr nd C G ∧ Is b0 b1 nl nr tm C G ∧ C 41 3 = nI kt ∧ kt ≤ 300
def Rg (C G : rf_Mem) : Prop := ∃ nl nr tm n d nq tl nd b0 b1 kt, Rp nl nr tm n d nq tl nd b0 b1 kt C G
theorem Sim.frame {w : Bool} {q x n d nl nr : Nat} {tm : Nat → Nat} {C G C' G' : rf_Mem} (h : Sim w q x n d nl nr tm C G) (hL : Lb nl nr tm C' G') (hC : ∀ a, q ≤ a → a < q + 12 → C' a = C a) (hG : ∀ j, x ≤ j → j < x + 1500 → G' 1 j = G 1 j) : Sim w q x n d nl nr tm C' G' := by
  obtain ⟨-, hB, k, k', q1, q2, q3, q4, q5⟩ := h
  refine ⟨hL, hB.frame (fun a h1 h2 => hC a h1 (by omega)) hG hL.2.2.2.2.2.1 hL.2.2.1, k, k', by rw [hC _ (by omega) (by omega)]; exact q1, q2, by rw [hG _ (by omega) (by omega)]; exact q3, q4, fun hw => ⟨(q5 hw).1, ?_⟩⟩
  obtain ⟨m1, m2, m3, m4⟩ := (q5 hw).2
  refine ⟨by rw [hC _ (by omega) (by omega)]; exact m1, by rw [hG _ (by omega) (by omega)]; exact m2, m3, fun i hi => ?_⟩
  rw [hC (q + 9) (by omega) (by omega), hC (q + 10) (by omega) (by omega), hC (q + 11) (by omega) (by omega), hG _ (by omega) (by omega), hG _ (by omega) (by omega), hG _ (by omega) (by omega)]
  exact m4 i hi
theorem En.frame {q x nl : Nat} {C G C' G' : rf_Mem} (h : En q x nl C G) (hC : C' (q + 7) = C (q + 7)) (hG : ∀ j, x + 416 ≤ j → j < x + 432 → G' 1 j = G 1 j) (hl : nl ≤ 16) : En q x nl C' G' := by
  intro l hl2
  rw [hC, hG _ (by omega) (by omega)]
  exact h l hl2
theorem Ig.frame {q x nl nr : Nat} {tm : Nat → Nat} {C G C' G' : rf_Mem} (h : Ig q x nl nr tm C G) (hL : Lb nl nr tm C' G') (hC : ∀ a, q ≤ a → a < q + 12 → C' a = C a) (hG : ∀ j, x ≤ j → j < x + 1500 → G' 1 j = G 1 j) : Ig q x nl nr tm C' G' := by
  obtain ⟨n, d, h1, h2⟩ := h
  exact ⟨n, d, h1.frame hL hC hG, h2.frame (hC _ (by omega) (by omega)) (fun j a b => hG j (by omega) (by omega)) hL.2.2.1⟩
/-- a change in the present state alone -/
theorem Rp.act {nl nr : Nat} {tm : Nat → Nat} {n d nq tl nd : Nat} {b0 b1 : Bool} {kt : Nat} {C G C' G' : rf_Mem} {n' d' : Nat} (h : Rp nl nr tm n d nq tl nd b0 b1 kt C G) (hS : Sim true 21 0 n' d' nl nr tm C' G') (hC : FrC 21 C C') (hG : FrG 0 G G') : Rg C' G' := by
  obtain ⟨h1, h2, h3, ⟨t1, t2, t3, t4, t5⟩, ⟨e1, e2, e3, e4⟩, ⟨i1, i2, i3, i4, i5⟩, k1, k2⟩ := h
  refine ⟨nl, nr, tm, n', d', nq, tl, nd, b0, b1, kt, hS, h2.frame (hC _ (by omega)) (fun j a b => hG.2 j (by omega)) h1.1.2.2.1, h3.fr (by decide) hC hG, ?_, ?_, ?_, by rw [hC _ (by omega)]; exact k1, k2⟩
  · rw [Tx, hC 1 (by omega), hC 2 (by omega), hG.1 0 (by omega), hG.1 8 (by omega)]
    exact ⟨t1, t2, t3, t4, t5⟩
  · rw [Dr, hC 0 (by omega), hC 19 (by omega), hG.1 0 (by omega), hG.1 13 (by omega)]
    exact ⟨e1, e2, e3, e4⟩
  · rw [Is, hC 0 (by omega), hG.1 2 (by omega)]
    exact ⟨i1, i2, i3, fun z => (i4 z).frame hS.1 (fun a _ _ => hC a (by omega)) (fun j _ _ => hG.2 j (by omega)), fun z => (i5 z).frame hS.1 (fun a _ _ => hC a (by omega)) (fun j _ _ => hG.2 j (by omega))⟩
/-- what is kept: the same on both sides -/
theorem kp_same {w : Bool} {q x n d nl nr : Nat} {tm : Nat → Nat} {C G : rf_Mem} (h : Sim w q x n d nl nr tm C G) {l : Nat} (hl : l < nl) : kpM G x n nr l = kpB C q n nr (nI 0) l := by
  obtain ⟨hL, ⟨⟨p1, p2, p3, p4, p5⟩, ⟨d1, d2, d3⟩, -, hH⟩, -⟩ := h
  have eD : C q 10 + dA (C q 10) (nI 0) = nI d := by
    rw [d1, dA_nI d3 (by decide)]
    have e : (if 9999 - d < 0 then 9999 - d else 0) = 0 := by split <;> omega
    rw [e, nI_add, Nat.add_zero]
  unfold kpM kpB
  rw [eD]
  have e1 : bAny (fun p => decide (G 1 (x + p) = nI l) && decide (G 1 (x + 40 + p) = 0) && !decide (nI 9 ≤ G 1 (x + 80 + p))) n = decide (0 < fb_ct (vWith (C (q + 1)) (C (q + 2)) (C (q + 3)) (nI l) (nI 0)) n) := by
    have e2 : ∀ p, p < n → (decide (G 1 (x + p) = nI l) && decide (G 1 (x + 40 + p) = 0) && !decide (nI 9 ≤ G 1 (x + 80 + p))) = vWith (C (q + 1)) (C (q + 2)) (C (q + 3)) (nI l) (nI 0) p := by
      intro p hp
      obtain ⟨⟨a1, a2, a3, -⟩, -⟩ := p5 p hp
      unfold vWith vLeft
      rw [a1, a2, a3, nI_0]
      cases decide (G 1 (x + p) = nI l) <;> cases decide (G 1 (x + 40 + p) = 0) <;> cases decide (nI 9 ≤ G 1 (x + 80 + p)) <;> rfl
    rw [bAny_cong e2]
    by_cases hz : 0 < fb_ct (vWith (C (q + 1)) (C (q + 2)) (C (q + 3)) (nI l) (nI 0)) n
    · rw [decide_eq_true hz]
      exact bAny_iff.mpr (fb_ct_pos.mp hz)
    · rw [decide_eq_false hz]
      cases e3 : bAny (vWith (C (q + 1)) (C (q + 2)) (C (q + 3)) (nI l) (nI 0)) n with
      | false => rfl
      | true => exact absurd (fb_ct_pos.mpr (bAny_iff.mp e3)) hz
  have e4 : bAny (fun r => decide (G 1 (x + 160 + 16 * r + l) = 0)) nr = bAny (fun r => decide (knC C q (nI d) r l = 0)) nr := by
    refine bAny_cong (fun r hr => ?_)
    obtain ⟨-, -, t3, t4, t5⟩ := hL.2.2.2.2.2.2.2.2 r hr
    have e5 : knC C q (nI d) r l = G 1 (x + 160 + 16 * r + l) := by
      unfold knC
      rw [t3]
      exact (hH r l hr hl).now d3 t5
    rw [e5]
  rw [e1, e4]
theorem kn_same {w : Bool} {q x n d nl nr : Nat} {tm : Nat → Nat} {C G : rf_Mem} (h : Sim w q x n d nl nr tm C G) {r l : Nat} (hr : r < nr) (hl : l < nl) : knC C q (C q 10) r l = G 1 (x + 160 + 16 * r + l) ∧ ((G 1 (x + 160 + 16 * r + l) < 0) ↔ G 1 (x + 160 + 16 * r + l) = -1) := by
  obtain ⟨hL, ⟨⟨-, -, p3, -⟩, ⟨d1, d2, d3⟩, -, hH⟩, -⟩ := h
  obtain ⟨-, -, t3, t4, t5⟩ := hL.2.2.2.2.2.2.2.2 r hr
  refine ⟨?_, (hH r l hr hl).neg p3⟩
  unfold knC
  rw [t3, d1]
  exact (hH r l hr hl).now d3 t5
theorem kn_any {w : Bool} {q x n d nl nr : Nat} {tm : Nat → Nat} {C G : rf_Mem} (h : Sim w q x n d nl nr tm C G) {r l : Nat} (hr : r < nr) (hl : l < nl) : (!decide (knC C q (C q 10) r l = -1)) = !decide (G 1 (x + 160 + 16 * r + l) < 0) := by
  obtain ⟨e1, e2⟩ := kn_same h hr hl
  rw [e1]
  congr 1
  exact decide_eq_decide.mpr e2.symm
theorem lf_same {q x n nl : Nat} {C G : rf_Mem} (h : Pg q x n nl C G) (l : Int32) {p : Nat} (hp : p < n) : vLeft (fun p => G 1 (x + p)) (fun p => G 1 (x + 80 + p)) l p = vLeft (C (q + 1)) (C (q + 3)) l p := by
  obtain ⟨⟨a1, -, a3, -⟩, -⟩ := h.2.2.2.2 p hp
  unfold vLeft
  rw [a1, a3]
theorem wt_same {q x n nl : Nat} {C G : rf_Mem} (h : Pg q x n nl C G) (l v : Int32) {p : Nat} (hp : p < n) : vWith (fun p => G 1 (x + p)) (fun p => G 1 (x + 40 + p)) (fun p => G 1 (x + 80 + p)) l v p = vWith (C (q + 1)) (C (q + 2)) (C (q + 3)) l v p := by
  obtain ⟨⟨a1, a2, a3, -⟩, -⟩ := h.2.2.2.2 p hp
  unfold vWith vLeft
  rw [a1, a2, a3]
/-- what an op must be: the same answer, and the relation goes on -/
def OpOk (a b : rf_Me) (av : List Value) : Prop := ∀ C G, Rg C G → ∃ (r : Int32) (C' G' : rf_Mem), Ev LayC a 0 (rf_ent a.2.2.1 (.ref 0 :: av)) [] C (some (.int r)) C' ∧ Ev LayM b 0 (rf_ent b.2.2.1 (.ref 0 :: av)) [] G (some (.int r)) G' ∧ Rg C' G'
