/-! best: the best set, made up line by line -/
def Bst (D : Nat → Prop) (f c : Nat → Nat) (b : Nat) : Prop := D b ∧ ∀ S, D S → f S < f b ∨ (f S = f b ∧ (c b < c S ∨ (c b = c S ∧ b ≤ S)))
theorem Bst.one {D : Nat → Prop} {f c : Nat → Nat} {a b : Nat} (h : Bst D f c a) (h2 : Bst D f c b) : a = b := by
  have x := h.2 b h2.1
  have y := h2.2 a h.1
  omega
theorem Bst.no {P : Nat → Prop} {f c : Nat → Nat} {s b : Nat} (h : Bst (fun S => S < s ∧ P S) f c b) (hn : ¬ P s) : Bst (fun S => S < s + 1 ∧ P S) f c b := by
  have hb : b < s := h.1.1
  refine ⟨⟨by omega, h.1.2⟩, fun S hS => h.2 S ⟨?_, hS.2⟩⟩
  have h1 : S < s + 1 := hS.1
  rcases Nat.lt_or_ge S s with z | z
  · exact z
  · have e : S = s := by omega
    subst e
    exact absurd hS.2 hn
theorem Bst.keep {P : Nat → Prop} {f c : Nat → Nat} {s b : Nat} (h : Bst (fun S => S < s ∧ P S) f c b) (hk : ¬ (f b < f s ∨ (f s = f b ∧ c s < c b))) : Bst (fun S => S < s + 1 ∧ P S) f c b := by
  have hb : b < s := h.1.1
  refine ⟨⟨by omega, h.1.2⟩, fun S hS => ?_⟩
  have h1 : S < s + 1 := hS.1
  rcases Nat.lt_or_ge S s with z | z
  · exact h.2 S ⟨z, hS.2⟩
  · have e : S = s := by omega
    subst e
    omega
theorem Bst.new {P : Nat → Prop} {f c : Nat → Nat} {s b : Nat} (h : Bst (fun S => S < s ∧ P S) f c b) (hs : P s) (hk : f b < f s ∨ (f s = f b ∧ c s < c b)) : Bst (fun S => S < s + 1 ∧ P S) f c s := by
  refine ⟨⟨by omega, hs⟩, fun S hS => ?_⟩
  have h1 : S < s + 1 := hS.1
  rcases Nat.lt_or_ge S s with z | z
  · have := h.2 S ⟨z, hS.2⟩
    omega
  · have e : S = s := by omega
    subst e
    omega
theorem Bst.first {P : Nat → Prop} {f c : Nat → Nat} (h : P 0) : Bst (fun S => S < 0 + 1 ∧ P S) f c 0 := by
  refine ⟨⟨by omega, h⟩, fun S hS => ?_⟩
  have h1 : S < 0 + 1 := hS.1
  have e : S = 0 := by omega
  subst e
  omega
theorem Bst.ex {P : Nat → Prop} {f c : Nat → Nat} (h : P 0) : ∀ s, ∃ b, Bst (fun S => S < s + 1 ∧ P S) f c b
  | 0 => ⟨0, Bst.first h⟩
  | s + 1 => by
    obtain ⟨b, hb⟩ := Bst.ex (f := f) (c := c) h s
    by_cases hs : P (s + 1)
    · by_cases hk : f b < f (s + 1) ∨ (f (s + 1) = f b ∧ c (s + 1) < c b)
      · exact ⟨_, hb.new hs hk⟩
      · exact ⟨_, hb.keep hk⟩
    · exact ⟨_, hb.no hs⟩
theorem smL_mono {f g : Nat → Nat} : ∀ {n : Nat}, (∀ k, k < n → f k ≤ g k) → smL f n ≤ smL g n
  | 0, _ => Nat.le_refl _
  | n + 1, h => by have := smL_mono (n := n) (fun k hk => h k (by omega)); have := h n (by omega); rw [smL, smL]; omega
theorem smL_eqs {f g : Nat → Nat} : ∀ {n : Nat}, (∀ k, k < n → f k ≤ g k) → smL f n = smL g n → ∀ k, k < n → f k = g k
  | 0, _, _, k, hk => absurd hk (Nat.not_lt_zero _)
  | n + 1, h, e, k, hk => by
    have h1 := smL_mono (n := n) (fun k hk => h k (by omega))
    have h2 := h n (by omega)
    rw [smL, smL] at e
    by_cases z : k = n
    · subst z; omega
    · exact smL_eqs (n := n) (fun k hk => h k (by omega)) (by omega) k (by omega)
theorem Bst.sum {nl bs : Nat} {D : Nat → Prop} {W : Nat → Nat → Prop} {fl : Nat → Nat → Nat} {F c : Nat → Nat} {b : Nat → Nat} {pr : Nat → Nat → Nat} (hb : ∀ l, l < nl → Bst (W l) (fl l) c (b l)) (hD : D bs)
    (hF : F bs = smL (fun l => fl l (b l)) nl) (hc : c bs = smL (fun l => c (b l)) nl) (hv : bs = smL b nl)
    (hS : ∀ S, D S → (∀ l, l < nl → W l (pr S l)) ∧ F S = smL (fun l => fl l (pr S l)) nl ∧ c S = smL (fun l => c (pr S l)) nl ∧ S = smL (pr S) nl) : Bst D F c bs := by
  refine ⟨hD, fun S h => ?_⟩
  obtain ⟨w, s1, s2, s3⟩ := hS S h
  have k1 : ∀ l, l < nl → fl l (pr S l) ≤ fl l (b l) := fun l hl => by have := (hb l hl).2 _ (w l hl); omega
  have m1 := smL_mono k1
  rcases Nat.lt_or_ge (F S) (F bs) with z | z
  · exact Or.inl z
  have e1 : F S = F bs := by omega
  refine Or.inr ⟨e1, ?_⟩
  have q1 := smL_eqs k1 (by rw [← s1, ← hF]; exact e1)
  have k2 : ∀ l, l < nl → c (b l) ≤ c (pr S l) := fun l hl => by have := (hb l hl).2 _ (w l hl); have := q1 l hl; omega
  have m2 := smL_mono k2
  rcases Nat.lt_or_ge (c bs) (c S) with z2 | z2
  · exact Or.inl z2
  have e2 : c bs = c S := by omega
  refine Or.inr ⟨e2, ?_⟩
  have q2 := smL_eqs k2 (by rw [← s2, ← hc]; exact e2)
  have k3 : ∀ l, l < nl → b l ≤ pr S l := fun l hl => by have := (hb l hl).2 _ (w l hl); have := q1 l hl; have := q2 l hl; omega
  rw [hv, s3]
  exact smL_mono k3
theorem hb_or (S T i : Nat) : hb (S ||| T) i = (hb S i || hb T i) := by rw [hb_tb, hb_tb, hb_tb, Nat.testBit_or]
theorem hb_lt {S n i : Nat} (h : S < 2 ^ n) (hi : n ≤ i) : hb S i = false := by
  rw [hb_tb]
  exact Nat.testBit_lt_two_pow (Nat.lt_of_lt_of_le h (Nat.pow_le_pow_right (by decide) hi))
theorem ks_self {S n : Nat} (h : S < 2 ^ n) : ksN (hb S) n = S := hb_ext (fun i => by
  rw [hb_ks]
  by_cases z : i < n
  · rw [decide_eq_true z, Bool.true_and]
  · rw [decide_eq_false z, hb_lt h (by omega)]; rfl)
theorem ks_cong {P R : Nat → Bool} : ∀ {n : Nat}, (∀ k, k < n → P k = R k) → ksN P n = ksN R n
  | 0, _ => rfl
  | n + 1, h => by rw [ksN, ksN, ks_cong (fun k hk => h k (by omega)), h n (by omega)]
theorem sm_ind {g : Nat → Nat} {nl l0 a : Nat} (hl : l0 < nl) (h0 : g l0 = a) (h : ∀ l, l < nl → l ≠ l0 → g l = 0) : smL g nl = a := by
  have := smL_one (f := fun _ => 0) (g := g) (a := a) (l0 := l0) (by rw [h0, Nat.zero_add]) (n := nl) h hl
  rw [this, smL_z (fun _ _ => rfl), Nat.zero_add]
theorem sum_ks {P : Nat → Bool} {rl : Nat → Nat} {nl : Nat} : ∀ {nq : Nat}, (∀ i, i < nq → rl i < nl) → smL (fun l => ksN (fun i => P i && decide (rl i = l)) nq) nl = ksN P nq
  | 0, _ => smL_z (fun _ _ => rfl)
  | nq + 1, h => by
    have e : smL (fun l => ksN (fun i => P i && decide (rl i = l)) (nq + 1)) nl = smL (fun l => ksN (fun i => P i && decide (rl i = l)) nq) nl + smL (fun l => if (P nq && decide (rl nq = l)) = true then 2 ^ nq else 0) nl := smL_add
    rw [e, sum_ks (fun i hi => h i (by omega)), ksN]
    congr 1
    refine sm_ind (h nq (by omega)) ?_ (fun l _ hne => ?_)
    · rw [decide_eq_true rfl, Bool.and_true]
    · rw [decide_eq_false (fun z => hne z.symm), Bool.and_false]; rfl
theorem sum_ct {P : Nat → Bool} {rl : Nat → Nat} {nl : Nat} : ∀ {nq : Nat}, (∀ i, i < nq → rl i < nl) → smL (fun l => fb_ct (fun i => P i && decide (rl i = l)) nq) nl = fb_ct P nq
  | 0, _ => smL_z (fun _ _ => rfl)
  | nq + 1, h => by
    have e : smL (fun l => fb_ct (fun i => P i && decide (rl i = l)) (nq + 1)) nl = smL (fun l => fb_ct (fun i => P i && decide (rl i = l)) nq) nl + smL (fun l => if (P nq && decide (rl nq = l)) = true then 1 else 0) nl := smL_add
    rw [e, sum_ct (fun i hi => h i (by omega)), fb_ct_succ]
    congr 1
    refine sm_ind (h nq (by omega)) ?_ (fun l _ hne => ?_)
    · rw [decide_eq_true rfl, Bool.and_true]
    · rw [decide_eq_false (fun z => hne z.symm), Bool.and_false]; rfl
def cN (S : Nat) : Nat := fb_ct (hb S) 10
theorem cN_ks (P : Nat → Bool) {nq : Nat} (h : nq ≤ 10) : cN (ksN P nq) = fb_ct P nq := ct_ks P nq 10 h
theorem cN_le (S : Nat) : cN S ≤ 10 := fb_ct_le _ _
theorem cN_16 {S : Nat} (h : S < 1024) : fb_ct (hb S) 16 = cN S := by
  have e : 1024 = 2 ^ 10 := rfl
  rw [e] at h
  have h1 := ct_ks (hb S) 10 16 (by omega)
  rw [ks_self h] at h1
  exact h1
def wnL (rl : Nat → Nat) (nq l : Nat) : Nat := ksN (fun i => decide (rl i = l)) nq
theorem wn_in {rl : Nat → Nat} {nq l S i : Nat} (h : S &&& wnL rl nq l = S) (hi : hb S i = true) : i < nq ∧ rl i = l := by
  rw [← h, hb_and, wnL, hb_ks] at hi
  simp only [Bool.and_eq_true, decide_eq_true_eq] at hi
  exact hi.2
theorem wn_ks {rl : Nat → Nat} {nq l : Nat} (P : Nat → Bool) : ksN (fun i => P i && decide (rl i = l)) nq &&& wnL rl nq l = ksN (fun i => P i && decide (rl i = l)) nq := hb_ext (fun i => by
  rw [hb_and, wnL, hb_ks, hb_ks]
  cases decide (i < nq) <;> cases P i <;> cases decide (rl i = l) <;> rfl)
theorem wn_self {rl : Nat → Nat} {nq l S : Nat} (h : S &&& wnL rl nq l = S) : S = ksN (fun i => hb S i && decide (rl i = l)) nq := hb_ext (fun i => by
  rw [hb_ks]
  cases e : hb S i with
  | false => rw [Bool.false_and, Bool.and_false]
  | true => rw [decide_eq_true (wn_in h e).1, decide_eq_true (wn_in h e).2]; rfl)
theorem wn_le {rl : Nat → Nat} {nq l S : Nat} (h : S &&& wnL rl nq l = S) : S ≤ wnL rl nq l := by
  rw [← h]; exact Nat.and_le_right
theorem fl_cong {B : rf_Mem} {n nr nq h l S T : Nat} (e : ∀ j, j < nq → rlB B j = l → hb S j = hb T j) : flB B n nr nq h S l = flB B n nr nq h T l ∧ kqB B n nr nq h S l = kqB B n nr nq h T l := by
  obtain ⟨e1, e2⟩ := rn_cong (B := B) (n := n) e
  unfold flB kqB
  rw [e1, e2]
  exact ⟨rfl, rfl⟩
def DW (B : rf_Mem) (nq l : Nat) : Nat → Prop := fun S => S < wnL (rlB B) nq l + 1 ∧ S &&& wnL (rlB B) nq l = S
/-- the best of all sets is the union of the best of each line -/
theorem best_all {B : rf_Mem} {n nl nr nq h : Nat} {b : Nat → Nat} (hrl : ∀ i, i < nq → rlB B i < nl) (hq : nq ≤ 10) (hb0 : ∀ l, l < nl → Bst (DW B nq l) (fun S => flB B n nr nq h S l) cN (b l)) : Bst (fun S => S < 2 ^ nq ∧ True) (FB B n nl nr nq h) cN (ksN (fun i => hb (b (rlB B i)) i) nq) ∧ (∀ l, l < nl → flB B n nr nq h (ksN (fun i => hb (b (rlB B i)) i) nq) l = flB B n nr nq h (b l) l ∧ kqB B n nr nq h (ksN (fun i => hb (b (rlB B i)) i) nq) l = kqB B n nr nq h (b l) l) := by
  have hl : ∀ l, l < nl → flB B n nr nq h (ksN (fun i => hb (b (rlB B i)) i) nq) l = flB B n nr nq h (b l) l ∧ kqB B n nr nq h (ksN (fun i => hb (b (rlB B i)) i) nq) l = kqB B n nr nq h (b l) l := fun l _ => fl_cong (fun j hj hr => by rw [hb_ks, decide_eq_true hj, Bool.true_and, hr])
  have hbl : ∀ l, l < nl → b l = ksN (fun i => hb (b (rlB B i)) i && decide (rlB B i = l)) nq := fun l hl => by
    have e := wn_self (hb0 l hl).1.2
    refine e.trans (ks_cong (fun i _ => ?_))
    by_cases z : rlB B i = l
    · rw [z]
    · rw [decide_eq_false z, Bool.and_false, Bool.and_false]
  refine ⟨?_, hl⟩
  refine Bst.sum (W := DW B nq) (fl := fun l S => flB B n nr nq h S l) (pr := fun S l => ksN (fun i => hb S i && decide (rlB B i = l)) nq) hb0 ⟨ksN_lt _ _, trivial⟩ (smL_cong (fun l hl2 => (hl l hl2).1)) ?_ ?_ (fun S hS => ⟨fun l _ => ⟨Nat.lt_succ_of_le (wn_le (wn_ks _)), wn_ks _⟩, smL_cong (fun l _ => (fl_cong (fun j hj hr => by rw [hb_ks, decide_eq_true hj, Bool.true_and, hr, decide_eq_true rfl, Bool.and_true])).1), ?_, ?_⟩)
  · rw [cN_ks _ hq, ← sum_ct hrl]
    refine smL_cong (fun l hl2 => ?_)
    show _ = cN (b l)
    rw [hbl l hl2, cN_ks _ hq]
  · rw [← sum_ks hrl]
    exact smL_cong (fun l hl2 => (hbl l hl2).symm)
  · have e : cN S = cN (ksN (hb S) nq) := by rw [ks_self hS.1]
    rw [e, cN_ks _ hq, ← sum_ct hrl]
    exact smL_cong (fun l _ => (cN_ks _ hq).symm)
  · have e : S = ksN (hb S) nq := (ks_self hS.1).symm
    refine e.trans ?_
    exact (sum_ks hrl).symm
theorem fl_le {B : rf_Mem} {n nr nq h l S : Nat} (hw : ∀ j, j < nq → rwB B j ≤ 99) (hq : nq ≤ 10) (hv : wvB B l ≤ 99) : flB B n nr nq h S l ≤ 1089 := by
  have := gs_le (B := B) (n := n) (l := l) (S := S) (i := nq) hw
  unfold flB
  split <;> omega
/-- what the lines before l make up -/
def orB (B : rf_Mem) (b : Nat → Nat) (nq l : Nat) : Nat := ksN (fun i => hb (b (rlB B i)) i && decide (rlB B i < l)) nq
theorem orB_s {B : rf_Mem} {b : Nat → Nat} {nq l : Nat} (h : b l &&& wnL (rlB B) nq l = b l) : orB B b nq l ||| b l = orB B b nq (l + 1) := hb_ext (fun i => by
  rw [hb_or, orB, orB, hb_ks, hb_ks]
  cases e : hb (b l) i with
  | true =>
    obtain ⟨h1, h2⟩ := wn_in h e
    rw [decide_eq_true h1, h2, e, decide_eq_true (Nat.lt_succ_self l), Bool.or_true]; rfl
  | false =>
    rw [Bool.or_false]
    by_cases z : rlB B i = l
    · rw [z, e, Bool.false_and, Bool.false_and]
    · have e2 : decide (rlB B i < l + 1) = decide (rlB B i < l) := decide_eq_decide.mpr (by omega)
      rw [e2])
theorem orB_0 (B : rf_Mem) (b : Nat → Nat) (nq : Nat) : orB B b nq 0 = 0 := hb_ext (fun i => by
  rw [orB, hb_ks, decide_eq_false (Nat.not_lt_zero _), Bool.and_false, Bool.and_false]; simp [hb])
theorem orB_n {B : rf_Mem} {b : Nat → Nat} {nq nl : Nat} (h : ∀ i, i < nq → rlB B i < nl) : orB B b nq nl = ksN (fun i => hb (b (rlB B i)) i) nq := ks_cong (fun i hi => by rw [decide_eq_true (h i hi), Bool.and_true])
