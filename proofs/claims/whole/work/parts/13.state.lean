/-! what the queries of a state say -/
def b2i (b : Bool) : Int32 := match b with
  | true => nI 1
  | false => nI 0
theorem b2i_0 (b : Bool) : b2i b = 0 ↔ b = false := by cases b <;> decide
theorem b2i_n0 (b : Bool) : ¬ b2i b = 0 ↔ b = true := by cases b <;> decide
theorem b2i_t : b2i true = nI 1 := rfl
theorem b2i_f : b2i false = nI 0 := rfl
theorem lp_x {v : Int32} {n : Nat} (h : v = nI n) (hn : n < 2 ^ 31) (hc : ¬ v ≤ nI n) : False := hc (by rw [h]; exact nI_le (Nat.le_refl _) hn)
theorem lp_s {v : Int32} {n i : Nat} (h : v = nI n) (hn : n < 2 ^ 31) (hi : i < n) (hc : v ≤ nI i) : False := nI_ge hi hn (by rw [← h]; exact hc)
/-- a counted loop with something that holds at its head -/
theorem ev_forI {Lay : List rf_Cell} {y : rf_Me} {pc : Nat} {r : Option Value} {M' : rf_Mem} (n : Nat) (I : Nat → Prop) (L : Nat → List (Option Value)) (M : Nat → rf_Mem) (hx : I n → Ev Lay y pc (L n) [] (M n) r M') (hs : ∀ i, i < n → I i → (I (i + 1) → Ev Lay y pc (L (i + 1)) [] (M (i + 1)) r M') → Ev Lay y pc (L i) [] (M i) r M') : ∀ i, i ≤ n → I i → Ev Lay y pc (L i) [] (M i) r M' := by
  intro i hi
  obtain ⟨d, hd⟩ : ∃ d, n - i = d := ⟨_, rfl⟩
  induction d generalizing i with
  | zero =>
    intro h
    have e : i = n := by omega
    subst e
    exact hx h
  | succ d ih => intro h; exact hs i (by omega) h (fun h2 => ih (i + 1) (by omega) (by omega) h2)
theorem ev_istore_k {Lay : List rf_Cell} {y : rf_Me} {pc : Nat} {L : List (Option Value)} {st : List Value} {M : rf_Mem} {r : Option Value} {M' : rf_Mem} {k : Fin 4} {x : Int32} (i : Nat) (hd : decode y.2.1 pc = .ok (.istore_n k, 1)) (hi : k.val = i) (hn : i < y.2.2.1) (ho : rf_okset L i = true) (h : Ev Lay y (pc + 1) (L.set i (some (.int x))) st M r M') : Ev Lay y pc L (.int x :: st) M r M' := by
  subst hi
  exact ev_istore_n hd hn ho h
def vLeft (line shade : Nat → Int32) (l : Int32) (p : Nat) : Bool := decide (line p = l) && !decide (nI 9 ≤ shade p)
def vWith (line var shade : Nat → Int32) (l v : Int32) (p : Nat) : Bool := vLeft line shade l p && decide (var p = v)
def bAny (P : Nat → Bool) : Nat → Bool
  | 0 => false
  | n + 1 => bAny P n || P n
theorem bAny_of {P : Nat → Bool} : ∀ {n i : Nat}, i < n → P i = true → bAny P n = true
  | 0, _, h, _ => absurd h (Nat.not_lt_zero _)
  | n + 1, i, h, hp => by
    rcases Nat.lt_or_ge i n with q | q
    · simp [bAny, bAny_of q hp]
    · have e : i = n := by omega
      subst e
      simp [bAny, hp]
theorem bAny_no {P : Nat → Bool} : ∀ {n : Nat}, (∀ j, j < n → P j = false) → bAny P n = false
  | 0, _ => rfl
  | n + 1, h => by rw [bAny, bAny_no (fun j hj => h j (by omega)), h n (by omega)]; rfl
theorem bAny_iff {P : Nat → Bool} : ∀ {n : Nat}, bAny P n = true ↔ ∃ i, i < n ∧ P i = true
  | 0 => by simp [bAny]
  | n + 1 => by
    constructor
    · intro h
      simp only [bAny, Bool.or_eq_true] at h
      rcases h with h | h
      · obtain ⟨i, h1, h2⟩ := bAny_iff.mp h
        exact ⟨i, by omega, h2⟩
      · exact ⟨n, by omega, h⟩
    · intro h
      obtain ⟨i, h1, h2⟩ := h
      exact bAny_of h1 h2
theorem bAny_cong {P R : Nat → Bool} : ∀ {n : Nat}, (∀ k, k < n → P k = R k) → bAny P n = bAny R n
  | 0, _ => rfl
  | n + 1, h => by rw [bAny, bAny, bAny_cong (fun k hk => h k (by omega)), h n (by omega)]
/-- no hit up to i: one more -/
theorem no_s {P : Nat → Bool} {i : Nat} (h : ∀ j, j < i → P j = false) (hi : P i = false) : ∀ j, j < i + 1 → P j = false := fun j hj => by
  rcases Nat.lt_or_ge j i with q | q
  · exact h j q
  · have e : j = i := by omega
    rw [e]; exact hi
/-- the first, or -1 -/
def fFst (P : Nat → Bool) (n : Nat) : Int32 := if fa_first P n < n then nI (fa_first P n) else -1
theorem fa_hit {P : Nat → Bool} : ∀ {n i : Nat}, i < n → (∀ j, j < i → P j = false) → P i = true → fa_first P n = i
  | 0, _, h, _, _ => absurd h (Nat.not_lt_zero _)
  | n + 1, i, h, hj, hp => by
    rcases Nat.lt_or_ge i n with q | q
    · have e := fa_hit q hj hp
      simp only [fa_first, e, q, if_true]
    · have e : i = n := by omega
      subst e
      have h2 : ¬ fa_first P i < i := fun z => by
        have := fa_first_yes P i z
        rw [hj _ z] at this
        cases this
      simp only [fa_first, h2, if_false, hp, if_true]
theorem fa_none {P : Nat → Bool} {n : Nat} (hj : ∀ j, j < n → P j = false) : ¬ fa_first P n < n := fun z => by
  have := fa_first_yes P n z
  rw [hj _ z] at this
  cases this
theorem fFst_hit {P : Nat → Bool} {n i : Nat} (h : i < n) (hj : ∀ j, j < i → P j = false) (hp : P i = true) : fFst P n = nI i := by
  rw [fFst, fa_hit h hj hp, if_pos h]
theorem fFst_none {P : Nat → Bool} {n : Nat} (hj : ∀ j, j < n → P j = false) : fFst P n = -1 := by
  rw [fFst, if_neg (fa_none hj)]
theorem fa_first_cong {P R : Nat → Bool} : ∀ {n : Nat}, (∀ k, k < n → P k = R k) → fa_first P n = fa_first R n
  | 0, _ => rfl
  | n + 1, h => by rw [fa_first, fa_first, fa_first_cong (fun k hk => h k (by omega)), h n (by omega)]
theorem fFst_cong {P R : Nat → Bool} {n : Nat} (h : ∀ k, k < n → P k = R k) : fFst P n = fFst R n := by rw [fFst, fFst, fa_first_cong h]
/-- a set out of a predicate -/
def kset (P : Nat → Bool) : Nat → Int32
  | 0 => nI 0
  | n + 1 => if P n then kset P n ||| (nI 1 <<< (nI n &&& 31)) else kset P n
theorem kset_cong {P R : Nat → Bool} : ∀ {n : Nat}, (∀ k, k < n → P k = R k) → kset P n = kset R n
  | 0, _ => rfl
  | n + 1, h => by rw [kset, kset, kset_cong (fun k hk => h k (by omega)), h n (by omega)]
/-- a sum over those that have it -/
def iSum (P : Nat → Bool) (f : Nat → Int32) : Nat → Int32
  | 0 => nI 0
  | n + 1 => if P n then iSum P f n + f n else iSum P f n
theorem iSum_cong {P R : Nat → Bool} {f g : Nat → Int32} : ∀ {n : Nat}, (∀ k, k < n → P k = R k ∧ f k = g k) → iSum P f n = iSum R g n
  | 0, _ => rfl
  | n + 1, h => by rw [iSum, iSum, iSum_cong (fun k hk => h k (by omega)), (h n (by omega)).1, (h n (by omega)).2]
/-- the darkest page of a line -/
def dkst (P : Nat → Bool) (shade : Nat → Int32) : Nat → Option Nat
  | 0 => none
  | n + 1 => match dkst P shade n with
    | none => if P n then some n else none
    | some b => if P n && decide (shade n < shade b) then some n else some b
def oI (x : Option Nat) : Int32 := match x with
  | none => -1
  | some b => nI b
theorem dkst_lt {P : Nat → Bool} {shade : Nat → Int32} : ∀ {n b : Nat}, dkst P shade n = some b → b < n ∧ P b = true
  | 0, b, h => by cases h
  | n + 1, b, h => by
    rw [dkst] at h
    cases e : dkst P shade n with
    | none =>
      rw [e] at h
      by_cases hp : P n = true
      · simp [hp] at h
        subst h
        exact ⟨by omega, hp⟩
      · simp [hp] at h
    | some c =>
      have := dkst_lt e
      rw [e] at h
      by_cases hp : (P n && decide (shade n < shade c)) = true
      · simp only [hp, if_true] at h
        cases h
        exact ⟨by omega, by simp at hp; exact hp.1⟩
      · simp only [hp] at h
        cases h
        exact ⟨by omega, this.2⟩
theorem dkst_cong {P R : Nat → Bool} {f g : Nat → Int32} : ∀ {n : Nat}, (∀ k, k < n → P k = R k ∧ f k = g k) → dkst P f n = dkst R g n
  | 0, _ => rfl
  | n + 1, h => by
    have ih := dkst_cong (n := n) (fun k hk => h k (by omega))
    rw [dkst, dkst, ih, (h n (by omega)).1]
    cases e : dkst R g n with
    | none => rfl
    | some b =>
      have hb := (dkst_lt e).1
      show (if R n && decide (f n < f b) then some n else some b) = _
      rw [(h n (by omega)).2, (h b (by omega)).2]
theorem nI_m1 {b : Nat} (hb : b < 2 ^ 31) : ¬ nI b = -1 := fun e => nI_pos hb (by rw [e]; decide)
/-- what a reader holds of a line on a day -/
def knC (C : rf_Mem) (q : Nat) (d : Int32) (r l : Nat) : Int32 := if C 12 r ≤ d - C (q + 6) (r * 16 + l) then -1 else C (q + 5) (r * 16 + l)
def lrn (q : Nat) (C : rf_Mem) (r l : Nat) (v : Int32) : rf_Mem := rf_set (rf_set C (q + 5) (r * 16 + l) v) (q + 6) (r * 16 + l) (C q 10)
def dA (d n : Int32) : Int32 := if nI 9999 - d < n then nI 9999 - d else n
def sd (s : Int32) : Int32 := (s * nI 1103515245 + nI 12345) &&& nI 2147483647
def dv (s n : Int32) : Int32 := s / nI 65536 - s / nI 65536 / n * n

set_option maxRecDepth 20000 in
set_option maxHeartbeats 2000000 in
theorem e_isLeft {q p : Nat} {l : Int32} {C : rf_Mem} (hq : st_ok q) (hp : p < 40) : Ev LayC mX5_isLeft 0 (rf_ent 3 [.ref q, .int (nI p), .int l]) [] C (some (.int (b2i (vLeft (C (q + 1)) (C (q + 3)) l p)))) C := by
  have hq0 := hq
  obtain ⟨h0, h1, h2, h3, h4, h5, h6, h7, h8, h9, h10, h11, h20⟩ := hq
  refine ev_aload_n dX5_isLeft_0 rfl ?_
  refine ev_getR dX5_isLeft_1 fX5_18 (by first | assumption | rfl) (by rfl) ?_
  refine ev_iload_n dX5_isLeft_4 rfl ?_
  refine ev_ialdE _ dX5_isLeft_5 (rfl) (by first | assumption | rfl) ⟨by omega, by decide⟩ ?_
  refine ev_iload_n dX5_isLeft_6 rfl ?_
  refine ev_icmp_ne 25 dX5_isLeft_7 (by decide) (fun hc7 => ?_) (fun hc7 => ?_)
  · refine ev_iconst (v := (nI 0)) dX5_isLeft_25 (by decide) ?_
    exact ev_iretE dX5_isLeft_26 rfl rfl (by simp [b2i, vLeft, vWith, *]) (rfl)
  · refine ev_aload_n dX5_isLeft_10 rfl ?_
    refine ev_getR dX5_isLeft_11 fX5_25 (by first | assumption | rfl) (by rfl) ?_
    refine ev_iload_n dX5_isLeft_14 rfl ?_
    refine ev_ialdE _ dX5_isLeft_15 (rfl) (by first | assumption | rfl) ⟨by omega, by decide⟩ ?_
    refine ev_bipush (v := (nI 9)) dX5_isLeft_16 (by decide) ?_
    refine ev_icmp_ge 25 dX5_isLeft_18 (by decide) (fun hc18 => ?_) (fun hc18 => ?_)
    · refine ev_iconst (v := (nI 0)) dX5_isLeft_25 (by decide) ?_
      exact ev_iretE dX5_isLeft_26 rfl rfl (by simp [b2i, vLeft, vWith, *]) (rfl)
    · refine ev_iconst (v := (nI 1)) dX5_isLeft_21 (by decide) ?_
      refine ev_goto 26 dX5_isLeft_22 (by decide) ?_
      exact ev_iretE dX5_isLeft_26 rfl rfl (by simp [b2i, vLeft, vWith, *]) (rfl)
set_option maxRecDepth 20000 in
set_option maxHeartbeats 2000000 in
theorem e_pagesLeft {q n : Nat} {l : Int32} {C : rf_Mem} (hq : st_ok q) (hn : C q 9 = nI n) (hn2 : n ≤ 40) : Ev LayC mX5_pagesLeft 0 (rf_ent 4 [.ref q, .int l]) [] C (some (.int (nI (fb_ct (vLeft (C (q + 1)) (C (q + 3)) l) n)))) C := by
  have hq0 := hq
  obtain ⟨h0, h1, h2, h3, h4, h5, h6, h7, h8, h9, h10, h11, h20⟩ := hq
  have key := ev_for (Lay := LayC) (y := mX5_pagesLeft) (pc := 4) (r := (some (.int (nI (fb_ct (vLeft (C (q + 1)) (C (q + 3)) l) n))))) (M' := C) (n) (fun i => [some (.ref q), some (.int l), some (.int (nI (fb_ct (vLeft (C (q + 1)) (C (q + 3)) l) i))), some (.int (nI i))]) (fun i => C) ?hx ?hs
  case hx =>
    refine ev_iload_n dX5_pagesLeft_4 rfl ?_
    refine ev_aload_n dX5_pagesLeft_5 rfl ?_
    refine ev_getI dX5_pagesLeft_6 fX5_40 (by first | assumption | rfl) (by rfl) ?_
    refine ev_icmp_ge 30 dX5_pagesLeft_9 (by decide) (fun hc9 => ?_) (fun hc9 => False.elim (lp_x hn (by omega) hc9))
    refine ev_iload_n dX5_pagesLeft_30 rfl ?_
    exact ev_iretE dX5_pagesLeft_31 rfl rfl (by first | rfl | simp_all) (rfl)
  case hs =>
    intro i hi ih
    refine ev_iload_n dX5_pagesLeft_4 rfl ?_
    refine ev_aload_n dX5_pagesLeft_5 rfl ?_
    refine ev_getI dX5_pagesLeft_6 fX5_40 (by first | assumption | rfl) (by rfl) ?_
    refine ev_icmp_ge 30 dX5_pagesLeft_9 (by decide) (fun hc9 => False.elim (lp_s hn (by omega) hi hc9)) (fun hc9 => ?_)
    refine ev_aload_n dX5_pagesLeft_12 rfl ?_
    refine ev_iload_n dX5_pagesLeft_13 rfl ?_
    refine ev_iload_n dX5_pagesLeft_14 rfl ?_
    refine ev_cV2 dX5_pagesLeft_15 ceX5_isLeft kX5_157 (rm_le rfl rfl) (Nat.le_of_ble_eq_true rfl) (Nat.le_of_ble_eq_true rfl) (e_isLeft hq0 (by omega)) (by first | assumption | rfl) ?_
    refine ev_if_eq 24 dX5_pagesLeft_18 (by decide) (fun hc18 => ?_) (fun hc18 => ?_)
    · rw [b2i_0] at hc18
      refine ev_iinc (v := (nI 1)) dX5_pagesLeft_24 rfl (by decide) (by decide) rfl ?_
      refine ev_goto 4 dX5_pagesLeft_27 (by decide) ?_
      exact ev_st ih (by simp [nI_add, fb_ct_succ, *]) rfl (rfl)
    · rw [b2i_n0] at hc18
      refine ev_iinc (v := (nI 1)) dX5_pagesLeft_21 rfl (by decide) (by decide) rfl ?_
      refine ev_iinc (v := (nI 1)) dX5_pagesLeft_24 rfl (by decide) (by decide) rfl ?_
      refine ev_goto 4 dX5_pagesLeft_27 (by decide) ?_
      exact ev_st ih (by simp [nI_add, fb_ct_succ, *]) rfl (rfl)
  refine ev_iconst (v := (nI 0)) dX5_pagesLeft_0 (by decide) ?_
  refine ev_istore_k 2 dX5_pagesLeft_1 rfl (by decide) rfl ?_
  refine ev_iconst (v := (nI 0)) dX5_pagesLeft_2 (by decide) ?_
  refine ev_istore_k 3 dX5_pagesLeft_3 rfl (by decide) rfl ?_
  exact ev_st (key 0 (Nat.zero_le _)) (rfl) rfl (rfl)
set_option maxRecDepth 20000 in
set_option maxHeartbeats 2000000 in
theorem e_hasPage {q : Nat} {C : rf_Mem} (hq : st_ok q) {x : Int32} : Ev LayC mX5_hasPage 0 (rf_ent 2 [.ref q, .int x]) [] C (some (.int (b2i (!decide (x < 0) && !decide (C q 9 ≤ x))))) C := by
  have hq0 := hq
  obtain ⟨h0, h1, h2, h3, h4, h5, h6, h7, h8, h9, h10, h11, h20⟩ := hq
  refine ev_iload_n dX5_hasPage_0 rfl ?_
  refine ev_if_lt 16 dX5_hasPage_1 (by decide) (fun hc1 => ?_) (fun hc1 => ?_)
  · refine ev_iconst (v := (nI 0)) dX5_hasPage_16 (by decide) ?_
    exact ev_iretE dX5_hasPage_17 rfl rfl (by simp [b2i, *]) (rfl)
  · refine ev_iload_n dX5_hasPage_4 rfl ?_
    refine ev_aload_n dX5_hasPage_5 rfl ?_
    refine ev_getI dX5_hasPage_6 fX5_40 (by first | assumption | rfl) (by rfl) ?_
    refine ev_icmp_ge 16 dX5_hasPage_9 (by decide) (fun hc9 => ?_) (fun hc9 => ?_)
    · refine ev_iconst (v := (nI 0)) dX5_hasPage_16 (by decide) ?_
      exact ev_iretE dX5_hasPage_17 rfl rfl (by simp [b2i, *]) (rfl)
    · refine ev_iconst (v := (nI 1)) dX5_hasPage_12 (by decide) ?_
      refine ev_goto 17 dX5_hasPage_13 (by decide) ?_
      exact ev_iretE dX5_hasPage_17 rfl rfl (by simp [b2i, *]) (rfl)
set_option maxRecDepth 20000 in
set_option maxHeartbeats 2000000 in
theorem e_isGone {q : Nat} {C : rf_Mem} (hq : st_ok q) {p : Nat} (hp : p < 40) : Ev LayC mX5_isGone 0 (rf_ent 2 [.ref q, .int (nI p)]) [] C (some (.int (b2i (!decide (C (q + 3) p < nI 9))))) C := by
  have hq0 := hq
  obtain ⟨h0, h1, h2, h3, h4, h5, h6, h7, h8, h9, h10, h11, h20⟩ := hq
  refine ev_aload_n dX5_isGone_0 rfl ?_
  refine ev_getR dX5_isGone_1 fX5_25 (by first | assumption | rfl) (by rfl) ?_
  refine ev_iload_n dX5_isGone_4 rfl ?_
  refine ev_ialdE _ dX5_isGone_5 (rfl) (by first | assumption | rfl) ⟨by omega, by decide⟩ ?_
  refine ev_bipush (v := (nI 9)) dX5_isGone_6 (by decide) ?_
  refine ev_icmp_lt 15 dX5_isGone_8 (by decide) (fun hc8 => ?_) (fun hc8 => ?_)
  · refine ev_iconst (v := (nI 0)) dX5_isGone_15 (by decide) ?_
    exact ev_iretE dX5_isGone_16 rfl rfl (by simp [b2i, *]) (rfl)
  · refine ev_iconst (v := (nI 1)) dX5_isGone_11 (by decide) ?_
    refine ev_goto 16 dX5_isGone_12 (by decide) ?_
    exact ev_iretE dX5_isGone_16 rfl rfl (by simp [b2i, *]) (rfl)
set_option maxRecDepth 20000 in
set_option maxHeartbeats 2000000 in
theorem e_isFull {q : Nat} {C : rf_Mem} (hq : st_ok q) : Ev LayC mX5_isFull 0 (rf_ent 1 [.ref q]) [] C (some (.int (b2i (!decide (C q 9 < nI 40))))) C := by
  have hq0 := hq
  obtain ⟨h0, h1, h2, h3, h4, h5, h6, h7, h8, h9, h10, h11, h20⟩ := hq
  refine ev_aload_n dX5_isFull_0 rfl ?_
  refine ev_getI dX5_isFull_1 fX5_40 (by first | assumption | rfl) (by rfl) ?_
  refine ev_bipush (v := (nI 40)) dX5_isFull_4 (by decide) ?_
  refine ev_icmp_lt 13 dX5_isFull_6 (by decide) (fun hc6 => ?_) (fun hc6 => ?_)
  · refine ev_iconst (v := (nI 0)) dX5_isFull_13 (by decide) ?_
    exact ev_iretE dX5_isFull_14 rfl rfl (by simp [b2i, *]) (rfl)
  · refine ev_iconst (v := (nI 1)) dX5_isFull_9 (by decide) ?_
    refine ev_goto 14 dX5_isFull_10 (by decide) ?_
    exact ev_iretE dX5_isFull_14 rfl rfl (by simp [b2i, *]) (rfl)
set_option maxRecDepth 20000 in
set_option maxHeartbeats 2000000 in
theorem e_heart {C : rf_Mem} {r l : Nat} : Ev LayC mX5_heart 0 (rf_ent 2 [.int (nI r), .int (nI l)]) [] C (some (.int (nI (r * 16 + l)))) C := by
  refine ev_iload_n dX5_heart_0 rfl ?_
  refine ev_bipush (v := (nI 16)) dX5_heart_1 (by decide) ?_
  refine ev_imul dX5_heart_3 ?_
  refine ev_iload_n dX5_heart_4 rfl ?_
  refine ev_iadd dX5_heart_5 ?_
  exact ev_iretE dX5_heart_6 rfl rfl (by rw [pk_mul, nI_add]) (rfl)
set_option maxRecDepth 20000 in
set_option maxHeartbeats 2000000 in
theorem e_dayLearnt {q : Nat} {C : rf_Mem} (hq : st_ok q) {r l : Nat} (hr : r < 8) (hl : l < 16) : Ev LayC mX5_dayLearnt 0 (rf_ent 3 [.ref q, .int (nI r), .int (nI l)]) [] C (some (.int (C (q + 6) (r * 16 + l)))) C := by
  have hq0 := hq
  obtain ⟨h0, h1, h2, h3, h4, h5, h6, h7, h8, h9, h10, h11, h20⟩ := hq
  refine ev_aload_n dX5_dayLearnt_0 rfl ?_
  refine ev_getR dX5_dayLearnt_1 fX5_34 (by first | assumption | rfl) (by rfl) ?_
  refine ev_iload_n dX5_dayLearnt_4 rfl ?_
  refine ev_iload_n dX5_dayLearnt_5 rfl ?_
  refine ev_cS2 dX5_dayLearnt_6 ceX5_heart kX5_85 (rm_le rfl rfl) (Nat.le_of_ble_eq_true rfl) (Nat.le_of_ble_eq_true rfl) (e_heart) ?_
  refine ev_ialdE _ dX5_dayLearnt_9 (rfl) (by first | assumption | rfl) ⟨by omega, by decide⟩ ?_
  exact ev_iretE dX5_dayLearnt_10 rfl rfl (by first | rfl | simp_all) (rfl)
set_option maxRecDepth 20000 in
set_option maxHeartbeats 2000000 in
theorem e_variantAt {q : Nat} {C : rf_Mem} (hq : st_ok q) {r l : Nat} (hr : r < 8) (hl : l < 16) {d : Int32} : Ev LayC mX5_variantAt 0 (rf_ent 5 [.ref q, .int (nI r), .int (nI l), .int d]) [] C (some (.int (knC C q d r l))) C := by
  have hq0 := hq
  obtain ⟨h0, h1, h2, h3, h4, h5, h6, h7, h8, h9, h10, h11, h20⟩ := hq
  refine ev_iload_n dX5_variantAt_0 rfl ?_
  refine ev_iload_n dX5_variantAt_1 rfl ?_
  refine ev_cS2 dX5_variantAt_2 ceX5_heart kX5_85 (rm_le rfl rfl) (Nat.le_of_ble_eq_true rfl) (Nat.le_of_ble_eq_true rfl) (e_heart) ?_
  refine ev_istore dX5_variantAt_5 (by decide) rfl ?_
  refine ev_iload_n dX5_variantAt_7 rfl ?_
  refine ev_aload_n dX5_variantAt_8 rfl ?_
  refine ev_getR dX5_variantAt_9 fX5_34 (by first | assumption | rfl) (by rfl) ?_
  refine ev_iload dX5_variantAt_12 rfl ?_
  refine ev_ialdE _ dX5_variantAt_14 (rfl) (by first | assumption | rfl) ⟨by omega, by decide⟩ ?_
  refine ev_isub dX5_variantAt_15 ?_
  refine ev_aload_n dX5_variantAt_16 rfl ?_
  refine ev_getR dX5_variantAt_17 fX5_50 (by first | assumption | rfl) (by rfl) ?_
  refine ev_getR dX5_variantAt_20 fX5_89 (by first | assumption | rfl) (by rfl) ?_
  refine ev_iload_n dX5_variantAt_23 rfl ?_
  refine ev_ialdE _ dX5_variantAt_24 (rfl) (by first | assumption | rfl) ⟨by omega, by decide⟩ ?_
  refine ev_icmp_ge 38 dX5_variantAt_25 (by decide) (fun hc25 => ?_) (fun hc25 => ?_)
  · refine ev_iconst (v := (-1)) dX5_variantAt_38 (by decide) ?_
    exact ev_iretE dX5_variantAt_39 rfl rfl (by simp [knC, *]) (rfl)
  · refine ev_aload_n dX5_variantAt_28 rfl ?_
    refine ev_getR dX5_variantAt_29 fX5_31 (by first | assumption | rfl) (by rfl) ?_
    refine ev_iload dX5_variantAt_32 rfl ?_
    refine ev_ialdE _ dX5_variantAt_34 (rfl) (by first | assumption | rfl) ⟨by omega, by decide⟩ ?_
    refine ev_goto 39 dX5_variantAt_35 (by decide) ?_
    exact ev_iretE dX5_variantAt_39 rfl rfl (by simp [knC, *]) (rfl)
