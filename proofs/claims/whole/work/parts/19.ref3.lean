/-! dead locals may be forgotten -/
def rf_sub : List (Option Value) → List (Option Value) → Prop
  | [], _ => True
  | none :: l, _ :: k => rf_sub l k
  | none :: l, [] => rf_sub l []
  | some v :: l, w :: k => w = some v ∧ rf_sub l k
  | some _ :: _, [] => False
theorem rf_sub_at : ∀ (A B : List (Option Value)), rf_sub A B → ∀ (i : Nat) (v : Value), A[i]? = some (some v) → B[i]? = some (some v)
  | [], _, _, i, v, h => by simp at h
  | none :: l, [], hs, 0, v, h => by simp at h
  | none :: l, [], hs, i + 1, v, h => by
    have := rf_sub_at l [] hs i v (by simpa using h)
    simp at this
  | none :: l, b :: k, hs, 0, v, h => by simp at h
  | none :: l, b :: k, hs, i + 1, v, h => by simpa using rf_sub_at l k hs i v (by simpa using h)
  | some a :: l, b :: k, hs, 0, v, h => by
    simp at h
    subst h
    simp [hs.1]
  | some a :: l, b :: k, hs, i + 1, v, h => by simpa using rf_sub_at l k hs.2 i v (by simpa using h)
theorem ev_stw {Lay : List rf_Cell} {y : rf_Me} {pc : Nat} {L L2 : List (Option Value)} {st st2 : List Value} {M M2 : rf_Mem} {r : Option Value} {M' : rf_Mem} (h : Ev Lay y pc L2 st2 M2 r M') (e1 : rf_sub L2 L) (e2 : st = st2) (e3 : M = M2) : Ev Lay y pc L st M r M' := by
  subst e2; subst e3
  intro p l e s m args below meth c D g ad A H locs ls C hP hD hS hl
  refine h p l e s m args below meth c D g ad A H locs ls C hP hD hS ⟨hl.1, hl.2.1, fun q hq => ?_⟩
  obtain ⟨k, v, rfl, hk⟩ := rf_lv_of ad L2 0 q hq
  exact hl.2.2 _ (rf_lv_in ad L 0 k v (rf_sub_at L2 L e1 k v hk))
/-! the reference: dusk, the darkest page -/
def dkF (x : Nat) (P : Nat → Bool) (G : rf_Mem) : rf_Mem := rf_row G 1 (fun j => if x + 160 ≤ j ∧ j < x + 288 ∧ P (j - (x + 160)) = true then -1 else if x + 288 ≤ j ∧ j < x + 416 ∧ P (j - (x + 288)) = true then -1 else G 1 j)
theorem dkF_o {x : Nat} {P : Nat → Bool} {G : rf_Mem} {a : Nat} (h : a ≠ 1) : dkF x P G a = G a := gr_q G _ h
theorem dkF_out {x : Nat} {P : Nat → Bool} {G : rf_Mem} {j : Nat} (h : j < x + 160 ∨ x + 416 ≤ j) : dkF x P G 1 j = G 1 j := by
  rw [dkF, gr_same, if_neg (by omega), if_neg (by omega)]
theorem dkF_a {x : Nat} {P : Nat → Bool} {G : rf_Mem} {k : Nat} (hk : k < 128) : dkF x P G 1 (x + 160 + k) = if P k then -1 else G 1 (x + 160 + k) := by
  rw [dkF, gr_same]
  have e : x + 160 + k - (x + 160) = k := by omega
  rw [e]
  by_cases h : P k = true
  · rw [if_pos ⟨by omega, by omega, h⟩, if_pos h]
  · rw [if_neg (fun z => h z.2.2), if_neg (by omega), if_neg h]
theorem dkF_b {x : Nat} {P : Nat → Bool} {G : rf_Mem} {k : Nat} (hk : k < 128) : dkF x P G 1 (x + 288 + k) = if P k then -1 else G 1 (x + 288 + k) := by
  rw [dkF, gr_same]
  have e : x + 288 + k - (x + 288) = k := by omega
  rw [e, if_neg (by omega)]
  by_cases h : P k = true
  · rw [if_pos ⟨by omega, by omega, h⟩, if_pos h]
  · rw [if_neg (fun z => h z.2.2), if_neg h]
theorem dkF_cong {x : Nat} {P R : Nat → Bool} {G : rf_Mem} (h : ∀ k, k < 128 → P k = R k) : dkF x P G = dkF x R G := by
  unfold dkF
  congr 1
  funext j
  by_cases h1 : x + 160 ≤ j ∧ j < x + 288
  · rw [h (j - (x + 160)) (by omega)]
    by_cases h2 : x + 288 ≤ j ∧ j < x + 416
    · omega
    · have a1 : ¬ (x + 288 ≤ j ∧ j < x + 416 ∧ P (j - (x + 288)) = true) := fun z => h2 ⟨z.1, z.2.1⟩
      have a2 : ¬ (x + 288 ≤ j ∧ j < x + 416 ∧ R (j - (x + 288)) = true) := fun z => h2 ⟨z.1, z.2.1⟩
      rw [if_neg a1, if_neg a2]
  · have a1 : ¬ (x + 160 ≤ j ∧ j < x + 288 ∧ P (j - (x + 160)) = true) := fun z => h1 ⟨z.1, z.2.1⟩
    have a2 : ¬ (x + 160 ≤ j ∧ j < x + 288 ∧ R (j - (x + 160)) = true) := fun z => h1 ⟨z.1, z.2.1⟩
    rw [if_neg a1, if_neg a2]
    by_cases h2 : x + 288 ≤ j ∧ j < x + 416
    · rw [h (j - (x + 288)) (by omega)]
    · have a1 : ¬ (x + 288 ≤ j ∧ j < x + 416 ∧ P (j - (x + 288)) = true) := fun z => h2 ⟨z.1, z.2.1⟩
      have a2 : ¬ (x + 288 ≤ j ∧ j < x + 416 ∧ R (j - (x + 288)) = true) := fun z => h2 ⟨z.1, z.2.1⟩
      rw [if_neg a1, if_neg a2]
theorem dkF_no (x : Nat) (G : rf_Mem) {P : Nat → Bool} (h : ∀ k, k < 128 → P k = false) : dkF x P G = G := by
  rw [dkF_cong (R := fun _ => false) h]
  funext a j
  by_cases ha : a = 1
  · subst ha; simp [dkF, rf_row]
  · exact congrFun (dkF_o ha) j
theorem dkF_s {x : Nat} {P R : Nat → Bool} {G : rf_Mem} {k : Nat} (hk : k < 128) (h : ∀ j, j < 128 → R j = (P j || decide (j = k))) : rf_set (rf_set (dkF x P G) 1 (x + 160 + k) (-1)) 1 (x + 288 + k) (-1) = dkF x R G := by
  funext a j
  by_cases ha : a = 1
  · subst ha
    by_cases h1 : j = x + 288 + k
    · subst h1
      rw [gs_same, dkF_b hk, h k hk]
      simp
    · rw [gs_j _ _ h1]
      by_cases h2 : j = x + 160 + k
      · subst h2
        rw [gs_same, dkF_a hk, h k hk]
        simp
      · rw [gs_j _ _ h2]
        by_cases h3 : x + 160 ≤ j ∧ j < x + 288
        · obtain ⟨i, rfl⟩ : ∃ i, j = x + 160 + i := ⟨j - (x + 160), by omega⟩
          rw [dkF_a (by omega), dkF_a (by omega), h i (by omega)]
          have e : decide (i = k) = false := by simp; omega
          simp [e]
        · by_cases h4 : x + 288 ≤ j ∧ j < x + 416
          · obtain ⟨i, rfl⟩ : ∃ i, j = x + 288 + i := ⟨j - (x + 288), by omega⟩
            rw [dkF_b (by omega), dkF_b (by omega), h i (by omega)]
            have e : decide (i = k) = false := by simp; omega
            simp [e]
          · rw [dkF_out (by omega), dkF_out (by omega)]
  · rw [gs_q _ _ _ ha, gs_q _ _ _ ha, dkF_o ha, dkF_o ha]
def fgM (G : rf_Mem) (x k : Nat) : Bool := !decide (G 1 (x + 160 + k) < 0) && !decide (G 1 (x + 1334) - G 1 (x + 288 + k) < G 6 (k / 16))
def dnM (nl r l k : Nat) : Bool := decide (k % 16 < nl) && (decide (k / 16 < r) || decide (k / 16 = r) && decide (k % 16 < l))
def dkG (x nl r l : Nat) (G : rf_Mem) : rf_Mem := dkF x (fun k => dnM nl r l k && fgM G x k) G
theorem dkG_0 (x nl : Nat) (G : rf_Mem) : dkG x nl 0 0 G = G := dkF_no x G (fun k _ => by simp [dnM])
theorem dkG_r (x nl r : Nat) (G : rf_Mem) : dkG x nl r nl G = dkG x nl (r + 1) 0 G := by
  refine dkF_cong (fun k _ => ?_)
  have e : dnM nl r nl k = dnM nl (r + 1) 0 k := by
    unfold dnM
    by_cases h : k % 16 < nl
    · by_cases h1 : k / 16 < r
      · have : k / 16 < r + 1 := by omega
        simp [h, h1, this]
      · by_cases h2 : k / 16 = r
        · have : k / 16 < r + 1 := by omega
          simp [h, h2]
        · have : ¬ k / 16 < r + 1 := by omega
          simp [h1, h2, this]
    · simp [h]
  rw [e]
theorem dn_self (nl r l : Nat) (hl : l < 16) : dnM nl r l (16 * r + l) = false := by
  have e1 : (16 * r + l) / 16 = r := by omega
  have e2 : (16 * r + l) % 16 = l := by omega
  simp [dnM, e1, e2]
theorem dn_next {nl r l : Nat} (hl : l < 16) (hnl : l < nl) (j : Nat) : dnM nl r (l + 1) j = (dnM nl r l j || decide (j = 16 * r + l)) := by
  unfold dnM
  by_cases h : j = 16 * r + l
  · have e1 : j / 16 = r := by omega
    have e2 : j % 16 = l := by omega
    simp [h, e1, e2, show (16 * r + l) / 16 = r by omega, show (16 * r + l) % 16 = l by omega, hnl]
  · by_cases h1 : j / 16 = r
    · have e : (j % 16 < l + 1) ↔ (j % 16 < l) := by omega
      simp [h, h1, e]
    · simp [h, h1]
theorem dkG_y {x nl r l : Nat} {G : rf_Mem} (hr : r < 8) (hl : l < 16) (hnl : l < nl) (h : fgM G x (16 * r + l) = true) : rf_set (rf_set (dkG x nl r l G) 1 (x + 160 + (16 * r + l)) (-1)) 1 (x + 288 + (16 * r + l)) (-1) = dkG x nl r (l + 1) G := by
  refine dkF_s (by omega) (fun j _ => ?_)
  rw [dn_next hl hnl]
  by_cases e : j = 16 * r + l
  · subst e; simp [h]
  · simp [e]
theorem dkG_n {x nl r l : Nat} {G : rf_Mem} (hl : l < 16) (hnl : l < nl) (h : fgM G x (16 * r + l) = false) : dkG x nl r l G = dkG x nl r (l + 1) G := by
  refine dkF_cong (fun j _ => ?_)
  rw [dn_next hl hnl]
  by_cases e : j = 16 * r + l
  · subst e; simp [h]
  · simp [e]
theorem dkG_at {x nl r l : Nat} {G : rf_Mem} (hr : r < 8) (hl : l < 16) : dkG x nl r l G 1 (x + 160 + (16 * r + l)) = G 1 (x + 160 + (16 * r + l)) ∧ dkG x nl r l G 1 (x + 288 + (16 * r + l)) = G 1 (x + 288 + (16 * r + l)) := by
  constructor
  · rw [dkG, dkF_a (by omega)]; simp [dn_self nl r l hl]
  · rw [dkG, dkF_b (by omega)]; simp [dn_self nl r l hl]

