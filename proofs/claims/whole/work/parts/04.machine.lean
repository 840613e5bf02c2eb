/-! the abstract machine: cells by number, numbers of a cell by place; a world out of a layout -/
abbrev rf_Mem : Type := Nat → Nat → Int32
def rf_row (M : rf_Mem) (k : Nat) (f : Nat → Int32) : rf_Mem := fun a => if a = k then f else M a
def rf_set (M : rf_Mem) (k j : Nat) (v : Int32) : rf_Mem := rf_row M k (upd (M k) j v)
abbrev rf_Cell : Type := (Nat × List (Option Nat)) ⊕ ((Nat × Nat) ⊕ (List Nat))
abbrev rf_G : Type := ClassId × ClassId × ClassId
def rf_tys (g : rf_G) : List (ClassId × FieldType) := [(g.1, .int), (g.2.1, .boolean), (g.2.2, .object RX5)]
def rf_cv (ad : Nat → Nat) (v : Value) : Value := match v with
  | .ref k => .ref (ad k)
  | .int x => .int x
  | .long x => .long x
  | v => v
theorem rf_cv_cat (ad : Nat → Nat) (v : Value) : (rf_cv ad v).category = v.category := by cases v <;> rfl
def rf_fs (ad : Nat → Nat) (f : Nat → Int32) : Nat → List (Option Nat) → List Value
  | _, [] => []
  | j, none :: l => .int (f j) :: rf_fs ad f (j + 1) l
  | j, some c :: l => .ref (ad c) :: rf_fs ad f (j + 1) l
def rf_w (g : rf_G) (ad : Nat → Nat) (M : rf_Mem) (k : Nat) (c : rf_Cell) : Nat × va_E := (ad k, match c with
  | .inl o => .inr (o.1, rf_fs ad (M k) 0 o.2)
  | .inr (.inl a) => .inl (if a.2 = 0 then g.1 else g.2.1, a.1, .inl (M k))
  | .inr (.inr cs) => .inl (g.2.2, cs.length, .inr (.inr (.inr (.inr (fun j => (cs[j]?).map ad))))))
def rf_W (g : rf_G) (ad : Nat → Nat) (M : rf_Mem) : Nat → List rf_Cell → va_W
  | _, [] => []
  | k, c :: l => rf_w g ad M k c :: rf_W g ad M (k + 1) l
theorem rf_W_get (g : rf_G) (ad : Nat → Nat) (M : rf_Mem) : ∀ (Lay : List rf_Cell) (k0 k : Nat), (rf_W g ad M k0 Lay)[k]? = (Lay[k]?).map (rf_w g ad M (k0 + k)) := by
  intro Lay
  induction Lay with
  | nil => intro k0 k; simp [rf_W]
  | cons c l ih =>
    intro k0 k
    cases k with
    | zero => simp [rf_W]
    | succ k => simp [rf_W, ih (k0 + 1) k, Nat.add_assoc, Nat.add_comm 1 k]
theorem rf_fs_get (ad : Nat → Nat) (f : Nat → Int32) : ∀ (l : List (Option Nat)) (j0 j : Nat), (rf_fs ad f j0 l)[j]? = (l[j]?).map (fun o => match o with | none => Value.int (f (j0 + j)) | some c => Value.ref (ad c)) := by
  intro l
  induction l with
  | nil => intro j0 j; simp [rf_fs]
  | cons o l ih =>
    intro j0 j
    cases o <;> cases j with
    | zero => simp [rf_fs]
    | succ j => simp [rf_fs, ih (j0 + 1) j, Nat.add_assoc, Nat.add_comm 1 j]
theorem rf_fs_cong (ad : Nat → Nat) (f f' : Nat → Int32) : ∀ (l : List (Option Nat)) (j0 : Nat), (∀ j, j0 ≤ j → f j = f' j) → rf_fs ad f j0 l = rf_fs ad f' j0 l := by
  intro l
  induction l with
  | nil => intro j0 _; rfl
  | cons o l ih =>
    intro j0 h
    cases o with
    | none => simp only [rf_fs]; rw [h j0 (Nat.le_refl _), ih (j0 + 1) (fun j hj => h j (by omega))]
    | some c => simp only [rf_fs]; rw [ih (j0 + 1) (fun j hj => h j (by omega))]
theorem rf_fs_set (ad : Nat → Nat) (f : Nat → Int32) (v : Int32) : ∀ (l : List (Option Nat)) (j0 j : Nat), l[j]? = some none → (rf_fs ad f j0 l).set j (.int v) = rf_fs ad (upd f (j0 + j) v) j0 l := by
  intro l
  induction l with
  | nil => intro j0 j h; simp at h
  | cons o l ih =>
    intro j0 j h
    cases j with
    | zero =>
      simp at h
      subst h
      simp only [rf_fs, List.set_cons_zero]
      rw [rf_fs_cong ad f (upd f (j0 + 0) v) l (j0 + 1) (fun j hj => by simp [upd]; omega)]
      simp [upd]
    | succ j =>
      have e := ih (j0 + 1) j (by simpa using h)
      have e2 : j0 + 1 + j = j0 + (j + 1) := by omega
      rw [e2] at e
      cases o with
      | none => simp only [rf_fs, List.set_cons_succ]; rw [e]; simp [upd]
      | some c => simp only [rf_fs, List.set_cons_succ]; rw [e]
theorem rf_w_cong {g : rf_G} {ad : Nat → Nat} {M M' : rf_Mem} {k : Nat} {c : rf_Cell} (h : M k = M' k) : rf_w g ad M k c = rf_w g ad M' k c := by
  unfold rf_w
  rw [h]
theorem rf_W_cong {g : rf_G} {ad : Nat → Nat} {M M' : rf_Mem} : ∀ (l : List rf_Cell) (k0 : Nat), (∀ k, k0 ≤ k → M k = M' k) → rf_W g ad M k0 l = rf_W g ad M' k0 l := by
  intro l
  induction l with
  | nil => intro k0 _; rfl
  | cons c l ih =>
    intro k0 h
    simp only [rf_W]
    rw [rf_w_cong (h k0 (Nat.le_refl _)), ih (k0 + 1) (fun k hk => h k (by omega))]
theorem rf_row_same (M : rf_Mem) (k : Nat) (f : Nat → Int32) : rf_row M k f k = f := by simp [rf_row]
theorem rf_row_ne (M : rf_Mem) {k a : Nat} (f : Nat → Int32) (h : a ≠ k) : rf_row M k f a = M a := by simp [rf_row, h]
theorem rf_W_set (g : rf_G) (ad : Nat → Nat) (M : rf_Mem) (f : Nat → Int32) (c : rf_Cell) : ∀ (l : List rf_Cell) (k0 k : Nat), l[k]? = some c → (rf_W g ad M k0 l).set k (rf_w g ad (rf_row M (k0 + k) f) (k0 + k) c) = rf_W g ad (rf_row M (k0 + k) f) k0 l := by
  intro l
  induction l with
  | nil => intro k0 k h; simp at h
  | cons d l ih =>
    intro k0 k h
    cases k with
    | zero =>
      simp at h
      subst h
      simp only [rf_W, List.set_cons_zero, Nat.add_zero]
      rw [rf_W_cong (M := M) (M' := rf_row M k0 f) l (k0 + 1) (fun k hk => (rf_row_ne M f (by omega)).symm)]
    | succ k =>
      have e := ih (k0 + 1) k (by simpa using h)
      have e2 : k0 + 1 + k = k0 + (k + 1) := by omega
      rw [e2] at e
      simp only [rf_W, List.set_cons_succ]
      rw [e, rf_w_cong (M := M) (M' := rf_row M (k0 + (k + 1)) f) (rf_row_ne M f (by omega)).symm]
theorem rf_W0 (g : rf_G) (ad : Nat → Nat) (M : rf_Mem) {Lay : List rf_Cell} {q : Nat} {c : rf_Cell} (h : Lay[q]? = some c) : (rf_W g ad M 0 Lay)[q]? = some (rf_w g ad M q c) := by
  rw [rf_W_get, h, Nat.zero_add]
  rfl
theorem rf_S0 (g : rf_G) (ad : Nat → Nat) (M : rf_Mem) (f : Nat → Int32) {Lay : List rf_Cell} {q : Nat} {c : rf_Cell} (h : Lay[q]? = some c) : (rf_W g ad M 0 Lay).set q (rf_w g ad (rf_row M q f) q c) = rf_W g ad (rf_row M q f) 0 Lay := by
  have e := rf_W_set g ad M f c Lay 0 q h
  rw [Nat.zero_add] at e
  exact e
theorem rf_D {A : Nat → Prop} {g : rf_G} {ad : Nat → Nat} {M M' : rf_Mem} {Lay : List rf_Cell} (h : va_D A (rf_W g ad M 0 Lay)) : va_D A (rf_W g ad M' 0 Lay) := by
  have key : ∀ (k : Nat) (q : Nat × va_E), (rf_W g ad M' 0 Lay)[k]? = some q → ∃ q', (rf_W g ad M 0 Lay)[k]? = some q' ∧ q'.1 = q.1 := by
    intro k q hq
    rw [rf_W_get] at hq
    rw [rf_W_get]
    cases hc : Lay[k]? with
    | none => rw [hc] at hq; cases hq
    | some c =>
      rw [hc] at hq
      cases hq
      exact ⟨_, rfl, rfl⟩
  refine ⟨fun i j a b ha hb he => ?_, fun k q hk => ?_⟩
  · obtain ⟨a', h1, h2⟩ := key i a ha
    obtain ⟨b', h3, h4⟩ := key j b hb
    exact h.1 i j a' b' h1 h3 (by rw [h2, h4]; exact he)
  · obtain ⟨q', h1, h2⟩ := key k q hk
    rw [← h2]
    exact h.2 k q' h1
theorem rf_A {g : rf_G} {ad : Nat → Nat} {M M' : rf_Mem} {Lay : List rf_Cell} {sz sz' : Nat} (hs : sz' ≤ sz) {q : Nat} (h : va_A (rf_W g ad M 0 Lay) sz q) : va_A (rf_W g ad M' 0 Lay) sz' q := by
  rcases h with ⟨k, e, hk⟩ | h
  · rw [rf_W_get] at hk
    cases hc : Lay[k]? with
    | none => rw [hc] at hk; cases hk
    | some c =>
      rw [hc] at hk
      refine Or.inl ⟨k, (rf_w g ad M' (0 + k) c).2, ?_⟩
      rw [rf_W_get, hc]
      have e1 : ad (0 + k) = q := congrArg (fun z => (z : Nat × va_E).1) (Option.some.inj hk)
      show some (rf_w g ad M' (0 + k) c) = some (q, (rf_w g ad M' (0 + k) c).2)
      rw [← e1]
      rfl
  · exact Or.inr (Nat.le_trans hs h)
/-! locals -/
def rf_lv (ad : Nat → Nat) : Nat → List (Option Value) → List (Nat × Value)
  | _, [] => []
  | i, none :: L => rf_lv ad (i + 1) L
  | i, some v :: L => (i, rf_cv ad v) :: rf_lv ad (i + 1) L
theorem rf_lv_in (ad : Nat → Nat) : ∀ (L : List (Option Value)) (i k : Nat) (v : Value), L[k]? = some (some v) → (i + k, rf_cv ad v) ∈ rf_lv ad i L := by
  intro L
  induction L with
  | nil => intro i k v h; simp at h
  | cons o L ih =>
    intro i k v h
    cases k with
    | zero =>
      simp at h
      subst h
      simp [rf_lv]
    | succ k =>
      have e := ih (i + 1) k v (by simpa using h)
      have e2 : i + 1 + k = i + (k + 1) := by omega
      rw [e2] at e
      cases o with
      | none => exact e
      | some w => exact List.mem_cons_of_mem _ e
theorem rf_lv_of (ad : Nat → Nat) : ∀ (L : List (Option Value)) (i : Nat) (q : Nat × Value), q ∈ rf_lv ad i L → ∃ k v, q = (i + k, rf_cv ad v) ∧ L[k]? = some (some v) := by
  intro L
  induction L with
  | nil => intro i q h; cases h
  | cons o L ih =>
    intro i q h
    cases o with
    | none =>
      obtain ⟨k, v, h1, h2⟩ := ih (i + 1) q h
      exact ⟨k + 1, v, by rw [h1]; congr 1; omega, by simpa using h2⟩
    | some w =>
      rcases List.mem_cons.mp h with h | h
      · exact ⟨0, w, h, rfl⟩
      · obtain ⟨k, v, h1, h2⟩ := ih (i + 1) q h
        exact ⟨k + 1, v, by rw [h1]; congr 1; omega, by simpa using h2⟩
def rf_okset (L : List (Option Value)) (i : Nat) : Bool := match i with
  | 0 => true
  | j + 1 => match L[j]? with
    | some (some v) => v.category != 2
    | _ => true
theorem rf_lv_set {ad : Nat → Nat} {ls : Array Slot} {n i : Nat} {L : List (Option Value)} {v : Value} (h : lv_has ls n ((i, rf_cv ad v) :: (rf_lv ad 0 L).filter (fun q => !(q.1 == i) && !(q.1 + 1 == i && q.2.category == 2)))) (ho : rf_okset L i = true) : lv_has ls n (rf_lv ad 0 (L.set i (some v))) := by
  refine ⟨h.1, h.2.1, fun q hq => ?_⟩
  obtain ⟨k, w, rfl, hk⟩ := rf_lv_of ad _ 0 q hq
  rw [Nat.zero_add] at hq ⊢
  by_cases e : k = i
  · subst e
    have hlt : k < L.length := by
      have h3 := (List.getElem?_eq_some_iff.mp hk).1
      simpa using h3
    rw [List.getElem?_set_self hlt] at hk
    have e2 : v = w := by simpa using hk
    rw [← e2]
    exact h.2.2 _ List.mem_cons_self
  · rw [List.getElem?_set_ne (fun z => e z.symm)] at hk
    have h3 := rf_lv_in ad L 0 k w hk
    rw [Nat.zero_add] at h3
    refine h.2.2 _ (List.mem_cons_of_mem _ (List.mem_filter.mpr ⟨h3, ?_⟩))
    have e1 : (k == i) = false := by simpa using e
    simp only [e1, Bool.not_false, Bool.true_and]
    cases i with
    | zero => simp
    | succ j =>
      by_cases e3 : k = j
      · subst e3
        simp only [rf_okset, hk] at ho
        rw [rf_cv_cat]
        simpa using ho
      · have e4 : (k + 1 == j + 1) = false := by simpa using e3
        rw [e4]
        rfl
def rf_sl (vs : List Value) : List (Option Value) := vs.flatMap fun v => if v.category = 2 then [some v, none] else [some v]
def rf_ent (n : Nat) (vs : List Value) : List (Option Value) := rf_sl vs ++ List.replicate (n - (rf_sl vs).length) none
theorem rf_lv_none (ad : Nat → Nat) : ∀ (k i : Nat), rf_lv ad i (List.replicate k none) = [] := by
  intro k
  induction k with
  | zero => intro i; rfl
  | succ k ih => intro i; exact ih (i + 1)
theorem rf_lv_args (ad : Nat → Nat) (k : Nat) : ∀ (vs : List Value) (i : Nat), rf_lv ad i (rf_sl vs ++ List.replicate k none) = lv_args i (vs.map (rf_cv ad)) := by
  intro vs
  induction vs with
  | nil => intro i; exact rf_lv_none ad k i
  | cons v vs ih =>
    intro i
    by_cases h : v.category = 2
    · have e : rf_sl (v :: vs) = some v :: none :: rf_sl vs := by simp [rf_sl, h]
      rw [e]
      show (i, rf_cv ad v) :: rf_lv ad (i + 1 + 1) (rf_sl vs ++ List.replicate k none) = _
      rw [ih]
      simp [lv_args, rf_cv_cat, h]
    · have e : rf_sl (v :: vs) = some v :: rf_sl vs := by simp [rf_sl, h]
      rw [e]
      show (i, rf_cv ad v) :: rf_lv ad (i + 1) (rf_sl vs ++ List.replicate k none) = _
      rw [ih]
      simp [lv_args, rf_cv_cat, h]
theorem rf_sl_len (ad : Nat → Nat) : ∀ (vs : List Value), (lg_sl (vs.map (rf_cv ad))).length = (rf_sl vs).length := by
  intro vs
  induction vs with
  | nil => rfl
  | cons v vs ih =>
    by_cases h : v.category = 2
    · simp only [lg_sl, rf_sl, List.map_cons, List.flatMap_cons, rf_cv_cat, h, if_true, List.length_append] at ih ⊢
      simp only [ih, List.length_cons, List.length_nil]
    · simp only [lg_sl, rf_sl, List.map_cons, List.flatMap_cons, rf_cv_cat, h, if_false, List.length_append] at ih ⊢
      simp only [ih, List.length_cons, List.length_nil]
