/-! ops: toKnow -/
theorem hb_tb (S i : Nat) : hb S i = S.testBit i := by rw [hb, Nat.testBit_eq_decide_div_mod_eq]
theorem hb_ext {a b : Nat} (h : ∀ i, hb a i = hb b i) : a = b := Nat.eq_of_testBit_eq (fun i => by rw [← hb_tb, ← hb_tb]; exact h i)
theorem hb_and (a b i : Nat) : hb (a &&& b) i = (hb a i && hb b i) := by rw [hb_tb, hb_tb, hb_tb, Nat.testBit_and]
theorem hb_hi {S n i : Nat} (h : S < 2 ^ n) (hi : n ≤ i) : hb S i = false := by
  rw [hb_tb]; exact Nat.testBit_lt_two_pow (Nat.lt_of_lt_of_le h (Nat.pow_le_pow_right (by decide) hi))
theorem ks_and (P Q : Nat → Bool) (n : Nat) : ksN P n &&& ksN Q n = ksN (fun i => P i && Q i) n := by
  refine hb_ext (fun i => ?_)
  rw [hb_and, hb_ks, hb_ks, hb_ks]
  cases decide (i < n) <;> simp
theorem ks_of {S n : Nat} (h : S < 2 ^ n) : S = ksN (hb S) n := by
  refine hb_ext (fun i => ?_)
  rw [hb_ks]
  by_cases z : i < n
  · simp [z]
  · rw [hb_hi h (by omega)]; simp [z]
theorem ks_31 (P : Nat → Bool) {n : Nat} (hn : n ≤ 31) : ksN P n < 2 ^ 31 := Nat.lt_of_lt_of_le (ksN_lt P n) (Nat.pow_le_pow_right (by decide) hn)
theorem kset_and (P Q : Nat → Bool) {n : Nat} (hn : n ≤ 31) : kset P n &&& kset Q n = kset (fun i => P i && Q i) n := by
  rw [kset_N _ _ hn, kset_N _ _ hn, kset_N _ _ hn, fa_and, ks_and]
theorem kset_hb {S n : Nat} (hn : n ≤ 31) (h : S < 2 ^ n) : nI S = kset (hb S) n := by rw [kset_N _ _ hn, ← ks_of h]
theorem ks_0 (P : Nat → Bool) (n : Nat) : ksN P n = 0 ↔ bAny P n = false := by
  constructor
  · intro h
    refine bAny_no (fun j hj => ?_)
    have e := hb_ks P j n
    rw [h, decide_eq_true hj, Bool.true_and] at e
    rw [← e]; simp [hb]
  · intro h
    refine hb_ext (fun i => ?_)
    rw [hb_ks]
    by_cases z : i < n
    · cases e : P i with
      | false => simp [hb]
      | true => rw [bAny_of z e] at h; cases h
    · simp [z, hb]
theorem kset_0 (P : Nat → Bool) {n : Nat} (hn : n ≤ 31) : kset P n = 0 ↔ bAny P n = false := by
  rw [kset_N _ _ hn, ← ks_0, ← nI_0]
  exact nI_eq (ks_31 P hn) (by decide)
theorem and_not {R S T : Nat} (hT : ∀ i, hb T i = (hb R i && !hb S i)) : nI R &&& (nI S ^^^ (-1)) = nI T := by
  apply Int32.toBitVec_inj.mp
  apply BitVec.eq_of_getLsbD_eq
  intro i hi
  have := hT i
  rw [hb_tb, hb_tb, hb_tb] at this
  have e1 : (-1 : Int32).toBitVec = BitVec.allOnes 32 := by decide
  have eR : ∀ n, (nI n).toBitVec = BitVec.ofNat 32 n := fun _ => rfl
  rw [Int32.toBitVec_and, Int32.toBitVec_xor, e1, eR, eR, eR, BitVec.getLsbD_and, BitVec.getLsbD_xor, BitVec.getLsbD_ofNat, BitVec.getLsbD_ofNat, BitVec.getLsbD_ofNat, BitVec.getLsbD_allOnes, this]
  simp [hi]
theorem kset_an (P Q : Nat → Bool) {n : Nat} (hn : n ≤ 31) : kset P n &&& (kset Q n ^^^ (-1)) = kset (fun i => P i && !Q i) n := by
  rw [kset_N _ _ hn, kset_N _ _ hn, kset_N _ _ hn]
  refine and_not (fun i => ?_)
  rw [hb_ks, hb_ks, hb_ks]
  cases decide (i < n) <;> simp
def tI (b : Nat) : Int32 := if b = 99 then -1 else nI b
theorem tI_n {b : Nat} (h : b < 99) : tI b = nI b := by rw [tI, if_neg (by omega)]
theorem tI_neg {b : Nat} (h : b ≤ 99) : (tI b < 0 ↔ b = 99) ∧ (tI b = -1 ↔ b = 99) := by
  unfold tI
  by_cases e : b = 99
  · rw [if_pos e]; exact ⟨⟨fun _ => e, fun _ => by decide⟩, ⟨fun _ => e, fun _ => rfl⟩⟩
  · rw [if_neg e]
    exact ⟨⟨fun z => absurd z (nI_pos (by omega)), fun z => absurd z e⟩, ⟨fun z => absurd z (nI_m1 (by omega)), fun z => absurd z e⟩⟩
def lkP (K : Nat → Bool) (R : Nat) : Nat → Bool := fun r => hb R r && !K r
def paC (kd : Nat → Int32) (K : Nat → Bool) (R nr tp : Nat) (rm : Int32) : Bool := !decide (nI tp < nI (fb_ct (fun r => lkP K R r && decide (kd r = nI 3)) nr)) && !decide (rm < nI (fb_ct (lkP K R) nr))
def fwC (kd : Nat → Int32) (K : Nat → Bool) (R nr tp : Nat) (rm : Int32) : Nat :=
  if fb_ct (lkP K R) nr = 0 then 0
  else if tp = 0 then (if paC kd K R nr tp rm = true then fb_ct (lkP K R) nr else if bAny (fun r => decide (kd r = nI 4) && K r) nr = true then fb_ct (lkP K R) nr else 99)
  else if bAny (fun r => decide (kd r = nI 1)) nr = true then 1
  else if paC kd K R nr tp rm = true then fb_ct (lkP K R) nr
  else if bAny (fun r => decide (kd r = nI 4) && K r) nr = true then fb_ct (lkP K R) nr
  else if bAny (fun r => decide (kd r = nI 4)) nr = false then 99
  else if bAny (fun r => decide (kd r = nI 4) && hb R r) nr = true then fb_ct (lkP K R) nr else fb_ct (lkP K R) nr + 1
def vlT (K : Nat → Bool) (R m : Nat) (r : Nat) : Nat := if (K r || hb R r) = true then m else m + 1
def c1F (kd : Nat → Int32) (tp m r : Nat) : Nat := if (decide (kd r = nI 1) && decide (0 < tp) && decide (0 < m)) = true then 1 else 99
def c4F (kd : Nat → Int32) (K : Nat → Bool) (R tp m r : Nat) : Nat := if (decide (kd r = nI 4) && (K r || decide (0 < tp))) = true then vlT K R m r else 99
def mnN (kd : Nat → Int32) (K : Nat → Bool) (R nr tp : Nat) (rm : Int32) : Nat → Nat
  | 0 => if fb_ct (lkP K R) nr = 0 then 0 else if paC kd K R nr tp rm = true then fb_ct (lkP K R) nr else 99
  | i + 1 => min (min (mnN kd K R nr tp rm i) (c1F kd tp (fb_ct (lkP K R) nr) i)) (c4F kd K R tp (fb_ct (lkP K R) nr) i)
theorem mnN_le (kd : Nat → Int32) (K : Nat → Bool) (R nr tp : Nat) (rm : Int32) (h : nr ≤ 8) : ∀ i, mnN kd K R nr tp rm i ≤ 99
  | 0 => by
    have := fb_ct_le (lkP K R) nr
    rw [mnN]; split
    · omega
    · split <;> omega
  | i + 1 => by have := mnN_le kd K R nr tp rm h i; rw [mnN]; omega
theorem mnN_eq {kd : Nat → Int32} {K : Nat → Bool} {R nr tp : Nat} {rm : Int32} {X m : Nat} (hm : fb_ct (lkP K R) nr = m) : ∀ {i : Nat}, X ≤ mnN kd K R nr tp rm 0 → (∀ r, r < i → X ≤ c1F kd tp m r ∧ X ≤ c4F kd K R tp m r) → (X = mnN kd K R nr tp rm 0 ∨ ∃ r, r < i ∧ (c1F kd tp m r = X ∨ c4F kd K R tp m r = X)) → mnN kd K R nr tp rm i = X := by
  subst hm
  intro i h1 h2 h3
  have es : ∀ j, mnN kd K R nr tp rm (j + 1) = min (min (mnN kd K R nr tp rm j) (c1F kd tp (fb_ct (lkP K R) nr) j)) (c4F kd K R tp (fb_ct (lkP K R) nr) j) := fun _ => rfl
  have low : ∀ j, j ≤ i → X ≤ mnN kd K R nr tp rm j := by
    intro j
    induction j with
    | zero => intro _; exact h1
    | succ j ih => intro hj; have := ih (by omega); have := h2 j (by omega); rw [es]; omega
  have up0 : ∀ j, mnN kd K R nr tp rm j ≤ mnN kd K R nr tp rm 0 := by
    intro j
    induction j with
    | zero => exact Nat.le_refl _
    | succ j ih => rw [es]; omega
  have up : ∀ j r, r < j → mnN kd K R nr tp rm j ≤ c1F kd tp (fb_ct (lkP K R) nr) r ∧ mnN kd K R nr tp rm j ≤ c4F kd K R tp (fb_ct (lkP K R) nr) r := by
    intro j
    induction j with
    | zero => intro r hr; omega
    | succ j ih =>
      intro r hr
      rw [es]
      by_cases e : r = j
      · subst e; omega
      · have := ih r (by omega); omega
  have a := low i (Nat.le_refl _)
  rcases h3 with h | ⟨r, hr, h | h⟩
  · have := up0 i; omega
  · have := (up i r hr).1; omega
  · have := (up i r hr).2; omega
theorem bA_f {P : Nat → Bool} {n : Nat} (h : bAny P n = false) {i : Nat} (hi : i < n) : P i = false := by
  cases e : P i with
  | false => rfl
  | true => rw [bAny_of hi e] at h; cases h
theorem fw_same (kd : Nat → Int32) (K : Nat → Bool) (R nr tp : Nat) (rm : Int32) (hr : nr ≤ 8) : mnN kd K R nr tp rm nr = fwC kd K R nr tp rm := by
  have hm : fb_ct (lkP K R) nr ≤ nr := fb_ct_le _ _
  unfold fwC
  have e0 : mnN kd K R nr tp rm 0 = if fb_ct (lkP K R) nr = 0 then 0 else if paC kd K R nr tp rm = true then fb_ct (lkP K R) nr else 99 := rfl
  have v1 : ∀ r, fb_ct (lkP K R) nr ≤ vlT K R (fb_ct (lkP K R) nr) r := fun r => by unfold vlT; split <;> omega
  have c4 : ∀ r, fb_ct (lkP K R) nr ≤ c4F kd K R tp (fb_ct (lkP K R) nr) r := fun r => by
    unfold c4F
    have := v1 r
    split <;> omega
  have c1 : ∀ r, 1 ≤ c1F kd tp (fb_ct (lkP K R) nr) r := fun r => by unfold c1F; split <;> omega
  have c4le : ∀ r, c4F kd K R tp (fb_ct (lkP K R) nr) r ≤ 99 := fun r => by
    unfold c4F vlT
    split
    · split <;> omega
    · omega
  obtain ⟨m, hme⟩ : ∃ m, fb_ct (lkP K R) nr = m := ⟨_, rfl⟩
  rw [hme] at hm e0 v1 c4 c1 c4le ⊢
  by_cases hm0 : m = 0
  · rw [if_pos hm0]
    rw [if_pos hm0] at e0
    exact mnN_eq hme (by omega) (fun r _ => ⟨by omega, by omega⟩) (Or.inl e0.symm)
  rw [if_neg hm0]
  rw [if_neg hm0] at e0
  have hK : ∀ r, r < nr → (decide (kd r = nI 4) && K r) = true → c4F kd K R tp m r = m := fun r hr h => by
    simp only [Bool.and_eq_true, decide_eq_true_eq] at h
    unfold c4F vlT
    simp [h.1, h.2]
  have c1h : ∀ r, c1F kd tp m r = 1 ∨ c1F kd tp m r = 99 := fun r => by unfold c1F; split <;> simp
  by_cases ht : tp = 0
  · rw [if_pos ht]
    have c99 : ∀ r, c1F kd tp m r = 99 := fun r => by unfold c1F; rw [if_neg]; simp [ht]
    cases hp : paC kd K R nr tp rm with
    | true =>
      rw [if_pos rfl]
      rw [hp, if_pos rfl] at e0
      exact mnN_eq hme (by omega) (fun r _ => ⟨by rw [c99]; omega, c4 r⟩) (Or.inl e0.symm)
    | false =>
      rw [if_neg (by decide)]
      rw [hp, if_neg (by decide)] at e0
      cases hk : bAny (fun r => decide (kd r = nI 4) && K r) nr with
      | true =>
        rw [if_pos rfl]
        obtain ⟨r, h1, h2⟩ := bAny_iff.mp hk
        exact mnN_eq hme (by omega) (fun r _ => ⟨by rw [c99]; omega, c4 r⟩) (Or.inr ⟨r, h1, Or.inr (hK r h1 h2)⟩)
      | false =>
        rw [if_neg (by decide)]
        refine mnN_eq hme (by omega) (fun r hr => ⟨by rw [c99]; omega, ?_⟩) (Or.inl e0.symm)
        have := bA_f hk hr
        unfold c4F
        rw [if_neg]
        · omega
        · rw [decide_eq_false (show ¬ 0 < tp by omega), Bool.or_false, this]; decide
  · rw [if_neg ht]
    have ht2 : 0 < tp := by omega
    cases ha : bAny (fun r => decide (kd r = nI 1)) nr with
    | true =>
      rw [if_pos rfl]
      obtain ⟨r, h1, h2⟩ := bAny_iff.mp ha
      refine mnN_eq hme (by rw [e0]; split <;> omega) (fun r _ => ⟨c1 r, by have := c4 r; omega⟩) (Or.inr ⟨r, h1, Or.inl ?_⟩)
      unfold c1F
      rw [if_pos]
      have h2' : decide (kd r = nI 1) = true := h2
      rw [h2', decide_eq_true ht2, decide_eq_true (show 0 < m by omega)]; rfl
    | false =>
      rw [if_neg (by decide)]
      have c99 : ∀ r, r < nr → c1F kd tp m r = 99 := fun r hr => by
        have h2 : decide (kd r = nI 1) = false := bA_f ha hr
        unfold c1F; rw [if_neg]; rw [h2]; simp
      cases hp : paC kd K R nr tp rm with
      | true =>
        rw [if_pos rfl]
        rw [hp, if_pos rfl] at e0
        exact mnN_eq hme (by omega) (fun r hr => ⟨by rw [c99 r hr]; omega, c4 r⟩) (Or.inl e0.symm)
      | false =>
        rw [if_neg (by decide)]
        rw [hp, if_neg (by decide)] at e0
        cases hk : bAny (fun r => decide (kd r = nI 4) && K r) nr with
        | true =>
          rw [if_pos rfl]
          obtain ⟨r, h1, h2⟩ := bAny_iff.mp hk
          exact mnN_eq hme (by omega) (fun r hr => ⟨by rw [c99 r hr]; omega, c4 r⟩) (Or.inr ⟨r, h1, Or.inr (hK r h1 h2)⟩)
        | false =>
          rw [if_neg (by decide)]
          cases hT : bAny (fun r => decide (kd r = nI 4)) nr with
          | false =>
            rw [if_pos rfl]
            refine mnN_eq hme (by omega) (fun r hr => ⟨by rw [c99 r hr]; omega, ?_⟩) (Or.inl e0.symm)
            have h2 : decide (kd r = nI 4) = false := bA_f hT hr
            unfold c4F
            rw [h2, if_neg (by simp)]
            omega
          | true =>
            rw [if_neg (by decide)]
            cases hTR : bAny (fun r => decide (kd r = nI 4) && hb R r) nr with
            | true =>
              rw [if_pos rfl]
              obtain ⟨r, h1, h2⟩ := bAny_iff.mp hTR
              refine mnN_eq hme (by omega) (fun r hr => ⟨by rw [c99 r hr]; omega, c4 r⟩) (Or.inr ⟨r, h1, Or.inr ?_⟩)
              simp only [Bool.and_eq_true, decide_eq_true_eq] at h2
              unfold c4F vlT
              simp [h2.1, h2.2, ht2]
            | false =>
              rw [if_neg (by decide)]
              have cc : ∀ r, r < nr → c4F kd K R tp m r = 99 ∨ c4F kd K R tp m r = m + 1 := fun r hr => by
                unfold c4F vlT
                split
                · rename_i h3
                  simp only [Bool.and_eq_true, decide_eq_true_eq] at h3
                  have h4 := bA_f hk hr
                  have h5 := bA_f hTR hr
                  simp only [h3.1, decide_true, Bool.true_and] at h4 h5
                  right; simp [h4, h5]
                · exact Or.inl rfl
              obtain ⟨r, h1, h2⟩ := bAny_iff.mp hT
              have h2' : decide (kd r = nI 4) = true := h2
              refine mnN_eq hme (by omega) (fun r hr => ⟨by rw [c99 r hr]; omega, by rcases cc r hr with z | z <;> omega⟩) (Or.inr ⟨r, h1, Or.inr ?_⟩)
              have h4 := bA_f hk h1
              have h5 := bA_f hTR h1
              simp only [h2', Bool.true_and] at h4 h5
              unfold c4F vlT
              simp [h2', h4, h5, ht2]

set_option maxRecDepth 20000 in
set_option maxHeartbeats 2000000 in
theorem e_pagesAllow {C : rf_Mem} {n nr l R : Nat} (p1 : C 21 9 = nI n) (p3 : n ≤ 40) (r1 : C 8 5 = nI nr) (l6 : nr ≤ 8) (hl : l < 16) (hR : R < 2 ^ nr) : Ev LayC mX6_pagesAllow 0 (rf_ent 4 [.ref 0, .int (nI l), .int (kset (lkP (fun r => decide (knC C 21 (C 21 10) r l = nI 0)) R) nr)]) [] C (some (.int (b2i (paC (C 11) (fun r => decide (knC C 21 (C 21 10) r l = nI 0)) R nr (fb_ct (vWith (C (21 + 1)) (C (21 + 2)) (C (21 + 3)) (nI l) (nI 0)) n) (iSum (vWith (C (21 + 1)) (C (21 + 2)) (C (21 + 3)) (nI l) (nI 0)) (fun p => nI 9 - C (21 + 3) p) n))))) C := by
  have ek : kset (lkP (fun r => decide (knC C 21 (C 21 10) r l = nI 0)) R) nr &&& kset (fun r => decide (C 11 r = nI 3)) nr = kset (fun r => lkP (fun r => decide (knC C 21 (C 21 10) r l = nI 0)) R r && decide (C 11 r = nI 3)) nr := kset_and _ _ (by omega)
  refine ev_iload_n dX6_pagesAllow_0 rfl ?_
  refine ev_aload_n dX6_pagesAllow_1 rfl ?_
  refine ev_getR dX6_pagesAllow_2 fX6_23 (by first | assumption | rfl) (by rfl) ?_
  refine ev_iconst (v := (nI 3)) dX6_pagesAllow_5 (by decide) ?_
  refine ev_cV1 dX6_pagesAllow_6 ceX1_readersOfKind kX6_277 (rm_le rfl rfl) (Nat.le_of_ble_eq_true rfl) (Nat.le_of_ble_eq_true rfl) (e_readersOfKind r1 l6) (by first | assumption | rfl) ?_
  refine ev_iand dX6_pagesAllow_9 ?_
  rw [ek]
  refine ev_cS1 dX6_pagesAllow_10 ceJ6_bitCount_0f7a4 kX6_256 (rm_le rfl rfl) (Nat.le_of_ble_eq_true rfl) (Nat.le_of_ble_eq_true rfl) (e_bitCount) ?_
  rw [bc_ks _ (by omega)]
  refine ev_istore_k 3 dX6_pagesAllow_13 rfl (by decide) rfl ?_
  refine ev_iload_n dX6_pagesAllow_14 rfl ?_
  refine ev_aload_n dX6_pagesAllow_15 rfl ?_
  refine ev_getR dX6_pagesAllow_16 fX6_31 (by first | assumption | rfl) (by rfl) ?_
  refine ev_iload_n dX6_pagesAllow_19 rfl ?_
  refine ev_cV1 dX6_pagesAllow_20 ceX5_truePages kX6_274 (rm_le rfl rfl) (Nat.le_of_ble_eq_true rfl) (Nat.le_of_ble_eq_true rfl) (e_truePages st_21 p1 p3) (by first | assumption | rfl) ?_
  refine ev_icmp_gt 45 dX6_pagesAllow_23 (by decide) (fun hc23 => ?_) (fun hc23 => ?_)
  · refine ev_iconst (v := (nI 0)) dX6_pagesAllow_45 (by decide) ?_
    exact ev_iretE dX6_pagesAllow_46 rfl rfl (by unfold paC; first | (rw [decide_eq_true hc23]; rfl) | (rw [decide_eq_false hc23, decide_eq_true hc38]; rfl) | (rw [decide_eq_false hc23, decide_eq_false hc38]; rfl)) (rfl)
  · refine ev_iload_n dX6_pagesAllow_26 rfl ?_
    refine ev_cS1 dX6_pagesAllow_27 ceJ6_bitCount_0f7a4 kX6_256 (rm_le rfl rfl) (Nat.le_of_ble_eq_true rfl) (Nat.le_of_ble_eq_true rfl) (e_bitCount) ?_
    rw [bc_ks _ (by omega)]
    refine ev_aload_n dX6_pagesAllow_30 rfl ?_
    refine ev_getR dX6_pagesAllow_31 fX6_31 (by first | assumption | rfl) (by rfl) ?_
    refine ev_iload_n dX6_pagesAllow_34 rfl ?_
    refine ev_cV1 dX6_pagesAllow_35 ceX5_trueReadingsLeft kX6_283 (rm_le rfl rfl) (Nat.le_of_ble_eq_true rfl) (Nat.le_of_ble_eq_true rfl) (e_trueReadingsLeft st_21 p1 p3) (by first | assumption | rfl) ?_
    refine ev_icmp_gt 45 dX6_pagesAllow_38 (by decide) (fun hc38 => ?_) (fun hc38 => ?_)
    · refine ev_iconst (v := (nI 0)) dX6_pagesAllow_45 (by decide) ?_
      exact ev_iretE dX6_pagesAllow_46 rfl rfl (by unfold paC; first | (rw [decide_eq_true hc23]; rfl) | (rw [decide_eq_false hc23, decide_eq_true hc38]; rfl) | (rw [decide_eq_false hc23, decide_eq_false hc38]; rfl)) (rfl)
    · refine ev_iconst (v := (nI 1)) dX6_pagesAllow_41 (by decide) ?_
      refine ev_goto 46 dX6_pagesAllow_42 (by decide) ?_
      exact ev_iretE dX6_pagesAllow_46 rfl rfl (by unfold paC; first | (rw [decide_eq_true hc23]; rfl) | (rw [decide_eq_false hc23, decide_eq_true hc38]; rfl) | (rw [decide_eq_false hc23, decide_eq_false hc38]; rfl)) (rfl)
set_option maxRecDepth 20000 in
set_option maxHeartbeats 2000000 in
theorem e_fewest {C : rf_Mem} {n nr l R : Nat} (p1 : C 21 9 = nI n) (p3 : n ≤ 40) (r1 : C 8 5 = nI nr) (l6 : nr ≤ 8) (hl : l < 16) (hR : R < 2 ^ nr) : Ev LayC mX6_fewestToKnow 0 (rf_ent 7 [.ref 0, .int (nI l), .int (nI R)]) [] C (some (.int (tI (fwC (C 11) (fun r => decide (knC C 21 (C 21 10) r l = nI 0)) R nr (fb_ct (vWith (C (21 + 1)) (C (21 + 2)) (C (21 + 3)) (nI l) (nI 0)) n) (iSum (vWith (C (21 + 1)) (C (21 + 2)) (C (21 + 3)) (nI l) (nI 0)) (fun p => nI 9 - C (21 + 3) p) n))))) C := by
  have ek : nI R &&& (kset (fun r => decide (knC C 21 (C 21 10) r l = nI 0)) nr ^^^ (-1)) = kset (lkP (fun r => decide (knC C 21 (C 21 10) r l = nI 0)) R) nr := by
    rw [kset_hb (by omega) hR]; exact kset_an _ _ (by omega)
  have em : bcI (kset (lkP (fun r => decide (knC C 21 (C 21 10) r l = nI 0)) R) nr) = nI (fb_ct (lkP (fun r => decide (knC C 21 (C 21 10) r l = nI 0)) R) nr) := bc_ks _ (by omega)
  have e1 : kset (fun r => decide (C 11 r = nI 4)) nr &&& kset (fun r => decide (knC C 21 (C 21 10) r l = nI 0)) nr = kset (fun r => decide (C 11 r = nI 4) && (fun r => decide (knC C 21 (C 21 10) r l = nI 0)) r) nr := kset_and _ _ (by omega)
  have e2 : kset (fun r => decide (C 11 r = nI 4)) nr &&& nI R = kset (fun r => decide (C 11 r = nI 4) && hb R r) nr := by
    rw [kset_hb (by omega) hR]; exact kset_and _ _ (by omega)
  have hm8 : fb_ct (lkP (fun r => decide (knC C 21 (C 21 10) r l = nI 0)) R) nr ≤ nr := fb_ct_le _ _
  have ht8 : (fb_ct (vWith (C (21 + 1)) (C (21 + 2)) (C (21 + 3)) (nI l) (nI 0)) n) ≤ n := fb_ct_le _ _
  unfold fwC
  obtain ⟨m, hme⟩ : ∃ m, fb_ct (lkP (fun r => decide (knC C 21 (C 21 10) r l = nI 0)) R) nr = m := ⟨_, rfl⟩
  obtain ⟨t, hte⟩ : ∃ t, (fb_ct (vWith (C (21 + 1)) (C (21 + 2)) (C (21 + 3)) (nI l) (nI 0)) n) = t := ⟨_, rfl⟩
  have hpa := e_pagesAllow p1 p3 r1 l6 hl hR
  have htp := e_truePages st_21 p1 p3 (l := nI l)
  rw [hte] at hpa htp ht8 ⊢
  rw [hme] at hm8 em ⊢
  obtain ⟨pa, hpae⟩ : ∃ b, paC (C 11) (fun r => decide (knC C 21 (C 21 10) r l = nI 0)) R nr t (iSum (vWith (C (21 + 1)) (C (21 + 2)) (C (21 + 3)) (nI l) (nI 0)) (fun p => nI 9 - C (21 + 3) p) n) = b := ⟨_, rfl⟩
  obtain ⟨al, hal⟩ : ∃ b, bAny (fun r => decide (C 11 r = nI 1)) nr = b := ⟨_, rfl⟩
  obtain ⟨tk, htk⟩ : ∃ b, bAny (fun r => decide (C 11 r = nI 4) && (fun r => decide (knC C 21 (C 21 10) r l = nI 0)) r) nr = b := ⟨_, rfl⟩
  obtain ⟨tt, htt⟩ : ∃ b, bAny (fun r => decide (C 11 r = nI 4)) nr = b := ⟨_, rfl⟩
  obtain ⟨tr, htr⟩ : ∃ b, bAny (fun r => decide (C 11 r = nI 4) && hb R r) nr = b := ⟨_, rfl⟩
  rw [hpae] at hpa ⊢
  rw [hal, htk, htt, htr]
  refine ev_iload_n dX6_fewestToKnow_0 rfl ?_
  refine ev_aload_n dX6_fewestToKnow_1 rfl ?_
  refine ev_getR dX6_fewestToKnow_2 fX6_31 (by first | assumption | rfl) (by rfl) ?_
  refine ev_iload_n dX6_fewestToKnow_5 rfl ?_
  refine ev_cV1 dX6_fewestToKnow_6 ceX5_trueKnowers kX6_271 (rm_le rfl rfl) (Nat.le_of_ble_eq_true rfl) (Nat.le_of_ble_eq_true rfl) (e_trueKnowers st_21 r1 l6 hl) (by first | assumption | rfl) ?_
  refine ev_iconst (v := (-1)) dX6_fewestToKnow_9 (by decide) ?_
  refine ev_ixor dX6_fewestToKnow_10 ?_
  refine ev_iand dX6_fewestToKnow_11 ?_
  rw [ek]
  refine ev_istore_k 3 dX6_fewestToKnow_12 rfl (by decide) rfl ?_
  refine ev_iload_n dX6_fewestToKnow_13 rfl ?_
  refine ev_cS1 dX6_fewestToKnow_14 ceJ6_bitCount_0f7a4 kX6_256 (rm_le rfl rfl) (Nat.le_of_ble_eq_true rfl) (Nat.le_of_ble_eq_true rfl) (e_bitCount) ?_
  rw [em]
  refine ev_istore dX6_fewestToKnow_17 (by decide) rfl ?_
  refine ev_iload dX6_fewestToKnow_19 rfl ?_
  refine ev_if_ne 26 dX6_fewestToKnow_21 (by decide) (fun hc21 => ?_) (fun hc21 => ?_)
  · have hm0 : ¬ m = 0 := fun z => hc21 (by rw [z]; rfl)
    refine ev_aload_n dX6_fewestToKnow_26 rfl ?_
    refine ev_getR dX6_fewestToKnow_27 fX6_31 (by first | assumption | rfl) (by rfl) ?_
    refine ev_iload_n dX6_fewestToKnow_30 rfl ?_
    refine ev_cV1 dX6_fewestToKnow_31 ceX5_truePages kX6_274 (rm_le rfl rfl) (Nat.le_of_ble_eq_true rfl) (Nat.le_of_ble_eq_true rfl) (htp) (by first | assumption | rfl) ?_
    refine ev_if_le 41 dX6_fewestToKnow_34 (by decide) (fun hc34 => ?_) (fun hc34 => ?_)
    · have ht0 : t = 0 := Nat.le_zero.mp ((nI_leI (by omega) (by decide)).mp hc34)
      refine ev_iconst (v := (nI 0)) dX6_fewestToKnow_41 (by decide) ?_
      refine ev_istore dX6_fewestToKnow_42 (by decide) rfl ?_
      refine ev_iload dX6_fewestToKnow_44 rfl ?_
      refine ev_if_eq 62 dX6_fewestToKnow_46 (by decide) (fun _ => ?_) (fun hc46 => False.elim (absurd hc46 (by decide)))
      refine ev_aload_n dX6_fewestToKnow_62 rfl ?_
      refine ev_iload_n dX6_fewestToKnow_63 rfl ?_
      refine ev_iload_n dX6_fewestToKnow_64 rfl ?_
      refine ev_cV2 dX6_fewestToKnow_65 ceX6_pagesAllow kX6_280 (rm_le rfl rfl) (Nat.le_of_ble_eq_true rfl) (Nat.le_of_ble_eq_true rfl) (hpa) (by first | assumption | rfl) ?_
      refine ev_if_eq 74 dX6_fewestToKnow_68 (by decide) (fun hc68 => ?_) (fun hc68 => ?_)
      · rw [b2i_0] at hc68
        refine ev_aload_n dX6_fewestToKnow_74 rfl ?_
        refine ev_getR dX6_fewestToKnow_75 fX6_23 (by first | assumption | rfl) (by rfl) ?_
        refine ev_iconst (v := (nI 4)) dX6_fewestToKnow_78 (by decide) ?_
        refine ev_cV1 dX6_fewestToKnow_79 ceX1_readersOfKind kX6_277 (rm_le rfl rfl) (Nat.le_of_ble_eq_true rfl) (Nat.le_of_ble_eq_true rfl) (e_readersOfKind r1 l6) (by first | assumption | rfl) ?_
        refine ev_istore dX6_fewestToKnow_82 (by decide) rfl ?_
        refine ev_iload dX6_fewestToKnow_84 rfl ?_
        refine ev_aload_n dX6_fewestToKnow_86 rfl ?_
        refine ev_getR dX6_fewestToKnow_87 fX6_31 (by first | assumption | rfl) (by rfl) ?_
        refine ev_iload_n dX6_fewestToKnow_90 rfl ?_
        refine ev_cV1 dX6_fewestToKnow_91 ceX5_trueKnowers kX6_271 (rm_le rfl rfl) (Nat.le_of_ble_eq_true rfl) (Nat.le_of_ble_eq_true rfl) (e_trueKnowers st_21 r1 l6 hl) (by first | assumption | rfl) ?_
        refine ev_iand dX6_fewestToKnow_94 ?_
        rw [e1]
        refine ev_if_eq 101 dX6_fewestToKnow_95 (by decide) (fun hc95 => ?_) (fun hc95 => ?_)
        · rw [kset_0 _ (by omega), htk] at hc95
          refine ev_iload dX6_fewestToKnow_101 rfl ?_
          refine ev_if_eq 111 dX6_fewestToKnow_103 (by decide) (fun _ => ?_) (fun hc103 => False.elim (absurd hc103 (by decide)))
          refine ev_iconst (v := (-1)) dX6_fewestToKnow_111 (by decide) ?_
          exact ev_iretE dX6_fewestToKnow_112 rfl rfl (by clear ek em e1 e2 hpa htp hte hme hpae hal htk htt htr; first | (simp [tI, nI_add, *]; done) | (simp [tI, nI_add, *]; omega)) (rfl)
        · rw [kset_0 _ (by omega), Bool.not_eq_false, htk] at hc95
          refine ev_iload dX6_fewestToKnow_98 rfl ?_
          exact ev_iretE dX6_fewestToKnow_100 rfl rfl (by clear ek em e1 e2 hpa htp hte hme hpae hal htk htt htr; first | (simp [tI, nI_add, *]; done) | (simp [tI, nI_add, *]; omega)) (rfl)
      · rw [b2i_n0] at hc68
        refine ev_iload dX6_fewestToKnow_71 rfl ?_
        exact ev_iretE dX6_fewestToKnow_73 rfl rfl (by clear ek em e1 e2 hpa htp hte hme hpae hal htk htt htr; first | (simp [tI, nI_add, *]; done) | (simp [tI, nI_add, *]; omega)) (rfl)
    · have ht0 : ¬ t = 0 := fun z => hc34 (by rw [z]; decide)
      refine ev_iconst (v := (nI 1)) dX6_fewestToKnow_37 (by decide) ?_
      refine ev_goto 42 dX6_fewestToKnow_38 (by decide) ?_
      refine ev_istore dX6_fewestToKnow_42 (by decide) rfl ?_
      refine ev_iload dX6_fewestToKnow_44 rfl ?_
      refine ev_if_eq 62 dX6_fewestToKnow_46 (by decide) (fun hc46 => False.elim (absurd hc46 (by decide))) (fun _ => ?_)
      refine ev_aload_n dX6_fewestToKnow_49 rfl ?_
      refine ev_getR dX6_fewestToKnow_50 fX6_23 (by first | assumption | rfl) (by rfl) ?_
      refine ev_iconst (v := (nI 1)) dX6_fewestToKnow_53 (by decide) ?_
      refine ev_cV1 dX6_fewestToKnow_54 ceX1_readersOfKind kX6_277 (rm_le rfl rfl) (Nat.le_of_ble_eq_true rfl) (Nat.le_of_ble_eq_true rfl) (e_readersOfKind r1 l6) (by first | assumption | rfl) ?_
      refine ev_if_eq 62 dX6_fewestToKnow_57 (by decide) (fun hc57 => ?_) (fun hc57 => ?_)
      · rw [kset_0 _ (by omega), hal] at hc57
        refine ev_aload_n dX6_fewestToKnow_62 rfl ?_
        refine ev_iload_n dX6_fewestToKnow_63 rfl ?_
        refine ev_iload_n dX6_fewestToKnow_64 rfl ?_
        refine ev_cV2 dX6_fewestToKnow_65 ceX6_pagesAllow kX6_280 (rm_le rfl rfl) (Nat.le_of_ble_eq_true rfl) (Nat.le_of_ble_eq_true rfl) (hpa) (by first | assumption | rfl) ?_
        refine ev_if_eq 74 dX6_fewestToKnow_68 (by decide) (fun hc68 => ?_) (fun hc68 => ?_)
        · rw [b2i_0] at hc68
          refine ev_aload_n dX6_fewestToKnow_74 rfl ?_
          refine ev_getR dX6_fewestToKnow_75 fX6_23 (by first | assumption | rfl) (by rfl) ?_
          refine ev_iconst (v := (nI 4)) dX6_fewestToKnow_78 (by decide) ?_
          refine ev_cV1 dX6_fewestToKnow_79 ceX1_readersOfKind kX6_277 (rm_le rfl rfl) (Nat.le_of_ble_eq_true rfl) (Nat.le_of_ble_eq_true rfl) (e_readersOfKind r1 l6) (by first | assumption | rfl) ?_
          refine ev_istore dX6_fewestToKnow_82 (by decide) rfl ?_
          refine ev_iload dX6_fewestToKnow_84 rfl ?_
          refine ev_aload_n dX6_fewestToKnow_86 rfl ?_
          refine ev_getR dX6_fewestToKnow_87 fX6_31 (by first | assumption | rfl) (by rfl) ?_
          refine ev_iload_n dX6_fewestToKnow_90 rfl ?_
          refine ev_cV1 dX6_fewestToKnow_91 ceX5_trueKnowers kX6_271 (rm_le rfl rfl) (Nat.le_of_ble_eq_true rfl) (Nat.le_of_ble_eq_true rfl) (e_trueKnowers st_21 r1 l6 hl) (by first | assumption | rfl) ?_
          refine ev_iand dX6_fewestToKnow_94 ?_
          rw [e1]
          refine ev_if_eq 101 dX6_fewestToKnow_95 (by decide) (fun hc95 => ?_) (fun hc95 => ?_)
          · rw [kset_0 _ (by omega), htk] at hc95
            refine ev_iload dX6_fewestToKnow_101 rfl ?_
            refine ev_if_eq 111 dX6_fewestToKnow_103 (by decide) (fun hc103 => False.elim (absurd hc103 (by decide))) (fun _ => ?_)
            refine ev_iload dX6_fewestToKnow_106 rfl ?_
            refine ev_if_ne 113 dX6_fewestToKnow_108 (by decide) (fun hc108 => ?_) (fun hc108 => ?_)
            · rw [kset_0 _ (by omega), Bool.not_eq_false, htt] at hc108
              refine ev_iload dX6_fewestToKnow_113 rfl ?_
              refine ev_iload_n dX6_fewestToKnow_115 rfl ?_
              refine ev_iand dX6_fewestToKnow_116 ?_
              rw [e2]
              refine ev_if_eq 125 dX6_fewestToKnow_117 (by decide) (fun hc117 => ?_) (fun hc117 => ?_)
              · rw [kset_0 _ (by omega), htr] at hc117
                refine ev_iload dX6_fewestToKnow_125 rfl ?_
                refine ev_iconst (v := (nI 1)) dX6_fewestToKnow_127 (by decide) ?_
                refine ev_iadd dX6_fewestToKnow_128 ?_
                exact ev_iretE dX6_fewestToKnow_129 rfl rfl (by clear ek em e1 e2 hpa htp hte hme hpae hal htk htt htr; first | (simp [tI, nI_add, *]; done) | (simp [tI, nI_add, *]; omega)) (rfl)
              · rw [kset_0 _ (by omega), Bool.not_eq_false, htr] at hc117
                refine ev_iload dX6_fewestToKnow_120 rfl ?_
                refine ev_goto 129 dX6_fewestToKnow_122 (by decide) ?_
                exact ev_iretE dX6_fewestToKnow_129 rfl rfl (by clear ek em e1 e2 hpa htp hte hme hpae hal htk htt htr; first | (simp [tI, nI_add, *]; done) | (simp [tI, nI_add, *]; omega)) (rfl)
            · rw [kset_0 _ (by omega), htt] at hc108
              refine ev_iconst (v := (-1)) dX6_fewestToKnow_111 (by decide) ?_
              exact ev_iretE dX6_fewestToKnow_112 rfl rfl (by clear ek em e1 e2 hpa htp hte hme hpae hal htk htt htr; first | (simp [tI, nI_add, *]; done) | (simp [tI, nI_add, *]; omega)) (rfl)
          · rw [kset_0 _ (by omega), Bool.not_eq_false, htk] at hc95
            refine ev_iload dX6_fewestToKnow_98 rfl ?_
            exact ev_iretE dX6_fewestToKnow_100 rfl rfl (by clear ek em e1 e2 hpa htp hte hme hpae hal htk htt htr; first | (simp [tI, nI_add, *]; done) | (simp [tI, nI_add, *]; omega)) (rfl)
        · rw [b2i_n0] at hc68
          refine ev_iload dX6_fewestToKnow_71 rfl ?_
          exact ev_iretE dX6_fewestToKnow_73 rfl rfl (by clear ek em e1 e2 hpa htp hte hme hpae hal htk htt htr; first | (simp [tI, nI_add, *]; done) | (simp [tI, nI_add, *]; omega)) (rfl)
      · rw [kset_0 _ (by omega), Bool.not_eq_false, hal] at hc57
        refine ev_iconst (v := (nI 1)) dX6_fewestToKnow_60 (by decide) ?_
        exact ev_iretE dX6_fewestToKnow_61 rfl rfl (by clear ek em e1 e2 hpa htp hte hme hpae hal htk htt htr; first | (simp [tI, nI_add, *]; done) | (simp [tI, nI_add, *]; omega)) (rfl)
  · have hm0 : m = 0 := (nI_eq (by omega) (by decide)).mp hc21
    refine ev_iconst (v := (nI 0)) dX6_fewestToKnow_24 (by decide) ?_
    exact ev_iretE dX6_fewestToKnow_25 rfl rfl (by clear ek em e1 e2 hpa htp hte hme hpae hal htk htt htr; first | (simp [tI, nI_add, *]; done) | (simp [tI, nI_add, *]; omega)) (rfl)
