/-! the text's parser: the class's script -/
def scn (P : Nat → Bool) : Nat → Nat → Nat
  | 0, a => a
  | n + 1, a => if P a = true then scn P n (a + 1) else a
theorem scn_ge (P : Nat → Bool) : ∀ n a, a ≤ scn P n a
  | 0, a => Nat.le_refl a
  | n + 1, a => by
    rw [scn]
    split
    · have := scn_ge P n (a + 1); omega
    · omega
theorem scn_le (P : Nat → Bool) : ∀ n a, scn P n a ≤ a + n
  | 0, a => Nat.le_refl a
  | n + 1, a => by
    rw [scn]
    split
    · have := scn_le P n (a + 1); omega
    · omega
theorem scn_tl {P : Nat → Bool} {tl a : Nat} (h : a ≤ tl) : a ≤ scn P (tl - a) a ∧ scn P (tl - a) a ≤ tl := by
  have h1 := scn_ge P (tl - a) a
  have h2 := scn_le P (tl - a) a
  omega
theorem scn_all (P : Nat → Bool) : ∀ n a i, a ≤ i → i < scn P n a → P i = true
  | 0, a, i, h1, h2 => by rw [scn] at h2; omega
  | n + 1, a, i, h1, h2 => by
    rw [scn] at h2
    by_cases hp : P a = true
    · rw [if_pos hp] at h2
      by_cases e : i = a
      · rw [e]; exact hp
      · exact scn_all P n (a + 1) i (by omega) h2
    · rw [if_neg hp] at h2; omega
theorem scn_stop (P : Nat → Bool) : ∀ n a, scn P n a < a + n → P (scn P n a) = false
  | 0, a, h => by rw [scn] at h; omega
  | n + 1, a, h => by
    rw [scn] at h ⊢
    by_cases hp : P a = true
    · rw [if_pos hp] at h ⊢
      exact scn_stop P n (a + 1) (by omega)
    · rw [if_neg hp]
      cases e : P a with
      | false => rfl
      | true => exact absurd e hp
theorem scn_yes {P : Nat → Bool} {n a : Nat} (h : P a = true) : scn P (n + 1) a = scn P n (a + 1) := by rw [scn, if_pos h]
theorem scn_no {P : Nat → Bool} {n a : Nat} (h : P a = false) : scn P n a = a := by
  cases n with
  | zero => rfl
  | succ n => rw [scn, if_neg (by rw [h]; decide)]
def bkB (f : Nat → Int32) (i : Nat) : Bool := decide (f i = nI 32)
def ltB (f : Nat → Int32) (i : Nat) : Bool := !decide (f i < nI 97) && !decide (nI 122 < f i)
def dgB (f : Nat → Int32) (i : Nat) : Bool := !decide (f i < nI 48) && !decide (nI 57 < f i)
def TB (tl : Nat) (f : Nat → Int32) (C : rf_Mem) : Prop := C 1 1 = nI tl ∧ tl ≤ 400 ∧ ∀ i, i < tl → C 2 i = f i
def TF (tl : Nat) (f : Nat → Int32) : Prop := ∀ i, i < tl → ∃ b, b < 256 ∧ f i = nI b
/-- a fault is kept, if it is the first -/
def fl2 (x : Nat × Int32) (bad wh : Nat) : Nat × Int32 := if x.1 = 0 ∧ bad ≠ 0 then (bad, nI wh) else x
theorem fl2_0 (x : Nat × Int32) (wh : Nat) : fl2 x 0 wh = x := if_neg (fun z => z.2 rfl)
theorem fl2_x {x : Nat × Int32} (h : x.1 ≠ 0) (bad wh : Nat) : fl2 x bad wh = x := if_neg (fun z => h z.1)
theorem fl2_n {x : Nat × Int32} (h : x.1 = 0) {bad : Nat} (hb : bad ≠ 0) (wh : Nat) : fl2 x bad wh = (bad, nI wh) := if_pos ⟨h, hb⟩
theorem fl2_lt {x : Nat × Int32} {bad wh : Nat} (h : x.1 ≤ 3) (hb : bad ≤ 3) : (fl2 x bad wh).1 ≤ 3 := by
  unfold fl2
  split
  · exact hb
  · exact h
def scM (C : rf_Mem) (a : Nat) (x : Nat × Int32) : rf_Mem := rf_row C 1 (fun j => if j = 2 then nI x.1 else if j = 3 then x.2 else if j = 4 then nI a else C 1 j)
theorem sc_o {C : rf_Mem} {a : Nat} {x : Nat × Int32} {c : Nat} (h : c ≠ 1) : scM C a x c = C c := gr_q C _ h
theorem sc_1 {C : rf_Mem} {a : Nat} {x : Nat × Int32} : scM C a x 1 1 = C 1 1 := by simp [scM, rf_row]
theorem sc_2 {C : rf_Mem} {a : Nat} {x : Nat × Int32} : scM C a x 1 2 = nI x.1 := by simp [scM, rf_row]
theorem sc_3 {C : rf_Mem} {a : Nat} {x : Nat × Int32} : scM C a x 1 3 = x.2 := by simp [scM, rf_row]
theorem sc_4 {C : rf_Mem} {a : Nat} {x : Nat × Int32} : scM C a x 1 4 = nI a := by simp [scM, rf_row]
theorem rf_ext {M N : rf_Mem} (h : ∀ a j, M a j = N a j) : M = N := funext (fun a => funext (fun j => h a j))
theorem sc_p4 {C : rf_Mem} {a b : Nat} {x : Nat × Int32} : rf_set (scM C a x) 1 4 (nI b) = scM C b x := rf_ext (fun c j => by
  by_cases hc : c = 1
  · subst hc
    by_cases hj : j = 4
    · subst hj; simp [scM, rf_row, rf_set, upd]
    · simp [scM, rf_row, rf_set, upd, hj]
  · rw [gs_q _ _ _ hc, sc_o hc, sc_o hc])
theorem sc_p2 {C : rf_Mem} {a b : Nat} {x : Nat × Int32} : rf_set (scM C a x) 1 2 (nI b) = scM C a (b, x.2) := rf_ext (fun c j => by
  by_cases hc : c = 1
  · subst hc
    by_cases hj : j = 2
    · subst hj; simp [scM, rf_row, rf_set, upd]
    · simp [scM, rf_row, rf_set, upd, hj]
  · rw [gs_q _ _ _ hc, sc_o hc, sc_o hc])
theorem sc_p3 {C : rf_Mem} {a : Nat} {v : Int32} {x : Nat × Int32} : rf_set (scM C a x) 1 3 v = scM C a (x.1, v) := rf_ext (fun c j => by
  by_cases hc : c = 1
  · subst hc
    by_cases hj : j = 3
    · subst hj; simp [scM, rf_row, rf_set, upd]
    · simp [scM, rf_row, rf_set, upd, hj]
  · rw [gs_q _ _ _ hc, sc_o hc, sc_o hc])
def wdB (f : Nat → Int32) (s ln j : Nat) : Bool := decide (ln = rf_len.getD j 0 ∧ ∀ k, k < rf_len.getD j 0 → f (s + k) = chT j k)
set_option maxRecDepth 20000 in
set_option maxHeartbeats 2000000 in
theorem sk_all {f : Nat → Int32} {tl : Nat} {C : rf_Mem} (hB : TB tl f C) {x : Nat × Int32} : ∀ (n a : Nat), tl - a = n → a ≤ tl → Ev LayC mX4_skipBlanks 0 [some (.ref 1)] [] (scM C a x) none (scM C (scn (bkB f) n a) x) := by
  have h400 := hB.2.1
  intro n
  induction n with
  | zero =>
    intro a hn ha
    have e : a = tl := by omega
    subst e
    refine ev_aload_n dX4_skipBlanks_0 rfl ?_
    refine ev_getI dX4_skipBlanks_1 fX4_25 (by first | assumption | rfl) (by rfl) ?_
    rw [sc_4]
    refine ev_aload_n dX4_skipBlanks_4 rfl ?_
    refine ev_getI dX4_skipBlanks_5 fX4_15 (by first | assumption | rfl) (by rfl) ?_
    rw [sc_1, hB.1]
    refine ev_icmp_ge 38 dX4_skipBlanks_8 (by decide) (fun hc8 => ?_) (fun hc8 => False.elim (lp_x rfl (by omega) hc8))
    exact ev_vretE dX4_skipBlanks_38 rfl rfl (rfl)
  | succ n ih =>
    intro a hn ha
    have hi := ih (a + 1) (by omega) (by omega)
    by_cases hp : bkB f a = true
    · rw [scn_yes hp]
      have hq : f a = nI 32 := of_decide_eq_true hp
      refine ev_aload_n dX4_skipBlanks_0 rfl ?_
      refine ev_getI dX4_skipBlanks_1 fX4_25 (by first | assumption | rfl) (by rfl) ?_
      rw [sc_4]
      refine ev_aload_n dX4_skipBlanks_4 rfl ?_
      refine ev_getI dX4_skipBlanks_5 fX4_15 (by first | assumption | rfl) (by rfl) ?_
      rw [sc_1, hB.1]
      refine ev_icmp_ge 38 dX4_skipBlanks_8 (by decide) (fun hc8 => False.elim (nI_ge (show a < tl by omega) (by omega) hc8)) (fun hc8 => ?_)
      refine ev_aload_n dX4_skipBlanks_11 rfl ?_
      refine ev_getR dX4_skipBlanks_12 fX4_9 (by first | assumption | rfl) (by rfl) ?_
      refine ev_aload_n dX4_skipBlanks_15 rfl ?_
      refine ev_getI dX4_skipBlanks_16 fX4_25 (by first | assumption | rfl) (by rfl) ?_
      rw [sc_4]
      refine ev_ialdE _ dX4_skipBlanks_19 (rfl) (by first | assumption | rfl) ⟨by omega, by decide⟩ ?_
      rw [sc_o (show 2 ≠ 1 by decide), hB.2.2 _ (by omega)]
      refine ev_bipush (v := (nI 32)) dX4_skipBlanks_20 (by decide) ?_
      refine ev_icmp_ne 38 dX4_skipBlanks_22 (by decide) (fun hc22 => False.elim (hc22 hq)) (fun hc22 => ?_)
      refine ev_aload_n dX4_skipBlanks_25 rfl ?_
      refine ev_dup dX4_skipBlanks_26 rfl ?_
      refine ev_getI dX4_skipBlanks_27 fX4_25 (by first | assumption | rfl) (by rfl) ?_
      rw [sc_4]
      refine ev_iconst (v := (nI 1)) dX4_skipBlanks_30 (by decide) ?_
      refine ev_iadd dX4_skipBlanks_31 ?_
      rw [nI_add]
      refine ev_put dX4_skipBlanks_32 pX4_25 (by first | assumption | rfl) (by rfl) (rfl) (rfl) ?_
      rw [sc_p4]
      refine ev_goto 0 dX4_skipBlanks_35 (by decide) ?_
      exact hi
    · have hp2 : bkB f a = false := by simpa using hp
      rw [scn_no hp2]
      have hq : ¬ f a = nI 32 := of_decide_eq_false hp2
      refine ev_aload_n dX4_skipBlanks_0 rfl ?_
      refine ev_getI dX4_skipBlanks_1 fX4_25 (by first | assumption | rfl) (by rfl) ?_
      rw [sc_4]
      refine ev_aload_n dX4_skipBlanks_4 rfl ?_
      refine ev_getI dX4_skipBlanks_5 fX4_15 (by first | assumption | rfl) (by rfl) ?_
      rw [sc_1, hB.1]
      refine ev_icmp_ge 38 dX4_skipBlanks_8 (by decide) (fun hc8 => False.elim (nI_ge (show a < tl by omega) (by omega) hc8)) (fun hc8 => ?_)
      refine ev_aload_n dX4_skipBlanks_11 rfl ?_
      refine ev_getR dX4_skipBlanks_12 fX4_9 (by first | assumption | rfl) (by rfl) ?_
      refine ev_aload_n dX4_skipBlanks_15 rfl ?_
      refine ev_getI dX4_skipBlanks_16 fX4_25 (by first | assumption | rfl) (by rfl) ?_
      rw [sc_4]
      refine ev_ialdE _ dX4_skipBlanks_19 (rfl) (by first | assumption | rfl) ⟨by omega, by decide⟩ ?_
      rw [sc_o (show 2 ≠ 1 by decide), hB.2.2 _ (by omega)]
      refine ev_bipush (v := (nI 32)) dX4_skipBlanks_20 (by decide) ?_
      refine ev_icmp_ne 38 dX4_skipBlanks_22 (by decide) (fun hc22 => ?_) (fun hc22 => False.elim (hq hc22))
      exact ev_vretE dX4_skipBlanks_38 rfl rfl (rfl)
theorem e_skip {f : Nat → Int32} {tl : Nat} {C : rf_Mem} (hB : TB tl f C) {x : Nat × Int32} {a : Nat} (ha : a ≤ tl) : Ev LayC mX4_skipBlanks 0 (rf_ent 1 [.ref 1]) [] (scM C a x) none (scM C (scn (bkB f) (tl - a) a) x) := sk_all hB (tl - a) a rfl ha
set_option maxRecDepth 20000 in
set_option maxHeartbeats 2000000 in
theorem we_all {f : Nat → Int32} {tl : Nat} {C : rf_Mem} (hB : TB tl f C) {x : Nat × Int32} {a : Nat} : ∀ (n e : Nat), tl - e = n → e ≤ tl → Ev LayC mX4_wordEnd 5 [some (.ref 1), some (.int (nI (e)))] [] (scM C a x) (some (.int (nI (scn (ltB f) n e)))) (scM C a x) := by
  have h400 := hB.2.1
  intro n
  induction n with
  | zero =>
    intro e hn he
    have e0 : e = tl := by omega
    subst e0
    refine ev_iload_n dX4_wordEnd_5 rfl ?_
    refine ev_aload_n dX4_wordEnd_6 rfl ?_
    refine ev_getI dX4_wordEnd_7 fX4_15 (by first | assumption | rfl) (by rfl) ?_
    rw [sc_1, hB.1]
    refine ev_icmp_ge 41 dX4_wordEnd_10 (by decide) (fun hc10 => ?_) (fun hc10 => False.elim (lp_x rfl (by omega) hc10))
    refine ev_iload_n dX4_wordEnd_41 rfl ?_
    exact ev_iretE dX4_wordEnd_42 rfl rfl (by first | rfl | simp_all) (rfl)
  | succ n ih =>
    intro e hn he
    have hi := ih (e + 1) (by omega) (by omega)
    by_cases h1 : f e < nI 97
    · rw [scn_no (show ltB f e = false by simp [ltB, h1])]
      refine ev_iload_n dX4_wordEnd_5 rfl ?_
      refine ev_aload_n dX4_wordEnd_6 rfl ?_
      refine ev_getI dX4_wordEnd_7 fX4_15 (by first | assumption | rfl) (by rfl) ?_
      rw [sc_1, hB.1]
      refine ev_icmp_ge 41 dX4_wordEnd_10 (by decide) (fun hc10 => False.elim (nI_ge (show e < tl by omega) (by omega) hc10)) (fun hc10 => ?_)
      refine ev_aload_n dX4_wordEnd_13 rfl ?_
      refine ev_getR dX4_wordEnd_14 fX4_9 (by first | assumption | rfl) (by rfl) ?_
      refine ev_iload_n dX4_wordEnd_17 rfl ?_
      refine ev_ialdE _ dX4_wordEnd_18 (rfl) (by first | assumption | rfl) ⟨by omega, by decide⟩ ?_
      rw [sc_o (show 2 ≠ 1 by decide), hB.2.2 _ (by omega)]
      refine ev_bipush (v := (nI 97)) dX4_wordEnd_19 (by decide) ?_
      refine ev_icmp_lt 41 dX4_wordEnd_21 (by decide) (fun hc21 => ?_) (fun hc21 => False.elim (hc21 h1))
      refine ev_iload_n dX4_wordEnd_41 rfl ?_
      exact ev_iretE dX4_wordEnd_42 rfl rfl (by first | rfl | simp_all) (rfl)
    · by_cases h2 : nI 122 < f e
      · rw [scn_no (show ltB f e = false by simp [ltB, h2])]
        refine ev_iload_n dX4_wordEnd_5 rfl ?_
        refine ev_aload_n dX4_wordEnd_6 rfl ?_
        refine ev_getI dX4_wordEnd_7 fX4_15 (by first | assumption | rfl) (by rfl) ?_
        rw [sc_1, hB.1]
        refine ev_icmp_ge 41 dX4_wordEnd_10 (by decide) (fun hc10 => False.elim (nI_ge (show e < tl by omega) (by omega) hc10)) (fun hc10 => ?_)
        refine ev_aload_n dX4_wordEnd_13 rfl ?_
        refine ev_getR dX4_wordEnd_14 fX4_9 (by first | assumption | rfl) (by rfl) ?_
        refine ev_iload_n dX4_wordEnd_17 rfl ?_
        refine ev_ialdE _ dX4_wordEnd_18 (rfl) (by first | assumption | rfl) ⟨by omega, by decide⟩ ?_
        rw [sc_o (show 2 ≠ 1 by decide), hB.2.2 _ (by omega)]
        refine ev_bipush (v := (nI 97)) dX4_wordEnd_19 (by decide) ?_
        refine ev_icmp_lt 41 dX4_wordEnd_21 (by decide) (fun hc21 => False.elim (h1 hc21)) (fun hc21 => ?_)
        refine ev_aload_n dX4_wordEnd_24 rfl ?_
        refine ev_getR dX4_wordEnd_25 fX4_9 (by first | assumption | rfl) (by rfl) ?_
        refine ev_iload_n dX4_wordEnd_28 rfl ?_
        refine ev_ialdE _ dX4_wordEnd_29 (rfl) (by first | assumption | rfl) ⟨by omega, by decide⟩ ?_
        rw [sc_o (show 2 ≠ 1 by decide), hB.2.2 _ (by omega)]
        refine ev_bipush (v := (nI 122)) dX4_wordEnd_30 (by decide) ?_
        refine ev_icmp_gt 41 dX4_wordEnd_32 (by decide) (fun hc32 => ?_) (fun hc32 => False.elim (hc32 h2))
        refine ev_iload_n dX4_wordEnd_41 rfl ?_
        exact ev_iretE dX4_wordEnd_42 rfl rfl (by first | rfl | simp_all) (rfl)
      · rw [scn_yes (show ltB f e = true by simp [ltB, h1, h2])]
        refine ev_iload_n dX4_wordEnd_5 rfl ?_
        refine ev_aload_n dX4_wordEnd_6 rfl ?_
        refine ev_getI dX4_wordEnd_7 fX4_15 (by first | assumption | rfl) (by rfl) ?_
        rw [sc_1, hB.1]
        refine ev_icmp_ge 41 dX4_wordEnd_10 (by decide) (fun hc10 => False.elim (nI_ge (show e < tl by omega) (by omega) hc10)) (fun hc10 => ?_)
        refine ev_aload_n dX4_wordEnd_13 rfl ?_
        refine ev_getR dX4_wordEnd_14 fX4_9 (by first | assumption | rfl) (by rfl) ?_
        refine ev_iload_n dX4_wordEnd_17 rfl ?_
        refine ev_ialdE _ dX4_wordEnd_18 (rfl) (by first | assumption | rfl) ⟨by omega, by decide⟩ ?_
        rw [sc_o (show 2 ≠ 1 by decide), hB.2.2 _ (by omega)]
        refine ev_bipush (v := (nI 97)) dX4_wordEnd_19 (by decide) ?_
        refine ev_icmp_lt 41 dX4_wordEnd_21 (by decide) (fun hc21 => False.elim (h1 hc21)) (fun hc21 => ?_)
        refine ev_aload_n dX4_wordEnd_24 rfl ?_
        refine ev_getR dX4_wordEnd_25 fX4_9 (by first | assumption | rfl) (by rfl) ?_
        refine ev_iload_n dX4_wordEnd_28 rfl ?_
        refine ev_ialdE _ dX4_wordEnd_29 (rfl) (by first | assumption | rfl) ⟨by omega, by decide⟩ ?_
        rw [sc_o (show 2 ≠ 1 by decide), hB.2.2 _ (by omega)]
        refine ev_bipush (v := (nI 122)) dX4_wordEnd_30 (by decide) ?_
        refine ev_icmp_gt 41 dX4_wordEnd_32 (by decide) (fun hc32 => False.elim (h2 hc32)) (fun hc32 => ?_)
        refine ev_iinc (v := (nI 1)) dX4_wordEnd_35 rfl (by decide) (by decide) rfl ?_
        refine ev_goto 5 dX4_wordEnd_38 (by decide) ?_
        exact ev_st hi (by simp [nI_add]) rfl rfl
set_option maxRecDepth 20000 in
set_option maxHeartbeats 2000000 in
theorem e_wordEnd {f : Nat → Int32} {tl : Nat} {C : rf_Mem} (hB : TB tl f C) {x : Nat × Int32} {a : Nat} (ha : a ≤ tl) : Ev LayC mX4_wordEnd 0 (rf_ent 2 [.ref 1]) [] (scM C a x) (some (.int (nI (scn (ltB f) (tl - a) a)))) (scM C a x) := by
  refine ev_aload_n dX4_wordEnd_0 rfl ?_
  refine ev_getI dX4_wordEnd_1 fX4_25 (by first | assumption | rfl) (by rfl) ?_
  rw [sc_4]
  refine ev_istore_k 1 dX4_wordEnd_4 rfl (by decide) rfl ?_
  exact we_all hB (tl - a) a rfl ha
set_option maxRecDepth 20000 in
set_option maxHeartbeats 2000000 in
theorem e_spells {f : Nat → Int32} {tl : Nat} {C : rf_Mem} (hB : TB tl f C) {x : Nat × Int32} {a s e j : Nat} (hj : j < 8) (hse : s ≤ e) (he : e ≤ tl) : Ev LayC mX4_spells 0 (rf_ent 5 [.ref 1, .int (nI s), .int (nI e), .ref (1000 + j)]) [] (scM C a x) (some (.int (b2i (wdB f s (e - s) j)))) (scM C a x) := by
  have h400 := hB.2.1
  obtain ⟨y1, y2⟩ := tx_len j hj
  by_cases hl : e - s = rf_len.getD j 0
  · have key := ev_forI (Lay := LayC) (y := mX4_spells) (pc := 15) (r := some (.int (b2i (wdB f s (e - s) j)))) (M' := scM C a x) (rf_len.getD j 0) (fun i => ∀ k, k < i → f (s + k) = chT j k) (fun i => [some (.ref 1), some (.int (nI s)), some (.int (nI e)), some (.ref (1000 + j)), some (.int (nI (i)))]) (fun _ => scM C a x) ?hx ?hs
    case hx =>
      intro hI
      have hw : wdB f s (e - s) j = true := decide_eq_true ⟨hl, hI⟩
      rw [hw]
      refine ev_iload dX4_spells_15 rfl ?_
      refine ev_aload_n dX4_spells_17 rfl ?_
      refine ev_cT0 (hj) dX4_spells_18 ceJ0_length_8abf5 kX4_112 (rm_le rfl rfl) (Nat.le_of_ble_eq_true rfl) (Nat.le_of_ble_eq_true rfl) (e_txLen hj) ?_
      refine ev_icmp_ge 50 dX4_spells_21 (by decide) (fun hc21 => ?_) (fun hc21 => False.elim (lp_x rfl (by omega) hc21))
      refine ev_iconst (v := (nI 1)) dX4_spells_50 (by decide) ?_
      exact ev_iretE dX4_spells_51 rfl rfl (by first | rfl | simp_all) (rfl)
    case hs =>
      intro i hi hI ih
      refine ev_iload dX4_spells_15 rfl ?_
      refine ev_aload_n dX4_spells_17 rfl ?_
      refine ev_cT0 (hj) dX4_spells_18 ceJ0_length_8abf5 kX4_112 (rm_le rfl rfl) (Nat.le_of_ble_eq_true rfl) (Nat.le_of_ble_eq_true rfl) (e_txLen hj) ?_
      refine ev_icmp_ge 50 dX4_spells_21 (by decide) (fun hc21 => False.elim (nI_ge hi (by omega) hc21)) (fun hc21 => ?_)
      refine ev_aload_n dX4_spells_24 rfl ?_
      refine ev_getR dX4_spells_25 fX4_9 (by first | assumption | rfl) (by rfl) ?_
      refine ev_iload_n dX4_spells_28 rfl ?_
      refine ev_iload dX4_spells_29 rfl ?_
      refine ev_iadd dX4_spells_31 ?_
      refine ev_ialdE (s + i) dX4_spells_32 (nI_add _ _) (by first | assumption | rfl) ⟨by omega, by decide⟩ ?_
      rw [sc_o (show 2 ≠ 1 by decide), hB.2.2 _ (by omega)]
      refine ev_aload_n dX4_spells_33 rfl ?_
      refine ev_iload dX4_spells_34 rfl ?_
      refine ev_cT1 (hj) dX4_spells_36 ceJ0_charAt_5068e kX4_116 (rm_le rfl rfl) (Nat.le_of_ble_eq_true rfl) (Nat.le_of_ble_eq_true rfl) (e_charAt hj hi) ?_
      refine ev_icmp_eq 44 dX4_spells_39 (by decide) (fun hc39 => ?_) (fun hc39 => ?_)
      · refine ev_iinc (v := (nI 1)) dX4_spells_44 rfl (by decide) (by decide) rfl ?_
        refine ev_goto 15 dX4_spells_47 (by decide) ?_
        exact ev_st (ih (fun k hk => by
          by_cases e9 : k = i
          · rw [e9]; exact hc39
          · exact hI k (by omega))) (by simp [nI_add]) rfl rfl
      · have hw : wdB f s (e - s) j = false := decide_eq_false (fun z => hc39 (z.2 i hi))
        rw [hw]
        refine ev_iconst (v := (nI 0)) dX4_spells_42 (by decide) ?_
        exact ev_iretE dX4_spells_43 rfl rfl (by first | rfl | simp_all) (rfl)
    refine ev_iload_n dX4_spells_0 rfl ?_
    refine ev_iload_n dX4_spells_1 rfl ?_
    refine ev_isub dX4_spells_2 ?_
    refine ev_aload_n dX4_spells_3 rfl ?_
    refine ev_cT0 (hj) dX4_spells_4 ceJ0_length_8abf5 kX4_112 (rm_le rfl rfl) (Nat.le_of_ble_eq_true rfl) (Nat.le_of_ble_eq_true rfl) (e_txLen hj) ?_
    refine ev_icmp_eq 12 dX4_spells_7 (by decide) (fun hc7 => ?_) (fun hc7 => False.elim (hc7 (by rw [pk_sub hse, hl])))
    refine ev_iconst (v := (nI 0)) dX4_spells_12 (by decide) ?_
    refine ev_istore dX4_spells_13 (by decide) rfl ?_
    exact ev_st (key 0 (Nat.zero_le _) (fun k hk => absurd hk (Nat.not_lt_zero _))) rfl rfl rfl
  · have hw : wdB f s (e - s) j = false := decide_eq_false (fun z => hl z.1)
    rw [hw]
    refine ev_iload_n dX4_spells_0 rfl ?_
    refine ev_iload_n dX4_spells_1 rfl ?_
    refine ev_isub dX4_spells_2 ?_
    refine ev_aload_n dX4_spells_3 rfl ?_
    refine ev_cT0 (hj) dX4_spells_4 ceJ0_length_8abf5 kX4_112 (rm_le rfl rfl) (Nat.le_of_ble_eq_true rfl) (Nat.le_of_ble_eq_true rfl) (e_txLen hj) ?_
    refine ev_icmp_eq 12 dX4_spells_7 (by decide) (fun hc7 => False.elim (hl ((nI_eq (by omega) (by omega)).mp (by rw [← pk_sub hse]; exact hc7)))) (fun hc7 => ?_)
    refine ev_iconst (v := (nI 0)) dX4_spells_10 (by decide) ?_
    exact ev_iretE dX4_spells_11 rfl rfl (by first | rfl | simp_all) (rfl)
set_option maxRecDepth 20000 in
set_option maxHeartbeats 2000000 in
theorem e_isFigure {C : rf_Mem} {v : Int32} : Ev LayC mX4_isFigure 0 (rf_ent 1 [.int v]) [] C (some (.int (b2i (!decide (v < nI 48) && !decide (nI 57 < v))))) C := by
  refine ev_iload_n dX4_isFigure_0 rfl ?_
  refine ev_bipush (v := (nI 48)) dX4_isFigure_1 (by decide) ?_
  refine ev_icmp_lt 16 dX4_isFigure_3 (by decide) (fun hc3 => ?_) (fun hc3 => ?_)
  · refine ev_iconst (v := (nI 0)) dX4_isFigure_16 (by decide) ?_
    exact ev_iretE dX4_isFigure_17 rfl rfl (by simp [b2i, *]) (rfl)
  · refine ev_iload_n dX4_isFigure_6 rfl ?_
    refine ev_bipush (v := (nI 57)) dX4_isFigure_7 (by decide) ?_
    refine ev_icmp_gt 16 dX4_isFigure_9 (by decide) (fun hc9 => ?_) (fun hc9 => ?_)
    · refine ev_iconst (v := (nI 0)) dX4_isFigure_16 (by decide) ?_
      exact ev_iretE dX4_isFigure_17 rfl rfl (by simp [b2i, *]) (rfl)
    · refine ev_iconst (v := (nI 1)) dX4_isFigure_12 (by decide) ?_
      refine ev_goto 17 dX4_isFigure_13 (by decide) ?_
      exact ev_iretE dX4_isFigure_17 rfl rfl (by simp [b2i, *]) (rfl)
set_option maxRecDepth 20000 in
set_option maxHeartbeats 2000000 in
theorem e_fail {C : rf_Mem} {x : Nat × Int32} {a num wh : Nat} (hn : num ≠ 0) (hx : x.1 ≤ 3) : Ev LayC mX4_fail 0 (rf_ent 3 [.ref 1, .int (nI num), .int (nI wh)]) [] (scM C a x) none (scM C a (fl2 x num wh)) := by
  have e3 : (0 : Int32) = nI 0 := rfl
  by_cases h0 : x.1 = 0
  · rw [fl2_n h0 hn]
    refine ev_aload_n dX4_fail_0 rfl ?_
    refine ev_getI dX4_fail_1 fX4_19 (by first | assumption | rfl) (by rfl) ?_
    rw [sc_2]
    refine ev_if_ne 17 dX4_fail_4 (by decide) (fun hc4 => False.elim (hc4 (by rw [h0]; rfl))) (fun hc4 => ?_)
    refine ev_aload_n dX4_fail_7 rfl ?_
    refine ev_iload_n dX4_fail_8 rfl ?_
    refine ev_put dX4_fail_9 pX4_19 (by first | assumption | rfl) (by rfl) (rfl) (rfl) ?_
    rw [sc_p2]
    refine ev_aload_n dX4_fail_12 rfl ?_
    refine ev_iload_n dX4_fail_13 rfl ?_
    refine ev_put dX4_fail_14 pX4_22 (by first | assumption | rfl) (by rfl) (rfl) (rfl) ?_
    rw [sc_p3]
    exact ev_vretE dX4_fail_17 rfl rfl (rfl)
  · rw [fl2_x h0]
    refine ev_aload_n dX4_fail_0 rfl ?_
    refine ev_getI dX4_fail_1 fX4_19 (by first | assumption | rfl) (by rfl) ?_
    rw [sc_2]
    refine ev_if_ne 17 dX4_fail_4 (by decide) (fun hc4 => ?_) (fun hc4 => False.elim (absurd ((nI_eq (by omega) (by omega)).mp (by rw [← e3]; exact hc4)) h0))
    exact ev_vretE dX4_fail_17 rfl rfl (rfl)
set_option maxRecDepth 20000 in
set_option maxHeartbeats 2000000 in
theorem e_takeEnd {f : Nat → Int32} {tl : Nat} {C : rf_Mem} (hB : TB tl f C) {x : Nat × Int32} {a p : Nat} (ha : a ≤ tl) (hp : p = scn (bkB f) (tl - a) a) (hx : x.1 ≤ 3) : Ev LayC mX4_takeEnd 0 (rf_ent 1 [.ref 1]) [] (scM C a x) none (if p < tl ∧ f p = nI 59 then scM C (p + 1) x else scM C p (fl2 x 1 p)) := by
  have h400 := hB.2.1
  obtain ⟨q1, q2⟩ := scn_tl (P := bkB f) ha
  rw [← hp] at q1 q2
  by_cases h1 : p < tl
  · by_cases h2 : f p = nI 59
    · rw [if_pos ⟨h1, h2⟩]
      refine ev_aload_n dX4_takeEnd_0 rfl ?_
      refine ev_cV0v dX4_takeEnd_1 ceX4_skipBlanks kX4_33 (rm_le rfl rfl) (Nat.le_of_ble_eq_true rfl) (Nat.le_of_ble_eq_true rfl) (e_skip hB ha) (by first | assumption | rfl) ?_
      rw [← hp]
      refine ev_aload_n dX4_takeEnd_4 rfl ?_
      refine ev_getI dX4_takeEnd_5 fX4_25 (by first | assumption | rfl) (by rfl) ?_
      rw [sc_4]
      refine ev_aload_n dX4_takeEnd_8 rfl ?_
      refine ev_getI dX4_takeEnd_9 fX4_15 (by first | assumption | rfl) (by rfl) ?_
      rw [sc_1, hB.1]
      refine ev_icmp_ge 42 dX4_takeEnd_12 (by decide) (fun hc12 => False.elim (nI_ge h1 (by omega) hc12)) (fun hc12 => ?_)
      refine ev_aload_n dX4_takeEnd_15 rfl ?_
      refine ev_getR dX4_takeEnd_16 fX4_9 (by first | assumption | rfl) (by rfl) ?_
      refine ev_aload_n dX4_takeEnd_19 rfl ?_
      refine ev_getI dX4_takeEnd_20 fX4_25 (by first | assumption | rfl) (by rfl) ?_
      rw [sc_4]
      refine ev_ialdE _ dX4_takeEnd_23 (rfl) (by first | assumption | rfl) ⟨by omega, by decide⟩ ?_
      rw [sc_o (show 2 ≠ 1 by decide), hB.2.2 _ (by omega)]
      refine ev_bipush (v := (nI 59)) dX4_takeEnd_24 (by decide) ?_
      refine ev_icmp_ne 42 dX4_takeEnd_26 (by decide) (fun hc26 => False.elim (hc26 h2)) (fun hc26 => ?_)
      refine ev_aload_n dX4_takeEnd_29 rfl ?_
      refine ev_dup dX4_takeEnd_30 rfl ?_
      refine ev_getI dX4_takeEnd_31 fX4_25 (by first | assumption | rfl) (by rfl) ?_
      rw [sc_4]
      refine ev_iconst (v := (nI 1)) dX4_takeEnd_34 (by decide) ?_
      refine ev_iadd dX4_takeEnd_35 ?_
      rw [nI_add]
      refine ev_put dX4_takeEnd_36 pX4_25 (by first | assumption | rfl) (by rfl) (rfl) (rfl) ?_
      rw [sc_p4]
      refine ev_goto 51 dX4_takeEnd_39 (by decide) ?_
      exact ev_vretE dX4_takeEnd_51 rfl rfl (rfl)
    · rw [if_neg (fun z => h2 z.2)]
      refine ev_aload_n dX4_takeEnd_0 rfl ?_
      refine ev_cV0v dX4_takeEnd_1 ceX4_skipBlanks kX4_33 (rm_le rfl rfl) (Nat.le_of_ble_eq_true rfl) (Nat.le_of_ble_eq_true rfl) (e_skip hB ha) (by first | assumption | rfl) ?_
      rw [← hp]
      refine ev_aload_n dX4_takeEnd_4 rfl ?_
      refine ev_getI dX4_takeEnd_5 fX4_25 (by first | assumption | rfl) (by rfl) ?_
      rw [sc_4]
      refine ev_aload_n dX4_takeEnd_8 rfl ?_
      refine ev_getI dX4_takeEnd_9 fX4_15 (by first | assumption | rfl) (by rfl) ?_
      rw [sc_1, hB.1]
      refine ev_icmp_ge 42 dX4_takeEnd_12 (by decide) (fun hc12 => False.elim (nI_ge h1 (by omega) hc12)) (fun hc12 => ?_)
      refine ev_aload_n dX4_takeEnd_15 rfl ?_
      refine ev_getR dX4_takeEnd_16 fX4_9 (by first | assumption | rfl) (by rfl) ?_
      refine ev_aload_n dX4_takeEnd_19 rfl ?_
      refine ev_getI dX4_takeEnd_20 fX4_25 (by first | assumption | rfl) (by rfl) ?_
      rw [sc_4]
      refine ev_ialdE _ dX4_takeEnd_23 (rfl) (by first | assumption | rfl) ⟨by omega, by decide⟩ ?_
      rw [sc_o (show 2 ≠ 1 by decide), hB.2.2 _ (by omega)]
      refine ev_bipush (v := (nI 59)) dX4_takeEnd_24 (by decide) ?_
      refine ev_icmp_ne 42 dX4_takeEnd_26 (by decide) (fun hc26 => ?_) (fun hc26 => False.elim (h2 hc26))
      refine ev_aload_n dX4_takeEnd_42 rfl ?_
      refine ev_iconst (v := (nI 1)) dX4_takeEnd_43 (by decide) ?_
      refine ev_aload_n dX4_takeEnd_44 rfl ?_
      refine ev_getI dX4_takeEnd_45 fX4_25 (by first | assumption | rfl) (by rfl) ?_
      rw [sc_4]
      refine ev_cV2v dX4_takeEnd_48 ceX4_fail kX4_64 (rm_le rfl rfl) (Nat.le_of_ble_eq_true rfl) (Nat.le_of_ble_eq_true rfl) (e_fail (by decide) hx) (by first | assumption | rfl) ?_
      exact ev_vretE dX4_takeEnd_51 rfl rfl (rfl)
  · rw [if_neg (fun z => h1 z.1)]
    have e0 : p = tl := by omega
    refine ev_aload_n dX4_takeEnd_0 rfl ?_
    refine ev_cV0v dX4_takeEnd_1 ceX4_skipBlanks kX4_33 (rm_le rfl rfl) (Nat.le_of_ble_eq_true rfl) (Nat.le_of_ble_eq_true rfl) (e_skip hB ha) (by first | assumption | rfl) ?_
    rw [← hp]
    refine ev_aload_n dX4_takeEnd_4 rfl ?_
    refine ev_getI dX4_takeEnd_5 fX4_25 (by first | assumption | rfl) (by rfl) ?_
    rw [sc_4]
    refine ev_aload_n dX4_takeEnd_8 rfl ?_
    refine ev_getI dX4_takeEnd_9 fX4_15 (by first | assumption | rfl) (by rfl) ?_
    rw [sc_1, hB.1]
    refine ev_icmp_ge 42 dX4_takeEnd_12 (by decide) (fun hc12 => ?_) (fun hc12 => False.elim (hc12 (nI_le (by omega) (by omega))))
    refine ev_aload_n dX4_takeEnd_42 rfl ?_
    refine ev_iconst (v := (nI 1)) dX4_takeEnd_43 (by decide) ?_
    refine ev_aload_n dX4_takeEnd_44 rfl ?_
    refine ev_getI dX4_takeEnd_45 fX4_25 (by first | assumption | rfl) (by rfl) ?_
    rw [sc_4]
    refine ev_cV2v dX4_takeEnd_48 ceX4_fail kX4_64 (rm_le rfl rfl) (Nat.le_of_ble_eq_true rfl) (Nat.le_of_ble_eq_true rfl) (e_fail (by decide) hx) (by first | assumption | rfl) ?_
    exact ev_vretE dX4_takeEnd_51 rfl rfl (rfl)
