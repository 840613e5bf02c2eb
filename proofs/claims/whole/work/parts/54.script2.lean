/-! the script: numbers, kinds -/
def bN (f : Nat → Int32) (i : Nat) : Nat := (f i).toNatClampNeg
def nv (f : Nat → Int32) (s : Nat) : Nat → Nat
  | 0 => 0
  | m + 1 => nv f s m * 10 + bN f (s + m) - 48
theorem dg_val {f : Nat → Int32} {tl i : Nat} (hF : TF tl f) (hi : i < tl) (h : dgB f i = true) : ∃ b, 48 ≤ b ∧ b ≤ 57 ∧ f i = nI b ∧ bN f i = b := by
  obtain ⟨b, h1, h2⟩ := hF i hi
  unfold dgB at h
  rw [h2] at h
  simp only [Bool.and_eq_true, Bool.not_eq_true', decide_eq_false_iff_not] at h
  have a1 : 48 ≤ b := by
    rcases Nat.lt_or_ge b 48 with z | z
    · exact absurd (nI_lt z (by omega)) h.1
    · exact z
  have a2 : b ≤ 57 := by
    rcases Nat.lt_or_ge 57 b with z | z
    · exact absurd (nI_lt z (by omega)) h.2
    · exact z
  exact ⟨b, a1, a2, h2, by rw [bN, h2]; exact nI_clamp (by omega)⟩
theorem nv_lt {f : Nat → Int32} {s : Nat} : ∀ {m : Nat}, (∀ k, k < m → 48 ≤ bN f (s + k) ∧ bN f (s + k) ≤ 57) → nv f s m < 10 ^ m
  | 0, _ => by simp [nv]
  | m + 1, h => by
    have h1 := nv_lt (m := m) (fun k hk => h k (by omega))
    have h2 := h m (by omega)
    rw [nv, Nat.pow_succ]
    omega
theorem nv_3 {f : Nat → Int32} {s m : Nat} (hm : m ≤ 3) (h : ∀ k, k < m → 48 ≤ bN f (s + k) ∧ bN f (s + k) ≤ 57) : nv f s m ≤ 999 := by
  have h1 := nv_lt h
  have h2 : 10 ^ m ≤ 10 ^ 3 := Nat.pow_le_pow_right (by decide) hm
  omega
def sB (f : Nat → Int32) (tl a : Nat) : Nat := scn (bkB f) (tl - a) a
def dE (f : Nat → Int32) (tl a : Nat) : Nat := scn (dgB f) (tl - sB f tl a) (sB f tl a)
def vN (f : Nat → Int32) (tl a : Nat) : Nat := nv f (sB f tl a) (min (dE f tl a - sB f tl a) 3)
def tnB (s e v lo hi : Nat) : Nat := if e = s then 1 else if 3 < e - s ∨ v < lo ∨ hi < v then 2 else 0
def tnX (f : Nat → Int32) (tl lo hi a : Nat) (x : Nat × Int32) : Nat × Int32 := fl2 x (tnB (sB f tl a) (dE f tl a) (vN f tl a) lo hi) (sB f tl a)
theorem sB_le {f : Nat → Int32} {tl a : Nat} (h : a ≤ tl) : a ≤ sB f tl a ∧ sB f tl a ≤ tl := scn_tl h
theorem e_skipB {f : Nat → Int32} {tl : Nat} {C : rf_Mem} (hB : TB tl f C) {x : Nat × Int32} {a : Nat} (ha : a ≤ tl) : Ev LayC mX4_skipBlanks 0 (rf_ent 1 [.ref 1]) [] (scM C a x) none (scM C (sB f tl a) x) := e_skip hB ha
theorem dE_le {f : Nat → Int32} {tl a : Nat} (h : a ≤ tl) : sB f tl a ≤ dE f tl a ∧ dE f tl a ≤ tl := scn_tl (sB_le h).2
theorem tnB_le (s e v lo hi : Nat) : tnB s e v lo hi ≤ 3 := by unfold tnB; split <;> (try split) <;> omega
theorem tnX_le {f : Nat → Int32} {tl lo hi a : Nat} {x : Nat × Int32} (h : x.1 ≤ 3) : (tnX f tl lo hi a x).1 ≤ 3 := fl2_lt h (tnB_le _ _ _ _ _)
theorem dg_run {f : Nat → Int32} {tl a : Nat} (hF : TF tl f) (h : a ≤ tl) : ∀ k, k < dE f tl a - sB f tl a → ∃ b, 48 ≤ b ∧ b ≤ 57 ∧ f (sB f tl a + k) = nI b ∧ bN f (sB f tl a + k) = b := fun k hk => by
  have := dE_le (f := f) h
  exact dg_val hF (by omega) (scn_all _ _ _ _ (by omega) (show sB f tl a + k < dE f tl a by omega))
theorem vN_le {f : Nat → Int32} {tl a : Nat} (hF : TF tl f) (h : a ≤ tl) : vN f tl a ≤ 999 := nv_3 (by omega) (fun k hk => by
  obtain ⟨b, h1, h2, -, h4⟩ := dg_run hF h k (by omega)
  rw [h4]; exact ⟨h1, h2⟩)
set_option maxRecDepth 20000 in
set_option maxHeartbeats 2000000 in
theorem tn_all {f : Nat → Int32} {tl : Nat} {C : rf_Mem} (hB : TB tl f C) (hF : TF tl f) {x : Nat × Int32} {lo hi : Int32} {s : Nat} : ∀ (n m : Nat), tl - (s + m) = n → s + m ≤ tl → (∀ r M', Ev LayC mX4_takeNumber 86 [some (.ref 1), some (.int (lo)), some (.int (hi)), some (.int (nI s)), some (.int (nI (nv f s (min (scn (dgB f) n (s + m) - s) 3))))] [] (scM C (scn (dgB f) n (s + m)) x) r M' → Ev LayC mX4_takeNumber 12 [some (.ref 1), some (.int (lo)), some (.int (hi)), some (.int (nI s)), some (.int (nI (nv f s (min m 3))))] [] (scM C (s + m) x) r M') := by
  have h400 := hB.2.1
  intro n
  induction n with
  | zero =>
    intro m hn hm r M' hE
    have e0 : s + m = tl := by omega
    rw [scn] at hE
    rw [Nat.add_sub_cancel_left] at hE
    refine ev_aload_n dX4_takeNumber_12 rfl ?_
    refine ev_getI dX4_takeNumber_13 fX4_25 (by first | assumption | rfl) (by rfl) ?_
    rw [sc_4]
    refine ev_aload_n dX4_takeNumber_16 rfl ?_
    refine ev_getI dX4_takeNumber_17 fX4_15 (by first | assumption | rfl) (by rfl) ?_
    rw [sc_1, hB.1]
    refine ev_icmp_ge 86 dX4_takeNumber_20 (by decide) (fun hc20 => ?_) (fun hc20 => False.elim (hc20 (nI_le (by omega) (by omega))))
    exact hE
  | succ n ih =>
    intro m hn hm r M' hE
    by_cases hp : dgB f (s + m) = true
    · rw [scn_yes hp] at hE
      obtain ⟨bb, b1, b2, b3, b4⟩ := dg_val hF (by omega) hp
      have hi2 := ih (m + 1) (by omega) (by omega) r M' hE
      by_cases h3 : m < 3
      · have e1 : min m 3 = m := by omega
        have e2 : min (m + 1) 3 = m + 1 := by omega
        rw [e2, nv, b4] at hi2
        rw [e1]
        refine ev_aload_n dX4_takeNumber_12 rfl ?_
        refine ev_getI dX4_takeNumber_13 fX4_25 (by first | assumption | rfl) (by rfl) ?_
        rw [sc_4]
        refine ev_aload_n dX4_takeNumber_16 rfl ?_
        refine ev_getI dX4_takeNumber_17 fX4_15 (by first | assumption | rfl) (by rfl) ?_
        rw [sc_1, hB.1]
        refine ev_icmp_ge 86 dX4_takeNumber_20 (by decide) (fun hc20 => False.elim (nI_ge (show s + m < tl by omega) (by omega) hc20)) (fun hc20 => ?_)
        refine ev_aload_n dX4_takeNumber_23 rfl ?_
        refine ev_getR dX4_takeNumber_24 fX4_9 (by first | assumption | rfl) (by rfl) ?_
        refine ev_aload_n dX4_takeNumber_27 rfl ?_
        refine ev_getI dX4_takeNumber_28 fX4_25 (by first | assumption | rfl) (by rfl) ?_
        rw [sc_4]
        refine ev_ialdE _ dX4_takeNumber_31 (rfl) (by first | assumption | rfl) ⟨by omega, by decide⟩ ?_
        rw [sc_o (show 2 ≠ 1 by decide), hB.2.2 _ (by omega)]
        refine ev_cS1 dX4_takeNumber_32 ceX4_isFigure kX4_108 (rm_le rfl rfl) (Nat.le_of_ble_eq_true rfl) (Nat.le_of_ble_eq_true rfl) (e_isFigure) ?_
        refine ev_if_eq 86 dX4_takeNumber_35 (by decide) (fun hc35 => False.elim (by rw [b2i_0] at hc35; rw [show (!decide (f (s + m) < nI 48) && !decide (nI 57 < f (s + m))) = true from hp] at hc35; cases hc35)) (fun hc35 => ?_)
        refine ev_aload_n dX4_takeNumber_38 rfl ?_
        refine ev_getI dX4_takeNumber_39 fX4_25 (by first | assumption | rfl) (by rfl) ?_
        rw [sc_4]
        refine ev_iload_n dX4_takeNumber_42 rfl ?_
        refine ev_isub dX4_takeNumber_43 ?_
        refine ev_iconst (v := (nI 3)) dX4_takeNumber_44 (by decide) ?_
        rw [pk_sub (by omega), Nat.add_sub_cancel_left]
        refine ev_icmp_ge 69 dX4_takeNumber_45 (by decide) (fun hc45 => False.elim (nI_ge h3 (by omega) hc45)) (fun hc45 => ?_)
        refine ev_iload dX4_takeNumber_48 rfl ?_
        refine ev_bipush (v := (nI 10)) dX4_takeNumber_50 (by decide) ?_
        refine ev_imul dX4_takeNumber_52 ?_
        refine ev_aload_n dX4_takeNumber_53 rfl ?_
        refine ev_getR dX4_takeNumber_54 fX4_9 (by first | assumption | rfl) (by rfl) ?_
        refine ev_aload_n dX4_takeNumber_57 rfl ?_
        refine ev_getI dX4_takeNumber_58 fX4_25 (by first | assumption | rfl) (by rfl) ?_
        rw [sc_4]
        refine ev_ialdE _ dX4_takeNumber_61 (rfl) (by first | assumption | rfl) ⟨by omega, by decide⟩ ?_
        rw [sc_o (show 2 ≠ 1 by decide), hB.2.2 _ (by omega)]
        refine ev_iadd dX4_takeNumber_62 ?_
        refine ev_bipush (v := (nI 48)) dX4_takeNumber_63 (by decide) ?_
        refine ev_isub dX4_takeNumber_65 ?_
        rw [b3, pk_mul, nI_add, pk_sub (by omega)]
        refine ev_goto 71 dX4_takeNumber_66 (by decide) ?_
        refine ev_istore dX4_takeNumber_71 (by decide) rfl ?_
        refine ev_aload_n dX4_takeNumber_73 rfl ?_
        refine ev_dup dX4_takeNumber_74 rfl ?_
        refine ev_getI dX4_takeNumber_75 fX4_25 (by first | assumption | rfl) (by rfl) ?_
        rw [sc_4]
        refine ev_iconst (v := (nI 1)) dX4_takeNumber_78 (by decide) ?_
        refine ev_iadd dX4_takeNumber_79 ?_
        rw [nI_add]
        refine ev_put dX4_takeNumber_80 pX4_25 (by first | assumption | rfl) (by rfl) (rfl) (rfl) ?_
        rw [sc_p4]
        refine ev_goto 12 dX4_takeNumber_83 (by decide) ?_
        exact hi2
      · have e1 : min m 3 = 3 := by omega
        have e2 : min (m + 1) 3 = 3 := by omega
        rw [e2] at hi2
        rw [e1]
        refine ev_aload_n dX4_takeNumber_12 rfl ?_
        refine ev_getI dX4_takeNumber_13 fX4_25 (by first | assumption | rfl) (by rfl) ?_
        rw [sc_4]
        refine ev_aload_n dX4_takeNumber_16 rfl ?_
        refine ev_getI dX4_takeNumber_17 fX4_15 (by first | assumption | rfl) (by rfl) ?_
        rw [sc_1, hB.1]
        refine ev_icmp_ge 86 dX4_takeNumber_20 (by decide) (fun hc20 => False.elim (nI_ge (show s + m < tl by omega) (by omega) hc20)) (fun hc20 => ?_)
        refine ev_aload_n dX4_takeNumber_23 rfl ?_
        refine ev_getR dX4_takeNumber_24 fX4_9 (by first | assumption | rfl) (by rfl) ?_
        refine ev_aload_n dX4_takeNumber_27 rfl ?_
        refine ev_getI dX4_takeNumber_28 fX4_25 (by first | assumption | rfl) (by rfl) ?_
        rw [sc_4]
        refine ev_ialdE _ dX4_takeNumber_31 (rfl) (by first | assumption | rfl) ⟨by omega, by decide⟩ ?_
        rw [sc_o (show 2 ≠ 1 by decide), hB.2.2 _ (by omega)]
        refine ev_cS1 dX4_takeNumber_32 ceX4_isFigure kX4_108 (rm_le rfl rfl) (Nat.le_of_ble_eq_true rfl) (Nat.le_of_ble_eq_true rfl) (e_isFigure) ?_
        refine ev_if_eq 86 dX4_takeNumber_35 (by decide) (fun hc35 => False.elim (by rw [b2i_0] at hc35; rw [show (!decide (f (s + m) < nI 48) && !decide (nI 57 < f (s + m))) = true from hp] at hc35; cases hc35)) (fun hc35 => ?_)
        refine ev_aload_n dX4_takeNumber_38 rfl ?_
        refine ev_getI dX4_takeNumber_39 fX4_25 (by first | assumption | rfl) (by rfl) ?_
        rw [sc_4]
        refine ev_iload_n dX4_takeNumber_42 rfl ?_
        refine ev_isub dX4_takeNumber_43 ?_
        refine ev_iconst (v := (nI 3)) dX4_takeNumber_44 (by decide) ?_
        rw [pk_sub (by omega), Nat.add_sub_cancel_left]
        refine ev_icmp_ge 69 dX4_takeNumber_45 (by decide) (fun hc45 => ?_) (fun hc45 => False.elim (hc45 (nI_le (by omega) (by omega))))
        refine ev_iload dX4_takeNumber_69 rfl ?_
        refine ev_istore dX4_takeNumber_71 (by decide) rfl ?_
        refine ev_aload_n dX4_takeNumber_73 rfl ?_
        refine ev_dup dX4_takeNumber_74 rfl ?_
        refine ev_getI dX4_takeNumber_75 fX4_25 (by first | assumption | rfl) (by rfl) ?_
        rw [sc_4]
        refine ev_iconst (v := (nI 1)) dX4_takeNumber_78 (by decide) ?_
        refine ev_iadd dX4_takeNumber_79 ?_
        rw [nI_add]
        refine ev_put dX4_takeNumber_80 pX4_25 (by first | assumption | rfl) (by rfl) (rfl) (rfl) ?_
        rw [sc_p4]
        refine ev_goto 12 dX4_takeNumber_83 (by decide) ?_
        exact hi2
    · have hp2 : dgB f (s + m) = false := by simpa using hp
      rw [scn_no hp2, Nat.add_sub_cancel_left] at hE
      refine ev_aload_n dX4_takeNumber_12 rfl ?_
      refine ev_getI dX4_takeNumber_13 fX4_25 (by first | assumption | rfl) (by rfl) ?_
      rw [sc_4]
      refine ev_aload_n dX4_takeNumber_16 rfl ?_
      refine ev_getI dX4_takeNumber_17 fX4_15 (by first | assumption | rfl) (by rfl) ?_
      rw [sc_1, hB.1]
      refine ev_icmp_ge 86 dX4_takeNumber_20 (by decide) (fun hc20 => False.elim (nI_ge (show s + m < tl by omega) (by omega) hc20)) (fun hc20 => ?_)
      refine ev_aload_n dX4_takeNumber_23 rfl ?_
      refine ev_getR dX4_takeNumber_24 fX4_9 (by first | assumption | rfl) (by rfl) ?_
      refine ev_aload_n dX4_takeNumber_27 rfl ?_
      refine ev_getI dX4_takeNumber_28 fX4_25 (by first | assumption | rfl) (by rfl) ?_
      rw [sc_4]
      refine ev_ialdE _ dX4_takeNumber_31 (rfl) (by first | assumption | rfl) ⟨by omega, by decide⟩ ?_
      rw [sc_o (show 2 ≠ 1 by decide), hB.2.2 _ (by omega)]
      refine ev_cS1 dX4_takeNumber_32 ceX4_isFigure kX4_108 (rm_le rfl rfl) (Nat.le_of_ble_eq_true rfl) (Nat.le_of_ble_eq_true rfl) (e_isFigure) ?_
      refine ev_if_eq 86 dX4_takeNumber_35 (by decide) (fun hc35 => ?_) (fun hc35 => False.elim (hc35 (by rw [b2i_0]; exact hp2)))
      exact hE
set_option maxRecDepth 20000 in
set_option maxHeartbeats 2000000 in
theorem e_takeNumber {f : Nat → Int32} {tl : Nat} {C : rf_Mem} (hB : TB tl f C) (hF : TF tl f) {x : Nat × Int32} {lo hi a : Nat} (ha : a ≤ tl) (hlo : lo ≤ 100) (hhi : hi ≤ 100) (hx : x.1 ≤ 3) : Ev LayC mX4_takeNumber 0 (rf_ent 5 [.ref 1, .int (nI lo), .int (nI hi)]) [] (scM C a x) (some (.int (nI (vN f tl (a))))) (scM C (dE f tl (a)) (tnX f tl lo hi a x)) := by
  have h400 := hB.2.1
  obtain ⟨q1, q2⟩ := sB_le (f := f) ha
  obtain ⟨q3, q4⟩ := dE_le (f := f) ha
  have q5 := vN_le hF ha
  have u := tn_all hB hF (x := x) (lo := nI lo) (hi := nI hi) (s := sB f tl (a)) (tl - sB f tl (a)) 0 (by omega) (by omega)
  have e9 : scn (dgB f) (tl - sB f tl (a)) (sB f tl (a) + 0) = dE f tl (a) := rfl
  rw [e9] at u
  have e8 : nv f (sB f tl (a)) (min (dE f tl (a) - sB f tl (a)) 3) = vN f tl (a) := rfl
  rw [e8] at u
  unfold tnX
  by_cases h1 : dE f tl (a) = sB f tl (a)
  · rw [show tnB _ _ _ lo hi = 1 from if_pos h1]
    refine ev_aload_n dX4_takeNumber_0 rfl ?_
    refine ev_cV0v dX4_takeNumber_1 ceX4_skipBlanks kX4_33 (rm_le rfl rfl) (Nat.le_of_ble_eq_true rfl) (Nat.le_of_ble_eq_true rfl) (e_skip hB ha) (by first | assumption | rfl) ?_
    refine ev_aload_n dX4_takeNumber_4 rfl ?_
    refine ev_getI dX4_takeNumber_5 fX4_25 (by first | assumption | rfl) (by rfl) ?_
    rw [sc_4]
    refine ev_istore_k 3 dX4_takeNumber_8 rfl (by decide) rfl ?_
    refine ev_iconst (v := (nI 0)) dX4_takeNumber_9 (by decide) ?_
    refine ev_istore dX4_takeNumber_10 (by decide) rfl ?_
    refine u _ _ ?_
    refine ev_aload_n dX4_takeNumber_86 rfl ?_
    refine ev_getI dX4_takeNumber_87 fX4_25 (by first | assumption | rfl) (by rfl) ?_
    rw [sc_4]
    refine ev_iload_n dX4_takeNumber_90 rfl ?_
    refine ev_icmp_ne 103 dX4_takeNumber_91 (by decide) (fun hc91 => False.elim (hc91 (by rw [h1]))) (fun hc91 => ?_)
    refine ev_aload_n dX4_takeNumber_94 rfl ?_
    refine ev_iconst (v := (nI 1)) dX4_takeNumber_95 (by decide) ?_
    refine ev_iload_n dX4_takeNumber_96 rfl ?_
    refine ev_cV2v dX4_takeNumber_97 ceX4_fail kX4_64 (rm_le rfl rfl) (Nat.le_of_ble_eq_true rfl) (Nat.le_of_ble_eq_true rfl) (e_fail (by decide) hx) (by first | assumption | rfl) ?_
    refine ev_goto 131 dX4_takeNumber_100 (by decide) ?_
    refine ev_iload dX4_takeNumber_131 rfl ?_
    exact ev_iretE dX4_takeNumber_133 rfl rfl (by first | rfl | simp_all) (rfl)
  · by_cases h2 : 3 < dE f tl (a) - sB f tl (a) ∨ vN f tl (a) < lo ∨ hi < vN f tl (a)
    · rw [show tnB _ _ _ lo hi = 2 from (if_neg h1).trans (if_pos h2)]
      by_cases g1 : 3 < dE f tl (a) - sB f tl (a)
      · refine ev_aload_n dX4_takeNumber_0 rfl ?_
        refine ev_cV0v dX4_takeNumber_1 ceX4_skipBlanks kX4_33 (rm_le rfl rfl) (Nat.le_of_ble_eq_true rfl) (Nat.le_of_ble_eq_true rfl) (e_skip hB ha) (by first | assumption | rfl) ?_
        refine ev_aload_n dX4_takeNumber_4 rfl ?_
        refine ev_getI dX4_takeNumber_5 fX4_25 (by first | assumption | rfl) (by rfl) ?_
        rw [sc_4]
        refine ev_istore_k 3 dX4_takeNumber_8 rfl (by decide) rfl ?_
        refine ev_iconst (v := (nI 0)) dX4_takeNumber_9 (by decide) ?_
        refine ev_istore dX4_takeNumber_10 (by decide) rfl ?_
        refine u _ _ ?_
        refine ev_aload_n dX4_takeNumber_86 rfl ?_
        refine ev_getI dX4_takeNumber_87 fX4_25 (by first | assumption | rfl) (by rfl) ?_
        rw [sc_4]
        refine ev_iload_n dX4_takeNumber_90 rfl ?_
        refine ev_icmp_ne 103 dX4_takeNumber_91 (by decide) (fun hc91 => ?_) (fun hc91 => False.elim (h1 ((nI_eq (by omega) (by omega)).mp hc91)))
        refine ev_aload_n dX4_takeNumber_103 rfl ?_
        refine ev_getI dX4_takeNumber_104 fX4_25 (by first | assumption | rfl) (by rfl) ?_
        rw [sc_4]
        refine ev_iload_n dX4_takeNumber_107 rfl ?_
        refine ev_isub dX4_takeNumber_108 ?_
        refine ev_iconst (v := (nI 3)) dX4_takeNumber_109 (by decide) ?_
        rw [pk_sub q3]
        refine ev_icmp_gt 125 dX4_takeNumber_110 (by decide) (fun hc110 => ?_) (fun hc110 => False.elim (hc110 (nI_lt g1 (by omega))))
        refine ev_aload_n dX4_takeNumber_125 rfl ?_
        refine ev_iconst (v := (nI 2)) dX4_takeNumber_126 (by decide) ?_
        refine ev_iload_n dX4_takeNumber_127 rfl ?_
        refine ev_cV2v dX4_takeNumber_128 ceX4_fail kX4_64 (rm_le rfl rfl) (Nat.le_of_ble_eq_true rfl) (Nat.le_of_ble_eq_true rfl) (e_fail (by decide) hx) (by first | assumption | rfl) ?_
        refine ev_iload dX4_takeNumber_131 rfl ?_
        exact ev_iretE dX4_takeNumber_133 rfl rfl (by first | rfl | simp_all) (rfl)
      · by_cases g2 : vN f tl (a) < lo
        · refine ev_aload_n dX4_takeNumber_0 rfl ?_
          refine ev_cV0v dX4_takeNumber_1 ceX4_skipBlanks kX4_33 (rm_le rfl rfl) (Nat.le_of_ble_eq_true rfl) (Nat.le_of_ble_eq_true rfl) (e_skip hB ha) (by first | assumption | rfl) ?_
          refine ev_aload_n dX4_takeNumber_4 rfl ?_
          refine ev_getI dX4_takeNumber_5 fX4_25 (by first | assumption | rfl) (by rfl) ?_
          rw [sc_4]
          refine ev_istore_k 3 dX4_takeNumber_8 rfl (by decide) rfl ?_
          refine ev_iconst (v := (nI 0)) dX4_takeNumber_9 (by decide) ?_
          refine ev_istore dX4_takeNumber_10 (by decide) rfl ?_
          refine u _ _ ?_
          refine ev_aload_n dX4_takeNumber_86 rfl ?_
          refine ev_getI dX4_takeNumber_87 fX4_25 (by first | assumption | rfl) (by rfl) ?_
          rw [sc_4]
          refine ev_iload_n dX4_takeNumber_90 rfl ?_
          refine ev_icmp_ne 103 dX4_takeNumber_91 (by decide) (fun hc91 => ?_) (fun hc91 => False.elim (h1 ((nI_eq (by omega) (by omega)).mp hc91)))
          refine ev_aload_n dX4_takeNumber_103 rfl ?_
          refine ev_getI dX4_takeNumber_104 fX4_25 (by first | assumption | rfl) (by rfl) ?_
          rw [sc_4]
          refine ev_iload_n dX4_takeNumber_107 rfl ?_
          refine ev_isub dX4_takeNumber_108 ?_
          refine ev_iconst (v := (nI 3)) dX4_takeNumber_109 (by decide) ?_
          rw [pk_sub q3]
          refine ev_icmp_gt 125 dX4_takeNumber_110 (by decide) (fun hc110 => False.elim (nI_nlt (Nat.le_of_not_lt g1) (by omega) hc110)) (fun hc110 => ?_)
          refine ev_iload dX4_takeNumber_113 rfl ?_
          refine ev_iload_n dX4_takeNumber_115 rfl ?_
          refine ev_icmp_lt 125 dX4_takeNumber_116 (by decide) (fun hc116 => ?_) (fun hc116 => False.elim (hc116 (nI_lt g2 (by omega))))
          refine ev_aload_n dX4_takeNumber_125 rfl ?_
          refine ev_iconst (v := (nI 2)) dX4_takeNumber_126 (by decide) ?_
          refine ev_iload_n dX4_takeNumber_127 rfl ?_
          refine ev_cV2v dX4_takeNumber_128 ceX4_fail kX4_64 (rm_le rfl rfl) (Nat.le_of_ble_eq_true rfl) (Nat.le_of_ble_eq_true rfl) (e_fail (by decide) hx) (by first | assumption | rfl) ?_
          refine ev_iload dX4_takeNumber_131 rfl ?_
          exact ev_iretE dX4_takeNumber_133 rfl rfl (by first | rfl | simp_all) (rfl)
        · have g3 : hi < vN f tl (a) := by omega
          refine ev_aload_n dX4_takeNumber_0 rfl ?_
          refine ev_cV0v dX4_takeNumber_1 ceX4_skipBlanks kX4_33 (rm_le rfl rfl) (Nat.le_of_ble_eq_true rfl) (Nat.le_of_ble_eq_true rfl) (e_skip hB ha) (by first | assumption | rfl) ?_
          refine ev_aload_n dX4_takeNumber_4 rfl ?_
          refine ev_getI dX4_takeNumber_5 fX4_25 (by first | assumption | rfl) (by rfl) ?_
          rw [sc_4]
          refine ev_istore_k 3 dX4_takeNumber_8 rfl (by decide) rfl ?_
          refine ev_iconst (v := (nI 0)) dX4_takeNumber_9 (by decide) ?_
          refine ev_istore dX4_takeNumber_10 (by decide) rfl ?_
          refine u _ _ ?_
          refine ev_aload_n dX4_takeNumber_86 rfl ?_
          refine ev_getI dX4_takeNumber_87 fX4_25 (by first | assumption | rfl) (by rfl) ?_
          rw [sc_4]
          refine ev_iload_n dX4_takeNumber_90 rfl ?_
          refine ev_icmp_ne 103 dX4_takeNumber_91 (by decide) (fun hc91 => ?_) (fun hc91 => False.elim (h1 ((nI_eq (by omega) (by omega)).mp hc91)))
          refine ev_aload_n dX4_takeNumber_103 rfl ?_
          refine ev_getI dX4_takeNumber_104 fX4_25 (by first | assumption | rfl) (by rfl) ?_
          rw [sc_4]
          refine ev_iload_n dX4_takeNumber_107 rfl ?_
          refine ev_isub dX4_takeNumber_108 ?_
          refine ev_iconst (v := (nI 3)) dX4_takeNumber_109 (by decide) ?_
          rw [pk_sub q3]
          refine ev_icmp_gt 125 dX4_takeNumber_110 (by decide) (fun hc110 => False.elim (nI_nlt (Nat.le_of_not_lt g1) (by omega) hc110)) (fun hc110 => ?_)
          refine ev_iload dX4_takeNumber_113 rfl ?_
          refine ev_iload_n dX4_takeNumber_115 rfl ?_
          refine ev_icmp_lt 125 dX4_takeNumber_116 (by decide) (fun hc116 => False.elim (nI_nlt (Nat.le_of_not_lt g2) (by omega) hc116)) (fun hc116 => ?_)
          refine ev_iload dX4_takeNumber_119 rfl ?_
          refine ev_iload_n dX4_takeNumber_121 rfl ?_
          refine ev_icmp_le 131 dX4_takeNumber_122 (by decide) (fun hc122 => False.elim (nI_ge g3 (by omega) hc122)) (fun hc122 => ?_)
          refine ev_aload_n dX4_takeNumber_125 rfl ?_
          refine ev_iconst (v := (nI 2)) dX4_takeNumber_126 (by decide) ?_
          refine ev_iload_n dX4_takeNumber_127 rfl ?_
          refine ev_cV2v dX4_takeNumber_128 ceX4_fail kX4_64 (rm_le rfl rfl) (Nat.le_of_ble_eq_true rfl) (Nat.le_of_ble_eq_true rfl) (e_fail (by decide) hx) (by first | assumption | rfl) ?_
          refine ev_iload dX4_takeNumber_131 rfl ?_
          exact ev_iretE dX4_takeNumber_133 rfl rfl (by first | rfl | simp_all) (rfl)
    · rw [show tnB _ _ _ lo hi = 0 from (if_neg h1).trans (if_neg h2), fl2_0]
      have g1 : ¬ 3 < dE f tl (a) - sB f tl (a) := fun z => h2 (Or.inl z)
      have g2 : ¬ vN f tl (a) < lo := fun z => h2 (Or.inr (Or.inl z))
      have g3 : ¬ hi < vN f tl (a) := fun z => h2 (Or.inr (Or.inr z))
      refine ev_aload_n dX4_takeNumber_0 rfl ?_
      refine ev_cV0v dX4_takeNumber_1 ceX4_skipBlanks kX4_33 (rm_le rfl rfl) (Nat.le_of_ble_eq_true rfl) (Nat.le_of_ble_eq_true rfl) (e_skip hB ha) (by first | assumption | rfl) ?_
      refine ev_aload_n dX4_takeNumber_4 rfl ?_
      refine ev_getI dX4_takeNumber_5 fX4_25 (by first | assumption | rfl) (by rfl) ?_
      rw [sc_4]
      refine ev_istore_k 3 dX4_takeNumber_8 rfl (by decide) rfl ?_
      refine ev_iconst (v := (nI 0)) dX4_takeNumber_9 (by decide) ?_
      refine ev_istore dX4_takeNumber_10 (by decide) rfl ?_
      refine u _ _ ?_
      refine ev_aload_n dX4_takeNumber_86 rfl ?_
      refine ev_getI dX4_takeNumber_87 fX4_25 (by first | assumption | rfl) (by rfl) ?_
      rw [sc_4]
      refine ev_iload_n dX4_takeNumber_90 rfl ?_
      refine ev_icmp_ne 103 dX4_takeNumber_91 (by decide) (fun hc91 => ?_) (fun hc91 => False.elim (h1 ((nI_eq (by omega) (by omega)).mp hc91)))
      refine ev_aload_n dX4_takeNumber_103 rfl ?_
      refine ev_getI dX4_takeNumber_104 fX4_25 (by first | assumption | rfl) (by rfl) ?_
      rw [sc_4]
      refine ev_iload_n dX4_takeNumber_107 rfl ?_
      refine ev_isub dX4_takeNumber_108 ?_
      refine ev_iconst (v := (nI 3)) dX4_takeNumber_109 (by decide) ?_
      rw [pk_sub q3]
      refine ev_icmp_gt 125 dX4_takeNumber_110 (by decide) (fun hc110 => False.elim (nI_nlt (Nat.le_of_not_lt g1) (by omega) hc110)) (fun hc110 => ?_)
      refine ev_iload dX4_takeNumber_113 rfl ?_
      refine ev_iload_n dX4_takeNumber_115 rfl ?_
      refine ev_icmp_lt 125 dX4_takeNumber_116 (by decide) (fun hc116 => False.elim (nI_nlt (Nat.le_of_not_lt g2) (by omega) hc116)) (fun hc116 => ?_)
      refine ev_iload dX4_takeNumber_119 rfl ?_
      refine ev_iload_n dX4_takeNumber_121 rfl ?_
      refine ev_icmp_le 131 dX4_takeNumber_122 (by decide) (fun hc122 => ?_) (fun hc122 => False.elim (hc122 (nI_le (Nat.le_of_not_lt g3) (by omega))))
      refine ev_iload dX4_takeNumber_131 rfl ?_
      exact ev_iretE dX4_takeNumber_133 rfl rfl (by first | rfl | simp_all) (rfl)
def kdI (f : Nat → Int32) (s ln : Nat) : Int32 := if wdB f s ln 2 = true then nI 0 else if wdB f s ln 3 = true then nI 1 else if wdB f s ln 4 = true then nI 2 else if wdB f s ln 5 = true then nI 3 else if wdB f s ln 6 = true then nI 4 else -1
def kdN (f : Nat → Int32) (s ln : Nat) : Nat := if wdB f s ln 2 = true ∨ wdB f s ln 3 = true ∨ wdB f s ln 4 = true ∨ wdB f s ln 5 = true ∨ wdB f s ln 6 = true then 0 else 1
def kE (f : Nat → Int32) (tl a : Nat) : Nat := scn (ltB f) (tl - sB f tl a) (sB f tl a)
def kK (f : Nat → Int32) (tl a : Nat) : Int32 := kdI f (sB f tl a) (kE f tl a - sB f tl a)
def kX (f : Nat → Int32) (tl a : Nat) (x : Nat × Int32) : Nat × Int32 := fl2 x (kdN f (sB f tl a) (kE f tl a - sB f tl a)) (sB f tl a)
theorem kE_le {f : Nat → Int32} {tl a : Nat} (h : a ≤ tl) : sB f tl a ≤ kE f tl a ∧ kE f tl a ≤ tl := scn_tl (sB_le h).2
theorem kdN_le (f : Nat → Int32) (s ln : Nat) : kdN f s ln ≤ 3 := by unfold kdN; split <;> omega
theorem kX_le {f : Nat → Int32} {tl a : Nat} {x : Nat × Int32} (h : x.1 ≤ 3) : (kX f tl a x).1 ≤ 3 := fl2_lt h (kdN_le _ _ _)
theorem kd_neg (f : Nat → Int32) (s ln : Nat) : (kdI f s ln < 0 ↔ kdN f s ln = 1) := by
  unfold kdI kdN
  cases wdB f s ln 2 <;> cases wdB f s ln 3 <;> cases wdB f s ln 4 <;> cases wdB f s ln 5 <;> cases wdB f s ln 6 <;> decide
def teA (f : Nat → Int32) (tl a : Nat) : Nat := if sB f tl a < tl ∧ f (sB f tl a) = nI 59 then sB f tl a + 1 else sB f tl a
def teX (f : Nat → Int32) (tl a : Nat) (x : Nat × Int32) : Nat × Int32 := fl2 x (if sB f tl a < tl ∧ f (sB f tl a) = nI 59 then 0 else 1) (sB f tl a)
theorem teA_le {f : Nat → Int32} {tl a : Nat} (h : a ≤ tl) : teA f tl a ≤ tl := by
  have := sB_le (f := f) h
  unfold teA
  split <;> omega
theorem teX_le {f : Nat → Int32} {tl a : Nat} {x : Nat × Int32} (h : x.1 ≤ 3) : (teX f tl a x).1 ≤ 3 := fl2_lt h (by split <;> omega)
theorem e_takeEnd2 {f : Nat → Int32} {tl : Nat} {C : rf_Mem} (hB : TB tl f C) {x : Nat × Int32} {a : Nat} (ha : a ≤ tl) (hx : x.1 ≤ 3) : Ev LayC mX4_takeEnd 0 (rf_ent 1 [.ref 1]) [] (scM C a x) none (scM C (teA f tl a) (teX f tl a x)) := by
  have h := e_takeEnd hB (p := sB f tl a) ha rfl hx
  unfold teA teX
  by_cases z : sB f tl a < tl ∧ f (sB f tl a) = nI 59
  · rw [if_pos z] at h
    rw [if_pos z, if_pos z, fl2_0]
    exact h
  · rw [if_neg z] at h
    rw [if_neg z, if_neg z]
    exact h
set_option maxRecDepth 20000 in
set_option maxHeartbeats 2000000 in
theorem e_takeKind {f : Nat → Int32} {tl : Nat} {C : rf_Mem} (hB : TB tl f C) {x : Nat × Int32} {a : Nat} (ha : a ≤ tl) (hx : x.1 ≤ 3) : Ev LayC mX4_takeKind 0 (rf_ent 3 [.ref 1]) [] (scM C a x) (some (.int (kK f tl a))) (scM C (kE f tl a) (kX f tl a x)) := by
  have h400 := hB.2.1
  obtain ⟨q1, q2⟩ := sB_le (f := f) ha
  obtain ⟨q3, q4⟩ := kE_le (f := f) ha
  have eE : scn (ltB f) (tl - sB f tl (a)) (sB f tl (a)) = kE f tl a := rfl
  unfold kK kX kdI kdN
  by_cases w2 : wdB f (sB f tl (a)) (kE f tl a - sB f tl (a)) 2 = true
  · rw [if_pos (show wdB f (sB f tl (a)) (kE f tl a - sB f tl (a)) 2 = true ∨ wdB f (sB f tl (a)) (kE f tl a - sB f tl (a)) 3 = true ∨ wdB f (sB f tl (a)) (kE f tl a - sB f tl (a)) 4 = true ∨ wdB f (sB f tl (a)) (kE f tl a - sB f tl (a)) 5 = true ∨ wdB f (sB f tl (a)) (kE f tl a - sB f tl (a)) 6 = true by simp only [w2, true_or, or_true]), fl2_0, if_pos w2]
    refine ev_aload_n dX4_takeKind_0 rfl ?_
    refine ev_cV0v dX4_takeKind_1 ceX4_skipBlanks kX4_33 (rm_le rfl rfl) (Nat.le_of_ble_eq_true rfl) (Nat.le_of_ble_eq_true rfl) (e_skipB hB ha) (by first | assumption | rfl) ?_
    refine ev_aload_n dX4_takeKind_4 rfl ?_
    refine ev_getI dX4_takeKind_5 fX4_25 (by first | assumption | rfl) (by rfl) ?_
    rw [sc_4]
    refine ev_istore_k 1 dX4_takeKind_8 rfl (by decide) rfl ?_
    refine ev_aload_n dX4_takeKind_9 rfl ?_
    refine ev_cV0 dX4_takeKind_10 ceX4_wordEnd kX4_40 (rm_le rfl rfl) (Nat.le_of_ble_eq_true rfl) (Nat.le_of_ble_eq_true rfl) (e_wordEnd hB q2) (by first | assumption | rfl) ?_
    rw [eE]
    refine ev_istore_k 2 dX4_takeKind_13 rfl (by decide) rfl ?_
    refine ev_aload_n dX4_takeKind_14 rfl ?_
    refine ev_iload_n dX4_takeKind_15 rfl ?_
    refine ev_put dX4_takeKind_16 pX4_25 (by first | assumption | rfl) (by rfl) (rfl) (rfl) ?_
    rw [sc_p4]
    refine ev_aload_n dX4_takeKind_19 rfl ?_
    refine ev_iload_n dX4_takeKind_20 rfl ?_
    refine ev_iload_n dX4_takeKind_21 rfl ?_
    refine ev_ldcS (j := 2) dX4_takeKind_22 rfl rfl ?_
    refine ev_cV3 dX4_takeKind_24 ceX4_spells kX4_46 (rm_le rfl rfl) (Nat.le_of_ble_eq_true rfl) (Nat.le_of_ble_eq_true rfl) (e_spells hB (j := 2) (by decide) q3 q4) (by first | assumption | rfl) ?_
    refine ev_if_eq 32 dX4_takeKind_27 (by decide) (fun hc27 => False.elim (by rw [b2i_0, show wdB f (sB f tl (a)) (kE f tl a - sB f tl (a)) 2 = true from w2] at hc27; cases hc27)) (fun hc27 => ?_)
    refine ev_iconst (v := (nI 0)) dX4_takeKind_30 (by decide) ?_
    exact ev_iretE dX4_takeKind_31 rfl rfl (by first | rfl | simp_all) (rfl)
  · skip
    by_cases w3 : wdB f (sB f tl (a)) (kE f tl a - sB f tl (a)) 3 = true
    · rw [if_pos (show wdB f (sB f tl (a)) (kE f tl a - sB f tl (a)) 2 = true ∨ wdB f (sB f tl (a)) (kE f tl a - sB f tl (a)) 3 = true ∨ wdB f (sB f tl (a)) (kE f tl a - sB f tl (a)) 4 = true ∨ wdB f (sB f tl (a)) (kE f tl a - sB f tl (a)) 5 = true ∨ wdB f (sB f tl (a)) (kE f tl a - sB f tl (a)) 6 = true by simp only [w3, true_or, or_true]), fl2_0, if_neg w2, if_pos w3]
      refine ev_aload_n dX4_takeKind_0 rfl ?_
      refine ev_cV0v dX4_takeKind_1 ceX4_skipBlanks kX4_33 (rm_le rfl rfl) (Nat.le_of_ble_eq_true rfl) (Nat.le_of_ble_eq_true rfl) (e_skipB hB ha) (by first | assumption | rfl) ?_
      refine ev_aload_n dX4_takeKind_4 rfl ?_
      refine ev_getI dX4_takeKind_5 fX4_25 (by first | assumption | rfl) (by rfl) ?_
      rw [sc_4]
      refine ev_istore_k 1 dX4_takeKind_8 rfl (by decide) rfl ?_
      refine ev_aload_n dX4_takeKind_9 rfl ?_
      refine ev_cV0 dX4_takeKind_10 ceX4_wordEnd kX4_40 (rm_le rfl rfl) (Nat.le_of_ble_eq_true rfl) (Nat.le_of_ble_eq_true rfl) (e_wordEnd hB q2) (by first | assumption | rfl) ?_
      rw [eE]
      refine ev_istore_k 2 dX4_takeKind_13 rfl (by decide) rfl ?_
      refine ev_aload_n dX4_takeKind_14 rfl ?_
      refine ev_iload_n dX4_takeKind_15 rfl ?_
      refine ev_put dX4_takeKind_16 pX4_25 (by first | assumption | rfl) (by rfl) (rfl) (rfl) ?_
      rw [sc_p4]
      refine ev_aload_n dX4_takeKind_19 rfl ?_
      refine ev_iload_n dX4_takeKind_20 rfl ?_
      refine ev_iload_n dX4_takeKind_21 rfl ?_
      refine ev_ldcS (j := 2) dX4_takeKind_22 rfl rfl ?_
      refine ev_cV3 dX4_takeKind_24 ceX4_spells kX4_46 (rm_le rfl rfl) (Nat.le_of_ble_eq_true rfl) (Nat.le_of_ble_eq_true rfl) (e_spells hB (j := 2) (by decide) q3 q4) (by first | assumption | rfl) ?_
      refine ev_if_eq 32 dX4_takeKind_27 (by decide) (fun hc27 => ?_) (fun hc27 => False.elim (hc27 (by rw [b2i_0]; simpa using w2)))
      refine ev_aload_n dX4_takeKind_32 rfl ?_
      refine ev_iload_n dX4_takeKind_33 rfl ?_
      refine ev_iload_n dX4_takeKind_34 rfl ?_
      refine ev_ldcS (j := 3) dX4_takeKind_35 rfl rfl ?_
      refine ev_cV3 dX4_takeKind_37 ceX4_spells kX4_46 (rm_le rfl rfl) (Nat.le_of_ble_eq_true rfl) (Nat.le_of_ble_eq_true rfl) (e_spells hB (j := 3) (by decide) q3 q4) (by first | assumption | rfl) ?_
      refine ev_if_eq 45 dX4_takeKind_40 (by decide) (fun hc40 => False.elim (by rw [b2i_0, show wdB f (sB f tl (a)) (kE f tl a - sB f tl (a)) 3 = true from w3] at hc40; cases hc40)) (fun hc40 => ?_)
      refine ev_iconst (v := (nI 1)) dX4_takeKind_43 (by decide) ?_
      exact ev_iretE dX4_takeKind_44 rfl rfl (by first | rfl | simp_all) (rfl)
    · skip
      by_cases w4 : wdB f (sB f tl (a)) (kE f tl a - sB f tl (a)) 4 = true
      · rw [if_pos (show wdB f (sB f tl (a)) (kE f tl a - sB f tl (a)) 2 = true ∨ wdB f (sB f tl (a)) (kE f tl a - sB f tl (a)) 3 = true ∨ wdB f (sB f tl (a)) (kE f tl a - sB f tl (a)) 4 = true ∨ wdB f (sB f tl (a)) (kE f tl a - sB f tl (a)) 5 = true ∨ wdB f (sB f tl (a)) (kE f tl a - sB f tl (a)) 6 = true by simp only [w4, true_or, or_true]), fl2_0, if_neg w2, if_neg w3, if_pos w4]
        refine ev_aload_n dX4_takeKind_0 rfl ?_
        refine ev_cV0v dX4_takeKind_1 ceX4_skipBlanks kX4_33 (rm_le rfl rfl) (Nat.le_of_ble_eq_true rfl) (Nat.le_of_ble_eq_true rfl) (e_skipB hB ha) (by first | assumption | rfl) ?_
        refine ev_aload_n dX4_takeKind_4 rfl ?_
        refine ev_getI dX4_takeKind_5 fX4_25 (by first | assumption | rfl) (by rfl) ?_
        rw [sc_4]
        refine ev_istore_k 1 dX4_takeKind_8 rfl (by decide) rfl ?_
        refine ev_aload_n dX4_takeKind_9 rfl ?_
        refine ev_cV0 dX4_takeKind_10 ceX4_wordEnd kX4_40 (rm_le rfl rfl) (Nat.le_of_ble_eq_true rfl) (Nat.le_of_ble_eq_true rfl) (e_wordEnd hB q2) (by first | assumption | rfl) ?_
        rw [eE]
        refine ev_istore_k 2 dX4_takeKind_13 rfl (by decide) rfl ?_
        refine ev_aload_n dX4_takeKind_14 rfl ?_
        refine ev_iload_n dX4_takeKind_15 rfl ?_
        refine ev_put dX4_takeKind_16 pX4_25 (by first | assumption | rfl) (by rfl) (rfl) (rfl) ?_
        rw [sc_p4]
        refine ev_aload_n dX4_takeKind_19 rfl ?_
        refine ev_iload_n dX4_takeKind_20 rfl ?_
        refine ev_iload_n dX4_takeKind_21 rfl ?_
        refine ev_ldcS (j := 2) dX4_takeKind_22 rfl rfl ?_
        refine ev_cV3 dX4_takeKind_24 ceX4_spells kX4_46 (rm_le rfl rfl) (Nat.le_of_ble_eq_true rfl) (Nat.le_of_ble_eq_true rfl) (e_spells hB (j := 2) (by decide) q3 q4) (by first | assumption | rfl) ?_
        refine ev_if_eq 32 dX4_takeKind_27 (by decide) (fun hc27 => ?_) (fun hc27 => False.elim (hc27 (by rw [b2i_0]; simpa using w2)))
        refine ev_aload_n dX4_takeKind_32 rfl ?_
        refine ev_iload_n dX4_takeKind_33 rfl ?_
        refine ev_iload_n dX4_takeKind_34 rfl ?_
        refine ev_ldcS (j := 3) dX4_takeKind_35 rfl rfl ?_
        refine ev_cV3 dX4_takeKind_37 ceX4_spells kX4_46 (rm_le rfl rfl) (Nat.le_of_ble_eq_true rfl) (Nat.le_of_ble_eq_true rfl) (e_spells hB (j := 3) (by decide) q3 q4) (by first | assumption | rfl) ?_
        refine ev_if_eq 45 dX4_takeKind_40 (by decide) (fun hc40 => ?_) (fun hc40 => False.elim (hc40 (by rw [b2i_0]; simpa using w3)))
        refine ev_aload_n dX4_takeKind_45 rfl ?_
        refine ev_iload_n dX4_takeKind_46 rfl ?_
        refine ev_iload_n dX4_takeKind_47 rfl ?_
        refine ev_ldcS (j := 4) dX4_takeKind_48 rfl rfl ?_
        refine ev_cV3 dX4_takeKind_50 ceX4_spells kX4_46 (rm_le rfl rfl) (Nat.le_of_ble_eq_true rfl) (Nat.le_of_ble_eq_true rfl) (e_spells hB (j := 4) (by decide) q3 q4) (by first | assumption | rfl) ?_
        refine ev_if_eq 58 dX4_takeKind_53 (by decide) (fun hc53 => False.elim (by rw [b2i_0, show wdB f (sB f tl (a)) (kE f tl a - sB f tl (a)) 4 = true from w4] at hc53; cases hc53)) (fun hc53 => ?_)
        refine ev_iconst (v := (nI 2)) dX4_takeKind_56 (by decide) ?_
        exact ev_iretE dX4_takeKind_57 rfl rfl (by first | rfl | simp_all) (rfl)
      · skip
        by_cases w5 : wdB f (sB f tl (a)) (kE f tl a - sB f tl (a)) 5 = true
        · rw [if_pos (show wdB f (sB f tl (a)) (kE f tl a - sB f tl (a)) 2 = true ∨ wdB f (sB f tl (a)) (kE f tl a - sB f tl (a)) 3 = true ∨ wdB f (sB f tl (a)) (kE f tl a - sB f tl (a)) 4 = true ∨ wdB f (sB f tl (a)) (kE f tl a - sB f tl (a)) 5 = true ∨ wdB f (sB f tl (a)) (kE f tl a - sB f tl (a)) 6 = true by simp only [w5, true_or, or_true]), fl2_0, if_neg w2, if_neg w3, if_neg w4, if_pos w5]
          refine ev_aload_n dX4_takeKind_0 rfl ?_
          refine ev_cV0v dX4_takeKind_1 ceX4_skipBlanks kX4_33 (rm_le rfl rfl) (Nat.le_of_ble_eq_true rfl) (Nat.le_of_ble_eq_true rfl) (e_skipB hB ha) (by first | assumption | rfl) ?_
          refine ev_aload_n dX4_takeKind_4 rfl ?_
          refine ev_getI dX4_takeKind_5 fX4_25 (by first | assumption | rfl) (by rfl) ?_
          rw [sc_4]
          refine ev_istore_k 1 dX4_takeKind_8 rfl (by decide) rfl ?_
          refine ev_aload_n dX4_takeKind_9 rfl ?_
          refine ev_cV0 dX4_takeKind_10 ceX4_wordEnd kX4_40 (rm_le rfl rfl) (Nat.le_of_ble_eq_true rfl) (Nat.le_of_ble_eq_true rfl) (e_wordEnd hB q2) (by first | assumption | rfl) ?_
          rw [eE]
          refine ev_istore_k 2 dX4_takeKind_13 rfl (by decide) rfl ?_
          refine ev_aload_n dX4_takeKind_14 rfl ?_
          refine ev_iload_n dX4_takeKind_15 rfl ?_
          refine ev_put dX4_takeKind_16 pX4_25 (by first | assumption | rfl) (by rfl) (rfl) (rfl) ?_
          rw [sc_p4]
          refine ev_aload_n dX4_takeKind_19 rfl ?_
          refine ev_iload_n dX4_takeKind_20 rfl ?_
          refine ev_iload_n dX4_takeKind_21 rfl ?_
          refine ev_ldcS (j := 2) dX4_takeKind_22 rfl rfl ?_
          refine ev_cV3 dX4_takeKind_24 ceX4_spells kX4_46 (rm_le rfl rfl) (Nat.le_of_ble_eq_true rfl) (Nat.le_of_ble_eq_true rfl) (e_spells hB (j := 2) (by decide) q3 q4) (by first | assumption | rfl) ?_
          refine ev_if_eq 32 dX4_takeKind_27 (by decide) (fun hc27 => ?_) (fun hc27 => False.elim (hc27 (by rw [b2i_0]; simpa using w2)))
          refine ev_aload_n dX4_takeKind_32 rfl ?_
          refine ev_iload_n dX4_takeKind_33 rfl ?_
          refine ev_iload_n dX4_takeKind_34 rfl ?_
          refine ev_ldcS (j := 3) dX4_takeKind_35 rfl rfl ?_
          refine ev_cV3 dX4_takeKind_37 ceX4_spells kX4_46 (rm_le rfl rfl) (Nat.le_of_ble_eq_true rfl) (Nat.le_of_ble_eq_true rfl) (e_spells hB (j := 3) (by decide) q3 q4) (by first | assumption | rfl) ?_
          refine ev_if_eq 45 dX4_takeKind_40 (by decide) (fun hc40 => ?_) (fun hc40 => False.elim (hc40 (by rw [b2i_0]; simpa using w3)))
          refine ev_aload_n dX4_takeKind_45 rfl ?_
          refine ev_iload_n dX4_takeKind_46 rfl ?_
          refine ev_iload_n dX4_takeKind_47 rfl ?_
          refine ev_ldcS (j := 4) dX4_takeKind_48 rfl rfl ?_
          refine ev_cV3 dX4_takeKind_50 ceX4_spells kX4_46 (rm_le rfl rfl) (Nat.le_of_ble_eq_true rfl) (Nat.le_of_ble_eq_true rfl) (e_spells hB (j := 4) (by decide) q3 q4) (by first | assumption | rfl) ?_
          refine ev_if_eq 58 dX4_takeKind_53 (by decide) (fun hc53 => ?_) (fun hc53 => False.elim (hc53 (by rw [b2i_0]; simpa using w4)))
          refine ev_aload_n dX4_takeKind_58 rfl ?_
          refine ev_iload_n dX4_takeKind_59 rfl ?_
          refine ev_iload_n dX4_takeKind_60 rfl ?_
          refine ev_ldcS (j := 5) dX4_takeKind_61 rfl rfl ?_
          refine ev_cV3 dX4_takeKind_63 ceX4_spells kX4_46 (rm_le rfl rfl) (Nat.le_of_ble_eq_true rfl) (Nat.le_of_ble_eq_true rfl) (e_spells hB (j := 5) (by decide) q3 q4) (by first | assumption | rfl) ?_
          refine ev_if_eq 71 dX4_takeKind_66 (by decide) (fun hc66 => False.elim (by rw [b2i_0, show wdB f (sB f tl (a)) (kE f tl a - sB f tl (a)) 5 = true from w5] at hc66; cases hc66)) (fun hc66 => ?_)
          refine ev_iconst (v := (nI 3)) dX4_takeKind_69 (by decide) ?_
          exact ev_iretE dX4_takeKind_70 rfl rfl (by first | rfl | simp_all) (rfl)
        · skip
          by_cases w6 : wdB f (sB f tl (a)) (kE f tl a - sB f tl (a)) 6 = true
          · rw [if_pos (show wdB f (sB f tl (a)) (kE f tl a - sB f tl (a)) 2 = true ∨ wdB f (sB f tl (a)) (kE f tl a - sB f tl (a)) 3 = true ∨ wdB f (sB f tl (a)) (kE f tl a - sB f tl (a)) 4 = true ∨ wdB f (sB f tl (a)) (kE f tl a - sB f tl (a)) 5 = true ∨ wdB f (sB f tl (a)) (kE f tl a - sB f tl (a)) 6 = true by simp only [w6, true_or, or_true]), fl2_0, if_neg w2, if_neg w3, if_neg w4, if_neg w5, if_pos w6]
            refine ev_aload_n dX4_takeKind_0 rfl ?_
            refine ev_cV0v dX4_takeKind_1 ceX4_skipBlanks kX4_33 (rm_le rfl rfl) (Nat.le_of_ble_eq_true rfl) (Nat.le_of_ble_eq_true rfl) (e_skipB hB ha) (by first | assumption | rfl) ?_
            refine ev_aload_n dX4_takeKind_4 rfl ?_
            refine ev_getI dX4_takeKind_5 fX4_25 (by first | assumption | rfl) (by rfl) ?_
            rw [sc_4]
            refine ev_istore_k 1 dX4_takeKind_8 rfl (by decide) rfl ?_
            refine ev_aload_n dX4_takeKind_9 rfl ?_
            refine ev_cV0 dX4_takeKind_10 ceX4_wordEnd kX4_40 (rm_le rfl rfl) (Nat.le_of_ble_eq_true rfl) (Nat.le_of_ble_eq_true rfl) (e_wordEnd hB q2) (by first | assumption | rfl) ?_
            rw [eE]
            refine ev_istore_k 2 dX4_takeKind_13 rfl (by decide) rfl ?_
            refine ev_aload_n dX4_takeKind_14 rfl ?_
            refine ev_iload_n dX4_takeKind_15 rfl ?_
            refine ev_put dX4_takeKind_16 pX4_25 (by first | assumption | rfl) (by rfl) (rfl) (rfl) ?_
            rw [sc_p4]
            refine ev_aload_n dX4_takeKind_19 rfl ?_
            refine ev_iload_n dX4_takeKind_20 rfl ?_
            refine ev_iload_n dX4_takeKind_21 rfl ?_
            refine ev_ldcS (j := 2) dX4_takeKind_22 rfl rfl ?_
            refine ev_cV3 dX4_takeKind_24 ceX4_spells kX4_46 (rm_le rfl rfl) (Nat.le_of_ble_eq_true rfl) (Nat.le_of_ble_eq_true rfl) (e_spells hB (j := 2) (by decide) q3 q4) (by first | assumption | rfl) ?_
            refine ev_if_eq 32 dX4_takeKind_27 (by decide) (fun hc27 => ?_) (fun hc27 => False.elim (hc27 (by rw [b2i_0]; simpa using w2)))
            refine ev_aload_n dX4_takeKind_32 rfl ?_
            refine ev_iload_n dX4_takeKind_33 rfl ?_
            refine ev_iload_n dX4_takeKind_34 rfl ?_
            refine ev_ldcS (j := 3) dX4_takeKind_35 rfl rfl ?_
            refine ev_cV3 dX4_takeKind_37 ceX4_spells kX4_46 (rm_le rfl rfl) (Nat.le_of_ble_eq_true rfl) (Nat.le_of_ble_eq_true rfl) (e_spells hB (j := 3) (by decide) q3 q4) (by first | assumption | rfl) ?_
            refine ev_if_eq 45 dX4_takeKind_40 (by decide) (fun hc40 => ?_) (fun hc40 => False.elim (hc40 (by rw [b2i_0]; simpa using w3)))
            refine ev_aload_n dX4_takeKind_45 rfl ?_
            refine ev_iload_n dX4_takeKind_46 rfl ?_
            refine ev_iload_n dX4_takeKind_47 rfl ?_
            refine ev_ldcS (j := 4) dX4_takeKind_48 rfl rfl ?_
            refine ev_cV3 dX4_takeKind_50 ceX4_spells kX4_46 (rm_le rfl rfl) (Nat.le_of_ble_eq_true rfl) (Nat.le_of_ble_eq_true rfl) (e_spells hB (j := 4) (by decide) q3 q4) (by first | assumption | rfl) ?_
            refine ev_if_eq 58 dX4_takeKind_53 (by decide) (fun hc53 => ?_) (fun hc53 => False.elim (hc53 (by rw [b2i_0]; simpa using w4)))
            refine ev_aload_n dX4_takeKind_58 rfl ?_
            refine ev_iload_n dX4_takeKind_59 rfl ?_
            refine ev_iload_n dX4_takeKind_60 rfl ?_
            refine ev_ldcS (j := 5) dX4_takeKind_61 rfl rfl ?_
            refine ev_cV3 dX4_takeKind_63 ceX4_spells kX4_46 (rm_le rfl rfl) (Nat.le_of_ble_eq_true rfl) (Nat.le_of_ble_eq_true rfl) (e_spells hB (j := 5) (by decide) q3 q4) (by first | assumption | rfl) ?_
            refine ev_if_eq 71 dX4_takeKind_66 (by decide) (fun hc66 => ?_) (fun hc66 => False.elim (hc66 (by rw [b2i_0]; simpa using w5)))
            refine ev_aload_n dX4_takeKind_71 rfl ?_
            refine ev_iload_n dX4_takeKind_72 rfl ?_
            refine ev_iload_n dX4_takeKind_73 rfl ?_
            refine ev_ldcS (j := 6) dX4_takeKind_74 rfl rfl ?_
            refine ev_cV3 dX4_takeKind_76 ceX4_spells kX4_46 (rm_le rfl rfl) (Nat.le_of_ble_eq_true rfl) (Nat.le_of_ble_eq_true rfl) (e_spells hB (j := 6) (by decide) q3 q4) (by first | assumption | rfl) ?_
            refine ev_if_eq 84 dX4_takeKind_79 (by decide) (fun hc79 => False.elim (by rw [b2i_0, show wdB f (sB f tl (a)) (kE f tl a - sB f tl (a)) 6 = true from w6] at hc79; cases hc79)) (fun hc79 => ?_)
            refine ev_iconst (v := (nI 4)) dX4_takeKind_82 (by decide) ?_
            exact ev_iretE dX4_takeKind_83 rfl rfl (by first | rfl | simp_all) (rfl)
          · skip
            have wn : ¬ (wdB f (sB f tl (a)) (kE f tl a - sB f tl (a)) 2 = true ∨ wdB f (sB f tl (a)) (kE f tl a - sB f tl (a)) 3 = true ∨ wdB f (sB f tl (a)) (kE f tl a - sB f tl (a)) 4 = true ∨ wdB f (sB f tl (a)) (kE f tl a - sB f tl (a)) 5 = true ∨ wdB f (sB f tl (a)) (kE f tl a - sB f tl (a)) 6 = true) := fun z => z.elim w2 (fun z => z.elim w3 (fun z => z.elim w4 (fun z => z.elim w5 w6)))
            rw [if_neg wn, if_neg w2, if_neg w3, if_neg w4, if_neg w5, if_neg w6]
            refine ev_aload_n dX4_takeKind_0 rfl ?_
            refine ev_cV0v dX4_takeKind_1 ceX4_skipBlanks kX4_33 (rm_le rfl rfl) (Nat.le_of_ble_eq_true rfl) (Nat.le_of_ble_eq_true rfl) (e_skipB hB ha) (by first | assumption | rfl) ?_
            refine ev_aload_n dX4_takeKind_4 rfl ?_
            refine ev_getI dX4_takeKind_5 fX4_25 (by first | assumption | rfl) (by rfl) ?_
            rw [sc_4]
            refine ev_istore_k 1 dX4_takeKind_8 rfl (by decide) rfl ?_
            refine ev_aload_n dX4_takeKind_9 rfl ?_
            refine ev_cV0 dX4_takeKind_10 ceX4_wordEnd kX4_40 (rm_le rfl rfl) (Nat.le_of_ble_eq_true rfl) (Nat.le_of_ble_eq_true rfl) (e_wordEnd hB q2) (by first | assumption | rfl) ?_
            rw [eE]
            refine ev_istore_k 2 dX4_takeKind_13 rfl (by decide) rfl ?_
            refine ev_aload_n dX4_takeKind_14 rfl ?_
            refine ev_iload_n dX4_takeKind_15 rfl ?_
            refine ev_put dX4_takeKind_16 pX4_25 (by first | assumption | rfl) (by rfl) (rfl) (rfl) ?_
            rw [sc_p4]
            refine ev_aload_n dX4_takeKind_19 rfl ?_
            refine ev_iload_n dX4_takeKind_20 rfl ?_
            refine ev_iload_n dX4_takeKind_21 rfl ?_
            refine ev_ldcS (j := 2) dX4_takeKind_22 rfl rfl ?_
            refine ev_cV3 dX4_takeKind_24 ceX4_spells kX4_46 (rm_le rfl rfl) (Nat.le_of_ble_eq_true rfl) (Nat.le_of_ble_eq_true rfl) (e_spells hB (j := 2) (by decide) q3 q4) (by first | assumption | rfl) ?_
            refine ev_if_eq 32 dX4_takeKind_27 (by decide) (fun hc27 => ?_) (fun hc27 => False.elim (hc27 (by rw [b2i_0]; simpa using w2)))
            refine ev_aload_n dX4_takeKind_32 rfl ?_
            refine ev_iload_n dX4_takeKind_33 rfl ?_
            refine ev_iload_n dX4_takeKind_34 rfl ?_
            refine ev_ldcS (j := 3) dX4_takeKind_35 rfl rfl ?_
            refine ev_cV3 dX4_takeKind_37 ceX4_spells kX4_46 (rm_le rfl rfl) (Nat.le_of_ble_eq_true rfl) (Nat.le_of_ble_eq_true rfl) (e_spells hB (j := 3) (by decide) q3 q4) (by first | assumption | rfl) ?_
            refine ev_if_eq 45 dX4_takeKind_40 (by decide) (fun hc40 => ?_) (fun hc40 => False.elim (hc40 (by rw [b2i_0]; simpa using w3)))
            refine ev_aload_n dX4_takeKind_45 rfl ?_
            refine ev_iload_n dX4_takeKind_46 rfl ?_
            refine ev_iload_n dX4_takeKind_47 rfl ?_
            refine ev_ldcS (j := 4) dX4_takeKind_48 rfl rfl ?_
            refine ev_cV3 dX4_takeKind_50 ceX4_spells kX4_46 (rm_le rfl rfl) (Nat.le_of_ble_eq_true rfl) (Nat.le_of_ble_eq_true rfl) (e_spells hB (j := 4) (by decide) q3 q4) (by first | assumption | rfl) ?_
            refine ev_if_eq 58 dX4_takeKind_53 (by decide) (fun hc53 => ?_) (fun hc53 => False.elim (hc53 (by rw [b2i_0]; simpa using w4)))
            refine ev_aload_n dX4_takeKind_58 rfl ?_
            refine ev_iload_n dX4_takeKind_59 rfl ?_
            refine ev_iload_n dX4_takeKind_60 rfl ?_
            refine ev_ldcS (j := 5) dX4_takeKind_61 rfl rfl ?_
            refine ev_cV3 dX4_takeKind_63 ceX4_spells kX4_46 (rm_le rfl rfl) (Nat.le_of_ble_eq_true rfl) (Nat.le_of_ble_eq_true rfl) (e_spells hB (j := 5) (by decide) q3 q4) (by first | assumption | rfl) ?_
            refine ev_if_eq 71 dX4_takeKind_66 (by decide) (fun hc66 => ?_) (fun hc66 => False.elim (hc66 (by rw [b2i_0]; simpa using w5)))
            refine ev_aload_n dX4_takeKind_71 rfl ?_
            refine ev_iload_n dX4_takeKind_72 rfl ?_
            refine ev_iload_n dX4_takeKind_73 rfl ?_
            refine ev_ldcS (j := 6) dX4_takeKind_74 rfl rfl ?_
            refine ev_cV3 dX4_takeKind_76 ceX4_spells kX4_46 (rm_le rfl rfl) (Nat.le_of_ble_eq_true rfl) (Nat.le_of_ble_eq_true rfl) (e_spells hB (j := 6) (by decide) q3 q4) (by first | assumption | rfl) ?_
            refine ev_if_eq 84 dX4_takeKind_79 (by decide) (fun hc79 => ?_) (fun hc79 => False.elim (hc79 (by rw [b2i_0]; simpa using w6)))
            refine ev_aload_n dX4_takeKind_84 rfl ?_
            refine ev_iconst (v := (nI 1)) dX4_takeKind_85 (by decide) ?_
            refine ev_iload_n dX4_takeKind_86 rfl ?_
            refine ev_cV2v dX4_takeKind_87 ceX4_fail kX4_64 (rm_le rfl rfl) (Nat.le_of_ble_eq_true rfl) (Nat.le_of_ble_eq_true rfl) (e_fail (by decide) hx) (by first | assumption | rfl) ?_
            refine ev_iconst (v := (-1)) dX4_takeKind_90 (by decide) ?_
            exact ev_iretE dX4_takeKind_91 rfl rfl (by first | rfl | simp_all) (rfl)
