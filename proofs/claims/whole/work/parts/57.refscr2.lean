/-! the reference's numbers, kinds -/
theorem TG.set {tl : Nat} {f : Nat → Int32} {G : rf_Mem} (h : TG tl f G) {c j : Nat} {v : Int32} (h0 : c ≠ 0) (h8 : c ≠ 8) : TG tl f (rf_set G c j v) := ⟨by rw [gs_q _ _ _ (fun z => h0 z.symm)]; exact h.1, h.2.1, fun i hi => by rw [gs_q _ _ _ (fun z => h8 z.symm)]; exact h.2.2 i hi⟩
theorem TG.set0 {tl : Nat} {f : Nat → Int32} {G : rf_Mem} (h : TG tl f G) {j : Nat} {v : Int32} (hj : j ≠ 11) : TG tl f (rf_set G 0 j v) := ⟨by rw [gs_k _ _ _ (fun z => hj z.symm)]; exact h.1, h.2.1, fun i hi => by rw [gs_q _ _ _ (by decide)]; exact h.2.2 i hi⟩
def rv (f : Nat → Int32) (s : Nat) : Nat → Nat
  | 0 => 0
  | m + 1 => if 99999 < rv f s m then rv f s m else 10 * rv f s m + bN f (s + m) - 48
theorem rv_le {f : Nat → Int32} {s : Nat} : ∀ {m : Nat}, (∀ k, k < m → 48 ≤ bN f (s + k) ∧ bN f (s + k) ≤ 57) → rv f s m ≤ 999999
  | 0, _ => by simp [rv]
  | m + 1, h => by
    have h1 := rv_le (m := m) (fun k hk => h k (by omega))
    have h2 := h m (by omega)
    rw [rv]
    split <;> omega
theorem rv_3 {f : Nat → Int32} {s : Nat} : ∀ {m : Nat}, m ≤ 3 → (∀ k, k < m → 48 ≤ bN f (s + k) ∧ bN f (s + k) ≤ 57) → rv f s m = nv f s m
  | 0, _, _ => rfl
  | m + 1, hm, h => by
    have h1 := rv_3 (m := m) (by omega) (fun k hk => h k (by omega))
    have h2 := nv_3 (m := m) (by omega) (fun k hk => h k (by omega))
    rw [rv, nv, h1, if_neg (by omega), Nat.mul_comm]
theorem tnX_x {f : Nat → Int32} {tl lo hi a : Nat} {x : Nat × Int32} (h : x.1 ≠ 0) : tnX f tl lo hi a x = x := fl2_x h _ _
theorem teX_x {f : Nat → Int32} {tl a : Nat} {x : Nat × Int32} (h : x.1 ≠ 0) : teX f tl a x = x := fl2_x h _ _
theorem kX_x {f : Nat → Int32} {tl a : Nat} {x : Nat × Int32} (h : x.1 ≠ 0) : kX f tl a x = x := fl2_x h _ _
set_option maxRecDepth 20000 in
set_option maxHeartbeats 2000000 in
theorem rt_all {f : Nat → Int32} {tl : Nat} {G : rf_Mem} (hB : TG tl f G) (hF : TF tl f) {x : Nat × Int32} {lo hi c : Int32} {s ln : Nat} : ∀ (n m : Nat), tl - (s + m) = n → s + m ≤ tl → (∀ k, k < m → 48 ≤ bN f (s + k) ∧ bN f (s + k) ≤ 57) → (∀ r M', Ev LayM mX7_takeNumber 128 [some (.ref 0), some (.int (lo)), some (.int (hi)), some (.int (c)), some (.int (nI (rv f s (scn (dgB f) n (s + m) - s)))), none] [] (rsM (G) (scn (dgB f) n (s + m)) (s) (ln) (x)) r M' → Ev LayM mX7_takeNumber 50 [some (.ref 0), some (.int (lo)), some (.int (hi)), some (.int (c)), some (.int (nI (rv f s m))), none] [] (rsM (G) (s + m) (s) (ln) (x)) r M') := by
  have h400 := hB.2.1
  intro n
  induction n with
  | zero =>
    intro m hn hm hd r M' hE
    have e0 : s + m = tl := by omega
    rw [scn, Nat.add_sub_cancel_left] at hE
    refine ev_aload_n dX7_takeNumber_50 rfl ?_
    refine ev_getI dX7_takeNumber_51 fX7_70 (by first | assumption | rfl) (by rfl) ?_
    rw [rs_12]
    refine ev_aload_n dX7_takeNumber_54 rfl ?_
    refine ev_getI dX7_takeNumber_55 fX7_64 (by first | assumption | rfl) (by rfl) ?_
    rw [rs_11, hB.1]
    refine ev_icmp_ge 128 dX7_takeNumber_58 (by decide) (fun hc58 => ?_) (fun hc58 => False.elim (hc58 (nI_le (by omega) (by omega))))
    exact hE
  | succ n ih =>
    intro m hn hm hd r M' hE
    by_cases hp : dgB f (s + m) = true
    · rw [scn_yes hp] at hE
      obtain ⟨bb, b1, b2, b3, b4⟩ := dg_val hF (by omega) hp
      have hi2 := ih (m + 1) (by omega) (by omega) (fun k hk => by
        rcases Nat.lt_or_ge k m with z | z
        · exact hd k z
        · have e9 : k = m := by omega
          rw [e9, b4]; exact ⟨b1, b2⟩) r M' hE
      have q9 := rv_le hd
      by_cases h3 : 99999 < rv f s m
      · rw [rv, if_pos h3] at hi2
        refine ev_aload_n dX7_takeNumber_50 rfl ?_
        refine ev_getI dX7_takeNumber_51 fX7_70 (by first | assumption | rfl) (by rfl) ?_
        rw [rs_12]
        refine ev_aload_n dX7_takeNumber_54 rfl ?_
        refine ev_getI dX7_takeNumber_55 fX7_64 (by first | assumption | rfl) (by rfl) ?_
        rw [rs_11, hB.1]
        refine ev_icmp_ge 128 dX7_takeNumber_58 (by decide) (fun hc58 => False.elim (nI_ge (show s + m < tl by omega) (by omega) hc58)) (fun hc58 => ?_)
        refine ev_aload_n dX7_takeNumber_61 rfl ?_
        refine ev_getR dX7_takeNumber_62 fX7_36 (by first | assumption | rfl) (by rfl) ?_
        refine ev_aload_n dX7_takeNumber_65 rfl ?_
        refine ev_getI dX7_takeNumber_66 fX7_70 (by first | assumption | rfl) (by rfl) ?_
        rw [rs_12]
        refine ev_ialdE _ dX7_takeNumber_69 (by first | with_reducible rfl | with_reducible exact nI_add _ _ | with_reducible exact ix3 _ _ _ | with_reducible exact ix_k _ _ _ | with_reducible exact ix_xk _ _ _ _) (by first | assumption | rfl) ⟨by omega, by decide⟩ ?_
        rw [rs_o (show 8 ≠ 0 by decide), hB.2.2 _ (by omega)]
        refine ev_i2l dX7_takeNumber_70 ?_
        refine ev_ldc2 dX7_takeNumber_71 nX7_90 ?_
        refine ev_ldc2 dX7_takeNumber_74 nX7_92 ?_
        refine ev_cS3 dX7_takeNumber_77 ceX7_in kX7_59 (rm_le rfl rfl) (Nat.le_of_ble_eq_true rfl) (Nat.le_of_ble_eq_true rfl) (e7_in) ?_
        rw [in_c _ (nI 48) (nI 57) (by decide) (by decide), show (!decide (f (s + m) < nI 48) && !decide (nI 57 < f (s + m))) = dgB f (s + m) from rfl]
        refine ev_if_eq 128 dX7_takeNumber_80 (by decide) (fun hc80 => False.elim (by rw [b2i_0, hp] at hc80; cases hc80)) (fun hc80 => ?_)
        refine ev_iload dX7_takeNumber_83 rfl ?_
        refine ev_ldc (v := (nI 99999)) dX7_takeNumber_85 nX7_98 ?_
        refine ev_icmp_le 95 dX7_takeNumber_87 (by decide) (fun hc87 => False.elim (nI_ge h3 (by omega) hc87)) (fun hc87 => ?_)
        refine ev_iload dX7_takeNumber_90 rfl ?_
        refine ev_goto 113 dX7_takeNumber_92 (by decide) ?_
        refine ev_istore dX7_takeNumber_113 (by decide) rfl ?_
        refine ev_aload_n dX7_takeNumber_115 rfl ?_
        refine ev_dup dX7_takeNumber_116 rfl ?_
        refine ev_getI dX7_takeNumber_117 fX7_70 (by first | assumption | rfl) (by rfl) ?_
        rw [rs_12]
        refine ev_iconst (v := (nI 1)) dX7_takeNumber_120 (by decide) ?_
        refine ev_iadd dX7_takeNumber_121 ?_
        rw [nI_add]
        refine ev_put dX7_takeNumber_122 pX7_70 (by first | assumption | rfl) (by rfl) (rfl) (rfl) ?_
        rw [rs_p12]
        refine ev_goto 50 dX7_takeNumber_125 (by decide) ?_
        exact hi2
      · rw [rv, if_neg h3, b4] at hi2
        refine ev_aload_n dX7_takeNumber_50 rfl ?_
        refine ev_getI dX7_takeNumber_51 fX7_70 (by first | assumption | rfl) (by rfl) ?_
        rw [rs_12]
        refine ev_aload_n dX7_takeNumber_54 rfl ?_
        refine ev_getI dX7_takeNumber_55 fX7_64 (by first | assumption | rfl) (by rfl) ?_
        rw [rs_11, hB.1]
        refine ev_icmp_ge 128 dX7_takeNumber_58 (by decide) (fun hc58 => False.elim (nI_ge (show s + m < tl by omega) (by omega) hc58)) (fun hc58 => ?_)
        refine ev_aload_n dX7_takeNumber_61 rfl ?_
        refine ev_getR dX7_takeNumber_62 fX7_36 (by first | assumption | rfl) (by rfl) ?_
        refine ev_aload_n dX7_takeNumber_65 rfl ?_
        refine ev_getI dX7_takeNumber_66 fX7_70 (by first | assumption | rfl) (by rfl) ?_
        rw [rs_12]
        refine ev_ialdE _ dX7_takeNumber_69 (by first | with_reducible rfl | with_reducible exact nI_add _ _ | with_reducible exact ix3 _ _ _ | with_reducible exact ix_k _ _ _ | with_reducible exact ix_xk _ _ _ _) (by first | assumption | rfl) ⟨by omega, by decide⟩ ?_
        rw [rs_o (show 8 ≠ 0 by decide), hB.2.2 _ (by omega)]
        refine ev_i2l dX7_takeNumber_70 ?_
        refine ev_ldc2 dX7_takeNumber_71 nX7_90 ?_
        refine ev_ldc2 dX7_takeNumber_74 nX7_92 ?_
        refine ev_cS3 dX7_takeNumber_77 ceX7_in kX7_59 (rm_le rfl rfl) (Nat.le_of_ble_eq_true rfl) (Nat.le_of_ble_eq_true rfl) (e7_in) ?_
        rw [in_c _ (nI 48) (nI 57) (by decide) (by decide), show (!decide (f (s + m) < nI 48) && !decide (nI 57 < f (s + m))) = dgB f (s + m) from rfl]
        refine ev_if_eq 128 dX7_takeNumber_80 (by decide) (fun hc80 => False.elim (by rw [b2i_0, hp] at hc80; cases hc80)) (fun hc80 => ?_)
        refine ev_iload dX7_takeNumber_83 rfl ?_
        refine ev_ldc (v := (nI 99999)) dX7_takeNumber_85 nX7_98 ?_
        refine ev_icmp_le 95 dX7_takeNumber_87 (by decide) (fun hc87 => ?_) (fun hc87 => False.elim (hc87 (nI_le (Nat.le_of_not_lt h3) (by omega))))
        refine ev_bipush (v := (nI 10)) dX7_takeNumber_95 (by decide) ?_
        refine ev_iload dX7_takeNumber_97 rfl ?_
        refine ev_imul dX7_takeNumber_99 ?_
        refine ev_aload_n dX7_takeNumber_100 rfl ?_
        refine ev_getR dX7_takeNumber_101 fX7_36 (by first | assumption | rfl) (by rfl) ?_
        refine ev_aload_n dX7_takeNumber_104 rfl ?_
        refine ev_getI dX7_takeNumber_105 fX7_70 (by first | assumption | rfl) (by rfl) ?_
        rw [rs_12]
        refine ev_ialdE _ dX7_takeNumber_108 (by first | with_reducible rfl | with_reducible exact nI_add _ _ | with_reducible exact ix3 _ _ _ | with_reducible exact ix_k _ _ _ | with_reducible exact ix_xk _ _ _ _) (by first | assumption | rfl) ⟨by omega, by decide⟩ ?_
        rw [rs_o (show 8 ≠ 0 by decide), hB.2.2 _ (by omega)]
        refine ev_iadd dX7_takeNumber_109 ?_
        refine ev_bipush (v := (nI 48)) dX7_takeNumber_110 (by decide) ?_
        refine ev_isub dX7_takeNumber_112 ?_
        rw [b3, pk_mul, nI_add, pk_sub (by omega)]
        refine ev_istore dX7_takeNumber_113 (by decide) rfl ?_
        refine ev_aload_n dX7_takeNumber_115 rfl ?_
        refine ev_dup dX7_takeNumber_116 rfl ?_
        refine ev_getI dX7_takeNumber_117 fX7_70 (by first | assumption | rfl) (by rfl) ?_
        rw [rs_12]
        refine ev_iconst (v := (nI 1)) dX7_takeNumber_120 (by decide) ?_
        refine ev_iadd dX7_takeNumber_121 ?_
        rw [nI_add]
        refine ev_put dX7_takeNumber_122 pX7_70 (by first | assumption | rfl) (by rfl) (rfl) (rfl) ?_
        rw [rs_p12]
        refine ev_goto 50 dX7_takeNumber_125 (by decide) ?_
        exact hi2
    · have hp2 : dgB f (s + m) = false := by simpa using hp
      rw [scn_no hp2, Nat.add_sub_cancel_left] at hE
      refine ev_aload_n dX7_takeNumber_50 rfl ?_
      refine ev_getI dX7_takeNumber_51 fX7_70 (by first | assumption | rfl) (by rfl) ?_
      rw [rs_12]
      refine ev_aload_n dX7_takeNumber_54 rfl ?_
      refine ev_getI dX7_takeNumber_55 fX7_64 (by first | assumption | rfl) (by rfl) ?_
      rw [rs_11, hB.1]
      refine ev_icmp_ge 128 dX7_takeNumber_58 (by decide) (fun hc58 => False.elim (nI_ge (show s + m < tl by omega) (by omega) hc58)) (fun hc58 => ?_)
      refine ev_aload_n dX7_takeNumber_61 rfl ?_
      refine ev_getR dX7_takeNumber_62 fX7_36 (by first | assumption | rfl) (by rfl) ?_
      refine ev_aload_n dX7_takeNumber_65 rfl ?_
      refine ev_getI dX7_takeNumber_66 fX7_70 (by first | assumption | rfl) (by rfl) ?_
      rw [rs_12]
      refine ev_ialdE _ dX7_takeNumber_69 (by first | with_reducible rfl | with_reducible exact nI_add _ _ | with_reducible exact ix3 _ _ _ | with_reducible exact ix_k _ _ _ | with_reducible exact ix_xk _ _ _ _) (by first | assumption | rfl) ⟨by omega, by decide⟩ ?_
      rw [rs_o (show 8 ≠ 0 by decide), hB.2.2 _ (by omega)]
      refine ev_i2l dX7_takeNumber_70 ?_
      refine ev_ldc2 dX7_takeNumber_71 nX7_90 ?_
      refine ev_ldc2 dX7_takeNumber_74 nX7_92 ?_
      refine ev_cS3 dX7_takeNumber_77 ceX7_in kX7_59 (rm_le rfl rfl) (Nat.le_of_ble_eq_true rfl) (Nat.le_of_ble_eq_true rfl) (e7_in) ?_
      rw [in_c _ (nI 48) (nI 57) (by decide) (by decide), show (!decide (f (s + m) < nI 48) && !decide (nI 57 < f (s + m))) = dgB f (s + m) from rfl]
      refine ev_if_eq 128 dX7_takeNumber_80 (by decide) (fun hc80 => ?_) (fun hc80 => False.elim (hc80 (by rw [b2i_0]; exact hp2)))
      exact hE
set_option maxRecDepth 20000 in
set_option maxHeartbeats 2000000 in
theorem e7_takeNumber {f : Nat → Int32} {tl : Nat} {G : rf_Mem} (hB : TG tl f G) (hF : TF tl f) {x : Nat × Int32} {lo hi a fi ln : Nat} (ha : a ≤ tl) (hlo : lo ≤ 100) (hhi : hi ≤ 100) (hx : x.1 ≤ 3) : ∃ v' a' fi', Ev LayM mX7_takeNumber 0 (rf_ent 6 [.ref 0, .int (nI lo), .int (nI hi)]) [] (rsM (G) (a) (fi) (ln) (x)) (some (.int (nI v'))) (rsM (G) (a') (fi') (ln) (tnX f tl lo hi a x)) ∧ ((tnX f tl lo hi a x).1 = 0 → v' = vN f tl (a) ∧ a' = dE f tl (a)) ∧ a' ≤ tl := by
  have h400 := hB.2.1
  obtain ⟨q1, q2⟩ := sB_le (f := f) ha
  obtain ⟨q3, q4⟩ := dE_le (f := f) ha
  have q5 := vN_le hF ha
  have dr := dg_run hF ha
  by_cases h0 : x.1 = 0
  · have hx0 : (0 : Int32) = nI 0 := rfl
    by_cases hd : sB f tl (a) < tl ∧ dgB f (sB f tl (a)) = true
    · have e1 : dE f tl (a) ≠ sB f tl (a) := by
        intro z
        have z2 : scn (dgB f) (tl - sB f tl (a)) (sB f tl (a)) = sB f tl (a) := z
        obtain ⟨t, ht⟩ : ∃ t, tl - sB f tl (a) = t + 1 := ⟨tl - sB f tl (a) - 1, by omega⟩
        rw [ht, scn_yes hd.2] at z2
        have := scn_ge (dgB f) t (sB f tl (a) + 1)
        omega
      have hr : hrI f tl (sB f tl (a)) = f (sB f tl (a)) := if_pos hd.1
      have u := rt_all hB hF (x := x) (lo := nI lo) (hi := nI hi) (c := f (sB f tl (a))) (s := sB f tl (a)) (ln := ln) (tl - sB f tl (a)) 0 (by omega) (by omega) (fun k hk => absurd hk (Nat.not_lt_zero _))
      have e9 : scn (dgB f) (tl - sB f tl (a)) (sB f tl (a) + 0) = dE f tl (a) := rfl
      rw [e9] at u
      have q9 := rv_le (s := sB f tl (a)) (m := dE f tl (a) - sB f tl (a)) (fun k hk => by obtain ⟨b, h1, h2, -, h4⟩ := dr k hk; rw [h4]; exact ⟨h1, h2⟩)
      have vv : (tnX f tl lo hi a x).1 = 0 → rv f (sB f tl (a)) (dE f tl (a) - sB f tl (a)) = vN f tl (a) := by
        intro z
        have z2 := (fl2_z z).2
        have z3 : ¬ 3 < dE f tl (a) - sB f tl (a) := fun y => by
          rw [tnB, if_neg e1, if_pos (Or.inl y)] at z2
          cases z2
        rw [vN, show min (dE f tl (a) - sB f tl (a)) 3 = dE f tl (a) - sB f tl (a) by omega]
        exact rv_3 (by omega) (fun k hk => by obtain ⟨b, h1, h2, -, h4⟩ := dr k hk; rw [h4]; exact ⟨h1, h2⟩)
      refine ⟨rv f (sB f tl (a)) (dE f tl (a) - sB f tl (a)), dE f tl (a), sB f tl (a), ?_, fun z => ⟨vv z, rfl⟩, q4⟩
      unfold tnX
      rw [tnB, if_neg e1]
      by_cases g1 : 3 < dE f tl (a) - sB f tl (a)
      · rw [if_pos (Or.inl g1)]
        refine ev_aload_n dX7_takeNumber_0 rfl ?_
        refine ev_getI dX7_takeNumber_1 fX7_73 (by first | assumption | rfl) (by rfl) ?_
        rw [rs_15]
        refine ev_if_le 9 dX7_takeNumber_4 (by decide) (fun hc4 => ?_) (fun hc4 => False.elim (hc4 (by rw [h0]; exact Int32.le_refl _)))
        refine ev_aload_n dX7_takeNumber_9 rfl ?_
        refine ev_cV0 dX7_takeNumber_10 ceX7_here kX7_76 (rm_le rfl rfl) (Nat.le_of_ble_eq_true rfl) (Nat.le_of_ble_eq_true rfl) (e7_here hB ha) (by first | assumption | rfl) ?_
        refine ev_istore_k 3 dX7_takeNumber_13 rfl (by decide) rfl ?_
        refine ev_aload_n dX7_takeNumber_14 rfl ?_
        refine ev_aload_n dX7_takeNumber_15 rfl ?_
        refine ev_getI dX7_takeNumber_16 fX7_70 (by first | assumption | rfl) (by rfl) ?_
        rw [rs_12]
        refine ev_put dX7_takeNumber_19 pX7_80 (by first | assumption | rfl) (by rfl) (rfl) (rfl) ?_
        rw [rs_p13]
        refine ev_aload_n dX7_takeNumber_22 rfl ?_
        refine ev_iload_n dX7_takeNumber_23 rfl ?_
        refine ev_i2l dX7_takeNumber_24 ?_
        refine ev_ldc2 dX7_takeNumber_25 nX7_90 ?_
        refine ev_ldc2 dX7_takeNumber_28 nX7_92 ?_
        refine ev_cS3 dX7_takeNumber_31 ceX7_in kX7_59 (rm_le rfl rfl) (Nat.le_of_ble_eq_true rfl) (Nat.le_of_ble_eq_true rfl) (e7_in) ?_
        rw [hr, in_c _ (nI 48) (nI 57) (by decide) (by decide), show (!decide (f (sB f tl (a)) < nI 48) && !decide (nI 57 < f (sB f tl (a)))) = true from hd.2]
        refine ev_iconst (v := (nI 1)) dX7_takeNumber_34 (by decide) ?_
        refine ev_aload_n dX7_takeNumber_35 rfl ?_
        refine ev_getI dX7_takeNumber_36 fX7_70 (by first | assumption | rfl) (by rfl) ?_
        rw [rs_12]
        refine ev_cV3 dX7_takeNumber_39 ceX7_want kX7_94 (rm_le rfl rfl) (Nat.le_of_ble_eq_true rfl) (Nat.le_of_ble_eq_true rfl) (e7_want (good := true) (by decide) (by decide) hx) (by first | assumption | rfl) ?_
        rw [if_pos rfl, fl2_0, decide_eq_true h0]
        refine ev_if_ne 47 dX7_takeNumber_42 (by decide) (fun hc42 => ?_) (fun hc42 => False.elim (absurd hc42 (by decide)))
        refine ev_iconst (v := (nI 0)) dX7_takeNumber_47 (by decide) ?_
        refine ev_istore dX7_takeNumber_48 (by decide) rfl ?_
        refine ev_stw (u _ _ ?_) ⟨rfl, rfl, rfl, rfl, rfl, trivial⟩ rfl rfl
        refine ev_aload_n dX7_takeNumber_128 rfl ?_
        refine ev_aload_n dX7_takeNumber_129 rfl ?_
        refine ev_getI dX7_takeNumber_130 fX7_70 (by first | assumption | rfl) (by rfl) ?_
        rw [rs_12]
        refine ev_aload_n dX7_takeNumber_133 rfl ?_
        refine ev_getI dX7_takeNumber_134 fX7_80 (by first | assumption | rfl) (by rfl) ?_
        rw [rs_13]
        refine ev_isub dX7_takeNumber_137 ?_
        refine ev_iconst (v := (nI 4)) dX7_takeNumber_138 (by decide) ?_
        rw [pk_sub q3]
        refine ev_icmp_ge 159 dX7_takeNumber_139 (by decide) (fun hc139 => ?_) (fun hc139 => False.elim (hc139 (nI_le (by omega) (by omega))))
        refine ev_iconst (v := (nI 0)) dX7_takeNumber_159 (by decide) ?_
        refine ev_iconst (v := (nI 2)) dX7_takeNumber_160 (by decide) ?_
        refine ev_aload_n dX7_takeNumber_161 rfl ?_
        refine ev_getI dX7_takeNumber_162 fX7_80 (by first | assumption | rfl) (by rfl) ?_
        rw [rs_13]
        refine ev_cV3 dX7_takeNumber_165 ceX7_want kX7_94 (rm_le rfl rfl) (Nat.le_of_ble_eq_true rfl) (Nat.le_of_ble_eq_true rfl) (e7_want (good := false) (by decide) (by decide) hx) (by first | assumption | rfl) ?_
        refine ev_istore dX7_takeNumber_168 (by decide) rfl ?_
        refine ev_iload dX7_takeNumber_170 rfl ?_
        exact ev_iretE dX7_takeNumber_172 rfl rfl (by first | rfl | simp_all) (rfl)
      · have ev : vN f tl (a) = rv f (sB f tl (a)) (dE f tl (a) - sB f tl (a)) := by
          rw [vN, show min (dE f tl (a) - sB f tl (a)) 3 = dE f tl (a) - sB f tl (a) by omega]
          exact (rv_3 (by omega) (fun k hk => by obtain ⟨b, h1, h2, -, h4⟩ := dr k hk; rw [h4]; exact ⟨h1, h2⟩)).symm
        rw [ev]
        by_cases g2 : rv f (sB f tl (a)) (dE f tl (a) - sB f tl (a)) < lo ∨ hi < rv f (sB f tl (a)) (dE f tl (a) - sB f tl (a))
        · rw [if_pos (Or.inr g2)]
          have hcond : (!decide (nI (rv f (sB f tl (a)) (dE f tl (a) - sB f tl (a))) < nI lo) && !decide (nI hi < nI (rv f (sB f tl (a)) (dE f tl (a) - sB f tl (a))))) = false := by
            rcases g2 with z | z
            · rw [decide_eq_true (nI_lt z (by omega))]; rfl
            · rw [decide_eq_true (nI_lt z (by omega)), Bool.not_true, Bool.and_false]
          refine ev_aload_n dX7_takeNumber_0 rfl ?_
          refine ev_getI dX7_takeNumber_1 fX7_73 (by first | assumption | rfl) (by rfl) ?_
          rw [rs_15]
          refine ev_if_le 9 dX7_takeNumber_4 (by decide) (fun hc4 => ?_) (fun hc4 => False.elim (hc4 (by rw [h0]; exact Int32.le_refl _)))
          refine ev_aload_n dX7_takeNumber_9 rfl ?_
          refine ev_cV0 dX7_takeNumber_10 ceX7_here kX7_76 (rm_le rfl rfl) (Nat.le_of_ble_eq_true rfl) (Nat.le_of_ble_eq_true rfl) (e7_here hB ha) (by first | assumption | rfl) ?_
          refine ev_istore_k 3 dX7_takeNumber_13 rfl (by decide) rfl ?_
          refine ev_aload_n dX7_takeNumber_14 rfl ?_
          refine ev_aload_n dX7_takeNumber_15 rfl ?_
          refine ev_getI dX7_takeNumber_16 fX7_70 (by first | assumption | rfl) (by rfl) ?_
          rw [rs_12]
          refine ev_put dX7_takeNumber_19 pX7_80 (by first | assumption | rfl) (by rfl) (rfl) (rfl) ?_
          rw [rs_p13]
          refine ev_aload_n dX7_takeNumber_22 rfl ?_
          refine ev_iload_n dX7_takeNumber_23 rfl ?_
          refine ev_i2l dX7_takeNumber_24 ?_
          refine ev_ldc2 dX7_takeNumber_25 nX7_90 ?_
          refine ev_ldc2 dX7_takeNumber_28 nX7_92 ?_
          refine ev_cS3 dX7_takeNumber_31 ceX7_in kX7_59 (rm_le rfl rfl) (Nat.le_of_ble_eq_true rfl) (Nat.le_of_ble_eq_true rfl) (e7_in) ?_
          rw [hr, in_c _ (nI 48) (nI 57) (by decide) (by decide), show (!decide (f (sB f tl (a)) < nI 48) && !decide (nI 57 < f (sB f tl (a)))) = true from hd.2]
          refine ev_iconst (v := (nI 1)) dX7_takeNumber_34 (by decide) ?_
          refine ev_aload_n dX7_takeNumber_35 rfl ?_
          refine ev_getI dX7_takeNumber_36 fX7_70 (by first | assumption | rfl) (by rfl) ?_
          rw [rs_12]
          refine ev_cV3 dX7_takeNumber_39 ceX7_want kX7_94 (rm_le rfl rfl) (Nat.le_of_ble_eq_true rfl) (Nat.le_of_ble_eq_true rfl) (e7_want (good := true) (by decide) (by decide) hx) (by first | assumption | rfl) ?_
          rw [if_pos rfl, fl2_0, decide_eq_true h0]
          refine ev_if_ne 47 dX7_takeNumber_42 (by decide) (fun hc42 => ?_) (fun hc42 => False.elim (absurd hc42 (by decide)))
          refine ev_iconst (v := (nI 0)) dX7_takeNumber_47 (by decide) ?_
          refine ev_istore dX7_takeNumber_48 (by decide) rfl ?_
          refine ev_stw (u _ _ ?_) ⟨rfl, rfl, rfl, rfl, rfl, trivial⟩ rfl rfl
          refine ev_aload_n dX7_takeNumber_128 rfl ?_
          refine ev_aload_n dX7_takeNumber_129 rfl ?_
          refine ev_getI dX7_takeNumber_130 fX7_70 (by first | assumption | rfl) (by rfl) ?_
          rw [rs_12]
          refine ev_aload_n dX7_takeNumber_133 rfl ?_
          refine ev_getI dX7_takeNumber_134 fX7_80 (by first | assumption | rfl) (by rfl) ?_
          rw [rs_13]
          refine ev_isub dX7_takeNumber_137 ?_
          refine ev_iconst (v := (nI 4)) dX7_takeNumber_138 (by decide) ?_
          rw [pk_sub q3]
          refine ev_icmp_ge 159 dX7_takeNumber_139 (by decide) (fun hc139 => False.elim (nI_ge (show dE f tl (a) - sB f tl (a) < 4 by omega) (by omega) hc139)) (fun hc139 => ?_)
          refine ev_iload dX7_takeNumber_142 rfl ?_
          refine ev_i2l dX7_takeNumber_144 ?_
          refine ev_iload_n dX7_takeNumber_145 rfl ?_
          refine ev_i2l dX7_takeNumber_146 ?_
          refine ev_iload_n dX7_takeNumber_147 rfl ?_
          refine ev_i2l dX7_takeNumber_148 ?_
          refine ev_cS3 dX7_takeNumber_149 ceX7_in kX7_59 (rm_le rfl rfl) (Nat.le_of_ble_eq_true rfl) (Nat.le_of_ble_eq_true rfl) (e7_in) ?_
          rw [in_c _ (nI lo) (nI hi) rfl rfl, show (!decide (nI (rv f (sB f tl (a)) (dE f tl (a) - sB f tl (a))) < nI lo) && !decide (nI hi < nI (rv f (sB f tl (a)) (dE f tl (a) - sB f tl (a))))) = false from hcond]
          refine ev_if_eq 159 dX7_takeNumber_152 (by decide) (fun hc152 => ?_) (fun hc152 => False.elim (hc152 rfl))
          refine ev_iconst (v := (nI 0)) dX7_takeNumber_159 (by decide) ?_
          refine ev_iconst (v := (nI 2)) dX7_takeNumber_160 (by decide) ?_
          refine ev_aload_n dX7_takeNumber_161 rfl ?_
          refine ev_getI dX7_takeNumber_162 fX7_80 (by first | assumption | rfl) (by rfl) ?_
          rw [rs_13]
          refine ev_cV3 dX7_takeNumber_165 ceX7_want kX7_94 (rm_le rfl rfl) (Nat.le_of_ble_eq_true rfl) (Nat.le_of_ble_eq_true rfl) (e7_want (good := false) (by decide) (by decide) hx) (by first | assumption | rfl) ?_
          refine ev_istore dX7_takeNumber_168 (by decide) rfl ?_
          refine ev_iload dX7_takeNumber_170 rfl ?_
          exact ev_iretE dX7_takeNumber_172 rfl rfl (by first | rfl | simp_all) (rfl)
        · rw [if_neg (fun z => by rcases z with z | z; exact g1 z; exact g2 z)]
          have hcond : (!decide (nI (rv f (sB f tl (a)) (dE f tl (a) - sB f tl (a))) < nI lo) && !decide (nI hi < nI (rv f (sB f tl (a)) (dE f tl (a) - sB f tl (a))))) = true := by
            rw [decide_eq_false (nI_nlt (show lo ≤ rv f (sB f tl (a)) (dE f tl (a) - sB f tl (a)) by omega) (by omega)), decide_eq_false (nI_nlt (show rv f (sB f tl (a)) (dE f tl (a) - sB f tl (a)) ≤ hi by omega) (by omega))]; rfl
          refine ev_aload_n dX7_takeNumber_0 rfl ?_
          refine ev_getI dX7_takeNumber_1 fX7_73 (by first | assumption | rfl) (by rfl) ?_
          rw [rs_15]
          refine ev_if_le 9 dX7_takeNumber_4 (by decide) (fun hc4 => ?_) (fun hc4 => False.elim (hc4 (by rw [h0]; exact Int32.le_refl _)))
          refine ev_aload_n dX7_takeNumber_9 rfl ?_
          refine ev_cV0 dX7_takeNumber_10 ceX7_here kX7_76 (rm_le rfl rfl) (Nat.le_of_ble_eq_true rfl) (Nat.le_of_ble_eq_true rfl) (e7_here hB ha) (by first | assumption | rfl) ?_
          refine ev_istore_k 3 dX7_takeNumber_13 rfl (by decide) rfl ?_
          refine ev_aload_n dX7_takeNumber_14 rfl ?_
          refine ev_aload_n dX7_takeNumber_15 rfl ?_
          refine ev_getI dX7_takeNumber_16 fX7_70 (by first | assumption | rfl) (by rfl) ?_
          rw [rs_12]
          refine ev_put dX7_takeNumber_19 pX7_80 (by first | assumption | rfl) (by rfl) (rfl) (rfl) ?_
          rw [rs_p13]
          refine ev_aload_n dX7_takeNumber_22 rfl ?_
          refine ev_iload_n dX7_takeNumber_23 rfl ?_
          refine ev_i2l dX7_takeNumber_24 ?_
          refine ev_ldc2 dX7_takeNumber_25 nX7_90 ?_
          refine ev_ldc2 dX7_takeNumber_28 nX7_92 ?_
          refine ev_cS3 dX7_takeNumber_31 ceX7_in kX7_59 (rm_le rfl rfl) (Nat.le_of_ble_eq_true rfl) (Nat.le_of_ble_eq_true rfl) (e7_in) ?_
          rw [hr, in_c _ (nI 48) (nI 57) (by decide) (by decide), show (!decide (f (sB f tl (a)) < nI 48) && !decide (nI 57 < f (sB f tl (a)))) = true from hd.2]
          refine ev_iconst (v := (nI 1)) dX7_takeNumber_34 (by decide) ?_
          refine ev_aload_n dX7_takeNumber_35 rfl ?_
          refine ev_getI dX7_takeNumber_36 fX7_70 (by first | assumption | rfl) (by rfl) ?_
          rw [rs_12]
          refine ev_cV3 dX7_takeNumber_39 ceX7_want kX7_94 (rm_le rfl rfl) (Nat.le_of_ble_eq_true rfl) (Nat.le_of_ble_eq_true rfl) (e7_want (good := true) (by decide) (by decide) hx) (by first | assumption | rfl) ?_
          rw [if_pos rfl, fl2_0, decide_eq_true h0]
          refine ev_if_ne 47 dX7_takeNumber_42 (by decide) (fun hc42 => ?_) (fun hc42 => False.elim (absurd hc42 (by decide)))
          refine ev_iconst (v := (nI 0)) dX7_takeNumber_47 (by decide) ?_
          refine ev_istore dX7_takeNumber_48 (by decide) rfl ?_
          refine ev_stw (u _ _ ?_) ⟨rfl, rfl, rfl, rfl, rfl, trivial⟩ rfl rfl
          refine ev_aload_n dX7_takeNumber_128 rfl ?_
          refine ev_aload_n dX7_takeNumber_129 rfl ?_
          refine ev_getI dX7_takeNumber_130 fX7_70 (by first | assumption | rfl) (by rfl) ?_
          rw [rs_12]
          refine ev_aload_n dX7_takeNumber_133 rfl ?_
          refine ev_getI dX7_takeNumber_134 fX7_80 (by first | assumption | rfl) (by rfl) ?_
          rw [rs_13]
          refine ev_isub dX7_takeNumber_137 ?_
          refine ev_iconst (v := (nI 4)) dX7_takeNumber_138 (by decide) ?_
          rw [pk_sub q3]
          refine ev_icmp_ge 159 dX7_takeNumber_139 (by decide) (fun hc139 => False.elim (nI_ge (show dE f tl (a) - sB f tl (a) < 4 by omega) (by omega) hc139)) (fun hc139 => ?_)
          refine ev_iload dX7_takeNumber_142 rfl ?_
          refine ev_i2l dX7_takeNumber_144 ?_
          refine ev_iload_n dX7_takeNumber_145 rfl ?_
          refine ev_i2l dX7_takeNumber_146 ?_
          refine ev_iload_n dX7_takeNumber_147 rfl ?_
          refine ev_i2l dX7_takeNumber_148 ?_
          refine ev_cS3 dX7_takeNumber_149 ceX7_in kX7_59 (rm_le rfl rfl) (Nat.le_of_ble_eq_true rfl) (Nat.le_of_ble_eq_true rfl) (e7_in) ?_
          rw [in_c _ (nI lo) (nI hi) rfl rfl, show (!decide (nI (rv f (sB f tl (a)) (dE f tl (a) - sB f tl (a))) < nI lo) && !decide (nI hi < nI (rv f (sB f tl (a)) (dE f tl (a) - sB f tl (a))))) = true from hcond]
          refine ev_if_eq 159 dX7_takeNumber_152 (by decide) (fun hc152 => False.elim (absurd hc152 (by decide))) (fun hc152 => ?_)
          refine ev_iconst (v := (nI 1)) dX7_takeNumber_155 (by decide) ?_
          refine ev_goto 160 dX7_takeNumber_156 (by decide) ?_
          refine ev_iconst (v := (nI 2)) dX7_takeNumber_160 (by decide) ?_
          refine ev_aload_n dX7_takeNumber_161 rfl ?_
          refine ev_getI dX7_takeNumber_162 fX7_80 (by first | assumption | rfl) (by rfl) ?_
          rw [rs_13]
          refine ev_cV3 dX7_takeNumber_165 ceX7_want kX7_94 (rm_le rfl rfl) (Nat.le_of_ble_eq_true rfl) (Nat.le_of_ble_eq_true rfl) (e7_want (good := true) (by decide) (by decide) hx) (by first | assumption | rfl) ?_
          refine ev_istore dX7_takeNumber_168 (by decide) rfl ?_
          rw [if_pos rfl, fl2_0]
          refine ev_iload dX7_takeNumber_170 rfl ?_
          exact ev_iretE dX7_takeNumber_172 rfl rfl (by first | rfl | simp_all) (rfl)
    · have e1 : dE f tl (a) = sB f tl (a) := by
        rcases Nat.lt_or_ge (sB f tl (a)) tl with z | z
        · have z2 : dgB f (sB f tl (a)) = false := by cases y : dgB f (sB f tl (a)) with | false => rfl | true => exact absurd ⟨z, y⟩ hd
          exact scn_no z2
        · omega
      have hr : (!decide (hrI f tl (sB f tl (a)) < nI 48) && !decide (nI 57 < hrI f tl (sB f tl (a)))) = false := by
        by_cases z : sB f tl (a) < tl
        · rw [hrI, if_pos z]
          cases y : dgB f (sB f tl (a)) with
          | false => exact y
          | true => exact absurd ⟨z, y⟩ hd
        · rw [hrI, if_neg z]; decide
      have e2 : tnX f tl lo hi a x = fl2 x 1 (sB f tl (a)) := by unfold tnX; rw [tnB, if_pos e1]
      refine ⟨0, sB f tl (a), sB f tl (a), ?_, fun z => absurd (fl2_z (e2 ▸ z)).2 (by decide), q2⟩
      rw [e2]
      refine ev_aload_n dX7_takeNumber_0 rfl ?_
      refine ev_getI dX7_takeNumber_1 fX7_73 (by first | assumption | rfl) (by rfl) ?_
      rw [rs_15]
      refine ev_if_le 9 dX7_takeNumber_4 (by decide) (fun hc4 => ?_) (fun hc4 => False.elim (hc4 (by rw [h0]; exact Int32.le_refl _)))
      refine ev_aload_n dX7_takeNumber_9 rfl ?_
      refine ev_cV0 dX7_takeNumber_10 ceX7_here kX7_76 (rm_le rfl rfl) (Nat.le_of_ble_eq_true rfl) (Nat.le_of_ble_eq_true rfl) (e7_here hB ha) (by first | assumption | rfl) ?_
      refine ev_istore_k 3 dX7_takeNumber_13 rfl (by decide) rfl ?_
      refine ev_aload_n dX7_takeNumber_14 rfl ?_
      refine ev_aload_n dX7_takeNumber_15 rfl ?_
      refine ev_getI dX7_takeNumber_16 fX7_70 (by first | assumption | rfl) (by rfl) ?_
      rw [rs_12]
      refine ev_put dX7_takeNumber_19 pX7_80 (by first | assumption | rfl) (by rfl) (rfl) (rfl) ?_
      rw [rs_p13]
      refine ev_aload_n dX7_takeNumber_22 rfl ?_
      refine ev_iload_n dX7_takeNumber_23 rfl ?_
      refine ev_i2l dX7_takeNumber_24 ?_
      refine ev_ldc2 dX7_takeNumber_25 nX7_90 ?_
      refine ev_ldc2 dX7_takeNumber_28 nX7_92 ?_
      refine ev_cS3 dX7_takeNumber_31 ceX7_in kX7_59 (rm_le rfl rfl) (Nat.le_of_ble_eq_true rfl) (Nat.le_of_ble_eq_true rfl) (e7_in) ?_
      rw [in_c _ (nI 48) (nI 57) (by decide) (by decide), hr]
      refine ev_iconst (v := (nI 1)) dX7_takeNumber_34 (by decide) ?_
      refine ev_aload_n dX7_takeNumber_35 rfl ?_
      refine ev_getI dX7_takeNumber_36 fX7_70 (by first | assumption | rfl) (by rfl) ?_
      rw [rs_12]
      refine ev_cV3 dX7_takeNumber_39 ceX7_want kX7_94 (rm_le rfl rfl) (Nat.le_of_ble_eq_true rfl) (Nat.le_of_ble_eq_true rfl) (e7_want (good := false) (by decide) (by decide) hx) (by first | assumption | rfl) ?_
      rw [if_neg (by decide), fl2_n h0 (by decide), decide_eq_false (show ¬ (1 : Nat) = 0 by decide)]
      refine ev_if_ne 47 dX7_takeNumber_42 (by decide) (fun hc42 => False.elim (hc42 rfl)) (fun hc42 => ?_)
      refine ev_iconst (v := (nI 0)) dX7_takeNumber_45 (by decide) ?_
      exact ev_iretE dX7_takeNumber_46 rfl rfl (by first | rfl | simp_all) (rfl)
  · rw [tnX_x h0]
    refine ⟨0, a, fi, ?_, fun z => absurd z h0, ha⟩
    refine ev_aload_n dX7_takeNumber_0 rfl ?_
    refine ev_getI dX7_takeNumber_1 fX7_73 (by first | assumption | rfl) (by rfl) ?_
    rw [rs_15]
    refine ev_if_le 9 dX7_takeNumber_4 (by decide) (fun hc4 => False.elim (nI_nle (show 0 < x.1 by omega) (by omega) hc4)) (fun hc4 => ?_)
    refine ev_iconst (v := (nI 0)) dX7_takeNumber_7 (by decide) ?_
    exact ev_iretE dX7_takeNumber_8 rfl rfl (by first | rfl | simp_all) (rfl)
theorem wd_ne {f : Nat → Int32} {s ln i j : Nat} (hi : wdB f s ln i = true) (hj : wdB f s ln j = true) (h : rf_len.getD i 0 ≠ rf_len.getD j 0 ∨ (0 < rf_len.getD i 0 ∧ 0 < rf_len.getD j 0 ∧ chT i 0 ≠ chT j 0)) : False := by
  obtain ⟨a1, a2⟩ := of_decide_eq_true hi
  obtain ⟨b1, b2⟩ := of_decide_eq_true hj
  rcases h with z | ⟨z1, z2, z3⟩
  · exact z (a1.symm.trans b1)
  · exact z3 ((a2 0 z1).symm.trans (b2 0 z2))
set_option maxRecDepth 20000 in
set_option maxHeartbeats 2000000 in
theorem e7_kindHere {f : Nat → Int32} {tl : Nat} {G : rf_Mem} (hB : TG tl f G) {fi ln a : Nat} {x : Nat × Int32} (hfl : fi + ln ≤ tl) : Ev LayM mX7_kindHere 0 (rf_ent 2 [.ref 0]) [] (rsM (G) (a) (fi) (ln) (x)) (some (.int (kdI f fi ln))) (rsM (G) (a) (fi) (ln) (x)) := by
  unfold kdI
  by_cases w2 : wdB f fi ln 2 = true
  · rw [if_pos w2]
    have w6 : ¬ wdB f fi ln 6 = true := fun z => wd_ne w2 z (by decide)
    refine ev_aload_n dX7_kindHere_0 rfl ?_
    refine ev_bipush (v := (nI 6)) dX7_kindHere_1 (by decide) ?_
    refine ev_bipush (v := (nI 115)) dX7_kindHere_3 (by decide) ?_
    refine ev_bipush (v := (nI 105)) dX7_kindHere_5 (by decide) ?_
    refine ev_bipush (v := (nI 108)) dX7_kindHere_7 (by decide) ?_
    refine ev_bipush (v := (nI 101)) dX7_kindHere_9 (by decide) ?_
    refine ev_bipush (v := (nI 110)) dX7_kindHere_11 (by decide) ?_
    refine ev_bipush (v := (nI 116)) dX7_kindHere_13 (by decide) ?_
    refine ev_iconst (v := (nI 0)) dX7_kindHere_15 (by decide) ?_
    refine ev_cV8 dX7_kindHere_16 ceX7_isWord kX7_99 (rm_le rfl rfl) (Nat.le_of_ble_eq_true rfl) (Nat.le_of_ble_eq_true rfl) (e7_isWord hB (j := 2) (by decide) hfl (by decide) (by decide) (by decide) (by decide) (by decide) (by decide) (by decide)) (by first | assumption | rfl) ?_
    refine ev_if_eq 26 dX7_kindHere_19 (by decide) (fun hc19 => False.elim (by rw [b2i_0, w2] at hc19; cases hc19)) (fun hc19 => ?_)
    refine ev_iconst (v := (nI 0)) dX7_kindHere_22 (by decide) ?_
    refine ev_goto 102 dX7_kindHere_23 (by decide) ?_
    refine ev_istore_k 1 dX7_kindHere_102 rfl (by decide) rfl ?_
    refine ev_aload_n dX7_kindHere_103 rfl ?_
    refine ev_bipush (v := (nI 7)) dX7_kindHere_104 (by decide) ?_
    refine ev_bipush (v := (nI 116)) dX7_kindHere_106 (by decide) ?_
    refine ev_bipush (v := (nI 101)) dX7_kindHere_108 (by decide) ?_
    refine ev_bipush (v := (nI 97)) dX7_kindHere_110 (by decide) ?_
    refine ev_bipush (v := (nI 99)) dX7_kindHere_112 (by decide) ?_
    refine ev_bipush (v := (nI 104)) dX7_kindHere_114 (by decide) ?_
    refine ev_bipush (v := (nI 101)) dX7_kindHere_116 (by decide) ?_
    refine ev_bipush (v := (nI 114)) dX7_kindHere_118 (by decide) ?_
    refine ev_cV8 dX7_kindHere_120 ceX7_isWord kX7_99 (rm_le rfl rfl) (Nat.le_of_ble_eq_true rfl) (Nat.le_of_ble_eq_true rfl) (e7_isWord hB (j := 6) (by decide) hfl (by decide) (by decide) (by decide) (by decide) (by decide) (by decide) (by decide)) (by first | assumption | rfl) ?_
    refine ev_if_eq 130 dX7_kindHere_123 (by decide) (fun hc123 => ?_) (fun hc123 => False.elim (hc123 (by rw [b2i_0]; simpa using w6)))
    refine ev_iload_n dX7_kindHere_130 rfl ?_
    exact ev_iretE dX7_kindHere_131 rfl rfl (by first | rfl | simp_all) (rfl)
  · skip
    by_cases w3 : wdB f fi ln 3 = true
    · rw [if_neg w2, if_pos w3]
      have w6 : ¬ wdB f fi ln 6 = true := fun z => wd_ne w3 z (by decide)
      refine ev_aload_n dX7_kindHere_0 rfl ?_
      refine ev_bipush (v := (nI 6)) dX7_kindHere_1 (by decide) ?_
      refine ev_bipush (v := (nI 115)) dX7_kindHere_3 (by decide) ?_
      refine ev_bipush (v := (nI 105)) dX7_kindHere_5 (by decide) ?_
      refine ev_bipush (v := (nI 108)) dX7_kindHere_7 (by decide) ?_
      refine ev_bipush (v := (nI 101)) dX7_kindHere_9 (by decide) ?_
      refine ev_bipush (v := (nI 110)) dX7_kindHere_11 (by decide) ?_
      refine ev_bipush (v := (nI 116)) dX7_kindHere_13 (by decide) ?_
      refine ev_iconst (v := (nI 0)) dX7_kindHere_15 (by decide) ?_
      refine ev_cV8 dX7_kindHere_16 ceX7_isWord kX7_99 (rm_le rfl rfl) (Nat.le_of_ble_eq_true rfl) (Nat.le_of_ble_eq_true rfl) (e7_isWord hB (j := 2) (by decide) hfl (by decide) (by decide) (by decide) (by decide) (by decide) (by decide) (by decide)) (by first | assumption | rfl) ?_
      refine ev_if_eq 26 dX7_kindHere_19 (by decide) (fun hc19 => ?_) (fun hc19 => False.elim (hc19 (by rw [b2i_0]; simpa using w2)))
      refine ev_aload_n dX7_kindHere_26 rfl ?_
      refine ev_iconst (v := (nI 5)) dX7_kindHere_27 (by decide) ?_
      refine ev_bipush (v := (nI 97)) dX7_kindHere_28 (by decide) ?_
      refine ev_bipush (v := (nI 108)) dX7_kindHere_30 (by decide) ?_
      refine ev_bipush (v := (nI 111)) dX7_kindHere_32 (by decide) ?_
      refine ev_bipush (v := (nI 117)) dX7_kindHere_34 (by decide) ?_
      refine ev_bipush (v := (nI 100)) dX7_kindHere_36 (by decide) ?_
      refine ev_iconst (v := (nI 0)) dX7_kindHere_38 (by decide) ?_
      refine ev_iconst (v := (nI 0)) dX7_kindHere_39 (by decide) ?_
      refine ev_cV8 dX7_kindHere_40 ceX7_isWord kX7_99 (rm_le rfl rfl) (Nat.le_of_ble_eq_true rfl) (Nat.le_of_ble_eq_true rfl) (e7_isWord hB (j := 3) (by decide) hfl (by decide) (by decide) (by decide) (by decide) (by decide) (by decide) (by decide)) (by first | assumption | rfl) ?_
      refine ev_if_eq 50 dX7_kindHere_43 (by decide) (fun hc43 => False.elim (by rw [b2i_0, w3] at hc43; cases hc43)) (fun hc43 => ?_)
      refine ev_iconst (v := (nI 1)) dX7_kindHere_46 (by decide) ?_
      refine ev_goto 102 dX7_kindHere_47 (by decide) ?_
      refine ev_istore_k 1 dX7_kindHere_102 rfl (by decide) rfl ?_
      refine ev_aload_n dX7_kindHere_103 rfl ?_
      refine ev_bipush (v := (nI 7)) dX7_kindHere_104 (by decide) ?_
      refine ev_bipush (v := (nI 116)) dX7_kindHere_106 (by decide) ?_
      refine ev_bipush (v := (nI 101)) dX7_kindHere_108 (by decide) ?_
      refine ev_bipush (v := (nI 97)) dX7_kindHere_110 (by decide) ?_
      refine ev_bipush (v := (nI 99)) dX7_kindHere_112 (by decide) ?_
      refine ev_bipush (v := (nI 104)) dX7_kindHere_114 (by decide) ?_
      refine ev_bipush (v := (nI 101)) dX7_kindHere_116 (by decide) ?_
      refine ev_bipush (v := (nI 114)) dX7_kindHere_118 (by decide) ?_
      refine ev_cV8 dX7_kindHere_120 ceX7_isWord kX7_99 (rm_le rfl rfl) (Nat.le_of_ble_eq_true rfl) (Nat.le_of_ble_eq_true rfl) (e7_isWord hB (j := 6) (by decide) hfl (by decide) (by decide) (by decide) (by decide) (by decide) (by decide) (by decide)) (by first | assumption | rfl) ?_
      refine ev_if_eq 130 dX7_kindHere_123 (by decide) (fun hc123 => ?_) (fun hc123 => False.elim (hc123 (by rw [b2i_0]; simpa using w6)))
      refine ev_iload_n dX7_kindHere_130 rfl ?_
      exact ev_iretE dX7_kindHere_131 rfl rfl (by first | rfl | simp_all) (rfl)
    · skip
      by_cases w4 : wdB f fi ln 4 = true
      · rw [if_neg w2, if_neg w3, if_pos w4]
        have w6 : ¬ wdB f fi ln 6 = true := fun z => wd_ne w4 z (by decide)
        refine ev_aload_n dX7_kindHere_0 rfl ?_
        refine ev_bipush (v := (nI 6)) dX7_kindHere_1 (by decide) ?_
        refine ev_bipush (v := (nI 115)) dX7_kindHere_3 (by decide) ?_
        refine ev_bipush (v := (nI 105)) dX7_kindHere_5 (by decide) ?_
        refine ev_bipush (v := (nI 108)) dX7_kindHere_7 (by decide) ?_
        refine ev_bipush (v := (nI 101)) dX7_kindHere_9 (by decide) ?_
        refine ev_bipush (v := (nI 110)) dX7_kindHere_11 (by decide) ?_
        refine ev_bipush (v := (nI 116)) dX7_kindHere_13 (by decide) ?_
        refine ev_iconst (v := (nI 0)) dX7_kindHere_15 (by decide) ?_
        refine ev_cV8 dX7_kindHere_16 ceX7_isWord kX7_99 (rm_le rfl rfl) (Nat.le_of_ble_eq_true rfl) (Nat.le_of_ble_eq_true rfl) (e7_isWord hB (j := 2) (by decide) hfl (by decide) (by decide) (by decide) (by decide) (by decide) (by decide) (by decide)) (by first | assumption | rfl) ?_
        refine ev_if_eq 26 dX7_kindHere_19 (by decide) (fun hc19 => ?_) (fun hc19 => False.elim (hc19 (by rw [b2i_0]; simpa using w2)))
        refine ev_aload_n dX7_kindHere_26 rfl ?_
        refine ev_iconst (v := (nI 5)) dX7_kindHere_27 (by decide) ?_
        refine ev_bipush (v := (nI 97)) dX7_kindHere_28 (by decide) ?_
        refine ev_bipush (v := (nI 108)) dX7_kindHere_30 (by decide) ?_
        refine ev_bipush (v := (nI 111)) dX7_kindHere_32 (by decide) ?_
        refine ev_bipush (v := (nI 117)) dX7_kindHere_34 (by decide) ?_
        refine ev_bipush (v := (nI 100)) dX7_kindHere_36 (by decide) ?_
        refine ev_iconst (v := (nI 0)) dX7_kindHere_38 (by decide) ?_
        refine ev_iconst (v := (nI 0)) dX7_kindHere_39 (by decide) ?_
        refine ev_cV8 dX7_kindHere_40 ceX7_isWord kX7_99 (rm_le rfl rfl) (Nat.le_of_ble_eq_true rfl) (Nat.le_of_ble_eq_true rfl) (e7_isWord hB (j := 3) (by decide) hfl (by decide) (by decide) (by decide) (by decide) (by decide) (by decide) (by decide)) (by first | assumption | rfl) ?_
        refine ev_if_eq 50 dX7_kindHere_43 (by decide) (fun hc43 => ?_) (fun hc43 => False.elim (hc43 (by rw [b2i_0]; simpa using w3)))
        refine ev_aload_n dX7_kindHere_50 rfl ?_
        refine ev_bipush (v := (nI 7)) dX7_kindHere_51 (by decide) ?_
        refine ev_bipush (v := (nI 99)) dX7_kindHere_53 (by decide) ?_
        refine ev_bipush (v := (nI 111)) dX7_kindHere_55 (by decide) ?_
        refine ev_bipush (v := (nI 112)) dX7_kindHere_57 (by decide) ?_
        refine ev_bipush (v := (nI 121)) dX7_kindHere_59 (by decide) ?_
        refine ev_bipush (v := (nI 105)) dX7_kindHere_61 (by decide) ?_
        refine ev_bipush (v := (nI 115)) dX7_kindHere_63 (by decide) ?_
        refine ev_bipush (v := (nI 116)) dX7_kindHere_65 (by decide) ?_
        refine ev_cV8 dX7_kindHere_67 ceX7_isWord kX7_99 (rm_le rfl rfl) (Nat.le_of_ble_eq_true rfl) (Nat.le_of_ble_eq_true rfl) (e7_isWord hB (j := 4) (by decide) hfl (by decide) (by decide) (by decide) (by decide) (by decide) (by decide) (by decide)) (by first | assumption | rfl) ?_
        refine ev_if_eq 77 dX7_kindHere_70 (by decide) (fun hc70 => False.elim (by rw [b2i_0, w4] at hc70; cases hc70)) (fun hc70 => ?_)
        refine ev_iconst (v := (nI 2)) dX7_kindHere_73 (by decide) ?_
        refine ev_goto 102 dX7_kindHere_74 (by decide) ?_
        refine ev_istore_k 1 dX7_kindHere_102 rfl (by decide) rfl ?_
        refine ev_aload_n dX7_kindHere_103 rfl ?_
        refine ev_bipush (v := (nI 7)) dX7_kindHere_104 (by decide) ?_
        refine ev_bipush (v := (nI 116)) dX7_kindHere_106 (by decide) ?_
        refine ev_bipush (v := (nI 101)) dX7_kindHere_108 (by decide) ?_
        refine ev_bipush (v := (nI 97)) dX7_kindHere_110 (by decide) ?_
        refine ev_bipush (v := (nI 99)) dX7_kindHere_112 (by decide) ?_
        refine ev_bipush (v := (nI 104)) dX7_kindHere_114 (by decide) ?_
        refine ev_bipush (v := (nI 101)) dX7_kindHere_116 (by decide) ?_
        refine ev_bipush (v := (nI 114)) dX7_kindHere_118 (by decide) ?_
        refine ev_cV8 dX7_kindHere_120 ceX7_isWord kX7_99 (rm_le rfl rfl) (Nat.le_of_ble_eq_true rfl) (Nat.le_of_ble_eq_true rfl) (e7_isWord hB (j := 6) (by decide) hfl (by decide) (by decide) (by decide) (by decide) (by decide) (by decide) (by decide)) (by first | assumption | rfl) ?_
        refine ev_if_eq 130 dX7_kindHere_123 (by decide) (fun hc123 => ?_) (fun hc123 => False.elim (hc123 (by rw [b2i_0]; simpa using w6)))
        refine ev_iload_n dX7_kindHere_130 rfl ?_
        exact ev_iretE dX7_kindHere_131 rfl rfl (by first | rfl | simp_all) (rfl)
      · skip
        by_cases w5 : wdB f fi ln 5 = true
        · rw [if_neg w2, if_neg w3, if_neg w4, if_pos w5]
          have w6 : ¬ wdB f fi ln 6 = true := fun z => wd_ne w5 z (by decide)
          refine ev_aload_n dX7_kindHere_0 rfl ?_
          refine ev_bipush (v := (nI 6)) dX7_kindHere_1 (by decide) ?_
          refine ev_bipush (v := (nI 115)) dX7_kindHere_3 (by decide) ?_
          refine ev_bipush (v := (nI 105)) dX7_kindHere_5 (by decide) ?_
          refine ev_bipush (v := (nI 108)) dX7_kindHere_7 (by decide) ?_
          refine ev_bipush (v := (nI 101)) dX7_kindHere_9 (by decide) ?_
          refine ev_bipush (v := (nI 110)) dX7_kindHere_11 (by decide) ?_
          refine ev_bipush (v := (nI 116)) dX7_kindHere_13 (by decide) ?_
          refine ev_iconst (v := (nI 0)) dX7_kindHere_15 (by decide) ?_
          refine ev_cV8 dX7_kindHere_16 ceX7_isWord kX7_99 (rm_le rfl rfl) (Nat.le_of_ble_eq_true rfl) (Nat.le_of_ble_eq_true rfl) (e7_isWord hB (j := 2) (by decide) hfl (by decide) (by decide) (by decide) (by decide) (by decide) (by decide) (by decide)) (by first | assumption | rfl) ?_
          refine ev_if_eq 26 dX7_kindHere_19 (by decide) (fun hc19 => ?_) (fun hc19 => False.elim (hc19 (by rw [b2i_0]; simpa using w2)))
          refine ev_aload_n dX7_kindHere_26 rfl ?_
          refine ev_iconst (v := (nI 5)) dX7_kindHere_27 (by decide) ?_
          refine ev_bipush (v := (nI 97)) dX7_kindHere_28 (by decide) ?_
          refine ev_bipush (v := (nI 108)) dX7_kindHere_30 (by decide) ?_
          refine ev_bipush (v := (nI 111)) dX7_kindHere_32 (by decide) ?_
          refine ev_bipush (v := (nI 117)) dX7_kindHere_34 (by decide) ?_
          refine ev_bipush (v := (nI 100)) dX7_kindHere_36 (by decide) ?_
          refine ev_iconst (v := (nI 0)) dX7_kindHere_38 (by decide) ?_
          refine ev_iconst (v := (nI 0)) dX7_kindHere_39 (by decide) ?_
          refine ev_cV8 dX7_kindHere_40 ceX7_isWord kX7_99 (rm_le rfl rfl) (Nat.le_of_ble_eq_true rfl) (Nat.le_of_ble_eq_true rfl) (e7_isWord hB (j := 3) (by decide) hfl (by decide) (by decide) (by decide) (by decide) (by decide) (by decide) (by decide)) (by first | assumption | rfl) ?_
          refine ev_if_eq 50 dX7_kindHere_43 (by decide) (fun hc43 => ?_) (fun hc43 => False.elim (hc43 (by rw [b2i_0]; simpa using w3)))
          refine ev_aload_n dX7_kindHere_50 rfl ?_
          refine ev_bipush (v := (nI 7)) dX7_kindHere_51 (by decide) ?_
          refine ev_bipush (v := (nI 99)) dX7_kindHere_53 (by decide) ?_
          refine ev_bipush (v := (nI 111)) dX7_kindHere_55 (by decide) ?_
          refine ev_bipush (v := (nI 112)) dX7_kindHere_57 (by decide) ?_
          refine ev_bipush (v := (nI 121)) dX7_kindHere_59 (by decide) ?_
          refine ev_bipush (v := (nI 105)) dX7_kindHere_61 (by decide) ?_
          refine ev_bipush (v := (nI 115)) dX7_kindHere_63 (by decide) ?_
          refine ev_bipush (v := (nI 116)) dX7_kindHere_65 (by decide) ?_
          refine ev_cV8 dX7_kindHere_67 ceX7_isWord kX7_99 (rm_le rfl rfl) (Nat.le_of_ble_eq_true rfl) (Nat.le_of_ble_eq_true rfl) (e7_isWord hB (j := 4) (by decide) hfl (by decide) (by decide) (by decide) (by decide) (by decide) (by decide) (by decide)) (by first | assumption | rfl) ?_
          refine ev_if_eq 77 dX7_kindHere_70 (by decide) (fun hc70 => ?_) (fun hc70 => False.elim (hc70 (by rw [b2i_0]; simpa using w4)))
          refine ev_aload_n dX7_kindHere_77 rfl ?_
          refine ev_iconst (v := (nI 5)) dX7_kindHere_78 (by decide) ?_
          refine ev_bipush (v := (nI 116)) dX7_kindHere_79 (by decide) ?_
          refine ev_bipush (v := (nI 104)) dX7_kindHere_81 (by decide) ?_
          refine ev_bipush (v := (nI 105)) dX7_kindHere_83 (by decide) ?_
          refine ev_bipush (v := (nI 101)) dX7_kindHere_85 (by decide) ?_
          refine ev_bipush (v := (nI 102)) dX7_kindHere_87 (by decide) ?_
          refine ev_iconst (v := (nI 0)) dX7_kindHere_89 (by decide) ?_
          refine ev_iconst (v := (nI 0)) dX7_kindHere_90 (by decide) ?_
          refine ev_cV8 dX7_kindHere_91 ceX7_isWord kX7_99 (rm_le rfl rfl) (Nat.le_of_ble_eq_true rfl) (Nat.le_of_ble_eq_true rfl) (e7_isWord hB (j := 5) (by decide) hfl (by decide) (by decide) (by decide) (by decide) (by decide) (by decide) (by decide)) (by first | assumption | rfl) ?_
          refine ev_if_eq 101 dX7_kindHere_94 (by decide) (fun hc94 => False.elim (by rw [b2i_0, w5] at hc94; cases hc94)) (fun hc94 => ?_)
          refine ev_iconst (v := (nI 3)) dX7_kindHere_97 (by decide) ?_
          refine ev_goto 102 dX7_kindHere_98 (by decide) ?_
          refine ev_istore_k 1 dX7_kindHere_102 rfl (by decide) rfl ?_
          refine ev_aload_n dX7_kindHere_103 rfl ?_
          refine ev_bipush (v := (nI 7)) dX7_kindHere_104 (by decide) ?_
          refine ev_bipush (v := (nI 116)) dX7_kindHere_106 (by decide) ?_
          refine ev_bipush (v := (nI 101)) dX7_kindHere_108 (by decide) ?_
          refine ev_bipush (v := (nI 97)) dX7_kindHere_110 (by decide) ?_
          refine ev_bipush (v := (nI 99)) dX7_kindHere_112 (by decide) ?_
          refine ev_bipush (v := (nI 104)) dX7_kindHere_114 (by decide) ?_
          refine ev_bipush (v := (nI 101)) dX7_kindHere_116 (by decide) ?_
          refine ev_bipush (v := (nI 114)) dX7_kindHere_118 (by decide) ?_
          refine ev_cV8 dX7_kindHere_120 ceX7_isWord kX7_99 (rm_le rfl rfl) (Nat.le_of_ble_eq_true rfl) (Nat.le_of_ble_eq_true rfl) (e7_isWord hB (j := 6) (by decide) hfl (by decide) (by decide) (by decide) (by decide) (by decide) (by decide) (by decide)) (by first | assumption | rfl) ?_
          refine ev_if_eq 130 dX7_kindHere_123 (by decide) (fun hc123 => ?_) (fun hc123 => False.elim (hc123 (by rw [b2i_0]; simpa using w6)))
          refine ev_iload_n dX7_kindHere_130 rfl ?_
          exact ev_iretE dX7_kindHere_131 rfl rfl (by first | rfl | simp_all) (rfl)
        · skip
          by_cases w6 : wdB f fi ln 6 = true
          · rw [if_neg w2, if_neg w3, if_neg w4, if_neg w5, if_pos w6]
            refine ev_aload_n dX7_kindHere_0 rfl ?_
            refine ev_bipush (v := (nI 6)) dX7_kindHere_1 (by decide) ?_
            refine ev_bipush (v := (nI 115)) dX7_kindHere_3 (by decide) ?_
            refine ev_bipush (v := (nI 105)) dX7_kindHere_5 (by decide) ?_
            refine ev_bipush (v := (nI 108)) dX7_kindHere_7 (by decide) ?_
            refine ev_bipush (v := (nI 101)) dX7_kindHere_9 (by decide) ?_
            refine ev_bipush (v := (nI 110)) dX7_kindHere_11 (by decide) ?_
            refine ev_bipush (v := (nI 116)) dX7_kindHere_13 (by decide) ?_
            refine ev_iconst (v := (nI 0)) dX7_kindHere_15 (by decide) ?_
            refine ev_cV8 dX7_kindHere_16 ceX7_isWord kX7_99 (rm_le rfl rfl) (Nat.le_of_ble_eq_true rfl) (Nat.le_of_ble_eq_true rfl) (e7_isWord hB (j := 2) (by decide) hfl (by decide) (by decide) (by decide) (by decide) (by decide) (by decide) (by decide)) (by first | assumption | rfl) ?_
            refine ev_if_eq 26 dX7_kindHere_19 (by decide) (fun hc19 => ?_) (fun hc19 => False.elim (hc19 (by rw [b2i_0]; simpa using w2)))
            refine ev_aload_n dX7_kindHere_26 rfl ?_
            refine ev_iconst (v := (nI 5)) dX7_kindHere_27 (by decide) ?_
            refine ev_bipush (v := (nI 97)) dX7_kindHere_28 (by decide) ?_
            refine ev_bipush (v := (nI 108)) dX7_kindHere_30 (by decide) ?_
            refine ev_bipush (v := (nI 111)) dX7_kindHere_32 (by decide) ?_
            refine ev_bipush (v := (nI 117)) dX7_kindHere_34 (by decide) ?_
            refine ev_bipush (v := (nI 100)) dX7_kindHere_36 (by decide) ?_
            refine ev_iconst (v := (nI 0)) dX7_kindHere_38 (by decide) ?_
            refine ev_iconst (v := (nI 0)) dX7_kindHere_39 (by decide) ?_
            refine ev_cV8 dX7_kindHere_40 ceX7_isWord kX7_99 (rm_le rfl rfl) (Nat.le_of_ble_eq_true rfl) (Nat.le_of_ble_eq_true rfl) (e7_isWord hB (j := 3) (by decide) hfl (by decide) (by decide) (by decide) (by decide) (by decide) (by decide) (by decide)) (by first | assumption | rfl) ?_
            refine ev_if_eq 50 dX7_kindHere_43 (by decide) (fun hc43 => ?_) (fun hc43 => False.elim (hc43 (by rw [b2i_0]; simpa using w3)))
            refine ev_aload_n dX7_kindHere_50 rfl ?_
            refine ev_bipush (v := (nI 7)) dX7_kindHere_51 (by decide) ?_
            refine ev_bipush (v := (nI 99)) dX7_kindHere_53 (by decide) ?_
            refine ev_bipush (v := (nI 111)) dX7_kindHere_55 (by decide) ?_
            refine ev_bipush (v := (nI 112)) dX7_kindHere_57 (by decide) ?_
            refine ev_bipush (v := (nI 121)) dX7_kindHere_59 (by decide) ?_
            refine ev_bipush (v := (nI 105)) dX7_kindHere_61 (by decide) ?_
            refine ev_bipush (v := (nI 115)) dX7_kindHere_63 (by decide) ?_
            refine ev_bipush (v := (nI 116)) dX7_kindHere_65 (by decide) ?_
            refine ev_cV8 dX7_kindHere_67 ceX7_isWord kX7_99 (rm_le rfl rfl) (Nat.le_of_ble_eq_true rfl) (Nat.le_of_ble_eq_true rfl) (e7_isWord hB (j := 4) (by decide) hfl (by decide) (by decide) (by decide) (by decide) (by decide) (by decide) (by decide)) (by first | assumption | rfl) ?_
            refine ev_if_eq 77 dX7_kindHere_70 (by decide) (fun hc70 => ?_) (fun hc70 => False.elim (hc70 (by rw [b2i_0]; simpa using w4)))
            refine ev_aload_n dX7_kindHere_77 rfl ?_
            refine ev_iconst (v := (nI 5)) dX7_kindHere_78 (by decide) ?_
            refine ev_bipush (v := (nI 116)) dX7_kindHere_79 (by decide) ?_
            refine ev_bipush (v := (nI 104)) dX7_kindHere_81 (by decide) ?_
            refine ev_bipush (v := (nI 105)) dX7_kindHere_83 (by decide) ?_
            refine ev_bipush (v := (nI 101)) dX7_kindHere_85 (by decide) ?_
            refine ev_bipush (v := (nI 102)) dX7_kindHere_87 (by decide) ?_
            refine ev_iconst (v := (nI 0)) dX7_kindHere_89 (by decide) ?_
            refine ev_iconst (v := (nI 0)) dX7_kindHere_90 (by decide) ?_
            refine ev_cV8 dX7_kindHere_91 ceX7_isWord kX7_99 (rm_le rfl rfl) (Nat.le_of_ble_eq_true rfl) (Nat.le_of_ble_eq_true rfl) (e7_isWord hB (j := 5) (by decide) hfl (by decide) (by decide) (by decide) (by decide) (by decide) (by decide) (by decide)) (by first | assumption | rfl) ?_
            refine ev_if_eq 101 dX7_kindHere_94 (by decide) (fun hc94 => ?_) (fun hc94 => False.elim (hc94 (by rw [b2i_0]; simpa using w5)))
            refine ev_iconst (v := (-1)) dX7_kindHere_101 (by decide) ?_
            refine ev_istore_k 1 dX7_kindHere_102 rfl (by decide) rfl ?_
            refine ev_aload_n dX7_kindHere_103 rfl ?_
            refine ev_bipush (v := (nI 7)) dX7_kindHere_104 (by decide) ?_
            refine ev_bipush (v := (nI 116)) dX7_kindHere_106 (by decide) ?_
            refine ev_bipush (v := (nI 101)) dX7_kindHere_108 (by decide) ?_
            refine ev_bipush (v := (nI 97)) dX7_kindHere_110 (by decide) ?_
            refine ev_bipush (v := (nI 99)) dX7_kindHere_112 (by decide) ?_
            refine ev_bipush (v := (nI 104)) dX7_kindHere_114 (by decide) ?_
            refine ev_bipush (v := (nI 101)) dX7_kindHere_116 (by decide) ?_
            refine ev_bipush (v := (nI 114)) dX7_kindHere_118 (by decide) ?_
            refine ev_cV8 dX7_kindHere_120 ceX7_isWord kX7_99 (rm_le rfl rfl) (Nat.le_of_ble_eq_true rfl) (Nat.le_of_ble_eq_true rfl) (e7_isWord hB (j := 6) (by decide) hfl (by decide) (by decide) (by decide) (by decide) (by decide) (by decide) (by decide)) (by first | assumption | rfl) ?_
            refine ev_if_eq 130 dX7_kindHere_123 (by decide) (fun hc123 => False.elim (by rw [b2i_0, w6] at hc123; cases hc123)) (fun hc123 => ?_)
            refine ev_iconst (v := (nI 4)) dX7_kindHere_126 (by decide) ?_
            refine ev_goto 131 dX7_kindHere_127 (by decide) ?_
            exact ev_iretE dX7_kindHere_131 rfl rfl (by first | rfl | simp_all) (rfl)
          · skip
            rw [if_neg w2, if_neg w3, if_neg w4, if_neg w5, if_neg w6]
            refine ev_aload_n dX7_kindHere_0 rfl ?_
            refine ev_bipush (v := (nI 6)) dX7_kindHere_1 (by decide) ?_
            refine ev_bipush (v := (nI 115)) dX7_kindHere_3 (by decide) ?_
            refine ev_bipush (v := (nI 105)) dX7_kindHere_5 (by decide) ?_
            refine ev_bipush (v := (nI 108)) dX7_kindHere_7 (by decide) ?_
            refine ev_bipush (v := (nI 101)) dX7_kindHere_9 (by decide) ?_
            refine ev_bipush (v := (nI 110)) dX7_kindHere_11 (by decide) ?_
            refine ev_bipush (v := (nI 116)) dX7_kindHere_13 (by decide) ?_
            refine ev_iconst (v := (nI 0)) dX7_kindHere_15 (by decide) ?_
            refine ev_cV8 dX7_kindHere_16 ceX7_isWord kX7_99 (rm_le rfl rfl) (Nat.le_of_ble_eq_true rfl) (Nat.le_of_ble_eq_true rfl) (e7_isWord hB (j := 2) (by decide) hfl (by decide) (by decide) (by decide) (by decide) (by decide) (by decide) (by decide)) (by first | assumption | rfl) ?_
            refine ev_if_eq 26 dX7_kindHere_19 (by decide) (fun hc19 => ?_) (fun hc19 => False.elim (hc19 (by rw [b2i_0]; simpa using w2)))
            refine ev_aload_n dX7_kindHere_26 rfl ?_
            refine ev_iconst (v := (nI 5)) dX7_kindHere_27 (by decide) ?_
            refine ev_bipush (v := (nI 97)) dX7_kindHere_28 (by decide) ?_
            refine ev_bipush (v := (nI 108)) dX7_kindHere_30 (by decide) ?_
            refine ev_bipush (v := (nI 111)) dX7_kindHere_32 (by decide) ?_
            refine ev_bipush (v := (nI 117)) dX7_kindHere_34 (by decide) ?_
            refine ev_bipush (v := (nI 100)) dX7_kindHere_36 (by decide) ?_
            refine ev_iconst (v := (nI 0)) dX7_kindHere_38 (by decide) ?_
            refine ev_iconst (v := (nI 0)) dX7_kindHere_39 (by decide) ?_
            refine ev_cV8 dX7_kindHere_40 ceX7_isWord kX7_99 (rm_le rfl rfl) (Nat.le_of_ble_eq_true rfl) (Nat.le_of_ble_eq_true rfl) (e7_isWord hB (j := 3) (by decide) hfl (by decide) (by decide) (by decide) (by decide) (by decide) (by decide) (by decide)) (by first | assumption | rfl) ?_
            refine ev_if_eq 50 dX7_kindHere_43 (by decide) (fun hc43 => ?_) (fun hc43 => False.elim (hc43 (by rw [b2i_0]; simpa using w3)))
            refine ev_aload_n dX7_kindHere_50 rfl ?_
            refine ev_bipush (v := (nI 7)) dX7_kindHere_51 (by decide) ?_
            refine ev_bipush (v := (nI 99)) dX7_kindHere_53 (by decide) ?_
            refine ev_bipush (v := (nI 111)) dX7_kindHere_55 (by decide) ?_
            refine ev_bipush (v := (nI 112)) dX7_kindHere_57 (by decide) ?_
            refine ev_bipush (v := (nI 121)) dX7_kindHere_59 (by decide) ?_
            refine ev_bipush (v := (nI 105)) dX7_kindHere_61 (by decide) ?_
            refine ev_bipush (v := (nI 115)) dX7_kindHere_63 (by decide) ?_
            refine ev_bipush (v := (nI 116)) dX7_kindHere_65 (by decide) ?_
            refine ev_cV8 dX7_kindHere_67 ceX7_isWord kX7_99 (rm_le rfl rfl) (Nat.le_of_ble_eq_true rfl) (Nat.le_of_ble_eq_true rfl) (e7_isWord hB (j := 4) (by decide) hfl (by decide) (by decide) (by decide) (by decide) (by decide) (by decide) (by decide)) (by first | assumption | rfl) ?_
            refine ev_if_eq 77 dX7_kindHere_70 (by decide) (fun hc70 => ?_) (fun hc70 => False.elim (hc70 (by rw [b2i_0]; simpa using w4)))
            refine ev_aload_n dX7_kindHere_77 rfl ?_
            refine ev_iconst (v := (nI 5)) dX7_kindHere_78 (by decide) ?_
            refine ev_bipush (v := (nI 116)) dX7_kindHere_79 (by decide) ?_
            refine ev_bipush (v := (nI 104)) dX7_kindHere_81 (by decide) ?_
            refine ev_bipush (v := (nI 105)) dX7_kindHere_83 (by decide) ?_
            refine ev_bipush (v := (nI 101)) dX7_kindHere_85 (by decide) ?_
            refine ev_bipush (v := (nI 102)) dX7_kindHere_87 (by decide) ?_
            refine ev_iconst (v := (nI 0)) dX7_kindHere_89 (by decide) ?_
            refine ev_iconst (v := (nI 0)) dX7_kindHere_90 (by decide) ?_
            refine ev_cV8 dX7_kindHere_91 ceX7_isWord kX7_99 (rm_le rfl rfl) (Nat.le_of_ble_eq_true rfl) (Nat.le_of_ble_eq_true rfl) (e7_isWord hB (j := 5) (by decide) hfl (by decide) (by decide) (by decide) (by decide) (by decide) (by decide) (by decide)) (by first | assumption | rfl) ?_
            refine ev_if_eq 101 dX7_kindHere_94 (by decide) (fun hc94 => ?_) (fun hc94 => False.elim (hc94 (by rw [b2i_0]; simpa using w5)))
            refine ev_iconst (v := (-1)) dX7_kindHere_101 (by decide) ?_
            refine ev_istore_k 1 dX7_kindHere_102 rfl (by decide) rfl ?_
            refine ev_aload_n dX7_kindHere_103 rfl ?_
            refine ev_bipush (v := (nI 7)) dX7_kindHere_104 (by decide) ?_
            refine ev_bipush (v := (nI 116)) dX7_kindHere_106 (by decide) ?_
            refine ev_bipush (v := (nI 101)) dX7_kindHere_108 (by decide) ?_
            refine ev_bipush (v := (nI 97)) dX7_kindHere_110 (by decide) ?_
            refine ev_bipush (v := (nI 99)) dX7_kindHere_112 (by decide) ?_
            refine ev_bipush (v := (nI 104)) dX7_kindHere_114 (by decide) ?_
            refine ev_bipush (v := (nI 101)) dX7_kindHere_116 (by decide) ?_
            refine ev_bipush (v := (nI 114)) dX7_kindHere_118 (by decide) ?_
            refine ev_cV8 dX7_kindHere_120 ceX7_isWord kX7_99 (rm_le rfl rfl) (Nat.le_of_ble_eq_true rfl) (Nat.le_of_ble_eq_true rfl) (e7_isWord hB (j := 6) (by decide) hfl (by decide) (by decide) (by decide) (by decide) (by decide) (by decide) (by decide)) (by first | assumption | rfl) ?_
            refine ev_if_eq 130 dX7_kindHere_123 (by decide) (fun hc123 => ?_) (fun hc123 => False.elim (hc123 (by rw [b2i_0]; simpa using w6)))
            refine ev_iload_n dX7_kindHere_130 rfl ?_
            exact ev_iretE dX7_kindHere_131 rfl rfl (by first | rfl | simp_all) (rfl)
set_option maxRecDepth 20000 in
set_option maxHeartbeats 2000000 in
theorem tc_end {f : Nat → Int32} {tl : Nat} {G : rf_Mem} (hB : TG tl f G) {x : Nat × Int32} {a fi ln : Nat} {w : Int32} (ha : a ≤ tl) (hx : x.1 ≤ 3) : ∃ a', Ev LayM mX7_takeClause 308 [some (.ref 0), some (.int (w))] [] (rsM (G) (a) (fi) (ln) (x)) none (rsM (G) (a') (fi) (ln) (teX f tl a x)) ∧ ((teX f tl a x).1 = 0 → a' = teA f tl a) := by
  have h400 := hB.2.1
  by_cases h0 : x.1 = 0
  · obtain ⟨q1, q2⟩ := sB_le (f := f) ha
    by_cases hc : sB f tl (a) < tl ∧ f (sB f tl (a)) = nI 59
    · unfold teX teA
      rw [if_pos hc, if_pos hc, fl2_0]
      refine ⟨sB f tl (a) + 1, ?_, fun _ => rfl⟩
      have hr : hrI f tl (sB f tl (a)) = nI 59 := (if_pos hc.1).trans hc.2
      refine ev_aload_n dX7_takeClause_308 rfl ?_
      refine ev_getI dX7_takeClause_309 fX7_73 (by first | assumption | rfl) (by rfl) ?_
      rw [rs_15]
      refine ev_if_ne 351 dX7_takeClause_312 (by decide) (fun hc312 => False.elim (hc312 (by rw [h0]; rfl))) (fun hc312 => ?_)
      refine ev_aload_n dX7_takeClause_315 rfl ?_
      refine ev_aload_n dX7_takeClause_316 rfl ?_
      refine ev_cV0 dX7_takeClause_317 ceX7_here kX7_76 (rm_le rfl rfl) (Nat.le_of_ble_eq_true rfl) (Nat.le_of_ble_eq_true rfl) (e7_here hB ha) (by first | assumption | rfl) ?_
      refine ev_bipush (v := (nI 59)) dX7_takeClause_320 (by decide) ?_
      refine ev_icmp_ne 329 dX7_takeClause_322 (by decide) (fun hc322 => False.elim (hc322 hr)) (fun hc322 => ?_)
      refine ev_iconst (v := (nI 1)) dX7_takeClause_325 (by decide) ?_
      refine ev_goto 330 dX7_takeClause_326 (by decide) ?_
      refine ev_iconst (v := (nI 1)) dX7_takeClause_330 (by decide) ?_
      refine ev_aload_n dX7_takeClause_331 rfl ?_
      refine ev_getI dX7_takeClause_332 fX7_70 (by first | assumption | rfl) (by rfl) ?_
      rw [rs_12]
      refine ev_cV3 dX7_takeClause_335 ceX7_want kX7_94 (rm_le rfl rfl) (Nat.le_of_ble_eq_true rfl) (Nat.le_of_ble_eq_true rfl) (e7_want (good := true) (by decide) (by decide) hx) (by first | assumption | rfl) ?_
      rw [if_pos rfl, fl2_0, decide_eq_true h0]
      refine ev_if_eq 351 dX7_takeClause_338 (by decide) (fun hc338 => False.elim (absurd hc338 (by decide))) (fun hc338 => ?_)
      refine ev_aload_n dX7_takeClause_341 rfl ?_
      refine ev_dup dX7_takeClause_342 rfl ?_
      refine ev_getI dX7_takeClause_343 fX7_70 (by first | assumption | rfl) (by rfl) ?_
      rw [rs_12]
      refine ev_iconst (v := (nI 1)) dX7_takeClause_346 (by decide) ?_
      refine ev_iadd dX7_takeClause_347 ?_
      rw [nI_add]
      refine ev_put dX7_takeClause_348 pX7_70 (by first | assumption | rfl) (by rfl) (rfl) (rfl) ?_
      rw [rs_p12]
      exact ev_vretE dX7_takeClause_351 rfl rfl (rfl)
    · unfold teX teA
      rw [if_neg hc, if_neg hc]
      refine ⟨sB f tl (a), ?_, fun _ => rfl⟩
      have hr : ¬ hrI f tl (sB f tl (a)) = nI 59 := by
        by_cases z : sB f tl (a) < tl
        · rw [hrI, if_pos z]; exact fun y => hc ⟨z, y⟩
        · rw [hrI, if_neg z]; decide
      refine ev_aload_n dX7_takeClause_308 rfl ?_
      refine ev_getI dX7_takeClause_309 fX7_73 (by first | assumption | rfl) (by rfl) ?_
      rw [rs_15]
      refine ev_if_ne 351 dX7_takeClause_312 (by decide) (fun hc312 => False.elim (hc312 (by rw [h0]; rfl))) (fun hc312 => ?_)
      refine ev_aload_n dX7_takeClause_315 rfl ?_
      refine ev_aload_n dX7_takeClause_316 rfl ?_
      refine ev_cV0 dX7_takeClause_317 ceX7_here kX7_76 (rm_le rfl rfl) (Nat.le_of_ble_eq_true rfl) (Nat.le_of_ble_eq_true rfl) (e7_here hB ha) (by first | assumption | rfl) ?_
      refine ev_bipush (v := (nI 59)) dX7_takeClause_320 (by decide) ?_
      refine ev_icmp_ne 329 dX7_takeClause_322 (by decide) (fun hc322 => ?_) (fun hc322 => False.elim (hr hc322))
      refine ev_iconst (v := (nI 0)) dX7_takeClause_329 (by decide) ?_
      refine ev_iconst (v := (nI 1)) dX7_takeClause_330 (by decide) ?_
      refine ev_aload_n dX7_takeClause_331 rfl ?_
      refine ev_getI dX7_takeClause_332 fX7_70 (by first | assumption | rfl) (by rfl) ?_
      rw [rs_12]
      refine ev_cV3 dX7_takeClause_335 ceX7_want kX7_94 (rm_le rfl rfl) (Nat.le_of_ble_eq_true rfl) (Nat.le_of_ble_eq_true rfl) (e7_want (good := false) (by decide) (by decide) hx) (by first | assumption | rfl) ?_
      rw [if_neg (by decide), fl2_n h0 (by decide), decide_eq_false (show ¬ (1 : Nat) = 0 by decide)]
      refine ev_if_eq 351 dX7_takeClause_338 (by decide) (fun hc338 => ?_) (fun hc338 => False.elim (hc338 rfl))
      exact ev_vretE dX7_takeClause_351 rfl rfl (rfl)
  · rw [teX_x h0]
    refine ⟨a, ?_, fun y => absurd y h0⟩
    refine ev_aload_n dX7_takeClause_308 rfl ?_
    refine ev_getI dX7_takeClause_309 fX7_73 (by first | assumption | rfl) (by rfl) ?_
    rw [rs_15]
    refine ev_if_ne 351 dX7_takeClause_312 (by decide) (fun hc312 => ?_) (fun hc312 => False.elim (h0 ((nI_eq (by omega) (by omega)).mp hc312)))
    exact ev_vretE dX7_takeClause_351 rfl rfl (rfl)
