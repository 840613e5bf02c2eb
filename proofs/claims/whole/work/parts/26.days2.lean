/-! all readers of a day, all days -/
theorem sim_all {w : Bool} {q x n nl nr : Nat} {tm : Nat → Nat} {d : Nat} (a1 a2 a3 b2 b3 : Int32) (hq : st_ok q) (hx : x ≤ 4500) (hn : 0 < n) : ∀ (m i : Nat) (C G : rf_Mem), nr - i = m → i ≤ nr → Sim w q x n d nl nr tm C G → ∃ C' G', (∀ r M', Ev LayC mX5_liveByDraws 16 [some (.ref q), some (.int a1), some (.int a2), some (.int a3), some (.int (nI (nr))), none] [] C' r M' → Ev LayC mX5_liveByDraws 16 [some (.ref q), some (.int a1), some (.int a2), some (.int a3), some (.int (nI (i))), none] [] C r M') ∧ (∀ r M', Ev LayM mX7_runDays 26 [some (.ref 0), some (.int (nI x)), some (.int b2), some (.int b3), some (.int (nI (nr))), none] [] G' r M' → Ev LayM mX7_runDays 26 [some (.ref 0), some (.int (nI x)), some (.int b2), some (.int b3), some (.int (nI (i))), none] [] G r M') ∧ Sim w q x n d nl nr tm C' G' ∧ FrC q C C' ∧ FrG x G G' := by
  intro m
  induction m with
  | zero =>
    intro i C G hm hi h
    have e : i = nr := by omega
    subst e
    exact ⟨C, G, fun _ _ z => z, fun _ _ z => z, h, FrC.rf q C, FrG.rf x G⟩
  | succ m ih =>
    intro i C G hm hi h
    obtain ⟨C1, G1, u1, u2, h1, f1, f2⟩ := sim_one a1 a2 a3 b2 b3 hq hx h hn (show i < nr by omega)
    obtain ⟨C2, G2, u3, u4, h2, f3, f4⟩ := ih (i + 1) C1 G1 (by omega) (by omega) h1
    exact ⟨C2, G2, fun r M' z => u1 r M' (u3 r M' z), fun r M' z => u2 r M' (u4 r M' z), h2, f1.tr f3, f2.tr f4⟩

set_option maxRecDepth 20000 in
set_option maxHeartbeats 2000000 in
theorem sim_day {w : Bool} {q x n nl nr : Nat} {tm : Nat → Nat} {d j N D : Nat} {C G : rf_Mem} (hq : st_ok q) (hx : x ≤ 4500) (hn : 0 < n) (hj : j < D) (hD : D ≤ N) (hN : N ≤ 200) (hd : d + 1 ≤ 9999) (h : Sim w q x n d nl nr tm C G) : ∃ C' G', (∀ r M', Ev LayC mX5_liveByDraws 8 [some (.ref q), some (.int (nI N)), some (.int (nI D)), some (.int (nI (j + 1))), none, none] [] C' r M' → Ev LayC mX5_liveByDraws 8 [some (.ref q), some (.int (nI N)), some (.int (nI D)), some (.int (nI (j))), none, none] [] C r M') ∧ (∀ r M', Ev LayM mX7_runDays 2 [some (.ref 0), some (.int (nI x)), some (.int (nI N)), some (.int (nI (j + 1))), none, none] [] G' r M' → Ev LayM mX7_runDays 2 [some (.ref 0), some (.int (nI x)), some (.int (nI N)), some (.int (nI (j))), none, none] [] G r M') ∧ Sim w q x n (d + 1) nl nr tm C' G' ∧ FrC q C C' ∧ FrG x G G' := by
  have hq0 := hq
  obtain ⟨h0, h1, h2, h3, h4, h5, h6, h7, h8, h9, h10, h11, h20⟩ := hq
  obtain ⟨C1, G1, u1, u2, h1, f1, f2⟩ := sim_all (nI N) (nI D) (nI j) (nI N) (nI j) hq0 hx hn nr 0 C G (by omega) (Nat.zero_le _) h
  have hL := h1.1
  have hL0 := h.1
  have hd1 : C1 q 10 = nI d := h1.2.1.2.1.1
  have hd2 : G 1 (x + 1334) = nI d := h.2.1.2.1.2.1
  have l6 := hL.2.2.2.2.2.1
  have l3 := hL.2.2.1
  obtain ⟨h2, f3, f4⟩ := sim_dusk h20 h1 hd
  have eM : rf_set C1 q 10 (C1 q 10 + dA (C1 q 10) (nI 1)) = rf_set C1 q 10 (nI (d + 1)) := by rw [hd1, dA_nI (by omega) (by decide), if_neg (by omega), nI_add]
  refine ⟨_, _, fun r M' hE => ?_, fun r M' hE => ?_, h2, f1.tr f3, f2.tr f4⟩
  · refine ev_iload_n dX5_liveByDraws_8 rfl ?_
    refine ev_iload_n dX5_liveByDraws_9 rfl ?_
    refine ev_icmp_ge 81 dX5_liveByDraws_10 (by decide) (fun hc10 => False.elim (nI_ge hj (by omega) hc10)) (fun hc10 => ?_)
    refine ev_iconst (v := (nI 0)) dX5_liveByDraws_13 (by decide) ?_
    refine ev_istore dX5_liveByDraws_14 (by decide) rfl ?_
    refine ev_stw (u1 r M' ?_) ⟨rfl, rfl, rfl, rfl, rfl, trivial⟩ rfl rfl
    refine ev_iload dX5_liveByDraws_16 rfl ?_
    refine ev_aload_n dX5_liveByDraws_18 rfl ?_
    refine ev_getR dX5_liveByDraws_19 fX5_50 (by first | assumption | rfl) (by rfl) ?_
    refine ev_getI dX5_liveByDraws_22 fX5_109 (by first | assumption | rfl) (by rfl) ?_
    refine ev_icmp_ge 70 dX5_liveByDraws_25 (by decide) (fun hc25 => ?_) (fun hc25 => False.elim (lp_x hL.2.2.2.1 (by omega) hc25))
    refine ev_aload_n dX5_liveByDraws_70 rfl ?_
    refine ev_iconst (v := (nI 1)) dX5_liveByDraws_71 (by decide) ?_
    refine ev_cV1v dX5_liveByDraws_72 ceX5_passDusks kX5_146 (rm_le rfl rfl) (Nat.le_of_ble_eq_true rfl) (Nat.le_of_ble_eq_true rfl) (e_passDusks hq0) (by first | assumption | rfl) ?_
    refine ev_iinc (v := (nI 1)) dX5_liveByDraws_75 rfl (by decide) (by decide) rfl ?_
    refine ev_goto 8 dX5_liveByDraws_78 (by decide) ?_
    exact ev_stw hE (by simp [rf_sub, nI_add]) rfl eM
  · refine ev_iload_n dX7_runDays_2 rfl ?_
    refine ev_iload_n dX7_runDays_3 rfl ?_
    refine ev_icmp_ge 97 dX7_runDays_4 (by decide) (fun hc4 => False.elim (nI_ge (show j < N by omega) (by omega) hc4)) (fun hc4 => ?_)
    refine ev_aload_n dX7_runDays_7 rfl ?_
    refine ev_getR dX7_runDays_8 fX7_7 (by first | assumption | rfl) (by rfl) ?_
    refine ev_iload_n dX7_runDays_11 rfl ?_
    refine ev_sipush (v := (nI 1334)) dX7_runDays_12 (by decide) ?_
    refine ev_iadd dX7_runDays_15 ?_
    refine ev_ialdE _ dX7_runDays_16 (by first | with_reducible rfl | with_reducible exact nI_add _ _ | with_reducible exact ix3 _ _ _ | with_reducible exact ix_k _ _ _ | with_reducible exact ix_xk _ _ _ _) (by first | assumption | rfl) ⟨by omega, by decide⟩ ?_
    refine ev_sipush (v := (nI 9999)) dX7_runDays_17 (by decide) ?_
    refine ev_icmp_ge 97 dX7_runDays_20 (by decide) (fun hc20 => False.elim (by rw [hd2] at hc20; exact nI_ge (show d < 9999 by omega) (by decide) hc20)) (fun hc20 => ?_)
    refine ev_iconst (v := (nI 0)) dX7_runDays_23 (by decide) ?_
    refine ev_istore dX7_runDays_24 (by decide) rfl ?_
    refine ev_stw (u2 r M' ?_) ⟨rfl, rfl, rfl, rfl, rfl, trivial⟩ rfl rfl
    refine ev_iload dX7_runDays_26 rfl ?_
    refine ev_aload_n dX7_runDays_28 rfl ?_
    refine ev_getR dX7_runDays_29 fX7_29 (by first | assumption | rfl) (by rfl) ?_
    refine ev_iconst (v := (nI 1)) dX7_runDays_32 (by decide) ?_
    refine ev_ialdE _ dX7_runDays_33 (by first | with_reducible rfl | with_reducible exact nI_add _ _ | with_reducible exact ix3 _ _ _ | with_reducible exact ix_k _ _ _ | with_reducible exact ix_xk _ _ _ _) (by first | assumption | rfl) ⟨by omega, by decide⟩ ?_
    refine ev_icmp_ge 86 dX7_runDays_34 (by decide) (fun hc34 => ?_) (fun hc34 => False.elim (lp_x hL.2.2.2.2.1 (by omega) hc34))
    refine ev_aload_n dX7_runDays_86 rfl ?_
    refine ev_iload_n dX7_runDays_87 rfl ?_
    refine ev_cV1v dX7_runDays_88 ceX7_darken kX7_208 (rm_le rfl rfl) (Nat.le_of_ble_eq_true rfl) (Nat.le_of_ble_eq_true rfl) (e7_darken hx hL.2.2.2.2.1 l6 hL.2.1 l3) (by first | assumption | rfl) ?_
    refine ev_iinc (v := (nI 1)) dX7_runDays_91 rfl (by decide) (by decide) rfl ?_
    refine ev_goto 2 dX7_runDays_94 (by decide) ?_
    exact ev_stw hE (by simp [rf_sub, nI_add]) rfl rfl
set_option maxRecDepth 20000 in
set_option maxHeartbeats 2000000 in
theorem sim_days {w : Bool} {q x n nl nr : Nat} {tm : Nat → Nat} {N D : Nat} (hq : st_ok q) (hx : x ≤ 4500) (hn : 0 < n) (hD : D ≤ N) (hN : N ≤ 200) : ∀ (m j d : Nat) (C G : rf_Mem), D - j = m → j ≤ D → d + (D - j) ≤ 9999 → (D = N ∨ d + (D - j) = 9999) → Sim w q x n d nl nr tm C G → ∃ C' G', Ev LayC mX5_liveByDraws 8 [some (.ref q), some (.int (nI N)), some (.int (nI D)), some (.int (nI (j))), none, none] [] C none C' ∧ Ev LayM mX7_runDays 2 [some (.ref 0), some (.int (nI x)), some (.int (nI N)), some (.int (nI (j))), none, none] [] G none G' ∧ Sim w q x n (d + (D - j)) nl nr tm C' G' ∧ FrC q C C' ∧ FrG x G G' := by
  intro m
  induction m with
  | zero =>
    intro j d C G hm hj hdD hor h
    have e : j = D := by omega
    subst e
    have hd2 : G 1 (x + 1334) = nI d := h.2.1.2.1.2.1
    refine ⟨C, G, ?_, ?_, by rw [Nat.sub_self, Nat.add_zero]; exact h, FrC.rf q C, FrG.rf x G⟩
    · refine ev_iload_n dX5_liveByDraws_8 rfl ?_
      refine ev_iload_n dX5_liveByDraws_9 rfl ?_
      refine ev_icmp_ge 81 dX5_liveByDraws_10 (by decide) (fun hc10 => ?_) (fun hc10 => False.elim (hc10 (nI_le (Nat.le_refl _) (by omega))))
      exact ev_vretE dX5_liveByDraws_81 rfl rfl (rfl)
    · rcases hor with e | e
      · refine ev_iload_n dX7_runDays_2 rfl ?_
        refine ev_iload_n dX7_runDays_3 rfl ?_
        refine ev_icmp_ge 97 dX7_runDays_4 (by decide) (fun hc4 => ?_) (fun hc4 => False.elim (hc4 (nI_le (by omega) (by omega))))
        exact ev_vretE dX7_runDays_97 rfl rfl (rfl)
      · refine ev_iload_n dX7_runDays_2 rfl ?_
        refine ev_iload_n dX7_runDays_3 rfl ?_
        refine ev_icmp_ge 97 dX7_runDays_4 (by decide) (fun hc4 => ?_) (fun hc4 => ?_)
        · skip
          exact ev_vretE dX7_runDays_97 rfl rfl (rfl)
        · skip
          refine ev_aload_n dX7_runDays_7 rfl ?_
          refine ev_getR dX7_runDays_8 fX7_7 (by first | assumption | rfl) (by rfl) ?_
          refine ev_iload_n dX7_runDays_11 rfl ?_
          refine ev_sipush (v := (nI 1334)) dX7_runDays_12 (by decide) ?_
          refine ev_iadd dX7_runDays_15 ?_
          refine ev_ialdE _ dX7_runDays_16 (by first | with_reducible rfl | with_reducible exact nI_add _ _ | with_reducible exact ix3 _ _ _ | with_reducible exact ix_k _ _ _ | with_reducible exact ix_xk _ _ _ _) (by first | assumption | rfl) ⟨by omega, by decide⟩ ?_
          refine ev_sipush (v := (nI 9999)) dX7_runDays_17 (by decide) ?_
          refine ev_icmp_ge 97 dX7_runDays_20 (by decide) (fun hc20 => ?_) (fun hc20 => False.elim (hc20 (by rw [hd2]; exact nI_le (by omega) (by omega))))
          exact ev_vretE dX7_runDays_97 rfl rfl (rfl)
  | succ m ih =>
    intro j d C G hm hj hdD hor h
    obtain ⟨C1, G1, u1, u2, h1, f1, f2⟩ := sim_day (N := N) (D := D) hq hx hn (show j < D by omega) hD hN (by omega) h
    obtain ⟨C2, G2, u3, u4, h2, f3, f4⟩ := ih (j + 1) (d + 1) C1 G1 (by omega) (by omega) (by omega) (by omega) h1
    have e : d + 1 + (D - (j + 1)) = d + (D - j) := by omega
    rw [e] at h2
    exact ⟨C2, G2, u1 _ _ u3, u2 _ _ u4, h2, f1.tr f3, f2.tr f4⟩
set_option maxRecDepth 20000 in
set_option maxHeartbeats 2000000 in
theorem sim_live {w : Bool} {q x n nl nr : Nat} {tm : Nat → Nat} {d N : Nat} {C G : rf_Mem} (hq : st_ok q) (hx : x ≤ 4500) (hn : 0 < n) (hN : N ≤ 200) (h : Sim w q x n d nl nr tm C G) : ∃ C' G' d', Ev LayC mX5_liveByDraws 0 (rf_ent 6 [.ref q, .int (nI N)]) [] C none C' ∧ Ev LayM mX7_runDays 0 (rf_ent 6 [.ref 0, .int (nI x), .int (nI N)]) [] G none G' ∧ Sim w q x n d' nl nr tm C' G' ∧ FrC q C C' ∧ FrG x G G' := by
  have hq0 := hq
  obtain ⟨h0, h1, h2, h3, h4, h5, h6, h7, h8, h9, h10, h11, h20⟩ := hq
  have hd1 : C q 10 = nI d := h.2.1.2.1.1
  have hd9 : d ≤ 9999 := h.2.1.2.1.2.2
  obtain ⟨D, hDe⟩ : ∃ D, D = (if 9999 - d < N then 9999 - d else N) := ⟨_, rfl⟩
  have hD : D ≤ N ∧ d + D ≤ 9999 ∧ (D = N ∨ d + D = 9999) := by rw [hDe]; split <;> omega
  have eD : dA (C q 10) (nI N) = nI D := by rw [hd1, dA_nI hd9 (by omega), hDe]
  obtain ⟨C2, G2, u1, u2, h2, f1, f2⟩ := sim_days (N := N) (D := D) hq0 hx hn hD.1 hN D 0 d C G (by omega) (Nat.zero_le _) (by omega) (by omega) h
  refine ⟨C2, G2, d + D, ?_, ?_, h2, f1, f2⟩
  · refine ev_aload_n dX5_liveByDraws_0 rfl ?_
    refine ev_iload_n dX5_liveByDraws_1 rfl ?_
    refine ev_cV1 dX5_liveByDraws_2 ceX5_daysAhead kX5_132 (rm_le rfl rfl) (Nat.le_of_ble_eq_true rfl) (Nat.le_of_ble_eq_true rfl) (e_daysAhead hq0) (by first | assumption | rfl) ?_
    rw [eD]
    refine ev_istore_k 2 dX5_liveByDraws_5 rfl (by decide) rfl ?_
    refine ev_iconst (v := (nI 0)) dX5_liveByDraws_6 (by decide) ?_
    refine ev_istore_k 3 dX5_liveByDraws_7 rfl (by decide) rfl ?_
    exact ev_stw u1 ⟨rfl, rfl, rfl, rfl, trivial⟩ rfl rfl
  · refine ev_iconst (v := (nI 0)) dX7_runDays_0 (by decide) ?_
    refine ev_istore_k 3 dX7_runDays_1 rfl (by decide) rfl ?_
    exact ev_stw u2 ⟨rfl, rfl, rfl, rfl, trivial⟩ rfl rfl
