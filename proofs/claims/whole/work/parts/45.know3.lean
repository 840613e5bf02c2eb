/-! op: toKnow -/
theorem fwC_cong {kd kd' : Nat → Int32} {K K' : Nat → Bool} {R nr tp : Nat} {rm : Int32} (h : ∀ r, r < nr → kd r = kd' r ∧ K r = K' r) : fwC kd K R nr tp rm = fwC kd' K' R nr tp rm := by
  have e1 : fb_ct (lkP K R) nr = fb_ct (lkP K' R) nr := fb_ct_cong (fun r hr => by unfold lkP; rw [(h r hr).2])
  have e2 : fb_ct (fun r => lkP K R r && decide (kd r = nI 3)) nr = fb_ct (fun r => lkP K' R r && decide (kd' r = nI 3)) nr := fb_ct_cong (fun r hr => by unfold lkP; rw [(h r hr).2, (h r hr).1])
  have e3 : bAny (fun r => decide (kd r = nI 4) && K r) nr = bAny (fun r => decide (kd' r = nI 4) && K' r) nr := bAny_cong (fun r hr => by rw [(h r hr).2, (h r hr).1])
  have e4 : bAny (fun r => decide (kd r = nI 1)) nr = bAny (fun r => decide (kd' r = nI 1)) nr := bAny_cong (fun r hr => by rw [(h r hr).1])
  have e5 : bAny (fun r => decide (kd r = nI 4)) nr = bAny (fun r => decide (kd' r = nI 4)) nr := bAny_cong (fun r hr => by rw [(h r hr).1])
  have e6 : bAny (fun r => decide (kd r = nI 4) && hb R r) nr = bAny (fun r => decide (kd' r = nI 4) && hb R r) nr := bAny_cong (fun r hr => by rw [(h r hr).1])
  have e7 : paC kd K R nr tp rm = paC kd' K' R nr tp rm := by unfold paC; rw [e1, e2]
  unfold fwC
  rw [e1, e3, e4, e5, e6, e7]
def tkS (X : Nat → Nat) (S : Nat) : Nat → Int32
  | 0 => nI 0
  | j + 1 => if hb S j = true then tkS X S j + tI (X j) else tkS X S j
theorem if99 {X : Nat → Nat} {S i : Nat} (h1 : hb S i = true) (h2 : X i = 99) : (hb S i && decide (X i = 99)) = true := by rw [h1, decide_eq_true h2]; rfl
theorem if9n {X : Nat → Nat} {S i : Nat} (h : hb S i = false ∨ ¬ X i = 99) : (hb S i && decide (X i = 99)) = false := by
  rcases h with h | h
  · rw [h]; rfl
  · rw [decide_eq_false h, Bool.and_false]
set_option maxRecDepth 20000 in
set_option maxHeartbeats 2000000 in
theorem op_toKnow {ls rs : Int32} : OpOk mX6_toKnow mX7_toKnow [.int ls, .int rs] := by
  intro C G hR
  have hR0 := hR
  obtain ⟨nl, nr, tm, n, d, nq, tl, nd, b0, b1, kt, hp⟩ := hR
  obtain ⟨hS, hE, hQ, hT, hDr, hI, hkt, hkt3⟩ := id hp
  have hL := hS.1
  obtain ⟨l1, m1, l3, r1, m2, l6, le, lw, lr⟩ := id hL
  obtain ⟨hP, ⟨d1, d2, d3⟩, ⟨s1, s2⟩, hH⟩ := id hS.2.1
  obtain ⟨p1, p2, p3, p4, p5⟩ := id hP
  rw [Nat.zero_add] at p2 d2 s1
  obtain ⟨-, -, k, k', q1, q2, q3, q4, q5⟩ := id hS
  obtain ⟨ke, kl⟩ := q5 rfl
  subst ke
  obtain ⟨-, -, -, kl4⟩ := id kl
  rw [Nat.zero_add] at q3
  rcases set_of ls (m := nl) l3 with ⟨Sl, hSl, e1, c1, c2⟩ | ⟨c1, c2⟩
  · subst e1
    rcases set_of rs (m := nr) (by omega) with ⟨R, hR, e2, c3, c4⟩ | ⟨c3, c4⟩
    · subst e2
      have hS31 : Sl < 2 ^ 31 := Nat.lt_of_lt_of_le hSl (Nat.pow_le_pow_right (by decide) (by omega))
      have hfC : ∀ l, l < nl → Ev LayC mX6_fewestToKnow 0 (rf_ent 7 [.ref 0, .int (nI l), .int (nI R)]) [] C (some (.int (tI ((fun l => fwC (C 11) (fun r => decide (knC C 21 (C 21 10) r l = nI 0)) R nr (fb_ct (vWith (C (21 + 1)) (C (21 + 2)) (C (21 + 3)) (nI l) (nI 0)) n) (iSum (vWith (C (21 + 1)) (C (21 + 2)) (C (21 + 3)) (nI l) (nI 0)) (fun p => nI 9 - C (21 + 3) p) n)) l)))) C := fun l hl => e_fewest p1 p3 r1 l6 (by omega) hR
      have hfG : ∀ l, l < nl → Ev LayM mX7_fewest 0 (rf_ent 11 [.ref 0, .int (nI l), .int (nI R)]) [] G (some (.int (tI ((fun l => fwC (C 11) (fun r => decide (knC C 21 (C 21 10) r l = nI 0)) R nr (fb_ct (vWith (C (21 + 1)) (C (21 + 2)) (C (21 + 3)) (nI l) (nI 0)) n) (iSum (vWith (C (21 + 1)) (C (21 + 2)) (C (21 + 3)) (nI l) (nI 0)) (fun p => nI 9 - C (21 + 3) p) n)) l)))) G := fun l hl => by
        have h1 := e7_fewest (R := R) p2 p3 m2 l6 (show l < 16 by omega) hR
        rw [fw_same _ _ _ _ _ _ l6] at h1
        have w1 : ∀ p, p < n → vWith (G 1) (fun p => G 1 (40 + p)) (fun p => G 1 (80 + p)) (nI l) (nI 0) p = vWith (C (21 + 1)) (C (21 + 2)) (C (21 + 3)) (nI l) (nI 0) p := fun p hp => by
          have := wt_same hP (nI l) (nI 0) hp
          simp only [Nat.zero_add] at this
          exact this
        have w2 : ∀ p, p < n → nI 9 - G 1 (80 + p) = nI 9 - C (21 + 3) p := fun p hp => by
          obtain ⟨⟨-, -, a3, -⟩, -⟩ := p5 p hp
          rw [Nat.zero_add] at a3
          rw [a3]
        rw [fb_ct_cong w1, iSum_cong (fun p hp => ⟨w1 p hp, w2 p hp⟩)] at h1
        rw [fwC_cong (kd' := C 11) (K' := (fun r => decide (knC C 21 (C 21 10) r l = nI 0))) (fun r hr => ⟨(lr r hr).1.symm, by rw [(kn_same hS hr hl).1, nI_0, Nat.zero_add]⟩)] at h1
        exact h1
      have h99 : ∀ l, (fun l => fwC (C 11) (fun r => decide (knC C 21 (C 21 10) r l = nI 0)) R nr (fb_ct (vWith (C (21 + 1)) (C (21 + 2)) (C (21 + 3)) (nI l) (nI 0)) n) (iSum (vWith (C (21 + 1)) (C (21 + 2)) (C (21 + 3)) (nI l) (nI 0)) (fun p => nI 9 - C (21 + 3) p) n)) l ≤ 99 := fun l => by simp only [← fw_same _ _ _ _ _ _ l6]; exact mnN_le _ _ _ _ _ _ l6 _
      obtain ⟨X, hX⟩ : ∃ X, X = (fun l => fwC (C 11) (fun r => decide (knC C 21 (C 21 10) r l = nI 0)) R nr (fb_ct (vWith (C (21 + 1)) (C (21 + 2)) (C (21 + 3)) (nI l) (nI 0)) n) (iSum (vWith (C (21 + 1)) (C (21 + 2)) (C (21 + 3)) (nI l) (nI 0)) (fun p => nI 9 - C (21 + 3) p) n)) := ⟨_, rfl⟩
      rw [← hX] at hfC hfG h99
      clear hX
      refine ⟨(if bAny (fun j => hb Sl j && decide (X j = 99)) nl = true then -1 else tkS X Sl nl), C, G, ?_, ?_, hR0⟩
      · have key := ev_forI (Lay := LayC) (y := mX6_toKnow) (pc := 36) (r := some (.int (if bAny (fun j => hb Sl j && decide (X j = 99)) nl = true then -1 else tkS X Sl nl))) (M' := C) nl (fun i => ∀ j, j < i → (hb Sl j && decide (X j = 99)) = false) (fun i => [some (.ref 0), some (.int (nI Sl)), some (.int (nI R)), some (.int (tkS X Sl (i))), some (.int (nI (i))), none]) (fun _ => C) ?hx ?hs
        case hx =>
          intro hI2
          rw [bAny_no hI2]
          refine ev_iload dX6_toKnow_36 rfl ?_
          refine ev_aload_n dX6_toKnow_38 rfl ?_
          refine ev_getR dX6_toKnow_39 fX6_23 (by first | assumption | rfl) (by rfl) ?_
          refine ev_getI dX6_toKnow_42 fX6_94 (by first | assumption | rfl) (by rfl) ?_
          refine ev_icmp_ge 85 dX6_toKnow_45 (by decide) (fun hc45 => ?_) (fun hc45 => False.elim (lp_x l1 (by omega) hc45))
          refine ev_iload_n dX6_toKnow_85 rfl ?_
          exact ev_iretE dX6_toKnow_86 rfl rfl (by first | rfl | simp_all) (rfl)
        case hs =>
          intro i hi hI2 ih
          have hn9 := tI_neg (h99 i)
          refine ev_iload dX6_toKnow_36 rfl ?_
          refine ev_aload_n dX6_toKnow_38 rfl ?_
          refine ev_getR dX6_toKnow_39 fX6_23 (by first | assumption | rfl) (by rfl) ?_
          refine ev_getI dX6_toKnow_42 fX6_94 (by first | assumption | rfl) (by rfl) ?_
          refine ev_icmp_ge 85 dX6_toKnow_45 (by decide) (fun hc45 => False.elim (lp_s l1 (by omega) hi hc45)) (fun hc45 => ?_)
          refine ev_iload_n dX6_toKnow_48 rfl ?_
          refine ev_iload dX6_toKnow_49 rfl ?_
          refine ev_cS2 dX6_toKnow_51 ceX6_has kX6_265 (rm_le rfl rfl) (Nat.le_of_ble_eq_true rfl) (Nat.le_of_ble_eq_true rfl) (e_hasN hS31 (by omega)) ?_
          refine ev_if_eq 79 dX6_toKnow_54 (by decide) (fun hc54 => ?_) (fun hc54 => ?_)
          · rw [b2i_0] at hc54
            refine ev_iinc (v := (nI 1)) dX6_toKnow_79 rfl (by decide) (by decide) rfl ?_
            refine ev_goto 36 dX6_toKnow_82 (by decide) ?_
            first
            | exact ev_stw (ih (no_s hI2 (if9n (Or.inl hc54)))) (by simp [rf_sub, nI_add, tkS, hc54]) rfl rfl
            | exact ev_stw (ih (no_s hI2 (if9n (Or.inr (fun z => hc69 (hn9.2.mpr z)))))) (by simp [rf_sub, nI_add, tkS, hc54]) rfl rfl
          · rw [b2i_n0] at hc54
            refine ev_aload_n dX6_toKnow_57 rfl ?_
            refine ev_iload dX6_toKnow_58 rfl ?_
            refine ev_iload_n dX6_toKnow_60 rfl ?_
            refine ev_cV2 dX6_toKnow_61 ceX6_fewestToKnow kX6_268 (rm_le rfl rfl) (Nat.le_of_ble_eq_true rfl) (Nat.le_of_ble_eq_true rfl) (hfC i hi) (by first | assumption | rfl) ?_
            refine ev_istore dX6_toKnow_64 (by decide) rfl ?_
            refine ev_iload dX6_toKnow_66 rfl ?_
            refine ev_iconst (v := (-1)) dX6_toKnow_68 (by decide) ?_
            refine ev_icmp_ne 74 dX6_toKnow_69 (by decide) (fun hc69 => ?_) (fun hc69 => ?_)
            · have hz9 : True := trivial
              refine ev_iload_n dX6_toKnow_74 rfl ?_
              refine ev_iload dX6_toKnow_75 rfl ?_
              refine ev_iadd dX6_toKnow_77 ?_
              refine ev_istore_k 3 dX6_toKnow_78 rfl (by decide) rfl ?_
              refine ev_iinc (v := (nI 1)) dX6_toKnow_79 rfl (by decide) (by decide) rfl ?_
              refine ev_goto 36 dX6_toKnow_82 (by decide) ?_
              first
              | exact ev_stw (ih (no_s hI2 (if9n (Or.inl hc54)))) (by simp [rf_sub, nI_add, tkS, hc54]) rfl rfl
              | exact ev_stw (ih (no_s hI2 (if9n (Or.inr (fun z => hc69 (hn9.2.mpr z)))))) (by simp [rf_sub, nI_add, tkS, hc54]) rfl rfl
            · rw [hn9.2] at hc69
              refine ev_iconst (v := (-1)) dX6_toKnow_72 (by decide) ?_
              exact ev_iretE dX6_toKnow_73 rfl rfl (by rw [bAny_of hi (if99 hc54 hc69)]; rfl) (rfl)
        refine ev_iload_n dX6_toKnow_0 rfl ?_
        refine ev_aload_n dX6_toKnow_1 rfl ?_
        refine ev_getR dX6_toKnow_2 fX6_23 (by first | assumption | rfl) (by rfl) ?_
        refine ev_getI dX6_toKnow_5 fX6_94 (by first | assumption | rfl) (by rfl) ?_
        refine ev_cS2 dX6_toKnow_8 ceX6_isSetOf kX6_227 (rm_le rfl rfl) (Nat.le_of_ble_eq_true rfl) (Nat.le_of_ble_eq_true rfl) (e_isSetOf) ?_
        rw [l1, c1]
        refine ev_if_eq 28 dX6_toKnow_11 (by decide) (fun hc11 => False.elim (absurd hc11 (by decide))) (fun hc11 => ?_)
        refine ev_iload_n dX6_toKnow_14 rfl ?_
        refine ev_aload_n dX6_toKnow_15 rfl ?_
        refine ev_getR dX6_toKnow_16 fX6_23 (by first | assumption | rfl) (by rfl) ?_
        refine ev_getI dX6_toKnow_19 fX6_100 (by first | assumption | rfl) (by rfl) ?_
        refine ev_cS2 dX6_toKnow_22 ceX6_isSetOf kX6_227 (rm_le rfl rfl) (Nat.le_of_ble_eq_true rfl) (Nat.le_of_ble_eq_true rfl) (e_isSetOf) ?_
        rw [r1, c3]
        refine ev_if_ne 31 dX6_toKnow_25 (by decide) (fun hc25 => ?_) (fun hc25 => False.elim (absurd hc25 (by decide)))
        refine ev_iconst (v := (nI 0)) dX6_toKnow_31 (by decide) ?_
        refine ev_istore_k 3 dX6_toKnow_32 rfl (by decide) rfl ?_
        refine ev_iconst (v := (nI 0)) dX6_toKnow_33 (by decide) ?_
        refine ev_istore dX6_toKnow_34 (by decide) rfl ?_
        exact ev_st (key 0 (Nat.zero_le _) (by intro j hj; omega)) rfl rfl rfl
      · have key := ev_forI (Lay := LayM) (y := mX7_toKnow) (pc := 48) (r := some (.int (if bAny (fun j => hb Sl j && decide (X j = 99)) nl = true then -1 else tkS X Sl nl))) (M' := G) nl (fun i => ∀ j, j < i → (hb Sl j && decide (X j = 99)) = false) (fun i => [some (.ref 0), some (.int (nI Sl)), some (.int (nI R)), some (.int (tkS X Sl (i))), some (.int (nI (i))), none]) (fun _ => G) ?hx ?hs
        case hx =>
          intro hI2
          rw [bAny_no hI2]
          refine ev_iload dX7_toKnow_48 rfl ?_
          refine ev_aload_n dX7_toKnow_50 rfl ?_
          refine ev_getR dX7_toKnow_51 fX7_29 (by first | assumption | rfl) (by rfl) ?_
          refine ev_iconst (v := (nI 0)) dX7_toKnow_54 (by decide) ?_
          refine ev_ialdE _ dX7_toKnow_55 (by first | with_reducible rfl | with_reducible exact nI_add _ _ | with_reducible exact ix3 _ _ _ | with_reducible exact ix_k _ _ _ | with_reducible exact ix_xk _ _ _ _) (by first | assumption | rfl) ⟨by omega, by decide⟩ ?_
          refine ev_icmp_ge 95 dX7_toKnow_56 (by decide) (fun hc56 => ?_) (fun hc56 => False.elim (lp_x m1 (by omega) hc56))
          refine ev_iload_n dX7_toKnow_95 rfl ?_
          exact ev_iretE dX7_toKnow_96 rfl rfl (by first | rfl | simp_all) (rfl)
        case hs =>
          intro i hi hI2 ih
          have hn9 := tI_neg (h99 i)
          refine ev_iload dX7_toKnow_48 rfl ?_
          refine ev_aload_n dX7_toKnow_50 rfl ?_
          refine ev_getR dX7_toKnow_51 fX7_29 (by first | assumption | rfl) (by rfl) ?_
          refine ev_iconst (v := (nI 0)) dX7_toKnow_54 (by decide) ?_
          refine ev_ialdE _ dX7_toKnow_55 (by first | with_reducible rfl | with_reducible exact nI_add _ _ | with_reducible exact ix3 _ _ _ | with_reducible exact ix_k _ _ _ | with_reducible exact ix_xk _ _ _ _) (by first | assumption | rfl) ⟨by omega, by decide⟩ ?_
          refine ev_icmp_ge 95 dX7_toKnow_56 (by decide) (fun hc56 => False.elim (lp_s m1 (by omega) hi hc56)) (fun hc56 => ?_)
          refine ev_iload_n dX7_toKnow_59 rfl ?_
          refine ev_iload dX7_toKnow_60 rfl ?_
          refine ev_cS2 dX7_toKnow_62 ceX7_has kX7_220 (rm_le rfl rfl) (Nat.le_of_ble_eq_true rfl) (Nat.le_of_ble_eq_true rfl) (e7_hasN hS31 (by omega)) ?_
          refine ev_if_eq 89 dX7_toKnow_65 (by decide) (fun hc65 => ?_) (fun hc65 => ?_)
          · rw [b2i_0] at hc65
            refine ev_iinc (v := (nI 1)) dX7_toKnow_89 rfl (by decide) (by decide) rfl ?_
            refine ev_goto 48 dX7_toKnow_92 (by decide) ?_
            first
            | exact ev_stw (ih (no_s hI2 (if9n (Or.inl hc65)))) (by simp [rf_sub, nI_add, tkS, hc65]) rfl rfl
            | exact ev_stw (ih (no_s hI2 (if9n (Or.inr (fun z => (fa_of_lt (hn9.1.mpr z)).2.1 hc79))))) (by simp [rf_sub, nI_add, tkS, hc65]) rfl rfl
          · rw [b2i_n0] at hc65
            refine ev_aload_n dX7_toKnow_68 rfl ?_
            refine ev_iload dX7_toKnow_69 rfl ?_
            refine ev_iload_n dX7_toKnow_71 rfl ?_
            refine ev_cV2 dX7_toKnow_72 ceX7_fewest kX7_245 (rm_le rfl rfl) (Nat.le_of_ble_eq_true rfl) (Nat.le_of_ble_eq_true rfl) (hfG i hi) (by first | assumption | rfl) ?_
            refine ev_istore dX7_toKnow_75 (by decide) rfl ?_
            refine ev_iload dX7_toKnow_77 rfl ?_
            refine ev_if_ge 84 dX7_toKnow_79 (by decide) (fun hc79 => ?_) (fun hc79 => ?_)
            · have hz9 : True := trivial
              refine ev_iload_n dX7_toKnow_84 rfl ?_
              refine ev_iload dX7_toKnow_85 rfl ?_
              refine ev_iadd dX7_toKnow_87 ?_
              refine ev_istore_k 3 dX7_toKnow_88 rfl (by decide) rfl ?_
              refine ev_iinc (v := (nI 1)) dX7_toKnow_89 rfl (by decide) (by decide) rfl ?_
              refine ev_goto 48 dX7_toKnow_92 (by decide) ?_
              first
              | exact ev_stw (ih (no_s hI2 (if9n (Or.inl hc65)))) (by simp [rf_sub, nI_add, tkS, hc65]) rfl rfl
              | exact ev_stw (ih (no_s hI2 (if9n (Or.inr (fun z => (fa_of_lt (hn9.1.mpr z)).2.1 hc79))))) (by simp [rf_sub, nI_add, tkS, hc65]) rfl rfl
            · have hc79 := hn9.1.mp (fa_of_nle hc79)
              refine ev_iconst (v := (-1)) dX7_toKnow_82 (by decide) ?_
              exact ev_iretE dX7_toKnow_83 rfl rfl (by rw [bAny_of hi (if99 hc65 hc79)]; rfl) (rfl)
        refine ev_iload_n dX7_toKnow_0 rfl ?_
        refine ev_i2l dX7_toKnow_1 ?_
        refine ev_lconst (v := 0) dX7_toKnow_2 rfl ?_
        refine ev_iconst (v := (nI 1)) dX7_toKnow_3 (by decide) ?_
        refine ev_aload_n dX7_toKnow_4 rfl ?_
        refine ev_getR dX7_toKnow_5 fX7_29 (by first | assumption | rfl) (by rfl) ?_
        refine ev_iconst (v := (nI 0)) dX7_toKnow_8 (by decide) ?_
        refine ev_ialdE _ dX7_toKnow_9 (by first | with_reducible rfl | with_reducible exact nI_add _ _ | with_reducible exact ix3 _ _ _ | with_reducible exact ix_k _ _ _ | with_reducible exact ix_xk _ _ _ _) (by first | assumption | rfl) ⟨by omega, by decide⟩ ?_
        refine ev_ishl dX7_toKnow_10 ?_
        refine ev_iconst (v := (nI 1)) dX7_toKnow_11 (by decide) ?_
        refine ev_isub dX7_toKnow_12 ?_
        refine ev_i2l dX7_toKnow_13 ?_
        rw [m1]
        refine ev_cS3 dX7_toKnow_14 ceX7_in kX7_59 (rm_le rfl rfl) (Nat.le_of_ble_eq_true rfl) (Nat.le_of_ble_eq_true rfl) (e7_in) ?_
        rw [c2]
        refine ev_if_eq 40 dX7_toKnow_17 (by decide) (fun hc17 => False.elim (absurd hc17 (by decide))) (fun hc17 => ?_)
        refine ev_iload_n dX7_toKnow_20 rfl ?_
        refine ev_i2l dX7_toKnow_21 ?_
        refine ev_lconst (v := 0) dX7_toKnow_22 rfl ?_
        refine ev_iconst (v := (nI 1)) dX7_toKnow_23 (by decide) ?_
        refine ev_aload_n dX7_toKnow_24 rfl ?_
        refine ev_getR dX7_toKnow_25 fX7_29 (by first | assumption | rfl) (by rfl) ?_
        refine ev_iconst (v := (nI 1)) dX7_toKnow_28 (by decide) ?_
        refine ev_ialdE _ dX7_toKnow_29 (by first | with_reducible rfl | with_reducible exact nI_add _ _ | with_reducible exact ix3 _ _ _ | with_reducible exact ix_k _ _ _ | with_reducible exact ix_xk _ _ _ _) (by first | assumption | rfl) ⟨by omega, by decide⟩ ?_
        refine ev_ishl dX7_toKnow_30 ?_
        refine ev_iconst (v := (nI 1)) dX7_toKnow_31 (by decide) ?_
        refine ev_isub dX7_toKnow_32 ?_
        refine ev_i2l dX7_toKnow_33 ?_
        rw [m2]
        refine ev_cS3 dX7_toKnow_34 ceX7_in kX7_59 (rm_le rfl rfl) (Nat.le_of_ble_eq_true rfl) (Nat.le_of_ble_eq_true rfl) (e7_in) ?_
        rw [c4]
        refine ev_if_ne 43 dX7_toKnow_37 (by decide) (fun hc37 => ?_) (fun hc37 => False.elim (absurd hc37 (by decide)))
        refine ev_iconst (v := (nI 0)) dX7_toKnow_43 (by decide) ?_
        refine ev_istore_k 3 dX7_toKnow_44 rfl (by decide) rfl ?_
        refine ev_iconst (v := (nI 0)) dX7_toKnow_45 (by decide) ?_
        refine ev_istore dX7_toKnow_46 (by decide) rfl ?_
        exact ev_st (key 0 (Nat.zero_le _) (by intro j hj; omega)) rfl rfl rfl
    · refine ⟨(-1000000001), C, G, ?_, ?_, hR0⟩
      · refine ev_iload_n dX6_toKnow_0 rfl ?_
        refine ev_aload_n dX6_toKnow_1 rfl ?_
        refine ev_getR dX6_toKnow_2 fX6_23 (by first | assumption | rfl) (by rfl) ?_
        refine ev_getI dX6_toKnow_5 fX6_94 (by first | assumption | rfl) (by rfl) ?_
        refine ev_cS2 dX6_toKnow_8 ceX6_isSetOf kX6_227 (rm_le rfl rfl) (Nat.le_of_ble_eq_true rfl) (Nat.le_of_ble_eq_true rfl) (e_isSetOf) ?_
        rw [l1, c1]
        refine ev_if_eq 28 dX6_toKnow_11 (by decide) (fun hc11 => False.elim (absurd hc11 (by decide))) (fun hc11 => ?_)
        refine ev_iload_n dX6_toKnow_14 rfl ?_
        refine ev_aload_n dX6_toKnow_15 rfl ?_
        refine ev_getR dX6_toKnow_16 fX6_23 (by first | assumption | rfl) (by rfl) ?_
        refine ev_getI dX6_toKnow_19 fX6_100 (by first | assumption | rfl) (by rfl) ?_
        refine ev_cS2 dX6_toKnow_22 ceX6_isSetOf kX6_227 (rm_le rfl rfl) (Nat.le_of_ble_eq_true rfl) (Nat.le_of_ble_eq_true rfl) (e_isSetOf) ?_
        rw [r1, c3]
        refine ev_if_ne 31 dX6_toKnow_25 (by decide) (fun hc25 => False.elim (absurd hc25 (by decide))) (fun hc25 => ?_)
        refine ev_ldc (v := (-1000000001)) dX6_toKnow_28 nX6_127 ?_
        exact ev_iretE dX6_toKnow_30 rfl rfl (by first | rfl | simp_all) (rfl)
      · refine ev_iload_n dX7_toKnow_0 rfl ?_
        refine ev_i2l dX7_toKnow_1 ?_
        refine ev_lconst (v := 0) dX7_toKnow_2 rfl ?_
        refine ev_iconst (v := (nI 1)) dX7_toKnow_3 (by decide) ?_
        refine ev_aload_n dX7_toKnow_4 rfl ?_
        refine ev_getR dX7_toKnow_5 fX7_29 (by first | assumption | rfl) (by rfl) ?_
        refine ev_iconst (v := (nI 0)) dX7_toKnow_8 (by decide) ?_
        refine ev_ialdE _ dX7_toKnow_9 (by first | with_reducible rfl | with_reducible exact nI_add _ _ | with_reducible exact ix3 _ _ _ | with_reducible exact ix_k _ _ _ | with_reducible exact ix_xk _ _ _ _) (by first | assumption | rfl) ⟨by omega, by decide⟩ ?_
        refine ev_ishl dX7_toKnow_10 ?_
        refine ev_iconst (v := (nI 1)) dX7_toKnow_11 (by decide) ?_
        refine ev_isub dX7_toKnow_12 ?_
        refine ev_i2l dX7_toKnow_13 ?_
        rw [m1]
        refine ev_cS3 dX7_toKnow_14 ceX7_in kX7_59 (rm_le rfl rfl) (Nat.le_of_ble_eq_true rfl) (Nat.le_of_ble_eq_true rfl) (e7_in) ?_
        rw [c2]
        refine ev_if_eq 40 dX7_toKnow_17 (by decide) (fun hc17 => False.elim (absurd hc17 (by decide))) (fun hc17 => ?_)
        refine ev_iload_n dX7_toKnow_20 rfl ?_
        refine ev_i2l dX7_toKnow_21 ?_
        refine ev_lconst (v := 0) dX7_toKnow_22 rfl ?_
        refine ev_iconst (v := (nI 1)) dX7_toKnow_23 (by decide) ?_
        refine ev_aload_n dX7_toKnow_24 rfl ?_
        refine ev_getR dX7_toKnow_25 fX7_29 (by first | assumption | rfl) (by rfl) ?_
        refine ev_iconst (v := (nI 1)) dX7_toKnow_28 (by decide) ?_
        refine ev_ialdE _ dX7_toKnow_29 (by first | with_reducible rfl | with_reducible exact nI_add _ _ | with_reducible exact ix3 _ _ _ | with_reducible exact ix_k _ _ _ | with_reducible exact ix_xk _ _ _ _) (by first | assumption | rfl) ⟨by omega, by decide⟩ ?_
        refine ev_ishl dX7_toKnow_30 ?_
        refine ev_iconst (v := (nI 1)) dX7_toKnow_31 (by decide) ?_
        refine ev_isub dX7_toKnow_32 ?_
        refine ev_i2l dX7_toKnow_33 ?_
        rw [m2]
        refine ev_cS3 dX7_toKnow_34 ceX7_in kX7_59 (rm_le rfl rfl) (Nat.le_of_ble_eq_true rfl) (Nat.le_of_ble_eq_true rfl) (e7_in) ?_
        rw [c4]
        refine ev_if_ne 43 dX7_toKnow_37 (by decide) (fun hc37 => False.elim (absurd hc37 (by decide))) (fun hc37 => ?_)
        refine ev_ldc (v := (-1000000001)) dX7_toKnow_40 nX7_165 ?_
        exact ev_iretE dX7_toKnow_42 rfl rfl (by first | rfl | simp_all) (rfl)
  · refine ⟨(-1000000001), C, G, ?_, ?_, hR0⟩
    · refine ev_iload_n dX6_toKnow_0 rfl ?_
      refine ev_aload_n dX6_toKnow_1 rfl ?_
      refine ev_getR dX6_toKnow_2 fX6_23 (by first | assumption | rfl) (by rfl) ?_
      refine ev_getI dX6_toKnow_5 fX6_94 (by first | assumption | rfl) (by rfl) ?_
      refine ev_cS2 dX6_toKnow_8 ceX6_isSetOf kX6_227 (rm_le rfl rfl) (Nat.le_of_ble_eq_true rfl) (Nat.le_of_ble_eq_true rfl) (e_isSetOf) ?_
      rw [l1, c1]
      refine ev_if_eq 28 dX6_toKnow_11 (by decide) (fun hc11 => ?_) (fun hc11 => False.elim (absurd hc11 (by decide)))
      refine ev_ldc (v := (-1000000001)) dX6_toKnow_28 nX6_127 ?_
      exact ev_iretE dX6_toKnow_30 rfl rfl (by first | rfl | simp_all) (rfl)
    · refine ev_iload_n dX7_toKnow_0 rfl ?_
      refine ev_i2l dX7_toKnow_1 ?_
      refine ev_lconst (v := 0) dX7_toKnow_2 rfl ?_
      refine ev_iconst (v := (nI 1)) dX7_toKnow_3 (by decide) ?_
      refine ev_aload_n dX7_toKnow_4 rfl ?_
      refine ev_getR dX7_toKnow_5 fX7_29 (by first | assumption | rfl) (by rfl) ?_
      refine ev_iconst (v := (nI 0)) dX7_toKnow_8 (by decide) ?_
      refine ev_ialdE _ dX7_toKnow_9 (by first | with_reducible rfl | with_reducible exact nI_add _ _ | with_reducible exact ix3 _ _ _ | with_reducible exact ix_k _ _ _ | with_reducible exact ix_xk _ _ _ _) (by first | assumption | rfl) ⟨by omega, by decide⟩ ?_
      refine ev_ishl dX7_toKnow_10 ?_
      refine ev_iconst (v := (nI 1)) dX7_toKnow_11 (by decide) ?_
      refine ev_isub dX7_toKnow_12 ?_
      refine ev_i2l dX7_toKnow_13 ?_
      rw [m1]
      refine ev_cS3 dX7_toKnow_14 ceX7_in kX7_59 (rm_le rfl rfl) (Nat.le_of_ble_eq_true rfl) (Nat.le_of_ble_eq_true rfl) (e7_in) ?_
      rw [c2]
      refine ev_if_eq 40 dX7_toKnow_17 (by decide) (fun hc17 => ?_) (fun hc17 => False.elim (absurd hc17 (by decide)))
      refine ev_ldc (v := (-1000000001)) dX7_toKnow_40 nX7_165 ?_
      exact ev_iretE dX7_toKnow_42 rfl rfl (by first | rfl | simp_all) (rfl)
