/-! the script: one clause; the reference's own -/
def wE (f : Nat → Int32) (tl a : Nat) : Nat := scn (ltB f) (tl - a) a
theorem wE_le {f : Nat → Int32} {tl a : Nat} (h : a ≤ tl) : a ≤ wE f tl a ∧ wE f tl a ≤ tl := scn_tl h
set_option maxRecDepth 20000 in
set_option maxHeartbeats 2000000 in
theorem e_clLine {f : Nat → Int32} {tl : Nat} {C : rf_Mem} (hB : TB tl f C) (hF : TF tl f) {x : Nat × Int32} {a : Nat} {n : Nat} (h3 : C 3 4 = nI n) (hn : n ≤ 16) (ha : a ≤ tl) (hx : x.1 ≤ 3) (w0 : wdB f a (wE f tl a - a) 0 = true) : Ev LayC mX4_parseClause 0 (rf_ent 4 [.ref 1, .ref 3]) [] (scM C a x) none (if (lnX f tl n a (wE f tl a) x).1 = 0 then scM (adL C n (nI (vN f tl (wE f tl a))) (nI (vN f tl (dE f tl (wE f tl a))))) (lnA f tl (wE f tl a)) (lnX f tl n a (wE f tl a) x) else scM C (lnA f tl (wE f tl a)) (lnX f tl n a (wE f tl a) x)) := by
  obtain ⟨q1, q2⟩ := wE_le (f := f) ha
  refine ev_aload_n dX4_parseClause_0 rfl ?_
  refine ev_getI dX4_parseClause_1 fX4_25 (by first | assumption | rfl) (by rfl) ?_
  rw [sc_4]
  refine ev_istore_k 2 dX4_parseClause_4 rfl (by decide) rfl ?_
  refine ev_aload_n dX4_parseClause_5 rfl ?_
  refine ev_cV0 dX4_parseClause_6 ceX4_wordEnd kX4_40 (rm_le rfl rfl) (Nat.le_of_ble_eq_true rfl) (Nat.le_of_ble_eq_true rfl) (e_wordEnd hB ha) (by first | assumption | rfl) ?_
  rw [show scn (ltB f) (tl - a) a = wE f tl a from rfl]
  refine ev_istore_k 3 dX4_parseClause_9 rfl (by decide) rfl ?_
  refine ev_aload_n dX4_parseClause_10 rfl ?_
  refine ev_iload_n dX4_parseClause_11 rfl ?_
  refine ev_put dX4_parseClause_12 pX4_25 (by first | assumption | rfl) (by rfl) (rfl) (rfl) ?_
  rw [sc_p4]
  refine ev_aload_n dX4_parseClause_15 rfl ?_
  refine ev_iload_n dX4_parseClause_16 rfl ?_
  refine ev_iload_n dX4_parseClause_17 rfl ?_
  refine ev_ldcS (j := 0) dX4_parseClause_18 rfl rfl ?_
  refine ev_cV3 dX4_parseClause_20 ceX4_spells kX4_46 (rm_le rfl rfl) (Nat.le_of_ble_eq_true rfl) (Nat.le_of_ble_eq_true rfl) (e_spells hB (j := 0) (by decide) q1 q2) (by first | assumption | rfl) ?_
  refine ev_if_eq 35 dX4_parseClause_23 (by decide) (fun hc23 => False.elim (by rw [b2i_0, w0] at hc23; cases hc23)) (fun hc23 => ?_)
  refine ev_aload_n dX4_parseClause_26 rfl ?_
  refine ev_aload_n dX4_parseClause_27 rfl ?_
  refine ev_iload_n dX4_parseClause_28 rfl ?_
  refine ev_cV2v dX4_parseClause_29 ceX4_parseLine kX4_50 (rm_le rfl rfl) (Nat.le_of_ble_eq_true rfl) (Nat.le_of_ble_eq_true rfl) (e_parseLine hB hF h3 hn q2 hx) (by first | assumption | rfl) ?_
  refine ev_goto 81 dX4_parseClause_32 (by decide) ?_
  exact ev_vretE dX4_parseClause_81 rfl rfl (rfl)
set_option maxRecDepth 20000 in
set_option maxHeartbeats 2000000 in
theorem e_clReader {f : Nat → Int32} {tl : Nat} {C : rf_Mem} (hB : TB tl f C) (hF : TF tl f) {x : Nat × Int32} {a : Nat} {n : Nat} (h3 : C 3 5 = nI n) (hn : n ≤ 8) (ha : a ≤ tl) (hx : x.1 ≤ 3) (w0 : wdB f a (wE f tl a - a) 0 = false) (w1 : wdB f a (wE f tl a - a) 1 = true) : Ev LayC mX4_parseClause 0 (rf_ent 4 [.ref 1, .ref 3]) [] (scM C a x) none (if (rdX f tl n a (wE f tl a) x).1 = 0 then scM (adR C n (kK f tl (wE f tl a)) (nI (vN f tl (kE f tl (wE f tl a))))) (rdA f tl (wE f tl a)) (rdX f tl n a (wE f tl a) x) else scM C (rdA f tl (wE f tl a)) (rdX f tl n a (wE f tl a) x)) := by
  obtain ⟨q1, q2⟩ := wE_le (f := f) ha
  refine ev_aload_n dX4_parseClause_0 rfl ?_
  refine ev_getI dX4_parseClause_1 fX4_25 (by first | assumption | rfl) (by rfl) ?_
  rw [sc_4]
  refine ev_istore_k 2 dX4_parseClause_4 rfl (by decide) rfl ?_
  refine ev_aload_n dX4_parseClause_5 rfl ?_
  refine ev_cV0 dX4_parseClause_6 ceX4_wordEnd kX4_40 (rm_le rfl rfl) (Nat.le_of_ble_eq_true rfl) (Nat.le_of_ble_eq_true rfl) (e_wordEnd hB ha) (by first | assumption | rfl) ?_
  rw [show scn (ltB f) (tl - a) a = wE f tl a from rfl]
  refine ev_istore_k 3 dX4_parseClause_9 rfl (by decide) rfl ?_
  refine ev_aload_n dX4_parseClause_10 rfl ?_
  refine ev_iload_n dX4_parseClause_11 rfl ?_
  refine ev_put dX4_parseClause_12 pX4_25 (by first | assumption | rfl) (by rfl) (rfl) (rfl) ?_
  rw [sc_p4]
  refine ev_aload_n dX4_parseClause_15 rfl ?_
  refine ev_iload_n dX4_parseClause_16 rfl ?_
  refine ev_iload_n dX4_parseClause_17 rfl ?_
  refine ev_ldcS (j := 0) dX4_parseClause_18 rfl rfl ?_
  refine ev_cV3 dX4_parseClause_20 ceX4_spells kX4_46 (rm_le rfl rfl) (Nat.le_of_ble_eq_true rfl) (Nat.le_of_ble_eq_true rfl) (e_spells hB (j := 0) (by decide) q1 q2) (by first | assumption | rfl) ?_
  refine ev_if_eq 35 dX4_parseClause_23 (by decide) (fun hc23 => ?_) (fun hc23 => False.elim (hc23 (by rw [b2i_0]; exact w0)))
  refine ev_aload_n dX4_parseClause_35 rfl ?_
  refine ev_iload_n dX4_parseClause_36 rfl ?_
  refine ev_iload_n dX4_parseClause_37 rfl ?_
  refine ev_ldcS (j := 1) dX4_parseClause_38 rfl rfl ?_
  refine ev_cV3 dX4_parseClause_40 ceX4_spells kX4_46 (rm_le rfl rfl) (Nat.le_of_ble_eq_true rfl) (Nat.le_of_ble_eq_true rfl) (e_spells hB (j := 1) (by decide) q1 q2) (by first | assumption | rfl) ?_
  refine ev_if_eq 55 dX4_parseClause_43 (by decide) (fun hc43 => False.elim (by rw [b2i_0, w1] at hc43; cases hc43)) (fun hc43 => ?_)
  refine ev_aload_n dX4_parseClause_46 rfl ?_
  refine ev_aload_n dX4_parseClause_47 rfl ?_
  refine ev_iload_n dX4_parseClause_48 rfl ?_
  refine ev_cV2v dX4_parseClause_49 ceX4_parseReader kX4_56 (rm_le rfl rfl) (Nat.le_of_ble_eq_true rfl) (Nat.le_of_ble_eq_true rfl) (e_parseReader hB hF h3 hn q2 hx) (by first | assumption | rfl) ?_
  refine ev_goto 81 dX4_parseClause_52 (by decide) ?_
  exact ev_vretE dX4_parseClause_81 rfl rfl (rfl)
set_option maxRecDepth 20000 in
set_option maxHeartbeats 2000000 in
theorem e_clError {f : Nat → Int32} {tl : Nat} {C : rf_Mem} (hB : TB tl f C) (hF : TF tl f) {x : Nat × Int32} {a : Nat} {b : Bool} (h3 : C 3 7 = b2i b) (ha : a ≤ tl) (hx : x.1 ≤ 3) (w0 : wdB f a (wE f tl a - a) 0 = false) (w1 : wdB f a (wE f tl a - a) 1 = false) (w7 : wdB f a (wE f tl a - a) 7 = true) : Ev LayC mX4_parseClause 0 (rf_ent 4 [.ref 1, .ref 3]) [] (scM C a x) none (if (erX f tl a (wE f tl a) b x).1 = 0 then scM (teE C (nI (vN f tl (wE f tl a)))) (erA f tl (wE f tl a)) (erX f tl a (wE f tl a) b x) else scM C (erA f tl (wE f tl a)) (erX f tl a (wE f tl a) b x)) := by
  obtain ⟨q1, q2⟩ := wE_le (f := f) ha
  refine ev_aload_n dX4_parseClause_0 rfl ?_
  refine ev_getI dX4_parseClause_1 fX4_25 (by first | assumption | rfl) (by rfl) ?_
  rw [sc_4]
  refine ev_istore_k 2 dX4_parseClause_4 rfl (by decide) rfl ?_
  refine ev_aload_n dX4_parseClause_5 rfl ?_
  refine ev_cV0 dX4_parseClause_6 ceX4_wordEnd kX4_40 (rm_le rfl rfl) (Nat.le_of_ble_eq_true rfl) (Nat.le_of_ble_eq_true rfl) (e_wordEnd hB ha) (by first | assumption | rfl) ?_
  rw [show scn (ltB f) (tl - a) a = wE f tl a from rfl]
  refine ev_istore_k 3 dX4_parseClause_9 rfl (by decide) rfl ?_
  refine ev_aload_n dX4_parseClause_10 rfl ?_
  refine ev_iload_n dX4_parseClause_11 rfl ?_
  refine ev_put dX4_parseClause_12 pX4_25 (by first | assumption | rfl) (by rfl) (rfl) (rfl) ?_
  rw [sc_p4]
  refine ev_aload_n dX4_parseClause_15 rfl ?_
  refine ev_iload_n dX4_parseClause_16 rfl ?_
  refine ev_iload_n dX4_parseClause_17 rfl ?_
  refine ev_ldcS (j := 0) dX4_parseClause_18 rfl rfl ?_
  refine ev_cV3 dX4_parseClause_20 ceX4_spells kX4_46 (rm_le rfl rfl) (Nat.le_of_ble_eq_true rfl) (Nat.le_of_ble_eq_true rfl) (e_spells hB (j := 0) (by decide) q1 q2) (by first | assumption | rfl) ?_
  refine ev_if_eq 35 dX4_parseClause_23 (by decide) (fun hc23 => ?_) (fun hc23 => False.elim (hc23 (by rw [b2i_0]; exact w0)))
  refine ev_aload_n dX4_parseClause_35 rfl ?_
  refine ev_iload_n dX4_parseClause_36 rfl ?_
  refine ev_iload_n dX4_parseClause_37 rfl ?_
  refine ev_ldcS (j := 1) dX4_parseClause_38 rfl rfl ?_
  refine ev_cV3 dX4_parseClause_40 ceX4_spells kX4_46 (rm_le rfl rfl) (Nat.le_of_ble_eq_true rfl) (Nat.le_of_ble_eq_true rfl) (e_spells hB (j := 1) (by decide) q1 q2) (by first | assumption | rfl) ?_
  refine ev_if_eq 55 dX4_parseClause_43 (by decide) (fun hc43 => ?_) (fun hc43 => False.elim (hc43 (by rw [b2i_0]; exact w1)))
  refine ev_aload_n dX4_parseClause_55 rfl ?_
  refine ev_iload_n dX4_parseClause_56 rfl ?_
  refine ev_iload_n dX4_parseClause_57 rfl ?_
  refine ev_ldcS (j := 7) dX4_parseClause_58 rfl rfl ?_
  refine ev_cV3 dX4_parseClause_60 ceX4_spells kX4_46 (rm_le rfl rfl) (Nat.le_of_ble_eq_true rfl) (Nat.le_of_ble_eq_true rfl) (e_spells hB (j := 7) (by decide) q1 q2) (by first | assumption | rfl) ?_
  refine ev_if_eq 75 dX4_parseClause_63 (by decide) (fun hc63 => False.elim (by rw [b2i_0, w7] at hc63; cases hc63)) (fun hc63 => ?_)
  refine ev_aload_n dX4_parseClause_66 rfl ?_
  refine ev_aload_n dX4_parseClause_67 rfl ?_
  refine ev_iload_n dX4_parseClause_68 rfl ?_
  refine ev_cV2v dX4_parseClause_69 ceX4_parseError kX4_61 (rm_le rfl rfl) (Nat.le_of_ble_eq_true rfl) (Nat.le_of_ble_eq_true rfl) (e_parseError hB hF h3 q2 hx) (by first | assumption | rfl) ?_
  refine ev_goto 81 dX4_parseClause_72 (by decide) ?_
  exact ev_vretE dX4_parseClause_81 rfl rfl (rfl)
set_option maxRecDepth 20000 in
set_option maxHeartbeats 2000000 in
theorem e_clNone {f : Nat → Int32} {tl : Nat} {C : rf_Mem} (hB : TB tl f C) (hF : TF tl f) {x : Nat × Int32} {a : Nat}  (ha : a ≤ tl) (hx : x.1 ≤ 3) (w0 : wdB f a (wE f tl a - a) 0 = false) (w1 : wdB f a (wE f tl a - a) 1 = false) (w7 : wdB f a (wE f tl a - a) 7 = false) : Ev LayC mX4_parseClause 0 (rf_ent 4 [.ref 1, .ref 3]) [] (scM C a x) none (scM C (wE f tl a) (fl2 x 1 a)) := by
  obtain ⟨q1, q2⟩ := wE_le (f := f) ha
  refine ev_aload_n dX4_parseClause_0 rfl ?_
  refine ev_getI dX4_parseClause_1 fX4_25 (by first | assumption | rfl) (by rfl) ?_
  rw [sc_4]
  refine ev_istore_k 2 dX4_parseClause_4 rfl (by decide) rfl ?_
  refine ev_aload_n dX4_parseClause_5 rfl ?_
  refine ev_cV0 dX4_parseClause_6 ceX4_wordEnd kX4_40 (rm_le rfl rfl) (Nat.le_of_ble_eq_true rfl) (Nat.le_of_ble_eq_true rfl) (e_wordEnd hB ha) (by first | assumption | rfl) ?_
  rw [show scn (ltB f) (tl - a) a = wE f tl a from rfl]
  refine ev_istore_k 3 dX4_parseClause_9 rfl (by decide) rfl ?_
  refine ev_aload_n dX4_parseClause_10 rfl ?_
  refine ev_iload_n dX4_parseClause_11 rfl ?_
  refine ev_put dX4_parseClause_12 pX4_25 (by first | assumption | rfl) (by rfl) (rfl) (rfl) ?_
  rw [sc_p4]
  refine ev_aload_n dX4_parseClause_15 rfl ?_
  refine ev_iload_n dX4_parseClause_16 rfl ?_
  refine ev_iload_n dX4_parseClause_17 rfl ?_
  refine ev_ldcS (j := 0) dX4_parseClause_18 rfl rfl ?_
  refine ev_cV3 dX4_parseClause_20 ceX4_spells kX4_46 (rm_le rfl rfl) (Nat.le_of_ble_eq_true rfl) (Nat.le_of_ble_eq_true rfl) (e_spells hB (j := 0) (by decide) q1 q2) (by first | assumption | rfl) ?_
  refine ev_if_eq 35 dX4_parseClause_23 (by decide) (fun hc23 => ?_) (fun hc23 => False.elim (hc23 (by rw [b2i_0]; exact w0)))
  refine ev_aload_n dX4_parseClause_35 rfl ?_
  refine ev_iload_n dX4_parseClause_36 rfl ?_
  refine ev_iload_n dX4_parseClause_37 rfl ?_
  refine ev_ldcS (j := 1) dX4_parseClause_38 rfl rfl ?_
  refine ev_cV3 dX4_parseClause_40 ceX4_spells kX4_46 (rm_le rfl rfl) (Nat.le_of_ble_eq_true rfl) (Nat.le_of_ble_eq_true rfl) (e_spells hB (j := 1) (by decide) q1 q2) (by first | assumption | rfl) ?_
  refine ev_if_eq 55 dX4_parseClause_43 (by decide) (fun hc43 => ?_) (fun hc43 => False.elim (hc43 (by rw [b2i_0]; exact w1)))
  refine ev_aload_n dX4_parseClause_55 rfl ?_
  refine ev_iload_n dX4_parseClause_56 rfl ?_
  refine ev_iload_n dX4_parseClause_57 rfl ?_
  refine ev_ldcS (j := 7) dX4_parseClause_58 rfl rfl ?_
  refine ev_cV3 dX4_parseClause_60 ceX4_spells kX4_46 (rm_le rfl rfl) (Nat.le_of_ble_eq_true rfl) (Nat.le_of_ble_eq_true rfl) (e_spells hB (j := 7) (by decide) q1 q2) (by first | assumption | rfl) ?_
  refine ev_if_eq 75 dX4_parseClause_63 (by decide) (fun hc63 => ?_) (fun hc63 => False.elim (hc63 (by rw [b2i_0]; exact w7)))
  refine ev_aload_n dX4_parseClause_75 rfl ?_
  refine ev_iconst (v := (nI 1)) dX4_parseClause_76 (by decide) ?_
  refine ev_iload_n dX4_parseClause_77 rfl ?_
  refine ev_cV2v dX4_parseClause_78 ceX4_fail kX4_64 (rm_le rfl rfl) (Nat.le_of_ble_eq_true rfl) (Nat.le_of_ble_eq_true rfl) (e_fail (by decide) hx) (by first | assumption | rfl) ?_
  exact ev_vretE dX4_parseClause_81 rfl rfl (rfl)
def rsM (G : rf_Mem) (a fi ln : Nat) (x : Nat × Int32) : rf_Mem := rf_row G 0 (fun j => if j = 12 then nI a else if j = 13 then nI fi else if j = 14 then nI ln else if j = 15 then nI x.1 else if j = 16 then x.2 else G 0 j)
def TG (tl : Nat) (f : Nat → Int32) (G : rf_Mem) : Prop := G 0 11 = nI tl ∧ tl ≤ 400 ∧ ∀ i, i < tl → G 8 i = f i
theorem rs_o {G : rf_Mem} {a fi ln : Nat} {x : Nat × Int32} {c : Nat} (h : c ≠ 0) : rsM G a fi ln x c = G c := gr_q G _ h
theorem rs_11 {G : rf_Mem} {a fi ln : Nat} {x : Nat × Int32} : rsM G a fi ln x 0 11 = G 0 11 := by simp [rsM, rf_row]
theorem rs_12 {G : rf_Mem} {a fi ln : Nat} {x : Nat × Int32} : rsM G a fi ln x 0 12 = nI a := by simp [rsM, rf_row]
theorem rs_13 {G : rf_Mem} {a fi ln : Nat} {x : Nat × Int32} : rsM G a fi ln x 0 13 = nI fi := by simp [rsM, rf_row]
theorem rs_14 {G : rf_Mem} {a fi ln : Nat} {x : Nat × Int32} : rsM G a fi ln x 0 14 = nI ln := by simp [rsM, rf_row]
theorem rs_15 {G : rf_Mem} {a fi ln : Nat} {x : Nat × Int32} : rsM G a fi ln x 0 15 = nI x.1 := by simp [rsM, rf_row]
theorem rs_16 {G : rf_Mem} {a fi ln : Nat} {x : Nat × Int32} : rsM G a fi ln x 0 16 = x.2 := by simp [rsM, rf_row]
theorem rs_j {G : rf_Mem} {a fi ln : Nat} {x : Nat × Int32} {j : Nat} (h : j < 12 ∨ 16 < j) : rsM G a fi ln x 0 j = G 0 j := by
  have h1 : j ≠ 12 := by omega
  have h2 : j ≠ 13 := by omega
  have h3 : j ≠ 14 := by omega
  have h4 : j ≠ 15 := by omega
  have h5 : j ≠ 16 := by omega
  simp [rsM, rf_row, h1, h2, h3, h4, h5]
theorem rs_p12 {G : rf_Mem} {a fi ln : Nat} {x : Nat × Int32} {b : Nat} : rf_set (rsM G a fi ln x) 0 12 (nI b) = rsM G b fi ln x := rf_ext (fun c k => by
  by_cases hc : c = 0
  · subst hc
    by_cases hk : k = 12
    · subst hk; simp [rsM, rf_row, rf_set, upd]
    · simp [rsM, rf_row, rf_set, upd, hk]
  · rw [gs_q _ _ _ hc, rs_o hc, rs_o hc])
theorem rs_p13 {G : rf_Mem} {a fi ln : Nat} {x : Nat × Int32} {b : Nat} : rf_set (rsM G a fi ln x) 0 13 (nI b) = rsM G a b ln x := rf_ext (fun c k => by
  by_cases hc : c = 0
  · subst hc
    by_cases hk : k = 13
    · subst hk; simp [rsM, rf_row, rf_set, upd]
    · simp [rsM, rf_row, rf_set, upd, hk]
  · rw [gs_q _ _ _ hc, rs_o hc, rs_o hc])
theorem rs_p14 {G : rf_Mem} {a fi ln : Nat} {x : Nat × Int32} {b : Nat} : rf_set (rsM G a fi ln x) 0 14 (nI b) = rsM G a fi b x := rf_ext (fun c k => by
  by_cases hc : c = 0
  · subst hc
    by_cases hk : k = 14
    · subst hk; simp [rsM, rf_row, rf_set, upd]
    · simp [rsM, rf_row, rf_set, upd, hk]
  · rw [gs_q _ _ _ hc, rs_o hc, rs_o hc])
theorem rs_p15 {G : rf_Mem} {a fi ln : Nat} {x : Nat × Int32} {b : Nat} : rf_set (rsM G a fi ln x) 0 15 (nI b) = rsM G a fi ln (b, x.2) := rf_ext (fun c k => by
  by_cases hc : c = 0
  · subst hc
    by_cases hk : k = 15
    · subst hk; simp [rsM, rf_row, rf_set, upd]
    · simp [rsM, rf_row, rf_set, upd, hk]
  · rw [gs_q _ _ _ hc, rs_o hc, rs_o hc])
theorem rs_p16 {G : rf_Mem} {a fi ln : Nat} {x : Nat × Int32} {b : Int32} : rf_set (rsM G a fi ln x) 0 16 (b) = rsM G a fi ln (x.1, b) := rf_ext (fun c k => by
  by_cases hc : c = 0
  · subst hc
    by_cases hk : k = 16
    · subst hk; simp [rsM, rf_row, rf_set, upd]
    · simp [rsM, rf_row, rf_set, upd, hk]
  · rw [gs_q _ _ _ hc, rs_o hc, rs_o hc])
theorem rs_set {G : rf_Mem} {a fi ln : Nat} {x : Nat × Int32} {c j : Nat} {v : Int32} (h : c ≠ 0) : rf_set (rsM G a fi ln x) c j v = rsM (rf_set G c j v) a fi ln x := rf_ext (fun d k => by
  by_cases hd : d = 0
  · subst hd
    rw [gs_q _ _ _ (fun z => h z.symm)]
    have h1 : ¬ 0 = c := fun z => h z.symm
    simp [rsM, rf_row, rf_set, h1]
  · rw [rs_o hd]
    by_cases hc : d = c
    · subst hc
      by_cases hk : k = j
      · subst hk; rw [gs_same, gs_same]
      · rw [gs_k _ _ _ hk, gs_k _ _ _ hk, rs_o hd]
    · rw [gs_q _ _ _ hc, gs_q _ _ _ hc, rs_o hd])
theorem rs_set0 {G : rf_Mem} {a fi ln : Nat} {x : Nat × Int32} {j : Nat} {v : Int32} (h : j < 12) : rf_set (rsM G a fi ln x) 0 j v = rsM (rf_set G 0 j v) a fi ln x := rf_ext (fun d k => by
  by_cases hd : d = 0
  · subst hd
    by_cases hk : k = j
    · subst hk; rw [gs_same, rs_j (by omega), gs_same]
    · rw [gs_k _ _ _ hk]
      by_cases hr : k < 12 ∨ 16 < k
      · rw [rs_j hr, rs_j hr, gs_k _ _ _ hk]
      · have hh : k = 12 ∨ k = 13 ∨ k = 14 ∨ k = 15 ∨ k = 16 := by omega
        rcases hh with rfl | rfl | rfl | rfl | rfl <;> simp [rsM, rf_row]
  · rw [gs_q _ _ _ hd, rs_o hd, rs_o hd, gs_q _ _ _ hd])
def hrI (f : Nat → Int32) (tl s : Nat) : Int32 := if s < tl then f s else -1
set_option maxRecDepth 20000 in
set_option maxHeartbeats 2000000 in
theorem hr_all {f : Nat → Int32} {tl : Nat} {G : rf_Mem} (hB : TG tl f G) {fi ln : Nat} {x : Nat × Int32} : ∀ (n a : Nat), tl - a = n → a ≤ tl → Ev LayM mX7_here 0 [some (.ref 0)] [] (rsM G (a) (fi) (ln) (x)) (some (.int (hrI f tl (scn (bkB f) n a)))) (rsM G (scn (bkB f) n a) (fi) (ln) (x)) := by
  have h400 := hB.2.1
  intro n
  induction n with
  | zero =>
    intro a hn ha
    have e : a = tl := by omega
    subst e
    rw [hrI, scn, if_neg (Nat.lt_irrefl a)]
    refine ev_aload_n dX7_here_0 rfl ?_
    refine ev_getI dX7_here_1 fX7_70 (by first | assumption | rfl) (by rfl) ?_
    rw [rs_12]
    refine ev_aload_n dX7_here_4 rfl ?_
    refine ev_getI dX7_here_5 fX7_64 (by first | assumption | rfl) (by rfl) ?_
    rw [rs_11, hB.1]
    refine ev_icmp_ge 38 dX7_here_8 (by decide) (fun hc8 => ?_) (fun hc8 => False.elim (lp_x rfl (by omega) hc8))
    refine ev_aload_n dX7_here_38 rfl ?_
    refine ev_getI dX7_here_39 fX7_70 (by first | assumption | rfl) (by rfl) ?_
    rw [rs_12]
    refine ev_aload_n dX7_here_42 rfl ?_
    refine ev_getI dX7_here_43 fX7_64 (by first | assumption | rfl) (by rfl) ?_
    rw [rs_11, hB.1]
    refine ev_icmp_ge 61 dX7_here_46 (by decide) (fun hc46 => ?_) (fun hc46 => False.elim (lp_x rfl (by omega) hc46))
    refine ev_iconst (v := (-1)) dX7_here_61 (by decide) ?_
    exact ev_iretE dX7_here_62 rfl rfl (by first | rfl | simp_all) (rfl)
  | succ n ih =>
    intro a hn ha
    have hi := ih (a + 1) (by omega) (by omega)
    by_cases hp : bkB f a = true
    · rw [scn_yes hp]
      have hq : f a = nI 32 := of_decide_eq_true hp
      refine ev_aload_n dX7_here_0 rfl ?_
      refine ev_getI dX7_here_1 fX7_70 (by first | assumption | rfl) (by rfl) ?_
      rw [rs_12]
      refine ev_aload_n dX7_here_4 rfl ?_
      refine ev_getI dX7_here_5 fX7_64 (by first | assumption | rfl) (by rfl) ?_
      rw [rs_11, hB.1]
      refine ev_icmp_ge 38 dX7_here_8 (by decide) (fun hc8 => False.elim (nI_ge (show a < tl by omega) (by omega) hc8)) (fun hc8 => ?_)
      refine ev_aload_n dX7_here_11 rfl ?_
      refine ev_getR dX7_here_12 fX7_36 (by first | assumption | rfl) (by rfl) ?_
      refine ev_aload_n dX7_here_15 rfl ?_
      refine ev_getI dX7_here_16 fX7_70 (by first | assumption | rfl) (by rfl) ?_
      rw [rs_12]
      refine ev_ialdE _ dX7_here_19 (by first | with_reducible rfl | with_reducible exact nI_add _ _ | with_reducible exact ix3 _ _ _ | with_reducible exact ix_k _ _ _ | with_reducible exact ix_xk _ _ _ _) (by first | assumption | rfl) ⟨by omega, by decide⟩ ?_
      rw [rs_o (show 8 ≠ 0 by decide), hB.2.2 _ (by omega)]
      refine ev_bipush (v := (nI 32)) dX7_here_20 (by decide) ?_
      refine ev_icmp_ne 38 dX7_here_22 (by decide) (fun hc22 => False.elim (hc22 hq)) (fun hc22 => ?_)
      refine ev_aload_n dX7_here_25 rfl ?_
      refine ev_dup dX7_here_26 rfl ?_
      refine ev_getI dX7_here_27 fX7_70 (by first | assumption | rfl) (by rfl) ?_
      rw [rs_12]
      refine ev_iconst (v := (nI 1)) dX7_here_30 (by decide) ?_
      refine ev_iadd dX7_here_31 ?_
      rw [nI_add]
      refine ev_put dX7_here_32 pX7_70 (by first | assumption | rfl) (by rfl) (rfl) (rfl) ?_
      rw [rs_p12]
      refine ev_goto 0 dX7_here_35 (by decide) ?_
      exact hi
    · have hp2 : bkB f a = false := by simpa using hp
      rw [scn_no hp2, hrI, if_pos (show a < tl by omega)]
      have hq : ¬ f a = nI 32 := of_decide_eq_false hp2
      refine ev_aload_n dX7_here_0 rfl ?_
      refine ev_getI dX7_here_1 fX7_70 (by first | assumption | rfl) (by rfl) ?_
      rw [rs_12]
      refine ev_aload_n dX7_here_4 rfl ?_
      refine ev_getI dX7_here_5 fX7_64 (by first | assumption | rfl) (by rfl) ?_
      rw [rs_11, hB.1]
      refine ev_icmp_ge 38 dX7_here_8 (by decide) (fun hc8 => False.elim (nI_ge (show a < tl by omega) (by omega) hc8)) (fun hc8 => ?_)
      refine ev_aload_n dX7_here_11 rfl ?_
      refine ev_getR dX7_here_12 fX7_36 (by first | assumption | rfl) (by rfl) ?_
      refine ev_aload_n dX7_here_15 rfl ?_
      refine ev_getI dX7_here_16 fX7_70 (by first | assumption | rfl) (by rfl) ?_
      rw [rs_12]
      refine ev_ialdE _ dX7_here_19 (by first | with_reducible rfl | with_reducible exact nI_add _ _ | with_reducible exact ix3 _ _ _ | with_reducible exact ix_k _ _ _ | with_reducible exact ix_xk _ _ _ _) (by first | assumption | rfl) ⟨by omega, by decide⟩ ?_
      rw [rs_o (show 8 ≠ 0 by decide), hB.2.2 _ (by omega)]
      refine ev_bipush (v := (nI 32)) dX7_here_20 (by decide) ?_
      refine ev_icmp_ne 38 dX7_here_22 (by decide) (fun hc22 => ?_) (fun hc22 => False.elim (hq hc22))
      refine ev_aload_n dX7_here_38 rfl ?_
      refine ev_getI dX7_here_39 fX7_70 (by first | assumption | rfl) (by rfl) ?_
      rw [rs_12]
      refine ev_aload_n dX7_here_42 rfl ?_
      refine ev_getI dX7_here_43 fX7_64 (by first | assumption | rfl) (by rfl) ?_
      rw [rs_11, hB.1]
      refine ev_icmp_ge 61 dX7_here_46 (by decide) (fun hc46 => False.elim (nI_ge (show a < tl by omega) (by omega) hc46)) (fun hc46 => ?_)
      refine ev_aload_n dX7_here_49 rfl ?_
      refine ev_getR dX7_here_50 fX7_36 (by first | assumption | rfl) (by rfl) ?_
      refine ev_aload_n dX7_here_53 rfl ?_
      refine ev_getI dX7_here_54 fX7_70 (by first | assumption | rfl) (by rfl) ?_
      rw [rs_12]
      refine ev_ialdE _ dX7_here_57 (by first | with_reducible rfl | with_reducible exact nI_add _ _ | with_reducible exact ix3 _ _ _ | with_reducible exact ix_k _ _ _ | with_reducible exact ix_xk _ _ _ _) (by first | assumption | rfl) ⟨by omega, by decide⟩ ?_
      rw [rs_o (show 8 ≠ 0 by decide), hB.2.2 _ (by omega)]
      refine ev_goto 62 dX7_here_58 (by decide) ?_
      exact ev_iretE dX7_here_62 rfl rfl (by first | rfl | simp_all) (rfl)
theorem e7_here {f : Nat → Int32} {tl : Nat} {G : rf_Mem} (hB : TG tl f G) {fi ln : Nat} {x : Nat × Int32} {a : Nat} (ha : a ≤ tl) : Ev LayM mX7_here 0 (rf_ent 1 [.ref 0]) [] (rsM G (a) (fi) (ln) (x)) (some (.int (hrI f tl (sB f tl a)))) (rsM G (sB f tl a) (fi) (ln) (x)) := hr_all hB (tl - a) a rfl ha
set_option maxRecDepth 20000 in
set_option maxHeartbeats 2000000 in
theorem e7_want {G : rf_Mem} {a fi ln num wh : Nat} {x : Nat × Int32} {good : Bool} (hn : num ≠ 0) (hn3 : num ≤ 3) (hx : x.1 ≤ 3) : Ev LayM mX7_want 0 (rf_ent 4 [.ref 0, .int (b2i good), .int (nI num), .int (nI wh)]) [] (rsM G (a) (fi) (ln) (x)) (some (.int (b2i (decide ((fl2 x (if good = true then 0 else num) wh).1 = 0))))) (rsM G (a) (fi) (ln) (fl2 x (if good = true then 0 else num) wh)) := by
  have e3 : (0 : Int32) = nI 0 := rfl
  cases good with
  | true =>
    rw [if_pos rfl, fl2_0]
    by_cases h0 : x.1 = 0
    · rw [decide_eq_true h0]
      refine ev_iload_n dX7_want_0 rfl ?_
      refine ev_if_ne 21 dX7_want_1 (by decide) (fun hc1 => ?_) (fun hc1 => False.elim (absurd hc1 (by decide)))
      refine ev_aload_n dX7_want_21 rfl ?_
      refine ev_getI dX7_want_22 fX7_73 (by first | assumption | rfl) (by rfl) ?_
      rw [rs_15]
      refine ev_if_ne 32 dX7_want_25 (by decide) (fun hc25 => False.elim (hc25 (by rw [h0]; rfl))) (fun hc25 => ?_)
      refine ev_iconst (v := (nI 1)) dX7_want_28 (by decide) ?_
      refine ev_goto 33 dX7_want_29 (by decide) ?_
      exact ev_iretE dX7_want_33 rfl rfl (by first | rfl | simp_all) (rfl)
    · rw [decide_eq_false h0]
      refine ev_iload_n dX7_want_0 rfl ?_
      refine ev_if_ne 21 dX7_want_1 (by decide) (fun hc1 => ?_) (fun hc1 => False.elim (absurd hc1 (by decide)))
      refine ev_aload_n dX7_want_21 rfl ?_
      refine ev_getI dX7_want_22 fX7_73 (by first | assumption | rfl) (by rfl) ?_
      rw [rs_15]
      refine ev_if_ne 32 dX7_want_25 (by decide) (fun hc25 => ?_) (fun hc25 => False.elim (absurd ((nI_eq (by omega) (by omega)).mp (by rw [← e3]; exact hc25)) h0))
      refine ev_iconst (v := (nI 0)) dX7_want_32 (by decide) ?_
      exact ev_iretE dX7_want_33 rfl rfl (by first | rfl | simp_all) (rfl)
  | false =>
    rw [if_neg (by decide)]
    by_cases h0 : x.1 = 0
    · rw [fl2_n h0 hn, decide_eq_false hn]
      refine ev_iload_n dX7_want_0 rfl ?_
      refine ev_if_ne 21 dX7_want_1 (by decide) (fun hc1 => False.elim (hc1 rfl)) (fun hc1 => ?_)
      refine ev_aload_n dX7_want_4 rfl ?_
      refine ev_getI dX7_want_5 fX7_73 (by first | assumption | rfl) (by rfl) ?_
      rw [rs_15]
      refine ev_if_ne 21 dX7_want_8 (by decide) (fun hc8 => False.elim (hc8 (by rw [h0]; rfl))) (fun hc8 => ?_)
      refine ev_aload_n dX7_want_11 rfl ?_
      refine ev_iload_n dX7_want_12 rfl ?_
      refine ev_put dX7_want_13 pX7_73 (by first | assumption | rfl) (by rfl) (rfl) (rfl) ?_
      rw [rs_p15]
      refine ev_aload_n dX7_want_16 rfl ?_
      refine ev_iload_n dX7_want_17 rfl ?_
      refine ev_put dX7_want_18 pX7_39 (by first | assumption | rfl) (by rfl) (rfl) (rfl) ?_
      rw [rs_p16]
      refine ev_aload_n dX7_want_21 rfl ?_
      refine ev_getI dX7_want_22 fX7_73 (by first | assumption | rfl) (by rfl) ?_
      rw [rs_15]
      refine ev_if_ne 32 dX7_want_25 (by decide) (fun hc25 => ?_) (fun hc25 => False.elim (hn ((nI_eq (by omega) (by omega)).mp (by rw [← e3]; exact hc25))))
      refine ev_iconst (v := (nI 0)) dX7_want_32 (by decide) ?_
      exact ev_iretE dX7_want_33 rfl rfl (by first | rfl | simp_all) (rfl)
    · rw [fl2_x h0, decide_eq_false h0]
      refine ev_iload_n dX7_want_0 rfl ?_
      refine ev_if_ne 21 dX7_want_1 (by decide) (fun hc1 => False.elim (hc1 rfl)) (fun hc1 => ?_)
      refine ev_aload_n dX7_want_4 rfl ?_
      refine ev_getI dX7_want_5 fX7_73 (by first | assumption | rfl) (by rfl) ?_
      rw [rs_15]
      refine ev_if_ne 21 dX7_want_8 (by decide) (fun hc8 => ?_) (fun hc8 => False.elim (absurd ((nI_eq (by omega) (by omega)).mp (by rw [← e3]; exact hc8)) h0))
      refine ev_aload_n dX7_want_21 rfl ?_
      refine ev_getI dX7_want_22 fX7_73 (by first | assumption | rfl) (by rfl) ?_
      rw [rs_15]
      refine ev_if_ne 32 dX7_want_25 (by decide) (fun hc25 => ?_) (fun hc25 => False.elim (absurd ((nI_eq (by omega) (by omega)).mp (by rw [← e3]; exact hc25)) h0))
      refine ev_iconst (v := (nI 0)) dX7_want_32 (by decide) ?_
      exact ev_iretE dX7_want_33 rfl rfl (by first | rfl | simp_all) (rfl)
set_option maxRecDepth 20000 in
set_option maxHeartbeats 2000000 in
theorem tw_all {f : Nat → Int32} {tl : Nat} {G : rf_Mem} (hB : TG tl f G) {s ln : Nat} {x : Nat × Int32} {c : Int32} : ∀ (n e : Nat), tl - e = n → e ≤ tl → s ≤ e → Ev LayM mX7_takeWord 13 [some (.ref 0), some (.int (c))] [] (rsM G (e) (s) (ln) (x)) none (rsM G (scn (ltB f) n e) (s) (scn (ltB f) n e - s) (x)) := by
  have h400 := hB.2.1
  intro n
  induction n with
  | zero =>
    intro e hn he hs
    have e0 : e = tl := by omega
    subst e0
    refine ev_aload_n dX7_takeWord_13 rfl ?_
    refine ev_getI dX7_takeWord_14 fX7_70 (by first | assumption | rfl) (by rfl) ?_
    rw [rs_12]
    refine ev_aload_n dX7_takeWord_17 rfl ?_
    refine ev_getI dX7_takeWord_18 fX7_64 (by first | assumption | rfl) (by rfl) ?_
    rw [rs_11, hB.1]
    refine ev_icmp_ge 59 dX7_takeWord_21 (by decide) (fun hc21 => ?_) (fun hc21 => False.elim (lp_x rfl (by omega) hc21))
    refine ev_aload_n dX7_takeWord_59 rfl ?_
    refine ev_aload_n dX7_takeWord_60 rfl ?_
    refine ev_getI dX7_takeWord_61 fX7_70 (by first | assumption | rfl) (by rfl) ?_
    rw [rs_12]
    refine ev_aload_n dX7_takeWord_64 rfl ?_
    refine ev_getI dX7_takeWord_65 fX7_80 (by first | assumption | rfl) (by rfl) ?_
    rw [rs_13]
    refine ev_isub dX7_takeWord_68 ?_
    rw [pk_sub hs]
    refine ev_put dX7_takeWord_69 pX7_87 (by first | assumption | rfl) (by rfl) (rfl) (rfl) ?_
    rw [rs_p14]
    exact ev_vretE dX7_takeWord_72 rfl rfl (rfl)
  | succ n ih =>
    intro e hn he hs
    have hi := ih (e + 1) (by omega) (by omega) (by omega)
    by_cases hp : ltB f e = true
    · rw [scn_yes hp]
      refine ev_aload_n dX7_takeWord_13 rfl ?_
      refine ev_getI dX7_takeWord_14 fX7_70 (by first | assumption | rfl) (by rfl) ?_
      rw [rs_12]
      refine ev_aload_n dX7_takeWord_17 rfl ?_
      refine ev_getI dX7_takeWord_18 fX7_64 (by first | assumption | rfl) (by rfl) ?_
      rw [rs_11, hB.1]
      refine ev_icmp_ge 59 dX7_takeWord_21 (by decide) (fun hc21 => False.elim (nI_ge (show e < tl by omega) (by omega) hc21)) (fun hc21 => ?_)
      refine ev_aload_n dX7_takeWord_24 rfl ?_
      refine ev_getR dX7_takeWord_25 fX7_36 (by first | assumption | rfl) (by rfl) ?_
      refine ev_aload_n dX7_takeWord_28 rfl ?_
      refine ev_getI dX7_takeWord_29 fX7_70 (by first | assumption | rfl) (by rfl) ?_
      rw [rs_12]
      refine ev_ialdE _ dX7_takeWord_32 (by first | with_reducible rfl | with_reducible exact nI_add _ _ | with_reducible exact ix3 _ _ _ | with_reducible exact ix_k _ _ _ | with_reducible exact ix_xk _ _ _ _) (by first | assumption | rfl) ⟨by omega, by decide⟩ ?_
      rw [rs_o (show 8 ≠ 0 by decide), hB.2.2 _ (by omega)]
      refine ev_i2l dX7_takeWord_33 ?_
      refine ev_ldc2 dX7_takeWord_34 nX7_83 ?_
      refine ev_ldc2 dX7_takeWord_37 nX7_85 ?_
      refine ev_cS3 dX7_takeWord_40 ceX7_in kX7_59 (rm_le rfl rfl) (Nat.le_of_ble_eq_true rfl) (Nat.le_of_ble_eq_true rfl) (e7_in) ?_
      rw [in_c _ (nI 97) (nI 122) (by decide) (by decide), show (!decide (f e < nI 97) && !decide (nI 122 < f e)) = ltB f e from rfl]
      refine ev_if_eq 59 dX7_takeWord_43 (by decide) (fun hc43 => False.elim (by rw [b2i_0, hp] at hc43; cases hc43)) (fun hc43 => ?_)
      refine ev_aload_n dX7_takeWord_46 rfl ?_
      refine ev_dup dX7_takeWord_47 rfl ?_
      refine ev_getI dX7_takeWord_48 fX7_70 (by first | assumption | rfl) (by rfl) ?_
      rw [rs_12]
      refine ev_iconst (v := (nI 1)) dX7_takeWord_51 (by decide) ?_
      refine ev_iadd dX7_takeWord_52 ?_
      rw [nI_add]
      refine ev_put dX7_takeWord_53 pX7_70 (by first | assumption | rfl) (by rfl) (rfl) (rfl) ?_
      rw [rs_p12]
      refine ev_goto 13 dX7_takeWord_56 (by decide) ?_
      exact hi
    · have hp2 : ltB f e = false := by simpa using hp
      rw [scn_no hp2]
      refine ev_aload_n dX7_takeWord_13 rfl ?_
      refine ev_getI dX7_takeWord_14 fX7_70 (by first | assumption | rfl) (by rfl) ?_
      rw [rs_12]
      refine ev_aload_n dX7_takeWord_17 rfl ?_
      refine ev_getI dX7_takeWord_18 fX7_64 (by first | assumption | rfl) (by rfl) ?_
      rw [rs_11, hB.1]
      refine ev_icmp_ge 59 dX7_takeWord_21 (by decide) (fun hc21 => False.elim (nI_ge (show e < tl by omega) (by omega) hc21)) (fun hc21 => ?_)
      refine ev_aload_n dX7_takeWord_24 rfl ?_
      refine ev_getR dX7_takeWord_25 fX7_36 (by first | assumption | rfl) (by rfl) ?_
      refine ev_aload_n dX7_takeWord_28 rfl ?_
      refine ev_getI dX7_takeWord_29 fX7_70 (by first | assumption | rfl) (by rfl) ?_
      rw [rs_12]
      refine ev_ialdE _ dX7_takeWord_32 (by first | with_reducible rfl | with_reducible exact nI_add _ _ | with_reducible exact ix3 _ _ _ | with_reducible exact ix_k _ _ _ | with_reducible exact ix_xk _ _ _ _) (by first | assumption | rfl) ⟨by omega, by decide⟩ ?_
      rw [rs_o (show 8 ≠ 0 by decide), hB.2.2 _ (by omega)]
      refine ev_i2l dX7_takeWord_33 ?_
      refine ev_ldc2 dX7_takeWord_34 nX7_83 ?_
      refine ev_ldc2 dX7_takeWord_37 nX7_85 ?_
      refine ev_cS3 dX7_takeWord_40 ceX7_in kX7_59 (rm_le rfl rfl) (Nat.le_of_ble_eq_true rfl) (Nat.le_of_ble_eq_true rfl) (e7_in) ?_
      rw [in_c _ (nI 97) (nI 122) (by decide) (by decide), show (!decide (f e < nI 97) && !decide (nI 122 < f e)) = ltB f e from rfl]
      refine ev_if_eq 59 dX7_takeWord_43 (by decide) (fun hc43 => ?_) (fun hc43 => False.elim (hc43 (by rw [b2i_0]; exact hp2)))
      refine ev_aload_n dX7_takeWord_59 rfl ?_
      refine ev_aload_n dX7_takeWord_60 rfl ?_
      refine ev_getI dX7_takeWord_61 fX7_70 (by first | assumption | rfl) (by rfl) ?_
      rw [rs_12]
      refine ev_aload_n dX7_takeWord_64 rfl ?_
      refine ev_getI dX7_takeWord_65 fX7_80 (by first | assumption | rfl) (by rfl) ?_
      rw [rs_13]
      refine ev_isub dX7_takeWord_68 ?_
      rw [pk_sub hs]
      refine ev_put dX7_takeWord_69 pX7_87 (by first | assumption | rfl) (by rfl) (rfl) (rfl) ?_
      rw [rs_p14]
      exact ev_vretE dX7_takeWord_72 rfl rfl (rfl)
set_option maxRecDepth 20000 in
set_option maxHeartbeats 2000000 in
theorem e7_takeWord {f : Nat → Int32} {tl : Nat} {G : rf_Mem} (hB : TG tl f G) {fi ln a : Nat} {x : Nat × Int32} (ha : a ≤ tl) : Ev LayM mX7_takeWord 0 (rf_ent 2 [.ref 0]) [] (rsM G (a) (fi) (ln) (x)) none (rsM G (kE f tl a) (sB f tl a) (kE f tl a - sB f tl a) (x)) := by
  refine ev_aload_n dX7_takeWord_0 rfl ?_
  refine ev_cV0 dX7_takeWord_1 ceX7_here kX7_76 (rm_le rfl rfl) (Nat.le_of_ble_eq_true rfl) (Nat.le_of_ble_eq_true rfl) (e7_here hB ha) (by first | assumption | rfl) ?_
  refine ev_istore_k 1 dX7_takeWord_4 rfl (by decide) rfl ?_
  refine ev_aload_n dX7_takeWord_5 rfl ?_
  refine ev_aload_n dX7_takeWord_6 rfl ?_
  refine ev_getI dX7_takeWord_7 fX7_70 (by first | assumption | rfl) (by rfl) ?_
  rw [rs_12]
  refine ev_put dX7_takeWord_10 pX7_80 (by first | assumption | rfl) (by rfl) (rfl) (rfl) ?_
  rw [rs_p13]
  exact tw_all hB (tl - sB f tl a) (sB f tl a) rfl (sB_le ha).2 (Nat.le_refl _)
set_option maxRecDepth 20000 in
set_option maxHeartbeats 2000000 in
theorem e7_isWord {f : Nat → Int32} {tl : Nat} {G : rf_Mem} (hB : TG tl f G) {fi ln a j : Nat} {x : Nat × Int32} {c0 c1 c2 c3 c4 c5 c6 : Int32} (hj : j < 8) (hfl : fi + ln ≤ tl) (h0 : chT j 0 = c0) (h1 : chT j 1 = c1) (h2 : chT j 2 = c2) (h3 : chT j 3 = c3) (h4 : 4 < rf_len.getD j 0 → chT j 4 = c4) (h5 : 5 < rf_len.getD j 0 → chT j 5 = c5) (h6 : 6 < rf_len.getD j 0 → chT j 6 = c6) : Ev LayM mX7_isWord 0 (rf_ent 11 [.ref 0, .int (nI (rf_len.getD j 0)), .int c0, .int c1, .int c2, .int c3, .int c4, .int c5, .int c6]) [] (rsM G (a) (fi) (ln) (x)) (some (.int (b2i (wdB f fi ln j)))) (rsM G (a) (fi) (ln) (x)) := by
  have h400 := hB.2.1
  obtain ⟨y1, y2⟩ := tx_len j hj
  have mm : ∀ i, i ≤ rf_len.getD j 0 → wdB f fi ln j = false → Ev LayM mX7_isWord 18 [some (.ref 0), some (.int (nI (rf_len.getD j 0))), some (.int (c0)), some (.int (c1)), some (.int (c2)), some (.int (c3)), some (.int (c4)), some (.int (c5)), some (.int (c6)), some (.int (nI 0)), some (.int (nI (i)))] [] (rsM G (a) (fi) (ln) (x)) (some (.int (b2i (wdB f fi ln j)))) (rsM G (a) (fi) (ln) (x)) := by
    intro i hi hw
    rw [hw]
    refine ev_iload dX7_isWord_18 rfl ?_
    refine ev_iload_n dX7_isWord_20 rfl ?_
    refine ev_icmp_ge 122 dX7_isWord_21 (by decide) (fun hc21 => ?_) (fun hc21 => ?_)
    · refine ev_iload dX7_isWord_122 rfl ?_
      exact ev_iretE dX7_isWord_124 rfl rfl (by first | rfl | simp_all) (rfl)
    · refine ev_iload dX7_isWord_24 rfl ?_
      refine ev_if_eq 122 dX7_isWord_26 (by decide) (fun _ => ?_) (fun hc26 => False.elim (absurd hc26 (by decide)))
      refine ev_iload dX7_isWord_122 rfl ?_
      exact ev_iretE dX7_isWord_124 rfl rfl (by first | rfl | simp_all) (rfl)
  by_cases hl : ln = rf_len.getD j 0
  · have key := ev_forI (Lay := LayM) (y := mX7_isWord) (pc := 18) (r := (some (.int (b2i (wdB f fi ln j))))) (M' := (rsM G (a) (fi) (ln) (x))) (rf_len.getD j 0) (fun i => ∀ k, k < i → f (fi + k) = chT j k) (fun i => [some (.ref 0), some (.int (nI (rf_len.getD j 0))), some (.int (c0)), some (.int (c1)), some (.int (c2)), some (.int (c3)), some (.int (c4)), some (.int (c5)), some (.int (c6)), some (.int (nI 1)), some (.int (nI (i)))]) (fun _ => (rsM G (a) (fi) (ln) (x))) ?hx ?hs
    case hx =>
      intro hI
      have hw : wdB f fi ln j = true := decide_eq_true ⟨hl, hI⟩
      rw [hw]
      refine ev_iload dX7_isWord_18 rfl ?_
      refine ev_iload_n dX7_isWord_20 rfl ?_
      refine ev_icmp_ge 122 dX7_isWord_21 (by decide) (fun hc21 => ?_) (fun hc21 => False.elim (lp_x rfl (by omega) hc21))
      refine ev_iload dX7_isWord_122 rfl ?_
      exact ev_iretE dX7_isWord_124 rfl rfl (by first | rfl | simp_all) (rfl)
    case hs =>
      intro i hi hI ih
      have h7 : i = 0 ∨ i = 1 ∨ i = 2 ∨ i = 3 ∨ i = 4 ∨ i = 5 ∨ i = 6 := by omega
      rcases h7 with rfl | rfl | rfl | rfl | rfl | rfl | rfl
      · refine ev_iload dX7_isWord_18 rfl ?_
        refine ev_iload_n dX7_isWord_20 rfl ?_
        refine ev_icmp_ge 122 dX7_isWord_21 (by decide) (fun hc21 => False.elim (nI_ge hi (by omega) hc21)) (fun hc21 => ?_)
        refine ev_iload dX7_isWord_24 rfl ?_
        refine ev_if_eq 122 dX7_isWord_26 (by decide) (fun hc26 => False.elim (absurd hc26 (by decide))) (fun _ => ?_)
        refine ev_aload_n dX7_isWord_29 rfl ?_
        refine ev_getR dX7_isWord_30 fX7_36 (by first | assumption | rfl) (by rfl) ?_
        refine ev_aload_n dX7_isWord_33 rfl ?_
        refine ev_getI dX7_isWord_34 fX7_80 (by first | assumption | rfl) (by rfl) ?_
        rw [rs_13]
        refine ev_iload dX7_isWord_37 rfl ?_
        refine ev_iadd dX7_isWord_39 ?_
        refine ev_ialdE (fi + 0) dX7_isWord_40 (nI_add _ _) (by first | assumption | rfl) ⟨by omega, by decide⟩ ?_
        rw [rs_o (show 8 ≠ 0 by decide), hB.2.2 _ (by omega)]
        refine ev_iload dX7_isWord_41 rfl ?_
        refine ev_if_ne 50 dX7_isWord_43 (by decide) (fun hc43 => False.elim (absurd hc43 (by decide))) (fun _ => ?_)
        refine ev_iload_n dX7_isWord_46 rfl ?_
        refine ev_goto 106 dX7_isWord_47 (by decide) ?_
        refine ev_icmp_ne 113 dX7_isWord_106 (by decide) (fun hc106 => ?_) (fun hc106 => ?_)
        · have hw : wdB f fi ln j = false := decide_eq_false (fun z => hc106 ((z.2 0 hi).trans (h0)))
          refine ev_iconst (v := (nI 0)) dX7_isWord_113 (by decide) ?_
          refine ev_istore dX7_isWord_114 (by decide) rfl ?_
          refine ev_iinc (v := (nI 1)) dX7_isWord_116 rfl (by decide) (by decide) rfl ?_
          refine ev_goto 18 dX7_isWord_119 (by decide) ?_
          first | exact ev_st (mm (0 + 1) hi hw) rfl rfl rfl | exact ev_st (ih hm2) rfl rfl rfl
        · have hm : f (fi + 0) = chT j 0 := hc106.trans (h0).symm
          have hm2 : ∀ q, q < 0 + 1 → f (fi + q) = chT j q := fun q hq => by
            rcases Nat.lt_or_ge q 0 with z | z
            · exact hI q z
            · have e9 : q = 0 := by omega
              rw [e9]; exact hm
          refine ev_iconst (v := (nI 1)) dX7_isWord_109 (by decide) ?_
          refine ev_goto 114 dX7_isWord_110 (by decide) ?_
          refine ev_istore dX7_isWord_114 (by decide) rfl ?_
          refine ev_iinc (v := (nI 1)) dX7_isWord_116 rfl (by decide) (by decide) rfl ?_
          refine ev_goto 18 dX7_isWord_119 (by decide) ?_
          first | exact ev_st (mm (0 + 1) hi hw) rfl rfl rfl | exact ev_st (ih hm2) rfl rfl rfl
      · refine ev_iload dX7_isWord_18 rfl ?_
        refine ev_iload_n dX7_isWord_20 rfl ?_
        refine ev_icmp_ge 122 dX7_isWord_21 (by decide) (fun hc21 => False.elim (nI_ge hi (by omega) hc21)) (fun hc21 => ?_)
        refine ev_iload dX7_isWord_24 rfl ?_
        refine ev_if_eq 122 dX7_isWord_26 (by decide) (fun hc26 => False.elim (absurd hc26 (by decide))) (fun _ => ?_)
        refine ev_aload_n dX7_isWord_29 rfl ?_
        refine ev_getR dX7_isWord_30 fX7_36 (by first | assumption | rfl) (by rfl) ?_
        refine ev_aload_n dX7_isWord_33 rfl ?_
        refine ev_getI dX7_isWord_34 fX7_80 (by first | assumption | rfl) (by rfl) ?_
        rw [rs_13]
        refine ev_iload dX7_isWord_37 rfl ?_
        refine ev_iadd dX7_isWord_39 ?_
        refine ev_ialdE (fi + 1) dX7_isWord_40 (nI_add _ _) (by first | assumption | rfl) ⟨by omega, by decide⟩ ?_
        rw [rs_o (show 8 ≠ 0 by decide), hB.2.2 _ (by omega)]
        refine ev_iload dX7_isWord_41 rfl ?_
        refine ev_if_ne 50 dX7_isWord_43 (by decide) (fun _ => ?_) (fun hc43 => False.elim (absurd hc43 (by decide)))
        refine ev_iload dX7_isWord_50 rfl ?_
        refine ev_iconst (v := (nI 1)) dX7_isWord_52 (by decide) ?_
        refine ev_icmp_ne 60 dX7_isWord_53 (by decide) (fun hc53 => False.elim (absurd hc53 (by decide))) (fun _ => ?_)
        refine ev_iload_n dX7_isWord_56 rfl ?_
        refine ev_goto 106 dX7_isWord_57 (by decide) ?_
        refine ev_icmp_ne 113 dX7_isWord_106 (by decide) (fun hc106 => ?_) (fun hc106 => ?_)
        · have hw : wdB f fi ln j = false := decide_eq_false (fun z => hc106 ((z.2 1 hi).trans (h1)))
          refine ev_iconst (v := (nI 0)) dX7_isWord_113 (by decide) ?_
          refine ev_istore dX7_isWord_114 (by decide) rfl ?_
          refine ev_iinc (v := (nI 1)) dX7_isWord_116 rfl (by decide) (by decide) rfl ?_
          refine ev_goto 18 dX7_isWord_119 (by decide) ?_
          first | exact ev_st (mm (1 + 1) hi hw) rfl rfl rfl | exact ev_st (ih hm2) rfl rfl rfl
        · have hm : f (fi + 1) = chT j 1 := hc106.trans (h1).symm
          have hm2 : ∀ q, q < 1 + 1 → f (fi + q) = chT j q := fun q hq => by
            rcases Nat.lt_or_ge q 1 with z | z
            · exact hI q z
            · have e9 : q = 1 := by omega
              rw [e9]; exact hm
          refine ev_iconst (v := (nI 1)) dX7_isWord_109 (by decide) ?_
          refine ev_goto 114 dX7_isWord_110 (by decide) ?_
          refine ev_istore dX7_isWord_114 (by decide) rfl ?_
          refine ev_iinc (v := (nI 1)) dX7_isWord_116 rfl (by decide) (by decide) rfl ?_
          refine ev_goto 18 dX7_isWord_119 (by decide) ?_
          first | exact ev_st (mm (1 + 1) hi hw) rfl rfl rfl | exact ev_st (ih hm2) rfl rfl rfl
      · refine ev_iload dX7_isWord_18 rfl ?_
        refine ev_iload_n dX7_isWord_20 rfl ?_
        refine ev_icmp_ge 122 dX7_isWord_21 (by decide) (fun hc21 => False.elim (nI_ge hi (by omega) hc21)) (fun hc21 => ?_)
        refine ev_iload dX7_isWord_24 rfl ?_
        refine ev_if_eq 122 dX7_isWord_26 (by decide) (fun hc26 => False.elim (absurd hc26 (by decide))) (fun _ => ?_)
        refine ev_aload_n dX7_isWord_29 rfl ?_
        refine ev_getR dX7_isWord_30 fX7_36 (by first | assumption | rfl) (by rfl) ?_
        refine ev_aload_n dX7_isWord_33 rfl ?_
        refine ev_getI dX7_isWord_34 fX7_80 (by first | assumption | rfl) (by rfl) ?_
        rw [rs_13]
        refine ev_iload dX7_isWord_37 rfl ?_
        refine ev_iadd dX7_isWord_39 ?_
        refine ev_ialdE (fi + 2) dX7_isWord_40 (nI_add _ _) (by first | assumption | rfl) ⟨by omega, by decide⟩ ?_
        rw [rs_o (show 8 ≠ 0 by decide), hB.2.2 _ (by omega)]
        refine ev_iload dX7_isWord_41 rfl ?_
        refine ev_if_ne 50 dX7_isWord_43 (by decide) (fun _ => ?_) (fun hc43 => False.elim (absurd hc43 (by decide)))
        refine ev_iload dX7_isWord_50 rfl ?_
        refine ev_iconst (v := (nI 1)) dX7_isWord_52 (by decide) ?_
        refine ev_icmp_ne 60 dX7_isWord_53 (by decide) (fun _ => ?_) (fun hc53 => False.elim (absurd hc53 (by decide)))
        refine ev_iload dX7_isWord_60 rfl ?_
        refine ev_iconst (v := (nI 2)) dX7_isWord_62 (by decide) ?_
        refine ev_icmp_ne 71 dX7_isWord_63 (by decide) (fun hc63 => False.elim (absurd hc63 (by decide))) (fun _ => ?_)
        refine ev_iload dX7_isWord_66 rfl ?_
        refine ev_goto 106 dX7_isWord_68 (by decide) ?_
        refine ev_icmp_ne 113 dX7_isWord_106 (by decide) (fun hc106 => ?_) (fun hc106 => ?_)
        · have hw : wdB f fi ln j = false := decide_eq_false (fun z => hc106 ((z.2 2 hi).trans (h2)))
          refine ev_iconst (v := (nI 0)) dX7_isWord_113 (by decide) ?_
          refine ev_istore dX7_isWord_114 (by decide) rfl ?_
          refine ev_iinc (v := (nI 1)) dX7_isWord_116 rfl (by decide) (by decide) rfl ?_
          refine ev_goto 18 dX7_isWord_119 (by decide) ?_
          first | exact ev_st (mm (2 + 1) hi hw) rfl rfl rfl | exact ev_st (ih hm2) rfl rfl rfl
        · have hm : f (fi + 2) = chT j 2 := hc106.trans (h2).symm
          have hm2 : ∀ q, q < 2 + 1 → f (fi + q) = chT j q := fun q hq => by
            rcases Nat.lt_or_ge q 2 with z | z
            · exact hI q z
            · have e9 : q = 2 := by omega
              rw [e9]; exact hm
          refine ev_iconst (v := (nI 1)) dX7_isWord_109 (by decide) ?_
          refine ev_goto 114 dX7_isWord_110 (by decide) ?_
          refine ev_istore dX7_isWord_114 (by decide) rfl ?_
          refine ev_iinc (v := (nI 1)) dX7_isWord_116 rfl (by decide) (by decide) rfl ?_
          refine ev_goto 18 dX7_isWord_119 (by decide) ?_
          first | exact ev_st (mm (2 + 1) hi hw) rfl rfl rfl | exact ev_st (ih hm2) rfl rfl rfl
      · refine ev_iload dX7_isWord_18 rfl ?_
        refine ev_iload_n dX7_isWord_20 rfl ?_
        refine ev_icmp_ge 122 dX7_isWord_21 (by decide) (fun hc21 => False.elim (nI_ge hi (by omega) hc21)) (fun hc21 => ?_)
        refine ev_iload dX7_isWord_24 rfl ?_
        refine ev_if_eq 122 dX7_isWord_26 (by decide) (fun hc26 => False.elim (absurd hc26 (by decide))) (fun _ => ?_)
        refine ev_aload_n dX7_isWord_29 rfl ?_
        refine ev_getR dX7_isWord_30 fX7_36 (by first | assumption | rfl) (by rfl) ?_
        refine ev_aload_n dX7_isWord_33 rfl ?_
        refine ev_getI dX7_isWord_34 fX7_80 (by first | assumption | rfl) (by rfl) ?_
        rw [rs_13]
        refine ev_iload dX7_isWord_37 rfl ?_
        refine ev_iadd dX7_isWord_39 ?_
        refine ev_ialdE (fi + 3) dX7_isWord_40 (nI_add _ _) (by first | assumption | rfl) ⟨by omega, by decide⟩ ?_
        rw [rs_o (show 8 ≠ 0 by decide), hB.2.2 _ (by omega)]
        refine ev_iload dX7_isWord_41 rfl ?_
        refine ev_if_ne 50 dX7_isWord_43 (by decide) (fun _ => ?_) (fun hc43 => False.elim (absurd hc43 (by decide)))
        refine ev_iload dX7_isWord_50 rfl ?_
        refine ev_iconst (v := (nI 1)) dX7_isWord_52 (by decide) ?_
        refine ev_icmp_ne 60 dX7_isWord_53 (by decide) (fun _ => ?_) (fun hc53 => False.elim (absurd hc53 (by decide)))
        refine ev_iload dX7_isWord_60 rfl ?_
        refine ev_iconst (v := (nI 2)) dX7_isWord_62 (by decide) ?_
        refine ev_icmp_ne 71 dX7_isWord_63 (by decide) (fun _ => ?_) (fun hc63 => False.elim (absurd hc63 (by decide)))
        refine ev_iload dX7_isWord_71 rfl ?_
        refine ev_iconst (v := (nI 3)) dX7_isWord_73 (by decide) ?_
        refine ev_icmp_ne 82 dX7_isWord_74 (by decide) (fun hc74 => False.elim (absurd hc74 (by decide))) (fun _ => ?_)
        refine ev_iload dX7_isWord_77 rfl ?_
        refine ev_goto 106 dX7_isWord_79 (by decide) ?_
        refine ev_icmp_ne 113 dX7_isWord_106 (by decide) (fun hc106 => ?_) (fun hc106 => ?_)
        · have hw : wdB f fi ln j = false := decide_eq_false (fun z => hc106 ((z.2 3 hi).trans (h3)))
          refine ev_iconst (v := (nI 0)) dX7_isWord_113 (by decide) ?_
          refine ev_istore dX7_isWord_114 (by decide) rfl ?_
          refine ev_iinc (v := (nI 1)) dX7_isWord_116 rfl (by decide) (by decide) rfl ?_
          refine ev_goto 18 dX7_isWord_119 (by decide) ?_
          first | exact ev_st (mm (3 + 1) hi hw) rfl rfl rfl | exact ev_st (ih hm2) rfl rfl rfl
        · have hm : f (fi + 3) = chT j 3 := hc106.trans (h3).symm
          have hm2 : ∀ q, q < 3 + 1 → f (fi + q) = chT j q := fun q hq => by
            rcases Nat.lt_or_ge q 3 with z | z
            · exact hI q z
            · have e9 : q = 3 := by omega
              rw [e9]; exact hm
          refine ev_iconst (v := (nI 1)) dX7_isWord_109 (by decide) ?_
          refine ev_goto 114 dX7_isWord_110 (by decide) ?_
          refine ev_istore dX7_isWord_114 (by decide) rfl ?_
          refine ev_iinc (v := (nI 1)) dX7_isWord_116 rfl (by decide) (by decide) rfl ?_
          refine ev_goto 18 dX7_isWord_119 (by decide) ?_
          first | exact ev_st (mm (3 + 1) hi hw) rfl rfl rfl | exact ev_st (ih hm2) rfl rfl rfl
      · refine ev_iload dX7_isWord_18 rfl ?_
        refine ev_iload_n dX7_isWord_20 rfl ?_
        refine ev_icmp_ge 122 dX7_isWord_21 (by decide) (fun hc21 => False.elim (nI_ge hi (by omega) hc21)) (fun hc21 => ?_)
        refine ev_iload dX7_isWord_24 rfl ?_
        refine ev_if_eq 122 dX7_isWord_26 (by decide) (fun hc26 => False.elim (absurd hc26 (by decide))) (fun _ => ?_)
        refine ev_aload_n dX7_isWord_29 rfl ?_
        refine ev_getR dX7_isWord_30 fX7_36 (by first | assumption | rfl) (by rfl) ?_
        refine ev_aload_n dX7_isWord_33 rfl ?_
        refine ev_getI dX7_isWord_34 fX7_80 (by first | assumption | rfl) (by rfl) ?_
        rw [rs_13]
        refine ev_iload dX7_isWord_37 rfl ?_
        refine ev_iadd dX7_isWord_39 ?_
        refine ev_ialdE (fi + 4) dX7_isWord_40 (nI_add _ _) (by first | assumption | rfl) ⟨by omega, by decide⟩ ?_
        rw [rs_o (show 8 ≠ 0 by decide), hB.2.2 _ (by omega)]
        refine ev_iload dX7_isWord_41 rfl ?_
        refine ev_if_ne 50 dX7_isWord_43 (by decide) (fun _ => ?_) (fun hc43 => False.elim (absurd hc43 (by decide)))
        refine ev_iload dX7_isWord_50 rfl ?_
        refine ev_iconst (v := (nI 1)) dX7_isWord_52 (by decide) ?_
        refine ev_icmp_ne 60 dX7_isWord_53 (by decide) (fun _ => ?_) (fun hc53 => False.elim (absurd hc53 (by decide)))
        refine ev_iload dX7_isWord_60 rfl ?_
        refine ev_iconst (v := (nI 2)) dX7_isWord_62 (by decide) ?_
        refine ev_icmp_ne 71 dX7_isWord_63 (by decide) (fun _ => ?_) (fun hc63 => False.elim (absurd hc63 (by decide)))
        refine ev_iload dX7_isWord_71 rfl ?_
        refine ev_iconst (v := (nI 3)) dX7_isWord_73 (by decide) ?_
        refine ev_icmp_ne 82 dX7_isWord_74 (by decide) (fun _ => ?_) (fun hc74 => False.elim (absurd hc74 (by decide)))
        refine ev_iload dX7_isWord_82 rfl ?_
        refine ev_iconst (v := (nI 4)) dX7_isWord_84 (by decide) ?_
        refine ev_icmp_ne 93 dX7_isWord_85 (by decide) (fun hc85 => False.elim (absurd hc85 (by decide))) (fun _ => ?_)
        refine ev_iload dX7_isWord_88 rfl ?_
        refine ev_goto 106 dX7_isWord_90 (by decide) ?_
        refine ev_icmp_ne 113 dX7_isWord_106 (by decide) (fun hc106 => ?_) (fun hc106 => ?_)
        · have hw : wdB f fi ln j = false := decide_eq_false (fun z => hc106 ((z.2 4 hi).trans (h4 hi)))
          refine ev_iconst (v := (nI 0)) dX7_isWord_113 (by decide) ?_
          refine ev_istore dX7_isWord_114 (by decide) rfl ?_
          refine ev_iinc (v := (nI 1)) dX7_isWord_116 rfl (by decide) (by decide) rfl ?_
          refine ev_goto 18 dX7_isWord_119 (by decide) ?_
          first | exact ev_st (mm (4 + 1) hi hw) rfl rfl rfl | exact ev_st (ih hm2) rfl rfl rfl
        · have hm : f (fi + 4) = chT j 4 := hc106.trans (h4 hi).symm
          have hm2 : ∀ q, q < 4 + 1 → f (fi + q) = chT j q := fun q hq => by
            rcases Nat.lt_or_ge q 4 with z | z
            · exact hI q z
            · have e9 : q = 4 := by omega
              rw [e9]; exact hm
          refine ev_iconst (v := (nI 1)) dX7_isWord_109 (by decide) ?_
          refine ev_goto 114 dX7_isWord_110 (by decide) ?_
          refine ev_istore dX7_isWord_114 (by decide) rfl ?_
          refine ev_iinc (v := (nI 1)) dX7_isWord_116 rfl (by decide) (by decide) rfl ?_
          refine ev_goto 18 dX7_isWord_119 (by decide) ?_
          first | exact ev_st (mm (4 + 1) hi hw) rfl rfl rfl | exact ev_st (ih hm2) rfl rfl rfl
      · refine ev_iload dX7_isWord_18 rfl ?_
        refine ev_iload_n dX7_isWord_20 rfl ?_
        refine ev_icmp_ge 122 dX7_isWord_21 (by decide) (fun hc21 => False.elim (nI_ge hi (by omega) hc21)) (fun hc21 => ?_)
        refine ev_iload dX7_isWord_24 rfl ?_
        refine ev_if_eq 122 dX7_isWord_26 (by decide) (fun hc26 => False.elim (absurd hc26 (by decide))) (fun _ => ?_)
        refine ev_aload_n dX7_isWord_29 rfl ?_
        refine ev_getR dX7_isWord_30 fX7_36 (by first | assumption | rfl) (by rfl) ?_
        refine ev_aload_n dX7_isWord_33 rfl ?_
        refine ev_getI dX7_isWord_34 fX7_80 (by first | assumption | rfl) (by rfl) ?_
        rw [rs_13]
        refine ev_iload dX7_isWord_37 rfl ?_
        refine ev_iadd dX7_isWord_39 ?_
        refine ev_ialdE (fi + 5) dX7_isWord_40 (nI_add _ _) (by first | assumption | rfl) ⟨by omega, by decide⟩ ?_
        rw [rs_o (show 8 ≠ 0 by decide), hB.2.2 _ (by omega)]
        refine ev_iload dX7_isWord_41 rfl ?_
        refine ev_if_ne 50 dX7_isWord_43 (by decide) (fun _ => ?_) (fun hc43 => False.elim (absurd hc43 (by decide)))
        refine ev_iload dX7_isWord_50 rfl ?_
        refine ev_iconst (v := (nI 1)) dX7_isWord_52 (by decide) ?_
        refine ev_icmp_ne 60 dX7_isWord_53 (by decide) (fun _ => ?_) (fun hc53 => False.elim (absurd hc53 (by decide)))
        refine ev_iload dX7_isWord_60 rfl ?_
        refine ev_iconst (v := (nI 2)) dX7_isWord_62 (by decide) ?_
        refine ev_icmp_ne 71 dX7_isWord_63 (by decide) (fun _ => ?_) (fun hc63 => False.elim (absurd hc63 (by decide)))
        refine ev_iload dX7_isWord_71 rfl ?_
        refine ev_iconst (v := (nI 3)) dX7_isWord_73 (by decide) ?_
        refine ev_icmp_ne 82 dX7_isWord_74 (by decide) (fun _ => ?_) (fun hc74 => False.elim (absurd hc74 (by decide)))
        refine ev_iload dX7_isWord_82 rfl ?_
        refine ev_iconst (v := (nI 4)) dX7_isWord_84 (by decide) ?_
        refine ev_icmp_ne 93 dX7_isWord_85 (by decide) (fun _ => ?_) (fun hc85 => False.elim (absurd hc85 (by decide)))
        refine ev_iload dX7_isWord_93 rfl ?_
        refine ev_iconst (v := (nI 5)) dX7_isWord_95 (by decide) ?_
        refine ev_icmp_ne 104 dX7_isWord_96 (by decide) (fun hc96 => False.elim (absurd hc96 (by decide))) (fun _ => ?_)
        refine ev_iload dX7_isWord_99 rfl ?_
        refine ev_goto 106 dX7_isWord_101 (by decide) ?_
        refine ev_icmp_ne 113 dX7_isWord_106 (by decide) (fun hc106 => ?_) (fun hc106 => ?_)
        · have hw : wdB f fi ln j = false := decide_eq_false (fun z => hc106 ((z.2 5 hi).trans (h5 hi)))
          refine ev_iconst (v := (nI 0)) dX7_isWord_113 (by decide) ?_
          refine ev_istore dX7_isWord_114 (by decide) rfl ?_
          refine ev_iinc (v := (nI 1)) dX7_isWord_116 rfl (by decide) (by decide) rfl ?_
          refine ev_goto 18 dX7_isWord_119 (by decide) ?_
          first | exact ev_st (mm (5 + 1) hi hw) rfl rfl rfl | exact ev_st (ih hm2) rfl rfl rfl
        · have hm : f (fi + 5) = chT j 5 := hc106.trans (h5 hi).symm
          have hm2 : ∀ q, q < 5 + 1 → f (fi + q) = chT j q := fun q hq => by
            rcases Nat.lt_or_ge q 5 with z | z
            · exact hI q z
            · have e9 : q = 5 := by omega
              rw [e9]; exact hm
          refine ev_iconst (v := (nI 1)) dX7_isWord_109 (by decide) ?_
          refine ev_goto 114 dX7_isWord_110 (by decide) ?_
          refine ev_istore dX7_isWord_114 (by decide) rfl ?_
          refine ev_iinc (v := (nI 1)) dX7_isWord_116 rfl (by decide) (by decide) rfl ?_
          refine ev_goto 18 dX7_isWord_119 (by decide) ?_
          first | exact ev_st (mm (5 + 1) hi hw) rfl rfl rfl | exact ev_st (ih hm2) rfl rfl rfl
      · refine ev_iload dX7_isWord_18 rfl ?_
        refine ev_iload_n dX7_isWord_20 rfl ?_
        refine ev_icmp_ge 122 dX7_isWord_21 (by decide) (fun hc21 => False.elim (nI_ge hi (by omega) hc21)) (fun hc21 => ?_)
        refine ev_iload dX7_isWord_24 rfl ?_
        refine ev_if_eq 122 dX7_isWord_26 (by decide) (fun hc26 => False.elim (absurd hc26 (by decide))) (fun _ => ?_)
        refine ev_aload_n dX7_isWord_29 rfl ?_
        refine ev_getR dX7_isWord_30 fX7_36 (by first | assumption | rfl) (by rfl) ?_
        refine ev_aload_n dX7_isWord_33 rfl ?_
        refine ev_getI dX7_isWord_34 fX7_80 (by first | assumption | rfl) (by rfl) ?_
        rw [rs_13]
        refine ev_iload dX7_isWord_37 rfl ?_
        refine ev_iadd dX7_isWord_39 ?_
        refine ev_ialdE (fi + 6) dX7_isWord_40 (nI_add _ _) (by first | assumption | rfl) ⟨by omega, by decide⟩ ?_
        rw [rs_o (show 8 ≠ 0 by decide), hB.2.2 _ (by omega)]
        refine ev_iload dX7_isWord_41 rfl ?_
        refine ev_if_ne 50 dX7_isWord_43 (by decide) (fun _ => ?_) (fun hc43 => False.elim (absurd hc43 (by decide)))
        refine ev_iload dX7_isWord_50 rfl ?_
        refine ev_iconst (v := (nI 1)) dX7_isWord_52 (by decide) ?_
        refine ev_icmp_ne 60 dX7_isWord_53 (by decide) (fun _ => ?_) (fun hc53 => False.elim (absurd hc53 (by decide)))
        refine ev_iload dX7_isWord_60 rfl ?_
        refine ev_iconst (v := (nI 2)) dX7_isWord_62 (by decide) ?_
        refine ev_icmp_ne 71 dX7_isWord_63 (by decide) (fun _ => ?_) (fun hc63 => False.elim (absurd hc63 (by decide)))
        refine ev_iload dX7_isWord_71 rfl ?_
        refine ev_iconst (v := (nI 3)) dX7_isWord_73 (by decide) ?_
        refine ev_icmp_ne 82 dX7_isWord_74 (by decide) (fun _ => ?_) (fun hc74 => False.elim (absurd hc74 (by decide)))
        refine ev_iload dX7_isWord_82 rfl ?_
        refine ev_iconst (v := (nI 4)) dX7_isWord_84 (by decide) ?_
        refine ev_icmp_ne 93 dX7_isWord_85 (by decide) (fun _ => ?_) (fun hc85 => False.elim (absurd hc85 (by decide)))
        refine ev_iload dX7_isWord_93 rfl ?_
        refine ev_iconst (v := (nI 5)) dX7_isWord_95 (by decide) ?_
        refine ev_icmp_ne 104 dX7_isWord_96 (by decide) (fun _ => ?_) (fun hc96 => False.elim (absurd hc96 (by decide)))
        refine ev_iload dX7_isWord_104 rfl ?_
        refine ev_icmp_ne 113 dX7_isWord_106 (by decide) (fun hc106 => ?_) (fun hc106 => ?_)
        · have hw : wdB f fi ln j = false := decide_eq_false (fun z => hc106 ((z.2 6 hi).trans (h6 hi)))
          refine ev_iconst (v := (nI 0)) dX7_isWord_113 (by decide) ?_
          refine ev_istore dX7_isWord_114 (by decide) rfl ?_
          refine ev_iinc (v := (nI 1)) dX7_isWord_116 rfl (by decide) (by decide) rfl ?_
          refine ev_goto 18 dX7_isWord_119 (by decide) ?_
          first | exact ev_st (mm (6 + 1) hi hw) rfl rfl rfl | exact ev_st (ih hm2) rfl rfl rfl
        · have hm : f (fi + 6) = chT j 6 := hc106.trans (h6 hi).symm
          have hm2 : ∀ q, q < 6 + 1 → f (fi + q) = chT j q := fun q hq => by
            rcases Nat.lt_or_ge q 6 with z | z
            · exact hI q z
            · have e9 : q = 6 := by omega
              rw [e9]; exact hm
          refine ev_iconst (v := (nI 1)) dX7_isWord_109 (by decide) ?_
          refine ev_goto 114 dX7_isWord_110 (by decide) ?_
          refine ev_istore dX7_isWord_114 (by decide) rfl ?_
          refine ev_iinc (v := (nI 1)) dX7_isWord_116 rfl (by decide) (by decide) rfl ?_
          refine ev_goto 18 dX7_isWord_119 (by decide) ?_
          first | exact ev_st (mm (6 + 1) hi hw) rfl rfl rfl | exact ev_st (ih hm2) rfl rfl rfl
    refine ev_aload_n dX7_isWord_0 rfl ?_
    refine ev_getI dX7_isWord_1 fX7_87 (by first | assumption | rfl) (by rfl) ?_
    rw [rs_14]
    refine ev_iload_n dX7_isWord_4 rfl ?_
    refine ev_icmp_ne 12 dX7_isWord_5 (by decide) (fun hc5 => False.elim (hc5 (by rw [hl]))) (fun hc5 => ?_)
    refine ev_iconst (v := (nI 1)) dX7_isWord_8 (by decide) ?_
    refine ev_goto 13 dX7_isWord_9 (by decide) ?_
    refine ev_istore dX7_isWord_13 (by decide) rfl ?_
    refine ev_iconst (v := (nI 0)) dX7_isWord_15 (by decide) ?_
    refine ev_istore dX7_isWord_16 (by decide) rfl ?_
    exact ev_st (key 0 (Nat.zero_le _) (fun k hk => absurd hk (Nat.not_lt_zero _))) rfl rfl rfl
  · refine ev_aload_n dX7_isWord_0 rfl ?_
    refine ev_getI dX7_isWord_1 fX7_87 (by first | assumption | rfl) (by rfl) ?_
    rw [rs_14]
    refine ev_iload_n dX7_isWord_4 rfl ?_
    refine ev_icmp_ne 12 dX7_isWord_5 (by decide) (fun hc5 => ?_) (fun hc5 => False.elim (hl ((nI_eq (by omega) (by omega)).mp hc5)))
    refine ev_iconst (v := (nI 0)) dX7_isWord_12 (by decide) ?_
    refine ev_istore dX7_isWord_13 (by decide) rfl ?_
    refine ev_iconst (v := (nI 0)) dX7_isWord_15 (by decide) ?_
    refine ev_istore dX7_isWord_16 (by decide) rfl ?_
    exact ev_st (mm 0 (Nat.zero_le _) (decide_eq_false (fun z => hl z.1))) rfl rfl rfl
