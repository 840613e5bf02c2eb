/-! the script: clauses -/
theorem sc_set {C : rf_Mem} {a : Nat} {x : Nat × Int32} {c j : Nat} {v : Int32} (h : c ≠ 1) : rf_set (scM C a x) c j v = scM (rf_set C c j v) a x := rf_ext (fun d k => by
  by_cases hd : d = 1
  · subst hd
    rw [gs_q _ _ _ (fun z => h z.symm)]
    have h1 : ¬ 1 = c := fun z => h z.symm
    simp [scM, rf_row, rf_set, h1]
  · rw [sc_o hd]
    by_cases hc : d = c
    · subst hc
      by_cases hk : k = j
      · subst hk; rw [gs_same, gs_same]
      · rw [gs_k _ _ _ hk, gs_k _ _ _ hk, sc_o hd]
    · rw [gs_q _ _ _ hc, gs_q _ _ _ hc, sc_o hd])
theorem fl2_z {x : Nat × Int32} {bad wh : Nat} (h : (fl2 x bad wh).1 = 0) : x.1 = 0 ∧ bad = 0 := by
  unfold fl2 at h
  by_cases z : x.1 = 0 ∧ bad ≠ 0
  · rw [if_pos z] at h; exact absurd h z.2
  · rw [if_neg z] at h
    exact ⟨h, Decidable.not_not.mp (fun y => z ⟨h, y⟩)⟩
def adL (M : rf_Mem) (n : Nat) (v w : Int32) : rf_Mem := rf_set (rf_set (rf_set M 4 n v) 5 n w) 3 4 (nI (n + 1))
def adR (M : rf_Mem) (n : Nat) (v w : Int32) : rf_Mem := rf_set (rf_set (rf_set M 6 n v) 7 n w) 3 5 (nI (n + 1))
def teE (M : rf_Mem) (v : Int32) : rf_Mem := rf_set (rf_set M 3 6 v) 3 7 (nI 1)
theorem adL_sc {C : rf_Mem} {a : Nat} {x : Nat × Int32} {n : Nat} {v w : Int32} : adL (scM C a x) n v w = scM (adL C n v w) a x := by
  unfold adL; rw [sc_set (by decide), sc_set (by decide), sc_set (by decide)]
theorem adR_sc {C : rf_Mem} {a : Nat} {x : Nat × Int32} {n : Nat} {v w : Int32} : adR (scM C a x) n v w = scM (adR C n v w) a x := by
  unfold adR; rw [sc_set (by decide), sc_set (by decide), sc_set (by decide)]
theorem teE_sc {C : rf_Mem} {a : Nat} {x : Nat × Int32} {v : Int32} : teE (scM C a x) v = scM (teE C v) a x := by
  unfold teE; rw [sc_set (by decide), sc_set (by decide)]
set_option maxRecDepth 20000 in
set_option maxHeartbeats 2000000 in
theorem e_adL {C : rf_Mem} {n : Nat} {v w : Int32} (h : C 3 4 = nI n) (hn : n < 16) : Ev LayC mX1_addLine 0 (rf_ent 3 [.ref 3, .int v, .int w]) [] C none (adL C n v w) := by
  refine ev_aload_n dX1_addLine_0 rfl ?_
  refine ev_getI dX1_addLine_1 fX1_24 (by first | assumption | rfl) (by rfl) ?_
  refine ev_bipush (v := (nI 16)) dX1_addLine_4 (by decide) ?_
  refine ev_icmp_ge 39 dX1_addLine_6 (by decide) (fun hc6 => False.elim (lp_s (i := n) (n := 16) rfl (by omega) hn (by rw [← h]; exact hc6))) (fun hc6 => ?_)
  refine ev_aload_n dX1_addLine_9 rfl ?_
  refine ev_getR dX1_addLine_10 fX1_9 (by first | assumption | rfl) (by rfl) ?_
  refine ev_aload_n dX1_addLine_13 rfl ?_
  refine ev_getI dX1_addLine_14 fX1_24 (by first | assumption | rfl) (by rfl) ?_
  refine ev_iload_n dX1_addLine_17 rfl ?_
  refine ev_iastE (n) dX1_addLine_18 (h) (by first | assumption | rfl) ⟨hn, by decide⟩ ?_
  refine ev_aload_n dX1_addLine_19 rfl ?_
  refine ev_getR dX1_addLine_20 fX1_15 (by first | assumption | rfl) (by rfl) ?_
  refine ev_aload_n dX1_addLine_23 rfl ?_
  refine ev_getI dX1_addLine_24 fX1_24 (by first | assumption | rfl) (by rfl) ?_
  rw [gs_q _ _ _ (show 3 ≠ 4 by decide)]
  refine ev_iload_n dX1_addLine_27 rfl ?_
  refine ev_iastE (n) dX1_addLine_28 (h) (by first | assumption | rfl) ⟨hn, by decide⟩ ?_
  refine ev_aload_n dX1_addLine_29 rfl ?_
  refine ev_dup dX1_addLine_30 rfl ?_
  refine ev_getI dX1_addLine_31 fX1_24 (by first | assumption | rfl) (by rfl) ?_
  rw [gs_q _ _ _ (show 3 ≠ 5 by decide), gs_q _ _ _ (show 3 ≠ 4 by decide), h]
  refine ev_iconst (v := (nI 1)) dX1_addLine_34 (by decide) ?_
  refine ev_iadd dX1_addLine_35 ?_
  rw [nI_add]
  refine ev_put dX1_addLine_36 pX1_24 (by first | assumption | rfl) (by rfl) (rfl) (rfl) ?_
  exact ev_vretE dX1_addLine_39 rfl rfl (rfl)
set_option maxRecDepth 20000 in
set_option maxHeartbeats 2000000 in
theorem e_adR {C : rf_Mem} {n : Nat} {v w : Int32} (h : C 3 5 = nI n) (hn : n < 8) : Ev LayC mX1_addReader 0 (rf_ent 3 [.ref 3, .int v, .int w]) [] C none (adR C n v w) := by
  refine ev_aload_n dX1_addReader_0 rfl ?_
  refine ev_getI dX1_addReader_1 fX1_28 (by first | assumption | rfl) (by rfl) ?_
  refine ev_bipush (v := (nI 8)) dX1_addReader_4 (by decide) ?_
  refine ev_icmp_ge 39 dX1_addReader_6 (by decide) (fun hc6 => False.elim (lp_s (i := n) (n := 8) rfl (by omega) hn (by rw [← h]; exact hc6))) (fun hc6 => ?_)
  refine ev_aload_n dX1_addReader_9 rfl ?_
  refine ev_getR dX1_addReader_10 fX1_18 (by first | assumption | rfl) (by rfl) ?_
  refine ev_aload_n dX1_addReader_13 rfl ?_
  refine ev_getI dX1_addReader_14 fX1_28 (by first | assumption | rfl) (by rfl) ?_
  refine ev_iload_n dX1_addReader_17 rfl ?_
  refine ev_iastE (n) dX1_addReader_18 (h) (by first | assumption | rfl) ⟨hn, by decide⟩ ?_
  refine ev_aload_n dX1_addReader_19 rfl ?_
  refine ev_getR dX1_addReader_20 fX1_21 (by first | assumption | rfl) (by rfl) ?_
  refine ev_aload_n dX1_addReader_23 rfl ?_
  refine ev_getI dX1_addReader_24 fX1_28 (by first | assumption | rfl) (by rfl) ?_
  rw [gs_q _ _ _ (show 3 ≠ 6 by decide)]
  refine ev_iload_n dX1_addReader_27 rfl ?_
  refine ev_iastE (n) dX1_addReader_28 (h) (by first | assumption | rfl) ⟨hn, by decide⟩ ?_
  refine ev_aload_n dX1_addReader_29 rfl ?_
  refine ev_dup dX1_addReader_30 rfl ?_
  refine ev_getI dX1_addReader_31 fX1_28 (by first | assumption | rfl) (by rfl) ?_
  rw [gs_q _ _ _ (show 3 ≠ 7 by decide), gs_q _ _ _ (show 3 ≠ 6 by decide), h]
  refine ev_iconst (v := (nI 1)) dX1_addReader_34 (by decide) ?_
  refine ev_iadd dX1_addReader_35 ?_
  rw [nI_add]
  refine ev_put dX1_addReader_36 pX1_28 (by first | assumption | rfl) (by rfl) (rfl) (rfl) ?_
  exact ev_vretE dX1_addReader_39 rfl rfl (rfl)
set_option maxRecDepth 20000 in
set_option maxHeartbeats 2000000 in
theorem e_teE {C : rf_Mem} {v : Int32} : Ev LayC mX1_tellError 0 (rf_ent 2 [.ref 3, .int v]) [] C none (teE C v) := by
  refine ev_aload_n dX1_tellError_0 rfl ?_
  refine ev_iload_n dX1_tellError_1 rfl ?_
  refine ev_put dX1_tellError_2 pX1_31 (by first | assumption | rfl) (by rfl) (rfl) (rfl) ?_
  refine ev_aload_n dX1_tellError_5 rfl ?_
  refine ev_iconst (v := (nI 1)) dX1_tellError_6 (by decide) ?_
  refine ev_put dX1_tellError_7 pX1_34 (by first | assumption | rfl) (by rfl) (rfl) (rfl) ?_
  exact ev_vretE dX1_tellError_10 rfl rfl (rfl)
def lnX (f : Nat → Int32) (tl n st a : Nat) (x : Nat × Int32) : Nat × Int32 := teX f tl (dE f tl (dE f tl a)) (tnX f tl 0 9 (dE f tl a) (tnX f tl 0 99 a (fl2 x (if n < 16 then 0 else 3) st)))
def lnA (f : Nat → Int32) (tl a : Nat) : Nat := teA f tl (dE f tl (dE f tl a))
def rdX (f : Nat → Int32) (tl n st a : Nat) (x : Nat × Int32) : Nat × Int32 := teX f tl (dE f tl (kE f tl a)) (tnX f tl 1 99 (kE f tl a) (kX f tl a (fl2 x (if n < 8 then 0 else 3) st)))
def rdA (f : Nat → Int32) (tl a : Nat) : Nat := teA f tl (dE f tl (kE f tl a))
def erX (f : Nat → Int32) (tl st a : Nat) (b : Bool) (x : Nat × Int32) : Nat × Int32 := teX f tl (dE f tl a) (tnX f tl 0 100 a (fl2 x (if b = true then 3 else 0) st))
def erA (f : Nat → Int32) (tl a : Nat) : Nat := teA f tl (dE f tl a)
theorem lnX_z {f : Nat → Int32} {tl n st a : Nat} {x : Nat × Int32} (h : (lnX f tl n st a x).1 = 0) : n < 16 := by
  have h1 := (fl2_z (fl2_z (fl2_z (fl2_z h).1).1).1).2
  rcases Nat.lt_or_ge n 16 with z | z
  · exact z
  · rw [if_neg (by omega)] at h1; cases h1
theorem rdX_z {f : Nat → Int32} {tl n st a : Nat} {x : Nat × Int32} (h : (rdX f tl n st a x).1 = 0) : n < 8 := by
  have h1 := (fl2_z (fl2_z (fl2_z (fl2_z h).1).1).1).2
  rcases Nat.lt_or_ge n 8 with z | z
  · exact z
  · rw [if_neg (by omega)] at h1; cases h1
set_option maxRecDepth 20000 in
set_option maxHeartbeats 2000000 in
theorem e_parseLine {f : Nat → Int32} {tl : Nat} {C : rf_Mem} (hB : TB tl f C) (hF : TF tl f) {x : Nat × Int32} {n st a : Nat} (h3 : C 3 4 = nI n) (hn16 : n ≤ 16) (ha : a ≤ tl) (hx : x.1 ≤ 3) : Ev LayC mX4_parseLine 0 (rf_ent 5 [.ref 1, .ref 3, .int (nI st)]) [] (scM C a x) none (if (lnX f tl n st a x).1 = 0 then scM (adL C n (nI (vN f tl (a))) (nI (vN f tl (dE f tl (a))))) (lnA f tl a) (lnX f tl n st a x) else scM C (lnA f tl a) (lnX f tl n st a x)) := by
  have h400 := hB.2.1
  obtain ⟨q1, q2⟩ := dE_le (f := f) ha
  obtain ⟨q1k, q2k⟩ := kE_le (f := f) ha
  obtain ⟨q3, q4⟩ := dE_le (f := f) q2
  obtain ⟨q3k, q4k⟩ := dE_le (f := f) q2k
  have hx1 : (fl2 x (if n < 16 then 0 else 3) st).1 ≤ 3 := fl2_lt hx (by split <;> omega)
  have hX3 : (lnX f tl n st a x).1 ≤ 3 := teX_le (tnX_le (tnX_le hx1))
  have key : Ev LayC mX4_parseLine 15 [some (.ref 1), some (.ref 3), some (.int (nI st)), none, none] [] (scM C a (fl2 x (if n < 16 then 0 else 3) st)) none (if (lnX f tl n st a x).1 = 0 then scM (adL C n (nI (vN f tl (a))) (nI (vN f tl (dE f tl (a))))) (lnA f tl a) (lnX f tl n st a x) else scM C (lnA f tl a) (lnX f tl n st a x)) := by
    by_cases hz : (lnX f tl n st a x).1 = 0
    · rw [if_pos hz]
      have hn := lnX_z hz
      refine ev_aload_n dX4_parseLine_15 rfl ?_
      refine ev_iconst (v := (nI 0)) dX4_parseLine_16 (by decide) ?_
      refine ev_bipush (v := (nI 99)) dX4_parseLine_17 (by decide) ?_
      refine ev_cV2 dX4_parseLine_19 ceX4_takeNumber kX4_71 (rm_le rfl rfl) (Nat.le_of_ble_eq_true rfl) (Nat.le_of_ble_eq_true rfl) (e_takeNumber hB hF ha (by decide) (by decide) hx1) (by first | assumption | rfl) ?_
      refine ev_istore_k 3 dX4_parseLine_22 rfl (by decide) rfl ?_
      refine ev_aload_n dX4_parseLine_23 rfl ?_
      refine ev_iconst (v := (nI 0)) dX4_parseLine_24 (by decide) ?_
      refine ev_bipush (v := (nI 9)) dX4_parseLine_25 (by decide) ?_
      refine ev_cV2 dX4_parseLine_27 ceX4_takeNumber kX4_71 (rm_le rfl rfl) (Nat.le_of_ble_eq_true rfl) (Nat.le_of_ble_eq_true rfl) (e_takeNumber hB hF q2 (by decide) (by decide) (tnX_le hx1)) (by first | assumption | rfl) ?_
      refine ev_istore dX4_parseLine_30 (by decide) rfl ?_
      refine ev_aload_n dX4_parseLine_32 rfl ?_
      refine ev_cV0v dX4_parseLine_33 ceX4_takeEnd kX4_75 (rm_le rfl rfl) (Nat.le_of_ble_eq_true rfl) (Nat.le_of_ble_eq_true rfl) (e_takeEnd2 hB q4 (tnX_le (tnX_le hx1))) (by first | assumption | rfl) ?_
      refine ev_aload_n dX4_parseLine_36 rfl ?_
      refine ev_getI dX4_parseLine_37 fX4_19 (by first | assumption | rfl) (by rfl) ?_
      rw [sc_2]
      refine ev_if_ne 50 dX4_parseLine_40 (by decide) (fun hc40 => False.elim (hc40 ((congrArg nI hz).trans nI_0))) (fun hc40 => ?_)
      refine ev_aload_n dX4_parseLine_43 rfl ?_
      refine ev_iload_n dX4_parseLine_44 rfl ?_
      refine ev_iload dX4_parseLine_45 rfl ?_
      refine ev_cV2v dX4_parseLine_47 ceX1_addLine kX4_78 (rm_le rfl rfl) (Nat.le_of_ble_eq_true rfl) (Nat.le_of_ble_eq_true rfl) (e_adL (by rw [sc_o (show 3 ≠ 1 by decide), h3]) hn) (by first | assumption | rfl) ?_
      rw [adL_sc]
      exact ev_vretE dX4_parseLine_50 rfl rfl (rfl)
    · rw [if_neg hz]
      refine ev_aload_n dX4_parseLine_15 rfl ?_
      refine ev_iconst (v := (nI 0)) dX4_parseLine_16 (by decide) ?_
      refine ev_bipush (v := (nI 99)) dX4_parseLine_17 (by decide) ?_
      refine ev_cV2 dX4_parseLine_19 ceX4_takeNumber kX4_71 (rm_le rfl rfl) (Nat.le_of_ble_eq_true rfl) (Nat.le_of_ble_eq_true rfl) (e_takeNumber hB hF ha (by decide) (by decide) hx1) (by first | assumption | rfl) ?_
      refine ev_istore_k 3 dX4_parseLine_22 rfl (by decide) rfl ?_
      refine ev_aload_n dX4_parseLine_23 rfl ?_
      refine ev_iconst (v := (nI 0)) dX4_parseLine_24 (by decide) ?_
      refine ev_bipush (v := (nI 9)) dX4_parseLine_25 (by decide) ?_
      refine ev_cV2 dX4_parseLine_27 ceX4_takeNumber kX4_71 (rm_le rfl rfl) (Nat.le_of_ble_eq_true rfl) (Nat.le_of_ble_eq_true rfl) (e_takeNumber hB hF q2 (by decide) (by decide) (tnX_le hx1)) (by first | assumption | rfl) ?_
      refine ev_istore dX4_parseLine_30 (by decide) rfl ?_
      refine ev_aload_n dX4_parseLine_32 rfl ?_
      refine ev_cV0v dX4_parseLine_33 ceX4_takeEnd kX4_75 (rm_le rfl rfl) (Nat.le_of_ble_eq_true rfl) (Nat.le_of_ble_eq_true rfl) (e_takeEnd2 hB q4 (tnX_le (tnX_le hx1))) (by first | assumption | rfl) ?_
      refine ev_aload_n dX4_parseLine_36 rfl ?_
      refine ev_getI dX4_parseLine_37 fX4_19 (by first | assumption | rfl) (by rfl) ?_
      rw [sc_2]
      refine ev_if_ne 50 dX4_parseLine_40 (by decide) (fun hc40 => ?_) (fun hc40 => False.elim (hz ((nI_eq (show (lnX f tl n st a x).1 < 2 ^ 31 by omega) (by omega)).mp hc40)))
      exact ev_vretE dX4_parseLine_50 rfl rfl (rfl)
  by_cases hn : n < 16
  · rw [if_pos hn, fl2_0] at key
    refine ev_aload_n dX4_parseLine_0 rfl ?_
    refine ev_getI dX4_parseLine_1 fX4_68 (by first | assumption | rfl) (by rfl) ?_
    rw [sc_o (show 3 ≠ 1 by decide), h3]
    refine ev_bipush (v := (nI 16)) dX4_parseLine_4 (by decide) ?_
    refine ev_icmp_lt 15 dX4_parseLine_6 (by decide) (fun hc6 => ?_) (fun hc6 => False.elim (hc6 (nI_lt hn (by decide))))
    exact key
  · rw [if_neg hn] at key
    refine ev_aload_n dX4_parseLine_0 rfl ?_
    refine ev_getI dX4_parseLine_1 fX4_68 (by first | assumption | rfl) (by rfl) ?_
    rw [sc_o (show 3 ≠ 1 by decide), h3]
    refine ev_bipush (v := (nI 16)) dX4_parseLine_4 (by decide) ?_
    refine ev_icmp_lt 15 dX4_parseLine_6 (by decide) (fun hc6 => False.elim (nI_nlt (a := n) (b := 16) (by omega) (by omega) hc6)) (fun hc6 => ?_)
    refine ev_aload_n dX4_parseLine_9 rfl ?_
    refine ev_iconst (v := (nI 3)) dX4_parseLine_10 (by decide) ?_
    refine ev_iload_n dX4_parseLine_11 rfl ?_
    refine ev_cV2v dX4_parseLine_12 ceX4_fail kX4_64 (rm_le rfl rfl) (Nat.le_of_ble_eq_true rfl) (Nat.le_of_ble_eq_true rfl) (e_fail (by decide) hx) (by first | assumption | rfl) ?_
    exact key
set_option maxRecDepth 20000 in
set_option maxHeartbeats 2000000 in
theorem e_parseReader {f : Nat → Int32} {tl : Nat} {C : rf_Mem} (hB : TB tl f C) (hF : TF tl f) {x : Nat × Int32} {n st a : Nat} (h3 : C 3 5 = nI n) (hn16 : n ≤ 8) (ha : a ≤ tl) (hx : x.1 ≤ 3) : Ev LayC mX4_parseReader 0 (rf_ent 5 [.ref 1, .ref 3, .int (nI st)]) [] (scM C a x) none (if (rdX f tl n st a x).1 = 0 then scM (adR C n (kK f tl a) (nI (vN f tl (kE f tl a)))) (rdA f tl a) (rdX f tl n st a x) else scM C (rdA f tl a) (rdX f tl n st a x)) := by
  have h400 := hB.2.1
  obtain ⟨q1, q2⟩ := dE_le (f := f) ha
  obtain ⟨q1k, q2k⟩ := kE_le (f := f) ha
  obtain ⟨q3, q4⟩ := dE_le (f := f) q2
  obtain ⟨q3k, q4k⟩ := dE_le (f := f) q2k
  have hx1 : (fl2 x (if n < 8 then 0 else 3) st).1 ≤ 3 := fl2_lt hx (by split <;> omega)
  have hX3 : (rdX f tl n st a x).1 ≤ 3 := teX_le (tnX_le (kX_le hx1))
  have key : Ev LayC mX4_parseReader 15 [some (.ref 1), some (.ref 3), some (.int (nI st)), none, none] [] (scM C a (fl2 x (if n < 8 then 0 else 3) st)) none (if (rdX f tl n st a x).1 = 0 then scM (adR C n (kK f tl a) (nI (vN f tl (kE f tl a)))) (rdA f tl a) (rdX f tl n st a x) else scM C (rdA f tl a) (rdX f tl n st a x)) := by
    by_cases hz : (rdX f tl n st a x).1 = 0
    · rw [if_pos hz]
      have hn := rdX_z hz
      refine ev_aload_n dX4_parseReader_15 rfl ?_
      refine ev_cV0 dX4_parseReader_16 ceX4_takeKind kX4_84 (rm_le rfl rfl) (Nat.le_of_ble_eq_true rfl) (Nat.le_of_ble_eq_true rfl) (e_takeKind hB ha hx1) (by first | assumption | rfl) ?_
      refine ev_istore_k 3 dX4_parseReader_19 rfl (by decide) rfl ?_
      refine ev_aload_n dX4_parseReader_20 rfl ?_
      refine ev_iconst (v := (nI 1)) dX4_parseReader_21 (by decide) ?_
      refine ev_bipush (v := (nI 99)) dX4_parseReader_22 (by decide) ?_
      refine ev_cV2 dX4_parseReader_24 ceX4_takeNumber kX4_71 (rm_le rfl rfl) (Nat.le_of_ble_eq_true rfl) (Nat.le_of_ble_eq_true rfl) (e_takeNumber hB hF q2k (by decide) (by decide) (kX_le hx1)) (by first | assumption | rfl) ?_
      refine ev_istore dX4_parseReader_27 (by decide) rfl ?_
      refine ev_aload_n dX4_parseReader_29 rfl ?_
      refine ev_cV0v dX4_parseReader_30 ceX4_takeEnd kX4_75 (rm_le rfl rfl) (Nat.le_of_ble_eq_true rfl) (Nat.le_of_ble_eq_true rfl) (e_takeEnd2 hB q4k (tnX_le (kX_le hx1))) (by first | assumption | rfl) ?_
      refine ev_aload_n dX4_parseReader_33 rfl ?_
      refine ev_getI dX4_parseReader_34 fX4_19 (by first | assumption | rfl) (by rfl) ?_
      rw [sc_2]
      refine ev_if_ne 47 dX4_parseReader_37 (by decide) (fun hc37 => False.elim (hc37 ((congrArg nI hz).trans nI_0))) (fun hc37 => ?_)
      refine ev_aload_n dX4_parseReader_40 rfl ?_
      refine ev_iload_n dX4_parseReader_41 rfl ?_
      refine ev_iload dX4_parseReader_42 rfl ?_
      refine ev_cV2v dX4_parseReader_44 ceX1_addReader kX4_87 (rm_le rfl rfl) (Nat.le_of_ble_eq_true rfl) (Nat.le_of_ble_eq_true rfl) (e_adR (by rw [sc_o (show 3 ≠ 1 by decide), h3]) hn) (by first | assumption | rfl) ?_
      rw [adR_sc]
      exact ev_vretE dX4_parseReader_47 rfl rfl (rfl)
    · rw [if_neg hz]
      refine ev_aload_n dX4_parseReader_15 rfl ?_
      refine ev_cV0 dX4_parseReader_16 ceX4_takeKind kX4_84 (rm_le rfl rfl) (Nat.le_of_ble_eq_true rfl) (Nat.le_of_ble_eq_true rfl) (e_takeKind hB ha hx1) (by first | assumption | rfl) ?_
      refine ev_istore_k 3 dX4_parseReader_19 rfl (by decide) rfl ?_
      refine ev_aload_n dX4_parseReader_20 rfl ?_
      refine ev_iconst (v := (nI 1)) dX4_parseReader_21 (by decide) ?_
      refine ev_bipush (v := (nI 99)) dX4_parseReader_22 (by decide) ?_
      refine ev_cV2 dX4_parseReader_24 ceX4_takeNumber kX4_71 (rm_le rfl rfl) (Nat.le_of_ble_eq_true rfl) (Nat.le_of_ble_eq_true rfl) (e_takeNumber hB hF q2k (by decide) (by decide) (kX_le hx1)) (by first | assumption | rfl) ?_
      refine ev_istore dX4_parseReader_27 (by decide) rfl ?_
      refine ev_aload_n dX4_parseReader_29 rfl ?_
      refine ev_cV0v dX4_parseReader_30 ceX4_takeEnd kX4_75 (rm_le rfl rfl) (Nat.le_of_ble_eq_true rfl) (Nat.le_of_ble_eq_true rfl) (e_takeEnd2 hB q4k (tnX_le (kX_le hx1))) (by first | assumption | rfl) ?_
      refine ev_aload_n dX4_parseReader_33 rfl ?_
      refine ev_getI dX4_parseReader_34 fX4_19 (by first | assumption | rfl) (by rfl) ?_
      rw [sc_2]
      refine ev_if_ne 47 dX4_parseReader_37 (by decide) (fun hc37 => ?_) (fun hc37 => False.elim (hz ((nI_eq (show (rdX f tl n st a x).1 < 2 ^ 31 by omega) (by omega)).mp hc37)))
      exact ev_vretE dX4_parseReader_47 rfl rfl (rfl)
  by_cases hn : n < 8
  · rw [if_pos hn, fl2_0] at key
    refine ev_aload_n dX4_parseReader_0 rfl ?_
    refine ev_getI dX4_parseReader_1 fX4_81 (by first | assumption | rfl) (by rfl) ?_
    rw [sc_o (show 3 ≠ 1 by decide), h3]
    refine ev_bipush (v := (nI 8)) dX4_parseReader_4 (by decide) ?_
    refine ev_icmp_lt 15 dX4_parseReader_6 (by decide) (fun hc6 => ?_) (fun hc6 => False.elim (hc6 (nI_lt hn (by decide))))
    exact key
  · rw [if_neg hn] at key
    refine ev_aload_n dX4_parseReader_0 rfl ?_
    refine ev_getI dX4_parseReader_1 fX4_81 (by first | assumption | rfl) (by rfl) ?_
    rw [sc_o (show 3 ≠ 1 by decide), h3]
    refine ev_bipush (v := (nI 8)) dX4_parseReader_4 (by decide) ?_
    refine ev_icmp_lt 15 dX4_parseReader_6 (by decide) (fun hc6 => False.elim (nI_nlt (a := n) (b := 8) (by omega) (by omega) hc6)) (fun hc6 => ?_)
    refine ev_aload_n dX4_parseReader_9 rfl ?_
    refine ev_iconst (v := (nI 3)) dX4_parseReader_10 (by decide) ?_
    refine ev_iload_n dX4_parseReader_11 rfl ?_
    refine ev_cV2v dX4_parseReader_12 ceX4_fail kX4_64 (rm_le rfl rfl) (Nat.le_of_ble_eq_true rfl) (Nat.le_of_ble_eq_true rfl) (e_fail (by decide) hx) (by first | assumption | rfl) ?_
    exact key
set_option maxRecDepth 20000 in
set_option maxHeartbeats 2000000 in
theorem e_parseError {f : Nat → Int32} {tl : Nat} {C : rf_Mem} (hB : TB tl f C) (hF : TF tl f) {x : Nat × Int32} {st a : Nat} {b : Bool} (h3 : C 3 7 = b2i b) (ha : a ≤ tl) (hx : x.1 ≤ 3) : Ev LayC mX4_parseError 0 (rf_ent 4 [.ref 1, .ref 3, .int (nI st)]) [] (scM C a x) none (if (erX f tl st a b x).1 = 0 then scM (teE C (nI (vN f tl (a)))) (erA f tl a) (erX f tl st a b x) else scM C (erA f tl a) (erX f tl st a b x)) := by
  have h400 := hB.2.1
  obtain ⟨q1, q2⟩ := dE_le (f := f) ha
  obtain ⟨q1k, q2k⟩ := kE_le (f := f) ha
  obtain ⟨q3, q4⟩ := dE_le (f := f) q2
  obtain ⟨q3k, q4k⟩ := dE_le (f := f) q2k
  have hx1 : (fl2 x (if b = true then 3 else 0) st).1 ≤ 3 := fl2_lt hx (by split <;> omega)
  have hX3 : (erX f tl st a b x).1 ≤ 3 := teX_le (tnX_le (hx1))
  have key : Ev LayC mX4_parseError 13 [some (.ref 1), some (.ref 3), some (.int (nI st)), none] [] (scM C a (fl2 x (if b = true then 3 else 0) st)) none (if (erX f tl st a b x).1 = 0 then scM (teE C (nI (vN f tl (a)))) (erA f tl a) (erX f tl st a b x) else scM C (erA f tl a) (erX f tl st a b x)) := by
    by_cases hz : (erX f tl st a b x).1 = 0
    · rw [if_pos hz]
      refine ev_aload_n dX4_parseError_13 rfl ?_
      refine ev_iconst (v := (nI 0)) dX4_parseError_14 (by decide) ?_
      refine ev_bipush (v := (nI 100)) dX4_parseError_15 (by decide) ?_
      refine ev_cV2 dX4_parseError_17 ceX4_takeNumber kX4_71 (rm_le rfl rfl) (Nat.le_of_ble_eq_true rfl) (Nat.le_of_ble_eq_true rfl) (e_takeNumber hB hF ha (by decide) (by decide) hx1) (by first | assumption | rfl) ?_
      refine ev_istore_k 3 dX4_parseError_20 rfl (by decide) rfl ?_
      refine ev_aload_n dX4_parseError_21 rfl ?_
      refine ev_cV0v dX4_parseError_22 ceX4_takeEnd kX4_75 (rm_le rfl rfl) (Nat.le_of_ble_eq_true rfl) (Nat.le_of_ble_eq_true rfl) (e_takeEnd2 hB q2 (tnX_le hx1)) (by first | assumption | rfl) ?_
      refine ev_aload_n dX4_parseError_25 rfl ?_
      refine ev_getI dX4_parseError_26 fX4_19 (by first | assumption | rfl) (by rfl) ?_
      rw [sc_2]
      refine ev_if_ne 37 dX4_parseError_29 (by decide) (fun hc29 => False.elim (hc29 ((congrArg nI hz).trans nI_0))) (fun hc29 => ?_)
      refine ev_aload_n dX4_parseError_32 rfl ?_
      refine ev_iload_n dX4_parseError_33 rfl ?_
      refine ev_cV1v dX4_parseError_34 ceX1_tellError kX4_94 (rm_le rfl rfl) (Nat.le_of_ble_eq_true rfl) (Nat.le_of_ble_eq_true rfl) (e_teE) (by first | assumption | rfl) ?_
      rw [teE_sc]
      exact ev_vretE dX4_parseError_37 rfl rfl (rfl)
    · rw [if_neg hz]
      refine ev_aload_n dX4_parseError_13 rfl ?_
      refine ev_iconst (v := (nI 0)) dX4_parseError_14 (by decide) ?_
      refine ev_bipush (v := (nI 100)) dX4_parseError_15 (by decide) ?_
      refine ev_cV2 dX4_parseError_17 ceX4_takeNumber kX4_71 (rm_le rfl rfl) (Nat.le_of_ble_eq_true rfl) (Nat.le_of_ble_eq_true rfl) (e_takeNumber hB hF ha (by decide) (by decide) hx1) (by first | assumption | rfl) ?_
      refine ev_istore_k 3 dX4_parseError_20 rfl (by decide) rfl ?_
      refine ev_aload_n dX4_parseError_21 rfl ?_
      refine ev_cV0v dX4_parseError_22 ceX4_takeEnd kX4_75 (rm_le rfl rfl) (Nat.le_of_ble_eq_true rfl) (Nat.le_of_ble_eq_true rfl) (e_takeEnd2 hB q2 (tnX_le hx1)) (by first | assumption | rfl) ?_
      refine ev_aload_n dX4_parseError_25 rfl ?_
      refine ev_getI dX4_parseError_26 fX4_19 (by first | assumption | rfl) (by rfl) ?_
      rw [sc_2]
      refine ev_if_ne 37 dX4_parseError_29 (by decide) (fun hc29 => ?_) (fun hc29 => False.elim (hz ((nI_eq (show (erX f tl st a b x).1 < 2 ^ 31 by omega) (by omega)).mp hc29)))
      exact ev_vretE dX4_parseError_37 rfl rfl (rfl)
  cases hn : b with
  | false =>
    rw [hn] at key h3
    rw [if_neg (by decide), fl2_0] at key
    refine ev_aload_n dX4_parseError_0 rfl ?_
    refine ev_getI dX4_parseError_1 fX4_90 (by first | assumption | rfl) (by rfl) ?_
    rw [sc_o (show 3 ≠ 1 by decide), h3]
    refine ev_if_eq 13 dX4_parseError_4 (by decide) (fun hc4 => ?_) (fun hc4 => False.elim (hc4 rfl))
    exact key
  | true =>
    rw [hn] at key h3
    rw [if_pos rfl] at key
    refine ev_aload_n dX4_parseError_0 rfl ?_
    refine ev_getI dX4_parseError_1 fX4_90 (by first | assumption | rfl) (by rfl) ?_
    rw [sc_o (show 3 ≠ 1 by decide), h3]
    refine ev_if_eq 13 dX4_parseError_4 (by decide) (fun hc4 => False.elim (absurd hc4 (by decide))) (fun hc4 => ?_)
    refine ev_aload_n dX4_parseError_7 rfl ?_
    refine ev_iconst (v := (nI 3)) dX4_parseError_8 (by decide) ?_
    refine ev_iload_n dX4_parseError_9 rfl ?_
    refine ev_cV2v dX4_parseError_10 ceX4_fail kX4_64 (rm_le rfl rfl) (Nat.le_of_ble_eq_true rfl) (Nat.le_of_ble_eq_true rfl) (e_fail (by decide) hx) (by first | assumption | rfl) ?_
    exact key
