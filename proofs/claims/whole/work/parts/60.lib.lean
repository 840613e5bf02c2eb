/-! ops: library -/
def wf0 (j : Nat) : Int32 := if 120 ≤ j ∧ j ≤ 415 then -1 else nI 0
def w1M (M : rf_Mem) (i : Nat) : rf_Mem := rf_row M 1 (fun j => if j < i then wf0 j else M 1 j)
theorem w1_s (M : rf_Mem) (i : Nat) {v : Int32} (h : v = wf0 i) : rf_set (w1M M i) 1 i v = w1M M (i + 1) := rf_ext (fun c j => by
  by_cases hc : c = 1
  · subst hc
    by_cases hj : j = i
    · subst hj; rw [gs_same, h]; simp [w1M, rf_row]
    · rw [gs_k _ _ _ hj]
      have e : (j < i + 1) = (j < i) := propext ⟨fun z => by omega, fun z => by omega⟩
      simp [w1M, rf_row, e]
  · rw [gs_q _ _ _ hc]; simp [w1M, rf_row, hc])
theorem w1_0 (M : rf_Mem) : w1M M 0 = M := rf_ext (fun c j => by
  by_cases hc : c = 1
  · subst hc; simp [w1M, rf_row]
  · simp [w1M, rf_row, hc])
theorem w1_o {M : rf_Mem} {i c : Nat} (h : c ≠ 1) : w1M M i c = M c := gr_q M _ h
theorem w1_in {M : rf_Mem} {i j : Nat} (h : j < i) : w1M M i 1 j = wf0 j := by simp [w1M, rf_row, h]
def l2M (M : rf_Mem) : Nat → rf_Mem
  | 0 => M
  | i + 1 => rf_set (rf_set (rf_set (l2M M i) 3 i (M 3 (16 + i))) 1 i (nI i)) 1 (80 + i) (M 4 (16 + i))
theorem l2_o {M : rf_Mem} {c : Nat} (h1 : c ≠ 1) (h3 : c ≠ 3) : ∀ i, l2M M i c = M c
  | 0 => rfl
  | i + 1 => by rw [l2M, gs_q _ _ _ h1, gs_q _ _ _ h1, gs_q _ _ _ h3, l2_o h1 h3 i]
theorem l2_3 {M : rf_Mem} {j : Nat} : ∀ i, i ≤ j → l2M M i 3 j = M 3 j
  | 0, _ => rfl
  | i + 1, h => by rw [l2M, gs_q _ _ _ (by decide), gs_q _ _ _ (by decide), gs_k _ _ _ (by omega), l2_3 i (by omega)]
theorem l2_3l {M : rf_Mem} {l : Nat} : ∀ i, i ≤ 16 → l < i → l2M M i 3 l = M 3 (16 + l)
  | 0, _, h => absurd h (Nat.not_lt_zero _)
  | i + 1, h, hl => by
    rw [l2M, gs_q _ _ _ (by decide), gs_q _ _ _ (by decide)]
    by_cases e : l = i
    · rw [e, gs_same]
    · rw [gs_k _ _ _ e, l2_3l i (by omega) (by omega)]
theorem l2_1 {M : rf_Mem} {j : Nat} (h : 16 ≤ j) (h2 : j < 80 ∨ 96 ≤ j) : ∀ i, i ≤ 16 → l2M M i 1 j = M 1 j
  | 0, _ => rfl
  | i + 1, hi => by rw [l2M, gs_k _ _ _ (by omega), gs_k _ _ _ (by omega), gs_q _ _ _ (by decide), l2_1 h h2 i (by omega)]
theorem l2_1l {M : rf_Mem} {l : Nat} : ∀ i, i ≤ 16 → l < i → l2M M i 1 l = nI l ∧ l2M M i 1 (80 + l) = M 4 (16 + l)
  | 0, _, h => absurd h (Nat.not_lt_zero _)
  | i + 1, h, hl => by
    rw [l2M, gs_k _ _ _ (show l ≠ 80 + i by omega)]
    by_cases e : l = i
    · rw [e, gs_same, gs_same]; exact ⟨rfl, rfl⟩
    · rw [gs_k _ _ _ e, gs_k _ _ _ (show 80 + l ≠ 80 + i by omega), gs_k _ _ _ (show 80 + l ≠ i by omega), gs_q _ _ _ (show 1 ≠ 3 by decide)]
      exact l2_1l i (by omega) (by omega)
def l3M (M : rf_Mem) : Nat → rf_Mem
  | 0 => M
  | i + 1 => rf_set (rf_set (l3M M i) 5 i (M 5 (8 + i))) 6 i (M 6 (8 + i))
theorem l3_o {M : rf_Mem} {c : Nat} (h1 : c ≠ 5) (h3 : c ≠ 6) : ∀ i, l3M M i c = M c
  | 0 => rfl
  | i + 1 => by rw [l3M, gs_q _ _ _ h3, gs_q _ _ _ h1, l3_o h1 h3 i]
theorem l3_h {M : rf_Mem} {j : Nat} : ∀ i, i ≤ j → l3M M i 5 j = M 5 j ∧ l3M M i 6 j = M 6 j
  | 0, _ => ⟨rfl, rfl⟩
  | i + 1, h => by
    rw [l3M, gs_q _ _ _ (show 5 ≠ 6 by decide), gs_k _ _ _ (show j ≠ i by omega), gs_k _ _ _ (show j ≠ i by omega), gs_q _ _ _ (show 6 ≠ 5 by decide)]
    exact l3_h i (by omega)
theorem l3_l {M : rf_Mem} {l : Nat} : ∀ i, i ≤ 8 → l < i → l3M M i 5 l = M 5 (8 + l) ∧ l3M M i 6 l = M 6 (8 + l)
  | 0, _, h => absurd h (Nat.not_lt_zero _)
  | i + 1, h, hl => by
    rw [l3M, gs_q _ _ _ (show 5 ≠ 6 by decide)]
    by_cases e : l = i
    · rw [e, gs_same, gs_same]; exact ⟨rfl, rfl⟩
    · rw [gs_k _ _ _ e, gs_k _ _ _ e, gs_q _ _ _ (show 6 ≠ 5 by decide)]; exact l3_l i (by omega) (by omega)
def g1M (M : rf_Mem) (na nb : Nat) : rf_Mem := rf_set (rf_set (rf_set M 7 0 (nI na)) 7 1 (nI nb)) 0 7 (M 0 8)
def g2M (M : rf_Mem) (na nb : Nat) : rf_Mem := rf_set (w1M (g1M M na nb) 1500) 1 1335 (M 1 1335)
def g3M (M : rf_Mem) (na nb : Nat) : rf_Mem := rf_set (l2M (g2M M na nb) 16) 1 1332 (nI na)
def g4M (M : rf_Mem) (na nb : Nat) : rf_Mem := rf_set (rf_set (rf_set (rf_set (l3M (g3M M na nb) 8) 0 17 (nI 0)) 0 24 (nI 0)) 2 0 (nI 0)) 2 1 (nI 0)
theorem g1_7 {M : rf_Mem} {na nb : Nat} : g1M M na nb 7 0 = nI na ∧ g1M M na nb 7 1 = nI nb := by
  unfold g1M
  rw [gs_q _ _ _ (show 7 ≠ 0 by decide), gs_k _ _ _ (show 0 ≠ 1 by decide), gs_same, gs_same]
  exact ⟨rfl, rfl⟩
theorem g2_o {M : rf_Mem} {na nb c : Nat} (h : c ≠ 1) : g2M M na nb c = g1M M na nb c := by unfold g2M; rw [gs_q _ _ _ h, w1_o h]
theorem g3_o {M : rf_Mem} {na nb c : Nat} (h : c ≠ 1) (h3 : c ≠ 3) : g3M M na nb c = g1M M na nb c := by unfold g3M; rw [gs_q _ _ _ h, l2_o h h3, g2_o h]
theorem g4_v {M : rf_Mem} {na nb : Nat} : (∀ c, 8 ≤ c → g4M M na nb c = M c) ∧ (∀ j, j ≠ 7 → j ≠ 17 → j ≠ 24 → g4M M na nb 0 j = M 0 j) ∧ (g4M M na nb 0 7 = M 0 8 ∧ g4M M na nb 0 17 = nI 0 ∧ g4M M na nb 0 24 = nI 0) ∧ (g4M M na nb 7 0 = nI na ∧ g4M M na nb 7 1 = nI nb) ∧ (∀ l, l < 16 → g4M M na nb 3 l = M 3 (16 + l)) ∧ (∀ r, r < 8 → g4M M na nb 5 r = M 5 (8 + r) ∧ g4M M na nb 6 r = M 6 (8 + r)) ∧ (g4M M na nb 2 0 = nI 0 ∧ g4M M na nb 2 1 = nI 0) := by
  refine ⟨fun c hc => ?_, fun j h1 h2 h3 => ?_, ⟨?_, ?_, ?_⟩, ⟨?_, ?_⟩, fun l hl => ?_, fun r hr => ?_, ?_, ?_⟩
  · unfold g4M; rw [gs_q _ _ _ (by omega), gs_q _ _ _ (by omega), gs_q _ _ _ (by omega), gs_q _ _ _ (by omega), l3_o (by omega) (by omega), g3_o (by omega) (by omega)]; unfold g1M; rw [gs_q _ _ _ (by omega), gs_q _ _ _ (by omega), gs_q _ _ _ (by omega)]
  · unfold g4M; rw [gs_q _ _ _ (by decide), gs_q _ _ _ (by decide), gs_k _ _ _ h3, gs_k _ _ _ h2, l3_o (by decide) (by decide), g3_o (by decide) (by decide)]; unfold g1M; rw [gs_k _ _ _ h1, gs_q _ _ _ (by decide), gs_q _ _ _ (by decide)]
  · unfold g4M; rw [gs_q _ _ _ (by decide), gs_q _ _ _ (by decide), gs_k _ _ _ (by decide), gs_k _ _ _ (by decide), l3_o (by decide) (by decide), g3_o (by decide) (by decide)]; unfold g1M; rw [gs_same]
  · unfold g4M; rw [gs_q _ _ _ (by decide), gs_q _ _ _ (by decide), gs_k _ _ _ (by decide), gs_same]
  · unfold g4M; rw [gs_q _ _ _ (by decide), gs_q _ _ _ (by decide), gs_same]
  · unfold g4M; rw [gs_q _ _ _ (by decide), gs_q _ _ _ (by decide), gs_q _ _ _ (by decide), gs_q _ _ _ (by decide), l3_o (by decide) (by decide), g3_o (by decide) (by decide)]; exact g1_7.1
  · unfold g4M; rw [gs_q _ _ _ (by decide), gs_q _ _ _ (by decide), gs_q _ _ _ (by decide), gs_q _ _ _ (by decide), l3_o (by decide) (by decide), g3_o (by decide) (by decide)]; exact g1_7.2
  · unfold g4M; rw [gs_q _ _ _ (by decide), gs_q _ _ _ (by decide), gs_q _ _ _ (by decide), gs_q _ _ _ (by decide), l3_o (by decide) (by decide)]; unfold g3M; rw [gs_q _ _ _ (by decide), l2_3l 16 (by decide) hl, g2_o (by decide)]; unfold g1M; rw [gs_q _ _ _ (by decide), gs_q _ _ _ (by decide), gs_q _ _ _ (by decide)]
  · unfold g4M; rw [gs_q _ _ _ (show 5 ≠ 2 by decide), gs_q _ _ _ (show 5 ≠ 2 by decide), gs_q _ _ _ (show 5 ≠ 0 by decide), gs_q _ _ _ (show 5 ≠ 0 by decide), gs_q _ _ _ (show 6 ≠ 2 by decide), gs_q _ _ _ (show 6 ≠ 2 by decide), gs_q _ _ _ (show 6 ≠ 0 by decide), gs_q _ _ _ (show 6 ≠ 0 by decide), (l3_l 8 (by decide) hr).1, (l3_l 8 (by decide) hr).2, g3_o (by decide) (by decide), g3_o (by decide) (by decide)]; unfold g1M; rw [gs_q _ _ _ (show 5 ≠ 0 by decide), gs_q _ _ _ (show 5 ≠ 7 by decide), gs_q _ _ _ (show 5 ≠ 7 by decide), gs_q _ _ _ (show 6 ≠ 0 by decide), gs_q _ _ _ (show 6 ≠ 7 by decide), gs_q _ _ _ (show 6 ≠ 7 by decide)]; exact ⟨rfl, rfl⟩
  · unfold g4M; rw [gs_k _ _ _ (by decide), gs_same]
  · unfold g4M; rw [gs_same]
theorem g4_1 {M : rf_Mem} {na nb : Nat} : (∀ p, p < 16 → g4M M na nb 1 p = nI p ∧ g4M M na nb 1 (80 + p) = M 4 (16 + p)) ∧ (∀ j, 16 ≤ j → j < 1500 → (j < 80 ∨ 96 ≤ j) → j ≠ 1332 → j ≠ 1335 → g4M M na nb 1 j = wf0 j) ∧ g4M M na nb 1 1332 = nI na ∧ g4M M na nb 1 1335 = M 1 1335 := by
  have e : ∀ j, g4M M na nb 1 j = g3M M na nb 1 j := fun j => by unfold g4M; rw [gs_q _ _ _ (by decide), gs_q _ _ _ (by decide), gs_q _ _ _ (by decide), gs_q _ _ _ (by decide), l3_o (by decide) (by decide)]
  refine ⟨fun p hp => ?_, fun j h1 h2 h3 h4 h5 => ?_, ?_, ?_⟩
  · rw [e, e]; unfold g3M; rw [gs_k _ _ _ (by omega), gs_k _ _ _ (by omega), (l2_1l 16 (by decide) hp).1, (l2_1l 16 (by decide) hp).2, g2_o (by decide)]; unfold g1M; rw [gs_q _ _ _ (by decide), gs_q _ _ _ (by decide), gs_q _ _ _ (by decide)]; exact ⟨rfl, rfl⟩
  · rw [e]; unfold g3M; rw [gs_k _ _ _ h4, l2_1 h1 h3 16 (by decide)]; unfold g2M; rw [gs_k _ _ _ h5, w1_in h2]
  · rw [e]; unfold g3M; rw [gs_same]
  · rw [e]; unfold g3M; rw [gs_k _ _ _ (by decide), l2_1 (by decide) (by decide) 16 (by decide)]; unfold g2M; rw [gs_same]
theorem rg_i {i lo hi : Nat} (h1 : i < 2 ^ 31) (h2 : lo < 2 ^ 31) (h3 : hi < 2 ^ 31) : (!decide (nI i < nI lo) && !decide (nI hi < nI i)) = decide (lo ≤ i ∧ i ≤ hi) := by
  rw [decide_eq_decide.mpr (nI_ltI h1 h2), decide_eq_decide.mpr (nI_ltI h3 h1)]
  by_cases a : i < lo
  · rw [decide_eq_true a, decide_eq_false (show ¬ (lo ≤ i ∧ i ≤ hi) by omega)]; rfl
  · by_cases b : hi < i
    · rw [decide_eq_true b, decide_eq_false (show ¬ (lo ≤ i ∧ i ≤ hi) by omega), Bool.not_true, Bool.and_false]
    · rw [decide_eq_false a, decide_eq_false b, decide_eq_true (show lo ≤ i ∧ i ≤ hi by omega)]; rfl
set_option maxRecDepth 20000 in
set_option maxHeartbeats 2000000 in
theorem e7_libTail {M : rf_Mem} {na nb : Nat} (h2 : M 7 2 = nI na) (h3 : M 7 3 = nI nb) (hna : na ≤ 16) (hnb : nb ≤ 8) : Ev LayM mX7_library 81 [some (.ref 0), none, none] [] M (some (.int (nI na))) (g4M M na nb) := by
  have n16 : na < 2 ^ 31 := by omega
  have key3 := ev_for (Lay := LayM) (y := mX7_library) (pc := 255) (r := (some (.int (nI na)))) (M' := (g4M M na nb)) 8 (fun i => [some (.ref 0), some (.int (M 1 1335)), some (.int (nI i))]) (fun i => l3M (g3M M na nb) i) ?hx3 ?hs3
  case hx3 =>
    refine ev_iload_n dX7_library_255 rfl ?_
    refine ev_bipush (v := (nI 8)) dX7_library_256 (by decide) ?_
    refine ev_icmp_ge 297 dX7_library_258 (by decide) (fun hc258 => ?_) (fun hc258 => False.elim (lp_x rfl (by omega) hc258))
    refine ev_aload_n dX7_library_297 rfl ?_
    refine ev_iconst (v := (nI 0)) dX7_library_298 (by decide) ?_
    refine ev_put dX7_library_299 pX7_131 (by first | assumption | rfl) (by rfl) (rfl) (rfl) ?_
    refine ev_aload_n dX7_library_302 rfl ?_
    refine ev_iconst (v := (nI 0)) dX7_library_303 (by decide) ?_
    refine ev_put dX7_library_304 pX7_134 (by first | assumption | rfl) (by rfl) (rfl) (rfl) ?_
    refine ev_aload_n dX7_library_307 rfl ?_
    refine ev_getR dX7_library_308 fX7_13 (by first | assumption | rfl) (by rfl) ?_
    refine ev_iconst (v := (nI 0)) dX7_library_311 (by decide) ?_
    refine ev_iconst (v := (nI 0)) dX7_library_312 (by decide) ?_
    refine ev_zastE _ dX7_library_313 (by first | with_reducible rfl | with_reducible exact nI_add _ _ | with_reducible exact ix3 _ _ _ | with_reducible exact ix_k _ _ _ | with_reducible exact ix_xk _ _ _ _) (by first | assumption | rfl) ⟨by omega, by decide⟩ ?_
    refine ev_aload_n dX7_library_314 rfl ?_
    refine ev_getR dX7_library_315 fX7_13 (by first | assumption | rfl) (by rfl) ?_
    refine ev_iconst (v := (nI 1)) dX7_library_318 (by decide) ?_
    refine ev_iconst (v := (nI 0)) dX7_library_319 (by decide) ?_
    refine ev_zastE _ dX7_library_320 (by first | with_reducible rfl | with_reducible exact nI_add _ _ | with_reducible exact ix3 _ _ _ | with_reducible exact ix_k _ _ _ | with_reducible exact ix_xk _ _ _ _) (by first | assumption | rfl) ⟨by omega, by decide⟩ ?_
    refine ev_aload_n dX7_library_321 rfl ?_
    refine ev_getR dX7_library_322 fX7_29 (by first | assumption | rfl) (by rfl) ?_
    refine ev_iconst (v := (nI 0)) dX7_library_325 (by decide) ?_
    refine ev_ialdE _ dX7_library_326 (by first | with_reducible rfl | with_reducible exact nI_add _ _ | with_reducible exact ix3 _ _ _ | with_reducible exact ix_k _ _ _ | with_reducible exact ix_xk _ _ _ _) (by first | assumption | rfl) ⟨by omega, by decide⟩ ?_
    rw [gs_q _ _ _ (show 7 ≠ 2 by decide), gs_q _ _ _ (show 7 ≠ 2 by decide), gs_q _ _ _ (show 7 ≠ 0 by decide), gs_q _ _ _ (show 7 ≠ 0 by decide), l3_o (by decide) (by decide), g3_o (by decide) (by decide), g1_7.1]
    exact ev_iretE dX7_library_327 rfl rfl (by first | rfl | simp_all) (rfl)
  case hs3 =>
    intro i hi ih
    refine ev_iload_n dX7_library_255 rfl ?_
    refine ev_bipush (v := (nI 8)) dX7_library_256 (by decide) ?_
    refine ev_icmp_ge 297 dX7_library_258 (by decide) (fun hc258 => False.elim (nI_ge hi (by omega) hc258)) (fun hc258 => ?_)
    refine ev_aload_n dX7_library_261 rfl ?_
    refine ev_getR dX7_library_262 fX7_23 (by first | assumption | rfl) (by rfl) ?_
    refine ev_iload_n dX7_library_265 rfl ?_
    refine ev_aload_n dX7_library_266 rfl ?_
    refine ev_getR dX7_library_267 fX7_23 (by first | assumption | rfl) (by rfl) ?_
    refine ev_bipush (v := (nI 8)) dX7_library_270 (by decide) ?_
    refine ev_iload_n dX7_library_272 rfl ?_
    refine ev_iadd dX7_library_273 ?_
    refine ev_ialdE (8 + i) dX7_library_274 (nI_add _ _) (by first | assumption | rfl) ⟨by omega, by decide⟩ ?_
    rw [(l3_h i (show i ≤ 8 + i by omega)).1]
    refine ev_iastE (i) dX7_library_275 (rfl) (by first | assumption | rfl) ⟨by omega, by decide⟩ ?_
    refine ev_aload_n dX7_library_276 rfl ?_
    refine ev_getR dX7_library_277 fX7_26 (by first | assumption | rfl) (by rfl) ?_
    refine ev_iload_n dX7_library_280 rfl ?_
    refine ev_aload_n dX7_library_281 rfl ?_
    refine ev_getR dX7_library_282 fX7_26 (by first | assumption | rfl) (by rfl) ?_
    refine ev_bipush (v := (nI 8)) dX7_library_285 (by decide) ?_
    refine ev_iload_n dX7_library_287 rfl ?_
    refine ev_iadd dX7_library_288 ?_
    refine ev_ialdE (8 + i) dX7_library_289 (nI_add _ _) (by first | assumption | rfl) ⟨by omega, by decide⟩ ?_
    rw [gs_q _ _ _ (show 6 ≠ 5 by decide), (l3_h i (show i ≤ 8 + i by omega)).2]
    refine ev_iastE (i) dX7_library_290 (rfl) (by first | assumption | rfl) ⟨by omega, by decide⟩ ?_
    refine ev_iinc (v := (nI 1)) dX7_library_291 rfl (by decide) (by decide) rfl ?_
    refine ev_goto 255 dX7_library_294 (by decide) ?_
    exact ev_st ih (by simp [nI_add]) rfl rfl
  have key2 := ev_for (Lay := LayM) (y := mX7_library) (pc := 187) (r := (some (.int (nI na)))) (M' := (g4M M na nb)) 16 (fun i => [some (.ref 0), some (.int (M 1 1335)), some (.int (nI i))]) (fun i => l2M (g2M M na nb) i) ?hx2 ?hs2
  case hx2 =>
    refine ev_iload_n dX7_library_187 rfl ?_
    refine ev_bipush (v := (nI 16)) dX7_library_188 (by decide) ?_
    refine ev_icmp_ge 239 dX7_library_190 (by decide) (fun hc190 => ?_) (fun hc190 => False.elim (lp_x rfl (by omega) hc190))
    refine ev_aload_n dX7_library_239 rfl ?_
    refine ev_getR dX7_library_240 fX7_7 (by first | assumption | rfl) (by rfl) ?_
    refine ev_sipush (v := (nI 1332)) dX7_library_243 (by decide) ?_
    refine ev_aload_n dX7_library_246 rfl ?_
    refine ev_getR dX7_library_247 fX7_29 (by first | assumption | rfl) (by rfl) ?_
    refine ev_iconst (v := (nI 0)) dX7_library_250 (by decide) ?_
    refine ev_ialdE _ dX7_library_251 (by first | with_reducible rfl | with_reducible exact nI_add _ _ | with_reducible exact ix3 _ _ _ | with_reducible exact ix_k _ _ _ | with_reducible exact ix_xk _ _ _ _) (by first | assumption | rfl) ⟨by omega, by decide⟩ ?_
    rw [l2_o (by decide) (by decide), g2_o (by decide), g1_7.1]
    refine ev_iastE (1332) dX7_library_252 (rfl) (by first | assumption | rfl) ⟨by decide, by decide⟩ ?_
    refine ev_iconst (v := (nI 0)) dX7_library_253 (by decide) ?_
    refine ev_istore_k 2 dX7_library_254 rfl (by decide) rfl ?_
    exact ev_st (key3 0 (Nat.zero_le _)) rfl rfl rfl
  case hs2 =>
    intro i hi ih
    refine ev_iload_n dX7_library_187 rfl ?_
    refine ev_bipush (v := (nI 16)) dX7_library_188 (by decide) ?_
    refine ev_icmp_ge 239 dX7_library_190 (by decide) (fun hc190 => False.elim (nI_ge hi (by omega) hc190)) (fun hc190 => ?_)
    refine ev_aload_n dX7_library_193 rfl ?_
    refine ev_getR dX7_library_194 fX7_17 (by first | assumption | rfl) (by rfl) ?_
    refine ev_iload_n dX7_library_197 rfl ?_
    refine ev_aload_n dX7_library_198 rfl ?_
    refine ev_getR dX7_library_199 fX7_17 (by first | assumption | rfl) (by rfl) ?_
    refine ev_bipush (v := (nI 16)) dX7_library_202 (by decide) ?_
    refine ev_iload_n dX7_library_204 rfl ?_
    refine ev_iadd dX7_library_205 ?_
    refine ev_ialdE (16 + i) dX7_library_206 (nI_add _ _) (by first | assumption | rfl) ⟨by omega, by decide⟩ ?_
    rw [l2_3 i (show i ≤ 16 + i by omega)]
    refine ev_iastE (i) dX7_library_207 (rfl) (by first | assumption | rfl) ⟨by omega, by decide⟩ ?_
    refine ev_aload_n dX7_library_208 rfl ?_
    refine ev_getR dX7_library_209 fX7_7 (by first | assumption | rfl) (by rfl) ?_
    refine ev_iload_n dX7_library_212 rfl ?_
    refine ev_iload_n dX7_library_213 rfl ?_
    refine ev_iastE (i) dX7_library_214 (rfl) (by first | assumption | rfl) ⟨by omega, by decide⟩ ?_
    refine ev_aload_n dX7_library_215 rfl ?_
    refine ev_getR dX7_library_216 fX7_7 (by first | assumption | rfl) (by rfl) ?_
    refine ev_bipush (v := (nI 80)) dX7_library_219 (by decide) ?_
    refine ev_iload_n dX7_library_221 rfl ?_
    refine ev_iadd dX7_library_222 ?_
    refine ev_aload_n dX7_library_223 rfl ?_
    refine ev_getR dX7_library_224 fX7_20 (by first | assumption | rfl) (by rfl) ?_
    refine ev_bipush (v := (nI 16)) dX7_library_227 (by decide) ?_
    refine ev_iload_n dX7_library_229 rfl ?_
    refine ev_iadd dX7_library_230 ?_
    refine ev_ialdE (16 + i) dX7_library_231 (nI_add _ _) (by first | assumption | rfl) ⟨by omega, by decide⟩ ?_
    rw [gs_q _ _ _ (show 4 ≠ 1 by decide), gs_q _ _ _ (show 4 ≠ 3 by decide), l2_o (by decide) (by decide)]
    refine ev_iastE (80 + i) dX7_library_232 (nI_add _ _) (by first | assumption | rfl) ⟨by omega, by decide⟩ ?_
    refine ev_iinc (v := (nI 1)) dX7_library_233 rfl (by decide) (by decide) rfl ?_
    refine ev_goto 187 dX7_library_236 (by decide) ?_
    exact ev_st ih (by simp [nI_add]) rfl rfl
  have key1 := ev_for (Lay := LayM) (y := mX7_library) (pc := 124) (r := (some (.int (nI na)))) (M' := (g4M M na nb)) 1500 (fun i => [some (.ref 0), some (.int (M 1 1335)), some (.int (nI i))]) (fun i => w1M (g1M M na nb) i) ?hx1 ?hs1
  case hx1 =>
    refine ev_iload_n dX7_library_124 rfl ?_
    refine ev_sipush (v := (nI 1500)) dX7_library_125 (by decide) ?_
    refine ev_icmp_ge 176 dX7_library_128 (by decide) (fun hc128 => ?_) (fun hc128 => False.elim (lp_x rfl (by omega) hc128))
    refine ev_aload_n dX7_library_176 rfl ?_
    refine ev_getR dX7_library_177 fX7_7 (by first | assumption | rfl) (by rfl) ?_
    refine ev_sipush (v := (nI 1335)) dX7_library_180 (by decide) ?_
    refine ev_iload_n dX7_library_183 rfl ?_
    refine ev_iastE (1335) dX7_library_184 (rfl) (by first | assumption | rfl) ⟨by decide, by decide⟩ ?_
    refine ev_iconst (v := (nI 0)) dX7_library_185 (by decide) ?_
    refine ev_istore_k 2 dX7_library_186 rfl (by decide) rfl ?_
    exact ev_st (key2 0 (Nat.zero_le _)) rfl rfl rfl
  case hs1 =>
    intro i hi ih
    by_cases c1 : 160 ≤ i ∧ i ≤ 415
    · have hv : -1 = wf0 i := by rw [wf0, if_pos (by omega)]
      refine ev_iload_n dX7_library_124 rfl ?_
      refine ev_sipush (v := (nI 1500)) dX7_library_125 (by decide) ?_
      refine ev_icmp_ge 176 dX7_library_128 (by decide) (fun hc128 => False.elim (nI_ge hi (by omega) hc128)) (fun hc128 => ?_)
      refine ev_aload_n dX7_library_131 rfl ?_
      refine ev_getR dX7_library_132 fX7_7 (by first | assumption | rfl) (by rfl) ?_
      refine ev_iload_n dX7_library_135 rfl ?_
      refine ev_iload_n dX7_library_136 rfl ?_
      refine ev_i2l dX7_library_137 ?_
      refine ev_ldc2 dX7_library_138 nX7_123 ?_
      refine ev_ldc2 dX7_library_141 nX7_125 ?_
      refine ev_cS3 dX7_library_144 ceX7_in kX7_59 (rm_le rfl rfl) (Nat.le_of_ble_eq_true rfl) (Nat.le_of_ble_eq_true rfl) (e7_in) ?_
      rw [in_c _ (nI 160) (nI 415) (by decide) (by decide), rg_i (by omega) (by decide) (by decide), decide_eq_true c1]
      refine ev_if_ne 164 dX7_library_147 (by decide) (fun hc147 => ?_) (fun hc147 => False.elim (absurd hc147 (by decide)))
      refine ev_iconst (v := (-1)) dX7_library_164 (by decide) ?_
      refine ev_goto 169 dX7_library_165 (by decide) ?_
      refine ev_iastE (i) dX7_library_169 (rfl) (by first | assumption | rfl) ⟨by omega, by decide⟩ ?_
      refine ev_iinc (v := (nI 1)) dX7_library_170 rfl (by decide) (by decide) rfl ?_
      refine ev_goto 124 dX7_library_173 (by decide) ?_
      exact ev_st ih (by simp [nI_add]) rfl (w1_s _ _ hv)
    · by_cases c2 : 120 ≤ i ∧ i ≤ 159
      · have hv : -1 = wf0 i := by rw [wf0, if_pos (by omega)]
        refine ev_iload_n dX7_library_124 rfl ?_
        refine ev_sipush (v := (nI 1500)) dX7_library_125 (by decide) ?_
        refine ev_icmp_ge 176 dX7_library_128 (by decide) (fun hc128 => False.elim (nI_ge hi (by omega) hc128)) (fun hc128 => ?_)
        refine ev_aload_n dX7_library_131 rfl ?_
        refine ev_getR dX7_library_132 fX7_7 (by first | assumption | rfl) (by rfl) ?_
        refine ev_iload_n dX7_library_135 rfl ?_
        refine ev_iload_n dX7_library_136 rfl ?_
        refine ev_i2l dX7_library_137 ?_
        refine ev_ldc2 dX7_library_138 nX7_123 ?_
        refine ev_ldc2 dX7_library_141 nX7_125 ?_
        refine ev_cS3 dX7_library_144 ceX7_in kX7_59 (rm_le rfl rfl) (Nat.le_of_ble_eq_true rfl) (Nat.le_of_ble_eq_true rfl) (e7_in) ?_
        rw [in_c _ (nI 160) (nI 415) (by decide) (by decide), rg_i (by omega) (by decide) (by decide), decide_eq_false c1]
        refine ev_if_ne 164 dX7_library_147 (by decide) (fun hc147 => False.elim (hc147 rfl)) (fun hc147 => ?_)
        refine ev_iload_n dX7_library_150 rfl ?_
        refine ev_i2l dX7_library_151 ?_
        refine ev_ldc2 dX7_library_152 nX7_127 ?_
        refine ev_ldc2 dX7_library_155 nX7_129 ?_
        refine ev_cS3 dX7_library_158 ceX7_in kX7_59 (rm_le rfl rfl) (Nat.le_of_ble_eq_true rfl) (Nat.le_of_ble_eq_true rfl) (e7_in) ?_
        rw [in_c _ (nI 120) (nI 159) (by decide) (by decide), rg_i (by omega) (by decide) (by decide), decide_eq_true c2]
        refine ev_if_eq 168 dX7_library_161 (by decide) (fun hc161 => False.elim (absurd hc161 (by decide))) (fun hc161 => ?_)
        refine ev_iconst (v := (-1)) dX7_library_164 (by decide) ?_
        refine ev_goto 169 dX7_library_165 (by decide) ?_
        refine ev_iastE (i) dX7_library_169 (rfl) (by first | assumption | rfl) ⟨by omega, by decide⟩ ?_
        refine ev_iinc (v := (nI 1)) dX7_library_170 rfl (by decide) (by decide) rfl ?_
        refine ev_goto 124 dX7_library_173 (by decide) ?_
        exact ev_st ih (by simp [nI_add]) rfl (w1_s _ _ hv)
      · have hv : nI 0 = wf0 i := by rw [wf0, if_neg (by omega)]
        refine ev_iload_n dX7_library_124 rfl ?_
        refine ev_sipush (v := (nI 1500)) dX7_library_125 (by decide) ?_
        refine ev_icmp_ge 176 dX7_library_128 (by decide) (fun hc128 => False.elim (nI_ge hi (by omega) hc128)) (fun hc128 => ?_)
        refine ev_aload_n dX7_library_131 rfl ?_
        refine ev_getR dX7_library_132 fX7_7 (by first | assumption | rfl) (by rfl) ?_
        refine ev_iload_n dX7_library_135 rfl ?_
        refine ev_iload_n dX7_library_136 rfl ?_
        refine ev_i2l dX7_library_137 ?_
        refine ev_ldc2 dX7_library_138 nX7_123 ?_
        refine ev_ldc2 dX7_library_141 nX7_125 ?_
        refine ev_cS3 dX7_library_144 ceX7_in kX7_59 (rm_le rfl rfl) (Nat.le_of_ble_eq_true rfl) (Nat.le_of_ble_eq_true rfl) (e7_in) ?_
        rw [in_c _ (nI 160) (nI 415) (by decide) (by decide), rg_i (by omega) (by decide) (by decide), decide_eq_false c1]
        refine ev_if_ne 164 dX7_library_147 (by decide) (fun hc147 => False.elim (hc147 rfl)) (fun hc147 => ?_)
        refine ev_iload_n dX7_library_150 rfl ?_
        refine ev_i2l dX7_library_151 ?_
        refine ev_ldc2 dX7_library_152 nX7_127 ?_
        refine ev_ldc2 dX7_library_155 nX7_129 ?_
        refine ev_cS3 dX7_library_158 ceX7_in kX7_59 (rm_le rfl rfl) (Nat.le_of_ble_eq_true rfl) (Nat.le_of_ble_eq_true rfl) (e7_in) ?_
        rw [in_c _ (nI 120) (nI 159) (by decide) (by decide), rg_i (by omega) (by decide) (by decide), decide_eq_false c2]
        refine ev_if_eq 168 dX7_library_161 (by decide) (fun hc161 => ?_) (fun hc161 => False.elim (hc161 rfl))
        refine ev_iconst (v := (nI 0)) dX7_library_168 (by decide) ?_
        refine ev_iastE (i) dX7_library_169 (rfl) (by first | assumption | rfl) ⟨by omega, by decide⟩ ?_
        refine ev_iinc (v := (nI 1)) dX7_library_170 rfl (by decide) (by decide) rfl ?_
        refine ev_goto 124 dX7_library_173 (by decide) ?_
        exact ev_st ih (by simp [nI_add]) rfl (w1_s _ _ hv)
  refine ev_aload_n dX7_library_81 rfl ?_
  refine ev_getR dX7_library_82 fX7_29 (by first | assumption | rfl) (by rfl) ?_
  refine ev_iconst (v := (nI 0)) dX7_library_85 (by decide) ?_
  refine ev_aload_n dX7_library_86 rfl ?_
  refine ev_getR dX7_library_87 fX7_29 (by first | assumption | rfl) (by rfl) ?_
  refine ev_iconst (v := (nI 2)) dX7_library_90 (by decide) ?_
  refine ev_ialdE (2) dX7_library_91 (rfl) (by first | assumption | rfl) ⟨by decide, by decide⟩ ?_
  rw [h2]
  refine ev_iastE (0) dX7_library_92 (rfl) (by first | assumption | rfl) ⟨by decide, by decide⟩ ?_
  refine ev_aload_n dX7_library_93 rfl ?_
  refine ev_getR dX7_library_94 fX7_29 (by first | assumption | rfl) (by rfl) ?_
  refine ev_iconst (v := (nI 1)) dX7_library_97 (by decide) ?_
  refine ev_aload_n dX7_library_98 rfl ?_
  refine ev_getR dX7_library_99 fX7_29 (by first | assumption | rfl) (by rfl) ?_
  refine ev_iconst (v := (nI 3)) dX7_library_102 (by decide) ?_
  refine ev_ialdE (3) dX7_library_103 (rfl) (by first | assumption | rfl) ⟨by decide, by decide⟩ ?_
  rw [gs_k _ _ _ (show 3 ≠ 0 by decide), h3]
  refine ev_iastE (1) dX7_library_104 (rfl) (by first | assumption | rfl) ⟨by decide, by decide⟩ ?_
  refine ev_aload_n dX7_library_105 rfl ?_
  refine ev_aload_n dX7_library_106 rfl ?_
  refine ev_getI dX7_library_107 fX7_117 (by first | assumption | rfl) (by rfl) ?_
  rw [gs_q _ _ _ (show 0 ≠ 7 by decide), gs_q _ _ _ (show 0 ≠ 7 by decide)]
  refine ev_put dX7_library_110 pX7_32 (by first | assumption | rfl) (by rfl) (rfl) (rfl) ?_
  refine ev_aload_n dX7_library_113 rfl ?_
  refine ev_getR dX7_library_114 fX7_7 (by first | assumption | rfl) (by rfl) ?_
  refine ev_sipush (v := (nI 1335)) dX7_library_117 (by decide) ?_
  refine ev_ialdE (1335) dX7_library_120 (rfl) (by first | assumption | rfl) ⟨by decide, by decide⟩ ?_
  rw [gs_q _ _ _ (show 1 ≠ 0 by decide), gs_q _ _ _ (show 1 ≠ 7 by decide), gs_q _ _ _ (show 1 ≠ 7 by decide)]
  refine ev_istore_k 1 dX7_library_121 rfl (by decide) rfl ?_
  refine ev_iconst (v := (nI 0)) dX7_library_122 (by decide) ?_
  refine ev_istore_k 2 dX7_library_123 rfl (by decide) rfl ?_
  exact ev_st (key1 0 (Nat.zero_le _)) rfl rfl (w1_0 _).symm
