/-! the reference's fewest; op: toKnow -/
set_option maxRecDepth 20000 in
set_option maxHeartbeats 2000000 in
theorem e7_isTrue {G : rf_Mem} {r l : Nat} (hr : r < 8) (hl : l < 16) : Ev LayM mX7_isTrue 0 (rf_ent 3 [.ref 0, .int (nI r), .int (nI l)]) [] G (some (.int (b2i (decide (G 1 (160 + 16 * r + l) = 0))))) G := by
  refine ev_aload_n dX7_isTrue_0 rfl ?_
  refine ev_getR dX7_isTrue_1 fX7_7 (by first | assumption | rfl) (by rfl) ?_
  refine ev_sipush (v := (nI 160)) dX7_isTrue_4 (by decide) ?_
  refine ev_bipush (v := (nI 16)) dX7_isTrue_7 (by decide) ?_
  refine ev_iload_n dX7_isTrue_9 rfl ?_
  refine ev_imul dX7_isTrue_10 ?_
  refine ev_iadd dX7_isTrue_11 ?_
  refine ev_iload_n dX7_isTrue_12 rfl ?_
  refine ev_iadd dX7_isTrue_13 ?_
  refine ev_ialdE _ dX7_isTrue_14 (by first | with_reducible rfl | with_reducible exact nI_add _ _ | with_reducible exact ix3 _ _ _ | with_reducible exact ix_k _ _ _ | with_reducible exact ix_xk _ _ _ _) (by first | assumption | rfl) ⟨by omega, by decide⟩ ?_
  refine ev_if_ne 22 dX7_isTrue_15 (by decide) (fun hc15 => ?_) (fun hc15 => ?_)
  · refine ev_iconst (v := (nI 0)) dX7_isTrue_22 (by decide) ?_
    exact ev_iretE dX7_isTrue_23 rfl rfl (by simp [b2i, *]) (rfl)
  · refine ev_iconst (v := (nI 1)) dX7_isTrue_18 (by decide) ?_
    refine ev_goto 23 dX7_isTrue_19 (by decide) ?_
    exact ev_iretE dX7_isTrue_23 rfl rfl (by simp [b2i, *]) (rfl)
set_option maxRecDepth 20000 in
set_option maxHeartbeats 2000000 in
theorem e7_les0 {G : rf_Mem} {b v : Int32} : Ev LayM mX7_lesser 0 (rf_ent 3 [.int b, .int v, .int (nI 0)]) [] G (some (.int b)) G := by
  refine ev_iload_n dX7_lesser_0 rfl ?_
  refine ev_if_eq 17 dX7_lesser_1 (by decide) (fun _ => ?_) (fun hc1 => False.elim (absurd hc1 (by decide)))
  refine ev_iload_n dX7_lesser_17 rfl ?_
  exact ev_iretE dX7_lesser_18 rfl rfl (by first | rfl | simp_all) (rfl)
set_option maxRecDepth 20000 in
set_option maxHeartbeats 2000000 in
theorem e7_lesM {G : rf_Mem} {v : Int32} : Ev LayM mX7_lesser 0 (rf_ent 3 [.int (-1), .int v, .int (nI 1)]) [] G (some (.int v)) G := by
  refine ev_iload_n dX7_lesser_0 rfl ?_
  refine ev_if_eq 17 dX7_lesser_1 (by decide) (fun hc1 => False.elim (absurd hc1 (by decide))) (fun _ => ?_)
  refine ev_iload_n dX7_lesser_4 rfl ?_
  refine ev_if_lt 13 dX7_lesser_5 (by decide) (fun _ => ?_) (fun hc5 => False.elim (absurd hc5 (by decide)))
  refine ev_iload_n dX7_lesser_13 rfl ?_
  refine ev_goto 18 dX7_lesser_14 (by decide) ?_
  exact ev_iretE dX7_lesser_18 rfl rfl (by first | rfl | simp_all) (rfl)
set_option maxRecDepth 20000 in
set_option maxHeartbeats 2000000 in
theorem e7_les1 {G : rf_Mem} {b v : Nat} (hb9 : b ≤ 99) (hv : v < 99) : Ev LayM mX7_lesser 0 (rf_ent 3 [.int (tI b), .int (nI v), .int (nI 1)]) [] G (some (.int (tI (min b v)))) G := by
  have hn := tI_neg hb9
  by_cases e : b = 99
  · have em : min b v = v := by omega
    rw [em, tI_n hv]
    refine ev_iload_n dX7_lesser_0 rfl ?_
    refine ev_if_eq 17 dX7_lesser_1 (by decide) (fun hc1 => False.elim (absurd hc1 (by decide))) (fun _ => ?_)
    refine ev_iload_n dX7_lesser_4 rfl ?_
    refine ev_if_lt 13 dX7_lesser_5 (by decide) (fun hc5 => ?_) (fun hc5 => False.elim (hc5 (hn.1.mpr e)))
    refine ev_iload_n dX7_lesser_13 rfl ?_
    refine ev_goto 18 dX7_lesser_14 (by decide) ?_
    exact ev_iretE dX7_lesser_18 rfl rfl (by first | rfl | simp_all) (rfl)
  have et : tI b = nI b := tI_n (by omega)
  rw [et]
  by_cases e2 : v < b
  · have em : min b v = v := by omega
    rw [em, tI_n hv]
    refine ev_iload_n dX7_lesser_0 rfl ?_
    refine ev_if_eq 17 dX7_lesser_1 (by decide) (fun hc1 => False.elim (absurd hc1 (by decide))) (fun _ => ?_)
    refine ev_iload_n dX7_lesser_4 rfl ?_
    refine ev_if_lt 13 dX7_lesser_5 (by decide) (fun hc5 => False.elim (nI_pos (by omega) hc5)) (fun hc5 => ?_)
    refine ev_iload_n dX7_lesser_8 rfl ?_
    refine ev_iload_n dX7_lesser_9 rfl ?_
    refine ev_icmp_ge 17 dX7_lesser_10 (by decide) (fun hc10 => False.elim (nI_ge e2 (by omega) hc10)) (fun hc10 => ?_)
    refine ev_iload_n dX7_lesser_13 rfl ?_
    refine ev_goto 18 dX7_lesser_14 (by decide) ?_
    exact ev_iretE dX7_lesser_18 rfl rfl (by first | rfl | simp_all) (rfl)
  · have em : min b v = b := by omega
    rw [em, et]
    refine ev_iload_n dX7_lesser_0 rfl ?_
    refine ev_if_eq 17 dX7_lesser_1 (by decide) (fun hc1 => False.elim (absurd hc1 (by decide))) (fun _ => ?_)
    refine ev_iload_n dX7_lesser_4 rfl ?_
    refine ev_if_lt 13 dX7_lesser_5 (by decide) (fun hc5 => False.elim (nI_pos (by omega) hc5)) (fun hc5 => ?_)
    refine ev_iload_n dX7_lesser_8 rfl ?_
    refine ev_iload_n dX7_lesser_9 rfl ?_
    refine ev_icmp_ge 17 dX7_lesser_10 (by decide) (fun hc10 => ?_) (fun hc10 => False.elim (hc10 (nI_le (by omega) (by omega))))
    refine ev_iload_n dX7_lesser_17 rfl ?_
    exact ev_iretE dX7_lesser_18 rfl rfl (by first | rfl | simp_all) (rfl)
set_option maxRecDepth 20000 in
set_option maxHeartbeats 2000000 in
theorem fw_C {G : rf_Mem} {nr l R m h t : Nat} {rm : Int32} (m2 : G 7 1 = nI nr) (l6 : nr ≤ 8) (hl : l < 16) (hR31 : R < 2 ^ 31) (ht : t ≤ 40) (hme : fb_ct (lkP (fun r => decide (G 1 (160 + 16 * r + l) = 0)) R) nr = m) : Ev LayM mX7_fewest 208 [some (.ref 0), some (.int (nI l)), some (.int (nI R)), some (.int (nI m)), some (.int (nI h)), some (.int (nI t)), some (.int (rm)), some (.int (tI (mnN (G 5) (fun r => decide (G 1 (160 + 16 * r + l) = 0)) R nr t rm (0)))), some (.int (nI (0))), none, none] [] G (some (.int (tI (mnN (G 5) (fun r => decide (G 1 (160 + 16 * r + l) = 0)) R nr t rm (nr))))) G := by
  have hm8 : m ≤ nr := by rw [← hme]; exact fb_ct_le _ _
  have key := ev_for (Lay := LayM) (y := mX7_fewest) (pc := 208) (r := (some (.int (tI (mnN (G 5) (fun r => decide (G 1 (160 + 16 * r + l) = 0)) R nr t rm (nr)))))) (M' := G) nr (fun i => [some (.ref 0), some (.int (nI l)), some (.int (nI R)), some (.int (nI m)), some (.int (nI h)), some (.int (nI t)), some (.int (rm)), some (.int (tI (mnN (G 5) (fun r => decide (G 1 (160 + 16 * r + l) = 0)) R nr t rm (i)))), some (.int (nI (i))), none, none]) (fun _ => G) ?hx ?hs
  case hx =>
    refine ev_iload dX7_fewest_208 rfl ?_
    refine ev_aload_n dX7_fewest_210 rfl ?_
    refine ev_getR dX7_fewest_211 fX7_29 (by first | assumption | rfl) (by rfl) ?_
    refine ev_iconst (v := (nI 1)) dX7_fewest_214 (by decide) ?_
    refine ev_ialdE _ dX7_fewest_215 (by first | with_reducible rfl | with_reducible exact nI_add _ _ | with_reducible exact ix3 _ _ _ | with_reducible exact ix_k _ _ _ | with_reducible exact ix_xk _ _ _ _) (by first | assumption | rfl) ⟨by omega, by decide⟩ ?_
    refine ev_icmp_ge 340 dX7_fewest_216 (by decide) (fun hc216 => ?_) (fun hc216 => False.elim (lp_x m2 (by omega) hc216))
    refine ev_iload dX7_fewest_340 rfl ?_
    exact ev_iretE dX7_fewest_342 rfl rfl (by first | rfl | simp_all) (rfl)
  case hs =>
    intro i hi ih
    have hb9 := mnN_le (G 5) (fun r => decide (G 1 (160 + 16 * r + l) = 0)) R nr t rm l6 i
    have es : mnN (G 5) (fun r => decide (G 1 (160 + 16 * r + l) = 0)) R nr t rm (i + 1) = min (min (mnN (G 5) (fun r => decide (G 1 (160 + 16 * r + l) = 0)) R nr t rm (i)) (c1F (G 5) t m i)) (c4F (G 5) (fun r => decide (G 1 (160 + 16 * r + l) = 0)) R t m i) := by rw [← hme]; rfl
    obtain ⟨b, hbe⟩ : ∃ b, mnN (G 5) (fun r => decide (G 1 (160 + 16 * r + l) = 0)) R nr t rm (i) = b := ⟨_, rfl⟩
    simp only [es] at ih
    simp only [hbe] at ih hb9 ⊢
    clear es hbe
    have hc9 : c1F (G 5) t m i = 1 ∨ c1F (G 5) t m i = 99 := by unfold c1F; split <;> simp
    obtain ⟨b1, hb1⟩ : ∃ b1, min b (c1F (G 5) t m i) = b1 := ⟨_, rfl⟩
    rw [hb1] at ih
    have hb19 : b1 ≤ 99 := by omega
    have h252 : Ev LayM mX7_fewest 252 [some (.ref 0), some (.int (nI l)), some (.int (nI R)), some (.int (nI m)), some (.int (nI h)), some (.int (nI t)), some (.int (rm)), some (.int (tI b1)), some (.int (nI (i))), none, none] [] G (some (.int (tI (mnN (G 5) (fun r => decide (G 1 (160 + 16 * r + l) = 0)) R nr t rm (nr))))) G := by
      cases hK : (fun r => decide (G 1 (160 + 16 * r + l) = 0)) i with
      | true =>
        have ec : decide (G 5 i = nI 4) = true → c4F (G 5) (fun r => decide (G 1 (160 + 16 * r + l) = 0)) R t m i = m := fun z => by unfold c4F vlT; rw [z, hK]; rfl
        have ec2 : decide (G 5 i = nI 4) = false → c4F (G 5) (fun r => decide (G 1 (160 + 16 * r + l) = 0)) R t m i = 99 := fun z => by unfold c4F; rw [z]; rfl
        by_cases h4 : G 5 i = nI 4
        · refine ev_aload_n dX7_fewest_252 rfl ?_
          refine ev_getR dX7_fewest_253 fX7_23 (by first | assumption | rfl) (by rfl) ?_
          refine ev_iload dX7_fewest_256 rfl ?_
          refine ev_ialdE _ dX7_fewest_258 (by first | with_reducible rfl | with_reducible exact nI_add _ _ | with_reducible exact ix3 _ _ _ | with_reducible exact ix_k _ _ _ | with_reducible exact ix_xk _ _ _ _) (by first | assumption | rfl) ⟨by omega, by decide⟩ ?_
          refine ev_iconst (v := (nI 4)) dX7_fewest_259 (by decide) ?_
          refine ev_icmp_ne 334 dX7_fewest_260 (by decide) (fun hc260 => False.elim (hc260 h4)) (fun hc260 => ?_)
          refine ev_aload_n dX7_fewest_263 rfl ?_
          refine ev_iload dX7_fewest_264 rfl ?_
          refine ev_iload_n dX7_fewest_266 rfl ?_
          refine ev_cV2 dX7_fewest_267 ceX7_isTrue kX7_238 (rm_le rfl rfl) (Nat.le_of_ble_eq_true rfl) (Nat.le_of_ble_eq_true rfl) (e7_isTrue (by omega) hl) (by first | assumption | rfl) ?_
          rw [(show decide (G 1 (160 + 16 * i + l) = 0) = true from hK)]
          refine ev_istore dX7_fewest_270 (by decide) rfl ?_
          refine ev_iload_n dX7_fewest_272 rfl ?_
          refine ev_iload dX7_fewest_273 rfl ?_
          refine ev_if_ne 291 dX7_fewest_275 (by decide) (fun hc275 => ?_) (fun hc275 => False.elim (absurd hc275 (by decide)))
          refine ev_iconst (v := (nI 0)) dX7_fewest_291 (by decide) ?_
          refine ev_cS1 dX7_fewest_292 ceX7_one kX7_141 (rm_le rfl rfl) (Nat.le_of_ble_eq_true rfl) (Nat.le_of_ble_eq_true rfl) (e7_one0) ?_
          refine ev_isub dX7_fewest_295 ?_
          refine ev_istore dX7_fewest_296 (by decide) rfl ?_
          refine ev_iload dX7_fewest_298 rfl ?_
          refine ev_iload dX7_fewest_300 rfl ?_
          refine ev_if_eq 310 dX7_fewest_302 (by decide) (fun hc302 => False.elim (absurd hc302 (by decide))) (fun hc302 => ?_)
          refine ev_iload dX7_fewest_305 rfl ?_
          refine ev_goto 314 dX7_fewest_307 (by decide) ?_
          refine ev_iload dX7_fewest_314 rfl ?_
          refine ev_if_ne 324 dX7_fewest_316 (by decide) (fun hc316 => ?_) (fun hc316 => False.elim (absurd hc316 (by decide)))
          refine ev_iconst (v := (nI 1)) dX7_fewest_324 (by decide) ?_
          refine ev_goto 329 dX7_fewest_325 (by decide) ?_
          rw [pk_sub (Nat.zero_le _), Nat.sub_zero]
          refine ev_cS3 dX7_fewest_329 ceX7_lesser kX7_241 (rm_le rfl rfl) (Nat.le_of_ble_eq_true rfl) (Nat.le_of_ble_eq_true rfl) (e7_les1 hb19 (by omega)) ?_
          refine ev_istore dX7_fewest_332 (by decide) rfl ?_
          refine ev_iinc (v := (nI 1)) dX7_fewest_334 rfl (by decide) (by decide) rfl ?_
          refine ev_goto 208 dX7_fewest_337 (by decide) ?_
          exact ev_stw ih ⟨rfl, rfl, rfl, rfl, rfl, rfl, rfl, by rw [ec (decide_eq_true h4)], by simp [nI_add], trivial⟩ rfl rfl
        · refine ev_aload_n dX7_fewest_252 rfl ?_
          refine ev_getR dX7_fewest_253 fX7_23 (by first | assumption | rfl) (by rfl) ?_
          refine ev_iload dX7_fewest_256 rfl ?_
          refine ev_ialdE _ dX7_fewest_258 (by first | with_reducible rfl | with_reducible exact nI_add _ _ | with_reducible exact ix3 _ _ _ | with_reducible exact ix_k _ _ _ | with_reducible exact ix_xk _ _ _ _) (by first | assumption | rfl) ⟨by omega, by decide⟩ ?_
          refine ev_iconst (v := (nI 4)) dX7_fewest_259 (by decide) ?_
          refine ev_icmp_ne 334 dX7_fewest_260 (by decide) (fun hc260 => ?_) (fun hc260 => False.elim (h4 hc260))
          refine ev_iinc (v := (nI 1)) dX7_fewest_334 rfl (by decide) (by decide) rfl ?_
          refine ev_goto 208 dX7_fewest_337 (by decide) ?_
          exact ev_stw ih ⟨rfl, rfl, rfl, rfl, rfl, rfl, rfl, by rw [ec2 (decide_eq_false h4), show min b1 99 = b1 by omega], by simp [nI_add], trivial⟩ rfl rfl
      | false =>
        rcases Nat.eq_zero_or_pos t with ht0 | ht0
        · have hc321z : nI t ≤ 0 := by rw [ht0]; decide
          have ec : decide (G 5 i = nI 4) = true → c4F (G 5) (fun r => decide (G 1 (160 + 16 * r + l) = 0)) R t m i = 99 := fun z => by unfold c4F; rw [z, hK, ht0]; rfl
          have ec2 : decide (G 5 i = nI 4) = false → c4F (G 5) (fun r => decide (G 1 (160 + 16 * r + l) = 0)) R t m i = 99 := fun z => by unfold c4F; rw [z]; rfl
          cases hRb : hb R i with
          | true =>
            by_cases h4 : G 5 i = nI 4
            · refine ev_aload_n dX7_fewest_252 rfl ?_
              refine ev_getR dX7_fewest_253 fX7_23 (by first | assumption | rfl) (by rfl) ?_
              refine ev_iload dX7_fewest_256 rfl ?_
              refine ev_ialdE _ dX7_fewest_258 (by first | with_reducible rfl | with_reducible exact nI_add _ _ | with_reducible exact ix3 _ _ _ | with_reducible exact ix_k _ _ _ | with_reducible exact ix_xk _ _ _ _) (by first | assumption | rfl) ⟨by omega, by decide⟩ ?_
              refine ev_iconst (v := (nI 4)) dX7_fewest_259 (by decide) ?_
              refine ev_icmp_ne 334 dX7_fewest_260 (by decide) (fun hc260 => False.elim (hc260 h4)) (fun hc260 => ?_)
              refine ev_aload_n dX7_fewest_263 rfl ?_
              refine ev_iload dX7_fewest_264 rfl ?_
              refine ev_iload_n dX7_fewest_266 rfl ?_
              refine ev_cV2 dX7_fewest_267 ceX7_isTrue kX7_238 (rm_le rfl rfl) (Nat.le_of_ble_eq_true rfl) (Nat.le_of_ble_eq_true rfl) (e7_isTrue (by omega) hl) (by first | assumption | rfl) ?_
              rw [(show decide (G 1 (160 + 16 * i + l) = 0) = false from hK)]
              refine ev_istore dX7_fewest_270 (by decide) rfl ?_
              refine ev_iload_n dX7_fewest_272 rfl ?_
              refine ev_iload dX7_fewest_273 rfl ?_
              refine ev_if_ne 291 dX7_fewest_275 (by decide) (fun hc275 => False.elim (absurd hc275 (by decide))) (fun hc275 => ?_)
              refine ev_iload_n dX7_fewest_278 rfl ?_
              refine ev_iload dX7_fewest_279 rfl ?_
              refine ev_cS2 dX7_fewest_281 ceX7_has kX7_220 (rm_le rfl rfl) (Nat.le_of_ble_eq_true rfl) (Nat.le_of_ble_eq_true rfl) (e7_hasN hR31 (by omega)) ?_
              rw [hRb]
              refine ev_if_eq 291 dX7_fewest_284 (by decide) (fun hc284 => False.elim (absurd hc284 (by decide))) (fun hc284 => ?_)
              refine ev_iconst (v := (nI 1)) dX7_fewest_287 (by decide) ?_
              refine ev_goto 292 dX7_fewest_288 (by decide) ?_
              refine ev_cS1 dX7_fewest_292 ceX7_one kX7_141 (rm_le rfl rfl) (Nat.le_of_ble_eq_true rfl) (Nat.le_of_ble_eq_true rfl) (e7_one1) ?_
              refine ev_isub dX7_fewest_295 ?_
              refine ev_istore dX7_fewest_296 (by decide) rfl ?_
              refine ev_iload dX7_fewest_298 rfl ?_
              refine ev_iload dX7_fewest_300 rfl ?_
              refine ev_if_eq 310 dX7_fewest_302 (by decide) (fun hc302 => ?_) (fun hc302 => False.elim (absurd hc302 (by decide)))
              refine ev_iconst (v := (nI 1)) dX7_fewest_310 (by decide) ?_
              refine ev_iload dX7_fewest_311 rfl ?_
              refine ev_iadd dX7_fewest_313 ?_
              refine ev_iload dX7_fewest_314 rfl ?_
              refine ev_if_ne 324 dX7_fewest_316 (by decide) (fun hc316 => False.elim (absurd hc316 (by decide))) (fun hc316 => ?_)
              refine ev_iload dX7_fewest_319 rfl ?_
              refine ev_if_le 328 dX7_fewest_321 (by decide) (fun hc321 => ?_) (fun hc321 => False.elim (hc321 hc321z))
              refine ev_iconst (v := (nI 0)) dX7_fewest_328 (by decide) ?_
              refine ev_cS3 dX7_fewest_329 ceX7_lesser kX7_241 (rm_le rfl rfl) (Nat.le_of_ble_eq_true rfl) (Nat.le_of_ble_eq_true rfl) (e7_les0) ?_
              refine ev_istore dX7_fewest_332 (by decide) rfl ?_
              refine ev_iinc (v := (nI 1)) dX7_fewest_334 rfl (by decide) (by decide) rfl ?_
              refine ev_goto 208 dX7_fewest_337 (by decide) ?_
              exact ev_stw ih ⟨rfl, rfl, rfl, rfl, rfl, rfl, rfl, by rw [ec (decide_eq_true h4), show min b1 99 = b1 by omega], by simp [nI_add], trivial⟩ rfl rfl
            · refine ev_aload_n dX7_fewest_252 rfl ?_
              refine ev_getR dX7_fewest_253 fX7_23 (by first | assumption | rfl) (by rfl) ?_
              refine ev_iload dX7_fewest_256 rfl ?_
              refine ev_ialdE _ dX7_fewest_258 (by first | with_reducible rfl | with_reducible exact nI_add _ _ | with_reducible exact ix3 _ _ _ | with_reducible exact ix_k _ _ _ | with_reducible exact ix_xk _ _ _ _) (by first | assumption | rfl) ⟨by omega, by decide⟩ ?_
              refine ev_iconst (v := (nI 4)) dX7_fewest_259 (by decide) ?_
              refine ev_icmp_ne 334 dX7_fewest_260 (by decide) (fun hc260 => ?_) (fun hc260 => False.elim (h4 hc260))
              refine ev_iinc (v := (nI 1)) dX7_fewest_334 rfl (by decide) (by decide) rfl ?_
              refine ev_goto 208 dX7_fewest_337 (by decide) ?_
              exact ev_stw ih ⟨rfl, rfl, rfl, rfl, rfl, rfl, rfl, by rw [ec2 (decide_eq_false h4), show min b1 99 = b1 by omega], by simp [nI_add], trivial⟩ rfl rfl
          | false =>
            by_cases h4 : G 5 i = nI 4
            · refine ev_aload_n dX7_fewest_252 rfl ?_
              refine ev_getR dX7_fewest_253 fX7_23 (by first | assumption | rfl) (by rfl) ?_
              refine ev_iload dX7_fewest_256 rfl ?_
              refine ev_ialdE _ dX7_fewest_258 (by first | with_reducible rfl | with_reducible exact nI_add _ _ | with_reducible exact ix3 _ _ _ | with_reducible exact ix_k _ _ _ | with_reducible exact ix_xk _ _ _ _) (by first | assumption | rfl) ⟨by omega, by decide⟩ ?_
              refine ev_iconst (v := (nI 4)) dX7_fewest_259 (by decide) ?_
              refine ev_icmp_ne 334 dX7_fewest_260 (by decide) (fun hc260 => False.elim (hc260 h4)) (fun hc260 => ?_)
              refine ev_aload_n dX7_fewest_263 rfl ?_
              refine ev_iload dX7_fewest_264 rfl ?_
              refine ev_iload_n dX7_fewest_266 rfl ?_
              refine ev_cV2 dX7_fewest_267 ceX7_isTrue kX7_238 (rm_le rfl rfl) (Nat.le_of_ble_eq_true rfl) (Nat.le_of_ble_eq_true rfl) (e7_isTrue (by omega) hl) (by first | assumption | rfl) ?_
              rw [(show decide (G 1 (160 + 16 * i + l) = 0) = false from hK)]
              refine ev_istore dX7_fewest_270 (by decide) rfl ?_
              refine ev_iload_n dX7_fewest_272 rfl ?_
              refine ev_iload dX7_fewest_273 rfl ?_
              refine ev_if_ne 291 dX7_fewest_275 (by decide) (fun hc275 => False.elim (absurd hc275 (by decide))) (fun hc275 => ?_)
              refine ev_iload_n dX7_fewest_278 rfl ?_
              refine ev_iload dX7_fewest_279 rfl ?_
              refine ev_cS2 dX7_fewest_281 ceX7_has kX7_220 (rm_le rfl rfl) (Nat.le_of_ble_eq_true rfl) (Nat.le_of_ble_eq_true rfl) (e7_hasN hR31 (by omega)) ?_
              rw [hRb]
              refine ev_if_eq 291 dX7_fewest_284 (by decide) (fun hc284 => ?_) (fun hc284 => False.elim (absurd hc284 (by decide)))
              refine ev_iconst (v := (nI 0)) dX7_fewest_291 (by decide) ?_
              refine ev_cS1 dX7_fewest_292 ceX7_one kX7_141 (rm_le rfl rfl) (Nat.le_of_ble_eq_true rfl) (Nat.le_of_ble_eq_true rfl) (e7_one0) ?_
              refine ev_isub dX7_fewest_295 ?_
              refine ev_istore dX7_fewest_296 (by decide) rfl ?_
              refine ev_iload dX7_fewest_298 rfl ?_
              refine ev_iload dX7_fewest_300 rfl ?_
              refine ev_if_eq 310 dX7_fewest_302 (by decide) (fun hc302 => ?_) (fun hc302 => False.elim (absurd hc302 (by decide)))
              refine ev_iconst (v := (nI 1)) dX7_fewest_310 (by decide) ?_
              refine ev_iload dX7_fewest_311 rfl ?_
              refine ev_iadd dX7_fewest_313 ?_
              refine ev_iload dX7_fewest_314 rfl ?_
              refine ev_if_ne 324 dX7_fewest_316 (by decide) (fun hc316 => False.elim (absurd hc316 (by decide))) (fun hc316 => ?_)
              refine ev_iload dX7_fewest_319 rfl ?_
              refine ev_if_le 328 dX7_fewest_321 (by decide) (fun hc321 => ?_) (fun hc321 => False.elim (hc321 hc321z))
              refine ev_iconst (v := (nI 0)) dX7_fewest_328 (by decide) ?_
              refine ev_cS3 dX7_fewest_329 ceX7_lesser kX7_241 (rm_le rfl rfl) (Nat.le_of_ble_eq_true rfl) (Nat.le_of_ble_eq_true rfl) (e7_les0) ?_
              refine ev_istore dX7_fewest_332 (by decide) rfl ?_
              refine ev_iinc (v := (nI 1)) dX7_fewest_334 rfl (by decide) (by decide) rfl ?_
              refine ev_goto 208 dX7_fewest_337 (by decide) ?_
              exact ev_stw ih ⟨rfl, rfl, rfl, rfl, rfl, rfl, rfl, by rw [ec (decide_eq_true h4), show min b1 99 = b1 by omega], by simp [nI_add], trivial⟩ rfl rfl
            · refine ev_aload_n dX7_fewest_252 rfl ?_
              refine ev_getR dX7_fewest_253 fX7_23 (by first | assumption | rfl) (by rfl) ?_
              refine ev_iload dX7_fewest_256 rfl ?_
              refine ev_ialdE _ dX7_fewest_258 (by first | with_reducible rfl | with_reducible exact nI_add _ _ | with_reducible exact ix3 _ _ _ | with_reducible exact ix_k _ _ _ | with_reducible exact ix_xk _ _ _ _) (by first | assumption | rfl) ⟨by omega, by decide⟩ ?_
              refine ev_iconst (v := (nI 4)) dX7_fewest_259 (by decide) ?_
              refine ev_icmp_ne 334 dX7_fewest_260 (by decide) (fun hc260 => ?_) (fun hc260 => False.elim (h4 hc260))
              refine ev_iinc (v := (nI 1)) dX7_fewest_334 rfl (by decide) (by decide) rfl ?_
              refine ev_goto 208 dX7_fewest_337 (by decide) ?_
              exact ev_stw ih ⟨rfl, rfl, rfl, rfl, rfl, rfl, rfl, by rw [ec2 (decide_eq_false h4), show min b1 99 = b1 by omega], by simp [nI_add], trivial⟩ rfl rfl
        · have hc321z : ¬ nI t ≤ 0 := fun z => by have : t ≤ 0 := (nI_leI (by omega) (by decide)).mp z; omega
          have ec2 : decide (G 5 i = nI 4) = false → c4F (G 5) (fun r => decide (G 1 (160 + 16 * r + l) = 0)) R t m i = 99 := fun z => by unfold c4F; rw [z]; rfl
          cases hRb : hb R i with
          | true =>
            have hm1 : 1 ≤ m := by rw [← hme]; exact fb_ct_pos.mpr ⟨i, hi, by unfold lkP; rw [hRb, hK]; rfl⟩
            have ec : decide (G 5 i = nI 4) = true → c4F (G 5) (fun r => decide (G 1 (160 + 16 * r + l) = 0)) R t m i = m := fun z => by unfold c4F vlT; rw [z, hK, hRb, decide_eq_true ht0]; rfl
            by_cases h4 : G 5 i = nI 4
            · refine ev_aload_n dX7_fewest_252 rfl ?_
              refine ev_getR dX7_fewest_253 fX7_23 (by first | assumption | rfl) (by rfl) ?_
              refine ev_iload dX7_fewest_256 rfl ?_
              refine ev_ialdE _ dX7_fewest_258 (by first | with_reducible rfl | with_reducible exact nI_add _ _ | with_reducible exact ix3 _ _ _ | with_reducible exact ix_k _ _ _ | with_reducible exact ix_xk _ _ _ _) (by first | assumption | rfl) ⟨by omega, by decide⟩ ?_
              refine ev_iconst (v := (nI 4)) dX7_fewest_259 (by decide) ?_
              refine ev_icmp_ne 334 dX7_fewest_260 (by decide) (fun hc260 => False.elim (hc260 h4)) (fun hc260 => ?_)
              refine ev_aload_n dX7_fewest_263 rfl ?_
              refine ev_iload dX7_fewest_264 rfl ?_
              refine ev_iload_n dX7_fewest_266 rfl ?_
              refine ev_cV2 dX7_fewest_267 ceX7_isTrue kX7_238 (rm_le rfl rfl) (Nat.le_of_ble_eq_true rfl) (Nat.le_of_ble_eq_true rfl) (e7_isTrue (by omega) hl) (by first | assumption | rfl) ?_
              rw [(show decide (G 1 (160 + 16 * i + l) = 0) = false from hK)]
              refine ev_istore dX7_fewest_270 (by decide) rfl ?_
              refine ev_iload_n dX7_fewest_272 rfl ?_
              refine ev_iload dX7_fewest_273 rfl ?_
              refine ev_if_ne 291 dX7_fewest_275 (by decide) (fun hc275 => False.elim (absurd hc275 (by decide))) (fun hc275 => ?_)
              refine ev_iload_n dX7_fewest_278 rfl ?_
              refine ev_iload dX7_fewest_279 rfl ?_
              refine ev_cS2 dX7_fewest_281 ceX7_has kX7_220 (rm_le rfl rfl) (Nat.le_of_ble_eq_true rfl) (Nat.le_of_ble_eq_true rfl) (e7_hasN hR31 (by omega)) ?_
              rw [hRb]
              refine ev_if_eq 291 dX7_fewest_284 (by decide) (fun hc284 => False.elim (absurd hc284 (by decide))) (fun hc284 => ?_)
              refine ev_iconst (v := (nI 1)) dX7_fewest_287 (by decide) ?_
              refine ev_goto 292 dX7_fewest_288 (by decide) ?_
              refine ev_cS1 dX7_fewest_292 ceX7_one kX7_141 (rm_le rfl rfl) (Nat.le_of_ble_eq_true rfl) (Nat.le_of_ble_eq_true rfl) (e7_one1) ?_
              refine ev_isub dX7_fewest_295 ?_
              refine ev_istore dX7_fewest_296 (by decide) rfl ?_
              refine ev_iload dX7_fewest_298 rfl ?_
              refine ev_iload dX7_fewest_300 rfl ?_
              refine ev_if_eq 310 dX7_fewest_302 (by decide) (fun hc302 => ?_) (fun hc302 => False.elim (absurd hc302 (by decide)))
              refine ev_iconst (v := (nI 1)) dX7_fewest_310 (by decide) ?_
              refine ev_iload dX7_fewest_311 rfl ?_
              refine ev_iadd dX7_fewest_313 ?_
              refine ev_iload dX7_fewest_314 rfl ?_
              refine ev_if_ne 324 dX7_fewest_316 (by decide) (fun hc316 => False.elim (absurd hc316 (by decide))) (fun hc316 => ?_)
              refine ev_iload dX7_fewest_319 rfl ?_
              refine ev_if_le 328 dX7_fewest_321 (by decide) (fun hc321 => False.elim (hc321z hc321)) (fun hc321 => ?_)
              refine ev_iconst (v := (nI 1)) dX7_fewest_324 (by decide) ?_
              refine ev_goto 329 dX7_fewest_325 (by decide) ?_
              rw [pk_sub hm1, nI_add, show 1 + (m - 1) = m by omega]
              refine ev_cS3 dX7_fewest_329 ceX7_lesser kX7_241 (rm_le rfl rfl) (Nat.le_of_ble_eq_true rfl) (Nat.le_of_ble_eq_true rfl) (e7_les1 hb19 (by omega)) ?_
              refine ev_istore dX7_fewest_332 (by decide) rfl ?_
              refine ev_iinc (v := (nI 1)) dX7_fewest_334 rfl (by decide) (by decide) rfl ?_
              refine ev_goto 208 dX7_fewest_337 (by decide) ?_
              exact ev_stw ih ⟨rfl, rfl, rfl, rfl, rfl, rfl, rfl, by rw [ec (decide_eq_true h4)], by simp [nI_add], trivial⟩ rfl rfl
            · refine ev_aload_n dX7_fewest_252 rfl ?_
              refine ev_getR dX7_fewest_253 fX7_23 (by first | assumption | rfl) (by rfl) ?_
              refine ev_iload dX7_fewest_256 rfl ?_
              refine ev_ialdE _ dX7_fewest_258 (by first | with_reducible rfl | with_reducible exact nI_add _ _ | with_reducible exact ix3 _ _ _ | with_reducible exact ix_k _ _ _ | with_reducible exact ix_xk _ _ _ _) (by first | assumption | rfl) ⟨by omega, by decide⟩ ?_
              refine ev_iconst (v := (nI 4)) dX7_fewest_259 (by decide) ?_
              refine ev_icmp_ne 334 dX7_fewest_260 (by decide) (fun hc260 => ?_) (fun hc260 => False.elim (h4 hc260))
              refine ev_iinc (v := (nI 1)) dX7_fewest_334 rfl (by decide) (by decide) rfl ?_
              refine ev_goto 208 dX7_fewest_337 (by decide) ?_
              exact ev_stw ih ⟨rfl, rfl, rfl, rfl, rfl, rfl, rfl, by rw [ec2 (decide_eq_false h4), show min b1 99 = b1 by omega], by simp [nI_add], trivial⟩ rfl rfl
          | false =>
            have ec : decide (G 5 i = nI 4) = true → c4F (G 5) (fun r => decide (G 1 (160 + 16 * r + l) = 0)) R t m i = m + 1 := fun z => by unfold c4F vlT; rw [z, hK, hRb, decide_eq_true ht0]; rfl
            by_cases h4 : G 5 i = nI 4
            · refine ev_aload_n dX7_fewest_252 rfl ?_
              refine ev_getR dX7_fewest_253 fX7_23 (by first | assumption | rfl) (by rfl) ?_
              refine ev_iload dX7_fewest_256 rfl ?_
              refine ev_ialdE _ dX7_fewest_258 (by first | with_reducible rfl | with_reducible exact nI_add _ _ | with_reducible exact ix3 _ _ _ | with_reducible exact ix_k _ _ _ | with_reducible exact ix_xk _ _ _ _) (by first | assumption | rfl) ⟨by omega, by decide⟩ ?_
              refine ev_iconst (v := (nI 4)) dX7_fewest_259 (by decide) ?_
              refine ev_icmp_ne 334 dX7_fewest_260 (by decide) (fun hc260 => False.elim (hc260 h4)) (fun hc260 => ?_)
              refine ev_aload_n dX7_fewest_263 rfl ?_
              refine ev_iload dX7_fewest_264 rfl ?_
              refine ev_iload_n dX7_fewest_266 rfl ?_
              refine ev_cV2 dX7_fewest_267 ceX7_isTrue kX7_238 (rm_le rfl rfl) (Nat.le_of_ble_eq_true rfl) (Nat.le_of_ble_eq_true rfl) (e7_isTrue (by omega) hl) (by first | assumption | rfl) ?_
              rw [(show decide (G 1 (160 + 16 * i + l) = 0) = false from hK)]
              refine ev_istore dX7_fewest_270 (by decide) rfl ?_
              refine ev_iload_n dX7_fewest_272 rfl ?_
              refine ev_iload dX7_fewest_273 rfl ?_
              refine ev_if_ne 291 dX7_fewest_275 (by decide) (fun hc275 => False.elim (absurd hc275 (by decide))) (fun hc275 => ?_)
              refine ev_iload_n dX7_fewest_278 rfl ?_
              refine ev_iload dX7_fewest_279 rfl ?_
              refine ev_cS2 dX7_fewest_281 ceX7_has kX7_220 (rm_le rfl rfl) (Nat.le_of_ble_eq_true rfl) (Nat.le_of_ble_eq_true rfl) (e7_hasN hR31 (by omega)) ?_
              rw [hRb]
              refine ev_if_eq 291 dX7_fewest_284 (by decide) (fun hc284 => ?_) (fun hc284 => False.elim (absurd hc284 (by decide)))
              refine ev_iconst (v := (nI 0)) dX7_fewest_291 (by decide) ?_
              refine ev_cS1 dX7_fewest_292 ceX7_one kX7_141 (rm_le rfl rfl) (Nat.le_of_ble_eq_true rfl) (Nat.le_of_ble_eq_true rfl) (e7_one0) ?_
              refine ev_isub dX7_fewest_295 ?_
              refine ev_istore dX7_fewest_296 (by decide) rfl ?_
              refine ev_iload dX7_fewest_298 rfl ?_
              refine ev_iload dX7_fewest_300 rfl ?_
              refine ev_if_eq 310 dX7_fewest_302 (by decide) (fun hc302 => ?_) (fun hc302 => False.elim (absurd hc302 (by decide)))
              refine ev_iconst (v := (nI 1)) dX7_fewest_310 (by decide) ?_
              refine ev_iload dX7_fewest_311 rfl ?_
              refine ev_iadd dX7_fewest_313 ?_
              refine ev_iload dX7_fewest_314 rfl ?_
              refine ev_if_ne 324 dX7_fewest_316 (by decide) (fun hc316 => False.elim (absurd hc316 (by decide))) (fun hc316 => ?_)
              refine ev_iload dX7_fewest_319 rfl ?_
              refine ev_if_le 328 dX7_fewest_321 (by decide) (fun hc321 => False.elim (hc321z hc321)) (fun hc321 => ?_)
              refine ev_iconst (v := (nI 1)) dX7_fewest_324 (by decide) ?_
              refine ev_goto 329 dX7_fewest_325 (by decide) ?_
              rw [pk_sub (Nat.zero_le _), Nat.sub_zero, nI_add]
              refine ev_cS3 dX7_fewest_329 ceX7_lesser kX7_241 (rm_le rfl rfl) (Nat.le_of_ble_eq_true rfl) (Nat.le_of_ble_eq_true rfl) (e7_les1 hb19 (by omega)) ?_
              refine ev_istore dX7_fewest_332 (by decide) rfl ?_
              refine ev_iinc (v := (nI 1)) dX7_fewest_334 rfl (by decide) (by decide) rfl ?_
              refine ev_goto 208 dX7_fewest_337 (by decide) ?_
              exact ev_stw ih ⟨rfl, rfl, rfl, rfl, rfl, rfl, rfl, by rw [ec (decide_eq_true h4), Nat.add_comm m 1], by simp [nI_add], trivial⟩ rfl rfl
            · refine ev_aload_n dX7_fewest_252 rfl ?_
              refine ev_getR dX7_fewest_253 fX7_23 (by first | assumption | rfl) (by rfl) ?_
              refine ev_iload dX7_fewest_256 rfl ?_
              refine ev_ialdE _ dX7_fewest_258 (by first | with_reducible rfl | with_reducible exact nI_add _ _ | with_reducible exact ix3 _ _ _ | with_reducible exact ix_k _ _ _ | with_reducible exact ix_xk _ _ _ _) (by first | assumption | rfl) ⟨by omega, by decide⟩ ?_
              refine ev_iconst (v := (nI 4)) dX7_fewest_259 (by decide) ?_
              refine ev_icmp_ne 334 dX7_fewest_260 (by decide) (fun hc260 => ?_) (fun hc260 => False.elim (h4 hc260))
              refine ev_iinc (v := (nI 1)) dX7_fewest_334 rfl (by decide) (by decide) rfl ?_
              refine ev_goto 208 dX7_fewest_337 (by decide) ?_
              exact ev_stw ih ⟨rfl, rfl, rfl, rfl, rfl, rfl, rfl, by rw [ec2 (decide_eq_false h4), show min b1 99 = b1 by omega], by simp [nI_add], trivial⟩ rfl rfl
    have f99 : ¬ (G 5 i = nI 1 ∧ 0 < t ∧ 0 < m) → min b (c1F (G 5) t m i) = b := fun z => by
      have : c1F (G 5) t m i = 99 := by unfold c1F; rw [if_neg]; simpa [Bool.and_eq_true, and_assoc] using z
      omega
    by_cases hz : G 5 i = nI 1 ∧ 0 < t ∧ 0 < m
    · have f1 : c1F (G 5) t m i = 1 := by unfold c1F; rw [if_pos]; simpa [Bool.and_eq_true, and_assoc] using hz
      refine ev_iload dX7_fewest_208 rfl ?_
      refine ev_aload_n dX7_fewest_210 rfl ?_
      refine ev_getR dX7_fewest_211 fX7_29 (by first | assumption | rfl) (by rfl) ?_
      refine ev_iconst (v := (nI 1)) dX7_fewest_214 (by decide) ?_
      refine ev_ialdE _ dX7_fewest_215 (by first | with_reducible rfl | with_reducible exact nI_add _ _ | with_reducible exact ix3 _ _ _ | with_reducible exact ix_k _ _ _ | with_reducible exact ix_xk _ _ _ _) (by first | assumption | rfl) ⟨by omega, by decide⟩ ?_
      refine ev_icmp_ge 340 dX7_fewest_216 (by decide) (fun hc216 => False.elim (lp_s m2 (by omega) hi hc216)) (fun hc216 => ?_)
      refine ev_iload dX7_fewest_219 rfl ?_
      refine ev_iconst (v := (nI 1)) dX7_fewest_221 (by decide) ?_
      refine ev_aload_n dX7_fewest_222 rfl ?_
      refine ev_getR dX7_fewest_223 fX7_23 (by first | assumption | rfl) (by rfl) ?_
      refine ev_iload dX7_fewest_226 rfl ?_
      refine ev_ialdE _ dX7_fewest_228 (by first | with_reducible rfl | with_reducible exact nI_add _ _ | with_reducible exact ix3 _ _ _ | with_reducible exact ix_k _ _ _ | with_reducible exact ix_xk _ _ _ _) (by first | assumption | rfl) ⟨by omega, by decide⟩ ?_
      refine ev_iconst (v := (nI 1)) dX7_fewest_229 (by decide) ?_
      refine ev_icmp_ne 246 dX7_fewest_230 (by decide) (fun hc230 => False.elim (hc230 hz.1)) (fun hc230 => ?_)
      refine ev_iload dX7_fewest_233 rfl ?_
      refine ev_if_le 246 dX7_fewest_235 (by decide) (fun hc235 => False.elim (by have : t ≤ 0 := (nI_leI (by omega) (by decide)).mp hc235; omega)) (fun hc235 => ?_)
      refine ev_iload_n dX7_fewest_238 rfl ?_
      refine ev_if_le 246 dX7_fewest_239 (by decide) (fun hc239 => False.elim (by have : m ≤ 0 := (nI_leI (by omega) (by decide)).mp hc239; omega)) (fun hc239 => ?_)
      refine ev_iconst (v := (nI 1)) dX7_fewest_242 (by decide) ?_
      refine ev_goto 247 dX7_fewest_243 (by decide) ?_
      refine ev_cS3 dX7_fewest_247 ceX7_lesser kX7_241 (rm_le rfl rfl) (Nat.le_of_ble_eq_true rfl) (Nat.le_of_ble_eq_true rfl) (e7_les1 hb9 (by decide)) ?_
      refine ev_istore dX7_fewest_250 (by decide) rfl ?_
      exact ev_stw h252 ⟨rfl, rfl, rfl, rfl, rfl, rfl, rfl, by rw [← hb1, f1], rfl, trivial⟩ rfl rfl
    · have f2 := (f99 hz).symm.trans hb1
      refine ev_iload dX7_fewest_208 rfl ?_
      refine ev_aload_n dX7_fewest_210 rfl ?_
      refine ev_getR dX7_fewest_211 fX7_29 (by first | assumption | rfl) (by rfl) ?_
      refine ev_iconst (v := (nI 1)) dX7_fewest_214 (by decide) ?_
      refine ev_ialdE _ dX7_fewest_215 (by first | with_reducible rfl | with_reducible exact nI_add _ _ | with_reducible exact ix3 _ _ _ | with_reducible exact ix_k _ _ _ | with_reducible exact ix_xk _ _ _ _) (by first | assumption | rfl) ⟨by omega, by decide⟩ ?_
      refine ev_icmp_ge 340 dX7_fewest_216 (by decide) (fun hc216 => False.elim (lp_s m2 (by omega) hi hc216)) (fun hc216 => ?_)
      refine ev_iload dX7_fewest_219 rfl ?_
      refine ev_iconst (v := (nI 1)) dX7_fewest_221 (by decide) ?_
      refine ev_aload_n dX7_fewest_222 rfl ?_
      refine ev_getR dX7_fewest_223 fX7_23 (by first | assumption | rfl) (by rfl) ?_
      refine ev_iload dX7_fewest_226 rfl ?_
      refine ev_ialdE _ dX7_fewest_228 (by first | with_reducible rfl | with_reducible exact nI_add _ _ | with_reducible exact ix3 _ _ _ | with_reducible exact ix_k _ _ _ | with_reducible exact ix_xk _ _ _ _) (by first | assumption | rfl) ⟨by omega, by decide⟩ ?_
      refine ev_iconst (v := (nI 1)) dX7_fewest_229 (by decide) ?_
      refine ev_icmp_ne 246 dX7_fewest_230 (by decide) (fun hc230 => ?_) (fun hc230 => ?_)
      · refine ev_iconst (v := (nI 0)) dX7_fewest_246 (by decide) ?_
        refine ev_cS3 dX7_fewest_247 ceX7_lesser kX7_241 (rm_le rfl rfl) (Nat.le_of_ble_eq_true rfl) (Nat.le_of_ble_eq_true rfl) (e7_les0) ?_
        refine ev_istore dX7_fewest_250 (by decide) rfl ?_
        exact ev_stw h252 ⟨rfl, rfl, rfl, rfl, rfl, rfl, rfl, by rw [← f2], rfl, trivial⟩ rfl rfl
      · refine ev_iload dX7_fewest_233 rfl ?_
        refine ev_if_le 246 dX7_fewest_235 (by decide) (fun hc235 => ?_) (fun hc235 => ?_)
        · refine ev_iconst (v := (nI 0)) dX7_fewest_246 (by decide) ?_
          refine ev_cS3 dX7_fewest_247 ceX7_lesser kX7_241 (rm_le rfl rfl) (Nat.le_of_ble_eq_true rfl) (Nat.le_of_ble_eq_true rfl) (e7_les0) ?_
          refine ev_istore dX7_fewest_250 (by decide) rfl ?_
          exact ev_stw h252 ⟨rfl, rfl, rfl, rfl, rfl, rfl, rfl, by rw [← f2], rfl, trivial⟩ rfl rfl
        · refine ev_iload_n dX7_fewest_238 rfl ?_
          refine ev_if_le 246 dX7_fewest_239 (by decide) (fun hc239 => ?_) (fun hc239 => False.elim (hz ⟨hc230, Nat.pos_of_ne_zero (fun z => hc235 (by rw [z]; decide)), Nat.pos_of_ne_zero (fun z => hc239 (by rw [z]; decide))⟩))
          refine ev_iconst (v := (nI 0)) dX7_fewest_246 (by decide) ?_
          refine ev_cS3 dX7_fewest_247 ceX7_lesser kX7_241 (rm_le rfl rfl) (Nat.le_of_ble_eq_true rfl) (Nat.le_of_ble_eq_true rfl) (e7_les0) ?_
          refine ev_istore dX7_fewest_250 (by decide) rfl ?_
          exact ev_stw h252 ⟨rfl, rfl, rfl, rfl, rfl, rfl, rfl, by rw [← f2], rfl, trivial⟩ rfl rfl
  exact key 0 (Nat.zero_le _)
set_option maxRecDepth 20000 in
set_option maxHeartbeats 2000000 in
theorem fw_B {G : rf_Mem} {n nr l R m h : Nat} (pn : G 1 1332 = nI n) (p3 : n ≤ 40) (m2 : G 7 1 = nI nr) (l6 : nr ≤ 8) (hl : l < 16) (hR31 : R < 2 ^ 31) (hme : fb_ct (lkP (fun r => decide (G 1 (160 + 16 * r + l) = 0)) R) nr = m) (hhe : fb_ct (fun r => lkP (fun r => decide (G 1 (160 + 16 * r + l) = 0)) R r && decide (G 5 r = nI 3)) nr = h) : Ev LayM mX7_fewest 97 [some (.ref 0), some (.int (nI l)), some (.int (nI R)), some (.int (nI m)), some (.int (nI h)), some (.int (nI (fb_ct (vWith (G 1) (fun p => G 1 (40 + p)) (fun p => G 1 (80 + p)) (nI l) (nI 0)) (0)))), some (.int (iSum (vWith (G 1) (fun p => G 1 (40 + p)) (fun p => G 1 (80 + p)) (nI l) (nI 0)) (fun p => nI 9 - G 1 (80 + p)) (0))), some (.int (nI (0))), none, none, none] [] G (some (.int (tI (mnN (G 5) (fun r => decide (G 1 (160 + 16 * r + l) = 0)) R nr (fb_ct (vWith (G 1) (fun p => G 1 (40 + p)) (fun p => G 1 (80 + p)) (nI l) (nI 0)) n) (iSum (vWith (G 1) (fun p => G 1 (40 + p)) (fun p => G 1 (80 + p)) (nI l) (nI 0)) (fun p => nI 9 - G 1 (80 + p)) n) (nr))))) G := by
  have ht40 : (fb_ct (vWith (G 1) (fun p => G 1 (40 + p)) (fun p => G 1 (80 + p)) (nI l) (nI 0)) n) ≤ 40 := Nat.le_trans (fb_ct_le _ _) p3
  have hm8 : m ≤ nr := by rw [← hme]; exact fb_ct_le _ _
  have hpa : paC (G 5) (fun r => decide (G 1 (160 + 16 * r + l) = 0)) R nr (fb_ct (vWith (G 1) (fun p => G 1 (40 + p)) (fun p => G 1 (80 + p)) (nI l) (nI 0)) n) (iSum (vWith (G 1) (fun p => G 1 (40 + p)) (fun p => G 1 (80 + p)) (nI l) (nI 0)) (fun p => nI 9 - G 1 (80 + p)) n) = (!decide (nI (fb_ct (vWith (G 1) (fun p => G 1 (40 + p)) (fun p => G 1 (80 + p)) (nI l) (nI 0)) n) < nI h) && !decide ((iSum (vWith (G 1) (fun p => G 1 (40 + p)) (fun p => G 1 (80 + p)) (nI l) (nI 0)) (fun p => nI 9 - G 1 (80 + p)) n) < nI m)) := by rw [← hme, ← hhe]; rfl
  have e0 : mnN (G 5) (fun r => decide (G 1 (160 + 16 * r + l) = 0)) R nr (fb_ct (vWith (G 1) (fun p => G 1 (40 + p)) (fun p => G 1 (80 + p)) (nI l) (nI 0)) n) (iSum (vWith (G 1) (fun p => G 1 (40 + p)) (fun p => G 1 (80 + p)) (nI l) (nI 0)) (fun p => nI 9 - G 1 (80 + p)) n) (0) = if m = 0 then 0 else if paC (G 5) (fun r => decide (G 1 (160 + 16 * r + l) = 0)) R nr (fb_ct (vWith (G 1) (fun p => G 1 (40 + p)) (fun p => G 1 (80 + p)) (nI l) (nI 0)) n) (iSum (vWith (G 1) (fun p => G 1 (40 + p)) (fun p => G 1 (80 + p)) (nI l) (nI 0)) (fun p => nI 9 - G 1 (80 + p)) n) = true then m else 99 := by rw [← hme]; rfl
  have key := ev_for (Lay := LayM) (y := mX7_fewest) (pc := 97) (r := (some (.int (tI (mnN (G 5) (fun r => decide (G 1 (160 + 16 * r + l) = 0)) R nr (fb_ct (vWith (G 1) (fun p => G 1 (40 + p)) (fun p => G 1 (80 + p)) (nI l) (nI 0)) n) (iSum (vWith (G 1) (fun p => G 1 (40 + p)) (fun p => G 1 (80 + p)) (nI l) (nI 0)) (fun p => nI 9 - G 1 (80 + p)) n) (nr)))))) (M' := G) n (fun i => [some (.ref 0), some (.int (nI l)), some (.int (nI R)), some (.int (nI m)), some (.int (nI h)), some (.int (nI (fb_ct (vWith (G 1) (fun p => G 1 (40 + p)) (fun p => G 1 (80 + p)) (nI l) (nI 0)) (i)))), some (.int (iSum (vWith (G 1) (fun p => G 1 (40 + p)) (fun p => G 1 (80 + p)) (nI l) (nI 0)) (fun p => nI 9 - G 1 (80 + p)) (i))), some (.int (nI (i))), none, none, none]) (fun _ => G) ?hx ?hs
  case hx =>
    have fin := fw_C (rm := (iSum (vWith (G 1) (fun p => G 1 (40 + p)) (fun p => G 1 (80 + p)) (nI l) (nI 0)) (fun p => nI 9 - G 1 (80 + p)) n)) m2 l6 hl hR31 ht40 hme (h := h)
    rw [e0, hpa] at fin
    refine ev_iload dX7_fewest_97 rfl ?_
    refine ev_aload_n dX7_fewest_99 rfl ?_
    refine ev_getR dX7_fewest_100 fX7_7 (by first | assumption | rfl) (by rfl) ?_
    refine ev_sipush (v := (nI 1332)) dX7_fewest_103 (by decide) ?_
    refine ev_ialdE _ dX7_fewest_106 (by first | with_reducible rfl | with_reducible exact nI_add _ _ | with_reducible exact ix3 _ _ _ | with_reducible exact ix_k _ _ _ | with_reducible exact ix_xk _ _ _ _) (by first | assumption | rfl) ⟨by omega, by decide⟩ ?_
    refine ev_icmp_ge 176 dX7_fewest_107 (by decide) (fun hc107 => ?_) (fun hc107 => False.elim (lp_x pn (by omega) hc107))
    refine ev_iconst (v := (-1)) dX7_fewest_176 (by decide) ?_
    refine ev_iload_n dX7_fewest_177 rfl ?_
    refine ev_iload_n dX7_fewest_178 rfl ?_
    refine ev_if_eq 195 dX7_fewest_179 (by decide) (fun hc179 => ?_) (fun hc179 => ?_)
    · have hm0 : m = 0 := (nI_eq (by omega) (by decide)).mp hc179
      refine ev_iconst (v := (nI 1)) dX7_fewest_195 (by decide) ?_
      refine ev_goto 200 dX7_fewest_196 (by decide) ?_
      refine ev_cS3 dX7_fewest_200 ceX7_lesser kX7_241 (rm_le rfl rfl) (Nat.le_of_ble_eq_true rfl) (Nat.le_of_ble_eq_true rfl) (by first | exact e7_lesM | exact e7_les0) ?_
      refine ev_istore dX7_fewest_203 (by decide) rfl ?_
      refine ev_iconst (v := (nI 0)) dX7_fewest_205 (by decide) ?_
      refine ev_istore dX7_fewest_206 (by decide) rfl ?_
      first
      | (exact ev_stw fin ⟨rfl, rfl, rfl, rfl, rfl, rfl, rfl, by rw [if_pos hm0, hm0]; rfl, rfl, trivial⟩ rfl rfl)
      | (exact ev_stw fin ⟨rfl, rfl, rfl, rfl, rfl, rfl, rfl, by rw [if_neg hm0, decide_eq_true hc185, Bool.not_true, Bool.and_false]; rfl, rfl, trivial⟩ rfl rfl)
      | (exact ev_stw fin ⟨rfl, rfl, rfl, rfl, rfl, rfl, rfl, by rw [if_neg hm0, decide_eq_true hc192, Bool.not_true, Bool.false_and]; rfl, rfl, trivial⟩ rfl rfl)
      | (exact ev_stw fin ⟨rfl, rfl, rfl, rfl, rfl, rfl, rfl, by rw [if_neg hm0, decide_eq_false hc192, decide_eq_false hc185, Bool.not_false, Bool.and_true, if_pos rfl, tI_n (by omega)], rfl, trivial⟩ rfl rfl)
    · have hm0 : ¬ m = 0 := fun z => hc179 (by rw [z]; rfl)
      refine ev_iload_n dX7_fewest_182 rfl ?_
      refine ev_iload dX7_fewest_183 rfl ?_
      refine ev_icmp_gt 199 dX7_fewest_185 (by decide) (fun hc185 => ?_) (fun hc185 => ?_)
      · refine ev_iconst (v := (nI 0)) dX7_fewest_199 (by decide) ?_
        refine ev_cS3 dX7_fewest_200 ceX7_lesser kX7_241 (rm_le rfl rfl) (Nat.le_of_ble_eq_true rfl) (Nat.le_of_ble_eq_true rfl) (by first | exact e7_lesM | exact e7_les0) ?_
        refine ev_istore dX7_fewest_203 (by decide) rfl ?_
        refine ev_iconst (v := (nI 0)) dX7_fewest_205 (by decide) ?_
        refine ev_istore dX7_fewest_206 (by decide) rfl ?_
        first
        | (exact ev_stw fin ⟨rfl, rfl, rfl, rfl, rfl, rfl, rfl, by rw [if_pos hm0, hm0]; rfl, rfl, trivial⟩ rfl rfl)
        | (exact ev_stw fin ⟨rfl, rfl, rfl, rfl, rfl, rfl, rfl, by rw [if_neg hm0, decide_eq_true hc185, Bool.not_true, Bool.and_false]; rfl, rfl, trivial⟩ rfl rfl)
        | (exact ev_stw fin ⟨rfl, rfl, rfl, rfl, rfl, rfl, rfl, by rw [if_neg hm0, decide_eq_true hc192, Bool.not_true, Bool.false_and]; rfl, rfl, trivial⟩ rfl rfl)
        | (exact ev_stw fin ⟨rfl, rfl, rfl, rfl, rfl, rfl, rfl, by rw [if_neg hm0, decide_eq_false hc192, decide_eq_false hc185, Bool.not_false, Bool.and_true, if_pos rfl, tI_n (by omega)], rfl, trivial⟩ rfl rfl)
      · refine ev_iload dX7_fewest_188 rfl ?_
        refine ev_iload dX7_fewest_190 rfl ?_
        refine ev_icmp_gt 199 dX7_fewest_192 (by decide) (fun hc192 => ?_) (fun hc192 => ?_)
        · refine ev_iconst (v := (nI 0)) dX7_fewest_199 (by decide) ?_
          refine ev_cS3 dX7_fewest_200 ceX7_lesser kX7_241 (rm_le rfl rfl) (Nat.le_of_ble_eq_true rfl) (Nat.le_of_ble_eq_true rfl) (by first | exact e7_lesM | exact e7_les0) ?_
          refine ev_istore dX7_fewest_203 (by decide) rfl ?_
          refine ev_iconst (v := (nI 0)) dX7_fewest_205 (by decide) ?_
          refine ev_istore dX7_fewest_206 (by decide) rfl ?_
          first
          | (exact ev_stw fin ⟨rfl, rfl, rfl, rfl, rfl, rfl, rfl, by rw [if_pos hm0, hm0]; rfl, rfl, trivial⟩ rfl rfl)
          | (exact ev_stw fin ⟨rfl, rfl, rfl, rfl, rfl, rfl, rfl, by rw [if_neg hm0, decide_eq_true hc185, Bool.not_true, Bool.and_false]; rfl, rfl, trivial⟩ rfl rfl)
          | (exact ev_stw fin ⟨rfl, rfl, rfl, rfl, rfl, rfl, rfl, by rw [if_neg hm0, decide_eq_true hc192, Bool.not_true, Bool.false_and]; rfl, rfl, trivial⟩ rfl rfl)
          | (exact ev_stw fin ⟨rfl, rfl, rfl, rfl, rfl, rfl, rfl, by rw [if_neg hm0, decide_eq_false hc192, decide_eq_false hc185, Bool.not_false, Bool.and_true, if_pos rfl, tI_n (by omega)], rfl, trivial⟩ rfl rfl)
        · refine ev_iconst (v := (nI 1)) dX7_fewest_195 (by decide) ?_
          refine ev_goto 200 dX7_fewest_196 (by decide) ?_
          refine ev_cS3 dX7_fewest_200 ceX7_lesser kX7_241 (rm_le rfl rfl) (Nat.le_of_ble_eq_true rfl) (Nat.le_of_ble_eq_true rfl) (by first | exact e7_lesM | exact e7_les0) ?_
          refine ev_istore dX7_fewest_203 (by decide) rfl ?_
          refine ev_iconst (v := (nI 0)) dX7_fewest_205 (by decide) ?_
          refine ev_istore dX7_fewest_206 (by decide) rfl ?_
          first
          | (exact ev_stw fin ⟨rfl, rfl, rfl, rfl, rfl, rfl, rfl, by rw [if_pos hm0, hm0]; rfl, rfl, trivial⟩ rfl rfl)
          | (exact ev_stw fin ⟨rfl, rfl, rfl, rfl, rfl, rfl, rfl, by rw [if_neg hm0, decide_eq_true hc185, Bool.not_true, Bool.and_false]; rfl, rfl, trivial⟩ rfl rfl)
          | (exact ev_stw fin ⟨rfl, rfl, rfl, rfl, rfl, rfl, rfl, by rw [if_neg hm0, decide_eq_true hc192, Bool.not_true, Bool.false_and]; rfl, rfl, trivial⟩ rfl rfl)
          | (exact ev_stw fin ⟨rfl, rfl, rfl, rfl, rfl, rfl, rfl, by rw [if_neg hm0, decide_eq_false hc192, decide_eq_false hc185, Bool.not_false, Bool.and_true, if_pos rfl, tI_n (by omega)], rfl, trivial⟩ rfl rfl)
  case hs =>
    intro i hi ih
    refine ev_iload dX7_fewest_97 rfl ?_
    refine ev_aload_n dX7_fewest_99 rfl ?_
    refine ev_getR dX7_fewest_100 fX7_7 (by first | assumption | rfl) (by rfl) ?_
    refine ev_sipush (v := (nI 1332)) dX7_fewest_103 (by decide) ?_
    refine ev_ialdE _ dX7_fewest_106 (by first | with_reducible rfl | with_reducible exact nI_add _ _ | with_reducible exact ix3 _ _ _ | with_reducible exact ix_k _ _ _ | with_reducible exact ix_xk _ _ _ _) (by first | assumption | rfl) ⟨by omega, by decide⟩ ?_
    refine ev_icmp_ge 176 dX7_fewest_107 (by decide) (fun hc107 => False.elim (lp_s pn (by omega) hi hc107)) (fun hc107 => ?_)
    refine ev_aload_n dX7_fewest_110 rfl ?_
    refine ev_getR dX7_fewest_111 fX7_7 (by first | assumption | rfl) (by rfl) ?_
    refine ev_iload dX7_fewest_114 rfl ?_
    refine ev_ialdE _ dX7_fewest_116 (by first | with_reducible rfl | with_reducible exact nI_add _ _ | with_reducible exact ix3 _ _ _ | with_reducible exact ix_k _ _ _ | with_reducible exact ix_xk _ _ _ _) (by first | assumption | rfl) ⟨by omega, by decide⟩ ?_
    refine ev_iload_n dX7_fewest_117 rfl ?_
    refine ev_icmp_ne 170 dX7_fewest_118 (by decide) (fun hc118 => ?_) (fun hc118 => ?_)
    · refine ev_iinc (v := (nI 1)) dX7_fewest_170 rfl (by decide) (by decide) rfl ?_
      refine ev_goto 97 dX7_fewest_173 (by decide) ?_
      exact ev_stw ih (by simp [rf_sub, nI_add, fb_ct_succ, iSum, vWith, vLeft, nI_0, *]) rfl rfl
    · refine ev_aload_n dX7_fewest_121 rfl ?_
      refine ev_getR dX7_fewest_122 fX7_7 (by first | assumption | rfl) (by rfl) ?_
      refine ev_bipush (v := (nI 40)) dX7_fewest_125 (by decide) ?_
      refine ev_iload dX7_fewest_127 rfl ?_
      refine ev_iadd dX7_fewest_129 ?_
      refine ev_ialdE _ dX7_fewest_130 (by first | with_reducible rfl | with_reducible exact nI_add _ _ | with_reducible exact ix3 _ _ _ | with_reducible exact ix_k _ _ _ | with_reducible exact ix_xk _ _ _ _) (by first | assumption | rfl) ⟨by omega, by decide⟩ ?_
      refine ev_if_ne 170 dX7_fewest_131 (by decide) (fun hc131 => ?_) (fun hc131 => ?_)
      · refine ev_iinc (v := (nI 1)) dX7_fewest_170 rfl (by decide) (by decide) rfl ?_
        refine ev_goto 97 dX7_fewest_173 (by decide) ?_
        exact ev_stw ih (by simp [rf_sub, nI_add, fb_ct_succ, iSum, vWith, vLeft, nI_0, *]) rfl rfl
      · refine ev_aload_n dX7_fewest_134 rfl ?_
        refine ev_getR dX7_fewest_135 fX7_7 (by first | assumption | rfl) (by rfl) ?_
        refine ev_bipush (v := (nI 80)) dX7_fewest_138 (by decide) ?_
        refine ev_iload dX7_fewest_140 rfl ?_
        refine ev_iadd dX7_fewest_142 ?_
        refine ev_ialdE _ dX7_fewest_143 (by first | with_reducible rfl | with_reducible exact nI_add _ _ | with_reducible exact ix3 _ _ _ | with_reducible exact ix_k _ _ _ | with_reducible exact ix_xk _ _ _ _) (by first | assumption | rfl) ⟨by omega, by decide⟩ ?_
        refine ev_bipush (v := (nI 9)) dX7_fewest_144 (by decide) ?_
        refine ev_icmp_ge 170 dX7_fewest_146 (by decide) (fun hc146 => ?_) (fun hc146 => ?_)
        · refine ev_iinc (v := (nI 1)) dX7_fewest_170 rfl (by decide) (by decide) rfl ?_
          refine ev_goto 97 dX7_fewest_173 (by decide) ?_
          exact ev_stw ih (by simp [rf_sub, nI_add, fb_ct_succ, iSum, vWith, vLeft, nI_0, *]) rfl rfl
        · refine ev_iinc (v := (nI 1)) dX7_fewest_149 rfl (by decide) (by decide) rfl ?_
          refine ev_iload dX7_fewest_152 rfl ?_
          refine ev_bipush (v := (nI 9)) dX7_fewest_154 (by decide) ?_
          refine ev_aload_n dX7_fewest_156 rfl ?_
          refine ev_getR dX7_fewest_157 fX7_7 (by first | assumption | rfl) (by rfl) ?_
          refine ev_bipush (v := (nI 80)) dX7_fewest_160 (by decide) ?_
          refine ev_iload dX7_fewest_162 rfl ?_
          refine ev_iadd dX7_fewest_164 ?_
          refine ev_ialdE _ dX7_fewest_165 (by first | with_reducible rfl | with_reducible exact nI_add _ _ | with_reducible exact ix3 _ _ _ | with_reducible exact ix_k _ _ _ | with_reducible exact ix_xk _ _ _ _) (by first | assumption | rfl) ⟨by omega, by decide⟩ ?_
          refine ev_isub dX7_fewest_166 ?_
          refine ev_iadd dX7_fewest_167 ?_
          refine ev_istore dX7_fewest_168 (by decide) rfl ?_
          refine ev_iinc (v := (nI 1)) dX7_fewest_170 rfl (by decide) (by decide) rfl ?_
          refine ev_goto 97 dX7_fewest_173 (by decide) ?_
          exact ev_stw ih (by simp [rf_sub, nI_add, fb_ct_succ, iSum, vWith, vLeft, nI_0, *]) rfl rfl
  exact key 0 (Nat.zero_le _)
set_option maxRecDepth 20000 in
set_option maxHeartbeats 2000000 in
theorem e7_fewest {G : rf_Mem} {n nr l R : Nat} (pn : G 1 1332 = nI n) (p3 : n ≤ 40) (m2 : G 7 1 = nI nr) (l6 : nr ≤ 8) (hl : l < 16) (hR : R < 2 ^ nr) : Ev LayM mX7_fewest 0 (rf_ent 11 [.ref 0, .int (nI l), .int (nI R)]) [] G (some (.int (tI (mnN (G 5) (fun r => decide (G 1 (160 + 16 * r + l) = 0)) R nr (fb_ct (vWith (G 1) (fun p => G 1 (40 + p)) (fun p => G 1 (80 + p)) (nI l) (nI 0)) n) (iSum (vWith (G 1) (fun p => G 1 (40 + p)) (fun p => G 1 (80 + p)) (nI l) (nI 0)) (fun p => nI 9 - G 1 (80 + p)) n) (nr))))) G := by
  have hR31 : R < 2 ^ 31 := Nat.lt_of_lt_of_le hR (Nat.pow_le_pow_right (by decide) (by omega))
  have key := ev_for (Lay := LayM) (y := mX7_fewest) (pc := 8) (r := (some (.int (tI (mnN (G 5) (fun r => decide (G 1 (160 + 16 * r + l) = 0)) R nr (fb_ct (vWith (G 1) (fun p => G 1 (40 + p)) (fun p => G 1 (80 + p)) (nI l) (nI 0)) n) (iSum (vWith (G 1) (fun p => G 1 (40 + p)) (fun p => G 1 (80 + p)) (nI l) (nI 0)) (fun p => nI 9 - G 1 (80 + p)) n) (nr)))))) (M' := G) nr (fun i => [some (.ref 0), some (.int (nI l)), some (.int (nI R)), some (.int (nI (fb_ct (lkP (fun r => decide (G 1 (160 + 16 * r + l) = 0)) R) (i)))), some (.int (nI (fb_ct (fun r => lkP (fun r => decide (G 1 (160 + 16 * r + l) = 0)) R r && decide (G 5 r = nI 3)) (i)))), some (.int (nI (i))), none, none, none, none, none]) (fun _ => G) ?hx ?hs
  case hx =>
    refine ev_iload dX7_fewest_8 rfl ?_
    refine ev_aload_n dX7_fewest_10 rfl ?_
    refine ev_getR dX7_fewest_11 fX7_29 (by first | assumption | rfl) (by rfl) ?_
    refine ev_iconst (v := (nI 1)) dX7_fewest_14 (by decide) ?_
    refine ev_ialdE _ dX7_fewest_15 (by first | with_reducible rfl | with_reducible exact nI_add _ _ | with_reducible exact ix3 _ _ _ | with_reducible exact ix_k _ _ _ | with_reducible exact ix_xk _ _ _ _) (by first | assumption | rfl) ⟨by omega, by decide⟩ ?_
    refine ev_icmp_ge 88 dX7_fewest_16 (by decide) (fun hc16 => ?_) (fun hc16 => False.elim (lp_x m2 (by omega) hc16))
    refine ev_iconst (v := (nI 0)) dX7_fewest_88 (by decide) ?_
    refine ev_istore dX7_fewest_89 (by decide) rfl ?_
    refine ev_iconst (v := (nI 0)) dX7_fewest_91 (by decide) ?_
    refine ev_istore dX7_fewest_92 (by decide) rfl ?_
    refine ev_iconst (v := (nI 0)) dX7_fewest_94 (by decide) ?_
    refine ev_istore dX7_fewest_95 (by decide) rfl ?_
    exact ev_stw (fw_B pn p3 m2 l6 hl hR31 rfl rfl) ⟨rfl, rfl, rfl, rfl, rfl, rfl, rfl, rfl, trivial⟩ rfl rfl
  case hs =>
    intro i hi ih
    have sL : fb_ct (lkP (fun r => decide (G 1 (160 + 16 * r + l) = 0)) R) (i + 1) = fb_ct (lkP (fun r => decide (G 1 (160 + 16 * r + l) = 0)) R) i + (if (hb R i && !decide (G 1 (160 + 16 * i + l) = 0)) = true then 1 else 0) := rfl
    have sT : fb_ct (fun r => lkP (fun r => decide (G 1 (160 + 16 * r + l) = 0)) R r && decide (G 5 r = nI 3)) (i + 1) = fb_ct (fun r => lkP (fun r => decide (G 1 (160 + 16 * r + l) = 0)) R r && decide (G 5 r = nI 3)) i + (if ((hb R i && !decide (G 1 (160 + 16 * i + l) = 0)) && decide (G 5 i = nI 3)) = true then 1 else 0) := rfl
    simp only [sL, sT] at ih
    clear sL sT
    refine ev_iload dX7_fewest_8 rfl ?_
    refine ev_aload_n dX7_fewest_10 rfl ?_
    refine ev_getR dX7_fewest_11 fX7_29 (by first | assumption | rfl) (by rfl) ?_
    refine ev_iconst (v := (nI 1)) dX7_fewest_14 (by decide) ?_
    refine ev_ialdE _ dX7_fewest_15 (by first | with_reducible rfl | with_reducible exact nI_add _ _ | with_reducible exact ix3 _ _ _ | with_reducible exact ix_k _ _ _ | with_reducible exact ix_xk _ _ _ _) (by first | assumption | rfl) ⟨by omega, by decide⟩ ?_
    refine ev_icmp_ge 88 dX7_fewest_16 (by decide) (fun hc16 => False.elim (lp_s m2 (by omega) hi hc16)) (fun hc16 => ?_)
    refine ev_iload_n dX7_fewest_19 rfl ?_
    refine ev_iload dX7_fewest_20 rfl ?_
    refine ev_cS2 dX7_fewest_22 ceX7_has kX7_220 (rm_le rfl rfl) (Nat.le_of_ble_eq_true rfl) (Nat.le_of_ble_eq_true rfl) (e7_hasN hR31 (by omega)) ?_
    refine ev_if_eq 42 dX7_fewest_25 (by decide) (fun hc25 => ?_) (fun hc25 => ?_)
    · rw [b2i_0] at hc25
      refine ev_iconst (v := (nI 0)) dX7_fewest_42 (by decide) ?_
      refine ev_istore dX7_fewest_43 (by decide) rfl ?_
      refine ev_iload_n dX7_fewest_45 rfl ?_
      refine ev_iload dX7_fewest_46 rfl ?_
      refine ev_cS1 dX7_fewest_48 ceX7_one kX7_141 (rm_le rfl rfl) (Nat.le_of_ble_eq_true rfl) (Nat.le_of_ble_eq_true rfl) (e7_one0) ?_
      refine ev_iadd dX7_fewest_51 ?_
      refine ev_istore_k 3 dX7_fewest_52 rfl (by decide) rfl ?_
      refine ev_iload dX7_fewest_53 rfl ?_
      refine ev_iload dX7_fewest_55 rfl ?_
      refine ev_if_eq 75 dX7_fewest_57 (by decide) (fun _ => ?_) (fun hc57 => False.elim (absurd hc57 (by decide)))
      refine ev_iconst (v := (nI 0)) dX7_fewest_75 (by decide) ?_
      refine ev_cS1 dX7_fewest_76 ceX7_one kX7_141 (rm_le rfl rfl) (Nat.le_of_ble_eq_true rfl) (Nat.le_of_ble_eq_true rfl) (e7_one0) ?_
      refine ev_iadd dX7_fewest_79 ?_
      refine ev_istore dX7_fewest_80 (by decide) rfl ?_
      refine ev_iinc (v := (nI 1)) dX7_fewest_82 rfl (by decide) (by decide) rfl ?_
      refine ev_goto 8 dX7_fewest_85 (by decide) ?_
      exact ev_stw ih (by clear ih; simp [rf_sub, nI_add, *]) rfl rfl
    · rw [b2i_n0] at hc25
      refine ev_aload_n dX7_fewest_28 rfl ?_
      refine ev_iload dX7_fewest_29 rfl ?_
      refine ev_iload_n dX7_fewest_31 rfl ?_
      refine ev_cV2 dX7_fewest_32 ceX7_isTrue kX7_238 (rm_le rfl rfl) (Nat.le_of_ble_eq_true rfl) (Nat.le_of_ble_eq_true rfl) (e7_isTrue (by omega) hl) (by first | assumption | rfl) ?_
      refine ev_if_ne 42 dX7_fewest_35 (by decide) (fun hc35 => ?_) (fun hc35 => ?_)
      · rw [b2i_n0] at hc35
        refine ev_iconst (v := (nI 0)) dX7_fewest_42 (by decide) ?_
        refine ev_istore dX7_fewest_43 (by decide) rfl ?_
        refine ev_iload_n dX7_fewest_45 rfl ?_
        refine ev_iload dX7_fewest_46 rfl ?_
        refine ev_cS1 dX7_fewest_48 ceX7_one kX7_141 (rm_le rfl rfl) (Nat.le_of_ble_eq_true rfl) (Nat.le_of_ble_eq_true rfl) (e7_one0) ?_
        refine ev_iadd dX7_fewest_51 ?_
        refine ev_istore_k 3 dX7_fewest_52 rfl (by decide) rfl ?_
        refine ev_iload dX7_fewest_53 rfl ?_
        refine ev_iload dX7_fewest_55 rfl ?_
        refine ev_if_eq 75 dX7_fewest_57 (by decide) (fun _ => ?_) (fun hc57 => False.elim (absurd hc57 (by decide)))
        refine ev_iconst (v := (nI 0)) dX7_fewest_75 (by decide) ?_
        refine ev_cS1 dX7_fewest_76 ceX7_one kX7_141 (rm_le rfl rfl) (Nat.le_of_ble_eq_true rfl) (Nat.le_of_ble_eq_true rfl) (e7_one0) ?_
        refine ev_iadd dX7_fewest_79 ?_
        refine ev_istore dX7_fewest_80 (by decide) rfl ?_
        refine ev_iinc (v := (nI 1)) dX7_fewest_82 rfl (by decide) (by decide) rfl ?_
        refine ev_goto 8 dX7_fewest_85 (by decide) ?_
        exact ev_stw ih (by clear ih; simp [rf_sub, nI_add, *]) rfl rfl
      · rw [b2i_0] at hc35
        refine ev_iconst (v := (nI 1)) dX7_fewest_38 (by decide) ?_
        refine ev_goto 43 dX7_fewest_39 (by decide) ?_
        refine ev_istore dX7_fewest_43 (by decide) rfl ?_
        refine ev_iload_n dX7_fewest_45 rfl ?_
        refine ev_iload dX7_fewest_46 rfl ?_
        refine ev_cS1 dX7_fewest_48 ceX7_one kX7_141 (rm_le rfl rfl) (Nat.le_of_ble_eq_true rfl) (Nat.le_of_ble_eq_true rfl) (e7_one1) ?_
        refine ev_iadd dX7_fewest_51 ?_
        refine ev_istore_k 3 dX7_fewest_52 rfl (by decide) rfl ?_
        refine ev_iload dX7_fewest_53 rfl ?_
        refine ev_iload dX7_fewest_55 rfl ?_
        refine ev_if_eq 75 dX7_fewest_57 (by decide) (fun hc57 => False.elim (absurd hc57 (by decide))) (fun _ => ?_)
        refine ev_aload_n dX7_fewest_60 rfl ?_
        refine ev_getR dX7_fewest_61 fX7_23 (by first | assumption | rfl) (by rfl) ?_
        refine ev_iload dX7_fewest_64 rfl ?_
        refine ev_ialdE _ dX7_fewest_66 (by first | with_reducible rfl | with_reducible exact nI_add _ _ | with_reducible exact ix3 _ _ _ | with_reducible exact ix_k _ _ _ | with_reducible exact ix_xk _ _ _ _) (by first | assumption | rfl) ⟨by omega, by decide⟩ ?_
        refine ev_iconst (v := (nI 3)) dX7_fewest_67 (by decide) ?_
        refine ev_icmp_ne 75 dX7_fewest_68 (by decide) (fun hc68 => ?_) (fun hc68 => ?_)
        · refine ev_iconst (v := (nI 0)) dX7_fewest_75 (by decide) ?_
          refine ev_cS1 dX7_fewest_76 ceX7_one kX7_141 (rm_le rfl rfl) (Nat.le_of_ble_eq_true rfl) (Nat.le_of_ble_eq_true rfl) (e7_one0) ?_
          refine ev_iadd dX7_fewest_79 ?_
          refine ev_istore dX7_fewest_80 (by decide) rfl ?_
          refine ev_iinc (v := (nI 1)) dX7_fewest_82 rfl (by decide) (by decide) rfl ?_
          refine ev_goto 8 dX7_fewest_85 (by decide) ?_
          exact ev_stw ih (by clear ih; simp [rf_sub, nI_add, *]) rfl rfl
        · refine ev_iconst (v := (nI 1)) dX7_fewest_71 (by decide) ?_
          refine ev_goto 76 dX7_fewest_72 (by decide) ?_
          refine ev_cS1 dX7_fewest_76 ceX7_one kX7_141 (rm_le rfl rfl) (Nat.le_of_ble_eq_true rfl) (Nat.le_of_ble_eq_true rfl) (e7_one1) ?_
          refine ev_iadd dX7_fewest_79 ?_
          refine ev_istore dX7_fewest_80 (by decide) rfl ?_
          refine ev_iinc (v := (nI 1)) dX7_fewest_82 rfl (by decide) (by decide) rfl ?_
          refine ev_goto 8 dX7_fewest_85 (by decide) ?_
          exact ev_stw ih (by clear ih; simp [rf_sub, nI_add, *]) rfl rfl
  refine ev_iconst (v := (nI 0)) dX7_fewest_0 (by decide) ?_
  refine ev_istore_k 3 dX7_fewest_1 rfl (by decide) rfl ?_
  refine ev_iconst (v := (nI 0)) dX7_fewest_2 (by decide) ?_
  refine ev_istore dX7_fewest_3 (by decide) rfl ?_
  refine ev_iconst (v := (nI 0)) dX7_fewest_5 (by decide) ?_
  refine ev_istore dX7_fewest_6 (by decide) rfl ?_
  exact ev_st (key 0 (Nat.zero_le _)) rfl rfl rfl
