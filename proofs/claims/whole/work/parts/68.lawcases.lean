/-! the law's cases -/
theorem lq_st {b L0 : Nat} {xs : Nat → Int32} {g : rf_G} {aS : Nat → Nat} {pc : Nat} {L L2 : List (Option Value)} {st : List Value} {ws : va_W} {k n : Nat} (h : EvW b L0 xs g aS pc L2 st ws k n) (e : L = L2) : EvW b L0 xs g aS pc L st ws k n := by
  subst e; exact h
set_option maxRecDepth 20000 in
set_option maxHeartbeats 2000000 in
theorem lc_end {b L0 : Nat} {xs : Nat → Int32} {g : rf_G} {aS aC aM : Nat → Nat} {k n i : Nat} {ws : va_W} (h : EvW b L0 xs g aS 18 [some (.ref b), some (.ref (aC 0)), some (.ref (aM 0)), some (.int (nI (i + 4)))] [] ws k n) : EvW b L0 xs g aS 1122 [some (.ref b), some (.ref (aC 0)), some (.ref (aM 0)), some (.int (nI (i)))] [] ws k n := by
  refine lq_iinc (v := nI 4) dL_law_1122 rfl (by decide) (by decide) rfl ?_
  refine lq_goto 18 dL_law_1125 (by decide) ?_
  exact lq_st h (by simp [nI_add])
set_option maxRecDepth 20000 in
set_option maxHeartbeats 2000000 in
theorem lc_0 {b L0 : Nat} {xs : Nat → Int32} {g : rf_G} {aS aC aM : Nat → Nat} {k n i : Nat} {C G : rf_Mem} (hi4 : i + 4 ≤ L0) (hL0 : L0 ≤ 2048) (haC : ∀ i, 1000 ≤ i → aC i = aS i) (haM : ∀ i, 1000 ≤ i → aM i = aS i) (hk : k ≤ 600000) (hn : n ≤ 7302250) (hR : Rg C G) (ih : ∀ C G, Rg C G → EvW b L0 xs g aS 18 [some (.ref b), some (.ref (aC 0)), some (.ref (aM 0)), some (.int (nI (i + 4)))] [] (rf_W g aC C 0 LayC ++ rf_W g aM G 0 LayM) k n) : EvW b L0 xs g aS 176 [some (.ref b), some (.ref (aC 0)), some (.ref (aM 0)), some (.int (nI (i)))] [] (rf_W g aC C 0 LayC ++ rf_W g aM G 0 LayM) k n := by
  obtain ⟨r, C', G', e1, e2, hR'⟩ := (@op_feed (xs (i + 1)) ((((xs (i + 2)).toInt64 <<< ((nI 32).toInt64 &&& 63)) ||| ((xs (i + 3)).toInt64 &&& 4294967295)))) C G hR
  refine lq_aload dL_law_176 rfl ?_
  refine lq_aload dL_law_177 rfl ?_
  refine lq_iload dL_law_178 rfl ?_
  refine lq_iconst (v := nI 1) dL_law_179 (by decide) ?_
  refine lq_iadd dL_law_180 ?_
  refine lq_sld (i + 1) dL_law_181 (nI_add _ _) (by omega) (by omega) ?_
  refine lq_aload dL_law_182 rfl ?_
  refine lq_iload dL_law_183 rfl ?_
  refine lq_iconst (v := nI 2) dL_law_184 (by decide) ?_
  refine lq_iadd dL_law_185 ?_
  refine lq_sld (i + 2) dL_law_186 (nI_add _ _) (by omega) (by omega) ?_
  refine lq_i2l dL_law_187 ?_
  refine lq_bipush (v := nI 32) dL_law_188 (by decide) ?_
  refine lq_lshl dL_law_190 ?_
  refine lq_aload dL_law_191 rfl ?_
  refine lq_iload dL_law_192 rfl ?_
  refine lq_iconst (v := nI 3) dL_law_193 (by decide) ?_
  refine lq_iadd dL_law_194 ?_
  refine lq_sld (i + 3) dL_law_195 (nI_add _ _) (by omega) (by omega) ?_
  refine lq_i2l dL_law_196 ?_
  refine lq_ldc2 dL_law_197 (iw_1 _ (List.mem_of_getElem? (i := 6) rfl)) ?_
  refine lq_land dL_law_200 ?_
  refine lq_lor dL_law_201 ?_
  refine lq_call (ws := []) (a1 := aC) (a2 := aM) [.int (xs (i + 1)), .long ((((xs (i + 2)).toInt64 <<< ((nI 32).toInt64 &&& 63)) ||| ((xs (i + 3)).toInt64 &&& 4294967295)))] dL_law_202 rfl ceX6_feed (iw_6 _ (List.mem_of_getElem? (i := 3) rfl)) (rm_le rfl rfl) rfl rfl rfl (Nat.le_of_ble_eq_true rfl) (Nat.le_of_ble_eq_true rfl) haC hk hn e1 ?_
  refine lq_aload dL_law_205 rfl ?_
  refine lq_aload dL_law_206 rfl ?_
  refine lq_iload dL_law_207 rfl ?_
  refine lq_iconst (v := nI 1) dL_law_208 (by decide) ?_
  refine lq_iadd dL_law_209 ?_
  refine lq_sld (i + 1) dL_law_210 (nI_add _ _) (by omega) (by omega) ?_
  refine lq_aload dL_law_211 rfl ?_
  refine lq_iload dL_law_212 rfl ?_
  refine lq_iconst (v := nI 2) dL_law_213 (by decide) ?_
  refine lq_iadd dL_law_214 ?_
  refine lq_sld (i + 2) dL_law_215 (nI_add _ _) (by omega) (by omega) ?_
  refine lq_i2l dL_law_216 ?_
  refine lq_bipush (v := nI 32) dL_law_217 (by decide) ?_
  refine lq_lshl dL_law_219 ?_
  refine lq_aload dL_law_220 rfl ?_
  refine lq_iload dL_law_221 rfl ?_
  refine lq_iconst (v := nI 3) dL_law_222 (by decide) ?_
  refine lq_iadd dL_law_223 ?_
  refine lq_sld (i + 3) dL_law_224 (nI_add _ _) (by omega) (by omega) ?_
  refine lq_i2l dL_law_225 ?_
  refine lq_ldc2 dL_law_226 (iw_1 _ (List.mem_of_getElem? (i := 6) rfl)) ?_
  refine lq_land dL_law_229 ?_
  refine lq_lor dL_law_230 ?_
  refine lq_call (ws := []) (a1 := aM) (a2 := aC) [.int (xs (i + 1)), .long ((((xs (i + 2)).toInt64 <<< ((nI 32).toInt64 &&& 63)) ||| ((xs (i + 3)).toInt64 &&& 4294967295)))] dL_law_231 rfl ceX7_feed (iw_6 _ (List.mem_of_getElem? (i := 14) rfl)) (rm_le rfl rfl) rfl rfl rfl (Nat.le_of_ble_eq_true rfl) (Nat.le_of_ble_eq_true rfl) haM hk hn e2 ?_
  refine lq_eq 1122 dL_law_234 (by decide) ?_
  exact lc_end (ih C' G' hR')
set_option maxRecDepth 20000 in
set_option maxHeartbeats 2000000 in
theorem lc_1 {b L0 : Nat} {xs : Nat → Int32} {g : rf_G} {aS aC aM : Nat → Nat} {k n i : Nat} {C G : rf_Mem} (hi4 : i + 4 ≤ L0) (hL0 : L0 ≤ 2048) (haC : ∀ i, 1000 ≤ i → aC i = aS i) (haM : ∀ i, 1000 ≤ i → aM i = aS i) (hk : k ≤ 600000) (hn : n ≤ 7302250) (hR : Rg C G) (ih : ∀ C G, Rg C G → EvW b L0 xs g aS 18 [some (.ref b), some (.ref (aC 0)), some (.ref (aM 0)), some (.int (nI (i + 4)))] [] (rf_W g aC C 0 LayC ++ rf_W g aM G 0 LayM) k n) : EvW b L0 xs g aS 239 [some (.ref b), some (.ref (aC 0)), some (.ref (aM 0)), some (.int (nI (i)))] [] (rf_W g aC C 0 LayC ++ rf_W g aM G 0 LayM) k n := by
  obtain ⟨r, C', G', e1, e2, hR'⟩ := op_library C G hR
  refine lq_aload dL_law_239 rfl ?_
  refine lq_call (ws := []) (a1 := aC) (a2 := aM) [] dL_law_240 rfl ceX6_library (iw_7 _ (List.mem_of_getElem? (i := 2) rfl)) (rm_le rfl rfl) rfl rfl rfl (Nat.le_of_ble_eq_true rfl) (Nat.le_of_ble_eq_true rfl) haC hk hn e1 ?_
  refine lq_aload dL_law_243 rfl ?_
  refine lq_call (ws := []) (a1 := aM) (a2 := aC) [] dL_law_244 rfl ceX7_library (iw_12 _ (List.mem_of_getElem? (i := 23) rfl)) (rm_le rfl rfl) rfl rfl rfl (Nat.le_of_ble_eq_true rfl) (Nat.le_of_ble_eq_true rfl) haM hk hn e2 ?_
  refine lq_eq 1122 dL_law_247 (by decide) ?_
  exact lc_end (ih C' G' hR')
set_option maxRecDepth 20000 in
set_option maxHeartbeats 2000000 in
theorem lc_2 {b L0 : Nat} {xs : Nat → Int32} {g : rf_G} {aS aC aM : Nat → Nat} {k n i : Nat} {C G : rf_Mem} (hi4 : i + 4 ≤ L0) (hL0 : L0 ≤ 2048) (haC : ∀ i, 1000 ≤ i → aC i = aS i) (haM : ∀ i, 1000 ≤ i → aM i = aS i) (hk : k ≤ 600000) (hn : n ≤ 7302250) (hR : Rg C G) (ih : ∀ C G, Rg C G → EvW b L0 xs g aS 18 [some (.ref b), some (.ref (aC 0)), some (.ref (aM 0)), some (.int (nI (i + 4)))] [] (rf_W g aC C 0 LayC ++ rf_W g aM G 0 LayM) k n) : EvW b L0 xs g aS 252 [some (.ref b), some (.ref (aC 0)), some (.ref (aM 0)), some (.int (nI (i)))] [] (rf_W g aC C 0 LayC ++ rf_W g aM G 0 LayM) k n := by
  obtain ⟨r, C', G', e1, e2, hR'⟩ := op_fault C G hR
  refine lq_aload dL_law_252 rfl ?_
  refine lq_call (ws := []) (a1 := aC) (a2 := aM) [] dL_law_253 rfl ceX6_fault (iw_15 _ (List.mem_of_getElem? (i := 0) rfl)) (rm_le rfl rfl) rfl rfl rfl (Nat.le_of_ble_eq_true rfl) (Nat.le_of_ble_eq_true rfl) haC hk hn e1 ?_
  refine lq_aload dL_law_256 rfl ?_
  refine lq_call (ws := []) (a1 := aM) (a2 := aC) [] dL_law_257 rfl ceX7_fault (iw_15 _ (List.mem_of_getElem? (i := 5) rfl)) (rm_le rfl rfl) rfl rfl rfl (Nat.le_of_ble_eq_true rfl) (Nat.le_of_ble_eq_true rfl) haM hk hn e2 ?_
  refine lq_eq 1122 dL_law_260 (by decide) ?_
  exact lc_end (ih C' G' hR')
set_option maxRecDepth 20000 in
set_option maxHeartbeats 2000000 in
theorem lc_3 {b L0 : Nat} {xs : Nat → Int32} {g : rf_G} {aS aC aM : Nat → Nat} {k n i : Nat} {C G : rf_Mem} (hi4 : i + 4 ≤ L0) (hL0 : L0 ≤ 2048) (haC : ∀ i, 1000 ≤ i → aC i = aS i) (haM : ∀ i, 1000 ≤ i → aM i = aS i) (hk : k ≤ 600000) (hn : n ≤ 7302250) (hR : Rg C G) (ih : ∀ C G, Rg C G → EvW b L0 xs g aS 18 [some (.ref b), some (.ref (aC 0)), some (.ref (aM 0)), some (.int (nI (i + 4)))] [] (rf_W g aC C 0 LayC ++ rf_W g aM G 0 LayM) k n) : EvW b L0 xs g aS 265 [some (.ref b), some (.ref (aC 0)), some (.ref (aM 0)), some (.int (nI (i)))] [] (rf_W g aC C 0 LayC ++ rf_W g aM G 0 LayM) k n := by
  obtain ⟨r, C', G', e1, e2, hR'⟩ := (@op_told (xs (i + 1))) C G hR
  refine lq_aload dL_law_265 rfl ?_
  refine lq_aload dL_law_266 rfl ?_
  refine lq_iload dL_law_267 rfl ?_
  refine lq_iconst (v := nI 1) dL_law_268 (by decide) ?_
  refine lq_iadd dL_law_269 ?_
  refine lq_sld (i + 1) dL_law_270 (nI_add _ _) (by omega) (by omega) ?_
  refine lq_call (ws := []) (a1 := aC) (a2 := aM) [.int (xs (i + 1))] dL_law_271 rfl ceX6_told (iw_15 _ (List.mem_of_getElem? (i := 9) rfl)) (rm_le rfl rfl) rfl rfl rfl (Nat.le_of_ble_eq_true rfl) (Nat.le_of_ble_eq_true rfl) haC hk hn e1 ?_
  refine lq_aload dL_law_274 rfl ?_
  refine lq_aload dL_law_275 rfl ?_
  refine lq_iload dL_law_276 rfl ?_
  refine lq_iconst (v := nI 1) dL_law_277 (by decide) ?_
  refine lq_iadd dL_law_278 ?_
  refine lq_sld (i + 1) dL_law_279 (nI_add _ _) (by omega) (by omega) ?_
  refine lq_call (ws := []) (a1 := aM) (a2 := aC) [.int (xs (i + 1))] dL_law_280 rfl ceX7_told (iw_17 _ (List.mem_of_getElem? (i := 8) rfl)) (rm_le rfl rfl) rfl rfl rfl (Nat.le_of_ble_eq_true rfl) (Nat.le_of_ble_eq_true rfl) haM hk hn e2 ?_
  refine lq_eq 1122 dL_law_283 (by decide) ?_
  exact lc_end (ih C' G' hR')
set_option maxRecDepth 20000 in
set_option maxHeartbeats 2000000 in
theorem lc_4 {b L0 : Nat} {xs : Nat → Int32} {g : rf_G} {aS aC aM : Nat → Nat} {k n i : Nat} {C G : rf_Mem} (hi4 : i + 4 ≤ L0) (hL0 : L0 ≤ 2048) (haC : ∀ i, 1000 ≤ i → aC i = aS i) (haM : ∀ i, 1000 ≤ i → aM i = aS i) (hk : k ≤ 600000) (hn : n ≤ 7302250) (hR : Rg C G) (ih : ∀ C G, Rg C G → EvW b L0 xs g aS 18 [some (.ref b), some (.ref (aC 0)), some (.ref (aM 0)), some (.int (nI (i + 4)))] [] (rf_W g aC C 0 LayC ++ rf_W g aM G 0 LayM) k n) : EvW b L0 xs g aS 288 [some (.ref b), some (.ref (aC 0)), some (.ref (aM 0)), some (.int (nI (i)))] [] (rf_W g aC C 0 LayC ++ rf_W g aM G 0 LayM) k n := by
  obtain ⟨r, C', G', e1, e2, hR'⟩ := (@op_line (xs (i + 1)) (xs (i + 2))) C G hR
  refine lq_aload dL_law_288 rfl ?_
  refine lq_aload dL_law_289 rfl ?_
  refine lq_iload dL_law_290 rfl ?_
  refine lq_iconst (v := nI 1) dL_law_291 (by decide) ?_
  refine lq_iadd dL_law_292 ?_
  refine lq_sld (i + 1) dL_law_293 (nI_add _ _) (by omega) (by omega) ?_
  refine lq_aload dL_law_294 rfl ?_
  refine lq_iload dL_law_295 rfl ?_
  refine lq_iconst (v := nI 2) dL_law_296 (by decide) ?_
  refine lq_iadd dL_law_297 ?_
  refine lq_sld (i + 2) dL_law_298 (nI_add _ _) (by omega) (by omega) ?_
  refine lq_call (ws := []) (a1 := aC) (a2 := aM) [.int (xs (i + 1)), .int (xs (i + 2))] dL_law_299 rfl ceX6_line (iw_17 _ (List.mem_of_getElem? (i := 23) rfl)) (rm_le rfl rfl) rfl rfl rfl (Nat.le_of_ble_eq_true rfl) (Nat.le_of_ble_eq_true rfl) haC hk hn e1 ?_
  refine lq_aload dL_law_302 rfl ?_
  refine lq_aload dL_law_303 rfl ?_
  refine lq_iload dL_law_304 rfl ?_
  refine lq_iconst (v := nI 1) dL_law_305 (by decide) ?_
  refine lq_iadd dL_law_306 ?_
  refine lq_sld (i + 1) dL_law_307 (nI_add _ _) (by omega) (by omega) ?_
  refine lq_aload dL_law_308 rfl ?_
  refine lq_iload dL_law_309 rfl ?_
  refine lq_iconst (v := nI 2) dL_law_310 (by decide) ?_
  refine lq_iadd dL_law_311 ?_
  refine lq_sld (i + 2) dL_law_312 (nI_add _ _) (by omega) (by omega) ?_
  refine lq_call (ws := []) (a1 := aM) (a2 := aC) [.int (xs (i + 1)), .int (xs (i + 2))] dL_law_313 rfl ceX7_line (iw_19 _ (List.mem_of_getElem? (i := 20) rfl)) (rm_le rfl rfl) rfl rfl rfl (Nat.le_of_ble_eq_true rfl) (Nat.le_of_ble_eq_true rfl) haM hk hn e2 ?_
  refine lq_eq 1122 dL_law_316 (by decide) ?_
  exact lc_end (ih C' G' hR')
set_option maxRecDepth 20000 in
set_option maxHeartbeats 2000000 in
theorem lc_5 {b L0 : Nat} {xs : Nat → Int32} {g : rf_G} {aS aC aM : Nat → Nat} {k n i : Nat} {C G : rf_Mem} (hi4 : i + 4 ≤ L0) (hL0 : L0 ≤ 2048) (haC : ∀ i, 1000 ≤ i → aC i = aS i) (haM : ∀ i, 1000 ≤ i → aM i = aS i) (hk : k ≤ 600000) (hn : n ≤ 7302250) (hR : Rg C G) (ih : ∀ C G, Rg C G → EvW b L0 xs g aS 18 [some (.ref b), some (.ref (aC 0)), some (.ref (aM 0)), some (.int (nI (i + 4)))] [] (rf_W g aC C 0 LayC ++ rf_W g aM G 0 LayM) k n) : EvW b L0 xs g aS 321 [some (.ref b), some (.ref (aC 0)), some (.ref (aM 0)), some (.int (nI (i)))] [] (rf_W g aC C 0 LayC ++ rf_W g aM G 0 LayM) k n := by
  obtain ⟨r, C', G', e1, e2, hR'⟩ := (@op_reader (xs (i + 1)) (xs (i + 2))) C G hR
  refine lq_aload dL_law_321 rfl ?_
  refine lq_aload dL_law_322 rfl ?_
  refine lq_iload dL_law_323 rfl ?_
  refine lq_iconst (v := nI 1) dL_law_324 (by decide) ?_
  refine lq_iadd dL_law_325 ?_
  refine lq_sld (i + 1) dL_law_326 (nI_add _ _) (by omega) (by omega) ?_
  refine lq_aload dL_law_327 rfl ?_
  refine lq_iload dL_law_328 rfl ?_
  refine lq_iconst (v := nI 2) dL_law_329 (by decide) ?_
  refine lq_iadd dL_law_330 ?_
  refine lq_sld (i + 2) dL_law_331 (nI_add _ _) (by omega) (by omega) ?_
  refine lq_call (ws := []) (a1 := aC) (a2 := aM) [.int (xs (i + 1)), .int (xs (i + 2))] dL_law_332 rfl ceX6_reader (iw_21 _ (List.mem_of_getElem? (i := 0) rfl)) (rm_le rfl rfl) rfl rfl rfl (Nat.le_of_ble_eq_true rfl) (Nat.le_of_ble_eq_true rfl) haC hk hn e1 ?_
  refine lq_aload dL_law_335 rfl ?_
  refine lq_aload dL_law_336 rfl ?_
  refine lq_iload dL_law_337 rfl ?_
  refine lq_iconst (v := nI 1) dL_law_338 (by decide) ?_
  refine lq_iadd dL_law_339 ?_
  refine lq_sld (i + 1) dL_law_340 (nI_add _ _) (by omega) (by omega) ?_
  refine lq_aload dL_law_341 rfl ?_
  refine lq_iload dL_law_342 rfl ?_
  refine lq_iconst (v := nI 2) dL_law_343 (by decide) ?_
  refine lq_iadd dL_law_344 ?_
  refine lq_sld (i + 2) dL_law_345 (nI_add _ _) (by omega) (by omega) ?_
  refine lq_call (ws := []) (a1 := aM) (a2 := aC) [.int (xs (i + 1)), .int (xs (i + 2))] dL_law_346 rfl ceX7_reader (iw_21 _ (List.mem_of_getElem? (i := 14) rfl)) (rm_le rfl rfl) rfl rfl rfl (Nat.le_of_ble_eq_true rfl) (Nat.le_of_ble_eq_true rfl) haM hk hn e2 ?_
  refine lq_eq 1122 dL_law_349 (by decide) ?_
  exact lc_end (ih C' G' hR')
set_option maxRecDepth 20000 in
set_option maxHeartbeats 2000000 in
theorem lc_6 {b L0 : Nat} {xs : Nat → Int32} {g : rf_G} {aS aC aM : Nat → Nat} {k n i : Nat} {C G : rf_Mem} (hi4 : i + 4 ≤ L0) (hL0 : L0 ≤ 2048) (haC : ∀ i, 1000 ≤ i → aC i = aS i) (haM : ∀ i, 1000 ≤ i → aM i = aS i) (hk : k ≤ 600000) (hn : n ≤ 7302250) (hR : Rg C G) (ih : ∀ C G, Rg C G → EvW b L0 xs g aS 18 [some (.ref b), some (.ref (aC 0)), some (.ref (aM 0)), some (.int (nI (i + 4)))] [] (rf_W g aC C 0 LayC ++ rf_W g aM G 0 LayM) k n) : EvW b L0 xs g aS 354 [some (.ref b), some (.ref (aC 0)), some (.ref (aM 0)), some (.int (nI (i)))] [] (rf_W g aC C 0 LayC ++ rf_W g aM G 0 LayM) k n := by
  obtain ⟨r, C', G', e1, e2, hR'⟩ := (@op_page (xs (i + 1)) (xs (i + 2))) C G hR
  refine lq_aload dL_law_354 rfl ?_
  refine lq_aload dL_law_355 rfl ?_
  refine lq_iload dL_law_356 rfl ?_
  refine lq_iconst (v := nI 1) dL_law_357 (by decide) ?_
  refine lq_iadd dL_law_358 ?_
  refine lq_sld (i + 1) dL_law_359 (nI_add _ _) (by omega) (by omega) ?_
  refine lq_aload dL_law_360 rfl ?_
  refine lq_iload dL_law_361 rfl ?_
  refine lq_iconst (v := nI 2) dL_law_362 (by decide) ?_
  refine lq_iadd dL_law_363 ?_
  refine lq_sld (i + 2) dL_law_364 (nI_add _ _) (by omega) (by omega) ?_
  refine lq_call (ws := []) (a1 := aC) (a2 := aM) [.int (xs (i + 1)), .int (xs (i + 2))] dL_law_365 rfl ceX6_page (iw_22 _ (List.mem_of_getElem? (i := 2) rfl)) (rm_le rfl rfl) rfl rfl rfl (Nat.le_of_ble_eq_true rfl) (Nat.le_of_ble_eq_true rfl) haC hk hn e1 ?_
  refine lq_aload dL_law_368 rfl ?_
  refine lq_aload dL_law_369 rfl ?_
  refine lq_iload dL_law_370 rfl ?_
  refine lq_iconst (v := nI 1) dL_law_371 (by decide) ?_
  refine lq_iadd dL_law_372 ?_
  refine lq_sld (i + 1) dL_law_373 (nI_add _ _) (by omega) (by omega) ?_
  refine lq_aload dL_law_374 rfl ?_
  refine lq_iload dL_law_375 rfl ?_
  refine lq_iconst (v := nI 2) dL_law_376 (by decide) ?_
  refine lq_iadd dL_law_377 ?_
  refine lq_sld (i + 2) dL_law_378 (nI_add _ _) (by omega) (by omega) ?_
  refine lq_call (ws := []) (a1 := aM) (a2 := aC) [.int (xs (i + 1)), .int (xs (i + 2))] dL_law_379 rfl ceX7_page (iw_22 _ (List.mem_of_getElem? (i := 17) rfl)) (rm_le rfl rfl) rfl rfl rfl (Nat.le_of_ble_eq_true rfl) (Nat.le_of_ble_eq_true rfl) haM hk hn e2 ?_
  refine lq_eq 1122 dL_law_382 (by decide) ?_
  exact lc_end (ih C' G' hR')
set_option maxRecDepth 20000 in
set_option maxHeartbeats 2000000 in
theorem lc_7 {b L0 : Nat} {xs : Nat → Int32} {g : rf_G} {aS aC aM : Nat → Nat} {k n i : Nat} {C G : rf_Mem} (hi4 : i + 4 ≤ L0) (hL0 : L0 ≤ 2048) (haC : ∀ i, 1000 ≤ i → aC i = aS i) (haM : ∀ i, 1000 ≤ i → aM i = aS i) (hk : k ≤ 600000) (hn : n ≤ 7302250) (hR : Rg C G) (ih : ∀ C G, Rg C G → EvW b L0 xs g aS 18 [some (.ref b), some (.ref (aC 0)), some (.ref (aM 0)), some (.int (nI (i + 4)))] [] (rf_W g aC C 0 LayC ++ rf_W g aM G 0 LayM) k n) : EvW b L0 xs g aS 387 [some (.ref b), some (.ref (aC 0)), some (.ref (aM 0)), some (.int (nI (i)))] [] (rf_W g aC C 0 LayC ++ rf_W g aM G 0 LayM) k n := by
  obtain ⟨r, C', G', e1, e2, hR'⟩ := (@op_knows (xs (i + 1)) (xs (i + 2)) (xs (i + 3))) C G hR
  refine lq_aload dL_law_387 rfl ?_
  refine lq_aload dL_law_388 rfl ?_
  refine lq_iload dL_law_389 rfl ?_
  refine lq_iconst (v := nI 1) dL_law_390 (by decide) ?_
  refine lq_iadd dL_law_391 ?_
  refine lq_sld (i + 1) dL_law_392 (nI_add _ _) (by omega) (by omega) ?_
  refine lq_aload dL_law_393 rfl ?_
  refine lq_iload dL_law_394 rfl ?_
  refine lq_iconst (v := nI 2) dL_law_395 (by decide) ?_
  refine lq_iadd dL_law_396 ?_
  refine lq_sld (i + 2) dL_law_397 (nI_add _ _) (by omega) (by omega) ?_
  refine lq_aload dL_law_398 rfl ?_
  refine lq_iload dL_law_399 rfl ?_
  refine lq_iconst (v := nI 3) dL_law_400 (by decide) ?_
  refine lq_iadd dL_law_401 ?_
  refine lq_sld (i + 3) dL_law_402 (nI_add _ _) (by omega) (by omega) ?_
  refine lq_call (ws := []) (a1 := aC) (a2 := aM) [.int (xs (i + 1)), .int (xs (i + 2)), .int (xs (i + 3))] dL_law_403 rfl ceX6_knows (iw_23 _ (List.mem_of_getElem? (i := 5) rfl)) (rm_le rfl rfl) rfl rfl rfl (Nat.le_of_ble_eq_true rfl) (Nat.le_of_ble_eq_true rfl) haC hk hn e1 ?_
  refine lq_aload dL_law_406 rfl ?_
  refine lq_aload dL_law_407 rfl ?_
  refine lq_iload dL_law_408 rfl ?_
  refine lq_iconst (v := nI 1) dL_law_409 (by decide) ?_
  refine lq_iadd dL_law_410 ?_
  refine lq_sld (i + 1) dL_law_411 (nI_add _ _) (by omega) (by omega) ?_
  refine lq_aload dL_law_412 rfl ?_
  refine lq_iload dL_law_413 rfl ?_
  refine lq_iconst (v := nI 2) dL_law_414 (by decide) ?_
  refine lq_iadd dL_law_415 ?_
  refine lq_sld (i + 2) dL_law_416 (nI_add _ _) (by omega) (by omega) ?_
  refine lq_aload dL_law_417 rfl ?_
  refine lq_iload dL_law_418 rfl ?_
  refine lq_iconst (v := nI 3) dL_law_419 (by decide) ?_
  refine lq_iadd dL_law_420 ?_
  refine lq_sld (i + 3) dL_law_421 (nI_add _ _) (by omega) (by omega) ?_
  refine lq_call (ws := []) (a1 := aM) (a2 := aC) [.int (xs (i + 1)), .int (xs (i + 2)), .int (xs (i + 3))] dL_law_422 rfl ceX7_knows (iw_23 _ (List.mem_of_getElem? (i := 15) rfl)) (rm_le rfl rfl) rfl rfl rfl (Nat.le_of_ble_eq_true rfl) (Nat.le_of_ble_eq_true rfl) haM hk hn e2 ?_
  refine lq_eq 1122 dL_law_425 (by decide) ?_
  exact lc_end (ih C' G' hR')
set_option maxRecDepth 20000 in
set_option maxHeartbeats 2000000 in
theorem lc_8 {b L0 : Nat} {xs : Nat → Int32} {g : rf_G} {aS aC aM : Nat → Nat} {k n i : Nat} {C G : rf_Mem} (hi4 : i + 4 ≤ L0) (hL0 : L0 ≤ 2048) (haC : ∀ i, 1000 ≤ i → aC i = aS i) (haM : ∀ i, 1000 ≤ i → aM i = aS i) (hk : k ≤ 600000) (hn : n ≤ 7302250) (hR : Rg C G) (ih : ∀ C G, Rg C G → EvW b L0 xs g aS 18 [some (.ref b), some (.ref (aC 0)), some (.ref (aM 0)), some (.int (nI (i + 4)))] [] (rf_W g aC C 0 LayC ++ rf_W g aM G 0 LayM) k n) : EvW b L0 xs g aS 430 [some (.ref b), some (.ref (aC 0)), some (.ref (aM 0)), some (.int (nI (i)))] [] (rf_W g aC C 0 LayC ++ rf_W g aM G 0 LayM) k n := by
  obtain ⟨r, C', G', e1, e2, hR'⟩ := (@op_reading (xs (i + 1)) (xs (i + 2))) C G hR
  refine lq_aload dL_law_430 rfl ?_
  refine lq_aload dL_law_431 rfl ?_
  refine lq_iload dL_law_432 rfl ?_
  refine lq_iconst (v := nI 1) dL_law_433 (by decide) ?_
  refine lq_iadd dL_law_434 ?_
  refine lq_sld (i + 1) dL_law_435 (nI_add _ _) (by omega) (by omega) ?_
  refine lq_aload dL_law_436 rfl ?_
  refine lq_iload dL_law_437 rfl ?_
  refine lq_iconst (v := nI 2) dL_law_438 (by decide) ?_
  refine lq_iadd dL_law_439 ?_
  refine lq_sld (i + 2) dL_law_440 (nI_add _ _) (by omega) (by omega) ?_
  refine lq_call (ws := []) (a1 := aC) (a2 := aM) [.int (xs (i + 1)), .int (xs (i + 2))] dL_law_441 rfl ceX6_reading (iw_23 _ (List.mem_of_getElem? (i := 19) rfl)) (rm_le rfl rfl) rfl rfl rfl (Nat.le_of_ble_eq_true rfl) (Nat.le_of_ble_eq_true rfl) haC hk hn e1 ?_
  refine lq_aload dL_law_444 rfl ?_
  refine lq_aload dL_law_445 rfl ?_
  refine lq_iload dL_law_446 rfl ?_
  refine lq_iconst (v := nI 1) dL_law_447 (by decide) ?_
  refine lq_iadd dL_law_448 ?_
  refine lq_sld (i + 1) dL_law_449 (nI_add _ _) (by omega) (by omega) ?_
  refine lq_aload dL_law_450 rfl ?_
  refine lq_iload dL_law_451 rfl ?_
  refine lq_iconst (v := nI 2) dL_law_452 (by decide) ?_
  refine lq_iadd dL_law_453 ?_
  refine lq_sld (i + 2) dL_law_454 (nI_add _ _) (by omega) (by omega) ?_
  refine lq_call (ws := []) (a1 := aM) (a2 := aC) [.int (xs (i + 1)), .int (xs (i + 2))] dL_law_455 rfl ceX7_reading (iw_24 _ (List.mem_of_getElem? (i := 2) rfl)) (rm_le rfl rfl) rfl rfl rfl (Nat.le_of_ble_eq_true rfl) (Nat.le_of_ble_eq_true rfl) haM hk hn e2 ?_
  refine lq_eq 1122 dL_law_458 (by decide) ?_
  exact lc_end (ih C' G' hR')
set_option maxRecDepth 20000 in
set_option maxHeartbeats 2000000 in
theorem lc_9 {b L0 : Nat} {xs : Nat → Int32} {g : rf_G} {aS aC aM : Nat → Nat} {k n i : Nat} {C G : rf_Mem} (hi4 : i + 4 ≤ L0) (hL0 : L0 ≤ 2048) (haC : ∀ i, 1000 ≤ i → aC i = aS i) (haM : ∀ i, 1000 ≤ i → aM i = aS i) (hk : k ≤ 600000) (hn : n ≤ 7302250) (hR : Rg C G) (ih : ∀ C G, Rg C G → EvW b L0 xs g aS 18 [some (.ref b), some (.ref (aC 0)), some (.ref (aM 0)), some (.int (nI (i + 4)))] [] (rf_W g aC C 0 LayC ++ rf_W g aM G 0 LayM) k n) : EvW b L0 xs g aS 463 [some (.ref b), some (.ref (aC 0)), some (.ref (aM 0)), some (.int (nI (i)))] [] (rf_W g aC C 0 LayC ++ rf_W g aM G 0 LayM) k n := by
  obtain ⟨r, C', G', e1, e2, hR'⟩ := (@op_read (xs (i + 1)) (xs (i + 2))) C G hR
  refine lq_aload dL_law_463 rfl ?_
  refine lq_aload dL_law_464 rfl ?_
  refine lq_iload dL_law_465 rfl ?_
  refine lq_iconst (v := nI 1) dL_law_466 (by decide) ?_
  refine lq_iadd dL_law_467 ?_
  refine lq_sld (i + 1) dL_law_468 (nI_add _ _) (by omega) (by omega) ?_
  refine lq_aload dL_law_469 rfl ?_
  refine lq_iload dL_law_470 rfl ?_
  refine lq_iconst (v := nI 2) dL_law_471 (by decide) ?_
  refine lq_iadd dL_law_472 ?_
  refine lq_sld (i + 2) dL_law_473 (nI_add _ _) (by omega) (by omega) ?_
  refine lq_call (ws := []) (a1 := aC) (a2 := aM) [.int (xs (i + 1)), .int (xs (i + 2))] dL_law_474 rfl ceX6_read (iw_24 _ (List.mem_of_getElem? (i := 7) rfl)) (rm_le rfl rfl) rfl rfl rfl (Nat.le_of_ble_eq_true rfl) (Nat.le_of_ble_eq_true rfl) haC hk hn e1 ?_
  refine lq_aload dL_law_477 rfl ?_
  refine lq_aload dL_law_478 rfl ?_
  refine lq_iload dL_law_479 rfl ?_
  refine lq_iconst (v := nI 1) dL_law_480 (by decide) ?_
  refine lq_iadd dL_law_481 ?_
  refine lq_sld (i + 1) dL_law_482 (nI_add _ _) (by omega) (by omega) ?_
  refine lq_aload dL_law_483 rfl ?_
  refine lq_iload dL_law_484 rfl ?_
  refine lq_iconst (v := nI 2) dL_law_485 (by decide) ?_
  refine lq_iadd dL_law_486 ?_
  refine lq_sld (i + 2) dL_law_487 (nI_add _ _) (by omega) (by omega) ?_
  refine lq_call (ws := []) (a1 := aM) (a2 := aC) [.int (xs (i + 1)), .int (xs (i + 2))] dL_law_488 rfl ceX7_read (iw_25 _ (List.mem_of_getElem? (i := 5) rfl)) (rm_le rfl rfl) rfl rfl rfl (Nat.le_of_ble_eq_true rfl) (Nat.le_of_ble_eq_true rfl) haM hk hn e2 ?_
  refine lq_eq 1122 dL_law_491 (by decide) ?_
  exact lc_end (ih C' G' hR')
set_option maxRecDepth 20000 in
set_option maxHeartbeats 2000000 in
theorem lc_10 {b L0 : Nat} {xs : Nat → Int32} {g : rf_G} {aS aC aM : Nat → Nat} {k n i : Nat} {C G : rf_Mem} (hi4 : i + 4 ≤ L0) (hL0 : L0 ≤ 2048) (haC : ∀ i, 1000 ≤ i → aC i = aS i) (haM : ∀ i, 1000 ≤ i → aM i = aS i) (hk : k ≤ 600000) (hn : n ≤ 7302250) (hR : Rg C G) (ih : ∀ C G, Rg C G → EvW b L0 xs g aS 18 [some (.ref b), some (.ref (aC 0)), some (.ref (aM 0)), some (.int (nI (i + 4)))] [] (rf_W g aC C 0 LayC ++ rf_W g aM G 0 LayM) k n) : EvW b L0 xs g aS 496 [some (.ref b), some (.ref (aC 0)), some (.ref (aM 0)), some (.int (nI (i)))] [] (rf_W g aC C 0 LayC ++ rf_W g aM G 0 LayM) k n := by
  obtain ⟨r, C', G', e1, e2, hR'⟩ := (@op_copy (xs (i + 1)) (xs (i + 2))) C G hR
  refine lq_aload dL_law_496 rfl ?_
  refine lq_aload dL_law_497 rfl ?_
  refine lq_iload dL_law_498 rfl ?_
  refine lq_iconst (v := nI 1) dL_law_499 (by decide) ?_
  refine lq_iadd dL_law_500 ?_
  refine lq_sld (i + 1) dL_law_501 (nI_add _ _) (by omega) (by omega) ?_
  refine lq_aload dL_law_502 rfl ?_
  refine lq_iload dL_law_503 rfl ?_
  refine lq_iconst (v := nI 2) dL_law_504 (by decide) ?_
  refine lq_iadd dL_law_505 ?_
  refine lq_sld (i + 2) dL_law_506 (nI_add _ _) (by omega) (by omega) ?_
  refine lq_call (ws := []) (a1 := aC) (a2 := aM) [.int (xs (i + 1)), .int (xs (i + 2))] dL_law_507 rfl ceX6_copy (iw_25 _ (List.mem_of_getElem? (i := 18) rfl)) (rm_le rfl rfl) rfl rfl rfl (Nat.le_of_ble_eq_true rfl) (Nat.le_of_ble_eq_true rfl) haC hk hn e1 ?_
  refine lq_aload dL_law_510 rfl ?_
  refine lq_aload dL_law_511 rfl ?_
  refine lq_iload dL_law_512 rfl ?_
  refine lq_iconst (v := nI 1) dL_law_513 (by decide) ?_
  refine lq_iadd dL_law_514 ?_
  refine lq_sld (i + 1) dL_law_515 (nI_add _ _) (by omega) (by omega) ?_
  refine lq_aload dL_law_516 rfl ?_
  refine lq_iload dL_law_517 rfl ?_
  refine lq_iconst (v := nI 2) dL_law_518 (by decide) ?_
  refine lq_iadd dL_law_519 ?_
  refine lq_sld (i + 2) dL_law_520 (nI_add _ _) (by omega) (by omega) ?_
  refine lq_call (ws := []) (a1 := aM) (a2 := aC) [.int (xs (i + 1)), .int (xs (i + 2))] dL_law_521 rfl ceX7_copy (iw_26 _ (List.mem_of_getElem? (i := 16) rfl)) (rm_le rfl rfl) rfl rfl rfl (Nat.le_of_ble_eq_true rfl) (Nat.le_of_ble_eq_true rfl) haM hk hn e2 ?_
  refine lq_eq 1122 dL_law_524 (by decide) ?_
  exact lc_end (ih C' G' hR')
set_option maxRecDepth 20000 in
set_option maxHeartbeats 2000000 in
theorem lc_11 {b L0 : Nat} {xs : Nat → Int32} {g : rf_G} {aS aC aM : Nat → Nat} {k n i : Nat} {C G : rf_Mem} (hi4 : i + 4 ≤ L0) (hL0 : L0 ≤ 2048) (haC : ∀ i, 1000 ≤ i → aC i = aS i) (haM : ∀ i, 1000 ≤ i → aM i = aS i) (hk : k ≤ 600000) (hn : n ≤ 7302250) (hR : Rg C G) (ih : ∀ C G, Rg C G → EvW b L0 xs g aS 18 [some (.ref b), some (.ref (aC 0)), some (.ref (aM 0)), some (.int (nI (i + 4)))] [] (rf_W g aC C 0 LayC ++ rf_W g aM G 0 LayM) k n) : EvW b L0 xs g aS 529 [some (.ref b), some (.ref (aC 0)), some (.ref (aM 0)), some (.int (nI (i)))] [] (rf_W g aC C 0 LayC ++ rf_W g aM G 0 LayM) k n := by
  obtain ⟨r, C', G', e1, e2, hR'⟩ := (@op_write (xs (i + 1)) (xs (i + 2))) C G hR
  refine lq_aload dL_law_529 rfl ?_
  refine lq_aload dL_law_530 rfl ?_
  refine lq_iload dL_law_531 rfl ?_
  refine lq_iconst (v := nI 1) dL_law_532 (by decide) ?_
  refine lq_iadd dL_law_533 ?_
  refine lq_sld (i + 1) dL_law_534 (nI_add _ _) (by omega) (by omega) ?_
  refine lq_aload dL_law_535 rfl ?_
  refine lq_iload dL_law_536 rfl ?_
  refine lq_iconst (v := nI 2) dL_law_537 (by decide) ?_
  refine lq_iadd dL_law_538 ?_
  refine lq_sld (i + 2) dL_law_539 (nI_add _ _) (by omega) (by omega) ?_
  refine lq_call (ws := []) (a1 := aC) (a2 := aM) [.int (xs (i + 1)), .int (xs (i + 2))] dL_law_540 rfl ceX6_write (iw_27 _ (List.mem_of_getElem? (i := 8) rfl)) (rm_le rfl rfl) rfl rfl rfl (Nat.le_of_ble_eq_true rfl) (Nat.le_of_ble_eq_true rfl) haC hk hn e1 ?_
  refine lq_aload dL_law_543 rfl ?_
  refine lq_aload dL_law_544 rfl ?_
  refine lq_iload dL_law_545 rfl ?_
  refine lq_iconst (v := nI 1) dL_law_546 (by decide) ?_
  refine lq_iadd dL_law_547 ?_
  refine lq_sld (i + 1) dL_law_548 (nI_add _ _) (by omega) (by omega) ?_
  refine lq_aload dL_law_549 rfl ?_
  refine lq_iload dL_law_550 rfl ?_
  refine lq_iconst (v := nI 2) dL_law_551 (by decide) ?_
  refine lq_iadd dL_law_552 ?_
  refine lq_sld (i + 2) dL_law_553 (nI_add _ _) (by omega) (by omega) ?_
  refine lq_call (ws := []) (a1 := aM) (a2 := aC) [.int (xs (i + 1)), .int (xs (i + 2))] dL_law_554 rfl ceX7_write (iw_27 _ (List.mem_of_getElem? (i := 12) rfl)) (rm_le rfl rfl) rfl rfl rfl (Nat.le_of_ble_eq_true rfl) (Nat.le_of_ble_eq_true rfl) haM hk hn e2 ?_
  refine lq_eq 1122 dL_law_557 (by decide) ?_
  exact lc_end (ih C' G' hR')
set_option maxRecDepth 20000 in
set_option maxHeartbeats 2000000 in
theorem lc_12 {b L0 : Nat} {xs : Nat → Int32} {g : rf_G} {aS aC aM : Nat → Nat} {k n i : Nat} {C G : rf_Mem} (hi4 : i + 4 ≤ L0) (hL0 : L0 ≤ 2048) (haC : ∀ i, 1000 ≤ i → aC i = aS i) (haM : ∀ i, 1000 ≤ i → aM i = aS i) (hk : k ≤ 600000) (hn : n ≤ 7302250) (hR : Rg C G) (ih : ∀ C G, Rg C G → EvW b L0 xs g aS 18 [some (.ref b), some (.ref (aC 0)), some (.ref (aM 0)), some (.int (nI (i + 4)))] [] (rf_W g aC C 0 LayC ++ rf_W g aM G 0 LayM) k n) : EvW b L0 xs g aS 562 [some (.ref b), some (.ref (aC 0)), some (.ref (aM 0)), some (.int (nI (i)))] [] (rf_W g aC C 0 LayC ++ rf_W g aM G 0 LayM) k n := by
  obtain ⟨r, C', G', e1, e2, hR'⟩ := (@op_teach (xs (i + 1)) (xs (i + 2)) (xs (i + 3))) C G hR
  refine lq_aload dL_law_562 rfl ?_
  refine lq_aload dL_law_563 rfl ?_
  refine lq_iload dL_law_564 rfl ?_
  refine lq_iconst (v := nI 1) dL_law_565 (by decide) ?_
  refine lq_iadd dL_law_566 ?_
  refine lq_sld (i + 1) dL_law_567 (nI_add _ _) (by omega) (by omega) ?_
  refine lq_aload dL_law_568 rfl ?_
  refine lq_iload dL_law_569 rfl ?_
  refine lq_iconst (v := nI 2) dL_law_570 (by decide) ?_
  refine lq_iadd dL_law_571 ?_
  refine lq_sld (i + 2) dL_law_572 (nI_add _ _) (by omega) (by omega) ?_
  refine lq_aload dL_law_573 rfl ?_
  refine lq_iload dL_law_574 rfl ?_
  refine lq_iconst (v := nI 3) dL_law_575 (by decide) ?_
  refine lq_iadd dL_law_576 ?_
  refine lq_sld (i + 3) dL_law_577 (nI_add _ _) (by omega) (by omega) ?_
  refine lq_call (ws := []) (a1 := aC) (a2 := aM) [.int (xs (i + 1)), .int (xs (i + 2)), .int (xs (i + 3))] dL_law_578 rfl ceX6_teach (iw_27 _ (List.mem_of_getElem? (i := 16) rfl)) (rm_le rfl rfl) rfl rfl rfl (Nat.le_of_ble_eq_true rfl) (Nat.le_of_ble_eq_true rfl) haC hk hn e1 ?_
  refine lq_aload dL_law_581 rfl ?_
  refine lq_aload dL_law_582 rfl ?_
  refine lq_iload dL_law_583 rfl ?_
  refine lq_iconst (v := nI 1) dL_law_584 (by decide) ?_
  refine lq_iadd dL_law_585 ?_
  refine lq_sld (i + 1) dL_law_586 (nI_add _ _) (by omega) (by omega) ?_
  refine lq_aload dL_law_587 rfl ?_
  refine lq_iload dL_law_588 rfl ?_
  refine lq_iconst (v := nI 2) dL_law_589 (by decide) ?_
  refine lq_iadd dL_law_590 ?_
  refine lq_sld (i + 2) dL_law_591 (nI_add _ _) (by omega) (by omega) ?_
  refine lq_aload dL_law_592 rfl ?_
  refine lq_iload dL_law_593 rfl ?_
  refine lq_iconst (v := nI 3) dL_law_594 (by decide) ?_
  refine lq_iadd dL_law_595 ?_
  refine lq_sld (i + 3) dL_law_596 (nI_add _ _) (by omega) (by omega) ?_
  refine lq_call (ws := []) (a1 := aM) (a2 := aC) [.int (xs (i + 1)), .int (xs (i + 2)), .int (xs (i + 3))] dL_law_597 rfl ceX7_teach (iw_27 _ (List.mem_of_getElem? (i := 21) rfl)) (rm_le rfl rfl) rfl rfl rfl (Nat.le_of_ble_eq_true rfl) (Nat.le_of_ble_eq_true rfl) haM hk hn e2 ?_
  refine lq_eq 1122 dL_law_600 (by decide) ?_
  exact lc_end (ih C' G' hR')
set_option maxRecDepth 20000 in
set_option maxHeartbeats 2000000 in
theorem lc_13 {b L0 : Nat} {xs : Nat → Int32} {g : rf_G} {aS aC aM : Nat → Nat} {k n i : Nat} {C G : rf_Mem} (hi4 : i + 4 ≤ L0) (hL0 : L0 ≤ 2048) (haC : ∀ i, 1000 ≤ i → aC i = aS i) (haM : ∀ i, 1000 ≤ i → aM i = aS i) (hk : k ≤ 600000) (hn : n ≤ 7302250) (hR : Rg C G) (ih : ∀ C G, Rg C G → EvW b L0 xs g aS 18 [some (.ref b), some (.ref (aC 0)), some (.ref (aM 0)), some (.int (nI (i + 4)))] [] (rf_W g aC C 0 LayC ++ rf_W g aM G 0 LayM) k n) : EvW b L0 xs g aS 605 [some (.ref b), some (.ref (aC 0)), some (.ref (aM 0)), some (.int (nI (i)))] [] (rf_W g aC C 0 LayC ++ rf_W g aM G 0 LayM) k n := by
  obtain ⟨r, C', G', e1, e2, hR'⟩ := (@op_dusk (xs (i + 1))) C G hR
  refine lq_aload dL_law_605 rfl ?_
  refine lq_aload dL_law_606 rfl ?_
  refine lq_iload dL_law_607 rfl ?_
  refine lq_iconst (v := nI 1) dL_law_608 (by decide) ?_
  refine lq_iadd dL_law_609 ?_
  refine lq_sld (i + 1) dL_law_610 (nI_add _ _) (by omega) (by omega) ?_
  refine lq_call (ws := []) (a1 := aC) (a2 := aM) [.int (xs (i + 1))] dL_law_611 rfl ceX6_dusk (iw_28 _ (List.mem_of_getElem? (i := 1) rfl)) (rm_le rfl rfl) rfl rfl rfl (Nat.le_of_ble_eq_true rfl) (Nat.le_of_ble_eq_true rfl) haC hk hn e1 ?_
  refine lq_aload dL_law_614 rfl ?_
  refine lq_aload dL_law_615 rfl ?_
  refine lq_iload dL_law_616 rfl ?_
  refine lq_iconst (v := nI 1) dL_law_617 (by decide) ?_
  refine lq_iadd dL_law_618 ?_
  refine lq_sld (i + 1) dL_law_619 (nI_add _ _) (by omega) (by omega) ?_
  refine lq_call (ws := []) (a1 := aM) (a2 := aC) [.int (xs (i + 1))] dL_law_620 rfl ceX7_dusk (iw_28 _ (List.mem_of_getElem? (i := 9) rfl)) (rm_le rfl rfl) rfl rfl rfl (Nat.le_of_ble_eq_true rfl) (Nat.le_of_ble_eq_true rfl) haM hk hn e2 ?_
  refine lq_eq 1122 dL_law_623 (by decide) ?_
  exact lc_end (ih C' G' hR')
set_option maxRecDepth 20000 in
set_option maxHeartbeats 2000000 in
theorem lc_14 {b L0 : Nat} {xs : Nat → Int32} {g : rf_G} {aS aC aM : Nat → Nat} {k n i : Nat} {C G : rf_Mem} (hi4 : i + 4 ≤ L0) (hL0 : L0 ≤ 2048) (haC : ∀ i, 1000 ≤ i → aC i = aS i) (haM : ∀ i, 1000 ≤ i → aM i = aS i) (hk : k ≤ 600000) (hn : n ≤ 7302250) (hR : Rg C G) (ih : ∀ C G, Rg C G → EvW b L0 xs g aS 18 [some (.ref b), some (.ref (aC 0)), some (.ref (aM 0)), some (.int (nI (i + 4)))] [] (rf_W g aC C 0 LayC ++ rf_W g aM G 0 LayM) k n) : EvW b L0 xs g aS 628 [some (.ref b), some (.ref (aC 0)), some (.ref (aM 0)), some (.int (nI (i)))] [] (rf_W g aC C 0 LayC ++ rf_W g aM G 0 LayM) k n := by
  obtain ⟨r, C', G', e1, e2, hR'⟩ := (@op_run (xs (i + 1))) C G hR
  refine lq_aload dL_law_628 rfl ?_
  refine lq_aload dL_law_629 rfl ?_
  refine lq_iload dL_law_630 rfl ?_
  refine lq_iconst (v := nI 1) dL_law_631 (by decide) ?_
  refine lq_iadd dL_law_632 ?_
  refine lq_sld (i + 1) dL_law_633 (nI_add _ _) (by omega) (by omega) ?_
  refine lq_call (ws := []) (a1 := aC) (a2 := aM) [.int (xs (i + 1))] dL_law_634 rfl ceX6_run (iw_28 _ (List.mem_of_getElem? (i := 18) rfl)) (rm_le rfl rfl) rfl rfl rfl (Nat.le_of_ble_eq_true rfl) (Nat.le_of_ble_eq_true rfl) haC hk hn e1 ?_
  refine lq_aload dL_law_637 rfl ?_
  refine lq_aload dL_law_638 rfl ?_
  refine lq_iload dL_law_639 rfl ?_
  refine lq_iconst (v := nI 1) dL_law_640 (by decide) ?_
  refine lq_iadd dL_law_641 ?_
  refine lq_sld (i + 1) dL_law_642 (nI_add _ _) (by omega) (by omega) ?_
  refine lq_call (ws := []) (a1 := aM) (a2 := aC) [.int (xs (i + 1))] dL_law_643 rfl ceX7_run (iw_29 _ (List.mem_of_getElem? (i := 10) rfl)) (rm_le rfl rfl) rfl rfl rfl (Nat.le_of_ble_eq_true rfl) (Nat.le_of_ble_eq_true rfl) haM hk hn e2 ?_
  refine lq_eq 1122 dL_law_646 (by decide) ?_
  exact lc_end (ih C' G' hR')
set_option maxRecDepth 20000 in
set_option maxHeartbeats 2000000 in
theorem lc_15 {b L0 : Nat} {xs : Nat → Int32} {g : rf_G} {aS aC aM : Nat → Nat} {k n i : Nat} {C G : rf_Mem} (hi4 : i + 4 ≤ L0) (hL0 : L0 ≤ 2048) (haC : ∀ i, 1000 ≤ i → aC i = aS i) (haM : ∀ i, 1000 ≤ i → aM i = aS i) (hk : k ≤ 600000) (hn : n ≤ 7302250) (hR : Rg C G) (ih : ∀ C G, Rg C G → EvW b L0 xs g aS 18 [some (.ref b), some (.ref (aC 0)), some (.ref (aM 0)), some (.int (nI (i + 4)))] [] (rf_W g aC C 0 LayC ++ rf_W g aM G 0 LayM) k n) : EvW b L0 xs g aS 651 [some (.ref b), some (.ref (aC 0)), some (.ref (aM 0)), some (.int (nI (i)))] [] (rf_W g aC C 0 LayC ++ rf_W g aM G 0 LayM) k n := by
  obtain ⟨r, C', G', e1, e2, hR'⟩ := (@op_where (xs (i + 1))) C G hR
  refine lq_aload dL_law_651 rfl ?_
  refine lq_aload dL_law_652 rfl ?_
  refine lq_iload dL_law_653 rfl ?_
  refine lq_iconst (v := nI 1) dL_law_654 (by decide) ?_
  refine lq_iadd dL_law_655 ?_
  refine lq_sld (i + 1) dL_law_656 (nI_add _ _) (by omega) (by omega) ?_
  refine lq_call (ws := []) (a1 := aC) (a2 := aM) [.int (xs (i + 1))] dL_law_657 rfl ceX6_where (iw_29 _ (List.mem_of_getElem? (i := 19) rfl)) (rm_le rfl rfl) rfl rfl rfl (Nat.le_of_ble_eq_true rfl) (Nat.le_of_ble_eq_true rfl) haC hk hn e1 ?_
  refine lq_aload dL_law_660 rfl ?_
  refine lq_aload dL_law_661 rfl ?_
  refine lq_iload dL_law_662 rfl ?_
  refine lq_iconst (v := nI 1) dL_law_663 (by decide) ?_
  refine lq_iadd dL_law_664 ?_
  refine lq_sld (i + 1) dL_law_665 (nI_add _ _) (by omega) (by omega) ?_
  refine lq_call (ws := []) (a1 := aM) (a2 := aC) [.int (xs (i + 1))] dL_law_666 rfl ceX7_where (iw_30 _ (List.mem_of_getElem? (i := 3) rfl)) (rm_le rfl rfl) rfl rfl rfl (Nat.le_of_ble_eq_true rfl) (Nat.le_of_ble_eq_true rfl) haM hk hn e2 ?_
  refine lq_eq 1122 dL_law_669 (by decide) ?_
  exact lc_end (ih C' G' hR')
set_option maxRecDepth 20000 in
set_option maxHeartbeats 2000000 in
theorem lc_16 {b L0 : Nat} {xs : Nat → Int32} {g : rf_G} {aS aC aM : Nat → Nat} {k n i : Nat} {C G : rf_Mem} (hi4 : i + 4 ≤ L0) (hL0 : L0 ≤ 2048) (haC : ∀ i, 1000 ≤ i → aC i = aS i) (haM : ∀ i, 1000 ≤ i → aM i = aS i) (hk : k ≤ 600000) (hn : n ≤ 7302250) (hR : Rg C G) (ih : ∀ C G, Rg C G → EvW b L0 xs g aS 18 [some (.ref b), some (.ref (aC 0)), some (.ref (aM 0)), some (.int (nI (i + 4)))] [] (rf_W g aC C 0 LayC ++ rf_W g aM G 0 LayM) k n) : EvW b L0 xs g aS 674 [some (.ref b), some (.ref (aC 0)), some (.ref (aM 0)), some (.int (nI (i)))] [] (rf_W g aC C 0 LayC ++ rf_W g aM G 0 LayM) k n := by
  obtain ⟨r, C', G', e1, e2, hR'⟩ := (@op_request (xs (i + 1)) (xs (i + 2)) (xs (i + 3))) C G hR
  refine lq_aload dL_law_674 rfl ?_
  refine lq_aload dL_law_675 rfl ?_
  refine lq_iload dL_law_676 rfl ?_
  refine lq_iconst (v := nI 1) dL_law_677 (by decide) ?_
  refine lq_iadd dL_law_678 ?_
  refine lq_sld (i + 1) dL_law_679 (nI_add _ _) (by omega) (by omega) ?_
  refine lq_aload dL_law_680 rfl ?_
  refine lq_iload dL_law_681 rfl ?_
  refine lq_iconst (v := nI 2) dL_law_682 (by decide) ?_
  refine lq_iadd dL_law_683 ?_
  refine lq_sld (i + 2) dL_law_684 (nI_add _ _) (by omega) (by omega) ?_
  refine lq_aload dL_law_685 rfl ?_
  refine lq_iload dL_law_686 rfl ?_
  refine lq_iconst (v := nI 3) dL_law_687 (by decide) ?_
  refine lq_iadd dL_law_688 ?_
  refine lq_sld (i + 3) dL_law_689 (nI_add _ _) (by omega) (by omega) ?_
  refine lq_call (ws := []) (a1 := aC) (a2 := aM) [.int (xs (i + 1)), .int (xs (i + 2)), .int (xs (i + 3))] dL_law_690 rfl ceX6_request (iw_30 _ (List.mem_of_getElem? (i := 7) rfl)) (rm_le rfl rfl) rfl rfl rfl (Nat.le_of_ble_eq_true rfl) (Nat.le_of_ble_eq_true rfl) haC hk hn e1 ?_
  refine lq_aload dL_law_693 rfl ?_
  refine lq_aload dL_law_694 rfl ?_
  refine lq_iload dL_law_695 rfl ?_
  refine lq_iconst (v := nI 1) dL_law_696 (by decide) ?_
  refine lq_iadd dL_law_697 ?_
  refine lq_sld (i + 1) dL_law_698 (nI_add _ _) (by omega) (by omega) ?_
  refine lq_aload dL_law_699 rfl ?_
  refine lq_iload dL_law_700 rfl ?_
  refine lq_iconst (v := nI 2) dL_law_701 (by decide) ?_
  refine lq_iadd dL_law_702 ?_
  refine lq_sld (i + 2) dL_law_703 (nI_add _ _) (by omega) (by omega) ?_
  refine lq_aload dL_law_704 rfl ?_
  refine lq_iload dL_law_705 rfl ?_
  refine lq_iconst (v := nI 3) dL_law_706 (by decide) ?_
  refine lq_iadd dL_law_707 ?_
  refine lq_sld (i + 3) dL_law_708 (nI_add _ _) (by omega) (by omega) ?_
  refine lq_call (ws := []) (a1 := aM) (a2 := aC) [.int (xs (i + 1)), .int (xs (i + 2)), .int (xs (i + 3))] dL_law_709 rfl ceX7_request (iw_30 _ (List.mem_of_getElem? (i := 16) rfl)) (rm_le rfl rfl) rfl rfl rfl (Nat.le_of_ble_eq_true rfl) (Nat.le_of_ble_eq_true rfl) haM hk hn e2 ?_
  refine lq_eq 1122 dL_law_712 (by decide) ?_
  exact lc_end (ih C' G' hR')
set_option maxRecDepth 20000 in
set_option maxHeartbeats 2000000 in
theorem lc_17 {b L0 : Nat} {xs : Nat → Int32} {g : rf_G} {aS aC aM : Nat → Nat} {k n i : Nat} {C G : rf_Mem} (hi4 : i + 4 ≤ L0) (hL0 : L0 ≤ 2048) (haC : ∀ i, 1000 ≤ i → aC i = aS i) (haM : ∀ i, 1000 ≤ i → aM i = aS i) (hk : k ≤ 600000) (hn : n ≤ 7302250) (hR : Rg C G) (ih : ∀ C G, Rg C G → EvW b L0 xs g aS 18 [some (.ref b), some (.ref (aC 0)), some (.ref (aM 0)), some (.int (nI (i + 4)))] [] (rf_W g aC C 0 LayC ++ rf_W g aM G 0 LayM) k n) : EvW b L0 xs g aS 717 [some (.ref b), some (.ref (aC 0)), some (.ref (aM 0)), some (.int (nI (i)))] [] (rf_W g aC C 0 LayC ++ rf_W g aM G 0 LayM) k n := by
  obtain ⟨r, C', G', e1, e2, hR'⟩ := op_forget C G hR
  refine lq_aload dL_law_717 rfl ?_
  refine lq_call (ws := []) (a1 := aC) (a2 := aM) [] dL_law_718 rfl ceX6_forget (iw_30 _ (List.mem_of_getElem? (i := 21) rfl)) (rm_le rfl rfl) rfl rfl rfl (Nat.le_of_ble_eq_true rfl) (Nat.le_of_ble_eq_true rfl) haC hk hn e1 ?_
  refine lq_aload dL_law_721 rfl ?_
  refine lq_call (ws := []) (a1 := aM) (a2 := aC) [] dL_law_722 rfl ceX7_forget (iw_31 _ (List.mem_of_getElem? (i := 1) rfl)) (rm_le rfl rfl) rfl rfl rfl (Nat.le_of_ble_eq_true rfl) (Nat.le_of_ble_eq_true rfl) haM hk hn e2 ?_
  refine lq_eq 1122 dL_law_725 (by decide) ?_
  exact lc_end (ih C' G' hR')
set_option maxRecDepth 20000 in
set_option maxHeartbeats 2000000 in
theorem lc_18 {b L0 : Nat} {xs : Nat → Int32} {g : rf_G} {aS aC aM : Nat → Nat} {k n i : Nat} {C G : rf_Mem} (hi4 : i + 4 ≤ L0) (hL0 : L0 ≤ 2048) (haC : ∀ i, 1000 ≤ i → aC i = aS i) (haM : ∀ i, 1000 ≤ i → aM i = aS i) (hk : k ≤ 600000) (hn : n ≤ 7302250) (hR : Rg C G) (ih : ∀ C G, Rg C G → EvW b L0 xs g aS 18 [some (.ref b), some (.ref (aC 0)), some (.ref (aM 0)), some (.int (nI (i + 4)))] [] (rf_W g aC C 0 LayC ++ rf_W g aM G 0 LayM) k n) : EvW b L0 xs g aS 730 [some (.ref b), some (.ref (aC 0)), some (.ref (aM 0)), some (.int (nI (i)))] [] (rf_W g aC C 0 LayC ++ rf_W g aM G 0 LayM) k n := by
  obtain ⟨r, C', G', e1, e2, hR'⟩ := (@op_grant (xs (i + 1))) C G hR
  refine lq_aload dL_law_730 rfl ?_
  refine lq_aload dL_law_731 rfl ?_
  refine lq_iload dL_law_732 rfl ?_
  refine lq_iconst (v := nI 1) dL_law_733 (by decide) ?_
  refine lq_iadd dL_law_734 ?_
  refine lq_sld (i + 1) dL_law_735 (nI_add _ _) (by omega) (by omega) ?_
  refine lq_call (ws := []) (a1 := aC) (a2 := aM) [.int (xs (i + 1))] dL_law_736 rfl ceX6_grant (iw_31 _ (List.mem_of_getElem? (i := 5) rfl)) (rm_le rfl rfl) rfl rfl rfl (Nat.le_of_ble_eq_true rfl) (Nat.le_of_ble_eq_true rfl) haC hk hn e1 ?_
  refine lq_aload dL_law_739 rfl ?_
  refine lq_aload dL_law_740 rfl ?_
  refine lq_iload dL_law_741 rfl ?_
  refine lq_iconst (v := nI 1) dL_law_742 (by decide) ?_
  refine lq_iadd dL_law_743 ?_
  refine lq_sld (i + 1) dL_law_744 (nI_add _ _) (by omega) (by omega) ?_
  refine lq_call (ws := []) (a1 := aM) (a2 := aC) [.int (xs (i + 1))] dL_law_745 rfl ceX7_grant (iw_31 _ (List.mem_of_getElem? (i := 23) rfl)) (rm_le rfl rfl) rfl rfl rfl (Nat.le_of_ble_eq_true rfl) (Nat.le_of_ble_eq_true rfl) haM hk hn e2 ?_
  refine lq_eq 1122 dL_law_748 (by decide) ?_
  exact lc_end (ih C' G' hR')
set_option maxRecDepth 20000 in
set_option maxHeartbeats 2000000 in
theorem lc_19 {b L0 : Nat} {xs : Nat → Int32} {g : rf_G} {aS aC aM : Nat → Nat} {k n i : Nat} {C G : rf_Mem} (hi4 : i + 4 ≤ L0) (hL0 : L0 ≤ 2048) (haC : ∀ i, 1000 ≤ i → aC i = aS i) (haM : ∀ i, 1000 ≤ i → aM i = aS i) (hk : k ≤ 600000) (hn : n ≤ 7302250) (hR : Rg C G) (ih : ∀ C G, Rg C G → EvW b L0 xs g aS 18 [some (.ref b), some (.ref (aC 0)), some (.ref (aM 0)), some (.int (nI (i + 4)))] [] (rf_W g aC C 0 LayC ++ rf_W g aM G 0 LayM) k n) : EvW b L0 xs g aS 753 [some (.ref b), some (.ref (aC 0)), some (.ref (aM 0)), some (.int (nI (i)))] [] (rf_W g aC C 0 LayC ++ rf_W g aM G 0 LayM) k n := by
  obtain ⟨r, C', G', e1, e2, hR'⟩ := (@op_best (xs (i + 1)) (xs (i + 2))) C G hR
  refine lq_aload dL_law_753 rfl ?_
  refine lq_aload dL_law_754 rfl ?_
  refine lq_iload dL_law_755 rfl ?_
  refine lq_iconst (v := nI 1) dL_law_756 (by decide) ?_
  refine lq_iadd dL_law_757 ?_
  refine lq_sld (i + 1) dL_law_758 (nI_add _ _) (by omega) (by omega) ?_
  refine lq_aload dL_law_759 rfl ?_
  refine lq_iload dL_law_760 rfl ?_
  refine lq_iconst (v := nI 2) dL_law_761 (by decide) ?_
  refine lq_iadd dL_law_762 ?_
  refine lq_sld (i + 2) dL_law_763 (nI_add _ _) (by omega) (by omega) ?_
  refine lq_call (ws := []) (a1 := aC) (a2 := aM) [.int (xs (i + 1)), .int (xs (i + 2))] dL_law_764 rfl ceX6_best (iw_32 _ (List.mem_of_getElem? (i := 14) rfl)) (rm_le rfl rfl) rfl rfl rfl (Nat.le_of_ble_eq_true rfl) (Nat.le_of_ble_eq_true rfl) haC hk hn e1 ?_
  refine lq_aload dL_law_767 rfl ?_
  refine lq_aload dL_law_768 rfl ?_
  refine lq_iload dL_law_769 rfl ?_
  refine lq_iconst (v := nI 1) dL_law_770 (by decide) ?_
  refine lq_iadd dL_law_771 ?_
  refine lq_sld (i + 1) dL_law_772 (nI_add _ _) (by omega) (by omega) ?_
  refine lq_aload dL_law_773 rfl ?_
  refine lq_iload dL_law_774 rfl ?_
  refine lq_iconst (v := nI 2) dL_law_775 (by decide) ?_
  refine lq_iadd dL_law_776 ?_
  refine lq_sld (i + 2) dL_law_777 (nI_add _ _) (by omega) (by omega) ?_
  refine lq_call (ws := []) (a1 := aM) (a2 := aC) [.int (xs (i + 1)), .int (xs (i + 2))] dL_law_778 rfl ceX7_best (iw_33 _ (List.mem_of_getElem? (i := 19) rfl)) (rm_le rfl rfl) rfl rfl rfl (Nat.le_of_ble_eq_true rfl) (Nat.le_of_ble_eq_true rfl) haM hk hn e2 ?_
  refine lq_eq 1122 dL_law_781 (by decide) ?_
  exact lc_end (ih C' G' hR')
set_option maxRecDepth 20000 in
set_option maxHeartbeats 2000000 in
theorem lc_20 {b L0 : Nat} {xs : Nat → Int32} {g : rf_G} {aS aC aM : Nat → Nat} {k n i : Nat} {C G : rf_Mem} (hi4 : i + 4 ≤ L0) (hL0 : L0 ≤ 2048) (haC : ∀ i, 1000 ≤ i → aC i = aS i) (haM : ∀ i, 1000 ≤ i → aM i = aS i) (hk : k ≤ 600000) (hn : n ≤ 7302250) (hR : Rg C G) (ih : ∀ C G, Rg C G → EvW b L0 xs g aS 18 [some (.ref b), some (.ref (aC 0)), some (.ref (aM 0)), some (.int (nI (i + 4)))] [] (rf_W g aC C 0 LayC ++ rf_W g aM G 0 LayM) k n) : EvW b L0 xs g aS 786 [some (.ref b), some (.ref (aC 0)), some (.ref (aM 0)), some (.int (nI (i)))] [] (rf_W g aC C 0 LayC ++ rf_W g aM G 0 LayM) k n := by
  obtain ⟨r, C', G', e1, e2, hR'⟩ := (@op_toKnow (xs (i + 1)) (xs (i + 2))) C G hR
  refine lq_aload dL_law_786 rfl ?_
  refine lq_aload dL_law_787 rfl ?_
  refine lq_iload dL_law_788 rfl ?_
  refine lq_iconst (v := nI 1) dL_law_789 (by decide) ?_
  refine lq_iadd dL_law_790 ?_
  refine lq_sld (i + 1) dL_law_791 (nI_add _ _) (by omega) (by omega) ?_
  refine lq_aload dL_law_792 rfl ?_
  refine lq_iload dL_law_793 rfl ?_
  refine lq_iconst (v := nI 2) dL_law_794 (by decide) ?_
  refine lq_iadd dL_law_795 ?_
  refine lq_sld (i + 2) dL_law_796 (nI_add _ _) (by omega) (by omega) ?_
  refine lq_call (ws := []) (a1 := aC) (a2 := aM) [.int (xs (i + 1)), .int (xs (i + 2))] dL_law_797 rfl ceX6_toKnow (iw_34 _ (List.mem_of_getElem? (i := 8) rfl)) (rm_le rfl rfl) rfl rfl rfl (Nat.le_of_ble_eq_true rfl) (Nat.le_of_ble_eq_true rfl) haC hk hn e1 ?_
  refine lq_aload dL_law_800 rfl ?_
  refine lq_aload dL_law_801 rfl ?_
  refine lq_iload dL_law_802 rfl ?_
  refine lq_iconst (v := nI 1) dL_law_803 (by decide) ?_
  refine lq_iadd dL_law_804 ?_
  refine lq_sld (i + 1) dL_law_805 (nI_add _ _) (by omega) (by omega) ?_
  refine lq_aload dL_law_806 rfl ?_
  refine lq_iload dL_law_807 rfl ?_
  refine lq_iconst (v := nI 2) dL_law_808 (by decide) ?_
  refine lq_iadd dL_law_809 ?_
  refine lq_sld (i + 2) dL_law_810 (nI_add _ _) (by omega) (by omega) ?_
  refine lq_call (ws := []) (a1 := aM) (a2 := aC) [.int (xs (i + 1)), .int (xs (i + 2))] dL_law_811 rfl ceX7_toKnow (iw_35 _ (List.mem_of_getElem? (i := 10) rfl)) (rm_le rfl rfl) rfl rfl rfl (Nat.le_of_ble_eq_true rfl) (Nat.le_of_ble_eq_true rfl) haM hk hn e2 ?_
  refine lq_eq 1122 dL_law_814 (by decide) ?_
  exact lc_end (ih C' G' hR')
set_option maxRecDepth 20000 in
set_option maxHeartbeats 2000000 in
theorem lc_21 {b L0 : Nat} {xs : Nat → Int32} {g : rf_G} {aS aC aM : Nat → Nat} {k n i : Nat} {C G : rf_Mem} (hi4 : i + 4 ≤ L0) (hL0 : L0 ≤ 2048) (haC : ∀ i, 1000 ≤ i → aC i = aS i) (haM : ∀ i, 1000 ≤ i → aM i = aS i) (hk : k ≤ 600000) (hn : n ≤ 7302250) (hR : Rg C G) (ih : ∀ C G, Rg C G → EvW b L0 xs g aS 18 [some (.ref b), some (.ref (aC 0)), some (.ref (aM 0)), some (.int (nI (i + 4)))] [] (rf_W g aC C 0 LayC ++ rf_W g aM G 0 LayM) k n) : EvW b L0 xs g aS 819 [some (.ref b), some (.ref (aC 0)), some (.ref (aM 0)), some (.int (nI (i)))] [] (rf_W g aC C 0 LayC ++ rf_W g aM G 0 LayM) k n := by
  obtain ⟨r, C', G', e1, e2, hR'⟩ := (@op_life (xs (i + 1)) (xs (i + 2)) (xs (i + 3))) C G hR
  refine lq_aload dL_law_819 rfl ?_
  refine lq_aload dL_law_820 rfl ?_
  refine lq_iload dL_law_821 rfl ?_
  refine lq_iconst (v := nI 1) dL_law_822 (by decide) ?_
  refine lq_iadd dL_law_823 ?_
  refine lq_sld (i + 1) dL_law_824 (nI_add _ _) (by omega) (by omega) ?_
  refine lq_aload dL_law_825 rfl ?_
  refine lq_iload dL_law_826 rfl ?_
  refine lq_iconst (v := nI 2) dL_law_827 (by decide) ?_
  refine lq_iadd dL_law_828 ?_
  refine lq_sld (i + 2) dL_law_829 (nI_add _ _) (by omega) (by omega) ?_
  refine lq_aload dL_law_830 rfl ?_
  refine lq_iload dL_law_831 rfl ?_
  refine lq_iconst (v := nI 3) dL_law_832 (by decide) ?_
  refine lq_iadd dL_law_833 ?_
  refine lq_sld (i + 3) dL_law_834 (nI_add _ _) (by omega) (by omega) ?_
  refine lq_call (ws := []) (a1 := aC) (a2 := aM) [.int (xs (i + 1)), .int (xs (i + 2)), .int (xs (i + 3))] dL_law_835 rfl ceX6_life (iw_36 _ (List.mem_of_getElem? (i := 1) rfl)) (rm_le rfl rfl) rfl rfl rfl (Nat.le_of_ble_eq_true rfl) (Nat.le_of_ble_eq_true rfl) haC hk hn e1 ?_
  refine lq_aload dL_law_838 rfl ?_
  refine lq_aload dL_law_839 rfl ?_
  refine lq_iload dL_law_840 rfl ?_
  refine lq_iconst (v := nI 1) dL_law_841 (by decide) ?_
  refine lq_iadd dL_law_842 ?_
  refine lq_sld (i + 1) dL_law_843 (nI_add _ _) (by omega) (by omega) ?_
  refine lq_aload dL_law_844 rfl ?_
  refine lq_iload dL_law_845 rfl ?_
  refine lq_iconst (v := nI 2) dL_law_846 (by decide) ?_
  refine lq_iadd dL_law_847 ?_
  refine lq_sld (i + 2) dL_law_848 (nI_add _ _) (by omega) (by omega) ?_
  refine lq_aload dL_law_849 rfl ?_
  refine lq_iload dL_law_850 rfl ?_
  refine lq_iconst (v := nI 3) dL_law_851 (by decide) ?_
  refine lq_iadd dL_law_852 ?_
  refine lq_sld (i + 3) dL_law_853 (nI_add _ _) (by omega) (by omega) ?_
  refine lq_call (ws := []) (a1 := aM) (a2 := aC) [.int (xs (i + 1)), .int (xs (i + 2)), .int (xs (i + 3))] dL_law_854 rfl ceX7_life (iw_36 _ (List.mem_of_getElem? (i := 7) rfl)) (rm_le rfl rfl) rfl rfl rfl (Nat.le_of_ble_eq_true rfl) (Nat.le_of_ble_eq_true rfl) haM hk hn e2 ?_
  refine lq_eq 1122 dL_law_857 (by decide) ?_
  exact lc_end (ih C' G' hR')
set_option maxRecDepth 20000 in
set_option maxHeartbeats 2000000 in
theorem lc_22 {b L0 : Nat} {xs : Nat → Int32} {g : rf_G} {aS aC aM : Nat → Nat} {k n i : Nat} {C G : rf_Mem} (hi4 : i + 4 ≤ L0) (hL0 : L0 ≤ 2048) (haC : ∀ i, 1000 ≤ i → aC i = aS i) (haM : ∀ i, 1000 ≤ i → aM i = aS i) (hk : k ≤ 600000) (hn : n ≤ 7302250) (hR : Rg C G) (ih : ∀ C G, Rg C G → EvW b L0 xs g aS 18 [some (.ref b), some (.ref (aC 0)), some (.ref (aM 0)), some (.int (nI (i + 4)))] [] (rf_W g aC C 0 LayC ++ rf_W g aM G 0 LayM) k n) : EvW b L0 xs g aS 862 [some (.ref b), some (.ref (aC 0)), some (.ref (aM 0)), some (.int (nI (i)))] [] (rf_W g aC C 0 LayC ++ rf_W g aM G 0 LayM) k n := by
  obtain ⟨r, C', G', e1, e2, hR'⟩ := (@op_right (xs (i + 1))) C G hR
  refine lq_aload dL_law_862 rfl ?_
  refine lq_aload dL_law_863 rfl ?_
  refine lq_iload dL_law_864 rfl ?_
  refine lq_iconst (v := nI 1) dL_law_865 (by decide) ?_
  refine lq_iadd dL_law_866 ?_
  refine lq_sld (i + 1) dL_law_867 (nI_add _ _) (by omega) (by omega) ?_
  refine lq_call (ws := []) (a1 := aC) (a2 := aM) [.int (xs (i + 1))] dL_law_868 rfl ceX6_right (iw_36 _ (List.mem_of_getElem? (i := 13) rfl)) (rm_le rfl rfl) rfl rfl rfl (Nat.le_of_ble_eq_true rfl) (Nat.le_of_ble_eq_true rfl) haC hk hn e1 ?_
  refine lq_aload dL_law_871 rfl ?_
  refine lq_aload dL_law_872 rfl ?_
  refine lq_iload dL_law_873 rfl ?_
  refine lq_iconst (v := nI 1) dL_law_874 (by decide) ?_
  refine lq_iadd dL_law_875 ?_
  refine lq_sld (i + 1) dL_law_876 (nI_add _ _) (by omega) (by omega) ?_
  refine lq_call (ws := []) (a1 := aM) (a2 := aC) [.int (xs (i + 1))] dL_law_877 rfl ceX7_right (iw_36 _ (List.mem_of_getElem? (i := 18) rfl)) (rm_le rfl rfl) rfl rfl rfl (Nat.le_of_ble_eq_true rfl) (Nat.le_of_ble_eq_true rfl) haM hk hn e2 ?_
  refine lq_eq 1122 dL_law_880 (by decide) ?_
  exact lc_end (ih C' G' hR')
set_option maxRecDepth 20000 in
set_option maxHeartbeats 2000000 in
theorem lc_23 {b L0 : Nat} {xs : Nat → Int32} {g : rf_G} {aS aC aM : Nat → Nat} {k n i : Nat} {C G : rf_Mem} (hi4 : i + 4 ≤ L0) (hL0 : L0 ≤ 2048) (haC : ∀ i, 1000 ≤ i → aC i = aS i) (haM : ∀ i, 1000 ≤ i → aM i = aS i) (hk : k ≤ 600000) (hn : n ≤ 7302250) (hR : Rg C G) (ih : ∀ C G, Rg C G → EvW b L0 xs g aS 18 [some (.ref b), some (.ref (aC 0)), some (.ref (aM 0)), some (.int (nI (i + 4)))] [] (rf_W g aC C 0 LayC ++ rf_W g aM G 0 LayM) k n) : EvW b L0 xs g aS 885 [some (.ref b), some (.ref (aC 0)), some (.ref (aM 0)), some (.int (nI (i)))] [] (rf_W g aC C 0 LayC ++ rf_W g aM G 0 LayM) k n := by
  obtain ⟨r, C', G', e1, e2, hR'⟩ := (@op_claim (xs (i + 1)) (xs (i + 2)) (xs (i + 3))) C G hR
  refine lq_aload dL_law_885 rfl ?_
  refine lq_aload dL_law_886 rfl ?_
  refine lq_iload dL_law_887 rfl ?_
  refine lq_iconst (v := nI 1) dL_law_888 (by decide) ?_
  refine lq_iadd dL_law_889 ?_
  refine lq_sld (i + 1) dL_law_890 (nI_add _ _) (by omega) (by omega) ?_
  refine lq_aload dL_law_891 rfl ?_
  refine lq_iload dL_law_892 rfl ?_
  refine lq_iconst (v := nI 2) dL_law_893 (by decide) ?_
  refine lq_iadd dL_law_894 ?_
  refine lq_sld (i + 2) dL_law_895 (nI_add _ _) (by omega) (by omega) ?_
  refine lq_aload dL_law_896 rfl ?_
  refine lq_iload dL_law_897 rfl ?_
  refine lq_iconst (v := nI 3) dL_law_898 (by decide) ?_
  refine lq_iadd dL_law_899 ?_
  refine lq_sld (i + 3) dL_law_900 (nI_add _ _) (by omega) (by omega) ?_
  refine lq_call (ws := []) (a1 := aC) (a2 := aM) [.int (xs (i + 1)), .int (xs (i + 2)), .int (xs (i + 3))] dL_law_901 rfl ceX6_claim (iw_37 _ (List.mem_of_getElem? (i := 0) rfl)) (rm_le rfl rfl) rfl rfl rfl (Nat.le_of_ble_eq_true rfl) (Nat.le_of_ble_eq_true rfl) haC hk hn e1 ?_
  refine lq_aload dL_law_904 rfl ?_
  refine lq_aload dL_law_905 rfl ?_
  refine lq_iload dL_law_906 rfl ?_
  refine lq_iconst (v := nI 1) dL_law_907 (by decide) ?_
  refine lq_iadd dL_law_908 ?_
  refine lq_sld (i + 1) dL_law_909 (nI_add _ _) (by omega) (by omega) ?_
  refine lq_aload dL_law_910 rfl ?_
  refine lq_iload dL_law_911 rfl ?_
  refine lq_iconst (v := nI 2) dL_law_912 (by decide) ?_
  refine lq_iadd dL_law_913 ?_
  refine lq_sld (i + 2) dL_law_914 (nI_add _ _) (by omega) (by omega) ?_
  refine lq_aload dL_law_915 rfl ?_
  refine lq_iload dL_law_916 rfl ?_
  refine lq_iconst (v := nI 3) dL_law_917 (by decide) ?_
  refine lq_iadd dL_law_918 ?_
  refine lq_sld (i + 3) dL_law_919 (nI_add _ _) (by omega) (by omega) ?_
  refine lq_call (ws := []) (a1 := aM) (a2 := aC) [.int (xs (i + 1)), .int (xs (i + 2)), .int (xs (i + 3))] dL_law_920 rfl ceX7_claim (iw_37 _ (List.mem_of_getElem? (i := 11) rfl)) (rm_le rfl rfl) rfl rfl rfl (Nat.le_of_ble_eq_true rfl) (Nat.le_of_ble_eq_true rfl) haM hk hn e2 ?_
  refine lq_eq 1122 dL_law_923 (by decide) ?_
  exact lc_end (ih C' G' hR')
set_option maxRecDepth 20000 in
set_option maxHeartbeats 2000000 in
theorem lc_24 {b L0 : Nat} {xs : Nat → Int32} {g : rf_G} {aS aC aM : Nat → Nat} {k n i : Nat} {C G : rf_Mem} (hi4 : i + 4 ≤ L0) (hL0 : L0 ≤ 2048) (haC : ∀ i, 1000 ≤ i → aC i = aS i) (haM : ∀ i, 1000 ≤ i → aM i = aS i) (hk : k ≤ 600000) (hn : n ≤ 7302250) (hR : Rg C G) (ih : ∀ C G, Rg C G → EvW b L0 xs g aS 18 [some (.ref b), some (.ref (aC 0)), some (.ref (aM 0)), some (.int (nI (i + 4)))] [] (rf_W g aC C 0 LayC ++ rf_W g aM G 0 LayM) k n) : EvW b L0 xs g aS 928 [some (.ref b), some (.ref (aC 0)), some (.ref (aM 0)), some (.int (nI (i)))] [] (rf_W g aC C 0 LayC ++ rf_W g aM G 0 LayM) k n := by
  obtain ⟨r, C', G', e1, e2, hR'⟩ := (@op_whence (xs (i + 1)) (xs (i + 2))) C G hR
  refine lq_aload dL_law_928 rfl ?_
  refine lq_aload dL_law_929 rfl ?_
  refine lq_iload dL_law_930 rfl ?_
  refine lq_iconst (v := nI 1) dL_law_931 (by decide) ?_
  refine lq_iadd dL_law_932 ?_
  refine lq_sld (i + 1) dL_law_933 (nI_add _ _) (by omega) (by omega) ?_
  refine lq_aload dL_law_934 rfl ?_
  refine lq_iload dL_law_935 rfl ?_
  refine lq_iconst (v := nI 2) dL_law_936 (by decide) ?_
  refine lq_iadd dL_law_937 ?_
  refine lq_sld (i + 2) dL_law_938 (nI_add _ _) (by omega) (by omega) ?_
  refine lq_call (ws := []) (a1 := aC) (a2 := aM) [.int (xs (i + 1)), .int (xs (i + 2))] dL_law_939 rfl ceX6_whence (iw_37 _ (List.mem_of_getElem? (i := 16) rfl)) (rm_le rfl rfl) rfl rfl rfl (Nat.le_of_ble_eq_true rfl) (Nat.le_of_ble_eq_true rfl) haC hk hn e1 ?_
  refine lq_aload dL_law_942 rfl ?_
  refine lq_aload dL_law_943 rfl ?_
  refine lq_iload dL_law_944 rfl ?_
  refine lq_iconst (v := nI 1) dL_law_945 (by decide) ?_
  refine lq_iadd dL_law_946 ?_
  refine lq_sld (i + 1) dL_law_947 (nI_add _ _) (by omega) (by omega) ?_
  refine lq_aload dL_law_948 rfl ?_
  refine lq_iload dL_law_949 rfl ?_
  refine lq_iconst (v := nI 2) dL_law_950 (by decide) ?_
  refine lq_iadd dL_law_951 ?_
  refine lq_sld (i + 2) dL_law_952 (nI_add _ _) (by omega) (by omega) ?_
  refine lq_call (ws := []) (a1 := aM) (a2 := aC) [.int (xs (i + 1)), .int (xs (i + 2))] dL_law_953 rfl ceX7_whence (iw_38 _ (List.mem_of_getElem? (i := 0) rfl)) (rm_le rfl rfl) rfl rfl rfl (Nat.le_of_ble_eq_true rfl) (Nat.le_of_ble_eq_true rfl) haM hk hn e2 ?_
  refine lq_eq 1122 dL_law_956 (by decide) ?_
  exact lc_end (ih C' G' hR')
set_option maxRecDepth 20000 in
set_option maxHeartbeats 2000000 in
theorem lc_25 {b L0 : Nat} {xs : Nat → Int32} {g : rf_G} {aS aC aM : Nat → Nat} {k n i : Nat} {C G : rf_Mem} (hi4 : i + 4 ≤ L0) (hL0 : L0 ≤ 2048) (haC : ∀ i, 1000 ≤ i → aC i = aS i) (haM : ∀ i, 1000 ≤ i → aM i = aS i) (hk : k ≤ 600000) (hn : n ≤ 7302250) (hR : Rg C G) (ih : ∀ C G, Rg C G → EvW b L0 xs g aS 18 [some (.ref b), some (.ref (aC 0)), some (.ref (aM 0)), some (.int (nI (i + 4)))] [] (rf_W g aC C 0 LayC ++ rf_W g aM G 0 LayM) k n) : EvW b L0 xs g aS 961 [some (.ref b), some (.ref (aC 0)), some (.ref (aM 0)), some (.int (nI (i)))] [] (rf_W g aC C 0 LayC ++ rf_W g aM G 0 LayM) k n := by
  obtain ⟨r, C', G', e1, e2, hR'⟩ := (@op_span (xs (i + 1)) (xs (i + 2)) (xs (i + 3))) C G hR
  refine lq_aload dL_law_961 rfl ?_
  refine lq_aload dL_law_962 rfl ?_
  refine lq_iload dL_law_963 rfl ?_
  refine lq_iconst (v := nI 1) dL_law_964 (by decide) ?_
  refine lq_iadd dL_law_965 ?_
  refine lq_sld (i + 1) dL_law_966 (nI_add _ _) (by omega) (by omega) ?_
  refine lq_aload dL_law_967 rfl ?_
  refine lq_iload dL_law_968 rfl ?_
  refine lq_iconst (v := nI 2) dL_law_969 (by decide) ?_
  refine lq_iadd dL_law_970 ?_
  refine lq_sld (i + 2) dL_law_971 (nI_add _ _) (by omega) (by omega) ?_
  refine lq_aload dL_law_972 rfl ?_
  refine lq_iload dL_law_973 rfl ?_
  refine lq_iconst (v := nI 3) dL_law_974 (by decide) ?_
  refine lq_iadd dL_law_975 ?_
  refine lq_sld (i + 3) dL_law_976 (nI_add _ _) (by omega) (by omega) ?_
  refine lq_call (ws := []) (a1 := aC) (a2 := aM) [.int (xs (i + 1)), .int (xs (i + 2)), .int (xs (i + 3))] dL_law_977 rfl ceX6_span (iw_38 _ (List.mem_of_getElem? (i := 4) rfl)) (rm_le rfl rfl) rfl rfl rfl (Nat.le_of_ble_eq_true rfl) (Nat.le_of_ble_eq_true rfl) haC hk hn e1 ?_
  refine lq_aload dL_law_980 rfl ?_
  refine lq_aload dL_law_981 rfl ?_
  refine lq_iload dL_law_982 rfl ?_
  refine lq_iconst (v := nI 1) dL_law_983 (by decide) ?_
  refine lq_iadd dL_law_984 ?_
  refine lq_sld (i + 1) dL_law_985 (nI_add _ _) (by omega) (by omega) ?_
  refine lq_aload dL_law_986 rfl ?_
  refine lq_iload dL_law_987 rfl ?_
  refine lq_iconst (v := nI 2) dL_law_988 (by decide) ?_
  refine lq_iadd dL_law_989 ?_
  refine lq_sld (i + 2) dL_law_990 (nI_add _ _) (by omega) (by omega) ?_
  refine lq_aload dL_law_991 rfl ?_
  refine lq_iload dL_law_992 rfl ?_
  refine lq_iconst (v := nI 3) dL_law_993 (by decide) ?_
  refine lq_iadd dL_law_994 ?_
  refine lq_sld (i + 3) dL_law_995 (nI_add _ _) (by omega) (by omega) ?_
  refine lq_call (ws := []) (a1 := aM) (a2 := aC) [.int (xs (i + 1)), .int (xs (i + 2)), .int (xs (i + 3))] dL_law_996 rfl ceX7_span (iw_38 _ (List.mem_of_getElem? (i := 13) rfl)) (rm_le rfl rfl) rfl rfl rfl (Nat.le_of_ble_eq_true rfl) (Nat.le_of_ble_eq_true rfl) haM hk hn e2 ?_
  refine lq_eq 1122 dL_law_999 (by decide) ?_
  exact lc_end (ih C' G' hR')
set_option maxRecDepth 20000 in
set_option maxHeartbeats 2000000 in
theorem lc_26 {b L0 : Nat} {xs : Nat → Int32} {g : rf_G} {aS aC aM : Nat → Nat} {k n i : Nat} {C G : rf_Mem} (hi4 : i + 4 ≤ L0) (hL0 : L0 ≤ 2048) (haC : ∀ i, 1000 ≤ i → aC i = aS i) (haM : ∀ i, 1000 ≤ i → aM i = aS i) (hk : k ≤ 600000) (hn : n ≤ 7302250) (hR : Rg C G) (ih : ∀ C G, Rg C G → EvW b L0 xs g aS 18 [some (.ref b), some (.ref (aC 0)), some (.ref (aM 0)), some (.int (nI (i + 4)))] [] (rf_W g aC C 0 LayC ++ rf_W g aM G 0 LayM) k n) : EvW b L0 xs g aS 1004 [some (.ref b), some (.ref (aC 0)), some (.ref (aM 0)), some (.int (nI (i)))] [] (rf_W g aC C 0 LayC ++ rf_W g aM G 0 LayM) k n := by
  obtain ⟨r, C', G', e1, e2, hR'⟩ := (@op_note (xs (i + 1))) C G hR
  refine lq_aload dL_law_1004 rfl ?_
  refine lq_aload dL_law_1005 rfl ?_
  refine lq_iload dL_law_1006 rfl ?_
  refine lq_iconst (v := nI 1) dL_law_1007 (by decide) ?_
  refine lq_iadd dL_law_1008 ?_
  refine lq_sld (i + 1) dL_law_1009 (nI_add _ _) (by omega) (by omega) ?_
  refine lq_call (ws := []) (a1 := aC) (a2 := aM) [.int (xs (i + 1))] dL_law_1010 rfl ceX6_note (iw_38 _ (List.mem_of_getElem? (i := 18) rfl)) (rm_le rfl rfl) rfl rfl rfl (Nat.le_of_ble_eq_true rfl) (Nat.le_of_ble_eq_true rfl) haC hk hn e1 ?_
  refine lq_aload dL_law_1013 rfl ?_
  refine lq_aload dL_law_1014 rfl ?_
  refine lq_iload dL_law_1015 rfl ?_
  refine lq_iconst (v := nI 1) dL_law_1016 (by decide) ?_
  refine lq_iadd dL_law_1017 ?_
  refine lq_sld (i + 1) dL_law_1018 (nI_add _ _) (by omega) (by omega) ?_
  refine lq_call (ws := []) (a1 := aM) (a2 := aC) [.int (xs (i + 1))] dL_law_1019 rfl ceX7_note (iw_38 _ (List.mem_of_getElem? (i := 22) rfl)) (rm_le rfl rfl) rfl rfl rfl (Nat.le_of_ble_eq_true rfl) (Nat.le_of_ble_eq_true rfl) haM hk hn e2 ?_
  refine lq_eq 1122 dL_law_1022 (by decide) ?_
  exact lc_end (ih C' G' hR')
set_option maxRecDepth 20000 in
set_option maxHeartbeats 2000000 in
theorem lc_27 {b L0 : Nat} {xs : Nat → Int32} {g : rf_G} {aS aC aM : Nat → Nat} {k n i : Nat} {C G : rf_Mem} (hi4 : i + 4 ≤ L0) (hL0 : L0 ≤ 2048) (haC : ∀ i, 1000 ≤ i → aC i = aS i) (haM : ∀ i, 1000 ≤ i → aM i = aS i) (hk : k ≤ 600000) (hn : n ≤ 7302250) (hR : Rg C G) (ih : ∀ C G, Rg C G → EvW b L0 xs g aS 18 [some (.ref b), some (.ref (aC 0)), some (.ref (aM 0)), some (.int (nI (i + 4)))] [] (rf_W g aC C 0 LayC ++ rf_W g aM G 0 LayM) k n) : EvW b L0 xs g aS 1027 [some (.ref b), some (.ref (aC 0)), some (.ref (aM 0)), some (.int (nI (i)))] [] (rf_W g aC C 0 LayC ++ rf_W g aM G 0 LayM) k n := by
  obtain ⟨r, C', G', e1, e2, hR'⟩ := op_tear C G hR
  refine lq_aload dL_law_1027 rfl ?_
  refine lq_call (ws := []) (a1 := aC) (a2 := aM) [] dL_law_1028 rfl ceX6_tear (iw_39 _ (List.mem_of_getElem? (i := 3) rfl)) (rm_le rfl rfl) rfl rfl rfl (Nat.le_of_ble_eq_true rfl) (Nat.le_of_ble_eq_true rfl) haC hk hn e1 ?_
  refine lq_aload dL_law_1031 rfl ?_
  refine lq_call (ws := []) (a1 := aM) (a2 := aC) [] dL_law_1032 rfl ceX7_tear (iw_39 _ (List.mem_of_getElem? (i := 7) rfl)) (rm_le rfl rfl) rfl rfl rfl (Nat.le_of_ble_eq_true rfl) (Nat.le_of_ble_eq_true rfl) haM hk hn e2 ?_
  refine lq_eq 1122 dL_law_1035 (by decide) ?_
  exact lc_end (ih C' G' hR')
set_option maxRecDepth 20000 in
set_option maxHeartbeats 2000000 in
theorem lc_28 {b L0 : Nat} {xs : Nat → Int32} {g : rf_G} {aS aC aM : Nat → Nat} {k n i : Nat} {C G : rf_Mem} (hi4 : i + 4 ≤ L0) (hL0 : L0 ≤ 2048) (haC : ∀ i, 1000 ≤ i → aC i = aS i) (haM : ∀ i, 1000 ≤ i → aM i = aS i) (hk : k ≤ 600000) (hn : n ≤ 7302250) (hR : Rg C G) (ih : ∀ C G, Rg C G → EvW b L0 xs g aS 18 [some (.ref b), some (.ref (aC 0)), some (.ref (aM 0)), some (.int (nI (i + 4)))] [] (rf_W g aC C 0 LayC ++ rf_W g aM G 0 LayM) k n) : EvW b L0 xs g aS 1040 [some (.ref b), some (.ref (aC 0)), some (.ref (aM 0)), some (.int (nI (i)))] [] (rf_W g aC C 0 LayC ++ rf_W g aM G 0 LayM) k n := by
  obtain ⟨r, C', G', e1, e2, hR'⟩ := op_judge C G hR
  refine lq_aload dL_law_1040 rfl ?_
  refine lq_call (ws := []) (a1 := aC) (a2 := aM) [] dL_law_1041 rfl ceX6_judge (iw_39 _ (List.mem_of_getElem? (i := 11) rfl)) (rm_le rfl rfl) rfl rfl rfl (Nat.le_of_ble_eq_true rfl) (Nat.le_of_ble_eq_true rfl) haC hk hn e1 ?_
  refine lq_aload dL_law_1044 rfl ?_
  refine lq_call (ws := []) (a1 := aM) (a2 := aC) [] dL_law_1045 rfl ceX7_judge (iw_39 _ (List.mem_of_getElem? (i := 15) rfl)) (rm_le rfl rfl) rfl rfl rfl (Nat.le_of_ble_eq_true rfl) (Nat.le_of_ble_eq_true rfl) haM hk hn e2 ?_
  refine lq_eq 1122 dL_law_1048 (by decide) ?_
  exact lc_end (ih C' G' hR')
set_option maxRecDepth 20000 in
set_option maxHeartbeats 2000000 in
theorem lc_29 {b L0 : Nat} {xs : Nat → Int32} {g : rf_G} {aS aC aM : Nat → Nat} {k n i : Nat} {C G : rf_Mem} (hi4 : i + 4 ≤ L0) (hL0 : L0 ≤ 2048) (haC : ∀ i, 1000 ≤ i → aC i = aS i) (haM : ∀ i, 1000 ≤ i → aM i = aS i) (hk : k ≤ 600000) (hn : n ≤ 7302250) (hR : Rg C G) (ih : ∀ C G, Rg C G → EvW b L0 xs g aS 18 [some (.ref b), some (.ref (aC 0)), some (.ref (aM 0)), some (.int (nI (i + 4)))] [] (rf_W g aC C 0 LayC ++ rf_W g aM G 0 LayM) k n) : EvW b L0 xs g aS 1053 [some (.ref b), some (.ref (aC 0)), some (.ref (aM 0)), some (.int (nI (i)))] [] (rf_W g aC C 0 LayC ++ rf_W g aM G 0 LayM) k n := by
  obtain ⟨r, C', G', e1, e2, hR'⟩ := (@op_seed (xs (i + 1))) C G hR
  refine lq_aload dL_law_1053 rfl ?_
  refine lq_aload dL_law_1054 rfl ?_
  refine lq_iload dL_law_1055 rfl ?_
  refine lq_iconst (v := nI 1) dL_law_1056 (by decide) ?_
  refine lq_iadd dL_law_1057 ?_
  refine lq_sld (i + 1) dL_law_1058 (nI_add _ _) (by omega) (by omega) ?_
  refine lq_call (ws := []) (a1 := aC) (a2 := aM) [.int (xs (i + 1))] dL_law_1059 rfl ceX6_seed (iw_39 _ (List.mem_of_getElem? (i := 19) rfl)) (rm_le rfl rfl) rfl rfl rfl (Nat.le_of_ble_eq_true rfl) (Nat.le_of_ble_eq_true rfl) haC hk hn e1 ?_
  refine lq_aload dL_law_1062 rfl ?_
  refine lq_aload dL_law_1063 rfl ?_
  refine lq_iload dL_law_1064 rfl ?_
  refine lq_iconst (v := nI 1) dL_law_1065 (by decide) ?_
  refine lq_iadd dL_law_1066 ?_
  refine lq_sld (i + 1) dL_law_1067 (nI_add _ _) (by omega) (by omega) ?_
  refine lq_call (ws := []) (a1 := aM) (a2 := aC) [.int (xs (i + 1))] dL_law_1068 rfl ceX7_seed (iw_39 _ (List.mem_of_getElem? (i := 23) rfl)) (rm_le rfl rfl) rfl rfl rfl (Nat.le_of_ble_eq_true rfl) (Nat.le_of_ble_eq_true rfl) haM hk hn e2 ?_
  refine lq_eq 1122 dL_law_1071 (by decide) ?_
  exact lc_end (ih C' G' hR')
set_option maxRecDepth 20000 in
set_option maxHeartbeats 2000000 in
theorem lc_30 {b L0 : Nat} {xs : Nat → Int32} {g : rf_G} {aS aC aM : Nat → Nat} {k n i : Nat} {C G : rf_Mem} (hi4 : i + 4 ≤ L0) (hL0 : L0 ≤ 2048) (haC : ∀ i, 1000 ≤ i → aC i = aS i) (haM : ∀ i, 1000 ≤ i → aM i = aS i) (hk : k ≤ 600000) (hn : n ≤ 7302250) (hR : Rg C G) (ih : ∀ C G, Rg C G → EvW b L0 xs g aS 18 [some (.ref b), some (.ref (aC 0)), some (.ref (aM 0)), some (.int (nI (i + 4)))] [] (rf_W g aC C 0 LayC ++ rf_W g aM G 0 LayM) k n) : EvW b L0 xs g aS 1076 [some (.ref b), some (.ref (aC 0)), some (.ref (aM 0)), some (.int (nI (i)))] [] (rf_W g aC C 0 LayC ++ rf_W g aM G 0 LayM) k n := by
  obtain ⟨r, C', G', e1, e2, hR'⟩ := (@op_keep (xs (i + 1))) C G hR
  refine lq_aload dL_law_1076 rfl ?_
  refine lq_aload dL_law_1077 rfl ?_
  refine lq_iload dL_law_1078 rfl ?_
  refine lq_iconst (v := nI 1) dL_law_1079 (by decide) ?_
  refine lq_iadd dL_law_1080 ?_
  refine lq_sld (i + 1) dL_law_1081 (nI_add _ _) (by omega) (by omega) ?_
  refine lq_call (ws := []) (a1 := aC) (a2 := aM) [.int (xs (i + 1))] dL_law_1082 rfl ceX6_keep (iw_40 _ (List.mem_of_getElem? (i := 3) rfl)) (rm_le rfl rfl) rfl rfl rfl (Nat.le_of_ble_eq_true rfl) (Nat.le_of_ble_eq_true rfl) haC hk hn e1 ?_
  refine lq_aload dL_law_1085 rfl ?_
  refine lq_aload dL_law_1086 rfl ?_
  refine lq_iload dL_law_1087 rfl ?_
  refine lq_iconst (v := nI 1) dL_law_1088 (by decide) ?_
  refine lq_iadd dL_law_1089 ?_
  refine lq_sld (i + 1) dL_law_1090 (nI_add _ _) (by omega) (by omega) ?_
  refine lq_call (ws := []) (a1 := aM) (a2 := aC) [.int (xs (i + 1))] dL_law_1091 rfl ceX7_keep (iw_40 _ (List.mem_of_getElem? (i := 17) rfl)) (rm_le rfl rfl) rfl rfl rfl (Nat.le_of_ble_eq_true rfl) (Nat.le_of_ble_eq_true rfl) haM hk hn e2 ?_
  refine lq_eq 1122 dL_law_1094 (by decide) ?_
  exact lc_end (ih C' G' hR')
set_option maxRecDepth 20000 in
set_option maxHeartbeats 2000000 in
theorem lc_31 {b L0 : Nat} {xs : Nat → Int32} {g : rf_G} {aS aC aM : Nat → Nat} {k n i : Nat} {C G : rf_Mem} (hi4 : i + 4 ≤ L0) (hL0 : L0 ≤ 2048) (haC : ∀ i, 1000 ≤ i → aC i = aS i) (haM : ∀ i, 1000 ≤ i → aM i = aS i) (hk : k ≤ 600000) (hn : n ≤ 7302250) (hR : Rg C G) (ih : ∀ C G, Rg C G → EvW b L0 xs g aS 18 [some (.ref b), some (.ref (aC 0)), some (.ref (aM 0)), some (.int (nI (i + 4)))] [] (rf_W g aC C 0 LayC ++ rf_W g aM G 0 LayM) k n) : EvW b L0 xs g aS 1099 [some (.ref b), some (.ref (aC 0)), some (.ref (aM 0)), some (.int (nI (i)))] [] (rf_W g aC C 0 LayC ++ rf_W g aM G 0 LayM) k n := by
  obtain ⟨r, C', G', e1, e2, hR'⟩ := (@op_goBack (xs (i + 1))) C G hR
  refine lq_aload dL_law_1099 rfl ?_
  refine lq_aload dL_law_1100 rfl ?_
  refine lq_iload dL_law_1101 rfl ?_
  refine lq_iconst (v := nI 1) dL_law_1102 (by decide) ?_
  refine lq_iadd dL_law_1103 ?_
  refine lq_sld (i + 1) dL_law_1104 (nI_add _ _) (by omega) (by omega) ?_
  refine lq_call (ws := []) (a1 := aC) (a2 := aM) [.int (xs (i + 1))] dL_law_1105 rfl ceX6_goBack (iw_40 _ (List.mem_of_getElem? (i := 21) rfl)) (rm_le rfl rfl) rfl rfl rfl (Nat.le_of_ble_eq_true rfl) (Nat.le_of_ble_eq_true rfl) haC hk hn e1 ?_
  refine lq_aload dL_law_1108 rfl ?_
  refine lq_aload dL_law_1109 rfl ?_
  refine lq_iload dL_law_1110 rfl ?_
  refine lq_iconst (v := nI 1) dL_law_1111 (by decide) ?_
  refine lq_iadd dL_law_1112 ?_
  refine lq_sld (i + 1) dL_law_1113 (nI_add _ _) (by omega) (by omega) ?_
  refine lq_call (ws := []) (a1 := aM) (a2 := aC) [.int (xs (i + 1))] dL_law_1114 rfl ceX7_goBack (iw_41 _ (List.mem_of_getElem? (i := 1) rfl)) (rm_le rfl rfl) rfl rfl rfl (Nat.le_of_ble_eq_true rfl) (Nat.le_of_ble_eq_true rfl) haM hk hn e2 ?_
  refine lq_eq 1122 dL_law_1117 (by decide) ?_
  exact lc_end (ih C' G' hR')
set_option maxRecDepth 20000 in
set_option maxHeartbeats 2000000 in
theorem law_loop {b L0 : Nat} {xs : Nat → Int32} {g : rf_G} {aS aC aM : Nat → Nat} {k n : Nat} (hL0 : L0 ≤ 2048) (haC : ∀ i, 1000 ≤ i → aC i = aS i) (haM : ∀ i, 1000 ≤ i → aM i = aS i) (hk : k ≤ 600000) (hn : n ≤ 7302250) : ∀ (m i : Nat) (C G : rf_Mem), L0 < i + m → i ≤ 2052 → Rg C G → EvW b L0 xs g aS 18 [some (.ref b), some (.ref (aC 0)), some (.ref (aM 0)), some (.int (nI (i)))] [] (rf_W g aC C 0 LayC ++ rf_W g aM G 0 LayM) k n := by
  have ex : ∀ (i : Nat) (C G : rf_Mem), L0 < i + 4 → i ≤ 2052 → EvW b L0 xs g aS 18 [some (.ref b), some (.ref (aC 0)), some (.ref (aM 0)), some (.int (nI (i)))] [] (rf_W g aC C 0 LayC ++ rf_W g aM G 0 LayM) k n := by
    intro i C G hm hi
    have hg : nI L0 - nI 4 < nI i := by
      rw [fa_lt, pk_sub_toInt (by omega) (by decide), nI_toInt (by omega)]
      omega
    refine lq_iload dL_law_18 rfl ?_
    refine lq_aload dL_law_19 rfl ?_
    refine lq_slen dL_law_20 ?_
    refine lq_iconst (v := nI 4) dL_law_21 (by decide) ?_
    refine lq_isub dL_law_22 ?_
    refine lq_gt 1128 dL_law_23 (by decide) (fun _ => ?_) (fun hc => absurd hg hc)
    refine lq_iconst (v := 1) dL_law_1128 (by decide) ?_
    exact lq_ret (st := []) dL_law_1129 hk hn
  intro m
  induction m with
  | zero =>
    intro i C G hm hi hR
    exact ex i C G (by omega) hi
  | succ m ih =>
    intro i C G hm hi hR
    by_cases hi4 : i + 4 ≤ L0
    · have hng : ¬ nI L0 - nI 4 < nI i := by
        rw [fa_lt, pk_sub_toInt (by omega) (by decide), nI_toInt (by omega)]
        omega
      have ih2 : ∀ C G, Rg C G → EvW b L0 xs g aS 18 [some (.ref b), some (.ref (aC 0)), some (.ref (aM 0)), some (.int (nI (i + 4)))] [] (rf_W g aC C 0 LayC ++ rf_W g aM G 0 LayM) k n := fun C G hR => ih (i + 4) C G (by omega) (by omega) hR
      refine lq_iload dL_law_18 rfl ?_
      refine lq_aload dL_law_19 rfl ?_
      refine lq_slen dL_law_20 ?_
      refine lq_iconst (v := nI 4) dL_law_21 (by decide) ?_
      refine lq_isub dL_law_22 ?_
      refine lq_gt 1128 dL_law_23 (by decide) (fun hc => absurd hc hng) (fun _ => ?_)
      refine lq_aload dL_law_26 rfl ?_
      refine lq_iload dL_law_27 rfl ?_
      refine lq_sld i dL_law_28 rfl (by omega) (by omega) ?_
      refine lq_bipush (v := nI 31) dL_law_29 (by decide) ?_
      refine lq_iand dL_law_31 ?_
      obtain ⟨j, hj, ej⟩ := pk_andE (xs i) (m := nI 31) 5 (by decide)
      rw [ej]
      have h32 : j = 0 ∨ j = 1 ∨ j = 2 ∨ j = 3 ∨ j = 4 ∨ j = 5 ∨ j = 6 ∨ j = 7 ∨ j = 8 ∨ j = 9 ∨ j = 10 ∨ j = 11 ∨ j = 12 ∨ j = 13 ∨ j = 14 ∨ j = 15 ∨ j = 16 ∨ j = 17 ∨ j = 18 ∨ j = 19 ∨ j = 20 ∨ j = 21 ∨ j = 22 ∨ j = 23 ∨ j = 24 ∨ j = 25 ∨ j = 26 ∨ j = 27 ∨ j = 28 ∨ j = 29 ∨ j = 30 ∨ j = 31 := by omega
      rcases h32 with rfl | rfl | rfl | rfl | rfl | rfl | rfl | rfl | rfl | rfl | rfl | rfl | rfl | rfl | rfl | rfl | rfl | rfl | rfl | rfl | rfl | rfl | rfl | rfl | rfl | rfl | rfl | rfl | rfl | rfl | rfl | rfl
      · exact lq_tab 176 dL_law_32 (by decide) (by decide) rfl (by decide) (lc_0 hi4 hL0 haC haM hk hn hR ih2)
      · exact lq_tab 239 dL_law_32 (by decide) (by decide) rfl (by decide) (lc_1 hi4 hL0 haC haM hk hn hR ih2)
      · exact lq_tab 252 dL_law_32 (by decide) (by decide) rfl (by decide) (lc_2 hi4 hL0 haC haM hk hn hR ih2)
      · exact lq_tab 265 dL_law_32 (by decide) (by decide) rfl (by decide) (lc_3 hi4 hL0 haC haM hk hn hR ih2)
      · exact lq_tab 288 dL_law_32 (by decide) (by decide) rfl (by decide) (lc_4 hi4 hL0 haC haM hk hn hR ih2)
      · exact lq_tab 321 dL_law_32 (by decide) (by decide) rfl (by decide) (lc_5 hi4 hL0 haC haM hk hn hR ih2)
      · exact lq_tab 354 dL_law_32 (by decide) (by decide) rfl (by decide) (lc_6 hi4 hL0 haC haM hk hn hR ih2)
      · exact lq_tab 387 dL_law_32 (by decide) (by decide) rfl (by decide) (lc_7 hi4 hL0 haC haM hk hn hR ih2)
      · exact lq_tab 430 dL_law_32 (by decide) (by decide) rfl (by decide) (lc_8 hi4 hL0 haC haM hk hn hR ih2)
      · exact lq_tab 463 dL_law_32 (by decide) (by decide) rfl (by decide) (lc_9 hi4 hL0 haC haM hk hn hR ih2)
      · exact lq_tab 496 dL_law_32 (by decide) (by decide) rfl (by decide) (lc_10 hi4 hL0 haC haM hk hn hR ih2)
      · exact lq_tab 529 dL_law_32 (by decide) (by decide) rfl (by decide) (lc_11 hi4 hL0 haC haM hk hn hR ih2)
      · exact lq_tab 562 dL_law_32 (by decide) (by decide) rfl (by decide) (lc_12 hi4 hL0 haC haM hk hn hR ih2)
      · exact lq_tab 605 dL_law_32 (by decide) (by decide) rfl (by decide) (lc_13 hi4 hL0 haC haM hk hn hR ih2)
      · exact lq_tab 628 dL_law_32 (by decide) (by decide) rfl (by decide) (lc_14 hi4 hL0 haC haM hk hn hR ih2)
      · exact lq_tab 651 dL_law_32 (by decide) (by decide) rfl (by decide) (lc_15 hi4 hL0 haC haM hk hn hR ih2)
      · exact lq_tab 674 dL_law_32 (by decide) (by decide) rfl (by decide) (lc_16 hi4 hL0 haC haM hk hn hR ih2)
      · exact lq_tab 717 dL_law_32 (by decide) (by decide) rfl (by decide) (lc_17 hi4 hL0 haC haM hk hn hR ih2)
      · exact lq_tab 730 dL_law_32 (by decide) (by decide) rfl (by decide) (lc_18 hi4 hL0 haC haM hk hn hR ih2)
      · exact lq_tab 753 dL_law_32 (by decide) (by decide) rfl (by decide) (lc_19 hi4 hL0 haC haM hk hn hR ih2)
      · exact lq_tab 786 dL_law_32 (by decide) (by decide) rfl (by decide) (lc_20 hi4 hL0 haC haM hk hn hR ih2)
      · exact lq_tab 819 dL_law_32 (by decide) (by decide) rfl (by decide) (lc_21 hi4 hL0 haC haM hk hn hR ih2)
      · exact lq_tab 862 dL_law_32 (by decide) (by decide) rfl (by decide) (lc_22 hi4 hL0 haC haM hk hn hR ih2)
      · exact lq_tab 885 dL_law_32 (by decide) (by decide) rfl (by decide) (lc_23 hi4 hL0 haC haM hk hn hR ih2)
      · exact lq_tab 928 dL_law_32 (by decide) (by decide) rfl (by decide) (lc_24 hi4 hL0 haC haM hk hn hR ih2)
      · exact lq_tab 961 dL_law_32 (by decide) (by decide) rfl (by decide) (lc_25 hi4 hL0 haC haM hk hn hR ih2)
      · exact lq_tab 1004 dL_law_32 (by decide) (by decide) rfl (by decide) (lc_26 hi4 hL0 haC haM hk hn hR ih2)
      · exact lq_tab 1027 dL_law_32 (by decide) (by decide) rfl (by decide) (lc_27 hi4 hL0 haC haM hk hn hR ih2)
      · exact lq_tab 1040 dL_law_32 (by decide) (by decide) rfl (by decide) (lc_28 hi4 hL0 haC haM hk hn hR ih2)
      · exact lq_tab 1053 dL_law_32 (by decide) (by decide) rfl (by decide) (lc_29 hi4 hL0 haC haM hk hn hR ih2)
      · exact lq_tab 1076 dL_law_32 (by decide) (by decide) rfl (by decide) (lc_30 hi4 hL0 haC haM hk hn hR ih2)
      · exact lq_tab 1099 dL_law_32 (by decide) (by decide) rfl (by decide) (lc_31 hi4 hL0 haC haM hk hn hR ih2)
    · exact ex i C G (by omega) hi
