/-! texts: length, charAt -/
theorem dJ0_length_8abf5_0 : decode cJ0_length_8abf5 0 = .ok (.aload_n 0, 1) := by decide +kernel
theorem dJ0_length_8abf5_1 : decode cJ0_length_8abf5 1 = .ok (.getfield 9, 3) := by decide +kernel
theorem dJ0_length_8abf5_4 : decode cJ0_length_8abf5 4 = .ok (.arraylength, 1) := by decide +kernel
theorem dJ0_length_8abf5_5 : decode cJ0_length_8abf5 5 = .ok (.aload_n 0, 1) := by decide +kernel
theorem dJ0_length_8abf5_6 : decode cJ0_length_8abf5 6 = .ok (.invokevirtual 335, 3) := by decide +kernel
theorem dJ0_length_8abf5_9 : decode cJ0_length_8abf5 9 = .ok (.ishr, 1) := by decide +kernel
theorem dJ0_length_8abf5_10 : decode cJ0_length_8abf5 10 = .ok (.ireturn, 1) := by decide +kernel
theorem dJ0_charAt_5068e_0 : decode cJ0_charAt_5068e 0 = .ok (.aload_n 0, 1) := by decide +kernel
theorem dJ0_charAt_5068e_1 : decode cJ0_charAt_5068e 1 = .ok (.invokevirtual 492, 3) := by decide +kernel
theorem dJ0_charAt_5068e_4 : decode cJ0_charAt_5068e 4 = .ok (.ifCond .eq 12, 3) := by decide +kernel
theorem dJ0_charAt_5068e_7 : decode cJ0_charAt_5068e 7 = .ok (.aload_n 0, 1) := by decide +kernel
theorem dJ0_charAt_5068e_8 : decode cJ0_charAt_5068e 8 = .ok (.getfield 9, 3) := by decide +kernel
theorem dJ0_charAt_5068e_11 : decode cJ0_charAt_5068e 11 = .ok (.iload_n 1, 1) := by decide +kernel
theorem dJ0_charAt_5068e_12 : decode cJ0_charAt_5068e 12 = .ok (.invokestatic 495, 3) := by decide +kernel
theorem dJ0_charAt_5068e_15 : decode cJ0_charAt_5068e 15 = .ok (.ireturn, 1) := by decide +kernel
theorem dJ0_coder_7d493_0 : decode cJ0_coder_7d493 0 = .ok (.getstatic 38, 3) := by decide +kernel
theorem dJ0_coder_7d493_3 : decode cJ0_coder_7d493 3 = .ok (.ifCond .eq 10, 3) := by decide +kernel
theorem dJ0_coder_7d493_6 : decode cJ0_coder_7d493 6 = .ok (.aload_n 0, 1) := by decide +kernel
theorem dJ0_coder_7d493_7 : decode cJ0_coder_7d493 7 = .ok (.getfield 15, 3) := by decide +kernel
theorem dJ0_coder_7d493_10 : decode cJ0_coder_7d493 10 = .ok (.goto 4, 3) := by decide +kernel
theorem dJ0_coder_7d493_13 : decode cJ0_coder_7d493 13 = .ok (.iconst 1, 1) := by decide +kernel
theorem dJ0_coder_7d493_14 : decode cJ0_coder_7d493 14 = .ok (.ireturn, 1) := by decide +kernel
theorem dJ0_isLatin1_aae02_0 : decode cJ0_isLatin1_aae02 0 = .ok (.getstatic 38, 3) := by decide +kernel
theorem dJ0_isLatin1_aae02_3 : decode cJ0_isLatin1_aae02 3 = .ok (.ifCond .eq 14, 3) := by decide +kernel
theorem dJ0_isLatin1_aae02_6 : decode cJ0_isLatin1_aae02 6 = .ok (.aload_n 0, 1) := by decide +kernel
theorem dJ0_isLatin1_aae02_7 : decode cJ0_isLatin1_aae02 7 = .ok (.getfield 15, 3) := by decide +kernel
theorem dJ0_isLatin1_aae02_10 : decode cJ0_isLatin1_aae02 10 = .ok (.ifCond .ne 7, 3) := by decide +kernel
theorem dJ0_isLatin1_aae02_13 : decode cJ0_isLatin1_aae02 13 = .ok (.iconst 1, 1) := by decide +kernel
theorem dJ0_isLatin1_aae02_14 : decode cJ0_isLatin1_aae02 14 = .ok (.goto 4, 3) := by decide +kernel
theorem dJ0_isLatin1_aae02_17 : decode cJ0_isLatin1_aae02 17 = .ok (.iconst 0, 1) := by decide +kernel
theorem dJ0_isLatin1_aae02_18 : decode cJ0_isLatin1_aae02 18 = .ok (.ireturn, 1) := by decide +kernel
theorem dJ0_checkIndex_df160_0 : decode cJ0_checkIndex_df160 0 = .ok (.iload_n 0, 1) := by decide +kernel
theorem dJ0_checkIndex_df160_1 : decode cJ0_checkIndex_df160 1 = .ok (.iload_n 1, 1) := by decide +kernel
theorem dJ0_checkIndex_df160_2 : decode cJ0_checkIndex_df160 2 = .ok (.getstatic 1053, 3) := by decide +kernel
theorem dJ0_checkIndex_df160_5 : decode cJ0_checkIndex_df160 5 = .ok (.invokestatic 1059, 3) := by decide +kernel
theorem dJ0_checkIndex_df160_8 : decode cJ0_checkIndex_df160 8 = .ok (.pop, 1) := by decide +kernel
theorem dJ0_checkIndex_df160_9 : decode cJ0_checkIndex_df160 9 = .ok (.return_, 1) := by decide +kernel
theorem dJ1_charAt_3b067_0 : decode cJ1_charAt_3b067 0 = .ok (.iload_n 1, 1) := by decide +kernel
theorem dJ1_charAt_3b067_1 : decode cJ1_charAt_3b067 1 = .ok (.aload_n 0, 1) := by decide +kernel
theorem dJ1_charAt_3b067_2 : decode cJ1_charAt_3b067 2 = .ok (.arraylength, 1) := by decide +kernel
theorem dJ1_charAt_3b067_3 : decode cJ1_charAt_3b067 3 = .ok (.invokestatic 9, 3) := by decide +kernel
theorem dJ1_charAt_3b067_6 : decode cJ1_charAt_3b067 6 = .ok (.aload_n 0, 1) := by decide +kernel
theorem dJ1_charAt_3b067_7 : decode cJ1_charAt_3b067 7 = .ok (.iload_n 1, 1) := by decide +kernel
theorem dJ1_charAt_3b067_8 : decode cJ1_charAt_3b067 8 = .ok (.baload, 1) := by decide +kernel
theorem dJ1_charAt_3b067_9 : decode cJ1_charAt_3b067 9 = .ok (.sipush 255, 3) := by decide +kernel
theorem dJ1_charAt_3b067_12 : decode cJ1_charAt_3b067 12 = .ok (.iand, 1) := by decide +kernel
theorem dJ1_charAt_3b067_13 : decode cJ1_charAt_3b067 13 = .ok (.i2c, 1) := by decide +kernel
theorem dJ1_charAt_3b067_14 : decode cJ1_charAt_3b067 14 = .ok (.ireturn, 1) := by decide +kernel
theorem dJ3_checkIndex_8e157_0 : decode cJ3_checkIndex_8e157 0 = .ok (.iload_n 0, 1) := by decide +kernel
theorem dJ3_checkIndex_8e157_1 : decode cJ3_checkIndex_8e157 1 = .ok (.ifCond .lt 8, 3) := by decide +kernel
theorem dJ3_checkIndex_8e157_4 : decode cJ3_checkIndex_8e157 4 = .ok (.iload_n 0, 1) := by decide +kernel
theorem dJ3_checkIndex_8e157_5 : decode cJ3_checkIndex_8e157 5 = .ok (.iload_n 1, 1) := by decide +kernel
theorem dJ3_checkIndex_8e157_6 : decode cJ3_checkIndex_8e157 6 = .ok (.if_icmp .lt 10, 3) := by decide +kernel
theorem dJ3_checkIndex_8e157_16 : decode cJ3_checkIndex_8e157 16 = .ok (.iload_n 0, 1) := by decide +kernel
theorem dJ3_checkIndex_8e157_17 : decode cJ3_checkIndex_8e157 17 = .ok (.ireturn, 1) := by decide +kernel
theorem fJ0_9 : Cond.fieldLink RJ0 9 "java/lang/String" "value" "[B" ∈ wsL_law := iw_8 _ (List.mem_of_getElem? (i := 14) rfl)
theorem fJ0_15 : Cond.fieldLink RJ0 15 "java/lang/String" "coder" "B" ∈ wsL_law := iw_8 _ (List.mem_of_getElem? (i := 20) rfl)
theorem fJ0_38 : Cond.fieldLink RJ0 38 "java/lang/String" "COMPACT_STRINGS" "Z" ∈ wsL_law := iw_8 _ (List.mem_of_getElem? (i := 19) rfl)
theorem fJ0_1053 : Cond.fieldLink RJ0 1053 "jdk/internal/util/Preconditions" "SIOOBE_FORMATTER" "Ljava/util/function/BiFunction;" ∈ wsL_law := iw_9 _ (List.mem_of_getElem? (i := 12) rfl)
theorem kJ0_1059 : Cond.methodLink RJ0 1059 yJ3_checkIndex_8e157 ∈ wsL_law := iw_9 _ (List.mem_of_getElem? (i := 13) rfl)
theorem kJ0_335 : Cond.methodLink RJ0 335 yJ0_coder_7d493 ∈ wsL_law := iw_8 _ (List.mem_of_getElem? (i := 15) rfl)
theorem kJ0_492 : Cond.methodLink RJ0 492 yJ0_isLatin1_aae02 ∈ wsL_law := iw_9 _ (List.mem_of_getElem? (i := 1) rfl)
theorem kJ0_495 : Cond.methodLink RJ0 495 yJ1_charAt_3b067 ∈ wsL_law := iw_9 _ (List.mem_of_getElem? (i := 5) rfl)
theorem kJ1_9 : Cond.methodLink RJ1 9 yJ0_checkIndex_df160 ∈ wsL_law := iw_9 _ (List.mem_of_getElem? (i := 9) rfl)
def rf_ceT (y : rf_Me) (n : Nat) : Prop := rf_ce y n ∧ Cond.instanceMethod y.1 ∈ wsL_law ∧ Cond.selects y.1.cls y.1 y.1 ∈ wsL_law ∧ y.1.cls = "java/lang/String"
theorem ceJ0_length_8abf5 : rf_ceT mJ0_length_8abf5 0 := ⟨⟨by decide +kernel, iw_8 _ (List.mem_of_getElem? (i := 13) rfl), iw_8 _ (List.mem_of_getElem? (i := 12) rfl), ⟨by decide +kernel, by decide +kernel, by decide +kernel⟩, rfl, rfl⟩, iw_8 _ (List.mem_of_getElem? (i := 10) rfl), iw_8 _ (List.mem_of_getElem? (i := 11) rfl), rfl⟩
theorem ceJ0_charAt_5068e : rf_ceT mJ0_charAt_5068e 1 := ⟨⟨by decide +kernel, iw_9 _ (List.mem_of_getElem? (i := 0) rfl), iw_8 _ (List.mem_of_getElem? (i := 12) rfl), ⟨by decide +kernel, by decide +kernel, by decide +kernel⟩, rfl, rfl⟩, iw_8 _ (List.mem_of_getElem? (i := 22) rfl), iw_8 _ (List.mem_of_getElem? (i := 23) rfl), rfl⟩
theorem ceJ0_coder_7d493 : rf_ceT mJ0_coder_7d493 0 := ⟨⟨by decide +kernel, iw_8 _ (List.mem_of_getElem? (i := 18) rfl), iw_8 _ (List.mem_of_getElem? (i := 12) rfl), ⟨by decide +kernel, by decide +kernel, by decide +kernel⟩, rfl, rfl⟩, iw_8 _ (List.mem_of_getElem? (i := 16) rfl), iw_8 _ (List.mem_of_getElem? (i := 17) rfl), rfl⟩
theorem ceJ0_isLatin1_aae02 : rf_ceT mJ0_isLatin1_aae02 0 := ⟨⟨by decide +kernel, iw_9 _ (List.mem_of_getElem? (i := 4) rfl), iw_8 _ (List.mem_of_getElem? (i := 12) rfl), ⟨by decide +kernel, by decide +kernel, by decide +kernel⟩, rfl, rfl⟩, iw_9 _ (List.mem_of_getElem? (i := 2) rfl), iw_9 _ (List.mem_of_getElem? (i := 3) rfl), rfl⟩
theorem ceJ0_checkIndex_df160 : rf_ceS mJ0_checkIndex_df160 2 := ⟨⟨by decide +kernel, iw_9 _ (List.mem_of_getElem? (i := 11) rfl), iw_8 _ (List.mem_of_getElem? (i := 12) rfl), ⟨by decide +kernel, by decide +kernel, by decide +kernel⟩, rfl, rfl⟩, iw_9 _ (List.mem_of_getElem? (i := 10) rfl)⟩
theorem ceJ1_charAt_3b067 : rf_ceS mJ1_charAt_3b067 2 := ⟨⟨by decide +kernel, iw_9 _ (List.mem_of_getElem? (i := 8) rfl), iw_9 _ (List.mem_of_getElem? (i := 7) rfl), ⟨by decide +kernel, by decide +kernel, by decide +kernel⟩, rfl, rfl⟩, iw_9 _ (List.mem_of_getElem? (i := 6) rfl)⟩
theorem ceJ3_checkIndex_8e157 : rf_ceS mJ3_checkIndex_8e157 3 := ⟨⟨by decide +kernel, iw_9 _ (List.mem_of_getElem? (i := 16) rfl), iw_9 _ (List.mem_of_getElem? (i := 15) rfl), ⟨by decide +kernel, by decide +kernel, by decide +kernel⟩, rfl, rfl⟩, iw_9 _ (List.mem_of_getElem? (i := 14) rfl)⟩
/-- a call on a text -/
theorem ev_callT {Lay : List rf_Cell} {y : rf_Me} {pc : Nat} {L : List (Option Value)} {st : List Value} {M : rf_Mem} {r : Option Value} {M' : rf_Mem} {y' : rf_Me} {idx n j : Nat} {stk : List Value} {r1 : Option Value} {M1 : rf_Mem} (av : List Value) (hd : decode y.2.1 pc = .ok (.invokevirtual idx, 3)) (hs : stk = av.reverse ++ .ref (1000 + j) :: st) (hj : j < 8) (hc : rf_ceT y' n) (hw : Cond.methodLink y.1.cls idx y'.1 ∈ wsL_law) (hrm : rf_rm y y') (hn : av.length = n) (hst : (st.map fun v => v.category).sum ≤ 8) (hent : (rf_sl (.ref (1000 + j) :: av)).length ≤ y'.2.2.1)
    (hb : Ev Lay y' 0 (rf_ent y'.2.2.1 (.ref (1000 + j) :: av)) [] M r1 M1) (h : Ev Lay y (pc + 3) L (r1.toList ++ st) M1 r M') : Ev Lay y pc L stk M r M' := by
  intro p l e s m args below meth c D g ad A H locs ls C hP hD hS hl
  obtain ⟨⟨g1, g2, g3, g4, g5, g6⟩, g7, g8, g9⟩ := hc
  have hts := C.2.2.2.2.2.2.1
  have X := C.2.2.2.2.2.2.2.2.2
  obtain ⟨hA, hst0⟩ := rf_start C hP hD hS (.ref (1000 + j) :: av)
  have hM := rf_met g1 hent hb l D g ad H.size
  have cw : CallW y.2.2.2.2 s args y.1.cls y'.1.cls idx y'.1 y'.2.1 y'.2.2.1 y'.2.2.2.1 (rf_ws y') y'.2.2.2.2 0 0 n := ⟨callB_of n hts (rf_good g2) rfl g5 g6 (hts _ g3) (hts _ hw) g4 hrm, hts _ g7, hts _ g8⟩
  have hrv : ∃ cellB : Cell, H[ad (1000 + j)]? = some cellB ∧ cellB.vm.isStatics = false ∧ s.vm.findClass y'.1.cls = some cellB.cls := by
    rw [g9]
    exact vk_recv (adK := fun j => ad (1000 + j)) (i := j) X.2.2.1 hj hS
  refine rf_callW (va_runV (As := av.map (rf_cv ad)) (rest := st.map (rf_cv ad)) ⟨C.1, C.2.1, C.2.2.2.2.1, C.2.2.2.2.2.1, hts⟩ hM cw ⟨rf_blind, hrv, hst0⟩ rfl (by rw [List.length_map]; exact hn) hl.1 (by rw [hs]; simp [List.map_reverse, rf_cv]) (lv_room (by rw [rf_cat]; exact hst)) hd ⟨by rw [Nat.zero_add]; exact Nat.zero_le _, by rw [Nat.zero_add]; exact Nat.zero_le _⟩) hS hA (fun H1 locs1 hP1 hS1 => ?_)
  have h9 := h p l e s m args below meth c D g ad A H1 locs1 ls C hP1 (rf_D hD) hS1 hl
  cases r1 with
  | none => exact h9
  | some v => exact h9
theorem ev_cT0 {Lay : List rf_Cell} {y : rf_Me} {pc : Nat} {L : List (Option Value)} {st : List Value} {M : rf_Mem} {r : Option Value} {M' : rf_Mem} {y' : rf_Me} {idx j : Nat} {w : Value} {M1 : rf_Mem} (hj : j < 8) (hd : decode y.2.1 pc = .ok (.invokevirtual idx, 3)) (hc : rf_ceT y' 0) (hw : Cond.methodLink y.1.cls idx y'.1 ∈ wsL_law) (hrm : rf_rm y y') (hst : (st.map fun v => v.category).sum ≤ 8) (hent : (rf_sl [.ref (1000 + j)]).length ≤ y'.2.2.1) (hb : Ev Lay y' 0 (rf_ent y'.2.2.1 [.ref (1000 + j)]) [] M (some w) M1) (h : Ev Lay y (pc + 3) L (w :: st) M1 r M') : Ev Lay y pc L (.ref (1000 + j) :: st) M r M' :=
  ev_callT [] hd rfl hj hc hw hrm rfl hst hent hb h
theorem ev_cT1 {Lay : List rf_Cell} {y : rf_Me} {pc : Nat} {L : List (Option Value)} {st : List Value} {M : rf_Mem} {r : Option Value} {M' : rf_Mem} {y' : rf_Me} {idx j : Nat} {v1 w : Value} {M1 : rf_Mem} (hj : j < 8) (hd : decode y.2.1 pc = .ok (.invokevirtual idx, 3)) (hc : rf_ceT y' 1) (hw : Cond.methodLink y.1.cls idx y'.1 ∈ wsL_law) (hrm : rf_rm y y') (hst : (st.map fun v => v.category).sum ≤ 8) (hent : (rf_sl [.ref (1000 + j), v1]).length ≤ y'.2.2.1) (hb : Ev Lay y' 0 (rf_ent y'.2.2.1 [.ref (1000 + j), v1]) [] M (some w) M1) (h : Ev Lay y (pc + 3) L (w :: st) M1 r M') : Ev Lay y pc L (v1 :: .ref (1000 + j) :: st) M r M' :=
  ev_callT [v1] hd rfl hj hc hw hrm rfl hst hent hb h
theorem ev_getSv {Lay : List rf_Cell} {y : rf_Me} {pc : Nat} {L : List (Option Value)} {st : List Value} {M : rf_Mem} {r : Option Value} {M' : rf_Mem} {idx j : Nat} (hj : j < 8) (hd : decode y.2.1 pc = .ok (.getfield idx, 3)) (hw : Cond.fieldLink y.1.cls idx "java/lang/String" "value" "[B" ∈ wsL_law) (h : Ev Lay y (pc + 3) L (.ref (2000 + j) :: st) M r M') : Ev Lay y pc L (.ref (1000 + j) :: st) M r M' := by
  intro p l e s m args below meth c D g ad A H locs ls C hP hD hS hl
  have X := C.2.2.2.2.2.2.2.2.2
  exact vk_getf C.1 C.2.1 ((X.2.2.1.1 j hj).2.2.1) hS C.2.2.2.2.2.1 (C.2.2.2.2.2.2.1 _ hw) (fun _ z => z) hd (h p l e s m args below meth c D g ad A H locs ls C hP hD hS hl)
theorem ev_getSc {Lay : List rf_Cell} {y : rf_Me} {pc : Nat} {L : List (Option Value)} {st : List Value} {M : rf_Mem} {r : Option Value} {M' : rf_Mem} {idx j : Nat} (hj : j < 8) (hd : decode y.2.1 pc = .ok (.getfield idx, 3)) (hw : Cond.fieldLink y.1.cls idx "java/lang/String" "coder" "B" ∈ wsL_law) (h : Ev Lay y (pc + 3) L (.int 0 :: st) M r M') : Ev Lay y pc L (.ref (1000 + j) :: st) M r M' := by
  intro p l e s m args below meth c D g ad A H locs ls C hP hD hS hl
  have X := C.2.2.2.2.2.2.2.2.2
  exact vk_getf C.1 C.2.1 ((X.2.2.1.1 j hj).2.1) hS C.2.2.2.2.2.1 (C.2.2.2.2.2.2.1 _ hw) (fun _ z => z) hd (h p l e s m args below meth c D g ad A H locs ls C hP hD hS hl)
theorem ev_lenT {Lay : List rf_Cell} {y : rf_Me} {pc : Nat} {L : List (Option Value)} {st : List Value} {M : rf_Mem} {r : Option Value} {M' : rf_Mem} {j : Nat} (hj : j < 8) (hd : decode y.2.1 pc = .ok (.arraylength, 1)) (h : Ev Lay y (pc + 1) L (.int (nI (rf_len.getD j 0)) :: st) M r M') : Ev Lay y pc L (.ref (2000 + j) :: st) M r M' := by
  intro p l e s m args below meth c D g ad A H locs ls C hP hD hS hl
  have X := C.2.2.2.2.2.2.2.2.2
  exact va_tlen C.1 C.2.1 ((X.2.2.1.1 j hj).2.2.2) hS (v := nI (rf_len.getD j 0)) rfl hd (h p l e s m args below meth c D g ad A H locs ls C hP hD hS hl)
theorem ev_baldT {Lay : List rf_Cell} {y : rf_Me} {pc : Nat} {L : List (Option Value)} {st : List Value} {M : rf_Mem} {r : Option Value} {M' : rf_Mem} {j k : Nat} (hj : j < 8) (hk : k < rf_len.getD j 0) (hk2 : rf_len.getD j 0 < 2 ^ 31) (hd : decode y.2.1 pc = .ok (.baload, 1)) (h : Ev Lay y (pc + 1) L (.int ((rf_byt.getD j []).getD k 0) :: st) M r M') : Ev Lay y pc L (.int (nI k) :: .ref (2000 + j) :: st) M r M' := by
  intro p l e s m args below meth c D g ad A H locs ls C hP hD hS hl
  have X := C.2.2.2.2.2.2.2.2.2
  exact va_tb C.1 C.2.1 ((X.2.2.1.1 j hj).2.2.2) hS (vp_in_nI hk hk2) (v := .int ((rf_byt.getD j []).getD k 0)) (by rw [nI_clamp (by omega)]) hd (h p l e s m args below meth c D g ad A H locs ls C hP hD hS hl)
theorem ev_getsC {Lay : List rf_Cell} {y : rf_Me} {pc : Nat} {L : List (Option Value)} {st : List Value} {M : rf_Mem} {r : Option Value} {M' : rf_Mem} {idx : Nat} (hd : decode y.2.1 pc = .ok (.getstatic idx, 3)) (hw : Cond.fieldLink y.1.cls idx "java/lang/String" "COMPACT_STRINGS" "Z" ∈ wsL_law) (h : Ev Lay y (pc + 3) L (.int 1 :: st) M r M') : Ev Lay y pc L st M r M' := by
  intro p l e s m args below meth c D g ad A H locs ls C hP hD hS hl
  have X := C.2.2.2.2.2.2.2.2.2
  exact va_gets C.1 C.2.1 X.2.2.2.1 hS C.2.2.2.2.2.1 (C.2.2.2.2.2.2.1 _ hw) (fun _ z => z) hd (h p l e s m args below meth c D g ad A H locs ls C hP hD hS hl)
theorem ev_getsF {Lay : List rf_Cell} {y : rf_Me} {pc : Nat} {L : List (Option Value)} {st : List Value} {M : rf_Mem} {r : Option Value} {M' : rf_Mem} {idx : Nat} (hd : decode y.2.1 pc = .ok (.getstatic idx, 3)) (hw : Cond.fieldLink y.1.cls idx "jdk/internal/util/Preconditions" "SIOOBE_FORMATTER" "Ljava/util/function/BiFunction;" ∈ wsL_law) (h : ∀ v : Value, v = .null ∨ v = .ref 3000 → Ev Lay y (pc + 3) L (v :: st) M r M') : Ev Lay y pc L st M r M' := by
  intro p l e s m args below meth c D g ad A H locs ls C hP hD hS hl
  have X := C.2.2.2.2.2.2.2.2.2
  rcases X.2.2.2.2 with z | z
  · exact va_gets C.1 C.2.1 z hS C.2.2.2.2.2.1 (C.2.2.2.2.2.2.1 _ hw) (fun _ z => z) hd (h .null (Or.inl rfl) p l e s m args below meth c D g ad A H locs ls C hP hD hS hl)
  · exact va_gets C.1 C.2.1 z hS C.2.2.2.2.2.1 (C.2.2.2.2.2.2.1 _ hw) (fun _ z => z) hd (h (.ref 3000) (Or.inr rfl) p l e s m args below meth c D g ad A H locs ls C hP hD hS hl)
theorem ev_i2c {Lay : List rf_Cell} {y : rf_Me} {pc : Nat} {L : List (Option Value)} {st : List Value} {M : rf_Mem} {r : Option Value} {M' : rf_Mem} {x v : Int32} (hd : decode y.2.1 pc = .ok (.i2c, 1)) (hv : (x.toUInt32 % 65536).toInt32 = v) (h : Ev Lay y (pc + 1) L (.int v :: st) M r M') : Ev Lay y pc L (.int x :: st) M r M' := by
  intro p l e s m args below meth c D g ad A H locs ls C hP hD hS hl
  exact lv_i2c C.1 C.2.1 hd hv (h p l e s m args below meth c D g ad A H locs ls C hP hD hS hl)
def chT (j k : Nat) : Int32 := (rf_byt.getD j []).getD k 0
theorem tx_len : ∀ j, j < 8 → rf_len.getD j 0 ≤ 7 ∧ 4 ≤ rf_len.getD j 0 := by decide +kernel
theorem tx_ch : ∀ j, j < 8 → ∀ k, k < 7 → (((rf_byt.getD j []).getD k 0 &&& nI 255).toUInt32 % 65536).toInt32 = chT j k ∧ narrow .char (.int (chT j k)) = .int (chT j k) := by decide +kernel
theorem tx_shr : ∀ n, n < 8 → nI n >>> ((0 : Int32) &&& 31) = nI n := by decide +kernel
set_option maxRecDepth 20000 in
theorem e_coder {Lay : List rf_Cell} {M : rf_Mem} {j : Nat} (hj : j < 8) : Ev Lay mJ0_coder_7d493 0 (rf_ent 1 [.ref (1000 + j)]) [] M (some (.int 0)) M := by
  refine ev_getsC dJ0_coder_7d493_0 fJ0_38 ?_
  refine ev_if_eq 13 dJ0_coder_7d493_3 (by decide) (fun hc => False.elim (absurd hc (by decide))) (fun _ => ?_)
  refine ev_aload_n dJ0_coder_7d493_6 rfl ?_
  refine ev_getSc hj dJ0_coder_7d493_7 fJ0_15 ?_
  refine ev_goto 14 dJ0_coder_7d493_10 (by decide) ?_
  exact ev_iretE dJ0_coder_7d493_14 rfl rfl rfl rfl
set_option maxRecDepth 20000 in
theorem e_isLatin1 {Lay : List rf_Cell} {M : rf_Mem} {j : Nat} (hj : j < 8) : Ev Lay mJ0_isLatin1_aae02 0 (rf_ent 1 [.ref (1000 + j)]) [] M (some (.int (nI 1))) M := by
  refine ev_getsC dJ0_isLatin1_aae02_0 fJ0_38 ?_
  refine ev_if_eq 17 dJ0_isLatin1_aae02_3 (by decide) (fun hc => False.elim (absurd hc (by decide))) (fun _ => ?_)
  refine ev_aload_n dJ0_isLatin1_aae02_6 rfl ?_
  refine ev_getSc hj dJ0_isLatin1_aae02_7 fJ0_15 ?_
  refine ev_if_ne 17 dJ0_isLatin1_aae02_10 (by decide) (fun hc => False.elim (hc rfl)) (fun _ => ?_)
  refine ev_iconst (v := (nI 1)) dJ0_isLatin1_aae02_13 (by decide) ?_
  refine ev_goto 18 dJ0_isLatin1_aae02_14 (by decide) ?_
  exact ev_iretE dJ0_isLatin1_aae02_18 rfl rfl rfl rfl
set_option maxRecDepth 20000 in
theorem e_txLen {Lay : List rf_Cell} {M : rf_Mem} {j : Nat} (hj : j < 8) : Ev Lay mJ0_length_8abf5 0 (rf_ent 1 [.ref (1000 + j)]) [] M (some (.int (nI (rf_len.getD j 0)))) M := by
  refine ev_aload_n dJ0_length_8abf5_0 rfl ?_
  refine ev_getSv hj dJ0_length_8abf5_1 fJ0_9 ?_
  refine ev_lenT hj dJ0_length_8abf5_4 ?_
  refine ev_aload_n dJ0_length_8abf5_5 rfl ?_
  refine ev_cT0 hj dJ0_length_8abf5_6 ceJ0_coder_7d493 kJ0_335 (rm_le rfl rfl) (Nat.le_of_ble_eq_true rfl) (Nat.le_of_ble_eq_true rfl) (e_coder hj) ?_
  refine ev_ishr dJ0_length_8abf5_9 ?_
  rw [tx_shr _ (by have := tx_len j hj; omega)]
  exact ev_iretE dJ0_length_8abf5_10 rfl rfl rfl rfl
set_option maxRecDepth 20000 in
theorem e_J3check {Lay : List rf_Cell} {M : rf_Mem} {k n : Nat} {v : Value} (hv : v = .null ∨ v = .ref 3000) (hk : k < n) (hn : n < 2 ^ 31) : Ev Lay mJ3_checkIndex_8e157 0 (rf_ent 3 [.int (nI k), .int (nI n), v]) [] M (some (.int (nI k))) M := by
  have e : rf_ent 3 [.int (nI k), .int (nI n), v] = [some (.int (nI k)), some (.int (nI n)), some v] := by rcases hv with rfl | rfl <;> rfl
  rw [e]
  refine ev_iload_n dJ3_checkIndex_8e157_0 rfl ?_
  refine ev_if_lt 9 dJ3_checkIndex_8e157_1 (by decide) (fun hc => False.elim (nI_pos (by omega) hc)) (fun _ => ?_)
  refine ev_iload_n dJ3_checkIndex_8e157_4 rfl ?_
  refine ev_iload_n dJ3_checkIndex_8e157_5 rfl ?_
  refine ev_icmp_lt 16 dJ3_checkIndex_8e157_6 (by decide) (fun _ => ?_) (fun hc => False.elim (hc (nI_lt hk hn)))
  refine ev_iload_n dJ3_checkIndex_8e157_16 rfl ?_
  exact ev_iretE dJ3_checkIndex_8e157_17 rfl rfl rfl rfl
set_option maxRecDepth 20000 in
theorem e_J0check {Lay : List rf_Cell} {M : rf_Mem} {k n : Nat} (hk : k < n) (hn : n < 2 ^ 31) : Ev Lay mJ0_checkIndex_df160 0 (rf_ent 2 [.int (nI k), .int (nI n)]) [] M none M := by
  refine ev_iload_n dJ0_checkIndex_df160_0 rfl ?_
  refine ev_iload_n dJ0_checkIndex_df160_1 rfl ?_
  refine ev_getsF dJ0_checkIndex_df160_2 fJ0_1053 (fun v hv => ?_)
  refine ev_cS3 dJ0_checkIndex_df160_5 ceJ3_checkIndex_8e157 kJ0_1059 (rm_le rfl rfl) (Nat.le_of_ble_eq_true rfl) (by rcases hv with rfl | rfl <;> exact Nat.le_of_ble_eq_true rfl) (e_J3check hv hk hn) ?_
  refine ev_pop dJ0_checkIndex_df160_8 rfl ?_
  exact ev_vretE dJ0_checkIndex_df160_9 rfl rfl rfl
set_option maxRecDepth 20000 in
theorem e_J1charAt {Lay : List rf_Cell} {M : rf_Mem} {j k : Nat} (hj : j < 8) (hk : k < rf_len.getD j 0) : Ev Lay mJ1_charAt_3b067 0 (rf_ent 2 [.ref (2000 + j), .int (nI k)]) [] M (some (.int (chT j k))) M := by
  obtain ⟨t1, t2⟩ := tx_len j hj
  obtain ⟨c1, c2⟩ := tx_ch j hj k (by omega)
  refine ev_iload_n dJ1_charAt_3b067_0 rfl ?_
  refine ev_aload_n dJ1_charAt_3b067_1 rfl ?_
  refine ev_lenT hj dJ1_charAt_3b067_2 ?_
  refine ev_cS2v dJ1_charAt_3b067_3 ceJ0_checkIndex_df160 kJ1_9 (rm_le rfl rfl) (Nat.le_of_ble_eq_true rfl) (Nat.le_of_ble_eq_true rfl) (e_J0check hk (by omega)) ?_
  refine ev_aload_n dJ1_charAt_3b067_6 rfl ?_
  refine ev_iload_n dJ1_charAt_3b067_7 rfl ?_
  refine ev_baldT hj hk (by omega) dJ1_charAt_3b067_8 ?_
  refine ev_sipush (v := (nI 255)) dJ1_charAt_3b067_9 (by decide) ?_
  refine ev_iand dJ1_charAt_3b067_12 ?_
  refine ev_i2c dJ1_charAt_3b067_13 c1 ?_
  exact ev_iretE dJ1_charAt_3b067_14 rfl c2 rfl rfl
set_option maxRecDepth 20000 in
theorem e_charAt {Lay : List rf_Cell} {M : rf_Mem} {j k : Nat} (hj : j < 8) (hk : k < rf_len.getD j 0) : Ev Lay mJ0_charAt_5068e 0 (rf_ent 2 [.ref (1000 + j), .int (nI k)]) [] M (some (.int (chT j k))) M := by
  obtain ⟨t1, t2⟩ := tx_len j hj
  obtain ⟨c1, c2⟩ := tx_ch j hj k (by omega)
  refine ev_aload_n dJ0_charAt_5068e_0 rfl ?_
  refine ev_cT0 hj dJ0_charAt_5068e_1 ceJ0_isLatin1_aae02 kJ0_492 (rm_le rfl rfl) (Nat.le_of_ble_eq_true rfl) (Nat.le_of_ble_eq_true rfl) (e_isLatin1 hj) ?_
  refine ev_if_eq 16 dJ0_charAt_5068e_4 (by decide) (fun hc => False.elim (absurd hc (by decide))) (fun _ => ?_)
  refine ev_aload_n dJ0_charAt_5068e_7 rfl ?_
  refine ev_getSv hj dJ0_charAt_5068e_8 fJ0_9 ?_
  refine ev_iload_n dJ0_charAt_5068e_11 rfl ?_
  refine ev_cS2 dJ0_charAt_5068e_12 ceJ1_charAt_3b067 kJ0_495 (rm_le rfl rfl) (Nat.le_of_ble_eq_true rfl) (Nat.le_of_ble_eq_true rfl) (e_J1charAt hj hk) ?_
  exact ev_iretE dJ0_charAt_5068e_15 rfl c2 rfl rfl
