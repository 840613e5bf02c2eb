/-! states: a reading, the darkest page, votes, claims, copies -/
def dS (f : Nat → Value) : Nat → Option Value
  | 0 => none
  | k + 1 => some (f k)
theorem lp_gx {v : Int32} {n : Nat} (h : v = nI n) (hn : n + 1 < 2 ^ 31) (hc : ¬ v < nI (n + 1)) : False := hc (by rw [h]; exact nI_lt (Nat.lt_succ_self n) hn)
theorem lp_gs {v : Int32} {n i : Nat} (h : v = nI n) (hn : n < 2 ^ 31) (hi : i < n + 1) (hc : v < nI i) : False := nI_nlt (a := n) (b := i) (by omega) hn (by rw [← h]; exact hc)
theorem nd_t {c : Prop} [Decidable c] (h : ¬ c) : (!decide c) = true := by simp [h]
theorem nd_f {c : Prop} [Decidable c] (h : c) : (!decide c) = false := by simp [h]
def fillM (C : rf_Mem) (a : Nat) (v : Int32) (N : Nat) : rf_Mem := rf_row C a (fun j => if j < N then v else C a j)
theorem fillM_s (C : rf_Mem) (a : Nat) (v : Int32) (i : Nat) : rf_set (fillM C a v i) a i v = fillM C a v (i + 1) := by
  funext b j
  by_cases h : b = a
  · subst h
    by_cases h2 : j = i
    · subst h2; simp [rf_set, fillM, rf_row, upd]
    · have e : (j < i + 1) = (j < i) := by apply propext; constructor <;> intro z <;> omega
      simp [rf_set, fillM, rf_row, upd, h2, e]
  · simp [rf_set, fillM, rf_row, h]
theorem fillM_0 (C : rf_Mem) (a : Nat) (v : Int32) : fillM C a v 0 = C := by
  funext b j
  by_cases h : b = a
  · subst h; simp [fillM, rf_row]
  · simp [fillM, rf_row, h]
def opL (q : Nat) (C : rf_Mem) : Nat → rf_Mem
  | 0 => C
  | i + 1 => rf_set (rf_set (rf_set (rf_set (rf_set (opL q C i) (q + 1) i (nI i)) (q + 2) i (nI 0)) (q + 3) i (C 10 i)) (q + 4) i (-1)) (q + 7) i (nI 0)
theorem opL_out {q : Nat} {C : rf_Mem} {a : Nat} (h : a ≠ q + 1 ∧ a ≠ q + 2 ∧ a ≠ q + 3 ∧ a ≠ q + 4 ∧ a ≠ q + 7) : ∀ n, opL q C n a = C a
  | 0 => rfl
  | n + 1 => by rw [opL, gs_q _ _ _ h.2.2.2.2, gs_q _ _ _ h.2.2.2.1, gs_q _ _ _ h.2.2.1, gs_q _ _ _ h.2.1, gs_q _ _ _ h.1, opL_out h n]
def opM (q nl : Nat) (C : rf_Mem) : rf_Mem := rf_set (rf_set (fillM (opL q (rf_set C q 9 (C 8 4)) nl) (q + 5) (-1) 128) (q + 8) 3 (nI 0)) q 10 (nI 0)
def cpR (M : rf_Mem) (a b : Nat) (n : Nat) : rf_Mem := rf_row M b (va_cpy (M a) (M b) (nI 0).toNatClampNeg (nI 0).toNatClampNeg (nI n).toNatClampNeg)
/-- copyBooks: into state q, out of state z -/
def cpB (q z : Nat) (C : rf_Mem) : rf_Mem :=
  let M := cpR (cpR (cpR (cpR (cpR (cpR C (z + 1) (q + 1) 40) (z + 2) (q + 2) 40) (z + 3) (q + 3) 40) (z + 4) (q + 4) 40) (z + 5) (q + 5) 128) (z + 6) (q + 6) 128
  let M1 := rf_set M q 9 (M z 9)
  let M2 := rf_set M1 q 10 (M1 z 10)
  rf_set M2 q 11 (M2 z 11)
def cpG (q z : Nat) (C : rf_Mem) : rf_Mem :=
  let M := cpR (cpR (cpR C (z + 9) (q + 9) 300) (z + 10) (q + 10) 300) (z + 11) (q + 11) 300
  rf_set M (q + 8) 3 (M (z + 8) 3)
def cpS (q z : Nat) (C : rf_Mem) : rf_Mem := cpG q z (cpR (cpB q z C) (z + 7) (q + 7) 16)
def lbC (C : rf_Mem) : rf_Mem := rf_set (rf_set (rf_set (rf_set C 3 4 (nI 0)) 3 5 (nI 0)) 3 6 (nI 10)) 3 7 (nI 0)
def lbP (C : rf_Mem) : rf_Mem :=
  let M := cpR (cpR (cpR (cpR C 4 9 16) 5 10 16) 6 11 8) 7 12 8
  let M1 := rf_set M 8 4 (M 3 4)
  let M2 := rf_set M1 8 5 (M1 3 5)
  let M3 := rf_set M2 8 6 (M2 3 6)
  rf_set M3 8 7 (M3 3 7)
def cpy (C : rf_Mem) (q : Nat) (d l : Int32) (i : Nat) : Bool := decide (C (q + 9) i = d) && decide (C (q + 1) (C (q + 10) i).toNatClampNeg = l) && decide (C 11 (C (q + 11) i).toNatClampNeg = nI 2)
def cpyV (C : rf_Mem) (q : Nat) (d l v : Int32) (i : Nat) : Bool := cpy C q d l i && (!decide (v = 0) || decide (C (q + 2) (C (q + 10) i).toNatClampNeg = 0))
def fW (P : Nat → Bool) (wri : Nat → Int32) (n : Nat) : Int32 := if fa_first P n < n then (if wri (fa_first P n) = -1 then nI 0 else nI 1 <<< (wri (fa_first P n) &&& 31)) else nI 0
theorem fW_hit {P : Nat → Bool} {wri : Nat → Int32} {n i : Nat} (h : i < n) (hj : ∀ j, j < i → P j = false) (hp : P i = true) : fW P wri n = if wri i = -1 then nI 0 else nI 1 <<< (wri i &&& 31) := by
  rw [fW, fa_hit h hj hp, if_pos h]
theorem fW_none {P : Nat → Bool} {wri : Nat → Int32} {n : Nat} (hj : ∀ j, j < n → P j = false) : fW P wri n = nI 0 := by
  rw [fW, if_neg (fa_none hj)]

set_option maxRecDepth 20000 in
set_option maxHeartbeats 2000000 in
theorem e_rdT {q : Nat} {C : rf_Mem} (hq : st_ok q) {nr : Nat} (hr8 : C 8 5 = nI nr) (hnr : nr ≤ 8) {r p l : Nat} (hr : r < 8) (hp : p < 40) (hl : l < 16) (hline : C (q + 1) p = nI l) : Ev LayC mX5_readPage 45 (rf_ent 4 [.ref q, .int (nI r), .int (nI p)]) [] C none (rdT q nr C r p l) := by
  have hq0 := hq
  obtain ⟨h0, h1, h2, h3, h4, h5, h6, h7, h8, h9, h10, h11, h20⟩ := hq
  refine ev_aload_n dX5_readPage_45 rfl ?_
  refine ev_getR dX5_readPage_46 fX5_50 (by first | assumption | rfl) (by rfl) ?_
  refine ev_getR dX5_readPage_49 fX5_103 (by first | assumption | rfl) (by rfl) ?_
  refine ev_iload_n dX5_readPage_52 rfl ?_
  refine ev_ialdE _ dX5_readPage_53 (rfl) (by first | assumption | rfl) ⟨by omega, by decide⟩ ?_
  refine ev_iconst (v := (nI 1)) dX5_readPage_54 (by decide) ?_
  refine ev_icmp_eq 76 dX5_readPage_55 (by decide) (fun hc55 => ?_) (fun hc55 => ?_)
  · skip
    refine ev_iconst (v := (nI 0)) dX5_readPage_76 (by decide) ?_
    refine ev_istore_k 3 dX5_readPage_77 rfl (by decide) rfl ?_
    have key := ev_for (Lay := LayC) (y := mX5_readPage) (pc := 78) (r := none) (M' := rdT q nr C r p l) nr (fun i => [some (.ref q), some (.int (nI r)), some (.int (nI p)), some (.int (nI i))]) (fun i => lrnA q C l (C (q + 2) p) i) ?hx ?hs
    case hx =>
      refine ev_iload_n dX5_readPage_78 rfl ?_
      refine ev_aload_n dX5_readPage_79 rfl ?_
      refine ev_getR dX5_readPage_80 fX5_50 (by first | assumption | rfl) (by rfl) ?_
      refine ev_getI dX5_readPage_83 fX5_109 (by first | assumption | rfl) (by rfl) ?_
      refine ev_icmp_ge 112 dX5_readPage_86 (by decide) (fun hc86 => ?_) (fun hc86 => False.elim (lp_x (by rw [lrnA_out (by omega)]; exact hr8) (by omega) hc86))
      exact ev_vretE dX5_readPage_112 rfl rfl (by rw [rdT, if_pos hc55])
    case hs =>
      intro i hi ih
      refine ev_iload_n dX5_readPage_78 rfl ?_
      refine ev_aload_n dX5_readPage_79 rfl ?_
      refine ev_getR dX5_readPage_80 fX5_50 (by first | assumption | rfl) (by rfl) ?_
      refine ev_getI dX5_readPage_83 fX5_109 (by first | assumption | rfl) (by rfl) ?_
      refine ev_icmp_ge 112 dX5_readPage_86 (by decide) (fun hc86 => False.elim (lp_s (by rw [lrnA_out (by omega)]; exact hr8) (by omega) hi hc86)) (fun hc86 => ?_)
      refine ev_aload_n dX5_readPage_89 rfl ?_
      refine ev_iload_n dX5_readPage_90 rfl ?_
      refine ev_aload_n dX5_readPage_91 rfl ?_
      refine ev_getR dX5_readPage_92 fX5_18 (by first | assumption | rfl) (by rfl) ?_
      refine ev_iload_n dX5_readPage_95 rfl ?_
      refine ev_ialdE _ dX5_readPage_96 (rfl) (by first | assumption | rfl) ⟨by omega, by decide⟩ ?_
      refine ev_aload_n dX5_readPage_97 rfl ?_
      refine ev_getR dX5_readPage_98 fX5_22 (by first | assumption | rfl) (by rfl) ?_
      refine ev_iload_n dX5_readPage_101 rfl ?_
      refine ev_ialdE _ dX5_readPage_102 (rfl) (by first | assumption | rfl) ⟨by omega, by decide⟩ ?_
      rw [lrnA_out (a := q + 1) (by omega), lrnA_out (a := q + 2) (by omega), hline]
      refine ev_cV3v dX5_readPage_103 ceX5_learn kX5_106 (rm_le rfl rfl) (Nat.le_of_ble_eq_true rfl) (Nat.le_of_ble_eq_true rfl) (e_learn hq0 (by omega) hl) (by first | assumption | rfl) ?_
      refine ev_iinc (v := (nI 1)) dX5_readPage_106 rfl (by decide) (by decide) rfl ?_
      refine ev_goto 78 dX5_readPage_109 (by decide) ?_
      exact ev_st ih (by simp [nI_add]) rfl rfl
    exact ev_st (key 0 (Nat.zero_le _)) rfl rfl rfl
  · skip
    refine ev_aload_n dX5_readPage_58 rfl ?_
    refine ev_iload_n dX5_readPage_59 rfl ?_
    refine ev_aload_n dX5_readPage_60 rfl ?_
    refine ev_getR dX5_readPage_61 fX5_18 (by first | assumption | rfl) (by rfl) ?_
    refine ev_iload_n dX5_readPage_64 rfl ?_
    refine ev_ialdE _ dX5_readPage_65 (rfl) (by first | assumption | rfl) ⟨by omega, by decide⟩ ?_
    refine ev_aload_n dX5_readPage_66 rfl ?_
    refine ev_getR dX5_readPage_67 fX5_22 (by first | assumption | rfl) (by rfl) ?_
    refine ev_iload_n dX5_readPage_70 rfl ?_
    refine ev_ialdE _ dX5_readPage_71 (rfl) (by first | assumption | rfl) ⟨by omega, by decide⟩ ?_
    rw [hline]
    refine ev_cV3v dX5_readPage_72 ceX5_learn kX5_106 (rm_le rfl rfl) (Nat.le_of_ble_eq_true rfl) (Nat.le_of_ble_eq_true rfl) (e_learn hq0 hr hl) (by first | assumption | rfl) ?_
    exact ev_vretE dX5_readPage_75 rfl rfl (by rw [rdT, if_neg hc55])
set_option maxRecDepth 20000 in
set_option maxHeartbeats 2000000 in
theorem e_readPage {q : Nat} {C : rf_Mem} (hq : st_ok q) {k : Nat} (hk : C (q + 8) 3 = nI k) (hk3 : k ≤ 300) {nr : Nat} (hr8 : C 8 5 = nI nr) (hnr : nr ≤ 8) {r p l : Nat} (hr : r < 8) (hp : p < 40) (hl : l < 16) (hline : C (q + 1) p = nI l) : Ev LayC mX5_readPage 0 (rf_ent 4 [.ref q, .int (nI r), .int (nI p)]) [] C none (rdP q k nr C r p l) := by
  have hq0 := hq
  obtain ⟨h0, h1, h2, h3, h4, h5, h6, h7, h8, h9, h10, h11, h20⟩ := hq
  refine ev_aload_n dX5_readPage_0 rfl ?_
  refine ev_getR dX5_readPage_1 fX5_12 (by first | assumption | rfl) (by rfl) ?_
  refine ev_aload_n dX5_readPage_4 rfl ?_
  refine ev_getI dX5_readPage_5 fX5_44 (by first | assumption | rfl) (by rfl) ?_
  refine ev_iload_n dX5_readPage_8 rfl ?_
  refine ev_iload_n dX5_readPage_9 rfl ?_
  refine ev_cV3v dX5_readPage_10 ceX2_add kX5_99 (rm_le rfl rfl) (Nat.le_of_ble_eq_true rfl) (Nat.le_of_ble_eq_true rfl) (e_logAdd hq0 hk hk3) (by first | assumption | rfl) ?_
  refine ev_aload_n dX5_readPage_13 rfl ?_
  refine ev_getR dX5_readPage_14 fX5_25 (by first | assumption | rfl) (by rfl) ?_
  refine ev_iload_n dX5_readPage_17 rfl ?_
  refine ev_aload_n dX5_readPage_18 rfl ?_
  refine ev_getR dX5_readPage_19 fX5_50 (by first | assumption | rfl) (by rfl) ?_
  refine ev_getR dX5_readPage_22 fX5_103 (by first | assumption | rfl) (by rfl) ?_
  refine ev_iload_n dX5_readPage_25 rfl ?_
  refine ev_ialdE _ dX5_readPage_26 (rfl) (by first | assumption | rfl) ⟨by omega, by decide⟩ ?_
  rw [lgA_out (a := 11) (by omega)]
  refine ev_iconst (v := (nI 3)) dX5_readPage_27 (by decide) ?_
  refine ev_icmp_ne 36 dX5_readPage_28 (by decide) (fun hc28 => ?_) (fun hc28 => ?_)
  · refine ev_aload_n dX5_readPage_36 rfl ?_
    refine ev_getR dX5_readPage_37 fX5_25 (by first | assumption | rfl) (by rfl) ?_
    refine ev_iload_n dX5_readPage_40 rfl ?_
    refine ev_ialdE _ dX5_readPage_41 (rfl) (by first | assumption | rfl) ⟨by omega, by decide⟩ ?_
    rw [lgA_out (a := q + 3) (by omega)]
    refine ev_iconst (v := (nI 1)) dX5_readPage_42 (by decide) ?_
    refine ev_iadd dX5_readPage_43 ?_
    refine ev_iastE _ dX5_readPage_44 (rfl) (by first | assumption | rfl) ⟨by omega, by decide⟩ ?_
    first | rw [rdP, if_neg hc28] | rw [rdP, if_pos hc28]
    exact e_rdT hq0 (by rw [gs_q _ _ _ (by omega), lgA_out (by omega)]; exact hr8) hnr hr hp hl (by rw [gs_q _ _ _ (by omega), lgA_out (by omega)]; exact hline)
  · refine ev_bipush (v := (nI 9)) dX5_readPage_31 (by decide) ?_
    refine ev_goto 44 dX5_readPage_33 (by decide) ?_
    refine ev_iastE _ dX5_readPage_44 (rfl) (by first | assumption | rfl) ⟨by omega, by decide⟩ ?_
    first | rw [rdP, if_neg hc28] | rw [rdP, if_pos hc28]
    exact e_rdT hq0 (by rw [gs_q _ _ _ (by omega), lgA_out (by omega)]; exact hr8) hnr hr hp hl (by rw [gs_q _ _ _ (by omega), lgA_out (by omega)]; exact hline)
set_option maxRecDepth 20000 in
set_option maxHeartbeats 2000000 in
theorem e_darkestPage {q n : Nat} {C : rf_Mem} (hq : st_ok q) (hn : C q 9 = nI n) (hn2 : n ≤ 40) {l : Int32} : Ev LayC mX5_darkestPage 0 (rf_ent 4 [.ref q, .int l]) [] C (some (.int (oI (dkst (vLeft (C (q + 1)) (C (q + 3)) l) (C (q + 3)) n)))) C := by
  have hq0 := hq
  obtain ⟨h0, h1, h2, h3, h4, h5, h6, h7, h8, h9, h10, h11, h20⟩ := hq
  have key := ev_for (Lay := LayC) (y := mX5_darkestPage) (pc := 4) (r := (some (.int (oI (dkst (vLeft (C (q + 1)) (C (q + 3)) l) (C (q + 3)) n))))) (M' := C) n (fun i => [some (.ref q), some (.int l), some (.int (oI (dkst (vLeft (C (q + 1)) (C (q + 3)) l) (C (q + 3)) i))), some (.int (nI i))]) (fun _ => C) ?hx ?hs
  case hx =>
    refine ev_iload_n dX5_darkestPage_4 rfl ?_
    refine ev_aload_n dX5_darkestPage_5 rfl ?_
    refine ev_getI dX5_darkestPage_6 fX5_40 (by first | assumption | rfl) (by rfl) ?_
    refine ev_icmp_ge 49 dX5_darkestPage_9 (by decide) (fun hc9 => ?_) (fun hc9 => False.elim (lp_x hn (by omega) hc9))
    refine ev_iload_n dX5_darkestPage_49 rfl ?_
    exact ev_iretE dX5_darkestPage_50 rfl rfl (by first | rfl | simp_all) (rfl)
  case hs =>
    intro i hi ih
    cases hd : dkst (vLeft (C (q + 1)) (C (q + 3)) l) (C (q + 3)) i with
    | none =>
      have e1 : oI (none : Option Nat) = -1 := rfl
      rw [e1]
      refine ev_iload_n dX5_darkestPage_4 rfl ?_
      refine ev_aload_n dX5_darkestPage_5 rfl ?_
      refine ev_getI dX5_darkestPage_6 fX5_40 (by first | assumption | rfl) (by rfl) ?_
      refine ev_icmp_ge 49 dX5_darkestPage_9 (by decide) (fun hc9 => False.elim (lp_s hn (by omega) hi hc9)) (fun hc9 => ?_)
      refine ev_aload_n dX5_darkestPage_12 rfl ?_
      refine ev_iload_n dX5_darkestPage_13 rfl ?_
      refine ev_iload_n dX5_darkestPage_14 rfl ?_
      refine ev_cV2 dX5_darkestPage_15 ceX5_isLeft kX5_157 (rm_le rfl rfl) (Nat.le_of_ble_eq_true rfl) (Nat.le_of_ble_eq_true rfl) (e_isLeft hq0 (by omega)) (by first | assumption | rfl) ?_
      refine ev_if_eq 43 dX5_darkestPage_18 (by decide) (fun hc18 => ?_) (fun hc18 => ?_)
      · rw [b2i_0] at hc18
        refine ev_iinc (v := (nI 1)) dX5_darkestPage_43 rfl (by decide) (by decide) rfl ?_
        refine ev_goto 4 dX5_darkestPage_46 (by decide) ?_
        exact ev_st ih (by simp [nI_add, dkst, hd, hc18, oI]) rfl rfl
      · rw [b2i_n0] at hc18
        refine ev_iload_n dX5_darkestPage_21 rfl ?_
        refine ev_iconst (v := (-1)) dX5_darkestPage_22 (by decide) ?_
        refine ev_icmp_eq 41 dX5_darkestPage_23 (by decide) (fun hc23 => ?_) (fun hc23 => False.elim (hc23 rfl))
        refine ev_iload_n dX5_darkestPage_41 rfl ?_
        refine ev_istore_k 2 dX5_darkestPage_42 rfl (by decide) rfl ?_
        refine ev_iinc (v := (nI 1)) dX5_darkestPage_43 rfl (by decide) (by decide) rfl ?_
        refine ev_goto 4 dX5_darkestPage_46 (by decide) ?_
        exact ev_st ih (by simp [nI_add, dkst, hd, hc18, oI]) rfl rfl
    | some b =>
      have hb := (dkst_lt hd).1
      have e1 : oI (some b) = nI b := rfl
      rw [e1]
      refine ev_iload_n dX5_darkestPage_4 rfl ?_
      refine ev_aload_n dX5_darkestPage_5 rfl ?_
      refine ev_getI dX5_darkestPage_6 fX5_40 (by first | assumption | rfl) (by rfl) ?_
      refine ev_icmp_ge 49 dX5_darkestPage_9 (by decide) (fun hc9 => False.elim (lp_s hn (by omega) hi hc9)) (fun hc9 => ?_)
      refine ev_aload_n dX5_darkestPage_12 rfl ?_
      refine ev_iload_n dX5_darkestPage_13 rfl ?_
      refine ev_iload_n dX5_darkestPage_14 rfl ?_
      refine ev_cV2 dX5_darkestPage_15 ceX5_isLeft kX5_157 (rm_le rfl rfl) (Nat.le_of_ble_eq_true rfl) (Nat.le_of_ble_eq_true rfl) (e_isLeft hq0 (by omega)) (by first | assumption | rfl) ?_
      refine ev_if_eq 43 dX5_darkestPage_18 (by decide) (fun hc18 => ?_) (fun hc18 => ?_)
      · rw [b2i_0] at hc18
        refine ev_iinc (v := (nI 1)) dX5_darkestPage_43 rfl (by decide) (by decide) rfl ?_
        refine ev_goto 4 dX5_darkestPage_46 (by decide) ?_
        exact ev_st ih (by first | (simp [nI_add, dkst, hd, hc18, oI]; done) | (simp [nI_add, dkst, hd, hc18, oI, fa_of_nle hc38]; done) | (have z9 : ¬ C (q + 3) i < C (q + 3) b := fun z => (fa_of_lt z).2.1 hc38; simp [nI_add, dkst, hd, hc18, oI, z9])) rfl rfl
      · rw [b2i_n0] at hc18
        refine ev_iload_n dX5_darkestPage_21 rfl ?_
        refine ev_iconst (v := (-1)) dX5_darkestPage_22 (by decide) ?_
        refine ev_icmp_eq 41 dX5_darkestPage_23 (by decide) (fun hc23 => False.elim (nI_m1 (by omega) hc23)) (fun hc23 => ?_)
        refine ev_aload_n dX5_darkestPage_26 rfl ?_
        refine ev_getR dX5_darkestPage_27 fX5_25 (by first | assumption | rfl) (by rfl) ?_
        refine ev_iload_n dX5_darkestPage_30 rfl ?_
        refine ev_ialdE _ dX5_darkestPage_31 (rfl) (by first | assumption | rfl) ⟨by omega, by decide⟩ ?_
        refine ev_aload_n dX5_darkestPage_32 rfl ?_
        refine ev_getR dX5_darkestPage_33 fX5_25 (by first | assumption | rfl) (by rfl) ?_
        refine ev_iload_n dX5_darkestPage_36 rfl ?_
        refine ev_ialdE _ dX5_darkestPage_37 (rfl) (by first | assumption | rfl) ⟨by omega, by decide⟩ ?_
        refine ev_icmp_ge 43 dX5_darkestPage_38 (by decide) (fun hc38 => ?_) (fun hc38 => ?_)
        · refine ev_iinc (v := (nI 1)) dX5_darkestPage_43 rfl (by decide) (by decide) rfl ?_
          refine ev_goto 4 dX5_darkestPage_46 (by decide) ?_
          exact ev_st ih (by first | (simp [nI_add, dkst, hd, hc18, oI]; done) | (simp [nI_add, dkst, hd, hc18, oI, fa_of_nle hc38]; done) | (have z9 : ¬ C (q + 3) i < C (q + 3) b := fun z => (fa_of_lt z).2.1 hc38; simp [nI_add, dkst, hd, hc18, oI, z9])) rfl rfl
        · refine ev_iload_n dX5_darkestPage_41 rfl ?_
          refine ev_istore_k 2 dX5_darkestPage_42 rfl (by decide) rfl ?_
          refine ev_iinc (v := (nI 1)) dX5_darkestPage_43 rfl (by decide) (by decide) rfl ?_
          refine ev_goto 4 dX5_darkestPage_46 (by decide) ?_
          exact ev_st ih (by first | (simp [nI_add, dkst, hd, hc18, oI]; done) | (simp [nI_add, dkst, hd, hc18, oI, fa_of_nle hc38]; done) | (have z9 : ¬ C (q + 3) i < C (q + 3) b := fun z => (fa_of_lt z).2.1 hc38; simp [nI_add, dkst, hd, hc18, oI, z9])) rfl rfl
  refine ev_iconst (v := (-1)) dX5_darkestPage_0 (by decide) ?_
  refine ev_istore_k 2 dX5_darkestPage_1 rfl (by decide) rfl ?_
  refine ev_iconst (v := (nI 0)) dX5_darkestPage_2 (by decide) ?_
  refine ev_istore_k 3 dX5_darkestPage_3 rfl (by decide) rfl ?_
  exact ev_st (key 0 (Nat.zero_le _)) rfl rfl rfl
def vtI (C : rf_Mem) (q n nr l v : Nat) : Int32 := nI (fb_ct (vWith (C (q + 1)) (C (q + 2)) (C (q + 3)) (nI l) (nI v)) n) + bcI (kset (fun r => decide (knC C q (C q 10) r l = nI v)) nr)
def vaI (C : rf_Mem) (q n nr l : Nat) : Int32 := nI (fb_ct (vLeft (C (q + 1)) (C (q + 3)) (nI l)) n) + bcI (kset (fun r => !decide (knC C q (C q 10) r l = -1)) nr)
def vtP (C : rf_Mem) (q n nr l v : Nat) : Bool := !decide (vtI C q n nr l v * nI 2 ≤ vaI C q n nr l)
set_option maxRecDepth 20000 in
set_option maxHeartbeats 2000000 in
theorem e_voteOn {q n : Nat} {C : rf_Mem} (hq : st_ok q) (hn : C q 9 = nI n) (hn2 : n ≤ 40) {nr : Nat} (hr8 : C 8 5 = nI nr) (hnr : nr ≤ 8) {l : Nat} (hl : l < 16) : Ev LayC mX5_voteOn 0 (rf_ent 5 [.ref q, .int (nI l)]) [] C (some (.int (fFst (vtP C q n nr l) (n + 1)))) C := by
  have hq0 := hq
  obtain ⟨h0, h1, h2, h3, h4, h5, h6, h7, h8, h9, h10, h11, h20⟩ := hq
  have key := ev_forI (Lay := LayC) (y := mX5_voteOn) (pc := 17) (r := (some (.int (fFst (vtP C q n nr l) (n + 1))))) (M' := C) (n + 1) (fun i => ∀ j, j < i → vtP C q n nr l j = false) (fun i => [some (.ref q), some (.int (nI l)), some (.int (vaI C q n nr l)), some (.int (nI i)), dS (fun v => .int (vtI C q n nr l v)) i]) (fun i => C) ?hx ?hs
  case hx =>
    intro hI
    refine ev_iload_n dX5_voteOn_17 rfl ?_
    refine ev_aload_n dX5_voteOn_18 rfl ?_
    refine ev_getI dX5_voteOn_19 fX5_40 (by first | assumption | rfl) (by rfl) ?_
    refine ev_icmp_gt 59 dX5_voteOn_22 (by decide) (fun hc22 => ?_) (fun hc22 => False.elim (lp_gx hn (by omega) hc22))
    refine ev_iconst (v := (-1)) dX5_voteOn_59 (by decide) ?_
    exact ev_iretE dX5_voteOn_60 rfl rfl (by rw [fFst_none hI]) (rfl)
  case hs =>
    intro i hi hI ih
    refine ev_iload_n dX5_voteOn_17 rfl ?_
    refine ev_aload_n dX5_voteOn_18 rfl ?_
    refine ev_getI dX5_voteOn_19 fX5_40 (by first | assumption | rfl) (by rfl) ?_
    refine ev_icmp_gt 59 dX5_voteOn_22 (by decide) (fun hc22 => False.elim (lp_gs hn (by omega) hi hc22)) (fun hc22 => ?_)
    refine ev_aload_n dX5_voteOn_25 rfl ?_
    refine ev_iload_n dX5_voteOn_26 rfl ?_
    refine ev_iload_n dX5_voteOn_27 rfl ?_
    refine ev_cV2 dX5_voteOn_28 ceX5_pagesLeftWith kX5_160 (rm_le rfl rfl) (Nat.le_of_ble_eq_true rfl) (Nat.le_of_ble_eq_true rfl) (e_pagesLeftWith hq0 hn hn2) (by first | assumption | rfl) ?_
    refine ev_aload_n dX5_voteOn_31 rfl ?_
    refine ev_iload_n dX5_voteOn_32 rfl ?_
    refine ev_iload_n dX5_voteOn_33 rfl ?_
    refine ev_cV2 dX5_voteOn_34 ceX5_knowersOf kX5_166 (rm_le rfl rfl) (Nat.le_of_ble_eq_true rfl) (Nat.le_of_ble_eq_true rfl) (e_knowersOf hq0 hr8 hnr hl) (by first | assumption | rfl) ?_
    refine ev_cS1 dX5_voteOn_37 ceJ6_bitCount_0f7a4 kX5_175 (rm_le rfl rfl) (Nat.le_of_ble_eq_true rfl) (Nat.le_of_ble_eq_true rfl) (e_bitCount) ?_
    refine ev_iadd dX5_voteOn_40 ?_
    refine ev_istore dX5_voteOn_41 (by decide) rfl ?_
    refine ev_iload dX5_voteOn_43 rfl ?_
    refine ev_iconst (v := (nI 2)) dX5_voteOn_45 (by decide) ?_
    refine ev_imul dX5_voteOn_46 ?_
    refine ev_iload_n dX5_voteOn_47 rfl ?_
    refine ev_icmp_le 53 dX5_voteOn_48 (by decide) (fun hc48 => ?_) (fun hc48 => ?_)
    · refine ev_iinc (v := (nI 1)) dX5_voteOn_53 rfl (by decide) (by decide) rfl ?_
      refine ev_goto 17 dX5_voteOn_56 (by decide) ?_
      exact ev_st (ih (no_s hI (nd_f hc48))) (by simp [nI_add, dS]; rfl) rfl (rfl)
    · refine ev_iload_n dX5_voteOn_51 rfl ?_
      exact ev_iretE dX5_voteOn_52 rfl rfl (by rw [fFst_hit hi hI (nd_t hc48)]) (rfl)
  refine ev_aload_n dX5_voteOn_0 rfl ?_
  refine ev_iload_n dX5_voteOn_1 rfl ?_
  refine ev_cV1 dX5_voteOn_2 ceX5_pagesLeft kX5_169 (rm_le rfl rfl) (Nat.le_of_ble_eq_true rfl) (Nat.le_of_ble_eq_true rfl) (e_pagesLeft hq0 hn hn2) (by first | assumption | rfl) ?_
  refine ev_aload_n dX5_voteOn_5 rfl ?_
  refine ev_iload_n dX5_voteOn_6 rfl ?_
  refine ev_cV1 dX5_voteOn_7 ceX5_knowers kX5_172 (rm_le rfl rfl) (Nat.le_of_ble_eq_true rfl) (Nat.le_of_ble_eq_true rfl) (e_knowers hq0 hr8 hnr hl) (by first | assumption | rfl) ?_
  refine ev_cS1 dX5_voteOn_10 ceJ6_bitCount_0f7a4 kX5_175 (rm_le rfl rfl) (Nat.le_of_ble_eq_true rfl) (Nat.le_of_ble_eq_true rfl) (e_bitCount) ?_
  refine ev_iadd dX5_voteOn_13 ?_
  refine ev_istore_k 2 dX5_voteOn_14 rfl (by decide) rfl ?_
  refine ev_iconst (v := (nI 0)) dX5_voteOn_15 (by decide) ?_
  refine ev_istore_k 3 dX5_voteOn_16 rfl (by decide) rfl ?_
  exact ev_st (key 0 (Nat.zero_le _) (by intro j hj; omega)) (rfl) rfl (rfl)
set_option maxRecDepth 20000 in
set_option maxHeartbeats 2000000 in
theorem e_canBeCopied {q : Nat} {C : rf_Mem} (hq : st_ok q) {k : Nat} (hk : C (q + 8) 3 = nI k) (hk3 : k ≤ 300) (hlg : ∀ i, i < k → (C (q + 10) i = nI (C (q + 10) i).toNatClampNeg ∧ (C (q + 10) i).toNatClampNeg < 40) ∧ (C (q + 11) i = nI (C (q + 11) i).toNatClampNeg ∧ (C (q + 11) i).toNatClampNeg < 8)) {l v d : Int32} : Ev LayC mX5_canBeCopied 0 (rf_ent 7 [.ref q, .int l, .int v, .int d]) [] C (some (.int (b2i (bAny (cpyV C q d l v) k)))) C := by
  have hq0 := hq
  obtain ⟨h0, h1, h2, h3, h4, h5, h6, h7, h8, h9, h10, h11, h20⟩ := hq
  have key := ev_forI (Lay := LayC) (y := mX5_canBeCopied) (pc := 3) (r := (some (.int (b2i (bAny (cpyV C q d l v) k))))) (M' := C) (k) (fun i => ∀ j, j < i → cpyV C q d l v j = false) (fun i => [some (.ref q), some (.int l), some (.int v), some (.int d), some (.int (nI i)), dS (fun j => .int (C (q + 10) j)) i, dS (fun j => .int (b2i (cpy C q d l j))) i]) (fun i => C) ?hx ?hs
  case hx =>
    intro hI
    refine ev_iload dX5_canBeCopied_3 rfl ?_
    refine ev_aload_n dX5_canBeCopied_5 rfl ?_
    refine ev_getR dX5_canBeCopied_6 fX5_12 (by first | assumption | rfl) (by rfl) ?_
    refine ev_getI dX5_canBeCopied_9 fX5_68 (by first | assumption | rfl) (by rfl) ?_
    refine ev_icmp_ge 108 dX5_canBeCopied_12 (by decide) (fun hc12 => ?_) (fun hc12 => False.elim (lp_x hk (by omega) hc12))
    refine ev_iconst (v := (nI 0)) dX5_canBeCopied_108 (by decide) ?_
    exact ev_iretE dX5_canBeCopied_109 rfl rfl (by rw [bAny_no hI]; rfl) (rfl)
  case hs =>
    intro i hi hI ih
    refine ev_iload dX5_canBeCopied_3 rfl ?_
    refine ev_aload_n dX5_canBeCopied_5 rfl ?_
    refine ev_getR dX5_canBeCopied_6 fX5_12 (by first | assumption | rfl) (by rfl) ?_
    refine ev_getI dX5_canBeCopied_9 fX5_68 (by first | assumption | rfl) (by rfl) ?_
    refine ev_icmp_ge 108 dX5_canBeCopied_12 (by decide) (fun hc12 => False.elim (lp_s hk (by omega) hi hc12)) (fun hc12 => ?_)
    refine ev_aload_n dX5_canBeCopied_15 rfl ?_
    refine ev_getR dX5_canBeCopied_16 fX5_12 (by first | assumption | rfl) (by rfl) ?_
    refine ev_getR dX5_canBeCopied_19 fX5_180 (by first | assumption | rfl) (by rfl) ?_
    refine ev_iload dX5_canBeCopied_22 rfl ?_
    refine ev_ialdE _ dX5_canBeCopied_24 (rfl) (by first | assumption | rfl) ⟨by omega, by decide⟩ ?_
    refine ev_istore dX5_canBeCopied_25 (by decide) rfl ?_
    refine ev_aload_n dX5_canBeCopied_27 rfl ?_
    refine ev_getR dX5_canBeCopied_28 fX5_12 (by first | assumption | rfl) (by rfl) ?_
    refine ev_getR dX5_canBeCopied_31 fX5_182 (by first | assumption | rfl) (by rfl) ?_
    refine ev_iload dX5_canBeCopied_34 rfl ?_
    refine ev_ialdE _ dX5_canBeCopied_36 (rfl) (by first | assumption | rfl) ⟨by omega, by decide⟩ ?_
    refine ev_iload_n dX5_canBeCopied_37 rfl ?_
    refine ev_icmp_ne 78 dX5_canBeCopied_38 (by decide) (fun hc38 => ?_) (fun hc38 => ?_)
    · refine ev_iconst (v := (nI 0)) dX5_canBeCopied_78 (by decide) ?_
      refine ev_istore dX5_canBeCopied_79 (by decide) rfl ?_
      refine ev_iload dX5_canBeCopied_81 rfl ?_
      refine ev_if_eq 102 dX5_canBeCopied_83 (by decide) (fun _ => ?_) (fun hc83 => False.elim (absurd hc83 (by decide)))
      refine ev_iinc (v := (nI 1)) dX5_canBeCopied_102 rfl (by decide) (by decide) rfl ?_
      refine ev_goto 3 dX5_canBeCopied_105 (by decide) ?_
      exact ev_st (ih (no_s hI (by clear hlg hI ih; simp [cpyV, cpy, *]))) (by clear hlg hI ih; simp [nI_add, dS, cpy, b2i, *]) rfl (rfl)
    · refine ev_aload_n dX5_canBeCopied_41 rfl ?_
      refine ev_getR dX5_canBeCopied_42 fX5_18 (by first | assumption | rfl) (by rfl) ?_
      refine ev_iload dX5_canBeCopied_45 rfl ?_
      refine ev_ialdE _ dX5_canBeCopied_47 ((hlg i hi).1.1) (by first | assumption | rfl) ⟨(hlg i hi).1.2, by decide⟩ ?_
      refine ev_iload_n dX5_canBeCopied_48 rfl ?_
      refine ev_icmp_ne 78 dX5_canBeCopied_49 (by decide) (fun hc49 => ?_) (fun hc49 => ?_)
      · refine ev_iconst (v := (nI 0)) dX5_canBeCopied_78 (by decide) ?_
        refine ev_istore dX5_canBeCopied_79 (by decide) rfl ?_
        refine ev_iload dX5_canBeCopied_81 rfl ?_
        refine ev_if_eq 102 dX5_canBeCopied_83 (by decide) (fun _ => ?_) (fun hc83 => False.elim (absurd hc83 (by decide)))
        refine ev_iinc (v := (nI 1)) dX5_canBeCopied_102 rfl (by decide) (by decide) rfl ?_
        refine ev_goto 3 dX5_canBeCopied_105 (by decide) ?_
        exact ev_st (ih (no_s hI (by clear hlg hI ih; simp [cpyV, cpy, *]))) (by clear hlg hI ih; simp [nI_add, dS, cpy, b2i, *]) rfl (rfl)
      · refine ev_aload_n dX5_canBeCopied_52 rfl ?_
        refine ev_getR dX5_canBeCopied_53 fX5_50 (by first | assumption | rfl) (by rfl) ?_
        refine ev_getR dX5_canBeCopied_56 fX5_103 (by first | assumption | rfl) (by rfl) ?_
        refine ev_aload_n dX5_canBeCopied_59 rfl ?_
        refine ev_getR dX5_canBeCopied_60 fX5_12 (by first | assumption | rfl) (by rfl) ?_
        refine ev_getR dX5_canBeCopied_63 fX5_185 (by first | assumption | rfl) (by rfl) ?_
        refine ev_iload dX5_canBeCopied_66 rfl ?_
        refine ev_ialdE _ dX5_canBeCopied_68 (rfl) (by first | assumption | rfl) ⟨by omega, by decide⟩ ?_
        refine ev_ialdE _ dX5_canBeCopied_69 ((hlg i hi).2.1) (by first | assumption | rfl) ⟨(hlg i hi).2.2, by decide⟩ ?_
        refine ev_iconst (v := (nI 2)) dX5_canBeCopied_70 (by decide) ?_
        refine ev_icmp_ne 78 dX5_canBeCopied_71 (by decide) (fun hc71 => ?_) (fun hc71 => ?_)
        · refine ev_iconst (v := (nI 0)) dX5_canBeCopied_78 (by decide) ?_
          refine ev_istore dX5_canBeCopied_79 (by decide) rfl ?_
          refine ev_iload dX5_canBeCopied_81 rfl ?_
          refine ev_if_eq 102 dX5_canBeCopied_83 (by decide) (fun _ => ?_) (fun hc83 => False.elim (absurd hc83 (by decide)))
          refine ev_iinc (v := (nI 1)) dX5_canBeCopied_102 rfl (by decide) (by decide) rfl ?_
          refine ev_goto 3 dX5_canBeCopied_105 (by decide) ?_
          exact ev_st (ih (no_s hI (by clear hlg hI ih; simp [cpyV, cpy, *]))) (by clear hlg hI ih; simp [nI_add, dS, cpy, b2i, *]) rfl (rfl)
        · refine ev_iconst (v := (nI 1)) dX5_canBeCopied_74 (by decide) ?_
          refine ev_goto 79 dX5_canBeCopied_75 (by decide) ?_
          refine ev_istore dX5_canBeCopied_79 (by decide) rfl ?_
          refine ev_iload dX5_canBeCopied_81 rfl ?_
          refine ev_if_eq 102 dX5_canBeCopied_83 (by decide) (fun hc83 => False.elim (absurd hc83 (by decide))) (fun _ => ?_)
          refine ev_iload_n dX5_canBeCopied_86 rfl ?_
          refine ev_if_ne 100 dX5_canBeCopied_87 (by decide) (fun hc87 => ?_) (fun hc87 => ?_)
          · refine ev_iconst (v := (nI 1)) dX5_canBeCopied_100 (by decide) ?_
            exact ev_iretE dX5_canBeCopied_101 rfl rfl (by rw [bAny_of hi (by clear hlg hI ih; simp [cpyV, cpy, *])]; rfl) (rfl)
          · refine ev_aload_n dX5_canBeCopied_90 rfl ?_
            refine ev_getR dX5_canBeCopied_91 fX5_22 (by first | assumption | rfl) (by rfl) ?_
            refine ev_iload dX5_canBeCopied_94 rfl ?_
            refine ev_ialdE _ dX5_canBeCopied_96 ((hlg i hi).1.1) (by first | assumption | rfl) ⟨(hlg i hi).1.2, by decide⟩ ?_
            refine ev_if_ne 102 dX5_canBeCopied_97 (by decide) (fun hc97 => ?_) (fun hc97 => ?_)
            · refine ev_iinc (v := (nI 1)) dX5_canBeCopied_102 rfl (by decide) (by decide) rfl ?_
              refine ev_goto 3 dX5_canBeCopied_105 (by decide) ?_
              exact ev_st (ih (no_s hI (by clear hlg hI ih; simp [cpyV, cpy, *]))) (by clear hlg hI ih; simp [nI_add, dS, cpy, b2i, *]) rfl (rfl)
            · refine ev_iconst (v := (nI 1)) dX5_canBeCopied_100 (by decide) ?_
              exact ev_iretE dX5_canBeCopied_101 rfl rfl (by rw [bAny_of hi (by clear hlg hI ih; simp [cpyV, cpy, *])]; rfl) (rfl)
  refine ev_iconst (v := (nI 0)) dX5_canBeCopied_0 (by decide) ?_
  refine ev_istore dX5_canBeCopied_1 (by decide) rfl ?_
  exact ev_st (key 0 (Nat.zero_le _) (by intro j hj; omega)) (rfl) rfl (rfl)
set_option maxRecDepth 20000 in
set_option maxHeartbeats 2000000 in
theorem e_firstWriter {q n : Nat} {C : rf_Mem} (hq : st_ok q) (hn : C q 9 = nI n) (hn2 : n ≤ 40) {l v : Int32} : Ev LayC mX5_firstWriter 0 (rf_ent 4 [.ref q, .int l, .int v]) [] C (some (.int (fW (fun p => decide (C (q + 1) p = l) && decide (C (q + 2) p = v)) (C (q + 4)) n))) C := by
  have hq0 := hq
  obtain ⟨h0, h1, h2, h3, h4, h5, h6, h7, h8, h9, h10, h11, h20⟩ := hq
  have key := ev_forI (Lay := LayC) (y := mX5_firstWriter) (pc := 2) (r := (some (.int (fW (fun p => decide (C (q + 1) p = l) && decide (C (q + 2) p = v)) (C (q + 4)) n)))) (M' := C) (n) (fun i => ∀ j, j < i → (fun p => decide (C (q + 1) p = l) && decide (C (q + 2) p = v)) j = false) (fun i => [some (.ref q), some (.int l), some (.int v), some (.int (nI i))]) (fun i => C) ?hx ?hs
  case hx =>
    intro hI
    refine ev_iload_n dX5_firstWriter_2 rfl ?_
    refine ev_aload_n dX5_firstWriter_3 rfl ?_
    refine ev_getI dX5_firstWriter_4 fX5_40 (by first | assumption | rfl) (by rfl) ?_
    refine ev_icmp_ge 59 dX5_firstWriter_7 (by decide) (fun hc7 => ?_) (fun hc7 => False.elim (lp_x hn (by omega) hc7))
    refine ev_iconst (v := (nI 0)) dX5_firstWriter_59 (by decide) ?_
    exact ev_iretE dX5_firstWriter_60 rfl rfl (by rw [fW_none hI]) (rfl)
  case hs =>
    intro i hi hI ih
    refine ev_iload_n dX5_firstWriter_2 rfl ?_
    refine ev_aload_n dX5_firstWriter_3 rfl ?_
    refine ev_getI dX5_firstWriter_4 fX5_40 (by first | assumption | rfl) (by rfl) ?_
    refine ev_icmp_ge 59 dX5_firstWriter_7 (by decide) (fun hc7 => False.elim (lp_s hn (by omega) hi hc7)) (fun hc7 => ?_)
    refine ev_aload_n dX5_firstWriter_10 rfl ?_
    refine ev_getR dX5_firstWriter_11 fX5_18 (by first | assumption | rfl) (by rfl) ?_
    refine ev_iload_n dX5_firstWriter_14 rfl ?_
    refine ev_ialdE _ dX5_firstWriter_15 (rfl) (by first | assumption | rfl) ⟨by omega, by decide⟩ ?_
    refine ev_iload_n dX5_firstWriter_16 rfl ?_
    refine ev_icmp_ne 53 dX5_firstWriter_17 (by decide) (fun hc17 => ?_) (fun hc17 => ?_)
    · refine ev_iinc (v := (nI 1)) dX5_firstWriter_53 rfl (by decide) (by decide) rfl ?_
      refine ev_goto 2 dX5_firstWriter_56 (by decide) ?_
      exact ev_st (ih (no_s hI (by simp [*]))) (by simp [nI_add]) rfl (rfl)
    · refine ev_aload_n dX5_firstWriter_20 rfl ?_
      refine ev_getR dX5_firstWriter_21 fX5_22 (by first | assumption | rfl) (by rfl) ?_
      refine ev_iload_n dX5_firstWriter_24 rfl ?_
      refine ev_ialdE _ dX5_firstWriter_25 (rfl) (by first | assumption | rfl) ⟨by omega, by decide⟩ ?_
      refine ev_iload_n dX5_firstWriter_26 rfl ?_
      refine ev_icmp_ne 53 dX5_firstWriter_27 (by decide) (fun hc27 => ?_) (fun hc27 => ?_)
      · refine ev_iinc (v := (nI 1)) dX5_firstWriter_53 rfl (by decide) (by decide) rfl ?_
        refine ev_goto 2 dX5_firstWriter_56 (by decide) ?_
        exact ev_st (ih (no_s hI (by simp [*]))) (by simp [nI_add]) rfl (rfl)
      · refine ev_aload_n dX5_firstWriter_30 rfl ?_
        refine ev_getR dX5_firstWriter_31 fX5_28 (by first | assumption | rfl) (by rfl) ?_
        refine ev_iload_n dX5_firstWriter_34 rfl ?_
        refine ev_ialdE _ dX5_firstWriter_35 (rfl) (by first | assumption | rfl) ⟨by omega, by decide⟩ ?_
        refine ev_iconst (v := (-1)) dX5_firstWriter_36 (by decide) ?_
        refine ev_icmp_ne 44 dX5_firstWriter_37 (by decide) (fun hc37 => ?_) (fun hc37 => ?_)
        · refine ev_iconst (v := (nI 1)) dX5_firstWriter_44 (by decide) ?_
          refine ev_aload_n dX5_firstWriter_45 rfl ?_
          refine ev_getR dX5_firstWriter_46 fX5_28 (by first | assumption | rfl) (by rfl) ?_
          refine ev_iload_n dX5_firstWriter_49 rfl ?_
          refine ev_ialdE _ dX5_firstWriter_50 (rfl) (by first | assumption | rfl) ⟨by omega, by decide⟩ ?_
          refine ev_ishl dX5_firstWriter_51 ?_
          exact ev_iretE dX5_firstWriter_52 rfl rfl (by rw [fW_hit hi hI (by simp [*])]; first | rw [if_pos hc37] | rw [if_neg hc37]) (rfl)
        · refine ev_iconst (v := (nI 0)) dX5_firstWriter_40 (by decide) ?_
          refine ev_goto 52 dX5_firstWriter_41 (by decide) ?_
          exact ev_iretE dX5_firstWriter_52 rfl rfl (by rw [fW_hit hi hI (by simp [*])]; first | rw [if_pos hc37] | rw [if_neg hc37]) (rfl)
  refine ev_iconst (v := (nI 0)) dX5_firstWriter_0 (by decide) ?_
  refine ev_istore_k 3 dX5_firstWriter_1 rfl (by decide) rfl ?_
  exact ev_st (key 0 (Nat.zero_le _) (by intro j hj; omega)) (rfl) rfl (rfl)
set_option maxRecDepth 20000 in
set_option maxHeartbeats 2000000 in
theorem e_fill {a N : Nat} {C : rf_Mem} {v : Int32} (ha : LayC[a]? = some (.inr (.inl (N, 0)))) (hN : N < 2 ^ 31) : Ev LayC mJ7_fill_53178 0 (rf_ent 4 [.ref a, .int v]) [] C none (fillM C a v N) := by
  have key := ev_for (Lay := LayC) (y := mJ7_fill_53178) (pc := 5) (r := none) (M' := fillM C a v N) N (fun i => [some (.ref a), some (.int v), some (.int (nI i)), some (.int (nI N))]) (fun i => fillM C a v i) ?hx ?hs
  case hx =>
    refine ev_iload_n dJ7_fill_53178_5 rfl ?_
    refine ev_iload_n dJ7_fill_53178_6 rfl ?_
    refine ev_icmp_ge 20 dJ7_fill_53178_7 (by decide) (fun hc7 => ?_) (fun hc7 => False.elim (lp_x rfl hN hc7))
    exact ev_vretE dJ7_fill_53178_20 rfl rfl (rfl)
  case hs =>
    intro i hi ih
    refine ev_iload_n dJ7_fill_53178_5 rfl ?_
    refine ev_iload_n dJ7_fill_53178_6 rfl ?_
    refine ev_icmp_ge 20 dJ7_fill_53178_7 (by decide) (fun hc7 => False.elim (lp_s rfl hN hi hc7)) (fun hc7 => ?_)
    refine ev_aload_n dJ7_fill_53178_10 rfl ?_
    refine ev_iload_n dJ7_fill_53178_11 rfl ?_
    refine ev_iload_n dJ7_fill_53178_12 rfl ?_
    refine ev_iastE (i) dJ7_fill_53178_13 (rfl) (by first | assumption | rfl) ⟨hi, hN⟩ ?_
    refine ev_iinc (v := (nI 1)) dJ7_fill_53178_14 rfl (by decide) (by decide) rfl ?_
    refine ev_goto 5 dJ7_fill_53178_17 (by decide) ?_
    exact ev_st ih (by simp [nI_add]) rfl (fillM_s C a v i)
  refine ev_iconst (v := (nI 0)) dJ7_fill_53178_0 (by decide) ?_
  refine ev_istore_k 2 dJ7_fill_53178_1 rfl (by decide) rfl ?_
  refine ev_aload_n dJ7_fill_53178_2 rfl ?_
  refine ev_alen (v := (nI N)) dJ7_fill_53178_3 (by first | assumption | rfl) rfl ?_
  refine ev_istore_k 3 dJ7_fill_53178_4 rfl (by decide) rfl ?_
  exact ev_st (key 0 (Nat.zero_le _)) rfl rfl (fillM_0 C a v).symm
