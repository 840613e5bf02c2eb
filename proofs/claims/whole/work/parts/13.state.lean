/-! what the queries of a state say -/
def b2i (b : Bool) : Int32 := match b with
  | true => nI 1
  | false => nI 0
theorem b2i_0 (b : Bool) : b2i b = 0 ↔ b = false := by cases b <;> decide
theorem b2i_n0 (b : Bool) : ¬ b2i b = 0 ↔ b = true := by cases b <;> decide
theorem b2i_t : b2i true = nI 1 := rfl
theorem b2i_f : b2i false = nI 0 := rfl
theorem lp_x {v : Int32} {n : Nat} (h : v = nI n) (hn : n < 2 ^ 31) (hc : ¬ v ≤ nI n) : False := hc (by rw [h]; exact nI_le (Nat.le_refl _) hn)
theorem lp_s {v : Int32} {n i : Nat} (h : v = nI n) (hn : n < 2 ^ 31) (hi : i < n) (hc : v ≤ nI i) : False := nI_ge hi hn (by rw [← h]; exact hc)
def vLeft (line shade : Nat → Int32) (l : Int32) (p : Nat) : Bool := decide (line p = l) && !decide (nI 9 ≤ shade p)
def vWith (line var shade : Nat → Int32) (l v : Int32) (p : Nat) : Bool := vLeft line shade l p && decide (var p = v)

set_option maxRecDepth 20000 in
set_option maxHeartbeats 2000000 in
theorem e_isLeft {q p : Nat} {l : Int32} {C : rf_Mem} (hq : st_ok q) (hp : p < 40) : Ev LayC mX5_isLeft 0 (rf_ent 3 [.ref q, .int (nI p), .int l]) [] C (some (.int (b2i (vLeft (C (q + 1)) (C (q + 3)) l p)))) C := by
  obtain ⟨h0, h1, h2, h3, h4, h5, h6, h7, h8, h9, h10, h11, h20⟩ := hq
  refine ev_aload_n dX5_isLeft_0 rfl ?_
  refine ev_getR dX5_isLeft_1 fX5_18 (by first | assumption | rfl) (by rfl) ?_
  refine ev_iload_n dX5_isLeft_4 rfl ?_
  refine ev_ialdE _ dX5_isLeft_5 (rfl) ⟨by omega, by decide⟩ (by first | assumption | rfl) ?_
  refine ev_iload_n dX5_isLeft_6 rfl ?_
  refine ev_icmp_ne 25 dX5_isLeft_7 (by decide) (fun hc7 => ?_) (fun hc7 => ?_)
  · refine ev_iconst (v := (nI 0)) dX5_isLeft_25 (by decide) ?_
    exact ev_iretE dX5_isLeft_26 rfl rfl (by simp [b2i, vLeft, *]) (rfl)
  · refine ev_aload_n dX5_isLeft_10 rfl ?_
    refine ev_getR dX5_isLeft_11 fX5_25 (by first | assumption | rfl) (by rfl) ?_
    refine ev_iload_n dX5_isLeft_14 rfl ?_
    refine ev_ialdE _ dX5_isLeft_15 (rfl) ⟨by omega, by decide⟩ (by first | assumption | rfl) ?_
    refine ev_bipush (v := (nI 9)) dX5_isLeft_16 (by decide) ?_
    refine ev_icmp_ge 25 dX5_isLeft_18 (by decide) (fun hc18 => ?_) (fun hc18 => ?_)
    · refine ev_iconst (v := (nI 0)) dX5_isLeft_25 (by decide) ?_
      exact ev_iretE dX5_isLeft_26 rfl rfl (by simp [b2i, vLeft, *]) (rfl)
    · refine ev_iconst (v := (nI 1)) dX5_isLeft_21 (by decide) ?_
      refine ev_goto 26 dX5_isLeft_22 (by decide) ?_
      exact ev_iretE dX5_isLeft_26 rfl rfl (by simp [b2i, vLeft, *]) (rfl)
set_option maxRecDepth 20000 in
set_option maxHeartbeats 2000000 in
theorem e_pagesLeft {q n : Nat} {l : Int32} {C : rf_Mem} (hq : st_ok q) (hn : C q 9 = nI n) (hn2 : n ≤ 40) : Ev LayC mX5_pagesLeft 0 (rf_ent 4 [.ref q, .int l]) [] C (some (.int (nI (fb_ct (vLeft (C (q + 1)) (C (q + 3)) l) n)))) C := by
  have hq0 := hq
  obtain ⟨h0, h1, h2, h3, h4, h5, h6, h7, h8, h9, h10, h11, h20⟩ := hq
  have key := ev_for (Lay := LayC) (y := mX5_pagesLeft) (pc := 4) (r := (some (.int (nI (fb_ct (vLeft (C (q + 1)) (C (q + 3)) l) n))))) (M' := C) (n) (fun i => [some (.ref q), some (.int l), some (.int (nI (fb_ct (vLeft (C (q + 1)) (C (q + 3)) l) i))), some (.int (nI i))]) (fun i => C) ?hx ?hs
  case hx =>
    refine ev_iload_n dX5_pagesLeft_4 rfl ?_
    refine ev_aload_n dX5_pagesLeft_5 rfl ?_
    refine ev_getI dX5_pagesLeft_6 fX5_40 (by first | assumption | rfl) (by rfl) ?_
    refine ev_icmp_ge 30 dX5_pagesLeft_9 (by decide) (fun hc9 => ?_) (fun hc9 => False.elim (lp_x hn (by omega) hc9))
    refine ev_iload_n dX5_pagesLeft_30 rfl ?_
    exact ev_iretE dX5_pagesLeft_31 rfl rfl (by first | rfl | simp_all) (rfl)
  case hs =>
    intro i hi ih
    refine ev_iload_n dX5_pagesLeft_4 rfl ?_
    refine ev_aload_n dX5_pagesLeft_5 rfl ?_
    refine ev_getI dX5_pagesLeft_6 fX5_40 (by first | assumption | rfl) (by rfl) ?_
    refine ev_icmp_ge 30 dX5_pagesLeft_9 (by decide) (fun hc9 => False.elim (lp_s hn (by omega) hi hc9)) (fun hc9 => ?_)
    refine ev_aload_n dX5_pagesLeft_12 rfl ?_
    refine ev_iload_n dX5_pagesLeft_13 rfl ?_
    refine ev_iload_n dX5_pagesLeft_14 rfl ?_
    refine ev_cV2 dX5_pagesLeft_15 ceX5_isLeft kX5_162 (rm_le rfl rfl) (Nat.le_of_ble_eq_true rfl) (Nat.le_of_ble_eq_true rfl) (e_isLeft hq0 (by omega)) (by first | assumption | rfl) ?_
    refine ev_if_eq 24 dX5_pagesLeft_18 (by decide) (fun hc18 => ?_) (fun hc18 => ?_)
    · rw [b2i_0] at hc18
      refine ev_iinc (v := (nI 1)) dX5_pagesLeft_24 rfl (by decide) (by decide) rfl ?_
      refine ev_goto 4 dX5_pagesLeft_27 (by decide) ?_
      exact ev_st ih (by simp [nI_add, fb_ct_succ, *]) rfl (rfl)
    · rw [b2i_n0] at hc18
      refine ev_iinc (v := (nI 1)) dX5_pagesLeft_21 rfl (by decide) (by decide) rfl ?_
      refine ev_iinc (v := (nI 1)) dX5_pagesLeft_24 rfl (by decide) (by decide) rfl ?_
      refine ev_goto 4 dX5_pagesLeft_27 (by decide) ?_
      exact ev_st ih (by simp [nI_add, fb_ct_succ, *]) rfl (rfl)
  refine ev_iconst (v := (nI 0)) dX5_pagesLeft_0 (by decide) ?_
  refine ev_istore_n dX5_pagesLeft_1 (by decide) rfl ?_
  refine ev_iconst (v := (nI 0)) dX5_pagesLeft_2 (by decide) ?_
  refine ev_istore_n dX5_pagesLeft_3 (by decide) rfl ?_
  exact ev_st (key 0 (Nat.zero_le _)) (rfl) rfl (rfl)
