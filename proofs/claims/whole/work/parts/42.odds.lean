/-! ops: life, right -/
theorem row_set (M : rf_Mem) (k j : Nat) (f : Nat → Int32) (v : Int32) : rf_set (rf_row M k f) k j v = rf_row M k (upd f j v) := by
  funext a
  by_cases h : a = k
  · subst h; simp [rf_set, rf_row]
  · simp [rf_set, rf_row, h]
theorem row_at (M : rf_Mem) (k : Nat) (f : Nat → Int32) : rf_row M k f k = f := by simp [rf_row]
theorem row_o (M : rf_Mem) (k : Nat) (f : Nat → Int32) {a : Nat} (h : a ≠ k) : rf_row M k f a = M a := by simp [rf_row, h]
theorem row_id (M : rf_Mem) (k : Nat) : rf_row M k (M k) = M := by
  funext a
  by_cases h : a = k
  · subst h; simp [rf_row]
  · simp [rf_row, h]
theorem dn_s (c i : Nat) : nI c - nI i + (-1) = nI c - nI (i + 1) := by
  have e : nI (i + 1) = nI i + 1 := (nI_add i 1).symm
  rw [e]; generalize nI c = a; generalize nI i = b; grind
theorem dn_x (c : Nat) : nI c - nI (c + 1) = -1 := by
  have e : nI (c + 1) = nI c + 1 := (nI_add c 1).symm
  rw [e]; generalize nI c = a; grind
def smN (f : Nat → Int32) : Nat → Int32
  | 0 => nI 0
  | j + 1 => smN f j + f j
theorem smN_cong {f g : Nat → Int32} : ∀ {n : Nat}, (∀ j, j < n → f j = g j) → smN f n = smN g n
  | 0, _ => rfl
  | n + 1, h => by rw [smN, smN, smN_cong (fun j hj => h j (by omega)), h n (by omega)]
theorem smN_upd_o {f : Nat → Int32} {j : Nat} {v : Int32} : ∀ {n : Nat}, n ≤ j → smN (upd f j v) n = smN f n
  | 0, _ => rfl
  | n + 1, h => by
    rw [smN, smN, smN_upd_o (by omega)]
    have e : upd f j v n = f n := by simp [upd]; omega
    rw [e]
theorem smN_upd {f : Nat → Int32} {j : Nat} {v : Int32} : ∀ {n : Nat}, j < n → smN (upd f j v) n = smN f n + (v - f j)
  | 0, h => absurd h (Nat.not_lt_zero j)
  | n + 1, h => by
    rw [smN, smN]
    by_cases e : j = n
    · subst e
      rw [smN_upd_o (Nat.le_refl _)]
      have e2 : upd f j v j = v := by simp [upd]
      rw [e2]; generalize smN f j = a; generalize f j = b; grind
    · rw [smN_upd (by omega)]
      have e2 : upd f j v n = f n := by simp [upd]; omega
      rw [e2]; generalize smN f n = a; generalize f n = b; generalize f j = c; grind
theorem ini_s {f : Nat → Int32} {i s : Nat} {a b : Int32} : upd (fun j => if j < i then (if j = s then a else b) else f j) i (if i = s then a else b) = fun j => if j < i + 1 then (if j = s then a else b) else f j := by
  funext j
  simp only [upd]
  by_cases z1 : j = i
  · subst z1; rw [if_pos rfl, if_pos (Nat.lt_succ_self _)]
  · rw [if_neg z1]
    by_cases z2 : j < i
    · rw [if_pos z2, if_pos (show j < i + 1 by omega)]
    · rw [if_neg z2, if_neg (show ¬ j < i + 1 by omega)]
theorem ini_p {M : rf_Mem} {k : Nat} {f : Nat → Int32} {i s : Nat} {a b : Int32} (h : i = s) : rf_set (rf_row M k (fun j => if j < i then (if j = s then a else b) else f j)) k i a = rf_row M k (fun j => if j < i + 1 then (if j = s then a else b) else f j) := by
  rw [row_set, ← ini_s, if_pos h]
theorem ini_n {M : rf_Mem} {k : Nat} {f : Nat → Int32} {i s : Nat} {a b : Int32} (h : ¬ i = s) : rf_set (rf_row M k (fun j => if j < i then (if j = s then a else b) else f j)) k i b = rf_row M k (fun j => if j < i + 1 then (if j = s then a else b) else f j) := by
  rw [row_set, ← ini_s, if_neg h]
def lfS (m : Int32) (f : Nat → Int32) (k : Nat) : Nat → Int32 := upd (upd f (k + 1) (f (k + 1) + f k / m)) k (f k - f k / m)
def lfI (m : Int32) (f : Nat → Int32) : Nat → Nat → Int32
  | 0 => f
  | i + 1 => lfS m (lfI m f i) (8 - i)
def lfN (m : Int32) (f : Nat → Int32) : Nat → Nat → Int32
  | 0 => f
  | d + 1 => lfI m (lfN m f d) 9
theorem lfS_sum {m : Int32} {f : Nat → Int32} {k : Nat} (hk : k < 9) : smN (lfS m f k) 10 = smN f 10 := by
  unfold lfS
  rw [smN_upd (by omega), smN_upd (by omega)]
  have e : upd f (k + 1) (f (k + 1) + f k / m) k = f k := by simp [upd]
  rw [e]; generalize smN f 10 = a; generalize f k / m = b; generalize f k = c; generalize f (k + 1) = d; grind
theorem lfI_sum {m : Int32} {f : Nat → Int32} : ∀ {i : Nat}, i ≤ 9 → smN (lfI m f i) 10 = smN f 10
  | 0, _ => rfl
  | i + 1, h => by rw [lfI, lfS_sum (by omega), lfI_sum (by omega)]
theorem lfN_sum {m : Int32} {f : Nat → Int32} : ∀ {d : Nat}, smN (lfN m f d) 10 = smN f 10
  | 0 => rfl
  | d + 1 => by rw [lfN, lfI_sum (by omega), lfN_sum]
theorem lfS_cong {m : Int32} {f g : Nat → Int32} {k : Nat} (h : ∀ j, j < 10 → f j = g j) (hk : k < 9) : ∀ j, j < 10 → lfS m f k j = lfS m g k j := by
  intro j hj
  unfold lfS upd
  rw [h j hj, h k (by omega), h (k + 1) (by omega)]
theorem lfI_cong {m : Int32} {f g : Nat → Int32} (h : ∀ j, j < 10 → f j = g j) : ∀ {i : Nat}, i ≤ 9 → ∀ j, j < 10 → lfI m f i j = lfI m g i j
  | 0, _ => h
  | i + 1, hi => lfS_cong (lfI_cong h (by omega)) (by omega)
theorem lfN_cong {m : Int32} {f g : Nat → Int32} (h : ∀ j, j < 10 → f j = g j) : ∀ {d : Nat}, ∀ j, j < 10 → lfN m f d j = lfN m g d j
  | 0 => h
  | d + 1 => lfI_cong (lfN_cong h) (Nat.le_refl _)
theorem lfS_a {m : Int32} {f : Nat → Int32} {k : Nat} : upd (upd f (k + 1) (f (k + 1) + f k / m)) k (upd f (k + 1) (f (k + 1) + f k / m) k - f k / m) = lfS m f k := by
  have e : upd f (k + 1) (f (k + 1) + f k / m) k = f k := by simp [upd]
  rw [e]; rfl
theorem lfS_b {m : Int32} {f : Nat → Int32} {k : Nat} : upd (upd f k (f k - f k / m)) (k + 1) (upd f k (f k - f k / m) (k + 1) + f k / m) = lfS m f k := by
  have e : upd f k (f k - f k / m) (k + 1) = f (k + 1) := by simp [upd]
  rw [e]; funext j; unfold lfS upd; by_cases h1 : j = k <;> by_cases h2 : j = k + 1 <;> simp_all
set_option maxRecDepth 20000 in
set_option maxHeartbeats 2000000 in
theorem life_inC {C : rf_Mem} {f : Nat → Int32} {s m n d : Int32} (hm : ¬ m = 0) : ∀ r M', Ev LayC mX6_life 113 [some (.ref 0), some (.int s), some (.int m), some (.int n), some (.int (d)), none, none] [] (rf_row C 20 (lfI m f 9)) r M' → Ev LayC mX6_life 65 [some (.ref 0), some (.int s), some (.int m), some (.int n), some (.int (d)), some (.int (nI 8)), none] [] (rf_row C 20 f) r M' := by
  intro r M' hE
  have key := ev_for (Lay := LayC) (y := mX6_life) (pc := 65) (r := r) (M' := M') 9 (fun i => [some (.ref 0), some (.int s), some (.int m), some (.int n), some (.int (d)), some (.int (nI 8 - nI i)), none]) (fun i => rf_row C 20 (lfI m f i)) ?hx ?hs
  case hx =>
    refine ev_iload dX6_life_65 rfl ?_
    refine ev_if_lt 113 dX6_life_67 (by decide) (fun hc67 => ?_) (fun hc67 => False.elim (hc67 (by decide)))
    exact ev_stw hE ⟨rfl, rfl, rfl, rfl, rfl, trivial⟩ rfl rfl
  case hs =>
    intro i hi ih
    refine ev_iload dX6_life_65 rfl ?_
    refine ev_if_lt 113 dX6_life_67 (by decide) (fun hc67 => False.elim (by rw [pk_sub (by omega)] at hc67; exact nI_pos (by omega) hc67)) (fun hc67 => ?_)
    refine ev_aload_n dX6_life_70 rfl ?_
    refine ev_getR dX6_life_71 fX6_67 (by first | assumption | rfl) (by rfl) ?_
    refine ev_iload dX6_life_74 rfl ?_
    refine ev_ialdE (8 - i) dX6_life_76 (pk_sub (by omega)) (by first | assumption | rfl) ⟨by omega, by decide⟩ ?_
    refine ev_iload_n dX6_life_77 rfl ?_
    refine ev_idiv dX6_life_78 (hm) ?_
    refine ev_istore dX6_life_79 (by decide) rfl ?_
    refine ev_aload_n dX6_life_81 rfl ?_
    refine ev_getR dX6_life_82 fX6_67 (by first | assumption | rfl) (by rfl) ?_
    refine ev_iload dX6_life_85 rfl ?_
    refine ev_iconst (v := (nI 1)) dX6_life_87 (by decide) ?_
    refine ev_iadd dX6_life_88 ?_
    refine ev_dup2 dX6_life_89 rfl rfl ?_
    refine ev_ialdE (8 - i + 1) dX6_life_90 (by rw [pk_sub (by omega), nI_add]) (by first | assumption | rfl) ⟨by omega, by decide⟩ ?_
    refine ev_iload dX6_life_91 rfl ?_
    refine ev_iadd dX6_life_93 ?_
    refine ev_iastE (8 - i + 1) dX6_life_94 (by rw [pk_sub (by omega), nI_add]) (by first | assumption | rfl) ⟨by omega, by decide⟩ ?_
    refine ev_aload_n dX6_life_95 rfl ?_
    refine ev_getR dX6_life_96 fX6_67 (by first | assumption | rfl) (by rfl) ?_
    refine ev_iload dX6_life_99 rfl ?_
    refine ev_dup2 dX6_life_101 rfl rfl ?_
    refine ev_ialdE (8 - i) dX6_life_102 (pk_sub (by omega)) (by first | assumption | rfl) ⟨by omega, by decide⟩ ?_
    refine ev_iload dX6_life_103 rfl ?_
    refine ev_isub dX6_life_105 ?_
    refine ev_iastE (8 - i) dX6_life_106 (pk_sub (by omega)) (by first | assumption | rfl) ⟨by omega, by decide⟩ ?_
    refine ev_iinc (v := (-1)) dX6_life_107 rfl (by decide) (by decide) rfl ?_
    refine ev_goto 65 dX6_life_110 (by decide) ?_
    exact ev_stw ih (by simp [rf_sub, dn_s]) rfl (by simp only [row_set, row_at]; rw [lfS_a]; rfl)
  exact ev_stw (key 0 (Nat.zero_le _)) (by simp [rf_sub, nI_0]) rfl rfl
set_option maxRecDepth 20000 in
set_option maxHeartbeats 2000000 in
theorem life_inG {G : rf_Mem} {f : Nat → Int32} {s m n d : Int32} (hm : ¬ m = 0) : ∀ r M', Ev LayM mX7_life 135 [some (.ref 0), some (.int s), some (.int m), some (.int n), some (.int (d)), none, none] [] (rf_row G 12 (lfI m f 9)) r M' → Ev LayM mX7_life 87 [some (.ref 0), some (.int s), some (.int m), some (.int n), some (.int (d)), some (.int (nI 8)), none] [] (rf_row G 12 f) r M' := by
  intro r M' hE
  have key := ev_for (Lay := LayM) (y := mX7_life) (pc := 87) (r := r) (M' := M') 9 (fun i => [some (.ref 0), some (.int s), some (.int m), some (.int n), some (.int (d)), some (.int (nI 8 - nI i)), none]) (fun i => rf_row G 12 (lfI m f i)) ?hx ?hs
  case hx =>
    refine ev_iload dX7_life_87 rfl ?_
    refine ev_if_lt 135 dX7_life_89 (by decide) (fun hc89 => ?_) (fun hc89 => False.elim (hc89 (by decide)))
    exact ev_stw hE ⟨rfl, rfl, rfl, rfl, rfl, trivial⟩ rfl rfl
  case hs =>
    intro i hi ih
    refine ev_iload dX7_life_87 rfl ?_
    refine ev_if_lt 135 dX7_life_89 (by decide) (fun hc89 => False.elim (by rw [pk_sub (by omega)] at hc89; exact nI_pos (by omega) hc89)) (fun hc89 => ?_)
    refine ev_aload_n dX7_life_92 rfl ?_
    refine ev_getR dX7_life_93 fX7_51 (by first | assumption | rfl) (by rfl) ?_
    refine ev_iload dX7_life_96 rfl ?_
    refine ev_ialdE (8 - i) dX7_life_98 (pk_sub (by omega)) (by first | assumption | rfl) ⟨by omega, by decide⟩ ?_
    refine ev_iload_n dX7_life_99 rfl ?_
    refine ev_idiv dX7_life_100 (hm) ?_
    refine ev_istore dX7_life_101 (by decide) rfl ?_
    refine ev_aload_n dX7_life_103 rfl ?_
    refine ev_getR dX7_life_104 fX7_51 (by first | assumption | rfl) (by rfl) ?_
    refine ev_iload dX7_life_107 rfl ?_
    refine ev_dup2 dX7_life_109 rfl rfl ?_
    refine ev_ialdE (8 - i) dX7_life_110 (pk_sub (by omega)) (by first | assumption | rfl) ⟨by omega, by decide⟩ ?_
    refine ev_iload dX7_life_111 rfl ?_
    refine ev_isub dX7_life_113 ?_
    refine ev_iastE (8 - i) dX7_life_114 (pk_sub (by omega)) (by first | assumption | rfl) ⟨by omega, by decide⟩ ?_
    refine ev_aload_n dX7_life_115 rfl ?_
    refine ev_getR dX7_life_116 fX7_51 (by first | assumption | rfl) (by rfl) ?_
    refine ev_iload dX7_life_119 rfl ?_
    refine ev_iconst (v := (nI 1)) dX7_life_121 (by decide) ?_
    refine ev_iadd dX7_life_122 ?_
    refine ev_dup2 dX7_life_123 rfl rfl ?_
    refine ev_ialdE (8 - i + 1) dX7_life_124 (by rw [pk_sub (by omega), nI_add]) (by first | assumption | rfl) ⟨by omega, by decide⟩ ?_
    refine ev_iload dX7_life_125 rfl ?_
    refine ev_iadd dX7_life_127 ?_
    refine ev_iastE (8 - i + 1) dX7_life_128 (by rw [pk_sub (by omega), nI_add]) (by first | assumption | rfl) ⟨by omega, by decide⟩ ?_
    refine ev_iinc (v := (-1)) dX7_life_129 rfl (by decide) (by decide) rfl ?_
    refine ev_goto 87 dX7_life_132 (by decide) ?_
    exact ev_stw ih (by simp [rf_sub, dn_s]) rfl (by simp only [row_set, row_at]; rw [lfS_b]; rfl)
  exact ev_stw (key 0 (Nat.zero_le _)) (by simp [rf_sub, nI_0]) rfl rfl
set_option maxRecDepth 20000 in
set_option maxHeartbeats 2000000 in
theorem life_C {C : rf_Mem} {f : Nat → Int32} {s m : Int32} {n : Nat} (hm : ¬ m = 0) (hn : n ≤ 200) : Ev LayC mX6_life 55 [some (.ref 0), some (.int s), some (.int m), some (.int (nI n)), some (.int (nI 0)), none, none] [] (rf_row C 20 f) (some (.int (smN (lfN m f n) 9))) (rf_row C 20 (lfN m f n)) := by
  have key3 := ev_for (Lay := LayC) (y := mX6_life) (pc := 125) (r := some (.int (smN (lfN m f n) 9))) (M' := rf_row C 20 (lfN m f n)) 9 (fun i => [some (.ref 0), some (.int s), some (.int m), some (.int (nI n)), some (.int (smN (lfN m f n) i)), some (.int (nI i)), none]) (fun _ => rf_row C 20 (lfN m f n)) ?hx3 ?hs3
  case hx3 =>
    refine ev_iload dX6_life_125 rfl ?_
    refine ev_bipush (v := (nI 9)) dX6_life_127 (by decide) ?_
    refine ev_icmp_ge 150 dX6_life_129 (by decide) (fun hc129 => ?_) (fun hc129 => False.elim (hc129 (by decide)))
    refine ev_iload dX6_life_150 rfl ?_
    exact ev_iretE dX6_life_152 rfl rfl (by first | rfl | simp_all) (rfl)
  case hs3 =>
    intro i hi ih
    refine ev_iload dX6_life_125 rfl ?_
    refine ev_bipush (v := (nI 9)) dX6_life_127 (by decide) ?_
    refine ev_icmp_ge 150 dX6_life_129 (by decide) (fun hc129 => False.elim (nI_ge hi (by decide) hc129)) (fun hc129 => ?_)
    refine ev_iload dX6_life_132 rfl ?_
    refine ev_aload_n dX6_life_134 rfl ?_
    refine ev_getR dX6_life_135 fX6_67 (by first | assumption | rfl) (by rfl) ?_
    refine ev_iload dX6_life_138 rfl ?_
    refine ev_ialdE _ dX6_life_140 (rfl) (by first | assumption | rfl) ⟨by omega, by decide⟩ ?_
    refine ev_iadd dX6_life_141 ?_
    refine ev_istore dX6_life_142 (by decide) rfl ?_
    refine ev_iinc (v := (nI 1)) dX6_life_144 rfl (by decide) (by decide) rfl ?_
    refine ev_goto 125 dX6_life_147 (by decide) ?_
    exact ev_st ih (by simp [nI_add, smN, row_at]) rfl rfl
  have key := ev_for (Lay := LayC) (y := mX6_life) (pc := 55) (r := some (.int (smN (lfN m f n) 9))) (M' := rf_row C 20 (lfN m f n)) n (fun d => [some (.ref 0), some (.int s), some (.int m), some (.int (nI n)), some (.int (nI d)), none, none]) (fun d => rf_row C 20 (lfN m f d)) ?hx ?hs
  case hx =>
    refine ev_iload dX6_life_55 rfl ?_
    refine ev_iload_n dX6_life_57 rfl ?_
    refine ev_icmp_ge 119 dX6_life_58 (by decide) (fun hc58 => ?_) (fun hc58 => False.elim (hc58 (nI_le (Nat.le_refl _) (by omega))))
    refine ev_iconst (v := (nI 0)) dX6_life_119 (by decide) ?_
    refine ev_istore dX6_life_120 (by decide) rfl ?_
    refine ev_iconst (v := (nI 0)) dX6_life_122 (by decide) ?_
    refine ev_istore dX6_life_123 (by decide) rfl ?_
    exact ev_st (key3 0 (Nat.zero_le _)) rfl rfl rfl
  case hs =>
    intro i hi ih
    refine ev_iload dX6_life_55 rfl ?_
    refine ev_iload_n dX6_life_57 rfl ?_
    refine ev_icmp_ge 119 dX6_life_58 (by decide) (fun hc58 => False.elim (nI_ge hi (by omega) hc58)) (fun hc58 => ?_)
    refine ev_bipush (v := (nI 8)) dX6_life_61 (by decide) ?_
    refine ev_istore dX6_life_63 (by decide) rfl ?_
    refine ev_st (life_inC (C := C) (f := lfN m f i) hm _ _ ?_) rfl rfl rfl
    refine ev_iinc (v := nI 1) dX6_life_113 rfl (by decide) (by decide) rfl ?_
    refine ev_goto 55 dX6_life_116 (by decide) ?_
    exact ev_st ih (by simp [nI_add]) rfl rfl
  exact key 0 (Nat.zero_le _)
set_option maxRecDepth 20000 in
set_option maxHeartbeats 2000000 in
theorem life_G {G : rf_Mem} {f : Nat → Int32} {s m : Int32} {n : Nat} (hm : ¬ m = 0) (hn : n ≤ 200) : Ev LayM mX7_life 77 [some (.ref 0), some (.int s), some (.int m), some (.int (nI n)), some (.int (nI 0)), none, none] [] (rf_row G 12 f) (some (.int (nI 1000000000 - lfN m f n 9))) (rf_row G 12 (lfN m f n)) := by
  have key := ev_for (Lay := LayM) (y := mX7_life) (pc := 77) (r := some (.int (nI 1000000000 - lfN m f n 9))) (M' := rf_row G 12 (lfN m f n)) n (fun d => [some (.ref 0), some (.int s), some (.int m), some (.int (nI n)), some (.int (nI d)), none, none]) (fun d => rf_row G 12 (lfN m f d)) ?hx ?hs
  case hx =>
    refine ev_iload dX7_life_77 rfl ?_
    refine ev_iload_n dX7_life_79 rfl ?_
    refine ev_icmp_ge 141 dX7_life_80 (by decide) (fun hc80 => ?_) (fun hc80 => False.elim (hc80 (nI_le (Nat.le_refl _) (by omega))))
    refine ev_ldc (v := (nI 1000000000)) dX7_life_141 nX7_250 ?_
    refine ev_aload_n dX7_life_143 rfl ?_
    refine ev_getR dX7_life_144 fX7_51 (by first | assumption | rfl) (by rfl) ?_
    refine ev_bipush (v := (nI 9)) dX7_life_147 (by decide) ?_
    refine ev_ialdE _ dX7_life_149 (by first | with_reducible rfl | with_reducible exact nI_add _ _ | with_reducible exact ix3 _ _ _ | with_reducible exact ix_k _ _ _ | with_reducible exact ix_xk _ _ _ _) (by first | assumption | rfl) ⟨by omega, by decide⟩ ?_
    refine ev_isub dX7_life_150 ?_
    exact ev_iretE dX7_life_151 rfl rfl (by rw [row_at]) (rfl)
  case hs =>
    intro i hi ih
    refine ev_iload dX7_life_77 rfl ?_
    refine ev_iload_n dX7_life_79 rfl ?_
    refine ev_icmp_ge 141 dX7_life_80 (by decide) (fun hc80 => False.elim (nI_ge hi (by omega) hc80)) (fun hc80 => ?_)
    refine ev_bipush (v := (nI 8)) dX7_life_83 (by decide) ?_
    refine ev_istore dX7_life_85 (by decide) rfl ?_
    refine ev_st (life_inG (G := G) (f := lfN m f i) hm _ _ ?_) rfl rfl rfl
    refine ev_iinc (v := nI 1) dX7_life_135 rfl (by decide) (by decide) rfl ?_
    refine ev_goto 77 dX7_life_138 (by decide) ?_
    exact ev_st ih (by simp [nI_add]) rfl rfl
  exact key 0 (Nat.zero_le _)
set_option maxRecDepth 20000 in
set_option maxHeartbeats 2000000 in
theorem op_life {s0 m0 n0 : Int32} : OpOk mX6_life mX7_life [.int s0, .int m0, .int n0] := by
  intro C G hR
  have hR0 := hR
  obtain ⟨nl, nr, tm, n, d, nq, tl, nd, b0, b1, kt, hp⟩ := hR
  obtain ⟨hS, hE, hQ, hT, hDr, hI, hkt, hkt3⟩ := id hp
  have hL := hS.1
  obtain ⟨l1, m1, l3, r1, m2, l6, le, lw, lr⟩ := id hL
  obtain ⟨hP, ⟨d1, d2, d3⟩, ⟨s1, s2⟩, hH⟩ := id hS.2.1
  obtain ⟨p1, p2, p3, p4, p5⟩ := id hP
  rw [Nat.zero_add] at p2 d2 s1
  obtain ⟨-, -, k, k', q1, q2, q3, q4, q5⟩ := id hS
  obtain ⟨ke, kl⟩ := q5 rfl
  subst ke
  obtain ⟨-, -, -, kl4⟩ := id kl
  rw [Nat.zero_add] at q3
  rcases rg0 s0 (m := 9) (by decide) with ⟨s, hs, e1, c1, c2, k1⟩ | ⟨k1, c1 | ⟨c1, c2⟩⟩
  · subst e1
    rcases rg1 m0 (m := 99) (by decide) with ⟨m, hm1, hm, e2, c3, c4, k2⟩ | ⟨k2, c3 | ⟨c3, c4⟩⟩
    · subst e2
      rcases rg0 n0 (m := 200) (by decide) with ⟨N, hN, e3, c5, c6, k3⟩ | ⟨k3, c5 | ⟨c5, c6⟩⟩
      · subst e3
        have hm0 : ¬ nI m = 0 := nI_ne0 hm1 (by omega)
        have hz : ∀ j, j < 10 → (upd (fun j => if j < 41 then nI 0 else C 20 j) s (nI 1000000000)) j = (fun j => if j < 10 then (if j = s then nI 1000000000 else nI 0) else G 12 j) j := fun j hj => by simp only [upd]; by_cases z : j = s <;> simp [z, hj] <;> omega
        have hv : smN (lfN (nI m) (upd (fun j => if j < 41 then nI 0 else C 20 j) s (nI 1000000000)) N) 9 = nI 1000000000 - lfN (nI m) (fun j => if j < 10 then (if j = s then nI 1000000000 else nI 0) else G 12 j) N 9 := by
          rw [← lfN_cong hz 9 (by decide)]
          have e9 : smN (lfN (nI m) (upd (fun j => if j < 41 then nI 0 else C 20 j) s (nI 1000000000)) N) 10 = nI 1000000000 := by
            rw [lfN_sum, smN_upd (by omega)]
            have e8 : smN (fun j => if j < 41 then nI 0 else C 20 j) 10 = nI 0 := rfl
            rw [e8, if_pos (by omega)]; decide
          rw [smN] at e9; generalize smN (lfN (nI m) (upd (fun j => if j < 41 then nI 0 else C 20 j) s (nI 1000000000)) N) 9 = a at e9 ⊢; generalize lfN (nI m) (upd (fun j => if j < 41 then nI 0 else C 20 j) s (nI 1000000000)) N 9 = c at e9 ⊢; rw [← e9]; grind
        refine ⟨smN (lfN (nI m) (upd (fun j => if j < 41 then nI 0 else C 20 j) s (nI 1000000000)) N) 9, rf_row C 20 (lfN (nI m) (upd (fun j => if j < 41 then nI 0 else C 20 j) s (nI 1000000000)) N), rf_row G 12 (lfN (nI m) (fun j => if j < 10 then (if j = s then nI 1000000000 else nI 0) else G 12 j) N), ?_, ?_, hp.trial (fun a _ h2 _ => row_o _ _ _ h2) ⟨kt, by rw [row_o _ _ _ (by decide)]; exact hkt, hkt3⟩ (fun a _ _ h3 => row_o _ _ _ h3) (fun j _ => by rw [row_o _ _ _ (by decide)]) (fun j _ => by rw [row_o _ _ _ (by decide)])⟩
        · refine ev_iload_n dX6_life_0 rfl ?_
          refine ev_if_lt 32 dX6_life_1 (by decide) (fun hc1 => False.elim (c1 hc1)) (fun hc1 => ?_)
          refine ev_iload_n dX6_life_4 rfl ?_
          refine ev_bipush (v := (nI 9)) dX6_life_5 (by decide) ?_
          refine ev_icmp_gt 32 dX6_life_7 (by decide) (fun hc7 => False.elim ((fa_of_lt hc7).2.1 c2)) (fun hc7 => ?_)
          refine ev_iload_n dX6_life_10 rfl ?_
          refine ev_iconst (v := (nI 1)) dX6_life_11 (by decide) ?_
          refine ev_icmp_lt 32 dX6_life_12 (by decide) (fun hc12 => False.elim (c3 hc12)) (fun hc12 => ?_)
          refine ev_iload_n dX6_life_15 rfl ?_
          refine ev_bipush (v := (nI 99)) dX6_life_16 (by decide) ?_
          refine ev_icmp_gt 32 dX6_life_18 (by decide) (fun hc18 => False.elim ((fa_of_lt hc18).2.1 c4)) (fun hc18 => ?_)
          refine ev_iload_n dX6_life_21 rfl ?_
          refine ev_if_lt 32 dX6_life_22 (by decide) (fun hc22 => False.elim (c5 hc22)) (fun hc22 => ?_)
          refine ev_iload_n dX6_life_25 rfl ?_
          refine ev_sipush (v := (nI 200)) dX6_life_26 (by decide) ?_
          refine ev_icmp_le 35 dX6_life_29 (by decide) (fun hc29 => ?_) (fun hc29 => False.elim (hc29 c6))
          refine ev_aload_n dX6_life_35 rfl ?_
          refine ev_getR dX6_life_36 fX6_67 (by first | assumption | rfl) (by rfl) ?_
          refine ev_iconst (v := (nI 0)) dX6_life_39 (by decide) ?_
          refine ev_cS2v dX6_life_40 ceJ7_fill_53178 kX6_286 (rm_le rfl rfl) (Nat.le_of_ble_eq_true rfl) (Nat.le_of_ble_eq_true rfl) (e_fill (a := 20) (N := 41) rfl (by decide)) ?_
          refine ev_aload_n dX6_life_43 rfl ?_
          refine ev_getR dX6_life_44 fX6_67 (by first | assumption | rfl) (by rfl) ?_
          refine ev_iload_n dX6_life_47 rfl ?_
          refine ev_ldcw (v := (nI 1000000000)) dX6_life_48 nX6_292 ?_
          refine ev_iastE (s) dX6_life_51 (rfl) (by first | assumption | rfl) ⟨by omega, by decide⟩ ?_
          refine ev_iconst (v := (nI 0)) dX6_life_52 (by decide) ?_
          refine ev_istore dX6_life_53 (by decide) rfl ?_
          exact ev_stw (life_C hm0 hN) ⟨rfl, rfl, rfl, rfl, rfl, trivial⟩ rfl (by unfold fillM; rw [row_set])
        · rw [hv]
          have key := ev_for (Lay := LayM) (y := mX7_life) (pc := 42) (r := some (.int (nI 1000000000 - lfN (nI m) (fun j => if j < 10 then (if j = s then nI 1000000000 else nI 0) else G 12 j) N 9))) (M' := rf_row G 12 (lfN (nI m) (fun j => if j < 10 then (if j = s then nI 1000000000 else nI 0) else G 12 j) N)) 10 (fun i => [some (.ref 0), some (.int (nI s)), some (.int (nI m)), some (.int (nI N)), some (.int (nI i)), none, none]) (fun i => rf_row G 12 (fun j => if j < i then (if j = s then nI 1000000000 else nI 0) else G 12 j)) ?hx ?hs
          case hx =>
            refine ev_iload dX7_life_42 rfl ?_
            refine ev_bipush (v := (nI 9)) dX7_life_44 (by decide) ?_
            refine ev_icmp_gt 74 dX7_life_46 (by decide) (fun hc46 => ?_) (fun hc46 => False.elim (hc46 (by decide)))
            refine ev_iconst (v := (nI 0)) dX7_life_74 (by decide) ?_
            refine ev_istore dX7_life_75 (by decide) rfl ?_
            exact ev_st (life_G hm0 hN) rfl rfl rfl
          case hs =>
            intro i hi ih
            refine ev_iload dX7_life_42 rfl ?_
            refine ev_bipush (v := (nI 9)) dX7_life_44 (by decide) ?_
            refine ev_icmp_gt 74 dX7_life_46 (by decide) (fun hc46 => False.elim (nI_ge hi (by decide) (by have := (nI_ltI (by decide) (by omega)).mp hc46; omega))) (fun hc46 => ?_)
            refine ev_aload_n dX7_life_49 rfl ?_
            refine ev_getR dX7_life_50 fX7_51 (by first | assumption | rfl) (by rfl) ?_
            refine ev_iload dX7_life_53 rfl ?_
            refine ev_iload dX7_life_55 rfl ?_
            refine ev_iload_n dX7_life_57 rfl ?_
            refine ev_icmp_ne 66 dX7_life_58 (by decide) (fun hc58 => ?_) (fun hc58 => ?_)
            · have hz1 : ¬ i = s := fun z => hc58 (by rw [z])
              refine ev_iconst (v := (nI 0)) dX7_life_66 (by decide) ?_
              refine ev_iastE _ dX7_life_67 (by first | with_reducible rfl | with_reducible exact nI_add _ _ | with_reducible exact ix3 _ _ _ | with_reducible exact ix_k _ _ _ | with_reducible exact ix_xk _ _ _ _) (by first | assumption | rfl) ⟨by omega, by decide⟩ ?_
              refine ev_iinc (v := (nI 1)) dX7_life_68 rfl (by decide) (by decide) rfl ?_
              refine ev_goto 42 dX7_life_71 (by decide) ?_
              exact ev_stw ih (by simp [rf_sub, nI_add]) rfl (by first | exact ini_p hz1 | exact ini_n hz1)
            · have hz1 : i = s := (nI_eq (by omega) (by omega)).mp hc58
              refine ev_ldc (v := (nI 1000000000)) dX7_life_61 nX7_250 ?_
              refine ev_goto 67 dX7_life_63 (by decide) ?_
              refine ev_iastE _ dX7_life_67 (by first | with_reducible rfl | with_reducible exact nI_add _ _ | with_reducible exact ix3 _ _ _ | with_reducible exact ix_k _ _ _ | with_reducible exact ix_xk _ _ _ _) (by first | assumption | rfl) ⟨by omega, by decide⟩ ?_
              refine ev_iinc (v := (nI 1)) dX7_life_68 rfl (by decide) (by decide) rfl ?_
              refine ev_goto 42 dX7_life_71 (by decide) ?_
              exact ev_stw ih (by simp [rf_sub, nI_add]) rfl (by first | exact ini_p hz1 | exact ini_n hz1)
          refine ev_iload_n dX7_life_0 rfl ?_
          refine ev_i2l dX7_life_1 ?_
          refine ev_lconst (v := 0) dX7_life_2 rfl ?_
          refine ev_ldc2 dX7_life_3 nX7_248 ?_
          refine ev_cS3 dX7_life_6 ceX7_in kX7_59 (rm_le rfl rfl) (Nat.le_of_ble_eq_true rfl) (Nat.le_of_ble_eq_true rfl) (e7_in) ?_
          rw [in_c _ 0 (nI 9) (by decide) (by decide), k1]
          refine ev_if_eq 36 dX7_life_9 (by decide) (fun hc9 => False.elim (absurd hc9 (by decide))) (fun hc9 => ?_)
          refine ev_iload_n dX7_life_12 rfl ?_
          refine ev_i2l dX7_life_13 ?_
          refine ev_lconst (v := 1) dX7_life_14 rfl ?_
          refine ev_ldc2 dX7_life_15 nX7_218 ?_
          refine ev_cS3 dX7_life_18 ceX7_in kX7_59 (rm_le rfl rfl) (Nat.le_of_ble_eq_true rfl) (Nat.le_of_ble_eq_true rfl) (e7_in) ?_
          rw [in_c _ (nI 1) (nI 99) (by decide) (by decide), k2]
          refine ev_if_eq 36 dX7_life_21 (by decide) (fun hc21 => False.elim (absurd hc21 (by decide))) (fun hc21 => ?_)
          refine ev_iload_n dX7_life_24 rfl ?_
          refine ev_i2l dX7_life_25 ?_
          refine ev_lconst (v := 0) dX7_life_26 rfl ?_
          refine ev_ldc2 dX7_life_27 nX7_206 ?_
          refine ev_cS3 dX7_life_30 ceX7_in kX7_59 (rm_le rfl rfl) (Nat.le_of_ble_eq_true rfl) (Nat.le_of_ble_eq_true rfl) (e7_in) ?_
          rw [in_c _ 0 (nI 200) (by decide) (by decide), k3]
          refine ev_if_ne 39 dX7_life_33 (by decide) (fun hc33 => ?_) (fun hc33 => False.elim (absurd hc33 (by decide)))
          refine ev_iconst (v := (nI 0)) dX7_life_39 (by decide) ?_
          refine ev_istore dX7_life_40 (by decide) rfl ?_
          exact ev_st (key 0 (Nat.zero_le _)) rfl rfl (by simp [row_id])
      · refine ⟨(-1000000002), C, G, ?_, ?_, hR0⟩
        · refine ev_iload_n dX6_life_0 rfl ?_
          refine ev_if_lt 32 dX6_life_1 (by decide) (fun hc1 => False.elim (c1 hc1)) (fun hc1 => ?_)
          refine ev_iload_n dX6_life_4 rfl ?_
          refine ev_bipush (v := (nI 9)) dX6_life_5 (by decide) ?_
          refine ev_icmp_gt 32 dX6_life_7 (by decide) (fun hc7 => False.elim ((fa_of_lt hc7).2.1 c2)) (fun hc7 => ?_)
          refine ev_iload_n dX6_life_10 rfl ?_
          refine ev_iconst (v := (nI 1)) dX6_life_11 (by decide) ?_
          refine ev_icmp_lt 32 dX6_life_12 (by decide) (fun hc12 => False.elim (c3 hc12)) (fun hc12 => ?_)
          refine ev_iload_n dX6_life_15 rfl ?_
          refine ev_bipush (v := (nI 99)) dX6_life_16 (by decide) ?_
          refine ev_icmp_gt 32 dX6_life_18 (by decide) (fun hc18 => False.elim ((fa_of_lt hc18).2.1 c4)) (fun hc18 => ?_)
          refine ev_iload_n dX6_life_21 rfl ?_
          refine ev_if_lt 32 dX6_life_22 (by decide) (fun hc22 => ?_) (fun hc22 => False.elim (hc22 c5))
          refine ev_ldc (v := (-1000000002)) dX6_life_32 nX6_70 ?_
          exact ev_iretE dX6_life_34 rfl rfl (by first | rfl | simp_all) (rfl)
        · refine ev_iload_n dX7_life_0 rfl ?_
          refine ev_i2l dX7_life_1 ?_
          refine ev_lconst (v := 0) dX7_life_2 rfl ?_
          refine ev_ldc2 dX7_life_3 nX7_248 ?_
          refine ev_cS3 dX7_life_6 ceX7_in kX7_59 (rm_le rfl rfl) (Nat.le_of_ble_eq_true rfl) (Nat.le_of_ble_eq_true rfl) (e7_in) ?_
          rw [in_c _ 0 (nI 9) (by decide) (by decide), k1]
          refine ev_if_eq 36 dX7_life_9 (by decide) (fun hc9 => False.elim (absurd hc9 (by decide))) (fun hc9 => ?_)
          refine ev_iload_n dX7_life_12 rfl ?_
          refine ev_i2l dX7_life_13 ?_
          refine ev_lconst (v := 1) dX7_life_14 rfl ?_
          refine ev_ldc2 dX7_life_15 nX7_218 ?_
          refine ev_cS3 dX7_life_18 ceX7_in kX7_59 (rm_le rfl rfl) (Nat.le_of_ble_eq_true rfl) (Nat.le_of_ble_eq_true rfl) (e7_in) ?_
          rw [in_c _ (nI 1) (nI 99) (by decide) (by decide), k2]
          refine ev_if_eq 36 dX7_life_21 (by decide) (fun hc21 => False.elim (absurd hc21 (by decide))) (fun hc21 => ?_)
          refine ev_iload_n dX7_life_24 rfl ?_
          refine ev_i2l dX7_life_25 ?_
          refine ev_lconst (v := 0) dX7_life_26 rfl ?_
          refine ev_ldc2 dX7_life_27 nX7_206 ?_
          refine ev_cS3 dX7_life_30 ceX7_in kX7_59 (rm_le rfl rfl) (Nat.le_of_ble_eq_true rfl) (Nat.le_of_ble_eq_true rfl) (e7_in) ?_
          rw [in_c _ 0 (nI 200) (by decide) (by decide), k3]
          refine ev_if_ne 39 dX7_life_33 (by decide) (fun hc33 => False.elim (absurd hc33 (by decide))) (fun hc33 => ?_)
          refine ev_ldc (v := (-1000000002)) dX7_life_36 nX7_63 ?_
          exact ev_iretE dX7_life_38 rfl rfl (by first | rfl | simp_all) (rfl)
      · refine ⟨(-1000000002), C, G, ?_, ?_, hR0⟩
        · refine ev_iload_n dX6_life_0 rfl ?_
          refine ev_if_lt 32 dX6_life_1 (by decide) (fun hc1 => False.elim (c1 hc1)) (fun hc1 => ?_)
          refine ev_iload_n dX6_life_4 rfl ?_
          refine ev_bipush (v := (nI 9)) dX6_life_5 (by decide) ?_
          refine ev_icmp_gt 32 dX6_life_7 (by decide) (fun hc7 => False.elim ((fa_of_lt hc7).2.1 c2)) (fun hc7 => ?_)
          refine ev_iload_n dX6_life_10 rfl ?_
          refine ev_iconst (v := (nI 1)) dX6_life_11 (by decide) ?_
          refine ev_icmp_lt 32 dX6_life_12 (by decide) (fun hc12 => False.elim (c3 hc12)) (fun hc12 => ?_)
          refine ev_iload_n dX6_life_15 rfl ?_
          refine ev_bipush (v := (nI 99)) dX6_life_16 (by decide) ?_
          refine ev_icmp_gt 32 dX6_life_18 (by decide) (fun hc18 => False.elim ((fa_of_lt hc18).2.1 c4)) (fun hc18 => ?_)
          refine ev_iload_n dX6_life_21 rfl ?_
          refine ev_if_lt 32 dX6_life_22 (by decide) (fun hc22 => False.elim (c5 hc22)) (fun hc22 => ?_)
          refine ev_iload_n dX6_life_25 rfl ?_
          refine ev_sipush (v := (nI 200)) dX6_life_26 (by decide) ?_
          refine ev_icmp_le 35 dX6_life_29 (by decide) (fun hc29 => False.elim (c6 hc29)) (fun hc29 => ?_)
          refine ev_ldc (v := (-1000000002)) dX6_life_32 nX6_70 ?_
          exact ev_iretE dX6_life_34 rfl rfl (by first | rfl | simp_all) (rfl)
        · refine ev_iload_n dX7_life_0 rfl ?_
          refine ev_i2l dX7_life_1 ?_
          refine ev_lconst (v := 0) dX7_life_2 rfl ?_
          refine ev_ldc2 dX7_life_3 nX7_248 ?_
          refine ev_cS3 dX7_life_6 ceX7_in kX7_59 (rm_le rfl rfl) (Nat.le_of_ble_eq_true rfl) (Nat.le_of_ble_eq_true rfl) (e7_in) ?_
          rw [in_c _ 0 (nI 9) (by decide) (by decide), k1]
          refine ev_if_eq 36 dX7_life_9 (by decide) (fun hc9 => False.elim (absurd hc9 (by decide))) (fun hc9 => ?_)
          refine ev_iload_n dX7_life_12 rfl ?_
          refine ev_i2l dX7_life_13 ?_
          refine ev_lconst (v := 1) dX7_life_14 rfl ?_
          refine ev_ldc2 dX7_life_15 nX7_218 ?_
          refine ev_cS3 dX7_life_18 ceX7_in kX7_59 (rm_le rfl rfl) (Nat.le_of_ble_eq_true rfl) (Nat.le_of_ble_eq_true rfl) (e7_in) ?_
          rw [in_c _ (nI 1) (nI 99) (by decide) (by decide), k2]
          refine ev_if_eq 36 dX7_life_21 (by decide) (fun hc21 => False.elim (absurd hc21 (by decide))) (fun hc21 => ?_)
          refine ev_iload_n dX7_life_24 rfl ?_
          refine ev_i2l dX7_life_25 ?_
          refine ev_lconst (v := 0) dX7_life_26 rfl ?_
          refine ev_ldc2 dX7_life_27 nX7_206 ?_
          refine ev_cS3 dX7_life_30 ceX7_in kX7_59 (rm_le rfl rfl) (Nat.le_of_ble_eq_true rfl) (Nat.le_of_ble_eq_true rfl) (e7_in) ?_
          rw [in_c _ 0 (nI 200) (by decide) (by decide), k3]
          refine ev_if_ne 39 dX7_life_33 (by decide) (fun hc33 => False.elim (absurd hc33 (by decide))) (fun hc33 => ?_)
          refine ev_ldc (v := (-1000000002)) dX7_life_36 nX7_63 ?_
          exact ev_iretE dX7_life_38 rfl rfl (by first | rfl | simp_all) (rfl)
    · refine ⟨(-1000000002), C, G, ?_, ?_, hR0⟩
      · refine ev_iload_n dX6_life_0 rfl ?_
        refine ev_if_lt 32 dX6_life_1 (by decide) (fun hc1 => False.elim (c1 hc1)) (fun hc1 => ?_)
        refine ev_iload_n dX6_life_4 rfl ?_
        refine ev_bipush (v := (nI 9)) dX6_life_5 (by decide) ?_
        refine ev_icmp_gt 32 dX6_life_7 (by decide) (fun hc7 => False.elim ((fa_of_lt hc7).2.1 c2)) (fun hc7 => ?_)
        refine ev_iload_n dX6_life_10 rfl ?_
        refine ev_iconst (v := (nI 1)) dX6_life_11 (by decide) ?_
        refine ev_icmp_lt 32 dX6_life_12 (by decide) (fun hc12 => ?_) (fun hc12 => False.elim (hc12 c3))
        refine ev_ldc (v := (-1000000002)) dX6_life_32 nX6_70 ?_
        exact ev_iretE dX6_life_34 rfl rfl (by first | rfl | simp_all) (rfl)
      · refine ev_iload_n dX7_life_0 rfl ?_
        refine ev_i2l dX7_life_1 ?_
        refine ev_lconst (v := 0) dX7_life_2 rfl ?_
        refine ev_ldc2 dX7_life_3 nX7_248 ?_
        refine ev_cS3 dX7_life_6 ceX7_in kX7_59 (rm_le rfl rfl) (Nat.le_of_ble_eq_true rfl) (Nat.le_of_ble_eq_true rfl) (e7_in) ?_
        rw [in_c _ 0 (nI 9) (by decide) (by decide), k1]
        refine ev_if_eq 36 dX7_life_9 (by decide) (fun hc9 => False.elim (absurd hc9 (by decide))) (fun hc9 => ?_)
        refine ev_iload_n dX7_life_12 rfl ?_
        refine ev_i2l dX7_life_13 ?_
        refine ev_lconst (v := 1) dX7_life_14 rfl ?_
        refine ev_ldc2 dX7_life_15 nX7_218 ?_
        refine ev_cS3 dX7_life_18 ceX7_in kX7_59 (rm_le rfl rfl) (Nat.le_of_ble_eq_true rfl) (Nat.le_of_ble_eq_true rfl) (e7_in) ?_
        rw [in_c _ (nI 1) (nI 99) (by decide) (by decide), k2]
        refine ev_if_eq 36 dX7_life_21 (by decide) (fun hc21 => ?_) (fun hc21 => False.elim (absurd hc21 (by decide)))
        refine ev_ldc (v := (-1000000002)) dX7_life_36 nX7_63 ?_
        exact ev_iretE dX7_life_38 rfl rfl (by first | rfl | simp_all) (rfl)
    · have c9 : nI 99 < m0 := fa_of_nle c4
      refine ⟨(-1000000002), C, G, ?_, ?_, hR0⟩
      · refine ev_iload_n dX6_life_0 rfl ?_
        refine ev_if_lt 32 dX6_life_1 (by decide) (fun hc1 => False.elim (c1 hc1)) (fun hc1 => ?_)
        refine ev_iload_n dX6_life_4 rfl ?_
        refine ev_bipush (v := (nI 9)) dX6_life_5 (by decide) ?_
        refine ev_icmp_gt 32 dX6_life_7 (by decide) (fun hc7 => False.elim ((fa_of_lt hc7).2.1 c2)) (fun hc7 => ?_)
        refine ev_iload_n dX6_life_10 rfl ?_
        refine ev_iconst (v := (nI 1)) dX6_life_11 (by decide) ?_
        refine ev_icmp_lt 32 dX6_life_12 (by decide) (fun hc12 => False.elim (c3 hc12)) (fun hc12 => ?_)
        refine ev_iload_n dX6_life_15 rfl ?_
        refine ev_bipush (v := (nI 99)) dX6_life_16 (by decide) ?_
        refine ev_icmp_gt 32 dX6_life_18 (by decide) (fun hc18 => ?_) (fun hc18 => False.elim (hc18 c9))
        refine ev_ldc (v := (-1000000002)) dX6_life_32 nX6_70 ?_
        exact ev_iretE dX6_life_34 rfl rfl (by first | rfl | simp_all) (rfl)
      · refine ev_iload_n dX7_life_0 rfl ?_
        refine ev_i2l dX7_life_1 ?_
        refine ev_lconst (v := 0) dX7_life_2 rfl ?_
        refine ev_ldc2 dX7_life_3 nX7_248 ?_
        refine ev_cS3 dX7_life_6 ceX7_in kX7_59 (rm_le rfl rfl) (Nat.le_of_ble_eq_true rfl) (Nat.le_of_ble_eq_true rfl) (e7_in) ?_
        rw [in_c _ 0 (nI 9) (by decide) (by decide), k1]
        refine ev_if_eq 36 dX7_life_9 (by decide) (fun hc9 => False.elim (absurd hc9 (by decide))) (fun hc9 => ?_)
        refine ev_iload_n dX7_life_12 rfl ?_
        refine ev_i2l dX7_life_13 ?_
        refine ev_lconst (v := 1) dX7_life_14 rfl ?_
        refine ev_ldc2 dX7_life_15 nX7_218 ?_
        refine ev_cS3 dX7_life_18 ceX7_in kX7_59 (rm_le rfl rfl) (Nat.le_of_ble_eq_true rfl) (Nat.le_of_ble_eq_true rfl) (e7_in) ?_
        rw [in_c _ (nI 1) (nI 99) (by decide) (by decide), k2]
        refine ev_if_eq 36 dX7_life_21 (by decide) (fun hc21 => ?_) (fun hc21 => False.elim (absurd hc21 (by decide)))
        refine ev_ldc (v := (-1000000002)) dX7_life_36 nX7_63 ?_
        exact ev_iretE dX7_life_38 rfl rfl (by first | rfl | simp_all) (rfl)
  · refine ⟨(-1000000002), C, G, ?_, ?_, hR0⟩
    · refine ev_iload_n dX6_life_0 rfl ?_
      refine ev_if_lt 32 dX6_life_1 (by decide) (fun hc1 => ?_) (fun hc1 => False.elim (hc1 c1))
      refine ev_ldc (v := (-1000000002)) dX6_life_32 nX6_70 ?_
      exact ev_iretE dX6_life_34 rfl rfl (by first | rfl | simp_all) (rfl)
    · refine ev_iload_n dX7_life_0 rfl ?_
      refine ev_i2l dX7_life_1 ?_
      refine ev_lconst (v := 0) dX7_life_2 rfl ?_
      refine ev_ldc2 dX7_life_3 nX7_248 ?_
      refine ev_cS3 dX7_life_6 ceX7_in kX7_59 (rm_le rfl rfl) (Nat.le_of_ble_eq_true rfl) (Nat.le_of_ble_eq_true rfl) (e7_in) ?_
      rw [in_c _ 0 (nI 9) (by decide) (by decide), k1]
      refine ev_if_eq 36 dX7_life_9 (by decide) (fun hc9 => ?_) (fun hc9 => False.elim (absurd hc9 (by decide)))
      refine ev_ldc (v := (-1000000002)) dX7_life_36 nX7_63 ?_
      exact ev_iretE dX7_life_38 rfl rfl (by first | rfl | simp_all) (rfl)
  · have c9 : nI 9 < s0 := fa_of_nle c2
    refine ⟨(-1000000002), C, G, ?_, ?_, hR0⟩
    · refine ev_iload_n dX6_life_0 rfl ?_
      refine ev_if_lt 32 dX6_life_1 (by decide) (fun hc1 => False.elim (c1 hc1)) (fun hc1 => ?_)
      refine ev_iload_n dX6_life_4 rfl ?_
      refine ev_bipush (v := (nI 9)) dX6_life_5 (by decide) ?_
      refine ev_icmp_gt 32 dX6_life_7 (by decide) (fun hc7 => ?_) (fun hc7 => False.elim (hc7 c9))
      refine ev_ldc (v := (-1000000002)) dX6_life_32 nX6_70 ?_
      exact ev_iretE dX6_life_34 rfl rfl (by first | rfl | simp_all) (rfl)
    · refine ev_iload_n dX7_life_0 rfl ?_
      refine ev_i2l dX7_life_1 ?_
      refine ev_lconst (v := 0) dX7_life_2 rfl ?_
      refine ev_ldc2 dX7_life_3 nX7_248 ?_
      refine ev_cS3 dX7_life_6 ceX7_in kX7_59 (rm_le rfl rfl) (Nat.le_of_ble_eq_true rfl) (Nat.le_of_ble_eq_true rfl) (e7_in) ?_
      rw [in_c _ 0 (nI 9) (by decide) (by decide), k1]
      refine ev_if_eq 36 dX7_life_9 (by decide) (fun hc9 => ?_) (fun hc9 => False.elim (absurd hc9 (by decide)))
      refine ev_ldc (v := (-1000000002)) dX7_life_36 nX7_63 ?_
      exact ev_iretE dX7_life_38 rfl rfl (by first | rfl | simp_all) (rfl)
def rtS (e : Int32) (f : Nat → Int32) (k : Nat) : Nat → Int32 := upd (upd f (k + 1) (f (k + 1) + (f k - f k * e / nI 100))) k (f k * e / nI 100)
def rtI (e : Int32) (f : Nat → Int32) (c : Nat) : Nat → Nat → Int32
  | 0 => f
  | i + 1 => rtS e (rtI e f c i) (c - i)
def rtN (e : Int32) (f : Nat → Int32) : Nat → Nat → Int32
  | 0 => f
  | d + 1 => rtI e (rtN e f d) d (d + 1)
theorem rtS_cong {m : Int32} {f g : Nat → Int32} {k : Nat} (h : ∀ j, j < 41 → f j = g j) (hk : k < 40) : ∀ j, j < 41 → rtS m f k j = rtS m g k j := by
  intro j hj
  unfold rtS upd
  rw [h j hj, h k (by omega), h (k + 1) (by omega)]
theorem rtI_cong {m : Int32} {f g : Nat → Int32} {c : Nat} (hc : c < 40) (h : ∀ j, j < 41 → f j = g j) : ∀ {i : Nat}, ∀ j, j < 41 → rtI m f c i j = rtI m g c i j
  | 0 => h
  | i + 1 => rtS_cong (rtI_cong hc h) (by omega)
theorem rtN_cong {m : Int32} {f g : Nat → Int32} (h : ∀ j, j < 41 → f j = g j) : ∀ {d : Nat}, d ≤ 40 → ∀ j, j < 41 → rtN m f d j = rtN m g d j
  | 0, _ => h
  | d + 1, hd => rtI_cong (by omega) (rtN_cong h (by omega))
/-- the sum from c / 2 + 1 on -/
def tlN (f : Nat → Int32) (a : Nat) : Nat → Int32
  | 0 => nI 0
  | j + 1 => tlN f a j + f (a + j)
theorem sm_tl {f : Nat → Int32} {c a : Nat} (ha : ∀ j, 2 * j > c ↔ a ≤ j) : ∀ k, smN (fun j => if 2 * j > c then f j else nI 0) (a + k) = tlN f a k
  | 0 => by
    have e : ∀ k, k ≤ a → smN (fun j => if 2 * j > c then f j else nI 0) k = nI 0 := by
      intro k
      induction k with
      | zero => intro _; rfl
      | succ k ih => intro hk; rw [smN, ih (by omega), if_neg (fun z => by have := (ha k).mp z; omega)]; rfl
    exact e _ (Nat.le_refl _)
  | k + 1 => by
    rw [← Nat.add_assoc, smN, sm_tl ha k, if_pos ((ha _).mpr (by omega)), tlN]
set_option maxRecDepth 20000 in
set_option maxHeartbeats 2000000 in
theorem right_inC {C : rf_Mem} {f : Nat → Int32} {c d : Nat} {e : Int32} (hd : d < 40) (he : C 8 6 = e) : ∀ r M', Ev LayC mX6_right 97 [some (.ref 0), some (.int (nI c)), some (.int (nI d)), none, none] [] (rf_row C 20 (rtI e f d (d + 1))) r M' → Ev LayC mX6_right 40 [some (.ref 0), some (.int (nI c)), some (.int (nI d)), some (.int (nI d)), none] [] (rf_row C 20 f) r M' := by
  intro r M' hE
  have key := ev_for (Lay := LayC) (y := mX6_right) (pc := 40) (r := r) (M' := M') (d + 1) (fun i => [some (.ref 0), some (.int (nI c)), some (.int (nI d)), some (.int (nI d - nI i)), none]) (fun i => rf_row C 20 (rtI e f d i)) ?hx ?hs
  case hx =>
    refine ev_iload_n dX6_right_40 rfl ?_
    refine ev_if_lt 97 dX6_right_41 (by decide) (fun hc41 => ?_) (fun hc41 => False.elim (hc41 (by rw [dn_x]; decide)))
    exact ev_stw hE ⟨rfl, rfl, rfl, trivial⟩ rfl rfl
  case hs =>
    intro i hi ih
    refine ev_iload_n dX6_right_40 rfl ?_
    refine ev_if_lt 97 dX6_right_41 (by decide) (fun hc41 => False.elim (by rw [pk_sub (by omega)] at hc41; exact nI_pos (by omega) hc41)) (fun hc41 => ?_)
    refine ev_aload_n dX6_right_44 rfl ?_
    refine ev_getR dX6_right_45 fX6_67 (by first | assumption | rfl) (by rfl) ?_
    refine ev_iload_n dX6_right_48 rfl ?_
    refine ev_ialdE (d - i) dX6_right_49 (pk_sub (by omega)) (by first | assumption | rfl) ⟨by omega, by decide⟩ ?_
    refine ev_aload_n dX6_right_50 rfl ?_
    refine ev_getR dX6_right_51 fX6_23 (by first | assumption | rfl) (by rfl) ?_
    refine ev_getI dX6_right_54 fX6_116 (by first | assumption | rfl) (by rfl) ?_
    refine ev_imul dX6_right_57 ?_
    refine ev_bipush (v := (nI 100)) dX6_right_58 (by decide) ?_
    refine ev_idiv dX6_right_60 (by decide) ?_
    refine ev_istore dX6_right_61 (by decide) rfl ?_
    refine ev_aload_n dX6_right_63 rfl ?_
    refine ev_getR dX6_right_64 fX6_67 (by first | assumption | rfl) (by rfl) ?_
    refine ev_iload_n dX6_right_67 rfl ?_
    refine ev_iconst (v := (nI 1)) dX6_right_68 (by decide) ?_
    refine ev_iadd dX6_right_69 ?_
    refine ev_dup2 dX6_right_70 rfl rfl ?_
    refine ev_ialdE (d - i + 1) dX6_right_71 (by rw [pk_sub (by omega), nI_add]) (by first | assumption | rfl) ⟨by omega, by decide⟩ ?_
    refine ev_aload_n dX6_right_72 rfl ?_
    refine ev_getR dX6_right_73 fX6_67 (by first | assumption | rfl) (by rfl) ?_
    refine ev_iload_n dX6_right_76 rfl ?_
    refine ev_ialdE (d - i) dX6_right_77 (pk_sub (by omega)) (by first | assumption | rfl) ⟨by omega, by decide⟩ ?_
    refine ev_iload dX6_right_78 rfl ?_
    refine ev_isub dX6_right_80 ?_
    refine ev_iadd dX6_right_81 ?_
    refine ev_iastE (d - i + 1) dX6_right_82 (by rw [pk_sub (by omega), nI_add]) (by first | assumption | rfl) ⟨by omega, by decide⟩ ?_
    refine ev_aload_n dX6_right_83 rfl ?_
    refine ev_getR dX6_right_84 fX6_67 (by first | assumption | rfl) (by rfl) ?_
    refine ev_iload_n dX6_right_87 rfl ?_
    refine ev_iload dX6_right_88 rfl ?_
    refine ev_iastE (d - i) dX6_right_90 (pk_sub (by omega)) (by first | assumption | rfl) ⟨by omega, by decide⟩ ?_
    refine ev_iinc (v := (-1)) dX6_right_91 rfl (by decide) (by decide) rfl ?_
    refine ev_goto 40 dX6_right_94 (by decide) ?_
    exact ev_stw ih (by simp [rf_sub, dn_s]) rfl (by simp only [row_set, row_at]; rw [row_o _ _ _ (by decide), he]; rfl)
  exact ev_stw (key 0 (Nat.zero_le _)) (by simp [rf_sub, nI_0]) rfl rfl
set_option maxRecDepth 20000 in
set_option maxHeartbeats 2000000 in
theorem right_inG {G : rf_Mem} {f : Nat → Int32} {c d : Nat} {e : Int32} (hd : d < 40) (he : G 0 7 = e) : ∀ r M', Ev LayM mX7_right 108 [some (.ref 0), some (.int (nI c)), some (.int (nI d)), none, none] [] (rf_row G 12 (rtI e f d (d + 1))) r M' → Ev LayM mX7_right 54 [some (.ref 0), some (.int (nI c)), some (.int (nI d)), some (.int (nI d)), none] [] (rf_row G 12 f) r M' := by
  intro r M' hE
  have key := ev_for (Lay := LayM) (y := mX7_right) (pc := 54) (r := r) (M' := M') (d + 1) (fun i => [some (.ref 0), some (.int (nI c)), some (.int (nI d)), some (.int (nI d - nI i)), none]) (fun i => rf_row G 12 (rtI e f d i)) ?hx ?hs
  case hx =>
    refine ev_iload_n dX7_right_54 rfl ?_
    refine ev_if_lt 108 dX7_right_55 (by decide) (fun hc55 => ?_) (fun hc55 => False.elim (hc55 (by rw [dn_x]; decide)))
    exact ev_stw hE ⟨rfl, rfl, rfl, trivial⟩ rfl rfl
  case hs =>
    intro i hi ih
    refine ev_iload_n dX7_right_54 rfl ?_
    refine ev_if_lt 108 dX7_right_55 (by decide) (fun hc55 => False.elim (by rw [pk_sub (by omega)] at hc55; exact nI_pos (by omega) hc55)) (fun hc55 => ?_)
    refine ev_aload_n dX7_right_58 rfl ?_
    refine ev_getR dX7_right_59 fX7_51 (by first | assumption | rfl) (by rfl) ?_
    refine ev_iload_n dX7_right_62 rfl ?_
    refine ev_ialdE (d - i) dX7_right_63 (pk_sub (by omega)) (by first | assumption | rfl) ⟨by omega, by decide⟩ ?_
    refine ev_aload_n dX7_right_64 rfl ?_
    refine ev_getI dX7_right_65 fX7_32 (by first | assumption | rfl) (by rfl) ?_
    refine ev_imul dX7_right_68 ?_
    refine ev_bipush (v := (nI 100)) dX7_right_69 (by decide) ?_
    refine ev_idiv dX7_right_71 (by decide) ?_
    refine ev_istore dX7_right_72 (by decide) rfl ?_
    refine ev_aload_n dX7_right_74 rfl ?_
    refine ev_getR dX7_right_75 fX7_51 (by first | assumption | rfl) (by rfl) ?_
    refine ev_iload_n dX7_right_78 rfl ?_
    refine ev_iconst (v := (nI 1)) dX7_right_79 (by decide) ?_
    refine ev_iadd dX7_right_80 ?_
    refine ev_dup2 dX7_right_81 rfl rfl ?_
    refine ev_ialdE (d - i + 1) dX7_right_82 (by rw [pk_sub (by omega), nI_add]) (by first | assumption | rfl) ⟨by omega, by decide⟩ ?_
    refine ev_aload_n dX7_right_83 rfl ?_
    refine ev_getR dX7_right_84 fX7_51 (by first | assumption | rfl) (by rfl) ?_
    refine ev_iload_n dX7_right_87 rfl ?_
    refine ev_ialdE (d - i) dX7_right_88 (pk_sub (by omega)) (by first | assumption | rfl) ⟨by omega, by decide⟩ ?_
    refine ev_iload dX7_right_89 rfl ?_
    refine ev_isub dX7_right_91 ?_
    refine ev_iadd dX7_right_92 ?_
    refine ev_iastE (d - i + 1) dX7_right_93 (by rw [pk_sub (by omega), nI_add]) (by first | assumption | rfl) ⟨by omega, by decide⟩ ?_
    refine ev_aload_n dX7_right_94 rfl ?_
    refine ev_getR dX7_right_95 fX7_51 (by first | assumption | rfl) (by rfl) ?_
    refine ev_iload_n dX7_right_98 rfl ?_
    refine ev_iload dX7_right_99 rfl ?_
    refine ev_iastE (d - i) dX7_right_101 (pk_sub (by omega)) (by first | assumption | rfl) ⟨by omega, by decide⟩ ?_
    refine ev_iinc (v := (-1)) dX7_right_102 rfl (by decide) (by decide) rfl ?_
    refine ev_goto 54 dX7_right_105 (by decide) ?_
    exact ev_stw ih (by simp [rf_sub, dn_s]) rfl (by simp only [row_set, row_at]; rw [row_o _ _ _ (by decide), he]; rfl)
  exact ev_stw (key 0 (Nat.zero_le _)) (by simp [rf_sub, nI_0]) rfl rfl
set_option maxRecDepth 20000 in
set_option maxHeartbeats 2000000 in
theorem right_C {C : rf_Mem} {f : Nat → Int32} {e : Int32} {c : Nat} (hc : c ≤ 40) (he : C 8 6 = e) : Ev LayC mX6_right 33 [some (.ref 0), some (.int (nI c)), some (.int (nI 0)), none, none] [] (rf_row C 20 f) (some (.int (tlN (rtN e f c) (c / 2 + 1) (c - c / 2)))) (rf_row C 20 (rtN e f c)) := by
  have key3 := ev_for (Lay := LayC) (y := mX6_right) (pc := 111) (r := some (.int (tlN (rtN e f c) (c / 2 + 1) (c - c / 2)))) (M' := rf_row C 20 (rtN e f c)) (c - c / 2) (fun i => [some (.ref 0), some (.int (nI c)), some (.int (tlN (rtN e f c) (c / 2 + 1) i)), some (.int (nI (c / 2 + 1 + i))), none]) (fun _ => rf_row C 20 (rtN e f c)) ?hx3 ?hs3
  case hx3 =>
    refine ev_iload_n dX6_right_111 rfl ?_
    refine ev_iload_n dX6_right_112 rfl ?_
    refine ev_icmp_gt 131 dX6_right_113 (by decide) (fun hc113 => ?_) (fun hc113 => False.elim (hc113 (nI_lt (by omega) (by omega))))
    refine ev_iload_n dX6_right_131 rfl ?_
    exact ev_iretE dX6_right_132 rfl rfl (by first | rfl | simp_all) (rfl)
  case hs3 =>
    intro i hi ih
    refine ev_iload_n dX6_right_111 rfl ?_
    refine ev_iload_n dX6_right_112 rfl ?_
    refine ev_icmp_gt 131 dX6_right_113 (by decide) (fun hc113 => False.elim (by have := (nI_ltI (by omega) (by omega)).mp hc113; omega)) (fun hc113 => ?_)
    refine ev_iload_n dX6_right_116 rfl ?_
    refine ev_aload_n dX6_right_117 rfl ?_
    refine ev_getR dX6_right_118 fX6_67 (by first | assumption | rfl) (by rfl) ?_
    refine ev_iload_n dX6_right_121 rfl ?_
    refine ev_ialdE _ dX6_right_122 (rfl) (by first | assumption | rfl) ⟨by omega, by decide⟩ ?_
    refine ev_iadd dX6_right_123 ?_
    refine ev_istore_k 2 dX6_right_124 rfl (by decide) rfl ?_
    refine ev_iinc (v := (nI 1)) dX6_right_125 rfl (by decide) (by decide) rfl ?_
    refine ev_goto 111 dX6_right_128 (by decide) ?_
    exact ev_st ih (by simp [nI_add, tlN, row_at, Nat.add_assoc]) rfl rfl
  have key := ev_for (Lay := LayC) (y := mX6_right) (pc := 33) (r := some (.int (tlN (rtN e f c) (c / 2 + 1) (c - c / 2)))) (M' := rf_row C 20 (rtN e f c)) c (fun d => [some (.ref 0), some (.int (nI c)), some (.int (nI d)), none, none]) (fun d => rf_row C 20 (rtN e f d)) ?hx ?hs
  case hx =>
    refine ev_iload_n dX6_right_33 rfl ?_
    refine ev_iload_n dX6_right_34 rfl ?_
    refine ev_icmp_ge 103 dX6_right_35 (by decide) (fun hc35 => ?_) (fun hc35 => False.elim (hc35 (nI_le (Nat.le_refl _) (by omega))))
    refine ev_iconst (v := (nI 0)) dX6_right_103 (by decide) ?_
    refine ev_istore_k 2 dX6_right_104 rfl (by decide) rfl ?_
    refine ev_iload_n dX6_right_105 rfl ?_
    refine ev_iconst (v := (nI 2)) dX6_right_106 (by decide) ?_
    refine ev_idiv dX6_right_107 (by decide) ?_
    refine ev_iconst (v := (nI 1)) dX6_right_108 (by decide) ?_
    refine ev_iadd dX6_right_109 ?_
    refine ev_istore_k 3 dX6_right_110 rfl (by decide) rfl ?_
    exact ev_stw (key3 0 (Nat.zero_le _)) (by simp [rf_sub, pk_div (show c < 2 ^ 31 by omega) (show 0 < 2 by decide) (by decide), nI_add, tlN]) rfl rfl
  case hs =>
    intro i hi ih
    refine ev_iload_n dX6_right_33 rfl ?_
    refine ev_iload_n dX6_right_34 rfl ?_
    refine ev_icmp_ge 103 dX6_right_35 (by decide) (fun hc35 => False.elim (nI_ge hi (by omega) hc35)) (fun hc35 => ?_)
    refine ev_iload_n dX6_right_38 rfl ?_
    refine ev_istore_k 3 dX6_right_39 rfl (by decide) rfl ?_
    refine ev_st (right_inC (C := C) (f := rtN e f i) (c := c) (by omega) he _ _ ?_) rfl rfl rfl
    refine ev_iinc (v := nI 1) dX6_right_97 rfl (by decide) (by decide) rfl ?_
    refine ev_goto 33 dX6_right_100 (by decide) ?_
    exact ev_st ih (by simp [nI_add]) rfl rfl
  exact key 0 (Nat.zero_le _)
set_option maxRecDepth 20000 in
set_option maxHeartbeats 2000000 in
theorem right_G {G : rf_Mem} {f : Nat → Int32} {e : Int32} {c : Nat} (hc : c ≤ 40) (he : G 0 7 = e) : Ev LayM mX7_right 47 [some (.ref 0), some (.int (nI c)), some (.int (nI 0)), none, none] [] (rf_row G 12 f) (some (.int (smN (fun j => if 2 * j > c then (rtN e f c) j else nI 0) (c + 1)))) (rf_row G 12 (rtN e f c)) := by
  have key3 := ev_for (Lay := LayM) (y := mX7_right) (pc := 118) (r := some (.int (smN (fun j => if 2 * j > c then (rtN e f c) j else nI 0) (c + 1)))) (M' := rf_row G 12 (rtN e f c)) (c + 1) (fun i => [some (.ref 0), some (.int (nI c)), some (.int (smN (fun j => if 2 * j > c then (rtN e f c) j else nI 0) (i))), some (.int (nI i)), none]) (fun _ => rf_row G 12 (rtN e f c)) ?hx3 ?hs3
  case hx3 =>
    refine ev_iload_n dX7_right_118 rfl ?_
    refine ev_iload_n dX7_right_119 rfl ?_
    refine ev_icmp_gt 149 dX7_right_120 (by decide) (fun hc120 => ?_) (fun hc120 => False.elim (hc120 (nI_lt (by omega) (by omega))))
    refine ev_iload_n dX7_right_149 rfl ?_
    exact ev_iretE dX7_right_150 rfl rfl (by first | rfl | simp_all) (rfl)
  case hs3 =>
    intro i hi ih
    have em : nI 2 * nI i = nI (2 * i) := pk_mul 2 i
    refine ev_iload_n dX7_right_118 rfl ?_
    refine ev_iload_n dX7_right_119 rfl ?_
    refine ev_icmp_gt 149 dX7_right_120 (by decide) (fun hc120 => False.elim (by have := (nI_ltI (by omega) (by omega)).mp hc120; omega)) (fun hc120 => ?_)
    refine ev_iload_n dX7_right_123 rfl ?_
    refine ev_iconst (v := (nI 2)) dX7_right_124 (by decide) ?_
    refine ev_iload_n dX7_right_125 rfl ?_
    refine ev_imul dX7_right_126 ?_
    refine ev_iload_n dX7_right_127 rfl ?_
    refine ev_icmp_le 140 dX7_right_128 (by decide) (fun hc128 => ?_) (fun hc128 => ?_)
    · have hz : ¬ 2 * i > c := fun z => nI_ge z (by omega) (by rw [← em]; exact hc128)
      refine ev_iconst (v := (nI 0)) dX7_right_140 (by decide) ?_
      refine ev_iadd dX7_right_141 ?_
      refine ev_istore_k 2 dX7_right_142 rfl (by decide) rfl ?_
      refine ev_iinc (v := (nI 1)) dX7_right_143 rfl (by decide) (by decide) rfl ?_
      refine ev_goto 118 dX7_right_146 (by decide) ?_
      exact ev_st ih (by simp [nI_add, smN, row_at, hz]) rfl rfl
    · have hz : 2 * i > c := Nat.lt_of_not_le (fun z => hc128 (by rw [em]; exact nI_le z (by omega)))
      refine ev_aload_n dX7_right_131 rfl ?_
      refine ev_getR dX7_right_132 fX7_51 (by first | assumption | rfl) (by rfl) ?_
      refine ev_iload_n dX7_right_135 rfl ?_
      refine ev_ialdE _ dX7_right_136 (by first | with_reducible rfl | with_reducible exact nI_add _ _ | with_reducible exact ix3 _ _ _ | with_reducible exact ix_k _ _ _ | with_reducible exact ix_xk _ _ _ _) (by first | assumption | rfl) ⟨by omega, by decide⟩ ?_
      refine ev_goto 141 dX7_right_137 (by decide) ?_
      refine ev_iadd dX7_right_141 ?_
      refine ev_istore_k 2 dX7_right_142 rfl (by decide) rfl ?_
      refine ev_iinc (v := (nI 1)) dX7_right_143 rfl (by decide) (by decide) rfl ?_
      refine ev_goto 118 dX7_right_146 (by decide) ?_
      exact ev_st ih (by simp [nI_add, smN, row_at, hz]) rfl rfl
  have key := ev_for (Lay := LayM) (y := mX7_right) (pc := 47) (r := some (.int (smN (fun j => if 2 * j > c then (rtN e f c) j else nI 0) (c + 1)))) (M' := rf_row G 12 (rtN e f c)) c (fun d => [some (.ref 0), some (.int (nI c)), some (.int (nI d)), none, none]) (fun d => rf_row G 12 (rtN e f d)) ?hx ?hs
  case hx =>
    refine ev_iload_n dX7_right_47 rfl ?_
    refine ev_iload_n dX7_right_48 rfl ?_
    refine ev_icmp_ge 114 dX7_right_49 (by decide) (fun hc49 => ?_) (fun hc49 => False.elim (hc49 (nI_le (Nat.le_refl _) (by omega))))
    refine ev_iconst (v := (nI 0)) dX7_right_114 (by decide) ?_
    refine ev_istore_k 2 dX7_right_115 rfl (by decide) rfl ?_
    refine ev_iconst (v := (nI 0)) dX7_right_116 (by decide) ?_
    refine ev_istore_k 3 dX7_right_117 rfl (by decide) rfl ?_
    exact ev_st (key3 0 (Nat.zero_le _)) rfl rfl rfl
  case hs =>
    intro i hi ih
    refine ev_iload_n dX7_right_47 rfl ?_
    refine ev_iload_n dX7_right_48 rfl ?_
    refine ev_icmp_ge 114 dX7_right_49 (by decide) (fun hc49 => False.elim (nI_ge hi (by omega) hc49)) (fun hc49 => ?_)
    refine ev_iload_n dX7_right_52 rfl ?_
    refine ev_istore_k 3 dX7_right_53 rfl (by decide) rfl ?_
    refine ev_st (right_inG (G := G) (f := rtN e f i) (c := c) (by omega) he _ _ ?_) rfl rfl rfl
    refine ev_iinc (v := nI 1) dX7_right_108 rfl (by decide) (by decide) rfl ?_
    refine ev_goto 47 dX7_right_111 (by decide) ?_
    exact ev_st ih (by simp [nI_add]) rfl rfl
  exact key 0 (Nat.zero_le _)
set_option maxRecDepth 20000 in
set_option maxHeartbeats 2000000 in
theorem op_right {c0 : Int32} : OpOk mX6_right mX7_right [.int c0] := by
  intro C G hR
  have hR0 := hR
  obtain ⟨nl, nr, tm, n, d, nq, tl, nd, b0, b1, kt, hp⟩ := hR
  obtain ⟨hS, hE, hQ, hT, hDr, hI, hkt, hkt3⟩ := id hp
  have hL := hS.1
  obtain ⟨l1, m1, l3, r1, m2, l6, le, lw, lr⟩ := id hL
  obtain ⟨hP, ⟨d1, d2, d3⟩, ⟨s1, s2⟩, hH⟩ := id hS.2.1
  obtain ⟨p1, p2, p3, p4, p5⟩ := id hP
  rw [Nat.zero_add] at p2 d2 s1
  obtain ⟨-, -, k, k', q1, q2, q3, q4, q5⟩ := id hS
  obtain ⟨ke, kl⟩ := q5 rfl
  subst ke
  obtain ⟨-, -, -, kl4⟩ := id kl
  rw [Nat.zero_add] at q3
  rcases rg1 c0 (m := 40) (by decide) with ⟨c, hc1, hc, e1, c1, c2, k1⟩ | ⟨k1, c1 | ⟨c1, c2⟩⟩
  · subst e1
    have hz : ∀ j, j < 41 → (fun j => if j < 42 then (if j = 0 then nI 1000000 else nI 0) else G 12 j) j = (upd (fun j => if j < 41 then nI 0 else C 20 j) 0 (nI 1000000)) j := fun j hj => by simp only [upd]; by_cases z : j = 0 <;> simp [z, hj] <;> omega
    have hv : smN (fun j => if 2 * j > c then rtN (C 8 6) (fun j => if j < 42 then (if j = 0 then nI 1000000 else nI 0) else G 12 j) c j else nI 0) (c + 1) = tlN (rtN (C 8 6) (upd (fun j => if j < 41 then nI 0 else C 20 j) 0 (nI 1000000)) c) (c / 2 + 1) (c - c / 2) := by
      rw [← sm_tl (c := c) (fun j => by omega)]
      have e9 : c / 2 + 1 + (c - c / 2) = c + 1 := by omega
      rw [e9]
      refine smN_cong (fun j hj => ?_)
      rw [rtN_cong hz hc j (by omega)]
    refine ⟨tlN (rtN (C 8 6) (upd (fun j => if j < 41 then nI 0 else C 20 j) 0 (nI 1000000)) c) (c / 2 + 1) (c - c / 2), rf_row C 20 (rtN (C 8 6) (upd (fun j => if j < 41 then nI 0 else C 20 j) 0 (nI 1000000)) c), rf_row G 12 (rtN (C 8 6) (fun j => if j < 42 then (if j = 0 then nI 1000000 else nI 0) else G 12 j) c), ?_, ?_, hp.trial (fun a _ h2 _ => row_o _ _ _ h2) ⟨kt, by rw [row_o _ _ _ (by decide)]; exact hkt, hkt3⟩ (fun a _ _ h3 => row_o _ _ _ h3) (fun j _ => by rw [row_o _ _ _ (by decide)]) (fun j _ => by rw [row_o _ _ _ (by decide)])⟩
    · refine ev_iload_n dX6_right_0 rfl ?_
      refine ev_iconst (v := (nI 1)) dX6_right_1 (by decide) ?_
      refine ev_icmp_lt 11 dX6_right_2 (by decide) (fun hc2 => False.elim (c1 hc2)) (fun hc2 => ?_)
      refine ev_iload_n dX6_right_5 rfl ?_
      refine ev_bipush (v := (nI 40)) dX6_right_6 (by decide) ?_
      refine ev_icmp_le 14 dX6_right_8 (by decide) (fun hc8 => ?_) (fun hc8 => False.elim (hc8 c2))
      refine ev_aload_n dX6_right_14 rfl ?_
      refine ev_getR dX6_right_15 fX6_67 (by first | assumption | rfl) (by rfl) ?_
      refine ev_iconst (v := (nI 0)) dX6_right_18 (by decide) ?_
      refine ev_cS2v dX6_right_19 ceJ7_fill_53178 kX6_286 (rm_le rfl rfl) (Nat.le_of_ble_eq_true rfl) (Nat.le_of_ble_eq_true rfl) (e_fill (a := 20) (N := 41) rfl (by decide)) ?_
      refine ev_aload_n dX6_right_22 rfl ?_
      refine ev_getR dX6_right_23 fX6_67 (by first | assumption | rfl) (by rfl) ?_
      refine ev_iconst (v := (nI 0)) dX6_right_26 (by decide) ?_
      refine ev_ldcw (v := (nI 1000000)) dX6_right_27 nX6_293 ?_
      refine ev_iastE (0) dX6_right_30 (rfl) (by first | assumption | rfl) ⟨by decide, by decide⟩ ?_
      refine ev_iconst (v := (nI 0)) dX6_right_31 (by decide) ?_
      refine ev_istore_k 2 dX6_right_32 rfl (by decide) rfl ?_
      exact ev_stw (right_C hc rfl) ⟨rfl, rfl, rfl, trivial⟩ rfl (by unfold fillM; rw [row_set])
    · rw [← hv]
      have key := ev_for (Lay := LayM) (y := mX7_right) (pc := 17) (r := some (.int (smN (fun j => if 2 * j > c then rtN (C 8 6) (fun j => if j < 42 then (if j = 0 then nI 1000000 else nI 0) else G 12 j) c j else nI 0) (c + 1)))) (M' := rf_row G 12 (rtN (C 8 6) (fun j => if j < 42 then (if j = 0 then nI 1000000 else nI 0) else G 12 j) c)) 42 (fun i => [some (.ref 0), some (.int (nI c)), some (.int (nI i)), none, none]) (fun i => rf_row G 12 (fun j => if j < i then (if j = 0 then nI 1000000 else nI 0) else G 12 j)) ?hx ?hs
      case hx =>
        refine ev_iload_n dX7_right_17 rfl ?_
        refine ev_bipush (v := (nI 42)) dX7_right_18 (by decide) ?_
        refine ev_icmp_ge 45 dX7_right_20 (by decide) (fun hc20 => ?_) (fun hc20 => False.elim (hc20 (by decide)))
        refine ev_iconst (v := (nI 0)) dX7_right_45 (by decide) ?_
        refine ev_istore_k 2 dX7_right_46 rfl (by decide) rfl ?_
        exact ev_st (right_G hc le.symm) rfl rfl rfl
      case hs =>
        intro i hi ih
        refine ev_iload_n dX7_right_17 rfl ?_
        refine ev_bipush (v := (nI 42)) dX7_right_18 (by decide) ?_
        refine ev_icmp_ge 45 dX7_right_20 (by decide) (fun hc20 => False.elim (nI_ge hi (by decide) hc20)) (fun hc20 => ?_)
        refine ev_aload_n dX7_right_23 rfl ?_
        refine ev_getR dX7_right_24 fX7_51 (by first | assumption | rfl) (by rfl) ?_
        refine ev_iload_n dX7_right_27 rfl ?_
        refine ev_iload_n dX7_right_28 rfl ?_
        refine ev_if_ne 37 dX7_right_29 (by decide) (fun hc29 => ?_) (fun hc29 => ?_)
        · have hz1 : ¬ i = 0 := fun z => hc29 (by rw [z]; rfl)
          refine ev_iconst (v := (nI 0)) dX7_right_37 (by decide) ?_
          refine ev_iastE _ dX7_right_38 (by first | with_reducible rfl | with_reducible exact nI_add _ _ | with_reducible exact ix3 _ _ _ | with_reducible exact ix_k _ _ _ | with_reducible exact ix_xk _ _ _ _) (by first | assumption | rfl) ⟨by omega, by decide⟩ ?_
          refine ev_iinc (v := (nI 1)) dX7_right_39 rfl (by decide) (by decide) rfl ?_
          refine ev_goto 17 dX7_right_42 (by decide) ?_
          exact ev_stw ih (by simp [rf_sub, nI_add]) rfl (by first | exact ini_p hz1 | exact ini_n hz1)
        · have hz1 : i = 0 := (nI_eq (by omega) (by decide)).mp hc29
          refine ev_ldc (v := (nI 1000000)) dX7_right_32 nX7_253 ?_
          refine ev_goto 38 dX7_right_34 (by decide) ?_
          refine ev_iastE _ dX7_right_38 (by first | with_reducible rfl | with_reducible exact nI_add _ _ | with_reducible exact ix3 _ _ _ | with_reducible exact ix_k _ _ _ | with_reducible exact ix_xk _ _ _ _) (by first | assumption | rfl) ⟨by omega, by decide⟩ ?_
          refine ev_iinc (v := (nI 1)) dX7_right_39 rfl (by decide) (by decide) rfl ?_
          refine ev_goto 17 dX7_right_42 (by decide) ?_
          exact ev_stw ih (by simp [rf_sub, nI_add]) rfl (by first | exact ini_p hz1 | exact ini_n hz1)
      refine ev_iload_n dX7_right_0 rfl ?_
      refine ev_i2l dX7_right_1 ?_
      refine ev_lconst (v := 1) dX7_right_2 rfl ?_
      refine ev_ldc2 dX7_right_3 nX7_251 ?_
      refine ev_cS3 dX7_right_6 ceX7_in kX7_59 (rm_le rfl rfl) (Nat.le_of_ble_eq_true rfl) (Nat.le_of_ble_eq_true rfl) (e7_in) ?_
      rw [in_c _ (nI 1) (nI 40) (by decide) (by decide), k1]
      refine ev_if_ne 15 dX7_right_9 (by decide) (fun hc9 => ?_) (fun hc9 => False.elim (absurd hc9 (by decide)))
      refine ev_iconst (v := (nI 0)) dX7_right_15 (by decide) ?_
      refine ev_istore_k 2 dX7_right_16 rfl (by decide) rfl ?_
      exact ev_st (key 0 (Nat.zero_le _)) rfl rfl (by simp [row_id])
  · refine ⟨(-1000000002), C, G, ?_, ?_, hR0⟩
    · refine ev_iload_n dX6_right_0 rfl ?_
      refine ev_iconst (v := (nI 1)) dX6_right_1 (by decide) ?_
      refine ev_icmp_lt 11 dX6_right_2 (by decide) (fun hc2 => ?_) (fun hc2 => False.elim (hc2 c1))
      refine ev_ldc (v := (-1000000002)) dX6_right_11 nX6_70 ?_
      exact ev_iretE dX6_right_13 rfl rfl (by first | rfl | simp_all) (rfl)
    · refine ev_iload_n dX7_right_0 rfl ?_
      refine ev_i2l dX7_right_1 ?_
      refine ev_lconst (v := 1) dX7_right_2 rfl ?_
      refine ev_ldc2 dX7_right_3 nX7_251 ?_
      refine ev_cS3 dX7_right_6 ceX7_in kX7_59 (rm_le rfl rfl) (Nat.le_of_ble_eq_true rfl) (Nat.le_of_ble_eq_true rfl) (e7_in) ?_
      rw [in_c _ (nI 1) (nI 40) (by decide) (by decide), k1]
      refine ev_if_ne 15 dX7_right_9 (by decide) (fun hc9 => False.elim (absurd hc9 (by decide))) (fun hc9 => ?_)
      refine ev_ldc (v := (-1000000002)) dX7_right_12 nX7_63 ?_
      exact ev_iretE dX7_right_14 rfl rfl (by first | rfl | simp_all) (rfl)
  · refine ⟨(-1000000002), C, G, ?_, ?_, hR0⟩
    · refine ev_iload_n dX6_right_0 rfl ?_
      refine ev_iconst (v := (nI 1)) dX6_right_1 (by decide) ?_
      refine ev_icmp_lt 11 dX6_right_2 (by decide) (fun hc2 => False.elim (c1 hc2)) (fun hc2 => ?_)
      refine ev_iload_n dX6_right_5 rfl ?_
      refine ev_bipush (v := (nI 40)) dX6_right_6 (by decide) ?_
      refine ev_icmp_le 14 dX6_right_8 (by decide) (fun hc8 => False.elim (c2 hc8)) (fun hc8 => ?_)
      refine ev_ldc (v := (-1000000002)) dX6_right_11 nX6_70 ?_
      exact ev_iretE dX6_right_13 rfl rfl (by first | rfl | simp_all) (rfl)
    · refine ev_iload_n dX7_right_0 rfl ?_
      refine ev_i2l dX7_right_1 ?_
      refine ev_lconst (v := 1) dX7_right_2 rfl ?_
      refine ev_ldc2 dX7_right_3 nX7_251 ?_
      refine ev_cS3 dX7_right_6 ceX7_in kX7_59 (rm_le rfl rfl) (Nat.le_of_ble_eq_true rfl) (Nat.le_of_ble_eq_true rfl) (e7_in) ?_
      rw [in_c _ (nI 1) (nI 40) (by decide) (by decide), k1]
      refine ev_if_ne 15 dX7_right_9 (by decide) (fun hc9 => False.elim (absurd hc9 (by decide))) (fun hc9 => ?_)
      refine ev_ldc (v := (-1000000002)) dX7_right_12 nX7_63 ?_
      exact ev_iretE dX7_right_14 rfl rfl (by first | rfl | simp_all) (rfl)
