/-! best: readings of one line touch nothing of another -/
theorem sim_readX {w : Bool} {q x n d nl nr : Nat} {tm : Nat → Nat} {C G : rf_Mem} {r p s l : Nat} (hq : st_ok q) (hx : x ≤ 4500) (h : Sim w q x n d nl nr tm C G) (hr : r < nr) (hp : p < n) (hs : C (q + 3) p = nI s) (hs9 : s < 9) (hl2 : C (q + 1) p = nI l) (hl : l < nl) : ∃ k G', Ev LayC mX5_readPage 0 (rf_ent 4 [.ref q, .int (nI r), .int (nI p)]) [] C none (rdP q k nr C r p l) ∧ Ev LayM mX7_readPage 0 (rf_ent 5 [.ref 0, .int (nI x), .int (nI r), .int (nI p)]) [] G none G' ∧ Sim w q x n d nl nr tm (rdP q k nr C r p l) G' ∧ FrG x G G' := by
  have hq20 : 20 < q := hq.2.2.2.2.2.2.2.2.2.2.2.2
  obtain ⟨hL, hB, k, k', q1, q2, q3, q4, q5⟩ := h
  have hn40 := hB.1.2.2.1
  obtain ⟨⟨a1, -⟩, -⟩ := hB.1.2.2.2.2 p hp
  have l3 := hL.2.2.1
  have l6 := hL.2.2.2.2.2.1
  have fG := rdM_fr (x := x) (k := k') (nr := nr) (G := G) (r := r) (p := p) (l := l) (by omega) l6 (by omega) q4
  refine ⟨k, rdM x k' nr G r p l, e_readPage hq q1 q2 hL.2.2.2.1 l6 (by omega) (by omega) (by omega) hl2, e7_readPage hx q3 q4 hL.2.2.2.2.1 l6 (by omega) (by omega) (by omega) (by rw [← a1]; exact hl2), ⟨hL.fr hq20 rdP_fr fG, rd_bk hq20 hL hB hr hp hl2 hl hs hs9, kUp k, kUp k', rdP_k q1, kUp_le q2, rdM_k (by omega) l6 (by omega) q3, kUp_le q4, fun hw => ?_⟩, fG⟩
  obtain ⟨e, hg⟩ := q5 hw
  subst e
  exact ⟨rfl, rd_lg (nl := nl) hg hB.2.1 (by omega) l6 hr hp hn40⟩
abbrev bS : Type := (Nat → Int32) × (Nat → Int32) × (Nat → Int32)
def rlB (B : rf_Mem) (i : Nat) : Nat := (B 16 i).toNatClampNeg
def raB (B : rf_Mem) (i : Nat) : Nat := (B 15 i).toNatClampNeg
def rwB (B : rf_Mem) (i : Nat) : Nat := (B 17 i).toNatClampNeg
def dkB (B : rf_Mem) (n l : Nat) (s : bS) : Option Nat := dkst (vLeft (B 22) s.1 (nI l)) s.1 n
def asB (B : rf_Mem) (S i l : Nat) : Bool := hb S i && decide (rlB B i = l)
def stP (B : rf_Mem) (i : Nat) (s : bS) (p : Nat) : bS := (fun j => if j = p then (if B 11 (raB B i) = nI 3 then nI 9 else s.1 p + nI 1) else s.1 j, fun r => if r = raB B i ∨ B 11 (raB B i) = nI 1 then B 23 p else s.2.1 r, fun r => if r = raB B i ∨ B 11 (raB B i) = nI 1 then B 21 10 else s.2.2 r)
def ssB (B : rf_Mem) (n l S i : Nat) (s : bS) : bS := if asB B S i l = true then (match dkB B n l s with
  | none => s
  | some p => stP B i s p) else s
def gnB (B : rf_Mem) (n l S i : Nat) (s : bS) : Nat := if asB B S i l = true then (match dkB B n l s with
  | none => 0
  | some _ => rwB B i) else 0
def s0B (B : rf_Mem) (l : Nat) : bS := (B 24, fun r => B 26 (r * 16 + l), fun r => B 27 (r * 16 + l))
def rnB (B : rf_Mem) (n l S : Nat) : Nat → bS
  | 0 => s0B B l
  | i + 1 => ssB B n l S i (rnB B n l S i)
def gsB (B : rf_Mem) (n l S : Nat) : Nat → Nat
  | 0 => 0
  | i + 1 => gsB B n l S i + gnB B n l S i (rnB B n l S i)
def smL (f : Nat → Nat) : Nat → Nat
  | 0 => 0
  | n + 1 => smL f n + f n
theorem smL_cong {f g : Nat → Nat} : ∀ {n : Nat}, (∀ k, k < n → f k = g k) → smL f n = smL g n
  | 0, _ => rfl
  | n + 1, h => by rw [smL, smL, smL_cong (fun k hk => h k (by omega)), h n (by omega)]
theorem smL_one {f g : Nat → Nat} {a l0 : Nat} (h0 : g l0 = f l0 + a) : ∀ {n : Nat}, (∀ l, l < n → l ≠ l0 → g l = f l) → l0 < n → smL g n = smL f n + a
  | 0, _, h => absurd h (Nat.not_lt_zero _)
  | n + 1, h, hl => by
    rw [smL, smL]
    by_cases e : l0 = n
    · subst e
      rw [h0, smL_cong (f := g) (g := f) (fun k hk => h k (by omega) (by omega))]; omega
    · rw [smL_one h0 (fun l hl h3 => h l (by omega) h3) (by omega), h n (by omega) (fun z => e z.symm)]; omega
theorem smL_z {f : Nat → Nat} : ∀ {n : Nat}, (∀ k, k < n → f k = 0) → smL f n = 0
  | 0, _ => rfl
  | n + 1, h => by rw [smL, smL_z (fun k hk => h k (by omega)), h n (by omega)]
theorem smL_add {f g : Nat → Nat} : ∀ {n : Nat}, smL (fun l => f l + g l) n = smL f n + smL g n
  | 0 => rfl
  | n + 1 => by rw [smL, smL, smL, smL_add]; omega
theorem smL_le {f : Nat → Nat} {c : Nat} : ∀ {n : Nat}, (∀ k, k < n → f k ≤ c) → smL f n ≤ n * c
  | 0, _ => Nat.zero_le _
  | n + 1, h => by have := smL_le (n := n) (fun k hk => h k (by omega)); have := h n (by omega); rw [smL, Nat.succ_mul]; omega
/-- a run depends on the requests of its line alone -/
theorem rn_cong {B : rf_Mem} {n l S T : Nat} : ∀ {i : Nat}, (∀ j, j < i → rlB B j = l → hb S j = hb T j) → rnB B n l S i = rnB B n l T i ∧ gsB B n l S i = gsB B n l T i
  | 0, _ => ⟨rfl, rfl⟩
  | i + 1, h => by
    obtain ⟨e1, e2⟩ := rn_cong (i := i) (fun j hj => h j (by omega))
    have e3 : asB B S i l = asB B T i l := by
      unfold asB
      by_cases z : rlB B i = l
      · rw [h i (by omega) z]
      · rw [decide_eq_false z, Bool.and_false, Bool.and_false]
    refine ⟨?_, ?_⟩
    · rw [rnB, rnB, e1]; unfold ssB; rw [e3]
    · rw [gsB, gsB, e1, e2]; unfold gnB; rw [e3]
theorem gs_z {B : rf_Mem} {n l S : Nat} : ∀ {i : Nat}, (∀ j, j < i → rlB B j = l → hb S j = false) → gsB B n l S i = 0
  | 0, _ => rfl
  | i + 1, h => by
    rw [gsB, gs_z (fun j hj => h j (by omega))]
    have e3 : asB B S i l = false := by
      unfold asB
      by_cases z : rlB B i = l
      · rw [h i (by omega) z]; rfl
      · rw [decide_eq_false z, Bool.and_false]
    unfold gnB
    rw [e3]; rfl
theorem gs_step {B : rf_Mem} {n nl S i : Nat} (hl : rlB B i < nl) : smL (fun l => gsB B n l S (i + 1)) nl = smL (fun l => gsB B n l S i) nl + gnB B n (rlB B i) S i (rnB B n (rlB B i) S i) := by
  refine smL_one (f := fun l => gsB B n l S i) (g := fun l => gsB B n l S (i + 1)) (l0 := rlB B i) rfl (fun l _ hne => ?_) hl
  show gsB B n l S i + gnB B n l S i (rnB B n l S i) = gsB B n l S i
  have e3 : asB B S i l = false := by unfold asB; rw [decide_eq_false (fun z => hne z.symm), Bool.and_false]
  unfold gnB
  rw [e3]; rfl
theorem gs_le {B : rf_Mem} {n l S : Nat} : ∀ {i : Nat}, (∀ j, j < i → rwB B j ≤ 99) → gsB B n l S i ≤ i * 99
  | 0, _ => Nat.zero_le _
  | i + 1, h => by
    have h1 := gs_le (B := B) (n := n) (l := l) (S := S) (i := i) (fun j hj => h j (by omega))
    have h2 := h i (by omega)
    have h3 : gnB B n l S i (rnB B n l S i) ≤ 99 := by
      unfold gnB
      split
      · split <;> omega
      · omega
    rw [gsB]; omega
def Vc (B C : rf_Mem) (n : Nat) : Prop := (∀ a, a < 18 → C a = B a) ∧ C 33 10 = B 21 10 ∧ ∀ p, p < n → C (33 + 1) p = B 22 p ∧ C (33 + 2) p = B 23 p
def Vl (C B : rf_Mem) (n nr l : Nat) (s : bS) : Prop := (∀ p, p < n → B 22 p = nI l → C (33 + 3) p = s.1 p) ∧ ∀ r, r < nr → C (33 + 5) (r * 16 + l) = s.2.1 r ∧ C (33 + 6) (r * 16 + l) = s.2.2 r
theorem dkst_cong2 {P R : Nat → Bool} {f g : Nat → Int32} {n : Nat} (h : ∀ k, k < n → P k = R k ∧ (R k = true → f k = g k)) : dkst P f n = dkst R g n := by
  induction n with
  | zero => rfl
  | succ n ih =>
    have ih2 := ih (fun k hk => h k (by omega))
    rw [dkst, dkst, ih2, (h n (by omega)).1]
    cases e : dkst R g n with
    | none => rfl
    | some b =>
      obtain ⟨hb, hb2⟩ := dkst_lt e
      show (if R n && decide (f n < f b) then some n else some b) = (if R n && decide (g n < g b) then some n else some b)
      cases hR : R n with
      | false => rw [Bool.false_and, Bool.false_and]
      | true => rw [(h n (by omega)).2 hR, (h b (by omega)).2 hb2]
theorem vl_view {B C : rf_Mem} {n nr l : Nat} {s : bS} (hc : Vc B C n) (hv : Vl C B n nr l s) {p : Nat} (hp : p < n) : vLeft (C (33 + 1)) (C (33 + 3)) (nI l) p = vLeft (B 22) s.1 (nI l) p ∧ (vLeft (B 22) s.1 (nI l) p = true → C (33 + 3) p = s.1 p) := by
  unfold vLeft
  rw [(hc.2.2 p hp).1]
  by_cases z : B 22 p = nI l
  · rw [hv.1 p hp z]; exact ⟨rfl, fun _ => rfl⟩
  · rw [decide_eq_false z, Bool.false_and, Bool.false_and]; exact ⟨rfl, fun y => by cases y⟩
theorem dk_view {B C : rf_Mem} {n nr l : Nat} {s : bS} (hc : Vc B C n) (hv : Vl C B n nr l s) : dkst (vLeft (C (33 + 1)) (C (33 + 3)) (nI l)) (C (33 + 3)) n = dkB B n l s := dkst_cong2 (fun p hp => vl_view hc hv hp)
def klB (B : rf_Mem) (n nr : Nat) (h : Int32) (l : Nat) (s : bS) : Bool := decide (0 < fb_ct (vWith (B 22) (B 23) s.1 (nI l) (nI 0)) n) || bAny (fun r => decide ((if B 12 r ≤ (B 21 10 + dA (B 21 10) h) - s.2.2 r then -1 else s.2.1 r) = 0)) nr
theorem kp_view {B C : rf_Mem} {n nr l : Nat} {s : bS} {h : Int32} (hc : Vc B C n) (hv : Vl C B n nr l s) : kpB C 33 n nr h l = klB B n nr h l s := by
  unfold kpB klB
  have e1 : fb_ct (vWith (C (33 + 1)) (C (33 + 2)) (C (33 + 3)) (nI l) (nI 0)) n = fb_ct (vWith (B 22) (B 23) s.1 (nI l) (nI 0)) n := fb_ct_cong (fun p hp => by unfold vWith; rw [(vl_view hc hv hp).1, (hc.2.2 p hp).2])
  rw [e1]
  congr 1
  refine bAny_cong (fun r hr => ?_)
  unfold knC
  rw [hc.2.1, hc.1 12 (by omega), (hv.2 r hr).1, (hv.2 r hr).2]
theorem vw_rd {B C : rf_Mem} {n nr l0 i p k : Nat} (hc : Vc B C n) (hr : raB B i < nr) (hl16 : l0 < 16) (hp : p < n) (hpl : B 22 p = nI l0) : Vc B (rdP 33 k nr C (raB B i) p l0) n ∧ (∀ l s, l < 16 → l ≠ l0 → Vl C B n nr l s → Vl (rdP 33 k nr C (raB B i) p l0) B n nr l s) ∧ (∀ s, Vl C B n nr l0 s → Vl (rdP 33 k nr C (raB B i) p l0) B n nr l0 (stP B i s p)) := by
  have e11 : C 11 = B 11 := hc.1 11 (by omega)
  refine ⟨⟨fun a ha => by rw [rdP_out (by omega)]; exact hc.1 a ha, by rw [rdP_out (by omega)]; exact hc.2.1, fun p' hp' => by rw [rdP_out (by omega), rdP_out (by omega)]; exact hc.2.2 p' hp'⟩, fun l s hl hne hv => ⟨fun p' hp' hl' => ?_, fun r hr' => ?_⟩, fun s hv => ⟨fun p' hp' hl' => ?_, fun r hr' => ?_⟩⟩
  · rw [rdP_3]
    have e : p' ≠ p := fun z => by
      rw [z, hpl] at hl'
      exact hne ((nI_eq (by omega) (by omega)).mp hl').symm
    rw [if_neg e]; exact hv.1 p' hp' hl'
  · obtain ⟨b1, b2⟩ := rdP_5 (k := k) (C := C) (p := p) (show 20 < 33 by decide) hr hl16 r l hr' hl
    rw [b1, b2, if_neg (fun z => hne z.1), if_neg (fun z => hne z.1)]
    exact hv.2 r hr'
  · rw [rdP_3, e11, hv.1 p hp hpl]
    show _ = if p' = p then _ else _
    by_cases e : p' = p
    · rw [if_pos e, if_pos e]
    · rw [if_neg e, if_neg e]; exact hv.1 p' hp' hl'
  · obtain ⟨b1, b2⟩ := rdP_5 (k := k) (C := C) (p := p) (show 20 < 33 by decide) hr hl16 r l0 hr' hl16
    rw [b1, b2, e11, (hc.2.2 p hp).2, hc.2.1, (hv.2 r hr').1, (hv.2 r hr').2]
    show (_ = if r = raB B i ∨ B 11 (raB B i) = nI 1 then _ else _) ∧ (_ = if r = raB B i ∨ B 11 (raB B i) = nI 1 then _ else _)
    by_cases e : r = raB B i ∨ B 11 (raB B i) = nI 1
    · rw [if_pos e, if_pos e, if_pos ⟨rfl, e⟩, if_pos ⟨rfl, e⟩]; exact ⟨rfl, rfl⟩
    · rw [if_neg e, if_neg e, if_neg (fun z => e z.2), if_neg (fun z => e z.2)]; exact ⟨rfl, rfl⟩
theorem vw_no {B : rf_Mem} {n l S i : Nat} {s : bS} (h : asB B S i l = false) : ssB B n l S i s = s := by unfold ssB; rw [h]; rfl
set_option maxRecDepth 20000 in
set_option maxHeartbeats 2000000 in
theorem sim_askX {w : Bool} {n d nl nr nq S : Nat} {tm : Nat → Nat} {B C G : rf_Mem} {i : Nat} (had : Int32) (hS : S < 2 ^ 31) (hi : i < nq) (h : Sim w 33 1500 n d nl nr tm C G) (hR : Rq nq nl nr C G) (hc : Vc B C n) (hvl : ∀ l, l < nl → Vl C B n nr l (rnB B n l S (i))) : ∃ C' G', (∀ r M', Ev LayC mX3_fulfil 5 [some (.ref 14), some (.int (nI S)), some (.ref 33), some (.int (had + nI (gnB B n (rlB B i) S i (rnB B n (rlB B i) S i)))), some (.int (nI (i + 1))), none] [] C' r M' → Ev LayC mX3_fulfil 5 [some (.ref 14), some (.int (nI S)), some (.ref 33), some (.int (had)), some (.int (nI (i))), none] [] C r M') ∧ (∀ r M', Ev LayM mX7_grantAll 5 [some (.ref 0), some (.int (nI 1500)), some (.int (nI S)), some (.int (had + nI (gnB B n (rlB B i) S i (rnB B n (rlB B i) S i)))), some (.int (nI (i + 1))), none] [] G' r M' → Ev LayM mX7_grantAll 5 [some (.ref 0), some (.int (nI 1500)), some (.int (nI S)), some (.int (had)), some (.int (nI (i))), none] [] G r M') ∧ Sim w 33 1500 n d nl nr tm C' G' ∧ Rq nq nl nr C' G' ∧ FrC 33 C C' ∧ FrG 1500 G G' ∧ Vc B C' n ∧ ∀ l, l < nl → Vl C' B n nr l (rnB B n l S (i + 1)) := by
  have hx : 1500 ≤ 4500 := by decide
  have hq0 := st_33
  obtain ⟨hL, hB, -⟩ := id h
  obtain ⟨p1, p2, p3, -, p5⟩ := id hB.1
  have l3 := hL.2.2.1
  have l6 := hL.2.2.2.2.2.1
  obtain ⟨c14, g17, hnq, hrq⟩ := id hR
  obtain ⟨t1, t2, t3, ⟨r0, hr0, hr1⟩, ⟨l, hl, hl1⟩, ⟨v, hv, hv1⟩⟩ := hrq i hi
  have u1 : G 9 i = nI r0 := by rw [← t1]; exact hr1
  have u2 : G 10 i = nI l := by rw [← t2]; exact hl1
  have er : raB B i = r0 := by unfold raB; rw [← hc.1 15 (by omega), hr1]; exact nI_clamp (by omega)
  have el : rlB B i = l := by unfold rlB; rw [← hc.1 16 (by omega), hl1]; exact nI_clamp (by omega)
  have ew : rwB B i = v := by unfold rwB; rw [← hc.1 17 (by omega), hv1]; exact nI_clamp (by omega)
  have dk := dk_same hB.1 (nI l)
  have dv := dk_view hc (hvl l hl)
  rw [el]
  cases hh : hb S i with
  | false =>
    have ea : ∀ l, asB B S i l = false := fun l => by unfold asB; rw [hh]; rfl
    have eg : gnB B n l S i (rnB B n l S i) = 0 := by unfold gnB; rw [ea]; rfl
    refine ⟨C, G, fun r M' hE => ?_, fun r M' hE => ?_, h, hR, FrC.rf 33 C, FrG.rf 1500 G, hc, fun l hl => by rw [rnB, vw_no (ea l)]; exact hvl l hl⟩
    · refine ev_iload dX3_fulfil_5 rfl ?_
      refine ev_aload_n dX3_fulfil_7 rfl ?_
      refine ev_getI dX3_fulfil_8 fX3_21 (by first | assumption | rfl) (by rfl) ?_
      refine ev_icmp_ge 75 dX3_fulfil_11 (by decide) (fun hc11 => False.elim (lp_s c14 (by omega) hi hc11)) (fun hc11 => ?_)
      refine ev_iload_n dX3_fulfil_14 rfl ?_
      refine ev_iload dX3_fulfil_15 rfl ?_
      refine ev_cN2 dX3_fulfil_17 ceX6_has rfl rfl (rm_le rfl rfl) (Nat.le_of_ble_eq_true rfl) (Nat.le_of_ble_eq_true rfl) (e_hasN hS (by omega)) ?_
      refine ev_if_eq 37 dX3_fulfil_20 (by decide) (fun hc20 => ?_) (fun hc20 => False.elim (by rw [b2i_0, hh] at hc20; exact hc20 rfl))
      refine ev_iconst (v := (-1)) dX3_fulfil_37 (by decide) ?_
      refine ev_istore dX3_fulfil_38 (by decide) rfl ?_
      refine ev_iload dX3_fulfil_40 rfl ?_
      refine ev_iconst (v := (-1)) dX3_fulfil_42 (by decide) ?_
      refine ev_icmp_eq 69 dX3_fulfil_43 (by decide) (fun hc43 => ?_) (fun hc43 => False.elim (hc43 rfl))
      refine ev_iinc (v := (nI 1)) dX3_fulfil_69 rfl (by decide) (by decide) rfl ?_
      refine ev_goto 5 dX3_fulfil_72 (by decide) ?_
      exact ev_stw hE (by rw [eg]; simp [rf_sub, nI_add, nI_0]) rfl rfl
    · refine ev_iload dX7_grantAll_5 rfl ?_
      refine ev_aload_n dX7_grantAll_7 rfl ?_
      refine ev_getI dX7_grantAll_8 fX7_131 (by first | assumption | rfl) (by rfl) ?_
      refine ev_icmp_ge 76 dX7_grantAll_11 (by decide) (fun hc11 => False.elim (lp_s g17 (by omega) hi hc11)) (fun hc11 => ?_)
      refine ev_iload_n dX7_grantAll_14 rfl ?_
      refine ev_iload dX7_grantAll_15 rfl ?_
      refine ev_cS2 dX7_grantAll_17 ceX7_has kX7_220 (rm_le rfl rfl) (Nat.le_of_ble_eq_true rfl) (Nat.le_of_ble_eq_true rfl) (e7_hasN hS (by omega)) ?_
      refine ev_if_eq 38 dX7_grantAll_20 (by decide) (fun hc20 => ?_) (fun hc20 => False.elim (by rw [b2i_0, hh] at hc20; exact hc20 rfl))
      refine ev_iconst (v := (-1)) dX7_grantAll_38 (by decide) ?_
      refine ev_istore dX7_grantAll_39 (by decide) rfl ?_
      refine ev_iload dX7_grantAll_41 rfl ?_
      refine ev_if_lt 70 dX7_grantAll_43 (by decide) (fun hc43 => ?_) (fun hc43 => False.elim (hc43 (by decide)))
      refine ev_iinc (v := (nI 1)) dX7_grantAll_70 rfl (by decide) (by decide) rfl ?_
      refine ev_goto 5 dX7_grantAll_73 (by decide) ?_
      exact ev_stw hE (by rw [eg]; simp [rf_sub, nI_add, nI_0]) rfl rfl
  | true =>
    have ea : asB B S i l = true := by unfold asB; rw [hh, el, decide_eq_true rfl]; rfl
    have ea2 : ∀ l', l' ≠ l → asB B S i l' = false := fun l' hne => by unfold asB; rw [el, decide_eq_false (fun z => hne z.symm), Bool.and_false]
    cases hd : dkst (vLeft (C (33 + 1)) (C (33 + 3)) (nI l)) (C (33 + 3)) n with
    | none =>
      rw [hd] at dk dv
      have eg : gnB B n l S i (rnB B n l S i) = 0 := by unfold gnB; rw [ea, ← dv]; rfl
      refine ⟨C, G, fun r M' hE => ?_, fun r M' hE => ?_, h, hR, FrC.rf 33 C, FrG.rf 1500 G, hc, fun l' hl' => ?_⟩
      · refine ev_iload dX3_fulfil_5 rfl ?_
        refine ev_aload_n dX3_fulfil_7 rfl ?_
        refine ev_getI dX3_fulfil_8 fX3_21 (by first | assumption | rfl) (by rfl) ?_
        refine ev_icmp_ge 75 dX3_fulfil_11 (by decide) (fun hc11 => False.elim (lp_s c14 (by omega) hi hc11)) (fun hc11 => ?_)
        refine ev_iload_n dX3_fulfil_14 rfl ?_
        refine ev_iload dX3_fulfil_15 rfl ?_
        refine ev_cN2 dX3_fulfil_17 ceX6_has rfl rfl (rm_le rfl rfl) (Nat.le_of_ble_eq_true rfl) (Nat.le_of_ble_eq_true rfl) (e_hasN hS (by omega)) ?_
        refine ev_if_eq 37 dX3_fulfil_20 (by decide) (fun hc20 => False.elim (by rw [b2i_0, hh] at hc20; cases hc20)) (fun hc20 => ?_)
        refine ev_aload_n dX3_fulfil_23 rfl ?_
        refine ev_aload_n dX3_fulfil_24 rfl ?_
        refine ev_getR dX3_fulfil_25 fX3_15 (by first | assumption | rfl) (by rfl) ?_
        refine ev_iload dX3_fulfil_28 rfl ?_
        refine ev_ialdE _ dX3_fulfil_30 (rfl) (by first | assumption | rfl) ⟨by omega, by decide⟩ ?_
        rw [hl1]
        refine ev_cV1 dX3_fulfil_31 ceX5_darkestPage kX3_30 (rm_le rfl rfl) (Nat.le_of_ble_eq_true rfl) (Nat.le_of_ble_eq_true rfl) (e_darkestPage hq0 p1 p3) (by first | assumption | rfl) ?_
        rw [hd]
        refine ev_goto 38 dX3_fulfil_34 (by decide) ?_
        refine ev_istore dX3_fulfil_38 (by decide) rfl ?_
        refine ev_iload dX3_fulfil_40 rfl ?_
        refine ev_iconst (v := (-1)) dX3_fulfil_42 (by decide) ?_
        refine ev_icmp_eq 69 dX3_fulfil_43 (by decide) (fun hc43 => ?_) (fun hc43 => False.elim (hc43 rfl))
        refine ev_iinc (v := (nI 1)) dX3_fulfil_69 rfl (by decide) (by decide) rfl ?_
        refine ev_goto 5 dX3_fulfil_72 (by decide) ?_
        exact ev_stw hE (by rw [eg]; simp [rf_sub, nI_add, nI_0]) rfl rfl
      · refine ev_iload dX7_grantAll_5 rfl ?_
        refine ev_aload_n dX7_grantAll_7 rfl ?_
        refine ev_getI dX7_grantAll_8 fX7_131 (by first | assumption | rfl) (by rfl) ?_
        refine ev_icmp_ge 76 dX7_grantAll_11 (by decide) (fun hc11 => False.elim (lp_s g17 (by omega) hi hc11)) (fun hc11 => ?_)
        refine ev_iload_n dX7_grantAll_14 rfl ?_
        refine ev_iload dX7_grantAll_15 rfl ?_
        refine ev_cS2 dX7_grantAll_17 ceX7_has kX7_220 (rm_le rfl rfl) (Nat.le_of_ble_eq_true rfl) (Nat.le_of_ble_eq_true rfl) (e7_hasN hS (by omega)) ?_
        refine ev_if_eq 38 dX7_grantAll_20 (by decide) (fun hc20 => False.elim (by rw [b2i_0, hh] at hc20; cases hc20)) (fun hc20 => ?_)
        refine ev_aload_n dX7_grantAll_23 rfl ?_
        refine ev_iload_n dX7_grantAll_24 rfl ?_
        refine ev_aload_n dX7_grantAll_25 rfl ?_
        refine ev_getR dX7_grantAll_26 fX7_45 (by first | assumption | rfl) (by rfl) ?_
        refine ev_iload dX7_grantAll_29 rfl ?_
        refine ev_ialdE _ dX7_grantAll_31 (by first | with_reducible rfl | with_reducible exact nI_add _ _ | with_reducible exact ix3 _ _ _ | with_reducible exact ix_k _ _ _ | with_reducible exact ix_xk _ _ _ _) (by first | assumption | rfl) ⟨by omega, by decide⟩ ?_
        rw [u2]
        refine ev_cV2 dX7_grantAll_32 ceX7_palest kX7_223 (rm_le rfl rfl) (Nat.le_of_ble_eq_true rfl) (Nat.le_of_ble_eq_true rfl) (e7_palest hx p2 p3) (by first | assumption | rfl) ?_
        rw [dk]
        refine ev_goto 39 dX7_grantAll_35 (by decide) ?_
        refine ev_istore dX7_grantAll_39 (by decide) rfl ?_
        refine ev_iload dX7_grantAll_41 rfl ?_
        refine ev_if_lt 70 dX7_grantAll_43 (by decide) (fun hc43 => ?_) (fun hc43 => False.elim (hc43 (by decide)))
        refine ev_iinc (v := (nI 1)) dX7_grantAll_70 rfl (by decide) (by decide) rfl ?_
        refine ev_goto 5 dX7_grantAll_73 (by decide) ?_
        exact ev_stw hE (by rw [eg]; simp [rf_sub, nI_add, nI_0]) rfl rfl
      · rw [rnB]
        by_cases z : l' = l
        · subst z; unfold ssB; rw [ea, ← dv]; exact hvl l' hl'
        · rw [vw_no (ea2 l' z)]; exact hvl l' hl'
    | some p =>
      rw [hd] at dk dv
      obtain ⟨hp, hpv⟩ := dkst_lt hd
      obtain ⟨-, -, ⟨s, hs, hs2⟩, -⟩ := p5 p hp
      have hs9 : s < 9 := by
        rcases Nat.lt_or_ge s 9 with z | z
        · exact z
        · have z2 : nI 9 ≤ C (33 + 3) p := by rw [hs2]; exact nI_le z (by omega)
          simp [vLeft, z2] at hpv
      have hpl : C (33 + 1) p = nI l := by unfold vLeft at hpv; simp only [Bool.and_eq_true, decide_eq_true_eq] at hpv; exact hpv.1
      obtain ⟨k, G2, eC, eG, hS2, f4⟩ := sim_readX (p := p) (r := r0) hq0 hx h hr0 hp hs2 hs9 hpl hl
      have f3 : FrC 33 C (rdP 33 k nr C r0 p l) := rdP_fr
      have eg : gnB B n l S i (rnB B n l S i) = v := by unfold gnB; rw [ea, ← dv]; exact ew
      have w1 : rdP 33 k nr C r0 p l 17 i = nI v := by rw [f3 17 (by omega)]; exact hv1
      have w2 : G2 11 i = nI v := by rw [f4.1 11 (by decide), ← t3]; exact hv1
      obtain ⟨x1, x2, x3⟩ := vw_rd (k := k) hc (by rw [er]; exact hr0) (show l < 16 by omega) hp (by rw [← (hc.2.2 p hp).1]; exact hpl)
      rw [er] at x1 x2 x3
      refine ⟨rdP 33 k nr C r0 p l, G2, fun r M' hE => ?_, fun r M' hE => ?_, hS2, hR.fr (by decide) f3 f4, f3, f4, x1, fun l' hl' => ?_⟩
      · refine ev_iload dX3_fulfil_5 rfl ?_
        refine ev_aload_n dX3_fulfil_7 rfl ?_
        refine ev_getI dX3_fulfil_8 fX3_21 (by first | assumption | rfl) (by rfl) ?_
        refine ev_icmp_ge 75 dX3_fulfil_11 (by decide) (fun hc11 => False.elim (lp_s c14 (by omega) hi hc11)) (fun hc11 => ?_)
        refine ev_iload_n dX3_fulfil_14 rfl ?_
        refine ev_iload dX3_fulfil_15 rfl ?_
        refine ev_cN2 dX3_fulfil_17 ceX6_has rfl rfl (rm_le rfl rfl) (Nat.le_of_ble_eq_true rfl) (Nat.le_of_ble_eq_true rfl) (e_hasN hS (by omega)) ?_
        refine ev_if_eq 37 dX3_fulfil_20 (by decide) (fun hc20 => False.elim (by rw [b2i_0, hh] at hc20; cases hc20)) (fun hc20 => ?_)
        refine ev_aload_n dX3_fulfil_23 rfl ?_
        refine ev_aload_n dX3_fulfil_24 rfl ?_
        refine ev_getR dX3_fulfil_25 fX3_15 (by first | assumption | rfl) (by rfl) ?_
        refine ev_iload dX3_fulfil_28 rfl ?_
        refine ev_ialdE _ dX3_fulfil_30 (rfl) (by first | assumption | rfl) ⟨by omega, by decide⟩ ?_
        rw [hl1]
        refine ev_cV1 dX3_fulfil_31 ceX5_darkestPage kX3_30 (rm_le rfl rfl) (Nat.le_of_ble_eq_true rfl) (Nat.le_of_ble_eq_true rfl) (e_darkestPage hq0 p1 p3) (by first | assumption | rfl) ?_
        rw [hd]
        refine ev_goto 38 dX3_fulfil_34 (by decide) ?_
        refine ev_istore dX3_fulfil_38 (by decide) rfl ?_
        refine ev_iload dX3_fulfil_40 rfl ?_
        refine ev_iconst (v := (-1)) dX3_fulfil_42 (by decide) ?_
        refine ev_icmp_eq 69 dX3_fulfil_43 (by decide) (fun hc43 => False.elim (nI_m1 (by omega) hc43)) (fun hc43 => ?_)
        refine ev_aload_n dX3_fulfil_46 rfl ?_
        refine ev_aload_n dX3_fulfil_47 rfl ?_
        refine ev_getR dX3_fulfil_48 fX3_9 (by first | assumption | rfl) (by rfl) ?_
        refine ev_iload dX3_fulfil_51 rfl ?_
        refine ev_ialdE _ dX3_fulfil_53 (rfl) (by first | assumption | rfl) ⟨by omega, by decide⟩ ?_
        refine ev_iload dX3_fulfil_54 rfl ?_
        rw [hr1]
        refine ev_cV2v dX3_fulfil_56 ceX5_readPage kX3_36 (rm_le rfl rfl) (Nat.le_of_ble_eq_true rfl) (Nat.le_of_ble_eq_true rfl) (eC) (by first | assumption | rfl) ?_
        refine ev_iload_n dX3_fulfil_59 rfl ?_
        refine ev_aload_n dX3_fulfil_60 rfl ?_
        refine ev_getR dX3_fulfil_61 fX3_18 (by first | assumption | rfl) (by rfl) ?_
        refine ev_iload dX3_fulfil_64 rfl ?_
        refine ev_ialdE _ dX3_fulfil_66 (rfl) (by first | assumption | rfl) ⟨by omega, by decide⟩ ?_
        rw [w1]
        refine ev_iadd dX3_fulfil_67 ?_
        refine ev_istore_k 3 dX3_fulfil_68 rfl (by decide) rfl ?_
        refine ev_iinc (v := (nI 1)) dX3_fulfil_69 rfl (by decide) (by decide) rfl ?_
        refine ev_goto 5 dX3_fulfil_72 (by decide) ?_
        exact ev_stw hE (by rw [eg]; simp [rf_sub, nI_add]) rfl rfl
      · refine ev_iload dX7_grantAll_5 rfl ?_
        refine ev_aload_n dX7_grantAll_7 rfl ?_
        refine ev_getI dX7_grantAll_8 fX7_131 (by first | assumption | rfl) (by rfl) ?_
        refine ev_icmp_ge 76 dX7_grantAll_11 (by decide) (fun hc11 => False.elim (lp_s g17 (by omega) hi hc11)) (fun hc11 => ?_)
        refine ev_iload_n dX7_grantAll_14 rfl ?_
        refine ev_iload dX7_grantAll_15 rfl ?_
        refine ev_cS2 dX7_grantAll_17 ceX7_has kX7_220 (rm_le rfl rfl) (Nat.le_of_ble_eq_true rfl) (Nat.le_of_ble_eq_true rfl) (e7_hasN hS (by omega)) ?_
        refine ev_if_eq 38 dX7_grantAll_20 (by decide) (fun hc20 => False.elim (by rw [b2i_0, hh] at hc20; cases hc20)) (fun hc20 => ?_)
        refine ev_aload_n dX7_grantAll_23 rfl ?_
        refine ev_iload_n dX7_grantAll_24 rfl ?_
        refine ev_aload_n dX7_grantAll_25 rfl ?_
        refine ev_getR dX7_grantAll_26 fX7_45 (by first | assumption | rfl) (by rfl) ?_
        refine ev_iload dX7_grantAll_29 rfl ?_
        refine ev_ialdE _ dX7_grantAll_31 (by first | with_reducible rfl | with_reducible exact nI_add _ _ | with_reducible exact ix3 _ _ _ | with_reducible exact ix_k _ _ _ | with_reducible exact ix_xk _ _ _ _) (by first | assumption | rfl) ⟨by omega, by decide⟩ ?_
        rw [u2]
        refine ev_cV2 dX7_grantAll_32 ceX7_palest kX7_223 (rm_le rfl rfl) (Nat.le_of_ble_eq_true rfl) (Nat.le_of_ble_eq_true rfl) (e7_palest hx p2 p3) (by first | assumption | rfl) ?_
        rw [dk]
        refine ev_goto 39 dX7_grantAll_35 (by decide) ?_
        refine ev_istore dX7_grantAll_39 (by decide) rfl ?_
        refine ev_iload dX7_grantAll_41 rfl ?_
        refine ev_if_lt 70 dX7_grantAll_43 (by decide) (fun hc43 => False.elim (nI_pos (by omega) hc43)) (fun hc43 => ?_)
        refine ev_aload_n dX7_grantAll_46 rfl ?_
        refine ev_iload_n dX7_grantAll_47 rfl ?_
        refine ev_aload_n dX7_grantAll_48 rfl ?_
        refine ev_getR dX7_grantAll_49 fX7_42 (by first | assumption | rfl) (by rfl) ?_
        refine ev_iload dX7_grantAll_52 rfl ?_
        refine ev_ialdE _ dX7_grantAll_54 (by first | with_reducible rfl | with_reducible exact nI_add _ _ | with_reducible exact ix3 _ _ _ | with_reducible exact ix_k _ _ _ | with_reducible exact ix_xk _ _ _ _) (by first | assumption | rfl) ⟨by omega, by decide⟩ ?_
        refine ev_iload dX7_grantAll_55 rfl ?_
        rw [u1]
        refine ev_cV3v dX7_grantAll_57 ceX7_readPage kX7_188 (rm_le rfl rfl) (Nat.le_of_ble_eq_true rfl) (Nat.le_of_ble_eq_true rfl) (eG) (by first | assumption | rfl) ?_
        refine ev_iload_n dX7_grantAll_60 rfl ?_
        refine ev_aload_n dX7_grantAll_61 rfl ?_
        refine ev_getR dX7_grantAll_62 fX7_48 (by first | assumption | rfl) (by rfl) ?_
        refine ev_iload dX7_grantAll_65 rfl ?_
        refine ev_ialdE _ dX7_grantAll_67 (by first | with_reducible rfl | with_reducible exact nI_add _ _ | with_reducible exact ix3 _ _ _ | with_reducible exact ix_k _ _ _ | with_reducible exact ix_xk _ _ _ _) (by first | assumption | rfl) ⟨by omega, by decide⟩ ?_
        rw [w2]
        refine ev_iadd dX7_grantAll_68 ?_
        refine ev_istore_k 3 dX7_grantAll_69 rfl (by decide) rfl ?_
        refine ev_iinc (v := (nI 1)) dX7_grantAll_70 rfl (by decide) (by decide) rfl ?_
        refine ev_goto 5 dX7_grantAll_73 (by decide) ?_
        exact ev_stw hE (by rw [eg]; simp [rf_sub, nI_add]) rfl rfl
      · rw [rnB]
        by_cases z : l' = l
        · subst z; unfold ssB; rw [ea, ← dv]; exact x3 _ (hvl l' hl')
        · rw [vw_no (ea2 l' z)]; exact x2 l' _ (by omega) z (hvl l' hl')
set_option maxRecDepth 20000 in
set_option maxHeartbeats 2000000 in
theorem sim_grantsX {w : Bool} {n d nl nr nq S : Nat} {tm : Nat → Nat} {B : rf_Mem} (hS : S < 2 ^ 31) : ∀ (m i : Nat) (C G : rf_Mem), nq - i = m → i ≤ nq → Sim w 33 1500 n d nl nr tm C G → Rq nq nl nr C G → Vc B C n → (∀ l, l < nl → Vl C B n nr l (rnB B n l S i)) → ∃ C' G', Ev LayC mX3_fulfil 5 [some (.ref 14), some (.int (nI S)), some (.ref 33), some (.int (nI (smL (fun l => gsB B n l S (i)) nl))), some (.int (nI (i))), none] [] C (some (.int (nI (smL (fun l => gsB B n l S (nq)) nl)))) C' ∧ Ev LayM mX7_grantAll 5 [some (.ref 0), some (.int (nI 1500)), some (.int (nI S)), some (.int (nI (smL (fun l => gsB B n l S (i)) nl))), some (.int (nI (i))), none] [] G (some (.int (nI (smL (fun l => gsB B n l S (nq)) nl)))) G' ∧ Sim w 33 1500 n d nl nr tm C' G' ∧ Rq nq nl nr C' G' ∧ FrC 33 C C' ∧ FrG 1500 G G' ∧ Vc B C' n ∧ ∀ l, l < nl → Vl C' B n nr l (rnB B n l S (nq)) := by
  intro m
  induction m with
  | zero =>
    intro i C G hm hi h hR hc hvl
    have e : i = nq := by omega
    subst e
    obtain ⟨c14, g17, hnq, -⟩ := id hR
    refine ⟨C, G, ?_, ?_, h, hR, FrC.rf 33 C, FrG.rf 1500 G, hc, hvl⟩
    · refine ev_iload dX3_fulfil_5 rfl ?_
      refine ev_aload_n dX3_fulfil_7 rfl ?_
      refine ev_getI dX3_fulfil_8 fX3_21 (by first | assumption | rfl) (by rfl) ?_
      refine ev_icmp_ge 75 dX3_fulfil_11 (by decide) (fun hc11 => ?_) (fun hc11 => False.elim (lp_x c14 (by omega) hc11))
      refine ev_iload_n dX3_fulfil_75 rfl ?_
      exact ev_iretE dX3_fulfil_76 rfl rfl (by first | rfl | simp_all) (rfl)
    · refine ev_iload dX7_grantAll_5 rfl ?_
      refine ev_aload_n dX7_grantAll_7 rfl ?_
      refine ev_getI dX7_grantAll_8 fX7_131 (by first | assumption | rfl) (by rfl) ?_
      refine ev_icmp_ge 76 dX7_grantAll_11 (by decide) (fun hc11 => ?_) (fun hc11 => False.elim (lp_x g17 (by omega) hc11))
      refine ev_iload_n dX7_grantAll_76 rfl ?_
      exact ev_iretE dX7_grantAll_77 rfl rfl (by first | rfl | simp_all) (rfl)
  | succ m ih =>
    intro i C G hm hi h hR hc hvl
    obtain ⟨C1, G1, u1, u2, s1, r1, f1, f2, v1, v2⟩ := sim_askX (nI (smL (fun l => gsB B n l S (i)) nl)) hS (show i < nq by omega) h hR hc hvl
    obtain ⟨C2, G2, u3, u4, s2, r2, f3, f4, v3, v4⟩ := ih (i + 1) C1 G1 (by omega) (by omega) s1 r1 v1 v2
    have hli : rlB B i < nl := by
      obtain ⟨-, -, hq10, hrq⟩ := id hR
      obtain ⟨-, -, -, -, ⟨l, hl, hl1⟩, -⟩ := hrq i (by omega)
      have : rlB B i = l := by unfold rlB; rw [← hc.1 16 (by omega), hl1]; exact nI_clamp (by have := h.1.2.2.1; omega)
      omega
    have eT := gs_step (B := B) (n := n) (nl := nl) (S := S) (i := i) hli
    rw [nI_add, ← eT] at u1 u2
    exact ⟨C2, G2, u1 _ _ u3, u2 _ _ u4, s2, r2, f1.tr f3, f2.tr f4, v3, v4⟩
set_option maxRecDepth 20000 in
set_option maxHeartbeats 2000000 in
theorem sim_grantX {w : Bool} {n d nl nr nq S : Nat} {tm : Nat → Nat} {B C G : rf_Mem} (hS : S < 2 ^ 31) (h : Sim w 33 1500 n d nl nr tm C G) (hR : Rq nq nl nr C G) (hc : Vc B C n) (hvl : ∀ l, l < nl → Vl C B n nr l (rnB B n l S (0))) : ∃ C' G', Ev LayC mX3_fulfil 0 (rf_ent 6 [.ref 14, .int (nI S), .ref 33]) [] C (some (.int (nI (smL (fun l => gsB B n l S (nq)) nl)))) C' ∧ Ev LayM mX7_grantAll 0 (rf_ent 6 [.ref 0, .int (nI 1500), .int (nI S)]) [] G (some (.int (nI (smL (fun l => gsB B n l S (nq)) nl)))) G' ∧ Sim w 33 1500 n d nl nr tm C' G' ∧ Rq nq nl nr C' G' ∧ FrC 33 C C' ∧ FrG 1500 G G' ∧ Vc B C' n ∧ ∀ l, l < nl → Vl C' B n nr l (rnB B n l S (nq)) := by
  obtain ⟨C2, G2, u1, u2, s2, r2, f1, f2, v1, v2⟩ := sim_grantsX hS nq 0 C G (by omega) (Nat.zero_le _) h hR hc hvl
  have e0 : smL (fun l => gsB B n l S 0) nl = 0 := smL_z (fun _ _ => rfl)
  rw [e0] at u1 u2
  refine ⟨C2, G2, ?_, ?_, s2, r2, f1, f2, v1, v2⟩
  · refine ev_iconst (v := (nI 0)) dX3_fulfil_0 (by decide) ?_
    refine ev_istore_k 3 dX3_fulfil_1 rfl (by decide) rfl ?_
    refine ev_iconst (v := (nI 0)) dX3_fulfil_2 (by decide) ?_
    refine ev_istore dX3_fulfil_3 (by decide) rfl ?_
    exact ev_stw u1 ⟨rfl, rfl, rfl, rfl, rfl, trivial⟩ rfl rfl
  · refine ev_iconst (v := (nI 0)) dX7_grantAll_0 (by decide) ?_
    refine ev_istore_k 3 dX7_grantAll_1 rfl (by decide) rfl ?_
    refine ev_iconst (v := (nI 0)) dX7_grantAll_2 (by decide) ?_
    refine ev_istore dX7_grantAll_3 (by decide) rfl ?_
    exact ev_stw u2 ⟨rfl, rfl, rfl, rfl, rfl, trivial⟩ rfl rfl
