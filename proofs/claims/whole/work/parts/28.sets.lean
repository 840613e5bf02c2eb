/-! sets as numbers; counts of bits -/
def ksN (P : Nat → Bool) : Nat → Nat
  | 0 => 0
  | n + 1 => ksN P n + (if P n then 2 ^ n else 0)
theorem ksN_lt (P : Nat → Bool) : ∀ n, ksN P n < 2 ^ n
  | 0 => by simp [ksN]
  | n + 1 => by
    have h := ksN_lt P n
    have e : 2 ^ (n + 1) = 2 ^ n + 2 ^ n := by rw [Nat.pow_succ]; omega
    rw [ksN]
    split <;> omega
theorem sh_1 {n : Nat} (h : n < 31) : nI 1 <<< (nI n &&& 31) = nI (2 ^ n) := by
  have h2 : 2 ^ n < 2 ^ 32 := Nat.pow_lt_pow_right (by decide) (by omega)
  rw [pk_shlN (nI n &&& 31) n (hs_s n (by omega)) (by omega), Nat.one_mul]
theorem kset_N (P : Nat → Bool) : ∀ n, n ≤ 31 → kset P n = nI (ksN P n)
  | 0, _ => rfl
  | n + 1, h => by
    have ih := kset_N P n (by omega)
    rw [kset, ksN, ih]
    by_cases hp : P n = true
    · rw [if_pos hp, if_pos hp, sh_1 (by omega)]
      have e := fa_or_sum (a := ksN P n) (k := n) 1 (ksN_lt P n)
      rw [Nat.mul_one] at e
      rw [fa_or, Nat.or_comm, ← fa_or, e, Nat.add_comm]
    · rw [if_neg hp, if_neg hp, Nat.add_zero]
theorem hb_add {a n i : Nat} (ha : a < 2 ^ n) (b : Bool) : hb (a + (if b then 2 ^ n else 0)) i = if i = n then b else if i < n then hb a i else false := by
  unfold hb
  rcases Nat.lt_trichotomy i n with h | h | h
  · rw [if_neg (show ¬ i = n by omega), if_pos h]
    cases b with
    | false => simp
    | true =>
      have e : 2 ^ n = 2 ^ i * (2 * 2 ^ (n - i - 1)) := by
        rw [← Nat.pow_succ', ← Nat.pow_add]
        congr 1
        omega
      have e2 : (a + 2 ^ n) / 2 ^ i % 2 = a / 2 ^ i % 2 := by
        rw [e, Nat.add_mul_div_left _ _ (Nat.two_pow_pos i), Nat.add_mul_mod_self_left]
      simp [e2]
  · subst h
    rw [if_pos rfl]
    cases b with
    | false =>
      have e : a / 2 ^ i = 0 := Nat.div_eq_of_lt ha
      simp [e]
    | true =>
      have e : (a + 2 ^ i) / 2 ^ i = 1 := by
        rw [Nat.add_div_right _ (Nat.two_pow_pos i), Nat.div_eq_of_lt ha]
      simp [e]
  · rw [if_neg (show ¬ i = n by omega), if_neg (show ¬ i < n by omega)]
    have h1 : 2 ^ (n + 1) ≤ 2 ^ i := Nat.pow_le_pow_right (by decide) (by omega)
    have h2 : 2 ^ (n + 1) = 2 ^ n + 2 ^ n := by rw [Nat.pow_succ]; omega
    have e : (a + (if b then 2 ^ n else 0)) / 2 ^ i = 0 := Nat.div_eq_of_lt (by split <;> omega)
    rw [e]
    rfl
theorem hb_ks (P : Nat → Bool) (i : Nat) : ∀ n, hb (ksN P n) i = (decide (i < n) && P i)
  | 0 => by simp [ksN, hb]
  | n + 1 => by
    rw [ksN, hb_add (ksN_lt P n), hb_ks P i n]
    by_cases h : i = n
    · subst h; simp
    · rw [if_neg h]
      by_cases h2 : i < n
      · have : i < n + 1 := by omega
        simp [h2, this]
      · have : ¬ i < n + 1 := by omega
        simp [h2, this]
theorem ct_ks (P : Nat → Bool) (n : Nat) : ∀ m, n ≤ m → fb_ct (hb (ksN P n)) m = fb_ct P n := by
  have low : fb_ct (hb (ksN P n)) n = fb_ct P n := fb_ct_cong (fun k hk => by rw [hb_ks]; simp [hk])
  intro m hm
  obtain ⟨e, rfl⟩ : ∃ e, m = n + e := ⟨m - n, by omega⟩
  rw [fb_ct_split, low]
  have z : fb_ct (fun k => hb (ksN P n) (n + k)) e = 0 := fb_ct_zero.mpr (fun k _ => by rw [hb_ks, decide_eq_false (show ¬ n + k < n by omega)]; rfl)
  omega
theorem bc_N : ∀ k, k < 1024 → bcI (nI k) = nI (fb_ct (hb k) 10) := by decide +kernel
theorem on_N {k : Nat} (hk : k < 2 ^ 31) : ∀ m, m ≤ 31 → onI (nI k) m = nI (fb_ct (hb k) m)
  | 0, _ => rfl
  | m + 1, h => by
    rw [onI, on_N hk m (by omega), has_s hk (by omega), nI_add, fb_ct_succ]
    congr 2
    have h2 : k / 2 ^ m % 2 < 2 := Nat.mod_lt _ (by decide)
    unfold hb
    by_cases e : k / 2 ^ m % 2 = 1
    · simp [e]
    · have e0 : k / 2 ^ m % 2 = 0 := by omega
      simp [e0]
theorem bc_ks (P : Nat → Bool) {n : Nat} (hn : n ≤ 10) : bcI (kset P n) = nI (fb_ct P n) := by
  have h : ksN P n < 1024 := Nat.lt_of_lt_of_le (ksN_lt P n) (Nat.pow_le_pow_right (by decide) hn : 2 ^ n ≤ 2 ^ 10)
  rw [kset_N P n (by omega), bc_N _ h, ct_ks P n 10 hn]
theorem on_ks (P : Nat → Bool) {n : Nat} (hn : n ≤ 16) : onI (kset P n) 16 = nI (fb_ct P n) := by
  have h : ksN P n < 2 ^ 31 := Nat.lt_of_lt_of_le (ksN_lt P n) (Nat.pow_le_pow_right (by decide) (by omega))
  rw [kset_N P n (by omega), on_N h 16 (by decide), ct_ks P n 16 hn]
/-! the first hit and the last, where there is one at most -/
theorem last_none {P : Nat → Bool} : ∀ {n : Nat}, (∀ j, j < n → P j = false) → lastI P n = -1
  | 0, _ => rfl
  | n + 1, h => by rw [lastI, h n (by omega)]; exact last_none (fun j hj => h j (by omega))
theorem last_hit {P : Nat → Bool} : ∀ {n i : Nat}, i < n → P i = true → (∀ j, j < n → P j = true → j = i) → lastI P n = nI i
  | 0, _, h, _, _ => absurd h (Nat.not_lt_zero _)
  | n + 1, i, h, hp, hu => by
    rw [lastI]
    by_cases e : P n = true
    · rw [if_pos e, hu n (by omega) e]
    · rw [if_neg e]
      have h2 : i ≠ n := fun z => e (by rw [← z]; exact hp)
      exact last_hit (by omega) hp (fun j hj => hu j (by omega))
theorem fst_last {P R : Nat → Bool} {n m : Nat} (hnm : n ≤ m) (hPR : ∀ j, j < n → P j = R j) (hz : ∀ j, n ≤ j → j < m → R j = false) (hu : ∀ i j, i < m → j < m → R i = true → R j = true → i = j) : lastI R m = fFst P n := by
  by_cases h : ∃ i, i < n ∧ P i = true
  · obtain ⟨i, h1, h2, h3⟩ := fb_first (p := fun i => P i = true) h
    rw [fFst_hit h1 (fun j hj => by cases e : P j with | false => rfl | true => exact absurd e (h3 j hj)) h2]
    have hR : R i = true := by rw [← hPR i h1]; exact h2
    exact last_hit (by omega) hR (fun j hj hj2 => hu j i hj (by omega) hj2 hR)
  · have h0 : ∀ j, j < n → P j = false := fun j hj => by cases e : P j with | false => rfl | true => exact absurd ⟨j, hj, e⟩ h
    rw [fFst_none h0]
    refine last_none (fun j hj => ?_)
    rcases Nat.lt_or_ge j n with z | z
    · rw [← hPR j z]; exact h0 j z
    · exact hz j z hj
