/-! the least prime divisor, roots, numbers without a factor, sums of divisors: what the loops come to -/
def zIsLp (n p : Nat) : Prop := 2 ≤ p ∧ n % p = 0 ∧ ∀ e, 2 ≤ e → e < p → n % e ≠ 0
noncomputable def zLp (n : Nat) : Nat := Classical.epsilon (zIsLp n)
theorem zLp_of {n p : Nat} (h : zIsLp n p) : zLp n = p := by
  have h1 : zIsLp n (zLp n) := Classical.epsilon_spec (⟨p, h⟩ : ∃ p, zIsLp n p)
  rcases Nat.lt_trichotomy (zLp n) p with q | q | q
  · exact absurd h1.2.1 (h.2.2 _ h1.1 q)
  · exact q
  · exact absurd h.2.1 (h1.2.2 _ h.1 q)
theorem zLp_ex {n d : Nat} (hn : 2 ≤ n) (hd : 2 ≤ d) (hf : ∀ e, 2 ≤ e → e < d → n % e ≠ 0) (h : n < d * d) : zIsLp n n := by
  refine ⟨hn, Nat.mod_self n, fun e h1 h2 h3 => ?_⟩
  have hed : d ≤ e := Nat.le_of_not_lt fun q => hf e h1 q h3
  have h4 : e * (n / e) = n := Nat.mul_div_cancel' (Nat.dvd_of_mod_eq_zero h3)
  have h5 : 2 ≤ n / e := by
    rcases Nat.lt_or_ge (n / e) 2 with q | q
    · have : e * (n / e) ≤ e * 1 := Nat.mul_le_mul_left e (by omega)
      omega
    · exact q
  have h6 : n % (n / e) = 0 := Nat.mod_eq_zero_of_dvd ⟨e, by rw [Nat.mul_comm]; exact h4.symm⟩
  have h7 : d ≤ n / e := Nat.le_of_not_lt fun q => hf _ h5 q h6
  have h8 := Nat.mul_le_mul hed h7
  omega
theorem zLp_is {n : Nat} (hn : 2 ≤ n) : zIsLp n (zLp n) := by
  have h : ∃ p, zIsLp n p := by
    obtain ⟨p, hp, hm⟩ := pk_least (fun p => 2 ≤ p ∧ n % p = 0) ⟨n, hn, Nat.mod_self n⟩
    exact ⟨p, hp.1, hp.2, fun e h1 h2 h3 => hm e h2 ⟨h1, h3⟩⟩
  exact Classical.epsilon_spec h
theorem zsq_lt {d : Nat} (h : d < 2 ^ 31) : d * d < 2 ^ 63 := by
  have := Nat.mul_le_mul (Nat.le_of_lt h) (Nat.le_of_lt h)
  omega
theorem zd_1 {d n : Nat} (hd : 2 ≤ d) (h : d * d ≤ n) : d + 1 ≤ n := by
  have := Nat.mul_le_mul_right d hd
  omega
theorem zd_2 {d n : Nat} (hd : 3 ≤ d) (h : d * d ≤ n) : d + 2 ≤ n := by
  have := Nat.mul_le_mul_right d hd
  omega
theorem zf_1 {n d : Nat} (hf : ∀ e, 2 ≤ e → e < d → n % e ≠ 0) (h : n % d ≠ 0) : ∀ e, 2 ≤ e → e < d + 1 → n % e ≠ 0 := fun e h1 h2 => by
  rcases Nat.lt_or_ge e d with q | q
  · exact hf e h1 q
  · rw [show e = d by omega]; exact h
theorem zf_2 {n d : Nat} (h2 : n % 2 ≠ 0) (ho : d % 2 = 1) (hf : ∀ e, 2 ≤ e → e < d → n % e ≠ 0) (h : n % d ≠ 0) : ∀ e, 2 ≤ e → e < d + 2 → n % e ≠ 0 := fun e h1 h3 => by
  rcases Nat.lt_or_ge e (d + 1) with q | q
  · exact zf_1 hf h e h1 q
  · rw [show e = d + 1 by omega]
    intro h4
    obtain ⟨c, hc⟩ := Nat.dvd_of_mod_eq_zero h4
    have h5 : (d + 1) * c % 2 = 0 := by rw [Nat.mul_mod, show (d + 1) % 2 = 0 by omega]; simp
    omega
def zWf : Nat → Nat → Nat → Nat
  | 0, _, n => n
  | k + 1, f, n => if n ≠ 0 ∧ n % f = 0 then zWf k f (n / f) else n
def zIsRt (n r : Nat) : Prop := r * r ≤ n ∧ n < (r + 1) * (r + 1)
noncomputable def zSq2 (n : Nat) : Nat := Classical.epsilon (zIsRt n)
theorem zIsRt_u {n r q : Nat} (h : zIsRt n r) (h1 : zIsRt n q) : r = q := by
  rcases Nat.lt_trichotomy r q with c | c | c
  · have := Nat.mul_le_mul (show r + 1 ≤ q from c) (show r + 1 ≤ q from c)
    have := h.2; have := h1.1; omega
  · exact c
  · have := Nat.mul_le_mul (show q + 1 ≤ r from c) (show q + 1 ≤ r from c)
    have := h1.2; have := h.1; omega
theorem zSq2_of {n r : Nat} (h : zIsRt n r) : zSq2 n = r := zIsRt_u (Classical.epsilon_spec (⟨r, h⟩ : ∃ r, zIsRt n r)) h
/-- a sum over the numbers below an end of those that a test takes -/
def zSm (p : Nat → Bool) : Nat → Nat
  | 0 => 0
  | k + 1 => zSm p k + (if p k then k else 0)
theorem zSm_c {p q : Nat → Bool} {k : Nat} (h : ∀ e, e < k → p e = q e) : zSm p k = zSm q k := by
  induction k with
  | zero => rfl
  | succ k ih => rw [zSm, zSm, ih (fun e he => h e (by omega)), h k (by omega)]
theorem zSm_1 {p q : Nat → Bool} {k a : Nat} (ha : a < k) (hp : p a = false) (hq : q a = true) (h : ∀ e, e < k → e ≠ a → p e = q e) : zSm q k = zSm p k + a := by
  induction k with
  | zero => omega
  | succ k ih =>
    rw [zSm, zSm]
    by_cases hk : a = k
    · subst hk
      rw [zSm_c (fun e he => (h e (by omega) (by omega)).symm), hp, hq]
      simp
    · rw [ih (by omega) (fun e he h1 => h e (by omega) h1), h k (by omega) (fun q => hk q.symm)]
      omega
/-- the sum of the divisors of n that b does not divide -/
def zSd (n b : Nat) : Nat := zSm (fun e => decide (n % e = 0) && decide (e % b ≠ 0) && decide (1 ≤ e)) (n + 1)
/-- those that were met up to d, with their others -/
def zSp (n b d : Nat) : Nat := zSm (fun e => decide (n % e = 0) && decide (e % b ≠ 0) && decide (1 ≤ e) && (decide (e < d) || decide (n / e < d))) (n + 1)
theorem zSp_1 (n b : Nat) : zSp n b 1 = 0 := by
  have h : ∀ k, k ≤ n + 1 → zSm (fun e => decide (n % e = 0) && decide (e % b ≠ 0) && decide (1 ≤ e) && (decide (e < 1) || decide (n / e < 1))) k = 0 := by
    intro k
    induction k with
    | zero => intro _; rfl
    | succ k ih =>
      intro hk
      rw [zSm, ih (by omega)]
      by_cases h0 : k = 0
      · simp [h0]
      · have : ¬ n / k < 1 := by
          have := Nat.div_pos (show k ≤ n by omega) (by omega)
          omega
        have h1 : ¬ k < 1 := by omega
        simp [this, h1]
  exact h _ (Nat.le_refl _)
theorem zSp_end {n b d : Nat} (h : n < d * d) : zSp n b d = zSd n b := by
  apply zSm_c
  intro e he
  by_cases h1 : n % e = 0
  · have h4 : e * (n / e) = n := Nat.mul_div_cancel' (Nat.dvd_of_mod_eq_zero h1)
    have : e < d ∨ n / e < d := by
      rcases Nat.lt_or_ge e d with q | q
      · exact Or.inl q
      · rcases Nat.lt_or_ge (n / e) d with q2 | q2
        · exact Or.inr q2
        · have := Nat.mul_le_mul q q2
          omega
    rcases this with q | q <;> simp [q]
  · simp [h1]
theorem zrt_le {v p : Nat} (h : v * v ≤ p) : v ≤ p := by
  rcases Nat.eq_zero_or_pos v with q | q
  · omega
  · have := Nat.mul_le_mul_right v q
    omega
