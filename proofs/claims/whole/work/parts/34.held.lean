/-! whole numbers once more; what is held -/
theorem nI_div {a b : Nat} (ha : a < 2 ^ 31) (hb : b < 2 ^ 31) : nI a / nI b = nI (a / b) := by
  rw [jz_nI, jz_nI, jz_div (by omega) (by omega) (by omega), Int.tdiv_eq_ediv_of_nonneg (by omega), jz_nI, Int.natCast_ediv]
theorem nI_rem {a b : Nat} (ha : a < 2 ^ 31) (hb : b < 2 ^ 31) : nI a - nI a / nI b * nI b = nI (a % b) := by
  rw [jz_nI, jz_nI, jz_rem (by omega) (by omega) (by omega), Int.tmod_eq_emod_of_nonneg (by omega), jz_nI, Int.natCast_emod]
theorem iz_dx {x : Int} {g : Nat} (hx : x.natAbs < 9223372036854775808) (hg : g < 9223372036854775808) (hd : (g : Int) ∣ x) : iz x / lN g = iz (x / g) := by
  rw [iz_lN, iz_div (by omega) (by omega) (by omega), Int.tdiv_eq_ediv_of_dvd hd]
abbrev i4V (P : i4) : Prop := i4o P ∧ i4q P ≤ 4000000000
noncomputable def nN (P : i4) : Nat := (i4n P).toNat
theorem nN_i (P : i4) : (nN P : Int) = i4n P := Int.toNat_of_nonneg (i4n_nn P)
theorem nN_le {P : i4} (h : i4V P) : nN P ≤ 1000000000 := by
  have h1 := i4q_4 h.1
  have h2 := nN_i P
  have h3 := h.2
  omega
theorem nN_z {P : i4} (h : i4V P) : zNm (z4i P) = lN (nN P) := by
  have h3 := h.2
  rw [z4i_n (by omega), iz_lN, nN_i]
theorem nN_pos {P : i4} (h : i4V P) : i4q P ≠ 0 ↔ 1 ≤ nN P := by
  have h1 := i4q_4 h.1
  have h2 := nN_i P
  have h3 := i4q_nn P
  omega
theorem sq_63 {x : Int} (h : ¬ x.natAbs ≤ 63245) : 4000056516 ≤ x * x := by
  have := zsq_le (a := 63246) (u := x) (by show (63246 : Int).natAbs ≤ x.natAbs; have : (63246 : Int).natAbs = 63246 := rfl; omega)
  omega
theorem zFar_i {x : Int} (h : x.natAbs ≤ 4611686018427387904) : zFar (iz x) ↔ ¬ x.natAbs ≤ 63245 := by
  unfold zFar
  rw [show (-63245 : Int64) = iz (-63245) from rfl, show (63245 : Int64) = iz 63245 from rfl, iz_lt (by omega) (by omega), iz_lt (by omega) (by omega)]
  omega
theorem zBig_i {P : i4} (h : i4l P 4611686018427387904) : zBig (z4i P) ↔ 1000000000 < i4n P := by
  obtain ⟨h1, h2, h3, h4⟩ := h
  have k1 := zFar_i h1
  have k2 := zFar_i h2
  have k3 := zFar_i h3
  have k4 := zFar_i h4
  have s1 := zsn P.1
  have s2 := zsn P.2.1
  have s3 := zsn P.2.2.1
  have s4 := zsn P.2.2.2
  have eq : i4q P = P.1 * P.1 + P.2.1 * P.2.1 + P.2.2.1 * P.2.2.1 + P.2.2.2 * P.2.2.2 := rfl
  have en : i4n P = i4q P / 4 := rfl
  show (zFar (iz P.1) ∨ zFar (iz P.2.1) ∨ zFar (iz P.2.2.1) ∨ zFar (iz P.2.2.2) ∨ 1000000000 < zNm (z4i P)) ↔ _
  rw [k1, k2, k3, k4]
  by_cases q1 : P.1.natAbs ≤ 63245
  · by_cases q2 : P.2.1.natAbs ≤ 63245
    · by_cases q3 : P.2.2.1.natAbs ≤ 63245
      · by_cases q4 : P.2.2.2.natAbs ≤ 63245
        · have f : ∀ {x : Int}, x.natAbs ≤ 63245 → x * x ≤ 63245 * 63245 := fun {x} hx => zsq_le (a := x) (u := 63245) hx
          have f1 := f q1
          have f2 := f q2
          have f3 := f q3
          have f4 := f q4
          have hq : i4q P < 9223372036854775808 := by omega
          have hn := i4n_nn P
          simp only [q1, q2, q3, q4, not_true, false_or]
          rw [z4i_n hq, show (1000000000 : Int64) = iz 1000000000 from rfl, iz_lt (by omega) (by omega)]
        · have := sq_63 q4
          simp only [q4, not_false_iff, true_or, or_true, true_iff]
          omega
      · have := sq_63 q3
        simp only [q3, not_false_iff, true_or, or_true, true_iff]
        omega
    · have := sq_63 q2
      simp only [q2, not_false_iff, true_or, or_true, true_iff]
      omega
  · have := sq_63 q1
    simp only [q1, not_false_iff, true_or, true_iff]
    omega
theorem wh_z {P : i4} {a : Nat} (h : i4l P a) (ha : a < 9223372036854775808) : zWh (z4i P) = lN (wh P) := by
  have hg := z4i_g h ha
  have hl := g4_lt h ha
  obtain ⟨d1, d2, d3, d4⟩ := g4_dvd P
  have hd := z4i_d h ha hl d1 d2 d3 d4
  unfold zWh
  rw [hg]
  have e0 : lN (g4 P) = 0 ↔ g4 P = 0 := by rw [show (0 : Int64) = lN 0 from rfl, pk_lEQ hl (by decide)]
  have e1 : ((z4i P).1 / lN (g4 P) &&& (z4i P).2.1 / lN (g4 P) &&& (z4i P).2.2.1 / lN (g4 P) &&& (z4i P).2.2.2 / lN (g4 P) &&& 1 = 1) ↔ i4O (i4d P (g4 P)) := by
    have : zOd (zDiv (z4i P) (lN (g4 P))) ↔ i4O (i4d P (g4 P)) := by
      rw [hd, zOd_iff]
      have k : ∀ {x : Int}, x.natAbs ≤ a → (iz (x / (g4 P : Int))).toInt = x / (g4 P : Int) := fun {x} hx => by
        have h1 : (x / (g4 P : Int)).natAbs ≤ x.natAbs := Int.natAbs_ediv_le_natAbs _ _
        exact iz_i (by omega)
      show (iz (P.1 / (g4 P : Int))).toInt % 2 ≠ 0 ∧ (iz (P.2.1 / (g4 P : Int))).toInt % 2 ≠ 0 ∧ (iz (P.2.2.1 / (g4 P : Int))).toInt % 2 ≠ 0 ∧ (iz (P.2.2.2 / (g4 P : Int))).toInt % 2 ≠ 0 ↔ _
      rw [k h.1, k h.2.1, k h.2.2.1, k h.2.2.2]
      exact Iff.rfl
    exact this
  unfold wh
  by_cases q : g4 P = 0
  · rw [if_pos (e0.mpr q), q]
    split <;> rfl
  · rw [if_neg (fun z => q (e0.mp z))]
    by_cases r : i4O (i4d P (g4 P))
    · rw [if_pos (e1.mpr r), if_pos r]
    · rw [if_neg (fun z => r (e1.mp z)), if_neg r, show (2 : Int64) = lN 2 from rfl, pk_lDiv hl (by decide) (by decide)]
noncomputable def idx (P : i4) : Nat := zWf 64 2 (nN P / wh P / wh P)
theorem wh_le {P : i4} (h : i4V P) (h0 : i4q P ≠ 0) : 1 ≤ wh P ∧ wh P * wh P ∣ nN P ∧ wh P ≤ nN P := by
  have hq : 0 < i4q P := zqpos h0
  have h1 := (wh_s h.1 hq).1
  obtain ⟨e, hp⟩ := wh_n h.1 hq
  have h2 : wh P * wh P ∣ nN P := by
    have : ((wh P * wh P : Nat) : Int) ∣ (nN P : Int) := by
      rw [nN_i, e, Int.natCast_mul]
      exact ⟨_, rfl⟩
    exact Int.natCast_dvd_natCast.mp this
  have h3 := (nN_pos h).mp h0
  have h4 := Nat.le_of_dvd h3 h2
  exact ⟨h1, h2, Nat.le_trans (Nat.le_mul_of_pos_left _ h1) h4⟩
theorem kind_n {P : i4} (h : i4V P) : kindI P = if i4q P = 0 then 0 else if nN P = 1 then 4 else if zLp (nN P) = nN P then 3 else if wh P = 1 then 2 else if P.1 % 2 ≠ 0 then 1 else 0 := by
  have h2 := nN_i P
  unfold kindI
  rw [show (i4n P).toNat = nN P from rfl]
  by_cases q : i4n P = 1
  · rw [if_pos q, if_pos (show nN P = 1 by omega)]
  · rw [if_neg q, if_neg (show ¬ nN P = 1 by omega)]
/-- the sum of the divisors grows by a divisor and its other -/
theorem zSp_s {n b d : Nat} (hn : 1 ≤ n) (hd : 1 ≤ d) (hdd : d * d ≤ n) : zSp n b (d + 1) = zSp n b d + (if n % d = 0 then (if d % b ≠ 0 then d else 0) + (if n / d ≠ d ∧ (n / d) % b ≠ 0 then n / d else 0) else 0) := by
  have other : ∀ e, n % e = 0 → 1 ≤ e → e * (n / e) = n := fun e h _ => Nat.mul_div_cancel' (Nat.dvd_of_mod_eq_zero h)
  by_cases h0 : n % d = 0
  · rw [if_pos h0]
    have ho := other d h0 hd
    have hge : d ≤ n / d := (Nat.le_div_iff_mul_le (by omega)).mpr hdd
    have hin : n / d < n + 1 := Nat.lt_succ_of_le (Nat.div_le_self _ _)
    have hdn : d < n + 1 := Nat.lt_succ_of_le (Nat.le_trans (Nat.le_mul_of_pos_left d hd) hdd)
    have hnn : n % (n / d) = 0 := Nat.mod_eq_zero_of_dvd ⟨d, by rw [Nat.mul_comm]; exact ho.symm⟩
    have hback : n / (n / d) = d := by
      have h1 : 0 < n / d := by omega
      rw [Nat.div_eq_iff_eq_mul_left h1 (Nat.dvd_of_mod_eq_zero hnn)]
      exact ho.symm
    let q1 : Nat → Bool := fun e => decide (n % e = 0) && decide (e % b ≠ 0) && decide (1 ≤ e) && (decide (e < d) || decide (n / e < d) || decide (e = d))
    have s1 : zSm q1 (n + 1) = zSp n b d + (if d % b ≠ 0 then d else 0) := by
      by_cases hb : d % b ≠ 0
      · rw [if_pos hb]
        refine zSm_1 (a := d) hdn ?_ ?_ ?_
        · have : ¬ n / d < d := by omega
          simp [this]
        · simp [q1, h0, hb, hd]
        · intro e _ he
          simp [q1, he]
      · rw [if_neg hb, Nat.add_zero]
        refine zSm_c fun e _ => ?_
        by_cases he : e = d
        · subst he
          have hb' : e % b = 0 := by omega
          simp [q1, hb']
        · simp [q1, he]
    have iff1 : ∀ e, 1 ≤ e → n % e = 0 → e ≠ n / d → ((e < d + 1 ∨ n / e < d + 1) ↔ (e < d ∨ n / e < d ∨ e = d)) := fun e h1 h2 h3 => by
      have := other e h2 h1
      constructor
      · rintro (q | q)
        · omega
        · rcases Nat.lt_or_ge (n / e) d with r | r
          · exact Or.inr (Or.inl r)
          · exfalso
            apply h3
            rw [show d = n / e by omega]
            have h1' : 0 < n / e := by omega
            rw [eq_comm, Nat.div_eq_iff_eq_mul_left h1' ⟨e, by rw [Nat.mul_comm]; exact this.symm⟩]
            exact this.symm
      · omega
    have s2 : zSp n b (d + 1) = zSm q1 (n + 1) + (if n / d ≠ d ∧ (n / d) % b ≠ 0 then n / d else 0) := by
      by_cases hb : n / d ≠ d ∧ (n / d) % b ≠ 0
      · rw [if_pos hb]
        refine zSm_1 (a := n / d) hin ?_ ?_ ?_
        · have h1 : ¬ n / d < d := by omega
          simp [q1, h1, hback, hb.1]
        · have h1 : 1 ≤ n / d := by omega
          simp [hnn, hb.2, h1, hback]
        · intro e _ he
          by_cases z : n % e = 0 ∧ 1 ≤ e
          · have := iff1 e z.2 z.1 he
            simp only [q1]
            congr 1
            rw [Bool.eq_iff_iff]
            simp only [Bool.or_eq_true, decide_eq_true_eq]
            rw [or_assoc]
            exact this.symm
          · have : (decide (n % e = 0) && decide (1 ≤ e)) = false := by simpa using z
            by_cases z1 : n % e = 0
            · have z2 : ¬ 1 ≤ e := fun t => z ⟨z1, t⟩
              simp [q1, z2]
            · simp [q1, z1]
      · rw [if_neg hb, Nat.add_zero]
        refine zSm_c fun e _ => ?_
        by_cases z1 : n % e = 0
        · by_cases z2 : 1 ≤ e
          · by_cases z3 : e = n / d
            · subst z3
              by_cases z4 : n / d = d
              · simp [q1, hback, z4]
              · have : (n / d) % b = 0 := by
                  rcases Nat.eq_zero_or_pos ((n / d) % b) with r | r
                  · exact r
                  · exact absurd ⟨z4, by omega⟩ hb
                simp [q1, this]
            · have := iff1 e z2 z1 z3
              simp only [q1]
              congr 1
              rw [Bool.eq_iff_iff]
              simp only [Bool.or_eq_true, decide_eq_true_eq]
              rw [or_assoc]
              exact this
          · simp [q1, z2]
        · simp [q1, z1]
    rw [s2, s1]
    omega
  · rw [if_neg h0, Nat.add_zero]
    refine zSm_c fun e _ => ?_
    by_cases z1 : n % e = 0
    · have h1 : e ≠ d := fun q => h0 (q ▸ z1)
      by_cases z2 : 1 ≤ e
      · have hot := other e z1 z2
        have h2 : n / e ≠ d := fun q => h0 (Nat.mod_eq_zero_of_dvd ⟨e, by rw [← q, Nat.mul_comm]; exact hot.symm⟩)
        have e1 : (e < d + 1) ↔ (e < d) := by omega
        have e2 : (n / e < d + 1) ↔ (n / e < d) := by omega
        simp only [e1, e2]
      · simp [z2]
    · simp [z1]
