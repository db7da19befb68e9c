/-! parity of bits; the whole divisor; kinds -/
theorem ev_l (x : Int64) : x &&& 1 = if x.toInt % 2 = 0 then 0 else 1 := by
  apply Int64.toBitVec.inj
  have h1 : (x &&& 1).toBitVec = x.toBitVec &&& 1#64 := rfl
  have h2 : x.toInt = x.toBitVec.toInt := rfl
  rw [h1, h2, BitVec.and_one_eq_setWidth_ofBool_getLsbD, BitVec.toInt_eq_toNat_cond]
  have h3 : x.toBitVec.getLsbD 0 = decide (x.toBitVec.toNat % 2 = 1) := by simp [BitVec.getLsbD, Nat.testBit_zero]
  rw [h3]
  have h4 : x.toBitVec.toNat % 2 = 0 ∨ x.toBitVec.toNat % 2 = 1 := by omega
  have h5 : ((if 2 * x.toBitVec.toNat < 2 ^ 64 then (x.toBitVec.toNat : Int) else (x.toBitVec.toNat : Int) - ((2 ^ 64 : Nat) : Int)) % 2 = 0) ↔ x.toBitVec.toNat % 2 = 0 := by
    split <;> omega
  rcases h4 with q | q
  · rw [if_pos (h5.mpr q), q]
    rfl
  · rw [if_neg (fun e => by rw [h5.mp e] at q; exact absurd q (by decide)), q]
    rfl
theorem ev_i (x : Int32) : x &&& 1 = if x.toInt % 2 = 0 then 0 else 1 := by
  apply Int32.toBitVec.inj
  have h1 : (x &&& 1).toBitVec = x.toBitVec &&& 1#32 := rfl
  have h2 : x.toInt = x.toBitVec.toInt := rfl
  rw [h1, h2, BitVec.and_one_eq_setWidth_ofBool_getLsbD, BitVec.toInt_eq_toNat_cond]
  have h3 : x.toBitVec.getLsbD 0 = decide (x.toBitVec.toNat % 2 = 1) := by simp [BitVec.getLsbD, Nat.testBit_zero]
  rw [h3]
  have h4 : x.toBitVec.toNat % 2 = 0 ∨ x.toBitVec.toNat % 2 = 1 := by omega
  have h5 : ((if 2 * x.toBitVec.toNat < 2 ^ 32 then (x.toBitVec.toNat : Int) else (x.toBitVec.toNat : Int) - ((2 ^ 32 : Nat) : Int)) % 2 = 0) ↔ x.toBitVec.toNat % 2 = 0 := by
    split <;> omega
  rcases h4 with q | q
  · rw [if_pos (h5.mpr q), q]
    rfl
  · rw [if_neg (fun e => by rw [h5.mp e] at q; exact absurd q (by decide)), q]
    rfl
theorem ev_z {x : Int} (h : iB x) : iz x &&& 1 = if x % 2 = 0 then 0 else 1 := by rw [ev_l, iz_i h]
theorem ev_and (a b : Int64) : (a &&& b) &&& 1 = 1 ↔ a &&& 1 = 1 ∧ b &&& 1 = 1 := by
  have e : (a &&& b) &&& 1 = (a &&& 1) &&& (b &&& 1) := by
    rw [Int64.and_assoc a 1 (b &&& 1), ← Int64.and_assoc 1 b 1, Int64.and_comm 1 b, Int64.and_assoc b 1 1, Int64.and_self, Int64.and_assoc]
  rw [e, ev_l a, ev_l b]
  split <;> split <;> decide
theorem ev_or (a b : Int64) : (a ||| b) &&& 1 = 0 ↔ a &&& 1 = 0 ∧ b &&& 1 = 0 := by
  have e : (a ||| b) &&& 1 = (a &&& 1) ||| (b &&& 1) := by
    apply Int64.toBitVec.inj
    show (a.toBitVec ||| b.toBitVec) &&& 1#64 = (a.toBitVec &&& 1#64) ||| (b.toBitVec &&& 1#64)
    apply BitVec.eq_of_getLsbD_eq
    intro i hi
    rw [BitVec.getLsbD_and, BitVec.getLsbD_or, BitVec.getLsbD_or, BitVec.getLsbD_and, BitVec.getLsbD_and, Bool.and_or_distrib_right]
  rw [e, ev_l a, ev_l b]
  split <;> split <;> decide
theorem ev_1 (x : Int64) : x &&& 1 = 1 ↔ x.toInt % 2 ≠ 0 := by
  rw [ev_l]
  split <;> rename_i h <;> simp [h]
theorem ev_0 (x : Int64) : x &&& 1 = 0 ↔ x.toInt % 2 = 0 := by
  rw [ev_l]
  split <;> rename_i h <;> simp [h]
theorem zOd_iff (P : z4) : zOd P ↔ P.1.toInt % 2 ≠ 0 ∧ P.2.1.toInt % 2 ≠ 0 ∧ P.2.2.1.toInt % 2 ≠ 0 ∧ P.2.2.2.toInt % 2 ≠ 0 := by
  unfold zOd
  rw [ev_and, ev_and, ev_and, ev_1, ev_1, ev_1, ev_1, and_assoc, and_assoc]
theorem zEv_iff (P : z4) : zEv P ↔ P.1.toInt % 2 = 0 ∧ P.2.1.toInt % 2 = 0 ∧ P.2.2.1.toInt % 2 = 0 ∧ P.2.2.2.toInt % 2 = 0 := by
  unfold zEv
  rw [ev_or, ev_or, ev_or, ev_0, ev_0, ev_0, ev_0, and_assoc, and_assoc]
abbrev i4O (P : i4) : Prop := P.1 % 2 ≠ 0 ∧ P.2.1 % 2 ≠ 0 ∧ P.2.2.1 % 2 ≠ 0 ∧ P.2.2.2 % 2 ≠ 0
def wh (P : i4) : Nat := if i4O (i4d P (g4 P)) then g4 P else g4 P / 2
theorem g4_max {P : i4} {d : Nat} (h1 : (d : Int) ∣ P.1) (h2 : (d : Int) ∣ P.2.1) (h3 : (d : Int) ∣ P.2.2.1) (h4 : (d : Int) ∣ P.2.2.2) : d ∣ g4 P := by
  have k : ∀ {x : Int}, (d : Int) ∣ x → d ∣ x.natAbs := fun hx => Int.ofNat_dvd_left.mp hx
  exact Nat.dvd_gcd (Nat.dvd_gcd (k h1) (k h2)) (Nat.dvd_gcd (k h3) (k h4))
theorem g4_pos {P : i4} (h : 0 < i4q P) : 0 < g4 P := Nat.pos_of_ne_zero fun q => by
  unfold g4 at q
  obtain ⟨a, b⟩ := Nat.gcd_eq_zero_iff.mp q
  obtain ⟨a1, a2⟩ := Nat.gcd_eq_zero_iff.mp a
  obtain ⟨b1, b2⟩ := Nat.gcd_eq_zero_iff.mp b
  obtain ⟨p1, p2, p3, p4⟩ := P
  dsimp only at a1 a2 b1 b2
  rw [Int.natAbs_eq_zero] at a1 a2 b1 b2
  rw [a1, a2, b1, b2] at h
  exact absurd h (by decide)
theorem i4k_d {P : i4} {g : Int} (d1 : g ∣ P.1) (d2 : g ∣ P.2.1) (d3 : g ∣ P.2.2.1) (d4 : g ∣ P.2.2.2) : P = i4k g (i4d P g) := by
  obtain ⟨a, b, c, d⟩ := P
  unfold i4k i4d
  dsimp only at *
  rw [Int.mul_ediv_cancel' d1, Int.mul_ediv_cancel' d2, Int.mul_ediv_cancel' d3, Int.mul_ediv_cancel' d4]
theorem odd_of {g a b : Int} (h : g * a % 2 = g * b % 2) (hg : g % 2 ≠ 0) : a % 2 = b % 2 := by
  rw [Int.mul_emod, Int.mul_emod g b] at h
  rcases Int.emod_two_eq g with q | q
  · exact absurd q hg
  · rw [q, Int.one_mul, Int.one_mul, Int.emod_emod_of_dvd _ (Int.dvd_refl 2), Int.emod_emod_of_dvd _ (Int.dvd_refl 2)] at h
    exact h
theorem wh_s {P : i4} (hP : i4o P) (h : 0 < i4q P) : 1 ≤ wh P ∧ i4o (i4d P (wh P)) ∧ P = i4k (wh P) (i4d P (wh P)) := by
  have hg := g4_pos h
  obtain ⟨d1, d2, d3, d4⟩ := g4_dvd P
  have e := i4k_d d1 d2 d3 d4
  unfold wh
  split
  · rename_i hO
    refine ⟨hg, ?_, e⟩
    clear e
    obtain ⟨o1, o2, o3, o4⟩ := hO
    exact ⟨by omega, by omega, by omega⟩
  · rename_i hO
    have hev : (g4 P : Int) % 2 = 0 := by
      rcases Int.emod_two_eq (g4 P : Int) with q | q
      · exact q
      · have hg2 : ((g4 P : Int)) % 2 ≠ 0 := by rw [q]; decide
        obtain ⟨h1, h2, h3⟩ := hP
        have k1 : (g4 P : Int) * (i4d P (g4 P)).1 = P.1 := Int.mul_ediv_cancel' d1
        have k2 : (g4 P : Int) * (i4d P (g4 P)).2.1 = P.2.1 := Int.mul_ediv_cancel' d2
        have k3 : (g4 P : Int) * (i4d P (g4 P)).2.2.1 = P.2.2.1 := Int.mul_ediv_cancel' d3
        have k4 : (g4 P : Int) * (i4d P (g4 P)).2.2.2 = P.2.2.2 := Int.mul_ediv_cancel' d4
        rw [← k1, ← k2] at h1
        rw [← k1, ← k3] at h2
        rw [← k1, ← k4] at h3
        have j1 := odd_of h1 hg2
        have j2 := odd_of h2 hg2
        have j3 := odd_of h3 hg2
        rcases Int.emod_two_eq (i4d P (g4 P)).1 with r | r
        · have two : ∀ {x y : Int}, (g4 P : Int) * x = y → x % 2 = 0 → ((2 * g4 P : Nat) : Int) ∣ y := fun {x y} hx h0 => ⟨x / 2, by
            have e2 : x = 2 * (x / 2) := by omega
            have e3 : ((2 * g4 P : Nat) : Int) = 2 * (g4 P : Int) := by omega
            rw [← hx, e3]
            generalize x / 2 = t at e2
            rw [e2]
            grind⟩
          have := Nat.le_of_dvd hg (g4_max (P := P) (d := 2 * g4 P) (two k1 r) (two k2 (j1 ▸ r)) (two k3 (j2 ▸ r)) (two k4 (j3 ▸ r)))
          omega
        · exact absurd ⟨by rw [r]; decide, by rw [← j1, r]; decide, by rw [← j2, r]; decide, by rw [← j3, r]; decide⟩ hO
    have h2 : 2 * (g4 P / 2) = g4 P := by omega
    have h3 : ((g4 P / 2 : Nat) : Int) * 2 = (g4 P : Int) := by omega
    have hpos : ((g4 P / 2 : Nat) : Int) ≠ 0 := by omega
    have dv : ∀ {x : Int}, (g4 P : Int) ∣ x → ((g4 P / 2 : Nat) : Int) ∣ x := fun hx => Int.dvd_trans ⟨2, h3.symm⟩ hx
    have ev : ∀ {x : Int}, (g4 P : Int) ∣ x → x / ((g4 P / 2 : Nat) : Int) % 2 = 0 := fun {x} hx => by
      obtain ⟨y, hy⟩ := hx
      rw [hy, ← h3, Int.mul_assoc, Int.mul_ediv_cancel_left _ hpos, Int.mul_emod_right]
    exact ⟨by omega, ⟨(ev d1).trans (ev d2).symm, (ev d1).trans (ev d3).symm, (ev d1).trans (ev d4).symm⟩, i4k_d (dv d1) (dv d2) (dv d3) (dv d4)⟩
theorem wh_n {P : i4} (hP : i4o P) (h : 0 < i4q P) : i4n P = wh P * wh P * i4n (i4d P (wh P)) ∧ 0 < i4n (i4d P (wh P)) := by
  obtain ⟨h1, h2, h3⟩ := wh_s hP h
  have e := congrArg i4n h3
  rw [i4n_k _ h2] at e
  refine ⟨e, ?_⟩
  have hp := i4n_pos hP h
  have h0 := i4n_nn (i4d P (wh P))
  rcases Int.lt_or_le 0 (i4n (i4d P (wh P))) with q | q
  · exact q
  · rw [show i4n (i4d P (wh P)) = 0 by omega, Int.mul_zero] at e
    omega
noncomputable def kindI (P : i4) : Nat := if i4q P = 0 then 0 else if i4n P = 1 then 4 else if zLp (i4n P).toNat = (i4n P).toNat then 3 else if wh P = 1 then 2 else if P.1 % 2 ≠ 0 then 1 else 0
theorem kind_wh {P : i4} (hP : i4o P) (h : 0 < i4q P) (hk : i4n P = 1 ∨ (i4n P ≠ 1 ∧ zLp (i4n P).toNat = (i4n P).toNat)) : wh P = 1 := by
  obtain ⟨w1, -, -⟩ := wh_s hP h
  obtain ⟨e, hp⟩ := wh_n hP h
  have hn := i4n_pos hP h
  rcases Nat.lt_or_ge 1 (wh P) with q | q
  · exfalso
    have h1 : (wh P : Int) * wh P ≤ i4n P := by
      have := Int.mul_le_mul_of_nonneg_left (show 1 ≤ i4n (i4d P (wh P)) by omega) (zsn (wh P : Int))
      rw [← e, Int.mul_one] at this
      exact this
    have h2 : (wh P : Int) < wh P * wh P := by
      have := Int.mul_lt_mul_of_pos_left (show (1 : Int) < wh P by omega) (show (0 : Int) < wh P by omega)
      rwa [Int.mul_one] at this
    rcases hk with k | ⟨k0, k⟩
    · omega
    · have h3 := (zLp_is (n := (i4n P).toNat) (by omega)).2.2 (wh P) q (by rw [k]; omega)
      apply h3
      apply Nat.mod_eq_zero_of_dvd
      have : (wh P : Int) ∣ ((i4n P).toNat : Int) := by
        rw [Int.toNat_of_nonneg (by omega), e, Int.mul_assoc]
        exact ⟨_, rfl⟩
      exact Int.natCast_dvd_natCast.mp this
  · omega
