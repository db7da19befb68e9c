/-! fours over whole numbers (told twice as great) -/
abbrev i4 : Type := Int × Int × Int × Int
def z4i (P : i4) : z4 := (iz P.1, iz P.2.1, iz P.2.2.1, iz P.2.2.2)
def mW (P Q : i4) : Int := P.1 * Q.1 - P.2.1 * Q.2.1 - P.2.2.1 * Q.2.2.1 - P.2.2.2 * Q.2.2.2
def mX (P Q : i4) : Int := P.1 * Q.2.1 + P.2.1 * Q.1 + P.2.2.1 * Q.2.2.2 - P.2.2.2 * Q.2.2.1
def mY (P Q : i4) : Int := P.1 * Q.2.2.1 - P.2.1 * Q.2.2.2 + P.2.2.1 * Q.1 + P.2.2.2 * Q.2.1
def mZ (P Q : i4) : Int := P.1 * Q.2.2.2 + P.2.1 * Q.2.2.1 - P.2.2.1 * Q.2.1 + P.2.2.2 * Q.1
def i4m (P Q : i4) : i4 := (mW P Q / 2, mX P Q / 2, mY P Q / 2, mZ P Q / 2)
def i4b (P : i4) : i4 := (P.1, -P.2.1, -P.2.2.1, -P.2.2.2)
def i4a (P Q : i4) : i4 := (P.1 + Q.1, P.2.1 + Q.2.1, P.2.2.1 + Q.2.2.1, P.2.2.2 + Q.2.2.2)
def i4s (P Q : i4) : i4 := (P.1 - Q.1, P.2.1 - Q.2.1, P.2.2.1 - Q.2.2.1, P.2.2.2 - Q.2.2.2)
def i4k (c : Int) (P : i4) : i4 := (c * P.1, c * P.2.1, c * P.2.2.1, c * P.2.2.2)
def i4q (P : i4) : Int := P.1 * P.1 + P.2.1 * P.2.1 + P.2.2.1 * P.2.2.1 + P.2.2.2 * P.2.2.2
def i4n (P : i4) : Int := i4q P / 4
abbrev i4o (P : i4) : Prop := P.1 % 2 = P.2.1 % 2 ∧ P.1 % 2 = P.2.2.1 % 2 ∧ P.1 % 2 = P.2.2.2 % 2
/-- halves and the common rest -/
theorem i4_h {P : i4} (h : i4o P) : ∃ a b c d r : Int, P = (2 * a + r, 2 * b + r, 2 * c + r, 2 * d + r) := by
  obtain ⟨w, x, y, z⟩ := P
  obtain ⟨h1, h2, h3⟩ := h
  dsimp only at h1 h2 h3
  exact ⟨w / 2, x / 2, y / 2, z / 2, w % 2, by rw [Prod.mk.injEq, Prod.mk.injEq, Prod.mk.injEq]; omega⟩
theorem i4q_4 {P : i4} (h : i4o P) : i4q P = 4 * i4n P := by
  obtain ⟨a, b, c, d, r, rfl⟩ := i4_h h
  have e : i4q (2 * a + r, 2 * b + r, 2 * c + r, 2 * d + r) = 4 * (a * a + b * b + c * c + d * d + r * (a + b + c + d) + r * r) := by
    simp only [i4q]
    grind
  unfold i4n
  omega
theorem i4m_e {P Q : i4} (hP : i4o P) (hQ : i4o Q) : mW P Q = 2 * (i4m P Q).1 ∧ mX P Q = 2 * (i4m P Q).2.1 ∧ mY P Q = 2 * (i4m P Q).2.2.1 ∧ mZ P Q = 2 * (i4m P Q).2.2.2 ∧ i4o (i4m P Q) := by
  obtain ⟨a0, a1, a2, a3, r, rfl⟩ := i4_h hP
  obtain ⟨b0, b1, b2, b3, s, rfl⟩ := i4_h hQ
  have hW : mW (2 * a0 + r, 2 * a1 + r, 2 * a2 + r, 2 * a3 + r) (2 * b0 + s, 2 * b1 + s, 2 * b2 + s, 2 * b3 + s) = 2 * (2 * (a0 * b0 - a1 * b1 - a2 * b2 - a3 * b3) + s * (a0 - a1 - a2 - a3) + r * (b0 - b1 - b2 - b3) - r * s) := by
    simp only [mW]; grind
  have hX : mX (2 * a0 + r, 2 * a1 + r, 2 * a2 + r, 2 * a3 + r) (2 * b0 + s, 2 * b1 + s, 2 * b2 + s, 2 * b3 + s) = 2 * ((2 * (a0 * b0 - a1 * b1 - a2 * b2 - a3 * b3) + s * (a0 - a1 - a2 - a3) + r * (b0 - b1 - b2 - b3) - r * s) + 2 * ((a0 * b1 + a1 * b0 + a2 * b3 - a3 * b2) - (a0 * b0 - a1 * b1 - a2 * b2 - a3 * b3) + s * (a1 + a2) + r * (b1 + b3) + r * s)) := by
    simp only [mX]; grind
  have hY : mY (2 * a0 + r, 2 * a1 + r, 2 * a2 + r, 2 * a3 + r) (2 * b0 + s, 2 * b1 + s, 2 * b2 + s, 2 * b3 + s) = 2 * ((2 * (a0 * b0 - a1 * b1 - a2 * b2 - a3 * b3) + s * (a0 - a1 - a2 - a3) + r * (b0 - b1 - b2 - b3) - r * s) + 2 * ((a0 * b2 - a1 * b3 + a2 * b0 + a3 * b1) - (a0 * b0 - a1 * b1 - a2 * b2 - a3 * b3) + s * (a2 + a3) + r * (b1 + b2) + r * s)) := by
    simp only [mY]; grind
  have hZ : mZ (2 * a0 + r, 2 * a1 + r, 2 * a2 + r, 2 * a3 + r) (2 * b0 + s, 2 * b1 + s, 2 * b2 + s, 2 * b3 + s) = 2 * ((2 * (a0 * b0 - a1 * b1 - a2 * b2 - a3 * b3) + s * (a0 - a1 - a2 - a3) + r * (b0 - b1 - b2 - b3) - r * s) + 2 * ((a0 * b3 + a1 * b2 - a2 * b1 + a3 * b0) - (a0 * b0 - a1 * b1 - a2 * b2 - a3 * b3) + s * (a1 + a3) + r * (b2 + b3) + r * s)) := by
    simp only [mZ]; grind
  unfold i4m i4o
  rw [hW, hX, hY, hZ]
  dsimp only
  omega
/-- the identity of four squares -/
theorem i4_four (P Q : i4) : mW P Q * mW P Q + mX P Q * mX P Q + mY P Q * mY P Q + mZ P Q * mZ P Q = i4q P * i4q Q := by
  obtain ⟨a, b, c, d⟩ := P
  obtain ⟨e, f, g, k⟩ := Q
  simp only [mW, mX, mY, mZ, i4q]
  grind
theorem i4m_q {P Q : i4} (hP : i4o P) (hQ : i4o Q) : 4 * i4q (i4m P Q) = i4q P * i4q Q := by
  obtain ⟨h1, h2, h3, h4, -⟩ := i4m_e hP hQ
  rw [← i4_four, h1, h2, h3, h4]
  simp only [i4q]
  grind
theorem i4m_n {P Q : i4} (hP : i4o P) (hQ : i4o Q) : i4n (i4m P Q) = i4n P * i4n Q := by
  have h := i4m_q hP hQ
  have h5 := (i4m_e hP hQ).2.2.2.2
  rw [i4q_4 hP, i4q_4 hQ, i4q_4 h5] at h
  have e : 4 * i4n P * (4 * i4n Q) = 16 * (i4n P * i4n Q) := by grind
  omega
theorem i4b_o {P : i4} (h : i4o P) : i4o (i4b P) := by
  obtain ⟨h1, h2, h3⟩ := h
  unfold i4o i4b
  dsimp only
  omega
theorem i4b_q (P : i4) : i4q (i4b P) = i4q P := by
  simp only [i4q, i4b]
  grind
theorem i4s_o {P Q : i4} (h : i4o P) (h' : i4o Q) : i4o (i4s P Q) := by
  obtain ⟨h1, h2, h3⟩ := h
  obtain ⟨g1, g2, g3⟩ := h'
  unfold i4o i4s
  dsimp only
  omega
theorem i4a_o {P Q : i4} (h : i4o P) (h' : i4o Q) : i4o (i4a P Q) := by
  obtain ⟨h1, h2, h3⟩ := h
  obtain ⟨g1, g2, g3⟩ := h'
  unfold i4o i4a
  dsimp only
  omega
theorem zsn (x : Int) : 0 ≤ x * x := by
  have := Int.natAbs_mul_self (a := x)
  omega
theorem i4q_nn (P : i4) : 0 ≤ i4q P := by
  have h1 := zsn P.1
  have h2 := zsn P.2.1
  have h3 := zsn P.2.2.1
  have h4 := zsn P.2.2.2
  unfold i4q
  omega
/-- a product is additive, and the norm comes out of back of q times q times t -/
theorem i4_Ls (A P k : i4) : mW A (i4s P k) = mW A P - mW A k ∧ mX A (i4s P k) = mX A P - mX A k ∧ mY A (i4s P k) = mY A P - mY A k ∧ mZ A (i4s P k) = mZ A P - mZ A k := by
  simp only [mW, mX, mY, mZ, i4s, Int.mul_sub]
  omega
theorem i4_Rs (A P k : i4) : mW (i4s P k) A = mW P A - mW k A ∧ mX (i4s P k) A = mX P A - mX k A ∧ mY (i4s P k) A = mY P A - mY k A ∧ mZ (i4s P k) A = mZ P A - mZ k A := by
  simp only [mW, mX, mY, mZ, i4s, Int.sub_mul]
  omega
theorem i4_L2 (A k : i4) : 2 * mW A k = mW A (2 * k.1, 2 * k.2.1, 2 * k.2.2.1, 2 * k.2.2.2) ∧ 2 * mX A k = mX A (2 * k.1, 2 * k.2.1, 2 * k.2.2.1, 2 * k.2.2.2) ∧ 2 * mY A k = mY A (2 * k.1, 2 * k.2.1, 2 * k.2.2.1, 2 * k.2.2.2) ∧ 2 * mZ A k = mZ A (2 * k.1, 2 * k.2.1, 2 * k.2.2.1, 2 * k.2.2.2) := by
  simp only [mW, mX, mY, mZ, Int.mul_left_comm _ 2]
  omega
theorem i4_R2 (A k : i4) : 2 * mW k A = mW (2 * k.1, 2 * k.2.1, 2 * k.2.2.1, 2 * k.2.2.2) A ∧ 2 * mX k A = mX (2 * k.1, 2 * k.2.1, 2 * k.2.2.1, 2 * k.2.2.2) A ∧ 2 * mY k A = mY (2 * k.1, 2 * k.2.1, 2 * k.2.2.1, 2 * k.2.2.2) A ∧ 2 * mZ k A = mZ (2 * k.1, 2 * k.2.1, 2 * k.2.2.1, 2 * k.2.2.2) A := by
  simp only [mW, mX, mY, mZ, Int.mul_assoc]
  omega
theorem i4_LN (Q T : i4) : mW (i4b Q) (mW Q T, mX Q T, mY Q T, mZ Q T) = i4q Q * T.1 ∧ mX (i4b Q) (mW Q T, mX Q T, mY Q T, mZ Q T) = i4q Q * T.2.1 ∧ mY (i4b Q) (mW Q T, mX Q T, mY Q T, mZ Q T) = i4q Q * T.2.2.1 ∧ mZ (i4b Q) (mW Q T, mX Q T, mY Q T, mZ Q T) = i4q Q * T.2.2.2 := by
  obtain ⟨q0, q1, q2, q3⟩ := Q
  obtain ⟨t0, t1, t2, t3⟩ := T
  simp only [mW, mX, mY, mZ, i4b, i4q]
  refine ⟨?_, ?_, ?_, ?_⟩ <;> grind
theorem i4_RN (Q T : i4) : mW (mW T Q, mX T Q, mY T Q, mZ T Q) (i4b Q) = i4q Q * T.1 ∧ mX (mW T Q, mX T Q, mY T Q, mZ T Q) (i4b Q) = i4q Q * T.2.1 ∧ mY (mW T Q, mX T Q, mY T Q, mZ T Q) (i4b Q) = i4q Q * T.2.2.1 ∧ mZ (mW T Q, mX T Q, mY T Q, mZ T Q) (i4b Q) = i4q Q * T.2.2.2 := by
  obtain ⟨q0, q1, q2, q3⟩ := Q
  obtain ⟨t0, t1, t2, t3⟩ := T
  simp only [mW, mX, mY, mZ, i4b, i4q]
  refine ⟨?_, ?_, ?_, ?_⟩ <;> grind
theorem i4_L (P Q T : i4) (k : i4) (hk1 : mW Q T = 2 * k.1) (hk2 : mX Q T = 2 * k.2.1) (hk3 : mY Q T = 2 * k.2.2.1) (hk4 : mZ Q T = 2 * k.2.2.2) :
    2 * mW (i4b Q) (i4s P k) = 2 * mW (i4b Q) P - i4q Q * T.1 ∧ 2 * mX (i4b Q) (i4s P k) = 2 * mX (i4b Q) P - i4q Q * T.2.1 ∧ 2 * mY (i4b Q) (i4s P k) = 2 * mY (i4b Q) P - i4q Q * T.2.2.1 ∧ 2 * mZ (i4b Q) (i4s P k) = 2 * mZ (i4b Q) P - i4q Q * T.2.2.2 := by
  obtain ⟨a1, a2, a3, a4⟩ := i4_Ls (i4b Q) P k
  obtain ⟨b1, b2, b3, b4⟩ := i4_L2 (i4b Q) k
  obtain ⟨c1, c2, c3, c4⟩ := i4_LN Q T
  rw [← hk1, ← hk2, ← hk3, ← hk4] at b1 b2 b3 b4
  omega
theorem i4_R (P Q T : i4) (k : i4) (hk1 : mW T Q = 2 * k.1) (hk2 : mX T Q = 2 * k.2.1) (hk3 : mY T Q = 2 * k.2.2.1) (hk4 : mZ T Q = 2 * k.2.2.2) :
    2 * mW (i4s P k) (i4b Q) = 2 * mW P (i4b Q) - i4q Q * T.1 ∧ 2 * mX (i4s P k) (i4b Q) = 2 * mX P (i4b Q) - i4q Q * T.2.1 ∧ 2 * mY (i4s P k) (i4b Q) = 2 * mY P (i4b Q) - i4q Q * T.2.2.1 ∧ 2 * mZ (i4s P k) (i4b Q) = 2 * mZ P (i4b Q) - i4q Q * T.2.2.2 := by
  obtain ⟨a1, a2, a3, a4⟩ := i4_Rs (i4b Q) P k
  obtain ⟨b1, b2, b3, b4⟩ := i4_R2 (i4b Q) k
  obtain ⟨c1, c2, c3, c4⟩ := i4_RN Q T
  rw [← hk1, ← hk2, ← hk3, ← hk4] at b1 b2 b3 b4
  omega
/-! rounding -/
def zE (u n : Int) : Int := 2 * ((u + n) / (2 * n))
def zH (u n : Int) : Int := 2 * (u / (2 * n)) + 1
theorem zE_b {u n : Int} (h : 0 < n) : -n ≤ u - zE u n * n ∧ u - zE u n * n < n := by
  have h1 := Int.emod_nonneg (u + n) (show 2 * n ≠ 0 by omega)
  have h2 := Int.emod_lt_of_pos (u + n) (show 0 < 2 * n by omega)
  have h3 := Int.emod_def (u + n) (2 * n)
  have e : zE u n * n = 2 * n * ((u + n) / (2 * n)) := by unfold zE; grind
  omega
theorem zH_b {u n : Int} (h : 0 < n) : -n ≤ u - zH u n * n ∧ u - zH u n * n < n := by
  have h1 := Int.emod_nonneg u (show 2 * n ≠ 0 by omega)
  have h2 := Int.emod_lt_of_pos u (show 0 < 2 * n by omega)
  have h3 := Int.emod_def u (2 * n)
  have e : zH u n * n = 2 * n * (u / (2 * n)) + n := by unfold zH; grind
  omega
theorem zEH {u n : Int} (h : 0 < n) : (u - zE u n * n) * (u - zE u n * n) + (u - zH u n * n) * (u - zH u n * n) ≤ n * n := by
  have hE := zE_b h (u := u)
  have hH := zH_b h (u := u)
  have key : ∀ a b : Int, -n ≤ a → a < n → -n ≤ b → b < n → (b = a - n ∨ b = a + n) → a * a + b * b ≤ n * n := by
    intro a b h1 h2 h3 h4 h5
    rcases h5 with rfl | rfl
    · have h6 := Int.mul_nonneg (show 0 ≤ a by omega) (show 0 ≤ n - a by omega)
      have e : a * a + (a - n) * (a - n) = n * n - 2 * (a * (n - a)) := by grind
      omega
    · have h6 := Int.mul_nonneg (show 0 ≤ -a by omega) (show 0 ≤ n + a by omega)
      have e : a * a + (a + n) * (a + n) = n * n - 2 * (-a * (n + a)) := by grind
      omega
  refine key _ _ hE.1 hE.2 hH.1 hH.2 ?_
  have h1 := Int.emod_nonneg (u + n) (show 2 * n ≠ 0 by omega)
  have h2 := Int.emod_lt_of_pos (u + n) (show 0 < 2 * n by omega)
  have h3 := Int.emod_def (u + n) (2 * n)
  have g1 := Int.emod_nonneg u (show 2 * n ≠ 0 by omega)
  have g2 := Int.emod_lt_of_pos u (show 0 < 2 * n by omega)
  have g3 := Int.emod_def u (2 * n)
  have hc : (u + n) / (2 * n) = u / (2 * n) ∨ (u + n) / (2 * n) = u / (2 * n) + 1 := by
    by_cases hm : u % (2 * n) + n < 2 * n
    · left
      apply Int.le_antisymm
      · apply Int.le_of_lt_add_one
        apply Int.ediv_lt_of_lt_mul (by omega)
        have : (u / (2 * n) + 1) * (2 * n) = 2 * n * (u / (2 * n)) + 2 * n := by grind
        omega
      · apply Int.le_ediv_of_mul_le (by omega)
        have : u / (2 * n) * (2 * n) = 2 * n * (u / (2 * n)) := by grind
        omega
    · right
      apply Int.le_antisymm
      · apply Int.le_of_lt_add_one
        apply Int.ediv_lt_of_lt_mul (by omega)
        have : (u / (2 * n) + 1 + 1) * (2 * n) = 2 * n * (u / (2 * n)) + 4 * n := by grind
        omega
      · apply Int.le_ediv_of_mul_le (by omega)
        have : (u / (2 * n) + 1) * (2 * n) = 2 * n * (u / (2 * n)) + 2 * n := by grind
        omega
  unfold zE zH
  rcases hc with hc | hc <;> rw [hc]
  · left; grind
  · right; grind
theorem zsq_le {a u : Int} (h : a.natAbs ≤ u.natAbs) : a * a ≤ u * u := by
  have h1 := Nat.mul_le_mul h h
  have e1 := Int.natAbs_mul_self (a := a)
  have e2 := Int.natAbs_mul_self (a := u)
  omega
theorem zE_le {u n : Int} (h : 0 < n) : (u - zE u n * n) * (u - zE u n * n) ≤ u * u := by
  apply zsq_le
  have hb := zE_b h (u := u)
  have h1 := Int.emod_nonneg (u + n) (show 2 * n ≠ 0 by omega)
  have h2 := Int.emod_lt_of_pos (u + n) (show 0 < 2 * n by omega)
  have h3 := Int.emod_def (u + n) (2 * n)
  rcases Int.lt_trichotomy ((u + n) / (2 * n)) 0 with q | q | q
  · have : 2 * n * ((u + n) / (2 * n)) ≤ 2 * n * (-1) := Int.mul_le_mul_of_nonneg_left (by omega) (by omega)
    omega
  · have : zE u n = 0 := by unfold zE; rw [q]; rfl
    rw [this]
    simp
  · have : 2 * n * 1 ≤ 2 * n * ((u + n) / (2 * n)) := Int.mul_le_mul_of_nonneg_left (by omega) (by omega)
    omega
