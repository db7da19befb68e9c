/-! bounds -/
theorem zb_mul {x y : Int} {a b : Nat} (hx : x.natAbs ≤ a) (hy : y.natAbs ≤ b) : (x * y).natAbs ≤ a * b := by
  rw [Int.natAbs_mul]
  exact Nat.mul_le_mul hx hy
theorem zb_sq {x : Int} {a : Nat} (h : x * x < ((a + 1) * (a + 1) : Nat)) : x.natAbs ≤ a := by
  rcases Nat.lt_or_ge a x.natAbs with q | q
  · have h1 := Nat.mul_le_mul q q
    have e := Int.natAbs_mul_self (a := x)
    have h2 : (a + 1) * (a + 1) ≤ x.natAbs * x.natAbs := h1
    omega
  · exact q
theorem zb_q {P : i4} {a : Nat} (h : i4q P < ((a + 1) * (a + 1) : Nat)) : P.1.natAbs ≤ a ∧ P.2.1.natAbs ≤ a ∧ P.2.2.1.natAbs ≤ a ∧ P.2.2.2.natAbs ≤ a := by
  have h1 := zsn P.1
  have h2 := zsn P.2.1
  have h3 := zsn P.2.2.1
  have h4 := zsn P.2.2.2
  unfold i4q at h
  exact ⟨zb_sq (by omega), zb_sq (by omega), zb_sq (by omega), zb_sq (by omega)⟩
abbrev i4l (P : i4) (a : Nat) : Prop := P.1.natAbs ≤ a ∧ P.2.1.natAbs ≤ a ∧ P.2.2.1.natAbs ≤ a ∧ P.2.2.2.natAbs ≤ a
theorem zb_4 {x y z w : Int} {c : Nat} (hx : x.natAbs ≤ c) (hy : y.natAbs ≤ c) (hz : z.natAbs ≤ c) (hw : w.natAbs ≤ c) : (x - y - z - w).natAbs ≤ 4 * c ∧ (x + y + z - w).natAbs ≤ 4 * c ∧ (x - y + z + w).natAbs ≤ 4 * c ∧ (x + y - z + w).natAbs ≤ 4 * c := by
  refine ⟨?_, ?_, ?_, ?_⟩ <;> omega
theorem zb_m {P Q : i4} {a b : Nat} (hP : i4l P a) (hQ : i4l Q b) : (mW P Q).natAbs ≤ 4 * (a * b) ∧ (mX P Q).natAbs ≤ 4 * (a * b) ∧ (mY P Q).natAbs ≤ 4 * (a * b) ∧ (mZ P Q).natAbs ≤ 4 * (a * b) := by
  obtain ⟨p0, p1, p2, p3⟩ := hP
  obtain ⟨q0, q1, q2, q3⟩ := hQ
  exact ⟨(zb_4 (zb_mul p0 q0) (zb_mul p1 q1) (zb_mul p2 q2) (zb_mul p3 q3)).1, (zb_4 (zb_mul p0 q1) (zb_mul p1 q0) (zb_mul p2 q3) (zb_mul p3 q2)).2.1, (zb_4 (zb_mul p0 q2) (zb_mul p1 q3) (zb_mul p2 q0) (zb_mul p3 q1)).2.2.1, (zb_4 (zb_mul p0 q3) (zb_mul p1 q2) (zb_mul p2 q1) (zb_mul p3 q0)).2.2.2⟩
/-! the images -/
theorem z4i_mul {P Q : i4} (hP : i4o P) (hQ : i4o Q) (b1 : (mW P Q).natAbs < 9223372036854775808) (b2 : (mX P Q).natAbs < 9223372036854775808) (b3 : (mY P Q).natAbs < 9223372036854775808) (b4 : (mZ P Q).natAbs < 9223372036854775808) : zMul (z4i P) (z4i Q) = z4i (i4m P Q) := by
  obtain ⟨h1, h2, h3, h4, -⟩ := i4m_e hP hQ
  have key : ∀ {a k : Int}, a.natAbs < 9223372036854775808 → a = 2 * k → iz a / 2 = iz k := by
    intro a k ha e
    rw [iz_2, iz_div (by omega) (by decide) (by omega), e, Int.mul_tdiv_cancel_left _ (by decide)]
  unfold zMul z4i
  simp only [iz_mul, iz_add, iz_sub]
  rw [Prod.mk.injEq, Prod.mk.injEq, Prod.mk.injEq]
  exact ⟨key b1 h1, key b2 h2, key b3 h3, key b4 h4⟩
theorem z4i_b (P : i4) : zBk (z4i P) = z4i (i4b P) := by
  unfold zBk z4i i4b
  simp only [iz_neg]
theorem z4i_a (P Q : i4) : zAdd (z4i P) (z4i Q) = z4i (i4a P Q) := by
  unfold zAdd z4i i4a
  simp only [iz_add]
theorem z4i_s (P Q : i4) : zSub (z4i P) (z4i Q) = z4i (i4s P Q) := by
  unfold zSub z4i i4s
  simp only [iz_sub]
theorem z4i_sq (P : i4) : zSq (z4i P) = iz (i4q P) := by
  unfold zSq z4i i4q
  simp only [iz_mul, iz_add]
theorem z4i_n {P : i4} (h : i4q P < 9223372036854775808) : zNm (z4i P) = iz (i4n P) := by
  have h0 := i4q_nn P
  unfold zNm i4n
  rw [z4i_sq, iz_4, iz_div (by omega) (by decide) (by omega), Int.tdiv_eq_ediv_of_nonneg h0]
def g4 (P : i4) : Nat := Nat.gcd (Nat.gcd P.1.natAbs P.2.1.natAbs) (Nat.gcd P.2.2.1.natAbs P.2.2.2.natAbs)
theorem iz_nm {n : Int} (h : n.natAbs < 9223372036854775808) : zNm1 (iz n) := by
  unfold zNm1
  rw [iz_i (by omega)]
  omega
theorem z4i_nm {P : i4} {a : Nat} (h : i4l P a) (ha : a < 9223372036854775808) : zNm4 (z4i P) := ⟨iz_nm (by omega), iz_nm (by omega), iz_nm (by omega), iz_nm (by omega)⟩
theorem gcd_iz {x y : Int} (hx : x.natAbs < 9223372036854775808) (hy : y.natAbs < 9223372036854775808) : zGcd (iz x) (iz y) = lN (Nat.gcd x.natAbs y.natAbs) := by
  unfold zGcd
  rw [iz_i (by omega), iz_i (by omega)]
theorem gcd_lt {x y : Nat} (hx : x < 9223372036854775808) (hy : y < 9223372036854775808) : Nat.gcd x y < 9223372036854775808 := by
  rcases Nat.eq_zero_or_pos x with q | q
  · rw [q, Nat.gcd_zero_left]; exact hy
  · exact Nat.lt_of_le_of_lt (Nat.gcd_le_left y q) hx
theorem gcd_lN {x y : Nat} (hx : x < 9223372036854775808) (hy : y < 9223372036854775808) : zGcd (lN x) (lN y) = lN (Nat.gcd x y) := by
  rw [iz_lN, iz_lN, gcd_iz (by omega) (by omega)]
  rfl
theorem z4i_g {P : i4} {a : Nat} (h : i4l P a) (ha : a < 9223372036854775808) : zG4 (z4i P) = lN (g4 P) := by
  obtain ⟨h1, h2, h3, h4⟩ := h
  unfold zG4 z4i g4
  dsimp only
  rw [gcd_iz (by omega) (by omega), gcd_iz (by omega) (by omega), gcd_lN (gcd_lt (by omega) (by omega)) (gcd_lt (by omega) (by omega))]
theorem g4_lt {P : i4} {a : Nat} (h : i4l P a) (ha : a < 9223372036854775808) : g4 P < 9223372036854775808 := gcd_lt (gcd_lt (by omega) (by omega)) (gcd_lt (by omega) (by omega))
theorem g4_dvd (P : i4) : (g4 P : Int) ∣ P.1 ∧ (g4 P : Int) ∣ P.2.1 ∧ (g4 P : Int) ∣ P.2.2.1 ∧ (g4 P : Int) ∣ P.2.2.2 := by
  have h1 : g4 P ∣ Nat.gcd P.1.natAbs P.2.1.natAbs := Nat.gcd_dvd_left _ _
  have h2 : g4 P ∣ Nat.gcd P.2.2.1.natAbs P.2.2.2.natAbs := Nat.gcd_dvd_right _ _
  exact ⟨Int.ofNat_dvd_left.mpr (Nat.dvd_trans h1 (Nat.gcd_dvd_left _ _)), Int.ofNat_dvd_left.mpr (Nat.dvd_trans h1 (Nat.gcd_dvd_right _ _)), Int.ofNat_dvd_left.mpr (Nat.dvd_trans h2 (Nat.gcd_dvd_left _ _)), Int.ofNat_dvd_left.mpr (Nat.dvd_trans h2 (Nat.gcd_dvd_right _ _))⟩
def i4d (P : i4) (g : Int) : i4 := (P.1 / g, P.2.1 / g, P.2.2.1 / g, P.2.2.2 / g)
theorem z4i_d {P : i4} {a : Nat} {g : Nat} (h : i4l P a) (ha : a < 9223372036854775808) (hg : g < 9223372036854775808) (d1 : (g : Int) ∣ P.1) (d2 : (g : Int) ∣ P.2.1) (d3 : (g : Int) ∣ P.2.2.1) (d4 : (g : Int) ∣ P.2.2.2) : zDiv (z4i P) (lN g) = z4i (i4d P g) := by
  obtain ⟨h1, h2, h3, h4⟩ := h
  have key : ∀ {x : Int}, x.natAbs ≤ a → (g : Int) ∣ x → iz x / iz (g : Int) = iz (x / g) := by
    intro x hx hd
    rw [iz_div (by omega) (by omega) (by omega), Int.tdiv_eq_ediv_of_dvd hd]
  unfold zDiv z4i i4d
  rw [iz_lN]
  dsimp only
  rw [key h1 d1, key h2 d2, key h3 d3, key h4 d4]
