/-! when a division's numbers fit -/
theorem zhalf {a b : Int} {c : Nat} (e : a = 2 * b) (h : a.natAbs ≤ c) : b.natAbs ≤ c := by omega
theorem m2l_L (l : Int) (P : i4) : mW (i4b (2 * l, 0, 0, 0)) P = 2 * (l * P.1) ∧ mX (i4b (2 * l, 0, 0, 0)) P = 2 * (l * P.2.1) ∧ mY (i4b (2 * l, 0, 0, 0)) P = 2 * (l * P.2.2.1) ∧ mZ (i4b (2 * l, 0, 0, 0)) P = 2 * (l * P.2.2.2) := by
  obtain ⟨a, b, c, d⟩ := P
  simp only [mW, mX, mY, mZ, i4b]
  refine ⟨?_, ?_, ?_, ?_⟩ <;> grind
theorem m2l_R (l : Int) (P : i4) : mW P (i4b (2 * l, 0, 0, 0)) = 2 * (l * P.1) ∧ mX P (i4b (2 * l, 0, 0, 0)) = 2 * (l * P.2.1) ∧ mY P (i4b (2 * l, 0, 0, 0)) = 2 * (l * P.2.2.1) ∧ mZ P (i4b (2 * l, 0, 0, 0)) = 2 * (l * P.2.2.2) := by
  obtain ⟨a, b, c, d⟩ := P
  simp only [mW, mX, mY, mZ, i4b]
  refine ⟨?_, ?_, ?_, ?_⟩ <;> grind
theorem zdv {l a b c : Int} (h1 : a = 2 * b) (h2 : a = 2 * (l * c)) : l ∣ b := ⟨c, by omega⟩
abbrev dvB (P Q : i4) : Prop := (i4q Q ≤ 4000000000 ∧ i4l P 2147483648) ∨ (i4q P ≤ 4000000000 ∧ ∃ l : Int, 1 ≤ l ∧ l ≤ 1000000000 ∧ Q = (2 * l, 0, 0, 0))
abbrev dvOK (P Q : i4) : Prop := i4o P ∧ i4o Q ∧ 0 < i4q Q ∧ dvB P Q
theorem zb_63 {P : i4} (h : i4q P ≤ 4000000000) : i4l P 63245 := zb_q (by omega)
theorem i4b_l {P : i4} {a : Nat} (h : i4l P a) : i4l (i4b P) a := by
  obtain ⟨h1, h2, h3, h4⟩ := h
  unfold i4l i4b
  dsimp only
  omega
/-- the product's numbers -/
theorem dv_U {P Q : i4} {s : Int32} (h : dvOK P Q) : (if s = 0 then zMul (zBk (z4i Q)) (z4i P) else zMul (z4i P) (zBk (z4i Q))) = z4i (dvU P Q s) ∧ i4l (dvU P Q s) 1000000000000000 := by
  obtain ⟨hP, hQ, hq, hb⟩ := h
  have hQb := i4b_o hQ
  have key : ((mW (i4b Q) P).natAbs ≤ 1000000000000000 ∧ (mX (i4b Q) P).natAbs ≤ 1000000000000000 ∧ (mY (i4b Q) P).natAbs ≤ 1000000000000000 ∧ (mZ (i4b Q) P).natAbs ≤ 1000000000000000) ∧ ((mW P (i4b Q)).natAbs ≤ 1000000000000000 ∧ (mX P (i4b Q)).natAbs ≤ 1000000000000000 ∧ (mY P (i4b Q)).natAbs ≤ 1000000000000000 ∧ (mZ P (i4b Q)).natAbs ≤ 1000000000000000) := by
    rcases hb with ⟨b1, b2⟩ | ⟨b1, l, l1, l2, rfl⟩
    · obtain ⟨c1, c2, c3, c4⟩ := zb_m (i4b_l (zb_63 b1)) b2
      obtain ⟨d1, d2, d3, d4⟩ := zb_m b2 (i4b_l (zb_63 b1))
      exact ⟨⟨Nat.le_trans c1 (by decide), Nat.le_trans c2 (by decide), Nat.le_trans c3 (by decide), Nat.le_trans c4 (by decide)⟩, Nat.le_trans d1 (by decide), Nat.le_trans d2 (by decide), Nat.le_trans d3 (by decide), Nat.le_trans d4 (by decide)⟩
    · have b2 : i4l (i4b (2 * l, 0, 0, 0)) 2000000000 := by
        unfold i4l i4b
        dsimp only
        omega
      obtain ⟨c1, c2, c3, c4⟩ := zb_m b2 (zb_63 b1)
      obtain ⟨d1, d2, d3, d4⟩ := zb_m (zb_63 b1) b2
      exact ⟨⟨Nat.le_trans c1 (by decide), Nat.le_trans c2 (by decide), Nat.le_trans c3 (by decide), Nat.le_trans c4 (by decide)⟩, Nat.le_trans d1 (by decide), Nat.le_trans d2 (by decide), Nat.le_trans d3 (by decide), Nat.le_trans d4 (by decide)⟩
  obtain ⟨⟨a1, a2, a3, a4⟩, c1, c2, c3, c4⟩ := key
  rw [z4i_b]
  unfold dvU
  by_cases hs : s = 0
  · rw [if_pos hs, if_pos hs]
    obtain ⟨e1, e2, e3, e4, -⟩ := i4m_e hQb hP
    exact ⟨z4i_mul hQb hP (Nat.lt_of_le_of_lt a1 (by decide)) (Nat.lt_of_le_of_lt a2 (by decide)) (Nat.lt_of_le_of_lt a3 (by decide)) (Nat.lt_of_le_of_lt a4 (by decide)), zhalf e1 a1, zhalf e2 a2, zhalf e3 a3, zhalf e4 a4⟩
  · rw [if_neg hs, if_neg hs]
    obtain ⟨e1, e2, e3, e4, -⟩ := i4m_e hP hQb
    exact ⟨z4i_mul hP hQb (Nat.lt_of_le_of_lt c1 (by decide)) (Nat.lt_of_le_of_lt c2 (by decide)) (Nat.lt_of_le_of_lt c3 (by decide)) (Nat.lt_of_le_of_lt c4 (by decide)), zhalf e1 c1, zhalf e2 c2, zhalf e3 c3, zhalf e4 c4⟩
theorem dv_q {P Q : i4} (h : dvOK P Q) : i4q Q ≤ 4000000000000000000 ∧ 0 < i4n Q ∧ i4n Q ≤ 1000000000000000000 := by
  obtain ⟨hP, hQ, hq, hb⟩ := h
  have e := i4q_4 hQ
  have : i4q Q ≤ 4000000000000000000 := by
    rcases hb with ⟨b1, b2⟩ | ⟨b1, l, l1, l2, rfl⟩
    · omega
    · have h1 := zb_mul (x := 2 * l) (y := 2 * l) (a := 2000000000) (b := 2000000000) (by omega) (by omega)
      have e2 : i4q (2 * l, 0, 0, 0) = 2 * l * (2 * l) := by simp [i4q]
      omega
  omega
/-- the divided numbers and the lower one -/
theorem dv_n {P Q : i4} {s : Int32} (h : dvOK P Q) : 0 < dvn P Q s ∧ dvn P Q s ≤ 1000000000 ∧ i4l (dvu P Q s) 1000000000000000 := by
  have hn0 := (dv_q h).2
  have hU := (dv_U (s := s) h).2
  obtain ⟨hP, hQ, hq, hb⟩ := h
  obtain ⟨g1, g2, g3, g4', g5⟩ := dv_g (P := P) (Q := Q) (s := s)
  have hg : (0 : Int) < dvG P Q s := by have := dvG_pos (P := P) (s := s) hn0.1; omega
  have hnp : 0 < dvn P Q s := by
    rcases Int.lt_trichotomy (dvn P Q s) 0 with q | q | q
    · have := Int.mul_neg_of_pos_of_neg hg q; omega
    · rw [q, Int.mul_zero] at g1; omega
    · exact q
  have le : ∀ {a b : Int}, (dvG P Q s : Int) * a = b → a.natAbs ≤ b.natAbs := by
    intro a b e
    rw [← e, Int.natAbs_mul]
    have h1 : 1 ≤ (dvG P Q s : Int).natAbs := by omega
    have := Nat.mul_le_mul_right a.natAbs h1
    omega
  refine ⟨hnp, ?_, ?_⟩
  · rcases hb with ⟨b1, b2⟩ | ⟨b1, l, l1, l2, rfl⟩
    · have := le g1
      have := i4q_4 hQ
      omega
    · -- l divides the product and the norm
      have eN : i4n (2 * l, 0, 0, 0) = l * l := by
        have e2 : i4q (2 * l, 0, 0, 0) = 4 * (l * l) := by
          simp only [i4q]
          have : 2 * l * (2 * l) = 4 * (l * l) := by grind
          omega
        unfold i4n
        omega
      have dU : (l.natAbs : Int) ∣ (dvU P (2 * l, 0, 0, 0) s).1 ∧ (l.natAbs : Int) ∣ (dvU P (2 * l, 0, 0, 0) s).2.1 ∧ (l.natAbs : Int) ∣ (dvU P (2 * l, 0, 0, 0) s).2.2.1 ∧ (l.natAbs : Int) ∣ (dvU P (2 * l, 0, 0, 0) s).2.2.2 := by
        have hl : (l.natAbs : Int) = l := by omega
        rw [hl]
        have hQb := i4b_o hQ
        unfold dvU
        by_cases hs : s = 0
        · rw [if_pos hs]
          obtain ⟨e1, e2, e3, e4, -⟩ := i4m_e hQb hP
          obtain ⟨f1, f2, f3, f4⟩ := m2l_L l P
          exact ⟨zdv e1 f1, zdv e2 f2, zdv e3 f3, zdv e4 f4⟩
        · rw [if_neg hs]
          obtain ⟨e1, e2, e3, e4, -⟩ := i4m_e hP hQb
          obtain ⟨f1, f2, f3, f4⟩ := m2l_R l P
          exact ⟨zdv e1 f1, zdv e2 f2, zdv e3 f3, zdv e4 f4⟩
      have dG : l.natAbs ∣ dvG P (2 * l, 0, 0, 0) s := by
        unfold dvG g4
        refine Nat.dvd_gcd (Nat.dvd_gcd (Nat.dvd_gcd (Int.ofNat_dvd_left.mp dU.1) (Int.ofNat_dvd_left.mp dU.2.1)) (Nat.dvd_gcd (Int.ofNat_dvd_left.mp dU.2.2.1) (Int.ofNat_dvd_left.mp dU.2.2.2))) ?_
        rw [eN, Int.natAbs_mul]
        exact ⟨_, rfl⟩
      have hle := Nat.le_of_dvd (by omega) dG
      rw [eN] at g1
      have h2 : l * dvn P (2 * l, 0, 0, 0) s ≤ dvG P (2 * l, 0, 0, 0) s * dvn P (2 * l, 0, 0, 0) s := Int.mul_le_mul_of_nonneg_right (by omega) (by omega)
      have h3 := Int.le_of_mul_le_mul_left (by omega : l * dvn P (2 * l, 0, 0, 0) s ≤ l * l) (by omega)
      omega
  · obtain ⟨u1, u2, u3, u4⟩ := hU
    exact ⟨Nat.le_trans (le g2) u1, Nat.le_trans (le g3) u2, Nat.le_trans (le g4') u3, Nat.le_trans (le g5) u4⟩
theorem zrest {a k m : Int} {b : Nat} (h1 : a.natAbs ≤ b) (h2 : (a - k).natAbs ≤ 63245) (e : m = 2 * k) (hb : b ≤ 2147483648) : m.natAbs < 9223372036854775808 := by omega
/-- the rest's and the product's numbers -/
theorem dv_K {P Q : i4} {s : Int32} (h : dvOK P Q) : (if s = 0 then zMul (z4i Q) (z4i (dvT P Q s)) else zMul (z4i (dvT P Q s)) (z4i Q)) = z4i (dvK P Q s) ∧ i4q (dvR P Q s) ≤ 4000000000 := by
  obtain ⟨hP, hQ, hq, hb⟩ := h
  obtain ⟨r1, r2⟩ := dv_le (s := s) hP hQ hq
  have hR : i4q (dvR P Q s) ≤ 4000000000 := by
    rcases hb with ⟨b1, b2⟩ | ⟨b1, -⟩ <;> omega
  have hT : i4o (dvT P Q s) := i4T_o _ _
  have hPl : i4l P 2147483648 := by
    rcases hb with ⟨b1, b2⟩ | ⟨b1, -⟩
    · exact b2
    · obtain ⟨a1, a2, a3, a4⟩ := zb_63 b1
      exact ⟨Nat.le_trans a1 (by decide), Nat.le_trans a2 (by decide), Nat.le_trans a3 (by decide), Nat.le_trans a4 (by decide)⟩
  obtain ⟨p1, p2, p3, p4⟩ := hPl
  obtain ⟨q1, q2, q3, q4⟩ := zb_63 hR
  refine ⟨?_, hR⟩
  unfold dvR i4s at q1 q2 q3 q4
  dsimp only at q1 q2 q3 q4
  unfold dvK at q1 q2 q3 q4 ⊢
  by_cases hs : s = 0
  · rw [if_pos hs] at q1 q2 q3 q4 ⊢
    rw [if_pos hs]
    obtain ⟨e1, e2, e3, e4, -⟩ := i4m_e hQ hT
    exact z4i_mul hQ hT (zrest p1 q1 e1 (by decide)) (zrest p2 q2 e2 (by decide)) (zrest p3 q3 e3 (by decide)) (zrest p4 q4 e4 (by decide))
  · rw [if_neg hs] at q1 q2 q3 q4 ⊢
    rw [if_neg hs]
    obtain ⟨e1, e2, e3, e4, -⟩ := i4m_e hT hQ
    exact z4i_mul hT hQ (zrest p1 q1 e1 (by decide)) (zrest p2 q2 e2 (by decide)) (zrest p3 q3 e3 (by decide)) (zrest p4 q4 e4 (by decide))
/-- a division's outcome may be divided by again -/
theorem dv_next {P Q : i4} {s : Int32} (h : dvOK P Q) (hr : 0 < i4q (dvR P Q s)) : dvOK Q (dvR P Q s) := by
  have hR := (dv_K (s := s) h).2
  obtain ⟨hP, hQ, hq, hb⟩ := h
  refine ⟨hQ, (dv_o hP hQ).1, hr, Or.inl ⟨hR, ?_⟩⟩
  rcases hb with ⟨b1, -⟩ | ⟨-, l, l1, l2, rfl⟩
  · obtain ⟨a1, a2, a3, a4⟩ := zb_63 b1
    exact ⟨Nat.le_trans a1 (by decide), Nat.le_trans a2 (by decide), Nat.le_trans a3 (by decide), Nat.le_trans a4 (by decide)⟩
  · unfold i4l
    dsimp only
    omega
