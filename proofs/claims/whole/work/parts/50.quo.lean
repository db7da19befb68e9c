/-! a quotient may be held -/
theorem qk_le {p k r : Int} (h : r = p - k) : 2 * (k * k) ≤ 3 * (p * p) + 6 * (r * r) := by
  have h1 := zsn (p + 2 * r)
  have e : 3 * (p * p) + 6 * (r * r) - 2 * (k * k) = (p + 2 * r) * (p + 2 * r) := by
    have : k = p - r := by omega
    rw [this]
    grind
  omega
theorem dvT_V {P Q : i4} {s : Int32} (hP : i4V P) (hQ : i4V Q) (hq : 0 < i4q Q) : i4V (dvT P Q s) ∧ i4V (dvR P Q s) := by
  have hT : i4o (dvT P Q s) := i4T_o (dvu P Q s) (dvn P Q s)
  obtain ⟨oR, oK⟩ := dv_o (s := s) hP.1 hQ.1
  obtain ⟨l1, l2⟩ := dv_le (s := s) hP.1 hQ.1 hq
  have e : 4 * i4q (dvK P Q s) = i4q Q * i4q (dvT P Q s) := by
    unfold dvK
    split
    · exact i4m_q hQ.1 hT
    · rw [i4m_q hT hQ.1, Int.mul_comm]
  have hk : 2 * i4q (dvK P Q s) ≤ 3 * i4q P + 6 * i4q (dvR P Q s) := by
    have k1 := qk_le (p := P.1) (k := (dvK P Q s).1) (r := (dvR P Q s).1) rfl
    have k2 := qk_le (p := P.2.1) (k := (dvK P Q s).2.1) (r := (dvR P Q s).2.1) rfl
    have k3 := qk_le (p := P.2.2.1) (k := (dvK P Q s).2.2.1) (r := (dvR P Q s).2.2.1) rfl
    have k4 := qk_le (p := P.2.2.2) (k := (dvK P Q s).2.2.2) (r := (dvR P Q s).2.2.2) rfl
    unfold i4q
    omega
  have q4 := i4q_4 hQ.1
  have r4 := i4q_4 oR
  have r0 := i4q_nn (dvR P Q s)
  have t0 := i4q_nn (dvT P Q s)
  refine ⟨⟨hT, ?_⟩, oR, by have := hP.2; omega⟩
  rcases Int.lt_or_le (i4q Q) 8 with c | c
  · have eR : i4q (dvR P Q s) = 0 := by omega
    have z := i4q_0.mp eR
    have eK : dvK P Q s = P := by
      have z2 : i4s P (dvK P Q s) = (0, 0, 0, 0) := z
      have := i4s_eq (A := P) (B := dvK P Q s) (C := (0, 0, 0, 0)) z2.symm
      rw [i4a_0] at this
      exact this.symm
    rw [eK, show i4q Q = 4 by omega] at e
    have := hP.2
    omega
  · rcases Int.lt_or_le 4000000000 (i4q (dvT P Q s)) with d | d
    · exfalso
      have m := Int.mul_le_mul_of_nonneg_right c (show (0 : Int) ≤ i4q (dvT P Q s) - 6 by omega)
      rw [Int.mul_sub (i4q Q)] at m
      have := hP.2
      omega
    · exact d
