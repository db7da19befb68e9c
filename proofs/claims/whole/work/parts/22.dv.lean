/-! the quotient and the rest -/
def dvU (P Q : i4) (s : Int32) : i4 := if s = 0 then i4m (i4b Q) P else i4m P (i4b Q)
def dvG (P Q : i4) (s : Int32) : Nat := Nat.gcd (g4 (dvU P Q s)) (i4n Q).natAbs
def dvu (P Q : i4) (s : Int32) : i4 := i4d (dvU P Q s) (dvG P Q s)
def dvn (P Q : i4) (s : Int32) : Int := i4n Q / dvG P Q s
def i4E (u : i4) (n : Int) : i4 := (zE u.1 n, zE u.2.1 n, zE u.2.2.1 n, zE u.2.2.2 n)
def i4H (u : i4) (n : Int) : i4 := (zH u.1 n, zH u.2.1 n, zH u.2.2.1 n, zH u.2.2.2 n)
def i4S (u T : i4) (n : Int) : Int := (u.1 - T.1 * n) * (u.1 - T.1 * n) + (u.2.1 - T.2.1 * n) * (u.2.1 - T.2.1 * n) + (u.2.2.1 - T.2.2.1 * n) * (u.2.2.1 - T.2.2.1 * n) + (u.2.2.2 - T.2.2.2 * n) * (u.2.2.2 - T.2.2.2 * n)
def i4T (u : i4) (n : Int) : i4 := if i4S u (i4H u n) n < i4S u (i4E u n) n then i4H u n else i4E u n
def dvT (P Q : i4) (s : Int32) : i4 := i4T (dvu P Q s) (dvn P Q s)
def dvK (P Q : i4) (s : Int32) : i4 := if s = 0 then i4m Q (dvT P Q s) else i4m (dvT P Q s) Q
def dvR (P Q : i4) (s : Int32) : i4 := i4s P (dvK P Q s)
theorem i4E_o (u : i4) (n : Int) : i4o (i4E u n) := by
  unfold i4o i4E zE
  dsimp only
  omega
theorem i4H_o (u : i4) (n : Int) : i4o (i4H u n) := by
  unfold i4o i4H zH
  dsimp only
  omega
theorem i4T_o (u : i4) (n : Int) : i4o (i4T u n) := by
  unfold i4T
  split
  · exact i4H_o u n
  · exact i4E_o u n
theorem i4S_nn (u T : i4) (n : Int) : 0 ≤ i4S u T n := by
  have h1 := zsn (u.1 - T.1 * n)
  have h2 := zsn (u.2.1 - T.2.1 * n)
  have h3 := zsn (u.2.2.1 - T.2.2.1 * n)
  have h4 := zsn (u.2.2.2 - T.2.2.2 * n)
  unfold i4S
  omega
theorem i4T_s {u : i4} {n : Int} (h : 0 < n) : i4S u (i4T u n) n ≤ 2 * (n * n) ∧ i4S u (i4T u n) n ≤ i4q u := by
  have h1 := zEH h (u := u.1)
  have h2 := zEH h (u := u.2.1)
  have h3 := zEH h (u := u.2.2.1)
  have h4 := zEH h (u := u.2.2.2)
  have g1 := zE_le h (u := u.1)
  have g2 := zE_le h (u := u.2.1)
  have g3 := zE_le h (u := u.2.2.1)
  have g4 := zE_le h (u := u.2.2.2)
  have e1 : i4S u (i4E u n) n + i4S u (i4H u n) n ≤ 4 * (n * n) := by
    simp only [i4S, i4E, i4H]
    omega
  have e2 : i4S u (i4E u n) n ≤ i4q u := by
    simp only [i4S, i4E, i4q]
    omega
  unfold i4T
  split <;> constructor <;> omega
theorem i4T_b {u : i4} {n : Int} (h : 0 < n) : (-n ≤ u.1 - (i4T u n).1 * n ∧ u.1 - (i4T u n).1 * n < n) ∧ (-n ≤ u.2.1 - (i4T u n).2.1 * n ∧ u.2.1 - (i4T u n).2.1 * n < n) ∧ (-n ≤ u.2.2.1 - (i4T u n).2.2.1 * n ∧ u.2.2.1 - (i4T u n).2.2.1 * n < n) ∧ (-n ≤ u.2.2.2 - (i4T u n).2.2.2 * n ∧ u.2.2.2 - (i4T u n).2.2.2 * n < n) := by
  unfold i4T
  split
  · exact ⟨zH_b h, zH_b h, zH_b h, zH_b h⟩
  · exact ⟨zE_b h, zE_b h, zE_b h, zE_b h⟩
theorem dvG_pos {P Q : i4} {s : Int32} (h : 0 < i4n Q) : 0 < dvG P Q s := Nat.pos_of_ne_zero fun q => by
  have := (Nat.gcd_eq_zero_iff.mp q).2
  omega
theorem dv_g {P Q : i4} {s : Int32} : (dvG P Q s : Int) * dvn P Q s = i4n Q ∧ (dvG P Q s : Int) * (dvu P Q s).1 = (dvU P Q s).1 ∧ (dvG P Q s : Int) * (dvu P Q s).2.1 = (dvU P Q s).2.1 ∧ (dvG P Q s : Int) * (dvu P Q s).2.2.1 = (dvU P Q s).2.2.1 ∧ (dvG P Q s : Int) * (dvu P Q s).2.2.2 = (dvU P Q s).2.2.2 := by
  have h1 : (dvG P Q s : Int) ∣ (g4 (dvU P Q s) : Int) := Int.ofNat_dvd.mpr (Nat.gcd_dvd_left _ _)
  have h2 : (dvG P Q s : Int) ∣ i4n Q := Int.ofNat_dvd_left.mpr (Nat.gcd_dvd_right _ _)
  obtain ⟨d1, d2, d3, d4⟩ := g4_dvd (dvU P Q s)
  exact ⟨Int.mul_ediv_cancel' h2, Int.mul_ediv_cancel' (Int.dvd_trans h1 d1), Int.mul_ediv_cancel' (Int.dvd_trans h1 d2), Int.mul_ediv_cancel' (Int.dvd_trans h1 d3), Int.mul_ediv_cancel' (Int.dvd_trans h1 d4)⟩
/-- the rest's numbers, multiplied by back of q -/
theorem dv_m {P Q : i4} {s : Int32} (hP : i4o P) (hQ : i4o Q) : ∃ M : i4, 4 * i4q M = 4 * i4q Q * i4q (dvR P Q s) ∧ M.1 = 2 * ((dvU P Q s).1 - i4n Q * (dvT P Q s).1) ∧ M.2.1 = 2 * ((dvU P Q s).2.1 - i4n Q * (dvT P Q s).2.1) ∧ M.2.2.1 = 2 * ((dvU P Q s).2.2.1 - i4n Q * (dvT P Q s).2.2.1) ∧ M.2.2.2 = 2 * ((dvU P Q s).2.2.2 - i4n Q * (dvT P Q s).2.2.2) := by
  have hT : i4o (dvT P Q s) := i4T_o _ _
  have hn := i4q_4 hQ
  by_cases hs : s = 0
  · obtain ⟨a1, a2, a3, a4, -⟩ := i4m_e hQ hT
    obtain ⟨b1, b2, b3, b4, -⟩ := i4m_e (i4b_o hQ) hP
    obtain ⟨c1, c2, c3, c4⟩ := i4_L P Q (dvT P Q s) _ a1 a2 a3 a4
    have hf := i4_four (i4b Q) (i4s P (i4m Q (dvT P Q s)))
    rw [i4b_q] at hf
    have e1 : dvR P Q s = i4s P (i4m Q (dvT P Q s)) := by unfold dvR dvK; rw [if_pos hs]
    have e2 : dvU P Q s = i4m (i4b Q) P := by unfold dvU; rw [if_pos hs]
    rw [e1, e2]
    rw [hn, Int.mul_assoc] at c1 c2 c3 c4
    refine ⟨(mW (i4b Q) (i4s P (i4m Q (dvT P Q s))), mX (i4b Q) (i4s P (i4m Q (dvT P Q s))), mY (i4b Q) (i4s P (i4m Q (dvT P Q s))), mZ (i4b Q) (i4s P (i4m Q (dvT P Q s)))), ?_, ?_, ?_, ?_, ?_⟩
    · rw [Int.mul_assoc, ← hf]
      rfl
    all_goals (dsimp only; omega)
  · obtain ⟨a1, a2, a3, a4, -⟩ := i4m_e hT hQ
    obtain ⟨b1, b2, b3, b4, -⟩ := i4m_e hP (i4b_o hQ)
    obtain ⟨c1, c2, c3, c4⟩ := i4_R P Q (dvT P Q s) _ a1 a2 a3 a4
    have hf := i4_four (i4s P (i4m (dvT P Q s) Q)) (i4b Q)
    rw [i4b_q] at hf
    have e1 : dvR P Q s = i4s P (i4m (dvT P Q s) Q) := by unfold dvR dvK; rw [if_neg hs]
    have e2 : dvU P Q s = i4m P (i4b Q) := by unfold dvU; rw [if_neg hs]
    rw [e1, e2]
    rw [hn, Int.mul_assoc] at c1 c2 c3 c4
    refine ⟨(mW (i4s P (i4m (dvT P Q s) Q)) (i4b Q), mX (i4s P (i4m (dvT P Q s) Q)) (i4b Q), mY (i4s P (i4m (dvT P Q s) Q)) (i4b Q), mZ (i4s P (i4m (dvT P Q s) Q)) (i4b Q)), ?_, ?_, ?_, ?_, ?_⟩
    · rw [Int.mul_assoc, Int.mul_comm (i4q Q), ← hf]
      rfl
    all_goals (dsimp only; omega)
theorem dv_o {P Q : i4} {s : Int32} (hP : i4o P) (hQ : i4o Q) : i4o (dvR P Q s) ∧ i4o (dvK P Q s) := by
  have hT : i4o (dvT P Q s) := i4T_o _ _
  have hK : i4o (dvK P Q s) := by
    unfold dvK
    split
    · exact (i4m_e hQ hT).2.2.2.2
    · exact (i4m_e hT hQ).2.2.2.2
  exact ⟨i4s_o hP hK, hK⟩
theorem i4U_q {P Q : i4} {s : Int32} (hP : i4o P) (hQ : i4o Q) : i4q (dvU P Q s) = i4n Q * i4q P := by
  have hn := i4q_4 hQ
  have h : 4 * i4q (dvU P Q s) = i4q Q * i4q P := by
    unfold dvU
    split
    · rw [i4m_q (i4b_o hQ) hP, i4b_q]
    · rw [i4m_q hP (i4b_o hQ), i4b_q, Int.mul_comm]
  rw [hn, Int.mul_assoc] at h
  omega
/-- the rest has at most half of the norm, and not more than p -/
theorem dv_le {P Q : i4} {s : Int32} (hP : i4o P) (hQ : i4o Q) (hq : 0 < i4q Q) : 2 * i4q (dvR P Q s) ≤ i4q Q ∧ i4q (dvR P Q s) ≤ i4q P := by
  have hn := i4q_4 hQ
  have hn0 : 0 < i4n Q := by omega
  obtain ⟨g1, g2, g3, g4', g5⟩ := dv_g (P := P) (Q := Q) (s := s)
  have hg : (0 : Int) < dvG P Q s := by have := dvG_pos (P := P) (s := s) hn0; omega
  have hnp : 0 < dvn P Q s := by
    rcases Int.lt_trichotomy (dvn P Q s) 0 with q | q | q
    · have := Int.mul_neg_of_pos_of_neg hg q; omega
    · rw [q, Int.mul_zero] at g1; omega
    · exact q
  obtain ⟨M, m0, m1, m2, m3, m4⟩ := dv_m (s := s) hP hQ
  obtain ⟨t1, t2⟩ := i4T_s hnp (u := dvu P Q s)
  have hU := i4U_q (s := s) hP hQ
  generalize hgg : (dvG P Q s : Int) = g at g1 g2 g3 g4' g5 hg
  generalize hnn : dvn P Q s = n at g1 hnp t1 t2
  generalize huu : dvu P Q s = u at g2 g3 g4' g5 t1 t2
  have hTT : dvT P Q s = i4T u n := by unfold dvT; rw [huu, hnn]
  rw [hTT] at m1 m2 m3 m4
  generalize i4T u n = T at m1 m2 m3 m4 t1 t2
  generalize hRR : i4q (dvR P Q s) = r at m0 ⊢
  -- the square sum of M
  have eM : i4q M = 4 * (g * g * i4S u T n) := by
    have k3 : ∀ g n a t : Int, 2 * (g * a - g * n * t) = 2 * (g * (a - t * n)) := fun g n a t => by grind
    have f1 : M.1 = 2 * (g * (u.1 - T.1 * n)) := by rw [m1, ← g2, ← g1, k3]
    have f2 : M.2.1 = 2 * (g * (u.2.1 - T.2.1 * n)) := by rw [m2, ← g3, ← g1, k3]
    have f3 : M.2.2.1 = 2 * (g * (u.2.2.1 - T.2.2.1 * n)) := by rw [m3, ← g4', ← g1, k3]
    have f4 : M.2.2.2 = 2 * (g * (u.2.2.2 - T.2.2.2 * n)) := by rw [m4, ← g5, ← g1, k3]
    have k2 : ∀ a : Int, 2 * (g * a) * (2 * (g * a)) = 4 * (g * g * (a * a)) := fun a => by
      grind
    unfold i4q i4S
    rw [f1, f2, f3, f4, k2, k2, k2, k2]
    simp only [Int.mul_add]
  rw [eM, hn] at m0
  have e1 : i4n Q * r = g * g * i4S u T n := by
    have : 4 * (4 * (g * g * i4S u T n)) = 16 * (i4n Q * r) := by
      rw [m0]
      grind
    omega
  have hgg2 : 0 ≤ g * g := zsn g
  constructor
  · have h1 : g * g * i4S u T n ≤ g * g * (2 * (n * n)) := Int.mul_le_mul_of_nonneg_left t1 hgg2
    have h2 : g * g * (2 * (n * n)) = i4n Q * (2 * i4n Q) := by
      rw [← g1]
      grind
    have h3 : r ≤ 2 * i4n Q := Int.le_of_mul_le_mul_left (by omega : i4n Q * r ≤ i4n Q * (2 * i4n Q)) hn0
    omega
  · have h1 : g * g * i4S u T n ≤ g * g * i4q u := Int.mul_le_mul_of_nonneg_left t2 hgg2
    have h2 : g * g * i4q u = i4q (dvU P Q s) := by
      unfold i4q
      rw [← g2, ← g3, ← g4', ← g5]
      grind
    exact Int.le_of_mul_le_mul_left (by omega : i4n Q * r ≤ i4n Q * i4q P) hn0
