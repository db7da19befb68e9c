/-! parts -/
theorem i4b_a (A B : i4) : i4b (i4a A B) = i4a (i4b A) (i4b B) := by
  simp [i4a, i4b]
  omega
theorem i4b_k (c : Int) (A : i4) : i4b (i4k c A) = i4k c (i4b A) := by simp [i4k, i4b, Int.mul_neg]
theorem i4k_a (c : Int) (A B : i4) : i4k c (i4a A B) = i4a (i4k c A) (i4k c B) := by simp [i4k, i4a, Int.mul_add]
theorem i4k_k (c d : Int) (A : i4) : i4k c (i4k d A) = i4k (c * d) A := by simp [i4k, Int.mul_assoc]
theorem i4m_k {A B : i4} (c : Int) (hA : i4o A) (hB : i4o B) : i4m (i4k c A) B = i4k c (i4m A B) := by
  rw [← (i4m_c c A).1, i4m_as (i4c_o c) hA hB, (i4m_c c _).1]
theorem i4n_k (c : Int) {A : i4} (hA : i4o A) : i4n (i4k c A) = c * c * i4n A := by
  rw [← (i4m_c c A).1, i4m_n (i4c_o c) hA, i4n_c]
theorem i4_ev {A B : i4} (hA : i4o A) (hB : i4o B) : ∃ c : Int, A.1 * B.1 + A.2.1 * B.2.1 + A.2.2.1 * B.2.2.1 + A.2.2.2 * B.2.2.2 = 2 * c := by
  obtain ⟨a, b, c, d, r, e⟩ := i4_h hA
  obtain ⟨x, y, z, w, t, f⟩ := i4_h hB
  rw [e, f]
  exact ⟨2 * (a * x + b * y + c * z + d * w) + t * (a + b + c + d) + r * (x + y + z + w) + 2 * (r * t), by dsimp only; grind⟩
theorem i4n_a {A B : i4} (hA : i4o A) (hB : i4o B) : ∃ c : Int, i4n (i4a A B) = i4n A + i4n B + c ∧ A.1 * B.1 + A.2.1 * B.2.1 + A.2.2.1 * B.2.2.1 + A.2.2.2 * B.2.2.2 = 2 * c := by
  obtain ⟨c, hc⟩ := i4_ev hA hB
  have h1 := i4q_4 hA
  have h2 := i4q_4 hB
  have h3 := i4q_4 (i4a_o hA hB)
  have e : i4q (i4a A B) = i4q A + i4q B + 2 * (A.1 * B.1 + A.2.1 * B.2.1 + A.2.2.1 * B.2.2.1 + A.2.2.2 * B.2.2.2) := by unfold i4q i4a; dsimp only; grind
  exact ⟨c, by omega, hc⟩
theorem i4n_al {A B : i4} (l : Int) (hA : i4o A) (hB : i4o B) : ∃ c : Int, i4n (i4a A (i4k l B)) = i4n A + l * l * i4n B + l * c := by
  obtain ⟨c, hc, e⟩ := i4n_a hA (i4k_o l hB)
  obtain ⟨d, hd⟩ := i4_ev hA hB
  refine ⟨d, ?_⟩
  rw [hc, i4n_k l hB]
  have e2 : A.1 * (i4k l B).1 + A.2.1 * (i4k l B).2.1 + A.2.2.1 * (i4k l B).2.2.1 + A.2.2.2 * (i4k l B).2.2.2 = l * (A.1 * B.1 + A.2.1 * B.2.1 + A.2.2.1 * B.2.2.1 + A.2.2.2 * B.2.2.2) := by unfold i4k; dsimp only; grind
  rw [e2, hd] at e
  have e3 : l * (2 * d) = 2 * (l * d) := by grind
  omega
theorem i4D_n {G P : i4} (hG : i4o G) (h : i4D G P) (hP : 0 < i4n P) : 0 < i4n G ∧ i4n G ≤ i4n P := by
  obtain ⟨T, oT, e⟩ := h
  have h1 := i4m_n hG oT
  rw [← e] at h1
  have g0 := i4n_nn G
  have t0 := i4n_nn T
  rw [h1] at hP ⊢
  have g1 : i4n G ≠ 0 := fun q => by rw [q, Int.zero_mul] at hP; exact absurd hP (by decide)
  have t1 : i4n T ≠ 0 := fun q => by rw [q, Int.mul_zero] at hP; exact absurd hP (by decide)
  refine ⟨by omega, ?_⟩
  have := Int.mul_le_mul_of_nonneg_left (show 1 ≤ i4n T by omega) g0
  rwa [Int.mul_one] at this
noncomputable def ptG (P : i4) (l : Nat) : i4 := grI 0 P (i4c l)
noncomputable def ptN (P : i4) (l : Nat) : i4 := i4d (i4m (i4b (ptG P l)) P) l
theorem i4d_k {l : Int} (h : l ≠ 0) (A : i4) : i4d (i4k l A) l = A := by
  unfold i4d i4k
  dsimp only
  rw [Int.mul_ediv_cancel_left _ h, Int.mul_ediv_cancel_left _ h, Int.mul_ediv_cancel_left _ h, Int.mul_ediv_cancel_left _ h]
abbrev ptOK (P : i4) (m : Nat) : Prop := i4o P ∧ 0 < i4n P ∧ i4n P ≤ 1000000000 ∧ (m : Int) ∣ i4n P ∧ 1 ≤ m
theorem ptOK_q {P : i4} {m : Nat} (h : ptOK P m) : i4q P ≤ 4000000000 ∧ m ≤ 1000000000 := by
  have h1 := i4q_4 h.1
  have h2 := Int.le_of_dvd h.2.1 h.2.2.2.1
  have h3 := h.2.2.1
  omega
theorem pt_st {P : i4} {m l : Nat} (h : ptOK P m) (h1 : 1 ≤ l) (hl : l ∣ m) : grOK P (i4c l) ∧ i4o (ptG P l) ∧ 0 < i4n (ptG P l) ∧ i4n (ptG P l) ≤ i4n P ∧ i4m (i4b (ptG P l)) P = i4k l (ptN P l) ∧ ptOK (ptN P l) (m / l) ∧ i4n (ptN P l) ≤ i4n P := by
  obtain ⟨hq, hm⟩ := ptOK_q h
  obtain ⟨hP, n0, n1, ⟨t, ht⟩, m1⟩ := h
  have hlm := Nat.le_of_dvd m1 hl
  obtain ⟨k, hk⟩ := hl
  have hOK := grOK_c (l := l) hP hq (by omega) (by omega)
  have hl0 : (l : Int) ≠ 0 := by omega
  obtain ⟨oG, dP, ⟨T2, oT, eT⟩, ⟨A, B, oA, oB, eG⟩⟩ := grI_m hP (i4c_o l) (gr_q hOK)
  obtain ⟨pG, leG⟩ := i4D_n oG dP n0
  change i4o (ptG P l) at oG
  change i4D (ptG P l) P at dP
  change i4c l = i4m (ptG P l) T2 at eT
  change ptG P l = _ at eG
  change 0 < i4n (ptG P l) at pG
  change i4n (ptG P l) ≤ i4n P at leG
  rw [(i4m_c l B).1] at eG
  have hmk : (m : Int) = l * k := by rw [hk]; exact Int.natCast_mul l k
  have e1 : i4m (i4b (ptG P l)) P = i4k l (i4a (i4k (k * t) (i4b A)) (i4m (i4b B) P)) := by
    rw [eG, i4b_a, i4b_k, i4m_bb hP oA, i4m_ad hP (i4m_o (i4b_o oA) (i4b_o hP)) (i4k_o l (i4b_o oB)), i4m_k l (i4b_o oB) hP, i4m_as (i4b_o oA) (i4b_o hP) hP, i4m_bn hP, (i4m_c _ _).2, i4k_a, i4k_k, ← Int.mul_assoc, ← hmk, ← ht]
  have eN : ptN P l = i4a (i4k (k * t) (i4b A)) (i4m (i4b B) P) := by
    unfold ptN
    rw [e1, i4d_k hl0]
  have oN : i4o (ptN P l) := by
    rw [eN]
    exact i4a_o (i4k_o _ (i4b_o oA)) (i4m_o (i4b_o oB) hP)
  rw [← eN] at e1
  have e2 : i4n (ptG P l) * i4n P = l * l * i4n (ptN P l) := by
    have := congrArg i4n e1
    rw [i4m_n (i4b_o oG) hP, i4n_k l oN] at this
    rw [← this]
    unfold i4n
    rw [i4b_q]
  obtain ⟨c, hc⟩ := i4n_al l (i4m_o hP oA) oB
  rw [← eG, i4m_n hP oA, ht, hmk] at hc
  have e3 : i4n (ptG P l) = l * (k * t * i4n A + l * i4n B + c) := by rw [hc]; grind
  have e4 : (k * t * i4n A + l * i4n B + c) * (k * t) = i4n (ptN P l) := by
    have q : (l : Int) * l * ((k * t * i4n A + l * i4n B + c) * (k * t)) = l * l * i4n (ptN P l) := by
      rw [← e2, e3, ht, hmk]
      grind
    exact Int.eq_of_mul_eq_mul_left (Int.mul_ne_zero hl0 hl0) q
  have e5 : (l : Int) * l = i4n (ptG P l) * i4n T2 := by
    rw [← i4m_n oG oT, ← eT, i4n_c]
  have ll : (0 : Int) < l * l := Int.mul_pos (by omega) (by omega)
  have hle : i4n (ptG P l) ≤ l * l := by
    have t0 := i4n_nn T2
    have t1 : i4n T2 ≠ 0 := fun q => by rw [q, Int.mul_zero] at e5; omega
    have := Int.mul_le_mul_of_nonneg_left (show 1 ≤ i4n T2 by omega) (show 0 ≤ i4n (ptG P l) by omega)
    rw [Int.mul_one] at this
    omega
  have hNle : i4n (ptN P l) ≤ i4n P := by
    have := Int.mul_le_mul_of_nonneg_right hle (show 0 ≤ i4n P by omega)
    rw [e2] at this
    exact Int.le_of_mul_le_mul_left this ll
  have hNpos : 0 < i4n (ptN P l) := by
    have := Int.mul_pos pG n0
    rw [e2] at this
    have h0 := i4n_nn (ptN P l)
    rcases Int.lt_or_le 0 (i4n (ptN P l)) with q | q
    · exact q
    · rw [show i4n (ptN P l) = 0 by omega, Int.mul_zero] at this
      exact absurd this (by decide)
  have hml : m / l = k := by rw [hk]; exact Nat.mul_div_cancel_left k h1
  have hk0 : k ≠ 0 := fun q => by rw [q, Nat.mul_zero] at hk; omega
  refine ⟨hOK, oG, pG, leG, e1, ⟨oN, hNpos, by omega, ?_, by omega⟩, hNle⟩
  rw [hml, ← e4]
  exact ⟨(k * t * i4n A + l * i4n B + c) * t, by grind⟩
noncomputable def ptL : Nat → i4 → Nat → List i4
  | 0, P, _ => [P]
  | k + 1, P, m => if m ≤ 1 then [P] else ptG P (zLp m) :: ptL k (ptN P (zLp m)) (m / zLp m)
theorem zLp_d {m : Nat} (h : 2 ≤ m) : 2 ≤ zLp m ∧ zLp m ∣ m ∧ zLp m ≤ m := by
  obtain ⟨h1, h2, -⟩ := zLp_is h
  have h3 := Nat.dvd_of_mod_eq_zero h2
  exact ⟨h1, h3, Nat.le_of_dvd (by omega) h3⟩
theorem pt_hf {m l k : Nat} (h : m < 2 ^ (k + 1)) (hl : 2 ≤ l) : m / l < 2 ^ k := by
  rw [Nat.pow_succ] at h
  rw [Nat.div_lt_iff_lt_mul (by omega)]
  calc m < 2 ^ k * 2 := h
    _ ≤ 2 ^ k * l := Nat.mul_le_mul_left _ hl
