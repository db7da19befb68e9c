/-! fours as a ring; what divides what -/
theorem i4m_of {A B C : i4} (h1 : mW A B = 2 * C.1) (h2 : mX A B = 2 * C.2.1) (h3 : mY A B = 2 * C.2.2.1) (h4 : mZ A B = 2 * C.2.2.2) : i4m A B = C := by
  obtain ⟨a, b, c, d⟩ := C
  unfold i4m
  rw [h1, h2, h3, h4, Prod.mk.injEq, Prod.mk.injEq, Prod.mk.injEq]
  dsimp only
  omega
theorem i4m_o {A B : i4} (hA : i4o A) (hB : i4o B) : i4o (i4m A B) := (i4m_e hA hB).2.2.2.2
theorem m_as (A B C : i4) : mW (mW A B, mX A B, mY A B, mZ A B) C = mW A (mW B C, mX B C, mY B C, mZ B C) ∧ mX (mW A B, mX A B, mY A B, mZ A B) C = mX A (mW B C, mX B C, mY B C, mZ B C) ∧ mY (mW A B, mX A B, mY A B, mZ A B) C = mY A (mW B C, mX B C, mY B C, mZ B C) ∧ mZ (mW A B, mX A B, mY A B, mZ A B) C = mZ A (mW B C, mX B C, mY B C, mZ B C) := by
  obtain ⟨a1, a2, a3, a4⟩ := A
  obtain ⟨b1, b2, b3, b4⟩ := B
  obtain ⟨c1, c2, c3, c4⟩ := C
  unfold mW mX mY mZ
  dsimp only
  refine ⟨?_, ?_, ?_, ?_⟩ <;> grind
theorem i4m_as {A B C : i4} (hA : i4o A) (hB : i4o B) (hC : i4o C) : i4m (i4m A B) C = i4m A (i4m B C) := by
  obtain ⟨e1, e2, e3, e4, eo⟩ := i4m_e hA hB
  obtain ⟨f1, f2, f3, f4, fo⟩ := i4m_e hB hC
  obtain ⟨k1, k2, k3, k4⟩ := m_as A B C
  obtain ⟨l1, l2, l3, l4⟩ := i4_R2 C (i4m A B)
  obtain ⟨r1, r2, r3, r4⟩ := i4_L2 A (i4m B C)
  rw [← e1, ← e2, ← e3, ← e4] at l1 l2 l3 l4
  rw [← f1, ← f2, ← f3, ← f4] at r1 r2 r3 r4
  unfold i4m at l1 l2 l3 l4 r1 r2 r3 r4 ⊢
  rw [Prod.mk.injEq, Prod.mk.injEq, Prod.mk.injEq]
  refine ⟨?_, ?_, ?_, ?_⟩ <;> omega
theorem i4m_da {A B C : i4} (hA : i4o A) (hB : i4o B) (hC : i4o C) : i4m A (i4a B C) = i4a (i4m A B) (i4m A C) := by
  obtain ⟨e1, e2, e3, e4, -⟩ := i4m_e hA hB
  obtain ⟨f1, f2, f3, f4, -⟩ := i4m_e hA hC
  refine i4m_of ?_ ?_ ?_ ?_ <;> simp only [i4a, Int.mul_add, ← e1, ← e2, ← e3, ← e4, ← f1, ← f2, ← f3, ← f4] <;> (simp only [mW, mX, mY, mZ]; grind)
theorem i4m_ad {A B C : i4} (hA : i4o A) (hB : i4o B) (hC : i4o C) : i4m (i4a B C) A = i4a (i4m B A) (i4m C A) := by
  obtain ⟨e1, e2, e3, e4, -⟩ := i4m_e hB hA
  obtain ⟨f1, f2, f3, f4, -⟩ := i4m_e hC hA
  refine i4m_of ?_ ?_ ?_ ?_ <;> simp only [i4a, Int.mul_add, ← e1, ← e2, ← e3, ← e4, ← f1, ← f2, ← f3, ← f4] <;> (simp only [mW, mX, mY, mZ]; grind)
theorem i4m_ds {A B C : i4} (hA : i4o A) (hB : i4o B) (hC : i4o C) : i4m A (i4s B C) = i4s (i4m A B) (i4m A C) := by
  obtain ⟨e1, e2, e3, e4, -⟩ := i4m_e hA hB
  obtain ⟨f1, f2, f3, f4, -⟩ := i4m_e hA hC
  refine i4m_of ?_ ?_ ?_ ?_ <;> simp only [i4s, Int.mul_sub, ← e1, ← e2, ← e3, ← e4, ← f1, ← f2, ← f3, ← f4] <;> (simp only [mW, mX, mY, mZ]; grind)
theorem i4m_sd {A B C : i4} (hA : i4o A) (hB : i4o B) (hC : i4o C) : i4m (i4s B C) A = i4s (i4m B A) (i4m C A) := by
  obtain ⟨e1, e2, e3, e4, -⟩ := i4m_e hB hA
  obtain ⟨f1, f2, f3, f4, -⟩ := i4m_e hC hA
  refine i4m_of ?_ ?_ ?_ ?_ <;> simp only [i4s, Int.mul_sub, ← e1, ← e2, ← e3, ← e4, ← f1, ← f2, ← f3, ← f4] <;> (simp only [mW, mX, mY, mZ]; grind)
theorem i4m_bb {A B : i4} (hA : i4o A) (hB : i4o B) : i4b (i4m A B) = i4m (i4b B) (i4b A) := by
  obtain ⟨e1, e2, e3, e4, -⟩ := i4m_e hA hB
  refine (i4m_of ?_ ?_ ?_ ?_).symm <;> simp only [i4b, Int.mul_neg, ← e1, ← e2, ← e3, ← e4] <;> (simp only [mW, mX, mY, mZ]; grind)
abbrev i4c (c : Int) : i4 := (2 * c, 0, 0, 0)
theorem i4c_o (c : Int) : i4o (i4c c) := by
  refine ⟨?_, ?_, ?_⟩ <;> show 2 * c % 2 = 0 % 2 <;> omega
theorem i4m_c (c : Int) (A : i4) : i4m (i4c c) A = i4k c A ∧ i4m A (i4c c) = i4k c A := by
  refine ⟨i4m_of ?_ ?_ ?_ ?_, i4m_of ?_ ?_ ?_ ?_⟩ <;> (simp only [mW, mX, mY, mZ, i4k]; grind)
theorem i4k_1 (A : i4) : i4k 1 A = A := by simp [i4k]
theorem i4k_0 (A : i4) : i4k 0 A = (0, 0, 0, 0) := by simp [i4k]
theorem i4a_0 (A : i4) : i4a A (0, 0, 0, 0) = A := by simp [i4a]
theorem i4k_o {A : i4} (c : Int) (hA : i4o A) : i4o (i4k c A) := by rw [← (i4m_c c A).1]; exact i4m_o (i4c_o c) hA
theorem i4m_bn {A : i4} (hA : i4o A) : i4m (i4b A) A = i4c (i4n A) := by
  have h := i4q_4 hA
  have e : 2 * (2 * i4n A) = i4q A := by omega
  refine i4m_of ?_ ?_ ?_ ?_
  · rw [e]; unfold mW i4b i4q; dsimp only; grind
  · unfold mX i4b; dsimp only; grind
  · unfold mY i4b; dsimp only; grind
  · unfold mZ i4b; dsimp only; grind
theorem i4q_0 {P : i4} : i4q P = 0 ↔ P = (0, 0, 0, 0) := by
  obtain ⟨a, b, c, d⟩ := P
  constructor
  · intro h
    unfold i4q at h
    dsimp only at h
    have h1 := zsn a
    have h2 := zsn b
    have h3 := zsn c
    have h4 := zsn d
    have k : ∀ x : Int, x * x = 0 → x = 0 := fun x hx => by rcases Int.mul_eq_zero.mp hx with q | q <;> exact q
    rw [k a (by omega), k b (by omega), k c (by omega), k d (by omega)]
  · intro h
    rw [h]
    rfl
theorem i4n_c (c : Int) : i4n (i4c c) = c * c := by
  have e : i4q (i4c c) = 4 * (c * c) := by unfold i4q i4c; dsimp only; grind
  unfold i4n
  omega
theorem i4n_nn (P : i4) : 0 ≤ i4n P := by
  have := i4q_nn P
  unfold i4n
  omega
theorem i4n_pos {P : i4} (hP : i4o P) (h : 0 < i4q P) : 0 < i4n P := by
  have := i4q_4 hP
  omega
def grS (s : Int32) : Nat → i4 → i4 → i4
  | 0, P, _ => P
  | n + 1, P, Q => if i4q Q = 0 then P else grS s n Q (dvR P Q s)
noncomputable def grI (s : Int32) (P Q : i4) : i4 := asI (if s = 0 then 1 else 0) (grS s 64 P Q)
/-- what it divides from the left, and how it is mixed -/
def i4D (G P : i4) : Prop := ∃ T, i4o T ∧ P = i4m G T
def i4M (G P Q : i4) : Prop := ∃ A B, i4o A ∧ i4o B ∧ G = i4a (i4m P A) (i4m Q B)
theorem i4s_eq {A B C : i4} (h : C = i4s A B) : A = i4a B C := by
  obtain ⟨a1, a2, a3, a4⟩ := A
  rw [h]
  simp [i4a, i4s]
  omega
theorem i4as (A B C : i4) : i4a (i4s A B) C = i4a A (i4s C B) := by
  simp [i4a, i4s]
  omega
theorem i4a_as (A B C : i4) : i4a (i4a A B) C = i4a A (i4a B C) := by
  simp [i4a]
  omega
theorem i4a_c (A B : i4) : i4a A B = i4a B A := by
  simp [i4a]
  omega
theorem grS_m : ∀ (n : Nat) (P Q : i4), i4o P → i4o Q → i4q Q < 2 ^ n → i4o (grS 0 (n + 1) P Q) ∧ i4D (grS 0 (n + 1) P Q) P ∧ i4D (grS 0 (n + 1) P Q) Q ∧ i4M (grS 0 (n + 1) P Q) P Q := by
  have base : ∀ P : i4, i4o P → i4o P ∧ i4D P P ∧ i4D P (0, 0, 0, 0) ∧ i4M P P (0, 0, 0, 0) := fun P hP => ⟨hP, ⟨i4c 1, i4c_o 1, by rw [(i4m_c 1 P).2, i4k_1]⟩, ⟨i4c 0, i4c_o 0, by rw [(i4m_c 0 P).2, i4k_0]⟩, ⟨i4c 1, i4c 0, i4c_o 1, i4c_o 0, by rw [(i4m_c 1 P).2, i4k_1, (i4m_c 0 _).2, i4k_0, i4a_0]⟩⟩
  intro n
  induction n with
  | zero =>
    intro P Q hP hQ hq
    have h0 := i4q_nn Q
    have e : i4q Q = 0 := by omega
    unfold grS
    rw [if_pos e, i4q_0.mp e]
    exact base P hP
  | succ n ih =>
    intro P Q hP hQ hq
    unfold grS
    by_cases e : i4q Q = 0
    · rw [if_pos e, i4q_0.mp e]
      exact base P hP
    · rw [if_neg e]
      have h0 := i4q_nn Q
      have hR := (dv_o (s := 0) hP hQ).1
      have hT : i4o (dvT P Q 0) := i4T_o (dvu P Q 0) (dvn P Q 0)
      have hle := (dv_le (s := 0) hP hQ (by omega)).1
      have e2 : (2 : Int) ^ (n + 1) = 2 * 2 ^ n := by rw [Int.pow_succ]; omega
      obtain ⟨g0, ⟨T1, o1, e3⟩, ⟨T2, o2, e4⟩, ⟨A, B, oA, oB, e5⟩⟩ := ih Q (dvR P Q 0) hQ hR (by omega)
      have eR : P = i4a (i4m Q (dvT P Q 0)) (dvR P Q 0) := i4s_eq (C := dvR P Q 0) rfl
      refine ⟨g0, ⟨i4a (i4m T1 (dvT P Q 0)) T2, i4a_o (i4m_o o1 hT) o2, ?_⟩, ⟨T1, o1, e3⟩, ⟨B, i4s A (i4m (dvT P Q 0) B), oB, i4s_o oA (i4m_o hT oB), ?_⟩⟩
      · rw [i4m_da g0 (i4m_o o1 hT) o2, ← i4m_as g0 o1 hT, ← e3, ← e4]
        exact eR
      · have eR2 : dvR P Q 0 = i4s P (i4m Q (dvT P Q 0)) := rfl
        rw [e5]
        rw [eR2, i4m_sd oB hP (i4m_o hQ hT), i4m_ds hQ oA (i4m_o hT oB), i4m_as hQ hT oB, i4a_c, i4as]
