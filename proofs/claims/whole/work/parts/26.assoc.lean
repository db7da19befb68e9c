/-! the associate -/
def unI (k : Nat) : i4 := if k < 16 then (1 - 2 * (k / 2 % 2 : Nat), 1 - 2 * (k / 4 % 2 : Nat), 1 - 2 * (k / 8 % 2 : Nat), 1 - 2 * (k % 2 : Nat))
  else (if (k - 16) / 2 = 0 then (if k % 2 = 0 then 2 else -2) else 0, if (k - 16) / 2 = 1 then (if k % 2 = 0 then 2 else -2) else 0, if (k - 16) / 2 = 2 then (if k % 2 = 0 then 2 else -2) else 0, if (k - 16) / 2 = 3 then (if k % 2 = 0 then 2 else -2) else 0)
theorem unI_all : ∀ k, k < 24 → zUn (nI k) = z4i (unI k) ∧ i4o (unI k) ∧ i4l (unI k) 2 ∧ i4q (unI k) = 4 := by decide +kernel
def prI (U P : i4) (s : Int32) : i4 := if s = 0 then i4m U P else i4m P U
abbrev i4t (P Q : i4) : Prop := if P.1 = Q.1 then if P.2.1 = Q.2.1 then if P.2.2.1 = Q.2.2.1 then P.2.2.2 < Q.2.2.2 else P.2.2.1 < Q.2.2.1 else P.2.1 < Q.2.1 else P.1 < Q.1
theorem i4t_z {P Q : i4} {a b : Nat} (hP : i4l P a) (hQ : i4l Q b) (ha : a < 9223372036854775808 := by decide) (hb : b < 9223372036854775808 := by decide) : zLess (z4i P) (z4i Q) ↔ i4t P Q := by
  obtain ⟨p0, p1, p2, p3⟩ := hP
  obtain ⟨q0, q1, q2, q3⟩ := hQ
  have k : ∀ {x y : Int}, x.natAbs ≤ a → y.natAbs ≤ b → (iz x = iz y ↔ x = y) ∧ (iz x < iz y ↔ x < y) := fun hx hy => ⟨iz_inj (by omega) (by omega), iz_lt (by omega) (by omega)⟩
  unfold zLess i4t z4i
  simp only [(k p0 q0).1, (k p0 q0).2, (k p1 q1).1, (k p1 q1).2, (k p2 q2).1, (k p2 q2).2, (k p3 q3).2]
theorem i4t_tot {P Q : i4} (h1 : ¬ i4t P Q) (h2 : ¬ i4t Q P) : P = Q := by
  obtain ⟨a, b, c, d⟩ := P
  obtain ⟨e, f, g, k⟩ := Q
  unfold i4t at h1 h2
  dsimp only at h1 h2
  by_cases x1 : a = e
  · subst x1
    by_cases x2 : b = f
    · subst x2
      by_cases x3 : c = g
      · subst x3
        simp at h1 h2
        rw [show d = k by omega]
      · have x3' : ¬ g = c := fun q => x3 q.symm
        simp [x3, x3'] at h1 h2
        omega
    · have x2' : ¬ f = b := fun q => x2 q.symm
      simp [x2, x2'] at h1 h2
      omega
  · have x1' : ¬ e = a := fun q => x1 q.symm
    simp [x1, x1'] at h1 h2
    omega
theorem i4t_irr (P : i4) : ¬ i4t P P := by simp [i4t]
theorem i4t_tr {P Q R : i4} (h1 : ¬ i4t P Q) (h2 : i4t P R) : i4t Q R := by
  obtain ⟨a, b, c, d⟩ := P
  obtain ⟨e, f, g, k⟩ := Q
  obtain ⟨x, y, z, w⟩ := R
  unfold i4t at h1 h2 ⊢
  dsimp only at h1 h2 ⊢
  (repeat' split at h1) <;> (repeat' split at h2) <;> (repeat' split) <;> omega
theorem i4t_asym {P Q : i4} (h1 : i4t P Q) (h2 : i4t Q P) : False := by
  obtain ⟨a, b, c, d⟩ := P
  obtain ⟨e, f, g, k⟩ := Q
  unfold i4t at h1 h2
  dsimp only at h1 h2
  (repeat' split at h1) <;> (repeat' split at h2) <;> omega
def isAs (s : Int32) (P R : i4) : Prop := (∃ k, k < 24 ∧ R = prI (unI k) P s) ∧ ∀ k, k < 24 → ¬ i4t R (prI (unI k) P s)
noncomputable def asI (s : Int32) (P : i4) : i4 := @Classical.epsilon i4 ⟨(0, 0, 0, 0)⟩ (isAs s P)
theorem asI_of {s : Int32} {P R : i4} (h : isAs s P R) : asI s P = R := by
  have h1 : isAs s P (asI s P) := Classical.epsilon_spec_aux (α := i4) ⟨(0, 0, 0, 0)⟩ (isAs s P) ⟨R, h⟩
  obtain ⟨⟨k, hk, e⟩, hm⟩ := h
  obtain ⟨⟨j, hj, e'⟩, hm'⟩ := h1
  exact i4t_tot (by rw [e]; exact hm' k hk) (by rw [e']; exact hm j hj)
theorem prI_z {U P : i4} {s : Int32} (hU : i4o U) (hP : i4o P) (lU : i4l U 2) (lP : i4l P 2147483648) : (if s = 0 then zMul (z4i U) (z4i P) else zMul (z4i P) (z4i U)) = z4i (prI U P s) ∧ i4l (prI U P s) 17179869184 ∧ i4o (prI U P s) := by
  obtain ⟨a1, a2, a3, a4⟩ := zb_m lU lP
  obtain ⟨b1, b2, b3, b4⟩ := zb_m lP lU
  unfold prI
  by_cases hs : s = 0
  · rw [if_pos hs, if_pos hs]
    obtain ⟨e1, e2, e3, e4, e5⟩ := i4m_e hU hP
    exact ⟨z4i_mul hU hP (Nat.lt_of_le_of_lt a1 (by decide)) (Nat.lt_of_le_of_lt a2 (by decide)) (Nat.lt_of_le_of_lt a3 (by decide)) (Nat.lt_of_le_of_lt a4 (by decide)), ⟨Nat.le_trans (zhalf e1 a1) (by decide), Nat.le_trans (zhalf e2 a2) (by decide), Nat.le_trans (zhalf e3 a3) (by decide), Nat.le_trans (zhalf e4 a4) (by decide)⟩, e5⟩
  · rw [if_neg hs, if_neg hs]
    obtain ⟨e1, e2, e3, e4, e5⟩ := i4m_e hP hU
    exact ⟨z4i_mul hP hU (Nat.lt_of_le_of_lt b1 (by decide)) (Nat.lt_of_le_of_lt b2 (by decide)) (Nat.lt_of_le_of_lt b3 (by decide)) (Nat.lt_of_le_of_lt b4 (by decide)), ⟨Nat.le_trans (zhalf e1 b1) (by decide), Nat.le_trans (zhalf e2 b2) (by decide), Nat.le_trans (zhalf e3 b3) (by decide), Nat.le_trans (zhalf e4 b4) (by decide)⟩, e5⟩
theorem prI_q {U P : i4} {s : Int32} (hU : i4o U) (hP : i4o P) (h : i4q U = 4) : i4q (prI U P s) = i4q P := by
  unfold prI
  split
  · have := i4m_q hU hP
    rw [h] at this
    omega
  · have := i4m_q hP hU
    rw [h] at this
    omega
theorem pr_1 (P : i4) (s : Int32) : prI (unI 16) P s = P := by
  have e : unI 16 = (2, 0, 0, 0) := by decide
  obtain ⟨a, b, c, d⟩ := P
  rw [e]
  unfold prI i4m mW mX mY mZ
  dsimp only
  split <;> (rw [Prod.mk.injEq, Prod.mk.injEq, Prod.mk.injEq]; omega)
/-- the class's search: p, and then each greater product -/
def asC (s : Int32) (P : i4) : Nat → i4
  | 0 => P
  | k + 1 => if i4t (asC s P k) (prI (unI k) P s) then prI (unI k) P s else asC s P k
theorem asC_in (s : Int32) (P : i4) : ∀ k, k ≤ 24 → (∃ j, j < 24 ∧ asC s P k = prI (unI j) P s) ∧ ∀ j, j < k → ¬ i4t (asC s P k) (prI (unI j) P s) := by
  intro k
  induction k with
  | zero => exact fun _ => ⟨⟨16, by decide, (pr_1 P s).symm⟩, fun j hj => absurd hj (Nat.not_lt_zero _)⟩
  | succ k ih =>
    intro hk
    obtain ⟨h1, h2⟩ := ih (by omega)
    unfold asC
    split
    · rename_i h3
      refine ⟨⟨k, by omega, rfl⟩, fun j hj h4 => ?_⟩
      rcases Nat.lt_or_ge j k with q | q
      · exact i4t_asym h4 (i4t_tr (h2 j q) h3)
      · rw [show j = k by omega] at h4
        exact i4t_irr _ h4
    · rename_i h3
      refine ⟨h1, fun j hj => ?_⟩
      rcases Nat.lt_or_ge j k with q | q
      · exact h2 j q
      · rw [show j = k by omega]
        exact h3
theorem asC_as (s : Int32) (P : i4) : asI s P = asC s P 24 := asI_of ⟨(asC_in s P 24 (Nat.le_refl _)).1, (asC_in s P 24 (Nat.le_refl _)).2⟩
theorem asC_o {s : Int32} {P : i4} (hP : i4o P) (lP : i4l P 2147483648) : ∀ k, k ≤ 24 → i4o (asC s P k) ∧ i4l (asC s P k) 17179869184 ∧ i4q (asC s P k) = i4q P := by
  intro k hk
  obtain ⟨⟨j, hj, e⟩, -⟩ := asC_in s P k hk
  obtain ⟨-, ho, hl2, hq4⟩ := unI_all j hj
  obtain ⟨-, h2, h3⟩ := prI_z (s := s) ho hP hl2 lP
  rw [e]
  exact ⟨h3, h2, prI_q ho hP hq4⟩
theorem asC_l {s : Int32} {P : i4} (hP : i4o P) (lP : i4l P 2147483648) (k : Nat) (hk : k ≤ 24) : i4l (asC s P k) 17179869184 := (asC_o hP lP k hk).2.1
theorem asI_o {s : Int32} {P : i4} (hP : i4o P) (lP : i4l P 2147483648) : i4o (asI s P) ∧ i4q (asI s P) = i4q P := by
  rw [asC_as]
  exact ⟨(asC_o hP lP 24 (Nat.le_refl _)).1, (asC_o hP lP 24 (Nat.le_refl _)).2.2⟩
theorem zU_3 {h : zHp} {rs un pr : Nat} {a b c d e f : va_E} (d1 : rs ≠ un) (d2 : rs ≠ pr) (d3 : un ≠ pr) : zU (zU (zU (zU (zU (zU h un a) pr b) rs c) un d) pr e) rs f = zU (zU (zU h un d) pr e) rs f := by
  funext x
  by_cases x1 : x = rs
  · simp [zU, x1]
  · by_cases x2 : x = pr
    · simp [zU, x1, x2, d2.symm]
    · by_cases x3 : x = un
      · subst x3
        simp [zU, x1, x2]
      · simp [zU, x1, x2, x3]
theorem zU_2 {h : zHp} {rs un pr : Nat} {a b c d e : va_E} (d1 : rs ≠ un) (d2 : rs ≠ pr) (d3 : un ≠ pr) : zU (zU (zU (zU (zU h un a) pr b) rs c) un d) pr e = zU (zU (zU h un d) pr e) rs c := by
  funext x
  by_cases x1 : x = rs
  · simp [zU, x1, d1, d2]
  · by_cases x2 : x = pr
    · simp [zU, x1, x2, d2.symm]
    · by_cases x3 : x = un
      · subst x3
        simp [zU, x1, x2]
      · simp [zU, x1, x2, x3]
