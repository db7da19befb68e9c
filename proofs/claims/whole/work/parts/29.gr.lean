/-! heaps that differ at some fours only -/
def zKp (S : List Nat) (h h' : zHp) : Prop := ∀ x, h' x = h x ∨ (x ∈ S ∧ ∃ v w : z4, h x = some (zFo v) ∧ h' x = some (zFo w))
theorem zKp_r (S : List Nat) (h : zHp) : zKp S h h := fun _ => Or.inl rfl
theorem zKp_t {S : List Nat} {h h1 h2 : zHp} (a : zKp S h h1) (b : zKp S h1 h2) : zKp S h h2 := fun x => by
  rcases a x with p | ⟨m, v, w, e1, e2⟩
  · rcases b x with q | ⟨m, v, w, e1, e2⟩
    · exact Or.inl (q.trans p)
    · exact Or.inr ⟨m, v, w, p ▸ e1, e2⟩
  · rcases b x with q | ⟨_, v', w', e3, e4⟩
    · exact Or.inr ⟨m, v, w, e1, q.trans e2⟩
    · exact Or.inr ⟨m, v, w', e1, e4⟩
theorem zKp_m {S T : List Nat} {h h1 : zHp} (a : zKp S h h1) (hs : ∀ x, x ∈ S → x ∈ T) : zKp T h h1 := fun x => (a x).imp_right fun ⟨m, r⟩ => ⟨hs x m, r⟩
theorem zKp_u {S : List Nat} {h h' : zHp} {a : Nat} {v w : z4} (ha : h a = some (zFo v)) (hq : h' = zU h a (zFo w)) (hm : a ∈ S) : zKp S h h' := fun x => by
  by_cases hx : x = a
  · subst hx
    exact Or.inr ⟨hm, v, w, ha, by rw [hq, zU_s]⟩
  · exact Or.inl (by rw [hq, zU_n _ _ hx])
theorem zKp_n {S : List Nat} {h h' : zHp} {x : Nat} {e : va_E} (k : zKp S h h') (hx : h x = some e) (hn : x ∉ S) : h' x = some e := by
  rcases k x with p | ⟨m, -⟩
  · rw [p, hx]
  · exact absurd m hn
theorem zKp_o {S : List Nat} {h h' : zHp} {x ci : Nat} {fs : List Value} (k : zKp S h h') (hx : h x = some (zO ci fs)) (hc : ci ≠ 4) : h' x = some (zO ci fs) := by
  rcases k x with p | ⟨-, v, w, e1, -⟩
  · rw [p, hx]
  · rw [hx] at e1
    exact absurd (congrArg Prod.fst (Sum.inr.inj (Option.some.inj e1))) hc
theorem zKp_l {S : List Nat} {h h' : zHp} {x : Nat} {e} (k : zKp S h h') (hx : h x = some (.inl e)) : h' x = some (.inl e) := by
  rcases k x with p | ⟨-, v, w, e1, -⟩
  · rw [p, hx]
  · rw [hx] at e1
    exact absurd (Option.some.inj e1) (by simp)
theorem zKp_f {S : List Nat} {h h' : zHp} {x : Nat} (k : zKp S h h') (hx : ∃ v : z4, h x = some (zFo v)) : ∃ v : z4, h' x = some (zFo v) := by
  rcases k x with p | ⟨-, v, w, -, e⟩
  · rw [p]
    exact hx
  · exact ⟨w, e⟩
def zInj (g : Nat → Nat) : Prop := ∀ i j, g i = g j → i = j
theorem zInj.ne {g : Nat → Nat} (hg : zInj g) {i j : Nat} (h : i ≠ j) : g i ≠ g j := fun e => h (hg i j e)
theorem zInj.nm {g : Nat → Nat} (hg : zInj g) {i : Nat} {l : List Nat} (h : i ∉ l) : g i ∉ l.map g := fun hm => by
  obtain ⟨j, hj, e⟩ := List.mem_map.mp hm
  rw [hg j i e] at hj
  exact h hj
/-! what the search for a greatest keeps -/
theorem asI_c (s : Int32) (P : i4) : ∃ j, j < 24 ∧ asI s P = prI (unI j) P s := by
  rw [asC_as]
  exact (asC_in s P 24 (Nat.le_refl _)).1
theorem asI_q {s : Int32} {P : i4} (hP : i4o P) : i4o (asI s P) ∧ i4q (asI s P) = i4q P := by
  obtain ⟨j, hj, e⟩ := asI_c s P
  obtain ⟨-, ho, -, hq⟩ := unI_all j hj
  rw [e]
  refine ⟨?_, prI_q ho hP hq⟩
  unfold prI
  split
  · exact i4m_o ho hP
  · exact i4m_o hP ho
abbrev grOK (P Q : i4) : Prop := i4o P ∧ i4o Q ∧ i4l P 2147483648 ∧ i4l Q 2147483648 ∧ (0 < i4q Q → dvOK P Q)
theorem i4l_m {P : i4} {a b : Nat} (h : i4l P a) (hab : a ≤ b) : i4l P b := ⟨Nat.le_trans h.1 hab, Nat.le_trans h.2.1 hab, Nat.le_trans h.2.2.1 hab, Nat.le_trans h.2.2.2 hab⟩
theorem grOK_of {P Q : i4} (hP : i4o P) (hQ : i4o Q) (qP : i4q P ≤ 4000000000) (qQ : i4q Q ≤ 4000000000) : grOK P Q := ⟨hP, hQ, i4l_m (zb_63 qP) (by decide), i4l_m (zb_63 qQ) (by decide), fun h => ⟨hP, hQ, h, Or.inl ⟨qQ, i4l_m (zb_63 qP) (by decide)⟩⟩⟩
theorem i4c_l {l : Int} (h1 : 1 ≤ l) (h2 : l ≤ 1000000000) : i4l (i4c l) 2147483648 := by
  refine ⟨?_, ?_, ?_, ?_⟩
  · show (2 * l).natAbs ≤ 2147483648
    omega
  all_goals exact Nat.zero_le _
theorem i4c_q {l : Int} (h1 : 1 ≤ l) : 0 < i4q (i4c l) := by
  have e : i4q (i4c l) = 4 * (l * l) := by unfold i4q i4c; dsimp only; grind
  have := Int.mul_pos (show 0 < l by omega) (show 0 < l by omega)
  omega
theorem grOK_c {P : i4} {l : Int} (hP : i4o P) (qP : i4q P ≤ 4000000000) (h1 : 1 ≤ l) (h2 : l ≤ 1000000000) : grOK P (i4c l) := ⟨hP, i4c_o l, i4l_m (zb_63 qP) (by decide), i4c_l h1 h2, fun h => ⟨hP, i4c_o l, h, Or.inr ⟨qP, l, h1, h2, rfl⟩⟩⟩
theorem gr_63 {P Q : i4} {s : Int32} (h : dvOK P Q) : i4l (dvR P Q s) 63245 := zb_63 (dv_K h).2
theorem gr_nx {P Q : i4} {s : Int32} (h : grOK P Q) (hq : 0 < i4q Q) : grOK Q (dvR P Q s) ∧ 2 * i4q (dvR P Q s) ≤ i4q Q :=
  ⟨⟨h.2.1, (dv_o h.1 h.2.1).1, h.2.2.2.1, i4l_m (gr_63 (h.2.2.2.2 hq)) (by decide), fun hr => dv_next (h.2.2.2.2 hq) hr⟩, (dv_le h.1 h.2.1 hq).1⟩
theorem gr_q {P Q : i4} (h : grOK P Q) : i4q Q < 2 ^ 63 := by
  rcases Int.lt_or_le 0 (i4q Q) with q | q
  · have := (dv_q (h.2.2.2.2 q)).1
    exact Int.lt_of_le_of_lt this (by decide)
  · exact Int.lt_of_le_of_lt q (by decide)
theorem z4i_nil {Q : i4} {a : Nat} (h : i4l Q a) (ha : a < 9223372036854775808 := by decide) : zNil (z4i Q) ↔ i4q Q = 0 := by
  have k : ∀ {x : Int}, x.natAbs ≤ a → (iz x = 0 ↔ x = 0) := fun {x} hx => by rw [iz_0, iz_inj (by omega) (by omega)]
  rw [i4q_0]
  obtain ⟨q1, q2, q3, q4⟩ := Q
  unfold z4i
  dsimp only [zNil] at h ⊢
  rw [k h.1, k h.2.1, k h.2.2.1, k h.2.2.2, Prod.mk.injEq, Prod.mk.injEq, Prod.mk.injEq]
theorem gr_st {P Q : i4} {s : Int32} {k : Nat} (h : grOK P Q) (hk : i4q Q < 2 ^ k) (h0 : ¬ i4q Q = 0) : ∃ k', k = k' + 1 ∧ i4q (dvR P Q s) < 2 ^ k' ∧ grOK Q (dvR P Q s) ∧ grS s (k + 1) P Q = grS s (k' + 1) Q (dvR P Q s) := by
  have hn := i4q_nn Q
  cases k with
  | zero => exact absurd (show i4q Q = 0 from Int.le_antisymm (Int.le_of_lt_add_one hk) hn) h0
  | succ k =>
    have hp : 0 < i4q Q := Int.lt_iff_le_and_ne.mpr ⟨hn, fun e => h0 e.symm⟩
    obtain ⟨h1, h2⟩ := gr_nx (s := s) h hp
    refine ⟨k, rfl, ?_, h1, ?_⟩
    · clear h h1
      have e2 : (2 : Int) ^ (k + 1) = 2 * 2 ^ k := by rw [Int.pow_succ]; omega
      omega
    · rw [grS, if_neg h0]
theorem gr_e {P Q : i4} {s : Int32} {k : Nat} (h0 : i4q Q = 0) : grS s (k + 1) P Q = P := by
  rw [grS, if_pos h0]
theorem grS_b {s : Int32} {M : Int} : ∀ (n : Nat) (P Q : i4), i4o P → i4o Q → i4q P ≤ M → i4q Q ≤ M → i4o (grS s n P Q) ∧ i4q (grS s n P Q) ≤ M := by
  intro n
  induction n with
  | zero => exact fun P Q hP _ qP _ => ⟨hP, qP⟩
  | succ n ih =>
    intro P Q hP hQ qP qQ
    unfold grS
    split
    · exact ⟨hP, qP⟩
    · rename_i h0
      have hn := i4q_nn Q
      have hr := i4q_nn (dvR P Q s)
      have hl := (dv_le (s := s) hP hQ (by omega)).1
      exact ih Q (dvR P Q s) hQ (dv_o hP hQ).1 qQ (by omega)
theorem grI_b {s : Int32} {P Q : i4} {M : Int} (hP : i4o P) (hQ : i4o Q) (qP : i4q P ≤ M) (qQ : i4q Q ≤ M) : i4o (grI s P Q) ∧ i4q (grI s P Q) ≤ M := by
  obtain ⟨h1, h2⟩ := grS_b (s := s) (M := M) 64 P Q hP hQ qP qQ
  obtain ⟨h3, h4⟩ := asI_q (s := if s = 0 then 1 else 0) h1
  exact ⟨h3, by unfold grI; rw [h4]; exact h2⟩
theorem grI_m {P Q : i4} (hP : i4o P) (hQ : i4o Q) (hq : i4q Q < 2 ^ 63) : i4o (grI 0 P Q) ∧ i4D (grI 0 P Q) P ∧ i4D (grI 0 P Q) Q ∧ i4M (grI 0 P Q) P Q := by
  obtain ⟨g0, ⟨T1, o1, e1⟩, ⟨T2, o2, e2⟩, ⟨A, B, oA, oB, e3⟩⟩ := grS_m 63 P Q hP hQ hq
  obtain ⟨j, hj, e⟩ := asI_c 1 (grS 0 64 P Q)
  obtain ⟨-, ho, -, h4⟩ := unI_all j hj
  have hs : (if (0 : Int32) = 0 then (1 : Int32) else 0) = 1 := rfl
  have eG : grI 0 P Q = i4m (grS 0 64 P Q) (unI j) := by
    unfold grI
    rw [hs, e]
    rfl
  have hb := i4b_o ho
  have hn : i4n (unI j) = 1 := by unfold i4n; rw [h4]; rfl
  have hu : i4m (unI j) (i4b (unI j)) = i4c 1 := by
    have h := i4m_bn hb
    rw [show i4b (i4b (unI j)) = unI j by simp [i4b]] at h
    rw [h]
    unfold i4n
    rw [i4b_q]
    exact congrArg i4c hn
  have kd : ∀ T X, i4o T → X = i4m (grS 0 64 P Q) T → i4D (i4m (grS 0 64 P Q) (unI j)) X := fun T X oT eX => ⟨i4m (i4b (unI j)) T, i4m_o hb oT, by rw [i4m_as g0 ho (i4m_o hb oT), ← i4m_as ho hb oT, hu, (i4m_c 1 T).1, i4k_1, eX]⟩
  rw [eG]
  exact ⟨i4m_o g0 ho, kd T1 P o1 e1, kd T2 Q o2 e2, ⟨i4m A (unI j), i4m B (unI j), i4m_o oA ho, i4m_o oB ho, by
    rw [← i4m_as hP oA ho, ← i4m_as hQ oB ho, ← i4m_ad ho (i4m_o hP oA) (i4m_o hQ oB), ← e3]⟩⟩
