/-! small numbers' facts for the leaves -/
section ZB
variable {X : zX} {md : zMD} {B : zBB} {rm : Nat × Nat × Nat} {n : Nat × Nat} {pc : Nat} {lv : List (Nat × Value)} {st : List Value} {h : zHp}
theorem zB_ne {p : Prop} [Decidable p] : ¬ (if p then (1 : Int32) else 0) = 0 ↔ p := by by_cases hp : p <;> simp [hp]
theorem zB_eq {p : Prop} [Decidable p] : (if p then (1 : Int32) else 0) = 0 ↔ ¬ p := by by_cases hp : p <;> simp [hp]
theorem zb_ne {p : Prop} {dp : Decidable p} {off : Int} (q t : Nat) (d : decode md.2.1 pc = .ok (.ifCond .ne off, 3)) (ht : (pc : Int) + off = (t : Int)) (hq : pc + 3 = q) (kt : p → zG X md B rm n t lv st h) (kf : ¬ p → zG X md B rm n q lv st h) : zG X md B rm n pc lv (.int (@ite Int32 p dp 1 0) :: st) h := zi_if_ne q t d ht hq (fun hc => kt (zB_ne.mp hc)) (fun hc => kf (zB_eq.mp hc))
theorem zb_eq {p : Prop} {dp : Decidable p} {off : Int} (q t : Nat) (d : decode md.2.1 pc = .ok (.ifCond .eq off, 3)) (ht : (pc : Int) + off = (t : Int)) (hq : pc + 3 = q) (kt : ¬ p → zG X md B rm n t lv st h) (kf : p → zG X md B rm n q lv st h) : zG X md B rm n pc lv (.int (@ite Int32 p dp 1 0) :: st) h := zi_if_eq q t d ht hq (fun hc => kt (zB_eq.mp hc)) (fun hc => kf (zB_ne.mp hc))
end ZB
theorem zB_nar {p : Prop} [Decidable p] : narrow .boolean (.int (if p then (1 : Int32) else 0)) = .int (if p then 1 else 0) := by by_cases hp : p <;> simp [hp] <;> decide
abbrev zOut (i e : Int32) : Prop := i < 0 ∨ ¬ i < e
abbrev zTooF (i : Int32) : Prop := i < -1000 ∨ 1000 < i
abbrev zIsToo (t k : Int32) : Prop := k = t ∨ k = 0 ∨ (k = 2 ∧ (t = 3 ∨ t = 4))
abbrev zIn (v a b : Int64) : Prop := a ≤ v ∧ v ≤ b
abbrev zRun (i m s : Int32) : Prop := ¬ i < 0 ∧ ¬ m < 0 ∧ ¬ s < m ∧ ¬ s - m < i
theorem z_nle32 {x y : Int32} : ¬ x ≤ y ↔ y < x := by rw [Int32.lt_iff_toInt_lt, Int32.le_iff_toInt_le]; omega
theorem z_nlt32 {x y : Int32} : ¬ x < y ↔ y ≤ x := by rw [Int32.lt_iff_toInt_lt, Int32.le_iff_toInt_le]; omega
theorem z_nle64 {x y : Int64} : ¬ x ≤ y ↔ y < x := by rw [Int64.lt_iff_toInt_lt, Int64.le_iff_toInt_le]; omega
theorem z_nlt64 {x y : Int64} : ¬ x < y ↔ y ≤ x := by rw [Int64.lt_iff_toInt_lt, Int64.le_iff_toInt_le]; omega
theorem z_xor {a b : Int} (ha : iB a) (hb : iB b) (h0 : 0 < b) : (0 ≤ iz a ^^^ iz b) ↔ 0 ≤ a := by
  rw [Int64.le_iff_toInt_le, Int64.toInt_zero]
  have e1 : (iz a ^^^ iz b).toBitVec.msb = decide ((iz a ^^^ iz b).toInt < 0) := BitVec.msb_eq_toInt
  have e2 : (iz a).toBitVec.msb = decide ((iz a).toInt < 0) := BitVec.msb_eq_toInt
  have e3 : (iz b).toBitVec.msb = decide ((iz b).toInt < 0) := BitVec.msb_eq_toInt
  rw [iz_i ha] at e2
  rw [iz_i hb] at e3
  have e4 : (iz a ^^^ iz b).toBitVec.msb = ((iz a).toBitVec.msb ^^ (iz b).toBitVec.msb) := BitVec.msb_xor
  rw [e1, e2, e3] at e4
  have hb0 : decide (b < 0) = false := decide_eq_false (by omega)
  rw [hb0, Bool.xor_false] at e4
  have e5 := decide_eq_decide.mp e4
  omega
theorem z_tdiv {a b : Int} (h0 : 0 < b) : a.tdiv b = a / b + (if 0 ≤ a ∨ b ∣ a then 0 else 1) := by
  rw [Int.tdiv_eq_ediv, Int.sign_eq_one_of_pos h0]
theorem z_fd1 {a b : Int} (h0 : 0 < b) (h : 0 ≤ a ∨ a.tdiv b * b = a) : a.tdiv b = a / b := by
  rw [z_tdiv h0, if_pos, Int.add_zero]
  rcases h with h | h
  · exact Or.inl h
  · exact Or.inr ⟨_, by rw [Int.mul_comm]; exact h.symm⟩
theorem z_fd2 {a b : Int} (h0 : 0 < b) (h : ¬ 0 ≤ a) (h2 : ¬ a.tdiv b * b = a) : a.tdiv b - 1 = a / b := by
  rw [z_tdiv h0, if_neg, Int.add_sub_cancel]
  rintro (h3 | ⟨c, rfl⟩)
  · exact h h3
  · exact h2 (by rw [Int.mul_tdiv_cancel_left _ (by omega), Int.mul_comm])
theorem z_tm {a b : Int} (h0 : 0 < b) : a.tmod b = a - a.tdiv b * b := by rw [Int.tmod_def, Int.mul_comm]
theorem z_fm1 {a b : Int} (h0 : 0 < b) (h : 0 ≤ a ∨ a.tmod b = 0) : a.tmod b = a % b := by
  rw [z_tm h0] at h ⊢
  rw [z_fd1 h0 (h.imp id (fun q => by omega))]
  have := Int.emod_def a b
  rw [Int.mul_comm] at this
  omega
theorem z_fm2 {a b : Int} (h0 : 0 < b) (h : ¬ 0 ≤ a) (h2 : ¬ a.tmod b = 0) : a.tmod b + b = a % b := by
  rw [z_tm h0] at h2 ⊢
  have e := z_fd2 h0 h (fun q => h2 (by omega))
  have := Int.emod_def a b
  rw [← e, Int.mul_comm, Int.sub_mul] at this
  omega
theorem z_dn1 {a b : Int} (h0 : 0 < b) (h : ¬ a.tmod b < 0) : a.tdiv b = a / b := by
  refine z_fd1 h0 ?_
  by_cases h1 : 0 ≤ a
  · exact Or.inl h1
  · right
    have h2 : a.tmod b ≤ 0 := by
      have := Int.tmod_nonneg b (a := -a) (by omega)
      rw [Int.neg_tmod] at this
      omega
    have := z_tm h0 (a := a)
    omega
theorem z_dn2 {a b : Int} (h0 : 0 < b) (h : a.tmod b < 0) : a.tdiv b - 1 = a / b := by
  have h1 : ¬ 0 ≤ a := fun q => by
    have := Int.tmod_nonneg b q
    omega
  refine z_fd2 h0 h1 (fun q => ?_)
  have := z_tm h0 (a := a)
  omega
def zBt (F T : z4) (l : Int64) : Int64 := (F.1 - T.1 * l) * (F.1 - T.1 * l) + (F.2.1 - T.2.1 * l) * (F.2.1 - T.2.1 * l) + (F.2.2.1 - T.2.2.1 * l) * (F.2.2.1 - T.2.2.1 * l) + (F.2.2.2 - T.2.2.2 * l) * (F.2.2.2 - T.2.2.2 * l)
/-- the divisor of all four numbers -/
def zG4 (P : z4) : Int64 := zGcd (zGcd P.1 P.2.1) (zGcd P.2.2.1 P.2.2.2)
abbrev zNm4 (P : z4) : Prop := zNm1 P.1 ∧ zNm1 P.2.1 ∧ zNm1 P.2.2.1 ∧ zNm1 P.2.2.2
theorem zGcd_lt {a b : Int64} (ha : zNm1 a) (hb : zNm1 b) : Nat.gcd a.toInt.natAbs b.toInt.natAbs < 2 ^ 63 := by
  by_cases h0 : a.toInt.natAbs = 0
  · rw [h0, Nat.gcd_zero_left]
    have := b.toInt_lt
    have := hb
    omega
  · have h1 := Nat.gcd_le_left b.toInt.natAbs (Nat.pos_of_ne_zero h0)
    have := a.toInt_lt
    have := ha
    omega
theorem zGcd_nm {a b : Int64} (ha : zNm1 a) (hb : zNm1 b) : zNm1 (zGcd a b) := by
  unfold zNm1 zGcd
  rw [pk_lT (zGcd_lt ha hb)]
  omega
theorem zGcd_n {a b : Int64} (ha : zNm1 a) (hb : zNm1 b) : (zGcd a b).toInt.natAbs = Nat.gcd a.toInt.natAbs b.toInt.natAbs := by
  unfold zGcd
  rw [pk_lT (zGcd_lt ha hb)]
  rfl
def zWh (P : z4) : Int64 := if zG4 P = 0 then 0 else if (P.1 / zG4 P &&& P.2.1 / zG4 P &&& P.2.2.1 / zG4 P &&& P.2.2.2 / zG4 P &&& 1) = 1 then zG4 P else zG4 P / 2
theorem zfdx {a b : Int} (ha : iB a) (hb : iB b) (h0 : 0 < b) (h : iz (a.tdiv b) * iz b = iz a) : a.tdiv b * b = a := by
  rw [iz_mul] at h
  have h1 : (a.tdiv b * b).natAbs ≤ a.natAbs := by
    rw [Int.natAbs_mul, Int.natAbs_tdiv]
    exact Nat.div_mul_le_self _ _
  by_cases h2 : a = -9223372036854775808
  · have h3 : (a.tdiv b * b) ≤ 0 := by
      have : a.tdiv b ≤ 0 := by
        have := Int.tdiv_nonneg (a := -a) (b := b) (by omega) (by omega)
        rw [Int.neg_tdiv] at this
        omega
      exact Int.mul_nonpos_of_nonpos_of_nonneg this (by omega)
    exact (iz_inj (by omega) ha).mp h
  · exact (iz_inj (by omega) ha).mp h
theorem ztm_B {a b : Int} (ha : iB a) (hb : iB b) (h0 : 0 < b) : iB (a.tmod b) := by
  have h1 : (a.tmod b).natAbs < b.natAbs := by
    rw [Int.natAbs_tmod]
    exact Nat.mod_lt _ (by omega)
  omega
theorem zfmx {a b : Int} (ha : iB a) (hb : iB b) (h0 : 0 < b) (h : iz (a.tmod b) = 0) : a.tmod b = 0 := by
  rw [iz_0] at h
  exact (iz_inj (ztm_B ha hb h0) (by decide)).mp h
theorem zdnx {a b : Int} (ha : iB a) (hb : iB b) (h0 : 0 < b) (h : a.tmod b < 0) : ¬ 0 ≤ iz (a.tmod b) := by
  rw [iz_0, iz_le (by decide) (ztm_B ha hb h0)]
  omega
theorem zdny {a b : Int} (ha : iB a) (hb : iB b) (h0 : 0 < b) (h : ¬ 0 ≤ iz (a.tmod b)) : a.tmod b < 0 := by
  rw [iz_0, iz_le (by decide) (ztm_B ha hb h0)] at h
  omega
theorem zout_in {i e : Nat} (h : i < e) (he : e < 2 ^ 31 := by decide) : ¬ zOut (nI i) (nI e) := by
  rintro (h1 | h1)
  · exact nI_pos (by omega) h1
  · exact h1 (nI_lt h he)
