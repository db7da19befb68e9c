/-! a compare of longs and the branch on it -/
theorem zc_eq {x y : Int64} : lg_cmp x y = 0 ↔ x = y := by
  unfold lg_cmp
  by_cases h1 : y < x
  · have : x ≠ y := by rintro rfl; exact absurd h1 (by rw [Int64.lt_iff_toInt_lt]; omega)
    simp [h1, this]
  · by_cases h2 : x = y <;> simp [h1, h2]
theorem zc_cases (x y : Int64) : (lg_cmp x y = 1 ∧ y < x) ∨ (lg_cmp x y = 0 ∧ x = y) ∨ (lg_cmp x y = -1 ∧ x < y) := by
  unfold lg_cmp
  by_cases h1 : y < x
  · exact Or.inl ⟨by simp [h1], h1⟩
  · by_cases h2 : x = y
    · exact Or.inr (Or.inl ⟨by simp [h2], h2⟩)
    · refine Or.inr (Or.inr ⟨by simp [h1, h2], ?_⟩)
      rw [Int64.lt_iff_toInt_lt] at h1 ⊢
      have h3 : x.toInt ≠ y.toInt := fun q => h2 (Int64.toInt_inj.mp q)
      omega
theorem zc_lt {x y : Int64} : lg_cmp x y < 0 ↔ x < y := by
  rcases zc_cases x y with ⟨e, h⟩ | ⟨e, h⟩ | ⟨e, h⟩ <;> rw [e] <;> simp only [Int64.lt_iff_toInt_lt] at h ⊢
  · constructor
    · intro q; exact absurd q (by decide)
    · omega
  · subst h
    constructor
    · intro q; exact absurd q (by decide)
    · omega
  · exact ⟨fun _ => h, fun _ => by decide⟩
theorem zc_gt {x y : Int64} : 0 < lg_cmp x y ↔ y < x := by
  rcases zc_cases x y with ⟨e, h⟩ | ⟨e, h⟩ | ⟨e, h⟩ <;> rw [e] <;> simp only [Int64.lt_iff_toInt_lt] at h ⊢
  · exact ⟨fun _ => h, fun _ => by decide⟩
  · subst h
    constructor
    · intro q; exact absurd q (by decide)
    · omega
  · constructor
    · intro q; exact absurd q (by decide)
    · omega
theorem zc_nlt {x y : Int64} : ¬ x < y ↔ y ≤ x := by
  rw [Int64.lt_iff_toInt_lt, Int64.le_iff_toInt_le]
  omega
theorem zc_i32 {x y : Int32} : ¬ x < y ↔ y ≤ x := by
  rw [Int32.lt_iff_toInt_lt, Int32.le_iff_toInt_le]
  omega
theorem zc_le {x y : Int64} : lg_cmp x y ≤ 0 ↔ x ≤ y := by rw [← zc_i32, zc_gt, zc_nlt]
theorem zc_ge {x y : Int64} : 0 ≤ lg_cmp x y ↔ y ≤ x := by rw [← zc_i32, zc_lt, zc_nlt]
section ZJ
variable {X : zX} {md : zMD} {B : zBB} {rm : Nat × Nat × Nat} {n : Nat × Nat} {pc : Nat} {lv : List (Nat × Value)} {st : List Value} {h : zHp}
theorem zj_eq {x y : Int64} {off : Int} {p1 : Nat} (q t : Nat) (d : decode md.2.1 pc = .ok (.lcmp, 1)) (h1 : pc + 1 = p1) (d2 : decode md.2.1 p1 = .ok (.ifCond .eq off, 3)) (ht : (p1 : Int) + off = (t : Int)) (hq : p1 + 3 = q) (kt : x = y → zG X md B rm n t lv st h) (kf : ¬ x = y → zG X md B rm n q lv st h) : zG X md B rm n pc lv (.long y :: .long x :: st) h := zi_lcmp p1 d h1 (zi_if_eq q t d2 ht hq (fun hc => kt (zc_eq.mp hc)) (fun hc => kf (fun e => hc (zc_eq.mpr e))))
theorem zj_ne {x y : Int64} {off : Int} {p1 : Nat} (q t : Nat) (d : decode md.2.1 pc = .ok (.lcmp, 1)) (h1 : pc + 1 = p1) (d2 : decode md.2.1 p1 = .ok (.ifCond .ne off, 3)) (ht : (p1 : Int) + off = (t : Int)) (hq : p1 + 3 = q) (kt : ¬ x = y → zG X md B rm n t lv st h) (kf : x = y → zG X md B rm n q lv st h) : zG X md B rm n pc lv (.long y :: .long x :: st) h := zi_lcmp p1 d h1 (zi_if_ne q t d2 ht hq (fun hc => kt (fun e => hc (zc_eq.mpr e))) (fun hc => kf (zc_eq.mp hc)))
theorem zj_lt {x y : Int64} {off : Int} {p1 : Nat} (q t : Nat) (d : decode md.2.1 pc = .ok (.lcmp, 1)) (h1 : pc + 1 = p1) (d2 : decode md.2.1 p1 = .ok (.ifCond .lt off, 3)) (ht : (p1 : Int) + off = (t : Int)) (hq : p1 + 3 = q) (kt : x < y → zG X md B rm n t lv st h) (kf : ¬ x < y → zG X md B rm n q lv st h) : zG X md B rm n pc lv (.long y :: .long x :: st) h := zi_lcmp p1 d h1 (zi_if_lt q t d2 ht hq (fun hc => kt (zc_lt.mp hc)) (fun hc => kf (fun e => hc (zc_lt.mpr e))))
theorem zj_ge {x y : Int64} {off : Int} {p1 : Nat} (q t : Nat) (d : decode md.2.1 pc = .ok (.lcmp, 1)) (h1 : pc + 1 = p1) (d2 : decode md.2.1 p1 = .ok (.ifCond .ge off, 3)) (ht : (p1 : Int) + off = (t : Int)) (hq : p1 + 3 = q) (kt : y ≤ x → zG X md B rm n t lv st h) (kf : ¬ y ≤ x → zG X md B rm n q lv st h) : zG X md B rm n pc lv (.long y :: .long x :: st) h := zi_lcmp p1 d h1 (zi_if_ge q t d2 ht hq (fun hc => kt (zc_ge.mp hc)) (fun hc => kf (fun e => hc (zc_ge.mpr e))))
theorem zj_gt {x y : Int64} {off : Int} {p1 : Nat} (q t : Nat) (d : decode md.2.1 pc = .ok (.lcmp, 1)) (h1 : pc + 1 = p1) (d2 : decode md.2.1 p1 = .ok (.ifCond .gt off, 3)) (ht : (p1 : Int) + off = (t : Int)) (hq : p1 + 3 = q) (kt : y < x → zG X md B rm n t lv st h) (kf : ¬ y < x → zG X md B rm n q lv st h) : zG X md B rm n pc lv (.long y :: .long x :: st) h := zi_lcmp p1 d h1 (zi_if_gt q t d2 ht hq (fun hc => kt (zc_gt.mp hc)) (fun hc => kf (fun e => hc (zc_gt.mpr e))))
theorem zj_le {x y : Int64} {off : Int} {p1 : Nat} (q t : Nat) (d : decode md.2.1 pc = .ok (.lcmp, 1)) (h1 : pc + 1 = p1) (d2 : decode md.2.1 p1 = .ok (.ifCond .le off, 3)) (ht : (p1 : Int) + off = (t : Int)) (hq : p1 + 3 = q) (kt : x ≤ y → zG X md B rm n t lv st h) (kf : ¬ x ≤ y → zG X md B rm n q lv st h) : zG X md B rm n pc lv (.long y :: .long x :: st) h := zi_lcmp p1 d h1 (zi_if_le q t d2 ht hq (fun hc => kt (zc_le.mp hc)) (fun hc => kf (fun e => hc (zc_le.mpr e))))
end ZJ
