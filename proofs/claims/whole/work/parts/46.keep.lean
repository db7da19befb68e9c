/-! what a change at some places leaves -/
section RC
variable {B : zBB} {A : Nat → Nat} {s : zSt} {h h' : zHp}
theorem rO_c (e : h' (A 0) = h (A 0)) (r : rO B A s h) : rO B A s h' := e.trans r
theorem rT_c (e : ∀ i, i ∈ [1, 2] → h' (A i) = h (A i)) (r : rT B A h) : rT B A h' := by
  obtain ⟨⟨ft, a2, a3⟩, ff, a4, a5⟩ := r
  exact ⟨⟨ft, (e 1 (by decide)).trans a2, a3⟩, ff, (e 2 (by decide)).trans a4, a5⟩
theorem rK_c (e : h' (A 3) = h (A 3)) (r : rK B A s h) : rK B A s h' := by
  obtain ⟨fk, a6, a7⟩ := r
  exact ⟨fk, e.trans a6, a7⟩
theorem rS_c (e : ∀ i, i < 20 → h' (A (38 + i)) = h (A (38 + i))) (r : rS A s h) : rS A s h' := fun i hi => by
  obtain ⟨v, a, b⟩ := r i hi
  exact ⟨v, (e i hi).trans a, b⟩
theorem rY_c (e : ∀ i, i < 16 → h' (A (22 + i)) = h (A (22 + i))) (r : rY B A s h) : rY B A s h' := fun i hi => by
  obtain ⟨u, a, b, c⟩ := r i hi
  have e2 := e (8 + i) (by omega)
  rw [← Nat.add_assoc] at e2
  exact ⟨u, (e i (by omega)).trans a, e2.trans b, c⟩
abbrev iX : List Nat := [4, 5, 6, 7, 12, 13, 14, 15, 16, 58, 59, 60, 61, 62, 63, 64, 65, 66, 67, 68, 69, 70, 71, 72, 73, 74, 75, 76, 77, 78, 79, 80, 81, 82, 83, 84, 85, 86, 87, 88, 89, 90]
theorem rX_c (e : ∀ i, i ∈ iX → h' (A i) = h (A i)) (r : rX B A h) : rX B A h' := by
  obtain ⟨b1, b2, ⟨g1, g2, g3, g4⟩, ⟨⟨p1, p2, p3, p4⟩, p5, p6⟩, b5⟩ := r
  refine ⟨(e 4 (by decide)).trans b1, (e 5 (by decide)).trans b2, ⟨(e 6 (by decide)).trans g1, (e 12 (by decide)).trans g2, (e 13 (by decide)).trans g3, fun i hi => ?_⟩, ⟨⟨(e 14 (by decide)).trans p1, (e 15 (by decide)).trans p2, (e 16 (by decide)).trans p3, fun i hi => ?_⟩, (e 7 (by decide)).trans p5, fun i hi => ?_⟩, fun i hi => ?_⟩
  · obtain ⟨v, a⟩ := g4 i hi
    exact ⟨v, (e (gm6 i) ((by decide : ∀ i ∈ gF, gm6 i ∈ iX) i hi)).trans a⟩
  · obtain ⟨v, a⟩ := p4 i hi
    exact ⟨v, (e (pm7 i) ((by decide : ∀ i ∈ gF, pm7 i ∈ iX) i hi)).trans a⟩
  · obtain ⟨v, a⟩ := p6 i hi
    exact ⟨v, (e (pm7 i) ((by decide : ∀ i ∈ [14, 15, 16, 17], pm7 i ∈ iX) i hi)).trans a⟩
  · obtain ⟨v, a⟩ := b5 i hi
    exact ⟨v, (e i ((by decide : ∀ i ∈ [58, 59, 60, 61, 62, 63, 64, 65, 90], i ∈ iX) i hi)).trans a⟩
theorem rL_c (e : ∀ i, i ∈ [8, 18] → h' (A i) = h (A i)) (r : rL B A h) : rL B A h' := by
  obtain ⟨⟨x, b6⟩, ru, b7, b8⟩ := r
  exact ⟨⟨x, (e 8 (by decide)).trans b6⟩, ru, (e 18 (by decide)).trans b7, b8⟩
theorem rB_c (e : ∀ i, i ∈ [9, 19] → h' (A i) = h (A i)) (r : rB B A h) : rB B A h' := by
  obtain ⟨l, u, c1, c2⟩ := r
  exact ⟨l, u, (e 9 (by decide)).trans c1, (e 19 (by decide)).trans c2⟩
theorem rC_c (e : ∀ i, i ∈ [10, 17, 20] → h' (A i) = h (A i)) (r : rC B A h) : rC B A h' := by
  obtain ⟨l2, u2, v1, v2, v3, v4, v5, v6, c3, c4, c5⟩ := r
  exact ⟨l2, u2, v1, v2, v3, v4, v5, v6, (e 10 (by decide)).trans c3, (e 17 (by decide)).trans c4, (e 20 (by decide)).trans c5⟩
theorem rA_c {L : List Int32} (e : ∀ i, i ∈ [11, 21] → h' (A i) = h (A i)) (r : askR B h (A 11) (A 21) L) : askR B h' (A 11) (A 21) L := by
  obtain ⟨t, c6, c7, c8⟩ := r
  exact ⟨t, (e 11 (by decide)).trans c6, (e 21 (by decide)).trans c7, c8⟩
/-- another finding -/
theorem zRc_fd (hA : zInj A) (v : Int32) (hR : zRc B A s h) : zRc B A (qSl s, qLn s, qSz s, qIt s, v, qTc s) (zU h (A 0) (zO 10 [.ref (A 1), .ref (A 2), .ref (A 3), .ref (A 58), .ref (A 4), .ref (A 5), .ref (A 6), .ref (A 7), .ref (A 8), .ref (A 9), .ref (A 10), .ref (A 11), .int v])) := by
  obtain ⟨a, b, c, d, f, g, i, j, k, l⟩ := hR
  have e : ∀ i, i ≠ 0 → zU h (A 0) (zO 10 [.ref (A 1), .ref (A 2), .ref (A 3), .ref (A 58), .ref (A 4), .ref (A 5), .ref (A 6), .ref (A 7), .ref (A 8), .ref (A 9), .ref (A 10), .ref (A 11), .int v]) (A i) = h (A i) := fun i hi => zU_n _ _ (hA.ne hi)
  have nz : ∀ (L : List Nat), 0 ∉ L → ∀ i, i ∈ L → i ≠ 0 := fun L hL i hi q => hL (q ▸ hi)
  exact ⟨zU_s _ _ _, rT_c (fun i hi => e i (nz _ (by decide) i hi)) b, rK_c (e 3 (by decide)) c, rS_c (fun i hi => e _ (by omega)) d, rY_c (fun i hi => e _ (by omega)) f, rX_c (fun i hi => e i (nz _ (by decide) i hi)) g, rL_c (fun i hi => e i (nz _ (by decide) i hi)) i, rB_c (fun i hi => e i (nz _ (by decide) i hi)) j, rC_c (fun i hi => e i (nz _ (by decide) i hi)) k, rA_c (fun i hi => e i (nz _ (by decide) i hi)) l⟩
/-- a slot is cleared -/
theorem zRc_cl (hA : zInj A) {fk : Nat → Int32} {i : Nat} (hfk : ∀ j, j < 20 → fk j = kdI (if j = i then none else qSl s j)) (hR : zRc B A s h) : zRc B A (fun j => if j = i then none else qSl s j, qLn s, qSz s, qIt s, qFd s, qTc s) (zU h (A 3) (zI B 20 fk)) := by
  obtain ⟨a, b, c, d, f, g, w, j, k, l⟩ := hR
  have e : ∀ i, i ≠ 3 → zU h (A 3) (zI B 20 fk) (A i) = h (A i) := fun i hi => zU_n _ _ (hA.ne hi)
  have nz : ∀ (L : List Nat), 3 ∉ L → ∀ i, i ∈ L → i ≠ 3 := fun L hL i hi q => hL (q ▸ hi)
  refine ⟨rO_c (e 0 (by decide)) a, rT_c (fun i hi => e i (nz _ (by decide) i hi)) b, ⟨fk, zU_s _ _ _, hfk⟩, fun x hx => ?_, rY_c (fun i hi => e _ (by omega)) f, rX_c (fun i hi => e i (nz _ (by decide) i hi)) g, rL_c (fun i hi => e i (nz _ (by decide) i hi)) w, rB_c (fun i hi => e i (nz _ (by decide) i hi)) j, rC_c (fun i hi => e i (nz _ (by decide) i hi)) k, rA_c (fun i hi => e i (nz _ (by decide) i hi)) l⟩
  obtain ⟨v, h1, h2⟩ := d x hx
  refine ⟨v, (e _ (by omega)).trans h1, fun P hP => ?_⟩
  show v = z4i P
  change (if x = i then none else qSl s x) = some P at hP
  split at hP
  · exact absurd hP (by simp)
  · exact h2 P hP
/-- a slot takes a four -/
theorem zRc_kp (hA : zInj A) {fk : Nat → Int32} {i : Nat} {P : i4} (hfk : ∀ j, j < 20 → fk j = kdI (if j = i then some P else qSl s j)) (hi : i < 20) (hR : zRc B A s h) : zRc B A (fun j => if j = i then some P else qSl s j, qLn s, qSz s, qIt s, qFd s, qTc s) (zU (zU h (A (38 + i)) (zFo (z4i P))) (A 3) (zI B 20 fk)) := by
  obtain ⟨a, b, c, d, f, g, w, j, k, l⟩ := hR
  have e : ∀ x, x ≠ 3 → x ≠ 38 + i → zU (zU h (A (38 + i)) (zFo (z4i P))) (A 3) (zI B 20 fk) (A x) = h (A x) := fun x hx hy => by rw [zU_n _ _ (hA.ne hx), zU_n _ _ (hA.ne hy)]
  have nz : ∀ (L : List Nat), (∀ x ∈ L, x ≠ 3 ∧ (x < 38 ∨ 58 ≤ x)) → ∀ x, x ∈ L → zU (zU h (A (38 + i)) (zFo (z4i P))) (A 3) (zI B 20 fk) (A x) = h (A x) := fun L hL x hx => e x (hL x hx).1 (by have := (hL x hx).2; omega)
  refine ⟨rO_c (e 0 (by decide) (by omega)) a, rT_c (nz _ (by decide)) b, ⟨fk, zU_s _ _ _, hfk⟩, fun x hx => ?_, rY_c (fun i hi => e _ (by omega) (by omega)) f, rX_c (nz _ (by decide)) g, rL_c (nz _ (by decide)) w, rB_c (nz _ (by decide)) j, rC_c (nz _ (by decide)) k, rA_c (nz _ (by decide)) l⟩
  by_cases q : x = i
  · subst q
    refine ⟨z4i P, by rw [zU_n _ _ (hA.ne (by omega)), zU_s], fun Q hQ => ?_⟩
    change (if x = x then some P else qSl s x) = some Q at hQ
    rw [if_pos rfl] at hQ
    rw [Option.some.inj hQ]
  · obtain ⟨v, h1, h2⟩ := d x hx
    refine ⟨v, (e _ (by omega) (by omega)).trans h1, fun Q hQ => ?_⟩
    change (if x = i then some P else qSl s x) = some Q at hQ
    rw [if_neg q] at hQ
    exact h2 Q hQ
end RC
