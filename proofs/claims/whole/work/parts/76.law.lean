/-! the law: its own reading of the script, both sides kept apart -/
abbrev mL_law : zMD := (yL_law, cL_law, 4, ret)
section LAWR
variable {X : zX} {md : zMD} {B : zBB} {rm : Nat × Nat × Nat} {n : Nat × Nat} {pc : Nat} {lv : List (Nat × Value)} {st : List Value} {h : zHp}
abbrev lwS (X : zX) (b L : Nat) (xs : Nat → Int32) : Prop := va_X b L xs (zXs X) (zXs X).heap ∧ b < (zXs X).heap.size ∧ ¬ zXA X b
theorem zi_sld {b L : Nat} {xs : Nat → Int32} {i : Int32} (q : Nat) (d : decode md.2.1 pc = .ok (.iaload, 1)) (hS : lwS X b L xs) (hin : vp_in i L) (hq : pc + 1 = q) (kk : zG X md B rm n q lv (.int (xs i.toNatClampNeg) :: st) h) : zG X md B rm n pc lv (.int i :: .ref b :: st) h := by
  subst hq
  exact fun g ls H locs hl hw hs => va_sld g.1 g.2.1 hS.1 hS.2.1 hS.2.2 hs hin d (kk g ls H locs hl hw hs)
theorem zi_slen {b L : Nat} {xs : Nat → Int32} (q : Nat) (d : decode md.2.1 pc = .ok (.arraylength, 1)) (hS : lwS X b L xs) (hq : pc + 1 = q) (kk : zG X md B rm n q lv (.int (nI L) :: st) h) : zG X md B rm n pc lv (.ref b :: st) h := by
  subst hq
  exact fun g ls H locs hl hw hs => va_slen g.1 g.2.1 hS.1 hS.2.1 hS.2.2 hs d (kk g ls H locs hl hw hs)
end LAWR
theorem li_0 {i L : Nat} (hi : i + 7 ≤ L) (hL : L ≤ 3584) : vp_in (nI i) L := vp_in_nI (by omega) (by omega)
theorem li_1 {i L : Nat} (hi : i + 7 ≤ L) (hL : L ≤ 3584) : vp_in (nI i + 1) L := by
  rw [show (1 : Int32) = nI 1 from rfl, nI_ad]
  exact vp_in_nI (by omega) (by omega)
theorem li_2 {i L : Nat} (hi : i + 7 ≤ L) (hL : L ≤ 3584) : vp_in (nI i + 2) L := by
  rw [show (2 : Int32) = nI 2 from rfl, nI_ad]
  exact vp_in_nI (by omega) (by omega)
theorem li_3 {i L : Nat} (hi : i + 7 ≤ L) (hL : L ≤ 3584) : vp_in (nI i + 3) L := by
  rw [show (3 : Int32) = nI 3 from rfl, nI_ad]
  exact vp_in_nI (by omega) (by omega)
theorem li_4 {i L : Nat} (hi : i + 7 ≤ L) (hL : L ≤ 3584) : vp_in (nI i + 4) L := by
  rw [show (4 : Int32) = nI 4 from rfl, nI_ad]
  exact vp_in_nI (by omega) (by omega)
theorem li_5 {i L : Nat} (hi : i + 7 ≤ L) (hL : L ≤ 3584) : vp_in (nI i + 5) L := by
  rw [show (5 : Int32) = nI 5 from rfl, nI_ad]
  exact vp_in_nI (by omega) (by omega)
theorem li_6 {i L : Nat} (hi : i + 7 ≤ L) (hL : L ≤ 3584) : vp_in (nI i + 6) L := by
  rw [show (6 : Int32) = nI 6 from rfl, nI_ad]
  exact vp_in_nI (by omega) (by omega)
theorem gm6_b : ∀ i, i < 13 → gm6 i < 91 := by decide
theorem pm7_b : ∀ i, i < 18 → pm7 i < 91 := by decide
theorem gF_b : ∀ i, i ∈ gF → i < 13 := by decide
theorem zGt_x {g : Nat → Nat} {h h' : zHp} (e : ∀ i, i < 13 → h' (g i) = h (g i)) (G : zGt g h) : zGt g h' := ⟨(e 0 (by decide)).trans G.1, (e 4 (by decide)).trans G.2.1, (e 5 (by decide)).trans G.2.2.1, fun i hi => by
  obtain ⟨v, hv⟩ := G.2.2.2 i hi
  exact ⟨v, (e i (gF_b i hi)).trans hv⟩⟩
theorem zPt_x {p : Nat → Nat} {h h' : zHp} (e : ∀ i, i < 18 → h' (p i) = h (p i)) (G : zPt p h) : zPt p h' := ⟨zGt_x (fun i hi => e i (by omega)) G.1, (e 13 (by decide)).trans G.2.1, fun i hi => by
  obtain ⟨v, hv⟩ := G.2.2 i hi
  have h18 : ∀ j, j ∈ [14, 15, 16, 17] → j < 18 := by decide
  exact ⟨v, (e i (h18 i hi)).trans hv⟩⟩
theorem zRc_x {B : zBB} {A : Nat → Nat} {s : zSt} {h h' : zHp} (e : ∀ i, i < 91 → h' (A i) = h (A i)) (hR : zRc B A s h) : zRc B A s h' := by
  obtain ⟨a1, ⟨⟨ft, a2, a3⟩, ff, a4, a5⟩, ⟨fk, a6, a7⟩, a8, a9, ⟨b1, b2, b3, b4, b5⟩, ⟨⟨x, b6⟩, ru, b7, b8⟩, ⟨l, u, c1, c2⟩, ⟨l2, u2, v1, v2, v3, v4, v5, v6, c3, c4, c5⟩, t, c6, c7, c8⟩ := hR
  refine ⟨(e 0 (by decide)).trans a1, ⟨⟨ft, (e 1 (by decide)).trans a2, a3⟩, ff, (e 2 (by decide)).trans a4, a5⟩, ⟨fk, (e 3 (by decide)).trans a6, a7⟩, fun i hi => ?_, fun i hi => ?_, ⟨(e 4 (by decide)).trans b1, (e 5 (by decide)).trans b2, zGt_x (fun i hi => e _ (gm6_b i hi)) b3, zPt_x (fun i hi => e _ (pm7_b i hi)) b4, fun i hi => ?_⟩, ⟨⟨x, (e 8 (by decide)).trans b6⟩, ru, (e 18 (by decide)).trans b7, b8⟩, ⟨l, u, (e 9 (by decide)).trans c1, (e 19 (by decide)).trans c2⟩, ⟨l2, u2, v1, v2, v3, v4, v5, v6, (e 10 (by decide)).trans c3, (e 17 (by decide)).trans c4, (e 20 (by decide)).trans c5⟩, t, (e 11 (by decide)).trans c6, (e 21 (by decide)).trans c7, c8⟩
  · obtain ⟨v, e1, hv⟩ := a8 i hi
    exact ⟨v, (e _ (by omega)).trans e1, hv⟩
  · obtain ⟨u, e1, e2, hv⟩ := a9 i hi
    exact ⟨u, (e _ (by omega)).trans e1, (e _ (by omega)).trans e2, hv⟩
  · obtain ⟨v, hv⟩ := b5 i hi
    have hb : ∀ j, j ∈ [58, 59, 60, 61, 62, 63, 64, 65, 90] → j < 91 := by decide
    exact ⟨v, (e i (hb i hi)).trans hv⟩
theorem rRm_x {B : zBB} {D : Nat → Nat} {s : zSt} {h h' : zHp} (e : ∀ i, i < 10 → h' (D i) = h (D i)) (hR : rRm B D s h) : rRm B D s h' := by
  obtain ⟨m, ⟨a0, a1, a2, a3, a4, a5, a6, a7, a8, a9⟩, K⟩ := hR
  exact ⟨m, ⟨(e 0 (by decide)).trans a0, (e 1 (by decide)).trans a1, (e 2 (by decide)).trans a2, (e 3 (by decide)).trans a3, (e 4 (by decide)).trans a4, (e 5 (by decide)).trans a5, (e 6 (by decide)).trans a6, (e 7 (by decide)).trans a7, (e 8 (by decide)).trans a8, (e 9 (by decide)).trans a9⟩, K⟩
abbrev zDj (A D : Nat → Nat) : Prop := ∀ i j, i < 91 → j < 10 → A i ≠ D j
theorem rRm_U {B : zBB} {A D : Nat → Nat} {s : zSt} {h h' : zHp} (J : zDj A D) (U : zOu A h h') (hR : rRm B D s h) : rRm B D s h' := rRm_x (fun j hj => U _ (fun i hi q => J i j hi hj q.symm)) hR
theorem zRc_U {B : zBB} {A D : Nat → Nat} {s : zSt} {h h' : zHp} (J : zDj A D) (U : rOd D h h') (hR : zRc B A s h) : zRc B A s h' := zRc_x (fun i hi => U _ (fun j hj q => J i j hi hj q)) hR
theorem rX_hd {B : zBB} {D : Nat → Nat} {s : zSt} {h : zHp} (hR : rRm B D s h) : ∃ fs, h (D 0) = some (.inr (11, fs)) := by
  obtain ⟨m, M, K⟩ := hR
  exact ⟨_, M.1⟩
/-- both sides stand at one state -/
def lwI (B : zBB) (A D : Nat → Nat) (s : zSt) (h : zHp) : Prop := okSt s ∧ zRc B A s h ∧ rRm B D s h
