/-! the state that both sides keep, and how the class keeps it: its cells are at A 0 .. A 90 -/
abbrev zSt : Type := (Nat → Option i4) × (Nat → Nat) × (Nat → Nat) × (Nat → Nat → Int64) × Int32 × List Int32
abbrev qSl (s : zSt) : Nat → Option i4 := s.1
abbrev qLn (s : zSt) : Nat → Nat := s.2.1
abbrev qSz (s : zSt) : Nat → Nat := s.2.2.1
abbrev qIt (s : zSt) : Nat → Nat → Int64 := s.2.2.2.1
abbrev qFd (s : zSt) : Int32 := s.2.2.2.2.1
abbrev qTc (s : zSt) : List Int32 := s.2.2.2.2.2
noncomputable def kdI : Option i4 → Int32
  | none => -1
  | some P => nI (kindI P)
abbrev okSt (s : zSt) : Prop := (∀ (i : Nat) (P : i4), qSl s i = some P → i4V P) ∧ (∀ i, qLn s i ≤ 3) ∧ (∀ i, qSz s i ≤ 100) ∧ (qTc s).length ≤ 16
def gm6 (i : Nat) : Nat := [6, 66, 67, 68, 12, 13, 69, 70, 71, 72, 73, 74, 75].getD i (200 + i)
def pm7 (i : Nat) : Nat := [14, 80, 81, 82, 15, 16, 83, 84, 85, 86, 87, 88, 89, 7, 76, 77, 78, 79].getD i (200 + i)
theorem gd_df {l : List Nat} {i d : Nat} (h : l.length ≤ i) : l.getD i d = d := by
  rw [List.getD_eq_getElem?_getD, List.getElem?_eq_none h]
  rfl
theorem gd_inj (l : List Nat) (h : ∀ i, i < l.length → ∀ j, j < l.length → l.getD i (200 + i) = l.getD j (200 + j) → i = j) (hb : ∀ i, i < l.length → l.getD i (200 + i) < 200) : ∀ i j, l.getD i (200 + i) = l.getD j (200 + j) → i = j := fun i j e => by
  rcases Nat.lt_or_ge i l.length with hi | hi
  · rcases Nat.lt_or_ge j l.length with hj | hj
    · exact h i hi j hj e
    · have h1 := hb i hi
      rw [e, gd_df hj] at h1
      omega
  · rcases Nat.lt_or_ge j l.length with hj | hj
    · have h1 := hb j hj
      rw [← e, gd_df hi] at h1
      omega
    · rw [gd_df hi, gd_df hj] at e
      omega
theorem gm6_i {A : Nat → Nat} (hA : zInj A) : zInj (fun i => A (gm6 i)) := fun i j e => gd_inj _ (by decide) (by decide) i j (hA _ _ e)
theorem pm7_i {A : Nat → Nat} (hA : zInj A) : zInj (fun i => A (pm7 i)) := fun i j e => gd_inj _ (by decide) (by decide) i j (hA _ _ e)
/-- the object, its rows, what is found -/
abbrev rO (B : zBB) (A : Nat → Nat) (s : zSt) (h : zHp) : Prop := h (A 0) = some (zO 10 [.ref (A 1), .ref (A 2), .ref (A 3), .ref (A 58), .ref (A 4), .ref (A 5), .ref (A 6), .ref (A 7), .ref (A 8), .ref (A 9), .ref (A 10), .ref (A 11), .int (qFd s)])
abbrev rT (B : zBB) (A : Nat → Nat) (h : zHp) : Prop := (∃ ft : Nat → Option Nat, h (A 1) = some (zRt B 8 ft) ∧ ∀ i, i < 8 → ft i = some (A (22 + i))) ∧ ∃ ff : Nat → Option Nat, h (A 2) = some (zRf B 20 ff) ∧ ∀ i, i < 20 → ff i = some (A (38 + i))
/-- kinds and slots -/
abbrev rK (B : zBB) (A : Nat → Nat) (s : zSt) (h : zHp) : Prop := ∃ fk : Nat → Int32, h (A 3) = some (zI B 20 fk) ∧ ∀ i, i < 20 → fk i = kdI (qSl s i)
abbrev rS (A : Nat → Nat) (s : zSt) (h : zHp) : Prop := ∀ i, i < 20 → ∃ v : z4, h (A (38 + i)) = some (zFo v) ∧ ∀ P, qSl s i = some P → v = z4i P
/-- trays -/
abbrev rY (B : zBB) (A : Nat → Nat) (s : zSt) (h : zHp) : Prop := ∀ i, i < 8 → ∃ u : Nat → Int64, h (A (22 + i)) = some (zO 9 [.ref (A (30 + i)), .int (jz ((qLn s i : Int) - 1)), .int (nI (qSz s i))]) ∧ h (A (30 + i)) = some (zJ B 100 u) ∧ ∀ j, j < qSz s i → u j = qIt s i j
/-- helpers -/
abbrev rX (B : zBB) (A : Nat → Nat) (h : zHp) : Prop := h (A 4) = some (zO 3 [.ref (A 59), .ref (A 60), .ref (A 61), .ref (A 62)]) ∧ h (A 5) = some (zO 1 [.ref (A 63), .ref (A 64), .ref (A 65)]) ∧ zGt (fun i => A (gm6 i)) h ∧ zPt (fun i => A (pm7 i)) h ∧ (∀ i, i ∈ [58, 59, 60, 61, 62, 63, 64, 65, 90] → ∃ v : z4, h (A i) = some (zFo v))
abbrev rL (B : zBB) (A : Nat → Nat) (h : zHp) : Prop := (∃ x : Int32, h (A 8) = some (zO 6 [.ref (A 90), .ref (A 18), .int x])) ∧ ∃ ru : Nat → Int32, h (A 18) = some (zI B 601 ru) ∧ ∀ i, i < 601 → ru i = nI (zSq2 i)
abbrev rB (B : zBB) (A : Nat → Nat) (h : zHp) : Prop := ∃ (l : Int64) (u : Nat → Int64), h (A 9) = some (zO 8 [.long l, .ref (A 19)]) ∧ h (A 19) = some (zJ B 9 u)
abbrev rC (B : zBB) (A : Nat → Nat) (h : zHp) : Prop := ∃ (l : Int64) (u : Nat → Int64) (v1 v2 v3 v4 v5 v6 : Int32), h (A 10) = some (zO 2 [.ref (A 17), .int v1, .int v2, .int v3, .int v4, .int v5, .int v6]) ∧ h (A 17) = some (zO 8 [.long l, .ref (A 20)]) ∧ h (A 20) = some (zJ B 9 u)
def zRc (B : zBB) (A : Nat → Nat) (s : zSt) (h : zHp) : Prop := rO B A s h ∧ rT B A h ∧ rK B A s h ∧ rS A s h ∧ rY B A s h ∧ rX B A h ∧ rL B A h ∧ rB B A h ∧ rC B A h ∧ askR B h (A 11) (A 21) (qTc s)
/-- elsewhere all is as it was -/
def zOu (A : Nat → Nat) (h h' : zHp) : Prop := ∀ x, (∀ i, i < 91 → x ≠ A i) → h' x = h x
theorem zOu_r (A : Nat → Nat) (h : zHp) : zOu A h h := fun _ _ => rfl
theorem zOu_t {A : Nat → Nat} {h h1 h2 : zHp} (a : zOu A h h1) (b : zOu A h1 h2) : zOu A h h2 := fun x hx => (b x hx).trans (a x hx)
theorem zOu_u {A : Nat → Nat} {h h' : zHp} {i : Nat} {e : va_E} (hq : h' = zU h (A i) e) (hi : i < 91) : zOu A h h' := fun x hx => by rw [hq, zU_n _ _ (hx i hi)]
theorem zOu_k {A : Nat → Nat} {h h' : zHp} {S : List Nat} (k : zKp S h h') (hS : ∀ x, x ∈ S → ∃ i, i < 91 ∧ x = A i) : zOu A h h' := fun x hx => by
  rcases k x with p | ⟨m, -⟩
  · exact p
  · obtain ⟨i, hi, e⟩ := hS x m
    exact absurd e (hx i hi)
/-- a change of the helpers' fours only -/
theorem zRc_k {B : zBB} {A : Nat → Nat} {s : zSt} {h h' : zHp} {S : List Nat} (k : zKp S h h') (hR : zRc B A s h) (hS : ∀ i, i < 20 → A (38 + i) ∉ S) : zRc B A s h' := by
  obtain ⟨a1, ⟨⟨ft, a2, a3⟩, ff, a4, a5⟩, ⟨fk, a6, a7⟩, a8, a9, ⟨b1, b2, b3, b4, b5⟩, ⟨⟨x, b6⟩, ru, b7, b8⟩, ⟨l, u, c1, c2⟩, ⟨l2, u2, v1, v2, v3, v4, v5, v6, c3, c4, c5⟩, t, c6, c7, c8⟩ := hR
  refine ⟨zKp_o k a1 (by decide), ⟨⟨ft, zKp_l k a2, a3⟩, ff, zKp_l k a4, a5⟩, ⟨fk, zKp_l k a6, a7⟩, fun i hi => ?_, fun i hi => ?_, ⟨zKp_o k b1 (by decide), zKp_o k b2 (by decide), zGt_k k b3, zPt_k k b4, fun i hi => zKp_f k (b5 i hi)⟩, ⟨⟨x, zKp_o k b6 (by decide)⟩, ru, zKp_l k b7, b8⟩, ⟨l, u, zKp_o k c1 (by decide), zKp_l k c2⟩, ⟨l2, u2, v1, v2, v3, v4, v5, v6, zKp_o k c3 (by decide), zKp_o k c4 (by decide), zKp_l k c5⟩, t, zKp_o k c6 (by decide), zKp_l k c7, c8⟩
  · obtain ⟨v, e, hv⟩ := a8 i hi
    exact ⟨v, zKp_n k e (hS i hi), hv⟩
  · obtain ⟨u, e, e2, hv⟩ := a9 i hi
    exact ⟨u, zKp_o k e (by decide), zKp_l k e2, hv⟩
