/-! all fours of a norm, in order -/
theorem zSq2_is (n : Nat) : zIsRt n (zSq2 n) := by
  have h : ∃ r, zIsRt n r := by
    induction n with
    | zero => exact ⟨0, by decide, by decide⟩
    | succ n ih =>
      obtain ⟨r, h1, h2⟩ := ih
      rcases Nat.lt_or_ge (n + 1) ((r + 1) * (r + 1)) with q | q
      · exact ⟨r, by omega, q⟩
      · refine ⟨r + 1, q, ?_⟩
        have : (r + 1 + 1) * (r + 1 + 1) = (r + 1) * (r + 1) + 2 * r + 3 := by grind
        omega
  exact Classical.epsilon_spec h
theorem zSq2_le {n m : Nat} (h : n ≤ m) : zSq2 n ≤ zSq2 m := by
  rcases Nat.lt_or_ge (zSq2 m) (zSq2 n) with q | q
  · have := Nat.mul_le_mul (show zSq2 m + 1 ≤ zSq2 n by omega) (show zSq2 m + 1 ≤ zSq2 n by omega)
    have h1 := (zSq2_is n).1
    have h2 := (zSq2_is m).2
    omega
  · exact q
theorem zSq2_in {y : Int} {n : Nat} : y * y ≤ n ↔ -(zSq2 n : Int) ≤ y ∧ y ≤ zSq2 n := by
  obtain ⟨h1, h2⟩ := zSq2_is n
  have e : y * y = ((y.natAbs * y.natAbs : Nat) : Int) := by rw [Int.natCast_mul, Int.natAbs_mul_self']
  rw [e]
  constructor
  · intro h
    have : y.natAbs ≤ zSq2 n := by
      rcases Nat.lt_or_ge (zSq2 n) y.natAbs with q | q
      · have := Nat.mul_le_mul (show zSq2 n + 1 ≤ y.natAbs by omega) (show zSq2 n + 1 ≤ y.natAbs by omega)
        omega
      · exact q
    omega
  · intro h
    have := Nat.mul_le_mul (show y.natAbs ≤ zSq2 n by omega) (show y.natAbs ≤ zSq2 n by omega)
    omega
def up (f : Int → List i4) : Nat → Int → List i4
  | 0, _ => []
  | n + 1, w => f w ++ up f n (w + 1)
theorem up_add (f : Int → List i4) (a b : Nat) (w : Int) : up f (a + b) w = up f a w ++ up f b (w + a) := by
  induction a generalizing w with
  | zero => simp [up]
  | succ a ih =>
    rw [show a + 1 + b = (a + b) + 1 by omega, up, up, ih, List.append_assoc, show w + 1 + (a : Int) = w + ((a + 1 : Nat) : Int) by omega]
theorem up_nil {f : Int → List i4} : ∀ (a : Nat) (w : Int), (∀ i, w ≤ i → i < w + a → f i = []) → up f a w = [] := by
  intro a
  induction a with
  | zero => exact fun _ _ => rfl
  | succ a ih =>
    intro w h
    rw [up, h w (by omega) (by omega), ih (w + 1) (fun i h1 h2 => h i (by omega) (by omega))]
    rfl
theorem up_c {f g : Int → List i4} : ∀ (a : Nat) (w : Int), (∀ i, w ≤ i → i < w + a → f i = g i) → up f a w = up g a w := by
  intro a
  induction a with
  | zero => exact fun _ _ => rfl
  | succ a ih =>
    intro w h
    rw [up, up, h w (by omega) (by omega), ih (w + 1) (fun i h1 h2 => h i (by omega) (by omega))]
/-- over -e .. e -/
abbrev sy (f : Int → List i4) (e : Nat) : List i4 := up f (2 * e + 1) (-(e : Int))
theorem sy_sub {f : Int → List i4} {e e' : Nat} (h : e' ≤ e) (hf : ∀ i : Int, ¬ (-(e' : Int) ≤ i ∧ i ≤ e') → f i = []) : sy f e = sy f e' := by
  obtain ⟨d, rfl⟩ := Nat.le.dest h
  unfold sy
  rw [show 2 * (e' + d) + 1 = d + ((2 * e' + 1) + d) by omega, up_add, up_add, up_nil d _ (fun i h1 h2 => hf i (by omega)), up_nil d _ (fun i h1 h2 => hf i (by omega)), List.nil_append, List.append_nil]
  congr 1
  omega
noncomputable def Lz (m : Int) (w x y : Int) : List i4 := if 0 ≤ m - w * w - x * x - y * y ∧ (w + x) % 2 = 0 ∧ (x + y) % 2 = 0 ∧ (zSq2 (m - w * w - x * x - y * y).toNat : Int) * zSq2 (m - w * w - x * x - y * y).toNat = m - w * w - x * x - y * y then (w, x, y, -(zSq2 (m - w * w - x * x - y * y).toNat : Int)) :: (if zSq2 (m - w * w - x * x - y * y).toNat ≠ 0 then [(w, x, y, (zSq2 (m - w * w - x * x - y * y).toNat : Int))] else []) else []
/-- found at a place, or counted down -/
def lsP (h : zHp) (a r q : Nat) (Ls : List i4) (k : Nat) : Option Value → zHp → Prop := fun v h' => (∃ P, Ls[k]? = some P ∧ v = some (.int 1) ∧ h' = zU (zU h a (zO 6 [.ref r, .ref q, .int (nI 0)])) r (zFo (z4i P))) ∨ (Ls.length ≤ k ∧ v = some (.int 0) ∧ h' = zU h a (zO 6 [.ref r, .ref q, .int (nI (k - Ls.length))]))
theorem lsP_1 {h : zHp} {a r q : Nat} {Ls R : List i4} {k : Nat} {P : i4} (e : Ls[k]? = some P) : lsP h a r q (Ls ++ R) k (some (.int 1)) (zU (zU h a (zO 6 [.ref r, .ref q, .int (nI 0)])) r (zFo (z4i P))) := by
  refine Or.inl ⟨P, ?_, rfl, rfl⟩
  rw [List.getElem?_append_left (List.getElem?_eq_some_iff.mp e).1, e]
theorem lsP_a {h : zHp} {a r q : Nat} {Ls R : List i4} {k : Nat} {v : Option Value} {h' : zHp} (hk : Ls.length ≤ k) (p : lsP h a r q R (k - Ls.length) v h') : lsP h a r q (Ls ++ R) k v h' := by
  rcases p with ⟨P, e, hv, hh⟩ | ⟨hl, hv, hh⟩
  · refine Or.inl ⟨P, ?_, hv, hh⟩
    rw [List.getElem?_append_right hk, e]
  · refine Or.inr ⟨by rw [List.length_append]; omega, hv, ?_⟩
    rw [hh, List.length_append, Nat.sub_sub]
theorem lsP_0 {h : zHp} {a r q : Nat} {k : Nat} : lsP h a r q [] k (some (.int 0)) (zU h a (zO 6 [.ref r, .ref q, .int (nI k)])) := Or.inr ⟨Nat.zero_le _, rfl, rfl⟩
theorem zk_ls {X : zX} {md : zMD} {B : zBB} {rm : Nat × Nat × Nat} {n : Nat × Nat} {lv : List (Nat × Value)} {st : List Value} {q0 : Nat} {h : zHp} {a r q : Nat} {Ls : List i4} {k : Nat} (k1 : ∀ (P : i4) (h' : zHp), Ls[k]? = some P → h' = zU (zU h a (zO 6 [.ref r, .ref q, .int (nI 0)])) r (zFo (z4i P)) → zG X md B rm n q0 lv (.int 1 :: st) h') (k0 : ∀ h' : zHp, Ls.length ≤ k → h' = zU h a (zO 6 [.ref r, .ref q, .int (nI (k - Ls.length))]) → zG X md B rm n q0 lv (.int 0 :: st) h') : ∀ (v' : Option Value) (h' : zHp), lsP h a r q Ls k v' h' → zG X md B rm n q0 lv (v'.toList ++ st) h' := by
  rintro _ h' (⟨P, e, rfl, hh⟩ | ⟨e, rfl, hh⟩)
  · exact k1 P h' e hh
  · exact k0 h' e hh
theorem jz_0e {t : Int} (h : jB t) : jz t = 0 ↔ t = 0 := by
  rw [show (0 : Int32) = jz 0 from rfl, jz_inj h (by decide)]
theorem jz_par {t : Int} (h : jB t) : jz t &&& 1 = 0 ↔ t % 2 = 0 := by
  rw [ev_i, jz_i h]
  split <;> rename_i q <;> simp [q]
