/-! what the start keeps stays kept -/
section OKM
variable {s : zSt}
theorem ok_F {v : Int32} (h : okSt s) : okSt (sFd s v) := h
theorem ok_O {i : Nat} {o : Option i4} (h : okSt s) (ho : ∀ P, o = some P → i4V P) : okSt (sSl s i o) := ⟨fun j P hP => by
  change (if j = i then o else qSl s j) = some P at hP
  split at hP
  · exact ho P hP
  · exact h.1 j P hP, h.2⟩
theorem ok_S {i : Nat} {P : i4} (h : okSt s) (hP : i4V P) : okSt (sSl s i (some P)) := ok_O h fun Q hQ => by
  cases hQ
  exact hP
theorem ok_N {i : Nat} (h : okSt s) : okSt (sSl s i none) := ok_O h fun Q hQ => by cases hQ
theorem ok_L {L : List Int32} (h : okSt s) (hL : L.length ≤ 16) : okSt (sTc s L) := ⟨h.1, h.2.1, h.2.2.1, hL⟩
theorem ok_T {i ln sz : Nat} {it : Nat → Int64} (h : okSt s) (h1 : ln ≤ 3) (h2 : sz ≤ 100) : okSt (sTr s i ln sz it) := ⟨h.1, fun j => by
  show (if j = i then ln else qLn s j) ≤ 3
  split
  · exact h1
  · exact h.2.1 j, fun j => by
  show (if j = i then sz else qSz s j) ≤ 100
  split
  · exact h2
  · exact h.2.2.1 j, h.2.2.2⟩
theorem on_ok {α : Type} {o : Option i4} {n : α × zSt} {g : i4 → α × zSt} (hn : okSt n.2) (hg : ∀ P, o = some P → okSt (g P).2) : okSt (onS o n g).2 := by
  cases o with
  | none => exact hn
  | some P => exact hg P rfl
theorem if_ok {α : Type} {c : Prop} [Decidable c] {a b : α × zSt} (ha : c → okSt a.2) (hb : ¬ c → okSt b.2) : okSt (if c then a else b).2 := by
  split
  · exact ha ‹_›
  · exact hb ‹_›
theorem ok_norm (i : Int32) (hs : okSt s) : okSt (r_norm s i).2 := if_ok (fun _ => hs) fun _ => on_ok (ok_F hs) fun P hP => ok_F hs
theorem ok_kind (i : Int32) (hs : okSt s) : okSt (r_kind s i).2 := if_ok (fun _ => hs) fun _ => on_ok (ok_F hs) fun P hP => ok_F hs
theorem ok_clear (i : Int32) (hs : okSt s) : okSt (r_clear s i).2 := if_ok (fun _ => hs) fun _ => ok_N hs
theorem ok_number (i k : Int32) (hs : okSt s) : okSt (r_number s i k).2 := if_ok (fun _ => hs) fun _ => on_ok (ok_F hs) fun P hP => ok_F hs
theorem ok_is (i k : Int32) (hs : okSt s) : okSt (r_is s i k).2 := if_ok (fun _ => hs) fun _ => on_ok (ok_F hs) fun P hP => ok_F hs
theorem ok_as (i k : Int32) (hs : okSt s) : okSt (r_as s i k).2 := if_ok (fun _ => hs) fun _ => on_ok (ok_F hs) fun P hP => if_ok (fun _ => ok_F hs) fun _ => ok_F hs
theorem ok_status (hs : okSt s) : okSt (r_status s).2 := hs
theorem ok_trace (i : Int32) (hs : okSt s) : okSt (r_trace s i).2 := hs
theorem ok_times (t p q : Int32) (hs : okSt s) : okSt (r_times s t p q).2 := if_ok (fun _ => hs) fun _ => on_ok (ok_F hs) fun P hP => on_ok (ok_F hs) fun Q hQ => if_ok (fun _ => hs) fun hn => ok_F (ok_S hs (i4V_of (i4m_o (hs.1 _ _ hP).1 (hs.1 _ _ hQ).1) hn))
theorem ok_sum (t p q : Int32) (hs : okSt s) : okSt (r_sum s t p q).2 := if_ok (fun _ => hs) fun _ => on_ok (ok_F hs) fun P hP => on_ok (ok_F hs) fun Q hQ => if_ok (fun _ => hs) fun hn => ok_F (ok_S hs (i4V_of (i4a_o (hs.1 _ _ hP).1 (hs.1 _ _ hQ).1) hn))
theorem ok_back (t p : Int32) (hs : okSt s) : okSt (r_back s t p).2 := if_ok (fun _ => hs) fun _ => on_ok (ok_F hs) fun P hP => ok_F (ok_S hs (i4V_b (hs.1 _ _ hP)))
theorem ok_associate (t p w : Int32) (hs : okSt s) : okSt (r_associate s t p w).2 := if_ok (fun _ => hs) fun _ => on_ok (ok_F hs) fun P hP => ok_F (ok_S hs (i4V_as (hs.1 _ _ hP)))
theorem ok_over (t r p q w : Int32) (hs : okSt s) : okSt (r_over s t r p q w).2 := if_ok (fun _ => hs) fun _ => on_ok (ok_F hs) fun P hP => on_ok (ok_F hs) fun Q hQ => if_ok (fun _ => hs) fun hq => ok_F (ok_S (ok_S hs (dvT_V (hs.1 _ _ hP) (hs.1 _ _ hQ) (by have := i4q_nn Q; omega)).2) (dvT_V (hs.1 _ _ hP) (hs.1 _ _ hQ) (by have := i4q_nn Q; omega)).1)
theorem ok_greatest (t p q w : Int32) (hs : okSt s) : okSt (r_greatest s t p q w).2 := if_ok (fun _ => hs) fun _ => on_ok (ok_F hs) fun P hP => on_ok (ok_F hs) fun Q hQ => if_ok (fun _ => hs) fun hq => ok_F (ok_S hs (V_gr (hs.1 _ _ hP) (hs.1 _ _ hQ)))
theorem ok_plain (t p : Int32) (hs : okSt s) : okSt (r_plain s t p).2 := if_ok (fun _ => hs) fun _ => on_ok (ok_F hs) fun P hP => if_ok (fun _ => hs) fun hq => ok_F (ok_S hs (V_d (hs.1 _ _ hP) hq))
theorem ok_part (t p i : Int32) (hs : okSt s) : okSt (r_part s t p i).2 := if_ok (fun _ => hs) fun _ => on_ok (ok_F hs) fun P hP => if_ok (fun hk => if_ok (fun _ => ok_F hs) fun _ => ok_F (ok_O hs fun v hv => V_ptL 30 P _ (V_pt (hs.1 _ _ hP) hk) (Nat.lt_of_le_of_lt (nN_le (hs.1 _ _ hP)) (by decide)) v (List.mem_of_getElem? hv))) fun _ => hs
theorem ok_many (n : Int32) (hs : okSt s) : okSt (r_many s n).2 := hs
theorem ok_squares (n : Int32) (hs : okSt s) : okSt (r_squares s n).2 := hs
theorem ok_three (n : Int32) (hs : okSt s) : okSt (r_three s n).2 := hs
theorem ok_list (t n i : Int32) (hs : okSt s) : okSt (r_list s t n i).2 := if_ok (fun _ => hs) fun h1 => if_ok (fun _ => hs) fun _ => on_ok hs fun P hP => ok_S hs (lsL_V (n := n.toNatClampNeg) (by
  have h2 : ¬ (150 : Int32) < n := fun q => h1 (Or.inr (Or.inr q))
  rw [Int32.lt_iff_toInt_lt] at h2
  have h3 : (150 : Int32).toInt = 150 := by decide
  show n.toInt.toNat ≤ 150
  omega) (List.mem_of_getElem? hP))
theorem ok_table (p r c w : Int32) (hs : okSt s) : okSt (r_table s p r c w).2 := if_ok (fun _ => hs) fun _ => on_ok (ok_F hs) fun P hP => if_ok (fun _ => hs) fun _ => ok_F hs
theorem ok_turn (p x y z k w : Int32) (hs : okSt s) : okSt (r_turn s p x y z k w).2 := if_ok (fun _ => hs) fun _ => on_ok (ok_F hs) fun P hP => if_ok (fun _ => hs) fun _ => ok_F hs
theorem ok_order (p : Int32) (hs : okSt s) : okSt (r_order s p).2 := if_ok (fun _ => hs) fun _ => on_ok (ok_F hs) fun P hP => if_ok (fun _ => hs) fun _ => ok_F hs
theorem ok_axis (p k : Int32) (hs : okSt s) : okSt (r_axis s p k).2 := if_ok (fun _ => hs) fun _ => on_ok (ok_F hs) fun P hP => if_ok (fun _ => hs) fun _ => ok_F hs
theorem ok_index (p : Int32) (hs : okSt s) : okSt (r_index s p).2 := if_ok (fun _ => hs) fun _ => on_ok (ok_F hs) fun P hP => if_ok (fun _ => hs) fun _ => ok_F hs
theorem ok_alike (p q : Int32) (hs : okSt s) : okSt (r_alike s p q).2 := if_ok (fun _ => hs) fun _ => on_ok (ok_F hs) fun P hP => on_ok (ok_F hs) fun Q hQ => if_ok (fun _ => hs) fun _ => ok_F hs
theorem ok_cell (p k : Int32) (hs : okSt s) : okSt (r_cell s p k).2 := if_ok (fun _ => hs) fun _ => on_ok (ok_F hs) fun P hP => if_ok (fun _ => hs) fun _ => if_ok (fun _ => hs) fun _ => ok_F hs
theorem ok_tray (t l n : Int32) (hs : okSt s) : okSt (r_tray s t l n).2 := if_ok (fun _ => hs) fun h1 => if_ok (fun _ => ok_F hs) fun h2 => ok_F (ok_T hs (by
  have h3 : ¬ zOut l 3 := fun q => h1 (Or.inr (Or.inl q))
  unfold zOut at h3
  rw [Int32.lt_iff_toInt_lt, Int32.lt_iff_toInt_lt] at h3
  have e3 : (3 : Int32).toInt = 3 := by decide
  show l.toInt.toNat + 1 ≤ 3
  omega) (by
  have h3 : ¬ (100 : Int32) < n := fun q => h1 (Or.inr (Or.inr q))
  rw [Int32.lt_iff_toInt_lt] at h3
  have e3 : (100 : Int32).toInt = 100 := by decide
  show n.toInt.toNat ≤ 100
  omega))
theorem ok_drop (t : Int32) (hs : okSt s) : okSt (r_drop s t).2 := if_ok (fun _ => hs) fun _ => if_ok (fun _ => ok_F hs) fun _ => ok_F (ok_T hs (by decide) (hs.2.2.1 _))
theorem ok_set (t i : Int32) (v : Int64) (hs : okSt s) : okSt (r_set s t i v).2 := if_ok (fun _ => hs) fun _ => if_ok (fun _ => ok_F hs) fun _ => if_ok (fun _ => ok_F hs) fun _ => ok_F (ok_T hs (hs.2.1 _) (hs.2.2.1 _))
theorem ok_copy (a i b j n : Int32) (hs : okSt s) : okSt (r_copy s a i b j n).2 := if_ok (fun _ => hs) fun _ => if_ok (fun _ => ok_F hs) fun _ => if_ok (fun _ => ok_F hs) fun _ => if_ok (fun _ => ok_F (ok_T hs (hs.2.1 _) (hs.2.2.1 _))) fun _ => ok_F hs
theorem ok_take (t y i : Int32) (hs : okSt s) : okSt (r_take s t y i).2 := if_ok (fun _ => hs) fun _ => if_ok (fun _ => ok_F hs) fun _ => if_ok (fun _ => if_ok (fun _ => hs) fun h1 => if_ok (fun _ => hs) fun h2 => ok_F (ok_S hs ⟨Decidable.of_not_not h1, Decidable.of_not_not h2⟩)) fun _ => ok_F hs
theorem askT_n : ∀ (w : Int32) (k : Nat), k ≤ 4 → (askT w k).length ≤ 16 := fun w k hk => by
  unfold askT
  split
  · match k, hk with
    | 0, _ => decide
    | 1, _ => decide
    | 2, _ => decide
    | 3, _ => decide
    | 4, _ => decide
  · split
    · match k, hk with
      | 0, _ => decide
      | 1, _ => decide
      | 2, _ => decide
      | 3, _ => decide
      | 4, _ => decide
    · match k, hk with
      | 0, _ => decide
      | 1, _ => decide
      | 2, _ => decide
      | 3, _ => decide
      | 4, _ => decide
theorem ok_ask (i w : Int32) (hs : okSt s) : okSt (r_ask s i w).2 := if_ok (fun _ => hs) fun _ => on_ok (ok_F (ok_L hs (by decide))) fun P hP => ok_F (ok_L hs (askT_n _ _ (kd_le P)))
theorem ok_sO : okSt sO := by
  refine ⟨fun i P hP => ?_, fun _ => Nat.zero_le _, fun _ => Nat.zero_le _, Nat.zero_le _⟩
  change (none : Option i4) = some P at hP
  cases hP
end OKM
