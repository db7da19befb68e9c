set_option maxHeartbeats 4000000 in
set_option maxRecDepth 100000 in
theorem fin10 {B : zBB} {h h1 : zHp} {a t F K m d d1 d2 d3 d4 c c1 c2 c3 g g1 g2 g3 gd gd1 gd2 gd3 gd4 gc gc1 gc2 gc3 p p1 p2 p3 p4 pg pg1 pg2 pg3 pgd pgd1 pgd2 pgd3 pgd4 pgc pgc1 pgc2 pgc3 l l1 l2 b b1 e e1 e2 k k1 : Nat} {TR IT M : List Nat} {f ff : Nat → Option Nat} {fk ru : Nat → Int32} (Z : zZ h h1 a (((((((((((((([t] ++ TR ++ IT) ++ [F]) ++ [K]) ++ M) ++ [m]) ++ [d, d1, d2, d3, d4]) ++ [c, c1, c2, c3]) ++ [g, g1, g2, g3, gd, gd1, gd2, gd3, gd4, gc, gc1, gc2, gc3]) ++ [p, p1, p2, p3, p4, pg, pg1, pg2, pg3, pgd, pgd1, pgd2, pgd3, pgd4, pgc, pgc1, pgc2, pgc3]) ++ [l, l1, l2]) ++ [b, b1]) ++ [e, e1, e2]) ++ [k, k1]))) (ha : h1 a = some (zO 10 [.ref t, .ref F, .ref K, .ref m, .ref d, .ref c, .ref g, .ref p, .ref l, .ref b, .ref e, .ref k, .int 0])) (ht : h1 t = some (zRt B 8 f)) (hF : h1 F = some (zRf B 20 ff)) (hK : h1 K = some (zI B 20 fk)) (hT : TR.length = 8) (hI : IT.length = 8) (hM : M.length = 20) (hf : ∀ j, j < 8 → f j = TR[j]?) (hff : ∀ j, j < 20 → ff j = M[j]?) (hfk : ∀ j, j < 20 → fk j = -1) (hTr : trF h1 B TR IT) (hm : ∀ x ∈ M, h1 x = some (zFo z0)) (hru : ∀ i, i < 601 → ru i = nI (zSq2 i)) (f_d : h1 d = some (zO 3 [.ref d1, .ref d2, .ref d3, .ref d4])) (f_c : h1 c = some (zO 1 [.ref c1, .ref c2, .ref c3])) (f_g : h1 g = some (zO 5 [.ref g1, .ref g2, .ref g3, .ref gd, .ref gc])) (f_gd : h1 gd = some (zO 3 [.ref gd1, .ref gd2, .ref gd3, .ref gd4])) (f_gc : h1 gc = some (zO 1 [.ref gc1, .ref gc2, .ref gc3])) (f_p : h1 p = some (zO 7 [.ref p1, .ref p2, .ref p3, .ref p4, .ref pg])) (f_pg : h1 pg = some (zO 5 [.ref pg1, .ref pg2, .ref pg3, .ref pgd, .ref pgc])) (f_pgd : h1 pgd = some (zO 3 [.ref pgd1, .ref pgd2, .ref pgd3, .ref pgd4])) (f_pgc : h1 pgc = some (zO 1 [.ref pgc1, .ref pgc2, .ref pgc3])) (f_l : h1 l = some (zO 6 [.ref l1, .ref l2, .int 0])) (f_l2 : h1 l2 = some (zI B 601 ru)) (f_b : h1 b = some (zO 8 [.long 1, .ref b1])) (f_b1 : h1 b1 = some (zJ B 9 (fun _ => 0))) (f_e : h1 e = some (zO 2 [.ref e1, .int 0, .int 0, .int 0, .int 0, .int 0, .int 0])) (f_e1 : h1 e1 = some (zO 8 [.long 1, .ref e2])) (f_e2 : h1 e2 = some (zJ B 9 (fun _ => 0))) (f_k : h1 k = some (zO 0 [.ref k1, .int 0])) (f_k1 : h1 k1 = some (zI B 16 (fun _ => 0))) (f_m : h1 m = some (zFo z0)) (f_d1 : h1 d1 = some (zFo z0)) (f_d2 : h1 d2 = some (zFo z0)) (f_d3 : h1 d3 = some (zFo z0)) (f_d4 : h1 d4 = some (zFo z0)) (f_c1 : h1 c1 = some (zFo z0)) (f_c2 : h1 c2 = some (zFo z0)) (f_c3 : h1 c3 = some (zFo z0)) (f_g1 : h1 g1 = some (zFo z0)) (f_g2 : h1 g2 = some (zFo z0)) (f_g3 : h1 g3 = some (zFo z0)) (f_gd1 : h1 gd1 = some (zFo z0)) (f_gd2 : h1 gd2 = some (zFo z0)) (f_gd3 : h1 gd3 = some (zFo z0)) (f_gd4 : h1 gd4 = some (zFo z0)) (f_gc1 : h1 gc1 = some (zFo z0)) (f_gc2 : h1 gc2 = some (zFo z0)) (f_gc3 : h1 gc3 = some (zFo z0)) (f_p1 : h1 p1 = some (zFo z0)) (f_p2 : h1 p2 = some (zFo z0)) (f_p3 : h1 p3 = some (zFo z0)) (f_p4 : h1 p4 = some (zFo z0)) (f_pg1 : h1 pg1 = some (zFo z0)) (f_pg2 : h1 pg2 = some (zFo z0)) (f_pg3 : h1 pg3 = some (zFo z0)) (f_pgd1 : h1 pgd1 = some (zFo z0)) (f_pgd2 : h1 pgd2 = some (zFo z0)) (f_pgd3 : h1 pgd3 = some (zFo z0)) (f_pgd4 : h1 pgd4 = some (zFo z0)) (f_pgc1 : h1 pgc1 = some (zFo z0)) (f_pgc2 : h1 pgc2 = some (zFo z0)) (f_pgc3 : h1 pgc3 = some (zFo z0)) (f_l1 : h1 l1 = some (zFo z0)) : ∃ A : Nat → Nat, zInj A ∧ A 0 = a ∧ zRc B A sO h1 ∧ (∀ x, (∀ i, i < 91 → x ≠ A i) → h1 x = h x) ∧ ∀ i, 1 ≤ i → i < 91 → h (A i) = none := by
  obtain ⟨LL, eLL⟩ : ∃ LL, LL = [a, t, F, K, d, c, g, p, l, b, e, k, gd, gc, pg, pgd, pgc, e1, l2, b1, e2, k1] ++ TR ++ IT ++ M ++ [m, d1, d2, d3, d4, c1, c2, c3, g1, g2, g3, gd1, gd2, gd3, gd4, gc1, gc2, gc3, p1, p2, p3, p4, pg1, pg2, pg3, pgd1, pgd2, pgd3, pgd4, pgc1, pgc2, pgc3, l1] := ⟨_, rfl⟩
  have pm : (a :: (((((((((((((([t] ++ TR ++ IT) ++ [F]) ++ [K]) ++ M) ++ [m]) ++ [d, d1, d2, d3, d4]) ++ [c, c1, c2, c3]) ++ [g, g1, g2, g3, gd, gd1, gd2, gd3, gd4, gc, gc1, gc2, gc3]) ++ [p, p1, p2, p3, p4, pg, pg1, pg2, pg3, pgd, pgd1, pgd2, pgd3, pgd4, pgc, pgc1, pgc2, pgc3]) ++ [l, l1, l2]) ++ [b, b1]) ++ [e, e1, e2]) ++ [k, k1]))).Perm LL := by
    rw [eLL, List.perm_iff_count]
    intro x
    simp only [List.count_append, List.count_cons, List.count_nil]
    omega
  have nd : LL.Nodup := pm.nodup_iff.mp Z.1
  have hi : ∀ i, i < 91 → LL[i]? = some (mkA [a, t, F, K, d, c, g, p, l, b, e, k, gd, gc, pg, pgd, pgc, e1, l2, b1, e2, k1] TR IT M [m, d1, d2, d3, d4, c1, c2, c3, g1, g2, g3, gd1, gd2, gd3, gd4, gc1, gc2, gc3, p1, p2, p3, p4, pg1, pg2, pg3, pgd1, pgd2, pgd3, pgd4, pgc1, pgc2, pgc3, l1] (LL.sum + 1) i) := fun i hi => by rw [eLL]; exact mkA_i rfl hT hI hM rfl hi
  have hj : zInj (mkA [a, t, F, K, d, c, g, p, l, b, e, k, gd, gc, pg, pgd, pgc, e1, l2, b1, e2, k1] TR IT M [m, d1, d2, d3, d4, c1, c2, c3, g1, g2, g3, gd1, gd2, gd3, gd4, gc1, gc2, gc3, p1, p2, p3, p4, pg1, pg2, pg3, pgd1, pgd2, pgd3, pgd4, pgc1, pgc2, pgc3, l1] (LL.sum + 1)) := mkA_j rfl hT hI hM rfl (by rw [← eLL]; exact nd) (by rw [← eLL]; exact lt_sum)
  have hlen : LL.length = 91 := by rw [eLL]; simp only [List.length_append, List.length_cons, List.length_nil]; omega
  obtain ⟨A, eA⟩ : ∃ A, A = mkA [a, t, F, K, d, c, g, p, l, b, e, k, gd, gc, pg, pgd, pgc, e1, l2, b1, e2, k1] TR IT M [m, d1, d2, d3, d4, c1, c2, c3, g1, g2, g3, gd1, gd2, gd3, gd4, gc1, gc2, gc3, p1, p2, p3, p4, pg1, pg2, pg3, pgd1, pgd2, pgd3, pgd4, pgc1, pgc2, pgc3, l1] (LL.sum + 1) := ⟨_, rfl⟩
  rw [← eA] at hi hj
  have eT : ∀ j, j < 8 → A (22 + j) = TR.getD j 0 := fun j h => by rw [eA]; exact mkA_T h
  have eI : ∀ j, j < 8 → A (30 + j) = IT.getD j 0 := fun j h => by rw [eA]; exact mkA_I h
  have eM : ∀ j, j < 20 → A (38 + j) = M.getD j 0 := fun j h => by rw [eA]; exact mkA_M h
  have e_a : A 0 = a := by rw [eA]; rfl
  have e_t : A 1 = t := by rw [eA]; rfl
  have e_F : A 2 = F := by rw [eA]; rfl
  have e_K : A 3 = K := by rw [eA]; rfl
  have e_d : A 4 = d := by rw [eA]; rfl
  have e_c : A 5 = c := by rw [eA]; rfl
  have e_g : A 6 = g := by rw [eA]; rfl
  have e_p : A 7 = p := by rw [eA]; rfl
  have e_l : A 8 = l := by rw [eA]; rfl
  have e_b : A 9 = b := by rw [eA]; rfl
  have e_e : A 10 = e := by rw [eA]; rfl
  have e_k : A 11 = k := by rw [eA]; rfl
  have e_gd : A 12 = gd := by rw [eA]; rfl
  have e_gc : A 13 = gc := by rw [eA]; rfl
  have e_pg : A 14 = pg := by rw [eA]; rfl
  have e_pgd : A 15 = pgd := by rw [eA]; rfl
  have e_pgc : A 16 = pgc := by rw [eA]; rfl
  have e_e1 : A 17 = e1 := by rw [eA]; rfl
  have e_l2 : A 18 = l2 := by rw [eA]; rfl
  have e_b1 : A 19 = b1 := by rw [eA]; rfl
  have e_e2 : A 20 = e2 := by rw [eA]; rfl
  have e_k1 : A 21 = k1 := by rw [eA]; rfl
  have e_m : A 58 = m := by rw [eA]; rfl
  have e_d1 : A 59 = d1 := by rw [eA]; rfl
  have e_d2 : A 60 = d2 := by rw [eA]; rfl
  have e_d3 : A 61 = d3 := by rw [eA]; rfl
  have e_d4 : A 62 = d4 := by rw [eA]; rfl
  have e_c1 : A 63 = c1 := by rw [eA]; rfl
  have e_c2 : A 64 = c2 := by rw [eA]; rfl
  have e_c3 : A 65 = c3 := by rw [eA]; rfl
  have e_g1 : A 66 = g1 := by rw [eA]; rfl
  have e_g2 : A 67 = g2 := by rw [eA]; rfl
  have e_g3 : A 68 = g3 := by rw [eA]; rfl
  have e_gd1 : A 69 = gd1 := by rw [eA]; rfl
  have e_gd2 : A 70 = gd2 := by rw [eA]; rfl
  have e_gd3 : A 71 = gd3 := by rw [eA]; rfl
  have e_gd4 : A 72 = gd4 := by rw [eA]; rfl
  have e_gc1 : A 73 = gc1 := by rw [eA]; rfl
  have e_gc2 : A 74 = gc2 := by rw [eA]; rfl
  have e_gc3 : A 75 = gc3 := by rw [eA]; rfl
  have e_p1 : A 76 = p1 := by rw [eA]; rfl
  have e_p2 : A 77 = p2 := by rw [eA]; rfl
  have e_p3 : A 78 = p3 := by rw [eA]; rfl
  have e_p4 : A 79 = p4 := by rw [eA]; rfl
  have e_pg1 : A 80 = pg1 := by rw [eA]; rfl
  have e_pg2 : A 81 = pg2 := by rw [eA]; rfl
  have e_pg3 : A 82 = pg3 := by rw [eA]; rfl
  have e_pgd1 : A 83 = pgd1 := by rw [eA]; rfl
  have e_pgd2 : A 84 = pgd2 := by rw [eA]; rfl
  have e_pgd3 : A 85 = pgd3 := by rw [eA]; rfl
  have e_pgd4 : A 86 = pgd4 := by rw [eA]; rfl
  have e_pgc1 : A 87 = pgc1 := by rw [eA]; rfl
  have e_pgc2 : A 88 = pgc2 := by rw [eA]; rfl
  have e_pgc3 : A 89 = pgc3 := by rw [eA]; rfl
  have e_l1 : A 90 = l1 := by rw [eA]; rfl
  have hou : ∀ x, (∀ i, i < 91 → x ≠ A i) → h1 x = h x := fun x hx => by
    have hn : x ∉ LL := fun hm => by
      obtain ⟨i, hi1, hi2⟩ := List.getElem_of_mem hm
      have h3 := hi i (by omega)
      rw [List.getElem?_eq_getElem hi1, hi2] at h3
      exact hx i (by omega) (Option.some.inj h3)
    have hn2 := fun q => hn (pm.mem_iff.mp q)
    exact Z.2.2.2 x (fun q => hn2 (q ▸ List.mem_cons_self)) (fun q => hn2 (List.mem_cons_of_mem _ q))
  have hfr : ∀ i, 1 ≤ i → i < 91 → h (A i) = none := fun i h1 h2 => by
    have hm := pm.mem_iff.mpr (List.mem_of_getElem? (hi i h2))
    rcases List.mem_cons.mp hm with q | q
    · exact absurd (hj i 0 (q.trans e_a.symm)) (by omega)
    · exact (Z.2.1 _ q).1
  refine ⟨A, hj, e_a, ?_, hou, hfr⟩
  clear hou hfr hi nd pm Z eA eLL hlen
  subst e_a
  subst e_t
  subst e_F
  subst e_K
  subst e_d
  subst e_c
  subst e_g
  subst e_p
  subst e_l
  subst e_b
  subst e_e
  subst e_k
  subst e_gd
  subst e_gc
  subst e_pg
  subst e_pgd
  subst e_pgc
  subst e_e1
  subst e_l2
  subst e_b1
  subst e_e2
  subst e_k1
  subst e_m
  subst e_d1
  subst e_d2
  subst e_d3
  subst e_d4
  subst e_c1
  subst e_c2
  subst e_c3
  subst e_g1
  subst e_g2
  subst e_g3
  subst e_gd1
  subst e_gd2
  subst e_gd3
  subst e_gd4
  subst e_gc1
  subst e_gc2
  subst e_gc3
  subst e_p1
  subst e_p2
  subst e_p3
  subst e_p4
  subst e_pg1
  subst e_pg2
  subst e_pg3
  subst e_pgd1
  subst e_pgd2
  subst e_pgd3
  subst e_pgd4
  subst e_pgc1
  subst e_pgc2
  subst e_pgc3
  subst e_l1
  exact ⟨ha, ⟨⟨f, ht, fun i hi => by rw [hf i hi, eT i hi]; exact gd_some (by omega)⟩, ff, hF, fun i hi => by rw [hff i hi, eM i hi]; exact gd_some (by omega)⟩, ⟨fk, hK, fun i hi => (hfk i hi)⟩, fun i hi => ⟨z0, by rw [eM i hi]; exact hm _ (List.mem_of_getElem? (gd_some (by omega))), fun P hP => by cases hP⟩, fun i hi => ⟨fun _ => 0, by rw [eT i hi, eI i hi]; exact (hTr i _ _ (gd_some (by omega)) (gd_some (by omega))).1, by rw [eI i hi]; exact (hTr i _ _ (gd_some (by omega)) (gd_some (by omega))).2, fun j hj => rfl⟩, ⟨f_d, f_c, ⟨f_g, f_gd, f_gc, (List.forall_mem_cons.mpr ⟨⟨z0, f_g1⟩, (List.forall_mem_cons.mpr ⟨⟨z0, f_g2⟩, (List.forall_mem_cons.mpr ⟨⟨z0, f_g3⟩, (List.forall_mem_cons.mpr ⟨⟨z0, f_gd1⟩, (List.forall_mem_cons.mpr ⟨⟨z0, f_gd2⟩, (List.forall_mem_cons.mpr ⟨⟨z0, f_gd3⟩, (List.forall_mem_cons.mpr ⟨⟨z0, f_gd4⟩, (List.forall_mem_cons.mpr ⟨⟨z0, f_gc1⟩, (List.forall_mem_cons.mpr ⟨⟨z0, f_gc2⟩, (List.forall_mem_cons.mpr ⟨⟨z0, f_gc3⟩, (fun _ h => absurd h List.not_mem_nil)⟩)⟩)⟩)⟩)⟩)⟩)⟩)⟩)⟩)⟩)⟩, ⟨⟨f_pg, f_pgd, f_pgc, (List.forall_mem_cons.mpr ⟨⟨z0, f_pg1⟩, (List.forall_mem_cons.mpr ⟨⟨z0, f_pg2⟩, (List.forall_mem_cons.mpr ⟨⟨z0, f_pg3⟩, (List.forall_mem_cons.mpr ⟨⟨z0, f_pgd1⟩, (List.forall_mem_cons.mpr ⟨⟨z0, f_pgd2⟩, (List.forall_mem_cons.mpr ⟨⟨z0, f_pgd3⟩, (List.forall_mem_cons.mpr ⟨⟨z0, f_pgd4⟩, (List.forall_mem_cons.mpr ⟨⟨z0, f_pgc1⟩, (List.forall_mem_cons.mpr ⟨⟨z0, f_pgc2⟩, (List.forall_mem_cons.mpr ⟨⟨z0, f_pgc3⟩, (fun _ h => absurd h List.not_mem_nil)⟩)⟩)⟩)⟩)⟩)⟩)⟩)⟩)⟩)⟩)⟩, f_p, (List.forall_mem_cons.mpr ⟨⟨z0, f_p1⟩, (List.forall_mem_cons.mpr ⟨⟨z0, f_p2⟩, (List.forall_mem_cons.mpr ⟨⟨z0, f_p3⟩, (List.forall_mem_cons.mpr ⟨⟨z0, f_p4⟩, (fun _ h => absurd h List.not_mem_nil)⟩)⟩)⟩)⟩)⟩, (List.forall_mem_cons.mpr ⟨⟨z0, f_m⟩, (List.forall_mem_cons.mpr ⟨⟨z0, f_d1⟩, (List.forall_mem_cons.mpr ⟨⟨z0, f_d2⟩, (List.forall_mem_cons.mpr ⟨⟨z0, f_d3⟩, (List.forall_mem_cons.mpr ⟨⟨z0, f_d4⟩, (List.forall_mem_cons.mpr ⟨⟨z0, f_c1⟩, (List.forall_mem_cons.mpr ⟨⟨z0, f_c2⟩, (List.forall_mem_cons.mpr ⟨⟨z0, f_c3⟩, (List.forall_mem_cons.mpr ⟨⟨z0, f_l1⟩, (fun _ h => absurd h List.not_mem_nil)⟩)⟩)⟩)⟩)⟩)⟩)⟩)⟩)⟩)⟩, ⟨⟨0, f_l⟩, ru, f_l2, hru⟩, ⟨1, _, f_b, f_b1⟩, ⟨1, _, 0, 0, 0, 0, 0, 0, f_e, f_e1, f_e2⟩, ⟨_, f_k, f_k1, fun i x hx => by change ([] : List Int32)[i]? = some x at hx; simp at hx⟩⟩
