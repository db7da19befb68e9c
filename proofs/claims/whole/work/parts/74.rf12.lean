/-! the reference is made -/
def mkD (L : List Nat) (S i : Nat) : Nat := if i < L.length then L.getD i 0 else S + i
theorem mkD_i {L : List Nat} {S i : Nat} (h : i < L.length) : L[i]? = some (mkD L S i) := by
  unfold mkD
  rw [if_pos h]
  exact gd_some h
theorem mkD_j {L : List Nat} {S : Nat} (nd : L.Nodup) (hS : ∀ x ∈ L, x < S) : zInj (mkD L S) := fun i j e => by
  have big : ∀ k, ¬ k < L.length → mkD L S k = S + k := fun k hk => by
    unfold mkD
    rw [if_neg hk]
  by_cases h1 : i < L.length
  · have e1 := mkD_i (S := S) h1
    by_cases h2 : j < L.length
    · have e2 := mkD_i (S := S) h2
      rw [← e] at e2
      exact nd_idx nd i j _ e1 e2
    · rw [big j h2] at e
      have := hS _ (List.mem_of_getElem? e1)
      omega
  · rw [big i h1] at e
    by_cases h2 : j < L.length
    · have e2 := mkD_i (S := S) h2
      have := hS _ (List.mem_of_getElem? e2)
      omega
    · rw [big j h2] at e
      omega
def mO : mS := (fun _ => 0, fun _ => 0, fun _ => 0, fun _ => 0, fun _ => 0, fun _ => 0, 0, fun _ => 0, 0, fun _ => 0, fun _ => 0)
theorem mO_k : mK sO mO := by
  refine ⟨fun i hi => rfl, fun i hi P hP => ?_, fun i hi => rfl, fun i hi => rfl, fun i hi j hj => absurd hj (Nat.not_lt_zero _), rfl, fun i x hx => ?_, rfl⟩
  · change (none : Option i4) = some P at hP
    cases hP
  · change ([] : List Int32)[i]? = some x at hx
    simp at hx
theorem fin11 {B : zBB} {h h1 : zHp} {a d1 d2 d3 d4 d5 d6 d7 d8 d9 : Nat} (Z : zZ h h1 a [d1, d2, d3, d4, d5, d6, d7, d8, d9]) (ha : h1 a = some (zO 11 [.ref d1, .ref d2, .ref d3, .ref d4, .ref d5, .ref d6, .int 0, .ref d7, .int 0, .ref d8, .ref d9])) (f1 : h1 d1 = some (zZb B 20 (fun _ => 0))) (f2 : h1 d2 = some (zJ B 80 (fun _ => 0))) (f3 : h1 d3 = some (zI B 8 (fun _ => 0))) (f4 : h1 d4 = some (zI B 8 (fun _ => 0))) (f5 : h1 d5 = some (zJ B 800 (fun _ => 0))) (f6 : h1 d6 = some (zJ B 100 (fun _ => 0))) (f7 : h1 d7 = some (zI B 16 (fun _ => 0))) (f8 : h1 d8 = some (zJ B 80 (fun _ => 0))) (f9 : h1 d9 = some (zJ B 9 (fun _ => 0))) : ∃ D : Nat → Nat, zInj D ∧ D 0 = a ∧ rRm B D sO h1 ∧ (∀ x, (∀ i, i < 10 → x ≠ D i) → h1 x = h x) ∧ ∀ i, 1 ≤ i → i < 10 → h (D i) = none := by
  obtain ⟨LL, eLL⟩ : ∃ LL, LL = [a, d1, d2, d3, d4, d5, d6, d7, d8, d9] := ⟨_, rfl⟩
  have nd : LL.Nodup := by rw [eLL]; exact Z.1
  have hlen : LL.length = 10 := by rw [eLL]; rfl
  have hj : zInj (mkD LL (LL.sum + 1)) := mkD_j nd lt_sum
  have hi : ∀ i, i < 10 → LL[i]? = some (mkD LL (LL.sum + 1) i) := fun i hi => mkD_i (by omega)
  have hfr : ∀ i, 1 ≤ i → i < 10 → h (mkD LL (LL.sum + 1) i) = none := fun i h1 h2 => by
    have hm := List.mem_of_getElem? (hi i h2)
    rw [eLL] at hm
    rcases List.mem_cons.mp hm with q | q
    · rw [← eLL] at q
      have e0 := hi 0 (by decide)
      rw [eLL] at e0
      have e1 := Option.some.inj e0
      rw [← eLL] at e1
      exact absurd (hj i 0 (q.trans e1)) (by omega)
    · rw [← eLL] at q
      exact (Z.2.1 _ q).1
  have hou : ∀ x, (∀ i, i < 10 → x ≠ mkD LL (LL.sum + 1) i) → h1 x = h x := fun x hx => by
    have hn : x ∉ LL := fun hm => by
      obtain ⟨i, hi1, hi2⟩ := List.getElem_of_mem hm
      have h3 := hi i (by omega)
      rw [List.getElem?_eq_getElem hi1, hi2] at h3
      exact hx i (by omega) (Option.some.inj h3)
    rw [eLL] at hn
    exact Z.2.2.2 x (fun q => hn (q ▸ List.mem_cons_self)) (fun q => hn (List.mem_cons_of_mem _ q))
  obtain ⟨D, eD⟩ : ∃ D, D = mkD LL (LL.sum + 1) := ⟨_, rfl⟩
  rw [← eD] at hi hj hfr hou
  have g : ∀ i x, LL[i]? = some x → i < 10 → D i = x := fun i x hx h => Option.some.inj ((hi i h).symm.trans hx)
  have e0 : D 0 = a := g 0 a (by rw [eLL]; rfl) (by decide)
  have e1 : D 1 = d1 := g 1 d1 (by rw [eLL]; rfl) (by decide)
  have e2 : D 2 = d2 := g 2 d2 (by rw [eLL]; rfl) (by decide)
  have e3 : D 3 = d3 := g 3 d3 (by rw [eLL]; rfl) (by decide)
  have e4 : D 4 = d4 := g 4 d4 (by rw [eLL]; rfl) (by decide)
  have e5 : D 5 = d5 := g 5 d5 (by rw [eLL]; rfl) (by decide)
  have e6 : D 6 = d6 := g 6 d6 (by rw [eLL]; rfl) (by decide)
  have e7 : D 7 = d7 := g 7 d7 (by rw [eLL]; rfl) (by decide)
  have e8 : D 8 = d8 := g 8 d8 (by rw [eLL]; rfl) (by decide)
  have e9 : D 9 = d9 := g 9 d9 (by rw [eLL]; rfl) (by decide)
  refine ⟨D, hj, e0, ⟨mO, ?_, mO_k⟩, hou, hfr⟩
  unfold rM
  rw [e0, e1, e2, e3, e4, e5, e6, e7, e8, e9]
  exact ⟨ha, f1, f2, f3, f4, f5, f6, f7, f8, f9⟩

set_option maxHeartbeats 4000000 in
set_option maxRecDepth 100000 in
theorem s_X11_init (B : zBB) (h : zHp) (a : Nat) (ha : h a = some (zO 11 [.null, .null, .null, .null, .null, .null, .int 0, .null, .int 0, .null, .null])) : zSpec mX11_init B (1, 9, 1121) [.ref a] h (zPv (fun h' => ∃ D : Nat → Nat, zInj D ∧ D 0 = a ∧ rRm B D sO h' ∧ (∀ x, (∀ i, i < 10 → x ≠ D i) → h' x = h x) ∧ ∀ i, 1 ≤ i → i < 10 → h (D i) = none)) := by
  refine zSpec.of (by decide) (Nat.le_of_ble_eq_true rfl) (fun X hZ => ?_)
  show zG X mX11_init B (1, 9, 1121) (0, 0) 0 [(0, .ref a)] [] h
  refine zi_aload_n 1 dX11_init_0 rfl rfl ?_
  refine zc_obj 4 dX11_init_1 tw_862 tw_73 zObjCode rfl rfl rfl ?_
  refine zi_aload_n 5 dX11_init_4 rfl rfl ?_
  refine zi_bipush (v := 20) 7 dX11_init_5 (by decide) rfl ?_
  refine zn_arr (mk := fun _ _ => .inr (0, [])) (n' := (1, 20)) (t0 := 2) (N := 20) (a0 := (20, .inl (fun _ => 0))) 9 dX11_init_7 tw_897 rfl rfl (fun _ h => by cases h) (fun _ => rfl) (by decide) (by decide) (Nat.le_of_ble_eq_true rfl) rfl rfl rfl rfl (fun d1 hd1 => ?_)
  refine zk_h (fun h1 k1 => ?_)
  have c0 := zZ_0 (zX0 k1)
  have p0 := zZ_pre ha hd1 k1 c0
  refine zi_putfieldF (fs' := [_, _, _, _, _, _, _, _, _, _, _]) hZ 12 0 dX11_init_9 zcl_X11 tyX11 tyX11_ok nmX11 tw_863 rfl rfl rfl rfl rfl p0 rfl rfl rfl rfl rfl rfl ?_
  refine zk_h (fun h2 k2 => ?_)
  obtain ⟨Z1, a0, m0, t0⟩ := zZ_cp (zZ_0 ha) ha hd1 k1 c0 k2
  have n0_d1 := (m0 d1 (by simp)).2
  have f0_d1 := (m0 d1 (by simp)).1.trans (zX0 k1)
  refine zi_aload_n 13 dX11_init_12 rfl rfl ?_
  refine zi_bipush (v := 80) 15 dX11_init_13 (by decide) rfl ?_
  refine zn_arr (mk := fun _ _ => .inr (0, [])) (n' := (2, 100)) (t0 := 1) (N := 80) (a0 := (80, .inr (.inl (fun _ => 0)))) 17 dX11_init_15 tw_95 rfl rfl (fun _ h => by cases h) (fun _ => rfl) (by decide) (by decide) (Nat.le_of_ble_eq_true rfl) rfl rfl rfl rfl (fun d2 hd2 => ?_)
  refine zk_h (fun h3 k3 => ?_)
  have c1 := zZ_0 (zX0 k3)
  have p1 := zZ_pre a0 hd2 k3 c1
  refine zi_putfieldF (fs' := [_, _, _, _, _, _, _, _, _, _, _]) hZ 20 1 dX11_init_17 zcl_X11 tyX11 tyX11_ok nmX11 tw_864 rfl rfl rfl rfl rfl p1 rfl rfl rfl rfl rfl rfl ?_
  refine zk_h (fun h4 k4 => ?_)
  obtain ⟨Z2, a1, m1, t1⟩ := zZ_cp Z1 a0 hd2 k3 c1 k4
  have f1_d1 := t1 _ _ n0_d1 f0_d1
  have n1_d2 := (m1 d2 (by simp)).2
  have f1_d2 := (m1 d2 (by simp)).1.trans (zX0 k3)
  refine zi_aload_n 21 dX11_init_20 rfl rfl ?_
  refine zi_bipush (v := 8) 23 dX11_init_21 (by decide) rfl ?_
  refine zn_arr (mk := fun _ _ => .inr (0, [])) (n' := (3, 108)) (t0 := 0) (N := 8) (a0 := (8, .inl (fun _ => 0))) 25 dX11_init_23 tw_132 rfl rfl (fun _ h => by cases h) (fun _ => rfl) (by decide) (by decide) (Nat.le_of_ble_eq_true rfl) rfl rfl rfl rfl (fun d3 hd3 => ?_)
  refine zk_h (fun h5 k5 => ?_)
  have c2 := zZ_0 (zX0 k5)
  have p2 := zZ_pre a1 hd3 k5 c2
  refine zi_putfieldF (fs' := [_, _, _, _, _, _, _, _, _, _, _]) hZ 28 2 dX11_init_25 zcl_X11 tyX11 tyX11_ok nmX11 tw_865 rfl rfl rfl rfl rfl p2 rfl rfl rfl rfl rfl rfl ?_
  refine zk_h (fun h6 k6 => ?_)
  obtain ⟨Z3, a2, m2, t2⟩ := zZ_cp Z2 a1 hd3 k5 c2 k6
  have f2_d1 := t2 _ _ n0_d1 f1_d1
  have f2_d2 := t2 _ _ n1_d2 f1_d2
  have n2_d3 := (m2 d3 (by simp)).2
  have f2_d3 := (m2 d3 (by simp)).1.trans (zX0 k5)
  refine zi_aload_n 29 dX11_init_28 rfl rfl ?_
  refine zi_bipush (v := 8) 31 dX11_init_29 (by decide) rfl ?_
  refine zn_arr (mk := fun _ _ => .inr (0, [])) (n' := (4, 116)) (t0 := 0) (N := 8) (a0 := (8, .inl (fun _ => 0))) 33 dX11_init_31 tw_132 rfl rfl (fun _ h => by cases h) (fun _ => rfl) (by decide) (by decide) (Nat.le_of_ble_eq_true rfl) rfl rfl rfl rfl (fun d4 hd4 => ?_)
  refine zk_h (fun h7 k7 => ?_)
  have c3 := zZ_0 (zX0 k7)
  have p3 := zZ_pre a2 hd4 k7 c3
  refine zi_putfieldF (fs' := [_, _, _, _, _, _, _, _, _, _, _]) hZ 36 3 dX11_init_33 zcl_X11 tyX11 tyX11_ok nmX11 tw_866 rfl rfl rfl rfl rfl p3 rfl rfl rfl rfl rfl rfl ?_
  refine zk_h (fun h8 k8 => ?_)
  obtain ⟨Z4, a3, m3, t3⟩ := zZ_cp Z3 a2 hd4 k7 c3 k8
  have f3_d1 := t3 _ _ n0_d1 f2_d1
  have f3_d2 := t3 _ _ n1_d2 f2_d2
  have f3_d3 := t3 _ _ n2_d3 f2_d3
  have n3_d4 := (m3 d4 (by simp)).2
  have f3_d4 := (m3 d4 (by simp)).1.trans (zX0 k7)
  refine zi_aload_n 37 dX11_init_36 rfl rfl ?_
  refine zi_sipush (v := 800) 40 dX11_init_37 (by decide) rfl ?_
  refine zn_arr (mk := fun _ _ => .inr (0, [])) (n' := (5, 916)) (t0 := 1) (N := 800) (a0 := (800, .inr (.inl (fun _ => 0)))) 42 dX11_init_40 tw_95 rfl rfl (fun _ h => by cases h) (fun _ => rfl) (by decide) (by decide) (Nat.le_of_ble_eq_true rfl) rfl rfl rfl rfl (fun d5 hd5 => ?_)
  refine zk_h (fun h9 k9 => ?_)
  have c4 := zZ_0 (zX0 k9)
  have p4 := zZ_pre a3 hd5 k9 c4
  refine zi_putfieldF (fs' := [_, _, _, _, _, _, _, _, _, _, _]) hZ 45 4 dX11_init_42 zcl_X11 tyX11 tyX11_ok nmX11 tw_867 rfl rfl rfl rfl rfl p4 rfl rfl rfl rfl rfl rfl ?_
  refine zk_h (fun h10 k10 => ?_)
  obtain ⟨Z5, a4, m4, t4⟩ := zZ_cp Z4 a3 hd5 k9 c4 k10
  have f4_d1 := t4 _ _ n0_d1 f3_d1
  have f4_d2 := t4 _ _ n1_d2 f3_d2
  have f4_d3 := t4 _ _ n2_d3 f3_d3
  have f4_d4 := t4 _ _ n3_d4 f3_d4
  have n4_d5 := (m4 d5 (by simp)).2
  have f4_d5 := (m4 d5 (by simp)).1.trans (zX0 k9)
  refine zi_aload_n 46 dX11_init_45 rfl rfl ?_
  refine zi_bipush (v := 100) 48 dX11_init_46 (by decide) rfl ?_
  refine zn_arr (mk := fun _ _ => .inr (0, [])) (n' := (6, 1016)) (t0 := 1) (N := 100) (a0 := (100, .inr (.inl (fun _ => 0)))) 50 dX11_init_48 tw_95 rfl rfl (fun _ h => by cases h) (fun _ => rfl) (by decide) (by decide) (Nat.le_of_ble_eq_true rfl) rfl rfl rfl rfl (fun d6 hd6 => ?_)
  refine zk_h (fun h11 k11 => ?_)
  have c5 := zZ_0 (zX0 k11)
  have p5 := zZ_pre a4 hd6 k11 c5
  refine zi_putfieldF (fs' := [_, _, _, _, _, _, _, _, _, _, _]) hZ 53 5 dX11_init_50 zcl_X11 tyX11 tyX11_ok nmX11 tw_868 rfl rfl rfl rfl rfl p5 rfl rfl rfl rfl rfl rfl ?_
  refine zk_h (fun h12 k12 => ?_)
  obtain ⟨Z6, a5, m5, t5⟩ := zZ_cp Z5 a4 hd6 k11 c5 k12
  have f5_d1 := t5 _ _ n0_d1 f4_d1
  have f5_d2 := t5 _ _ n1_d2 f4_d2
  have f5_d3 := t5 _ _ n2_d3 f4_d3
  have f5_d4 := t5 _ _ n3_d4 f4_d4
  have f5_d5 := t5 _ _ n4_d5 f4_d5
  have n5_d6 := (m5 d6 (by simp)).2
  have f5_d6 := (m5 d6 (by simp)).1.trans (zX0 k11)
  refine zi_aload_n 54 dX11_init_53 rfl rfl ?_
  refine zi_bipush (v := 16) 56 dX11_init_54 (by decide) rfl ?_
  refine zn_arr (mk := fun _ _ => .inr (0, [])) (n' := (7, 1032)) (t0 := 0) (N := 16) (a0 := (16, .inl (fun _ => 0))) 58 dX11_init_56 tw_132 rfl rfl (fun _ h => by cases h) (fun _ => rfl) (by decide) (by decide) (Nat.le_of_ble_eq_true rfl) rfl rfl rfl rfl (fun d7 hd7 => ?_)
  refine zk_h (fun h13 k13 => ?_)
  have c6 := zZ_0 (zX0 k13)
  have p6 := zZ_pre a5 hd7 k13 c6
  refine zi_putfieldF (fs' := [_, _, _, _, _, _, _, _, _, _, _]) hZ 61 7 dX11_init_58 zcl_X11 tyX11 tyX11_ok nmX11 tw_870 rfl rfl rfl rfl rfl p6 rfl rfl rfl rfl rfl rfl ?_
  refine zk_h (fun h14 k14 => ?_)
  obtain ⟨Z7, a6, m6, t6⟩ := zZ_cp Z6 a5 hd7 k13 c6 k14
  have f6_d1 := t6 _ _ n0_d1 f5_d1
  have f6_d2 := t6 _ _ n1_d2 f5_d2
  have f6_d3 := t6 _ _ n2_d3 f5_d3
  have f6_d4 := t6 _ _ n3_d4 f5_d4
  have f6_d5 := t6 _ _ n4_d5 f5_d5
  have f6_d6 := t6 _ _ n5_d6 f5_d6
  have n6_d7 := (m6 d7 (by simp)).2
  have f6_d7 := (m6 d7 (by simp)).1.trans (zX0 k13)
  refine zi_aload_n 62 dX11_init_61 rfl rfl ?_
  refine zi_bipush (v := 80) 64 dX11_init_62 (by decide) rfl ?_
  refine zn_arr (mk := fun _ _ => .inr (0, [])) (n' := (8, 1112)) (t0 := 1) (N := 80) (a0 := (80, .inr (.inl (fun _ => 0)))) 66 dX11_init_64 tw_95 rfl rfl (fun _ h => by cases h) (fun _ => rfl) (by decide) (by decide) (Nat.le_of_ble_eq_true rfl) rfl rfl rfl rfl (fun d8 hd8 => ?_)
  refine zk_h (fun h15 k15 => ?_)
  have c7 := zZ_0 (zX0 k15)
  have p7 := zZ_pre a6 hd8 k15 c7
  refine zi_putfieldF (fs' := [_, _, _, _, _, _, _, _, _, _, _]) hZ 69 9 dX11_init_66 zcl_X11 tyX11 tyX11_ok nmX11 tw_872 rfl rfl rfl rfl rfl p7 rfl rfl rfl rfl rfl rfl ?_
  refine zk_h (fun h16 k16 => ?_)
  obtain ⟨Z8, a7, m7, t7⟩ := zZ_cp Z7 a6 hd8 k15 c7 k16
  have f7_d1 := t7 _ _ n0_d1 f6_d1
  have f7_d2 := t7 _ _ n1_d2 f6_d2
  have f7_d3 := t7 _ _ n2_d3 f6_d3
  have f7_d4 := t7 _ _ n3_d4 f6_d4
  have f7_d5 := t7 _ _ n4_d5 f6_d5
  have f7_d6 := t7 _ _ n5_d6 f6_d6
  have f7_d7 := t7 _ _ n6_d7 f6_d7
  have n7_d8 := (m7 d8 (by simp)).2
  have f7_d8 := (m7 d8 (by simp)).1.trans (zX0 k15)
  refine zi_aload_n 70 dX11_init_69 rfl rfl ?_
  refine zi_bipush (v := 9) 72 dX11_init_70 (by decide) rfl ?_
  refine zn_arr (mk := fun _ _ => .inr (0, [])) (n' := (9, 1121)) (t0 := 1) (N := 9) (a0 := (9, .inr (.inl (fun _ => 0)))) 74 dX11_init_72 tw_95 rfl rfl (fun _ h => by cases h) (fun _ => rfl) (by decide) (by decide) (Nat.le_of_ble_eq_true rfl) rfl rfl rfl rfl (fun d9 hd9 => ?_)
  refine zk_h (fun h17 k17 => ?_)
  have c8 := zZ_0 (zX0 k17)
  have p8 := zZ_pre a7 hd9 k17 c8
  refine zi_putfieldF (fs' := [_, _, _, _, _, _, _, _, _, _, _]) hZ 77 10 dX11_init_74 zcl_X11 tyX11 tyX11_ok nmX11 tw_873 rfl rfl rfl rfl rfl p8 rfl rfl rfl rfl rfl rfl ?_
  refine zk_h (fun h18 k18 => ?_)
  obtain ⟨Z9, a8, m8, t8⟩ := zZ_cp Z8 a7 hd9 k17 c8 k18
  have f8_d1 := t8 _ _ n0_d1 f7_d1
  have f8_d2 := t8 _ _ n1_d2 f7_d2
  have f8_d3 := t8 _ _ n2_d3 f7_d3
  have f8_d4 := t8 _ _ n3_d4 f7_d4
  have f8_d5 := t8 _ _ n4_d5 f7_d5
  have f8_d6 := t8 _ _ n5_d6 f7_d6
  have f8_d7 := t8 _ _ n6_d7 f7_d7
  have f8_d8 := t8 _ _ n7_d8 f7_d8
  have n8_d9 := (m8 d9 (by simp)).2
  have f8_d9 := (m8 d9 (by simp)).1.trans (zX0 k17)
  exact zr_void hZ dX11_init_77 rfl ⟨rfl, fin11 Z9 a8 f8_d1 f8_d2 f8_d3 f8_d4 f8_d5 f8_d6 f8_d7 f8_d8 f8_d9⟩
