set_option maxHeartbeats 8000000 in
set_option maxRecDepth 100000 in
theorem s_X10_init (B : zBB) (h : zHp) (a : Nat) (ha : h a = some (zO 10 [.null, .null, .null, .null, .null, .null, .null, .null, .null, .null, .null, .null, .int 0])) : zSpec mX10_init B (5, 90, 1771) [.ref a] h (zPv (fun h' => ∃ A : Nat → Nat, zInj A ∧ A 0 = a ∧ zRc B A sO h' ∧ (∀ x, (∀ i, i < 91 → x ≠ A i) → h' x = h x) ∧ ∀ i, 1 ≤ i → i < 91 → h (A i) = none)) := by
  refine zSpec.of (by decide) (Nat.le_of_ble_eq_true rfl) (fun X hZ => ?_)
  show zG X mX10_init B (5, 90, 1771) (0, 0) 0 [(0, .ref a)] [] h
  refine zi_aload_n 1 dX10_init_0 rfl rfl ?_
  refine zc_obj 4 dX10_init_1 tw_72 tw_73 zObjCode rfl rfl rfl ?_
  refine zi_aload_n 5 dX10_init_4 rfl rfl ?_
  refine zi_bipush (v := 8) 7 dX10_init_5 (by decide) rfl ?_
  refine zn_arrQ (n' := (1, 8)) (t0 := 4) (N := 8) 10 dX10_init_7 tw_75 (by decide) rfl (by decide) (by decide) (by decide) rfl rfl rfl rfl (fun t ht => ?_)
  refine zk_h (fun h1 k1 => ?_)
  have c0 := zZ_0 (zX0 k1)
  have p0 := zZ_pre ha ht k1 c0
  refine zi_putfieldF (fs' := [_, _, _, _, _, _, _, _, _, _, _, _, _]) hZ 13 0 dX10_init_10 zcl_X10 tyX10 tyX10_ok nmX10 tw_310 rfl rfl rfl rfl rfl p0 rfl rfl rfl rfl rfl rfl ?_
  refine zk_h (fun h2 k2 => ?_)
  obtain ⟨Z1, a0, m0, t0⟩ := zZ_cp (zZ_0 ha) ha ht k1 c0 k2
  refine zi_iconst (v := 0) 14 dX10_init_13 (by decide) rfl ?_
  refine zi_istore_n (lv' := [(1, _), (0, _)]) 15 dX10_init_14 rfl rfl rfl ?_
  refine l_X10_trays B h X a t (fun hV f TR IT Zb hab htb hTb hIb hfb hFb => ?_) 9 0 h2 (fun _ => none) [] [] (by omega) (by omega) Z1 a0 ((m0 t (by simp)).1.trans (zX0 k1)) rfl rfl (fun j hj => absurd hj (Nat.not_lt_zero _)) (fun j x y hx => by simp at hx)
  refine zi_aload_n 41 dX10_init_40 rfl rfl ?_
  refine zi_bipush (v := 20) 43 dX10_init_41 (by decide) rfl ?_
  refine zn_arrQ (n' := (18, 852)) (t0 := 3) (N := 20) 46 dX10_init_43 tw_96 (by decide) rfl (by decide) (by decide) (by decide) rfl rfl rfl rfl (fun F hF => ?_)
  refine zk_h (fun h3 k3 => ?_)
  have c1 := zZ_0 (zX0 k3)
  have p1 := zZ_pre hab hF k3 c1
  refine zi_putfieldF (fs' := [_, _, _, _, _, _, _, _, _, _, _, _, _]) hZ 49 1 dX10_init_46 zcl_X10 tyX10 tyX10_ok nmX10 tw_311 rfl rfl rfl rfl rfl p1 rfl rfl rfl rfl rfl rfl ?_
  refine zk_h (fun h4 k4 => ?_)
  obtain ⟨Z2, a1, m1, t1⟩ := zZ_cp Zb hab hF k3 c1 k4
  have fF := (m1 F (by simp)).1.trans (zX0 k3)
  have nFa := (m1 F (by simp)).2
  refine zi_aload_n 50 dX10_init_49 rfl rfl ?_
  refine zi_bipush (v := 20) 52 dX10_init_50 (by decide) rfl ?_
  refine zn_arr (mk := fun _ _ => .inr (0, [])) (n' := (19, 872)) (t0 := 0) (N := 20) (a0 := (20, .inl (fun _ => 0))) 54 dX10_init_52 tw_132 rfl rfl (fun _ h => by cases h) (fun _ => rfl) (by decide) (by decide) (Nat.le_of_ble_eq_true rfl) rfl rfl rfl rfl (fun K hK => ?_)
  refine zk_h (fun h5 k5 => ?_)
  have c2 := zZ_0 (zX0 k5)
  have p2 := zZ_pre a1 hK k5 c2
  refine zi_putfieldF (fs' := [_, _, _, _, _, _, _, _, _, _, _, _, _]) hZ 57 2 dX10_init_54 zcl_X10 tyX10 tyX10_ok nmX10 tw_312 rfl rfl rfl rfl rfl p2 rfl rfl rfl rfl rfl rfl ?_
  refine zk_h (fun hS k6 => ?_)
  obtain ⟨Z3, a2, m2, t2⟩ := zZ_cp Z2 a1 hK k5 c2 k6
  have fF2 := t2 _ _ nFa fF
  have fK2 := (m2 K (by simp)).1.trans (zX0 k5)
  have nFK : F ≠ K := zne fF hK
  refine zi_iconst (v := 0) 58 dX10_init_57 (by decide) rfl ?_
  refine zi_istore_n (lv' := [(1, _), (0, _)]) 59 dX10_init_58 rfl rfl rfl ?_
  refine l_X10_fours B h hS X a t F K ((([t] ++ TR ++ IT) ++ [F]) ++ [K]) (by simp) (by simp) nFK (fun hW ff fk M Zc hac hFc hKc hMc hffc hfkc hmc hO => ?_) 21 0 hS _ _ [] (by omega) (by omega) (by rw [List.append_nil]; exact Z3) a2 fF2 fK2 rfl (fun j hj => absurd hj (Nat.not_lt_zero _)) (fun j hj => absurd hj (Nat.not_lt_zero _)) (fun x hx => by simp at hx) (fun x e _ _ hx => hx)
  have n0 := List.nodup_cons.mp Zc.1
  have nta : t ≠ a := fun r => n0.1 (by rw [← r]; simp)
  have nKa : K ≠ a := fun r => n0.1 (by rw [← r]; simp)
  have ntF : t ≠ F := zne htb hF
  have ftS := t2 _ _ nta (t1 _ _ nta htb)
  have ntK : t ≠ K := zne (t1 _ _ nta htb) hK
  have ftc := hO _ _ ntF ntK ftS
  have hTrS : ∀ (j x y : Nat), TR[j]? = some x → IT[j]? = some y → (x ≠ a ∧ x ≠ F ∧ x ≠ K ∧ hS x = some (zO 9 [.ref y, .int (-1), .int 0])) ∧ (y ≠ a ∧ y ≠ F ∧ y ≠ K ∧ hS y = some (zJ B 100 (fun _ => 0))) := fun j x y hx hy => by
    obtain ⟨r1, r2⟩ := hFb j x y hx hy
    have na : x ≠ a := fun r => n0.1 (by rw [← r]; simp [List.mem_of_getElem? hx])
    have nb : y ≠ a := fun r => n0.1 (by rw [← r]; simp [List.mem_of_getElem? hy])
    have s1 := t1 _ _ na r1
    have s2 := t1 _ _ nb r2
    exact ⟨⟨na, zne r1 hF, zne s1 hK, t2 _ _ na s1⟩, nb, zne r2 hF, zne s2 hK, t2 _ _ nb s2⟩
  have hmS : ∀ x ∈ M, x ≠ a := fun x hx r => n0.1 (by rw [← r]; simp [hx])
  refine zi_aload_n 92 dX10_init_91 rfl rfl ?_
  refine zn_new (fs := [.long 0, .long 0, .long 0, .long 0]) (n' := (40, 956)) 95 dX10_init_92 zcl_X4 tyX4 tyX4_ok tw_96 tw_98 tw_55 (by decide +kernel) rfl rfl rfl rfl (fun m hm => ?_)
  refine zk_h (fun h31 k31 => ?_)
  refine zi_dup 96 dX10_init_95 rfl rfl ?_
  refine zc_specialN (n' := (40, 956)) (md' := mX4_init) 99 dX10_init_96 (by decide) zn_X4_init (s_X4_init B h31 m) rfl rfl rfl rfl rfl rfl rfl rfl (zk_n ?_)
  have c10 := zZ_0 (zX0 k31)
  have p10 := zZ_pre hac hm k31 c10
  refine zi_putfieldF (fs' := [_, _, _, _, _, _, _, _, _, _, _, _, _]) hZ 102 3 dX10_init_99 zcl_X10 tyX10 tyX10_ok nmX10 tw_313 rfl rfl rfl rfl rfl p10 rfl rfl rfl rfl rfl rfl ?_
  refine zk_h (fun h33 k33 => ?_)
  obtain ⟨Z11, a10, m10, t10⟩ := zZ_cp Zc hac hm k31 c10 k33
  have f10_t := t10 _ _ nta ftc
  have f10_F := t10 _ _ nFa hFc
  have f10_K := t10 _ _ nKa hKc
  have n10_m := (m10 m (by simp)).2
  have f10_m := (m10 m (by simp)).1.trans (zX0 k31)
  refine zi_aload_n 103 dX10_init_102 rfl rfl ?_
  refine zn_new (fs := [.null, .null, .null, .null]) (n' := (41, 960)) 106 dX10_init_103 zcl_X3 tyX3 tyX3_ok tw_133 tw_134 tw_56 (by decide +kernel) rfl rfl rfl rfl (fun d hd => ?_)
  refine zk_h (fun h34 k34 => ?_)
  refine zi_dup 107 dX10_init_106 rfl rfl ?_
  refine zc_special (n' := (45, 976)) (md' := mX3_init) 110 dX10_init_107 tw_135 zn_X3_init (s_X3_init B h34 d (zX0 k34)) rfl rfl rfl rfl rfl rfl rfl rfl (zk_v fun h35 hp11 => ?_)
  obtain ⟨d1, d2, d3, d4, c11, v_d, v_d1, v_d2, v_d3, v_d4⟩ := hp11
  have p11 := zZ_pre a10 hd k34 c11
  refine zi_putfieldF (fs' := [_, _, _, _, _, _, _, _, _, _, _, _, _]) hZ 113 4 dX10_init_110 zcl_X10 tyX10 tyX10_ok nmX10 tw_314 rfl rfl rfl rfl rfl p11 rfl rfl rfl rfl rfl rfl ?_
  refine zk_h (fun h36 k36 => ?_)
  obtain ⟨Z12, a11, m11, t11⟩ := zZ_cp Z11 a10 hd k34 c11 k36
  have f11_t := t11 _ _ nta f10_t
  have f11_F := t11 _ _ nFa f10_F
  have f11_K := t11 _ _ nKa f10_K
  have f11_m := t11 _ _ n10_m f10_m
  have n11_d := (m11 d (by simp)).2
  have f11_d := (m11 d (by simp)).1.trans (v_d)
  have n11_d1 := (m11 d1 (by simp)).2
  have f11_d1 := (m11 d1 (by simp)).1.trans (v_d1)
  have n11_d2 := (m11 d2 (by simp)).2
  have f11_d2 := (m11 d2 (by simp)).1.trans (v_d2)
  have n11_d3 := (m11 d3 (by simp)).2
  have f11_d3 := (m11 d3 (by simp)).1.trans (v_d3)
  have n11_d4 := (m11 d4 (by simp)).2
  have f11_d4 := (m11 d4 (by simp)).1.trans (v_d4)
  refine zi_aload_n 114 dX10_init_113 rfl rfl ?_
  refine zn_new (fs := [.null, .null, .null]) (n' := (46, 979)) 117 dX10_init_114 zcl_X1 tyX1 tyX1_ok tw_157 tw_158 tw_57 (by decide +kernel) rfl rfl rfl rfl (fun c hc => ?_)
  refine zk_h (fun h37 k37 => ?_)
  refine zi_dup 118 dX10_init_117 rfl rfl ?_
  refine zc_special (n' := (49, 991)) (md' := mX1_init) 121 dX10_init_118 tw_159 zn_X1_init (s_X1_init B h37 c (zX0 k37)) rfl rfl rfl rfl rfl rfl rfl rfl (zk_v fun h38 hp12 => ?_)
  obtain ⟨c1, c2, c3, c12, v_c, v_c1, v_c2, v_c3⟩ := hp12
  have p12 := zZ_pre a11 hc k37 c12
  refine zi_putfieldF (fs' := [_, _, _, _, _, _, _, _, _, _, _, _, _]) hZ 124 5 dX10_init_121 zcl_X10 tyX10 tyX10_ok nmX10 tw_315 rfl rfl rfl rfl rfl p12 rfl rfl rfl rfl rfl rfl ?_
  refine zk_h (fun h39 k39 => ?_)
  obtain ⟨Z13, a12, m12, t12⟩ := zZ_cp Z12 a11 hc k37 c12 k39
  have f12_t := t12 _ _ nta f11_t
  have f12_F := t12 _ _ nFa f11_F
  have f12_K := t12 _ _ nKa f11_K
  have f12_m := t12 _ _ n10_m f11_m
  have f12_d := t12 _ _ n11_d f11_d
  have f12_d1 := t12 _ _ n11_d1 f11_d1
  have f12_d2 := t12 _ _ n11_d2 f11_d2
  have f12_d3 := t12 _ _ n11_d3 f11_d3
  have f12_d4 := t12 _ _ n11_d4 f11_d4
  have n12_c := (m12 c (by simp)).2
  have f12_c := (m12 c (by simp)).1.trans (v_c)
  have n12_c1 := (m12 c1 (by simp)).2
  have f12_c1 := (m12 c1 (by simp)).1.trans (v_c1)
  have n12_c2 := (m12 c2 (by simp)).2
  have f12_c2 := (m12 c2 (by simp)).1.trans (v_c2)
  have n12_c3 := (m12 c3 (by simp)).2
  have f12_c3 := (m12 c3 (by simp)).1.trans (v_c3)
  refine zi_aload_n 125 dX10_init_124 rfl rfl ?_
  refine zn_new (fs := [.null, .null, .null, .null, .null]) (n' := (50, 996)) 128 dX10_init_125 zcl_X5 tyX5 tyX5_ok tw_177 tw_178 tw_58 (by decide +kernel) rfl rfl rfl rfl (fun g hg => ?_)
  refine zk_h (fun h40 k40 => ?_)
  refine zi_dup 129 dX10_init_128 rfl rfl ?_
  refine zc_special (n' := (62, 1043)) (md' := mX5_init) 132 dX10_init_129 tw_179 zn_X5_init (s_X5_init B h40 g (zX0 k40)) rfl rfl rfl rfl rfl rfl rfl rfl (zk_v fun h41 hp13 => ?_)
  obtain ⟨g1, g2, g3, gd, gd1, gd2, gd3, gd4, gc, gc1, gc2, gc3, c13, v_g, v_g1, v_g2, v_g3, v_gd, v_gd1, v_gd2, v_gd3, v_gd4, v_gc, v_gc1, v_gc2, v_gc3⟩ := hp13
  have p13 := zZ_pre a12 hg k40 c13
  refine zi_putfieldF (fs' := [_, _, _, _, _, _, _, _, _, _, _, _, _]) hZ 135 6 dX10_init_132 zcl_X10 tyX10 tyX10_ok nmX10 tw_316 rfl rfl rfl rfl rfl p13 rfl rfl rfl rfl rfl rfl ?_
  refine zk_h (fun h42 k42 => ?_)
  obtain ⟨Z14, a13, m13, t13⟩ := zZ_cp Z13 a12 hg k40 c13 k42
  have f13_t := t13 _ _ nta f12_t
  have f13_F := t13 _ _ nFa f12_F
  have f13_K := t13 _ _ nKa f12_K
  have f13_m := t13 _ _ n10_m f12_m
  have f13_d := t13 _ _ n11_d f12_d
  have f13_d1 := t13 _ _ n11_d1 f12_d1
  have f13_d2 := t13 _ _ n11_d2 f12_d2
  have f13_d3 := t13 _ _ n11_d3 f12_d3
  have f13_d4 := t13 _ _ n11_d4 f12_d4
  have f13_c := t13 _ _ n12_c f12_c
  have f13_c1 := t13 _ _ n12_c1 f12_c1
  have f13_c2 := t13 _ _ n12_c2 f12_c2
  have f13_c3 := t13 _ _ n12_c3 f12_c3
  have n13_g := (m13 g (by simp)).2
  have f13_g := (m13 g (by simp)).1.trans (v_g)
  have n13_g1 := (m13 g1 (by simp)).2
  have f13_g1 := (m13 g1 (by simp)).1.trans (v_g1)
  have n13_g2 := (m13 g2 (by simp)).2
  have f13_g2 := (m13 g2 (by simp)).1.trans (v_g2)
  have n13_g3 := (m13 g3 (by simp)).2
  have f13_g3 := (m13 g3 (by simp)).1.trans (v_g3)
  have n13_gd := (m13 gd (by simp)).2
  have f13_gd := (m13 gd (by simp)).1.trans (v_gd)
  have n13_gd1 := (m13 gd1 (by simp)).2
  have f13_gd1 := (m13 gd1 (by simp)).1.trans (v_gd1)
  have n13_gd2 := (m13 gd2 (by simp)).2
  have f13_gd2 := (m13 gd2 (by simp)).1.trans (v_gd2)
  have n13_gd3 := (m13 gd3 (by simp)).2
  have f13_gd3 := (m13 gd3 (by simp)).1.trans (v_gd3)
  have n13_gd4 := (m13 gd4 (by simp)).2
  have f13_gd4 := (m13 gd4 (by simp)).1.trans (v_gd4)
  have n13_gc := (m13 gc (by simp)).2
  have f13_gc := (m13 gc (by simp)).1.trans (v_gc)
  have n13_gc1 := (m13 gc1 (by simp)).2
  have f13_gc1 := (m13 gc1 (by simp)).1.trans (v_gc1)
  have n13_gc2 := (m13 gc2 (by simp)).2
  have f13_gc2 := (m13 gc2 (by simp)).1.trans (v_gc2)
  have n13_gc3 := (m13 gc3 (by simp)).2
  have f13_gc3 := (m13 gc3 (by simp)).1.trans (v_gc3)
  refine zi_aload_n 136 dX10_init_135 rfl rfl ?_
  refine zn_new (fs := [.null, .null, .null, .null, .null]) (n' := (63, 1048)) 139 dX10_init_136 zcl_X7 tyX7 tyX7_ok tw_207 tw_208 tw_59 (by decide +kernel) rfl rfl rfl rfl (fun p hp => ?_)
  refine zk_h (fun h43 k43 => ?_)
  refine zi_dup 140 dX10_init_139 rfl rfl ?_
  refine zc_special (n' := (80, 1116)) (md' := mX7_init) 143 dX10_init_140 tw_209 zn_X7_init (s_X7_init B h43 p (zX0 k43)) rfl rfl rfl rfl rfl rfl rfl rfl (zk_v fun h44 hp14 => ?_)
  obtain ⟨p1, p2, p3, p4, pg, pg1, pg2, pg3, pgd, pgd1, pgd2, pgd3, pgd4, pgc, pgc1, pgc2, pgc3, c14, v_p, v_p1, v_p2, v_p3, v_p4, v_pg, v_pg1, v_pg2, v_pg3, v_pgd, v_pgd1, v_pgd2, v_pgd3, v_pgd4, v_pgc, v_pgc1, v_pgc2, v_pgc3⟩ := hp14
  have p14 := zZ_pre a13 hp k43 c14
  refine zi_putfieldF (fs' := [_, _, _, _, _, _, _, _, _, _, _, _, _]) hZ 146 7 dX10_init_143 zcl_X10 tyX10 tyX10_ok nmX10 tw_317 rfl rfl rfl rfl rfl p14 rfl rfl rfl rfl rfl rfl ?_
  refine zk_h (fun h45 k45 => ?_)
  obtain ⟨Z15, a14, m14, t14⟩ := zZ_cp Z14 a13 hp k43 c14 k45
  have f14_t := t14 _ _ nta f13_t
  have f14_F := t14 _ _ nFa f13_F
  have f14_K := t14 _ _ nKa f13_K
  have f14_m := t14 _ _ n10_m f13_m
  have f14_d := t14 _ _ n11_d f13_d
  have f14_d1 := t14 _ _ n11_d1 f13_d1
  have f14_d2 := t14 _ _ n11_d2 f13_d2
  have f14_d3 := t14 _ _ n11_d3 f13_d3
  have f14_d4 := t14 _ _ n11_d4 f13_d4
  have f14_c := t14 _ _ n12_c f13_c
  have f14_c1 := t14 _ _ n12_c1 f13_c1
  have f14_c2 := t14 _ _ n12_c2 f13_c2
  have f14_c3 := t14 _ _ n12_c3 f13_c3
  have f14_g := t14 _ _ n13_g f13_g
  have f14_g1 := t14 _ _ n13_g1 f13_g1
  have f14_g2 := t14 _ _ n13_g2 f13_g2
  have f14_g3 := t14 _ _ n13_g3 f13_g3
  have f14_gd := t14 _ _ n13_gd f13_gd
  have f14_gd1 := t14 _ _ n13_gd1 f13_gd1
  have f14_gd2 := t14 _ _ n13_gd2 f13_gd2
  have f14_gd3 := t14 _ _ n13_gd3 f13_gd3
  have f14_gd4 := t14 _ _ n13_gd4 f13_gd4
  have f14_gc := t14 _ _ n13_gc f13_gc
  have f14_gc1 := t14 _ _ n13_gc1 f13_gc1
  have f14_gc2 := t14 _ _ n13_gc2 f13_gc2
  have f14_gc3 := t14 _ _ n13_gc3 f13_gc3
  have n14_p := (m14 p (by simp)).2
  have f14_p := (m14 p (by simp)).1.trans (v_p)
  have n14_p1 := (m14 p1 (by simp)).2
  have f14_p1 := (m14 p1 (by simp)).1.trans (v_p1)
  have n14_p2 := (m14 p2 (by simp)).2
  have f14_p2 := (m14 p2 (by simp)).1.trans (v_p2)
  have n14_p3 := (m14 p3 (by simp)).2
  have f14_p3 := (m14 p3 (by simp)).1.trans (v_p3)
  have n14_p4 := (m14 p4 (by simp)).2
  have f14_p4 := (m14 p4 (by simp)).1.trans (v_p4)
  have n14_pg := (m14 pg (by simp)).2
  have f14_pg := (m14 pg (by simp)).1.trans (v_pg)
  have n14_pg1 := (m14 pg1 (by simp)).2
  have f14_pg1 := (m14 pg1 (by simp)).1.trans (v_pg1)
  have n14_pg2 := (m14 pg2 (by simp)).2
  have f14_pg2 := (m14 pg2 (by simp)).1.trans (v_pg2)
  have n14_pg3 := (m14 pg3 (by simp)).2
  have f14_pg3 := (m14 pg3 (by simp)).1.trans (v_pg3)
  have n14_pgd := (m14 pgd (by simp)).2
  have f14_pgd := (m14 pgd (by simp)).1.trans (v_pgd)
  have n14_pgd1 := (m14 pgd1 (by simp)).2
  have f14_pgd1 := (m14 pgd1 (by simp)).1.trans (v_pgd1)
  have n14_pgd2 := (m14 pgd2 (by simp)).2
  have f14_pgd2 := (m14 pgd2 (by simp)).1.trans (v_pgd2)
  have n14_pgd3 := (m14 pgd3 (by simp)).2
  have f14_pgd3 := (m14 pgd3 (by simp)).1.trans (v_pgd3)
  have n14_pgd4 := (m14 pgd4 (by simp)).2
  have f14_pgd4 := (m14 pgd4 (by simp)).1.trans (v_pgd4)
  have n14_pgc := (m14 pgc (by simp)).2
  have f14_pgc := (m14 pgc (by simp)).1.trans (v_pgc)
  have n14_pgc1 := (m14 pgc1 (by simp)).2
  have f14_pgc1 := (m14 pgc1 (by simp)).1.trans (v_pgc1)
  have n14_pgc2 := (m14 pgc2 (by simp)).2
  have f14_pgc2 := (m14 pgc2 (by simp)).1.trans (v_pgc2)
  have n14_pgc3 := (m14 pgc3 (by simp)).2
  have f14_pgc3 := (m14 pgc3 (by simp)).1.trans (v_pgc3)
  refine zi_aload_n 147 dX10_init_146 rfl rfl ?_
  refine zn_new (fs := [.null, .null, .int 0]) (n' := (81, 1119)) 150 dX10_init_147 zcl_X6 tyX6 tyX6_ok tw_234 tw_235 tw_60 (by decide +kernel) rfl rfl rfl rfl (fun l hl => ?_)
  refine zk_h (fun h46 k46 => ?_)
  refine zi_dup 151 dX10_init_150 rfl rfl ?_
  refine zc_special (n' := (83, 1724)) (md' := mX6_init) 154 dX10_init_151 tw_236 zn_X6_init (s_X6_init B h46 l (zX0 k46)) rfl rfl rfl rfl rfl rfl rfl rfl (zk_v fun h47 hp15 => ?_)
  obtain ⟨l1, l2, ru, c15, v_l, v_l1, v_l2, hru⟩ := hp15
  have p15 := zZ_pre a14 hl k46 c15
  refine zi_putfieldF (fs' := [_, _, _, _, _, _, _, _, _, _, _, _, _]) hZ 157 8 dX10_init_154 zcl_X10 tyX10 tyX10_ok nmX10 tw_318 rfl rfl rfl rfl rfl p15 rfl rfl rfl rfl rfl rfl ?_
  refine zk_h (fun h48 k48 => ?_)
  obtain ⟨Z16, a15, m15, t15⟩ := zZ_cp Z15 a14 hl k46 c15 k48
  have f15_t := t15 _ _ nta f14_t
  have f15_F := t15 _ _ nFa f14_F
  have f15_K := t15 _ _ nKa f14_K
  have f15_m := t15 _ _ n10_m f14_m
  have f15_d := t15 _ _ n11_d f14_d
  have f15_d1 := t15 _ _ n11_d1 f14_d1
  have f15_d2 := t15 _ _ n11_d2 f14_d2
  have f15_d3 := t15 _ _ n11_d3 f14_d3
  have f15_d4 := t15 _ _ n11_d4 f14_d4
  have f15_c := t15 _ _ n12_c f14_c
  have f15_c1 := t15 _ _ n12_c1 f14_c1
  have f15_c2 := t15 _ _ n12_c2 f14_c2
  have f15_c3 := t15 _ _ n12_c3 f14_c3
  have f15_g := t15 _ _ n13_g f14_g
  have f15_g1 := t15 _ _ n13_g1 f14_g1
  have f15_g2 := t15 _ _ n13_g2 f14_g2
  have f15_g3 := t15 _ _ n13_g3 f14_g3
  have f15_gd := t15 _ _ n13_gd f14_gd
  have f15_gd1 := t15 _ _ n13_gd1 f14_gd1
  have f15_gd2 := t15 _ _ n13_gd2 f14_gd2
  have f15_gd3 := t15 _ _ n13_gd3 f14_gd3
  have f15_gd4 := t15 _ _ n13_gd4 f14_gd4
  have f15_gc := t15 _ _ n13_gc f14_gc
  have f15_gc1 := t15 _ _ n13_gc1 f14_gc1
  have f15_gc2 := t15 _ _ n13_gc2 f14_gc2
  have f15_gc3 := t15 _ _ n13_gc3 f14_gc3
  have f15_p := t15 _ _ n14_p f14_p
  have f15_p1 := t15 _ _ n14_p1 f14_p1
  have f15_p2 := t15 _ _ n14_p2 f14_p2
  have f15_p3 := t15 _ _ n14_p3 f14_p3
  have f15_p4 := t15 _ _ n14_p4 f14_p4
  have f15_pg := t15 _ _ n14_pg f14_pg
  have f15_pg1 := t15 _ _ n14_pg1 f14_pg1
  have f15_pg2 := t15 _ _ n14_pg2 f14_pg2
  have f15_pg3 := t15 _ _ n14_pg3 f14_pg3
  have f15_pgd := t15 _ _ n14_pgd f14_pgd
  have f15_pgd1 := t15 _ _ n14_pgd1 f14_pgd1
  have f15_pgd2 := t15 _ _ n14_pgd2 f14_pgd2
  have f15_pgd3 := t15 _ _ n14_pgd3 f14_pgd3
  have f15_pgd4 := t15 _ _ n14_pgd4 f14_pgd4
  have f15_pgc := t15 _ _ n14_pgc f14_pgc
  have f15_pgc1 := t15 _ _ n14_pgc1 f14_pgc1
  have f15_pgc2 := t15 _ _ n14_pgc2 f14_pgc2
  have f15_pgc3 := t15 _ _ n14_pgc3 f14_pgc3
  have n15_l := (m15 l (by simp)).2
  have f15_l := (m15 l (by simp)).1.trans (v_l)
  have n15_l1 := (m15 l1 (by simp)).2
  have f15_l1 := (m15 l1 (by simp)).1.trans (v_l1)
  have n15_l2 := (m15 l2 (by simp)).2
  have f15_l2 := (m15 l2 (by simp)).1.trans (v_l2)
  refine zi_aload_n 158 dX10_init_157 rfl rfl ?_
  refine zn_new (fs := [.long 0, .null]) (n' := (84, 1726)) 161 dX10_init_158 zcl_X8 tyX8 tyX8_ok tw_253 tw_254 tw_61 (by decide +kernel) rfl rfl rfl rfl (fun b hb => ?_)
  refine zk_h (fun h49 k49 => ?_)
  refine zi_dup 162 dX10_init_161 rfl rfl ?_
  refine zc_special (n' := (85, 1735)) (md' := mX8_init) 165 dX10_init_162 tw_255 zn_X8_init (s_X8_init B h49 b (zX0 k49)) rfl rfl rfl rfl rfl rfl rfl rfl (zk_v fun h50 hp16 => ?_)
  obtain ⟨b1, c16, v_b, v_b1⟩ := hp16
  have p16 := zZ_pre a15 hb k49 c16
  refine zi_putfieldF (fs' := [_, _, _, _, _, _, _, _, _, _, _, _, _]) hZ 168 9 dX10_init_165 zcl_X10 tyX10 tyX10_ok nmX10 tw_319 rfl rfl rfl rfl rfl p16 rfl rfl rfl rfl rfl rfl ?_
  refine zk_h (fun h51 k51 => ?_)
  obtain ⟨Z17, a16, m16, t16⟩ := zZ_cp Z16 a15 hb k49 c16 k51
  have f16_t := t16 _ _ nta f15_t
  have f16_F := t16 _ _ nFa f15_F
  have f16_K := t16 _ _ nKa f15_K
  have f16_m := t16 _ _ n10_m f15_m
  have f16_d := t16 _ _ n11_d f15_d
  have f16_d1 := t16 _ _ n11_d1 f15_d1
  have f16_d2 := t16 _ _ n11_d2 f15_d2
  have f16_d3 := t16 _ _ n11_d3 f15_d3
  have f16_d4 := t16 _ _ n11_d4 f15_d4
  have f16_c := t16 _ _ n12_c f15_c
  have f16_c1 := t16 _ _ n12_c1 f15_c1
  have f16_c2 := t16 _ _ n12_c2 f15_c2
  have f16_c3 := t16 _ _ n12_c3 f15_c3
  have f16_g := t16 _ _ n13_g f15_g
  have f16_g1 := t16 _ _ n13_g1 f15_g1
  have f16_g2 := t16 _ _ n13_g2 f15_g2
  have f16_g3 := t16 _ _ n13_g3 f15_g3
  have f16_gd := t16 _ _ n13_gd f15_gd
  have f16_gd1 := t16 _ _ n13_gd1 f15_gd1
  have f16_gd2 := t16 _ _ n13_gd2 f15_gd2
  have f16_gd3 := t16 _ _ n13_gd3 f15_gd3
  have f16_gd4 := t16 _ _ n13_gd4 f15_gd4
  have f16_gc := t16 _ _ n13_gc f15_gc
  have f16_gc1 := t16 _ _ n13_gc1 f15_gc1
  have f16_gc2 := t16 _ _ n13_gc2 f15_gc2
  have f16_gc3 := t16 _ _ n13_gc3 f15_gc3
  have f16_p := t16 _ _ n14_p f15_p
  have f16_p1 := t16 _ _ n14_p1 f15_p1
  have f16_p2 := t16 _ _ n14_p2 f15_p2
  have f16_p3 := t16 _ _ n14_p3 f15_p3
  have f16_p4 := t16 _ _ n14_p4 f15_p4
  have f16_pg := t16 _ _ n14_pg f15_pg
  have f16_pg1 := t16 _ _ n14_pg1 f15_pg1
  have f16_pg2 := t16 _ _ n14_pg2 f15_pg2
  have f16_pg3 := t16 _ _ n14_pg3 f15_pg3
  have f16_pgd := t16 _ _ n14_pgd f15_pgd
  have f16_pgd1 := t16 _ _ n14_pgd1 f15_pgd1
  have f16_pgd2 := t16 _ _ n14_pgd2 f15_pgd2
  have f16_pgd3 := t16 _ _ n14_pgd3 f15_pgd3
  have f16_pgd4 := t16 _ _ n14_pgd4 f15_pgd4
  have f16_pgc := t16 _ _ n14_pgc f15_pgc
  have f16_pgc1 := t16 _ _ n14_pgc1 f15_pgc1
  have f16_pgc2 := t16 _ _ n14_pgc2 f15_pgc2
  have f16_pgc3 := t16 _ _ n14_pgc3 f15_pgc3
  have f16_l := t16 _ _ n15_l f15_l
  have f16_l1 := t16 _ _ n15_l1 f15_l1
  have f16_l2 := t16 _ _ n15_l2 f15_l2
  have n16_b := (m16 b (by simp)).2
  have f16_b := (m16 b (by simp)).1.trans (v_b)
  have n16_b1 := (m16 b1 (by simp)).2
  have f16_b1 := (m16 b1 (by simp)).1.trans (v_b1)
  refine zi_aload_n 169 dX10_init_168 rfl rfl ?_
  refine zn_new (fs := [.null, .int 0, .int 0, .int 0, .int 0, .int 0, .int 0]) (n' := (86, 1742)) 172 dX10_init_169 zcl_X2 tyX2 tyX2_ok tw_267 tw_268 tw_62 (by decide +kernel) rfl rfl rfl rfl (fun e he => ?_)
  refine zk_h (fun h52 k52 => ?_)
  refine zi_dup 173 dX10_init_172 rfl rfl ?_
  refine zc_special (n' := (88, 1753)) (md' := mX2_init) 176 dX10_init_173 tw_269 zn_X2_init (s_X2_init B h52 e (zX0 k52)) rfl rfl rfl rfl rfl rfl rfl rfl (zk_v fun h53 hp17 => ?_)
  obtain ⟨e1, e2, c17, v_e, v_e1, v_e2⟩ := hp17
  have p17 := zZ_pre a16 he k52 c17
  refine zi_putfieldF (fs' := [_, _, _, _, _, _, _, _, _, _, _, _, _]) hZ 179 10 dX10_init_176 zcl_X10 tyX10 tyX10_ok nmX10 tw_320 rfl rfl rfl rfl rfl p17 rfl rfl rfl rfl rfl rfl ?_
  refine zk_h (fun h54 k54 => ?_)
  obtain ⟨Z18, a17, m17, t17⟩ := zZ_cp Z17 a16 he k52 c17 k54
  have f17_t := t17 _ _ nta f16_t
  have f17_F := t17 _ _ nFa f16_F
  have f17_K := t17 _ _ nKa f16_K
  have f17_m := t17 _ _ n10_m f16_m
  have f17_d := t17 _ _ n11_d f16_d
  have f17_d1 := t17 _ _ n11_d1 f16_d1
  have f17_d2 := t17 _ _ n11_d2 f16_d2
  have f17_d3 := t17 _ _ n11_d3 f16_d3
  have f17_d4 := t17 _ _ n11_d4 f16_d4
  have f17_c := t17 _ _ n12_c f16_c
  have f17_c1 := t17 _ _ n12_c1 f16_c1
  have f17_c2 := t17 _ _ n12_c2 f16_c2
  have f17_c3 := t17 _ _ n12_c3 f16_c3
  have f17_g := t17 _ _ n13_g f16_g
  have f17_g1 := t17 _ _ n13_g1 f16_g1
  have f17_g2 := t17 _ _ n13_g2 f16_g2
  have f17_g3 := t17 _ _ n13_g3 f16_g3
  have f17_gd := t17 _ _ n13_gd f16_gd
  have f17_gd1 := t17 _ _ n13_gd1 f16_gd1
  have f17_gd2 := t17 _ _ n13_gd2 f16_gd2
  have f17_gd3 := t17 _ _ n13_gd3 f16_gd3
  have f17_gd4 := t17 _ _ n13_gd4 f16_gd4
  have f17_gc := t17 _ _ n13_gc f16_gc
  have f17_gc1 := t17 _ _ n13_gc1 f16_gc1
  have f17_gc2 := t17 _ _ n13_gc2 f16_gc2
  have f17_gc3 := t17 _ _ n13_gc3 f16_gc3
  have f17_p := t17 _ _ n14_p f16_p
  have f17_p1 := t17 _ _ n14_p1 f16_p1
  have f17_p2 := t17 _ _ n14_p2 f16_p2
  have f17_p3 := t17 _ _ n14_p3 f16_p3
  have f17_p4 := t17 _ _ n14_p4 f16_p4
  have f17_pg := t17 _ _ n14_pg f16_pg
  have f17_pg1 := t17 _ _ n14_pg1 f16_pg1
  have f17_pg2 := t17 _ _ n14_pg2 f16_pg2
  have f17_pg3 := t17 _ _ n14_pg3 f16_pg3
  have f17_pgd := t17 _ _ n14_pgd f16_pgd
  have f17_pgd1 := t17 _ _ n14_pgd1 f16_pgd1
  have f17_pgd2 := t17 _ _ n14_pgd2 f16_pgd2
  have f17_pgd3 := t17 _ _ n14_pgd3 f16_pgd3
  have f17_pgd4 := t17 _ _ n14_pgd4 f16_pgd4
  have f17_pgc := t17 _ _ n14_pgc f16_pgc
  have f17_pgc1 := t17 _ _ n14_pgc1 f16_pgc1
  have f17_pgc2 := t17 _ _ n14_pgc2 f16_pgc2
  have f17_pgc3 := t17 _ _ n14_pgc3 f16_pgc3
  have f17_l := t17 _ _ n15_l f16_l
  have f17_l1 := t17 _ _ n15_l1 f16_l1
  have f17_l2 := t17 _ _ n15_l2 f16_l2
  have f17_b := t17 _ _ n16_b f16_b
  have f17_b1 := t17 _ _ n16_b1 f16_b1
  have n17_e := (m17 e (by simp)).2
  have f17_e := (m17 e (by simp)).1.trans (v_e)
  have n17_e1 := (m17 e1 (by simp)).2
  have f17_e1 := (m17 e1 (by simp)).1.trans (v_e1)
  have n17_e2 := (m17 e2 (by simp)).2
  have f17_e2 := (m17 e2 (by simp)).1.trans (v_e2)
  refine zi_aload_n 180 dX10_init_179 rfl rfl ?_
  refine zn_new (fs := [.null, .int 0]) (n' := (89, 1755)) 183 dX10_init_180 zcl_X0 tyX0 tyX0_ok tw_297 tw_298 tw_63 (by decide +kernel) rfl rfl rfl rfl (fun k hk => ?_)
  refine zk_h (fun h55 k55 => ?_)
  refine zi_dup 184 dX10_init_183 rfl rfl ?_
  refine zc_special (n' := (90, 1771)) (md' := mX0_init) 187 dX10_init_184 tw_299 zn_X0_init (s_X0_init B h55 k (zX0 k55)) rfl rfl rfl rfl rfl rfl rfl rfl (zk_v fun h56 hp18 => ?_)
  obtain ⟨k1, c18, v_k, v_k1⟩ := hp18
  have p18 := zZ_pre a17 hk k55 c18
  refine zi_putfieldF (fs' := [_, _, _, _, _, _, _, _, _, _, _, _, _]) hZ 190 11 dX10_init_187 zcl_X10 tyX10 tyX10_ok nmX10 tw_321 rfl rfl rfl rfl rfl p18 rfl rfl rfl rfl rfl rfl ?_
  refine zk_h (fun h57 k57 => ?_)
  obtain ⟨Z19, a18, m18, t18⟩ := zZ_cp Z18 a17 hk k55 c18 k57
  have f18_t := t18 _ _ nta f17_t
  have f18_F := t18 _ _ nFa f17_F
  have f18_K := t18 _ _ nKa f17_K
  have f18_m := t18 _ _ n10_m f17_m
  have f18_d := t18 _ _ n11_d f17_d
  have f18_d1 := t18 _ _ n11_d1 f17_d1
  have f18_d2 := t18 _ _ n11_d2 f17_d2
  have f18_d3 := t18 _ _ n11_d3 f17_d3
  have f18_d4 := t18 _ _ n11_d4 f17_d4
  have f18_c := t18 _ _ n12_c f17_c
  have f18_c1 := t18 _ _ n12_c1 f17_c1
  have f18_c2 := t18 _ _ n12_c2 f17_c2
  have f18_c3 := t18 _ _ n12_c3 f17_c3
  have f18_g := t18 _ _ n13_g f17_g
  have f18_g1 := t18 _ _ n13_g1 f17_g1
  have f18_g2 := t18 _ _ n13_g2 f17_g2
  have f18_g3 := t18 _ _ n13_g3 f17_g3
  have f18_gd := t18 _ _ n13_gd f17_gd
  have f18_gd1 := t18 _ _ n13_gd1 f17_gd1
  have f18_gd2 := t18 _ _ n13_gd2 f17_gd2
  have f18_gd3 := t18 _ _ n13_gd3 f17_gd3
  have f18_gd4 := t18 _ _ n13_gd4 f17_gd4
  have f18_gc := t18 _ _ n13_gc f17_gc
  have f18_gc1 := t18 _ _ n13_gc1 f17_gc1
  have f18_gc2 := t18 _ _ n13_gc2 f17_gc2
  have f18_gc3 := t18 _ _ n13_gc3 f17_gc3
  have f18_p := t18 _ _ n14_p f17_p
  have f18_p1 := t18 _ _ n14_p1 f17_p1
  have f18_p2 := t18 _ _ n14_p2 f17_p2
  have f18_p3 := t18 _ _ n14_p3 f17_p3
  have f18_p4 := t18 _ _ n14_p4 f17_p4
  have f18_pg := t18 _ _ n14_pg f17_pg
  have f18_pg1 := t18 _ _ n14_pg1 f17_pg1
  have f18_pg2 := t18 _ _ n14_pg2 f17_pg2
  have f18_pg3 := t18 _ _ n14_pg3 f17_pg3
  have f18_pgd := t18 _ _ n14_pgd f17_pgd
  have f18_pgd1 := t18 _ _ n14_pgd1 f17_pgd1
  have f18_pgd2 := t18 _ _ n14_pgd2 f17_pgd2
  have f18_pgd3 := t18 _ _ n14_pgd3 f17_pgd3
  have f18_pgd4 := t18 _ _ n14_pgd4 f17_pgd4
  have f18_pgc := t18 _ _ n14_pgc f17_pgc
  have f18_pgc1 := t18 _ _ n14_pgc1 f17_pgc1
  have f18_pgc2 := t18 _ _ n14_pgc2 f17_pgc2
  have f18_pgc3 := t18 _ _ n14_pgc3 f17_pgc3
  have f18_l := t18 _ _ n15_l f17_l
  have f18_l1 := t18 _ _ n15_l1 f17_l1
  have f18_l2 := t18 _ _ n15_l2 f17_l2
  have f18_b := t18 _ _ n16_b f17_b
  have f18_b1 := t18 _ _ n16_b1 f17_b1
  have f18_e := t18 _ _ n17_e f17_e
  have f18_e1 := t18 _ _ n17_e1 f17_e1
  have f18_e2 := t18 _ _ n17_e2 f17_e2
  have n18_k := (m18 k (by simp)).2
  have f18_k := (m18 k (by simp)).1.trans (v_k)
  have n18_k1 := (m18 k1 (by simp)).2
  have f18_k1 := (m18 k1 (by simp)).1.trans (v_k1)
  refine zi_aload_n 191 dX10_init_190 rfl rfl ?_
  refine zi_iconst (v := 0) 192 dX10_init_191 (by decide) rfl ?_
  refine zi_putfield (fs' := [_, _, _, _, _, _, _, _, _, _, _, _, _]) 195 12 dX10_init_192 zcl_X10 tyX10 tyX10_ok nmX10 tw_322 rfl rfl rfl a18 rfl rfl rfl rfl rfl rfl ?_
  refine zk_h (fun h9 k99 => ?_)
  have Z99 := zZ_w Z19 List.mem_cons_self k99
  have a99 := zX0 k99
  have old9 := a99
  have G10 : ∀ x e, x ≠ a → hW x = some e → hW x = some e := fun x e n hx => hx
  have G11 : ∀ x e, x ≠ a → hW x = some e → h33 x = some e := fun x e n hx => t10 x e n (G10 x e n hx)
  have G12 : ∀ x e, x ≠ a → hW x = some e → h36 x = some e := fun x e n hx => t11 x e n (G11 x e n hx)
  have G13 : ∀ x e, x ≠ a → hW x = some e → h39 x = some e := fun x e n hx => t12 x e n (G12 x e n hx)
  have G14 : ∀ x e, x ≠ a → hW x = some e → h42 x = some e := fun x e n hx => t13 x e n (G13 x e n hx)
  have G15 : ∀ x e, x ≠ a → hW x = some e → h45 x = some e := fun x e n hx => t14 x e n (G14 x e n hx)
  have G16 : ∀ x e, x ≠ a → hW x = some e → h48 x = some e := fun x e n hx => t15 x e n (G15 x e n hx)
  have G17 : ∀ x e, x ≠ a → hW x = some e → h51 x = some e := fun x e n hx => t16 x e n (G16 x e n hx)
  have G18 : ∀ x e, x ≠ a → hW x = some e → h54 x = some e := fun x e n hx => t17 x e n (G17 x e n hx)
  have G19 : ∀ x e, x ≠ a → hW x = some e → h57 x = some e := fun x e n hx => t18 x e n (G18 x e n hx)
  have old : ∀ x e, x ≠ a → hS x = some e → x ≠ F → x ≠ K → h9 x = some e := fun x e n hx n1 n2 => zX1 k99 n (G19 x e n (hO x e n1 n2 hx))
  have hm9 : ∀ x ∈ M, h9 x = some (zFo z0) := fun x hx => zX1 k99 (hmS x hx) (G19 x _ (hmS x hx) (hmc x hx))
  have hTr9 : trF h9 B TR IT := fun j x y hx hy => by
    obtain ⟨⟨q1, q2, q3, q4⟩, q5, q6, q7, q8⟩ := hTrS j x y hx hy
    exact ⟨old x _ q1 q4 q2 q3, old y _ q5 q8 q6 q7⟩
  exact zr_void hZ dX10_init_195 rfl ⟨rfl, fin10 (TR := TR) (IT := IT) (M := M) (ru := ru) Z99 a99 (zX1 k99 nta f18_t) (zX1 k99 nFa f18_F) (zX1 k99 nKa f18_K) hTb hIb hMc hfb hffc hfkc hTr9 hm9 hru (zX1 k99 n11_d f18_d) (zX1 k99 n12_c f18_c) (zX1 k99 n13_g f18_g) (zX1 k99 n13_gd f18_gd) (zX1 k99 n13_gc f18_gc) (zX1 k99 n14_p f18_p) (zX1 k99 n14_pg f18_pg) (zX1 k99 n14_pgd f18_pgd) (zX1 k99 n14_pgc f18_pgc) (zX1 k99 n15_l f18_l) (zX1 k99 n15_l2 f18_l2) (zX1 k99 n16_b f18_b) (zX1 k99 n16_b1 f18_b1) (zX1 k99 n17_e f18_e) (zX1 k99 n17_e1 f18_e1) (zX1 k99 n17_e2 f18_e2) (zX1 k99 n18_k f18_k) (zX1 k99 n18_k1 f18_k1) (zX1 k99 n10_m f18_m) (zX1 k99 n11_d1 f18_d1) (zX1 k99 n11_d2 f18_d2) (zX1 k99 n11_d3 f18_d3) (zX1 k99 n11_d4 f18_d4) (zX1 k99 n12_c1 f18_c1) (zX1 k99 n12_c2 f18_c2) (zX1 k99 n12_c3 f18_c3) (zX1 k99 n13_g1 f18_g1) (zX1 k99 n13_g2 f18_g2) (zX1 k99 n13_g3 f18_g3) (zX1 k99 n13_gd1 f18_gd1) (zX1 k99 n13_gd2 f18_gd2) (zX1 k99 n13_gd3 f18_gd3) (zX1 k99 n13_gd4 f18_gd4) (zX1 k99 n13_gc1 f18_gc1) (zX1 k99 n13_gc2 f18_gc2) (zX1 k99 n13_gc3 f18_gc3) (zX1 k99 n14_p1 f18_p1) (zX1 k99 n14_p2 f18_p2) (zX1 k99 n14_p3 f18_p3) (zX1 k99 n14_p4 f18_p4) (zX1 k99 n14_pg1 f18_pg1) (zX1 k99 n14_pg2 f18_pg2) (zX1 k99 n14_pg3 f18_pg3) (zX1 k99 n14_pgd1 f18_pgd1) (zX1 k99 n14_pgd2 f18_pgd2) (zX1 k99 n14_pgd3 f18_pgd3) (zX1 k99 n14_pgd4 f18_pgd4) (zX1 k99 n14_pgc1 f18_pgc1) (zX1 k99 n14_pgc2 f18_pgc2) (zX1 k99 n14_pgc3 f18_pgc3) (zX1 k99 n15_l1 f18_l1)⟩
