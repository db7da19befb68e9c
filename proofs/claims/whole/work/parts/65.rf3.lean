/-! the reference: quotients -/
theorem eWh {u n : Int} : u - 2 * n * ((u + n) / (2 * n)) = u - zE u n * n := by
  unfold zE
  rw [Int.mul_assoc 2 n, Int.mul_comm n, Int.mul_assoc 2 _ n]
theorem eHf {u n : Int} : u - n * (2 * (u / (2 * n)) + 1) = u - zH u n * n := by
  unfold zH
  rw [Int.mul_comm n]
theorem eGc {P Q : i4} {s : Int32} : Nat.gcd (Nat.gcd (Nat.gcd (Nat.gcd (i4n Q).natAbs (dvU P Q s).1.natAbs) (dvU P Q s).2.1.natAbs) (dvU P Q s).2.2.1.natAbs) (dvU P Q s).2.2.2.natAbs = dvG P Q s := by
  unfold dvG g4
  generalize (dvU P Q s).1.natAbs = a
  generalize (dvU P Q s).2.1.natAbs = b
  generalize (dvU P Q s).2.2.1.natAbs = c
  generalize (dvU P Q s).2.2.2.natAbs = d
  generalize (i4n Q).natAbs = n
  ac_rfl
theorem dv_dd {P Q : i4} {s : Int32} : ((dvG P Q s : Nat) : Int) ∣ (dvU P Q s).1 ∧ ((dvG P Q s : Nat) : Int) ∣ (dvU P Q s).2.1 ∧ ((dvG P Q s : Nat) : Int) ∣ (dvU P Q s).2.2.1 ∧ ((dvG P Q s : Nat) : Int) ∣ (dvU P Q s).2.2.2 := by
  obtain ⟨-, h1, h2, h3, h4⟩ := @dv_g P Q s
  exact ⟨⟨_, h1.symm⟩, ⟨_, h2.symm⟩, ⟨_, h3.symm⟩, ⟨_, h4.symm⟩⟩
theorem dv_TE {P Q : i4} {s : Int32} (h : ¬ i4S (dvu P Q s) (i4H (dvu P Q s) (dvn P Q s)) (dvn P Q s) < i4S (dvu P Q s) (i4E (dvu P Q s) (dvn P Q s)) (dvn P Q s)) : dvT P Q s = i4E (dvu P Q s) (dvn P Q s) := if_neg h
theorem dv_TH {P Q : i4} {s : Int32} (h : i4S (dvu P Q s) (i4H (dvu P Q s) (dvn P Q s)) (dvn P Q s) < i4S (dvu P Q s) (i4E (dvu P Q s) (dvn P Q s)) (dvn P Q s)) : dvT P Q s = i4H (dvu P Q s) (dvn P Q s) := if_pos h
theorem u4 {f : Nat → Int64} {a i : Nat} {w x y z : Int64} (h : i < a ∨ a + 4 ≤ i) : vp_updL (vp_updL (vp_updL (vp_updL f a w) (a + 1) x) (a + 2) y) (a + 3) z i = f i := p4_o (w, x, y, z) h

set_option maxHeartbeats 8000000 in
set_option maxRecDepth 100000 in
theorem s_X11_divide0 (B : zBB) (h : zHp) (D : Nat → Nat) (hD : zInj D) (m : mS) (M : rM B D m h) (P Q : i4) (ok : dvOK P Q) (hP : ro (wR m) 0 = z4i P) (hQ : ro (wR m) 4 = z4i Q) : zSpec mX11_divide B (2, 0, 0) [.ref (D 0), .int 0] h (zPv (fun h' => ∃ R' : Nat → Int64, rN B D (uR m R') h h' ∧ ro R' 8 = z4i (dvT P Q 0) ∧ ro R' 12 = z4i (dvR P Q 0) ∧ ∀ i, (i < 8 ∨ 20 ≤ i) → R' i = wR m i)) := by
  refine zSpec.of (by decide) (Nat.le_of_ble_eq_true rfl) (fun X hZ => ?_)
  show zG X mX11_divide B (2, 0, 0) (0, 0) 0 [(0, .ref (D 0)), (1, .int 0)] [] h
  have N0 := rN_r M
  obtain ⟨oP, oQ, q0, -⟩ := id ok
  obtain ⟨hq1, hq2, hq3⟩ := dv_q ok
  obtain ⟨l0, l1, l2, l3⟩ := (dv_U (s := 0) ok).2
  obtain ⟨hn1, hn2, hF⟩ := dv_n (s := 0) ok
  obtain ⟨m0, m1, m2, m3⟩ := hF
  have hGp : 0 < (dvG P Q 0) := dvG_pos hq2
  have hG63 : (dvG P Q 0) < 2 ^ 63 := gcd_lt (g4_lt (dv_U (s := 0) ok).2 (by decide)) (by omega)
  obtain ⟨gd0, gd1, gd2, gd3⟩ := @dv_dd P Q 0
  have bE := zBt_b (zE_b4 (F := (dvu P Q 0)) hn1) hn1 hn2
  have bH := zBt_b (zH_b4 (F := (dvu P Q 0)) hn1) hn1 hn2
  by_cases hS : i4S (dvu P Q 0) (i4H (dvu P Q 0) (dvn P Q 0)) (dvn P Q 0) < i4S (dvu P Q 0) (i4E (dvu P Q 0) (dvn P Q 0)) (dvn P Q 0)
  ·
    refine zi_aload_n 1 dX11_divide_0 rfl rfl ?_
    refine zi_iconst (v := 4) 2 dX11_divide_1 (by decide) rfl ?_
    refine zc_virtual (n' := (0, 0)) (md' := mX11_norm4) 5 dX11_divide_2 tw_948 zv_X11_norm4 zcl_X11 (s_X11_norm4 B h D hD _ N0.1 4 (by omega)) N0.1.1 rfl rfl rfl rfl rfl rfl rfl rfl (zk_f ?_)
    rw [show zNm (ro (wR m) 4) = iz (i4n Q) from (congrArg zNm hQ).trans (z4i_n (by omega))]
    refine zi_lstore_n (lv' := [(2, _), (0, _), (1, _)]) 6 dX11_divide_5 rfl rfl rfl ?_
    refine zi_aload_n 7 dX11_divide_6 rfl rfl ?_
    refine zi_bipush (v := 16) 9 dX11_divide_7 (by decide) rfl ?_
    refine zi_iconst (v := 4) 10 dX11_divide_9 (by decide) rfl ?_
    refine zc_virtual (n' := (0, 0)) (md' := mX11_turnBack) 13 dX11_divide_10 tw_1055 zv_X11_turnBack zcl_X11 (s_X11_turnBack B h D hD _ N0.1 16 4 (by omega) (by omega)) N0.1.1 rfl rfl rfl rfl rfl rfl rfl rfl (zk_v fun h1 n1 => ?_)
    have N1 := rN_t N0 n1
    refine zi_iload_n 14 dX11_divide_13 rfl rfl ?_
    refine zi_if_ne 17 29 dX11_divide_14 (by decide) rfl (fun c_14 => absurd c_14 (by decide)) (fun c_14 => ?_)
    refine zi_aload_n 18 dX11_divide_17 rfl rfl ?_
    refine zi_bipush (v := 16) 20 dX11_divide_18 (by decide) rfl ?_
    refine zi_bipush (v := 16) 22 dX11_divide_20 (by decide) rfl ?_
    refine zi_iconst (v := 0) 23 dX11_divide_22 (by decide) rfl ?_
    refine zc_virtual (n' := (0, 0)) (md' := mX11_multiply) 26 dX11_divide_23 tw_1039 zv_X11_multiply zcl_X11 (s_X11_multiply B h1 D hD _ N1.1 16 16 0 (by omega) (by omega) (by omega)) N1.1.1 rfl rfl rfl rfl rfl rfl rfl rfl (zk_v fun h2 n2 => ?_)
    have N2 := rN_t N1 n2
    refine zi_goto 38 dX11_divide_26 (by decide) ?_
    obtain ⟨R, N3, eU, eP, eQ, eO⟩ : ∃ R, rN B D (uR m R) h h2 ∧ ro R 16 = z4i (dvU P Q 0) ∧ ro R 0 = z4i P ∧ ro R 4 = z4i Q ∧ ∀ i, (i < 16 ∨ 20 ≤ i) → R i = wR m i := ⟨_, N2, by show zMul (zBk (ro (wR m) 4)) (ro (wR m) 0) = _; rw [hP, hQ]; exact (dv_U (s := 0) ok).1, hP, hQ, fun i hi => (p4_o (a := 16) _ (by omega)).trans (p4_o (a := 16) _ (by omega))⟩
    refine zi_lload_n 39 dX11_divide_38 rfl rfl ?_
    refine zi_lstore (lv' := [(4, _), (2, _), (0, _), (1, _)]) 41 dX11_divide_39 rfl rfl rfl ?_
    refine zi_iconst (v := 0) 42 dX11_divide_41 (by decide) rfl ?_
    refine zi_istore (lv' := [(6, _), (4, _), (2, _), (0, _), (1, _)]) 44 dX11_divide_42 rfl rfl rfl ?_
    refine zi_iload 46 dX11_divide_44 rfl rfl ?_
    refine zi_iconst (v := 4) 47 dX11_divide_46 (by decide) rfl ?_
    refine zi_icmp_ge 50 73 dX11_divide_47 (by decide) rfl (fun c_47 => absurd c_47 (by decide)) (fun c_47 => ?_)
    refine zi_lload 52 dX11_divide_50 rfl rfl ?_
    refine zi_aload_n 53 dX11_divide_52 rfl rfl ?_
    refine zi_getfield 56 9 dX11_divide_53 zcl_X11 tw_872 rfl rfl N3.1.1 rfl rfl ?_
    refine zi_bipush (v := 16) 58 dX11_divide_56 (by decide) rfl ?_
    refine zi_iload 60 dX11_divide_58 rfl rfl ?_
    refine zi_iadd 61 dX11_divide_60 rfl ?_
    rw [show (16 : Int32) + 0 = 16 from rfl]
    refine zi_laload 62 dX11_divide_61 N3.1.2.2.2.2.2.2.2.2.1 (vp_in_nI (show 16 < 80 by decide) (by decide)) rfl ?_
    rw [show Int32.toNatClampNeg 16 = 16 from rfl]
    rw [show wR _ 16 = iz (dvU P Q 0).1 from congrArg (fun v : z4 => v.1) eU]
    refine zc_static (n' := (0, 0)) (md' := mX11_divisor) 65 dX11_divide_62 tw_970 zs_X11_divisor (s_X11_divisor B h2 _ _ (iz_nm (by omega)) (iz_nm (by omega))) rfl rfl rfl rfl rfl rfl rfl rfl (zk_f ?_)
    rw [gcd_iz (by omega) (by omega)]
    refine zi_lstore (lv' := [(4, _), (6, _), (2, _), (0, _), (1, _)]) 67 dX11_divide_65 rfl rfl rfl ?_
    refine zi_iinc (v := 1) (lv' := [(6, _), (4, _), (2, _), (0, _), (1, _)]) 70 dX11_divide_67 rfl rfl rfl rfl rfl ?_
    refine zi_goto 44 dX11_divide_70 (by decide) ?_
    refine zi_iload 46 dX11_divide_44 rfl rfl ?_
    refine zi_iconst (v := 4) 47 dX11_divide_46 (by decide) rfl ?_
    refine zi_icmp_ge 50 73 dX11_divide_47 (by decide) rfl (fun c_47 => absurd c_47 (by decide)) (fun c_47 => ?_)
    refine zi_lload 52 dX11_divide_50 rfl rfl ?_
    refine zi_aload_n 53 dX11_divide_52 rfl rfl ?_
    refine zi_getfield 56 9 dX11_divide_53 zcl_X11 tw_872 rfl rfl N3.1.1 rfl rfl ?_
    refine zi_bipush (v := 16) 58 dX11_divide_56 (by decide) rfl ?_
    refine zi_iload 60 dX11_divide_58 rfl rfl ?_
    refine zi_iadd 61 dX11_divide_60 rfl ?_
    rw [show (16 : Int32) + 1 = 17 from rfl]
    refine zi_laload 62 dX11_divide_61 N3.1.2.2.2.2.2.2.2.2.1 (vp_in_nI (show 17 < 80 by decide) (by decide)) rfl ?_
    rw [show Int32.toNatClampNeg 17 = 17 from rfl]
    rw [show wR _ 17 = iz (dvU P Q 0).2.1 from congrArg (fun v : z4 => v.2.1) eU]
    refine zc_static (n' := (0, 0)) (md' := mX11_divisor) 65 dX11_divide_62 tw_970 zs_X11_divisor (s_X11_divisor B h2 _ _ (lN_nm (gcd_lt (by omega) (by omega))) (iz_nm (by omega))) rfl rfl rfl rfl rfl rfl rfl rfl (zk_f ?_)
    rw [dv_gcd (gcd_lt (by omega) (by omega)) (by omega)]
    refine zi_lstore (lv' := [(4, _), (6, _), (2, _), (0, _), (1, _)]) 67 dX11_divide_65 rfl rfl rfl ?_
    refine zi_iinc (v := 2) (lv' := [(6, _), (4, _), (2, _), (0, _), (1, _)]) 70 dX11_divide_67 rfl rfl rfl rfl rfl ?_
    refine zi_goto 44 dX11_divide_70 (by decide) ?_
    refine zi_iload 46 dX11_divide_44 rfl rfl ?_
    refine zi_iconst (v := 4) 47 dX11_divide_46 (by decide) rfl ?_
    refine zi_icmp_ge 50 73 dX11_divide_47 (by decide) rfl (fun c_47 => absurd c_47 (by decide)) (fun c_47 => ?_)
    refine zi_lload 52 dX11_divide_50 rfl rfl ?_
    refine zi_aload_n 53 dX11_divide_52 rfl rfl ?_
    refine zi_getfield 56 9 dX11_divide_53 zcl_X11 tw_872 rfl rfl N3.1.1 rfl rfl ?_
    refine zi_bipush (v := 16) 58 dX11_divide_56 (by decide) rfl ?_
    refine zi_iload 60 dX11_divide_58 rfl rfl ?_
    refine zi_iadd 61 dX11_divide_60 rfl ?_
    rw [show (16 : Int32) + 2 = 18 from rfl]
    refine zi_laload 62 dX11_divide_61 N3.1.2.2.2.2.2.2.2.2.1 (vp_in_nI (show 18 < 80 by decide) (by decide)) rfl ?_
    rw [show Int32.toNatClampNeg 18 = 18 from rfl]
    rw [show wR _ 18 = iz (dvU P Q 0).2.2.1 from congrArg (fun v : z4 => v.2.2.1) eU]
    refine zc_static (n' := (0, 0)) (md' := mX11_divisor) 65 dX11_divide_62 tw_970 zs_X11_divisor (s_X11_divisor B h2 _ _ (lN_nm (gcd_lt (gcd_lt (by omega) (by omega)) (by omega))) (iz_nm (by omega))) rfl rfl rfl rfl rfl rfl rfl rfl (zk_f ?_)
    rw [dv_gcd (gcd_lt (gcd_lt (by omega) (by omega)) (by omega)) (by omega)]
    refine zi_lstore (lv' := [(4, _), (6, _), (2, _), (0, _), (1, _)]) 67 dX11_divide_65 rfl rfl rfl ?_
    refine zi_iinc (v := 3) (lv' := [(6, _), (4, _), (2, _), (0, _), (1, _)]) 70 dX11_divide_67 rfl rfl rfl rfl rfl ?_
    refine zi_goto 44 dX11_divide_70 (by decide) ?_
    refine zi_iload 46 dX11_divide_44 rfl rfl ?_
    refine zi_iconst (v := 4) 47 dX11_divide_46 (by decide) rfl ?_
    refine zi_icmp_ge 50 73 dX11_divide_47 (by decide) rfl (fun c_47 => absurd c_47 (by decide)) (fun c_47 => ?_)
    refine zi_lload 52 dX11_divide_50 rfl rfl ?_
    refine zi_aload_n 53 dX11_divide_52 rfl rfl ?_
    refine zi_getfield 56 9 dX11_divide_53 zcl_X11 tw_872 rfl rfl N3.1.1 rfl rfl ?_
    refine zi_bipush (v := 16) 58 dX11_divide_56 (by decide) rfl ?_
    refine zi_iload 60 dX11_divide_58 rfl rfl ?_
    refine zi_iadd 61 dX11_divide_60 rfl ?_
    rw [show (16 : Int32) + 3 = 19 from rfl]
    refine zi_laload 62 dX11_divide_61 N3.1.2.2.2.2.2.2.2.2.1 (vp_in_nI (show 19 < 80 by decide) (by decide)) rfl ?_
    rw [show Int32.toNatClampNeg 19 = 19 from rfl]
    rw [show wR _ 19 = iz (dvU P Q 0).2.2.2 from congrArg (fun v : z4 => v.2.2.2) eU]
    refine zc_static (n' := (0, 0)) (md' := mX11_divisor) 65 dX11_divide_62 tw_970 zs_X11_divisor (s_X11_divisor B h2 _ _ (lN_nm (gcd_lt (gcd_lt (gcd_lt (by omega) (by omega)) (by omega)) (by omega))) (iz_nm (by omega))) rfl rfl rfl rfl rfl rfl rfl rfl (zk_f ?_)
    rw [dv_gcd (gcd_lt (gcd_lt (gcd_lt (by omega) (by omega)) (by omega)) (by omega)) (by omega), eGc]
    refine zi_lstore (lv' := [(4, _), (6, _), (2, _), (0, _), (1, _)]) 67 dX11_divide_65 rfl rfl rfl ?_
    refine zi_iinc (v := 4) (lv' := [(6, _), (4, _), (2, _), (0, _), (1, _)]) 70 dX11_divide_67 rfl rfl rfl rfl rfl ?_
    refine zi_goto 44 dX11_divide_70 (by decide) ?_
    refine zi_iload 46 dX11_divide_44 rfl rfl ?_
    refine zi_iconst (v := 4) 47 dX11_divide_46 (by decide) rfl ?_
    refine zi_icmp_ge 50 73 dX11_divide_47 (by decide) rfl (fun c_47 => ?_) (fun c_47 => absurd c_47 (by decide))
    refine zi_lload_n 74 dX11_divide_73 rfl rfl ?_
    refine zi_lload 76 dX11_divide_74 rfl rfl ?_
    refine zi_ldiv 77 dX11_divide_76 (fun e => by rw [lN_0e hG63] at e; omega) rfl ?_
    rw [iz_lN_div hq2 ⟨by omega, by omega⟩ (by omega)]
    refine zi_lstore_n (lv' := [(2, _), (6, _), (4, _), (0, _), (1, _)]) 78 dX11_divide_77 rfl rfl rfl ?_
    refine zi_lconst (v := 0) 79 dX11_divide_78 (by decide) rfl ?_
    refine zi_lstore (lv' := [(6, _), (2, _), (4, _), (0, _), (1, _)]) 81 dX11_divide_79 rfl rfl rfl ?_
    refine zi_lconst (v := 0) 82 dX11_divide_81 (by decide) rfl ?_
    refine zi_lstore (lv' := [(8, _), (6, _), (2, _), (4, _), (0, _), (1, _)]) 84 dX11_divide_82 rfl rfl rfl ?_
    refine zi_iconst (v := 0) 85 dX11_divide_84 (by decide) rfl ?_
    refine zi_istore (lv' := [(10, _), (8, _), (6, _), (2, _), (4, _), (0, _), (1, _)]) 87 dX11_divide_85 rfl rfl rfl ?_
    refine zi_iload 89 dX11_divide_87 rfl rfl ?_
    refine zi_iconst (v := 4) 90 dX11_divide_89 (by decide) rfl ?_
    refine zi_icmp_ge 93 180 dX11_divide_90 (by decide) rfl (fun c_90 => absurd c_90 (by decide)) (fun c_90 => ?_)
    refine zi_aload_n 94 dX11_divide_93 rfl rfl ?_
    refine zi_getfield 97 9 dX11_divide_94 zcl_X11 tw_872 rfl rfl N3.1.1 rfl rfl ?_
    refine zi_bipush (v := 16) 99 dX11_divide_97 (by decide) rfl ?_
    refine zi_iload 101 dX11_divide_99 rfl rfl ?_
    refine zi_iadd 102 dX11_divide_101 rfl ?_
    rw [show (16 : Int32) + 0 = 16 from rfl]
    refine zi_laload 103 dX11_divide_102 N3.1.2.2.2.2.2.2.2.2.1 (vp_in_nI (show 16 < 80 by decide) (by decide)) rfl ?_
    rw [show Int32.toNatClampNeg 16 = 16 from rfl]
    rw [show wR _ 16 = iz (dvU P Q 0).1 from congrArg (fun v : z4 => v.1) eU]
    refine zi_lload 105 dX11_divide_103 rfl rfl ?_
    refine zi_ldiv 106 dX11_divide_105 (fun e => by rw [lN_0e hG63] at e; omega) rfl ?_
    rw [iz_dx (by omega) hG63 gd0, show (dvU P Q 0).1 / ((dvG P Q 0) : Int) = (dvu P Q 0).1 from rfl]
    refine zi_lstore (lv' := [(11, _), (10, _), (8, _), (6, _), (2, _), (4, _), (0, _), (1, _)]) 108 dX11_divide_106 rfl rfl rfl ?_
    refine zi_lload 110 dX11_divide_108 rfl rfl ?_
    refine zi_ldc2 113 dX11_divide_110 tw_909 rfl ?_
    refine zi_lload_n 114 dX11_divide_113 rfl rfl ?_
    refine zi_lmul 115 dX11_divide_114 rfl ?_
    refine zi_lload 117 dX11_divide_115 rfl rfl ?_
    refine zi_lload_n 118 dX11_divide_117 rfl rfl ?_
    refine zi_ladd 119 dX11_divide_118 rfl ?_
    refine zi_ldc2 122 dX11_divide_119 tw_909 rfl ?_
    refine zi_lload_n 123 dX11_divide_122 rfl rfl ?_
    refine zi_lmul 124 dX11_divide_123 rfl ?_
    rw [iz_2, iz_mul, iz_add]
    refine zc_static (n' := (0, 0)) (md' := mX11_down) 127 dX11_divide_124 tw_1068 zs_X11_down (s_X11_down B h2 _ _ (by omega) (by omega) (by omega) (by omega)) rfl rfl rfl rfl rfl rfl rfl rfl (zk_f ?_)
    refine zi_lmul 128 dX11_divide_127 rfl ?_
    refine zi_lsub 129 dX11_divide_128 rfl ?_
    rw [iz_mul, iz_sub, eWh]
    refine zi_lstore (lv' := [(13, _), (11, _), (10, _), (8, _), (6, _), (2, _), (4, _), (0, _), (1, _)]) 131 dX11_divide_129 rfl rfl rfl ?_
    refine zi_lload 133 dX11_divide_131 rfl rfl ?_
    refine zi_lload_n 134 dX11_divide_133 rfl rfl ?_
    refine zi_ldc2 137 dX11_divide_134 tw_909 rfl ?_
    refine zi_lload 139 dX11_divide_137 rfl rfl ?_
    refine zi_ldc2 142 dX11_divide_139 tw_909 rfl ?_
    refine zi_lload_n 143 dX11_divide_142 rfl rfl ?_
    refine zi_lmul 144 dX11_divide_143 rfl ?_
    rw [iz_2, iz_mul]
    refine zc_static (n' := (0, 0)) (md' := mX11_down) 147 dX11_divide_144 tw_1068 zs_X11_down (s_X11_down B h2 _ _ (by omega) (by omega) (by omega) (by omega)) rfl rfl rfl rfl rfl rfl rfl rfl (zk_f ?_)
    refine zi_lmul 148 dX11_divide_147 rfl ?_
    refine zi_lconst (v := 1) 149 dX11_divide_148 (by decide) rfl ?_
    refine zi_ladd 150 dX11_divide_149 rfl ?_
    refine zi_lmul 151 dX11_divide_150 rfl ?_
    refine zi_lsub 152 dX11_divide_151 rfl ?_
    rw [iz_mul, iz_1, iz_add, iz_mul, iz_sub, eHf]
    refine zi_lstore (lv' := [(15, _), (13, _), (11, _), (10, _), (8, _), (6, _), (2, _), (4, _), (0, _), (1, _)]) 154 dX11_divide_152 rfl rfl rfl ?_
    refine zi_lload 156 dX11_divide_154 rfl rfl ?_
    refine zi_lload 158 dX11_divide_156 rfl rfl ?_
    refine zi_lload 160 dX11_divide_158 rfl rfl ?_
    refine zi_lmul 161 dX11_divide_160 rfl ?_
    refine zi_ladd 162 dX11_divide_161 rfl ?_
    rw [iz_mul, Int64.zero_add]
    refine zi_lstore (lv' := [(6, _), (15, _), (13, _), (11, _), (10, _), (8, _), (2, _), (4, _), (0, _), (1, _)]) 164 dX11_divide_162 rfl rfl rfl ?_
    refine zi_lload 166 dX11_divide_164 rfl rfl ?_
    refine zi_lload 168 dX11_divide_166 rfl rfl ?_
    refine zi_lload 170 dX11_divide_168 rfl rfl ?_
    refine zi_lmul 171 dX11_divide_170 rfl ?_
    refine zi_ladd 172 dX11_divide_171 rfl ?_
    rw [iz_mul, Int64.zero_add]
    refine zi_lstore (lv' := [(8, _), (6, _), (15, _), (13, _), (11, _), (10, _), (2, _), (4, _), (0, _), (1, _)]) 174 dX11_divide_172 rfl rfl rfl ?_
    refine zi_iinc (v := 1) (lv' := [(10, _), (8, _), (6, _), (15, _), (13, _), (11, _), (2, _), (4, _), (0, _), (1, _)]) 177 dX11_divide_174 rfl rfl rfl rfl rfl ?_
    refine zi_goto 87 dX11_divide_177 (by decide) ?_
    refine zi_iload 89 dX11_divide_87 rfl rfl ?_
    refine zi_iconst (v := 4) 90 dX11_divide_89 (by decide) rfl ?_
    refine zi_icmp_ge 93 180 dX11_divide_90 (by decide) rfl (fun c_90 => absurd c_90 (by decide)) (fun c_90 => ?_)
    refine zi_aload_n 94 dX11_divide_93 rfl rfl ?_
    refine zi_getfield 97 9 dX11_divide_94 zcl_X11 tw_872 rfl rfl N3.1.1 rfl rfl ?_
    refine zi_bipush (v := 16) 99 dX11_divide_97 (by decide) rfl ?_
    refine zi_iload 101 dX11_divide_99 rfl rfl ?_
    refine zi_iadd 102 dX11_divide_101 rfl ?_
    rw [show (16 : Int32) + 1 = 17 from rfl]
    refine zi_laload 103 dX11_divide_102 N3.1.2.2.2.2.2.2.2.2.1 (vp_in_nI (show 17 < 80 by decide) (by decide)) rfl ?_
    rw [show Int32.toNatClampNeg 17 = 17 from rfl]
    rw [show wR _ 17 = iz (dvU P Q 0).2.1 from congrArg (fun v : z4 => v.2.1) eU]
    refine zi_lload 105 dX11_divide_103 rfl rfl ?_
    refine zi_ldiv 106 dX11_divide_105 (fun e => by rw [lN_0e hG63] at e; omega) rfl ?_
    rw [iz_dx (by omega) hG63 gd1, show (dvU P Q 0).2.1 / ((dvG P Q 0) : Int) = (dvu P Q 0).2.1 from rfl]
    refine zi_lstore (lv' := [(11, _), (10, _), (8, _), (6, _), (15, _), (13, _), (2, _), (4, _), (0, _), (1, _)]) 108 dX11_divide_106 rfl rfl rfl ?_
    refine zi_lload 110 dX11_divide_108 rfl rfl ?_
    refine zi_ldc2 113 dX11_divide_110 tw_909 rfl ?_
    refine zi_lload_n 114 dX11_divide_113 rfl rfl ?_
    refine zi_lmul 115 dX11_divide_114 rfl ?_
    refine zi_lload 117 dX11_divide_115 rfl rfl ?_
    refine zi_lload_n 118 dX11_divide_117 rfl rfl ?_
    refine zi_ladd 119 dX11_divide_118 rfl ?_
    refine zi_ldc2 122 dX11_divide_119 tw_909 rfl ?_
    refine zi_lload_n 123 dX11_divide_122 rfl rfl ?_
    refine zi_lmul 124 dX11_divide_123 rfl ?_
    rw [iz_2, iz_mul, iz_add]
    refine zc_static (n' := (0, 0)) (md' := mX11_down) 127 dX11_divide_124 tw_1068 zs_X11_down (s_X11_down B h2 _ _ (by omega) (by omega) (by omega) (by omega)) rfl rfl rfl rfl rfl rfl rfl rfl (zk_f ?_)
    refine zi_lmul 128 dX11_divide_127 rfl ?_
    refine zi_lsub 129 dX11_divide_128 rfl ?_
    rw [iz_mul, iz_sub, eWh]
    refine zi_lstore (lv' := [(13, _), (11, _), (10, _), (8, _), (6, _), (15, _), (2, _), (4, _), (0, _), (1, _)]) 131 dX11_divide_129 rfl rfl rfl ?_
    refine zi_lload 133 dX11_divide_131 rfl rfl ?_
    refine zi_lload_n 134 dX11_divide_133 rfl rfl ?_
    refine zi_ldc2 137 dX11_divide_134 tw_909 rfl ?_
    refine zi_lload 139 dX11_divide_137 rfl rfl ?_
    refine zi_ldc2 142 dX11_divide_139 tw_909 rfl ?_
    refine zi_lload_n 143 dX11_divide_142 rfl rfl ?_
    refine zi_lmul 144 dX11_divide_143 rfl ?_
    rw [iz_2, iz_mul]
    refine zc_static (n' := (0, 0)) (md' := mX11_down) 147 dX11_divide_144 tw_1068 zs_X11_down (s_X11_down B h2 _ _ (by omega) (by omega) (by omega) (by omega)) rfl rfl rfl rfl rfl rfl rfl rfl (zk_f ?_)
    refine zi_lmul 148 dX11_divide_147 rfl ?_
    refine zi_lconst (v := 1) 149 dX11_divide_148 (by decide) rfl ?_
    refine zi_ladd 150 dX11_divide_149 rfl ?_
    refine zi_lmul 151 dX11_divide_150 rfl ?_
    refine zi_lsub 152 dX11_divide_151 rfl ?_
    rw [iz_mul, iz_1, iz_add, iz_mul, iz_sub, eHf]
    refine zi_lstore (lv' := [(15, _), (13, _), (11, _), (10, _), (8, _), (6, _), (2, _), (4, _), (0, _), (1, _)]) 154 dX11_divide_152 rfl rfl rfl ?_
    refine zi_lload 156 dX11_divide_154 rfl rfl ?_
    refine zi_lload 158 dX11_divide_156 rfl rfl ?_
    refine zi_lload 160 dX11_divide_158 rfl rfl ?_
    refine zi_lmul 161 dX11_divide_160 rfl ?_
    refine zi_ladd 162 dX11_divide_161 rfl ?_
    rw [iz_mul, iz_add]
    refine zi_lstore (lv' := [(6, _), (15, _), (13, _), (11, _), (10, _), (8, _), (2, _), (4, _), (0, _), (1, _)]) 164 dX11_divide_162 rfl rfl rfl ?_
    refine zi_lload 166 dX11_divide_164 rfl rfl ?_
    refine zi_lload 168 dX11_divide_166 rfl rfl ?_
    refine zi_lload 170 dX11_divide_168 rfl rfl ?_
    refine zi_lmul 171 dX11_divide_170 rfl ?_
    refine zi_ladd 172 dX11_divide_171 rfl ?_
    rw [iz_mul, iz_add]
    refine zi_lstore (lv' := [(8, _), (6, _), (15, _), (13, _), (11, _), (10, _), (2, _), (4, _), (0, _), (1, _)]) 174 dX11_divide_172 rfl rfl rfl ?_
    refine zi_iinc (v := 2) (lv' := [(10, _), (8, _), (6, _), (15, _), (13, _), (11, _), (2, _), (4, _), (0, _), (1, _)]) 177 dX11_divide_174 rfl rfl rfl rfl rfl ?_
    refine zi_goto 87 dX11_divide_177 (by decide) ?_
    refine zi_iload 89 dX11_divide_87 rfl rfl ?_
    refine zi_iconst (v := 4) 90 dX11_divide_89 (by decide) rfl ?_
    refine zi_icmp_ge 93 180 dX11_divide_90 (by decide) rfl (fun c_90 => absurd c_90 (by decide)) (fun c_90 => ?_)
    refine zi_aload_n 94 dX11_divide_93 rfl rfl ?_
    refine zi_getfield 97 9 dX11_divide_94 zcl_X11 tw_872 rfl rfl N3.1.1 rfl rfl ?_
    refine zi_bipush (v := 16) 99 dX11_divide_97 (by decide) rfl ?_
    refine zi_iload 101 dX11_divide_99 rfl rfl ?_
    refine zi_iadd 102 dX11_divide_101 rfl ?_
    rw [show (16 : Int32) + 2 = 18 from rfl]
    refine zi_laload 103 dX11_divide_102 N3.1.2.2.2.2.2.2.2.2.1 (vp_in_nI (show 18 < 80 by decide) (by decide)) rfl ?_
    rw [show Int32.toNatClampNeg 18 = 18 from rfl]
    rw [show wR _ 18 = iz (dvU P Q 0).2.2.1 from congrArg (fun v : z4 => v.2.2.1) eU]
    refine zi_lload 105 dX11_divide_103 rfl rfl ?_
    refine zi_ldiv 106 dX11_divide_105 (fun e => by rw [lN_0e hG63] at e; omega) rfl ?_
    rw [iz_dx (by omega) hG63 gd2, show (dvU P Q 0).2.2.1 / ((dvG P Q 0) : Int) = (dvu P Q 0).2.2.1 from rfl]
    refine zi_lstore (lv' := [(11, _), (10, _), (8, _), (6, _), (15, _), (13, _), (2, _), (4, _), (0, _), (1, _)]) 108 dX11_divide_106 rfl rfl rfl ?_
    refine zi_lload 110 dX11_divide_108 rfl rfl ?_
    refine zi_ldc2 113 dX11_divide_110 tw_909 rfl ?_
    refine zi_lload_n 114 dX11_divide_113 rfl rfl ?_
    refine zi_lmul 115 dX11_divide_114 rfl ?_
    refine zi_lload 117 dX11_divide_115 rfl rfl ?_
    refine zi_lload_n 118 dX11_divide_117 rfl rfl ?_
    refine zi_ladd 119 dX11_divide_118 rfl ?_
    refine zi_ldc2 122 dX11_divide_119 tw_909 rfl ?_
    refine zi_lload_n 123 dX11_divide_122 rfl rfl ?_
    refine zi_lmul 124 dX11_divide_123 rfl ?_
    rw [iz_2, iz_mul, iz_add]
    refine zc_static (n' := (0, 0)) (md' := mX11_down) 127 dX11_divide_124 tw_1068 zs_X11_down (s_X11_down B h2 _ _ (by omega) (by omega) (by omega) (by omega)) rfl rfl rfl rfl rfl rfl rfl rfl (zk_f ?_)
    refine zi_lmul 128 dX11_divide_127 rfl ?_
    refine zi_lsub 129 dX11_divide_128 rfl ?_
    rw [iz_mul, iz_sub, eWh]
    refine zi_lstore (lv' := [(13, _), (11, _), (10, _), (8, _), (6, _), (15, _), (2, _), (4, _), (0, _), (1, _)]) 131 dX11_divide_129 rfl rfl rfl ?_
    refine zi_lload 133 dX11_divide_131 rfl rfl ?_
    refine zi_lload_n 134 dX11_divide_133 rfl rfl ?_
    refine zi_ldc2 137 dX11_divide_134 tw_909 rfl ?_
    refine zi_lload 139 dX11_divide_137 rfl rfl ?_
    refine zi_ldc2 142 dX11_divide_139 tw_909 rfl ?_
    refine zi_lload_n 143 dX11_divide_142 rfl rfl ?_
    refine zi_lmul 144 dX11_divide_143 rfl ?_
    rw [iz_2, iz_mul]
    refine zc_static (n' := (0, 0)) (md' := mX11_down) 147 dX11_divide_144 tw_1068 zs_X11_down (s_X11_down B h2 _ _ (by omega) (by omega) (by omega) (by omega)) rfl rfl rfl rfl rfl rfl rfl rfl (zk_f ?_)
    refine zi_lmul 148 dX11_divide_147 rfl ?_
    refine zi_lconst (v := 1) 149 dX11_divide_148 (by decide) rfl ?_
    refine zi_ladd 150 dX11_divide_149 rfl ?_
    refine zi_lmul 151 dX11_divide_150 rfl ?_
    refine zi_lsub 152 dX11_divide_151 rfl ?_
    rw [iz_mul, iz_1, iz_add, iz_mul, iz_sub, eHf]
    refine zi_lstore (lv' := [(15, _), (13, _), (11, _), (10, _), (8, _), (6, _), (2, _), (4, _), (0, _), (1, _)]) 154 dX11_divide_152 rfl rfl rfl ?_
    refine zi_lload 156 dX11_divide_154 rfl rfl ?_
    refine zi_lload 158 dX11_divide_156 rfl rfl ?_
    refine zi_lload 160 dX11_divide_158 rfl rfl ?_
    refine zi_lmul 161 dX11_divide_160 rfl ?_
    refine zi_ladd 162 dX11_divide_161 rfl ?_
    rw [iz_mul, iz_add]
    refine zi_lstore (lv' := [(6, _), (15, _), (13, _), (11, _), (10, _), (8, _), (2, _), (4, _), (0, _), (1, _)]) 164 dX11_divide_162 rfl rfl rfl ?_
    refine zi_lload 166 dX11_divide_164 rfl rfl ?_
    refine zi_lload 168 dX11_divide_166 rfl rfl ?_
    refine zi_lload 170 dX11_divide_168 rfl rfl ?_
    refine zi_lmul 171 dX11_divide_170 rfl ?_
    refine zi_ladd 172 dX11_divide_171 rfl ?_
    rw [iz_mul, iz_add]
    refine zi_lstore (lv' := [(8, _), (6, _), (15, _), (13, _), (11, _), (10, _), (2, _), (4, _), (0, _), (1, _)]) 174 dX11_divide_172 rfl rfl rfl ?_
    refine zi_iinc (v := 3) (lv' := [(10, _), (8, _), (6, _), (15, _), (13, _), (11, _), (2, _), (4, _), (0, _), (1, _)]) 177 dX11_divide_174 rfl rfl rfl rfl rfl ?_
    refine zi_goto 87 dX11_divide_177 (by decide) ?_
    refine zi_iload 89 dX11_divide_87 rfl rfl ?_
    refine zi_iconst (v := 4) 90 dX11_divide_89 (by decide) rfl ?_
    refine zi_icmp_ge 93 180 dX11_divide_90 (by decide) rfl (fun c_90 => absurd c_90 (by decide)) (fun c_90 => ?_)
    refine zi_aload_n 94 dX11_divide_93 rfl rfl ?_
    refine zi_getfield 97 9 dX11_divide_94 zcl_X11 tw_872 rfl rfl N3.1.1 rfl rfl ?_
    refine zi_bipush (v := 16) 99 dX11_divide_97 (by decide) rfl ?_
    refine zi_iload 101 dX11_divide_99 rfl rfl ?_
    refine zi_iadd 102 dX11_divide_101 rfl ?_
    rw [show (16 : Int32) + 3 = 19 from rfl]
    refine zi_laload 103 dX11_divide_102 N3.1.2.2.2.2.2.2.2.2.1 (vp_in_nI (show 19 < 80 by decide) (by decide)) rfl ?_
    rw [show Int32.toNatClampNeg 19 = 19 from rfl]
    rw [show wR _ 19 = iz (dvU P Q 0).2.2.2 from congrArg (fun v : z4 => v.2.2.2) eU]
    refine zi_lload 105 dX11_divide_103 rfl rfl ?_
    refine zi_ldiv 106 dX11_divide_105 (fun e => by rw [lN_0e hG63] at e; omega) rfl ?_
    rw [iz_dx (by omega) hG63 gd3, show (dvU P Q 0).2.2.2 / ((dvG P Q 0) : Int) = (dvu P Q 0).2.2.2 from rfl]
    refine zi_lstore (lv' := [(11, _), (10, _), (8, _), (6, _), (15, _), (13, _), (2, _), (4, _), (0, _), (1, _)]) 108 dX11_divide_106 rfl rfl rfl ?_
    refine zi_lload 110 dX11_divide_108 rfl rfl ?_
    refine zi_ldc2 113 dX11_divide_110 tw_909 rfl ?_
    refine zi_lload_n 114 dX11_divide_113 rfl rfl ?_
    refine zi_lmul 115 dX11_divide_114 rfl ?_
    refine zi_lload 117 dX11_divide_115 rfl rfl ?_
    refine zi_lload_n 118 dX11_divide_117 rfl rfl ?_
    refine zi_ladd 119 dX11_divide_118 rfl ?_
    refine zi_ldc2 122 dX11_divide_119 tw_909 rfl ?_
    refine zi_lload_n 123 dX11_divide_122 rfl rfl ?_
    refine zi_lmul 124 dX11_divide_123 rfl ?_
    rw [iz_2, iz_mul, iz_add]
    refine zc_static (n' := (0, 0)) (md' := mX11_down) 127 dX11_divide_124 tw_1068 zs_X11_down (s_X11_down B h2 _ _ (by omega) (by omega) (by omega) (by omega)) rfl rfl rfl rfl rfl rfl rfl rfl (zk_f ?_)
    refine zi_lmul 128 dX11_divide_127 rfl ?_
    refine zi_lsub 129 dX11_divide_128 rfl ?_
    rw [iz_mul, iz_sub, eWh]
    refine zi_lstore (lv' := [(13, _), (11, _), (10, _), (8, _), (6, _), (15, _), (2, _), (4, _), (0, _), (1, _)]) 131 dX11_divide_129 rfl rfl rfl ?_
    refine zi_lload 133 dX11_divide_131 rfl rfl ?_
    refine zi_lload_n 134 dX11_divide_133 rfl rfl ?_
    refine zi_ldc2 137 dX11_divide_134 tw_909 rfl ?_
    refine zi_lload 139 dX11_divide_137 rfl rfl ?_
    refine zi_ldc2 142 dX11_divide_139 tw_909 rfl ?_
    refine zi_lload_n 143 dX11_divide_142 rfl rfl ?_
    refine zi_lmul 144 dX11_divide_143 rfl ?_
    rw [iz_2, iz_mul]
    refine zc_static (n' := (0, 0)) (md' := mX11_down) 147 dX11_divide_144 tw_1068 zs_X11_down (s_X11_down B h2 _ _ (by omega) (by omega) (by omega) (by omega)) rfl rfl rfl rfl rfl rfl rfl rfl (zk_f ?_)
    refine zi_lmul 148 dX11_divide_147 rfl ?_
    refine zi_lconst (v := 1) 149 dX11_divide_148 (by decide) rfl ?_
    refine zi_ladd 150 dX11_divide_149 rfl ?_
    refine zi_lmul 151 dX11_divide_150 rfl ?_
    refine zi_lsub 152 dX11_divide_151 rfl ?_
    rw [iz_mul, iz_1, iz_add, iz_mul, iz_sub, eHf]
    refine zi_lstore (lv' := [(15, _), (13, _), (11, _), (10, _), (8, _), (6, _), (2, _), (4, _), (0, _), (1, _)]) 154 dX11_divide_152 rfl rfl rfl ?_
    refine zi_lload 156 dX11_divide_154 rfl rfl ?_
    refine zi_lload 158 dX11_divide_156 rfl rfl ?_
    refine zi_lload 160 dX11_divide_158 rfl rfl ?_
    refine zi_lmul 161 dX11_divide_160 rfl ?_
    refine zi_ladd 162 dX11_divide_161 rfl ?_
    rw [iz_mul, iz_add]
    rw [show ((dvu P Q 0).1 - zE (dvu P Q 0).1 (dvn P Q 0) * (dvn P Q 0)) * ((dvu P Q 0).1 - zE (dvu P Q 0).1 (dvn P Q 0) * (dvn P Q 0)) + ((dvu P Q 0).2.1 - zE (dvu P Q 0).2.1 (dvn P Q 0) * (dvn P Q 0)) * ((dvu P Q 0).2.1 - zE (dvu P Q 0).2.1 (dvn P Q 0) * (dvn P Q 0)) + ((dvu P Q 0).2.2.1 - zE (dvu P Q 0).2.2.1 (dvn P Q 0) * (dvn P Q 0)) * ((dvu P Q 0).2.2.1 - zE (dvu P Q 0).2.2.1 (dvn P Q 0) * (dvn P Q 0)) + ((dvu P Q 0).2.2.2 - zE (dvu P Q 0).2.2.2 (dvn P Q 0) * (dvn P Q 0)) * ((dvu P Q 0).2.2.2 - zE (dvu P Q 0).2.2.2 (dvn P Q 0) * (dvn P Q 0)) = i4S (dvu P Q 0) (i4E (dvu P Q 0) (dvn P Q 0)) (dvn P Q 0) from rfl]
    refine zi_lstore (lv' := [(6, _), (15, _), (13, _), (11, _), (10, _), (8, _), (2, _), (4, _), (0, _), (1, _)]) 164 dX11_divide_162 rfl rfl rfl ?_
    refine zi_lload 166 dX11_divide_164 rfl rfl ?_
    refine zi_lload 168 dX11_divide_166 rfl rfl ?_
    refine zi_lload 170 dX11_divide_168 rfl rfl ?_
    refine zi_lmul 171 dX11_divide_170 rfl ?_
    refine zi_ladd 172 dX11_divide_171 rfl ?_
    rw [iz_mul, iz_add]
    rw [show ((dvu P Q 0).1 - zH (dvu P Q 0).1 (dvn P Q 0) * (dvn P Q 0)) * ((dvu P Q 0).1 - zH (dvu P Q 0).1 (dvn P Q 0) * (dvn P Q 0)) + ((dvu P Q 0).2.1 - zH (dvu P Q 0).2.1 (dvn P Q 0) * (dvn P Q 0)) * ((dvu P Q 0).2.1 - zH (dvu P Q 0).2.1 (dvn P Q 0) * (dvn P Q 0)) + ((dvu P Q 0).2.2.1 - zH (dvu P Q 0).2.2.1 (dvn P Q 0) * (dvn P Q 0)) * ((dvu P Q 0).2.2.1 - zH (dvu P Q 0).2.2.1 (dvn P Q 0) * (dvn P Q 0)) + ((dvu P Q 0).2.2.2 - zH (dvu P Q 0).2.2.2 (dvn P Q 0) * (dvn P Q 0)) * ((dvu P Q 0).2.2.2 - zH (dvu P Q 0).2.2.2 (dvn P Q 0) * (dvn P Q 0)) = i4S (dvu P Q 0) (i4H (dvu P Q 0) (dvn P Q 0)) (dvn P Q 0) from rfl]
    refine zi_lstore (lv' := [(8, _), (6, _), (15, _), (13, _), (11, _), (10, _), (2, _), (4, _), (0, _), (1, _)]) 174 dX11_divide_172 rfl rfl rfl ?_
    refine zi_iinc (v := 4) (lv' := [(10, _), (8, _), (6, _), (15, _), (13, _), (11, _), (2, _), (4, _), (0, _), (1, _)]) 177 dX11_divide_174 rfl rfl rfl rfl rfl ?_
    refine zi_goto 87 dX11_divide_177 (by decide) ?_
    refine zi_iload 89 dX11_divide_87 rfl rfl ?_
    refine zi_iconst (v := 4) 90 dX11_divide_89 (by decide) rfl ?_
    refine zi_icmp_ge 93 180 dX11_divide_90 (by decide) rfl (fun c_90 => ?_) (fun c_90 => absurd c_90 (by decide))
    refine zi_iconst (v := 0) 181 dX11_divide_180 (by decide) rfl ?_
    refine zi_istore (lv' := [(10, _), (8, _), (6, _), (15, _), (13, _), (11, _), (2, _), (4, _), (0, _), (1, _)]) 183 dX11_divide_181 rfl rfl rfl ?_
    refine zi_iload 185 dX11_divide_183 rfl rfl ?_
    refine zi_iconst (v := 4) 186 dX11_divide_185 (by decide) rfl ?_
    refine zi_icmp_ge 189 263 dX11_divide_186 (by decide) rfl (fun c_186 => absurd c_186 (by decide)) (fun c_186 => ?_)
    refine zi_aload_n 190 dX11_divide_189 rfl rfl ?_
    refine zi_getfield 193 9 dX11_divide_190 zcl_X11 tw_872 rfl rfl N3.1.1 rfl rfl ?_
    refine zi_bipush (v := 16) 195 dX11_divide_193 (by decide) rfl ?_
    refine zi_iload 197 dX11_divide_195 rfl rfl ?_
    refine zi_iadd 198 dX11_divide_197 rfl ?_
    rw [show (16 : Int32) + 0 = 16 from rfl]
    refine zi_laload 199 dX11_divide_198 N3.1.2.2.2.2.2.2.2.2.1 (vp_in_nI (show 16 < 80 by decide) (by decide)) rfl ?_
    rw [show Int32.toNatClampNeg 16 = 16 from rfl]
    rw [show wR _ 16 = iz (dvU P Q 0).1 from congrArg (fun v : z4 => v.1) eU]
    refine zi_lload 201 dX11_divide_199 rfl rfl ?_
    refine zi_ldiv 202 dX11_divide_201 (fun e => by rw [lN_0e hG63] at e; omega) rfl ?_
    rw [iz_dx (by omega) hG63 gd0, show (dvU P Q 0).1 / ((dvG P Q 0) : Int) = (dvu P Q 0).1 from rfl]
    refine zi_lstore (lv' := [(11, _), (10, _), (8, _), (6, _), (15, _), (13, _), (2, _), (4, _), (0, _), (1, _)]) 204 dX11_divide_202 rfl rfl rfl ?_
    refine zi_aload_n 205 dX11_divide_204 rfl rfl ?_
    refine zi_getfield 208 9 dX11_divide_205 zcl_X11 tw_872 rfl rfl N3.1.1 rfl rfl ?_
    refine zi_bipush (v := 8) 210 dX11_divide_208 (by decide) rfl ?_
    refine zi_iload 212 dX11_divide_210 rfl rfl ?_
    refine zi_iadd 213 dX11_divide_212 rfl ?_
    rw [show (8 : Int32) + 0 = 8 from rfl]
    refine zi_lload 215 dX11_divide_213 rfl rfl ?_
    refine zi_lload 217 dX11_divide_215 rfl rfl ?_
    refine zj_gt 221 240 dX11_divide_217 rfl dX11_divide_218 (by decide) rfl (fun zzC => ?_) (fun zzC => absurd ((iz_lt bH bE).mpr hS) zzC)
    refine zi_ldc2 243 dX11_divide_240 tw_909 rfl ?_
    refine zi_lload 245 dX11_divide_243 rfl rfl ?_
    refine zi_ldc2 248 dX11_divide_245 tw_909 rfl ?_
    refine zi_lload_n 249 dX11_divide_248 rfl rfl ?_
    refine zi_lmul 250 dX11_divide_249 rfl ?_
    rw [iz_2, iz_mul]
    refine zc_static (n' := (0, 0)) (md' := mX11_down) 253 dX11_divide_250 tw_1068 zs_X11_down (s_X11_down B h2 _ _ (by omega) (by omega) (by omega) (by omega)) rfl rfl rfl rfl rfl rfl rfl rfl (zk_f ?_)
    refine zi_lmul 254 dX11_divide_253 rfl ?_
    refine zi_lconst (v := 1) 255 dX11_divide_254 (by decide) rfl ?_
    refine zi_ladd 256 dX11_divide_255 rfl ?_
    rw [iz_mul, iz_1, iz_add, show 2 * ((dvu P Q 0).1 / (2 * (dvn P Q 0))) + 1 = zH (dvu P Q 0).1 (dvn P Q 0) from rfl]
    refine zi_lastore 257 dX11_divide_256 N3.1.2.2.2.2.2.2.2.2.1 (vp_in_nI (show 8 < 80 by decide) (by decide)) rfl ?_
    rw [show Int32.toNatClampNeg 8 = 8 from rfl]
    refine zk_h (fun h4 k4 => ?_)
    have N4 := rN_R hD N3 k4
    refine zi_iinc (v := 1) (lv' := [(10, _), (11, _), (8, _), (6, _), (15, _), (13, _), (2, _), (4, _), (0, _), (1, _)]) 260 dX11_divide_257 rfl rfl rfl rfl rfl ?_
    refine zi_goto 183 dX11_divide_260 (by decide) ?_
    refine zi_iload 185 dX11_divide_183 rfl rfl ?_
    refine zi_iconst (v := 4) 186 dX11_divide_185 (by decide) rfl ?_
    refine zi_icmp_ge 189 263 dX11_divide_186 (by decide) rfl (fun c_186 => absurd c_186 (by decide)) (fun c_186 => ?_)
    refine zi_aload_n 190 dX11_divide_189 rfl rfl ?_
    refine zi_getfield 193 9 dX11_divide_190 zcl_X11 tw_872 rfl rfl N4.1.1 rfl rfl ?_
    refine zi_bipush (v := 16) 195 dX11_divide_193 (by decide) rfl ?_
    refine zi_iload 197 dX11_divide_195 rfl rfl ?_
    refine zi_iadd 198 dX11_divide_197 rfl ?_
    rw [show (16 : Int32) + 1 = 17 from rfl]
    refine zi_laload 199 dX11_divide_198 N4.1.2.2.2.2.2.2.2.2.1 (vp_in_nI (show 17 < 80 by decide) (by decide)) rfl ?_
    rw [show Int32.toNatClampNeg 17 = 17 from rfl]
    rw [show wR _ 17 = iz (dvU P Q 0).2.1 from congrArg (fun v : z4 => v.2.1) eU]
    refine zi_lload 201 dX11_divide_199 rfl rfl ?_
    refine zi_ldiv 202 dX11_divide_201 (fun e => by rw [lN_0e hG63] at e; omega) rfl ?_
    rw [iz_dx (by omega) hG63 gd1, show (dvU P Q 0).2.1 / ((dvG P Q 0) : Int) = (dvu P Q 0).2.1 from rfl]
    refine zi_lstore (lv' := [(11, _), (10, _), (8, _), (6, _), (15, _), (13, _), (2, _), (4, _), (0, _), (1, _)]) 204 dX11_divide_202 rfl rfl rfl ?_
    refine zi_aload_n 205 dX11_divide_204 rfl rfl ?_
    refine zi_getfield 208 9 dX11_divide_205 zcl_X11 tw_872 rfl rfl N4.1.1 rfl rfl ?_
    refine zi_bipush (v := 8) 210 dX11_divide_208 (by decide) rfl ?_
    refine zi_iload 212 dX11_divide_210 rfl rfl ?_
    refine zi_iadd 213 dX11_divide_212 rfl ?_
    rw [show (8 : Int32) + 1 = 9 from rfl]
    refine zi_lload 215 dX11_divide_213 rfl rfl ?_
    refine zi_lload 217 dX11_divide_215 rfl rfl ?_
    refine zj_gt 221 240 dX11_divide_217 rfl dX11_divide_218 (by decide) rfl (fun zzC => ?_) (fun zzC => absurd ((iz_lt bH bE).mpr hS) zzC)
    refine zi_ldc2 243 dX11_divide_240 tw_909 rfl ?_
    refine zi_lload 245 dX11_divide_243 rfl rfl ?_
    refine zi_ldc2 248 dX11_divide_245 tw_909 rfl ?_
    refine zi_lload_n 249 dX11_divide_248 rfl rfl ?_
    refine zi_lmul 250 dX11_divide_249 rfl ?_
    rw [iz_2, iz_mul]
    refine zc_static (n' := (0, 0)) (md' := mX11_down) 253 dX11_divide_250 tw_1068 zs_X11_down (s_X11_down B h4 _ _ (by omega) (by omega) (by omega) (by omega)) rfl rfl rfl rfl rfl rfl rfl rfl (zk_f ?_)
    refine zi_lmul 254 dX11_divide_253 rfl ?_
    refine zi_lconst (v := 1) 255 dX11_divide_254 (by decide) rfl ?_
    refine zi_ladd 256 dX11_divide_255 rfl ?_
    rw [iz_mul, iz_1, iz_add, show 2 * ((dvu P Q 0).2.1 / (2 * (dvn P Q 0))) + 1 = zH (dvu P Q 0).2.1 (dvn P Q 0) from rfl]
    refine zi_lastore 257 dX11_divide_256 N4.1.2.2.2.2.2.2.2.2.1 (vp_in_nI (show 9 < 80 by decide) (by decide)) rfl ?_
    rw [show Int32.toNatClampNeg 9 = 9 from rfl]
    refine zk_h (fun h5 k5 => ?_)
    have N5 := rN_R hD N4 k5
    refine zi_iinc (v := 2) (lv' := [(10, _), (11, _), (8, _), (6, _), (15, _), (13, _), (2, _), (4, _), (0, _), (1, _)]) 260 dX11_divide_257 rfl rfl rfl rfl rfl ?_
    refine zi_goto 183 dX11_divide_260 (by decide) ?_
    refine zi_iload 185 dX11_divide_183 rfl rfl ?_
    refine zi_iconst (v := 4) 186 dX11_divide_185 (by decide) rfl ?_
    refine zi_icmp_ge 189 263 dX11_divide_186 (by decide) rfl (fun c_186 => absurd c_186 (by decide)) (fun c_186 => ?_)
    refine zi_aload_n 190 dX11_divide_189 rfl rfl ?_
    refine zi_getfield 193 9 dX11_divide_190 zcl_X11 tw_872 rfl rfl N5.1.1 rfl rfl ?_
    refine zi_bipush (v := 16) 195 dX11_divide_193 (by decide) rfl ?_
    refine zi_iload 197 dX11_divide_195 rfl rfl ?_
    refine zi_iadd 198 dX11_divide_197 rfl ?_
    rw [show (16 : Int32) + 2 = 18 from rfl]
    refine zi_laload 199 dX11_divide_198 N5.1.2.2.2.2.2.2.2.2.1 (vp_in_nI (show 18 < 80 by decide) (by decide)) rfl ?_
    rw [show Int32.toNatClampNeg 18 = 18 from rfl]
    rw [show wR _ 18 = iz (dvU P Q 0).2.2.1 from congrArg (fun v : z4 => v.2.2.1) eU]
    refine zi_lload 201 dX11_divide_199 rfl rfl ?_
    refine zi_ldiv 202 dX11_divide_201 (fun e => by rw [lN_0e hG63] at e; omega) rfl ?_
    rw [iz_dx (by omega) hG63 gd2, show (dvU P Q 0).2.2.1 / ((dvG P Q 0) : Int) = (dvu P Q 0).2.2.1 from rfl]
    refine zi_lstore (lv' := [(11, _), (10, _), (8, _), (6, _), (15, _), (13, _), (2, _), (4, _), (0, _), (1, _)]) 204 dX11_divide_202 rfl rfl rfl ?_
    refine zi_aload_n 205 dX11_divide_204 rfl rfl ?_
    refine zi_getfield 208 9 dX11_divide_205 zcl_X11 tw_872 rfl rfl N5.1.1 rfl rfl ?_
    refine zi_bipush (v := 8) 210 dX11_divide_208 (by decide) rfl ?_
    refine zi_iload 212 dX11_divide_210 rfl rfl ?_
    refine zi_iadd 213 dX11_divide_212 rfl ?_
    rw [show (8 : Int32) + 2 = 10 from rfl]
    refine zi_lload 215 dX11_divide_213 rfl rfl ?_
    refine zi_lload 217 dX11_divide_215 rfl rfl ?_
    refine zj_gt 221 240 dX11_divide_217 rfl dX11_divide_218 (by decide) rfl (fun zzC => ?_) (fun zzC => absurd ((iz_lt bH bE).mpr hS) zzC)
    refine zi_ldc2 243 dX11_divide_240 tw_909 rfl ?_
    refine zi_lload 245 dX11_divide_243 rfl rfl ?_
    refine zi_ldc2 248 dX11_divide_245 tw_909 rfl ?_
    refine zi_lload_n 249 dX11_divide_248 rfl rfl ?_
    refine zi_lmul 250 dX11_divide_249 rfl ?_
    rw [iz_2, iz_mul]
    refine zc_static (n' := (0, 0)) (md' := mX11_down) 253 dX11_divide_250 tw_1068 zs_X11_down (s_X11_down B h5 _ _ (by omega) (by omega) (by omega) (by omega)) rfl rfl rfl rfl rfl rfl rfl rfl (zk_f ?_)
    refine zi_lmul 254 dX11_divide_253 rfl ?_
    refine zi_lconst (v := 1) 255 dX11_divide_254 (by decide) rfl ?_
    refine zi_ladd 256 dX11_divide_255 rfl ?_
    rw [iz_mul, iz_1, iz_add, show 2 * ((dvu P Q 0).2.2.1 / (2 * (dvn P Q 0))) + 1 = zH (dvu P Q 0).2.2.1 (dvn P Q 0) from rfl]
    refine zi_lastore 257 dX11_divide_256 N5.1.2.2.2.2.2.2.2.2.1 (vp_in_nI (show 10 < 80 by decide) (by decide)) rfl ?_
    rw [show Int32.toNatClampNeg 10 = 10 from rfl]
    refine zk_h (fun h6 k6 => ?_)
    have N6 := rN_R hD N5 k6
    refine zi_iinc (v := 3) (lv' := [(10, _), (11, _), (8, _), (6, _), (15, _), (13, _), (2, _), (4, _), (0, _), (1, _)]) 260 dX11_divide_257 rfl rfl rfl rfl rfl ?_
    refine zi_goto 183 dX11_divide_260 (by decide) ?_
    refine zi_iload 185 dX11_divide_183 rfl rfl ?_
    refine zi_iconst (v := 4) 186 dX11_divide_185 (by decide) rfl ?_
    refine zi_icmp_ge 189 263 dX11_divide_186 (by decide) rfl (fun c_186 => absurd c_186 (by decide)) (fun c_186 => ?_)
    refine zi_aload_n 190 dX11_divide_189 rfl rfl ?_
    refine zi_getfield 193 9 dX11_divide_190 zcl_X11 tw_872 rfl rfl N6.1.1 rfl rfl ?_
    refine zi_bipush (v := 16) 195 dX11_divide_193 (by decide) rfl ?_
    refine zi_iload 197 dX11_divide_195 rfl rfl ?_
    refine zi_iadd 198 dX11_divide_197 rfl ?_
    rw [show (16 : Int32) + 3 = 19 from rfl]
    refine zi_laload 199 dX11_divide_198 N6.1.2.2.2.2.2.2.2.2.1 (vp_in_nI (show 19 < 80 by decide) (by decide)) rfl ?_
    rw [show Int32.toNatClampNeg 19 = 19 from rfl]
    rw [show wR _ 19 = iz (dvU P Q 0).2.2.2 from congrArg (fun v : z4 => v.2.2.2) eU]
    refine zi_lload 201 dX11_divide_199 rfl rfl ?_
    refine zi_ldiv 202 dX11_divide_201 (fun e => by rw [lN_0e hG63] at e; omega) rfl ?_
    rw [iz_dx (by omega) hG63 gd3, show (dvU P Q 0).2.2.2 / ((dvG P Q 0) : Int) = (dvu P Q 0).2.2.2 from rfl]
    refine zi_lstore (lv' := [(11, _), (10, _), (8, _), (6, _), (15, _), (13, _), (2, _), (4, _), (0, _), (1, _)]) 204 dX11_divide_202 rfl rfl rfl ?_
    refine zi_aload_n 205 dX11_divide_204 rfl rfl ?_
    refine zi_getfield 208 9 dX11_divide_205 zcl_X11 tw_872 rfl rfl N6.1.1 rfl rfl ?_
    refine zi_bipush (v := 8) 210 dX11_divide_208 (by decide) rfl ?_
    refine zi_iload 212 dX11_divide_210 rfl rfl ?_
    refine zi_iadd 213 dX11_divide_212 rfl ?_
    rw [show (8 : Int32) + 3 = 11 from rfl]
    refine zi_lload 215 dX11_divide_213 rfl rfl ?_
    refine zi_lload 217 dX11_divide_215 rfl rfl ?_
    refine zj_gt 221 240 dX11_divide_217 rfl dX11_divide_218 (by decide) rfl (fun zzC => ?_) (fun zzC => absurd ((iz_lt bH bE).mpr hS) zzC)
    refine zi_ldc2 243 dX11_divide_240 tw_909 rfl ?_
    refine zi_lload 245 dX11_divide_243 rfl rfl ?_
    refine zi_ldc2 248 dX11_divide_245 tw_909 rfl ?_
    refine zi_lload_n 249 dX11_divide_248 rfl rfl ?_
    refine zi_lmul 250 dX11_divide_249 rfl ?_
    rw [iz_2, iz_mul]
    refine zc_static (n' := (0, 0)) (md' := mX11_down) 253 dX11_divide_250 tw_1068 zs_X11_down (s_X11_down B h6 _ _ (by omega) (by omega) (by omega) (by omega)) rfl rfl rfl rfl rfl rfl rfl rfl (zk_f ?_)
    refine zi_lmul 254 dX11_divide_253 rfl ?_
    refine zi_lconst (v := 1) 255 dX11_divide_254 (by decide) rfl ?_
    refine zi_ladd 256 dX11_divide_255 rfl ?_
    rw [iz_mul, iz_1, iz_add, show 2 * ((dvu P Q 0).2.2.2 / (2 * (dvn P Q 0))) + 1 = zH (dvu P Q 0).2.2.2 (dvn P Q 0) from rfl]
    refine zi_lastore 257 dX11_divide_256 N6.1.2.2.2.2.2.2.2.2.1 (vp_in_nI (show 11 < 80 by decide) (by decide)) rfl ?_
    rw [show Int32.toNatClampNeg 11 = 11 from rfl]
    refine zk_h (fun h7 k7 => ?_)
    have N7 := rN_R hD N6 k7
    refine zi_iinc (v := 4) (lv' := [(10, _), (11, _), (8, _), (6, _), (15, _), (13, _), (2, _), (4, _), (0, _), (1, _)]) 260 dX11_divide_257 rfl rfl rfl rfl rfl ?_
    refine zi_goto 183 dX11_divide_260 (by decide) ?_
    refine zi_iload 185 dX11_divide_183 rfl rfl ?_
    refine zi_iconst (v := 4) 186 dX11_divide_185 (by decide) rfl ?_
    refine zi_icmp_ge 189 263 dX11_divide_186 (by decide) rfl (fun c_186 => ?_) (fun c_186 => absurd c_186 (by decide))
    obtain ⟨R3, N8, fT, fP, fQ, fO⟩ : ∃ R3, rN B D (uR m R3) h h7 ∧ ro R3 8 = z4i (dvT P Q 0) ∧ ro R3 0 = z4i P ∧ ro R3 4 = z4i Q ∧ ∀ i, (i < 8 ∨ 20 ≤ i) → R3 i = wR m i := ⟨_, N7, by rw [dv_TH hS]; rfl, eP, eQ, fun i hi => (u4 (a := 8) (by omega)).trans (eO i (by omega))⟩
    refine zi_iload_n 264 dX11_divide_263 rfl rfl ?_
    refine zi_if_ne 267 279 dX11_divide_264 (by decide) rfl (fun c_264 => absurd c_264 (by decide)) (fun c_264 => ?_)
    refine zi_aload_n 268 dX11_divide_267 rfl rfl ?_
    refine zi_bipush (v := 16) 270 dX11_divide_268 (by decide) rfl ?_
    refine zi_iconst (v := 4) 271 dX11_divide_270 (by decide) rfl ?_
    refine zi_bipush (v := 8) 273 dX11_divide_271 (by decide) rfl ?_
    refine zc_virtual (n' := (0, 0)) (md' := mX11_multiply) 276 dX11_divide_273 tw_1039 zv_X11_multiply zcl_X11 (s_X11_multiply B h7 D hD _ N8.1 16 4 8 (by omega) (by omega) (by omega)) N8.1.1 rfl rfl rfl rfl rfl rfl rfl rfl (zk_v fun h9 n9 => ?_)
    have N9 := rN_t N8 n9
    refine zi_goto 288 dX11_divide_276 (by decide) ?_
    obtain ⟨R4, N10, gK, gT, gP, gO⟩ : ∃ R4, rN B D (uR m R4) h h9 ∧ ro R4 16 = z4i (dvK P Q 0) ∧ ro R4 8 = z4i (dvT P Q 0) ∧ ro R4 0 = z4i P ∧ ∀ i, (i < 8 ∨ 20 ≤ i) → R4 i = wR m i := ⟨_, N9, by show zMul (ro R3 4) (ro R3 8) = _; rw [fT, fQ]; exact (dv_K (s := 0) ok).1, fT, fP, fun i hi => (p4_o (a := 16) _ (by omega)).trans (fO i hi)⟩
    refine zi_iconst (v := 0) 289 dX11_divide_288 (by decide) rfl ?_
    refine zi_istore (lv' := [(10, _), (11, _), (8, _), (6, _), (15, _), (13, _), (2, _), (4, _), (0, _), (1, _)]) 291 dX11_divide_289 rfl rfl rfl ?_
    refine zi_iload 293 dX11_divide_291 rfl rfl ?_
    refine zi_iconst (v := 4) 294 dX11_divide_293 (by decide) rfl ?_
    refine zi_icmp_ge 297 333 dX11_divide_294 (by decide) rfl (fun c_294 => absurd c_294 (by decide)) (fun c_294 => ?_)
    refine zi_aload_n 298 dX11_divide_297 rfl rfl ?_
    refine zi_getfield 301 9 dX11_divide_298 zcl_X11 tw_872 rfl rfl N10.1.1 rfl rfl ?_
    refine zi_bipush (v := 12) 303 dX11_divide_301 (by decide) rfl ?_
    refine zi_iload 305 dX11_divide_303 rfl rfl ?_
    refine zi_iadd 306 dX11_divide_305 rfl ?_
    rw [show (12 : Int32) + 0 = 12 from rfl]
    refine zi_aload_n 307 dX11_divide_306 rfl rfl ?_
    refine zi_getfield 310 9 dX11_divide_307 zcl_X11 tw_872 rfl rfl N10.1.1 rfl rfl ?_
    refine zi_iconst (v := 0) 311 dX11_divide_310 (by decide) rfl ?_
    refine zi_iload 313 dX11_divide_311 rfl rfl ?_
    refine zi_iadd 314 dX11_divide_313 rfl ?_
    rw [show (0 : Int32) + 0 = 0 from rfl]
    refine zi_laload 315 dX11_divide_314 N10.1.2.2.2.2.2.2.2.2.1 (vp_in_nI (show 0 < 80 by decide) (by decide)) rfl ?_
    rw [show Int32.toNatClampNeg 0 = 0 from rfl]
    rw [show wR _ 0 = iz P.1 from congrArg (fun v : z4 => v.1) gP]
    refine zi_aload_n 316 dX11_divide_315 rfl rfl ?_
    refine zi_getfield 319 9 dX11_divide_316 zcl_X11 tw_872 rfl rfl N10.1.1 rfl rfl ?_
    refine zi_bipush (v := 16) 321 dX11_divide_319 (by decide) rfl ?_
    refine zi_iload 323 dX11_divide_321 rfl rfl ?_
    refine zi_iadd 324 dX11_divide_323 rfl ?_
    rw [show (16 : Int32) + 0 = 16 from rfl]
    refine zi_laload 325 dX11_divide_324 N10.1.2.2.2.2.2.2.2.2.1 (vp_in_nI (show 16 < 80 by decide) (by decide)) rfl ?_
    rw [show Int32.toNatClampNeg 16 = 16 from rfl]
    rw [show wR _ 16 = iz (dvK P Q 0).1 from congrArg (fun v : z4 => v.1) gK]
    refine zi_lsub 326 dX11_divide_325 rfl ?_
    rw [iz_sub]
    refine zi_lastore 327 dX11_divide_326 N10.1.2.2.2.2.2.2.2.2.1 (vp_in_nI (show 12 < 80 by decide) (by decide)) rfl ?_
    rw [show Int32.toNatClampNeg 12 = 12 from rfl]
    refine zk_h (fun h11 k11 => ?_)
    have N11 := rN_R hD N10 k11
    refine zi_iinc (v := 1) (lv' := [(10, _), (11, _), (8, _), (6, _), (15, _), (13, _), (2, _), (4, _), (0, _), (1, _)]) 330 dX11_divide_327 rfl rfl rfl rfl rfl ?_
    refine zi_goto 291 dX11_divide_330 (by decide) ?_
    refine zi_iload 293 dX11_divide_291 rfl rfl ?_
    refine zi_iconst (v := 4) 294 dX11_divide_293 (by decide) rfl ?_
    refine zi_icmp_ge 297 333 dX11_divide_294 (by decide) rfl (fun c_294 => absurd c_294 (by decide)) (fun c_294 => ?_)
    refine zi_aload_n 298 dX11_divide_297 rfl rfl ?_
    refine zi_getfield 301 9 dX11_divide_298 zcl_X11 tw_872 rfl rfl N11.1.1 rfl rfl ?_
    refine zi_bipush (v := 12) 303 dX11_divide_301 (by decide) rfl ?_
    refine zi_iload 305 dX11_divide_303 rfl rfl ?_
    refine zi_iadd 306 dX11_divide_305 rfl ?_
    rw [show (12 : Int32) + 1 = 13 from rfl]
    refine zi_aload_n 307 dX11_divide_306 rfl rfl ?_
    refine zi_getfield 310 9 dX11_divide_307 zcl_X11 tw_872 rfl rfl N11.1.1 rfl rfl ?_
    refine zi_iconst (v := 0) 311 dX11_divide_310 (by decide) rfl ?_
    refine zi_iload 313 dX11_divide_311 rfl rfl ?_
    refine zi_iadd 314 dX11_divide_313 rfl ?_
    rw [show (0 : Int32) + 1 = 1 from rfl]
    refine zi_laload 315 dX11_divide_314 N11.1.2.2.2.2.2.2.2.2.1 (vp_in_nI (show 1 < 80 by decide) (by decide)) rfl ?_
    rw [show Int32.toNatClampNeg 1 = 1 from rfl]
    rw [show wR _ 1 = iz P.2.1 from congrArg (fun v : z4 => v.2.1) gP]
    refine zi_aload_n 316 dX11_divide_315 rfl rfl ?_
    refine zi_getfield 319 9 dX11_divide_316 zcl_X11 tw_872 rfl rfl N11.1.1 rfl rfl ?_
    refine zi_bipush (v := 16) 321 dX11_divide_319 (by decide) rfl ?_
    refine zi_iload 323 dX11_divide_321 rfl rfl ?_
    refine zi_iadd 324 dX11_divide_323 rfl ?_
    rw [show (16 : Int32) + 1 = 17 from rfl]
    refine zi_laload 325 dX11_divide_324 N11.1.2.2.2.2.2.2.2.2.1 (vp_in_nI (show 17 < 80 by decide) (by decide)) rfl ?_
    rw [show Int32.toNatClampNeg 17 = 17 from rfl]
    rw [show wR _ 17 = iz (dvK P Q 0).2.1 from congrArg (fun v : z4 => v.2.1) gK]
    refine zi_lsub 326 dX11_divide_325 rfl ?_
    rw [iz_sub]
    refine zi_lastore 327 dX11_divide_326 N11.1.2.2.2.2.2.2.2.2.1 (vp_in_nI (show 13 < 80 by decide) (by decide)) rfl ?_
    rw [show Int32.toNatClampNeg 13 = 13 from rfl]
    refine zk_h (fun h12 k12 => ?_)
    have N12 := rN_R hD N11 k12
    refine zi_iinc (v := 2) (lv' := [(10, _), (11, _), (8, _), (6, _), (15, _), (13, _), (2, _), (4, _), (0, _), (1, _)]) 330 dX11_divide_327 rfl rfl rfl rfl rfl ?_
    refine zi_goto 291 dX11_divide_330 (by decide) ?_
    refine zi_iload 293 dX11_divide_291 rfl rfl ?_
    refine zi_iconst (v := 4) 294 dX11_divide_293 (by decide) rfl ?_
    refine zi_icmp_ge 297 333 dX11_divide_294 (by decide) rfl (fun c_294 => absurd c_294 (by decide)) (fun c_294 => ?_)
    refine zi_aload_n 298 dX11_divide_297 rfl rfl ?_
    refine zi_getfield 301 9 dX11_divide_298 zcl_X11 tw_872 rfl rfl N12.1.1 rfl rfl ?_
    refine zi_bipush (v := 12) 303 dX11_divide_301 (by decide) rfl ?_
    refine zi_iload 305 dX11_divide_303 rfl rfl ?_
    refine zi_iadd 306 dX11_divide_305 rfl ?_
    rw [show (12 : Int32) + 2 = 14 from rfl]
    refine zi_aload_n 307 dX11_divide_306 rfl rfl ?_
    refine zi_getfield 310 9 dX11_divide_307 zcl_X11 tw_872 rfl rfl N12.1.1 rfl rfl ?_
    refine zi_iconst (v := 0) 311 dX11_divide_310 (by decide) rfl ?_
    refine zi_iload 313 dX11_divide_311 rfl rfl ?_
    refine zi_iadd 314 dX11_divide_313 rfl ?_
    rw [show (0 : Int32) + 2 = 2 from rfl]
    refine zi_laload 315 dX11_divide_314 N12.1.2.2.2.2.2.2.2.2.1 (vp_in_nI (show 2 < 80 by decide) (by decide)) rfl ?_
    rw [show Int32.toNatClampNeg 2 = 2 from rfl]
    rw [show wR _ 2 = iz P.2.2.1 from congrArg (fun v : z4 => v.2.2.1) gP]
    refine zi_aload_n 316 dX11_divide_315 rfl rfl ?_
    refine zi_getfield 319 9 dX11_divide_316 zcl_X11 tw_872 rfl rfl N12.1.1 rfl rfl ?_
    refine zi_bipush (v := 16) 321 dX11_divide_319 (by decide) rfl ?_
    refine zi_iload 323 dX11_divide_321 rfl rfl ?_
    refine zi_iadd 324 dX11_divide_323 rfl ?_
    rw [show (16 : Int32) + 2 = 18 from rfl]
    refine zi_laload 325 dX11_divide_324 N12.1.2.2.2.2.2.2.2.2.1 (vp_in_nI (show 18 < 80 by decide) (by decide)) rfl ?_
    rw [show Int32.toNatClampNeg 18 = 18 from rfl]
    rw [show wR _ 18 = iz (dvK P Q 0).2.2.1 from congrArg (fun v : z4 => v.2.2.1) gK]
    refine zi_lsub 326 dX11_divide_325 rfl ?_
    rw [iz_sub]
    refine zi_lastore 327 dX11_divide_326 N12.1.2.2.2.2.2.2.2.2.1 (vp_in_nI (show 14 < 80 by decide) (by decide)) rfl ?_
    rw [show Int32.toNatClampNeg 14 = 14 from rfl]
    refine zk_h (fun h13 k13 => ?_)
    have N13 := rN_R hD N12 k13
    refine zi_iinc (v := 3) (lv' := [(10, _), (11, _), (8, _), (6, _), (15, _), (13, _), (2, _), (4, _), (0, _), (1, _)]) 330 dX11_divide_327 rfl rfl rfl rfl rfl ?_
    refine zi_goto 291 dX11_divide_330 (by decide) ?_
    refine zi_iload 293 dX11_divide_291 rfl rfl ?_
    refine zi_iconst (v := 4) 294 dX11_divide_293 (by decide) rfl ?_
    refine zi_icmp_ge 297 333 dX11_divide_294 (by decide) rfl (fun c_294 => absurd c_294 (by decide)) (fun c_294 => ?_)
    refine zi_aload_n 298 dX11_divide_297 rfl rfl ?_
    refine zi_getfield 301 9 dX11_divide_298 zcl_X11 tw_872 rfl rfl N13.1.1 rfl rfl ?_
    refine zi_bipush (v := 12) 303 dX11_divide_301 (by decide) rfl ?_
    refine zi_iload 305 dX11_divide_303 rfl rfl ?_
    refine zi_iadd 306 dX11_divide_305 rfl ?_
    rw [show (12 : Int32) + 3 = 15 from rfl]
    refine zi_aload_n 307 dX11_divide_306 rfl rfl ?_
    refine zi_getfield 310 9 dX11_divide_307 zcl_X11 tw_872 rfl rfl N13.1.1 rfl rfl ?_
    refine zi_iconst (v := 0) 311 dX11_divide_310 (by decide) rfl ?_
    refine zi_iload 313 dX11_divide_311 rfl rfl ?_
    refine zi_iadd 314 dX11_divide_313 rfl ?_
    rw [show (0 : Int32) + 3 = 3 from rfl]
    refine zi_laload 315 dX11_divide_314 N13.1.2.2.2.2.2.2.2.2.1 (vp_in_nI (show 3 < 80 by decide) (by decide)) rfl ?_
    rw [show Int32.toNatClampNeg 3 = 3 from rfl]
    rw [show wR _ 3 = iz P.2.2.2 from congrArg (fun v : z4 => v.2.2.2) gP]
    refine zi_aload_n 316 dX11_divide_315 rfl rfl ?_
    refine zi_getfield 319 9 dX11_divide_316 zcl_X11 tw_872 rfl rfl N13.1.1 rfl rfl ?_
    refine zi_bipush (v := 16) 321 dX11_divide_319 (by decide) rfl ?_
    refine zi_iload 323 dX11_divide_321 rfl rfl ?_
    refine zi_iadd 324 dX11_divide_323 rfl ?_
    rw [show (16 : Int32) + 3 = 19 from rfl]
    refine zi_laload 325 dX11_divide_324 N13.1.2.2.2.2.2.2.2.2.1 (vp_in_nI (show 19 < 80 by decide) (by decide)) rfl ?_
    rw [show Int32.toNatClampNeg 19 = 19 from rfl]
    rw [show wR _ 19 = iz (dvK P Q 0).2.2.2 from congrArg (fun v : z4 => v.2.2.2) gK]
    refine zi_lsub 326 dX11_divide_325 rfl ?_
    rw [iz_sub]
    refine zi_lastore 327 dX11_divide_326 N13.1.2.2.2.2.2.2.2.2.1 (vp_in_nI (show 15 < 80 by decide) (by decide)) rfl ?_
    rw [show Int32.toNatClampNeg 15 = 15 from rfl]
    refine zk_h (fun h14 k14 => ?_)
    have N14 := rN_R hD N13 k14
    refine zi_iinc (v := 4) (lv' := [(10, _), (11, _), (8, _), (6, _), (15, _), (13, _), (2, _), (4, _), (0, _), (1, _)]) 330 dX11_divide_327 rfl rfl rfl rfl rfl ?_
    refine zi_goto 291 dX11_divide_330 (by decide) ?_
    refine zi_iload 293 dX11_divide_291 rfl rfl ?_
    refine zi_iconst (v := 4) 294 dX11_divide_293 (by decide) rfl ?_
    refine zi_icmp_ge 297 333 dX11_divide_294 (by decide) rfl (fun c_294 => ?_) (fun c_294 => absurd c_294 (by decide))
    exact zr_void hZ dX11_divide_333 rfl ⟨rfl, _, N14, gT, rfl, fun i hi => (u4 (a := 12) (by omega)).trans (gO i (by omega))⟩
  ·
    refine zi_aload_n 1 dX11_divide_0 rfl rfl ?_
    refine zi_iconst (v := 4) 2 dX11_divide_1 (by decide) rfl ?_
    refine zc_virtual (n' := (0, 0)) (md' := mX11_norm4) 5 dX11_divide_2 tw_948 zv_X11_norm4 zcl_X11 (s_X11_norm4 B h D hD _ N0.1 4 (by omega)) N0.1.1 rfl rfl rfl rfl rfl rfl rfl rfl (zk_f ?_)
    rw [show zNm (ro (wR m) 4) = iz (i4n Q) from (congrArg zNm hQ).trans (z4i_n (by omega))]
    refine zi_lstore_n (lv' := [(2, _), (0, _), (1, _)]) 6 dX11_divide_5 rfl rfl rfl ?_
    refine zi_aload_n 7 dX11_divide_6 rfl rfl ?_
    refine zi_bipush (v := 16) 9 dX11_divide_7 (by decide) rfl ?_
    refine zi_iconst (v := 4) 10 dX11_divide_9 (by decide) rfl ?_
    refine zc_virtual (n' := (0, 0)) (md' := mX11_turnBack) 13 dX11_divide_10 tw_1055 zv_X11_turnBack zcl_X11 (s_X11_turnBack B h D hD _ N0.1 16 4 (by omega) (by omega)) N0.1.1 rfl rfl rfl rfl rfl rfl rfl rfl (zk_v fun h1 n1 => ?_)
    have N1 := rN_t N0 n1
    refine zi_iload_n 14 dX11_divide_13 rfl rfl ?_
    refine zi_if_ne 17 29 dX11_divide_14 (by decide) rfl (fun c_14 => absurd c_14 (by decide)) (fun c_14 => ?_)
    refine zi_aload_n 18 dX11_divide_17 rfl rfl ?_
    refine zi_bipush (v := 16) 20 dX11_divide_18 (by decide) rfl ?_
    refine zi_bipush (v := 16) 22 dX11_divide_20 (by decide) rfl ?_
    refine zi_iconst (v := 0) 23 dX11_divide_22 (by decide) rfl ?_
    refine zc_virtual (n' := (0, 0)) (md' := mX11_multiply) 26 dX11_divide_23 tw_1039 zv_X11_multiply zcl_X11 (s_X11_multiply B h1 D hD _ N1.1 16 16 0 (by omega) (by omega) (by omega)) N1.1.1 rfl rfl rfl rfl rfl rfl rfl rfl (zk_v fun h2 n2 => ?_)
    have N2 := rN_t N1 n2
    refine zi_goto 38 dX11_divide_26 (by decide) ?_
    obtain ⟨R, N3, eU, eP, eQ, eO⟩ : ∃ R, rN B D (uR m R) h h2 ∧ ro R 16 = z4i (dvU P Q 0) ∧ ro R 0 = z4i P ∧ ro R 4 = z4i Q ∧ ∀ i, (i < 16 ∨ 20 ≤ i) → R i = wR m i := ⟨_, N2, by show zMul (zBk (ro (wR m) 4)) (ro (wR m) 0) = _; rw [hP, hQ]; exact (dv_U (s := 0) ok).1, hP, hQ, fun i hi => (p4_o (a := 16) _ (by omega)).trans (p4_o (a := 16) _ (by omega))⟩
    refine zi_lload_n 39 dX11_divide_38 rfl rfl ?_
    refine zi_lstore (lv' := [(4, _), (2, _), (0, _), (1, _)]) 41 dX11_divide_39 rfl rfl rfl ?_
    refine zi_iconst (v := 0) 42 dX11_divide_41 (by decide) rfl ?_
    refine zi_istore (lv' := [(6, _), (4, _), (2, _), (0, _), (1, _)]) 44 dX11_divide_42 rfl rfl rfl ?_
    refine zi_iload 46 dX11_divide_44 rfl rfl ?_
    refine zi_iconst (v := 4) 47 dX11_divide_46 (by decide) rfl ?_
    refine zi_icmp_ge 50 73 dX11_divide_47 (by decide) rfl (fun c_47 => absurd c_47 (by decide)) (fun c_47 => ?_)
    refine zi_lload 52 dX11_divide_50 rfl rfl ?_
    refine zi_aload_n 53 dX11_divide_52 rfl rfl ?_
    refine zi_getfield 56 9 dX11_divide_53 zcl_X11 tw_872 rfl rfl N3.1.1 rfl rfl ?_
    refine zi_bipush (v := 16) 58 dX11_divide_56 (by decide) rfl ?_
    refine zi_iload 60 dX11_divide_58 rfl rfl ?_
    refine zi_iadd 61 dX11_divide_60 rfl ?_
    rw [show (16 : Int32) + 0 = 16 from rfl]
    refine zi_laload 62 dX11_divide_61 N3.1.2.2.2.2.2.2.2.2.1 (vp_in_nI (show 16 < 80 by decide) (by decide)) rfl ?_
    rw [show Int32.toNatClampNeg 16 = 16 from rfl]
    rw [show wR _ 16 = iz (dvU P Q 0).1 from congrArg (fun v : z4 => v.1) eU]
    refine zc_static (n' := (0, 0)) (md' := mX11_divisor) 65 dX11_divide_62 tw_970 zs_X11_divisor (s_X11_divisor B h2 _ _ (iz_nm (by omega)) (iz_nm (by omega))) rfl rfl rfl rfl rfl rfl rfl rfl (zk_f ?_)
    rw [gcd_iz (by omega) (by omega)]
    refine zi_lstore (lv' := [(4, _), (6, _), (2, _), (0, _), (1, _)]) 67 dX11_divide_65 rfl rfl rfl ?_
    refine zi_iinc (v := 1) (lv' := [(6, _), (4, _), (2, _), (0, _), (1, _)]) 70 dX11_divide_67 rfl rfl rfl rfl rfl ?_
    refine zi_goto 44 dX11_divide_70 (by decide) ?_
    refine zi_iload 46 dX11_divide_44 rfl rfl ?_
    refine zi_iconst (v := 4) 47 dX11_divide_46 (by decide) rfl ?_
    refine zi_icmp_ge 50 73 dX11_divide_47 (by decide) rfl (fun c_47 => absurd c_47 (by decide)) (fun c_47 => ?_)
    refine zi_lload 52 dX11_divide_50 rfl rfl ?_
    refine zi_aload_n 53 dX11_divide_52 rfl rfl ?_
    refine zi_getfield 56 9 dX11_divide_53 zcl_X11 tw_872 rfl rfl N3.1.1 rfl rfl ?_
    refine zi_bipush (v := 16) 58 dX11_divide_56 (by decide) rfl ?_
    refine zi_iload 60 dX11_divide_58 rfl rfl ?_
    refine zi_iadd 61 dX11_divide_60 rfl ?_
    rw [show (16 : Int32) + 1 = 17 from rfl]
    refine zi_laload 62 dX11_divide_61 N3.1.2.2.2.2.2.2.2.2.1 (vp_in_nI (show 17 < 80 by decide) (by decide)) rfl ?_
    rw [show Int32.toNatClampNeg 17 = 17 from rfl]
    rw [show wR _ 17 = iz (dvU P Q 0).2.1 from congrArg (fun v : z4 => v.2.1) eU]
    refine zc_static (n' := (0, 0)) (md' := mX11_divisor) 65 dX11_divide_62 tw_970 zs_X11_divisor (s_X11_divisor B h2 _ _ (lN_nm (gcd_lt (by omega) (by omega))) (iz_nm (by omega))) rfl rfl rfl rfl rfl rfl rfl rfl (zk_f ?_)
    rw [dv_gcd (gcd_lt (by omega) (by omega)) (by omega)]
    refine zi_lstore (lv' := [(4, _), (6, _), (2, _), (0, _), (1, _)]) 67 dX11_divide_65 rfl rfl rfl ?_
    refine zi_iinc (v := 2) (lv' := [(6, _), (4, _), (2, _), (0, _), (1, _)]) 70 dX11_divide_67 rfl rfl rfl rfl rfl ?_
    refine zi_goto 44 dX11_divide_70 (by decide) ?_
    refine zi_iload 46 dX11_divide_44 rfl rfl ?_
    refine zi_iconst (v := 4) 47 dX11_divide_46 (by decide) rfl ?_
    refine zi_icmp_ge 50 73 dX11_divide_47 (by decide) rfl (fun c_47 => absurd c_47 (by decide)) (fun c_47 => ?_)
    refine zi_lload 52 dX11_divide_50 rfl rfl ?_
    refine zi_aload_n 53 dX11_divide_52 rfl rfl ?_
    refine zi_getfield 56 9 dX11_divide_53 zcl_X11 tw_872 rfl rfl N3.1.1 rfl rfl ?_
    refine zi_bipush (v := 16) 58 dX11_divide_56 (by decide) rfl ?_
    refine zi_iload 60 dX11_divide_58 rfl rfl ?_
    refine zi_iadd 61 dX11_divide_60 rfl ?_
    rw [show (16 : Int32) + 2 = 18 from rfl]
    refine zi_laload 62 dX11_divide_61 N3.1.2.2.2.2.2.2.2.2.1 (vp_in_nI (show 18 < 80 by decide) (by decide)) rfl ?_
    rw [show Int32.toNatClampNeg 18 = 18 from rfl]
    rw [show wR _ 18 = iz (dvU P Q 0).2.2.1 from congrArg (fun v : z4 => v.2.2.1) eU]
    refine zc_static (n' := (0, 0)) (md' := mX11_divisor) 65 dX11_divide_62 tw_970 zs_X11_divisor (s_X11_divisor B h2 _ _ (lN_nm (gcd_lt (gcd_lt (by omega) (by omega)) (by omega))) (iz_nm (by omega))) rfl rfl rfl rfl rfl rfl rfl rfl (zk_f ?_)
    rw [dv_gcd (gcd_lt (gcd_lt (by omega) (by omega)) (by omega)) (by omega)]
    refine zi_lstore (lv' := [(4, _), (6, _), (2, _), (0, _), (1, _)]) 67 dX11_divide_65 rfl rfl rfl ?_
    refine zi_iinc (v := 3) (lv' := [(6, _), (4, _), (2, _), (0, _), (1, _)]) 70 dX11_divide_67 rfl rfl rfl rfl rfl ?_
    refine zi_goto 44 dX11_divide_70 (by decide) ?_
    refine zi_iload 46 dX11_divide_44 rfl rfl ?_
    refine zi_iconst (v := 4) 47 dX11_divide_46 (by decide) rfl ?_
    refine zi_icmp_ge 50 73 dX11_divide_47 (by decide) rfl (fun c_47 => absurd c_47 (by decide)) (fun c_47 => ?_)
    refine zi_lload 52 dX11_divide_50 rfl rfl ?_
    refine zi_aload_n 53 dX11_divide_52 rfl rfl ?_
    refine zi_getfield 56 9 dX11_divide_53 zcl_X11 tw_872 rfl rfl N3.1.1 rfl rfl ?_
    refine zi_bipush (v := 16) 58 dX11_divide_56 (by decide) rfl ?_
    refine zi_iload 60 dX11_divide_58 rfl rfl ?_
    refine zi_iadd 61 dX11_divide_60 rfl ?_
    rw [show (16 : Int32) + 3 = 19 from rfl]
    refine zi_laload 62 dX11_divide_61 N3.1.2.2.2.2.2.2.2.2.1 (vp_in_nI (show 19 < 80 by decide) (by decide)) rfl ?_
    rw [show Int32.toNatClampNeg 19 = 19 from rfl]
    rw [show wR _ 19 = iz (dvU P Q 0).2.2.2 from congrArg (fun v : z4 => v.2.2.2) eU]
    refine zc_static (n' := (0, 0)) (md' := mX11_divisor) 65 dX11_divide_62 tw_970 zs_X11_divisor (s_X11_divisor B h2 _ _ (lN_nm (gcd_lt (gcd_lt (gcd_lt (by omega) (by omega)) (by omega)) (by omega))) (iz_nm (by omega))) rfl rfl rfl rfl rfl rfl rfl rfl (zk_f ?_)
    rw [dv_gcd (gcd_lt (gcd_lt (gcd_lt (by omega) (by omega)) (by omega)) (by omega)) (by omega), eGc]
    refine zi_lstore (lv' := [(4, _), (6, _), (2, _), (0, _), (1, _)]) 67 dX11_divide_65 rfl rfl rfl ?_
    refine zi_iinc (v := 4) (lv' := [(6, _), (4, _), (2, _), (0, _), (1, _)]) 70 dX11_divide_67 rfl rfl rfl rfl rfl ?_
    refine zi_goto 44 dX11_divide_70 (by decide) ?_
    refine zi_iload 46 dX11_divide_44 rfl rfl ?_
    refine zi_iconst (v := 4) 47 dX11_divide_46 (by decide) rfl ?_
    refine zi_icmp_ge 50 73 dX11_divide_47 (by decide) rfl (fun c_47 => ?_) (fun c_47 => absurd c_47 (by decide))
    refine zi_lload_n 74 dX11_divide_73 rfl rfl ?_
    refine zi_lload 76 dX11_divide_74 rfl rfl ?_
    refine zi_ldiv 77 dX11_divide_76 (fun e => by rw [lN_0e hG63] at e; omega) rfl ?_
    rw [iz_lN_div hq2 ⟨by omega, by omega⟩ (by omega)]
    refine zi_lstore_n (lv' := [(2, _), (6, _), (4, _), (0, _), (1, _)]) 78 dX11_divide_77 rfl rfl rfl ?_
    refine zi_lconst (v := 0) 79 dX11_divide_78 (by decide) rfl ?_
    refine zi_lstore (lv' := [(6, _), (2, _), (4, _), (0, _), (1, _)]) 81 dX11_divide_79 rfl rfl rfl ?_
    refine zi_lconst (v := 0) 82 dX11_divide_81 (by decide) rfl ?_
    refine zi_lstore (lv' := [(8, _), (6, _), (2, _), (4, _), (0, _), (1, _)]) 84 dX11_divide_82 rfl rfl rfl ?_
    refine zi_iconst (v := 0) 85 dX11_divide_84 (by decide) rfl ?_
    refine zi_istore (lv' := [(10, _), (8, _), (6, _), (2, _), (4, _), (0, _), (1, _)]) 87 dX11_divide_85 rfl rfl rfl ?_
    refine zi_iload 89 dX11_divide_87 rfl rfl ?_
    refine zi_iconst (v := 4) 90 dX11_divide_89 (by decide) rfl ?_
    refine zi_icmp_ge 93 180 dX11_divide_90 (by decide) rfl (fun c_90 => absurd c_90 (by decide)) (fun c_90 => ?_)
    refine zi_aload_n 94 dX11_divide_93 rfl rfl ?_
    refine zi_getfield 97 9 dX11_divide_94 zcl_X11 tw_872 rfl rfl N3.1.1 rfl rfl ?_
    refine zi_bipush (v := 16) 99 dX11_divide_97 (by decide) rfl ?_
    refine zi_iload 101 dX11_divide_99 rfl rfl ?_
    refine zi_iadd 102 dX11_divide_101 rfl ?_
    rw [show (16 : Int32) + 0 = 16 from rfl]
    refine zi_laload 103 dX11_divide_102 N3.1.2.2.2.2.2.2.2.2.1 (vp_in_nI (show 16 < 80 by decide) (by decide)) rfl ?_
    rw [show Int32.toNatClampNeg 16 = 16 from rfl]
    rw [show wR _ 16 = iz (dvU P Q 0).1 from congrArg (fun v : z4 => v.1) eU]
    refine zi_lload 105 dX11_divide_103 rfl rfl ?_
    refine zi_ldiv 106 dX11_divide_105 (fun e => by rw [lN_0e hG63] at e; omega) rfl ?_
    rw [iz_dx (by omega) hG63 gd0, show (dvU P Q 0).1 / ((dvG P Q 0) : Int) = (dvu P Q 0).1 from rfl]
    refine zi_lstore (lv' := [(11, _), (10, _), (8, _), (6, _), (2, _), (4, _), (0, _), (1, _)]) 108 dX11_divide_106 rfl rfl rfl ?_
    refine zi_lload 110 dX11_divide_108 rfl rfl ?_
    refine zi_ldc2 113 dX11_divide_110 tw_909 rfl ?_
    refine zi_lload_n 114 dX11_divide_113 rfl rfl ?_
    refine zi_lmul 115 dX11_divide_114 rfl ?_
    refine zi_lload 117 dX11_divide_115 rfl rfl ?_
    refine zi_lload_n 118 dX11_divide_117 rfl rfl ?_
    refine zi_ladd 119 dX11_divide_118 rfl ?_
    refine zi_ldc2 122 dX11_divide_119 tw_909 rfl ?_
    refine zi_lload_n 123 dX11_divide_122 rfl rfl ?_
    refine zi_lmul 124 dX11_divide_123 rfl ?_
    rw [iz_2, iz_mul, iz_add]
    refine zc_static (n' := (0, 0)) (md' := mX11_down) 127 dX11_divide_124 tw_1068 zs_X11_down (s_X11_down B h2 _ _ (by omega) (by omega) (by omega) (by omega)) rfl rfl rfl rfl rfl rfl rfl rfl (zk_f ?_)
    refine zi_lmul 128 dX11_divide_127 rfl ?_
    refine zi_lsub 129 dX11_divide_128 rfl ?_
    rw [iz_mul, iz_sub, eWh]
    refine zi_lstore (lv' := [(13, _), (11, _), (10, _), (8, _), (6, _), (2, _), (4, _), (0, _), (1, _)]) 131 dX11_divide_129 rfl rfl rfl ?_
    refine zi_lload 133 dX11_divide_131 rfl rfl ?_
    refine zi_lload_n 134 dX11_divide_133 rfl rfl ?_
    refine zi_ldc2 137 dX11_divide_134 tw_909 rfl ?_
    refine zi_lload 139 dX11_divide_137 rfl rfl ?_
    refine zi_ldc2 142 dX11_divide_139 tw_909 rfl ?_
    refine zi_lload_n 143 dX11_divide_142 rfl rfl ?_
    refine zi_lmul 144 dX11_divide_143 rfl ?_
    rw [iz_2, iz_mul]
    refine zc_static (n' := (0, 0)) (md' := mX11_down) 147 dX11_divide_144 tw_1068 zs_X11_down (s_X11_down B h2 _ _ (by omega) (by omega) (by omega) (by omega)) rfl rfl rfl rfl rfl rfl rfl rfl (zk_f ?_)
    refine zi_lmul 148 dX11_divide_147 rfl ?_
    refine zi_lconst (v := 1) 149 dX11_divide_148 (by decide) rfl ?_
    refine zi_ladd 150 dX11_divide_149 rfl ?_
    refine zi_lmul 151 dX11_divide_150 rfl ?_
    refine zi_lsub 152 dX11_divide_151 rfl ?_
    rw [iz_mul, iz_1, iz_add, iz_mul, iz_sub, eHf]
    refine zi_lstore (lv' := [(15, _), (13, _), (11, _), (10, _), (8, _), (6, _), (2, _), (4, _), (0, _), (1, _)]) 154 dX11_divide_152 rfl rfl rfl ?_
    refine zi_lload 156 dX11_divide_154 rfl rfl ?_
    refine zi_lload 158 dX11_divide_156 rfl rfl ?_
    refine zi_lload 160 dX11_divide_158 rfl rfl ?_
    refine zi_lmul 161 dX11_divide_160 rfl ?_
    refine zi_ladd 162 dX11_divide_161 rfl ?_
    rw [iz_mul, Int64.zero_add]
    refine zi_lstore (lv' := [(6, _), (15, _), (13, _), (11, _), (10, _), (8, _), (2, _), (4, _), (0, _), (1, _)]) 164 dX11_divide_162 rfl rfl rfl ?_
    refine zi_lload 166 dX11_divide_164 rfl rfl ?_
    refine zi_lload 168 dX11_divide_166 rfl rfl ?_
    refine zi_lload 170 dX11_divide_168 rfl rfl ?_
    refine zi_lmul 171 dX11_divide_170 rfl ?_
    refine zi_ladd 172 dX11_divide_171 rfl ?_
    rw [iz_mul, Int64.zero_add]
    refine zi_lstore (lv' := [(8, _), (6, _), (15, _), (13, _), (11, _), (10, _), (2, _), (4, _), (0, _), (1, _)]) 174 dX11_divide_172 rfl rfl rfl ?_
    refine zi_iinc (v := 1) (lv' := [(10, _), (8, _), (6, _), (15, _), (13, _), (11, _), (2, _), (4, _), (0, _), (1, _)]) 177 dX11_divide_174 rfl rfl rfl rfl rfl ?_
    refine zi_goto 87 dX11_divide_177 (by decide) ?_
    refine zi_iload 89 dX11_divide_87 rfl rfl ?_
    refine zi_iconst (v := 4) 90 dX11_divide_89 (by decide) rfl ?_
    refine zi_icmp_ge 93 180 dX11_divide_90 (by decide) rfl (fun c_90 => absurd c_90 (by decide)) (fun c_90 => ?_)
    refine zi_aload_n 94 dX11_divide_93 rfl rfl ?_
    refine zi_getfield 97 9 dX11_divide_94 zcl_X11 tw_872 rfl rfl N3.1.1 rfl rfl ?_
    refine zi_bipush (v := 16) 99 dX11_divide_97 (by decide) rfl ?_
    refine zi_iload 101 dX11_divide_99 rfl rfl ?_
    refine zi_iadd 102 dX11_divide_101 rfl ?_
    rw [show (16 : Int32) + 1 = 17 from rfl]
    refine zi_laload 103 dX11_divide_102 N3.1.2.2.2.2.2.2.2.2.1 (vp_in_nI (show 17 < 80 by decide) (by decide)) rfl ?_
    rw [show Int32.toNatClampNeg 17 = 17 from rfl]
    rw [show wR _ 17 = iz (dvU P Q 0).2.1 from congrArg (fun v : z4 => v.2.1) eU]
    refine zi_lload 105 dX11_divide_103 rfl rfl ?_
    refine zi_ldiv 106 dX11_divide_105 (fun e => by rw [lN_0e hG63] at e; omega) rfl ?_
    rw [iz_dx (by omega) hG63 gd1, show (dvU P Q 0).2.1 / ((dvG P Q 0) : Int) = (dvu P Q 0).2.1 from rfl]
    refine zi_lstore (lv' := [(11, _), (10, _), (8, _), (6, _), (15, _), (13, _), (2, _), (4, _), (0, _), (1, _)]) 108 dX11_divide_106 rfl rfl rfl ?_
    refine zi_lload 110 dX11_divide_108 rfl rfl ?_
    refine zi_ldc2 113 dX11_divide_110 tw_909 rfl ?_
    refine zi_lload_n 114 dX11_divide_113 rfl rfl ?_
    refine zi_lmul 115 dX11_divide_114 rfl ?_
    refine zi_lload 117 dX11_divide_115 rfl rfl ?_
    refine zi_lload_n 118 dX11_divide_117 rfl rfl ?_
    refine zi_ladd 119 dX11_divide_118 rfl ?_
    refine zi_ldc2 122 dX11_divide_119 tw_909 rfl ?_
    refine zi_lload_n 123 dX11_divide_122 rfl rfl ?_
    refine zi_lmul 124 dX11_divide_123 rfl ?_
    rw [iz_2, iz_mul, iz_add]
    refine zc_static (n' := (0, 0)) (md' := mX11_down) 127 dX11_divide_124 tw_1068 zs_X11_down (s_X11_down B h2 _ _ (by omega) (by omega) (by omega) (by omega)) rfl rfl rfl rfl rfl rfl rfl rfl (zk_f ?_)
    refine zi_lmul 128 dX11_divide_127 rfl ?_
    refine zi_lsub 129 dX11_divide_128 rfl ?_
    rw [iz_mul, iz_sub, eWh]
    refine zi_lstore (lv' := [(13, _), (11, _), (10, _), (8, _), (6, _), (15, _), (2, _), (4, _), (0, _), (1, _)]) 131 dX11_divide_129 rfl rfl rfl ?_
    refine zi_lload 133 dX11_divide_131 rfl rfl ?_
    refine zi_lload_n 134 dX11_divide_133 rfl rfl ?_
    refine zi_ldc2 137 dX11_divide_134 tw_909 rfl ?_
    refine zi_lload 139 dX11_divide_137 rfl rfl ?_
    refine zi_ldc2 142 dX11_divide_139 tw_909 rfl ?_
    refine zi_lload_n 143 dX11_divide_142 rfl rfl ?_
    refine zi_lmul 144 dX11_divide_143 rfl ?_
    rw [iz_2, iz_mul]
    refine zc_static (n' := (0, 0)) (md' := mX11_down) 147 dX11_divide_144 tw_1068 zs_X11_down (s_X11_down B h2 _ _ (by omega) (by omega) (by omega) (by omega)) rfl rfl rfl rfl rfl rfl rfl rfl (zk_f ?_)
    refine zi_lmul 148 dX11_divide_147 rfl ?_
    refine zi_lconst (v := 1) 149 dX11_divide_148 (by decide) rfl ?_
    refine zi_ladd 150 dX11_divide_149 rfl ?_
    refine zi_lmul 151 dX11_divide_150 rfl ?_
    refine zi_lsub 152 dX11_divide_151 rfl ?_
    rw [iz_mul, iz_1, iz_add, iz_mul, iz_sub, eHf]
    refine zi_lstore (lv' := [(15, _), (13, _), (11, _), (10, _), (8, _), (6, _), (2, _), (4, _), (0, _), (1, _)]) 154 dX11_divide_152 rfl rfl rfl ?_
    refine zi_lload 156 dX11_divide_154 rfl rfl ?_
    refine zi_lload 158 dX11_divide_156 rfl rfl ?_
    refine zi_lload 160 dX11_divide_158 rfl rfl ?_
    refine zi_lmul 161 dX11_divide_160 rfl ?_
    refine zi_ladd 162 dX11_divide_161 rfl ?_
    rw [iz_mul, iz_add]
    refine zi_lstore (lv' := [(6, _), (15, _), (13, _), (11, _), (10, _), (8, _), (2, _), (4, _), (0, _), (1, _)]) 164 dX11_divide_162 rfl rfl rfl ?_
    refine zi_lload 166 dX11_divide_164 rfl rfl ?_
    refine zi_lload 168 dX11_divide_166 rfl rfl ?_
    refine zi_lload 170 dX11_divide_168 rfl rfl ?_
    refine zi_lmul 171 dX11_divide_170 rfl ?_
    refine zi_ladd 172 dX11_divide_171 rfl ?_
    rw [iz_mul, iz_add]
    refine zi_lstore (lv' := [(8, _), (6, _), (15, _), (13, _), (11, _), (10, _), (2, _), (4, _), (0, _), (1, _)]) 174 dX11_divide_172 rfl rfl rfl ?_
    refine zi_iinc (v := 2) (lv' := [(10, _), (8, _), (6, _), (15, _), (13, _), (11, _), (2, _), (4, _), (0, _), (1, _)]) 177 dX11_divide_174 rfl rfl rfl rfl rfl ?_
    refine zi_goto 87 dX11_divide_177 (by decide) ?_
    refine zi_iload 89 dX11_divide_87 rfl rfl ?_
    refine zi_iconst (v := 4) 90 dX11_divide_89 (by decide) rfl ?_
    refine zi_icmp_ge 93 180 dX11_divide_90 (by decide) rfl (fun c_90 => absurd c_90 (by decide)) (fun c_90 => ?_)
    refine zi_aload_n 94 dX11_divide_93 rfl rfl ?_
    refine zi_getfield 97 9 dX11_divide_94 zcl_X11 tw_872 rfl rfl N3.1.1 rfl rfl ?_
    refine zi_bipush (v := 16) 99 dX11_divide_97 (by decide) rfl ?_
    refine zi_iload 101 dX11_divide_99 rfl rfl ?_
    refine zi_iadd 102 dX11_divide_101 rfl ?_
    rw [show (16 : Int32) + 2 = 18 from rfl]
    refine zi_laload 103 dX11_divide_102 N3.1.2.2.2.2.2.2.2.2.1 (vp_in_nI (show 18 < 80 by decide) (by decide)) rfl ?_
    rw [show Int32.toNatClampNeg 18 = 18 from rfl]
    rw [show wR _ 18 = iz (dvU P Q 0).2.2.1 from congrArg (fun v : z4 => v.2.2.1) eU]
    refine zi_lload 105 dX11_divide_103 rfl rfl ?_
    refine zi_ldiv 106 dX11_divide_105 (fun e => by rw [lN_0e hG63] at e; omega) rfl ?_
    rw [iz_dx (by omega) hG63 gd2, show (dvU P Q 0).2.2.1 / ((dvG P Q 0) : Int) = (dvu P Q 0).2.2.1 from rfl]
    refine zi_lstore (lv' := [(11, _), (10, _), (8, _), (6, _), (15, _), (13, _), (2, _), (4, _), (0, _), (1, _)]) 108 dX11_divide_106 rfl rfl rfl ?_
    refine zi_lload 110 dX11_divide_108 rfl rfl ?_
    refine zi_ldc2 113 dX11_divide_110 tw_909 rfl ?_
    refine zi_lload_n 114 dX11_divide_113 rfl rfl ?_
    refine zi_lmul 115 dX11_divide_114 rfl ?_
    refine zi_lload 117 dX11_divide_115 rfl rfl ?_
    refine zi_lload_n 118 dX11_divide_117 rfl rfl ?_
    refine zi_ladd 119 dX11_divide_118 rfl ?_
    refine zi_ldc2 122 dX11_divide_119 tw_909 rfl ?_
    refine zi_lload_n 123 dX11_divide_122 rfl rfl ?_
    refine zi_lmul 124 dX11_divide_123 rfl ?_
    rw [iz_2, iz_mul, iz_add]
    refine zc_static (n' := (0, 0)) (md' := mX11_down) 127 dX11_divide_124 tw_1068 zs_X11_down (s_X11_down B h2 _ _ (by omega) (by omega) (by omega) (by omega)) rfl rfl rfl rfl rfl rfl rfl rfl (zk_f ?_)
    refine zi_lmul 128 dX11_divide_127 rfl ?_
    refine zi_lsub 129 dX11_divide_128 rfl ?_
    rw [iz_mul, iz_sub, eWh]
    refine zi_lstore (lv' := [(13, _), (11, _), (10, _), (8, _), (6, _), (15, _), (2, _), (4, _), (0, _), (1, _)]) 131 dX11_divide_129 rfl rfl rfl ?_
    refine zi_lload 133 dX11_divide_131 rfl rfl ?_
    refine zi_lload_n 134 dX11_divide_133 rfl rfl ?_
    refine zi_ldc2 137 dX11_divide_134 tw_909 rfl ?_
    refine zi_lload 139 dX11_divide_137 rfl rfl ?_
    refine zi_ldc2 142 dX11_divide_139 tw_909 rfl ?_
    refine zi_lload_n 143 dX11_divide_142 rfl rfl ?_
    refine zi_lmul 144 dX11_divide_143 rfl ?_
    rw [iz_2, iz_mul]
    refine zc_static (n' := (0, 0)) (md' := mX11_down) 147 dX11_divide_144 tw_1068 zs_X11_down (s_X11_down B h2 _ _ (by omega) (by omega) (by omega) (by omega)) rfl rfl rfl rfl rfl rfl rfl rfl (zk_f ?_)
    refine zi_lmul 148 dX11_divide_147 rfl ?_
    refine zi_lconst (v := 1) 149 dX11_divide_148 (by decide) rfl ?_
    refine zi_ladd 150 dX11_divide_149 rfl ?_
    refine zi_lmul 151 dX11_divide_150 rfl ?_
    refine zi_lsub 152 dX11_divide_151 rfl ?_
    rw [iz_mul, iz_1, iz_add, iz_mul, iz_sub, eHf]
    refine zi_lstore (lv' := [(15, _), (13, _), (11, _), (10, _), (8, _), (6, _), (2, _), (4, _), (0, _), (1, _)]) 154 dX11_divide_152 rfl rfl rfl ?_
    refine zi_lload 156 dX11_divide_154 rfl rfl ?_
    refine zi_lload 158 dX11_divide_156 rfl rfl ?_
    refine zi_lload 160 dX11_divide_158 rfl rfl ?_
    refine zi_lmul 161 dX11_divide_160 rfl ?_
    refine zi_ladd 162 dX11_divide_161 rfl ?_
    rw [iz_mul, iz_add]
    refine zi_lstore (lv' := [(6, _), (15, _), (13, _), (11, _), (10, _), (8, _), (2, _), (4, _), (0, _), (1, _)]) 164 dX11_divide_162 rfl rfl rfl ?_
    refine zi_lload 166 dX11_divide_164 rfl rfl ?_
    refine zi_lload 168 dX11_divide_166 rfl rfl ?_
    refine zi_lload 170 dX11_divide_168 rfl rfl ?_
    refine zi_lmul 171 dX11_divide_170 rfl ?_
    refine zi_ladd 172 dX11_divide_171 rfl ?_
    rw [iz_mul, iz_add]
    refine zi_lstore (lv' := [(8, _), (6, _), (15, _), (13, _), (11, _), (10, _), (2, _), (4, _), (0, _), (1, _)]) 174 dX11_divide_172 rfl rfl rfl ?_
    refine zi_iinc (v := 3) (lv' := [(10, _), (8, _), (6, _), (15, _), (13, _), (11, _), (2, _), (4, _), (0, _), (1, _)]) 177 dX11_divide_174 rfl rfl rfl rfl rfl ?_
    refine zi_goto 87 dX11_divide_177 (by decide) ?_
    refine zi_iload 89 dX11_divide_87 rfl rfl ?_
    refine zi_iconst (v := 4) 90 dX11_divide_89 (by decide) rfl ?_
    refine zi_icmp_ge 93 180 dX11_divide_90 (by decide) rfl (fun c_90 => absurd c_90 (by decide)) (fun c_90 => ?_)
    refine zi_aload_n 94 dX11_divide_93 rfl rfl ?_
    refine zi_getfield 97 9 dX11_divide_94 zcl_X11 tw_872 rfl rfl N3.1.1 rfl rfl ?_
    refine zi_bipush (v := 16) 99 dX11_divide_97 (by decide) rfl ?_
    refine zi_iload 101 dX11_divide_99 rfl rfl ?_
    refine zi_iadd 102 dX11_divide_101 rfl ?_
    rw [show (16 : Int32) + 3 = 19 from rfl]
    refine zi_laload 103 dX11_divide_102 N3.1.2.2.2.2.2.2.2.2.1 (vp_in_nI (show 19 < 80 by decide) (by decide)) rfl ?_
    rw [show Int32.toNatClampNeg 19 = 19 from rfl]
    rw [show wR _ 19 = iz (dvU P Q 0).2.2.2 from congrArg (fun v : z4 => v.2.2.2) eU]
    refine zi_lload 105 dX11_divide_103 rfl rfl ?_
    refine zi_ldiv 106 dX11_divide_105 (fun e => by rw [lN_0e hG63] at e; omega) rfl ?_
    rw [iz_dx (by omega) hG63 gd3, show (dvU P Q 0).2.2.2 / ((dvG P Q 0) : Int) = (dvu P Q 0).2.2.2 from rfl]
    refine zi_lstore (lv' := [(11, _), (10, _), (8, _), (6, _), (15, _), (13, _), (2, _), (4, _), (0, _), (1, _)]) 108 dX11_divide_106 rfl rfl rfl ?_
    refine zi_lload 110 dX11_divide_108 rfl rfl ?_
    refine zi_ldc2 113 dX11_divide_110 tw_909 rfl ?_
    refine zi_lload_n 114 dX11_divide_113 rfl rfl ?_
    refine zi_lmul 115 dX11_divide_114 rfl ?_
    refine zi_lload 117 dX11_divide_115 rfl rfl ?_
    refine zi_lload_n 118 dX11_divide_117 rfl rfl ?_
    refine zi_ladd 119 dX11_divide_118 rfl ?_
    refine zi_ldc2 122 dX11_divide_119 tw_909 rfl ?_
    refine zi_lload_n 123 dX11_divide_122 rfl rfl ?_
    refine zi_lmul 124 dX11_divide_123 rfl ?_
    rw [iz_2, iz_mul, iz_add]
    refine zc_static (n' := (0, 0)) (md' := mX11_down) 127 dX11_divide_124 tw_1068 zs_X11_down (s_X11_down B h2 _ _ (by omega) (by omega) (by omega) (by omega)) rfl rfl rfl rfl rfl rfl rfl rfl (zk_f ?_)
    refine zi_lmul 128 dX11_divide_127 rfl ?_
    refine zi_lsub 129 dX11_divide_128 rfl ?_
    rw [iz_mul, iz_sub, eWh]
    refine zi_lstore (lv' := [(13, _), (11, _), (10, _), (8, _), (6, _), (15, _), (2, _), (4, _), (0, _), (1, _)]) 131 dX11_divide_129 rfl rfl rfl ?_
    refine zi_lload 133 dX11_divide_131 rfl rfl ?_
    refine zi_lload_n 134 dX11_divide_133 rfl rfl ?_
    refine zi_ldc2 137 dX11_divide_134 tw_909 rfl ?_
    refine zi_lload 139 dX11_divide_137 rfl rfl ?_
    refine zi_ldc2 142 dX11_divide_139 tw_909 rfl ?_
    refine zi_lload_n 143 dX11_divide_142 rfl rfl ?_
    refine zi_lmul 144 dX11_divide_143 rfl ?_
    rw [iz_2, iz_mul]
    refine zc_static (n' := (0, 0)) (md' := mX11_down) 147 dX11_divide_144 tw_1068 zs_X11_down (s_X11_down B h2 _ _ (by omega) (by omega) (by omega) (by omega)) rfl rfl rfl rfl rfl rfl rfl rfl (zk_f ?_)
    refine zi_lmul 148 dX11_divide_147 rfl ?_
    refine zi_lconst (v := 1) 149 dX11_divide_148 (by decide) rfl ?_
    refine zi_ladd 150 dX11_divide_149 rfl ?_
    refine zi_lmul 151 dX11_divide_150 rfl ?_
    refine zi_lsub 152 dX11_divide_151 rfl ?_
    rw [iz_mul, iz_1, iz_add, iz_mul, iz_sub, eHf]
    refine zi_lstore (lv' := [(15, _), (13, _), (11, _), (10, _), (8, _), (6, _), (2, _), (4, _), (0, _), (1, _)]) 154 dX11_divide_152 rfl rfl rfl ?_
    refine zi_lload 156 dX11_divide_154 rfl rfl ?_
    refine zi_lload 158 dX11_divide_156 rfl rfl ?_
    refine zi_lload 160 dX11_divide_158 rfl rfl ?_
    refine zi_lmul 161 dX11_divide_160 rfl ?_
    refine zi_ladd 162 dX11_divide_161 rfl ?_
    rw [iz_mul, iz_add]
    rw [show ((dvu P Q 0).1 - zE (dvu P Q 0).1 (dvn P Q 0) * (dvn P Q 0)) * ((dvu P Q 0).1 - zE (dvu P Q 0).1 (dvn P Q 0) * (dvn P Q 0)) + ((dvu P Q 0).2.1 - zE (dvu P Q 0).2.1 (dvn P Q 0) * (dvn P Q 0)) * ((dvu P Q 0).2.1 - zE (dvu P Q 0).2.1 (dvn P Q 0) * (dvn P Q 0)) + ((dvu P Q 0).2.2.1 - zE (dvu P Q 0).2.2.1 (dvn P Q 0) * (dvn P Q 0)) * ((dvu P Q 0).2.2.1 - zE (dvu P Q 0).2.2.1 (dvn P Q 0) * (dvn P Q 0)) + ((dvu P Q 0).2.2.2 - zE (dvu P Q 0).2.2.2 (dvn P Q 0) * (dvn P Q 0)) * ((dvu P Q 0).2.2.2 - zE (dvu P Q 0).2.2.2 (dvn P Q 0) * (dvn P Q 0)) = i4S (dvu P Q 0) (i4E (dvu P Q 0) (dvn P Q 0)) (dvn P Q 0) from rfl]
    refine zi_lstore (lv' := [(6, _), (15, _), (13, _), (11, _), (10, _), (8, _), (2, _), (4, _), (0, _), (1, _)]) 164 dX11_divide_162 rfl rfl rfl ?_
    refine zi_lload 166 dX11_divide_164 rfl rfl ?_
    refine zi_lload 168 dX11_divide_166 rfl rfl ?_
    refine zi_lload 170 dX11_divide_168 rfl rfl ?_
    refine zi_lmul 171 dX11_divide_170 rfl ?_
    refine zi_ladd 172 dX11_divide_171 rfl ?_
    rw [iz_mul, iz_add]
    rw [show ((dvu P Q 0).1 - zH (dvu P Q 0).1 (dvn P Q 0) * (dvn P Q 0)) * ((dvu P Q 0).1 - zH (dvu P Q 0).1 (dvn P Q 0) * (dvn P Q 0)) + ((dvu P Q 0).2.1 - zH (dvu P Q 0).2.1 (dvn P Q 0) * (dvn P Q 0)) * ((dvu P Q 0).2.1 - zH (dvu P Q 0).2.1 (dvn P Q 0) * (dvn P Q 0)) + ((dvu P Q 0).2.2.1 - zH (dvu P Q 0).2.2.1 (dvn P Q 0) * (dvn P Q 0)) * ((dvu P Q 0).2.2.1 - zH (dvu P Q 0).2.2.1 (dvn P Q 0) * (dvn P Q 0)) + ((dvu P Q 0).2.2.2 - zH (dvu P Q 0).2.2.2 (dvn P Q 0) * (dvn P Q 0)) * ((dvu P Q 0).2.2.2 - zH (dvu P Q 0).2.2.2 (dvn P Q 0) * (dvn P Q 0)) = i4S (dvu P Q 0) (i4H (dvu P Q 0) (dvn P Q 0)) (dvn P Q 0) from rfl]
    refine zi_lstore (lv' := [(8, _), (6, _), (15, _), (13, _), (11, _), (10, _), (2, _), (4, _), (0, _), (1, _)]) 174 dX11_divide_172 rfl rfl rfl ?_
    refine zi_iinc (v := 4) (lv' := [(10, _), (8, _), (6, _), (15, _), (13, _), (11, _), (2, _), (4, _), (0, _), (1, _)]) 177 dX11_divide_174 rfl rfl rfl rfl rfl ?_
    refine zi_goto 87 dX11_divide_177 (by decide) ?_
    refine zi_iload 89 dX11_divide_87 rfl rfl ?_
    refine zi_iconst (v := 4) 90 dX11_divide_89 (by decide) rfl ?_
    refine zi_icmp_ge 93 180 dX11_divide_90 (by decide) rfl (fun c_90 => ?_) (fun c_90 => absurd c_90 (by decide))
    refine zi_iconst (v := 0) 181 dX11_divide_180 (by decide) rfl ?_
    refine zi_istore (lv' := [(10, _), (8, _), (6, _), (15, _), (13, _), (11, _), (2, _), (4, _), (0, _), (1, _)]) 183 dX11_divide_181 rfl rfl rfl ?_
    refine zi_iload 185 dX11_divide_183 rfl rfl ?_
    refine zi_iconst (v := 4) 186 dX11_divide_185 (by decide) rfl ?_
    refine zi_icmp_ge 189 263 dX11_divide_186 (by decide) rfl (fun c_186 => absurd c_186 (by decide)) (fun c_186 => ?_)
    refine zi_aload_n 190 dX11_divide_189 rfl rfl ?_
    refine zi_getfield 193 9 dX11_divide_190 zcl_X11 tw_872 rfl rfl N3.1.1 rfl rfl ?_
    refine zi_bipush (v := 16) 195 dX11_divide_193 (by decide) rfl ?_
    refine zi_iload 197 dX11_divide_195 rfl rfl ?_
    refine zi_iadd 198 dX11_divide_197 rfl ?_
    rw [show (16 : Int32) + 0 = 16 from rfl]
    refine zi_laload 199 dX11_divide_198 N3.1.2.2.2.2.2.2.2.2.1 (vp_in_nI (show 16 < 80 by decide) (by decide)) rfl ?_
    rw [show Int32.toNatClampNeg 16 = 16 from rfl]
    rw [show wR _ 16 = iz (dvU P Q 0).1 from congrArg (fun v : z4 => v.1) eU]
    refine zi_lload 201 dX11_divide_199 rfl rfl ?_
    refine zi_ldiv 202 dX11_divide_201 (fun e => by rw [lN_0e hG63] at e; omega) rfl ?_
    rw [iz_dx (by omega) hG63 gd0, show (dvU P Q 0).1 / ((dvG P Q 0) : Int) = (dvu P Q 0).1 from rfl]
    refine zi_lstore (lv' := [(11, _), (10, _), (8, _), (6, _), (15, _), (13, _), (2, _), (4, _), (0, _), (1, _)]) 204 dX11_divide_202 rfl rfl rfl ?_
    refine zi_aload_n 205 dX11_divide_204 rfl rfl ?_
    refine zi_getfield 208 9 dX11_divide_205 zcl_X11 tw_872 rfl rfl N3.1.1 rfl rfl ?_
    refine zi_bipush (v := 8) 210 dX11_divide_208 (by decide) rfl ?_
    refine zi_iload 212 dX11_divide_210 rfl rfl ?_
    refine zi_iadd 213 dX11_divide_212 rfl ?_
    rw [show (8 : Int32) + 0 = 8 from rfl]
    refine zi_lload 215 dX11_divide_213 rfl rfl ?_
    refine zi_lload 217 dX11_divide_215 rfl rfl ?_
    refine zj_gt 221 240 dX11_divide_217 rfl dX11_divide_218 (by decide) rfl (fun zzC => absurd ((iz_lt bH bE).mp zzC) hS) (fun zzC => ?_)
    refine zi_ldc2 224 dX11_divide_221 tw_909 rfl ?_
    refine zi_lload 226 dX11_divide_224 rfl rfl ?_
    refine zi_lload_n 227 dX11_divide_226 rfl rfl ?_
    refine zi_ladd 228 dX11_divide_227 rfl ?_
    refine zi_ldc2 231 dX11_divide_228 tw_909 rfl ?_
    refine zi_lload_n 232 dX11_divide_231 rfl rfl ?_
    refine zi_lmul 233 dX11_divide_232 rfl ?_
    rw [iz_2, iz_mul, iz_add]
    refine zc_static (n' := (0, 0)) (md' := mX11_down) 236 dX11_divide_233 tw_1068 zs_X11_down (s_X11_down B h2 _ _ (by omega) (by omega) (by omega) (by omega)) rfl rfl rfl rfl rfl rfl rfl rfl (zk_f ?_)
    refine zi_lmul 237 dX11_divide_236 rfl ?_
    refine zi_goto 256 dX11_divide_237 (by decide) ?_
    rw [iz_mul, show 2 * (((dvu P Q 0).1 + (dvn P Q 0)) / (2 * (dvn P Q 0))) = zE (dvu P Q 0).1 (dvn P Q 0) from rfl]
    refine zi_lastore 257 dX11_divide_256 N3.1.2.2.2.2.2.2.2.2.1 (vp_in_nI (show 8 < 80 by decide) (by decide)) rfl ?_
    rw [show Int32.toNatClampNeg 8 = 8 from rfl]
    refine zk_h (fun h4 k4 => ?_)
    have N4 := rN_R hD N3 k4
    refine zi_iinc (v := 1) (lv' := [(10, _), (11, _), (8, _), (6, _), (15, _), (13, _), (2, _), (4, _), (0, _), (1, _)]) 260 dX11_divide_257 rfl rfl rfl rfl rfl ?_
    refine zi_goto 183 dX11_divide_260 (by decide) ?_
    refine zi_iload 185 dX11_divide_183 rfl rfl ?_
    refine zi_iconst (v := 4) 186 dX11_divide_185 (by decide) rfl ?_
    refine zi_icmp_ge 189 263 dX11_divide_186 (by decide) rfl (fun c_186 => absurd c_186 (by decide)) (fun c_186 => ?_)
    refine zi_aload_n 190 dX11_divide_189 rfl rfl ?_
    refine zi_getfield 193 9 dX11_divide_190 zcl_X11 tw_872 rfl rfl N4.1.1 rfl rfl ?_
    refine zi_bipush (v := 16) 195 dX11_divide_193 (by decide) rfl ?_
    refine zi_iload 197 dX11_divide_195 rfl rfl ?_
    refine zi_iadd 198 dX11_divide_197 rfl ?_
    rw [show (16 : Int32) + 1 = 17 from rfl]
    refine zi_laload 199 dX11_divide_198 N4.1.2.2.2.2.2.2.2.2.1 (vp_in_nI (show 17 < 80 by decide) (by decide)) rfl ?_
    rw [show Int32.toNatClampNeg 17 = 17 from rfl]
    rw [show wR _ 17 = iz (dvU P Q 0).2.1 from congrArg (fun v : z4 => v.2.1) eU]
    refine zi_lload 201 dX11_divide_199 rfl rfl ?_
    refine zi_ldiv 202 dX11_divide_201 (fun e => by rw [lN_0e hG63] at e; omega) rfl ?_
    rw [iz_dx (by omega) hG63 gd1, show (dvU P Q 0).2.1 / ((dvG P Q 0) : Int) = (dvu P Q 0).2.1 from rfl]
    refine zi_lstore (lv' := [(11, _), (10, _), (8, _), (6, _), (15, _), (13, _), (2, _), (4, _), (0, _), (1, _)]) 204 dX11_divide_202 rfl rfl rfl ?_
    refine zi_aload_n 205 dX11_divide_204 rfl rfl ?_
    refine zi_getfield 208 9 dX11_divide_205 zcl_X11 tw_872 rfl rfl N4.1.1 rfl rfl ?_
    refine zi_bipush (v := 8) 210 dX11_divide_208 (by decide) rfl ?_
    refine zi_iload 212 dX11_divide_210 rfl rfl ?_
    refine zi_iadd 213 dX11_divide_212 rfl ?_
    rw [show (8 : Int32) + 1 = 9 from rfl]
    refine zi_lload 215 dX11_divide_213 rfl rfl ?_
    refine zi_lload 217 dX11_divide_215 rfl rfl ?_
    refine zj_gt 221 240 dX11_divide_217 rfl dX11_divide_218 (by decide) rfl (fun zzC => absurd ((iz_lt bH bE).mp zzC) hS) (fun zzC => ?_)
    refine zi_ldc2 224 dX11_divide_221 tw_909 rfl ?_
    refine zi_lload 226 dX11_divide_224 rfl rfl ?_
    refine zi_lload_n 227 dX11_divide_226 rfl rfl ?_
    refine zi_ladd 228 dX11_divide_227 rfl ?_
    refine zi_ldc2 231 dX11_divide_228 tw_909 rfl ?_
    refine zi_lload_n 232 dX11_divide_231 rfl rfl ?_
    refine zi_lmul 233 dX11_divide_232 rfl ?_
    rw [iz_2, iz_mul, iz_add]
    refine zc_static (n' := (0, 0)) (md' := mX11_down) 236 dX11_divide_233 tw_1068 zs_X11_down (s_X11_down B h4 _ _ (by omega) (by omega) (by omega) (by omega)) rfl rfl rfl rfl rfl rfl rfl rfl (zk_f ?_)
    refine zi_lmul 237 dX11_divide_236 rfl ?_
    refine zi_goto 256 dX11_divide_237 (by decide) ?_
    rw [iz_mul, show 2 * (((dvu P Q 0).2.1 + (dvn P Q 0)) / (2 * (dvn P Q 0))) = zE (dvu P Q 0).2.1 (dvn P Q 0) from rfl]
    refine zi_lastore 257 dX11_divide_256 N4.1.2.2.2.2.2.2.2.2.1 (vp_in_nI (show 9 < 80 by decide) (by decide)) rfl ?_
    rw [show Int32.toNatClampNeg 9 = 9 from rfl]
    refine zk_h (fun h5 k5 => ?_)
    have N5 := rN_R hD N4 k5
    refine zi_iinc (v := 2) (lv' := [(10, _), (11, _), (8, _), (6, _), (15, _), (13, _), (2, _), (4, _), (0, _), (1, _)]) 260 dX11_divide_257 rfl rfl rfl rfl rfl ?_
    refine zi_goto 183 dX11_divide_260 (by decide) ?_
    refine zi_iload 185 dX11_divide_183 rfl rfl ?_
    refine zi_iconst (v := 4) 186 dX11_divide_185 (by decide) rfl ?_
    refine zi_icmp_ge 189 263 dX11_divide_186 (by decide) rfl (fun c_186 => absurd c_186 (by decide)) (fun c_186 => ?_)
    refine zi_aload_n 190 dX11_divide_189 rfl rfl ?_
    refine zi_getfield 193 9 dX11_divide_190 zcl_X11 tw_872 rfl rfl N5.1.1 rfl rfl ?_
    refine zi_bipush (v := 16) 195 dX11_divide_193 (by decide) rfl ?_
    refine zi_iload 197 dX11_divide_195 rfl rfl ?_
    refine zi_iadd 198 dX11_divide_197 rfl ?_
    rw [show (16 : Int32) + 2 = 18 from rfl]
    refine zi_laload 199 dX11_divide_198 N5.1.2.2.2.2.2.2.2.2.1 (vp_in_nI (show 18 < 80 by decide) (by decide)) rfl ?_
    rw [show Int32.toNatClampNeg 18 = 18 from rfl]
    rw [show wR _ 18 = iz (dvU P Q 0).2.2.1 from congrArg (fun v : z4 => v.2.2.1) eU]
    refine zi_lload 201 dX11_divide_199 rfl rfl ?_
    refine zi_ldiv 202 dX11_divide_201 (fun e => by rw [lN_0e hG63] at e; omega) rfl ?_
    rw [iz_dx (by omega) hG63 gd2, show (dvU P Q 0).2.2.1 / ((dvG P Q 0) : Int) = (dvu P Q 0).2.2.1 from rfl]
    refine zi_lstore (lv' := [(11, _), (10, _), (8, _), (6, _), (15, _), (13, _), (2, _), (4, _), (0, _), (1, _)]) 204 dX11_divide_202 rfl rfl rfl ?_
    refine zi_aload_n 205 dX11_divide_204 rfl rfl ?_
    refine zi_getfield 208 9 dX11_divide_205 zcl_X11 tw_872 rfl rfl N5.1.1 rfl rfl ?_
    refine zi_bipush (v := 8) 210 dX11_divide_208 (by decide) rfl ?_
    refine zi_iload 212 dX11_divide_210 rfl rfl ?_
    refine zi_iadd 213 dX11_divide_212 rfl ?_
    rw [show (8 : Int32) + 2 = 10 from rfl]
    refine zi_lload 215 dX11_divide_213 rfl rfl ?_
    refine zi_lload 217 dX11_divide_215 rfl rfl ?_
    refine zj_gt 221 240 dX11_divide_217 rfl dX11_divide_218 (by decide) rfl (fun zzC => absurd ((iz_lt bH bE).mp zzC) hS) (fun zzC => ?_)
    refine zi_ldc2 224 dX11_divide_221 tw_909 rfl ?_
    refine zi_lload 226 dX11_divide_224 rfl rfl ?_
    refine zi_lload_n 227 dX11_divide_226 rfl rfl ?_
    refine zi_ladd 228 dX11_divide_227 rfl ?_
    refine zi_ldc2 231 dX11_divide_228 tw_909 rfl ?_
    refine zi_lload_n 232 dX11_divide_231 rfl rfl ?_
    refine zi_lmul 233 dX11_divide_232 rfl ?_
    rw [iz_2, iz_mul, iz_add]
    refine zc_static (n' := (0, 0)) (md' := mX11_down) 236 dX11_divide_233 tw_1068 zs_X11_down (s_X11_down B h5 _ _ (by omega) (by omega) (by omega) (by omega)) rfl rfl rfl rfl rfl rfl rfl rfl (zk_f ?_)
    refine zi_lmul 237 dX11_divide_236 rfl ?_
    refine zi_goto 256 dX11_divide_237 (by decide) ?_
    rw [iz_mul, show 2 * (((dvu P Q 0).2.2.1 + (dvn P Q 0)) / (2 * (dvn P Q 0))) = zE (dvu P Q 0).2.2.1 (dvn P Q 0) from rfl]
    refine zi_lastore 257 dX11_divide_256 N5.1.2.2.2.2.2.2.2.2.1 (vp_in_nI (show 10 < 80 by decide) (by decide)) rfl ?_
    rw [show Int32.toNatClampNeg 10 = 10 from rfl]
    refine zk_h (fun h6 k6 => ?_)
    have N6 := rN_R hD N5 k6
    refine zi_iinc (v := 3) (lv' := [(10, _), (11, _), (8, _), (6, _), (15, _), (13, _), (2, _), (4, _), (0, _), (1, _)]) 260 dX11_divide_257 rfl rfl rfl rfl rfl ?_
    refine zi_goto 183 dX11_divide_260 (by decide) ?_
    refine zi_iload 185 dX11_divide_183 rfl rfl ?_
    refine zi_iconst (v := 4) 186 dX11_divide_185 (by decide) rfl ?_
    refine zi_icmp_ge 189 263 dX11_divide_186 (by decide) rfl (fun c_186 => absurd c_186 (by decide)) (fun c_186 => ?_)
    refine zi_aload_n 190 dX11_divide_189 rfl rfl ?_
    refine zi_getfield 193 9 dX11_divide_190 zcl_X11 tw_872 rfl rfl N6.1.1 rfl rfl ?_
    refine zi_bipush (v := 16) 195 dX11_divide_193 (by decide) rfl ?_
    refine zi_iload 197 dX11_divide_195 rfl rfl ?_
    refine zi_iadd 198 dX11_divide_197 rfl ?_
    rw [show (16 : Int32) + 3 = 19 from rfl]
    refine zi_laload 199 dX11_divide_198 N6.1.2.2.2.2.2.2.2.2.1 (vp_in_nI (show 19 < 80 by decide) (by decide)) rfl ?_
    rw [show Int32.toNatClampNeg 19 = 19 from rfl]
    rw [show wR _ 19 = iz (dvU P Q 0).2.2.2 from congrArg (fun v : z4 => v.2.2.2) eU]
    refine zi_lload 201 dX11_divide_199 rfl rfl ?_
    refine zi_ldiv 202 dX11_divide_201 (fun e => by rw [lN_0e hG63] at e; omega) rfl ?_
    rw [iz_dx (by omega) hG63 gd3, show (dvU P Q 0).2.2.2 / ((dvG P Q 0) : Int) = (dvu P Q 0).2.2.2 from rfl]
    refine zi_lstore (lv' := [(11, _), (10, _), (8, _), (6, _), (15, _), (13, _), (2, _), (4, _), (0, _), (1, _)]) 204 dX11_divide_202 rfl rfl rfl ?_
    refine zi_aload_n 205 dX11_divide_204 rfl rfl ?_
    refine zi_getfield 208 9 dX11_divide_205 zcl_X11 tw_872 rfl rfl N6.1.1 rfl rfl ?_
    refine zi_bipush (v := 8) 210 dX11_divide_208 (by decide) rfl ?_
    refine zi_iload 212 dX11_divide_210 rfl rfl ?_
    refine zi_iadd 213 dX11_divide_212 rfl ?_
    rw [show (8 : Int32) + 3 = 11 from rfl]
    refine zi_lload 215 dX11_divide_213 rfl rfl ?_
    refine zi_lload 217 dX11_divide_215 rfl rfl ?_
    refine zj_gt 221 240 dX11_divide_217 rfl dX11_divide_218 (by decide) rfl (fun zzC => absurd ((iz_lt bH bE).mp zzC) hS) (fun zzC => ?_)
    refine zi_ldc2 224 dX11_divide_221 tw_909 rfl ?_
    refine zi_lload 226 dX11_divide_224 rfl rfl ?_
    refine zi_lload_n 227 dX11_divide_226 rfl rfl ?_
    refine zi_ladd 228 dX11_divide_227 rfl ?_
    refine zi_ldc2 231 dX11_divide_228 tw_909 rfl ?_
    refine zi_lload_n 232 dX11_divide_231 rfl rfl ?_
    refine zi_lmul 233 dX11_divide_232 rfl ?_
    rw [iz_2, iz_mul, iz_add]
    refine zc_static (n' := (0, 0)) (md' := mX11_down) 236 dX11_divide_233 tw_1068 zs_X11_down (s_X11_down B h6 _ _ (by omega) (by omega) (by omega) (by omega)) rfl rfl rfl rfl rfl rfl rfl rfl (zk_f ?_)
    refine zi_lmul 237 dX11_divide_236 rfl ?_
    refine zi_goto 256 dX11_divide_237 (by decide) ?_
    rw [iz_mul, show 2 * (((dvu P Q 0).2.2.2 + (dvn P Q 0)) / (2 * (dvn P Q 0))) = zE (dvu P Q 0).2.2.2 (dvn P Q 0) from rfl]
    refine zi_lastore 257 dX11_divide_256 N6.1.2.2.2.2.2.2.2.2.1 (vp_in_nI (show 11 < 80 by decide) (by decide)) rfl ?_
    rw [show Int32.toNatClampNeg 11 = 11 from rfl]
    refine zk_h (fun h7 k7 => ?_)
    have N7 := rN_R hD N6 k7
    refine zi_iinc (v := 4) (lv' := [(10, _), (11, _), (8, _), (6, _), (15, _), (13, _), (2, _), (4, _), (0, _), (1, _)]) 260 dX11_divide_257 rfl rfl rfl rfl rfl ?_
    refine zi_goto 183 dX11_divide_260 (by decide) ?_
    refine zi_iload 185 dX11_divide_183 rfl rfl ?_
    refine zi_iconst (v := 4) 186 dX11_divide_185 (by decide) rfl ?_
    refine zi_icmp_ge 189 263 dX11_divide_186 (by decide) rfl (fun c_186 => ?_) (fun c_186 => absurd c_186 (by decide))
    obtain ⟨R3, N8, fT, fP, fQ, fO⟩ : ∃ R3, rN B D (uR m R3) h h7 ∧ ro R3 8 = z4i (dvT P Q 0) ∧ ro R3 0 = z4i P ∧ ro R3 4 = z4i Q ∧ ∀ i, (i < 8 ∨ 20 ≤ i) → R3 i = wR m i := ⟨_, N7, by rw [dv_TE hS]; rfl, eP, eQ, fun i hi => (u4 (a := 8) (by omega)).trans (eO i (by omega))⟩
    refine zi_iload_n 264 dX11_divide_263 rfl rfl ?_
    refine zi_if_ne 267 279 dX11_divide_264 (by decide) rfl (fun c_264 => absurd c_264 (by decide)) (fun c_264 => ?_)
    refine zi_aload_n 268 dX11_divide_267 rfl rfl ?_
    refine zi_bipush (v := 16) 270 dX11_divide_268 (by decide) rfl ?_
    refine zi_iconst (v := 4) 271 dX11_divide_270 (by decide) rfl ?_
    refine zi_bipush (v := 8) 273 dX11_divide_271 (by decide) rfl ?_
    refine zc_virtual (n' := (0, 0)) (md' := mX11_multiply) 276 dX11_divide_273 tw_1039 zv_X11_multiply zcl_X11 (s_X11_multiply B h7 D hD _ N8.1 16 4 8 (by omega) (by omega) (by omega)) N8.1.1 rfl rfl rfl rfl rfl rfl rfl rfl (zk_v fun h9 n9 => ?_)
    have N9 := rN_t N8 n9
    refine zi_goto 288 dX11_divide_276 (by decide) ?_
    obtain ⟨R4, N10, gK, gT, gP, gO⟩ : ∃ R4, rN B D (uR m R4) h h9 ∧ ro R4 16 = z4i (dvK P Q 0) ∧ ro R4 8 = z4i (dvT P Q 0) ∧ ro R4 0 = z4i P ∧ ∀ i, (i < 8 ∨ 20 ≤ i) → R4 i = wR m i := ⟨_, N9, by show zMul (ro R3 4) (ro R3 8) = _; rw [fT, fQ]; exact (dv_K (s := 0) ok).1, fT, fP, fun i hi => (p4_o (a := 16) _ (by omega)).trans (fO i hi)⟩
    refine zi_iconst (v := 0) 289 dX11_divide_288 (by decide) rfl ?_
    refine zi_istore (lv' := [(10, _), (11, _), (8, _), (6, _), (15, _), (13, _), (2, _), (4, _), (0, _), (1, _)]) 291 dX11_divide_289 rfl rfl rfl ?_
    refine zi_iload 293 dX11_divide_291 rfl rfl ?_
    refine zi_iconst (v := 4) 294 dX11_divide_293 (by decide) rfl ?_
    refine zi_icmp_ge 297 333 dX11_divide_294 (by decide) rfl (fun c_294 => absurd c_294 (by decide)) (fun c_294 => ?_)
    refine zi_aload_n 298 dX11_divide_297 rfl rfl ?_
    refine zi_getfield 301 9 dX11_divide_298 zcl_X11 tw_872 rfl rfl N10.1.1 rfl rfl ?_
    refine zi_bipush (v := 12) 303 dX11_divide_301 (by decide) rfl ?_
    refine zi_iload 305 dX11_divide_303 rfl rfl ?_
    refine zi_iadd 306 dX11_divide_305 rfl ?_
    rw [show (12 : Int32) + 0 = 12 from rfl]
    refine zi_aload_n 307 dX11_divide_306 rfl rfl ?_
    refine zi_getfield 310 9 dX11_divide_307 zcl_X11 tw_872 rfl rfl N10.1.1 rfl rfl ?_
    refine zi_iconst (v := 0) 311 dX11_divide_310 (by decide) rfl ?_
    refine zi_iload 313 dX11_divide_311 rfl rfl ?_
    refine zi_iadd 314 dX11_divide_313 rfl ?_
    rw [show (0 : Int32) + 0 = 0 from rfl]
    refine zi_laload 315 dX11_divide_314 N10.1.2.2.2.2.2.2.2.2.1 (vp_in_nI (show 0 < 80 by decide) (by decide)) rfl ?_
    rw [show Int32.toNatClampNeg 0 = 0 from rfl]
    rw [show wR _ 0 = iz P.1 from congrArg (fun v : z4 => v.1) gP]
    refine zi_aload_n 316 dX11_divide_315 rfl rfl ?_
    refine zi_getfield 319 9 dX11_divide_316 zcl_X11 tw_872 rfl rfl N10.1.1 rfl rfl ?_
    refine zi_bipush (v := 16) 321 dX11_divide_319 (by decide) rfl ?_
    refine zi_iload 323 dX11_divide_321 rfl rfl ?_
    refine zi_iadd 324 dX11_divide_323 rfl ?_
    rw [show (16 : Int32) + 0 = 16 from rfl]
    refine zi_laload 325 dX11_divide_324 N10.1.2.2.2.2.2.2.2.2.1 (vp_in_nI (show 16 < 80 by decide) (by decide)) rfl ?_
    rw [show Int32.toNatClampNeg 16 = 16 from rfl]
    rw [show wR _ 16 = iz (dvK P Q 0).1 from congrArg (fun v : z4 => v.1) gK]
    refine zi_lsub 326 dX11_divide_325 rfl ?_
    rw [iz_sub]
    refine zi_lastore 327 dX11_divide_326 N10.1.2.2.2.2.2.2.2.2.1 (vp_in_nI (show 12 < 80 by decide) (by decide)) rfl ?_
    rw [show Int32.toNatClampNeg 12 = 12 from rfl]
    refine zk_h (fun h11 k11 => ?_)
    have N11 := rN_R hD N10 k11
    refine zi_iinc (v := 1) (lv' := [(10, _), (11, _), (8, _), (6, _), (15, _), (13, _), (2, _), (4, _), (0, _), (1, _)]) 330 dX11_divide_327 rfl rfl rfl rfl rfl ?_
    refine zi_goto 291 dX11_divide_330 (by decide) ?_
    refine zi_iload 293 dX11_divide_291 rfl rfl ?_
    refine zi_iconst (v := 4) 294 dX11_divide_293 (by decide) rfl ?_
    refine zi_icmp_ge 297 333 dX11_divide_294 (by decide) rfl (fun c_294 => absurd c_294 (by decide)) (fun c_294 => ?_)
    refine zi_aload_n 298 dX11_divide_297 rfl rfl ?_
    refine zi_getfield 301 9 dX11_divide_298 zcl_X11 tw_872 rfl rfl N11.1.1 rfl rfl ?_
    refine zi_bipush (v := 12) 303 dX11_divide_301 (by decide) rfl ?_
    refine zi_iload 305 dX11_divide_303 rfl rfl ?_
    refine zi_iadd 306 dX11_divide_305 rfl ?_
    rw [show (12 : Int32) + 1 = 13 from rfl]
    refine zi_aload_n 307 dX11_divide_306 rfl rfl ?_
    refine zi_getfield 310 9 dX11_divide_307 zcl_X11 tw_872 rfl rfl N11.1.1 rfl rfl ?_
    refine zi_iconst (v := 0) 311 dX11_divide_310 (by decide) rfl ?_
    refine zi_iload 313 dX11_divide_311 rfl rfl ?_
    refine zi_iadd 314 dX11_divide_313 rfl ?_
    rw [show (0 : Int32) + 1 = 1 from rfl]
    refine zi_laload 315 dX11_divide_314 N11.1.2.2.2.2.2.2.2.2.1 (vp_in_nI (show 1 < 80 by decide) (by decide)) rfl ?_
    rw [show Int32.toNatClampNeg 1 = 1 from rfl]
    rw [show wR _ 1 = iz P.2.1 from congrArg (fun v : z4 => v.2.1) gP]
    refine zi_aload_n 316 dX11_divide_315 rfl rfl ?_
    refine zi_getfield 319 9 dX11_divide_316 zcl_X11 tw_872 rfl rfl N11.1.1 rfl rfl ?_
    refine zi_bipush (v := 16) 321 dX11_divide_319 (by decide) rfl ?_
    refine zi_iload 323 dX11_divide_321 rfl rfl ?_
    refine zi_iadd 324 dX11_divide_323 rfl ?_
    rw [show (16 : Int32) + 1 = 17 from rfl]
    refine zi_laload 325 dX11_divide_324 N11.1.2.2.2.2.2.2.2.2.1 (vp_in_nI (show 17 < 80 by decide) (by decide)) rfl ?_
    rw [show Int32.toNatClampNeg 17 = 17 from rfl]
    rw [show wR _ 17 = iz (dvK P Q 0).2.1 from congrArg (fun v : z4 => v.2.1) gK]
    refine zi_lsub 326 dX11_divide_325 rfl ?_
    rw [iz_sub]
    refine zi_lastore 327 dX11_divide_326 N11.1.2.2.2.2.2.2.2.2.1 (vp_in_nI (show 13 < 80 by decide) (by decide)) rfl ?_
    rw [show Int32.toNatClampNeg 13 = 13 from rfl]
    refine zk_h (fun h12 k12 => ?_)
    have N12 := rN_R hD N11 k12
    refine zi_iinc (v := 2) (lv' := [(10, _), (11, _), (8, _), (6, _), (15, _), (13, _), (2, _), (4, _), (0, _), (1, _)]) 330 dX11_divide_327 rfl rfl rfl rfl rfl ?_
    refine zi_goto 291 dX11_divide_330 (by decide) ?_
    refine zi_iload 293 dX11_divide_291 rfl rfl ?_
    refine zi_iconst (v := 4) 294 dX11_divide_293 (by decide) rfl ?_
    refine zi_icmp_ge 297 333 dX11_divide_294 (by decide) rfl (fun c_294 => absurd c_294 (by decide)) (fun c_294 => ?_)
    refine zi_aload_n 298 dX11_divide_297 rfl rfl ?_
    refine zi_getfield 301 9 dX11_divide_298 zcl_X11 tw_872 rfl rfl N12.1.1 rfl rfl ?_
    refine zi_bipush (v := 12) 303 dX11_divide_301 (by decide) rfl ?_
    refine zi_iload 305 dX11_divide_303 rfl rfl ?_
    refine zi_iadd 306 dX11_divide_305 rfl ?_
    rw [show (12 : Int32) + 2 = 14 from rfl]
    refine zi_aload_n 307 dX11_divide_306 rfl rfl ?_
    refine zi_getfield 310 9 dX11_divide_307 zcl_X11 tw_872 rfl rfl N12.1.1 rfl rfl ?_
    refine zi_iconst (v := 0) 311 dX11_divide_310 (by decide) rfl ?_
    refine zi_iload 313 dX11_divide_311 rfl rfl ?_
    refine zi_iadd 314 dX11_divide_313 rfl ?_
    rw [show (0 : Int32) + 2 = 2 from rfl]
    refine zi_laload 315 dX11_divide_314 N12.1.2.2.2.2.2.2.2.2.1 (vp_in_nI (show 2 < 80 by decide) (by decide)) rfl ?_
    rw [show Int32.toNatClampNeg 2 = 2 from rfl]
    rw [show wR _ 2 = iz P.2.2.1 from congrArg (fun v : z4 => v.2.2.1) gP]
    refine zi_aload_n 316 dX11_divide_315 rfl rfl ?_
    refine zi_getfield 319 9 dX11_divide_316 zcl_X11 tw_872 rfl rfl N12.1.1 rfl rfl ?_
    refine zi_bipush (v := 16) 321 dX11_divide_319 (by decide) rfl ?_
    refine zi_iload 323 dX11_divide_321 rfl rfl ?_
    refine zi_iadd 324 dX11_divide_323 rfl ?_
    rw [show (16 : Int32) + 2 = 18 from rfl]
    refine zi_laload 325 dX11_divide_324 N12.1.2.2.2.2.2.2.2.2.1 (vp_in_nI (show 18 < 80 by decide) (by decide)) rfl ?_
    rw [show Int32.toNatClampNeg 18 = 18 from rfl]
    rw [show wR _ 18 = iz (dvK P Q 0).2.2.1 from congrArg (fun v : z4 => v.2.2.1) gK]
    refine zi_lsub 326 dX11_divide_325 rfl ?_
    rw [iz_sub]
    refine zi_lastore 327 dX11_divide_326 N12.1.2.2.2.2.2.2.2.2.1 (vp_in_nI (show 14 < 80 by decide) (by decide)) rfl ?_
    rw [show Int32.toNatClampNeg 14 = 14 from rfl]
    refine zk_h (fun h13 k13 => ?_)
    have N13 := rN_R hD N12 k13
    refine zi_iinc (v := 3) (lv' := [(10, _), (11, _), (8, _), (6, _), (15, _), (13, _), (2, _), (4, _), (0, _), (1, _)]) 330 dX11_divide_327 rfl rfl rfl rfl rfl ?_
    refine zi_goto 291 dX11_divide_330 (by decide) ?_
    refine zi_iload 293 dX11_divide_291 rfl rfl ?_
    refine zi_iconst (v := 4) 294 dX11_divide_293 (by decide) rfl ?_
    refine zi_icmp_ge 297 333 dX11_divide_294 (by decide) rfl (fun c_294 => absurd c_294 (by decide)) (fun c_294 => ?_)
    refine zi_aload_n 298 dX11_divide_297 rfl rfl ?_
    refine zi_getfield 301 9 dX11_divide_298 zcl_X11 tw_872 rfl rfl N13.1.1 rfl rfl ?_
    refine zi_bipush (v := 12) 303 dX11_divide_301 (by decide) rfl ?_
    refine zi_iload 305 dX11_divide_303 rfl rfl ?_
    refine zi_iadd 306 dX11_divide_305 rfl ?_
    rw [show (12 : Int32) + 3 = 15 from rfl]
    refine zi_aload_n 307 dX11_divide_306 rfl rfl ?_
    refine zi_getfield 310 9 dX11_divide_307 zcl_X11 tw_872 rfl rfl N13.1.1 rfl rfl ?_
    refine zi_iconst (v := 0) 311 dX11_divide_310 (by decide) rfl ?_
    refine zi_iload 313 dX11_divide_311 rfl rfl ?_
    refine zi_iadd 314 dX11_divide_313 rfl ?_
    rw [show (0 : Int32) + 3 = 3 from rfl]
    refine zi_laload 315 dX11_divide_314 N13.1.2.2.2.2.2.2.2.2.1 (vp_in_nI (show 3 < 80 by decide) (by decide)) rfl ?_
    rw [show Int32.toNatClampNeg 3 = 3 from rfl]
    rw [show wR _ 3 = iz P.2.2.2 from congrArg (fun v : z4 => v.2.2.2) gP]
    refine zi_aload_n 316 dX11_divide_315 rfl rfl ?_
    refine zi_getfield 319 9 dX11_divide_316 zcl_X11 tw_872 rfl rfl N13.1.1 rfl rfl ?_
    refine zi_bipush (v := 16) 321 dX11_divide_319 (by decide) rfl ?_
    refine zi_iload 323 dX11_divide_321 rfl rfl ?_
    refine zi_iadd 324 dX11_divide_323 rfl ?_
    rw [show (16 : Int32) + 3 = 19 from rfl]
    refine zi_laload 325 dX11_divide_324 N13.1.2.2.2.2.2.2.2.2.1 (vp_in_nI (show 19 < 80 by decide) (by decide)) rfl ?_
    rw [show Int32.toNatClampNeg 19 = 19 from rfl]
    rw [show wR _ 19 = iz (dvK P Q 0).2.2.2 from congrArg (fun v : z4 => v.2.2.2) gK]
    refine zi_lsub 326 dX11_divide_325 rfl ?_
    rw [iz_sub]
    refine zi_lastore 327 dX11_divide_326 N13.1.2.2.2.2.2.2.2.2.1 (vp_in_nI (show 15 < 80 by decide) (by decide)) rfl ?_
    rw [show Int32.toNatClampNeg 15 = 15 from rfl]
    refine zk_h (fun h14 k14 => ?_)
    have N14 := rN_R hD N13 k14
    refine zi_iinc (v := 4) (lv' := [(10, _), (11, _), (8, _), (6, _), (15, _), (13, _), (2, _), (4, _), (0, _), (1, _)]) 330 dX11_divide_327 rfl rfl rfl rfl rfl ?_
    refine zi_goto 291 dX11_divide_330 (by decide) ?_
    refine zi_iload 293 dX11_divide_291 rfl rfl ?_
    refine zi_iconst (v := 4) 294 dX11_divide_293 (by decide) rfl ?_
    refine zi_icmp_ge 297 333 dX11_divide_294 (by decide) rfl (fun c_294 => ?_) (fun c_294 => absurd c_294 (by decide))
    exact zr_void hZ dX11_divide_333 rfl ⟨rfl, _, N14, gT, rfl, fun i hi => (u4 (a := 12) (by omega)).trans (gO i (by omega))⟩

set_option maxHeartbeats 8000000 in
set_option maxRecDepth 100000 in
theorem s_X11_divide1 (B : zBB) (h : zHp) (D : Nat → Nat) (hD : zInj D) (m : mS) (M : rM B D m h) (P Q : i4) (ok : dvOK P Q) (hP : ro (wR m) 0 = z4i P) (hQ : ro (wR m) 4 = z4i Q) : zSpec mX11_divide B (2, 0, 0) [.ref (D 0), .int 1] h (zPv (fun h' => ∃ R' : Nat → Int64, rN B D (uR m R') h h' ∧ ro R' 8 = z4i (dvT P Q 1) ∧ ro R' 12 = z4i (dvR P Q 1) ∧ ∀ i, (i < 8 ∨ 20 ≤ i) → R' i = wR m i)) := by
  refine zSpec.of (by decide) (Nat.le_of_ble_eq_true rfl) (fun X hZ => ?_)
  show zG X mX11_divide B (2, 0, 0) (0, 0) 0 [(0, .ref (D 0)), (1, .int 1)] [] h
  have N0 := rN_r M
  obtain ⟨oP, oQ, q0, -⟩ := id ok
  obtain ⟨hq1, hq2, hq3⟩ := dv_q ok
  obtain ⟨l0, l1, l2, l3⟩ := (dv_U (s := 1) ok).2
  obtain ⟨hn1, hn2, hF⟩ := dv_n (s := 1) ok
  obtain ⟨m0, m1, m2, m3⟩ := hF
  have hGp : 0 < (dvG P Q 1) := dvG_pos hq2
  have hG63 : (dvG P Q 1) < 2 ^ 63 := gcd_lt (g4_lt (dv_U (s := 1) ok).2 (by decide)) (by omega)
  obtain ⟨gd0, gd1, gd2, gd3⟩ := @dv_dd P Q 1
  have bE := zBt_b (zE_b4 (F := (dvu P Q 1)) hn1) hn1 hn2
  have bH := zBt_b (zH_b4 (F := (dvu P Q 1)) hn1) hn1 hn2
  by_cases hS : i4S (dvu P Q 1) (i4H (dvu P Q 1) (dvn P Q 1)) (dvn P Q 1) < i4S (dvu P Q 1) (i4E (dvu P Q 1) (dvn P Q 1)) (dvn P Q 1)
  ·
    refine zi_aload_n 1 dX11_divide_0 rfl rfl ?_
    refine zi_iconst (v := 4) 2 dX11_divide_1 (by decide) rfl ?_
    refine zc_virtual (n' := (0, 0)) (md' := mX11_norm4) 5 dX11_divide_2 tw_948 zv_X11_norm4 zcl_X11 (s_X11_norm4 B h D hD _ N0.1 4 (by omega)) N0.1.1 rfl rfl rfl rfl rfl rfl rfl rfl (zk_f ?_)
    rw [show zNm (ro (wR m) 4) = iz (i4n Q) from (congrArg zNm hQ).trans (z4i_n (by omega))]
    refine zi_lstore_n (lv' := [(2, _), (0, _), (1, _)]) 6 dX11_divide_5 rfl rfl rfl ?_
    refine zi_aload_n 7 dX11_divide_6 rfl rfl ?_
    refine zi_bipush (v := 16) 9 dX11_divide_7 (by decide) rfl ?_
    refine zi_iconst (v := 4) 10 dX11_divide_9 (by decide) rfl ?_
    refine zc_virtual (n' := (0, 0)) (md' := mX11_turnBack) 13 dX11_divide_10 tw_1055 zv_X11_turnBack zcl_X11 (s_X11_turnBack B h D hD _ N0.1 16 4 (by omega) (by omega)) N0.1.1 rfl rfl rfl rfl rfl rfl rfl rfl (zk_v fun h1 n1 => ?_)
    have N1 := rN_t N0 n1
    refine zi_iload_n 14 dX11_divide_13 rfl rfl ?_
    refine zi_if_ne 17 29 dX11_divide_14 (by decide) rfl (fun c_14 => ?_) (fun c_14 => absurd c_14 (by decide))
    refine zi_aload_n 30 dX11_divide_29 rfl rfl ?_
    refine zi_bipush (v := 16) 32 dX11_divide_30 (by decide) rfl ?_
    refine zi_iconst (v := 0) 33 dX11_divide_32 (by decide) rfl ?_
    refine zi_bipush (v := 16) 35 dX11_divide_33 (by decide) rfl ?_
    refine zc_virtual (n' := (0, 0)) (md' := mX11_multiply) 38 dX11_divide_35 tw_1039 zv_X11_multiply zcl_X11 (s_X11_multiply B h1 D hD _ N1.1 16 0 16 (by omega) (by omega) (by omega)) N1.1.1 rfl rfl rfl rfl rfl rfl rfl rfl (zk_v fun h2 n2 => ?_)
    have N2 := rN_t N1 n2
    obtain ⟨R, N3, eU, eP, eQ, eO⟩ : ∃ R, rN B D (uR m R) h h2 ∧ ro R 16 = z4i (dvU P Q 1) ∧ ro R 0 = z4i P ∧ ro R 4 = z4i Q ∧ ∀ i, (i < 16 ∨ 20 ≤ i) → R i = wR m i := ⟨_, N2, by show zMul (ro (wR m) 0) (zBk (ro (wR m) 4)) = _; rw [hP, hQ]; exact (dv_U (s := 1) ok).1, hP, hQ, fun i hi => (p4_o (a := 16) _ (by omega)).trans (p4_o (a := 16) _ (by omega))⟩
    refine zi_lload_n 39 dX11_divide_38 rfl rfl ?_
    refine zi_lstore (lv' := [(4, _), (2, _), (0, _), (1, _)]) 41 dX11_divide_39 rfl rfl rfl ?_
    refine zi_iconst (v := 0) 42 dX11_divide_41 (by decide) rfl ?_
    refine zi_istore (lv' := [(6, _), (4, _), (2, _), (0, _), (1, _)]) 44 dX11_divide_42 rfl rfl rfl ?_
    refine zi_iload 46 dX11_divide_44 rfl rfl ?_
    refine zi_iconst (v := 4) 47 dX11_divide_46 (by decide) rfl ?_
    refine zi_icmp_ge 50 73 dX11_divide_47 (by decide) rfl (fun c_47 => absurd c_47 (by decide)) (fun c_47 => ?_)
    refine zi_lload 52 dX11_divide_50 rfl rfl ?_
    refine zi_aload_n 53 dX11_divide_52 rfl rfl ?_
    refine zi_getfield 56 9 dX11_divide_53 zcl_X11 tw_872 rfl rfl N3.1.1 rfl rfl ?_
    refine zi_bipush (v := 16) 58 dX11_divide_56 (by decide) rfl ?_
    refine zi_iload 60 dX11_divide_58 rfl rfl ?_
    refine zi_iadd 61 dX11_divide_60 rfl ?_
    rw [show (16 : Int32) + 0 = 16 from rfl]
    refine zi_laload 62 dX11_divide_61 N3.1.2.2.2.2.2.2.2.2.1 (vp_in_nI (show 16 < 80 by decide) (by decide)) rfl ?_
    rw [show Int32.toNatClampNeg 16 = 16 from rfl]
    rw [show wR _ 16 = iz (dvU P Q 1).1 from congrArg (fun v : z4 => v.1) eU]
    refine zc_static (n' := (0, 0)) (md' := mX11_divisor) 65 dX11_divide_62 tw_970 zs_X11_divisor (s_X11_divisor B h2 _ _ (iz_nm (by omega)) (iz_nm (by omega))) rfl rfl rfl rfl rfl rfl rfl rfl (zk_f ?_)
    rw [gcd_iz (by omega) (by omega)]
    refine zi_lstore (lv' := [(4, _), (6, _), (2, _), (0, _), (1, _)]) 67 dX11_divide_65 rfl rfl rfl ?_
    refine zi_iinc (v := 1) (lv' := [(6, _), (4, _), (2, _), (0, _), (1, _)]) 70 dX11_divide_67 rfl rfl rfl rfl rfl ?_
    refine zi_goto 44 dX11_divide_70 (by decide) ?_
    refine zi_iload 46 dX11_divide_44 rfl rfl ?_
    refine zi_iconst (v := 4) 47 dX11_divide_46 (by decide) rfl ?_
    refine zi_icmp_ge 50 73 dX11_divide_47 (by decide) rfl (fun c_47 => absurd c_47 (by decide)) (fun c_47 => ?_)
    refine zi_lload 52 dX11_divide_50 rfl rfl ?_
    refine zi_aload_n 53 dX11_divide_52 rfl rfl ?_
    refine zi_getfield 56 9 dX11_divide_53 zcl_X11 tw_872 rfl rfl N3.1.1 rfl rfl ?_
    refine zi_bipush (v := 16) 58 dX11_divide_56 (by decide) rfl ?_
    refine zi_iload 60 dX11_divide_58 rfl rfl ?_
    refine zi_iadd 61 dX11_divide_60 rfl ?_
    rw [show (16 : Int32) + 1 = 17 from rfl]
    refine zi_laload 62 dX11_divide_61 N3.1.2.2.2.2.2.2.2.2.1 (vp_in_nI (show 17 < 80 by decide) (by decide)) rfl ?_
    rw [show Int32.toNatClampNeg 17 = 17 from rfl]
    rw [show wR _ 17 = iz (dvU P Q 1).2.1 from congrArg (fun v : z4 => v.2.1) eU]
    refine zc_static (n' := (0, 0)) (md' := mX11_divisor) 65 dX11_divide_62 tw_970 zs_X11_divisor (s_X11_divisor B h2 _ _ (lN_nm (gcd_lt (by omega) (by omega))) (iz_nm (by omega))) rfl rfl rfl rfl rfl rfl rfl rfl (zk_f ?_)
    rw [dv_gcd (gcd_lt (by omega) (by omega)) (by omega)]
    refine zi_lstore (lv' := [(4, _), (6, _), (2, _), (0, _), (1, _)]) 67 dX11_divide_65 rfl rfl rfl ?_
    refine zi_iinc (v := 2) (lv' := [(6, _), (4, _), (2, _), (0, _), (1, _)]) 70 dX11_divide_67 rfl rfl rfl rfl rfl ?_
    refine zi_goto 44 dX11_divide_70 (by decide) ?_
    refine zi_iload 46 dX11_divide_44 rfl rfl ?_
    refine zi_iconst (v := 4) 47 dX11_divide_46 (by decide) rfl ?_
    refine zi_icmp_ge 50 73 dX11_divide_47 (by decide) rfl (fun c_47 => absurd c_47 (by decide)) (fun c_47 => ?_)
    refine zi_lload 52 dX11_divide_50 rfl rfl ?_
    refine zi_aload_n 53 dX11_divide_52 rfl rfl ?_
    refine zi_getfield 56 9 dX11_divide_53 zcl_X11 tw_872 rfl rfl N3.1.1 rfl rfl ?_
    refine zi_bipush (v := 16) 58 dX11_divide_56 (by decide) rfl ?_
    refine zi_iload 60 dX11_divide_58 rfl rfl ?_
    refine zi_iadd 61 dX11_divide_60 rfl ?_
    rw [show (16 : Int32) + 2 = 18 from rfl]
    refine zi_laload 62 dX11_divide_61 N3.1.2.2.2.2.2.2.2.2.1 (vp_in_nI (show 18 < 80 by decide) (by decide)) rfl ?_
    rw [show Int32.toNatClampNeg 18 = 18 from rfl]
    rw [show wR _ 18 = iz (dvU P Q 1).2.2.1 from congrArg (fun v : z4 => v.2.2.1) eU]
    refine zc_static (n' := (0, 0)) (md' := mX11_divisor) 65 dX11_divide_62 tw_970 zs_X11_divisor (s_X11_divisor B h2 _ _ (lN_nm (gcd_lt (gcd_lt (by omega) (by omega)) (by omega))) (iz_nm (by omega))) rfl rfl rfl rfl rfl rfl rfl rfl (zk_f ?_)
    rw [dv_gcd (gcd_lt (gcd_lt (by omega) (by omega)) (by omega)) (by omega)]
    refine zi_lstore (lv' := [(4, _), (6, _), (2, _), (0, _), (1, _)]) 67 dX11_divide_65 rfl rfl rfl ?_
    refine zi_iinc (v := 3) (lv' := [(6, _), (4, _), (2, _), (0, _), (1, _)]) 70 dX11_divide_67 rfl rfl rfl rfl rfl ?_
    refine zi_goto 44 dX11_divide_70 (by decide) ?_
    refine zi_iload 46 dX11_divide_44 rfl rfl ?_
    refine zi_iconst (v := 4) 47 dX11_divide_46 (by decide) rfl ?_
    refine zi_icmp_ge 50 73 dX11_divide_47 (by decide) rfl (fun c_47 => absurd c_47 (by decide)) (fun c_47 => ?_)
    refine zi_lload 52 dX11_divide_50 rfl rfl ?_
    refine zi_aload_n 53 dX11_divide_52 rfl rfl ?_
    refine zi_getfield 56 9 dX11_divide_53 zcl_X11 tw_872 rfl rfl N3.1.1 rfl rfl ?_
    refine zi_bipush (v := 16) 58 dX11_divide_56 (by decide) rfl ?_
    refine zi_iload 60 dX11_divide_58 rfl rfl ?_
    refine zi_iadd 61 dX11_divide_60 rfl ?_
    rw [show (16 : Int32) + 3 = 19 from rfl]
    refine zi_laload 62 dX11_divide_61 N3.1.2.2.2.2.2.2.2.2.1 (vp_in_nI (show 19 < 80 by decide) (by decide)) rfl ?_
    rw [show Int32.toNatClampNeg 19 = 19 from rfl]
    rw [show wR _ 19 = iz (dvU P Q 1).2.2.2 from congrArg (fun v : z4 => v.2.2.2) eU]
    refine zc_static (n' := (0, 0)) (md' := mX11_divisor) 65 dX11_divide_62 tw_970 zs_X11_divisor (s_X11_divisor B h2 _ _ (lN_nm (gcd_lt (gcd_lt (gcd_lt (by omega) (by omega)) (by omega)) (by omega))) (iz_nm (by omega))) rfl rfl rfl rfl rfl rfl rfl rfl (zk_f ?_)
    rw [dv_gcd (gcd_lt (gcd_lt (gcd_lt (by omega) (by omega)) (by omega)) (by omega)) (by omega), eGc]
    refine zi_lstore (lv' := [(4, _), (6, _), (2, _), (0, _), (1, _)]) 67 dX11_divide_65 rfl rfl rfl ?_
    refine zi_iinc (v := 4) (lv' := [(6, _), (4, _), (2, _), (0, _), (1, _)]) 70 dX11_divide_67 rfl rfl rfl rfl rfl ?_
    refine zi_goto 44 dX11_divide_70 (by decide) ?_
    refine zi_iload 46 dX11_divide_44 rfl rfl ?_
    refine zi_iconst (v := 4) 47 dX11_divide_46 (by decide) rfl ?_
    refine zi_icmp_ge 50 73 dX11_divide_47 (by decide) rfl (fun c_47 => ?_) (fun c_47 => absurd c_47 (by decide))
    refine zi_lload_n 74 dX11_divide_73 rfl rfl ?_
    refine zi_lload 76 dX11_divide_74 rfl rfl ?_
    refine zi_ldiv 77 dX11_divide_76 (fun e => by rw [lN_0e hG63] at e; omega) rfl ?_
    rw [iz_lN_div hq2 ⟨by omega, by omega⟩ (by omega)]
    refine zi_lstore_n (lv' := [(2, _), (6, _), (4, _), (0, _), (1, _)]) 78 dX11_divide_77 rfl rfl rfl ?_
    refine zi_lconst (v := 0) 79 dX11_divide_78 (by decide) rfl ?_
    refine zi_lstore (lv' := [(6, _), (2, _), (4, _), (0, _), (1, _)]) 81 dX11_divide_79 rfl rfl rfl ?_
    refine zi_lconst (v := 0) 82 dX11_divide_81 (by decide) rfl ?_
    refine zi_lstore (lv' := [(8, _), (6, _), (2, _), (4, _), (0, _), (1, _)]) 84 dX11_divide_82 rfl rfl rfl ?_
    refine zi_iconst (v := 0) 85 dX11_divide_84 (by decide) rfl ?_
    refine zi_istore (lv' := [(10, _), (8, _), (6, _), (2, _), (4, _), (0, _), (1, _)]) 87 dX11_divide_85 rfl rfl rfl ?_
    refine zi_iload 89 dX11_divide_87 rfl rfl ?_
    refine zi_iconst (v := 4) 90 dX11_divide_89 (by decide) rfl ?_
    refine zi_icmp_ge 93 180 dX11_divide_90 (by decide) rfl (fun c_90 => absurd c_90 (by decide)) (fun c_90 => ?_)
    refine zi_aload_n 94 dX11_divide_93 rfl rfl ?_
    refine zi_getfield 97 9 dX11_divide_94 zcl_X11 tw_872 rfl rfl N3.1.1 rfl rfl ?_
    refine zi_bipush (v := 16) 99 dX11_divide_97 (by decide) rfl ?_
    refine zi_iload 101 dX11_divide_99 rfl rfl ?_
    refine zi_iadd 102 dX11_divide_101 rfl ?_
    rw [show (16 : Int32) + 0 = 16 from rfl]
    refine zi_laload 103 dX11_divide_102 N3.1.2.2.2.2.2.2.2.2.1 (vp_in_nI (show 16 < 80 by decide) (by decide)) rfl ?_
    rw [show Int32.toNatClampNeg 16 = 16 from rfl]
    rw [show wR _ 16 = iz (dvU P Q 1).1 from congrArg (fun v : z4 => v.1) eU]
    refine zi_lload 105 dX11_divide_103 rfl rfl ?_
    refine zi_ldiv 106 dX11_divide_105 (fun e => by rw [lN_0e hG63] at e; omega) rfl ?_
    rw [iz_dx (by omega) hG63 gd0, show (dvU P Q 1).1 / ((dvG P Q 1) : Int) = (dvu P Q 1).1 from rfl]
    refine zi_lstore (lv' := [(11, _), (10, _), (8, _), (6, _), (2, _), (4, _), (0, _), (1, _)]) 108 dX11_divide_106 rfl rfl rfl ?_
    refine zi_lload 110 dX11_divide_108 rfl rfl ?_
    refine zi_ldc2 113 dX11_divide_110 tw_909 rfl ?_
    refine zi_lload_n 114 dX11_divide_113 rfl rfl ?_
    refine zi_lmul 115 dX11_divide_114 rfl ?_
    refine zi_lload 117 dX11_divide_115 rfl rfl ?_
    refine zi_lload_n 118 dX11_divide_117 rfl rfl ?_
    refine zi_ladd 119 dX11_divide_118 rfl ?_
    refine zi_ldc2 122 dX11_divide_119 tw_909 rfl ?_
    refine zi_lload_n 123 dX11_divide_122 rfl rfl ?_
    refine zi_lmul 124 dX11_divide_123 rfl ?_
    rw [iz_2, iz_mul, iz_add]
    refine zc_static (n' := (0, 0)) (md' := mX11_down) 127 dX11_divide_124 tw_1068 zs_X11_down (s_X11_down B h2 _ _ (by omega) (by omega) (by omega) (by omega)) rfl rfl rfl rfl rfl rfl rfl rfl (zk_f ?_)
    refine zi_lmul 128 dX11_divide_127 rfl ?_
    refine zi_lsub 129 dX11_divide_128 rfl ?_
    rw [iz_mul, iz_sub, eWh]
    refine zi_lstore (lv' := [(13, _), (11, _), (10, _), (8, _), (6, _), (2, _), (4, _), (0, _), (1, _)]) 131 dX11_divide_129 rfl rfl rfl ?_
    refine zi_lload 133 dX11_divide_131 rfl rfl ?_
    refine zi_lload_n 134 dX11_divide_133 rfl rfl ?_
    refine zi_ldc2 137 dX11_divide_134 tw_909 rfl ?_
    refine zi_lload 139 dX11_divide_137 rfl rfl ?_
    refine zi_ldc2 142 dX11_divide_139 tw_909 rfl ?_
    refine zi_lload_n 143 dX11_divide_142 rfl rfl ?_
    refine zi_lmul 144 dX11_divide_143 rfl ?_
    rw [iz_2, iz_mul]
    refine zc_static (n' := (0, 0)) (md' := mX11_down) 147 dX11_divide_144 tw_1068 zs_X11_down (s_X11_down B h2 _ _ (by omega) (by omega) (by omega) (by omega)) rfl rfl rfl rfl rfl rfl rfl rfl (zk_f ?_)
    refine zi_lmul 148 dX11_divide_147 rfl ?_
    refine zi_lconst (v := 1) 149 dX11_divide_148 (by decide) rfl ?_
    refine zi_ladd 150 dX11_divide_149 rfl ?_
    refine zi_lmul 151 dX11_divide_150 rfl ?_
    refine zi_lsub 152 dX11_divide_151 rfl ?_
    rw [iz_mul, iz_1, iz_add, iz_mul, iz_sub, eHf]
    refine zi_lstore (lv' := [(15, _), (13, _), (11, _), (10, _), (8, _), (6, _), (2, _), (4, _), (0, _), (1, _)]) 154 dX11_divide_152 rfl rfl rfl ?_
    refine zi_lload 156 dX11_divide_154 rfl rfl ?_
    refine zi_lload 158 dX11_divide_156 rfl rfl ?_
    refine zi_lload 160 dX11_divide_158 rfl rfl ?_
    refine zi_lmul 161 dX11_divide_160 rfl ?_
    refine zi_ladd 162 dX11_divide_161 rfl ?_
    rw [iz_mul, Int64.zero_add]
    refine zi_lstore (lv' := [(6, _), (15, _), (13, _), (11, _), (10, _), (8, _), (2, _), (4, _), (0, _), (1, _)]) 164 dX11_divide_162 rfl rfl rfl ?_
    refine zi_lload 166 dX11_divide_164 rfl rfl ?_
    refine zi_lload 168 dX11_divide_166 rfl rfl ?_
    refine zi_lload 170 dX11_divide_168 rfl rfl ?_
    refine zi_lmul 171 dX11_divide_170 rfl ?_
    refine zi_ladd 172 dX11_divide_171 rfl ?_
    rw [iz_mul, Int64.zero_add]
    refine zi_lstore (lv' := [(8, _), (6, _), (15, _), (13, _), (11, _), (10, _), (2, _), (4, _), (0, _), (1, _)]) 174 dX11_divide_172 rfl rfl rfl ?_
    refine zi_iinc (v := 1) (lv' := [(10, _), (8, _), (6, _), (15, _), (13, _), (11, _), (2, _), (4, _), (0, _), (1, _)]) 177 dX11_divide_174 rfl rfl rfl rfl rfl ?_
    refine zi_goto 87 dX11_divide_177 (by decide) ?_
    refine zi_iload 89 dX11_divide_87 rfl rfl ?_
    refine zi_iconst (v := 4) 90 dX11_divide_89 (by decide) rfl ?_
    refine zi_icmp_ge 93 180 dX11_divide_90 (by decide) rfl (fun c_90 => absurd c_90 (by decide)) (fun c_90 => ?_)
    refine zi_aload_n 94 dX11_divide_93 rfl rfl ?_
    refine zi_getfield 97 9 dX11_divide_94 zcl_X11 tw_872 rfl rfl N3.1.1 rfl rfl ?_
    refine zi_bipush (v := 16) 99 dX11_divide_97 (by decide) rfl ?_
    refine zi_iload 101 dX11_divide_99 rfl rfl ?_
    refine zi_iadd 102 dX11_divide_101 rfl ?_
    rw [show (16 : Int32) + 1 = 17 from rfl]
    refine zi_laload 103 dX11_divide_102 N3.1.2.2.2.2.2.2.2.2.1 (vp_in_nI (show 17 < 80 by decide) (by decide)) rfl ?_
    rw [show Int32.toNatClampNeg 17 = 17 from rfl]
    rw [show wR _ 17 = iz (dvU P Q 1).2.1 from congrArg (fun v : z4 => v.2.1) eU]
    refine zi_lload 105 dX11_divide_103 rfl rfl ?_
    refine zi_ldiv 106 dX11_divide_105 (fun e => by rw [lN_0e hG63] at e; omega) rfl ?_
    rw [iz_dx (by omega) hG63 gd1, show (dvU P Q 1).2.1 / ((dvG P Q 1) : Int) = (dvu P Q 1).2.1 from rfl]
    refine zi_lstore (lv' := [(11, _), (10, _), (8, _), (6, _), (15, _), (13, _), (2, _), (4, _), (0, _), (1, _)]) 108 dX11_divide_106 rfl rfl rfl ?_
    refine zi_lload 110 dX11_divide_108 rfl rfl ?_
    refine zi_ldc2 113 dX11_divide_110 tw_909 rfl ?_
    refine zi_lload_n 114 dX11_divide_113 rfl rfl ?_
    refine zi_lmul 115 dX11_divide_114 rfl ?_
    refine zi_lload 117 dX11_divide_115 rfl rfl ?_
    refine zi_lload_n 118 dX11_divide_117 rfl rfl ?_
    refine zi_ladd 119 dX11_divide_118 rfl ?_
    refine zi_ldc2 122 dX11_divide_119 tw_909 rfl ?_
    refine zi_lload_n 123 dX11_divide_122 rfl rfl ?_
    refine zi_lmul 124 dX11_divide_123 rfl ?_
    rw [iz_2, iz_mul, iz_add]
    refine zc_static (n' := (0, 0)) (md' := mX11_down) 127 dX11_divide_124 tw_1068 zs_X11_down (s_X11_down B h2 _ _ (by omega) (by omega) (by omega) (by omega)) rfl rfl rfl rfl rfl rfl rfl rfl (zk_f ?_)
    refine zi_lmul 128 dX11_divide_127 rfl ?_
    refine zi_lsub 129 dX11_divide_128 rfl ?_
    rw [iz_mul, iz_sub, eWh]
    refine zi_lstore (lv' := [(13, _), (11, _), (10, _), (8, _), (6, _), (15, _), (2, _), (4, _), (0, _), (1, _)]) 131 dX11_divide_129 rfl rfl rfl ?_
    refine zi_lload 133 dX11_divide_131 rfl rfl ?_
    refine zi_lload_n 134 dX11_divide_133 rfl rfl ?_
    refine zi_ldc2 137 dX11_divide_134 tw_909 rfl ?_
    refine zi_lload 139 dX11_divide_137 rfl rfl ?_
    refine zi_ldc2 142 dX11_divide_139 tw_909 rfl ?_
    refine zi_lload_n 143 dX11_divide_142 rfl rfl ?_
    refine zi_lmul 144 dX11_divide_143 rfl ?_
    rw [iz_2, iz_mul]
    refine zc_static (n' := (0, 0)) (md' := mX11_down) 147 dX11_divide_144 tw_1068 zs_X11_down (s_X11_down B h2 _ _ (by omega) (by omega) (by omega) (by omega)) rfl rfl rfl rfl rfl rfl rfl rfl (zk_f ?_)
    refine zi_lmul 148 dX11_divide_147 rfl ?_
    refine zi_lconst (v := 1) 149 dX11_divide_148 (by decide) rfl ?_
    refine zi_ladd 150 dX11_divide_149 rfl ?_
    refine zi_lmul 151 dX11_divide_150 rfl ?_
    refine zi_lsub 152 dX11_divide_151 rfl ?_
    rw [iz_mul, iz_1, iz_add, iz_mul, iz_sub, eHf]
    refine zi_lstore (lv' := [(15, _), (13, _), (11, _), (10, _), (8, _), (6, _), (2, _), (4, _), (0, _), (1, _)]) 154 dX11_divide_152 rfl rfl rfl ?_
    refine zi_lload 156 dX11_divide_154 rfl rfl ?_
    refine zi_lload 158 dX11_divide_156 rfl rfl ?_
    refine zi_lload 160 dX11_divide_158 rfl rfl ?_
    refine zi_lmul 161 dX11_divide_160 rfl ?_
    refine zi_ladd 162 dX11_divide_161 rfl ?_
    rw [iz_mul, iz_add]
    refine zi_lstore (lv' := [(6, _), (15, _), (13, _), (11, _), (10, _), (8, _), (2, _), (4, _), (0, _), (1, _)]) 164 dX11_divide_162 rfl rfl rfl ?_
    refine zi_lload 166 dX11_divide_164 rfl rfl ?_
    refine zi_lload 168 dX11_divide_166 rfl rfl ?_
    refine zi_lload 170 dX11_divide_168 rfl rfl ?_
    refine zi_lmul 171 dX11_divide_170 rfl ?_
    refine zi_ladd 172 dX11_divide_171 rfl ?_
    rw [iz_mul, iz_add]
    refine zi_lstore (lv' := [(8, _), (6, _), (15, _), (13, _), (11, _), (10, _), (2, _), (4, _), (0, _), (1, _)]) 174 dX11_divide_172 rfl rfl rfl ?_
    refine zi_iinc (v := 2) (lv' := [(10, _), (8, _), (6, _), (15, _), (13, _), (11, _), (2, _), (4, _), (0, _), (1, _)]) 177 dX11_divide_174 rfl rfl rfl rfl rfl ?_
    refine zi_goto 87 dX11_divide_177 (by decide) ?_
    refine zi_iload 89 dX11_divide_87 rfl rfl ?_
    refine zi_iconst (v := 4) 90 dX11_divide_89 (by decide) rfl ?_
    refine zi_icmp_ge 93 180 dX11_divide_90 (by decide) rfl (fun c_90 => absurd c_90 (by decide)) (fun c_90 => ?_)
    refine zi_aload_n 94 dX11_divide_93 rfl rfl ?_
    refine zi_getfield 97 9 dX11_divide_94 zcl_X11 tw_872 rfl rfl N3.1.1 rfl rfl ?_
    refine zi_bipush (v := 16) 99 dX11_divide_97 (by decide) rfl ?_
    refine zi_iload 101 dX11_divide_99 rfl rfl ?_
    refine zi_iadd 102 dX11_divide_101 rfl ?_
    rw [show (16 : Int32) + 2 = 18 from rfl]
    refine zi_laload 103 dX11_divide_102 N3.1.2.2.2.2.2.2.2.2.1 (vp_in_nI (show 18 < 80 by decide) (by decide)) rfl ?_
    rw [show Int32.toNatClampNeg 18 = 18 from rfl]
    rw [show wR _ 18 = iz (dvU P Q 1).2.2.1 from congrArg (fun v : z4 => v.2.2.1) eU]
    refine zi_lload 105 dX11_divide_103 rfl rfl ?_
    refine zi_ldiv 106 dX11_divide_105 (fun e => by rw [lN_0e hG63] at e; omega) rfl ?_
    rw [iz_dx (by omega) hG63 gd2, show (dvU P Q 1).2.2.1 / ((dvG P Q 1) : Int) = (dvu P Q 1).2.2.1 from rfl]
    refine zi_lstore (lv' := [(11, _), (10, _), (8, _), (6, _), (15, _), (13, _), (2, _), (4, _), (0, _), (1, _)]) 108 dX11_divide_106 rfl rfl rfl ?_
    refine zi_lload 110 dX11_divide_108 rfl rfl ?_
    refine zi_ldc2 113 dX11_divide_110 tw_909 rfl ?_
    refine zi_lload_n 114 dX11_divide_113 rfl rfl ?_
    refine zi_lmul 115 dX11_divide_114 rfl ?_
    refine zi_lload 117 dX11_divide_115 rfl rfl ?_
    refine zi_lload_n 118 dX11_divide_117 rfl rfl ?_
    refine zi_ladd 119 dX11_divide_118 rfl ?_
    refine zi_ldc2 122 dX11_divide_119 tw_909 rfl ?_
    refine zi_lload_n 123 dX11_divide_122 rfl rfl ?_
    refine zi_lmul 124 dX11_divide_123 rfl ?_
    rw [iz_2, iz_mul, iz_add]
    refine zc_static (n' := (0, 0)) (md' := mX11_down) 127 dX11_divide_124 tw_1068 zs_X11_down (s_X11_down B h2 _ _ (by omega) (by omega) (by omega) (by omega)) rfl rfl rfl rfl rfl rfl rfl rfl (zk_f ?_)
    refine zi_lmul 128 dX11_divide_127 rfl ?_
    refine zi_lsub 129 dX11_divide_128 rfl ?_
    rw [iz_mul, iz_sub, eWh]
    refine zi_lstore (lv' := [(13, _), (11, _), (10, _), (8, _), (6, _), (15, _), (2, _), (4, _), (0, _), (1, _)]) 131 dX11_divide_129 rfl rfl rfl ?_
    refine zi_lload 133 dX11_divide_131 rfl rfl ?_
    refine zi_lload_n 134 dX11_divide_133 rfl rfl ?_
    refine zi_ldc2 137 dX11_divide_134 tw_909 rfl ?_
    refine zi_lload 139 dX11_divide_137 rfl rfl ?_
    refine zi_ldc2 142 dX11_divide_139 tw_909 rfl ?_
    refine zi_lload_n 143 dX11_divide_142 rfl rfl ?_
    refine zi_lmul 144 dX11_divide_143 rfl ?_
    rw [iz_2, iz_mul]
    refine zc_static (n' := (0, 0)) (md' := mX11_down) 147 dX11_divide_144 tw_1068 zs_X11_down (s_X11_down B h2 _ _ (by omega) (by omega) (by omega) (by omega)) rfl rfl rfl rfl rfl rfl rfl rfl (zk_f ?_)
    refine zi_lmul 148 dX11_divide_147 rfl ?_
    refine zi_lconst (v := 1) 149 dX11_divide_148 (by decide) rfl ?_
    refine zi_ladd 150 dX11_divide_149 rfl ?_
    refine zi_lmul 151 dX11_divide_150 rfl ?_
    refine zi_lsub 152 dX11_divide_151 rfl ?_
    rw [iz_mul, iz_1, iz_add, iz_mul, iz_sub, eHf]
    refine zi_lstore (lv' := [(15, _), (13, _), (11, _), (10, _), (8, _), (6, _), (2, _), (4, _), (0, _), (1, _)]) 154 dX11_divide_152 rfl rfl rfl ?_
    refine zi_lload 156 dX11_divide_154 rfl rfl ?_
    refine zi_lload 158 dX11_divide_156 rfl rfl ?_
    refine zi_lload 160 dX11_divide_158 rfl rfl ?_
    refine zi_lmul 161 dX11_divide_160 rfl ?_
    refine zi_ladd 162 dX11_divide_161 rfl ?_
    rw [iz_mul, iz_add]
    refine zi_lstore (lv' := [(6, _), (15, _), (13, _), (11, _), (10, _), (8, _), (2, _), (4, _), (0, _), (1, _)]) 164 dX11_divide_162 rfl rfl rfl ?_
    refine zi_lload 166 dX11_divide_164 rfl rfl ?_
    refine zi_lload 168 dX11_divide_166 rfl rfl ?_
    refine zi_lload 170 dX11_divide_168 rfl rfl ?_
    refine zi_lmul 171 dX11_divide_170 rfl ?_
    refine zi_ladd 172 dX11_divide_171 rfl ?_
    rw [iz_mul, iz_add]
    refine zi_lstore (lv' := [(8, _), (6, _), (15, _), (13, _), (11, _), (10, _), (2, _), (4, _), (0, _), (1, _)]) 174 dX11_divide_172 rfl rfl rfl ?_
    refine zi_iinc (v := 3) (lv' := [(10, _), (8, _), (6, _), (15, _), (13, _), (11, _), (2, _), (4, _), (0, _), (1, _)]) 177 dX11_divide_174 rfl rfl rfl rfl rfl ?_
    refine zi_goto 87 dX11_divide_177 (by decide) ?_
    refine zi_iload 89 dX11_divide_87 rfl rfl ?_
    refine zi_iconst (v := 4) 90 dX11_divide_89 (by decide) rfl ?_
    refine zi_icmp_ge 93 180 dX11_divide_90 (by decide) rfl (fun c_90 => absurd c_90 (by decide)) (fun c_90 => ?_)
    refine zi_aload_n 94 dX11_divide_93 rfl rfl ?_
    refine zi_getfield 97 9 dX11_divide_94 zcl_X11 tw_872 rfl rfl N3.1.1 rfl rfl ?_
    refine zi_bipush (v := 16) 99 dX11_divide_97 (by decide) rfl ?_
    refine zi_iload 101 dX11_divide_99 rfl rfl ?_
    refine zi_iadd 102 dX11_divide_101 rfl ?_
    rw [show (16 : Int32) + 3 = 19 from rfl]
    refine zi_laload 103 dX11_divide_102 N3.1.2.2.2.2.2.2.2.2.1 (vp_in_nI (show 19 < 80 by decide) (by decide)) rfl ?_
    rw [show Int32.toNatClampNeg 19 = 19 from rfl]
    rw [show wR _ 19 = iz (dvU P Q 1).2.2.2 from congrArg (fun v : z4 => v.2.2.2) eU]
    refine zi_lload 105 dX11_divide_103 rfl rfl ?_
    refine zi_ldiv 106 dX11_divide_105 (fun e => by rw [lN_0e hG63] at e; omega) rfl ?_
    rw [iz_dx (by omega) hG63 gd3, show (dvU P Q 1).2.2.2 / ((dvG P Q 1) : Int) = (dvu P Q 1).2.2.2 from rfl]
    refine zi_lstore (lv' := [(11, _), (10, _), (8, _), (6, _), (15, _), (13, _), (2, _), (4, _), (0, _), (1, _)]) 108 dX11_divide_106 rfl rfl rfl ?_
    refine zi_lload 110 dX11_divide_108 rfl rfl ?_
    refine zi_ldc2 113 dX11_divide_110 tw_909 rfl ?_
    refine zi_lload_n 114 dX11_divide_113 rfl rfl ?_
    refine zi_lmul 115 dX11_divide_114 rfl ?_
    refine zi_lload 117 dX11_divide_115 rfl rfl ?_
    refine zi_lload_n 118 dX11_divide_117 rfl rfl ?_
    refine zi_ladd 119 dX11_divide_118 rfl ?_
    refine zi_ldc2 122 dX11_divide_119 tw_909 rfl ?_
    refine zi_lload_n 123 dX11_divide_122 rfl rfl ?_
    refine zi_lmul 124 dX11_divide_123 rfl ?_
    rw [iz_2, iz_mul, iz_add]
    refine zc_static (n' := (0, 0)) (md' := mX11_down) 127 dX11_divide_124 tw_1068 zs_X11_down (s_X11_down B h2 _ _ (by omega) (by omega) (by omega) (by omega)) rfl rfl rfl rfl rfl rfl rfl rfl (zk_f ?_)
    refine zi_lmul 128 dX11_divide_127 rfl ?_
    refine zi_lsub 129 dX11_divide_128 rfl ?_
    rw [iz_mul, iz_sub, eWh]
    refine zi_lstore (lv' := [(13, _), (11, _), (10, _), (8, _), (6, _), (15, _), (2, _), (4, _), (0, _), (1, _)]) 131 dX11_divide_129 rfl rfl rfl ?_
    refine zi_lload 133 dX11_divide_131 rfl rfl ?_
    refine zi_lload_n 134 dX11_divide_133 rfl rfl ?_
    refine zi_ldc2 137 dX11_divide_134 tw_909 rfl ?_
    refine zi_lload 139 dX11_divide_137 rfl rfl ?_
    refine zi_ldc2 142 dX11_divide_139 tw_909 rfl ?_
    refine zi_lload_n 143 dX11_divide_142 rfl rfl ?_
    refine zi_lmul 144 dX11_divide_143 rfl ?_
    rw [iz_2, iz_mul]
    refine zc_static (n' := (0, 0)) (md' := mX11_down) 147 dX11_divide_144 tw_1068 zs_X11_down (s_X11_down B h2 _ _ (by omega) (by omega) (by omega) (by omega)) rfl rfl rfl rfl rfl rfl rfl rfl (zk_f ?_)
    refine zi_lmul 148 dX11_divide_147 rfl ?_
    refine zi_lconst (v := 1) 149 dX11_divide_148 (by decide) rfl ?_
    refine zi_ladd 150 dX11_divide_149 rfl ?_
    refine zi_lmul 151 dX11_divide_150 rfl ?_
    refine zi_lsub 152 dX11_divide_151 rfl ?_
    rw [iz_mul, iz_1, iz_add, iz_mul, iz_sub, eHf]
    refine zi_lstore (lv' := [(15, _), (13, _), (11, _), (10, _), (8, _), (6, _), (2, _), (4, _), (0, _), (1, _)]) 154 dX11_divide_152 rfl rfl rfl ?_
    refine zi_lload 156 dX11_divide_154 rfl rfl ?_
    refine zi_lload 158 dX11_divide_156 rfl rfl ?_
    refine zi_lload 160 dX11_divide_158 rfl rfl ?_
    refine zi_lmul 161 dX11_divide_160 rfl ?_
    refine zi_ladd 162 dX11_divide_161 rfl ?_
    rw [iz_mul, iz_add]
    rw [show ((dvu P Q 1).1 - zE (dvu P Q 1).1 (dvn P Q 1) * (dvn P Q 1)) * ((dvu P Q 1).1 - zE (dvu P Q 1).1 (dvn P Q 1) * (dvn P Q 1)) + ((dvu P Q 1).2.1 - zE (dvu P Q 1).2.1 (dvn P Q 1) * (dvn P Q 1)) * ((dvu P Q 1).2.1 - zE (dvu P Q 1).2.1 (dvn P Q 1) * (dvn P Q 1)) + ((dvu P Q 1).2.2.1 - zE (dvu P Q 1).2.2.1 (dvn P Q 1) * (dvn P Q 1)) * ((dvu P Q 1).2.2.1 - zE (dvu P Q 1).2.2.1 (dvn P Q 1) * (dvn P Q 1)) + ((dvu P Q 1).2.2.2 - zE (dvu P Q 1).2.2.2 (dvn P Q 1) * (dvn P Q 1)) * ((dvu P Q 1).2.2.2 - zE (dvu P Q 1).2.2.2 (dvn P Q 1) * (dvn P Q 1)) = i4S (dvu P Q 1) (i4E (dvu P Q 1) (dvn P Q 1)) (dvn P Q 1) from rfl]
    refine zi_lstore (lv' := [(6, _), (15, _), (13, _), (11, _), (10, _), (8, _), (2, _), (4, _), (0, _), (1, _)]) 164 dX11_divide_162 rfl rfl rfl ?_
    refine zi_lload 166 dX11_divide_164 rfl rfl ?_
    refine zi_lload 168 dX11_divide_166 rfl rfl ?_
    refine zi_lload 170 dX11_divide_168 rfl rfl ?_
    refine zi_lmul 171 dX11_divide_170 rfl ?_
    refine zi_ladd 172 dX11_divide_171 rfl ?_
    rw [iz_mul, iz_add]
    rw [show ((dvu P Q 1).1 - zH (dvu P Q 1).1 (dvn P Q 1) * (dvn P Q 1)) * ((dvu P Q 1).1 - zH (dvu P Q 1).1 (dvn P Q 1) * (dvn P Q 1)) + ((dvu P Q 1).2.1 - zH (dvu P Q 1).2.1 (dvn P Q 1) * (dvn P Q 1)) * ((dvu P Q 1).2.1 - zH (dvu P Q 1).2.1 (dvn P Q 1) * (dvn P Q 1)) + ((dvu P Q 1).2.2.1 - zH (dvu P Q 1).2.2.1 (dvn P Q 1) * (dvn P Q 1)) * ((dvu P Q 1).2.2.1 - zH (dvu P Q 1).2.2.1 (dvn P Q 1) * (dvn P Q 1)) + ((dvu P Q 1).2.2.2 - zH (dvu P Q 1).2.2.2 (dvn P Q 1) * (dvn P Q 1)) * ((dvu P Q 1).2.2.2 - zH (dvu P Q 1).2.2.2 (dvn P Q 1) * (dvn P Q 1)) = i4S (dvu P Q 1) (i4H (dvu P Q 1) (dvn P Q 1)) (dvn P Q 1) from rfl]
    refine zi_lstore (lv' := [(8, _), (6, _), (15, _), (13, _), (11, _), (10, _), (2, _), (4, _), (0, _), (1, _)]) 174 dX11_divide_172 rfl rfl rfl ?_
    refine zi_iinc (v := 4) (lv' := [(10, _), (8, _), (6, _), (15, _), (13, _), (11, _), (2, _), (4, _), (0, _), (1, _)]) 177 dX11_divide_174 rfl rfl rfl rfl rfl ?_
    refine zi_goto 87 dX11_divide_177 (by decide) ?_
    refine zi_iload 89 dX11_divide_87 rfl rfl ?_
    refine zi_iconst (v := 4) 90 dX11_divide_89 (by decide) rfl ?_
    refine zi_icmp_ge 93 180 dX11_divide_90 (by decide) rfl (fun c_90 => ?_) (fun c_90 => absurd c_90 (by decide))
    refine zi_iconst (v := 0) 181 dX11_divide_180 (by decide) rfl ?_
    refine zi_istore (lv' := [(10, _), (8, _), (6, _), (15, _), (13, _), (11, _), (2, _), (4, _), (0, _), (1, _)]) 183 dX11_divide_181 rfl rfl rfl ?_
    refine zi_iload 185 dX11_divide_183 rfl rfl ?_
    refine zi_iconst (v := 4) 186 dX11_divide_185 (by decide) rfl ?_
    refine zi_icmp_ge 189 263 dX11_divide_186 (by decide) rfl (fun c_186 => absurd c_186 (by decide)) (fun c_186 => ?_)
    refine zi_aload_n 190 dX11_divide_189 rfl rfl ?_
    refine zi_getfield 193 9 dX11_divide_190 zcl_X11 tw_872 rfl rfl N3.1.1 rfl rfl ?_
    refine zi_bipush (v := 16) 195 dX11_divide_193 (by decide) rfl ?_
    refine zi_iload 197 dX11_divide_195 rfl rfl ?_
    refine zi_iadd 198 dX11_divide_197 rfl ?_
    rw [show (16 : Int32) + 0 = 16 from rfl]
    refine zi_laload 199 dX11_divide_198 N3.1.2.2.2.2.2.2.2.2.1 (vp_in_nI (show 16 < 80 by decide) (by decide)) rfl ?_
    rw [show Int32.toNatClampNeg 16 = 16 from rfl]
    rw [show wR _ 16 = iz (dvU P Q 1).1 from congrArg (fun v : z4 => v.1) eU]
    refine zi_lload 201 dX11_divide_199 rfl rfl ?_
    refine zi_ldiv 202 dX11_divide_201 (fun e => by rw [lN_0e hG63] at e; omega) rfl ?_
    rw [iz_dx (by omega) hG63 gd0, show (dvU P Q 1).1 / ((dvG P Q 1) : Int) = (dvu P Q 1).1 from rfl]
    refine zi_lstore (lv' := [(11, _), (10, _), (8, _), (6, _), (15, _), (13, _), (2, _), (4, _), (0, _), (1, _)]) 204 dX11_divide_202 rfl rfl rfl ?_
    refine zi_aload_n 205 dX11_divide_204 rfl rfl ?_
    refine zi_getfield 208 9 dX11_divide_205 zcl_X11 tw_872 rfl rfl N3.1.1 rfl rfl ?_
    refine zi_bipush (v := 8) 210 dX11_divide_208 (by decide) rfl ?_
    refine zi_iload 212 dX11_divide_210 rfl rfl ?_
    refine zi_iadd 213 dX11_divide_212 rfl ?_
    rw [show (8 : Int32) + 0 = 8 from rfl]
    refine zi_lload 215 dX11_divide_213 rfl rfl ?_
    refine zi_lload 217 dX11_divide_215 rfl rfl ?_
    refine zj_gt 221 240 dX11_divide_217 rfl dX11_divide_218 (by decide) rfl (fun zzC => ?_) (fun zzC => absurd ((iz_lt bH bE).mpr hS) zzC)
    refine zi_ldc2 243 dX11_divide_240 tw_909 rfl ?_
    refine zi_lload 245 dX11_divide_243 rfl rfl ?_
    refine zi_ldc2 248 dX11_divide_245 tw_909 rfl ?_
    refine zi_lload_n 249 dX11_divide_248 rfl rfl ?_
    refine zi_lmul 250 dX11_divide_249 rfl ?_
    rw [iz_2, iz_mul]
    refine zc_static (n' := (0, 0)) (md' := mX11_down) 253 dX11_divide_250 tw_1068 zs_X11_down (s_X11_down B h2 _ _ (by omega) (by omega) (by omega) (by omega)) rfl rfl rfl rfl rfl rfl rfl rfl (zk_f ?_)
    refine zi_lmul 254 dX11_divide_253 rfl ?_
    refine zi_lconst (v := 1) 255 dX11_divide_254 (by decide) rfl ?_
    refine zi_ladd 256 dX11_divide_255 rfl ?_
    rw [iz_mul, iz_1, iz_add, show 2 * ((dvu P Q 1).1 / (2 * (dvn P Q 1))) + 1 = zH (dvu P Q 1).1 (dvn P Q 1) from rfl]
    refine zi_lastore 257 dX11_divide_256 N3.1.2.2.2.2.2.2.2.2.1 (vp_in_nI (show 8 < 80 by decide) (by decide)) rfl ?_
    rw [show Int32.toNatClampNeg 8 = 8 from rfl]
    refine zk_h (fun h4 k4 => ?_)
    have N4 := rN_R hD N3 k4
    refine zi_iinc (v := 1) (lv' := [(10, _), (11, _), (8, _), (6, _), (15, _), (13, _), (2, _), (4, _), (0, _), (1, _)]) 260 dX11_divide_257 rfl rfl rfl rfl rfl ?_
    refine zi_goto 183 dX11_divide_260 (by decide) ?_
    refine zi_iload 185 dX11_divide_183 rfl rfl ?_
    refine zi_iconst (v := 4) 186 dX11_divide_185 (by decide) rfl ?_
    refine zi_icmp_ge 189 263 dX11_divide_186 (by decide) rfl (fun c_186 => absurd c_186 (by decide)) (fun c_186 => ?_)
    refine zi_aload_n 190 dX11_divide_189 rfl rfl ?_
    refine zi_getfield 193 9 dX11_divide_190 zcl_X11 tw_872 rfl rfl N4.1.1 rfl rfl ?_
    refine zi_bipush (v := 16) 195 dX11_divide_193 (by decide) rfl ?_
    refine zi_iload 197 dX11_divide_195 rfl rfl ?_
    refine zi_iadd 198 dX11_divide_197 rfl ?_
    rw [show (16 : Int32) + 1 = 17 from rfl]
    refine zi_laload 199 dX11_divide_198 N4.1.2.2.2.2.2.2.2.2.1 (vp_in_nI (show 17 < 80 by decide) (by decide)) rfl ?_
    rw [show Int32.toNatClampNeg 17 = 17 from rfl]
    rw [show wR _ 17 = iz (dvU P Q 1).2.1 from congrArg (fun v : z4 => v.2.1) eU]
    refine zi_lload 201 dX11_divide_199 rfl rfl ?_
    refine zi_ldiv 202 dX11_divide_201 (fun e => by rw [lN_0e hG63] at e; omega) rfl ?_
    rw [iz_dx (by omega) hG63 gd1, show (dvU P Q 1).2.1 / ((dvG P Q 1) : Int) = (dvu P Q 1).2.1 from rfl]
    refine zi_lstore (lv' := [(11, _), (10, _), (8, _), (6, _), (15, _), (13, _), (2, _), (4, _), (0, _), (1, _)]) 204 dX11_divide_202 rfl rfl rfl ?_
    refine zi_aload_n 205 dX11_divide_204 rfl rfl ?_
    refine zi_getfield 208 9 dX11_divide_205 zcl_X11 tw_872 rfl rfl N4.1.1 rfl rfl ?_
    refine zi_bipush (v := 8) 210 dX11_divide_208 (by decide) rfl ?_
    refine zi_iload 212 dX11_divide_210 rfl rfl ?_
    refine zi_iadd 213 dX11_divide_212 rfl ?_
    rw [show (8 : Int32) + 1 = 9 from rfl]
    refine zi_lload 215 dX11_divide_213 rfl rfl ?_
    refine zi_lload 217 dX11_divide_215 rfl rfl ?_
    refine zj_gt 221 240 dX11_divide_217 rfl dX11_divide_218 (by decide) rfl (fun zzC => ?_) (fun zzC => absurd ((iz_lt bH bE).mpr hS) zzC)
    refine zi_ldc2 243 dX11_divide_240 tw_909 rfl ?_
    refine zi_lload 245 dX11_divide_243 rfl rfl ?_
    refine zi_ldc2 248 dX11_divide_245 tw_909 rfl ?_
    refine zi_lload_n 249 dX11_divide_248 rfl rfl ?_
    refine zi_lmul 250 dX11_divide_249 rfl ?_
    rw [iz_2, iz_mul]
    refine zc_static (n' := (0, 0)) (md' := mX11_down) 253 dX11_divide_250 tw_1068 zs_X11_down (s_X11_down B h4 _ _ (by omega) (by omega) (by omega) (by omega)) rfl rfl rfl rfl rfl rfl rfl rfl (zk_f ?_)
    refine zi_lmul 254 dX11_divide_253 rfl ?_
    refine zi_lconst (v := 1) 255 dX11_divide_254 (by decide) rfl ?_
    refine zi_ladd 256 dX11_divide_255 rfl ?_
    rw [iz_mul, iz_1, iz_add, show 2 * ((dvu P Q 1).2.1 / (2 * (dvn P Q 1))) + 1 = zH (dvu P Q 1).2.1 (dvn P Q 1) from rfl]
    refine zi_lastore 257 dX11_divide_256 N4.1.2.2.2.2.2.2.2.2.1 (vp_in_nI (show 9 < 80 by decide) (by decide)) rfl ?_
    rw [show Int32.toNatClampNeg 9 = 9 from rfl]
    refine zk_h (fun h5 k5 => ?_)
    have N5 := rN_R hD N4 k5
    refine zi_iinc (v := 2) (lv' := [(10, _), (11, _), (8, _), (6, _), (15, _), (13, _), (2, _), (4, _), (0, _), (1, _)]) 260 dX11_divide_257 rfl rfl rfl rfl rfl ?_
    refine zi_goto 183 dX11_divide_260 (by decide) ?_
    refine zi_iload 185 dX11_divide_183 rfl rfl ?_
    refine zi_iconst (v := 4) 186 dX11_divide_185 (by decide) rfl ?_
    refine zi_icmp_ge 189 263 dX11_divide_186 (by decide) rfl (fun c_186 => absurd c_186 (by decide)) (fun c_186 => ?_)
    refine zi_aload_n 190 dX11_divide_189 rfl rfl ?_
    refine zi_getfield 193 9 dX11_divide_190 zcl_X11 tw_872 rfl rfl N5.1.1 rfl rfl ?_
    refine zi_bipush (v := 16) 195 dX11_divide_193 (by decide) rfl ?_
    refine zi_iload 197 dX11_divide_195 rfl rfl ?_
    refine zi_iadd 198 dX11_divide_197 rfl ?_
    rw [show (16 : Int32) + 2 = 18 from rfl]
    refine zi_laload 199 dX11_divide_198 N5.1.2.2.2.2.2.2.2.2.1 (vp_in_nI (show 18 < 80 by decide) (by decide)) rfl ?_
    rw [show Int32.toNatClampNeg 18 = 18 from rfl]
    rw [show wR _ 18 = iz (dvU P Q 1).2.2.1 from congrArg (fun v : z4 => v.2.2.1) eU]
    refine zi_lload 201 dX11_divide_199 rfl rfl ?_
    refine zi_ldiv 202 dX11_divide_201 (fun e => by rw [lN_0e hG63] at e; omega) rfl ?_
    rw [iz_dx (by omega) hG63 gd2, show (dvU P Q 1).2.2.1 / ((dvG P Q 1) : Int) = (dvu P Q 1).2.2.1 from rfl]
    refine zi_lstore (lv' := [(11, _), (10, _), (8, _), (6, _), (15, _), (13, _), (2, _), (4, _), (0, _), (1, _)]) 204 dX11_divide_202 rfl rfl rfl ?_
    refine zi_aload_n 205 dX11_divide_204 rfl rfl ?_
    refine zi_getfield 208 9 dX11_divide_205 zcl_X11 tw_872 rfl rfl N5.1.1 rfl rfl ?_
    refine zi_bipush (v := 8) 210 dX11_divide_208 (by decide) rfl ?_
    refine zi_iload 212 dX11_divide_210 rfl rfl ?_
    refine zi_iadd 213 dX11_divide_212 rfl ?_
    rw [show (8 : Int32) + 2 = 10 from rfl]
    refine zi_lload 215 dX11_divide_213 rfl rfl ?_
    refine zi_lload 217 dX11_divide_215 rfl rfl ?_
    refine zj_gt 221 240 dX11_divide_217 rfl dX11_divide_218 (by decide) rfl (fun zzC => ?_) (fun zzC => absurd ((iz_lt bH bE).mpr hS) zzC)
    refine zi_ldc2 243 dX11_divide_240 tw_909 rfl ?_
    refine zi_lload 245 dX11_divide_243 rfl rfl ?_
    refine zi_ldc2 248 dX11_divide_245 tw_909 rfl ?_
    refine zi_lload_n 249 dX11_divide_248 rfl rfl ?_
    refine zi_lmul 250 dX11_divide_249 rfl ?_
    rw [iz_2, iz_mul]
    refine zc_static (n' := (0, 0)) (md' := mX11_down) 253 dX11_divide_250 tw_1068 zs_X11_down (s_X11_down B h5 _ _ (by omega) (by omega) (by omega) (by omega)) rfl rfl rfl rfl rfl rfl rfl rfl (zk_f ?_)
    refine zi_lmul 254 dX11_divide_253 rfl ?_
    refine zi_lconst (v := 1) 255 dX11_divide_254 (by decide) rfl ?_
    refine zi_ladd 256 dX11_divide_255 rfl ?_
    rw [iz_mul, iz_1, iz_add, show 2 * ((dvu P Q 1).2.2.1 / (2 * (dvn P Q 1))) + 1 = zH (dvu P Q 1).2.2.1 (dvn P Q 1) from rfl]
    refine zi_lastore 257 dX11_divide_256 N5.1.2.2.2.2.2.2.2.2.1 (vp_in_nI (show 10 < 80 by decide) (by decide)) rfl ?_
    rw [show Int32.toNatClampNeg 10 = 10 from rfl]
    refine zk_h (fun h6 k6 => ?_)
    have N6 := rN_R hD N5 k6
    refine zi_iinc (v := 3) (lv' := [(10, _), (11, _), (8, _), (6, _), (15, _), (13, _), (2, _), (4, _), (0, _), (1, _)]) 260 dX11_divide_257 rfl rfl rfl rfl rfl ?_
    refine zi_goto 183 dX11_divide_260 (by decide) ?_
    refine zi_iload 185 dX11_divide_183 rfl rfl ?_
    refine zi_iconst (v := 4) 186 dX11_divide_185 (by decide) rfl ?_
    refine zi_icmp_ge 189 263 dX11_divide_186 (by decide) rfl (fun c_186 => absurd c_186 (by decide)) (fun c_186 => ?_)
    refine zi_aload_n 190 dX11_divide_189 rfl rfl ?_
    refine zi_getfield 193 9 dX11_divide_190 zcl_X11 tw_872 rfl rfl N6.1.1 rfl rfl ?_
    refine zi_bipush (v := 16) 195 dX11_divide_193 (by decide) rfl ?_
    refine zi_iload 197 dX11_divide_195 rfl rfl ?_
    refine zi_iadd 198 dX11_divide_197 rfl ?_
    rw [show (16 : Int32) + 3 = 19 from rfl]
    refine zi_laload 199 dX11_divide_198 N6.1.2.2.2.2.2.2.2.2.1 (vp_in_nI (show 19 < 80 by decide) (by decide)) rfl ?_
    rw [show Int32.toNatClampNeg 19 = 19 from rfl]
    rw [show wR _ 19 = iz (dvU P Q 1).2.2.2 from congrArg (fun v : z4 => v.2.2.2) eU]
    refine zi_lload 201 dX11_divide_199 rfl rfl ?_
    refine zi_ldiv 202 dX11_divide_201 (fun e => by rw [lN_0e hG63] at e; omega) rfl ?_
    rw [iz_dx (by omega) hG63 gd3, show (dvU P Q 1).2.2.2 / ((dvG P Q 1) : Int) = (dvu P Q 1).2.2.2 from rfl]
    refine zi_lstore (lv' := [(11, _), (10, _), (8, _), (6, _), (15, _), (13, _), (2, _), (4, _), (0, _), (1, _)]) 204 dX11_divide_202 rfl rfl rfl ?_
    refine zi_aload_n 205 dX11_divide_204 rfl rfl ?_
    refine zi_getfield 208 9 dX11_divide_205 zcl_X11 tw_872 rfl rfl N6.1.1 rfl rfl ?_
    refine zi_bipush (v := 8) 210 dX11_divide_208 (by decide) rfl ?_
    refine zi_iload 212 dX11_divide_210 rfl rfl ?_
    refine zi_iadd 213 dX11_divide_212 rfl ?_
    rw [show (8 : Int32) + 3 = 11 from rfl]
    refine zi_lload 215 dX11_divide_213 rfl rfl ?_
    refine zi_lload 217 dX11_divide_215 rfl rfl ?_
    refine zj_gt 221 240 dX11_divide_217 rfl dX11_divide_218 (by decide) rfl (fun zzC => ?_) (fun zzC => absurd ((iz_lt bH bE).mpr hS) zzC)
    refine zi_ldc2 243 dX11_divide_240 tw_909 rfl ?_
    refine zi_lload 245 dX11_divide_243 rfl rfl ?_
    refine zi_ldc2 248 dX11_divide_245 tw_909 rfl ?_
    refine zi_lload_n 249 dX11_divide_248 rfl rfl ?_
    refine zi_lmul 250 dX11_divide_249 rfl ?_
    rw [iz_2, iz_mul]
    refine zc_static (n' := (0, 0)) (md' := mX11_down) 253 dX11_divide_250 tw_1068 zs_X11_down (s_X11_down B h6 _ _ (by omega) (by omega) (by omega) (by omega)) rfl rfl rfl rfl rfl rfl rfl rfl (zk_f ?_)
    refine zi_lmul 254 dX11_divide_253 rfl ?_
    refine zi_lconst (v := 1) 255 dX11_divide_254 (by decide) rfl ?_
    refine zi_ladd 256 dX11_divide_255 rfl ?_
    rw [iz_mul, iz_1, iz_add, show 2 * ((dvu P Q 1).2.2.2 / (2 * (dvn P Q 1))) + 1 = zH (dvu P Q 1).2.2.2 (dvn P Q 1) from rfl]
    refine zi_lastore 257 dX11_divide_256 N6.1.2.2.2.2.2.2.2.2.1 (vp_in_nI (show 11 < 80 by decide) (by decide)) rfl ?_
    rw [show Int32.toNatClampNeg 11 = 11 from rfl]
    refine zk_h (fun h7 k7 => ?_)
    have N7 := rN_R hD N6 k7
    refine zi_iinc (v := 4) (lv' := [(10, _), (11, _), (8, _), (6, _), (15, _), (13, _), (2, _), (4, _), (0, _), (1, _)]) 260 dX11_divide_257 rfl rfl rfl rfl rfl ?_
    refine zi_goto 183 dX11_divide_260 (by decide) ?_
    refine zi_iload 185 dX11_divide_183 rfl rfl ?_
    refine zi_iconst (v := 4) 186 dX11_divide_185 (by decide) rfl ?_
    refine zi_icmp_ge 189 263 dX11_divide_186 (by decide) rfl (fun c_186 => ?_) (fun c_186 => absurd c_186 (by decide))
    obtain ⟨R3, N8, fT, fP, fQ, fO⟩ : ∃ R3, rN B D (uR m R3) h h7 ∧ ro R3 8 = z4i (dvT P Q 1) ∧ ro R3 0 = z4i P ∧ ro R3 4 = z4i Q ∧ ∀ i, (i < 8 ∨ 20 ≤ i) → R3 i = wR m i := ⟨_, N7, by rw [dv_TH hS]; rfl, eP, eQ, fun i hi => (u4 (a := 8) (by omega)).trans (eO i (by omega))⟩
    refine zi_iload_n 264 dX11_divide_263 rfl rfl ?_
    refine zi_if_ne 267 279 dX11_divide_264 (by decide) rfl (fun c_264 => ?_) (fun c_264 => absurd c_264 (by decide))
    refine zi_aload_n 280 dX11_divide_279 rfl rfl ?_
    refine zi_bipush (v := 16) 282 dX11_divide_280 (by decide) rfl ?_
    refine zi_bipush (v := 8) 284 dX11_divide_282 (by decide) rfl ?_
    refine zi_iconst (v := 4) 285 dX11_divide_284 (by decide) rfl ?_
    refine zc_virtual (n' := (0, 0)) (md' := mX11_multiply) 288 dX11_divide_285 tw_1039 zv_X11_multiply zcl_X11 (s_X11_multiply B h7 D hD _ N8.1 16 8 4 (by omega) (by omega) (by omega)) N8.1.1 rfl rfl rfl rfl rfl rfl rfl rfl (zk_v fun h9 n9 => ?_)
    have N9 := rN_t N8 n9
    obtain ⟨R4, N10, gK, gT, gP, gO⟩ : ∃ R4, rN B D (uR m R4) h h9 ∧ ro R4 16 = z4i (dvK P Q 1) ∧ ro R4 8 = z4i (dvT P Q 1) ∧ ro R4 0 = z4i P ∧ ∀ i, (i < 8 ∨ 20 ≤ i) → R4 i = wR m i := ⟨_, N9, by show zMul (ro R3 8) (ro R3 4) = _; rw [fT, fQ]; exact (dv_K (s := 1) ok).1, fT, fP, fun i hi => (p4_o (a := 16) _ (by omega)).trans (fO i hi)⟩
    refine zi_iconst (v := 0) 289 dX11_divide_288 (by decide) rfl ?_
    refine zi_istore (lv' := [(10, _), (11, _), (8, _), (6, _), (15, _), (13, _), (2, _), (4, _), (0, _), (1, _)]) 291 dX11_divide_289 rfl rfl rfl ?_
    refine zi_iload 293 dX11_divide_291 rfl rfl ?_
    refine zi_iconst (v := 4) 294 dX11_divide_293 (by decide) rfl ?_
    refine zi_icmp_ge 297 333 dX11_divide_294 (by decide) rfl (fun c_294 => absurd c_294 (by decide)) (fun c_294 => ?_)
    refine zi_aload_n 298 dX11_divide_297 rfl rfl ?_
    refine zi_getfield 301 9 dX11_divide_298 zcl_X11 tw_872 rfl rfl N10.1.1 rfl rfl ?_
    refine zi_bipush (v := 12) 303 dX11_divide_301 (by decide) rfl ?_
    refine zi_iload 305 dX11_divide_303 rfl rfl ?_
    refine zi_iadd 306 dX11_divide_305 rfl ?_
    rw [show (12 : Int32) + 0 = 12 from rfl]
    refine zi_aload_n 307 dX11_divide_306 rfl rfl ?_
    refine zi_getfield 310 9 dX11_divide_307 zcl_X11 tw_872 rfl rfl N10.1.1 rfl rfl ?_
    refine zi_iconst (v := 0) 311 dX11_divide_310 (by decide) rfl ?_
    refine zi_iload 313 dX11_divide_311 rfl rfl ?_
    refine zi_iadd 314 dX11_divide_313 rfl ?_
    rw [show (0 : Int32) + 0 = 0 from rfl]
    refine zi_laload 315 dX11_divide_314 N10.1.2.2.2.2.2.2.2.2.1 (vp_in_nI (show 0 < 80 by decide) (by decide)) rfl ?_
    rw [show Int32.toNatClampNeg 0 = 0 from rfl]
    rw [show wR _ 0 = iz P.1 from congrArg (fun v : z4 => v.1) gP]
    refine zi_aload_n 316 dX11_divide_315 rfl rfl ?_
    refine zi_getfield 319 9 dX11_divide_316 zcl_X11 tw_872 rfl rfl N10.1.1 rfl rfl ?_
    refine zi_bipush (v := 16) 321 dX11_divide_319 (by decide) rfl ?_
    refine zi_iload 323 dX11_divide_321 rfl rfl ?_
    refine zi_iadd 324 dX11_divide_323 rfl ?_
    rw [show (16 : Int32) + 0 = 16 from rfl]
    refine zi_laload 325 dX11_divide_324 N10.1.2.2.2.2.2.2.2.2.1 (vp_in_nI (show 16 < 80 by decide) (by decide)) rfl ?_
    rw [show Int32.toNatClampNeg 16 = 16 from rfl]
    rw [show wR _ 16 = iz (dvK P Q 1).1 from congrArg (fun v : z4 => v.1) gK]
    refine zi_lsub 326 dX11_divide_325 rfl ?_
    rw [iz_sub]
    refine zi_lastore 327 dX11_divide_326 N10.1.2.2.2.2.2.2.2.2.1 (vp_in_nI (show 12 < 80 by decide) (by decide)) rfl ?_
    rw [show Int32.toNatClampNeg 12 = 12 from rfl]
    refine zk_h (fun h11 k11 => ?_)
    have N11 := rN_R hD N10 k11
    refine zi_iinc (v := 1) (lv' := [(10, _), (11, _), (8, _), (6, _), (15, _), (13, _), (2, _), (4, _), (0, _), (1, _)]) 330 dX11_divide_327 rfl rfl rfl rfl rfl ?_
    refine zi_goto 291 dX11_divide_330 (by decide) ?_
    refine zi_iload 293 dX11_divide_291 rfl rfl ?_
    refine zi_iconst (v := 4) 294 dX11_divide_293 (by decide) rfl ?_
    refine zi_icmp_ge 297 333 dX11_divide_294 (by decide) rfl (fun c_294 => absurd c_294 (by decide)) (fun c_294 => ?_)
    refine zi_aload_n 298 dX11_divide_297 rfl rfl ?_
    refine zi_getfield 301 9 dX11_divide_298 zcl_X11 tw_872 rfl rfl N11.1.1 rfl rfl ?_
    refine zi_bipush (v := 12) 303 dX11_divide_301 (by decide) rfl ?_
    refine zi_iload 305 dX11_divide_303 rfl rfl ?_
    refine zi_iadd 306 dX11_divide_305 rfl ?_
    rw [show (12 : Int32) + 1 = 13 from rfl]
    refine zi_aload_n 307 dX11_divide_306 rfl rfl ?_
    refine zi_getfield 310 9 dX11_divide_307 zcl_X11 tw_872 rfl rfl N11.1.1 rfl rfl ?_
    refine zi_iconst (v := 0) 311 dX11_divide_310 (by decide) rfl ?_
    refine zi_iload 313 dX11_divide_311 rfl rfl ?_
    refine zi_iadd 314 dX11_divide_313 rfl ?_
    rw [show (0 : Int32) + 1 = 1 from rfl]
    refine zi_laload 315 dX11_divide_314 N11.1.2.2.2.2.2.2.2.2.1 (vp_in_nI (show 1 < 80 by decide) (by decide)) rfl ?_
    rw [show Int32.toNatClampNeg 1 = 1 from rfl]
    rw [show wR _ 1 = iz P.2.1 from congrArg (fun v : z4 => v.2.1) gP]
    refine zi_aload_n 316 dX11_divide_315 rfl rfl ?_
    refine zi_getfield 319 9 dX11_divide_316 zcl_X11 tw_872 rfl rfl N11.1.1 rfl rfl ?_
    refine zi_bipush (v := 16) 321 dX11_divide_319 (by decide) rfl ?_
    refine zi_iload 323 dX11_divide_321 rfl rfl ?_
    refine zi_iadd 324 dX11_divide_323 rfl ?_
    rw [show (16 : Int32) + 1 = 17 from rfl]
    refine zi_laload 325 dX11_divide_324 N11.1.2.2.2.2.2.2.2.2.1 (vp_in_nI (show 17 < 80 by decide) (by decide)) rfl ?_
    rw [show Int32.toNatClampNeg 17 = 17 from rfl]
    rw [show wR _ 17 = iz (dvK P Q 1).2.1 from congrArg (fun v : z4 => v.2.1) gK]
    refine zi_lsub 326 dX11_divide_325 rfl ?_
    rw [iz_sub]
    refine zi_lastore 327 dX11_divide_326 N11.1.2.2.2.2.2.2.2.2.1 (vp_in_nI (show 13 < 80 by decide) (by decide)) rfl ?_
    rw [show Int32.toNatClampNeg 13 = 13 from rfl]
    refine zk_h (fun h12 k12 => ?_)
    have N12 := rN_R hD N11 k12
    refine zi_iinc (v := 2) (lv' := [(10, _), (11, _), (8, _), (6, _), (15, _), (13, _), (2, _), (4, _), (0, _), (1, _)]) 330 dX11_divide_327 rfl rfl rfl rfl rfl ?_
    refine zi_goto 291 dX11_divide_330 (by decide) ?_
    refine zi_iload 293 dX11_divide_291 rfl rfl ?_
    refine zi_iconst (v := 4) 294 dX11_divide_293 (by decide) rfl ?_
    refine zi_icmp_ge 297 333 dX11_divide_294 (by decide) rfl (fun c_294 => absurd c_294 (by decide)) (fun c_294 => ?_)
    refine zi_aload_n 298 dX11_divide_297 rfl rfl ?_
    refine zi_getfield 301 9 dX11_divide_298 zcl_X11 tw_872 rfl rfl N12.1.1 rfl rfl ?_
    refine zi_bipush (v := 12) 303 dX11_divide_301 (by decide) rfl ?_
    refine zi_iload 305 dX11_divide_303 rfl rfl ?_
    refine zi_iadd 306 dX11_divide_305 rfl ?_
    rw [show (12 : Int32) + 2 = 14 from rfl]
    refine zi_aload_n 307 dX11_divide_306 rfl rfl ?_
    refine zi_getfield 310 9 dX11_divide_307 zcl_X11 tw_872 rfl rfl N12.1.1 rfl rfl ?_
    refine zi_iconst (v := 0) 311 dX11_divide_310 (by decide) rfl ?_
    refine zi_iload 313 dX11_divide_311 rfl rfl ?_
    refine zi_iadd 314 dX11_divide_313 rfl ?_
    rw [show (0 : Int32) + 2 = 2 from rfl]
    refine zi_laload 315 dX11_divide_314 N12.1.2.2.2.2.2.2.2.2.1 (vp_in_nI (show 2 < 80 by decide) (by decide)) rfl ?_
    rw [show Int32.toNatClampNeg 2 = 2 from rfl]
    rw [show wR _ 2 = iz P.2.2.1 from congrArg (fun v : z4 => v.2.2.1) gP]
    refine zi_aload_n 316 dX11_divide_315 rfl rfl ?_
    refine zi_getfield 319 9 dX11_divide_316 zcl_X11 tw_872 rfl rfl N12.1.1 rfl rfl ?_
    refine zi_bipush (v := 16) 321 dX11_divide_319 (by decide) rfl ?_
    refine zi_iload 323 dX11_divide_321 rfl rfl ?_
    refine zi_iadd 324 dX11_divide_323 rfl ?_
    rw [show (16 : Int32) + 2 = 18 from rfl]
    refine zi_laload 325 dX11_divide_324 N12.1.2.2.2.2.2.2.2.2.1 (vp_in_nI (show 18 < 80 by decide) (by decide)) rfl ?_
    rw [show Int32.toNatClampNeg 18 = 18 from rfl]
    rw [show wR _ 18 = iz (dvK P Q 1).2.2.1 from congrArg (fun v : z4 => v.2.2.1) gK]
    refine zi_lsub 326 dX11_divide_325 rfl ?_
    rw [iz_sub]
    refine zi_lastore 327 dX11_divide_326 N12.1.2.2.2.2.2.2.2.2.1 (vp_in_nI (show 14 < 80 by decide) (by decide)) rfl ?_
    rw [show Int32.toNatClampNeg 14 = 14 from rfl]
    refine zk_h (fun h13 k13 => ?_)
    have N13 := rN_R hD N12 k13
    refine zi_iinc (v := 3) (lv' := [(10, _), (11, _), (8, _), (6, _), (15, _), (13, _), (2, _), (4, _), (0, _), (1, _)]) 330 dX11_divide_327 rfl rfl rfl rfl rfl ?_
    refine zi_goto 291 dX11_divide_330 (by decide) ?_
    refine zi_iload 293 dX11_divide_291 rfl rfl ?_
    refine zi_iconst (v := 4) 294 dX11_divide_293 (by decide) rfl ?_
    refine zi_icmp_ge 297 333 dX11_divide_294 (by decide) rfl (fun c_294 => absurd c_294 (by decide)) (fun c_294 => ?_)
    refine zi_aload_n 298 dX11_divide_297 rfl rfl ?_
    refine zi_getfield 301 9 dX11_divide_298 zcl_X11 tw_872 rfl rfl N13.1.1 rfl rfl ?_
    refine zi_bipush (v := 12) 303 dX11_divide_301 (by decide) rfl ?_
    refine zi_iload 305 dX11_divide_303 rfl rfl ?_
    refine zi_iadd 306 dX11_divide_305 rfl ?_
    rw [show (12 : Int32) + 3 = 15 from rfl]
    refine zi_aload_n 307 dX11_divide_306 rfl rfl ?_
    refine zi_getfield 310 9 dX11_divide_307 zcl_X11 tw_872 rfl rfl N13.1.1 rfl rfl ?_
    refine zi_iconst (v := 0) 311 dX11_divide_310 (by decide) rfl ?_
    refine zi_iload 313 dX11_divide_311 rfl rfl ?_
    refine zi_iadd 314 dX11_divide_313 rfl ?_
    rw [show (0 : Int32) + 3 = 3 from rfl]
    refine zi_laload 315 dX11_divide_314 N13.1.2.2.2.2.2.2.2.2.1 (vp_in_nI (show 3 < 80 by decide) (by decide)) rfl ?_
    rw [show Int32.toNatClampNeg 3 = 3 from rfl]
    rw [show wR _ 3 = iz P.2.2.2 from congrArg (fun v : z4 => v.2.2.2) gP]
    refine zi_aload_n 316 dX11_divide_315 rfl rfl ?_
    refine zi_getfield 319 9 dX11_divide_316 zcl_X11 tw_872 rfl rfl N13.1.1 rfl rfl ?_
    refine zi_bipush (v := 16) 321 dX11_divide_319 (by decide) rfl ?_
    refine zi_iload 323 dX11_divide_321 rfl rfl ?_
    refine zi_iadd 324 dX11_divide_323 rfl ?_
    rw [show (16 : Int32) + 3 = 19 from rfl]
    refine zi_laload 325 dX11_divide_324 N13.1.2.2.2.2.2.2.2.2.1 (vp_in_nI (show 19 < 80 by decide) (by decide)) rfl ?_
    rw [show Int32.toNatClampNeg 19 = 19 from rfl]
    rw [show wR _ 19 = iz (dvK P Q 1).2.2.2 from congrArg (fun v : z4 => v.2.2.2) gK]
    refine zi_lsub 326 dX11_divide_325 rfl ?_
    rw [iz_sub]
    refine zi_lastore 327 dX11_divide_326 N13.1.2.2.2.2.2.2.2.2.1 (vp_in_nI (show 15 < 80 by decide) (by decide)) rfl ?_
    rw [show Int32.toNatClampNeg 15 = 15 from rfl]
    refine zk_h (fun h14 k14 => ?_)
    have N14 := rN_R hD N13 k14
    refine zi_iinc (v := 4) (lv' := [(10, _), (11, _), (8, _), (6, _), (15, _), (13, _), (2, _), (4, _), (0, _), (1, _)]) 330 dX11_divide_327 rfl rfl rfl rfl rfl ?_
    refine zi_goto 291 dX11_divide_330 (by decide) ?_
    refine zi_iload 293 dX11_divide_291 rfl rfl ?_
    refine zi_iconst (v := 4) 294 dX11_divide_293 (by decide) rfl ?_
    refine zi_icmp_ge 297 333 dX11_divide_294 (by decide) rfl (fun c_294 => ?_) (fun c_294 => absurd c_294 (by decide))
    exact zr_void hZ dX11_divide_333 rfl ⟨rfl, _, N14, gT, rfl, fun i hi => (u4 (a := 12) (by omega)).trans (gO i (by omega))⟩
  ·
    refine zi_aload_n 1 dX11_divide_0 rfl rfl ?_
    refine zi_iconst (v := 4) 2 dX11_divide_1 (by decide) rfl ?_
    refine zc_virtual (n' := (0, 0)) (md' := mX11_norm4) 5 dX11_divide_2 tw_948 zv_X11_norm4 zcl_X11 (s_X11_norm4 B h D hD _ N0.1 4 (by omega)) N0.1.1 rfl rfl rfl rfl rfl rfl rfl rfl (zk_f ?_)
    rw [show zNm (ro (wR m) 4) = iz (i4n Q) from (congrArg zNm hQ).trans (z4i_n (by omega))]
    refine zi_lstore_n (lv' := [(2, _), (0, _), (1, _)]) 6 dX11_divide_5 rfl rfl rfl ?_
    refine zi_aload_n 7 dX11_divide_6 rfl rfl ?_
    refine zi_bipush (v := 16) 9 dX11_divide_7 (by decide) rfl ?_
    refine zi_iconst (v := 4) 10 dX11_divide_9 (by decide) rfl ?_
    refine zc_virtual (n' := (0, 0)) (md' := mX11_turnBack) 13 dX11_divide_10 tw_1055 zv_X11_turnBack zcl_X11 (s_X11_turnBack B h D hD _ N0.1 16 4 (by omega) (by omega)) N0.1.1 rfl rfl rfl rfl rfl rfl rfl rfl (zk_v fun h1 n1 => ?_)
    have N1 := rN_t N0 n1
    refine zi_iload_n 14 dX11_divide_13 rfl rfl ?_
    refine zi_if_ne 17 29 dX11_divide_14 (by decide) rfl (fun c_14 => ?_) (fun c_14 => absurd c_14 (by decide))
    refine zi_aload_n 30 dX11_divide_29 rfl rfl ?_
    refine zi_bipush (v := 16) 32 dX11_divide_30 (by decide) rfl ?_
    refine zi_iconst (v := 0) 33 dX11_divide_32 (by decide) rfl ?_
    refine zi_bipush (v := 16) 35 dX11_divide_33 (by decide) rfl ?_
    refine zc_virtual (n' := (0, 0)) (md' := mX11_multiply) 38 dX11_divide_35 tw_1039 zv_X11_multiply zcl_X11 (s_X11_multiply B h1 D hD _ N1.1 16 0 16 (by omega) (by omega) (by omega)) N1.1.1 rfl rfl rfl rfl rfl rfl rfl rfl (zk_v fun h2 n2 => ?_)
    have N2 := rN_t N1 n2
    obtain ⟨R, N3, eU, eP, eQ, eO⟩ : ∃ R, rN B D (uR m R) h h2 ∧ ro R 16 = z4i (dvU P Q 1) ∧ ro R 0 = z4i P ∧ ro R 4 = z4i Q ∧ ∀ i, (i < 16 ∨ 20 ≤ i) → R i = wR m i := ⟨_, N2, by show zMul (ro (wR m) 0) (zBk (ro (wR m) 4)) = _; rw [hP, hQ]; exact (dv_U (s := 1) ok).1, hP, hQ, fun i hi => (p4_o (a := 16) _ (by omega)).trans (p4_o (a := 16) _ (by omega))⟩
    refine zi_lload_n 39 dX11_divide_38 rfl rfl ?_
    refine zi_lstore (lv' := [(4, _), (2, _), (0, _), (1, _)]) 41 dX11_divide_39 rfl rfl rfl ?_
    refine zi_iconst (v := 0) 42 dX11_divide_41 (by decide) rfl ?_
    refine zi_istore (lv' := [(6, _), (4, _), (2, _), (0, _), (1, _)]) 44 dX11_divide_42 rfl rfl rfl ?_
    refine zi_iload 46 dX11_divide_44 rfl rfl ?_
    refine zi_iconst (v := 4) 47 dX11_divide_46 (by decide) rfl ?_
    refine zi_icmp_ge 50 73 dX11_divide_47 (by decide) rfl (fun c_47 => absurd c_47 (by decide)) (fun c_47 => ?_)
    refine zi_lload 52 dX11_divide_50 rfl rfl ?_
    refine zi_aload_n 53 dX11_divide_52 rfl rfl ?_
    refine zi_getfield 56 9 dX11_divide_53 zcl_X11 tw_872 rfl rfl N3.1.1 rfl rfl ?_
    refine zi_bipush (v := 16) 58 dX11_divide_56 (by decide) rfl ?_
    refine zi_iload 60 dX11_divide_58 rfl rfl ?_
    refine zi_iadd 61 dX11_divide_60 rfl ?_
    rw [show (16 : Int32) + 0 = 16 from rfl]
    refine zi_laload 62 dX11_divide_61 N3.1.2.2.2.2.2.2.2.2.1 (vp_in_nI (show 16 < 80 by decide) (by decide)) rfl ?_
    rw [show Int32.toNatClampNeg 16 = 16 from rfl]
    rw [show wR _ 16 = iz (dvU P Q 1).1 from congrArg (fun v : z4 => v.1) eU]
    refine zc_static (n' := (0, 0)) (md' := mX11_divisor) 65 dX11_divide_62 tw_970 zs_X11_divisor (s_X11_divisor B h2 _ _ (iz_nm (by omega)) (iz_nm (by omega))) rfl rfl rfl rfl rfl rfl rfl rfl (zk_f ?_)
    rw [gcd_iz (by omega) (by omega)]
    refine zi_lstore (lv' := [(4, _), (6, _), (2, _), (0, _), (1, _)]) 67 dX11_divide_65 rfl rfl rfl ?_
    refine zi_iinc (v := 1) (lv' := [(6, _), (4, _), (2, _), (0, _), (1, _)]) 70 dX11_divide_67 rfl rfl rfl rfl rfl ?_
    refine zi_goto 44 dX11_divide_70 (by decide) ?_
    refine zi_iload 46 dX11_divide_44 rfl rfl ?_
    refine zi_iconst (v := 4) 47 dX11_divide_46 (by decide) rfl ?_
    refine zi_icmp_ge 50 73 dX11_divide_47 (by decide) rfl (fun c_47 => absurd c_47 (by decide)) (fun c_47 => ?_)
    refine zi_lload 52 dX11_divide_50 rfl rfl ?_
    refine zi_aload_n 53 dX11_divide_52 rfl rfl ?_
    refine zi_getfield 56 9 dX11_divide_53 zcl_X11 tw_872 rfl rfl N3.1.1 rfl rfl ?_
    refine zi_bipush (v := 16) 58 dX11_divide_56 (by decide) rfl ?_
    refine zi_iload 60 dX11_divide_58 rfl rfl ?_
    refine zi_iadd 61 dX11_divide_60 rfl ?_
    rw [show (16 : Int32) + 1 = 17 from rfl]
    refine zi_laload 62 dX11_divide_61 N3.1.2.2.2.2.2.2.2.2.1 (vp_in_nI (show 17 < 80 by decide) (by decide)) rfl ?_
    rw [show Int32.toNatClampNeg 17 = 17 from rfl]
    rw [show wR _ 17 = iz (dvU P Q 1).2.1 from congrArg (fun v : z4 => v.2.1) eU]
    refine zc_static (n' := (0, 0)) (md' := mX11_divisor) 65 dX11_divide_62 tw_970 zs_X11_divisor (s_X11_divisor B h2 _ _ (lN_nm (gcd_lt (by omega) (by omega))) (iz_nm (by omega))) rfl rfl rfl rfl rfl rfl rfl rfl (zk_f ?_)
    rw [dv_gcd (gcd_lt (by omega) (by omega)) (by omega)]
    refine zi_lstore (lv' := [(4, _), (6, _), (2, _), (0, _), (1, _)]) 67 dX11_divide_65 rfl rfl rfl ?_
    refine zi_iinc (v := 2) (lv' := [(6, _), (4, _), (2, _), (0, _), (1, _)]) 70 dX11_divide_67 rfl rfl rfl rfl rfl ?_
    refine zi_goto 44 dX11_divide_70 (by decide) ?_
    refine zi_iload 46 dX11_divide_44 rfl rfl ?_
    refine zi_iconst (v := 4) 47 dX11_divide_46 (by decide) rfl ?_
    refine zi_icmp_ge 50 73 dX11_divide_47 (by decide) rfl (fun c_47 => absurd c_47 (by decide)) (fun c_47 => ?_)
    refine zi_lload 52 dX11_divide_50 rfl rfl ?_
    refine zi_aload_n 53 dX11_divide_52 rfl rfl ?_
    refine zi_getfield 56 9 dX11_divide_53 zcl_X11 tw_872 rfl rfl N3.1.1 rfl rfl ?_
    refine zi_bipush (v := 16) 58 dX11_divide_56 (by decide) rfl ?_
    refine zi_iload 60 dX11_divide_58 rfl rfl ?_
    refine zi_iadd 61 dX11_divide_60 rfl ?_
    rw [show (16 : Int32) + 2 = 18 from rfl]
    refine zi_laload 62 dX11_divide_61 N3.1.2.2.2.2.2.2.2.2.1 (vp_in_nI (show 18 < 80 by decide) (by decide)) rfl ?_
    rw [show Int32.toNatClampNeg 18 = 18 from rfl]
    rw [show wR _ 18 = iz (dvU P Q 1).2.2.1 from congrArg (fun v : z4 => v.2.2.1) eU]
    refine zc_static (n' := (0, 0)) (md' := mX11_divisor) 65 dX11_divide_62 tw_970 zs_X11_divisor (s_X11_divisor B h2 _ _ (lN_nm (gcd_lt (gcd_lt (by omega) (by omega)) (by omega))) (iz_nm (by omega))) rfl rfl rfl rfl rfl rfl rfl rfl (zk_f ?_)
    rw [dv_gcd (gcd_lt (gcd_lt (by omega) (by omega)) (by omega)) (by omega)]
    refine zi_lstore (lv' := [(4, _), (6, _), (2, _), (0, _), (1, _)]) 67 dX11_divide_65 rfl rfl rfl ?_
    refine zi_iinc (v := 3) (lv' := [(6, _), (4, _), (2, _), (0, _), (1, _)]) 70 dX11_divide_67 rfl rfl rfl rfl rfl ?_
    refine zi_goto 44 dX11_divide_70 (by decide) ?_
    refine zi_iload 46 dX11_divide_44 rfl rfl ?_
    refine zi_iconst (v := 4) 47 dX11_divide_46 (by decide) rfl ?_
    refine zi_icmp_ge 50 73 dX11_divide_47 (by decide) rfl (fun c_47 => absurd c_47 (by decide)) (fun c_47 => ?_)
    refine zi_lload 52 dX11_divide_50 rfl rfl ?_
    refine zi_aload_n 53 dX11_divide_52 rfl rfl ?_
    refine zi_getfield 56 9 dX11_divide_53 zcl_X11 tw_872 rfl rfl N3.1.1 rfl rfl ?_
    refine zi_bipush (v := 16) 58 dX11_divide_56 (by decide) rfl ?_
    refine zi_iload 60 dX11_divide_58 rfl rfl ?_
    refine zi_iadd 61 dX11_divide_60 rfl ?_
    rw [show (16 : Int32) + 3 = 19 from rfl]
    refine zi_laload 62 dX11_divide_61 N3.1.2.2.2.2.2.2.2.2.1 (vp_in_nI (show 19 < 80 by decide) (by decide)) rfl ?_
    rw [show Int32.toNatClampNeg 19 = 19 from rfl]
    rw [show wR _ 19 = iz (dvU P Q 1).2.2.2 from congrArg (fun v : z4 => v.2.2.2) eU]
    refine zc_static (n' := (0, 0)) (md' := mX11_divisor) 65 dX11_divide_62 tw_970 zs_X11_divisor (s_X11_divisor B h2 _ _ (lN_nm (gcd_lt (gcd_lt (gcd_lt (by omega) (by omega)) (by omega)) (by omega))) (iz_nm (by omega))) rfl rfl rfl rfl rfl rfl rfl rfl (zk_f ?_)
    rw [dv_gcd (gcd_lt (gcd_lt (gcd_lt (by omega) (by omega)) (by omega)) (by omega)) (by omega), eGc]
    refine zi_lstore (lv' := [(4, _), (6, _), (2, _), (0, _), (1, _)]) 67 dX11_divide_65 rfl rfl rfl ?_
    refine zi_iinc (v := 4) (lv' := [(6, _), (4, _), (2, _), (0, _), (1, _)]) 70 dX11_divide_67 rfl rfl rfl rfl rfl ?_
    refine zi_goto 44 dX11_divide_70 (by decide) ?_
    refine zi_iload 46 dX11_divide_44 rfl rfl ?_
    refine zi_iconst (v := 4) 47 dX11_divide_46 (by decide) rfl ?_
    refine zi_icmp_ge 50 73 dX11_divide_47 (by decide) rfl (fun c_47 => ?_) (fun c_47 => absurd c_47 (by decide))
    refine zi_lload_n 74 dX11_divide_73 rfl rfl ?_
    refine zi_lload 76 dX11_divide_74 rfl rfl ?_
    refine zi_ldiv 77 dX11_divide_76 (fun e => by rw [lN_0e hG63] at e; omega) rfl ?_
    rw [iz_lN_div hq2 ⟨by omega, by omega⟩ (by omega)]
    refine zi_lstore_n (lv' := [(2, _), (6, _), (4, _), (0, _), (1, _)]) 78 dX11_divide_77 rfl rfl rfl ?_
    refine zi_lconst (v := 0) 79 dX11_divide_78 (by decide) rfl ?_
    refine zi_lstore (lv' := [(6, _), (2, _), (4, _), (0, _), (1, _)]) 81 dX11_divide_79 rfl rfl rfl ?_
    refine zi_lconst (v := 0) 82 dX11_divide_81 (by decide) rfl ?_
    refine zi_lstore (lv' := [(8, _), (6, _), (2, _), (4, _), (0, _), (1, _)]) 84 dX11_divide_82 rfl rfl rfl ?_
    refine zi_iconst (v := 0) 85 dX11_divide_84 (by decide) rfl ?_
    refine zi_istore (lv' := [(10, _), (8, _), (6, _), (2, _), (4, _), (0, _), (1, _)]) 87 dX11_divide_85 rfl rfl rfl ?_
    refine zi_iload 89 dX11_divide_87 rfl rfl ?_
    refine zi_iconst (v := 4) 90 dX11_divide_89 (by decide) rfl ?_
    refine zi_icmp_ge 93 180 dX11_divide_90 (by decide) rfl (fun c_90 => absurd c_90 (by decide)) (fun c_90 => ?_)
    refine zi_aload_n 94 dX11_divide_93 rfl rfl ?_
    refine zi_getfield 97 9 dX11_divide_94 zcl_X11 tw_872 rfl rfl N3.1.1 rfl rfl ?_
    refine zi_bipush (v := 16) 99 dX11_divide_97 (by decide) rfl ?_
    refine zi_iload 101 dX11_divide_99 rfl rfl ?_
    refine zi_iadd 102 dX11_divide_101 rfl ?_
    rw [show (16 : Int32) + 0 = 16 from rfl]
    refine zi_laload 103 dX11_divide_102 N3.1.2.2.2.2.2.2.2.2.1 (vp_in_nI (show 16 < 80 by decide) (by decide)) rfl ?_
    rw [show Int32.toNatClampNeg 16 = 16 from rfl]
    rw [show wR _ 16 = iz (dvU P Q 1).1 from congrArg (fun v : z4 => v.1) eU]
    refine zi_lload 105 dX11_divide_103 rfl rfl ?_
    refine zi_ldiv 106 dX11_divide_105 (fun e => by rw [lN_0e hG63] at e; omega) rfl ?_
    rw [iz_dx (by omega) hG63 gd0, show (dvU P Q 1).1 / ((dvG P Q 1) : Int) = (dvu P Q 1).1 from rfl]
    refine zi_lstore (lv' := [(11, _), (10, _), (8, _), (6, _), (2, _), (4, _), (0, _), (1, _)]) 108 dX11_divide_106 rfl rfl rfl ?_
    refine zi_lload 110 dX11_divide_108 rfl rfl ?_
    refine zi_ldc2 113 dX11_divide_110 tw_909 rfl ?_
    refine zi_lload_n 114 dX11_divide_113 rfl rfl ?_
    refine zi_lmul 115 dX11_divide_114 rfl ?_
    refine zi_lload 117 dX11_divide_115 rfl rfl ?_
    refine zi_lload_n 118 dX11_divide_117 rfl rfl ?_
    refine zi_ladd 119 dX11_divide_118 rfl ?_
    refine zi_ldc2 122 dX11_divide_119 tw_909 rfl ?_
    refine zi_lload_n 123 dX11_divide_122 rfl rfl ?_
    refine zi_lmul 124 dX11_divide_123 rfl ?_
    rw [iz_2, iz_mul, iz_add]
    refine zc_static (n' := (0, 0)) (md' := mX11_down) 127 dX11_divide_124 tw_1068 zs_X11_down (s_X11_down B h2 _ _ (by omega) (by omega) (by omega) (by omega)) rfl rfl rfl rfl rfl rfl rfl rfl (zk_f ?_)
    refine zi_lmul 128 dX11_divide_127 rfl ?_
    refine zi_lsub 129 dX11_divide_128 rfl ?_
    rw [iz_mul, iz_sub, eWh]
    refine zi_lstore (lv' := [(13, _), (11, _), (10, _), (8, _), (6, _), (2, _), (4, _), (0, _), (1, _)]) 131 dX11_divide_129 rfl rfl rfl ?_
    refine zi_lload 133 dX11_divide_131 rfl rfl ?_
    refine zi_lload_n 134 dX11_divide_133 rfl rfl ?_
    refine zi_ldc2 137 dX11_divide_134 tw_909 rfl ?_
    refine zi_lload 139 dX11_divide_137 rfl rfl ?_
    refine zi_ldc2 142 dX11_divide_139 tw_909 rfl ?_
    refine zi_lload_n 143 dX11_divide_142 rfl rfl ?_
    refine zi_lmul 144 dX11_divide_143 rfl ?_
    rw [iz_2, iz_mul]
    refine zc_static (n' := (0, 0)) (md' := mX11_down) 147 dX11_divide_144 tw_1068 zs_X11_down (s_X11_down B h2 _ _ (by omega) (by omega) (by omega) (by omega)) rfl rfl rfl rfl rfl rfl rfl rfl (zk_f ?_)
    refine zi_lmul 148 dX11_divide_147 rfl ?_
    refine zi_lconst (v := 1) 149 dX11_divide_148 (by decide) rfl ?_
    refine zi_ladd 150 dX11_divide_149 rfl ?_
    refine zi_lmul 151 dX11_divide_150 rfl ?_
    refine zi_lsub 152 dX11_divide_151 rfl ?_
    rw [iz_mul, iz_1, iz_add, iz_mul, iz_sub, eHf]
    refine zi_lstore (lv' := [(15, _), (13, _), (11, _), (10, _), (8, _), (6, _), (2, _), (4, _), (0, _), (1, _)]) 154 dX11_divide_152 rfl rfl rfl ?_
    refine zi_lload 156 dX11_divide_154 rfl rfl ?_
    refine zi_lload 158 dX11_divide_156 rfl rfl ?_
    refine zi_lload 160 dX11_divide_158 rfl rfl ?_
    refine zi_lmul 161 dX11_divide_160 rfl ?_
    refine zi_ladd 162 dX11_divide_161 rfl ?_
    rw [iz_mul, Int64.zero_add]
    refine zi_lstore (lv' := [(6, _), (15, _), (13, _), (11, _), (10, _), (8, _), (2, _), (4, _), (0, _), (1, _)]) 164 dX11_divide_162 rfl rfl rfl ?_
    refine zi_lload 166 dX11_divide_164 rfl rfl ?_
    refine zi_lload 168 dX11_divide_166 rfl rfl ?_
    refine zi_lload 170 dX11_divide_168 rfl rfl ?_
    refine zi_lmul 171 dX11_divide_170 rfl ?_
    refine zi_ladd 172 dX11_divide_171 rfl ?_
    rw [iz_mul, Int64.zero_add]
    refine zi_lstore (lv' := [(8, _), (6, _), (15, _), (13, _), (11, _), (10, _), (2, _), (4, _), (0, _), (1, _)]) 174 dX11_divide_172 rfl rfl rfl ?_
    refine zi_iinc (v := 1) (lv' := [(10, _), (8, _), (6, _), (15, _), (13, _), (11, _), (2, _), (4, _), (0, _), (1, _)]) 177 dX11_divide_174 rfl rfl rfl rfl rfl ?_
    refine zi_goto 87 dX11_divide_177 (by decide) ?_
    refine zi_iload 89 dX11_divide_87 rfl rfl ?_
    refine zi_iconst (v := 4) 90 dX11_divide_89 (by decide) rfl ?_
    refine zi_icmp_ge 93 180 dX11_divide_90 (by decide) rfl (fun c_90 => absurd c_90 (by decide)) (fun c_90 => ?_)
    refine zi_aload_n 94 dX11_divide_93 rfl rfl ?_
    refine zi_getfield 97 9 dX11_divide_94 zcl_X11 tw_872 rfl rfl N3.1.1 rfl rfl ?_
    refine zi_bipush (v := 16) 99 dX11_divide_97 (by decide) rfl ?_
    refine zi_iload 101 dX11_divide_99 rfl rfl ?_
    refine zi_iadd 102 dX11_divide_101 rfl ?_
    rw [show (16 : Int32) + 1 = 17 from rfl]
    refine zi_laload 103 dX11_divide_102 N3.1.2.2.2.2.2.2.2.2.1 (vp_in_nI (show 17 < 80 by decide) (by decide)) rfl ?_
    rw [show Int32.toNatClampNeg 17 = 17 from rfl]
    rw [show wR _ 17 = iz (dvU P Q 1).2.1 from congrArg (fun v : z4 => v.2.1) eU]
    refine zi_lload 105 dX11_divide_103 rfl rfl ?_
    refine zi_ldiv 106 dX11_divide_105 (fun e => by rw [lN_0e hG63] at e; omega) rfl ?_
    rw [iz_dx (by omega) hG63 gd1, show (dvU P Q 1).2.1 / ((dvG P Q 1) : Int) = (dvu P Q 1).2.1 from rfl]
    refine zi_lstore (lv' := [(11, _), (10, _), (8, _), (6, _), (15, _), (13, _), (2, _), (4, _), (0, _), (1, _)]) 108 dX11_divide_106 rfl rfl rfl ?_
    refine zi_lload 110 dX11_divide_108 rfl rfl ?_
    refine zi_ldc2 113 dX11_divide_110 tw_909 rfl ?_
    refine zi_lload_n 114 dX11_divide_113 rfl rfl ?_
    refine zi_lmul 115 dX11_divide_114 rfl ?_
    refine zi_lload 117 dX11_divide_115 rfl rfl ?_
    refine zi_lload_n 118 dX11_divide_117 rfl rfl ?_
    refine zi_ladd 119 dX11_divide_118 rfl ?_
    refine zi_ldc2 122 dX11_divide_119 tw_909 rfl ?_
    refine zi_lload_n 123 dX11_divide_122 rfl rfl ?_
    refine zi_lmul 124 dX11_divide_123 rfl ?_
    rw [iz_2, iz_mul, iz_add]
    refine zc_static (n' := (0, 0)) (md' := mX11_down) 127 dX11_divide_124 tw_1068 zs_X11_down (s_X11_down B h2 _ _ (by omega) (by omega) (by omega) (by omega)) rfl rfl rfl rfl rfl rfl rfl rfl (zk_f ?_)
    refine zi_lmul 128 dX11_divide_127 rfl ?_
    refine zi_lsub 129 dX11_divide_128 rfl ?_
    rw [iz_mul, iz_sub, eWh]
    refine zi_lstore (lv' := [(13, _), (11, _), (10, _), (8, _), (6, _), (15, _), (2, _), (4, _), (0, _), (1, _)]) 131 dX11_divide_129 rfl rfl rfl ?_
    refine zi_lload 133 dX11_divide_131 rfl rfl ?_
    refine zi_lload_n 134 dX11_divide_133 rfl rfl ?_
    refine zi_ldc2 137 dX11_divide_134 tw_909 rfl ?_
    refine zi_lload 139 dX11_divide_137 rfl rfl ?_
    refine zi_ldc2 142 dX11_divide_139 tw_909 rfl ?_
    refine zi_lload_n 143 dX11_divide_142 rfl rfl ?_
    refine zi_lmul 144 dX11_divide_143 rfl ?_
    rw [iz_2, iz_mul]
    refine zc_static (n' := (0, 0)) (md' := mX11_down) 147 dX11_divide_144 tw_1068 zs_X11_down (s_X11_down B h2 _ _ (by omega) (by omega) (by omega) (by omega)) rfl rfl rfl rfl rfl rfl rfl rfl (zk_f ?_)
    refine zi_lmul 148 dX11_divide_147 rfl ?_
    refine zi_lconst (v := 1) 149 dX11_divide_148 (by decide) rfl ?_
    refine zi_ladd 150 dX11_divide_149 rfl ?_
    refine zi_lmul 151 dX11_divide_150 rfl ?_
    refine zi_lsub 152 dX11_divide_151 rfl ?_
    rw [iz_mul, iz_1, iz_add, iz_mul, iz_sub, eHf]
    refine zi_lstore (lv' := [(15, _), (13, _), (11, _), (10, _), (8, _), (6, _), (2, _), (4, _), (0, _), (1, _)]) 154 dX11_divide_152 rfl rfl rfl ?_
    refine zi_lload 156 dX11_divide_154 rfl rfl ?_
    refine zi_lload 158 dX11_divide_156 rfl rfl ?_
    refine zi_lload 160 dX11_divide_158 rfl rfl ?_
    refine zi_lmul 161 dX11_divide_160 rfl ?_
    refine zi_ladd 162 dX11_divide_161 rfl ?_
    rw [iz_mul, iz_add]
    refine zi_lstore (lv' := [(6, _), (15, _), (13, _), (11, _), (10, _), (8, _), (2, _), (4, _), (0, _), (1, _)]) 164 dX11_divide_162 rfl rfl rfl ?_
    refine zi_lload 166 dX11_divide_164 rfl rfl ?_
    refine zi_lload 168 dX11_divide_166 rfl rfl ?_
    refine zi_lload 170 dX11_divide_168 rfl rfl ?_
    refine zi_lmul 171 dX11_divide_170 rfl ?_
    refine zi_ladd 172 dX11_divide_171 rfl ?_
    rw [iz_mul, iz_add]
    refine zi_lstore (lv' := [(8, _), (6, _), (15, _), (13, _), (11, _), (10, _), (2, _), (4, _), (0, _), (1, _)]) 174 dX11_divide_172 rfl rfl rfl ?_
    refine zi_iinc (v := 2) (lv' := [(10, _), (8, _), (6, _), (15, _), (13, _), (11, _), (2, _), (4, _), (0, _), (1, _)]) 177 dX11_divide_174 rfl rfl rfl rfl rfl ?_
    refine zi_goto 87 dX11_divide_177 (by decide) ?_
    refine zi_iload 89 dX11_divide_87 rfl rfl ?_
    refine zi_iconst (v := 4) 90 dX11_divide_89 (by decide) rfl ?_
    refine zi_icmp_ge 93 180 dX11_divide_90 (by decide) rfl (fun c_90 => absurd c_90 (by decide)) (fun c_90 => ?_)
    refine zi_aload_n 94 dX11_divide_93 rfl rfl ?_
    refine zi_getfield 97 9 dX11_divide_94 zcl_X11 tw_872 rfl rfl N3.1.1 rfl rfl ?_
    refine zi_bipush (v := 16) 99 dX11_divide_97 (by decide) rfl ?_
    refine zi_iload 101 dX11_divide_99 rfl rfl ?_
    refine zi_iadd 102 dX11_divide_101 rfl ?_
    rw [show (16 : Int32) + 2 = 18 from rfl]
    refine zi_laload 103 dX11_divide_102 N3.1.2.2.2.2.2.2.2.2.1 (vp_in_nI (show 18 < 80 by decide) (by decide)) rfl ?_
    rw [show Int32.toNatClampNeg 18 = 18 from rfl]
    rw [show wR _ 18 = iz (dvU P Q 1).2.2.1 from congrArg (fun v : z4 => v.2.2.1) eU]
    refine zi_lload 105 dX11_divide_103 rfl rfl ?_
    refine zi_ldiv 106 dX11_divide_105 (fun e => by rw [lN_0e hG63] at e; omega) rfl ?_
    rw [iz_dx (by omega) hG63 gd2, show (dvU P Q 1).2.2.1 / ((dvG P Q 1) : Int) = (dvu P Q 1).2.2.1 from rfl]
    refine zi_lstore (lv' := [(11, _), (10, _), (8, _), (6, _), (15, _), (13, _), (2, _), (4, _), (0, _), (1, _)]) 108 dX11_divide_106 rfl rfl rfl ?_
    refine zi_lload 110 dX11_divide_108 rfl rfl ?_
    refine zi_ldc2 113 dX11_divide_110 tw_909 rfl ?_
    refine zi_lload_n 114 dX11_divide_113 rfl rfl ?_
    refine zi_lmul 115 dX11_divide_114 rfl ?_
    refine zi_lload 117 dX11_divide_115 rfl rfl ?_
    refine zi_lload_n 118 dX11_divide_117 rfl rfl ?_
    refine zi_ladd 119 dX11_divide_118 rfl ?_
    refine zi_ldc2 122 dX11_divide_119 tw_909 rfl ?_
    refine zi_lload_n 123 dX11_divide_122 rfl rfl ?_
    refine zi_lmul 124 dX11_divide_123 rfl ?_
    rw [iz_2, iz_mul, iz_add]
    refine zc_static (n' := (0, 0)) (md' := mX11_down) 127 dX11_divide_124 tw_1068 zs_X11_down (s_X11_down B h2 _ _ (by omega) (by omega) (by omega) (by omega)) rfl rfl rfl rfl rfl rfl rfl rfl (zk_f ?_)
    refine zi_lmul 128 dX11_divide_127 rfl ?_
    refine zi_lsub 129 dX11_divide_128 rfl ?_
    rw [iz_mul, iz_sub, eWh]
    refine zi_lstore (lv' := [(13, _), (11, _), (10, _), (8, _), (6, _), (15, _), (2, _), (4, _), (0, _), (1, _)]) 131 dX11_divide_129 rfl rfl rfl ?_
    refine zi_lload 133 dX11_divide_131 rfl rfl ?_
    refine zi_lload_n 134 dX11_divide_133 rfl rfl ?_
    refine zi_ldc2 137 dX11_divide_134 tw_909 rfl ?_
    refine zi_lload 139 dX11_divide_137 rfl rfl ?_
    refine zi_ldc2 142 dX11_divide_139 tw_909 rfl ?_
    refine zi_lload_n 143 dX11_divide_142 rfl rfl ?_
    refine zi_lmul 144 dX11_divide_143 rfl ?_
    rw [iz_2, iz_mul]
    refine zc_static (n' := (0, 0)) (md' := mX11_down) 147 dX11_divide_144 tw_1068 zs_X11_down (s_X11_down B h2 _ _ (by omega) (by omega) (by omega) (by omega)) rfl rfl rfl rfl rfl rfl rfl rfl (zk_f ?_)
    refine zi_lmul 148 dX11_divide_147 rfl ?_
    refine zi_lconst (v := 1) 149 dX11_divide_148 (by decide) rfl ?_
    refine zi_ladd 150 dX11_divide_149 rfl ?_
    refine zi_lmul 151 dX11_divide_150 rfl ?_
    refine zi_lsub 152 dX11_divide_151 rfl ?_
    rw [iz_mul, iz_1, iz_add, iz_mul, iz_sub, eHf]
    refine zi_lstore (lv' := [(15, _), (13, _), (11, _), (10, _), (8, _), (6, _), (2, _), (4, _), (0, _), (1, _)]) 154 dX11_divide_152 rfl rfl rfl ?_
    refine zi_lload 156 dX11_divide_154 rfl rfl ?_
    refine zi_lload 158 dX11_divide_156 rfl rfl ?_
    refine zi_lload 160 dX11_divide_158 rfl rfl ?_
    refine zi_lmul 161 dX11_divide_160 rfl ?_
    refine zi_ladd 162 dX11_divide_161 rfl ?_
    rw [iz_mul, iz_add]
    refine zi_lstore (lv' := [(6, _), (15, _), (13, _), (11, _), (10, _), (8, _), (2, _), (4, _), (0, _), (1, _)]) 164 dX11_divide_162 rfl rfl rfl ?_
    refine zi_lload 166 dX11_divide_164 rfl rfl ?_
    refine zi_lload 168 dX11_divide_166 rfl rfl ?_
    refine zi_lload 170 dX11_divide_168 rfl rfl ?_
    refine zi_lmul 171 dX11_divide_170 rfl ?_
    refine zi_ladd 172 dX11_divide_171 rfl ?_
    rw [iz_mul, iz_add]
    refine zi_lstore (lv' := [(8, _), (6, _), (15, _), (13, _), (11, _), (10, _), (2, _), (4, _), (0, _), (1, _)]) 174 dX11_divide_172 rfl rfl rfl ?_
    refine zi_iinc (v := 3) (lv' := [(10, _), (8, _), (6, _), (15, _), (13, _), (11, _), (2, _), (4, _), (0, _), (1, _)]) 177 dX11_divide_174 rfl rfl rfl rfl rfl ?_
    refine zi_goto 87 dX11_divide_177 (by decide) ?_
    refine zi_iload 89 dX11_divide_87 rfl rfl ?_
    refine zi_iconst (v := 4) 90 dX11_divide_89 (by decide) rfl ?_
    refine zi_icmp_ge 93 180 dX11_divide_90 (by decide) rfl (fun c_90 => absurd c_90 (by decide)) (fun c_90 => ?_)
    refine zi_aload_n 94 dX11_divide_93 rfl rfl ?_
    refine zi_getfield 97 9 dX11_divide_94 zcl_X11 tw_872 rfl rfl N3.1.1 rfl rfl ?_
    refine zi_bipush (v := 16) 99 dX11_divide_97 (by decide) rfl ?_
    refine zi_iload 101 dX11_divide_99 rfl rfl ?_
    refine zi_iadd 102 dX11_divide_101 rfl ?_
    rw [show (16 : Int32) + 3 = 19 from rfl]
    refine zi_laload 103 dX11_divide_102 N3.1.2.2.2.2.2.2.2.2.1 (vp_in_nI (show 19 < 80 by decide) (by decide)) rfl ?_
    rw [show Int32.toNatClampNeg 19 = 19 from rfl]
    rw [show wR _ 19 = iz (dvU P Q 1).2.2.2 from congrArg (fun v : z4 => v.2.2.2) eU]
    refine zi_lload 105 dX11_divide_103 rfl rfl ?_
    refine zi_ldiv 106 dX11_divide_105 (fun e => by rw [lN_0e hG63] at e; omega) rfl ?_
    rw [iz_dx (by omega) hG63 gd3, show (dvU P Q 1).2.2.2 / ((dvG P Q 1) : Int) = (dvu P Q 1).2.2.2 from rfl]
    refine zi_lstore (lv' := [(11, _), (10, _), (8, _), (6, _), (15, _), (13, _), (2, _), (4, _), (0, _), (1, _)]) 108 dX11_divide_106 rfl rfl rfl ?_
    refine zi_lload 110 dX11_divide_108 rfl rfl ?_
    refine zi_ldc2 113 dX11_divide_110 tw_909 rfl ?_
    refine zi_lload_n 114 dX11_divide_113 rfl rfl ?_
    refine zi_lmul 115 dX11_divide_114 rfl ?_
    refine zi_lload 117 dX11_divide_115 rfl rfl ?_
    refine zi_lload_n 118 dX11_divide_117 rfl rfl ?_
    refine zi_ladd 119 dX11_divide_118 rfl ?_
    refine zi_ldc2 122 dX11_divide_119 tw_909 rfl ?_
    refine zi_lload_n 123 dX11_divide_122 rfl rfl ?_
    refine zi_lmul 124 dX11_divide_123 rfl ?_
    rw [iz_2, iz_mul, iz_add]
    refine zc_static (n' := (0, 0)) (md' := mX11_down) 127 dX11_divide_124 tw_1068 zs_X11_down (s_X11_down B h2 _ _ (by omega) (by omega) (by omega) (by omega)) rfl rfl rfl rfl rfl rfl rfl rfl (zk_f ?_)
    refine zi_lmul 128 dX11_divide_127 rfl ?_
    refine zi_lsub 129 dX11_divide_128 rfl ?_
    rw [iz_mul, iz_sub, eWh]
    refine zi_lstore (lv' := [(13, _), (11, _), (10, _), (8, _), (6, _), (15, _), (2, _), (4, _), (0, _), (1, _)]) 131 dX11_divide_129 rfl rfl rfl ?_
    refine zi_lload 133 dX11_divide_131 rfl rfl ?_
    refine zi_lload_n 134 dX11_divide_133 rfl rfl ?_
    refine zi_ldc2 137 dX11_divide_134 tw_909 rfl ?_
    refine zi_lload 139 dX11_divide_137 rfl rfl ?_
    refine zi_ldc2 142 dX11_divide_139 tw_909 rfl ?_
    refine zi_lload_n 143 dX11_divide_142 rfl rfl ?_
    refine zi_lmul 144 dX11_divide_143 rfl ?_
    rw [iz_2, iz_mul]
    refine zc_static (n' := (0, 0)) (md' := mX11_down) 147 dX11_divide_144 tw_1068 zs_X11_down (s_X11_down B h2 _ _ (by omega) (by omega) (by omega) (by omega)) rfl rfl rfl rfl rfl rfl rfl rfl (zk_f ?_)
    refine zi_lmul 148 dX11_divide_147 rfl ?_
    refine zi_lconst (v := 1) 149 dX11_divide_148 (by decide) rfl ?_
    refine zi_ladd 150 dX11_divide_149 rfl ?_
    refine zi_lmul 151 dX11_divide_150 rfl ?_
    refine zi_lsub 152 dX11_divide_151 rfl ?_
    rw [iz_mul, iz_1, iz_add, iz_mul, iz_sub, eHf]
    refine zi_lstore (lv' := [(15, _), (13, _), (11, _), (10, _), (8, _), (6, _), (2, _), (4, _), (0, _), (1, _)]) 154 dX11_divide_152 rfl rfl rfl ?_
    refine zi_lload 156 dX11_divide_154 rfl rfl ?_
    refine zi_lload 158 dX11_divide_156 rfl rfl ?_
    refine zi_lload 160 dX11_divide_158 rfl rfl ?_
    refine zi_lmul 161 dX11_divide_160 rfl ?_
    refine zi_ladd 162 dX11_divide_161 rfl ?_
    rw [iz_mul, iz_add]
    rw [show ((dvu P Q 1).1 - zE (dvu P Q 1).1 (dvn P Q 1) * (dvn P Q 1)) * ((dvu P Q 1).1 - zE (dvu P Q 1).1 (dvn P Q 1) * (dvn P Q 1)) + ((dvu P Q 1).2.1 - zE (dvu P Q 1).2.1 (dvn P Q 1) * (dvn P Q 1)) * ((dvu P Q 1).2.1 - zE (dvu P Q 1).2.1 (dvn P Q 1) * (dvn P Q 1)) + ((dvu P Q 1).2.2.1 - zE (dvu P Q 1).2.2.1 (dvn P Q 1) * (dvn P Q 1)) * ((dvu P Q 1).2.2.1 - zE (dvu P Q 1).2.2.1 (dvn P Q 1) * (dvn P Q 1)) + ((dvu P Q 1).2.2.2 - zE (dvu P Q 1).2.2.2 (dvn P Q 1) * (dvn P Q 1)) * ((dvu P Q 1).2.2.2 - zE (dvu P Q 1).2.2.2 (dvn P Q 1) * (dvn P Q 1)) = i4S (dvu P Q 1) (i4E (dvu P Q 1) (dvn P Q 1)) (dvn P Q 1) from rfl]
    refine zi_lstore (lv' := [(6, _), (15, _), (13, _), (11, _), (10, _), (8, _), (2, _), (4, _), (0, _), (1, _)]) 164 dX11_divide_162 rfl rfl rfl ?_
    refine zi_lload 166 dX11_divide_164 rfl rfl ?_
    refine zi_lload 168 dX11_divide_166 rfl rfl ?_
    refine zi_lload 170 dX11_divide_168 rfl rfl ?_
    refine zi_lmul 171 dX11_divide_170 rfl ?_
    refine zi_ladd 172 dX11_divide_171 rfl ?_
    rw [iz_mul, iz_add]
    rw [show ((dvu P Q 1).1 - zH (dvu P Q 1).1 (dvn P Q 1) * (dvn P Q 1)) * ((dvu P Q 1).1 - zH (dvu P Q 1).1 (dvn P Q 1) * (dvn P Q 1)) + ((dvu P Q 1).2.1 - zH (dvu P Q 1).2.1 (dvn P Q 1) * (dvn P Q 1)) * ((dvu P Q 1).2.1 - zH (dvu P Q 1).2.1 (dvn P Q 1) * (dvn P Q 1)) + ((dvu P Q 1).2.2.1 - zH (dvu P Q 1).2.2.1 (dvn P Q 1) * (dvn P Q 1)) * ((dvu P Q 1).2.2.1 - zH (dvu P Q 1).2.2.1 (dvn P Q 1) * (dvn P Q 1)) + ((dvu P Q 1).2.2.2 - zH (dvu P Q 1).2.2.2 (dvn P Q 1) * (dvn P Q 1)) * ((dvu P Q 1).2.2.2 - zH (dvu P Q 1).2.2.2 (dvn P Q 1) * (dvn P Q 1)) = i4S (dvu P Q 1) (i4H (dvu P Q 1) (dvn P Q 1)) (dvn P Q 1) from rfl]
    refine zi_lstore (lv' := [(8, _), (6, _), (15, _), (13, _), (11, _), (10, _), (2, _), (4, _), (0, _), (1, _)]) 174 dX11_divide_172 rfl rfl rfl ?_
    refine zi_iinc (v := 4) (lv' := [(10, _), (8, _), (6, _), (15, _), (13, _), (11, _), (2, _), (4, _), (0, _), (1, _)]) 177 dX11_divide_174 rfl rfl rfl rfl rfl ?_
    refine zi_goto 87 dX11_divide_177 (by decide) ?_
    refine zi_iload 89 dX11_divide_87 rfl rfl ?_
    refine zi_iconst (v := 4) 90 dX11_divide_89 (by decide) rfl ?_
    refine zi_icmp_ge 93 180 dX11_divide_90 (by decide) rfl (fun c_90 => ?_) (fun c_90 => absurd c_90 (by decide))
    refine zi_iconst (v := 0) 181 dX11_divide_180 (by decide) rfl ?_
    refine zi_istore (lv' := [(10, _), (8, _), (6, _), (15, _), (13, _), (11, _), (2, _), (4, _), (0, _), (1, _)]) 183 dX11_divide_181 rfl rfl rfl ?_
    refine zi_iload 185 dX11_divide_183 rfl rfl ?_
    refine zi_iconst (v := 4) 186 dX11_divide_185 (by decide) rfl ?_
    refine zi_icmp_ge 189 263 dX11_divide_186 (by decide) rfl (fun c_186 => absurd c_186 (by decide)) (fun c_186 => ?_)
    refine zi_aload_n 190 dX11_divide_189 rfl rfl ?_
    refine zi_getfield 193 9 dX11_divide_190 zcl_X11 tw_872 rfl rfl N3.1.1 rfl rfl ?_
    refine zi_bipush (v := 16) 195 dX11_divide_193 (by decide) rfl ?_
    refine zi_iload 197 dX11_divide_195 rfl rfl ?_
    refine zi_iadd 198 dX11_divide_197 rfl ?_
    rw [show (16 : Int32) + 0 = 16 from rfl]
    refine zi_laload 199 dX11_divide_198 N3.1.2.2.2.2.2.2.2.2.1 (vp_in_nI (show 16 < 80 by decide) (by decide)) rfl ?_
    rw [show Int32.toNatClampNeg 16 = 16 from rfl]
    rw [show wR _ 16 = iz (dvU P Q 1).1 from congrArg (fun v : z4 => v.1) eU]
    refine zi_lload 201 dX11_divide_199 rfl rfl ?_
    refine zi_ldiv 202 dX11_divide_201 (fun e => by rw [lN_0e hG63] at e; omega) rfl ?_
    rw [iz_dx (by omega) hG63 gd0, show (dvU P Q 1).1 / ((dvG P Q 1) : Int) = (dvu P Q 1).1 from rfl]
    refine zi_lstore (lv' := [(11, _), (10, _), (8, _), (6, _), (15, _), (13, _), (2, _), (4, _), (0, _), (1, _)]) 204 dX11_divide_202 rfl rfl rfl ?_
    refine zi_aload_n 205 dX11_divide_204 rfl rfl ?_
    refine zi_getfield 208 9 dX11_divide_205 zcl_X11 tw_872 rfl rfl N3.1.1 rfl rfl ?_
    refine zi_bipush (v := 8) 210 dX11_divide_208 (by decide) rfl ?_
    refine zi_iload 212 dX11_divide_210 rfl rfl ?_
    refine zi_iadd 213 dX11_divide_212 rfl ?_
    rw [show (8 : Int32) + 0 = 8 from rfl]
    refine zi_lload 215 dX11_divide_213 rfl rfl ?_
    refine zi_lload 217 dX11_divide_215 rfl rfl ?_
    refine zj_gt 221 240 dX11_divide_217 rfl dX11_divide_218 (by decide) rfl (fun zzC => absurd ((iz_lt bH bE).mp zzC) hS) (fun zzC => ?_)
    refine zi_ldc2 224 dX11_divide_221 tw_909 rfl ?_
    refine zi_lload 226 dX11_divide_224 rfl rfl ?_
    refine zi_lload_n 227 dX11_divide_226 rfl rfl ?_
    refine zi_ladd 228 dX11_divide_227 rfl ?_
    refine zi_ldc2 231 dX11_divide_228 tw_909 rfl ?_
    refine zi_lload_n 232 dX11_divide_231 rfl rfl ?_
    refine zi_lmul 233 dX11_divide_232 rfl ?_
    rw [iz_2, iz_mul, iz_add]
    refine zc_static (n' := (0, 0)) (md' := mX11_down) 236 dX11_divide_233 tw_1068 zs_X11_down (s_X11_down B h2 _ _ (by omega) (by omega) (by omega) (by omega)) rfl rfl rfl rfl rfl rfl rfl rfl (zk_f ?_)
    refine zi_lmul 237 dX11_divide_236 rfl ?_
    refine zi_goto 256 dX11_divide_237 (by decide) ?_
    rw [iz_mul, show 2 * (((dvu P Q 1).1 + (dvn P Q 1)) / (2 * (dvn P Q 1))) = zE (dvu P Q 1).1 (dvn P Q 1) from rfl]
    refine zi_lastore 257 dX11_divide_256 N3.1.2.2.2.2.2.2.2.2.1 (vp_in_nI (show 8 < 80 by decide) (by decide)) rfl ?_
    rw [show Int32.toNatClampNeg 8 = 8 from rfl]
    refine zk_h (fun h4 k4 => ?_)
    have N4 := rN_R hD N3 k4
    refine zi_iinc (v := 1) (lv' := [(10, _), (11, _), (8, _), (6, _), (15, _), (13, _), (2, _), (4, _), (0, _), (1, _)]) 260 dX11_divide_257 rfl rfl rfl rfl rfl ?_
    refine zi_goto 183 dX11_divide_260 (by decide) ?_
    refine zi_iload 185 dX11_divide_183 rfl rfl ?_
    refine zi_iconst (v := 4) 186 dX11_divide_185 (by decide) rfl ?_
    refine zi_icmp_ge 189 263 dX11_divide_186 (by decide) rfl (fun c_186 => absurd c_186 (by decide)) (fun c_186 => ?_)
    refine zi_aload_n 190 dX11_divide_189 rfl rfl ?_
    refine zi_getfield 193 9 dX11_divide_190 zcl_X11 tw_872 rfl rfl N4.1.1 rfl rfl ?_
    refine zi_bipush (v := 16) 195 dX11_divide_193 (by decide) rfl ?_
    refine zi_iload 197 dX11_divide_195 rfl rfl ?_
    refine zi_iadd 198 dX11_divide_197 rfl ?_
    rw [show (16 : Int32) + 1 = 17 from rfl]
    refine zi_laload 199 dX11_divide_198 N4.1.2.2.2.2.2.2.2.2.1 (vp_in_nI (show 17 < 80 by decide) (by decide)) rfl ?_
    rw [show Int32.toNatClampNeg 17 = 17 from rfl]
    rw [show wR _ 17 = iz (dvU P Q 1).2.1 from congrArg (fun v : z4 => v.2.1) eU]
    refine zi_lload 201 dX11_divide_199 rfl rfl ?_
    refine zi_ldiv 202 dX11_divide_201 (fun e => by rw [lN_0e hG63] at e; omega) rfl ?_
    rw [iz_dx (by omega) hG63 gd1, show (dvU P Q 1).2.1 / ((dvG P Q 1) : Int) = (dvu P Q 1).2.1 from rfl]
    refine zi_lstore (lv' := [(11, _), (10, _), (8, _), (6, _), (15, _), (13, _), (2, _), (4, _), (0, _), (1, _)]) 204 dX11_divide_202 rfl rfl rfl ?_
    refine zi_aload_n 205 dX11_divide_204 rfl rfl ?_
    refine zi_getfield 208 9 dX11_divide_205 zcl_X11 tw_872 rfl rfl N4.1.1 rfl rfl ?_
    refine zi_bipush (v := 8) 210 dX11_divide_208 (by decide) rfl ?_
    refine zi_iload 212 dX11_divide_210 rfl rfl ?_
    refine zi_iadd 213 dX11_divide_212 rfl ?_
    rw [show (8 : Int32) + 1 = 9 from rfl]
    refine zi_lload 215 dX11_divide_213 rfl rfl ?_
    refine zi_lload 217 dX11_divide_215 rfl rfl ?_
    refine zj_gt 221 240 dX11_divide_217 rfl dX11_divide_218 (by decide) rfl (fun zzC => absurd ((iz_lt bH bE).mp zzC) hS) (fun zzC => ?_)
    refine zi_ldc2 224 dX11_divide_221 tw_909 rfl ?_
    refine zi_lload 226 dX11_divide_224 rfl rfl ?_
    refine zi_lload_n 227 dX11_divide_226 rfl rfl ?_
    refine zi_ladd 228 dX11_divide_227 rfl ?_
    refine zi_ldc2 231 dX11_divide_228 tw_909 rfl ?_
    refine zi_lload_n 232 dX11_divide_231 rfl rfl ?_
    refine zi_lmul 233 dX11_divide_232 rfl ?_
    rw [iz_2, iz_mul, iz_add]
    refine zc_static (n' := (0, 0)) (md' := mX11_down) 236 dX11_divide_233 tw_1068 zs_X11_down (s_X11_down B h4 _ _ (by omega) (by omega) (by omega) (by omega)) rfl rfl rfl rfl rfl rfl rfl rfl (zk_f ?_)
    refine zi_lmul 237 dX11_divide_236 rfl ?_
    refine zi_goto 256 dX11_divide_237 (by decide) ?_
    rw [iz_mul, show 2 * (((dvu P Q 1).2.1 + (dvn P Q 1)) / (2 * (dvn P Q 1))) = zE (dvu P Q 1).2.1 (dvn P Q 1) from rfl]
    refine zi_lastore 257 dX11_divide_256 N4.1.2.2.2.2.2.2.2.2.1 (vp_in_nI (show 9 < 80 by decide) (by decide)) rfl ?_
    rw [show Int32.toNatClampNeg 9 = 9 from rfl]
    refine zk_h (fun h5 k5 => ?_)
    have N5 := rN_R hD N4 k5
    refine zi_iinc (v := 2) (lv' := [(10, _), (11, _), (8, _), (6, _), (15, _), (13, _), (2, _), (4, _), (0, _), (1, _)]) 260 dX11_divide_257 rfl rfl rfl rfl rfl ?_
    refine zi_goto 183 dX11_divide_260 (by decide) ?_
    refine zi_iload 185 dX11_divide_183 rfl rfl ?_
    refine zi_iconst (v := 4) 186 dX11_divide_185 (by decide) rfl ?_
    refine zi_icmp_ge 189 263 dX11_divide_186 (by decide) rfl (fun c_186 => absurd c_186 (by decide)) (fun c_186 => ?_)
    refine zi_aload_n 190 dX11_divide_189 rfl rfl ?_
    refine zi_getfield 193 9 dX11_divide_190 zcl_X11 tw_872 rfl rfl N5.1.1 rfl rfl ?_
    refine zi_bipush (v := 16) 195 dX11_divide_193 (by decide) rfl ?_
    refine zi_iload 197 dX11_divide_195 rfl rfl ?_
    refine zi_iadd 198 dX11_divide_197 rfl ?_
    rw [show (16 : Int32) + 2 = 18 from rfl]
    refine zi_laload 199 dX11_divide_198 N5.1.2.2.2.2.2.2.2.2.1 (vp_in_nI (show 18 < 80 by decide) (by decide)) rfl ?_
    rw [show Int32.toNatClampNeg 18 = 18 from rfl]
    rw [show wR _ 18 = iz (dvU P Q 1).2.2.1 from congrArg (fun v : z4 => v.2.2.1) eU]
    refine zi_lload 201 dX11_divide_199 rfl rfl ?_
    refine zi_ldiv 202 dX11_divide_201 (fun e => by rw [lN_0e hG63] at e; omega) rfl ?_
    rw [iz_dx (by omega) hG63 gd2, show (dvU P Q 1).2.2.1 / ((dvG P Q 1) : Int) = (dvu P Q 1).2.2.1 from rfl]
    refine zi_lstore (lv' := [(11, _), (10, _), (8, _), (6, _), (15, _), (13, _), (2, _), (4, _), (0, _), (1, _)]) 204 dX11_divide_202 rfl rfl rfl ?_
    refine zi_aload_n 205 dX11_divide_204 rfl rfl ?_
    refine zi_getfield 208 9 dX11_divide_205 zcl_X11 tw_872 rfl rfl N5.1.1 rfl rfl ?_
    refine zi_bipush (v := 8) 210 dX11_divide_208 (by decide) rfl ?_
    refine zi_iload 212 dX11_divide_210 rfl rfl ?_
    refine zi_iadd 213 dX11_divide_212 rfl ?_
    rw [show (8 : Int32) + 2 = 10 from rfl]
    refine zi_lload 215 dX11_divide_213 rfl rfl ?_
    refine zi_lload 217 dX11_divide_215 rfl rfl ?_
    refine zj_gt 221 240 dX11_divide_217 rfl dX11_divide_218 (by decide) rfl (fun zzC => absurd ((iz_lt bH bE).mp zzC) hS) (fun zzC => ?_)
    refine zi_ldc2 224 dX11_divide_221 tw_909 rfl ?_
    refine zi_lload 226 dX11_divide_224 rfl rfl ?_
    refine zi_lload_n 227 dX11_divide_226 rfl rfl ?_
    refine zi_ladd 228 dX11_divide_227 rfl ?_
    refine zi_ldc2 231 dX11_divide_228 tw_909 rfl ?_
    refine zi_lload_n 232 dX11_divide_231 rfl rfl ?_
    refine zi_lmul 233 dX11_divide_232 rfl ?_
    rw [iz_2, iz_mul, iz_add]
    refine zc_static (n' := (0, 0)) (md' := mX11_down) 236 dX11_divide_233 tw_1068 zs_X11_down (s_X11_down B h5 _ _ (by omega) (by omega) (by omega) (by omega)) rfl rfl rfl rfl rfl rfl rfl rfl (zk_f ?_)
    refine zi_lmul 237 dX11_divide_236 rfl ?_
    refine zi_goto 256 dX11_divide_237 (by decide) ?_
    rw [iz_mul, show 2 * (((dvu P Q 1).2.2.1 + (dvn P Q 1)) / (2 * (dvn P Q 1))) = zE (dvu P Q 1).2.2.1 (dvn P Q 1) from rfl]
    refine zi_lastore 257 dX11_divide_256 N5.1.2.2.2.2.2.2.2.2.1 (vp_in_nI (show 10 < 80 by decide) (by decide)) rfl ?_
    rw [show Int32.toNatClampNeg 10 = 10 from rfl]
    refine zk_h (fun h6 k6 => ?_)
    have N6 := rN_R hD N5 k6
    refine zi_iinc (v := 3) (lv' := [(10, _), (11, _), (8, _), (6, _), (15, _), (13, _), (2, _), (4, _), (0, _), (1, _)]) 260 dX11_divide_257 rfl rfl rfl rfl rfl ?_
    refine zi_goto 183 dX11_divide_260 (by decide) ?_
    refine zi_iload 185 dX11_divide_183 rfl rfl ?_
    refine zi_iconst (v := 4) 186 dX11_divide_185 (by decide) rfl ?_
    refine zi_icmp_ge 189 263 dX11_divide_186 (by decide) rfl (fun c_186 => absurd c_186 (by decide)) (fun c_186 => ?_)
    refine zi_aload_n 190 dX11_divide_189 rfl rfl ?_
    refine zi_getfield 193 9 dX11_divide_190 zcl_X11 tw_872 rfl rfl N6.1.1 rfl rfl ?_
    refine zi_bipush (v := 16) 195 dX11_divide_193 (by decide) rfl ?_
    refine zi_iload 197 dX11_divide_195 rfl rfl ?_
    refine zi_iadd 198 dX11_divide_197 rfl ?_
    rw [show (16 : Int32) + 3 = 19 from rfl]
    refine zi_laload 199 dX11_divide_198 N6.1.2.2.2.2.2.2.2.2.1 (vp_in_nI (show 19 < 80 by decide) (by decide)) rfl ?_
    rw [show Int32.toNatClampNeg 19 = 19 from rfl]
    rw [show wR _ 19 = iz (dvU P Q 1).2.2.2 from congrArg (fun v : z4 => v.2.2.2) eU]
    refine zi_lload 201 dX11_divide_199 rfl rfl ?_
    refine zi_ldiv 202 dX11_divide_201 (fun e => by rw [lN_0e hG63] at e; omega) rfl ?_
    rw [iz_dx (by omega) hG63 gd3, show (dvU P Q 1).2.2.2 / ((dvG P Q 1) : Int) = (dvu P Q 1).2.2.2 from rfl]
    refine zi_lstore (lv' := [(11, _), (10, _), (8, _), (6, _), (15, _), (13, _), (2, _), (4, _), (0, _), (1, _)]) 204 dX11_divide_202 rfl rfl rfl ?_
    refine zi_aload_n 205 dX11_divide_204 rfl rfl ?_
    refine zi_getfield 208 9 dX11_divide_205 zcl_X11 tw_872 rfl rfl N6.1.1 rfl rfl ?_
    refine zi_bipush (v := 8) 210 dX11_divide_208 (by decide) rfl ?_
    refine zi_iload 212 dX11_divide_210 rfl rfl ?_
    refine zi_iadd 213 dX11_divide_212 rfl ?_
    rw [show (8 : Int32) + 3 = 11 from rfl]
    refine zi_lload 215 dX11_divide_213 rfl rfl ?_
    refine zi_lload 217 dX11_divide_215 rfl rfl ?_
    refine zj_gt 221 240 dX11_divide_217 rfl dX11_divide_218 (by decide) rfl (fun zzC => absurd ((iz_lt bH bE).mp zzC) hS) (fun zzC => ?_)
    refine zi_ldc2 224 dX11_divide_221 tw_909 rfl ?_
    refine zi_lload 226 dX11_divide_224 rfl rfl ?_
    refine zi_lload_n 227 dX11_divide_226 rfl rfl ?_
    refine zi_ladd 228 dX11_divide_227 rfl ?_
    refine zi_ldc2 231 dX11_divide_228 tw_909 rfl ?_
    refine zi_lload_n 232 dX11_divide_231 rfl rfl ?_
    refine zi_lmul 233 dX11_divide_232 rfl ?_
    rw [iz_2, iz_mul, iz_add]
    refine zc_static (n' := (0, 0)) (md' := mX11_down) 236 dX11_divide_233 tw_1068 zs_X11_down (s_X11_down B h6 _ _ (by omega) (by omega) (by omega) (by omega)) rfl rfl rfl rfl rfl rfl rfl rfl (zk_f ?_)
    refine zi_lmul 237 dX11_divide_236 rfl ?_
    refine zi_goto 256 dX11_divide_237 (by decide) ?_
    rw [iz_mul, show 2 * (((dvu P Q 1).2.2.2 + (dvn P Q 1)) / (2 * (dvn P Q 1))) = zE (dvu P Q 1).2.2.2 (dvn P Q 1) from rfl]
    refine zi_lastore 257 dX11_divide_256 N6.1.2.2.2.2.2.2.2.2.1 (vp_in_nI (show 11 < 80 by decide) (by decide)) rfl ?_
    rw [show Int32.toNatClampNeg 11 = 11 from rfl]
    refine zk_h (fun h7 k7 => ?_)
    have N7 := rN_R hD N6 k7
    refine zi_iinc (v := 4) (lv' := [(10, _), (11, _), (8, _), (6, _), (15, _), (13, _), (2, _), (4, _), (0, _), (1, _)]) 260 dX11_divide_257 rfl rfl rfl rfl rfl ?_
    refine zi_goto 183 dX11_divide_260 (by decide) ?_
    refine zi_iload 185 dX11_divide_183 rfl rfl ?_
    refine zi_iconst (v := 4) 186 dX11_divide_185 (by decide) rfl ?_
    refine zi_icmp_ge 189 263 dX11_divide_186 (by decide) rfl (fun c_186 => ?_) (fun c_186 => absurd c_186 (by decide))
    obtain ⟨R3, N8, fT, fP, fQ, fO⟩ : ∃ R3, rN B D (uR m R3) h h7 ∧ ro R3 8 = z4i (dvT P Q 1) ∧ ro R3 0 = z4i P ∧ ro R3 4 = z4i Q ∧ ∀ i, (i < 8 ∨ 20 ≤ i) → R3 i = wR m i := ⟨_, N7, by rw [dv_TE hS]; rfl, eP, eQ, fun i hi => (u4 (a := 8) (by omega)).trans (eO i (by omega))⟩
    refine zi_iload_n 264 dX11_divide_263 rfl rfl ?_
    refine zi_if_ne 267 279 dX11_divide_264 (by decide) rfl (fun c_264 => ?_) (fun c_264 => absurd c_264 (by decide))
    refine zi_aload_n 280 dX11_divide_279 rfl rfl ?_
    refine zi_bipush (v := 16) 282 dX11_divide_280 (by decide) rfl ?_
    refine zi_bipush (v := 8) 284 dX11_divide_282 (by decide) rfl ?_
    refine zi_iconst (v := 4) 285 dX11_divide_284 (by decide) rfl ?_
    refine zc_virtual (n' := (0, 0)) (md' := mX11_multiply) 288 dX11_divide_285 tw_1039 zv_X11_multiply zcl_X11 (s_X11_multiply B h7 D hD _ N8.1 16 8 4 (by omega) (by omega) (by omega)) N8.1.1 rfl rfl rfl rfl rfl rfl rfl rfl (zk_v fun h9 n9 => ?_)
    have N9 := rN_t N8 n9
    obtain ⟨R4, N10, gK, gT, gP, gO⟩ : ∃ R4, rN B D (uR m R4) h h9 ∧ ro R4 16 = z4i (dvK P Q 1) ∧ ro R4 8 = z4i (dvT P Q 1) ∧ ro R4 0 = z4i P ∧ ∀ i, (i < 8 ∨ 20 ≤ i) → R4 i = wR m i := ⟨_, N9, by show zMul (ro R3 8) (ro R3 4) = _; rw [fT, fQ]; exact (dv_K (s := 1) ok).1, fT, fP, fun i hi => (p4_o (a := 16) _ (by omega)).trans (fO i hi)⟩
    refine zi_iconst (v := 0) 289 dX11_divide_288 (by decide) rfl ?_
    refine zi_istore (lv' := [(10, _), (11, _), (8, _), (6, _), (15, _), (13, _), (2, _), (4, _), (0, _), (1, _)]) 291 dX11_divide_289 rfl rfl rfl ?_
    refine zi_iload 293 dX11_divide_291 rfl rfl ?_
    refine zi_iconst (v := 4) 294 dX11_divide_293 (by decide) rfl ?_
    refine zi_icmp_ge 297 333 dX11_divide_294 (by decide) rfl (fun c_294 => absurd c_294 (by decide)) (fun c_294 => ?_)
    refine zi_aload_n 298 dX11_divide_297 rfl rfl ?_
    refine zi_getfield 301 9 dX11_divide_298 zcl_X11 tw_872 rfl rfl N10.1.1 rfl rfl ?_
    refine zi_bipush (v := 12) 303 dX11_divide_301 (by decide) rfl ?_
    refine zi_iload 305 dX11_divide_303 rfl rfl ?_
    refine zi_iadd 306 dX11_divide_305 rfl ?_
    rw [show (12 : Int32) + 0 = 12 from rfl]
    refine zi_aload_n 307 dX11_divide_306 rfl rfl ?_
    refine zi_getfield 310 9 dX11_divide_307 zcl_X11 tw_872 rfl rfl N10.1.1 rfl rfl ?_
    refine zi_iconst (v := 0) 311 dX11_divide_310 (by decide) rfl ?_
    refine zi_iload 313 dX11_divide_311 rfl rfl ?_
    refine zi_iadd 314 dX11_divide_313 rfl ?_
    rw [show (0 : Int32) + 0 = 0 from rfl]
    refine zi_laload 315 dX11_divide_314 N10.1.2.2.2.2.2.2.2.2.1 (vp_in_nI (show 0 < 80 by decide) (by decide)) rfl ?_
    rw [show Int32.toNatClampNeg 0 = 0 from rfl]
    rw [show wR _ 0 = iz P.1 from congrArg (fun v : z4 => v.1) gP]
    refine zi_aload_n 316 dX11_divide_315 rfl rfl ?_
    refine zi_getfield 319 9 dX11_divide_316 zcl_X11 tw_872 rfl rfl N10.1.1 rfl rfl ?_
    refine zi_bipush (v := 16) 321 dX11_divide_319 (by decide) rfl ?_
    refine zi_iload 323 dX11_divide_321 rfl rfl ?_
    refine zi_iadd 324 dX11_divide_323 rfl ?_
    rw [show (16 : Int32) + 0 = 16 from rfl]
    refine zi_laload 325 dX11_divide_324 N10.1.2.2.2.2.2.2.2.2.1 (vp_in_nI (show 16 < 80 by decide) (by decide)) rfl ?_
    rw [show Int32.toNatClampNeg 16 = 16 from rfl]
    rw [show wR _ 16 = iz (dvK P Q 1).1 from congrArg (fun v : z4 => v.1) gK]
    refine zi_lsub 326 dX11_divide_325 rfl ?_
    rw [iz_sub]
    refine zi_lastore 327 dX11_divide_326 N10.1.2.2.2.2.2.2.2.2.1 (vp_in_nI (show 12 < 80 by decide) (by decide)) rfl ?_
    rw [show Int32.toNatClampNeg 12 = 12 from rfl]
    refine zk_h (fun h11 k11 => ?_)
    have N11 := rN_R hD N10 k11
    refine zi_iinc (v := 1) (lv' := [(10, _), (11, _), (8, _), (6, _), (15, _), (13, _), (2, _), (4, _), (0, _), (1, _)]) 330 dX11_divide_327 rfl rfl rfl rfl rfl ?_
    refine zi_goto 291 dX11_divide_330 (by decide) ?_
    refine zi_iload 293 dX11_divide_291 rfl rfl ?_
    refine zi_iconst (v := 4) 294 dX11_divide_293 (by decide) rfl ?_
    refine zi_icmp_ge 297 333 dX11_divide_294 (by decide) rfl (fun c_294 => absurd c_294 (by decide)) (fun c_294 => ?_)
    refine zi_aload_n 298 dX11_divide_297 rfl rfl ?_
    refine zi_getfield 301 9 dX11_divide_298 zcl_X11 tw_872 rfl rfl N11.1.1 rfl rfl ?_
    refine zi_bipush (v := 12) 303 dX11_divide_301 (by decide) rfl ?_
    refine zi_iload 305 dX11_divide_303 rfl rfl ?_
    refine zi_iadd 306 dX11_divide_305 rfl ?_
    rw [show (12 : Int32) + 1 = 13 from rfl]
    refine zi_aload_n 307 dX11_divide_306 rfl rfl ?_
    refine zi_getfield 310 9 dX11_divide_307 zcl_X11 tw_872 rfl rfl N11.1.1 rfl rfl ?_
    refine zi_iconst (v := 0) 311 dX11_divide_310 (by decide) rfl ?_
    refine zi_iload 313 dX11_divide_311 rfl rfl ?_
    refine zi_iadd 314 dX11_divide_313 rfl ?_
    rw [show (0 : Int32) + 1 = 1 from rfl]
    refine zi_laload 315 dX11_divide_314 N11.1.2.2.2.2.2.2.2.2.1 (vp_in_nI (show 1 < 80 by decide) (by decide)) rfl ?_
    rw [show Int32.toNatClampNeg 1 = 1 from rfl]
    rw [show wR _ 1 = iz P.2.1 from congrArg (fun v : z4 => v.2.1) gP]
    refine zi_aload_n 316 dX11_divide_315 rfl rfl ?_
    refine zi_getfield 319 9 dX11_divide_316 zcl_X11 tw_872 rfl rfl N11.1.1 rfl rfl ?_
    refine zi_bipush (v := 16) 321 dX11_divide_319 (by decide) rfl ?_
    refine zi_iload 323 dX11_divide_321 rfl rfl ?_
    refine zi_iadd 324 dX11_divide_323 rfl ?_
    rw [show (16 : Int32) + 1 = 17 from rfl]
    refine zi_laload 325 dX11_divide_324 N11.1.2.2.2.2.2.2.2.2.1 (vp_in_nI (show 17 < 80 by decide) (by decide)) rfl ?_
    rw [show Int32.toNatClampNeg 17 = 17 from rfl]
    rw [show wR _ 17 = iz (dvK P Q 1).2.1 from congrArg (fun v : z4 => v.2.1) gK]
    refine zi_lsub 326 dX11_divide_325 rfl ?_
    rw [iz_sub]
    refine zi_lastore 327 dX11_divide_326 N11.1.2.2.2.2.2.2.2.2.1 (vp_in_nI (show 13 < 80 by decide) (by decide)) rfl ?_
    rw [show Int32.toNatClampNeg 13 = 13 from rfl]
    refine zk_h (fun h12 k12 => ?_)
    have N12 := rN_R hD N11 k12
    refine zi_iinc (v := 2) (lv' := [(10, _), (11, _), (8, _), (6, _), (15, _), (13, _), (2, _), (4, _), (0, _), (1, _)]) 330 dX11_divide_327 rfl rfl rfl rfl rfl ?_
    refine zi_goto 291 dX11_divide_330 (by decide) ?_
    refine zi_iload 293 dX11_divide_291 rfl rfl ?_
    refine zi_iconst (v := 4) 294 dX11_divide_293 (by decide) rfl ?_
    refine zi_icmp_ge 297 333 dX11_divide_294 (by decide) rfl (fun c_294 => absurd c_294 (by decide)) (fun c_294 => ?_)
    refine zi_aload_n 298 dX11_divide_297 rfl rfl ?_
    refine zi_getfield 301 9 dX11_divide_298 zcl_X11 tw_872 rfl rfl N12.1.1 rfl rfl ?_
    refine zi_bipush (v := 12) 303 dX11_divide_301 (by decide) rfl ?_
    refine zi_iload 305 dX11_divide_303 rfl rfl ?_
    refine zi_iadd 306 dX11_divide_305 rfl ?_
    rw [show (12 : Int32) + 2 = 14 from rfl]
    refine zi_aload_n 307 dX11_divide_306 rfl rfl ?_
    refine zi_getfield 310 9 dX11_divide_307 zcl_X11 tw_872 rfl rfl N12.1.1 rfl rfl ?_
    refine zi_iconst (v := 0) 311 dX11_divide_310 (by decide) rfl ?_
    refine zi_iload 313 dX11_divide_311 rfl rfl ?_
    refine zi_iadd 314 dX11_divide_313 rfl ?_
    rw [show (0 : Int32) + 2 = 2 from rfl]
    refine zi_laload 315 dX11_divide_314 N12.1.2.2.2.2.2.2.2.2.1 (vp_in_nI (show 2 < 80 by decide) (by decide)) rfl ?_
    rw [show Int32.toNatClampNeg 2 = 2 from rfl]
    rw [show wR _ 2 = iz P.2.2.1 from congrArg (fun v : z4 => v.2.2.1) gP]
    refine zi_aload_n 316 dX11_divide_315 rfl rfl ?_
    refine zi_getfield 319 9 dX11_divide_316 zcl_X11 tw_872 rfl rfl N12.1.1 rfl rfl ?_
    refine zi_bipush (v := 16) 321 dX11_divide_319 (by decide) rfl ?_
    refine zi_iload 323 dX11_divide_321 rfl rfl ?_
    refine zi_iadd 324 dX11_divide_323 rfl ?_
    rw [show (16 : Int32) + 2 = 18 from rfl]
    refine zi_laload 325 dX11_divide_324 N12.1.2.2.2.2.2.2.2.2.1 (vp_in_nI (show 18 < 80 by decide) (by decide)) rfl ?_
    rw [show Int32.toNatClampNeg 18 = 18 from rfl]
    rw [show wR _ 18 = iz (dvK P Q 1).2.2.1 from congrArg (fun v : z4 => v.2.2.1) gK]
    refine zi_lsub 326 dX11_divide_325 rfl ?_
    rw [iz_sub]
    refine zi_lastore 327 dX11_divide_326 N12.1.2.2.2.2.2.2.2.2.1 (vp_in_nI (show 14 < 80 by decide) (by decide)) rfl ?_
    rw [show Int32.toNatClampNeg 14 = 14 from rfl]
    refine zk_h (fun h13 k13 => ?_)
    have N13 := rN_R hD N12 k13
    refine zi_iinc (v := 3) (lv' := [(10, _), (11, _), (8, _), (6, _), (15, _), (13, _), (2, _), (4, _), (0, _), (1, _)]) 330 dX11_divide_327 rfl rfl rfl rfl rfl ?_
    refine zi_goto 291 dX11_divide_330 (by decide) ?_
    refine zi_iload 293 dX11_divide_291 rfl rfl ?_
    refine zi_iconst (v := 4) 294 dX11_divide_293 (by decide) rfl ?_
    refine zi_icmp_ge 297 333 dX11_divide_294 (by decide) rfl (fun c_294 => absurd c_294 (by decide)) (fun c_294 => ?_)
    refine zi_aload_n 298 dX11_divide_297 rfl rfl ?_
    refine zi_getfield 301 9 dX11_divide_298 zcl_X11 tw_872 rfl rfl N13.1.1 rfl rfl ?_
    refine zi_bipush (v := 12) 303 dX11_divide_301 (by decide) rfl ?_
    refine zi_iload 305 dX11_divide_303 rfl rfl ?_
    refine zi_iadd 306 dX11_divide_305 rfl ?_
    rw [show (12 : Int32) + 3 = 15 from rfl]
    refine zi_aload_n 307 dX11_divide_306 rfl rfl ?_
    refine zi_getfield 310 9 dX11_divide_307 zcl_X11 tw_872 rfl rfl N13.1.1 rfl rfl ?_
    refine zi_iconst (v := 0) 311 dX11_divide_310 (by decide) rfl ?_
    refine zi_iload 313 dX11_divide_311 rfl rfl ?_
    refine zi_iadd 314 dX11_divide_313 rfl ?_
    rw [show (0 : Int32) + 3 = 3 from rfl]
    refine zi_laload 315 dX11_divide_314 N13.1.2.2.2.2.2.2.2.2.1 (vp_in_nI (show 3 < 80 by decide) (by decide)) rfl ?_
    rw [show Int32.toNatClampNeg 3 = 3 from rfl]
    rw [show wR _ 3 = iz P.2.2.2 from congrArg (fun v : z4 => v.2.2.2) gP]
    refine zi_aload_n 316 dX11_divide_315 rfl rfl ?_
    refine zi_getfield 319 9 dX11_divide_316 zcl_X11 tw_872 rfl rfl N13.1.1 rfl rfl ?_
    refine zi_bipush (v := 16) 321 dX11_divide_319 (by decide) rfl ?_
    refine zi_iload 323 dX11_divide_321 rfl rfl ?_
    refine zi_iadd 324 dX11_divide_323 rfl ?_
    rw [show (16 : Int32) + 3 = 19 from rfl]
    refine zi_laload 325 dX11_divide_324 N13.1.2.2.2.2.2.2.2.2.1 (vp_in_nI (show 19 < 80 by decide) (by decide)) rfl ?_
    rw [show Int32.toNatClampNeg 19 = 19 from rfl]
    rw [show wR _ 19 = iz (dvK P Q 1).2.2.2 from congrArg (fun v : z4 => v.2.2.2) gK]
    refine zi_lsub 326 dX11_divide_325 rfl ?_
    rw [iz_sub]
    refine zi_lastore 327 dX11_divide_326 N13.1.2.2.2.2.2.2.2.2.1 (vp_in_nI (show 15 < 80 by decide) (by decide)) rfl ?_
    rw [show Int32.toNatClampNeg 15 = 15 from rfl]
    refine zk_h (fun h14 k14 => ?_)
    have N14 := rN_R hD N13 k14
    refine zi_iinc (v := 4) (lv' := [(10, _), (11, _), (8, _), (6, _), (15, _), (13, _), (2, _), (4, _), (0, _), (1, _)]) 330 dX11_divide_327 rfl rfl rfl rfl rfl ?_
    refine zi_goto 291 dX11_divide_330 (by decide) ?_
    refine zi_iload 293 dX11_divide_291 rfl rfl ?_
    refine zi_iconst (v := 4) 294 dX11_divide_293 (by decide) rfl ?_
    refine zi_icmp_ge 297 333 dX11_divide_294 (by decide) rfl (fun c_294 => ?_) (fun c_294 => absurd c_294 (by decide))
    exact zr_void hZ dX11_divide_333 rfl ⟨rfl, _, N14, gT, rfl, fun i hi => (u4 (a := 12) (by omega)).trans (gO i (by omega))⟩
