/-! the reference: kinds, asks -/
theorem par_e {x : Int} (hx : x.natAbs < 4611686018427387904) : iz x - iz x / 2 * 2 = 0 ↔ x % 2 = 0 := by
  have h1 := Int.tmod_lt_of_pos x (show (0 : Int) < 2 by decide)
  have h2 := Int.lt_tmod_of_pos x (show (0 : Int) < 2 by decide)
  have h3 := Int.tmod_def x 2
  rw [iz_2, iz_rem (by omega) (by omega) (by omega), iz_0, iz_inj (by omega) (by omega)]
  generalize x.tdiv 2 = t at h3
  omega
theorem wh_Y {P : i4} (h0 : ¬ (i4d P (g4 P)).1 % 2 = 0) (h1 : ¬ (i4d P (g4 P)).2.1 % 2 = 0) (h2 : ¬ (i4d P (g4 P)).2.2.1 % 2 = 0) (h3 : ¬ (i4d P (g4 P)).2.2.2 % 2 = 0) : some (Value.long (lN (g4 P))) = some (.long (lN (wh P))) := by rw [wh, if_pos ⟨h0, h1, h2, h3⟩]
theorem wh_N {P : i4} (h : ¬ i4O (i4d P (g4 P))) : some (Value.long (lN (g4 P / 2))) = some (.long (lN (wh P))) := by rw [wh, if_neg h]
theorem i4_0 {P : i4} (h : i4q P = 0) : P.1 = 0 := by rw [i4q_0.mp h]
theorem kd_A {P : i4} (h : i4q P = 0) : kindI P = if P.1 % 2 = 0 then 0 else 1 := by
  rw [kindI, if_pos h, if_pos (by rw [i4_0 h]; rfl)]
theorem kd_B {P : i4} (hV : i4V P) (h0 : ¬ i4q P = 0) (hw : ¬ wh P = 1) : kindI P = if P.1 % 2 = 0 then 0 else 1 := by
  rw [kind_n hV, if_neg h0]
  have n1 : ¬ nN P = 1 := fun q => hw (kind_wh hV.1 (zqpos h0) (Or.inl (by have := nN_i P; omega)))
  have n2 : ¬ zLp (nN P) = nN P := fun q => hw (kind_wh hV.1 (zqpos h0) (Or.inr ⟨fun e => n1 (by have := nN_i P; omega), q⟩))
  rw [if_neg n1, if_neg n2, if_neg hw]
  by_cases c : P.1 % 2 = 0
  · rw [if_pos c, if_neg (fun q => q c)]
  · rw [if_neg c, if_pos c]
/-- a trace that is continued -/
def trA (m : mS) (n : Nat) : List Int32 → mS
  | [] => m
  | v :: L => trA (uC (uT m (upd (wT m) n v)) (nI (n + 1))) (n + 1) L
theorem mk_tm (S : Int) : (S.tmod 97 + 97).tmod 97 = S % 97 := by
  have h1 := Int.tmod_lt_of_pos S (show (0 : Int) < 97 by decide)
  have h2 := Int.lt_tmod_of_pos S (show (0 : Int) < 97 by decide)
  have h3 := Int.tmod_def S 97
  have k1 := Int.tmod_lt_of_pos (S.tmod 97 + 97) (show (0 : Int) < 97 by decide)
  have k2 : 0 ≤ (S.tmod 97 + 97).tmod 97 := Int.tmod_nonneg _ (by omega)
  have k3 := Int.tmod_def (S.tmod 97 + 97) 97
  generalize (S.tmod 97 + 97).tmod 97 = V at k1 k2 k3 ⊢
  generalize (S.tmod 97 + 97).tdiv 97 = u at k3
  generalize S.tdiv 97 = t at h3
  omega
abbrev uHo (m : mS) (i b : Nat) : mS := uS (uH m (upd (wH m) i 1)) (p4 (wS m) (4 * i) (ro (wR m) b))

set_option maxHeartbeats 4000000 in
set_option maxRecDepth 100000 in
theorem s_X11_greatestWhole (B : zBB) (h : zHp) (D : Nat → Nat) (hD : zInj D) (m : mS) (M : rM B D m h) (a : Nat) (ha : a ≤ 76) (P : i4) (hV : i4V P) (h0 : ¬ i4q P = 0) (hP : ro (wR m) a = z4i P) : zSpec mX11_greatestWhole B (1, 0, 0) [.ref (D 0), .int (nI a)] h (zPf (some (.long (lN (wh P)))) h) := by
  refine zSpec.of (by decide) (Nat.le_of_ble_eq_true rfl) (fun X hZ => ?_)
  show zG X mX11_greatestWhole B (1, 0, 0) (0, 0) 0 [(0, .ref (D 0)), (1, .int (nI a))] [] h
  have N0 := rN_r M
  have e0 : wR m a = iz P.1 := congrArg (fun v : z4 => v.1) hP
  have e1 : wR m (a + 1) = iz P.2.1 := congrArg (fun v : z4 => v.2.1) hP
  have e2 : wR m (a + 2) = iz P.2.2.1 := congrArg (fun v : z4 => v.2.2.1) hP
  have e3 : wR m (a + 3) = iz P.2.2.2 := congrArg (fun v : z4 => v.2.2.2) hP
  obtain ⟨b0, b1, b2, b3⟩ := zb_63 hV.2
  have gp : 0 < g4 P := g4_pos (zqpos h0)
  have g63 : g4 P < 2 ^ 63 := g4_lt (zb_63 hV.2) (by decide)
  obtain ⟨d0, d1, d2, d3⟩ := g4_dvd P
  refine zi_aload_n 1 dX11_greatestWhole_0 rfl rfl ?_
  refine zi_getfield 4 9 dX11_greatestWhole_1 zcl_X11 tw_872 rfl rfl N0.1.1 rfl rfl ?_
  refine zi_iload_n 5 dX11_greatestWhole_4 rfl rfl ?_
  refine zi_laload 6 dX11_greatestWhole_5 N0.1.2.2.2.2.2.2.2.2.1 (vp_in_nI (show a < 80 by omega) (by decide)) rfl ?_
  rw [nI_clamp (Nat.lt_trans (show a < 80 by omega) (by decide))]
  rw [e0]
  refine zi_aload_n 7 dX11_greatestWhole_6 rfl rfl ?_
  refine zi_getfield 10 9 dX11_greatestWhole_7 zcl_X11 tw_872 rfl rfl N0.1.1 rfl rfl ?_
  refine zi_iload_n 11 dX11_greatestWhole_10 rfl rfl ?_
  refine zi_iconst (v := 1) 12 dX11_greatestWhole_11 (by decide) rfl ?_
  refine zi_iadd 13 dX11_greatestWhole_12 rfl ?_
  rw [show (nI a : Int32) + 1 = nI (a + 1) from nI_ad a 1]
  refine zi_laload 14 dX11_greatestWhole_13 N0.1.2.2.2.2.2.2.2.2.1 (vp_in_nI (show (a + 1) < 80 by omega) (by decide)) rfl ?_
  rw [nI_clamp (Nat.lt_trans (show (a + 1) < 80 by omega) (by decide))]
  rw [e1]
  refine zc_static (n' := (0, 0)) (md' := mX11_divisor) 17 dX11_greatestWhole_14 tw_970 zs_X11_divisor (s_X11_divisor B h _ _ (iz_nm (by omega)) (iz_nm (by omega))) rfl rfl rfl rfl rfl rfl rfl rfl (zk_f ?_)
  rw [gcd_iz (by omega) (by omega)]
  refine zi_aload_n 18 dX11_greatestWhole_17 rfl rfl ?_
  refine zi_getfield 21 9 dX11_greatestWhole_18 zcl_X11 tw_872 rfl rfl N0.1.1 rfl rfl ?_
  refine zi_iload_n 22 dX11_greatestWhole_21 rfl rfl ?_
  refine zi_iconst (v := 2) 23 dX11_greatestWhole_22 (by decide) rfl ?_
  refine zi_iadd 24 dX11_greatestWhole_23 rfl ?_
  rw [show (nI a : Int32) + 2 = nI (a + 2) from nI_ad a 2]
  refine zi_laload 25 dX11_greatestWhole_24 N0.1.2.2.2.2.2.2.2.2.1 (vp_in_nI (show (a + 2) < 80 by omega) (by decide)) rfl ?_
  rw [nI_clamp (Nat.lt_trans (show (a + 2) < 80 by omega) (by decide))]
  rw [e2]
  refine zi_aload_n 26 dX11_greatestWhole_25 rfl rfl ?_
  refine zi_getfield 29 9 dX11_greatestWhole_26 zcl_X11 tw_872 rfl rfl N0.1.1 rfl rfl ?_
  refine zi_iload_n 30 dX11_greatestWhole_29 rfl rfl ?_
  refine zi_iconst (v := 3) 31 dX11_greatestWhole_30 (by decide) rfl ?_
  refine zi_iadd 32 dX11_greatestWhole_31 rfl ?_
  rw [show (nI a : Int32) + 3 = nI (a + 3) from nI_ad a 3]
  refine zi_laload 33 dX11_greatestWhole_32 N0.1.2.2.2.2.2.2.2.2.1 (vp_in_nI (show (a + 3) < 80 by omega) (by decide)) rfl ?_
  rw [nI_clamp (Nat.lt_trans (show (a + 3) < 80 by omega) (by decide))]
  rw [e3]
  refine zc_static (n' := (0, 0)) (md' := mX11_divisor) 36 dX11_greatestWhole_33 tw_970 zs_X11_divisor (s_X11_divisor B h _ _ (iz_nm (by omega)) (iz_nm (by omega))) rfl rfl rfl rfl rfl rfl rfl rfl (zk_f ?_)
  rw [gcd_iz (by omega) (by omega)]
  refine zc_static (n' := (0, 0)) (md' := mX11_divisor) 39 dX11_greatestWhole_36 tw_970 zs_X11_divisor (s_X11_divisor B h _ _ (lN_nm (gcd_lt (by omega) (by omega))) (lN_nm (gcd_lt (by omega) (by omega)))) rfl rfl rfl rfl rfl rfl rfl rfl (zk_f ?_)
  rw [gcd_lN (gcd_lt (by omega) (by omega)) (gcd_lt (by omega) (by omega)), show Nat.gcd (Nat.gcd P.1.natAbs P.2.1.natAbs) (Nat.gcd P.2.2.1.natAbs P.2.2.2.natAbs) = g4 P from rfl]
  refine zi_lstore_n (lv' := [(2, _), (0, _), (1, _)]) 40 dX11_greatestWhole_39 rfl rfl rfl ?_
  refine zi_iconst (v := 1) 41 dX11_greatestWhole_40 (by decide) rfl ?_
  refine zi_istore (lv' := [(4, _), (2, _), (0, _), (1, _)]) 43 dX11_greatestWhole_41 rfl rfl rfl ?_
  refine zi_iconst (v := 0) 44 dX11_greatestWhole_43 (by decide) rfl ?_
  refine zi_istore (lv' := [(5, _), (4, _), (2, _), (0, _), (1, _)]) 46 dX11_greatestWhole_44 rfl rfl rfl ?_
  refine zi_iload 48 dX11_greatestWhole_46 rfl rfl ?_
  refine zi_iconst (v := 4) 49 dX11_greatestWhole_48 (by decide) rfl ?_
  refine zi_icmp_ge 52 90 dX11_greatestWhole_49 (by decide) rfl (fun c_49 => absurd c_49 (by decide)) (fun c_49 => ?_)
  refine zi_iload 54 dX11_greatestWhole_52 rfl rfl ?_
  refine zi_if_eq 57 81 dX11_greatestWhole_54 (by decide) rfl (fun c_54 => absurd c_54 (by decide)) (fun c_54 => ?_)
  refine zi_aload_n 58 dX11_greatestWhole_57 rfl rfl ?_
  refine zi_getfield 61 9 dX11_greatestWhole_58 zcl_X11 tw_872 rfl rfl N0.1.1 rfl rfl ?_
  refine zi_iload_n 62 dX11_greatestWhole_61 rfl rfl ?_
  refine zi_iload 64 dX11_greatestWhole_62 rfl rfl ?_
  refine zi_iadd 65 dX11_greatestWhole_64 rfl ?_
  rw [show nI a + 0 = nI a from Int32.add_zero _]
  refine zi_laload 66 dX11_greatestWhole_65 N0.1.2.2.2.2.2.2.2.2.1 (vp_in_nI (show a < 80 by omega) (by decide)) rfl ?_
  rw [nI_clamp (Nat.lt_trans (show a < 80 by omega) (by decide))]
  rw [e0]
  refine zi_lload_n 67 dX11_greatestWhole_66 rfl rfl ?_
  refine zi_ldiv 68 dX11_greatestWhole_67 (fun e => by rw [lN_0e g63] at e; omega) rfl ?_
  rw [iz_dx (by omega) g63 d0]
  refine zi_ldc2 71 dX11_greatestWhole_68 tw_909 rfl ?_
  refine zi_lrem 72 dX11_greatestWhole_71 (by decide) rfl ?_
  refine zi_lconst (v := 0) 73 dX11_greatestWhole_72 (by decide) rfl ?_
  refine zj_eq 77 81 dX11_greatestWhole_73 rfl dX11_greatestWhole_74 (by decide) rfl (fun zz0 => ?_) (fun zz0 => ?_)
  ·
    rw [par_e (Nat.lt_of_le_of_lt (Int.natAbs_ediv_le_natAbs _ _) (by omega))] at zz0
    refine zi_iconst (v := 0) 82 dX11_greatestWhole_81 (by decide) rfl ?_
    refine zi_istore (lv' := [(4, _), (5, _), (2, _), (0, _), (1, _)]) 84 dX11_greatestWhole_82 rfl rfl rfl ?_
    refine zi_iinc (v := 1) (lv' := [(5, _), (4, _), (2, _), (0, _), (1, _)]) 87 dX11_greatestWhole_84 rfl rfl rfl rfl rfl ?_
    refine zi_goto 46 dX11_greatestWhole_87 (by decide) ?_
    refine zi_iload 48 dX11_greatestWhole_46 rfl rfl ?_
    refine zi_iconst (v := 4) 49 dX11_greatestWhole_48 (by decide) rfl ?_
    refine zi_icmp_ge 52 90 dX11_greatestWhole_49 (by decide) rfl (fun c_49 => absurd c_49 (by decide)) (fun c_49 => ?_)
    refine zi_iload 54 dX11_greatestWhole_52 rfl rfl ?_
    refine zi_if_eq 57 81 dX11_greatestWhole_54 (by decide) rfl (fun c_54 => ?_) (fun c_54 => absurd c_54 (by decide))
    refine zi_iconst (v := 0) 82 dX11_greatestWhole_81 (by decide) rfl ?_
    refine zi_istore (lv' := [(4, _), (5, _), (2, _), (0, _), (1, _)]) 84 dX11_greatestWhole_82 rfl rfl rfl ?_
    refine zi_iinc (v := 2) (lv' := [(5, _), (4, _), (2, _), (0, _), (1, _)]) 87 dX11_greatestWhole_84 rfl rfl rfl rfl rfl ?_
    refine zi_goto 46 dX11_greatestWhole_87 (by decide) ?_
    refine zi_iload 48 dX11_greatestWhole_46 rfl rfl ?_
    refine zi_iconst (v := 4) 49 dX11_greatestWhole_48 (by decide) rfl ?_
    refine zi_icmp_ge 52 90 dX11_greatestWhole_49 (by decide) rfl (fun c_49 => absurd c_49 (by decide)) (fun c_49 => ?_)
    refine zi_iload 54 dX11_greatestWhole_52 rfl rfl ?_
    refine zi_if_eq 57 81 dX11_greatestWhole_54 (by decide) rfl (fun c_54 => ?_) (fun c_54 => absurd c_54 (by decide))
    refine zi_iconst (v := 0) 82 dX11_greatestWhole_81 (by decide) rfl ?_
    refine zi_istore (lv' := [(4, _), (5, _), (2, _), (0, _), (1, _)]) 84 dX11_greatestWhole_82 rfl rfl rfl ?_
    refine zi_iinc (v := 3) (lv' := [(5, _), (4, _), (2, _), (0, _), (1, _)]) 87 dX11_greatestWhole_84 rfl rfl rfl rfl rfl ?_
    refine zi_goto 46 dX11_greatestWhole_87 (by decide) ?_
    refine zi_iload 48 dX11_greatestWhole_46 rfl rfl ?_
    refine zi_iconst (v := 4) 49 dX11_greatestWhole_48 (by decide) rfl ?_
    refine zi_icmp_ge 52 90 dX11_greatestWhole_49 (by decide) rfl (fun c_49 => absurd c_49 (by decide)) (fun c_49 => ?_)
    refine zi_iload 54 dX11_greatestWhole_52 rfl rfl ?_
    refine zi_if_eq 57 81 dX11_greatestWhole_54 (by decide) rfl (fun c_54 => ?_) (fun c_54 => absurd c_54 (by decide))
    refine zi_iconst (v := 0) 82 dX11_greatestWhole_81 (by decide) rfl ?_
    refine zi_istore (lv' := [(4, _), (5, _), (2, _), (0, _), (1, _)]) 84 dX11_greatestWhole_82 rfl rfl rfl ?_
    refine zi_iinc (v := 4) (lv' := [(5, _), (4, _), (2, _), (0, _), (1, _)]) 87 dX11_greatestWhole_84 rfl rfl rfl rfl rfl ?_
    refine zi_goto 46 dX11_greatestWhole_87 (by decide) ?_
    refine zi_iload 48 dX11_greatestWhole_46 rfl rfl ?_
    refine zi_iconst (v := 4) 49 dX11_greatestWhole_48 (by decide) rfl ?_
    refine zi_icmp_ge 52 90 dX11_greatestWhole_49 (by decide) rfl (fun c_49 => ?_) (fun c_49 => absurd c_49 (by decide))
    refine zi_iload 92 dX11_greatestWhole_90 rfl rfl ?_
    refine zi_if_eq 95 99 dX11_greatestWhole_92 (by decide) rfl (fun c_92 => ?_) (fun c_92 => absurd c_92 (by decide))
    refine zi_lload_n 100 dX11_greatestWhole_99 rfl rfl ?_
    refine zi_ldc2 103 dX11_greatestWhole_100 tw_909 rfl ?_
    refine zi_ldiv 104 dX11_greatestWhole_103 (by decide) rfl ?_
    first | rw [show (2 : Int64) = lN 2 from rfl, pk_lDiv g63 (by decide) (by decide)] | skip
    exact zr_long hZ dX11_greatestWhole_104 rfl ⟨by first | exact wh_Y zz0 zz1 zz2 zz3 | exact wh_N (fun q => q.1 zz0) | exact wh_N (fun q => q.2.1 zz1) | exact wh_N (fun q => q.2.2.1 zz2) | exact wh_N (fun q => q.2.2.2 zz3), rfl⟩
  ·
    rw [par_e (Nat.lt_of_le_of_lt (Int.natAbs_ediv_le_natAbs _ _) (by omega))] at zz0
    refine zi_iconst (v := 1) 78 dX11_greatestWhole_77 (by decide) rfl ?_
    refine zi_goto 82 dX11_greatestWhole_78 (by decide) ?_
    refine zi_istore (lv' := [(4, _), (5, _), (2, _), (0, _), (1, _)]) 84 dX11_greatestWhole_82 rfl rfl rfl ?_
    refine zi_iinc (v := 1) (lv' := [(5, _), (4, _), (2, _), (0, _), (1, _)]) 87 dX11_greatestWhole_84 rfl rfl rfl rfl rfl ?_
    refine zi_goto 46 dX11_greatestWhole_87 (by decide) ?_
    refine zi_iload 48 dX11_greatestWhole_46 rfl rfl ?_
    refine zi_iconst (v := 4) 49 dX11_greatestWhole_48 (by decide) rfl ?_
    refine zi_icmp_ge 52 90 dX11_greatestWhole_49 (by decide) rfl (fun c_49 => absurd c_49 (by decide)) (fun c_49 => ?_)
    refine zi_iload 54 dX11_greatestWhole_52 rfl rfl ?_
    refine zi_if_eq 57 81 dX11_greatestWhole_54 (by decide) rfl (fun c_54 => absurd c_54 (by decide)) (fun c_54 => ?_)
    refine zi_aload_n 58 dX11_greatestWhole_57 rfl rfl ?_
    refine zi_getfield 61 9 dX11_greatestWhole_58 zcl_X11 tw_872 rfl rfl N0.1.1 rfl rfl ?_
    refine zi_iload_n 62 dX11_greatestWhole_61 rfl rfl ?_
    refine zi_iload 64 dX11_greatestWhole_62 rfl rfl ?_
    refine zi_iadd 65 dX11_greatestWhole_64 rfl ?_
    rw [show (nI a : Int32) + 1 = nI (a + 1) from nI_ad a 1]
    refine zi_laload 66 dX11_greatestWhole_65 N0.1.2.2.2.2.2.2.2.2.1 (vp_in_nI (show (a + 1) < 80 by omega) (by decide)) rfl ?_
    rw [nI_clamp (Nat.lt_trans (show (a + 1) < 80 by omega) (by decide))]
    rw [e1]
    refine zi_lload_n 67 dX11_greatestWhole_66 rfl rfl ?_
    refine zi_ldiv 68 dX11_greatestWhole_67 (fun e => by rw [lN_0e g63] at e; omega) rfl ?_
    rw [iz_dx (by omega) g63 d1]
    refine zi_ldc2 71 dX11_greatestWhole_68 tw_909 rfl ?_
    refine zi_lrem 72 dX11_greatestWhole_71 (by decide) rfl ?_
    refine zi_lconst (v := 0) 73 dX11_greatestWhole_72 (by decide) rfl ?_
    refine zj_eq 77 81 dX11_greatestWhole_73 rfl dX11_greatestWhole_74 (by decide) rfl (fun zz1 => ?_) (fun zz1 => ?_)
    ·
      rw [par_e (Nat.lt_of_le_of_lt (Int.natAbs_ediv_le_natAbs _ _) (by omega))] at zz1
      refine zi_iconst (v := 0) 82 dX11_greatestWhole_81 (by decide) rfl ?_
      refine zi_istore (lv' := [(4, _), (5, _), (2, _), (0, _), (1, _)]) 84 dX11_greatestWhole_82 rfl rfl rfl ?_
      refine zi_iinc (v := 2) (lv' := [(5, _), (4, _), (2, _), (0, _), (1, _)]) 87 dX11_greatestWhole_84 rfl rfl rfl rfl rfl ?_
      refine zi_goto 46 dX11_greatestWhole_87 (by decide) ?_
      refine zi_iload 48 dX11_greatestWhole_46 rfl rfl ?_
      refine zi_iconst (v := 4) 49 dX11_greatestWhole_48 (by decide) rfl ?_
      refine zi_icmp_ge 52 90 dX11_greatestWhole_49 (by decide) rfl (fun c_49 => absurd c_49 (by decide)) (fun c_49 => ?_)
      refine zi_iload 54 dX11_greatestWhole_52 rfl rfl ?_
      refine zi_if_eq 57 81 dX11_greatestWhole_54 (by decide) rfl (fun c_54 => ?_) (fun c_54 => absurd c_54 (by decide))
      refine zi_iconst (v := 0) 82 dX11_greatestWhole_81 (by decide) rfl ?_
      refine zi_istore (lv' := [(4, _), (5, _), (2, _), (0, _), (1, _)]) 84 dX11_greatestWhole_82 rfl rfl rfl ?_
      refine zi_iinc (v := 3) (lv' := [(5, _), (4, _), (2, _), (0, _), (1, _)]) 87 dX11_greatestWhole_84 rfl rfl rfl rfl rfl ?_
      refine zi_goto 46 dX11_greatestWhole_87 (by decide) ?_
      refine zi_iload 48 dX11_greatestWhole_46 rfl rfl ?_
      refine zi_iconst (v := 4) 49 dX11_greatestWhole_48 (by decide) rfl ?_
      refine zi_icmp_ge 52 90 dX11_greatestWhole_49 (by decide) rfl (fun c_49 => absurd c_49 (by decide)) (fun c_49 => ?_)
      refine zi_iload 54 dX11_greatestWhole_52 rfl rfl ?_
      refine zi_if_eq 57 81 dX11_greatestWhole_54 (by decide) rfl (fun c_54 => ?_) (fun c_54 => absurd c_54 (by decide))
      refine zi_iconst (v := 0) 82 dX11_greatestWhole_81 (by decide) rfl ?_
      refine zi_istore (lv' := [(4, _), (5, _), (2, _), (0, _), (1, _)]) 84 dX11_greatestWhole_82 rfl rfl rfl ?_
      refine zi_iinc (v := 4) (lv' := [(5, _), (4, _), (2, _), (0, _), (1, _)]) 87 dX11_greatestWhole_84 rfl rfl rfl rfl rfl ?_
      refine zi_goto 46 dX11_greatestWhole_87 (by decide) ?_
      refine zi_iload 48 dX11_greatestWhole_46 rfl rfl ?_
      refine zi_iconst (v := 4) 49 dX11_greatestWhole_48 (by decide) rfl ?_
      refine zi_icmp_ge 52 90 dX11_greatestWhole_49 (by decide) rfl (fun c_49 => ?_) (fun c_49 => absurd c_49 (by decide))
      refine zi_iload 92 dX11_greatestWhole_90 rfl rfl ?_
      refine zi_if_eq 95 99 dX11_greatestWhole_92 (by decide) rfl (fun c_92 => ?_) (fun c_92 => absurd c_92 (by decide))
      refine zi_lload_n 100 dX11_greatestWhole_99 rfl rfl ?_
      refine zi_ldc2 103 dX11_greatestWhole_100 tw_909 rfl ?_
      refine zi_ldiv 104 dX11_greatestWhole_103 (by decide) rfl ?_
      first | rw [show (2 : Int64) = lN 2 from rfl, pk_lDiv g63 (by decide) (by decide)] | skip
      exact zr_long hZ dX11_greatestWhole_104 rfl ⟨by first | exact wh_Y zz0 zz1 zz2 zz3 | exact wh_N (fun q => q.1 zz0) | exact wh_N (fun q => q.2.1 zz1) | exact wh_N (fun q => q.2.2.1 zz2) | exact wh_N (fun q => q.2.2.2 zz3), rfl⟩
    ·
      rw [par_e (Nat.lt_of_le_of_lt (Int.natAbs_ediv_le_natAbs _ _) (by omega))] at zz1
      refine zi_iconst (v := 1) 78 dX11_greatestWhole_77 (by decide) rfl ?_
      refine zi_goto 82 dX11_greatestWhole_78 (by decide) ?_
      refine zi_istore (lv' := [(4, _), (5, _), (2, _), (0, _), (1, _)]) 84 dX11_greatestWhole_82 rfl rfl rfl ?_
      refine zi_iinc (v := 2) (lv' := [(5, _), (4, _), (2, _), (0, _), (1, _)]) 87 dX11_greatestWhole_84 rfl rfl rfl rfl rfl ?_
      refine zi_goto 46 dX11_greatestWhole_87 (by decide) ?_
      refine zi_iload 48 dX11_greatestWhole_46 rfl rfl ?_
      refine zi_iconst (v := 4) 49 dX11_greatestWhole_48 (by decide) rfl ?_
      refine zi_icmp_ge 52 90 dX11_greatestWhole_49 (by decide) rfl (fun c_49 => absurd c_49 (by decide)) (fun c_49 => ?_)
      refine zi_iload 54 dX11_greatestWhole_52 rfl rfl ?_
      refine zi_if_eq 57 81 dX11_greatestWhole_54 (by decide) rfl (fun c_54 => absurd c_54 (by decide)) (fun c_54 => ?_)
      refine zi_aload_n 58 dX11_greatestWhole_57 rfl rfl ?_
      refine zi_getfield 61 9 dX11_greatestWhole_58 zcl_X11 tw_872 rfl rfl N0.1.1 rfl rfl ?_
      refine zi_iload_n 62 dX11_greatestWhole_61 rfl rfl ?_
      refine zi_iload 64 dX11_greatestWhole_62 rfl rfl ?_
      refine zi_iadd 65 dX11_greatestWhole_64 rfl ?_
      rw [show (nI a : Int32) + 2 = nI (a + 2) from nI_ad a 2]
      refine zi_laload 66 dX11_greatestWhole_65 N0.1.2.2.2.2.2.2.2.2.1 (vp_in_nI (show (a + 2) < 80 by omega) (by decide)) rfl ?_
      rw [nI_clamp (Nat.lt_trans (show (a + 2) < 80 by omega) (by decide))]
      rw [e2]
      refine zi_lload_n 67 dX11_greatestWhole_66 rfl rfl ?_
      refine zi_ldiv 68 dX11_greatestWhole_67 (fun e => by rw [lN_0e g63] at e; omega) rfl ?_
      rw [iz_dx (by omega) g63 d2]
      refine zi_ldc2 71 dX11_greatestWhole_68 tw_909 rfl ?_
      refine zi_lrem 72 dX11_greatestWhole_71 (by decide) rfl ?_
      refine zi_lconst (v := 0) 73 dX11_greatestWhole_72 (by decide) rfl ?_
      refine zj_eq 77 81 dX11_greatestWhole_73 rfl dX11_greatestWhole_74 (by decide) rfl (fun zz2 => ?_) (fun zz2 => ?_)
      ·
        rw [par_e (Nat.lt_of_le_of_lt (Int.natAbs_ediv_le_natAbs _ _) (by omega))] at zz2
        refine zi_iconst (v := 0) 82 dX11_greatestWhole_81 (by decide) rfl ?_
        refine zi_istore (lv' := [(4, _), (5, _), (2, _), (0, _), (1, _)]) 84 dX11_greatestWhole_82 rfl rfl rfl ?_
        refine zi_iinc (v := 3) (lv' := [(5, _), (4, _), (2, _), (0, _), (1, _)]) 87 dX11_greatestWhole_84 rfl rfl rfl rfl rfl ?_
        refine zi_goto 46 dX11_greatestWhole_87 (by decide) ?_
        refine zi_iload 48 dX11_greatestWhole_46 rfl rfl ?_
        refine zi_iconst (v := 4) 49 dX11_greatestWhole_48 (by decide) rfl ?_
        refine zi_icmp_ge 52 90 dX11_greatestWhole_49 (by decide) rfl (fun c_49 => absurd c_49 (by decide)) (fun c_49 => ?_)
        refine zi_iload 54 dX11_greatestWhole_52 rfl rfl ?_
        refine zi_if_eq 57 81 dX11_greatestWhole_54 (by decide) rfl (fun c_54 => ?_) (fun c_54 => absurd c_54 (by decide))
        refine zi_iconst (v := 0) 82 dX11_greatestWhole_81 (by decide) rfl ?_
        refine zi_istore (lv' := [(4, _), (5, _), (2, _), (0, _), (1, _)]) 84 dX11_greatestWhole_82 rfl rfl rfl ?_
        refine zi_iinc (v := 4) (lv' := [(5, _), (4, _), (2, _), (0, _), (1, _)]) 87 dX11_greatestWhole_84 rfl rfl rfl rfl rfl ?_
        refine zi_goto 46 dX11_greatestWhole_87 (by decide) ?_
        refine zi_iload 48 dX11_greatestWhole_46 rfl rfl ?_
        refine zi_iconst (v := 4) 49 dX11_greatestWhole_48 (by decide) rfl ?_
        refine zi_icmp_ge 52 90 dX11_greatestWhole_49 (by decide) rfl (fun c_49 => ?_) (fun c_49 => absurd c_49 (by decide))
        refine zi_iload 92 dX11_greatestWhole_90 rfl rfl ?_
        refine zi_if_eq 95 99 dX11_greatestWhole_92 (by decide) rfl (fun c_92 => ?_) (fun c_92 => absurd c_92 (by decide))
        refine zi_lload_n 100 dX11_greatestWhole_99 rfl rfl ?_
        refine zi_ldc2 103 dX11_greatestWhole_100 tw_909 rfl ?_
        refine zi_ldiv 104 dX11_greatestWhole_103 (by decide) rfl ?_
        first | rw [show (2 : Int64) = lN 2 from rfl, pk_lDiv g63 (by decide) (by decide)] | skip
        exact zr_long hZ dX11_greatestWhole_104 rfl ⟨by first | exact wh_Y zz0 zz1 zz2 zz3 | exact wh_N (fun q => q.1 zz0) | exact wh_N (fun q => q.2.1 zz1) | exact wh_N (fun q => q.2.2.1 zz2) | exact wh_N (fun q => q.2.2.2 zz3), rfl⟩
      ·
        rw [par_e (Nat.lt_of_le_of_lt (Int.natAbs_ediv_le_natAbs _ _) (by omega))] at zz2
        refine zi_iconst (v := 1) 78 dX11_greatestWhole_77 (by decide) rfl ?_
        refine zi_goto 82 dX11_greatestWhole_78 (by decide) ?_
        refine zi_istore (lv' := [(4, _), (5, _), (2, _), (0, _), (1, _)]) 84 dX11_greatestWhole_82 rfl rfl rfl ?_
        refine zi_iinc (v := 3) (lv' := [(5, _), (4, _), (2, _), (0, _), (1, _)]) 87 dX11_greatestWhole_84 rfl rfl rfl rfl rfl ?_
        refine zi_goto 46 dX11_greatestWhole_87 (by decide) ?_
        refine zi_iload 48 dX11_greatestWhole_46 rfl rfl ?_
        refine zi_iconst (v := 4) 49 dX11_greatestWhole_48 (by decide) rfl ?_
        refine zi_icmp_ge 52 90 dX11_greatestWhole_49 (by decide) rfl (fun c_49 => absurd c_49 (by decide)) (fun c_49 => ?_)
        refine zi_iload 54 dX11_greatestWhole_52 rfl rfl ?_
        refine zi_if_eq 57 81 dX11_greatestWhole_54 (by decide) rfl (fun c_54 => absurd c_54 (by decide)) (fun c_54 => ?_)
        refine zi_aload_n 58 dX11_greatestWhole_57 rfl rfl ?_
        refine zi_getfield 61 9 dX11_greatestWhole_58 zcl_X11 tw_872 rfl rfl N0.1.1 rfl rfl ?_
        refine zi_iload_n 62 dX11_greatestWhole_61 rfl rfl ?_
        refine zi_iload 64 dX11_greatestWhole_62 rfl rfl ?_
        refine zi_iadd 65 dX11_greatestWhole_64 rfl ?_
        rw [show (nI a : Int32) + 3 = nI (a + 3) from nI_ad a 3]
        refine zi_laload 66 dX11_greatestWhole_65 N0.1.2.2.2.2.2.2.2.2.1 (vp_in_nI (show (a + 3) < 80 by omega) (by decide)) rfl ?_
        rw [nI_clamp (Nat.lt_trans (show (a + 3) < 80 by omega) (by decide))]
        rw [e3]
        refine zi_lload_n 67 dX11_greatestWhole_66 rfl rfl ?_
        refine zi_ldiv 68 dX11_greatestWhole_67 (fun e => by rw [lN_0e g63] at e; omega) rfl ?_
        rw [iz_dx (by omega) g63 d3]
        refine zi_ldc2 71 dX11_greatestWhole_68 tw_909 rfl ?_
        refine zi_lrem 72 dX11_greatestWhole_71 (by decide) rfl ?_
        refine zi_lconst (v := 0) 73 dX11_greatestWhole_72 (by decide) rfl ?_
        refine zj_eq 77 81 dX11_greatestWhole_73 rfl dX11_greatestWhole_74 (by decide) rfl (fun zz3 => ?_) (fun zz3 => ?_)
        ·
          rw [par_e (Nat.lt_of_le_of_lt (Int.natAbs_ediv_le_natAbs _ _) (by omega))] at zz3
          refine zi_iconst (v := 0) 82 dX11_greatestWhole_81 (by decide) rfl ?_
          refine zi_istore (lv' := [(4, _), (5, _), (2, _), (0, _), (1, _)]) 84 dX11_greatestWhole_82 rfl rfl rfl ?_
          refine zi_iinc (v := 4) (lv' := [(5, _), (4, _), (2, _), (0, _), (1, _)]) 87 dX11_greatestWhole_84 rfl rfl rfl rfl rfl ?_
          refine zi_goto 46 dX11_greatestWhole_87 (by decide) ?_
          refine zi_iload 48 dX11_greatestWhole_46 rfl rfl ?_
          refine zi_iconst (v := 4) 49 dX11_greatestWhole_48 (by decide) rfl ?_
          refine zi_icmp_ge 52 90 dX11_greatestWhole_49 (by decide) rfl (fun c_49 => ?_) (fun c_49 => absurd c_49 (by decide))
          refine zi_iload 92 dX11_greatestWhole_90 rfl rfl ?_
          refine zi_if_eq 95 99 dX11_greatestWhole_92 (by decide) rfl (fun c_92 => ?_) (fun c_92 => absurd c_92 (by decide))
          refine zi_lload_n 100 dX11_greatestWhole_99 rfl rfl ?_
          refine zi_ldc2 103 dX11_greatestWhole_100 tw_909 rfl ?_
          refine zi_ldiv 104 dX11_greatestWhole_103 (by decide) rfl ?_
          first | rw [show (2 : Int64) = lN 2 from rfl, pk_lDiv g63 (by decide) (by decide)] | skip
          exact zr_long hZ dX11_greatestWhole_104 rfl ⟨by first | exact wh_Y zz0 zz1 zz2 zz3 | exact wh_N (fun q => q.1 zz0) | exact wh_N (fun q => q.2.1 zz1) | exact wh_N (fun q => q.2.2.1 zz2) | exact wh_N (fun q => q.2.2.2 zz3), rfl⟩
        ·
          rw [par_e (Nat.lt_of_le_of_lt (Int.natAbs_ediv_le_natAbs _ _) (by omega))] at zz3
          refine zi_iconst (v := 1) 78 dX11_greatestWhole_77 (by decide) rfl ?_
          refine zi_goto 82 dX11_greatestWhole_78 (by decide) ?_
          refine zi_istore (lv' := [(4, _), (5, _), (2, _), (0, _), (1, _)]) 84 dX11_greatestWhole_82 rfl rfl rfl ?_
          refine zi_iinc (v := 4) (lv' := [(5, _), (4, _), (2, _), (0, _), (1, _)]) 87 dX11_greatestWhole_84 rfl rfl rfl rfl rfl ?_
          refine zi_goto 46 dX11_greatestWhole_87 (by decide) ?_
          refine zi_iload 48 dX11_greatestWhole_46 rfl rfl ?_
          refine zi_iconst (v := 4) 49 dX11_greatestWhole_48 (by decide) rfl ?_
          refine zi_icmp_ge 52 90 dX11_greatestWhole_49 (by decide) rfl (fun c_49 => ?_) (fun c_49 => absurd c_49 (by decide))
          refine zi_iload 92 dX11_greatestWhole_90 rfl rfl ?_
          refine zi_if_eq 95 99 dX11_greatestWhole_92 (by decide) rfl (fun c_92 => absurd c_92 (by decide)) (fun c_92 => ?_)
          refine zi_lload_n 96 dX11_greatestWhole_95 rfl rfl ?_
          refine zi_goto 104 dX11_greatestWhole_96 (by decide) ?_
          first | rw [show (2 : Int64) = lN 2 from rfl, pk_lDiv g63 (by decide) (by decide)] | skip
          exact zr_long hZ dX11_greatestWhole_104 rfl ⟨by first | exact wh_Y zz0 zz1 zz2 zz3 | exact wh_N (fun q => q.1 zz0) | exact wh_N (fun q => q.2.1 zz1) | exact wh_N (fun q => q.2.2.1 zz2) | exact wh_N (fun q => q.2.2.2 zz3), rfl⟩

set_option maxHeartbeats 4000000 in
set_option maxRecDepth 100000 in
theorem s_X11_kindOf (B : zBB) (h : zHp) (D : Nat → Nat) (hD : zInj D) (m : mS) (M : rM B D m h) (a : Nat) (ha : a ≤ 76) (P : i4) (hV : i4V P) (hP : ro (wR m) a = z4i P) : zSpec mX11_kindOf B (2, 0, 0) [.ref (D 0), .int (nI a)] h (zPf (some (.int (nI (kindI P)))) h) := by
  refine zSpec.of (by decide) (Nat.le_of_ble_eq_true rfl) (fun X hZ => ?_)
  show zG X mX11_kindOf B (2, 0, 0) (0, 0) 0 [(0, .ref (D 0)), (1, .int (nI a))] [] h
  have N0 := rN_r M
  have e0 : wR m a = iz P.1 := congrArg (fun v : z4 => v.1) hP
  obtain ⟨b0, b1, b2, b3⟩ := zb_63 hV.2
  refine zi_aload_n 1 dX11_kindOf_0 rfl rfl ?_
  refine zi_iload_n 2 dX11_kindOf_1 rfl rfl ?_
  refine zc_virtual (n' := (0, 0)) (md' := mX11_isNought) 5 dX11_kindOf_2 tw_962 zv_X11_isNought zcl_X11 (s_X11_isNought B h D hD _ N0.1 a (by omega)) N0.1.1 rfl rfl rfl rfl rfl rfl rfl rfl (zk_f ?_)
  refine zb_ne 8 47 dX11_kindOf_5 (by decide) rfl (fun zzZ => ?_) (fun zzZ => ?_)
  ·
    rw [hP, z4i_nil (zb_63 hV.2)] at zzZ
    refine zi_aload_n 48 dX11_kindOf_47 rfl rfl ?_
    refine zi_getfield 51 9 dX11_kindOf_48 zcl_X11 tw_872 rfl rfl N0.1.1 rfl rfl ?_
    refine zi_iload_n 52 dX11_kindOf_51 rfl rfl ?_
    refine zi_laload 53 dX11_kindOf_52 N0.1.2.2.2.2.2.2.2.2.1 (vp_in_nI (show a < 80 by omega) (by decide)) rfl ?_
    rw [nI_clamp (Nat.lt_trans (show a < 80 by omega) (by decide))]
    rw [e0]
    refine zi_ldc2 56 dX11_kindOf_53 tw_909 rfl ?_
    refine zi_lrem 57 dX11_kindOf_56 (by decide) rfl ?_
    refine zi_lconst (v := 0) 58 dX11_kindOf_57 (by decide) rfl ?_
    refine zj_eq 62 66 dX11_kindOf_58 rfl dX11_kindOf_59 (by decide) rfl (fun zzV => ?_) (fun zzV => ?_)
    ·
      rw [par_e (by omega)] at zzV
      refine zi_iconst (v := 0) 67 dX11_kindOf_66 (by decide) rfl ?_
      exact zr_int hZ dX11_kindOf_67 rfl rfl ⟨by first | (rw [kd_A zzZ, if_pos zzV] <;> rfl) | (rw [kd_A zzZ, if_neg zzV] <;> rfl) | (rw [kd_B hV zzZ zzW, if_pos zzV] <;> rfl) | (rw [kd_B hV zzZ zzW, if_neg zzV] <;> rfl), rfl⟩
    ·
      rw [par_e (by omega)] at zzV
      refine zi_iconst (v := 1) 63 dX11_kindOf_62 (by decide) rfl ?_
      refine zi_goto 67 dX11_kindOf_63 (by decide) ?_
      exact zr_int hZ dX11_kindOf_67 rfl rfl ⟨by first | (rw [kd_A zzZ, if_pos zzV] <;> rfl) | (rw [kd_A zzZ, if_neg zzV] <;> rfl) | (rw [kd_B hV zzZ zzW, if_pos zzV] <;> rfl) | (rw [kd_B hV zzZ zzW, if_neg zzV] <;> rfl), rfl⟩
  ·
    rw [hP, z4i_nil (zb_63 hV.2)] at zzZ
    refine zi_aload_n 9 dX11_kindOf_8 rfl rfl ?_
    refine zi_iload_n 10 dX11_kindOf_9 rfl rfl ?_
    refine zc_virtual (n' := (0, 0)) (md' := mX11_greatestWhole) 13 dX11_kindOf_10 tw_966 zv_X11_greatestWhole zcl_X11 (s_X11_greatestWhole B h D hD _ N0.1 a (by omega) P hV zzZ hP) N0.1.1 rfl rfl rfl rfl rfl rfl rfl rfl (zk_f ?_)
    refine zi_lconst (v := 1) 14 dX11_kindOf_13 (by decide) rfl ?_
    refine zj_ne 18 47 dX11_kindOf_14 rfl dX11_kindOf_15 (by decide) rfl (fun zzW => ?_) (fun zzW => ?_)
    ·
      rw [lN_1e (wh_63 hV)] at zzW
      refine zi_aload_n 48 dX11_kindOf_47 rfl rfl ?_
      refine zi_getfield 51 9 dX11_kindOf_48 zcl_X11 tw_872 rfl rfl N0.1.1 rfl rfl ?_
      refine zi_iload_n 52 dX11_kindOf_51 rfl rfl ?_
      refine zi_laload 53 dX11_kindOf_52 N0.1.2.2.2.2.2.2.2.2.1 (vp_in_nI (show a < 80 by omega) (by decide)) rfl ?_
      rw [nI_clamp (Nat.lt_trans (show a < 80 by omega) (by decide))]
      rw [e0]
      refine zi_ldc2 56 dX11_kindOf_53 tw_909 rfl ?_
      refine zi_lrem 57 dX11_kindOf_56 (by decide) rfl ?_
      refine zi_lconst (v := 0) 58 dX11_kindOf_57 (by decide) rfl ?_
      refine zj_eq 62 66 dX11_kindOf_58 rfl dX11_kindOf_59 (by decide) rfl (fun zzV => ?_) (fun zzV => ?_)
      ·
        rw [par_e (by omega)] at zzV
        refine zi_iconst (v := 0) 67 dX11_kindOf_66 (by decide) rfl ?_
        exact zr_int hZ dX11_kindOf_67 rfl rfl ⟨by first | (rw [kd_A zzZ, if_pos zzV] <;> rfl) | (rw [kd_A zzZ, if_neg zzV] <;> rfl) | (rw [kd_B hV zzZ zzW, if_pos zzV] <;> rfl) | (rw [kd_B hV zzZ zzW, if_neg zzV] <;> rfl), rfl⟩
      ·
        rw [par_e (by omega)] at zzV
        refine zi_iconst (v := 1) 63 dX11_kindOf_62 (by decide) rfl ?_
        refine zi_goto 67 dX11_kindOf_63 (by decide) ?_
        exact zr_int hZ dX11_kindOf_67 rfl rfl ⟨by first | (rw [kd_A zzZ, if_pos zzV] <;> rfl) | (rw [kd_A zzZ, if_neg zzV] <;> rfl) | (rw [kd_B hV zzZ zzW, if_pos zzV] <;> rfl) | (rw [kd_B hV zzZ zzW, if_neg zzV] <;> rfl), rfl⟩
    ·
      rw [lN_1e (wh_63 hV)] at zzW
      refine zi_aload_n 19 dX11_kindOf_18 rfl rfl ?_
      refine zi_iload_n 20 dX11_kindOf_19 rfl rfl ?_
      refine zc_virtual (n' := (0, 0)) (md' := mX11_norm4) 23 dX11_kindOf_20 tw_948 zv_X11_norm4 zcl_X11 (s_X11_norm4 B h D hD _ N0.1 a (by omega)) N0.1.1 rfl rfl rfl rfl rfl rfl rfl rfl (zk_f ?_)
      rw [hP, nN_z hV]
      refine zi_lstore_n (lv' := [(2, _), (0, _), (1, _)]) 24 dX11_kindOf_23 rfl rfl rfl ?_
      refine zi_lload_n 25 dX11_kindOf_24 rfl rfl ?_
      refine zi_lconst (v := 1) 26 dX11_kindOf_25 (by decide) rfl ?_
      refine zj_ne 30 34 dX11_kindOf_26 rfl dX11_kindOf_27 (by decide) rfl (fun zzU => ?_) (fun zzU => ?_)
      ·
        rw [lN_1e (nN_63 hV)] at zzU
        refine zi_lload_n 35 dX11_kindOf_34 rfl rfl ?_
        refine zc_static (n' := (0, 0)) (md' := mX11_isPrime) 38 dX11_kindOf_35 tw_973 zs_X11_isPrime (s_X11_isPrime B h (nN P) (nN_2 hV zzZ zzU) (nN_31 hV)) rfl rfl rfl rfl rfl rfl rfl rfl (zk_f ?_)
        refine zb_eq 41 45 dX11_kindOf_38 (by decide) rfl (fun zzP => ?_) (fun zzP => ?_)
        ·
          refine zi_iconst (v := 2) 46 dX11_kindOf_45 (by decide) rfl ?_
          exact zr_int hZ dX11_kindOf_46 rfl rfl ⟨by rw [kind_n hV, if_neg zzZ]; first | (rw [if_pos zzU] <;> rfl) | (rw [if_neg zzU, if_pos zzP] <;> rfl) | (rw [if_neg zzU, if_neg zzP, if_pos zzW] <;> rfl), rfl⟩
        ·
          refine zi_iconst (v := 3) 42 dX11_kindOf_41 (by decide) rfl ?_
          refine zi_goto 46 dX11_kindOf_42 (by decide) ?_
          exact zr_int hZ dX11_kindOf_46 rfl rfl ⟨by rw [kind_n hV, if_neg zzZ]; first | (rw [if_pos zzU] <;> rfl) | (rw [if_neg zzU, if_pos zzP] <;> rfl) | (rw [if_neg zzU, if_neg zzP, if_pos zzW] <;> rfl), rfl⟩
      ·
        rw [lN_1e (nN_63 hV)] at zzU
        refine zi_iconst (v := 4) 31 dX11_kindOf_30 (by decide) rfl ?_
        refine zi_goto 46 dX11_kindOf_31 (by decide) ?_
        exact zr_int hZ dX11_kindOf_46 rfl rfl ⟨by rw [kind_n hV, if_neg zzZ]; first | (rw [if_pos zzU] <;> rfl) | (rw [if_neg zzU, if_pos zzP] <;> rfl) | (rw [if_neg zzU, if_neg zzP, if_pos zzW] <;> rfl), rfl⟩

set_option maxHeartbeats 4000000 in
set_option maxRecDepth 100000 in
theorem s_X11_begins (B : zBB) (h : zHp) (D : Nat → Nat) (hD : zInj D) (m : mS) (M : rM B D m h) (v : Int32) (k : Nat) (hC : wC m = nI k) (hk : k < 16) : zSpec mX11_begins B (0, 0, 0) [.ref (D 0), .int v] h (zPv (fun h' => rN B D (uC (uT m (upd (wT m) k v)) (nI (k + 1))) h h')) := by
  refine zSpec.of (by decide) (Nat.le_of_ble_eq_true rfl) (fun X hZ => ?_)
  show zG X mX11_begins B (0, 0, 0) (0, 0) 0 [(0, .ref (D 0)), (1, .int v)] [] h
  have N0 := rN_r M
  refine zi_aload_n 1 dX11_begins_0 rfl rfl ?_
  refine zi_getfield 4 8 dX11_begins_1 zcl_X11 tw_871 rfl rfl N0.1.1 rfl rfl ?_
  rw [hC]
  refine zi_bipush (v := 16) 6 dX11_begins_4 (by decide) rfl ?_
  refine zi_icmp_ge 9 29 dX11_begins_6 (by decide) rfl (fun zzF => absurd zzF (by rw [show (16 : Int32) = nI 16 from rfl, nI_leI (by decide) (by omega)]; omega)) (fun zzF => ?_)
  refine zi_aload_n 10 dX11_begins_9 rfl rfl ?_
  refine zi_getfield 13 7 dX11_begins_10 zcl_X11 tw_870 rfl rfl N0.1.1 rfl rfl ?_
  refine zi_aload_n 14 dX11_begins_13 rfl rfl ?_
  refine zi_getfield 17 8 dX11_begins_14 zcl_X11 tw_871 rfl rfl N0.1.1 rfl rfl ?_
  rw [hC]
  refine zi_iload_n 18 dX11_begins_17 rfl rfl ?_
  refine zi_iastore 19 dX11_begins_18 N0.1.2.2.2.2.2.2.2.1 (vp_in_nI (show k < 16 by omega) (by decide)) rfl ?_
  rw [nI_clamp (Nat.lt_trans (show k < 16 by omega) (by decide))]
  refine zk_h (fun h1 k1 => ?_)
  have N1 := rN_T hD N0 k1
  refine zi_aload_n 20 dX11_begins_19 rfl rfl ?_
  refine zi_dup 21 dX11_begins_20 rfl rfl ?_
  refine zi_getfield 24 8 dX11_begins_21 zcl_X11 tw_871 rfl rfl N1.1.1 rfl rfl ?_
  rw [show wC _ = nI k from hC]
  refine zi_iconst (v := 1) 25 dX11_begins_24 (by decide) rfl ?_
  refine zi_iadd 26 dX11_begins_25 rfl ?_
  rw [show (nI k : Int32) + 1 = nI (k + 1) from nI_ad k 1]
  refine zi_putfield (fs' := [_, _, _, _, _, _, _, _, _, _, _]) 29 8 dX11_begins_26 zcl_X11 tyX11 tyX11_ok nmX11 tw_871 rfl rfl rfl N1.1.1 rfl rfl rfl rfl rfl rfl ?_
  refine zk_h (fun h2 k2 => ?_)
  have N2 := rN_C hD N1 k2
  exact zr_void hZ dX11_begins_29 rfl ⟨rfl, N2⟩

set_option maxHeartbeats 4000000 in
set_option maxRecDepth 100000 in
theorem s_X11_sizeOf0 (B : zBB) (h : zHp) (D : Nat → Nat) (hD : zInj D) (m : mS) (M : rM B D m h) (n : Nat) (hC : wC m = nI n) (hn : n + 2 ≤ 16) (P : i4) (hV : i4V P) (hP : ro (wR m) 0 = z4i P) : zSpec mX11_sizeOf B (1, 0, 0) [.ref (D 0), .int 0] h (zPi (fun x h' => x = nI (sizeV 0 (nN P)) ∧ rN B D (trA m n (sizeT 0)) h h')) := by
  refine zSpec.of (by decide) (Nat.le_of_ble_eq_true rfl) (fun X hZ => ?_)
  show zG X mX11_sizeOf B (1, 0, 0) (0, 0) 0 [(0, .ref (D 0)), (1, .int 0)] [] h
  have N0 := rN_r M
  refine zi_iload_n 1 dX11_sizeOf_0 rfl rfl ?_
  refine zi_iconst (v := 4) 2 dX11_sizeOf_1 (by decide) rfl ?_
  refine zi_icmp_ne 5 13 dX11_sizeOf_2 (by decide) rfl (fun c_2 => ?_) (fun c_2 => absurd c_2 (by decide))
  refine zi_iload_n 14 dX11_sizeOf_13 rfl rfl ?_
  refine zi_iconst (v := 3) 15 dX11_sizeOf_14 (by decide) rfl ?_
  refine zi_icmp_ne 18 24 dX11_sizeOf_15 (by decide) rfl (fun c_15 => ?_) (fun c_15 => absurd c_15 (by decide))
  refine zi_aload_n 25 dX11_sizeOf_24 rfl rfl ?_
  refine zi_bipush (v := 10) 27 dX11_sizeOf_25 (by decide) rfl ?_
  refine zc_virtual (n' := (0, 0)) (md' := mX11_begins) 30 dX11_sizeOf_27 tw_1016 zv_X11_begins zcl_X11 (s_X11_begins B h D hD _ N0.1 _ (n) hC (by omega)) N0.1.1 rfl rfl rfl rfl rfl rfl rfl rfl (zk_v fun h1 n1 => ?_)
  have N1 := rN_t N0 n1
  refine zi_aload_n 31 dX11_sizeOf_30 rfl rfl ?_
  refine zi_iconst (v := 0) 32 dX11_sizeOf_31 (by decide) rfl ?_
  refine zc_virtual (n' := (0, 0)) (md' := mX11_norm4) 35 dX11_sizeOf_32 tw_948 zv_X11_norm4 zcl_X11 (s_X11_norm4 B h1 D hD _ N1.1 0 (by omega)) N1.1.1 rfl rfl rfl rfl rfl rfl rfl rfl (zk_f ?_)
  rw [show zNm (ro (wR _) 0) = lN (nN P) from (congrArg zNm hP).trans (nN_z hV)]
  refine zi_ldc2 38 dX11_sizeOf_35 tw_1020 rfl ?_
  refine zi_lrem 39 dX11_sizeOf_38 (by decide) rfl ?_
  rw [show (1000003 : Int64) = lN 1000003 from rfl, pk_lRem (nN_63 hV) (by decide) (by decide)]
  refine zi_l2i 40 dX11_sizeOf_39 rfl ?_
  rw [lN_i]
  refine zi_iload_n 41 dX11_sizeOf_40 rfl rfl ?_
  refine zi_iconst (v := 3) 42 dX11_sizeOf_41 (by decide) rfl ?_
  refine zi_icmp_ne 45 49 dX11_sizeOf_42 (by decide) rfl (fun c_42 => ?_) (fun c_42 => absurd c_42 (by decide))
  refine zi_iconst (v := 0) 50 dX11_sizeOf_49 (by decide) rfl ?_
  refine zi_iadd 51 dX11_sizeOf_50 rfl ?_
  exact zr_int hZ dX11_sizeOf_51 rfl rfl ⟨_, rfl, Int32.add_zero _, N1⟩

set_option maxHeartbeats 4000000 in
set_option maxRecDepth 100000 in
theorem s_X11_sizeOf1 (B : zBB) (h : zHp) (D : Nat → Nat) (hD : zInj D) (m : mS) (M : rM B D m h) (n : Nat) (hC : wC m = nI n) (hn : n + 2 ≤ 16) (P : i4) (hV : i4V P) (hP : ro (wR m) 0 = z4i P) : zSpec mX11_sizeOf B (1, 0, 0) [.ref (D 0), .int 1] h (zPi (fun x h' => x = nI (sizeV 1 (nN P)) ∧ rN B D (trA m n (sizeT 1)) h h')) := by
  refine zSpec.of (by decide) (Nat.le_of_ble_eq_true rfl) (fun X hZ => ?_)
  show zG X mX11_sizeOf B (1, 0, 0) (0, 0) 0 [(0, .ref (D 0)), (1, .int 1)] [] h
  have N0 := rN_r M
  refine zi_iload_n 1 dX11_sizeOf_0 rfl rfl ?_
  refine zi_iconst (v := 4) 2 dX11_sizeOf_1 (by decide) rfl ?_
  refine zi_icmp_ne 5 13 dX11_sizeOf_2 (by decide) rfl (fun c_2 => ?_) (fun c_2 => absurd c_2 (by decide))
  refine zi_iload_n 14 dX11_sizeOf_13 rfl rfl ?_
  refine zi_iconst (v := 3) 15 dX11_sizeOf_14 (by decide) rfl ?_
  refine zi_icmp_ne 18 24 dX11_sizeOf_15 (by decide) rfl (fun c_15 => ?_) (fun c_15 => absurd c_15 (by decide))
  refine zi_aload_n 25 dX11_sizeOf_24 rfl rfl ?_
  refine zi_bipush (v := 10) 27 dX11_sizeOf_25 (by decide) rfl ?_
  refine zc_virtual (n' := (0, 0)) (md' := mX11_begins) 30 dX11_sizeOf_27 tw_1016 zv_X11_begins zcl_X11 (s_X11_begins B h D hD _ N0.1 _ (n) hC (by omega)) N0.1.1 rfl rfl rfl rfl rfl rfl rfl rfl (zk_v fun h1 n1 => ?_)
  have N1 := rN_t N0 n1
  refine zi_aload_n 31 dX11_sizeOf_30 rfl rfl ?_
  refine zi_iconst (v := 0) 32 dX11_sizeOf_31 (by decide) rfl ?_
  refine zc_virtual (n' := (0, 0)) (md' := mX11_norm4) 35 dX11_sizeOf_32 tw_948 zv_X11_norm4 zcl_X11 (s_X11_norm4 B h1 D hD _ N1.1 0 (by omega)) N1.1.1 rfl rfl rfl rfl rfl rfl rfl rfl (zk_f ?_)
  rw [show zNm (ro (wR _) 0) = lN (nN P) from (congrArg zNm hP).trans (nN_z hV)]
  refine zi_ldc2 38 dX11_sizeOf_35 tw_1020 rfl ?_
  refine zi_lrem 39 dX11_sizeOf_38 (by decide) rfl ?_
  rw [show (1000003 : Int64) = lN 1000003 from rfl, pk_lRem (nN_63 hV) (by decide) (by decide)]
  refine zi_l2i 40 dX11_sizeOf_39 rfl ?_
  rw [lN_i]
  refine zi_iload_n 41 dX11_sizeOf_40 rfl rfl ?_
  refine zi_iconst (v := 3) 42 dX11_sizeOf_41 (by decide) rfl ?_
  refine zi_icmp_ne 45 49 dX11_sizeOf_42 (by decide) rfl (fun c_42 => ?_) (fun c_42 => absurd c_42 (by decide))
  refine zi_iconst (v := 0) 50 dX11_sizeOf_49 (by decide) rfl ?_
  refine zi_iadd 51 dX11_sizeOf_50 rfl ?_
  exact zr_int hZ dX11_sizeOf_51 rfl rfl ⟨_, rfl, Int32.add_zero _, N1⟩

set_option maxHeartbeats 4000000 in
set_option maxRecDepth 100000 in
theorem s_X11_sizeOf2 (B : zBB) (h : zHp) (D : Nat → Nat) (hD : zInj D) (m : mS) (M : rM B D m h) (n : Nat) (hC : wC m = nI n) (hn : n + 2 ≤ 16) (P : i4) (hV : i4V P) (hP : ro (wR m) 0 = z4i P) : zSpec mX11_sizeOf B (1, 0, 0) [.ref (D 0), .int 2] h (zPi (fun x h' => x = nI (sizeV 2 (nN P)) ∧ rN B D (trA m n (sizeT 2)) h h')) := by
  refine zSpec.of (by decide) (Nat.le_of_ble_eq_true rfl) (fun X hZ => ?_)
  show zG X mX11_sizeOf B (1, 0, 0) (0, 0) 0 [(0, .ref (D 0)), (1, .int 2)] [] h
  have N0 := rN_r M
  refine zi_iload_n 1 dX11_sizeOf_0 rfl rfl ?_
  refine zi_iconst (v := 4) 2 dX11_sizeOf_1 (by decide) rfl ?_
  refine zi_icmp_ne 5 13 dX11_sizeOf_2 (by decide) rfl (fun c_2 => ?_) (fun c_2 => absurd c_2 (by decide))
  refine zi_iload_n 14 dX11_sizeOf_13 rfl rfl ?_
  refine zi_iconst (v := 3) 15 dX11_sizeOf_14 (by decide) rfl ?_
  refine zi_icmp_ne 18 24 dX11_sizeOf_15 (by decide) rfl (fun c_15 => ?_) (fun c_15 => absurd c_15 (by decide))
  refine zi_aload_n 25 dX11_sizeOf_24 rfl rfl ?_
  refine zi_bipush (v := 10) 27 dX11_sizeOf_25 (by decide) rfl ?_
  refine zc_virtual (n' := (0, 0)) (md' := mX11_begins) 30 dX11_sizeOf_27 tw_1016 zv_X11_begins zcl_X11 (s_X11_begins B h D hD _ N0.1 _ (n) hC (by omega)) N0.1.1 rfl rfl rfl rfl rfl rfl rfl rfl (zk_v fun h1 n1 => ?_)
  have N1 := rN_t N0 n1
  refine zi_aload_n 31 dX11_sizeOf_30 rfl rfl ?_
  refine zi_iconst (v := 0) 32 dX11_sizeOf_31 (by decide) rfl ?_
  refine zc_virtual (n' := (0, 0)) (md' := mX11_norm4) 35 dX11_sizeOf_32 tw_948 zv_X11_norm4 zcl_X11 (s_X11_norm4 B h1 D hD _ N1.1 0 (by omega)) N1.1.1 rfl rfl rfl rfl rfl rfl rfl rfl (zk_f ?_)
  rw [show zNm (ro (wR _) 0) = lN (nN P) from (congrArg zNm hP).trans (nN_z hV)]
  refine zi_ldc2 38 dX11_sizeOf_35 tw_1020 rfl ?_
  refine zi_lrem 39 dX11_sizeOf_38 (by decide) rfl ?_
  rw [show (1000003 : Int64) = lN 1000003 from rfl, pk_lRem (nN_63 hV) (by decide) (by decide)]
  refine zi_l2i 40 dX11_sizeOf_39 rfl ?_
  rw [lN_i]
  refine zi_iload_n 41 dX11_sizeOf_40 rfl rfl ?_
  refine zi_iconst (v := 3) 42 dX11_sizeOf_41 (by decide) rfl ?_
  refine zi_icmp_ne 45 49 dX11_sizeOf_42 (by decide) rfl (fun c_42 => ?_) (fun c_42 => absurd c_42 (by decide))
  refine zi_iconst (v := 0) 50 dX11_sizeOf_49 (by decide) rfl ?_
  refine zi_iadd 51 dX11_sizeOf_50 rfl ?_
  exact zr_int hZ dX11_sizeOf_51 rfl rfl ⟨_, rfl, Int32.add_zero _, N1⟩

set_option maxHeartbeats 4000000 in
set_option maxRecDepth 100000 in
theorem s_X11_sizeOf3 (B : zBB) (h : zHp) (D : Nat → Nat) (hD : zInj D) (m : mS) (M : rM B D m h) (n : Nat) (hC : wC m = nI n) (hn : n + 2 ≤ 16) (P : i4) (hV : i4V P) (hP : ro (wR m) 0 = z4i P) : zSpec mX11_sizeOf B (1, 0, 0) [.ref (D 0), .int 3] h (zPi (fun x h' => x = nI (sizeV 3 (nN P)) ∧ rN B D (trA m n (sizeT 3)) h h')) := by
  refine zSpec.of (by decide) (Nat.le_of_ble_eq_true rfl) (fun X hZ => ?_)
  show zG X mX11_sizeOf B (1, 0, 0) (0, 0) 0 [(0, .ref (D 0)), (1, .int 3)] [] h
  have N0 := rN_r M
  refine zi_iload_n 1 dX11_sizeOf_0 rfl rfl ?_
  refine zi_iconst (v := 4) 2 dX11_sizeOf_1 (by decide) rfl ?_
  refine zi_icmp_ne 5 13 dX11_sizeOf_2 (by decide) rfl (fun c_2 => ?_) (fun c_2 => absurd c_2 (by decide))
  refine zi_iload_n 14 dX11_sizeOf_13 rfl rfl ?_
  refine zi_iconst (v := 3) 15 dX11_sizeOf_14 (by decide) rfl ?_
  refine zi_icmp_ne 18 24 dX11_sizeOf_15 (by decide) rfl (fun c_15 => absurd c_15 (by decide)) (fun c_15 => ?_)
  refine zi_aload_n 19 dX11_sizeOf_18 rfl rfl ?_
  refine zi_bipush (v := 12) 21 dX11_sizeOf_19 (by decide) rfl ?_
  refine zc_virtual (n' := (0, 0)) (md' := mX11_begins) 24 dX11_sizeOf_21 tw_1016 zv_X11_begins zcl_X11 (s_X11_begins B h D hD _ N0.1 _ (n) hC (by omega)) N0.1.1 rfl rfl rfl rfl rfl rfl rfl rfl (zk_v fun h1 n1 => ?_)
  have N1 := rN_t N0 n1
  refine zi_aload_n 25 dX11_sizeOf_24 rfl rfl ?_
  refine zi_bipush (v := 10) 27 dX11_sizeOf_25 (by decide) rfl ?_
  refine zc_virtual (n' := (0, 0)) (md' := mX11_begins) 30 dX11_sizeOf_27 tw_1016 zv_X11_begins zcl_X11 (s_X11_begins B h1 D hD _ N1.1 _ (n + 1) rfl (by omega)) N1.1.1 rfl rfl rfl rfl rfl rfl rfl rfl (zk_v fun h2 n2 => ?_)
  have N2 := rN_t N1 n2
  refine zi_aload_n 31 dX11_sizeOf_30 rfl rfl ?_
  refine zi_iconst (v := 0) 32 dX11_sizeOf_31 (by decide) rfl ?_
  refine zc_virtual (n' := (0, 0)) (md' := mX11_norm4) 35 dX11_sizeOf_32 tw_948 zv_X11_norm4 zcl_X11 (s_X11_norm4 B h2 D hD _ N2.1 0 (by omega)) N2.1.1 rfl rfl rfl rfl rfl rfl rfl rfl (zk_f ?_)
  rw [show zNm (ro (wR _) 0) = lN (nN P) from (congrArg zNm hP).trans (nN_z hV)]
  refine zi_ldc2 38 dX11_sizeOf_35 tw_1020 rfl ?_
  refine zi_lrem 39 dX11_sizeOf_38 (by decide) rfl ?_
  rw [show (1000003 : Int64) = lN 1000003 from rfl, pk_lRem (nN_63 hV) (by decide) (by decide)]
  refine zi_l2i 40 dX11_sizeOf_39 rfl ?_
  rw [lN_i]
  refine zi_iload_n 41 dX11_sizeOf_40 rfl rfl ?_
  refine zi_iconst (v := 3) 42 dX11_sizeOf_41 (by decide) rfl ?_
  refine zi_icmp_ne 45 49 dX11_sizeOf_42 (by decide) rfl (fun c_42 => absurd c_42 (by decide)) (fun c_42 => ?_)
  refine zi_iconst (v := 2) 46 dX11_sizeOf_45 (by decide) rfl ?_
  refine zi_goto 50 dX11_sizeOf_46 (by decide) ?_
  refine zi_iadd 51 dX11_sizeOf_50 rfl ?_
  exact zr_int hZ dX11_sizeOf_51 rfl rfl ⟨_, rfl, nI_ad _ 2, N2⟩

set_option maxHeartbeats 4000000 in
set_option maxRecDepth 100000 in
theorem s_X11_sizeOf4 (B : zBB) (h : zHp) (D : Nat → Nat) (hD : zInj D) (m : mS) (M : rM B D m h) (n : Nat) (hC : wC m = nI n) (hn : n + 2 ≤ 16) (P : i4) (hV : i4V P) (hP : ro (wR m) 0 = z4i P) : zSpec mX11_sizeOf B (1, 0, 0) [.ref (D 0), .int 4] h (zPi (fun x h' => x = nI (sizeV 4 (nN P)) ∧ rN B D (trA m n (sizeT 4)) h h')) := by
  refine zSpec.of (by decide) (Nat.le_of_ble_eq_true rfl) (fun X hZ => ?_)
  show zG X mX11_sizeOf B (1, 0, 0) (0, 0) 0 [(0, .ref (D 0)), (1, .int 4)] [] h
  have N0 := rN_r M
  refine zi_iload_n 1 dX11_sizeOf_0 rfl rfl ?_
  refine zi_iconst (v := 4) 2 dX11_sizeOf_1 (by decide) rfl ?_
  refine zi_icmp_ne 5 13 dX11_sizeOf_2 (by decide) rfl (fun c_2 => absurd c_2 (by decide)) (fun c_2 => ?_)
  refine zi_aload_n 6 dX11_sizeOf_5 rfl rfl ?_
  refine zi_bipush (v := 11) 8 dX11_sizeOf_6 (by decide) rfl ?_
  refine zc_virtual (n' := (0, 0)) (md' := mX11_begins) 11 dX11_sizeOf_8 tw_1016 zv_X11_begins zcl_X11 (s_X11_begins B h D hD _ N0.1 _ (n) hC (by omega)) N0.1.1 rfl rfl rfl rfl rfl rfl rfl rfl (zk_v fun h1 n1 => ?_)
  have N1 := rN_t N0 n1
  refine zi_iconst (v := 1) 12 dX11_sizeOf_11 (by decide) rfl ?_
  exact zr_int hZ dX11_sizeOf_12 rfl rfl ⟨_, rfl, rfl, N1⟩

set_option maxHeartbeats 4000000 in
set_option maxRecDepth 100000 in
theorem s_X11_share0 (B : zBB) (h : zHp) (D : Nat → Nat) (hD : zInj D) (m : mS) (M : rM B D m h) (n : Nat) (hC : wC m = nI n) (hn : n + 6 ≤ 16) (P : i4) (hV : i4V P) (hP : ro (wR m) 0 = z4i P) : zSpec mX11_share B (2, 0, 0) [.ref (D 0), .int 0] h (zPi (fun x h' => x = nI (shareV 0 (nN P)) ∧ rN B D (trA m n (shareT 0)) h h')) := by
  refine zSpec.of (by decide) (Nat.le_of_ble_eq_true rfl) (fun X hZ => ?_)
  show zG X mX11_share B (2, 0, 0) (0, 0) 0 [(0, .ref (D 0)), (1, .int 0)] [] h
  have N0 := rN_r M
  refine zi_iload_n 1 dX11_share_0 rfl rfl ?_
  refine zi_iconst (v := 1) 2 dX11_share_1 (by decide) rfl ?_
  refine zi_icmp_ne 5 11 dX11_share_2 (by decide) rfl (fun c_2 => ?_) (fun c_2 => absurd c_2 (by decide))
  refine zi_iload_n 12 dX11_share_11 rfl rfl ?_
  refine zi_iconst (v := 4) 13 dX11_share_12 (by decide) rfl ?_
  refine zi_icmp_ne 16 22 dX11_share_13 (by decide) rfl (fun c_13 => ?_) (fun c_13 => absurd c_13 (by decide))
  refine zi_iload_n 23 dX11_share_22 rfl rfl ?_
  refine zi_iconst (v := 1) 24 dX11_share_23 (by decide) rfl ?_
  refine zi_icmp_le 27 33 dX11_share_24 (by decide) rfl (fun c_24 => ?_) (fun c_24 => absurd c_24 (by decide))
  refine zi_aload_n 34 dX11_share_33 rfl rfl ?_
  refine zi_bipush (v := 20) 36 dX11_share_34 (by decide) rfl ?_
  refine zc_virtual (n' := (0, 0)) (md' := mX11_begins) 39 dX11_share_36 tw_1016 zv_X11_begins zcl_X11 (s_X11_begins B h D hD _ N0.1 _ (n) hC (by omega)) N0.1.1 rfl rfl rfl rfl rfl rfl rfl rfl (zk_v fun h1 n1 => ?_)
  have N1 := rN_t N0 n1
  refine zi_iload_n 40 dX11_share_39 rfl rfl ?_
  refine zi_iconst (v := 1) 41 dX11_share_40 (by decide) rfl ?_
  refine zi_icmp_le 44 55 dX11_share_41 (by decide) rfl (fun c_41 => ?_) (fun c_41 => absurd c_41 (by decide))
  refine zi_bipush (v := 24) 57 dX11_share_55 (by decide) rfl ?_
  refine zi_istore_n (lv' := [(2, _), (0, _), (1, _)]) 58 dX11_share_57 rfl rfl rfl ?_
  refine zi_iload_n 59 dX11_share_58 rfl rfl ?_
  refine zi_iconst (v := 1) 60 dX11_share_59 (by decide) rfl ?_
  refine zi_icmp_ne 63 69 dX11_share_60 (by decide) rfl (fun c_60 => ?_) (fun c_60 => absurd c_60 (by decide))
  refine zi_iload_n 70 dX11_share_69 rfl rfl ?_
  refine zi_iconst (v := 4) 71 dX11_share_70 (by decide) rfl ?_
  refine zi_icmp_ne 74 80 dX11_share_71 (by decide) rfl (fun c_71 => ?_) (fun c_71 => absurd c_71 (by decide))
  refine zi_iload_n 81 dX11_share_80 rfl rfl ?_
  exact zr_int hZ dX11_share_81 rfl rfl ⟨_, rfl, rfl, N1⟩

set_option maxHeartbeats 4000000 in
set_option maxRecDepth 100000 in
theorem s_X11_share1 (B : zBB) (h : zHp) (D : Nat → Nat) (hD : zInj D) (m : mS) (M : rM B D m h) (n : Nat) (hC : wC m = nI n) (hn : n + 6 ≤ 16) (P : i4) (hV : i4V P) (hP : ro (wR m) 0 = z4i P) : zSpec mX11_share B (2, 0, 0) [.ref (D 0), .int 1] h (zPi (fun x h' => x = nI (shareV 1 (nN P)) ∧ rN B D (trA m n (shareT 1)) h h')) := by
  refine zSpec.of (by decide) (Nat.le_of_ble_eq_true rfl) (fun X hZ => ?_)
  show zG X mX11_share B (2, 0, 0) (0, 0) 0 [(0, .ref (D 0)), (1, .int 1)] [] h
  have N0 := rN_r M
  refine zi_iload_n 1 dX11_share_0 rfl rfl ?_
  refine zi_iconst (v := 1) 2 dX11_share_1 (by decide) rfl ?_
  refine zi_icmp_ne 5 11 dX11_share_2 (by decide) rfl (fun c_2 => absurd c_2 (by decide)) (fun c_2 => ?_)
  refine zi_aload_n 6 dX11_share_5 rfl rfl ?_
  refine zi_bipush (v := 21) 8 dX11_share_6 (by decide) rfl ?_
  refine zc_virtual (n' := (0, 0)) (md' := mX11_begins) 11 dX11_share_8 tw_1016 zv_X11_begins zcl_X11 (s_X11_begins B h D hD _ N0.1 _ (n) hC (by omega)) N0.1.1 rfl rfl rfl rfl rfl rfl rfl rfl (zk_v fun h1 n1 => ?_)
  have N1 := rN_t N0 n1
  refine zi_iload_n 12 dX11_share_11 rfl rfl ?_
  refine zi_iconst (v := 4) 13 dX11_share_12 (by decide) rfl ?_
  refine zi_icmp_ne 16 22 dX11_share_13 (by decide) rfl (fun c_13 => ?_) (fun c_13 => absurd c_13 (by decide))
  refine zi_iload_n 23 dX11_share_22 rfl rfl ?_
  refine zi_iconst (v := 1) 24 dX11_share_23 (by decide) rfl ?_
  refine zi_icmp_le 27 33 dX11_share_24 (by decide) rfl (fun c_24 => ?_) (fun c_24 => absurd c_24 (by decide))
  refine zi_aload_n 34 dX11_share_33 rfl rfl ?_
  refine zi_bipush (v := 20) 36 dX11_share_34 (by decide) rfl ?_
  refine zc_virtual (n' := (0, 0)) (md' := mX11_begins) 39 dX11_share_36 tw_1016 zv_X11_begins zcl_X11 (s_X11_begins B h1 D hD _ N1.1 _ (n + 1) rfl (by omega)) N1.1.1 rfl rfl rfl rfl rfl rfl rfl rfl (zk_v fun h2 n2 => ?_)
  have N2 := rN_t N1 n2
  refine zi_iload_n 40 dX11_share_39 rfl rfl ?_
  refine zi_iconst (v := 1) 41 dX11_share_40 (by decide) rfl ?_
  refine zi_icmp_le 44 55 dX11_share_41 (by decide) rfl (fun c_41 => ?_) (fun c_41 => absurd c_41 (by decide))
  refine zi_bipush (v := 24) 57 dX11_share_55 (by decide) rfl ?_
  refine zi_istore_n (lv' := [(2, _), (0, _), (1, _)]) 58 dX11_share_57 rfl rfl rfl ?_
  refine zi_iload_n 59 dX11_share_58 rfl rfl ?_
  refine zi_iconst (v := 1) 60 dX11_share_59 (by decide) rfl ?_
  refine zi_icmp_ne 63 69 dX11_share_60 (by decide) rfl (fun c_60 => absurd c_60 (by decide)) (fun c_60 => ?_)
  refine zi_iload_n 64 dX11_share_63 rfl rfl ?_
  refine zi_iconst (v := 2) 65 dX11_share_64 (by decide) rfl ?_
  refine zi_idiv 66 dX11_share_65 (by decide) rfl ?_
  refine zi_goto 81 dX11_share_66 (by decide) ?_
  exact zr_int hZ dX11_share_81 rfl rfl ⟨_, rfl, rfl, N2⟩

set_option maxHeartbeats 4000000 in
set_option maxRecDepth 100000 in
theorem s_X11_share2 (B : zBB) (h : zHp) (D : Nat → Nat) (hD : zInj D) (m : mS) (M : rM B D m h) (n : Nat) (hC : wC m = nI n) (hn : n + 6 ≤ 16) (P : i4) (hV : i4V P) (hP : ro (wR m) 0 = z4i P) : zSpec mX11_share B (2, 0, 0) [.ref (D 0), .int 2] h (zPi (fun x h' => x = nI (shareV 2 (nN P)) ∧ rN B D (trA m n (shareT 2)) h h')) := by
  refine zSpec.of (by decide) (Nat.le_of_ble_eq_true rfl) (fun X hZ => ?_)
  show zG X mX11_share B (2, 0, 0) (0, 0) 0 [(0, .ref (D 0)), (1, .int 2)] [] h
  have N0 := rN_r M
  refine zi_iload_n 1 dX11_share_0 rfl rfl ?_
  refine zi_iconst (v := 1) 2 dX11_share_1 (by decide) rfl ?_
  refine zi_icmp_ne 5 11 dX11_share_2 (by decide) rfl (fun c_2 => ?_) (fun c_2 => absurd c_2 (by decide))
  refine zi_iload_n 12 dX11_share_11 rfl rfl ?_
  refine zi_iconst (v := 4) 13 dX11_share_12 (by decide) rfl ?_
  refine zi_icmp_ne 16 22 dX11_share_13 (by decide) rfl (fun c_13 => ?_) (fun c_13 => absurd c_13 (by decide))
  refine zi_iload_n 23 dX11_share_22 rfl rfl ?_
  refine zi_iconst (v := 1) 24 dX11_share_23 (by decide) rfl ?_
  refine zi_icmp_le 27 33 dX11_share_24 (by decide) rfl (fun c_24 => absurd c_24 (by decide)) (fun c_24 => ?_)
  refine zi_aload_n 28 dX11_share_27 rfl rfl ?_
  refine zi_bipush (v := 22) 30 dX11_share_28 (by decide) rfl ?_
  refine zc_virtual (n' := (0, 0)) (md' := mX11_begins) 33 dX11_share_30 tw_1016 zv_X11_begins zcl_X11 (s_X11_begins B h D hD _ N0.1 _ (n) hC (by omega)) N0.1.1 rfl rfl rfl rfl rfl rfl rfl rfl (zk_v fun h1 n1 => ?_)
  have N1 := rN_t N0 n1
  refine zi_aload_n 34 dX11_share_33 rfl rfl ?_
  refine zi_bipush (v := 20) 36 dX11_share_34 (by decide) rfl ?_
  refine zc_virtual (n' := (0, 0)) (md' := mX11_begins) 39 dX11_share_36 tw_1016 zv_X11_begins zcl_X11 (s_X11_begins B h1 D hD _ N1.1 _ (n + 1) rfl (by omega)) N1.1.1 rfl rfl rfl rfl rfl rfl rfl rfl (zk_v fun h2 n2 => ?_)
  have N2 := rN_t N1 n2
  refine zi_iload_n 40 dX11_share_39 rfl rfl ?_
  refine zi_iconst (v := 1) 41 dX11_share_40 (by decide) rfl ?_
  refine zi_icmp_le 44 55 dX11_share_41 (by decide) rfl (fun c_41 => absurd c_41 (by decide)) (fun c_41 => ?_)
  refine zi_bipush (v := 24) 46 dX11_share_44 (by decide) rfl ?_
  refine zi_aload_n 47 dX11_share_46 rfl rfl ?_
  refine zi_iload_n 48 dX11_share_47 rfl rfl ?_
  refine zc_virtual (n' := (0, 0)) (md' := mX11_sizeOf) 51 dX11_share_48 tw_1012 zv_X11_sizeOf zcl_X11 (s_X11_sizeOf2 B h2 D hD _ N2.1 (n + 2) rfl (by omega) P hV hP) N2.1.1 rfl rfl rfl rfl rfl rfl rfl rfl (zk_i fun x3 h3 p3 => ?_)
  obtain ⟨rfl, n3⟩ := p3
  have N3 := rN_t N2 n3
  refine zi_iadd 52 dX11_share_51 rfl ?_
  refine zi_goto 57 dX11_share_52 (by decide) ?_
  refine zi_istore_n (lv' := [(2, _), (0, _), (1, _)]) 58 dX11_share_57 rfl rfl rfl ?_
  refine zi_iload_n 59 dX11_share_58 rfl rfl ?_
  refine zi_iconst (v := 1) 60 dX11_share_59 (by decide) rfl ?_
  refine zi_icmp_ne 63 69 dX11_share_60 (by decide) rfl (fun c_60 => ?_) (fun c_60 => absurd c_60 (by decide))
  refine zi_iload_n 70 dX11_share_69 rfl rfl ?_
  refine zi_iconst (v := 4) 71 dX11_share_70 (by decide) rfl ?_
  refine zi_icmp_ne 74 80 dX11_share_71 (by decide) rfl (fun c_71 => ?_) (fun c_71 => absurd c_71 (by decide))
  refine zi_iload_n 81 dX11_share_80 rfl rfl ?_
  exact zr_int hZ dX11_share_81 rfl rfl ⟨_, rfl, nI_ad 24 _, N3⟩

set_option maxHeartbeats 4000000 in
set_option maxRecDepth 100000 in
theorem s_X11_share3 (B : zBB) (h : zHp) (D : Nat → Nat) (hD : zInj D) (m : mS) (M : rM B D m h) (n : Nat) (hC : wC m = nI n) (hn : n + 6 ≤ 16) (P : i4) (hV : i4V P) (hP : ro (wR m) 0 = z4i P) : zSpec mX11_share B (2, 0, 0) [.ref (D 0), .int 3] h (zPi (fun x h' => x = nI (shareV 3 (nN P)) ∧ rN B D (trA m n (shareT 3)) h h')) := by
  refine zSpec.of (by decide) (Nat.le_of_ble_eq_true rfl) (fun X hZ => ?_)
  show zG X mX11_share B (2, 0, 0) (0, 0) 0 [(0, .ref (D 0)), (1, .int 3)] [] h
  have N0 := rN_r M
  refine zi_iload_n 1 dX11_share_0 rfl rfl ?_
  refine zi_iconst (v := 1) 2 dX11_share_1 (by decide) rfl ?_
  refine zi_icmp_ne 5 11 dX11_share_2 (by decide) rfl (fun c_2 => ?_) (fun c_2 => absurd c_2 (by decide))
  refine zi_iload_n 12 dX11_share_11 rfl rfl ?_
  refine zi_iconst (v := 4) 13 dX11_share_12 (by decide) rfl ?_
  refine zi_icmp_ne 16 22 dX11_share_13 (by decide) rfl (fun c_13 => ?_) (fun c_13 => absurd c_13 (by decide))
  refine zi_iload_n 23 dX11_share_22 rfl rfl ?_
  refine zi_iconst (v := 1) 24 dX11_share_23 (by decide) rfl ?_
  refine zi_icmp_le 27 33 dX11_share_24 (by decide) rfl (fun c_24 => absurd c_24 (by decide)) (fun c_24 => ?_)
  refine zi_aload_n 28 dX11_share_27 rfl rfl ?_
  refine zi_bipush (v := 22) 30 dX11_share_28 (by decide) rfl ?_
  refine zc_virtual (n' := (0, 0)) (md' := mX11_begins) 33 dX11_share_30 tw_1016 zv_X11_begins zcl_X11 (s_X11_begins B h D hD _ N0.1 _ (n) hC (by omega)) N0.1.1 rfl rfl rfl rfl rfl rfl rfl rfl (zk_v fun h1 n1 => ?_)
  have N1 := rN_t N0 n1
  refine zi_aload_n 34 dX11_share_33 rfl rfl ?_
  refine zi_bipush (v := 20) 36 dX11_share_34 (by decide) rfl ?_
  refine zc_virtual (n' := (0, 0)) (md' := mX11_begins) 39 dX11_share_36 tw_1016 zv_X11_begins zcl_X11 (s_X11_begins B h1 D hD _ N1.1 _ (n + 1) rfl (by omega)) N1.1.1 rfl rfl rfl rfl rfl rfl rfl rfl (zk_v fun h2 n2 => ?_)
  have N2 := rN_t N1 n2
  refine zi_iload_n 40 dX11_share_39 rfl rfl ?_
  refine zi_iconst (v := 1) 41 dX11_share_40 (by decide) rfl ?_
  refine zi_icmp_le 44 55 dX11_share_41 (by decide) rfl (fun c_41 => absurd c_41 (by decide)) (fun c_41 => ?_)
  refine zi_bipush (v := 24) 46 dX11_share_44 (by decide) rfl ?_
  refine zi_aload_n 47 dX11_share_46 rfl rfl ?_
  refine zi_iload_n 48 dX11_share_47 rfl rfl ?_
  refine zc_virtual (n' := (0, 0)) (md' := mX11_sizeOf) 51 dX11_share_48 tw_1012 zv_X11_sizeOf zcl_X11 (s_X11_sizeOf3 B h2 D hD _ N2.1 (n + 2) rfl (by omega) P hV hP) N2.1.1 rfl rfl rfl rfl rfl rfl rfl rfl (zk_i fun x3 h3 p3 => ?_)
  obtain ⟨rfl, n3⟩ := p3
  have N3 := rN_t N2 n3
  refine zi_iadd 52 dX11_share_51 rfl ?_
  refine zi_goto 57 dX11_share_52 (by decide) ?_
  refine zi_istore_n (lv' := [(2, _), (0, _), (1, _)]) 58 dX11_share_57 rfl rfl rfl ?_
  refine zi_iload_n 59 dX11_share_58 rfl rfl ?_
  refine zi_iconst (v := 1) 60 dX11_share_59 (by decide) rfl ?_
  refine zi_icmp_ne 63 69 dX11_share_60 (by decide) rfl (fun c_60 => ?_) (fun c_60 => absurd c_60 (by decide))
  refine zi_iload_n 70 dX11_share_69 rfl rfl ?_
  refine zi_iconst (v := 4) 71 dX11_share_70 (by decide) rfl ?_
  refine zi_icmp_ne 74 80 dX11_share_71 (by decide) rfl (fun c_71 => ?_) (fun c_71 => absurd c_71 (by decide))
  refine zi_iload_n 81 dX11_share_80 rfl rfl ?_
  exact zr_int hZ dX11_share_81 rfl rfl ⟨_, rfl, nI_ad 24 _, N3⟩

set_option maxHeartbeats 4000000 in
set_option maxRecDepth 100000 in
theorem s_X11_share4 (B : zBB) (h : zHp) (D : Nat → Nat) (hD : zInj D) (m : mS) (M : rM B D m h) (n : Nat) (hC : wC m = nI n) (hn : n + 6 ≤ 16) (P : i4) (hV : i4V P) (hP : ro (wR m) 0 = z4i P) : zSpec mX11_share B (2, 0, 0) [.ref (D 0), .int 4] h (zPi (fun x h' => x = nI (shareV 4 (nN P)) ∧ rN B D (trA m n (shareT 4)) h h')) := by
  refine zSpec.of (by decide) (Nat.le_of_ble_eq_true rfl) (fun X hZ => ?_)
  show zG X mX11_share B (2, 0, 0) (0, 0) 0 [(0, .ref (D 0)), (1, .int 4)] [] h
  have N0 := rN_r M
  refine zi_iload_n 1 dX11_share_0 rfl rfl ?_
  refine zi_iconst (v := 1) 2 dX11_share_1 (by decide) rfl ?_
  refine zi_icmp_ne 5 11 dX11_share_2 (by decide) rfl (fun c_2 => ?_) (fun c_2 => absurd c_2 (by decide))
  refine zi_iload_n 12 dX11_share_11 rfl rfl ?_
  refine zi_iconst (v := 4) 13 dX11_share_12 (by decide) rfl ?_
  refine zi_icmp_ne 16 22 dX11_share_13 (by decide) rfl (fun c_13 => absurd c_13 (by decide)) (fun c_13 => ?_)
  refine zi_aload_n 17 dX11_share_16 rfl rfl ?_
  refine zi_bipush (v := 23) 19 dX11_share_17 (by decide) rfl ?_
  refine zc_virtual (n' := (0, 0)) (md' := mX11_begins) 22 dX11_share_19 tw_1016 zv_X11_begins zcl_X11 (s_X11_begins B h D hD _ N0.1 _ (n) hC (by omega)) N0.1.1 rfl rfl rfl rfl rfl rfl rfl rfl (zk_v fun h1 n1 => ?_)
  have N1 := rN_t N0 n1
  refine zi_iload_n 23 dX11_share_22 rfl rfl ?_
  refine zi_iconst (v := 1) 24 dX11_share_23 (by decide) rfl ?_
  refine zi_icmp_le 27 33 dX11_share_24 (by decide) rfl (fun c_24 => absurd c_24 (by decide)) (fun c_24 => ?_)
  refine zi_aload_n 28 dX11_share_27 rfl rfl ?_
  refine zi_bipush (v := 22) 30 dX11_share_28 (by decide) rfl ?_
  refine zc_virtual (n' := (0, 0)) (md' := mX11_begins) 33 dX11_share_30 tw_1016 zv_X11_begins zcl_X11 (s_X11_begins B h1 D hD _ N1.1 _ (n + 1) rfl (by omega)) N1.1.1 rfl rfl rfl rfl rfl rfl rfl rfl (zk_v fun h2 n2 => ?_)
  have N2 := rN_t N1 n2
  refine zi_aload_n 34 dX11_share_33 rfl rfl ?_
  refine zi_bipush (v := 20) 36 dX11_share_34 (by decide) rfl ?_
  refine zc_virtual (n' := (0, 0)) (md' := mX11_begins) 39 dX11_share_36 tw_1016 zv_X11_begins zcl_X11 (s_X11_begins B h2 D hD _ N2.1 _ (n + 2) rfl (by omega)) N2.1.1 rfl rfl rfl rfl rfl rfl rfl rfl (zk_v fun h3 n3 => ?_)
  have N3 := rN_t N2 n3
  refine zi_iload_n 40 dX11_share_39 rfl rfl ?_
  refine zi_iconst (v := 1) 41 dX11_share_40 (by decide) rfl ?_
  refine zi_icmp_le 44 55 dX11_share_41 (by decide) rfl (fun c_41 => absurd c_41 (by decide)) (fun c_41 => ?_)
  refine zi_bipush (v := 24) 46 dX11_share_44 (by decide) rfl ?_
  refine zi_aload_n 47 dX11_share_46 rfl rfl ?_
  refine zi_iload_n 48 dX11_share_47 rfl rfl ?_
  refine zc_virtual (n' := (0, 0)) (md' := mX11_sizeOf) 51 dX11_share_48 tw_1012 zv_X11_sizeOf zcl_X11 (s_X11_sizeOf4 B h3 D hD _ N3.1 (n + 3) rfl (by omega) P hV hP) N3.1.1 rfl rfl rfl rfl rfl rfl rfl rfl (zk_i fun x4 h4 p4 => ?_)
  obtain ⟨rfl, n4⟩ := p4
  have N4 := rN_t N3 n4
  refine zi_iadd 52 dX11_share_51 rfl ?_
  refine zi_goto 57 dX11_share_52 (by decide) ?_
  refine zi_istore_n (lv' := [(2, _), (0, _), (1, _)]) 58 dX11_share_57 rfl rfl rfl ?_
  refine zi_iload_n 59 dX11_share_58 rfl rfl ?_
  refine zi_iconst (v := 1) 60 dX11_share_59 (by decide) rfl ?_
  refine zi_icmp_ne 63 69 dX11_share_60 (by decide) rfl (fun c_60 => ?_) (fun c_60 => absurd c_60 (by decide))
  refine zi_iload_n 70 dX11_share_69 rfl rfl ?_
  refine zi_iconst (v := 4) 71 dX11_share_70 (by decide) rfl ?_
  refine zi_icmp_ne 74 80 dX11_share_71 (by decide) rfl (fun c_71 => absurd c_71 (by decide)) (fun c_71 => ?_)
  refine zi_iload_n 75 dX11_share_74 rfl rfl ?_
  refine zi_iconst (v := 5) 76 dX11_share_75 (by decide) rfl ?_
  refine zi_idiv 77 dX11_share_76 (by decide) rfl ?_
  refine zi_goto 81 dX11_share_77 (by decide) ?_
  exact zr_int hZ dX11_share_81 rfl rfl ⟨_, rfl, (by rw [shareV, if_pos rfl, show sizeV 4 (nN P) = 1 from rfl]; decide), N4⟩

theorem tm_B (S : Int) : -9223372036854775808 ≤ S.tmod 97 + 97 ∧ S.tmod 97 + 97 < 9223372036854775808 := by
  have h1 := Int.tmod_lt_of_pos S (show (0 : Int) < 97 by decide)
  have h2 := Int.lt_tmod_of_pos S (show (0 : Int) < 97 by decide)
  omega
theorem tm_P (S : Int) : -9223372036854775808 < S.tmod 97 + 97 := by
  have h2 := Int.lt_tmod_of_pos S (show (0 : Int) < 97 by decide)
  omega

set_option maxHeartbeats 4000000 in
set_option maxRecDepth 100000 in
theorem s_X11_mark0 (B : zBB) (h : zHp) (D : Nat → Nat) (hD : zInj D) (m : mS) (M : rM B D m h) (n : Nat) (hC : wC m = nI n) (hn : n + 6 ≤ 16) (P : i4) (hV : i4V P) (hP : ro (wR m) 0 = z4i P) : zSpec mX11_mark B (1, 0, 0) [.ref (D 0), .int 0] h (zPi (fun x h' => x = nI (markV 0 (mkI P)) ∧ rN B D (trA m n (markT 0)) h h')) := by
  refine zSpec.of (by decide) (Nat.le_of_ble_eq_true rfl) (fun X hZ => ?_)
  show zG X mX11_mark B (1, 0, 0) (0, 0) 0 [(0, .ref (D 0)), (1, .int 0)] [] h
  have N0 := rN_r M
  have e0 : wR m 0 = iz P.1 := congrArg (fun v : z4 => v.1) hP
  have e1 : wR m 1 = iz P.2.1 := congrArg (fun v : z4 => v.2.1) hP
  have e2 : wR m 2 = iz P.2.2.1 := congrArg (fun v : z4 => v.2.2.1) hP
  have e3 : wR m 3 = iz P.2.2.2 := congrArg (fun v : z4 => v.2.2.2) hP
  have eS : iz P.1 + iz P.2.1 + iz P.2.2.1 + iz P.2.2.2 = iz (P.1 + P.2.1 + P.2.2.1 + P.2.2.2) := by rw [iz_add, iz_add, iz_add]
  have bS := mk_b hV
  refine zi_iload_n 1 dX11_mark_0 rfl rfl ?_
  refine zi_iconst (v := 3) 2 dX11_mark_1 (by decide) rfl ?_
  refine zi_icmp_ne 5 11 dX11_mark_2 (by decide) rfl (fun c_2 => ?_) (fun c_2 => absurd c_2 (by decide))
  refine zi_iload_n 12 dX11_mark_11 rfl rfl ?_
  refine zi_iconst (v := 1) 13 dX11_mark_12 (by decide) rfl ?_
  refine zi_icmp_le 16 22 dX11_mark_13 (by decide) rfl (fun c_13 => ?_) (fun c_13 => absurd c_13 (by decide))
  refine zi_aload_n 23 dX11_mark_22 rfl rfl ?_
  refine zi_bipush (v := 30) 25 dX11_mark_23 (by decide) rfl ?_
  refine zc_virtual (n' := (0, 0)) (md' := mX11_begins) 28 dX11_mark_25 tw_1016 zv_X11_begins zcl_X11 (s_X11_begins B h D hD _ N0.1 _ (n) hC (by omega)) N0.1.1 rfl rfl rfl rfl rfl rfl rfl rfl (zk_v fun h1 n1 => ?_)
  have N1 := rN_t N0 n1
  refine zi_aload_n 29 dX11_mark_28 rfl rfl ?_
  refine zi_getfield 32 9 dX11_mark_29 zcl_X11 tw_872 rfl rfl N1.1.1 rfl rfl ?_
  refine zi_iconst (v := 0) 33 dX11_mark_32 (by decide) rfl ?_
  refine zi_laload 34 dX11_mark_33 N1.1.2.2.2.2.2.2.2.2.1 (vp_in_nI (show 0 < 80 by decide) (by decide)) rfl ?_
  rw [show Int32.toNatClampNeg 0 = 0 from rfl]
  rw [show wR _ 0 = iz P.1 from e0]
  refine zi_aload_n 35 dX11_mark_34 rfl rfl ?_
  refine zi_getfield 38 9 dX11_mark_35 zcl_X11 tw_872 rfl rfl N1.1.1 rfl rfl ?_
  refine zi_iconst (v := 1) 39 dX11_mark_38 (by decide) rfl ?_
  refine zi_laload 40 dX11_mark_39 N1.1.2.2.2.2.2.2.2.2.1 (vp_in_nI (show 1 < 80 by decide) (by decide)) rfl ?_
  rw [show Int32.toNatClampNeg 1 = 1 from rfl]
  rw [show wR _ 1 = iz P.2.1 from e1]
  refine zi_ladd 41 dX11_mark_40 rfl ?_
  refine zi_aload_n 42 dX11_mark_41 rfl rfl ?_
  refine zi_getfield 45 9 dX11_mark_42 zcl_X11 tw_872 rfl rfl N1.1.1 rfl rfl ?_
  refine zi_iconst (v := 2) 46 dX11_mark_45 (by decide) rfl ?_
  refine zi_laload 47 dX11_mark_46 N1.1.2.2.2.2.2.2.2.2.1 (vp_in_nI (show 2 < 80 by decide) (by decide)) rfl ?_
  rw [show Int32.toNatClampNeg 2 = 2 from rfl]
  rw [show wR _ 2 = iz P.2.2.1 from e2]
  refine zi_ladd 48 dX11_mark_47 rfl ?_
  refine zi_aload_n 49 dX11_mark_48 rfl rfl ?_
  refine zi_getfield 52 9 dX11_mark_49 zcl_X11 tw_872 rfl rfl N1.1.1 rfl rfl ?_
  refine zi_iconst (v := 3) 53 dX11_mark_52 (by decide) rfl ?_
  refine zi_laload 54 dX11_mark_53 N1.1.2.2.2.2.2.2.2.2.1 (vp_in_nI (show 3 < 80 by decide) (by decide)) rfl ?_
  rw [show Int32.toNatClampNeg 3 = 3 from rfl]
  rw [show wR _ 3 = iz P.2.2.2 from e3]
  refine zi_ladd 55 dX11_mark_54 rfl ?_
  rw [eS]
  refine zi_lstore_n (lv' := [(2, _), (0, _), (1, _)]) 56 dX11_mark_55 rfl rfl rfl ?_
  refine zi_lload_n 57 dX11_mark_56 rfl rfl ?_
  refine zi_ldc2 60 dX11_mark_57 tw_1029 rfl ?_
  refine zi_lrem 61 dX11_mark_60 (by decide) rfl ?_
  rw [show (97 : Int64) = iz 97 from rfl, iz_rem (by omega) (by decide) (by omega)]
  refine zi_ldc2 64 dX11_mark_61 tw_1029 rfl ?_
  refine zi_ladd 65 dX11_mark_64 rfl ?_
  rw [show (97 : Int64) = iz 97 from rfl, iz_add]
  refine zi_ldc2 68 dX11_mark_65 tw_1029 rfl ?_
  refine zi_lrem 69 dX11_mark_68 (by decide) rfl ?_
  rw [show (97 : Int64) = iz 97 from rfl, iz_rem (tm_B _) (by decide) (tm_P _), mk_tm]
  refine zi_l2i 70 dX11_mark_69 rfl ?_
  rw [mk_z hV]
  refine zi_istore (lv' := [(4, _), (2, _), (0, _), (1, _)]) 72 dX11_mark_70 rfl rfl rfl ?_
  refine zi_iload_n 73 dX11_mark_72 rfl rfl ?_
  refine zi_iconst (v := 1) 74 dX11_mark_73 (by decide) rfl ?_
  refine zi_icmp_le 77 84 dX11_mark_74 (by decide) rfl (fun c_74 => ?_) (fun c_74 => absurd c_74 (by decide))
  refine zi_iload 86 dX11_mark_84 rfl rfl ?_
  refine zi_iload_n 87 dX11_mark_86 rfl rfl ?_
  refine zi_iconst (v := 3) 88 dX11_mark_87 (by decide) rfl ?_
  refine zi_icmp_ne 91 95 dX11_mark_88 (by decide) rfl (fun c_88 => ?_) (fun c_88 => absurd c_88 (by decide))
  refine zi_iconst (v := 0) 96 dX11_mark_95 (by decide) rfl ?_
  refine zi_iadd 97 dX11_mark_96 rfl ?_
  exact zr_int hZ dX11_mark_97 rfl rfl ⟨_, rfl, Int32.add_zero _, N1⟩

set_option maxHeartbeats 4000000 in
set_option maxRecDepth 100000 in
theorem s_X11_mark1 (B : zBB) (h : zHp) (D : Nat → Nat) (hD : zInj D) (m : mS) (M : rM B D m h) (n : Nat) (hC : wC m = nI n) (hn : n + 6 ≤ 16) (P : i4) (hV : i4V P) (hP : ro (wR m) 0 = z4i P) : zSpec mX11_mark B (1, 0, 0) [.ref (D 0), .int 1] h (zPi (fun x h' => x = nI (markV 1 (mkI P)) ∧ rN B D (trA m n (markT 1)) h h')) := by
  refine zSpec.of (by decide) (Nat.le_of_ble_eq_true rfl) (fun X hZ => ?_)
  show zG X mX11_mark B (1, 0, 0) (0, 0) 0 [(0, .ref (D 0)), (1, .int 1)] [] h
  have N0 := rN_r M
  have e0 : wR m 0 = iz P.1 := congrArg (fun v : z4 => v.1) hP
  have e1 : wR m 1 = iz P.2.1 := congrArg (fun v : z4 => v.2.1) hP
  have e2 : wR m 2 = iz P.2.2.1 := congrArg (fun v : z4 => v.2.2.1) hP
  have e3 : wR m 3 = iz P.2.2.2 := congrArg (fun v : z4 => v.2.2.2) hP
  have eS : iz P.1 + iz P.2.1 + iz P.2.2.1 + iz P.2.2.2 = iz (P.1 + P.2.1 + P.2.2.1 + P.2.2.2) := by rw [iz_add, iz_add, iz_add]
  have bS := mk_b hV
  refine zi_iload_n 1 dX11_mark_0 rfl rfl ?_
  refine zi_iconst (v := 3) 2 dX11_mark_1 (by decide) rfl ?_
  refine zi_icmp_ne 5 11 dX11_mark_2 (by decide) rfl (fun c_2 => ?_) (fun c_2 => absurd c_2 (by decide))
  refine zi_iload_n 12 dX11_mark_11 rfl rfl ?_
  refine zi_iconst (v := 1) 13 dX11_mark_12 (by decide) rfl ?_
  refine zi_icmp_le 16 22 dX11_mark_13 (by decide) rfl (fun c_13 => ?_) (fun c_13 => absurd c_13 (by decide))
  refine zi_aload_n 23 dX11_mark_22 rfl rfl ?_
  refine zi_bipush (v := 30) 25 dX11_mark_23 (by decide) rfl ?_
  refine zc_virtual (n' := (0, 0)) (md' := mX11_begins) 28 dX11_mark_25 tw_1016 zv_X11_begins zcl_X11 (s_X11_begins B h D hD _ N0.1 _ (n) hC (by omega)) N0.1.1 rfl rfl rfl rfl rfl rfl rfl rfl (zk_v fun h1 n1 => ?_)
  have N1 := rN_t N0 n1
  refine zi_aload_n 29 dX11_mark_28 rfl rfl ?_
  refine zi_getfield 32 9 dX11_mark_29 zcl_X11 tw_872 rfl rfl N1.1.1 rfl rfl ?_
  refine zi_iconst (v := 0) 33 dX11_mark_32 (by decide) rfl ?_
  refine zi_laload 34 dX11_mark_33 N1.1.2.2.2.2.2.2.2.2.1 (vp_in_nI (show 0 < 80 by decide) (by decide)) rfl ?_
  rw [show Int32.toNatClampNeg 0 = 0 from rfl]
  rw [show wR _ 0 = iz P.1 from e0]
  refine zi_aload_n 35 dX11_mark_34 rfl rfl ?_
  refine zi_getfield 38 9 dX11_mark_35 zcl_X11 tw_872 rfl rfl N1.1.1 rfl rfl ?_
  refine zi_iconst (v := 1) 39 dX11_mark_38 (by decide) rfl ?_
  refine zi_laload 40 dX11_mark_39 N1.1.2.2.2.2.2.2.2.2.1 (vp_in_nI (show 1 < 80 by decide) (by decide)) rfl ?_
  rw [show Int32.toNatClampNeg 1 = 1 from rfl]
  rw [show wR _ 1 = iz P.2.1 from e1]
  refine zi_ladd 41 dX11_mark_40 rfl ?_
  refine zi_aload_n 42 dX11_mark_41 rfl rfl ?_
  refine zi_getfield 45 9 dX11_mark_42 zcl_X11 tw_872 rfl rfl N1.1.1 rfl rfl ?_
  refine zi_iconst (v := 2) 46 dX11_mark_45 (by decide) rfl ?_
  refine zi_laload 47 dX11_mark_46 N1.1.2.2.2.2.2.2.2.2.1 (vp_in_nI (show 2 < 80 by decide) (by decide)) rfl ?_
  rw [show Int32.toNatClampNeg 2 = 2 from rfl]
  rw [show wR _ 2 = iz P.2.2.1 from e2]
  refine zi_ladd 48 dX11_mark_47 rfl ?_
  refine zi_aload_n 49 dX11_mark_48 rfl rfl ?_
  refine zi_getfield 52 9 dX11_mark_49 zcl_X11 tw_872 rfl rfl N1.1.1 rfl rfl ?_
  refine zi_iconst (v := 3) 53 dX11_mark_52 (by decide) rfl ?_
  refine zi_laload 54 dX11_mark_53 N1.1.2.2.2.2.2.2.2.2.1 (vp_in_nI (show 3 < 80 by decide) (by decide)) rfl ?_
  rw [show Int32.toNatClampNeg 3 = 3 from rfl]
  rw [show wR _ 3 = iz P.2.2.2 from e3]
  refine zi_ladd 55 dX11_mark_54 rfl ?_
  rw [eS]
  refine zi_lstore_n (lv' := [(2, _), (0, _), (1, _)]) 56 dX11_mark_55 rfl rfl rfl ?_
  refine zi_lload_n 57 dX11_mark_56 rfl rfl ?_
  refine zi_ldc2 60 dX11_mark_57 tw_1029 rfl ?_
  refine zi_lrem 61 dX11_mark_60 (by decide) rfl ?_
  rw [show (97 : Int64) = iz 97 from rfl, iz_rem (by omega) (by decide) (by omega)]
  refine zi_ldc2 64 dX11_mark_61 tw_1029 rfl ?_
  refine zi_ladd 65 dX11_mark_64 rfl ?_
  rw [show (97 : Int64) = iz 97 from rfl, iz_add]
  refine zi_ldc2 68 dX11_mark_65 tw_1029 rfl ?_
  refine zi_lrem 69 dX11_mark_68 (by decide) rfl ?_
  rw [show (97 : Int64) = iz 97 from rfl, iz_rem (tm_B _) (by decide) (tm_P _), mk_tm]
  refine zi_l2i 70 dX11_mark_69 rfl ?_
  rw [mk_z hV]
  refine zi_istore (lv' := [(4, _), (2, _), (0, _), (1, _)]) 72 dX11_mark_70 rfl rfl rfl ?_
  refine zi_iload_n 73 dX11_mark_72 rfl rfl ?_
  refine zi_iconst (v := 1) 74 dX11_mark_73 (by decide) rfl ?_
  refine zi_icmp_le 77 84 dX11_mark_74 (by decide) rfl (fun c_74 => ?_) (fun c_74 => absurd c_74 (by decide))
  refine zi_iload 86 dX11_mark_84 rfl rfl ?_
  refine zi_iload_n 87 dX11_mark_86 rfl rfl ?_
  refine zi_iconst (v := 3) 88 dX11_mark_87 (by decide) rfl ?_
  refine zi_icmp_ne 91 95 dX11_mark_88 (by decide) rfl (fun c_88 => ?_) (fun c_88 => absurd c_88 (by decide))
  refine zi_iconst (v := 0) 96 dX11_mark_95 (by decide) rfl ?_
  refine zi_iadd 97 dX11_mark_96 rfl ?_
  exact zr_int hZ dX11_mark_97 rfl rfl ⟨_, rfl, Int32.add_zero _, N1⟩

set_option maxHeartbeats 4000000 in
set_option maxRecDepth 100000 in
theorem s_X11_mark2 (B : zBB) (h : zHp) (D : Nat → Nat) (hD : zInj D) (m : mS) (M : rM B D m h) (n : Nat) (hC : wC m = nI n) (hn : n + 6 ≤ 16) (P : i4) (hV : i4V P) (hP : ro (wR m) 0 = z4i P) : zSpec mX11_mark B (1, 0, 0) [.ref (D 0), .int 2] h (zPi (fun x h' => x = nI (markV 2 (mkI P)) ∧ rN B D (trA m n (markT 2)) h h')) := by
  refine zSpec.of (by decide) (Nat.le_of_ble_eq_true rfl) (fun X hZ => ?_)
  show zG X mX11_mark B (1, 0, 0) (0, 0) 0 [(0, .ref (D 0)), (1, .int 2)] [] h
  have N0 := rN_r M
  have e0 : wR m 0 = iz P.1 := congrArg (fun v : z4 => v.1) hP
  have e1 : wR m 1 = iz P.2.1 := congrArg (fun v : z4 => v.2.1) hP
  have e2 : wR m 2 = iz P.2.2.1 := congrArg (fun v : z4 => v.2.2.1) hP
  have e3 : wR m 3 = iz P.2.2.2 := congrArg (fun v : z4 => v.2.2.2) hP
  have eS : iz P.1 + iz P.2.1 + iz P.2.2.1 + iz P.2.2.2 = iz (P.1 + P.2.1 + P.2.2.1 + P.2.2.2) := by rw [iz_add, iz_add, iz_add]
  have bS := mk_b hV
  refine zi_iload_n 1 dX11_mark_0 rfl rfl ?_
  refine zi_iconst (v := 3) 2 dX11_mark_1 (by decide) rfl ?_
  refine zi_icmp_ne 5 11 dX11_mark_2 (by decide) rfl (fun c_2 => ?_) (fun c_2 => absurd c_2 (by decide))
  refine zi_iload_n 12 dX11_mark_11 rfl rfl ?_
  refine zi_iconst (v := 1) 13 dX11_mark_12 (by decide) rfl ?_
  refine zi_icmp_le 16 22 dX11_mark_13 (by decide) rfl (fun c_13 => absurd c_13 (by decide)) (fun c_13 => ?_)
  refine zi_aload_n 17 dX11_mark_16 rfl rfl ?_
  refine zi_bipush (v := 31) 19 dX11_mark_17 (by decide) rfl ?_
  refine zc_virtual (n' := (0, 0)) (md' := mX11_begins) 22 dX11_mark_19 tw_1016 zv_X11_begins zcl_X11 (s_X11_begins B h D hD _ N0.1 _ (n) hC (by omega)) N0.1.1 rfl rfl rfl rfl rfl rfl rfl rfl (zk_v fun h1 n1 => ?_)
  have N1 := rN_t N0 n1
  refine zi_aload_n 23 dX11_mark_22 rfl rfl ?_
  refine zi_bipush (v := 30) 25 dX11_mark_23 (by decide) rfl ?_
  refine zc_virtual (n' := (0, 0)) (md' := mX11_begins) 28 dX11_mark_25 tw_1016 zv_X11_begins zcl_X11 (s_X11_begins B h1 D hD _ N1.1 _ (n + 1) rfl (by omega)) N1.1.1 rfl rfl rfl rfl rfl rfl rfl rfl (zk_v fun h2 n2 => ?_)
  have N2 := rN_t N1 n2
  refine zi_aload_n 29 dX11_mark_28 rfl rfl ?_
  refine zi_getfield 32 9 dX11_mark_29 zcl_X11 tw_872 rfl rfl N2.1.1 rfl rfl ?_
  refine zi_iconst (v := 0) 33 dX11_mark_32 (by decide) rfl ?_
  refine zi_laload 34 dX11_mark_33 N2.1.2.2.2.2.2.2.2.2.1 (vp_in_nI (show 0 < 80 by decide) (by decide)) rfl ?_
  rw [show Int32.toNatClampNeg 0 = 0 from rfl]
  rw [show wR _ 0 = iz P.1 from e0]
  refine zi_aload_n 35 dX11_mark_34 rfl rfl ?_
  refine zi_getfield 38 9 dX11_mark_35 zcl_X11 tw_872 rfl rfl N2.1.1 rfl rfl ?_
  refine zi_iconst (v := 1) 39 dX11_mark_38 (by decide) rfl ?_
  refine zi_laload 40 dX11_mark_39 N2.1.2.2.2.2.2.2.2.2.1 (vp_in_nI (show 1 < 80 by decide) (by decide)) rfl ?_
  rw [show Int32.toNatClampNeg 1 = 1 from rfl]
  rw [show wR _ 1 = iz P.2.1 from e1]
  refine zi_ladd 41 dX11_mark_40 rfl ?_
  refine zi_aload_n 42 dX11_mark_41 rfl rfl ?_
  refine zi_getfield 45 9 dX11_mark_42 zcl_X11 tw_872 rfl rfl N2.1.1 rfl rfl ?_
  refine zi_iconst (v := 2) 46 dX11_mark_45 (by decide) rfl ?_
  refine zi_laload 47 dX11_mark_46 N2.1.2.2.2.2.2.2.2.2.1 (vp_in_nI (show 2 < 80 by decide) (by decide)) rfl ?_
  rw [show Int32.toNatClampNeg 2 = 2 from rfl]
  rw [show wR _ 2 = iz P.2.2.1 from e2]
  refine zi_ladd 48 dX11_mark_47 rfl ?_
  refine zi_aload_n 49 dX11_mark_48 rfl rfl ?_
  refine zi_getfield 52 9 dX11_mark_49 zcl_X11 tw_872 rfl rfl N2.1.1 rfl rfl ?_
  refine zi_iconst (v := 3) 53 dX11_mark_52 (by decide) rfl ?_
  refine zi_laload 54 dX11_mark_53 N2.1.2.2.2.2.2.2.2.2.1 (vp_in_nI (show 3 < 80 by decide) (by decide)) rfl ?_
  rw [show Int32.toNatClampNeg 3 = 3 from rfl]
  rw [show wR _ 3 = iz P.2.2.2 from e3]
  refine zi_ladd 55 dX11_mark_54 rfl ?_
  rw [eS]
  refine zi_lstore_n (lv' := [(2, _), (0, _), (1, _)]) 56 dX11_mark_55 rfl rfl rfl ?_
  refine zi_lload_n 57 dX11_mark_56 rfl rfl ?_
  refine zi_ldc2 60 dX11_mark_57 tw_1029 rfl ?_
  refine zi_lrem 61 dX11_mark_60 (by decide) rfl ?_
  rw [show (97 : Int64) = iz 97 from rfl, iz_rem (by omega) (by decide) (by omega)]
  refine zi_ldc2 64 dX11_mark_61 tw_1029 rfl ?_
  refine zi_ladd 65 dX11_mark_64 rfl ?_
  rw [show (97 : Int64) = iz 97 from rfl, iz_add]
  refine zi_ldc2 68 dX11_mark_65 tw_1029 rfl ?_
  refine zi_lrem 69 dX11_mark_68 (by decide) rfl ?_
  rw [show (97 : Int64) = iz 97 from rfl, iz_rem (tm_B _) (by decide) (tm_P _), mk_tm]
  refine zi_l2i 70 dX11_mark_69 rfl ?_
  rw [mk_z hV]
  refine zi_istore (lv' := [(4, _), (2, _), (0, _), (1, _)]) 72 dX11_mark_70 rfl rfl rfl ?_
  refine zi_iload_n 73 dX11_mark_72 rfl rfl ?_
  refine zi_iconst (v := 1) 74 dX11_mark_73 (by decide) rfl ?_
  refine zi_icmp_le 77 84 dX11_mark_74 (by decide) rfl (fun c_74 => absurd c_74 (by decide)) (fun c_74 => ?_)
  refine zi_iconst (v := 2) 78 dX11_mark_77 (by decide) rfl ?_
  refine zi_iload 80 dX11_mark_78 rfl rfl ?_
  refine zi_imul 81 dX11_mark_80 rfl ?_
  refine zi_goto 86 dX11_mark_81 (by decide) ?_
  refine zi_iload_n 87 dX11_mark_86 rfl rfl ?_
  refine zi_iconst (v := 3) 88 dX11_mark_87 (by decide) rfl ?_
  refine zi_icmp_ne 91 95 dX11_mark_88 (by decide) rfl (fun c_88 => ?_) (fun c_88 => absurd c_88 (by decide))
  refine zi_iconst (v := 0) 96 dX11_mark_95 (by decide) rfl ?_
  refine zi_iadd 97 dX11_mark_96 rfl ?_
  exact zr_int hZ dX11_mark_97 rfl rfl ⟨_, rfl, (Int32.add_zero _).trans (ls_m 2 _), N2⟩

set_option maxHeartbeats 4000000 in
set_option maxRecDepth 100000 in
theorem s_X11_mark3 (B : zBB) (h : zHp) (D : Nat → Nat) (hD : zInj D) (m : mS) (M : rM B D m h) (n : Nat) (hC : wC m = nI n) (hn : n + 6 ≤ 16) (P : i4) (hV : i4V P) (hP : ro (wR m) 0 = z4i P) : zSpec mX11_mark B (1, 0, 0) [.ref (D 0), .int 3] h (zPi (fun x h' => x = nI (markV 3 (mkI P)) ∧ rN B D (trA m n (markT 3)) h h')) := by
  refine zSpec.of (by decide) (Nat.le_of_ble_eq_true rfl) (fun X hZ => ?_)
  show zG X mX11_mark B (1, 0, 0) (0, 0) 0 [(0, .ref (D 0)), (1, .int 3)] [] h
  have N0 := rN_r M
  have e0 : wR m 0 = iz P.1 := congrArg (fun v : z4 => v.1) hP
  have e1 : wR m 1 = iz P.2.1 := congrArg (fun v : z4 => v.2.1) hP
  have e2 : wR m 2 = iz P.2.2.1 := congrArg (fun v : z4 => v.2.2.1) hP
  have e3 : wR m 3 = iz P.2.2.2 := congrArg (fun v : z4 => v.2.2.2) hP
  have eS : iz P.1 + iz P.2.1 + iz P.2.2.1 + iz P.2.2.2 = iz (P.1 + P.2.1 + P.2.2.1 + P.2.2.2) := by rw [iz_add, iz_add, iz_add]
  have bS := mk_b hV
  refine zi_iload_n 1 dX11_mark_0 rfl rfl ?_
  refine zi_iconst (v := 3) 2 dX11_mark_1 (by decide) rfl ?_
  refine zi_icmp_ne 5 11 dX11_mark_2 (by decide) rfl (fun c_2 => absurd c_2 (by decide)) (fun c_2 => ?_)
  refine zi_aload_n 6 dX11_mark_5 rfl rfl ?_
  refine zi_bipush (v := 32) 8 dX11_mark_6 (by decide) rfl ?_
  refine zc_virtual (n' := (0, 0)) (md' := mX11_begins) 11 dX11_mark_8 tw_1016 zv_X11_begins zcl_X11 (s_X11_begins B h D hD _ N0.1 _ (n) hC (by omega)) N0.1.1 rfl rfl rfl rfl rfl rfl rfl rfl (zk_v fun h1 n1 => ?_)
  have N1 := rN_t N0 n1
  refine zi_iload_n 12 dX11_mark_11 rfl rfl ?_
  refine zi_iconst (v := 1) 13 dX11_mark_12 (by decide) rfl ?_
  refine zi_icmp_le 16 22 dX11_mark_13 (by decide) rfl (fun c_13 => absurd c_13 (by decide)) (fun c_13 => ?_)
  refine zi_aload_n 17 dX11_mark_16 rfl rfl ?_
  refine zi_bipush (v := 31) 19 dX11_mark_17 (by decide) rfl ?_
  refine zc_virtual (n' := (0, 0)) (md' := mX11_begins) 22 dX11_mark_19 tw_1016 zv_X11_begins zcl_X11 (s_X11_begins B h1 D hD _ N1.1 _ (n + 1) rfl (by omega)) N1.1.1 rfl rfl rfl rfl rfl rfl rfl rfl (zk_v fun h2 n2 => ?_)
  have N2 := rN_t N1 n2
  refine zi_aload_n 23 dX11_mark_22 rfl rfl ?_
  refine zi_bipush (v := 30) 25 dX11_mark_23 (by decide) rfl ?_
  refine zc_virtual (n' := (0, 0)) (md' := mX11_begins) 28 dX11_mark_25 tw_1016 zv_X11_begins zcl_X11 (s_X11_begins B h2 D hD _ N2.1 _ (n + 2) rfl (by omega)) N2.1.1 rfl rfl rfl rfl rfl rfl rfl rfl (zk_v fun h3 n3 => ?_)
  have N3 := rN_t N2 n3
  refine zi_aload_n 29 dX11_mark_28 rfl rfl ?_
  refine zi_getfield 32 9 dX11_mark_29 zcl_X11 tw_872 rfl rfl N3.1.1 rfl rfl ?_
  refine zi_iconst (v := 0) 33 dX11_mark_32 (by decide) rfl ?_
  refine zi_laload 34 dX11_mark_33 N3.1.2.2.2.2.2.2.2.2.1 (vp_in_nI (show 0 < 80 by decide) (by decide)) rfl ?_
  rw [show Int32.toNatClampNeg 0 = 0 from rfl]
  rw [show wR _ 0 = iz P.1 from e0]
  refine zi_aload_n 35 dX11_mark_34 rfl rfl ?_
  refine zi_getfield 38 9 dX11_mark_35 zcl_X11 tw_872 rfl rfl N3.1.1 rfl rfl ?_
  refine zi_iconst (v := 1) 39 dX11_mark_38 (by decide) rfl ?_
  refine zi_laload 40 dX11_mark_39 N3.1.2.2.2.2.2.2.2.2.1 (vp_in_nI (show 1 < 80 by decide) (by decide)) rfl ?_
  rw [show Int32.toNatClampNeg 1 = 1 from rfl]
  rw [show wR _ 1 = iz P.2.1 from e1]
  refine zi_ladd 41 dX11_mark_40 rfl ?_
  refine zi_aload_n 42 dX11_mark_41 rfl rfl ?_
  refine zi_getfield 45 9 dX11_mark_42 zcl_X11 tw_872 rfl rfl N3.1.1 rfl rfl ?_
  refine zi_iconst (v := 2) 46 dX11_mark_45 (by decide) rfl ?_
  refine zi_laload 47 dX11_mark_46 N3.1.2.2.2.2.2.2.2.2.1 (vp_in_nI (show 2 < 80 by decide) (by decide)) rfl ?_
  rw [show Int32.toNatClampNeg 2 = 2 from rfl]
  rw [show wR _ 2 = iz P.2.2.1 from e2]
  refine zi_ladd 48 dX11_mark_47 rfl ?_
  refine zi_aload_n 49 dX11_mark_48 rfl rfl ?_
  refine zi_getfield 52 9 dX11_mark_49 zcl_X11 tw_872 rfl rfl N3.1.1 rfl rfl ?_
  refine zi_iconst (v := 3) 53 dX11_mark_52 (by decide) rfl ?_
  refine zi_laload 54 dX11_mark_53 N3.1.2.2.2.2.2.2.2.2.1 (vp_in_nI (show 3 < 80 by decide) (by decide)) rfl ?_
  rw [show Int32.toNatClampNeg 3 = 3 from rfl]
  rw [show wR _ 3 = iz P.2.2.2 from e3]
  refine zi_ladd 55 dX11_mark_54 rfl ?_
  rw [eS]
  refine zi_lstore_n (lv' := [(2, _), (0, _), (1, _)]) 56 dX11_mark_55 rfl rfl rfl ?_
  refine zi_lload_n 57 dX11_mark_56 rfl rfl ?_
  refine zi_ldc2 60 dX11_mark_57 tw_1029 rfl ?_
  refine zi_lrem 61 dX11_mark_60 (by decide) rfl ?_
  rw [show (97 : Int64) = iz 97 from rfl, iz_rem (by omega) (by decide) (by omega)]
  refine zi_ldc2 64 dX11_mark_61 tw_1029 rfl ?_
  refine zi_ladd 65 dX11_mark_64 rfl ?_
  rw [show (97 : Int64) = iz 97 from rfl, iz_add]
  refine zi_ldc2 68 dX11_mark_65 tw_1029 rfl ?_
  refine zi_lrem 69 dX11_mark_68 (by decide) rfl ?_
  rw [show (97 : Int64) = iz 97 from rfl, iz_rem (tm_B _) (by decide) (tm_P _), mk_tm]
  refine zi_l2i 70 dX11_mark_69 rfl ?_
  rw [mk_z hV]
  refine zi_istore (lv' := [(4, _), (2, _), (0, _), (1, _)]) 72 dX11_mark_70 rfl rfl rfl ?_
  refine zi_iload_n 73 dX11_mark_72 rfl rfl ?_
  refine zi_iconst (v := 1) 74 dX11_mark_73 (by decide) rfl ?_
  refine zi_icmp_le 77 84 dX11_mark_74 (by decide) rfl (fun c_74 => absurd c_74 (by decide)) (fun c_74 => ?_)
  refine zi_iconst (v := 2) 78 dX11_mark_77 (by decide) rfl ?_
  refine zi_iload 80 dX11_mark_78 rfl rfl ?_
  refine zi_imul 81 dX11_mark_80 rfl ?_
  refine zi_goto 86 dX11_mark_81 (by decide) ?_
  refine zi_iload_n 87 dX11_mark_86 rfl rfl ?_
  refine zi_iconst (v := 3) 88 dX11_mark_87 (by decide) rfl ?_
  refine zi_icmp_ne 91 95 dX11_mark_88 (by decide) rfl (fun c_88 => absurd c_88 (by decide)) (fun c_88 => ?_)
  refine zi_iconst (v := 1) 92 dX11_mark_91 (by decide) rfl ?_
  refine zi_goto 96 dX11_mark_92 (by decide) ?_
  refine zi_iadd 97 dX11_mark_96 rfl ?_
  exact zr_int hZ dX11_mark_97 rfl rfl ⟨_, rfl, (congrArg (· + (1 : Int32)) (ls_m 2 _)).trans (nI_ad _ 1), N3⟩

set_option maxHeartbeats 4000000 in
set_option maxRecDepth 100000 in
theorem s_X11_mark4 (B : zBB) (h : zHp) (D : Nat → Nat) (hD : zInj D) (m : mS) (M : rM B D m h) (n : Nat) (hC : wC m = nI n) (hn : n + 6 ≤ 16) (P : i4) (hV : i4V P) (hP : ro (wR m) 0 = z4i P) : zSpec mX11_mark B (1, 0, 0) [.ref (D 0), .int 4] h (zPi (fun x h' => x = nI (markV 4 (mkI P)) ∧ rN B D (trA m n (markT 4)) h h')) := by
  refine zSpec.of (by decide) (Nat.le_of_ble_eq_true rfl) (fun X hZ => ?_)
  show zG X mX11_mark B (1, 0, 0) (0, 0) 0 [(0, .ref (D 0)), (1, .int 4)] [] h
  have N0 := rN_r M
  have e0 : wR m 0 = iz P.1 := congrArg (fun v : z4 => v.1) hP
  have e1 : wR m 1 = iz P.2.1 := congrArg (fun v : z4 => v.2.1) hP
  have e2 : wR m 2 = iz P.2.2.1 := congrArg (fun v : z4 => v.2.2.1) hP
  have e3 : wR m 3 = iz P.2.2.2 := congrArg (fun v : z4 => v.2.2.2) hP
  have eS : iz P.1 + iz P.2.1 + iz P.2.2.1 + iz P.2.2.2 = iz (P.1 + P.2.1 + P.2.2.1 + P.2.2.2) := by rw [iz_add, iz_add, iz_add]
  have bS := mk_b hV
  refine zi_iload_n 1 dX11_mark_0 rfl rfl ?_
  refine zi_iconst (v := 3) 2 dX11_mark_1 (by decide) rfl ?_
  refine zi_icmp_ne 5 11 dX11_mark_2 (by decide) rfl (fun c_2 => ?_) (fun c_2 => absurd c_2 (by decide))
  refine zi_iload_n 12 dX11_mark_11 rfl rfl ?_
  refine zi_iconst (v := 1) 13 dX11_mark_12 (by decide) rfl ?_
  refine zi_icmp_le 16 22 dX11_mark_13 (by decide) rfl (fun c_13 => absurd c_13 (by decide)) (fun c_13 => ?_)
  refine zi_aload_n 17 dX11_mark_16 rfl rfl ?_
  refine zi_bipush (v := 31) 19 dX11_mark_17 (by decide) rfl ?_
  refine zc_virtual (n' := (0, 0)) (md' := mX11_begins) 22 dX11_mark_19 tw_1016 zv_X11_begins zcl_X11 (s_X11_begins B h D hD _ N0.1 _ (n) hC (by omega)) N0.1.1 rfl rfl rfl rfl rfl rfl rfl rfl (zk_v fun h1 n1 => ?_)
  have N1 := rN_t N0 n1
  refine zi_aload_n 23 dX11_mark_22 rfl rfl ?_
  refine zi_bipush (v := 30) 25 dX11_mark_23 (by decide) rfl ?_
  refine zc_virtual (n' := (0, 0)) (md' := mX11_begins) 28 dX11_mark_25 tw_1016 zv_X11_begins zcl_X11 (s_X11_begins B h1 D hD _ N1.1 _ (n + 1) rfl (by omega)) N1.1.1 rfl rfl rfl rfl rfl rfl rfl rfl (zk_v fun h2 n2 => ?_)
  have N2 := rN_t N1 n2
  refine zi_aload_n 29 dX11_mark_28 rfl rfl ?_
  refine zi_getfield 32 9 dX11_mark_29 zcl_X11 tw_872 rfl rfl N2.1.1 rfl rfl ?_
  refine zi_iconst (v := 0) 33 dX11_mark_32 (by decide) rfl ?_
  refine zi_laload 34 dX11_mark_33 N2.1.2.2.2.2.2.2.2.2.1 (vp_in_nI (show 0 < 80 by decide) (by decide)) rfl ?_
  rw [show Int32.toNatClampNeg 0 = 0 from rfl]
  rw [show wR _ 0 = iz P.1 from e0]
  refine zi_aload_n 35 dX11_mark_34 rfl rfl ?_
  refine zi_getfield 38 9 dX11_mark_35 zcl_X11 tw_872 rfl rfl N2.1.1 rfl rfl ?_
  refine zi_iconst (v := 1) 39 dX11_mark_38 (by decide) rfl ?_
  refine zi_laload 40 dX11_mark_39 N2.1.2.2.2.2.2.2.2.2.1 (vp_in_nI (show 1 < 80 by decide) (by decide)) rfl ?_
  rw [show Int32.toNatClampNeg 1 = 1 from rfl]
  rw [show wR _ 1 = iz P.2.1 from e1]
  refine zi_ladd 41 dX11_mark_40 rfl ?_
  refine zi_aload_n 42 dX11_mark_41 rfl rfl ?_
  refine zi_getfield 45 9 dX11_mark_42 zcl_X11 tw_872 rfl rfl N2.1.1 rfl rfl ?_
  refine zi_iconst (v := 2) 46 dX11_mark_45 (by decide) rfl ?_
  refine zi_laload 47 dX11_mark_46 N2.1.2.2.2.2.2.2.2.2.1 (vp_in_nI (show 2 < 80 by decide) (by decide)) rfl ?_
  rw [show Int32.toNatClampNeg 2 = 2 from rfl]
  rw [show wR _ 2 = iz P.2.2.1 from e2]
  refine zi_ladd 48 dX11_mark_47 rfl ?_
  refine zi_aload_n 49 dX11_mark_48 rfl rfl ?_
  refine zi_getfield 52 9 dX11_mark_49 zcl_X11 tw_872 rfl rfl N2.1.1 rfl rfl ?_
  refine zi_iconst (v := 3) 53 dX11_mark_52 (by decide) rfl ?_
  refine zi_laload 54 dX11_mark_53 N2.1.2.2.2.2.2.2.2.2.1 (vp_in_nI (show 3 < 80 by decide) (by decide)) rfl ?_
  rw [show Int32.toNatClampNeg 3 = 3 from rfl]
  rw [show wR _ 3 = iz P.2.2.2 from e3]
  refine zi_ladd 55 dX11_mark_54 rfl ?_
  rw [eS]
  refine zi_lstore_n (lv' := [(2, _), (0, _), (1, _)]) 56 dX11_mark_55 rfl rfl rfl ?_
  refine zi_lload_n 57 dX11_mark_56 rfl rfl ?_
  refine zi_ldc2 60 dX11_mark_57 tw_1029 rfl ?_
  refine zi_lrem 61 dX11_mark_60 (by decide) rfl ?_
  rw [show (97 : Int64) = iz 97 from rfl, iz_rem (by omega) (by decide) (by omega)]
  refine zi_ldc2 64 dX11_mark_61 tw_1029 rfl ?_
  refine zi_ladd 65 dX11_mark_64 rfl ?_
  rw [show (97 : Int64) = iz 97 from rfl, iz_add]
  refine zi_ldc2 68 dX11_mark_65 tw_1029 rfl ?_
  refine zi_lrem 69 dX11_mark_68 (by decide) rfl ?_
  rw [show (97 : Int64) = iz 97 from rfl, iz_rem (tm_B _) (by decide) (tm_P _), mk_tm]
  refine zi_l2i 70 dX11_mark_69 rfl ?_
  rw [mk_z hV]
  refine zi_istore (lv' := [(4, _), (2, _), (0, _), (1, _)]) 72 dX11_mark_70 rfl rfl rfl ?_
  refine zi_iload_n 73 dX11_mark_72 rfl rfl ?_
  refine zi_iconst (v := 1) 74 dX11_mark_73 (by decide) rfl ?_
  refine zi_icmp_le 77 84 dX11_mark_74 (by decide) rfl (fun c_74 => absurd c_74 (by decide)) (fun c_74 => ?_)
  refine zi_iconst (v := 2) 78 dX11_mark_77 (by decide) rfl ?_
  refine zi_iload 80 dX11_mark_78 rfl rfl ?_
  refine zi_imul 81 dX11_mark_80 rfl ?_
  refine zi_goto 86 dX11_mark_81 (by decide) ?_
  refine zi_iload_n 87 dX11_mark_86 rfl rfl ?_
  refine zi_iconst (v := 3) 88 dX11_mark_87 (by decide) rfl ?_
  refine zi_icmp_ne 91 95 dX11_mark_88 (by decide) rfl (fun c_88 => ?_) (fun c_88 => absurd c_88 (by decide))
  refine zi_iconst (v := 0) 96 dX11_mark_95 (by decide) rfl ?_
  refine zi_iadd 97 dX11_mark_96 rfl ?_
  exact zr_int hZ dX11_mark_97 rfl rfl ⟨_, rfl, (Int32.add_zero _).trans (ls_m 2 _), N2⟩
