set_option maxHeartbeats 4000000 in
set_option maxRecDepth 100000 in
theorem s_X3_roundFraction (B : zBB) (h : zHp) (a qn rs fr hv : Nat) (Q0 V0 : z4) (F : i4) (n : Int) (ha : h a = some (zO 3 [.ref qn, .ref rs, .ref fr, .ref hv])) (hq : h qn = some (zFo Q0)) (hf : h fr = some (zFo (z4i F))) (hv0 : h hv = some (zFo V0)) (d1 : qn ≠ hv) (d2 : qn ≠ fr) (d3 : hv ≠ fr) (hn : 0 < n) (hn2 : n ≤ 1000000000) (hF : i4l F 1000000000000000) : zSpec mX3_roundFraction B (2, 0, 0) [.ref a, .long (iz n)] h (zPv (fun h' => ∃ V : z4, h' = zU (zU h hv (zFo V)) qn (zFo (z4i (i4T F n))))) := by
  refine zSpec.of (by decide) (Nat.le_of_ble_eq_true rfl) (fun X hZ => ?_)
  show zG X mX3_roundFraction B (2, 0, 0) (0, 0) 0 [(0, .ref a), (1, .long (iz n))] [] h
  obtain ⟨f1, f2, f3, f4⟩ := id hF
  refine zi_lload_n 1 dX3_roundFraction_0 rfl rfl ?_
  refine zi_lconst (v := 0) 2 dX3_roundFraction_1 (by decide) rfl ?_
  refine zj_ne 6 7 dX3_roundFraction_2 rfl dX3_roundFraction_3 (by decide) rfl (fun c_3 => ?_) (fun c_3 => absurd c_3 (fun e => by rw [iz_0, iz_inj (by omega) (by decide)] at e; omega))
  refine zi_aload_n 8 dX3_roundFraction_7 rfl rfl ?_
  refine zi_getfield 11 2 dX3_roundFraction_8 zcl_X3 tw_146 rfl rfl ha rfl rfl ?_
  refine zi_astore_n (lv' := [(3, _), (0, _), (1, _)]) 12 dX3_roundFraction_11 rfl rfl rfl ?_
  refine zi_aload_n 13 dX3_roundFraction_12 rfl rfl ?_
  refine zi_getfield 16 0 dX3_roundFraction_13 zcl_X3 tw_141 rfl rfl ha rfl rfl ?_
  refine zi_aload_n 17 dX3_roundFraction_16 rfl rfl ?_
  refine zi_getfield 20 0 dX3_roundFraction_17 zcl_X4 tw_105 rfl rfl hf rfl rfl ?_
  refine zi_lload_n 21 dX3_roundFraction_20 rfl rfl ?_
  refine zc_static (n' := (0, 0)) (md' := mX3_nearest) 24 dX3_roundFraction_21 tw_637 zs_X3_nearest (s_X3_nearest B _ _ n hn (by omega) (by omega) (by omega)) rfl rfl rfl rfl rfl rfl rfl rfl (zk_f ?_)
  refine zi_aload_n 25 dX3_roundFraction_24 rfl rfl ?_
  refine zi_getfield 28 1 dX3_roundFraction_25 zcl_X4 tw_110 rfl rfl hf rfl rfl ?_
  refine zi_lload_n 29 dX3_roundFraction_28 rfl rfl ?_
  refine zc_static (n' := (0, 0)) (md' := mX3_nearest) 32 dX3_roundFraction_29 tw_637 zs_X3_nearest (s_X3_nearest B _ _ n hn (by omega) (by omega) (by omega)) rfl rfl rfl rfl rfl rfl rfl rfl (zk_f ?_)
  refine zi_aload_n 33 dX3_roundFraction_32 rfl rfl ?_
  refine zi_getfield 36 2 dX3_roundFraction_33 zcl_X4 tw_115 rfl rfl hf rfl rfl ?_
  refine zi_lload_n 37 dX3_roundFraction_36 rfl rfl ?_
  refine zc_static (n' := (0, 0)) (md' := mX3_nearest) 40 dX3_roundFraction_37 tw_637 zs_X3_nearest (s_X3_nearest B _ _ n hn (by omega) (by omega) (by omega)) rfl rfl rfl rfl rfl rfl rfl rfl (zk_f ?_)
  refine zi_aload_n 41 dX3_roundFraction_40 rfl rfl ?_
  refine zi_getfield 44 3 dX3_roundFraction_41 zcl_X4 tw_120 rfl rfl hf rfl rfl ?_
  refine zi_lload_n 45 dX3_roundFraction_44 rfl rfl ?_
  refine zc_static (n' := (0, 0)) (md' := mX3_nearest) 48 dX3_roundFraction_45 tw_637 zs_X3_nearest (s_X3_nearest B _ _ n hn (by omega) (by omega) (by omega)) rfl rfl rfl rfl rfl rfl rfl rfl (zk_f ?_)
  refine zc_virtual (n' := (0, 0)) (md' := mX4_become) 51 dX3_roundFraction_48 tw_644 zv_X4_become zcl_X4 (s_X4_become B h qn Q0 hq _ _ _ _) hq rfl rfl rfl rfl rfl rfl rfl rfl (zk_u fun h1 hp1 => ?_)
  have ha_1 := zX1 hp1 (zneC ha hq (by simp)) ha
  have hq_1 := zX0 hp1
  have hf_1 := zX1 hp1 (d2.symm) hf
  have hv0_1 := zX1 hp1 (d1.symm) hv0
  refine zi_aload_n 52 dX3_roundFraction_51 rfl rfl ?_
  refine zi_getfield 55 3 dX3_roundFraction_52 zcl_X3 tw_147 rfl rfl ha_1 rfl rfl ?_
  refine zi_aload_n 56 dX3_roundFraction_55 rfl rfl ?_
  refine zi_getfield 59 0 dX3_roundFraction_56 zcl_X4 tw_105 rfl rfl hf_1 rfl rfl ?_
  refine zi_lload_n 60 dX3_roundFraction_59 rfl rfl ?_
  refine zc_static (n' := (0, 0)) (md' := mX3_half) 63 dX3_roundFraction_60 tw_645 zs_X3_half (s_X3_half B _ _ n hn (by omega) (by omega) (by omega)) rfl rfl rfl rfl rfl rfl rfl rfl (zk_f ?_)
  refine zi_aload_n 64 dX3_roundFraction_63 rfl rfl ?_
  refine zi_getfield 67 1 dX3_roundFraction_64 zcl_X4 tw_110 rfl rfl hf_1 rfl rfl ?_
  refine zi_lload_n 68 dX3_roundFraction_67 rfl rfl ?_
  refine zc_static (n' := (0, 0)) (md' := mX3_half) 71 dX3_roundFraction_68 tw_645 zs_X3_half (s_X3_half B _ _ n hn (by omega) (by omega) (by omega)) rfl rfl rfl rfl rfl rfl rfl rfl (zk_f ?_)
  refine zi_aload_n 72 dX3_roundFraction_71 rfl rfl ?_
  refine zi_getfield 75 2 dX3_roundFraction_72 zcl_X4 tw_115 rfl rfl hf_1 rfl rfl ?_
  refine zi_lload_n 76 dX3_roundFraction_75 rfl rfl ?_
  refine zc_static (n' := (0, 0)) (md' := mX3_half) 79 dX3_roundFraction_76 tw_645 zs_X3_half (s_X3_half B _ _ n hn (by omega) (by omega) (by omega)) rfl rfl rfl rfl rfl rfl rfl rfl (zk_f ?_)
  refine zi_aload_n 80 dX3_roundFraction_79 rfl rfl ?_
  refine zi_getfield 83 3 dX3_roundFraction_80 zcl_X4 tw_120 rfl rfl hf_1 rfl rfl ?_
  refine zi_lload_n 84 dX3_roundFraction_83 rfl rfl ?_
  refine zc_static (n' := (0, 0)) (md' := mX3_half) 87 dX3_roundFraction_84 tw_645 zs_X3_half (s_X3_half B _ _ n hn (by omega) (by omega) (by omega)) rfl rfl rfl rfl rfl rfl rfl rfl (zk_f ?_)
  refine zc_virtual (n' := (0, 0)) (md' := mX4_become) 90 dX3_roundFraction_87 tw_644 zv_X4_become zcl_X4 (s_X4_become B h1 hv V0 hv0_1 _ _ _ _) hv0_1 rfl rfl rfl rfl rfl rfl rfl rfl (zk_u fun h2 hp2 => ?_)
  have ha_2 := zX1 hp2 (zneC ha hv0 (by simp)) ha_1
  have hq_2 := zX1 hp2 (d1) hq_1
  have hf_2 := zX1 hp2 (d3.symm) hf_1
  have hv0_2 := zX0 hp2
  refine zi_aload_n 91 dX3_roundFraction_90 rfl rfl ?_
  refine zi_aload_n 92 dX3_roundFraction_91 rfl rfl ?_
  refine zi_getfield 95 0 dX3_roundFraction_92 zcl_X3 tw_141 rfl rfl ha_2 rfl rfl ?_
  refine zi_lload_n 96 dX3_roundFraction_95 rfl rfl ?_
  refine zc_virtual (n' := (0, 0)) (md' := mX3_between) 99 dX3_roundFraction_96 tw_648 zv_X3_between zcl_X3 (s_X3_between B h2 a fr qn qn rs hv (z4i F) (z4i (i4E F n)) ha_2 hf_2 hq_2 (iz n)) ha_2 rfl rfl rfl rfl rfl rfl rfl rfl (zk_f ?_)
  refine zi_aload_n 100 dX3_roundFraction_99 rfl rfl ?_
  refine zi_aload_n 101 dX3_roundFraction_100 rfl rfl ?_
  refine zi_getfield 104 3 dX3_roundFraction_101 zcl_X3 tw_147 rfl rfl ha_2 rfl rfl ?_
  refine zi_lload_n 105 dX3_roundFraction_104 rfl rfl ?_
  refine zc_virtual (n' := (0, 0)) (md' := mX3_between) 108 dX3_roundFraction_105 tw_648 zv_X3_between zcl_X3 (s_X3_between B h2 a fr hv qn rs hv (z4i F) (z4i (i4H F n)) ha_2 hf_2 hv0_2 (iz n)) ha_2 rfl rfl rfl rfl rfl rfl rfl rfl (zk_f ?_)
  rw [zBt_i, zBt_i]
  refine zj_le 112 123 dX3_roundFraction_108 rfl dX3_roundFraction_109 (by decide) rfl (fun zzS => ?_) (fun zzS => ?_)
  ·
    rw [iz_le (zBt_b (zE_b4 hn) hn hn2) (zBt_b (zH_b4 hn) hn hn2)] at zzS
    exact zr_void hZ dX3_roundFraction_123 rfl ⟨rfl, z4i (i4H F n), by first | (rw [hp3, hp2, hp1, zU_c _ _ _ d1, zU_u, i4T, if_pos (by omega)]; rfl) | (rw [hp2, hp1, zU_c _ _ _ d1, i4T, if_neg (by omega)]; rfl)⟩
  ·
    rw [iz_le (zBt_b (zE_b4 hn) hn hn2) (zBt_b (zH_b4 hn) hn hn2)] at zzS
    refine zi_aload_n 113 dX3_roundFraction_112 rfl rfl ?_
    refine zi_getfield 116 0 dX3_roundFraction_113 zcl_X3 tw_141 rfl rfl ha_2 rfl rfl ?_
    refine zi_aload_n 117 dX3_roundFraction_116 rfl rfl ?_
    refine zi_getfield 120 3 dX3_roundFraction_117 zcl_X3 tw_147 rfl rfl ha_2 rfl rfl ?_
    refine zc_virtual (n' := (0, 0)) (md' := mX4_become_) 123 dX3_roundFraction_120 tw_652 zv_X4_become_ zcl_X4 (s_X4_become_ B h2 qn _ hq_2 hv _ hv0_2) hq_2 rfl rfl rfl rfl rfl rfl rfl rfl (zk_u fun h3 hp3 => ?_)
    exact zr_void hZ dX3_roundFraction_123 rfl ⟨rfl, z4i (i4H F n), by first | (rw [hp3, hp2, hp1, zU_c _ _ _ d1, zU_u, i4T, if_pos (by omega)]; rfl) | (rw [hp2, hp1, zU_c _ _ _ d1, i4T, if_neg (by omega)]; rfl)⟩

set_option maxHeartbeats 8000000 in
set_option maxRecDepth 100000 in
theorem l_X3_divide (B : zBB) (h : zHp) (X : zX) (a qn rs fr hv b c : Nat) (Q0 R0 V0 : z4) (P Q : i4) (s : Int32) (h0 : zHp) (F0 : z4) (ha : h a = some (zO 3 [.ref qn, .ref rs, .ref fr, .ref hv])) (hq : h qn = some (zFo Q0)) (hr : h rs = some (zFo R0)) (hf : h fr = some (zFo (z4i (dvU P Q s)))) (hv0 : h hv = some (zFo V0)) (hb : h b = some (zFo (z4i P))) (hc : h c = some (zFo (z4i Q))) (hh : h = zU h0 fr (zFo (z4i (dvU P Q s)))) (d1 : qn ≠ hv) (d2 : qn ≠ fr) (d3 : hv ≠ fr) (d4 : rs ≠ qn) (d5 : rs ≠ fr) (d6 : rs ≠ hv) (b1 : b ≠ qn) (b2 : b ≠ rs) (b3 : b ≠ fr) (b4 : b ≠ hv) (c1 : c ≠ qn) (c2 : c ≠ rs) (c3 : c ≠ fr) (c4 : c ≠ hv) (hok : dvOK P Q) (hZ : zIsP X mX3_divide B (0, 0) (zPv (fun h' => ∃ F V : z4, h' = zU (zU (zU (zU h0 fr (zFo F)) hv (zFo V)) qn (zFo (z4i (dvT P Q s)))) rs (zFo (z4i (dvR P Q s)))))) : zG X mX3_divide B (3, 0, 0) (0, 0) 39 [(0, .ref a), (1, .ref b), (2, .ref c), (3, .int s)] [] h := by
  have hU := dv_U (s := s) hok
  have hn := dv_n (s := s) hok
  have hK := dv_K (s := s) hok
  obtain ⟨hq0, hn0, hn1⟩ := dv_q hok
  have hG0 := dvG_pos (P := P) (s := s) hn0
  have hG1 : dvG P Q s < 9223372036854775808 := gcd_lt (g4_lt hU.2 (by decide)) (by omega)
  have hG : (0 : Int) < dvG P Q s ∧ (dvG P Q s : Int) < 9223372036854775808 := by omega
  refine zi_aload_n 40 dX3_divide_39 rfl rfl ?_
  refine zc_virtual (n' := (0, 0)) (md' := mX4_ownNorm) 43 dX3_divide_40 tw_626 zv_X4_ownNorm zcl_X4 (s_X4_ownNorm B h c _ hc) hc rfl rfl rfl rfl rfl rfl rfl rfl (zk_f ?_)
  rw [z4i_n (by omega)]
  refine zi_lstore (lv' := [(4, _), (0, _), (1, _), (2, _), (3, _)]) 45 dX3_divide_43 rfl rfl rfl ?_
  refine zi_aload_n 46 dX3_divide_45 rfl rfl ?_
  refine zi_getfield 49 2 dX3_divide_46 zcl_X3 tw_146 rfl rfl ha rfl rfl ?_
  refine zc_virtual (n' := (0, 0)) (md' := mX4_numbersDivisor) 52 dX3_divide_49 tw_627 zv_X4_numbersDivisor zcl_X4 (s_X4_numbersDivisor B h fr _ hf (z4i_nm hU.2 (by decide))) hf rfl rfl rfl rfl rfl rfl rfl rfl (zk_f ?_)
  rw [z4i_g hU.2 (by decide)]
  refine zi_lload 54 dX3_divide_52 rfl rfl ?_
  refine zc_staticN (n' := (0, 0)) (md' := mX10_commonDivisor) 57 dX3_divide_54 (by decide) zs_X10_commonDivisor (s_X10_commonDivisor B h _ _ (lN_nm (g4_lt hU.2 (by decide))) (iz_nm (by omega))) rfl rfl rfl rfl rfl rfl rfl rfl (zk_f ?_)
  rw [dv_gcd2 (g4_lt hU.2 (by decide)) (by omega)]
  refine zi_lstore (lv' := [(6, _), (4, _), (0, _), (1, _), (2, _), (3, _)]) 59 dX3_divide_57 rfl rfl rfl ?_
  refine zi_lload 61 dX3_divide_59 rfl rfl ?_
  refine zi_lconst (v := 0) 62 dX3_divide_61 (by decide) rfl ?_
  refine zj_ne 66 67 dX3_divide_62 rfl dX3_divide_63 (by decide) rfl (fun c_63 => ?_) (fun c_63 => absurd c_63 (fun e => by rw [show (0 : Int64) = lN 0 from rfl, pk_lEQ (by omega) (by omega)] at e; omega))
  refine zi_aload_n 68 dX3_divide_67 rfl rfl ?_
  refine zi_getfield 71 2 dX3_divide_68 zcl_X3 tw_146 rfl rfl ha rfl rfl ?_
  refine zi_lload 73 dX3_divide_71 rfl rfl ?_
  refine zc_virtual (n' := (0, 0)) (md' := mX4_divideBy) 76 dX3_divide_73 tw_629 zv_X4_divideBy zcl_X4 (s_X4_divideBy B h fr _ hf (lN (dvG P Q s))) hf rfl rfl rfl rfl rfl rfl rfl rfl (zk_u fun h4 hp4 => ?_)
  rw [if_neg (fun e => by rw [show (0 : Int64) = lN 0 from rfl, pk_lEQ (by omega) (by omega)] at e; omega), dv_d hU.2 hG1] at hp4
  have ha_4 := zX1 hp4 (zneC ha hf (by simp)) ha
  have hq_4 := zX1 hp4 (d2) hq
  have hf_4 := zX0 hp4
  have hv0_4 := zX1 hp4 (d3) hv0
  have hr_4 := zX1 hp4 (d5) hr
  have hb_4 := zX1 hp4 (b3) hb
  have hc_4 := zX1 hp4 (c3) hc
  refine zi_aload_n 77 dX3_divide_76 rfl rfl ?_
  refine zi_lload 79 dX3_divide_77 rfl rfl ?_
  refine zi_lload 81 dX3_divide_79 rfl rfl ?_
  refine zi_ldiv 82 dX3_divide_81 (fun e => by rw [show (0 : Int64) = lN 0 from rfl, pk_lEQ (by omega) (by omega)] at e; omega) rfl ?_
  rw [iz_lN_div hn0 hG]
  refine zc_virtual (n' := (0, 0)) (md' := mX3_roundFraction) 85 dX3_divide_82 tw_633 zv_X3_roundFraction zcl_X3 (s_X3_roundFraction B h4 a qn rs fr hv Q0 V0 (dvu P Q s) (dvn P Q s) ha_4 hq_4 hf_4 hv0_4 d1 d2 d3 hn.1 hn.2.1 hn.2.2) ha_4 rfl rfl rfl rfl rfl rfl rfl rfl (zk_v fun h5 hp5 => ?_)
  obtain ⟨V, hp5⟩ := hp5
  replace hp5 : h5 = zU (zU h4 hv (zFo V)) qn (zFo (z4i (dvT P Q s))) := hp5
  have ha_5 := (congrFun hp5 _).trans ((zU_n _ _ (zneC ha hq (by simp))).trans ((zU_n _ _ (zneC ha hv0 (by simp))).trans ha_4))
  have hq_5 := zX0 hp5
  have hf_5 := (congrFun hp5 _).trans ((zU_n _ _ (d2.symm)).trans ((zU_n _ _ (d3.symm)).trans hf_4))
  have hv0_5 : h5 hv = some (zFo V) := by rw [hp5, zU_n _ _ d1.symm, zU_s]
  have hr_5 := (congrFun hp5 _).trans ((zU_n _ _ (d4)).trans ((zU_n _ _ (d6)).trans hr_4))
  have hb_5 := (congrFun hp5 _).trans ((zU_n _ _ (b1)).trans ((zU_n _ _ (b4)).trans hb_4))
  have hc_5 := (congrFun hp5 _).trans ((zU_n _ _ (c1)).trans ((zU_n _ _ (c4)).trans hc_4))
  refine zi_iload_n 86 dX3_divide_85 rfl rfl ?_
  refine zi_if_ne 89 104 dX3_divide_86 (by decide) rfl (fun zzS => ?_) (fun zzS => ?_)
  ·
    refine zi_aload_n 105 dX3_divide_104 rfl rfl ?_
    refine zi_getfield 108 1 dX3_divide_105 zcl_X3 tw_143 rfl rfl ha_5 rfl rfl ?_
    refine zi_aload_n 109 dX3_divide_108 rfl rfl ?_
    refine zi_getfield 112 0 dX3_divide_109 zcl_X3 tw_141 rfl rfl ha_5 rfl rfl ?_
    refine zi_aload_n 113 dX3_divide_112 rfl rfl ?_
    refine zc_virtual (n' := (0, 0)) (md' := mX4_becomeProduct) 116 dX3_divide_113 tw_625 zv_X4_becomeProduct zcl_X4 (s_X4_becomeProduct B h5 rs _ hr_5 qn _ hq_5 c _ hc_5) hr_5 rfl rfl rfl rfl rfl rfl rfl rfl (zk_u fun h6 hp6 => ?_)
    rw [(if_neg zzS).symm.trans hK.1] at hp6
    have ha_6 := zX1 hp6 (zneC ha hr (by simp)) ha_5
    have hq_6 := zX1 hp6 (d4.symm) hq_5
    have hf_6 := zX1 hp6 (d5.symm) hf_5
    have hv0_6 := zX1 hp6 (d6.symm) hv0_5
    have hr_6 := zX0 hp6
    have hb_6 := zX1 hp6 (b2) hb_5
    have hc_6 := zX1 hp6 (c2) hc_5
    refine zi_aload_n 117 dX3_divide_116 rfl rfl ?_
    refine zi_getfield 120 1 dX3_divide_117 zcl_X3 tw_143 rfl rfl ha_6 rfl rfl ?_
    refine zi_aload_n 121 dX3_divide_120 rfl rfl ?_
    refine zi_aload_n 122 dX3_divide_121 rfl rfl ?_
    refine zi_getfield 125 1 dX3_divide_122 zcl_X3 tw_143 rfl rfl ha_6 rfl rfl ?_
    refine zc_virtual (n' := (0, 0)) (md' := mX4_becomeDifference) 128 dX3_divide_125 tw_653 zv_X4_becomeDifference zcl_X4 (s_X4_becomeDifference B h6 rs _ hr_6 b _ hb_6 rs _ hr_6) hr_6 rfl rfl rfl rfl rfl rfl rfl rfl (zk_u fun h7 hp7 => ?_)
    exact zr_void hZ dX3_divide_128 rfl ⟨rfl, z4i (dvu P Q s), V, by rw [hp7, hp6, hp5, hp4, hh, zU_u, zU_u, z4i_s]; rfl⟩
  ·
    refine zi_aload_n 90 dX3_divide_89 rfl rfl ?_
    refine zi_getfield 93 1 dX3_divide_90 zcl_X3 tw_143 rfl rfl ha_5 rfl rfl ?_
    refine zi_aload_n 94 dX3_divide_93 rfl rfl ?_
    refine zi_aload_n 95 dX3_divide_94 rfl rfl ?_
    refine zi_getfield 98 0 dX3_divide_95 zcl_X3 tw_141 rfl rfl ha_5 rfl rfl ?_
    refine zc_virtual (n' := (0, 0)) (md' := mX4_becomeProduct) 101 dX3_divide_98 tw_625 zv_X4_becomeProduct zcl_X4 (s_X4_becomeProduct B h5 rs _ hr_5 c _ hc_5 qn _ hq_5) hr_5 rfl rfl rfl rfl rfl rfl rfl rfl (zk_u fun h6 hp6 => ?_)
    rw [(if_pos zzS).symm.trans hK.1] at hp6
    have ha_6 := zX1 hp6 (zneC ha hr (by simp)) ha_5
    have hq_6 := zX1 hp6 (d4.symm) hq_5
    have hf_6 := zX1 hp6 (d5.symm) hf_5
    have hv0_6 := zX1 hp6 (d6.symm) hv0_5
    have hr_6 := zX0 hp6
    have hb_6 := zX1 hp6 (b2) hb_5
    have hc_6 := zX1 hp6 (c2) hc_5
    refine zi_goto 116 dX3_divide_101 (by decide) ?_
    refine zi_aload_n 117 dX3_divide_116 rfl rfl ?_
    refine zi_getfield 120 1 dX3_divide_117 zcl_X3 tw_143 rfl rfl ha_6 rfl rfl ?_
    refine zi_aload_n 121 dX3_divide_120 rfl rfl ?_
    refine zi_aload_n 122 dX3_divide_121 rfl rfl ?_
    refine zi_getfield 125 1 dX3_divide_122 zcl_X3 tw_143 rfl rfl ha_6 rfl rfl ?_
    refine zc_virtual (n' := (0, 0)) (md' := mX4_becomeDifference) 128 dX3_divide_125 tw_653 zv_X4_becomeDifference zcl_X4 (s_X4_becomeDifference B h6 rs _ hr_6 b _ hb_6 rs _ hr_6) hr_6 rfl rfl rfl rfl rfl rfl rfl rfl (zk_u fun h7 hp7 => ?_)
    exact zr_void hZ dX3_divide_128 rfl ⟨rfl, z4i (dvu P Q s), V, by rw [hp7, hp6, hp5, hp4, hh, zU_u, zU_u, z4i_s]; rfl⟩

set_option maxHeartbeats 4000000 in
set_option maxRecDepth 100000 in
theorem s_X3_divide (B : zBB) (h : zHp) (a qn rs fr hv b c : Nat) (Q0 R0 F0 V0 : z4) (P Q : i4) (s : Int32) (ha : h a = some (zO 3 [.ref qn, .ref rs, .ref fr, .ref hv])) (hq : h qn = some (zFo Q0)) (hr : h rs = some (zFo R0)) (hf : h fr = some (zFo F0)) (hv0 : h hv = some (zFo V0)) (hb : h b = some (zFo (z4i P))) (hc : h c = some (zFo (z4i Q))) (d1 : qn ≠ hv) (d2 : qn ≠ fr) (d3 : hv ≠ fr) (d4 : rs ≠ qn) (d5 : rs ≠ fr) (d6 : rs ≠ hv) (b1 : b ≠ qn) (b2 : b ≠ rs) (b3 : b ≠ fr) (b4 : b ≠ hv) (c1 : c ≠ qn) (c2 : c ≠ rs) (c3 : c ≠ fr) (c4 : c ≠ hv) (hok : dvOK P Q) : zSpec mX3_divide B (3, 0, 0) [.ref a, .ref b, .ref c, .int s] h (zPv (fun h' => ∃ F V : z4, h' = zU (zU (zU (zU h fr (zFo F)) hv (zFo V)) qn (zFo (z4i (dvT P Q s)))) rs (zFo (z4i (dvR P Q s))))) := by
  refine zSpec.of (by decide) (Nat.le_of_ble_eq_true rfl) (fun X hZ => ?_)
  show zG X mX3_divide B (3, 0, 0) (0, 0) 0 [(0, .ref a), (1, .ref b), (2, .ref c), (3, .int s)] [] h
  have hU := (dv_U (s := s) hok).1
  refine zi_aload_n 1 dX3_divide_0 rfl rfl ?_
  refine zi_getfield 4 2 dX3_divide_1 zcl_X3 tw_146 rfl rfl ha rfl rfl ?_
  refine zi_aload_n 5 dX3_divide_4 rfl rfl ?_
  refine zc_virtual (n' := (0, 0)) (md' := mX4_becomeBack) 8 dX3_divide_5 tw_624 zv_X4_becomeBack zcl_X4 (s_X4_becomeBack B h fr F0 hf c _ hc) hf rfl rfl rfl rfl rfl rfl rfl rfl (zk_u fun h1 hp1 => ?_)
  have ha_1 := zX1 hp1 (zneC ha hf (by simp)) ha
  have hq_1 := zX1 hp1 (d2) hq
  have hf_1 := zX0 hp1
  have hv0_1 := zX1 hp1 (d3) hv0
  have hr_1 := zX1 hp1 (d5) hr
  have hb_1 := zX1 hp1 (b3) hb
  have hc_1 := zX1 hp1 (c3) hc
  refine zi_iload_n 9 dX3_divide_8 rfl rfl ?_
  refine zi_if_ne 12 27 dX3_divide_9 (by decide) rfl (fun zzS => ?_) (fun zzS => ?_)
  ·
    refine zi_aload_n 28 dX3_divide_27 rfl rfl ?_
    refine zi_getfield 31 2 dX3_divide_28 zcl_X3 tw_146 rfl rfl ha_1 rfl rfl ?_
    refine zi_aload_n 32 dX3_divide_31 rfl rfl ?_
    refine zi_aload_n 33 dX3_divide_32 rfl rfl ?_
    refine zi_getfield 36 2 dX3_divide_33 zcl_X3 tw_146 rfl rfl ha_1 rfl rfl ?_
    refine zc_virtual (n' := (0, 0)) (md' := mX4_becomeProduct) 39 dX3_divide_36 tw_625 zv_X4_becomeProduct zcl_X4 (s_X4_becomeProduct B h1 fr _ hf_1 b _ hb_1 fr _ hf_1) hf_1 rfl rfl rfl rfl rfl rfl rfl rfl (zk_u fun h2 hp2 => ?_)
    rw [(if_neg zzS).symm.trans hU] at hp2
    have ha_2 := zX1 hp2 (zneC ha hf (by simp)) ha_1
    have hq_2 := zX1 hp2 (d2) hq_1
    have hf_2 := zX0 hp2
    have hv0_2 := zX1 hp2 (d3) hv0_1
    have hr_2 := zX1 hp2 (d5) hr_1
    have hb_2 := zX1 hp2 (b3) hb_1
    have hc_2 := zX1 hp2 (c3) hc_1
    exact l_X3_divide B h2 X a qn rs fr hv b c Q0 R0 V0 P Q s h F0 ha_2 hq_2 hr_2 hf_2 hv0_2 hb_2 hc_2 (by rw [hp2, hp1, zU_u]) d1 d2 d3 d4 d5 d6 b1 b2 b3 b4 c1 c2 c3 c4 hok hZ
  ·
    refine zi_aload_n 13 dX3_divide_12 rfl rfl ?_
    refine zi_getfield 16 2 dX3_divide_13 zcl_X3 tw_146 rfl rfl ha_1 rfl rfl ?_
    refine zi_aload_n 17 dX3_divide_16 rfl rfl ?_
    refine zi_getfield 20 2 dX3_divide_17 zcl_X3 tw_146 rfl rfl ha_1 rfl rfl ?_
    refine zi_aload_n 21 dX3_divide_20 rfl rfl ?_
    refine zc_virtual (n' := (0, 0)) (md' := mX4_becomeProduct) 24 dX3_divide_21 tw_625 zv_X4_becomeProduct zcl_X4 (s_X4_becomeProduct B h1 fr _ hf_1 fr _ hf_1 b _ hb_1) hf_1 rfl rfl rfl rfl rfl rfl rfl rfl (zk_u fun h2 hp2 => ?_)
    rw [(if_pos zzS).symm.trans hU] at hp2
    have ha_2 := zX1 hp2 (zneC ha hf (by simp)) ha_1
    have hq_2 := zX1 hp2 (d2) hq_1
    have hf_2 := zX0 hp2
    have hv0_2 := zX1 hp2 (d3) hv0_1
    have hr_2 := zX1 hp2 (d5) hr_1
    have hb_2 := zX1 hp2 (b3) hb_1
    have hc_2 := zX1 hp2 (c3) hc_1
    refine zi_goto 39 dX3_divide_24 (by decide) ?_
    exact l_X3_divide B h2 X a qn rs fr hv b c Q0 R0 V0 P Q s h F0 ha_2 hq_2 hr_2 hf_2 hv0_2 hb_2 hc_2 (by rw [hp2, hp1, zU_u]) d1 d2 d3 d4 d5 d6 b1 b2 b3 b4 c1 c2 c3 c4 hok hZ
