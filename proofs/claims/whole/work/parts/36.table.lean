def tabZ (P : z4) : Nat → Int64
  | 0 => P.1 * P.1 + P.2.1 * P.2.1 - P.2.2.1 * P.2.2.1 - P.2.2.2 * P.2.2.2
  | 1 => 2 * (P.2.1 * P.2.2.1 - P.1 * P.2.2.2)
  | 2 => 2 * (P.2.1 * P.2.2.2 + P.1 * P.2.2.1)
  | 3 => 2 * (P.2.1 * P.2.2.1 + P.1 * P.2.2.2)
  | 4 => P.1 * P.1 - P.2.1 * P.2.1 + P.2.2.1 * P.2.2.1 - P.2.2.2 * P.2.2.2
  | 5 => 2 * (P.2.2.1 * P.2.2.2 - P.1 * P.2.1)
  | 6 => 2 * (P.2.1 * P.2.2.2 - P.1 * P.2.2.1)
  | 7 => 2 * (P.2.2.1 * P.2.2.2 + P.1 * P.2.1)
  | _ => P.1 * P.1 - P.2.1 * P.2.1 - P.2.2.1 * P.2.2.1 + P.2.2.2 * P.2.2.2
def tabI (P : i4) : Nat → Int
  | 0 => P.1 * P.1 + P.2.1 * P.2.1 - P.2.2.1 * P.2.2.1 - P.2.2.2 * P.2.2.2
  | 1 => 2 * (P.2.1 * P.2.2.1 - P.1 * P.2.2.2)
  | 2 => 2 * (P.2.1 * P.2.2.2 + P.1 * P.2.2.1)
  | 3 => 2 * (P.2.1 * P.2.2.1 + P.1 * P.2.2.2)
  | 4 => P.1 * P.1 - P.2.1 * P.2.1 + P.2.2.1 * P.2.2.1 - P.2.2.2 * P.2.2.2
  | 5 => 2 * (P.2.2.1 * P.2.2.2 - P.1 * P.2.1)
  | 6 => 2 * (P.2.1 * P.2.2.2 - P.1 * P.2.2.1)
  | 7 => 2 * (P.2.2.1 * P.2.2.2 + P.1 * P.2.1)
  | _ => P.1 * P.1 - P.2.1 * P.2.1 - P.2.2.1 * P.2.2.1 + P.2.2.2 * P.2.2.2
theorem tabZ_i (P : i4) (i : Nat) : tabZ (z4i P) i = iz (tabI P i) := by
  unfold tabZ tabI z4i
  split <;> simp only [iz_2, iz_mul, iz_add, iz_sub]
theorem tab_4 {x y z w : Int} (h1 : x.natAbs ≤ 4000000000) (h2 : y.natAbs ≤ 4000000000) (h3 : z.natAbs ≤ 4000000000) (h4 : w.natAbs ≤ 4000000000) : (x + y - z - w).natAbs ≤ 16000000000 ∧ (x - y + z - w).natAbs ≤ 16000000000 ∧ (x - y - z + w).natAbs ≤ 16000000000 := by
  refine ⟨?_, ?_, ?_⟩ <;> omega
theorem tab_2 {x y : Int} (h1 : x.natAbs ≤ 4000000000) (h2 : y.natAbs ≤ 4000000000) : (2 * (x - y)).natAbs ≤ 16000000000 ∧ (2 * (x + y)).natAbs ≤ 16000000000 := by omega
theorem tab_b {P : i4} (h : i4V P) (i : Nat) : (tabI P i).natAbs ≤ 16000000000 := by
  obtain ⟨b0, b1, b2, b3⟩ := zb_63 h.2
  have k : ∀ {x y : Int}, x.natAbs ≤ 63245 → y.natAbs ≤ 63245 → (x * y).natAbs ≤ 4000000000 := fun hx hy => Nat.le_trans (zb_mul hx hy) (by decide)
  have a00 := k b0 b0
  have a11 := k b1 b1
  have a22 := k b2 b2
  have a33 := k b3 b3
  have a01 := k b0 b1
  have a02 := k b0 b2
  have a03 := k b0 b3
  have a12 := k b1 b2
  have a13 := k b1 b3
  have a23 := k b2 b3
  clear k b0 b1 b2 b3
  have n4 : ∀ {x y z w : Int}, x.natAbs ≤ 4000000000 → y.natAbs ≤ 4000000000 → z.natAbs ≤ 4000000000 → w.natAbs ≤ 4000000000 → (x + y - z - w).natAbs ≤ 16000000000 ∧ (x - y + z - w).natAbs ≤ 16000000000 ∧ (x - y - z + w).natAbs ≤ 16000000000 := fun h1 h2 h3 h4 => tab_4 h1 h2 h3 h4
  have n2 : ∀ {x y : Int}, x.natAbs ≤ 4000000000 → y.natAbs ≤ 4000000000 → (2 * (x - y)).natAbs ≤ 16000000000 ∧ (2 * (x + y)).natAbs ≤ 16000000000 := fun h1 h2 => tab_2 h1 h2
  unfold tabI
  split
  · exact (n4 a00 a11 a22 a33).1
  · exact (n2 a12 a03).1
  · exact (n2 a13 a02).2
  · exact (n2 a12 a03).2
  · exact (n4 a00 a11 a22 a33).2.1
  · exact (n2 a23 a01).1
  · exact (n2 a13 a02).1
  · exact (n2 a23 a01).2
  · exact (n4 a00 a11 a22 a33).2.2

theorem tab_u {u : Nat → Int64} {P : z4} : ∀ i, i < 9 → (vp_updL (vp_updL (vp_updL (vp_updL (vp_updL (vp_updL (vp_updL (vp_updL (vp_updL u (Int32.toNatClampNeg 0) (tabZ P 0)) (Int32.toNatClampNeg 1) (tabZ P 1)) (Int32.toNatClampNeg 2) (tabZ P 2)) (Int32.toNatClampNeg 3) (tabZ P 3)) (Int32.toNatClampNeg 4) (tabZ P 4)) (Int32.toNatClampNeg 5) (tabZ P 5)) (Int32.toNatClampNeg 6) (tabZ P 6)) (Int32.toNatClampNeg 7) (tabZ P 7)) (Int32.toNatClampNeg 8) (tabZ P 8)) i = tabZ P i := fun i hi => match i, hi with
  | 0, _ => rfl
  | 1, _ => rfl
  | 2, _ => rfl
  | 3, _ => rfl
  | 4, _ => rfl
  | 5, _ => rfl
  | 6, _ => rfl
  | 7, _ => rfl
  | 8, _ => rfl

set_option maxHeartbeats 4000000 in
set_option maxRecDepth 100000 in
theorem s_X8_fill (B : zBB) (h : zHp) (a q : Nat) (l : Int64) (u : Nat → Int64) (ha : h a = some (zO 8 [.long l, .ref q])) (hq : h q = some (zJ B 9 u)) (b : Nat) (P : z4) (hb : h b = some (zFo P)) : zSpec mX8_fill B (1, 0, 0) [.ref a, .ref b] h (zPv (fun h' => ∃ u' : Nat → Int64, h' = zU (zU h a (zO 8 [.long (zSq P), .ref q])) q (zJ B 9 u') ∧ ∀ i, i < 9 → u' i = tabZ P i)) := by
  refine zSpec.of (by decide) (Nat.le_of_ble_eq_true rfl) (fun X hZ => ?_)
  show zG X mX8_fill B (1, 0, 0) (0, 0) 0 [(0, .ref a), (1, .ref b)] [] h
  refine zi_aload_n 1 dX8_fill_0 rfl rfl ?_
  refine zi_aload_n 2 dX8_fill_1 rfl rfl ?_
  refine zc_virtual (n' := (0, 0)) (md' := mX4_squareSum) 5 dX8_fill_2 tw_766 zv_X4_squareSum zcl_X4 (s_X4_squareSum B h b P hb) hb rfl rfl rfl rfl rfl rfl rfl rfl (zk_f ?_)
  refine zi_putfield (fs' := [_, _]) 8 0 dX8_fill_5 zcl_X8 tyX8 tyX8_ok nmX8 tw_259 rfl rfl rfl ha rfl rfl rfl rfl rfl rfl ?_
  refine zk_h (fun h1 k1 => ?_)
  have ha_1 := zX0 k1
  have hq_1 := zX1 k1 (zneC hq ha (by simp)) hq
  have hb_1 := zX1 k1 (zneC hb ha (by simp)) hb
  refine zi_aload_n 9 dX8_fill_8 rfl rfl ?_
  refine zi_getfield 12 0 dX8_fill_9 zcl_X4 tw_104 rfl rfl hb_1 rfl rfl ?_
  refine zi_aload_n 13 dX8_fill_12 rfl rfl ?_
  refine zi_getfield 16 0 dX8_fill_13 zcl_X4 tw_104 rfl rfl hb_1 rfl rfl ?_
  refine zi_lmul 17 dX8_fill_16 rfl ?_
  refine zi_lstore_n (lv' := [(2, _), (0, _), (1, _)]) 18 dX8_fill_17 rfl rfl rfl ?_
  refine zi_aload_n 19 dX8_fill_18 rfl rfl ?_
  refine zi_getfield 22 1 dX8_fill_19 zcl_X4 tw_109 rfl rfl hb_1 rfl rfl ?_
  refine zi_aload_n 23 dX8_fill_22 rfl rfl ?_
  refine zi_getfield 26 1 dX8_fill_23 zcl_X4 tw_109 rfl rfl hb_1 rfl rfl ?_
  refine zi_lmul 27 dX8_fill_26 rfl ?_
  refine zi_lstore (lv' := [(4, _), (2, _), (0, _), (1, _)]) 29 dX8_fill_27 rfl rfl rfl ?_
  refine zi_aload_n 30 dX8_fill_29 rfl rfl ?_
  refine zi_getfield 33 2 dX8_fill_30 zcl_X4 tw_114 rfl rfl hb_1 rfl rfl ?_
  refine zi_aload_n 34 dX8_fill_33 rfl rfl ?_
  refine zi_getfield 37 2 dX8_fill_34 zcl_X4 tw_114 rfl rfl hb_1 rfl rfl ?_
  refine zi_lmul 38 dX8_fill_37 rfl ?_
  refine zi_lstore (lv' := [(6, _), (4, _), (2, _), (0, _), (1, _)]) 40 dX8_fill_38 rfl rfl rfl ?_
  refine zi_aload_n 41 dX8_fill_40 rfl rfl ?_
  refine zi_getfield 44 3 dX8_fill_41 zcl_X4 tw_119 rfl rfl hb_1 rfl rfl ?_
  refine zi_aload_n 45 dX8_fill_44 rfl rfl ?_
  refine zi_getfield 48 3 dX8_fill_45 zcl_X4 tw_119 rfl rfl hb_1 rfl rfl ?_
  refine zi_lmul 49 dX8_fill_48 rfl ?_
  refine zi_lstore (lv' := [(8, _), (6, _), (4, _), (2, _), (0, _), (1, _)]) 51 dX8_fill_49 rfl rfl rfl ?_
  refine zi_aload_n 52 dX8_fill_51 rfl rfl ?_
  refine zi_getfield 55 0 dX8_fill_52 zcl_X4 tw_104 rfl rfl hb_1 rfl rfl ?_
  refine zi_aload_n 56 dX8_fill_55 rfl rfl ?_
  refine zi_getfield 59 1 dX8_fill_56 zcl_X4 tw_109 rfl rfl hb_1 rfl rfl ?_
  refine zi_lmul 60 dX8_fill_59 rfl ?_
  refine zi_lstore (lv' := [(10, _), (8, _), (6, _), (4, _), (2, _), (0, _), (1, _)]) 62 dX8_fill_60 rfl rfl rfl ?_
  refine zi_aload_n 63 dX8_fill_62 rfl rfl ?_
  refine zi_getfield 66 0 dX8_fill_63 zcl_X4 tw_104 rfl rfl hb_1 rfl rfl ?_
  refine zi_aload_n 67 dX8_fill_66 rfl rfl ?_
  refine zi_getfield 70 2 dX8_fill_67 zcl_X4 tw_114 rfl rfl hb_1 rfl rfl ?_
  refine zi_lmul 71 dX8_fill_70 rfl ?_
  refine zi_lstore (lv' := [(12, _), (10, _), (8, _), (6, _), (4, _), (2, _), (0, _), (1, _)]) 73 dX8_fill_71 rfl rfl rfl ?_
  refine zi_aload_n 74 dX8_fill_73 rfl rfl ?_
  refine zi_getfield 77 0 dX8_fill_74 zcl_X4 tw_104 rfl rfl hb_1 rfl rfl ?_
  refine zi_aload_n 78 dX8_fill_77 rfl rfl ?_
  refine zi_getfield 81 3 dX8_fill_78 zcl_X4 tw_119 rfl rfl hb_1 rfl rfl ?_
  refine zi_lmul 82 dX8_fill_81 rfl ?_
  refine zi_lstore (lv' := [(14, _), (12, _), (10, _), (8, _), (6, _), (4, _), (2, _), (0, _), (1, _)]) 84 dX8_fill_82 rfl rfl rfl ?_
  refine zi_aload_n 85 dX8_fill_84 rfl rfl ?_
  refine zi_getfield 88 1 dX8_fill_85 zcl_X4 tw_109 rfl rfl hb_1 rfl rfl ?_
  refine zi_aload_n 89 dX8_fill_88 rfl rfl ?_
  refine zi_getfield 92 2 dX8_fill_89 zcl_X4 tw_114 rfl rfl hb_1 rfl rfl ?_
  refine zi_lmul 93 dX8_fill_92 rfl ?_
  refine zi_lstore (lv' := [(16, _), (14, _), (12, _), (10, _), (8, _), (6, _), (4, _), (2, _), (0, _), (1, _)]) 95 dX8_fill_93 rfl rfl rfl ?_
  refine zi_aload_n 96 dX8_fill_95 rfl rfl ?_
  refine zi_getfield 99 1 dX8_fill_96 zcl_X4 tw_109 rfl rfl hb_1 rfl rfl ?_
  refine zi_aload_n 100 dX8_fill_99 rfl rfl ?_
  refine zi_getfield 103 3 dX8_fill_100 zcl_X4 tw_119 rfl rfl hb_1 rfl rfl ?_
  refine zi_lmul 104 dX8_fill_103 rfl ?_
  refine zi_lstore (lv' := [(18, _), (16, _), (14, _), (12, _), (10, _), (8, _), (6, _), (4, _), (2, _), (0, _), (1, _)]) 106 dX8_fill_104 rfl rfl rfl ?_
  refine zi_aload_n 107 dX8_fill_106 rfl rfl ?_
  refine zi_getfield 110 2 dX8_fill_107 zcl_X4 tw_114 rfl rfl hb_1 rfl rfl ?_
  refine zi_aload_n 111 dX8_fill_110 rfl rfl ?_
  refine zi_getfield 114 3 dX8_fill_111 zcl_X4 tw_119 rfl rfl hb_1 rfl rfl ?_
  refine zi_lmul 115 dX8_fill_114 rfl ?_
  refine zi_lstore (lv' := [(20, _), (18, _), (16, _), (14, _), (12, _), (10, _), (8, _), (6, _), (4, _), (2, _), (0, _), (1, _)]) 117 dX8_fill_115 rfl rfl rfl ?_
  refine zi_aload_n 118 dX8_fill_117 rfl rfl ?_
  refine zi_getfield 121 1 dX8_fill_118 zcl_X8 tw_261 rfl rfl ha_1 rfl rfl ?_
  refine zi_iconst (v := 0) 122 dX8_fill_121 (by decide) rfl ?_
  refine zi_lload_n 123 dX8_fill_122 rfl rfl ?_
  refine zi_lload 125 dX8_fill_123 rfl rfl ?_
  refine zi_ladd 126 dX8_fill_125 rfl ?_
  refine zi_lload 128 dX8_fill_126 rfl rfl ?_
  refine zi_lsub 129 dX8_fill_128 rfl ?_
  refine zi_lload 131 dX8_fill_129 rfl rfl ?_
  refine zi_lsub 132 dX8_fill_131 rfl ?_
  refine zi_lastore 133 dX8_fill_132 hq_1 (zin' (by decide) (by decide)) rfl ?_
  refine zk_h (fun h2 k2 => ?_)
  have hq_2 := zX0 k2
  have ha_2 := zX1 k2 (zneC ha_1 hq_1 (by simp)) ha_1
  refine zi_aload_n 134 dX8_fill_133 rfl rfl ?_
  refine zi_getfield 137 1 dX8_fill_134 zcl_X8 tw_261 rfl rfl ha_2 rfl rfl ?_
  refine zi_iconst (v := 1) 138 dX8_fill_137 (by decide) rfl ?_
  refine zi_ldc2 141 dX8_fill_138 tw_767 rfl ?_
  refine zi_lload 143 dX8_fill_141 rfl rfl ?_
  refine zi_lload 145 dX8_fill_143 rfl rfl ?_
  refine zi_lsub 146 dX8_fill_145 rfl ?_
  refine zi_lmul 147 dX8_fill_146 rfl ?_
  refine zi_lastore 148 dX8_fill_147 hq_2 (zin' (by decide) (by decide)) rfl ?_
  refine zk_h (fun h3 k3 => ?_)
  rw [k2, zU_u] at k3
  have hq_3 := zX0 k3
  have ha_3 := zX1 k3 (zneC ha_1 hq_1 (by simp)) ha_1
  refine zi_aload_n 149 dX8_fill_148 rfl rfl ?_
  refine zi_getfield 152 1 dX8_fill_149 zcl_X8 tw_261 rfl rfl ha_3 rfl rfl ?_
  refine zi_iconst (v := 2) 153 dX8_fill_152 (by decide) rfl ?_
  refine zi_ldc2 156 dX8_fill_153 tw_767 rfl ?_
  refine zi_lload 158 dX8_fill_156 rfl rfl ?_
  refine zi_lload 160 dX8_fill_158 rfl rfl ?_
  refine zi_ladd 161 dX8_fill_160 rfl ?_
  refine zi_lmul 162 dX8_fill_161 rfl ?_
  refine zi_lastore 163 dX8_fill_162 hq_3 (zin' (by decide) (by decide)) rfl ?_
  refine zk_h (fun h4 k4 => ?_)
  rw [k3, zU_u] at k4
  have hq_4 := zX0 k4
  have ha_4 := zX1 k4 (zneC ha_1 hq_1 (by simp)) ha_1
  refine zi_aload_n 164 dX8_fill_163 rfl rfl ?_
  refine zi_getfield 167 1 dX8_fill_164 zcl_X8 tw_261 rfl rfl ha_4 rfl rfl ?_
  refine zi_iconst (v := 3) 168 dX8_fill_167 (by decide) rfl ?_
  refine zi_ldc2 171 dX8_fill_168 tw_767 rfl ?_
  refine zi_lload 173 dX8_fill_171 rfl rfl ?_
  refine zi_lload 175 dX8_fill_173 rfl rfl ?_
  refine zi_ladd 176 dX8_fill_175 rfl ?_
  refine zi_lmul 177 dX8_fill_176 rfl ?_
  refine zi_lastore 178 dX8_fill_177 hq_4 (zin' (by decide) (by decide)) rfl ?_
  refine zk_h (fun h5 k5 => ?_)
  rw [k4, zU_u] at k5
  have hq_5 := zX0 k5
  have ha_5 := zX1 k5 (zneC ha_1 hq_1 (by simp)) ha_1
  refine zi_aload_n 179 dX8_fill_178 rfl rfl ?_
  refine zi_getfield 182 1 dX8_fill_179 zcl_X8 tw_261 rfl rfl ha_5 rfl rfl ?_
  refine zi_iconst (v := 4) 183 dX8_fill_182 (by decide) rfl ?_
  refine zi_lload_n 184 dX8_fill_183 rfl rfl ?_
  refine zi_lload 186 dX8_fill_184 rfl rfl ?_
  refine zi_lsub 187 dX8_fill_186 rfl ?_
  refine zi_lload 189 dX8_fill_187 rfl rfl ?_
  refine zi_ladd 190 dX8_fill_189 rfl ?_
  refine zi_lload 192 dX8_fill_190 rfl rfl ?_
  refine zi_lsub 193 dX8_fill_192 rfl ?_
  refine zi_lastore 194 dX8_fill_193 hq_5 (zin' (by decide) (by decide)) rfl ?_
  refine zk_h (fun h6 k6 => ?_)
  rw [k5, zU_u] at k6
  have hq_6 := zX0 k6
  have ha_6 := zX1 k6 (zneC ha_1 hq_1 (by simp)) ha_1
  refine zi_aload_n 195 dX8_fill_194 rfl rfl ?_
  refine zi_getfield 198 1 dX8_fill_195 zcl_X8 tw_261 rfl rfl ha_6 rfl rfl ?_
  refine zi_iconst (v := 5) 199 dX8_fill_198 (by decide) rfl ?_
  refine zi_ldc2 202 dX8_fill_199 tw_767 rfl ?_
  refine zi_lload 204 dX8_fill_202 rfl rfl ?_
  refine zi_lload 206 dX8_fill_204 rfl rfl ?_
  refine zi_lsub 207 dX8_fill_206 rfl ?_
  refine zi_lmul 208 dX8_fill_207 rfl ?_
  refine zi_lastore 209 dX8_fill_208 hq_6 (zin' (by decide) (by decide)) rfl ?_
  refine zk_h (fun h7 k7 => ?_)
  rw [k6, zU_u] at k7
  have hq_7 := zX0 k7
  have ha_7 := zX1 k7 (zneC ha_1 hq_1 (by simp)) ha_1
  refine zi_aload_n 210 dX8_fill_209 rfl rfl ?_
  refine zi_getfield 213 1 dX8_fill_210 zcl_X8 tw_261 rfl rfl ha_7 rfl rfl ?_
  refine zi_bipush (v := 6) 215 dX8_fill_213 (by decide) rfl ?_
  refine zi_ldc2 218 dX8_fill_215 tw_767 rfl ?_
  refine zi_lload 220 dX8_fill_218 rfl rfl ?_
  refine zi_lload 222 dX8_fill_220 rfl rfl ?_
  refine zi_lsub 223 dX8_fill_222 rfl ?_
  refine zi_lmul 224 dX8_fill_223 rfl ?_
  refine zi_lastore 225 dX8_fill_224 hq_7 (zin' (by decide) (by decide)) rfl ?_
  refine zk_h (fun h8 k8 => ?_)
  rw [k7, zU_u] at k8
  have hq_8 := zX0 k8
  have ha_8 := zX1 k8 (zneC ha_1 hq_1 (by simp)) ha_1
  refine zi_aload_n 226 dX8_fill_225 rfl rfl ?_
  refine zi_getfield 229 1 dX8_fill_226 zcl_X8 tw_261 rfl rfl ha_8 rfl rfl ?_
  refine zi_bipush (v := 7) 231 dX8_fill_229 (by decide) rfl ?_
  refine zi_ldc2 234 dX8_fill_231 tw_767 rfl ?_
  refine zi_lload 236 dX8_fill_234 rfl rfl ?_
  refine zi_lload 238 dX8_fill_236 rfl rfl ?_
  refine zi_ladd 239 dX8_fill_238 rfl ?_
  refine zi_lmul 240 dX8_fill_239 rfl ?_
  refine zi_lastore 241 dX8_fill_240 hq_8 (zin' (by decide) (by decide)) rfl ?_
  refine zk_h (fun h9 k9 => ?_)
  rw [k8, zU_u] at k9
  have hq_9 := zX0 k9
  have ha_9 := zX1 k9 (zneC ha_1 hq_1 (by simp)) ha_1
  refine zi_aload_n 242 dX8_fill_241 rfl rfl ?_
  refine zi_getfield 245 1 dX8_fill_242 zcl_X8 tw_261 rfl rfl ha_9 rfl rfl ?_
  refine zi_bipush (v := 8) 247 dX8_fill_245 (by decide) rfl ?_
  refine zi_lload_n 248 dX8_fill_247 rfl rfl ?_
  refine zi_lload 250 dX8_fill_248 rfl rfl ?_
  refine zi_lsub 251 dX8_fill_250 rfl ?_
  refine zi_lload 253 dX8_fill_251 rfl rfl ?_
  refine zi_lsub 254 dX8_fill_253 rfl ?_
  refine zi_lload 256 dX8_fill_254 rfl rfl ?_
  refine zi_ladd 257 dX8_fill_256 rfl ?_
  refine zi_lastore 258 dX8_fill_257 hq_9 (zin' (by decide) (by decide)) rfl ?_
  refine zk_h (fun h10 k10 => ?_)
  rw [k9, zU_u] at k10
  have hq_10 := zX0 k10
  have ha_10 := zX1 k10 (zneC ha_1 hq_1 (by simp)) ha_1
  rw [k1] at k10
  exact zr_void hZ dX8_fill_258 rfl ⟨rfl, _, k10, tab_u⟩

set_option maxHeartbeats 4000000 in
set_option maxRecDepth 100000 in
theorem s_X8_turned (B : zBB) (h : zHp) (a q : Nat) (l : Int64) (u : Nat → Int64) (ha : h a = some (zO 8 [.long l, .ref q])) (hq : h q = some (zJ B 9 u)) (x y z : Int64) (r : Nat) (hr : r < 3) : zSpec mX8_turned B (2, 0, 0) [.ref a, .long x, .long y, .long z, .int (nI r)] h (zPf (some (.long (u (3 * r) * x + u (3 * r + 1) * y + u (3 * r + 2) * z))) h) := by
  refine zSpec.of (by decide) (Nat.le_of_ble_eq_true rfl) (fun X hZ => ?_)
  show zG X mX8_turned B (2, 0, 0) (0, 0) 0 [(0, .ref a), (1, .long x), (3, .long y), (5, .long z), (7, .int (nI r))] [] h
  refine zi_aload_n 1 dX8_turned_0 rfl rfl ?_
  refine zi_iload 3 dX8_turned_1 rfl rfl ?_
  refine zi_iconst (v := 0) 4 dX8_turned_3 (by decide) rfl ?_
  refine zc_virtual (n' := (0, 0)) (md' := mX8_upper) 7 dX8_turned_4 tw_788 zv_X8_upper zcl_X8 (s_X8_upper B h a q l u ha hq r 0 hr (by decide)) ha rfl rfl rfl rfl rfl rfl rfl rfl (zk_f ?_)
  refine zi_lload_n 8 dX8_turned_7 rfl rfl ?_
  refine zi_lmul 9 dX8_turned_8 rfl ?_
  refine zi_aload_n 10 dX8_turned_9 rfl rfl ?_
  refine zi_iload 12 dX8_turned_10 rfl rfl ?_
  refine zi_iconst (v := 1) 13 dX8_turned_12 (by decide) rfl ?_
  refine zc_virtual (n' := (0, 0)) (md' := mX8_upper) 16 dX8_turned_13 tw_788 zv_X8_upper zcl_X8 (s_X8_upper B h a q l u ha hq r 1 hr (by decide)) ha rfl rfl rfl rfl rfl rfl rfl rfl (zk_f ?_)
  refine zi_lload_n 17 dX8_turned_16 rfl rfl ?_
  refine zi_lmul 18 dX8_turned_17 rfl ?_
  refine zi_ladd 19 dX8_turned_18 rfl ?_
  refine zi_aload_n 20 dX8_turned_19 rfl rfl ?_
  refine zi_iload 22 dX8_turned_20 rfl rfl ?_
  refine zi_iconst (v := 2) 23 dX8_turned_22 (by decide) rfl ?_
  refine zc_virtual (n' := (0, 0)) (md' := mX8_upper) 26 dX8_turned_23 tw_788 zv_X8_upper zcl_X8 (s_X8_upper B h a q l u ha hq r 2 hr (by decide)) ha rfl rfl rfl rfl rfl rfl rfl rfl (zk_f ?_)
  refine zi_lload 28 dX8_turned_26 rfl rfl ?_
  refine zi_lmul 29 dX8_turned_28 rfl ?_
  refine zi_ladd 30 dX8_turned_29 rfl ?_
  exact zr_long hZ dX8_turned_30 rfl ⟨rfl, rfl⟩

abbrev cmI (t : Nat → Int) (x y z : Int) (c : Nat) : Int := t c * x + t (3 + c) * y + t (6 + c) * z
abbrev cmn (t : Nat → Int) (l x y z : Int) : Prop := l ∣ cmI t x y z 0 ∧ l ∣ cmI t x y z 1 ∧ l ∣ cmI t x y z 2
theorem cm_rem {a b : Int} (ha : a.natAbs < 9223372036854775808) (hb : b.natAbs < 9223372036854775808) : iz a - iz a / iz b * iz b = 0 ↔ b ∣ a := by
  rw [iz_rem (by omega) (by omega) (by omega)]
  have h1 : (a.tmod b).natAbs ≤ a.natAbs := by rw [Int.natAbs_tmod]; exact Nat.mod_le _ _
  rw [iz_0, iz_inj (by omega) (by omega)]
  exact (Int.dvd_iff_tmod_eq_zero).symm
theorem cm_3 {t : Nat → Int} {l x y z : Int} {k : Nat} (hk : ¬ k < 3) (h : ∀ c, c < k → l ∣ cmI t x y z c) : cmn t l x y z := ⟨h 0 (by omega), h 1 (by omega), h 2 (by omega)⟩
theorem cm_n {t : Nat → Int} {l x y z : Int} {k : Nat} (hk : k < 3) (h : ¬ l ∣ cmI t x y z k) : ¬ cmn t l x y z := fun hc => match k, hk, h with
  | 0, _, h => h hc.1
  | 1, _, h => h hc.2.1
  | 2, _, h => h hc.2.2
theorem cm_s {t : Nat → Int} {l x y z : Int} {k : Nat} (h : ∀ c, c < k → l ∣ cmI t x y z c) (h1 : l ∣ cmI t x y z k) : ∀ c, c < k + 1 → l ∣ cmI t x y z c := fun c hc => by
  rcases Nat.lt_or_ge c k with q | q
  · exact h c q
  · rw [show c = k by omega]
    exact h1
theorem cm_k {k : Nat} (h : k < 4) : ((3 : Int32) ≤ nI k ↔ ¬ k < 3) := by
  rw [show (3 : Int32) = nI 3 from rfl, nI_leI (by omega) (by omega)]
  omega

set_option maxHeartbeats 8000000 in
set_option maxRecDepth 100000 in
theorem l_X8_isCommon (B : zBB) (h : zHp) (X : zX) (a q : Nat) (u : Nat → Int64) (t : Nat → Int) (l x y z : Int) (ha : h a = some (zO 8 [.long (iz l), .ref q])) (hq : h q = some (zJ B 9 u)) (hu : ∀ i, i < 9 → u i = iz (t i)) (hl : 0 < l) (hl2 : l.natAbs < 9223372036854775808) (hb : ∀ c, c < 3 → (cmI t x y z c).natAbs < 9223372036854775808) (hZ : zIsP X mX8_isCommon B (0, 0) (zPf (some (.int (if cmn t l x y z then 1 else 0))) h)) : ∀ (n k : Nat), 3 - k < n → k < 4 → (∀ c, c < k → l ∣ cmI t x y z c) → zG X mX8_isCommon B (2, 0, 0) (0, 0) 14 [(7, .int (nI k)), (0, .ref a), (1, .long (iz x)), (3, .long (iz y)), (5, .long (iz z))] [] h := by
  intro n
  induction n with
  | zero => intro k hn; exact absurd hn (Nat.not_lt_zero _)
  | succ n ih =>
    intro k hn hk hI
    refine zi_iload 16 dX8_isCommon_14 rfl rfl ?_
    refine zi_iconst (v := 3) 17 dX8_isCommon_16 (by decide) rfl ?_
    refine zi_icmp_ge 20 72 dX8_isCommon_17 (by decide) rfl (fun zzK => ?_) (fun zzK => ?_)
    ·
      rw [cm_k hk] at zzK
      refine zi_iconst (v := 1) 73 dX8_isCommon_72 (by decide) rfl ?_
      exact zr_int hZ dX8_isCommon_73 rfl rfl ⟨by rw [if_pos (cm_3 zzK hI)], rfl⟩
    ·
      rw [cm_k hk, Decidable.not_not] at zzK
      have hk3 := zzK
      refine zi_aload_n 21 dX8_isCommon_20 rfl rfl ?_
      refine zi_iconst (v := 0) 22 dX8_isCommon_21 (by decide) rfl ?_
      refine zi_iload 24 dX8_isCommon_22 rfl rfl ?_
      refine zc_virtual (n' := (0, 0)) (md' := mX8_upper) 27 dX8_isCommon_24 tw_788 zv_X8_upper zcl_X8 (s_X8_upper B h a q (iz l) u ha hq 0 k (by decide) hk3) ha rfl rfl rfl rfl rfl rfl rfl rfl (zk_f ?_)
      rw [hu _ (by omega)]
      refine zi_lload_n 28 dX8_isCommon_27 rfl rfl ?_
      refine zi_lmul 29 dX8_isCommon_28 rfl ?_
      refine zi_aload_n 30 dX8_isCommon_29 rfl rfl ?_
      refine zi_iconst (v := 1) 31 dX8_isCommon_30 (by decide) rfl ?_
      refine zi_iload 33 dX8_isCommon_31 rfl rfl ?_
      refine zc_virtual (n' := (0, 0)) (md' := mX8_upper) 36 dX8_isCommon_33 tw_788 zv_X8_upper zcl_X8 (s_X8_upper B h a q (iz l) u ha hq 1 k (by decide) hk3) ha rfl rfl rfl rfl rfl rfl rfl rfl (zk_f ?_)
      rw [hu _ (by omega)]
      refine zi_lload_n 37 dX8_isCommon_36 rfl rfl ?_
      refine zi_lmul 38 dX8_isCommon_37 rfl ?_
      refine zi_ladd 39 dX8_isCommon_38 rfl ?_
      refine zi_aload_n 40 dX8_isCommon_39 rfl rfl ?_
      refine zi_iconst (v := 2) 41 dX8_isCommon_40 (by decide) rfl ?_
      refine zi_iload 43 dX8_isCommon_41 rfl rfl ?_
      refine zc_virtual (n' := (0, 0)) (md' := mX8_upper) 46 dX8_isCommon_43 tw_788 zv_X8_upper zcl_X8 (s_X8_upper B h a q (iz l) u ha hq 2 k (by decide) hk3) ha rfl rfl rfl rfl rfl rfl rfl rfl (zk_f ?_)
      rw [hu _ (by omega)]
      refine zi_lload 48 dX8_isCommon_46 rfl rfl ?_
      refine zi_lmul 49 dX8_isCommon_48 rfl ?_
      refine zi_ladd 50 dX8_isCommon_49 rfl ?_
      rw [iz_mul, iz_mul, iz_mul, iz_add, iz_add, show t (3 * 0 + k) * x + t (3 * 1 + k) * y + t (3 * 2 + k) * z = cmI t x y z k by rw [show 3 * 0 + k = k by omega]]
      refine zi_lstore (lv' := [(8, _), (7, _), (0, _), (1, _), (3, _), (5, _)]) 52 dX8_isCommon_50 rfl rfl rfl ?_
      refine zi_lload 54 dX8_isCommon_52 rfl rfl ?_
      refine zi_aload_n 55 dX8_isCommon_54 rfl rfl ?_
      refine zi_getfield 58 0 dX8_isCommon_55 zcl_X8 tw_259 rfl rfl ha rfl rfl ?_
      refine zi_lrem 59 dX8_isCommon_58 (fun e => by rw [iz_0, iz_inj (by omega) (by omega)] at e; omega) rfl ?_
      refine zi_lconst (v := 0) 60 dX8_isCommon_59 (by decide) rfl ?_
      refine zj_eq 64 66 dX8_isCommon_60 rfl dX8_isCommon_61 (by decide) rfl (fun zzD => ?_) (fun zzD => ?_)
      ·
        rw [cm_rem (hb k hk3) hl2] at zzD
        refine zi_iinc (lv' := [(7, _), (8, _), (0, _), (1, _), (3, _), (5, _)]) 69 dX8_isCommon_66 rfl rfl rfl rfl rfl ?_
        refine zi_goto 14 dX8_isCommon_69 (by decide) ?_
        rw [show nI k + Int32.ofInt 1 = nI (k + 1) from nI_1 k]
        exact zi_lv [0, 2, 3, 4, 5] rfl (ih (k + 1) (by omega) (by omega) (cm_s hI zzD))
      ·
        rw [cm_rem (hb k hk3) hl2] at zzD
        refine zi_iconst (v := 0) 65 dX8_isCommon_64 (by decide) rfl ?_
        exact zr_int hZ dX8_isCommon_65 rfl rfl ⟨by rw [if_neg (cm_n hk3 zzD)], rfl⟩

set_option maxHeartbeats 4000000 in
set_option maxRecDepth 100000 in
theorem s_X8_isCommon (B : zBB) (h : zHp) (a q : Nat) (u : Nat → Int64) (t : Nat → Int) (l x y z : Int) (ha : h a = some (zO 8 [.long (iz l), .ref q])) (hq : h q = some (zJ B 9 u)) (hu : ∀ i, i < 9 → u i = iz (t i)) (hl : 0 < l) (hl2 : l.natAbs < 9223372036854775808) (hb : ∀ c, c < 3 → (cmI t x y z c).natAbs < 9223372036854775808) : zSpec mX8_isCommon B (2, 0, 0) [.ref a, .long (iz x), .long (iz y), .long (iz z)] h (zPf (some (.int (if cmn t l x y z then 1 else 0))) h) := by
  refine zSpec.of (by decide) (Nat.le_of_ble_eq_true rfl) (fun X hZ => ?_)
  show zG X mX8_isCommon B (2, 0, 0) (0, 0) 0 [(0, .ref a), (1, .long (iz x)), (3, .long (iz y)), (5, .long (iz z))] [] h
  refine zi_aload_n 1 dX8_isCommon_0 rfl rfl ?_
  refine zi_getfield 4 0 dX8_isCommon_1 zcl_X8 tw_259 rfl rfl ha rfl rfl ?_
  refine zi_lconst (v := 0) 5 dX8_isCommon_4 (by decide) rfl ?_
  refine zj_ne 9 11 dX8_isCommon_5 rfl dX8_isCommon_6 (by decide) rfl (fun zzE => ?_) (fun zzE => absurd zzE (fun e => by rw [iz_0, iz_inj (by omega) (by omega)] at e; omega))
  refine zi_iconst (v := 0) 12 dX8_isCommon_11 (by decide) rfl ?_
  refine zi_istore (lv' := [(7, _), (0, _), (1, _), (3, _), (5, _)]) 14 dX8_isCommon_12 rfl rfl rfl ?_
  exact zi_lv [0, 1, 2, 3, 4] rfl (l_X8_isCommon B h X a q u t l x y z ha hq hu hl hl2 hb hZ 4 0 (by decide) (by decide) (fun c hc => absurd hc (Nat.not_lt_zero _)))
