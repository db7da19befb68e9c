set_option maxHeartbeats 4000000 in
set_option maxRecDepth 100000 in
theorem s_X4_become (B : zBB) (h : zHp) (a : Nat) (P : z4) (ha : h a = some (zFo P)) (w x y z : Int64) : zSpec mX4_become B (0, 0, 0) [.ref a, .long w, .long x, .long y, .long z] h (zPf none (zU h a (zFo (w, x, y, z)))) := by
  refine zSpec.of (by decide) (Nat.le_of_ble_eq_true rfl) (fun X hZ => ?_)
  show zG X mX4_become B (0, 0, 0) (0, 0) 0 [(0, .ref a), (1, .long w), (3, .long x), (5, .long y), (7, .long z)] [] h
  refine zi_aload_n 1 dX4_become_0 rfl rfl ?_
  refine zi_lload_n 2 dX4_become_1 rfl rfl ?_
  refine zi_putfield (fs' := [_, _, _, _]) 5 0 dX4_become_2 zcl_X4 tyX4 tyX4_ok nmX4 tw_103 rfl rfl rfl ha rfl rfl rfl rfl rfl rfl ?_
  refine zi_aload_n 6 dX4_become_5 rfl rfl ?_
  refine zi_lload_n 7 dX4_become_6 rfl rfl ?_
  refine zi_putfield (fs' := [_, _, _, _]) 10 1 dX4_become_7 zcl_X4 tyX4 tyX4_ok nmX4 tw_108 rfl rfl rfl (zU_s _ _ _) rfl rfl rfl rfl rfl rfl ?_
  refine zi_aload_n 11 dX4_become_10 rfl rfl ?_
  refine zi_lload 13 dX4_become_11 rfl rfl ?_
  refine zi_putfield (fs' := [_, _, _, _]) 16 2 dX4_become_13 zcl_X4 tyX4 tyX4_ok nmX4 tw_113 rfl rfl rfl (zU_s _ _ _) rfl rfl rfl rfl rfl rfl ?_
  refine zi_aload_n 17 dX4_become_16 rfl rfl ?_
  refine zi_lload 19 dX4_become_17 rfl rfl ?_
  refine zi_putfield (fs' := [_, _, _, _]) 22 3 dX4_become_19 zcl_X4 tyX4 tyX4_ok nmX4 tw_118 rfl rfl rfl (zU_s _ _ _) rfl rfl rfl rfl rfl rfl ?_
  exact zr_void hZ dX4_become_22 rfl ⟨rfl, by simp only [zU_u]⟩

set_option maxHeartbeats 4000000 in
set_option maxRecDepth 100000 in
theorem s_X4_become_ (B : zBB) (h : zHp) (a : Nat) (P : z4) (ha : h a = some (zFo P)) (b : Nat) (Q : z4) (hb : h b = some (zFo Q)) : zSpec mX4_become_ B (1, 0, 0) [.ref a, .ref b] h (zPf none (zU h a (zFo Q))) := by
  refine zSpec.of (by decide) (Nat.le_of_ble_eq_true rfl) (fun X hZ => ?_)
  show zG X mX4_become_ B (1, 0, 0) (0, 0) 0 [(0, .ref a), (1, .ref b)] [] h
  refine zi_aload_n 1 dX4_become__0 rfl rfl ?_
  refine zi_aload_n 2 dX4_become__1 rfl rfl ?_
  refine zi_getfield 5 0 dX4_become__2 zcl_X4 tw_103 rfl rfl hb rfl rfl ?_
  refine zi_aload_n 6 dX4_become__5 rfl rfl ?_
  refine zi_getfield 9 1 dX4_become__6 zcl_X4 tw_108 rfl rfl hb rfl rfl ?_
  refine zi_aload_n 10 dX4_become__9 rfl rfl ?_
  refine zi_getfield 13 2 dX4_become__10 zcl_X4 tw_113 rfl rfl hb rfl rfl ?_
  refine zi_aload_n 14 dX4_become__13 rfl rfl ?_
  refine zi_getfield 17 3 dX4_become__14 zcl_X4 tw_118 rfl rfl hb rfl rfl ?_
  refine zc_virtual (n' := (0, 0)) (md' := mX4_become) 20 dX4_become__17 tw_447 zv_X4_become zcl_X4 (s_X4_become B h a P ha _ _ _ _) ha rfl rfl rfl rfl rfl rfl rfl rfl (zk_n ?_)
  exact zr_void hZ dX4_become__20 rfl ⟨rfl, rfl⟩

set_option maxHeartbeats 4000000 in
set_option maxRecDepth 100000 in
theorem s_X4_becomeSum (B : zBB) (h : zHp) (a : Nat) (P : z4) (ha : h a = some (zFo P)) (b : Nat) (Q : z4) (hb : h b = some (zFo Q)) (c : Nat) (R : z4) (hc : h c = some (zFo R)) : zSpec mX4_becomeSum B (1, 0, 0) [.ref a, .ref b, .ref c] h (zPf none (zU h a (zFo (zAdd Q R)))) := by
  refine zSpec.of (by decide) (Nat.le_of_ble_eq_true rfl) (fun X hZ => ?_)
  show zG X mX4_becomeSum B (1, 0, 0) (0, 0) 0 [(0, .ref a), (1, .ref b), (2, .ref c)] [] h
  refine zi_aload_n 1 dX4_becomeSum_0 rfl rfl ?_
  refine zi_aload_n 2 dX4_becomeSum_1 rfl rfl ?_
  refine zi_getfield 5 0 dX4_becomeSum_2 zcl_X4 tw_103 rfl rfl hb rfl rfl ?_
  refine zi_aload_n 6 dX4_becomeSum_5 rfl rfl ?_
  refine zi_getfield 9 0 dX4_becomeSum_6 zcl_X4 tw_103 rfl rfl hc rfl rfl ?_
  refine zi_ladd 10 dX4_becomeSum_9 rfl ?_
  refine zi_aload_n 11 dX4_becomeSum_10 rfl rfl ?_
  refine zi_getfield 14 1 dX4_becomeSum_11 zcl_X4 tw_108 rfl rfl hb rfl rfl ?_
  refine zi_aload_n 15 dX4_becomeSum_14 rfl rfl ?_
  refine zi_getfield 18 1 dX4_becomeSum_15 zcl_X4 tw_108 rfl rfl hc rfl rfl ?_
  refine zi_ladd 19 dX4_becomeSum_18 rfl ?_
  refine zi_aload_n 20 dX4_becomeSum_19 rfl rfl ?_
  refine zi_getfield 23 2 dX4_becomeSum_20 zcl_X4 tw_113 rfl rfl hb rfl rfl ?_
  refine zi_aload_n 24 dX4_becomeSum_23 rfl rfl ?_
  refine zi_getfield 27 2 dX4_becomeSum_24 zcl_X4 tw_113 rfl rfl hc rfl rfl ?_
  refine zi_ladd 28 dX4_becomeSum_27 rfl ?_
  refine zi_aload_n 29 dX4_becomeSum_28 rfl rfl ?_
  refine zi_getfield 32 3 dX4_becomeSum_29 zcl_X4 tw_118 rfl rfl hb rfl rfl ?_
  refine zi_aload_n 33 dX4_becomeSum_32 rfl rfl ?_
  refine zi_getfield 36 3 dX4_becomeSum_33 zcl_X4 tw_118 rfl rfl hc rfl rfl ?_
  refine zi_ladd 37 dX4_becomeSum_36 rfl ?_
  refine zc_virtual (n' := (0, 0)) (md' := mX4_become) 40 dX4_becomeSum_37 tw_447 zv_X4_become zcl_X4 (s_X4_become B h a P ha _ _ _ _) ha rfl rfl rfl rfl rfl rfl rfl rfl (zk_n ?_)
  exact zr_void hZ dX4_becomeSum_40 rfl ⟨rfl, rfl⟩

set_option maxHeartbeats 4000000 in
set_option maxRecDepth 100000 in
theorem s_X4_becomeDifference (B : zBB) (h : zHp) (a : Nat) (P : z4) (ha : h a = some (zFo P)) (b : Nat) (Q : z4) (hb : h b = some (zFo Q)) (c : Nat) (R : z4) (hc : h c = some (zFo R)) : zSpec mX4_becomeDifference B (1, 0, 0) [.ref a, .ref b, .ref c] h (zPf none (zU h a (zFo (zSub Q R)))) := by
  refine zSpec.of (by decide) (Nat.le_of_ble_eq_true rfl) (fun X hZ => ?_)
  show zG X mX4_becomeDifference B (1, 0, 0) (0, 0) 0 [(0, .ref a), (1, .ref b), (2, .ref c)] [] h
  refine zi_aload_n 1 dX4_becomeDifference_0 rfl rfl ?_
  refine zi_aload_n 2 dX4_becomeDifference_1 rfl rfl ?_
  refine zi_getfield 5 0 dX4_becomeDifference_2 zcl_X4 tw_103 rfl rfl hb rfl rfl ?_
  refine zi_aload_n 6 dX4_becomeDifference_5 rfl rfl ?_
  refine zi_getfield 9 0 dX4_becomeDifference_6 zcl_X4 tw_103 rfl rfl hc rfl rfl ?_
  refine zi_lsub 10 dX4_becomeDifference_9 rfl ?_
  refine zi_aload_n 11 dX4_becomeDifference_10 rfl rfl ?_
  refine zi_getfield 14 1 dX4_becomeDifference_11 zcl_X4 tw_108 rfl rfl hb rfl rfl ?_
  refine zi_aload_n 15 dX4_becomeDifference_14 rfl rfl ?_
  refine zi_getfield 18 1 dX4_becomeDifference_15 zcl_X4 tw_108 rfl rfl hc rfl rfl ?_
  refine zi_lsub 19 dX4_becomeDifference_18 rfl ?_
  refine zi_aload_n 20 dX4_becomeDifference_19 rfl rfl ?_
  refine zi_getfield 23 2 dX4_becomeDifference_20 zcl_X4 tw_113 rfl rfl hb rfl rfl ?_
  refine zi_aload_n 24 dX4_becomeDifference_23 rfl rfl ?_
  refine zi_getfield 27 2 dX4_becomeDifference_24 zcl_X4 tw_113 rfl rfl hc rfl rfl ?_
  refine zi_lsub 28 dX4_becomeDifference_27 rfl ?_
  refine zi_aload_n 29 dX4_becomeDifference_28 rfl rfl ?_
  refine zi_getfield 32 3 dX4_becomeDifference_29 zcl_X4 tw_118 rfl rfl hb rfl rfl ?_
  refine zi_aload_n 33 dX4_becomeDifference_32 rfl rfl ?_
  refine zi_getfield 36 3 dX4_becomeDifference_33 zcl_X4 tw_118 rfl rfl hc rfl rfl ?_
  refine zi_lsub 37 dX4_becomeDifference_36 rfl ?_
  refine zc_virtual (n' := (0, 0)) (md' := mX4_become) 40 dX4_becomeDifference_37 tw_447 zv_X4_become zcl_X4 (s_X4_become B h a P ha _ _ _ _) ha rfl rfl rfl rfl rfl rfl rfl rfl (zk_n ?_)
  exact zr_void hZ dX4_becomeDifference_40 rfl ⟨rfl, rfl⟩

set_option maxHeartbeats 4000000 in
set_option maxRecDepth 100000 in
theorem s_X4_becomeProduct (B : zBB) (h : zHp) (a : Nat) (P : z4) (ha : h a = some (zFo P)) (b : Nat) (Q : z4) (hb : h b = some (zFo Q)) (c : Nat) (R : z4) (hc : h c = some (zFo R)) : zSpec mX4_becomeProduct B (1, 0, 0) [.ref a, .ref b, .ref c] h (zPf none (zU h a (zFo (zMul Q R)))) := by
  refine zSpec.of (by decide) (Nat.le_of_ble_eq_true rfl) (fun X hZ => ?_)
  show zG X mX4_becomeProduct B (1, 0, 0) (0, 0) 0 [(0, .ref a), (1, .ref b), (2, .ref c)] [] h
  refine zi_aload_n 1 dX4_becomeProduct_0 rfl rfl ?_
  refine zi_getfield 4 0 dX4_becomeProduct_1 zcl_X4 tw_103 rfl rfl hb rfl rfl ?_
  refine zi_aload_n 5 dX4_becomeProduct_4 rfl rfl ?_
  refine zi_getfield 8 0 dX4_becomeProduct_5 zcl_X4 tw_103 rfl rfl hc rfl rfl ?_
  refine zi_lmul 9 dX4_becomeProduct_8 rfl ?_
  refine zi_aload_n 10 dX4_becomeProduct_9 rfl rfl ?_
  refine zi_getfield 13 1 dX4_becomeProduct_10 zcl_X4 tw_108 rfl rfl hb rfl rfl ?_
  refine zi_aload_n 14 dX4_becomeProduct_13 rfl rfl ?_
  refine zi_getfield 17 1 dX4_becomeProduct_14 zcl_X4 tw_108 rfl rfl hc rfl rfl ?_
  refine zi_lmul 18 dX4_becomeProduct_17 rfl ?_
  refine zi_lsub 19 dX4_becomeProduct_18 rfl ?_
  refine zi_aload_n 20 dX4_becomeProduct_19 rfl rfl ?_
  refine zi_getfield 23 2 dX4_becomeProduct_20 zcl_X4 tw_113 rfl rfl hb rfl rfl ?_
  refine zi_aload_n 24 dX4_becomeProduct_23 rfl rfl ?_
  refine zi_getfield 27 2 dX4_becomeProduct_24 zcl_X4 tw_113 rfl rfl hc rfl rfl ?_
  refine zi_lmul 28 dX4_becomeProduct_27 rfl ?_
  refine zi_lsub 29 dX4_becomeProduct_28 rfl ?_
  refine zi_aload_n 30 dX4_becomeProduct_29 rfl rfl ?_
  refine zi_getfield 33 3 dX4_becomeProduct_30 zcl_X4 tw_118 rfl rfl hb rfl rfl ?_
  refine zi_aload_n 34 dX4_becomeProduct_33 rfl rfl ?_
  refine zi_getfield 37 3 dX4_becomeProduct_34 zcl_X4 tw_118 rfl rfl hc rfl rfl ?_
  refine zi_lmul 38 dX4_becomeProduct_37 rfl ?_
  refine zi_lsub 39 dX4_becomeProduct_38 rfl ?_
  refine zi_lstore_n (lv' := [(3, _), (0, _), (1, _), (2, _)]) 40 dX4_becomeProduct_39 rfl rfl rfl ?_
  refine zi_aload_n 41 dX4_becomeProduct_40 rfl rfl ?_
  refine zi_getfield 44 0 dX4_becomeProduct_41 zcl_X4 tw_103 rfl rfl hb rfl rfl ?_
  refine zi_aload_n 45 dX4_becomeProduct_44 rfl rfl ?_
  refine zi_getfield 48 1 dX4_becomeProduct_45 zcl_X4 tw_108 rfl rfl hc rfl rfl ?_
  refine zi_lmul 49 dX4_becomeProduct_48 rfl ?_
  refine zi_aload_n 50 dX4_becomeProduct_49 rfl rfl ?_
  refine zi_getfield 53 1 dX4_becomeProduct_50 zcl_X4 tw_108 rfl rfl hb rfl rfl ?_
  refine zi_aload_n 54 dX4_becomeProduct_53 rfl rfl ?_
  refine zi_getfield 57 0 dX4_becomeProduct_54 zcl_X4 tw_103 rfl rfl hc rfl rfl ?_
  refine zi_lmul 58 dX4_becomeProduct_57 rfl ?_
  refine zi_ladd 59 dX4_becomeProduct_58 rfl ?_
  refine zi_aload_n 60 dX4_becomeProduct_59 rfl rfl ?_
  refine zi_getfield 63 2 dX4_becomeProduct_60 zcl_X4 tw_113 rfl rfl hb rfl rfl ?_
  refine zi_aload_n 64 dX4_becomeProduct_63 rfl rfl ?_
  refine zi_getfield 67 3 dX4_becomeProduct_64 zcl_X4 tw_118 rfl rfl hc rfl rfl ?_
  refine zi_lmul 68 dX4_becomeProduct_67 rfl ?_
  refine zi_ladd 69 dX4_becomeProduct_68 rfl ?_
  refine zi_aload_n 70 dX4_becomeProduct_69 rfl rfl ?_
  refine zi_getfield 73 3 dX4_becomeProduct_70 zcl_X4 tw_118 rfl rfl hb rfl rfl ?_
  refine zi_aload_n 74 dX4_becomeProduct_73 rfl rfl ?_
  refine zi_getfield 77 2 dX4_becomeProduct_74 zcl_X4 tw_113 rfl rfl hc rfl rfl ?_
  refine zi_lmul 78 dX4_becomeProduct_77 rfl ?_
  refine zi_lsub 79 dX4_becomeProduct_78 rfl ?_
  refine zi_lstore (lv' := [(5, _), (3, _), (0, _), (1, _), (2, _)]) 81 dX4_becomeProduct_79 rfl rfl rfl ?_
  refine zi_aload_n 82 dX4_becomeProduct_81 rfl rfl ?_
  refine zi_getfield 85 0 dX4_becomeProduct_82 zcl_X4 tw_103 rfl rfl hb rfl rfl ?_
  refine zi_aload_n 86 dX4_becomeProduct_85 rfl rfl ?_
  refine zi_getfield 89 2 dX4_becomeProduct_86 zcl_X4 tw_113 rfl rfl hc rfl rfl ?_
  refine zi_lmul 90 dX4_becomeProduct_89 rfl ?_
  refine zi_aload_n 91 dX4_becomeProduct_90 rfl rfl ?_
  refine zi_getfield 94 1 dX4_becomeProduct_91 zcl_X4 tw_108 rfl rfl hb rfl rfl ?_
  refine zi_aload_n 95 dX4_becomeProduct_94 rfl rfl ?_
  refine zi_getfield 98 3 dX4_becomeProduct_95 zcl_X4 tw_118 rfl rfl hc rfl rfl ?_
  refine zi_lmul 99 dX4_becomeProduct_98 rfl ?_
  refine zi_lsub 100 dX4_becomeProduct_99 rfl ?_
  refine zi_aload_n 101 dX4_becomeProduct_100 rfl rfl ?_
  refine zi_getfield 104 2 dX4_becomeProduct_101 zcl_X4 tw_113 rfl rfl hb rfl rfl ?_
  refine zi_aload_n 105 dX4_becomeProduct_104 rfl rfl ?_
  refine zi_getfield 108 0 dX4_becomeProduct_105 zcl_X4 tw_103 rfl rfl hc rfl rfl ?_
  refine zi_lmul 109 dX4_becomeProduct_108 rfl ?_
  refine zi_ladd 110 dX4_becomeProduct_109 rfl ?_
  refine zi_aload_n 111 dX4_becomeProduct_110 rfl rfl ?_
  refine zi_getfield 114 3 dX4_becomeProduct_111 zcl_X4 tw_118 rfl rfl hb rfl rfl ?_
  refine zi_aload_n 115 dX4_becomeProduct_114 rfl rfl ?_
  refine zi_getfield 118 1 dX4_becomeProduct_115 zcl_X4 tw_108 rfl rfl hc rfl rfl ?_
  refine zi_lmul 119 dX4_becomeProduct_118 rfl ?_
  refine zi_ladd 120 dX4_becomeProduct_119 rfl ?_
  refine zi_lstore (lv' := [(7, _), (5, _), (3, _), (0, _), (1, _), (2, _)]) 122 dX4_becomeProduct_120 rfl rfl rfl ?_
  refine zi_aload_n 123 dX4_becomeProduct_122 rfl rfl ?_
  refine zi_getfield 126 0 dX4_becomeProduct_123 zcl_X4 tw_103 rfl rfl hb rfl rfl ?_
  refine zi_aload_n 127 dX4_becomeProduct_126 rfl rfl ?_
  refine zi_getfield 130 3 dX4_becomeProduct_127 zcl_X4 tw_118 rfl rfl hc rfl rfl ?_
  refine zi_lmul 131 dX4_becomeProduct_130 rfl ?_
  refine zi_aload_n 132 dX4_becomeProduct_131 rfl rfl ?_
  refine zi_getfield 135 1 dX4_becomeProduct_132 zcl_X4 tw_108 rfl rfl hb rfl rfl ?_
  refine zi_aload_n 136 dX4_becomeProduct_135 rfl rfl ?_
  refine zi_getfield 139 2 dX4_becomeProduct_136 zcl_X4 tw_113 rfl rfl hc rfl rfl ?_
  refine zi_lmul 140 dX4_becomeProduct_139 rfl ?_
  refine zi_ladd 141 dX4_becomeProduct_140 rfl ?_
  refine zi_aload_n 142 dX4_becomeProduct_141 rfl rfl ?_
  refine zi_getfield 145 2 dX4_becomeProduct_142 zcl_X4 tw_113 rfl rfl hb rfl rfl ?_
  refine zi_aload_n 146 dX4_becomeProduct_145 rfl rfl ?_
  refine zi_getfield 149 1 dX4_becomeProduct_146 zcl_X4 tw_108 rfl rfl hc rfl rfl ?_
  refine zi_lmul 150 dX4_becomeProduct_149 rfl ?_
  refine zi_lsub 151 dX4_becomeProduct_150 rfl ?_
  refine zi_aload_n 152 dX4_becomeProduct_151 rfl rfl ?_
  refine zi_getfield 155 3 dX4_becomeProduct_152 zcl_X4 tw_118 rfl rfl hb rfl rfl ?_
  refine zi_aload_n 156 dX4_becomeProduct_155 rfl rfl ?_
  refine zi_getfield 159 0 dX4_becomeProduct_156 zcl_X4 tw_103 rfl rfl hc rfl rfl ?_
  refine zi_lmul 160 dX4_becomeProduct_159 rfl ?_
  refine zi_ladd 161 dX4_becomeProduct_160 rfl ?_
  refine zi_lstore (lv' := [(9, _), (7, _), (5, _), (3, _), (0, _), (1, _), (2, _)]) 163 dX4_becomeProduct_161 rfl rfl rfl ?_
  refine zi_aload_n 164 dX4_becomeProduct_163 rfl rfl ?_
  refine zi_lload_n 165 dX4_becomeProduct_164 rfl rfl ?_
  refine zi_ldc2 168 dX4_becomeProduct_165 tw_476 rfl ?_
  refine zi_ldiv 169 dX4_becomeProduct_168 (by decide) rfl ?_
  refine zi_lload 171 dX4_becomeProduct_169 rfl rfl ?_
  refine zi_ldc2 174 dX4_becomeProduct_171 tw_476 rfl ?_
  refine zi_ldiv 175 dX4_becomeProduct_174 (by decide) rfl ?_
  refine zi_lload 177 dX4_becomeProduct_175 rfl rfl ?_
  refine zi_ldc2 180 dX4_becomeProduct_177 tw_476 rfl ?_
  refine zi_ldiv 181 dX4_becomeProduct_180 (by decide) rfl ?_
  refine zi_lload 183 dX4_becomeProduct_181 rfl rfl ?_
  refine zi_ldc2 186 dX4_becomeProduct_183 tw_476 rfl ?_
  refine zi_ldiv 187 dX4_becomeProduct_186 (by decide) rfl ?_
  refine zc_virtual (n' := (0, 0)) (md' := mX4_become) 190 dX4_becomeProduct_187 tw_447 zv_X4_become zcl_X4 (s_X4_become B h a P ha _ _ _ _) ha rfl rfl rfl rfl rfl rfl rfl rfl (zk_n ?_)
  exact zr_void hZ dX4_becomeProduct_190 rfl ⟨rfl, rfl⟩

set_option maxHeartbeats 4000000 in
set_option maxRecDepth 100000 in
theorem s_X4_becomeBack (B : zBB) (h : zHp) (a : Nat) (P : z4) (ha : h a = some (zFo P)) (b : Nat) (Q : z4) (hb : h b = some (zFo Q)) : zSpec mX4_becomeBack B (1, 0, 0) [.ref a, .ref b] h (zPf none (zU h a (zFo (zBk Q)))) := by
  refine zSpec.of (by decide) (Nat.le_of_ble_eq_true rfl) (fun X hZ => ?_)
  show zG X mX4_becomeBack B (1, 0, 0) (0, 0) 0 [(0, .ref a), (1, .ref b)] [] h
  refine zi_aload_n 1 dX4_becomeBack_0 rfl rfl ?_
  refine zi_aload_n 2 dX4_becomeBack_1 rfl rfl ?_
  refine zi_getfield 5 0 dX4_becomeBack_2 zcl_X4 tw_103 rfl rfl hb rfl rfl ?_
  refine zi_aload_n 6 dX4_becomeBack_5 rfl rfl ?_
  refine zi_getfield 9 1 dX4_becomeBack_6 zcl_X4 tw_108 rfl rfl hb rfl rfl ?_
  refine zi_lneg 10 dX4_becomeBack_9 rfl ?_
  refine zi_aload_n 11 dX4_becomeBack_10 rfl rfl ?_
  refine zi_getfield 14 2 dX4_becomeBack_11 zcl_X4 tw_113 rfl rfl hb rfl rfl ?_
  refine zi_lneg 15 dX4_becomeBack_14 rfl ?_
  refine zi_aload_n 16 dX4_becomeBack_15 rfl rfl ?_
  refine zi_getfield 19 3 dX4_becomeBack_16 zcl_X4 tw_118 rfl rfl hb rfl rfl ?_
  refine zi_lneg 20 dX4_becomeBack_19 rfl ?_
  refine zc_virtual (n' := (0, 0)) (md' := mX4_become) 23 dX4_becomeBack_20 tw_447 zv_X4_become zcl_X4 (s_X4_become B h a P ha _ _ _ _) ha rfl rfl rfl rfl rfl rfl rfl rfl (zk_n ?_)
  exact zr_void hZ dX4_becomeBack_23 rfl ⟨rfl, rfl⟩

set_option maxHeartbeats 4000000 in
set_option maxRecDepth 100000 in
theorem s_X4_divideBy (B : zBB) (h : zHp) (a : Nat) (P : z4) (ha : h a = some (zFo P)) (d : Int64) : zSpec mX4_divideBy B (1, 0, 0) [.ref a, .long d] h (zPf none (if d = 0 then h else zU h a (zFo (zDiv P d)))) := by
  refine zSpec.of (by decide) (Nat.le_of_ble_eq_true rfl) (fun X hZ => ?_)
  show zG X mX4_divideBy B (1, 0, 0) (0, 0) 0 [(0, .ref a), (1, .long d)] [] h
  refine zi_lload_n 1 dX4_divideBy_0 rfl rfl ?_
  refine zi_lconst (v := 0) 2 dX4_divideBy_1 (by decide) rfl ?_
  refine zj_ne 6 7 dX4_divideBy_2 rfl dX4_divideBy_3 (by decide) rfl (fun c_3 => ?_) (fun c_3 => ?_)
  ·
    refine zi_aload_n 8 dX4_divideBy_7 rfl rfl ?_
    refine zi_aload_n 9 dX4_divideBy_8 rfl rfl ?_
    refine zi_getfield 12 0 dX4_divideBy_9 zcl_X4 tw_103 rfl rfl ha rfl rfl ?_
    refine zi_lload_n 13 dX4_divideBy_12 rfl rfl ?_
    refine zi_ldiv 14 dX4_divideBy_13 c_3 rfl ?_
    refine zi_aload_n 15 dX4_divideBy_14 rfl rfl ?_
    refine zi_getfield 18 1 dX4_divideBy_15 zcl_X4 tw_108 rfl rfl ha rfl rfl ?_
    refine zi_lload_n 19 dX4_divideBy_18 rfl rfl ?_
    refine zi_ldiv 20 dX4_divideBy_19 c_3 rfl ?_
    refine zi_aload_n 21 dX4_divideBy_20 rfl rfl ?_
    refine zi_getfield 24 2 dX4_divideBy_21 zcl_X4 tw_113 rfl rfl ha rfl rfl ?_
    refine zi_lload_n 25 dX4_divideBy_24 rfl rfl ?_
    refine zi_ldiv 26 dX4_divideBy_25 c_3 rfl ?_
    refine zi_aload_n 27 dX4_divideBy_26 rfl rfl ?_
    refine zi_getfield 30 3 dX4_divideBy_27 zcl_X4 tw_118 rfl rfl ha rfl rfl ?_
    refine zi_lload_n 31 dX4_divideBy_30 rfl rfl ?_
    refine zi_ldiv 32 dX4_divideBy_31 c_3 rfl ?_
    refine zc_virtual (n' := (0, 0)) (md' := mX4_become) 35 dX4_divideBy_32 tw_447 zv_X4_become zcl_X4 (s_X4_become B h a P ha _ _ _ _) ha rfl rfl rfl rfl rfl rfl rfl rfl (zk_n ?_)
    exact zr_void hZ dX4_divideBy_35 rfl ⟨rfl, by simp [*, zDiv]⟩
  ·
    exact zr_void hZ dX4_divideBy_6 rfl ⟨rfl, by simp [*, zDiv]⟩

set_option maxHeartbeats 4000000 in
set_option maxRecDepth 100000 in
theorem s_X4_numberAt (B : zBB) (h : zHp) (a : Nat) (P : z4) (ha : h a = some (zFo P)) (k : Int32) : zSpec mX4_numberAt B (0, 0, 0) [.ref a, .int k] h (zPf (some (.long (zAt P k))) h) := by
  refine zSpec.of (by decide) (Nat.le_of_ble_eq_true rfl) (fun X hZ => ?_)
  show zG X mX4_numberAt B (0, 0, 0) (0, 0) 0 [(0, .ref a), (1, .int k)] [] h
  refine zi_iload_n 1 dX4_numberAt_0 rfl rfl ?_
  refine zi_if_ne 4 11 dX4_numberAt_1 (by decide) rfl (fun c_1 => ?_) (fun c_1 => ?_)
  ·
    refine zi_iload_n 12 dX4_numberAt_11 rfl rfl ?_
    refine zi_iconst (v := 1) 13 dX4_numberAt_12 (by decide) rfl ?_
    refine zi_icmp_ne 16 23 dX4_numberAt_13 (by decide) rfl (fun c_13 => ?_) (fun c_13 => ?_)
    ·
      refine zi_iload_n 24 dX4_numberAt_23 rfl rfl ?_
      refine zi_iconst (v := 2) 25 dX4_numberAt_24 (by decide) rfl ?_
      refine zi_icmp_ne 28 35 dX4_numberAt_25 (by decide) rfl (fun c_25 => ?_) (fun c_25 => ?_)
      ·
        refine zi_aload_n 36 dX4_numberAt_35 rfl rfl ?_
        refine zi_getfield 39 3 dX4_numberAt_36 zcl_X4 tw_118 rfl rfl ha rfl rfl ?_
        exact zr_long hZ dX4_numberAt_39 rfl ⟨by simp [zAt, *], rfl⟩
      ·
        refine zi_aload_n 29 dX4_numberAt_28 rfl rfl ?_
        refine zi_getfield 32 2 dX4_numberAt_29 zcl_X4 tw_113 rfl rfl ha rfl rfl ?_
        refine zi_goto 39 dX4_numberAt_32 (by decide) ?_
        exact zr_long hZ dX4_numberAt_39 rfl ⟨by simp [zAt, *], rfl⟩
    ·
      refine zi_aload_n 17 dX4_numberAt_16 rfl rfl ?_
      refine zi_getfield 20 1 dX4_numberAt_17 zcl_X4 tw_108 rfl rfl ha rfl rfl ?_
      refine zi_goto 39 dX4_numberAt_20 (by decide) ?_
      exact zr_long hZ dX4_numberAt_39 rfl ⟨by simp [zAt, *], rfl⟩
  ·
    refine zi_aload_n 5 dX4_numberAt_4 rfl rfl ?_
    refine zi_getfield 8 0 dX4_numberAt_5 zcl_X4 tw_103 rfl rfl ha rfl rfl ?_
    refine zi_goto 39 dX4_numberAt_8 (by decide) ?_
    exact zr_long hZ dX4_numberAt_39 rfl ⟨by simp [zAt, *], rfl⟩

set_option maxHeartbeats 4000000 in
set_option maxRecDepth 100000 in
theorem s_X4_squareSum (B : zBB) (h : zHp) (a : Nat) (P : z4) (ha : h a = some (zFo P)) : zSpec mX4_squareSum B (0, 0, 0) [.ref a] h (zPf (some (.long (zSq P))) h) := by
  refine zSpec.of (by decide) (Nat.le_of_ble_eq_true rfl) (fun X hZ => ?_)
  show zG X mX4_squareSum B (0, 0, 0) (0, 0) 0 [(0, .ref a)] [] h
  refine zi_aload_n 1 dX4_squareSum_0 rfl rfl ?_
  refine zi_getfield 4 0 dX4_squareSum_1 zcl_X4 tw_103 rfl rfl ha rfl rfl ?_
  refine zi_aload_n 5 dX4_squareSum_4 rfl rfl ?_
  refine zi_getfield 8 0 dX4_squareSum_5 zcl_X4 tw_103 rfl rfl ha rfl rfl ?_
  refine zi_lmul 9 dX4_squareSum_8 rfl ?_
  refine zi_aload_n 10 dX4_squareSum_9 rfl rfl ?_
  refine zi_getfield 13 1 dX4_squareSum_10 zcl_X4 tw_108 rfl rfl ha rfl rfl ?_
  refine zi_aload_n 14 dX4_squareSum_13 rfl rfl ?_
  refine zi_getfield 17 1 dX4_squareSum_14 zcl_X4 tw_108 rfl rfl ha rfl rfl ?_
  refine zi_lmul 18 dX4_squareSum_17 rfl ?_
  refine zi_ladd 19 dX4_squareSum_18 rfl ?_
  refine zi_aload_n 20 dX4_squareSum_19 rfl rfl ?_
  refine zi_getfield 23 2 dX4_squareSum_20 zcl_X4 tw_113 rfl rfl ha rfl rfl ?_
  refine zi_aload_n 24 dX4_squareSum_23 rfl rfl ?_
  refine zi_getfield 27 2 dX4_squareSum_24 zcl_X4 tw_113 rfl rfl ha rfl rfl ?_
  refine zi_lmul 28 dX4_squareSum_27 rfl ?_
  refine zi_ladd 29 dX4_squareSum_28 rfl ?_
  refine zi_aload_n 30 dX4_squareSum_29 rfl rfl ?_
  refine zi_getfield 33 3 dX4_squareSum_30 zcl_X4 tw_118 rfl rfl ha rfl rfl ?_
  refine zi_aload_n 34 dX4_squareSum_33 rfl rfl ?_
  refine zi_getfield 37 3 dX4_squareSum_34 zcl_X4 tw_118 rfl rfl ha rfl rfl ?_
  refine zi_lmul 38 dX4_squareSum_37 rfl ?_
  refine zi_ladd 39 dX4_squareSum_38 rfl ?_
  exact zr_long hZ dX4_squareSum_39 rfl ⟨rfl, rfl⟩

set_option maxHeartbeats 4000000 in
set_option maxRecDepth 100000 in
theorem s_X4_ownNorm (B : zBB) (h : zHp) (a : Nat) (P : z4) (ha : h a = some (zFo P)) : zSpec mX4_ownNorm B (1, 0, 0) [.ref a] h (zPf (some (.long (zNm P))) h) := by
  refine zSpec.of (by decide) (Nat.le_of_ble_eq_true rfl) (fun X hZ => ?_)
  show zG X mX4_ownNorm B (1, 0, 0) (0, 0) 0 [(0, .ref a)] [] h
  refine zi_aload_n 1 dX4_ownNorm_0 rfl rfl ?_
  refine zc_virtual (n' := (0, 0)) (md' := mX4_squareSum) 4 dX4_ownNorm_1 tw_432 zv_X4_squareSum zcl_X4 (s_X4_squareSum B h a P ha) ha rfl rfl rfl rfl rfl rfl rfl rfl (zk_f ?_)
  refine zi_ldc2 7 dX4_ownNorm_4 tw_436 rfl ?_
  refine zi_ldiv 8 dX4_ownNorm_7 (by decide) rfl ?_
  exact zr_long hZ dX4_ownNorm_8 rfl ⟨rfl, rfl⟩

set_option maxHeartbeats 4000000 in
set_option maxRecDepth 100000 in
theorem s_X4_isZero (B : zBB) (h : zHp) (a : Nat) (P : z4) (ha : h a = some (zFo P)) : zSpec mX4_isZero B (0, 0, 0) [.ref a] h (zPf (some (.int (if zNil P then 1 else 0))) h) := by
  refine zSpec.of (by decide) (Nat.le_of_ble_eq_true rfl) (fun X hZ => ?_)
  show zG X mX4_isZero B (0, 0, 0) (0, 0) 0 [(0, .ref a)] [] h
  refine zi_aload_n 1 dX4_isZero_0 rfl rfl ?_
  refine zi_getfield 4 0 dX4_isZero_1 zcl_X4 tw_103 rfl rfl ha rfl rfl ?_
  refine zi_lconst (v := 0) 5 dX4_isZero_4 (by decide) rfl ?_
  refine zj_ne 9 40 dX4_isZero_5 rfl dX4_isZero_6 (by decide) rfl (fun c_6 => ?_) (fun c_6 => ?_)
  ·
    refine zi_iconst (v := 0) 41 dX4_isZero_40 (by decide) rfl ?_
    exact zr_int hZ dX4_isZero_41 rfl (by decide) ⟨by simp [zNil, *], rfl⟩
  ·
    refine zi_aload_n 10 dX4_isZero_9 rfl rfl ?_
    refine zi_getfield 13 1 dX4_isZero_10 zcl_X4 tw_108 rfl rfl ha rfl rfl ?_
    refine zi_lconst (v := 0) 14 dX4_isZero_13 (by decide) rfl ?_
    refine zj_ne 18 40 dX4_isZero_14 rfl dX4_isZero_15 (by decide) rfl (fun c_15 => ?_) (fun c_15 => ?_)
    ·
      refine zi_iconst (v := 0) 41 dX4_isZero_40 (by decide) rfl ?_
      exact zr_int hZ dX4_isZero_41 rfl (by decide) ⟨by simp [zNil, *], rfl⟩
    ·
      refine zi_aload_n 19 dX4_isZero_18 rfl rfl ?_
      refine zi_getfield 22 2 dX4_isZero_19 zcl_X4 tw_113 rfl rfl ha rfl rfl ?_
      refine zi_lconst (v := 0) 23 dX4_isZero_22 (by decide) rfl ?_
      refine zj_ne 27 40 dX4_isZero_23 rfl dX4_isZero_24 (by decide) rfl (fun c_24 => ?_) (fun c_24 => ?_)
      ·
        refine zi_iconst (v := 0) 41 dX4_isZero_40 (by decide) rfl ?_
        exact zr_int hZ dX4_isZero_41 rfl (by decide) ⟨by simp [zNil, *], rfl⟩
      ·
        refine zi_aload_n 28 dX4_isZero_27 rfl rfl ?_
        refine zi_getfield 31 3 dX4_isZero_28 zcl_X4 tw_118 rfl rfl ha rfl rfl ?_
        refine zi_lconst (v := 0) 32 dX4_isZero_31 (by decide) rfl ?_
        refine zj_ne 36 40 dX4_isZero_32 rfl dX4_isZero_33 (by decide) rfl (fun c_33 => ?_) (fun c_33 => ?_)
        ·
          refine zi_iconst (v := 0) 41 dX4_isZero_40 (by decide) rfl ?_
          exact zr_int hZ dX4_isZero_41 rfl (by decide) ⟨by simp [zNil, *], rfl⟩
        ·
          refine zi_iconst (v := 1) 37 dX4_isZero_36 (by decide) rfl ?_
          refine zi_goto 41 dX4_isZero_37 (by decide) ?_
          exact zr_int hZ dX4_isZero_41 rfl (by decide) ⟨by simp [zNil, *], rfl⟩

set_option maxHeartbeats 4000000 in
set_option maxRecDepth 100000 in
theorem s_X4_isAllEven (B : zBB) (h : zHp) (a : Nat) (P : z4) (ha : h a = some (zFo P)) : zSpec mX4_isAllEven B (0, 0, 0) [.ref a] h (zPf (some (.int (if zEv P then 1 else 0))) h) := by
  refine zSpec.of (by decide) (Nat.le_of_ble_eq_true rfl) (fun X hZ => ?_)
  show zG X mX4_isAllEven B (0, 0, 0) (0, 0) 0 [(0, .ref a)] [] h
  refine zi_aload_n 1 dX4_isAllEven_0 rfl rfl ?_
  refine zi_getfield 4 0 dX4_isAllEven_1 zcl_X4 tw_103 rfl rfl ha rfl rfl ?_
  refine zi_aload_n 5 dX4_isAllEven_4 rfl rfl ?_
  refine zi_getfield 8 1 dX4_isAllEven_5 zcl_X4 tw_108 rfl rfl ha rfl rfl ?_
  refine zi_lor 9 dX4_isAllEven_8 rfl ?_
  refine zi_aload_n 10 dX4_isAllEven_9 rfl rfl ?_
  refine zi_getfield 13 2 dX4_isAllEven_10 zcl_X4 tw_113 rfl rfl ha rfl rfl ?_
  refine zi_lor 14 dX4_isAllEven_13 rfl ?_
  refine zi_aload_n 15 dX4_isAllEven_14 rfl rfl ?_
  refine zi_getfield 18 3 dX4_isAllEven_15 zcl_X4 tw_118 rfl rfl ha rfl rfl ?_
  refine zi_lor 19 dX4_isAllEven_18 rfl ?_
  refine zi_lconst (v := 1) 20 dX4_isAllEven_19 (by decide) rfl ?_
  refine zi_land 21 dX4_isAllEven_20 rfl ?_
  refine zi_lconst (v := 0) 22 dX4_isAllEven_21 (by decide) rfl ?_
  refine zj_ne 26 30 dX4_isAllEven_22 rfl dX4_isAllEven_23 (by decide) rfl (fun c_23 => ?_) (fun c_23 => ?_)
  ·
    refine zi_iconst (v := 0) 31 dX4_isAllEven_30 (by decide) rfl ?_
    exact zr_int hZ dX4_isAllEven_31 rfl (by decide) ⟨by simp [zEv, *], rfl⟩
  ·
    refine zi_iconst (v := 1) 27 dX4_isAllEven_26 (by decide) rfl ?_
    refine zi_goto 31 dX4_isAllEven_27 (by decide) ?_
    exact zr_int hZ dX4_isAllEven_31 rfl (by decide) ⟨by simp [zEv, *], rfl⟩

set_option maxHeartbeats 4000000 in
set_option maxRecDepth 100000 in
theorem s_X4_isAllOdd (B : zBB) (h : zHp) (a : Nat) (P : z4) (ha : h a = some (zFo P)) : zSpec mX4_isAllOdd B (0, 0, 0) [.ref a] h (zPf (some (.int (if zOd P then 1 else 0))) h) := by
  refine zSpec.of (by decide) (Nat.le_of_ble_eq_true rfl) (fun X hZ => ?_)
  show zG X mX4_isAllOdd B (0, 0, 0) (0, 0) 0 [(0, .ref a)] [] h
  refine zi_aload_n 1 dX4_isAllOdd_0 rfl rfl ?_
  refine zi_getfield 4 0 dX4_isAllOdd_1 zcl_X4 tw_103 rfl rfl ha rfl rfl ?_
  refine zi_aload_n 5 dX4_isAllOdd_4 rfl rfl ?_
  refine zi_getfield 8 1 dX4_isAllOdd_5 zcl_X4 tw_108 rfl rfl ha rfl rfl ?_
  refine zi_land 9 dX4_isAllOdd_8 rfl ?_
  refine zi_aload_n 10 dX4_isAllOdd_9 rfl rfl ?_
  refine zi_getfield 13 2 dX4_isAllOdd_10 zcl_X4 tw_113 rfl rfl ha rfl rfl ?_
  refine zi_land 14 dX4_isAllOdd_13 rfl ?_
  refine zi_aload_n 15 dX4_isAllOdd_14 rfl rfl ?_
  refine zi_getfield 18 3 dX4_isAllOdd_15 zcl_X4 tw_118 rfl rfl ha rfl rfl ?_
  refine zi_land 19 dX4_isAllOdd_18 rfl ?_
  refine zi_lconst (v := 1) 20 dX4_isAllOdd_19 (by decide) rfl ?_
  refine zi_land 21 dX4_isAllOdd_20 rfl ?_
  refine zi_lconst (v := 1) 22 dX4_isAllOdd_21 (by decide) rfl ?_
  refine zj_ne 26 30 dX4_isAllOdd_22 rfl dX4_isAllOdd_23 (by decide) rfl (fun c_23 => ?_) (fun c_23 => ?_)
  ·
    refine zi_iconst (v := 0) 31 dX4_isAllOdd_30 (by decide) rfl ?_
    exact zr_int hZ dX4_isAllOdd_31 rfl (by decide) ⟨by simp [zOd, *], rfl⟩
  ·
    refine zi_iconst (v := 1) 27 dX4_isAllOdd_26 (by decide) rfl ?_
    refine zi_goto 31 dX4_isAllOdd_27 (by decide) ?_
    exact zr_int hZ dX4_isAllOdd_31 rfl (by decide) ⟨by simp [zOd, *], rfl⟩

set_option maxHeartbeats 4000000 in
set_option maxRecDepth 100000 in
theorem s_X4_isFar (B : zBB) (h : zHp) (x : Int64) : zSpec mX4_isFar B (0, 0, 0) [.long x] h (zPf (some (.int (if zFar x then 1 else 0))) h) := by
  refine zSpec.of (by decide) (Nat.le_of_ble_eq_true rfl) (fun X hZ => ?_)
  show zG X mX4_isFar B (0, 0, 0) (0, 0) 0 [(0, .long x)] [] h
  refine zi_lload_n 1 dX4_isFar_0 rfl rfl ?_
  refine zi_ldc2 4 dX4_isFar_1 tw_426 rfl ?_
  refine zj_lt 8 16 dX4_isFar_4 rfl dX4_isFar_5 (by decide) rfl (fun c_5 => ?_) (fun c_5 => ?_)
  ·
    refine zi_iconst (v := 1) 17 dX4_isFar_16 (by decide) rfl ?_
    refine zi_goto 21 dX4_isFar_17 (by decide) ?_
    exact zr_int hZ dX4_isFar_21 rfl (by decide) ⟨by simp [zFar, *], rfl⟩
  ·
    refine zi_lload_n 9 dX4_isFar_8 rfl rfl ?_
    refine zi_ldc2 12 dX4_isFar_9 tw_427 rfl ?_
    refine zj_le 16 20 dX4_isFar_12 rfl dX4_isFar_13 (by decide) rfl (fun c_13 => ?_) (fun c_13 => ?_)
    ·
      refine zi_iconst (v := 0) 21 dX4_isFar_20 (by decide) rfl ?_
      exact zr_int hZ dX4_isFar_21 rfl (by decide) ⟨by simp [zFar, *], rfl⟩
    ·
      refine zi_iconst (v := 1) 17 dX4_isFar_16 (by decide) rfl ?_
      refine zi_goto 21 dX4_isFar_17 (by decide) ?_
      exact zr_int hZ dX4_isFar_21 rfl (by decide) ⟨by simp [zFar, *], rfl⟩

set_option maxHeartbeats 4000000 in
set_option maxRecDepth 100000 in
theorem s_X4_isLessThan (B : zBB) (h : zHp) (a : Nat) (P : z4) (ha : h a = some (zFo P)) (b : Nat) (Q : z4) (hb : h b = some (zFo Q)) : zSpec mX4_isLessThan B (0, 0, 0) [.ref a, .ref b] h (zPf (some (.int (if zLess P Q then 1 else 0))) h) := by
  refine zSpec.of (by decide) (Nat.le_of_ble_eq_true rfl) (fun X hZ => ?_)
  show zG X mX4_isLessThan B (0, 0, 0) (0, 0) 0 [(0, .ref a), (1, .ref b)] [] h
  refine zi_aload_n 1 dX4_isLessThan_0 rfl rfl ?_
  refine zi_getfield 4 0 dX4_isLessThan_1 zcl_X4 tw_103 rfl rfl ha rfl rfl ?_
  refine zi_aload_n 5 dX4_isLessThan_4 rfl rfl ?_
  refine zi_getfield 8 0 dX4_isLessThan_5 zcl_X4 tw_103 rfl rfl hb rfl rfl ?_
  refine zj_eq 12 30 dX4_isLessThan_8 rfl dX4_isLessThan_9 (by decide) rfl (fun c_9 => ?_) (fun c_9 => ?_)
  ·
    refine zi_aload_n 31 dX4_isLessThan_30 rfl rfl ?_
    refine zi_getfield 34 1 dX4_isLessThan_31 zcl_X4 tw_108 rfl rfl ha rfl rfl ?_
    refine zi_aload_n 35 dX4_isLessThan_34 rfl rfl ?_
    refine zi_getfield 38 1 dX4_isLessThan_35 zcl_X4 tw_108 rfl rfl hb rfl rfl ?_
    refine zj_eq 42 60 dX4_isLessThan_38 rfl dX4_isLessThan_39 (by decide) rfl (fun c_39 => ?_) (fun c_39 => ?_)
    ·
      refine zi_aload_n 61 dX4_isLessThan_60 rfl rfl ?_
      refine zi_getfield 64 2 dX4_isLessThan_61 zcl_X4 tw_113 rfl rfl ha rfl rfl ?_
      refine zi_aload_n 65 dX4_isLessThan_64 rfl rfl ?_
      refine zi_getfield 68 2 dX4_isLessThan_65 zcl_X4 tw_113 rfl rfl hb rfl rfl ?_
      refine zj_eq 72 90 dX4_isLessThan_68 rfl dX4_isLessThan_69 (by decide) rfl (fun c_69 => ?_) (fun c_69 => ?_)
      ·
        refine zi_aload_n 91 dX4_isLessThan_90 rfl rfl ?_
        refine zi_getfield 94 3 dX4_isLessThan_91 zcl_X4 tw_118 rfl rfl ha rfl rfl ?_
        refine zi_aload_n 95 dX4_isLessThan_94 rfl rfl ?_
        refine zi_getfield 98 3 dX4_isLessThan_95 zcl_X4 tw_118 rfl rfl hb rfl rfl ?_
        refine zj_ge 102 106 dX4_isLessThan_98 rfl dX4_isLessThan_99 (by decide) rfl (fun c_99 => ?_) (fun c_99 => ?_)
        ·
          refine zi_iconst (v := 0) 107 dX4_isLessThan_106 (by decide) rfl ?_
          exact zr_int hZ dX4_isLessThan_107 rfl (by decide) ⟨by simp [zLess, *], rfl⟩
        ·
          refine zi_iconst (v := 1) 103 dX4_isLessThan_102 (by decide) rfl ?_
          refine zi_goto 107 dX4_isLessThan_103 (by decide) ?_
          exact zr_int hZ dX4_isLessThan_107 rfl (by decide) ⟨by simp [zLess, *], rfl⟩
      ·
        refine zi_aload_n 73 dX4_isLessThan_72 rfl rfl ?_
        refine zi_getfield 76 2 dX4_isLessThan_73 zcl_X4 tw_113 rfl rfl ha rfl rfl ?_
        refine zi_aload_n 77 dX4_isLessThan_76 rfl rfl ?_
        refine zi_getfield 80 2 dX4_isLessThan_77 zcl_X4 tw_113 rfl rfl hb rfl rfl ?_
        refine zj_ge 84 88 dX4_isLessThan_80 rfl dX4_isLessThan_81 (by decide) rfl (fun c_81 => ?_) (fun c_81 => ?_)
        ·
          refine zi_iconst (v := 0) 89 dX4_isLessThan_88 (by decide) rfl ?_
          exact zr_int hZ dX4_isLessThan_89 rfl (by decide) ⟨by simp [zLess, *], rfl⟩
        ·
          refine zi_iconst (v := 1) 85 dX4_isLessThan_84 (by decide) rfl ?_
          refine zi_goto 89 dX4_isLessThan_85 (by decide) ?_
          exact zr_int hZ dX4_isLessThan_89 rfl (by decide) ⟨by simp [zLess, *], rfl⟩
    ·
      refine zi_aload_n 43 dX4_isLessThan_42 rfl rfl ?_
      refine zi_getfield 46 1 dX4_isLessThan_43 zcl_X4 tw_108 rfl rfl ha rfl rfl ?_
      refine zi_aload_n 47 dX4_isLessThan_46 rfl rfl ?_
      refine zi_getfield 50 1 dX4_isLessThan_47 zcl_X4 tw_108 rfl rfl hb rfl rfl ?_
      refine zj_ge 54 58 dX4_isLessThan_50 rfl dX4_isLessThan_51 (by decide) rfl (fun c_51 => ?_) (fun c_51 => ?_)
      ·
        refine zi_iconst (v := 0) 59 dX4_isLessThan_58 (by decide) rfl ?_
        exact zr_int hZ dX4_isLessThan_59 rfl (by decide) ⟨by simp [zLess, *], rfl⟩
      ·
        refine zi_iconst (v := 1) 55 dX4_isLessThan_54 (by decide) rfl ?_
        refine zi_goto 59 dX4_isLessThan_55 (by decide) ?_
        exact zr_int hZ dX4_isLessThan_59 rfl (by decide) ⟨by simp [zLess, *], rfl⟩
  ·
    refine zi_aload_n 13 dX4_isLessThan_12 rfl rfl ?_
    refine zi_getfield 16 0 dX4_isLessThan_13 zcl_X4 tw_103 rfl rfl ha rfl rfl ?_
    refine zi_aload_n 17 dX4_isLessThan_16 rfl rfl ?_
    refine zi_getfield 20 0 dX4_isLessThan_17 zcl_X4 tw_103 rfl rfl hb rfl rfl ?_
    refine zj_ge 24 28 dX4_isLessThan_20 rfl dX4_isLessThan_21 (by decide) rfl (fun c_21 => ?_) (fun c_21 => ?_)
    ·
      refine zi_iconst (v := 0) 29 dX4_isLessThan_28 (by decide) rfl ?_
      exact zr_int hZ dX4_isLessThan_29 rfl (by decide) ⟨by simp [zLess, *], rfl⟩
    ·
      refine zi_iconst (v := 1) 25 dX4_isLessThan_24 (by decide) rfl ?_
      refine zi_goto 29 dX4_isLessThan_25 (by decide) ?_
      exact zr_int hZ dX4_isLessThan_29 rfl (by decide) ⟨by simp [zLess, *], rfl⟩

set_option maxHeartbeats 4000000 in
set_option maxRecDepth 100000 in
theorem s_X4_isMultipleOf (B : zBB) (h : zHp) (a : Nat) (P : z4) (ha : h a = some (zFo P)) (b : Nat) (Q : z4) (hb : h b = some (zFo Q)) : zSpec mX4_isMultipleOf B (0, 0, 0) [.ref a, .ref b] h (zPf (some (.int (if zPar P Q then 1 else 0))) h) := by
  refine zSpec.of (by decide) (Nat.le_of_ble_eq_true rfl) (fun X hZ => ?_)
  show zG X mX4_isMultipleOf B (0, 0, 0) (0, 0) 0 [(0, .ref a), (1, .ref b)] [] h
  refine zi_aload_n 1 dX4_isMultipleOf_0 rfl rfl ?_
  refine zi_getfield 4 0 dX4_isMultipleOf_1 zcl_X4 tw_103 rfl rfl ha rfl rfl ?_
  refine zi_aload_n 5 dX4_isMultipleOf_4 rfl rfl ?_
  refine zi_getfield 8 1 dX4_isMultipleOf_5 zcl_X4 tw_108 rfl rfl hb rfl rfl ?_
  refine zi_lmul 9 dX4_isMultipleOf_8 rfl ?_
  refine zi_aload_n 10 dX4_isMultipleOf_9 rfl rfl ?_
  refine zi_getfield 13 1 dX4_isMultipleOf_10 zcl_X4 tw_108 rfl rfl ha rfl rfl ?_
  refine zi_aload_n 14 dX4_isMultipleOf_13 rfl rfl ?_
  refine zi_getfield 17 0 dX4_isMultipleOf_14 zcl_X4 tw_103 rfl rfl hb rfl rfl ?_
  refine zi_lmul 18 dX4_isMultipleOf_17 rfl ?_
  refine zj_ne 22 136 dX4_isMultipleOf_18 rfl dX4_isMultipleOf_19 (by decide) rfl (fun c_19 => ?_) (fun c_19 => ?_)
  ·
    refine zi_iconst (v := 0) 137 dX4_isMultipleOf_136 (by decide) rfl ?_
    exact zr_int hZ dX4_isMultipleOf_137 rfl (by decide) ⟨by simp [zPar, *], rfl⟩
  ·
    refine zi_aload_n 23 dX4_isMultipleOf_22 rfl rfl ?_
    refine zi_getfield 26 0 dX4_isMultipleOf_23 zcl_X4 tw_103 rfl rfl ha rfl rfl ?_
    refine zi_aload_n 27 dX4_isMultipleOf_26 rfl rfl ?_
    refine zi_getfield 30 2 dX4_isMultipleOf_27 zcl_X4 tw_113 rfl rfl hb rfl rfl ?_
    refine zi_lmul 31 dX4_isMultipleOf_30 rfl ?_
    refine zi_aload_n 32 dX4_isMultipleOf_31 rfl rfl ?_
    refine zi_getfield 35 2 dX4_isMultipleOf_32 zcl_X4 tw_113 rfl rfl ha rfl rfl ?_
    refine zi_aload_n 36 dX4_isMultipleOf_35 rfl rfl ?_
    refine zi_getfield 39 0 dX4_isMultipleOf_36 zcl_X4 tw_103 rfl rfl hb rfl rfl ?_
    refine zi_lmul 40 dX4_isMultipleOf_39 rfl ?_
    refine zj_ne 44 136 dX4_isMultipleOf_40 rfl dX4_isMultipleOf_41 (by decide) rfl (fun c_41 => ?_) (fun c_41 => ?_)
    ·
      refine zi_iconst (v := 0) 137 dX4_isMultipleOf_136 (by decide) rfl ?_
      exact zr_int hZ dX4_isMultipleOf_137 rfl (by decide) ⟨by simp [zPar, *], rfl⟩
    ·
      refine zi_aload_n 45 dX4_isMultipleOf_44 rfl rfl ?_
      refine zi_getfield 48 0 dX4_isMultipleOf_45 zcl_X4 tw_103 rfl rfl ha rfl rfl ?_
      refine zi_aload_n 49 dX4_isMultipleOf_48 rfl rfl ?_
      refine zi_getfield 52 3 dX4_isMultipleOf_49 zcl_X4 tw_118 rfl rfl hb rfl rfl ?_
      refine zi_lmul 53 dX4_isMultipleOf_52 rfl ?_
      refine zi_aload_n 54 dX4_isMultipleOf_53 rfl rfl ?_
      refine zi_getfield 57 3 dX4_isMultipleOf_54 zcl_X4 tw_118 rfl rfl ha rfl rfl ?_
      refine zi_aload_n 58 dX4_isMultipleOf_57 rfl rfl ?_
      refine zi_getfield 61 0 dX4_isMultipleOf_58 zcl_X4 tw_103 rfl rfl hb rfl rfl ?_
      refine zi_lmul 62 dX4_isMultipleOf_61 rfl ?_
      refine zj_ne 66 136 dX4_isMultipleOf_62 rfl dX4_isMultipleOf_63 (by decide) rfl (fun c_63 => ?_) (fun c_63 => ?_)
      ·
        refine zi_iconst (v := 0) 137 dX4_isMultipleOf_136 (by decide) rfl ?_
        exact zr_int hZ dX4_isMultipleOf_137 rfl (by decide) ⟨by simp [zPar, *], rfl⟩
      ·
        refine zi_aload_n 67 dX4_isMultipleOf_66 rfl rfl ?_
        refine zi_getfield 70 1 dX4_isMultipleOf_67 zcl_X4 tw_108 rfl rfl ha rfl rfl ?_
        refine zi_aload_n 71 dX4_isMultipleOf_70 rfl rfl ?_
        refine zi_getfield 74 2 dX4_isMultipleOf_71 zcl_X4 tw_113 rfl rfl hb rfl rfl ?_
        refine zi_lmul 75 dX4_isMultipleOf_74 rfl ?_
        refine zi_aload_n 76 dX4_isMultipleOf_75 rfl rfl ?_
        refine zi_getfield 79 2 dX4_isMultipleOf_76 zcl_X4 tw_113 rfl rfl ha rfl rfl ?_
        refine zi_aload_n 80 dX4_isMultipleOf_79 rfl rfl ?_
        refine zi_getfield 83 1 dX4_isMultipleOf_80 zcl_X4 tw_108 rfl rfl hb rfl rfl ?_
        refine zi_lmul 84 dX4_isMultipleOf_83 rfl ?_
        refine zj_ne 88 136 dX4_isMultipleOf_84 rfl dX4_isMultipleOf_85 (by decide) rfl (fun c_85 => ?_) (fun c_85 => ?_)
        ·
          refine zi_iconst (v := 0) 137 dX4_isMultipleOf_136 (by decide) rfl ?_
          exact zr_int hZ dX4_isMultipleOf_137 rfl (by decide) ⟨by simp [zPar, *], rfl⟩
        ·
          refine zi_aload_n 89 dX4_isMultipleOf_88 rfl rfl ?_
          refine zi_getfield 92 1 dX4_isMultipleOf_89 zcl_X4 tw_108 rfl rfl ha rfl rfl ?_
          refine zi_aload_n 93 dX4_isMultipleOf_92 rfl rfl ?_
          refine zi_getfield 96 3 dX4_isMultipleOf_93 zcl_X4 tw_118 rfl rfl hb rfl rfl ?_
          refine zi_lmul 97 dX4_isMultipleOf_96 rfl ?_
          refine zi_aload_n 98 dX4_isMultipleOf_97 rfl rfl ?_
          refine zi_getfield 101 3 dX4_isMultipleOf_98 zcl_X4 tw_118 rfl rfl ha rfl rfl ?_
          refine zi_aload_n 102 dX4_isMultipleOf_101 rfl rfl ?_
          refine zi_getfield 105 1 dX4_isMultipleOf_102 zcl_X4 tw_108 rfl rfl hb rfl rfl ?_
          refine zi_lmul 106 dX4_isMultipleOf_105 rfl ?_
          refine zj_ne 110 136 dX4_isMultipleOf_106 rfl dX4_isMultipleOf_107 (by decide) rfl (fun c_107 => ?_) (fun c_107 => ?_)
          ·
            refine zi_iconst (v := 0) 137 dX4_isMultipleOf_136 (by decide) rfl ?_
            exact zr_int hZ dX4_isMultipleOf_137 rfl (by decide) ⟨by simp [zPar, *], rfl⟩
          ·
            refine zi_aload_n 111 dX4_isMultipleOf_110 rfl rfl ?_
            refine zi_getfield 114 2 dX4_isMultipleOf_111 zcl_X4 tw_113 rfl rfl ha rfl rfl ?_
            refine zi_aload_n 115 dX4_isMultipleOf_114 rfl rfl ?_
            refine zi_getfield 118 3 dX4_isMultipleOf_115 zcl_X4 tw_118 rfl rfl hb rfl rfl ?_
            refine zi_lmul 119 dX4_isMultipleOf_118 rfl ?_
            refine zi_aload_n 120 dX4_isMultipleOf_119 rfl rfl ?_
            refine zi_getfield 123 3 dX4_isMultipleOf_120 zcl_X4 tw_118 rfl rfl ha rfl rfl ?_
            refine zi_aload_n 124 dX4_isMultipleOf_123 rfl rfl ?_
            refine zi_getfield 127 2 dX4_isMultipleOf_124 zcl_X4 tw_113 rfl rfl hb rfl rfl ?_
            refine zi_lmul 128 dX4_isMultipleOf_127 rfl ?_
            refine zj_ne 132 136 dX4_isMultipleOf_128 rfl dX4_isMultipleOf_129 (by decide) rfl (fun c_129 => ?_) (fun c_129 => ?_)
            ·
              refine zi_iconst (v := 0) 137 dX4_isMultipleOf_136 (by decide) rfl ?_
              exact zr_int hZ dX4_isMultipleOf_137 rfl (by decide) ⟨by simp [zPar, *], rfl⟩
            ·
              refine zi_iconst (v := 1) 133 dX4_isMultipleOf_132 (by decide) rfl ?_
              refine zi_goto 137 dX4_isMultipleOf_133 (by decide) ?_
              exact zr_int hZ dX4_isMultipleOf_137 rfl (by decide) ⟨by simp [zPar, *], rfl⟩
