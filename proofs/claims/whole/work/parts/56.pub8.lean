/-! asks -/
theorem kd_5 (P : i4) : kindI P = 0 ∨ kindI P = 1 ∨ kindI P = 2 ∨ kindI P = 3 ∨ kindI P = 4 := by
  have := kd_le P
  omega
noncomputable def askV (w : Int32) (k : Nat) (P : i4) : Nat := if w = 0 then sizeV k (nN P) else if w = 1 then shareV k (nN P) else markV k (mkI P)
def askT (w : Int32) (k : Nat) : List Int32 := if w = 0 then sizeT k else if w = 1 then shareT k else markT k
noncomputable def r_ask (s : zSt) (i w : Int32) : Int32 × zSt := if zOut i 20 ∨ zOut w 3 then (-1000001, s) else onS (qSl s i.toNatClampNeg) (-1000010 - 1, sFd (sTc s []) 1) fun P => (nI (askV w (kindI P) P), sFd (sTc s (askT w (kindI P))) 0)

set_option maxHeartbeats 4000000 in
set_option maxRecDepth 100000 in
theorem s_X10_ask (B : zBB) (h : zHp) (A : Nat → Nat) (hA : zInj A) (s : zSt) (hs0 : okSt s) (hR : zRc B A s h) (i w : Int32) : zSpec mX10_ask B (7, 0, 0) [.ref (A 0), .int i, .int w] h (zPi (fun zx h' => ∃ s' : zSt, r_ask s i w = (zx, s') ∧ zRc B A s' h' ∧ zOu A h h')) := by
  refine zSpec.of (by decide) (Nat.le_of_ble_eq_true rfl) (fun X hZ => ?_)
  show zG X mX10_ask B (7, 0, 0) (0, 0) 0 [(0, .ref (A 0)), (1, .int i), (2, .int w)] [] h
  refine zi_iload_n 1 dX10_ask_0 rfl rfl ?_
  refine zi_bipush (v := 20) 3 dX10_ask_1 (by decide) rfl ?_
  refine zc_static (n' := (0, 0)) (md' := mX10_outside) 6 dX10_ask_3 tw_354 zs_X10_outside (s_X10_outside B h _ _) rfl rfl rfl rfl rfl rfl rfl rfl (zk_f ?_)
  refine zb_ne 9 17 dX10_ask_6 (by decide) rfl (fun zzA => ?_) (fun zzA => ?_)
  ·
    refine zi_ldc 19 dX10_ask_17 tw_357 rfl ?_
    exact zr_int hZ dX10_ask_19 rfl rfl ⟨_, rfl, _, by rw [r_ask, if_pos (by first | exact Or.inl zzA | exact Or.inr (zzB))], hR, zOu_r _ _⟩
  ·
    refine zi_iload_n 10 dX10_ask_9 rfl rfl ?_
    refine zi_iconst (v := 3) 11 dX10_ask_10 (by decide) rfl ?_
    refine zc_static (n' := (0, 0)) (md' := mX10_outside) 14 dX10_ask_11 tw_354 zs_X10_outside (s_X10_outside B h _ _) rfl rfl rfl rfl rfl rfl rfl rfl (zk_f ?_)
    refine zb_eq 17 20 dX10_ask_14 (by decide) rfl (fun zzB => ?_) (fun zzB => ?_)
    ·
      have zzO : ¬ (zOut i 20 ∨ zOut w 3) := fun r => r.elim zzA zzB
      obtain ⟨pj, hpj, hpj31, rfl⟩ := out_i (N := 20) (by decide) zzA
      refine zi_aload_n 21 dX10_ask_20 rfl rfl ?_
      refine zi_getfield 24 11 dX10_ask_21 zcl_X10 tw_321 rfl rfl hR.1 rfl rfl ?_
      refine zc_virtual (n' := (0, 0)) (md' := mX0_forget) 27 dX10_ask_24 tw_516 zv_X0_forget zcl_X0 (s_X0_forget B h (A 11) (A 21) _ hR.2.2.2.2.2.2.2.2.2) hR.2.2.2.2.2.2.2.2.2.o rfl rfl rfl rfl rfl rfl rfl rfl (zk_v fun h1 hp1 => ?_)
      obtain ⟨f1, a1⟩ := hp1
      obtain ⟨R1, U1⟩ := zRc_11 hA hR f1 a1
      refine zi_aload_n 28 dX10_ask_27 rfl rfl ?_
      refine zi_iload_n 29 dX10_ask_28 rfl rfl ?_
      rcases hsP : qSl s pj with _ | P
      ·
        refine zc_virtual (n' := (0, 0)) (md' := mX10_held) 32 dX10_ask_29 tw_485 zv_X10_held zcl_X10 (s_X10_heldN B h1 A hA (sTc s []) R1 pj hpj hsP) R1.1 rfl rfl rfl rfl rfl rfl rfl rfl (zk_f ?_)
        refine zi_astore_nN (lv' := [(3, _), (0, _), (1, _), (2, _)]) 33 dX10_ask_32 rfl rfl rfl ?_
        refine zi_aload_nN 34 dX10_ask_33 rfl rfl ?_
        refine zi_ifnonnullN 37 dX10_ask_34 rfl ?_
        refine zi_aload_n 38 dX10_ask_37 rfl rfl ?_
        refine zi_iconst (v := 1) 39 dX10_ask_38 (by decide) rfl ?_
        refine zc_virtual (n' := (0, 0)) (md' := mX10_found) 42 dX10_ask_39 tw_358 zv_X10_found zcl_X10 (s_X10_found B h1 A hA _ R1 1) R1.1 rfl rfl rfl rfl rfl rfl rfl rfl (zk_i fun x1 h1 hp1 => ?_)
        obtain ⟨rfl, R9, U9⟩ := hp1
        exact zr_int hZ dX10_ask_42 rfl rfl ⟨_, rfl, _, by rw [r_ask, if_neg zzO, nI_clamp hpj31, hsP, onS_n], R9, zOu_t U1 U9⟩
      ·
        have hVP := hs0.1 pj P hsP
        obtain ⟨vP, hvP, hzP⟩ := R1.2.2.2.1 pj hpj
        rw [hzP P hsP] at hvP
        obtain ⟨fk, hk, hfk⟩ := R1.2.2.1
        refine zc_virtual (n' := (0, 0)) (md' := mX10_held) 32 dX10_ask_29 tw_485 zv_X10_held zcl_X10 (s_X10_heldS B h1 A hA (sTc s []) R1 pj hpj P hsP) R1.1 rfl rfl rfl rfl rfl rfl rfl rfl (zk_f ?_)
        refine zi_astore_n (lv' := [(3, _), (0, _), (1, _), (2, _)]) 33 dX10_ask_32 rfl rfl rfl ?_
        refine zi_aload_n 34 dX10_ask_33 rfl rfl ?_
        refine zi_ifnonnull 43 dX10_ask_34 (by decide) ?_
        refine zi_iload_n 44 dX10_ask_43 rfl rfl ?_
        refine zi_if_ne 47 69 dX10_ask_44 (by decide) rfl (fun zz0 => ?_) (fun zz0 => ?_)
        ·
          refine zi_iload_n 70 dX10_ask_69 rfl rfl ?_
          refine zi_iconst (v := 1) 71 dX10_ask_70 (by decide) rfl ?_
          refine zi_icmp_ne 74 96 dX10_ask_71 (by decide) rfl (fun zz1 => ?_) (fun zz1 => ?_)
          ·
            refine zi_aload_n 97 dX10_ask_96 rfl rfl ?_
            refine zi_aload_n 98 dX10_ask_97 rfl rfl ?_
            refine zi_getfield 101 11 dX10_ask_98 zcl_X10 tw_321 rfl rfl R1.1 rfl rfl ?_
            refine zi_aload_n 102 dX10_ask_101 rfl rfl ?_
            refine zi_aload_n 103 dX10_ask_102 rfl rfl ?_
            refine zi_getfield 106 2 dX10_ask_103 zcl_X10 tw_312 rfl rfl R1.1 rfl rfl ?_
            refine zi_iload_n 107 dX10_ask_106 rfl rfl ?_
            refine zi_iaload 108 dX10_ask_107 hk (vp_in_nI hpj (by decide)) rfl ?_
            rw [nI_clamp (by omega), hfk pj hpj, show qSl (sTc s []) pj = some P from hsP, show kdI (some P) = nI (kindI P) from rfl]
            rcases kd_5 P with hk5 | hk5 | hk5 | hk5 | hk5
            ·
              rw [hk5]
              refine zc_virtual (n' := (0, 0)) (md' := mX0_markOf) 111 dX10_ask_108 tw_562 zv_X0_markOf zcl_X0 (s_X0_markOf0 B h1 (A 11) (A 21) [] a1 (by decide) (A (38 + pj)) P hVP hvP (hA.ne (by omega)) (hA.ne (by omega))) R1.2.2.2.2.2.2.2.2.2.o rfl rfl rfl rfl rfl rfl rfl rfl (zk_i fun x2 h2 hp2 => ?_)
              obtain ⟨rfl, f2, a2⟩ := hp2
              obtain ⟨R2, U2⟩ := zRc_11 hA R1 f2 a2
              refine zc_virtual (n' := (0, 0)) (md' := mX10_answered) 114 dX10_ask_111 tw_367 zv_X10_answered zcl_X10 (s_X10_answered B h2 A hA _ R2 _) R2.1 rfl rfl rfl rfl rfl rfl rfl rfl (zk_i fun x9 h9 hp9 => ?_)
              obtain ⟨rfl, R9, U9⟩ := hp9
              exact zr_int hZ dX10_ask_114 rfl rfl ⟨_, rfl, _, by rw [r_ask, if_neg zzO, nI_clamp hpj31, hsP, onS_s, hk5, askV, if_neg zz0, if_neg zz1, askT, if_neg zz0, if_neg zz1]; rfl, R9, zOu_t (zOu_t U1 U2) U9⟩
            ·
              rw [hk5]
              refine zc_virtual (n' := (0, 0)) (md' := mX0_markOf) 111 dX10_ask_108 tw_562 zv_X0_markOf zcl_X0 (s_X0_markOf1 B h1 (A 11) (A 21) [] a1 (by decide) (A (38 + pj)) P hVP hvP (hA.ne (by omega)) (hA.ne (by omega))) R1.2.2.2.2.2.2.2.2.2.o rfl rfl rfl rfl rfl rfl rfl rfl (zk_i fun x2 h2 hp2 => ?_)
              obtain ⟨rfl, f2, a2⟩ := hp2
              obtain ⟨R2, U2⟩ := zRc_11 hA R1 f2 a2
              refine zc_virtual (n' := (0, 0)) (md' := mX10_answered) 114 dX10_ask_111 tw_367 zv_X10_answered zcl_X10 (s_X10_answered B h2 A hA _ R2 _) R2.1 rfl rfl rfl rfl rfl rfl rfl rfl (zk_i fun x9 h9 hp9 => ?_)
              obtain ⟨rfl, R9, U9⟩ := hp9
              exact zr_int hZ dX10_ask_114 rfl rfl ⟨_, rfl, _, by rw [r_ask, if_neg zzO, nI_clamp hpj31, hsP, onS_s, hk5, askV, if_neg zz0, if_neg zz1, askT, if_neg zz0, if_neg zz1]; rfl, R9, zOu_t (zOu_t U1 U2) U9⟩
            ·
              rw [hk5]
              refine zc_virtual (n' := (0, 0)) (md' := mX0_markOf) 111 dX10_ask_108 tw_562 zv_X0_markOf zcl_X0 (s_X0_markOf2 B h1 (A 11) (A 21) [] a1 (by decide) (A (38 + pj)) P hVP hvP (hA.ne (by omega)) (hA.ne (by omega))) R1.2.2.2.2.2.2.2.2.2.o rfl rfl rfl rfl rfl rfl rfl rfl (zk_i fun x2 h2 hp2 => ?_)
              obtain ⟨rfl, f2, a2⟩ := hp2
              obtain ⟨R2, U2⟩ := zRc_11 hA R1 f2 a2
              refine zc_virtual (n' := (0, 0)) (md' := mX10_answered) 114 dX10_ask_111 tw_367 zv_X10_answered zcl_X10 (s_X10_answered B h2 A hA _ R2 _) R2.1 rfl rfl rfl rfl rfl rfl rfl rfl (zk_i fun x9 h9 hp9 => ?_)
              obtain ⟨rfl, R9, U9⟩ := hp9
              exact zr_int hZ dX10_ask_114 rfl rfl ⟨_, rfl, _, by rw [r_ask, if_neg zzO, nI_clamp hpj31, hsP, onS_s, hk5, askV, if_neg zz0, if_neg zz1, askT, if_neg zz0, if_neg zz1]; rfl, R9, zOu_t (zOu_t U1 U2) U9⟩
            ·
              rw [hk5]
              refine zc_virtual (n' := (0, 0)) (md' := mX0_markOf) 111 dX10_ask_108 tw_562 zv_X0_markOf zcl_X0 (s_X0_markOf3 B h1 (A 11) (A 21) [] a1 (by decide) (A (38 + pj)) P hVP hvP (hA.ne (by omega)) (hA.ne (by omega))) R1.2.2.2.2.2.2.2.2.2.o rfl rfl rfl rfl rfl rfl rfl rfl (zk_i fun x2 h2 hp2 => ?_)
              obtain ⟨rfl, f2, a2⟩ := hp2
              obtain ⟨R2, U2⟩ := zRc_11 hA R1 f2 a2
              refine zc_virtual (n' := (0, 0)) (md' := mX10_answered) 114 dX10_ask_111 tw_367 zv_X10_answered zcl_X10 (s_X10_answered B h2 A hA _ R2 _) R2.1 rfl rfl rfl rfl rfl rfl rfl rfl (zk_i fun x9 h9 hp9 => ?_)
              obtain ⟨rfl, R9, U9⟩ := hp9
              exact zr_int hZ dX10_ask_114 rfl rfl ⟨_, rfl, _, by rw [r_ask, if_neg zzO, nI_clamp hpj31, hsP, onS_s, hk5, askV, if_neg zz0, if_neg zz1, askT, if_neg zz0, if_neg zz1]; rfl, R9, zOu_t (zOu_t U1 U2) U9⟩
            ·
              rw [hk5]
              refine zc_virtual (n' := (0, 0)) (md' := mX0_markOf) 111 dX10_ask_108 tw_562 zv_X0_markOf zcl_X0 (s_X0_markOf4 B h1 (A 11) (A 21) [] a1 (by decide) (A (38 + pj)) P hVP hvP (hA.ne (by omega)) (hA.ne (by omega))) R1.2.2.2.2.2.2.2.2.2.o rfl rfl rfl rfl rfl rfl rfl rfl (zk_i fun x2 h2 hp2 => ?_)
              obtain ⟨rfl, f2, a2⟩ := hp2
              obtain ⟨R2, U2⟩ := zRc_11 hA R1 f2 a2
              refine zc_virtual (n' := (0, 0)) (md' := mX10_answered) 114 dX10_ask_111 tw_367 zv_X10_answered zcl_X10 (s_X10_answered B h2 A hA _ R2 _) R2.1 rfl rfl rfl rfl rfl rfl rfl rfl (zk_i fun x9 h9 hp9 => ?_)
              obtain ⟨rfl, R9, U9⟩ := hp9
              exact zr_int hZ dX10_ask_114 rfl rfl ⟨_, rfl, _, by rw [r_ask, if_neg zzO, nI_clamp hpj31, hsP, onS_s, hk5, askV, if_neg zz0, if_neg zz1, askT, if_neg zz0, if_neg zz1]; rfl, R9, zOu_t (zOu_t U1 U2) U9⟩
          ·
            refine zi_aload_n 75 dX10_ask_74 rfl rfl ?_
            refine zi_aload_n 76 dX10_ask_75 rfl rfl ?_
            refine zi_getfield 79 11 dX10_ask_76 zcl_X10 tw_321 rfl rfl R1.1 rfl rfl ?_
            refine zi_aload_n 80 dX10_ask_79 rfl rfl ?_
            refine zc_virtual (n' := (0, 0)) (md' := mX4_ownNorm) 83 dX10_ask_80 tw_455 zv_X4_ownNorm zcl_X4 (s_X4_ownNorm B h1 (A (38 + pj)) _ hvP) hvP rfl rfl rfl rfl rfl rfl rfl rfl (zk_f ?_)
            rw [nN_z hVP]
            refine zi_aload_n 84 dX10_ask_83 rfl rfl ?_
            refine zi_getfield 87 2 dX10_ask_84 zcl_X10 tw_312 rfl rfl R1.1 rfl rfl ?_
            refine zi_iload_n 88 dX10_ask_87 rfl rfl ?_
            refine zi_iaload 89 dX10_ask_88 hk (vp_in_nI hpj (by decide)) rfl ?_
            rw [nI_clamp (by omega), hfk pj hpj, show qSl (sTc s []) pj = some P from hsP, show kdI (some P) = nI (kindI P) from rfl]
            rcases kd_5 P with hk5 | hk5 | hk5 | hk5 | hk5
            ·
              rw [hk5]
              refine zc_virtual (n' := (0, 0)) (md' := mX0_shareOf) 92 dX10_ask_89 tw_541 zv_X0_shareOf zcl_X0 (s_X0_shareOf0 B h1 (A 11) (A 21) [] a1 (by decide) (nN P) (nN_63 hVP)) R1.2.2.2.2.2.2.2.2.2.o rfl rfl rfl rfl rfl rfl rfl rfl (zk_i fun x2 h2 hp2 => ?_)
              obtain ⟨rfl, f2, a2⟩ := hp2
              obtain ⟨R2, U2⟩ := zRc_11 hA R1 f2 a2
              refine zc_virtual (n' := (0, 0)) (md' := mX10_answered) 95 dX10_ask_92 tw_367 zv_X10_answered zcl_X10 (s_X10_answered B h2 A hA _ R2 _) R2.1 rfl rfl rfl rfl rfl rfl rfl rfl (zk_i fun x9 h9 hp9 => ?_)
              obtain ⟨rfl, R9, U9⟩ := hp9
              exact zr_int hZ dX10_ask_95 rfl rfl ⟨_, rfl, _, by rw [r_ask, if_neg zzO, nI_clamp hpj31, hsP, onS_s, hk5, askV, if_neg zz0, if_pos zz1, askT, if_neg zz0, if_pos zz1]; rfl, R9, zOu_t (zOu_t U1 U2) U9⟩
            ·
              rw [hk5]
              refine zc_virtual (n' := (0, 0)) (md' := mX0_shareOf) 92 dX10_ask_89 tw_541 zv_X0_shareOf zcl_X0 (s_X0_shareOf1 B h1 (A 11) (A 21) [] a1 (by decide) (nN P) (nN_63 hVP)) R1.2.2.2.2.2.2.2.2.2.o rfl rfl rfl rfl rfl rfl rfl rfl (zk_i fun x2 h2 hp2 => ?_)
              obtain ⟨rfl, f2, a2⟩ := hp2
              obtain ⟨R2, U2⟩ := zRc_11 hA R1 f2 a2
              refine zc_virtual (n' := (0, 0)) (md' := mX10_answered) 95 dX10_ask_92 tw_367 zv_X10_answered zcl_X10 (s_X10_answered B h2 A hA _ R2 _) R2.1 rfl rfl rfl rfl rfl rfl rfl rfl (zk_i fun x9 h9 hp9 => ?_)
              obtain ⟨rfl, R9, U9⟩ := hp9
              exact zr_int hZ dX10_ask_95 rfl rfl ⟨_, rfl, _, by rw [r_ask, if_neg zzO, nI_clamp hpj31, hsP, onS_s, hk5, askV, if_neg zz0, if_pos zz1, askT, if_neg zz0, if_pos zz1]; rfl, R9, zOu_t (zOu_t U1 U2) U9⟩
            ·
              rw [hk5]
              refine zc_virtual (n' := (0, 0)) (md' := mX0_shareOf) 92 dX10_ask_89 tw_541 zv_X0_shareOf zcl_X0 (s_X0_shareOf2 B h1 (A 11) (A 21) [] a1 (by decide) (nN P) (nN_63 hVP)) R1.2.2.2.2.2.2.2.2.2.o rfl rfl rfl rfl rfl rfl rfl rfl (zk_i fun x2 h2 hp2 => ?_)
              obtain ⟨rfl, f2, a2⟩ := hp2
              obtain ⟨R2, U2⟩ := zRc_11 hA R1 f2 a2
              refine zc_virtual (n' := (0, 0)) (md' := mX10_answered) 95 dX10_ask_92 tw_367 zv_X10_answered zcl_X10 (s_X10_answered B h2 A hA _ R2 _) R2.1 rfl rfl rfl rfl rfl rfl rfl rfl (zk_i fun x9 h9 hp9 => ?_)
              obtain ⟨rfl, R9, U9⟩ := hp9
              exact zr_int hZ dX10_ask_95 rfl rfl ⟨_, rfl, _, by rw [r_ask, if_neg zzO, nI_clamp hpj31, hsP, onS_s, hk5, askV, if_neg zz0, if_pos zz1, askT, if_neg zz0, if_pos zz1]; rfl, R9, zOu_t (zOu_t U1 U2) U9⟩
            ·
              rw [hk5]
              refine zc_virtual (n' := (0, 0)) (md' := mX0_shareOf) 92 dX10_ask_89 tw_541 zv_X0_shareOf zcl_X0 (s_X0_shareOf3 B h1 (A 11) (A 21) [] a1 (by decide) (nN P) (nN_63 hVP)) R1.2.2.2.2.2.2.2.2.2.o rfl rfl rfl rfl rfl rfl rfl rfl (zk_i fun x2 h2 hp2 => ?_)
              obtain ⟨rfl, f2, a2⟩ := hp2
              obtain ⟨R2, U2⟩ := zRc_11 hA R1 f2 a2
              refine zc_virtual (n' := (0, 0)) (md' := mX10_answered) 95 dX10_ask_92 tw_367 zv_X10_answered zcl_X10 (s_X10_answered B h2 A hA _ R2 _) R2.1 rfl rfl rfl rfl rfl rfl rfl rfl (zk_i fun x9 h9 hp9 => ?_)
              obtain ⟨rfl, R9, U9⟩ := hp9
              exact zr_int hZ dX10_ask_95 rfl rfl ⟨_, rfl, _, by rw [r_ask, if_neg zzO, nI_clamp hpj31, hsP, onS_s, hk5, askV, if_neg zz0, if_pos zz1, askT, if_neg zz0, if_pos zz1]; rfl, R9, zOu_t (zOu_t U1 U2) U9⟩
            ·
              rw [hk5]
              refine zc_virtual (n' := (0, 0)) (md' := mX0_shareOf) 92 dX10_ask_89 tw_541 zv_X0_shareOf zcl_X0 (s_X0_shareOf4 B h1 (A 11) (A 21) [] a1 (by decide) (nN P) (nN_63 hVP)) R1.2.2.2.2.2.2.2.2.2.o rfl rfl rfl rfl rfl rfl rfl rfl (zk_i fun x2 h2 hp2 => ?_)
              obtain ⟨rfl, f2, a2⟩ := hp2
              obtain ⟨R2, U2⟩ := zRc_11 hA R1 f2 a2
              refine zc_virtual (n' := (0, 0)) (md' := mX10_answered) 95 dX10_ask_92 tw_367 zv_X10_answered zcl_X10 (s_X10_answered B h2 A hA _ R2 _) R2.1 rfl rfl rfl rfl rfl rfl rfl rfl (zk_i fun x9 h9 hp9 => ?_)
              obtain ⟨rfl, R9, U9⟩ := hp9
              exact zr_int hZ dX10_ask_95 rfl rfl ⟨_, rfl, _, by rw [r_ask, if_neg zzO, nI_clamp hpj31, hsP, onS_s, hk5, askV, if_neg zz0, if_pos zz1, askT, if_neg zz0, if_pos zz1]; rfl, R9, zOu_t (zOu_t U1 U2) U9⟩
        ·
          refine zi_aload_n 48 dX10_ask_47 rfl rfl ?_
          refine zi_aload_n 49 dX10_ask_48 rfl rfl ?_
          refine zi_getfield 52 11 dX10_ask_49 zcl_X10 tw_321 rfl rfl R1.1 rfl rfl ?_
          refine zi_aload_n 53 dX10_ask_52 rfl rfl ?_
          refine zc_virtual (n' := (0, 0)) (md' := mX4_ownNorm) 56 dX10_ask_53 tw_455 zv_X4_ownNorm zcl_X4 (s_X4_ownNorm B h1 (A (38 + pj)) _ hvP) hvP rfl rfl rfl rfl rfl rfl rfl rfl (zk_f ?_)
          rw [nN_z hVP]
          refine zi_aload_n 57 dX10_ask_56 rfl rfl ?_
          refine zi_getfield 60 2 dX10_ask_57 zcl_X10 tw_312 rfl rfl R1.1 rfl rfl ?_
          refine zi_iload_n 61 dX10_ask_60 rfl rfl ?_
          refine zi_iaload 62 dX10_ask_61 hk (vp_in_nI hpj (by decide)) rfl ?_
          rw [nI_clamp (by omega), hfk pj hpj, show qSl (sTc s []) pj = some P from hsP, show kdI (some P) = nI (kindI P) from rfl]
          rcases kd_5 P with hk5 | hk5 | hk5 | hk5 | hk5
          ·
            rw [hk5]
            refine zc_virtual (n' := (0, 0)) (md' := mX0_sizeOf) 65 dX10_ask_62 tw_520 zv_X0_sizeOf zcl_X0 (s_X0_sizeOf0 B h1 (A 11) (A 21) [] a1 (by decide) (nN P) (nN_63 hVP)) R1.2.2.2.2.2.2.2.2.2.o rfl rfl rfl rfl rfl rfl rfl rfl (zk_i fun x2 h2 hp2 => ?_)
            obtain ⟨rfl, f2, a2⟩ := hp2
            obtain ⟨R2, U2⟩ := zRc_11 hA R1 f2 a2
            refine zc_virtual (n' := (0, 0)) (md' := mX10_answered) 68 dX10_ask_65 tw_367 zv_X10_answered zcl_X10 (s_X10_answered B h2 A hA _ R2 _) R2.1 rfl rfl rfl rfl rfl rfl rfl rfl (zk_i fun x9 h9 hp9 => ?_)
            obtain ⟨rfl, R9, U9⟩ := hp9
            exact zr_int hZ dX10_ask_68 rfl rfl ⟨_, rfl, _, by rw [r_ask, if_neg zzO, nI_clamp hpj31, hsP, onS_s, hk5, askV, if_pos zz0, askT, if_pos zz0]; rfl, R9, zOu_t (zOu_t U1 U2) U9⟩
          ·
            rw [hk5]
            refine zc_virtual (n' := (0, 0)) (md' := mX0_sizeOf) 65 dX10_ask_62 tw_520 zv_X0_sizeOf zcl_X0 (s_X0_sizeOf1 B h1 (A 11) (A 21) [] a1 (by decide) (nN P) (nN_63 hVP)) R1.2.2.2.2.2.2.2.2.2.o rfl rfl rfl rfl rfl rfl rfl rfl (zk_i fun x2 h2 hp2 => ?_)
            obtain ⟨rfl, f2, a2⟩ := hp2
            obtain ⟨R2, U2⟩ := zRc_11 hA R1 f2 a2
            refine zc_virtual (n' := (0, 0)) (md' := mX10_answered) 68 dX10_ask_65 tw_367 zv_X10_answered zcl_X10 (s_X10_answered B h2 A hA _ R2 _) R2.1 rfl rfl rfl rfl rfl rfl rfl rfl (zk_i fun x9 h9 hp9 => ?_)
            obtain ⟨rfl, R9, U9⟩ := hp9
            exact zr_int hZ dX10_ask_68 rfl rfl ⟨_, rfl, _, by rw [r_ask, if_neg zzO, nI_clamp hpj31, hsP, onS_s, hk5, askV, if_pos zz0, askT, if_pos zz0]; rfl, R9, zOu_t (zOu_t U1 U2) U9⟩
          ·
            rw [hk5]
            refine zc_virtual (n' := (0, 0)) (md' := mX0_sizeOf) 65 dX10_ask_62 tw_520 zv_X0_sizeOf zcl_X0 (s_X0_sizeOf2 B h1 (A 11) (A 21) [] a1 (by decide) (nN P) (nN_63 hVP)) R1.2.2.2.2.2.2.2.2.2.o rfl rfl rfl rfl rfl rfl rfl rfl (zk_i fun x2 h2 hp2 => ?_)
            obtain ⟨rfl, f2, a2⟩ := hp2
            obtain ⟨R2, U2⟩ := zRc_11 hA R1 f2 a2
            refine zc_virtual (n' := (0, 0)) (md' := mX10_answered) 68 dX10_ask_65 tw_367 zv_X10_answered zcl_X10 (s_X10_answered B h2 A hA _ R2 _) R2.1 rfl rfl rfl rfl rfl rfl rfl rfl (zk_i fun x9 h9 hp9 => ?_)
            obtain ⟨rfl, R9, U9⟩ := hp9
            exact zr_int hZ dX10_ask_68 rfl rfl ⟨_, rfl, _, by rw [r_ask, if_neg zzO, nI_clamp hpj31, hsP, onS_s, hk5, askV, if_pos zz0, askT, if_pos zz0]; rfl, R9, zOu_t (zOu_t U1 U2) U9⟩
          ·
            rw [hk5]
            refine zc_virtual (n' := (0, 0)) (md' := mX0_sizeOf) 65 dX10_ask_62 tw_520 zv_X0_sizeOf zcl_X0 (s_X0_sizeOf3 B h1 (A 11) (A 21) [] a1 (by decide) (nN P) (nN_63 hVP)) R1.2.2.2.2.2.2.2.2.2.o rfl rfl rfl rfl rfl rfl rfl rfl (zk_i fun x2 h2 hp2 => ?_)
            obtain ⟨rfl, f2, a2⟩ := hp2
            obtain ⟨R2, U2⟩ := zRc_11 hA R1 f2 a2
            refine zc_virtual (n' := (0, 0)) (md' := mX10_answered) 68 dX10_ask_65 tw_367 zv_X10_answered zcl_X10 (s_X10_answered B h2 A hA _ R2 _) R2.1 rfl rfl rfl rfl rfl rfl rfl rfl (zk_i fun x9 h9 hp9 => ?_)
            obtain ⟨rfl, R9, U9⟩ := hp9
            exact zr_int hZ dX10_ask_68 rfl rfl ⟨_, rfl, _, by rw [r_ask, if_neg zzO, nI_clamp hpj31, hsP, onS_s, hk5, askV, if_pos zz0, askT, if_pos zz0]; rfl, R9, zOu_t (zOu_t U1 U2) U9⟩
          ·
            rw [hk5]
            refine zc_virtual (n' := (0, 0)) (md' := mX0_sizeOf) 65 dX10_ask_62 tw_520 zv_X0_sizeOf zcl_X0 (s_X0_sizeOf4 B h1 (A 11) (A 21) [] a1 (by decide) (nN P) (nN_63 hVP)) R1.2.2.2.2.2.2.2.2.2.o rfl rfl rfl rfl rfl rfl rfl rfl (zk_i fun x2 h2 hp2 => ?_)
            obtain ⟨rfl, f2, a2⟩ := hp2
            obtain ⟨R2, U2⟩ := zRc_11 hA R1 f2 a2
            refine zc_virtual (n' := (0, 0)) (md' := mX10_answered) 68 dX10_ask_65 tw_367 zv_X10_answered zcl_X10 (s_X10_answered B h2 A hA _ R2 _) R2.1 rfl rfl rfl rfl rfl rfl rfl rfl (zk_i fun x9 h9 hp9 => ?_)
            obtain ⟨rfl, R9, U9⟩ := hp9
            exact zr_int hZ dX10_ask_68 rfl rfl ⟨_, rfl, _, by rw [r_ask, if_neg zzO, nI_clamp hpj31, hsP, onS_s, hk5, askV, if_pos zz0, askT, if_pos zz0]; rfl, R9, zOu_t (zOu_t U1 U2) U9⟩
    ·
      refine zi_ldc 19 dX10_ask_17 tw_357 rfl ?_
      exact zr_int hZ dX10_ask_19 rfl rfl ⟨_, rfl, _, by rw [r_ask, if_pos (by first | exact Or.inl zzA | exact Or.inr (zzB))], hR, zOu_r _ _⟩
