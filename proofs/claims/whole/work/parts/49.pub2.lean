noncomputable def r_times (s : zSt) (t p q : Int32) : Int32 × zSt := if zOut t 20 ∨ zOut p 20 ∨ zOut q 20 then (-1000001, s) else onS (qSl s p.toNatClampNeg) (-1000010 - 1, sFd s 1) fun P => onS (qSl s q.toNatClampNeg) (-1000010 - 1, sFd s 1) fun Q => if 1000000000 < i4n (i4m P Q) then (-1000003, s) else (nI (kindI (i4m P Q)), sFd (sSl s t.toNatClampNeg (some (i4m P Q))) 0)
noncomputable def r_sum (s : zSt) (t p q : Int32) : Int32 × zSt := if zOut t 20 ∨ zOut p 20 ∨ zOut q 20 then (-1000001, s) else onS (qSl s p.toNatClampNeg) (-1000010 - 1, sFd s 1) fun P => onS (qSl s q.toNatClampNeg) (-1000010 - 1, sFd s 1) fun Q => if 1000000000 < i4n (i4a P Q) then (-1000003, s) else (nI (kindI (i4a P Q)), sFd (sSl s t.toNatClampNeg (some (i4a P Q))) 0)
noncomputable def r_back (s : zSt) (t p : Int32) : Int32 × zSt := if zOut t 20 ∨ zOut p 20 then (-1000001, s) else onS (qSl s p.toNatClampNeg) (-1000010 - 1, sFd s 1) fun P => (nI (kindI (i4b P)), sFd (sSl s t.toNatClampNeg (some (i4b P))) 0)
theorem i4V_of {P : i4} (h : i4o P) (hn : ¬ 1000000000 < i4n P) : i4V P := ⟨h, by have := i4q_4 h; omega⟩
theorem i4V_b {P : i4} (h : i4V P) : i4V (i4b P) := ⟨i4b_o h.1, by rw [i4b_q]; exact h.2⟩
theorem ti_m {P Q : i4} (hP : i4V P) (hQ : i4V Q) : zMul (z4i P) (z4i Q) = z4i (i4m P Q) ∧ i4o (i4m P Q) ∧ (zBig (z4i (i4m P Q)) ↔ 1000000000 < i4n (i4m P Q)) := by
  obtain ⟨a1, a2, a3, a4⟩ := zb_m (zb_63 hP.2) (zb_63 hQ.2)
  obtain ⟨e1, e2, e3, e4, e5⟩ := i4m_e hP.1 hQ.1
  exact ⟨z4i_mul hP.1 hQ.1 (Nat.lt_of_le_of_lt a1 (by decide)) (Nat.lt_of_le_of_lt a2 (by decide)) (Nat.lt_of_le_of_lt a3 (by decide)) (Nat.lt_of_le_of_lt a4 (by decide)), e5, zBig_i ⟨Nat.le_trans (zhalf e1 a1) (by decide), Nat.le_trans (zhalf e2 a2) (by decide), Nat.le_trans (zhalf e3 a3) (by decide), Nat.le_trans (zhalf e4 a4) (by decide)⟩⟩
theorem ad_b {x y : Int} (h : x.natAbs ≤ 63245) (h2 : y.natAbs ≤ 63245) : (x + y).natAbs ≤ 4611686018427387904 := by omega
theorem ti_a {P Q : i4} (hP : i4V P) (hQ : i4V Q) : zAdd (z4i P) (z4i Q) = z4i (i4a P Q) ∧ i4o (i4a P Q) ∧ (zBig (z4i (i4a P Q)) ↔ 1000000000 < i4n (i4a P Q)) := by
  obtain ⟨a1, a2, a3, a4⟩ := zb_63 hP.2
  obtain ⟨b1, b2, b3, b4⟩ := zb_63 hQ.2
  exact ⟨z4i_a P Q, i4a_o hP.1 hQ.1, zBig_i ⟨ad_b a1 b1, ad_b a2 b2, ad_b a3 b3, ad_b a4 b4⟩⟩

set_option maxHeartbeats 4000000 in
set_option maxRecDepth 100000 in
theorem s_X10_times (B : zBB) (h : zHp) (A : Nat → Nat) (hA : zInj A) (s : zSt) (hs0 : okSt s) (hR : zRc B A s h) (t p q : Int32) : zSpec mX10_times B (6, 0, 0) [.ref (A 0), .int t, .int p, .int q] h (zPi (fun x h' => ∃ s' : zSt, r_times s t p q = (x, s') ∧ zRc B A s' h' ∧ zOu A h h')) := by
  refine zSpec.of (by decide) (Nat.le_of_ble_eq_true rfl) (fun X hZ => ?_)
  show zG X mX10_times B (6, 0, 0) (0, 0) 0 [(0, .ref (A 0)), (1, .int t), (2, .int p), (3, .int q)] [] h
  refine zi_iload_n 1 dX10_times_0 rfl rfl ?_
  refine zi_bipush (v := 20) 3 dX10_times_1 (by decide) rfl ?_
  refine zc_static (n' := (0, 0)) (md' := mX10_outside) 6 dX10_times_3 tw_354 zs_X10_outside (s_X10_outside B h _ _) rfl rfl rfl rfl rfl rfl rfl rfl (zk_f ?_)
  refine zb_ne 9 27 dX10_times_6 (by decide) rfl (fun zzA => ?_) (fun zzA => ?_)
  ·
    refine zi_ldc 29 dX10_times_27 tw_357 rfl ?_
    exact zr_int hZ dX10_times_29 rfl rfl ⟨_, rfl, _, by rw [r_times, if_pos (by first | exact Or.inl zzA | exact Or.inr (Or.inl zzB) | exact Or.inr (Or.inr zzC))], hR, zOu_r _ _⟩
  ·
    refine zi_iload_n 10 dX10_times_9 rfl rfl ?_
    refine zi_bipush (v := 20) 12 dX10_times_10 (by decide) rfl ?_
    refine zc_static (n' := (0, 0)) (md' := mX10_outside) 15 dX10_times_12 tw_354 zs_X10_outside (s_X10_outside B h _ _) rfl rfl rfl rfl rfl rfl rfl rfl (zk_f ?_)
    refine zb_ne 18 27 dX10_times_15 (by decide) rfl (fun zzB => ?_) (fun zzB => ?_)
    ·
      refine zi_ldc 29 dX10_times_27 tw_357 rfl ?_
      exact zr_int hZ dX10_times_29 rfl rfl ⟨_, rfl, _, by rw [r_times, if_pos (by first | exact Or.inl zzA | exact Or.inr (Or.inl zzB) | exact Or.inr (Or.inr zzC))], hR, zOu_r _ _⟩
    ·
      refine zi_iload_n 19 dX10_times_18 rfl rfl ?_
      refine zi_bipush (v := 20) 21 dX10_times_19 (by decide) rfl ?_
      refine zc_static (n' := (0, 0)) (md' := mX10_outside) 24 dX10_times_21 tw_354 zs_X10_outside (s_X10_outside B h _ _) rfl rfl rfl rfl rfl rfl rfl rfl (zk_f ?_)
      refine zb_eq 27 30 dX10_times_24 (by decide) rfl (fun zzC => ?_) (fun zzC => ?_)
      ·
        have zzO : ¬ (zOut t 20 ∨ zOut p 20 ∨ zOut q 20) := fun r => r.elim zzA (fun r => r.elim zzB zzC)
        obtain ⟨ti, hti, hti31, rfl⟩ := out_i (N := 20) (by decide) zzA
        obtain ⟨pj, hpj, hpj31, rfl⟩ := out_i (N := 20) (by decide) zzB
        obtain ⟨qj, hqj, hqj31, rfl⟩ := out_i (N := 20) (by decide) zzC
        obtain ⟨vm, hvm⟩ := hR.2.2.2.2.2.1.2.2.2.2 58 (by decide)
        refine zi_aload_n 31 dX10_times_30 rfl rfl ?_
        refine zi_iload_n 32 dX10_times_31 rfl rfl ?_
        rcases hsP : qSl s pj with _ | P
        ·
          refine zc_virtual (n' := (0, 0)) (md' := mX10_held) 35 dX10_times_32 tw_485 zv_X10_held zcl_X10 (s_X10_heldN B h A hA s hR pj hpj hsP) hR.1 rfl rfl rfl rfl rfl rfl rfl rfl (zk_f ?_)
          refine zi_astoreN (lv' := [(4, _), (0, _), (1, _), (2, _), (3, _)]) 37 dX10_times_35 rfl rfl rfl ?_
          refine zi_aload_n 38 dX10_times_37 rfl rfl ?_
          refine zi_iload_n 39 dX10_times_38 rfl rfl ?_
          rcases hsQ : qSl s qj with _ | Q
          ·
            refine zc_virtual (n' := (0, 0)) (md' := mX10_held) 42 dX10_times_39 tw_485 zv_X10_held zcl_X10 (s_X10_heldN B h A hA s hR qj hqj hsQ) hR.1 rfl rfl rfl rfl rfl rfl rfl rfl (zk_f ?_)
            refine zi_astoreN (lv' := [(5, _), (4, _), (0, _), (1, _), (2, _), (3, _)]) 44 dX10_times_42 rfl rfl rfl ?_
            refine zi_aloadN 46 dX10_times_44 rfl rfl ?_
            refine zi_ifnullN 54 dX10_times_46 (by decide) ?_
            refine zi_aload_n 55 dX10_times_54 rfl rfl ?_
            refine zi_iconst (v := 1) 56 dX10_times_55 (by decide) rfl ?_
            refine zc_virtual (n' := (0, 0)) (md' := mX10_found) 59 dX10_times_56 tw_358 zv_X10_found zcl_X10 (s_X10_found B h A hA s hR 1) hR.1 rfl rfl rfl rfl rfl rfl rfl rfl (zk_i fun x1 h1 hp1 => ?_)
            obtain ⟨rfl, R1, U1⟩ := hp1
            exact zr_int hZ dX10_times_59 rfl rfl ⟨_, rfl, _, by rw [r_times, if_neg zzO, nI_clamp hpj31, hsP]; first | rw [onS_n] | rw [onS_s, nI_clamp hqj31, hsQ, onS_n], R1, U1⟩
          ·
            have hVQ := hs0.1 qj Q hsQ
            obtain ⟨vQ, hvQ, hzQ⟩ := hR.2.2.2.1 qj hqj
            rw [hzQ Q hsQ] at hvQ
            refine zc_virtual (n' := (0, 0)) (md' := mX10_held) 42 dX10_times_39 tw_485 zv_X10_held zcl_X10 (s_X10_heldS B h A hA s hR qj hqj Q hsQ) hR.1 rfl rfl rfl rfl rfl rfl rfl rfl (zk_f ?_)
            refine zi_astore (lv' := [(5, _), (4, _), (0, _), (1, _), (2, _), (3, _)]) 44 dX10_times_42 rfl rfl rfl ?_
            refine zi_aloadN 46 dX10_times_44 rfl rfl ?_
            refine zi_ifnullN 54 dX10_times_46 (by decide) ?_
            refine zi_aload_n 55 dX10_times_54 rfl rfl ?_
            refine zi_iconst (v := 1) 56 dX10_times_55 (by decide) rfl ?_
            refine zc_virtual (n' := (0, 0)) (md' := mX10_found) 59 dX10_times_56 tw_358 zv_X10_found zcl_X10 (s_X10_found B h A hA s hR 1) hR.1 rfl rfl rfl rfl rfl rfl rfl rfl (zk_i fun x1 h1 hp1 => ?_)
            obtain ⟨rfl, R1, U1⟩ := hp1
            exact zr_int hZ dX10_times_59 rfl rfl ⟨_, rfl, _, by rw [r_times, if_neg zzO, nI_clamp hpj31, hsP]; first | rw [onS_n] | rw [onS_s, nI_clamp hqj31, hsQ, onS_n], R1, U1⟩
        ·
          have hVP := hs0.1 pj P hsP
          obtain ⟨vP, hvP, hzP⟩ := hR.2.2.2.1 pj hpj
          rw [hzP P hsP] at hvP
          refine zc_virtual (n' := (0, 0)) (md' := mX10_held) 35 dX10_times_32 tw_485 zv_X10_held zcl_X10 (s_X10_heldS B h A hA s hR pj hpj P hsP) hR.1 rfl rfl rfl rfl rfl rfl rfl rfl (zk_f ?_)
          refine zi_astore (lv' := [(4, _), (0, _), (1, _), (2, _), (3, _)]) 37 dX10_times_35 rfl rfl rfl ?_
          refine zi_aload_n 38 dX10_times_37 rfl rfl ?_
          refine zi_iload_n 39 dX10_times_38 rfl rfl ?_
          rcases hsQ : qSl s qj with _ | Q
          ·
            refine zc_virtual (n' := (0, 0)) (md' := mX10_held) 42 dX10_times_39 tw_485 zv_X10_held zcl_X10 (s_X10_heldN B h A hA s hR qj hqj hsQ) hR.1 rfl rfl rfl rfl rfl rfl rfl rfl (zk_f ?_)
            refine zi_astoreN (lv' := [(5, _), (4, _), (0, _), (1, _), (2, _), (3, _)]) 44 dX10_times_42 rfl rfl rfl ?_
            refine zi_aload 46 dX10_times_44 rfl rfl ?_
            refine zi_ifnull 49 dX10_times_46 rfl ?_
            refine zi_aloadN 51 dX10_times_49 rfl rfl ?_
            refine zi_ifnonnullN 54 dX10_times_51 rfl ?_
            refine zi_aload_n 55 dX10_times_54 rfl rfl ?_
            refine zi_iconst (v := 1) 56 dX10_times_55 (by decide) rfl ?_
            refine zc_virtual (n' := (0, 0)) (md' := mX10_found) 59 dX10_times_56 tw_358 zv_X10_found zcl_X10 (s_X10_found B h A hA s hR 1) hR.1 rfl rfl rfl rfl rfl rfl rfl rfl (zk_i fun x1 h1 hp1 => ?_)
            obtain ⟨rfl, R1, U1⟩ := hp1
            exact zr_int hZ dX10_times_59 rfl rfl ⟨_, rfl, _, by rw [r_times, if_neg zzO, nI_clamp hpj31, hsP]; first | rw [onS_n] | rw [onS_s, nI_clamp hqj31, hsQ, onS_n], R1, U1⟩
          ·
            have hVQ := hs0.1 qj Q hsQ
            obtain ⟨vQ, hvQ, hzQ⟩ := hR.2.2.2.1 qj hqj
            rw [hzQ Q hsQ] at hvQ
            refine zc_virtual (n' := (0, 0)) (md' := mX10_held) 42 dX10_times_39 tw_485 zv_X10_held zcl_X10 (s_X10_heldS B h A hA s hR qj hqj Q hsQ) hR.1 rfl rfl rfl rfl rfl rfl rfl rfl (zk_f ?_)
            refine zi_astore (lv' := [(5, _), (4, _), (0, _), (1, _), (2, _), (3, _)]) 44 dX10_times_42 rfl rfl rfl ?_
            refine zi_aload 46 dX10_times_44 rfl rfl ?_
            refine zi_ifnull 49 dX10_times_46 rfl ?_
            refine zi_aload 51 dX10_times_49 rfl rfl ?_
            refine zi_ifnonnull 60 dX10_times_51 (by decide) ?_
            refine zi_aload_n 61 dX10_times_60 rfl rfl ?_
            refine zi_getfield 64 3 dX10_times_61 zcl_X10 tw_313 rfl rfl hR.1 rfl rfl ?_
            refine zi_aload 66 dX10_times_64 rfl rfl ?_
            refine zi_aload 68 dX10_times_66 rfl rfl ?_
            refine zc_virtual (n' := (0, 0)) (md' := mX4_becomeProduct) 71 dX10_times_68 tw_595 zv_X4_becomeProduct zcl_X4 (s_X4_becomeProduct B h (A 58) vm hvm (A (38 + pj)) _ hvP (A (38 + qj)) _ hvQ) hvm rfl rfl rfl rfl rfl rfl rfl rfl (zk_u fun h1 hq => ?_)
            obtain ⟨eM, oM, bM⟩ := ti_m hVP hVQ
            rw [eM] at hq
            have R1 := zRc_k (zKp_u (S := [A 58]) hvm hq (List.mem_singleton.mpr rfl)) hR (fun i hi hm => hA.ne (show 38 + i ≠ 58 by omega) (List.mem_singleton.mp hm))
            have m1 := zX0 hq
            refine zi_aload_n 72 dX10_times_71 rfl rfl ?_
            refine zi_getfield 75 3 dX10_times_72 zcl_X10 tw_313 rfl rfl R1.1 rfl rfl ?_
            refine zc_virtual (n' := (0, 0)) (md' := mX4_isTooGreat) 78 dX10_times_75 tw_419 zv_X4_isTooGreat zcl_X4 (s_X4_isTooGreat B h1 (A 58) _ m1) m1 rfl rfl rfl rfl rfl rfl rfl rfl (zk_f ?_)
            refine zb_eq 81 84 dX10_times_78 (by decide) rfl (fun zzT => ?_) (fun zzT => ?_)
            ·
              rw [bM] at zzT
              refine zi_aload_n 85 dX10_times_84 rfl rfl ?_
              refine zi_aload_n 86 dX10_times_85 rfl rfl ?_
              refine zi_iload_n 87 dX10_times_86 rfl rfl ?_
              refine zi_aload_n 88 dX10_times_87 rfl rfl ?_
              refine zi_getfield 91 3 dX10_times_88 zcl_X10 tw_313 rfl rfl R1.1 rfl rfl ?_
              refine zc_virtual (n' := (0, 0)) (md' := mX10_keep) 94 dX10_times_91 tw_439 zv_X10_keep zcl_X10 (s_X10_keep B h1 A hA s R1 ti hti (A 58) (i4m P Q) (i4V_of oM zzT) m1 (hA.ne (by omega))) R1.1 rfl rfl rfl rfl rfl rfl rfl rfl (zk_i fun x2 h2 hp2 => ?_)
              obtain ⟨rfl, R2, U2⟩ := hp2
              refine zc_virtual (n' := (0, 0)) (md' := mX10_answered) 97 dX10_times_94 tw_367 zv_X10_answered zcl_X10 (s_X10_answered B h2 A hA _ R2 _) R2.1 rfl rfl rfl rfl rfl rfl rfl rfl (zk_i fun x3 h3 hp3 => ?_)
              obtain ⟨rfl, R3, U3⟩ := hp3
              exact zr_int hZ dX10_times_97 rfl rfl ⟨_, rfl, _, by rw [r_times, if_neg zzO, nI_clamp hpj31, hsP, onS_s, nI_clamp hqj31, hsQ, onS_s, if_neg zzT, nI_clamp hti31], R3, zOu_t (zOu_t (zOu_u hq (by decide)) U2) U3⟩
            ·
              rw [bM] at zzT
              refine zi_ldc 83 dX10_times_81 tw_438 rfl ?_
              exact zr_int hZ dX10_times_83 rfl rfl ⟨_, rfl, _, by rw [r_times, if_neg zzO, nI_clamp hpj31, hsP, onS_s, nI_clamp hqj31, hsQ, onS_s, if_pos zzT], R1, zOu_u hq (by decide)⟩
      ·
        refine zi_ldc 29 dX10_times_27 tw_357 rfl ?_
        exact zr_int hZ dX10_times_29 rfl rfl ⟨_, rfl, _, by rw [r_times, if_pos (by first | exact Or.inl zzA | exact Or.inr (Or.inl zzB) | exact Or.inr (Or.inr zzC))], hR, zOu_r _ _⟩

set_option maxHeartbeats 4000000 in
set_option maxRecDepth 100000 in
theorem s_X10_sum (B : zBB) (h : zHp) (A : Nat → Nat) (hA : zInj A) (s : zSt) (hs0 : okSt s) (hR : zRc B A s h) (t p q : Int32) : zSpec mX10_sum B (6, 0, 0) [.ref (A 0), .int t, .int p, .int q] h (zPi (fun x h' => ∃ s' : zSt, r_sum s t p q = (x, s') ∧ zRc B A s' h' ∧ zOu A h h')) := by
  refine zSpec.of (by decide) (Nat.le_of_ble_eq_true rfl) (fun X hZ => ?_)
  show zG X mX10_sum B (6, 0, 0) (0, 0) 0 [(0, .ref (A 0)), (1, .int t), (2, .int p), (3, .int q)] [] h
  refine zi_iload_n 1 dX10_sum_0 rfl rfl ?_
  refine zi_bipush (v := 20) 3 dX10_sum_1 (by decide) rfl ?_
  refine zc_static (n' := (0, 0)) (md' := mX10_outside) 6 dX10_sum_3 tw_354 zs_X10_outside (s_X10_outside B h _ _) rfl rfl rfl rfl rfl rfl rfl rfl (zk_f ?_)
  refine zb_ne 9 27 dX10_sum_6 (by decide) rfl (fun zzA => ?_) (fun zzA => ?_)
  ·
    refine zi_ldc 29 dX10_sum_27 tw_357 rfl ?_
    exact zr_int hZ dX10_sum_29 rfl rfl ⟨_, rfl, _, by rw [r_sum, if_pos (by first | exact Or.inl zzA | exact Or.inr (Or.inl zzB) | exact Or.inr (Or.inr zzC))], hR, zOu_r _ _⟩
  ·
    refine zi_iload_n 10 dX10_sum_9 rfl rfl ?_
    refine zi_bipush (v := 20) 12 dX10_sum_10 (by decide) rfl ?_
    refine zc_static (n' := (0, 0)) (md' := mX10_outside) 15 dX10_sum_12 tw_354 zs_X10_outside (s_X10_outside B h _ _) rfl rfl rfl rfl rfl rfl rfl rfl (zk_f ?_)
    refine zb_ne 18 27 dX10_sum_15 (by decide) rfl (fun zzB => ?_) (fun zzB => ?_)
    ·
      refine zi_ldc 29 dX10_sum_27 tw_357 rfl ?_
      exact zr_int hZ dX10_sum_29 rfl rfl ⟨_, rfl, _, by rw [r_sum, if_pos (by first | exact Or.inl zzA | exact Or.inr (Or.inl zzB) | exact Or.inr (Or.inr zzC))], hR, zOu_r _ _⟩
    ·
      refine zi_iload_n 19 dX10_sum_18 rfl rfl ?_
      refine zi_bipush (v := 20) 21 dX10_sum_19 (by decide) rfl ?_
      refine zc_static (n' := (0, 0)) (md' := mX10_outside) 24 dX10_sum_21 tw_354 zs_X10_outside (s_X10_outside B h _ _) rfl rfl rfl rfl rfl rfl rfl rfl (zk_f ?_)
      refine zb_eq 27 30 dX10_sum_24 (by decide) rfl (fun zzC => ?_) (fun zzC => ?_)
      ·
        have zzO : ¬ (zOut t 20 ∨ zOut p 20 ∨ zOut q 20) := fun r => r.elim zzA (fun r => r.elim zzB zzC)
        obtain ⟨ti, hti, hti31, rfl⟩ := out_i (N := 20) (by decide) zzA
        obtain ⟨pj, hpj, hpj31, rfl⟩ := out_i (N := 20) (by decide) zzB
        obtain ⟨qj, hqj, hqj31, rfl⟩ := out_i (N := 20) (by decide) zzC
        obtain ⟨vm, hvm⟩ := hR.2.2.2.2.2.1.2.2.2.2 58 (by decide)
        refine zi_aload_n 31 dX10_sum_30 rfl rfl ?_
        refine zi_iload_n 32 dX10_sum_31 rfl rfl ?_
        rcases hsP : qSl s pj with _ | P
        ·
          refine zc_virtual (n' := (0, 0)) (md' := mX10_held) 35 dX10_sum_32 tw_485 zv_X10_held zcl_X10 (s_X10_heldN B h A hA s hR pj hpj hsP) hR.1 rfl rfl rfl rfl rfl rfl rfl rfl (zk_f ?_)
          refine zi_astoreN (lv' := [(4, _), (0, _), (1, _), (2, _), (3, _)]) 37 dX10_sum_35 rfl rfl rfl ?_
          refine zi_aload_n 38 dX10_sum_37 rfl rfl ?_
          refine zi_iload_n 39 dX10_sum_38 rfl rfl ?_
          rcases hsQ : qSl s qj with _ | Q
          ·
            refine zc_virtual (n' := (0, 0)) (md' := mX10_held) 42 dX10_sum_39 tw_485 zv_X10_held zcl_X10 (s_X10_heldN B h A hA s hR qj hqj hsQ) hR.1 rfl rfl rfl rfl rfl rfl rfl rfl (zk_f ?_)
            refine zi_astoreN (lv' := [(5, _), (4, _), (0, _), (1, _), (2, _), (3, _)]) 44 dX10_sum_42 rfl rfl rfl ?_
            refine zi_aloadN 46 dX10_sum_44 rfl rfl ?_
            refine zi_ifnullN 54 dX10_sum_46 (by decide) ?_
            refine zi_aload_n 55 dX10_sum_54 rfl rfl ?_
            refine zi_iconst (v := 1) 56 dX10_sum_55 (by decide) rfl ?_
            refine zc_virtual (n' := (0, 0)) (md' := mX10_found) 59 dX10_sum_56 tw_358 zv_X10_found zcl_X10 (s_X10_found B h A hA s hR 1) hR.1 rfl rfl rfl rfl rfl rfl rfl rfl (zk_i fun x1 h1 hp1 => ?_)
            obtain ⟨rfl, R1, U1⟩ := hp1
            exact zr_int hZ dX10_sum_59 rfl rfl ⟨_, rfl, _, by rw [r_sum, if_neg zzO, nI_clamp hpj31, hsP]; first | rw [onS_n] | rw [onS_s, nI_clamp hqj31, hsQ, onS_n], R1, U1⟩
          ·
            have hVQ := hs0.1 qj Q hsQ
            obtain ⟨vQ, hvQ, hzQ⟩ := hR.2.2.2.1 qj hqj
            rw [hzQ Q hsQ] at hvQ
            refine zc_virtual (n' := (0, 0)) (md' := mX10_held) 42 dX10_sum_39 tw_485 zv_X10_held zcl_X10 (s_X10_heldS B h A hA s hR qj hqj Q hsQ) hR.1 rfl rfl rfl rfl rfl rfl rfl rfl (zk_f ?_)
            refine zi_astore (lv' := [(5, _), (4, _), (0, _), (1, _), (2, _), (3, _)]) 44 dX10_sum_42 rfl rfl rfl ?_
            refine zi_aloadN 46 dX10_sum_44 rfl rfl ?_
            refine zi_ifnullN 54 dX10_sum_46 (by decide) ?_
            refine zi_aload_n 55 dX10_sum_54 rfl rfl ?_
            refine zi_iconst (v := 1) 56 dX10_sum_55 (by decide) rfl ?_
            refine zc_virtual (n' := (0, 0)) (md' := mX10_found) 59 dX10_sum_56 tw_358 zv_X10_found zcl_X10 (s_X10_found B h A hA s hR 1) hR.1 rfl rfl rfl rfl rfl rfl rfl rfl (zk_i fun x1 h1 hp1 => ?_)
            obtain ⟨rfl, R1, U1⟩ := hp1
            exact zr_int hZ dX10_sum_59 rfl rfl ⟨_, rfl, _, by rw [r_sum, if_neg zzO, nI_clamp hpj31, hsP]; first | rw [onS_n] | rw [onS_s, nI_clamp hqj31, hsQ, onS_n], R1, U1⟩
        ·
          have hVP := hs0.1 pj P hsP
          obtain ⟨vP, hvP, hzP⟩ := hR.2.2.2.1 pj hpj
          rw [hzP P hsP] at hvP
          refine zc_virtual (n' := (0, 0)) (md' := mX10_held) 35 dX10_sum_32 tw_485 zv_X10_held zcl_X10 (s_X10_heldS B h A hA s hR pj hpj P hsP) hR.1 rfl rfl rfl rfl rfl rfl rfl rfl (zk_f ?_)
          refine zi_astore (lv' := [(4, _), (0, _), (1, _), (2, _), (3, _)]) 37 dX10_sum_35 rfl rfl rfl ?_
          refine zi_aload_n 38 dX10_sum_37 rfl rfl ?_
          refine zi_iload_n 39 dX10_sum_38 rfl rfl ?_
          rcases hsQ : qSl s qj with _ | Q
          ·
            refine zc_virtual (n' := (0, 0)) (md' := mX10_held) 42 dX10_sum_39 tw_485 zv_X10_held zcl_X10 (s_X10_heldN B h A hA s hR qj hqj hsQ) hR.1 rfl rfl rfl rfl rfl rfl rfl rfl (zk_f ?_)
            refine zi_astoreN (lv' := [(5, _), (4, _), (0, _), (1, _), (2, _), (3, _)]) 44 dX10_sum_42 rfl rfl rfl ?_
            refine zi_aload 46 dX10_sum_44 rfl rfl ?_
            refine zi_ifnull 49 dX10_sum_46 rfl ?_
            refine zi_aloadN 51 dX10_sum_49 rfl rfl ?_
            refine zi_ifnonnullN 54 dX10_sum_51 rfl ?_
            refine zi_aload_n 55 dX10_sum_54 rfl rfl ?_
            refine zi_iconst (v := 1) 56 dX10_sum_55 (by decide) rfl ?_
            refine zc_virtual (n' := (0, 0)) (md' := mX10_found) 59 dX10_sum_56 tw_358 zv_X10_found zcl_X10 (s_X10_found B h A hA s hR 1) hR.1 rfl rfl rfl rfl rfl rfl rfl rfl (zk_i fun x1 h1 hp1 => ?_)
            obtain ⟨rfl, R1, U1⟩ := hp1
            exact zr_int hZ dX10_sum_59 rfl rfl ⟨_, rfl, _, by rw [r_sum, if_neg zzO, nI_clamp hpj31, hsP]; first | rw [onS_n] | rw [onS_s, nI_clamp hqj31, hsQ, onS_n], R1, U1⟩
          ·
            have hVQ := hs0.1 qj Q hsQ
            obtain ⟨vQ, hvQ, hzQ⟩ := hR.2.2.2.1 qj hqj
            rw [hzQ Q hsQ] at hvQ
            refine zc_virtual (n' := (0, 0)) (md' := mX10_held) 42 dX10_sum_39 tw_485 zv_X10_held zcl_X10 (s_X10_heldS B h A hA s hR qj hqj Q hsQ) hR.1 rfl rfl rfl rfl rfl rfl rfl rfl (zk_f ?_)
            refine zi_astore (lv' := [(5, _), (4, _), (0, _), (1, _), (2, _), (3, _)]) 44 dX10_sum_42 rfl rfl rfl ?_
            refine zi_aload 46 dX10_sum_44 rfl rfl ?_
            refine zi_ifnull 49 dX10_sum_46 rfl ?_
            refine zi_aload 51 dX10_sum_49 rfl rfl ?_
            refine zi_ifnonnull 60 dX10_sum_51 (by decide) ?_
            refine zi_aload_n 61 dX10_sum_60 rfl rfl ?_
            refine zi_getfield 64 3 dX10_sum_61 zcl_X10 tw_313 rfl rfl hR.1 rfl rfl ?_
            refine zi_aload 66 dX10_sum_64 rfl rfl ?_
            refine zi_aload 68 dX10_sum_66 rfl rfl ?_
            refine zc_virtual (n' := (0, 0)) (md' := mX4_becomeSum) 71 dX10_sum_68 tw_603 zv_X4_becomeSum zcl_X4 (s_X4_becomeSum B h (A 58) vm hvm (A (38 + pj)) _ hvP (A (38 + qj)) _ hvQ) hvm rfl rfl rfl rfl rfl rfl rfl rfl (zk_u fun h1 hq => ?_)
            obtain ⟨eM, oM, bM⟩ := ti_a hVP hVQ
            rw [eM] at hq
            have R1 := zRc_k (zKp_u (S := [A 58]) hvm hq (List.mem_singleton.mpr rfl)) hR (fun i hi hm => hA.ne (show 38 + i ≠ 58 by omega) (List.mem_singleton.mp hm))
            have m1 := zX0 hq
            refine zi_aload_n 72 dX10_sum_71 rfl rfl ?_
            refine zi_getfield 75 3 dX10_sum_72 zcl_X10 tw_313 rfl rfl R1.1 rfl rfl ?_
            refine zc_virtual (n' := (0, 0)) (md' := mX4_isTooGreat) 78 dX10_sum_75 tw_419 zv_X4_isTooGreat zcl_X4 (s_X4_isTooGreat B h1 (A 58) _ m1) m1 rfl rfl rfl rfl rfl rfl rfl rfl (zk_f ?_)
            refine zb_eq 81 84 dX10_sum_78 (by decide) rfl (fun zzT => ?_) (fun zzT => ?_)
            ·
              rw [bM] at zzT
              refine zi_aload_n 85 dX10_sum_84 rfl rfl ?_
              refine zi_aload_n 86 dX10_sum_85 rfl rfl ?_
              refine zi_iload_n 87 dX10_sum_86 rfl rfl ?_
              refine zi_aload_n 88 dX10_sum_87 rfl rfl ?_
              refine zi_getfield 91 3 dX10_sum_88 zcl_X10 tw_313 rfl rfl R1.1 rfl rfl ?_
              refine zc_virtual (n' := (0, 0)) (md' := mX10_keep) 94 dX10_sum_91 tw_439 zv_X10_keep zcl_X10 (s_X10_keep B h1 A hA s R1 ti hti (A 58) (i4a P Q) (i4V_of oM zzT) m1 (hA.ne (by omega))) R1.1 rfl rfl rfl rfl rfl rfl rfl rfl (zk_i fun x2 h2 hp2 => ?_)
              obtain ⟨rfl, R2, U2⟩ := hp2
              refine zc_virtual (n' := (0, 0)) (md' := mX10_answered) 97 dX10_sum_94 tw_367 zv_X10_answered zcl_X10 (s_X10_answered B h2 A hA _ R2 _) R2.1 rfl rfl rfl rfl rfl rfl rfl rfl (zk_i fun x3 h3 hp3 => ?_)
              obtain ⟨rfl, R3, U3⟩ := hp3
              exact zr_int hZ dX10_sum_97 rfl rfl ⟨_, rfl, _, by rw [r_sum, if_neg zzO, nI_clamp hpj31, hsP, onS_s, nI_clamp hqj31, hsQ, onS_s, if_neg zzT, nI_clamp hti31], R3, zOu_t (zOu_t (zOu_u hq (by decide)) U2) U3⟩
            ·
              rw [bM] at zzT
              refine zi_ldc 83 dX10_sum_81 tw_438 rfl ?_
              exact zr_int hZ dX10_sum_83 rfl rfl ⟨_, rfl, _, by rw [r_sum, if_neg zzO, nI_clamp hpj31, hsP, onS_s, nI_clamp hqj31, hsQ, onS_s, if_pos zzT], R1, zOu_u hq (by decide)⟩
      ·
        refine zi_ldc 29 dX10_sum_27 tw_357 rfl ?_
        exact zr_int hZ dX10_sum_29 rfl rfl ⟨_, rfl, _, by rw [r_sum, if_pos (by first | exact Or.inl zzA | exact Or.inr (Or.inl zzB) | exact Or.inr (Or.inr zzC))], hR, zOu_r _ _⟩

set_option maxHeartbeats 4000000 in
set_option maxRecDepth 100000 in
theorem s_X10_back (B : zBB) (h : zHp) (A : Nat → Nat) (hA : zInj A) (s : zSt) (hs0 : okSt s) (hR : zRc B A s h) (t p : Int32) : zSpec mX10_back B (6, 0, 0) [.ref (A 0), .int t, .int p] h (zPi (fun x h' => ∃ s' : zSt, r_back s t p = (x, s') ∧ zRc B A s' h' ∧ zOu A h h')) := by
  refine zSpec.of (by decide) (Nat.le_of_ble_eq_true rfl) (fun X hZ => ?_)
  show zG X mX10_back B (6, 0, 0) (0, 0) 0 [(0, .ref (A 0)), (1, .int t), (2, .int p)] [] h
  refine zi_iload_n 1 dX10_back_0 rfl rfl ?_
  refine zi_bipush (v := 20) 3 dX10_back_1 (by decide) rfl ?_
  refine zc_static (n' := (0, 0)) (md' := mX10_outside) 6 dX10_back_3 tw_354 zs_X10_outside (s_X10_outside B h _ _) rfl rfl rfl rfl rfl rfl rfl rfl (zk_f ?_)
  refine zb_ne 9 18 dX10_back_6 (by decide) rfl (fun zzA => ?_) (fun zzA => ?_)
  ·
    refine zi_ldc 20 dX10_back_18 tw_357 rfl ?_
    exact zr_int hZ dX10_back_20 rfl rfl ⟨_, rfl, _, by rw [r_back, if_pos (by first | exact Or.inl zzA | exact Or.inr zzB)], hR, zOu_r _ _⟩
  ·
    refine zi_iload_n 10 dX10_back_9 rfl rfl ?_
    refine zi_bipush (v := 20) 12 dX10_back_10 (by decide) rfl ?_
    refine zc_static (n' := (0, 0)) (md' := mX10_outside) 15 dX10_back_12 tw_354 zs_X10_outside (s_X10_outside B h _ _) rfl rfl rfl rfl rfl rfl rfl rfl (zk_f ?_)
    refine zb_eq 18 21 dX10_back_15 (by decide) rfl (fun zzB => ?_) (fun zzB => ?_)
    ·
      have zzO : ¬ (zOut t 20 ∨ zOut p 20) := fun r => r.elim zzA zzB
      obtain ⟨ti, hti, hti31, rfl⟩ := out_i (N := 20) (by decide) zzA
      obtain ⟨pj, hpj, hpj31, rfl⟩ := out_i (N := 20) (by decide) zzB
      obtain ⟨vm, hvm⟩ := hR.2.2.2.2.2.1.2.2.2.2 58 (by decide)
      refine zi_aload_n 22 dX10_back_21 rfl rfl ?_
      refine zi_iload_n 23 dX10_back_22 rfl rfl ?_
      rcases hsP : qSl s pj with _ | P
      ·
        refine zc_virtual (n' := (0, 0)) (md' := mX10_held) 26 dX10_back_23 tw_485 zv_X10_held zcl_X10 (s_X10_heldN B h A hA s hR pj hpj hsP) hR.1 rfl rfl rfl rfl rfl rfl rfl rfl (zk_f ?_)
        refine zi_astore_nN (lv' := [(3, _), (0, _), (1, _), (2, _)]) 27 dX10_back_26 rfl rfl rfl ?_
        refine zi_aload_nN 28 dX10_back_27 rfl rfl ?_
        refine zi_ifnonnullN 31 dX10_back_28 rfl ?_
        refine zi_aload_n 32 dX10_back_31 rfl rfl ?_
        refine zi_iconst (v := 1) 33 dX10_back_32 (by decide) rfl ?_
        refine zc_virtual (n' := (0, 0)) (md' := mX10_found) 36 dX10_back_33 tw_358 zv_X10_found zcl_X10 (s_X10_found B h A hA s hR 1) hR.1 rfl rfl rfl rfl rfl rfl rfl rfl (zk_i fun x1 h1 hp1 => ?_)
        obtain ⟨rfl, R1, U1⟩ := hp1
        exact zr_int hZ dX10_back_36 rfl rfl ⟨_, rfl, _, by rw [r_back, if_neg zzO, nI_clamp hpj31, hsP, onS_n], R1, U1⟩
      ·
        have hVP := hs0.1 pj P hsP
        obtain ⟨vP, hvP, hzP⟩ := hR.2.2.2.1 pj hpj
        rw [hzP P hsP] at hvP
        refine zc_virtual (n' := (0, 0)) (md' := mX10_held) 26 dX10_back_23 tw_485 zv_X10_held zcl_X10 (s_X10_heldS B h A hA s hR pj hpj P hsP) hR.1 rfl rfl rfl rfl rfl rfl rfl rfl (zk_f ?_)
        refine zi_astore_n (lv' := [(3, _), (0, _), (1, _), (2, _)]) 27 dX10_back_26 rfl rfl rfl ?_
        refine zi_aload_n 28 dX10_back_27 rfl rfl ?_
        refine zi_ifnonnull 37 dX10_back_28 (by decide) ?_
        refine zi_aload_n 38 dX10_back_37 rfl rfl ?_
        refine zi_getfield 41 3 dX10_back_38 zcl_X10 tw_313 rfl rfl hR.1 rfl rfl ?_
        refine zi_aload_n 42 dX10_back_41 rfl rfl ?_
        refine zc_virtual (n' := (0, 0)) (md' := mX4_becomeBack) 45 dX10_back_42 tw_611 zv_X4_becomeBack zcl_X4 (s_X4_becomeBack B h (A 58) vm hvm (A (38 + pj)) _ hvP) hvm rfl rfl rfl rfl rfl rfl rfl rfl (zk_u fun h1 hq => ?_)
        rw [z4i_b] at hq
        have R1 := zRc_k (zKp_u (S := [A 58]) hvm hq (List.mem_singleton.mpr rfl)) hR (fun i hi hm => hA.ne (show 38 + i ≠ 58 by omega) (List.mem_singleton.mp hm))
        have m1 := zX0 hq
        refine zi_aload_n 46 dX10_back_45 rfl rfl ?_
        refine zi_aload_n 47 dX10_back_46 rfl rfl ?_
        refine zi_iload_n 48 dX10_back_47 rfl rfl ?_
        refine zi_aload_n 49 dX10_back_48 rfl rfl ?_
        refine zi_getfield 52 3 dX10_back_49 zcl_X10 tw_313 rfl rfl R1.1 rfl rfl ?_
        refine zc_virtual (n' := (0, 0)) (md' := mX10_keep) 55 dX10_back_52 tw_439 zv_X10_keep zcl_X10 (s_X10_keep B h1 A hA s R1 ti hti (A 58) (i4b P) (i4V_b hVP) m1 (hA.ne (by omega))) R1.1 rfl rfl rfl rfl rfl rfl rfl rfl (zk_i fun x2 h2 hp2 => ?_)
        obtain ⟨rfl, R2, U2⟩ := hp2
        refine zc_virtual (n' := (0, 0)) (md' := mX10_answered) 58 dX10_back_55 tw_367 zv_X10_answered zcl_X10 (s_X10_answered B h2 A hA _ R2 _) R2.1 rfl rfl rfl rfl rfl rfl rfl rfl (zk_i fun x3 h3 hp3 => ?_)
        obtain ⟨rfl, R3, U3⟩ := hp3
        exact zr_int hZ dX10_back_58 rfl rfl ⟨_, rfl, _, by rw [r_back, if_neg zzO, nI_clamp hpj31, hsP, onS_s, nI_clamp hti31], R3, zOu_t (zOu_t (zOu_u hq (by decide)) U2) U3⟩
    ·
      refine zi_ldc 20 dX10_back_18 tw_357 rfl ?_
      exact zr_int hZ dX10_back_20 rfl rfl ⟨_, rfl, _, by rw [r_back, if_pos (by first | exact Or.inl zzA | exact Or.inr zzB)], hR, zOu_r _ _⟩
