theorem out_2 {i : Int32} (h : ¬ zOut i 2) : i = 0 ∨ i = 1 := by
  obtain ⟨j, hj, -, rfl⟩ := out_i (N := 2) (by decide) h
  match j, hj with
  | 0, _ => exact Or.inl rfl
  | 1, _ => exact Or.inr rfl
theorem i4V_as {s : Int32} {P : i4} (h : i4V P) : i4V (asI s P) := ⟨(asI_q h.1).1, by rw [(asI_q h.1).2]; exact h.2⟩
noncomputable def r_associate (s : zSt) (t p w : Int32) : Int32 × zSt := if zOut t 20 ∨ zOut p 20 ∨ zOut w 2 then (-1000001, s) else onS (qSl s p.toNatClampNeg) (-1000010 - 1, sFd s 1) fun P => (nI (kindI (asI w P)), sFd (sSl s t.toNatClampNeg (some (asI w P))) 0)

set_option maxHeartbeats 4000000 in
set_option maxRecDepth 100000 in
theorem s_X10_associate (B : zBB) (h : zHp) (A : Nat → Nat) (hA : zInj A) (s : zSt) (hs0 : okSt s) (hR : zRc B A s h) (t p w : Int32) : zSpec mX10_associate B (6, 0, 0) [.ref (A 0), .int t, .int p, .int w] h (zPi (fun x h' => ∃ s' : zSt, r_associate s t p w = (x, s') ∧ zRc B A s' h' ∧ zOu A h h')) := by
  refine zSpec.of (by decide) (Nat.le_of_ble_eq_true rfl) (fun X hZ => ?_)
  show zG X mX10_associate B (6, 0, 0) (0, 0) 0 [(0, .ref (A 0)), (1, .int t), (2, .int p), (3, .int w)] [] h
  refine zi_iload_n 1 dX10_associate_0 rfl rfl ?_
  refine zi_bipush (v := 20) 3 dX10_associate_1 (by decide) rfl ?_
  refine zc_static (n' := (0, 0)) (md' := mX10_outside) 6 dX10_associate_3 tw_354 zs_X10_outside (s_X10_outside B h _ _) rfl rfl rfl rfl rfl rfl rfl rfl (zk_f ?_)
  refine zb_ne 9 26 dX10_associate_6 (by decide) rfl (fun zzA => ?_) (fun zzA => ?_)
  ·
    refine zi_ldc 28 dX10_associate_26 tw_357 rfl ?_
    exact zr_int hZ dX10_associate_28 rfl rfl ⟨_, rfl, _, by rw [r_associate, if_pos (by first | exact Or.inl zzA | exact Or.inr (Or.inl zzB) | exact Or.inr (Or.inr zzC))], hR, zOu_r _ _⟩
  ·
    refine zi_iload_n 10 dX10_associate_9 rfl rfl ?_
    refine zi_bipush (v := 20) 12 dX10_associate_10 (by decide) rfl ?_
    refine zc_static (n' := (0, 0)) (md' := mX10_outside) 15 dX10_associate_12 tw_354 zs_X10_outside (s_X10_outside B h _ _) rfl rfl rfl rfl rfl rfl rfl rfl (zk_f ?_)
    refine zb_ne 18 26 dX10_associate_15 (by decide) rfl (fun zzB => ?_) (fun zzB => ?_)
    ·
      refine zi_ldc 28 dX10_associate_26 tw_357 rfl ?_
      exact zr_int hZ dX10_associate_28 rfl rfl ⟨_, rfl, _, by rw [r_associate, if_pos (by first | exact Or.inl zzA | exact Or.inr (Or.inl zzB) | exact Or.inr (Or.inr zzC))], hR, zOu_r _ _⟩
    ·
      refine zi_iload_n 19 dX10_associate_18 rfl rfl ?_
      refine zi_iconst (v := 2) 20 dX10_associate_19 (by decide) rfl ?_
      refine zc_static (n' := (0, 0)) (md' := mX10_outside) 23 dX10_associate_20 tw_354 zs_X10_outside (s_X10_outside B h _ _) rfl rfl rfl rfl rfl rfl rfl rfl (zk_f ?_)
      refine zb_eq 26 29 dX10_associate_23 (by decide) rfl (fun zzC => ?_) (fun zzC => ?_)
      ·
        have zzO : ¬ (zOut t 20 ∨ zOut p 20 ∨ zOut w 2) := fun r => r.elim zzA (fun r => r.elim zzB zzC)
        obtain ⟨ti, hti, hti31, rfl⟩ := out_i (N := 20) (by decide) zzA
        obtain ⟨pj, hpj, hpj31, rfl⟩ := out_i (N := 20) (by decide) zzB
        have hFo := hR.2.2.2.2.2.1.2.2.2.2
        refine zi_aload_n 30 dX10_associate_29 rfl rfl ?_
        refine zi_iload_n 31 dX10_associate_30 rfl rfl ?_
        rcases hsP : qSl s pj with _ | P
        ·
          refine zc_virtual (n' := (0, 0)) (md' := mX10_held) 34 dX10_associate_31 tw_485 zv_X10_held zcl_X10 (s_X10_heldN B h A hA s hR pj hpj hsP) hR.1 rfl rfl rfl rfl rfl rfl rfl rfl (zk_f ?_)
          refine zi_astoreN (lv' := [(4, _), (0, _), (1, _), (2, _), (3, _)]) 36 dX10_associate_34 rfl rfl rfl ?_
          refine zi_aloadN 38 dX10_associate_36 rfl rfl ?_
          refine zi_ifnonnullN 41 dX10_associate_38 rfl ?_
          refine zi_aload_n 42 dX10_associate_41 rfl rfl ?_
          refine zi_iconst (v := 1) 43 dX10_associate_42 (by decide) rfl ?_
          refine zc_virtual (n' := (0, 0)) (md' := mX10_found) 46 dX10_associate_43 tw_358 zv_X10_found zcl_X10 (s_X10_found B h A hA s hR 1) hR.1 rfl rfl rfl rfl rfl rfl rfl rfl (zk_i fun x1 h1 hp1 => ?_)
          obtain ⟨rfl, R1, U1⟩ := hp1
          exact zr_int hZ dX10_associate_46 rfl rfl ⟨_, rfl, _, by rw [r_associate, if_neg zzO, nI_clamp hpj31, hsP, onS_n], R1, U1⟩
        ·
          have hVP := hs0.1 pj P hsP
          obtain ⟨vP, hvP, hzP⟩ := hR.2.2.2.1 pj hpj
          rw [hzP P hsP] at hvP
          refine zc_virtual (n' := (0, 0)) (md' := mX10_held) 34 dX10_associate_31 tw_485 zv_X10_held zcl_X10 (s_X10_heldS B h A hA s hR pj hpj P hsP) hR.1 rfl rfl rfl rfl rfl rfl rfl rfl (zk_f ?_)
          refine zi_astore (lv' := [(4, _), (0, _), (1, _), (2, _), (3, _)]) 36 dX10_associate_34 rfl rfl rfl ?_
          refine zi_aload 38 dX10_associate_36 rfl rfl ?_
          refine zi_ifnonnull 47 dX10_associate_38 (by decide) ?_
          refine zi_aload_n 48 dX10_associate_47 rfl rfl ?_
          refine zi_getfield 51 5 dX10_associate_48 zcl_X10 tw_315 rfl rfl hR.1 rfl rfl ?_
          refine zi_aload 53 dX10_associate_51 rfl rfl ?_
          refine zi_iload_n 54 dX10_associate_53 rfl rfl ?_
          refine zc_virtual (n' := (0, 0)) (md' := mX1_seek) 57 dX10_associate_54 tw_688 zv_X1_seek zcl_X1 (s_X1_sk B h (A 5) (A 63) (A 64) (A 65) (A (38 + pj)) P w hVP.1 (i4l_m (zb_63 hVP.2) (by decide)) (hA.ne (by decide)) (hA.ne (by decide)) (hA.ne (by decide)) (hA.nm (l := [63, 64, 65]) (i := 38 + pj) (by simp; omega)) hR.2.2.2.2.2.1.2.1 (hFo 63 (by decide)) (hFo 64 (by decide)) (hFo 65 (by decide)) hvP) hR.2.2.2.2.2.1.2.1 rfl rfl rfl rfl rfl rfl rfl rfl (zk_v fun h1 hp1 => ?_)
          obtain ⟨k1, m1⟩ := hp1
          have R1 := zRc_k (S := [63, 64, 65].map A) k1 hR (fun i hi hm => by obtain ⟨x, hx, e⟩ := List.mem_map.mp hm; exact hA.ne (show 38 + i ≠ x by have := (by decide : ∀ x ∈ [63, 64, 65], 58 ≤ x) x hx; omega) e.symm)
          have U1 := zOu_k (S := [63, 64, 65].map A) k1 (fun x hx => by obtain ⟨i, hi, e⟩ := List.mem_map.mp hx; exact ⟨i, (by decide : ∀ i ∈ [63, 64, 65], i < 91) i hi, e.symm⟩)
          refine zi_aload_n 58 dX10_associate_57 rfl rfl ?_
          refine zi_aload_n 59 dX10_associate_58 rfl rfl ?_
          refine zi_iload_n 60 dX10_associate_59 rfl rfl ?_
          refine zi_aload_n 61 dX10_associate_60 rfl rfl ?_
          refine zi_getfield 64 5 dX10_associate_61 zcl_X10 tw_315 rfl rfl R1.1 rfl rfl ?_
          refine zi_getfield 67 0 dX10_associate_64 zcl_X1 tw_167 rfl rfl R1.2.2.2.2.2.1.2.1 rfl rfl ?_
          refine zc_virtual (n' := (0, 0)) (md' := mX10_keep) 70 dX10_associate_67 tw_439 zv_X10_keep zcl_X10 (s_X10_keep B h1 A hA s R1 ti hti (A 63) (asI w P) (i4V_as hVP) m1 (hA.ne (by omega))) R1.1 rfl rfl rfl rfl rfl rfl rfl rfl (zk_i fun x2 h2 hp2 => ?_)
          obtain ⟨rfl, R2, U2⟩ := hp2
          refine zc_virtual (n' := (0, 0)) (md' := mX10_answered) 73 dX10_associate_70 tw_367 zv_X10_answered zcl_X10 (s_X10_answered B h2 A hA _ R2 _) R2.1 rfl rfl rfl rfl rfl rfl rfl rfl (zk_i fun x3 h3 hp3 => ?_)
          obtain ⟨rfl, R3, U3⟩ := hp3
          exact zr_int hZ dX10_associate_73 rfl rfl ⟨_, rfl, _, by rw [r_associate, if_neg zzO, nI_clamp hpj31, hsP, onS_s, nI_clamp hti31], R3, zOu_t (zOu_t U1 U2) U3⟩
      ·
        refine zi_ldc 28 dX10_associate_26 tw_357 rfl ?_
        exact zr_int hZ dX10_associate_28 rfl rfl ⟨_, rfl, _, by rw [r_associate, if_pos (by first | exact Or.inl zzA | exact Or.inr (Or.inl zzB) | exact Or.inr (Or.inr zzC))], hR, zOu_r _ _⟩
