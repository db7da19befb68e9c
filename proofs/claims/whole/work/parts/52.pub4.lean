theorem kd_le (P : i4) : kindI P ≤ 4 := by unfold kindI; (repeat' split) <;> decide
theorem kd_31 (P : i4) : kindI P < 2 ^ 31 := Nat.lt_of_le_of_lt (kd_le P) (by decide)
theorem V_d {P : i4} (h : i4V P) (h0 : i4q P ≠ 0) : i4V (i4d P (wh P)) := by
  obtain ⟨h1, h2, h3⟩ := wh_s h.1 (zqpos h0)
  refine ⟨h2, ?_⟩
  have e : i4q P = wh P * wh P * i4q (i4d P (wh P)) := by
    have := congrArg i4q h3
    rwa [i4q_k] at this
  have h4 := i4q_nn (i4d P (wh P))
  have h5 := h.2
  have h6 : (1 : Int) ≤ (wh P : Int) * wh P := by
    have : 1 * 1 ≤ wh P * wh P := Nat.mul_le_mul h1 h1
    exact_mod_cast this
  have h7 := Int.mul_le_mul_of_nonneg_right h6 h4
  rw [← e] at h7
  omega
theorem V_gr {s : Int32} {P Q : i4} (hP : i4V P) (hQ : i4V Q) : i4V (grI s P Q) := grI_b hP.1 hQ.1 hP.2 hQ.2
theorem V_n {P : i4} (h : i4o P) (hn : i4n P ≤ 1000000000) : i4V P := ⟨h, by have := i4q_4 h; omega⟩
theorem V_pt {P : i4} (h : i4V P) (hk : kindI P = 2 ∨ kindI P = 3) : ptOK P (i4n P).toNat := by
  have h0 : i4q P ≠ 0 := fun e => by
    unfold kindI at hk
    rw [if_pos e] at hk
    omega
  have h1 := (nN_pos h).mp h0
  have h2 := nN_le h
  have h3 := nN_i P
  refine ⟨h.1, by omega, by omega, ?_, h1⟩
  show ((nN P : Nat) : Int) ∣ i4n P
  rw [h3]
  exact Int.dvd_refl _
theorem V_ptL : ∀ (k : Nat) (P : i4) (m : Nat), ptOK P m → m < 2 ^ k → ∀ v ∈ ptL k P m, i4V v := by
  intro k
  induction k with
  | zero =>
    intro P m h hm v hv
    rw [pt_e (by omega)] at hv
    rw [List.mem_singleton.mp hv]
    exact V_n h.1 h.2.2.1
  | succ k ih =>
    intro P m h hm v hv
    rcases Nat.lt_or_ge 1 m with c | c
    · obtain ⟨k', ek, e1, e2, e3, e4, e5⟩ := pt_s (P := P) (k := k + 1) (by omega : ¬ m ≤ 1) hm
      cases ek
      rw [e2] at hv
      obtain ⟨g1, g2, g3, g4, g5, g6, g7⟩ := pt_st h (by omega) e4
      rcases List.mem_cons.mp hv with q | q
      · rw [q]
        exact V_n g2 (by have := h.2.2.1; omega)
      · exact ih _ _ g6 e1 v q
    · rw [pt_e c] at hv
      rw [List.mem_singleton.mp hv]
      exact V_n h.1 h.2.2.1
theorem ptL_len (k : Nat) (P : i4) (m : Nat) : (ptL k P m).length ≤ k + 1 := by
  induction k generalizing P m with
  | zero => simp [ptL]
  | succ k ih =>
    rw [ptL]
    split
    · simp
    · have := ih (ptN P (zLp m)) (m / zLp m)
      rw [List.length_cons]
      omega

set_option maxHeartbeats 4000000 in
set_option maxRecDepth 100000 in
theorem s_X10_keep2 (B : zBB) (h : zHp) (A : Nat → Nat) (hA : zInj A) (s : zSt) (hR : zRc B A s h) (i : Nat) (hi : i < 20) (b : Nat) (P : i4) (hV : i4V P) (hb : h b = some (zFo (z4i P))) (hbn : b ≠ A (38 + i)) : zSpec mX10_keep B (5, 0, 0) [.ref (A 0), .int (nI i), .ref b] h (zPi (fun x h' => x = nI (kindI P) ∧ zRc B A (sSl s i (some P)) h' ∧ zOu A h h' ∧ ∀ x, x ≠ A 3 → x ≠ A (38 + i) → h' x = h x)) := by
  refine zSpec.of (by decide) (Nat.le_of_ble_eq_true rfl) (fun X hZ => ?_)
  show zG X mX10_keep B (5, 0, 0) (0, 0) 0 [(0, .ref (A 0)), (1, .int (nI i)), (2, .ref b)] [] h
  obtain ⟨hO, ⟨-, ff, hf, hff⟩, ⟨fk, hk, hfk⟩, hS, -⟩ := id hR
  obtain ⟨v0, hv0, -⟩ := hS i hi
  refine zi_iload_n 1 dX10_keep_0 rfl rfl ?_
  refine zi_bipush (v := 20) 3 dX10_keep_1 (by decide) rfl ?_
  refine zc_static (n' := (0, 0)) (md' := mX10_outside) 6 dX10_keep_3 tw_354 zs_X10_outside (s_X10_outside B h _ _) rfl rfl rfl rfl rfl rfl rfl rfl (zk_f ?_)
  refine zb_ne 9 18 dX10_keep_6 (by decide) rfl (fun c_6 => absurd c_6 (zout_in hi)) (fun c_6 => ?_)
  refine zi_aload_n 10 dX10_keep_9 rfl rfl ?_
  refine zi_getfield 13 1 dX10_keep_10 zcl_X10 tw_311 rfl rfl hO rfl rfl ?_
  refine zi_iload_n 14 dX10_keep_13 rfl rfl ?_
  refine zi_aaloadF 15 dX10_keep_14 hf (vp_in_nI hi (by decide)) (by rw [nI_clamp (by omega)]; exact hff i hi) rfl ?_
  refine zi_ifnonnull 21 dX10_keep_15 (by decide) ?_
  refine zi_aload_n 22 dX10_keep_21 rfl rfl ?_
  refine zi_getfield 25 1 dX10_keep_22 zcl_X10 tw_311 rfl rfl hO rfl rfl ?_
  refine zi_iload_n 26 dX10_keep_25 rfl rfl ?_
  refine zi_aaloadF 27 dX10_keep_26 hf (vp_in_nI hi (by decide)) (by rw [nI_clamp (by omega)]; exact hff i hi) rfl ?_
  refine zi_aload_n 28 dX10_keep_27 rfl rfl ?_
  refine zc_virtual (n' := (0, 0)) (md' := mX4_become_) 31 dX10_keep_28 tw_443 zv_X4_become_ zcl_X4 (s_X4_become_ B h (A (38 + i)) v0 hv0 b _ hb) hv0 rfl rfl rfl rfl rfl rfl rfl rfl (zk_u fun h1 hq => ?_)
  have hO1 := zX1 hq (hA.ne (i := 0) (by omega)) hO
  have hk1 := zX1 hq (hA.ne (i := 3) (by omega)) hk
  have hb1 := zX1 hq hbn hb
  refine zi_aload_n 32 dX10_keep_31 rfl rfl ?_
  refine zi_getfield 35 2 dX10_keep_32 zcl_X10 tw_312 rfl rfl hO1 rfl rfl ?_
  refine zi_iload_n 36 dX10_keep_35 rfl rfl ?_
  refine zi_aload_n 37 dX10_keep_36 rfl rfl ?_
  refine zc_static (n' := (0, 0)) (md' := mX10_kindOf) 40 dX10_keep_37 tw_448 zs_X10_kindOf (s_X10_kindOf B h1 b P hV hb1) rfl rfl rfl rfl rfl rfl rfl rfl (zk_f ?_)
  refine zi_iastore 41 dX10_keep_40 hk1 (vp_in_nI hi (by decide)) rfl ?_
  rw [nI_clamp (by omega)]
  refine zk_h (fun h2 hq2 => ?_)
  have hO2 := zX1 hq2 (hA.ne (i := 0) (by decide)) hO1
  have hk2 := zX0 hq2
  refine zi_aload_n 42 dX10_keep_41 rfl rfl ?_
  refine zi_getfield 45 2 dX10_keep_42 zcl_X10 tw_312 rfl rfl hO2 rfl rfl ?_
  refine zi_iload_n 46 dX10_keep_45 rfl rfl ?_
  refine zi_iaload 47 dX10_keep_46 hk2 (vp_in_nI hi (by decide)) rfl ?_
  exact zr_int hZ dX10_keep_47 rfl rfl ⟨_, rfl, by rw [nI_clamp (by omega)]; exact up_at _ _ _, by rw [hq2, hq]; exact zRc_kp hA (fk := upd fk i (nI (kindI P))) (up_kd hfk) hi hR, zOu_t (zOu_u hq (by omega)) (zOu_u hq2 (by decide)), fun x hx3 hxi => by rw [hq2, zU_n _ _ hx3, hq, zU_n _ _ hxi]⟩

noncomputable def r_over (s : zSt) (t r p q w : Int32) : Int32 × zSt := if zOut t 20 ∨ zOut r 20 ∨ zOut p 20 ∨ zOut q 20 ∨ zOut w 2 then (-1000001, s) else onS (qSl s p.toNatClampNeg) (-1000010 - 1, sFd s 1) fun P => onS (qSl s q.toNatClampNeg) (-1000010 - 1, sFd s 1) fun Q => if i4q Q = 0 then (-1000002, s) else (nI (nN (dvR P Q w)), sFd (sSl (sSl s r.toNatClampNeg (some (dvR P Q w))) t.toNatClampNeg (some (dvT P Q w))) 0)
noncomputable def r_greatest (s : zSt) (t p q w : Int32) : Int32 × zSt := if zOut t 20 ∨ zOut p 20 ∨ zOut q 20 ∨ zOut w 2 then (-1000001, s) else onS (qSl s p.toNatClampNeg) (-1000010 - 1, sFd s 1) fun P => onS (qSl s q.toNatClampNeg) (-1000010 - 1, sFd s 1) fun Q => if i4q P = 0 ∧ i4q Q = 0 then (-1000002, s) else (nI (nN (grI w P Q)), sFd (sSl s t.toNatClampNeg (some (grI w P Q))) 0)
noncomputable def r_plain (s : zSt) (t p : Int32) : Int32 × zSt := if zOut t 20 ∨ zOut p 20 then (-1000001, s) else onS (qSl s p.toNatClampNeg) (-1000010 - 1, sFd s 1) fun P => if i4q P = 0 then (-1000002, s) else (nI (wh P), sFd (sSl s t.toNatClampNeg (some (i4d P (wh P)))) 0)
noncomputable def ptD (P : i4) : List i4 := ptL 30 P (i4n P).toNat
noncomputable def r_part (s : zSt) (t p i : Int32) : Int32 × zSt := if zOut t 20 ∨ zOut p 20 then (-1000001, s) else onS (qSl s p.toNatClampNeg) (-1000010 - 1, sFd s 1) fun P => if kindI P = 2 ∨ kindI P = 3 then (if zOut i (nI (ptD P).length) then (-1000000, sFd s 0) else (nI (ptD P).length, sFd (sSl s t.toNatClampNeg (ptD P)[i.toNatClampNeg]?) 0)) else (-1000002, s)

set_option maxHeartbeats 4000000 in
set_option maxRecDepth 100000 in
theorem s_X10_over (B : zBB) (h : zHp) (A : Nat → Nat) (hA : zInj A) (s : zSt) (hs0 : okSt s) (hR : zRc B A s h) (t r p q w : Int32) : zSpec mX10_over B (6, 0, 0) [.ref (A 0), .int t, .int r, .int p, .int q, .int w] h (zPi (fun zx h' => ∃ s' : zSt, r_over s t r p q w = (zx, s') ∧ zRc B A s' h' ∧ zOu A h h')) := by
  refine zSpec.of (by decide) (Nat.le_of_ble_eq_true rfl) (fun X hZ => ?_)
  show zG X mX10_over B (6, 0, 0) (0, 0) 0 [(0, .ref (A 0)), (1, .int t), (2, .int r), (3, .int p), (4, .int q), (5, .int w)] [] h
  refine zi_iload_n 1 dX10_over_0 rfl rfl ?_
  refine zi_bipush (v := 20) 3 dX10_over_1 (by decide) rfl ?_
  refine zc_static (n' := (0, 0)) (md' := mX10_outside) 6 dX10_over_3 tw_354 zs_X10_outside (s_X10_outside B h _ _) rfl rfl rfl rfl rfl rfl rfl rfl (zk_f ?_)
  refine zb_ne 9 37 dX10_over_6 (by decide) rfl (fun zzA => ?_) (fun zzA => ?_)
  ·
    refine zi_ldc 39 dX10_over_37 tw_357 rfl ?_
    exact zr_int hZ dX10_over_39 rfl rfl ⟨_, rfl, _, by rw [r_over, if_pos (by first | exact Or.inl zzA | exact Or.inr (Or.inl zzB) | exact Or.inr (Or.inr (Or.inl zzC)) | exact Or.inr (Or.inr (Or.inr (Or.inl zzD))) | exact Or.inr (Or.inr (Or.inr (Or.inr (zzE)))))], hR, zOu_r _ _⟩
  ·
    refine zi_iload_n 10 dX10_over_9 rfl rfl ?_
    refine zi_bipush (v := 20) 12 dX10_over_10 (by decide) rfl ?_
    refine zc_static (n' := (0, 0)) (md' := mX10_outside) 15 dX10_over_12 tw_354 zs_X10_outside (s_X10_outside B h _ _) rfl rfl rfl rfl rfl rfl rfl rfl (zk_f ?_)
    refine zb_ne 18 37 dX10_over_15 (by decide) rfl (fun zzB => ?_) (fun zzB => ?_)
    ·
      refine zi_ldc 39 dX10_over_37 tw_357 rfl ?_
      exact zr_int hZ dX10_over_39 rfl rfl ⟨_, rfl, _, by rw [r_over, if_pos (by first | exact Or.inl zzA | exact Or.inr (Or.inl zzB) | exact Or.inr (Or.inr (Or.inl zzC)) | exact Or.inr (Or.inr (Or.inr (Or.inl zzD))) | exact Or.inr (Or.inr (Or.inr (Or.inr (zzE)))))], hR, zOu_r _ _⟩
    ·
      refine zi_iload_n 19 dX10_over_18 rfl rfl ?_
      refine zi_bipush (v := 20) 21 dX10_over_19 (by decide) rfl ?_
      refine zc_static (n' := (0, 0)) (md' := mX10_outside) 24 dX10_over_21 tw_354 zs_X10_outside (s_X10_outside B h _ _) rfl rfl rfl rfl rfl rfl rfl rfl (zk_f ?_)
      refine zb_ne 27 37 dX10_over_24 (by decide) rfl (fun zzC => ?_) (fun zzC => ?_)
      ·
        refine zi_ldc 39 dX10_over_37 tw_357 rfl ?_
        exact zr_int hZ dX10_over_39 rfl rfl ⟨_, rfl, _, by rw [r_over, if_pos (by first | exact Or.inl zzA | exact Or.inr (Or.inl zzB) | exact Or.inr (Or.inr (Or.inl zzC)) | exact Or.inr (Or.inr (Or.inr (Or.inl zzD))) | exact Or.inr (Or.inr (Or.inr (Or.inr (zzE)))))], hR, zOu_r _ _⟩
      ·
        refine zi_iload 29 dX10_over_27 rfl rfl ?_
        refine zi_bipush (v := 20) 31 dX10_over_29 (by decide) rfl ?_
        refine zc_static (n' := (0, 0)) (md' := mX10_outside) 34 dX10_over_31 tw_354 zs_X10_outside (s_X10_outside B h _ _) rfl rfl rfl rfl rfl rfl rfl rfl (zk_f ?_)
        refine zb_eq 37 40 dX10_over_34 (by decide) rfl (fun zzD => ?_) (fun zzD => ?_)
        ·
          refine zi_iload 42 dX10_over_40 rfl rfl ?_
          refine zi_iconst (v := 2) 43 dX10_over_42 (by decide) rfl ?_
          refine zc_static (n' := (0, 0)) (md' := mX10_outside) 46 dX10_over_43 tw_354 zs_X10_outside (s_X10_outside B h _ _) rfl rfl rfl rfl rfl rfl rfl rfl (zk_f ?_)
          refine zb_eq 49 52 dX10_over_46 (by decide) rfl (fun zzE => ?_) (fun zzE => ?_)
          ·
            have zzO : ¬ (zOut t 20 ∨ zOut r 20 ∨ zOut p 20 ∨ zOut q 20 ∨ zOut w 2) := fun r => r.elim zzA (fun r => r.elim zzB (fun r => r.elim zzC (fun r => r.elim zzD zzE)))
            obtain ⟨ti, hti, hti31, rfl⟩ := out_i (N := 20) (by decide) zzA
            obtain ⟨ri, hri, hri31, rfl⟩ := out_i (N := 20) (by decide) zzB
            obtain ⟨pj, hpj, hpj31, rfl⟩ := out_i (N := 20) (by decide) zzC
            obtain ⟨qj, hqj, hqj31, rfl⟩ := out_i (N := 20) (by decide) zzD
            have hFo := hR.2.2.2.2.2.1.2.2.2.2
            refine zi_aload_n 53 dX10_over_52 rfl rfl ?_
            refine zi_iload_n 54 dX10_over_53 rfl rfl ?_
            rcases hsP : qSl s pj with _ | P
            ·
              refine zc_virtual (n' := (0, 0)) (md' := mX10_held) 57 dX10_over_54 tw_485 zv_X10_held zcl_X10 (s_X10_heldN B h A hA s hR pj hpj hsP) hR.1 rfl rfl rfl rfl rfl rfl rfl rfl (zk_f ?_)
              refine zi_astoreN (lv' := [(6, _), (0, _), (1, _), (2, _), (3, _), (4, _), (5, _)]) 59 dX10_over_57 rfl rfl rfl ?_
              refine zi_aload_n 60 dX10_over_59 rfl rfl ?_
              refine zi_iload 62 dX10_over_60 rfl rfl ?_
              rcases hsQ : qSl s qj with _ | Q
              ·
                refine zc_virtual (n' := (0, 0)) (md' := mX10_held) 65 dX10_over_62 tw_485 zv_X10_held zcl_X10 (s_X10_heldN B h A hA s hR qj hqj hsQ) hR.1 rfl rfl rfl rfl rfl rfl rfl rfl (zk_f ?_)
                refine zi_astoreN (lv' := [(7, _), (6, _), (0, _), (1, _), (2, _), (3, _), (4, _), (5, _)]) 67 dX10_over_65 rfl rfl rfl ?_
                refine zi_aloadN 69 dX10_over_67 rfl rfl ?_
                refine zi_ifnullN 77 dX10_over_69 (by decide) ?_
                refine zi_aload_n 78 dX10_over_77 rfl rfl ?_
                refine zi_iconst (v := 1) 79 dX10_over_78 (by decide) rfl ?_
                refine zc_virtual (n' := (0, 0)) (md' := mX10_found) 82 dX10_over_79 tw_358 zv_X10_found zcl_X10 (s_X10_found B h A hA s hR 1) hR.1 rfl rfl rfl rfl rfl rfl rfl rfl (zk_i fun x1 h1 hp1 => ?_)
                obtain ⟨rfl, R1, U1⟩ := hp1
                exact zr_int hZ dX10_over_82 rfl rfl ⟨_, rfl, _, by rw [r_over, if_neg zzO, nI_clamp hpj31, hsP]; first | rw [onS_n] | rw [onS_s, nI_clamp hqj31, hsQ, onS_n], R1, U1⟩
              ·
                have hVQ := hs0.1 qj Q hsQ
                obtain ⟨vQ, hvQ, hzQ⟩ := hR.2.2.2.1 qj hqj
                rw [hzQ Q hsQ] at hvQ
                refine zc_virtual (n' := (0, 0)) (md' := mX10_held) 65 dX10_over_62 tw_485 zv_X10_held zcl_X10 (s_X10_heldS B h A hA s hR qj hqj Q hsQ) hR.1 rfl rfl rfl rfl rfl rfl rfl rfl (zk_f ?_)
                refine zi_astore (lv' := [(7, _), (6, _), (0, _), (1, _), (2, _), (3, _), (4, _), (5, _)]) 67 dX10_over_65 rfl rfl rfl ?_
                refine zi_aloadN 69 dX10_over_67 rfl rfl ?_
                refine zi_ifnullN 77 dX10_over_69 (by decide) ?_
                refine zi_aload_n 78 dX10_over_77 rfl rfl ?_
                refine zi_iconst (v := 1) 79 dX10_over_78 (by decide) rfl ?_
                refine zc_virtual (n' := (0, 0)) (md' := mX10_found) 82 dX10_over_79 tw_358 zv_X10_found zcl_X10 (s_X10_found B h A hA s hR 1) hR.1 rfl rfl rfl rfl rfl rfl rfl rfl (zk_i fun x1 h1 hp1 => ?_)
                obtain ⟨rfl, R1, U1⟩ := hp1
                exact zr_int hZ dX10_over_82 rfl rfl ⟨_, rfl, _, by rw [r_over, if_neg zzO, nI_clamp hpj31, hsP]; first | rw [onS_n] | rw [onS_s, nI_clamp hqj31, hsQ, onS_n], R1, U1⟩
            ·
              have hVP := hs0.1 pj P hsP
              obtain ⟨vP, hvP, hzP⟩ := hR.2.2.2.1 pj hpj
              rw [hzP P hsP] at hvP
              refine zc_virtual (n' := (0, 0)) (md' := mX10_held) 57 dX10_over_54 tw_485 zv_X10_held zcl_X10 (s_X10_heldS B h A hA s hR pj hpj P hsP) hR.1 rfl rfl rfl rfl rfl rfl rfl rfl (zk_f ?_)
              refine zi_astore (lv' := [(6, _), (0, _), (1, _), (2, _), (3, _), (4, _), (5, _)]) 59 dX10_over_57 rfl rfl rfl ?_
              refine zi_aload_n 60 dX10_over_59 rfl rfl ?_
              refine zi_iload 62 dX10_over_60 rfl rfl ?_
              rcases hsQ : qSl s qj with _ | Q
              ·
                refine zc_virtual (n' := (0, 0)) (md' := mX10_held) 65 dX10_over_62 tw_485 zv_X10_held zcl_X10 (s_X10_heldN B h A hA s hR qj hqj hsQ) hR.1 rfl rfl rfl rfl rfl rfl rfl rfl (zk_f ?_)
                refine zi_astoreN (lv' := [(7, _), (6, _), (0, _), (1, _), (2, _), (3, _), (4, _), (5, _)]) 67 dX10_over_65 rfl rfl rfl ?_
                refine zi_aload 69 dX10_over_67 rfl rfl ?_
                refine zi_ifnull 72 dX10_over_69 rfl ?_
                refine zi_aloadN 74 dX10_over_72 rfl rfl ?_
                refine zi_ifnonnullN 77 dX10_over_74 rfl ?_
                refine zi_aload_n 78 dX10_over_77 rfl rfl ?_
                refine zi_iconst (v := 1) 79 dX10_over_78 (by decide) rfl ?_
                refine zc_virtual (n' := (0, 0)) (md' := mX10_found) 82 dX10_over_79 tw_358 zv_X10_found zcl_X10 (s_X10_found B h A hA s hR 1) hR.1 rfl rfl rfl rfl rfl rfl rfl rfl (zk_i fun x1 h1 hp1 => ?_)
                obtain ⟨rfl, R1, U1⟩ := hp1
                exact zr_int hZ dX10_over_82 rfl rfl ⟨_, rfl, _, by rw [r_over, if_neg zzO, nI_clamp hpj31, hsP]; first | rw [onS_n] | rw [onS_s, nI_clamp hqj31, hsQ, onS_n], R1, U1⟩
              ·
                have hVQ := hs0.1 qj Q hsQ
                obtain ⟨vQ, hvQ, hzQ⟩ := hR.2.2.2.1 qj hqj
                rw [hzQ Q hsQ] at hvQ
                refine zc_virtual (n' := (0, 0)) (md' := mX10_held) 65 dX10_over_62 tw_485 zv_X10_held zcl_X10 (s_X10_heldS B h A hA s hR qj hqj Q hsQ) hR.1 rfl rfl rfl rfl rfl rfl rfl rfl (zk_f ?_)
                refine zi_astore (lv' := [(7, _), (6, _), (0, _), (1, _), (2, _), (3, _), (4, _), (5, _)]) 67 dX10_over_65 rfl rfl rfl ?_
                refine zi_aload 69 dX10_over_67 rfl rfl ?_
                refine zi_ifnull 72 dX10_over_69 rfl ?_
                refine zi_aload 74 dX10_over_72 rfl rfl ?_
                refine zi_ifnonnull 83 dX10_over_74 (by decide) ?_
                refine zi_aload 85 dX10_over_83 rfl rfl ?_
                refine zc_virtual (n' := (0, 0)) (md' := mX4_isZero) 88 dX10_over_85 tw_451 zv_X4_isZero zcl_X4 (s_X4_isZero B h (A (38 + qj)) _ hvQ) hvQ rfl rfl rfl rfl rfl rfl rfl rfl (zk_f ?_)
                refine zb_eq 91 94 dX10_over_88 (by decide) rfl (fun zzZ => ?_) (fun zzZ => ?_)
                ·
                  rw [z4i_nil (zb_63 hVQ.2)] at zzZ
                  refine zi_aload_n 95 dX10_over_94 rfl rfl ?_
                  refine zi_getfield 98 4 dX10_over_95 zcl_X10 tw_314 rfl rfl hR.1 rfl rfl ?_
                  refine zi_aload 100 dX10_over_98 rfl rfl ?_
                  refine zi_aload 102 dX10_over_100 rfl rfl ?_
                  refine zi_iload 104 dX10_over_102 rfl rfl ?_
                  refine zc_virtual (n' := (0, 0)) (md' := mX3_divide) 107 dX10_over_104 tw_620 zv_X3_divide zcl_X3 (s_X3_dv B h (A 4) (A 59) (A 60) (A 61) (A 62) (A (38 + pj)) (A (38 + qj)) P Q w hR.2.2.2.2.2.1.1 (hFo 59 (by decide)) (hFo 60 (by decide)) (hFo 61 (by decide)) (hFo 62 (by decide)) hvP hvQ (hA.ne (by decide)) (hA.ne (by decide)) (hA.ne (by decide)) (hA.ne (by decide)) (hA.ne (by decide)) (hA.ne (by decide)) (hA.nm (l := [59, 60, 61, 62]) (i := 38 + pj) (by simp; omega)) (hA.nm (l := [59, 60, 61, 62]) (i := 38 + qj) (by simp; omega)) ⟨hVP.1, hVQ.1, zqpos zzZ, Or.inl ⟨hVQ.2, i4l_m (zb_63 hVP.2) (by decide)⟩⟩) hR.2.2.2.2.2.1.1 rfl rfl rfl rfl rfl rfl rfl rfl (zk_v fun h1 hp1 => ?_)
                  obtain ⟨k1, mq1, mr1⟩ := hp1
                  have R1 := zRc_k (S := [59, 60, 61, 62].map A) k1 hR (fun i hi hm => by obtain ⟨x, hx, e⟩ := List.mem_map.mp hm; exact hA.ne (show 38 + i ≠ x by have := (by decide : ∀ x ∈ [59, 60, 61, 62], x < 38 ∨ 58 ≤ x) x hx; omega) e.symm)
                  have U1 := zOu_k (S := ([59, 60, 61, 62]).map A) k1 (fun x hx => by obtain ⟨i, hi, e⟩ := List.mem_map.mp hx; exact ⟨i, (by decide : ∀ i ∈ [59, 60, 61, 62], i < 91) i hi, e.symm⟩)
                  obtain ⟨VT, VR⟩ := dvT_V (s := w) hVP hVQ (zqpos zzZ)
                  refine zi_aload_n 108 dX10_over_107 rfl rfl ?_
                  refine zi_iload_n 109 dX10_over_108 rfl rfl ?_
                  refine zi_aload_n 110 dX10_over_109 rfl rfl ?_
                  refine zi_getfield 113 4 dX10_over_110 zcl_X10 tw_314 rfl rfl R1.1 rfl rfl ?_
                  refine zi_getfield 116 1 dX10_over_113 zcl_X3 tw_145 rfl rfl R1.2.2.2.2.2.1.1 rfl rfl ?_
                  refine zc_virtual (n' := (0, 0)) (md' := mX10_keep) 119 dX10_over_116 tw_439 zv_X10_keep zcl_X10 (s_X10_keep2 B h1 A hA s R1 ri hri (A 60) (dvR P Q w) (VR) mr1 (hA.ne (by omega))) R1.1 rfl rfl rfl rfl rfl rfl rfl rfl (zk_i fun x2 h2 hp2 => ?_)
                  obtain ⟨rfl, R2, U2, K2⟩ := hp2
                  refine zi_pop 120 dX10_over_119 rfl rfl ?_
                  have mq2 := (K2 _ (hA.ne (i := 59) (j := 3) (by decide)) (hA.ne (i := 59) (j := 38 + ri) (by omega))).trans mq1
                  have mr2 := (K2 _ (hA.ne (i := 60) (j := 3) (by decide)) (hA.ne (i := 60) (j := 38 + ri) (by omega))).trans mr1
                  refine zi_aload_n 121 dX10_over_120 rfl rfl ?_
                  refine zi_iload_n 122 dX10_over_121 rfl rfl ?_
                  refine zi_aload_n 123 dX10_over_122 rfl rfl ?_
                  refine zi_getfield 126 4 dX10_over_123 zcl_X10 tw_314 rfl rfl R2.1 rfl rfl ?_
                  refine zi_getfield 129 0 dX10_over_126 zcl_X3 tw_142 rfl rfl R2.2.2.2.2.2.1.1 rfl rfl ?_
                  refine zc_virtual (n' := (0, 0)) (md' := mX10_keep) 132 dX10_over_129 tw_439 zv_X10_keep zcl_X10 (s_X10_keep2 B h2 A hA _ R2 ti hti (A 59) (dvT P Q w) (VT) mq2 (hA.ne (by omega))) R2.1 rfl rfl rfl rfl rfl rfl rfl rfl (zk_i fun x3 h3 hp3 => ?_)
                  obtain ⟨rfl, R3, U3, K3⟩ := hp3
                  refine zi_pop 133 dX10_over_132 rfl rfl ?_
                  have mr3 := (K3 _ (hA.ne (i := 60) (j := 3) (by decide)) (hA.ne (i := 60) (j := 38 + ti) (by omega))).trans mr2
                  refine zi_aload_n 134 dX10_over_133 rfl rfl ?_
                  refine zi_aload_n 135 dX10_over_134 rfl rfl ?_
                  refine zi_getfield 138 4 dX10_over_135 zcl_X10 tw_314 rfl rfl R3.1 rfl rfl ?_
                  refine zi_getfield 141 1 dX10_over_138 zcl_X3 tw_145 rfl rfl R3.2.2.2.2.2.1.1 rfl rfl ?_
                  refine zc_virtual (n' := (0, 0)) (md' := mX4_ownNorm) 144 dX10_over_141 tw_455 zv_X4_ownNorm zcl_X4 (s_X4_ownNorm B h3 (A 60) _ mr3) mr3 rfl rfl rfl rfl rfl rfl rfl rfl (zk_f ?_)
                  rw [nN_z VR]
                  refine zi_l2i 145 dX10_over_144 rfl ?_
                  rw [lN_i]
                  refine zc_virtual (n' := (0, 0)) (md' := mX10_answered) 148 dX10_over_145 tw_367 zv_X10_answered zcl_X10 (s_X10_answered B h3 A hA _ R3 _) R3.1 rfl rfl rfl rfl rfl rfl rfl rfl (zk_i fun x9 h9 hp9 => ?_)
                  obtain ⟨rfl, R9, U9⟩ := hp9
                  exact zr_int hZ dX10_over_148 rfl rfl ⟨_, rfl, _, by rw [r_over, if_neg zzO, nI_clamp hpj31, hsP, onS_s, nI_clamp hqj31, hsQ, onS_s, if_neg zzZ, nI_clamp hri31, nI_clamp hti31], R9, zOu_t (zOu_t (zOu_t U1 U2) U3) U9⟩
                ·
                  rw [z4i_nil (zb_63 hVQ.2)] at zzZ
                  refine zi_ldc 93 dX10_over_91 tw_619 rfl ?_
                  exact zr_int hZ dX10_over_93 rfl rfl ⟨_, rfl, _, by rw [r_over, if_neg zzO, nI_clamp hpj31, hsP, onS_s, nI_clamp hqj31, hsQ, onS_s, if_pos zzZ], hR, zOu_r _ _⟩
          ·
            refine zi_ldc 51 dX10_over_49 tw_357 rfl ?_
            exact zr_int hZ dX10_over_51 rfl rfl ⟨_, rfl, _, by rw [r_over, if_pos (by first | exact Or.inl zzA | exact Or.inr (Or.inl zzB) | exact Or.inr (Or.inr (Or.inl zzC)) | exact Or.inr (Or.inr (Or.inr (Or.inl zzD))) | exact Or.inr (Or.inr (Or.inr (Or.inr (zzE)))))], hR, zOu_r _ _⟩
        ·
          refine zi_ldc 39 dX10_over_37 tw_357 rfl ?_
          exact zr_int hZ dX10_over_39 rfl rfl ⟨_, rfl, _, by rw [r_over, if_pos (by first | exact Or.inl zzA | exact Or.inr (Or.inl zzB) | exact Or.inr (Or.inr (Or.inl zzC)) | exact Or.inr (Or.inr (Or.inr (Or.inl zzD))) | exact Or.inr (Or.inr (Or.inr (Or.inr (zzE)))))], hR, zOu_r _ _⟩

theorem gmN {A : Nat → Nat} (hA : zInj A) {j : Nat} (hj : j < 20) : A (38 + j) ∉ gF.map (fun i => A (gm6 i)) := fun hm => by
  obtain ⟨x, hx, e⟩ := List.mem_map.mp hm
  have := (by decide : ∀ x ∈ gF, 58 ≤ gm6 x) x hx
  have e2 := hA _ _ e
  omega
theorem gmU {A : Nat → Nat} {h h' : zHp} (k : zKp (gF.map (fun i => A (gm6 i))) h h') : zOu A h h' := zOu_k k (fun x hx => by
  obtain ⟨i, hi, e⟩ := List.mem_map.mp hx
  exact ⟨gm6 i, (by decide : ∀ i ∈ gF, gm6 i < 91) i hi, e.symm⟩)
theorem pmN {A : Nat → Nat} (hA : zInj A) {j : Nat} (hj : j < 20) : A (38 + j) ∉ pF.map (fun i => A (pm7 i)) := fun hm => by
  obtain ⟨x, hx, e⟩ := List.mem_map.mp hm
  have := (by decide : ∀ x ∈ pF, 58 ≤ pm7 x) x hx
  have e2 := hA _ _ e
  omega
theorem pmU {A : Nat → Nat} {h h' : zHp} (k : zKp (pF.map (fun i => A (pm7 i))) h h') : zOu A h h' := zOu_k k (fun x hx => by
  obtain ⟨i, hi, e⟩ := List.mem_map.mp hx
  exact ⟨pm7 i, (by decide : ∀ i ∈ pF, pm7 i < 91) i hi, e.symm⟩)

set_option maxHeartbeats 4000000 in
set_option maxRecDepth 100000 in
theorem s_X10_greatest (B : zBB) (h : zHp) (A : Nat → Nat) (hA : zInj A) (s : zSt) (hs0 : okSt s) (hR : zRc B A s h) (t p q w : Int32) : zSpec mX10_greatest B (6, 0, 0) [.ref (A 0), .int t, .int p, .int q, .int w] h (zPi (fun zx h' => ∃ s' : zSt, r_greatest s t p q w = (zx, s') ∧ zRc B A s' h' ∧ zOu A h h')) := by
  refine zSpec.of (by decide) (Nat.le_of_ble_eq_true rfl) (fun X hZ => ?_)
  show zG X mX10_greatest B (6, 0, 0) (0, 0) 0 [(0, .ref (A 0)), (1, .int t), (2, .int p), (3, .int q), (4, .int w)] [] h
  refine zi_iload_n 1 dX10_greatest_0 rfl rfl ?_
  refine zi_bipush (v := 20) 3 dX10_greatest_1 (by decide) rfl ?_
  refine zc_static (n' := (0, 0)) (md' := mX10_outside) 6 dX10_greatest_3 tw_354 zs_X10_outside (s_X10_outside B h _ _) rfl rfl rfl rfl rfl rfl rfl rfl (zk_f ?_)
  refine zb_ne 9 36 dX10_greatest_6 (by decide) rfl (fun zzA => ?_) (fun zzA => ?_)
  ·
    refine zi_ldc 38 dX10_greatest_36 tw_357 rfl ?_
    exact zr_int hZ dX10_greatest_38 rfl rfl ⟨_, rfl, _, by rw [r_greatest, if_pos (by first | exact Or.inl zzA | exact Or.inr (Or.inl zzB) | exact Or.inr (Or.inr (Or.inl zzC)) | exact Or.inr (Or.inr (Or.inr (zzD))))], hR, zOu_r _ _⟩
  ·
    refine zi_iload_n 10 dX10_greatest_9 rfl rfl ?_
    refine zi_bipush (v := 20) 12 dX10_greatest_10 (by decide) rfl ?_
    refine zc_static (n' := (0, 0)) (md' := mX10_outside) 15 dX10_greatest_12 tw_354 zs_X10_outside (s_X10_outside B h _ _) rfl rfl rfl rfl rfl rfl rfl rfl (zk_f ?_)
    refine zb_ne 18 36 dX10_greatest_15 (by decide) rfl (fun zzB => ?_) (fun zzB => ?_)
    ·
      refine zi_ldc 38 dX10_greatest_36 tw_357 rfl ?_
      exact zr_int hZ dX10_greatest_38 rfl rfl ⟨_, rfl, _, by rw [r_greatest, if_pos (by first | exact Or.inl zzA | exact Or.inr (Or.inl zzB) | exact Or.inr (Or.inr (Or.inl zzC)) | exact Or.inr (Or.inr (Or.inr (zzD))))], hR, zOu_r _ _⟩
    ·
      refine zi_iload_n 19 dX10_greatest_18 rfl rfl ?_
      refine zi_bipush (v := 20) 21 dX10_greatest_19 (by decide) rfl ?_
      refine zc_static (n' := (0, 0)) (md' := mX10_outside) 24 dX10_greatest_21 tw_354 zs_X10_outside (s_X10_outside B h _ _) rfl rfl rfl rfl rfl rfl rfl rfl (zk_f ?_)
      refine zb_ne 27 36 dX10_greatest_24 (by decide) rfl (fun zzC => ?_) (fun zzC => ?_)
      ·
        refine zi_ldc 38 dX10_greatest_36 tw_357 rfl ?_
        exact zr_int hZ dX10_greatest_38 rfl rfl ⟨_, rfl, _, by rw [r_greatest, if_pos (by first | exact Or.inl zzA | exact Or.inr (Or.inl zzB) | exact Or.inr (Or.inr (Or.inl zzC)) | exact Or.inr (Or.inr (Or.inr (zzD))))], hR, zOu_r _ _⟩
      ·
        refine zi_iload 29 dX10_greatest_27 rfl rfl ?_
        refine zi_iconst (v := 2) 30 dX10_greatest_29 (by decide) rfl ?_
        refine zc_static (n' := (0, 0)) (md' := mX10_outside) 33 dX10_greatest_30 tw_354 zs_X10_outside (s_X10_outside B h _ _) rfl rfl rfl rfl rfl rfl rfl rfl (zk_f ?_)
        refine zb_eq 36 39 dX10_greatest_33 (by decide) rfl (fun zzD => ?_) (fun zzD => ?_)
        ·
          have zzO : ¬ (zOut t 20 ∨ zOut p 20 ∨ zOut q 20 ∨ zOut w 2) := fun r => r.elim zzA (fun r => r.elim zzB (fun r => r.elim zzC zzD))
          obtain ⟨ti, hti, hti31, rfl⟩ := out_i (N := 20) (by decide) zzA
          obtain ⟨pj, hpj, hpj31, rfl⟩ := out_i (N := 20) (by decide) zzB
          obtain ⟨qj, hqj, hqj31, rfl⟩ := out_i (N := 20) (by decide) zzC
          refine zi_aload_n 40 dX10_greatest_39 rfl rfl ?_
          refine zi_iload_n 41 dX10_greatest_40 rfl rfl ?_
          rcases hsP : qSl s pj with _ | P
          ·
            refine zc_virtual (n' := (0, 0)) (md' := mX10_held) 44 dX10_greatest_41 tw_485 zv_X10_held zcl_X10 (s_X10_heldN B h A hA s hR pj hpj hsP) hR.1 rfl rfl rfl rfl rfl rfl rfl rfl (zk_f ?_)
            refine zi_astoreN (lv' := [(5, _), (0, _), (1, _), (2, _), (3, _), (4, _)]) 46 dX10_greatest_44 rfl rfl rfl ?_
            refine zi_aload_n 47 dX10_greatest_46 rfl rfl ?_
            refine zi_iload_n 48 dX10_greatest_47 rfl rfl ?_
            rcases hsQ : qSl s qj with _ | Q
            ·
              refine zc_virtual (n' := (0, 0)) (md' := mX10_held) 51 dX10_greatest_48 tw_485 zv_X10_held zcl_X10 (s_X10_heldN B h A hA s hR qj hqj hsQ) hR.1 rfl rfl rfl rfl rfl rfl rfl rfl (zk_f ?_)
              refine zi_astoreN (lv' := [(6, _), (5, _), (0, _), (1, _), (2, _), (3, _), (4, _)]) 53 dX10_greatest_51 rfl rfl rfl ?_
              refine zi_aloadN 55 dX10_greatest_53 rfl rfl ?_
              refine zi_ifnullN 63 dX10_greatest_55 (by decide) ?_
              refine zi_aload_n 64 dX10_greatest_63 rfl rfl ?_
              refine zi_iconst (v := 1) 65 dX10_greatest_64 (by decide) rfl ?_
              refine zc_virtual (n' := (0, 0)) (md' := mX10_found) 68 dX10_greatest_65 tw_358 zv_X10_found zcl_X10 (s_X10_found B h A hA s hR 1) hR.1 rfl rfl rfl rfl rfl rfl rfl rfl (zk_i fun x1 h1 hp1 => ?_)
              obtain ⟨rfl, R1, U1⟩ := hp1
              exact zr_int hZ dX10_greatest_68 rfl rfl ⟨_, rfl, _, by rw [r_greatest, if_neg zzO, nI_clamp hpj31, hsP]; first | rw [onS_n] | rw [onS_s, nI_clamp hqj31, hsQ, onS_n], R1, U1⟩
            ·
              have hVQ := hs0.1 qj Q hsQ
              obtain ⟨vQ, hvQ, hzQ⟩ := hR.2.2.2.1 qj hqj
              rw [hzQ Q hsQ] at hvQ
              refine zc_virtual (n' := (0, 0)) (md' := mX10_held) 51 dX10_greatest_48 tw_485 zv_X10_held zcl_X10 (s_X10_heldS B h A hA s hR qj hqj Q hsQ) hR.1 rfl rfl rfl rfl rfl rfl rfl rfl (zk_f ?_)
              refine zi_astore (lv' := [(6, _), (5, _), (0, _), (1, _), (2, _), (3, _), (4, _)]) 53 dX10_greatest_51 rfl rfl rfl ?_
              refine zi_aloadN 55 dX10_greatest_53 rfl rfl ?_
              refine zi_ifnullN 63 dX10_greatest_55 (by decide) ?_
              refine zi_aload_n 64 dX10_greatest_63 rfl rfl ?_
              refine zi_iconst (v := 1) 65 dX10_greatest_64 (by decide) rfl ?_
              refine zc_virtual (n' := (0, 0)) (md' := mX10_found) 68 dX10_greatest_65 tw_358 zv_X10_found zcl_X10 (s_X10_found B h A hA s hR 1) hR.1 rfl rfl rfl rfl rfl rfl rfl rfl (zk_i fun x1 h1 hp1 => ?_)
              obtain ⟨rfl, R1, U1⟩ := hp1
              exact zr_int hZ dX10_greatest_68 rfl rfl ⟨_, rfl, _, by rw [r_greatest, if_neg zzO, nI_clamp hpj31, hsP]; first | rw [onS_n] | rw [onS_s, nI_clamp hqj31, hsQ, onS_n], R1, U1⟩
          ·
            have hVP := hs0.1 pj P hsP
            obtain ⟨vP, hvP, hzP⟩ := hR.2.2.2.1 pj hpj
            rw [hzP P hsP] at hvP
            refine zc_virtual (n' := (0, 0)) (md' := mX10_held) 44 dX10_greatest_41 tw_485 zv_X10_held zcl_X10 (s_X10_heldS B h A hA s hR pj hpj P hsP) hR.1 rfl rfl rfl rfl rfl rfl rfl rfl (zk_f ?_)
            refine zi_astore (lv' := [(5, _), (0, _), (1, _), (2, _), (3, _), (4, _)]) 46 dX10_greatest_44 rfl rfl rfl ?_
            refine zi_aload_n 47 dX10_greatest_46 rfl rfl ?_
            refine zi_iload_n 48 dX10_greatest_47 rfl rfl ?_
            rcases hsQ : qSl s qj with _ | Q
            ·
              refine zc_virtual (n' := (0, 0)) (md' := mX10_held) 51 dX10_greatest_48 tw_485 zv_X10_held zcl_X10 (s_X10_heldN B h A hA s hR qj hqj hsQ) hR.1 rfl rfl rfl rfl rfl rfl rfl rfl (zk_f ?_)
              refine zi_astoreN (lv' := [(6, _), (5, _), (0, _), (1, _), (2, _), (3, _), (4, _)]) 53 dX10_greatest_51 rfl rfl rfl ?_
              refine zi_aload 55 dX10_greatest_53 rfl rfl ?_
              refine zi_ifnull 58 dX10_greatest_55 rfl ?_
              refine zi_aloadN 60 dX10_greatest_58 rfl rfl ?_
              refine zi_ifnonnullN 63 dX10_greatest_60 rfl ?_
              refine zi_aload_n 64 dX10_greatest_63 rfl rfl ?_
              refine zi_iconst (v := 1) 65 dX10_greatest_64 (by decide) rfl ?_
              refine zc_virtual (n' := (0, 0)) (md' := mX10_found) 68 dX10_greatest_65 tw_358 zv_X10_found zcl_X10 (s_X10_found B h A hA s hR 1) hR.1 rfl rfl rfl rfl rfl rfl rfl rfl (zk_i fun x1 h1 hp1 => ?_)
              obtain ⟨rfl, R1, U1⟩ := hp1
              exact zr_int hZ dX10_greatest_68 rfl rfl ⟨_, rfl, _, by rw [r_greatest, if_neg zzO, nI_clamp hpj31, hsP]; first | rw [onS_n] | rw [onS_s, nI_clamp hqj31, hsQ, onS_n], R1, U1⟩
            ·
              have hVQ := hs0.1 qj Q hsQ
              obtain ⟨vQ, hvQ, hzQ⟩ := hR.2.2.2.1 qj hqj
              rw [hzQ Q hsQ] at hvQ
              refine zc_virtual (n' := (0, 0)) (md' := mX10_held) 51 dX10_greatest_48 tw_485 zv_X10_held zcl_X10 (s_X10_heldS B h A hA s hR qj hqj Q hsQ) hR.1 rfl rfl rfl rfl rfl rfl rfl rfl (zk_f ?_)
              refine zi_astore (lv' := [(6, _), (5, _), (0, _), (1, _), (2, _), (3, _), (4, _)]) 53 dX10_greatest_51 rfl rfl rfl ?_
              refine zi_aload 55 dX10_greatest_53 rfl rfl ?_
              refine zi_ifnull 58 dX10_greatest_55 rfl ?_
              refine zi_aload 60 dX10_greatest_58 rfl rfl ?_
              refine zi_ifnonnull 69 dX10_greatest_60 (by decide) ?_
              refine zi_aload 71 dX10_greatest_69 rfl rfl ?_
              refine zc_virtual (n' := (0, 0)) (md' := mX4_isZero) 74 dX10_greatest_71 tw_451 zv_X4_isZero zcl_X4 (s_X4_isZero B h (A (38 + pj)) _ hvP) hvP rfl rfl rfl rfl rfl rfl rfl rfl (zk_f ?_)
              refine zb_eq 77 88 dX10_greatest_74 (by decide) rfl (fun zzY => ?_) (fun zzY => ?_)
              ·
                rw [z4i_nil (zb_63 hVP.2)] at zzY
                have zzN : ¬ (i4q P = 0 ∧ i4q Q = 0) := fun r => zzY r.1
                refine zi_aload_n 89 dX10_greatest_88 rfl rfl ?_
                refine zi_getfield 92 6 dX10_greatest_89 zcl_X10 tw_316 rfl rfl hR.1 rfl rfl ?_
                refine zi_aload 94 dX10_greatest_92 rfl rfl ?_
                refine zi_aload 96 dX10_greatest_94 rfl rfl ?_
                refine zi_iload 98 dX10_greatest_96 rfl rfl ?_
                refine zc_virtual (n' := (0, 0)) (md' := mX5_seek) 101 dX10_greatest_98 tw_661 zv_X5_seek zcl_X5 (s_X5_seek B h (fun i => A (gm6 i)) (gm6_i hA) (A (38 + pj)) (A (38 + qj)) w P Q hR.2.2.2.2.2.1.2.2.1 hvP hvQ (gmN hA hqj) (grOK_of hVP.1 hVQ.1 hVP.2 hVQ.2)) hR.2.2.2.2.2.1.2.2.1.1 rfl rfl rfl rfl rfl rfl rfl rfl (zk_v fun h1 hp1 => ?_)
                obtain ⟨k1, m1⟩ := hp1
                change h1 (A 66) = _ at m1
                have R1 := zRc_k k1 hR (fun i hi => gmN hA hi)
                have U1 := gmU k1
                refine zi_aload_n 102 dX10_greatest_101 rfl rfl ?_
                refine zi_iload_n 103 dX10_greatest_102 rfl rfl ?_
                refine zi_aload_n 104 dX10_greatest_103 rfl rfl ?_
                refine zi_getfield 107 6 dX10_greatest_104 zcl_X10 tw_316 rfl rfl R1.1 rfl rfl ?_
                refine zi_getfield 110 0 dX10_greatest_107 zcl_X5 tw_191 rfl rfl R1.2.2.2.2.2.1.2.2.1.1 rfl rfl ?_
                refine zc_virtual (n' := (0, 0)) (md' := mX10_keep) 113 dX10_greatest_110 tw_439 zv_X10_keep zcl_X10 (s_X10_keep2 B h1 A hA s R1 ti hti (A 66) (grI w P Q) (V_gr hVP hVQ) m1 (hA.ne (by omega))) R1.1 rfl rfl rfl rfl rfl rfl rfl rfl (zk_i fun x2 h2 hp2 => ?_)
                obtain ⟨rfl, R2, U2, K2⟩ := hp2
                refine zi_pop 114 dX10_greatest_113 rfl rfl ?_
                have m2 := (K2 _ (hA.ne (i := 66) (j := 3) (by decide)) (hA.ne (i := 66) (j := 38 + ti) (by omega))).trans m1
                refine zi_aload_n 115 dX10_greatest_114 rfl rfl ?_
                refine zi_aload_n 116 dX10_greatest_115 rfl rfl ?_
                refine zi_getfield 119 6 dX10_greatest_116 zcl_X10 tw_316 rfl rfl R2.1 rfl rfl ?_
                refine zi_getfield 122 0 dX10_greatest_119 zcl_X5 tw_191 rfl rfl R2.2.2.2.2.2.1.2.2.1.1 rfl rfl ?_
                refine zc_virtual (n' := (0, 0)) (md' := mX4_ownNorm) 125 dX10_greatest_122 tw_455 zv_X4_ownNorm zcl_X4 (s_X4_ownNorm B h2 (A 66) _ m2) m2 rfl rfl rfl rfl rfl rfl rfl rfl (zk_f ?_)
                rw [nN_z (V_gr hVP hVQ)]
                refine zi_l2i 126 dX10_greatest_125 rfl ?_
                rw [lN_i]
                refine zc_virtual (n' := (0, 0)) (md' := mX10_answered) 129 dX10_greatest_126 tw_367 zv_X10_answered zcl_X10 (s_X10_answered B h2 A hA _ R2 _) R2.1 rfl rfl rfl rfl rfl rfl rfl rfl (zk_i fun x9 h9 hp9 => ?_)
                obtain ⟨rfl, R9, U9⟩ := hp9
                exact zr_int hZ dX10_greatest_129 rfl rfl ⟨_, rfl, _, by rw [r_greatest, if_neg zzO, nI_clamp hpj31, hsP, onS_s, nI_clamp hqj31, hsQ, onS_s, if_neg zzN, nI_clamp hti31], R9, zOu_t (zOu_t U1 U2) U9⟩
              ·
                rw [z4i_nil (zb_63 hVP.2)] at zzY
                refine zi_aload 79 dX10_greatest_77 rfl rfl ?_
                refine zc_virtual (n' := (0, 0)) (md' := mX4_isZero) 82 dX10_greatest_79 tw_451 zv_X4_isZero zcl_X4 (s_X4_isZero B h (A (38 + qj)) _ hvQ) hvQ rfl rfl rfl rfl rfl rfl rfl rfl (zk_f ?_)
                refine zb_eq 85 88 dX10_greatest_82 (by decide) rfl (fun zzZ => ?_) (fun zzZ => ?_)
                ·
                  rw [z4i_nil (zb_63 hVQ.2)] at zzZ
                  have zzN : ¬ (i4q P = 0 ∧ i4q Q = 0) := fun r => zzZ r.2
                  refine zi_aload_n 89 dX10_greatest_88 rfl rfl ?_
                  refine zi_getfield 92 6 dX10_greatest_89 zcl_X10 tw_316 rfl rfl hR.1 rfl rfl ?_
                  refine zi_aload 94 dX10_greatest_92 rfl rfl ?_
                  refine zi_aload 96 dX10_greatest_94 rfl rfl ?_
                  refine zi_iload 98 dX10_greatest_96 rfl rfl ?_
                  refine zc_virtual (n' := (0, 0)) (md' := mX5_seek) 101 dX10_greatest_98 tw_661 zv_X5_seek zcl_X5 (s_X5_seek B h (fun i => A (gm6 i)) (gm6_i hA) (A (38 + pj)) (A (38 + qj)) w P Q hR.2.2.2.2.2.1.2.2.1 hvP hvQ (gmN hA hqj) (grOK_of hVP.1 hVQ.1 hVP.2 hVQ.2)) hR.2.2.2.2.2.1.2.2.1.1 rfl rfl rfl rfl rfl rfl rfl rfl (zk_v fun h1 hp1 => ?_)
                  obtain ⟨k1, m1⟩ := hp1
                  change h1 (A 66) = _ at m1
                  have R1 := zRc_k k1 hR (fun i hi => gmN hA hi)
                  have U1 := gmU k1
                  refine zi_aload_n 102 dX10_greatest_101 rfl rfl ?_
                  refine zi_iload_n 103 dX10_greatest_102 rfl rfl ?_
                  refine zi_aload_n 104 dX10_greatest_103 rfl rfl ?_
                  refine zi_getfield 107 6 dX10_greatest_104 zcl_X10 tw_316 rfl rfl R1.1 rfl rfl ?_
                  refine zi_getfield 110 0 dX10_greatest_107 zcl_X5 tw_191 rfl rfl R1.2.2.2.2.2.1.2.2.1.1 rfl rfl ?_
                  refine zc_virtual (n' := (0, 0)) (md' := mX10_keep) 113 dX10_greatest_110 tw_439 zv_X10_keep zcl_X10 (s_X10_keep2 B h1 A hA s R1 ti hti (A 66) (grI w P Q) (V_gr hVP hVQ) m1 (hA.ne (by omega))) R1.1 rfl rfl rfl rfl rfl rfl rfl rfl (zk_i fun x2 h2 hp2 => ?_)
                  obtain ⟨rfl, R2, U2, K2⟩ := hp2
                  refine zi_pop 114 dX10_greatest_113 rfl rfl ?_
                  have m2 := (K2 _ (hA.ne (i := 66) (j := 3) (by decide)) (hA.ne (i := 66) (j := 38 + ti) (by omega))).trans m1
                  refine zi_aload_n 115 dX10_greatest_114 rfl rfl ?_
                  refine zi_aload_n 116 dX10_greatest_115 rfl rfl ?_
                  refine zi_getfield 119 6 dX10_greatest_116 zcl_X10 tw_316 rfl rfl R2.1 rfl rfl ?_
                  refine zi_getfield 122 0 dX10_greatest_119 zcl_X5 tw_191 rfl rfl R2.2.2.2.2.2.1.2.2.1.1 rfl rfl ?_
                  refine zc_virtual (n' := (0, 0)) (md' := mX4_ownNorm) 125 dX10_greatest_122 tw_455 zv_X4_ownNorm zcl_X4 (s_X4_ownNorm B h2 (A 66) _ m2) m2 rfl rfl rfl rfl rfl rfl rfl rfl (zk_f ?_)
                  rw [nN_z (V_gr hVP hVQ)]
                  refine zi_l2i 126 dX10_greatest_125 rfl ?_
                  rw [lN_i]
                  refine zc_virtual (n' := (0, 0)) (md' := mX10_answered) 129 dX10_greatest_126 tw_367 zv_X10_answered zcl_X10 (s_X10_answered B h2 A hA _ R2 _) R2.1 rfl rfl rfl rfl rfl rfl rfl rfl (zk_i fun x9 h9 hp9 => ?_)
                  obtain ⟨rfl, R9, U9⟩ := hp9
                  exact zr_int hZ dX10_greatest_129 rfl rfl ⟨_, rfl, _, by rw [r_greatest, if_neg zzO, nI_clamp hpj31, hsP, onS_s, nI_clamp hqj31, hsQ, onS_s, if_neg zzN, nI_clamp hti31], R9, zOu_t (zOu_t U1 U2) U9⟩
                ·
                  rw [z4i_nil (zb_63 hVQ.2)] at zzZ
                  refine zi_ldc 87 dX10_greatest_85 tw_619 rfl ?_
                  exact zr_int hZ dX10_greatest_87 rfl rfl ⟨_, rfl, _, by rw [r_greatest, if_neg zzO, nI_clamp hpj31, hsP, onS_s, nI_clamp hqj31, hsQ, onS_s, if_pos ⟨zzY, zzZ⟩], hR, zOu_r _ _⟩
        ·
          refine zi_ldc 38 dX10_greatest_36 tw_357 rfl ?_
          exact zr_int hZ dX10_greatest_38 rfl rfl ⟨_, rfl, _, by rw [r_greatest, if_pos (by first | exact Or.inl zzA | exact Or.inr (Or.inl zzB) | exact Or.inr (Or.inr (Or.inl zzC)) | exact Or.inr (Or.inr (Or.inr (zzD))))], hR, zOu_r _ _⟩

theorem V_dz {P : i4} (h : i4V P) (h0 : i4q P ≠ 0) : zDiv (z4i P) (lN (wh P)) = z4i (i4d P (wh P)) := by
  obtain ⟨-, -, h3⟩ := wh_s h.1 (zqpos h0)
  have w := wh_63 h
  generalize hQ : i4d P (wh P) = Q at h3
  have e1 : P.1 = wh P * Q.1 := congrArg (fun v : i4 => v.1) h3
  have e2 : P.2.1 = wh P * Q.2.1 := congrArg (fun v : i4 => v.2.1) h3
  have e3 : P.2.2.1 = wh P * Q.2.2.1 := congrArg (fun v : i4 => v.2.2.1) h3
  have e4 : P.2.2.2 = wh P * Q.2.2.2 := congrArg (fun v : i4 => v.2.2.2) h3
  rw [← hQ]
  exact z4i_d (zb_63 h.2) (by decide) (by omega) ⟨_, e1⟩ ⟨_, e2⟩ ⟨_, e3⟩ ⟨_, e4⟩

set_option maxHeartbeats 4000000 in
set_option maxRecDepth 100000 in
theorem s_X10_plain (B : zBB) (h : zHp) (A : Nat → Nat) (hA : zInj A) (s : zSt) (hs0 : okSt s) (hR : zRc B A s h) (t p : Int32) : zSpec mX10_plain B (6, 0, 0) [.ref (A 0), .int t, .int p] h (zPi (fun zx h' => ∃ s' : zSt, r_plain s t p = (zx, s') ∧ zRc B A s' h' ∧ zOu A h h')) := by
  refine zSpec.of (by decide) (Nat.le_of_ble_eq_true rfl) (fun X hZ => ?_)
  show zG X mX10_plain B (6, 0, 0) (0, 0) 0 [(0, .ref (A 0)), (1, .int t), (2, .int p)] [] h
  refine zi_iload_n 1 dX10_plain_0 rfl rfl ?_
  refine zi_bipush (v := 20) 3 dX10_plain_1 (by decide) rfl ?_
  refine zc_static (n' := (0, 0)) (md' := mX10_outside) 6 dX10_plain_3 tw_354 zs_X10_outside (s_X10_outside B h _ _) rfl rfl rfl rfl rfl rfl rfl rfl (zk_f ?_)
  refine zb_ne 9 18 dX10_plain_6 (by decide) rfl (fun zzA => ?_) (fun zzA => ?_)
  ·
    refine zi_ldc 20 dX10_plain_18 tw_357 rfl ?_
    exact zr_int hZ dX10_plain_20 rfl rfl ⟨_, rfl, _, by rw [r_plain, if_pos (by first | exact Or.inl zzA | exact Or.inr (zzB))], hR, zOu_r _ _⟩
  ·
    refine zi_iload_n 10 dX10_plain_9 rfl rfl ?_
    refine zi_bipush (v := 20) 12 dX10_plain_10 (by decide) rfl ?_
    refine zc_static (n' := (0, 0)) (md' := mX10_outside) 15 dX10_plain_12 tw_354 zs_X10_outside (s_X10_outside B h _ _) rfl rfl rfl rfl rfl rfl rfl rfl (zk_f ?_)
    refine zb_eq 18 21 dX10_plain_15 (by decide) rfl (fun zzB => ?_) (fun zzB => ?_)
    ·
      have zzO : ¬ (zOut t 20 ∨ zOut p 20) := fun r => r.elim zzA zzB
      obtain ⟨ti, hti, hti31, rfl⟩ := out_i (N := 20) (by decide) zzA
      obtain ⟨pj, hpj, hpj31, rfl⟩ := out_i (N := 20) (by decide) zzB
      obtain ⟨vm, hvm⟩ := hR.2.2.2.2.2.1.2.2.2.2 58 (by decide)
      refine zi_aload_n 22 dX10_plain_21 rfl rfl ?_
      refine zi_iload_n 23 dX10_plain_22 rfl rfl ?_
      rcases hsP : qSl s pj with _ | P
      ·
        refine zc_virtual (n' := (0, 0)) (md' := mX10_held) 26 dX10_plain_23 tw_485 zv_X10_held zcl_X10 (s_X10_heldN B h A hA s hR pj hpj hsP) hR.1 rfl rfl rfl rfl rfl rfl rfl rfl (zk_f ?_)
        refine zi_astore_nN (lv' := [(3, _), (0, _), (1, _), (2, _)]) 27 dX10_plain_26 rfl rfl rfl ?_
        refine zi_aload_nN 28 dX10_plain_27 rfl rfl ?_
        refine zi_ifnonnullN 31 dX10_plain_28 rfl ?_
        refine zi_aload_n 32 dX10_plain_31 rfl rfl ?_
        refine zi_iconst (v := 1) 33 dX10_plain_32 (by decide) rfl ?_
        refine zc_virtual (n' := (0, 0)) (md' := mX10_found) 36 dX10_plain_33 tw_358 zv_X10_found zcl_X10 (s_X10_found B h A hA s hR 1) hR.1 rfl rfl rfl rfl rfl rfl rfl rfl (zk_i fun x1 h1 hp1 => ?_)
        obtain ⟨rfl, R1, U1⟩ := hp1
        exact zr_int hZ dX10_plain_36 rfl rfl ⟨_, rfl, _, by rw [r_plain, if_neg zzO, nI_clamp hpj31, hsP, onS_n], R1, U1⟩
      ·
        have hVP := hs0.1 pj P hsP
        obtain ⟨vP, hvP, hzP⟩ := hR.2.2.2.1 pj hpj
        rw [hzP P hsP] at hvP
        refine zc_virtual (n' := (0, 0)) (md' := mX10_held) 26 dX10_plain_23 tw_485 zv_X10_held zcl_X10 (s_X10_heldS B h A hA s hR pj hpj P hsP) hR.1 rfl rfl rfl rfl rfl rfl rfl rfl (zk_f ?_)
        refine zi_astore_n (lv' := [(3, _), (0, _), (1, _), (2, _)]) 27 dX10_plain_26 rfl rfl rfl ?_
        refine zi_aload_n 28 dX10_plain_27 rfl rfl ?_
        refine zi_ifnonnull 37 dX10_plain_28 (by decide) ?_
        refine zi_aload_n 38 dX10_plain_37 rfl rfl ?_
        refine zc_virtual (n' := (0, 0)) (md' := mX4_isZero) 41 dX10_plain_38 tw_451 zv_X4_isZero zcl_X4 (s_X4_isZero B h (A (38 + pj)) _ hvP) hvP rfl rfl rfl rfl rfl rfl rfl rfl (zk_f ?_)
        refine zb_eq 44 47 dX10_plain_41 (by decide) rfl (fun zzZ => ?_) (fun zzZ => ?_)
        ·
          rw [z4i_nil (zb_63 hVP.2)] at zzZ
          obtain ⟨w1, w2, w3⟩ := wh_le hVP zzZ
          have eW : zDiv (z4i P) (lN (wh P)) = z4i (i4d P (wh P)) := V_dz hVP zzZ
          refine zi_aload_n 48 dX10_plain_47 rfl rfl ?_
          refine zc_virtual (n' := (0, 0)) (md' := mX4_wholeDivisor) 51 dX10_plain_48 tw_461 zv_X4_wholeDivisor zcl_X4 (s_X4_wholeDivisor B h (A (38 + pj)) _ hvP (z4i_nm (zb_63 hVP.2) (by decide))) hvP rfl rfl rfl rfl rfl rfl rfl rfl (zk_f ?_)
          rw [wh_z (zb_63 hVP.2) (by decide)]
          refine zi_lstore (lv' := [(4, _), (3, _), (0, _), (1, _), (2, _)]) 53 dX10_plain_51 rfl rfl rfl ?_
          refine zi_aload_n 54 dX10_plain_53 rfl rfl ?_
          refine zi_getfield 57 3 dX10_plain_54 zcl_X10 tw_313 rfl rfl hR.1 rfl rfl ?_
          refine zi_aload_n 58 dX10_plain_57 rfl rfl ?_
          refine zc_virtual (n' := (0, 0)) (md' := mX4_become_) 61 dX10_plain_58 tw_443 zv_X4_become_ zcl_X4 (s_X4_become_ B h (A 58) vm hvm (A (38 + pj)) _ hvP) hvm rfl rfl rfl rfl rfl rfl rfl rfl (zk_u fun h1 hq => ?_)
          have R1 := zRc_k (zKp_u (S := [A 58]) hvm hq (List.mem_singleton.mpr rfl)) hR (fun i hi hm => hA.ne (show 38 + i ≠ 58 by omega) (List.mem_singleton.mp hm))
          have m1 := zX0 hq
          refine zi_aload_n 62 dX10_plain_61 rfl rfl ?_
          refine zi_getfield 65 3 dX10_plain_62 zcl_X10 tw_313 rfl rfl R1.1 rfl rfl ?_
          refine zi_lload 67 dX10_plain_65 rfl rfl ?_
          refine zc_virtual (n' := (0, 0)) (md' := mX4_divideBy) 70 dX10_plain_67 tw_693 zv_X4_divideBy zcl_X4 ((by have h9 := s_X4_divideBy B h1 (A 58) _ m1 (lN (wh P)); rw [if_neg (show ¬ lN (wh P) = 0 by rw [lN_0e (wh_63 hVP)]; omega), eW] at h9; exact h9)) m1 rfl rfl rfl rfl rfl rfl rfl rfl (zk_u fun h2 hq2 => ?_)
          have R2 := zRc_k (zKp_u (S := [A 58]) m1 hq2 (List.mem_singleton.mpr rfl)) R1 (fun i hi hm => hA.ne (show 38 + i ≠ 58 by omega) (List.mem_singleton.mp hm))
          have m2 := zX0 hq2
          refine zi_aload_n 71 dX10_plain_70 rfl rfl ?_
          refine zi_iload_n 72 dX10_plain_71 rfl rfl ?_
          refine zi_aload_n 73 dX10_plain_72 rfl rfl ?_
          refine zi_getfield 76 3 dX10_plain_73 zcl_X10 tw_313 rfl rfl R2.1 rfl rfl ?_
          refine zc_virtual (n' := (0, 0)) (md' := mX10_keep) 79 dX10_plain_76 tw_439 zv_X10_keep zcl_X10 (s_X10_keep2 B h2 A hA s R2 ti hti (A 58) (i4d P (wh P)) (V_d hVP zzZ) m2 (hA.ne (by omega))) R2.1 rfl rfl rfl rfl rfl rfl rfl rfl (zk_i fun x3 h3 hp3 => ?_)
          obtain ⟨rfl, R3, U3, K3⟩ := hp3
          refine zi_pop 80 dX10_plain_79 rfl rfl ?_
          refine zi_aload_n 81 dX10_plain_80 rfl rfl ?_
          refine zi_lload 83 dX10_plain_81 rfl rfl ?_
          refine zi_l2i 84 dX10_plain_83 rfl ?_
          rw [lN_i]
          refine zc_virtual (n' := (0, 0)) (md' := mX10_answered) 87 dX10_plain_84 tw_367 zv_X10_answered zcl_X10 (s_X10_answered B h3 A hA _ R3 _) R3.1 rfl rfl rfl rfl rfl rfl rfl rfl (zk_i fun x9 h9 hp9 => ?_)
          obtain ⟨rfl, R9, U9⟩ := hp9
          exact zr_int hZ dX10_plain_87 rfl rfl ⟨_, rfl, _, by rw [r_plain, if_neg zzO, nI_clamp hpj31, hsP, onS_s, if_neg zzZ, nI_clamp hti31], R9, zOu_t (zOu_t (zOu_t (zOu_u hq (by decide)) (zOu_u hq2 (by decide))) U3) U9⟩
        ·
          rw [z4i_nil (zb_63 hVP.2)] at zzZ
          refine zi_ldc 46 dX10_plain_44 tw_619 rfl ?_
          exact zr_int hZ dX10_plain_46 rfl rfl ⟨_, rfl, _, by rw [r_plain, if_neg zzO, nI_clamp hpj31, hsP, onS_s, if_pos zzZ], hR, zOu_r _ _⟩
    ·
      refine zi_ldc 20 dX10_plain_18 tw_357 rfl ?_
      exact zr_int hZ dX10_plain_20 rfl rfl ⟨_, rfl, _, by rw [r_plain, if_pos (by first | exact Or.inl zzA | exact Or.inr (zzB))], hR, zOu_r _ _⟩

set_option maxHeartbeats 4000000 in
set_option maxRecDepth 100000 in
theorem s_X10_part (B : zBB) (h : zHp) (A : Nat → Nat) (hA : zInj A) (s : zSt) (hs0 : okSt s) (hR : zRc B A s h) (t p i : Int32) : zSpec mX10_part B (7, 0, 0) [.ref (A 0), .int t, .int p, .int i] h (zPi (fun zx h' => ∃ s' : zSt, r_part s t p i = (zx, s') ∧ zRc B A s' h' ∧ zOu A h h')) := by
  refine zSpec.of (by decide) (Nat.le_of_ble_eq_true rfl) (fun X hZ => ?_)
  show zG X mX10_part B (7, 0, 0) (0, 0) 0 [(0, .ref (A 0)), (1, .int t), (2, .int p), (3, .int i)] [] h
  refine zi_iload_n 1 dX10_part_0 rfl rfl ?_
  refine zi_bipush (v := 20) 3 dX10_part_1 (by decide) rfl ?_
  refine zc_static (n' := (0, 0)) (md' := mX10_outside) 6 dX10_part_3 tw_354 zs_X10_outside (s_X10_outside B h _ _) rfl rfl rfl rfl rfl rfl rfl rfl (zk_f ?_)
  refine zb_ne 9 18 dX10_part_6 (by decide) rfl (fun zzA => ?_) (fun zzA => ?_)
  ·
    refine zi_ldc 20 dX10_part_18 tw_357 rfl ?_
    exact zr_int hZ dX10_part_20 rfl rfl ⟨_, rfl, _, by rw [r_part, if_pos (by first | exact Or.inl zzA | exact Or.inr (zzB))], hR, zOu_r _ _⟩
  ·
    refine zi_iload_n 10 dX10_part_9 rfl rfl ?_
    refine zi_bipush (v := 20) 12 dX10_part_10 (by decide) rfl ?_
    refine zc_static (n' := (0, 0)) (md' := mX10_outside) 15 dX10_part_12 tw_354 zs_X10_outside (s_X10_outside B h _ _) rfl rfl rfl rfl rfl rfl rfl rfl (zk_f ?_)
    refine zb_eq 18 21 dX10_part_15 (by decide) rfl (fun zzB => ?_) (fun zzB => ?_)
    ·
      have zzO : ¬ (zOut t 20 ∨ zOut p 20) := fun r => r.elim zzA zzB
      obtain ⟨ti, hti, hti31, rfl⟩ := out_i (N := 20) (by decide) zzA
      obtain ⟨pj, hpj, hpj31, rfl⟩ := out_i (N := 20) (by decide) zzB
      obtain ⟨fk, hk, hfk⟩ := hR.2.2.1
      refine zi_aload_n 22 dX10_part_21 rfl rfl ?_
      refine zi_iload_n 23 dX10_part_22 rfl rfl ?_
      rcases hsP : qSl s pj with _ | P
      ·
        refine zc_virtual (n' := (0, 0)) (md' := mX10_held) 26 dX10_part_23 tw_485 zv_X10_held zcl_X10 (s_X10_heldN B h A hA s hR pj hpj hsP) hR.1 rfl rfl rfl rfl rfl rfl rfl rfl (zk_f ?_)
        refine zi_astoreN (lv' := [(4, _), (0, _), (1, _), (2, _), (3, _)]) 28 dX10_part_26 rfl rfl rfl ?_
        refine zi_aloadN 30 dX10_part_28 rfl rfl ?_
        refine zi_ifnonnullN 33 dX10_part_30 rfl ?_
        refine zi_aload_n 34 dX10_part_33 rfl rfl ?_
        refine zi_iconst (v := 1) 35 dX10_part_34 (by decide) rfl ?_
        refine zc_virtual (n' := (0, 0)) (md' := mX10_found) 38 dX10_part_35 tw_358 zv_X10_found zcl_X10 (s_X10_found B h A hA s hR 1) hR.1 rfl rfl rfl rfl rfl rfl rfl rfl (zk_i fun x1 h1 hp1 => ?_)
        obtain ⟨rfl, R1, U1⟩ := hp1
        exact zr_int hZ dX10_part_38 rfl rfl ⟨_, rfl, _, by rw [r_part, if_neg zzO, nI_clamp hpj31, hsP, onS_n], R1, U1⟩
      ·
        have hVP := hs0.1 pj P hsP
        obtain ⟨vP, hvP, hzP⟩ := hR.2.2.2.1 pj hpj
        rw [hzP P hsP] at hvP
        refine zc_virtual (n' := (0, 0)) (md' := mX10_held) 26 dX10_part_23 tw_485 zv_X10_held zcl_X10 (s_X10_heldS B h A hA s hR pj hpj P hsP) hR.1 rfl rfl rfl rfl rfl rfl rfl rfl (zk_f ?_)
        refine zi_astore (lv' := [(4, _), (0, _), (1, _), (2, _), (3, _)]) 28 dX10_part_26 rfl rfl rfl ?_
        refine zi_aload 30 dX10_part_28 rfl rfl ?_
        refine zi_ifnonnull 39 dX10_part_30 (by decide) ?_
        refine zi_aload_n 40 dX10_part_39 rfl rfl ?_
        refine zi_getfield 43 2 dX10_part_40 zcl_X10 tw_312 rfl rfl hR.1 rfl rfl ?_
        refine zi_iload_n 44 dX10_part_43 rfl rfl ?_
        refine zi_iaload 45 dX10_part_44 hk (vp_in_nI hpj (by decide)) rfl ?_
        rw [nI_clamp (by omega), hfk pj hpj, hsP, show kdI (some P) = nI (kindI P) from rfl]
        refine zi_iconst (v := 2) 46 dX10_part_45 (by decide) rfl ?_
        refine zi_icmp_eq 49 62 dX10_part_46 (by decide) rfl (fun zzK2 => ?_) (fun zzK2 => ?_)
        ·
          rw [show (2 : Int32) = nI 2 from rfl, nI_eq (kd_31 P) (by decide)] at zzK2
          have zzK : kindI P = 2 ∨ kindI P = 3 := Or.inl zzK2
          refine zi_aload_n 63 dX10_part_62 rfl rfl ?_
          refine zi_getfield 66 7 dX10_part_63 zcl_X10 tw_317 rfl rfl hR.1 rfl rfl ?_
          refine zi_aload 68 dX10_part_66 rfl rfl ?_
          refine zi_iload_n 69 dX10_part_68 rfl rfl ?_
          refine zc_virtual (n' := (0, 0)) (md' := mX7_split) 72 dX10_part_69 tw_698 zv_X7_split zcl_X7 (by have h9 := s_X7_split B h (fun i => A (pm7 i)) (pm7_i hA) (A (38 + pj)) i P hR.2.2.2.2.2.1.2.2.2.1 hvP (hA.ne (show 38 + pj ≠ pm7 15 by show 38 + pj ≠ 77; omega)) (V_pt hVP zzK); rw [show ptL 30 P (i4n P).toNat = ptD P from rfl] at h9; exact h9) hR.2.2.2.2.2.1.2.2.2.1.2.1 rfl rfl rfl rfl rfl rfl rfl rfl (zk_i fun x1 h1 hp1 => ?_)
          obtain ⟨rfl, k1, m1⟩ := hp1
          have R1 := zRc_k k1 hR (fun i hi => pmN hA hi)
          have U1 := pmU k1
          have hD31 : (ptD P).length < 2 ^ 31 := Nat.lt_of_le_of_lt (ptL_len 30 P _) (by decide)
          refine zi_istore (lv' := [(5, _), (4, _), (0, _), (1, _), (2, _), (3, _)]) 74 dX10_part_72 rfl rfl rfl ?_
          refine zi_iload_n 75 dX10_part_74 rfl rfl ?_
          refine zi_iload 77 dX10_part_75 rfl rfl ?_
          refine zc_static (n' := (0, 0)) (md' := mX10_outside) 80 dX10_part_77 tw_354 zs_X10_outside (s_X10_outside B h1 _ _) rfl rfl rfl rfl rfl rfl rfl rfl (zk_f ?_)
          refine zb_eq 83 90 dX10_part_80 (by decide) rfl (fun zzI => ?_) (fun zzI => ?_)
          ·
            obtain ⟨j, hj, hj31, rfl⟩ := out_i hD31 zzI
            obtain ⟨v, hv⟩ : ∃ v, (ptD P)[j]? = some v := ⟨_, List.getElem?_eq_getElem hj⟩
            have m80 : h1 (A 76) = some (zFo (z4i v)) := m1 j v hv rfl
            have Vv : i4V v := V_ptL 30 P _ (V_pt hVP zzK) (Nat.lt_of_le_of_lt (nN_le hVP) (by decide)) v (List.mem_of_getElem? hv)
            refine zi_aload_n 91 dX10_part_90 rfl rfl ?_
            refine zi_iload_n 92 dX10_part_91 rfl rfl ?_
            refine zi_aload_n 93 dX10_part_92 rfl rfl ?_
            refine zi_getfield 96 7 dX10_part_93 zcl_X10 tw_317 rfl rfl R1.1 rfl rfl ?_
            refine zi_getfield 99 0 dX10_part_96 zcl_X7 tw_218 rfl rfl R1.2.2.2.2.2.1.2.2.2.1.2.1 rfl rfl ?_
            refine zc_virtual (n' := (0, 0)) (md' := mX10_keep) 102 dX10_part_99 tw_439 zv_X10_keep zcl_X10 (s_X10_keep2 B h1 A hA s R1 ti hti (A 76) (v) (Vv) m80 (hA.ne (by omega))) R1.1 rfl rfl rfl rfl rfl rfl rfl rfl (zk_i fun x2 h2 hp2 => ?_)
            obtain ⟨rfl, R2, U2, K2⟩ := hp2
            refine zi_pop 103 dX10_part_102 rfl rfl ?_
            refine zi_aload_n 104 dX10_part_103 rfl rfl ?_
            refine zi_iload 106 dX10_part_104 rfl rfl ?_
            refine zc_virtual (n' := (0, 0)) (md' := mX10_answered) 109 dX10_part_106 tw_367 zv_X10_answered zcl_X10 (s_X10_answered B h2 A hA _ R2 _) R2.1 rfl rfl rfl rfl rfl rfl rfl rfl (zk_i fun x9 h9 hp9 => ?_)
            obtain ⟨rfl, R9, U9⟩ := hp9
            exact zr_int hZ dX10_part_109 rfl rfl ⟨_, rfl, _, by rw [r_part, if_neg zzO, nI_clamp hpj31, hsP, onS_s, if_pos zzK, if_neg zzI, nI_clamp hti31, nI_clamp hj31, hv], R9, zOu_t (zOu_t U1 U2) U9⟩
          ·
            refine zi_aload_n 84 dX10_part_83 rfl rfl ?_
            refine zi_ldc 86 dX10_part_84 tw_715 rfl ?_
            refine zc_virtual (n' := (0, 0)) (md' := mX10_answered) 89 dX10_part_86 tw_367 zv_X10_answered zcl_X10 (s_X10_answered B h1 A hA s R1 _) R1.1 rfl rfl rfl rfl rfl rfl rfl rfl (zk_i fun x9 h9 hp9 => ?_)
            obtain ⟨rfl, R9, U9⟩ := hp9
            exact zr_int hZ dX10_part_89 rfl rfl ⟨_, rfl, _, by rw [r_part, if_neg zzO, nI_clamp hpj31, hsP, onS_s, if_pos zzK, if_pos zzI], R9, zOu_t U1 U9⟩
        ·
          rw [show (2 : Int32) = nI 2 from rfl, nI_eq (kd_31 P) (by decide)] at zzK2
          refine zi_aload_n 50 dX10_part_49 rfl rfl ?_
          refine zi_getfield 53 2 dX10_part_50 zcl_X10 tw_312 rfl rfl hR.1 rfl rfl ?_
          refine zi_iload_n 54 dX10_part_53 rfl rfl ?_
          refine zi_iaload 55 dX10_part_54 hk (vp_in_nI hpj (by decide)) rfl ?_
          rw [nI_clamp (by omega), hfk pj hpj, hsP, show kdI (some P) = nI (kindI P) from rfl]
          refine zi_iconst (v := 3) 56 dX10_part_55 (by decide) rfl ?_
          refine zi_icmp_eq 59 62 dX10_part_56 (by decide) rfl (fun zzK3 => ?_) (fun zzK3 => ?_)
          ·
            rw [show (3 : Int32) = nI 3 from rfl, nI_eq (kd_31 P) (by decide)] at zzK3
            have zzK : kindI P = 2 ∨ kindI P = 3 := Or.inr zzK3
            refine zi_aload_n 63 dX10_part_62 rfl rfl ?_
            refine zi_getfield 66 7 dX10_part_63 zcl_X10 tw_317 rfl rfl hR.1 rfl rfl ?_
            refine zi_aload 68 dX10_part_66 rfl rfl ?_
            refine zi_iload_n 69 dX10_part_68 rfl rfl ?_
            refine zc_virtual (n' := (0, 0)) (md' := mX7_split) 72 dX10_part_69 tw_698 zv_X7_split zcl_X7 (by have h9 := s_X7_split B h (fun i => A (pm7 i)) (pm7_i hA) (A (38 + pj)) i P hR.2.2.2.2.2.1.2.2.2.1 hvP (hA.ne (show 38 + pj ≠ pm7 15 by show 38 + pj ≠ 77; omega)) (V_pt hVP zzK); rw [show ptL 30 P (i4n P).toNat = ptD P from rfl] at h9; exact h9) hR.2.2.2.2.2.1.2.2.2.1.2.1 rfl rfl rfl rfl rfl rfl rfl rfl (zk_i fun x1 h1 hp1 => ?_)
            obtain ⟨rfl, k1, m1⟩ := hp1
            have R1 := zRc_k k1 hR (fun i hi => pmN hA hi)
            have U1 := pmU k1
            have hD31 : (ptD P).length < 2 ^ 31 := Nat.lt_of_le_of_lt (ptL_len 30 P _) (by decide)
            refine zi_istore (lv' := [(5, _), (4, _), (0, _), (1, _), (2, _), (3, _)]) 74 dX10_part_72 rfl rfl rfl ?_
            refine zi_iload_n 75 dX10_part_74 rfl rfl ?_
            refine zi_iload 77 dX10_part_75 rfl rfl ?_
            refine zc_static (n' := (0, 0)) (md' := mX10_outside) 80 dX10_part_77 tw_354 zs_X10_outside (s_X10_outside B h1 _ _) rfl rfl rfl rfl rfl rfl rfl rfl (zk_f ?_)
            refine zb_eq 83 90 dX10_part_80 (by decide) rfl (fun zzI => ?_) (fun zzI => ?_)
            ·
              obtain ⟨j, hj, hj31, rfl⟩ := out_i hD31 zzI
              obtain ⟨v, hv⟩ : ∃ v, (ptD P)[j]? = some v := ⟨_, List.getElem?_eq_getElem hj⟩
              have m80 : h1 (A 76) = some (zFo (z4i v)) := m1 j v hv rfl
              have Vv : i4V v := V_ptL 30 P _ (V_pt hVP zzK) (Nat.lt_of_le_of_lt (nN_le hVP) (by decide)) v (List.mem_of_getElem? hv)
              refine zi_aload_n 91 dX10_part_90 rfl rfl ?_
              refine zi_iload_n 92 dX10_part_91 rfl rfl ?_
              refine zi_aload_n 93 dX10_part_92 rfl rfl ?_
              refine zi_getfield 96 7 dX10_part_93 zcl_X10 tw_317 rfl rfl R1.1 rfl rfl ?_
              refine zi_getfield 99 0 dX10_part_96 zcl_X7 tw_218 rfl rfl R1.2.2.2.2.2.1.2.2.2.1.2.1 rfl rfl ?_
              refine zc_virtual (n' := (0, 0)) (md' := mX10_keep) 102 dX10_part_99 tw_439 zv_X10_keep zcl_X10 (s_X10_keep2 B h1 A hA s R1 ti hti (A 76) (v) (Vv) m80 (hA.ne (by omega))) R1.1 rfl rfl rfl rfl rfl rfl rfl rfl (zk_i fun x2 h2 hp2 => ?_)
              obtain ⟨rfl, R2, U2, K2⟩ := hp2
              refine zi_pop 103 dX10_part_102 rfl rfl ?_
              refine zi_aload_n 104 dX10_part_103 rfl rfl ?_
              refine zi_iload 106 dX10_part_104 rfl rfl ?_
              refine zc_virtual (n' := (0, 0)) (md' := mX10_answered) 109 dX10_part_106 tw_367 zv_X10_answered zcl_X10 (s_X10_answered B h2 A hA _ R2 _) R2.1 rfl rfl rfl rfl rfl rfl rfl rfl (zk_i fun x9 h9 hp9 => ?_)
              obtain ⟨rfl, R9, U9⟩ := hp9
              exact zr_int hZ dX10_part_109 rfl rfl ⟨_, rfl, _, by rw [r_part, if_neg zzO, nI_clamp hpj31, hsP, onS_s, if_pos zzK, if_neg zzI, nI_clamp hti31, nI_clamp hj31, hv], R9, zOu_t (zOu_t U1 U2) U9⟩
            ·
              refine zi_aload_n 84 dX10_part_83 rfl rfl ?_
              refine zi_ldc 86 dX10_part_84 tw_715 rfl ?_
              refine zc_virtual (n' := (0, 0)) (md' := mX10_answered) 89 dX10_part_86 tw_367 zv_X10_answered zcl_X10 (s_X10_answered B h1 A hA s R1 _) R1.1 rfl rfl rfl rfl rfl rfl rfl rfl (zk_i fun x9 h9 hp9 => ?_)
              obtain ⟨rfl, R9, U9⟩ := hp9
              exact zr_int hZ dX10_part_89 rfl rfl ⟨_, rfl, _, by rw [r_part, if_neg zzO, nI_clamp hpj31, hsP, onS_s, if_pos zzK, if_pos zzI], R9, zOu_t U1 U9⟩
          ·
            rw [show (3 : Int32) = nI 3 from rfl, nI_eq (kd_31 P) (by decide)] at zzK3
            refine zi_ldc 61 dX10_part_59 tw_619 rfl ?_
            exact zr_int hZ dX10_part_61 rfl rfl ⟨_, rfl, _, by rw [r_part, if_neg zzO, nI_clamp hpj31, hsP, onS_s, if_neg (fun r => r.elim zzK2 zzK3)], hR, zOu_r _ _⟩
    ·
      refine zi_ldc 20 dX10_part_18 tw_357 rfl ?_
      exact zr_int hZ dX10_part_20 rfl rfl ⟨_, rfl, _, by rw [r_part, if_pos (by first | exact Or.inl zzA | exact Or.inr (zzB))], hR, zOu_r _ _⟩
