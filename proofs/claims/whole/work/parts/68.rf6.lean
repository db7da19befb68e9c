/-! the reference: joined -/
theorem nq_63 {P : i4} (h : i4q P < 9223372036854775808) (o : i4o P) : nN P < 2 ^ 63 := by
  have h1 := i4q_4 o
  have h2 := nN_i P
  have h3 := i4n_nn P
  omega
theorem nq_z {P : i4} (h : i4q P < 9223372036854775808) : zNm (z4i P) = lN (nN P) := by
  rw [z4i_n h, iz_lN, nN_i]
theorem nq_9 {P : i4} (h : i4q P < 9223372036854775808) (o : i4o P) : lN (nN P) ≤ 1000000000 ↔ ¬ 1000000000 < i4n P := by
  rw [show (1000000000 : Int64) = lN 1000000000 from rfl, pk_lLE (nq_63 h o) (by decide)]
  have := nN_i P
  omega
theorem nq_m {P Q : i4} (hP : i4V P) (hQ : i4V Q) : lN (nN P) * lN (nN Q) ≤ 1000000000 ↔ ¬ 1000000000 < i4n (i4m P Q) := by
  have h1 := nN_le hP
  have h2 := nN_le hQ
  have h3 : nN P * nN Q ≤ 1000000000 * 1000000000 := Nat.mul_le_mul h1 h2
  rw [lN_mul, show (1000000000 : Int64) = lN 1000000000 from rfl, pk_lLE (by omega) (by decide), i4m_n hP.1 hQ.1, ← nN_i P, ← nN_i Q]
  have : ((nN P : Int) * (nN Q : Int)) = ((nN P * nN Q : Nat) : Int) := by push_cast; rfl
  rw [this]
  omega
theorem V_63 {P : i4} (h : i4V P) : i4q P < 9223372036854775808 := by have := h.2; omega
theorem as_b {P Q : i4} (hP : i4V P) (hQ : i4V Q) : i4q (i4a P Q) < 9223372036854775808 := by
  obtain ⟨a1, a2, a3, a4⟩ := zb_63 hP.2
  obtain ⟨b1, b2, b3, b4⟩ := zb_63 hQ.2
  have sq : ∀ x y : Int, x.natAbs ≤ 63245 → y.natAbs ≤ 63245 → (x + y) * (x + y) ≤ 16000000000 := fun x y hx hy => by
    have h := zb_mul (x := x + y) (y := x + y) (a := 126490) (b := 126490) (by omega) (by omega)
    have := zsn (x + y)
    omega
  have h1 := sq _ _ a1 b1
  have h2 := sq _ _ a2 b2
  have h3 := sq _ _ a3 b3
  have h4 := sq _ _ a4 b4
  show (P.1 + Q.1) * (P.1 + Q.1) + (P.2.1 + Q.2.1) * (P.2.1 + Q.2.1) + (P.2.2.1 + Q.2.2.1) * (P.2.2.1 + Q.2.2.1) + (P.2.2.2 + Q.2.2.2) * (P.2.2.2 + Q.2.2.2) < _
  omega
theorem V_9 {P : i4} (h : i4V P) : ¬ 1000000000 < i4n P := by
  have := nN_le h
  have := nN_i P
  omega

set_option maxHeartbeats 4000000 in
set_option maxRecDepth 100000 in
theorem s_X11_comesF (B : zBB) (h : zHp) (D : Nat → Nat) (hD : zInj D) (m : mS) (M : rM B D m h) (i b : Nat) (hi : i < 20) (hb : b ≤ 76) (P : i4) (oP : i4o P) (qP : i4q P < 9223372036854775808) (hP : ro (wR m) b = z4i P) (hf : 1000000000 < i4n P) : zSpec mX11_comes B (3, 0, 0) [.ref (D 0), .int (nI i), .int (nI b)] h (zPi (fun x h' => x = -1000003 ∧ rN B D m h h')) := by
  refine zSpec.of (by decide) (Nat.le_of_ble_eq_true rfl) (fun X hZ => ?_)
  show zG X mX11_comes B (3, 0, 0) (0, 0) 0 [(0, .ref (D 0)), (1, .int (nI i)), (2, .int (nI b))] [] h
  have N0 := rN_r M
  refine zi_aload_n 1 dX11_comes_0 rfl rfl ?_
  refine zi_iload_n 2 dX11_comes_1 rfl rfl ?_
  refine zc_virtual (n' := (0, 0)) (md' := mX11_norm4) 5 dX11_comes_2 tw_948 zv_X11_norm4 zcl_X11 (s_X11_norm4 B h D hD _ N0.1 b (by omega)) N0.1.1 rfl rfl rfl rfl rfl rfl rfl rfl (zk_f ?_)
  rw [show zNm (ro (wR m) b) = lN (nN P) from (congrArg zNm hP).trans (nq_z qP)]
  refine zi_ldc2 8 dX11_comes_5 tw_953 rfl ?_
  refine zj_le 12 15 dX11_comes_8 rfl dX11_comes_9 (by decide) rfl (fun zzC => absurd hf ((nq_9 qP oP).mp zzC)) (fun zzC => ?_)
  refine zi_ldc 14 dX11_comes_12 tw_943 rfl ?_
  exact zr_int hZ dX11_comes_14 rfl rfl ⟨_, rfl, rfl, N0⟩

set_option maxHeartbeats 4000000 in
set_option maxRecDepth 100000 in
theorem s_X11_comesS (B : zBB) (h : zHp) (D : Nat → Nat) (hD : zInj D) (m : mS) (M : rM B D m h) (i b : Nat) (hi : i < 20) (hb : b ≤ 76) (P : i4) (oP : i4o P) (qP : i4q P < 9223372036854775808) (hP : ro (wR m) b = z4i P) (hf : ¬ 1000000000 < i4n P) : zSpec mX11_comes B (3, 0, 0) [.ref (D 0), .int (nI i), .int (nI b)] h (zPi (fun x h' => x = nI (kindI P) ∧ rN B D (uF (uHo m i b) 0) h h')) := by
  refine zSpec.of (by decide) (Nat.le_of_ble_eq_true rfl) (fun X hZ => ?_)
  show zG X mX11_comes B (3, 0, 0) (0, 0) 0 [(0, .ref (D 0)), (1, .int (nI i)), (2, .int (nI b))] [] h
  have N0 := rN_r M
  refine zi_aload_n 1 dX11_comes_0 rfl rfl ?_
  refine zi_iload_n 2 dX11_comes_1 rfl rfl ?_
  refine zc_virtual (n' := (0, 0)) (md' := mX11_norm4) 5 dX11_comes_2 tw_948 zv_X11_norm4 zcl_X11 (s_X11_norm4 B h D hD _ N0.1 b (by omega)) N0.1.1 rfl rfl rfl rfl rfl rfl rfl rfl (zk_f ?_)
  rw [show zNm (ro (wR m) b) = lN (nN P) from (congrArg zNm hP).trans (nq_z qP)]
  refine zi_ldc2 8 dX11_comes_5 tw_953 rfl ?_
  refine zj_le 12 15 dX11_comes_8 rfl dX11_comes_9 (by decide) rfl (fun zzC => ?_) (fun zzC => absurd ((nq_9 qP oP).mpr hf) zzC)
  refine zi_aload_n 16 dX11_comes_15 rfl rfl ?_
  refine zi_iload_n 17 dX11_comes_16 rfl rfl ?_
  refine zi_iload_n 18 dX11_comes_17 rfl rfl ?_
  refine zc_virtual (n' := (0, 0)) (md' := mX11_hold) 21 dX11_comes_18 tw_954 zv_X11_hold zcl_X11 (s_X11_hold B h D hD _ N0.1 i b (by omega) (by omega)) N0.1.1 rfl rfl rfl rfl rfl rfl rfl rfl (zk_v fun h1 n1 => ?_)
  have N1 := rN_t N0 n1
  refine zi_aload_n 22 dX11_comes_21 rfl rfl ?_
  refine zi_aload_n 23 dX11_comes_22 rfl rfl ?_
  refine zi_iload_n 24 dX11_comes_23 rfl rfl ?_
  refine zc_virtual (n' := (0, 0)) (md' := mX11_kindOf) 27 dX11_comes_24 tw_958 zv_X11_kindOf zcl_X11 (s_X11_kindOf B h1 D hD _ N1.1 b (by omega) P (i4V_of oP hf) hP) N1.1.1 rfl rfl rfl rfl rfl rfl rfl rfl (zk_f ?_)
  refine zc_virtual (n' := (0, 0)) (md' := mX11_well) 30 dX11_comes_27 tw_916 zv_X11_well zcl_X11 (s_X11_well B h1 D hD _ N1.1 _) N1.1.1 rfl rfl rfl rfl rfl rfl rfl rfl (zk_i fun x2 h2 p2 => ?_)
  obtain ⟨rfl, n2⟩ := p2
  have N2 := rN_t N1 n2
  exact zr_int hZ dX11_comes_30 rfl rfl ⟨_, rfl, rfl, N2⟩

set_option maxHeartbeats 1000000 in
set_option maxRecDepth 100000 in
theorem s_X11_times (B : zBB) (h : zHp) (D : Nat → Nat) (hD : zInj D) (s : zSt) (hs0 : okSt s) (hR : rRm B D s h) (t : Int32) (p : Int32) (q : Int32) : zSpec mX11_times B (4, 0, 0) [.ref (D 0), .int t, .int p, .int q] h (zPi (fun zx h' => ∃ s' : zSt, r_times s t p q = (zx, s') ∧ rRm B D s' h' ∧ rOd D h h')) := by
  refine zSpec.of (by decide) (Nat.le_of_ble_eq_true rfl) (fun X hZ => ?_)
  show zG X mX11_times B (4, 0, 0) (0, 0) 0 [(0, .ref (D 0)), (1, .int t), (2, .int p), (3, .int q)] [] h
  obtain ⟨m, M, K⟩ := hR
  have N0 := rN_r M
  refine zi_iload_n 1 dX11_times_0 rfl rfl ?_
  refine zc_static (n' := (0, 0)) (md' := mX11_isSlot) 4 dX11_times_1 tw_937 zs_X11_isSlot (s_X11_isSlot B h _) rfl rfl rfl rfl rfl rfl rfl rfl (zk_f ?_)
  refine zb_eq 7 21 dX11_times_4 (by decide) rfl (fun zzA => ?_) (fun zzA => ?_)
  ·
    have zzA := Decidable.not_not.mp (fun q => zzA (in_20.mpr q))
    refine zi_ldc 23 dX11_times_21 tw_910 rfl ?_
    exact zr_int hZ dX11_times_23 rfl rfl ⟨_, rfl, _, by rw [r_times, if_pos (by first | exact Or.inl zzA | exact Or.inr (Or.inl zzB) | exact Or.inr (Or.inr (zzC)))], ⟨m, N0.1, K⟩, N0.2⟩
  ·
    have zzA := in_20.mp zzA
    refine zi_iload_n 8 dX11_times_7 rfl rfl ?_
    refine zc_static (n' := (0, 0)) (md' := mX11_isSlot) 11 dX11_times_8 tw_937 zs_X11_isSlot (s_X11_isSlot B h _) rfl rfl rfl rfl rfl rfl rfl rfl (zk_f ?_)
    refine zb_eq 14 21 dX11_times_11 (by decide) rfl (fun zzB => ?_) (fun zzB => ?_)
    ·
      have zzB := Decidable.not_not.mp (fun q => zzB (in_20.mpr q))
      refine zi_ldc 23 dX11_times_21 tw_910 rfl ?_
      exact zr_int hZ dX11_times_23 rfl rfl ⟨_, rfl, _, by rw [r_times, if_pos (by first | exact Or.inl zzA | exact Or.inr (Or.inl zzB) | exact Or.inr (Or.inr (zzC)))], ⟨m, N0.1, K⟩, N0.2⟩
    ·
      have zzB := in_20.mp zzB
      refine zi_iload_n 15 dX11_times_14 rfl rfl ?_
      refine zc_static (n' := (0, 0)) (md' := mX11_isSlot) 18 dX11_times_15 tw_937 zs_X11_isSlot (s_X11_isSlot B h _) rfl rfl rfl rfl rfl rfl rfl rfl (zk_f ?_)
      refine zb_ne 21 24 dX11_times_18 (by decide) rfl (fun zzC => ?_) (fun zzC => ?_)
      ·
        have zzC := in_20.mp zzC
        have zzO : ¬ (zOut t 20 ∨ zOut p 20 ∨ zOut q 20) := fun r => r.elim zzA (fun r => r.elim zzB zzC)
        obtain ⟨ti, hti, hti31, rfl⟩ := out_i (N := 20) (by decide) zzA
        obtain ⟨pj, hpj, hpj31, rfl⟩ := out_i (N := 20) (by decide) zzB
        obtain ⟨qj, hqj, hqj31, rfl⟩ := out_i (N := 20) (by decide) zzC
        refine zi_aload_n 25 dX11_times_24 rfl rfl ?_
        refine zi_getfield 28 0 dX11_times_25 zcl_X11 tw_863 rfl rfl N0.1.1 rfl rfl ?_
        refine zi_iload_n 29 dX11_times_28 rfl rfl ?_
        rcases hsP : qSl s pj with _ | P
        ·
          refine zi_baload 30 dX11_times_29 N0.1.2.1 (vp_in_nI (show pj < 20 by omega) (by decide)) rfl ?_
          rw [nI_clamp (Nat.lt_trans (show pj < 20 by omega) (by decide))]
          rw [show wH _ pj = kn (qSl s pj) from K.1 pj hpj, hsP, show kn none = 0 from rfl]
          refine zi_if_eq 33 42 dX11_times_30 (by decide) rfl (fun c_30 => ?_) (fun c_30 => absurd c_30 (by decide))
          refine zi_aload_n 43 dX11_times_42 rfl rfl ?_
          refine zi_iconst (v := 1) 44 dX11_times_43 (by decide) rfl ?_
          refine zc_virtual (n' := (0, 0)) (md' := mX11_finds) 47 dX11_times_44 tw_911 zv_X11_finds zcl_X11 (s_X11_finds B h D hD _ N0.1 _) N0.1.1 rfl rfl rfl rfl rfl rfl rfl rfl (zk_i fun x1 h1 p1 => ?_)
          obtain ⟨rfl, n1⟩ := p1
          have N1 := rN_t N0 n1
          exact zr_int hZ dX11_times_47 rfl rfl ⟨_, rfl, _, by rw [r_times, if_neg zzO, nI_clamp hpj31, hsP]; first | rw [onS_n] | rw [onS_s, nI_clamp hqj31, hsQ, onS_n], ⟨_, N1.1, mQ_F _ K⟩, N1.2⟩
        ·
          have hVP := hs0.1 pj P hsP
          have eP := K.2.1 pj hpj P hsP
          refine zi_baload 30 dX11_times_29 N0.1.2.1 (vp_in_nI (show pj < 20 by omega) (by decide)) rfl ?_
          rw [nI_clamp (Nat.lt_trans (show pj < 20 by omega) (by decide))]
          rw [show wH _ pj = kn (qSl s pj) from K.1 pj hpj, hsP, show kn (some P) = 1 from rfl]
          refine zi_if_eq 33 42 dX11_times_30 (by decide) rfl (fun c_30 => absurd c_30 (by decide)) (fun c_30 => ?_)
          refine zi_aload_n 34 dX11_times_33 rfl rfl ?_
          refine zi_getfield 37 0 dX11_times_34 zcl_X11 tw_863 rfl rfl N0.1.1 rfl rfl ?_
          refine zi_iload_n 38 dX11_times_37 rfl rfl ?_
          rcases hsQ : qSl s qj with _ | Q
          ·
            refine zi_baload 39 dX11_times_38 N0.1.2.1 (vp_in_nI (show qj < 20 by omega) (by decide)) rfl ?_
            rw [nI_clamp (Nat.lt_trans (show qj < 20 by omega) (by decide))]
            rw [show wH _ qj = kn (qSl s qj) from K.1 qj hqj, hsQ, show kn none = 0 from rfl]
            refine zi_if_ne 42 48 dX11_times_39 (by decide) rfl (fun c_39 => absurd c_39 (by decide)) (fun c_39 => ?_)
            refine zi_aload_n 43 dX11_times_42 rfl rfl ?_
            refine zi_iconst (v := 1) 44 dX11_times_43 (by decide) rfl ?_
            refine zc_virtual (n' := (0, 0)) (md' := mX11_finds) 47 dX11_times_44 tw_911 zv_X11_finds zcl_X11 (s_X11_finds B h D hD _ N0.1 _) N0.1.1 rfl rfl rfl rfl rfl rfl rfl rfl (zk_i fun x2 h2 p2 => ?_)
            obtain ⟨rfl, n2⟩ := p2
            have N2 := rN_t N0 n2
            exact zr_int hZ dX11_times_47 rfl rfl ⟨_, rfl, _, by rw [r_times, if_neg zzO, nI_clamp hpj31, hsP]; first | rw [onS_n] | rw [onS_s, nI_clamp hqj31, hsQ, onS_n], ⟨_, N2.1, mQ_F _ K⟩, N2.2⟩
          ·
            have hVQ := hs0.1 qj Q hsQ
            have eQ := K.2.1 qj hqj Q hsQ
            refine zi_baload 39 dX11_times_38 N0.1.2.1 (vp_in_nI (show qj < 20 by omega) (by decide)) rfl ?_
            rw [nI_clamp (Nat.lt_trans (show qj < 20 by omega) (by decide))]
            rw [show wH _ qj = kn (qSl s qj) from K.1 qj hqj, hsQ, show kn (some Q) = 1 from rfl]
            refine zi_if_ne 42 48 dX11_times_39 (by decide) rfl (fun c_39 => ?_) (fun c_39 => absurd c_39 (by decide))
            refine zi_aload_n 49 dX11_times_48 rfl rfl ?_
            refine zi_iconst (v := 0) 50 dX11_times_49 (by decide) rfl ?_
            refine zi_iload_n 51 dX11_times_50 rfl rfl ?_
            refine zc_virtual (n' := (0, 0)) (md' := mX11_load) 54 dX11_times_51 tw_989 zv_X11_load zcl_X11 (s_X11_load B h D hD _ N0.1 0 pj (by omega) (by omega)) N0.1.1 rfl rfl rfl rfl rfl rfl rfl rfl (zk_v fun h3 n3 => ?_)
            have N3 := rN_t N0 n3
            refine zi_aload_n 55 dX11_times_54 rfl rfl ?_
            refine zi_iconst (v := 4) 56 dX11_times_55 (by decide) rfl ?_
            refine zi_iload_n 57 dX11_times_56 rfl rfl ?_
            refine zc_virtual (n' := (0, 0)) (md' := mX11_load) 60 dX11_times_57 tw_989 zv_X11_load zcl_X11 (s_X11_load B h3 D hD _ N3.1 4 qj (by omega) (by omega)) N3.1.1 rfl rfl rfl rfl rfl rfl rfl rfl (zk_v fun h4 n4 => ?_)
            have N4 := rN_t N3 n4
            obtain ⟨R5, N5, r0, r4⟩ : ∃ R, rN B D (uR m R) h h4 ∧ ro R 0 = z4i P ∧ ro R 4 = z4i Q := ⟨_, N4, eP, eQ⟩
            refine zi_aload_n 61 dX11_times_60 rfl rfl ?_
            refine zi_iconst (v := 0) 62 dX11_times_61 (by decide) rfl ?_
            refine zc_virtual (n' := (0, 0)) (md' := mX11_norm4) 65 dX11_times_62 tw_948 zv_X11_norm4 zcl_X11 (s_X11_norm4 B h4 D hD _ N5.1 0 (by omega)) N5.1.1 rfl rfl rfl rfl rfl rfl rfl rfl (zk_f ?_)
            rw [show zNm (ro (wR (uR m R5)) 0) = lN (nN P) from (congrArg zNm r0).trans (nN_z hVP)]
            refine zi_aload_n 66 dX11_times_65 rfl rfl ?_
            refine zi_iconst (v := 4) 67 dX11_times_66 (by decide) rfl ?_
            refine zc_virtual (n' := (0, 0)) (md' := mX11_norm4) 70 dX11_times_67 tw_948 zv_X11_norm4 zcl_X11 (s_X11_norm4 B h4 D hD _ N5.1 4 (by omega)) N5.1.1 rfl rfl rfl rfl rfl rfl rfl rfl (zk_f ?_)
            rw [show zNm (ro (wR (uR m R5)) 4) = lN (nN Q) from (congrArg zNm r4).trans (nN_z hVQ)]
            refine zi_lmul 71 dX11_times_70 rfl ?_
            refine zi_ldc2 74 dX11_times_71 tw_953 rfl ?_
            refine zj_le 78 81 dX11_times_74 rfl dX11_times_75 (by decide) rfl (fun zzM => ?_) (fun zzM => ?_)
            ·
              rw [nq_m hVP hVQ] at zzM
              refine zi_aload_n 82 dX11_times_81 rfl rfl ?_
              refine zi_bipush (v := 8) 84 dX11_times_82 (by decide) rfl ?_
              refine zi_iconst (v := 0) 85 dX11_times_84 (by decide) rfl ?_
              refine zi_iconst (v := 4) 86 dX11_times_85 (by decide) rfl ?_
              refine zc_virtual (n' := (0, 0)) (md' := mX11_multiply) 89 dX11_times_86 tw_1039 zv_X11_multiply zcl_X11 (s_X11_multiply B h4 D hD _ N5.1 8 0 4 (by omega) (by omega) (by omega)) N5.1.1 rfl rfl rfl rfl rfl rfl rfl rfl (zk_v fun h6 n6 => ?_)
              have N6 := rN_t N5 n6
              obtain ⟨R7, N7, t8⟩ : ∃ R, rN B D (uR m R) h h6 ∧ ro R 8 = z4i (i4m P Q) := ⟨_, N6, by show zMul (ro _ 0) (ro _ 4) = _; rw [r0, r4]; exact (ti_m hVP hVQ).1⟩
              refine zi_aload_n 90 dX11_times_89 rfl rfl ?_
              refine zi_iload_n 91 dX11_times_90 rfl rfl ?_
              refine zi_bipush (v := 8) 93 dX11_times_91 (by decide) rfl ?_
              refine zc_virtual (n' := (0, 0)) (md' := mX11_comes) 96 dX11_times_93 tw_1043 zv_X11_comes zcl_X11 (s_X11_comesS B h6 D hD _ N7.1 ti 8 (by omega) (by decide) (i4m P Q) (ti_m hVP hVQ).2.1 (V_63 (i4V_of (ti_m hVP hVQ).2.1 zzM)) t8 zzM) N7.1.1 rfl rfl rfl rfl rfl rfl rfl rfl (zk_i fun x8 h8 p8 => ?_)
              obtain ⟨rfl, n8⟩ := p8
              have N8 := rN_t N7 n8
              exact zr_int hZ dX11_times_96 rfl rfl ⟨_, rfl, _, by rw [r_times, if_neg zzO, nI_clamp hpj31, hsP, onS_s, nI_clamp hqj31, hsQ, onS_s, if_neg zzM, nI_clamp hti31], ⟨_, N8.1, mQ_F 0 (mQ_ho t8 K)⟩, N8.2⟩
            ·
              rw [nq_m hVP hVQ] at zzM
              have zzM := Decidable.not_not.mp zzM
              refine zi_ldc 80 dX11_times_78 tw_943 rfl ?_
              exact zr_int hZ dX11_times_80 rfl rfl ⟨_, rfl, _, by rw [r_times, if_neg zzO, nI_clamp hpj31, hsP, onS_s, nI_clamp hqj31, hsQ, onS_s, if_pos zzM], ⟨_, N5.1, K⟩, N5.2⟩
      ·
        have zzC := Decidable.not_not.mp (fun q => zzC (in_20.mpr q))
        refine zi_ldc 23 dX11_times_21 tw_910 rfl ?_
        exact zr_int hZ dX11_times_23 rfl rfl ⟨_, rfl, _, by rw [r_times, if_pos (by first | exact Or.inl zzA | exact Or.inr (Or.inl zzB) | exact Or.inr (Or.inr (zzC)))], ⟨m, N0.1, K⟩, N0.2⟩

set_option maxHeartbeats 1000000 in
set_option maxRecDepth 100000 in
theorem s_X11_sum (B : zBB) (h : zHp) (D : Nat → Nat) (hD : zInj D) (s : zSt) (hs0 : okSt s) (hR : rRm B D s h) (t : Int32) (p : Int32) (q : Int32) : zSpec mX11_sum B (4, 0, 0) [.ref (D 0), .int t, .int p, .int q] h (zPi (fun zx h' => ∃ s' : zSt, r_sum s t p q = (zx, s') ∧ rRm B D s' h' ∧ rOd D h h')) := by
  refine zSpec.of (by decide) (Nat.le_of_ble_eq_true rfl) (fun X hZ => ?_)
  show zG X mX11_sum B (4, 0, 0) (0, 0) 0 [(0, .ref (D 0)), (1, .int t), (2, .int p), (3, .int q)] [] h
  obtain ⟨m, M, K⟩ := hR
  have N0 := rN_r M
  refine zi_iload_n 1 dX11_sum_0 rfl rfl ?_
  refine zc_static (n' := (0, 0)) (md' := mX11_isSlot) 4 dX11_sum_1 tw_937 zs_X11_isSlot (s_X11_isSlot B h _) rfl rfl rfl rfl rfl rfl rfl rfl (zk_f ?_)
  refine zb_eq 7 21 dX11_sum_4 (by decide) rfl (fun zzA => ?_) (fun zzA => ?_)
  ·
    have zzA := Decidable.not_not.mp (fun q => zzA (in_20.mpr q))
    refine zi_ldc 23 dX11_sum_21 tw_910 rfl ?_
    exact zr_int hZ dX11_sum_23 rfl rfl ⟨_, rfl, _, by rw [r_sum, if_pos (by first | exact Or.inl zzA | exact Or.inr (Or.inl zzB) | exact Or.inr (Or.inr (zzC)))], ⟨m, N0.1, K⟩, N0.2⟩
  ·
    have zzA := in_20.mp zzA
    refine zi_iload_n 8 dX11_sum_7 rfl rfl ?_
    refine zc_static (n' := (0, 0)) (md' := mX11_isSlot) 11 dX11_sum_8 tw_937 zs_X11_isSlot (s_X11_isSlot B h _) rfl rfl rfl rfl rfl rfl rfl rfl (zk_f ?_)
    refine zb_eq 14 21 dX11_sum_11 (by decide) rfl (fun zzB => ?_) (fun zzB => ?_)
    ·
      have zzB := Decidable.not_not.mp (fun q => zzB (in_20.mpr q))
      refine zi_ldc 23 dX11_sum_21 tw_910 rfl ?_
      exact zr_int hZ dX11_sum_23 rfl rfl ⟨_, rfl, _, by rw [r_sum, if_pos (by first | exact Or.inl zzA | exact Or.inr (Or.inl zzB) | exact Or.inr (Or.inr (zzC)))], ⟨m, N0.1, K⟩, N0.2⟩
    ·
      have zzB := in_20.mp zzB
      refine zi_iload_n 15 dX11_sum_14 rfl rfl ?_
      refine zc_static (n' := (0, 0)) (md' := mX11_isSlot) 18 dX11_sum_15 tw_937 zs_X11_isSlot (s_X11_isSlot B h _) rfl rfl rfl rfl rfl rfl rfl rfl (zk_f ?_)
      refine zb_ne 21 24 dX11_sum_18 (by decide) rfl (fun zzC => ?_) (fun zzC => ?_)
      ·
        have zzC := in_20.mp zzC
        have zzO : ¬ (zOut t 20 ∨ zOut p 20 ∨ zOut q 20) := fun r => r.elim zzA (fun r => r.elim zzB zzC)
        obtain ⟨ti, hti, hti31, rfl⟩ := out_i (N := 20) (by decide) zzA
        obtain ⟨pj, hpj, hpj31, rfl⟩ := out_i (N := 20) (by decide) zzB
        obtain ⟨qj, hqj, hqj31, rfl⟩ := out_i (N := 20) (by decide) zzC
        refine zi_aload_n 25 dX11_sum_24 rfl rfl ?_
        refine zi_getfield 28 0 dX11_sum_25 zcl_X11 tw_863 rfl rfl N0.1.1 rfl rfl ?_
        refine zi_iload_n 29 dX11_sum_28 rfl rfl ?_
        rcases hsP : qSl s pj with _ | P
        ·
          refine zi_baload 30 dX11_sum_29 N0.1.2.1 (vp_in_nI (show pj < 20 by omega) (by decide)) rfl ?_
          rw [nI_clamp (Nat.lt_trans (show pj < 20 by omega) (by decide))]
          rw [show wH _ pj = kn (qSl s pj) from K.1 pj hpj, hsP, show kn none = 0 from rfl]
          refine zi_if_eq 33 42 dX11_sum_30 (by decide) rfl (fun c_30 => ?_) (fun c_30 => absurd c_30 (by decide))
          refine zi_aload_n 43 dX11_sum_42 rfl rfl ?_
          refine zi_iconst (v := 1) 44 dX11_sum_43 (by decide) rfl ?_
          refine zc_virtual (n' := (0, 0)) (md' := mX11_finds) 47 dX11_sum_44 tw_911 zv_X11_finds zcl_X11 (s_X11_finds B h D hD _ N0.1 _) N0.1.1 rfl rfl rfl rfl rfl rfl rfl rfl (zk_i fun x1 h1 p1 => ?_)
          obtain ⟨rfl, n1⟩ := p1
          have N1 := rN_t N0 n1
          exact zr_int hZ dX11_sum_47 rfl rfl ⟨_, rfl, _, by rw [r_sum, if_neg zzO, nI_clamp hpj31, hsP]; first | rw [onS_n] | rw [onS_s, nI_clamp hqj31, hsQ, onS_n], ⟨_, N1.1, mQ_F _ K⟩, N1.2⟩
        ·
          have hVP := hs0.1 pj P hsP
          have eP := K.2.1 pj hpj P hsP
          refine zi_baload 30 dX11_sum_29 N0.1.2.1 (vp_in_nI (show pj < 20 by omega) (by decide)) rfl ?_
          rw [nI_clamp (Nat.lt_trans (show pj < 20 by omega) (by decide))]
          rw [show wH _ pj = kn (qSl s pj) from K.1 pj hpj, hsP, show kn (some P) = 1 from rfl]
          refine zi_if_eq 33 42 dX11_sum_30 (by decide) rfl (fun c_30 => absurd c_30 (by decide)) (fun c_30 => ?_)
          refine zi_aload_n 34 dX11_sum_33 rfl rfl ?_
          refine zi_getfield 37 0 dX11_sum_34 zcl_X11 tw_863 rfl rfl N0.1.1 rfl rfl ?_
          refine zi_iload_n 38 dX11_sum_37 rfl rfl ?_
          rcases hsQ : qSl s qj with _ | Q
          ·
            refine zi_baload 39 dX11_sum_38 N0.1.2.1 (vp_in_nI (show qj < 20 by omega) (by decide)) rfl ?_
            rw [nI_clamp (Nat.lt_trans (show qj < 20 by omega) (by decide))]
            rw [show wH _ qj = kn (qSl s qj) from K.1 qj hqj, hsQ, show kn none = 0 from rfl]
            refine zi_if_ne 42 48 dX11_sum_39 (by decide) rfl (fun c_39 => absurd c_39 (by decide)) (fun c_39 => ?_)
            refine zi_aload_n 43 dX11_sum_42 rfl rfl ?_
            refine zi_iconst (v := 1) 44 dX11_sum_43 (by decide) rfl ?_
            refine zc_virtual (n' := (0, 0)) (md' := mX11_finds) 47 dX11_sum_44 tw_911 zv_X11_finds zcl_X11 (s_X11_finds B h D hD _ N0.1 _) N0.1.1 rfl rfl rfl rfl rfl rfl rfl rfl (zk_i fun x2 h2 p2 => ?_)
            obtain ⟨rfl, n2⟩ := p2
            have N2 := rN_t N0 n2
            exact zr_int hZ dX11_sum_47 rfl rfl ⟨_, rfl, _, by rw [r_sum, if_neg zzO, nI_clamp hpj31, hsP]; first | rw [onS_n] | rw [onS_s, nI_clamp hqj31, hsQ, onS_n], ⟨_, N2.1, mQ_F _ K⟩, N2.2⟩
          ·
            have hVQ := hs0.1 qj Q hsQ
            have eQ := K.2.1 qj hqj Q hsQ
            refine zi_baload 39 dX11_sum_38 N0.1.2.1 (vp_in_nI (show qj < 20 by omega) (by decide)) rfl ?_
            rw [nI_clamp (Nat.lt_trans (show qj < 20 by omega) (by decide))]
            rw [show wH _ qj = kn (qSl s qj) from K.1 qj hqj, hsQ, show kn (some Q) = 1 from rfl]
            refine zi_if_ne 42 48 dX11_sum_39 (by decide) rfl (fun c_39 => ?_) (fun c_39 => absurd c_39 (by decide))
            refine zi_aload_n 49 dX11_sum_48 rfl rfl ?_
            refine zi_iconst (v := 0) 50 dX11_sum_49 (by decide) rfl ?_
            refine zi_iload_n 51 dX11_sum_50 rfl rfl ?_
            refine zc_virtual (n' := (0, 0)) (md' := mX11_load) 54 dX11_sum_51 tw_989 zv_X11_load zcl_X11 (s_X11_load B h D hD _ N0.1 0 pj (by omega) (by omega)) N0.1.1 rfl rfl rfl rfl rfl rfl rfl rfl (zk_v fun h3 n3 => ?_)
            have N3 := rN_t N0 n3
            refine zi_aload_n 55 dX11_sum_54 rfl rfl ?_
            refine zi_iconst (v := 4) 56 dX11_sum_55 (by decide) rfl ?_
            refine zi_iload_n 57 dX11_sum_56 rfl rfl ?_
            refine zc_virtual (n' := (0, 0)) (md' := mX11_load) 60 dX11_sum_57 tw_989 zv_X11_load zcl_X11 (s_X11_load B h3 D hD _ N3.1 4 qj (by omega) (by omega)) N3.1.1 rfl rfl rfl rfl rfl rfl rfl rfl (zk_v fun h4 n4 => ?_)
            have N4 := rN_t N3 n4
            obtain ⟨R5, N5, r0, r4⟩ : ∃ R, rN B D (uR m R) h h4 ∧ ro R 0 = z4i P ∧ ro R 4 = z4i Q := ⟨_, N4, eP, eQ⟩
            refine zi_aload_n 61 dX11_sum_60 rfl rfl ?_
            refine zi_bipush (v := 8) 63 dX11_sum_61 (by decide) rfl ?_
            refine zi_aload_n 64 dX11_sum_63 rfl rfl ?_
            refine zi_getfield 67 9 dX11_sum_64 zcl_X11 tw_872 rfl rfl N5.1.1 rfl rfl ?_
            refine zi_iconst (v := 0) 68 dX11_sum_67 (by decide) rfl ?_
            refine zi_laload 69 dX11_sum_68 N5.1.2.2.2.2.2.2.2.2.1 (vp_in_nI (show 0 < 80 by decide) (by decide)) rfl ?_
            rw [show Int32.toNatClampNeg 0 = 0 from rfl]
            rw [show wR (uR m R5) 0 = iz P.1 from congrArg (fun v : z4 => v.1) r0]
            refine zi_aload_n 70 dX11_sum_69 rfl rfl ?_
            refine zi_getfield 73 9 dX11_sum_70 zcl_X11 tw_872 rfl rfl N5.1.1 rfl rfl ?_
            refine zi_iconst (v := 4) 74 dX11_sum_73 (by decide) rfl ?_
            refine zi_laload 75 dX11_sum_74 N5.1.2.2.2.2.2.2.2.2.1 (vp_in_nI (show 4 < 80 by decide) (by decide)) rfl ?_
            rw [show Int32.toNatClampNeg 4 = 4 from rfl]
            rw [show wR (uR m R5) 4 = iz Q.1 from congrArg (fun v : z4 => v.1) r4]
            refine zi_ladd 76 dX11_sum_75 rfl ?_
            refine zi_aload_n 77 dX11_sum_76 rfl rfl ?_
            refine zi_getfield 80 9 dX11_sum_77 zcl_X11 tw_872 rfl rfl N5.1.1 rfl rfl ?_
            refine zi_iconst (v := 1) 81 dX11_sum_80 (by decide) rfl ?_
            refine zi_laload 82 dX11_sum_81 N5.1.2.2.2.2.2.2.2.2.1 (vp_in_nI (show 1 < 80 by decide) (by decide)) rfl ?_
            rw [show Int32.toNatClampNeg 1 = 1 from rfl]
            rw [show wR (uR m R5) 1 = iz P.2.1 from congrArg (fun v : z4 => v.2.1) r0]
            refine zi_aload_n 83 dX11_sum_82 rfl rfl ?_
            refine zi_getfield 86 9 dX11_sum_83 zcl_X11 tw_872 rfl rfl N5.1.1 rfl rfl ?_
            refine zi_iconst (v := 5) 87 dX11_sum_86 (by decide) rfl ?_
            refine zi_laload 88 dX11_sum_87 N5.1.2.2.2.2.2.2.2.2.1 (vp_in_nI (show 5 < 80 by decide) (by decide)) rfl ?_
            rw [show Int32.toNatClampNeg 5 = 5 from rfl]
            rw [show wR (uR m R5) 5 = iz Q.2.1 from congrArg (fun v : z4 => v.2.1) r4]
            refine zi_ladd 89 dX11_sum_88 rfl ?_
            refine zi_aload_n 90 dX11_sum_89 rfl rfl ?_
            refine zi_getfield 93 9 dX11_sum_90 zcl_X11 tw_872 rfl rfl N5.1.1 rfl rfl ?_
            refine zi_iconst (v := 2) 94 dX11_sum_93 (by decide) rfl ?_
            refine zi_laload 95 dX11_sum_94 N5.1.2.2.2.2.2.2.2.2.1 (vp_in_nI (show 2 < 80 by decide) (by decide)) rfl ?_
            rw [show Int32.toNatClampNeg 2 = 2 from rfl]
            rw [show wR (uR m R5) 2 = iz P.2.2.1 from congrArg (fun v : z4 => v.2.2.1) r0]
            refine zi_aload_n 96 dX11_sum_95 rfl rfl ?_
            refine zi_getfield 99 9 dX11_sum_96 zcl_X11 tw_872 rfl rfl N5.1.1 rfl rfl ?_
            refine zi_bipush (v := 6) 101 dX11_sum_99 (by decide) rfl ?_
            refine zi_laload 102 dX11_sum_101 N5.1.2.2.2.2.2.2.2.2.1 (vp_in_nI (show 6 < 80 by decide) (by decide)) rfl ?_
            rw [show Int32.toNatClampNeg 6 = 6 from rfl]
            rw [show wR (uR m R5) 6 = iz Q.2.2.1 from congrArg (fun v : z4 => v.2.2.1) r4]
            refine zi_ladd 103 dX11_sum_102 rfl ?_
            refine zi_aload_n 104 dX11_sum_103 rfl rfl ?_
            refine zi_getfield 107 9 dX11_sum_104 zcl_X11 tw_872 rfl rfl N5.1.1 rfl rfl ?_
            refine zi_iconst (v := 3) 108 dX11_sum_107 (by decide) rfl ?_
            refine zi_laload 109 dX11_sum_108 N5.1.2.2.2.2.2.2.2.2.1 (vp_in_nI (show 3 < 80 by decide) (by decide)) rfl ?_
            rw [show Int32.toNatClampNeg 3 = 3 from rfl]
            rw [show wR (uR m R5) 3 = iz P.2.2.2 from congrArg (fun v : z4 => v.2.2.2) r0]
            refine zi_aload_n 110 dX11_sum_109 rfl rfl ?_
            refine zi_getfield 113 9 dX11_sum_110 zcl_X11 tw_872 rfl rfl N5.1.1 rfl rfl ?_
            refine zi_bipush (v := 7) 115 dX11_sum_113 (by decide) rfl ?_
            refine zi_laload 116 dX11_sum_115 N5.1.2.2.2.2.2.2.2.2.1 (vp_in_nI (show 7 < 80 by decide) (by decide)) rfl ?_
            rw [show Int32.toNatClampNeg 7 = 7 from rfl]
            rw [show wR (uR m R5) 7 = iz Q.2.2.2 from congrArg (fun v : z4 => v.2.2.2) r4]
            refine zi_ladd 117 dX11_sum_116 rfl ?_
            rw [iz_add, iz_add, iz_add, iz_add]
            refine zc_virtual (n' := (0, 0)) (md' := mX11_put) 120 dX11_sum_117 tw_944 zv_X11_put zcl_X11 (s_X11_put B h4 D hD _ N5.1 8 (by decide) (_, _, _, _)) N5.1.1 rfl rfl rfl rfl rfl rfl rfl rfl (zk_v fun h6 n6 => ?_)
            have N6 := rN_t N5 n6
            obtain ⟨R7, N7, t8⟩ : ∃ R, rN B D (uR m R) h h6 ∧ ro R 8 = z4i (i4a P Q) := ⟨_, N6, rfl⟩
            refine zi_aload_n 121 dX11_sum_120 rfl rfl ?_
            refine zi_iload_n 122 dX11_sum_121 rfl rfl ?_
            refine zi_bipush (v := 8) 124 dX11_sum_122 (by decide) rfl ?_
            by_cases zzF : 1000000000 < i4n (i4a P Q)
            ·
              refine zc_virtual (n' := (0, 0)) (md' := mX11_comes) 127 dX11_sum_124 tw_1043 zv_X11_comes zcl_X11 (s_X11_comesF B h6 D hD _ N7.1 ti 8 (by omega) (by decide) (i4a P Q) (i4a_o hVP.1 hVQ.1) (as_b hVP hVQ) t8 zzF) N7.1.1 rfl rfl rfl rfl rfl rfl rfl rfl (zk_i fun x8 h8 p8 => ?_)
              obtain ⟨rfl, n8⟩ := p8
              have N8 := rN_t N7 n8
              exact zr_int hZ dX11_sum_127 rfl rfl ⟨_, rfl, _, by rw [r_sum, if_neg zzO, nI_clamp hpj31, hsP, onS_s, nI_clamp hqj31, hsQ, onS_s, if_pos zzF], ⟨_, N8.1, K⟩, N8.2⟩
            ·
              refine zc_virtual (n' := (0, 0)) (md' := mX11_comes) 127 dX11_sum_124 tw_1043 zv_X11_comes zcl_X11 (s_X11_comesS B h6 D hD _ N7.1 ti 8 (by omega) (by decide) (i4a P Q) (i4a_o hVP.1 hVQ.1) (as_b hVP hVQ) t8 zzF) N7.1.1 rfl rfl rfl rfl rfl rfl rfl rfl (zk_i fun x9 h9 p9 => ?_)
              obtain ⟨rfl, n9⟩ := p9
              have N9 := rN_t N7 n9
              exact zr_int hZ dX11_sum_127 rfl rfl ⟨_, rfl, _, by rw [r_sum, if_neg zzO, nI_clamp hpj31, hsP, onS_s, nI_clamp hqj31, hsQ, onS_s, if_neg zzF, nI_clamp hti31], ⟨_, N9.1, mQ_F 0 (mQ_ho t8 K)⟩, N9.2⟩
      ·
        have zzC := Decidable.not_not.mp (fun q => zzC (in_20.mpr q))
        refine zi_ldc 23 dX11_sum_21 tw_910 rfl ?_
        exact zr_int hZ dX11_sum_23 rfl rfl ⟨_, rfl, _, by rw [r_sum, if_pos (by first | exact Or.inl zzA | exact Or.inr (Or.inl zzB) | exact Or.inr (Or.inr (zzC)))], ⟨m, N0.1, K⟩, N0.2⟩

set_option maxHeartbeats 1000000 in
set_option maxRecDepth 100000 in
theorem s_X11_back (B : zBB) (h : zHp) (D : Nat → Nat) (hD : zInj D) (s : zSt) (hs0 : okSt s) (hR : rRm B D s h) (t : Int32) (p : Int32) : zSpec mX11_back B (4, 0, 0) [.ref (D 0), .int t, .int p] h (zPi (fun zx h' => ∃ s' : zSt, r_back s t p = (zx, s') ∧ rRm B D s' h' ∧ rOd D h h')) := by
  refine zSpec.of (by decide) (Nat.le_of_ble_eq_true rfl) (fun X hZ => ?_)
  show zG X mX11_back B (4, 0, 0) (0, 0) 0 [(0, .ref (D 0)), (1, .int t), (2, .int p)] [] h
  obtain ⟨m, M, K⟩ := hR
  have N0 := rN_r M
  refine zi_iload_n 1 dX11_back_0 rfl rfl ?_
  refine zc_static (n' := (0, 0)) (md' := mX11_isSlot) 4 dX11_back_1 tw_937 zs_X11_isSlot (s_X11_isSlot B h _) rfl rfl rfl rfl rfl rfl rfl rfl (zk_f ?_)
  refine zb_eq 7 14 dX11_back_4 (by decide) rfl (fun zzA => ?_) (fun zzA => ?_)
  ·
    have zzA := Decidable.not_not.mp (fun q => zzA (in_20.mpr q))
    refine zi_ldc 16 dX11_back_14 tw_910 rfl ?_
    exact zr_int hZ dX11_back_16 rfl rfl ⟨_, rfl, _, by rw [r_back, if_pos (by first | exact Or.inl zzA | exact Or.inr (zzB))], ⟨m, N0.1, K⟩, N0.2⟩
  ·
    have zzA := in_20.mp zzA
    refine zi_iload_n 8 dX11_back_7 rfl rfl ?_
    refine zc_static (n' := (0, 0)) (md' := mX11_isSlot) 11 dX11_back_8 tw_937 zs_X11_isSlot (s_X11_isSlot B h _) rfl rfl rfl rfl rfl rfl rfl rfl (zk_f ?_)
    refine zb_ne 14 17 dX11_back_11 (by decide) rfl (fun zzB => ?_) (fun zzB => ?_)
    ·
      have zzB := in_20.mp zzB
      have zzO : ¬ (zOut t 20 ∨ zOut p 20) := fun r => r.elim zzA zzB
      obtain ⟨ti, hti, hti31, rfl⟩ := out_i (N := 20) (by decide) zzA
      obtain ⟨pj, hpj, hpj31, rfl⟩ := out_i (N := 20) (by decide) zzB
      refine zi_aload_n 18 dX11_back_17 rfl rfl ?_
      refine zi_getfield 21 0 dX11_back_18 zcl_X11 tw_863 rfl rfl N0.1.1 rfl rfl ?_
      refine zi_iload_n 22 dX11_back_21 rfl rfl ?_
      rcases hsP : qSl s pj with _ | P
      ·
        refine zi_baload 23 dX11_back_22 N0.1.2.1 (vp_in_nI (show pj < 20 by omega) (by decide)) rfl ?_
        rw [nI_clamp (Nat.lt_trans (show pj < 20 by omega) (by decide))]
        rw [show wH _ pj = kn (qSl s pj) from K.1 pj hpj, hsP, show kn none = 0 from rfl]
        refine zi_if_ne 26 32 dX11_back_23 (by decide) rfl (fun c_23 => absurd c_23 (by decide)) (fun c_23 => ?_)
        refine zi_aload_n 27 dX11_back_26 rfl rfl ?_
        refine zi_iconst (v := 1) 28 dX11_back_27 (by decide) rfl ?_
        refine zc_virtual (n' := (0, 0)) (md' := mX11_finds) 31 dX11_back_28 tw_911 zv_X11_finds zcl_X11 (s_X11_finds B h D hD _ N0.1 _) N0.1.1 rfl rfl rfl rfl rfl rfl rfl rfl (zk_i fun x1 h1 p1 => ?_)
        obtain ⟨rfl, n1⟩ := p1
        have N1 := rN_t N0 n1
        exact zr_int hZ dX11_back_31 rfl rfl ⟨_, rfl, _, by rw [r_back, if_neg zzO, nI_clamp hpj31, hsP, onS_n], ⟨_, N1.1, mQ_F _ K⟩, N1.2⟩
      ·
        have hVP := hs0.1 pj P hsP
        have eP := K.2.1 pj hpj P hsP
        refine zi_baload 23 dX11_back_22 N0.1.2.1 (vp_in_nI (show pj < 20 by omega) (by decide)) rfl ?_
        rw [nI_clamp (Nat.lt_trans (show pj < 20 by omega) (by decide))]
        rw [show wH _ pj = kn (qSl s pj) from K.1 pj hpj, hsP, show kn (some P) = 1 from rfl]
        refine zi_if_ne 26 32 dX11_back_23 (by decide) rfl (fun c_23 => ?_) (fun c_23 => absurd c_23 (by decide))
        refine zi_aload_n 33 dX11_back_32 rfl rfl ?_
        refine zi_iconst (v := 0) 34 dX11_back_33 (by decide) rfl ?_
        refine zi_iload_n 35 dX11_back_34 rfl rfl ?_
        refine zc_virtual (n' := (0, 0)) (md' := mX11_load) 38 dX11_back_35 tw_989 zv_X11_load zcl_X11 (s_X11_load B h D hD _ N0.1 0 pj (by omega) (by omega)) N0.1.1 rfl rfl rfl rfl rfl rfl rfl rfl (zk_v fun h2 n2 => ?_)
        have N2 := rN_t N0 n2
        obtain ⟨R3, N3, r0⟩ : ∃ R, rN B D (uR m R) h h2 ∧ ro R 0 = z4i P := ⟨_, N2, eP⟩
        refine zi_aload_n 39 dX11_back_38 rfl rfl ?_
        refine zi_bipush (v := 8) 41 dX11_back_39 (by decide) rfl ?_
        refine zi_iconst (v := 0) 42 dX11_back_41 (by decide) rfl ?_
        refine zc_virtual (n' := (0, 0)) (md' := mX11_turnBack) 45 dX11_back_42 tw_1055 zv_X11_turnBack zcl_X11 (s_X11_turnBack B h2 D hD _ N3.1 8 0 (by omega) (by omega)) N3.1.1 rfl rfl rfl rfl rfl rfl rfl rfl (zk_v fun h4 n4 => ?_)
        have N4 := rN_t N3 n4
        obtain ⟨R5, N5, t8⟩ : ∃ R, rN B D (uR m R) h h4 ∧ ro R 8 = z4i (i4b P) := ⟨_, N4, by show zBk (ro _ 0) = _; rw [r0]; exact z4i_b P⟩
        refine zi_aload_n 46 dX11_back_45 rfl rfl ?_
        refine zi_iload_n 47 dX11_back_46 rfl rfl ?_
        refine zi_bipush (v := 8) 49 dX11_back_47 (by decide) rfl ?_
        refine zc_virtual (n' := (0, 0)) (md' := mX11_comes) 52 dX11_back_49 tw_1043 zv_X11_comes zcl_X11 (s_X11_comesS B h4 D hD _ N5.1 ti 8 (by omega) (by decide) (i4b P) (i4b_o hVP.1) (V_63 (i4V_b hVP)) t8 (V_9 (i4V_b hVP))) N5.1.1 rfl rfl rfl rfl rfl rfl rfl rfl (zk_i fun x6 h6 p6 => ?_)
        obtain ⟨rfl, n6⟩ := p6
        have N6 := rN_t N5 n6
        exact zr_int hZ dX11_back_52 rfl rfl ⟨_, rfl, _, by rw [r_back, if_neg zzO, nI_clamp hpj31, hsP, onS_s, nI_clamp hti31], ⟨_, N6.1, mQ_F 0 (mQ_ho t8 K)⟩, N6.2⟩
    ·
      have zzB := Decidable.not_not.mp (fun q => zzB (in_20.mpr q))
      refine zi_ldc 16 dX11_back_14 tw_910 rfl ?_
      exact zr_int hZ dX11_back_16 rfl rfl ⟨_, rfl, _, by rw [r_back, if_pos (by first | exact Or.inl zzA | exact Or.inr (zzB))], ⟨m, N0.1, K⟩, N0.2⟩

set_option maxHeartbeats 1000000 in
set_option maxRecDepth 100000 in
theorem s_X11_associate (B : zBB) (h : zHp) (D : Nat → Nat) (hD : zInj D) (s : zSt) (hs0 : okSt s) (hR : rRm B D s h) (t : Int32) (p : Int32) (w : Int32) : zSpec mX11_associate B (4, 0, 0) [.ref (D 0), .int t, .int p, .int w] h (zPi (fun zx h' => ∃ s' : zSt, r_associate s t p w = (zx, s') ∧ rRm B D s' h' ∧ rOd D h h')) := by
  refine zSpec.of (by decide) (Nat.le_of_ble_eq_true rfl) (fun X hZ => ?_)
  show zG X mX11_associate B (4, 0, 0) (0, 0) 0 [(0, .ref (D 0)), (1, .int t), (2, .int p), (3, .int w)] [] h
  obtain ⟨m, M, K⟩ := hR
  have N0 := rN_r M
  refine zi_iload_n 1 dX11_associate_0 rfl rfl ?_
  refine zc_static (n' := (0, 0)) (md' := mX11_isSlot) 4 dX11_associate_1 tw_937 zs_X11_isSlot (s_X11_isSlot B h _) rfl rfl rfl rfl rfl rfl rfl rfl (zk_f ?_)
  refine zb_eq 7 24 dX11_associate_4 (by decide) rfl (fun zzA => ?_) (fun zzA => ?_)
  ·
    have zzA := Decidable.not_not.mp (fun q => zzA (in_20.mpr q))
    refine zi_ldc 26 dX11_associate_24 tw_910 rfl ?_
    exact zr_int hZ dX11_associate_26 rfl rfl ⟨_, rfl, _, by rw [r_associate, if_pos (by first | exact Or.inl zzA | exact Or.inr (Or.inl zzB) | exact Or.inr (Or.inr (zzC)))], ⟨m, N0.1, K⟩, N0.2⟩
  ·
    have zzA := in_20.mp zzA
    refine zi_iload_n 8 dX11_associate_7 rfl rfl ?_
    refine zc_static (n' := (0, 0)) (md' := mX11_isSlot) 11 dX11_associate_8 tw_937 zs_X11_isSlot (s_X11_isSlot B h _) rfl rfl rfl rfl rfl rfl rfl rfl (zk_f ?_)
    refine zb_eq 14 24 dX11_associate_11 (by decide) rfl (fun zzB => ?_) (fun zzB => ?_)
    ·
      have zzB := Decidable.not_not.mp (fun q => zzB (in_20.mpr q))
      refine zi_ldc 26 dX11_associate_24 tw_910 rfl ?_
      exact zr_int hZ dX11_associate_26 rfl rfl ⟨_, rfl, _, by rw [r_associate, if_pos (by first | exact Or.inl zzA | exact Or.inr (Or.inl zzB) | exact Or.inr (Or.inr (zzC)))], ⟨m, N0.1, K⟩, N0.2⟩
    ·
      have zzB := in_20.mp zzB
      refine zi_iload_n 15 dX11_associate_14 rfl rfl ?_
      refine zi_i2l 16 dX11_associate_15 rfl ?_
      refine zi_lconst (v := 0) 17 dX11_associate_16 (by decide) rfl ?_
      refine zi_lconst (v := 1) 18 dX11_associate_17 (by decide) rfl ?_
      refine zc_static (n' := (0, 0)) (md' := mX11_in) 21 dX11_associate_18 tw_906 zs_X11_in (s_X11_in B h _ _ _) rfl rfl rfl rfl rfl rfl rfl rfl (zk_f ?_)
      refine zb_ne 24 27 dX11_associate_21 (by decide) rfl (fun zzC => ?_) (fun zzC => ?_)
      ·
        have zzC := in_2.mp zzC
        have zzO : ¬ (zOut t 20 ∨ zOut p 20 ∨ zOut w 2) := fun r => r.elim zzA (fun r => r.elim zzB zzC)
        obtain ⟨ti, hti, hti31, rfl⟩ := out_i (N := 20) (by decide) zzA
        obtain ⟨pj, hpj, hpj31, rfl⟩ := out_i (N := 20) (by decide) zzB
        rcases out_2 zzC with rfl | rfl
        ·
          refine zi_aload_n 28 dX11_associate_27 rfl rfl ?_
          refine zi_getfield 31 0 dX11_associate_28 zcl_X11 tw_863 rfl rfl N0.1.1 rfl rfl ?_
          refine zi_iload_n 32 dX11_associate_31 rfl rfl ?_
          rcases hsP : qSl s pj with _ | P
          ·
            refine zi_baload 33 dX11_associate_32 N0.1.2.1 (vp_in_nI (show pj < 20 by omega) (by decide)) rfl ?_
            rw [nI_clamp (Nat.lt_trans (show pj < 20 by omega) (by decide))]
            rw [show wH _ pj = kn (qSl s pj) from K.1 pj hpj, hsP, show kn none = 0 from rfl]
            refine zi_if_ne 36 42 dX11_associate_33 (by decide) rfl (fun c_33 => absurd c_33 (by decide)) (fun c_33 => ?_)
            refine zi_aload_n 37 dX11_associate_36 rfl rfl ?_
            refine zi_iconst (v := 1) 38 dX11_associate_37 (by decide) rfl ?_
            refine zc_virtual (n' := (0, 0)) (md' := mX11_finds) 41 dX11_associate_38 tw_911 zv_X11_finds zcl_X11 (s_X11_finds B h D hD _ N0.1 _) N0.1.1 rfl rfl rfl rfl rfl rfl rfl rfl (zk_i fun x1 h1 p1 => ?_)
            obtain ⟨rfl, n1⟩ := p1
            have N1 := rN_t N0 n1
            exact zr_int hZ dX11_associate_41 rfl rfl ⟨_, rfl, _, by rw [r_associate, if_neg zzO, nI_clamp hpj31, hsP, onS_n], ⟨_, N1.1, mQ_F _ K⟩, N1.2⟩
          ·
            have hVP := hs0.1 pj P hsP
            have eP := K.2.1 pj hpj P hsP
            refine zi_baload 33 dX11_associate_32 N0.1.2.1 (vp_in_nI (show pj < 20 by omega) (by decide)) rfl ?_
            rw [nI_clamp (Nat.lt_trans (show pj < 20 by omega) (by decide))]
            rw [show wH _ pj = kn (qSl s pj) from K.1 pj hpj, hsP, show kn (some P) = 1 from rfl]
            refine zi_if_ne 36 42 dX11_associate_33 (by decide) rfl (fun c_33 => ?_) (fun c_33 => absurd c_33 (by decide))
            refine zi_aload_n 43 dX11_associate_42 rfl rfl ?_
            refine zi_iconst (v := 0) 44 dX11_associate_43 (by decide) rfl ?_
            refine zi_iload_n 45 dX11_associate_44 rfl rfl ?_
            refine zc_virtual (n' := (0, 0)) (md' := mX11_load) 48 dX11_associate_45 tw_989 zv_X11_load zcl_X11 (s_X11_load B h D hD _ N0.1 0 pj (by omega) (by omega)) N0.1.1 rfl rfl rfl rfl rfl rfl rfl rfl (zk_v fun h2 n2 => ?_)
            have N2 := rN_t N0 n2
            obtain ⟨R3, N3, r0⟩ : ∃ R, rN B D (uR m R) h h2 ∧ ro R 0 = z4i P := ⟨_, N2, eP⟩
            refine zi_aload_n 49 dX11_associate_48 rfl rfl ?_
            refine zi_iload_n 50 dX11_associate_49 rfl rfl ?_
            refine zc_virtual (n' := (0, 0)) (md' := mX11_associateP) 53 dX11_associate_50 tw_1083 zv_X11_associateP zcl_X11 (s_X11_associateP0 B h2 D hD _ N3.1 P hVP.1 (i4l_m (zb_63 hVP.2) (by decide)) r0) N3.1.1 rfl rfl rfl rfl rfl rfl rfl rfl (zk_v fun h4 p4 => ?_)
            obtain ⟨R9, n4, t8, -⟩ := p4
            have N4 := rN_t N3 n4
            refine zi_aload_n 54 dX11_associate_53 rfl rfl ?_
            refine zi_iload_n 55 dX11_associate_54 rfl rfl ?_
            refine zi_iconst (v := 0) 56 dX11_associate_55 (by decide) rfl ?_
            refine zc_virtual (n' := (0, 0)) (md' := mX11_comes) 59 dX11_associate_56 tw_1043 zv_X11_comes zcl_X11 (s_X11_comesS B h4 D hD _ N4.1 ti 0 (by omega) (by decide) (asI 0 P) (i4V_as hVP).1 (V_63 (i4V_as hVP)) t8 (V_9 (i4V_as hVP))) N4.1.1 rfl rfl rfl rfl rfl rfl rfl rfl (zk_i fun x5 h5 p5 => ?_)
            obtain ⟨rfl, n5⟩ := p5
            have N5 := rN_t N4 n5
            exact zr_int hZ dX11_associate_59 rfl rfl ⟨_, rfl, _, by rw [r_associate, if_neg zzO, nI_clamp hpj31, hsP, onS_s, nI_clamp hti31], ⟨_, N5.1, mQ_F 0 (mQ_ho t8 K)⟩, N5.2⟩
        ·
          refine zi_aload_n 28 dX11_associate_27 rfl rfl ?_
          refine zi_getfield 31 0 dX11_associate_28 zcl_X11 tw_863 rfl rfl N0.1.1 rfl rfl ?_
          refine zi_iload_n 32 dX11_associate_31 rfl rfl ?_
          rcases hsP : qSl s pj with _ | P
          ·
            refine zi_baload 33 dX11_associate_32 N0.1.2.1 (vp_in_nI (show pj < 20 by omega) (by decide)) rfl ?_
            rw [nI_clamp (Nat.lt_trans (show pj < 20 by omega) (by decide))]
            rw [show wH _ pj = kn (qSl s pj) from K.1 pj hpj, hsP, show kn none = 0 from rfl]
            refine zi_if_ne 36 42 dX11_associate_33 (by decide) rfl (fun c_33 => absurd c_33 (by decide)) (fun c_33 => ?_)
            refine zi_aload_n 37 dX11_associate_36 rfl rfl ?_
            refine zi_iconst (v := 1) 38 dX11_associate_37 (by decide) rfl ?_
            refine zc_virtual (n' := (0, 0)) (md' := mX11_finds) 41 dX11_associate_38 tw_911 zv_X11_finds zcl_X11 (s_X11_finds B h D hD _ N0.1 _) N0.1.1 rfl rfl rfl rfl rfl rfl rfl rfl (zk_i fun x6 h6 p6 => ?_)
            obtain ⟨rfl, n6⟩ := p6
            have N6 := rN_t N0 n6
            exact zr_int hZ dX11_associate_41 rfl rfl ⟨_, rfl, _, by rw [r_associate, if_neg zzO, nI_clamp hpj31, hsP, onS_n], ⟨_, N6.1, mQ_F _ K⟩, N6.2⟩
          ·
            have hVP := hs0.1 pj P hsP
            have eP := K.2.1 pj hpj P hsP
            refine zi_baload 33 dX11_associate_32 N0.1.2.1 (vp_in_nI (show pj < 20 by omega) (by decide)) rfl ?_
            rw [nI_clamp (Nat.lt_trans (show pj < 20 by omega) (by decide))]
            rw [show wH _ pj = kn (qSl s pj) from K.1 pj hpj, hsP, show kn (some P) = 1 from rfl]
            refine zi_if_ne 36 42 dX11_associate_33 (by decide) rfl (fun c_33 => ?_) (fun c_33 => absurd c_33 (by decide))
            refine zi_aload_n 43 dX11_associate_42 rfl rfl ?_
            refine zi_iconst (v := 0) 44 dX11_associate_43 (by decide) rfl ?_
            refine zi_iload_n 45 dX11_associate_44 rfl rfl ?_
            refine zc_virtual (n' := (0, 0)) (md' := mX11_load) 48 dX11_associate_45 tw_989 zv_X11_load zcl_X11 (s_X11_load B h D hD _ N0.1 0 pj (by omega) (by omega)) N0.1.1 rfl rfl rfl rfl rfl rfl rfl rfl (zk_v fun h7 n7 => ?_)
            have N7 := rN_t N0 n7
            obtain ⟨R8, N8, r0⟩ : ∃ R, rN B D (uR m R) h h7 ∧ ro R 0 = z4i P := ⟨_, N7, eP⟩
            refine zi_aload_n 49 dX11_associate_48 rfl rfl ?_
            refine zi_iload_n 50 dX11_associate_49 rfl rfl ?_
            refine zc_virtual (n' := (0, 0)) (md' := mX11_associateP) 53 dX11_associate_50 tw_1083 zv_X11_associateP zcl_X11 (s_X11_associateP1 B h7 D hD _ N8.1 P hVP.1 (i4l_m (zb_63 hVP.2) (by decide)) r0) N8.1.1 rfl rfl rfl rfl rfl rfl rfl rfl (zk_v fun h9 p9 => ?_)
            obtain ⟨R9, n9, t8, -⟩ := p9
            have N9 := rN_t N8 n9
            refine zi_aload_n 54 dX11_associate_53 rfl rfl ?_
            refine zi_iload_n 55 dX11_associate_54 rfl rfl ?_
            refine zi_iconst (v := 0) 56 dX11_associate_55 (by decide) rfl ?_
            refine zc_virtual (n' := (0, 0)) (md' := mX11_comes) 59 dX11_associate_56 tw_1043 zv_X11_comes zcl_X11 (s_X11_comesS B h9 D hD _ N9.1 ti 0 (by omega) (by decide) (asI 1 P) (i4V_as hVP).1 (V_63 (i4V_as hVP)) t8 (V_9 (i4V_as hVP))) N9.1.1 rfl rfl rfl rfl rfl rfl rfl rfl (zk_i fun x10 h10 p10 => ?_)
            obtain ⟨rfl, n10⟩ := p10
            have N10 := rN_t N9 n10
            exact zr_int hZ dX11_associate_59 rfl rfl ⟨_, rfl, _, by rw [r_associate, if_neg zzO, nI_clamp hpj31, hsP, onS_s, nI_clamp hti31], ⟨_, N10.1, mQ_F 0 (mQ_ho t8 K)⟩, N10.2⟩
      ·
        have zzC := Decidable.not_not.mp (fun q => zzC (in_2.mpr q))
        refine zi_ldc 26 dX11_associate_24 tw_910 rfl ?_
        exact zr_int hZ dX11_associate_26 rfl rfl ⟨_, rfl, _, by rw [r_associate, if_pos (by first | exact Or.inl zzA | exact Or.inr (Or.inl zzB) | exact Or.inr (Or.inr (zzC)))], ⟨m, N0.1, K⟩, N0.2⟩

set_option maxHeartbeats 1000000 in
set_option maxRecDepth 100000 in
theorem s_X11_plain (B : zBB) (h : zHp) (D : Nat → Nat) (hD : zInj D) (s : zSt) (hs0 : okSt s) (hR : rRm B D s h) (t : Int32) (p : Int32) : zSpec mX11_plain B (2, 0, 0) [.ref (D 0), .int t, .int p] h (zPi (fun zx h' => ∃ s' : zSt, r_plain s t p = (zx, s') ∧ rRm B D s' h' ∧ rOd D h h')) := by
  refine zSpec.of (by decide) (Nat.le_of_ble_eq_true rfl) (fun X hZ => ?_)
  show zG X mX11_plain B (2, 0, 0) (0, 0) 0 [(0, .ref (D 0)), (1, .int t), (2, .int p)] [] h
  obtain ⟨m, M, K⟩ := hR
  have N0 := rN_r M
  refine zi_iload_n 1 dX11_plain_0 rfl rfl ?_
  refine zc_static (n' := (0, 0)) (md' := mX11_isSlot) 4 dX11_plain_1 tw_937 zs_X11_isSlot (s_X11_isSlot B h _) rfl rfl rfl rfl rfl rfl rfl rfl (zk_f ?_)
  refine zb_eq 7 14 dX11_plain_4 (by decide) rfl (fun zzA => ?_) (fun zzA => ?_)
  ·
    have zzA := Decidable.not_not.mp (fun q => zzA (in_20.mpr q))
    refine zi_ldc 16 dX11_plain_14 tw_910 rfl ?_
    exact zr_int hZ dX11_plain_16 rfl rfl ⟨_, rfl, _, by rw [r_plain, if_pos (by first | exact Or.inl zzA | exact Or.inr (zzB))], ⟨m, N0.1, K⟩, N0.2⟩
  ·
    have zzA := in_20.mp zzA
    refine zi_iload_n 8 dX11_plain_7 rfl rfl ?_
    refine zc_static (n' := (0, 0)) (md' := mX11_isSlot) 11 dX11_plain_8 tw_937 zs_X11_isSlot (s_X11_isSlot B h _) rfl rfl rfl rfl rfl rfl rfl rfl (zk_f ?_)
    refine zb_ne 14 17 dX11_plain_11 (by decide) rfl (fun zzB => ?_) (fun zzB => ?_)
    ·
      have zzB := in_20.mp zzB
      have zzO : ¬ (zOut t 20 ∨ zOut p 20) := fun r => r.elim zzA zzB
      obtain ⟨ti, hti, hti31, rfl⟩ := out_i (N := 20) (by decide) zzA
      obtain ⟨pj, hpj, hpj31, rfl⟩ := out_i (N := 20) (by decide) zzB
      refine zi_aload_n 18 dX11_plain_17 rfl rfl ?_
      refine zi_getfield 21 0 dX11_plain_18 zcl_X11 tw_863 rfl rfl N0.1.1 rfl rfl ?_
      refine zi_iload_n 22 dX11_plain_21 rfl rfl ?_
      rcases hsP : qSl s pj with _ | P
      ·
        refine zi_baload 23 dX11_plain_22 N0.1.2.1 (vp_in_nI (show pj < 20 by omega) (by decide)) rfl ?_
        rw [nI_clamp (Nat.lt_trans (show pj < 20 by omega) (by decide))]
        rw [show wH _ pj = kn (qSl s pj) from K.1 pj hpj, hsP, show kn none = 0 from rfl]
        refine zi_if_ne 26 32 dX11_plain_23 (by decide) rfl (fun c_23 => absurd c_23 (by decide)) (fun c_23 => ?_)
        refine zi_aload_n 27 dX11_plain_26 rfl rfl ?_
        refine zi_iconst (v := 1) 28 dX11_plain_27 (by decide) rfl ?_
        refine zc_virtual (n' := (0, 0)) (md' := mX11_finds) 31 dX11_plain_28 tw_911 zv_X11_finds zcl_X11 (s_X11_finds B h D hD _ N0.1 _) N0.1.1 rfl rfl rfl rfl rfl rfl rfl rfl (zk_i fun x1 h1 p1 => ?_)
        obtain ⟨rfl, n1⟩ := p1
        have N1 := rN_t N0 n1
        exact zr_int hZ dX11_plain_31 rfl rfl ⟨_, rfl, _, by rw [r_plain, if_neg zzO, nI_clamp hpj31, hsP, onS_n], ⟨_, N1.1, mQ_F _ K⟩, N1.2⟩
      ·
        have hVP := hs0.1 pj P hsP
        have eP := K.2.1 pj hpj P hsP
        refine zi_baload 23 dX11_plain_22 N0.1.2.1 (vp_in_nI (show pj < 20 by omega) (by decide)) rfl ?_
        rw [nI_clamp (Nat.lt_trans (show pj < 20 by omega) (by decide))]
        rw [show wH _ pj = kn (qSl s pj) from K.1 pj hpj, hsP, show kn (some P) = 1 from rfl]
        refine zi_if_ne 26 32 dX11_plain_23 (by decide) rfl (fun c_23 => ?_) (fun c_23 => absurd c_23 (by decide))
        refine zi_aload_n 33 dX11_plain_32 rfl rfl ?_
        refine zi_iconst (v := 0) 34 dX11_plain_33 (by decide) rfl ?_
        refine zi_iload_n 35 dX11_plain_34 rfl rfl ?_
        refine zc_virtual (n' := (0, 0)) (md' := mX11_load) 38 dX11_plain_35 tw_989 zv_X11_load zcl_X11 (s_X11_load B h D hD _ N0.1 0 pj (by omega) (by omega)) N0.1.1 rfl rfl rfl rfl rfl rfl rfl rfl (zk_v fun h2 n2 => ?_)
        have N2 := rN_t N0 n2
        obtain ⟨R3, N3, r0⟩ : ∃ R, rN B D (uR m R) h h2 ∧ ro R 0 = z4i P := ⟨_, N2, eP⟩
        refine zi_aload_n 39 dX11_plain_38 rfl rfl ?_
        refine zi_iconst (v := 0) 40 dX11_plain_39 (by decide) rfl ?_
        refine zc_virtual (n' := (0, 0)) (md' := mX11_isNought) 43 dX11_plain_40 tw_962 zv_X11_isNought zcl_X11 (s_X11_isNought B h2 D hD _ N3.1 0 (by omega)) N3.1.1 rfl rfl rfl rfl rfl rfl rfl rfl (zk_f ?_)
        refine zb_eq 46 49 dX11_plain_43 (by decide) rfl (fun zzZ => ?_) (fun zzZ => ?_)
        ·
          rw [show ro (wR (uR m R3)) 0 = z4i P from r0, z4i_nil (zb_63 hVP.2)] at zzZ
          have w0 : ¬ lN (wh P) = 0 := by rw [lN_0e (wh_63 hVP)]; have := (wh_le hVP zzZ).1; omega
          refine zi_aload_n 50 dX11_plain_49 rfl rfl ?_
          refine zi_iconst (v := 0) 51 dX11_plain_50 (by decide) rfl ?_
          refine zc_virtual (n' := (0, 0)) (md' := mX11_greatestWhole) 54 dX11_plain_51 tw_966 zv_X11_greatestWhole zcl_X11 (s_X11_greatestWhole B h2 D hD _ N3.1 0 (by omega) P hVP zzZ r0) N3.1.1 rfl rfl rfl rfl rfl rfl rfl rfl (zk_f ?_)
          refine zi_lstore_n (lv' := [(3, _), (0, _), (1, _), (2, _)]) 55 dX11_plain_54 rfl rfl rfl ?_
          refine zi_aload_n 56 dX11_plain_55 rfl rfl ?_
          refine zi_iconst (v := 0) 57 dX11_plain_56 (by decide) rfl ?_
          refine zi_aload_n 58 dX11_plain_57 rfl rfl ?_
          refine zi_getfield 61 9 dX11_plain_58 zcl_X11 tw_872 rfl rfl N3.1.1 rfl rfl ?_
          refine zi_iconst (v := 0) 62 dX11_plain_61 (by decide) rfl ?_
          refine zi_laload 63 dX11_plain_62 N3.1.2.2.2.2.2.2.2.2.1 (vp_in_nI (show 0 < 80 by decide) (by decide)) rfl ?_
          rw [show Int32.toNatClampNeg 0 = 0 from rfl]
          rw [show wR (uR m R3) 0 = iz P.1 from congrArg (fun v : z4 => v.1) r0]
          refine zi_lload_n 64 dX11_plain_63 rfl rfl ?_
          refine zi_ldiv 65 dX11_plain_64 w0 rfl ?_
          refine zi_aload_n 66 dX11_plain_65 rfl rfl ?_
          refine zi_getfield 69 9 dX11_plain_66 zcl_X11 tw_872 rfl rfl N3.1.1 rfl rfl ?_
          refine zi_iconst (v := 1) 70 dX11_plain_69 (by decide) rfl ?_
          refine zi_laload 71 dX11_plain_70 N3.1.2.2.2.2.2.2.2.2.1 (vp_in_nI (show 1 < 80 by decide) (by decide)) rfl ?_
          rw [show Int32.toNatClampNeg 1 = 1 from rfl]
          rw [show wR (uR m R3) 1 = iz P.2.1 from congrArg (fun v : z4 => v.2.1) r0]
          refine zi_lload_n 72 dX11_plain_71 rfl rfl ?_
          refine zi_ldiv 73 dX11_plain_72 w0 rfl ?_
          refine zi_aload_n 74 dX11_plain_73 rfl rfl ?_
          refine zi_getfield 77 9 dX11_plain_74 zcl_X11 tw_872 rfl rfl N3.1.1 rfl rfl ?_
          refine zi_iconst (v := 2) 78 dX11_plain_77 (by decide) rfl ?_
          refine zi_laload 79 dX11_plain_78 N3.1.2.2.2.2.2.2.2.2.1 (vp_in_nI (show 2 < 80 by decide) (by decide)) rfl ?_
          rw [show Int32.toNatClampNeg 2 = 2 from rfl]
          rw [show wR (uR m R3) 2 = iz P.2.2.1 from congrArg (fun v : z4 => v.2.2.1) r0]
          refine zi_lload_n 80 dX11_plain_79 rfl rfl ?_
          refine zi_ldiv 81 dX11_plain_80 w0 rfl ?_
          refine zi_aload_n 82 dX11_plain_81 rfl rfl ?_
          refine zi_getfield 85 9 dX11_plain_82 zcl_X11 tw_872 rfl rfl N3.1.1 rfl rfl ?_
          refine zi_iconst (v := 3) 86 dX11_plain_85 (by decide) rfl ?_
          refine zi_laload 87 dX11_plain_86 N3.1.2.2.2.2.2.2.2.2.1 (vp_in_nI (show 3 < 80 by decide) (by decide)) rfl ?_
          rw [show Int32.toNatClampNeg 3 = 3 from rfl]
          rw [show wR (uR m R3) 3 = iz P.2.2.2 from congrArg (fun v : z4 => v.2.2.2) r0]
          refine zi_lload_n 88 dX11_plain_87 rfl rfl ?_
          refine zi_ldiv 89 dX11_plain_88 w0 rfl ?_
          refine zc_virtual (n' := (0, 0)) (md' := mX11_put) 92 dX11_plain_89 tw_944 zv_X11_put zcl_X11 (s_X11_put B h2 D hD _ N3.1 0 (by decide) (_, _, _, _)) N3.1.1 rfl rfl rfl rfl rfl rfl rfl rfl (zk_v fun h4 n4 => ?_)
          have N4 := rN_t N3 n4
          obtain ⟨R5, N5, t0⟩ : ∃ R, rN B D (uR m R) h h4 ∧ ro R 0 = z4i (i4d P (wh P)) := ⟨_, N4, V_dz hVP zzZ⟩
          refine zi_aload_n 93 dX11_plain_92 rfl rfl ?_
          refine zi_iload_n 94 dX11_plain_93 rfl rfl ?_
          refine zi_iconst (v := 0) 95 dX11_plain_94 (by decide) rfl ?_
          refine zc_virtual (n' := (0, 0)) (md' := mX11_hold) 98 dX11_plain_95 tw_954 zv_X11_hold zcl_X11 (s_X11_hold B h4 D hD _ N5.1 ti 0 (by omega) (by omega)) N5.1.1 rfl rfl rfl rfl rfl rfl rfl rfl (zk_v fun h6 n6 => ?_)
          have N6 := rN_t N5 n6
          refine zi_aload_n 99 dX11_plain_98 rfl rfl ?_
          refine zi_lload_n 100 dX11_plain_99 rfl rfl ?_
          refine zi_l2i 101 dX11_plain_100 rfl ?_
          rw [lN_i]
          refine zc_virtual (n' := (0, 0)) (md' := mX11_well) 104 dX11_plain_101 tw_916 zv_X11_well zcl_X11 (s_X11_well B h6 D hD _ N6.1 _) N6.1.1 rfl rfl rfl rfl rfl rfl rfl rfl (zk_i fun x7 h7 p7 => ?_)
          obtain ⟨rfl, n7⟩ := p7
          have N7 := rN_t N6 n7
          exact zr_int hZ dX11_plain_104 rfl rfl ⟨_, rfl, _, by rw [r_plain, if_neg zzO, nI_clamp hpj31, hsP, onS_s, if_neg zzZ, nI_clamp hti31], ⟨_, N7.1, mQ_F 0 (mQ_ho t0 K)⟩, N7.2⟩
        ·
          rw [show ro (wR (uR m R3)) 0 = z4i P from r0, z4i_nil (zb_63 hVP.2)] at zzZ
          refine zi_ldc 48 dX11_plain_46 tw_1063 rfl ?_
          exact zr_int hZ dX11_plain_48 rfl rfl ⟨_, rfl, _, by rw [r_plain, if_neg zzO, nI_clamp hpj31, hsP, onS_s, if_pos zzZ], ⟨_, N3.1, K⟩, N3.2⟩
    ·
      have zzB := Decidable.not_not.mp (fun q => zzB (in_20.mpr q))
      refine zi_ldc 16 dX11_plain_14 tw_910 rfl ?_
      exact zr_int hZ dX11_plain_16 rfl rfl ⟨_, rfl, _, by rw [r_plain, if_pos (by first | exact Or.inl zzA | exact Or.inr (zzB))], ⟨m, N0.1, K⟩, N0.2⟩

set_option maxHeartbeats 1000000 in
set_option maxRecDepth 100000 in
theorem s_X11_over (B : zBB) (h : zHp) (D : Nat → Nat) (hD : zInj D) (s : zSt) (hs0 : okSt s) (hR : rRm B D s h) (t : Int32) (r : Int32) (p : Int32) (q : Int32) (w : Int32) : zSpec mX11_over B (3, 0, 0) [.ref (D 0), .int t, .int r, .int p, .int q, .int w] h (zPi (fun zx h' => ∃ s' : zSt, r_over s t r p q w = (zx, s') ∧ rRm B D s' h' ∧ rOd D h h')) := by
  refine zSpec.of (by decide) (Nat.le_of_ble_eq_true rfl) (fun X hZ => ?_)
  show zG X mX11_over B (3, 0, 0) (0, 0) 0 [(0, .ref (D 0)), (1, .int t), (2, .int r), (3, .int p), (4, .int q), (5, .int w)] [] h
  obtain ⟨m, M, K⟩ := hR
  have N0 := rN_r M
  refine zi_iload_n 1 dX11_over_0 rfl rfl ?_
  refine zc_static (n' := (0, 0)) (md' := mX11_isSlot) 4 dX11_over_1 tw_937 zs_X11_isSlot (s_X11_isSlot B h _) rfl rfl rfl rfl rfl rfl rfl rfl (zk_f ?_)
  refine zb_eq 7 40 dX11_over_4 (by decide) rfl (fun zzA => ?_) (fun zzA => ?_)
  ·
    have zzA := Decidable.not_not.mp (fun q => zzA (in_20.mpr q))
    refine zi_ldc 42 dX11_over_40 tw_910 rfl ?_
    exact zr_int hZ dX11_over_42 rfl rfl ⟨_, rfl, _, by rw [r_over, if_pos (by first | exact Or.inl zzA | exact Or.inr (Or.inl zzB) | exact Or.inr (Or.inr (Or.inl zzC)) | exact Or.inr (Or.inr (Or.inr (Or.inl zzD))) | exact Or.inr (Or.inr (Or.inr (Or.inr (zzE)))))], ⟨m, N0.1, K⟩, N0.2⟩
  ·
    have zzA := in_20.mp zzA
    refine zi_iload_n 8 dX11_over_7 rfl rfl ?_
    refine zc_static (n' := (0, 0)) (md' := mX11_isSlot) 11 dX11_over_8 tw_937 zs_X11_isSlot (s_X11_isSlot B h _) rfl rfl rfl rfl rfl rfl rfl rfl (zk_f ?_)
    refine zb_eq 14 40 dX11_over_11 (by decide) rfl (fun zzB => ?_) (fun zzB => ?_)
    ·
      have zzB := Decidable.not_not.mp (fun q => zzB (in_20.mpr q))
      refine zi_ldc 42 dX11_over_40 tw_910 rfl ?_
      exact zr_int hZ dX11_over_42 rfl rfl ⟨_, rfl, _, by rw [r_over, if_pos (by first | exact Or.inl zzA | exact Or.inr (Or.inl zzB) | exact Or.inr (Or.inr (Or.inl zzC)) | exact Or.inr (Or.inr (Or.inr (Or.inl zzD))) | exact Or.inr (Or.inr (Or.inr (Or.inr (zzE)))))], ⟨m, N0.1, K⟩, N0.2⟩
    ·
      have zzB := in_20.mp zzB
      refine zi_iload_n 15 dX11_over_14 rfl rfl ?_
      refine zc_static (n' := (0, 0)) (md' := mX11_isSlot) 18 dX11_over_15 tw_937 zs_X11_isSlot (s_X11_isSlot B h _) rfl rfl rfl rfl rfl rfl rfl rfl (zk_f ?_)
      refine zb_eq 21 40 dX11_over_18 (by decide) rfl (fun zzC => ?_) (fun zzC => ?_)
      ·
        have zzC := Decidable.not_not.mp (fun q => zzC (in_20.mpr q))
        refine zi_ldc 42 dX11_over_40 tw_910 rfl ?_
        exact zr_int hZ dX11_over_42 rfl rfl ⟨_, rfl, _, by rw [r_over, if_pos (by first | exact Or.inl zzA | exact Or.inr (Or.inl zzB) | exact Or.inr (Or.inr (Or.inl zzC)) | exact Or.inr (Or.inr (Or.inr (Or.inl zzD))) | exact Or.inr (Or.inr (Or.inr (Or.inr (zzE)))))], ⟨m, N0.1, K⟩, N0.2⟩
      ·
        have zzC := in_20.mp zzC
        refine zi_iload 23 dX11_over_21 rfl rfl ?_
        refine zc_static (n' := (0, 0)) (md' := mX11_isSlot) 26 dX11_over_23 tw_937 zs_X11_isSlot (s_X11_isSlot B h _) rfl rfl rfl rfl rfl rfl rfl rfl (zk_f ?_)
        refine zb_eq 29 40 dX11_over_26 (by decide) rfl (fun zzD => ?_) (fun zzD => ?_)
        ·
          have zzD := Decidable.not_not.mp (fun q => zzD (in_20.mpr q))
          refine zi_ldc 42 dX11_over_40 tw_910 rfl ?_
          exact zr_int hZ dX11_over_42 rfl rfl ⟨_, rfl, _, by rw [r_over, if_pos (by first | exact Or.inl zzA | exact Or.inr (Or.inl zzB) | exact Or.inr (Or.inr (Or.inl zzC)) | exact Or.inr (Or.inr (Or.inr (Or.inl zzD))) | exact Or.inr (Or.inr (Or.inr (Or.inr (zzE)))))], ⟨m, N0.1, K⟩, N0.2⟩
        ·
          have zzD := in_20.mp zzD
          refine zi_iload 31 dX11_over_29 rfl rfl ?_
          refine zi_i2l 32 dX11_over_31 rfl ?_
          refine zi_lconst (v := 0) 33 dX11_over_32 (by decide) rfl ?_
          refine zi_lconst (v := 1) 34 dX11_over_33 (by decide) rfl ?_
          refine zc_static (n' := (0, 0)) (md' := mX11_in) 37 dX11_over_34 tw_906 zs_X11_in (s_X11_in B h _ _ _) rfl rfl rfl rfl rfl rfl rfl rfl (zk_f ?_)
          refine zb_ne 40 43 dX11_over_37 (by decide) rfl (fun zzE => ?_) (fun zzE => ?_)
          ·
            have zzE := in_2.mp zzE
            have zzO : ¬ (zOut t 20 ∨ zOut r 20 ∨ zOut p 20 ∨ zOut q 20 ∨ zOut w 2) := fun r => r.elim zzA (fun r => r.elim zzB (fun r => r.elim zzC (fun r => r.elim zzD zzE)))
            obtain ⟨ti, hti, hti31, rfl⟩ := out_i (N := 20) (by decide) zzA
            obtain ⟨ri, hri, hri31, rfl⟩ := out_i (N := 20) (by decide) zzB
            obtain ⟨pj, hpj, hpj31, rfl⟩ := out_i (N := 20) (by decide) zzC
            obtain ⟨qj, hqj, hqj31, rfl⟩ := out_i (N := 20) (by decide) zzD
            rcases out_2 zzE with rfl | rfl
            ·
              refine zi_aload_n 44 dX11_over_43 rfl rfl ?_
              refine zi_getfield 47 0 dX11_over_44 zcl_X11 tw_863 rfl rfl N0.1.1 rfl rfl ?_
              refine zi_iload_n 48 dX11_over_47 rfl rfl ?_
              rcases hsP : qSl s pj with _ | P
              ·
                refine zi_baload 49 dX11_over_48 N0.1.2.1 (vp_in_nI (show pj < 20 by omega) (by decide)) rfl ?_
                rw [nI_clamp (Nat.lt_trans (show pj < 20 by omega) (by decide))]
                rw [show wH _ pj = kn (qSl s pj) from K.1 pj hpj, hsP, show kn none = 0 from rfl]
                refine zi_if_eq 52 62 dX11_over_49 (by decide) rfl (fun c_49 => ?_) (fun c_49 => absurd c_49 (by decide))
                refine zi_aload_n 63 dX11_over_62 rfl rfl ?_
                refine zi_iconst (v := 1) 64 dX11_over_63 (by decide) rfl ?_
                refine zc_virtual (n' := (0, 0)) (md' := mX11_finds) 67 dX11_over_64 tw_911 zv_X11_finds zcl_X11 (s_X11_finds B h D hD _ N0.1 _) N0.1.1 rfl rfl rfl rfl rfl rfl rfl rfl (zk_i fun x1 h1 p1 => ?_)
                obtain ⟨rfl, n1⟩ := p1
                have N1 := rN_t N0 n1
                exact zr_int hZ dX11_over_67 rfl rfl ⟨_, rfl, _, by rw [r_over, if_neg zzO, nI_clamp hpj31, hsP]; first | rw [onS_n] | rw [onS_s, nI_clamp hqj31, hsQ, onS_n], ⟨_, N1.1, mQ_F _ K⟩, N1.2⟩
              ·
                have hVP := hs0.1 pj P hsP
                have eP := K.2.1 pj hpj P hsP
                refine zi_baload 49 dX11_over_48 N0.1.2.1 (vp_in_nI (show pj < 20 by omega) (by decide)) rfl ?_
                rw [nI_clamp (Nat.lt_trans (show pj < 20 by omega) (by decide))]
                rw [show wH _ pj = kn (qSl s pj) from K.1 pj hpj, hsP, show kn (some P) = 1 from rfl]
                refine zi_if_eq 52 62 dX11_over_49 (by decide) rfl (fun c_49 => absurd c_49 (by decide)) (fun c_49 => ?_)
                refine zi_aload_n 53 dX11_over_52 rfl rfl ?_
                refine zi_getfield 56 0 dX11_over_53 zcl_X11 tw_863 rfl rfl N0.1.1 rfl rfl ?_
                refine zi_iload 58 dX11_over_56 rfl rfl ?_
                rcases hsQ : qSl s qj with _ | Q
                ·
                  refine zi_baload 59 dX11_over_58 N0.1.2.1 (vp_in_nI (show qj < 20 by omega) (by decide)) rfl ?_
                  rw [nI_clamp (Nat.lt_trans (show qj < 20 by omega) (by decide))]
                  rw [show wH _ qj = kn (qSl s qj) from K.1 qj hqj, hsQ, show kn none = 0 from rfl]
                  refine zi_if_ne 62 68 dX11_over_59 (by decide) rfl (fun c_59 => absurd c_59 (by decide)) (fun c_59 => ?_)
                  refine zi_aload_n 63 dX11_over_62 rfl rfl ?_
                  refine zi_iconst (v := 1) 64 dX11_over_63 (by decide) rfl ?_
                  refine zc_virtual (n' := (0, 0)) (md' := mX11_finds) 67 dX11_over_64 tw_911 zv_X11_finds zcl_X11 (s_X11_finds B h D hD _ N0.1 _) N0.1.1 rfl rfl rfl rfl rfl rfl rfl rfl (zk_i fun x2 h2 p2 => ?_)
                  obtain ⟨rfl, n2⟩ := p2
                  have N2 := rN_t N0 n2
                  exact zr_int hZ dX11_over_67 rfl rfl ⟨_, rfl, _, by rw [r_over, if_neg zzO, nI_clamp hpj31, hsP]; first | rw [onS_n] | rw [onS_s, nI_clamp hqj31, hsQ, onS_n], ⟨_, N2.1, mQ_F _ K⟩, N2.2⟩
                ·
                  have hVQ := hs0.1 qj Q hsQ
                  have eQ := K.2.1 qj hqj Q hsQ
                  refine zi_baload 59 dX11_over_58 N0.1.2.1 (vp_in_nI (show qj < 20 by omega) (by decide)) rfl ?_
                  rw [nI_clamp (Nat.lt_trans (show qj < 20 by omega) (by decide))]
                  rw [show wH _ qj = kn (qSl s qj) from K.1 qj hqj, hsQ, show kn (some Q) = 1 from rfl]
                  refine zi_if_ne 62 68 dX11_over_59 (by decide) rfl (fun c_59 => ?_) (fun c_59 => absurd c_59 (by decide))
                  refine zi_aload_n 69 dX11_over_68 rfl rfl ?_
                  refine zi_iconst (v := 0) 70 dX11_over_69 (by decide) rfl ?_
                  refine zi_iload_n 71 dX11_over_70 rfl rfl ?_
                  refine zc_virtual (n' := (0, 0)) (md' := mX11_load) 74 dX11_over_71 tw_989 zv_X11_load zcl_X11 (s_X11_load B h D hD _ N0.1 0 pj (by omega) (by omega)) N0.1.1 rfl rfl rfl rfl rfl rfl rfl rfl (zk_v fun h3 n3 => ?_)
                  have N3 := rN_t N0 n3
                  refine zi_aload_n 75 dX11_over_74 rfl rfl ?_
                  refine zi_iconst (v := 4) 76 dX11_over_75 (by decide) rfl ?_
                  refine zi_iload 78 dX11_over_76 rfl rfl ?_
                  refine zc_virtual (n' := (0, 0)) (md' := mX11_load) 81 dX11_over_78 tw_989 zv_X11_load zcl_X11 (s_X11_load B h3 D hD _ N3.1 4 qj (by omega) (by omega)) N3.1.1 rfl rfl rfl rfl rfl rfl rfl rfl (zk_v fun h4 n4 => ?_)
                  have N4 := rN_t N3 n4
                  obtain ⟨R5, N5, r0, r4⟩ : ∃ R, rN B D (uR m R) h h4 ∧ ro R 0 = z4i P ∧ ro R 4 = z4i Q := ⟨_, N4, eP, eQ⟩
                  refine zi_aload_n 82 dX11_over_81 rfl rfl ?_
                  refine zi_iconst (v := 4) 83 dX11_over_82 (by decide) rfl ?_
                  refine zc_virtual (n' := (0, 0)) (md' := mX11_isNought) 86 dX11_over_83 tw_962 zv_X11_isNought zcl_X11 (s_X11_isNought B h4 D hD _ N5.1 4 (by omega)) N5.1.1 rfl rfl rfl rfl rfl rfl rfl rfl (zk_f ?_)
                  refine zb_eq 89 92 dX11_over_86 (by decide) rfl (fun zzZ => ?_) (fun zzZ => ?_)
                  ·
                    rw [show ro (wR (uR m R5)) 4 = z4i Q from r4, z4i_nil (zb_63 hVQ.2)] at zzZ
                    refine zi_aload_n 93 dX11_over_92 rfl rfl ?_
                    refine zi_iload 95 dX11_over_93 rfl rfl ?_
                    refine zc_virtual (n' := (0, 0)) (md' := mX11_divide) 98 dX11_over_95 tw_1064 zv_X11_divide zcl_X11 (s_X11_divide0 B h4 D hD _ N5.1 P Q ⟨hVP.1, hVQ.1, zqpos zzZ, Or.inl ⟨hVQ.2, i4l_m (zb_63 hVP.2) (by decide)⟩⟩ r0 r4) N5.1.1 rfl rfl rfl rfl rfl rfl rfl rfl (zk_v fun h6 p6 => ?_)
                    obtain ⟨R9, n6, tT, tR, -⟩ := p6
                    have N6 := rN_t N5 n6
                    obtain ⟨VT, VR⟩ := dvT_V (s := 0) hVP hVQ (zqpos zzZ)
                    refine zi_aload_n 99 dX11_over_98 rfl rfl ?_
                    refine zi_iload_n 100 dX11_over_99 rfl rfl ?_
                    refine zi_bipush (v := 12) 102 dX11_over_100 (by decide) rfl ?_
                    refine zc_virtual (n' := (0, 0)) (md' := mX11_hold) 105 dX11_over_102 tw_954 zv_X11_hold zcl_X11 (s_X11_hold B h6 D hD _ N6.1 ri 12 (by omega) (by omega)) N6.1.1 rfl rfl rfl rfl rfl rfl rfl rfl (zk_v fun h7 n7 => ?_)
                    have N7 := rN_t N6 n7
                    refine zi_aload_n 106 dX11_over_105 rfl rfl ?_
                    refine zi_iload_n 107 dX11_over_106 rfl rfl ?_
                    refine zi_bipush (v := 8) 109 dX11_over_107 (by decide) rfl ?_
                    refine zc_virtual (n' := (0, 0)) (md' := mX11_hold) 112 dX11_over_109 tw_954 zv_X11_hold zcl_X11 (s_X11_hold B h7 D hD _ N7.1 ti 8 (by omega) (by omega)) N7.1.1 rfl rfl rfl rfl rfl rfl rfl rfl (zk_v fun h8 n8 => ?_)
                    have N8 := rN_t N7 n8
                    refine zi_aload_n 113 dX11_over_112 rfl rfl ?_
                    refine zi_aload_n 114 dX11_over_113 rfl rfl ?_
                    refine zi_bipush (v := 12) 116 dX11_over_114 (by decide) rfl ?_
                    refine zc_virtual (n' := (0, 0)) (md' := mX11_norm4) 119 dX11_over_116 tw_948 zv_X11_norm4 zcl_X11 (s_X11_norm4 B h8 D hD _ N8.1 12 (by omega)) N8.1.1 rfl rfl rfl rfl rfl rfl rfl rfl (zk_f ?_)
                    rw [show zNm (ro (wR (uHo (uHo (uR m R9) ri 12) ti 8)) 12) = lN (nN (dvR P Q 0)) from (congrArg zNm tR).trans (nN_z VR)]
                    refine zi_l2i 120 dX11_over_119 rfl ?_
                    rw [lN_i]
                    refine zc_virtual (n' := (0, 0)) (md' := mX11_well) 123 dX11_over_120 tw_916 zv_X11_well zcl_X11 (s_X11_well B h8 D hD _ N8.1 _) N8.1.1 rfl rfl rfl rfl rfl rfl rfl rfl (zk_i fun x9 h9 p9 => ?_)
                    obtain ⟨rfl, n9⟩ := p9
                    have N9 := rN_t N8 n9
                    exact zr_int hZ dX11_over_123 rfl rfl ⟨_, rfl, _, by rw [r_over, if_neg zzO, nI_clamp hpj31, hsP, onS_s, nI_clamp hqj31, hsQ, onS_s, if_neg zzZ, nI_clamp hri31, nI_clamp hti31], ⟨_, N9.1, mQ_F 0 (mQ_ho tT (mQ_ho tR K))⟩, N9.2⟩
                  ·
                    rw [show ro (wR (uR m R5)) 4 = z4i Q from r4, z4i_nil (zb_63 hVQ.2)] at zzZ
                    refine zi_ldc 91 dX11_over_89 tw_1063 rfl ?_
                    exact zr_int hZ dX11_over_91 rfl rfl ⟨_, rfl, _, by rw [r_over, if_neg zzO, nI_clamp hpj31, hsP, onS_s, nI_clamp hqj31, hsQ, onS_s, if_pos zzZ], ⟨_, N5.1, K⟩, N5.2⟩
            ·
              refine zi_aload_n 44 dX11_over_43 rfl rfl ?_
              refine zi_getfield 47 0 dX11_over_44 zcl_X11 tw_863 rfl rfl N0.1.1 rfl rfl ?_
              refine zi_iload_n 48 dX11_over_47 rfl rfl ?_
              rcases hsP : qSl s pj with _ | P
              ·
                refine zi_baload 49 dX11_over_48 N0.1.2.1 (vp_in_nI (show pj < 20 by omega) (by decide)) rfl ?_
                rw [nI_clamp (Nat.lt_trans (show pj < 20 by omega) (by decide))]
                rw [show wH _ pj = kn (qSl s pj) from K.1 pj hpj, hsP, show kn none = 0 from rfl]
                refine zi_if_eq 52 62 dX11_over_49 (by decide) rfl (fun c_49 => ?_) (fun c_49 => absurd c_49 (by decide))
                refine zi_aload_n 63 dX11_over_62 rfl rfl ?_
                refine zi_iconst (v := 1) 64 dX11_over_63 (by decide) rfl ?_
                refine zc_virtual (n' := (0, 0)) (md' := mX11_finds) 67 dX11_over_64 tw_911 zv_X11_finds zcl_X11 (s_X11_finds B h D hD _ N0.1 _) N0.1.1 rfl rfl rfl rfl rfl rfl rfl rfl (zk_i fun x10 h10 p10 => ?_)
                obtain ⟨rfl, n10⟩ := p10
                have N10 := rN_t N0 n10
                exact zr_int hZ dX11_over_67 rfl rfl ⟨_, rfl, _, by rw [r_over, if_neg zzO, nI_clamp hpj31, hsP]; first | rw [onS_n] | rw [onS_s, nI_clamp hqj31, hsQ, onS_n], ⟨_, N10.1, mQ_F _ K⟩, N10.2⟩
              ·
                have hVP := hs0.1 pj P hsP
                have eP := K.2.1 pj hpj P hsP
                refine zi_baload 49 dX11_over_48 N0.1.2.1 (vp_in_nI (show pj < 20 by omega) (by decide)) rfl ?_
                rw [nI_clamp (Nat.lt_trans (show pj < 20 by omega) (by decide))]
                rw [show wH _ pj = kn (qSl s pj) from K.1 pj hpj, hsP, show kn (some P) = 1 from rfl]
                refine zi_if_eq 52 62 dX11_over_49 (by decide) rfl (fun c_49 => absurd c_49 (by decide)) (fun c_49 => ?_)
                refine zi_aload_n 53 dX11_over_52 rfl rfl ?_
                refine zi_getfield 56 0 dX11_over_53 zcl_X11 tw_863 rfl rfl N0.1.1 rfl rfl ?_
                refine zi_iload 58 dX11_over_56 rfl rfl ?_
                rcases hsQ : qSl s qj with _ | Q
                ·
                  refine zi_baload 59 dX11_over_58 N0.1.2.1 (vp_in_nI (show qj < 20 by omega) (by decide)) rfl ?_
                  rw [nI_clamp (Nat.lt_trans (show qj < 20 by omega) (by decide))]
                  rw [show wH _ qj = kn (qSl s qj) from K.1 qj hqj, hsQ, show kn none = 0 from rfl]
                  refine zi_if_ne 62 68 dX11_over_59 (by decide) rfl (fun c_59 => absurd c_59 (by decide)) (fun c_59 => ?_)
                  refine zi_aload_n 63 dX11_over_62 rfl rfl ?_
                  refine zi_iconst (v := 1) 64 dX11_over_63 (by decide) rfl ?_
                  refine zc_virtual (n' := (0, 0)) (md' := mX11_finds) 67 dX11_over_64 tw_911 zv_X11_finds zcl_X11 (s_X11_finds B h D hD _ N0.1 _) N0.1.1 rfl rfl rfl rfl rfl rfl rfl rfl (zk_i fun x11 h11 p11 => ?_)
                  obtain ⟨rfl, n11⟩ := p11
                  have N11 := rN_t N0 n11
                  exact zr_int hZ dX11_over_67 rfl rfl ⟨_, rfl, _, by rw [r_over, if_neg zzO, nI_clamp hpj31, hsP]; first | rw [onS_n] | rw [onS_s, nI_clamp hqj31, hsQ, onS_n], ⟨_, N11.1, mQ_F _ K⟩, N11.2⟩
                ·
                  have hVQ := hs0.1 qj Q hsQ
                  have eQ := K.2.1 qj hqj Q hsQ
                  refine zi_baload 59 dX11_over_58 N0.1.2.1 (vp_in_nI (show qj < 20 by omega) (by decide)) rfl ?_
                  rw [nI_clamp (Nat.lt_trans (show qj < 20 by omega) (by decide))]
                  rw [show wH _ qj = kn (qSl s qj) from K.1 qj hqj, hsQ, show kn (some Q) = 1 from rfl]
                  refine zi_if_ne 62 68 dX11_over_59 (by decide) rfl (fun c_59 => ?_) (fun c_59 => absurd c_59 (by decide))
                  refine zi_aload_n 69 dX11_over_68 rfl rfl ?_
                  refine zi_iconst (v := 0) 70 dX11_over_69 (by decide) rfl ?_
                  refine zi_iload_n 71 dX11_over_70 rfl rfl ?_
                  refine zc_virtual (n' := (0, 0)) (md' := mX11_load) 74 dX11_over_71 tw_989 zv_X11_load zcl_X11 (s_X11_load B h D hD _ N0.1 0 pj (by omega) (by omega)) N0.1.1 rfl rfl rfl rfl rfl rfl rfl rfl (zk_v fun h12 n12 => ?_)
                  have N12 := rN_t N0 n12
                  refine zi_aload_n 75 dX11_over_74 rfl rfl ?_
                  refine zi_iconst (v := 4) 76 dX11_over_75 (by decide) rfl ?_
                  refine zi_iload 78 dX11_over_76 rfl rfl ?_
                  refine zc_virtual (n' := (0, 0)) (md' := mX11_load) 81 dX11_over_78 tw_989 zv_X11_load zcl_X11 (s_X11_load B h12 D hD _ N12.1 4 qj (by omega) (by omega)) N12.1.1 rfl rfl rfl rfl rfl rfl rfl rfl (zk_v fun h13 n13 => ?_)
                  have N13 := rN_t N12 n13
                  obtain ⟨R14, N14, r0, r4⟩ : ∃ R, rN B D (uR m R) h h13 ∧ ro R 0 = z4i P ∧ ro R 4 = z4i Q := ⟨_, N13, eP, eQ⟩
                  refine zi_aload_n 82 dX11_over_81 rfl rfl ?_
                  refine zi_iconst (v := 4) 83 dX11_over_82 (by decide) rfl ?_
                  refine zc_virtual (n' := (0, 0)) (md' := mX11_isNought) 86 dX11_over_83 tw_962 zv_X11_isNought zcl_X11 (s_X11_isNought B h13 D hD _ N14.1 4 (by omega)) N14.1.1 rfl rfl rfl rfl rfl rfl rfl rfl (zk_f ?_)
                  refine zb_eq 89 92 dX11_over_86 (by decide) rfl (fun zzZ => ?_) (fun zzZ => ?_)
                  ·
                    rw [show ro (wR (uR m R14)) 4 = z4i Q from r4, z4i_nil (zb_63 hVQ.2)] at zzZ
                    refine zi_aload_n 93 dX11_over_92 rfl rfl ?_
                    refine zi_iload 95 dX11_over_93 rfl rfl ?_
                    refine zc_virtual (n' := (0, 0)) (md' := mX11_divide) 98 dX11_over_95 tw_1064 zv_X11_divide zcl_X11 (s_X11_divide1 B h13 D hD _ N14.1 P Q ⟨hVP.1, hVQ.1, zqpos zzZ, Or.inl ⟨hVQ.2, i4l_m (zb_63 hVP.2) (by decide)⟩⟩ r0 r4) N14.1.1 rfl rfl rfl rfl rfl rfl rfl rfl (zk_v fun h15 p15 => ?_)
                    obtain ⟨R9, n15, tT, tR, -⟩ := p15
                    have N15 := rN_t N14 n15
                    obtain ⟨VT, VR⟩ := dvT_V (s := 1) hVP hVQ (zqpos zzZ)
                    refine zi_aload_n 99 dX11_over_98 rfl rfl ?_
                    refine zi_iload_n 100 dX11_over_99 rfl rfl ?_
                    refine zi_bipush (v := 12) 102 dX11_over_100 (by decide) rfl ?_
                    refine zc_virtual (n' := (0, 0)) (md' := mX11_hold) 105 dX11_over_102 tw_954 zv_X11_hold zcl_X11 (s_X11_hold B h15 D hD _ N15.1 ri 12 (by omega) (by omega)) N15.1.1 rfl rfl rfl rfl rfl rfl rfl rfl (zk_v fun h16 n16 => ?_)
                    have N16 := rN_t N15 n16
                    refine zi_aload_n 106 dX11_over_105 rfl rfl ?_
                    refine zi_iload_n 107 dX11_over_106 rfl rfl ?_
                    refine zi_bipush (v := 8) 109 dX11_over_107 (by decide) rfl ?_
                    refine zc_virtual (n' := (0, 0)) (md' := mX11_hold) 112 dX11_over_109 tw_954 zv_X11_hold zcl_X11 (s_X11_hold B h16 D hD _ N16.1 ti 8 (by omega) (by omega)) N16.1.1 rfl rfl rfl rfl rfl rfl rfl rfl (zk_v fun h17 n17 => ?_)
                    have N17 := rN_t N16 n17
                    refine zi_aload_n 113 dX11_over_112 rfl rfl ?_
                    refine zi_aload_n 114 dX11_over_113 rfl rfl ?_
                    refine zi_bipush (v := 12) 116 dX11_over_114 (by decide) rfl ?_
                    refine zc_virtual (n' := (0, 0)) (md' := mX11_norm4) 119 dX11_over_116 tw_948 zv_X11_norm4 zcl_X11 (s_X11_norm4 B h17 D hD _ N17.1 12 (by omega)) N17.1.1 rfl rfl rfl rfl rfl rfl rfl rfl (zk_f ?_)
                    rw [show zNm (ro (wR (uHo (uHo (uR m R9) ri 12) ti 8)) 12) = lN (nN (dvR P Q 1)) from (congrArg zNm tR).trans (nN_z VR)]
                    refine zi_l2i 120 dX11_over_119 rfl ?_
                    rw [lN_i]
                    refine zc_virtual (n' := (0, 0)) (md' := mX11_well) 123 dX11_over_120 tw_916 zv_X11_well zcl_X11 (s_X11_well B h17 D hD _ N17.1 _) N17.1.1 rfl rfl rfl rfl rfl rfl rfl rfl (zk_i fun x18 h18 p18 => ?_)
                    obtain ⟨rfl, n18⟩ := p18
                    have N18 := rN_t N17 n18
                    exact zr_int hZ dX11_over_123 rfl rfl ⟨_, rfl, _, by rw [r_over, if_neg zzO, nI_clamp hpj31, hsP, onS_s, nI_clamp hqj31, hsQ, onS_s, if_neg zzZ, nI_clamp hri31, nI_clamp hti31], ⟨_, N18.1, mQ_F 0 (mQ_ho tT (mQ_ho tR K))⟩, N18.2⟩
                  ·
                    rw [show ro (wR (uR m R14)) 4 = z4i Q from r4, z4i_nil (zb_63 hVQ.2)] at zzZ
                    refine zi_ldc 91 dX11_over_89 tw_1063 rfl ?_
                    exact zr_int hZ dX11_over_91 rfl rfl ⟨_, rfl, _, by rw [r_over, if_neg zzO, nI_clamp hpj31, hsP, onS_s, nI_clamp hqj31, hsQ, onS_s, if_pos zzZ], ⟨_, N14.1, K⟩, N14.2⟩
          ·
            have zzE := Decidable.not_not.mp (fun q => zzE (in_2.mpr q))
            refine zi_ldc 42 dX11_over_40 tw_910 rfl ?_
            exact zr_int hZ dX11_over_42 rfl rfl ⟨_, rfl, _, by rw [r_over, if_pos (by first | exact Or.inl zzA | exact Or.inr (Or.inl zzB) | exact Or.inr (Or.inr (Or.inl zzC)) | exact Or.inr (Or.inr (Or.inr (Or.inl zzD))) | exact Or.inr (Or.inr (Or.inr (Or.inr (zzE)))))], ⟨m, N0.1, K⟩, N0.2⟩

set_option maxHeartbeats 1000000 in
set_option maxRecDepth 100000 in
theorem s_X11_greatest (B : zBB) (h : zHp) (D : Nat → Nat) (hD : zInj D) (s : zSt) (hs0 : okSt s) (hR : rRm B D s h) (t : Int32) (p : Int32) (q : Int32) (w : Int32) : zSpec mX11_greatest B (4, 0, 0) [.ref (D 0), .int t, .int p, .int q, .int w] h (zPi (fun zx h' => ∃ s' : zSt, r_greatest s t p q w = (zx, s') ∧ rRm B D s' h' ∧ rOd D h h')) := by
  refine zSpec.of (by decide) (Nat.le_of_ble_eq_true rfl) (fun X hZ => ?_)
  show zG X mX11_greatest B (4, 0, 0) (0, 0) 0 [(0, .ref (D 0)), (1, .int t), (2, .int p), (3, .int q), (4, .int w)] [] h
  obtain ⟨m, M, K⟩ := hR
  have N0 := rN_r M
  refine zi_iload_n 1 dX11_greatest_0 rfl rfl ?_
  refine zc_static (n' := (0, 0)) (md' := mX11_isSlot) 4 dX11_greatest_1 tw_937 zs_X11_isSlot (s_X11_isSlot B h _) rfl rfl rfl rfl rfl rfl rfl rfl (zk_f ?_)
  refine zb_eq 7 32 dX11_greatest_4 (by decide) rfl (fun zzA => ?_) (fun zzA => ?_)
  ·
    have zzA := Decidable.not_not.mp (fun q => zzA (in_20.mpr q))
    refine zi_ldc 34 dX11_greatest_32 tw_910 rfl ?_
    exact zr_int hZ dX11_greatest_34 rfl rfl ⟨_, rfl, _, by rw [r_greatest, if_pos (by first | exact Or.inl zzA | exact Or.inr (Or.inl zzB) | exact Or.inr (Or.inr (Or.inl zzC)) | exact Or.inr (Or.inr (Or.inr (zzD))))], ⟨m, N0.1, K⟩, N0.2⟩
  ·
    have zzA := in_20.mp zzA
    refine zi_iload_n 8 dX11_greatest_7 rfl rfl ?_
    refine zc_static (n' := (0, 0)) (md' := mX11_isSlot) 11 dX11_greatest_8 tw_937 zs_X11_isSlot (s_X11_isSlot B h _) rfl rfl rfl rfl rfl rfl rfl rfl (zk_f ?_)
    refine zb_eq 14 32 dX11_greatest_11 (by decide) rfl (fun zzB => ?_) (fun zzB => ?_)
    ·
      have zzB := Decidable.not_not.mp (fun q => zzB (in_20.mpr q))
      refine zi_ldc 34 dX11_greatest_32 tw_910 rfl ?_
      exact zr_int hZ dX11_greatest_34 rfl rfl ⟨_, rfl, _, by rw [r_greatest, if_pos (by first | exact Or.inl zzA | exact Or.inr (Or.inl zzB) | exact Or.inr (Or.inr (Or.inl zzC)) | exact Or.inr (Or.inr (Or.inr (zzD))))], ⟨m, N0.1, K⟩, N0.2⟩
    ·
      have zzB := in_20.mp zzB
      refine zi_iload_n 15 dX11_greatest_14 rfl rfl ?_
      refine zc_static (n' := (0, 0)) (md' := mX11_isSlot) 18 dX11_greatest_15 tw_937 zs_X11_isSlot (s_X11_isSlot B h _) rfl rfl rfl rfl rfl rfl rfl rfl (zk_f ?_)
      refine zb_eq 21 32 dX11_greatest_18 (by decide) rfl (fun zzC => ?_) (fun zzC => ?_)
      ·
        have zzC := Decidable.not_not.mp (fun q => zzC (in_20.mpr q))
        refine zi_ldc 34 dX11_greatest_32 tw_910 rfl ?_
        exact zr_int hZ dX11_greatest_34 rfl rfl ⟨_, rfl, _, by rw [r_greatest, if_pos (by first | exact Or.inl zzA | exact Or.inr (Or.inl zzB) | exact Or.inr (Or.inr (Or.inl zzC)) | exact Or.inr (Or.inr (Or.inr (zzD))))], ⟨m, N0.1, K⟩, N0.2⟩
      ·
        have zzC := in_20.mp zzC
        refine zi_iload 23 dX11_greatest_21 rfl rfl ?_
        refine zi_i2l 24 dX11_greatest_23 rfl ?_
        refine zi_lconst (v := 0) 25 dX11_greatest_24 (by decide) rfl ?_
        refine zi_lconst (v := 1) 26 dX11_greatest_25 (by decide) rfl ?_
        refine zc_static (n' := (0, 0)) (md' := mX11_in) 29 dX11_greatest_26 tw_906 zs_X11_in (s_X11_in B h _ _ _) rfl rfl rfl rfl rfl rfl rfl rfl (zk_f ?_)
        refine zb_ne 32 35 dX11_greatest_29 (by decide) rfl (fun zzD => ?_) (fun zzD => ?_)
        ·
          have zzD := in_2.mp zzD
          have zzO : ¬ (zOut t 20 ∨ zOut p 20 ∨ zOut q 20 ∨ zOut w 2) := fun r => r.elim zzA (fun r => r.elim zzB (fun r => r.elim zzC zzD))
          obtain ⟨ti, hti, hti31, rfl⟩ := out_i (N := 20) (by decide) zzA
          obtain ⟨pj, hpj, hpj31, rfl⟩ := out_i (N := 20) (by decide) zzB
          obtain ⟨qj, hqj, hqj31, rfl⟩ := out_i (N := 20) (by decide) zzC
          rcases out_2 zzD with rfl | rfl
          ·
            refine zi_aload_n 36 dX11_greatest_35 rfl rfl ?_
            refine zi_getfield 39 0 dX11_greatest_36 zcl_X11 tw_863 rfl rfl N0.1.1 rfl rfl ?_
            refine zi_iload_n 40 dX11_greatest_39 rfl rfl ?_
            rcases hsP : qSl s pj with _ | P
            ·
              refine zi_baload 41 dX11_greatest_40 N0.1.2.1 (vp_in_nI (show pj < 20 by omega) (by decide)) rfl ?_
              rw [nI_clamp (Nat.lt_trans (show pj < 20 by omega) (by decide))]
              rw [show wH _ pj = kn (qSl s pj) from K.1 pj hpj, hsP, show kn none = 0 from rfl]
              refine zi_if_eq 44 53 dX11_greatest_41 (by decide) rfl (fun c_41 => ?_) (fun c_41 => absurd c_41 (by decide))
              refine zi_aload_n 54 dX11_greatest_53 rfl rfl ?_
              refine zi_iconst (v := 1) 55 dX11_greatest_54 (by decide) rfl ?_
              refine zc_virtual (n' := (0, 0)) (md' := mX11_finds) 58 dX11_greatest_55 tw_911 zv_X11_finds zcl_X11 (s_X11_finds B h D hD _ N0.1 _) N0.1.1 rfl rfl rfl rfl rfl rfl rfl rfl (zk_i fun x1 h1 p1 => ?_)
              obtain ⟨rfl, n1⟩ := p1
              have N1 := rN_t N0 n1
              exact zr_int hZ dX11_greatest_58 rfl rfl ⟨_, rfl, _, by rw [r_greatest, if_neg zzO, nI_clamp hpj31, hsP]; first | rw [onS_n] | rw [onS_s, nI_clamp hqj31, hsQ, onS_n], ⟨_, N1.1, mQ_F _ K⟩, N1.2⟩
            ·
              have hVP := hs0.1 pj P hsP
              have eP := K.2.1 pj hpj P hsP
              refine zi_baload 41 dX11_greatest_40 N0.1.2.1 (vp_in_nI (show pj < 20 by omega) (by decide)) rfl ?_
              rw [nI_clamp (Nat.lt_trans (show pj < 20 by omega) (by decide))]
              rw [show wH _ pj = kn (qSl s pj) from K.1 pj hpj, hsP, show kn (some P) = 1 from rfl]
              refine zi_if_eq 44 53 dX11_greatest_41 (by decide) rfl (fun c_41 => absurd c_41 (by decide)) (fun c_41 => ?_)
              refine zi_aload_n 45 dX11_greatest_44 rfl rfl ?_
              refine zi_getfield 48 0 dX11_greatest_45 zcl_X11 tw_863 rfl rfl N0.1.1 rfl rfl ?_
              refine zi_iload_n 49 dX11_greatest_48 rfl rfl ?_
              rcases hsQ : qSl s qj with _ | Q
              ·
                refine zi_baload 50 dX11_greatest_49 N0.1.2.1 (vp_in_nI (show qj < 20 by omega) (by decide)) rfl ?_
                rw [nI_clamp (Nat.lt_trans (show qj < 20 by omega) (by decide))]
                rw [show wH _ qj = kn (qSl s qj) from K.1 qj hqj, hsQ, show kn none = 0 from rfl]
                refine zi_if_ne 53 59 dX11_greatest_50 (by decide) rfl (fun c_50 => absurd c_50 (by decide)) (fun c_50 => ?_)
                refine zi_aload_n 54 dX11_greatest_53 rfl rfl ?_
                refine zi_iconst (v := 1) 55 dX11_greatest_54 (by decide) rfl ?_
                refine zc_virtual (n' := (0, 0)) (md' := mX11_finds) 58 dX11_greatest_55 tw_911 zv_X11_finds zcl_X11 (s_X11_finds B h D hD _ N0.1 _) N0.1.1 rfl rfl rfl rfl rfl rfl rfl rfl (zk_i fun x2 h2 p2 => ?_)
                obtain ⟨rfl, n2⟩ := p2
                have N2 := rN_t N0 n2
                exact zr_int hZ dX11_greatest_58 rfl rfl ⟨_, rfl, _, by rw [r_greatest, if_neg zzO, nI_clamp hpj31, hsP]; first | rw [onS_n] | rw [onS_s, nI_clamp hqj31, hsQ, onS_n], ⟨_, N2.1, mQ_F _ K⟩, N2.2⟩
              ·
                have hVQ := hs0.1 qj Q hsQ
                have eQ := K.2.1 qj hqj Q hsQ
                refine zi_baload 50 dX11_greatest_49 N0.1.2.1 (vp_in_nI (show qj < 20 by omega) (by decide)) rfl ?_
                rw [nI_clamp (Nat.lt_trans (show qj < 20 by omega) (by decide))]
                rw [show wH _ qj = kn (qSl s qj) from K.1 qj hqj, hsQ, show kn (some Q) = 1 from rfl]
                refine zi_if_ne 53 59 dX11_greatest_50 (by decide) rfl (fun c_50 => ?_) (fun c_50 => absurd c_50 (by decide))
                refine zi_aload_n 60 dX11_greatest_59 rfl rfl ?_
                refine zi_iconst (v := 0) 61 dX11_greatest_60 (by decide) rfl ?_
                refine zi_iload_n 62 dX11_greatest_61 rfl rfl ?_
                refine zc_virtual (n' := (0, 0)) (md' := mX11_load) 65 dX11_greatest_62 tw_989 zv_X11_load zcl_X11 (s_X11_load B h D hD _ N0.1 0 pj (by omega) (by omega)) N0.1.1 rfl rfl rfl rfl rfl rfl rfl rfl (zk_v fun h3 n3 => ?_)
                have N3 := rN_t N0 n3
                refine zi_aload_n 66 dX11_greatest_65 rfl rfl ?_
                refine zi_iconst (v := 4) 67 dX11_greatest_66 (by decide) rfl ?_
                refine zi_iload_n 68 dX11_greatest_67 rfl rfl ?_
                refine zc_virtual (n' := (0, 0)) (md' := mX11_load) 71 dX11_greatest_68 tw_989 zv_X11_load zcl_X11 (s_X11_load B h3 D hD _ N3.1 4 qj (by omega) (by omega)) N3.1.1 rfl rfl rfl rfl rfl rfl rfl rfl (zk_v fun h4 n4 => ?_)
                have N4 := rN_t N3 n4
                obtain ⟨R5, N5, r0, r4⟩ : ∃ R, rN B D (uR m R) h h4 ∧ ro R 0 = z4i P ∧ ro R 4 = z4i Q := ⟨_, N4, eP, eQ⟩
                refine zi_aload_n 72 dX11_greatest_71 rfl rfl ?_
                refine zi_iconst (v := 0) 73 dX11_greatest_72 (by decide) rfl ?_
                refine zc_virtual (n' := (0, 0)) (md' := mX11_isNought) 76 dX11_greatest_73 tw_962 zv_X11_isNought zcl_X11 (s_X11_isNought B h4 D hD _ N5.1 0 (by omega)) N5.1.1 rfl rfl rfl rfl rfl rfl rfl rfl (zk_f ?_)
                refine zb_eq 79 90 dX11_greatest_76 (by decide) rfl (fun zzY => ?_) (fun zzY => ?_)
                ·
                  rw [show ro (wR (uR m R5)) 0 = z4i P from r0, z4i_nil (zb_63 hVP.2)] at zzY
                  have zzN : ¬ (i4q P = 0 ∧ i4q Q = 0) := fun r => zzY r.1
                  refine zi_aload_n 91 dX11_greatest_90 rfl rfl ?_
                  refine zi_iload 93 dX11_greatest_91 rfl rfl ?_
                  refine zc_virtual (n' := (0, 0)) (md' := mX11_greatestP) 96 dX11_greatest_93 tw_1075 zv_X11_greatestP zcl_X11 (s_X11_greatestP0 B h4 D hD _ N5.1 P Q (grOK_of hVP.1 hVQ.1 hVP.2 hVQ.2) r0 r4) N5.1.1 rfl rfl rfl rfl rfl rfl rfl rfl (zk_v fun h6 p6 => ?_)
                  obtain ⟨R9, n6, tG, -⟩ := p6
                  have N6 := rN_t N5 n6
                  refine zi_aload_n 97 dX11_greatest_96 rfl rfl ?_
                  refine zi_iload_n 98 dX11_greatest_97 rfl rfl ?_
                  refine zi_iconst (v := 0) 99 dX11_greatest_98 (by decide) rfl ?_
                  refine zc_virtual (n' := (0, 0)) (md' := mX11_hold) 102 dX11_greatest_99 tw_954 zv_X11_hold zcl_X11 (s_X11_hold B h6 D hD _ N6.1 ti 0 (by omega) (by omega)) N6.1.1 rfl rfl rfl rfl rfl rfl rfl rfl (zk_v fun h7 n7 => ?_)
                  have N7 := rN_t N6 n7
                  refine zi_aload_n 103 dX11_greatest_102 rfl rfl ?_
                  refine zi_aload_n 104 dX11_greatest_103 rfl rfl ?_
                  refine zi_iconst (v := 0) 105 dX11_greatest_104 (by decide) rfl ?_
                  refine zc_virtual (n' := (0, 0)) (md' := mX11_norm4) 108 dX11_greatest_105 tw_948 zv_X11_norm4 zcl_X11 (s_X11_norm4 B h7 D hD _ N7.1 0 (by omega)) N7.1.1 rfl rfl rfl rfl rfl rfl rfl rfl (zk_f ?_)
                  rw [show zNm (ro (wR (uHo (uR m R9) ti 0)) 0) = lN (nN (grI 0 P Q)) from (congrArg zNm tG).trans (nN_z (V_gr hVP hVQ))]
                  refine zi_l2i 109 dX11_greatest_108 rfl ?_
                  rw [lN_i]
                  refine zc_virtual (n' := (0, 0)) (md' := mX11_well) 112 dX11_greatest_109 tw_916 zv_X11_well zcl_X11 (s_X11_well B h7 D hD _ N7.1 _) N7.1.1 rfl rfl rfl rfl rfl rfl rfl rfl (zk_i fun x8 h8 p8 => ?_)
                  obtain ⟨rfl, n8⟩ := p8
                  have N8 := rN_t N7 n8
                  exact zr_int hZ dX11_greatest_112 rfl rfl ⟨_, rfl, _, by rw [r_greatest, if_neg zzO, nI_clamp hpj31, hsP, onS_s, nI_clamp hqj31, hsQ, onS_s, if_neg zzN, nI_clamp hti31], ⟨_, N8.1, mQ_F 0 (mQ_ho tG K)⟩, N8.2⟩
                ·
                  rw [show ro (wR (uR m R5)) 0 = z4i P from r0, z4i_nil (zb_63 hVP.2)] at zzY
                  refine zi_aload_n 80 dX11_greatest_79 rfl rfl ?_
                  refine zi_iconst (v := 4) 81 dX11_greatest_80 (by decide) rfl ?_
                  refine zc_virtual (n' := (0, 0)) (md' := mX11_isNought) 84 dX11_greatest_81 tw_962 zv_X11_isNought zcl_X11 (s_X11_isNought B h4 D hD _ N5.1 4 (by omega)) N5.1.1 rfl rfl rfl rfl rfl rfl rfl rfl (zk_f ?_)
                  refine zb_eq 87 90 dX11_greatest_84 (by decide) rfl (fun zzZ => ?_) (fun zzZ => ?_)
                  ·
                    rw [show ro (wR (uR m R5)) 4 = z4i Q from r4, z4i_nil (zb_63 hVQ.2)] at zzZ
                    have zzN : ¬ (i4q P = 0 ∧ i4q Q = 0) := fun r => zzZ r.2
                    refine zi_aload_n 91 dX11_greatest_90 rfl rfl ?_
                    refine zi_iload 93 dX11_greatest_91 rfl rfl ?_
                    refine zc_virtual (n' := (0, 0)) (md' := mX11_greatestP) 96 dX11_greatest_93 tw_1075 zv_X11_greatestP zcl_X11 (s_X11_greatestP0 B h4 D hD _ N5.1 P Q (grOK_of hVP.1 hVQ.1 hVP.2 hVQ.2) r0 r4) N5.1.1 rfl rfl rfl rfl rfl rfl rfl rfl (zk_v fun h9 p9 => ?_)
                    obtain ⟨R9, n9, tG, -⟩ := p9
                    have N9 := rN_t N5 n9
                    refine zi_aload_n 97 dX11_greatest_96 rfl rfl ?_
                    refine zi_iload_n 98 dX11_greatest_97 rfl rfl ?_
                    refine zi_iconst (v := 0) 99 dX11_greatest_98 (by decide) rfl ?_
                    refine zc_virtual (n' := (0, 0)) (md' := mX11_hold) 102 dX11_greatest_99 tw_954 zv_X11_hold zcl_X11 (s_X11_hold B h9 D hD _ N9.1 ti 0 (by omega) (by omega)) N9.1.1 rfl rfl rfl rfl rfl rfl rfl rfl (zk_v fun h10 n10 => ?_)
                    have N10 := rN_t N9 n10
                    refine zi_aload_n 103 dX11_greatest_102 rfl rfl ?_
                    refine zi_aload_n 104 dX11_greatest_103 rfl rfl ?_
                    refine zi_iconst (v := 0) 105 dX11_greatest_104 (by decide) rfl ?_
                    refine zc_virtual (n' := (0, 0)) (md' := mX11_norm4) 108 dX11_greatest_105 tw_948 zv_X11_norm4 zcl_X11 (s_X11_norm4 B h10 D hD _ N10.1 0 (by omega)) N10.1.1 rfl rfl rfl rfl rfl rfl rfl rfl (zk_f ?_)
                    rw [show zNm (ro (wR (uHo (uR m R9) ti 0)) 0) = lN (nN (grI 0 P Q)) from (congrArg zNm tG).trans (nN_z (V_gr hVP hVQ))]
                    refine zi_l2i 109 dX11_greatest_108 rfl ?_
                    rw [lN_i]
                    refine zc_virtual (n' := (0, 0)) (md' := mX11_well) 112 dX11_greatest_109 tw_916 zv_X11_well zcl_X11 (s_X11_well B h10 D hD _ N10.1 _) N10.1.1 rfl rfl rfl rfl rfl rfl rfl rfl (zk_i fun x11 h11 p11 => ?_)
                    obtain ⟨rfl, n11⟩ := p11
                    have N11 := rN_t N10 n11
                    exact zr_int hZ dX11_greatest_112 rfl rfl ⟨_, rfl, _, by rw [r_greatest, if_neg zzO, nI_clamp hpj31, hsP, onS_s, nI_clamp hqj31, hsQ, onS_s, if_neg zzN, nI_clamp hti31], ⟨_, N11.1, mQ_F 0 (mQ_ho tG K)⟩, N11.2⟩
                  ·
                    rw [show ro (wR (uR m R5)) 4 = z4i Q from r4, z4i_nil (zb_63 hVQ.2)] at zzZ
                    refine zi_ldc 89 dX11_greatest_87 tw_1063 rfl ?_
                    exact zr_int hZ dX11_greatest_89 rfl rfl ⟨_, rfl, _, by rw [r_greatest, if_neg zzO, nI_clamp hpj31, hsP, onS_s, nI_clamp hqj31, hsQ, onS_s, if_pos ⟨zzY, zzZ⟩], ⟨_, N5.1, K⟩, N5.2⟩
          ·
            refine zi_aload_n 36 dX11_greatest_35 rfl rfl ?_
            refine zi_getfield 39 0 dX11_greatest_36 zcl_X11 tw_863 rfl rfl N0.1.1 rfl rfl ?_
            refine zi_iload_n 40 dX11_greatest_39 rfl rfl ?_
            rcases hsP : qSl s pj with _ | P
            ·
              refine zi_baload 41 dX11_greatest_40 N0.1.2.1 (vp_in_nI (show pj < 20 by omega) (by decide)) rfl ?_
              rw [nI_clamp (Nat.lt_trans (show pj < 20 by omega) (by decide))]
              rw [show wH _ pj = kn (qSl s pj) from K.1 pj hpj, hsP, show kn none = 0 from rfl]
              refine zi_if_eq 44 53 dX11_greatest_41 (by decide) rfl (fun c_41 => ?_) (fun c_41 => absurd c_41 (by decide))
              refine zi_aload_n 54 dX11_greatest_53 rfl rfl ?_
              refine zi_iconst (v := 1) 55 dX11_greatest_54 (by decide) rfl ?_
              refine zc_virtual (n' := (0, 0)) (md' := mX11_finds) 58 dX11_greatest_55 tw_911 zv_X11_finds zcl_X11 (s_X11_finds B h D hD _ N0.1 _) N0.1.1 rfl rfl rfl rfl rfl rfl rfl rfl (zk_i fun x12 h12 p12 => ?_)
              obtain ⟨rfl, n12⟩ := p12
              have N12 := rN_t N0 n12
              exact zr_int hZ dX11_greatest_58 rfl rfl ⟨_, rfl, _, by rw [r_greatest, if_neg zzO, nI_clamp hpj31, hsP]; first | rw [onS_n] | rw [onS_s, nI_clamp hqj31, hsQ, onS_n], ⟨_, N12.1, mQ_F _ K⟩, N12.2⟩
            ·
              have hVP := hs0.1 pj P hsP
              have eP := K.2.1 pj hpj P hsP
              refine zi_baload 41 dX11_greatest_40 N0.1.2.1 (vp_in_nI (show pj < 20 by omega) (by decide)) rfl ?_
              rw [nI_clamp (Nat.lt_trans (show pj < 20 by omega) (by decide))]
              rw [show wH _ pj = kn (qSl s pj) from K.1 pj hpj, hsP, show kn (some P) = 1 from rfl]
              refine zi_if_eq 44 53 dX11_greatest_41 (by decide) rfl (fun c_41 => absurd c_41 (by decide)) (fun c_41 => ?_)
              refine zi_aload_n 45 dX11_greatest_44 rfl rfl ?_
              refine zi_getfield 48 0 dX11_greatest_45 zcl_X11 tw_863 rfl rfl N0.1.1 rfl rfl ?_
              refine zi_iload_n 49 dX11_greatest_48 rfl rfl ?_
              rcases hsQ : qSl s qj with _ | Q
              ·
                refine zi_baload 50 dX11_greatest_49 N0.1.2.1 (vp_in_nI (show qj < 20 by omega) (by decide)) rfl ?_
                rw [nI_clamp (Nat.lt_trans (show qj < 20 by omega) (by decide))]
                rw [show wH _ qj = kn (qSl s qj) from K.1 qj hqj, hsQ, show kn none = 0 from rfl]
                refine zi_if_ne 53 59 dX11_greatest_50 (by decide) rfl (fun c_50 => absurd c_50 (by decide)) (fun c_50 => ?_)
                refine zi_aload_n 54 dX11_greatest_53 rfl rfl ?_
                refine zi_iconst (v := 1) 55 dX11_greatest_54 (by decide) rfl ?_
                refine zc_virtual (n' := (0, 0)) (md' := mX11_finds) 58 dX11_greatest_55 tw_911 zv_X11_finds zcl_X11 (s_X11_finds B h D hD _ N0.1 _) N0.1.1 rfl rfl rfl rfl rfl rfl rfl rfl (zk_i fun x13 h13 p13 => ?_)
                obtain ⟨rfl, n13⟩ := p13
                have N13 := rN_t N0 n13
                exact zr_int hZ dX11_greatest_58 rfl rfl ⟨_, rfl, _, by rw [r_greatest, if_neg zzO, nI_clamp hpj31, hsP]; first | rw [onS_n] | rw [onS_s, nI_clamp hqj31, hsQ, onS_n], ⟨_, N13.1, mQ_F _ K⟩, N13.2⟩
              ·
                have hVQ := hs0.1 qj Q hsQ
                have eQ := K.2.1 qj hqj Q hsQ
                refine zi_baload 50 dX11_greatest_49 N0.1.2.1 (vp_in_nI (show qj < 20 by omega) (by decide)) rfl ?_
                rw [nI_clamp (Nat.lt_trans (show qj < 20 by omega) (by decide))]
                rw [show wH _ qj = kn (qSl s qj) from K.1 qj hqj, hsQ, show kn (some Q) = 1 from rfl]
                refine zi_if_ne 53 59 dX11_greatest_50 (by decide) rfl (fun c_50 => ?_) (fun c_50 => absurd c_50 (by decide))
                refine zi_aload_n 60 dX11_greatest_59 rfl rfl ?_
                refine zi_iconst (v := 0) 61 dX11_greatest_60 (by decide) rfl ?_
                refine zi_iload_n 62 dX11_greatest_61 rfl rfl ?_
                refine zc_virtual (n' := (0, 0)) (md' := mX11_load) 65 dX11_greatest_62 tw_989 zv_X11_load zcl_X11 (s_X11_load B h D hD _ N0.1 0 pj (by omega) (by omega)) N0.1.1 rfl rfl rfl rfl rfl rfl rfl rfl (zk_v fun h14 n14 => ?_)
                have N14 := rN_t N0 n14
                refine zi_aload_n 66 dX11_greatest_65 rfl rfl ?_
                refine zi_iconst (v := 4) 67 dX11_greatest_66 (by decide) rfl ?_
                refine zi_iload_n 68 dX11_greatest_67 rfl rfl ?_
                refine zc_virtual (n' := (0, 0)) (md' := mX11_load) 71 dX11_greatest_68 tw_989 zv_X11_load zcl_X11 (s_X11_load B h14 D hD _ N14.1 4 qj (by omega) (by omega)) N14.1.1 rfl rfl rfl rfl rfl rfl rfl rfl (zk_v fun h15 n15 => ?_)
                have N15 := rN_t N14 n15
                obtain ⟨R16, N16, r0, r4⟩ : ∃ R, rN B D (uR m R) h h15 ∧ ro R 0 = z4i P ∧ ro R 4 = z4i Q := ⟨_, N15, eP, eQ⟩
                refine zi_aload_n 72 dX11_greatest_71 rfl rfl ?_
                refine zi_iconst (v := 0) 73 dX11_greatest_72 (by decide) rfl ?_
                refine zc_virtual (n' := (0, 0)) (md' := mX11_isNought) 76 dX11_greatest_73 tw_962 zv_X11_isNought zcl_X11 (s_X11_isNought B h15 D hD _ N16.1 0 (by omega)) N16.1.1 rfl rfl rfl rfl rfl rfl rfl rfl (zk_f ?_)
                refine zb_eq 79 90 dX11_greatest_76 (by decide) rfl (fun zzY => ?_) (fun zzY => ?_)
                ·
                  rw [show ro (wR (uR m R16)) 0 = z4i P from r0, z4i_nil (zb_63 hVP.2)] at zzY
                  have zzN : ¬ (i4q P = 0 ∧ i4q Q = 0) := fun r => zzY r.1
                  refine zi_aload_n 91 dX11_greatest_90 rfl rfl ?_
                  refine zi_iload 93 dX11_greatest_91 rfl rfl ?_
                  refine zc_virtual (n' := (0, 0)) (md' := mX11_greatestP) 96 dX11_greatest_93 tw_1075 zv_X11_greatestP zcl_X11 (s_X11_greatestP1 B h15 D hD _ N16.1 P Q (grOK_of hVP.1 hVQ.1 hVP.2 hVQ.2) r0 r4) N16.1.1 rfl rfl rfl rfl rfl rfl rfl rfl (zk_v fun h17 p17 => ?_)
                  obtain ⟨R9, n17, tG, -⟩ := p17
                  have N17 := rN_t N16 n17
                  refine zi_aload_n 97 dX11_greatest_96 rfl rfl ?_
                  refine zi_iload_n 98 dX11_greatest_97 rfl rfl ?_
                  refine zi_iconst (v := 0) 99 dX11_greatest_98 (by decide) rfl ?_
                  refine zc_virtual (n' := (0, 0)) (md' := mX11_hold) 102 dX11_greatest_99 tw_954 zv_X11_hold zcl_X11 (s_X11_hold B h17 D hD _ N17.1 ti 0 (by omega) (by omega)) N17.1.1 rfl rfl rfl rfl rfl rfl rfl rfl (zk_v fun h18 n18 => ?_)
                  have N18 := rN_t N17 n18
                  refine zi_aload_n 103 dX11_greatest_102 rfl rfl ?_
                  refine zi_aload_n 104 dX11_greatest_103 rfl rfl ?_
                  refine zi_iconst (v := 0) 105 dX11_greatest_104 (by decide) rfl ?_
                  refine zc_virtual (n' := (0, 0)) (md' := mX11_norm4) 108 dX11_greatest_105 tw_948 zv_X11_norm4 zcl_X11 (s_X11_norm4 B h18 D hD _ N18.1 0 (by omega)) N18.1.1 rfl rfl rfl rfl rfl rfl rfl rfl (zk_f ?_)
                  rw [show zNm (ro (wR (uHo (uR m R9) ti 0)) 0) = lN (nN (grI 1 P Q)) from (congrArg zNm tG).trans (nN_z (V_gr hVP hVQ))]
                  refine zi_l2i 109 dX11_greatest_108 rfl ?_
                  rw [lN_i]
                  refine zc_virtual (n' := (0, 0)) (md' := mX11_well) 112 dX11_greatest_109 tw_916 zv_X11_well zcl_X11 (s_X11_well B h18 D hD _ N18.1 _) N18.1.1 rfl rfl rfl rfl rfl rfl rfl rfl (zk_i fun x19 h19 p19 => ?_)
                  obtain ⟨rfl, n19⟩ := p19
                  have N19 := rN_t N18 n19
                  exact zr_int hZ dX11_greatest_112 rfl rfl ⟨_, rfl, _, by rw [r_greatest, if_neg zzO, nI_clamp hpj31, hsP, onS_s, nI_clamp hqj31, hsQ, onS_s, if_neg zzN, nI_clamp hti31], ⟨_, N19.1, mQ_F 0 (mQ_ho tG K)⟩, N19.2⟩
                ·
                  rw [show ro (wR (uR m R16)) 0 = z4i P from r0, z4i_nil (zb_63 hVP.2)] at zzY
                  refine zi_aload_n 80 dX11_greatest_79 rfl rfl ?_
                  refine zi_iconst (v := 4) 81 dX11_greatest_80 (by decide) rfl ?_
                  refine zc_virtual (n' := (0, 0)) (md' := mX11_isNought) 84 dX11_greatest_81 tw_962 zv_X11_isNought zcl_X11 (s_X11_isNought B h15 D hD _ N16.1 4 (by omega)) N16.1.1 rfl rfl rfl rfl rfl rfl rfl rfl (zk_f ?_)
                  refine zb_eq 87 90 dX11_greatest_84 (by decide) rfl (fun zzZ => ?_) (fun zzZ => ?_)
                  ·
                    rw [show ro (wR (uR m R16)) 4 = z4i Q from r4, z4i_nil (zb_63 hVQ.2)] at zzZ
                    have zzN : ¬ (i4q P = 0 ∧ i4q Q = 0) := fun r => zzZ r.2
                    refine zi_aload_n 91 dX11_greatest_90 rfl rfl ?_
                    refine zi_iload 93 dX11_greatest_91 rfl rfl ?_
                    refine zc_virtual (n' := (0, 0)) (md' := mX11_greatestP) 96 dX11_greatest_93 tw_1075 zv_X11_greatestP zcl_X11 (s_X11_greatestP1 B h15 D hD _ N16.1 P Q (grOK_of hVP.1 hVQ.1 hVP.2 hVQ.2) r0 r4) N16.1.1 rfl rfl rfl rfl rfl rfl rfl rfl (zk_v fun h20 p20 => ?_)
                    obtain ⟨R9, n20, tG, -⟩ := p20
                    have N20 := rN_t N16 n20
                    refine zi_aload_n 97 dX11_greatest_96 rfl rfl ?_
                    refine zi_iload_n 98 dX11_greatest_97 rfl rfl ?_
                    refine zi_iconst (v := 0) 99 dX11_greatest_98 (by decide) rfl ?_
                    refine zc_virtual (n' := (0, 0)) (md' := mX11_hold) 102 dX11_greatest_99 tw_954 zv_X11_hold zcl_X11 (s_X11_hold B h20 D hD _ N20.1 ti 0 (by omega) (by omega)) N20.1.1 rfl rfl rfl rfl rfl rfl rfl rfl (zk_v fun h21 n21 => ?_)
                    have N21 := rN_t N20 n21
                    refine zi_aload_n 103 dX11_greatest_102 rfl rfl ?_
                    refine zi_aload_n 104 dX11_greatest_103 rfl rfl ?_
                    refine zi_iconst (v := 0) 105 dX11_greatest_104 (by decide) rfl ?_
                    refine zc_virtual (n' := (0, 0)) (md' := mX11_norm4) 108 dX11_greatest_105 tw_948 zv_X11_norm4 zcl_X11 (s_X11_norm4 B h21 D hD _ N21.1 0 (by omega)) N21.1.1 rfl rfl rfl rfl rfl rfl rfl rfl (zk_f ?_)
                    rw [show zNm (ro (wR (uHo (uR m R9) ti 0)) 0) = lN (nN (grI 1 P Q)) from (congrArg zNm tG).trans (nN_z (V_gr hVP hVQ))]
                    refine zi_l2i 109 dX11_greatest_108 rfl ?_
                    rw [lN_i]
                    refine zc_virtual (n' := (0, 0)) (md' := mX11_well) 112 dX11_greatest_109 tw_916 zv_X11_well zcl_X11 (s_X11_well B h21 D hD _ N21.1 _) N21.1.1 rfl rfl rfl rfl rfl rfl rfl rfl (zk_i fun x22 h22 p22 => ?_)
                    obtain ⟨rfl, n22⟩ := p22
                    have N22 := rN_t N21 n22
                    exact zr_int hZ dX11_greatest_112 rfl rfl ⟨_, rfl, _, by rw [r_greatest, if_neg zzO, nI_clamp hpj31, hsP, onS_s, nI_clamp hqj31, hsQ, onS_s, if_neg zzN, nI_clamp hti31], ⟨_, N22.1, mQ_F 0 (mQ_ho tG K)⟩, N22.2⟩
                  ·
                    rw [show ro (wR (uR m R16)) 4 = z4i Q from r4, z4i_nil (zb_63 hVQ.2)] at zzZ
                    refine zi_ldc 89 dX11_greatest_87 tw_1063 rfl ?_
                    exact zr_int hZ dX11_greatest_89 rfl rfl ⟨_, rfl, _, by rw [r_greatest, if_neg zzO, nI_clamp hpj31, hsP, onS_s, nI_clamp hqj31, hsQ, onS_s, if_pos ⟨zzY, zzZ⟩], ⟨_, N16.1, K⟩, N16.2⟩
        ·
          have zzD := Decidable.not_not.mp (fun q => zzD (in_2.mpr q))
          refine zi_ldc 34 dX11_greatest_32 tw_910 rfl ?_
          exact zr_int hZ dX11_greatest_34 rfl rfl ⟨_, rfl, _, by rw [r_greatest, if_pos (by first | exact Or.inl zzA | exact Or.inr (Or.inl zzB) | exact Or.inr (Or.inr (Or.inl zzC)) | exact Or.inr (Or.inr (Or.inr (zzD))))], ⟨m, N0.1, K⟩, N0.2⟩
