/-! the reference: turns -/
theorem up_dg (a b n : Int) : (2 : Int64) * iz a * iz a + 2 * iz b * iz b - 4 * iz n = iz (2 * (a * a) + 2 * (b * b) - 4 * n) := by
  rw [iz_2, iz_4, iz_mul, iz_mul, iz_mul, iz_mul, iz_mul, iz_add, iz_sub, Int.mul_assoc, Int.mul_assoc]
theorem up_pl (a b c d : Int) : (2 : Int64) * iz a * iz b + 2 * iz c * iz d = iz (2 * (a * b) + 2 * (c * d)) := by
  rw [iz_2, iz_mul, iz_mul, iz_mul, iz_mul, iz_add, Int.mul_assoc, Int.mul_assoc]
theorem up_mi (a b c d : Int) : (2 : Int64) * iz a * iz b + -2 * iz c * iz d = iz (2 * (a * b) - 2 * (c * d)) := by
  rw [show (-2 : Int64) = iz (-2) from rfl, iz_2, iz_mul, iz_mul, iz_mul, iz_mul, iz_add, Int.mul_assoc, Int.mul_assoc, Int.neg_mul]
  rfl
theorem out_3 {i : Int32} (h : ¬ zOut i 3) : i = 0 ∨ i = 1 ∨ i = 2 := by
  obtain ⟨j, hj, -, rfl⟩ := out_i (N := 3) (by decide) h
  match j, hj with
  | 0, _ => exact Or.inl rfl
  | 1, _ => exact Or.inr (Or.inl rfl)
  | 2, _ => exact Or.inr (Or.inr rfl)
theorem in_F {x : Int32} : zIn x.toInt64 (-1000) 1000 ↔ ¬ zTooF x := by
  unfold zIn zTooF
  rw [Int64.le_iff_toInt_le, Int64.le_iff_toInt_le, Int32.toInt_toInt64, Int32.lt_iff_toInt_lt, Int32.lt_iff_toInt_lt]
  have e1 : (-1000 : Int64).toInt = -1000 := rfl
  have e2 : (1000 : Int64).toInt = 1000 := rfl
  have e3 : (-1000 : Int32).toInt = -1000 := rfl
  have e4 : (1000 : Int32).toInt = 1000 := rfl
  rw [e1, e2, e3, e4]
  omega
theorem trn_2 {P : i4} {k : Nat} {x y z : Int32} : iz (tabI P (3 * k)) * x.toInt64 + iz (tabI P (3 * k + 1)) * y.toInt64 + iz (tabI P (3 * k + 2)) * z.toInt64 = iz (trnI P k x.toInt y.toInt z.toInt) := by
  rw [jl, jl, jl, iz_mul, iz_mul, iz_mul, iz_add, iz_add]
  rfl
theorem low_q {P : i4} (h : i4V P) : (4 : Int64) * iz (i4n P) = iz (i4q P) := by rw [iz_4, iz_mul, ← i4q_4 h.1]
theorem ord_1 {P : i4} (h : i4q P - P.1 * P.1 = 0) : orderI P = 1 := if_pos (by omega)
theorem ord_2 {P : i4} (h : ¬ i4q P - P.1 * P.1 = 0) (h2 : P.1 * P.1 = 0) : orderI P = 2 := by
  unfold orderI
  rw [if_neg (by omega), if_pos h2]
theorem ord_3 {P : i4} (h : ¬ i4q P - P.1 * P.1 = 0) (h2 : ¬ P.1 * P.1 = 0) (h3 : 3 * (P.1 * P.1) = i4q P - P.1 * P.1) : orderI P = 3 := by
  unfold orderI
  rw [if_neg (by omega), if_neg h2, if_pos (by omega)]
theorem ord_4 {P : i4} (h : ¬ i4q P - P.1 * P.1 = 0) (h2 : ¬ P.1 * P.1 = 0) (h3 : ¬ 3 * (P.1 * P.1) = i4q P - P.1 * P.1) (h4 : P.1 * P.1 = i4q P - P.1 * P.1) : orderI P = 4 := by
  unfold orderI
  rw [if_neg (by omega), if_neg h2, if_neg (by omega), if_pos (by omega)]
theorem ord_6 {P : i4} (h : ¬ i4q P - P.1 * P.1 = 0) (h2 : ¬ P.1 * P.1 = 0) (h3 : ¬ 3 * (P.1 * P.1) = i4q P - P.1 * P.1) (h4 : ¬ P.1 * P.1 = i4q P - P.1 * P.1) (h5 : P.1 * P.1 = 3 * (i4q P - P.1 * P.1)) : orderI P = 6 := by
  unfold orderI
  rw [if_neg (by omega), if_neg h2, if_neg (by omega), if_neg (by omega), if_pos (by omega)]
theorem ord_0 {P : i4} (h : ¬ i4q P - P.1 * P.1 = 0) (h2 : ¬ P.1 * P.1 = 0) (h3 : ¬ 3 * (P.1 * P.1) = i4q P - P.1 * P.1) (h4 : ¬ P.1 * P.1 = i4q P - P.1 * P.1) (h5 : ¬ P.1 * P.1 = 3 * (i4q P - P.1 * P.1)) : orderI P = -1000000 := by
  unfold orderI
  rw [if_neg (by omega), if_neg h2, if_neg (by omega), if_neg (by omega), if_neg (by omega)]
theorem ax_dn {c : Int} {g : Nat} (hc : c.natAbs ≤ 63245) (hg : g < 9223372036854775808) (hd : (g : Int) ∣ c) : iz c / -lN g = iz (-(c / g)) := by
  rw [iz_lN, iz_neg, iz_div (by omega) (by omega) (by omega), Int.tdiv_neg, Int.tdiv_eq_ediv_of_dvd hd]
theorem ax_ld {f : Nat → Int64} {P : i4} (h : ro f 0 = z4i P) {k : Nat} (hk : k < 3) : f (1 + k) = iz (axC P k) := by
  match k, hk with
  | 0, _ => exact congrArg (fun v : z4 => v.2.1) h
  | 1, _ => exact congrArg (fun v : z4 => v.2.2.1) h
  | 2, _ => exact congrArg (fun v : z4 => v.2.2.2) h
theorem wf2_s {k v : Nat} (h0 : ¬ v = 0) (h4 : v % 2 = 0) (hk : v < 2 ^ k) : ∃ k', k = k' + 1 ∧ v / 2 < 2 ^ k' ∧ zWf k 2 v = zWf k' 2 (v / 2) := by
  cases k with
  | zero => exact absurd hk (by simp; omega)
  | succ k =>
    refine ⟨k, rfl, ?_, ?_⟩
    · rw [Nat.pow_succ] at hk
      omega
    · rw [zWf, if_pos ⟨h0, h4⟩]
theorem wf2_e {k v : Nat} (h : ¬ v % 2 = 0) : zWf k 2 v = v := by
  cases k with
  | zero => rfl
  | succ k =>
    rw [zWf, if_neg (fun q => h q.2)]
theorem idx_0 {P : i4} (h : i4V P) (h0 : ¬ i4q P = 0) : 1 ≤ nN P / (wh P * wh P) := by
  obtain ⟨h1, h2, h3⟩ := wh_le h h0
  have h4 := (nN_pos h).mp h0
  exact Nat.div_pos (Nat.le_of_dvd h4 h2) (Nat.mul_pos h1 h1)

set_option maxHeartbeats 4000000 in
set_option maxRecDepth 100000 in
theorem s_X11_refusalN (B : zBB) (h : zHp) (D : Nat → Nat) (hD : zInj D) (m : mS) (M : rM B D m h) (j : Nat) (hj : j < 20) (hh : wH m j = 0) : zSpec mX11_refusal B (1, 0, 0) [.ref (D 0), .int (nI j)] h (zPi (fun x h' => x = -1000010 - 1 ∧ rN B D (uF m 1) h h')) := by
  refine zSpec.of (by decide) (Nat.le_of_ble_eq_true rfl) (fun X hZ => ?_)
  show zG X mX11_refusal B (1, 0, 0) (0, 0) 0 [(0, .ref (D 0)), (1, .int (nI j))] [] h
  have N0 := rN_r M
  refine zi_aload_n 1 dX11_refusal_0 rfl rfl ?_
  refine zi_getfield 4 0 dX11_refusal_1 zcl_X11 tw_863 rfl rfl N0.1.1 rfl rfl ?_
  refine zi_iload_n 5 dX11_refusal_4 rfl rfl ?_
  refine zi_baload 6 dX11_refusal_5 N0.1.2.1 (vp_in_nI (show j < 20 by omega) (by decide)) rfl ?_
  rw [nI_clamp (Nat.lt_trans (show j < 20 by omega) (by decide))]
  rw [hh]
  refine zi_if_ne 9 15 dX11_refusal_6 (by decide) rfl (fun c_6 => absurd c_6 (by decide)) (fun c_6 => ?_)
  refine zi_aload_n 10 dX11_refusal_9 rfl rfl ?_
  refine zi_iconst (v := 1) 11 dX11_refusal_10 (by decide) rfl ?_
  refine zc_virtual (n' := (0, 0)) (md' := mX11_finds) 14 dX11_refusal_11 tw_911 zv_X11_finds zcl_X11 (s_X11_finds B h D hD _ N0.1 _) N0.1.1 rfl rfl rfl rfl rfl rfl rfl rfl (zk_i fun x1 h1 p1 => ?_)
  obtain ⟨rfl, n1⟩ := p1
  have N1 := rN_t N0 n1
  exact zr_int hZ dX11_refusal_14 rfl rfl ⟨_, rfl, rfl, N1⟩

set_option maxHeartbeats 4000000 in
set_option maxRecDepth 100000 in
theorem s_X11_refusal0 (B : zBB) (h : zHp) (D : Nat → Nat) (hD : zInj D) (m : mS) (M : rM B D m h) (j : Nat) (hj : j < 20) (hh : wH m j = 1) (P : i4) (hV : i4V P) (eP : ro (wS m) (4 * j) = z4i P) (h0 : i4q P = 0) : zSpec mX11_refusal B (1, 0, 0) [.ref (D 0), .int (nI j)] h (zPi (fun x h' => x = -1000002 ∧ rN B D (uR m (p4 (wR m) 0 (z4i P))) h h')) := by
  refine zSpec.of (by decide) (Nat.le_of_ble_eq_true rfl) (fun X hZ => ?_)
  show zG X mX11_refusal B (1, 0, 0) (0, 0) 0 [(0, .ref (D 0)), (1, .int (nI j))] [] h
  have N0 := rN_r M
  refine zi_aload_n 1 dX11_refusal_0 rfl rfl ?_
  refine zi_getfield 4 0 dX11_refusal_1 zcl_X11 tw_863 rfl rfl N0.1.1 rfl rfl ?_
  refine zi_iload_n 5 dX11_refusal_4 rfl rfl ?_
  refine zi_baload 6 dX11_refusal_5 N0.1.2.1 (vp_in_nI (show j < 20 by omega) (by decide)) rfl ?_
  rw [nI_clamp (Nat.lt_trans (show j < 20 by omega) (by decide))]
  rw [hh]
  refine zi_if_ne 9 15 dX11_refusal_6 (by decide) rfl (fun c_6 => ?_) (fun c_6 => absurd c_6 (by decide))
  refine zi_aload_n 16 dX11_refusal_15 rfl rfl ?_
  refine zi_iconst (v := 0) 17 dX11_refusal_16 (by decide) rfl ?_
  refine zi_iload_n 18 dX11_refusal_17 rfl rfl ?_
  refine zc_virtual (n' := (0, 0)) (md' := mX11_load) 21 dX11_refusal_18 tw_989 zv_X11_load zcl_X11 (s_X11_load B h D hD _ N0.1 0 j (by omega) (by omega)) N0.1.1 rfl rfl rfl rfl rfl rfl rfl rfl (zk_v fun h1 n1 => ?_)
  have N1 := rN_t N0 n1
  refine zi_aload_n 22 dX11_refusal_21 rfl rfl ?_
  refine zi_iconst (v := 0) 23 dX11_refusal_22 (by decide) rfl ?_
  refine zc_virtual (n' := (0, 0)) (md' := mX11_isNought) 26 dX11_refusal_23 tw_962 zv_X11_isNought zcl_X11 (s_X11_isNought B h1 D hD _ N1.1 0 (by omega)) N1.1.1 rfl rfl rfl rfl rfl rfl rfl rfl (zk_f ?_)
  refine zb_eq 29 34 dX11_refusal_26 (by decide) rfl (fun zzZ => ?_) (fun zzZ => ?_)
  ·
    rw [show ro (wR (uR m (p4 (wR m) 0 (ro (wS m) (4 * j))))) 0 = z4i P from eP, z4i_nil (zb_63 hV.2)] at zzZ
    refine zi_iconst (v := 0) 35 dX11_refusal_34 (by decide) rfl ?_
    exact zr_int hZ dX11_refusal_35 rfl rfl ⟨_, rfl, by first | rfl | exact absurd h0 zzZ, by rw [← eP]; exact N1⟩
  ·
    rw [show ro (wR (uR m (p4 (wR m) 0 (ro (wS m) (4 * j))))) 0 = z4i P from eP, z4i_nil (zb_63 hV.2)] at zzZ
    refine zi_ldc 31 dX11_refusal_29 tw_1063 rfl ?_
    refine zi_goto 35 dX11_refusal_31 (by decide) ?_
    exact zr_int hZ dX11_refusal_35 rfl rfl ⟨_, rfl, by first | rfl | exact absurd h0 zzZ, by rw [← eP]; exact N1⟩

set_option maxHeartbeats 4000000 in
set_option maxRecDepth 100000 in
theorem s_X11_refusalY (B : zBB) (h : zHp) (D : Nat → Nat) (hD : zInj D) (m : mS) (M : rM B D m h) (j : Nat) (hj : j < 20) (hh : wH m j = 1) (P : i4) (hV : i4V P) (eP : ro (wS m) (4 * j) = z4i P) (h0 : ¬ i4q P = 0) : zSpec mX11_refusal B (1, 0, 0) [.ref (D 0), .int (nI j)] h (zPi (fun x h' => x = 0 ∧ rN B D (uR m (p4 (wR m) 0 (z4i P))) h h')) := by
  refine zSpec.of (by decide) (Nat.le_of_ble_eq_true rfl) (fun X hZ => ?_)
  show zG X mX11_refusal B (1, 0, 0) (0, 0) 0 [(0, .ref (D 0)), (1, .int (nI j))] [] h
  have N0 := rN_r M
  refine zi_aload_n 1 dX11_refusal_0 rfl rfl ?_
  refine zi_getfield 4 0 dX11_refusal_1 zcl_X11 tw_863 rfl rfl N0.1.1 rfl rfl ?_
  refine zi_iload_n 5 dX11_refusal_4 rfl rfl ?_
  refine zi_baload 6 dX11_refusal_5 N0.1.2.1 (vp_in_nI (show j < 20 by omega) (by decide)) rfl ?_
  rw [nI_clamp (Nat.lt_trans (show j < 20 by omega) (by decide))]
  rw [hh]
  refine zi_if_ne 9 15 dX11_refusal_6 (by decide) rfl (fun c_6 => ?_) (fun c_6 => absurd c_6 (by decide))
  refine zi_aload_n 16 dX11_refusal_15 rfl rfl ?_
  refine zi_iconst (v := 0) 17 dX11_refusal_16 (by decide) rfl ?_
  refine zi_iload_n 18 dX11_refusal_17 rfl rfl ?_
  refine zc_virtual (n' := (0, 0)) (md' := mX11_load) 21 dX11_refusal_18 tw_989 zv_X11_load zcl_X11 (s_X11_load B h D hD _ N0.1 0 j (by omega) (by omega)) N0.1.1 rfl rfl rfl rfl rfl rfl rfl rfl (zk_v fun h1 n1 => ?_)
  have N1 := rN_t N0 n1
  refine zi_aload_n 22 dX11_refusal_21 rfl rfl ?_
  refine zi_iconst (v := 0) 23 dX11_refusal_22 (by decide) rfl ?_
  refine zc_virtual (n' := (0, 0)) (md' := mX11_isNought) 26 dX11_refusal_23 tw_962 zv_X11_isNought zcl_X11 (s_X11_isNought B h1 D hD _ N1.1 0 (by omega)) N1.1.1 rfl rfl rfl rfl rfl rfl rfl rfl (zk_f ?_)
  refine zb_eq 29 34 dX11_refusal_26 (by decide) rfl (fun zzZ => ?_) (fun zzZ => ?_)
  ·
    rw [show ro (wR (uR m (p4 (wR m) 0 (ro (wS m) (4 * j))))) 0 = z4i P from eP, z4i_nil (zb_63 hV.2)] at zzZ
    refine zi_iconst (v := 0) 35 dX11_refusal_34 (by decide) rfl ?_
    exact zr_int hZ dX11_refusal_35 rfl rfl ⟨_, rfl, by first | rfl | exact absurd zzZ h0, by rw [← eP]; exact N1⟩
  ·
    rw [show ro (wR (uR m (p4 (wR m) 0 (ro (wS m) (4 * j))))) 0 = z4i P from eP, z4i_nil (zb_63 hV.2)] at zzZ
    refine zi_ldc 31 dX11_refusal_29 tw_1063 rfl ?_
    refine zi_goto 35 dX11_refusal_31 (by decide) ?_
    exact zr_int hZ dX11_refusal_35 rfl rfl ⟨_, rfl, by first | rfl | exact absurd zzZ h0, by rw [← eP]; exact N1⟩

theorem ta_0 {P : i4} (h : i4V P) : 2 * (P.1 * P.1) + 2 * (P.2.1 * P.2.1) - 4 * i4n P = tabI P 0 := by
  have h1 := i4q_4 h.1
  unfold i4q at h1
  show _ = P.1 * P.1 + P.2.1 * P.2.1 - P.2.2.1 * P.2.2.1 - P.2.2.2 * P.2.2.2
  omega
theorem ta_4 {P : i4} (h : i4V P) : 2 * (P.1 * P.1) + 2 * (P.2.2.1 * P.2.2.1) - 4 * i4n P = tabI P 4 := by
  have h1 := i4q_4 h.1
  unfold i4q at h1
  show _ = P.1 * P.1 - P.2.1 * P.2.1 + P.2.2.1 * P.2.2.1 - P.2.2.2 * P.2.2.2
  omega
theorem ta_8 {P : i4} (h : i4V P) : 2 * (P.1 * P.1) + 2 * (P.2.2.2 * P.2.2.2) - 4 * i4n P = tabI P 8 := by
  have h1 := i4q_4 h.1
  unfold i4q at h1
  show _ = P.1 * P.1 - P.2.1 * P.2.1 - P.2.2.1 * P.2.2.1 + P.2.2.2 * P.2.2.2
  omega
theorem ta_1 {P : i4} (_h : i4V P) : 2 * (P.2.1 * P.2.2.1) - 2 * (P.1 * P.2.2.2) = tabI P 1 := by
  show _ = 2 * (P.2.1 * P.2.2.1 - P.1 * P.2.2.2)
  omega
theorem ta_2 {P : i4} (_h : i4V P) : 2 * (P.2.1 * P.2.2.2) + 2 * (P.1 * P.2.2.1) = tabI P 2 := by
  show _ = 2 * (P.2.1 * P.2.2.2 + P.1 * P.2.2.1)
  omega
theorem ta_3 {P : i4} (_h : i4V P) : 2 * (P.2.2.1 * P.2.1) + 2 * (P.1 * P.2.2.2) = tabI P 3 := by
  show _ = 2 * (P.2.1 * P.2.2.1 + P.1 * P.2.2.2)
  have := Int.mul_comm P.2.1 P.2.2.1
  omega
theorem ta_5 {P : i4} (_h : i4V P) : 2 * (P.2.2.1 * P.2.2.2) - 2 * (P.1 * P.2.1) = tabI P 5 := by
  show _ = 2 * (P.2.2.1 * P.2.2.2 - P.1 * P.2.1)
  omega
theorem ta_6 {P : i4} (_h : i4V P) : 2 * (P.2.2.2 * P.2.1) - 2 * (P.1 * P.2.2.1) = tabI P 6 := by
  show _ = 2 * (P.2.1 * P.2.2.2 - P.1 * P.2.2.1)
  have := Int.mul_comm P.2.1 P.2.2.2
  omega
theorem ta_7 {P : i4} (_h : i4V P) : 2 * (P.2.2.2 * P.2.2.1) + 2 * (P.1 * P.2.1) = tabI P 7 := by
  show _ = 2 * (P.2.2.1 * P.2.2.2 + P.1 * P.2.1)
  have := Int.mul_comm P.2.2.1 P.2.2.2
  omega

set_option maxHeartbeats 4000000 in
set_option maxRecDepth 100000 in
theorem s_X11_upper0 (B : zBB) (h : zHp) (D : Nat → Nat) (hD : zInj D) (m : mS) (M : rM B D m h) (P : i4) (hV : i4V P) (hP : ro (wR m) 0 = z4i P) : zSpec mX11_upper B (1, 0, 0) [.ref (D 0), .int 0, .int 0] h (zPf (some (.long (iz (tabI P 0)))) h) := by
  refine zSpec.of (by decide) (Nat.le_of_ble_eq_true rfl) (fun X hZ => ?_)
  show zG X mX11_upper B (1, 0, 0) (0, 0) 0 [(0, .ref (D 0)), (1, .int 0), (2, .int 0)] [] h
  have N0 := rN_r M
  refine zi_aload_n 1 dX11_upper_0 rfl rfl ?_
  refine zi_getfield 4 9 dX11_upper_1 zcl_X11 tw_872 rfl rfl N0.1.1 rfl rfl ?_
  refine zi_iconst (v := 0) 5 dX11_upper_4 (by decide) rfl ?_
  refine zi_laload 6 dX11_upper_5 N0.1.2.2.2.2.2.2.2.2.1 (vp_in_nI (show 0 < 80 by decide) (by decide)) rfl ?_
  rw [show Int32.toNatClampNeg 0 = 0 from rfl]
  rw [show wR _ 0 = iz P.1 from congrArg (fun v : z4 => v.1) hP]
  refine zi_lstore_n (lv' := [(3, _), (0, _), (1, _), (2, _)]) 7 dX11_upper_6 rfl rfl rfl ?_
  refine zi_aload_n 8 dX11_upper_7 rfl rfl ?_
  refine zi_getfield 11 9 dX11_upper_8 zcl_X11 tw_872 rfl rfl N0.1.1 rfl rfl ?_
  refine zi_iconst (v := 1) 12 dX11_upper_11 (by decide) rfl ?_
  refine zi_iload_n 13 dX11_upper_12 rfl rfl ?_
  refine zi_iadd 14 dX11_upper_13 rfl ?_
  rw [show (1 : Int32) + 0 = 1 from rfl]
  refine zi_laload 15 dX11_upper_14 N0.1.2.2.2.2.2.2.2.2.1 (vp_in_nI (show 1 < 80 by decide) (by decide)) rfl ?_
  rw [show Int32.toNatClampNeg 1 = 1 from rfl]
  rw [show wR _ 1 = iz P.2.1 from congrArg (fun v : z4 => v.2.1) hP]
  refine zi_lstore (lv' := [(5, _), (3, _), (0, _), (1, _), (2, _)]) 17 dX11_upper_15 rfl rfl rfl ?_
  refine zi_aload_n 18 dX11_upper_17 rfl rfl ?_
  refine zi_getfield 21 9 dX11_upper_18 zcl_X11 tw_872 rfl rfl N0.1.1 rfl rfl ?_
  refine zi_iconst (v := 1) 22 dX11_upper_21 (by decide) rfl ?_
  refine zi_iload_n 23 dX11_upper_22 rfl rfl ?_
  refine zi_iadd 24 dX11_upper_23 rfl ?_
  rw [show (1 : Int32) + 0 = 1 from rfl]
  refine zi_laload 25 dX11_upper_24 N0.1.2.2.2.2.2.2.2.2.1 (vp_in_nI (show 1 < 80 by decide) (by decide)) rfl ?_
  rw [show Int32.toNatClampNeg 1 = 1 from rfl]
  rw [show wR _ 1 = iz P.2.1 from congrArg (fun v : z4 => v.2.1) hP]
  refine zi_lstore (lv' := [(7, _), (5, _), (3, _), (0, _), (1, _), (2, _)]) 27 dX11_upper_25 rfl rfl rfl ?_
  refine zi_iload_n 28 dX11_upper_27 rfl rfl ?_
  refine zi_iload_n 29 dX11_upper_28 rfl rfl ?_
  refine zi_icmp_ne 32 60 dX11_upper_29 (by decide) rfl (fun c_29 => absurd c_29 (by decide)) (fun c_29 => ?_)
  refine zi_ldc2 35 dX11_upper_32 tw_909 rfl ?_
  refine zi_lload_n 36 dX11_upper_35 rfl rfl ?_
  refine zi_lmul 37 dX11_upper_36 rfl ?_
  refine zi_lload_n 38 dX11_upper_37 rfl rfl ?_
  refine zi_lmul 39 dX11_upper_38 rfl ?_
  refine zi_ldc2 42 dX11_upper_39 tw_909 rfl ?_
  refine zi_lload 44 dX11_upper_42 rfl rfl ?_
  refine zi_lmul 45 dX11_upper_44 rfl ?_
  refine zi_lload 47 dX11_upper_45 rfl rfl ?_
  refine zi_lmul 48 dX11_upper_47 rfl ?_
  refine zi_ladd 49 dX11_upper_48 rfl ?_
  refine zi_ldc2 52 dX11_upper_49 tw_952 rfl ?_
  refine zi_aload_n 53 dX11_upper_52 rfl rfl ?_
  refine zi_iconst (v := 0) 54 dX11_upper_53 (by decide) rfl ?_
  refine zc_virtual (n' := (0, 0)) (md' := mX11_norm4) 57 dX11_upper_54 tw_948 zv_X11_norm4 zcl_X11 (s_X11_norm4 B h D hD _ N0.1 0 (by omega)) N0.1.1 rfl rfl rfl rfl rfl rfl rfl rfl (zk_f ?_)
  rw [show zNm (ro (wR m) 0) = iz (i4n P) from (congrArg zNm hP).trans (z4i_n (V_63 hV))]
  refine zi_lmul 58 dX11_upper_57 rfl ?_
  refine zi_lsub 59 dX11_upper_58 rfl ?_
  rw [up_dg, ta_0 hV]
  exact zr_long hZ dX11_upper_59 rfl ⟨rfl, rfl⟩

set_option maxHeartbeats 4000000 in
set_option maxRecDepth 100000 in
theorem s_X11_upper1 (B : zBB) (h : zHp) (D : Nat → Nat) (hD : zInj D) (m : mS) (M : rM B D m h) (P : i4) (hV : i4V P) (hP : ro (wR m) 0 = z4i P) : zSpec mX11_upper B (1, 0, 0) [.ref (D 0), .int 0, .int 1] h (zPf (some (.long (iz (tabI P 1)))) h) := by
  refine zSpec.of (by decide) (Nat.le_of_ble_eq_true rfl) (fun X hZ => ?_)
  show zG X mX11_upper B (1, 0, 0) (0, 0) 0 [(0, .ref (D 0)), (1, .int 0), (2, .int 1)] [] h
  have N0 := rN_r M
  refine zi_aload_n 1 dX11_upper_0 rfl rfl ?_
  refine zi_getfield 4 9 dX11_upper_1 zcl_X11 tw_872 rfl rfl N0.1.1 rfl rfl ?_
  refine zi_iconst (v := 0) 5 dX11_upper_4 (by decide) rfl ?_
  refine zi_laload 6 dX11_upper_5 N0.1.2.2.2.2.2.2.2.2.1 (vp_in_nI (show 0 < 80 by decide) (by decide)) rfl ?_
  rw [show Int32.toNatClampNeg 0 = 0 from rfl]
  rw [show wR _ 0 = iz P.1 from congrArg (fun v : z4 => v.1) hP]
  refine zi_lstore_n (lv' := [(3, _), (0, _), (1, _), (2, _)]) 7 dX11_upper_6 rfl rfl rfl ?_
  refine zi_aload_n 8 dX11_upper_7 rfl rfl ?_
  refine zi_getfield 11 9 dX11_upper_8 zcl_X11 tw_872 rfl rfl N0.1.1 rfl rfl ?_
  refine zi_iconst (v := 1) 12 dX11_upper_11 (by decide) rfl ?_
  refine zi_iload_n 13 dX11_upper_12 rfl rfl ?_
  refine zi_iadd 14 dX11_upper_13 rfl ?_
  rw [show (1 : Int32) + 0 = 1 from rfl]
  refine zi_laload 15 dX11_upper_14 N0.1.2.2.2.2.2.2.2.2.1 (vp_in_nI (show 1 < 80 by decide) (by decide)) rfl ?_
  rw [show Int32.toNatClampNeg 1 = 1 from rfl]
  rw [show wR _ 1 = iz P.2.1 from congrArg (fun v : z4 => v.2.1) hP]
  refine zi_lstore (lv' := [(5, _), (3, _), (0, _), (1, _), (2, _)]) 17 dX11_upper_15 rfl rfl rfl ?_
  refine zi_aload_n 18 dX11_upper_17 rfl rfl ?_
  refine zi_getfield 21 9 dX11_upper_18 zcl_X11 tw_872 rfl rfl N0.1.1 rfl rfl ?_
  refine zi_iconst (v := 1) 22 dX11_upper_21 (by decide) rfl ?_
  refine zi_iload_n 23 dX11_upper_22 rfl rfl ?_
  refine zi_iadd 24 dX11_upper_23 rfl ?_
  rw [show (1 : Int32) + 1 = 2 from rfl]
  refine zi_laload 25 dX11_upper_24 N0.1.2.2.2.2.2.2.2.2.1 (vp_in_nI (show 2 < 80 by decide) (by decide)) rfl ?_
  rw [show Int32.toNatClampNeg 2 = 2 from rfl]
  rw [show wR _ 2 = iz P.2.2.1 from congrArg (fun v : z4 => v.2.2.1) hP]
  refine zi_lstore (lv' := [(7, _), (5, _), (3, _), (0, _), (1, _), (2, _)]) 27 dX11_upper_25 rfl rfl rfl ?_
  refine zi_iload_n 28 dX11_upper_27 rfl rfl ?_
  refine zi_iload_n 29 dX11_upper_28 rfl rfl ?_
  refine zi_icmp_ne 32 60 dX11_upper_29 (by decide) rfl (fun c_29 => ?_) (fun c_29 => absurd c_29 (by decide))
  refine zi_aload_n 61 dX11_upper_60 rfl rfl ?_
  refine zi_getfield 64 9 dX11_upper_61 zcl_X11 tw_872 rfl rfl N0.1.1 rfl rfl ?_
  refine zi_iconst (v := 1) 65 dX11_upper_64 (by decide) rfl ?_
  refine zi_iconst (v := 3) 66 dX11_upper_65 (by decide) rfl ?_
  refine zi_iload_n 67 dX11_upper_66 rfl rfl ?_
  refine zi_isub 68 dX11_upper_67 rfl ?_
  rw [show (3 : Int32) - 0 = 3 from rfl]
  refine zi_iload_n 69 dX11_upper_68 rfl rfl ?_
  refine zi_isub 70 dX11_upper_69 rfl ?_
  rw [show (3 : Int32) - 1 = 2 from rfl]
  refine zi_iadd 71 dX11_upper_70 rfl ?_
  rw [show (1 : Int32) + 2 = 3 from rfl]
  refine zi_laload 72 dX11_upper_71 N0.1.2.2.2.2.2.2.2.2.1 (vp_in_nI (show 3 < 80 by decide) (by decide)) rfl ?_
  rw [show Int32.toNatClampNeg 3 = 3 from rfl]
  rw [show wR _ 3 = iz P.2.2.2 from congrArg (fun v : z4 => v.2.2.2) hP]
  refine zi_lstore (lv' := [(9, _), (7, _), (5, _), (3, _), (0, _), (1, _), (2, _)]) 74 dX11_upper_72 rfl rfl rfl ?_
  refine zi_iload_n 75 dX11_upper_74 rfl rfl ?_
  refine zi_iconst (v := 1) 76 dX11_upper_75 (by decide) rfl ?_
  refine zi_iadd 77 dX11_upper_76 rfl ?_
  rw [show (0 : Int32) + 1 = 1 from rfl]
  refine zi_iconst (v := 3) 78 dX11_upper_77 (by decide) rfl ?_
  refine zi_irem 79 dX11_upper_78 (by decide) rfl ?_
  rw [show (1 : Int32) - 1 / 3 * 3 = 1 from rfl]
  refine zi_iload_n 80 dX11_upper_79 rfl rfl ?_
  refine zi_icmp_ne 83 87 dX11_upper_80 (by decide) rfl (fun c_80 => absurd c_80 (by decide)) (fun c_80 => ?_)
  refine zi_iconst (v := 1) 84 dX11_upper_83 (by decide) rfl ?_
  refine zi_goto 88 dX11_upper_84 (by decide) ?_
  refine zi_istore (lv' := [(11, _), (9, _), (7, _), (5, _), (3, _), (0, _), (1, _), (2, _)]) 90 dX11_upper_88 rfl rfl rfl ?_
  refine zi_ldc2 93 dX11_upper_90 tw_909 rfl ?_
  refine zi_lload 95 dX11_upper_93 rfl rfl ?_
  refine zi_lmul 96 dX11_upper_95 rfl ?_
  refine zi_lload 98 dX11_upper_96 rfl rfl ?_
  refine zi_lmul 99 dX11_upper_98 rfl ?_
  refine zi_iload 101 dX11_upper_99 rfl rfl ?_
  refine zi_if_eq 104 110 dX11_upper_101 (by decide) rfl (fun c_101 => absurd c_101 (by decide)) (fun c_101 => ?_)
  refine zi_ldc2 107 dX11_upper_104 tw_1091 rfl ?_
  refine zi_goto 113 dX11_upper_107 (by decide) ?_
  refine zi_lload_n 114 dX11_upper_113 rfl rfl ?_
  refine zi_lmul 115 dX11_upper_114 rfl ?_
  refine zi_lload 117 dX11_upper_115 rfl rfl ?_
  refine zi_lmul 118 dX11_upper_117 rfl ?_
  refine zi_ladd 119 dX11_upper_118 rfl ?_
  rw [up_mi, ta_1 hV]
  exact zr_long hZ dX11_upper_119 rfl ⟨rfl, rfl⟩

set_option maxHeartbeats 4000000 in
set_option maxRecDepth 100000 in
theorem s_X11_upper2 (B : zBB) (h : zHp) (D : Nat → Nat) (hD : zInj D) (m : mS) (M : rM B D m h) (P : i4) (hV : i4V P) (hP : ro (wR m) 0 = z4i P) : zSpec mX11_upper B (1, 0, 0) [.ref (D 0), .int 0, .int 2] h (zPf (some (.long (iz (tabI P 2)))) h) := by
  refine zSpec.of (by decide) (Nat.le_of_ble_eq_true rfl) (fun X hZ => ?_)
  show zG X mX11_upper B (1, 0, 0) (0, 0) 0 [(0, .ref (D 0)), (1, .int 0), (2, .int 2)] [] h
  have N0 := rN_r M
  refine zi_aload_n 1 dX11_upper_0 rfl rfl ?_
  refine zi_getfield 4 9 dX11_upper_1 zcl_X11 tw_872 rfl rfl N0.1.1 rfl rfl ?_
  refine zi_iconst (v := 0) 5 dX11_upper_4 (by decide) rfl ?_
  refine zi_laload 6 dX11_upper_5 N0.1.2.2.2.2.2.2.2.2.1 (vp_in_nI (show 0 < 80 by decide) (by decide)) rfl ?_
  rw [show Int32.toNatClampNeg 0 = 0 from rfl]
  rw [show wR _ 0 = iz P.1 from congrArg (fun v : z4 => v.1) hP]
  refine zi_lstore_n (lv' := [(3, _), (0, _), (1, _), (2, _)]) 7 dX11_upper_6 rfl rfl rfl ?_
  refine zi_aload_n 8 dX11_upper_7 rfl rfl ?_
  refine zi_getfield 11 9 dX11_upper_8 zcl_X11 tw_872 rfl rfl N0.1.1 rfl rfl ?_
  refine zi_iconst (v := 1) 12 dX11_upper_11 (by decide) rfl ?_
  refine zi_iload_n 13 dX11_upper_12 rfl rfl ?_
  refine zi_iadd 14 dX11_upper_13 rfl ?_
  rw [show (1 : Int32) + 0 = 1 from rfl]
  refine zi_laload 15 dX11_upper_14 N0.1.2.2.2.2.2.2.2.2.1 (vp_in_nI (show 1 < 80 by decide) (by decide)) rfl ?_
  rw [show Int32.toNatClampNeg 1 = 1 from rfl]
  rw [show wR _ 1 = iz P.2.1 from congrArg (fun v : z4 => v.2.1) hP]
  refine zi_lstore (lv' := [(5, _), (3, _), (0, _), (1, _), (2, _)]) 17 dX11_upper_15 rfl rfl rfl ?_
  refine zi_aload_n 18 dX11_upper_17 rfl rfl ?_
  refine zi_getfield 21 9 dX11_upper_18 zcl_X11 tw_872 rfl rfl N0.1.1 rfl rfl ?_
  refine zi_iconst (v := 1) 22 dX11_upper_21 (by decide) rfl ?_
  refine zi_iload_n 23 dX11_upper_22 rfl rfl ?_
  refine zi_iadd 24 dX11_upper_23 rfl ?_
  rw [show (1 : Int32) + 2 = 3 from rfl]
  refine zi_laload 25 dX11_upper_24 N0.1.2.2.2.2.2.2.2.2.1 (vp_in_nI (show 3 < 80 by decide) (by decide)) rfl ?_
  rw [show Int32.toNatClampNeg 3 = 3 from rfl]
  rw [show wR _ 3 = iz P.2.2.2 from congrArg (fun v : z4 => v.2.2.2) hP]
  refine zi_lstore (lv' := [(7, _), (5, _), (3, _), (0, _), (1, _), (2, _)]) 27 dX11_upper_25 rfl rfl rfl ?_
  refine zi_iload_n 28 dX11_upper_27 rfl rfl ?_
  refine zi_iload_n 29 dX11_upper_28 rfl rfl ?_
  refine zi_icmp_ne 32 60 dX11_upper_29 (by decide) rfl (fun c_29 => ?_) (fun c_29 => absurd c_29 (by decide))
  refine zi_aload_n 61 dX11_upper_60 rfl rfl ?_
  refine zi_getfield 64 9 dX11_upper_61 zcl_X11 tw_872 rfl rfl N0.1.1 rfl rfl ?_
  refine zi_iconst (v := 1) 65 dX11_upper_64 (by decide) rfl ?_
  refine zi_iconst (v := 3) 66 dX11_upper_65 (by decide) rfl ?_
  refine zi_iload_n 67 dX11_upper_66 rfl rfl ?_
  refine zi_isub 68 dX11_upper_67 rfl ?_
  rw [show (3 : Int32) - 0 = 3 from rfl]
  refine zi_iload_n 69 dX11_upper_68 rfl rfl ?_
  refine zi_isub 70 dX11_upper_69 rfl ?_
  rw [show (3 : Int32) - 2 = 1 from rfl]
  refine zi_iadd 71 dX11_upper_70 rfl ?_
  rw [show (1 : Int32) + 1 = 2 from rfl]
  refine zi_laload 72 dX11_upper_71 N0.1.2.2.2.2.2.2.2.2.1 (vp_in_nI (show 2 < 80 by decide) (by decide)) rfl ?_
  rw [show Int32.toNatClampNeg 2 = 2 from rfl]
  rw [show wR _ 2 = iz P.2.2.1 from congrArg (fun v : z4 => v.2.2.1) hP]
  refine zi_lstore (lv' := [(9, _), (7, _), (5, _), (3, _), (0, _), (1, _), (2, _)]) 74 dX11_upper_72 rfl rfl rfl ?_
  refine zi_iload_n 75 dX11_upper_74 rfl rfl ?_
  refine zi_iconst (v := 1) 76 dX11_upper_75 (by decide) rfl ?_
  refine zi_iadd 77 dX11_upper_76 rfl ?_
  rw [show (0 : Int32) + 1 = 1 from rfl]
  refine zi_iconst (v := 3) 78 dX11_upper_77 (by decide) rfl ?_
  refine zi_irem 79 dX11_upper_78 (by decide) rfl ?_
  rw [show (1 : Int32) - 1 / 3 * 3 = 1 from rfl]
  refine zi_iload_n 80 dX11_upper_79 rfl rfl ?_
  refine zi_icmp_ne 83 87 dX11_upper_80 (by decide) rfl (fun c_80 => ?_) (fun c_80 => absurd c_80 (by decide))
  refine zi_iconst (v := 0) 88 dX11_upper_87 (by decide) rfl ?_
  refine zi_istore (lv' := [(11, _), (9, _), (7, _), (5, _), (3, _), (0, _), (1, _), (2, _)]) 90 dX11_upper_88 rfl rfl rfl ?_
  refine zi_ldc2 93 dX11_upper_90 tw_909 rfl ?_
  refine zi_lload 95 dX11_upper_93 rfl rfl ?_
  refine zi_lmul 96 dX11_upper_95 rfl ?_
  refine zi_lload 98 dX11_upper_96 rfl rfl ?_
  refine zi_lmul 99 dX11_upper_98 rfl ?_
  refine zi_iload 101 dX11_upper_99 rfl rfl ?_
  refine zi_if_eq 104 110 dX11_upper_101 (by decide) rfl (fun c_101 => ?_) (fun c_101 => absurd c_101 (by decide))
  refine zi_ldc2 113 dX11_upper_110 tw_909 rfl ?_
  refine zi_lload_n 114 dX11_upper_113 rfl rfl ?_
  refine zi_lmul 115 dX11_upper_114 rfl ?_
  refine zi_lload 117 dX11_upper_115 rfl rfl ?_
  refine zi_lmul 118 dX11_upper_117 rfl ?_
  refine zi_ladd 119 dX11_upper_118 rfl ?_
  rw [up_pl, ta_2 hV]
  exact zr_long hZ dX11_upper_119 rfl ⟨rfl, rfl⟩

set_option maxHeartbeats 4000000 in
set_option maxRecDepth 100000 in
theorem s_X11_upper3 (B : zBB) (h : zHp) (D : Nat → Nat) (hD : zInj D) (m : mS) (M : rM B D m h) (P : i4) (hV : i4V P) (hP : ro (wR m) 0 = z4i P) : zSpec mX11_upper B (1, 0, 0) [.ref (D 0), .int 1, .int 0] h (zPf (some (.long (iz (tabI P 3)))) h) := by
  refine zSpec.of (by decide) (Nat.le_of_ble_eq_true rfl) (fun X hZ => ?_)
  show zG X mX11_upper B (1, 0, 0) (0, 0) 0 [(0, .ref (D 0)), (1, .int 1), (2, .int 0)] [] h
  have N0 := rN_r M
  refine zi_aload_n 1 dX11_upper_0 rfl rfl ?_
  refine zi_getfield 4 9 dX11_upper_1 zcl_X11 tw_872 rfl rfl N0.1.1 rfl rfl ?_
  refine zi_iconst (v := 0) 5 dX11_upper_4 (by decide) rfl ?_
  refine zi_laload 6 dX11_upper_5 N0.1.2.2.2.2.2.2.2.2.1 (vp_in_nI (show 0 < 80 by decide) (by decide)) rfl ?_
  rw [show Int32.toNatClampNeg 0 = 0 from rfl]
  rw [show wR _ 0 = iz P.1 from congrArg (fun v : z4 => v.1) hP]
  refine zi_lstore_n (lv' := [(3, _), (0, _), (1, _), (2, _)]) 7 dX11_upper_6 rfl rfl rfl ?_
  refine zi_aload_n 8 dX11_upper_7 rfl rfl ?_
  refine zi_getfield 11 9 dX11_upper_8 zcl_X11 tw_872 rfl rfl N0.1.1 rfl rfl ?_
  refine zi_iconst (v := 1) 12 dX11_upper_11 (by decide) rfl ?_
  refine zi_iload_n 13 dX11_upper_12 rfl rfl ?_
  refine zi_iadd 14 dX11_upper_13 rfl ?_
  rw [show (1 : Int32) + 1 = 2 from rfl]
  refine zi_laload 15 dX11_upper_14 N0.1.2.2.2.2.2.2.2.2.1 (vp_in_nI (show 2 < 80 by decide) (by decide)) rfl ?_
  rw [show Int32.toNatClampNeg 2 = 2 from rfl]
  rw [show wR _ 2 = iz P.2.2.1 from congrArg (fun v : z4 => v.2.2.1) hP]
  refine zi_lstore (lv' := [(5, _), (3, _), (0, _), (1, _), (2, _)]) 17 dX11_upper_15 rfl rfl rfl ?_
  refine zi_aload_n 18 dX11_upper_17 rfl rfl ?_
  refine zi_getfield 21 9 dX11_upper_18 zcl_X11 tw_872 rfl rfl N0.1.1 rfl rfl ?_
  refine zi_iconst (v := 1) 22 dX11_upper_21 (by decide) rfl ?_
  refine zi_iload_n 23 dX11_upper_22 rfl rfl ?_
  refine zi_iadd 24 dX11_upper_23 rfl ?_
  rw [show (1 : Int32) + 0 = 1 from rfl]
  refine zi_laload 25 dX11_upper_24 N0.1.2.2.2.2.2.2.2.2.1 (vp_in_nI (show 1 < 80 by decide) (by decide)) rfl ?_
  rw [show Int32.toNatClampNeg 1 = 1 from rfl]
  rw [show wR _ 1 = iz P.2.1 from congrArg (fun v : z4 => v.2.1) hP]
  refine zi_lstore (lv' := [(7, _), (5, _), (3, _), (0, _), (1, _), (2, _)]) 27 dX11_upper_25 rfl rfl rfl ?_
  refine zi_iload_n 28 dX11_upper_27 rfl rfl ?_
  refine zi_iload_n 29 dX11_upper_28 rfl rfl ?_
  refine zi_icmp_ne 32 60 dX11_upper_29 (by decide) rfl (fun c_29 => ?_) (fun c_29 => absurd c_29 (by decide))
  refine zi_aload_n 61 dX11_upper_60 rfl rfl ?_
  refine zi_getfield 64 9 dX11_upper_61 zcl_X11 tw_872 rfl rfl N0.1.1 rfl rfl ?_
  refine zi_iconst (v := 1) 65 dX11_upper_64 (by decide) rfl ?_
  refine zi_iconst (v := 3) 66 dX11_upper_65 (by decide) rfl ?_
  refine zi_iload_n 67 dX11_upper_66 rfl rfl ?_
  refine zi_isub 68 dX11_upper_67 rfl ?_
  rw [show (3 : Int32) - 1 = 2 from rfl]
  refine zi_iload_n 69 dX11_upper_68 rfl rfl ?_
  refine zi_isub 70 dX11_upper_69 rfl ?_
  rw [show (2 : Int32) - 0 = 2 from rfl]
  refine zi_iadd 71 dX11_upper_70 rfl ?_
  rw [show (1 : Int32) + 2 = 3 from rfl]
  refine zi_laload 72 dX11_upper_71 N0.1.2.2.2.2.2.2.2.2.1 (vp_in_nI (show 3 < 80 by decide) (by decide)) rfl ?_
  rw [show Int32.toNatClampNeg 3 = 3 from rfl]
  rw [show wR _ 3 = iz P.2.2.2 from congrArg (fun v : z4 => v.2.2.2) hP]
  refine zi_lstore (lv' := [(9, _), (7, _), (5, _), (3, _), (0, _), (1, _), (2, _)]) 74 dX11_upper_72 rfl rfl rfl ?_
  refine zi_iload_n 75 dX11_upper_74 rfl rfl ?_
  refine zi_iconst (v := 1) 76 dX11_upper_75 (by decide) rfl ?_
  refine zi_iadd 77 dX11_upper_76 rfl ?_
  rw [show (1 : Int32) + 1 = 2 from rfl]
  refine zi_iconst (v := 3) 78 dX11_upper_77 (by decide) rfl ?_
  refine zi_irem 79 dX11_upper_78 (by decide) rfl ?_
  rw [show (2 : Int32) - 2 / 3 * 3 = 2 from rfl]
  refine zi_iload_n 80 dX11_upper_79 rfl rfl ?_
  refine zi_icmp_ne 83 87 dX11_upper_80 (by decide) rfl (fun c_80 => ?_) (fun c_80 => absurd c_80 (by decide))
  refine zi_iconst (v := 0) 88 dX11_upper_87 (by decide) rfl ?_
  refine zi_istore (lv' := [(11, _), (9, _), (7, _), (5, _), (3, _), (0, _), (1, _), (2, _)]) 90 dX11_upper_88 rfl rfl rfl ?_
  refine zi_ldc2 93 dX11_upper_90 tw_909 rfl ?_
  refine zi_lload 95 dX11_upper_93 rfl rfl ?_
  refine zi_lmul 96 dX11_upper_95 rfl ?_
  refine zi_lload 98 dX11_upper_96 rfl rfl ?_
  refine zi_lmul 99 dX11_upper_98 rfl ?_
  refine zi_iload 101 dX11_upper_99 rfl rfl ?_
  refine zi_if_eq 104 110 dX11_upper_101 (by decide) rfl (fun c_101 => ?_) (fun c_101 => absurd c_101 (by decide))
  refine zi_ldc2 113 dX11_upper_110 tw_909 rfl ?_
  refine zi_lload_n 114 dX11_upper_113 rfl rfl ?_
  refine zi_lmul 115 dX11_upper_114 rfl ?_
  refine zi_lload 117 dX11_upper_115 rfl rfl ?_
  refine zi_lmul 118 dX11_upper_117 rfl ?_
  refine zi_ladd 119 dX11_upper_118 rfl ?_
  rw [up_pl, ta_3 hV]
  exact zr_long hZ dX11_upper_119 rfl ⟨rfl, rfl⟩

set_option maxHeartbeats 4000000 in
set_option maxRecDepth 100000 in
theorem s_X11_upper4 (B : zBB) (h : zHp) (D : Nat → Nat) (hD : zInj D) (m : mS) (M : rM B D m h) (P : i4) (hV : i4V P) (hP : ro (wR m) 0 = z4i P) : zSpec mX11_upper B (1, 0, 0) [.ref (D 0), .int 1, .int 1] h (zPf (some (.long (iz (tabI P 4)))) h) := by
  refine zSpec.of (by decide) (Nat.le_of_ble_eq_true rfl) (fun X hZ => ?_)
  show zG X mX11_upper B (1, 0, 0) (0, 0) 0 [(0, .ref (D 0)), (1, .int 1), (2, .int 1)] [] h
  have N0 := rN_r M
  refine zi_aload_n 1 dX11_upper_0 rfl rfl ?_
  refine zi_getfield 4 9 dX11_upper_1 zcl_X11 tw_872 rfl rfl N0.1.1 rfl rfl ?_
  refine zi_iconst (v := 0) 5 dX11_upper_4 (by decide) rfl ?_
  refine zi_laload 6 dX11_upper_5 N0.1.2.2.2.2.2.2.2.2.1 (vp_in_nI (show 0 < 80 by decide) (by decide)) rfl ?_
  rw [show Int32.toNatClampNeg 0 = 0 from rfl]
  rw [show wR _ 0 = iz P.1 from congrArg (fun v : z4 => v.1) hP]
  refine zi_lstore_n (lv' := [(3, _), (0, _), (1, _), (2, _)]) 7 dX11_upper_6 rfl rfl rfl ?_
  refine zi_aload_n 8 dX11_upper_7 rfl rfl ?_
  refine zi_getfield 11 9 dX11_upper_8 zcl_X11 tw_872 rfl rfl N0.1.1 rfl rfl ?_
  refine zi_iconst (v := 1) 12 dX11_upper_11 (by decide) rfl ?_
  refine zi_iload_n 13 dX11_upper_12 rfl rfl ?_
  refine zi_iadd 14 dX11_upper_13 rfl ?_
  rw [show (1 : Int32) + 1 = 2 from rfl]
  refine zi_laload 15 dX11_upper_14 N0.1.2.2.2.2.2.2.2.2.1 (vp_in_nI (show 2 < 80 by decide) (by decide)) rfl ?_
  rw [show Int32.toNatClampNeg 2 = 2 from rfl]
  rw [show wR _ 2 = iz P.2.2.1 from congrArg (fun v : z4 => v.2.2.1) hP]
  refine zi_lstore (lv' := [(5, _), (3, _), (0, _), (1, _), (2, _)]) 17 dX11_upper_15 rfl rfl rfl ?_
  refine zi_aload_n 18 dX11_upper_17 rfl rfl ?_
  refine zi_getfield 21 9 dX11_upper_18 zcl_X11 tw_872 rfl rfl N0.1.1 rfl rfl ?_
  refine zi_iconst (v := 1) 22 dX11_upper_21 (by decide) rfl ?_
  refine zi_iload_n 23 dX11_upper_22 rfl rfl ?_
  refine zi_iadd 24 dX11_upper_23 rfl ?_
  rw [show (1 : Int32) + 1 = 2 from rfl]
  refine zi_laload 25 dX11_upper_24 N0.1.2.2.2.2.2.2.2.2.1 (vp_in_nI (show 2 < 80 by decide) (by decide)) rfl ?_
  rw [show Int32.toNatClampNeg 2 = 2 from rfl]
  rw [show wR _ 2 = iz P.2.2.1 from congrArg (fun v : z4 => v.2.2.1) hP]
  refine zi_lstore (lv' := [(7, _), (5, _), (3, _), (0, _), (1, _), (2, _)]) 27 dX11_upper_25 rfl rfl rfl ?_
  refine zi_iload_n 28 dX11_upper_27 rfl rfl ?_
  refine zi_iload_n 29 dX11_upper_28 rfl rfl ?_
  refine zi_icmp_ne 32 60 dX11_upper_29 (by decide) rfl (fun c_29 => absurd c_29 (by decide)) (fun c_29 => ?_)
  refine zi_ldc2 35 dX11_upper_32 tw_909 rfl ?_
  refine zi_lload_n 36 dX11_upper_35 rfl rfl ?_
  refine zi_lmul 37 dX11_upper_36 rfl ?_
  refine zi_lload_n 38 dX11_upper_37 rfl rfl ?_
  refine zi_lmul 39 dX11_upper_38 rfl ?_
  refine zi_ldc2 42 dX11_upper_39 tw_909 rfl ?_
  refine zi_lload 44 dX11_upper_42 rfl rfl ?_
  refine zi_lmul 45 dX11_upper_44 rfl ?_
  refine zi_lload 47 dX11_upper_45 rfl rfl ?_
  refine zi_lmul 48 dX11_upper_47 rfl ?_
  refine zi_ladd 49 dX11_upper_48 rfl ?_
  refine zi_ldc2 52 dX11_upper_49 tw_952 rfl ?_
  refine zi_aload_n 53 dX11_upper_52 rfl rfl ?_
  refine zi_iconst (v := 0) 54 dX11_upper_53 (by decide) rfl ?_
  refine zc_virtual (n' := (0, 0)) (md' := mX11_norm4) 57 dX11_upper_54 tw_948 zv_X11_norm4 zcl_X11 (s_X11_norm4 B h D hD _ N0.1 0 (by omega)) N0.1.1 rfl rfl rfl rfl rfl rfl rfl rfl (zk_f ?_)
  rw [show zNm (ro (wR m) 0) = iz (i4n P) from (congrArg zNm hP).trans (z4i_n (V_63 hV))]
  refine zi_lmul 58 dX11_upper_57 rfl ?_
  refine zi_lsub 59 dX11_upper_58 rfl ?_
  rw [up_dg, ta_4 hV]
  exact zr_long hZ dX11_upper_59 rfl ⟨rfl, rfl⟩

set_option maxHeartbeats 4000000 in
set_option maxRecDepth 100000 in
theorem s_X11_upper5 (B : zBB) (h : zHp) (D : Nat → Nat) (hD : zInj D) (m : mS) (M : rM B D m h) (P : i4) (hV : i4V P) (hP : ro (wR m) 0 = z4i P) : zSpec mX11_upper B (1, 0, 0) [.ref (D 0), .int 1, .int 2] h (zPf (some (.long (iz (tabI P 5)))) h) := by
  refine zSpec.of (by decide) (Nat.le_of_ble_eq_true rfl) (fun X hZ => ?_)
  show zG X mX11_upper B (1, 0, 0) (0, 0) 0 [(0, .ref (D 0)), (1, .int 1), (2, .int 2)] [] h
  have N0 := rN_r M
  refine zi_aload_n 1 dX11_upper_0 rfl rfl ?_
  refine zi_getfield 4 9 dX11_upper_1 zcl_X11 tw_872 rfl rfl N0.1.1 rfl rfl ?_
  refine zi_iconst (v := 0) 5 dX11_upper_4 (by decide) rfl ?_
  refine zi_laload 6 dX11_upper_5 N0.1.2.2.2.2.2.2.2.2.1 (vp_in_nI (show 0 < 80 by decide) (by decide)) rfl ?_
  rw [show Int32.toNatClampNeg 0 = 0 from rfl]
  rw [show wR _ 0 = iz P.1 from congrArg (fun v : z4 => v.1) hP]
  refine zi_lstore_n (lv' := [(3, _), (0, _), (1, _), (2, _)]) 7 dX11_upper_6 rfl rfl rfl ?_
  refine zi_aload_n 8 dX11_upper_7 rfl rfl ?_
  refine zi_getfield 11 9 dX11_upper_8 zcl_X11 tw_872 rfl rfl N0.1.1 rfl rfl ?_
  refine zi_iconst (v := 1) 12 dX11_upper_11 (by decide) rfl ?_
  refine zi_iload_n 13 dX11_upper_12 rfl rfl ?_
  refine zi_iadd 14 dX11_upper_13 rfl ?_
  rw [show (1 : Int32) + 1 = 2 from rfl]
  refine zi_laload 15 dX11_upper_14 N0.1.2.2.2.2.2.2.2.2.1 (vp_in_nI (show 2 < 80 by decide) (by decide)) rfl ?_
  rw [show Int32.toNatClampNeg 2 = 2 from rfl]
  rw [show wR _ 2 = iz P.2.2.1 from congrArg (fun v : z4 => v.2.2.1) hP]
  refine zi_lstore (lv' := [(5, _), (3, _), (0, _), (1, _), (2, _)]) 17 dX11_upper_15 rfl rfl rfl ?_
  refine zi_aload_n 18 dX11_upper_17 rfl rfl ?_
  refine zi_getfield 21 9 dX11_upper_18 zcl_X11 tw_872 rfl rfl N0.1.1 rfl rfl ?_
  refine zi_iconst (v := 1) 22 dX11_upper_21 (by decide) rfl ?_
  refine zi_iload_n 23 dX11_upper_22 rfl rfl ?_
  refine zi_iadd 24 dX11_upper_23 rfl ?_
  rw [show (1 : Int32) + 2 = 3 from rfl]
  refine zi_laload 25 dX11_upper_24 N0.1.2.2.2.2.2.2.2.2.1 (vp_in_nI (show 3 < 80 by decide) (by decide)) rfl ?_
  rw [show Int32.toNatClampNeg 3 = 3 from rfl]
  rw [show wR _ 3 = iz P.2.2.2 from congrArg (fun v : z4 => v.2.2.2) hP]
  refine zi_lstore (lv' := [(7, _), (5, _), (3, _), (0, _), (1, _), (2, _)]) 27 dX11_upper_25 rfl rfl rfl ?_
  refine zi_iload_n 28 dX11_upper_27 rfl rfl ?_
  refine zi_iload_n 29 dX11_upper_28 rfl rfl ?_
  refine zi_icmp_ne 32 60 dX11_upper_29 (by decide) rfl (fun c_29 => ?_) (fun c_29 => absurd c_29 (by decide))
  refine zi_aload_n 61 dX11_upper_60 rfl rfl ?_
  refine zi_getfield 64 9 dX11_upper_61 zcl_X11 tw_872 rfl rfl N0.1.1 rfl rfl ?_
  refine zi_iconst (v := 1) 65 dX11_upper_64 (by decide) rfl ?_
  refine zi_iconst (v := 3) 66 dX11_upper_65 (by decide) rfl ?_
  refine zi_iload_n 67 dX11_upper_66 rfl rfl ?_
  refine zi_isub 68 dX11_upper_67 rfl ?_
  rw [show (3 : Int32) - 1 = 2 from rfl]
  refine zi_iload_n 69 dX11_upper_68 rfl rfl ?_
  refine zi_isub 70 dX11_upper_69 rfl ?_
  rw [show (2 : Int32) - 2 = 0 from rfl]
  refine zi_iadd 71 dX11_upper_70 rfl ?_
  rw [show (1 : Int32) + 0 = 1 from rfl]
  refine zi_laload 72 dX11_upper_71 N0.1.2.2.2.2.2.2.2.2.1 (vp_in_nI (show 1 < 80 by decide) (by decide)) rfl ?_
  rw [show Int32.toNatClampNeg 1 = 1 from rfl]
  rw [show wR _ 1 = iz P.2.1 from congrArg (fun v : z4 => v.2.1) hP]
  refine zi_lstore (lv' := [(9, _), (7, _), (5, _), (3, _), (0, _), (1, _), (2, _)]) 74 dX11_upper_72 rfl rfl rfl ?_
  refine zi_iload_n 75 dX11_upper_74 rfl rfl ?_
  refine zi_iconst (v := 1) 76 dX11_upper_75 (by decide) rfl ?_
  refine zi_iadd 77 dX11_upper_76 rfl ?_
  rw [show (1 : Int32) + 1 = 2 from rfl]
  refine zi_iconst (v := 3) 78 dX11_upper_77 (by decide) rfl ?_
  refine zi_irem 79 dX11_upper_78 (by decide) rfl ?_
  rw [show (2 : Int32) - 2 / 3 * 3 = 2 from rfl]
  refine zi_iload_n 80 dX11_upper_79 rfl rfl ?_
  refine zi_icmp_ne 83 87 dX11_upper_80 (by decide) rfl (fun c_80 => absurd c_80 (by decide)) (fun c_80 => ?_)
  refine zi_iconst (v := 1) 84 dX11_upper_83 (by decide) rfl ?_
  refine zi_goto 88 dX11_upper_84 (by decide) ?_
  refine zi_istore (lv' := [(11, _), (9, _), (7, _), (5, _), (3, _), (0, _), (1, _), (2, _)]) 90 dX11_upper_88 rfl rfl rfl ?_
  refine zi_ldc2 93 dX11_upper_90 tw_909 rfl ?_
  refine zi_lload 95 dX11_upper_93 rfl rfl ?_
  refine zi_lmul 96 dX11_upper_95 rfl ?_
  refine zi_lload 98 dX11_upper_96 rfl rfl ?_
  refine zi_lmul 99 dX11_upper_98 rfl ?_
  refine zi_iload 101 dX11_upper_99 rfl rfl ?_
  refine zi_if_eq 104 110 dX11_upper_101 (by decide) rfl (fun c_101 => absurd c_101 (by decide)) (fun c_101 => ?_)
  refine zi_ldc2 107 dX11_upper_104 tw_1091 rfl ?_
  refine zi_goto 113 dX11_upper_107 (by decide) ?_
  refine zi_lload_n 114 dX11_upper_113 rfl rfl ?_
  refine zi_lmul 115 dX11_upper_114 rfl ?_
  refine zi_lload 117 dX11_upper_115 rfl rfl ?_
  refine zi_lmul 118 dX11_upper_117 rfl ?_
  refine zi_ladd 119 dX11_upper_118 rfl ?_
  rw [up_mi, ta_5 hV]
  exact zr_long hZ dX11_upper_119 rfl ⟨rfl, rfl⟩

set_option maxHeartbeats 4000000 in
set_option maxRecDepth 100000 in
theorem s_X11_upper6 (B : zBB) (h : zHp) (D : Nat → Nat) (hD : zInj D) (m : mS) (M : rM B D m h) (P : i4) (hV : i4V P) (hP : ro (wR m) 0 = z4i P) : zSpec mX11_upper B (1, 0, 0) [.ref (D 0), .int 2, .int 0] h (zPf (some (.long (iz (tabI P 6)))) h) := by
  refine zSpec.of (by decide) (Nat.le_of_ble_eq_true rfl) (fun X hZ => ?_)
  show zG X mX11_upper B (1, 0, 0) (0, 0) 0 [(0, .ref (D 0)), (1, .int 2), (2, .int 0)] [] h
  have N0 := rN_r M
  refine zi_aload_n 1 dX11_upper_0 rfl rfl ?_
  refine zi_getfield 4 9 dX11_upper_1 zcl_X11 tw_872 rfl rfl N0.1.1 rfl rfl ?_
  refine zi_iconst (v := 0) 5 dX11_upper_4 (by decide) rfl ?_
  refine zi_laload 6 dX11_upper_5 N0.1.2.2.2.2.2.2.2.2.1 (vp_in_nI (show 0 < 80 by decide) (by decide)) rfl ?_
  rw [show Int32.toNatClampNeg 0 = 0 from rfl]
  rw [show wR _ 0 = iz P.1 from congrArg (fun v : z4 => v.1) hP]
  refine zi_lstore_n (lv' := [(3, _), (0, _), (1, _), (2, _)]) 7 dX11_upper_6 rfl rfl rfl ?_
  refine zi_aload_n 8 dX11_upper_7 rfl rfl ?_
  refine zi_getfield 11 9 dX11_upper_8 zcl_X11 tw_872 rfl rfl N0.1.1 rfl rfl ?_
  refine zi_iconst (v := 1) 12 dX11_upper_11 (by decide) rfl ?_
  refine zi_iload_n 13 dX11_upper_12 rfl rfl ?_
  refine zi_iadd 14 dX11_upper_13 rfl ?_
  rw [show (1 : Int32) + 2 = 3 from rfl]
  refine zi_laload 15 dX11_upper_14 N0.1.2.2.2.2.2.2.2.2.1 (vp_in_nI (show 3 < 80 by decide) (by decide)) rfl ?_
  rw [show Int32.toNatClampNeg 3 = 3 from rfl]
  rw [show wR _ 3 = iz P.2.2.2 from congrArg (fun v : z4 => v.2.2.2) hP]
  refine zi_lstore (lv' := [(5, _), (3, _), (0, _), (1, _), (2, _)]) 17 dX11_upper_15 rfl rfl rfl ?_
  refine zi_aload_n 18 dX11_upper_17 rfl rfl ?_
  refine zi_getfield 21 9 dX11_upper_18 zcl_X11 tw_872 rfl rfl N0.1.1 rfl rfl ?_
  refine zi_iconst (v := 1) 22 dX11_upper_21 (by decide) rfl ?_
  refine zi_iload_n 23 dX11_upper_22 rfl rfl ?_
  refine zi_iadd 24 dX11_upper_23 rfl ?_
  rw [show (1 : Int32) + 0 = 1 from rfl]
  refine zi_laload 25 dX11_upper_24 N0.1.2.2.2.2.2.2.2.2.1 (vp_in_nI (show 1 < 80 by decide) (by decide)) rfl ?_
  rw [show Int32.toNatClampNeg 1 = 1 from rfl]
  rw [show wR _ 1 = iz P.2.1 from congrArg (fun v : z4 => v.2.1) hP]
  refine zi_lstore (lv' := [(7, _), (5, _), (3, _), (0, _), (1, _), (2, _)]) 27 dX11_upper_25 rfl rfl rfl ?_
  refine zi_iload_n 28 dX11_upper_27 rfl rfl ?_
  refine zi_iload_n 29 dX11_upper_28 rfl rfl ?_
  refine zi_icmp_ne 32 60 dX11_upper_29 (by decide) rfl (fun c_29 => ?_) (fun c_29 => absurd c_29 (by decide))
  refine zi_aload_n 61 dX11_upper_60 rfl rfl ?_
  refine zi_getfield 64 9 dX11_upper_61 zcl_X11 tw_872 rfl rfl N0.1.1 rfl rfl ?_
  refine zi_iconst (v := 1) 65 dX11_upper_64 (by decide) rfl ?_
  refine zi_iconst (v := 3) 66 dX11_upper_65 (by decide) rfl ?_
  refine zi_iload_n 67 dX11_upper_66 rfl rfl ?_
  refine zi_isub 68 dX11_upper_67 rfl ?_
  rw [show (3 : Int32) - 2 = 1 from rfl]
  refine zi_iload_n 69 dX11_upper_68 rfl rfl ?_
  refine zi_isub 70 dX11_upper_69 rfl ?_
  rw [show (1 : Int32) - 0 = 1 from rfl]
  refine zi_iadd 71 dX11_upper_70 rfl ?_
  rw [show (1 : Int32) + 1 = 2 from rfl]
  refine zi_laload 72 dX11_upper_71 N0.1.2.2.2.2.2.2.2.2.1 (vp_in_nI (show 2 < 80 by decide) (by decide)) rfl ?_
  rw [show Int32.toNatClampNeg 2 = 2 from rfl]
  rw [show wR _ 2 = iz P.2.2.1 from congrArg (fun v : z4 => v.2.2.1) hP]
  refine zi_lstore (lv' := [(9, _), (7, _), (5, _), (3, _), (0, _), (1, _), (2, _)]) 74 dX11_upper_72 rfl rfl rfl ?_
  refine zi_iload_n 75 dX11_upper_74 rfl rfl ?_
  refine zi_iconst (v := 1) 76 dX11_upper_75 (by decide) rfl ?_
  refine zi_iadd 77 dX11_upper_76 rfl ?_
  rw [show (2 : Int32) + 1 = 3 from rfl]
  refine zi_iconst (v := 3) 78 dX11_upper_77 (by decide) rfl ?_
  refine zi_irem 79 dX11_upper_78 (by decide) rfl ?_
  rw [show (3 : Int32) - 3 / 3 * 3 = 0 from rfl]
  refine zi_iload_n 80 dX11_upper_79 rfl rfl ?_
  refine zi_icmp_ne 83 87 dX11_upper_80 (by decide) rfl (fun c_80 => absurd c_80 (by decide)) (fun c_80 => ?_)
  refine zi_iconst (v := 1) 84 dX11_upper_83 (by decide) rfl ?_
  refine zi_goto 88 dX11_upper_84 (by decide) ?_
  refine zi_istore (lv' := [(11, _), (9, _), (7, _), (5, _), (3, _), (0, _), (1, _), (2, _)]) 90 dX11_upper_88 rfl rfl rfl ?_
  refine zi_ldc2 93 dX11_upper_90 tw_909 rfl ?_
  refine zi_lload 95 dX11_upper_93 rfl rfl ?_
  refine zi_lmul 96 dX11_upper_95 rfl ?_
  refine zi_lload 98 dX11_upper_96 rfl rfl ?_
  refine zi_lmul 99 dX11_upper_98 rfl ?_
  refine zi_iload 101 dX11_upper_99 rfl rfl ?_
  refine zi_if_eq 104 110 dX11_upper_101 (by decide) rfl (fun c_101 => absurd c_101 (by decide)) (fun c_101 => ?_)
  refine zi_ldc2 107 dX11_upper_104 tw_1091 rfl ?_
  refine zi_goto 113 dX11_upper_107 (by decide) ?_
  refine zi_lload_n 114 dX11_upper_113 rfl rfl ?_
  refine zi_lmul 115 dX11_upper_114 rfl ?_
  refine zi_lload 117 dX11_upper_115 rfl rfl ?_
  refine zi_lmul 118 dX11_upper_117 rfl ?_
  refine zi_ladd 119 dX11_upper_118 rfl ?_
  rw [up_mi, ta_6 hV]
  exact zr_long hZ dX11_upper_119 rfl ⟨rfl, rfl⟩

set_option maxHeartbeats 4000000 in
set_option maxRecDepth 100000 in
theorem s_X11_upper7 (B : zBB) (h : zHp) (D : Nat → Nat) (hD : zInj D) (m : mS) (M : rM B D m h) (P : i4) (hV : i4V P) (hP : ro (wR m) 0 = z4i P) : zSpec mX11_upper B (1, 0, 0) [.ref (D 0), .int 2, .int 1] h (zPf (some (.long (iz (tabI P 7)))) h) := by
  refine zSpec.of (by decide) (Nat.le_of_ble_eq_true rfl) (fun X hZ => ?_)
  show zG X mX11_upper B (1, 0, 0) (0, 0) 0 [(0, .ref (D 0)), (1, .int 2), (2, .int 1)] [] h
  have N0 := rN_r M
  refine zi_aload_n 1 dX11_upper_0 rfl rfl ?_
  refine zi_getfield 4 9 dX11_upper_1 zcl_X11 tw_872 rfl rfl N0.1.1 rfl rfl ?_
  refine zi_iconst (v := 0) 5 dX11_upper_4 (by decide) rfl ?_
  refine zi_laload 6 dX11_upper_5 N0.1.2.2.2.2.2.2.2.2.1 (vp_in_nI (show 0 < 80 by decide) (by decide)) rfl ?_
  rw [show Int32.toNatClampNeg 0 = 0 from rfl]
  rw [show wR _ 0 = iz P.1 from congrArg (fun v : z4 => v.1) hP]
  refine zi_lstore_n (lv' := [(3, _), (0, _), (1, _), (2, _)]) 7 dX11_upper_6 rfl rfl rfl ?_
  refine zi_aload_n 8 dX11_upper_7 rfl rfl ?_
  refine zi_getfield 11 9 dX11_upper_8 zcl_X11 tw_872 rfl rfl N0.1.1 rfl rfl ?_
  refine zi_iconst (v := 1) 12 dX11_upper_11 (by decide) rfl ?_
  refine zi_iload_n 13 dX11_upper_12 rfl rfl ?_
  refine zi_iadd 14 dX11_upper_13 rfl ?_
  rw [show (1 : Int32) + 2 = 3 from rfl]
  refine zi_laload 15 dX11_upper_14 N0.1.2.2.2.2.2.2.2.2.1 (vp_in_nI (show 3 < 80 by decide) (by decide)) rfl ?_
  rw [show Int32.toNatClampNeg 3 = 3 from rfl]
  rw [show wR _ 3 = iz P.2.2.2 from congrArg (fun v : z4 => v.2.2.2) hP]
  refine zi_lstore (lv' := [(5, _), (3, _), (0, _), (1, _), (2, _)]) 17 dX11_upper_15 rfl rfl rfl ?_
  refine zi_aload_n 18 dX11_upper_17 rfl rfl ?_
  refine zi_getfield 21 9 dX11_upper_18 zcl_X11 tw_872 rfl rfl N0.1.1 rfl rfl ?_
  refine zi_iconst (v := 1) 22 dX11_upper_21 (by decide) rfl ?_
  refine zi_iload_n 23 dX11_upper_22 rfl rfl ?_
  refine zi_iadd 24 dX11_upper_23 rfl ?_
  rw [show (1 : Int32) + 1 = 2 from rfl]
  refine zi_laload 25 dX11_upper_24 N0.1.2.2.2.2.2.2.2.2.1 (vp_in_nI (show 2 < 80 by decide) (by decide)) rfl ?_
  rw [show Int32.toNatClampNeg 2 = 2 from rfl]
  rw [show wR _ 2 = iz P.2.2.1 from congrArg (fun v : z4 => v.2.2.1) hP]
  refine zi_lstore (lv' := [(7, _), (5, _), (3, _), (0, _), (1, _), (2, _)]) 27 dX11_upper_25 rfl rfl rfl ?_
  refine zi_iload_n 28 dX11_upper_27 rfl rfl ?_
  refine zi_iload_n 29 dX11_upper_28 rfl rfl ?_
  refine zi_icmp_ne 32 60 dX11_upper_29 (by decide) rfl (fun c_29 => ?_) (fun c_29 => absurd c_29 (by decide))
  refine zi_aload_n 61 dX11_upper_60 rfl rfl ?_
  refine zi_getfield 64 9 dX11_upper_61 zcl_X11 tw_872 rfl rfl N0.1.1 rfl rfl ?_
  refine zi_iconst (v := 1) 65 dX11_upper_64 (by decide) rfl ?_
  refine zi_iconst (v := 3) 66 dX11_upper_65 (by decide) rfl ?_
  refine zi_iload_n 67 dX11_upper_66 rfl rfl ?_
  refine zi_isub 68 dX11_upper_67 rfl ?_
  rw [show (3 : Int32) - 2 = 1 from rfl]
  refine zi_iload_n 69 dX11_upper_68 rfl rfl ?_
  refine zi_isub 70 dX11_upper_69 rfl ?_
  rw [show (1 : Int32) - 1 = 0 from rfl]
  refine zi_iadd 71 dX11_upper_70 rfl ?_
  rw [show (1 : Int32) + 0 = 1 from rfl]
  refine zi_laload 72 dX11_upper_71 N0.1.2.2.2.2.2.2.2.2.1 (vp_in_nI (show 1 < 80 by decide) (by decide)) rfl ?_
  rw [show Int32.toNatClampNeg 1 = 1 from rfl]
  rw [show wR _ 1 = iz P.2.1 from congrArg (fun v : z4 => v.2.1) hP]
  refine zi_lstore (lv' := [(9, _), (7, _), (5, _), (3, _), (0, _), (1, _), (2, _)]) 74 dX11_upper_72 rfl rfl rfl ?_
  refine zi_iload_n 75 dX11_upper_74 rfl rfl ?_
  refine zi_iconst (v := 1) 76 dX11_upper_75 (by decide) rfl ?_
  refine zi_iadd 77 dX11_upper_76 rfl ?_
  rw [show (2 : Int32) + 1 = 3 from rfl]
  refine zi_iconst (v := 3) 78 dX11_upper_77 (by decide) rfl ?_
  refine zi_irem 79 dX11_upper_78 (by decide) rfl ?_
  rw [show (3 : Int32) - 3 / 3 * 3 = 0 from rfl]
  refine zi_iload_n 80 dX11_upper_79 rfl rfl ?_
  refine zi_icmp_ne 83 87 dX11_upper_80 (by decide) rfl (fun c_80 => ?_) (fun c_80 => absurd c_80 (by decide))
  refine zi_iconst (v := 0) 88 dX11_upper_87 (by decide) rfl ?_
  refine zi_istore (lv' := [(11, _), (9, _), (7, _), (5, _), (3, _), (0, _), (1, _), (2, _)]) 90 dX11_upper_88 rfl rfl rfl ?_
  refine zi_ldc2 93 dX11_upper_90 tw_909 rfl ?_
  refine zi_lload 95 dX11_upper_93 rfl rfl ?_
  refine zi_lmul 96 dX11_upper_95 rfl ?_
  refine zi_lload 98 dX11_upper_96 rfl rfl ?_
  refine zi_lmul 99 dX11_upper_98 rfl ?_
  refine zi_iload 101 dX11_upper_99 rfl rfl ?_
  refine zi_if_eq 104 110 dX11_upper_101 (by decide) rfl (fun c_101 => ?_) (fun c_101 => absurd c_101 (by decide))
  refine zi_ldc2 113 dX11_upper_110 tw_909 rfl ?_
  refine zi_lload_n 114 dX11_upper_113 rfl rfl ?_
  refine zi_lmul 115 dX11_upper_114 rfl ?_
  refine zi_lload 117 dX11_upper_115 rfl rfl ?_
  refine zi_lmul 118 dX11_upper_117 rfl ?_
  refine zi_ladd 119 dX11_upper_118 rfl ?_
  rw [up_pl, ta_7 hV]
  exact zr_long hZ dX11_upper_119 rfl ⟨rfl, rfl⟩

set_option maxHeartbeats 4000000 in
set_option maxRecDepth 100000 in
theorem s_X11_upper8 (B : zBB) (h : zHp) (D : Nat → Nat) (hD : zInj D) (m : mS) (M : rM B D m h) (P : i4) (hV : i4V P) (hP : ro (wR m) 0 = z4i P) : zSpec mX11_upper B (1, 0, 0) [.ref (D 0), .int 2, .int 2] h (zPf (some (.long (iz (tabI P 8)))) h) := by
  refine zSpec.of (by decide) (Nat.le_of_ble_eq_true rfl) (fun X hZ => ?_)
  show zG X mX11_upper B (1, 0, 0) (0, 0) 0 [(0, .ref (D 0)), (1, .int 2), (2, .int 2)] [] h
  have N0 := rN_r M
  refine zi_aload_n 1 dX11_upper_0 rfl rfl ?_
  refine zi_getfield 4 9 dX11_upper_1 zcl_X11 tw_872 rfl rfl N0.1.1 rfl rfl ?_
  refine zi_iconst (v := 0) 5 dX11_upper_4 (by decide) rfl ?_
  refine zi_laload 6 dX11_upper_5 N0.1.2.2.2.2.2.2.2.2.1 (vp_in_nI (show 0 < 80 by decide) (by decide)) rfl ?_
  rw [show Int32.toNatClampNeg 0 = 0 from rfl]
  rw [show wR _ 0 = iz P.1 from congrArg (fun v : z4 => v.1) hP]
  refine zi_lstore_n (lv' := [(3, _), (0, _), (1, _), (2, _)]) 7 dX11_upper_6 rfl rfl rfl ?_
  refine zi_aload_n 8 dX11_upper_7 rfl rfl ?_
  refine zi_getfield 11 9 dX11_upper_8 zcl_X11 tw_872 rfl rfl N0.1.1 rfl rfl ?_
  refine zi_iconst (v := 1) 12 dX11_upper_11 (by decide) rfl ?_
  refine zi_iload_n 13 dX11_upper_12 rfl rfl ?_
  refine zi_iadd 14 dX11_upper_13 rfl ?_
  rw [show (1 : Int32) + 2 = 3 from rfl]
  refine zi_laload 15 dX11_upper_14 N0.1.2.2.2.2.2.2.2.2.1 (vp_in_nI (show 3 < 80 by decide) (by decide)) rfl ?_
  rw [show Int32.toNatClampNeg 3 = 3 from rfl]
  rw [show wR _ 3 = iz P.2.2.2 from congrArg (fun v : z4 => v.2.2.2) hP]
  refine zi_lstore (lv' := [(5, _), (3, _), (0, _), (1, _), (2, _)]) 17 dX11_upper_15 rfl rfl rfl ?_
  refine zi_aload_n 18 dX11_upper_17 rfl rfl ?_
  refine zi_getfield 21 9 dX11_upper_18 zcl_X11 tw_872 rfl rfl N0.1.1 rfl rfl ?_
  refine zi_iconst (v := 1) 22 dX11_upper_21 (by decide) rfl ?_
  refine zi_iload_n 23 dX11_upper_22 rfl rfl ?_
  refine zi_iadd 24 dX11_upper_23 rfl ?_
  rw [show (1 : Int32) + 2 = 3 from rfl]
  refine zi_laload 25 dX11_upper_24 N0.1.2.2.2.2.2.2.2.2.1 (vp_in_nI (show 3 < 80 by decide) (by decide)) rfl ?_
  rw [show Int32.toNatClampNeg 3 = 3 from rfl]
  rw [show wR _ 3 = iz P.2.2.2 from congrArg (fun v : z4 => v.2.2.2) hP]
  refine zi_lstore (lv' := [(7, _), (5, _), (3, _), (0, _), (1, _), (2, _)]) 27 dX11_upper_25 rfl rfl rfl ?_
  refine zi_iload_n 28 dX11_upper_27 rfl rfl ?_
  refine zi_iload_n 29 dX11_upper_28 rfl rfl ?_
  refine zi_icmp_ne 32 60 dX11_upper_29 (by decide) rfl (fun c_29 => absurd c_29 (by decide)) (fun c_29 => ?_)
  refine zi_ldc2 35 dX11_upper_32 tw_909 rfl ?_
  refine zi_lload_n 36 dX11_upper_35 rfl rfl ?_
  refine zi_lmul 37 dX11_upper_36 rfl ?_
  refine zi_lload_n 38 dX11_upper_37 rfl rfl ?_
  refine zi_lmul 39 dX11_upper_38 rfl ?_
  refine zi_ldc2 42 dX11_upper_39 tw_909 rfl ?_
  refine zi_lload 44 dX11_upper_42 rfl rfl ?_
  refine zi_lmul 45 dX11_upper_44 rfl ?_
  refine zi_lload 47 dX11_upper_45 rfl rfl ?_
  refine zi_lmul 48 dX11_upper_47 rfl ?_
  refine zi_ladd 49 dX11_upper_48 rfl ?_
  refine zi_ldc2 52 dX11_upper_49 tw_952 rfl ?_
  refine zi_aload_n 53 dX11_upper_52 rfl rfl ?_
  refine zi_iconst (v := 0) 54 dX11_upper_53 (by decide) rfl ?_
  refine zc_virtual (n' := (0, 0)) (md' := mX11_norm4) 57 dX11_upper_54 tw_948 zv_X11_norm4 zcl_X11 (s_X11_norm4 B h D hD _ N0.1 0 (by omega)) N0.1.1 rfl rfl rfl rfl rfl rfl rfl rfl (zk_f ?_)
  rw [show zNm (ro (wR m) 0) = iz (i4n P) from (congrArg zNm hP).trans (z4i_n (V_63 hV))]
  refine zi_lmul 58 dX11_upper_57 rfl ?_
  refine zi_lsub 59 dX11_upper_58 rfl ?_
  rw [up_dg, ta_8 hV]
  exact zr_long hZ dX11_upper_59 rfl ⟨rfl, rfl⟩

set_option maxHeartbeats 4000000 in
set_option maxRecDepth 100000 in
theorem s_X11_part2 (B : zBB) (h : zHp) (D : Nat → Nat) (hD : zInj D) (m : mS) (M : rM B D m h) (u l : Int) (w : Int32) (hl : 0 < l) (hu : u.natAbs < 9223372036854775808) (hl2 : l.natAbs < 9223372036854775808) : zSpec mX11_part2 B (1, 0, 0) [.ref (D 0), .long (iz u), .long (iz l), .int w] h (zPl (fun x h' => x = iz (ltI u l w) ∧ rN B D (uF m 0) h h')) := by
  refine zSpec.of (by decide) (Nat.le_of_ble_eq_true rfl) (fun X hZ => ?_)
  show zG X mX11_part2 B (1, 0, 0) (0, 0) 0 [(0, .ref (D 0)), (1, .long (iz u)), (3, .long (iz l)), (5, .int w)] [] h
  have N0 := rN_r M
  refine zi_lload_n 1 dX11_part2_0 rfl rfl ?_
  refine zi_lload_n 2 dX11_part2_1 rfl rfl ?_
  refine zc_static (n' := (0, 0)) (md' := mX11_divisor) 5 dX11_part2_2 tw_970 zs_X11_divisor (s_X11_divisor B h _ _ (iz_nm hu) (iz_nm hl2)) rfl rfl rfl rfl rfl rfl rfl rfl (zk_f ?_)
  rw [gcd_iz hu hl2]
  have hg := gcd_lt hu hl2
  have hg0 : ¬ lN (Nat.gcd u.natAbs l.natAbs) = 0 := fun e => by rw [lN_0e hg] at e; have := Nat.gcd_pos_of_pos_right u.natAbs (show 0 < l.natAbs by omega); omega
  refine zi_lstore (lv' := [(6, _), (0, _), (1, _), (3, _), (5, _)]) 7 dX11_part2_5 rfl rfl rfl ?_
  refine zi_aload_n 8 dX11_part2_7 rfl rfl ?_
  refine zi_iconst (v := 0) 9 dX11_part2_8 (by decide) rfl ?_
  refine zi_putfield (fs' := [_, _, _, _, _, _, _, _, _, _, _]) 12 6 dX11_part2_9 zcl_X11 tyX11 tyX11_ok nmX11 tw_869 rfl rfl rfl N0.1.1 rfl rfl rfl rfl rfl rfl ?_
  refine zk_h (fun h1 k1 => ?_)
  have N1 := rN_F hD N0 k1
  refine zi_iload 14 dX11_part2_12 rfl rfl ?_
  refine zi_if_ne 17 24 dX11_part2_14 (by decide) rfl (fun zzW => ?_) (fun zzW => ?_)
  ·
    refine zi_lload_n 25 dX11_part2_24 rfl rfl ?_
    refine zi_lload 27 dX11_part2_25 rfl rfl ?_
    refine zi_ldiv 28 dX11_part2_27 hg0 rfl ?_
    first | rw [iz_dx hu hg (Int.natAbs_dvd_natAbs.mp (Nat.gcd_dvd_left _ _))] | rw [iz_dx hl2 hg (Int.natAbs_dvd_natAbs.mp (Nat.gcd_dvd_right _ _))]
    exact zr_long hZ dX11_part2_28 rfl ⟨_, rfl, by unfold ltI; first | rw [if_pos zzW] | rw [if_neg zzW], N1⟩
  ·
    refine zi_lload_n 18 dX11_part2_17 rfl rfl ?_
    refine zi_lload 20 dX11_part2_18 rfl rfl ?_
    refine zi_ldiv 21 dX11_part2_20 hg0 rfl ?_
    refine zi_goto 28 dX11_part2_21 (by decide) ?_
    first | rw [iz_dx hu hg (Int.natAbs_dvd_natAbs.mp (Nat.gcd_dvd_left _ _))] | rw [iz_dx hl2 hg (Int.natAbs_dvd_natAbs.mp (Nat.gcd_dvd_right _ _))]
    exact zr_long hZ dX11_part2_28 rfl ⟨_, rfl, by unfold ltI; first | rw [if_pos zzW] | rw [if_neg zzW], N1⟩

set_option maxHeartbeats 2000000 in
set_option maxRecDepth 100000 in
theorem l_X11_indexOf (B : zBB) (h : zHp) (X : zX) (D : Nat → Nat) (hD : zInj D) (m : mS) (M : rM B D m h) (P : i4) (kk : zG X mX11_indexOf B (2, 0, 0) (0, 0) 35 [(3, .long (lN (idx P))), (0, .ref (D 0))] [] h) : ∀ (nn v k : Nat), v < nn → 1 ≤ v → v < 2 ^ 63 → v < 2 ^ k → zWf k 2 v = idx P → zG X mX11_indexOf B (2, 0, 0) (0, 0) 16 [(3, .long (lN v)), (0, .ref (D 0))] [] h := by
  intro nn
  induction nn with
  | zero => intro v k hnn; omega
  | succ nn ih =>
    intro v k hnn h1 h63 hk hw
    have N0 := rN_r M
    refine zi_lload_n 17 dX11_indexOf_16 rfl rfl ?_
    refine zi_ldc2 20 dX11_indexOf_17 tw_909 rfl ?_
    refine zi_lrem 21 dX11_indexOf_20 (by decide) rfl ?_
    rw [show (2 : Int64) = lN 2 from rfl, pk_lRem (by omega) (by decide) (by decide)]
    refine zi_lconst (v := 0) 22 dX11_indexOf_21 (by decide) rfl ?_
    refine zj_ne 26 35 dX11_indexOf_22 rfl dX11_indexOf_23 (by decide) rfl (fun zzR => ?_) (fun zzR => ?_)
    ·
      rw [lN_0e (Nat.lt_of_le_of_lt (Nat.mod_le _ _) (by omega))] at zzR
      rw [wf2_e zzR] at hw
      rw [hw]
      exact zi_lv [0, 1] rfl kk
    ·
      rw [lN_0e (Nat.lt_of_le_of_lt (Nat.mod_le _ _) (by omega))] at zzR
      refine zi_lload_n 27 dX11_indexOf_26 rfl rfl ?_
      refine zi_ldc2 30 dX11_indexOf_27 tw_909 rfl ?_
      refine zi_ldiv 31 dX11_indexOf_30 (by decide) rfl ?_
      rw [show (2 : Int64) = lN 2 from rfl, pk_lDiv (by omega) (by decide) (by decide)]
      refine zi_lstore_n (lv' := [(3, _), (0, _)]) 32 dX11_indexOf_31 rfl rfl rfl ?_
      refine zi_goto 16 dX11_indexOf_32 (by decide) ?_
      obtain ⟨k', ek, e1, e2⟩ := wf2_s (by omega) zzR hk
      exact zi_lv [0, 1] rfl (ih (v / 2) k' (by omega) (by omega) (by omega) e1 (e2.symm.trans hw))

set_option maxHeartbeats 4000000 in
set_option maxRecDepth 100000 in
theorem s_X11_indexOf (B : zBB) (h : zHp) (D : Nat → Nat) (hD : zInj D) (m : mS) (M : rM B D m h) (P : i4) (hV : i4V P) (h0 : ¬ i4q P = 0) (hP : ro (wR m) 0 = z4i P) : zSpec mX11_indexOf B (2, 0, 0) [.ref (D 0)] h (zPf (some (.long (lN (idx P)))) h) := by
  refine zSpec.of (by decide) (Nat.le_of_ble_eq_true rfl) (fun X hZ => ?_)
  show zG X mX11_indexOf B (2, 0, 0) (0, 0) 0 [(0, .ref (D 0))] [] h
  have N0 := rN_r M
  refine zi_aload_n 1 dX11_indexOf_0 rfl rfl ?_
  refine zi_iconst (v := 0) 2 dX11_indexOf_1 (by decide) rfl ?_
  refine zc_virtual (n' := (0, 0)) (md' := mX11_greatestWhole) 5 dX11_indexOf_2 tw_966 zv_X11_greatestWhole zcl_X11 (s_X11_greatestWhole B h D hD _ N0.1 0 (by omega) P hV h0 hP) N0.1.1 rfl rfl rfl rfl rfl rfl rfl rfl (zk_f ?_)
  refine zi_lstore_n (lv' := [(1, _), (0, _)]) 6 dX11_indexOf_5 rfl rfl rfl ?_
  refine zi_aload_n 7 dX11_indexOf_6 rfl rfl ?_
  refine zi_iconst (v := 0) 8 dX11_indexOf_7 (by decide) rfl ?_
  refine zc_virtual (n' := (0, 0)) (md' := mX11_norm4) 11 dX11_indexOf_8 tw_948 zv_X11_norm4 zcl_X11 (s_X11_norm4 B h D hD _ N0.1 0 (by omega)) N0.1.1 rfl rfl rfl rfl rfl rfl rfl rfl (zk_f ?_)
  rw [show zNm (ro (wR m) 0) = lN (nN P) from (congrArg zNm hP).trans (nN_z hV)]
  refine zi_lload_n 12 dX11_indexOf_11 rfl rfl ?_
  refine zi_lload_n 13 dX11_indexOf_12 rfl rfl ?_
  refine zi_lmul 14 dX11_indexOf_13 rfl ?_
  rw [lN_mul]
  have w9 := wh_le hV h0
  have w8 : wh P * wh P < 2 ^ 63 := Nat.lt_of_le_of_lt (Nat.le_of_dvd ((nN_pos hV).mp h0) w9.2.1) (nN_63 hV)
  refine zi_ldiv 15 dX11_indexOf_14 (fun e => by rw [lN_0e w8] at e; have := Nat.mul_pos w9.1 w9.1; omega) rfl ?_
  rw [pk_lDiv (nN_63 hV) (Nat.mul_pos w9.1 w9.1) w8]
  refine zi_lstore_n (lv' := [(3, _), (1, _), (0, _)]) 16 dX11_indexOf_15 rfl rfl rfl ?_
  refine zi_lv [0, 2] rfl (l_X11_indexOf B h X D hD m M P ?_ (nN P / (wh P * wh P) + 1) _ 64 (Nat.lt_succ_self _) (idx_0 hV h0) (Nat.lt_of_le_of_lt (Nat.div_le_self _ _) (nN_63 hV)) (Nat.lt_of_le_of_lt (Nat.div_le_self _ _) (Nat.lt_trans (nN_63 hV) (by decide))) (by unfold idx; rw [Nat.div_div_eq_div_mul]))
  refine zi_lload_n 36 dX11_indexOf_35 rfl rfl ?_
  exact zr_long hZ dX11_indexOf_36 rfl ⟨rfl, rfl⟩

set_option maxHeartbeats 1000000 in
set_option maxRecDepth 100000 in
theorem s_X11_index (B : zBB) (h : zHp) (D : Nat → Nat) (hD : zInj D) (s : zSt) (hs0 : okSt s) (hR : rRm B D s h) (p : Int32) : zSpec mX11_index B (3, 0, 0) [.ref (D 0), .int p] h (zPi (fun zx h' => ∃ s' : zSt, r_index s p = (zx, s') ∧ rRm B D s' h' ∧ rOd D h h')) := by
  refine zSpec.of (by decide) (Nat.le_of_ble_eq_true rfl) (fun X hZ => ?_)
  show zG X mX11_index B (3, 0, 0) (0, 0) 0 [(0, .ref (D 0)), (1, .int p)] [] h
  obtain ⟨m, M, K⟩ := hR
  have N0 := rN_r M
  refine zi_iload_n 1 dX11_index_0 rfl rfl ?_
  refine zc_static (n' := (0, 0)) (md' := mX11_isSlot) 4 dX11_index_1 tw_937 zs_X11_isSlot (s_X11_isSlot B h _) rfl rfl rfl rfl rfl rfl rfl rfl (zk_f ?_)
  refine zb_ne 7 10 dX11_index_4 (by decide) rfl (fun zzA => ?_) (fun zzA => ?_)
  ·
    have zzA := in_20.mp zzA
    have zzO : ¬ (zOut p 20) := zzA
    obtain ⟨pj, hpj, hpj31, rfl⟩ := out_i (N := 20) (by decide) zzA
    refine zi_aload_n 11 dX11_index_10 rfl rfl ?_
    refine zi_iload_n 12 dX11_index_11 rfl rfl ?_
    rcases hsP : qSl s pj with _ | P
    ·
      refine zc_virtual (n' := (0, 0)) (md' := mX11_refusal) 15 dX11_index_12 tw_1137 zv_X11_refusal zcl_X11 (s_X11_refusalN B h D hD _ N0.1 pj hpj (by rw [K.1 pj hpj, hsP]; rfl)) N0.1.1 rfl rfl rfl rfl rfl rfl rfl rfl (zk_i fun x1 h1 p1 => ?_)
      obtain ⟨rfl, n1⟩ := p1
      have N1 := rN_t N0 n1
      refine zi_istore_n (lv' := [(2, _), (0, _), (1, _)]) 16 dX11_index_15 rfl rfl rfl ?_
      refine zi_iload_n 17 dX11_index_16 rfl rfl ?_
      refine zi_if_eq 20 24 dX11_index_17 (by decide) rfl (fun c_17 => absurd c_17 (by decide)) (fun c_17 => ?_)
      refine zi_iload_n 21 dX11_index_20 rfl rfl ?_
      refine zi_goto 33 dX11_index_21 (by decide) ?_
      exact zr_int hZ dX11_index_33 rfl rfl ⟨_, rfl, _, by rw [r_index, if_neg zzO, nI_clamp hpj31, hsP, onS_n], ⟨_, N1.1, mQ_F 1 K⟩, N1.2⟩
    ·
      have hVP := hs0.1 pj P hsP
      have eP := K.2.1 pj hpj P hsP
      by_cases zzZ : i4q P = 0
      ·
        refine zc_virtual (n' := (0, 0)) (md' := mX11_refusal) 15 dX11_index_12 tw_1137 zv_X11_refusal zcl_X11 (s_X11_refusal0 B h D hD _ N0.1 pj hpj (by rw [K.1 pj hpj, hsP]; rfl) P hVP eP zzZ) N0.1.1 rfl rfl rfl rfl rfl rfl rfl rfl (zk_i fun x2 h2 p2 => ?_)
        obtain ⟨rfl, n2⟩ := p2
        have N2 := rN_t N0 n2
        refine zi_istore_n (lv' := [(2, _), (0, _), (1, _)]) 16 dX11_index_15 rfl rfl rfl ?_
        refine zi_iload_n 17 dX11_index_16 rfl rfl ?_
        refine zi_if_eq 20 24 dX11_index_17 (by decide) rfl (fun c_17 => absurd c_17 (by decide)) (fun c_17 => ?_)
        refine zi_iload_n 21 dX11_index_20 rfl rfl ?_
        refine zi_goto 33 dX11_index_21 (by decide) ?_
        exact zr_int hZ dX11_index_33 rfl rfl ⟨_, rfl, _, by rw [r_index, if_neg zzO, nI_clamp hpj31, hsP, onS_s, if_pos zzZ], ⟨_, N2.1, K⟩, N2.2⟩
      ·
        refine zc_virtual (n' := (0, 0)) (md' := mX11_refusal) 15 dX11_index_12 tw_1137 zv_X11_refusal zcl_X11 (s_X11_refusalY B h D hD _ N0.1 pj hpj (by rw [K.1 pj hpj, hsP]; rfl) P hVP eP zzZ) N0.1.1 rfl rfl rfl rfl rfl rfl rfl rfl (zk_i fun x3 h3 p3 => ?_)
        obtain ⟨rfl, n3⟩ := p3
        have N3 := rN_t N0 n3
        obtain ⟨R4, N4, r0⟩ : ∃ R, rN B D (uR m R) h h3 ∧ ro R 0 = z4i P := ⟨_, N3, p4_at _ _ _⟩
        refine zi_istore_n (lv' := [(2, _), (0, _), (1, _)]) 16 dX11_index_15 rfl rfl rfl ?_
        refine zi_iload_n 17 dX11_index_16 rfl rfl ?_
        refine zi_if_eq 20 24 dX11_index_17 (by decide) rfl (fun c_17 => ?_) (fun c_17 => absurd c_17 (by decide))
        refine zi_aload_n 25 dX11_index_24 rfl rfl ?_
        refine zi_aload_n 26 dX11_index_25 rfl rfl ?_
        refine zc_virtual (n' := (0, 0)) (md' := mX11_indexOf) 29 dX11_index_26 tw_1171 zv_X11_indexOf zcl_X11 (s_X11_indexOf B h3 D hD _ N4.1 P hVP zzZ r0) N4.1.1 rfl rfl rfl rfl rfl rfl rfl rfl (zk_f ?_)
        refine zi_l2i 30 dX11_index_29 rfl ?_
        rw [lN_i]
        refine zc_virtual (n' := (0, 0)) (md' := mX11_well) 33 dX11_index_30 tw_916 zv_X11_well zcl_X11 (s_X11_well B h3 D hD _ N4.1 _) N4.1.1 rfl rfl rfl rfl rfl rfl rfl rfl (zk_i fun x5 h5 p5 => ?_)
        obtain ⟨rfl, n5⟩ := p5
        have N5 := rN_t N4 n5
        exact zr_int hZ dX11_index_33 rfl rfl ⟨_, rfl, _, by rw [r_index, if_neg zzO, nI_clamp hpj31, hsP, onS_s, if_neg zzZ], ⟨_, N5.1, mQ_F 0 K⟩, N5.2⟩
  ·
    have zzA := Decidable.not_not.mp (fun q => zzA (in_20.mpr q))
    refine zi_ldc 9 dX11_index_7 tw_910 rfl ?_
    exact zr_int hZ dX11_index_9 rfl rfl ⟨_, rfl, _, by rw [r_index, if_pos (by first | exact zzA)], ⟨m, N0.1, K⟩, N0.2⟩

set_option maxHeartbeats 1000000 in
set_option maxRecDepth 100000 in
theorem s_X11_order (B : zBB) (h : zHp) (D : Nat → Nat) (hD : zInj D) (s : zSt) (hs0 : okSt s) (hR : rRm B D s h) (p : Int32) : zSpec mX11_order B (2, 0, 0) [.ref (D 0), .int p] h (zPi (fun zx h' => ∃ s' : zSt, r_order s p = (zx, s') ∧ rRm B D s' h' ∧ rOd D h h')) := by
  refine zSpec.of (by decide) (Nat.le_of_ble_eq_true rfl) (fun X hZ => ?_)
  show zG X mX11_order B (2, 0, 0) (0, 0) 0 [(0, .ref (D 0)), (1, .int p)] [] h
  obtain ⟨m, M, K⟩ := hR
  have N0 := rN_r M
  refine zi_iload_n 1 dX11_order_0 rfl rfl ?_
  refine zc_static (n' := (0, 0)) (md' := mX11_isSlot) 4 dX11_order_1 tw_937 zs_X11_isSlot (s_X11_isSlot B h _) rfl rfl rfl rfl rfl rfl rfl rfl (zk_f ?_)
  refine zb_ne 7 10 dX11_order_4 (by decide) rfl (fun zzA => ?_) (fun zzA => ?_)
  ·
    have zzA := in_20.mp zzA
    have zzO : ¬ (zOut p 20) := zzA
    obtain ⟨pj, hpj, hpj31, rfl⟩ := out_i (N := 20) (by decide) zzA
    refine zi_aload_n 11 dX11_order_10 rfl rfl ?_
    refine zi_iload_n 12 dX11_order_11 rfl rfl ?_
    rcases hsP : qSl s pj with _ | P
    ·
      refine zc_virtual (n' := (0, 0)) (md' := mX11_refusal) 15 dX11_order_12 tw_1137 zv_X11_refusal zcl_X11 (s_X11_refusalN B h D hD _ N0.1 pj hpj (by rw [K.1 pj hpj, hsP]; rfl)) N0.1.1 rfl rfl rfl rfl rfl rfl rfl rfl (zk_i fun x1 h1 p1 => ?_)
      obtain ⟨rfl, n1⟩ := p1
      have N1 := rN_t N0 n1
      refine zi_istore_n (lv' := [(2, _), (0, _), (1, _)]) 16 dX11_order_15 rfl rfl rfl ?_
      refine zi_iload_n 17 dX11_order_16 rfl rfl ?_
      refine zi_if_eq 20 22 dX11_order_17 (by decide) rfl (fun c_17 => absurd c_17 (by decide)) (fun c_17 => ?_)
      refine zi_iload_n 21 dX11_order_20 rfl rfl ?_
      exact zr_int hZ dX11_order_21 rfl rfl ⟨_, rfl, _, by rw [r_order, if_neg zzO, nI_clamp hpj31, hsP, onS_n], ⟨_, N1.1, mQ_F 1 K⟩, N1.2⟩
    ·
      have hVP := hs0.1 pj P hsP
      have eP := K.2.1 pj hpj P hsP
      by_cases zzZ : i4q P = 0
      ·
        refine zc_virtual (n' := (0, 0)) (md' := mX11_refusal) 15 dX11_order_12 tw_1137 zv_X11_refusal zcl_X11 (s_X11_refusal0 B h D hD _ N0.1 pj hpj (by rw [K.1 pj hpj, hsP]; rfl) P hVP eP zzZ) N0.1.1 rfl rfl rfl rfl rfl rfl rfl rfl (zk_i fun x2 h2 p2 => ?_)
        obtain ⟨rfl, n2⟩ := p2
        have N2 := rN_t N0 n2
        refine zi_istore_n (lv' := [(2, _), (0, _), (1, _)]) 16 dX11_order_15 rfl rfl rfl ?_
        refine zi_iload_n 17 dX11_order_16 rfl rfl ?_
        refine zi_if_eq 20 22 dX11_order_17 (by decide) rfl (fun c_17 => absurd c_17 (by decide)) (fun c_17 => ?_)
        refine zi_iload_n 21 dX11_order_20 rfl rfl ?_
        exact zr_int hZ dX11_order_21 rfl rfl ⟨_, rfl, _, by rw [r_order, if_neg zzO, nI_clamp hpj31, hsP, onS_s, if_pos zzZ], ⟨_, N2.1, K⟩, N2.2⟩
      ·
        refine zc_virtual (n' := (0, 0)) (md' := mX11_refusal) 15 dX11_order_12 tw_1137 zv_X11_refusal zcl_X11 (s_X11_refusalY B h D hD _ N0.1 pj hpj (by rw [K.1 pj hpj, hsP]; rfl) P hVP eP zzZ) N0.1.1 rfl rfl rfl rfl rfl rfl rfl rfl (zk_i fun x3 h3 p3 => ?_)
        obtain ⟨rfl, n3⟩ := p3
        have N3 := rN_t N0 n3
        obtain ⟨R4, N4, r0⟩ : ∃ R, rN B D (uR m R) h h3 ∧ ro R 0 = z4i P := ⟨_, N3, p4_at _ _ _⟩
        refine zi_istore_n (lv' := [(2, _), (0, _), (1, _)]) 16 dX11_order_15 rfl rfl rfl ?_
        refine zi_iload_n 17 dX11_order_16 rfl rfl ?_
        refine zi_if_eq 20 22 dX11_order_17 (by decide) rfl (fun c_17 => ?_) (fun c_17 => absurd c_17 (by decide))
        refine zi_aload_n 23 dX11_order_22 rfl rfl ?_
        refine zi_getfield 26 9 dX11_order_23 zcl_X11 tw_872 rfl rfl N4.1.1 rfl rfl ?_
        refine zi_iconst (v := 0) 27 dX11_order_26 (by decide) rfl ?_
        refine zi_laload 28 dX11_order_27 N4.1.2.2.2.2.2.2.2.2.1 (vp_in_nI (show 0 < 80 by decide) (by decide)) rfl ?_
        rw [show Int32.toNatClampNeg 0 = 0 from rfl]
        rw [show wR (uR m R4) 0 = iz P.1 from congrArg (fun v : z4 => v.1) r0]
        refine zi_aload_n 29 dX11_order_28 rfl rfl ?_
        refine zi_getfield 32 9 dX11_order_29 zcl_X11 tw_872 rfl rfl N4.1.1 rfl rfl ?_
        refine zi_iconst (v := 0) 33 dX11_order_32 (by decide) rfl ?_
        refine zi_laload 34 dX11_order_33 N4.1.2.2.2.2.2.2.2.2.1 (vp_in_nI (show 0 < 80 by decide) (by decide)) rfl ?_
        rw [show Int32.toNatClampNeg 0 = 0 from rfl]
        rw [show wR (uR m R4) 0 = iz P.1 from congrArg (fun v : z4 => v.1) r0]
        refine zi_lmul 35 dX11_order_34 rfl ?_
        rw [iz_mul]
        refine zi_lstore_n (lv' := [(3, _), (2, _), (0, _), (1, _)]) 36 dX11_order_35 rfl rfl rfl ?_
        refine zi_ldc2 39 dX11_order_36 tw_952 rfl ?_
        refine zi_aload_n 40 dX11_order_39 rfl rfl ?_
        refine zi_iconst (v := 0) 41 dX11_order_40 (by decide) rfl ?_
        refine zc_virtual (n' := (0, 0)) (md' := mX11_norm4) 44 dX11_order_41 tw_948 zv_X11_norm4 zcl_X11 (s_X11_norm4 B h3 D hD _ N4.1 0 (by omega)) N4.1.1 rfl rfl rfl rfl rfl rfl rfl rfl (zk_f ?_)
        rw [show zNm (ro (wR (uR m R4)) 0) = iz (i4n P) from (congrArg zNm r0).trans (z4i_n (V_63 hVP))]
        refine zi_lmul 45 dX11_order_44 rfl ?_
        rw [low_q hVP]
        refine zi_lload_n 46 dX11_order_45 rfl rfl ?_
        refine zi_lsub 47 dX11_order_46 rfl ?_
        rw [iz_sub]
        have sq1 := i4_sq P
        have sq2 := zsn P.1
        have sq3 := hVP.2
        refine zi_lstore (lv' := [(5, _), (3, _), (2, _), (0, _), (1, _)]) 49 dX11_order_47 rfl rfl rfl ?_
        refine zi_aload_n 50 dX11_order_49 rfl rfl ?_
        refine zi_lload 52 dX11_order_50 rfl rfl ?_
        refine zi_lconst (v := 0) 53 dX11_order_52 (by decide) rfl ?_
        refine zj_ne 57 61 dX11_order_53 rfl dX11_order_54 (by decide) rfl (fun zz1 => ?_) (fun zz1 => ?_)
        ·
          rw [iz_0, iz_inj (by omega) (by omega)] at zz1
          refine zi_lload_n 62 dX11_order_61 rfl rfl ?_
          refine zi_lconst (v := 0) 63 dX11_order_62 (by decide) rfl ?_
          refine zj_ne 67 71 dX11_order_63 rfl dX11_order_64 (by decide) rfl (fun zz2 => ?_) (fun zz2 => ?_)
          ·
            rw [iz_0, iz_inj (by omega) (by omega)] at zz2
            refine zi_ldc2 74 dX11_order_71 tw_984 rfl ?_
            refine zi_lload_n 75 dX11_order_74 rfl rfl ?_
            refine zi_lmul 76 dX11_order_75 rfl ?_
            refine zi_lload 78 dX11_order_76 rfl rfl ?_
            refine zj_ne 82 86 dX11_order_78 rfl dX11_order_79 (by decide) rfl (fun zz3 => ?_) (fun zz3 => ?_)
            ·
              rw [show (3 : Int64) = iz 3 from rfl, iz_mul, iz_inj (by omega) (by omega)] at zz3
              refine zi_lload_n 87 dX11_order_86 rfl rfl ?_
              refine zi_lload 89 dX11_order_87 rfl rfl ?_
              refine zj_ne 93 97 dX11_order_89 rfl dX11_order_90 (by decide) rfl (fun zz4 => ?_) (fun zz4 => ?_)
              ·
                rw [iz_inj (by omega) (by omega)] at zz4
                refine zi_lload_n 98 dX11_order_97 rfl rfl ?_
                refine zi_ldc2 101 dX11_order_98 tw_984 rfl ?_
                refine zi_lload 103 dX11_order_101 rfl rfl ?_
                refine zi_lmul 104 dX11_order_103 rfl ?_
                refine zj_ne 108 113 dX11_order_104 rfl dX11_order_105 (by decide) rfl (fun zz5 => ?_) (fun zz5 => ?_)
                ·
                  rw [show (3 : Int64) = iz 3 from rfl, iz_mul, iz_inj (by omega) (by omega)] at zz5
                  refine zi_ldc 115 dX11_order_113 tw_1034 rfl ?_
                  refine zc_virtual (n' := (0, 0)) (md' := mX11_well) 118 dX11_order_115 tw_916 zv_X11_well zcl_X11 (s_X11_well B h3 D hD _ N4.1 _) N4.1.1 rfl rfl rfl rfl rfl rfl rfl rfl (zk_i fun x5 h5 p5 => ?_)
                  obtain ⟨rfl, n5⟩ := p5
                  have N5 := rN_t N4 n5
                  exact zr_int hZ dX11_order_118 rfl rfl ⟨_, rfl, _, by rw [r_order, if_neg zzO, nI_clamp hpj31, hsP, onS_s, if_neg zzZ, ord_0 zz1 zz2 zz3 zz4 zz5]; rfl, ⟨_, N5.1, mQ_F 0 K⟩, N5.2⟩
                ·
                  rw [show (3 : Int64) = iz 3 from rfl, iz_mul, iz_inj (by omega) (by omega)] at zz5
                  refine zi_bipush (v := 6) 110 dX11_order_108 (by decide) rfl ?_
                  refine zi_goto 115 dX11_order_110 (by decide) ?_
                  refine zc_virtual (n' := (0, 0)) (md' := mX11_well) 118 dX11_order_115 tw_916 zv_X11_well zcl_X11 (s_X11_well B h3 D hD _ N4.1 _) N4.1.1 rfl rfl rfl rfl rfl rfl rfl rfl (zk_i fun x6 h6 p6 => ?_)
                  obtain ⟨rfl, n6⟩ := p6
                  have N6 := rN_t N4 n6
                  exact zr_int hZ dX11_order_118 rfl rfl ⟨_, rfl, _, by rw [r_order, if_neg zzO, nI_clamp hpj31, hsP, onS_s, if_neg zzZ, ord_6 zz1 zz2 zz3 zz4 zz5]; rfl, ⟨_, N6.1, mQ_F 0 K⟩, N6.2⟩
              ·
                rw [iz_inj (by omega) (by omega)] at zz4
                refine zi_iconst (v := 4) 94 dX11_order_93 (by decide) rfl ?_
                refine zi_goto 115 dX11_order_94 (by decide) ?_
                refine zc_virtual (n' := (0, 0)) (md' := mX11_well) 118 dX11_order_115 tw_916 zv_X11_well zcl_X11 (s_X11_well B h3 D hD _ N4.1 _) N4.1.1 rfl rfl rfl rfl rfl rfl rfl rfl (zk_i fun x7 h7 p7 => ?_)
                obtain ⟨rfl, n7⟩ := p7
                have N7 := rN_t N4 n7
                exact zr_int hZ dX11_order_118 rfl rfl ⟨_, rfl, _, by rw [r_order, if_neg zzO, nI_clamp hpj31, hsP, onS_s, if_neg zzZ, ord_4 zz1 zz2 zz3 zz4]; rfl, ⟨_, N7.1, mQ_F 0 K⟩, N7.2⟩
            ·
              rw [show (3 : Int64) = iz 3 from rfl, iz_mul, iz_inj (by omega) (by omega)] at zz3
              refine zi_iconst (v := 3) 83 dX11_order_82 (by decide) rfl ?_
              refine zi_goto 115 dX11_order_83 (by decide) ?_
              refine zc_virtual (n' := (0, 0)) (md' := mX11_well) 118 dX11_order_115 tw_916 zv_X11_well zcl_X11 (s_X11_well B h3 D hD _ N4.1 _) N4.1.1 rfl rfl rfl rfl rfl rfl rfl rfl (zk_i fun x8 h8 p8 => ?_)
              obtain ⟨rfl, n8⟩ := p8
              have N8 := rN_t N4 n8
              exact zr_int hZ dX11_order_118 rfl rfl ⟨_, rfl, _, by rw [r_order, if_neg zzO, nI_clamp hpj31, hsP, onS_s, if_neg zzZ, ord_3 zz1 zz2 zz3]; rfl, ⟨_, N8.1, mQ_F 0 K⟩, N8.2⟩
          ·
            rw [iz_0, iz_inj (by omega) (by omega)] at zz2
            refine zi_iconst (v := 2) 68 dX11_order_67 (by decide) rfl ?_
            refine zi_goto 115 dX11_order_68 (by decide) ?_
            refine zc_virtual (n' := (0, 0)) (md' := mX11_well) 118 dX11_order_115 tw_916 zv_X11_well zcl_X11 (s_X11_well B h3 D hD _ N4.1 _) N4.1.1 rfl rfl rfl rfl rfl rfl rfl rfl (zk_i fun x9 h9 p9 => ?_)
            obtain ⟨rfl, n9⟩ := p9
            have N9 := rN_t N4 n9
            exact zr_int hZ dX11_order_118 rfl rfl ⟨_, rfl, _, by rw [r_order, if_neg zzO, nI_clamp hpj31, hsP, onS_s, if_neg zzZ, ord_2 zz1 zz2]; rfl, ⟨_, N9.1, mQ_F 0 K⟩, N9.2⟩
        ·
          rw [iz_0, iz_inj (by omega) (by omega)] at zz1
          refine zi_iconst (v := 1) 58 dX11_order_57 (by decide) rfl ?_
          refine zi_goto 115 dX11_order_58 (by decide) ?_
          refine zc_virtual (n' := (0, 0)) (md' := mX11_well) 118 dX11_order_115 tw_916 zv_X11_well zcl_X11 (s_X11_well B h3 D hD _ N4.1 _) N4.1.1 rfl rfl rfl rfl rfl rfl rfl rfl (zk_i fun x10 h10 p10 => ?_)
          obtain ⟨rfl, n10⟩ := p10
          have N10 := rN_t N4 n10
          exact zr_int hZ dX11_order_118 rfl rfl ⟨_, rfl, _, by rw [r_order, if_neg zzO, nI_clamp hpj31, hsP, onS_s, if_neg zzZ, ord_1 zz1]; rfl, ⟨_, N10.1, mQ_F 0 K⟩, N10.2⟩
  ·
    have zzA := Decidable.not_not.mp (fun q => zzA (in_20.mpr q))
    refine zi_ldc 9 dX11_order_7 tw_910 rfl ?_
    exact zr_int hZ dX11_order_9 rfl rfl ⟨_, rfl, _, by rw [r_order, if_pos (by first | exact zzA)], ⟨m, N0.1, K⟩, N0.2⟩

set_option maxHeartbeats 1000000 in
set_option maxRecDepth 100000 in
theorem s_X11_alike (B : zBB) (h : zHp) (D : Nat → Nat) (hD : zInj D) (s : zSt) (hs0 : okSt s) (hR : rRm B D s h) (p : Int32) (q : Int32) : zSpec mX11_alike B (2, 0, 0) [.ref (D 0), .int p, .int q] h (zPi (fun zx h' => ∃ s' : zSt, r_alike s p q = (zx, s') ∧ rRm B D s' h' ∧ rOd D h h')) := by
  refine zSpec.of (by decide) (Nat.le_of_ble_eq_true rfl) (fun X hZ => ?_)
  show zG X mX11_alike B (2, 0, 0) (0, 0) 0 [(0, .ref (D 0)), (1, .int p), (2, .int q)] [] h
  obtain ⟨m, M, K⟩ := hR
  have N0 := rN_r M
  refine zi_iload_n 1 dX11_alike_0 rfl rfl ?_
  refine zc_static (n' := (0, 0)) (md' := mX11_isSlot) 4 dX11_alike_1 tw_937 zs_X11_isSlot (s_X11_isSlot B h _) rfl rfl rfl rfl rfl rfl rfl rfl (zk_f ?_)
  refine zb_eq 7 14 dX11_alike_4 (by decide) rfl (fun zzA => ?_) (fun zzA => ?_)
  ·
    have zzA := Decidable.not_not.mp (fun q => zzA (in_20.mpr q))
    refine zi_ldc 16 dX11_alike_14 tw_910 rfl ?_
    exact zr_int hZ dX11_alike_16 rfl rfl ⟨_, rfl, _, by rw [r_alike, if_pos (by first | exact Or.inl zzA | exact Or.inr (zzB))], ⟨m, N0.1, K⟩, N0.2⟩
  ·
    have zzA := in_20.mp zzA
    refine zi_iload_n 8 dX11_alike_7 rfl rfl ?_
    refine zc_static (n' := (0, 0)) (md' := mX11_isSlot) 11 dX11_alike_8 tw_937 zs_X11_isSlot (s_X11_isSlot B h _) rfl rfl rfl rfl rfl rfl rfl rfl (zk_f ?_)
    refine zb_ne 14 17 dX11_alike_11 (by decide) rfl (fun zzB => ?_) (fun zzB => ?_)
    ·
      have zzB := in_20.mp zzB
      have zzO : ¬ (zOut p 20 ∨ zOut q 20) := fun r => r.elim zzA zzB
      obtain ⟨pj, hpj, hpj31, rfl⟩ := out_i (N := 20) (by decide) zzA
      obtain ⟨qj, hqj, hqj31, rfl⟩ := out_i (N := 20) (by decide) zzB
      refine zi_aload_n 18 dX11_alike_17 rfl rfl ?_
      refine zi_getfield 21 0 dX11_alike_18 zcl_X11 tw_863 rfl rfl N0.1.1 rfl rfl ?_
      refine zi_iload_n 22 dX11_alike_21 rfl rfl ?_
      rcases hsP : qSl s pj with _ | P
      ·
        refine zi_baload 23 dX11_alike_22 N0.1.2.1 (vp_in_nI (show pj < 20 by omega) (by decide)) rfl ?_
        rw [nI_clamp (Nat.lt_trans (show pj < 20 by omega) (by decide))]
        rw [show wH _ pj = kn (qSl s pj) from K.1 pj hpj, hsP, show kn none = 0 from rfl]
        refine zi_if_eq 26 35 dX11_alike_23 (by decide) rfl (fun c_23 => ?_) (fun c_23 => absurd c_23 (by decide))
        refine zi_aload_n 36 dX11_alike_35 rfl rfl ?_
        refine zi_iconst (v := 1) 37 dX11_alike_36 (by decide) rfl ?_
        refine zc_virtual (n' := (0, 0)) (md' := mX11_finds) 40 dX11_alike_37 tw_911 zv_X11_finds zcl_X11 (s_X11_finds B h D hD _ N0.1 _) N0.1.1 rfl rfl rfl rfl rfl rfl rfl rfl (zk_i fun x1 h1 p1 => ?_)
        obtain ⟨rfl, n1⟩ := p1
        have N1 := rN_t N0 n1
        exact zr_int hZ dX11_alike_40 rfl rfl ⟨_, rfl, _, by rw [r_alike, if_neg zzO, nI_clamp hpj31, hsP]; first | rw [onS_n] | rw [onS_s, nI_clamp hqj31, hsQ, onS_n], ⟨_, N1.1, mQ_F _ K⟩, N1.2⟩
      ·
        have hVP := hs0.1 pj P hsP
        have eP := K.2.1 pj hpj P hsP
        refine zi_baload 23 dX11_alike_22 N0.1.2.1 (vp_in_nI (show pj < 20 by omega) (by decide)) rfl ?_
        rw [nI_clamp (Nat.lt_trans (show pj < 20 by omega) (by decide))]
        rw [show wH _ pj = kn (qSl s pj) from K.1 pj hpj, hsP, show kn (some P) = 1 from rfl]
        refine zi_if_eq 26 35 dX11_alike_23 (by decide) rfl (fun c_23 => absurd c_23 (by decide)) (fun c_23 => ?_)
        refine zi_aload_n 27 dX11_alike_26 rfl rfl ?_
        refine zi_getfield 30 0 dX11_alike_27 zcl_X11 tw_863 rfl rfl N0.1.1 rfl rfl ?_
        refine zi_iload_n 31 dX11_alike_30 rfl rfl ?_
        rcases hsQ : qSl s qj with _ | Q
        ·
          refine zi_baload 32 dX11_alike_31 N0.1.2.1 (vp_in_nI (show qj < 20 by omega) (by decide)) rfl ?_
          rw [nI_clamp (Nat.lt_trans (show qj < 20 by omega) (by decide))]
          rw [show wH _ qj = kn (qSl s qj) from K.1 qj hqj, hsQ, show kn none = 0 from rfl]
          refine zi_if_ne 35 41 dX11_alike_32 (by decide) rfl (fun c_32 => absurd c_32 (by decide)) (fun c_32 => ?_)
          refine zi_aload_n 36 dX11_alike_35 rfl rfl ?_
          refine zi_iconst (v := 1) 37 dX11_alike_36 (by decide) rfl ?_
          refine zc_virtual (n' := (0, 0)) (md' := mX11_finds) 40 dX11_alike_37 tw_911 zv_X11_finds zcl_X11 (s_X11_finds B h D hD _ N0.1 _) N0.1.1 rfl rfl rfl rfl rfl rfl rfl rfl (zk_i fun x2 h2 p2 => ?_)
          obtain ⟨rfl, n2⟩ := p2
          have N2 := rN_t N0 n2
          exact zr_int hZ dX11_alike_40 rfl rfl ⟨_, rfl, _, by rw [r_alike, if_neg zzO, nI_clamp hpj31, hsP]; first | rw [onS_n] | rw [onS_s, nI_clamp hqj31, hsQ, onS_n], ⟨_, N2.1, mQ_F _ K⟩, N2.2⟩
        ·
          have hVQ := hs0.1 qj Q hsQ
          have eQ := K.2.1 qj hqj Q hsQ
          refine zi_baload 32 dX11_alike_31 N0.1.2.1 (vp_in_nI (show qj < 20 by omega) (by decide)) rfl ?_
          rw [nI_clamp (Nat.lt_trans (show qj < 20 by omega) (by decide))]
          rw [show wH _ qj = kn (qSl s qj) from K.1 qj hqj, hsQ, show kn (some Q) = 1 from rfl]
          refine zi_if_ne 35 41 dX11_alike_32 (by decide) rfl (fun c_32 => ?_) (fun c_32 => absurd c_32 (by decide))
          refine zi_aload_n 42 dX11_alike_41 rfl rfl ?_
          refine zi_iconst (v := 0) 43 dX11_alike_42 (by decide) rfl ?_
          refine zi_iload_n 44 dX11_alike_43 rfl rfl ?_
          refine zc_virtual (n' := (0, 0)) (md' := mX11_load) 47 dX11_alike_44 tw_989 zv_X11_load zcl_X11 (s_X11_load B h D hD _ N0.1 0 pj (by omega) (by omega)) N0.1.1 rfl rfl rfl rfl rfl rfl rfl rfl (zk_v fun h3 n3 => ?_)
          have N3 := rN_t N0 n3
          refine zi_aload_n 48 dX11_alike_47 rfl rfl ?_
          refine zi_iconst (v := 4) 49 dX11_alike_48 (by decide) rfl ?_
          refine zi_iload_n 50 dX11_alike_49 rfl rfl ?_
          refine zc_virtual (n' := (0, 0)) (md' := mX11_load) 53 dX11_alike_50 tw_989 zv_X11_load zcl_X11 (s_X11_load B h3 D hD _ N3.1 4 qj (by omega) (by omega)) N3.1.1 rfl rfl rfl rfl rfl rfl rfl rfl (zk_v fun h4 n4 => ?_)
          have N4 := rN_t N3 n4
          obtain ⟨R5, N5, r0, r4⟩ : ∃ R, rN B D (uR m R) h h4 ∧ ro R 0 = z4i P ∧ ro R 4 = z4i Q := ⟨_, N4, eP, eQ⟩
          refine zi_aload_n 54 dX11_alike_53 rfl rfl ?_
          refine zi_iconst (v := 0) 55 dX11_alike_54 (by decide) rfl ?_
          refine zc_virtual (n' := (0, 0)) (md' := mX11_isNought) 58 dX11_alike_55 tw_962 zv_X11_isNought zcl_X11 (s_X11_isNought B h4 D hD _ N5.1 0 (by omega)) N5.1.1 rfl rfl rfl rfl rfl rfl rfl rfl (zk_f ?_)
          refine zb_ne 61 69 dX11_alike_58 (by decide) rfl (fun zzY => ?_) (fun zzY => ?_)
          ·
            rw [show ro (wR (uR m R5)) 0 = z4i P from r0, z4i_nil (zb_63 hVP.2)] at zzY
            refine zi_ldc 71 dX11_alike_69 tw_1063 rfl ?_
            exact zr_int hZ dX11_alike_71 rfl rfl ⟨_, rfl, _, by rw [r_alike, if_neg zzO, nI_clamp hpj31, hsP, onS_s, nI_clamp hqj31, hsQ, onS_s, if_pos (by first | exact Or.inl zzY | exact Or.inr zzZ)], ⟨_, N5.1, K⟩, N5.2⟩
          ·
            rw [show ro (wR (uR m R5)) 0 = z4i P from r0, z4i_nil (zb_63 hVP.2)] at zzY
            refine zi_aload_n 62 dX11_alike_61 rfl rfl ?_
            refine zi_iconst (v := 4) 63 dX11_alike_62 (by decide) rfl ?_
            refine zc_virtual (n' := (0, 0)) (md' := mX11_isNought) 66 dX11_alike_63 tw_962 zv_X11_isNought zcl_X11 (s_X11_isNought B h4 D hD _ N5.1 4 (by omega)) N5.1.1 rfl rfl rfl rfl rfl rfl rfl rfl (zk_f ?_)
            refine zb_eq 69 72 dX11_alike_66 (by decide) rfl (fun zzZ => ?_) (fun zzZ => ?_)
            ·
              rw [show ro (wR (uR m R5)) 4 = z4i Q from r4, z4i_nil (zb_63 hVQ.2)] at zzZ
              obtain ⟨bP0, bP1, bP2, bP3⟩ := zb_63 hVP.2
              obtain ⟨bQ0, bQ1, bQ2, bQ3⟩ := zb_63 hVQ.2
              refine zi_iconst (v := 1) 73 dX11_alike_72 (by decide) rfl ?_
              refine zi_istore_n (lv' := [(3, _), (0, _), (1, _), (2, _)]) 74 dX11_alike_73 rfl rfl rfl ?_
              refine zi_iconst (v := 0) 75 dX11_alike_74 (by decide) rfl ?_
              refine zi_istore (lv' := [(4, _), (3, _), (0, _), (1, _), (2, _)]) 77 dX11_alike_75 rfl rfl rfl ?_
              refine zi_iload 79 dX11_alike_77 rfl rfl ?_
              refine zi_iconst (v := 4) 80 dX11_alike_79 (by decide) rfl ?_
              refine zi_icmp_ge 83 157 dX11_alike_80 (by decide) rfl (fun c_80 => absurd c_80 (by decide)) (fun c_80 => ?_)
              refine zi_iconst (v := 0) 84 dX11_alike_83 (by decide) rfl ?_
              refine zi_istore (lv' := [(5, _), (4, _), (3, _), (0, _), (1, _), (2, _)]) 86 dX11_alike_84 rfl rfl rfl ?_
              refine zi_iload 88 dX11_alike_86 rfl rfl ?_
              refine zi_iload 90 dX11_alike_88 rfl rfl ?_
              refine zi_icmp_ge 93 151 dX11_alike_90 (by decide) rfl (fun c_90 => ?_) (fun c_90 => absurd c_90 (by decide))
              refine zi_iinc (v := 1) (lv' := [(4, _), (5, _), (3, _), (0, _), (1, _), (2, _)]) 154 dX11_alike_151 rfl rfl rfl rfl rfl ?_
              refine zi_goto 77 dX11_alike_154 (by decide) ?_
              refine zi_iload 79 dX11_alike_77 rfl rfl ?_
              refine zi_iconst (v := 4) 80 dX11_alike_79 (by decide) rfl ?_
              refine zi_icmp_ge 83 157 dX11_alike_80 (by decide) rfl (fun c_80 => absurd c_80 (by decide)) (fun c_80 => ?_)
              refine zi_iconst (v := 0) 84 dX11_alike_83 (by decide) rfl ?_
              refine zi_istore (lv' := [(5, _), (4, _), (3, _), (0, _), (1, _), (2, _)]) 86 dX11_alike_84 rfl rfl rfl ?_
              refine zi_iload 88 dX11_alike_86 rfl rfl ?_
              refine zi_iload 90 dX11_alike_88 rfl rfl ?_
              refine zi_icmp_ge 93 151 dX11_alike_90 (by decide) rfl (fun c_90 => absurd c_90 (by decide)) (fun c_90 => ?_)
              refine zi_iload_n 94 dX11_alike_93 rfl rfl ?_
              refine zi_if_eq 97 143 dX11_alike_94 (by decide) rfl (fun c_94 => absurd c_94 (by decide)) (fun c_94 => ?_)
              refine zi_aload_n 98 dX11_alike_97 rfl rfl ?_
              refine zi_getfield 101 9 dX11_alike_98 zcl_X11 tw_872 rfl rfl N5.1.1 rfl rfl ?_
              refine zi_iconst (v := 0) 102 dX11_alike_101 (by decide) rfl ?_
              refine zi_iload 104 dX11_alike_102 rfl rfl ?_
              refine zi_iadd 105 dX11_alike_104 rfl ?_
              rw [show (0 : Int32) + 1 = 1 from rfl]
              refine zi_laload 106 dX11_alike_105 N5.1.2.2.2.2.2.2.2.2.1 (vp_in_nI (show 1 < 80 by decide) (by decide)) rfl ?_
              rw [show Int32.toNatClampNeg 1 = 1 from rfl]
              rw [show wR (uR m R5) 1 = iz P.2.1 from congrArg (fun v : z4 => v.2.1) r0]
              refine zi_aload_n 107 dX11_alike_106 rfl rfl ?_
              refine zi_getfield 110 9 dX11_alike_107 zcl_X11 tw_872 rfl rfl N5.1.1 rfl rfl ?_
              refine zi_iconst (v := 4) 111 dX11_alike_110 (by decide) rfl ?_
              refine zi_iload 113 dX11_alike_111 rfl rfl ?_
              refine zi_iadd 114 dX11_alike_113 rfl ?_
              rw [show (4 : Int32) + 0 = 4 from rfl]
              refine zi_laload 115 dX11_alike_114 N5.1.2.2.2.2.2.2.2.2.1 (vp_in_nI (show 4 < 80 by decide) (by decide)) rfl ?_
              rw [show Int32.toNatClampNeg 4 = 4 from rfl]
              rw [show wR (uR m R5) 4 = iz Q.1 from congrArg (fun v : z4 => v.1) r4]
              refine zi_lmul 116 dX11_alike_115 rfl ?_
              refine zi_aload_n 117 dX11_alike_116 rfl rfl ?_
              refine zi_getfield 120 9 dX11_alike_117 zcl_X11 tw_872 rfl rfl N5.1.1 rfl rfl ?_
              refine zi_iconst (v := 0) 121 dX11_alike_120 (by decide) rfl ?_
              refine zi_iload 123 dX11_alike_121 rfl rfl ?_
              refine zi_iadd 124 dX11_alike_123 rfl ?_
              rw [show (0 : Int32) + 0 = 0 from rfl]
              refine zi_laload 125 dX11_alike_124 N5.1.2.2.2.2.2.2.2.2.1 (vp_in_nI (show 0 < 80 by decide) (by decide)) rfl ?_
              rw [show Int32.toNatClampNeg 0 = 0 from rfl]
              rw [show wR (uR m R5) 0 = iz P.1 from congrArg (fun v : z4 => v.1) r0]
              refine zi_aload_n 126 dX11_alike_125 rfl rfl ?_
              refine zi_getfield 129 9 dX11_alike_126 zcl_X11 tw_872 rfl rfl N5.1.1 rfl rfl ?_
              refine zi_iconst (v := 4) 130 dX11_alike_129 (by decide) rfl ?_
              refine zi_iload 132 dX11_alike_130 rfl rfl ?_
              refine zi_iadd 133 dX11_alike_132 rfl ?_
              rw [show (4 : Int32) + 1 = 5 from rfl]
              refine zi_laload 134 dX11_alike_133 N5.1.2.2.2.2.2.2.2.2.1 (vp_in_nI (show 5 < 80 by decide) (by decide)) rfl ?_
              rw [show Int32.toNatClampNeg 5 = 5 from rfl]
              rw [show wR (uR m R5) 5 = iz Q.2.1 from congrArg (fun v : z4 => v.2.1) r4]
              refine zi_lmul 135 dX11_alike_134 rfl ?_
              refine zj_ne 139 143 dX11_alike_135 rfl dX11_alike_136 (by decide) rfl (fun zz10 => ?_) (fun zz10 => ?_)
              ·
                rw [pr_e bP1 bQ0 bP0 bQ1] at zz10
                refine zi_iconst (v := 0) 144 dX11_alike_143 (by decide) rfl ?_
                refine zi_istore_n (lv' := [(3, _), (5, _), (4, _), (0, _), (1, _), (2, _)]) 145 dX11_alike_144 rfl rfl rfl ?_
                refine zi_iinc (v := 1) (lv' := [(5, _), (3, _), (4, _), (0, _), (1, _), (2, _)]) 148 dX11_alike_145 rfl rfl rfl rfl rfl ?_
                refine zi_goto 86 dX11_alike_148 (by decide) ?_
                refine zi_iload 88 dX11_alike_86 rfl rfl ?_
                refine zi_iload 90 dX11_alike_88 rfl rfl ?_
                refine zi_icmp_ge 93 151 dX11_alike_90 (by decide) rfl (fun c_90 => ?_) (fun c_90 => absurd c_90 (by decide))
                refine zi_iinc (v := 2) (lv' := [(4, _), (5, _), (3, _), (0, _), (1, _), (2, _)]) 154 dX11_alike_151 rfl rfl rfl rfl rfl ?_
                refine zi_goto 77 dX11_alike_154 (by decide) ?_
                refine zi_iload 79 dX11_alike_77 rfl rfl ?_
                refine zi_iconst (v := 4) 80 dX11_alike_79 (by decide) rfl ?_
                refine zi_icmp_ge 83 157 dX11_alike_80 (by decide) rfl (fun c_80 => absurd c_80 (by decide)) (fun c_80 => ?_)
                refine zi_iconst (v := 0) 84 dX11_alike_83 (by decide) rfl ?_
                refine zi_istore (lv' := [(5, _), (4, _), (3, _), (0, _), (1, _), (2, _)]) 86 dX11_alike_84 rfl rfl rfl ?_
                refine zi_iload 88 dX11_alike_86 rfl rfl ?_
                refine zi_iload 90 dX11_alike_88 rfl rfl ?_
                refine zi_icmp_ge 93 151 dX11_alike_90 (by decide) rfl (fun c_90 => absurd c_90 (by decide)) (fun c_90 => ?_)
                refine zi_iload_n 94 dX11_alike_93 rfl rfl ?_
                refine zi_if_eq 97 143 dX11_alike_94 (by decide) rfl (fun c_94 => ?_) (fun c_94 => absurd c_94 (by decide))
                refine zi_iconst (v := 0) 144 dX11_alike_143 (by decide) rfl ?_
                refine zi_istore_n (lv' := [(3, _), (5, _), (4, _), (0, _), (1, _), (2, _)]) 145 dX11_alike_144 rfl rfl rfl ?_
                refine zi_iinc (v := 1) (lv' := [(5, _), (3, _), (4, _), (0, _), (1, _), (2, _)]) 148 dX11_alike_145 rfl rfl rfl rfl rfl ?_
                refine zi_goto 86 dX11_alike_148 (by decide) ?_
                refine zi_iload 88 dX11_alike_86 rfl rfl ?_
                refine zi_iload 90 dX11_alike_88 rfl rfl ?_
                refine zi_icmp_ge 93 151 dX11_alike_90 (by decide) rfl (fun c_90 => absurd c_90 (by decide)) (fun c_90 => ?_)
                refine zi_iload_n 94 dX11_alike_93 rfl rfl ?_
                refine zi_if_eq 97 143 dX11_alike_94 (by decide) rfl (fun c_94 => ?_) (fun c_94 => absurd c_94 (by decide))
                refine zi_iconst (v := 0) 144 dX11_alike_143 (by decide) rfl ?_
                refine zi_istore_n (lv' := [(3, _), (5, _), (4, _), (0, _), (1, _), (2, _)]) 145 dX11_alike_144 rfl rfl rfl ?_
                refine zi_iinc (v := 2) (lv' := [(5, _), (3, _), (4, _), (0, _), (1, _), (2, _)]) 148 dX11_alike_145 rfl rfl rfl rfl rfl ?_
                refine zi_goto 86 dX11_alike_148 (by decide) ?_
                refine zi_iload 88 dX11_alike_86 rfl rfl ?_
                refine zi_iload 90 dX11_alike_88 rfl rfl ?_
                refine zi_icmp_ge 93 151 dX11_alike_90 (by decide) rfl (fun c_90 => ?_) (fun c_90 => absurd c_90 (by decide))
                refine zi_iinc (v := 3) (lv' := [(4, _), (5, _), (3, _), (0, _), (1, _), (2, _)]) 154 dX11_alike_151 rfl rfl rfl rfl rfl ?_
                refine zi_goto 77 dX11_alike_154 (by decide) ?_
                refine zi_iload 79 dX11_alike_77 rfl rfl ?_
                refine zi_iconst (v := 4) 80 dX11_alike_79 (by decide) rfl ?_
                refine zi_icmp_ge 83 157 dX11_alike_80 (by decide) rfl (fun c_80 => absurd c_80 (by decide)) (fun c_80 => ?_)
                refine zi_iconst (v := 0) 84 dX11_alike_83 (by decide) rfl ?_
                refine zi_istore (lv' := [(5, _), (4, _), (3, _), (0, _), (1, _), (2, _)]) 86 dX11_alike_84 rfl rfl rfl ?_
                refine zi_iload 88 dX11_alike_86 rfl rfl ?_
                refine zi_iload 90 dX11_alike_88 rfl rfl ?_
                refine zi_icmp_ge 93 151 dX11_alike_90 (by decide) rfl (fun c_90 => absurd c_90 (by decide)) (fun c_90 => ?_)
                refine zi_iload_n 94 dX11_alike_93 rfl rfl ?_
                refine zi_if_eq 97 143 dX11_alike_94 (by decide) rfl (fun c_94 => ?_) (fun c_94 => absurd c_94 (by decide))
                refine zi_iconst (v := 0) 144 dX11_alike_143 (by decide) rfl ?_
                refine zi_istore_n (lv' := [(3, _), (5, _), (4, _), (0, _), (1, _), (2, _)]) 145 dX11_alike_144 rfl rfl rfl ?_
                refine zi_iinc (v := 1) (lv' := [(5, _), (3, _), (4, _), (0, _), (1, _), (2, _)]) 148 dX11_alike_145 rfl rfl rfl rfl rfl ?_
                refine zi_goto 86 dX11_alike_148 (by decide) ?_
                refine zi_iload 88 dX11_alike_86 rfl rfl ?_
                refine zi_iload 90 dX11_alike_88 rfl rfl ?_
                refine zi_icmp_ge 93 151 dX11_alike_90 (by decide) rfl (fun c_90 => absurd c_90 (by decide)) (fun c_90 => ?_)
                refine zi_iload_n 94 dX11_alike_93 rfl rfl ?_
                refine zi_if_eq 97 143 dX11_alike_94 (by decide) rfl (fun c_94 => ?_) (fun c_94 => absurd c_94 (by decide))
                refine zi_iconst (v := 0) 144 dX11_alike_143 (by decide) rfl ?_
                refine zi_istore_n (lv' := [(3, _), (5, _), (4, _), (0, _), (1, _), (2, _)]) 145 dX11_alike_144 rfl rfl rfl ?_
                refine zi_iinc (v := 2) (lv' := [(5, _), (3, _), (4, _), (0, _), (1, _), (2, _)]) 148 dX11_alike_145 rfl rfl rfl rfl rfl ?_
                refine zi_goto 86 dX11_alike_148 (by decide) ?_
                refine zi_iload 88 dX11_alike_86 rfl rfl ?_
                refine zi_iload 90 dX11_alike_88 rfl rfl ?_
                refine zi_icmp_ge 93 151 dX11_alike_90 (by decide) rfl (fun c_90 => absurd c_90 (by decide)) (fun c_90 => ?_)
                refine zi_iload_n 94 dX11_alike_93 rfl rfl ?_
                refine zi_if_eq 97 143 dX11_alike_94 (by decide) rfl (fun c_94 => ?_) (fun c_94 => absurd c_94 (by decide))
                refine zi_iconst (v := 0) 144 dX11_alike_143 (by decide) rfl ?_
                refine zi_istore_n (lv' := [(3, _), (5, _), (4, _), (0, _), (1, _), (2, _)]) 145 dX11_alike_144 rfl rfl rfl ?_
                refine zi_iinc (v := 3) (lv' := [(5, _), (3, _), (4, _), (0, _), (1, _), (2, _)]) 148 dX11_alike_145 rfl rfl rfl rfl rfl ?_
                refine zi_goto 86 dX11_alike_148 (by decide) ?_
                refine zi_iload 88 dX11_alike_86 rfl rfl ?_
                refine zi_iload 90 dX11_alike_88 rfl rfl ?_
                refine zi_icmp_ge 93 151 dX11_alike_90 (by decide) rfl (fun c_90 => ?_) (fun c_90 => absurd c_90 (by decide))
                refine zi_iinc (v := 4) (lv' := [(4, _), (5, _), (3, _), (0, _), (1, _), (2, _)]) 154 dX11_alike_151 rfl rfl rfl rfl rfl ?_
                refine zi_goto 77 dX11_alike_154 (by decide) ?_
                refine zi_iload 79 dX11_alike_77 rfl rfl ?_
                refine zi_iconst (v := 4) 80 dX11_alike_79 (by decide) rfl ?_
                refine zi_icmp_ge 83 157 dX11_alike_80 (by decide) rfl (fun c_80 => ?_) (fun c_80 => absurd c_80 (by decide))
                refine zi_aload_n 158 dX11_alike_157 rfl rfl ?_
                refine zi_iload_n 159 dX11_alike_158 rfl rfl ?_
                refine zi_if_eq 162 166 dX11_alike_159 (by decide) rfl (fun c_159 => ?_) (fun c_159 => absurd c_159 (by decide))
                refine zi_iconst (v := 0) 167 dX11_alike_166 (by decide) rfl ?_
                refine zc_virtual (n' := (0, 0)) (md' := mX11_well) 170 dX11_alike_167 tw_916 zv_X11_well zcl_X11 (s_X11_well B h4 D hD _ N5.1 _) N5.1.1 rfl rfl rfl rfl rfl rfl rfl rfl (zk_i fun x6 h6 p6 => ?_)
                obtain ⟨rfl, n6⟩ := p6
                have N6 := rN_t N5 n6
                exact zr_int hZ dX11_alike_170 rfl rfl ⟨_, rfl, _, by rw [r_alike, if_neg zzO, nI_clamp hpj31, hsP, onS_s, nI_clamp hqj31, hsQ, onS_s, if_neg (fun r => r.elim zzY zzZ), if_neg (by first | exact fun r => zz10 r.1.symm | exact fun r => zz20 r.2.1.symm | exact fun r => zz21 r.2.2.2.1.symm | exact fun r => zz30 r.2.2.1.symm | exact fun r => zz31 r.2.2.2.2.1.symm | exact fun r => zz32 r.2.2.2.2.2.symm)], ⟨_, N6.1, mQ_F 0 K⟩, N6.2⟩
              ·
                rw [pr_e bP1 bQ0 bP0 bQ1] at zz10
                refine zi_iconst (v := 1) 140 dX11_alike_139 (by decide) rfl ?_
                refine zi_goto 144 dX11_alike_140 (by decide) ?_
                refine zi_istore_n (lv' := [(3, _), (5, _), (4, _), (0, _), (1, _), (2, _)]) 145 dX11_alike_144 rfl rfl rfl ?_
                refine zi_iinc (v := 1) (lv' := [(5, _), (3, _), (4, _), (0, _), (1, _), (2, _)]) 148 dX11_alike_145 rfl rfl rfl rfl rfl ?_
                refine zi_goto 86 dX11_alike_148 (by decide) ?_
                refine zi_iload 88 dX11_alike_86 rfl rfl ?_
                refine zi_iload 90 dX11_alike_88 rfl rfl ?_
                refine zi_icmp_ge 93 151 dX11_alike_90 (by decide) rfl (fun c_90 => ?_) (fun c_90 => absurd c_90 (by decide))
                refine zi_iinc (v := 2) (lv' := [(4, _), (5, _), (3, _), (0, _), (1, _), (2, _)]) 154 dX11_alike_151 rfl rfl rfl rfl rfl ?_
                refine zi_goto 77 dX11_alike_154 (by decide) ?_
                refine zi_iload 79 dX11_alike_77 rfl rfl ?_
                refine zi_iconst (v := 4) 80 dX11_alike_79 (by decide) rfl ?_
                refine zi_icmp_ge 83 157 dX11_alike_80 (by decide) rfl (fun c_80 => absurd c_80 (by decide)) (fun c_80 => ?_)
                refine zi_iconst (v := 0) 84 dX11_alike_83 (by decide) rfl ?_
                refine zi_istore (lv' := [(5, _), (4, _), (3, _), (0, _), (1, _), (2, _)]) 86 dX11_alike_84 rfl rfl rfl ?_
                refine zi_iload 88 dX11_alike_86 rfl rfl ?_
                refine zi_iload 90 dX11_alike_88 rfl rfl ?_
                refine zi_icmp_ge 93 151 dX11_alike_90 (by decide) rfl (fun c_90 => absurd c_90 (by decide)) (fun c_90 => ?_)
                refine zi_iload_n 94 dX11_alike_93 rfl rfl ?_
                refine zi_if_eq 97 143 dX11_alike_94 (by decide) rfl (fun c_94 => absurd c_94 (by decide)) (fun c_94 => ?_)
                refine zi_aload_n 98 dX11_alike_97 rfl rfl ?_
                refine zi_getfield 101 9 dX11_alike_98 zcl_X11 tw_872 rfl rfl N5.1.1 rfl rfl ?_
                refine zi_iconst (v := 0) 102 dX11_alike_101 (by decide) rfl ?_
                refine zi_iload 104 dX11_alike_102 rfl rfl ?_
                refine zi_iadd 105 dX11_alike_104 rfl ?_
                rw [show (0 : Int32) + 2 = 2 from rfl]
                refine zi_laload 106 dX11_alike_105 N5.1.2.2.2.2.2.2.2.2.1 (vp_in_nI (show 2 < 80 by decide) (by decide)) rfl ?_
                rw [show Int32.toNatClampNeg 2 = 2 from rfl]
                rw [show wR (uR m R5) 2 = iz P.2.2.1 from congrArg (fun v : z4 => v.2.2.1) r0]
                refine zi_aload_n 107 dX11_alike_106 rfl rfl ?_
                refine zi_getfield 110 9 dX11_alike_107 zcl_X11 tw_872 rfl rfl N5.1.1 rfl rfl ?_
                refine zi_iconst (v := 4) 111 dX11_alike_110 (by decide) rfl ?_
                refine zi_iload 113 dX11_alike_111 rfl rfl ?_
                refine zi_iadd 114 dX11_alike_113 rfl ?_
                rw [show (4 : Int32) + 0 = 4 from rfl]
                refine zi_laload 115 dX11_alike_114 N5.1.2.2.2.2.2.2.2.2.1 (vp_in_nI (show 4 < 80 by decide) (by decide)) rfl ?_
                rw [show Int32.toNatClampNeg 4 = 4 from rfl]
                rw [show wR (uR m R5) 4 = iz Q.1 from congrArg (fun v : z4 => v.1) r4]
                refine zi_lmul 116 dX11_alike_115 rfl ?_
                refine zi_aload_n 117 dX11_alike_116 rfl rfl ?_
                refine zi_getfield 120 9 dX11_alike_117 zcl_X11 tw_872 rfl rfl N5.1.1 rfl rfl ?_
                refine zi_iconst (v := 0) 121 dX11_alike_120 (by decide) rfl ?_
                refine zi_iload 123 dX11_alike_121 rfl rfl ?_
                refine zi_iadd 124 dX11_alike_123 rfl ?_
                rw [show (0 : Int32) + 0 = 0 from rfl]
                refine zi_laload 125 dX11_alike_124 N5.1.2.2.2.2.2.2.2.2.1 (vp_in_nI (show 0 < 80 by decide) (by decide)) rfl ?_
                rw [show Int32.toNatClampNeg 0 = 0 from rfl]
                rw [show wR (uR m R5) 0 = iz P.1 from congrArg (fun v : z4 => v.1) r0]
                refine zi_aload_n 126 dX11_alike_125 rfl rfl ?_
                refine zi_getfield 129 9 dX11_alike_126 zcl_X11 tw_872 rfl rfl N5.1.1 rfl rfl ?_
                refine zi_iconst (v := 4) 130 dX11_alike_129 (by decide) rfl ?_
                refine zi_iload 132 dX11_alike_130 rfl rfl ?_
                refine zi_iadd 133 dX11_alike_132 rfl ?_
                rw [show (4 : Int32) + 2 = 6 from rfl]
                refine zi_laload 134 dX11_alike_133 N5.1.2.2.2.2.2.2.2.2.1 (vp_in_nI (show 6 < 80 by decide) (by decide)) rfl ?_
                rw [show Int32.toNatClampNeg 6 = 6 from rfl]
                rw [show wR (uR m R5) 6 = iz Q.2.2.1 from congrArg (fun v : z4 => v.2.2.1) r4]
                refine zi_lmul 135 dX11_alike_134 rfl ?_
                refine zj_ne 139 143 dX11_alike_135 rfl dX11_alike_136 (by decide) rfl (fun zz20 => ?_) (fun zz20 => ?_)
                ·
                  rw [pr_e bP2 bQ0 bP0 bQ2] at zz20
                  refine zi_iconst (v := 0) 144 dX11_alike_143 (by decide) rfl ?_
                  refine zi_istore_n (lv' := [(3, _), (5, _), (4, _), (0, _), (1, _), (2, _)]) 145 dX11_alike_144 rfl rfl rfl ?_
                  refine zi_iinc (v := 1) (lv' := [(5, _), (3, _), (4, _), (0, _), (1, _), (2, _)]) 148 dX11_alike_145 rfl rfl rfl rfl rfl ?_
                  refine zi_goto 86 dX11_alike_148 (by decide) ?_
                  refine zi_iload 88 dX11_alike_86 rfl rfl ?_
                  refine zi_iload 90 dX11_alike_88 rfl rfl ?_
                  refine zi_icmp_ge 93 151 dX11_alike_90 (by decide) rfl (fun c_90 => absurd c_90 (by decide)) (fun c_90 => ?_)
                  refine zi_iload_n 94 dX11_alike_93 rfl rfl ?_
                  refine zi_if_eq 97 143 dX11_alike_94 (by decide) rfl (fun c_94 => ?_) (fun c_94 => absurd c_94 (by decide))
                  refine zi_iconst (v := 0) 144 dX11_alike_143 (by decide) rfl ?_
                  refine zi_istore_n (lv' := [(3, _), (5, _), (4, _), (0, _), (1, _), (2, _)]) 145 dX11_alike_144 rfl rfl rfl ?_
                  refine zi_iinc (v := 2) (lv' := [(5, _), (3, _), (4, _), (0, _), (1, _), (2, _)]) 148 dX11_alike_145 rfl rfl rfl rfl rfl ?_
                  refine zi_goto 86 dX11_alike_148 (by decide) ?_
                  refine zi_iload 88 dX11_alike_86 rfl rfl ?_
                  refine zi_iload 90 dX11_alike_88 rfl rfl ?_
                  refine zi_icmp_ge 93 151 dX11_alike_90 (by decide) rfl (fun c_90 => ?_) (fun c_90 => absurd c_90 (by decide))
                  refine zi_iinc (v := 3) (lv' := [(4, _), (5, _), (3, _), (0, _), (1, _), (2, _)]) 154 dX11_alike_151 rfl rfl rfl rfl rfl ?_
                  refine zi_goto 77 dX11_alike_154 (by decide) ?_
                  refine zi_iload 79 dX11_alike_77 rfl rfl ?_
                  refine zi_iconst (v := 4) 80 dX11_alike_79 (by decide) rfl ?_
                  refine zi_icmp_ge 83 157 dX11_alike_80 (by decide) rfl (fun c_80 => absurd c_80 (by decide)) (fun c_80 => ?_)
                  refine zi_iconst (v := 0) 84 dX11_alike_83 (by decide) rfl ?_
                  refine zi_istore (lv' := [(5, _), (4, _), (3, _), (0, _), (1, _), (2, _)]) 86 dX11_alike_84 rfl rfl rfl ?_
                  refine zi_iload 88 dX11_alike_86 rfl rfl ?_
                  refine zi_iload 90 dX11_alike_88 rfl rfl ?_
                  refine zi_icmp_ge 93 151 dX11_alike_90 (by decide) rfl (fun c_90 => absurd c_90 (by decide)) (fun c_90 => ?_)
                  refine zi_iload_n 94 dX11_alike_93 rfl rfl ?_
                  refine zi_if_eq 97 143 dX11_alike_94 (by decide) rfl (fun c_94 => ?_) (fun c_94 => absurd c_94 (by decide))
                  refine zi_iconst (v := 0) 144 dX11_alike_143 (by decide) rfl ?_
                  refine zi_istore_n (lv' := [(3, _), (5, _), (4, _), (0, _), (1, _), (2, _)]) 145 dX11_alike_144 rfl rfl rfl ?_
                  refine zi_iinc (v := 1) (lv' := [(5, _), (3, _), (4, _), (0, _), (1, _), (2, _)]) 148 dX11_alike_145 rfl rfl rfl rfl rfl ?_
                  refine zi_goto 86 dX11_alike_148 (by decide) ?_
                  refine zi_iload 88 dX11_alike_86 rfl rfl ?_
                  refine zi_iload 90 dX11_alike_88 rfl rfl ?_
                  refine zi_icmp_ge 93 151 dX11_alike_90 (by decide) rfl (fun c_90 => absurd c_90 (by decide)) (fun c_90 => ?_)
                  refine zi_iload_n 94 dX11_alike_93 rfl rfl ?_
                  refine zi_if_eq 97 143 dX11_alike_94 (by decide) rfl (fun c_94 => ?_) (fun c_94 => absurd c_94 (by decide))
                  refine zi_iconst (v := 0) 144 dX11_alike_143 (by decide) rfl ?_
                  refine zi_istore_n (lv' := [(3, _), (5, _), (4, _), (0, _), (1, _), (2, _)]) 145 dX11_alike_144 rfl rfl rfl ?_
                  refine zi_iinc (v := 2) (lv' := [(5, _), (3, _), (4, _), (0, _), (1, _), (2, _)]) 148 dX11_alike_145 rfl rfl rfl rfl rfl ?_
                  refine zi_goto 86 dX11_alike_148 (by decide) ?_
                  refine zi_iload 88 dX11_alike_86 rfl rfl ?_
                  refine zi_iload 90 dX11_alike_88 rfl rfl ?_
                  refine zi_icmp_ge 93 151 dX11_alike_90 (by decide) rfl (fun c_90 => absurd c_90 (by decide)) (fun c_90 => ?_)
                  refine zi_iload_n 94 dX11_alike_93 rfl rfl ?_
                  refine zi_if_eq 97 143 dX11_alike_94 (by decide) rfl (fun c_94 => ?_) (fun c_94 => absurd c_94 (by decide))
                  refine zi_iconst (v := 0) 144 dX11_alike_143 (by decide) rfl ?_
                  refine zi_istore_n (lv' := [(3, _), (5, _), (4, _), (0, _), (1, _), (2, _)]) 145 dX11_alike_144 rfl rfl rfl ?_
                  refine zi_iinc (v := 3) (lv' := [(5, _), (3, _), (4, _), (0, _), (1, _), (2, _)]) 148 dX11_alike_145 rfl rfl rfl rfl rfl ?_
                  refine zi_goto 86 dX11_alike_148 (by decide) ?_
                  refine zi_iload 88 dX11_alike_86 rfl rfl ?_
                  refine zi_iload 90 dX11_alike_88 rfl rfl ?_
                  refine zi_icmp_ge 93 151 dX11_alike_90 (by decide) rfl (fun c_90 => ?_) (fun c_90 => absurd c_90 (by decide))
                  refine zi_iinc (v := 4) (lv' := [(4, _), (5, _), (3, _), (0, _), (1, _), (2, _)]) 154 dX11_alike_151 rfl rfl rfl rfl rfl ?_
                  refine zi_goto 77 dX11_alike_154 (by decide) ?_
                  refine zi_iload 79 dX11_alike_77 rfl rfl ?_
                  refine zi_iconst (v := 4) 80 dX11_alike_79 (by decide) rfl ?_
                  refine zi_icmp_ge 83 157 dX11_alike_80 (by decide) rfl (fun c_80 => ?_) (fun c_80 => absurd c_80 (by decide))
                  refine zi_aload_n 158 dX11_alike_157 rfl rfl ?_
                  refine zi_iload_n 159 dX11_alike_158 rfl rfl ?_
                  refine zi_if_eq 162 166 dX11_alike_159 (by decide) rfl (fun c_159 => ?_) (fun c_159 => absurd c_159 (by decide))
                  refine zi_iconst (v := 0) 167 dX11_alike_166 (by decide) rfl ?_
                  refine zc_virtual (n' := (0, 0)) (md' := mX11_well) 170 dX11_alike_167 tw_916 zv_X11_well zcl_X11 (s_X11_well B h4 D hD _ N5.1 _) N5.1.1 rfl rfl rfl rfl rfl rfl rfl rfl (zk_i fun x7 h7 p7 => ?_)
                  obtain ⟨rfl, n7⟩ := p7
                  have N7 := rN_t N5 n7
                  exact zr_int hZ dX11_alike_170 rfl rfl ⟨_, rfl, _, by rw [r_alike, if_neg zzO, nI_clamp hpj31, hsP, onS_s, nI_clamp hqj31, hsQ, onS_s, if_neg (fun r => r.elim zzY zzZ), if_neg (by first | exact fun r => zz10 r.1.symm | exact fun r => zz20 r.2.1.symm | exact fun r => zz21 r.2.2.2.1.symm | exact fun r => zz30 r.2.2.1.symm | exact fun r => zz31 r.2.2.2.2.1.symm | exact fun r => zz32 r.2.2.2.2.2.symm)], ⟨_, N7.1, mQ_F 0 K⟩, N7.2⟩
                ·
                  rw [pr_e bP2 bQ0 bP0 bQ2] at zz20
                  refine zi_iconst (v := 1) 140 dX11_alike_139 (by decide) rfl ?_
                  refine zi_goto 144 dX11_alike_140 (by decide) ?_
                  refine zi_istore_n (lv' := [(3, _), (5, _), (4, _), (0, _), (1, _), (2, _)]) 145 dX11_alike_144 rfl rfl rfl ?_
                  refine zi_iinc (v := 1) (lv' := [(5, _), (3, _), (4, _), (0, _), (1, _), (2, _)]) 148 dX11_alike_145 rfl rfl rfl rfl rfl ?_
                  refine zi_goto 86 dX11_alike_148 (by decide) ?_
                  refine zi_iload 88 dX11_alike_86 rfl rfl ?_
                  refine zi_iload 90 dX11_alike_88 rfl rfl ?_
                  refine zi_icmp_ge 93 151 dX11_alike_90 (by decide) rfl (fun c_90 => absurd c_90 (by decide)) (fun c_90 => ?_)
                  refine zi_iload_n 94 dX11_alike_93 rfl rfl ?_
                  refine zi_if_eq 97 143 dX11_alike_94 (by decide) rfl (fun c_94 => absurd c_94 (by decide)) (fun c_94 => ?_)
                  refine zi_aload_n 98 dX11_alike_97 rfl rfl ?_
                  refine zi_getfield 101 9 dX11_alike_98 zcl_X11 tw_872 rfl rfl N5.1.1 rfl rfl ?_
                  refine zi_iconst (v := 0) 102 dX11_alike_101 (by decide) rfl ?_
                  refine zi_iload 104 dX11_alike_102 rfl rfl ?_
                  refine zi_iadd 105 dX11_alike_104 rfl ?_
                  rw [show (0 : Int32) + 2 = 2 from rfl]
                  refine zi_laload 106 dX11_alike_105 N5.1.2.2.2.2.2.2.2.2.1 (vp_in_nI (show 2 < 80 by decide) (by decide)) rfl ?_
                  rw [show Int32.toNatClampNeg 2 = 2 from rfl]
                  rw [show wR (uR m R5) 2 = iz P.2.2.1 from congrArg (fun v : z4 => v.2.2.1) r0]
                  refine zi_aload_n 107 dX11_alike_106 rfl rfl ?_
                  refine zi_getfield 110 9 dX11_alike_107 zcl_X11 tw_872 rfl rfl N5.1.1 rfl rfl ?_
                  refine zi_iconst (v := 4) 111 dX11_alike_110 (by decide) rfl ?_
                  refine zi_iload 113 dX11_alike_111 rfl rfl ?_
                  refine zi_iadd 114 dX11_alike_113 rfl ?_
                  rw [show (4 : Int32) + 1 = 5 from rfl]
                  refine zi_laload 115 dX11_alike_114 N5.1.2.2.2.2.2.2.2.2.1 (vp_in_nI (show 5 < 80 by decide) (by decide)) rfl ?_
                  rw [show Int32.toNatClampNeg 5 = 5 from rfl]
                  rw [show wR (uR m R5) 5 = iz Q.2.1 from congrArg (fun v : z4 => v.2.1) r4]
                  refine zi_lmul 116 dX11_alike_115 rfl ?_
                  refine zi_aload_n 117 dX11_alike_116 rfl rfl ?_
                  refine zi_getfield 120 9 dX11_alike_117 zcl_X11 tw_872 rfl rfl N5.1.1 rfl rfl ?_
                  refine zi_iconst (v := 0) 121 dX11_alike_120 (by decide) rfl ?_
                  refine zi_iload 123 dX11_alike_121 rfl rfl ?_
                  refine zi_iadd 124 dX11_alike_123 rfl ?_
                  rw [show (0 : Int32) + 1 = 1 from rfl]
                  refine zi_laload 125 dX11_alike_124 N5.1.2.2.2.2.2.2.2.2.1 (vp_in_nI (show 1 < 80 by decide) (by decide)) rfl ?_
                  rw [show Int32.toNatClampNeg 1 = 1 from rfl]
                  rw [show wR (uR m R5) 1 = iz P.2.1 from congrArg (fun v : z4 => v.2.1) r0]
                  refine zi_aload_n 126 dX11_alike_125 rfl rfl ?_
                  refine zi_getfield 129 9 dX11_alike_126 zcl_X11 tw_872 rfl rfl N5.1.1 rfl rfl ?_
                  refine zi_iconst (v := 4) 130 dX11_alike_129 (by decide) rfl ?_
                  refine zi_iload 132 dX11_alike_130 rfl rfl ?_
                  refine zi_iadd 133 dX11_alike_132 rfl ?_
                  rw [show (4 : Int32) + 2 = 6 from rfl]
                  refine zi_laload 134 dX11_alike_133 N5.1.2.2.2.2.2.2.2.2.1 (vp_in_nI (show 6 < 80 by decide) (by decide)) rfl ?_
                  rw [show Int32.toNatClampNeg 6 = 6 from rfl]
                  rw [show wR (uR m R5) 6 = iz Q.2.2.1 from congrArg (fun v : z4 => v.2.2.1) r4]
                  refine zi_lmul 135 dX11_alike_134 rfl ?_
                  refine zj_ne 139 143 dX11_alike_135 rfl dX11_alike_136 (by decide) rfl (fun zz21 => ?_) (fun zz21 => ?_)
                  ·
                    rw [pr_e bP2 bQ1 bP1 bQ2] at zz21
                    refine zi_iconst (v := 0) 144 dX11_alike_143 (by decide) rfl ?_
                    refine zi_istore_n (lv' := [(3, _), (5, _), (4, _), (0, _), (1, _), (2, _)]) 145 dX11_alike_144 rfl rfl rfl ?_
                    refine zi_iinc (v := 2) (lv' := [(5, _), (3, _), (4, _), (0, _), (1, _), (2, _)]) 148 dX11_alike_145 rfl rfl rfl rfl rfl ?_
                    refine zi_goto 86 dX11_alike_148 (by decide) ?_
                    refine zi_iload 88 dX11_alike_86 rfl rfl ?_
                    refine zi_iload 90 dX11_alike_88 rfl rfl ?_
                    refine zi_icmp_ge 93 151 dX11_alike_90 (by decide) rfl (fun c_90 => ?_) (fun c_90 => absurd c_90 (by decide))
                    refine zi_iinc (v := 3) (lv' := [(4, _), (5, _), (3, _), (0, _), (1, _), (2, _)]) 154 dX11_alike_151 rfl rfl rfl rfl rfl ?_
                    refine zi_goto 77 dX11_alike_154 (by decide) ?_
                    refine zi_iload 79 dX11_alike_77 rfl rfl ?_
                    refine zi_iconst (v := 4) 80 dX11_alike_79 (by decide) rfl ?_
                    refine zi_icmp_ge 83 157 dX11_alike_80 (by decide) rfl (fun c_80 => absurd c_80 (by decide)) (fun c_80 => ?_)
                    refine zi_iconst (v := 0) 84 dX11_alike_83 (by decide) rfl ?_
                    refine zi_istore (lv' := [(5, _), (4, _), (3, _), (0, _), (1, _), (2, _)]) 86 dX11_alike_84 rfl rfl rfl ?_
                    refine zi_iload 88 dX11_alike_86 rfl rfl ?_
                    refine zi_iload 90 dX11_alike_88 rfl rfl ?_
                    refine zi_icmp_ge 93 151 dX11_alike_90 (by decide) rfl (fun c_90 => absurd c_90 (by decide)) (fun c_90 => ?_)
                    refine zi_iload_n 94 dX11_alike_93 rfl rfl ?_
                    refine zi_if_eq 97 143 dX11_alike_94 (by decide) rfl (fun c_94 => ?_) (fun c_94 => absurd c_94 (by decide))
                    refine zi_iconst (v := 0) 144 dX11_alike_143 (by decide) rfl ?_
                    refine zi_istore_n (lv' := [(3, _), (5, _), (4, _), (0, _), (1, _), (2, _)]) 145 dX11_alike_144 rfl rfl rfl ?_
                    refine zi_iinc (v := 1) (lv' := [(5, _), (3, _), (4, _), (0, _), (1, _), (2, _)]) 148 dX11_alike_145 rfl rfl rfl rfl rfl ?_
                    refine zi_goto 86 dX11_alike_148 (by decide) ?_
                    refine zi_iload 88 dX11_alike_86 rfl rfl ?_
                    refine zi_iload 90 dX11_alike_88 rfl rfl ?_
                    refine zi_icmp_ge 93 151 dX11_alike_90 (by decide) rfl (fun c_90 => absurd c_90 (by decide)) (fun c_90 => ?_)
                    refine zi_iload_n 94 dX11_alike_93 rfl rfl ?_
                    refine zi_if_eq 97 143 dX11_alike_94 (by decide) rfl (fun c_94 => ?_) (fun c_94 => absurd c_94 (by decide))
                    refine zi_iconst (v := 0) 144 dX11_alike_143 (by decide) rfl ?_
                    refine zi_istore_n (lv' := [(3, _), (5, _), (4, _), (0, _), (1, _), (2, _)]) 145 dX11_alike_144 rfl rfl rfl ?_
                    refine zi_iinc (v := 2) (lv' := [(5, _), (3, _), (4, _), (0, _), (1, _), (2, _)]) 148 dX11_alike_145 rfl rfl rfl rfl rfl ?_
                    refine zi_goto 86 dX11_alike_148 (by decide) ?_
                    refine zi_iload 88 dX11_alike_86 rfl rfl ?_
                    refine zi_iload 90 dX11_alike_88 rfl rfl ?_
                    refine zi_icmp_ge 93 151 dX11_alike_90 (by decide) rfl (fun c_90 => absurd c_90 (by decide)) (fun c_90 => ?_)
                    refine zi_iload_n 94 dX11_alike_93 rfl rfl ?_
                    refine zi_if_eq 97 143 dX11_alike_94 (by decide) rfl (fun c_94 => ?_) (fun c_94 => absurd c_94 (by decide))
                    refine zi_iconst (v := 0) 144 dX11_alike_143 (by decide) rfl ?_
                    refine zi_istore_n (lv' := [(3, _), (5, _), (4, _), (0, _), (1, _), (2, _)]) 145 dX11_alike_144 rfl rfl rfl ?_
                    refine zi_iinc (v := 3) (lv' := [(5, _), (3, _), (4, _), (0, _), (1, _), (2, _)]) 148 dX11_alike_145 rfl rfl rfl rfl rfl ?_
                    refine zi_goto 86 dX11_alike_148 (by decide) ?_
                    refine zi_iload 88 dX11_alike_86 rfl rfl ?_
                    refine zi_iload 90 dX11_alike_88 rfl rfl ?_
                    refine zi_icmp_ge 93 151 dX11_alike_90 (by decide) rfl (fun c_90 => ?_) (fun c_90 => absurd c_90 (by decide))
                    refine zi_iinc (v := 4) (lv' := [(4, _), (5, _), (3, _), (0, _), (1, _), (2, _)]) 154 dX11_alike_151 rfl rfl rfl rfl rfl ?_
                    refine zi_goto 77 dX11_alike_154 (by decide) ?_
                    refine zi_iload 79 dX11_alike_77 rfl rfl ?_
                    refine zi_iconst (v := 4) 80 dX11_alike_79 (by decide) rfl ?_
                    refine zi_icmp_ge 83 157 dX11_alike_80 (by decide) rfl (fun c_80 => ?_) (fun c_80 => absurd c_80 (by decide))
                    refine zi_aload_n 158 dX11_alike_157 rfl rfl ?_
                    refine zi_iload_n 159 dX11_alike_158 rfl rfl ?_
                    refine zi_if_eq 162 166 dX11_alike_159 (by decide) rfl (fun c_159 => ?_) (fun c_159 => absurd c_159 (by decide))
                    refine zi_iconst (v := 0) 167 dX11_alike_166 (by decide) rfl ?_
                    refine zc_virtual (n' := (0, 0)) (md' := mX11_well) 170 dX11_alike_167 tw_916 zv_X11_well zcl_X11 (s_X11_well B h4 D hD _ N5.1 _) N5.1.1 rfl rfl rfl rfl rfl rfl rfl rfl (zk_i fun x8 h8 p8 => ?_)
                    obtain ⟨rfl, n8⟩ := p8
                    have N8 := rN_t N5 n8
                    exact zr_int hZ dX11_alike_170 rfl rfl ⟨_, rfl, _, by rw [r_alike, if_neg zzO, nI_clamp hpj31, hsP, onS_s, nI_clamp hqj31, hsQ, onS_s, if_neg (fun r => r.elim zzY zzZ), if_neg (by first | exact fun r => zz10 r.1.symm | exact fun r => zz20 r.2.1.symm | exact fun r => zz21 r.2.2.2.1.symm | exact fun r => zz30 r.2.2.1.symm | exact fun r => zz31 r.2.2.2.2.1.symm | exact fun r => zz32 r.2.2.2.2.2.symm)], ⟨_, N8.1, mQ_F 0 K⟩, N8.2⟩
                  ·
                    rw [pr_e bP2 bQ1 bP1 bQ2] at zz21
                    refine zi_iconst (v := 1) 140 dX11_alike_139 (by decide) rfl ?_
                    refine zi_goto 144 dX11_alike_140 (by decide) ?_
                    refine zi_istore_n (lv' := [(3, _), (5, _), (4, _), (0, _), (1, _), (2, _)]) 145 dX11_alike_144 rfl rfl rfl ?_
                    refine zi_iinc (v := 2) (lv' := [(5, _), (3, _), (4, _), (0, _), (1, _), (2, _)]) 148 dX11_alike_145 rfl rfl rfl rfl rfl ?_
                    refine zi_goto 86 dX11_alike_148 (by decide) ?_
                    refine zi_iload 88 dX11_alike_86 rfl rfl ?_
                    refine zi_iload 90 dX11_alike_88 rfl rfl ?_
                    refine zi_icmp_ge 93 151 dX11_alike_90 (by decide) rfl (fun c_90 => ?_) (fun c_90 => absurd c_90 (by decide))
                    refine zi_iinc (v := 3) (lv' := [(4, _), (5, _), (3, _), (0, _), (1, _), (2, _)]) 154 dX11_alike_151 rfl rfl rfl rfl rfl ?_
                    refine zi_goto 77 dX11_alike_154 (by decide) ?_
                    refine zi_iload 79 dX11_alike_77 rfl rfl ?_
                    refine zi_iconst (v := 4) 80 dX11_alike_79 (by decide) rfl ?_
                    refine zi_icmp_ge 83 157 dX11_alike_80 (by decide) rfl (fun c_80 => absurd c_80 (by decide)) (fun c_80 => ?_)
                    refine zi_iconst (v := 0) 84 dX11_alike_83 (by decide) rfl ?_
                    refine zi_istore (lv' := [(5, _), (4, _), (3, _), (0, _), (1, _), (2, _)]) 86 dX11_alike_84 rfl rfl rfl ?_
                    refine zi_iload 88 dX11_alike_86 rfl rfl ?_
                    refine zi_iload 90 dX11_alike_88 rfl rfl ?_
                    refine zi_icmp_ge 93 151 dX11_alike_90 (by decide) rfl (fun c_90 => absurd c_90 (by decide)) (fun c_90 => ?_)
                    refine zi_iload_n 94 dX11_alike_93 rfl rfl ?_
                    refine zi_if_eq 97 143 dX11_alike_94 (by decide) rfl (fun c_94 => absurd c_94 (by decide)) (fun c_94 => ?_)
                    refine zi_aload_n 98 dX11_alike_97 rfl rfl ?_
                    refine zi_getfield 101 9 dX11_alike_98 zcl_X11 tw_872 rfl rfl N5.1.1 rfl rfl ?_
                    refine zi_iconst (v := 0) 102 dX11_alike_101 (by decide) rfl ?_
                    refine zi_iload 104 dX11_alike_102 rfl rfl ?_
                    refine zi_iadd 105 dX11_alike_104 rfl ?_
                    rw [show (0 : Int32) + 3 = 3 from rfl]
                    refine zi_laload 106 dX11_alike_105 N5.1.2.2.2.2.2.2.2.2.1 (vp_in_nI (show 3 < 80 by decide) (by decide)) rfl ?_
                    rw [show Int32.toNatClampNeg 3 = 3 from rfl]
                    rw [show wR (uR m R5) 3 = iz P.2.2.2 from congrArg (fun v : z4 => v.2.2.2) r0]
                    refine zi_aload_n 107 dX11_alike_106 rfl rfl ?_
                    refine zi_getfield 110 9 dX11_alike_107 zcl_X11 tw_872 rfl rfl N5.1.1 rfl rfl ?_
                    refine zi_iconst (v := 4) 111 dX11_alike_110 (by decide) rfl ?_
                    refine zi_iload 113 dX11_alike_111 rfl rfl ?_
                    refine zi_iadd 114 dX11_alike_113 rfl ?_
                    rw [show (4 : Int32) + 0 = 4 from rfl]
                    refine zi_laload 115 dX11_alike_114 N5.1.2.2.2.2.2.2.2.2.1 (vp_in_nI (show 4 < 80 by decide) (by decide)) rfl ?_
                    rw [show Int32.toNatClampNeg 4 = 4 from rfl]
                    rw [show wR (uR m R5) 4 = iz Q.1 from congrArg (fun v : z4 => v.1) r4]
                    refine zi_lmul 116 dX11_alike_115 rfl ?_
                    refine zi_aload_n 117 dX11_alike_116 rfl rfl ?_
                    refine zi_getfield 120 9 dX11_alike_117 zcl_X11 tw_872 rfl rfl N5.1.1 rfl rfl ?_
                    refine zi_iconst (v := 0) 121 dX11_alike_120 (by decide) rfl ?_
                    refine zi_iload 123 dX11_alike_121 rfl rfl ?_
                    refine zi_iadd 124 dX11_alike_123 rfl ?_
                    rw [show (0 : Int32) + 0 = 0 from rfl]
                    refine zi_laload 125 dX11_alike_124 N5.1.2.2.2.2.2.2.2.2.1 (vp_in_nI (show 0 < 80 by decide) (by decide)) rfl ?_
                    rw [show Int32.toNatClampNeg 0 = 0 from rfl]
                    rw [show wR (uR m R5) 0 = iz P.1 from congrArg (fun v : z4 => v.1) r0]
                    refine zi_aload_n 126 dX11_alike_125 rfl rfl ?_
                    refine zi_getfield 129 9 dX11_alike_126 zcl_X11 tw_872 rfl rfl N5.1.1 rfl rfl ?_
                    refine zi_iconst (v := 4) 130 dX11_alike_129 (by decide) rfl ?_
                    refine zi_iload 132 dX11_alike_130 rfl rfl ?_
                    refine zi_iadd 133 dX11_alike_132 rfl ?_
                    rw [show (4 : Int32) + 3 = 7 from rfl]
                    refine zi_laload 134 dX11_alike_133 N5.1.2.2.2.2.2.2.2.2.1 (vp_in_nI (show 7 < 80 by decide) (by decide)) rfl ?_
                    rw [show Int32.toNatClampNeg 7 = 7 from rfl]
                    rw [show wR (uR m R5) 7 = iz Q.2.2.2 from congrArg (fun v : z4 => v.2.2.2) r4]
                    refine zi_lmul 135 dX11_alike_134 rfl ?_
                    refine zj_ne 139 143 dX11_alike_135 rfl dX11_alike_136 (by decide) rfl (fun zz30 => ?_) (fun zz30 => ?_)
                    ·
                      rw [pr_e bP3 bQ0 bP0 bQ3] at zz30
                      refine zi_iconst (v := 0) 144 dX11_alike_143 (by decide) rfl ?_
                      refine zi_istore_n (lv' := [(3, _), (5, _), (4, _), (0, _), (1, _), (2, _)]) 145 dX11_alike_144 rfl rfl rfl ?_
                      refine zi_iinc (v := 1) (lv' := [(5, _), (3, _), (4, _), (0, _), (1, _), (2, _)]) 148 dX11_alike_145 rfl rfl rfl rfl rfl ?_
                      refine zi_goto 86 dX11_alike_148 (by decide) ?_
                      refine zi_iload 88 dX11_alike_86 rfl rfl ?_
                      refine zi_iload 90 dX11_alike_88 rfl rfl ?_
                      refine zi_icmp_ge 93 151 dX11_alike_90 (by decide) rfl (fun c_90 => absurd c_90 (by decide)) (fun c_90 => ?_)
                      refine zi_iload_n 94 dX11_alike_93 rfl rfl ?_
                      refine zi_if_eq 97 143 dX11_alike_94 (by decide) rfl (fun c_94 => ?_) (fun c_94 => absurd c_94 (by decide))
                      refine zi_iconst (v := 0) 144 dX11_alike_143 (by decide) rfl ?_
                      refine zi_istore_n (lv' := [(3, _), (5, _), (4, _), (0, _), (1, _), (2, _)]) 145 dX11_alike_144 rfl rfl rfl ?_
                      refine zi_iinc (v := 2) (lv' := [(5, _), (3, _), (4, _), (0, _), (1, _), (2, _)]) 148 dX11_alike_145 rfl rfl rfl rfl rfl ?_
                      refine zi_goto 86 dX11_alike_148 (by decide) ?_
                      refine zi_iload 88 dX11_alike_86 rfl rfl ?_
                      refine zi_iload 90 dX11_alike_88 rfl rfl ?_
                      refine zi_icmp_ge 93 151 dX11_alike_90 (by decide) rfl (fun c_90 => absurd c_90 (by decide)) (fun c_90 => ?_)
                      refine zi_iload_n 94 dX11_alike_93 rfl rfl ?_
                      refine zi_if_eq 97 143 dX11_alike_94 (by decide) rfl (fun c_94 => ?_) (fun c_94 => absurd c_94 (by decide))
                      refine zi_iconst (v := 0) 144 dX11_alike_143 (by decide) rfl ?_
                      refine zi_istore_n (lv' := [(3, _), (5, _), (4, _), (0, _), (1, _), (2, _)]) 145 dX11_alike_144 rfl rfl rfl ?_
                      refine zi_iinc (v := 3) (lv' := [(5, _), (3, _), (4, _), (0, _), (1, _), (2, _)]) 148 dX11_alike_145 rfl rfl rfl rfl rfl ?_
                      refine zi_goto 86 dX11_alike_148 (by decide) ?_
                      refine zi_iload 88 dX11_alike_86 rfl rfl ?_
                      refine zi_iload 90 dX11_alike_88 rfl rfl ?_
                      refine zi_icmp_ge 93 151 dX11_alike_90 (by decide) rfl (fun c_90 => ?_) (fun c_90 => absurd c_90 (by decide))
                      refine zi_iinc (v := 4) (lv' := [(4, _), (5, _), (3, _), (0, _), (1, _), (2, _)]) 154 dX11_alike_151 rfl rfl rfl rfl rfl ?_
                      refine zi_goto 77 dX11_alike_154 (by decide) ?_
                      refine zi_iload 79 dX11_alike_77 rfl rfl ?_
                      refine zi_iconst (v := 4) 80 dX11_alike_79 (by decide) rfl ?_
                      refine zi_icmp_ge 83 157 dX11_alike_80 (by decide) rfl (fun c_80 => ?_) (fun c_80 => absurd c_80 (by decide))
                      refine zi_aload_n 158 dX11_alike_157 rfl rfl ?_
                      refine zi_iload_n 159 dX11_alike_158 rfl rfl ?_
                      refine zi_if_eq 162 166 dX11_alike_159 (by decide) rfl (fun c_159 => ?_) (fun c_159 => absurd c_159 (by decide))
                      refine zi_iconst (v := 0) 167 dX11_alike_166 (by decide) rfl ?_
                      refine zc_virtual (n' := (0, 0)) (md' := mX11_well) 170 dX11_alike_167 tw_916 zv_X11_well zcl_X11 (s_X11_well B h4 D hD _ N5.1 _) N5.1.1 rfl rfl rfl rfl rfl rfl rfl rfl (zk_i fun x9 h9 p9 => ?_)
                      obtain ⟨rfl, n9⟩ := p9
                      have N9 := rN_t N5 n9
                      exact zr_int hZ dX11_alike_170 rfl rfl ⟨_, rfl, _, by rw [r_alike, if_neg zzO, nI_clamp hpj31, hsP, onS_s, nI_clamp hqj31, hsQ, onS_s, if_neg (fun r => r.elim zzY zzZ), if_neg (by first | exact fun r => zz10 r.1.symm | exact fun r => zz20 r.2.1.symm | exact fun r => zz21 r.2.2.2.1.symm | exact fun r => zz30 r.2.2.1.symm | exact fun r => zz31 r.2.2.2.2.1.symm | exact fun r => zz32 r.2.2.2.2.2.symm)], ⟨_, N9.1, mQ_F 0 K⟩, N9.2⟩
                    ·
                      rw [pr_e bP3 bQ0 bP0 bQ3] at zz30
                      refine zi_iconst (v := 1) 140 dX11_alike_139 (by decide) rfl ?_
                      refine zi_goto 144 dX11_alike_140 (by decide) ?_
                      refine zi_istore_n (lv' := [(3, _), (5, _), (4, _), (0, _), (1, _), (2, _)]) 145 dX11_alike_144 rfl rfl rfl ?_
                      refine zi_iinc (v := 1) (lv' := [(5, _), (3, _), (4, _), (0, _), (1, _), (2, _)]) 148 dX11_alike_145 rfl rfl rfl rfl rfl ?_
                      refine zi_goto 86 dX11_alike_148 (by decide) ?_
                      refine zi_iload 88 dX11_alike_86 rfl rfl ?_
                      refine zi_iload 90 dX11_alike_88 rfl rfl ?_
                      refine zi_icmp_ge 93 151 dX11_alike_90 (by decide) rfl (fun c_90 => absurd c_90 (by decide)) (fun c_90 => ?_)
                      refine zi_iload_n 94 dX11_alike_93 rfl rfl ?_
                      refine zi_if_eq 97 143 dX11_alike_94 (by decide) rfl (fun c_94 => absurd c_94 (by decide)) (fun c_94 => ?_)
                      refine zi_aload_n 98 dX11_alike_97 rfl rfl ?_
                      refine zi_getfield 101 9 dX11_alike_98 zcl_X11 tw_872 rfl rfl N5.1.1 rfl rfl ?_
                      refine zi_iconst (v := 0) 102 dX11_alike_101 (by decide) rfl ?_
                      refine zi_iload 104 dX11_alike_102 rfl rfl ?_
                      refine zi_iadd 105 dX11_alike_104 rfl ?_
                      rw [show (0 : Int32) + 3 = 3 from rfl]
                      refine zi_laload 106 dX11_alike_105 N5.1.2.2.2.2.2.2.2.2.1 (vp_in_nI (show 3 < 80 by decide) (by decide)) rfl ?_
                      rw [show Int32.toNatClampNeg 3 = 3 from rfl]
                      rw [show wR (uR m R5) 3 = iz P.2.2.2 from congrArg (fun v : z4 => v.2.2.2) r0]
                      refine zi_aload_n 107 dX11_alike_106 rfl rfl ?_
                      refine zi_getfield 110 9 dX11_alike_107 zcl_X11 tw_872 rfl rfl N5.1.1 rfl rfl ?_
                      refine zi_iconst (v := 4) 111 dX11_alike_110 (by decide) rfl ?_
                      refine zi_iload 113 dX11_alike_111 rfl rfl ?_
                      refine zi_iadd 114 dX11_alike_113 rfl ?_
                      rw [show (4 : Int32) + 1 = 5 from rfl]
                      refine zi_laload 115 dX11_alike_114 N5.1.2.2.2.2.2.2.2.2.1 (vp_in_nI (show 5 < 80 by decide) (by decide)) rfl ?_
                      rw [show Int32.toNatClampNeg 5 = 5 from rfl]
                      rw [show wR (uR m R5) 5 = iz Q.2.1 from congrArg (fun v : z4 => v.2.1) r4]
                      refine zi_lmul 116 dX11_alike_115 rfl ?_
                      refine zi_aload_n 117 dX11_alike_116 rfl rfl ?_
                      refine zi_getfield 120 9 dX11_alike_117 zcl_X11 tw_872 rfl rfl N5.1.1 rfl rfl ?_
                      refine zi_iconst (v := 0) 121 dX11_alike_120 (by decide) rfl ?_
                      refine zi_iload 123 dX11_alike_121 rfl rfl ?_
                      refine zi_iadd 124 dX11_alike_123 rfl ?_
                      rw [show (0 : Int32) + 1 = 1 from rfl]
                      refine zi_laload 125 dX11_alike_124 N5.1.2.2.2.2.2.2.2.2.1 (vp_in_nI (show 1 < 80 by decide) (by decide)) rfl ?_
                      rw [show Int32.toNatClampNeg 1 = 1 from rfl]
                      rw [show wR (uR m R5) 1 = iz P.2.1 from congrArg (fun v : z4 => v.2.1) r0]
                      refine zi_aload_n 126 dX11_alike_125 rfl rfl ?_
                      refine zi_getfield 129 9 dX11_alike_126 zcl_X11 tw_872 rfl rfl N5.1.1 rfl rfl ?_
                      refine zi_iconst (v := 4) 130 dX11_alike_129 (by decide) rfl ?_
                      refine zi_iload 132 dX11_alike_130 rfl rfl ?_
                      refine zi_iadd 133 dX11_alike_132 rfl ?_
                      rw [show (4 : Int32) + 3 = 7 from rfl]
                      refine zi_laload 134 dX11_alike_133 N5.1.2.2.2.2.2.2.2.2.1 (vp_in_nI (show 7 < 80 by decide) (by decide)) rfl ?_
                      rw [show Int32.toNatClampNeg 7 = 7 from rfl]
                      rw [show wR (uR m R5) 7 = iz Q.2.2.2 from congrArg (fun v : z4 => v.2.2.2) r4]
                      refine zi_lmul 135 dX11_alike_134 rfl ?_
                      refine zj_ne 139 143 dX11_alike_135 rfl dX11_alike_136 (by decide) rfl (fun zz31 => ?_) (fun zz31 => ?_)
                      ·
                        rw [pr_e bP3 bQ1 bP1 bQ3] at zz31
                        refine zi_iconst (v := 0) 144 dX11_alike_143 (by decide) rfl ?_
                        refine zi_istore_n (lv' := [(3, _), (5, _), (4, _), (0, _), (1, _), (2, _)]) 145 dX11_alike_144 rfl rfl rfl ?_
                        refine zi_iinc (v := 2) (lv' := [(5, _), (3, _), (4, _), (0, _), (1, _), (2, _)]) 148 dX11_alike_145 rfl rfl rfl rfl rfl ?_
                        refine zi_goto 86 dX11_alike_148 (by decide) ?_
                        refine zi_iload 88 dX11_alike_86 rfl rfl ?_
                        refine zi_iload 90 dX11_alike_88 rfl rfl ?_
                        refine zi_icmp_ge 93 151 dX11_alike_90 (by decide) rfl (fun c_90 => absurd c_90 (by decide)) (fun c_90 => ?_)
                        refine zi_iload_n 94 dX11_alike_93 rfl rfl ?_
                        refine zi_if_eq 97 143 dX11_alike_94 (by decide) rfl (fun c_94 => ?_) (fun c_94 => absurd c_94 (by decide))
                        refine zi_iconst (v := 0) 144 dX11_alike_143 (by decide) rfl ?_
                        refine zi_istore_n (lv' := [(3, _), (5, _), (4, _), (0, _), (1, _), (2, _)]) 145 dX11_alike_144 rfl rfl rfl ?_
                        refine zi_iinc (v := 3) (lv' := [(5, _), (3, _), (4, _), (0, _), (1, _), (2, _)]) 148 dX11_alike_145 rfl rfl rfl rfl rfl ?_
                        refine zi_goto 86 dX11_alike_148 (by decide) ?_
                        refine zi_iload 88 dX11_alike_86 rfl rfl ?_
                        refine zi_iload 90 dX11_alike_88 rfl rfl ?_
                        refine zi_icmp_ge 93 151 dX11_alike_90 (by decide) rfl (fun c_90 => ?_) (fun c_90 => absurd c_90 (by decide))
                        refine zi_iinc (v := 4) (lv' := [(4, _), (5, _), (3, _), (0, _), (1, _), (2, _)]) 154 dX11_alike_151 rfl rfl rfl rfl rfl ?_
                        refine zi_goto 77 dX11_alike_154 (by decide) ?_
                        refine zi_iload 79 dX11_alike_77 rfl rfl ?_
                        refine zi_iconst (v := 4) 80 dX11_alike_79 (by decide) rfl ?_
                        refine zi_icmp_ge 83 157 dX11_alike_80 (by decide) rfl (fun c_80 => ?_) (fun c_80 => absurd c_80 (by decide))
                        refine zi_aload_n 158 dX11_alike_157 rfl rfl ?_
                        refine zi_iload_n 159 dX11_alike_158 rfl rfl ?_
                        refine zi_if_eq 162 166 dX11_alike_159 (by decide) rfl (fun c_159 => ?_) (fun c_159 => absurd c_159 (by decide))
                        refine zi_iconst (v := 0) 167 dX11_alike_166 (by decide) rfl ?_
                        refine zc_virtual (n' := (0, 0)) (md' := mX11_well) 170 dX11_alike_167 tw_916 zv_X11_well zcl_X11 (s_X11_well B h4 D hD _ N5.1 _) N5.1.1 rfl rfl rfl rfl rfl rfl rfl rfl (zk_i fun x10 h10 p10 => ?_)
                        obtain ⟨rfl, n10⟩ := p10
                        have N10 := rN_t N5 n10
                        exact zr_int hZ dX11_alike_170 rfl rfl ⟨_, rfl, _, by rw [r_alike, if_neg zzO, nI_clamp hpj31, hsP, onS_s, nI_clamp hqj31, hsQ, onS_s, if_neg (fun r => r.elim zzY zzZ), if_neg (by first | exact fun r => zz10 r.1.symm | exact fun r => zz20 r.2.1.symm | exact fun r => zz21 r.2.2.2.1.symm | exact fun r => zz30 r.2.2.1.symm | exact fun r => zz31 r.2.2.2.2.1.symm | exact fun r => zz32 r.2.2.2.2.2.symm)], ⟨_, N10.1, mQ_F 0 K⟩, N10.2⟩
                      ·
                        rw [pr_e bP3 bQ1 bP1 bQ3] at zz31
                        refine zi_iconst (v := 1) 140 dX11_alike_139 (by decide) rfl ?_
                        refine zi_goto 144 dX11_alike_140 (by decide) ?_
                        refine zi_istore_n (lv' := [(3, _), (5, _), (4, _), (0, _), (1, _), (2, _)]) 145 dX11_alike_144 rfl rfl rfl ?_
                        refine zi_iinc (v := 2) (lv' := [(5, _), (3, _), (4, _), (0, _), (1, _), (2, _)]) 148 dX11_alike_145 rfl rfl rfl rfl rfl ?_
                        refine zi_goto 86 dX11_alike_148 (by decide) ?_
                        refine zi_iload 88 dX11_alike_86 rfl rfl ?_
                        refine zi_iload 90 dX11_alike_88 rfl rfl ?_
                        refine zi_icmp_ge 93 151 dX11_alike_90 (by decide) rfl (fun c_90 => absurd c_90 (by decide)) (fun c_90 => ?_)
                        refine zi_iload_n 94 dX11_alike_93 rfl rfl ?_
                        refine zi_if_eq 97 143 dX11_alike_94 (by decide) rfl (fun c_94 => absurd c_94 (by decide)) (fun c_94 => ?_)
                        refine zi_aload_n 98 dX11_alike_97 rfl rfl ?_
                        refine zi_getfield 101 9 dX11_alike_98 zcl_X11 tw_872 rfl rfl N5.1.1 rfl rfl ?_
                        refine zi_iconst (v := 0) 102 dX11_alike_101 (by decide) rfl ?_
                        refine zi_iload 104 dX11_alike_102 rfl rfl ?_
                        refine zi_iadd 105 dX11_alike_104 rfl ?_
                        rw [show (0 : Int32) + 3 = 3 from rfl]
                        refine zi_laload 106 dX11_alike_105 N5.1.2.2.2.2.2.2.2.2.1 (vp_in_nI (show 3 < 80 by decide) (by decide)) rfl ?_
                        rw [show Int32.toNatClampNeg 3 = 3 from rfl]
                        rw [show wR (uR m R5) 3 = iz P.2.2.2 from congrArg (fun v : z4 => v.2.2.2) r0]
                        refine zi_aload_n 107 dX11_alike_106 rfl rfl ?_
                        refine zi_getfield 110 9 dX11_alike_107 zcl_X11 tw_872 rfl rfl N5.1.1 rfl rfl ?_
                        refine zi_iconst (v := 4) 111 dX11_alike_110 (by decide) rfl ?_
                        refine zi_iload 113 dX11_alike_111 rfl rfl ?_
                        refine zi_iadd 114 dX11_alike_113 rfl ?_
                        rw [show (4 : Int32) + 2 = 6 from rfl]
                        refine zi_laload 115 dX11_alike_114 N5.1.2.2.2.2.2.2.2.2.1 (vp_in_nI (show 6 < 80 by decide) (by decide)) rfl ?_
                        rw [show Int32.toNatClampNeg 6 = 6 from rfl]
                        rw [show wR (uR m R5) 6 = iz Q.2.2.1 from congrArg (fun v : z4 => v.2.2.1) r4]
                        refine zi_lmul 116 dX11_alike_115 rfl ?_
                        refine zi_aload_n 117 dX11_alike_116 rfl rfl ?_
                        refine zi_getfield 120 9 dX11_alike_117 zcl_X11 tw_872 rfl rfl N5.1.1 rfl rfl ?_
                        refine zi_iconst (v := 0) 121 dX11_alike_120 (by decide) rfl ?_
                        refine zi_iload 123 dX11_alike_121 rfl rfl ?_
                        refine zi_iadd 124 dX11_alike_123 rfl ?_
                        rw [show (0 : Int32) + 2 = 2 from rfl]
                        refine zi_laload 125 dX11_alike_124 N5.1.2.2.2.2.2.2.2.2.1 (vp_in_nI (show 2 < 80 by decide) (by decide)) rfl ?_
                        rw [show Int32.toNatClampNeg 2 = 2 from rfl]
                        rw [show wR (uR m R5) 2 = iz P.2.2.1 from congrArg (fun v : z4 => v.2.2.1) r0]
                        refine zi_aload_n 126 dX11_alike_125 rfl rfl ?_
                        refine zi_getfield 129 9 dX11_alike_126 zcl_X11 tw_872 rfl rfl N5.1.1 rfl rfl ?_
                        refine zi_iconst (v := 4) 130 dX11_alike_129 (by decide) rfl ?_
                        refine zi_iload 132 dX11_alike_130 rfl rfl ?_
                        refine zi_iadd 133 dX11_alike_132 rfl ?_
                        rw [show (4 : Int32) + 3 = 7 from rfl]
                        refine zi_laload 134 dX11_alike_133 N5.1.2.2.2.2.2.2.2.2.1 (vp_in_nI (show 7 < 80 by decide) (by decide)) rfl ?_
                        rw [show Int32.toNatClampNeg 7 = 7 from rfl]
                        rw [show wR (uR m R5) 7 = iz Q.2.2.2 from congrArg (fun v : z4 => v.2.2.2) r4]
                        refine zi_lmul 135 dX11_alike_134 rfl ?_
                        refine zj_ne 139 143 dX11_alike_135 rfl dX11_alike_136 (by decide) rfl (fun zz32 => ?_) (fun zz32 => ?_)
                        ·
                          rw [pr_e bP3 bQ2 bP2 bQ3] at zz32
                          refine zi_iconst (v := 0) 144 dX11_alike_143 (by decide) rfl ?_
                          refine zi_istore_n (lv' := [(3, _), (5, _), (4, _), (0, _), (1, _), (2, _)]) 145 dX11_alike_144 rfl rfl rfl ?_
                          refine zi_iinc (v := 3) (lv' := [(5, _), (3, _), (4, _), (0, _), (1, _), (2, _)]) 148 dX11_alike_145 rfl rfl rfl rfl rfl ?_
                          refine zi_goto 86 dX11_alike_148 (by decide) ?_
                          refine zi_iload 88 dX11_alike_86 rfl rfl ?_
                          refine zi_iload 90 dX11_alike_88 rfl rfl ?_
                          refine zi_icmp_ge 93 151 dX11_alike_90 (by decide) rfl (fun c_90 => ?_) (fun c_90 => absurd c_90 (by decide))
                          refine zi_iinc (v := 4) (lv' := [(4, _), (5, _), (3, _), (0, _), (1, _), (2, _)]) 154 dX11_alike_151 rfl rfl rfl rfl rfl ?_
                          refine zi_goto 77 dX11_alike_154 (by decide) ?_
                          refine zi_iload 79 dX11_alike_77 rfl rfl ?_
                          refine zi_iconst (v := 4) 80 dX11_alike_79 (by decide) rfl ?_
                          refine zi_icmp_ge 83 157 dX11_alike_80 (by decide) rfl (fun c_80 => ?_) (fun c_80 => absurd c_80 (by decide))
                          refine zi_aload_n 158 dX11_alike_157 rfl rfl ?_
                          refine zi_iload_n 159 dX11_alike_158 rfl rfl ?_
                          refine zi_if_eq 162 166 dX11_alike_159 (by decide) rfl (fun c_159 => ?_) (fun c_159 => absurd c_159 (by decide))
                          refine zi_iconst (v := 0) 167 dX11_alike_166 (by decide) rfl ?_
                          refine zc_virtual (n' := (0, 0)) (md' := mX11_well) 170 dX11_alike_167 tw_916 zv_X11_well zcl_X11 (s_X11_well B h4 D hD _ N5.1 _) N5.1.1 rfl rfl rfl rfl rfl rfl rfl rfl (zk_i fun x11 h11 p11 => ?_)
                          obtain ⟨rfl, n11⟩ := p11
                          have N11 := rN_t N5 n11
                          exact zr_int hZ dX11_alike_170 rfl rfl ⟨_, rfl, _, by rw [r_alike, if_neg zzO, nI_clamp hpj31, hsP, onS_s, nI_clamp hqj31, hsQ, onS_s, if_neg (fun r => r.elim zzY zzZ), if_neg (by first | exact fun r => zz10 r.1.symm | exact fun r => zz20 r.2.1.symm | exact fun r => zz21 r.2.2.2.1.symm | exact fun r => zz30 r.2.2.1.symm | exact fun r => zz31 r.2.2.2.2.1.symm | exact fun r => zz32 r.2.2.2.2.2.symm)], ⟨_, N11.1, mQ_F 0 K⟩, N11.2⟩
                        ·
                          rw [pr_e bP3 bQ2 bP2 bQ3] at zz32
                          refine zi_iconst (v := 1) 140 dX11_alike_139 (by decide) rfl ?_
                          refine zi_goto 144 dX11_alike_140 (by decide) ?_
                          refine zi_istore_n (lv' := [(3, _), (5, _), (4, _), (0, _), (1, _), (2, _)]) 145 dX11_alike_144 rfl rfl rfl ?_
                          refine zi_iinc (v := 3) (lv' := [(5, _), (3, _), (4, _), (0, _), (1, _), (2, _)]) 148 dX11_alike_145 rfl rfl rfl rfl rfl ?_
                          refine zi_goto 86 dX11_alike_148 (by decide) ?_
                          refine zi_iload 88 dX11_alike_86 rfl rfl ?_
                          refine zi_iload 90 dX11_alike_88 rfl rfl ?_
                          refine zi_icmp_ge 93 151 dX11_alike_90 (by decide) rfl (fun c_90 => ?_) (fun c_90 => absurd c_90 (by decide))
                          refine zi_iinc (v := 4) (lv' := [(4, _), (5, _), (3, _), (0, _), (1, _), (2, _)]) 154 dX11_alike_151 rfl rfl rfl rfl rfl ?_
                          refine zi_goto 77 dX11_alike_154 (by decide) ?_
                          refine zi_iload 79 dX11_alike_77 rfl rfl ?_
                          refine zi_iconst (v := 4) 80 dX11_alike_79 (by decide) rfl ?_
                          refine zi_icmp_ge 83 157 dX11_alike_80 (by decide) rfl (fun c_80 => ?_) (fun c_80 => absurd c_80 (by decide))
                          refine zi_aload_n 158 dX11_alike_157 rfl rfl ?_
                          refine zi_iload_n 159 dX11_alike_158 rfl rfl ?_
                          refine zi_if_eq 162 166 dX11_alike_159 (by decide) rfl (fun c_159 => absurd c_159 (by decide)) (fun c_159 => ?_)
                          refine zi_iconst (v := 1) 163 dX11_alike_162 (by decide) rfl ?_
                          refine zi_goto 167 dX11_alike_163 (by decide) ?_
                          refine zc_virtual (n' := (0, 0)) (md' := mX11_well) 170 dX11_alike_167 tw_916 zv_X11_well zcl_X11 (s_X11_well B h4 D hD _ N5.1 _) N5.1.1 rfl rfl rfl rfl rfl rfl rfl rfl (zk_i fun x12 h12 p12 => ?_)
                          obtain ⟨rfl, n12⟩ := p12
                          have N12 := rN_t N5 n12
                          exact zr_int hZ dX11_alike_170 rfl rfl ⟨_, rfl, _, by rw [r_alike, if_neg zzO, nI_clamp hpj31, hsP, onS_s, nI_clamp hqj31, hsQ, onS_s, if_neg (fun r => r.elim zzY zzZ), if_pos ⟨zz10.symm, zz20.symm, zz30.symm, zz21.symm, zz31.symm, zz32.symm⟩], ⟨_, N12.1, mQ_F 0 K⟩, N12.2⟩
            ·
              rw [show ro (wR (uR m R5)) 4 = z4i Q from r4, z4i_nil (zb_63 hVQ.2)] at zzZ
              refine zi_ldc 71 dX11_alike_69 tw_1063 rfl ?_
              exact zr_int hZ dX11_alike_71 rfl rfl ⟨_, rfl, _, by rw [r_alike, if_neg zzO, nI_clamp hpj31, hsP, onS_s, nI_clamp hqj31, hsQ, onS_s, if_pos (by first | exact Or.inl zzY | exact Or.inr zzZ)], ⟨_, N5.1, K⟩, N5.2⟩
    ·
      have zzB := Decidable.not_not.mp (fun q => zzB (in_20.mpr q))
      refine zi_ldc 16 dX11_alike_14 tw_910 rfl ?_
      exact zr_int hZ dX11_alike_16 rfl rfl ⟨_, rfl, _, by rw [r_alike, if_pos (by first | exact Or.inl zzA | exact Or.inr (zzB))], ⟨m, N0.1, K⟩, N0.2⟩

set_option maxHeartbeats 1000000 in
set_option maxRecDepth 100000 in
theorem s_X11_table (B : zBB) (h : zHp) (D : Nat → Nat) (hD : zInj D) (s : zSt) (hs0 : okSt s) (hR : rRm B D s h) (p : Int32) (r : Int32) (c : Int32) (w : Int32) : zSpec mX11_table B (2, 0, 0) [.ref (D 0), .int p, .int r, .int c, .int w] h (zPl (fun zx h' => ∃ s' : zSt, r_table s p r c w = (zx, s') ∧ rRm B D s' h' ∧ rOd D h h')) := by
  refine zSpec.of (by decide) (Nat.le_of_ble_eq_true rfl) (fun X hZ => ?_)
  show zG X mX11_table B (2, 0, 0) (0, 0) 0 [(0, .ref (D 0)), (1, .int p), (2, .int r), (3, .int c), (4, .int w)] [] h
  obtain ⟨m, M, K⟩ := hR
  have N0 := rN_r M
  refine zi_iload_n 1 dX11_table_0 rfl rfl ?_
  refine zc_static (n' := (0, 0)) (md' := mX11_isSlot) 4 dX11_table_1 tw_937 zs_X11_isSlot (s_X11_isSlot B h _) rfl rfl rfl rfl rfl rfl rfl rfl (zk_f ?_)
  refine zb_eq 7 42 dX11_table_4 (by decide) rfl (fun zzA => ?_) (fun zzA => ?_)
  ·
    have zzA := Decidable.not_not.mp (fun q => zzA (in_20.mpr q))
    refine zi_ldc2 45 dX11_table_42 tw_924 rfl ?_
    exact zr_long hZ dX11_table_45 rfl ⟨_, rfl, _, by rw [r_table, if_pos (by first | exact Or.inl zzA | exact Or.inr (Or.inl zzB) | exact Or.inr (Or.inr (Or.inl zzC)) | exact Or.inr (Or.inr (Or.inr (zzD))))], ⟨m, N0.1, K⟩, N0.2⟩
  ·
    have zzA := in_20.mp zzA
    refine zi_iload_n 8 dX11_table_7 rfl rfl ?_
    refine zi_i2l 9 dX11_table_8 rfl ?_
    refine zi_lconst (v := 0) 10 dX11_table_9 (by decide) rfl ?_
    refine zi_ldc2 13 dX11_table_10 tw_909 rfl ?_
    refine zc_static (n' := (0, 0)) (md' := mX11_in) 16 dX11_table_13 tw_906 zs_X11_in (s_X11_in B h _ _ _) rfl rfl rfl rfl rfl rfl rfl rfl (zk_f ?_)
    refine zb_eq 19 42 dX11_table_16 (by decide) rfl (fun zzB => ?_) (fun zzB => ?_)
    ·
      have zzB := Decidable.not_not.mp (fun q => zzB (in_3.mpr q))
      refine zi_ldc2 45 dX11_table_42 tw_924 rfl ?_
      exact zr_long hZ dX11_table_45 rfl ⟨_, rfl, _, by rw [r_table, if_pos (by first | exact Or.inl zzA | exact Or.inr (Or.inl zzB) | exact Or.inr (Or.inr (Or.inl zzC)) | exact Or.inr (Or.inr (Or.inr (zzD))))], ⟨m, N0.1, K⟩, N0.2⟩
    ·
      have zzB := in_3.mp zzB
      refine zi_iload_n 20 dX11_table_19 rfl rfl ?_
      refine zi_i2l 21 dX11_table_20 rfl ?_
      refine zi_lconst (v := 0) 22 dX11_table_21 (by decide) rfl ?_
      refine zi_ldc2 25 dX11_table_22 tw_909 rfl ?_
      refine zc_static (n' := (0, 0)) (md' := mX11_in) 28 dX11_table_25 tw_906 zs_X11_in (s_X11_in B h _ _ _) rfl rfl rfl rfl rfl rfl rfl rfl (zk_f ?_)
      refine zb_eq 31 42 dX11_table_28 (by decide) rfl (fun zzC => ?_) (fun zzC => ?_)
      ·
        have zzC := Decidable.not_not.mp (fun q => zzC (in_3.mpr q))
        refine zi_ldc2 45 dX11_table_42 tw_924 rfl ?_
        exact zr_long hZ dX11_table_45 rfl ⟨_, rfl, _, by rw [r_table, if_pos (by first | exact Or.inl zzA | exact Or.inr (Or.inl zzB) | exact Or.inr (Or.inr (Or.inl zzC)) | exact Or.inr (Or.inr (Or.inr (zzD))))], ⟨m, N0.1, K⟩, N0.2⟩
      ·
        have zzC := in_3.mp zzC
        refine zi_iload 33 dX11_table_31 rfl rfl ?_
        refine zi_i2l 34 dX11_table_33 rfl ?_
        refine zi_lconst (v := 0) 35 dX11_table_34 (by decide) rfl ?_
        refine zi_lconst (v := 1) 36 dX11_table_35 (by decide) rfl ?_
        refine zc_static (n' := (0, 0)) (md' := mX11_in) 39 dX11_table_36 tw_906 zs_X11_in (s_X11_in B h _ _ _) rfl rfl rfl rfl rfl rfl rfl rfl (zk_f ?_)
        refine zb_ne 42 46 dX11_table_39 (by decide) rfl (fun zzD => ?_) (fun zzD => ?_)
        ·
          have zzD := in_2.mp zzD
          have zzO : ¬ (zOut p 20 ∨ zOut r 3 ∨ zOut c 3 ∨ zOut w 2) := fun r => r.elim zzA (fun r => r.elim zzB (fun r => r.elim zzC zzD))
          obtain ⟨pj, hpj, hpj31, rfl⟩ := out_i (N := 20) (by decide) zzA
          refine zi_aload_n 47 dX11_table_46 rfl rfl ?_
          refine zi_iload_n 48 dX11_table_47 rfl rfl ?_
          rcases hsP : qSl s pj with _ | P
          ·
            refine zc_virtual (n' := (0, 0)) (md' := mX11_refusal) 51 dX11_table_48 tw_1137 zv_X11_refusal zcl_X11 (s_X11_refusalN B h D hD _ N0.1 pj hpj (by rw [K.1 pj hpj, hsP]; rfl)) N0.1.1 rfl rfl rfl rfl rfl rfl rfl rfl (zk_i fun x1 h1 p1 => ?_)
            obtain ⟨rfl, n1⟩ := p1
            have N1 := rN_t N0 n1
            refine zi_istore (lv' := [(5, _), (0, _), (1, _), (2, _), (3, _), (4, _)]) 53 dX11_table_51 rfl rfl rfl ?_
            refine zi_iload 55 dX11_table_53 rfl rfl ?_
            refine zi_if_eq 58 64 dX11_table_55 (by decide) rfl (fun c_55 => absurd c_55 (by decide)) (fun c_55 => ?_)
            refine zi_iload 60 dX11_table_58 rfl rfl ?_
            refine zi_i2l 61 dX11_table_60 rfl ?_
            refine zi_goto 85 dX11_table_61 (by decide) ?_
            exact zr_long hZ dX11_table_85 rfl ⟨_, rfl, _, by rw [r_table, if_neg zzO, nI_clamp hpj31, hsP, onS_n], ⟨_, N1.1, mQ_F 1 K⟩, N1.2⟩
          ·
            have hVP := hs0.1 pj P hsP
            have eP := K.2.1 pj hpj P hsP
            by_cases zzZ : i4q P = 0
            ·
              refine zc_virtual (n' := (0, 0)) (md' := mX11_refusal) 51 dX11_table_48 tw_1137 zv_X11_refusal zcl_X11 (s_X11_refusal0 B h D hD _ N0.1 pj hpj (by rw [K.1 pj hpj, hsP]; rfl) P hVP eP zzZ) N0.1.1 rfl rfl rfl rfl rfl rfl rfl rfl (zk_i fun x2 h2 p2 => ?_)
              obtain ⟨rfl, n2⟩ := p2
              have N2 := rN_t N0 n2
              refine zi_istore (lv' := [(5, _), (0, _), (1, _), (2, _), (3, _), (4, _)]) 53 dX11_table_51 rfl rfl rfl ?_
              refine zi_iload 55 dX11_table_53 rfl rfl ?_
              refine zi_if_eq 58 64 dX11_table_55 (by decide) rfl (fun c_55 => absurd c_55 (by decide)) (fun c_55 => ?_)
              refine zi_iload 60 dX11_table_58 rfl rfl ?_
              refine zi_i2l 61 dX11_table_60 rfl ?_
              refine zi_goto 85 dX11_table_61 (by decide) ?_
              exact zr_long hZ dX11_table_85 rfl ⟨_, rfl, _, by rw [r_table, if_neg zzO, nI_clamp hpj31, hsP, onS_s, if_pos zzZ]; rfl, ⟨_, N2.1, K⟩, N2.2⟩
            ·
              refine zc_virtual (n' := (0, 0)) (md' := mX11_refusal) 51 dX11_table_48 tw_1137 zv_X11_refusal zcl_X11 (s_X11_refusalY B h D hD _ N0.1 pj hpj (by rw [K.1 pj hpj, hsP]; rfl) P hVP eP zzZ) N0.1.1 rfl rfl rfl rfl rfl rfl rfl rfl (zk_i fun x3 h3 p3 => ?_)
              obtain ⟨rfl, n3⟩ := p3
              have N3 := rN_t N0 n3
              obtain ⟨R4, N4, r0⟩ : ∃ R, rN B D (uR m R) h h3 ∧ ro R 0 = z4i P := ⟨_, N3, p4_at _ _ _⟩
              refine zi_istore (lv' := [(5, _), (0, _), (1, _), (2, _), (3, _), (4, _)]) 53 dX11_table_51 rfl rfl rfl ?_
              refine zi_iload 55 dX11_table_53 rfl rfl ?_
              refine zi_if_eq 58 64 dX11_table_55 (by decide) rfl (fun c_55 => ?_) (fun c_55 => absurd c_55 (by decide))
              rcases out_3 zzB with rfl | rfl | rfl <;> rcases out_3 zzC with rfl | rfl | rfl
              ·
                obtain ⟨hq0, hqb⟩ := i4q_pb hVP zzZ
                refine zi_aload_n 65 dX11_table_64 rfl rfl ?_
                refine zi_aload_n 66 dX11_table_65 rfl rfl ?_
                refine zi_iload_n 67 dX11_table_66 rfl rfl ?_
                refine zi_iload_n 68 dX11_table_67 rfl rfl ?_
                refine zc_virtual (n' := (0, 0)) (md' := mX11_upper) 71 dX11_table_68 tw_1141 zv_X11_upper zcl_X11 (s_X11_upper0 B h3 D hD _ N4.1 P hVP r0) N4.1.1 rfl rfl rfl rfl rfl rfl rfl rfl (zk_f ?_)
                refine zi_ldc2 74 dX11_table_71 tw_952 rfl ?_
                refine zi_aload_n 75 dX11_table_74 rfl rfl ?_
                refine zi_iconst (v := 0) 76 dX11_table_75 (by decide) rfl ?_
                refine zc_virtual (n' := (0, 0)) (md' := mX11_norm4) 79 dX11_table_76 tw_948 zv_X11_norm4 zcl_X11 (s_X11_norm4 B h3 D hD _ N4.1 0 (by omega)) N4.1.1 rfl rfl rfl rfl rfl rfl rfl rfl (zk_f ?_)
                rw [show zNm (ro (wR (uR m R4)) 0) = iz (i4n P) from (congrArg zNm r0).trans (z4i_n (V_63 hVP))]
                refine zi_lmul 80 dX11_table_79 rfl ?_
                rw [low_q hVP]
                refine zi_iload 82 dX11_table_80 rfl rfl ?_
                refine zc_virtual (n' := (0, 0)) (md' := mX11_part2) 85 dX11_table_82 tw_1145 zv_X11_part2 zcl_X11 (s_X11_part2 B h3 D hD _ N4.1 _ _ w hq0 (Nat.lt_of_le_of_lt (tab_b hVP _) (by decide)) hqb) N4.1.1 rfl rfl rfl rfl rfl rfl rfl rfl (zk_l fun x5 h5 p5 => ?_)
                obtain ⟨rfl, n5⟩ := p5
                have N5 := rN_t N4 n5
                exact zr_long hZ dX11_table_85 rfl ⟨_, rfl, _, by rw [r_table, if_neg zzO, nI_clamp hpj31, hsP, onS_s, if_neg zzZ]; rfl, ⟨_, N5.1, mQ_F 0 K⟩, N5.2⟩
              ·
                obtain ⟨hq0, hqb⟩ := i4q_pb hVP zzZ
                refine zi_aload_n 65 dX11_table_64 rfl rfl ?_
                refine zi_aload_n 66 dX11_table_65 rfl rfl ?_
                refine zi_iload_n 67 dX11_table_66 rfl rfl ?_
                refine zi_iload_n 68 dX11_table_67 rfl rfl ?_
                refine zc_virtual (n' := (0, 0)) (md' := mX11_upper) 71 dX11_table_68 tw_1141 zv_X11_upper zcl_X11 (s_X11_upper1 B h3 D hD _ N4.1 P hVP r0) N4.1.1 rfl rfl rfl rfl rfl rfl rfl rfl (zk_f ?_)
                refine zi_ldc2 74 dX11_table_71 tw_952 rfl ?_
                refine zi_aload_n 75 dX11_table_74 rfl rfl ?_
                refine zi_iconst (v := 0) 76 dX11_table_75 (by decide) rfl ?_
                refine zc_virtual (n' := (0, 0)) (md' := mX11_norm4) 79 dX11_table_76 tw_948 zv_X11_norm4 zcl_X11 (s_X11_norm4 B h3 D hD _ N4.1 0 (by omega)) N4.1.1 rfl rfl rfl rfl rfl rfl rfl rfl (zk_f ?_)
                rw [show zNm (ro (wR (uR m R4)) 0) = iz (i4n P) from (congrArg zNm r0).trans (z4i_n (V_63 hVP))]
                refine zi_lmul 80 dX11_table_79 rfl ?_
                rw [low_q hVP]
                refine zi_iload 82 dX11_table_80 rfl rfl ?_
                refine zc_virtual (n' := (0, 0)) (md' := mX11_part2) 85 dX11_table_82 tw_1145 zv_X11_part2 zcl_X11 (s_X11_part2 B h3 D hD _ N4.1 _ _ w hq0 (Nat.lt_of_le_of_lt (tab_b hVP _) (by decide)) hqb) N4.1.1 rfl rfl rfl rfl rfl rfl rfl rfl (zk_l fun x6 h6 p6 => ?_)
                obtain ⟨rfl, n6⟩ := p6
                have N6 := rN_t N4 n6
                exact zr_long hZ dX11_table_85 rfl ⟨_, rfl, _, by rw [r_table, if_neg zzO, nI_clamp hpj31, hsP, onS_s, if_neg zzZ]; rfl, ⟨_, N6.1, mQ_F 0 K⟩, N6.2⟩
              ·
                obtain ⟨hq0, hqb⟩ := i4q_pb hVP zzZ
                refine zi_aload_n 65 dX11_table_64 rfl rfl ?_
                refine zi_aload_n 66 dX11_table_65 rfl rfl ?_
                refine zi_iload_n 67 dX11_table_66 rfl rfl ?_
                refine zi_iload_n 68 dX11_table_67 rfl rfl ?_
                refine zc_virtual (n' := (0, 0)) (md' := mX11_upper) 71 dX11_table_68 tw_1141 zv_X11_upper zcl_X11 (s_X11_upper2 B h3 D hD _ N4.1 P hVP r0) N4.1.1 rfl rfl rfl rfl rfl rfl rfl rfl (zk_f ?_)
                refine zi_ldc2 74 dX11_table_71 tw_952 rfl ?_
                refine zi_aload_n 75 dX11_table_74 rfl rfl ?_
                refine zi_iconst (v := 0) 76 dX11_table_75 (by decide) rfl ?_
                refine zc_virtual (n' := (0, 0)) (md' := mX11_norm4) 79 dX11_table_76 tw_948 zv_X11_norm4 zcl_X11 (s_X11_norm4 B h3 D hD _ N4.1 0 (by omega)) N4.1.1 rfl rfl rfl rfl rfl rfl rfl rfl (zk_f ?_)
                rw [show zNm (ro (wR (uR m R4)) 0) = iz (i4n P) from (congrArg zNm r0).trans (z4i_n (V_63 hVP))]
                refine zi_lmul 80 dX11_table_79 rfl ?_
                rw [low_q hVP]
                refine zi_iload 82 dX11_table_80 rfl rfl ?_
                refine zc_virtual (n' := (0, 0)) (md' := mX11_part2) 85 dX11_table_82 tw_1145 zv_X11_part2 zcl_X11 (s_X11_part2 B h3 D hD _ N4.1 _ _ w hq0 (Nat.lt_of_le_of_lt (tab_b hVP _) (by decide)) hqb) N4.1.1 rfl rfl rfl rfl rfl rfl rfl rfl (zk_l fun x7 h7 p7 => ?_)
                obtain ⟨rfl, n7⟩ := p7
                have N7 := rN_t N4 n7
                exact zr_long hZ dX11_table_85 rfl ⟨_, rfl, _, by rw [r_table, if_neg zzO, nI_clamp hpj31, hsP, onS_s, if_neg zzZ]; rfl, ⟨_, N7.1, mQ_F 0 K⟩, N7.2⟩
              ·
                obtain ⟨hq0, hqb⟩ := i4q_pb hVP zzZ
                refine zi_aload_n 65 dX11_table_64 rfl rfl ?_
                refine zi_aload_n 66 dX11_table_65 rfl rfl ?_
                refine zi_iload_n 67 dX11_table_66 rfl rfl ?_
                refine zi_iload_n 68 dX11_table_67 rfl rfl ?_
                refine zc_virtual (n' := (0, 0)) (md' := mX11_upper) 71 dX11_table_68 tw_1141 zv_X11_upper zcl_X11 (s_X11_upper3 B h3 D hD _ N4.1 P hVP r0) N4.1.1 rfl rfl rfl rfl rfl rfl rfl rfl (zk_f ?_)
                refine zi_ldc2 74 dX11_table_71 tw_952 rfl ?_
                refine zi_aload_n 75 dX11_table_74 rfl rfl ?_
                refine zi_iconst (v := 0) 76 dX11_table_75 (by decide) rfl ?_
                refine zc_virtual (n' := (0, 0)) (md' := mX11_norm4) 79 dX11_table_76 tw_948 zv_X11_norm4 zcl_X11 (s_X11_norm4 B h3 D hD _ N4.1 0 (by omega)) N4.1.1 rfl rfl rfl rfl rfl rfl rfl rfl (zk_f ?_)
                rw [show zNm (ro (wR (uR m R4)) 0) = iz (i4n P) from (congrArg zNm r0).trans (z4i_n (V_63 hVP))]
                refine zi_lmul 80 dX11_table_79 rfl ?_
                rw [low_q hVP]
                refine zi_iload 82 dX11_table_80 rfl rfl ?_
                refine zc_virtual (n' := (0, 0)) (md' := mX11_part2) 85 dX11_table_82 tw_1145 zv_X11_part2 zcl_X11 (s_X11_part2 B h3 D hD _ N4.1 _ _ w hq0 (Nat.lt_of_le_of_lt (tab_b hVP _) (by decide)) hqb) N4.1.1 rfl rfl rfl rfl rfl rfl rfl rfl (zk_l fun x8 h8 p8 => ?_)
                obtain ⟨rfl, n8⟩ := p8
                have N8 := rN_t N4 n8
                exact zr_long hZ dX11_table_85 rfl ⟨_, rfl, _, by rw [r_table, if_neg zzO, nI_clamp hpj31, hsP, onS_s, if_neg zzZ]; rfl, ⟨_, N8.1, mQ_F 0 K⟩, N8.2⟩
              ·
                obtain ⟨hq0, hqb⟩ := i4q_pb hVP zzZ
                refine zi_aload_n 65 dX11_table_64 rfl rfl ?_
                refine zi_aload_n 66 dX11_table_65 rfl rfl ?_
                refine zi_iload_n 67 dX11_table_66 rfl rfl ?_
                refine zi_iload_n 68 dX11_table_67 rfl rfl ?_
                refine zc_virtual (n' := (0, 0)) (md' := mX11_upper) 71 dX11_table_68 tw_1141 zv_X11_upper zcl_X11 (s_X11_upper4 B h3 D hD _ N4.1 P hVP r0) N4.1.1 rfl rfl rfl rfl rfl rfl rfl rfl (zk_f ?_)
                refine zi_ldc2 74 dX11_table_71 tw_952 rfl ?_
                refine zi_aload_n 75 dX11_table_74 rfl rfl ?_
                refine zi_iconst (v := 0) 76 dX11_table_75 (by decide) rfl ?_
                refine zc_virtual (n' := (0, 0)) (md' := mX11_norm4) 79 dX11_table_76 tw_948 zv_X11_norm4 zcl_X11 (s_X11_norm4 B h3 D hD _ N4.1 0 (by omega)) N4.1.1 rfl rfl rfl rfl rfl rfl rfl rfl (zk_f ?_)
                rw [show zNm (ro (wR (uR m R4)) 0) = iz (i4n P) from (congrArg zNm r0).trans (z4i_n (V_63 hVP))]
                refine zi_lmul 80 dX11_table_79 rfl ?_
                rw [low_q hVP]
                refine zi_iload 82 dX11_table_80 rfl rfl ?_
                refine zc_virtual (n' := (0, 0)) (md' := mX11_part2) 85 dX11_table_82 tw_1145 zv_X11_part2 zcl_X11 (s_X11_part2 B h3 D hD _ N4.1 _ _ w hq0 (Nat.lt_of_le_of_lt (tab_b hVP _) (by decide)) hqb) N4.1.1 rfl rfl rfl rfl rfl rfl rfl rfl (zk_l fun x9 h9 p9 => ?_)
                obtain ⟨rfl, n9⟩ := p9
                have N9 := rN_t N4 n9
                exact zr_long hZ dX11_table_85 rfl ⟨_, rfl, _, by rw [r_table, if_neg zzO, nI_clamp hpj31, hsP, onS_s, if_neg zzZ]; rfl, ⟨_, N9.1, mQ_F 0 K⟩, N9.2⟩
              ·
                obtain ⟨hq0, hqb⟩ := i4q_pb hVP zzZ
                refine zi_aload_n 65 dX11_table_64 rfl rfl ?_
                refine zi_aload_n 66 dX11_table_65 rfl rfl ?_
                refine zi_iload_n 67 dX11_table_66 rfl rfl ?_
                refine zi_iload_n 68 dX11_table_67 rfl rfl ?_
                refine zc_virtual (n' := (0, 0)) (md' := mX11_upper) 71 dX11_table_68 tw_1141 zv_X11_upper zcl_X11 (s_X11_upper5 B h3 D hD _ N4.1 P hVP r0) N4.1.1 rfl rfl rfl rfl rfl rfl rfl rfl (zk_f ?_)
                refine zi_ldc2 74 dX11_table_71 tw_952 rfl ?_
                refine zi_aload_n 75 dX11_table_74 rfl rfl ?_
                refine zi_iconst (v := 0) 76 dX11_table_75 (by decide) rfl ?_
                refine zc_virtual (n' := (0, 0)) (md' := mX11_norm4) 79 dX11_table_76 tw_948 zv_X11_norm4 zcl_X11 (s_X11_norm4 B h3 D hD _ N4.1 0 (by omega)) N4.1.1 rfl rfl rfl rfl rfl rfl rfl rfl (zk_f ?_)
                rw [show zNm (ro (wR (uR m R4)) 0) = iz (i4n P) from (congrArg zNm r0).trans (z4i_n (V_63 hVP))]
                refine zi_lmul 80 dX11_table_79 rfl ?_
                rw [low_q hVP]
                refine zi_iload 82 dX11_table_80 rfl rfl ?_
                refine zc_virtual (n' := (0, 0)) (md' := mX11_part2) 85 dX11_table_82 tw_1145 zv_X11_part2 zcl_X11 (s_X11_part2 B h3 D hD _ N4.1 _ _ w hq0 (Nat.lt_of_le_of_lt (tab_b hVP _) (by decide)) hqb) N4.1.1 rfl rfl rfl rfl rfl rfl rfl rfl (zk_l fun x10 h10 p10 => ?_)
                obtain ⟨rfl, n10⟩ := p10
                have N10 := rN_t N4 n10
                exact zr_long hZ dX11_table_85 rfl ⟨_, rfl, _, by rw [r_table, if_neg zzO, nI_clamp hpj31, hsP, onS_s, if_neg zzZ]; rfl, ⟨_, N10.1, mQ_F 0 K⟩, N10.2⟩
              ·
                obtain ⟨hq0, hqb⟩ := i4q_pb hVP zzZ
                refine zi_aload_n 65 dX11_table_64 rfl rfl ?_
                refine zi_aload_n 66 dX11_table_65 rfl rfl ?_
                refine zi_iload_n 67 dX11_table_66 rfl rfl ?_
                refine zi_iload_n 68 dX11_table_67 rfl rfl ?_
                refine zc_virtual (n' := (0, 0)) (md' := mX11_upper) 71 dX11_table_68 tw_1141 zv_X11_upper zcl_X11 (s_X11_upper6 B h3 D hD _ N4.1 P hVP r0) N4.1.1 rfl rfl rfl rfl rfl rfl rfl rfl (zk_f ?_)
                refine zi_ldc2 74 dX11_table_71 tw_952 rfl ?_
                refine zi_aload_n 75 dX11_table_74 rfl rfl ?_
                refine zi_iconst (v := 0) 76 dX11_table_75 (by decide) rfl ?_
                refine zc_virtual (n' := (0, 0)) (md' := mX11_norm4) 79 dX11_table_76 tw_948 zv_X11_norm4 zcl_X11 (s_X11_norm4 B h3 D hD _ N4.1 0 (by omega)) N4.1.1 rfl rfl rfl rfl rfl rfl rfl rfl (zk_f ?_)
                rw [show zNm (ro (wR (uR m R4)) 0) = iz (i4n P) from (congrArg zNm r0).trans (z4i_n (V_63 hVP))]
                refine zi_lmul 80 dX11_table_79 rfl ?_
                rw [low_q hVP]
                refine zi_iload 82 dX11_table_80 rfl rfl ?_
                refine zc_virtual (n' := (0, 0)) (md' := mX11_part2) 85 dX11_table_82 tw_1145 zv_X11_part2 zcl_X11 (s_X11_part2 B h3 D hD _ N4.1 _ _ w hq0 (Nat.lt_of_le_of_lt (tab_b hVP _) (by decide)) hqb) N4.1.1 rfl rfl rfl rfl rfl rfl rfl rfl (zk_l fun x11 h11 p11 => ?_)
                obtain ⟨rfl, n11⟩ := p11
                have N11 := rN_t N4 n11
                exact zr_long hZ dX11_table_85 rfl ⟨_, rfl, _, by rw [r_table, if_neg zzO, nI_clamp hpj31, hsP, onS_s, if_neg zzZ]; rfl, ⟨_, N11.1, mQ_F 0 K⟩, N11.2⟩
              ·
                obtain ⟨hq0, hqb⟩ := i4q_pb hVP zzZ
                refine zi_aload_n 65 dX11_table_64 rfl rfl ?_
                refine zi_aload_n 66 dX11_table_65 rfl rfl ?_
                refine zi_iload_n 67 dX11_table_66 rfl rfl ?_
                refine zi_iload_n 68 dX11_table_67 rfl rfl ?_
                refine zc_virtual (n' := (0, 0)) (md' := mX11_upper) 71 dX11_table_68 tw_1141 zv_X11_upper zcl_X11 (s_X11_upper7 B h3 D hD _ N4.1 P hVP r0) N4.1.1 rfl rfl rfl rfl rfl rfl rfl rfl (zk_f ?_)
                refine zi_ldc2 74 dX11_table_71 tw_952 rfl ?_
                refine zi_aload_n 75 dX11_table_74 rfl rfl ?_
                refine zi_iconst (v := 0) 76 dX11_table_75 (by decide) rfl ?_
                refine zc_virtual (n' := (0, 0)) (md' := mX11_norm4) 79 dX11_table_76 tw_948 zv_X11_norm4 zcl_X11 (s_X11_norm4 B h3 D hD _ N4.1 0 (by omega)) N4.1.1 rfl rfl rfl rfl rfl rfl rfl rfl (zk_f ?_)
                rw [show zNm (ro (wR (uR m R4)) 0) = iz (i4n P) from (congrArg zNm r0).trans (z4i_n (V_63 hVP))]
                refine zi_lmul 80 dX11_table_79 rfl ?_
                rw [low_q hVP]
                refine zi_iload 82 dX11_table_80 rfl rfl ?_
                refine zc_virtual (n' := (0, 0)) (md' := mX11_part2) 85 dX11_table_82 tw_1145 zv_X11_part2 zcl_X11 (s_X11_part2 B h3 D hD _ N4.1 _ _ w hq0 (Nat.lt_of_le_of_lt (tab_b hVP _) (by decide)) hqb) N4.1.1 rfl rfl rfl rfl rfl rfl rfl rfl (zk_l fun x12 h12 p12 => ?_)
                obtain ⟨rfl, n12⟩ := p12
                have N12 := rN_t N4 n12
                exact zr_long hZ dX11_table_85 rfl ⟨_, rfl, _, by rw [r_table, if_neg zzO, nI_clamp hpj31, hsP, onS_s, if_neg zzZ]; rfl, ⟨_, N12.1, mQ_F 0 K⟩, N12.2⟩
              ·
                obtain ⟨hq0, hqb⟩ := i4q_pb hVP zzZ
                refine zi_aload_n 65 dX11_table_64 rfl rfl ?_
                refine zi_aload_n 66 dX11_table_65 rfl rfl ?_
                refine zi_iload_n 67 dX11_table_66 rfl rfl ?_
                refine zi_iload_n 68 dX11_table_67 rfl rfl ?_
                refine zc_virtual (n' := (0, 0)) (md' := mX11_upper) 71 dX11_table_68 tw_1141 zv_X11_upper zcl_X11 (s_X11_upper8 B h3 D hD _ N4.1 P hVP r0) N4.1.1 rfl rfl rfl rfl rfl rfl rfl rfl (zk_f ?_)
                refine zi_ldc2 74 dX11_table_71 tw_952 rfl ?_
                refine zi_aload_n 75 dX11_table_74 rfl rfl ?_
                refine zi_iconst (v := 0) 76 dX11_table_75 (by decide) rfl ?_
                refine zc_virtual (n' := (0, 0)) (md' := mX11_norm4) 79 dX11_table_76 tw_948 zv_X11_norm4 zcl_X11 (s_X11_norm4 B h3 D hD _ N4.1 0 (by omega)) N4.1.1 rfl rfl rfl rfl rfl rfl rfl rfl (zk_f ?_)
                rw [show zNm (ro (wR (uR m R4)) 0) = iz (i4n P) from (congrArg zNm r0).trans (z4i_n (V_63 hVP))]
                refine zi_lmul 80 dX11_table_79 rfl ?_
                rw [low_q hVP]
                refine zi_iload 82 dX11_table_80 rfl rfl ?_
                refine zc_virtual (n' := (0, 0)) (md' := mX11_part2) 85 dX11_table_82 tw_1145 zv_X11_part2 zcl_X11 (s_X11_part2 B h3 D hD _ N4.1 _ _ w hq0 (Nat.lt_of_le_of_lt (tab_b hVP _) (by decide)) hqb) N4.1.1 rfl rfl rfl rfl rfl rfl rfl rfl (zk_l fun x13 h13 p13 => ?_)
                obtain ⟨rfl, n13⟩ := p13
                have N13 := rN_t N4 n13
                exact zr_long hZ dX11_table_85 rfl ⟨_, rfl, _, by rw [r_table, if_neg zzO, nI_clamp hpj31, hsP, onS_s, if_neg zzZ]; rfl, ⟨_, N13.1, mQ_F 0 K⟩, N13.2⟩
        ·
          have zzD := Decidable.not_not.mp (fun q => zzD (in_2.mpr q))
          refine zi_ldc2 45 dX11_table_42 tw_924 rfl ?_
          exact zr_long hZ dX11_table_45 rfl ⟨_, rfl, _, by rw [r_table, if_pos (by first | exact Or.inl zzA | exact Or.inr (Or.inl zzB) | exact Or.inr (Or.inr (Or.inl zzC)) | exact Or.inr (Or.inr (Or.inr (zzD))))], ⟨m, N0.1, K⟩, N0.2⟩

set_option maxHeartbeats 1000000 in
set_option maxRecDepth 100000 in
theorem s_X11_turn (B : zBB) (h : zHp) (D : Nat → Nat) (hD : zInj D) (s : zSt) (hs0 : okSt s) (hR : rRm B D s h) (p : Int32) (x : Int32) (y : Int32) (z : Int32) (k : Int32) (w : Int32) : zSpec mX11_turn B (2, 0, 0) [.ref (D 0), .int p, .int x, .int y, .int z, .int k, .int w] h (zPl (fun zx h' => ∃ s' : zSt, r_turn s p x y z k w = (zx, s') ∧ rRm B D s' h' ∧ rOd D h h')) := by
  refine zSpec.of (by decide) (Nat.le_of_ble_eq_true rfl) (fun X hZ => ?_)
  show zG X mX11_turn B (2, 0, 0) (0, 0) 0 [(0, .ref (D 0)), (1, .int p), (2, .int x), (3, .int y), (4, .int z), (5, .int k), (6, .int w)] [] h
  obtain ⟨m, M, K⟩ := hR
  have N0 := rN_r M
  refine zi_iload_n 1 dX11_turn_0 rfl rfl ?_
  refine zc_static (n' := (0, 0)) (md' := mX11_isSlot) 4 dX11_turn_1 tw_937 zs_X11_isSlot (s_X11_isSlot B h _) rfl rfl rfl rfl rfl rfl rfl rfl (zk_f ?_)
  refine zb_eq 7 74 dX11_turn_4 (by decide) rfl (fun zzA => ?_) (fun zzA => ?_)
  ·
    have zzA := Decidable.not_not.mp (fun q => zzA (in_20.mpr q))
    refine zi_ldc2 77 dX11_turn_74 tw_924 rfl ?_
    exact zr_long hZ dX11_turn_77 rfl ⟨_, rfl, _, by rw [r_turn, if_pos (by first | exact Or.inl zzA | exact Or.inr (Or.inl zzB) | exact Or.inr (Or.inr (Or.inl zzC)) | exact Or.inr (Or.inr (Or.inr (Or.inl zzD))) | exact Or.inr (Or.inr (Or.inr (Or.inr (Or.inl zzE)))) | exact Or.inr (Or.inr (Or.inr (Or.inr (Or.inr (zzF))))))], ⟨m, N0.1, K⟩, N0.2⟩
  ·
    have zzA := in_20.mp zzA
    refine zi_iload_n 8 dX11_turn_7 rfl rfl ?_
    refine zi_i2l 9 dX11_turn_8 rfl ?_
    refine zi_ldc2 12 dX11_turn_9 tw_1153 rfl ?_
    refine zi_ldc2 15 dX11_turn_12 tw_1154 rfl ?_
    refine zc_static (n' := (0, 0)) (md' := mX11_in) 18 dX11_turn_15 tw_906 zs_X11_in (s_X11_in B h _ _ _) rfl rfl rfl rfl rfl rfl rfl rfl (zk_f ?_)
    refine zb_eq 21 74 dX11_turn_18 (by decide) rfl (fun zzD => ?_) (fun zzD => ?_)
    ·
      have zzD := Decidable.not_not.mp (fun q => zzD (in_F.mpr q))
      refine zi_ldc2 77 dX11_turn_74 tw_924 rfl ?_
      exact zr_long hZ dX11_turn_77 rfl ⟨_, rfl, _, by rw [r_turn, if_pos (by first | exact Or.inl zzA | exact Or.inr (Or.inl zzB) | exact Or.inr (Or.inr (Or.inl zzC)) | exact Or.inr (Or.inr (Or.inr (Or.inl zzD))) | exact Or.inr (Or.inr (Or.inr (Or.inr (Or.inl zzE)))) | exact Or.inr (Or.inr (Or.inr (Or.inr (Or.inr (zzF))))))], ⟨m, N0.1, K⟩, N0.2⟩
    ·
      have zzD := in_F.mp zzD
      refine zi_iload_n 22 dX11_turn_21 rfl rfl ?_
      refine zi_i2l 23 dX11_turn_22 rfl ?_
      refine zi_ldc2 26 dX11_turn_23 tw_1153 rfl ?_
      refine zi_ldc2 29 dX11_turn_26 tw_1154 rfl ?_
      refine zc_static (n' := (0, 0)) (md' := mX11_in) 32 dX11_turn_29 tw_906 zs_X11_in (s_X11_in B h _ _ _) rfl rfl rfl rfl rfl rfl rfl rfl (zk_f ?_)
      refine zb_eq 35 74 dX11_turn_32 (by decide) rfl (fun zzE => ?_) (fun zzE => ?_)
      ·
        have zzE := Decidable.not_not.mp (fun q => zzE (in_F.mpr q))
        refine zi_ldc2 77 dX11_turn_74 tw_924 rfl ?_
        exact zr_long hZ dX11_turn_77 rfl ⟨_, rfl, _, by rw [r_turn, if_pos (by first | exact Or.inl zzA | exact Or.inr (Or.inl zzB) | exact Or.inr (Or.inr (Or.inl zzC)) | exact Or.inr (Or.inr (Or.inr (Or.inl zzD))) | exact Or.inr (Or.inr (Or.inr (Or.inr (Or.inl zzE)))) | exact Or.inr (Or.inr (Or.inr (Or.inr (Or.inr (zzF))))))], ⟨m, N0.1, K⟩, N0.2⟩
      ·
        have zzE := in_F.mp zzE
        refine zi_iload 37 dX11_turn_35 rfl rfl ?_
        refine zi_i2l 38 dX11_turn_37 rfl ?_
        refine zi_ldc2 41 dX11_turn_38 tw_1153 rfl ?_
        refine zi_ldc2 44 dX11_turn_41 tw_1154 rfl ?_
        refine zc_static (n' := (0, 0)) (md' := mX11_in) 47 dX11_turn_44 tw_906 zs_X11_in (s_X11_in B h _ _ _) rfl rfl rfl rfl rfl rfl rfl rfl (zk_f ?_)
        refine zb_eq 50 74 dX11_turn_47 (by decide) rfl (fun zzF => ?_) (fun zzF => ?_)
        ·
          have zzF := Decidable.not_not.mp (fun q => zzF (in_F.mpr q))
          refine zi_ldc2 77 dX11_turn_74 tw_924 rfl ?_
          exact zr_long hZ dX11_turn_77 rfl ⟨_, rfl, _, by rw [r_turn, if_pos (by first | exact Or.inl zzA | exact Or.inr (Or.inl zzB) | exact Or.inr (Or.inr (Or.inl zzC)) | exact Or.inr (Or.inr (Or.inr (Or.inl zzD))) | exact Or.inr (Or.inr (Or.inr (Or.inr (Or.inl zzE)))) | exact Or.inr (Or.inr (Or.inr (Or.inr (Or.inr (zzF))))))], ⟨m, N0.1, K⟩, N0.2⟩
        ·
          have zzF := in_F.mp zzF
          refine zi_iload 52 dX11_turn_50 rfl rfl ?_
          refine zi_i2l 53 dX11_turn_52 rfl ?_
          refine zi_lconst (v := 0) 54 dX11_turn_53 (by decide) rfl ?_
          refine zi_ldc2 57 dX11_turn_54 tw_909 rfl ?_
          refine zc_static (n' := (0, 0)) (md' := mX11_in) 60 dX11_turn_57 tw_906 zs_X11_in (s_X11_in B h _ _ _) rfl rfl rfl rfl rfl rfl rfl rfl (zk_f ?_)
          refine zb_eq 63 74 dX11_turn_60 (by decide) rfl (fun zzB => ?_) (fun zzB => ?_)
          ·
            have zzB := Decidable.not_not.mp (fun q => zzB (in_3.mpr q))
            refine zi_ldc2 77 dX11_turn_74 tw_924 rfl ?_
            exact zr_long hZ dX11_turn_77 rfl ⟨_, rfl, _, by rw [r_turn, if_pos (by first | exact Or.inl zzA | exact Or.inr (Or.inl zzB) | exact Or.inr (Or.inr (Or.inl zzC)) | exact Or.inr (Or.inr (Or.inr (Or.inl zzD))) | exact Or.inr (Or.inr (Or.inr (Or.inr (Or.inl zzE)))) | exact Or.inr (Or.inr (Or.inr (Or.inr (Or.inr (zzF))))))], ⟨m, N0.1, K⟩, N0.2⟩
          ·
            have zzB := in_3.mp zzB
            refine zi_iload 65 dX11_turn_63 rfl rfl ?_
            refine zi_i2l 66 dX11_turn_65 rfl ?_
            refine zi_lconst (v := 0) 67 dX11_turn_66 (by decide) rfl ?_
            refine zi_lconst (v := 1) 68 dX11_turn_67 (by decide) rfl ?_
            refine zc_static (n' := (0, 0)) (md' := mX11_in) 71 dX11_turn_68 tw_906 zs_X11_in (s_X11_in B h _ _ _) rfl rfl rfl rfl rfl rfl rfl rfl (zk_f ?_)
            refine zb_ne 74 78 dX11_turn_71 (by decide) rfl (fun zzC => ?_) (fun zzC => ?_)
            ·
              have zzC := in_2.mp zzC
              have zzO : ¬ (zOut p 20 ∨ zOut k 3 ∨ zOut w 2 ∨ zTooF x ∨ zTooF y ∨ zTooF z) := fun r => r.elim zzA (fun r => r.elim zzB (fun r => r.elim zzC (fun r => r.elim zzD (fun r => r.elim zzE zzF))))
              obtain ⟨pj, hpj, hpj31, rfl⟩ := out_i (N := 20) (by decide) zzA
              refine zi_aload_n 79 dX11_turn_78 rfl rfl ?_
              refine zi_iload_n 80 dX11_turn_79 rfl rfl ?_
              rcases hsP : qSl s pj with _ | P
              ·
                refine zc_virtual (n' := (0, 0)) (md' := mX11_refusal) 83 dX11_turn_80 tw_1137 zv_X11_refusal zcl_X11 (s_X11_refusalN B h D hD _ N0.1 pj hpj (by rw [K.1 pj hpj, hsP]; rfl)) N0.1.1 rfl rfl rfl rfl rfl rfl rfl rfl (zk_i fun x1 h1 p1 => ?_)
                obtain ⟨rfl, n1⟩ := p1
                have N1 := rN_t N0 n1
                refine zi_istore (lv' := [(7, _), (0, _), (1, _), (2, _), (3, _), (4, _), (5, _), (6, _)]) 85 dX11_turn_83 rfl rfl rfl ?_
                refine zi_iload 87 dX11_turn_85 rfl rfl ?_
                refine zi_if_eq 90 96 dX11_turn_87 (by decide) rfl (fun c_87 => absurd c_87 (by decide)) (fun c_87 => ?_)
                refine zi_iload 92 dX11_turn_90 rfl rfl ?_
                refine zi_i2l 93 dX11_turn_92 rfl ?_
                refine zi_goto 144 dX11_turn_93 (by decide) ?_
                exact zr_long hZ dX11_turn_144 rfl ⟨_, rfl, _, by rw [r_turn, if_neg zzO, nI_clamp hpj31, hsP, onS_n], ⟨_, N1.1, mQ_F 1 K⟩, N1.2⟩
              ·
                have hVP := hs0.1 pj P hsP
                have eP := K.2.1 pj hpj P hsP
                by_cases zzZ : i4q P = 0
                ·
                  refine zc_virtual (n' := (0, 0)) (md' := mX11_refusal) 83 dX11_turn_80 tw_1137 zv_X11_refusal zcl_X11 (s_X11_refusal0 B h D hD _ N0.1 pj hpj (by rw [K.1 pj hpj, hsP]; rfl) P hVP eP zzZ) N0.1.1 rfl rfl rfl rfl rfl rfl rfl rfl (zk_i fun x2 h2 p2 => ?_)
                  obtain ⟨rfl, n2⟩ := p2
                  have N2 := rN_t N0 n2
                  refine zi_istore (lv' := [(7, _), (0, _), (1, _), (2, _), (3, _), (4, _), (5, _), (6, _)]) 85 dX11_turn_83 rfl rfl rfl ?_
                  refine zi_iload 87 dX11_turn_85 rfl rfl ?_
                  refine zi_if_eq 90 96 dX11_turn_87 (by decide) rfl (fun c_87 => absurd c_87 (by decide)) (fun c_87 => ?_)
                  refine zi_iload 92 dX11_turn_90 rfl rfl ?_
                  refine zi_i2l 93 dX11_turn_92 rfl ?_
                  refine zi_goto 144 dX11_turn_93 (by decide) ?_
                  exact zr_long hZ dX11_turn_144 rfl ⟨_, rfl, _, by rw [r_turn, if_neg zzO, nI_clamp hpj31, hsP, onS_s, if_pos zzZ]; rfl, ⟨_, N2.1, K⟩, N2.2⟩
                ·
                  refine zc_virtual (n' := (0, 0)) (md' := mX11_refusal) 83 dX11_turn_80 tw_1137 zv_X11_refusal zcl_X11 (s_X11_refusalY B h D hD _ N0.1 pj hpj (by rw [K.1 pj hpj, hsP]; rfl) P hVP eP zzZ) N0.1.1 rfl rfl rfl rfl rfl rfl rfl rfl (zk_i fun x3 h3 p3 => ?_)
                  obtain ⟨rfl, n3⟩ := p3
                  have N3 := rN_t N0 n3
                  obtain ⟨R4, N4, r0⟩ : ∃ R, rN B D (uR m R) h h3 ∧ ro R 0 = z4i P := ⟨_, N3, p4_at _ _ _⟩
                  refine zi_istore (lv' := [(7, _), (0, _), (1, _), (2, _), (3, _), (4, _), (5, _), (6, _)]) 85 dX11_turn_83 rfl rfl rfl ?_
                  refine zi_iload 87 dX11_turn_85 rfl rfl ?_
                  refine zi_if_eq 90 96 dX11_turn_87 (by decide) rfl (fun c_87 => ?_) (fun c_87 => absurd c_87 (by decide))
                  rcases out_3 zzB with rfl | rfl | rfl
                  ·
                    obtain ⟨hq0, hqb⟩ := i4q_pb hVP zzZ
                    refine zi_aload_n 97 dX11_turn_96 rfl rfl ?_
                    refine zi_aload_n 98 dX11_turn_97 rfl rfl ?_
                    refine zi_iload 100 dX11_turn_98 rfl rfl ?_
                    refine zi_iconst (v := 0) 101 dX11_turn_100 (by decide) rfl ?_
                    refine zc_virtual (n' := (0, 0)) (md' := mX11_upper) 104 dX11_turn_101 tw_1141 zv_X11_upper zcl_X11 (s_X11_upper0 B h3 D hD _ N4.1 P hVP r0) N4.1.1 rfl rfl rfl rfl rfl rfl rfl rfl (zk_f ?_)
                    refine zi_iload_n 105 dX11_turn_104 rfl rfl ?_
                    refine zi_i2l 106 dX11_turn_105 rfl ?_
                    refine zi_lmul 107 dX11_turn_106 rfl ?_
                    refine zi_aload_n 108 dX11_turn_107 rfl rfl ?_
                    refine zi_iload 110 dX11_turn_108 rfl rfl ?_
                    refine zi_iconst (v := 1) 111 dX11_turn_110 (by decide) rfl ?_
                    refine zc_virtual (n' := (0, 0)) (md' := mX11_upper) 114 dX11_turn_111 tw_1141 zv_X11_upper zcl_X11 (s_X11_upper1 B h3 D hD _ N4.1 P hVP r0) N4.1.1 rfl rfl rfl rfl rfl rfl rfl rfl (zk_f ?_)
                    refine zi_iload_n 115 dX11_turn_114 rfl rfl ?_
                    refine zi_i2l 116 dX11_turn_115 rfl ?_
                    refine zi_lmul 117 dX11_turn_116 rfl ?_
                    refine zi_ladd 118 dX11_turn_117 rfl ?_
                    refine zi_aload_n 119 dX11_turn_118 rfl rfl ?_
                    refine zi_iload 121 dX11_turn_119 rfl rfl ?_
                    refine zi_iconst (v := 2) 122 dX11_turn_121 (by decide) rfl ?_
                    refine zc_virtual (n' := (0, 0)) (md' := mX11_upper) 125 dX11_turn_122 tw_1141 zv_X11_upper zcl_X11 (s_X11_upper2 B h3 D hD _ N4.1 P hVP r0) N4.1.1 rfl rfl rfl rfl rfl rfl rfl rfl (zk_f ?_)
                    refine zi_iload 127 dX11_turn_125 rfl rfl ?_
                    refine zi_i2l 128 dX11_turn_127 rfl ?_
                    refine zi_lmul 129 dX11_turn_128 rfl ?_
                    refine zi_ladd 130 dX11_turn_129 rfl ?_
                    rw [show iz (tabI P 0) * x.toInt64 + iz (tabI P 1) * y.toInt64 + iz (tabI P 2) * z.toInt64 = iz (trnI P 0 x.toInt y.toInt z.toInt) from trn_2 (k := 0)]
                    refine zi_ldc2 133 dX11_turn_130 tw_952 rfl ?_
                    refine zi_aload_n 134 dX11_turn_133 rfl rfl ?_
                    refine zi_iconst (v := 0) 135 dX11_turn_134 (by decide) rfl ?_
                    refine zc_virtual (n' := (0, 0)) (md' := mX11_norm4) 138 dX11_turn_135 tw_948 zv_X11_norm4 zcl_X11 (s_X11_norm4 B h3 D hD _ N4.1 0 (by omega)) N4.1.1 rfl rfl rfl rfl rfl rfl rfl rfl (zk_f ?_)
                    rw [show zNm (ro (wR (uR m R4)) 0) = iz (i4n P) from (congrArg zNm r0).trans (z4i_n (V_63 hVP))]
                    refine zi_lmul 139 dX11_turn_138 rfl ?_
                    rw [low_q hVP]
                    refine zi_iload 141 dX11_turn_139 rfl rfl ?_
                    refine zc_virtual (n' := (0, 0)) (md' := mX11_part2) 144 dX11_turn_141 tw_1145 zv_X11_part2 zcl_X11 (s_X11_part2 B h3 D hD _ N4.1 _ _ w hq0 (trn_b hVP (tooF_b zzD) (tooF_b zzE) (tooF_b zzF)) hqb) N4.1.1 rfl rfl rfl rfl rfl rfl rfl rfl (zk_l fun x5 h5 p5 => ?_)
                    obtain ⟨rfl, n5⟩ := p5
                    have N5 := rN_t N4 n5
                    exact zr_long hZ dX11_turn_144 rfl ⟨_, rfl, _, by rw [r_turn, if_neg zzO, nI_clamp hpj31, hsP, onS_s, if_neg zzZ]; rfl, ⟨_, N5.1, mQ_F 0 K⟩, N5.2⟩
                  ·
                    obtain ⟨hq0, hqb⟩ := i4q_pb hVP zzZ
                    refine zi_aload_n 97 dX11_turn_96 rfl rfl ?_
                    refine zi_aload_n 98 dX11_turn_97 rfl rfl ?_
                    refine zi_iload 100 dX11_turn_98 rfl rfl ?_
                    refine zi_iconst (v := 0) 101 dX11_turn_100 (by decide) rfl ?_
                    refine zc_virtual (n' := (0, 0)) (md' := mX11_upper) 104 dX11_turn_101 tw_1141 zv_X11_upper zcl_X11 (s_X11_upper3 B h3 D hD _ N4.1 P hVP r0) N4.1.1 rfl rfl rfl rfl rfl rfl rfl rfl (zk_f ?_)
                    refine zi_iload_n 105 dX11_turn_104 rfl rfl ?_
                    refine zi_i2l 106 dX11_turn_105 rfl ?_
                    refine zi_lmul 107 dX11_turn_106 rfl ?_
                    refine zi_aload_n 108 dX11_turn_107 rfl rfl ?_
                    refine zi_iload 110 dX11_turn_108 rfl rfl ?_
                    refine zi_iconst (v := 1) 111 dX11_turn_110 (by decide) rfl ?_
                    refine zc_virtual (n' := (0, 0)) (md' := mX11_upper) 114 dX11_turn_111 tw_1141 zv_X11_upper zcl_X11 (s_X11_upper4 B h3 D hD _ N4.1 P hVP r0) N4.1.1 rfl rfl rfl rfl rfl rfl rfl rfl (zk_f ?_)
                    refine zi_iload_n 115 dX11_turn_114 rfl rfl ?_
                    refine zi_i2l 116 dX11_turn_115 rfl ?_
                    refine zi_lmul 117 dX11_turn_116 rfl ?_
                    refine zi_ladd 118 dX11_turn_117 rfl ?_
                    refine zi_aload_n 119 dX11_turn_118 rfl rfl ?_
                    refine zi_iload 121 dX11_turn_119 rfl rfl ?_
                    refine zi_iconst (v := 2) 122 dX11_turn_121 (by decide) rfl ?_
                    refine zc_virtual (n' := (0, 0)) (md' := mX11_upper) 125 dX11_turn_122 tw_1141 zv_X11_upper zcl_X11 (s_X11_upper5 B h3 D hD _ N4.1 P hVP r0) N4.1.1 rfl rfl rfl rfl rfl rfl rfl rfl (zk_f ?_)
                    refine zi_iload 127 dX11_turn_125 rfl rfl ?_
                    refine zi_i2l 128 dX11_turn_127 rfl ?_
                    refine zi_lmul 129 dX11_turn_128 rfl ?_
                    refine zi_ladd 130 dX11_turn_129 rfl ?_
                    rw [show iz (tabI P 3) * x.toInt64 + iz (tabI P 4) * y.toInt64 + iz (tabI P 5) * z.toInt64 = iz (trnI P 1 x.toInt y.toInt z.toInt) from trn_2 (k := 1)]
                    refine zi_ldc2 133 dX11_turn_130 tw_952 rfl ?_
                    refine zi_aload_n 134 dX11_turn_133 rfl rfl ?_
                    refine zi_iconst (v := 0) 135 dX11_turn_134 (by decide) rfl ?_
                    refine zc_virtual (n' := (0, 0)) (md' := mX11_norm4) 138 dX11_turn_135 tw_948 zv_X11_norm4 zcl_X11 (s_X11_norm4 B h3 D hD _ N4.1 0 (by omega)) N4.1.1 rfl rfl rfl rfl rfl rfl rfl rfl (zk_f ?_)
                    rw [show zNm (ro (wR (uR m R4)) 0) = iz (i4n P) from (congrArg zNm r0).trans (z4i_n (V_63 hVP))]
                    refine zi_lmul 139 dX11_turn_138 rfl ?_
                    rw [low_q hVP]
                    refine zi_iload 141 dX11_turn_139 rfl rfl ?_
                    refine zc_virtual (n' := (0, 0)) (md' := mX11_part2) 144 dX11_turn_141 tw_1145 zv_X11_part2 zcl_X11 (s_X11_part2 B h3 D hD _ N4.1 _ _ w hq0 (trn_b hVP (tooF_b zzD) (tooF_b zzE) (tooF_b zzF)) hqb) N4.1.1 rfl rfl rfl rfl rfl rfl rfl rfl (zk_l fun x6 h6 p6 => ?_)
                    obtain ⟨rfl, n6⟩ := p6
                    have N6 := rN_t N4 n6
                    exact zr_long hZ dX11_turn_144 rfl ⟨_, rfl, _, by rw [r_turn, if_neg zzO, nI_clamp hpj31, hsP, onS_s, if_neg zzZ]; rfl, ⟨_, N6.1, mQ_F 0 K⟩, N6.2⟩
                  ·
                    obtain ⟨hq0, hqb⟩ := i4q_pb hVP zzZ
                    refine zi_aload_n 97 dX11_turn_96 rfl rfl ?_
                    refine zi_aload_n 98 dX11_turn_97 rfl rfl ?_
                    refine zi_iload 100 dX11_turn_98 rfl rfl ?_
                    refine zi_iconst (v := 0) 101 dX11_turn_100 (by decide) rfl ?_
                    refine zc_virtual (n' := (0, 0)) (md' := mX11_upper) 104 dX11_turn_101 tw_1141 zv_X11_upper zcl_X11 (s_X11_upper6 B h3 D hD _ N4.1 P hVP r0) N4.1.1 rfl rfl rfl rfl rfl rfl rfl rfl (zk_f ?_)
                    refine zi_iload_n 105 dX11_turn_104 rfl rfl ?_
                    refine zi_i2l 106 dX11_turn_105 rfl ?_
                    refine zi_lmul 107 dX11_turn_106 rfl ?_
                    refine zi_aload_n 108 dX11_turn_107 rfl rfl ?_
                    refine zi_iload 110 dX11_turn_108 rfl rfl ?_
                    refine zi_iconst (v := 1) 111 dX11_turn_110 (by decide) rfl ?_
                    refine zc_virtual (n' := (0, 0)) (md' := mX11_upper) 114 dX11_turn_111 tw_1141 zv_X11_upper zcl_X11 (s_X11_upper7 B h3 D hD _ N4.1 P hVP r0) N4.1.1 rfl rfl rfl rfl rfl rfl rfl rfl (zk_f ?_)
                    refine zi_iload_n 115 dX11_turn_114 rfl rfl ?_
                    refine zi_i2l 116 dX11_turn_115 rfl ?_
                    refine zi_lmul 117 dX11_turn_116 rfl ?_
                    refine zi_ladd 118 dX11_turn_117 rfl ?_
                    refine zi_aload_n 119 dX11_turn_118 rfl rfl ?_
                    refine zi_iload 121 dX11_turn_119 rfl rfl ?_
                    refine zi_iconst (v := 2) 122 dX11_turn_121 (by decide) rfl ?_
                    refine zc_virtual (n' := (0, 0)) (md' := mX11_upper) 125 dX11_turn_122 tw_1141 zv_X11_upper zcl_X11 (s_X11_upper8 B h3 D hD _ N4.1 P hVP r0) N4.1.1 rfl rfl rfl rfl rfl rfl rfl rfl (zk_f ?_)
                    refine zi_iload 127 dX11_turn_125 rfl rfl ?_
                    refine zi_i2l 128 dX11_turn_127 rfl ?_
                    refine zi_lmul 129 dX11_turn_128 rfl ?_
                    refine zi_ladd 130 dX11_turn_129 rfl ?_
                    rw [show iz (tabI P 6) * x.toInt64 + iz (tabI P 7) * y.toInt64 + iz (tabI P 8) * z.toInt64 = iz (trnI P 2 x.toInt y.toInt z.toInt) from trn_2 (k := 2)]
                    refine zi_ldc2 133 dX11_turn_130 tw_952 rfl ?_
                    refine zi_aload_n 134 dX11_turn_133 rfl rfl ?_
                    refine zi_iconst (v := 0) 135 dX11_turn_134 (by decide) rfl ?_
                    refine zc_virtual (n' := (0, 0)) (md' := mX11_norm4) 138 dX11_turn_135 tw_948 zv_X11_norm4 zcl_X11 (s_X11_norm4 B h3 D hD _ N4.1 0 (by omega)) N4.1.1 rfl rfl rfl rfl rfl rfl rfl rfl (zk_f ?_)
                    rw [show zNm (ro (wR (uR m R4)) 0) = iz (i4n P) from (congrArg zNm r0).trans (z4i_n (V_63 hVP))]
                    refine zi_lmul 139 dX11_turn_138 rfl ?_
                    rw [low_q hVP]
                    refine zi_iload 141 dX11_turn_139 rfl rfl ?_
                    refine zc_virtual (n' := (0, 0)) (md' := mX11_part2) 144 dX11_turn_141 tw_1145 zv_X11_part2 zcl_X11 (s_X11_part2 B h3 D hD _ N4.1 _ _ w hq0 (trn_b hVP (tooF_b zzD) (tooF_b zzE) (tooF_b zzF)) hqb) N4.1.1 rfl rfl rfl rfl rfl rfl rfl rfl (zk_l fun x7 h7 p7 => ?_)
                    obtain ⟨rfl, n7⟩ := p7
                    have N7 := rN_t N4 n7
                    exact zr_long hZ dX11_turn_144 rfl ⟨_, rfl, _, by rw [r_turn, if_neg zzO, nI_clamp hpj31, hsP, onS_s, if_neg zzZ]; rfl, ⟨_, N7.1, mQ_F 0 K⟩, N7.2⟩
            ·
              have zzC := Decidable.not_not.mp (fun q => zzC (in_2.mpr q))
              refine zi_ldc2 77 dX11_turn_74 tw_924 rfl ?_
              exact zr_long hZ dX11_turn_77 rfl ⟨_, rfl, _, by rw [r_turn, if_pos (by first | exact Or.inl zzA | exact Or.inr (Or.inl zzB) | exact Or.inr (Or.inr (Or.inl zzC)) | exact Or.inr (Or.inr (Or.inr (Or.inl zzD))) | exact Or.inr (Or.inr (Or.inr (Or.inr (Or.inl zzE)))) | exact Or.inr (Or.inr (Or.inr (Or.inr (Or.inr (zzF))))))], ⟨m, N0.1, K⟩, N0.2⟩

theorem ng_0 {g : Nat} (h : g < 9223372036854775808) (e : -lN g = 0) : g = 0 := by
  rw [iz_lN, iz_neg, iz_0, iz_inj (by omega) (by omega)] at e
  omega

set_option maxHeartbeats 1000000 in
set_option maxRecDepth 100000 in
theorem s_X11_axis (B : zBB) (h : zHp) (D : Nat → Nat) (hD : zInj D) (s : zSt) (hs0 : okSt s) (hR : rRm B D s h) (p : Int32) (k : Int32) : zSpec mX11_axis B (2, 0, 0) [.ref (D 0), .int p, .int k] h (zPi (fun zx h' => ∃ s' : zSt, r_axis s p k = (zx, s') ∧ rRm B D s' h' ∧ rOd D h h')) := by
  refine zSpec.of (by decide) (Nat.le_of_ble_eq_true rfl) (fun X hZ => ?_)
  show zG X mX11_axis B (2, 0, 0) (0, 0) 0 [(0, .ref (D 0)), (1, .int p), (2, .int k)] [] h
  obtain ⟨m, M, K⟩ := hR
  have N0 := rN_r M
  refine zi_iload_n 1 dX11_axis_0 rfl rfl ?_
  refine zc_static (n' := (0, 0)) (md' := mX11_isSlot) 4 dX11_axis_1 tw_937 zs_X11_isSlot (s_X11_isSlot B h _) rfl rfl rfl rfl rfl rfl rfl rfl (zk_f ?_)
  refine zb_eq 7 19 dX11_axis_4 (by decide) rfl (fun zzA => ?_) (fun zzA => ?_)
  ·
    have zzA := Decidable.not_not.mp (fun q => zzA (in_20.mpr q))
    refine zi_ldc 21 dX11_axis_19 tw_910 rfl ?_
    exact zr_int hZ dX11_axis_21 rfl rfl ⟨_, rfl, _, by rw [r_axis, if_pos (by first | exact Or.inl zzA | exact Or.inr (zzB))], ⟨m, N0.1, K⟩, N0.2⟩
  ·
    have zzA := in_20.mp zzA
    refine zi_iload_n 8 dX11_axis_7 rfl rfl ?_
    refine zi_i2l 9 dX11_axis_8 rfl ?_
    refine zi_lconst (v := 0) 10 dX11_axis_9 (by decide) rfl ?_
    refine zi_ldc2 13 dX11_axis_10 tw_909 rfl ?_
    refine zc_static (n' := (0, 0)) (md' := mX11_in) 16 dX11_axis_13 tw_906 zs_X11_in (s_X11_in B h _ _ _) rfl rfl rfl rfl rfl rfl rfl rfl (zk_f ?_)
    refine zb_ne 19 22 dX11_axis_16 (by decide) rfl (fun zzB => ?_) (fun zzB => ?_)
    ·
      have zzB := in_3.mp zzB
      have zzO : ¬ (zOut p 20 ∨ zOut k 3) := fun r => r.elim zzA zzB
      obtain ⟨pj, hpj, hpj31, rfl⟩ := out_i (N := 20) (by decide) zzA
      obtain ⟨kj, hkj, hkj31, rfl⟩ := out_i (N := 3) (by decide) zzB
      refine zi_aload_n 23 dX11_axis_22 rfl rfl ?_
      refine zi_iload_n 24 dX11_axis_23 rfl rfl ?_
      rcases hsP : qSl s pj with _ | P
      ·
        refine zc_virtual (n' := (0, 0)) (md' := mX11_refusal) 27 dX11_axis_24 tw_1137 zv_X11_refusal zcl_X11 (s_X11_refusalN B h D hD _ N0.1 pj hpj (by rw [K.1 pj hpj, hsP]; rfl)) N0.1.1 rfl rfl rfl rfl rfl rfl rfl rfl (zk_i fun x1 h1 p1 => ?_)
        obtain ⟨rfl, n1⟩ := p1
        have N1 := rN_t N0 n1
        refine zi_istore_n (lv' := [(3, _), (0, _), (1, _), (2, _)]) 28 dX11_axis_27 rfl rfl rfl ?_
        refine zi_iload_n 29 dX11_axis_28 rfl rfl ?_
        refine zi_if_eq 32 34 dX11_axis_29 (by decide) rfl (fun c_29 => absurd c_29 (by decide)) (fun c_29 => ?_)
        refine zi_iload_n 33 dX11_axis_32 rfl rfl ?_
        exact zr_int hZ dX11_axis_33 rfl rfl ⟨_, rfl, _, by rw [r_axis, if_neg zzO, nI_clamp hpj31, hsP, onS_n], ⟨_, N1.1, mQ_F 1 K⟩, N1.2⟩
      ·
        have hVP := hs0.1 pj P hsP
        have eP := K.2.1 pj hpj P hsP
        by_cases zzZ : i4q P = 0
        ·
          refine zc_virtual (n' := (0, 0)) (md' := mX11_refusal) 27 dX11_axis_24 tw_1137 zv_X11_refusal zcl_X11 (s_X11_refusal0 B h D hD _ N0.1 pj hpj (by rw [K.1 pj hpj, hsP]; rfl) P hVP eP zzZ) N0.1.1 rfl rfl rfl rfl rfl rfl rfl rfl (zk_i fun x2 h2 p2 => ?_)
          obtain ⟨rfl, n2⟩ := p2
          have N2 := rN_t N0 n2
          refine zi_istore_n (lv' := [(3, _), (0, _), (1, _), (2, _)]) 28 dX11_axis_27 rfl rfl rfl ?_
          refine zi_iload_n 29 dX11_axis_28 rfl rfl ?_
          refine zi_if_eq 32 34 dX11_axis_29 (by decide) rfl (fun c_29 => absurd c_29 (by decide)) (fun c_29 => ?_)
          refine zi_iload_n 33 dX11_axis_32 rfl rfl ?_
          exact zr_int hZ dX11_axis_33 rfl rfl ⟨_, rfl, _, by rw [r_axis, if_neg zzO, nI_clamp hpj31, hsP, onS_s, if_pos zzZ], ⟨_, N2.1, K⟩, N2.2⟩
        ·
          refine zc_virtual (n' := (0, 0)) (md' := mX11_refusal) 27 dX11_axis_24 tw_1137 zv_X11_refusal zcl_X11 (s_X11_refusalY B h D hD _ N0.1 pj hpj (by rw [K.1 pj hpj, hsP]; rfl) P hVP eP zzZ) N0.1.1 rfl rfl rfl rfl rfl rfl rfl rfl (zk_i fun x3 h3 p3 => ?_)
          obtain ⟨rfl, n3⟩ := p3
          have N3 := rN_t N0 n3
          obtain ⟨R4, N4, r0⟩ : ∃ R, rN B D (uR m R) h h3 ∧ ro R 0 = z4i P := ⟨_, N3, p4_at _ _ _⟩
          refine zi_istore_n (lv' := [(3, _), (0, _), (1, _), (2, _)]) 28 dX11_axis_27 rfl rfl rfl ?_
          refine zi_iload_n 29 dX11_axis_28 rfl rfl ?_
          refine zi_if_eq 32 34 dX11_axis_29 (by decide) rfl (fun c_29 => ?_) (fun c_29 => absurd c_29 (by decide))
          obtain ⟨b0, b1, b2, b3⟩ := zb_63 hVP.2
          obtain ⟨g63, g62⟩ := g3_le hVP
          refine zi_aload_n 35 dX11_axis_34 rfl rfl ?_
          refine zi_getfield 38 9 dX11_axis_35 zcl_X11 tw_872 rfl rfl N4.1.1 rfl rfl ?_
          refine zi_iconst (v := 1) 39 dX11_axis_38 (by decide) rfl ?_
          refine zi_laload 40 dX11_axis_39 N4.1.2.2.2.2.2.2.2.2.1 (vp_in_nI (show 1 < 80 by decide) (by decide)) rfl ?_
          rw [show Int32.toNatClampNeg 1 = 1 from rfl]
          rw [show wR (uR m R4) 1 = iz P.2.1 from congrArg (fun v : z4 => v.2.1) r0]
          refine zi_lstore (lv' := [(4, _), (3, _), (0, _), (1, _), (2, _)]) 42 dX11_axis_40 rfl rfl rfl ?_
          refine zi_aload_n 43 dX11_axis_42 rfl rfl ?_
          refine zi_getfield 46 9 dX11_axis_43 zcl_X11 tw_872 rfl rfl N4.1.1 rfl rfl ?_
          refine zi_iconst (v := 2) 47 dX11_axis_46 (by decide) rfl ?_
          refine zi_laload 48 dX11_axis_47 N4.1.2.2.2.2.2.2.2.2.1 (vp_in_nI (show 2 < 80 by decide) (by decide)) rfl ?_
          rw [show Int32.toNatClampNeg 2 = 2 from rfl]
          rw [show wR (uR m R4) 2 = iz P.2.2.1 from congrArg (fun v : z4 => v.2.2.1) r0]
          refine zi_lstore (lv' := [(6, _), (4, _), (3, _), (0, _), (1, _), (2, _)]) 50 dX11_axis_48 rfl rfl rfl ?_
          refine zi_aload_n 51 dX11_axis_50 rfl rfl ?_
          refine zi_getfield 54 9 dX11_axis_51 zcl_X11 tw_872 rfl rfl N4.1.1 rfl rfl ?_
          refine zi_iconst (v := 3) 55 dX11_axis_54 (by decide) rfl ?_
          refine zi_laload 56 dX11_axis_55 N4.1.2.2.2.2.2.2.2.2.1 (vp_in_nI (show 3 < 80 by decide) (by decide)) rfl ?_
          rw [show Int32.toNatClampNeg 3 = 3 from rfl]
          rw [show wR (uR m R4) 3 = iz P.2.2.2 from congrArg (fun v : z4 => v.2.2.2) r0]
          refine zi_lstore (lv' := [(8, _), (6, _), (4, _), (3, _), (0, _), (1, _), (2, _)]) 58 dX11_axis_56 rfl rfl rfl ?_
          refine zi_lload 60 dX11_axis_58 rfl rfl ?_
          refine zi_lload 62 dX11_axis_60 rfl rfl ?_
          refine zc_static (n' := (0, 0)) (md' := mX11_divisor) 65 dX11_axis_62 tw_970 zs_X11_divisor (s_X11_divisor B h3 _ _ (iz_nm (by omega)) (iz_nm (by omega))) rfl rfl rfl rfl rfl rfl rfl rfl (zk_f ?_)
          rw [gcd_iz (by omega) (by omega)]
          refine zi_lload 67 dX11_axis_65 rfl rfl ?_
          refine zc_static (n' := (0, 0)) (md' := mX11_divisor) 70 dX11_axis_67 tw_970 zs_X11_divisor (s_X11_divisor B h3 _ _ (lN_nm g62) (iz_nm (by omega))) rfl rfl rfl rfl rfl rfl rfl rfl (zk_f ?_)
          rw [dv_gcd g62 (by omega), show Nat.gcd (Nat.gcd P.2.1.natAbs P.2.2.1.natAbs) P.2.2.2.natAbs = g3 P from rfl]
          refine zi_lstore (lv' := [(10, _), (8, _), (6, _), (4, _), (3, _), (0, _), (1, _), (2, _)]) 72 dX11_axis_70 rfl rfl rfl ?_
          refine zi_lload 74 dX11_axis_72 rfl rfl ?_
          refine zi_lconst (v := 0) 75 dX11_axis_74 (by decide) rfl ?_
          refine zj_ne 79 86 dX11_axis_75 rfl dX11_axis_76 (by decide) rfl (fun zzG => ?_) (fun zzG => ?_)
          ·
            rw [lN_0e g63] at zzG
            refine zi_lload 88 dX11_axis_86 rfl rfl ?_
            refine zi_lconst (v := 0) 89 dX11_axis_88 (by decide) rfl ?_
            refine zj_lt 93 121 dX11_axis_89 rfl dX11_axis_90 (by decide) rfl (fun zx1 => ?_) (fun zx1 => ?_)
            ·
              rw [iz_0, iz_lt (by omega) (by omega)] at zx1
              refine zi_iconst (v := 1) 122 dX11_axis_121 (by decide) rfl ?_
              refine zi_goto 126 dX11_axis_122 (by decide) ?_
              have hB : axB P := by unfold axB; omega
              refine zi_istore (lv' := [(12, _), (10, _), (8, _), (6, _), (4, _), (3, _), (0, _), (1, _), (2, _)]) 128 dX11_axis_126 rfl rfl rfl ?_
              refine zi_aload_n 129 dX11_axis_128 rfl rfl ?_
              refine zi_aload_n 130 dX11_axis_129 rfl rfl ?_
              refine zi_getfield 133 9 dX11_axis_130 zcl_X11 tw_872 rfl rfl N4.1.1 rfl rfl ?_
              refine zi_iconst (v := 1) 134 dX11_axis_133 (by decide) rfl ?_
              refine zi_iload_n 135 dX11_axis_134 rfl rfl ?_
              refine zi_iadd 136 dX11_axis_135 rfl ?_
              rw [show (1 : Int32) + nI kj = nI (1 + kj) from nI_ad 1 kj]
              refine zi_laload 137 dX11_axis_136 N4.1.2.2.2.2.2.2.2.2.1 (vp_in_nI (show (1 + kj) < 80 by omega) (by decide)) rfl ?_
              rw [nI_clamp (Nat.lt_trans (show (1 + kj) < 80 by omega) (by decide))]
              rw [show wR (uR m R4) (1 + kj) = iz (axC P kj) from ax_ld r0 hkj]
              refine zi_iload 139 dX11_axis_137 rfl rfl ?_
              refine zi_if_eq 142 148 dX11_axis_139 (by decide) rfl (fun c_139 => absurd c_139 (by decide)) (fun c_139 => ?_)
              refine zi_lload 144 dX11_axis_142 rfl rfl ?_
              refine zi_lneg 145 dX11_axis_144 rfl ?_
              refine zi_goto 150 dX11_axis_145 (by decide) ?_
              refine zi_ldiv 151 dX11_axis_150 (fun e => zzG (ng_0 g63 e)) rfl ?_
              rw [ax_dn (axC_b hVP kj) g63 axC_d]
              refine zi_l2i 152 dX11_axis_151 rfl ?_
              rw [show (iz (-(axC P kj / (g3 P : Int)))).toInt32 = jz (-(axC P kj / (g3 P : Int))) from by rw [← iz_neg]; exact (ax_jz hVP kj).2]
              refine zc_virtual (n' := (0, 0)) (md' := mX11_well) 155 dX11_axis_152 tw_916 zv_X11_well zcl_X11 (s_X11_well B h3 D hD _ N4.1 _) N4.1.1 rfl rfl rfl rfl rfl rfl rfl rfl (zk_i fun x5 h5 p5 => ?_)
              obtain ⟨rfl, n5⟩ := p5
              have N5 := rN_t N4 n5
              exact zr_int hZ dX11_axis_155 rfl rfl ⟨_, rfl, _, by rw [r_axis, if_neg zzO, nI_clamp hpj31, hsP, onS_s, if_neg zzZ, nI_clamp hkj31, show axI P kj = -(axC P kj / (g3 P : Int)) from by unfold axI; rw [if_neg zzG, if_pos hB]], ⟨_, N5.1, mQ_F 0 K⟩, N5.2⟩
            ·
              rw [iz_0, iz_lt (by omega) (by omega)] at zx1
              refine zi_lload 95 dX11_axis_93 rfl rfl ?_
              refine zi_lconst (v := 0) 96 dX11_axis_95 (by decide) rfl ?_
              refine zj_ne 100 125 dX11_axis_96 rfl dX11_axis_97 (by decide) rfl (fun zx2 => ?_) (fun zx2 => ?_)
              ·
                rw [iz_0, iz_inj (by omega) (by omega)] at zx2
                refine zi_iconst (v := 0) 126 dX11_axis_125 (by decide) rfl ?_
                have hB : ¬ axB P := by unfold axB; omega
                refine zi_istore (lv' := [(12, _), (10, _), (8, _), (6, _), (4, _), (3, _), (0, _), (1, _), (2, _)]) 128 dX11_axis_126 rfl rfl rfl ?_
                refine zi_aload_n 129 dX11_axis_128 rfl rfl ?_
                refine zi_aload_n 130 dX11_axis_129 rfl rfl ?_
                refine zi_getfield 133 9 dX11_axis_130 zcl_X11 tw_872 rfl rfl N4.1.1 rfl rfl ?_
                refine zi_iconst (v := 1) 134 dX11_axis_133 (by decide) rfl ?_
                refine zi_iload_n 135 dX11_axis_134 rfl rfl ?_
                refine zi_iadd 136 dX11_axis_135 rfl ?_
                rw [show (1 : Int32) + nI kj = nI (1 + kj) from nI_ad 1 kj]
                refine zi_laload 137 dX11_axis_136 N4.1.2.2.2.2.2.2.2.2.1 (vp_in_nI (show (1 + kj) < 80 by omega) (by decide)) rfl ?_
                rw [nI_clamp (Nat.lt_trans (show (1 + kj) < 80 by omega) (by decide))]
                rw [show wR (uR m R4) (1 + kj) = iz (axC P kj) from ax_ld r0 hkj]
                refine zi_iload 139 dX11_axis_137 rfl rfl ?_
                refine zi_if_eq 142 148 dX11_axis_139 (by decide) rfl (fun c_139 => ?_) (fun c_139 => absurd c_139 (by decide))
                refine zi_lload 150 dX11_axis_148 rfl rfl ?_
                refine zi_ldiv 151 dX11_axis_150 (fun e => by rw [lN_0e g63] at e; exact zzG e) rfl ?_
                rw [iz_dx (Nat.lt_of_le_of_lt (axC_b hVP kj) (by decide)) g63 axC_d]
                refine zi_l2i 152 dX11_axis_151 rfl ?_
                rw [(ax_jz hVP kj).1]
                refine zc_virtual (n' := (0, 0)) (md' := mX11_well) 155 dX11_axis_152 tw_916 zv_X11_well zcl_X11 (s_X11_well B h3 D hD _ N4.1 _) N4.1.1 rfl rfl rfl rfl rfl rfl rfl rfl (zk_i fun x6 h6 p6 => ?_)
                obtain ⟨rfl, n6⟩ := p6
                have N6 := rN_t N4 n6
                exact zr_int hZ dX11_axis_155 rfl rfl ⟨_, rfl, _, by rw [r_axis, if_neg zzO, nI_clamp hpj31, hsP, onS_s, if_neg zzZ, nI_clamp hkj31, show axI P kj = axC P kj / (g3 P : Int) from by unfold axI; rw [if_neg zzG, if_neg hB]], ⟨_, N6.1, mQ_F 0 K⟩, N6.2⟩
              ·
                rw [iz_0, iz_inj (by omega) (by omega)] at zx2
                refine zi_lload 102 dX11_axis_100 rfl rfl ?_
                refine zi_lconst (v := 0) 103 dX11_axis_102 (by decide) rfl ?_
                refine zj_lt 107 121 dX11_axis_103 rfl dX11_axis_104 (by decide) rfl (fun zx3 => ?_) (fun zx3 => ?_)
                ·
                  rw [iz_0, iz_lt (by omega) (by omega)] at zx3
                  refine zi_iconst (v := 1) 122 dX11_axis_121 (by decide) rfl ?_
                  refine zi_goto 126 dX11_axis_122 (by decide) ?_
                  have hB : axB P := by unfold axB; omega
                  refine zi_istore (lv' := [(12, _), (10, _), (8, _), (6, _), (4, _), (3, _), (0, _), (1, _), (2, _)]) 128 dX11_axis_126 rfl rfl rfl ?_
                  refine zi_aload_n 129 dX11_axis_128 rfl rfl ?_
                  refine zi_aload_n 130 dX11_axis_129 rfl rfl ?_
                  refine zi_getfield 133 9 dX11_axis_130 zcl_X11 tw_872 rfl rfl N4.1.1 rfl rfl ?_
                  refine zi_iconst (v := 1) 134 dX11_axis_133 (by decide) rfl ?_
                  refine zi_iload_n 135 dX11_axis_134 rfl rfl ?_
                  refine zi_iadd 136 dX11_axis_135 rfl ?_
                  rw [show (1 : Int32) + nI kj = nI (1 + kj) from nI_ad 1 kj]
                  refine zi_laload 137 dX11_axis_136 N4.1.2.2.2.2.2.2.2.2.1 (vp_in_nI (show (1 + kj) < 80 by omega) (by decide)) rfl ?_
                  rw [nI_clamp (Nat.lt_trans (show (1 + kj) < 80 by omega) (by decide))]
                  rw [show wR (uR m R4) (1 + kj) = iz (axC P kj) from ax_ld r0 hkj]
                  refine zi_iload 139 dX11_axis_137 rfl rfl ?_
                  refine zi_if_eq 142 148 dX11_axis_139 (by decide) rfl (fun c_139 => absurd c_139 (by decide)) (fun c_139 => ?_)
                  refine zi_lload 144 dX11_axis_142 rfl rfl ?_
                  refine zi_lneg 145 dX11_axis_144 rfl ?_
                  refine zi_goto 150 dX11_axis_145 (by decide) ?_
                  refine zi_ldiv 151 dX11_axis_150 (fun e => zzG (ng_0 g63 e)) rfl ?_
                  rw [ax_dn (axC_b hVP kj) g63 axC_d]
                  refine zi_l2i 152 dX11_axis_151 rfl ?_
                  rw [show (iz (-(axC P kj / (g3 P : Int)))).toInt32 = jz (-(axC P kj / (g3 P : Int))) from by rw [← iz_neg]; exact (ax_jz hVP kj).2]
                  refine zc_virtual (n' := (0, 0)) (md' := mX11_well) 155 dX11_axis_152 tw_916 zv_X11_well zcl_X11 (s_X11_well B h3 D hD _ N4.1 _) N4.1.1 rfl rfl rfl rfl rfl rfl rfl rfl (zk_i fun x7 h7 p7 => ?_)
                  obtain ⟨rfl, n7⟩ := p7
                  have N7 := rN_t N4 n7
                  exact zr_int hZ dX11_axis_155 rfl rfl ⟨_, rfl, _, by rw [r_axis, if_neg zzO, nI_clamp hpj31, hsP, onS_s, if_neg zzZ, nI_clamp hkj31, show axI P kj = -(axC P kj / (g3 P : Int)) from by unfold axI; rw [if_neg zzG, if_pos hB]], ⟨_, N7.1, mQ_F 0 K⟩, N7.2⟩
                ·
                  rw [iz_0, iz_lt (by omega) (by omega)] at zx3
                  refine zi_lload 109 dX11_axis_107 rfl rfl ?_
                  refine zi_lconst (v := 0) 110 dX11_axis_109 (by decide) rfl ?_
                  refine zj_ne 114 125 dX11_axis_110 rfl dX11_axis_111 (by decide) rfl (fun zx4 => ?_) (fun zx4 => ?_)
                  ·
                    rw [iz_0, iz_inj (by omega) (by omega)] at zx4
                    refine zi_iconst (v := 0) 126 dX11_axis_125 (by decide) rfl ?_
                    have hB : ¬ axB P := by unfold axB; omega
                    refine zi_istore (lv' := [(12, _), (10, _), (8, _), (6, _), (4, _), (3, _), (0, _), (1, _), (2, _)]) 128 dX11_axis_126 rfl rfl rfl ?_
                    refine zi_aload_n 129 dX11_axis_128 rfl rfl ?_
                    refine zi_aload_n 130 dX11_axis_129 rfl rfl ?_
                    refine zi_getfield 133 9 dX11_axis_130 zcl_X11 tw_872 rfl rfl N4.1.1 rfl rfl ?_
                    refine zi_iconst (v := 1) 134 dX11_axis_133 (by decide) rfl ?_
                    refine zi_iload_n 135 dX11_axis_134 rfl rfl ?_
                    refine zi_iadd 136 dX11_axis_135 rfl ?_
                    rw [show (1 : Int32) + nI kj = nI (1 + kj) from nI_ad 1 kj]
                    refine zi_laload 137 dX11_axis_136 N4.1.2.2.2.2.2.2.2.2.1 (vp_in_nI (show (1 + kj) < 80 by omega) (by decide)) rfl ?_
                    rw [nI_clamp (Nat.lt_trans (show (1 + kj) < 80 by omega) (by decide))]
                    rw [show wR (uR m R4) (1 + kj) = iz (axC P kj) from ax_ld r0 hkj]
                    refine zi_iload 139 dX11_axis_137 rfl rfl ?_
                    refine zi_if_eq 142 148 dX11_axis_139 (by decide) rfl (fun c_139 => ?_) (fun c_139 => absurd c_139 (by decide))
                    refine zi_lload 150 dX11_axis_148 rfl rfl ?_
                    refine zi_ldiv 151 dX11_axis_150 (fun e => by rw [lN_0e g63] at e; exact zzG e) rfl ?_
                    rw [iz_dx (Nat.lt_of_le_of_lt (axC_b hVP kj) (by decide)) g63 axC_d]
                    refine zi_l2i 152 dX11_axis_151 rfl ?_
                    rw [(ax_jz hVP kj).1]
                    refine zc_virtual (n' := (0, 0)) (md' := mX11_well) 155 dX11_axis_152 tw_916 zv_X11_well zcl_X11 (s_X11_well B h3 D hD _ N4.1 _) N4.1.1 rfl rfl rfl rfl rfl rfl rfl rfl (zk_i fun x8 h8 p8 => ?_)
                    obtain ⟨rfl, n8⟩ := p8
                    have N8 := rN_t N4 n8
                    exact zr_int hZ dX11_axis_155 rfl rfl ⟨_, rfl, _, by rw [r_axis, if_neg zzO, nI_clamp hpj31, hsP, onS_s, if_neg zzZ, nI_clamp hkj31, show axI P kj = axC P kj / (g3 P : Int) from by unfold axI; rw [if_neg zzG, if_neg hB]], ⟨_, N8.1, mQ_F 0 K⟩, N8.2⟩
                  ·
                    rw [iz_0, iz_inj (by omega) (by omega)] at zx4
                    refine zi_lload 116 dX11_axis_114 rfl rfl ?_
                    refine zi_lconst (v := 0) 117 dX11_axis_116 (by decide) rfl ?_
                    refine zj_ge 121 125 dX11_axis_117 rfl dX11_axis_118 (by decide) rfl (fun zx5 => ?_) (fun zx5 => ?_)
                    ·
                      rw [iz_0, iz_le (by omega) (by omega)] at zx5
                      refine zi_iconst (v := 0) 126 dX11_axis_125 (by decide) rfl ?_
                      have hB : ¬ axB P := by unfold axB; omega
                      refine zi_istore (lv' := [(12, _), (10, _), (8, _), (6, _), (4, _), (3, _), (0, _), (1, _), (2, _)]) 128 dX11_axis_126 rfl rfl rfl ?_
                      refine zi_aload_n 129 dX11_axis_128 rfl rfl ?_
                      refine zi_aload_n 130 dX11_axis_129 rfl rfl ?_
                      refine zi_getfield 133 9 dX11_axis_130 zcl_X11 tw_872 rfl rfl N4.1.1 rfl rfl ?_
                      refine zi_iconst (v := 1) 134 dX11_axis_133 (by decide) rfl ?_
                      refine zi_iload_n 135 dX11_axis_134 rfl rfl ?_
                      refine zi_iadd 136 dX11_axis_135 rfl ?_
                      rw [show (1 : Int32) + nI kj = nI (1 + kj) from nI_ad 1 kj]
                      refine zi_laload 137 dX11_axis_136 N4.1.2.2.2.2.2.2.2.2.1 (vp_in_nI (show (1 + kj) < 80 by omega) (by decide)) rfl ?_
                      rw [nI_clamp (Nat.lt_trans (show (1 + kj) < 80 by omega) (by decide))]
                      rw [show wR (uR m R4) (1 + kj) = iz (axC P kj) from ax_ld r0 hkj]
                      refine zi_iload 139 dX11_axis_137 rfl rfl ?_
                      refine zi_if_eq 142 148 dX11_axis_139 (by decide) rfl (fun c_139 => ?_) (fun c_139 => absurd c_139 (by decide))
                      refine zi_lload 150 dX11_axis_148 rfl rfl ?_
                      refine zi_ldiv 151 dX11_axis_150 (fun e => by rw [lN_0e g63] at e; exact zzG e) rfl ?_
                      rw [iz_dx (Nat.lt_of_le_of_lt (axC_b hVP kj) (by decide)) g63 axC_d]
                      refine zi_l2i 152 dX11_axis_151 rfl ?_
                      rw [(ax_jz hVP kj).1]
                      refine zc_virtual (n' := (0, 0)) (md' := mX11_well) 155 dX11_axis_152 tw_916 zv_X11_well zcl_X11 (s_X11_well B h3 D hD _ N4.1 _) N4.1.1 rfl rfl rfl rfl rfl rfl rfl rfl (zk_i fun x9 h9 p9 => ?_)
                      obtain ⟨rfl, n9⟩ := p9
                      have N9 := rN_t N4 n9
                      exact zr_int hZ dX11_axis_155 rfl rfl ⟨_, rfl, _, by rw [r_axis, if_neg zzO, nI_clamp hpj31, hsP, onS_s, if_neg zzZ, nI_clamp hkj31, show axI P kj = axC P kj / (g3 P : Int) from by unfold axI; rw [if_neg zzG, if_neg hB]], ⟨_, N9.1, mQ_F 0 K⟩, N9.2⟩
                    ·
                      rw [iz_0, iz_le (by omega) (by omega)] at zx5
                      refine zi_iconst (v := 1) 122 dX11_axis_121 (by decide) rfl ?_
                      refine zi_goto 126 dX11_axis_122 (by decide) ?_
                      have hB : axB P := by unfold axB; omega
                      refine zi_istore (lv' := [(12, _), (10, _), (8, _), (6, _), (4, _), (3, _), (0, _), (1, _), (2, _)]) 128 dX11_axis_126 rfl rfl rfl ?_
                      refine zi_aload_n 129 dX11_axis_128 rfl rfl ?_
                      refine zi_aload_n 130 dX11_axis_129 rfl rfl ?_
                      refine zi_getfield 133 9 dX11_axis_130 zcl_X11 tw_872 rfl rfl N4.1.1 rfl rfl ?_
                      refine zi_iconst (v := 1) 134 dX11_axis_133 (by decide) rfl ?_
                      refine zi_iload_n 135 dX11_axis_134 rfl rfl ?_
                      refine zi_iadd 136 dX11_axis_135 rfl ?_
                      rw [show (1 : Int32) + nI kj = nI (1 + kj) from nI_ad 1 kj]
                      refine zi_laload 137 dX11_axis_136 N4.1.2.2.2.2.2.2.2.2.1 (vp_in_nI (show (1 + kj) < 80 by omega) (by decide)) rfl ?_
                      rw [nI_clamp (Nat.lt_trans (show (1 + kj) < 80 by omega) (by decide))]
                      rw [show wR (uR m R4) (1 + kj) = iz (axC P kj) from ax_ld r0 hkj]
                      refine zi_iload 139 dX11_axis_137 rfl rfl ?_
                      refine zi_if_eq 142 148 dX11_axis_139 (by decide) rfl (fun c_139 => absurd c_139 (by decide)) (fun c_139 => ?_)
                      refine zi_lload 144 dX11_axis_142 rfl rfl ?_
                      refine zi_lneg 145 dX11_axis_144 rfl ?_
                      refine zi_goto 150 dX11_axis_145 (by decide) ?_
                      refine zi_ldiv 151 dX11_axis_150 (fun e => zzG (ng_0 g63 e)) rfl ?_
                      rw [ax_dn (axC_b hVP kj) g63 axC_d]
                      refine zi_l2i 152 dX11_axis_151 rfl ?_
                      rw [show (iz (-(axC P kj / (g3 P : Int)))).toInt32 = jz (-(axC P kj / (g3 P : Int))) from by rw [← iz_neg]; exact (ax_jz hVP kj).2]
                      refine zc_virtual (n' := (0, 0)) (md' := mX11_well) 155 dX11_axis_152 tw_916 zv_X11_well zcl_X11 (s_X11_well B h3 D hD _ N4.1 _) N4.1.1 rfl rfl rfl rfl rfl rfl rfl rfl (zk_i fun x10 h10 p10 => ?_)
                      obtain ⟨rfl, n10⟩ := p10
                      have N10 := rN_t N4 n10
                      exact zr_int hZ dX11_axis_155 rfl rfl ⟨_, rfl, _, by rw [r_axis, if_neg zzO, nI_clamp hpj31, hsP, onS_s, if_neg zzZ, nI_clamp hkj31, show axI P kj = -(axC P kj / (g3 P : Int)) from by unfold axI; rw [if_neg zzG, if_pos hB]], ⟨_, N10.1, mQ_F 0 K⟩, N10.2⟩
          ·
            rw [lN_0e g63] at zzG
            refine zi_aload_n 80 dX11_axis_79 rfl rfl ?_
            refine zi_ldc 82 dX11_axis_80 tw_1034 rfl ?_
            refine zc_virtual (n' := (0, 0)) (md' := mX11_well) 85 dX11_axis_82 tw_916 zv_X11_well zcl_X11 (s_X11_well B h3 D hD _ N4.1 _) N4.1.1 rfl rfl rfl rfl rfl rfl rfl rfl (zk_i fun x11 h11 p11 => ?_)
            obtain ⟨rfl, n11⟩ := p11
            have N11 := rN_t N4 n11
            exact zr_int hZ dX11_axis_85 rfl rfl ⟨_, rfl, _, by rw [r_axis, if_neg zzO, nI_clamp hpj31, hsP, onS_s, if_neg zzZ, nI_clamp hkj31, show axI P kj = -1000000 from if_pos zzG]; rfl, ⟨_, N11.1, mQ_F 0 K⟩, N11.2⟩
    ·
      have zzB := Decidable.not_not.mp (fun q => zzB (in_3.mpr q))
      refine zi_ldc 21 dX11_axis_19 tw_910 rfl ?_
      exact zr_int hZ dX11_axis_21 rfl rfl ⟨_, rfl, _, by rw [r_axis, if_pos (by first | exact Or.inl zzA | exact Or.inr (zzB))], ⟨m, N0.1, K⟩, N0.2⟩
