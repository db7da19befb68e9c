theorem zOd_V {P : i4} (h : i4V P) : zOd (z4i P) ↔ P.1 % 2 ≠ 0 := by
  have hl := zb_63 h.2
  have k : ∀ {x : Int}, x.natAbs ≤ 63245 → (iz x).toInt = x := fun {x} hx => iz_i (by omega)
  obtain ⟨o1, o2, o3⟩ := h.1
  rw [zOd_iff]
  show (iz P.1).toInt % 2 ≠ 0 ∧ (iz P.2.1).toInt % 2 ≠ 0 ∧ (iz P.2.2.1).toInt % 2 ≠ 0 ∧ (iz P.2.2.2).toInt % 2 ≠ 0 ↔ _
  rw [k hl.1, k hl.2.1, k hl.2.2.1, k hl.2.2.2, ← o1, ← o2, ← o3]
  exact ⟨fun z => z.1, fun z => ⟨z, z, z, z⟩⟩
theorem lN_1e {n : Nat} (h : n < 2 ^ 63) : lN n = 1 ↔ n = 1 := by rw [show (1 : Int64) = lN 1 from rfl, pk_lEQ h (by decide)]
theorem lN_0e {n : Nat} (h : n < 2 ^ 63) : lN n = 0 ↔ n = 0 := by rw [show (0 : Int64) = lN 0 from rfl, pk_lEQ h (by decide)]
theorem nI_0e {n : Nat} (h : n < 2 ^ 31) : nI n = 0 ↔ n = 0 := by rw [show (0 : Int32) = nI 0 from rfl, nI_eq h (by decide)]
theorem nN_31 {P : i4} (h : i4V P) : nN P < 2 ^ 31 := Nat.lt_of_le_of_lt (nN_le h) (by decide)
theorem nN_63 {P : i4} (h : i4V P) : nN P < 2 ^ 63 := Nat.lt_of_le_of_lt (nN_le h) (by decide)
theorem wh_63 {P : i4} (h : i4V P) : wh P < 2 ^ 63 := by
  by_cases q : i4q P = 0
  · rw [i4q_0.mp q]
    decide
  · exact Nat.lt_of_le_of_lt (wh_le h q).2.2 (nN_63 h)
theorem nN_2 {P : i4} (h : i4V P) (h0 : ¬ i4q P = 0) (h1 : ¬ nN P = 1) : 2 ≤ nN P := by
  have := (nN_pos h).mp h0
  omega
abbrev orderI (P : i4) : Int := if P.1 * P.1 = i4q P then 1 else if P.1 * P.1 = 0 then 2 else if 4 * (P.1 * P.1) = i4q P then 3 else if 2 * (P.1 * P.1) = i4q P then 4 else if 4 * (P.1 * P.1) = 3 * i4q P then 6 else -1000000
def g3 (P : i4) : Nat := Nat.gcd (Nat.gcd P.2.1.natAbs P.2.2.1.natAbs) P.2.2.2.natAbs
abbrev axB (P : i4) : Prop := P.2.1 < 0 ∨ (P.2.1 = 0 ∧ (P.2.2.1 < 0 ∨ (P.2.2.1 = 0 ∧ P.2.2.2 < 0)))
abbrev axC (P : i4) (k : Nat) : Int := if k = 0 then P.2.1 else if k = 1 then P.2.2.1 else P.2.2.2
abbrev axI (P : i4) (k : Nat) : Int := if g3 P = 0 then -1000000 else if axB P then -(axC P k / g3 P) else axC P k / g3 P
abbrev ltI (u l : Int) (w : Int32) : Int := if w = 0 then u / (Nat.gcd u.natAbs l.natAbs : Nat) else l / (Nat.gcd u.natAbs l.natAbs : Nat)
theorem g3_le {P : i4} (h : i4V P) : g3 P < 9223372036854775808 ∧ Nat.gcd P.2.1.natAbs P.2.2.1.natAbs < 9223372036854775808 := by
  obtain ⟨-, b1, b2, b3⟩ := zb_63 h.2
  have := gcd_lt (x := P.2.1.natAbs) (y := P.2.2.1.natAbs) (by omega) (by omega)
  exact ⟨gcd_lt this (by omega), this⟩
theorem axC_d {P : i4} {k : Nat} : (g3 P : Int) ∣ axC P k := by
  have d3 : g3 P ∣ P.2.2.2.natAbs := Nat.gcd_dvd_right _ _
  have d0 : g3 P ∣ Nat.gcd P.2.1.natAbs P.2.2.1.natAbs := Nat.gcd_dvd_left _ _
  have d1 := Nat.dvd_trans d0 (Nat.gcd_dvd_left _ _)
  have d2 := Nat.dvd_trans d0 (Nat.gcd_dvd_right _ _)
  unfold axC
  split
  · exact Int.ofNat_dvd_left.mpr d1
  · split
    · exact Int.ofNat_dvd_left.mpr d2
    · exact Int.ofNat_dvd_left.mpr d3
theorem axC_b {P : i4} (h : i4V P) (k : Nat) : (axC P k).natAbs ≤ 63245 := by
  obtain ⟨-, b1, b2, b3⟩ := zb_63 h.2
  unfold axC
  split
  · exact b1
  · split
    · exact b2
    · exact b3
theorem axQ_b {P : i4} (h : i4V P) (k : Nat) : (axC P k / (g3 P : Int)).natAbs ≤ 63245 := Nat.le_trans (Int.natAbs_ediv_le_natAbs _ _) (axC_b h k)
theorem ax_jz {P : i4} (h : i4V P) (k : Nat) : (iz (axC P k / (g3 P : Int))).toInt32 = jz (axC P k / (g3 P : Int)) ∧ (-iz (axC P k / (g3 P : Int))).toInt32 = jz (-(axC P k / (g3 P : Int))) := by
  have := axQ_b h k
  generalize axC P k / (g3 P : Int) = t at this
  rw [iz_neg]
  exact ⟨iz_j (by omega), iz_j (by omega)⟩
theorem axC_z {P : i4} {k : Nat} (hk : k < 3) : zAt (z4i P) (nI k + 1) = iz (axC P k) := by
  rw [nI_1]
  match k, hk with
  | 0, _ => rfl
  | 1, _ => rfl
  | 2, _ => rfl
theorem iz_0e {x : Int} (h : x.natAbs ≤ 63245) : (iz x = 0 ↔ x = 0) ∧ (iz x < 0 ↔ x < 0) ∧ (0 ≤ iz x ↔ 0 ≤ x) := by
  rw [iz_0, iz_inj (by omega) (by omega), iz_lt (by omega) (by omega), iz_le (by omega) (by omega)]
  exact ⟨Iff.rfl, Iff.rfl, Iff.rfl⟩

set_option maxHeartbeats 4000000 in
set_option maxRecDepth 100000 in
theorem s_X4_isTooGreat (B : zBB) (h : zHp) (a : Nat) (P : z4) (ha : h a = some (zFo P)) : zSpec mX4_isTooGreat B (2, 0, 0) [.ref a] h (zPf (some (.int (if zBig P then 1 else 0))) h) := by
  refine zSpec.of (by decide) (Nat.le_of_ble_eq_true rfl) (fun X hZ => ?_)
  show zG X mX4_isTooGreat B (2, 0, 0) (0, 0) 0 [(0, .ref a)] [] h
  refine zi_aload_n 1 dX4_isTooGreat_0 rfl rfl ?_
  refine zi_getfield 4 0 dX4_isTooGreat_1 zcl_X4 tw_103 rfl rfl ha rfl rfl ?_
  refine zc_static (n' := (0, 0)) (md' := mX4_isFar) 7 dX4_isTooGreat_4 tw_423 zs_X4_isFar (s_X4_isFar B h _) rfl rfl rfl rfl rfl rfl rfl rfl (zk_f ?_)
  refine zb_ne 10 40 dX4_isTooGreat_7 (by decide) rfl (fun zzA => ?_) (fun zzA => ?_)
  ·
    refine zi_iconst (v := 1) 41 dX4_isTooGreat_40 (by decide) rfl ?_
    exact zr_int hZ dX4_isTooGreat_41 rfl rfl ⟨by rw [if_pos (by first | exact Or.inl zzA | exact Or.inr (Or.inl zzB) | exact Or.inr (Or.inr (Or.inl zzC)) | exact Or.inr (Or.inr (Or.inr (Or.inl zzD))))], rfl⟩
  ·
    refine zi_aload_n 11 dX4_isTooGreat_10 rfl rfl ?_
    refine zi_getfield 14 1 dX4_isTooGreat_11 zcl_X4 tw_108 rfl rfl ha rfl rfl ?_
    refine zc_static (n' := (0, 0)) (md' := mX4_isFar) 17 dX4_isTooGreat_14 tw_423 zs_X4_isFar (s_X4_isFar B h _) rfl rfl rfl rfl rfl rfl rfl rfl (zk_f ?_)
    refine zb_ne 20 40 dX4_isTooGreat_17 (by decide) rfl (fun zzB => ?_) (fun zzB => ?_)
    ·
      refine zi_iconst (v := 1) 41 dX4_isTooGreat_40 (by decide) rfl ?_
      exact zr_int hZ dX4_isTooGreat_41 rfl rfl ⟨by rw [if_pos (by first | exact Or.inl zzA | exact Or.inr (Or.inl zzB) | exact Or.inr (Or.inr (Or.inl zzC)) | exact Or.inr (Or.inr (Or.inr (Or.inl zzD))))], rfl⟩
    ·
      refine zi_aload_n 21 dX4_isTooGreat_20 rfl rfl ?_
      refine zi_getfield 24 2 dX4_isTooGreat_21 zcl_X4 tw_113 rfl rfl ha rfl rfl ?_
      refine zc_static (n' := (0, 0)) (md' := mX4_isFar) 27 dX4_isTooGreat_24 tw_423 zs_X4_isFar (s_X4_isFar B h _) rfl rfl rfl rfl rfl rfl rfl rfl (zk_f ?_)
      refine zb_ne 30 40 dX4_isTooGreat_27 (by decide) rfl (fun zzC => ?_) (fun zzC => ?_)
      ·
        refine zi_iconst (v := 1) 41 dX4_isTooGreat_40 (by decide) rfl ?_
        exact zr_int hZ dX4_isTooGreat_41 rfl rfl ⟨by rw [if_pos (by first | exact Or.inl zzA | exact Or.inr (Or.inl zzB) | exact Or.inr (Or.inr (Or.inl zzC)) | exact Or.inr (Or.inr (Or.inr (Or.inl zzD))))], rfl⟩
      ·
        refine zi_aload_n 31 dX4_isTooGreat_30 rfl rfl ?_
        refine zi_getfield 34 3 dX4_isTooGreat_31 zcl_X4 tw_118 rfl rfl ha rfl rfl ?_
        refine zc_static (n' := (0, 0)) (md' := mX4_isFar) 37 dX4_isTooGreat_34 tw_423 zs_X4_isFar (s_X4_isFar B h _) rfl rfl rfl rfl rfl rfl rfl rfl (zk_f ?_)
        refine zb_eq 40 42 dX4_isTooGreat_37 (by decide) rfl (fun zzD => ?_) (fun zzD => ?_)
        ·
          refine zi_aload_n 43 dX4_isTooGreat_42 rfl rfl ?_
          refine zc_virtual (n' := (0, 0)) (md' := mX4_ownNorm) 46 dX4_isTooGreat_43 tw_428 zv_X4_ownNorm zcl_X4 (s_X4_ownNorm B h a P ha) ha rfl rfl rfl rfl rfl rfl rfl rfl (zk_f ?_)
          refine zi_ldc2 49 dX4_isTooGreat_46 tw_437 rfl ?_
          refine zj_le 53 57 dX4_isTooGreat_49 rfl dX4_isTooGreat_50 (by decide) rfl (fun zzE => ?_) (fun zzE => ?_)
          ·
            refine zi_iconst (v := 0) 58 dX4_isTooGreat_57 (by decide) rfl ?_
            exact zr_int hZ dX4_isTooGreat_58 rfl rfl ⟨by first | rw [if_neg (fun z => by rcases z with z | z | z | z | z; exact zzA z; exact zzB z; exact zzC z; exact zzD z; exact (z_nle64.mpr z) zzE)] | rw [if_pos (Or.inr (Or.inr (Or.inr (Or.inr (z_nle64.mp zzE)))))], rfl⟩
          ·
            refine zi_iconst (v := 1) 54 dX4_isTooGreat_53 (by decide) rfl ?_
            refine zi_goto 58 dX4_isTooGreat_54 (by decide) ?_
            exact zr_int hZ dX4_isTooGreat_58 rfl rfl ⟨by first | rw [if_neg (fun z => by rcases z with z | z | z | z | z; exact zzA z; exact zzB z; exact zzC z; exact zzD z; exact (z_nle64.mpr z) zzE)] | rw [if_pos (Or.inr (Or.inr (Or.inr (Or.inr (z_nle64.mp zzE)))))], rfl⟩
        ·
          refine zi_iconst (v := 1) 41 dX4_isTooGreat_40 (by decide) rfl ?_
          exact zr_int hZ dX4_isTooGreat_41 rfl rfl ⟨by rw [if_pos (by first | exact Or.inl zzA | exact Or.inr (Or.inl zzB) | exact Or.inr (Or.inr (Or.inl zzC)) | exact Or.inr (Or.inr (Or.inr (Or.inl zzD))))], rfl⟩

set_option maxHeartbeats 4000000 in
set_option maxRecDepth 100000 in
theorem s_X4_ownIndex (B : zBB) (h : zHp) (a : Nat) (P : i4) (hV : i4V P) (ha : h a = some (zFo (z4i P))) (h0 : ¬ i4q P = 0) : zSpec mX4_ownIndex B (4, 0, 0) [.ref a] h (zPf (some (.long (lN (idx P)))) h) := by
  refine zSpec.of (by decide) (Nat.le_of_ble_eq_true rfl) (fun X hZ => ?_)
  show zG X mX4_ownIndex B (4, 0, 0) (0, 0) 0 [(0, .ref a)] [] h
  obtain ⟨w1, -, w3⟩ := wh_le hV h0
  have n63 := nN_63 hV
  have hw0 : ¬ lN (wh P) = 0 := fun e => by rw [lN_0e (wh_63 hV)] at e; omega
  refine zi_aload_n 1 dX4_ownIndex_0 rfl rfl ?_
  refine zc_virtual (n' := (0, 0)) (md' := mX4_wholeDivisor) 4 dX4_ownIndex_1 tw_821 zv_X4_wholeDivisor zcl_X4 (s_X4_wholeDivisor B h a _ ha (z4i_nm (zb_63 hV.2) (by decide))) ha rfl rfl rfl rfl rfl rfl rfl rfl (zk_f ?_)
  rw [wh_z (zb_63 hV.2) (by decide)]
  refine zi_lstore_n (lv' := [(1, _), (0, _)]) 5 dX4_ownIndex_4 rfl rfl rfl ?_
  refine zi_lload_n 6 dX4_ownIndex_5 rfl rfl ?_
  refine zi_lconst (v := 0) 7 dX4_ownIndex_6 (by decide) rfl ?_
  refine zj_ne 11 13 dX4_ownIndex_7 rfl dX4_ownIndex_8 (by decide) rfl (fun zzE => ?_) (fun zzE => absurd zzE hw0)
  refine zi_aload_n 14 dX4_ownIndex_13 rfl rfl ?_
  refine zc_virtual (n' := (0, 0)) (md' := mX4_ownNorm) 17 dX4_ownIndex_14 tw_428 zv_X4_ownNorm zcl_X4 (s_X4_ownNorm B h a _ ha) ha rfl rfl rfl rfl rfl rfl rfl rfl (zk_f ?_)
  rw [nN_z hV]
  refine zi_lload_n 18 dX4_ownIndex_17 rfl rfl ?_
  refine zi_ldiv 19 dX4_ownIndex_18 hw0 rfl ?_
  rw [pk_lDiv n63 w1 (wh_63 hV)]
  refine zi_lload_n 20 dX4_ownIndex_19 rfl rfl ?_
  refine zi_ldiv 21 dX4_ownIndex_20 hw0 rfl ?_
  rw [pk_lDiv (Nat.lt_of_le_of_lt (Nat.div_le_self _ _) n63) w1 (wh_63 hV)]
  refine zi_iconst (v := 2) 22 dX4_ownIndex_21 (by decide) rfl ?_
  refine zc_staticN (n' := (0, 0)) (md' := mX10_withoutFactor) 25 dX4_ownIndex_22 (by decide) zs_X10_withoutFactor (s_X10_withoutFactor B h (nN P / wh P / wh P) (Nat.lt_of_le_of_lt (Nat.div_le_self _ _) (Nat.lt_of_le_of_lt (Nat.div_le_self _ _) n63)) 2 (by decide) (by decide)) rfl rfl rfl rfl rfl rfl rfl rfl (zk_f ?_)
  exact zr_long hZ dX4_ownIndex_25 rfl ⟨rfl, rfl⟩

set_option maxHeartbeats 4000000 in
set_option maxRecDepth 100000 in
theorem s_X10_kindOf (B : zBB) (h : zHp) (a : Nat) (P : i4) (hV : i4V P) (ha : h a = some (zFo (z4i P))) : zSpec mX10_kindOf B (4, 0, 0) [.ref a] h (zPf (some (.int (nI (kindI P)))) h) := by
  refine zSpec.of (by decide) (Nat.le_of_ble_eq_true rfl) (fun X hZ => ?_)
  show zG X mX10_kindOf B (4, 0, 0) (0, 0) 0 [(0, .ref a)] [] h
  refine zi_aload_n 1 dX10_kindOf_0 rfl rfl ?_
  refine zc_virtual (n' := (0, 0)) (md' := mX4_isZero) 4 dX10_kindOf_1 tw_451 zv_X4_isZero zcl_X4 (s_X4_isZero B h a _ ha) ha rfl rfl rfl rfl rfl rfl rfl rfl (zk_f ?_)
  refine zb_eq 7 9 dX10_kindOf_4 (by decide) rfl (fun zzZ => ?_) (fun zzZ => ?_)
  ·
    rw [z4i_nil (zb_63 hV.2)] at zzZ
    refine zi_aload_n 10 dX10_kindOf_9 rfl rfl ?_
    refine zc_virtual (n' := (0, 0)) (md' := mX4_ownNorm) 13 dX10_kindOf_10 tw_455 zv_X4_ownNorm zcl_X4 (s_X4_ownNorm B h a _ ha) ha rfl rfl rfl rfl rfl rfl rfl rfl (zk_f ?_)
    rw [nN_z hV]
    refine zi_lstore_n (lv' := [(1, _), (0, _)]) 14 dX10_kindOf_13 rfl rfl rfl ?_
    refine zi_lload_n 15 dX10_kindOf_14 rfl rfl ?_
    refine zi_lconst (v := 1) 16 dX10_kindOf_15 (by decide) rfl ?_
    refine zj_ne 20 22 dX10_kindOf_16 rfl dX10_kindOf_17 (by decide) rfl (fun zzO => ?_) (fun zzO => ?_)
    ·
      rw [lN_1e (nN_63 hV)] at zzO
      refine zi_lload_n 23 dX10_kindOf_22 rfl rfl ?_
      refine zc_static (n' := (0, 0)) (md' := mX10_leastPrime) 26 dX10_kindOf_23 tw_456 zs_X10_leastPrime (s_X10_leastPrime B h (nN P) (nN_2 hV zzZ zzO) (nN_31 hV)) rfl rfl rfl rfl rfl rfl rfl rfl (zk_f ?_)
      refine zi_lload_n 27 dX10_kindOf_26 rfl rfl ?_
      refine zj_ne 31 33 dX10_kindOf_27 rfl dX10_kindOf_28 (by decide) rfl (fun zzL => ?_) (fun zzL => ?_)
      ·
        rw [pk_lEQ (Nat.lt_of_le_of_lt (zLp_d (nN_2 hV zzZ zzO)).2.2 (nN_63 hV)) (nN_63 hV)] at zzL
        refine zi_aload_n 34 dX10_kindOf_33 rfl rfl ?_
        refine zc_virtual (n' := (0, 0)) (md' := mX4_wholeDivisor) 37 dX10_kindOf_34 tw_461 zv_X4_wholeDivisor zcl_X4 (s_X4_wholeDivisor B h a _ ha (z4i_nm (zb_63 hV.2) (by decide))) ha rfl rfl rfl rfl rfl rfl rfl rfl (zk_f ?_)
        rw [wh_z (zb_63 hV.2) (by decide)]
        refine zi_lconst (v := 1) 38 dX10_kindOf_37 (by decide) rfl ?_
        refine zj_ne 42 44 dX10_kindOf_38 rfl dX10_kindOf_39 (by decide) rfl (fun zzW => ?_) (fun zzW => ?_)
        ·
          rw [lN_1e (wh_63 hV)] at zzW
          refine zi_aload_n 45 dX10_kindOf_44 rfl rfl ?_
          refine zc_virtual (n' := (0, 0)) (md' := mX4_isAllOdd) 48 dX10_kindOf_45 tw_415 zv_X4_isAllOdd zcl_X4 (s_X4_isAllOdd B h a _ ha) ha rfl rfl rfl rfl rfl rfl rfl rfl (zk_f ?_)
          refine zb_eq 51 55 dX10_kindOf_48 (by decide) rfl (fun zzD => ?_) (fun zzD => ?_)
          ·
            rw [zOd_V hV] at zzD
            refine zi_iconst (v := 0) 56 dX10_kindOf_55 (by decide) rfl ?_
            exact zr_int hZ dX10_kindOf_56 rfl rfl ⟨by rw [kind_n hV, if_neg zzZ, if_neg zzO, if_neg zzL, if_neg zzW]; first | (rw [if_pos zzD]; rfl) | (rw [if_neg zzD]; rfl), rfl⟩
          ·
            rw [zOd_V hV] at zzD
            refine zi_iconst (v := 1) 52 dX10_kindOf_51 (by decide) rfl ?_
            refine zi_goto 56 dX10_kindOf_52 (by decide) ?_
            exact zr_int hZ dX10_kindOf_56 rfl rfl ⟨by rw [kind_n hV, if_neg zzZ, if_neg zzO, if_neg zzL, if_neg zzW]; first | (rw [if_pos zzD]; rfl) | (rw [if_neg zzD]; rfl), rfl⟩
        ·
          rw [lN_1e (wh_63 hV)] at zzW
          refine zi_iconst (v := 2) 43 dX10_kindOf_42 (by decide) rfl ?_
          exact zr_int hZ dX10_kindOf_43 rfl rfl ⟨by rw [kind_n hV, if_neg zzZ, if_neg zzO, if_neg zzL, if_pos zzW]; rfl, rfl⟩
      ·
        rw [pk_lEQ (Nat.lt_of_le_of_lt (zLp_d (nN_2 hV zzZ zzO)).2.2 (nN_63 hV)) (nN_63 hV)] at zzL
        refine zi_iconst (v := 3) 32 dX10_kindOf_31 (by decide) rfl ?_
        exact zr_int hZ dX10_kindOf_32 rfl rfl ⟨by rw [kind_n hV, if_neg zzZ, if_neg zzO, if_pos zzL]; rfl, rfl⟩
    ·
      rw [lN_1e (nN_63 hV)] at zzO
      refine zi_iconst (v := 4) 21 dX10_kindOf_20 (by decide) rfl ?_
      exact zr_int hZ dX10_kindOf_21 rfl rfl ⟨by rw [kind_n hV, if_neg zzZ, if_pos zzO]; rfl, rfl⟩
  ·
    rw [z4i_nil (zb_63 hV.2)] at zzZ
    refine zi_iconst (v := 0) 8 dX10_kindOf_7 (by decide) rfl ?_
    exact zr_int hZ dX10_kindOf_8 rfl rfl ⟨by rw [kind_n hV, if_pos zzZ]; rfl, rfl⟩

theorem i4_sq (P : i4) : P.1 * P.1 ≤ i4q P := by
  have h1 := zsn P.2.1
  have h2 := zsn P.2.2.1
  have h3 := zsn P.2.2.2
  unfold i4q
  omega

set_option maxHeartbeats 4000000 in
set_option maxRecDepth 100000 in
theorem s_X10_orderOf (B : zBB) (h : zHp) (a : Nat) (P : i4) (hV : i4V P) (ha : h a = some (zFo (z4i P))) : zSpec mX10_orderOf B (1, 0, 0) [.ref a] h (zPf (some (.int (jz (orderI P)))) h) := by
  refine zSpec.of (by decide) (Nat.le_of_ble_eq_true rfl) (fun X hZ => ?_)
  show zG X mX10_orderOf B (1, 0, 0) (0, 0) 0 [(0, .ref a)] [] h
  have q0 := hV.2
  have s0 := zsn P.1
  have s1 : P.1 * P.1 ≤ i4q P := i4_sq P
  refine zi_aload_n 1 dX10_orderOf_0 rfl rfl ?_
  refine zc_virtual (n' := (0, 0)) (md' := mX4_squareSum) 4 dX10_orderOf_1 tw_796 zv_X4_squareSum zcl_X4 (s_X4_squareSum B h a _ ha) ha rfl rfl rfl rfl rfl rfl rfl rfl (zk_f ?_)
  rw [z4i_sq]
  refine zi_lstore_n (lv' := [(1, _), (0, _)]) 5 dX10_orderOf_4 rfl rfl rfl ?_
  refine zi_aload_n 6 dX10_orderOf_5 rfl rfl ?_
  refine zi_getfield 9 0 dX10_orderOf_6 zcl_X4 tw_107 rfl rfl ha rfl rfl ?_
  refine zi_aload_n 10 dX10_orderOf_9 rfl rfl ?_
  refine zi_getfield 13 0 dX10_orderOf_10 zcl_X4 tw_107 rfl rfl ha rfl rfl ?_
  refine zi_lmul 14 dX10_orderOf_13 rfl ?_
  rw [show (z4i P).1 * (z4i P).1 = iz (P.1 * P.1) from iz_mul _ _]
  refine zi_lstore_n (lv' := [(3, _), (1, _), (0, _)]) 15 dX10_orderOf_14 rfl rfl rfl ?_
  refine zi_lload_n 16 dX10_orderOf_15 rfl rfl ?_
  refine zi_lload_n 17 dX10_orderOf_16 rfl rfl ?_
  refine zj_ne 21 23 dX10_orderOf_17 rfl dX10_orderOf_18 (by decide) rfl (fun zzA => ?_) (fun zzA => ?_)
  ·
    rw [iz_inj (by omega) (by omega)] at zzA
    refine zi_lload_n 24 dX10_orderOf_23 rfl rfl ?_
    refine zi_lconst (v := 0) 25 dX10_orderOf_24 (by decide) rfl ?_
    refine zj_ne 29 31 dX10_orderOf_25 rfl dX10_orderOf_26 (by decide) rfl (fun zzB => ?_) (fun zzB => ?_)
    ·
      rw [iz_0, iz_inj (by omega) (by omega)] at zzB
      refine zi_ldc2 34 dX10_orderOf_31 tw_797 rfl ?_
      refine zi_lload_n 35 dX10_orderOf_34 rfl rfl ?_
      refine zi_lmul 36 dX10_orderOf_35 rfl ?_
      refine zi_lload_n 37 dX10_orderOf_36 rfl rfl ?_
      rw [iz_4, iz_mul]
      refine zj_ne 41 43 dX10_orderOf_37 rfl dX10_orderOf_38 (by decide) rfl (fun zzC => ?_) (fun zzC => ?_)
      ·
        rw [iz_inj (by omega) (by omega)] at zzC
        refine zi_ldc2 46 dX10_orderOf_43 tw_459 rfl ?_
        refine zi_lload_n 47 dX10_orderOf_46 rfl rfl ?_
        refine zi_lmul 48 dX10_orderOf_47 rfl ?_
        refine zi_lload_n 49 dX10_orderOf_48 rfl rfl ?_
        rw [iz_2, iz_mul]
        refine zj_ne 53 55 dX10_orderOf_49 rfl dX10_orderOf_50 (by decide) rfl (fun zzD => ?_) (fun zzD => ?_)
        ·
          rw [iz_inj (by omega) (by omega)] at zzD
          refine zi_ldc2 58 dX10_orderOf_55 tw_797 rfl ?_
          refine zi_lload_n 59 dX10_orderOf_58 rfl rfl ?_
          refine zi_lmul 60 dX10_orderOf_59 rfl ?_
          refine zi_ldc2 63 dX10_orderOf_60 tw_460 rfl ?_
          refine zi_lload_n 64 dX10_orderOf_63 rfl rfl ?_
          refine zi_lmul 65 dX10_orderOf_64 rfl ?_
          rw [iz_4, show (3 : Int64) = iz 3 from rfl, iz_mul, iz_mul]
          refine zj_ne 69 72 dX10_orderOf_65 rfl dX10_orderOf_66 (by decide) rfl (fun zzE => ?_) (fun zzE => ?_)
          ·
            rw [iz_inj (by omega) (by omega)] at zzE
            refine zi_ldc 74 dX10_orderOf_72 tw_715 rfl ?_
            exact zr_int hZ dX10_orderOf_74 rfl rfl ⟨by unfold orderI; rw [if_neg zzA]; rw [if_neg zzB]; rw [if_neg zzC]; rw [if_neg zzD]; rw [if_neg zzE]; rfl, rfl⟩
          ·
            rw [iz_inj (by omega) (by omega)] at zzE
            refine zi_bipush (v := 6) 71 dX10_orderOf_69 (by decide) rfl ?_
            exact zr_int hZ dX10_orderOf_71 rfl rfl ⟨by unfold orderI; rw [if_neg zzA]; rw [if_neg zzB]; rw [if_neg zzC]; rw [if_neg zzD]; rw [if_pos zzE]; rfl, rfl⟩
        ·
          rw [iz_inj (by omega) (by omega)] at zzD
          refine zi_iconst (v := 4) 54 dX10_orderOf_53 (by decide) rfl ?_
          exact zr_int hZ dX10_orderOf_54 rfl rfl ⟨by unfold orderI; rw [if_neg zzA]; rw [if_neg zzB]; rw [if_neg zzC]; rw [if_pos zzD]; rfl, rfl⟩
      ·
        rw [iz_inj (by omega) (by omega)] at zzC
        refine zi_iconst (v := 3) 42 dX10_orderOf_41 (by decide) rfl ?_
        exact zr_int hZ dX10_orderOf_42 rfl rfl ⟨by unfold orderI; rw [if_neg zzA]; rw [if_neg zzB]; rw [if_pos zzC]; rfl, rfl⟩
    ·
      rw [iz_0, iz_inj (by omega) (by omega)] at zzB
      refine zi_iconst (v := 2) 30 dX10_orderOf_29 (by decide) rfl ?_
      exact zr_int hZ dX10_orderOf_30 rfl rfl ⟨by unfold orderI; rw [if_neg zzA]; rw [if_pos zzB]; rfl, rfl⟩
  ·
    rw [iz_inj (by omega) (by omega)] at zzA
    refine zi_iconst (v := 1) 22 dX10_orderOf_21 (by decide) rfl ?_
    exact zr_int hZ dX10_orderOf_22 rfl rfl ⟨by unfold orderI; rw [if_pos zzA]; rfl, rfl⟩

theorem ax_n1 {P : i4} (hx : ¬ P.2.1 = 0) (hf : 0 ≤ P.2.1) : ¬ axB P := by unfold axB; omega
theorem ax_p1 {P : i4} (hx : ¬ P.2.1 = 0) (hf : ¬ 0 ≤ P.2.1) : axB P := by unfold axB; omega
theorem ax_n2 {P : i4} (hx : P.2.1 = 0) (hy : ¬ P.2.2.1 = 0) (hf : 0 ≤ P.2.2.1) : ¬ axB P := by unfold axB; omega
theorem ax_p2 {P : i4} (hx : P.2.1 = 0) (hy : ¬ P.2.2.1 = 0) (hf : ¬ 0 ≤ P.2.2.1) : axB P := by unfold axB; omega
theorem ax_n3 {P : i4} (hx : P.2.1 = 0) (hy : P.2.2.1 = 0) (hf : 0 ≤ P.2.2.2) : ¬ axB P := by unfold axB; omega
theorem ax_p3 {P : i4} (hx : P.2.1 = 0) (hy : P.2.2.1 = 0) (hf : ¬ 0 ≤ P.2.2.2) : axB P := by unfold axB; omega

set_option maxHeartbeats 4000000 in
set_option maxRecDepth 100000 in
theorem s_X10_axisNumber (B : zBB) (h : zHp) (a : Nat) (P : i4) (hV : i4V P) (ha : h a = some (zFo (z4i P))) (k : Nat) (hk : k < 3) : zSpec mX10_axisNumber B (2, 0, 0) [.ref a, .int (nI k)] h (zPf (some (.int (jz (axI P k)))) h) := by
  refine zSpec.of (by decide) (Nat.le_of_ble_eq_true rfl) (fun X hZ => ?_)
  show zG X mX10_axisNumber B (2, 0, 0) (0, 0) 0 [(0, .ref a), (1, .int (nI k))] [] h
  obtain ⟨b0, b1, b2, b3⟩ := zb_63 hV.2
  have hg := (g3_le hV).1
  have hgx := (g3_le hV).2
  obtain ⟨j1, j2⟩ := ax_jz hV k
  have nm1 : zNm1 (iz P.2.1) := iz_nm (Nat.lt_of_le_of_lt b1 (by decide))
  have nm2 : zNm1 (iz P.2.2.1) := iz_nm (Nat.lt_of_le_of_lt b2 (by decide))
  have nm3 : zNm1 (iz P.2.2.2) := iz_nm (Nat.lt_of_le_of_lt b3 (by decide))
  refine zi_aload_n 1 dX10_axisNumber_0 rfl rfl ?_
  refine zi_getfield 4 1 dX10_axisNumber_1 zcl_X4 tw_112 rfl rfl ha rfl rfl ?_
  refine zi_aload_n 5 dX10_axisNumber_4 rfl rfl ?_
  refine zi_getfield 8 2 dX10_axisNumber_5 zcl_X4 tw_117 rfl rfl ha rfl rfl ?_
  refine zc_static (n' := (0, 0)) (md' := mX10_commonDivisor) 11 dX10_axisNumber_8 tw_776 zs_X10_commonDivisor (s_X10_commonDivisor B h _ _ nm1 nm2) rfl rfl rfl rfl rfl rfl rfl rfl (zk_f ?_)
  rw [gcd_iz (Nat.lt_of_le_of_lt b1 (by decide)) (Nat.lt_of_le_of_lt b2 (by decide))]
  refine zi_aload_n 12 dX10_axisNumber_11 rfl rfl ?_
  refine zi_getfield 15 3 dX10_axisNumber_12 zcl_X4 tw_122 rfl rfl ha rfl rfl ?_
  refine zc_static (n' := (0, 0)) (md' := mX10_commonDivisor) 18 dX10_axisNumber_15 tw_776 zs_X10_commonDivisor (s_X10_commonDivisor B h _ _ (lN_nm hgx) nm3) rfl rfl rfl rfl rfl rfl rfl rfl (zk_f ?_)
  rw [dv_gcd hgx (Nat.lt_of_le_of_lt b3 (by decide)), show Nat.gcd (Nat.gcd P.2.1.natAbs P.2.2.1.natAbs) P.2.2.2.natAbs = g3 P from rfl]
  refine zi_lstore_n (lv' := [(2, _), (0, _), (1, _)]) 19 dX10_axisNumber_18 rfl rfl rfl ?_
  refine zi_lload_n 20 dX10_axisNumber_19 rfl rfl ?_
  refine zi_lconst (v := 0) 21 dX10_axisNumber_20 (by decide) rfl ?_
  refine zj_ne 25 28 dX10_axisNumber_21 rfl dX10_axisNumber_22 (by decide) rfl (fun zzG => ?_) (fun zzG => ?_)
  ·
    rw [lN_0e hg] at zzG
    refine zi_aload_n 29 dX10_axisNumber_28 rfl rfl ?_
    refine zi_getfield 32 1 dX10_axisNumber_29 zcl_X4 tw_112 rfl rfl ha rfl rfl ?_
    refine zi_lconst (v := 0) 33 dX10_axisNumber_32 (by decide) rfl ?_
    refine zj_eq 37 44 dX10_axisNumber_33 rfl dX10_axisNumber_34 (by decide) rfl (fun zzX => ?_) (fun zzX => ?_)
    ·
      change iz P.2.1 = 0 at zzX
      rw [(iz_0e b1).1] at zzX
      refine zi_aload_n 45 dX10_axisNumber_44 rfl rfl ?_
      refine zi_getfield 48 2 dX10_axisNumber_45 zcl_X4 tw_117 rfl rfl ha rfl rfl ?_
      refine zi_lconst (v := 0) 49 dX10_axisNumber_48 (by decide) rfl ?_
      refine zj_eq 53 60 dX10_axisNumber_49 rfl dX10_axisNumber_50 (by decide) rfl (fun zzY => ?_) (fun zzY => ?_)
      ·
        change iz P.2.2.1 = 0 at zzY
        rw [(iz_0e b2).1] at zzY
        refine zi_aload_n 61 dX10_axisNumber_60 rfl rfl ?_
        refine zi_getfield 64 3 dX10_axisNumber_61 zcl_X4 tw_122 rfl rfl ha rfl rfl ?_
        refine zi_lstore (lv' := [(4, _), (2, _), (0, _), (1, _)]) 66 dX10_axisNumber_64 rfl rfl rfl ?_
        refine zi_aload_n 67 dX10_axisNumber_66 rfl rfl ?_
        refine zi_iload_n 68 dX10_axisNumber_67 rfl rfl ?_
        refine zi_iconst (v := 1) 69 dX10_axisNumber_68 (by decide) rfl ?_
        refine zi_iadd 70 dX10_axisNumber_69 rfl ?_
        refine zc_virtual (n' := (0, 0)) (md' := mX4_numberAt) 73 dX10_axisNumber_70 tw_489 zv_X4_numberAt zcl_X4 (s_X4_numberAt B h a _ ha _) ha rfl rfl rfl rfl rfl rfl rfl rfl (zk_f ?_)
        rw [axC_z hk]
        refine zi_lload_n 74 dX10_axisNumber_73 rfl rfl ?_
        refine zi_ldiv 75 dX10_axisNumber_74 (fun e => zzG ((lN_0e hg).mp e)) rfl ?_
        rw [iz_dx (Nat.lt_of_le_of_lt (axC_b hV k) (by decide)) hg axC_d]
        refine zi_lstore (lv' := [(6, _), (4, _), (2, _), (0, _), (1, _)]) 77 dX10_axisNumber_75 rfl rfl rfl ?_
        refine zi_lload 79 dX10_axisNumber_77 rfl rfl ?_
        refine zi_lconst (v := 0) 80 dX10_axisNumber_79 (by decide) rfl ?_
        refine zj_ge 84 90 dX10_axisNumber_80 rfl dX10_axisNumber_81 (by decide) rfl (fun zzF => ?_) (fun zzF => ?_)
        ·
          first | (change 0 ≤ iz P.2.1 at zzF; rw [(iz_0e b1).2.2] at zzF) | (change 0 ≤ iz P.2.2.1 at zzF; rw [(iz_0e b2).2.2] at zzF) | (change 0 ≤ iz P.2.2.2 at zzF; rw [(iz_0e b3).2.2] at zzF)
          refine zi_lload 92 dX10_axisNumber_90 rfl rfl ?_
          refine zi_l2i 93 dX10_axisNumber_92 rfl ?_
          exact zr_int hZ dX10_axisNumber_93 rfl rfl ⟨by unfold axI; rw [if_neg zzG]; first | rw [if_neg (ax_n1 zzX zzF), j1] | rw [if_neg (ax_n2 zzX zzY zzF), j1] | rw [if_neg (ax_n3 zzX zzY zzF), j1] | rw [if_pos (ax_p1 zzX zzF), j2] | rw [if_pos (ax_p2 zzX zzY zzF), j2] | rw [if_pos (ax_p3 zzX zzY zzF), j2], rfl⟩
        ·
          first | (change ¬ 0 ≤ iz P.2.1 at zzF; rw [(iz_0e b1).2.2] at zzF) | (change ¬ 0 ≤ iz P.2.2.1 at zzF; rw [(iz_0e b2).2.2] at zzF) | (change ¬ 0 ≤ iz P.2.2.2 at zzF; rw [(iz_0e b3).2.2] at zzF)
          refine zi_lload 86 dX10_axisNumber_84 rfl rfl ?_
          refine zi_lneg 87 dX10_axisNumber_86 rfl ?_
          refine zi_goto 92 dX10_axisNumber_87 (by decide) ?_
          refine zi_l2i 93 dX10_axisNumber_92 rfl ?_
          exact zr_int hZ dX10_axisNumber_93 rfl rfl ⟨by unfold axI; rw [if_neg zzG]; first | rw [if_neg (ax_n1 zzX zzF), j1] | rw [if_neg (ax_n2 zzX zzY zzF), j1] | rw [if_neg (ax_n3 zzX zzY zzF), j1] | rw [if_pos (ax_p1 zzX zzF), j2] | rw [if_pos (ax_p2 zzX zzY zzF), j2] | rw [if_pos (ax_p3 zzX zzY zzF), j2], rfl⟩
      ·
        change ¬ iz P.2.2.1 = 0 at zzY
        rw [(iz_0e b2).1] at zzY
        refine zi_aload_n 54 dX10_axisNumber_53 rfl rfl ?_
        refine zi_getfield 57 2 dX10_axisNumber_54 zcl_X4 tw_117 rfl rfl ha rfl rfl ?_
        refine zi_goto 64 dX10_axisNumber_57 (by decide) ?_
        refine zi_lstore (lv' := [(4, _), (2, _), (0, _), (1, _)]) 66 dX10_axisNumber_64 rfl rfl rfl ?_
        refine zi_aload_n 67 dX10_axisNumber_66 rfl rfl ?_
        refine zi_iload_n 68 dX10_axisNumber_67 rfl rfl ?_
        refine zi_iconst (v := 1) 69 dX10_axisNumber_68 (by decide) rfl ?_
        refine zi_iadd 70 dX10_axisNumber_69 rfl ?_
        refine zc_virtual (n' := (0, 0)) (md' := mX4_numberAt) 73 dX10_axisNumber_70 tw_489 zv_X4_numberAt zcl_X4 (s_X4_numberAt B h a _ ha _) ha rfl rfl rfl rfl rfl rfl rfl rfl (zk_f ?_)
        rw [axC_z hk]
        refine zi_lload_n 74 dX10_axisNumber_73 rfl rfl ?_
        refine zi_ldiv 75 dX10_axisNumber_74 (fun e => zzG ((lN_0e hg).mp e)) rfl ?_
        rw [iz_dx (Nat.lt_of_le_of_lt (axC_b hV k) (by decide)) hg axC_d]
        refine zi_lstore (lv' := [(6, _), (4, _), (2, _), (0, _), (1, _)]) 77 dX10_axisNumber_75 rfl rfl rfl ?_
        refine zi_lload 79 dX10_axisNumber_77 rfl rfl ?_
        refine zi_lconst (v := 0) 80 dX10_axisNumber_79 (by decide) rfl ?_
        refine zj_ge 84 90 dX10_axisNumber_80 rfl dX10_axisNumber_81 (by decide) rfl (fun zzF => ?_) (fun zzF => ?_)
        ·
          first | (change 0 ≤ iz P.2.1 at zzF; rw [(iz_0e b1).2.2] at zzF) | (change 0 ≤ iz P.2.2.1 at zzF; rw [(iz_0e b2).2.2] at zzF) | (change 0 ≤ iz P.2.2.2 at zzF; rw [(iz_0e b3).2.2] at zzF)
          refine zi_lload 92 dX10_axisNumber_90 rfl rfl ?_
          refine zi_l2i 93 dX10_axisNumber_92 rfl ?_
          exact zr_int hZ dX10_axisNumber_93 rfl rfl ⟨by unfold axI; rw [if_neg zzG]; first | rw [if_neg (ax_n1 zzX zzF), j1] | rw [if_neg (ax_n2 zzX zzY zzF), j1] | rw [if_neg (ax_n3 zzX zzY zzF), j1] | rw [if_pos (ax_p1 zzX zzF), j2] | rw [if_pos (ax_p2 zzX zzY zzF), j2] | rw [if_pos (ax_p3 zzX zzY zzF), j2], rfl⟩
        ·
          first | (change ¬ 0 ≤ iz P.2.1 at zzF; rw [(iz_0e b1).2.2] at zzF) | (change ¬ 0 ≤ iz P.2.2.1 at zzF; rw [(iz_0e b2).2.2] at zzF) | (change ¬ 0 ≤ iz P.2.2.2 at zzF; rw [(iz_0e b3).2.2] at zzF)
          refine zi_lload 86 dX10_axisNumber_84 rfl rfl ?_
          refine zi_lneg 87 dX10_axisNumber_86 rfl ?_
          refine zi_goto 92 dX10_axisNumber_87 (by decide) ?_
          refine zi_l2i 93 dX10_axisNumber_92 rfl ?_
          exact zr_int hZ dX10_axisNumber_93 rfl rfl ⟨by unfold axI; rw [if_neg zzG]; first | rw [if_neg (ax_n1 zzX zzF), j1] | rw [if_neg (ax_n2 zzX zzY zzF), j1] | rw [if_neg (ax_n3 zzX zzY zzF), j1] | rw [if_pos (ax_p1 zzX zzF), j2] | rw [if_pos (ax_p2 zzX zzY zzF), j2] | rw [if_pos (ax_p3 zzX zzY zzF), j2], rfl⟩
    ·
      change ¬ iz P.2.1 = 0 at zzX
      rw [(iz_0e b1).1] at zzX
      refine zi_aload_n 38 dX10_axisNumber_37 rfl rfl ?_
      refine zi_getfield 41 1 dX10_axisNumber_38 zcl_X4 tw_112 rfl rfl ha rfl rfl ?_
      refine zi_goto 64 dX10_axisNumber_41 (by decide) ?_
      refine zi_lstore (lv' := [(4, _), (2, _), (0, _), (1, _)]) 66 dX10_axisNumber_64 rfl rfl rfl ?_
      refine zi_aload_n 67 dX10_axisNumber_66 rfl rfl ?_
      refine zi_iload_n 68 dX10_axisNumber_67 rfl rfl ?_
      refine zi_iconst (v := 1) 69 dX10_axisNumber_68 (by decide) rfl ?_
      refine zi_iadd 70 dX10_axisNumber_69 rfl ?_
      refine zc_virtual (n' := (0, 0)) (md' := mX4_numberAt) 73 dX10_axisNumber_70 tw_489 zv_X4_numberAt zcl_X4 (s_X4_numberAt B h a _ ha _) ha rfl rfl rfl rfl rfl rfl rfl rfl (zk_f ?_)
      rw [axC_z hk]
      refine zi_lload_n 74 dX10_axisNumber_73 rfl rfl ?_
      refine zi_ldiv 75 dX10_axisNumber_74 (fun e => zzG ((lN_0e hg).mp e)) rfl ?_
      rw [iz_dx (Nat.lt_of_le_of_lt (axC_b hV k) (by decide)) hg axC_d]
      refine zi_lstore (lv' := [(6, _), (4, _), (2, _), (0, _), (1, _)]) 77 dX10_axisNumber_75 rfl rfl rfl ?_
      refine zi_lload 79 dX10_axisNumber_77 rfl rfl ?_
      refine zi_lconst (v := 0) 80 dX10_axisNumber_79 (by decide) rfl ?_
      refine zj_ge 84 90 dX10_axisNumber_80 rfl dX10_axisNumber_81 (by decide) rfl (fun zzF => ?_) (fun zzF => ?_)
      ·
        first | (change 0 ≤ iz P.2.1 at zzF; rw [(iz_0e b1).2.2] at zzF) | (change 0 ≤ iz P.2.2.1 at zzF; rw [(iz_0e b2).2.2] at zzF) | (change 0 ≤ iz P.2.2.2 at zzF; rw [(iz_0e b3).2.2] at zzF)
        refine zi_lload 92 dX10_axisNumber_90 rfl rfl ?_
        refine zi_l2i 93 dX10_axisNumber_92 rfl ?_
        exact zr_int hZ dX10_axisNumber_93 rfl rfl ⟨by unfold axI; rw [if_neg zzG]; first | rw [if_neg (ax_n1 zzX zzF), j1] | rw [if_neg (ax_n2 zzX zzY zzF), j1] | rw [if_neg (ax_n3 zzX zzY zzF), j1] | rw [if_pos (ax_p1 zzX zzF), j2] | rw [if_pos (ax_p2 zzX zzY zzF), j2] | rw [if_pos (ax_p3 zzX zzY zzF), j2], rfl⟩
      ·
        first | (change ¬ 0 ≤ iz P.2.1 at zzF; rw [(iz_0e b1).2.2] at zzF) | (change ¬ 0 ≤ iz P.2.2.1 at zzF; rw [(iz_0e b2).2.2] at zzF) | (change ¬ 0 ≤ iz P.2.2.2 at zzF; rw [(iz_0e b3).2.2] at zzF)
        refine zi_lload 86 dX10_axisNumber_84 rfl rfl ?_
        refine zi_lneg 87 dX10_axisNumber_86 rfl ?_
        refine zi_goto 92 dX10_axisNumber_87 (by decide) ?_
        refine zi_l2i 93 dX10_axisNumber_92 rfl ?_
        exact zr_int hZ dX10_axisNumber_93 rfl rfl ⟨by unfold axI; rw [if_neg zzG]; first | rw [if_neg (ax_n1 zzX zzF), j1] | rw [if_neg (ax_n2 zzX zzY zzF), j1] | rw [if_neg (ax_n3 zzX zzY zzF), j1] | rw [if_pos (ax_p1 zzX zzF), j2] | rw [if_pos (ax_p2 zzX zzY zzF), j2] | rw [if_pos (ax_p3 zzX zzY zzF), j2], rfl⟩
  ·
    rw [lN_0e hg] at zzG
    refine zi_ldc 27 dX10_axisNumber_25 tw_715 rfl ?_
    exact zr_int hZ dX10_axisNumber_27 rfl rfl ⟨by unfold axI; rw [if_pos zzG]; rfl, rfl⟩

set_option maxHeartbeats 4000000 in
set_option maxRecDepth 100000 in
theorem s_X10_inLeastTerms (B : zBB) (h : zHp) (u l : Int) (w : Int32) (hl : 0 < l) (hu : u.natAbs < 9223372036854775808) (hl2 : l.natAbs < 9223372036854775808) : zSpec mX10_inLeastTerms B (2, 0, 0) [.long (iz u), .long (iz l), .int w] h (zPf (some (.long (iz (ltI u l w)))) h) := by
  refine zSpec.of (by decide) (Nat.le_of_ble_eq_true rfl) (fun X hZ => ?_)
  show zG X mX10_inLeastTerms B (2, 0, 0) (0, 0) 0 [(0, .long (iz u)), (2, .long (iz l)), (4, .int w)] [] h
  have hg := gcd_lt hu hl2
  have g0 : ¬ Nat.gcd u.natAbs l.natAbs = 0 := fun e => by have := (Nat.gcd_eq_zero_iff.mp e).2; omega
  refine zi_lload_n 1 dX10_inLeastTerms_0 rfl rfl ?_
  refine zi_lload_n 2 dX10_inLeastTerms_1 rfl rfl ?_
  refine zc_static (n' := (0, 0)) (md' := mX10_commonDivisor) 5 dX10_inLeastTerms_2 tw_776 zs_X10_commonDivisor (s_X10_commonDivisor B h _ _ (iz_nm hu) (iz_nm hl2)) rfl rfl rfl rfl rfl rfl rfl rfl (zk_f ?_)
  rw [gcd_iz hu hl2]
  refine zi_lstore (lv' := [(5, _), (0, _), (2, _), (4, _)]) 7 dX10_inLeastTerms_5 rfl rfl rfl ?_
  refine zi_lload 9 dX10_inLeastTerms_7 rfl rfl ?_
  refine zi_lconst (v := 0) 10 dX10_inLeastTerms_9 (by decide) rfl ?_
  refine zj_ne 14 16 dX10_inLeastTerms_10 rfl dX10_inLeastTerms_11 (by decide) rfl (fun zzE => ?_) (fun zzE => absurd ((lN_0e hg).mp zzE) g0)
  refine zi_iload 18 dX10_inLeastTerms_16 rfl rfl ?_
  refine zi_if_ne 21 25 dX10_inLeastTerms_18 (by decide) rfl (fun zzW => ?_) (fun zzW => ?_)
  ·
    refine zi_lload_n 26 dX10_inLeastTerms_25 rfl rfl ?_
    refine zi_lload 28 dX10_inLeastTerms_26 rfl rfl ?_
    refine zi_ldiv 29 dX10_inLeastTerms_28 (fun e => g0 ((lN_0e hg).mp e)) rfl ?_
    exact zr_long hZ dX10_inLeastTerms_29 rfl ⟨by unfold ltI; first | rw [if_pos zzW, iz_dx hu hg (Int.ofNat_dvd_left.mpr (Nat.gcd_dvd_left _ _))] | rw [if_neg zzW, iz_dx hl2 hg (Int.ofNat_dvd_left.mpr (Nat.gcd_dvd_right _ _))], rfl⟩
  ·
    refine zi_lload_n 22 dX10_inLeastTerms_21 rfl rfl ?_
    refine zi_goto 26 dX10_inLeastTerms_22 (by decide) ?_
    refine zi_lload 28 dX10_inLeastTerms_26 rfl rfl ?_
    refine zi_ldiv 29 dX10_inLeastTerms_28 (fun e => g0 ((lN_0e hg).mp e)) rfl ?_
    exact zr_long hZ dX10_inLeastTerms_29 rfl ⟨by unfold ltI; first | rw [if_pos zzW, iz_dx hu hg (Int.ofNat_dvd_left.mpr (Nat.gcd_dvd_left _ _))] | rw [if_neg zzW, iz_dx hl2 hg (Int.ofNat_dvd_left.mpr (Nat.gcd_dvd_right _ _))], rfl⟩

theorem sd_3 {d n : Nat} (h : (d - 1) * (d - 1) ≤ n) (hn : n ≤ 1000000) : d ≤ 1001 ∧ d * d ≤ 2000000 := by
  have h1 : d ≤ 1001 := by
    rcases Nat.lt_or_ge d 1002 with q | q
    · omega
    · have := Nat.mul_le_mul (show 1001 ≤ d - 1 by omega) (show 1001 ≤ d - 1 by omega)
      omega
  have := Nat.mul_le_mul h1 h1
  omega
theorem sd_m {n d N : Nat} (hd : 1 ≤ d) (h : d ≤ 1001 ∧ N ≤ 2000000) : n % d < 2 ^ 31 := by
  have := Nat.mod_lt n (show d > 0 by omega)
  omega
set_option maxHeartbeats 8000000 in
set_option maxRecDepth 100000 in
theorem l_X10_sumOfDivisors (B : zBB) (h : zHp) (X : zX) (n b : Nat) (hn : 1 ≤ n) (hn2 : n ≤ 1000000) (hb : 2 ≤ b) (hb2 : b ≤ 1000) (hZ : zIsP X mX10_sumOfDivisors B (0, 0) (zPf (some (.int (nI (zSd n b)))) h)) : ∀ (k d S : Nat), n + 1 - d < k → S = zSp n b d → 1 ≤ d → (d - 1) * (d - 1) ≤ n → zG X mX10_sumOfDivisors B (0, 0, 0) (0, 0) 10 [(3, .int (nI d)), (2, .int (nI S)), (0, .int (nI n)), (1, .int (nI b))] [] h := by
  intro k
  induction k with
  | zero => intro d S hk; exact absurd hk (Nat.not_lt_zero _)
  | succ k ih =>
    intro d S hk hS hd hdd
    have hd3 := sd_3 hdd hn2
    refine zi_iload_n 11 dX10_sumOfDivisors_10 rfl rfl ?_
    refine zi_iload_n 12 dX10_sumOfDivisors_11 rfl rfl ?_
    refine zi_imul 13 dX10_sumOfDivisors_12 rfl ?_
    rw [pk_mul]
    refine zi_iload_n 14 dX10_sumOfDivisors_13 rfl rfl ?_
    refine zi_icmp_gt 17 65 dX10_sumOfDivisors_14 (by decide) rfl (fun zzE => ?_) (fun zzE => ?_)
    ·
      rw [nI_ltI (by omega) (by omega)] at zzE
      refine zi_iload_n 66 dX10_sumOfDivisors_65 rfl rfl ?_
      exact zr_int hZ dX10_sumOfDivisors_66 rfl rfl ⟨by rw [hS, zSp_end zzE], rfl⟩
    ·
      rw [nI_ltI (by omega) (by omega), Nat.not_lt] at zzE
      have hdn := zrt_le zzE
      refine zi_iload_n 18 dX10_sumOfDivisors_17 rfl rfl ?_
      refine zi_iload_n 19 dX10_sumOfDivisors_18 rfl rfl ?_
      refine zi_irem 20 dX10_sumOfDivisors_19 (fun e => by rw [nI_0e (by omega)] at e; omega) rfl ?_
      rw [nI_rem (by omega) (by omega)]
      refine zi_if_eq 23 26 dX10_sumOfDivisors_20 (by decide) rfl (fun zzR => ?_) (fun zzR => ?_)
      ·
        rw [nI_0e (sd_m hd hd3)] at zzR
        refine zi_iload_n 27 dX10_sumOfDivisors_26 rfl rfl ?_
        refine zi_iload_n 28 dX10_sumOfDivisors_27 rfl rfl ?_
        refine zi_idiv 29 dX10_sumOfDivisors_28 (fun e => by rw [nI_0e (by omega)] at e; omega) rfl ?_
        rw [nI_div (by omega) (by omega)]
        have hnd := Nat.div_le_self n d
        refine zi_istore (lv' := [(4, _), (3, _), (2, _), (0, _), (1, _)]) 31 dX10_sumOfDivisors_29 rfl rfl rfl ?_
        refine zi_iload_n 32 dX10_sumOfDivisors_31 rfl rfl ?_
        refine zi_iload_n 33 dX10_sumOfDivisors_32 rfl rfl ?_
        refine zi_irem 34 dX10_sumOfDivisors_33 (fun e => by rw [nI_0e (by omega)] at e; omega) rfl ?_
        rw [nI_rem (by omega) (by omega)]
        refine zi_if_eq 37 41 dX10_sumOfDivisors_34 (by decide) rfl (fun zzB => ?_) (fun zzB => ?_)
        ·
          rw [nI_0e (sd_m (N := 0) (by omega) (by omega))] at zzB
          refine zi_iload 43 dX10_sumOfDivisors_41 rfl rfl ?_
          refine zi_iload_n 44 dX10_sumOfDivisors_43 rfl rfl ?_
          refine zi_icmp_eq 47 59 dX10_sumOfDivisors_44 (by decide) rfl (fun zzO => ?_) (fun zzO => ?_)
          ·
            rw [nI_eq (by omega) (by omega)] at zzO
            refine zi_iinc (lv' := [(3, _), (4, _), (2, _), (0, _), (1, _)]) 62 dX10_sumOfDivisors_59 rfl rfl rfl rfl rfl ?_
            refine zi_goto 10 dX10_sumOfDivisors_62 (by decide) ?_
            rw [show nI d + Int32.ofInt 1 = nI (d + 1) from nI_1 d]
            exact zi_lv [0, 2, 3, 4] rfl (ih (d + 1) _ (by omega) (by rw [zSp_s hn hd zzE, ← hS]; (first | rw [if_pos zzR] | rw [if_neg zzR]); (repeat' split) <;> omega) (by omega) zzE)
          ·
            rw [nI_eq (by omega) (by omega)] at zzO
            refine zi_iload 49 dX10_sumOfDivisors_47 rfl rfl ?_
            refine zi_iload_n 50 dX10_sumOfDivisors_49 rfl rfl ?_
            refine zi_irem 51 dX10_sumOfDivisors_50 (fun e => by rw [nI_0e (by omega)] at e; omega) rfl ?_
            rw [nI_rem (by omega) (by omega)]
            refine zi_if_eq 54 59 dX10_sumOfDivisors_51 (by decide) rfl (fun zzC => ?_) (fun zzC => ?_)
            ·
              rw [nI_0e (sd_m (N := 0) (by omega) (by omega))] at zzC
              refine zi_iinc (lv' := [(3, _), (4, _), (2, _), (0, _), (1, _)]) 62 dX10_sumOfDivisors_59 rfl rfl rfl rfl rfl ?_
              refine zi_goto 10 dX10_sumOfDivisors_62 (by decide) ?_
              rw [show nI d + Int32.ofInt 1 = nI (d + 1) from nI_1 d]
              exact zi_lv [0, 2, 3, 4] rfl (ih (d + 1) _ (by omega) (by rw [zSp_s hn hd zzE, ← hS]; (first | rw [if_pos zzR] | rw [if_neg zzR]); (repeat' split) <;> omega) (by omega) zzE)
            ·
              rw [nI_0e (sd_m (N := 0) (by omega) (by omega))] at zzC
              refine zi_iload_n 55 dX10_sumOfDivisors_54 rfl rfl ?_
              refine zi_iload 57 dX10_sumOfDivisors_55 rfl rfl ?_
              refine zi_iadd 58 dX10_sumOfDivisors_57 rfl ?_
              rw [nI_add]
              refine zi_istore_n (lv' := [(2, _), (4, _), (3, _), (0, _), (1, _)]) 59 dX10_sumOfDivisors_58 rfl rfl rfl ?_
              refine zi_iinc (lv' := [(3, _), (2, _), (4, _), (0, _), (1, _)]) 62 dX10_sumOfDivisors_59 rfl rfl rfl rfl rfl ?_
              refine zi_goto 10 dX10_sumOfDivisors_62 (by decide) ?_
              rw [show nI d + Int32.ofInt 1 = nI (d + 1) from nI_1 d]
              exact zi_lv [0, 1, 3, 4] rfl (ih (d + 1) _ (by omega) (by rw [zSp_s hn hd zzE, ← hS]; (first | rw [if_pos zzR] | rw [if_neg zzR]); (repeat' split) <;> omega) (by omega) zzE)
        ·
          rw [nI_0e (sd_m (N := 0) (by omega) (by omega))] at zzB
          refine zi_iload_n 38 dX10_sumOfDivisors_37 rfl rfl ?_
          refine zi_iload_n 39 dX10_sumOfDivisors_38 rfl rfl ?_
          refine zi_iadd 40 dX10_sumOfDivisors_39 rfl ?_
          rw [nI_add]
          refine zi_istore_n (lv' := [(2, _), (4, _), (3, _), (0, _), (1, _)]) 41 dX10_sumOfDivisors_40 rfl rfl rfl ?_
          refine zi_iload 43 dX10_sumOfDivisors_41 rfl rfl ?_
          refine zi_iload_n 44 dX10_sumOfDivisors_43 rfl rfl ?_
          refine zi_icmp_eq 47 59 dX10_sumOfDivisors_44 (by decide) rfl (fun zzO => ?_) (fun zzO => ?_)
          ·
            rw [nI_eq (by omega) (by omega)] at zzO
            refine zi_iinc (lv' := [(3, _), (2, _), (4, _), (0, _), (1, _)]) 62 dX10_sumOfDivisors_59 rfl rfl rfl rfl rfl ?_
            refine zi_goto 10 dX10_sumOfDivisors_62 (by decide) ?_
            rw [show nI d + Int32.ofInt 1 = nI (d + 1) from nI_1 d]
            exact zi_lv [0, 1, 3, 4] rfl (ih (d + 1) _ (by omega) (by rw [zSp_s hn hd zzE, ← hS]; (first | rw [if_pos zzR] | rw [if_neg zzR]); (repeat' split) <;> omega) (by omega) zzE)
          ·
            rw [nI_eq (by omega) (by omega)] at zzO
            refine zi_iload 49 dX10_sumOfDivisors_47 rfl rfl ?_
            refine zi_iload_n 50 dX10_sumOfDivisors_49 rfl rfl ?_
            refine zi_irem 51 dX10_sumOfDivisors_50 (fun e => by rw [nI_0e (by omega)] at e; omega) rfl ?_
            rw [nI_rem (by omega) (by omega)]
            refine zi_if_eq 54 59 dX10_sumOfDivisors_51 (by decide) rfl (fun zzC => ?_) (fun zzC => ?_)
            ·
              rw [nI_0e (sd_m (N := 0) (by omega) (by omega))] at zzC
              refine zi_iinc (lv' := [(3, _), (2, _), (4, _), (0, _), (1, _)]) 62 dX10_sumOfDivisors_59 rfl rfl rfl rfl rfl ?_
              refine zi_goto 10 dX10_sumOfDivisors_62 (by decide) ?_
              rw [show nI d + Int32.ofInt 1 = nI (d + 1) from nI_1 d]
              exact zi_lv [0, 1, 3, 4] rfl (ih (d + 1) _ (by omega) (by rw [zSp_s hn hd zzE, ← hS]; (first | rw [if_pos zzR] | rw [if_neg zzR]); (repeat' split) <;> omega) (by omega) zzE)
            ·
              rw [nI_0e (sd_m (N := 0) (by omega) (by omega))] at zzC
              refine zi_iload_n 55 dX10_sumOfDivisors_54 rfl rfl ?_
              refine zi_iload 57 dX10_sumOfDivisors_55 rfl rfl ?_
              refine zi_iadd 58 dX10_sumOfDivisors_57 rfl ?_
              rw [nI_add]
              refine zi_istore_n (lv' := [(2, _), (4, _), (3, _), (0, _), (1, _)]) 59 dX10_sumOfDivisors_58 rfl rfl rfl ?_
              refine zi_iinc (lv' := [(3, _), (2, _), (4, _), (0, _), (1, _)]) 62 dX10_sumOfDivisors_59 rfl rfl rfl rfl rfl ?_
              refine zi_goto 10 dX10_sumOfDivisors_62 (by decide) ?_
              rw [show nI d + Int32.ofInt 1 = nI (d + 1) from nI_1 d]
              exact zi_lv [0, 1, 3, 4] rfl (ih (d + 1) _ (by omega) (by rw [zSp_s hn hd zzE, ← hS]; (first | rw [if_pos zzR] | rw [if_neg zzR]); (repeat' split) <;> omega) (by omega) zzE)
      ·
        rw [nI_0e (sd_m hd hd3)] at zzR
        refine zi_goto 59 dX10_sumOfDivisors_23 (by decide) ?_
        refine zi_iinc (lv' := [(3, _), (2, _), (0, _), (1, _)]) 62 dX10_sumOfDivisors_59 rfl rfl rfl rfl rfl ?_
        refine zi_goto 10 dX10_sumOfDivisors_62 (by decide) ?_
        rw [show nI d + Int32.ofInt 1 = nI (d + 1) from nI_1 d]
        exact zi_lv [0, 1, 2, 3] rfl (ih (d + 1) _ (by omega) (by rw [zSp_s hn hd zzE, ← hS]; (first | rw [if_pos zzR] | rw [if_neg zzR]); (repeat' split) <;> omega) (by omega) zzE)

set_option maxHeartbeats 4000000 in
set_option maxRecDepth 100000 in
theorem s_X10_sumOfDivisors (B : zBB) (h : zHp) (n b : Nat) (hn : 1 ≤ n) (hn2 : n ≤ 1000000) (hb : 2 ≤ b) (hb2 : b ≤ 1000) : zSpec mX10_sumOfDivisors B (0, 0, 0) [.int (nI n), .int (nI b)] h (zPf (some (.int (nI (zSd n b)))) h) := by
  refine zSpec.of (by decide) (Nat.le_of_ble_eq_true rfl) (fun X hZ => ?_)
  show zG X mX10_sumOfDivisors B (0, 0, 0) (0, 0) 0 [(0, .int (nI n)), (1, .int (nI b))] [] h
  refine zi_iload_n 1 dX10_sumOfDivisors_0 rfl rfl ?_
  refine zi_if_ne 4 6 dX10_sumOfDivisors_1 (by decide) rfl (fun zzb => ?_) (fun zzb => absurd zzb (fun e => by rw [nI_0e (by omega)] at e; omega))
  refine zi_iconst (v := 0) 7 dX10_sumOfDivisors_6 (by decide) rfl ?_
  refine zi_istore_n (lv' := [(2, _), (0, _), (1, _)]) 8 dX10_sumOfDivisors_7 rfl rfl rfl ?_
  refine zi_iconst (v := 1) 9 dX10_sumOfDivisors_8 (by decide) rfl ?_
  refine zi_istore_n (lv' := [(3, _), (2, _), (0, _), (1, _)]) 10 dX10_sumOfDivisors_9 rfl rfl rfl ?_
  exact zi_lv [0, 1, 2, 3] rfl (l_X10_sumOfDivisors B h X n b hn hn2 hb hb2 hZ (n + 1) 1 0 (by omega) (zSp_1 n b).symm (by decide) (Nat.zero_le _))
