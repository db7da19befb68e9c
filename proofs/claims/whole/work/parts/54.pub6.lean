/-! turns: what is answered -/
theorem jl (x : Int32) : x.toInt64 = iz x.toInt := by
  obtain ⟨n, hn, rfl⟩ := jz_of x
  rw [jz_l hn, jz_i hn]
noncomputable def r_table (s : zSt) (p r c w : Int32) : Int64 × zSt := if zOut p 20 ∨ zOut r 3 ∨ zOut c 3 ∨ zOut w 2 then (-1000001, s) else onS (qSl s p.toNatClampNeg) ((-1000010 - 1 : Int32).toInt64, sFd s 1) fun P => if i4q P = 0 then (-1000002, s) else (iz (ltI (tabI P (3 * r.toNatClampNeg + c.toNatClampNeg)) (i4q P) w), sFd s 0)
def trnI (P : i4) (k : Nat) (x y z : Int) : Int := tabI P (3 * k) * x + tabI P (3 * k + 1) * y + tabI P (3 * k + 2) * z
noncomputable def r_turn (s : zSt) (p x y z k w : Int32) : Int64 × zSt := if zOut p 20 ∨ zOut k 3 ∨ zOut w 2 ∨ zTooF x ∨ zTooF y ∨ zTooF z then (-1000001, s) else onS (qSl s p.toNatClampNeg) ((-1000010 - 1 : Int32).toInt64, sFd s 1) fun P => if i4q P = 0 then (-1000002, s) else (iz (ltI (trnI P k.toNatClampNeg x.toInt y.toInt z.toInt) (i4q P) w), sFd s 0)
noncomputable def r_order (s : zSt) (p : Int32) : Int32 × zSt := if zOut p 20 then (-1000001, s) else onS (qSl s p.toNatClampNeg) (-1000010 - 1, sFd s 1) fun P => if i4q P = 0 then (-1000002, s) else (jz (orderI P), sFd s 0)
noncomputable def r_axis (s : zSt) (p k : Int32) : Int32 × zSt := if zOut p 20 ∨ zOut k 3 then (-1000001, s) else onS (qSl s p.toNatClampNeg) (-1000010 - 1, sFd s 1) fun P => if i4q P = 0 then (-1000002, s) else (jz (axI P k.toNatClampNeg), sFd s 0)
abbrev parI (P Q : i4) : Prop := P.1 * Q.2.1 = P.2.1 * Q.1 ∧ P.1 * Q.2.2.1 = P.2.2.1 * Q.1 ∧ P.1 * Q.2.2.2 = P.2.2.2 * Q.1 ∧ P.2.1 * Q.2.2.1 = P.2.2.1 * Q.2.1 ∧ P.2.1 * Q.2.2.2 = P.2.2.2 * Q.2.1 ∧ P.2.2.1 * Q.2.2.2 = P.2.2.2 * Q.2.2.1
theorem pr_e {a b c d : Int} (ha : a.natAbs ≤ 63245) (hb : b.natAbs ≤ 63245) (hc : c.natAbs ≤ 63245) (hd : d.natAbs ≤ 63245) : iz a * iz b = iz c * iz d ↔ a * b = c * d := by
  have h1 := zb_mul ha hb
  have h2 := zb_mul hc hd
  rw [iz_mul, iz_mul, iz_inj (by omega) (by omega)]
theorem par_i {P Q : i4} (hP : i4V P) (hQ : i4V Q) : zPar (z4i P) (z4i Q) ↔ parI P Q := by
  obtain ⟨a1, a2, a3, a4⟩ := zb_63 hP.2
  obtain ⟨b1, b2, b3, b4⟩ := zb_63 hQ.2
  unfold zPar parI
  simp only [z4i]
  rw [pr_e a1 b2 a2 b1, pr_e a1 b3 a3 b1, pr_e a1 b4 a4 b1, pr_e a2 b3 a3 b2, pr_e a2 b4 a4 b2, pr_e a3 b4 a4 b3]
noncomputable def r_alike (s : zSt) (p q : Int32) : Int32 × zSt := if zOut p 20 ∨ zOut q 20 then (-1000001, s) else onS (qSl s p.toNatClampNeg) (-1000010 - 1, sFd s 1) fun P => onS (qSl s q.toNatClampNeg) (-1000010 - 1, sFd s 1) fun Q => if i4q P = 0 ∨ i4q Q = 0 then (-1000002, s) else (if parI P Q then 1 else 0, sFd s 0)
noncomputable def r_index (s : zSt) (p : Int32) : Int32 × zSt := if zOut p 20 then (-1000001, s) else onS (qSl s p.toNatClampNeg) (-1000010 - 1, sFd s 1) fun P => if i4q P = 0 then (-1000002, s) else (nI (idx P), sFd s 0)
abbrev n6 : Type := Nat × Nat × Nat × Nat × Nat × Nat
noncomputable def clT (P : i4) : n6 := @Classical.epsilon n6 ⟨(0, 0, 0, 0, 0, 0)⟩ (fun t => isCl P t.1 t.2.1 t.2.2.1 t.2.2.2.1 t.2.2.2.2.1 t.2.2.2.2.2)
theorem clT_of {P : i4} {a b c d e g : Nat} (h : isCl P a b c d e g) : clT P = (a, b, c, d, e, g) := by
  have h2 := @Classical.epsilon_spec n6 (fun t => isCl P t.1 t.2.1 t.2.2.1 t.2.2.2.1 t.2.2.2.2.1 t.2.2.2.2.2) ⟨(a, b, c, d, e, g), h⟩
  obtain ⟨e1, e2, e3, e4, e5, e6⟩ := isCl_u h2 h
  show clT P = _
  unfold clT
  rw [Prod.ext_iff, Prod.ext_iff, Prod.ext_iff, Prod.ext_iff, Prod.ext_iff]
  exact ⟨e1, e2, e3, e4, e5, e6⟩
abbrev clN (t : n6) (k : Int32) : Int32 := if k = 0 then nI t.1 else if k = 1 then nI t.2.1 else if k = 2 then nI t.2.2.1 else if k = 3 then nI t.2.2.2.1 else if k = 4 then nI t.2.2.2.2.1 else nI t.2.2.2.2.2
noncomputable def r_cell (s : zSt) (p k : Int32) : Int32 × zSt := if zOut p 20 ∨ zOut k 6 then (-1000001, s) else onS (qSl s p.toNatClampNeg) (-1000010 - 1, sFd s 1) fun P => if i4q P = 0 then (-1000002, s) else if 300 < idx P then (-1000003, s) else (clN (clT P) k, sFd s 0)
theorem idx_63 {P : i4} (h : i4V P) : idx P < 2 ^ 63 := Nat.lt_of_le_of_lt (Nat.le_trans (zWf_le _ _ _) (Nat.le_trans (Nat.div_le_self _ _) (Nat.div_le_self _ _))) (nN_63 h)
theorem idx_31 {P : i4} (h : i4V P) : idx P < 2 ^ 31 := Nat.lt_of_le_of_lt (Nat.le_trans (zWf_le _ _ _) (Nat.le_trans (Nat.div_le_self _ _) (Nat.div_le_self _ _))) (nN_31 h)
theorem tooF_b {x : Int32} (h : ¬ zTooF x) : x.toInt.natAbs ≤ 1000 := by
  have h1 : ¬ x < -1000 := fun q => h (Or.inl q)
  have h2 : ¬ 1000 < x := fun q => h (Or.inr q)
  rw [Int32.lt_iff_toInt_lt] at h1 h2
  have e1 : (-1000 : Int32).toInt = -1000 := rfl
  have e2 : (1000 : Int32).toInt = 1000 := rfl
  omega
theorem trn_b {P : i4} (h : i4V P) {k : Nat} {x y z : Int} (hx : x.natAbs ≤ 1000) (hy : y.natAbs ≤ 1000) (hz : z.natAbs ≤ 1000) : (trnI P k x y z).natAbs < 9223372036854775808 := by
  have h1 := zb_mul (tab_b h (3 * k)) hx
  have h2 := zb_mul (tab_b h (3 * k + 1)) hy
  have h3 := zb_mul (tab_b h (3 * k + 2)) hz
  unfold trnI
  omega
theorem trn_z {u : Nat → Int64} {P : i4} (hu : ∀ i, i < 9 → u i = iz (tabI P i)) {k : Nat} (hk : k < 3) {x y z : Int32} : u (3 * k) * x.toInt64 + u (3 * k + 1) * y.toInt64 + u (3 * k + 2) * z.toInt64 = iz (trnI P k x.toInt y.toInt z.toInt) := by
  rw [hu _ (by omega), hu _ (by omega), hu _ (by omega), jl, jl, jl, iz_mul, iz_mul, iz_mul, iz_add, iz_add]
  rfl
theorem i4q_pb {P : i4} (h : i4V P) (h0 : ¬ i4q P = 0) : 0 < i4q P ∧ (i4q P).natAbs < 9223372036854775808 := ⟨zqpos h0, i4q_nb h⟩

set_option maxHeartbeats 4000000 in
set_option maxRecDepth 100000 in
theorem s_X10_table (B : zBB) (h : zHp) (A : Nat → Nat) (hA : zInj A) (s : zSt) (hs0 : okSt s) (hR : zRc B A s h) (p r c w : Int32) : zSpec mX10_table B (3, 0, 0) [.ref (A 0), .int p, .int r, .int c, .int w] h (zPl (fun zx h' => ∃ s' : zSt, r_table s p r c w = (zx, s') ∧ zRc B A s' h' ∧ zOu A h h')) := by
  refine zSpec.of (by decide) (Nat.le_of_ble_eq_true rfl) (fun X hZ => ?_)
  show zG X mX10_table B (3, 0, 0) (0, 0) 0 [(0, .ref (A 0)), (1, .int p), (2, .int r), (3, .int c), (4, .int w)] [] h
  refine zi_iload_n 1 dX10_table_0 rfl rfl ?_
  refine zi_bipush (v := 20) 3 dX10_table_1 (by decide) rfl ?_
  refine zc_static (n' := (0, 0)) (md' := mX10_outside) 6 dX10_table_3 tw_354 zs_X10_outside (s_X10_outside B h _ _) rfl rfl rfl rfl rfl rfl rfl rfl (zk_f ?_)
  refine zb_ne 9 34 dX10_table_6 (by decide) rfl (fun zzA => ?_) (fun zzA => ?_)
  ·
    refine zi_ldc2 37 dX10_table_34 tw_375 rfl ?_
    exact zr_long hZ dX10_table_37 rfl ⟨_, rfl, _, by rw [r_table, if_pos (by first | exact Or.inl zzA | exact Or.inr (Or.inl zzB) | exact Or.inr (Or.inr (Or.inl zzC)) | exact Or.inr (Or.inr (Or.inr (zzD))))], hR, zOu_r _ _⟩
  ·
    refine zi_iload_n 10 dX10_table_9 rfl rfl ?_
    refine zi_iconst (v := 3) 11 dX10_table_10 (by decide) rfl ?_
    refine zc_static (n' := (0, 0)) (md' := mX10_outside) 14 dX10_table_11 tw_354 zs_X10_outside (s_X10_outside B h _ _) rfl rfl rfl rfl rfl rfl rfl rfl (zk_f ?_)
    refine zb_ne 17 34 dX10_table_14 (by decide) rfl (fun zzB => ?_) (fun zzB => ?_)
    ·
      refine zi_ldc2 37 dX10_table_34 tw_375 rfl ?_
      exact zr_long hZ dX10_table_37 rfl ⟨_, rfl, _, by rw [r_table, if_pos (by first | exact Or.inl zzA | exact Or.inr (Or.inl zzB) | exact Or.inr (Or.inr (Or.inl zzC)) | exact Or.inr (Or.inr (Or.inr (zzD))))], hR, zOu_r _ _⟩
    ·
      refine zi_iload_n 18 dX10_table_17 rfl rfl ?_
      refine zi_iconst (v := 3) 19 dX10_table_18 (by decide) rfl ?_
      refine zc_static (n' := (0, 0)) (md' := mX10_outside) 22 dX10_table_19 tw_354 zs_X10_outside (s_X10_outside B h _ _) rfl rfl rfl rfl rfl rfl rfl rfl (zk_f ?_)
      refine zb_ne 25 34 dX10_table_22 (by decide) rfl (fun zzC => ?_) (fun zzC => ?_)
      ·
        refine zi_ldc2 37 dX10_table_34 tw_375 rfl ?_
        exact zr_long hZ dX10_table_37 rfl ⟨_, rfl, _, by rw [r_table, if_pos (by first | exact Or.inl zzA | exact Or.inr (Or.inl zzB) | exact Or.inr (Or.inr (Or.inl zzC)) | exact Or.inr (Or.inr (Or.inr (zzD))))], hR, zOu_r _ _⟩
      ·
        refine zi_iload 27 dX10_table_25 rfl rfl ?_
        refine zi_iconst (v := 2) 28 dX10_table_27 (by decide) rfl ?_
        refine zc_static (n' := (0, 0)) (md' := mX10_outside) 31 dX10_table_28 tw_354 zs_X10_outside (s_X10_outside B h _ _) rfl rfl rfl rfl rfl rfl rfl rfl (zk_f ?_)
        refine zb_eq 34 38 dX10_table_31 (by decide) rfl (fun zzD => ?_) (fun zzD => ?_)
        ·
          have zzO : ¬ (zOut p 20 ∨ zOut r 3 ∨ zOut c 3 ∨ zOut w 2) := fun r => r.elim zzA (fun r => r.elim zzB (fun r => r.elim zzC zzD))
          obtain ⟨pj, hpj, hpj31, rfl⟩ := out_i (N := 20) (by decide) zzA
          obtain ⟨rj, hrj, hrj31, rfl⟩ := out_i (N := 3) (by decide) zzB
          obtain ⟨cj, hcj, hcj31, rfl⟩ := out_i (N := 3) (by decide) zzC
          obtain ⟨lt, ut, ht9, ht19⟩ := hR.2.2.2.2.2.2.2.1
          refine zi_aload_n 39 dX10_table_38 rfl rfl ?_
          refine zi_iload_n 40 dX10_table_39 rfl rfl ?_
          rcases hsP : qSl s pj with _ | P
          ·
            refine zc_virtual (n' := (0, 0)) (md' := mX10_held) 43 dX10_table_40 tw_485 zv_X10_held zcl_X10 (s_X10_heldN B h A hA s hR pj hpj hsP) hR.1 rfl rfl rfl rfl rfl rfl rfl rfl (zk_f ?_)
            refine zi_astoreN (lv' := [(5, _), (0, _), (1, _), (2, _), (3, _), (4, _)]) 45 dX10_table_43 rfl rfl rfl ?_
            refine zi_aloadN 47 dX10_table_45 rfl rfl ?_
            refine zi_ifnonnullN 50 dX10_table_47 rfl ?_
            refine zi_aload_n 51 dX10_table_50 rfl rfl ?_
            refine zi_iconst (v := 1) 52 dX10_table_51 (by decide) rfl ?_
            refine zc_virtual (n' := (0, 0)) (md' := mX10_found) 55 dX10_table_52 tw_358 zv_X10_found zcl_X10 (s_X10_found B h A hA s hR 1) hR.1 rfl rfl rfl rfl rfl rfl rfl rfl (zk_i fun x1 h1 hp1 => ?_)
            obtain ⟨rfl, R1, U1⟩ := hp1
            refine zi_i2l 56 dX10_table_55 rfl ?_
            exact zr_long hZ dX10_table_56 rfl ⟨_, rfl, _, by rw [r_table, if_neg zzO, nI_clamp hpj31, hsP, onS_n], R1, U1⟩
          ·
            have hVP := hs0.1 pj P hsP
            obtain ⟨vP, hvP, hzP⟩ := hR.2.2.2.1 pj hpj
            rw [hzP P hsP] at hvP
            refine zc_virtual (n' := (0, 0)) (md' := mX10_held) 43 dX10_table_40 tw_485 zv_X10_held zcl_X10 (s_X10_heldS B h A hA s hR pj hpj P hsP) hR.1 rfl rfl rfl rfl rfl rfl rfl rfl (zk_f ?_)
            refine zi_astore (lv' := [(5, _), (0, _), (1, _), (2, _), (3, _), (4, _)]) 45 dX10_table_43 rfl rfl rfl ?_
            refine zi_aload 47 dX10_table_45 rfl rfl ?_
            refine zi_ifnonnull 57 dX10_table_47 (by decide) ?_
            refine zi_aload 59 dX10_table_57 rfl rfl ?_
            refine zc_virtual (n' := (0, 0)) (md' := mX4_isZero) 62 dX10_table_59 tw_451 zv_X4_isZero zcl_X4 (s_X4_isZero B h (A (38 + pj)) _ hvP) hvP rfl rfl rfl rfl rfl rfl rfl rfl (zk_f ?_)
            refine zb_eq 65 69 dX10_table_62 (by decide) rfl (fun zzZ => ?_) (fun zzZ => ?_)
            ·
              rw [z4i_nil (zb_63 hVP.2)] at zzZ
              obtain ⟨hq0, hqb⟩ := i4q_pb hVP zzZ
              refine zi_aload_n 70 dX10_table_69 rfl rfl ?_
              refine zi_getfield 73 9 dX10_table_70 zcl_X10 tw_319 rfl rfl hR.1 rfl rfl ?_
              refine zi_aload 75 dX10_table_73 rfl rfl ?_
              refine zc_virtual (n' := (0, 0)) (md' := mX8_fill) 78 dX10_table_75 tw_762 zv_X8_fill zcl_X8 (s_X8_fill B h (A 9) (A 19) lt ut ht9 ht19 (A (38 + pj)) _ hvP) ht9 rfl rfl rfl rfl rfl rfl rfl rfl (zk_v fun h1 hp1 => ?_)
              obtain ⟨u, hq, hu⟩ := hp1
              rw [z4i_sq] at hq
              obtain ⟨R1, m9, m19, U1⟩ := zRc_9 hA hR hq
              have hu2 : ∀ i, i < 9 → u i = iz (tabI P i) := fun i hi => (hu i hi).trans (tabZ_i P i)
              refine zi_aload_n 79 dX10_table_78 rfl rfl ?_
              refine zi_iconst (v := 0) 80 dX10_table_79 (by decide) rfl ?_
              refine zi_putfield (fs' := [_, _, _, _, _, _, _, _, _, _, _, _, _]) 83 12 dX10_table_80 zcl_X10 tyX10 tyX10_ok nmX10 tw_322 rfl rfl rfl R1.1 rfl rfl rfl rfl rfl rfl ?_
              refine zk_h (fun h2 k2 => ?_)
              have R2 : zRc B A (sFd s 0) h2 := by rw [k2]; exact zRc_fd hA 0 R1
              have U2 : zOu A h1 h2 := zOu_u k2 (by decide)
              have n9 := zX1 k2 (hA.ne (i := 9) (by decide)) m9
              have n19 := zX1 k2 (hA.ne (i := 19) (by decide)) m19
              refine zi_aload_n 84 dX10_table_83 rfl rfl ?_
              refine zi_getfield 87 9 dX10_table_84 zcl_X10 tw_319 rfl rfl R2.1 rfl rfl ?_
              refine zi_iload_n 88 dX10_table_87 rfl rfl ?_
              refine zi_iload_n 89 dX10_table_88 rfl rfl ?_
              refine zc_virtual (n' := (0, 0)) (md' := mX8_upper) 92 dX10_table_89 tw_768 zv_X8_upper zcl_X8 (s_X8_upper B h2 (A 9) (A 19) _ u n9 n19 rj cj hrj hcj) n9 rfl rfl rfl rfl rfl rfl rfl rfl (zk_f ?_)
              rw [hu2 _ (by omega)]
              refine zi_aload_n 93 dX10_table_92 rfl rfl ?_
              refine zi_getfield 96 9 dX10_table_93 zcl_X10 tw_319 rfl rfl R2.1 rfl rfl ?_
              refine zi_getfield 99 0 dX10_table_96 zcl_X8 tw_260 rfl rfl n9 rfl rfl ?_
              refine zi_iload 101 dX10_table_99 rfl rfl ?_
              refine zc_static (n' := (0, 0)) (md' := mX10_inLeastTerms) 104 dX10_table_101 tw_773 zs_X10_inLeastTerms (s_X10_inLeastTerms B h2 _ _ w hq0 (Nat.lt_of_le_of_lt (tab_b hVP _) (by decide)) hqb) rfl rfl rfl rfl rfl rfl rfl rfl (zk_f ?_)
              exact zr_long hZ dX10_table_104 rfl ⟨_, rfl, _, by rw [r_table, if_neg zzO, nI_clamp hpj31, hsP, onS_s, if_neg zzZ, nI_clamp hrj31, nI_clamp hcj31], R2, zOu_t U1 U2⟩
            ·
              rw [z4i_nil (zb_63 hVP.2)] at zzZ
              refine zi_ldc2 68 dX10_table_65 tw_761 rfl ?_
              exact zr_long hZ dX10_table_68 rfl ⟨_, rfl, _, by rw [r_table, if_neg zzO, nI_clamp hpj31, hsP, onS_s, if_pos zzZ], hR, zOu_r _ _⟩
        ·
          refine zi_ldc2 37 dX10_table_34 tw_375 rfl ?_
          exact zr_long hZ dX10_table_37 rfl ⟨_, rfl, _, by rw [r_table, if_pos (by first | exact Or.inl zzA | exact Or.inr (Or.inl zzB) | exact Or.inr (Or.inr (Or.inl zzC)) | exact Or.inr (Or.inr (Or.inr (zzD))))], hR, zOu_r _ _⟩

set_option maxHeartbeats 4000000 in
set_option maxRecDepth 100000 in
theorem s_X10_turn (B : zBB) (h : zHp) (A : Nat → Nat) (hA : zInj A) (s : zSt) (hs0 : okSt s) (hR : zRc B A s h) (p x y z k w : Int32) : zSpec mX10_turn B (3, 0, 0) [.ref (A 0), .int p, .int x, .int y, .int z, .int k, .int w] h (zPl (fun zx h' => ∃ s' : zSt, r_turn s p x y z k w = (zx, s') ∧ zRc B A s' h' ∧ zOu A h h')) := by
  refine zSpec.of (by decide) (Nat.le_of_ble_eq_true rfl) (fun X hZ => ?_)
  show zG X mX10_turn B (3, 0, 0) (0, 0) 0 [(0, .ref (A 0)), (1, .int p), (2, .int x), (3, .int y), (4, .int z), (5, .int k), (6, .int w)] [] h
  refine zi_iload_n 1 dX10_turn_0 rfl rfl ?_
  refine zi_bipush (v := 20) 3 dX10_turn_1 (by decide) rfl ?_
  refine zc_static (n' := (0, 0)) (md' := mX10_outside) 6 dX10_turn_3 tw_354 zs_X10_outside (s_X10_outside B h _ _) rfl rfl rfl rfl rfl rfl rfl rfl (zk_f ?_)
  refine zb_ne 9 27 dX10_turn_6 (by decide) rfl (fun zzA => ?_) (fun zzA => ?_)
  ·
    refine zi_ldc2 30 dX10_turn_27 tw_375 rfl ?_
    exact zr_long hZ dX10_turn_30 rfl ⟨_, rfl, _, by rw [r_turn, if_pos (by first | exact Or.inl zzA | exact Or.inr (Or.inl zzB) | exact Or.inr (Or.inr (Or.inl zzC)) | exact Or.inr (Or.inr (Or.inr (Or.inl zzD))) | exact Or.inr (Or.inr (Or.inr (Or.inr (Or.inl zzE)))) | exact Or.inr (Or.inr (Or.inr (Or.inr (Or.inr (zzF))))))], hR, zOu_r _ _⟩
  ·
    refine zi_iload 11 dX10_turn_9 rfl rfl ?_
    refine zi_iconst (v := 3) 12 dX10_turn_11 (by decide) rfl ?_
    refine zc_static (n' := (0, 0)) (md' := mX10_outside) 15 dX10_turn_12 tw_354 zs_X10_outside (s_X10_outside B h _ _) rfl rfl rfl rfl rfl rfl rfl rfl (zk_f ?_)
    refine zb_ne 18 27 dX10_turn_15 (by decide) rfl (fun zzB => ?_) (fun zzB => ?_)
    ·
      refine zi_ldc2 30 dX10_turn_27 tw_375 rfl ?_
      exact zr_long hZ dX10_turn_30 rfl ⟨_, rfl, _, by rw [r_turn, if_pos (by first | exact Or.inl zzA | exact Or.inr (Or.inl zzB) | exact Or.inr (Or.inr (Or.inl zzC)) | exact Or.inr (Or.inr (Or.inr (Or.inl zzD))) | exact Or.inr (Or.inr (Or.inr (Or.inr (Or.inl zzE)))) | exact Or.inr (Or.inr (Or.inr (Or.inr (Or.inr (zzF))))))], hR, zOu_r _ _⟩
    ·
      refine zi_iload 20 dX10_turn_18 rfl rfl ?_
      refine zi_iconst (v := 2) 21 dX10_turn_20 (by decide) rfl ?_
      refine zc_static (n' := (0, 0)) (md' := mX10_outside) 24 dX10_turn_21 tw_354 zs_X10_outside (s_X10_outside B h _ _) rfl rfl rfl rfl rfl rfl rfl rfl (zk_f ?_)
      refine zb_eq 27 31 dX10_turn_24 (by decide) rfl (fun zzC => ?_) (fun zzC => ?_)
      ·
        refine zi_iload_n 32 dX10_turn_31 rfl rfl ?_
        refine zc_static (n' := (0, 0)) (md' := mX10_tooFar) 35 dX10_turn_32 tw_781 zs_X10_tooFar (s_X10_tooFar B h _) rfl rfl rfl rfl rfl rfl rfl rfl (zk_f ?_)
        refine zb_ne 38 53 dX10_turn_35 (by decide) rfl (fun zzD => ?_) (fun zzD => ?_)
        ·
          refine zi_ldc2 56 dX10_turn_53 tw_375 rfl ?_
          exact zr_long hZ dX10_turn_56 rfl ⟨_, rfl, _, by rw [r_turn, if_pos (by first | exact Or.inl zzA | exact Or.inr (Or.inl zzB) | exact Or.inr (Or.inr (Or.inl zzC)) | exact Or.inr (Or.inr (Or.inr (Or.inl zzD))) | exact Or.inr (Or.inr (Or.inr (Or.inr (Or.inl zzE)))) | exact Or.inr (Or.inr (Or.inr (Or.inr (Or.inr (zzF))))))], hR, zOu_r _ _⟩
        ·
          refine zi_iload_n 39 dX10_turn_38 rfl rfl ?_
          refine zc_static (n' := (0, 0)) (md' := mX10_tooFar) 42 dX10_turn_39 tw_781 zs_X10_tooFar (s_X10_tooFar B h _) rfl rfl rfl rfl rfl rfl rfl rfl (zk_f ?_)
          refine zb_ne 45 53 dX10_turn_42 (by decide) rfl (fun zzE => ?_) (fun zzE => ?_)
          ·
            refine zi_ldc2 56 dX10_turn_53 tw_375 rfl ?_
            exact zr_long hZ dX10_turn_56 rfl ⟨_, rfl, _, by rw [r_turn, if_pos (by first | exact Or.inl zzA | exact Or.inr (Or.inl zzB) | exact Or.inr (Or.inr (Or.inl zzC)) | exact Or.inr (Or.inr (Or.inr (Or.inl zzD))) | exact Or.inr (Or.inr (Or.inr (Or.inr (Or.inl zzE)))) | exact Or.inr (Or.inr (Or.inr (Or.inr (Or.inr (zzF))))))], hR, zOu_r _ _⟩
          ·
            refine zi_iload 47 dX10_turn_45 rfl rfl ?_
            refine zc_static (n' := (0, 0)) (md' := mX10_tooFar) 50 dX10_turn_47 tw_781 zs_X10_tooFar (s_X10_tooFar B h _) rfl rfl rfl rfl rfl rfl rfl rfl (zk_f ?_)
            refine zb_eq 53 57 dX10_turn_50 (by decide) rfl (fun zzF => ?_) (fun zzF => ?_)
            ·
              have zzO : ¬ (zOut p 20 ∨ zOut k 3 ∨ zOut w 2 ∨ zTooF x ∨ zTooF y ∨ zTooF z) := fun r => r.elim zzA (fun r => r.elim zzB (fun r => r.elim zzC (fun r => r.elim zzD (fun r => r.elim zzE zzF))))
              obtain ⟨pj, hpj, hpj31, rfl⟩ := out_i (N := 20) (by decide) zzA
              obtain ⟨kj, hkj, hkj31, rfl⟩ := out_i (N := 3) (by decide) zzB
              obtain ⟨lt, ut, ht9, ht19⟩ := hR.2.2.2.2.2.2.2.1
              refine zi_aload_n 58 dX10_turn_57 rfl rfl ?_
              refine zi_iload_n 59 dX10_turn_58 rfl rfl ?_
              rcases hsP : qSl s pj with _ | P
              ·
                refine zc_virtual (n' := (0, 0)) (md' := mX10_held) 62 dX10_turn_59 tw_485 zv_X10_held zcl_X10 (s_X10_heldN B h A hA s hR pj hpj hsP) hR.1 rfl rfl rfl rfl rfl rfl rfl rfl (zk_f ?_)
                refine zi_astoreN (lv' := [(7, _), (0, _), (1, _), (2, _), (3, _), (4, _), (5, _), (6, _)]) 64 dX10_turn_62 rfl rfl rfl ?_
                refine zi_aloadN 66 dX10_turn_64 rfl rfl ?_
                refine zi_ifnonnullN 69 dX10_turn_66 rfl ?_
                refine zi_aload_n 70 dX10_turn_69 rfl rfl ?_
                refine zi_iconst (v := 1) 71 dX10_turn_70 (by decide) rfl ?_
                refine zc_virtual (n' := (0, 0)) (md' := mX10_found) 74 dX10_turn_71 tw_358 zv_X10_found zcl_X10 (s_X10_found B h A hA s hR 1) hR.1 rfl rfl rfl rfl rfl rfl rfl rfl (zk_i fun x1 h1 hp1 => ?_)
                obtain ⟨rfl, R1, U1⟩ := hp1
                refine zi_i2l 75 dX10_turn_74 rfl ?_
                exact zr_long hZ dX10_turn_75 rfl ⟨_, rfl, _, by rw [r_turn, if_neg zzO, nI_clamp hpj31, hsP, onS_n], R1, U1⟩
              ·
                have hVP := hs0.1 pj P hsP
                obtain ⟨vP, hvP, hzP⟩ := hR.2.2.2.1 pj hpj
                rw [hzP P hsP] at hvP
                refine zc_virtual (n' := (0, 0)) (md' := mX10_held) 62 dX10_turn_59 tw_485 zv_X10_held zcl_X10 (s_X10_heldS B h A hA s hR pj hpj P hsP) hR.1 rfl rfl rfl rfl rfl rfl rfl rfl (zk_f ?_)
                refine zi_astore (lv' := [(7, _), (0, _), (1, _), (2, _), (3, _), (4, _), (5, _), (6, _)]) 64 dX10_turn_62 rfl rfl rfl ?_
                refine zi_aload 66 dX10_turn_64 rfl rfl ?_
                refine zi_ifnonnull 76 dX10_turn_66 (by decide) ?_
                refine zi_aload 78 dX10_turn_76 rfl rfl ?_
                refine zc_virtual (n' := (0, 0)) (md' := mX4_isZero) 81 dX10_turn_78 tw_451 zv_X4_isZero zcl_X4 (s_X4_isZero B h (A (38 + pj)) _ hvP) hvP rfl rfl rfl rfl rfl rfl rfl rfl (zk_f ?_)
                refine zb_eq 84 88 dX10_turn_81 (by decide) rfl (fun zzZ => ?_) (fun zzZ => ?_)
                ·
                  rw [z4i_nil (zb_63 hVP.2)] at zzZ
                  obtain ⟨hq0, hqb⟩ := i4q_pb hVP zzZ
                  refine zi_aload_n 89 dX10_turn_88 rfl rfl ?_
                  refine zi_getfield 92 9 dX10_turn_89 zcl_X10 tw_319 rfl rfl hR.1 rfl rfl ?_
                  refine zi_aload 94 dX10_turn_92 rfl rfl ?_
                  refine zc_virtual (n' := (0, 0)) (md' := mX8_fill) 97 dX10_turn_94 tw_762 zv_X8_fill zcl_X8 (s_X8_fill B h (A 9) (A 19) lt ut ht9 ht19 (A (38 + pj)) _ hvP) ht9 rfl rfl rfl rfl rfl rfl rfl rfl (zk_v fun h1 hp1 => ?_)
                  obtain ⟨u, hq, hu⟩ := hp1
                  rw [z4i_sq] at hq
                  obtain ⟨R1, m9, m19, U1⟩ := zRc_9 hA hR hq
                  have hu2 : ∀ i, i < 9 → u i = iz (tabI P i) := fun i hi => (hu i hi).trans (tabZ_i P i)
                  refine zi_aload_n 98 dX10_turn_97 rfl rfl ?_
                  refine zi_iconst (v := 0) 99 dX10_turn_98 (by decide) rfl ?_
                  refine zi_putfield (fs' := [_, _, _, _, _, _, _, _, _, _, _, _, _]) 102 12 dX10_turn_99 zcl_X10 tyX10 tyX10_ok nmX10 tw_322 rfl rfl rfl R1.1 rfl rfl rfl rfl rfl rfl ?_
                  refine zk_h (fun h2 k2 => ?_)
                  have R2 : zRc B A (sFd s 0) h2 := by rw [k2]; exact zRc_fd hA 0 R1
                  have U2 : zOu A h1 h2 := zOu_u k2 (by decide)
                  have n9 := zX1 k2 (hA.ne (i := 9) (by decide)) m9
                  have n19 := zX1 k2 (hA.ne (i := 19) (by decide)) m19
                  refine zi_aload_n 103 dX10_turn_102 rfl rfl ?_
                  refine zi_getfield 106 9 dX10_turn_103 zcl_X10 tw_319 rfl rfl R2.1 rfl rfl ?_
                  refine zi_iload_n 107 dX10_turn_106 rfl rfl ?_
                  refine zi_i2l 108 dX10_turn_107 rfl ?_
                  refine zi_iload_n 109 dX10_turn_108 rfl rfl ?_
                  refine zi_i2l 110 dX10_turn_109 rfl ?_
                  refine zi_iload 112 dX10_turn_110 rfl rfl ?_
                  refine zi_i2l 113 dX10_turn_112 rfl ?_
                  refine zi_iload 115 dX10_turn_113 rfl rfl ?_
                  refine zc_virtual (n' := (0, 0)) (md' := mX8_turned) 118 dX10_turn_115 tw_784 zv_X8_turned zcl_X8 (s_X8_turned B h2 (A 9) (A 19) _ u n9 n19 x.toInt64 y.toInt64 z.toInt64 kj hkj) n9 rfl rfl rfl rfl rfl rfl rfl rfl (zk_f ?_)
                  rw [trn_z hu2 hkj]
                  refine zi_aload_n 119 dX10_turn_118 rfl rfl ?_
                  refine zi_getfield 122 9 dX10_turn_119 zcl_X10 tw_319 rfl rfl R2.1 rfl rfl ?_
                  refine zi_getfield 125 0 dX10_turn_122 zcl_X8 tw_260 rfl rfl n9 rfl rfl ?_
                  refine zi_iload 127 dX10_turn_125 rfl rfl ?_
                  refine zc_static (n' := (0, 0)) (md' := mX10_inLeastTerms) 130 dX10_turn_127 tw_773 zs_X10_inLeastTerms (s_X10_inLeastTerms B h2 _ _ w hq0 (trn_b hVP (tooF_b zzD) (tooF_b zzE) (tooF_b zzF)) hqb) rfl rfl rfl rfl rfl rfl rfl rfl (zk_f ?_)
                  exact zr_long hZ dX10_turn_130 rfl ⟨_, rfl, _, by rw [r_turn, if_neg zzO, nI_clamp hpj31, hsP, onS_s, if_neg zzZ, nI_clamp hkj31], R2, zOu_t U1 U2⟩
                ·
                  rw [z4i_nil (zb_63 hVP.2)] at zzZ
                  refine zi_ldc2 87 dX10_turn_84 tw_761 rfl ?_
                  exact zr_long hZ dX10_turn_87 rfl ⟨_, rfl, _, by rw [r_turn, if_neg zzO, nI_clamp hpj31, hsP, onS_s, if_pos zzZ], hR, zOu_r _ _⟩
            ·
              refine zi_ldc2 56 dX10_turn_53 tw_375 rfl ?_
              exact zr_long hZ dX10_turn_56 rfl ⟨_, rfl, _, by rw [r_turn, if_pos (by first | exact Or.inl zzA | exact Or.inr (Or.inl zzB) | exact Or.inr (Or.inr (Or.inl zzC)) | exact Or.inr (Or.inr (Or.inr (Or.inl zzD))) | exact Or.inr (Or.inr (Or.inr (Or.inr (Or.inl zzE)))) | exact Or.inr (Or.inr (Or.inr (Or.inr (Or.inr (zzF))))))], hR, zOu_r _ _⟩
      ·
        refine zi_ldc2 30 dX10_turn_27 tw_375 rfl ?_
        exact zr_long hZ dX10_turn_30 rfl ⟨_, rfl, _, by rw [r_turn, if_pos (by first | exact Or.inl zzA | exact Or.inr (Or.inl zzB) | exact Or.inr (Or.inr (Or.inl zzC)) | exact Or.inr (Or.inr (Or.inr (Or.inl zzD))) | exact Or.inr (Or.inr (Or.inr (Or.inr (Or.inl zzE)))) | exact Or.inr (Or.inr (Or.inr (Or.inr (Or.inr (zzF))))))], hR, zOu_r _ _⟩

set_option maxHeartbeats 4000000 in
set_option maxRecDepth 100000 in
theorem s_X10_order (B : zBB) (h : zHp) (A : Nat → Nat) (hA : zInj A) (s : zSt) (hs0 : okSt s) (hR : zRc B A s h) (p : Int32) : zSpec mX10_order B (2, 0, 0) [.ref (A 0), .int p] h (zPi (fun zx h' => ∃ s' : zSt, r_order s p = (zx, s') ∧ zRc B A s' h' ∧ zOu A h h')) := by
  refine zSpec.of (by decide) (Nat.le_of_ble_eq_true rfl) (fun X hZ => ?_)
  show zG X mX10_order B (2, 0, 0) (0, 0) 0 [(0, .ref (A 0)), (1, .int p)] [] h
  refine zi_iload_n 1 dX10_order_0 rfl rfl ?_
  refine zi_bipush (v := 20) 3 dX10_order_1 (by decide) rfl ?_
  refine zc_static (n' := (0, 0)) (md' := mX10_outside) 6 dX10_order_3 tw_354 zs_X10_outside (s_X10_outside B h _ _) rfl rfl rfl rfl rfl rfl rfl rfl (zk_f ?_)
  refine zb_eq 9 12 dX10_order_6 (by decide) rfl (fun zzA => ?_) (fun zzA => ?_)
  ·
    have zzO : ¬ (zOut p 20) := zzA
    obtain ⟨pj, hpj, hpj31, rfl⟩ := out_i (N := 20) (by decide) zzA
    refine zi_aload_n 13 dX10_order_12 rfl rfl ?_
    refine zi_iload_n 14 dX10_order_13 rfl rfl ?_
    rcases hsP : qSl s pj with _ | P
    ·
      refine zc_virtual (n' := (0, 0)) (md' := mX10_held) 17 dX10_order_14 tw_485 zv_X10_held zcl_X10 (s_X10_heldN B h A hA s hR pj hpj hsP) hR.1 rfl rfl rfl rfl rfl rfl rfl rfl (zk_f ?_)
      refine zi_astore_nN (lv' := [(2, _), (0, _), (1, _)]) 18 dX10_order_17 rfl rfl rfl ?_
      refine zi_aload_nN 19 dX10_order_18 rfl rfl ?_
      refine zi_ifnonnullN 22 dX10_order_19 rfl ?_
      refine zi_aload_n 23 dX10_order_22 rfl rfl ?_
      refine zi_iconst (v := 1) 24 dX10_order_23 (by decide) rfl ?_
      refine zc_virtual (n' := (0, 0)) (md' := mX10_found) 27 dX10_order_24 tw_358 zv_X10_found zcl_X10 (s_X10_found B h A hA s hR 1) hR.1 rfl rfl rfl rfl rfl rfl rfl rfl (zk_i fun x1 h1 hp1 => ?_)
      obtain ⟨rfl, R1, U1⟩ := hp1
      exact zr_int hZ dX10_order_27 rfl rfl ⟨_, rfl, _, by rw [r_order, if_neg zzO, nI_clamp hpj31, hsP, onS_n], R1, U1⟩
    ·
      have hVP := hs0.1 pj P hsP
      obtain ⟨vP, hvP, hzP⟩ := hR.2.2.2.1 pj hpj
      rw [hzP P hsP] at hvP
      refine zc_virtual (n' := (0, 0)) (md' := mX10_held) 17 dX10_order_14 tw_485 zv_X10_held zcl_X10 (s_X10_heldS B h A hA s hR pj hpj P hsP) hR.1 rfl rfl rfl rfl rfl rfl rfl rfl (zk_f ?_)
      refine zi_astore_n (lv' := [(2, _), (0, _), (1, _)]) 18 dX10_order_17 rfl rfl rfl ?_
      refine zi_aload_n 19 dX10_order_18 rfl rfl ?_
      refine zi_ifnonnull 28 dX10_order_19 (by decide) ?_
      refine zi_aload_n 29 dX10_order_28 rfl rfl ?_
      refine zc_virtual (n' := (0, 0)) (md' := mX4_isZero) 32 dX10_order_29 tw_451 zv_X4_isZero zcl_X4 (s_X4_isZero B h (A (38 + pj)) _ hvP) hvP rfl rfl rfl rfl rfl rfl rfl rfl (zk_f ?_)
      refine zb_eq 35 38 dX10_order_32 (by decide) rfl (fun zzZ => ?_) (fun zzZ => ?_)
      ·
        rw [z4i_nil (zb_63 hVP.2)] at zzZ
        refine zi_aload_n 39 dX10_order_38 rfl rfl ?_
        refine zi_aload_n 40 dX10_order_39 rfl rfl ?_
        refine zc_static (n' := (0, 0)) (md' := mX10_orderOf) 43 dX10_order_40 tw_793 zs_X10_orderOf (s_X10_orderOf B h (A (38 + pj)) P hVP hvP) rfl rfl rfl rfl rfl rfl rfl rfl (zk_f ?_)
        refine zc_virtual (n' := (0, 0)) (md' := mX10_answered) 46 dX10_order_43 tw_367 zv_X10_answered zcl_X10 (s_X10_answered B h A hA s hR _) hR.1 rfl rfl rfl rfl rfl rfl rfl rfl (zk_i fun x9 h9 hp9 => ?_)
        obtain ⟨rfl, R9, U9⟩ := hp9
        exact zr_int hZ dX10_order_46 rfl rfl ⟨_, rfl, _, by rw [r_order, if_neg zzO, nI_clamp hpj31, hsP, onS_s, if_neg zzZ], R9, U9⟩
      ·
        rw [z4i_nil (zb_63 hVP.2)] at zzZ
        refine zi_ldc 37 dX10_order_35 tw_619 rfl ?_
        exact zr_int hZ dX10_order_37 rfl rfl ⟨_, rfl, _, by rw [r_order, if_neg zzO, nI_clamp hpj31, hsP, onS_s, if_pos zzZ], hR, zOu_r _ _⟩
  ·
    refine zi_ldc 11 dX10_order_9 tw_357 rfl ?_
    exact zr_int hZ dX10_order_11 rfl rfl ⟨_, rfl, _, by rw [r_order, if_pos (by first | exact zzA)], hR, zOu_r _ _⟩

set_option maxHeartbeats 4000000 in
set_option maxRecDepth 100000 in
theorem s_X10_index (B : zBB) (h : zHp) (A : Nat → Nat) (hA : zInj A) (s : zSt) (hs0 : okSt s) (hR : zRc B A s h) (p : Int32) : zSpec mX10_index B (5, 0, 0) [.ref (A 0), .int p] h (zPi (fun zx h' => ∃ s' : zSt, r_index s p = (zx, s') ∧ zRc B A s' h' ∧ zOu A h h')) := by
  refine zSpec.of (by decide) (Nat.le_of_ble_eq_true rfl) (fun X hZ => ?_)
  show zG X mX10_index B (5, 0, 0) (0, 0) 0 [(0, .ref (A 0)), (1, .int p)] [] h
  refine zi_iload_n 1 dX10_index_0 rfl rfl ?_
  refine zi_bipush (v := 20) 3 dX10_index_1 (by decide) rfl ?_
  refine zc_static (n' := (0, 0)) (md' := mX10_outside) 6 dX10_index_3 tw_354 zs_X10_outside (s_X10_outside B h _ _) rfl rfl rfl rfl rfl rfl rfl rfl (zk_f ?_)
  refine zb_eq 9 12 dX10_index_6 (by decide) rfl (fun zzA => ?_) (fun zzA => ?_)
  ·
    have zzO : ¬ (zOut p 20) := zzA
    obtain ⟨pj, hpj, hpj31, rfl⟩ := out_i (N := 20) (by decide) zzA
    refine zi_aload_n 13 dX10_index_12 rfl rfl ?_
    refine zi_iload_n 14 dX10_index_13 rfl rfl ?_
    rcases hsP : qSl s pj with _ | P
    ·
      refine zc_virtual (n' := (0, 0)) (md' := mX10_held) 17 dX10_index_14 tw_485 zv_X10_held zcl_X10 (s_X10_heldN B h A hA s hR pj hpj hsP) hR.1 rfl rfl rfl rfl rfl rfl rfl rfl (zk_f ?_)
      refine zi_astore_nN (lv' := [(2, _), (0, _), (1, _)]) 18 dX10_index_17 rfl rfl rfl ?_
      refine zi_aload_nN 19 dX10_index_18 rfl rfl ?_
      refine zi_ifnonnullN 22 dX10_index_19 rfl ?_
      refine zi_aload_n 23 dX10_index_22 rfl rfl ?_
      refine zi_iconst (v := 1) 24 dX10_index_23 (by decide) rfl ?_
      refine zc_virtual (n' := (0, 0)) (md' := mX10_found) 27 dX10_index_24 tw_358 zv_X10_found zcl_X10 (s_X10_found B h A hA s hR 1) hR.1 rfl rfl rfl rfl rfl rfl rfl rfl (zk_i fun x1 h1 hp1 => ?_)
      obtain ⟨rfl, R1, U1⟩ := hp1
      exact zr_int hZ dX10_index_27 rfl rfl ⟨_, rfl, _, by rw [r_index, if_neg zzO, nI_clamp hpj31, hsP, onS_n], R1, U1⟩
    ·
      have hVP := hs0.1 pj P hsP
      obtain ⟨vP, hvP, hzP⟩ := hR.2.2.2.1 pj hpj
      rw [hzP P hsP] at hvP
      refine zc_virtual (n' := (0, 0)) (md' := mX10_held) 17 dX10_index_14 tw_485 zv_X10_held zcl_X10 (s_X10_heldS B h A hA s hR pj hpj P hsP) hR.1 rfl rfl rfl rfl rfl rfl rfl rfl (zk_f ?_)
      refine zi_astore_n (lv' := [(2, _), (0, _), (1, _)]) 18 dX10_index_17 rfl rfl rfl ?_
      refine zi_aload_n 19 dX10_index_18 rfl rfl ?_
      refine zi_ifnonnull 28 dX10_index_19 (by decide) ?_
      refine zi_aload_n 29 dX10_index_28 rfl rfl ?_
      refine zc_virtual (n' := (0, 0)) (md' := mX4_isZero) 32 dX10_index_29 tw_451 zv_X4_isZero zcl_X4 (s_X4_isZero B h (A (38 + pj)) _ hvP) hvP rfl rfl rfl rfl rfl rfl rfl rfl (zk_f ?_)
      refine zb_eq 35 38 dX10_index_32 (by decide) rfl (fun zzZ => ?_) (fun zzZ => ?_)
      ·
        rw [z4i_nil (zb_63 hVP.2)] at zzZ
        refine zi_aload_n 39 dX10_index_38 rfl rfl ?_
        refine zi_aload_n 40 dX10_index_39 rfl rfl ?_
        refine zc_virtual (n' := (0, 0)) (md' := mX4_ownIndex) 43 dX10_index_40 tw_817 zv_X4_ownIndex zcl_X4 (s_X4_ownIndex B h (A (38 + pj)) P hVP hvP zzZ) hvP rfl rfl rfl rfl rfl rfl rfl rfl (zk_f ?_)
        refine zi_l2i 44 dX10_index_43 rfl ?_
        rw [lN_i]
        refine zc_virtual (n' := (0, 0)) (md' := mX10_answered) 47 dX10_index_44 tw_367 zv_X10_answered zcl_X10 (s_X10_answered B h A hA s hR _) hR.1 rfl rfl rfl rfl rfl rfl rfl rfl (zk_i fun x9 h9 hp9 => ?_)
        obtain ⟨rfl, R9, U9⟩ := hp9
        exact zr_int hZ dX10_index_47 rfl rfl ⟨_, rfl, _, by rw [r_index, if_neg zzO, nI_clamp hpj31, hsP, onS_s, if_neg zzZ], R9, U9⟩
      ·
        rw [z4i_nil (zb_63 hVP.2)] at zzZ
        refine zi_ldc 37 dX10_index_35 tw_619 rfl ?_
        exact zr_int hZ dX10_index_37 rfl rfl ⟨_, rfl, _, by rw [r_index, if_neg zzO, nI_clamp hpj31, hsP, onS_s, if_pos zzZ], hR, zOu_r _ _⟩
  ·
    refine zi_ldc 11 dX10_index_9 tw_357 rfl ?_
    exact zr_int hZ dX10_index_11 rfl rfl ⟨_, rfl, _, by rw [r_index, if_pos (by first | exact zzA)], hR, zOu_r _ _⟩

set_option maxHeartbeats 4000000 in
set_option maxRecDepth 100000 in
theorem s_X10_axis (B : zBB) (h : zHp) (A : Nat → Nat) (hA : zInj A) (s : zSt) (hs0 : okSt s) (hR : zRc B A s h) (p k : Int32) : zSpec mX10_axis B (3, 0, 0) [.ref (A 0), .int p, .int k] h (zPi (fun zx h' => ∃ s' : zSt, r_axis s p k = (zx, s') ∧ zRc B A s' h' ∧ zOu A h h')) := by
  refine zSpec.of (by decide) (Nat.le_of_ble_eq_true rfl) (fun X hZ => ?_)
  show zG X mX10_axis B (3, 0, 0) (0, 0) 0 [(0, .ref (A 0)), (1, .int p), (2, .int k)] [] h
  refine zi_iload_n 1 dX10_axis_0 rfl rfl ?_
  refine zi_bipush (v := 20) 3 dX10_axis_1 (by decide) rfl ?_
  refine zc_static (n' := (0, 0)) (md' := mX10_outside) 6 dX10_axis_3 tw_354 zs_X10_outside (s_X10_outside B h _ _) rfl rfl rfl rfl rfl rfl rfl rfl (zk_f ?_)
  refine zb_ne 9 17 dX10_axis_6 (by decide) rfl (fun zzA => ?_) (fun zzA => ?_)
  ·
    refine zi_ldc 19 dX10_axis_17 tw_357 rfl ?_
    exact zr_int hZ dX10_axis_19 rfl rfl ⟨_, rfl, _, by rw [r_axis, if_pos (by first | exact Or.inl zzA | exact Or.inr (zzB))], hR, zOu_r _ _⟩
  ·
    refine zi_iload_n 10 dX10_axis_9 rfl rfl ?_
    refine zi_iconst (v := 3) 11 dX10_axis_10 (by decide) rfl ?_
    refine zc_static (n' := (0, 0)) (md' := mX10_outside) 14 dX10_axis_11 tw_354 zs_X10_outside (s_X10_outside B h _ _) rfl rfl rfl rfl rfl rfl rfl rfl (zk_f ?_)
    refine zb_eq 17 20 dX10_axis_14 (by decide) rfl (fun zzB => ?_) (fun zzB => ?_)
    ·
      have zzO : ¬ (zOut p 20 ∨ zOut k 3) := fun r => r.elim zzA zzB
      obtain ⟨pj, hpj, hpj31, rfl⟩ := out_i (N := 20) (by decide) zzA
      obtain ⟨kj, hkj, hkj31, rfl⟩ := out_i (N := 3) (by decide) zzB
      refine zi_aload_n 21 dX10_axis_20 rfl rfl ?_
      refine zi_iload_n 22 dX10_axis_21 rfl rfl ?_
      rcases hsP : qSl s pj with _ | P
      ·
        refine zc_virtual (n' := (0, 0)) (md' := mX10_held) 25 dX10_axis_22 tw_485 zv_X10_held zcl_X10 (s_X10_heldN B h A hA s hR pj hpj hsP) hR.1 rfl rfl rfl rfl rfl rfl rfl rfl (zk_f ?_)
        refine zi_astore_nN (lv' := [(3, _), (0, _), (1, _), (2, _)]) 26 dX10_axis_25 rfl rfl rfl ?_
        refine zi_aload_nN 27 dX10_axis_26 rfl rfl ?_
        refine zi_ifnonnullN 30 dX10_axis_27 rfl ?_
        refine zi_aload_n 31 dX10_axis_30 rfl rfl ?_
        refine zi_iconst (v := 1) 32 dX10_axis_31 (by decide) rfl ?_
        refine zc_virtual (n' := (0, 0)) (md' := mX10_found) 35 dX10_axis_32 tw_358 zv_X10_found zcl_X10 (s_X10_found B h A hA s hR 1) hR.1 rfl rfl rfl rfl rfl rfl rfl rfl (zk_i fun x1 h1 hp1 => ?_)
        obtain ⟨rfl, R1, U1⟩ := hp1
        exact zr_int hZ dX10_axis_35 rfl rfl ⟨_, rfl, _, by rw [r_axis, if_neg zzO, nI_clamp hpj31, hsP, onS_n], R1, U1⟩
      ·
        have hVP := hs0.1 pj P hsP
        obtain ⟨vP, hvP, hzP⟩ := hR.2.2.2.1 pj hpj
        rw [hzP P hsP] at hvP
        refine zc_virtual (n' := (0, 0)) (md' := mX10_held) 25 dX10_axis_22 tw_485 zv_X10_held zcl_X10 (s_X10_heldS B h A hA s hR pj hpj P hsP) hR.1 rfl rfl rfl rfl rfl rfl rfl rfl (zk_f ?_)
        refine zi_astore_n (lv' := [(3, _), (0, _), (1, _), (2, _)]) 26 dX10_axis_25 rfl rfl rfl ?_
        refine zi_aload_n 27 dX10_axis_26 rfl rfl ?_
        refine zi_ifnonnull 36 dX10_axis_27 (by decide) ?_
        refine zi_aload_n 37 dX10_axis_36 rfl rfl ?_
        refine zc_virtual (n' := (0, 0)) (md' := mX4_isZero) 40 dX10_axis_37 tw_451 zv_X4_isZero zcl_X4 (s_X4_isZero B h (A (38 + pj)) _ hvP) hvP rfl rfl rfl rfl rfl rfl rfl rfl (zk_f ?_)
        refine zb_eq 43 46 dX10_axis_40 (by decide) rfl (fun zzZ => ?_) (fun zzZ => ?_)
        ·
          rw [z4i_nil (zb_63 hVP.2)] at zzZ
          refine zi_aload_n 47 dX10_axis_46 rfl rfl ?_
          refine zi_aload_n 48 dX10_axis_47 rfl rfl ?_
          refine zi_iload_n 49 dX10_axis_48 rfl rfl ?_
          refine zc_static (n' := (0, 0)) (md' := mX10_axisNumber) 52 dX10_axis_49 tw_802 zs_X10_axisNumber (s_X10_axisNumber B h (A (38 + pj)) P hVP hvP kj hkj) rfl rfl rfl rfl rfl rfl rfl rfl (zk_f ?_)
          refine zc_virtual (n' := (0, 0)) (md' := mX10_answered) 55 dX10_axis_52 tw_367 zv_X10_answered zcl_X10 (s_X10_answered B h A hA s hR _) hR.1 rfl rfl rfl rfl rfl rfl rfl rfl (zk_i fun x9 h9 hp9 => ?_)
          obtain ⟨rfl, R9, U9⟩ := hp9
          exact zr_int hZ dX10_axis_55 rfl rfl ⟨_, rfl, _, by rw [r_axis, if_neg zzO, nI_clamp hpj31, hsP, onS_s, if_neg zzZ, nI_clamp hkj31], R9, U9⟩
        ·
          rw [z4i_nil (zb_63 hVP.2)] at zzZ
          refine zi_ldc 45 dX10_axis_43 tw_619 rfl ?_
          exact zr_int hZ dX10_axis_45 rfl rfl ⟨_, rfl, _, by rw [r_axis, if_neg zzO, nI_clamp hpj31, hsP, onS_s, if_pos zzZ], hR, zOu_r _ _⟩
    ·
      refine zi_ldc 19 dX10_axis_17 tw_357 rfl ?_
      exact zr_int hZ dX10_axis_19 rfl rfl ⟨_, rfl, _, by rw [r_axis, if_pos (by first | exact Or.inl zzA | exact Or.inr (zzB))], hR, zOu_r _ _⟩

set_option maxHeartbeats 4000000 in
set_option maxRecDepth 100000 in
theorem s_X10_alike (B : zBB) (h : zHp) (A : Nat → Nat) (hA : zInj A) (s : zSt) (hs0 : okSt s) (hR : zRc B A s h) (p q : Int32) : zSpec mX10_alike B (2, 0, 0) [.ref (A 0), .int p, .int q] h (zPi (fun zx h' => ∃ s' : zSt, r_alike s p q = (zx, s') ∧ zRc B A s' h' ∧ zOu A h h')) := by
  refine zSpec.of (by decide) (Nat.le_of_ble_eq_true rfl) (fun X hZ => ?_)
  show zG X mX10_alike B (2, 0, 0) (0, 0) 0 [(0, .ref (A 0)), (1, .int p), (2, .int q)] [] h
  refine zi_iload_n 1 dX10_alike_0 rfl rfl ?_
  refine zi_bipush (v := 20) 3 dX10_alike_1 (by decide) rfl ?_
  refine zc_static (n' := (0, 0)) (md' := mX10_outside) 6 dX10_alike_3 tw_354 zs_X10_outside (s_X10_outside B h _ _) rfl rfl rfl rfl rfl rfl rfl rfl (zk_f ?_)
  refine zb_ne 9 18 dX10_alike_6 (by decide) rfl (fun zzA => ?_) (fun zzA => ?_)
  ·
    refine zi_ldc 20 dX10_alike_18 tw_357 rfl ?_
    exact zr_int hZ dX10_alike_20 rfl rfl ⟨_, rfl, _, by rw [r_alike, if_pos (by first | exact Or.inl zzA | exact Or.inr (zzB))], hR, zOu_r _ _⟩
  ·
    refine zi_iload_n 10 dX10_alike_9 rfl rfl ?_
    refine zi_bipush (v := 20) 12 dX10_alike_10 (by decide) rfl ?_
    refine zc_static (n' := (0, 0)) (md' := mX10_outside) 15 dX10_alike_12 tw_354 zs_X10_outside (s_X10_outside B h _ _) rfl rfl rfl rfl rfl rfl rfl rfl (zk_f ?_)
    refine zb_eq 18 21 dX10_alike_15 (by decide) rfl (fun zzB => ?_) (fun zzB => ?_)
    ·
      have zzO : ¬ (zOut p 20 ∨ zOut q 20) := fun r => r.elim zzA zzB
      obtain ⟨pj, hpj, hpj31, rfl⟩ := out_i (N := 20) (by decide) zzA
      obtain ⟨qj, hqj, hqj31, rfl⟩ := out_i (N := 20) (by decide) zzB
      refine zi_aload_n 22 dX10_alike_21 rfl rfl ?_
      refine zi_iload_n 23 dX10_alike_22 rfl rfl ?_
      rcases hsP : qSl s pj with _ | P
      ·
        refine zc_virtual (n' := (0, 0)) (md' := mX10_held) 26 dX10_alike_23 tw_485 zv_X10_held zcl_X10 (s_X10_heldN B h A hA s hR pj hpj hsP) hR.1 rfl rfl rfl rfl rfl rfl rfl rfl (zk_f ?_)
        refine zi_astore_nN (lv' := [(3, _), (0, _), (1, _), (2, _)]) 27 dX10_alike_26 rfl rfl rfl ?_
        refine zi_aload_n 28 dX10_alike_27 rfl rfl ?_
        refine zi_iload_n 29 dX10_alike_28 rfl rfl ?_
        rcases hsQ : qSl s qj with _ | Q
        ·
          refine zc_virtual (n' := (0, 0)) (md' := mX10_held) 32 dX10_alike_29 tw_485 zv_X10_held zcl_X10 (s_X10_heldN B h A hA s hR qj hqj hsQ) hR.1 rfl rfl rfl rfl rfl rfl rfl rfl (zk_f ?_)
          refine zi_astoreN (lv' := [(4, _), (3, _), (0, _), (1, _), (2, _)]) 34 dX10_alike_32 rfl rfl rfl ?_
          refine zi_aload_nN 35 dX10_alike_34 rfl rfl ?_
          refine zi_ifnullN 43 dX10_alike_35 (by decide) ?_
          refine zi_aload_n 44 dX10_alike_43 rfl rfl ?_
          refine zi_iconst (v := 1) 45 dX10_alike_44 (by decide) rfl ?_
          refine zc_virtual (n' := (0, 0)) (md' := mX10_found) 48 dX10_alike_45 tw_358 zv_X10_found zcl_X10 (s_X10_found B h A hA s hR 1) hR.1 rfl rfl rfl rfl rfl rfl rfl rfl (zk_i fun x1 h1 hp1 => ?_)
          obtain ⟨rfl, R1, U1⟩ := hp1
          exact zr_int hZ dX10_alike_48 rfl rfl ⟨_, rfl, _, by rw [r_alike, if_neg zzO, nI_clamp hpj31, hsP]; first | rw [onS_n] | rw [onS_s, nI_clamp hqj31, hsQ, onS_n], R1, U1⟩
        ·
          have hVQ := hs0.1 qj Q hsQ
          obtain ⟨vQ, hvQ, hzQ⟩ := hR.2.2.2.1 qj hqj
          rw [hzQ Q hsQ] at hvQ
          refine zc_virtual (n' := (0, 0)) (md' := mX10_held) 32 dX10_alike_29 tw_485 zv_X10_held zcl_X10 (s_X10_heldS B h A hA s hR qj hqj Q hsQ) hR.1 rfl rfl rfl rfl rfl rfl rfl rfl (zk_f ?_)
          refine zi_astore (lv' := [(4, _), (3, _), (0, _), (1, _), (2, _)]) 34 dX10_alike_32 rfl rfl rfl ?_
          refine zi_aload_nN 35 dX10_alike_34 rfl rfl ?_
          refine zi_ifnullN 43 dX10_alike_35 (by decide) ?_
          refine zi_aload_n 44 dX10_alike_43 rfl rfl ?_
          refine zi_iconst (v := 1) 45 dX10_alike_44 (by decide) rfl ?_
          refine zc_virtual (n' := (0, 0)) (md' := mX10_found) 48 dX10_alike_45 tw_358 zv_X10_found zcl_X10 (s_X10_found B h A hA s hR 1) hR.1 rfl rfl rfl rfl rfl rfl rfl rfl (zk_i fun x1 h1 hp1 => ?_)
          obtain ⟨rfl, R1, U1⟩ := hp1
          exact zr_int hZ dX10_alike_48 rfl rfl ⟨_, rfl, _, by rw [r_alike, if_neg zzO, nI_clamp hpj31, hsP]; first | rw [onS_n] | rw [onS_s, nI_clamp hqj31, hsQ, onS_n], R1, U1⟩
      ·
        have hVP := hs0.1 pj P hsP
        obtain ⟨vP, hvP, hzP⟩ := hR.2.2.2.1 pj hpj
        rw [hzP P hsP] at hvP
        refine zc_virtual (n' := (0, 0)) (md' := mX10_held) 26 dX10_alike_23 tw_485 zv_X10_held zcl_X10 (s_X10_heldS B h A hA s hR pj hpj P hsP) hR.1 rfl rfl rfl rfl rfl rfl rfl rfl (zk_f ?_)
        refine zi_astore_n (lv' := [(3, _), (0, _), (1, _), (2, _)]) 27 dX10_alike_26 rfl rfl rfl ?_
        refine zi_aload_n 28 dX10_alike_27 rfl rfl ?_
        refine zi_iload_n 29 dX10_alike_28 rfl rfl ?_
        rcases hsQ : qSl s qj with _ | Q
        ·
          refine zc_virtual (n' := (0, 0)) (md' := mX10_held) 32 dX10_alike_29 tw_485 zv_X10_held zcl_X10 (s_X10_heldN B h A hA s hR qj hqj hsQ) hR.1 rfl rfl rfl rfl rfl rfl rfl rfl (zk_f ?_)
          refine zi_astoreN (lv' := [(4, _), (3, _), (0, _), (1, _), (2, _)]) 34 dX10_alike_32 rfl rfl rfl ?_
          refine zi_aload_n 35 dX10_alike_34 rfl rfl ?_
          refine zi_ifnull 38 dX10_alike_35 rfl ?_
          refine zi_aloadN 40 dX10_alike_38 rfl rfl ?_
          refine zi_ifnonnullN 43 dX10_alike_40 rfl ?_
          refine zi_aload_n 44 dX10_alike_43 rfl rfl ?_
          refine zi_iconst (v := 1) 45 dX10_alike_44 (by decide) rfl ?_
          refine zc_virtual (n' := (0, 0)) (md' := mX10_found) 48 dX10_alike_45 tw_358 zv_X10_found zcl_X10 (s_X10_found B h A hA s hR 1) hR.1 rfl rfl rfl rfl rfl rfl rfl rfl (zk_i fun x1 h1 hp1 => ?_)
          obtain ⟨rfl, R1, U1⟩ := hp1
          exact zr_int hZ dX10_alike_48 rfl rfl ⟨_, rfl, _, by rw [r_alike, if_neg zzO, nI_clamp hpj31, hsP]; first | rw [onS_n] | rw [onS_s, nI_clamp hqj31, hsQ, onS_n], R1, U1⟩
        ·
          have hVQ := hs0.1 qj Q hsQ
          obtain ⟨vQ, hvQ, hzQ⟩ := hR.2.2.2.1 qj hqj
          rw [hzQ Q hsQ] at hvQ
          refine zc_virtual (n' := (0, 0)) (md' := mX10_held) 32 dX10_alike_29 tw_485 zv_X10_held zcl_X10 (s_X10_heldS B h A hA s hR qj hqj Q hsQ) hR.1 rfl rfl rfl rfl rfl rfl rfl rfl (zk_f ?_)
          refine zi_astore (lv' := [(4, _), (3, _), (0, _), (1, _), (2, _)]) 34 dX10_alike_32 rfl rfl rfl ?_
          refine zi_aload_n 35 dX10_alike_34 rfl rfl ?_
          refine zi_ifnull 38 dX10_alike_35 rfl ?_
          refine zi_aload 40 dX10_alike_38 rfl rfl ?_
          refine zi_ifnonnull 49 dX10_alike_40 (by decide) ?_
          refine zi_aload_n 50 dX10_alike_49 rfl rfl ?_
          refine zc_virtual (n' := (0, 0)) (md' := mX4_isZero) 53 dX10_alike_50 tw_451 zv_X4_isZero zcl_X4 (s_X4_isZero B h (A (38 + pj)) _ hvP) hvP rfl rfl rfl rfl rfl rfl rfl rfl (zk_f ?_)
          refine zb_ne 56 64 dX10_alike_53 (by decide) rfl (fun zzY => ?_) (fun zzY => ?_)
          ·
            rw [z4i_nil (zb_63 hVP.2)] at zzY
            refine zi_ldc 66 dX10_alike_64 tw_619 rfl ?_
            exact zr_int hZ dX10_alike_66 rfl rfl ⟨_, rfl, _, by rw [r_alike, if_neg zzO, nI_clamp hpj31, hsP, onS_s, nI_clamp hqj31, hsQ, onS_s, if_pos (by first | exact Or.inl zzY | exact Or.inr zzZ)], hR, zOu_r _ _⟩
          ·
            rw [z4i_nil (zb_63 hVP.2)] at zzY
            refine zi_aload 58 dX10_alike_56 rfl rfl ?_
            refine zc_virtual (n' := (0, 0)) (md' := mX4_isZero) 61 dX10_alike_58 tw_451 zv_X4_isZero zcl_X4 (s_X4_isZero B h (A (38 + qj)) _ hvQ) hvQ rfl rfl rfl rfl rfl rfl rfl rfl (zk_f ?_)
            refine zb_eq 64 67 dX10_alike_61 (by decide) rfl (fun zzZ => ?_) (fun zzZ => ?_)
            ·
              rw [z4i_nil (zb_63 hVQ.2)] at zzZ
              refine zi_aload_n 68 dX10_alike_67 rfl rfl ?_
              refine zi_aload_n 69 dX10_alike_68 rfl rfl ?_
              refine zi_aload 71 dX10_alike_69 rfl rfl ?_
              refine zc_virtual (n' := (0, 0)) (md' := mX4_isMultipleOf) 74 dX10_alike_71 tw_809 zv_X4_isMultipleOf zcl_X4 (s_X4_isMultipleOf B h (A (38 + pj)) _ hvP (A (38 + qj)) _ hvQ) hvP rfl rfl rfl rfl rfl rfl rfl rfl (zk_f ?_)
              refine zb_eq 77 81 dX10_alike_74 (by decide) rfl (fun zzT => ?_) (fun zzT => ?_)
              ·
                rw [par_i hVP hVQ] at zzT
                refine zi_iconst (v := 0) 82 dX10_alike_81 (by decide) rfl ?_
                refine zc_virtual (n' := (0, 0)) (md' := mX10_answered) 85 dX10_alike_82 tw_367 zv_X10_answered zcl_X10 (s_X10_answered B h A hA s hR _) hR.1 rfl rfl rfl rfl rfl rfl rfl rfl (zk_i fun x9 h9 hp9 => ?_)
                obtain ⟨rfl, R9, U9⟩ := hp9
                exact zr_int hZ dX10_alike_85 rfl rfl ⟨_, rfl, _, by rw [r_alike, if_neg zzO, nI_clamp hpj31, hsP, onS_s, nI_clamp hqj31, hsQ, onS_s, if_neg (fun r => r.elim zzY zzZ)]; first | rw [if_pos zzT] | rw [if_neg zzT], R9, U9⟩
              ·
                rw [par_i hVP hVQ] at zzT
                refine zi_iconst (v := 1) 78 dX10_alike_77 (by decide) rfl ?_
                refine zi_goto 82 dX10_alike_78 (by decide) ?_
                refine zc_virtual (n' := (0, 0)) (md' := mX10_answered) 85 dX10_alike_82 tw_367 zv_X10_answered zcl_X10 (s_X10_answered B h A hA s hR _) hR.1 rfl rfl rfl rfl rfl rfl rfl rfl (zk_i fun x9 h9 hp9 => ?_)
                obtain ⟨rfl, R9, U9⟩ := hp9
                exact zr_int hZ dX10_alike_85 rfl rfl ⟨_, rfl, _, by rw [r_alike, if_neg zzO, nI_clamp hpj31, hsP, onS_s, nI_clamp hqj31, hsQ, onS_s, if_neg (fun r => r.elim zzY zzZ)]; first | rw [if_pos zzT] | rw [if_neg zzT], R9, U9⟩
            ·
              rw [z4i_nil (zb_63 hVQ.2)] at zzZ
              refine zi_ldc 66 dX10_alike_64 tw_619 rfl ?_
              exact zr_int hZ dX10_alike_66 rfl rfl ⟨_, rfl, _, by rw [r_alike, if_neg zzO, nI_clamp hpj31, hsP, onS_s, nI_clamp hqj31, hsQ, onS_s, if_pos (by first | exact Or.inl zzY | exact Or.inr zzZ)], hR, zOu_r _ _⟩
    ·
      refine zi_ldc 20 dX10_alike_18 tw_357 rfl ?_
      exact zr_int hZ dX10_alike_20 rfl rfl ⟨_, rfl, _, by rw [r_alike, if_pos (by first | exact Or.inl zzA | exact Or.inr (zzB))], hR, zOu_r _ _⟩

set_option maxHeartbeats 4000000 in
set_option maxRecDepth 100000 in
theorem s_X10_cell (B : zBB) (h : zHp) (A : Nat → Nat) (hA : zInj A) (s : zSt) (hs0 : okSt s) (hR : zRc B A s h) (p k : Int32) : zSpec mX10_cell B (5, 0, 0) [.ref (A 0), .int p, .int k] h (zPi (fun zx h' => ∃ s' : zSt, r_cell s p k = (zx, s') ∧ zRc B A s' h' ∧ zOu A h h')) := by
  refine zSpec.of (by decide) (Nat.le_of_ble_eq_true rfl) (fun X hZ => ?_)
  show zG X mX10_cell B (5, 0, 0) (0, 0) 0 [(0, .ref (A 0)), (1, .int p), (2, .int k)] [] h
  refine zi_iload_n 1 dX10_cell_0 rfl rfl ?_
  refine zi_bipush (v := 20) 3 dX10_cell_1 (by decide) rfl ?_
  refine zc_static (n' := (0, 0)) (md' := mX10_outside) 6 dX10_cell_3 tw_354 zs_X10_outside (s_X10_outside B h _ _) rfl rfl rfl rfl rfl rfl rfl rfl (zk_f ?_)
  refine zb_ne 9 18 dX10_cell_6 (by decide) rfl (fun zzA => ?_) (fun zzA => ?_)
  ·
    refine zi_ldc 20 dX10_cell_18 tw_357 rfl ?_
    exact zr_int hZ dX10_cell_20 rfl rfl ⟨_, rfl, _, by rw [r_cell, if_pos (by first | exact Or.inl zzA | exact Or.inr (zzB))], hR, zOu_r _ _⟩
  ·
    refine zi_iload_n 10 dX10_cell_9 rfl rfl ?_
    refine zi_bipush (v := 6) 12 dX10_cell_10 (by decide) rfl ?_
    refine zc_static (n' := (0, 0)) (md' := mX10_outside) 15 dX10_cell_12 tw_354 zs_X10_outside (s_X10_outside B h _ _) rfl rfl rfl rfl rfl rfl rfl rfl (zk_f ?_)
    refine zb_eq 18 21 dX10_cell_15 (by decide) rfl (fun zzB => ?_) (fun zzB => ?_)
    ·
      have zzO : ¬ (zOut p 20 ∨ zOut k 6) := fun r => r.elim zzA zzB
      obtain ⟨pj, hpj, hpj31, rfl⟩ := out_i (N := 20) (by decide) zzA
      refine zi_aload_n 22 dX10_cell_21 rfl rfl ?_
      refine zi_iload_n 23 dX10_cell_22 rfl rfl ?_
      rcases hsP : qSl s pj with _ | P
      ·
        refine zc_virtual (n' := (0, 0)) (md' := mX10_held) 26 dX10_cell_23 tw_485 zv_X10_held zcl_X10 (s_X10_heldN B h A hA s hR pj hpj hsP) hR.1 rfl rfl rfl rfl rfl rfl rfl rfl (zk_f ?_)
        refine zi_astore_nN (lv' := [(3, _), (0, _), (1, _), (2, _)]) 27 dX10_cell_26 rfl rfl rfl ?_
        refine zi_aload_nN 28 dX10_cell_27 rfl rfl ?_
        refine zi_ifnonnullN 31 dX10_cell_28 rfl ?_
        refine zi_aload_n 32 dX10_cell_31 rfl rfl ?_
        refine zi_iconst (v := 1) 33 dX10_cell_32 (by decide) rfl ?_
        refine zc_virtual (n' := (0, 0)) (md' := mX10_found) 36 dX10_cell_33 tw_358 zv_X10_found zcl_X10 (s_X10_found B h A hA s hR 1) hR.1 rfl rfl rfl rfl rfl rfl rfl rfl (zk_i fun x1 h1 hp1 => ?_)
        obtain ⟨rfl, R1, U1⟩ := hp1
        exact zr_int hZ dX10_cell_36 rfl rfl ⟨_, rfl, _, by rw [r_cell, if_neg zzO, nI_clamp hpj31, hsP, onS_n], R1, U1⟩
      ·
        have hVP := hs0.1 pj P hsP
        obtain ⟨vP, hvP, hzP⟩ := hR.2.2.2.1 pj hpj
        rw [hzP P hsP] at hvP
        refine zc_virtual (n' := (0, 0)) (md' := mX10_held) 26 dX10_cell_23 tw_485 zv_X10_held zcl_X10 (s_X10_heldS B h A hA s hR pj hpj P hsP) hR.1 rfl rfl rfl rfl rfl rfl rfl rfl (zk_f ?_)
        refine zi_astore_n (lv' := [(3, _), (0, _), (1, _), (2, _)]) 27 dX10_cell_26 rfl rfl rfl ?_
        refine zi_aload_n 28 dX10_cell_27 rfl rfl ?_
        refine zi_ifnonnull 37 dX10_cell_28 (by decide) ?_
        refine zi_aload_n 38 dX10_cell_37 rfl rfl ?_
        refine zc_virtual (n' := (0, 0)) (md' := mX4_isZero) 41 dX10_cell_38 tw_451 zv_X4_isZero zcl_X4 (s_X4_isZero B h (A (38 + pj)) _ hvP) hvP rfl rfl rfl rfl rfl rfl rfl rfl (zk_f ?_)
        refine zb_eq 44 47 dX10_cell_41 (by decide) rfl (fun zzZ => ?_) (fun zzZ => ?_)
        ·
          rw [z4i_nil (zb_63 hVP.2)] at zzZ
          obtain ⟨lt, ut, v1, v2, v3, v4, v5, v6, ht10, ht17, ht20⟩ := hR.2.2.2.2.2.2.2.2.1
          refine zi_aload_n 48 dX10_cell_47 rfl rfl ?_
          refine zc_virtual (n' := (0, 0)) (md' := mX4_ownIndex) 51 dX10_cell_48 tw_817 zv_X4_ownIndex zcl_X4 (s_X4_ownIndex B h (A (38 + pj)) P hVP hvP zzZ) hvP rfl rfl rfl rfl rfl rfl rfl rfl (zk_f ?_)
          refine zi_ldc2 54 dX10_cell_51 tw_827 rfl ?_
          refine zj_le 58 61 dX10_cell_54 rfl dX10_cell_55 (by decide) rfl (fun zzI => ?_) (fun zzI => ?_)
          ·
            rw [show (300 : Int64) = lN 300 from rfl, pk_lLE (idx_63 hVP) (by decide)] at zzI
            refine zi_aload_n 62 dX10_cell_61 rfl rfl ?_
            refine zi_getfield 65 10 dX10_cell_62 zcl_X10 tw_320 rfl rfl hR.1 rfl rfl ?_
            refine zi_aload_n 66 dX10_cell_65 rfl rfl ?_
            refine zc_virtual (n' := (0, 0)) (md' := mX2_fill) 69 dX10_cell_66 tw_828 zv_X2_fill zcl_X2 (s_X2_fill B h (A 10) (A 17) (A 20) v1 v2 v3 v4 v5 v6 lt ut ht10 ht17 ht20 (A (38 + pj)) P hvP hVP zzZ zzI) ht10 rfl rfl rfl rfl rfl rfl rfl rfl (zk_v fun h1 hp1 => ?_)
            obtain ⟨ca, cb, cc, cd, ce, cg, l1, u1, hcl, hq⟩ := hp1
            obtain ⟨R1, U1⟩ := zRc_10 hA hR hq
            have m10 := zX0 hq
            refine zi_aload_n 70 dX10_cell_69 rfl rfl ?_
            refine zi_aload_n 71 dX10_cell_70 rfl rfl ?_
            refine zi_getfield 74 10 dX10_cell_71 zcl_X10 tw_320 rfl rfl R1.1 rfl rfl ?_
            refine zi_iload_n 75 dX10_cell_74 rfl rfl ?_
            refine zc_virtual (n' := (0, 0)) (md' := mX2_numberAt) 78 dX10_cell_75 tw_849 zv_X2_numberAt zcl_X2 (s_X2_numberAt B h1 (A 10) (A 17) _ _ _ _ _ _ m10 k) m10 rfl rfl rfl rfl rfl rfl rfl rfl (zk_f ?_)
            refine zc_virtual (n' := (0, 0)) (md' := mX10_answered) 81 dX10_cell_78 tw_367 zv_X10_answered zcl_X10 (s_X10_answered B h1 A hA s R1 _) R1.1 rfl rfl rfl rfl rfl rfl rfl rfl (zk_i fun x9 h9 hp9 => ?_)
            obtain ⟨rfl, R9, U9⟩ := hp9
            exact zr_int hZ dX10_cell_81 rfl rfl ⟨_, rfl, _, by rw [r_cell, if_neg zzO, nI_clamp hpj31, hsP, onS_s, if_neg zzZ, if_neg (by omega), clT_of hcl], R9, zOu_t U1 U9⟩
          ·
            rw [show (300 : Int64) = lN 300 from rfl, pk_lLE (idx_63 hVP) (by decide)] at zzI
            refine zi_ldc 60 dX10_cell_58 tw_438 rfl ?_
            exact zr_int hZ dX10_cell_60 rfl rfl ⟨_, rfl, _, by rw [r_cell, if_neg zzO, nI_clamp hpj31, hsP, onS_s, if_neg zzZ, if_pos (by omega)], hR, zOu_r _ _⟩
        ·
          rw [z4i_nil (zb_63 hVP.2)] at zzZ
          refine zi_ldc 46 dX10_cell_44 tw_619 rfl ?_
          exact zr_int hZ dX10_cell_46 rfl rfl ⟨_, rfl, _, by rw [r_cell, if_neg zzO, nI_clamp hpj31, hsP, onS_s, if_pos zzZ], hR, zOu_r _ _⟩
    ·
      refine zi_ldc 20 dX10_cell_18 tw_357 rfl ?_
      exact zr_int hZ dX10_cell_20 rfl rfl ⟨_, rfl, _, by rw [r_cell, if_pos (by first | exact Or.inl zzA | exact Or.inr (zzB))], hR, zOu_r _ _⟩
