/-! trays -/
theorem ln_j (j : Nat) : nI j = jz (((j + 1 : Nat) : Int) - 1) := by
  rw [jz_nI]
  congr 1
  push_cast
  omega
theorem ln_eq {a b : Nat} (ha : a ≤ 3) (hb : b ≤ 3) : jz ((a : Int) - 1) = jz ((b : Int) - 1) ↔ a = b := by
  rw [jz_inj (by omega) (by omega)]
  omega
theorem run_n {i m : Int32} {s : Nat} (hs : s ≤ 100) (h : zRun i m (nI s)) : ∃ x y, x < 2 ^ 31 ∧ y < 2 ^ 31 ∧ i = nI x ∧ m = nI y ∧ x + y ≤ s := by
  obtain ⟨h1, h2, h3, h4⟩ := h
  obtain ⟨x, hx, rfl⟩ := nI_of h1
  obtain ⟨y, hy, rfl⟩ := nI_of h2
  rw [nI_ltI (by omega) hy] at h3
  have e : nI s - nI y = nI (s - y) := by
    rw [jz_nI, jz_nI, jz_sub, jz_nI]
    congr 1
    omega
  rw [e, nI_ltI (by omega) hx] at h4
  exact ⟨x, y, hx, hy, rfl, rfl, by omega⟩
theorem nI_ad (a b : Nat) : nI a + nI b = nI (a + b) := (Int32.ofNat_add a b).symm
noncomputable def r_tray (s : zSt) (t l n : Int32) : Int32 × zSt := if zOut t 8 ∨ zOut l 3 ∨ 100 < n then (-1000001, s) else if n < 0 then (-1000010 - 4, sFd s 4) else (n, sFd (sTr s t.toNatClampNeg (l.toNatClampNeg + 1) n.toNatClampNeg (fun _ => 0)) 0)
noncomputable def r_drop (s : zSt) (t : Int32) : Int32 × zSt := if zOut t 8 then (-1000001, s) else if qLn s t.toNatClampNeg = 0 then (-1000010 - 1, sFd s 1) else (nI (qSz s t.toNatClampNeg), sFd (sTr s t.toNatClampNeg 0 (qSz s t.toNatClampNeg) (qIt s t.toNatClampNeg)) 0)
abbrev lnV (s : zSt) (t : Nat) (v : Int64) : Int64 := wrV (jz ((qLn s t : Int) - 1)) v
noncomputable def r_set (s : zSt) (t i : Int32) (v : Int64) : Int64 × zSt := if zOut t 8 then (-1000001, s) else if qLn s t.toNatClampNeg = 0 then ((-1000010 - 1 : Int32).toInt64, sFd s 1) else if zOut i (nI (qSz s t.toNatClampNeg)) then ((-1000010 - 2 : Int32).toInt64, sFd s 2) else (lnV s t.toNatClampNeg v, sFd (sTr s t.toNatClampNeg (qLn s t.toNatClampNeg) (qSz s t.toNatClampNeg) (vp_updL (qIt s t.toNatClampNeg) i.toNatClampNeg (lnV s t.toNatClampNeg v))) 0)
noncomputable def r_copy (s : zSt) (a i b j n : Int32) : Int32 × zSt := if zOut a 8 ∨ zOut b 8 then (-1000001, s) else if qLn s a.toNatClampNeg = 0 ∨ qLn s b.toNatClampNeg = 0 then (-1000010 - 1, sFd s 1) else if qLn s a.toNatClampNeg ≠ qLn s b.toNatClampNeg then (-1000010 - 5, sFd s 5) else if zRun i n (nI (qSz s a.toNatClampNeg)) ∧ zRun j n (nI (qSz s b.toNatClampNeg)) then (n, sFd (sTr s b.toNatClampNeg (qLn s b.toNatClampNeg) (qSz s b.toNatClampNeg) (va_cpy (qIt s a.toNatClampNeg) (qIt s b.toNatClampNeg) i.toNatClampNeg j.toNatClampNeg n.toNatClampNeg)) 0) else (-1000010 - 2, sFd s 2)
def tk4 (f : Nat → Int64) (x : Nat) : i4 := ((f x).toInt, (f (x + 1)).toInt, (f (x + 2)).toInt, (f (x + 3)).toInt)
theorem tk4_z (f : Nat → Int64) (x : Nat) : z4i (tk4 f x) = (f x, f (x + 1), f (x + 2), f (x + 3)) := by
  unfold z4i tk4
  simp only [iz_toInt]
noncomputable def r_taken (s : zSt) (t : Int32) (P : i4) : Int32 × zSt := if ¬ i4o P then (-1000001, s) else if ¬ i4q P ≤ 4000000000 then (-1000003, s) else (nI (kindI P), sFd (sSl s t.toNatClampNeg (some P)) 0)
noncomputable def r_take (s : zSt) (t y i : Int32) : Int32 × zSt := if zOut t 20 ∨ zOut y 8 then (-1000001, s) else if qLn s y.toNatClampNeg = 0 then (-1000010 - 1, sFd s 1) else if zRun i 4 (nI (qSz s y.toNatClampNeg)) then r_taken s t (tk4 (qIt s y.toNatClampNeg) i.toNatClampNeg) else (-1000010 - 2, sFd s 2)
theorem tk_i (x : Int64) : (iz x.toInt).toInt = x.toInt := by rw [iz_toInt]
theorem tk_ev {f : Nat → Int64} {x : Nat} (h : zEv (z4i (tk4 f x))) : i4o (tk4 f x) := by
  rw [tk4_z, zEv_iff] at h
  obtain ⟨h1, h2, h3, h4⟩ := h
  unfold i4o tk4
  simp only at h1 h2 h3 h4 ⊢
  omega
theorem tk_od {f : Nat → Int64} {x : Nat} (h : zOd (z4i (tk4 f x))) : i4o (tk4 f x) := by
  rw [tk4_z, zOd_iff] at h
  obtain ⟨h1, h2, h3, h4⟩ := h
  unfold i4o tk4
  simp only at h1 h2 h3 h4 ⊢
  omega
theorem tk_no {f : Nat → Int64} {x : Nat} (h : ¬ zEv (z4i (tk4 f x))) (h' : ¬ zOd (z4i (tk4 f x))) : ¬ i4o (tk4 f x) := by
  rw [tk4_z, zEv_iff] at h
  rw [tk4_z, zOd_iff] at h'
  unfold i4o tk4
  simp only at h h' ⊢
  omega
theorem far_x (x : Int64) : zFar x ↔ ¬ x.toInt.natAbs ≤ 63245 := by
  unfold zFar
  rw [Int64.lt_iff_toInt_lt, Int64.lt_iff_toInt_lt]
  have e1 : (-63245 : Int64).toInt = -63245 := rfl
  have e2 : (63245 : Int64).toInt = 63245 := rfl
  rw [e1, e2]
  omega
theorem tk_big {f : Nat → Int64} {x : Nat} (h : i4o (tk4 f x)) : zBig (z4i (tk4 f x)) ↔ ¬ i4q (tk4 f x) ≤ 4000000000 := by
  have q4 := i4q_4 h
  by_cases hl : i4l (tk4 f x) 63245
  · rw [zBig_i (i4l_m hl (by decide))]
    omega
  · have h0 : zBig (z4i (tk4 f x)) := by
      rw [tk4_z]
      unfold zBig
      simp only
      rw [far_x, far_x, far_x, far_x]
      unfold i4l tk4 at hl
      simp only at hl
      by_cases c1 : (f x).toInt.natAbs ≤ 63245
      · by_cases c2 : (f (x + 1)).toInt.natAbs ≤ 63245
        · by_cases c3 : (f (x + 2)).toInt.natAbs ≤ 63245
          · by_cases c4 : (f (x + 3)).toInt.natAbs ≤ 63245
            · exact absurd ⟨c1, c2, c3, c4⟩ hl
            · exact Or.inr (Or.inr (Or.inr (Or.inl c4)))
          · exact Or.inr (Or.inr (Or.inl c3))
        · exact Or.inr (Or.inl c2)
      · exact Or.inl c1
    refine ⟨fun _ hq => hl (zb_63 hq), fun _ => h0⟩
theorem cpy_it {f g f' g' : Nat → Int64} {x y n sa sb : Nat} (hf : ∀ j, j < sa → f j = f' j) (hg : ∀ j, j < sb → g j = g' j) (h1 : x + n ≤ sa) (h2 : y + n ≤ sb) : ∀ j, j < sb → va_cpy f g x y n j = va_cpy f' g' x y n j := fun j hj => by
  unfold va_cpy
  split
  · exact hf _ (by omega)
  · exact hg _ hj
theorem upd_it {u f : Nat → Int64} {n i : Nat} {x : Int64} (h : ∀ j, j < n → u j = f j) : ∀ j, j < n → vp_updL u i x j = vp_updL f i x j := fun j hj => by
  unfold vp_updL
  split
  · rfl
  · exact h j hj

set_option maxHeartbeats 4000000 in
set_option maxRecDepth 100000 in
theorem s_X10_tray (B : zBB) (h : zHp) (A : Nat → Nat) (hA : zInj A) (s : zSt) (hs0 : okSt s) (hR : zRc B A s h) (t l n : Int32) : zSpec mX10_tray B (1, 0, 0) [.ref (A 0), .int t, .int l, .int n] h (zPi (fun zx h' => ∃ s' : zSt, r_tray s t l n = (zx, s') ∧ zRc B A s' h' ∧ zOu A h h')) := by
  refine zSpec.of (by decide) (Nat.le_of_ble_eq_true rfl) (fun X hZ => ?_)
  show zG X mX10_tray B (1, 0, 0) (0, 0) 0 [(0, .ref (A 0)), (1, .int t), (2, .int l), (3, .int n)] [] h
  refine zi_iload_n 1 dX10_tray_0 rfl rfl ?_
  refine zi_bipush (v := 8) 3 dX10_tray_1 (by decide) rfl ?_
  refine zc_static (n' := (0, 0)) (md' := mX10_outside) 6 dX10_tray_3 tw_354 zs_X10_outside (s_X10_outside B h _ _) rfl rfl rfl rfl rfl rfl rfl rfl (zk_f ?_)
  refine zb_ne 9 23 dX10_tray_6 (by decide) rfl (fun zzA => ?_) (fun zzA => ?_)
  ·
    refine zi_ldc 25 dX10_tray_23 tw_357 rfl ?_
    exact zr_int hZ dX10_tray_25 rfl rfl ⟨_, rfl, _, by rw [r_tray, if_pos (by first | exact Or.inl zzA | exact Or.inr (Or.inl zzB) | exact Or.inr (Or.inr (z_nle32.mp zzC)))], hR, zOu_r _ _⟩
  ·
    refine zi_iload_n 10 dX10_tray_9 rfl rfl ?_
    refine zi_iconst (v := 3) 11 dX10_tray_10 (by decide) rfl ?_
    refine zc_static (n' := (0, 0)) (md' := mX10_outside) 14 dX10_tray_11 tw_354 zs_X10_outside (s_X10_outside B h _ _) rfl rfl rfl rfl rfl rfl rfl rfl (zk_f ?_)
    refine zb_ne 17 23 dX10_tray_14 (by decide) rfl (fun zzB => ?_) (fun zzB => ?_)
    ·
      refine zi_ldc 25 dX10_tray_23 tw_357 rfl ?_
      exact zr_int hZ dX10_tray_25 rfl rfl ⟨_, rfl, _, by rw [r_tray, if_pos (by first | exact Or.inl zzA | exact Or.inr (Or.inl zzB) | exact Or.inr (Or.inr (z_nle32.mp zzC)))], hR, zOu_r _ _⟩
    ·
      refine zi_iload_n 18 dX10_tray_17 rfl rfl ?_
      refine zi_bipush (v := 100) 20 dX10_tray_18 (by decide) rfl ?_
      refine zi_icmp_le 23 26 dX10_tray_20 (by decide) rfl (fun zzC => ?_) (fun zzC => ?_)
      ·
        have zzO : ¬ (zOut t 8 ∨ zOut l 3 ∨ 100 < n) := fun r => r.elim zzA (fun r => r.elim zzB (fun r => z_nle32.mpr r zzC))
        refine zi_iload_n 27 dX10_tray_26 rfl rfl ?_
        refine zi_if_ge 30 36 dX10_tray_27 (by decide) rfl (fun zzD => ?_) (fun zzD => ?_)
        ·
          obtain ⟨tj, htj, htj31, rfl⟩ := out_i (N := 8) (by decide) zzA
          obtain ⟨lj, hlj, hlj31, rfl⟩ := out_i (N := 3) (by decide) zzB
          obtain ⟨m, -, hm2, hm31, rfl⟩ := rng (a := 0) (b := 100) (by decide) zzD zzC (by decide)
          obtain ⟨ft, hf, hff⟩ := hR.2.1.1
          obtain ⟨u, hy, hu, hui⟩ := hR.2.2.2.2.1 tj htj
          refine zi_aload_n 37 dX10_tray_36 rfl rfl ?_
          refine zi_getfield 40 0 dX10_tray_37 zcl_X10 tw_310 rfl rfl hR.1 rfl rfl ?_
          refine zi_iload_n 41 dX10_tray_40 rfl rfl ?_
          refine zi_aaloadT 42 dX10_tray_41 hf (vp_in_nI htj (by decide)) (by rw [nI_clamp (by omega)]; exact hff tj htj) rfl ?_
          refine zi_astore (lv' := [(4, _), (0, _), (1, _), (2, _), (3, _)]) 44 dX10_tray_42 rfl rfl rfl ?_
          refine zi_aload 46 dX10_tray_44 rfl rfl ?_
          refine zi_ifnonnull 55 dX10_tray_46 (by decide) ?_
          refine zi_aload 57 dX10_tray_55 rfl rfl ?_
          refine zi_iload_n 58 dX10_tray_57 rfl rfl ?_
          refine zi_iload_n 59 dX10_tray_58 rfl rfl ?_
          refine zc_virtual (n' := (0, 0)) (md' := mX9_begin) 62 dX10_tray_59 tw_363 zv_X9_begin zcl_X9 (s_X9_begin B h (A (22 + tj)) (A (30 + tj)) _ _ u hy hu (nI lj) (nI m)) hy rfl rfl rfl rfl rfl rfl rfl rfl (zk_v fun h1 hp1 => ?_)
          obtain ⟨u1, hq, hu1⟩ := hp1
          obtain ⟨R1, U1⟩ := zRc_tr (h' := h1) (ln := lj + 1) (sz := m) (it := fun _ => 0) hA hR htj (ln_j lj) rfl (fun j hj => hu1 j (by omega)) (by rw [hq, zU_n _ _ (hA.ne (by omega)), zU_s]) (zX0 hq) (fun z h1 h2 => by rw [hq, zU_n _ _ h2, zU_n _ _ h1])
          refine zi_aload_n 63 dX10_tray_62 rfl rfl ?_
          refine zi_iload_n 64 dX10_tray_63 rfl rfl ?_
          refine zc_virtual (n' := (0, 0)) (md' := mX10_answered) 67 dX10_tray_64 tw_367 zv_X10_answered zcl_X10 (s_X10_answered B h1 A hA _ R1 _) R1.1 rfl rfl rfl rfl rfl rfl rfl rfl (zk_i fun x9 h9 hp9 => ?_)
          obtain ⟨rfl, R9, U9⟩ := hp9
          exact zr_int hZ dX10_tray_67 rfl rfl ⟨_, rfl, _, by rw [r_tray, if_neg zzO, if_neg (z_nlt32.mpr zzD), nI_clamp htj31, nI_clamp hlj31, nI_clamp hm31], R9, zOu_t U1 U9⟩
        ·
          refine zi_aload_n 31 dX10_tray_30 rfl rfl ?_
          refine zi_iconst (v := 4) 32 dX10_tray_31 (by decide) rfl ?_
          refine zc_virtual (n' := (0, 0)) (md' := mX10_found) 35 dX10_tray_32 tw_358 zv_X10_found zcl_X10 (s_X10_found B h A hA s hR 4) hR.1 rfl rfl rfl rfl rfl rfl rfl rfl (zk_i fun x1 h1 hp1 => ?_)
          obtain ⟨rfl, R1, U1⟩ := hp1
          exact zr_int hZ dX10_tray_35 rfl rfl ⟨_, rfl, _, by rw [r_tray, if_neg zzO, if_pos (z_nle32.mp zzD)], R1, U1⟩
      ·
        refine zi_ldc 25 dX10_tray_23 tw_357 rfl ?_
        exact zr_int hZ dX10_tray_25 rfl rfl ⟨_, rfl, _, by rw [r_tray, if_pos (by first | exact Or.inl zzA | exact Or.inr (Or.inl zzB) | exact Or.inr (Or.inr (z_nle32.mp zzC)))], hR, zOu_r _ _⟩

set_option maxHeartbeats 4000000 in
set_option maxRecDepth 100000 in
theorem s_X10_drop (B : zBB) (h : zHp) (A : Nat → Nat) (hA : zInj A) (s : zSt) (hs0 : okSt s) (hR : zRc B A s h) (t : Int32) : zSpec mX10_drop B (2, 0, 0) [.ref (A 0), .int t] h (zPi (fun zx h' => ∃ s' : zSt, r_drop s t = (zx, s') ∧ zRc B A s' h' ∧ zOu A h h')) := by
  refine zSpec.of (by decide) (Nat.le_of_ble_eq_true rfl) (fun X hZ => ?_)
  show zG X mX10_drop B (2, 0, 0) (0, 0) 0 [(0, .ref (A 0)), (1, .int t)] [] h
  refine zi_iload_n 1 dX10_drop_0 rfl rfl ?_
  refine zi_bipush (v := 8) 3 dX10_drop_1 (by decide) rfl ?_
  refine zc_static (n' := (0, 0)) (md' := mX10_outside) 6 dX10_drop_3 tw_354 zs_X10_outside (s_X10_outside B h _ _) rfl rfl rfl rfl rfl rfl rfl rfl (zk_f ?_)
  refine zb_eq 9 12 dX10_drop_6 (by decide) rfl (fun zzA => ?_) (fun zzA => ?_)
  ·
    have zzO : ¬ (zOut t 8) := zzA
    obtain ⟨tj, htj, htj31, rfl⟩ := out_i (N := 8) (by decide) zzA
    refine zi_aload_n 13 dX10_drop_12 rfl rfl ?_
    refine zi_iload_n 14 dX10_drop_13 rfl rfl ?_
    by_cases hlA : qLn s tj = 0
    ·
      refine zc_virtual (n' := (0, 0)) (md' := mX10_standing) 17 dX10_drop_14 tw_376 zv_X10_standing zcl_X10 (s_X10_standingN B h A hA s hR hs0.2.1 tj htj hlA) hR.1 rfl rfl rfl rfl rfl rfl rfl rfl (zk_f ?_)
      refine zi_astore_nN (lv' := [(2, _), (0, _), (1, _)]) 18 dX10_drop_17 rfl rfl rfl ?_
      refine zi_aload_nN 19 dX10_drop_18 rfl rfl ?_
      refine zi_ifnonnullN 22 dX10_drop_19 rfl ?_
      refine zi_aload_n 23 dX10_drop_22 rfl rfl ?_
      refine zi_iconst (v := 1) 24 dX10_drop_23 (by decide) rfl ?_
      refine zc_virtual (n' := (0, 0)) (md' := mX10_found) 27 dX10_drop_24 tw_358 zv_X10_found zcl_X10 (s_X10_found B h A hA s hR 1) hR.1 rfl rfl rfl rfl rfl rfl rfl rfl (zk_i fun x1 h1 hp1 => ?_)
      obtain ⟨rfl, R1, U1⟩ := hp1
      exact zr_int hZ dX10_drop_27 rfl rfl ⟨_, rfl, _, by rw [r_drop, if_neg zzO, nI_clamp htj31, if_pos hlA], R1, U1⟩
    ·
      obtain ⟨uA, hyA, huA, hiA⟩ := hR.2.2.2.2.1 tj htj
      have hzA := hs0.2.2.1 tj
      refine zc_virtual (n' := (0, 0)) (md' := mX10_standing) 17 dX10_drop_14 tw_376 zv_X10_standing zcl_X10 (s_X10_standingS B h A hA s hR hs0.2.1 tj htj hlA) hR.1 rfl rfl rfl rfl rfl rfl rfl rfl (zk_f ?_)
      refine zi_astore_n (lv' := [(2, _), (0, _), (1, _)]) 18 dX10_drop_17 rfl rfl rfl ?_
      refine zi_aload_n 19 dX10_drop_18 rfl rfl ?_
      refine zi_ifnonnull 28 dX10_drop_19 (by decide) ?_
      refine zi_aload_n 29 dX10_drop_28 rfl rfl ?_
      refine zi_iconst (v := (-1)) 30 dX10_drop_29 (by decide) rfl ?_
      refine zi_putfield (fs' := [_, _, _]) 33 1 dX10_drop_30 zcl_X9 tyX9 tyX9_ok nmX9 tw_85 rfl rfl rfl hyA rfl rfl rfl rfl rfl rfl ?_
      refine zk_h (fun h1 k1 => ?_)
      obtain ⟨R1, U1⟩ := zRc_tr (h' := h1) (ln := 0) (sz := qSz s tj) (it := qIt s tj) (u := uA) (x := -1) hA hR htj (by decide) rfl hiA (zX0 k1) (zX1 k1 (hA.ne (by omega)) huA) (fun z h1 h2 => by rw [k1, zU_n _ _ h1])
      refine zi_aload_n 34 dX10_drop_33 rfl rfl ?_
      refine zi_aload_n 35 dX10_drop_34 rfl rfl ?_
      refine zi_getfield 38 2 dX10_drop_35 zcl_X9 tw_87 rfl rfl (zX0 k1) rfl rfl ?_
      refine zc_virtual (n' := (0, 0)) (md' := mX10_answered) 41 dX10_drop_38 tw_367 zv_X10_answered zcl_X10 (s_X10_answered B h1 A hA _ R1 _) R1.1 rfl rfl rfl rfl rfl rfl rfl rfl (zk_i fun x9 h9 hp9 => ?_)
      obtain ⟨rfl, R9, U9⟩ := hp9
      exact zr_int hZ dX10_drop_41 rfl rfl ⟨_, rfl, _, by rw [r_drop, if_neg zzO, nI_clamp htj31, if_neg hlA], R9, zOu_t U1 U9⟩
  ·
    refine zi_ldc 11 dX10_drop_9 tw_357 rfl ?_
    exact zr_int hZ dX10_drop_11 rfl rfl ⟨_, rfl, _, by rw [r_drop, if_pos (by first | exact zzA)], hR, zOu_r _ _⟩

set_option maxHeartbeats 4000000 in
set_option maxRecDepth 100000 in
theorem s_X10_set (B : zBB) (h : zHp) (A : Nat → Nat) (hA : zInj A) (s : zSt) (hs0 : okSt s) (hR : zRc B A s h) (t i : Int32) (v : Int64) : zSpec mX10_set B (2, 0, 0) [.ref (A 0), .int t, .int i, .long v] h (zPl (fun zx h' => ∃ s' : zSt, r_set s t i v = (zx, s') ∧ zRc B A s' h' ∧ zOu A h h')) := by
  refine zSpec.of (by decide) (Nat.le_of_ble_eq_true rfl) (fun X hZ => ?_)
  show zG X mX10_set B (2, 0, 0) (0, 0) 0 [(0, .ref (A 0)), (1, .int t), (2, .int i), (3, .long v)] [] h
  refine zi_iload_n 1 dX10_set_0 rfl rfl ?_
  refine zi_bipush (v := 8) 3 dX10_set_1 (by decide) rfl ?_
  refine zc_static (n' := (0, 0)) (md' := mX10_outside) 6 dX10_set_3 tw_354 zs_X10_outside (s_X10_outside B h _ _) rfl rfl rfl rfl rfl rfl rfl rfl (zk_f ?_)
  refine zb_eq 9 13 dX10_set_6 (by decide) rfl (fun zzA => ?_) (fun zzA => ?_)
  ·
    have zzO : ¬ (zOut t 8) := zzA
    obtain ⟨tj, htj, htj31, rfl⟩ := out_i (N := 8) (by decide) zzA
    refine zi_aload_n 14 dX10_set_13 rfl rfl ?_
    refine zi_iload_n 15 dX10_set_14 rfl rfl ?_
    by_cases hlA : qLn s tj = 0
    ·
      refine zc_virtual (n' := (0, 0)) (md' := mX10_standing) 18 dX10_set_15 tw_376 zv_X10_standing zcl_X10 (s_X10_standingN B h A hA s hR hs0.2.1 tj htj hlA) hR.1 rfl rfl rfl rfl rfl rfl rfl rfl (zk_f ?_)
      refine zi_astoreN (lv' := [(5, _), (0, _), (1, _), (2, _), (3, _)]) 20 dX10_set_18 rfl rfl rfl ?_
      refine zi_aloadN 22 dX10_set_20 rfl rfl ?_
      refine zi_ifnonnullN 25 dX10_set_22 rfl ?_
      refine zi_aload_n 26 dX10_set_25 rfl rfl ?_
      refine zi_iconst (v := 1) 27 dX10_set_26 (by decide) rfl ?_
      refine zc_virtual (n' := (0, 0)) (md' := mX10_found) 30 dX10_set_27 tw_358 zv_X10_found zcl_X10 (s_X10_found B h A hA s hR 1) hR.1 rfl rfl rfl rfl rfl rfl rfl rfl (zk_i fun x1 h1 hp1 => ?_)
      obtain ⟨rfl, R1, U1⟩ := hp1
      refine zi_i2l 31 dX10_set_30 rfl ?_
      exact zr_long hZ dX10_set_31 rfl ⟨_, rfl, _, by rw [r_set, if_neg zzO, nI_clamp htj31, if_pos hlA], R1, U1⟩
    ·
      obtain ⟨uA, hyA, huA, hiA⟩ := hR.2.2.2.2.1 tj htj
      have hzA := hs0.2.2.1 tj
      refine zc_virtual (n' := (0, 0)) (md' := mX10_standing) 18 dX10_set_15 tw_376 zv_X10_standing zcl_X10 (s_X10_standingS B h A hA s hR hs0.2.1 tj htj hlA) hR.1 rfl rfl rfl rfl rfl rfl rfl rfl (zk_f ?_)
      refine zi_astore (lv' := [(5, _), (0, _), (1, _), (2, _), (3, _)]) 20 dX10_set_18 rfl rfl rfl ?_
      refine zi_aload 22 dX10_set_20 rfl rfl ?_
      refine zi_ifnonnull 32 dX10_set_22 (by decide) ?_
      refine zi_iload_n 33 dX10_set_32 rfl rfl ?_
      refine zi_aload 35 dX10_set_33 rfl rfl ?_
      refine zi_getfield 38 2 dX10_set_35 zcl_X9 tw_87 rfl rfl hyA rfl rfl ?_
      refine zc_static (n' := (0, 0)) (md' := mX10_outside) 41 dX10_set_38 tw_354 zs_X10_outside (s_X10_outside B h _ _) rfl rfl rfl rfl rfl rfl rfl rfl (zk_f ?_)
      refine zb_eq 44 51 dX10_set_41 (by decide) rfl (fun zzI => ?_) (fun zzI => ?_)
      ·
        obtain ⟨ij, hij, hij31, rfl⟩ := out_i (N := qSz s tj) (by omega) zzI
        refine zi_aload 53 dX10_set_51 rfl rfl ?_
        refine zi_iload_n 54 dX10_set_53 rfl rfl ?_
        refine zi_lload_n 55 dX10_set_54 rfl rfl ?_
        refine zc_virtual (n' := (0, 0)) (md' := mX9_write) 58 dX10_set_55 tw_380 zv_X9_write zcl_X9 (s_X9_write B h (A (22 + tj)) (A (30 + tj)) _ _ uA hyA huA ij (by omega) v) hyA rfl rfl rfl rfl rfl rfl rfl rfl (zk_u fun h1 hq => ?_)
        obtain ⟨R1, U1⟩ := zRc_tr (h' := h1) (ln := qLn s tj) (sz := qSz s tj) (it := vp_updL (qIt s tj) ij (lnV s tj v)) hA hR htj rfl rfl (upd_it hiA) (zX1 hq (hA.ne (by omega)) hyA) (zX0 hq) (fun z h1 h2 => by rw [hq, zU_n _ _ h2])
        refine zi_aload_n 59 dX10_set_58 rfl rfl ?_
        refine zi_iconst (v := 0) 60 dX10_set_59 (by decide) rfl ?_
        refine zi_putfield (fs' := [_, _, _, _, _, _, _, _, _, _, _, _, _]) 63 12 dX10_set_60 zcl_X10 tyX10 tyX10_ok nmX10 tw_322 rfl rfl rfl R1.1 rfl rfl rfl rfl rfl rfl ?_
        refine zk_h (fun h2 k2 => ?_)
        have R2 := zRc_fd hA 0 R1
        rw [← k2] at R2
        have U2 : zOu A h1 h2 := zOu_u k2 (by decide)
        have n1 := zX1 k2 (hA.ne (i := 22 + tj) (by omega)) (zX1 hq (hA.ne (by omega)) hyA)
        have n2 := zX1 k2 (hA.ne (i := 30 + tj) (by omega)) (zX0 hq)
        refine zi_aload 65 dX10_set_63 rfl rfl ?_
        refine zi_iload_n 66 dX10_set_65 rfl rfl ?_
        refine zc_virtual (n' := (0, 0)) (md' := mX9_item) 69 dX10_set_66 tw_384 zv_X9_item zcl_X9 (s_X9_item B h2 (A (22 + tj)) (A (30 + tj)) _ _ _ n1 n2 ij (by omega)) n1 rfl rfl rfl rfl rfl rfl rfl rfl (zk_f ?_)
        rw [show vp_updL uA ij (wrV (jz ((qLn s tj : Int) - 1)) v) ij = lnV s tj v by unfold vp_updL; rw [if_pos rfl]]
        exact zr_long hZ dX10_set_69 rfl ⟨_, rfl, _, by rw [r_set, if_neg zzO, nI_clamp htj31, if_neg hlA, if_neg zzI, nI_clamp hij31], R2, zOu_t U1 U2⟩
      ·
        refine zi_aload_n 45 dX10_set_44 rfl rfl ?_
        refine zi_iconst (v := 2) 46 dX10_set_45 (by decide) rfl ?_
        refine zc_virtual (n' := (0, 0)) (md' := mX10_found) 49 dX10_set_46 tw_358 zv_X10_found zcl_X10 (s_X10_found B h A hA s hR 2) hR.1 rfl rfl rfl rfl rfl rfl rfl rfl (zk_i fun x1 h1 hp1 => ?_)
        obtain ⟨rfl, R1, U1⟩ := hp1
        refine zi_i2l 50 dX10_set_49 rfl ?_
        exact zr_long hZ dX10_set_50 rfl ⟨_, rfl, _, by rw [r_set, if_neg zzO, nI_clamp htj31, if_neg hlA, if_pos zzI], R1, U1⟩
  ·
    refine zi_ldc2 12 dX10_set_9 tw_375 rfl ?_
    exact zr_long hZ dX10_set_12 rfl ⟨_, rfl, _, by rw [r_set, if_pos (by first | exact zzA)], hR, zOu_r _ _⟩

set_option maxHeartbeats 4000000 in
set_option maxRecDepth 100000 in
theorem s_X10_copy (B : zBB) (h : zHp) (A : Nat → Nat) (hA : zInj A) (s : zSt) (hs0 : okSt s) (hR : zRc B A s h) (a i b j n : Int32) : zSpec mX10_copy B (2, 0, 0) [.ref (A 0), .int a, .int i, .int b, .int j, .int n] h (zPi (fun zx h' => ∃ s' : zSt, r_copy s a i b j n = (zx, s') ∧ zRc B A s' h' ∧ zOu A h h')) := by
  refine zSpec.of (by decide) (Nat.le_of_ble_eq_true rfl) (fun X hZ => ?_)
  show zG X mX10_copy B (2, 0, 0) (0, 0) 0 [(0, .ref (A 0)), (1, .int a), (2, .int i), (3, .int b), (4, .int j), (5, .int n)] [] h
  refine zi_iload_n 1 dX10_copy_0 rfl rfl ?_
  refine zi_bipush (v := 8) 3 dX10_copy_1 (by decide) rfl ?_
  refine zc_static (n' := (0, 0)) (md' := mX10_outside) 6 dX10_copy_3 tw_354 zs_X10_outside (s_X10_outside B h _ _) rfl rfl rfl rfl rfl rfl rfl rfl (zk_f ?_)
  refine zb_ne 9 18 dX10_copy_6 (by decide) rfl (fun zzA => ?_) (fun zzA => ?_)
  ·
    refine zi_ldc 20 dX10_copy_18 tw_357 rfl ?_
    exact zr_int hZ dX10_copy_20 rfl rfl ⟨_, rfl, _, by rw [r_copy, if_pos (by first | exact Or.inl zzA | exact Or.inr (zzB))], hR, zOu_r _ _⟩
  ·
    refine zi_iload_n 10 dX10_copy_9 rfl rfl ?_
    refine zi_bipush (v := 8) 12 dX10_copy_10 (by decide) rfl ?_
    refine zc_static (n' := (0, 0)) (md' := mX10_outside) 15 dX10_copy_12 tw_354 zs_X10_outside (s_X10_outside B h _ _) rfl rfl rfl rfl rfl rfl rfl rfl (zk_f ?_)
    refine zb_eq 18 21 dX10_copy_15 (by decide) rfl (fun zzB => ?_) (fun zzB => ?_)
    ·
      have zzO : ¬ (zOut a 8 ∨ zOut b 8) := fun r => r.elim zzA zzB
      obtain ⟨aj, haj, haj31, rfl⟩ := out_i (N := 8) (by decide) zzA
      obtain ⟨bj, hbj, hbj31, rfl⟩ := out_i (N := 8) (by decide) zzB
      refine zi_aload_n 22 dX10_copy_21 rfl rfl ?_
      refine zi_iload_n 23 dX10_copy_22 rfl rfl ?_
      by_cases hlA : qLn s aj = 0
      ·
        refine zc_virtual (n' := (0, 0)) (md' := mX10_standing) 26 dX10_copy_23 tw_376 zv_X10_standing zcl_X10 (s_X10_standingN B h A hA s hR hs0.2.1 aj haj hlA) hR.1 rfl rfl rfl rfl rfl rfl rfl rfl (zk_f ?_)
        refine zi_astoreN (lv' := [(6, _), (0, _), (1, _), (2, _), (3, _), (4, _), (5, _)]) 28 dX10_copy_26 rfl rfl rfl ?_
        refine zi_aload_n 29 dX10_copy_28 rfl rfl ?_
        refine zi_iload_n 30 dX10_copy_29 rfl rfl ?_
        by_cases hlB : qLn s bj = 0
        ·
          refine zc_virtual (n' := (0, 0)) (md' := mX10_standing) 33 dX10_copy_30 tw_376 zv_X10_standing zcl_X10 (s_X10_standingN B h A hA s hR hs0.2.1 bj hbj hlB) hR.1 rfl rfl rfl rfl rfl rfl rfl rfl (zk_f ?_)
          refine zi_astoreN (lv' := [(7, _), (6, _), (0, _), (1, _), (2, _), (3, _), (4, _), (5, _)]) 35 dX10_copy_33 rfl rfl rfl ?_
          refine zi_aloadN 37 dX10_copy_35 rfl rfl ?_
          refine zi_ifnullN 45 dX10_copy_37 (by decide) ?_
          refine zi_aload_n 46 dX10_copy_45 rfl rfl ?_
          refine zi_iconst (v := 1) 47 dX10_copy_46 (by decide) rfl ?_
          refine zc_virtual (n' := (0, 0)) (md' := mX10_found) 50 dX10_copy_47 tw_358 zv_X10_found zcl_X10 (s_X10_found B h A hA s hR 1) hR.1 rfl rfl rfl rfl rfl rfl rfl rfl (zk_i fun x1 h1 hp1 => ?_)
          obtain ⟨rfl, R1, U1⟩ := hp1
          exact zr_int hZ dX10_copy_50 rfl rfl ⟨_, rfl, _, by rw [r_copy, if_neg zzO, nI_clamp haj31, nI_clamp hbj31, if_pos (by first | exact Or.inl hlA | exact Or.inr hlB)], R1, U1⟩
        ·
          obtain ⟨uB, hyB, huB, hiB⟩ := hR.2.2.2.2.1 bj hbj
          have hzB := hs0.2.2.1 bj
          refine zc_virtual (n' := (0, 0)) (md' := mX10_standing) 33 dX10_copy_30 tw_376 zv_X10_standing zcl_X10 (s_X10_standingS B h A hA s hR hs0.2.1 bj hbj hlB) hR.1 rfl rfl rfl rfl rfl rfl rfl rfl (zk_f ?_)
          refine zi_astore (lv' := [(7, _), (6, _), (0, _), (1, _), (2, _), (3, _), (4, _), (5, _)]) 35 dX10_copy_33 rfl rfl rfl ?_
          refine zi_aloadN 37 dX10_copy_35 rfl rfl ?_
          refine zi_ifnullN 45 dX10_copy_37 (by decide) ?_
          refine zi_aload_n 46 dX10_copy_45 rfl rfl ?_
          refine zi_iconst (v := 1) 47 dX10_copy_46 (by decide) rfl ?_
          refine zc_virtual (n' := (0, 0)) (md' := mX10_found) 50 dX10_copy_47 tw_358 zv_X10_found zcl_X10 (s_X10_found B h A hA s hR 1) hR.1 rfl rfl rfl rfl rfl rfl rfl rfl (zk_i fun x1 h1 hp1 => ?_)
          obtain ⟨rfl, R1, U1⟩ := hp1
          exact zr_int hZ dX10_copy_50 rfl rfl ⟨_, rfl, _, by rw [r_copy, if_neg zzO, nI_clamp haj31, nI_clamp hbj31, if_pos (by first | exact Or.inl hlA | exact Or.inr hlB)], R1, U1⟩
      ·
        obtain ⟨uA, hyA, huA, hiA⟩ := hR.2.2.2.2.1 aj haj
        have hzA := hs0.2.2.1 aj
        refine zc_virtual (n' := (0, 0)) (md' := mX10_standing) 26 dX10_copy_23 tw_376 zv_X10_standing zcl_X10 (s_X10_standingS B h A hA s hR hs0.2.1 aj haj hlA) hR.1 rfl rfl rfl rfl rfl rfl rfl rfl (zk_f ?_)
        refine zi_astore (lv' := [(6, _), (0, _), (1, _), (2, _), (3, _), (4, _), (5, _)]) 28 dX10_copy_26 rfl rfl rfl ?_
        refine zi_aload_n 29 dX10_copy_28 rfl rfl ?_
        refine zi_iload_n 30 dX10_copy_29 rfl rfl ?_
        by_cases hlB : qLn s bj = 0
        ·
          refine zc_virtual (n' := (0, 0)) (md' := mX10_standing) 33 dX10_copy_30 tw_376 zv_X10_standing zcl_X10 (s_X10_standingN B h A hA s hR hs0.2.1 bj hbj hlB) hR.1 rfl rfl rfl rfl rfl rfl rfl rfl (zk_f ?_)
          refine zi_astoreN (lv' := [(7, _), (6, _), (0, _), (1, _), (2, _), (3, _), (4, _), (5, _)]) 35 dX10_copy_33 rfl rfl rfl ?_
          refine zi_aload 37 dX10_copy_35 rfl rfl ?_
          refine zi_ifnull 40 dX10_copy_37 rfl ?_
          refine zi_aloadN 42 dX10_copy_40 rfl rfl ?_
          refine zi_ifnonnullN 45 dX10_copy_42 rfl ?_
          refine zi_aload_n 46 dX10_copy_45 rfl rfl ?_
          refine zi_iconst (v := 1) 47 dX10_copy_46 (by decide) rfl ?_
          refine zc_virtual (n' := (0, 0)) (md' := mX10_found) 50 dX10_copy_47 tw_358 zv_X10_found zcl_X10 (s_X10_found B h A hA s hR 1) hR.1 rfl rfl rfl rfl rfl rfl rfl rfl (zk_i fun x1 h1 hp1 => ?_)
          obtain ⟨rfl, R1, U1⟩ := hp1
          exact zr_int hZ dX10_copy_50 rfl rfl ⟨_, rfl, _, by rw [r_copy, if_neg zzO, nI_clamp haj31, nI_clamp hbj31, if_pos (by first | exact Or.inl hlA | exact Or.inr hlB)], R1, U1⟩
        ·
          obtain ⟨uB, hyB, huB, hiB⟩ := hR.2.2.2.2.1 bj hbj
          have hzB := hs0.2.2.1 bj
          refine zc_virtual (n' := (0, 0)) (md' := mX10_standing) 33 dX10_copy_30 tw_376 zv_X10_standing zcl_X10 (s_X10_standingS B h A hA s hR hs0.2.1 bj hbj hlB) hR.1 rfl rfl rfl rfl rfl rfl rfl rfl (zk_f ?_)
          refine zi_astore (lv' := [(7, _), (6, _), (0, _), (1, _), (2, _), (3, _), (4, _), (5, _)]) 35 dX10_copy_33 rfl rfl rfl ?_
          refine zi_aload 37 dX10_copy_35 rfl rfl ?_
          refine zi_ifnull 40 dX10_copy_37 rfl ?_
          refine zi_aload 42 dX10_copy_40 rfl rfl ?_
          refine zi_ifnonnull 51 dX10_copy_42 (by decide) ?_
          refine zi_aload 53 dX10_copy_51 rfl rfl ?_
          refine zi_getfield 56 1 dX10_copy_53 zcl_X9 tw_85 rfl rfl hyA rfl rfl ?_
          refine zi_aload 58 dX10_copy_56 rfl rfl ?_
          refine zi_getfield 61 1 dX10_copy_58 zcl_X9 tw_85 rfl rfl hyB rfl rfl ?_
          refine zi_icmp_eq 64 70 dX10_copy_61 (by decide) rfl (fun zzL => ?_) (fun zzL => ?_)
          ·
            rw [ln_eq (hs0.2.1 aj) (hs0.2.1 bj)] at zzL
            refine zi_aload 72 dX10_copy_70 rfl rfl ?_
            refine zi_iload_n 73 dX10_copy_72 rfl rfl ?_
            refine zi_iload 75 dX10_copy_73 rfl rfl ?_
            refine zc_virtual (n' := (0, 0)) (md' := mX9_hasRun) 78 dX10_copy_75 tw_392 zv_X9_hasRun zcl_X9 (s_X9_hasRun B h (A (22 + aj)) (A (30 + aj)) _ _ uA hyA huA i n) hyA rfl rfl rfl rfl rfl rfl rfl rfl (zk_f ?_)
            refine zb_eq 81 93 dX10_copy_78 (by decide) rfl (fun zzR => ?_) (fun zzR => ?_)
            ·
              refine zi_aload_n 94 dX10_copy_93 rfl rfl ?_
              refine zi_iconst (v := 2) 95 dX10_copy_94 (by decide) rfl ?_
              refine zc_virtual (n' := (0, 0)) (md' := mX10_found) 98 dX10_copy_95 tw_358 zv_X10_found zcl_X10 (s_X10_found B h A hA s hR 2) hR.1 rfl rfl rfl rfl rfl rfl rfl rfl (zk_i fun x1 h1 hp1 => ?_)
              obtain ⟨rfl, R1, U1⟩ := hp1
              exact zr_int hZ dX10_copy_98 rfl rfl ⟨_, rfl, _, by rw [r_copy, if_neg zzO, nI_clamp haj31, nI_clamp hbj31, if_neg (fun r => r.elim hlA hlB), if_neg (fun r => r zzL), if_neg (by first | exact fun r => zzR r.1 | exact fun r => zzS r.2)], R1, U1⟩
            ·
              refine zi_aload 83 dX10_copy_81 rfl rfl ?_
              refine zi_iload 85 dX10_copy_83 rfl rfl ?_
              refine zi_iload 87 dX10_copy_85 rfl rfl ?_
              refine zc_virtual (n' := (0, 0)) (md' := mX9_hasRun) 90 dX10_copy_87 tw_392 zv_X9_hasRun zcl_X9 (s_X9_hasRun B h (A (22 + bj)) (A (30 + bj)) _ _ uB hyB huB j n) hyB rfl rfl rfl rfl rfl rfl rfl rfl (zk_f ?_)
              refine zb_ne 93 99 dX10_copy_90 (by decide) rfl (fun zzS => ?_) (fun zzS => ?_)
              ·
                refine zi_aload 101 dX10_copy_99 rfl rfl ?_
                refine zi_getfield 104 0 dX10_copy_101 zcl_X9 tw_83 rfl rfl hyA rfl rfl ?_
                refine zi_iload_n 105 dX10_copy_104 rfl rfl ?_
                refine zi_aload 107 dX10_copy_105 rfl rfl ?_
                refine zi_getfield 110 0 dX10_copy_107 zcl_X9 tw_83 rfl rfl hyB rfl rfl ?_
                refine zi_iload 112 dX10_copy_110 rfl rfl ?_
                refine zi_iload 114 dX10_copy_112 rfl rfl ?_
                obtain ⟨x, y, hx, hy, rfl, rfl, hxy⟩ := run_n hzA zzR
                obtain ⟨x2, y2, hx2, hy2, rfl, ey, hxy2⟩ := run_n hzB zzS
                rw [nI_eq hy hy2] at ey
                subst ey
                refine zi_copyl 117 dX10_copy_114 tw_396 tw_398 tw_397 tw_65 huA huB (nI_pos hx) (nI_pos hx2) (nI_pos hy) (by rw [nI_clamp hx, nI_clamp hy]; omega) (by rw [nI_clamp hx2, nI_clamp hy]; omega) rfl rfl rfl ?_
                refine zk_h (fun h1 k1 => ?_)
                rw [nI_clamp hx, nI_clamp hx2, nI_clamp hy] at k1
                obtain ⟨R1, U1⟩ := zRc_tr (h' := h1) (ln := qLn s bj) (sz := qSz s bj) (it := va_cpy (qIt s aj) (qIt s bj) x x2 y) hA hR hbj rfl rfl (cpy_it hiA hiB hxy hxy2) (zX1 k1 (hA.ne (by omega)) hyB) (zX0 k1) (fun z h1 h2 => by rw [k1, zU_n _ _ h2])
                refine zi_aload_n 118 dX10_copy_117 rfl rfl ?_
                refine zi_iload 120 dX10_copy_118 rfl rfl ?_
                refine zc_virtual (n' := (0, 0)) (md' := mX10_answered) 123 dX10_copy_120 tw_367 zv_X10_answered zcl_X10 (s_X10_answered B h1 A hA _ R1 _) R1.1 rfl rfl rfl rfl rfl rfl rfl rfl (zk_i fun x9 h9 hp9 => ?_)
                obtain ⟨rfl, R9, U9⟩ := hp9
                exact zr_int hZ dX10_copy_123 rfl rfl ⟨_, rfl, _, by rw [r_copy, if_neg zzO, nI_clamp haj31, nI_clamp hbj31, if_neg (fun r => r.elim hlA hlB), if_neg (fun r => r zzL), if_pos ⟨zzR, zzS⟩, nI_clamp hx, nI_clamp hx2, nI_clamp hy], R9, zOu_t U1 U9⟩
              ·
                refine zi_aload_n 94 dX10_copy_93 rfl rfl ?_
                refine zi_iconst (v := 2) 95 dX10_copy_94 (by decide) rfl ?_
                refine zc_virtual (n' := (0, 0)) (md' := mX10_found) 98 dX10_copy_95 tw_358 zv_X10_found zcl_X10 (s_X10_found B h A hA s hR 2) hR.1 rfl rfl rfl rfl rfl rfl rfl rfl (zk_i fun x1 h1 hp1 => ?_)
                obtain ⟨rfl, R1, U1⟩ := hp1
                exact zr_int hZ dX10_copy_98 rfl rfl ⟨_, rfl, _, by rw [r_copy, if_neg zzO, nI_clamp haj31, nI_clamp hbj31, if_neg (fun r => r.elim hlA hlB), if_neg (fun r => r zzL), if_neg (by first | exact fun r => zzR r.1 | exact fun r => zzS r.2)], R1, U1⟩
          ·
            rw [ln_eq (hs0.2.1 aj) (hs0.2.1 bj)] at zzL
            refine zi_aload_n 65 dX10_copy_64 rfl rfl ?_
            refine zi_iconst (v := 5) 66 dX10_copy_65 (by decide) rfl ?_
            refine zc_virtual (n' := (0, 0)) (md' := mX10_found) 69 dX10_copy_66 tw_358 zv_X10_found zcl_X10 (s_X10_found B h A hA s hR 5) hR.1 rfl rfl rfl rfl rfl rfl rfl rfl (zk_i fun x1 h1 hp1 => ?_)
            obtain ⟨rfl, R1, U1⟩ := hp1
            exact zr_int hZ dX10_copy_69 rfl rfl ⟨_, rfl, _, by rw [r_copy, if_neg zzO, nI_clamp haj31, nI_clamp hbj31, if_neg (fun r => r.elim hlA hlB), if_pos zzL], R1, U1⟩
    ·
      refine zi_ldc 20 dX10_copy_18 tw_357 rfl ?_
      exact zr_int hZ dX10_copy_20 rfl rfl ⟨_, rfl, _, by rw [r_copy, if_pos (by first | exact Or.inl zzA | exact Or.inr (zzB))], hR, zOu_r _ _⟩

set_option maxHeartbeats 4000000 in
set_option maxRecDepth 100000 in
theorem s_X10_take (B : zBB) (h : zHp) (A : Nat → Nat) (hA : zInj A) (s : zSt) (hs0 : okSt s) (hR : zRc B A s h) (t y i : Int32) : zSpec mX10_take B (6, 0, 0) [.ref (A 0), .int t, .int y, .int i] h (zPi (fun zx h' => ∃ s' : zSt, r_take s t y i = (zx, s') ∧ zRc B A s' h' ∧ zOu A h h')) := by
  refine zSpec.of (by decide) (Nat.le_of_ble_eq_true rfl) (fun X hZ => ?_)
  show zG X mX10_take B (6, 0, 0) (0, 0) 0 [(0, .ref (A 0)), (1, .int t), (2, .int y), (3, .int i)] [] h
  refine zi_iload_n 1 dX10_take_0 rfl rfl ?_
  refine zi_bipush (v := 20) 3 dX10_take_1 (by decide) rfl ?_
  refine zc_static (n' := (0, 0)) (md' := mX10_outside) 6 dX10_take_3 tw_354 zs_X10_outside (s_X10_outside B h _ _) rfl rfl rfl rfl rfl rfl rfl rfl (zk_f ?_)
  refine zb_ne 9 18 dX10_take_6 (by decide) rfl (fun zzA => ?_) (fun zzA => ?_)
  ·
    refine zi_ldc 20 dX10_take_18 tw_357 rfl ?_
    exact zr_int hZ dX10_take_20 rfl rfl ⟨_, rfl, _, by rw [r_take, if_pos (by first | exact Or.inl zzA | exact Or.inr (zzB))], hR, zOu_r _ _⟩
  ·
    refine zi_iload_n 10 dX10_take_9 rfl rfl ?_
    refine zi_bipush (v := 8) 12 dX10_take_10 (by decide) rfl ?_
    refine zc_static (n' := (0, 0)) (md' := mX10_outside) 15 dX10_take_12 tw_354 zs_X10_outside (s_X10_outside B h _ _) rfl rfl rfl rfl rfl rfl rfl rfl (zk_f ?_)
    refine zb_eq 18 21 dX10_take_15 (by decide) rfl (fun zzB => ?_) (fun zzB => ?_)
    ·
      have zzO : ¬ (zOut t 20 ∨ zOut y 8) := fun r => r.elim zzA zzB
      obtain ⟨tj, htj, htj31, rfl⟩ := out_i (N := 20) (by decide) zzA
      obtain ⟨yj, hyj, hyj31, rfl⟩ := out_i (N := 8) (by decide) zzB
      obtain ⟨vm, hvm⟩ := hR.2.2.2.2.2.1.2.2.2.2 58 (by decide)
      refine zi_aload_n 22 dX10_take_21 rfl rfl ?_
      refine zi_iload_n 23 dX10_take_22 rfl rfl ?_
      by_cases hlA : qLn s yj = 0
      ·
        refine zc_virtual (n' := (0, 0)) (md' := mX10_standing) 26 dX10_take_23 tw_376 zv_X10_standing zcl_X10 (s_X10_standingN B h A hA s hR hs0.2.1 yj hyj hlA) hR.1 rfl rfl rfl rfl rfl rfl rfl rfl (zk_f ?_)
        refine zi_astoreN (lv' := [(4, _), (0, _), (1, _), (2, _), (3, _)]) 28 dX10_take_26 rfl rfl rfl ?_
        refine zi_aloadN 30 dX10_take_28 rfl rfl ?_
        refine zi_ifnonnullN 33 dX10_take_30 rfl ?_
        refine zi_aload_n 34 dX10_take_33 rfl rfl ?_
        refine zi_iconst (v := 1) 35 dX10_take_34 (by decide) rfl ?_
        refine zc_virtual (n' := (0, 0)) (md' := mX10_found) 38 dX10_take_35 tw_358 zv_X10_found zcl_X10 (s_X10_found B h A hA s hR 1) hR.1 rfl rfl rfl rfl rfl rfl rfl rfl (zk_i fun x1 h1 hp1 => ?_)
        obtain ⟨rfl, R1, U1⟩ := hp1
        exact zr_int hZ dX10_take_38 rfl rfl ⟨_, rfl, _, by rw [r_take, if_neg zzO, nI_clamp hyj31, if_pos hlA], R1, U1⟩
      ·
        obtain ⟨uA, hyA, huA, hiA⟩ := hR.2.2.2.2.1 yj hyj
        have hzA := hs0.2.2.1 yj
        refine zc_virtual (n' := (0, 0)) (md' := mX10_standing) 26 dX10_take_23 tw_376 zv_X10_standing zcl_X10 (s_X10_standingS B h A hA s hR hs0.2.1 yj hyj hlA) hR.1 rfl rfl rfl rfl rfl rfl rfl rfl (zk_f ?_)
        refine zi_astore (lv' := [(4, _), (0, _), (1, _), (2, _), (3, _)]) 28 dX10_take_26 rfl rfl rfl ?_
        refine zi_aload 30 dX10_take_28 rfl rfl ?_
        refine zi_ifnonnull 39 dX10_take_30 (by decide) ?_
        refine zi_aload 41 dX10_take_39 rfl rfl ?_
        refine zi_iload_n 42 dX10_take_41 rfl rfl ?_
        refine zi_iconst (v := 4) 43 dX10_take_42 (by decide) rfl ?_
        refine zc_virtual (n' := (0, 0)) (md' := mX9_hasRun) 46 dX10_take_43 tw_392 zv_X9_hasRun zcl_X9 (s_X9_hasRun B h (A (22 + yj)) (A (30 + yj)) _ _ uA hyA huA i 4) hyA rfl rfl rfl rfl rfl rfl rfl rfl (zk_f ?_)
        refine zb_ne 49 55 dX10_take_46 (by decide) rfl (fun zzR => ?_) (fun zzR => ?_)
        ·
          obtain ⟨x, y4, hx, hy4, rfl, e4, hx4⟩ := run_n hzA zzR
          rw [show (4 : Int32) = nI 4 from rfl, nI_eq (by decide) hy4] at e4
          subst e4
          refine zi_aload_n 56 dX10_take_55 rfl rfl ?_
          refine zi_getfield 59 3 dX10_take_56 zcl_X10 tw_313 rfl rfl hR.1 rfl rfl ?_
          refine zi_aload 61 dX10_take_59 rfl rfl ?_
          refine zi_iload_n 62 dX10_take_61 rfl rfl ?_
          refine zc_virtual (n' := (0, 0)) (md' := mX9_item) 65 dX10_take_62 tw_384 zv_X9_item zcl_X9 (s_X9_item B h (A (22 + yj)) (A (30 + yj)) _ _ uA hyA huA (x) (by omega)) hyA rfl rfl rfl rfl rfl rfl rfl rfl (zk_f ?_)
          rw [hiA _ (by omega)]
          refine zi_aload 67 dX10_take_65 rfl rfl ?_
          refine zi_iload_n 68 dX10_take_67 rfl rfl ?_
          refine zi_iconst (v := 1) 69 dX10_take_68 (by decide) rfl ?_
          refine zi_iadd 70 dX10_take_69 rfl ?_
          rw [show nI x + 1 = nI (x + 1) from nI_ad x 1]
          refine zc_virtual (n' := (0, 0)) (md' := mX9_item) 73 dX10_take_70 tw_384 zv_X9_item zcl_X9 (s_X9_item B h (A (22 + yj)) (A (30 + yj)) _ _ uA hyA huA (x + 1) (by omega)) hyA rfl rfl rfl rfl rfl rfl rfl rfl (zk_f ?_)
          rw [hiA _ (by omega)]
          refine zi_aload 75 dX10_take_73 rfl rfl ?_
          refine zi_iload_n 76 dX10_take_75 rfl rfl ?_
          refine zi_iconst (v := 2) 77 dX10_take_76 (by decide) rfl ?_
          refine zi_iadd 78 dX10_take_77 rfl ?_
          rw [show nI x + 2 = nI (x + 2) from nI_ad x 2]
          refine zc_virtual (n' := (0, 0)) (md' := mX9_item) 81 dX10_take_78 tw_384 zv_X9_item zcl_X9 (s_X9_item B h (A (22 + yj)) (A (30 + yj)) _ _ uA hyA huA (x + 2) (by omega)) hyA rfl rfl rfl rfl rfl rfl rfl rfl (zk_f ?_)
          rw [hiA _ (by omega)]
          refine zi_aload 83 dX10_take_81 rfl rfl ?_
          refine zi_iload_n 84 dX10_take_83 rfl rfl ?_
          refine zi_iconst (v := 3) 85 dX10_take_84 (by decide) rfl ?_
          refine zi_iadd 86 dX10_take_85 rfl ?_
          rw [show nI x + 3 = nI (x + 3) from nI_ad x 3]
          refine zc_virtual (n' := (0, 0)) (md' := mX9_item) 89 dX10_take_86 tw_384 zv_X9_item zcl_X9 (s_X9_item B h (A (22 + yj)) (A (30 + yj)) _ _ uA hyA huA (x + 3) (by omega)) hyA rfl rfl rfl rfl rfl rfl rfl rfl (zk_f ?_)
          rw [hiA _ (by omega)]
          refine zc_virtual (n' := (0, 0)) (md' := mX4_become) 92 dX10_take_89 tw_407 zv_X4_become zcl_X4 (s_X4_become B h (A 58) vm hvm _ _ _ _) hvm rfl rfl rfl rfl rfl rfl rfl rfl (zk_u fun h1 hq => ?_)
          rw [← tk4_z] at hq
          have R1 := zRc_k (zKp_u (S := [A 58]) hvm hq (List.mem_singleton.mpr rfl)) hR (fun i hi hm => hA.ne (show 38 + i ≠ 58 by omega) (List.mem_singleton.mp hm))
          have m1 := zX0 hq
          refine zi_aload_n 93 dX10_take_92 rfl rfl ?_
          refine zi_getfield 96 3 dX10_take_93 zcl_X10 tw_313 rfl rfl R1.1 rfl rfl ?_
          refine zc_virtual (n' := (0, 0)) (md' := mX4_isAllEven) 99 dX10_take_96 tw_411 zv_X4_isAllEven zcl_X4 (s_X4_isAllEven B h1 (A 58) _ m1) m1 rfl rfl rfl rfl rfl rfl rfl rfl (zk_f ?_)
          refine zb_ne 102 115 dX10_take_99 (by decide) rfl (fun zzE => ?_) (fun zzE => ?_)
          ·
            have oP := tk_ev zzE
            refine zi_aload_n 116 dX10_take_115 rfl rfl ?_
            refine zi_getfield 119 3 dX10_take_116 zcl_X10 tw_313 rfl rfl R1.1 rfl rfl ?_
            refine zc_virtual (n' := (0, 0)) (md' := mX4_isTooGreat) 122 dX10_take_119 tw_419 zv_X4_isTooGreat zcl_X4 (s_X4_isTooGreat B h1 (A 58) _ m1) m1 rfl rfl rfl rfl rfl rfl rfl rfl (zk_f ?_)
            refine zb_eq 125 128 dX10_take_122 (by decide) rfl (fun zzG => ?_) (fun zzG => ?_)
            ·
              rw [tk_big oP] at zzG
              refine zi_aload_n 129 dX10_take_128 rfl rfl ?_
              refine zi_aload_n 130 dX10_take_129 rfl rfl ?_
              refine zi_iload_n 131 dX10_take_130 rfl rfl ?_
              refine zi_aload_n 132 dX10_take_131 rfl rfl ?_
              refine zi_getfield 135 3 dX10_take_132 zcl_X10 tw_313 rfl rfl R1.1 rfl rfl ?_
              refine zc_virtual (n' := (0, 0)) (md' := mX10_keep) 138 dX10_take_135 tw_439 zv_X10_keep zcl_X10 (s_X10_keep B h1 A hA s R1 tj htj (A 58) (tk4 (qIt s yj) x) ⟨oP, Decidable.not_not.mp zzG⟩ m1 (hA.ne (by omega))) R1.1 rfl rfl rfl rfl rfl rfl rfl rfl (zk_i fun x2 h2 hp2 => ?_)
              obtain ⟨rfl, R2, U2⟩ := hp2
              refine zc_virtual (n' := (0, 0)) (md' := mX10_answered) 141 dX10_take_138 tw_367 zv_X10_answered zcl_X10 (s_X10_answered B h2 A hA _ R2 _) R2.1 rfl rfl rfl rfl rfl rfl rfl rfl (zk_i fun x9 h9 hp9 => ?_)
              obtain ⟨rfl, R9, U9⟩ := hp9
              exact zr_int hZ dX10_take_141 rfl rfl ⟨_, rfl, _, by rw [r_take, if_neg zzO, nI_clamp hyj31, if_neg hlA, if_pos zzR, nI_clamp hx, r_taken, if_neg (fun r => r oP), if_neg zzG, nI_clamp htj31], R9, zOu_t (zOu_t (zOu_u hq (by decide)) U2) U9⟩
            ·
              rw [tk_big oP] at zzG
              refine zi_ldc 127 dX10_take_125 tw_438 rfl ?_
              exact zr_int hZ dX10_take_127 rfl rfl ⟨_, rfl, _, by rw [r_take, if_neg zzO, nI_clamp hyj31, if_neg hlA, if_pos zzR, nI_clamp hx, r_taken, if_neg (fun r => r oP), if_pos zzG], R1, zOu_u hq (by decide)⟩
          ·
            refine zi_aload_n 103 dX10_take_102 rfl rfl ?_
            refine zi_getfield 106 3 dX10_take_103 zcl_X10 tw_313 rfl rfl R1.1 rfl rfl ?_
            refine zc_virtual (n' := (0, 0)) (md' := mX4_isAllOdd) 109 dX10_take_106 tw_415 zv_X4_isAllOdd zcl_X4 (s_X4_isAllOdd B h1 (A 58) _ m1) m1 rfl rfl rfl rfl rfl rfl rfl rfl (zk_f ?_)
            refine zb_ne 112 115 dX10_take_109 (by decide) rfl (fun zzD => ?_) (fun zzD => ?_)
            ·
              have oP := tk_od zzD
              refine zi_aload_n 116 dX10_take_115 rfl rfl ?_
              refine zi_getfield 119 3 dX10_take_116 zcl_X10 tw_313 rfl rfl R1.1 rfl rfl ?_
              refine zc_virtual (n' := (0, 0)) (md' := mX4_isTooGreat) 122 dX10_take_119 tw_419 zv_X4_isTooGreat zcl_X4 (s_X4_isTooGreat B h1 (A 58) _ m1) m1 rfl rfl rfl rfl rfl rfl rfl rfl (zk_f ?_)
              refine zb_eq 125 128 dX10_take_122 (by decide) rfl (fun zzG => ?_) (fun zzG => ?_)
              ·
                rw [tk_big oP] at zzG
                refine zi_aload_n 129 dX10_take_128 rfl rfl ?_
                refine zi_aload_n 130 dX10_take_129 rfl rfl ?_
                refine zi_iload_n 131 dX10_take_130 rfl rfl ?_
                refine zi_aload_n 132 dX10_take_131 rfl rfl ?_
                refine zi_getfield 135 3 dX10_take_132 zcl_X10 tw_313 rfl rfl R1.1 rfl rfl ?_
                refine zc_virtual (n' := (0, 0)) (md' := mX10_keep) 138 dX10_take_135 tw_439 zv_X10_keep zcl_X10 (s_X10_keep B h1 A hA s R1 tj htj (A 58) (tk4 (qIt s yj) x) ⟨oP, Decidable.not_not.mp zzG⟩ m1 (hA.ne (by omega))) R1.1 rfl rfl rfl rfl rfl rfl rfl rfl (zk_i fun x2 h2 hp2 => ?_)
                obtain ⟨rfl, R2, U2⟩ := hp2
                refine zc_virtual (n' := (0, 0)) (md' := mX10_answered) 141 dX10_take_138 tw_367 zv_X10_answered zcl_X10 (s_X10_answered B h2 A hA _ R2 _) R2.1 rfl rfl rfl rfl rfl rfl rfl rfl (zk_i fun x9 h9 hp9 => ?_)
                obtain ⟨rfl, R9, U9⟩ := hp9
                exact zr_int hZ dX10_take_141 rfl rfl ⟨_, rfl, _, by rw [r_take, if_neg zzO, nI_clamp hyj31, if_neg hlA, if_pos zzR, nI_clamp hx, r_taken, if_neg (fun r => r oP), if_neg zzG, nI_clamp htj31], R9, zOu_t (zOu_t (zOu_u hq (by decide)) U2) U9⟩
              ·
                rw [tk_big oP] at zzG
                refine zi_ldc 127 dX10_take_125 tw_438 rfl ?_
                exact zr_int hZ dX10_take_127 rfl rfl ⟨_, rfl, _, by rw [r_take, if_neg zzO, nI_clamp hyj31, if_neg hlA, if_pos zzR, nI_clamp hx, r_taken, if_neg (fun r => r oP), if_pos zzG], R1, zOu_u hq (by decide)⟩
            ·
              refine zi_ldc 114 dX10_take_112 tw_357 rfl ?_
              exact zr_int hZ dX10_take_114 rfl rfl ⟨_, rfl, _, by rw [r_take, if_neg zzO, nI_clamp hyj31, if_neg hlA, if_pos zzR, nI_clamp hx, r_taken, if_pos (tk_no zzE zzD)], R1, zOu_u hq (by decide)⟩
        ·
          refine zi_aload_n 50 dX10_take_49 rfl rfl ?_
          refine zi_iconst (v := 2) 51 dX10_take_50 (by decide) rfl ?_
          refine zc_virtual (n' := (0, 0)) (md' := mX10_found) 54 dX10_take_51 tw_358 zv_X10_found zcl_X10 (s_X10_found B h A hA s hR 2) hR.1 rfl rfl rfl rfl rfl rfl rfl rfl (zk_i fun x1 h1 hp1 => ?_)
          obtain ⟨rfl, R1, U1⟩ := hp1
          exact zr_int hZ dX10_take_54 rfl rfl ⟨_, rfl, _, by rw [r_take, if_neg zzO, nI_clamp hyj31, if_neg hlA, if_neg zzR], R1, U1⟩
    ·
      refine zi_ldc 20 dX10_take_18 tw_357 rfl ?_
      exact zr_int hZ dX10_take_20 rfl rfl ⟨_, rfl, _, by rw [r_take, if_pos (by first | exact Or.inl zzA | exact Or.inr (zzB))], hR, zOu_r _ _⟩
