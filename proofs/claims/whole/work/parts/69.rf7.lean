/-! the reference: trays -/
section TR
variable {s : zSt} {fh : Nat → Int32} {fs : Nat → Int64} {fl fz : Nat → Int32} {fi : Nat → Int64} {st : Int32} {ft : Nat → Int32} {tc : Int32}
theorem mQ_tr {t ln sz : Nat} {it : Nat → Int64} {fl' fz' : Nat → Int32} {fi' : Nat → Int64} (K : mQ s fh fs fl fz fi st ft tc) (hl : ∀ i, i < 8 → fl' i = nI (if i = t then ln else qLn s i)) (hz : ∀ i, i < 8 → fz' i = nI (if i = t then sz else qSz s i)) (hi : ∀ i, i < 8 → ∀ j, j < (if i = t then sz else qSz s i) → fi' (100 * i + j) = (if i = t then it else qIt s i) j) : mQ (sTr s t ln sz it) fh fs fl' fz' fi' st ft tc := ⟨K.1, K.2.1, hl, hz, hi, K.2.2.2.2.2⟩
theorem ln_up {f : Nat → Int32} {g : Nat → Nat} {t v : Nat} (h : ∀ i, i < 8 → f i = nI (g i)) : ∀ i, i < 8 → upd f t (nI v) i = nI (if i = t then v else g i) := fun i hi => by
  unfold upd
  split
  · rfl
  · exact h i hi
theorem ln_sm {f : Nat → Int32} {g : Nat → Nat} {t : Nat} (h : ∀ i, i < 8 → f i = nI (g i)) : ∀ i, i < 8 → f i = nI (if i = t then g t else g i) := fun i hi => by
  split
  · rename_i e
    rw [h i hi, e]
  · exact h i hi
theorem it_nw {t sz : Nat} {it fi' : Nat → Int64} (K : mQ s fh fs fl fz fi st ft tc) (h100 : ∀ i, qSz s i ≤ 100) (h1 : ∀ j, j < sz → fi' (100 * t + j) = it j) (h2 : ∀ i, (i < 100 * t ∨ 100 * t + 100 ≤ i) → fi' i = fi i) : ∀ i, i < 8 → ∀ j, j < (if i = t then sz else qSz s i) → fi' (100 * i + j) = (if i = t then it else qIt s i) j := fun i hi j hj => by
  by_cases q : i = t
  · rw [if_pos q] at hj ⊢
    rw [q]
    exact h1 j hj
  · rw [if_neg q] at hj ⊢
    have h3 := h100 i
    rw [h2 _ (by omega)]
    exact K.2.2.2.2.1 i hi j hj
theorem it_sm {t : Nat} (K : mQ s fh fs fl fz fi st ft tc) : ∀ i, i < 8 → ∀ j, j < (if i = t then qSz s t else qSz s i) → fi (100 * i + j) = (if i = t then qIt s t else qIt s i) j := fun i hi j hj => by
  by_cases q : i = t
  · subst q
    rw [if_pos rfl] at hj ⊢
    exact K.2.2.2.2.1 i hi j hj
  · rw [if_neg q] at hj ⊢
    exact K.2.2.2.2.1 i hi j hj
end TR
theorem st_in {i : Int32} {n : Nat} (hn : n ≤ 100) : zIn i.toInt64 0 (nI n - 1).toInt64 ↔ ¬ zOut i (nI n) := by
  rw [jz_nI, show (1 : Int32) = jz 1 from rfl, jz_sub, jz_l (by omega), ← jz_nI]
  exact in_o (by omega) (by rw [iz_i (by omega)])
theorem tk_in {i : Int32} {n : Nat} (hn : n ≤ 100) : zIn i.toInt64 0 (nI n - 4).toInt64 ↔ zRun i 4 (nI n) := by
  unfold zIn zRun
  rw [jz_nI, show (4 : Int32) = jz 4 from rfl, jz_sub, jz_l (by omega), jl, iz_0, iz_le (by omega) ⟨i.le_toInt |> fun h => by omega, i.toInt_lt |> fun h => by omega⟩, iz_le ⟨i.le_toInt |> fun h => by omega, i.toInt_lt |> fun h => by omega⟩ (by omega), Int32.lt_iff_toInt_lt, Int32.lt_iff_toInt_lt, Int32.lt_iff_toInt_lt, Int32.lt_iff_toInt_lt, jz_i (by omega), jz_i (by omega), jz_i (by omega), Int32.toInt_zero]
  omega
theorem run_iff {i m : Int32} {n : Nat} (hn : n ≤ 100) (hi : ¬ i < 0) (hm : ¬ m < 0) : zRun i m (nI n) ↔ ¬ (nI n).toInt64 < i.toInt64 + m.toInt64 := by
  obtain ⟨x, hx, rfl⟩ := nI_of hi
  obtain ⟨y, hy, rfl⟩ := nI_of hm
  unfold zRun
  rw [jl, jl, jl, nI_toInt hx, nI_toInt hy, nI_toInt (by omega), iz_add, iz_lt (by omega) (by omega)]
  have e : nI n - nI y = jz ((n : Int) - y) := by rw [jz_nI, jz_nI, jz_sub]
  rw [e, Int32.lt_iff_toInt_lt, Int32.lt_iff_toInt_lt, Int32.lt_iff_toInt_lt, Int32.lt_iff_toInt_lt, nI_toInt hx, nI_toInt hy, nI_toInt (by omega), Int32.toInt_zero, jz_i (by omega)]
  omega
theorem lnV_1 {s : zSt} {t : Nat} {v : Int64} (h : qLn s t = 1) : v.toInt32.toInt8.toInt32.toInt64 = lnV s t v := by
  unfold lnV wrV
  rw [h]
  rfl
theorem lnV_2 {s : zSt} {t : Nat} {v : Int64} (h : qLn s t = 2) : v.toInt32.toInt64 = lnV s t v := by
  unfold lnV wrV
  rw [h]
  rfl
theorem lnV_3 {s : zSt} {t : Nat} {v : Int64} (h0 : ¬ qLn s t = 0) (h3 : qLn s t ≤ 3) (h1 : ¬ qLn s t = 1) (h2 : ¬ qLn s t = 2) : v = lnV s t v := by
  unfold lnV wrV
  rw [show qLn s t = 3 by omega]
  rfl
theorem up_is {f g : Nat → Int64} {c n i : Nat} {w : Int64} (h : ∀ j, j < n → f (c + j) = g j) : ∀ j, j < n → vp_updL f (c + i) w (c + j) = vp_updL g i w j := fun j hj => by
  unfold vp_updL
  by_cases q : j = i
  · rw [if_pos (by omega), if_pos q]
  · rw [if_neg (by omega), if_neg q]
    exact h j hj
theorem up_o {f : Nat → Int64} {k i : Nat} {w : Int64} (h : i ≠ k) : vp_updL f k w i = f i := if_neg h
theorem vu_s {f g : Nat → Int64} {c k : Nat} {w : Int64} (h : ∀ j, j < k → f (c + j) = g j) (hw : w = g k) : ∀ j, j < k + 1 → vp_updL f (c + k) w (c + j) = g j := fun j hj => by
  unfold vp_updL
  by_cases q : j = k
  · rw [if_pos (by omega), hw, q]
  · rw [if_neg (by omega)]
    exact h j (by omega)
theorem vu_s0 {f g : Nat → Int64} {k : Nat} {w : Int64} (h : ∀ j, j < k → f j = g j) (hw : w = g k) : ∀ j, j < k + 1 → vp_updL f k w j = g j := fun j hj => by
  unfold vp_updL
  by_cases q : j = k
  · rw [if_pos q, hw, q]
  · rw [if_neg q]
    exact h j (by omega)
theorem par_q (a b : Int64) : a &&& 1 = b &&& 1 ↔ a.toInt % 2 = b.toInt % 2 := by
  rw [ev_l, ev_l]
  by_cases h1 : a.toInt % 2 = 0
  · by_cases h2 : b.toInt % 2 = 0
    · rw [if_pos h1, if_pos h2]; exact ⟨fun _ => by omega, fun _ => rfl⟩
    · rw [if_pos h1, if_neg h2]
      exact ⟨fun q => absurd q (by decide), fun q => by omega⟩
  · by_cases h2 : b.toInt % 2 = 0
    · rw [if_neg h1, if_pos h2]
      exact ⟨fun q => absurd q (by decide), fun q => by omega⟩
    · rw [if_neg h1, if_neg h2]; exact ⟨fun _ => by omega, fun _ => rfl⟩
theorem sm_70 {x : Int64} : zIn x (-70000) 70000 ↔ x.toInt.natAbs ≤ 70000 := by
  unfold zIn
  rw [Int64.le_iff_toInt_le, Int64.le_iff_toInt_le]
  have e1 : (-70000 : Int64).toInt = -70000 := rfl
  have e2 : (70000 : Int64).toInt = 70000 := rfl
  rw [e1, e2]
  omega
theorem sm_q {x : Int} (h : ¬ x.natAbs ≤ 70000) : 4000000000 < x * x := by
  have h1 : x * x = (x.natAbs : Int) * x.natAbs := by rw [← Int.natCast_mul, Int.natAbs_mul_self]
  have h2 : 70001 * 70001 ≤ x.natAbs * x.natAbs := Nat.mul_le_mul (by omega) (by omega)
  omega
theorem sm_p {x : Int} (h : x.natAbs ≤ 70000) : x * x ≤ 4900000000 := by
  have h1 : x * x = (x.natAbs : Int) * x.natAbs := by rw [← Int.natCast_mul, Int.natAbs_mul_self]
  have h2 : x.natAbs * x.natAbs ≤ 70000 * 70000 := Nat.mul_le_mul h h
  omega
theorem tk_q {f : Nat → Int64} {x : Nat} : i4q (tk4 f x) = (f x).toInt * (f x).toInt + (f (x + 1)).toInt * (f (x + 1)).toInt + (f (x + 2)).toInt * (f (x + 2)).toInt + (f (x + 3)).toInt * (f (x + 3)).toInt := rfl
theorem tk_f {f : Nat → Int64} {x k : Nat} (hk : k < 4) (h : ¬ zIn (f (x + k)) (-70000) 70000) : ¬ i4q (tk4 f x) ≤ 4000000000 := by
  have h2 := sm_q (fun q => h (sm_70.mpr q))
  have a0 := zsn (f x).toInt
  have a1 := zsn (f (x + 1)).toInt
  have a2 := zsn (f (x + 2)).toInt
  have a3 := zsn (f (x + 3)).toInt
  rw [tk_q]
  match k, hk with
  | 0, _ => simp only [Nat.add_zero] at h2; omega
  | 1, _ => omega
  | 2, _ => omega
  | 3, _ => omega
theorem tk_s {f : Nat → Int64} {x : Nat} (h0 : zIn (f x) (-70000) 70000) (h1 : zIn (f (x + 1)) (-70000) 70000) (h2 : zIn (f (x + 2)) (-70000) 70000) (h3 : zIn (f (x + 3)) (-70000) 70000) : i4q (tk4 f x) < 9223372036854775808 := by
  have a0 := sm_p (sm_70.mp h0)
  have a1 := sm_p (sm_70.mp h1)
  have a2 := sm_p (sm_70.mp h2)
  have a3 := sm_p (sm_70.mp h3)
  rw [tk_q]
  omega
theorem tk_o {f : Nat → Int64} {x : Nat} (h1 : f (x + 1) &&& 1 = f x &&& 1) (h2 : f (x + 2) &&& 1 = f x &&& 1) (h3 : f (x + 3) &&& 1 = f x &&& 1) : i4o (tk4 f x) := by
  rw [par_q] at h1 h2 h3
  exact ⟨h1.symm, h2.symm, h3.symm⟩
theorem tk_no1 {f : Nat → Int64} {x k : Nat} (hk : k < 4) (h : ¬ f (x + k) &&& 1 = f x &&& 1) : ¬ i4o (tk4 f x) := fun o => by
  rw [par_q] at h
  obtain ⟨o1, o2, o3⟩ := o
  unfold tk4 at o1 o2 o3
  simp only at o1 o2 o3
  match k, hk with
  | 0, _ => exact h rfl
  | 1, _ => exact h o1.symm
  | 2, _ => exact h o2.symm
  | 3, _ => exact h o3.symm
theorem tk_9 {P : i4} (o : i4o P) : 1000000000 < i4n P ↔ ¬ i4q P ≤ 4000000000 := by
  have := i4q_4 o
  omega

set_option maxHeartbeats 2000000 in
set_option maxRecDepth 100000 in
theorem l_X11_tray (B : zBB) (h : zHp) (X : zX) (D : Nat → Nat) (hD : zInj D) (m : mS) (t l nn : Nat) (ht : t < 8) (hnn : nn ≤ 100) (kk : ∀ (h1 : zHp) (fi : Nat → Int64), rN B D (uI m fi) h h1 → (∀ j, j < nn → fi (100 * t + j) = 0) → (∀ i, (i < 100 * t ∨ 100 * t + 100 ≤ i) → fi i = wI m i) → zG X mX11_tray B (2, 0, 0) (0, 0) 82 [(4, .int (nI nn)), (0, .ref (D 0)), (1, .int (nI t)), (2, .int (nI l)), (3, .int (nI nn))] [] h1) : ∀ (n : Nat) (k : Nat) (h1 : zHp) (fi : Nat → Int64), nn - k < n → (k ≤ nn) → (rN B D (uI m fi) h h1) → (∀ j, j < k → fi (100 * t + j) = 0) → (∀ i, (i < 100 * t ∨ 100 * t + 100 ≤ i) → fi i = wI m i) → zG X mX11_tray B (2, 0, 0) (0, 0) 57 [(4, .int (nI k)), (0, .ref (D 0)), (1, .int (nI t)), (2, .int (nI l)), (3, .int (nI nn))] [] h1 := by
  intro n
  induction n with
  | zero => intro k h1 fi hn; omega
  | succ n ih =>
    intro k h1 fi hn hk N hz ho
    refine zi_iload 59 dX11_tray_57 rfl rfl ?_
    refine zi_iload_n 60 dX11_tray_59 rfl rfl ?_
    refine zi_icmp_ge 63 82 dX11_tray_60 (by decide) rfl (fun zzE => ?_) (fun zzE => ?_)
    ·
      rw [nI_leI (by omega) (by omega)] at zzE
      have ek : k = nn := by omega
      subst ek
      exact kk h1 fi N hz ho
    ·
      rw [nI_leI (by omega) (by omega)] at zzE
      refine zi_aload_n 64 dX11_tray_63 rfl rfl ?_
      refine zi_getfield 67 4 dX11_tray_64 zcl_X11 tw_867 rfl rfl N.1.1 rfl rfl ?_
      refine zi_bipush (v := 100) 69 dX11_tray_67 (by decide) rfl ?_
      refine zi_iload_n 70 dX11_tray_69 rfl rfl ?_
      refine zi_imul 71 dX11_tray_70 rfl ?_
      rw [show (100 : Int32) * nI t = nI (100 * t) from ls_m 100 t]
      refine zi_iload 73 dX11_tray_71 rfl rfl ?_
      refine zi_iadd 74 dX11_tray_73 rfl ?_
      rw [show (nI (100 * t) : Int32) + nI k = nI ((100 * t) + k) from nI_ad (100 * t) k]
      refine zi_lconst (v := 0) 75 dX11_tray_74 (by decide) rfl ?_
      refine zi_lastore 76 dX11_tray_75 N.1.2.2.2.2.2.1 (vp_in_nI (show ((100 * t) + k) < 800 by omega) (by decide)) rfl ?_
      rw [nI_clamp (Nat.lt_trans (show ((100 * t) + k) < 800 by omega) (by decide))]
      refine zk_h (fun h1 k1 => ?_)
      have N1 := rN_I hD N k1
      refine zi_iinc (v := nI (k + 1)) (lv' := [(4, _), (0, _), (1, _), (2, _), (3, _)]) 79 dX11_tray_76 rfl (nI_1 _) rfl rfl rfl ?_
      refine zi_goto 57 dX11_tray_79 (by decide) ?_
      exact zi_lv [0, 1, 2, 3, 4] rfl (ih (k + 1) h1 _ (by omega) (by omega) N1 (vu_s (g := fun _ => 0) hz rfl) (fun i hi => (up_o (by omega)).trans (ho i hi)))

set_option maxHeartbeats 1000000 in
set_option maxRecDepth 100000 in
theorem s_X11_tray (B : zBB) (h : zHp) (D : Nat → Nat) (hD : zInj D) (s : zSt) (hs0 : okSt s) (hR : rRm B D s h) (t : Int32) (l : Int32) (n : Int32) : zSpec mX11_tray B (2, 0, 0) [.ref (D 0), .int t, .int l, .int n] h (zPi (fun zx h' => ∃ s' : zSt, r_tray s t l n = (zx, s') ∧ rRm B D s' h' ∧ rOd D h h')) := by
  refine zSpec.of (by decide) (Nat.le_of_ble_eq_true rfl) (fun X hZ => ?_)
  show zG X mX11_tray B (2, 0, 0) (0, 0) 0 [(0, .ref (D 0)), (1, .int t), (2, .int l), (3, .int n)] [] h
  obtain ⟨m, M, K⟩ := hR
  have N0 := rN_r M
  refine zi_iload_n 1 dX11_tray_0 rfl rfl ?_
  refine zc_static (n' := (0, 0)) (md' := mX11_isTray) 4 dX11_tray_1 tw_902 zs_X11_isTray (s_X11_isTray B h _) rfl rfl rfl rfl rfl rfl rfl rfl (zk_f ?_)
  refine zb_eq 7 25 dX11_tray_4 (by decide) rfl (fun zzA => ?_) (fun zzA => ?_)
  ·
    have zzA := Decidable.not_not.mp (fun q => zzA (in_8.mpr q))
    refine zi_ldc 27 dX11_tray_25 tw_910 rfl ?_
    exact zr_int hZ dX11_tray_27 rfl rfl ⟨_, rfl, _, by rw [r_tray, if_pos (by first | exact Or.inl zzA | exact Or.inr (Or.inl zzB) | exact Or.inr (Or.inr (z_nle32.mp zzC)))], ⟨m, N0.1, K⟩, N0.2⟩
  ·
    have zzA := in_8.mp zzA
    refine zi_iload_n 8 dX11_tray_7 rfl rfl ?_
    refine zi_i2l 9 dX11_tray_8 rfl ?_
    refine zi_lconst (v := 0) 10 dX11_tray_9 (by decide) rfl ?_
    refine zi_ldc2 13 dX11_tray_10 tw_909 rfl ?_
    refine zc_static (n' := (0, 0)) (md' := mX11_in) 16 dX11_tray_13 tw_906 zs_X11_in (s_X11_in B h _ _ _) rfl rfl rfl rfl rfl rfl rfl rfl (zk_f ?_)
    refine zb_eq 19 25 dX11_tray_16 (by decide) rfl (fun zzB => ?_) (fun zzB => ?_)
    ·
      have zzB := Decidable.not_not.mp (fun q => zzB (in_3.mpr q))
      refine zi_ldc 27 dX11_tray_25 tw_910 rfl ?_
      exact zr_int hZ dX11_tray_27 rfl rfl ⟨_, rfl, _, by rw [r_tray, if_pos (by first | exact Or.inl zzA | exact Or.inr (Or.inl zzB) | exact Or.inr (Or.inr (z_nle32.mp zzC)))], ⟨m, N0.1, K⟩, N0.2⟩
    ·
      have zzB := in_3.mp zzB
      refine zi_iload_n 20 dX11_tray_19 rfl rfl ?_
      refine zi_bipush (v := 100) 22 dX11_tray_20 (by decide) rfl ?_
      refine zi_icmp_le 25 28 dX11_tray_22 (by decide) rfl (fun zzC => ?_) (fun zzC => ?_)
      ·
        have zzO : ¬ (zOut t 8 ∨ zOut l 3 ∨ 100 < n) := fun r => r.elim zzA (fun r => r.elim zzB (fun r => z_nle32.mpr r zzC))
        refine zi_iload_n 29 dX11_tray_28 rfl rfl ?_
        refine zi_if_ge 32 38 dX11_tray_29 (by decide) rfl (fun zzD => ?_) (fun zzD => ?_)
        ·
          obtain ⟨tj, htj, htj31, rfl⟩ := out_i (N := 8) (by decide) zzA
          obtain ⟨lj, hlj, hlj31, rfl⟩ := out_i (N := 3) (by decide) zzB
          obtain ⟨nn, -, hm2, hm31, rfl⟩ := rng (a := 0) (b := 100) (by decide) zzD zzC (by decide)
          refine zi_aload_n 39 dX11_tray_38 rfl rfl ?_
          refine zi_getfield 42 2 dX11_tray_39 zcl_X11 tw_865 rfl rfl N0.1.1 rfl rfl ?_
          refine zi_iload_n 43 dX11_tray_42 rfl rfl ?_
          refine zi_iload_n 44 dX11_tray_43 rfl rfl ?_
          refine zi_iconst (v := 1) 45 dX11_tray_44 (by decide) rfl ?_
          refine zi_iadd 46 dX11_tray_45 rfl ?_
          rw [show (nI lj : Int32) + 1 = nI (lj + 1) from nI_ad lj 1]
          refine zi_iastore 47 dX11_tray_46 N0.1.2.2.2.1 (vp_in_nI (show tj < 8 by omega) (by decide)) rfl ?_
          rw [nI_clamp (Nat.lt_trans (show tj < 8 by omega) (by decide))]
          refine zk_h (fun h1 k1 => ?_)
          have N1 := rN_L hD N0 k1
          refine zi_aload_n 48 dX11_tray_47 rfl rfl ?_
          refine zi_getfield 51 3 dX11_tray_48 zcl_X11 tw_866 rfl rfl N1.1.1 rfl rfl ?_
          refine zi_iload_n 52 dX11_tray_51 rfl rfl ?_
          refine zi_iload_n 53 dX11_tray_52 rfl rfl ?_
          refine zi_iastore 54 dX11_tray_53 N1.1.2.2.2.2.1 (vp_in_nI (show tj < 8 by omega) (by decide)) rfl ?_
          rw [nI_clamp (Nat.lt_trans (show tj < 8 by omega) (by decide))]
          refine zk_h (fun h2 k2 => ?_)
          have N2 := rN_Z hD N1 k2
          refine zi_iconst (v := 0) 55 dX11_tray_54 (by decide) rfl ?_
          refine zi_istore (lv' := [(4, _), (0, _), (1, _), (2, _), (3, _)]) 57 dX11_tray_55 rfl rfl rfl ?_
          refine zi_lv [0, 1, 2, 3, 4] rfl (l_X11_tray B h X D hD (uZ (uL m (upd (wL m) tj (nI (lj + 1)))) (upd (wZ m) tj (nI nn))) tj lj nn htj hm2 (fun hL fi NL hz ho => ?_) (nn + 1) 0 h2 (wI m) (by omega) (by omega) N2 (fun j hj => absurd hj (Nat.not_lt_zero _)) (fun i hi => rfl))
          refine zi_aload_n 83 dX11_tray_82 rfl rfl ?_
          refine zi_iload_n 84 dX11_tray_83 rfl rfl ?_
          refine zc_virtual (n' := (0, 0)) (md' := mX11_well) 87 dX11_tray_84 tw_916 zv_X11_well zcl_X11 (s_X11_well B hL D hD _ NL.1 _) NL.1.1 rfl rfl rfl rfl rfl rfl rfl rfl (zk_i fun x3 h3 p3 => ?_)
          obtain ⟨rfl, n3⟩ := p3
          have N3 := rN_t NL n3
          exact zr_int hZ dX11_tray_87 rfl rfl ⟨_, rfl, _, by rw [r_tray, if_neg zzO, if_neg (z_nlt32.mpr zzD), nI_clamp htj31, nI_clamp hlj31, nI_clamp hm31], ⟨_, N3.1, mQ_F 0 (mQ_tr K (ln_up K.2.2.1) (ln_up K.2.2.2.1) (it_nw K hs0.2.2.1 hz ho))⟩, N3.2⟩
        ·
          refine zi_aload_n 33 dX11_tray_32 rfl rfl ?_
          refine zi_iconst (v := 4) 34 dX11_tray_33 (by decide) rfl ?_
          refine zc_virtual (n' := (0, 0)) (md' := mX11_finds) 37 dX11_tray_34 tw_911 zv_X11_finds zcl_X11 (s_X11_finds B h D hD _ N0.1 _) N0.1.1 rfl rfl rfl rfl rfl rfl rfl rfl (zk_i fun x4 h4 p4 => ?_)
          obtain ⟨rfl, n4⟩ := p4
          have N4 := rN_t N0 n4
          exact zr_int hZ dX11_tray_37 rfl rfl ⟨_, rfl, _, by rw [r_tray, if_neg zzO, if_pos (z_nle32.mp zzD)], ⟨_, N4.1, mQ_F _ K⟩, N4.2⟩
      ·
        refine zi_ldc 27 dX11_tray_25 tw_910 rfl ?_
        exact zr_int hZ dX11_tray_27 rfl rfl ⟨_, rfl, _, by rw [r_tray, if_pos (by first | exact Or.inl zzA | exact Or.inr (Or.inl zzB) | exact Or.inr (Or.inr (z_nle32.mp zzC)))], ⟨m, N0.1, K⟩, N0.2⟩

set_option maxHeartbeats 1000000 in
set_option maxRecDepth 100000 in
theorem s_X11_drop (B : zBB) (h : zHp) (D : Nat → Nat) (hD : zInj D) (s : zSt) (hs0 : okSt s) (hR : rRm B D s h) (t : Int32) : zSpec mX11_drop B (2, 0, 0) [.ref (D 0), .int t] h (zPi (fun zx h' => ∃ s' : zSt, r_drop s t = (zx, s') ∧ rRm B D s' h' ∧ rOd D h h')) := by
  refine zSpec.of (by decide) (Nat.le_of_ble_eq_true rfl) (fun X hZ => ?_)
  show zG X mX11_drop B (2, 0, 0) (0, 0) 0 [(0, .ref (D 0)), (1, .int t)] [] h
  obtain ⟨m, M, K⟩ := hR
  have N0 := rN_r M
  refine zi_iload_n 1 dX11_drop_0 rfl rfl ?_
  refine zc_static (n' := (0, 0)) (md' := mX11_isTray) 4 dX11_drop_1 tw_902 zs_X11_isTray (s_X11_isTray B h _) rfl rfl rfl rfl rfl rfl rfl rfl (zk_f ?_)
  refine zb_ne 7 10 dX11_drop_4 (by decide) rfl (fun zzA => ?_) (fun zzA => ?_)
  ·
    have zzA := in_8.mp zzA
    have zzO : ¬ (zOut t 8) := zzA
    obtain ⟨tj, htj, htj31, rfl⟩ := out_i (N := 8) (by decide) zzA
    refine zi_aload_n 11 dX11_drop_10 rfl rfl ?_
    refine zi_getfield 14 2 dX11_drop_11 zcl_X11 tw_865 rfl rfl N0.1.1 rfl rfl ?_
    refine zi_iload_n 15 dX11_drop_14 rfl rfl ?_
    refine zi_iaload 16 dX11_drop_15 N0.1.2.2.2.1 (vp_in_nI (show tj < 8 by omega) (by decide)) rfl ?_
    rw [nI_clamp (Nat.lt_trans (show tj < 8 by omega) (by decide))]
    rw [show wL _ tj = nI (qLn s tj) from K.2.2.1 tj htj]
    refine zi_if_ne 19 25 dX11_drop_16 (by decide) rfl (fun zzL => ?_) (fun zzL => ?_)
    ·
      rw [nI_0e (show qLn s tj < 2 ^ 31 by have := hs0.2.1 tj; omega)] at zzL
      refine zi_aload_n 26 dX11_drop_25 rfl rfl ?_
      refine zi_getfield 29 2 dX11_drop_26 zcl_X11 tw_865 rfl rfl N0.1.1 rfl rfl ?_
      refine zi_iload_n 30 dX11_drop_29 rfl rfl ?_
      refine zi_iconst (v := 0) 31 dX11_drop_30 (by decide) rfl ?_
      refine zi_iastore 32 dX11_drop_31 N0.1.2.2.2.1 (vp_in_nI (show tj < 8 by omega) (by decide)) rfl ?_
      rw [nI_clamp (Nat.lt_trans (show tj < 8 by omega) (by decide))]
      refine zk_h (fun h1 k1 => ?_)
      have N1 := rN_L hD N0 k1
      refine zi_aload_n 33 dX11_drop_32 rfl rfl ?_
      refine zi_aload_n 34 dX11_drop_33 rfl rfl ?_
      refine zi_getfield 37 3 dX11_drop_34 zcl_X11 tw_866 rfl rfl N1.1.1 rfl rfl ?_
      refine zi_iload_n 38 dX11_drop_37 rfl rfl ?_
      refine zi_iaload 39 dX11_drop_38 N1.1.2.2.2.2.1 (vp_in_nI (show tj < 8 by omega) (by decide)) rfl ?_
      rw [nI_clamp (Nat.lt_trans (show tj < 8 by omega) (by decide))]
      rw [show wZ _ tj = nI (qSz s tj) from K.2.2.2.1 tj htj]
      refine zc_virtual (n' := (0, 0)) (md' := mX11_well) 42 dX11_drop_39 tw_916 zv_X11_well zcl_X11 (s_X11_well B h1 D hD _ N1.1 _) N1.1.1 rfl rfl rfl rfl rfl rfl rfl rfl (zk_i fun x2 h2 p2 => ?_)
      obtain ⟨rfl, n2⟩ := p2
      have N2 := rN_t N1 n2
      exact zr_int hZ dX11_drop_42 rfl rfl ⟨_, rfl, _, by rw [r_drop, if_neg zzO, nI_clamp htj31, if_neg zzL], ⟨_, N2.1, mQ_F 0 (mQ_tr K (ln_up (v := 0) K.2.2.1) (ln_sm K.2.2.2.1) (it_sm K))⟩, N2.2⟩
    ·
      rw [nI_0e (show qLn s tj < 2 ^ 31 by have := hs0.2.1 tj; omega)] at zzL
      refine zi_aload_n 20 dX11_drop_19 rfl rfl ?_
      refine zi_iconst (v := 1) 21 dX11_drop_20 (by decide) rfl ?_
      refine zc_virtual (n' := (0, 0)) (md' := mX11_finds) 24 dX11_drop_21 tw_911 zv_X11_finds zcl_X11 (s_X11_finds B h D hD _ N0.1 _) N0.1.1 rfl rfl rfl rfl rfl rfl rfl rfl (zk_i fun x3 h3 p3 => ?_)
      obtain ⟨rfl, n3⟩ := p3
      have N3 := rN_t N0 n3
      exact zr_int hZ dX11_drop_24 rfl rfl ⟨_, rfl, _, by rw [r_drop, if_neg zzO, nI_clamp htj31, if_pos zzL], ⟨_, N3.1, mQ_F _ K⟩, N3.2⟩
  ·
    have zzA := Decidable.not_not.mp (fun q => zzA (in_8.mpr q))
    refine zi_ldc 9 dX11_drop_7 tw_910 rfl ?_
    exact zr_int hZ dX11_drop_9 rfl rfl ⟨_, rfl, _, by rw [r_drop, if_pos (by first | exact zzA)], ⟨m, N0.1, K⟩, N0.2⟩

set_option maxHeartbeats 1000000 in
set_option maxRecDepth 100000 in
theorem s_X11_set (B : zBB) (h : zHp) (D : Nat → Nat) (hD : zInj D) (s : zSt) (hs0 : okSt s) (hR : rRm B D s h) (t : Int32) (i : Int32) (v : Int64) : zSpec mX11_set B (2, 0, 0) [.ref (D 0), .int t, .int i, .long v] h (zPl (fun zx h' => ∃ s' : zSt, r_set s t i v = (zx, s') ∧ rRm B D s' h' ∧ rOd D h h')) := by
  refine zSpec.of (by decide) (Nat.le_of_ble_eq_true rfl) (fun X hZ => ?_)
  show zG X mX11_set B (2, 0, 0) (0, 0) 0 [(0, .ref (D 0)), (1, .int t), (2, .int i), (3, .long v)] [] h
  obtain ⟨m, M, K⟩ := hR
  have N0 := rN_r M
  refine zi_iload_n 1 dX11_set_0 rfl rfl ?_
  refine zc_static (n' := (0, 0)) (md' := mX11_isTray) 4 dX11_set_1 tw_902 zs_X11_isTray (s_X11_isTray B h _) rfl rfl rfl rfl rfl rfl rfl rfl (zk_f ?_)
  refine zb_ne 7 11 dX11_set_4 (by decide) rfl (fun zzA => ?_) (fun zzA => ?_)
  ·
    have zzA := in_8.mp zzA
    have zzO : ¬ (zOut t 8) := zzA
    obtain ⟨tj, htj, htj31, rfl⟩ := out_i (N := 8) (by decide) zzA
    refine zi_aload_n 12 dX11_set_11 rfl rfl ?_
    refine zi_getfield 15 2 dX11_set_12 zcl_X11 tw_865 rfl rfl N0.1.1 rfl rfl ?_
    refine zi_iload_n 16 dX11_set_15 rfl rfl ?_
    refine zi_iaload 17 dX11_set_16 N0.1.2.2.2.1 (vp_in_nI (show tj < 8 by omega) (by decide)) rfl ?_
    rw [nI_clamp (Nat.lt_trans (show tj < 8 by omega) (by decide))]
    rw [show wL _ tj = nI (qLn s tj) from K.2.2.1 tj htj]
    refine zi_if_ne 20 27 dX11_set_17 (by decide) rfl (fun zzL => ?_) (fun zzL => ?_)
    ·
      rw [nI_0e (show qLn s tj < 2 ^ 31 by have := hs0.2.1 tj; omega)] at zzL
      refine zi_iload_n 28 dX11_set_27 rfl rfl ?_
      refine zi_i2l 29 dX11_set_28 rfl ?_
      refine zi_lconst (v := 0) 30 dX11_set_29 (by decide) rfl ?_
      refine zi_aload_n 31 dX11_set_30 rfl rfl ?_
      refine zi_getfield 34 3 dX11_set_31 zcl_X11 tw_866 rfl rfl N0.1.1 rfl rfl ?_
      refine zi_iload_n 35 dX11_set_34 rfl rfl ?_
      refine zi_iaload 36 dX11_set_35 N0.1.2.2.2.2.1 (vp_in_nI (show tj < 8 by omega) (by decide)) rfl ?_
      rw [nI_clamp (Nat.lt_trans (show tj < 8 by omega) (by decide))]
      rw [show wZ _ tj = nI (qSz s tj) from K.2.2.2.1 tj htj]
      refine zi_iconst (v := 1) 37 dX11_set_36 (by decide) rfl ?_
      refine zi_isub 38 dX11_set_37 rfl ?_
      refine zi_i2l 39 dX11_set_38 rfl ?_
      refine zc_static (n' := (0, 0)) (md' := mX11_in) 42 dX11_set_39 tw_906 zs_X11_in (s_X11_in B h _ _ _) rfl rfl rfl rfl rfl rfl rfl rfl (zk_f ?_)
      refine zb_ne 45 52 dX11_set_42 (by decide) rfl (fun zzI => ?_) (fun zzI => ?_)
      ·
        rw [st_in (hs0.2.2.1 tj)] at zzI
        obtain ⟨ij, hij, hij31, rfl⟩ := out_i (N := qSz s tj) (by have := hs0.2.2.1 tj; omega) zzI
        have h100 := hs0.2.2.1 tj
        refine zi_aload_n 53 dX11_set_52 rfl rfl ?_
        refine zi_getfield 56 2 dX11_set_53 zcl_X11 tw_865 rfl rfl N0.1.1 rfl rfl ?_
        refine zi_iload_n 57 dX11_set_56 rfl rfl ?_
        refine zi_iaload 58 dX11_set_57 N0.1.2.2.2.1 (vp_in_nI (show tj < 8 by omega) (by decide)) rfl ?_
        rw [nI_clamp (Nat.lt_trans (show tj < 8 by omega) (by decide))]
        rw [show wL _ tj = nI (qLn s tj) from K.2.2.1 tj htj]
        refine zi_iconst (v := 1) 59 dX11_set_58 (by decide) rfl ?_
        refine zi_icmp_ne 62 69 dX11_set_59 (by decide) rfl (fun zz1 => ?_) (fun zz1 => ?_)
        ·
          rw [show (1 : Int32) = nI 1 from rfl, nI_eq (show qLn s tj < 2 ^ 31 by have := hs0.2.1 tj; omega) (by decide)] at zz1
          refine zi_aload_n 70 dX11_set_69 rfl rfl ?_
          refine zi_getfield 73 2 dX11_set_70 zcl_X11 tw_865 rfl rfl N0.1.1 rfl rfl ?_
          refine zi_iload_n 74 dX11_set_73 rfl rfl ?_
          refine zi_iaload 75 dX11_set_74 N0.1.2.2.2.1 (vp_in_nI (show tj < 8 by omega) (by decide)) rfl ?_
          rw [nI_clamp (Nat.lt_trans (show tj < 8 by omega) (by decide))]
          rw [show wL _ tj = nI (qLn s tj) from K.2.2.1 tj htj]
          refine zi_iconst (v := 2) 76 dX11_set_75 (by decide) rfl ?_
          refine zi_icmp_ne 79 85 dX11_set_76 (by decide) rfl (fun zz2 => ?_) (fun zz2 => ?_)
          ·
            rw [show (2 : Int32) = nI 2 from rfl, nI_eq (show qLn s tj < 2 ^ 31 by have := hs0.2.1 tj; omega) (by decide)] at zz2
            refine zi_lload_n 86 dX11_set_85 rfl rfl ?_
            refine zi_val (congrArg Value.long (lnV_3 zzL (hs0.2.1 tj) zz1 zz2)) ?_
            refine zi_lstore (lv' := [(5, _), (0, _), (1, _), (2, _), (3, _)]) 88 dX11_set_86 rfl rfl rfl ?_
            refine zi_aload_n 89 dX11_set_88 rfl rfl ?_
            refine zi_getfield 92 4 dX11_set_89 zcl_X11 tw_867 rfl rfl N0.1.1 rfl rfl ?_
            refine zi_bipush (v := 100) 94 dX11_set_92 (by decide) rfl ?_
            refine zi_iload_n 95 dX11_set_94 rfl rfl ?_
            refine zi_imul 96 dX11_set_95 rfl ?_
            rw [show (100 : Int32) * nI tj = nI (100 * tj) from ls_m 100 tj]
            refine zi_iload_n 97 dX11_set_96 rfl rfl ?_
            refine zi_iadd 98 dX11_set_97 rfl ?_
            rw [show (nI (100 * tj) : Int32) + nI ij = nI ((100 * tj) + ij) from nI_ad (100 * tj) ij]
            refine zi_lload 100 dX11_set_98 rfl rfl ?_
            refine zi_lastore 101 dX11_set_100 N0.1.2.2.2.2.2.1 (vp_in_nI (show ((100 * tj) + ij) < 800 by omega) (by decide)) rfl ?_
            rw [nI_clamp (Nat.lt_trans (show ((100 * tj) + ij) < 800 by omega) (by decide))]
            refine zk_h (fun h1 k1 => ?_)
            have N1 := rN_I hD N0 k1
            refine zi_aload_n 102 dX11_set_101 rfl rfl ?_
            refine zi_iconst (v := 0) 103 dX11_set_102 (by decide) rfl ?_
            refine zi_putfield (fs' := [_, _, _, _, _, _, _, _, _, _, _]) 106 6 dX11_set_103 zcl_X11 tyX11 tyX11_ok nmX11 tw_869 rfl rfl rfl N1.1.1 rfl rfl rfl rfl rfl rfl ?_
            refine zk_h (fun h2 k2 => ?_)
            have N2 := rN_F hD N1 k2
            refine zi_lload 108 dX11_set_106 rfl rfl ?_
            exact zr_long hZ dX11_set_108 rfl ⟨_, rfl, _, by rw [r_set, if_neg zzO, nI_clamp htj31, if_neg zzL, if_neg zzI, nI_clamp hij31], ⟨_, N2.1, mQ_F 0 (mQ_tr K (ln_sm K.2.2.1) (ln_sm K.2.2.2.1) (it_nw K hs0.2.2.1 (up_is (K.2.2.2.2.1 tj htj)) (fun i hi => up_o (by omega))))⟩, N2.2⟩
          ·
            rw [show (2 : Int32) = nI 2 from rfl, nI_eq (show qLn s tj < 2 ^ 31 by have := hs0.2.1 tj; omega) (by decide)] at zz2
            refine zi_lload_n 80 dX11_set_79 rfl rfl ?_
            refine zi_l2i 81 dX11_set_80 rfl ?_
            refine zi_i2l 82 dX11_set_81 rfl ?_
            refine zi_goto 86 dX11_set_82 (by decide) ?_
            refine zi_val (congrArg Value.long (lnV_2 zz2)) ?_
            refine zi_lstore (lv' := [(5, _), (0, _), (1, _), (2, _), (3, _)]) 88 dX11_set_86 rfl rfl rfl ?_
            refine zi_aload_n 89 dX11_set_88 rfl rfl ?_
            refine zi_getfield 92 4 dX11_set_89 zcl_X11 tw_867 rfl rfl N0.1.1 rfl rfl ?_
            refine zi_bipush (v := 100) 94 dX11_set_92 (by decide) rfl ?_
            refine zi_iload_n 95 dX11_set_94 rfl rfl ?_
            refine zi_imul 96 dX11_set_95 rfl ?_
            rw [show (100 : Int32) * nI tj = nI (100 * tj) from ls_m 100 tj]
            refine zi_iload_n 97 dX11_set_96 rfl rfl ?_
            refine zi_iadd 98 dX11_set_97 rfl ?_
            rw [show (nI (100 * tj) : Int32) + nI ij = nI ((100 * tj) + ij) from nI_ad (100 * tj) ij]
            refine zi_lload 100 dX11_set_98 rfl rfl ?_
            refine zi_lastore 101 dX11_set_100 N0.1.2.2.2.2.2.1 (vp_in_nI (show ((100 * tj) + ij) < 800 by omega) (by decide)) rfl ?_
            rw [nI_clamp (Nat.lt_trans (show ((100 * tj) + ij) < 800 by omega) (by decide))]
            refine zk_h (fun h3 k3 => ?_)
            have N3 := rN_I hD N0 k3
            refine zi_aload_n 102 dX11_set_101 rfl rfl ?_
            refine zi_iconst (v := 0) 103 dX11_set_102 (by decide) rfl ?_
            refine zi_putfield (fs' := [_, _, _, _, _, _, _, _, _, _, _]) 106 6 dX11_set_103 zcl_X11 tyX11 tyX11_ok nmX11 tw_869 rfl rfl rfl N3.1.1 rfl rfl rfl rfl rfl rfl ?_
            refine zk_h (fun h4 k4 => ?_)
            have N4 := rN_F hD N3 k4
            refine zi_lload 108 dX11_set_106 rfl rfl ?_
            exact zr_long hZ dX11_set_108 rfl ⟨_, rfl, _, by rw [r_set, if_neg zzO, nI_clamp htj31, if_neg zzL, if_neg zzI, nI_clamp hij31], ⟨_, N4.1, mQ_F 0 (mQ_tr K (ln_sm K.2.2.1) (ln_sm K.2.2.2.1) (it_nw K hs0.2.2.1 (up_is (K.2.2.2.2.1 tj htj)) (fun i hi => up_o (by omega))))⟩, N4.2⟩
        ·
          rw [show (1 : Int32) = nI 1 from rfl, nI_eq (show qLn s tj < 2 ^ 31 by have := hs0.2.1 tj; omega) (by decide)] at zz1
          refine zi_lload_n 63 dX11_set_62 rfl rfl ?_
          refine zi_l2i 64 dX11_set_63 rfl ?_
          refine zi_i2b 65 dX11_set_64 rfl ?_
          refine zi_i2l 66 dX11_set_65 rfl ?_
          refine zi_goto 86 dX11_set_66 (by decide) ?_
          refine zi_val (congrArg Value.long (lnV_1 zz1)) ?_
          refine zi_lstore (lv' := [(5, _), (0, _), (1, _), (2, _), (3, _)]) 88 dX11_set_86 rfl rfl rfl ?_
          refine zi_aload_n 89 dX11_set_88 rfl rfl ?_
          refine zi_getfield 92 4 dX11_set_89 zcl_X11 tw_867 rfl rfl N0.1.1 rfl rfl ?_
          refine zi_bipush (v := 100) 94 dX11_set_92 (by decide) rfl ?_
          refine zi_iload_n 95 dX11_set_94 rfl rfl ?_
          refine zi_imul 96 dX11_set_95 rfl ?_
          rw [show (100 : Int32) * nI tj = nI (100 * tj) from ls_m 100 tj]
          refine zi_iload_n 97 dX11_set_96 rfl rfl ?_
          refine zi_iadd 98 dX11_set_97 rfl ?_
          rw [show (nI (100 * tj) : Int32) + nI ij = nI ((100 * tj) + ij) from nI_ad (100 * tj) ij]
          refine zi_lload 100 dX11_set_98 rfl rfl ?_
          refine zi_lastore 101 dX11_set_100 N0.1.2.2.2.2.2.1 (vp_in_nI (show ((100 * tj) + ij) < 800 by omega) (by decide)) rfl ?_
          rw [nI_clamp (Nat.lt_trans (show ((100 * tj) + ij) < 800 by omega) (by decide))]
          refine zk_h (fun h5 k5 => ?_)
          have N5 := rN_I hD N0 k5
          refine zi_aload_n 102 dX11_set_101 rfl rfl ?_
          refine zi_iconst (v := 0) 103 dX11_set_102 (by decide) rfl ?_
          refine zi_putfield (fs' := [_, _, _, _, _, _, _, _, _, _, _]) 106 6 dX11_set_103 zcl_X11 tyX11 tyX11_ok nmX11 tw_869 rfl rfl rfl N5.1.1 rfl rfl rfl rfl rfl rfl ?_
          refine zk_h (fun h6 k6 => ?_)
          have N6 := rN_F hD N5 k6
          refine zi_lload 108 dX11_set_106 rfl rfl ?_
          exact zr_long hZ dX11_set_108 rfl ⟨_, rfl, _, by rw [r_set, if_neg zzO, nI_clamp htj31, if_neg zzL, if_neg zzI, nI_clamp hij31], ⟨_, N6.1, mQ_F 0 (mQ_tr K (ln_sm K.2.2.1) (ln_sm K.2.2.2.1) (it_nw K hs0.2.2.1 (up_is (K.2.2.2.2.1 tj htj)) (fun i hi => up_o (by omega))))⟩, N6.2⟩
      ·
        rw [st_in (hs0.2.2.1 tj)] at zzI
        have zzI := Decidable.not_not.mp zzI
        refine zi_aload_n 46 dX11_set_45 rfl rfl ?_
        refine zi_iconst (v := 2) 47 dX11_set_46 (by decide) rfl ?_
        refine zc_virtual (n' := (0, 0)) (md' := mX11_finds) 50 dX11_set_47 tw_911 zv_X11_finds zcl_X11 (s_X11_finds B h D hD _ N0.1 _) N0.1.1 rfl rfl rfl rfl rfl rfl rfl rfl (zk_i fun x7 h7 p7 => ?_)
        obtain ⟨rfl, n7⟩ := p7
        have N7 := rN_t N0 n7
        refine zi_i2l 51 dX11_set_50 rfl ?_
        exact zr_long hZ dX11_set_51 rfl ⟨_, rfl, _, by rw [r_set, if_neg zzO, nI_clamp htj31, if_neg zzL, if_pos zzI], ⟨_, N7.1, mQ_F _ K⟩, N7.2⟩
    ·
      rw [nI_0e (show qLn s tj < 2 ^ 31 by have := hs0.2.1 tj; omega)] at zzL
      refine zi_aload_n 21 dX11_set_20 rfl rfl ?_
      refine zi_iconst (v := 1) 22 dX11_set_21 (by decide) rfl ?_
      refine zc_virtual (n' := (0, 0)) (md' := mX11_finds) 25 dX11_set_22 tw_911 zv_X11_finds zcl_X11 (s_X11_finds B h D hD _ N0.1 _) N0.1.1 rfl rfl rfl rfl rfl rfl rfl rfl (zk_i fun x8 h8 p8 => ?_)
      obtain ⟨rfl, n8⟩ := p8
      have N8 := rN_t N0 n8
      refine zi_i2l 26 dX11_set_25 rfl ?_
      exact zr_long hZ dX11_set_26 rfl ⟨_, rfl, _, by rw [r_set, if_neg zzO, nI_clamp htj31, if_pos zzL], ⟨_, N8.1, mQ_F _ K⟩, N8.2⟩
  ·
    have zzA := Decidable.not_not.mp (fun q => zzA (in_8.mpr q))
    refine zi_ldc2 10 dX11_set_7 tw_924 rfl ?_
    exact zr_long hZ dX11_set_10 rfl ⟨_, rfl, _, by rw [r_set, if_pos (by first | exact zzA)], ⟨m, N0.1, K⟩, N0.2⟩

set_option maxHeartbeats 2000000 in
set_option maxRecDepth 100000 in
theorem l_X11_copy1 (B : zBB) (h : zHp) (X : zX) (D : Nat → Nat) (hD : zInj D) (m : mS) (aj x bj z y : Nat) (ha : aj < 8) (hb : bj < 8) (hx : x + y ≤ 100) (hz : z + y ≤ 100) (kk : ∀ (h1 : zHp) (fv : Nat → Int64), rN B D (uV m fv) h h1 → (∀ j, j < y → fv j = wI m (100 * aj + x + j)) → zG X mX11_copy B (2, 0, 0) (0, 0) 154 [(6, .int (nI y)), (0, .ref (D 0)), (1, .int (nI aj)), (2, .int (nI x)), (3, .int (nI bj)), (4, .int (nI z)), (5, .int (nI y))] [] h1) : ∀ (n : Nat) (k : Nat) (h1 : zHp) (fv : Nat → Int64), y - k < n → (k ≤ y) → (rN B D (uV m fv) h h1) → (∀ j, j < k → fv j = wI m (100 * aj + x + j)) → zG X mX11_copy B (2, 0, 0) (0, 0) 120 [(6, .int (nI k)), (0, .ref (D 0)), (1, .int (nI aj)), (2, .int (nI x)), (3, .int (nI bj)), (4, .int (nI z)), (5, .int (nI y))] [] h1 := by
  intro n
  induction n with
  | zero => intro k h1 fv hn; omega
  | succ n ih =>
    intro k h1 fv hn hk N hv
    refine zi_iload 122 dX11_copy_120 rfl rfl ?_
    refine zi_iload 124 dX11_copy_122 rfl rfl ?_
    refine zi_icmp_ge 127 154 dX11_copy_124 (by decide) rfl (fun zzE => ?_) (fun zzE => ?_)
    ·
      rw [nI_leI (by omega) (by omega)] at zzE
      have ek : k = y := by omega
      subst ek
      exact kk h1 fv N hv
    ·
      rw [nI_leI (by omega) (by omega)] at zzE
      refine zi_aload_n 128 dX11_copy_127 rfl rfl ?_
      refine zi_getfield 131 5 dX11_copy_128 zcl_X11 tw_868 rfl rfl N.1.1 rfl rfl ?_
      refine zi_iload 133 dX11_copy_131 rfl rfl ?_
      refine zi_aload_n 134 dX11_copy_133 rfl rfl ?_
      refine zi_getfield 137 4 dX11_copy_134 zcl_X11 tw_867 rfl rfl N.1.1 rfl rfl ?_
      refine zi_bipush (v := 100) 139 dX11_copy_137 (by decide) rfl ?_
      refine zi_iload_n 140 dX11_copy_139 rfl rfl ?_
      refine zi_imul 141 dX11_copy_140 rfl ?_
      rw [show (100 : Int32) * nI aj = nI (100 * aj) from ls_m 100 aj]
      refine zi_iload_n 142 dX11_copy_141 rfl rfl ?_
      refine zi_iadd 143 dX11_copy_142 rfl ?_
      rw [show (nI (100 * aj) : Int32) + nI x = nI ((100 * aj) + x) from nI_ad (100 * aj) x]
      refine zi_iload 145 dX11_copy_143 rfl rfl ?_
      refine zi_iadd 146 dX11_copy_145 rfl ?_
      rw [show (nI ((100 * aj) + x) : Int32) + nI k = nI (((100 * aj) + x) + k) from nI_ad ((100 * aj) + x) k]
      refine zi_laload 147 dX11_copy_146 N.1.2.2.2.2.2.1 (vp_in_nI (show (((100 * aj) + x) + k) < 800 by omega) (by decide)) rfl ?_
      rw [nI_clamp (Nat.lt_trans (show (((100 * aj) + x) + k) < 800 by omega) (by decide))]
      refine zi_lastore 148 dX11_copy_147 N.1.2.2.2.2.2.2.1 (vp_in_nI (show k < 100 by omega) (by decide)) rfl ?_
      rw [nI_clamp (Nat.lt_trans (show k < 100 by omega) (by decide))]
      refine zk_h (fun h1 k1 => ?_)
      have N1 := rN_V hD N k1
      refine zi_iinc (v := nI (k + 1)) (lv' := [(6, _), (0, _), (1, _), (2, _), (3, _), (4, _), (5, _)]) 151 dX11_copy_148 rfl (nI_1 _) rfl rfl rfl ?_
      refine zi_goto 120 dX11_copy_151 (by decide) ?_
      exact zi_lv [0, 1, 2, 3, 4, 5, 6] rfl (ih (k + 1) h1 _ (by omega) (by omega) N1 (vu_s0 (g := fun j => wI m (100 * aj + x + j)) hv rfl))

set_option maxHeartbeats 2000000 in
set_option maxRecDepth 100000 in
theorem l_X11_copy2 (B : zBB) (h : zHp) (X : zX) (D : Nat → Nat) (hD : zInj D) (m : mS) (aj x bj z y : Nat) (ha : aj < 8) (hb : bj < 8) (hx : x + y ≤ 100) (hz : z + y ≤ 100) (kk : ∀ (h1 : zHp) (fi : Nat → Int64), rN B D (uI m fi) h h1 → (∀ j, j < y → fi (100 * bj + z + j) = wV m j) → (∀ i, (i < 100 * bj + z ∨ 100 * bj + z + y ≤ i) → fi i = wI m i) → zG X mX11_copy B (2, 0, 0) (0, 0) 192 [(6, .int (nI y)), (0, .ref (D 0)), (1, .int (nI aj)), (2, .int (nI x)), (3, .int (nI bj)), (4, .int (nI z)), (5, .int (nI y))] [] h1) : ∀ (n : Nat) (k : Nat) (h1 : zHp) (fi : Nat → Int64), y - k < n → (k ≤ y) → (rN B D (uI m fi) h h1) → (∀ j, j < k → fi (100 * bj + z + j) = wV m j) → (∀ i, (i < 100 * bj + z ∨ 100 * bj + z + y ≤ i) → fi i = wI m i) → zG X mX11_copy B (2, 0, 0) (0, 0) 157 [(6, .int (nI k)), (0, .ref (D 0)), (1, .int (nI aj)), (2, .int (nI x)), (3, .int (nI bj)), (4, .int (nI z)), (5, .int (nI y))] [] h1 := by
  intro n
  induction n with
  | zero => intro k h1 fi hn; omega
  | succ n ih =>
    intro k h1 fi hn hk N hv ho
    refine zi_iload 159 dX11_copy_157 rfl rfl ?_
    refine zi_iload 161 dX11_copy_159 rfl rfl ?_
    refine zi_icmp_ge 164 192 dX11_copy_161 (by decide) rfl (fun zzE => ?_) (fun zzE => ?_)
    ·
      rw [nI_leI (by omega) (by omega)] at zzE
      have ek : k = y := by omega
      subst ek
      exact kk h1 fi N hv ho
    ·
      rw [nI_leI (by omega) (by omega)] at zzE
      refine zi_aload_n 165 dX11_copy_164 rfl rfl ?_
      refine zi_getfield 168 4 dX11_copy_165 zcl_X11 tw_867 rfl rfl N.1.1 rfl rfl ?_
      refine zi_bipush (v := 100) 170 dX11_copy_168 (by decide) rfl ?_
      refine zi_iload_n 171 dX11_copy_170 rfl rfl ?_
      refine zi_imul 172 dX11_copy_171 rfl ?_
      rw [show (100 : Int32) * nI bj = nI (100 * bj) from ls_m 100 bj]
      refine zi_iload 174 dX11_copy_172 rfl rfl ?_
      refine zi_iadd 175 dX11_copy_174 rfl ?_
      rw [show (nI (100 * bj) : Int32) + nI z = nI ((100 * bj) + z) from nI_ad (100 * bj) z]
      refine zi_iload 177 dX11_copy_175 rfl rfl ?_
      refine zi_iadd 178 dX11_copy_177 rfl ?_
      rw [show (nI ((100 * bj) + z) : Int32) + nI k = nI (((100 * bj) + z) + k) from nI_ad ((100 * bj) + z) k]
      refine zi_aload_n 179 dX11_copy_178 rfl rfl ?_
      refine zi_getfield 182 5 dX11_copy_179 zcl_X11 tw_868 rfl rfl N.1.1 rfl rfl ?_
      refine zi_iload 184 dX11_copy_182 rfl rfl ?_
      refine zi_laload 185 dX11_copy_184 N.1.2.2.2.2.2.2.1 (vp_in_nI (show k < 100 by omega) (by decide)) rfl ?_
      rw [nI_clamp (Nat.lt_trans (show k < 100 by omega) (by decide))]
      refine zi_lastore 186 dX11_copy_185 N.1.2.2.2.2.2.1 (vp_in_nI (show (((100 * bj) + z) + k) < 800 by omega) (by decide)) rfl ?_
      rw [nI_clamp (Nat.lt_trans (show (((100 * bj) + z) + k) < 800 by omega) (by decide))]
      refine zk_h (fun h1 k1 => ?_)
      have N1 := rN_I hD N k1
      refine zi_iinc (v := nI (k + 1)) (lv' := [(6, _), (0, _), (1, _), (2, _), (3, _), (4, _), (5, _)]) 189 dX11_copy_186 rfl (nI_1 _) rfl rfl rfl ?_
      refine zi_goto 157 dX11_copy_189 (by decide) ?_
      exact zi_lv [0, 1, 2, 3, 4, 5, 6] rfl (ih (k + 1) h1 _ (by omega) (by omega) N1 (vu_s (g := wV m) hv rfl) (fun i hi => (up_o (by omega)).trans (ho i hi)))

theorem cp_is {f g : Nat → Int64} {fi fi' fv : Nat → Int64} {a b x z y sa sb : Nat} (ha : ∀ j, j < sa → fi (100 * a + j) = f j) (hb : ∀ j, j < sb → fi (100 * b + j) = g j) (h1 : x + y ≤ sa) (h2 : z + y ≤ sb) (hv : ∀ j, j < y → fv j = fi (100 * a + x + j)) (hw : ∀ j, j < y → fi' (100 * b + z + j) = fv j) (ho : ∀ i, (i < 100 * b + z ∨ 100 * b + z + y ≤ i) → fi' i = fi i) : ∀ j, j < sb → fi' (100 * b + j) = va_cpy f g x z y j := fun j hj => by
  unfold va_cpy
  split
  · rename_i c
    rw [show 100 * b + j = 100 * b + z + (j - z) by omega, hw _ (by omega), hv _ (by omega), Nat.add_assoc]
    exact ha _ (by omega)
  · rw [ho _ (by omega)]
    exact hb j hj

set_option maxHeartbeats 1000000 in
set_option maxRecDepth 100000 in
theorem s_X11_copy (B : zBB) (h : zHp) (D : Nat → Nat) (hD : zInj D) (s : zSt) (hs0 : okSt s) (hR : rRm B D s h) (a : Int32) (i : Int32) (b : Int32) (j : Int32) (n : Int32) : zSpec mX11_copy B (2, 0, 0) [.ref (D 0), .int a, .int i, .int b, .int j, .int n] h (zPi (fun zx h' => ∃ s' : zSt, r_copy s a i b j n = (zx, s') ∧ rRm B D s' h' ∧ rOd D h h')) := by
  refine zSpec.of (by decide) (Nat.le_of_ble_eq_true rfl) (fun X hZ => ?_)
  show zG X mX11_copy B (2, 0, 0) (0, 0) 0 [(0, .ref (D 0)), (1, .int a), (2, .int i), (3, .int b), (4, .int j), (5, .int n)] [] h
  obtain ⟨m, M, K⟩ := hR
  have N0 := rN_r M
  refine zi_iload_n 1 dX11_copy_0 rfl rfl ?_
  refine zc_static (n' := (0, 0)) (md' := mX11_isTray) 4 dX11_copy_1 tw_902 zs_X11_isTray (s_X11_isTray B h _) rfl rfl rfl rfl rfl rfl rfl rfl (zk_f ?_)
  refine zb_eq 7 14 dX11_copy_4 (by decide) rfl (fun zzA => ?_) (fun zzA => ?_)
  ·
    have zzA := Decidable.not_not.mp (fun q => zzA (in_8.mpr q))
    refine zi_ldc 16 dX11_copy_14 tw_910 rfl ?_
    exact zr_int hZ dX11_copy_16 rfl rfl ⟨_, rfl, _, by rw [r_copy, if_pos (by first | exact Or.inl zzA | exact Or.inr (zzB))], ⟨m, N0.1, K⟩, N0.2⟩
  ·
    have zzA := in_8.mp zzA
    refine zi_iload_n 8 dX11_copy_7 rfl rfl ?_
    refine zc_static (n' := (0, 0)) (md' := mX11_isTray) 11 dX11_copy_8 tw_902 zs_X11_isTray (s_X11_isTray B h _) rfl rfl rfl rfl rfl rfl rfl rfl (zk_f ?_)
    refine zb_ne 14 17 dX11_copy_11 (by decide) rfl (fun zzB => ?_) (fun zzB => ?_)
    ·
      have zzB := in_8.mp zzB
      have zzO : ¬ (zOut a 8 ∨ zOut b 8) := fun r => r.elim zzA zzB
      obtain ⟨aj, haj, haj31, rfl⟩ := out_i (N := 8) (by decide) zzA
      obtain ⟨bj, hbj, hbj31, rfl⟩ := out_i (N := 8) (by decide) zzB
      refine zi_aload_n 18 dX11_copy_17 rfl rfl ?_
      refine zi_getfield 21 2 dX11_copy_18 zcl_X11 tw_865 rfl rfl N0.1.1 rfl rfl ?_
      refine zi_iload_n 22 dX11_copy_21 rfl rfl ?_
      refine zi_iaload 23 dX11_copy_22 N0.1.2.2.2.1 (vp_in_nI (show aj < 8 by omega) (by decide)) rfl ?_
      rw [nI_clamp (Nat.lt_trans (show aj < 8 by omega) (by decide))]
      rw [show wL _ aj = nI (qLn s aj) from K.2.2.1 aj haj]
      refine zi_if_eq 26 35 dX11_copy_23 (by decide) rfl (fun zzL => ?_) (fun zzL => ?_)
      ·
        rw [nI_0e (show qLn s aj < 2 ^ 31 by have := hs0.2.1 aj; omega)] at zzL
        refine zi_aload_n 36 dX11_copy_35 rfl rfl ?_
        refine zi_iconst (v := 1) 37 dX11_copy_36 (by decide) rfl ?_
        refine zc_virtual (n' := (0, 0)) (md' := mX11_finds) 40 dX11_copy_37 tw_911 zv_X11_finds zcl_X11 (s_X11_finds B h D hD _ N0.1 _) N0.1.1 rfl rfl rfl rfl rfl rfl rfl rfl (zk_i fun x1 h1 p1 => ?_)
        obtain ⟨rfl, n1⟩ := p1
        have N1 := rN_t N0 n1
        exact zr_int hZ dX11_copy_40 rfl rfl ⟨_, rfl, _, by rw [r_copy, if_neg zzO, nI_clamp haj31, nI_clamp hbj31, if_pos (by first | exact Or.inl zzL | exact Or.inr zzM)], ⟨_, N1.1, mQ_F _ K⟩, N1.2⟩
      ·
        rw [nI_0e (show qLn s aj < 2 ^ 31 by have := hs0.2.1 aj; omega)] at zzL
        refine zi_aload_n 27 dX11_copy_26 rfl rfl ?_
        refine zi_getfield 30 2 dX11_copy_27 zcl_X11 tw_865 rfl rfl N0.1.1 rfl rfl ?_
        refine zi_iload_n 31 dX11_copy_30 rfl rfl ?_
        refine zi_iaload 32 dX11_copy_31 N0.1.2.2.2.1 (vp_in_nI (show bj < 8 by omega) (by decide)) rfl ?_
        rw [nI_clamp (Nat.lt_trans (show bj < 8 by omega) (by decide))]
        rw [show wL _ bj = nI (qLn s bj) from K.2.2.1 bj hbj]
        refine zi_if_ne 35 41 dX11_copy_32 (by decide) rfl (fun zzM => ?_) (fun zzM => ?_)
        ·
          rw [nI_0e (show qLn s bj < 2 ^ 31 by have := hs0.2.1 bj; omega)] at zzM
          refine zi_aload_n 42 dX11_copy_41 rfl rfl ?_
          refine zi_getfield 45 2 dX11_copy_42 zcl_X11 tw_865 rfl rfl N0.1.1 rfl rfl ?_
          refine zi_iload_n 46 dX11_copy_45 rfl rfl ?_
          refine zi_iaload 47 dX11_copy_46 N0.1.2.2.2.1 (vp_in_nI (show aj < 8 by omega) (by decide)) rfl ?_
          rw [nI_clamp (Nat.lt_trans (show aj < 8 by omega) (by decide))]
          rw [show wL _ aj = nI (qLn s aj) from K.2.2.1 aj haj]
          refine zi_aload_n 48 dX11_copy_47 rfl rfl ?_
          refine zi_getfield 51 2 dX11_copy_48 zcl_X11 tw_865 rfl rfl N0.1.1 rfl rfl ?_
          refine zi_iload_n 52 dX11_copy_51 rfl rfl ?_
          refine zi_iaload 53 dX11_copy_52 N0.1.2.2.2.1 (vp_in_nI (show bj < 8 by omega) (by decide)) rfl ?_
          rw [nI_clamp (Nat.lt_trans (show bj < 8 by omega) (by decide))]
          rw [show wL _ bj = nI (qLn s bj) from K.2.2.1 bj hbj]
          refine zi_icmp_eq 56 62 dX11_copy_53 (by decide) rfl (fun zzE => ?_) (fun zzE => ?_)
          ·
            rw [nI_eq (show qLn s aj < 2 ^ 31 by have := hs0.2.1 aj; omega) (show qLn s bj < 2 ^ 31 by have := hs0.2.1 bj; omega)] at zzE
            refine zi_iload_n 63 dX11_copy_62 rfl rfl ?_
            refine zi_if_lt 66 111 dX11_copy_63 (by decide) rfl (fun zzI => ?_) (fun zzI => ?_)
            ·
              refine zi_aload_n 112 dX11_copy_111 rfl rfl ?_
              refine zi_iconst (v := 2) 113 dX11_copy_112 (by decide) rfl ?_
              refine zc_virtual (n' := (0, 0)) (md' := mX11_finds) 116 dX11_copy_113 tw_911 zv_X11_finds zcl_X11 (s_X11_finds B h D hD _ N0.1 _) N0.1.1 rfl rfl rfl rfl rfl rfl rfl rfl (zk_i fun x2 h2 p2 => ?_)
              obtain ⟨rfl, n2⟩ := p2
              have N2 := rN_t N0 n2
              exact zr_int hZ dX11_copy_116 rfl rfl ⟨_, rfl, _, by rw [r_copy, if_neg zzO, nI_clamp haj31, nI_clamp hbj31, if_neg (fun r => r.elim zzL zzM), if_neg (fun r => r zzE), if_neg (by first | exact fun q => q.1.1 zzI | exact fun q => q.2.1 zzJ | exact fun q => q.1.2.1 zzN | exact fun q => (run_iff (hs0.2.2.1 aj) zzI zzN).mp q.1 zzP | exact fun q => (run_iff (hs0.2.2.1 bj) zzJ zzN).mp q.2 (z_nle64.mp zzQ))], ⟨_, N2.1, mQ_F _ K⟩, N2.2⟩
            ·
              refine zi_iload 68 dX11_copy_66 rfl rfl ?_
              refine zi_if_lt 71 111 dX11_copy_68 (by decide) rfl (fun zzJ => ?_) (fun zzJ => ?_)
              ·
                refine zi_aload_n 112 dX11_copy_111 rfl rfl ?_
                refine zi_iconst (v := 2) 113 dX11_copy_112 (by decide) rfl ?_
                refine zc_virtual (n' := (0, 0)) (md' := mX11_finds) 116 dX11_copy_113 tw_911 zv_X11_finds zcl_X11 (s_X11_finds B h D hD _ N0.1 _) N0.1.1 rfl rfl rfl rfl rfl rfl rfl rfl (zk_i fun x3 h3 p3 => ?_)
                obtain ⟨rfl, n3⟩ := p3
                have N3 := rN_t N0 n3
                exact zr_int hZ dX11_copy_116 rfl rfl ⟨_, rfl, _, by rw [r_copy, if_neg zzO, nI_clamp haj31, nI_clamp hbj31, if_neg (fun r => r.elim zzL zzM), if_neg (fun r => r zzE), if_neg (by first | exact fun q => q.1.1 zzI | exact fun q => q.2.1 zzJ | exact fun q => q.1.2.1 zzN | exact fun q => (run_iff (hs0.2.2.1 aj) zzI zzN).mp q.1 zzP | exact fun q => (run_iff (hs0.2.2.1 bj) zzJ zzN).mp q.2 (z_nle64.mp zzQ))], ⟨_, N3.1, mQ_F _ K⟩, N3.2⟩
              ·
                refine zi_iload 73 dX11_copy_71 rfl rfl ?_
                refine zi_if_lt 76 111 dX11_copy_73 (by decide) rfl (fun zzN => ?_) (fun zzN => ?_)
                ·
                  refine zi_aload_n 112 dX11_copy_111 rfl rfl ?_
                  refine zi_iconst (v := 2) 113 dX11_copy_112 (by decide) rfl ?_
                  refine zc_virtual (n' := (0, 0)) (md' := mX11_finds) 116 dX11_copy_113 tw_911 zv_X11_finds zcl_X11 (s_X11_finds B h D hD _ N0.1 _) N0.1.1 rfl rfl rfl rfl rfl rfl rfl rfl (zk_i fun x4 h4 p4 => ?_)
                  obtain ⟨rfl, n4⟩ := p4
                  have N4 := rN_t N0 n4
                  exact zr_int hZ dX11_copy_116 rfl rfl ⟨_, rfl, _, by rw [r_copy, if_neg zzO, nI_clamp haj31, nI_clamp hbj31, if_neg (fun r => r.elim zzL zzM), if_neg (fun r => r zzE), if_neg (by first | exact fun q => q.1.1 zzI | exact fun q => q.2.1 zzJ | exact fun q => q.1.2.1 zzN | exact fun q => (run_iff (hs0.2.2.1 aj) zzI zzN).mp q.1 zzP | exact fun q => (run_iff (hs0.2.2.1 bj) zzJ zzN).mp q.2 (z_nle64.mp zzQ))], ⟨_, N4.1, mQ_F _ K⟩, N4.2⟩
                ·
                  refine zi_iload_n 77 dX11_copy_76 rfl rfl ?_
                  refine zi_i2l 78 dX11_copy_77 rfl ?_
                  refine zi_iload 80 dX11_copy_78 rfl rfl ?_
                  refine zi_i2l 81 dX11_copy_80 rfl ?_
                  refine zi_ladd 82 dX11_copy_81 rfl ?_
                  refine zi_aload_n 83 dX11_copy_82 rfl rfl ?_
                  refine zi_getfield 86 3 dX11_copy_83 zcl_X11 tw_866 rfl rfl N0.1.1 rfl rfl ?_
                  refine zi_iload_n 87 dX11_copy_86 rfl rfl ?_
                  refine zi_iaload 88 dX11_copy_87 N0.1.2.2.2.2.1 (vp_in_nI (show aj < 8 by omega) (by decide)) rfl ?_
                  rw [nI_clamp (Nat.lt_trans (show aj < 8 by omega) (by decide))]
                  rw [show wZ _ aj = nI (qSz s aj) from K.2.2.2.1 aj haj]
                  refine zi_i2l 89 dX11_copy_88 rfl ?_
                  refine zj_gt 93 111 dX11_copy_89 rfl dX11_copy_90 (by decide) rfl (fun zzP => ?_) (fun zzP => ?_)
                  ·
                    refine zi_aload_n 112 dX11_copy_111 rfl rfl ?_
                    refine zi_iconst (v := 2) 113 dX11_copy_112 (by decide) rfl ?_
                    refine zc_virtual (n' := (0, 0)) (md' := mX11_finds) 116 dX11_copy_113 tw_911 zv_X11_finds zcl_X11 (s_X11_finds B h D hD _ N0.1 _) N0.1.1 rfl rfl rfl rfl rfl rfl rfl rfl (zk_i fun x5 h5 p5 => ?_)
                    obtain ⟨rfl, n5⟩ := p5
                    have N5 := rN_t N0 n5
                    exact zr_int hZ dX11_copy_116 rfl rfl ⟨_, rfl, _, by rw [r_copy, if_neg zzO, nI_clamp haj31, nI_clamp hbj31, if_neg (fun r => r.elim zzL zzM), if_neg (fun r => r zzE), if_neg (by first | exact fun q => q.1.1 zzI | exact fun q => q.2.1 zzJ | exact fun q => q.1.2.1 zzN | exact fun q => (run_iff (hs0.2.2.1 aj) zzI zzN).mp q.1 zzP | exact fun q => (run_iff (hs0.2.2.1 bj) zzJ zzN).mp q.2 (z_nle64.mp zzQ))], ⟨_, N5.1, mQ_F _ K⟩, N5.2⟩
                  ·
                    refine zi_iload 95 dX11_copy_93 rfl rfl ?_
                    refine zi_i2l 96 dX11_copy_95 rfl ?_
                    refine zi_iload 98 dX11_copy_96 rfl rfl ?_
                    refine zi_i2l 99 dX11_copy_98 rfl ?_
                    refine zi_ladd 100 dX11_copy_99 rfl ?_
                    refine zi_aload_n 101 dX11_copy_100 rfl rfl ?_
                    refine zi_getfield 104 3 dX11_copy_101 zcl_X11 tw_866 rfl rfl N0.1.1 rfl rfl ?_
                    refine zi_iload_n 105 dX11_copy_104 rfl rfl ?_
                    refine zi_iaload 106 dX11_copy_105 N0.1.2.2.2.2.1 (vp_in_nI (show bj < 8 by omega) (by decide)) rfl ?_
                    rw [nI_clamp (Nat.lt_trans (show bj < 8 by omega) (by decide))]
                    rw [show wZ _ bj = nI (qSz s bj) from K.2.2.2.1 bj hbj]
                    refine zi_i2l 107 dX11_copy_106 rfl ?_
                    refine zj_le 111 117 dX11_copy_107 rfl dX11_copy_108 (by decide) rfl (fun zzQ => ?_) (fun zzQ => ?_)
                    ·
                      have rA : zRun i n (nI (qSz s aj)) := (run_iff (hs0.2.2.1 aj) zzI zzN).mpr zzP
                      have rB : zRun j n (nI (qSz s bj)) := (run_iff (hs0.2.2.1 bj) zzJ zzN).mpr (fun q => z_nle64.mpr q zzQ)
                      have hzA := hs0.2.2.1 aj
                      have hzB := hs0.2.2.1 bj
                      obtain ⟨x, y, hx, hy, rfl, rfl, hxy⟩ := run_n hzA rA
                      obtain ⟨z, y2, hz, hy2, rfl, ey, hzy⟩ := run_n hzB rB
                      rw [nI_eq hy hy2] at ey
                      subst ey
                      refine zi_iconst (v := 0) 118 dX11_copy_117 (by decide) rfl ?_
                      refine zi_istore (lv' := [(6, _), (0, _), (1, _), (2, _), (3, _), (4, _), (5, _)]) 120 dX11_copy_118 rfl rfl rfl ?_
                      refine zi_lv [0, 1, 2, 3, 4, 5, 6] rfl (l_X11_copy1 B h X D hD m aj x bj z y haj hbj (by omega) (by omega) (fun hL fv NL hv => ?_) (y + 1) 0 h (wV m) (by omega) (by omega) N0 (fun j hj => absurd hj (Nat.not_lt_zero _)))
                      refine zi_iconst (v := 0) 155 dX11_copy_154 (by decide) rfl ?_
                      refine zi_istore (lv' := [(6, _), (0, _), (1, _), (2, _), (3, _), (4, _), (5, _)]) 157 dX11_copy_155 rfl rfl rfl ?_
                      refine zi_lv [0, 1, 2, 3, 4, 5, 6] rfl (l_X11_copy2 B h X D hD (uV m fv) aj x bj z y haj hbj (by omega) (by omega) (fun hL2 fi NL2 hv2 ho => ?_) (y + 1) 0 hL (wI m) (by omega) (by omega) NL (fun j hj => absurd hj (Nat.not_lt_zero _)) (fun i hi => rfl))
                      refine zi_aload_n 193 dX11_copy_192 rfl rfl ?_
                      refine zi_iload 195 dX11_copy_193 rfl rfl ?_
                      refine zc_virtual (n' := (0, 0)) (md' := mX11_well) 198 dX11_copy_195 tw_916 zv_X11_well zcl_X11 (s_X11_well B hL2 D hD _ NL2.1 _) NL2.1.1 rfl rfl rfl rfl rfl rfl rfl rfl (zk_i fun x6 h6 p6 => ?_)
                      obtain ⟨rfl, n6⟩ := p6
                      have N6 := rN_t NL2 n6
                      exact zr_int hZ dX11_copy_198 rfl rfl ⟨_, rfl, _, by rw [r_copy, if_neg zzO, nI_clamp haj31, nI_clamp hbj31, if_neg (fun r => r.elim zzL zzM), if_neg (fun r => r zzE), if_pos ⟨rA, rB⟩, nI_clamp hx, nI_clamp hz, nI_clamp hy], ⟨_, N6.1, mQ_F 0 (mQ_tr K (ln_sm K.2.2.1) (ln_sm K.2.2.2.1) (it_nw K hs0.2.2.1 (cp_is (K.2.2.2.2.1 aj haj) (K.2.2.2.2.1 bj hbj) hxy hzy hv hv2 ho) (fun i hi => ho i (by omega))))⟩, N6.2⟩
                    ·
                      refine zi_aload_n 112 dX11_copy_111 rfl rfl ?_
                      refine zi_iconst (v := 2) 113 dX11_copy_112 (by decide) rfl ?_
                      refine zc_virtual (n' := (0, 0)) (md' := mX11_finds) 116 dX11_copy_113 tw_911 zv_X11_finds zcl_X11 (s_X11_finds B h D hD _ N0.1 _) N0.1.1 rfl rfl rfl rfl rfl rfl rfl rfl (zk_i fun x7 h7 p7 => ?_)
                      obtain ⟨rfl, n7⟩ := p7
                      have N7 := rN_t N0 n7
                      exact zr_int hZ dX11_copy_116 rfl rfl ⟨_, rfl, _, by rw [r_copy, if_neg zzO, nI_clamp haj31, nI_clamp hbj31, if_neg (fun r => r.elim zzL zzM), if_neg (fun r => r zzE), if_neg (by first | exact fun q => q.1.1 zzI | exact fun q => q.2.1 zzJ | exact fun q => q.1.2.1 zzN | exact fun q => (run_iff (hs0.2.2.1 aj) zzI zzN).mp q.1 zzP | exact fun q => (run_iff (hs0.2.2.1 bj) zzJ zzN).mp q.2 (z_nle64.mp zzQ))], ⟨_, N7.1, mQ_F _ K⟩, N7.2⟩
          ·
            rw [nI_eq (show qLn s aj < 2 ^ 31 by have := hs0.2.1 aj; omega) (show qLn s bj < 2 ^ 31 by have := hs0.2.1 bj; omega)] at zzE
            refine zi_aload_n 57 dX11_copy_56 rfl rfl ?_
            refine zi_iconst (v := 5) 58 dX11_copy_57 (by decide) rfl ?_
            refine zc_virtual (n' := (0, 0)) (md' := mX11_finds) 61 dX11_copy_58 tw_911 zv_X11_finds zcl_X11 (s_X11_finds B h D hD _ N0.1 _) N0.1.1 rfl rfl rfl rfl rfl rfl rfl rfl (zk_i fun x8 h8 p8 => ?_)
            obtain ⟨rfl, n8⟩ := p8
            have N8 := rN_t N0 n8
            exact zr_int hZ dX11_copy_61 rfl rfl ⟨_, rfl, _, by rw [r_copy, if_neg zzO, nI_clamp haj31, nI_clamp hbj31, if_neg (fun r => r.elim zzL zzM), if_pos zzE], ⟨_, N8.1, mQ_F _ K⟩, N8.2⟩
        ·
          rw [nI_0e (show qLn s bj < 2 ^ 31 by have := hs0.2.1 bj; omega)] at zzM
          refine zi_aload_n 36 dX11_copy_35 rfl rfl ?_
          refine zi_iconst (v := 1) 37 dX11_copy_36 (by decide) rfl ?_
          refine zc_virtual (n' := (0, 0)) (md' := mX11_finds) 40 dX11_copy_37 tw_911 zv_X11_finds zcl_X11 (s_X11_finds B h D hD _ N0.1 _) N0.1.1 rfl rfl rfl rfl rfl rfl rfl rfl (zk_i fun x9 h9 p9 => ?_)
          obtain ⟨rfl, n9⟩ := p9
          have N9 := rN_t N0 n9
          exact zr_int hZ dX11_copy_40 rfl rfl ⟨_, rfl, _, by rw [r_copy, if_neg zzO, nI_clamp haj31, nI_clamp hbj31, if_pos (by first | exact Or.inl zzL | exact Or.inr zzM)], ⟨_, N9.1, mQ_F _ K⟩, N9.2⟩
    ·
      have zzB := Decidable.not_not.mp (fun q => zzB (in_8.mpr q))
      refine zi_ldc 16 dX11_copy_14 tw_910 rfl ?_
      exact zr_int hZ dX11_copy_16 rfl rfl ⟨_, rfl, _, by rw [r_copy, if_pos (by first | exact Or.inl zzA | exact Or.inr (zzB))], ⟨m, N0.1, K⟩, N0.2⟩

set_option maxHeartbeats 1000000 in
set_option maxRecDepth 100000 in
theorem s_X11_take (B : zBB) (h : zHp) (D : Nat → Nat) (hD : zInj D) (s : zSt) (hs0 : okSt s) (hR : rRm B D s h) (t : Int32) (y : Int32) (i : Int32) : zSpec mX11_take B (3, 0, 0) [.ref (D 0), .int t, .int y, .int i] h (zPi (fun zx h' => ∃ s' : zSt, r_take s t y i = (zx, s') ∧ rRm B D s' h' ∧ rOd D h h')) := by
  refine zSpec.of (by decide) (Nat.le_of_ble_eq_true rfl) (fun X hZ => ?_)
  show zG X mX11_take B (3, 0, 0) (0, 0) 0 [(0, .ref (D 0)), (1, .int t), (2, .int y), (3, .int i)] [] h
  obtain ⟨m, M, K⟩ := hR
  have N0 := rN_r M
  refine zi_iload_n 1 dX11_take_0 rfl rfl ?_
  refine zc_static (n' := (0, 0)) (md' := mX11_isSlot) 4 dX11_take_1 tw_937 zs_X11_isSlot (s_X11_isSlot B h _) rfl rfl rfl rfl rfl rfl rfl rfl (zk_f ?_)
  refine zb_eq 7 14 dX11_take_4 (by decide) rfl (fun zzA => ?_) (fun zzA => ?_)
  ·
    have zzA := Decidable.not_not.mp (fun q => zzA (in_20.mpr q))
    refine zi_ldc 16 dX11_take_14 tw_910 rfl ?_
    exact zr_int hZ dX11_take_16 rfl rfl ⟨_, rfl, _, by rw [r_take, if_pos (by first | exact Or.inl zzA | exact Or.inr (zzB))], ⟨m, N0.1, K⟩, N0.2⟩
  ·
    have zzA := in_20.mp zzA
    refine zi_iload_n 8 dX11_take_7 rfl rfl ?_
    refine zc_static (n' := (0, 0)) (md' := mX11_isTray) 11 dX11_take_8 tw_902 zs_X11_isTray (s_X11_isTray B h _) rfl rfl rfl rfl rfl rfl rfl rfl (zk_f ?_)
    refine zb_ne 14 17 dX11_take_11 (by decide) rfl (fun zzB => ?_) (fun zzB => ?_)
    ·
      have zzB := in_8.mp zzB
      have zzO : ¬ (zOut t 20 ∨ zOut y 8) := fun r => r.elim zzA zzB
      obtain ⟨ti, hti, hti31, rfl⟩ := out_i (N := 20) (by decide) zzA
      obtain ⟨yj, hyj, hyj31, rfl⟩ := out_i (N := 8) (by decide) zzB
      refine zi_aload_n 18 dX11_take_17 rfl rfl ?_
      refine zi_getfield 21 2 dX11_take_18 zcl_X11 tw_865 rfl rfl N0.1.1 rfl rfl ?_
      refine zi_iload_n 22 dX11_take_21 rfl rfl ?_
      refine zi_iaload 23 dX11_take_22 N0.1.2.2.2.1 (vp_in_nI (show yj < 8 by omega) (by decide)) rfl ?_
      rw [nI_clamp (Nat.lt_trans (show yj < 8 by omega) (by decide))]
      rw [show wL _ yj = nI (qLn s yj) from K.2.2.1 yj hyj]
      refine zi_if_ne 26 32 dX11_take_23 (by decide) rfl (fun zzL => ?_) (fun zzL => ?_)
      ·
        rw [nI_0e (show qLn s yj < 2 ^ 31 by have := hs0.2.1 yj; omega)] at zzL
        refine zi_iload_n 33 dX11_take_32 rfl rfl ?_
        refine zi_i2l 34 dX11_take_33 rfl ?_
        refine zi_lconst (v := 0) 35 dX11_take_34 (by decide) rfl ?_
        refine zi_aload_n 36 dX11_take_35 rfl rfl ?_
        refine zi_getfield 39 3 dX11_take_36 zcl_X11 tw_866 rfl rfl N0.1.1 rfl rfl ?_
        refine zi_iload_n 40 dX11_take_39 rfl rfl ?_
        refine zi_iaload 41 dX11_take_40 N0.1.2.2.2.2.1 (vp_in_nI (show yj < 8 by omega) (by decide)) rfl ?_
        rw [nI_clamp (Nat.lt_trans (show yj < 8 by omega) (by decide))]
        rw [show wZ _ yj = nI (qSz s yj) from K.2.2.2.1 yj hyj]
        refine zi_iconst (v := 4) 42 dX11_take_41 (by decide) rfl ?_
        refine zi_isub 43 dX11_take_42 rfl ?_
        refine zi_i2l 44 dX11_take_43 rfl ?_
        refine zc_static (n' := (0, 0)) (md' := mX11_in) 47 dX11_take_44 tw_906 zs_X11_in (s_X11_in B h _ _ _) rfl rfl rfl rfl rfl rfl rfl rfl (zk_f ?_)
        refine zb_ne 50 56 dX11_take_47 (by decide) rfl (fun zzR => ?_) (fun zzR => ?_)
        ·
          rw [tk_in (hs0.2.2.1 yj)] at zzR
          have h100 := hs0.2.2.1 yj
          have h5 := K.2.2.2.2.1 yj hyj
          obtain ⟨x, y4, hx, hy4, rfl, e4, hx4⟩ := run_n h100 zzR
          rw [show (4 : Int32) = nI 4 from rfl, nI_eq (by decide) hy4] at e4
          subst e4
          refine zi_bipush (v := 100) 58 dX11_take_56 (by decide) rfl ?_
          refine zi_iload_n 59 dX11_take_58 rfl rfl ?_
          refine zi_imul 60 dX11_take_59 rfl ?_
          rw [show (100 : Int32) * nI yj = nI (100 * yj) from ls_m 100 yj]
          refine zi_iload_n 61 dX11_take_60 rfl rfl ?_
          refine zi_iadd 62 dX11_take_61 rfl ?_
          rw [show (nI (100 * yj) : Int32) + nI x = nI ((100 * yj) + x) from nI_ad (100 * yj) x]
          refine zi_istore (lv' := [(4, _), (0, _), (1, _), (2, _), (3, _)]) 64 dX11_take_62 rfl rfl rfl ?_
          refine zi_iconst (v := 1) 65 dX11_take_64 (by decide) rfl ?_
          refine zi_istore (lv' := [(5, _), (4, _), (0, _), (1, _), (2, _), (3, _)]) 67 dX11_take_65 rfl rfl rfl ?_
          refine zi_iconst (v := 1) 68 dX11_take_67 (by decide) rfl ?_
          refine zi_istore (lv' := [(6, _), (5, _), (4, _), (0, _), (1, _), (2, _), (3, _)]) 70 dX11_take_68 rfl rfl rfl ?_
          refine zi_iconst (v := 0) 71 dX11_take_70 (by decide) rfl ?_
          refine zi_istore (lv' := [(7, _), (6, _), (5, _), (4, _), (0, _), (1, _), (2, _), (3, _)]) 73 dX11_take_71 rfl rfl rfl ?_
          refine zi_iload 75 dX11_take_73 rfl rfl ?_
          refine zi_iconst (v := 4) 76 dX11_take_75 (by decide) rfl ?_
          refine zi_icmp_ge 79 156 dX11_take_76 (by decide) rfl (fun c_76 => absurd c_76 (by decide)) (fun c_76 => ?_)
          refine zi_iload 81 dX11_take_79 rfl rfl ?_
          refine zi_if_eq 84 113 dX11_take_81 (by decide) rfl (fun c_81 => absurd c_81 (by decide)) (fun c_81 => ?_)
          refine zi_aload_n 85 dX11_take_84 rfl rfl ?_
          refine zi_getfield 88 4 dX11_take_85 zcl_X11 tw_867 rfl rfl N0.1.1 rfl rfl ?_
          refine zi_iload 90 dX11_take_88 rfl rfl ?_
          refine zi_iload 92 dX11_take_90 rfl rfl ?_
          refine zi_iadd 93 dX11_take_92 rfl ?_
          rw [show nI ((100 * yj) + x) + 0 = nI ((100 * yj) + x) from Int32.add_zero _]
          refine zi_laload 94 dX11_take_93 N0.1.2.2.2.2.2.1 (vp_in_nI (show ((100 * yj) + x) < 800 by omega) (by decide)) rfl ?_
          rw [nI_clamp (Nat.lt_trans (show ((100 * yj) + x) < 800 by omega) (by decide))]
          rw [show wI _ ((100 * yj) + x) = qIt s yj x from h5 x (by omega)]
          refine zi_lconst (v := 1) 95 dX11_take_94 (by decide) rfl ?_
          refine zi_land 96 dX11_take_95 rfl ?_
          refine zi_aload_n 97 dX11_take_96 rfl rfl ?_
          refine zi_getfield 100 4 dX11_take_97 zcl_X11 tw_867 rfl rfl N0.1.1 rfl rfl ?_
          refine zi_iload 102 dX11_take_100 rfl rfl ?_
          refine zi_laload 103 dX11_take_102 N0.1.2.2.2.2.2.1 (vp_in_nI (show ((100 * yj) + x) < 800 by omega) (by decide)) rfl ?_
          rw [nI_clamp (Nat.lt_trans (show ((100 * yj) + x) < 800 by omega) (by decide))]
          rw [show wI _ ((100 * yj) + x) = qIt s yj x from h5 x (by omega)]
          refine zi_lconst (v := 1) 104 dX11_take_103 (by decide) rfl ?_
          refine zi_land 105 dX11_take_104 rfl ?_
          refine zj_ne 109 113 dX11_take_105 rfl dX11_take_106 (by decide) rfl (fun zal0 => absurd rfl zal0) (fun zal0 => ?_)
          refine zi_iconst (v := 1) 110 dX11_take_109 (by decide) rfl ?_
          refine zi_goto 114 dX11_take_110 (by decide) ?_
          refine zi_istore (lv' := [(5, _), (7, _), (6, _), (4, _), (0, _), (1, _), (2, _), (3, _)]) 116 dX11_take_114 rfl rfl rfl ?_
          refine zi_iload 118 dX11_take_116 rfl rfl ?_
          refine zi_if_eq 121 147 dX11_take_118 (by decide) rfl (fun c_118 => absurd c_118 (by decide)) (fun c_118 => ?_)
          refine zi_aload_n 122 dX11_take_121 rfl rfl ?_
          refine zi_getfield 125 4 dX11_take_122 zcl_X11 tw_867 rfl rfl N0.1.1 rfl rfl ?_
          refine zi_iload 127 dX11_take_125 rfl rfl ?_
          refine zi_iload 129 dX11_take_127 rfl rfl ?_
          refine zi_iadd 130 dX11_take_129 rfl ?_
          rw [show nI ((100 * yj) + x) + 0 = nI ((100 * yj) + x) from Int32.add_zero _]
          refine zi_laload 131 dX11_take_130 N0.1.2.2.2.2.2.1 (vp_in_nI (show ((100 * yj) + x) < 800 by omega) (by decide)) rfl ?_
          rw [nI_clamp (Nat.lt_trans (show ((100 * yj) + x) < 800 by omega) (by decide))]
          rw [show wI _ ((100 * yj) + x) = qIt s yj x from h5 x (by omega)]
          refine zi_ldc2 134 dX11_take_131 tw_941 rfl ?_
          refine zi_ldc2 137 dX11_take_134 tw_942 rfl ?_
          refine zc_static (n' := (0, 0)) (md' := mX11_in) 140 dX11_take_137 tw_906 zs_X11_in (s_X11_in B h _ _ _) rfl rfl rfl rfl rfl rfl rfl rfl (zk_f ?_)
          refine zb_eq 143 147 dX11_take_140 (by decide) rfl (fun sm0 => ?_) (fun sm0 => ?_)
          ·
            refine zi_iconst (v := 0) 148 dX11_take_147 (by decide) rfl ?_
            refine zi_istore (lv' := [(6, _), (5, _), (7, _), (4, _), (0, _), (1, _), (2, _), (3, _)]) 150 dX11_take_148 rfl rfl rfl ?_
            refine zi_iinc (v := 1) (lv' := [(7, _), (6, _), (5, _), (4, _), (0, _), (1, _), (2, _), (3, _)]) 153 dX11_take_150 rfl rfl rfl rfl rfl ?_
            refine zi_goto 73 dX11_take_153 (by decide) ?_
            refine zi_iload 75 dX11_take_73 rfl rfl ?_
            refine zi_iconst (v := 4) 76 dX11_take_75 (by decide) rfl ?_
            refine zi_icmp_ge 79 156 dX11_take_76 (by decide) rfl (fun c_76 => absurd c_76 (by decide)) (fun c_76 => ?_)
            refine zi_iload 81 dX11_take_79 rfl rfl ?_
            refine zi_if_eq 84 113 dX11_take_81 (by decide) rfl (fun c_81 => absurd c_81 (by decide)) (fun c_81 => ?_)
            refine zi_aload_n 85 dX11_take_84 rfl rfl ?_
            refine zi_getfield 88 4 dX11_take_85 zcl_X11 tw_867 rfl rfl N0.1.1 rfl rfl ?_
            refine zi_iload 90 dX11_take_88 rfl rfl ?_
            refine zi_iload 92 dX11_take_90 rfl rfl ?_
            refine zi_iadd 93 dX11_take_92 rfl ?_
            rw [show (nI ((100 * yj) + x) : Int32) + 1 = nI (((100 * yj) + x) + 1) from nI_ad ((100 * yj) + x) 1]
            refine zi_laload 94 dX11_take_93 N0.1.2.2.2.2.2.1 (vp_in_nI (show (((100 * yj) + x) + 1) < 800 by omega) (by decide)) rfl ?_
            rw [nI_clamp (Nat.lt_trans (show (((100 * yj) + x) + 1) < 800 by omega) (by decide))]
            rw [show wI _ (((100 * yj) + x) + 1) = qIt s yj (x + 1) from (by rw [Nat.add_assoc]; exact h5 (x + 1) (by omega))]
            refine zi_lconst (v := 1) 95 dX11_take_94 (by decide) rfl ?_
            refine zi_land 96 dX11_take_95 rfl ?_
            refine zi_aload_n 97 dX11_take_96 rfl rfl ?_
            refine zi_getfield 100 4 dX11_take_97 zcl_X11 tw_867 rfl rfl N0.1.1 rfl rfl ?_
            refine zi_iload 102 dX11_take_100 rfl rfl ?_
            refine zi_laload 103 dX11_take_102 N0.1.2.2.2.2.2.1 (vp_in_nI (show ((100 * yj) + x) < 800 by omega) (by decide)) rfl ?_
            rw [nI_clamp (Nat.lt_trans (show ((100 * yj) + x) < 800 by omega) (by decide))]
            rw [show wI _ ((100 * yj) + x) = qIt s yj x from h5 x (by omega)]
            refine zi_lconst (v := 1) 104 dX11_take_103 (by decide) rfl ?_
            refine zi_land 105 dX11_take_104 rfl ?_
            refine zj_ne 109 113 dX11_take_105 rfl dX11_take_106 (by decide) rfl (fun al1 => ?_) (fun al1 => ?_)
            ·
              refine zi_iconst (v := 0) 114 dX11_take_113 (by decide) rfl ?_
              refine zi_istore (lv' := [(5, _), (7, _), (6, _), (4, _), (0, _), (1, _), (2, _), (3, _)]) 116 dX11_take_114 rfl rfl rfl ?_
              refine zi_iload 118 dX11_take_116 rfl rfl ?_
              refine zi_if_eq 121 147 dX11_take_118 (by decide) rfl (fun c_118 => ?_) (fun c_118 => absurd c_118 (by decide))
              refine zi_iconst (v := 0) 148 dX11_take_147 (by decide) rfl ?_
              refine zi_istore (lv' := [(6, _), (5, _), (7, _), (4, _), (0, _), (1, _), (2, _), (3, _)]) 150 dX11_take_148 rfl rfl rfl ?_
              refine zi_iinc (v := 2) (lv' := [(7, _), (6, _), (5, _), (4, _), (0, _), (1, _), (2, _), (3, _)]) 153 dX11_take_150 rfl rfl rfl rfl rfl ?_
              refine zi_goto 73 dX11_take_153 (by decide) ?_
              refine zi_iload 75 dX11_take_73 rfl rfl ?_
              refine zi_iconst (v := 4) 76 dX11_take_75 (by decide) rfl ?_
              refine zi_icmp_ge 79 156 dX11_take_76 (by decide) rfl (fun c_76 => absurd c_76 (by decide)) (fun c_76 => ?_)
              refine zi_iload 81 dX11_take_79 rfl rfl ?_
              refine zi_if_eq 84 113 dX11_take_81 (by decide) rfl (fun c_81 => ?_) (fun c_81 => absurd c_81 (by decide))
              refine zi_iconst (v := 0) 114 dX11_take_113 (by decide) rfl ?_
              refine zi_istore (lv' := [(5, _), (7, _), (6, _), (4, _), (0, _), (1, _), (2, _), (3, _)]) 116 dX11_take_114 rfl rfl rfl ?_
              refine zi_iload 118 dX11_take_116 rfl rfl ?_
              refine zi_if_eq 121 147 dX11_take_118 (by decide) rfl (fun c_118 => ?_) (fun c_118 => absurd c_118 (by decide))
              refine zi_iconst (v := 0) 148 dX11_take_147 (by decide) rfl ?_
              refine zi_istore (lv' := [(6, _), (5, _), (7, _), (4, _), (0, _), (1, _), (2, _), (3, _)]) 150 dX11_take_148 rfl rfl rfl ?_
              refine zi_iinc (v := 3) (lv' := [(7, _), (6, _), (5, _), (4, _), (0, _), (1, _), (2, _), (3, _)]) 153 dX11_take_150 rfl rfl rfl rfl rfl ?_
              refine zi_goto 73 dX11_take_153 (by decide) ?_
              refine zi_iload 75 dX11_take_73 rfl rfl ?_
              refine zi_iconst (v := 4) 76 dX11_take_75 (by decide) rfl ?_
              refine zi_icmp_ge 79 156 dX11_take_76 (by decide) rfl (fun c_76 => absurd c_76 (by decide)) (fun c_76 => ?_)
              refine zi_iload 81 dX11_take_79 rfl rfl ?_
              refine zi_if_eq 84 113 dX11_take_81 (by decide) rfl (fun c_81 => ?_) (fun c_81 => absurd c_81 (by decide))
              refine zi_iconst (v := 0) 114 dX11_take_113 (by decide) rfl ?_
              refine zi_istore (lv' := [(5, _), (7, _), (6, _), (4, _), (0, _), (1, _), (2, _), (3, _)]) 116 dX11_take_114 rfl rfl rfl ?_
              refine zi_iload 118 dX11_take_116 rfl rfl ?_
              refine zi_if_eq 121 147 dX11_take_118 (by decide) rfl (fun c_118 => ?_) (fun c_118 => absurd c_118 (by decide))
              refine zi_iconst (v := 0) 148 dX11_take_147 (by decide) rfl ?_
              refine zi_istore (lv' := [(6, _), (5, _), (7, _), (4, _), (0, _), (1, _), (2, _), (3, _)]) 150 dX11_take_148 rfl rfl rfl ?_
              refine zi_iinc (v := 4) (lv' := [(7, _), (6, _), (5, _), (4, _), (0, _), (1, _), (2, _), (3, _)]) 153 dX11_take_150 rfl rfl rfl rfl rfl ?_
              refine zi_goto 73 dX11_take_153 (by decide) ?_
              refine zi_iload 75 dX11_take_73 rfl rfl ?_
              refine zi_iconst (v := 4) 76 dX11_take_75 (by decide) rfl ?_
              refine zi_icmp_ge 79 156 dX11_take_76 (by decide) rfl (fun c_76 => ?_) (fun c_76 => absurd c_76 (by decide))
              refine zi_iload 158 dX11_take_156 rfl rfl ?_
              refine zi_if_ne 161 164 dX11_take_158 (by decide) rfl (fun c_158 => absurd c_158 (by decide)) (fun c_158 => ?_)
              refine zi_ldc 163 dX11_take_161 tw_910 rfl ?_
              exact zr_int hZ dX11_take_163 rfl rfl ⟨_, rfl, _, by rw [r_take, if_neg zzO, nI_clamp hyj31, if_neg zzL, if_pos zzR, nI_clamp hx, r_taken, if_pos (by first | exact tk_no1 (k := 1) (by decide) al1 | exact tk_no1 (k := 2) (by decide) al2 | exact tk_no1 (k := 3) (by decide) al3)], ⟨m, N0.1, K⟩, N0.2⟩
            ·
              refine zi_iconst (v := 1) 110 dX11_take_109 (by decide) rfl ?_
              refine zi_goto 114 dX11_take_110 (by decide) ?_
              refine zi_istore (lv' := [(5, _), (7, _), (6, _), (4, _), (0, _), (1, _), (2, _), (3, _)]) 116 dX11_take_114 rfl rfl rfl ?_
              refine zi_iload 118 dX11_take_116 rfl rfl ?_
              refine zi_if_eq 121 147 dX11_take_118 (by decide) rfl (fun c_118 => ?_) (fun c_118 => absurd c_118 (by decide))
              refine zi_iconst (v := 0) 148 dX11_take_147 (by decide) rfl ?_
              refine zi_istore (lv' := [(6, _), (5, _), (7, _), (4, _), (0, _), (1, _), (2, _), (3, _)]) 150 dX11_take_148 rfl rfl rfl ?_
              refine zi_iinc (v := 2) (lv' := [(7, _), (6, _), (5, _), (4, _), (0, _), (1, _), (2, _), (3, _)]) 153 dX11_take_150 rfl rfl rfl rfl rfl ?_
              refine zi_goto 73 dX11_take_153 (by decide) ?_
              refine zi_iload 75 dX11_take_73 rfl rfl ?_
              refine zi_iconst (v := 4) 76 dX11_take_75 (by decide) rfl ?_
              refine zi_icmp_ge 79 156 dX11_take_76 (by decide) rfl (fun c_76 => absurd c_76 (by decide)) (fun c_76 => ?_)
              refine zi_iload 81 dX11_take_79 rfl rfl ?_
              refine zi_if_eq 84 113 dX11_take_81 (by decide) rfl (fun c_81 => absurd c_81 (by decide)) (fun c_81 => ?_)
              refine zi_aload_n 85 dX11_take_84 rfl rfl ?_
              refine zi_getfield 88 4 dX11_take_85 zcl_X11 tw_867 rfl rfl N0.1.1 rfl rfl ?_
              refine zi_iload 90 dX11_take_88 rfl rfl ?_
              refine zi_iload 92 dX11_take_90 rfl rfl ?_
              refine zi_iadd 93 dX11_take_92 rfl ?_
              rw [show (nI ((100 * yj) + x) : Int32) + 2 = nI (((100 * yj) + x) + 2) from nI_ad ((100 * yj) + x) 2]
              refine zi_laload 94 dX11_take_93 N0.1.2.2.2.2.2.1 (vp_in_nI (show (((100 * yj) + x) + 2) < 800 by omega) (by decide)) rfl ?_
              rw [nI_clamp (Nat.lt_trans (show (((100 * yj) + x) + 2) < 800 by omega) (by decide))]
              rw [show wI _ (((100 * yj) + x) + 2) = qIt s yj (x + 2) from (by rw [Nat.add_assoc]; exact h5 (x + 2) (by omega))]
              refine zi_lconst (v := 1) 95 dX11_take_94 (by decide) rfl ?_
              refine zi_land 96 dX11_take_95 rfl ?_
              refine zi_aload_n 97 dX11_take_96 rfl rfl ?_
              refine zi_getfield 100 4 dX11_take_97 zcl_X11 tw_867 rfl rfl N0.1.1 rfl rfl ?_
              refine zi_iload 102 dX11_take_100 rfl rfl ?_
              refine zi_laload 103 dX11_take_102 N0.1.2.2.2.2.2.1 (vp_in_nI (show ((100 * yj) + x) < 800 by omega) (by decide)) rfl ?_
              rw [nI_clamp (Nat.lt_trans (show ((100 * yj) + x) < 800 by omega) (by decide))]
              rw [show wI _ ((100 * yj) + x) = qIt s yj x from h5 x (by omega)]
              refine zi_lconst (v := 1) 104 dX11_take_103 (by decide) rfl ?_
              refine zi_land 105 dX11_take_104 rfl ?_
              refine zj_ne 109 113 dX11_take_105 rfl dX11_take_106 (by decide) rfl (fun al2 => ?_) (fun al2 => ?_)
              ·
                refine zi_iconst (v := 0) 114 dX11_take_113 (by decide) rfl ?_
                refine zi_istore (lv' := [(5, _), (7, _), (6, _), (4, _), (0, _), (1, _), (2, _), (3, _)]) 116 dX11_take_114 rfl rfl rfl ?_
                refine zi_iload 118 dX11_take_116 rfl rfl ?_
                refine zi_if_eq 121 147 dX11_take_118 (by decide) rfl (fun c_118 => ?_) (fun c_118 => absurd c_118 (by decide))
                refine zi_iconst (v := 0) 148 dX11_take_147 (by decide) rfl ?_
                refine zi_istore (lv' := [(6, _), (5, _), (7, _), (4, _), (0, _), (1, _), (2, _), (3, _)]) 150 dX11_take_148 rfl rfl rfl ?_
                refine zi_iinc (v := 3) (lv' := [(7, _), (6, _), (5, _), (4, _), (0, _), (1, _), (2, _), (3, _)]) 153 dX11_take_150 rfl rfl rfl rfl rfl ?_
                refine zi_goto 73 dX11_take_153 (by decide) ?_
                refine zi_iload 75 dX11_take_73 rfl rfl ?_
                refine zi_iconst (v := 4) 76 dX11_take_75 (by decide) rfl ?_
                refine zi_icmp_ge 79 156 dX11_take_76 (by decide) rfl (fun c_76 => absurd c_76 (by decide)) (fun c_76 => ?_)
                refine zi_iload 81 dX11_take_79 rfl rfl ?_
                refine zi_if_eq 84 113 dX11_take_81 (by decide) rfl (fun c_81 => ?_) (fun c_81 => absurd c_81 (by decide))
                refine zi_iconst (v := 0) 114 dX11_take_113 (by decide) rfl ?_
                refine zi_istore (lv' := [(5, _), (7, _), (6, _), (4, _), (0, _), (1, _), (2, _), (3, _)]) 116 dX11_take_114 rfl rfl rfl ?_
                refine zi_iload 118 dX11_take_116 rfl rfl ?_
                refine zi_if_eq 121 147 dX11_take_118 (by decide) rfl (fun c_118 => ?_) (fun c_118 => absurd c_118 (by decide))
                refine zi_iconst (v := 0) 148 dX11_take_147 (by decide) rfl ?_
                refine zi_istore (lv' := [(6, _), (5, _), (7, _), (4, _), (0, _), (1, _), (2, _), (3, _)]) 150 dX11_take_148 rfl rfl rfl ?_
                refine zi_iinc (v := 4) (lv' := [(7, _), (6, _), (5, _), (4, _), (0, _), (1, _), (2, _), (3, _)]) 153 dX11_take_150 rfl rfl rfl rfl rfl ?_
                refine zi_goto 73 dX11_take_153 (by decide) ?_
                refine zi_iload 75 dX11_take_73 rfl rfl ?_
                refine zi_iconst (v := 4) 76 dX11_take_75 (by decide) rfl ?_
                refine zi_icmp_ge 79 156 dX11_take_76 (by decide) rfl (fun c_76 => ?_) (fun c_76 => absurd c_76 (by decide))
                refine zi_iload 158 dX11_take_156 rfl rfl ?_
                refine zi_if_ne 161 164 dX11_take_158 (by decide) rfl (fun c_158 => absurd c_158 (by decide)) (fun c_158 => ?_)
                refine zi_ldc 163 dX11_take_161 tw_910 rfl ?_
                exact zr_int hZ dX11_take_163 rfl rfl ⟨_, rfl, _, by rw [r_take, if_neg zzO, nI_clamp hyj31, if_neg zzL, if_pos zzR, nI_clamp hx, r_taken, if_pos (by first | exact tk_no1 (k := 1) (by decide) al1 | exact tk_no1 (k := 2) (by decide) al2 | exact tk_no1 (k := 3) (by decide) al3)], ⟨m, N0.1, K⟩, N0.2⟩
              ·
                refine zi_iconst (v := 1) 110 dX11_take_109 (by decide) rfl ?_
                refine zi_goto 114 dX11_take_110 (by decide) ?_
                refine zi_istore (lv' := [(5, _), (7, _), (6, _), (4, _), (0, _), (1, _), (2, _), (3, _)]) 116 dX11_take_114 rfl rfl rfl ?_
                refine zi_iload 118 dX11_take_116 rfl rfl ?_
                refine zi_if_eq 121 147 dX11_take_118 (by decide) rfl (fun c_118 => ?_) (fun c_118 => absurd c_118 (by decide))
                refine zi_iconst (v := 0) 148 dX11_take_147 (by decide) rfl ?_
                refine zi_istore (lv' := [(6, _), (5, _), (7, _), (4, _), (0, _), (1, _), (2, _), (3, _)]) 150 dX11_take_148 rfl rfl rfl ?_
                refine zi_iinc (v := 3) (lv' := [(7, _), (6, _), (5, _), (4, _), (0, _), (1, _), (2, _), (3, _)]) 153 dX11_take_150 rfl rfl rfl rfl rfl ?_
                refine zi_goto 73 dX11_take_153 (by decide) ?_
                refine zi_iload 75 dX11_take_73 rfl rfl ?_
                refine zi_iconst (v := 4) 76 dX11_take_75 (by decide) rfl ?_
                refine zi_icmp_ge 79 156 dX11_take_76 (by decide) rfl (fun c_76 => absurd c_76 (by decide)) (fun c_76 => ?_)
                refine zi_iload 81 dX11_take_79 rfl rfl ?_
                refine zi_if_eq 84 113 dX11_take_81 (by decide) rfl (fun c_81 => absurd c_81 (by decide)) (fun c_81 => ?_)
                refine zi_aload_n 85 dX11_take_84 rfl rfl ?_
                refine zi_getfield 88 4 dX11_take_85 zcl_X11 tw_867 rfl rfl N0.1.1 rfl rfl ?_
                refine zi_iload 90 dX11_take_88 rfl rfl ?_
                refine zi_iload 92 dX11_take_90 rfl rfl ?_
                refine zi_iadd 93 dX11_take_92 rfl ?_
                rw [show (nI ((100 * yj) + x) : Int32) + 3 = nI (((100 * yj) + x) + 3) from nI_ad ((100 * yj) + x) 3]
                refine zi_laload 94 dX11_take_93 N0.1.2.2.2.2.2.1 (vp_in_nI (show (((100 * yj) + x) + 3) < 800 by omega) (by decide)) rfl ?_
                rw [nI_clamp (Nat.lt_trans (show (((100 * yj) + x) + 3) < 800 by omega) (by decide))]
                rw [show wI _ (((100 * yj) + x) + 3) = qIt s yj (x + 3) from (by rw [Nat.add_assoc]; exact h5 (x + 3) (by omega))]
                refine zi_lconst (v := 1) 95 dX11_take_94 (by decide) rfl ?_
                refine zi_land 96 dX11_take_95 rfl ?_
                refine zi_aload_n 97 dX11_take_96 rfl rfl ?_
                refine zi_getfield 100 4 dX11_take_97 zcl_X11 tw_867 rfl rfl N0.1.1 rfl rfl ?_
                refine zi_iload 102 dX11_take_100 rfl rfl ?_
                refine zi_laload 103 dX11_take_102 N0.1.2.2.2.2.2.1 (vp_in_nI (show ((100 * yj) + x) < 800 by omega) (by decide)) rfl ?_
                rw [nI_clamp (Nat.lt_trans (show ((100 * yj) + x) < 800 by omega) (by decide))]
                rw [show wI _ ((100 * yj) + x) = qIt s yj x from h5 x (by omega)]
                refine zi_lconst (v := 1) 104 dX11_take_103 (by decide) rfl ?_
                refine zi_land 105 dX11_take_104 rfl ?_
                refine zj_ne 109 113 dX11_take_105 rfl dX11_take_106 (by decide) rfl (fun al3 => ?_) (fun al3 => ?_)
                ·
                  refine zi_iconst (v := 0) 114 dX11_take_113 (by decide) rfl ?_
                  refine zi_istore (lv' := [(5, _), (7, _), (6, _), (4, _), (0, _), (1, _), (2, _), (3, _)]) 116 dX11_take_114 rfl rfl rfl ?_
                  refine zi_iload 118 dX11_take_116 rfl rfl ?_
                  refine zi_if_eq 121 147 dX11_take_118 (by decide) rfl (fun c_118 => ?_) (fun c_118 => absurd c_118 (by decide))
                  refine zi_iconst (v := 0) 148 dX11_take_147 (by decide) rfl ?_
                  refine zi_istore (lv' := [(6, _), (5, _), (7, _), (4, _), (0, _), (1, _), (2, _), (3, _)]) 150 dX11_take_148 rfl rfl rfl ?_
                  refine zi_iinc (v := 4) (lv' := [(7, _), (6, _), (5, _), (4, _), (0, _), (1, _), (2, _), (3, _)]) 153 dX11_take_150 rfl rfl rfl rfl rfl ?_
                  refine zi_goto 73 dX11_take_153 (by decide) ?_
                  refine zi_iload 75 dX11_take_73 rfl rfl ?_
                  refine zi_iconst (v := 4) 76 dX11_take_75 (by decide) rfl ?_
                  refine zi_icmp_ge 79 156 dX11_take_76 (by decide) rfl (fun c_76 => ?_) (fun c_76 => absurd c_76 (by decide))
                  refine zi_iload 158 dX11_take_156 rfl rfl ?_
                  refine zi_if_ne 161 164 dX11_take_158 (by decide) rfl (fun c_158 => absurd c_158 (by decide)) (fun c_158 => ?_)
                  refine zi_ldc 163 dX11_take_161 tw_910 rfl ?_
                  exact zr_int hZ dX11_take_163 rfl rfl ⟨_, rfl, _, by rw [r_take, if_neg zzO, nI_clamp hyj31, if_neg zzL, if_pos zzR, nI_clamp hx, r_taken, if_pos (by first | exact tk_no1 (k := 1) (by decide) al1 | exact tk_no1 (k := 2) (by decide) al2 | exact tk_no1 (k := 3) (by decide) al3)], ⟨m, N0.1, K⟩, N0.2⟩
                ·
                  refine zi_iconst (v := 1) 110 dX11_take_109 (by decide) rfl ?_
                  refine zi_goto 114 dX11_take_110 (by decide) ?_
                  refine zi_istore (lv' := [(5, _), (7, _), (6, _), (4, _), (0, _), (1, _), (2, _), (3, _)]) 116 dX11_take_114 rfl rfl rfl ?_
                  refine zi_iload 118 dX11_take_116 rfl rfl ?_
                  refine zi_if_eq 121 147 dX11_take_118 (by decide) rfl (fun c_118 => ?_) (fun c_118 => absurd c_118 (by decide))
                  refine zi_iconst (v := 0) 148 dX11_take_147 (by decide) rfl ?_
                  refine zi_istore (lv' := [(6, _), (5, _), (7, _), (4, _), (0, _), (1, _), (2, _), (3, _)]) 150 dX11_take_148 rfl rfl rfl ?_
                  refine zi_iinc (v := 4) (lv' := [(7, _), (6, _), (5, _), (4, _), (0, _), (1, _), (2, _), (3, _)]) 153 dX11_take_150 rfl rfl rfl rfl rfl ?_
                  refine zi_goto 73 dX11_take_153 (by decide) ?_
                  refine zi_iload 75 dX11_take_73 rfl rfl ?_
                  refine zi_iconst (v := 4) 76 dX11_take_75 (by decide) rfl ?_
                  refine zi_icmp_ge 79 156 dX11_take_76 (by decide) rfl (fun c_76 => ?_) (fun c_76 => absurd c_76 (by decide))
                  refine zi_iload 158 dX11_take_156 rfl rfl ?_
                  refine zi_if_ne 161 164 dX11_take_158 (by decide) rfl (fun c_158 => ?_) (fun c_158 => absurd c_158 (by decide))
                  refine zi_iload 166 dX11_take_164 rfl rfl ?_
                  refine zi_if_ne 169 172 dX11_take_166 (by decide) rfl (fun c_166 => absurd c_166 (by decide)) (fun c_166 => ?_)
                  refine zi_ldc 171 dX11_take_169 tw_943 rfl ?_
                  exact zr_int hZ dX11_take_171 rfl rfl ⟨_, rfl, _, by rw [r_take, if_neg zzO, nI_clamp hyj31, if_neg zzL, if_pos zzR, nI_clamp hx, r_taken, if_neg (fun r => r (tk_o al1 al2 al3)), if_pos (by first | exact tk_f (k := 0) (by decide) sm0 | exact tk_f (k := 1) (by decide) sm1 | exact tk_f (k := 2) (by decide) sm2 | exact tk_f (k := 3) (by decide) sm3)], ⟨m, N0.1, K⟩, N0.2⟩
          ·
            refine zi_iconst (v := 1) 144 dX11_take_143 (by decide) rfl ?_
            refine zi_goto 148 dX11_take_144 (by decide) ?_
            refine zi_istore (lv' := [(6, _), (5, _), (7, _), (4, _), (0, _), (1, _), (2, _), (3, _)]) 150 dX11_take_148 rfl rfl rfl ?_
            refine zi_iinc (v := 1) (lv' := [(7, _), (6, _), (5, _), (4, _), (0, _), (1, _), (2, _), (3, _)]) 153 dX11_take_150 rfl rfl rfl rfl rfl ?_
            refine zi_goto 73 dX11_take_153 (by decide) ?_
            refine zi_iload 75 dX11_take_73 rfl rfl ?_
            refine zi_iconst (v := 4) 76 dX11_take_75 (by decide) rfl ?_
            refine zi_icmp_ge 79 156 dX11_take_76 (by decide) rfl (fun c_76 => absurd c_76 (by decide)) (fun c_76 => ?_)
            refine zi_iload 81 dX11_take_79 rfl rfl ?_
            refine zi_if_eq 84 113 dX11_take_81 (by decide) rfl (fun c_81 => absurd c_81 (by decide)) (fun c_81 => ?_)
            refine zi_aload_n 85 dX11_take_84 rfl rfl ?_
            refine zi_getfield 88 4 dX11_take_85 zcl_X11 tw_867 rfl rfl N0.1.1 rfl rfl ?_
            refine zi_iload 90 dX11_take_88 rfl rfl ?_
            refine zi_iload 92 dX11_take_90 rfl rfl ?_
            refine zi_iadd 93 dX11_take_92 rfl ?_
            rw [show (nI ((100 * yj) + x) : Int32) + 1 = nI (((100 * yj) + x) + 1) from nI_ad ((100 * yj) + x) 1]
            refine zi_laload 94 dX11_take_93 N0.1.2.2.2.2.2.1 (vp_in_nI (show (((100 * yj) + x) + 1) < 800 by omega) (by decide)) rfl ?_
            rw [nI_clamp (Nat.lt_trans (show (((100 * yj) + x) + 1) < 800 by omega) (by decide))]
            rw [show wI _ (((100 * yj) + x) + 1) = qIt s yj (x + 1) from (by rw [Nat.add_assoc]; exact h5 (x + 1) (by omega))]
            refine zi_lconst (v := 1) 95 dX11_take_94 (by decide) rfl ?_
            refine zi_land 96 dX11_take_95 rfl ?_
            refine zi_aload_n 97 dX11_take_96 rfl rfl ?_
            refine zi_getfield 100 4 dX11_take_97 zcl_X11 tw_867 rfl rfl N0.1.1 rfl rfl ?_
            refine zi_iload 102 dX11_take_100 rfl rfl ?_
            refine zi_laload 103 dX11_take_102 N0.1.2.2.2.2.2.1 (vp_in_nI (show ((100 * yj) + x) < 800 by omega) (by decide)) rfl ?_
            rw [nI_clamp (Nat.lt_trans (show ((100 * yj) + x) < 800 by omega) (by decide))]
            rw [show wI _ ((100 * yj) + x) = qIt s yj x from h5 x (by omega)]
            refine zi_lconst (v := 1) 104 dX11_take_103 (by decide) rfl ?_
            refine zi_land 105 dX11_take_104 rfl ?_
            refine zj_ne 109 113 dX11_take_105 rfl dX11_take_106 (by decide) rfl (fun al1 => ?_) (fun al1 => ?_)
            ·
              refine zi_iconst (v := 0) 114 dX11_take_113 (by decide) rfl ?_
              refine zi_istore (lv' := [(5, _), (7, _), (6, _), (4, _), (0, _), (1, _), (2, _), (3, _)]) 116 dX11_take_114 rfl rfl rfl ?_
              refine zi_iload 118 dX11_take_116 rfl rfl ?_
              refine zi_if_eq 121 147 dX11_take_118 (by decide) rfl (fun c_118 => absurd c_118 (by decide)) (fun c_118 => ?_)
              refine zi_aload_n 122 dX11_take_121 rfl rfl ?_
              refine zi_getfield 125 4 dX11_take_122 zcl_X11 tw_867 rfl rfl N0.1.1 rfl rfl ?_
              refine zi_iload 127 dX11_take_125 rfl rfl ?_
              refine zi_iload 129 dX11_take_127 rfl rfl ?_
              refine zi_iadd 130 dX11_take_129 rfl ?_
              rw [show (nI ((100 * yj) + x) : Int32) + 1 = nI (((100 * yj) + x) + 1) from nI_ad ((100 * yj) + x) 1]
              refine zi_laload 131 dX11_take_130 N0.1.2.2.2.2.2.1 (vp_in_nI (show (((100 * yj) + x) + 1) < 800 by omega) (by decide)) rfl ?_
              rw [nI_clamp (Nat.lt_trans (show (((100 * yj) + x) + 1) < 800 by omega) (by decide))]
              rw [show wI _ (((100 * yj) + x) + 1) = qIt s yj (x + 1) from (by rw [Nat.add_assoc]; exact h5 (x + 1) (by omega))]
              refine zi_ldc2 134 dX11_take_131 tw_941 rfl ?_
              refine zi_ldc2 137 dX11_take_134 tw_942 rfl ?_
              refine zc_static (n' := (0, 0)) (md' := mX11_in) 140 dX11_take_137 tw_906 zs_X11_in (s_X11_in B h _ _ _) rfl rfl rfl rfl rfl rfl rfl rfl (zk_f ?_)
              refine zb_eq 143 147 dX11_take_140 (by decide) rfl (fun sm1 => ?_) (fun sm1 => ?_)
              ·
                refine zi_iconst (v := 0) 148 dX11_take_147 (by decide) rfl ?_
                refine zi_istore (lv' := [(6, _), (5, _), (7, _), (4, _), (0, _), (1, _), (2, _), (3, _)]) 150 dX11_take_148 rfl rfl rfl ?_
                refine zi_iinc (v := 2) (lv' := [(7, _), (6, _), (5, _), (4, _), (0, _), (1, _), (2, _), (3, _)]) 153 dX11_take_150 rfl rfl rfl rfl rfl ?_
                refine zi_goto 73 dX11_take_153 (by decide) ?_
                refine zi_iload 75 dX11_take_73 rfl rfl ?_
                refine zi_iconst (v := 4) 76 dX11_take_75 (by decide) rfl ?_
                refine zi_icmp_ge 79 156 dX11_take_76 (by decide) rfl (fun c_76 => absurd c_76 (by decide)) (fun c_76 => ?_)
                refine zi_iload 81 dX11_take_79 rfl rfl ?_
                refine zi_if_eq 84 113 dX11_take_81 (by decide) rfl (fun c_81 => ?_) (fun c_81 => absurd c_81 (by decide))
                refine zi_iconst (v := 0) 114 dX11_take_113 (by decide) rfl ?_
                refine zi_istore (lv' := [(5, _), (7, _), (6, _), (4, _), (0, _), (1, _), (2, _), (3, _)]) 116 dX11_take_114 rfl rfl rfl ?_
                refine zi_iload 118 dX11_take_116 rfl rfl ?_
                refine zi_if_eq 121 147 dX11_take_118 (by decide) rfl (fun c_118 => ?_) (fun c_118 => absurd c_118 (by decide))
                refine zi_iconst (v := 0) 148 dX11_take_147 (by decide) rfl ?_
                refine zi_istore (lv' := [(6, _), (5, _), (7, _), (4, _), (0, _), (1, _), (2, _), (3, _)]) 150 dX11_take_148 rfl rfl rfl ?_
                refine zi_iinc (v := 3) (lv' := [(7, _), (6, _), (5, _), (4, _), (0, _), (1, _), (2, _), (3, _)]) 153 dX11_take_150 rfl rfl rfl rfl rfl ?_
                refine zi_goto 73 dX11_take_153 (by decide) ?_
                refine zi_iload 75 dX11_take_73 rfl rfl ?_
                refine zi_iconst (v := 4) 76 dX11_take_75 (by decide) rfl ?_
                refine zi_icmp_ge 79 156 dX11_take_76 (by decide) rfl (fun c_76 => absurd c_76 (by decide)) (fun c_76 => ?_)
                refine zi_iload 81 dX11_take_79 rfl rfl ?_
                refine zi_if_eq 84 113 dX11_take_81 (by decide) rfl (fun c_81 => ?_) (fun c_81 => absurd c_81 (by decide))
                refine zi_iconst (v := 0) 114 dX11_take_113 (by decide) rfl ?_
                refine zi_istore (lv' := [(5, _), (7, _), (6, _), (4, _), (0, _), (1, _), (2, _), (3, _)]) 116 dX11_take_114 rfl rfl rfl ?_
                refine zi_iload 118 dX11_take_116 rfl rfl ?_
                refine zi_if_eq 121 147 dX11_take_118 (by decide) rfl (fun c_118 => ?_) (fun c_118 => absurd c_118 (by decide))
                refine zi_iconst (v := 0) 148 dX11_take_147 (by decide) rfl ?_
                refine zi_istore (lv' := [(6, _), (5, _), (7, _), (4, _), (0, _), (1, _), (2, _), (3, _)]) 150 dX11_take_148 rfl rfl rfl ?_
                refine zi_iinc (v := 4) (lv' := [(7, _), (6, _), (5, _), (4, _), (0, _), (1, _), (2, _), (3, _)]) 153 dX11_take_150 rfl rfl rfl rfl rfl ?_
                refine zi_goto 73 dX11_take_153 (by decide) ?_
                refine zi_iload 75 dX11_take_73 rfl rfl ?_
                refine zi_iconst (v := 4) 76 dX11_take_75 (by decide) rfl ?_
                refine zi_icmp_ge 79 156 dX11_take_76 (by decide) rfl (fun c_76 => ?_) (fun c_76 => absurd c_76 (by decide))
                refine zi_iload 158 dX11_take_156 rfl rfl ?_
                refine zi_if_ne 161 164 dX11_take_158 (by decide) rfl (fun c_158 => absurd c_158 (by decide)) (fun c_158 => ?_)
                refine zi_ldc 163 dX11_take_161 tw_910 rfl ?_
                exact zr_int hZ dX11_take_163 rfl rfl ⟨_, rfl, _, by rw [r_take, if_neg zzO, nI_clamp hyj31, if_neg zzL, if_pos zzR, nI_clamp hx, r_taken, if_pos (by first | exact tk_no1 (k := 1) (by decide) al1 | exact tk_no1 (k := 2) (by decide) al2 | exact tk_no1 (k := 3) (by decide) al3)], ⟨m, N0.1, K⟩, N0.2⟩
              ·
                refine zi_iconst (v := 1) 144 dX11_take_143 (by decide) rfl ?_
                refine zi_goto 148 dX11_take_144 (by decide) ?_
                refine zi_istore (lv' := [(6, _), (5, _), (7, _), (4, _), (0, _), (1, _), (2, _), (3, _)]) 150 dX11_take_148 rfl rfl rfl ?_
                refine zi_iinc (v := 2) (lv' := [(7, _), (6, _), (5, _), (4, _), (0, _), (1, _), (2, _), (3, _)]) 153 dX11_take_150 rfl rfl rfl rfl rfl ?_
                refine zi_goto 73 dX11_take_153 (by decide) ?_
                refine zi_iload 75 dX11_take_73 rfl rfl ?_
                refine zi_iconst (v := 4) 76 dX11_take_75 (by decide) rfl ?_
                refine zi_icmp_ge 79 156 dX11_take_76 (by decide) rfl (fun c_76 => absurd c_76 (by decide)) (fun c_76 => ?_)
                refine zi_iload 81 dX11_take_79 rfl rfl ?_
                refine zi_if_eq 84 113 dX11_take_81 (by decide) rfl (fun c_81 => ?_) (fun c_81 => absurd c_81 (by decide))
                refine zi_iconst (v := 0) 114 dX11_take_113 (by decide) rfl ?_
                refine zi_istore (lv' := [(5, _), (7, _), (6, _), (4, _), (0, _), (1, _), (2, _), (3, _)]) 116 dX11_take_114 rfl rfl rfl ?_
                refine zi_iload 118 dX11_take_116 rfl rfl ?_
                refine zi_if_eq 121 147 dX11_take_118 (by decide) rfl (fun c_118 => absurd c_118 (by decide)) (fun c_118 => ?_)
                refine zi_aload_n 122 dX11_take_121 rfl rfl ?_
                refine zi_getfield 125 4 dX11_take_122 zcl_X11 tw_867 rfl rfl N0.1.1 rfl rfl ?_
                refine zi_iload 127 dX11_take_125 rfl rfl ?_
                refine zi_iload 129 dX11_take_127 rfl rfl ?_
                refine zi_iadd 130 dX11_take_129 rfl ?_
                rw [show (nI ((100 * yj) + x) : Int32) + 2 = nI (((100 * yj) + x) + 2) from nI_ad ((100 * yj) + x) 2]
                refine zi_laload 131 dX11_take_130 N0.1.2.2.2.2.2.1 (vp_in_nI (show (((100 * yj) + x) + 2) < 800 by omega) (by decide)) rfl ?_
                rw [nI_clamp (Nat.lt_trans (show (((100 * yj) + x) + 2) < 800 by omega) (by decide))]
                rw [show wI _ (((100 * yj) + x) + 2) = qIt s yj (x + 2) from (by rw [Nat.add_assoc]; exact h5 (x + 2) (by omega))]
                refine zi_ldc2 134 dX11_take_131 tw_941 rfl ?_
                refine zi_ldc2 137 dX11_take_134 tw_942 rfl ?_
                refine zc_static (n' := (0, 0)) (md' := mX11_in) 140 dX11_take_137 tw_906 zs_X11_in (s_X11_in B h _ _ _) rfl rfl rfl rfl rfl rfl rfl rfl (zk_f ?_)
                refine zb_eq 143 147 dX11_take_140 (by decide) rfl (fun sm2 => ?_) (fun sm2 => ?_)
                ·
                  refine zi_iconst (v := 0) 148 dX11_take_147 (by decide) rfl ?_
                  refine zi_istore (lv' := [(6, _), (5, _), (7, _), (4, _), (0, _), (1, _), (2, _), (3, _)]) 150 dX11_take_148 rfl rfl rfl ?_
                  refine zi_iinc (v := 3) (lv' := [(7, _), (6, _), (5, _), (4, _), (0, _), (1, _), (2, _), (3, _)]) 153 dX11_take_150 rfl rfl rfl rfl rfl ?_
                  refine zi_goto 73 dX11_take_153 (by decide) ?_
                  refine zi_iload 75 dX11_take_73 rfl rfl ?_
                  refine zi_iconst (v := 4) 76 dX11_take_75 (by decide) rfl ?_
                  refine zi_icmp_ge 79 156 dX11_take_76 (by decide) rfl (fun c_76 => absurd c_76 (by decide)) (fun c_76 => ?_)
                  refine zi_iload 81 dX11_take_79 rfl rfl ?_
                  refine zi_if_eq 84 113 dX11_take_81 (by decide) rfl (fun c_81 => ?_) (fun c_81 => absurd c_81 (by decide))
                  refine zi_iconst (v := 0) 114 dX11_take_113 (by decide) rfl ?_
                  refine zi_istore (lv' := [(5, _), (7, _), (6, _), (4, _), (0, _), (1, _), (2, _), (3, _)]) 116 dX11_take_114 rfl rfl rfl ?_
                  refine zi_iload 118 dX11_take_116 rfl rfl ?_
                  refine zi_if_eq 121 147 dX11_take_118 (by decide) rfl (fun c_118 => ?_) (fun c_118 => absurd c_118 (by decide))
                  refine zi_iconst (v := 0) 148 dX11_take_147 (by decide) rfl ?_
                  refine zi_istore (lv' := [(6, _), (5, _), (7, _), (4, _), (0, _), (1, _), (2, _), (3, _)]) 150 dX11_take_148 rfl rfl rfl ?_
                  refine zi_iinc (v := 4) (lv' := [(7, _), (6, _), (5, _), (4, _), (0, _), (1, _), (2, _), (3, _)]) 153 dX11_take_150 rfl rfl rfl rfl rfl ?_
                  refine zi_goto 73 dX11_take_153 (by decide) ?_
                  refine zi_iload 75 dX11_take_73 rfl rfl ?_
                  refine zi_iconst (v := 4) 76 dX11_take_75 (by decide) rfl ?_
                  refine zi_icmp_ge 79 156 dX11_take_76 (by decide) rfl (fun c_76 => ?_) (fun c_76 => absurd c_76 (by decide))
                  refine zi_iload 158 dX11_take_156 rfl rfl ?_
                  refine zi_if_ne 161 164 dX11_take_158 (by decide) rfl (fun c_158 => absurd c_158 (by decide)) (fun c_158 => ?_)
                  refine zi_ldc 163 dX11_take_161 tw_910 rfl ?_
                  exact zr_int hZ dX11_take_163 rfl rfl ⟨_, rfl, _, by rw [r_take, if_neg zzO, nI_clamp hyj31, if_neg zzL, if_pos zzR, nI_clamp hx, r_taken, if_pos (by first | exact tk_no1 (k := 1) (by decide) al1 | exact tk_no1 (k := 2) (by decide) al2 | exact tk_no1 (k := 3) (by decide) al3)], ⟨m, N0.1, K⟩, N0.2⟩
                ·
                  refine zi_iconst (v := 1) 144 dX11_take_143 (by decide) rfl ?_
                  refine zi_goto 148 dX11_take_144 (by decide) ?_
                  refine zi_istore (lv' := [(6, _), (5, _), (7, _), (4, _), (0, _), (1, _), (2, _), (3, _)]) 150 dX11_take_148 rfl rfl rfl ?_
                  refine zi_iinc (v := 3) (lv' := [(7, _), (6, _), (5, _), (4, _), (0, _), (1, _), (2, _), (3, _)]) 153 dX11_take_150 rfl rfl rfl rfl rfl ?_
                  refine zi_goto 73 dX11_take_153 (by decide) ?_
                  refine zi_iload 75 dX11_take_73 rfl rfl ?_
                  refine zi_iconst (v := 4) 76 dX11_take_75 (by decide) rfl ?_
                  refine zi_icmp_ge 79 156 dX11_take_76 (by decide) rfl (fun c_76 => absurd c_76 (by decide)) (fun c_76 => ?_)
                  refine zi_iload 81 dX11_take_79 rfl rfl ?_
                  refine zi_if_eq 84 113 dX11_take_81 (by decide) rfl (fun c_81 => ?_) (fun c_81 => absurd c_81 (by decide))
                  refine zi_iconst (v := 0) 114 dX11_take_113 (by decide) rfl ?_
                  refine zi_istore (lv' := [(5, _), (7, _), (6, _), (4, _), (0, _), (1, _), (2, _), (3, _)]) 116 dX11_take_114 rfl rfl rfl ?_
                  refine zi_iload 118 dX11_take_116 rfl rfl ?_
                  refine zi_if_eq 121 147 dX11_take_118 (by decide) rfl (fun c_118 => absurd c_118 (by decide)) (fun c_118 => ?_)
                  refine zi_aload_n 122 dX11_take_121 rfl rfl ?_
                  refine zi_getfield 125 4 dX11_take_122 zcl_X11 tw_867 rfl rfl N0.1.1 rfl rfl ?_
                  refine zi_iload 127 dX11_take_125 rfl rfl ?_
                  refine zi_iload 129 dX11_take_127 rfl rfl ?_
                  refine zi_iadd 130 dX11_take_129 rfl ?_
                  rw [show (nI ((100 * yj) + x) : Int32) + 3 = nI (((100 * yj) + x) + 3) from nI_ad ((100 * yj) + x) 3]
                  refine zi_laload 131 dX11_take_130 N0.1.2.2.2.2.2.1 (vp_in_nI (show (((100 * yj) + x) + 3) < 800 by omega) (by decide)) rfl ?_
                  rw [nI_clamp (Nat.lt_trans (show (((100 * yj) + x) + 3) < 800 by omega) (by decide))]
                  rw [show wI _ (((100 * yj) + x) + 3) = qIt s yj (x + 3) from (by rw [Nat.add_assoc]; exact h5 (x + 3) (by omega))]
                  refine zi_ldc2 134 dX11_take_131 tw_941 rfl ?_
                  refine zi_ldc2 137 dX11_take_134 tw_942 rfl ?_
                  refine zc_static (n' := (0, 0)) (md' := mX11_in) 140 dX11_take_137 tw_906 zs_X11_in (s_X11_in B h _ _ _) rfl rfl rfl rfl rfl rfl rfl rfl (zk_f ?_)
                  refine zb_eq 143 147 dX11_take_140 (by decide) rfl (fun sm3 => ?_) (fun sm3 => ?_)
                  ·
                    refine zi_iconst (v := 0) 148 dX11_take_147 (by decide) rfl ?_
                    refine zi_istore (lv' := [(6, _), (5, _), (7, _), (4, _), (0, _), (1, _), (2, _), (3, _)]) 150 dX11_take_148 rfl rfl rfl ?_
                    refine zi_iinc (v := 4) (lv' := [(7, _), (6, _), (5, _), (4, _), (0, _), (1, _), (2, _), (3, _)]) 153 dX11_take_150 rfl rfl rfl rfl rfl ?_
                    refine zi_goto 73 dX11_take_153 (by decide) ?_
                    refine zi_iload 75 dX11_take_73 rfl rfl ?_
                    refine zi_iconst (v := 4) 76 dX11_take_75 (by decide) rfl ?_
                    refine zi_icmp_ge 79 156 dX11_take_76 (by decide) rfl (fun c_76 => ?_) (fun c_76 => absurd c_76 (by decide))
                    refine zi_iload 158 dX11_take_156 rfl rfl ?_
                    refine zi_if_ne 161 164 dX11_take_158 (by decide) rfl (fun c_158 => absurd c_158 (by decide)) (fun c_158 => ?_)
                    refine zi_ldc 163 dX11_take_161 tw_910 rfl ?_
                    exact zr_int hZ dX11_take_163 rfl rfl ⟨_, rfl, _, by rw [r_take, if_neg zzO, nI_clamp hyj31, if_neg zzL, if_pos zzR, nI_clamp hx, r_taken, if_pos (by first | exact tk_no1 (k := 1) (by decide) al1 | exact tk_no1 (k := 2) (by decide) al2 | exact tk_no1 (k := 3) (by decide) al3)], ⟨m, N0.1, K⟩, N0.2⟩
                  ·
                    refine zi_iconst (v := 1) 144 dX11_take_143 (by decide) rfl ?_
                    refine zi_goto 148 dX11_take_144 (by decide) ?_
                    refine zi_istore (lv' := [(6, _), (5, _), (7, _), (4, _), (0, _), (1, _), (2, _), (3, _)]) 150 dX11_take_148 rfl rfl rfl ?_
                    refine zi_iinc (v := 4) (lv' := [(7, _), (6, _), (5, _), (4, _), (0, _), (1, _), (2, _), (3, _)]) 153 dX11_take_150 rfl rfl rfl rfl rfl ?_
                    refine zi_goto 73 dX11_take_153 (by decide) ?_
                    refine zi_iload 75 dX11_take_73 rfl rfl ?_
                    refine zi_iconst (v := 4) 76 dX11_take_75 (by decide) rfl ?_
                    refine zi_icmp_ge 79 156 dX11_take_76 (by decide) rfl (fun c_76 => ?_) (fun c_76 => absurd c_76 (by decide))
                    refine zi_iload 158 dX11_take_156 rfl rfl ?_
                    refine zi_if_ne 161 164 dX11_take_158 (by decide) rfl (fun c_158 => absurd c_158 (by decide)) (fun c_158 => ?_)
                    refine zi_ldc 163 dX11_take_161 tw_910 rfl ?_
                    exact zr_int hZ dX11_take_163 rfl rfl ⟨_, rfl, _, by rw [r_take, if_neg zzO, nI_clamp hyj31, if_neg zzL, if_pos zzR, nI_clamp hx, r_taken, if_pos (by first | exact tk_no1 (k := 1) (by decide) al1 | exact tk_no1 (k := 2) (by decide) al2 | exact tk_no1 (k := 3) (by decide) al3)], ⟨m, N0.1, K⟩, N0.2⟩
            ·
              refine zi_iconst (v := 1) 110 dX11_take_109 (by decide) rfl ?_
              refine zi_goto 114 dX11_take_110 (by decide) ?_
              refine zi_istore (lv' := [(5, _), (7, _), (6, _), (4, _), (0, _), (1, _), (2, _), (3, _)]) 116 dX11_take_114 rfl rfl rfl ?_
              refine zi_iload 118 dX11_take_116 rfl rfl ?_
              refine zi_if_eq 121 147 dX11_take_118 (by decide) rfl (fun c_118 => absurd c_118 (by decide)) (fun c_118 => ?_)
              refine zi_aload_n 122 dX11_take_121 rfl rfl ?_
              refine zi_getfield 125 4 dX11_take_122 zcl_X11 tw_867 rfl rfl N0.1.1 rfl rfl ?_
              refine zi_iload 127 dX11_take_125 rfl rfl ?_
              refine zi_iload 129 dX11_take_127 rfl rfl ?_
              refine zi_iadd 130 dX11_take_129 rfl ?_
              rw [show (nI ((100 * yj) + x) : Int32) + 1 = nI (((100 * yj) + x) + 1) from nI_ad ((100 * yj) + x) 1]
              refine zi_laload 131 dX11_take_130 N0.1.2.2.2.2.2.1 (vp_in_nI (show (((100 * yj) + x) + 1) < 800 by omega) (by decide)) rfl ?_
              rw [nI_clamp (Nat.lt_trans (show (((100 * yj) + x) + 1) < 800 by omega) (by decide))]
              rw [show wI _ (((100 * yj) + x) + 1) = qIt s yj (x + 1) from (by rw [Nat.add_assoc]; exact h5 (x + 1) (by omega))]
              refine zi_ldc2 134 dX11_take_131 tw_941 rfl ?_
              refine zi_ldc2 137 dX11_take_134 tw_942 rfl ?_
              refine zc_static (n' := (0, 0)) (md' := mX11_in) 140 dX11_take_137 tw_906 zs_X11_in (s_X11_in B h _ _ _) rfl rfl rfl rfl rfl rfl rfl rfl (zk_f ?_)
              refine zb_eq 143 147 dX11_take_140 (by decide) rfl (fun sm1 => ?_) (fun sm1 => ?_)
              ·
                refine zi_iconst (v := 0) 148 dX11_take_147 (by decide) rfl ?_
                refine zi_istore (lv' := [(6, _), (5, _), (7, _), (4, _), (0, _), (1, _), (2, _), (3, _)]) 150 dX11_take_148 rfl rfl rfl ?_
                refine zi_iinc (v := 2) (lv' := [(7, _), (6, _), (5, _), (4, _), (0, _), (1, _), (2, _), (3, _)]) 153 dX11_take_150 rfl rfl rfl rfl rfl ?_
                refine zi_goto 73 dX11_take_153 (by decide) ?_
                refine zi_iload 75 dX11_take_73 rfl rfl ?_
                refine zi_iconst (v := 4) 76 dX11_take_75 (by decide) rfl ?_
                refine zi_icmp_ge 79 156 dX11_take_76 (by decide) rfl (fun c_76 => absurd c_76 (by decide)) (fun c_76 => ?_)
                refine zi_iload 81 dX11_take_79 rfl rfl ?_
                refine zi_if_eq 84 113 dX11_take_81 (by decide) rfl (fun c_81 => absurd c_81 (by decide)) (fun c_81 => ?_)
                refine zi_aload_n 85 dX11_take_84 rfl rfl ?_
                refine zi_getfield 88 4 dX11_take_85 zcl_X11 tw_867 rfl rfl N0.1.1 rfl rfl ?_
                refine zi_iload 90 dX11_take_88 rfl rfl ?_
                refine zi_iload 92 dX11_take_90 rfl rfl ?_
                refine zi_iadd 93 dX11_take_92 rfl ?_
                rw [show (nI ((100 * yj) + x) : Int32) + 2 = nI (((100 * yj) + x) + 2) from nI_ad ((100 * yj) + x) 2]
                refine zi_laload 94 dX11_take_93 N0.1.2.2.2.2.2.1 (vp_in_nI (show (((100 * yj) + x) + 2) < 800 by omega) (by decide)) rfl ?_
                rw [nI_clamp (Nat.lt_trans (show (((100 * yj) + x) + 2) < 800 by omega) (by decide))]
                rw [show wI _ (((100 * yj) + x) + 2) = qIt s yj (x + 2) from (by rw [Nat.add_assoc]; exact h5 (x + 2) (by omega))]
                refine zi_lconst (v := 1) 95 dX11_take_94 (by decide) rfl ?_
                refine zi_land 96 dX11_take_95 rfl ?_
                refine zi_aload_n 97 dX11_take_96 rfl rfl ?_
                refine zi_getfield 100 4 dX11_take_97 zcl_X11 tw_867 rfl rfl N0.1.1 rfl rfl ?_
                refine zi_iload 102 dX11_take_100 rfl rfl ?_
                refine zi_laload 103 dX11_take_102 N0.1.2.2.2.2.2.1 (vp_in_nI (show ((100 * yj) + x) < 800 by omega) (by decide)) rfl ?_
                rw [nI_clamp (Nat.lt_trans (show ((100 * yj) + x) < 800 by omega) (by decide))]
                rw [show wI _ ((100 * yj) + x) = qIt s yj x from h5 x (by omega)]
                refine zi_lconst (v := 1) 104 dX11_take_103 (by decide) rfl ?_
                refine zi_land 105 dX11_take_104 rfl ?_
                refine zj_ne 109 113 dX11_take_105 rfl dX11_take_106 (by decide) rfl (fun al2 => ?_) (fun al2 => ?_)
                ·
                  refine zi_iconst (v := 0) 114 dX11_take_113 (by decide) rfl ?_
                  refine zi_istore (lv' := [(5, _), (7, _), (6, _), (4, _), (0, _), (1, _), (2, _), (3, _)]) 116 dX11_take_114 rfl rfl rfl ?_
                  refine zi_iload 118 dX11_take_116 rfl rfl ?_
                  refine zi_if_eq 121 147 dX11_take_118 (by decide) rfl (fun c_118 => ?_) (fun c_118 => absurd c_118 (by decide))
                  refine zi_iconst (v := 0) 148 dX11_take_147 (by decide) rfl ?_
                  refine zi_istore (lv' := [(6, _), (5, _), (7, _), (4, _), (0, _), (1, _), (2, _), (3, _)]) 150 dX11_take_148 rfl rfl rfl ?_
                  refine zi_iinc (v := 3) (lv' := [(7, _), (6, _), (5, _), (4, _), (0, _), (1, _), (2, _), (3, _)]) 153 dX11_take_150 rfl rfl rfl rfl rfl ?_
                  refine zi_goto 73 dX11_take_153 (by decide) ?_
                  refine zi_iload 75 dX11_take_73 rfl rfl ?_
                  refine zi_iconst (v := 4) 76 dX11_take_75 (by decide) rfl ?_
                  refine zi_icmp_ge 79 156 dX11_take_76 (by decide) rfl (fun c_76 => absurd c_76 (by decide)) (fun c_76 => ?_)
                  refine zi_iload 81 dX11_take_79 rfl rfl ?_
                  refine zi_if_eq 84 113 dX11_take_81 (by decide) rfl (fun c_81 => ?_) (fun c_81 => absurd c_81 (by decide))
                  refine zi_iconst (v := 0) 114 dX11_take_113 (by decide) rfl ?_
                  refine zi_istore (lv' := [(5, _), (7, _), (6, _), (4, _), (0, _), (1, _), (2, _), (3, _)]) 116 dX11_take_114 rfl rfl rfl ?_
                  refine zi_iload 118 dX11_take_116 rfl rfl ?_
                  refine zi_if_eq 121 147 dX11_take_118 (by decide) rfl (fun c_118 => ?_) (fun c_118 => absurd c_118 (by decide))
                  refine zi_iconst (v := 0) 148 dX11_take_147 (by decide) rfl ?_
                  refine zi_istore (lv' := [(6, _), (5, _), (7, _), (4, _), (0, _), (1, _), (2, _), (3, _)]) 150 dX11_take_148 rfl rfl rfl ?_
                  refine zi_iinc (v := 4) (lv' := [(7, _), (6, _), (5, _), (4, _), (0, _), (1, _), (2, _), (3, _)]) 153 dX11_take_150 rfl rfl rfl rfl rfl ?_
                  refine zi_goto 73 dX11_take_153 (by decide) ?_
                  refine zi_iload 75 dX11_take_73 rfl rfl ?_
                  refine zi_iconst (v := 4) 76 dX11_take_75 (by decide) rfl ?_
                  refine zi_icmp_ge 79 156 dX11_take_76 (by decide) rfl (fun c_76 => ?_) (fun c_76 => absurd c_76 (by decide))
                  refine zi_iload 158 dX11_take_156 rfl rfl ?_
                  refine zi_if_ne 161 164 dX11_take_158 (by decide) rfl (fun c_158 => absurd c_158 (by decide)) (fun c_158 => ?_)
                  refine zi_ldc 163 dX11_take_161 tw_910 rfl ?_
                  exact zr_int hZ dX11_take_163 rfl rfl ⟨_, rfl, _, by rw [r_take, if_neg zzO, nI_clamp hyj31, if_neg zzL, if_pos zzR, nI_clamp hx, r_taken, if_pos (by first | exact tk_no1 (k := 1) (by decide) al1 | exact tk_no1 (k := 2) (by decide) al2 | exact tk_no1 (k := 3) (by decide) al3)], ⟨m, N0.1, K⟩, N0.2⟩
                ·
                  refine zi_iconst (v := 1) 110 dX11_take_109 (by decide) rfl ?_
                  refine zi_goto 114 dX11_take_110 (by decide) ?_
                  refine zi_istore (lv' := [(5, _), (7, _), (6, _), (4, _), (0, _), (1, _), (2, _), (3, _)]) 116 dX11_take_114 rfl rfl rfl ?_
                  refine zi_iload 118 dX11_take_116 rfl rfl ?_
                  refine zi_if_eq 121 147 dX11_take_118 (by decide) rfl (fun c_118 => ?_) (fun c_118 => absurd c_118 (by decide))
                  refine zi_iconst (v := 0) 148 dX11_take_147 (by decide) rfl ?_
                  refine zi_istore (lv' := [(6, _), (5, _), (7, _), (4, _), (0, _), (1, _), (2, _), (3, _)]) 150 dX11_take_148 rfl rfl rfl ?_
                  refine zi_iinc (v := 3) (lv' := [(7, _), (6, _), (5, _), (4, _), (0, _), (1, _), (2, _), (3, _)]) 153 dX11_take_150 rfl rfl rfl rfl rfl ?_
                  refine zi_goto 73 dX11_take_153 (by decide) ?_
                  refine zi_iload 75 dX11_take_73 rfl rfl ?_
                  refine zi_iconst (v := 4) 76 dX11_take_75 (by decide) rfl ?_
                  refine zi_icmp_ge 79 156 dX11_take_76 (by decide) rfl (fun c_76 => absurd c_76 (by decide)) (fun c_76 => ?_)
                  refine zi_iload 81 dX11_take_79 rfl rfl ?_
                  refine zi_if_eq 84 113 dX11_take_81 (by decide) rfl (fun c_81 => absurd c_81 (by decide)) (fun c_81 => ?_)
                  refine zi_aload_n 85 dX11_take_84 rfl rfl ?_
                  refine zi_getfield 88 4 dX11_take_85 zcl_X11 tw_867 rfl rfl N0.1.1 rfl rfl ?_
                  refine zi_iload 90 dX11_take_88 rfl rfl ?_
                  refine zi_iload 92 dX11_take_90 rfl rfl ?_
                  refine zi_iadd 93 dX11_take_92 rfl ?_
                  rw [show (nI ((100 * yj) + x) : Int32) + 3 = nI (((100 * yj) + x) + 3) from nI_ad ((100 * yj) + x) 3]
                  refine zi_laload 94 dX11_take_93 N0.1.2.2.2.2.2.1 (vp_in_nI (show (((100 * yj) + x) + 3) < 800 by omega) (by decide)) rfl ?_
                  rw [nI_clamp (Nat.lt_trans (show (((100 * yj) + x) + 3) < 800 by omega) (by decide))]
                  rw [show wI _ (((100 * yj) + x) + 3) = qIt s yj (x + 3) from (by rw [Nat.add_assoc]; exact h5 (x + 3) (by omega))]
                  refine zi_lconst (v := 1) 95 dX11_take_94 (by decide) rfl ?_
                  refine zi_land 96 dX11_take_95 rfl ?_
                  refine zi_aload_n 97 dX11_take_96 rfl rfl ?_
                  refine zi_getfield 100 4 dX11_take_97 zcl_X11 tw_867 rfl rfl N0.1.1 rfl rfl ?_
                  refine zi_iload 102 dX11_take_100 rfl rfl ?_
                  refine zi_laload 103 dX11_take_102 N0.1.2.2.2.2.2.1 (vp_in_nI (show ((100 * yj) + x) < 800 by omega) (by decide)) rfl ?_
                  rw [nI_clamp (Nat.lt_trans (show ((100 * yj) + x) < 800 by omega) (by decide))]
                  rw [show wI _ ((100 * yj) + x) = qIt s yj x from h5 x (by omega)]
                  refine zi_lconst (v := 1) 104 dX11_take_103 (by decide) rfl ?_
                  refine zi_land 105 dX11_take_104 rfl ?_
                  refine zj_ne 109 113 dX11_take_105 rfl dX11_take_106 (by decide) rfl (fun al3 => ?_) (fun al3 => ?_)
                  ·
                    refine zi_iconst (v := 0) 114 dX11_take_113 (by decide) rfl ?_
                    refine zi_istore (lv' := [(5, _), (7, _), (6, _), (4, _), (0, _), (1, _), (2, _), (3, _)]) 116 dX11_take_114 rfl rfl rfl ?_
                    refine zi_iload 118 dX11_take_116 rfl rfl ?_
                    refine zi_if_eq 121 147 dX11_take_118 (by decide) rfl (fun c_118 => ?_) (fun c_118 => absurd c_118 (by decide))
                    refine zi_iconst (v := 0) 148 dX11_take_147 (by decide) rfl ?_
                    refine zi_istore (lv' := [(6, _), (5, _), (7, _), (4, _), (0, _), (1, _), (2, _), (3, _)]) 150 dX11_take_148 rfl rfl rfl ?_
                    refine zi_iinc (v := 4) (lv' := [(7, _), (6, _), (5, _), (4, _), (0, _), (1, _), (2, _), (3, _)]) 153 dX11_take_150 rfl rfl rfl rfl rfl ?_
                    refine zi_goto 73 dX11_take_153 (by decide) ?_
                    refine zi_iload 75 dX11_take_73 rfl rfl ?_
                    refine zi_iconst (v := 4) 76 dX11_take_75 (by decide) rfl ?_
                    refine zi_icmp_ge 79 156 dX11_take_76 (by decide) rfl (fun c_76 => ?_) (fun c_76 => absurd c_76 (by decide))
                    refine zi_iload 158 dX11_take_156 rfl rfl ?_
                    refine zi_if_ne 161 164 dX11_take_158 (by decide) rfl (fun c_158 => absurd c_158 (by decide)) (fun c_158 => ?_)
                    refine zi_ldc 163 dX11_take_161 tw_910 rfl ?_
                    exact zr_int hZ dX11_take_163 rfl rfl ⟨_, rfl, _, by rw [r_take, if_neg zzO, nI_clamp hyj31, if_neg zzL, if_pos zzR, nI_clamp hx, r_taken, if_pos (by first | exact tk_no1 (k := 1) (by decide) al1 | exact tk_no1 (k := 2) (by decide) al2 | exact tk_no1 (k := 3) (by decide) al3)], ⟨m, N0.1, K⟩, N0.2⟩
                  ·
                    refine zi_iconst (v := 1) 110 dX11_take_109 (by decide) rfl ?_
                    refine zi_goto 114 dX11_take_110 (by decide) ?_
                    refine zi_istore (lv' := [(5, _), (7, _), (6, _), (4, _), (0, _), (1, _), (2, _), (3, _)]) 116 dX11_take_114 rfl rfl rfl ?_
                    refine zi_iload 118 dX11_take_116 rfl rfl ?_
                    refine zi_if_eq 121 147 dX11_take_118 (by decide) rfl (fun c_118 => ?_) (fun c_118 => absurd c_118 (by decide))
                    refine zi_iconst (v := 0) 148 dX11_take_147 (by decide) rfl ?_
                    refine zi_istore (lv' := [(6, _), (5, _), (7, _), (4, _), (0, _), (1, _), (2, _), (3, _)]) 150 dX11_take_148 rfl rfl rfl ?_
                    refine zi_iinc (v := 4) (lv' := [(7, _), (6, _), (5, _), (4, _), (0, _), (1, _), (2, _), (3, _)]) 153 dX11_take_150 rfl rfl rfl rfl rfl ?_
                    refine zi_goto 73 dX11_take_153 (by decide) ?_
                    refine zi_iload 75 dX11_take_73 rfl rfl ?_
                    refine zi_iconst (v := 4) 76 dX11_take_75 (by decide) rfl ?_
                    refine zi_icmp_ge 79 156 dX11_take_76 (by decide) rfl (fun c_76 => ?_) (fun c_76 => absurd c_76 (by decide))
                    refine zi_iload 158 dX11_take_156 rfl rfl ?_
                    refine zi_if_ne 161 164 dX11_take_158 (by decide) rfl (fun c_158 => ?_) (fun c_158 => absurd c_158 (by decide))
                    refine zi_iload 166 dX11_take_164 rfl rfl ?_
                    refine zi_if_ne 169 172 dX11_take_166 (by decide) rfl (fun c_166 => absurd c_166 (by decide)) (fun c_166 => ?_)
                    refine zi_ldc 171 dX11_take_169 tw_943 rfl ?_
                    exact zr_int hZ dX11_take_171 rfl rfl ⟨_, rfl, _, by rw [r_take, if_neg zzO, nI_clamp hyj31, if_neg zzL, if_pos zzR, nI_clamp hx, r_taken, if_neg (fun r => r (tk_o al1 al2 al3)), if_pos (by first | exact tk_f (k := 0) (by decide) sm0 | exact tk_f (k := 1) (by decide) sm1 | exact tk_f (k := 2) (by decide) sm2 | exact tk_f (k := 3) (by decide) sm3)], ⟨m, N0.1, K⟩, N0.2⟩
              ·
                refine zi_iconst (v := 1) 144 dX11_take_143 (by decide) rfl ?_
                refine zi_goto 148 dX11_take_144 (by decide) ?_
                refine zi_istore (lv' := [(6, _), (5, _), (7, _), (4, _), (0, _), (1, _), (2, _), (3, _)]) 150 dX11_take_148 rfl rfl rfl ?_
                refine zi_iinc (v := 2) (lv' := [(7, _), (6, _), (5, _), (4, _), (0, _), (1, _), (2, _), (3, _)]) 153 dX11_take_150 rfl rfl rfl rfl rfl ?_
                refine zi_goto 73 dX11_take_153 (by decide) ?_
                refine zi_iload 75 dX11_take_73 rfl rfl ?_
                refine zi_iconst (v := 4) 76 dX11_take_75 (by decide) rfl ?_
                refine zi_icmp_ge 79 156 dX11_take_76 (by decide) rfl (fun c_76 => absurd c_76 (by decide)) (fun c_76 => ?_)
                refine zi_iload 81 dX11_take_79 rfl rfl ?_
                refine zi_if_eq 84 113 dX11_take_81 (by decide) rfl (fun c_81 => absurd c_81 (by decide)) (fun c_81 => ?_)
                refine zi_aload_n 85 dX11_take_84 rfl rfl ?_
                refine zi_getfield 88 4 dX11_take_85 zcl_X11 tw_867 rfl rfl N0.1.1 rfl rfl ?_
                refine zi_iload 90 dX11_take_88 rfl rfl ?_
                refine zi_iload 92 dX11_take_90 rfl rfl ?_
                refine zi_iadd 93 dX11_take_92 rfl ?_
                rw [show (nI ((100 * yj) + x) : Int32) + 2 = nI (((100 * yj) + x) + 2) from nI_ad ((100 * yj) + x) 2]
                refine zi_laload 94 dX11_take_93 N0.1.2.2.2.2.2.1 (vp_in_nI (show (((100 * yj) + x) + 2) < 800 by omega) (by decide)) rfl ?_
                rw [nI_clamp (Nat.lt_trans (show (((100 * yj) + x) + 2) < 800 by omega) (by decide))]
                rw [show wI _ (((100 * yj) + x) + 2) = qIt s yj (x + 2) from (by rw [Nat.add_assoc]; exact h5 (x + 2) (by omega))]
                refine zi_lconst (v := 1) 95 dX11_take_94 (by decide) rfl ?_
                refine zi_land 96 dX11_take_95 rfl ?_
                refine zi_aload_n 97 dX11_take_96 rfl rfl ?_
                refine zi_getfield 100 4 dX11_take_97 zcl_X11 tw_867 rfl rfl N0.1.1 rfl rfl ?_
                refine zi_iload 102 dX11_take_100 rfl rfl ?_
                refine zi_laload 103 dX11_take_102 N0.1.2.2.2.2.2.1 (vp_in_nI (show ((100 * yj) + x) < 800 by omega) (by decide)) rfl ?_
                rw [nI_clamp (Nat.lt_trans (show ((100 * yj) + x) < 800 by omega) (by decide))]
                rw [show wI _ ((100 * yj) + x) = qIt s yj x from h5 x (by omega)]
                refine zi_lconst (v := 1) 104 dX11_take_103 (by decide) rfl ?_
                refine zi_land 105 dX11_take_104 rfl ?_
                refine zj_ne 109 113 dX11_take_105 rfl dX11_take_106 (by decide) rfl (fun al2 => ?_) (fun al2 => ?_)
                ·
                  refine zi_iconst (v := 0) 114 dX11_take_113 (by decide) rfl ?_
                  refine zi_istore (lv' := [(5, _), (7, _), (6, _), (4, _), (0, _), (1, _), (2, _), (3, _)]) 116 dX11_take_114 rfl rfl rfl ?_
                  refine zi_iload 118 dX11_take_116 rfl rfl ?_
                  refine zi_if_eq 121 147 dX11_take_118 (by decide) rfl (fun c_118 => absurd c_118 (by decide)) (fun c_118 => ?_)
                  refine zi_aload_n 122 dX11_take_121 rfl rfl ?_
                  refine zi_getfield 125 4 dX11_take_122 zcl_X11 tw_867 rfl rfl N0.1.1 rfl rfl ?_
                  refine zi_iload 127 dX11_take_125 rfl rfl ?_
                  refine zi_iload 129 dX11_take_127 rfl rfl ?_
                  refine zi_iadd 130 dX11_take_129 rfl ?_
                  rw [show (nI ((100 * yj) + x) : Int32) + 2 = nI (((100 * yj) + x) + 2) from nI_ad ((100 * yj) + x) 2]
                  refine zi_laload 131 dX11_take_130 N0.1.2.2.2.2.2.1 (vp_in_nI (show (((100 * yj) + x) + 2) < 800 by omega) (by decide)) rfl ?_
                  rw [nI_clamp (Nat.lt_trans (show (((100 * yj) + x) + 2) < 800 by omega) (by decide))]
                  rw [show wI _ (((100 * yj) + x) + 2) = qIt s yj (x + 2) from (by rw [Nat.add_assoc]; exact h5 (x + 2) (by omega))]
                  refine zi_ldc2 134 dX11_take_131 tw_941 rfl ?_
                  refine zi_ldc2 137 dX11_take_134 tw_942 rfl ?_
                  refine zc_static (n' := (0, 0)) (md' := mX11_in) 140 dX11_take_137 tw_906 zs_X11_in (s_X11_in B h _ _ _) rfl rfl rfl rfl rfl rfl rfl rfl (zk_f ?_)
                  refine zb_eq 143 147 dX11_take_140 (by decide) rfl (fun sm2 => ?_) (fun sm2 => ?_)
                  ·
                    refine zi_iconst (v := 0) 148 dX11_take_147 (by decide) rfl ?_
                    refine zi_istore (lv' := [(6, _), (5, _), (7, _), (4, _), (0, _), (1, _), (2, _), (3, _)]) 150 dX11_take_148 rfl rfl rfl ?_
                    refine zi_iinc (v := 3) (lv' := [(7, _), (6, _), (5, _), (4, _), (0, _), (1, _), (2, _), (3, _)]) 153 dX11_take_150 rfl rfl rfl rfl rfl ?_
                    refine zi_goto 73 dX11_take_153 (by decide) ?_
                    refine zi_iload 75 dX11_take_73 rfl rfl ?_
                    refine zi_iconst (v := 4) 76 dX11_take_75 (by decide) rfl ?_
                    refine zi_icmp_ge 79 156 dX11_take_76 (by decide) rfl (fun c_76 => absurd c_76 (by decide)) (fun c_76 => ?_)
                    refine zi_iload 81 dX11_take_79 rfl rfl ?_
                    refine zi_if_eq 84 113 dX11_take_81 (by decide) rfl (fun c_81 => ?_) (fun c_81 => absurd c_81 (by decide))
                    refine zi_iconst (v := 0) 114 dX11_take_113 (by decide) rfl ?_
                    refine zi_istore (lv' := [(5, _), (7, _), (6, _), (4, _), (0, _), (1, _), (2, _), (3, _)]) 116 dX11_take_114 rfl rfl rfl ?_
                    refine zi_iload 118 dX11_take_116 rfl rfl ?_
                    refine zi_if_eq 121 147 dX11_take_118 (by decide) rfl (fun c_118 => ?_) (fun c_118 => absurd c_118 (by decide))
                    refine zi_iconst (v := 0) 148 dX11_take_147 (by decide) rfl ?_
                    refine zi_istore (lv' := [(6, _), (5, _), (7, _), (4, _), (0, _), (1, _), (2, _), (3, _)]) 150 dX11_take_148 rfl rfl rfl ?_
                    refine zi_iinc (v := 4) (lv' := [(7, _), (6, _), (5, _), (4, _), (0, _), (1, _), (2, _), (3, _)]) 153 dX11_take_150 rfl rfl rfl rfl rfl ?_
                    refine zi_goto 73 dX11_take_153 (by decide) ?_
                    refine zi_iload 75 dX11_take_73 rfl rfl ?_
                    refine zi_iconst (v := 4) 76 dX11_take_75 (by decide) rfl ?_
                    refine zi_icmp_ge 79 156 dX11_take_76 (by decide) rfl (fun c_76 => ?_) (fun c_76 => absurd c_76 (by decide))
                    refine zi_iload 158 dX11_take_156 rfl rfl ?_
                    refine zi_if_ne 161 164 dX11_take_158 (by decide) rfl (fun c_158 => absurd c_158 (by decide)) (fun c_158 => ?_)
                    refine zi_ldc 163 dX11_take_161 tw_910 rfl ?_
                    exact zr_int hZ dX11_take_163 rfl rfl ⟨_, rfl, _, by rw [r_take, if_neg zzO, nI_clamp hyj31, if_neg zzL, if_pos zzR, nI_clamp hx, r_taken, if_pos (by first | exact tk_no1 (k := 1) (by decide) al1 | exact tk_no1 (k := 2) (by decide) al2 | exact tk_no1 (k := 3) (by decide) al3)], ⟨m, N0.1, K⟩, N0.2⟩
                  ·
                    refine zi_iconst (v := 1) 144 dX11_take_143 (by decide) rfl ?_
                    refine zi_goto 148 dX11_take_144 (by decide) ?_
                    refine zi_istore (lv' := [(6, _), (5, _), (7, _), (4, _), (0, _), (1, _), (2, _), (3, _)]) 150 dX11_take_148 rfl rfl rfl ?_
                    refine zi_iinc (v := 3) (lv' := [(7, _), (6, _), (5, _), (4, _), (0, _), (1, _), (2, _), (3, _)]) 153 dX11_take_150 rfl rfl rfl rfl rfl ?_
                    refine zi_goto 73 dX11_take_153 (by decide) ?_
                    refine zi_iload 75 dX11_take_73 rfl rfl ?_
                    refine zi_iconst (v := 4) 76 dX11_take_75 (by decide) rfl ?_
                    refine zi_icmp_ge 79 156 dX11_take_76 (by decide) rfl (fun c_76 => absurd c_76 (by decide)) (fun c_76 => ?_)
                    refine zi_iload 81 dX11_take_79 rfl rfl ?_
                    refine zi_if_eq 84 113 dX11_take_81 (by decide) rfl (fun c_81 => ?_) (fun c_81 => absurd c_81 (by decide))
                    refine zi_iconst (v := 0) 114 dX11_take_113 (by decide) rfl ?_
                    refine zi_istore (lv' := [(5, _), (7, _), (6, _), (4, _), (0, _), (1, _), (2, _), (3, _)]) 116 dX11_take_114 rfl rfl rfl ?_
                    refine zi_iload 118 dX11_take_116 rfl rfl ?_
                    refine zi_if_eq 121 147 dX11_take_118 (by decide) rfl (fun c_118 => absurd c_118 (by decide)) (fun c_118 => ?_)
                    refine zi_aload_n 122 dX11_take_121 rfl rfl ?_
                    refine zi_getfield 125 4 dX11_take_122 zcl_X11 tw_867 rfl rfl N0.1.1 rfl rfl ?_
                    refine zi_iload 127 dX11_take_125 rfl rfl ?_
                    refine zi_iload 129 dX11_take_127 rfl rfl ?_
                    refine zi_iadd 130 dX11_take_129 rfl ?_
                    rw [show (nI ((100 * yj) + x) : Int32) + 3 = nI (((100 * yj) + x) + 3) from nI_ad ((100 * yj) + x) 3]
                    refine zi_laload 131 dX11_take_130 N0.1.2.2.2.2.2.1 (vp_in_nI (show (((100 * yj) + x) + 3) < 800 by omega) (by decide)) rfl ?_
                    rw [nI_clamp (Nat.lt_trans (show (((100 * yj) + x) + 3) < 800 by omega) (by decide))]
                    rw [show wI _ (((100 * yj) + x) + 3) = qIt s yj (x + 3) from (by rw [Nat.add_assoc]; exact h5 (x + 3) (by omega))]
                    refine zi_ldc2 134 dX11_take_131 tw_941 rfl ?_
                    refine zi_ldc2 137 dX11_take_134 tw_942 rfl ?_
                    refine zc_static (n' := (0, 0)) (md' := mX11_in) 140 dX11_take_137 tw_906 zs_X11_in (s_X11_in B h _ _ _) rfl rfl rfl rfl rfl rfl rfl rfl (zk_f ?_)
                    refine zb_eq 143 147 dX11_take_140 (by decide) rfl (fun sm3 => ?_) (fun sm3 => ?_)
                    ·
                      refine zi_iconst (v := 0) 148 dX11_take_147 (by decide) rfl ?_
                      refine zi_istore (lv' := [(6, _), (5, _), (7, _), (4, _), (0, _), (1, _), (2, _), (3, _)]) 150 dX11_take_148 rfl rfl rfl ?_
                      refine zi_iinc (v := 4) (lv' := [(7, _), (6, _), (5, _), (4, _), (0, _), (1, _), (2, _), (3, _)]) 153 dX11_take_150 rfl rfl rfl rfl rfl ?_
                      refine zi_goto 73 dX11_take_153 (by decide) ?_
                      refine zi_iload 75 dX11_take_73 rfl rfl ?_
                      refine zi_iconst (v := 4) 76 dX11_take_75 (by decide) rfl ?_
                      refine zi_icmp_ge 79 156 dX11_take_76 (by decide) rfl (fun c_76 => ?_) (fun c_76 => absurd c_76 (by decide))
                      refine zi_iload 158 dX11_take_156 rfl rfl ?_
                      refine zi_if_ne 161 164 dX11_take_158 (by decide) rfl (fun c_158 => absurd c_158 (by decide)) (fun c_158 => ?_)
                      refine zi_ldc 163 dX11_take_161 tw_910 rfl ?_
                      exact zr_int hZ dX11_take_163 rfl rfl ⟨_, rfl, _, by rw [r_take, if_neg zzO, nI_clamp hyj31, if_neg zzL, if_pos zzR, nI_clamp hx, r_taken, if_pos (by first | exact tk_no1 (k := 1) (by decide) al1 | exact tk_no1 (k := 2) (by decide) al2 | exact tk_no1 (k := 3) (by decide) al3)], ⟨m, N0.1, K⟩, N0.2⟩
                    ·
                      refine zi_iconst (v := 1) 144 dX11_take_143 (by decide) rfl ?_
                      refine zi_goto 148 dX11_take_144 (by decide) ?_
                      refine zi_istore (lv' := [(6, _), (5, _), (7, _), (4, _), (0, _), (1, _), (2, _), (3, _)]) 150 dX11_take_148 rfl rfl rfl ?_
                      refine zi_iinc (v := 4) (lv' := [(7, _), (6, _), (5, _), (4, _), (0, _), (1, _), (2, _), (3, _)]) 153 dX11_take_150 rfl rfl rfl rfl rfl ?_
                      refine zi_goto 73 dX11_take_153 (by decide) ?_
                      refine zi_iload 75 dX11_take_73 rfl rfl ?_
                      refine zi_iconst (v := 4) 76 dX11_take_75 (by decide) rfl ?_
                      refine zi_icmp_ge 79 156 dX11_take_76 (by decide) rfl (fun c_76 => ?_) (fun c_76 => absurd c_76 (by decide))
                      refine zi_iload 158 dX11_take_156 rfl rfl ?_
                      refine zi_if_ne 161 164 dX11_take_158 (by decide) rfl (fun c_158 => absurd c_158 (by decide)) (fun c_158 => ?_)
                      refine zi_ldc 163 dX11_take_161 tw_910 rfl ?_
                      exact zr_int hZ dX11_take_163 rfl rfl ⟨_, rfl, _, by rw [r_take, if_neg zzO, nI_clamp hyj31, if_neg zzL, if_pos zzR, nI_clamp hx, r_taken, if_pos (by first | exact tk_no1 (k := 1) (by decide) al1 | exact tk_no1 (k := 2) (by decide) al2 | exact tk_no1 (k := 3) (by decide) al3)], ⟨m, N0.1, K⟩, N0.2⟩
                ·
                  refine zi_iconst (v := 1) 110 dX11_take_109 (by decide) rfl ?_
                  refine zi_goto 114 dX11_take_110 (by decide) ?_
                  refine zi_istore (lv' := [(5, _), (7, _), (6, _), (4, _), (0, _), (1, _), (2, _), (3, _)]) 116 dX11_take_114 rfl rfl rfl ?_
                  refine zi_iload 118 dX11_take_116 rfl rfl ?_
                  refine zi_if_eq 121 147 dX11_take_118 (by decide) rfl (fun c_118 => absurd c_118 (by decide)) (fun c_118 => ?_)
                  refine zi_aload_n 122 dX11_take_121 rfl rfl ?_
                  refine zi_getfield 125 4 dX11_take_122 zcl_X11 tw_867 rfl rfl N0.1.1 rfl rfl ?_
                  refine zi_iload 127 dX11_take_125 rfl rfl ?_
                  refine zi_iload 129 dX11_take_127 rfl rfl ?_
                  refine zi_iadd 130 dX11_take_129 rfl ?_
                  rw [show (nI ((100 * yj) + x) : Int32) + 2 = nI (((100 * yj) + x) + 2) from nI_ad ((100 * yj) + x) 2]
                  refine zi_laload 131 dX11_take_130 N0.1.2.2.2.2.2.1 (vp_in_nI (show (((100 * yj) + x) + 2) < 800 by omega) (by decide)) rfl ?_
                  rw [nI_clamp (Nat.lt_trans (show (((100 * yj) + x) + 2) < 800 by omega) (by decide))]
                  rw [show wI _ (((100 * yj) + x) + 2) = qIt s yj (x + 2) from (by rw [Nat.add_assoc]; exact h5 (x + 2) (by omega))]
                  refine zi_ldc2 134 dX11_take_131 tw_941 rfl ?_
                  refine zi_ldc2 137 dX11_take_134 tw_942 rfl ?_
                  refine zc_static (n' := (0, 0)) (md' := mX11_in) 140 dX11_take_137 tw_906 zs_X11_in (s_X11_in B h _ _ _) rfl rfl rfl rfl rfl rfl rfl rfl (zk_f ?_)
                  refine zb_eq 143 147 dX11_take_140 (by decide) rfl (fun sm2 => ?_) (fun sm2 => ?_)
                  ·
                    refine zi_iconst (v := 0) 148 dX11_take_147 (by decide) rfl ?_
                    refine zi_istore (lv' := [(6, _), (5, _), (7, _), (4, _), (0, _), (1, _), (2, _), (3, _)]) 150 dX11_take_148 rfl rfl rfl ?_
                    refine zi_iinc (v := 3) (lv' := [(7, _), (6, _), (5, _), (4, _), (0, _), (1, _), (2, _), (3, _)]) 153 dX11_take_150 rfl rfl rfl rfl rfl ?_
                    refine zi_goto 73 dX11_take_153 (by decide) ?_
                    refine zi_iload 75 dX11_take_73 rfl rfl ?_
                    refine zi_iconst (v := 4) 76 dX11_take_75 (by decide) rfl ?_
                    refine zi_icmp_ge 79 156 dX11_take_76 (by decide) rfl (fun c_76 => absurd c_76 (by decide)) (fun c_76 => ?_)
                    refine zi_iload 81 dX11_take_79 rfl rfl ?_
                    refine zi_if_eq 84 113 dX11_take_81 (by decide) rfl (fun c_81 => absurd c_81 (by decide)) (fun c_81 => ?_)
                    refine zi_aload_n 85 dX11_take_84 rfl rfl ?_
                    refine zi_getfield 88 4 dX11_take_85 zcl_X11 tw_867 rfl rfl N0.1.1 rfl rfl ?_
                    refine zi_iload 90 dX11_take_88 rfl rfl ?_
                    refine zi_iload 92 dX11_take_90 rfl rfl ?_
                    refine zi_iadd 93 dX11_take_92 rfl ?_
                    rw [show (nI ((100 * yj) + x) : Int32) + 3 = nI (((100 * yj) + x) + 3) from nI_ad ((100 * yj) + x) 3]
                    refine zi_laload 94 dX11_take_93 N0.1.2.2.2.2.2.1 (vp_in_nI (show (((100 * yj) + x) + 3) < 800 by omega) (by decide)) rfl ?_
                    rw [nI_clamp (Nat.lt_trans (show (((100 * yj) + x) + 3) < 800 by omega) (by decide))]
                    rw [show wI _ (((100 * yj) + x) + 3) = qIt s yj (x + 3) from (by rw [Nat.add_assoc]; exact h5 (x + 3) (by omega))]
                    refine zi_lconst (v := 1) 95 dX11_take_94 (by decide) rfl ?_
                    refine zi_land 96 dX11_take_95 rfl ?_
                    refine zi_aload_n 97 dX11_take_96 rfl rfl ?_
                    refine zi_getfield 100 4 dX11_take_97 zcl_X11 tw_867 rfl rfl N0.1.1 rfl rfl ?_
                    refine zi_iload 102 dX11_take_100 rfl rfl ?_
                    refine zi_laload 103 dX11_take_102 N0.1.2.2.2.2.2.1 (vp_in_nI (show ((100 * yj) + x) < 800 by omega) (by decide)) rfl ?_
                    rw [nI_clamp (Nat.lt_trans (show ((100 * yj) + x) < 800 by omega) (by decide))]
                    rw [show wI _ ((100 * yj) + x) = qIt s yj x from h5 x (by omega)]
                    refine zi_lconst (v := 1) 104 dX11_take_103 (by decide) rfl ?_
                    refine zi_land 105 dX11_take_104 rfl ?_
                    refine zj_ne 109 113 dX11_take_105 rfl dX11_take_106 (by decide) rfl (fun al3 => ?_) (fun al3 => ?_)
                    ·
                      refine zi_iconst (v := 0) 114 dX11_take_113 (by decide) rfl ?_
                      refine zi_istore (lv' := [(5, _), (7, _), (6, _), (4, _), (0, _), (1, _), (2, _), (3, _)]) 116 dX11_take_114 rfl rfl rfl ?_
                      refine zi_iload 118 dX11_take_116 rfl rfl ?_
                      refine zi_if_eq 121 147 dX11_take_118 (by decide) rfl (fun c_118 => ?_) (fun c_118 => absurd c_118 (by decide))
                      refine zi_iconst (v := 0) 148 dX11_take_147 (by decide) rfl ?_
                      refine zi_istore (lv' := [(6, _), (5, _), (7, _), (4, _), (0, _), (1, _), (2, _), (3, _)]) 150 dX11_take_148 rfl rfl rfl ?_
                      refine zi_iinc (v := 4) (lv' := [(7, _), (6, _), (5, _), (4, _), (0, _), (1, _), (2, _), (3, _)]) 153 dX11_take_150 rfl rfl rfl rfl rfl ?_
                      refine zi_goto 73 dX11_take_153 (by decide) ?_
                      refine zi_iload 75 dX11_take_73 rfl rfl ?_
                      refine zi_iconst (v := 4) 76 dX11_take_75 (by decide) rfl ?_
                      refine zi_icmp_ge 79 156 dX11_take_76 (by decide) rfl (fun c_76 => ?_) (fun c_76 => absurd c_76 (by decide))
                      refine zi_iload 158 dX11_take_156 rfl rfl ?_
                      refine zi_if_ne 161 164 dX11_take_158 (by decide) rfl (fun c_158 => absurd c_158 (by decide)) (fun c_158 => ?_)
                      refine zi_ldc 163 dX11_take_161 tw_910 rfl ?_
                      exact zr_int hZ dX11_take_163 rfl rfl ⟨_, rfl, _, by rw [r_take, if_neg zzO, nI_clamp hyj31, if_neg zzL, if_pos zzR, nI_clamp hx, r_taken, if_pos (by first | exact tk_no1 (k := 1) (by decide) al1 | exact tk_no1 (k := 2) (by decide) al2 | exact tk_no1 (k := 3) (by decide) al3)], ⟨m, N0.1, K⟩, N0.2⟩
                    ·
                      refine zi_iconst (v := 1) 110 dX11_take_109 (by decide) rfl ?_
                      refine zi_goto 114 dX11_take_110 (by decide) ?_
                      refine zi_istore (lv' := [(5, _), (7, _), (6, _), (4, _), (0, _), (1, _), (2, _), (3, _)]) 116 dX11_take_114 rfl rfl rfl ?_
                      refine zi_iload 118 dX11_take_116 rfl rfl ?_
                      refine zi_if_eq 121 147 dX11_take_118 (by decide) rfl (fun c_118 => ?_) (fun c_118 => absurd c_118 (by decide))
                      refine zi_iconst (v := 0) 148 dX11_take_147 (by decide) rfl ?_
                      refine zi_istore (lv' := [(6, _), (5, _), (7, _), (4, _), (0, _), (1, _), (2, _), (3, _)]) 150 dX11_take_148 rfl rfl rfl ?_
                      refine zi_iinc (v := 4) (lv' := [(7, _), (6, _), (5, _), (4, _), (0, _), (1, _), (2, _), (3, _)]) 153 dX11_take_150 rfl rfl rfl rfl rfl ?_
                      refine zi_goto 73 dX11_take_153 (by decide) ?_
                      refine zi_iload 75 dX11_take_73 rfl rfl ?_
                      refine zi_iconst (v := 4) 76 dX11_take_75 (by decide) rfl ?_
                      refine zi_icmp_ge 79 156 dX11_take_76 (by decide) rfl (fun c_76 => ?_) (fun c_76 => absurd c_76 (by decide))
                      refine zi_iload 158 dX11_take_156 rfl rfl ?_
                      refine zi_if_ne 161 164 dX11_take_158 (by decide) rfl (fun c_158 => ?_) (fun c_158 => absurd c_158 (by decide))
                      refine zi_iload 166 dX11_take_164 rfl rfl ?_
                      refine zi_if_ne 169 172 dX11_take_166 (by decide) rfl (fun c_166 => absurd c_166 (by decide)) (fun c_166 => ?_)
                      refine zi_ldc 171 dX11_take_169 tw_943 rfl ?_
                      exact zr_int hZ dX11_take_171 rfl rfl ⟨_, rfl, _, by rw [r_take, if_neg zzO, nI_clamp hyj31, if_neg zzL, if_pos zzR, nI_clamp hx, r_taken, if_neg (fun r => r (tk_o al1 al2 al3)), if_pos (by first | exact tk_f (k := 0) (by decide) sm0 | exact tk_f (k := 1) (by decide) sm1 | exact tk_f (k := 2) (by decide) sm2 | exact tk_f (k := 3) (by decide) sm3)], ⟨m, N0.1, K⟩, N0.2⟩
                  ·
                    refine zi_iconst (v := 1) 144 dX11_take_143 (by decide) rfl ?_
                    refine zi_goto 148 dX11_take_144 (by decide) ?_
                    refine zi_istore (lv' := [(6, _), (5, _), (7, _), (4, _), (0, _), (1, _), (2, _), (3, _)]) 150 dX11_take_148 rfl rfl rfl ?_
                    refine zi_iinc (v := 3) (lv' := [(7, _), (6, _), (5, _), (4, _), (0, _), (1, _), (2, _), (3, _)]) 153 dX11_take_150 rfl rfl rfl rfl rfl ?_
                    refine zi_goto 73 dX11_take_153 (by decide) ?_
                    refine zi_iload 75 dX11_take_73 rfl rfl ?_
                    refine zi_iconst (v := 4) 76 dX11_take_75 (by decide) rfl ?_
                    refine zi_icmp_ge 79 156 dX11_take_76 (by decide) rfl (fun c_76 => absurd c_76 (by decide)) (fun c_76 => ?_)
                    refine zi_iload 81 dX11_take_79 rfl rfl ?_
                    refine zi_if_eq 84 113 dX11_take_81 (by decide) rfl (fun c_81 => absurd c_81 (by decide)) (fun c_81 => ?_)
                    refine zi_aload_n 85 dX11_take_84 rfl rfl ?_
                    refine zi_getfield 88 4 dX11_take_85 zcl_X11 tw_867 rfl rfl N0.1.1 rfl rfl ?_
                    refine zi_iload 90 dX11_take_88 rfl rfl ?_
                    refine zi_iload 92 dX11_take_90 rfl rfl ?_
                    refine zi_iadd 93 dX11_take_92 rfl ?_
                    rw [show (nI ((100 * yj) + x) : Int32) + 3 = nI (((100 * yj) + x) + 3) from nI_ad ((100 * yj) + x) 3]
                    refine zi_laload 94 dX11_take_93 N0.1.2.2.2.2.2.1 (vp_in_nI (show (((100 * yj) + x) + 3) < 800 by omega) (by decide)) rfl ?_
                    rw [nI_clamp (Nat.lt_trans (show (((100 * yj) + x) + 3) < 800 by omega) (by decide))]
                    rw [show wI _ (((100 * yj) + x) + 3) = qIt s yj (x + 3) from (by rw [Nat.add_assoc]; exact h5 (x + 3) (by omega))]
                    refine zi_lconst (v := 1) 95 dX11_take_94 (by decide) rfl ?_
                    refine zi_land 96 dX11_take_95 rfl ?_
                    refine zi_aload_n 97 dX11_take_96 rfl rfl ?_
                    refine zi_getfield 100 4 dX11_take_97 zcl_X11 tw_867 rfl rfl N0.1.1 rfl rfl ?_
                    refine zi_iload 102 dX11_take_100 rfl rfl ?_
                    refine zi_laload 103 dX11_take_102 N0.1.2.2.2.2.2.1 (vp_in_nI (show ((100 * yj) + x) < 800 by omega) (by decide)) rfl ?_
                    rw [nI_clamp (Nat.lt_trans (show ((100 * yj) + x) < 800 by omega) (by decide))]
                    rw [show wI _ ((100 * yj) + x) = qIt s yj x from h5 x (by omega)]
                    refine zi_lconst (v := 1) 104 dX11_take_103 (by decide) rfl ?_
                    refine zi_land 105 dX11_take_104 rfl ?_
                    refine zj_ne 109 113 dX11_take_105 rfl dX11_take_106 (by decide) rfl (fun al3 => ?_) (fun al3 => ?_)
                    ·
                      refine zi_iconst (v := 0) 114 dX11_take_113 (by decide) rfl ?_
                      refine zi_istore (lv' := [(5, _), (7, _), (6, _), (4, _), (0, _), (1, _), (2, _), (3, _)]) 116 dX11_take_114 rfl rfl rfl ?_
                      refine zi_iload 118 dX11_take_116 rfl rfl ?_
                      refine zi_if_eq 121 147 dX11_take_118 (by decide) rfl (fun c_118 => absurd c_118 (by decide)) (fun c_118 => ?_)
                      refine zi_aload_n 122 dX11_take_121 rfl rfl ?_
                      refine zi_getfield 125 4 dX11_take_122 zcl_X11 tw_867 rfl rfl N0.1.1 rfl rfl ?_
                      refine zi_iload 127 dX11_take_125 rfl rfl ?_
                      refine zi_iload 129 dX11_take_127 rfl rfl ?_
                      refine zi_iadd 130 dX11_take_129 rfl ?_
                      rw [show (nI ((100 * yj) + x) : Int32) + 3 = nI (((100 * yj) + x) + 3) from nI_ad ((100 * yj) + x) 3]
                      refine zi_laload 131 dX11_take_130 N0.1.2.2.2.2.2.1 (vp_in_nI (show (((100 * yj) + x) + 3) < 800 by omega) (by decide)) rfl ?_
                      rw [nI_clamp (Nat.lt_trans (show (((100 * yj) + x) + 3) < 800 by omega) (by decide))]
                      rw [show wI _ (((100 * yj) + x) + 3) = qIt s yj (x + 3) from (by rw [Nat.add_assoc]; exact h5 (x + 3) (by omega))]
                      refine zi_ldc2 134 dX11_take_131 tw_941 rfl ?_
                      refine zi_ldc2 137 dX11_take_134 tw_942 rfl ?_
                      refine zc_static (n' := (0, 0)) (md' := mX11_in) 140 dX11_take_137 tw_906 zs_X11_in (s_X11_in B h _ _ _) rfl rfl rfl rfl rfl rfl rfl rfl (zk_f ?_)
                      refine zb_eq 143 147 dX11_take_140 (by decide) rfl (fun sm3 => ?_) (fun sm3 => ?_)
                      ·
                        refine zi_iconst (v := 0) 148 dX11_take_147 (by decide) rfl ?_
                        refine zi_istore (lv' := [(6, _), (5, _), (7, _), (4, _), (0, _), (1, _), (2, _), (3, _)]) 150 dX11_take_148 rfl rfl rfl ?_
                        refine zi_iinc (v := 4) (lv' := [(7, _), (6, _), (5, _), (4, _), (0, _), (1, _), (2, _), (3, _)]) 153 dX11_take_150 rfl rfl rfl rfl rfl ?_
                        refine zi_goto 73 dX11_take_153 (by decide) ?_
                        refine zi_iload 75 dX11_take_73 rfl rfl ?_
                        refine zi_iconst (v := 4) 76 dX11_take_75 (by decide) rfl ?_
                        refine zi_icmp_ge 79 156 dX11_take_76 (by decide) rfl (fun c_76 => ?_) (fun c_76 => absurd c_76 (by decide))
                        refine zi_iload 158 dX11_take_156 rfl rfl ?_
                        refine zi_if_ne 161 164 dX11_take_158 (by decide) rfl (fun c_158 => absurd c_158 (by decide)) (fun c_158 => ?_)
                        refine zi_ldc 163 dX11_take_161 tw_910 rfl ?_
                        exact zr_int hZ dX11_take_163 rfl rfl ⟨_, rfl, _, by rw [r_take, if_neg zzO, nI_clamp hyj31, if_neg zzL, if_pos zzR, nI_clamp hx, r_taken, if_pos (by first | exact tk_no1 (k := 1) (by decide) al1 | exact tk_no1 (k := 2) (by decide) al2 | exact tk_no1 (k := 3) (by decide) al3)], ⟨m, N0.1, K⟩, N0.2⟩
                      ·
                        refine zi_iconst (v := 1) 144 dX11_take_143 (by decide) rfl ?_
                        refine zi_goto 148 dX11_take_144 (by decide) ?_
                        refine zi_istore (lv' := [(6, _), (5, _), (7, _), (4, _), (0, _), (1, _), (2, _), (3, _)]) 150 dX11_take_148 rfl rfl rfl ?_
                        refine zi_iinc (v := 4) (lv' := [(7, _), (6, _), (5, _), (4, _), (0, _), (1, _), (2, _), (3, _)]) 153 dX11_take_150 rfl rfl rfl rfl rfl ?_
                        refine zi_goto 73 dX11_take_153 (by decide) ?_
                        refine zi_iload 75 dX11_take_73 rfl rfl ?_
                        refine zi_iconst (v := 4) 76 dX11_take_75 (by decide) rfl ?_
                        refine zi_icmp_ge 79 156 dX11_take_76 (by decide) rfl (fun c_76 => ?_) (fun c_76 => absurd c_76 (by decide))
                        refine zi_iload 158 dX11_take_156 rfl rfl ?_
                        refine zi_if_ne 161 164 dX11_take_158 (by decide) rfl (fun c_158 => absurd c_158 (by decide)) (fun c_158 => ?_)
                        refine zi_ldc 163 dX11_take_161 tw_910 rfl ?_
                        exact zr_int hZ dX11_take_163 rfl rfl ⟨_, rfl, _, by rw [r_take, if_neg zzO, nI_clamp hyj31, if_neg zzL, if_pos zzR, nI_clamp hx, r_taken, if_pos (by first | exact tk_no1 (k := 1) (by decide) al1 | exact tk_no1 (k := 2) (by decide) al2 | exact tk_no1 (k := 3) (by decide) al3)], ⟨m, N0.1, K⟩, N0.2⟩
                    ·
                      refine zi_iconst (v := 1) 110 dX11_take_109 (by decide) rfl ?_
                      refine zi_goto 114 dX11_take_110 (by decide) ?_
                      refine zi_istore (lv' := [(5, _), (7, _), (6, _), (4, _), (0, _), (1, _), (2, _), (3, _)]) 116 dX11_take_114 rfl rfl rfl ?_
                      refine zi_iload 118 dX11_take_116 rfl rfl ?_
                      refine zi_if_eq 121 147 dX11_take_118 (by decide) rfl (fun c_118 => absurd c_118 (by decide)) (fun c_118 => ?_)
                      refine zi_aload_n 122 dX11_take_121 rfl rfl ?_
                      refine zi_getfield 125 4 dX11_take_122 zcl_X11 tw_867 rfl rfl N0.1.1 rfl rfl ?_
                      refine zi_iload 127 dX11_take_125 rfl rfl ?_
                      refine zi_iload 129 dX11_take_127 rfl rfl ?_
                      refine zi_iadd 130 dX11_take_129 rfl ?_
                      rw [show (nI ((100 * yj) + x) : Int32) + 3 = nI (((100 * yj) + x) + 3) from nI_ad ((100 * yj) + x) 3]
                      refine zi_laload 131 dX11_take_130 N0.1.2.2.2.2.2.1 (vp_in_nI (show (((100 * yj) + x) + 3) < 800 by omega) (by decide)) rfl ?_
                      rw [nI_clamp (Nat.lt_trans (show (((100 * yj) + x) + 3) < 800 by omega) (by decide))]
                      rw [show wI _ (((100 * yj) + x) + 3) = qIt s yj (x + 3) from (by rw [Nat.add_assoc]; exact h5 (x + 3) (by omega))]
                      refine zi_ldc2 134 dX11_take_131 tw_941 rfl ?_
                      refine zi_ldc2 137 dX11_take_134 tw_942 rfl ?_
                      refine zc_static (n' := (0, 0)) (md' := mX11_in) 140 dX11_take_137 tw_906 zs_X11_in (s_X11_in B h _ _ _) rfl rfl rfl rfl rfl rfl rfl rfl (zk_f ?_)
                      refine zb_eq 143 147 dX11_take_140 (by decide) rfl (fun sm3 => ?_) (fun sm3 => ?_)
                      ·
                        refine zi_iconst (v := 0) 148 dX11_take_147 (by decide) rfl ?_
                        refine zi_istore (lv' := [(6, _), (5, _), (7, _), (4, _), (0, _), (1, _), (2, _), (3, _)]) 150 dX11_take_148 rfl rfl rfl ?_
                        refine zi_iinc (v := 4) (lv' := [(7, _), (6, _), (5, _), (4, _), (0, _), (1, _), (2, _), (3, _)]) 153 dX11_take_150 rfl rfl rfl rfl rfl ?_
                        refine zi_goto 73 dX11_take_153 (by decide) ?_
                        refine zi_iload 75 dX11_take_73 rfl rfl ?_
                        refine zi_iconst (v := 4) 76 dX11_take_75 (by decide) rfl ?_
                        refine zi_icmp_ge 79 156 dX11_take_76 (by decide) rfl (fun c_76 => ?_) (fun c_76 => absurd c_76 (by decide))
                        refine zi_iload 158 dX11_take_156 rfl rfl ?_
                        refine zi_if_ne 161 164 dX11_take_158 (by decide) rfl (fun c_158 => ?_) (fun c_158 => absurd c_158 (by decide))
                        refine zi_iload 166 dX11_take_164 rfl rfl ?_
                        refine zi_if_ne 169 172 dX11_take_166 (by decide) rfl (fun c_166 => absurd c_166 (by decide)) (fun c_166 => ?_)
                        refine zi_ldc 171 dX11_take_169 tw_943 rfl ?_
                        exact zr_int hZ dX11_take_171 rfl rfl ⟨_, rfl, _, by rw [r_take, if_neg zzO, nI_clamp hyj31, if_neg zzL, if_pos zzR, nI_clamp hx, r_taken, if_neg (fun r => r (tk_o al1 al2 al3)), if_pos (by first | exact tk_f (k := 0) (by decide) sm0 | exact tk_f (k := 1) (by decide) sm1 | exact tk_f (k := 2) (by decide) sm2 | exact tk_f (k := 3) (by decide) sm3)], ⟨m, N0.1, K⟩, N0.2⟩
                      ·
                        refine zi_iconst (v := 1) 144 dX11_take_143 (by decide) rfl ?_
                        refine zi_goto 148 dX11_take_144 (by decide) ?_
                        refine zi_istore (lv' := [(6, _), (5, _), (7, _), (4, _), (0, _), (1, _), (2, _), (3, _)]) 150 dX11_take_148 rfl rfl rfl ?_
                        refine zi_iinc (v := 4) (lv' := [(7, _), (6, _), (5, _), (4, _), (0, _), (1, _), (2, _), (3, _)]) 153 dX11_take_150 rfl rfl rfl rfl rfl ?_
                        refine zi_goto 73 dX11_take_153 (by decide) ?_
                        refine zi_iload 75 dX11_take_73 rfl rfl ?_
                        refine zi_iconst (v := 4) 76 dX11_take_75 (by decide) rfl ?_
                        refine zi_icmp_ge 79 156 dX11_take_76 (by decide) rfl (fun c_76 => ?_) (fun c_76 => absurd c_76 (by decide))
                        refine zi_iload 158 dX11_take_156 rfl rfl ?_
                        refine zi_if_ne 161 164 dX11_take_158 (by decide) rfl (fun c_158 => ?_) (fun c_158 => absurd c_158 (by decide))
                        refine zi_iload 166 dX11_take_164 rfl rfl ?_
                        refine zi_if_ne 169 172 dX11_take_166 (by decide) rfl (fun c_166 => ?_) (fun c_166 => absurd c_166 (by decide))
                        refine zi_aload_n 173 dX11_take_172 rfl rfl ?_
                        refine zi_iconst (v := 0) 174 dX11_take_173 (by decide) rfl ?_
                        refine zi_aload_n 175 dX11_take_174 rfl rfl ?_
                        refine zi_getfield 178 4 dX11_take_175 zcl_X11 tw_867 rfl rfl N0.1.1 rfl rfl ?_
                        refine zi_iload 180 dX11_take_178 rfl rfl ?_
                        refine zi_laload 181 dX11_take_180 N0.1.2.2.2.2.2.1 (vp_in_nI (show ((100 * yj) + x) < 800 by omega) (by decide)) rfl ?_
                        rw [nI_clamp (Nat.lt_trans (show ((100 * yj) + x) < 800 by omega) (by decide))]
                        rw [show wI _ ((100 * yj) + x) = qIt s yj x from h5 x (by omega)]
                        refine zi_aload_n 182 dX11_take_181 rfl rfl ?_
                        refine zi_getfield 185 4 dX11_take_182 zcl_X11 tw_867 rfl rfl N0.1.1 rfl rfl ?_
                        refine zi_iload 187 dX11_take_185 rfl rfl ?_
                        refine zi_iconst (v := 1) 188 dX11_take_187 (by decide) rfl ?_
                        refine zi_iadd 189 dX11_take_188 rfl ?_
                        rw [show (nI ((100 * yj) + x) : Int32) + 1 = nI (((100 * yj) + x) + 1) from nI_ad ((100 * yj) + x) 1]
                        refine zi_laload 190 dX11_take_189 N0.1.2.2.2.2.2.1 (vp_in_nI (show (((100 * yj) + x) + 1) < 800 by omega) (by decide)) rfl ?_
                        rw [nI_clamp (Nat.lt_trans (show (((100 * yj) + x) + 1) < 800 by omega) (by decide))]
                        rw [show wI _ (((100 * yj) + x) + 1) = qIt s yj (x + 1) from (by rw [Nat.add_assoc]; exact h5 (x + 1) (by omega))]
                        refine zi_aload_n 191 dX11_take_190 rfl rfl ?_
                        refine zi_getfield 194 4 dX11_take_191 zcl_X11 tw_867 rfl rfl N0.1.1 rfl rfl ?_
                        refine zi_iload 196 dX11_take_194 rfl rfl ?_
                        refine zi_iconst (v := 2) 197 dX11_take_196 (by decide) rfl ?_
                        refine zi_iadd 198 dX11_take_197 rfl ?_
                        rw [show (nI ((100 * yj) + x) : Int32) + 2 = nI (((100 * yj) + x) + 2) from nI_ad ((100 * yj) + x) 2]
                        refine zi_laload 199 dX11_take_198 N0.1.2.2.2.2.2.1 (vp_in_nI (show (((100 * yj) + x) + 2) < 800 by omega) (by decide)) rfl ?_
                        rw [nI_clamp (Nat.lt_trans (show (((100 * yj) + x) + 2) < 800 by omega) (by decide))]
                        rw [show wI _ (((100 * yj) + x) + 2) = qIt s yj (x + 2) from (by rw [Nat.add_assoc]; exact h5 (x + 2) (by omega))]
                        refine zi_aload_n 200 dX11_take_199 rfl rfl ?_
                        refine zi_getfield 203 4 dX11_take_200 zcl_X11 tw_867 rfl rfl N0.1.1 rfl rfl ?_
                        refine zi_iload 205 dX11_take_203 rfl rfl ?_
                        refine zi_iconst (v := 3) 206 dX11_take_205 (by decide) rfl ?_
                        refine zi_iadd 207 dX11_take_206 rfl ?_
                        rw [show (nI ((100 * yj) + x) : Int32) + 3 = nI (((100 * yj) + x) + 3) from nI_ad ((100 * yj) + x) 3]
                        refine zi_laload 208 dX11_take_207 N0.1.2.2.2.2.2.1 (vp_in_nI (show (((100 * yj) + x) + 3) < 800 by omega) (by decide)) rfl ?_
                        rw [nI_clamp (Nat.lt_trans (show (((100 * yj) + x) + 3) < 800 by omega) (by decide))]
                        rw [show wI _ (((100 * yj) + x) + 3) = qIt s yj (x + 3) from (by rw [Nat.add_assoc]; exact h5 (x + 3) (by omega))]
                        refine zc_virtual (n' := (0, 0)) (md' := mX11_put) 211 dX11_take_208 tw_944 zv_X11_put zcl_X11 (s_X11_put B h D hD _ N0.1 0 (by decide) (_, _, _, _)) N0.1.1 rfl rfl rfl rfl rfl rfl rfl rfl (zk_v fun h1 n1 => ?_)
                        have N1 := rN_t N0 n1
                        obtain ⟨R2, N2, r0⟩ : ∃ R, rN B D (uR m R) h h1 ∧ ro R 0 = z4i (tk4 (qIt s yj) x) := ⟨_, N1, (tk4_z _ _).symm⟩
                        have oP := tk_o al1 al2 al3
                        have qP := tk_s sm0 sm1 sm2 sm3
                        refine zi_aload_n 212 dX11_take_211 rfl rfl ?_
                        refine zi_iconst (v := 0) 213 dX11_take_212 (by decide) rfl ?_
                        refine zc_virtual (n' := (0, 0)) (md' := mX11_norm4) 216 dX11_take_213 tw_948 zv_X11_norm4 zcl_X11 (s_X11_norm4 B h1 D hD _ N2.1 0 (by omega)) N2.1.1 rfl rfl rfl rfl rfl rfl rfl rfl (zk_f ?_)
                        rw [show zNm (ro (wR (uR m R2)) 0) = lN (nN (tk4 (qIt s yj) x)) from (congrArg zNm r0).trans (nq_z qP)]
                        refine zi_ldc2 219 dX11_take_216 tw_953 rfl ?_
                        refine zj_le 223 226 dX11_take_219 rfl dX11_take_220 (by decide) rfl (fun zzG => ?_) (fun zzG => ?_)
                        ·
                          rw [nq_9 qP oP, tk_9 oP] at zzG
                          have zzG := Decidable.not_not.mp zzG
                          refine zi_aload_n 227 dX11_take_226 rfl rfl ?_
                          refine zi_iload_n 228 dX11_take_227 rfl rfl ?_
                          refine zi_iconst (v := 0) 229 dX11_take_228 (by decide) rfl ?_
                          refine zc_virtual (n' := (0, 0)) (md' := mX11_hold) 232 dX11_take_229 tw_954 zv_X11_hold zcl_X11 (s_X11_hold B h1 D hD _ N2.1 ti 0 (by omega) (by omega)) N2.1.1 rfl rfl rfl rfl rfl rfl rfl rfl (zk_v fun h3 n3 => ?_)
                          have N3 := rN_t N2 n3
                          refine zi_aload_n 233 dX11_take_232 rfl rfl ?_
                          refine zi_aload_n 234 dX11_take_233 rfl rfl ?_
                          refine zi_iconst (v := 0) 235 dX11_take_234 (by decide) rfl ?_
                          refine zc_virtual (n' := (0, 0)) (md' := mX11_kindOf) 238 dX11_take_235 tw_958 zv_X11_kindOf zcl_X11 (s_X11_kindOf B h3 D hD _ N3.1 0 (by omega) (tk4 (qIt s yj) x) ⟨oP, zzG⟩ r0) N3.1.1 rfl rfl rfl rfl rfl rfl rfl rfl (zk_f ?_)
                          refine zc_virtual (n' := (0, 0)) (md' := mX11_well) 241 dX11_take_238 tw_916 zv_X11_well zcl_X11 (s_X11_well B h3 D hD _ N3.1 _) N3.1.1 rfl rfl rfl rfl rfl rfl rfl rfl (zk_i fun x4 h4 p4 => ?_)
                          obtain ⟨rfl, n4⟩ := p4
                          have N4 := rN_t N3 n4
                          exact zr_int hZ dX11_take_241 rfl rfl ⟨_, rfl, _, by rw [r_take, if_neg zzO, nI_clamp hyj31, if_neg zzL, if_pos zzR, nI_clamp hx, r_taken, if_neg (fun r => r oP), if_neg (fun r => r zzG), nI_clamp hti31], ⟨_, N4.1, mQ_F 0 (mQ_ho r0 K)⟩, N4.2⟩
                        ·
                          rw [nq_9 qP oP, tk_9 oP] at zzG
                          have zzG := zzG
                          refine zi_ldc 225 dX11_take_223 tw_943 rfl ?_
                          exact zr_int hZ dX11_take_225 rfl rfl ⟨_, rfl, _, by rw [r_take, if_neg zzO, nI_clamp hyj31, if_neg zzL, if_pos zzR, nI_clamp hx, r_taken, if_neg (fun r => r oP), if_pos (by first | exact zzG | exact Decidable.not_not.mp (fun q => zzG q))], ⟨_, N2.1, K⟩, N2.2⟩
        ·
          rw [tk_in (hs0.2.2.1 yj)] at zzR
          refine zi_aload_n 51 dX11_take_50 rfl rfl ?_
          refine zi_iconst (v := 2) 52 dX11_take_51 (by decide) rfl ?_
          refine zc_virtual (n' := (0, 0)) (md' := mX11_finds) 55 dX11_take_52 tw_911 zv_X11_finds zcl_X11 (s_X11_finds B h D hD _ N0.1 _) N0.1.1 rfl rfl rfl rfl rfl rfl rfl rfl (zk_i fun x5 h5 p5 => ?_)
          obtain ⟨rfl, n5⟩ := p5
          have N5 := rN_t N0 n5
          exact zr_int hZ dX11_take_55 rfl rfl ⟨_, rfl, _, by rw [r_take, if_neg zzO, nI_clamp hyj31, if_neg zzL, if_neg zzR], ⟨_, N5.1, mQ_F _ K⟩, N5.2⟩
      ·
        rw [nI_0e (show qLn s yj < 2 ^ 31 by have := hs0.2.1 yj; omega)] at zzL
        refine zi_aload_n 27 dX11_take_26 rfl rfl ?_
        refine zi_iconst (v := 1) 28 dX11_take_27 (by decide) rfl ?_
        refine zc_virtual (n' := (0, 0)) (md' := mX11_finds) 31 dX11_take_28 tw_911 zv_X11_finds zcl_X11 (s_X11_finds B h D hD _ N0.1 _) N0.1.1 rfl rfl rfl rfl rfl rfl rfl rfl (zk_i fun x6 h6 p6 => ?_)
        obtain ⟨rfl, n6⟩ := p6
        have N6 := rN_t N0 n6
        exact zr_int hZ dX11_take_31 rfl rfl ⟨_, rfl, _, by rw [r_take, if_neg zzO, nI_clamp hyj31, if_pos zzL], ⟨_, N6.1, mQ_F _ K⟩, N6.2⟩
    ·
      have zzB := Decidable.not_not.mp (fun q => zzB (in_8.mpr q))
      refine zi_ldc 16 dX11_take_14 tw_910 rfl ?_
      exact zr_int hZ dX11_take_16 rfl rfl ⟨_, rfl, _, by rw [r_take, if_pos (by first | exact Or.inl zzA | exact Or.inr (zzB))], ⟨m, N0.1, K⟩, N0.2⟩
