/-! the reference: the state that it keeps -/
def kn : Option i4 → Int32
  | none => 0
  | some _ => 1
def mQ (s : zSt) (fh : Nat → Int32) (fs : Nat → Int64) (fl fz : Nat → Int32) (fi : Nat → Int64) (st : Int32) (ft : Nat → Int32) (tc : Int32) : Prop := (∀ i, i < 20 → fh i = kn (qSl s i)) ∧ (∀ i, i < 20 → ∀ P, qSl s i = some P → ro fs (4 * i) = z4i P) ∧ (∀ i, i < 8 → fl i = nI (qLn s i)) ∧ (∀ i, i < 8 → fz i = nI (qSz s i)) ∧ (∀ i, i < 8 → ∀ j, j < qSz s i → fi (100 * i + j) = qIt s i j) ∧ st = qFd s ∧ (∀ (i : Nat) (x : Int32), (qTc s)[i]? = some x → ft i = x) ∧ tc = nI (qTc s).length
abbrev mK (s : zSt) (m : mS) : Prop := mQ s (wH m) (wS m) (wL m) (wZ m) (wI m) (wF m) (wT m) (wC m)
def rRm (B : zBB) (D : Nat → Nat) (s : zSt) (h : zHp) : Prop := ∃ m : mS, rM B D m h ∧ mK s m
def rOd (D : Nat → Nat) (h h' : zHp) : Prop := ∀ x, (∀ i, i < 10 → x ≠ D i) → h' x = h x
section MQ
variable {s : zSt} {fh : Nat → Int32} {fs : Nat → Int64} {fl fz : Nat → Int32} {fi : Nat → Int64} {st : Int32} {ft : Nat → Int32} {tc : Int32}
theorem mQ_F (v : Int32) (K : mQ s fh fs fl fz fi st ft tc) : mQ (sFd s v) fh fs fl fz fi v ft tc := ⟨K.1, K.2.1, K.2.2.1, K.2.2.2.1, K.2.2.2.2.1, rfl, K.2.2.2.2.2.2⟩
theorem mQ_cl {i : Nat} (K : mQ s fh fs fl fz fi st ft tc) : mQ (sSl s i none) (upd fh i 0) fs fl fz fi st ft tc := ⟨fun j hj => by
  show upd fh i 0 j = kn (if j = i then none else qSl s j)
  unfold upd
  split
  · rfl
  · exact K.1 j hj, fun j hj P hP => by
  change (if j = i then none else qSl s j) = some P at hP
  split at hP
  · cases hP
  · exact K.2.1 j hj P hP, K.2.2⟩
theorem mQ_ho {i : Nat} {P : i4} {v : z4} (hv : v = z4i P) (K : mQ s fh fs fl fz fi st ft tc) : mQ (sSl s i (some P)) (upd fh i 1) (p4 fs (4 * i) v) fl fz fi st ft tc := ⟨fun j hj => by
  show upd fh i 1 j = kn (if j = i then some P else qSl s j)
  unfold upd
  split
  · rfl
  · exact K.1 j hj, fun j hj Q hQ => by
  change (if j = i then some P else qSl s j) = some Q at hQ
  by_cases q : j = i
  · rw [if_pos q] at hQ
    cases hQ
    rw [q, p4_at, hv]
  · rw [if_neg q] at hQ
    rw [p4_ne _ (by omega)]
    exact K.2.1 j hj Q hQ, K.2.2⟩
end MQ
theorem in_o {x : Int32} {c : Int64} {N : Nat} (hN : N < 2 ^ 31) (hc : c.toInt = (N : Int) - 1) : zIn x.toInt64 0 c ↔ ¬ zOut x (nI N) := by
  unfold zIn zOut
  rw [Int64.le_iff_toInt_le, Int64.le_iff_toInt_le, Int32.toInt_toInt64, Int32.lt_iff_toInt_lt, Int32.lt_iff_toInt_lt, nI_toInt hN, hc, Int64.toInt_zero, Int32.toInt_zero]
  omega
theorem in_20 {x : Int32} : zIn x.toInt64 0 19 ↔ ¬ zOut x 20 := in_o (N := 20) (by decide) (by decide)
theorem in_8 {x : Int32} : zIn x.toInt64 0 7 ↔ ¬ zOut x 8 := in_o (N := 8) (by decide) (by decide)
theorem in_6 {x : Int32} : zIn x.toInt64 0 5 ↔ ¬ zOut x 6 := in_o (N := 6) (by decide) (by decide)
theorem in_5 {x : Int32} : zIn x.toInt64 0 4 ↔ ¬ zOut x 5 := in_o (N := 5) (by decide) (by decide)
theorem in_4 {x : Int32} : zIn x.toInt64 0 3 ↔ ¬ zOut x 4 := in_o (N := 4) (by decide) (by decide)
theorem in_3 {x : Int32} : zIn x.toInt64 0 2 ↔ ¬ zOut x 3 := in_o (N := 3) (by decide) (by decide)
theorem in_2 {x : Int32} : zIn x.toInt64 0 1 ↔ ¬ zOut x 2 := in_o (N := 2) (by decide) (by decide)
theorem too_o {t k : Int32} : (t = k ∨ k = 0 ∨ (k = 2 ∧ 2 < t)) → t ≤ 4 → zIsToo t k := fun h ht => by
  rcases h with h | h | ⟨h, h2⟩
  · exact Or.inl h.symm
  · exact Or.inr (Or.inl h)
  · refine Or.inr (Or.inr ⟨h, ?_⟩)
    rw [Int32.lt_iff_toInt_lt] at h2
    rw [Int32.le_iff_toInt_le] at ht
    have e2 : (2 : Int32).toInt = 2 := rfl
    have e4 : (4 : Int32).toInt = 4 := rfl
    rw [e2] at h2
    rw [e4] at ht
    rcases (show t.toInt = 3 ∨ t.toInt = 4 by omega) with e | e
    · exact Or.inl (Int32.toInt_inj.mp e)
    · exact Or.inr (Int32.toInt_inj.mp e)
theorem too_k {k : Int32} {P : i4} : (nI (kindI P) = k ∨ k = 0 ∨ (k = 2 ∧ 2 < nI (kindI P))) ↔ zIsToo (nI (kindI P)) k := by
  refine ⟨fun h => too_o h ?_, fun h => ?_⟩
  · rw [show (4 : Int32) = nI 4 from rfl, nI_leI (kd_31 P) (by decide)]
    exact kd_le P
  · rcases h with h | h | ⟨h, h2⟩
    · exact Or.inl h.symm
    · exact Or.inr (Or.inl h)
    · refine Or.inr (Or.inr ⟨h, ?_⟩)
      rcases h2 with h2 | h2 <;> rw [h2] <;> decide
theorem V_sq {P : i4} (h : i4V P) : i4q P < 9223372036854775808 := by have := h.2; omega

set_option maxHeartbeats 1000000 in
set_option maxRecDepth 100000 in
theorem s_X11_status (B : zBB) (h : zHp) (D : Nat → Nat) (hD : zInj D) (s : zSt) (hs0 : okSt s) (hR : rRm B D s h)  : zSpec mX11_status B (0, 0, 0) [.ref (D 0)] h (zPi (fun zx h' => ∃ s' : zSt, r_status s = (zx, s') ∧ rRm B D s' h' ∧ rOd D h h')) := by
  refine zSpec.of (by decide) (Nat.le_of_ble_eq_true rfl) (fun X hZ => ?_)
  show zG X mX11_status B (0, 0, 0) (0, 0) 0 [(0, .ref (D 0))] [] h
  obtain ⟨m, M, K⟩ := hR
  have N0 := rN_r M
  refine zi_aload_n 1 dX11_status_0 rfl rfl ?_
  refine zi_getfield 4 6 dX11_status_1 zcl_X11 tw_869 rfl rfl N0.1.1 rfl rfl ?_
  rw [show wF _ = qFd s from K.2.2.2.2.2.1]
  exact zr_int hZ dX11_status_4 rfl rfl ⟨_, rfl, _, rfl, ⟨m, N0.1, K⟩, N0.2⟩

set_option maxHeartbeats 1000000 in
set_option maxRecDepth 100000 in
theorem s_X11_norm (B : zBB) (h : zHp) (D : Nat → Nat) (hD : zInj D) (s : zSt) (hs0 : okSt s) (hR : rRm B D s h) (i : Int32) : zSpec mX11_norm B (2, 0, 0) [.ref (D 0), .int i] h (zPi (fun zx h' => ∃ s' : zSt, r_norm s i = (zx, s') ∧ rRm B D s' h' ∧ rOd D h h')) := by
  refine zSpec.of (by decide) (Nat.le_of_ble_eq_true rfl) (fun X hZ => ?_)
  show zG X mX11_norm B (2, 0, 0) (0, 0) 0 [(0, .ref (D 0)), (1, .int i)] [] h
  obtain ⟨m, M, K⟩ := hR
  have N0 := rN_r M
  refine zi_iload_n 1 dX11_norm_0 rfl rfl ?_
  refine zc_static (n' := (0, 0)) (md' := mX11_isSlot) 4 dX11_norm_1 tw_937 zs_X11_isSlot (s_X11_isSlot B h _) rfl rfl rfl rfl rfl rfl rfl rfl (zk_f ?_)
  refine zb_ne 7 10 dX11_norm_4 (by decide) rfl (fun zzA => ?_) (fun zzA => ?_)
  ·
    have zzA := in_20.mp zzA
    have zzO : ¬ (zOut i 20) := zzA
    obtain ⟨pj, hpj, hpj31, rfl⟩ := out_i (N := 20) (by decide) zzA
    refine zi_aload_n 11 dX11_norm_10 rfl rfl ?_
    refine zi_getfield 14 0 dX11_norm_11 zcl_X11 tw_863 rfl rfl N0.1.1 rfl rfl ?_
    refine zi_iload_n 15 dX11_norm_14 rfl rfl ?_
    rcases hsP : qSl s pj with _ | P
    ·
      refine zi_baload 16 dX11_norm_15 N0.1.2.1 (vp_in_nI (show pj < 20 by omega) (by decide)) rfl ?_
      rw [nI_clamp (Nat.lt_trans (show pj < 20 by omega) (by decide))]
      rw [show wH _ pj = kn (qSl s pj) from K.1 pj hpj, hsP, show kn none = 0 from rfl]
      refine zi_if_ne 19 25 dX11_norm_16 (by decide) rfl (fun c_16 => absurd c_16 (by decide)) (fun c_16 => ?_)
      refine zi_aload_n 20 dX11_norm_19 rfl rfl ?_
      refine zi_iconst (v := 1) 21 dX11_norm_20 (by decide) rfl ?_
      refine zc_virtual (n' := (0, 0)) (md' := mX11_finds) 24 dX11_norm_21 tw_911 zv_X11_finds zcl_X11 (s_X11_finds B h D hD _ N0.1 _) N0.1.1 rfl rfl rfl rfl rfl rfl rfl rfl (zk_i fun x1 h1 p1 => ?_)
      obtain ⟨rfl, n1⟩ := p1
      have N1 := rN_t N0 n1
      exact zr_int hZ dX11_norm_24 rfl rfl ⟨_, rfl, _, by rw [r_norm, if_neg zzO, nI_clamp hpj31, hsP, onS_n], ⟨_, N1.1, mQ_F _ K⟩, N1.2⟩
    ·
      have hVP := hs0.1 pj P hsP
      have eP := K.2.1 pj hpj P hsP
      refine zi_baload 16 dX11_norm_15 N0.1.2.1 (vp_in_nI (show pj < 20 by omega) (by decide)) rfl ?_
      rw [nI_clamp (Nat.lt_trans (show pj < 20 by omega) (by decide))]
      rw [show wH _ pj = kn (qSl s pj) from K.1 pj hpj, hsP, show kn (some P) = 1 from rfl]
      refine zi_if_ne 19 25 dX11_norm_16 (by decide) rfl (fun c_16 => ?_) (fun c_16 => absurd c_16 (by decide))
      refine zi_aload_n 26 dX11_norm_25 rfl rfl ?_
      refine zi_iconst (v := 0) 27 dX11_norm_26 (by decide) rfl ?_
      refine zi_iload_n 28 dX11_norm_27 rfl rfl ?_
      refine zc_virtual (n' := (0, 0)) (md' := mX11_load) 31 dX11_norm_28 tw_989 zv_X11_load zcl_X11 (s_X11_load B h D hD _ N0.1 0 pj (by omega) (by omega)) N0.1.1 rfl rfl rfl rfl rfl rfl rfl rfl (zk_v fun h2 n2 => ?_)
      have N2 := rN_t N0 n2
      obtain ⟨R3, N3, r0⟩ : ∃ R, rN B D (uR m R) h h2 ∧ ro R 0 = z4i P := ⟨_, N2, eP⟩
      refine zi_aload_n 32 dX11_norm_31 rfl rfl ?_
      refine zi_aload_n 33 dX11_norm_32 rfl rfl ?_
      refine zi_iconst (v := 0) 34 dX11_norm_33 (by decide) rfl ?_
      refine zc_virtual (n' := (0, 0)) (md' := mX11_norm4) 37 dX11_norm_34 tw_948 zv_X11_norm4 zcl_X11 (s_X11_norm4 B h2 D hD _ N3.1 0 (by omega)) N3.1.1 rfl rfl rfl rfl rfl rfl rfl rfl (zk_f ?_)
      rw [show zNm (ro (wR (uR m R3)) 0) = lN (nN P) from (congrArg zNm r0).trans (nN_z hVP)]
      refine zi_l2i 38 dX11_norm_37 rfl ?_
      rw [lN_i]
      refine zc_virtual (n' := (0, 0)) (md' := mX11_well) 41 dX11_norm_38 tw_916 zv_X11_well zcl_X11 (s_X11_well B h2 D hD _ N3.1 _) N3.1.1 rfl rfl rfl rfl rfl rfl rfl rfl (zk_i fun x4 h4 p4 => ?_)
      obtain ⟨rfl, n4⟩ := p4
      have N4 := rN_t N3 n4
      exact zr_int hZ dX11_norm_41 rfl rfl ⟨_, rfl, _, by rw [r_norm, if_neg zzO, nI_clamp hpj31, hsP, onS_s], ⟨_, N4.1, mQ_F _ K⟩, N4.2⟩
  ·
    have zzA := Decidable.not_not.mp (fun q => zzA (in_20.mpr q))
    refine zi_ldc 9 dX11_norm_7 tw_910 rfl ?_
    exact zr_int hZ dX11_norm_9 rfl rfl ⟨_, rfl, _, by rw [r_norm, if_pos (by first | exact zzA)], ⟨m, N0.1, K⟩, N0.2⟩

set_option maxHeartbeats 1000000 in
set_option maxRecDepth 100000 in
theorem s_X11_kind (B : zBB) (h : zHp) (D : Nat → Nat) (hD : zInj D) (s : zSt) (hs0 : okSt s) (hR : rRm B D s h) (i : Int32) : zSpec mX11_kind B (3, 0, 0) [.ref (D 0), .int i] h (zPi (fun zx h' => ∃ s' : zSt, r_kind s i = (zx, s') ∧ rRm B D s' h' ∧ rOd D h h')) := by
  refine zSpec.of (by decide) (Nat.le_of_ble_eq_true rfl) (fun X hZ => ?_)
  show zG X mX11_kind B (3, 0, 0) (0, 0) 0 [(0, .ref (D 0)), (1, .int i)] [] h
  obtain ⟨m, M, K⟩ := hR
  have N0 := rN_r M
  refine zi_iload_n 1 dX11_kind_0 rfl rfl ?_
  refine zc_static (n' := (0, 0)) (md' := mX11_isSlot) 4 dX11_kind_1 tw_937 zs_X11_isSlot (s_X11_isSlot B h _) rfl rfl rfl rfl rfl rfl rfl rfl (zk_f ?_)
  refine zb_ne 7 10 dX11_kind_4 (by decide) rfl (fun zzA => ?_) (fun zzA => ?_)
  ·
    have zzA := in_20.mp zzA
    have zzO : ¬ (zOut i 20) := zzA
    obtain ⟨pj, hpj, hpj31, rfl⟩ := out_i (N := 20) (by decide) zzA
    refine zi_aload_n 11 dX11_kind_10 rfl rfl ?_
    refine zi_getfield 14 0 dX11_kind_11 zcl_X11 tw_863 rfl rfl N0.1.1 rfl rfl ?_
    refine zi_iload_n 15 dX11_kind_14 rfl rfl ?_
    rcases hsP : qSl s pj with _ | P
    ·
      refine zi_baload 16 dX11_kind_15 N0.1.2.1 (vp_in_nI (show pj < 20 by omega) (by decide)) rfl ?_
      rw [nI_clamp (Nat.lt_trans (show pj < 20 by omega) (by decide))]
      rw [show wH _ pj = kn (qSl s pj) from K.1 pj hpj, hsP, show kn none = 0 from rfl]
      refine zi_if_ne 19 25 dX11_kind_16 (by decide) rfl (fun c_16 => absurd c_16 (by decide)) (fun c_16 => ?_)
      refine zi_aload_n 20 dX11_kind_19 rfl rfl ?_
      refine zi_iconst (v := 1) 21 dX11_kind_20 (by decide) rfl ?_
      refine zc_virtual (n' := (0, 0)) (md' := mX11_finds) 24 dX11_kind_21 tw_911 zv_X11_finds zcl_X11 (s_X11_finds B h D hD _ N0.1 _) N0.1.1 rfl rfl rfl rfl rfl rfl rfl rfl (zk_i fun x1 h1 p1 => ?_)
      obtain ⟨rfl, n1⟩ := p1
      have N1 := rN_t N0 n1
      exact zr_int hZ dX11_kind_24 rfl rfl ⟨_, rfl, _, by rw [r_kind, if_neg zzO, nI_clamp hpj31, hsP, onS_n], ⟨_, N1.1, mQ_F _ K⟩, N1.2⟩
    ·
      have hVP := hs0.1 pj P hsP
      have eP := K.2.1 pj hpj P hsP
      refine zi_baload 16 dX11_kind_15 N0.1.2.1 (vp_in_nI (show pj < 20 by omega) (by decide)) rfl ?_
      rw [nI_clamp (Nat.lt_trans (show pj < 20 by omega) (by decide))]
      rw [show wH _ pj = kn (qSl s pj) from K.1 pj hpj, hsP, show kn (some P) = 1 from rfl]
      refine zi_if_ne 19 25 dX11_kind_16 (by decide) rfl (fun c_16 => ?_) (fun c_16 => absurd c_16 (by decide))
      refine zi_aload_n 26 dX11_kind_25 rfl rfl ?_
      refine zi_iconst (v := 0) 27 dX11_kind_26 (by decide) rfl ?_
      refine zi_iload_n 28 dX11_kind_27 rfl rfl ?_
      refine zc_virtual (n' := (0, 0)) (md' := mX11_load) 31 dX11_kind_28 tw_989 zv_X11_load zcl_X11 (s_X11_load B h D hD _ N0.1 0 pj (by omega) (by omega)) N0.1.1 rfl rfl rfl rfl rfl rfl rfl rfl (zk_v fun h2 n2 => ?_)
      have N2 := rN_t N0 n2
      obtain ⟨R3, N3, r0⟩ : ∃ R, rN B D (uR m R) h h2 ∧ ro R 0 = z4i P := ⟨_, N2, eP⟩
      refine zi_aload_n 32 dX11_kind_31 rfl rfl ?_
      refine zi_aload_n 33 dX11_kind_32 rfl rfl ?_
      refine zi_iconst (v := 0) 34 dX11_kind_33 (by decide) rfl ?_
      refine zc_virtual (n' := (0, 0)) (md' := mX11_kindOf) 37 dX11_kind_34 tw_958 zv_X11_kindOf zcl_X11 (s_X11_kindOf B h2 D hD _ N3.1 0 (by omega) P hVP r0) N3.1.1 rfl rfl rfl rfl rfl rfl rfl rfl (zk_f ?_)
      refine zc_virtual (n' := (0, 0)) (md' := mX11_well) 40 dX11_kind_37 tw_916 zv_X11_well zcl_X11 (s_X11_well B h2 D hD _ N3.1 _) N3.1.1 rfl rfl rfl rfl rfl rfl rfl rfl (zk_i fun x4 h4 p4 => ?_)
      obtain ⟨rfl, n4⟩ := p4
      have N4 := rN_t N3 n4
      exact zr_int hZ dX11_kind_40 rfl rfl ⟨_, rfl, _, by rw [r_kind, if_neg zzO, nI_clamp hpj31, hsP, onS_s], ⟨_, N4.1, mQ_F _ K⟩, N4.2⟩
  ·
    have zzA := Decidable.not_not.mp (fun q => zzA (in_20.mpr q))
    refine zi_ldc 9 dX11_kind_7 tw_910 rfl ?_
    exact zr_int hZ dX11_kind_9 rfl rfl ⟨_, rfl, _, by rw [r_kind, if_pos (by first | exact zzA)], ⟨m, N0.1, K⟩, N0.2⟩

set_option maxHeartbeats 1000000 in
set_option maxRecDepth 100000 in
theorem s_X11_clear (B : zBB) (h : zHp) (D : Nat → Nat) (hD : zInj D) (s : zSt) (hs0 : okSt s) (hR : rRm B D s h) (i : Int32) : zSpec mX11_clear B (2, 0, 0) [.ref (D 0), .int i] h (zPi (fun zx h' => ∃ s' : zSt, r_clear s i = (zx, s') ∧ rRm B D s' h' ∧ rOd D h h')) := by
  refine zSpec.of (by decide) (Nat.le_of_ble_eq_true rfl) (fun X hZ => ?_)
  show zG X mX11_clear B (2, 0, 0) (0, 0) 0 [(0, .ref (D 0)), (1, .int i)] [] h
  obtain ⟨m, M, K⟩ := hR
  have N0 := rN_r M
  refine zi_iload_n 1 dX11_clear_0 rfl rfl ?_
  refine zc_static (n' := (0, 0)) (md' := mX11_isSlot) 4 dX11_clear_1 tw_937 zs_X11_isSlot (s_X11_isSlot B h _) rfl rfl rfl rfl rfl rfl rfl rfl (zk_f ?_)
  refine zb_ne 7 10 dX11_clear_4 (by decide) rfl (fun zzA => ?_) (fun zzA => ?_)
  ·
    have zzA := in_20.mp zzA
    have zzO : ¬ (zOut i 20) := zzA
    obtain ⟨pj, hpj, hpj31, rfl⟩ := out_i (N := 20) (by decide) zzA
    refine zi_aload_n 11 dX11_clear_10 rfl rfl ?_
    refine zi_getfield 14 0 dX11_clear_11 zcl_X11 tw_863 rfl rfl N0.1.1 rfl rfl ?_
    refine zi_iload_n 15 dX11_clear_14 rfl rfl ?_
    rcases hsP : qSl s pj with _ | P
    ·
      refine zi_baload 16 dX11_clear_15 N0.1.2.1 (vp_in_nI (show pj < 20 by omega) (by decide)) rfl ?_
      rw [nI_clamp (Nat.lt_trans (show pj < 20 by omega) (by decide))]
      rw [show wH _ pj = kn (qSl s pj) from K.1 pj hpj, hsP, show kn none = 0 from rfl]
      refine zi_if_eq 19 23 dX11_clear_16 (by decide) rfl (fun c_16 => ?_) (fun c_16 => absurd c_16 (by decide))
      refine zi_iconst (v := 0) 24 dX11_clear_23 (by decide) rfl ?_
      refine zi_istore_n (lv' := [(2, _), (0, _), (1, _)]) 25 dX11_clear_24 rfl rfl rfl ?_
      refine zi_aload_n 26 dX11_clear_25 rfl rfl ?_
      refine zi_getfield 29 0 dX11_clear_26 zcl_X11 tw_863 rfl rfl N0.1.1 rfl rfl ?_
      refine zi_iload_n 30 dX11_clear_29 rfl rfl ?_
      refine zi_iconst (v := 0) 31 dX11_clear_30 (by decide) rfl ?_
      refine zi_bastore 32 dX11_clear_31 N0.1.2.1 (vp_in_nI (show pj < 20 by omega) (by decide)) rfl ?_
      rw [nI_clamp (Nat.lt_trans (show pj < 20 by omega) (by decide))]
      refine zk_h (fun h1 k1 => ?_)
      have N1 := rN_H hD N0 k1
      refine zi_iload_n 33 dX11_clear_32 rfl rfl ?_
      exact zr_int hZ dX11_clear_33 rfl rfl ⟨_, rfl, _, by rw [r_clear, if_neg zzO, nI_clamp hpj31, hsP]; first | rw [onS_n] | rw [onS_s], ⟨_, N1.1, mQ_cl K⟩, N1.2⟩
    ·
      have hVP := hs0.1 pj P hsP
      have eP := K.2.1 pj hpj P hsP
      refine zi_baload 16 dX11_clear_15 N0.1.2.1 (vp_in_nI (show pj < 20 by omega) (by decide)) rfl ?_
      rw [nI_clamp (Nat.lt_trans (show pj < 20 by omega) (by decide))]
      rw [show wH _ pj = kn (qSl s pj) from K.1 pj hpj, hsP, show kn (some P) = 1 from rfl]
      refine zi_if_eq 19 23 dX11_clear_16 (by decide) rfl (fun c_16 => absurd c_16 (by decide)) (fun c_16 => ?_)
      refine zi_iconst (v := 1) 20 dX11_clear_19 (by decide) rfl ?_
      refine zi_goto 24 dX11_clear_20 (by decide) ?_
      refine zi_istore_n (lv' := [(2, _), (0, _), (1, _)]) 25 dX11_clear_24 rfl rfl rfl ?_
      refine zi_aload_n 26 dX11_clear_25 rfl rfl ?_
      refine zi_getfield 29 0 dX11_clear_26 zcl_X11 tw_863 rfl rfl N0.1.1 rfl rfl ?_
      refine zi_iload_n 30 dX11_clear_29 rfl rfl ?_
      refine zi_iconst (v := 0) 31 dX11_clear_30 (by decide) rfl ?_
      refine zi_bastore 32 dX11_clear_31 N0.1.2.1 (vp_in_nI (show pj < 20 by omega) (by decide)) rfl ?_
      rw [nI_clamp (Nat.lt_trans (show pj < 20 by omega) (by decide))]
      refine zk_h (fun h2 k2 => ?_)
      have N2 := rN_H hD N0 k2
      refine zi_iload_n 33 dX11_clear_32 rfl rfl ?_
      exact zr_int hZ dX11_clear_33 rfl rfl ⟨_, rfl, _, by rw [r_clear, if_neg zzO, nI_clamp hpj31, hsP]; first | rw [onS_n] | rw [onS_s], ⟨_, N2.1, mQ_cl K⟩, N2.2⟩
  ·
    have zzA := Decidable.not_not.mp (fun q => zzA (in_20.mpr q))
    refine zi_ldc 9 dX11_clear_7 tw_910 rfl ?_
    exact zr_int hZ dX11_clear_9 rfl rfl ⟨_, rfl, _, by rw [r_clear, if_pos (by first | exact zzA)], ⟨m, N0.1, K⟩, N0.2⟩

set_option maxHeartbeats 1000000 in
set_option maxRecDepth 100000 in
theorem s_X11_is (B : zBB) (h : zHp) (D : Nat → Nat) (hD : zInj D) (s : zSt) (hs0 : okSt s) (hR : rRm B D s h) (i : Int32) (k : Int32) : zSpec mX11_is B (3, 0, 0) [.ref (D 0), .int i, .int k] h (zPi (fun zx h' => ∃ s' : zSt, r_is s i k = (zx, s') ∧ rRm B D s' h' ∧ rOd D h h')) := by
  refine zSpec.of (by decide) (Nat.le_of_ble_eq_true rfl) (fun X hZ => ?_)
  show zG X mX11_is B (3, 0, 0) (0, 0) 0 [(0, .ref (D 0)), (1, .int i), (2, .int k)] [] h
  obtain ⟨m, M, K⟩ := hR
  have N0 := rN_r M
  refine zi_iload_n 1 dX11_is_0 rfl rfl ?_
  refine zc_static (n' := (0, 0)) (md' := mX11_isSlot) 4 dX11_is_1 tw_937 zs_X11_isSlot (s_X11_isSlot B h _) rfl rfl rfl rfl rfl rfl rfl rfl (zk_f ?_)
  refine zb_eq 7 19 dX11_is_4 (by decide) rfl (fun zzA => ?_) (fun zzA => ?_)
  ·
    have zzA := Decidable.not_not.mp (fun q => zzA (in_20.mpr q))
    refine zi_ldc 21 dX11_is_19 tw_910 rfl ?_
    exact zr_int hZ dX11_is_21 rfl rfl ⟨_, rfl, _, by rw [r_is, if_pos (by first | exact Or.inl zzA | exact Or.inr (zzB))], ⟨m, N0.1, K⟩, N0.2⟩
  ·
    have zzA := in_20.mp zzA
    refine zi_iload_n 8 dX11_is_7 rfl rfl ?_
    refine zi_i2l 9 dX11_is_8 rfl ?_
    refine zi_lconst (v := 0) 10 dX11_is_9 (by decide) rfl ?_
    refine zi_ldc2 13 dX11_is_10 tw_952 rfl ?_
    refine zc_static (n' := (0, 0)) (md' := mX11_in) 16 dX11_is_13 tw_906 zs_X11_in (s_X11_in B h _ _ _) rfl rfl rfl rfl rfl rfl rfl rfl (zk_f ?_)
    refine zb_ne 19 22 dX11_is_16 (by decide) rfl (fun zzB => ?_) (fun zzB => ?_)
    ·
      have zzB := in_5.mp zzB
      have zzO : ¬ (zOut i 20 ∨ zOut k 5) := fun r => r.elim zzA zzB
      obtain ⟨pj, hpj, hpj31, rfl⟩ := out_i (N := 20) (by decide) zzA
      refine zi_aload_n 23 dX11_is_22 rfl rfl ?_
      refine zi_getfield 26 0 dX11_is_23 zcl_X11 tw_863 rfl rfl N0.1.1 rfl rfl ?_
      refine zi_iload_n 27 dX11_is_26 rfl rfl ?_
      rcases hsP : qSl s pj with _ | P
      ·
        refine zi_baload 28 dX11_is_27 N0.1.2.1 (vp_in_nI (show pj < 20 by omega) (by decide)) rfl ?_
        rw [nI_clamp (Nat.lt_trans (show pj < 20 by omega) (by decide))]
        rw [show wH _ pj = kn (qSl s pj) from K.1 pj hpj, hsP, show kn none = 0 from rfl]
        refine zi_if_ne 31 37 dX11_is_28 (by decide) rfl (fun c_28 => absurd c_28 (by decide)) (fun c_28 => ?_)
        refine zi_aload_n 32 dX11_is_31 rfl rfl ?_
        refine zi_iconst (v := 1) 33 dX11_is_32 (by decide) rfl ?_
        refine zc_virtual (n' := (0, 0)) (md' := mX11_finds) 36 dX11_is_33 tw_911 zv_X11_finds zcl_X11 (s_X11_finds B h D hD _ N0.1 _) N0.1.1 rfl rfl rfl rfl rfl rfl rfl rfl (zk_i fun x1 h1 p1 => ?_)
        obtain ⟨rfl, n1⟩ := p1
        have N1 := rN_t N0 n1
        exact zr_int hZ dX11_is_36 rfl rfl ⟨_, rfl, _, by rw [r_is, if_neg zzO, nI_clamp hpj31, hsP, onS_n], ⟨_, N1.1, mQ_F _ K⟩, N1.2⟩
      ·
        have hVP := hs0.1 pj P hsP
        have eP := K.2.1 pj hpj P hsP
        refine zi_baload 28 dX11_is_27 N0.1.2.1 (vp_in_nI (show pj < 20 by omega) (by decide)) rfl ?_
        rw [nI_clamp (Nat.lt_trans (show pj < 20 by omega) (by decide))]
        rw [show wH _ pj = kn (qSl s pj) from K.1 pj hpj, hsP, show kn (some P) = 1 from rfl]
        refine zi_if_ne 31 37 dX11_is_28 (by decide) rfl (fun c_28 => ?_) (fun c_28 => absurd c_28 (by decide))
        refine zi_aload_n 38 dX11_is_37 rfl rfl ?_
        refine zi_iconst (v := 0) 39 dX11_is_38 (by decide) rfl ?_
        refine zi_iload_n 40 dX11_is_39 rfl rfl ?_
        refine zc_virtual (n' := (0, 0)) (md' := mX11_load) 43 dX11_is_40 tw_989 zv_X11_load zcl_X11 (s_X11_load B h D hD _ N0.1 0 pj (by omega) (by omega)) N0.1.1 rfl rfl rfl rfl rfl rfl rfl rfl (zk_v fun h2 n2 => ?_)
        have N2 := rN_t N0 n2
        obtain ⟨R3, N3, r0⟩ : ∃ R, rN B D (uR m R) h h2 ∧ ro R 0 = z4i P := ⟨_, N2, eP⟩
        refine zi_aload_n 44 dX11_is_43 rfl rfl ?_
        refine zi_aload_n 45 dX11_is_44 rfl rfl ?_
        refine zi_iconst (v := 0) 46 dX11_is_45 (by decide) rfl ?_
        refine zc_virtual (n' := (0, 0)) (md' := mX11_kindOf) 49 dX11_is_46 tw_958 zv_X11_kindOf zcl_X11 (s_X11_kindOf B h2 D hD _ N3.1 0 (by omega) P hVP r0) N3.1.1 rfl rfl rfl rfl rfl rfl rfl rfl (zk_f ?_)
        refine zi_iload_n 50 dX11_is_49 rfl rfl ?_
        refine zc_static (n' := (0, 0)) (md' := mX11_isOf) 53 dX11_is_50 tw_1001 zs_X11_isOf (s_X11_isOf B h2 _ _) rfl rfl rfl rfl rfl rfl rfl rfl (zk_f ?_)
        refine zb_eq 56 60 dX11_is_53 (by decide) rfl (fun zzT => ?_) (fun zzT => ?_)
        ·
          rw [too_k] at zzT
          refine zi_iconst (v := 0) 61 dX11_is_60 (by decide) rfl ?_
          refine zc_virtual (n' := (0, 0)) (md' := mX11_well) 64 dX11_is_61 tw_916 zv_X11_well zcl_X11 (s_X11_well B h2 D hD _ N3.1 _) N3.1.1 rfl rfl rfl rfl rfl rfl rfl rfl (zk_i fun x4 h4 p4 => ?_)
          obtain ⟨rfl, n4⟩ := p4
          have N4 := rN_t N3 n4
          exact zr_int hZ dX11_is_64 rfl rfl ⟨_, rfl, _, by rw [r_is, if_neg zzO, nI_clamp hpj31, hsP, onS_s]; first | rw [if_pos zzT] | rw [if_neg zzT], ⟨_, N4.1, mQ_F _ K⟩, N4.2⟩
        ·
          rw [too_k] at zzT
          refine zi_iconst (v := 1) 57 dX11_is_56 (by decide) rfl ?_
          refine zi_goto 61 dX11_is_57 (by decide) ?_
          refine zc_virtual (n' := (0, 0)) (md' := mX11_well) 64 dX11_is_61 tw_916 zv_X11_well zcl_X11 (s_X11_well B h2 D hD _ N3.1 _) N3.1.1 rfl rfl rfl rfl rfl rfl rfl rfl (zk_i fun x5 h5 p5 => ?_)
          obtain ⟨rfl, n5⟩ := p5
          have N5 := rN_t N3 n5
          exact zr_int hZ dX11_is_64 rfl rfl ⟨_, rfl, _, by rw [r_is, if_neg zzO, nI_clamp hpj31, hsP, onS_s]; first | rw [if_pos zzT] | rw [if_neg zzT], ⟨_, N5.1, mQ_F _ K⟩, N5.2⟩
    ·
      have zzB := Decidable.not_not.mp (fun q => zzB (in_5.mpr q))
      refine zi_ldc 21 dX11_is_19 tw_910 rfl ?_
      exact zr_int hZ dX11_is_21 rfl rfl ⟨_, rfl, _, by rw [r_is, if_pos (by first | exact Or.inl zzA | exact Or.inr (zzB))], ⟨m, N0.1, K⟩, N0.2⟩

set_option maxHeartbeats 1000000 in
set_option maxRecDepth 100000 in
theorem s_X11_as (B : zBB) (h : zHp) (D : Nat → Nat) (hD : zInj D) (s : zSt) (hs0 : okSt s) (hR : rRm B D s h) (i : Int32) (k : Int32) : zSpec mX11_as B (3, 0, 0) [.ref (D 0), .int i, .int k] h (zPi (fun zx h' => ∃ s' : zSt, r_as s i k = (zx, s') ∧ rRm B D s' h' ∧ rOd D h h')) := by
  refine zSpec.of (by decide) (Nat.le_of_ble_eq_true rfl) (fun X hZ => ?_)
  show zG X mX11_as B (3, 0, 0) (0, 0) 0 [(0, .ref (D 0)), (1, .int i), (2, .int k)] [] h
  obtain ⟨m, M, K⟩ := hR
  have N0 := rN_r M
  refine zi_iload_n 1 dX11_as_0 rfl rfl ?_
  refine zc_static (n' := (0, 0)) (md' := mX11_isSlot) 4 dX11_as_1 tw_937 zs_X11_isSlot (s_X11_isSlot B h _) rfl rfl rfl rfl rfl rfl rfl rfl (zk_f ?_)
  refine zb_eq 7 19 dX11_as_4 (by decide) rfl (fun zzA => ?_) (fun zzA => ?_)
  ·
    have zzA := Decidable.not_not.mp (fun q => zzA (in_20.mpr q))
    refine zi_ldc 21 dX11_as_19 tw_910 rfl ?_
    exact zr_int hZ dX11_as_21 rfl rfl ⟨_, rfl, _, by rw [r_as, if_pos (by first | exact Or.inl zzA | exact Or.inr (zzB))], ⟨m, N0.1, K⟩, N0.2⟩
  ·
    have zzA := in_20.mp zzA
    refine zi_iload_n 8 dX11_as_7 rfl rfl ?_
    refine zi_i2l 9 dX11_as_8 rfl ?_
    refine zi_lconst (v := 0) 10 dX11_as_9 (by decide) rfl ?_
    refine zi_ldc2 13 dX11_as_10 tw_952 rfl ?_
    refine zc_static (n' := (0, 0)) (md' := mX11_in) 16 dX11_as_13 tw_906 zs_X11_in (s_X11_in B h _ _ _) rfl rfl rfl rfl rfl rfl rfl rfl (zk_f ?_)
    refine zb_ne 19 22 dX11_as_16 (by decide) rfl (fun zzB => ?_) (fun zzB => ?_)
    ·
      have zzB := in_5.mp zzB
      have zzO : ¬ (zOut i 20 ∨ zOut k 5) := fun r => r.elim zzA zzB
      obtain ⟨pj, hpj, hpj31, rfl⟩ := out_i (N := 20) (by decide) zzA
      refine zi_aload_n 23 dX11_as_22 rfl rfl ?_
      refine zi_getfield 26 0 dX11_as_23 zcl_X11 tw_863 rfl rfl N0.1.1 rfl rfl ?_
      refine zi_iload_n 27 dX11_as_26 rfl rfl ?_
      rcases hsP : qSl s pj with _ | P
      ·
        refine zi_baload 28 dX11_as_27 N0.1.2.1 (vp_in_nI (show pj < 20 by omega) (by decide)) rfl ?_
        rw [nI_clamp (Nat.lt_trans (show pj < 20 by omega) (by decide))]
        rw [show wH _ pj = kn (qSl s pj) from K.1 pj hpj, hsP, show kn none = 0 from rfl]
        refine zi_if_ne 31 37 dX11_as_28 (by decide) rfl (fun c_28 => absurd c_28 (by decide)) (fun c_28 => ?_)
        refine zi_aload_n 32 dX11_as_31 rfl rfl ?_
        refine zi_iconst (v := 1) 33 dX11_as_32 (by decide) rfl ?_
        refine zc_virtual (n' := (0, 0)) (md' := mX11_finds) 36 dX11_as_33 tw_911 zv_X11_finds zcl_X11 (s_X11_finds B h D hD _ N0.1 _) N0.1.1 rfl rfl rfl rfl rfl rfl rfl rfl (zk_i fun x1 h1 p1 => ?_)
        obtain ⟨rfl, n1⟩ := p1
        have N1 := rN_t N0 n1
        exact zr_int hZ dX11_as_36 rfl rfl ⟨_, rfl, _, by rw [r_as, if_neg zzO, nI_clamp hpj31, hsP, onS_n], ⟨_, N1.1, mQ_F _ K⟩, N1.2⟩
      ·
        have hVP := hs0.1 pj P hsP
        have eP := K.2.1 pj hpj P hsP
        refine zi_baload 28 dX11_as_27 N0.1.2.1 (vp_in_nI (show pj < 20 by omega) (by decide)) rfl ?_
        rw [nI_clamp (Nat.lt_trans (show pj < 20 by omega) (by decide))]
        rw [show wH _ pj = kn (qSl s pj) from K.1 pj hpj, hsP, show kn (some P) = 1 from rfl]
        refine zi_if_ne 31 37 dX11_as_28 (by decide) rfl (fun c_28 => ?_) (fun c_28 => absurd c_28 (by decide))
        refine zi_aload_n 38 dX11_as_37 rfl rfl ?_
        refine zi_iconst (v := 0) 39 dX11_as_38 (by decide) rfl ?_
        refine zi_iload_n 40 dX11_as_39 rfl rfl ?_
        refine zc_virtual (n' := (0, 0)) (md' := mX11_load) 43 dX11_as_40 tw_989 zv_X11_load zcl_X11 (s_X11_load B h D hD _ N0.1 0 pj (by omega) (by omega)) N0.1.1 rfl rfl rfl rfl rfl rfl rfl rfl (zk_v fun h2 n2 => ?_)
        have N2 := rN_t N0 n2
        obtain ⟨R3, N3, r0⟩ : ∃ R, rN B D (uR m R) h h2 ∧ ro R 0 = z4i P := ⟨_, N2, eP⟩
        refine zi_aload_n 44 dX11_as_43 rfl rfl ?_
        refine zi_iconst (v := 0) 45 dX11_as_44 (by decide) rfl ?_
        refine zc_virtual (n' := (0, 0)) (md' := mX11_kindOf) 48 dX11_as_45 tw_958 zv_X11_kindOf zcl_X11 (s_X11_kindOf B h2 D hD _ N3.1 0 (by omega) P hVP r0) N3.1.1 rfl rfl rfl rfl rfl rfl rfl rfl (zk_f ?_)
        refine zi_iload_n 49 dX11_as_48 rfl rfl ?_
        refine zc_static (n' := (0, 0)) (md' := mX11_isOf) 52 dX11_as_49 tw_1001 zs_X11_isOf (s_X11_isOf B h2 _ _) rfl rfl rfl rfl rfl rfl rfl rfl (zk_f ?_)
        refine zb_eq 55 68 dX11_as_52 (by decide) rfl (fun zzT => ?_) (fun zzT => ?_)
        ·
          rw [too_k] at zzT
          refine zi_aload_n 69 dX11_as_68 rfl rfl ?_
          refine zi_iconst (v := 3) 70 dX11_as_69 (by decide) rfl ?_
          refine zc_virtual (n' := (0, 0)) (md' := mX11_finds) 73 dX11_as_70 tw_911 zv_X11_finds zcl_X11 (s_X11_finds B h2 D hD _ N3.1 _) N3.1.1 rfl rfl rfl rfl rfl rfl rfl rfl (zk_i fun x4 h4 p4 => ?_)
          obtain ⟨rfl, n4⟩ := p4
          have N4 := rN_t N3 n4
          exact zr_int hZ dX11_as_73 rfl rfl ⟨_, rfl, _, by rw [r_as, if_neg zzO, nI_clamp hpj31, hsP, onS_s]; first | rw [if_pos zzT] | rw [if_neg zzT], ⟨_, N4.1, mQ_F _ K⟩, N4.2⟩
        ·
          rw [too_k] at zzT
          refine zi_aload_n 56 dX11_as_55 rfl rfl ?_
          refine zi_aload_n 57 dX11_as_56 rfl rfl ?_
          refine zi_iconst (v := 0) 58 dX11_as_57 (by decide) rfl ?_
          refine zc_virtual (n' := (0, 0)) (md' := mX11_norm4) 61 dX11_as_58 tw_948 zv_X11_norm4 zcl_X11 (s_X11_norm4 B h2 D hD _ N3.1 0 (by omega)) N3.1.1 rfl rfl rfl rfl rfl rfl rfl rfl (zk_f ?_)
          rw [show zNm (ro (wR (uR m R3)) 0) = lN (nN P) from (congrArg zNm r0).trans (nN_z hVP)]
          refine zi_l2i 62 dX11_as_61 rfl ?_
          rw [lN_i]
          refine zc_virtual (n' := (0, 0)) (md' := mX11_well) 65 dX11_as_62 tw_916 zv_X11_well zcl_X11 (s_X11_well B h2 D hD _ N3.1 _) N3.1.1 rfl rfl rfl rfl rfl rfl rfl rfl (zk_i fun x5 h5 p5 => ?_)
          obtain ⟨rfl, n5⟩ := p5
          have N5 := rN_t N3 n5
          refine zi_goto 73 dX11_as_65 (by decide) ?_
          exact zr_int hZ dX11_as_73 rfl rfl ⟨_, rfl, _, by rw [r_as, if_neg zzO, nI_clamp hpj31, hsP, onS_s]; first | rw [if_pos zzT] | rw [if_neg zzT], ⟨_, N5.1, mQ_F _ K⟩, N5.2⟩
    ·
      have zzB := Decidable.not_not.mp (fun q => zzB (in_5.mpr q))
      refine zi_ldc 21 dX11_as_19 tw_910 rfl ?_
      exact zr_int hZ dX11_as_21 rfl rfl ⟨_, rfl, _, by rw [r_as, if_pos (by first | exact Or.inl zzA | exact Or.inr (zzB))], ⟨m, N0.1, K⟩, N0.2⟩

theorem sl_at {f : Nat → Int64} {a : Nat} {v : z4} (h : ro f a = v) {k : Nat} (hk : k < 4) : f (a + k) = zAt v (nI k) := by
  subst h
  match k, hk with
  | 0, _ => rfl
  | 1, _ => rfl
  | 2, _ => rfl
  | 3, _ => rfl

set_option maxHeartbeats 1000000 in
set_option maxRecDepth 100000 in
theorem s_X11_number (B : zBB) (h : zHp) (D : Nat → Nat) (hD : zInj D) (s : zSt) (hs0 : okSt s) (hR : rRm B D s h) (i : Int32) (k : Int32) : zSpec mX11_number B (2, 0, 0) [.ref (D 0), .int i, .int k] h (zPl (fun zx h' => ∃ s' : zSt, r_number s i k = (zx, s') ∧ rRm B D s' h' ∧ rOd D h h')) := by
  refine zSpec.of (by decide) (Nat.le_of_ble_eq_true rfl) (fun X hZ => ?_)
  show zG X mX11_number B (2, 0, 0) (0, 0) 0 [(0, .ref (D 0)), (1, .int i), (2, .int k)] [] h
  obtain ⟨m, M, K⟩ := hR
  have N0 := rN_r M
  refine zi_iload_n 1 dX11_number_0 rfl rfl ?_
  refine zc_static (n' := (0, 0)) (md' := mX11_isSlot) 4 dX11_number_1 tw_937 zs_X11_isSlot (s_X11_isSlot B h _) rfl rfl rfl rfl rfl rfl rfl rfl (zk_f ?_)
  refine zb_eq 7 19 dX11_number_4 (by decide) rfl (fun zzA => ?_) (fun zzA => ?_)
  ·
    have zzA := Decidable.not_not.mp (fun q => zzA (in_20.mpr q))
    refine zi_ldc2 22 dX11_number_19 tw_924 rfl ?_
    exact zr_long hZ dX11_number_22 rfl ⟨_, rfl, _, by rw [r_number, if_pos (by first | exact Or.inl zzA | exact Or.inr (zzB))], ⟨m, N0.1, K⟩, N0.2⟩
  ·
    have zzA := in_20.mp zzA
    refine zi_iload_n 8 dX11_number_7 rfl rfl ?_
    refine zi_i2l 9 dX11_number_8 rfl ?_
    refine zi_lconst (v := 0) 10 dX11_number_9 (by decide) rfl ?_
    refine zi_ldc2 13 dX11_number_10 tw_984 rfl ?_
    refine zc_static (n' := (0, 0)) (md' := mX11_in) 16 dX11_number_13 tw_906 zs_X11_in (s_X11_in B h _ _ _) rfl rfl rfl rfl rfl rfl rfl rfl (zk_f ?_)
    refine zb_ne 19 23 dX11_number_16 (by decide) rfl (fun zzB => ?_) (fun zzB => ?_)
    ·
      have zzB := in_4.mp zzB
      have zzO : ¬ (zOut i 20 ∨ zOut k 4) := fun r => r.elim zzA zzB
      obtain ⟨pj, hpj, hpj31, rfl⟩ := out_i (N := 20) (by decide) zzA
      obtain ⟨kj, hkj, hkj31, rfl⟩ := out_i (N := 4) (by decide) zzB
      refine zi_aload_n 24 dX11_number_23 rfl rfl ?_
      refine zi_getfield 27 0 dX11_number_24 zcl_X11 tw_863 rfl rfl N0.1.1 rfl rfl ?_
      refine zi_iload_n 28 dX11_number_27 rfl rfl ?_
      rcases hsP : qSl s pj with _ | P
      ·
        refine zi_baload 29 dX11_number_28 N0.1.2.1 (vp_in_nI (show pj < 20 by omega) (by decide)) rfl ?_
        rw [nI_clamp (Nat.lt_trans (show pj < 20 by omega) (by decide))]
        rw [show wH _ pj = kn (qSl s pj) from K.1 pj hpj, hsP, show kn none = 0 from rfl]
        refine zi_if_ne 32 39 dX11_number_29 (by decide) rfl (fun c_29 => absurd c_29 (by decide)) (fun c_29 => ?_)
        refine zi_aload_n 33 dX11_number_32 rfl rfl ?_
        refine zi_iconst (v := 1) 34 dX11_number_33 (by decide) rfl ?_
        refine zc_virtual (n' := (0, 0)) (md' := mX11_finds) 37 dX11_number_34 tw_911 zv_X11_finds zcl_X11 (s_X11_finds B h D hD _ N0.1 _) N0.1.1 rfl rfl rfl rfl rfl rfl rfl rfl (zk_i fun x1 h1 p1 => ?_)
        obtain ⟨rfl, n1⟩ := p1
        have N1 := rN_t N0 n1
        refine zi_i2l 38 dX11_number_37 rfl ?_
        exact zr_long hZ dX11_number_38 rfl ⟨_, rfl, _, by rw [r_number, if_neg zzO, nI_clamp hpj31, hsP, onS_n], ⟨_, N1.1, mQ_F _ K⟩, N1.2⟩
      ·
        have hVP := hs0.1 pj P hsP
        have eP := K.2.1 pj hpj P hsP
        refine zi_baload 29 dX11_number_28 N0.1.2.1 (vp_in_nI (show pj < 20 by omega) (by decide)) rfl ?_
        rw [nI_clamp (Nat.lt_trans (show pj < 20 by omega) (by decide))]
        rw [show wH _ pj = kn (qSl s pj) from K.1 pj hpj, hsP, show kn (some P) = 1 from rfl]
        refine zi_if_ne 32 39 dX11_number_29 (by decide) rfl (fun c_29 => ?_) (fun c_29 => absurd c_29 (by decide))
        refine zi_aload_n 40 dX11_number_39 rfl rfl ?_
        refine zi_iconst (v := 0) 41 dX11_number_40 (by decide) rfl ?_
        refine zi_putfield (fs' := [_, _, _, _, _, _, _, _, _, _, _]) 44 6 dX11_number_41 zcl_X11 tyX11 tyX11_ok nmX11 tw_869 rfl rfl rfl N0.1.1 rfl rfl rfl rfl rfl rfl ?_
        refine zk_h (fun h2 k2 => ?_)
        have N2 := rN_F hD N0 k2
        refine zi_aload_n 45 dX11_number_44 rfl rfl ?_
        refine zi_getfield 48 1 dX11_number_45 zcl_X11 tw_864 rfl rfl N2.1.1 rfl rfl ?_
        refine zi_iconst (v := 4) 49 dX11_number_48 (by decide) rfl ?_
        refine zi_iload_n 50 dX11_number_49 rfl rfl ?_
        refine zi_imul 51 dX11_number_50 rfl ?_
        rw [show (4 : Int32) * nI pj = nI (4 * pj) from ls_m 4 pj]
        refine zi_iload_n 52 dX11_number_51 rfl rfl ?_
        refine zi_iadd 53 dX11_number_52 rfl ?_
        rw [show (nI (4 * pj) : Int32) + nI kj = nI ((4 * pj) + kj) from nI_ad (4 * pj) kj]
        refine zi_laload 54 dX11_number_53 N2.1.2.2.1 (vp_in_nI (show ((4 * pj) + kj) < 80 by omega) (by decide)) rfl ?_
        rw [nI_clamp (Nat.lt_trans (show ((4 * pj) + kj) < 80 by omega) (by decide))]
        rw [show wS _ (4 * pj + kj) = zAt (z4i P) (nI kj) from sl_at eP hkj]
        exact zr_long hZ dX11_number_54 rfl ⟨_, rfl, _, by rw [r_number, if_neg zzO, nI_clamp hpj31, hsP, onS_s], ⟨_, N2.1, mQ_F _ K⟩, N2.2⟩
    ·
      have zzB := Decidable.not_not.mp (fun q => zzB (in_4.mpr q))
      refine zi_ldc2 22 dX11_number_19 tw_924 rfl ?_
      exact zr_long hZ dX11_number_22 rfl ⟨_, rfl, _, by rw [r_number, if_pos (by first | exact Or.inl zzA | exact Or.inr (zzB))], ⟨m, N0.1, K⟩, N0.2⟩

theorem trA_w (m : mS) : ∀ (L : List Int32) (m : mS) (n : Nat), wH (trA m n L) = wH m ∧ wS (trA m n L) = wS m ∧ wL (trA m n L) = wL m ∧ wZ (trA m n L) = wZ m ∧ wI (trA m n L) = wI m ∧ wF (trA m n L) = wF m ∧ (∀ i, i < n → wT (trA m n L) i = wT m i) ∧ (∀ (i : Nat) (x : Int32), L[i]? = some x → wT (trA m n L) (n + i) = x) ∧ (wC m = nI n → wC (trA m n L) = nI (n + L.length)) := by
  intro L
  induction L with
  | nil => exact fun m n => ⟨rfl, rfl, rfl, rfl, rfl, rfl, fun i hi => rfl, fun i x hx => by simp at hx, fun h => h⟩
  | cons v L ih =>
    intro m n
    obtain ⟨a1, a2, a3, a4, a5, a6, a7, a8, a9⟩ := ih (uC (uT m (upd (wT m) n v)) (nI (n + 1))) (n + 1)
    refine ⟨a1, a2, a3, a4, a5, a6, fun i hi => ?_, fun i x hx => ?_, fun h => ?_⟩
    · show wT (trA _ (n + 1) L) i = _
      rw [a7 i (by omega)]
      show upd (wT m) n v i = wT m i
      unfold upd
      rw [if_neg (by omega)]
    · show wT (trA _ (n + 1) L) (n + i) = x
      cases i with
      | zero =>
        show wT (trA (uC (uT m (upd (wT m) n v)) (nI (n + 1))) (n + 1) L) n = x
        rw [a7 n (by omega)]
        show upd (wT m) n v n = x
        unfold upd
        rw [if_pos rfl]
        simpa using hx
      | succ i =>
        rw [show n + (i + 1) = n + 1 + i by omega]
        exact a8 i x (by simpa using hx)
    · show wC (trA _ (n + 1) L) = _
      rw [a9 rfl, List.length_cons]
      congr 1
      omega
theorem mK_tr {s : zSt} {m : mS} {L : List Int32} (K : mQ s (wH m) (wS m) (wL m) (wZ m) (wI m) (wF m) (wT m) (nI 0)) (hC : wC m = nI 0) : mK (sTc s L) (trA m 0 L) := by
  obtain ⟨a1, a2, a3, a4, a5, a6, a7, a8, a9⟩ := trA_w m L m 0
  obtain ⟨k1, k2, k3, k4, k5, k6, k7, k8⟩ := K
  unfold mK
  rw [a1, a2, a3, a4, a5, a6]
  exact ⟨k1, k2, k3, k4, k5, k6, fun i x hx => by have := a8 i x hx; rwa [Nat.zero_add] at this, by rw [a9 hC, Nat.zero_add]⟩
theorem mK_t0 {s : zSt} {m : mS} (K : mK s m) : mK (sTc s []) (uC m 0) := ⟨K.1, K.2.1, K.2.2.1, K.2.2.2.1, K.2.2.2.2.1, K.2.2.2.2.2.1, fun i x hx => by change ([] : List Int32)[i]? = some x at hx; simp at hx, rfl⟩
theorem mK_tr2 {s : zSt} {m : mS} {R : Nat → Int64} {L : List Int32} (K : mK s m) : mK (sTc s L) (trA (uR (uC m 0) R) 0 L) := mK_tr (s := sTc s []) (m := uR (uC m 0) R) (L := L) (mK_t0 (m := m) K) rfl

set_option maxHeartbeats 1000000 in
set_option maxRecDepth 100000 in
theorem s_X11_ask (B : zBB) (h : zHp) (D : Nat → Nat) (hD : zInj D) (s : zSt) (hs0 : okSt s) (hR : rRm B D s h) (i : Int32) (w : Int32) : zSpec mX11_ask B (3, 0, 0) [.ref (D 0), .int i, .int w] h (zPi (fun zx h' => ∃ s' : zSt, r_ask s i w = (zx, s') ∧ rRm B D s' h' ∧ rOd D h h')) := by
  refine zSpec.of (by decide) (Nat.le_of_ble_eq_true rfl) (fun X hZ => ?_)
  show zG X mX11_ask B (3, 0, 0) (0, 0) 0 [(0, .ref (D 0)), (1, .int i), (2, .int w)] [] h
  obtain ⟨m, M, K⟩ := hR
  have N0 := rN_r M
  refine zi_iload_n 1 dX11_ask_0 rfl rfl ?_
  refine zc_static (n' := (0, 0)) (md' := mX11_isSlot) 4 dX11_ask_1 tw_937 zs_X11_isSlot (s_X11_isSlot B h _) rfl rfl rfl rfl rfl rfl rfl rfl (zk_f ?_)
  refine zb_eq 7 19 dX11_ask_4 (by decide) rfl (fun zzA => ?_) (fun zzA => ?_)
  ·
    have zzA := Decidable.not_not.mp (fun q => zzA (in_20.mpr q))
    refine zi_ldc 21 dX11_ask_19 tw_910 rfl ?_
    exact zr_int hZ dX11_ask_21 rfl rfl ⟨_, rfl, _, by rw [r_ask, if_pos (by first | exact Or.inl zzA | exact Or.inr (zzB))], ⟨m, N0.1, K⟩, N0.2⟩
  ·
    have zzA := in_20.mp zzA
    refine zi_iload_n 8 dX11_ask_7 rfl rfl ?_
    refine zi_i2l 9 dX11_ask_8 rfl ?_
    refine zi_lconst (v := 0) 10 dX11_ask_9 (by decide) rfl ?_
    refine zi_ldc2 13 dX11_ask_10 tw_909 rfl ?_
    refine zc_static (n' := (0, 0)) (md' := mX11_in) 16 dX11_ask_13 tw_906 zs_X11_in (s_X11_in B h _ _ _) rfl rfl rfl rfl rfl rfl rfl rfl (zk_f ?_)
    refine zb_ne 19 22 dX11_ask_16 (by decide) rfl (fun zzB => ?_) (fun zzB => ?_)
    ·
      have zzB := in_3.mp zzB
      have zzO : ¬ (zOut i 20 ∨ zOut w 3) := fun r => r.elim zzA zzB
      obtain ⟨pj, hpj, hpj31, rfl⟩ := out_i (N := 20) (by decide) zzA
      refine zi_aload_n 23 dX11_ask_22 rfl rfl ?_
      refine zi_iconst (v := 0) 24 dX11_ask_23 (by decide) rfl ?_
      refine zi_putfield (fs' := [_, _, _, _, _, _, _, _, _, _, _]) 27 8 dX11_ask_24 zcl_X11 tyX11 tyX11_ok nmX11 tw_871 rfl rfl rfl N0.1.1 rfl rfl rfl rfl rfl rfl ?_
      refine zk_h (fun h1 k1 => ?_)
      have N1 := rN_C hD N0 k1
      refine zi_aload_n 28 dX11_ask_27 rfl rfl ?_
      refine zi_getfield 31 0 dX11_ask_28 zcl_X11 tw_863 rfl rfl N1.1.1 rfl rfl ?_
      refine zi_iload_n 32 dX11_ask_31 rfl rfl ?_
      rcases hsP : qSl s pj with _ | P
      ·
        refine zi_baload 33 dX11_ask_32 N1.1.2.1 (vp_in_nI (show pj < 20 by omega) (by decide)) rfl ?_
        rw [nI_clamp (Nat.lt_trans (show pj < 20 by omega) (by decide))]
        rw [show wH _ pj = kn (qSl s pj) from K.1 pj hpj, hsP, show kn none = 0 from rfl]
        refine zi_if_ne 36 42 dX11_ask_33 (by decide) rfl (fun c_33 => absurd c_33 (by decide)) (fun c_33 => ?_)
        refine zi_aload_n 37 dX11_ask_36 rfl rfl ?_
        refine zi_iconst (v := 1) 38 dX11_ask_37 (by decide) rfl ?_
        refine zc_virtual (n' := (0, 0)) (md' := mX11_finds) 41 dX11_ask_38 tw_911 zv_X11_finds zcl_X11 (s_X11_finds B h1 D hD _ N1.1 _) N1.1.1 rfl rfl rfl rfl rfl rfl rfl rfl (zk_i fun x2 h2 p2 => ?_)
        obtain ⟨rfl, n2⟩ := p2
        have N2 := rN_t N1 n2
        exact zr_int hZ dX11_ask_41 rfl rfl ⟨_, rfl, _, by rw [r_ask, if_neg zzO, nI_clamp hpj31, hsP, onS_n], ⟨_, N2.1, mQ_F 1 (mK_t0 (m := m) K)⟩, N2.2⟩
      ·
        have hVP := hs0.1 pj P hsP
        have eP := K.2.1 pj hpj P hsP
        refine zi_baload 33 dX11_ask_32 N1.1.2.1 (vp_in_nI (show pj < 20 by omega) (by decide)) rfl ?_
        rw [nI_clamp (Nat.lt_trans (show pj < 20 by omega) (by decide))]
        rw [show wH _ pj = kn (qSl s pj) from K.1 pj hpj, hsP, show kn (some P) = 1 from rfl]
        refine zi_if_ne 36 42 dX11_ask_33 (by decide) rfl (fun c_33 => ?_) (fun c_33 => absurd c_33 (by decide))
        refine zi_aload_n 43 dX11_ask_42 rfl rfl ?_
        refine zi_iconst (v := 0) 44 dX11_ask_43 (by decide) rfl ?_
        refine zi_iload_n 45 dX11_ask_44 rfl rfl ?_
        refine zc_virtual (n' := (0, 0)) (md' := mX11_load) 48 dX11_ask_45 tw_989 zv_X11_load zcl_X11 (s_X11_load B h1 D hD _ N1.1 0 pj (by omega) (by omega)) N1.1.1 rfl rfl rfl rfl rfl rfl rfl rfl (zk_v fun h3 n3 => ?_)
        have N3 := rN_t N1 n3
        obtain ⟨R4, N4, r0⟩ : ∃ R, rN B D (uR (uC m 0) R) h h3 ∧ ro R 0 = z4i P := ⟨_, N3, eP⟩
        refine zi_aload_n 49 dX11_ask_48 rfl rfl ?_
        refine zi_iconst (v := 0) 50 dX11_ask_49 (by decide) rfl ?_
        refine zc_virtual (n' := (0, 0)) (md' := mX11_kindOf) 53 dX11_ask_50 tw_958 zv_X11_kindOf zcl_X11 (s_X11_kindOf B h3 D hD _ N4.1 0 (by omega) P hVP r0) N4.1.1 rfl rfl rfl rfl rfl rfl rfl rfl (zk_f ?_)
        rcases kd_5 P with hk5 | hk5 | hk5 | hk5 | hk5
        ·
          rw [hk5, show nI 0 = 0 from rfl]
          refine zi_istore_n (lv' := [(3, _), (0, _), (1, _), (2, _)]) 54 dX11_ask_53 rfl rfl rfl ?_
          refine zi_aload_n 55 dX11_ask_54 rfl rfl ?_
          refine zi_iload_n 56 dX11_ask_55 rfl rfl ?_
          refine zi_if_ne 59 67 dX11_ask_56 (by decide) rfl (fun zz0 => ?_) (fun zz0 => ?_)
          ·
            refine zi_iload_n 68 dX11_ask_67 rfl rfl ?_
            refine zi_iconst (v := 1) 69 dX11_ask_68 (by decide) rfl ?_
            refine zi_icmp_ne 72 80 dX11_ask_69 (by decide) rfl (fun zz1 => ?_) (fun zz1 => ?_)
            ·
              refine zi_aload_n 81 dX11_ask_80 rfl rfl ?_
              refine zi_iload_n 82 dX11_ask_81 rfl rfl ?_
              refine zc_virtual (n' := (0, 0)) (md' := mX11_mark) 85 dX11_ask_82 tw_1025 zv_X11_mark zcl_X11 (s_X11_mark0 B h3 D hD _ N4.1 0 rfl (by decide) P hVP r0) N4.1.1 rfl rfl rfl rfl rfl rfl rfl rfl (zk_i fun x5 h5 p5 => ?_)
              obtain ⟨rfl, n5⟩ := p5
              have N5 := rN_t N4 n5
              obtain ⟨m6, N6, K6⟩ : ∃ m9, rN B D m9 h h5 ∧ mK (sTc s (markT 0)) m9 := ⟨_, N5, mK_tr2 (R := R4) K⟩
              refine zc_virtual (n' := (0, 0)) (md' := mX11_well) 88 dX11_ask_85 tw_916 zv_X11_well zcl_X11 (s_X11_well B h5 D hD _ N6.1 _) N6.1.1 rfl rfl rfl rfl rfl rfl rfl rfl (zk_i fun x7 h7 p7 => ?_)
              obtain ⟨rfl, n7⟩ := p7
              have N7 := rN_t N6 n7
              exact zr_int hZ dX11_ask_88 rfl rfl ⟨_, rfl, _, by rw [r_ask, if_neg zzO, nI_clamp hpj31, hsP, onS_s, hk5, askV, if_neg zz0, if_neg zz1, askT, if_neg zz0, if_neg zz1], ⟨_, N7.1, mQ_F 0 K6⟩, N7.2⟩
            ·
              refine zi_aload_n 73 dX11_ask_72 rfl rfl ?_
              refine zi_iload_n 74 dX11_ask_73 rfl rfl ?_
              refine zc_virtual (n' := (0, 0)) (md' := mX11_share) 77 dX11_ask_74 tw_1021 zv_X11_share zcl_X11 (s_X11_share0 B h3 D hD _ N4.1 0 rfl (by decide) P hVP r0) N4.1.1 rfl rfl rfl rfl rfl rfl rfl rfl (zk_i fun x8 h8 p8 => ?_)
              obtain ⟨rfl, n8⟩ := p8
              have N8 := rN_t N4 n8
              obtain ⟨m9, N9, K9⟩ : ∃ m9, rN B D m9 h h8 ∧ mK (sTc s (shareT 0)) m9 := ⟨_, N8, mK_tr2 (R := R4) K⟩
              refine zi_goto 85 dX11_ask_77 (by decide) ?_
              refine zc_virtual (n' := (0, 0)) (md' := mX11_well) 88 dX11_ask_85 tw_916 zv_X11_well zcl_X11 (s_X11_well B h8 D hD _ N9.1 _) N9.1.1 rfl rfl rfl rfl rfl rfl rfl rfl (zk_i fun x10 h10 p10 => ?_)
              obtain ⟨rfl, n10⟩ := p10
              have N10 := rN_t N9 n10
              exact zr_int hZ dX11_ask_88 rfl rfl ⟨_, rfl, _, by rw [r_ask, if_neg zzO, nI_clamp hpj31, hsP, onS_s, hk5, askV, if_neg zz0, if_pos zz1, askT, if_neg zz0, if_pos zz1], ⟨_, N10.1, mQ_F 0 K9⟩, N10.2⟩
          ·
            refine zi_aload_n 60 dX11_ask_59 rfl rfl ?_
            refine zi_iload_n 61 dX11_ask_60 rfl rfl ?_
            refine zc_virtual (n' := (0, 0)) (md' := mX11_sizeOf) 64 dX11_ask_61 tw_1012 zv_X11_sizeOf zcl_X11 (s_X11_sizeOf0 B h3 D hD _ N4.1 0 rfl (by decide) P hVP r0) N4.1.1 rfl rfl rfl rfl rfl rfl rfl rfl (zk_i fun x11 h11 p11 => ?_)
            obtain ⟨rfl, n11⟩ := p11
            have N11 := rN_t N4 n11
            obtain ⟨m12, N12, K12⟩ : ∃ m9, rN B D m9 h h11 ∧ mK (sTc s (sizeT 0)) m9 := ⟨_, N11, mK_tr2 (R := R4) K⟩
            refine zi_goto 85 dX11_ask_64 (by decide) ?_
            refine zc_virtual (n' := (0, 0)) (md' := mX11_well) 88 dX11_ask_85 tw_916 zv_X11_well zcl_X11 (s_X11_well B h11 D hD _ N12.1 _) N12.1.1 rfl rfl rfl rfl rfl rfl rfl rfl (zk_i fun x13 h13 p13 => ?_)
            obtain ⟨rfl, n13⟩ := p13
            have N13 := rN_t N12 n13
            exact zr_int hZ dX11_ask_88 rfl rfl ⟨_, rfl, _, by rw [r_ask, if_neg zzO, nI_clamp hpj31, hsP, onS_s, hk5, askV, if_pos zz0, askT, if_pos zz0], ⟨_, N13.1, mQ_F 0 K12⟩, N13.2⟩
        ·
          rw [hk5, show nI 1 = 1 from rfl]
          refine zi_istore_n (lv' := [(3, _), (0, _), (1, _), (2, _)]) 54 dX11_ask_53 rfl rfl rfl ?_
          refine zi_aload_n 55 dX11_ask_54 rfl rfl ?_
          refine zi_iload_n 56 dX11_ask_55 rfl rfl ?_
          refine zi_if_ne 59 67 dX11_ask_56 (by decide) rfl (fun zz0 => ?_) (fun zz0 => ?_)
          ·
            refine zi_iload_n 68 dX11_ask_67 rfl rfl ?_
            refine zi_iconst (v := 1) 69 dX11_ask_68 (by decide) rfl ?_
            refine zi_icmp_ne 72 80 dX11_ask_69 (by decide) rfl (fun zz1 => ?_) (fun zz1 => ?_)
            ·
              refine zi_aload_n 81 dX11_ask_80 rfl rfl ?_
              refine zi_iload_n 82 dX11_ask_81 rfl rfl ?_
              refine zc_virtual (n' := (0, 0)) (md' := mX11_mark) 85 dX11_ask_82 tw_1025 zv_X11_mark zcl_X11 (s_X11_mark1 B h3 D hD _ N4.1 0 rfl (by decide) P hVP r0) N4.1.1 rfl rfl rfl rfl rfl rfl rfl rfl (zk_i fun x14 h14 p14 => ?_)
              obtain ⟨rfl, n14⟩ := p14
              have N14 := rN_t N4 n14
              obtain ⟨m15, N15, K15⟩ : ∃ m9, rN B D m9 h h14 ∧ mK (sTc s (markT 1)) m9 := ⟨_, N14, mK_tr2 (R := R4) K⟩
              refine zc_virtual (n' := (0, 0)) (md' := mX11_well) 88 dX11_ask_85 tw_916 zv_X11_well zcl_X11 (s_X11_well B h14 D hD _ N15.1 _) N15.1.1 rfl rfl rfl rfl rfl rfl rfl rfl (zk_i fun x16 h16 p16 => ?_)
              obtain ⟨rfl, n16⟩ := p16
              have N16 := rN_t N15 n16
              exact zr_int hZ dX11_ask_88 rfl rfl ⟨_, rfl, _, by rw [r_ask, if_neg zzO, nI_clamp hpj31, hsP, onS_s, hk5, askV, if_neg zz0, if_neg zz1, askT, if_neg zz0, if_neg zz1], ⟨_, N16.1, mQ_F 0 K15⟩, N16.2⟩
            ·
              refine zi_aload_n 73 dX11_ask_72 rfl rfl ?_
              refine zi_iload_n 74 dX11_ask_73 rfl rfl ?_
              refine zc_virtual (n' := (0, 0)) (md' := mX11_share) 77 dX11_ask_74 tw_1021 zv_X11_share zcl_X11 (s_X11_share1 B h3 D hD _ N4.1 0 rfl (by decide) P hVP r0) N4.1.1 rfl rfl rfl rfl rfl rfl rfl rfl (zk_i fun x17 h17 p17 => ?_)
              obtain ⟨rfl, n17⟩ := p17
              have N17 := rN_t N4 n17
              obtain ⟨m18, N18, K18⟩ : ∃ m9, rN B D m9 h h17 ∧ mK (sTc s (shareT 1)) m9 := ⟨_, N17, mK_tr2 (R := R4) K⟩
              refine zi_goto 85 dX11_ask_77 (by decide) ?_
              refine zc_virtual (n' := (0, 0)) (md' := mX11_well) 88 dX11_ask_85 tw_916 zv_X11_well zcl_X11 (s_X11_well B h17 D hD _ N18.1 _) N18.1.1 rfl rfl rfl rfl rfl rfl rfl rfl (zk_i fun x19 h19 p19 => ?_)
              obtain ⟨rfl, n19⟩ := p19
              have N19 := rN_t N18 n19
              exact zr_int hZ dX11_ask_88 rfl rfl ⟨_, rfl, _, by rw [r_ask, if_neg zzO, nI_clamp hpj31, hsP, onS_s, hk5, askV, if_neg zz0, if_pos zz1, askT, if_neg zz0, if_pos zz1], ⟨_, N19.1, mQ_F 0 K18⟩, N19.2⟩
          ·
            refine zi_aload_n 60 dX11_ask_59 rfl rfl ?_
            refine zi_iload_n 61 dX11_ask_60 rfl rfl ?_
            refine zc_virtual (n' := (0, 0)) (md' := mX11_sizeOf) 64 dX11_ask_61 tw_1012 zv_X11_sizeOf zcl_X11 (s_X11_sizeOf1 B h3 D hD _ N4.1 0 rfl (by decide) P hVP r0) N4.1.1 rfl rfl rfl rfl rfl rfl rfl rfl (zk_i fun x20 h20 p20 => ?_)
            obtain ⟨rfl, n20⟩ := p20
            have N20 := rN_t N4 n20
            obtain ⟨m21, N21, K21⟩ : ∃ m9, rN B D m9 h h20 ∧ mK (sTc s (sizeT 1)) m9 := ⟨_, N20, mK_tr2 (R := R4) K⟩
            refine zi_goto 85 dX11_ask_64 (by decide) ?_
            refine zc_virtual (n' := (0, 0)) (md' := mX11_well) 88 dX11_ask_85 tw_916 zv_X11_well zcl_X11 (s_X11_well B h20 D hD _ N21.1 _) N21.1.1 rfl rfl rfl rfl rfl rfl rfl rfl (zk_i fun x22 h22 p22 => ?_)
            obtain ⟨rfl, n22⟩ := p22
            have N22 := rN_t N21 n22
            exact zr_int hZ dX11_ask_88 rfl rfl ⟨_, rfl, _, by rw [r_ask, if_neg zzO, nI_clamp hpj31, hsP, onS_s, hk5, askV, if_pos zz0, askT, if_pos zz0], ⟨_, N22.1, mQ_F 0 K21⟩, N22.2⟩
        ·
          rw [hk5, show nI 2 = 2 from rfl]
          refine zi_istore_n (lv' := [(3, _), (0, _), (1, _), (2, _)]) 54 dX11_ask_53 rfl rfl rfl ?_
          refine zi_aload_n 55 dX11_ask_54 rfl rfl ?_
          refine zi_iload_n 56 dX11_ask_55 rfl rfl ?_
          refine zi_if_ne 59 67 dX11_ask_56 (by decide) rfl (fun zz0 => ?_) (fun zz0 => ?_)
          ·
            refine zi_iload_n 68 dX11_ask_67 rfl rfl ?_
            refine zi_iconst (v := 1) 69 dX11_ask_68 (by decide) rfl ?_
            refine zi_icmp_ne 72 80 dX11_ask_69 (by decide) rfl (fun zz1 => ?_) (fun zz1 => ?_)
            ·
              refine zi_aload_n 81 dX11_ask_80 rfl rfl ?_
              refine zi_iload_n 82 dX11_ask_81 rfl rfl ?_
              refine zc_virtual (n' := (0, 0)) (md' := mX11_mark) 85 dX11_ask_82 tw_1025 zv_X11_mark zcl_X11 (s_X11_mark2 B h3 D hD _ N4.1 0 rfl (by decide) P hVP r0) N4.1.1 rfl rfl rfl rfl rfl rfl rfl rfl (zk_i fun x23 h23 p23 => ?_)
              obtain ⟨rfl, n23⟩ := p23
              have N23 := rN_t N4 n23
              obtain ⟨m24, N24, K24⟩ : ∃ m9, rN B D m9 h h23 ∧ mK (sTc s (markT 2)) m9 := ⟨_, N23, mK_tr2 (R := R4) K⟩
              refine zc_virtual (n' := (0, 0)) (md' := mX11_well) 88 dX11_ask_85 tw_916 zv_X11_well zcl_X11 (s_X11_well B h23 D hD _ N24.1 _) N24.1.1 rfl rfl rfl rfl rfl rfl rfl rfl (zk_i fun x25 h25 p25 => ?_)
              obtain ⟨rfl, n25⟩ := p25
              have N25 := rN_t N24 n25
              exact zr_int hZ dX11_ask_88 rfl rfl ⟨_, rfl, _, by rw [r_ask, if_neg zzO, nI_clamp hpj31, hsP, onS_s, hk5, askV, if_neg zz0, if_neg zz1, askT, if_neg zz0, if_neg zz1], ⟨_, N25.1, mQ_F 0 K24⟩, N25.2⟩
            ·
              refine zi_aload_n 73 dX11_ask_72 rfl rfl ?_
              refine zi_iload_n 74 dX11_ask_73 rfl rfl ?_
              refine zc_virtual (n' := (0, 0)) (md' := mX11_share) 77 dX11_ask_74 tw_1021 zv_X11_share zcl_X11 (s_X11_share2 B h3 D hD _ N4.1 0 rfl (by decide) P hVP r0) N4.1.1 rfl rfl rfl rfl rfl rfl rfl rfl (zk_i fun x26 h26 p26 => ?_)
              obtain ⟨rfl, n26⟩ := p26
              have N26 := rN_t N4 n26
              obtain ⟨m27, N27, K27⟩ : ∃ m9, rN B D m9 h h26 ∧ mK (sTc s (shareT 2)) m9 := ⟨_, N26, mK_tr2 (R := R4) K⟩
              refine zi_goto 85 dX11_ask_77 (by decide) ?_
              refine zc_virtual (n' := (0, 0)) (md' := mX11_well) 88 dX11_ask_85 tw_916 zv_X11_well zcl_X11 (s_X11_well B h26 D hD _ N27.1 _) N27.1.1 rfl rfl rfl rfl rfl rfl rfl rfl (zk_i fun x28 h28 p28 => ?_)
              obtain ⟨rfl, n28⟩ := p28
              have N28 := rN_t N27 n28
              exact zr_int hZ dX11_ask_88 rfl rfl ⟨_, rfl, _, by rw [r_ask, if_neg zzO, nI_clamp hpj31, hsP, onS_s, hk5, askV, if_neg zz0, if_pos zz1, askT, if_neg zz0, if_pos zz1], ⟨_, N28.1, mQ_F 0 K27⟩, N28.2⟩
          ·
            refine zi_aload_n 60 dX11_ask_59 rfl rfl ?_
            refine zi_iload_n 61 dX11_ask_60 rfl rfl ?_
            refine zc_virtual (n' := (0, 0)) (md' := mX11_sizeOf) 64 dX11_ask_61 tw_1012 zv_X11_sizeOf zcl_X11 (s_X11_sizeOf2 B h3 D hD _ N4.1 0 rfl (by decide) P hVP r0) N4.1.1 rfl rfl rfl rfl rfl rfl rfl rfl (zk_i fun x29 h29 p29 => ?_)
            obtain ⟨rfl, n29⟩ := p29
            have N29 := rN_t N4 n29
            obtain ⟨m30, N30, K30⟩ : ∃ m9, rN B D m9 h h29 ∧ mK (sTc s (sizeT 2)) m9 := ⟨_, N29, mK_tr2 (R := R4) K⟩
            refine zi_goto 85 dX11_ask_64 (by decide) ?_
            refine zc_virtual (n' := (0, 0)) (md' := mX11_well) 88 dX11_ask_85 tw_916 zv_X11_well zcl_X11 (s_X11_well B h29 D hD _ N30.1 _) N30.1.1 rfl rfl rfl rfl rfl rfl rfl rfl (zk_i fun x31 h31 p31 => ?_)
            obtain ⟨rfl, n31⟩ := p31
            have N31 := rN_t N30 n31
            exact zr_int hZ dX11_ask_88 rfl rfl ⟨_, rfl, _, by rw [r_ask, if_neg zzO, nI_clamp hpj31, hsP, onS_s, hk5, askV, if_pos zz0, askT, if_pos zz0], ⟨_, N31.1, mQ_F 0 K30⟩, N31.2⟩
        ·
          rw [hk5, show nI 3 = 3 from rfl]
          refine zi_istore_n (lv' := [(3, _), (0, _), (1, _), (2, _)]) 54 dX11_ask_53 rfl rfl rfl ?_
          refine zi_aload_n 55 dX11_ask_54 rfl rfl ?_
          refine zi_iload_n 56 dX11_ask_55 rfl rfl ?_
          refine zi_if_ne 59 67 dX11_ask_56 (by decide) rfl (fun zz0 => ?_) (fun zz0 => ?_)
          ·
            refine zi_iload_n 68 dX11_ask_67 rfl rfl ?_
            refine zi_iconst (v := 1) 69 dX11_ask_68 (by decide) rfl ?_
            refine zi_icmp_ne 72 80 dX11_ask_69 (by decide) rfl (fun zz1 => ?_) (fun zz1 => ?_)
            ·
              refine zi_aload_n 81 dX11_ask_80 rfl rfl ?_
              refine zi_iload_n 82 dX11_ask_81 rfl rfl ?_
              refine zc_virtual (n' := (0, 0)) (md' := mX11_mark) 85 dX11_ask_82 tw_1025 zv_X11_mark zcl_X11 (s_X11_mark3 B h3 D hD _ N4.1 0 rfl (by decide) P hVP r0) N4.1.1 rfl rfl rfl rfl rfl rfl rfl rfl (zk_i fun x32 h32 p32 => ?_)
              obtain ⟨rfl, n32⟩ := p32
              have N32 := rN_t N4 n32
              obtain ⟨m33, N33, K33⟩ : ∃ m9, rN B D m9 h h32 ∧ mK (sTc s (markT 3)) m9 := ⟨_, N32, mK_tr2 (R := R4) K⟩
              refine zc_virtual (n' := (0, 0)) (md' := mX11_well) 88 dX11_ask_85 tw_916 zv_X11_well zcl_X11 (s_X11_well B h32 D hD _ N33.1 _) N33.1.1 rfl rfl rfl rfl rfl rfl rfl rfl (zk_i fun x34 h34 p34 => ?_)
              obtain ⟨rfl, n34⟩ := p34
              have N34 := rN_t N33 n34
              exact zr_int hZ dX11_ask_88 rfl rfl ⟨_, rfl, _, by rw [r_ask, if_neg zzO, nI_clamp hpj31, hsP, onS_s, hk5, askV, if_neg zz0, if_neg zz1, askT, if_neg zz0, if_neg zz1], ⟨_, N34.1, mQ_F 0 K33⟩, N34.2⟩
            ·
              refine zi_aload_n 73 dX11_ask_72 rfl rfl ?_
              refine zi_iload_n 74 dX11_ask_73 rfl rfl ?_
              refine zc_virtual (n' := (0, 0)) (md' := mX11_share) 77 dX11_ask_74 tw_1021 zv_X11_share zcl_X11 (s_X11_share3 B h3 D hD _ N4.1 0 rfl (by decide) P hVP r0) N4.1.1 rfl rfl rfl rfl rfl rfl rfl rfl (zk_i fun x35 h35 p35 => ?_)
              obtain ⟨rfl, n35⟩ := p35
              have N35 := rN_t N4 n35
              obtain ⟨m36, N36, K36⟩ : ∃ m9, rN B D m9 h h35 ∧ mK (sTc s (shareT 3)) m9 := ⟨_, N35, mK_tr2 (R := R4) K⟩
              refine zi_goto 85 dX11_ask_77 (by decide) ?_
              refine zc_virtual (n' := (0, 0)) (md' := mX11_well) 88 dX11_ask_85 tw_916 zv_X11_well zcl_X11 (s_X11_well B h35 D hD _ N36.1 _) N36.1.1 rfl rfl rfl rfl rfl rfl rfl rfl (zk_i fun x37 h37 p37 => ?_)
              obtain ⟨rfl, n37⟩ := p37
              have N37 := rN_t N36 n37
              exact zr_int hZ dX11_ask_88 rfl rfl ⟨_, rfl, _, by rw [r_ask, if_neg zzO, nI_clamp hpj31, hsP, onS_s, hk5, askV, if_neg zz0, if_pos zz1, askT, if_neg zz0, if_pos zz1], ⟨_, N37.1, mQ_F 0 K36⟩, N37.2⟩
          ·
            refine zi_aload_n 60 dX11_ask_59 rfl rfl ?_
            refine zi_iload_n 61 dX11_ask_60 rfl rfl ?_
            refine zc_virtual (n' := (0, 0)) (md' := mX11_sizeOf) 64 dX11_ask_61 tw_1012 zv_X11_sizeOf zcl_X11 (s_X11_sizeOf3 B h3 D hD _ N4.1 0 rfl (by decide) P hVP r0) N4.1.1 rfl rfl rfl rfl rfl rfl rfl rfl (zk_i fun x38 h38 p38 => ?_)
            obtain ⟨rfl, n38⟩ := p38
            have N38 := rN_t N4 n38
            obtain ⟨m39, N39, K39⟩ : ∃ m9, rN B D m9 h h38 ∧ mK (sTc s (sizeT 3)) m9 := ⟨_, N38, mK_tr2 (R := R4) K⟩
            refine zi_goto 85 dX11_ask_64 (by decide) ?_
            refine zc_virtual (n' := (0, 0)) (md' := mX11_well) 88 dX11_ask_85 tw_916 zv_X11_well zcl_X11 (s_X11_well B h38 D hD _ N39.1 _) N39.1.1 rfl rfl rfl rfl rfl rfl rfl rfl (zk_i fun x40 h40 p40 => ?_)
            obtain ⟨rfl, n40⟩ := p40
            have N40 := rN_t N39 n40
            exact zr_int hZ dX11_ask_88 rfl rfl ⟨_, rfl, _, by rw [r_ask, if_neg zzO, nI_clamp hpj31, hsP, onS_s, hk5, askV, if_pos zz0, askT, if_pos zz0], ⟨_, N40.1, mQ_F 0 K39⟩, N40.2⟩
        ·
          rw [hk5, show nI 4 = 4 from rfl]
          refine zi_istore_n (lv' := [(3, _), (0, _), (1, _), (2, _)]) 54 dX11_ask_53 rfl rfl rfl ?_
          refine zi_aload_n 55 dX11_ask_54 rfl rfl ?_
          refine zi_iload_n 56 dX11_ask_55 rfl rfl ?_
          refine zi_if_ne 59 67 dX11_ask_56 (by decide) rfl (fun zz0 => ?_) (fun zz0 => ?_)
          ·
            refine zi_iload_n 68 dX11_ask_67 rfl rfl ?_
            refine zi_iconst (v := 1) 69 dX11_ask_68 (by decide) rfl ?_
            refine zi_icmp_ne 72 80 dX11_ask_69 (by decide) rfl (fun zz1 => ?_) (fun zz1 => ?_)
            ·
              refine zi_aload_n 81 dX11_ask_80 rfl rfl ?_
              refine zi_iload_n 82 dX11_ask_81 rfl rfl ?_
              refine zc_virtual (n' := (0, 0)) (md' := mX11_mark) 85 dX11_ask_82 tw_1025 zv_X11_mark zcl_X11 (s_X11_mark4 B h3 D hD _ N4.1 0 rfl (by decide) P hVP r0) N4.1.1 rfl rfl rfl rfl rfl rfl rfl rfl (zk_i fun x41 h41 p41 => ?_)
              obtain ⟨rfl, n41⟩ := p41
              have N41 := rN_t N4 n41
              obtain ⟨m42, N42, K42⟩ : ∃ m9, rN B D m9 h h41 ∧ mK (sTc s (markT 4)) m9 := ⟨_, N41, mK_tr2 (R := R4) K⟩
              refine zc_virtual (n' := (0, 0)) (md' := mX11_well) 88 dX11_ask_85 tw_916 zv_X11_well zcl_X11 (s_X11_well B h41 D hD _ N42.1 _) N42.1.1 rfl rfl rfl rfl rfl rfl rfl rfl (zk_i fun x43 h43 p43 => ?_)
              obtain ⟨rfl, n43⟩ := p43
              have N43 := rN_t N42 n43
              exact zr_int hZ dX11_ask_88 rfl rfl ⟨_, rfl, _, by rw [r_ask, if_neg zzO, nI_clamp hpj31, hsP, onS_s, hk5, askV, if_neg zz0, if_neg zz1, askT, if_neg zz0, if_neg zz1], ⟨_, N43.1, mQ_F 0 K42⟩, N43.2⟩
            ·
              refine zi_aload_n 73 dX11_ask_72 rfl rfl ?_
              refine zi_iload_n 74 dX11_ask_73 rfl rfl ?_
              refine zc_virtual (n' := (0, 0)) (md' := mX11_share) 77 dX11_ask_74 tw_1021 zv_X11_share zcl_X11 (s_X11_share4 B h3 D hD _ N4.1 0 rfl (by decide) P hVP r0) N4.1.1 rfl rfl rfl rfl rfl rfl rfl rfl (zk_i fun x44 h44 p44 => ?_)
              obtain ⟨rfl, n44⟩ := p44
              have N44 := rN_t N4 n44
              obtain ⟨m45, N45, K45⟩ : ∃ m9, rN B D m9 h h44 ∧ mK (sTc s (shareT 4)) m9 := ⟨_, N44, mK_tr2 (R := R4) K⟩
              refine zi_goto 85 dX11_ask_77 (by decide) ?_
              refine zc_virtual (n' := (0, 0)) (md' := mX11_well) 88 dX11_ask_85 tw_916 zv_X11_well zcl_X11 (s_X11_well B h44 D hD _ N45.1 _) N45.1.1 rfl rfl rfl rfl rfl rfl rfl rfl (zk_i fun x46 h46 p46 => ?_)
              obtain ⟨rfl, n46⟩ := p46
              have N46 := rN_t N45 n46
              exact zr_int hZ dX11_ask_88 rfl rfl ⟨_, rfl, _, by rw [r_ask, if_neg zzO, nI_clamp hpj31, hsP, onS_s, hk5, askV, if_neg zz0, if_pos zz1, askT, if_neg zz0, if_pos zz1], ⟨_, N46.1, mQ_F 0 K45⟩, N46.2⟩
          ·
            refine zi_aload_n 60 dX11_ask_59 rfl rfl ?_
            refine zi_iload_n 61 dX11_ask_60 rfl rfl ?_
            refine zc_virtual (n' := (0, 0)) (md' := mX11_sizeOf) 64 dX11_ask_61 tw_1012 zv_X11_sizeOf zcl_X11 (s_X11_sizeOf4 B h3 D hD _ N4.1 0 rfl (by decide) P hVP r0) N4.1.1 rfl rfl rfl rfl rfl rfl rfl rfl (zk_i fun x47 h47 p47 => ?_)
            obtain ⟨rfl, n47⟩ := p47
            have N47 := rN_t N4 n47
            obtain ⟨m48, N48, K48⟩ : ∃ m9, rN B D m9 h h47 ∧ mK (sTc s (sizeT 4)) m9 := ⟨_, N47, mK_tr2 (R := R4) K⟩
            refine zi_goto 85 dX11_ask_64 (by decide) ?_
            refine zc_virtual (n' := (0, 0)) (md' := mX11_well) 88 dX11_ask_85 tw_916 zv_X11_well zcl_X11 (s_X11_well B h47 D hD _ N48.1 _) N48.1.1 rfl rfl rfl rfl rfl rfl rfl rfl (zk_i fun x49 h49 p49 => ?_)
            obtain ⟨rfl, n49⟩ := p49
            have N49 := rN_t N48 n49
            exact zr_int hZ dX11_ask_88 rfl rfl ⟨_, rfl, _, by rw [r_ask, if_neg zzO, nI_clamp hpj31, hsP, onS_s, hk5, askV, if_pos zz0, askT, if_pos zz0], ⟨_, N49.1, mQ_F 0 K48⟩, N49.2⟩
    ·
      have zzB := Decidable.not_not.mp (fun q => zzB (in_3.mpr q))
      refine zi_ldc 21 dX11_ask_19 tw_910 rfl ?_
      exact zr_int hZ dX11_ask_21 rfl rfl ⟨_, rfl, _, by rw [r_ask, if_pos (by first | exact Or.inl zzA | exact Or.inr (zzB))], ⟨m, N0.1, K⟩, N0.2⟩

theorem tr_in {i : Int32} {n : Nat} (hn : n ≤ 16) : zIn i.toInt64 0 (nI n - 1).toInt64 ↔ ¬ zOut i (nI n) := by
  rw [jz_nI, show (1 : Int32) = jz 1 from rfl, jz_sub, jz_l (by omega), ← jz_nI]
  exact in_o (by omega) (by rw [iz_i (by omega)])
theorem tr_no {L : List Int32} {i : Int32} (hL : L.length ≤ 16) (h : zOut i (nI L.length)) : (if i < 0 then (-1000000 : Int32) else (L[i.toNatClampNeg]?).getD (-1000000)) = -1000000 := by
  by_cases c : i < 0
  · rw [if_pos c]
  · obtain ⟨j, hj, rfl, hj2⟩ := out_n (by omega) h c
    rw [if_neg c, nI_clamp hj, List.getElem?_eq_none hj2]
    rfl

set_option maxHeartbeats 1000000 in
set_option maxRecDepth 100000 in
theorem s_X11_trace (B : zBB) (h : zHp) (D : Nat → Nat) (hD : zInj D) (s : zSt) (hs0 : okSt s) (hR : rRm B D s h) (i : Int32) : zSpec mX11_trace B (1, 0, 0) [.ref (D 0), .int i] h (zPi (fun zx h' => ∃ s' : zSt, r_trace s i = (zx, s') ∧ rRm B D s' h' ∧ rOd D h h')) := by
  refine zSpec.of (by decide) (Nat.le_of_ble_eq_true rfl) (fun X hZ => ?_)
  show zG X mX11_trace B (1, 0, 0) (0, 0) 0 [(0, .ref (D 0)), (1, .int i)] [] h
  obtain ⟨m, M, K⟩ := hR
  have N0 := rN_r M
  refine zi_iload_n 1 dX11_trace_0 rfl rfl ?_
  refine zi_i2l 2 dX11_trace_1 rfl ?_
  refine zi_lconst (v := 0) 3 dX11_trace_2 (by decide) rfl ?_
  refine zi_aload_n 4 dX11_trace_3 rfl rfl ?_
  refine zi_getfield 7 8 dX11_trace_4 zcl_X11 tw_871 rfl rfl N0.1.1 rfl rfl ?_
  rw [show wC _ = nI (qTc s).length from K.2.2.2.2.2.2.2]
  refine zi_iconst (v := 1) 8 dX11_trace_7 (by decide) rfl ?_
  refine zi_isub 9 dX11_trace_8 rfl ?_
  refine zi_i2l 10 dX11_trace_9 rfl ?_
  refine zc_static (n' := (0, 0)) (md' := mX11_in) 13 dX11_trace_10 tw_906 zs_X11_in (s_X11_in B h _ _ _) rfl rfl rfl rfl rfl rfl rfl rfl (zk_f ?_)
  refine zb_eq 16 25 dX11_trace_13 (by decide) rfl (fun zzA => ?_) (fun zzA => ?_)
  ·
    rw [tr_in hs0.2.2.2] at zzA
    refine zi_ldc 27 dX11_trace_25 tw_1034 rfl ?_
    exact zr_int hZ dX11_trace_27 rfl rfl ⟨_, rfl, _, by rw [r_trace]; first | rw [tr_no hs0.2.2.2 (Decidable.not_not.mp zzA)] | rw [if_neg (nI_pos hj31), nI_clamp hj31, hv, Option.getD_some], ⟨m, N0.1, K⟩, N0.2⟩
  ·
    rw [tr_in hs0.2.2.2] at zzA
    obtain ⟨j, hj, hj31, rfl⟩ := out_i (N := (qTc s).length) (by have := hs0.2.2.2; omega) zzA
    have h16 := hs0.2.2.2
    obtain ⟨v, hv⟩ : ∃ v, (qTc s)[j]? = some v := ⟨_, List.getElem?_eq_getElem hj⟩
    refine zi_aload_n 17 dX11_trace_16 rfl rfl ?_
    refine zi_getfield 20 7 dX11_trace_17 zcl_X11 tw_870 rfl rfl N0.1.1 rfl rfl ?_
    refine zi_iload_n 21 dX11_trace_20 rfl rfl ?_
    refine zi_iaload 22 dX11_trace_21 N0.1.2.2.2.2.2.2.2.1 (vp_in_nI (show j < 16 by omega) (by decide)) rfl ?_
    rw [nI_clamp (Nat.lt_trans (show j < 16 by omega) (by decide))]
    rw [show wT _ j = v from K.2.2.2.2.2.2.1 j v hv]
    refine zi_goto 27 dX11_trace_22 (by decide) ?_
    exact zr_int hZ dX11_trace_27 rfl rfl ⟨_, rfl, _, by rw [r_trace]; first | rw [tr_no hs0.2.2.2 (Decidable.not_not.mp zzA)] | rw [if_neg (nI_pos hj31), nI_clamp hj31, hv, Option.getD_some], ⟨m, N0.1, K⟩, N0.2⟩
