/-! the answers, and the state behind: what both sides give -/
def onS {α : Type} (o : Option i4) (n : α) (g : i4 → α) : α := match o with | none => n | some P => g P
theorem onS_n {α : Type} (n : α) (g : i4 → α) : onS none n g = n := rfl
theorem onS_s {α : Type} (P : i4) (n : α) (g : i4 → α) : onS (some P) n g = g P := rfl
theorem out_i {i : Int32} {N : Nat} (hN : N < 2 ^ 31) (h : ¬ zOut i (nI N)) : ∃ j, j < N ∧ j < 2 ^ 31 ∧ i = nI j := by
  obtain ⟨j, hj, rfl⟩ := nI_of (fun q => h (Or.inl q))
  refine ⟨j, ?_, hj, rfl⟩
  have h2 : nI j < nI N := Decidable.not_not.mp (fun q => h (Or.inr q))
  rwa [nI_ltI hj hN] at h2
noncomputable def r_norm (s : zSt) (i : Int32) : Int32 × zSt := if zOut i 20 then (-1000001, s) else onS (qSl s i.toNatClampNeg) (-1000010 - 1, sFd s 1) fun P => (nI (nN P), sFd s 0)
noncomputable def r_kind (s : zSt) (i : Int32) : Int32 × zSt := if zOut i 20 then (-1000001, s) else onS (qSl s i.toNatClampNeg) (-1000010 - 1, sFd s 1) fun P => (nI (kindI P), sFd s 0)
noncomputable def r_clear (s : zSt) (i : Int32) : Int32 × zSt := if zOut i 20 then (-1000001, s) else (onS (qSl s i.toNatClampNeg) 0 (fun _ => 1), sSl s i.toNatClampNeg none)
noncomputable def r_number (s : zSt) (i k : Int32) : Int64 × zSt := if zOut i 20 ∨ zOut k 4 then (-1000001, s) else onS (qSl s i.toNatClampNeg) ((-1000010 - 1 : Int32).toInt64, sFd s 1) fun P => (zAt (z4i P) k, sFd s 0)
noncomputable def r_is (s : zSt) (i k : Int32) : Int32 × zSt := if zOut i 20 ∨ zOut k 5 then (-1000001, s) else onS (qSl s i.toNatClampNeg) (-1000010 - 1, sFd s 1) fun P => (if zIsToo (nI (kindI P)) k then 1 else 0, sFd s 0)
noncomputable def r_as (s : zSt) (i k : Int32) : Int32 × zSt := if zOut i 20 ∨ zOut k 5 then (-1000001, s) else onS (qSl s i.toNatClampNeg) (-1000010 - 1, sFd s 1) fun P => if zIsToo (nI (kindI P)) k then (nI (nN P), sFd s 0) else (-1000010 - 3, sFd s 3)
def r_status (s : zSt) : Int32 × zSt := (qFd s, s)
def r_trace (s : zSt) (i : Int32) : Int32 × zSt := (if i < 0 then -1000000 else ((qTc s)[i.toNatClampNeg]?).getD (-1000000), s)

set_option maxHeartbeats 4000000 in
set_option maxRecDepth 100000 in
theorem s_X10_norm (B : zBB) (h : zHp) (A : Nat → Nat) (hA : zInj A) (s : zSt) (hs0 : okSt s) (hR : zRc B A s h) (i : Int32) : zSpec mX10_norm B (2, 0, 0) [.ref (A 0), .int i] h (zPi (fun x h' => ∃ s' : zSt, r_norm s i = (x, s') ∧ zRc B A s' h' ∧ zOu A h h')) := by
  refine zSpec.of (by decide) (Nat.le_of_ble_eq_true rfl) (fun X hZ => ?_)
  show zG X mX10_norm B (2, 0, 0) (0, 0) 0 [(0, .ref (A 0)), (1, .int i)] [] h
  refine zi_iload_n 1 dX10_norm_0 rfl rfl ?_
  refine zi_bipush (v := 20) 3 dX10_norm_1 (by decide) rfl ?_
  refine zc_static (n' := (0, 0)) (md' := mX10_outside) 6 dX10_norm_3 tw_354 zs_X10_outside (s_X10_outside B h _ _) rfl rfl rfl rfl rfl rfl rfl rfl (zk_f ?_)
  refine zb_eq 9 12 dX10_norm_6 (by decide) rfl (fun zzO => ?_) (fun zzO => ?_)
  ·
    obtain ⟨j, hj, hj31, rfl⟩ := out_i (N := 20) (by decide) zzO
    refine zi_aload_n 13 dX10_norm_12 rfl rfl ?_
    refine zi_iload_n 14 dX10_norm_13 rfl rfl ?_
    rcases hs : qSl s j with _ | P
    ·
      have hN := hs
      refine zc_virtual (n' := (0, 0)) (md' := mX10_held) 17 dX10_norm_14 tw_485 zv_X10_held zcl_X10 (s_X10_heldN B h A hA s hR j hj hs) hR.1 rfl rfl rfl rfl rfl rfl rfl rfl (zk_f ?_)
      refine zi_astore_nN (lv' := [(2, _), (0, _), (1, _)]) 18 dX10_norm_17 rfl rfl rfl ?_
      refine zi_aload_nN 19 dX10_norm_18 rfl rfl ?_
      refine zi_ifnonnullN 22 dX10_norm_19 rfl ?_
      refine zi_aload_n 23 dX10_norm_22 rfl rfl ?_
      refine zi_iconst (v := 1) 24 dX10_norm_23 (by decide) rfl ?_
      refine zc_virtual (n' := (0, 0)) (md' := mX10_found) 27 dX10_norm_24 tw_358 zv_X10_found zcl_X10 (s_X10_found B h A hA s hR 1) hR.1 rfl rfl rfl rfl rfl rfl rfl rfl (zk_i fun x1 h1 hp1 => ?_)
      obtain ⟨rfl, R1, U1⟩ := hp1
      exact zr_int hZ dX10_norm_27 rfl rfl ⟨_, rfl, _, by rw [r_norm, if_neg zzO, nI_clamp hj31, hs, onS_n], R1, U1⟩
    ·
      have hV := hs0.1 j P hs
      obtain ⟨v, hv, hvz⟩ := hR.2.2.2.1 j hj
      rw [hvz P hs] at hv
      refine zc_virtual (n' := (0, 0)) (md' := mX10_held) 17 dX10_norm_14 tw_485 zv_X10_held zcl_X10 (s_X10_heldS B h A hA s hR j hj P hs) hR.1 rfl rfl rfl rfl rfl rfl rfl rfl (zk_f ?_)
      refine zi_astore_n (lv' := [(2, _), (0, _), (1, _)]) 18 dX10_norm_17 rfl rfl rfl ?_
      refine zi_aload_n 19 dX10_norm_18 rfl rfl ?_
      refine zi_ifnonnull 28 dX10_norm_19 (by decide) ?_
      refine zi_aload_n 29 dX10_norm_28 rfl rfl ?_
      refine zi_aload_n 30 dX10_norm_29 rfl rfl ?_
      refine zc_virtual (n' := (0, 0)) (md' := mX4_ownNorm) 33 dX10_norm_30 tw_455 zv_X4_ownNorm zcl_X4 (s_X4_ownNorm B h (A (38 + j)) _ hv) hv rfl rfl rfl rfl rfl rfl rfl rfl (zk_f ?_)
      rw [nN_z hV]
      refine zi_l2i 34 dX10_norm_33 rfl ?_
      rw [lN_i]
      refine zc_virtual (n' := (0, 0)) (md' := mX10_answered) 37 dX10_norm_34 tw_367 zv_X10_answered zcl_X10 (s_X10_answered B h A hA s hR _) hR.1 rfl rfl rfl rfl rfl rfl rfl rfl (zk_i fun x1 h1 hp1 => ?_)
      obtain ⟨rfl, R1, U1⟩ := hp1
      exact zr_int hZ dX10_norm_37 rfl rfl ⟨_, rfl, _, by rw [r_norm, if_neg zzO, nI_clamp hj31, hs, onS_s], R1, U1⟩
  ·
    refine zi_ldc 11 dX10_norm_9 tw_357 rfl ?_
    exact zr_int hZ dX10_norm_11 rfl rfl ⟨_, rfl, _, by rw [r_norm, if_pos zzO], hR, zOu_r _ _⟩

set_option maxHeartbeats 4000000 in
set_option maxRecDepth 100000 in
theorem s_X10_kind (B : zBB) (h : zHp) (A : Nat → Nat) (hA : zInj A) (s : zSt) (hs0 : okSt s) (hR : zRc B A s h) (i : Int32) : zSpec mX10_kind B (2, 0, 0) [.ref (A 0), .int i] h (zPi (fun x h' => ∃ s' : zSt, r_kind s i = (x, s') ∧ zRc B A s' h' ∧ zOu A h h')) := by
  refine zSpec.of (by decide) (Nat.le_of_ble_eq_true rfl) (fun X hZ => ?_)
  show zG X mX10_kind B (2, 0, 0) (0, 0) 0 [(0, .ref (A 0)), (1, .int i)] [] h
  refine zi_iload_n 1 dX10_kind_0 rfl rfl ?_
  refine zi_bipush (v := 20) 3 dX10_kind_1 (by decide) rfl ?_
  refine zc_static (n' := (0, 0)) (md' := mX10_outside) 6 dX10_kind_3 tw_354 zs_X10_outside (s_X10_outside B h _ _) rfl rfl rfl rfl rfl rfl rfl rfl (zk_f ?_)
  refine zb_eq 9 12 dX10_kind_6 (by decide) rfl (fun zzO => ?_) (fun zzO => ?_)
  ·
    obtain ⟨j, hj, hj31, rfl⟩ := out_i (N := 20) (by decide) zzO
    refine zi_aload_n 13 dX10_kind_12 rfl rfl ?_
    refine zi_iload_n 14 dX10_kind_13 rfl rfl ?_
    rcases hs : qSl s j with _ | P
    ·
      have hN := hs
      refine zc_virtual (n' := (0, 0)) (md' := mX10_held) 17 dX10_kind_14 tw_485 zv_X10_held zcl_X10 (s_X10_heldN B h A hA s hR j hj hs) hR.1 rfl rfl rfl rfl rfl rfl rfl rfl (zk_f ?_)
      refine zi_ifnonnullN 20 dX10_kind_17 rfl ?_
      refine zi_aload_n 21 dX10_kind_20 rfl rfl ?_
      refine zi_iconst (v := 1) 22 dX10_kind_21 (by decide) rfl ?_
      refine zc_virtual (n' := (0, 0)) (md' := mX10_found) 25 dX10_kind_22 tw_358 zv_X10_found zcl_X10 (s_X10_found B h A hA s hR 1) hR.1 rfl rfl rfl rfl rfl rfl rfl rfl (zk_i fun x1 h1 hp1 => ?_)
      obtain ⟨rfl, R1, U1⟩ := hp1
      exact zr_int hZ dX10_kind_25 rfl rfl ⟨_, rfl, _, by rw [r_kind, if_neg zzO, nI_clamp hj31, hs, onS_n], R1, U1⟩
    ·
      have hV := hs0.1 j P hs
      obtain ⟨v, hv, hvz⟩ := hR.2.2.2.1 j hj
      rw [hvz P hs] at hv
      refine zc_virtual (n' := (0, 0)) (md' := mX10_held) 17 dX10_kind_14 tw_485 zv_X10_held zcl_X10 (s_X10_heldS B h A hA s hR j hj P hs) hR.1 rfl rfl rfl rfl rfl rfl rfl rfl (zk_f ?_)
      refine zi_ifnonnull 26 dX10_kind_17 (by decide) ?_
      obtain ⟨fk, hk, hfk⟩ := hR.2.2.1
      refine zi_aload_n 27 dX10_kind_26 rfl rfl ?_
      refine zi_aload_n 28 dX10_kind_27 rfl rfl ?_
      refine zi_getfield 31 2 dX10_kind_28 zcl_X10 tw_312 rfl rfl hR.1 rfl rfl ?_
      refine zi_iload_n 32 dX10_kind_31 rfl rfl ?_
      refine zi_iaload 33 dX10_kind_32 hk (vp_in_nI hj (by decide)) rfl ?_
      rw [nI_clamp (by omega), hfk j hj, hs, show kdI (some P) = nI (kindI P) from rfl]
      refine zc_virtual (n' := (0, 0)) (md' := mX10_answered) 36 dX10_kind_33 tw_367 zv_X10_answered zcl_X10 (s_X10_answered B h A hA s hR _) hR.1 rfl rfl rfl rfl rfl rfl rfl rfl (zk_i fun x1 h1 hp1 => ?_)
      obtain ⟨rfl, R1, U1⟩ := hp1
      exact zr_int hZ dX10_kind_36 rfl rfl ⟨_, rfl, _, by rw [r_kind, if_neg zzO, nI_clamp hj31, hs, onS_s], R1, U1⟩
  ·
    refine zi_ldc 11 dX10_kind_9 tw_357 rfl ?_
    exact zr_int hZ dX10_kind_11 rfl rfl ⟨_, rfl, _, by rw [r_kind, if_pos zzO], hR, zOu_r _ _⟩

set_option maxHeartbeats 4000000 in
set_option maxRecDepth 100000 in
theorem s_X10_is (B : zBB) (h : zHp) (A : Nat → Nat) (hA : zInj A) (s : zSt) (hs0 : okSt s) (hR : zRc B A s h) (i k : Int32) : zSpec mX10_is B (2, 0, 0) [.ref (A 0), .int i, .int k] h (zPi (fun x h' => ∃ s' : zSt, r_is s i k = (x, s') ∧ zRc B A s' h' ∧ zOu A h h')) := by
  refine zSpec.of (by decide) (Nat.le_of_ble_eq_true rfl) (fun X hZ => ?_)
  show zG X mX10_is B (2, 0, 0) (0, 0) 0 [(0, .ref (A 0)), (1, .int i), (2, .int k)] [] h
  refine zi_iload_n 1 dX10_is_0 rfl rfl ?_
  refine zi_bipush (v := 20) 3 dX10_is_1 (by decide) rfl ?_
  refine zc_static (n' := (0, 0)) (md' := mX10_outside) 6 dX10_is_3 tw_354 zs_X10_outside (s_X10_outside B h _ _) rfl rfl rfl rfl rfl rfl rfl rfl (zk_f ?_)
  refine zb_ne 9 17 dX10_is_6 (by decide) rfl (fun zzA => ?_) (fun zzA => ?_)
  ·
    refine zi_ldc 19 dX10_is_17 tw_357 rfl ?_
    exact zr_int hZ dX10_is_19 rfl rfl ⟨_, rfl, _, by rw [r_is, if_pos (by first | exact Or.inl zzA | exact Or.inr zzB)], hR, zOu_r _ _⟩
  ·
    refine zi_iload_n 10 dX10_is_9 rfl rfl ?_
    refine zi_iconst (v := 5) 11 dX10_is_10 (by decide) rfl ?_
    refine zc_static (n' := (0, 0)) (md' := mX10_outside) 14 dX10_is_11 tw_354 zs_X10_outside (s_X10_outside B h _ _) rfl rfl rfl rfl rfl rfl rfl rfl (zk_f ?_)
    refine zb_eq 17 20 dX10_is_14 (by decide) rfl (fun zzB => ?_) (fun zzB => ?_)
    ·
      have zzO : ¬ (zOut i 20 ∨ zOut k 5) := fun q => q.elim zzA zzB
      obtain ⟨j, hj, hj31, rfl⟩ := out_i (N := 20) (by decide) zzA
      refine zi_aload_n 21 dX10_is_20 rfl rfl ?_
      refine zi_iload_n 22 dX10_is_21 rfl rfl ?_
      rcases hs : qSl s j with _ | P
      ·
        have hN := hs
        refine zc_virtual (n' := (0, 0)) (md' := mX10_held) 25 dX10_is_22 tw_485 zv_X10_held zcl_X10 (s_X10_heldN B h A hA s hR j hj hs) hR.1 rfl rfl rfl rfl rfl rfl rfl rfl (zk_f ?_)
        refine zi_ifnonnullN 28 dX10_is_25 rfl ?_
        refine zi_aload_n 29 dX10_is_28 rfl rfl ?_
        refine zi_iconst (v := 1) 30 dX10_is_29 (by decide) rfl ?_
        refine zc_virtual (n' := (0, 0)) (md' := mX10_found) 33 dX10_is_30 tw_358 zv_X10_found zcl_X10 (s_X10_found B h A hA s hR 1) hR.1 rfl rfl rfl rfl rfl rfl rfl rfl (zk_i fun x1 h1 hp1 => ?_)
        obtain ⟨rfl, R1, U1⟩ := hp1
        exact zr_int hZ dX10_is_33 rfl rfl ⟨_, rfl, _, by rw [r_is, if_neg zzO, nI_clamp hj31, hs, onS_n], R1, U1⟩
      ·
        have hV := hs0.1 j P hs
        obtain ⟨v, hv, hvz⟩ := hR.2.2.2.1 j hj
        rw [hvz P hs] at hv
        refine zc_virtual (n' := (0, 0)) (md' := mX10_held) 25 dX10_is_22 tw_485 zv_X10_held zcl_X10 (s_X10_heldS B h A hA s hR j hj P hs) hR.1 rfl rfl rfl rfl rfl rfl rfl rfl (zk_f ?_)
        refine zi_ifnonnull 34 dX10_is_25 (by decide) ?_
        obtain ⟨fk, hk, hfk⟩ := hR.2.2.1
        refine zi_aload_n 35 dX10_is_34 rfl rfl ?_
        refine zi_aload_n 36 dX10_is_35 rfl rfl ?_
        refine zi_getfield 39 2 dX10_is_36 zcl_X10 tw_312 rfl rfl hR.1 rfl rfl ?_
        refine zi_iload_n 40 dX10_is_39 rfl rfl ?_
        refine zi_iaload 41 dX10_is_40 hk (vp_in_nI hj (by decide)) rfl ?_
        rw [nI_clamp (by omega), hfk j hj, hs, show kdI (some P) = nI (kindI P) from rfl]
        refine zi_iload_n 42 dX10_is_41 rfl rfl ?_
        refine zc_static (n' := (0, 0)) (md' := mX10_isToo) 45 dX10_is_42 tw_505 zs_X10_isToo (s_X10_isToo B h _ _) rfl rfl rfl rfl rfl rfl rfl rfl (zk_f ?_)
        refine zb_eq 48 52 dX10_is_45 (by decide) rfl (fun zzT => ?_) (fun zzT => ?_)
        ·
          refine zi_iconst (v := 0) 53 dX10_is_52 (by decide) rfl ?_
          refine zc_virtual (n' := (0, 0)) (md' := mX10_answered) 56 dX10_is_53 tw_367 zv_X10_answered zcl_X10 (s_X10_answered B h A hA s hR _) hR.1 rfl rfl rfl rfl rfl rfl rfl rfl (zk_i fun x1 h1 hp1 => ?_)
          obtain ⟨rfl, R1, U1⟩ := hp1
          exact zr_int hZ dX10_is_56 rfl rfl ⟨_, rfl, _, by rw [r_is, if_neg zzO, nI_clamp hj31, hs, onS_s]; first | rw [if_pos zzT] | rw [if_neg zzT], R1, U1⟩
        ·
          refine zi_iconst (v := 1) 49 dX10_is_48 (by decide) rfl ?_
          refine zi_goto 53 dX10_is_49 (by decide) ?_
          refine zc_virtual (n' := (0, 0)) (md' := mX10_answered) 56 dX10_is_53 tw_367 zv_X10_answered zcl_X10 (s_X10_answered B h A hA s hR _) hR.1 rfl rfl rfl rfl rfl rfl rfl rfl (zk_i fun x1 h1 hp1 => ?_)
          obtain ⟨rfl, R1, U1⟩ := hp1
          exact zr_int hZ dX10_is_56 rfl rfl ⟨_, rfl, _, by rw [r_is, if_neg zzO, nI_clamp hj31, hs, onS_s]; first | rw [if_pos zzT] | rw [if_neg zzT], R1, U1⟩
    ·
      refine zi_ldc 19 dX10_is_17 tw_357 rfl ?_
      exact zr_int hZ dX10_is_19 rfl rfl ⟨_, rfl, _, by rw [r_is, if_pos (by first | exact Or.inl zzA | exact Or.inr zzB)], hR, zOu_r _ _⟩

set_option maxHeartbeats 4000000 in
set_option maxRecDepth 100000 in
theorem s_X10_as (B : zBB) (h : zHp) (A : Nat → Nat) (hA : zInj A) (s : zSt) (hs0 : okSt s) (hR : zRc B A s h) (i k : Int32) : zSpec mX10_as B (2, 0, 0) [.ref (A 0), .int i, .int k] h (zPi (fun x h' => ∃ s' : zSt, r_as s i k = (x, s') ∧ zRc B A s' h' ∧ zOu A h h')) := by
  refine zSpec.of (by decide) (Nat.le_of_ble_eq_true rfl) (fun X hZ => ?_)
  show zG X mX10_as B (2, 0, 0) (0, 0) 0 [(0, .ref (A 0)), (1, .int i), (2, .int k)] [] h
  refine zi_iload_n 1 dX10_as_0 rfl rfl ?_
  refine zi_bipush (v := 20) 3 dX10_as_1 (by decide) rfl ?_
  refine zc_static (n' := (0, 0)) (md' := mX10_outside) 6 dX10_as_3 tw_354 zs_X10_outside (s_X10_outside B h _ _) rfl rfl rfl rfl rfl rfl rfl rfl (zk_f ?_)
  refine zb_ne 9 17 dX10_as_6 (by decide) rfl (fun zzA => ?_) (fun zzA => ?_)
  ·
    refine zi_ldc 19 dX10_as_17 tw_357 rfl ?_
    exact zr_int hZ dX10_as_19 rfl rfl ⟨_, rfl, _, by rw [r_as, if_pos (by first | exact Or.inl zzA | exact Or.inr zzB)], hR, zOu_r _ _⟩
  ·
    refine zi_iload_n 10 dX10_as_9 rfl rfl ?_
    refine zi_iconst (v := 5) 11 dX10_as_10 (by decide) rfl ?_
    refine zc_static (n' := (0, 0)) (md' := mX10_outside) 14 dX10_as_11 tw_354 zs_X10_outside (s_X10_outside B h _ _) rfl rfl rfl rfl rfl rfl rfl rfl (zk_f ?_)
    refine zb_eq 17 20 dX10_as_14 (by decide) rfl (fun zzB => ?_) (fun zzB => ?_)
    ·
      have zzO : ¬ (zOut i 20 ∨ zOut k 5) := fun q => q.elim zzA zzB
      obtain ⟨j, hj, hj31, rfl⟩ := out_i (N := 20) (by decide) zzA
      refine zi_aload_n 21 dX10_as_20 rfl rfl ?_
      refine zi_iload_n 22 dX10_as_21 rfl rfl ?_
      rcases hs : qSl s j with _ | P
      ·
        have hN := hs
        refine zc_virtual (n' := (0, 0)) (md' := mX10_held) 25 dX10_as_22 tw_485 zv_X10_held zcl_X10 (s_X10_heldN B h A hA s hR j hj hs) hR.1 rfl rfl rfl rfl rfl rfl rfl rfl (zk_f ?_)
        refine zi_astore_nN (lv' := [(3, _), (0, _), (1, _), (2, _)]) 26 dX10_as_25 rfl rfl rfl ?_
        refine zi_aload_nN 27 dX10_as_26 rfl rfl ?_
        refine zi_ifnonnullN 30 dX10_as_27 rfl ?_
        refine zi_aload_n 31 dX10_as_30 rfl rfl ?_
        refine zi_iconst (v := 1) 32 dX10_as_31 (by decide) rfl ?_
        refine zc_virtual (n' := (0, 0)) (md' := mX10_found) 35 dX10_as_32 tw_358 zv_X10_found zcl_X10 (s_X10_found B h A hA s hR 1) hR.1 rfl rfl rfl rfl rfl rfl rfl rfl (zk_i fun x1 h1 hp1 => ?_)
        obtain ⟨rfl, R1, U1⟩ := hp1
        exact zr_int hZ dX10_as_35 rfl rfl ⟨_, rfl, _, by rw [r_as, if_neg zzO, nI_clamp hj31, hs, onS_n], R1, U1⟩
      ·
        have hV := hs0.1 j P hs
        obtain ⟨v, hv, hvz⟩ := hR.2.2.2.1 j hj
        rw [hvz P hs] at hv
        refine zc_virtual (n' := (0, 0)) (md' := mX10_held) 25 dX10_as_22 tw_485 zv_X10_held zcl_X10 (s_X10_heldS B h A hA s hR j hj P hs) hR.1 rfl rfl rfl rfl rfl rfl rfl rfl (zk_f ?_)
        refine zi_astore_n (lv' := [(3, _), (0, _), (1, _), (2, _)]) 26 dX10_as_25 rfl rfl rfl ?_
        refine zi_aload_n 27 dX10_as_26 rfl rfl ?_
        refine zi_ifnonnull 36 dX10_as_27 (by decide) ?_
        obtain ⟨fk, hk, hfk⟩ := hR.2.2.1
        refine zi_aload_n 37 dX10_as_36 rfl rfl ?_
        refine zi_getfield 40 2 dX10_as_37 zcl_X10 tw_312 rfl rfl hR.1 rfl rfl ?_
        refine zi_iload_n 41 dX10_as_40 rfl rfl ?_
        refine zi_iaload 42 dX10_as_41 hk (vp_in_nI hj (by decide)) rfl ?_
        rw [nI_clamp (by omega), hfk j hj, hs, show kdI (some P) = nI (kindI P) from rfl]
        refine zi_iload_n 43 dX10_as_42 rfl rfl ?_
        refine zc_static (n' := (0, 0)) (md' := mX10_isToo) 46 dX10_as_43 tw_505 zs_X10_isToo (s_X10_isToo B h _ _) rfl rfl rfl rfl rfl rfl rfl rfl (zk_f ?_)
        refine zb_ne 49 55 dX10_as_46 (by decide) rfl (fun zzT => ?_) (fun zzT => ?_)
        ·
          refine zi_aload_n 56 dX10_as_55 rfl rfl ?_
          refine zi_aload_n 57 dX10_as_56 rfl rfl ?_
          refine zc_virtual (n' := (0, 0)) (md' := mX4_ownNorm) 60 dX10_as_57 tw_455 zv_X4_ownNorm zcl_X4 (s_X4_ownNorm B h (A (38 + j)) _ hv) hv rfl rfl rfl rfl rfl rfl rfl rfl (zk_f ?_)
          rw [nN_z hV]
          refine zi_l2i 61 dX10_as_60 rfl ?_
          rw [lN_i]
          refine zc_virtual (n' := (0, 0)) (md' := mX10_answered) 64 dX10_as_61 tw_367 zv_X10_answered zcl_X10 (s_X10_answered B h A hA s hR _) hR.1 rfl rfl rfl rfl rfl rfl rfl rfl (zk_i fun x1 h1 hp1 => ?_)
          obtain ⟨rfl, R1, U1⟩ := hp1
          exact zr_int hZ dX10_as_64 rfl rfl ⟨_, rfl, _, by rw [r_as, if_neg zzO, nI_clamp hj31, hs, onS_s, if_pos zzT], R1, U1⟩
        ·
          refine zi_aload_n 50 dX10_as_49 rfl rfl ?_
          refine zi_iconst (v := 3) 51 dX10_as_50 (by decide) rfl ?_
          refine zc_virtual (n' := (0, 0)) (md' := mX10_found) 54 dX10_as_51 tw_358 zv_X10_found zcl_X10 (s_X10_found B h A hA s hR 3) hR.1 rfl rfl rfl rfl rfl rfl rfl rfl (zk_i fun x1 h1 hp1 => ?_)
          obtain ⟨rfl, R1, U1⟩ := hp1
          exact zr_int hZ dX10_as_54 rfl rfl ⟨_, rfl, _, by rw [r_as, if_neg zzO, nI_clamp hj31, hs, onS_s, if_neg zzT], R1, U1⟩
    ·
      refine zi_ldc 19 dX10_as_17 tw_357 rfl ?_
      exact zr_int hZ dX10_as_19 rfl rfl ⟨_, rfl, _, by rw [r_as, if_pos (by first | exact Or.inl zzA | exact Or.inr zzB)], hR, zOu_r _ _⟩

set_option maxHeartbeats 4000000 in
set_option maxRecDepth 100000 in
theorem s_X10_number (B : zBB) (h : zHp) (A : Nat → Nat) (hA : zInj A) (s : zSt) (hs0 : okSt s) (hR : zRc B A s h) (i k : Int32) : zSpec mX10_number B (2, 0, 0) [.ref (A 0), .int i, .int k] h (zPl (fun x h' => ∃ s' : zSt, r_number s i k = (x, s') ∧ zRc B A s' h' ∧ zOu A h h')) := by
  refine zSpec.of (by decide) (Nat.le_of_ble_eq_true rfl) (fun X hZ => ?_)
  show zG X mX10_number B (2, 0, 0) (0, 0) 0 [(0, .ref (A 0)), (1, .int i), (2, .int k)] [] h
  refine zi_iload_n 1 dX10_number_0 rfl rfl ?_
  refine zi_bipush (v := 20) 3 dX10_number_1 (by decide) rfl ?_
  refine zc_static (n' := (0, 0)) (md' := mX10_outside) 6 dX10_number_3 tw_354 zs_X10_outside (s_X10_outside B h _ _) rfl rfl rfl rfl rfl rfl rfl rfl (zk_f ?_)
  refine zb_ne 9 17 dX10_number_6 (by decide) rfl (fun zzA => ?_) (fun zzA => ?_)
  ·
    refine zi_ldc2 20 dX10_number_17 tw_375 rfl ?_
    exact zr_long hZ dX10_number_20 rfl ⟨_, rfl, _, by rw [r_number, if_pos (by first | exact Or.inl zzA | exact Or.inr zzB)], hR, zOu_r _ _⟩
  ·
    refine zi_iload_n 10 dX10_number_9 rfl rfl ?_
    refine zi_iconst (v := 4) 11 dX10_number_10 (by decide) rfl ?_
    refine zc_static (n' := (0, 0)) (md' := mX10_outside) 14 dX10_number_11 tw_354 zs_X10_outside (s_X10_outside B h _ _) rfl rfl rfl rfl rfl rfl rfl rfl (zk_f ?_)
    refine zb_eq 17 21 dX10_number_14 (by decide) rfl (fun zzB => ?_) (fun zzB => ?_)
    ·
      have zzO : ¬ (zOut i 20 ∨ zOut k 4) := fun q => q.elim zzA zzB
      obtain ⟨j, hj, hj31, rfl⟩ := out_i (N := 20) (by decide) zzA
      refine zi_aload_n 22 dX10_number_21 rfl rfl ?_
      refine zi_iload_n 23 dX10_number_22 rfl rfl ?_
      rcases hs : qSl s j with _ | P
      ·
        have hN := hs
        refine zc_virtual (n' := (0, 0)) (md' := mX10_held) 26 dX10_number_23 tw_485 zv_X10_held zcl_X10 (s_X10_heldN B h A hA s hR j hj hs) hR.1 rfl rfl rfl rfl rfl rfl rfl rfl (zk_f ?_)
        refine zi_astore_nN (lv' := [(3, _), (0, _), (1, _), (2, _)]) 27 dX10_number_26 rfl rfl rfl ?_
        refine zi_aload_nN 28 dX10_number_27 rfl rfl ?_
        refine zi_ifnonnullN 31 dX10_number_28 rfl ?_
        refine zi_aload_n 32 dX10_number_31 rfl rfl ?_
        refine zi_iconst (v := 1) 33 dX10_number_32 (by decide) rfl ?_
        refine zc_virtual (n' := (0, 0)) (md' := mX10_found) 36 dX10_number_33 tw_358 zv_X10_found zcl_X10 (s_X10_found B h A hA s hR 1) hR.1 rfl rfl rfl rfl rfl rfl rfl rfl (zk_i fun x1 h1 hp1 => ?_)
        obtain ⟨rfl, R1, U1⟩ := hp1
        refine zi_i2l 37 dX10_number_36 rfl ?_
        exact zr_long hZ dX10_number_37 rfl ⟨_, rfl, _, by rw [r_number, if_neg zzO, nI_clamp hj31, hs, onS_n], R1, U1⟩
      ·
        have hV := hs0.1 j P hs
        obtain ⟨v, hv, hvz⟩ := hR.2.2.2.1 j hj
        rw [hvz P hs] at hv
        refine zc_virtual (n' := (0, 0)) (md' := mX10_held) 26 dX10_number_23 tw_485 zv_X10_held zcl_X10 (s_X10_heldS B h A hA s hR j hj P hs) hR.1 rfl rfl rfl rfl rfl rfl rfl rfl (zk_f ?_)
        refine zi_astore_n (lv' := [(3, _), (0, _), (1, _), (2, _)]) 27 dX10_number_26 rfl rfl rfl ?_
        refine zi_aload_n 28 dX10_number_27 rfl rfl ?_
        refine zi_ifnonnull 38 dX10_number_28 (by decide) ?_
        refine zi_aload_n 39 dX10_number_38 rfl rfl ?_
        refine zi_iconst (v := 0) 40 dX10_number_39 (by decide) rfl ?_
        refine zi_putfield (fs' := [_, _, _, _, _, _, _, _, _, _, _, _, _]) 43 12 dX10_number_40 zcl_X10 tyX10 tyX10_ok nmX10 tw_322 rfl rfl rfl hR.1 rfl rfl rfl rfl rfl rfl ?_
        refine zk_h (fun h1 k1 => ?_)
        have hv1 := zX1 k1 (hA.ne (i := 38 + j) (by omega)) hv
        refine zi_aload_n 44 dX10_number_43 rfl rfl ?_
        refine zi_iload_n 45 dX10_number_44 rfl rfl ?_
        refine zc_virtual (n' := (0, 0)) (md' := mX4_numberAt) 48 dX10_number_45 tw_489 zv_X4_numberAt zcl_X4 (s_X4_numberAt B h1 (A (38 + j)) _ hv1 k) hv1 rfl rfl rfl rfl rfl rfl rfl rfl (zk_f ?_)
        exact zr_long hZ dX10_number_48 rfl ⟨_, rfl, _, by rw [r_number, if_neg zzO, nI_clamp hj31, hs, onS_s], by rw [k1]; exact zRc_fd hA 0 hR, zOu_u k1 (by decide)⟩
    ·
      refine zi_ldc2 20 dX10_number_17 tw_375 rfl ?_
      exact zr_long hZ dX10_number_20 rfl ⟨_, rfl, _, by rw [r_number, if_pos (by first | exact Or.inl zzA | exact Or.inr zzB)], hR, zOu_r _ _⟩

set_option maxHeartbeats 4000000 in
set_option maxRecDepth 100000 in
theorem s_X10_status (B : zBB) (h : zHp) (A : Nat → Nat) (s : zSt) (hR : zRc B A s h) : zSpec mX10_status B (0, 0, 0) [.ref (A 0)] h (zPi (fun x h' => ∃ s' : zSt, r_status s = (x, s') ∧ zRc B A s' h' ∧ zOu A h h')) := by
  refine zSpec.of (by decide) (Nat.le_of_ble_eq_true rfl) (fun X hZ => ?_)
  show zG X mX10_status B (0, 0, 0) (0, 0) 0 [(0, .ref (A 0))] [] h
  refine zi_aload_n 1 dX10_status_0 rfl rfl ?_
  refine zi_getfield 4 12 dX10_status_1 zcl_X10 tw_322 rfl rfl hR.1 rfl rfl ?_
  exact zr_int hZ dX10_status_4 rfl rfl ⟨_, rfl, _, rfl, hR, zOu_r _ _⟩

set_option maxHeartbeats 4000000 in
set_option maxRecDepth 100000 in
theorem s_X10_trace (B : zBB) (h : zHp) (A : Nat → Nat) (hA : zInj A) (s : zSt) (hs0 : okSt s) (hR : zRc B A s h) (i : Int32) : zSpec mX10_trace B (1, 0, 0) [.ref (A 0), .int i] h (zPi (fun x h' => ∃ s' : zSt, r_trace s i = (x, s') ∧ zRc B A s' h' ∧ zOu A h h')) := by
  refine zSpec.of (by decide) (Nat.le_of_ble_eq_true rfl) (fun X hZ => ?_)
  show zG X mX10_trace B (1, 0, 0) (0, 0) 0 [(0, .ref (A 0)), (1, .int i)] [] h
  refine zi_aload_n 1 dX10_trace_0 rfl rfl ?_
  refine zi_getfield 4 11 dX10_trace_1 zcl_X10 tw_321 rfl rfl hR.1 rfl rfl ?_
  refine zi_iload_n 5 dX10_trace_4 rfl rfl ?_
  refine zc_virtual (n' := (0, 0)) (md' := mX0_traceAt) 8 dX10_trace_5 tw_586 zv_X0_traceAt zcl_X0 (s_X0_traceAt B h (A 11) (A 21) _ hR.2.2.2.2.2.2.2.2.2 hs0.2.2.2 i) hR.2.2.2.2.2.2.2.2.2.o rfl rfl rfl rfl rfl rfl rfl rfl (zk_f ?_)
  exact zr_int hZ dX10_trace_8 rfl rfl ⟨_, rfl, _, rfl, hR, zOu_r _ _⟩

theorem cl_kd {f : Nat → Int32} {g : Nat → Option i4} {i : Nat} (h : ∀ j, j < 20 → f j = kdI (g j)) : ∀ j, j < 20 → upd f i (-1) j = kdI (if j = i then none else g j) := fun j hj => by
  unfold upd
  split
  · rfl
  · exact h j hj
theorem cl_v {o : Option i4} : (kdI o = -1 → onS o (0 : Int32) (fun _ => 1) = 0) ∧ (¬ kdI o = -1 → onS o (0 : Int32) (fun _ => 1) = 1) := by
  rw [kdI_n]
  cases o with
  | none => exact ⟨fun _ => rfl, fun h => absurd rfl h⟩
  | some P => exact ⟨fun h => by simp at h, fun _ => rfl⟩

set_option maxHeartbeats 4000000 in
set_option maxRecDepth 100000 in
theorem s_X10_clear (B : zBB) (h : zHp) (A : Nat → Nat) (hA : zInj A) (s : zSt) (hs0 : okSt s) (hR : zRc B A s h) (i : Int32) : zSpec mX10_clear B (1, 0, 0) [.ref (A 0), .int i] h (zPi (fun x h' => ∃ s' : zSt, r_clear s i = (x, s') ∧ zRc B A s' h' ∧ zOu A h h')) := by
  refine zSpec.of (by decide) (Nat.le_of_ble_eq_true rfl) (fun X hZ => ?_)
  show zG X mX10_clear B (1, 0, 0) (0, 0) 0 [(0, .ref (A 0)), (1, .int i)] [] h
  refine zi_iload_n 1 dX10_clear_0 rfl rfl ?_
  refine zi_bipush (v := 20) 3 dX10_clear_1 (by decide) rfl ?_
  refine zc_static (n' := (0, 0)) (md' := mX10_outside) 6 dX10_clear_3 tw_354 zs_X10_outside (s_X10_outside B h _ _) rfl rfl rfl rfl rfl rfl rfl rfl (zk_f ?_)
  refine zb_eq 9 12 dX10_clear_6 (by decide) rfl (fun zzO => ?_) (fun zzO => ?_)
  ·
    obtain ⟨j, hj, hj31, rfl⟩ := out_i (N := 20) (by decide) zzO
    obtain ⟨fk, hk, hfk⟩ := hR.2.2.1
    refine zi_aload_n 13 dX10_clear_12 rfl rfl ?_
    refine zi_getfield 16 2 dX10_clear_13 zcl_X10 tw_312 rfl rfl hR.1 rfl rfl ?_
    refine zi_iload_n 17 dX10_clear_16 rfl rfl ?_
    refine zi_iaload 18 dX10_clear_17 hk (vp_in_nI hj (by decide)) rfl ?_
    rw [nI_clamp (by omega), hfk j hj]
    refine zi_iconst (v := (-1)) 19 dX10_clear_18 (by decide) rfl ?_
    refine zi_icmp_ne 22 26 dX10_clear_19 (by decide) rfl (fun zzK => ?_) (fun zzK => ?_)
    ·
      refine zi_iconst (v := 1) 27 dX10_clear_26 (by decide) rfl ?_
      refine zi_istore_n (lv' := [(2, _), (0, _), (1, _)]) 28 dX10_clear_27 rfl rfl rfl ?_
      refine zi_aload_n 29 dX10_clear_28 rfl rfl ?_
      refine zi_getfield 32 2 dX10_clear_29 zcl_X10 tw_312 rfl rfl hR.1 rfl rfl ?_
      refine zi_iload_n 33 dX10_clear_32 rfl rfl ?_
      refine zi_iconst (v := (-1)) 34 dX10_clear_33 (by decide) rfl ?_
      refine zi_iastore 35 dX10_clear_34 hk (vp_in_nI hj (by decide)) rfl ?_
      rw [nI_clamp (by omega)]
      refine zk_h (fun h1 k1 => ?_)
      refine zi_iload_n 36 dX10_clear_35 rfl rfl ?_
      exact zr_int hZ dX10_clear_36 rfl rfl ⟨_, rfl, _, by rw [r_clear, if_neg zzO, nI_clamp hj31]; first | rw [cl_v.1 zzK] | rw [cl_v.2 zzK], by rw [k1]; exact zRc_cl hA (cl_kd hfk) hR, zOu_u k1 (by decide)⟩
    ·
      refine zi_iconst (v := 0) 23 dX10_clear_22 (by decide) rfl ?_
      refine zi_goto 27 dX10_clear_23 (by decide) ?_
      refine zi_istore_n (lv' := [(2, _), (0, _), (1, _)]) 28 dX10_clear_27 rfl rfl rfl ?_
      refine zi_aload_n 29 dX10_clear_28 rfl rfl ?_
      refine zi_getfield 32 2 dX10_clear_29 zcl_X10 tw_312 rfl rfl hR.1 rfl rfl ?_
      refine zi_iload_n 33 dX10_clear_32 rfl rfl ?_
      refine zi_iconst (v := (-1)) 34 dX10_clear_33 (by decide) rfl ?_
      refine zi_iastore 35 dX10_clear_34 hk (vp_in_nI hj (by decide)) rfl ?_
      rw [nI_clamp (by omega)]
      refine zk_h (fun h1 k1 => ?_)
      refine zi_iload_n 36 dX10_clear_35 rfl rfl ?_
      exact zr_int hZ dX10_clear_36 rfl rfl ⟨_, rfl, _, by rw [r_clear, if_neg zzO, nI_clamp hj31]; first | rw [cl_v.1 zzK] | rw [cl_v.2 zzK], by rw [k1]; exact zRc_cl hA (cl_kd hfk) hR, zOu_u k1 (by decide)⟩
  ·
    refine zi_ldc 11 dX10_clear_9 tw_357 rfl ?_
    exact zr_int hZ dX10_clear_11 rfl rfl ⟨_, rfl, _, by rw [r_clear, if_pos zzO], hR, zOu_r _ _⟩
