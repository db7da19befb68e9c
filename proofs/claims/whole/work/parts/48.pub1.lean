/-! the answers, and the state behind: what both sides give -/
def onS {α : Type} (o : Option i4) (n : α) (g : i4 → α) : α := match o with | none => n | some P => g P
theorem onS_n {α : Type} (n : α) (g : i4 → α) : onS none n g = n := rfl
theorem onS_s {α : Type} (P : i4) (n : α) (g : i4 → α) : onS (some P) n g = g P := rfl
theorem out_i {i : Int32} {N : Nat} (hN : N < 2 ^ 31) (h : ¬ zOut i (nI N)) : ∃ j, j < N ∧ j < 2 ^ 31 ∧ i = nI j := by
  obtain ⟨j, hj, rfl⟩ := nI_of (fun q => h (Or.inl q))
  refine ⟨j, ?_, hj, rfl⟩
  have h2 : nI j < nI N := Decidable.not_not.mp (fun q => h (Or.inr q))
  rwa [nI_ltI hj hN] at h2
noncomputable def r_norm (s : zSt) (i : Int32) : Int32 × zSt := if zOut i 20 then (-1000001, s) else onS (qSl s i.toNatClampNeg) (-1000010 - 1, sFd s 1) fun P => (nI (nN P), sFd s 0)
noncomputable def r_kind (s : zSt) (i : Int32) : Int32 × zSt := if zOut i 20 then (-1000001, s) else onS (qSl s i.toNatClampNeg) (-1000010 - 1, sFd s 1) fun P => (nI (kindI P), sFd s 0)
noncomputable def r_clear (s : zSt) (i : Int32) : Int32 × zSt := if zOut i 20 then (-1000001, s) else (onS (qSl s i.toNatClampNeg) 0 (fun _ => 1), sSl s i.toNatClampNeg none)
noncomputable def r_number (s : zSt) (i k : Int32) : Int64 × zSt := if zOut i 20 ∨ zOut k 4 then (-1000001, s) else onS (qSl s i.toNatClampNeg) ((-1000010 - 1 : Int32).toInt64, sFd s 1) fun P => (zAt (z4i P) k, sFd s 0)
noncomputable def r_is (s : zSt) (i k : Int32) : Int32 × zSt := if zOut i 20 ∨ zOut k 5 then (-1000001, s) else onS (qSl s i.toNatClampNeg) (-1000010 - 1, sFd s 1) fun P => (if zIsToo (nI (kindI P)) k then 1 else 0, sFd s 0)
noncomputable def r_as (s : zSt) (i k : Int32) : Int32 × zSt := if zOut i 20 ∨ zOut k 5 then (-1000001, s) else onS (qSl s i.toNatClampNeg) (-1000010 - 1, sFd s 1) fun P => if zIsToo (nI (kindI P)) k then (nI (nN P), sFd s 0) else (-1000010 - 3, sFd s 3)
def r_status (s : zSt) : Int32 × zSt := (qFd s, s)
def r_trace (s : zSt) (i : Int32) : Int32 × zSt := (if i < 0 then -1000000 else ((qTc s)[i.toNatClampNeg]?).getD (-1000000), s)

set_option maxHeartbeats 4000000 in
set_option maxRecDepth 100000 in
theorem s_X10_norm (B : zBB) (h : zHp) (A : Nat → Nat) (hA : zInj A) (s : zSt) (hs0 : okSt s) (hR : zRc B A s h) (i : Int32) : zSpec mX10_norm B (2, 0, 0) [.ref (A 0), .int i] h (zPi (fun x h' => ∃ s' : zSt, r_norm s i = (x, s') ∧ zRc B A s' h' ∧ zOu A h h')) := by
  refine zSpec.of (by decide) (Nat.le_of_ble_eq_true rfl) (fun X hZ => ?_)
  show zG X mX10_norm B (2, 0, 0) (0, 0) 0 [(0, .ref (A 0)), (1, .int i)] [] h
  refine zi_iload_n 1 dX10_norm_0 rfl rfl ?_
  refine zi_bipush (v := 20) 3 dX10_norm_1 (by decide) rfl ?_
  refine zc_static (n' := (0, 0)) (md' := mX10_outside) 6 dX10_norm_3 tw_354 zs_X10_outside (s_X10_outside B h _ _) rfl rfl rfl rfl rfl rfl rfl rfl (zk_f ?_)
  refine zb_eq 9 12 dX10_norm_6 (by decide) rfl (fun zzO => ?_) (fun zzO => ?_)
  ·
    obtain ⟨j, hj, hj31, rfl⟩ := out_i (N := 20) (by decide) zzO
    refine zi_aload_n 13 dX10_norm_12 rfl rfl ?_
    refine zi_iload_n 14 dX10_norm_13 rfl rfl ?_
    rcases hs : qSl s j with _ | P
    ·
      have hN := hs
      refine zc_virtual (n' := (0, 0)) (md' := mX10_held) 17 dX10_norm_14 tw_485 zv_X10_held zcl_X10 (s_X10_heldN B h A hA s hR j hj hs) hR.1 rfl rfl rfl rfl rfl rfl rfl rfl (zk_f ?_)
      refine zi_astore_nN (lv' := [(2, _), (0, _), (1, _)]) 18 dX10_norm_17 rfl rfl rfl ?_
      refine zi_aload_nN 19 dX10_norm_18 rfl rfl ?_
      refine zi_ifnonnullN 22 dX10_norm_19 rfl ?_
      refine zi_aload_n 23 dX10_norm_22 rfl rfl ?_
      refine zi_iconst (v := 1) 24 dX10_norm_23 (by decide) rfl ?_
      refine zc_virtual (n' := (0, 0)) (md' := mX10_found) 27 dX10_norm_24 tw_358 zv_X10_found zcl_X10 (s_X10_found B h A hA s hR 1) hR.1 rfl rfl rfl rfl rfl rfl rfl rfl (zk_i fun x1 h1 hp1 => ?_)
      obtain ⟨rfl, R1, U1⟩ := hp1
      exact zr_int hZ dX10_norm_27 rfl rfl ⟨_, rfl, _, by rw [r_norm, if_neg zzO, nI_clamp hj31, hs, onS_n], R1, U1⟩
    ·
      have hV := hs0.1 j P hs
      obtain ⟨v, hv, hvz⟩ := hR.2.2.2.1 j hj
      rw [hvz P hs] at hv
      refine zc_virtual (n' := (0, 0)) (md' := mX10_held) 17 dX10_norm_14 tw_485 zv_X10_held zcl_X10 (s_X10_heldS B h A hA s hR j hj P hs) hR.1 rfl rfl rfl rfl rfl rfl rfl rfl (zk_f ?_)
      refine zi_astore_n (lv' := [(2, _), (0, _), (1, _)]) 18 dX10_norm_17 rfl rfl rfl ?_
      refine zi_aload_n 19 dX10_norm_18 rfl rfl ?_
      refine zi_ifnonnull 28 dX10_norm_19 (by decide) ?_
      refine zi_aload_n 29 dX10_norm_28 rfl rfl ?_
      refine zi_aload_n 30 dX10_norm_29 rfl rfl ?_
      refine zc_virtual (n' := (0, 0)) (md' := mX4_ownNorm) 33 dX10_norm_30 tw_455 zv_X4_ownNorm zcl_X4 (s_X4_ownNorm B h (A (38 + j)) _ hv) hv rfl rfl rfl rfl rfl rfl rfl rfl (zk_f ?_)
      rw [nN_z hV]
      refine zi_l2i 34 dX10_norm_33 rfl ?_
      rw [lN_i]
      refine zc_virtual (n' := (0, 0)) (md' := mX10_answered) 37 dX10_norm_34 tw_367 zv_X10_answered zcl_X10 (s_X10_answered B h A hA s hR _) hR.1 rfl rfl rfl rfl rfl rfl rfl rfl (zk_i fun x1 h1 hp1 => ?_)
      obtain ⟨rfl, R1, U1⟩ := hp1
      exact zr_int hZ dX10_norm_37 rfl rfl ⟨_, rfl, _, by rw [r_norm, if_neg zzO, nI_clamp hj31, hs, onS_s], R1, U1⟩
  ·
    refine zi_ldc 11 dX10_norm_9 tw_357 rfl ?_
    exact zr_int hZ dX10_norm_11 rfl rfl ⟨_, rfl, _, by rw [r_norm, if_pos zzO], hR, zOu_r _ _⟩
