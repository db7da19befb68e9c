abbrev sFd (s : zSt) (v : Int32) : zSt := (qSl s, qLn s, qSz s, qIt s, v, qTc s)
abbrev sSl (s : zSt) (i : Nat) (p : Option i4) : zSt := (fun j => if j = i then p else qSl s j, qLn s, qSz s, qIt s, qFd s, qTc s)
theorem kdI_n {p : Option i4} : kdI p = -1 ↔ p = none := by
  cases p with
  | none => exact ⟨fun _ => rfl, fun _ => rfl⟩
  | some P =>
    refine ⟨fun h => ?_, fun h => by simp at h⟩
    exfalso
    have hk : kindI P ≤ 4 := by unfold kindI; (repeat' split) <;> decide
    have h1 : nI (kindI P) = -1 := h
    have h2 := congrArg Int32.toInt h1
    rw [nI_toInt (by omega)] at h2
    have h3 : (-1 : Int32).toInt = -1 := rfl
    omega

set_option maxHeartbeats 4000000 in
set_option maxRecDepth 100000 in
theorem s_X10_found (B : zBB) (h : zHp) (A : Nat → Nat) (hA : zInj A) (s : zSt) (hR : zRc B A s h) (v : Int32) : zSpec mX10_found B (0, 0, 0) [.ref (A 0), .int v] h (zPi (fun x h' => x = -1000010 - v ∧ zRc B A (sFd s v) h' ∧ zOu A h h')) := by
  refine zSpec.of (by decide) (Nat.le_of_ble_eq_true rfl) (fun X hZ => ?_)
  show zG X mX10_found B (0, 0, 0) (0, 0) 0 [(0, .ref (A 0)), (1, .int v)] [] h
  refine zi_aload_n 1 dX10_found_0 rfl rfl ?_
  refine zi_iload_n 2 dX10_found_1 rfl rfl ?_
  refine zi_putfield (fs' := [_, _, _, _, _, _, _, _, _, _, _, _, _]) 5 12 dX10_found_2 zcl_X10 tyX10 tyX10_ok nmX10 tw_322 rfl rfl rfl hR.1 rfl rfl rfl rfl rfl rfl ?_
  refine zi_ldcw 8 dX10_found_5 tw_362 rfl ?_
  refine zi_iload_n 9 dX10_found_8 rfl rfl ?_
  refine zi_isub 10 dX10_found_9 rfl ?_
  exact zr_int hZ dX10_found_10 rfl rfl ⟨_, rfl, rfl, zRc_fd hA v hR, zOu_u rfl (by decide)⟩

set_option maxHeartbeats 4000000 in
set_option maxRecDepth 100000 in
theorem s_X10_answered (B : zBB) (h : zHp) (A : Nat → Nat) (hA : zInj A) (s : zSt) (hR : zRc B A s h) (v : Int32) : zSpec mX10_answered B (0, 0, 0) [.ref (A 0), .int v] h (zPi (fun x h' => x = v ∧ zRc B A (sFd s 0) h' ∧ zOu A h h')) := by
  refine zSpec.of (by decide) (Nat.le_of_ble_eq_true rfl) (fun X hZ => ?_)
  show zG X mX10_answered B (0, 0, 0) (0, 0) 0 [(0, .ref (A 0)), (1, .int v)] [] h
  refine zi_aload_n 1 dX10_answered_0 rfl rfl ?_
  refine zi_iconst (v := 0) 2 dX10_answered_1 (by decide) rfl ?_
  refine zi_putfield (fs' := [_, _, _, _, _, _, _, _, _, _, _, _, _]) 5 12 dX10_answered_2 zcl_X10 tyX10 tyX10_ok nmX10 tw_322 rfl rfl rfl hR.1 rfl rfl rfl rfl rfl rfl ?_
  refine zi_iload_n 6 dX10_answered_5 rfl rfl ?_
  exact zr_int hZ dX10_answered_6 rfl rfl ⟨_, rfl, rfl, zRc_fd hA 0 hR, zOu_u rfl (by decide)⟩

set_option maxHeartbeats 4000000 in
set_option maxRecDepth 100000 in
theorem s_X10_heldS (B : zBB) (h : zHp) (A : Nat → Nat) (hA : zInj A) (s : zSt) (hR : zRc B A s h) (i : Nat) (hi : i < 20) (P : i4) (hs : qSl s i = some P) : zSpec mX10_held B (1, 0, 0) [.ref (A 0), .int (nI i)] h (zPf (some (.ref (A (38 + i)))) h) := by
  refine zSpec.of (by decide) (Nat.le_of_ble_eq_true rfl) (fun X hZ => ?_)
  show zG X mX10_held B (1, 0, 0) (0, 0) 0 [(0, .ref (A 0)), (1, .int (nI i))] [] h
  obtain ⟨hO, ⟨-, ff, hf, hff⟩, ⟨fk, hk, hfk⟩, hS, -⟩ := id hR
  refine zi_iload_n 1 dX10_held_0 rfl rfl ?_
  refine zi_bipush (v := 20) 3 dX10_held_1 (by decide) rfl ?_
  refine zc_static (n' := (0, 0)) (md' := mX10_outside) 6 dX10_held_3 tw_354 zs_X10_outside (s_X10_outside B h _ _) rfl rfl rfl rfl rfl rfl rfl rfl (zk_f ?_)
  refine zb_ne 9 19 dX10_held_6 (by decide) rfl (fun c_6 => absurd c_6 (zout_in hi)) (fun c_6 => ?_)
  refine zi_aload_n 10 dX10_held_9 rfl rfl ?_
  refine zi_getfield 13 2 dX10_held_10 zcl_X10 tw_312 rfl rfl hO rfl rfl ?_
  refine zi_iload_n 14 dX10_held_13 rfl rfl ?_
  refine zi_iaload 15 dX10_held_14 hk (vp_in_nI hi (by decide)) rfl ?_
  rw [nI_clamp (by omega), hfk i hi]
  refine zi_iconst (v := (-1)) 16 dX10_held_15 (by decide) rfl ?_
  refine zi_icmp_ne 19 21 dX10_held_16 (by decide) rfl (fun c_16 => ?_) (fun c_16 => absurd (kdI_n.mp c_16) (by rw [hs]; simp))
  refine zi_aload_n 22 dX10_held_21 rfl rfl ?_
  refine zi_getfield 25 1 dX10_held_22 zcl_X10 tw_311 rfl rfl hO rfl rfl ?_
  refine zi_iload_n 26 dX10_held_25 rfl rfl ?_
  refine zi_aaloadF 27 dX10_held_26 hf (vp_in_nI hi (by decide)) (by rw [nI_clamp (by omega)]; exact hff i hi) rfl ?_
  exact zr_ref hZ dX10_held_27 rfl ⟨rfl, rfl⟩

set_option maxHeartbeats 4000000 in
set_option maxRecDepth 100000 in
theorem s_X10_heldN (B : zBB) (h : zHp) (A : Nat → Nat) (hA : zInj A) (s : zSt) (hR : zRc B A s h) (i : Nat) (hi : i < 20) (hs : qSl s i = none) : zSpec mX10_held B (1, 0, 0) [.ref (A 0), .int (nI i)] h (zPf (some .null) h) := by
  refine zSpec.of (by decide) (Nat.le_of_ble_eq_true rfl) (fun X hZ => ?_)
  show zG X mX10_held B (1, 0, 0) (0, 0) 0 [(0, .ref (A 0)), (1, .int (nI i))] [] h
  obtain ⟨hO, ⟨-, ff, hf, hff⟩, ⟨fk, hk, hfk⟩, hS, -⟩ := id hR
  refine zi_iload_n 1 dX10_held_0 rfl rfl ?_
  refine zi_bipush (v := 20) 3 dX10_held_1 (by decide) rfl ?_
  refine zc_static (n' := (0, 0)) (md' := mX10_outside) 6 dX10_held_3 tw_354 zs_X10_outside (s_X10_outside B h _ _) rfl rfl rfl rfl rfl rfl rfl rfl (zk_f ?_)
  refine zb_ne 9 19 dX10_held_6 (by decide) rfl (fun c_6 => absurd c_6 (zout_in hi)) (fun c_6 => ?_)
  refine zi_aload_n 10 dX10_held_9 rfl rfl ?_
  refine zi_getfield 13 2 dX10_held_10 zcl_X10 tw_312 rfl rfl hO rfl rfl ?_
  refine zi_iload_n 14 dX10_held_13 rfl rfl ?_
  refine zi_iaload 15 dX10_held_14 hk (vp_in_nI hi (by decide)) rfl ?_
  rw [nI_clamp (by omega), hfk i hi]
  refine zi_iconst (v := (-1)) 16 dX10_held_15 (by decide) rfl ?_
  refine zi_icmp_ne 19 21 dX10_held_16 (by decide) rfl (fun c_16 => absurd (kdI_n.mpr hs) c_16) (fun c_16 => ?_)
  refine zi_aconst_null 20 dX10_held_19 rfl ?_
  exact zr_null hZ dX10_held_20 rfl ⟨rfl, rfl⟩

theorem up_at (f : Nat → Int32) (i : Nat) (x : Int32) : upd f i x i = x := by
  unfold upd
  rw [if_pos rfl]
theorem up_kd {f : Nat → Int32} {g : Nat → Option i4} {i : Nat} {P : i4} (h : ∀ j, j < 20 → f j = kdI (g j)) : ∀ j, j < 20 → upd f i (nI (kindI P)) j = kdI (if j = i then some P else g j) := fun j hj => by
  unfold upd
  split
  · rfl
  · exact h j hj

set_option maxHeartbeats 4000000 in
set_option maxRecDepth 100000 in
theorem s_X10_keep (B : zBB) (h : zHp) (A : Nat → Nat) (hA : zInj A) (s : zSt) (hR : zRc B A s h) (i : Nat) (hi : i < 20) (b : Nat) (P : i4) (hV : i4V P) (hb : h b = some (zFo (z4i P))) (hbn : b ≠ A (38 + i)) : zSpec mX10_keep B (5, 0, 0) [.ref (A 0), .int (nI i), .ref b] h (zPi (fun x h' => x = nI (kindI P) ∧ zRc B A (sSl s i (some P)) h' ∧ zOu A h h')) := by
  refine zSpec.of (by decide) (Nat.le_of_ble_eq_true rfl) (fun X hZ => ?_)
  show zG X mX10_keep B (5, 0, 0) (0, 0) 0 [(0, .ref (A 0)), (1, .int (nI i)), (2, .ref b)] [] h
  obtain ⟨hO, ⟨-, ff, hf, hff⟩, ⟨fk, hk, hfk⟩, hS, -⟩ := id hR
  obtain ⟨v0, hv0, -⟩ := hS i hi
  refine zi_iload_n 1 dX10_keep_0 rfl rfl ?_
  refine zi_bipush (v := 20) 3 dX10_keep_1 (by decide) rfl ?_
  refine zc_static (n' := (0, 0)) (md' := mX10_outside) 6 dX10_keep_3 tw_354 zs_X10_outside (s_X10_outside B h _ _) rfl rfl rfl rfl rfl rfl rfl rfl (zk_f ?_)
  refine zb_ne 9 18 dX10_keep_6 (by decide) rfl (fun c_6 => absurd c_6 (zout_in hi)) (fun c_6 => ?_)
  refine zi_aload_n 10 dX10_keep_9 rfl rfl ?_
  refine zi_getfield 13 1 dX10_keep_10 zcl_X10 tw_311 rfl rfl hO rfl rfl ?_
  refine zi_iload_n 14 dX10_keep_13 rfl rfl ?_
  refine zi_aaloadF 15 dX10_keep_14 hf (vp_in_nI hi (by decide)) (by rw [nI_clamp (by omega)]; exact hff i hi) rfl ?_
  refine zi_ifnonnull 21 dX10_keep_15 (by decide) ?_
  refine zi_aload_n 22 dX10_keep_21 rfl rfl ?_
  refine zi_getfield 25 1 dX10_keep_22 zcl_X10 tw_311 rfl rfl hO rfl rfl ?_
  refine zi_iload_n 26 dX10_keep_25 rfl rfl ?_
  refine zi_aaloadF 27 dX10_keep_26 hf (vp_in_nI hi (by decide)) (by rw [nI_clamp (by omega)]; exact hff i hi) rfl ?_
  refine zi_aload_n 28 dX10_keep_27 rfl rfl ?_
  refine zc_virtual (n' := (0, 0)) (md' := mX4_become_) 31 dX10_keep_28 tw_443 zv_X4_become_ zcl_X4 (s_X4_become_ B h (A (38 + i)) v0 hv0 b _ hb) hv0 rfl rfl rfl rfl rfl rfl rfl rfl (zk_u fun h1 hq => ?_)
  have hO1 := zX1 hq (hA.ne (i := 0) (by omega)) hO
  have hk1 := zX1 hq (hA.ne (i := 3) (by omega)) hk
  have hb1 := zX1 hq hbn hb
  refine zi_aload_n 32 dX10_keep_31 rfl rfl ?_
  refine zi_getfield 35 2 dX10_keep_32 zcl_X10 tw_312 rfl rfl hO1 rfl rfl ?_
  refine zi_iload_n 36 dX10_keep_35 rfl rfl ?_
  refine zi_aload_n 37 dX10_keep_36 rfl rfl ?_
  refine zc_static (n' := (0, 0)) (md' := mX10_kindOf) 40 dX10_keep_37 tw_448 zs_X10_kindOf (s_X10_kindOf B h1 b P hV hb1) rfl rfl rfl rfl rfl rfl rfl rfl (zk_f ?_)
  refine zi_iastore 41 dX10_keep_40 hk1 (vp_in_nI hi (by decide)) rfl ?_
  rw [nI_clamp (by omega)]
  refine zk_h (fun h2 hq2 => ?_)
  have hO2 := zX1 hq2 (hA.ne (i := 0) (by decide)) hO1
  have hk2 := zX0 hq2
  refine zi_aload_n 42 dX10_keep_41 rfl rfl ?_
  refine zi_getfield 45 2 dX10_keep_42 zcl_X10 tw_312 rfl rfl hO2 rfl rfl ?_
  refine zi_iload_n 46 dX10_keep_45 rfl rfl ?_
  refine zi_iaload 47 dX10_keep_46 hk2 (vp_in_nI hi (by decide)) rfl ?_
  exact zr_int hZ dX10_keep_47 rfl rfl ⟨_, rfl, by rw [nI_clamp (by omega)]; exact up_at _ _ _, by rw [hq2, hq]; exact zRc_kp hA (fk := upd fk i (nI (kindI P))) (up_kd hfk) hi hR, zOu_t (zOu_u hq (by omega)) (zOu_u hq2 (by decide))⟩

theorem ln_0 {n : Nat} (h : n ≤ 3) : jz ((n : Int) - 1) = -1 ↔ n = 0 := by
  rw [show (-1 : Int32) = jz (-1) from rfl, jz_inj (by omega) (by decide)]
  omega

set_option maxHeartbeats 4000000 in
set_option maxRecDepth 100000 in
theorem s_X10_standingS (B : zBB) (h : zHp) (A : Nat → Nat) (hA : zInj A) (s : zSt) (hR : zRc B A s h) (h3 : ∀ i, qLn s i ≤ 3) (i : Nat) (hi : i < 8) (hs : qLn s i ≠ 0) : zSpec mX10_standing B (1, 0, 0) [.ref (A 0), .int (nI i)] h (zPf (some (.ref (A (22 + i)))) h) := by
  refine zSpec.of (by decide) (Nat.le_of_ble_eq_true rfl) (fun X hZ => ?_)
  show zG X mX10_standing B (1, 0, 0) (0, 0) 0 [(0, .ref (A 0)), (1, .int (nI i))] [] h
  obtain ⟨hO, ⟨⟨ft, hf, hff⟩, -⟩, -, -, hY, -⟩ := id hR
  obtain ⟨u, hy, hu, -⟩ := hY i hi
  refine zi_iload_n 1 dX10_standing_0 rfl rfl ?_
  refine zi_bipush (v := 8) 3 dX10_standing_1 (by decide) rfl ?_
  refine zc_static (n' := (0, 0)) (md' := mX10_outside) 6 dX10_standing_3 tw_354 zs_X10_outside (s_X10_outside B h _ _) rfl rfl rfl rfl rfl rfl rfl rfl (zk_f ?_)
  refine zb_eq 9 11 dX10_standing_6 (by decide) rfl (fun c_6 => ?_) (fun c_6 => absurd c_6 (zout_in hi))
  refine zi_aload_n 12 dX10_standing_11 rfl rfl ?_
  refine zi_getfield 15 0 dX10_standing_12 zcl_X10 tw_310 rfl rfl hO rfl rfl ?_
  refine zi_iload_n 16 dX10_standing_15 rfl rfl ?_
  refine zi_aaloadT 17 dX10_standing_16 hf (vp_in_nI hi (by decide)) (by rw [nI_clamp (by omega)]; exact hff i hi) rfl ?_
  refine zi_astore_n (lv' := [(2, _), (0, _), (1, _)]) 18 dX10_standing_17 rfl rfl rfl ?_
  refine zi_aload_n 19 dX10_standing_18 rfl rfl ?_
  refine zi_ifnull 22 dX10_standing_19 rfl ?_
  refine zi_aload_n 23 dX10_standing_22 rfl rfl ?_
  refine zi_getfield 26 1 dX10_standing_23 zcl_X9 tw_85 rfl rfl hy rfl rfl ?_
  refine zi_iconst (v := (-1)) 27 dX10_standing_26 (by decide) rfl ?_
  refine zi_icmp_ne 30 32 dX10_standing_27 (by decide) rfl (fun c_27 => ?_) (fun c_27 => absurd ((ln_0 (h3 i)).mp c_27) hs)
  refine zi_aload_n 33 dX10_standing_32 rfl rfl ?_
  exact zr_ref hZ dX10_standing_33 rfl ⟨rfl, rfl⟩

set_option maxHeartbeats 4000000 in
set_option maxRecDepth 100000 in
theorem s_X10_standingN (B : zBB) (h : zHp) (A : Nat → Nat) (hA : zInj A) (s : zSt) (hR : zRc B A s h) (h3 : ∀ i, qLn s i ≤ 3) (i : Nat) (hi : i < 8) (hs : qLn s i = 0) : zSpec mX10_standing B (1, 0, 0) [.ref (A 0), .int (nI i)] h (zPf (some .null) h) := by
  refine zSpec.of (by decide) (Nat.le_of_ble_eq_true rfl) (fun X hZ => ?_)
  show zG X mX10_standing B (1, 0, 0) (0, 0) 0 [(0, .ref (A 0)), (1, .int (nI i))] [] h
  obtain ⟨hO, ⟨⟨ft, hf, hff⟩, -⟩, -, -, hY, -⟩ := id hR
  obtain ⟨u, hy, hu, -⟩ := hY i hi
  refine zi_iload_n 1 dX10_standing_0 rfl rfl ?_
  refine zi_bipush (v := 8) 3 dX10_standing_1 (by decide) rfl ?_
  refine zc_static (n' := (0, 0)) (md' := mX10_outside) 6 dX10_standing_3 tw_354 zs_X10_outside (s_X10_outside B h _ _) rfl rfl rfl rfl rfl rfl rfl rfl (zk_f ?_)
  refine zb_eq 9 11 dX10_standing_6 (by decide) rfl (fun c_6 => ?_) (fun c_6 => absurd c_6 (zout_in hi))
  refine zi_aload_n 12 dX10_standing_11 rfl rfl ?_
  refine zi_getfield 15 0 dX10_standing_12 zcl_X10 tw_310 rfl rfl hO rfl rfl ?_
  refine zi_iload_n 16 dX10_standing_15 rfl rfl ?_
  refine zi_aaloadT 17 dX10_standing_16 hf (vp_in_nI hi (by decide)) (by rw [nI_clamp (by omega)]; exact hff i hi) rfl ?_
  refine zi_astore_n (lv' := [(2, _), (0, _), (1, _)]) 18 dX10_standing_17 rfl rfl rfl ?_
  refine zi_aload_n 19 dX10_standing_18 rfl rfl ?_
  refine zi_ifnull 22 dX10_standing_19 rfl ?_
  refine zi_aload_n 23 dX10_standing_22 rfl rfl ?_
  refine zi_getfield 26 1 dX10_standing_23 zcl_X9 tw_85 rfl rfl hy rfl rfl ?_
  refine zi_iconst (v := (-1)) 27 dX10_standing_26 (by decide) rfl ?_
  refine zi_icmp_ne 30 32 dX10_standing_27 (by decide) rfl (fun c_27 => absurd ((ln_0 (h3 i)).mpr hs) c_27) (fun c_27 => ?_)
  refine zi_aconst_null 31 dX10_standing_30 rfl ?_
  exact zr_null hZ dX10_standing_31 rfl ⟨rfl, rfl⟩
