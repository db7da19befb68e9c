set_option maxHeartbeats 4000000 in
set_option maxRecDepth 100000 in
theorem s_X10_outside (B : zBB) (h : zHp) (i e : Int32) : zSpec mX10_outside B (0, 0, 0) [.int i, .int e] h (zPf (some (.int (if zOut i e then 1 else 0))) h) := by
  refine zSpec.of (by decide) (Nat.le_of_ble_eq_true rfl) (fun X hZ => ?_)
  show zG X mX10_outside B (0, 0, 0) (0, 0) 0 [(0, .int i), (1, .int e)] [] h
  refine zi_iload_n 1 dX10_outside_0 rfl rfl ?_
  refine zi_if_lt 4 9 dX10_outside_1 (by decide) rfl (fun c_1 => ?_) (fun c_1 => ?_)
  ·
    refine zi_iconst (v := 1) 10 dX10_outside_9 (by decide) rfl ?_
    refine zi_goto 14 dX10_outside_10 (by decide) ?_
    exact zr_int hZ dX10_outside_14 rfl (by decide) ⟨by first | (simp [zOut, z_nle32, z_nlt32, *]; done) | (simp_all [zOut, z_nle32, z_nlt32]; done) | (simp [zOut, z_nle32, z_nlt32, *]; intro q; exact absurd c_3 (z_nlt64.mpr q)), rfl⟩
  ·
    refine zi_iload_n 5 dX10_outside_4 rfl rfl ?_
    refine zi_iload_n 6 dX10_outside_5 rfl rfl ?_
    refine zi_icmp_lt 9 13 dX10_outside_6 (by decide) rfl (fun c_6 => ?_) (fun c_6 => ?_)
    ·
      refine zi_iconst (v := 0) 14 dX10_outside_13 (by decide) rfl ?_
      exact zr_int hZ dX10_outside_14 rfl (by decide) ⟨by first | (simp [zOut, z_nle32, z_nlt32, *]; done) | (simp_all [zOut, z_nle32, z_nlt32]; done) | (simp [zOut, z_nle32, z_nlt32, *]; intro q; exact absurd c_3 (z_nlt64.mpr q)), rfl⟩
    ·
      refine zi_iconst (v := 1) 10 dX10_outside_9 (by decide) rfl ?_
      refine zi_goto 14 dX10_outside_10 (by decide) ?_
      exact zr_int hZ dX10_outside_14 rfl (by decide) ⟨by first | (simp [zOut, z_nle32, z_nlt32, *]; done) | (simp_all [zOut, z_nle32, z_nlt32]; done) | (simp [zOut, z_nle32, z_nlt32, *]; intro q; exact absurd c_3 (z_nlt64.mpr q)), rfl⟩

set_option maxHeartbeats 4000000 in
set_option maxRecDepth 100000 in
theorem s_X10_tooFar (B : zBB) (h : zHp) (i : Int32) : zSpec mX10_tooFar B (0, 0, 0) [.int i] h (zPf (some (.int (if zTooF i then 1 else 0))) h) := by
  refine zSpec.of (by decide) (Nat.le_of_ble_eq_true rfl) (fun X hZ => ?_)
  show zG X mX10_tooFar B (0, 0, 0) (0, 0) 0 [(0, .int i)] [] h
  refine zi_iload_n 1 dX10_tooFar_0 rfl rfl ?_
  refine zi_sipush (v := (-1000)) 4 dX10_tooFar_1 (by decide) rfl ?_
  refine zi_icmp_lt 7 14 dX10_tooFar_4 (by decide) rfl (fun c_4 => ?_) (fun c_4 => ?_)
  ·
    refine zi_iconst (v := 1) 15 dX10_tooFar_14 (by decide) rfl ?_
    refine zi_goto 19 dX10_tooFar_15 (by decide) ?_
    exact zr_int hZ dX10_tooFar_19 rfl (by decide) ⟨by first | (simp [zTooF, z_nle32, z_nlt32, *]; done) | (simp_all [zTooF, z_nle32, z_nlt32]; done) | (simp [zTooF, z_nle32, z_nlt32, *]; intro q; exact absurd c_3 (z_nlt64.mpr q)), rfl⟩
  ·
    refine zi_iload_n 8 dX10_tooFar_7 rfl rfl ?_
    refine zi_sipush (v := 1000) 11 dX10_tooFar_8 (by decide) rfl ?_
    refine zi_icmp_le 14 18 dX10_tooFar_11 (by decide) rfl (fun c_11 => ?_) (fun c_11 => ?_)
    ·
      refine zi_iconst (v := 0) 19 dX10_tooFar_18 (by decide) rfl ?_
      exact zr_int hZ dX10_tooFar_19 rfl (by decide) ⟨by first | (simp [zTooF, z_nle32, z_nlt32, *]; done) | (simp_all [zTooF, z_nle32, z_nlt32]; done) | (simp [zTooF, z_nle32, z_nlt32, *]; intro q; exact absurd c_3 (z_nlt64.mpr q)), rfl⟩
    ·
      refine zi_iconst (v := 1) 15 dX10_tooFar_14 (by decide) rfl ?_
      refine zi_goto 19 dX10_tooFar_15 (by decide) ?_
      exact zr_int hZ dX10_tooFar_19 rfl (by decide) ⟨by first | (simp [zTooF, z_nle32, z_nlt32, *]; done) | (simp_all [zTooF, z_nle32, z_nlt32]; done) | (simp [zTooF, z_nle32, z_nlt32, *]; intro q; exact absurd c_3 (z_nlt64.mpr q)), rfl⟩

set_option maxHeartbeats 4000000 in
set_option maxRecDepth 100000 in
theorem s_X10_isToo (B : zBB) (h : zHp) (t k : Int32) : zSpec mX10_isToo B (0, 0, 0) [.int t, .int k] h (zPf (some (.int (if zIsToo t k then 1 else 0))) h) := by
  refine zSpec.of (by decide) (Nat.le_of_ble_eq_true rfl) (fun X hZ => ?_)
  show zG X mX10_isToo B (0, 0, 0) (0, 0) 0 [(0, .int t), (1, .int k)] [] h
  refine zi_iload_n 1 dX10_isToo_0 rfl rfl ?_
  refine zi_iload_n 2 dX10_isToo_1 rfl rfl ?_
  refine zi_icmp_eq 5 9 dX10_isToo_2 (by decide) rfl (fun c_2 => ?_) (fun c_2 => ?_)
  ·
    refine zi_iconst (v := 1) 10 dX10_isToo_9 (by decide) rfl ?_
    exact zr_int hZ dX10_isToo_10 rfl (by decide) ⟨by first | (simp [zIsToo, *]; done) | (simp_all [zIsToo]; done) | (simp [zIsToo, *]; intro q; exact absurd c_3 (z_nlt64.mpr q)), rfl⟩
  ·
    refine zi_iload_n 6 dX10_isToo_5 rfl rfl ?_
    refine zi_if_ne 9 11 dX10_isToo_6 (by decide) rfl (fun c_6 => ?_) (fun c_6 => ?_)
    ·
      refine zi_iload_n 12 dX10_isToo_11 rfl rfl ?_
      refine zi_iconst (v := 2) 13 dX10_isToo_12 (by decide) rfl ?_
      refine zi_icmp_ne 16 30 dX10_isToo_13 (by decide) rfl (fun c_13 => ?_) (fun c_13 => ?_)
      ·
        refine zi_iconst (v := 0) 31 dX10_isToo_30 (by decide) rfl ?_
        exact zr_int hZ dX10_isToo_31 rfl (by decide) ⟨by first | (simp [zIsToo, *]; done) | (simp_all [zIsToo]; done) | (simp [zIsToo, *]; intro q; exact absurd c_3 (z_nlt64.mpr q)), rfl⟩
      ·
        refine zi_iload_n 17 dX10_isToo_16 rfl rfl ?_
        refine zi_iconst (v := 3) 18 dX10_isToo_17 (by decide) rfl ?_
        refine zi_icmp_eq 21 26 dX10_isToo_18 (by decide) rfl (fun c_18 => ?_) (fun c_18 => ?_)
        ·
          refine zi_iconst (v := 1) 27 dX10_isToo_26 (by decide) rfl ?_
          refine zi_goto 31 dX10_isToo_27 (by decide) ?_
          exact zr_int hZ dX10_isToo_31 rfl (by decide) ⟨by first | (simp [zIsToo, *]; done) | (simp_all [zIsToo]; done) | (simp [zIsToo, *]; intro q; exact absurd c_3 (z_nlt64.mpr q)), rfl⟩
        ·
          refine zi_iload_n 22 dX10_isToo_21 rfl rfl ?_
          refine zi_iconst (v := 4) 23 dX10_isToo_22 (by decide) rfl ?_
          refine zi_icmp_ne 26 30 dX10_isToo_23 (by decide) rfl (fun c_23 => ?_) (fun c_23 => ?_)
          ·
            refine zi_iconst (v := 0) 31 dX10_isToo_30 (by decide) rfl ?_
            exact zr_int hZ dX10_isToo_31 rfl (by decide) ⟨by first | (simp [zIsToo, *]; done) | (simp_all [zIsToo]; done) | (simp [zIsToo, *]; intro q; exact absurd c_3 (z_nlt64.mpr q)), rfl⟩
          ·
            refine zi_iconst (v := 1) 27 dX10_isToo_26 (by decide) rfl ?_
            refine zi_goto 31 dX10_isToo_27 (by decide) ?_
            exact zr_int hZ dX10_isToo_31 rfl (by decide) ⟨by first | (simp [zIsToo, *]; done) | (simp_all [zIsToo]; done) | (simp [zIsToo, *]; intro q; exact absurd c_3 (z_nlt64.mpr q)), rfl⟩
    ·
      refine zi_iconst (v := 1) 10 dX10_isToo_9 (by decide) rfl ?_
      exact zr_int hZ dX10_isToo_10 rfl (by decide) ⟨by first | (simp [zIsToo, *]; done) | (simp_all [zIsToo]; done) | (simp [zIsToo, *]; intro q; exact absurd c_3 (z_nlt64.mpr q)), rfl⟩

set_option maxHeartbeats 4000000 in
set_option maxRecDepth 100000 in
theorem s_X11_in (B : zBB) (h : zHp) (v a b : Int64) : zSpec mX11_in B (0, 0, 0) [.long v, .long a, .long b] h (zPf (some (.int (if zIn v a b then 1 else 0))) h) := by
  refine zSpec.of (by decide) (Nat.le_of_ble_eq_true rfl) (fun X hZ => ?_)
  show zG X mX11_in B (0, 0, 0) (0, 0) 0 [(0, .long v), (2, .long a), (4, .long b)] [] h
  refine zi_lload_n 1 dX11_in_0 rfl rfl ?_
  refine zi_lload_n 2 dX11_in_1 rfl rfl ?_
  refine zj_lt 6 17 dX11_in_2 rfl dX11_in_3 (by decide) rfl (fun c_3 => ?_) (fun c_3 => ?_)
  ·
    refine zi_iconst (v := 0) 18 dX11_in_17 (by decide) rfl ?_
    exact zr_int hZ dX11_in_18 rfl (by decide) ⟨by first | (simp [zIn, z_nle64, z_nlt64, *]; done) | (simp_all [zIn, z_nle64, z_nlt64]; done) | (simp [zIn, z_nle64, z_nlt64, *]; intro q; exact absurd c_3 (z_nlt64.mpr q)), rfl⟩
  ·
    refine zi_lload_n 7 dX11_in_6 rfl rfl ?_
    refine zi_lload 9 dX11_in_7 rfl rfl ?_
    refine zj_gt 13 17 dX11_in_9 rfl dX11_in_10 (by decide) rfl (fun c_10 => ?_) (fun c_10 => ?_)
    ·
      refine zi_iconst (v := 0) 18 dX11_in_17 (by decide) rfl ?_
      exact zr_int hZ dX11_in_18 rfl (by decide) ⟨by first | (simp [zIn, z_nle64, z_nlt64, *]; done) | (simp_all [zIn, z_nle64, z_nlt64]; done) | (simp [zIn, z_nle64, z_nlt64, *]; intro q; exact absurd c_3 (z_nlt64.mpr q)), rfl⟩
    ·
      refine zi_iconst (v := 1) 14 dX11_in_13 (by decide) rfl ?_
      refine zi_goto 18 dX11_in_14 (by decide) ?_
      exact zr_int hZ dX11_in_18 rfl (by decide) ⟨by first | (simp [zIn, z_nle64, z_nlt64, *]; done) | (simp_all [zIn, z_nle64, z_nlt64]; done) | (simp [zIn, z_nle64, z_nlt64, *]; intro q; exact absurd c_3 (z_nlt64.mpr q)), rfl⟩

set_option maxHeartbeats 4000000 in
set_option maxRecDepth 100000 in
theorem s_X11_isOf (B : zBB) (h : zHp) (t k : Int32) : zSpec mX11_isOf B (0, 0, 0) [.int t, .int k] h (zPf (some (.int (if t = k ∨ k = 0 ∨ (k = 2 ∧ 2 < t) then 1 else 0))) h) := by
  refine zSpec.of (by decide) (Nat.le_of_ble_eq_true rfl) (fun X hZ => ?_)
  show zG X mX11_isOf B (0, 0, 0) (0, 0) 0 [(0, .int t), (1, .int k)] [] h
  refine zi_iload_n 1 dX11_isOf_0 rfl rfl ?_
  refine zi_iload_n 2 dX11_isOf_1 rfl rfl ?_
  refine zi_icmp_eq 5 19 dX11_isOf_2 (by decide) rfl (fun c_2 => ?_) (fun c_2 => ?_)
  ·
    refine zi_iconst (v := 1) 20 dX11_isOf_19 (by decide) rfl ?_
    refine zi_goto 24 dX11_isOf_20 (by decide) ?_
    exact zr_int hZ dX11_isOf_24 rfl (by decide) ⟨by first | (simp [z_nle32, z_nlt32, *]; done) | (simp_all [z_nle32, z_nlt32]; done) | (simp [z_nle32, z_nlt32, *]; intro q; exact absurd c_3 (z_nlt64.mpr q)), rfl⟩
  ·
    refine zi_iload_n 6 dX11_isOf_5 rfl rfl ?_
    refine zi_if_eq 9 19 dX11_isOf_6 (by decide) rfl (fun c_6 => ?_) (fun c_6 => ?_)
    ·
      refine zi_iconst (v := 1) 20 dX11_isOf_19 (by decide) rfl ?_
      refine zi_goto 24 dX11_isOf_20 (by decide) ?_
      exact zr_int hZ dX11_isOf_24 rfl (by decide) ⟨by first | (simp [z_nle32, z_nlt32, *]; done) | (simp_all [z_nle32, z_nlt32]; done) | (simp [z_nle32, z_nlt32, *]; intro q; exact absurd c_3 (z_nlt64.mpr q)), rfl⟩
    ·
      refine zi_iload_n 10 dX11_isOf_9 rfl rfl ?_
      refine zi_iconst (v := 2) 11 dX11_isOf_10 (by decide) rfl ?_
      refine zi_icmp_ne 14 23 dX11_isOf_11 (by decide) rfl (fun c_11 => ?_) (fun c_11 => ?_)
      ·
        refine zi_iconst (v := 0) 24 dX11_isOf_23 (by decide) rfl ?_
        exact zr_int hZ dX11_isOf_24 rfl (by decide) ⟨by first | (simp [z_nle32, z_nlt32, *]; done) | (simp_all [z_nle32, z_nlt32]; done) | (simp [z_nle32, z_nlt32, *]; intro q; exact absurd c_3 (z_nlt64.mpr q)), rfl⟩
      ·
        refine zi_iload_n 15 dX11_isOf_14 rfl rfl ?_
        refine zi_iconst (v := 2) 16 dX11_isOf_15 (by decide) rfl ?_
        refine zi_icmp_le 19 23 dX11_isOf_16 (by decide) rfl (fun c_16 => ?_) (fun c_16 => ?_)
        ·
          refine zi_iconst (v := 0) 24 dX11_isOf_23 (by decide) rfl ?_
          exact zr_int hZ dX11_isOf_24 rfl (by decide) ⟨by first | (simp [z_nle32, z_nlt32, *]; done) | (simp_all [z_nle32, z_nlt32]; done) | (simp [z_nle32, z_nlt32, *]; intro q; exact absurd c_3 (z_nlt64.mpr q)), rfl⟩
        ·
          refine zi_iconst (v := 1) 20 dX11_isOf_19 (by decide) rfl ?_
          refine zi_goto 24 dX11_isOf_20 (by decide) ?_
          exact zr_int hZ dX11_isOf_24 rfl (by decide) ⟨by first | (simp [z_nle32, z_nlt32, *]; done) | (simp_all [z_nle32, z_nlt32]; done) | (simp [z_nle32, z_nlt32, *]; intro q; exact absurd c_3 (z_nlt64.mpr q)), rfl⟩

set_option maxHeartbeats 4000000 in
set_option maxRecDepth 100000 in
theorem s_X11_isTray (B : zBB) (h : zHp) (i : Int32) : zSpec mX11_isTray B (1, 0, 0) [.int i] h (zPf (some (.int (if zIn i.toInt64 0 7 then 1 else 0))) h) := by
  refine zSpec.of (by decide) (Nat.le_of_ble_eq_true rfl) (fun X hZ => ?_)
  show zG X mX11_isTray B (1, 0, 0) (0, 0) 0 [(0, .int i)] [] h
  refine zi_iload_n 1 dX11_isTray_0 rfl rfl ?_
  refine zi_i2l 2 dX11_isTray_1 rfl ?_
  refine zi_lconst (v := 0) 3 dX11_isTray_2 (by decide) rfl ?_
  refine zi_ldc2 6 dX11_isTray_3 tw_905 rfl ?_
  refine zc_static (n' := (0, 0)) (md' := mX11_in) 9 dX11_isTray_6 tw_906 zs_X11_in (s_X11_in B h _ _ _) rfl rfl rfl rfl rfl rfl rfl rfl (zk_f ?_)
  exact zr_int hZ dX11_isTray_9 rfl zB_nar ⟨rfl, rfl⟩

set_option maxHeartbeats 4000000 in
set_option maxRecDepth 100000 in
theorem s_X11_isSlot (B : zBB) (h : zHp) (i : Int32) : zSpec mX11_isSlot B (1, 0, 0) [.int i] h (zPf (some (.int (if zIn i.toInt64 0 19 then 1 else 0))) h) := by
  refine zSpec.of (by decide) (Nat.le_of_ble_eq_true rfl) (fun X hZ => ?_)
  show zG X mX11_isSlot B (1, 0, 0) (0, 0) 0 [(0, .int i)] [] h
  refine zi_iload_n 1 dX11_isSlot_0 rfl rfl ?_
  refine zi_i2l 2 dX11_isSlot_1 rfl ?_
  refine zi_lconst (v := 0) 3 dX11_isSlot_2 (by decide) rfl ?_
  refine zi_ldc2 6 dX11_isSlot_3 tw_940 rfl ?_
  refine zc_static (n' := (0, 0)) (md' := mX11_in) 9 dX11_isSlot_6 tw_906 zs_X11_in (s_X11_in B h _ _ _) rfl rfl rfl rfl rfl rfl rfl rfl (zk_f ?_)
  exact zr_int hZ dX11_isSlot_9 rfl zB_nar ⟨rfl, rfl⟩

set_option maxHeartbeats 4000000 in
set_option maxRecDepth 100000 in
theorem s_J9_floorDiv_f86c9 (B : zBB) (h : zHp) (a b : Int) (ha : iB a) (hb : iB b) (h0 : 0 < b) (h1 : -9223372036854775808 < a) : zSpec mJ9_floorDiv_f86c9 B (0, 0, 0) [.long (iz a), .long (iz b)] h (zPf (some (.long (iz (a / b)))) h) := by
  refine zSpec.ofF (by decide +kernel) (Nat.le_of_ble_eq_true rfl) (fun X hZ => ?_)
  show zG X mJ9_floorDiv_f86c9 B (0, 0, 0) (0, 0) 0 [(0, .long (iz a)), (2, .long (iz b))] [] h
  refine zi_lload_n 1 dJ9_floorDiv_f86c9_0 rfl rfl ?_
  refine zi_lload_n 2 dJ9_floorDiv_f86c9_1 rfl rfl ?_
  refine zi_ldiv 3 dJ9_floorDiv_f86c9_2 (fun e => by rw [iz_0, iz_inj hb (by decide)] at e; omega) rfl ?_
  rw [iz_div ha hb h1]
  refine zi_lstore (lv' := [(4, _), (0, _), (2, _)]) 5 dJ9_floorDiv_f86c9_3 rfl rfl rfl ?_
  refine zi_lload_n 6 dJ9_floorDiv_f86c9_5 rfl rfl ?_
  refine zi_lload_n 7 dJ9_floorDiv_f86c9_6 rfl rfl ?_
  refine zi_lxor 8 dJ9_floorDiv_f86c9_7 rfl ?_
  refine zi_lconst (v := 0) 9 dJ9_floorDiv_f86c9_8 (by decide) rfl ?_
  refine zj_ge 13 27 dJ9_floorDiv_f86c9_9 rfl dJ9_floorDiv_f86c9_10 (by decide) rfl (fun cX => ?_) (fun cX => ?_)
  ·
    refine zi_lload 29 dJ9_floorDiv_f86c9_27 rfl rfl ?_
    exact zr_long hZ dJ9_floorDiv_f86c9_29 rfl ⟨by first | rw [z_fd1 h0 (Or.inl ((z_xor ha hb h0).mp cX))] | rw [z_fd1 h0 (Or.inr (zfdx ha hb h0 cQ))], rfl⟩
  ·
    refine zi_lload 15 dJ9_floorDiv_f86c9_13 rfl rfl ?_
    refine zi_lload_n 16 dJ9_floorDiv_f86c9_15 rfl rfl ?_
    refine zi_lmul 17 dJ9_floorDiv_f86c9_16 rfl ?_
    refine zi_lload_n 18 dJ9_floorDiv_f86c9_17 rfl rfl ?_
    refine zj_eq 22 27 dJ9_floorDiv_f86c9_18 rfl dJ9_floorDiv_f86c9_19 (by decide) rfl (fun cQ => ?_) (fun cQ => ?_)
    ·
      refine zi_lload 29 dJ9_floorDiv_f86c9_27 rfl rfl ?_
      exact zr_long hZ dJ9_floorDiv_f86c9_29 rfl ⟨by first | rw [z_fd1 h0 (Or.inl ((z_xor ha hb h0).mp cX))] | rw [z_fd1 h0 (Or.inr (zfdx ha hb h0 cQ))], rfl⟩
    ·
      refine zi_lload 24 dJ9_floorDiv_f86c9_22 rfl rfl ?_
      refine zi_lconst (v := 1) 25 dJ9_floorDiv_f86c9_24 (by decide) rfl ?_
      refine zi_lsub 26 dJ9_floorDiv_f86c9_25 rfl ?_
      exact zr_long hZ dJ9_floorDiv_f86c9_26 rfl ⟨by rw [iz_0] at cX; rw [iz_1, iz_sub, z_fd2 h0 (fun q => absurd ((z_xor ha hb h0).mpr q) cX) (fun q => cQ (by rw [iz_mul, q]))], rfl⟩

set_option maxHeartbeats 4000000 in
set_option maxRecDepth 100000 in
theorem s_J9_floorMod_f86c9 (B : zBB) (h : zHp) (a b : Int) (ha : iB a) (hb : iB b) (h0 : 0 < b) (h1 : -9223372036854775808 < a) : zSpec mJ9_floorMod_f86c9 B (0, 0, 0) [.long (iz a), .long (iz b)] h (zPf (some (.long (iz (a % b)))) h) := by
  refine zSpec.ofF (by decide +kernel) (Nat.le_of_ble_eq_true rfl) (fun X hZ => ?_)
  show zG X mJ9_floorMod_f86c9 B (0, 0, 0) (0, 0) 0 [(0, .long (iz a)), (2, .long (iz b))] [] h
  refine zi_lload_n 1 dJ9_floorMod_f86c9_0 rfl rfl ?_
  refine zi_lload_n 2 dJ9_floorMod_f86c9_1 rfl rfl ?_
  refine zi_lrem 3 dJ9_floorMod_f86c9_2 (fun e => by rw [iz_0, iz_inj hb (by decide)] at e; omega) rfl ?_
  rw [iz_rem ha hb h1]
  refine zi_lstore (lv' := [(4, _), (0, _), (2, _)]) 5 dJ9_floorMod_f86c9_3 rfl rfl rfl ?_
  refine zi_lload_n 6 dJ9_floorMod_f86c9_5 rfl rfl ?_
  refine zi_lload_n 7 dJ9_floorMod_f86c9_6 rfl rfl ?_
  refine zi_lxor 8 dJ9_floorMod_f86c9_7 rfl ?_
  refine zi_lconst (v := 0) 9 dJ9_floorMod_f86c9_8 (by decide) rfl ?_
  refine zj_ge 13 25 dJ9_floorMod_f86c9_9 rfl dJ9_floorMod_f86c9_10 (by decide) rfl (fun cX => ?_) (fun cX => ?_)
  ·
    refine zi_lload 27 dJ9_floorMod_f86c9_25 rfl rfl ?_
    exact zr_long hZ dJ9_floorMod_f86c9_27 rfl ⟨by first | rw [z_fm1 h0 (Or.inl ((z_xor ha hb h0).mp cX))] | rw [z_fm1 h0 (Or.inr (zfmx ha hb h0 cQ))], rfl⟩
  ·
    refine zi_lload 15 dJ9_floorMod_f86c9_13 rfl rfl ?_
    refine zi_lconst (v := 0) 16 dJ9_floorMod_f86c9_15 (by decide) rfl ?_
    refine zj_eq 20 25 dJ9_floorMod_f86c9_16 rfl dJ9_floorMod_f86c9_17 (by decide) rfl (fun cQ => ?_) (fun cQ => ?_)
    ·
      refine zi_lload 27 dJ9_floorMod_f86c9_25 rfl rfl ?_
      exact zr_long hZ dJ9_floorMod_f86c9_27 rfl ⟨by first | rw [z_fm1 h0 (Or.inl ((z_xor ha hb h0).mp cX))] | rw [z_fm1 h0 (Or.inr (zfmx ha hb h0 cQ))], rfl⟩
    ·
      refine zi_lload 22 dJ9_floorMod_f86c9_20 rfl rfl ?_
      refine zi_lload_n 23 dJ9_floorMod_f86c9_22 rfl rfl ?_
      refine zi_ladd 24 dJ9_floorMod_f86c9_23 rfl ?_
      exact zr_long hZ dJ9_floorMod_f86c9_24 rfl ⟨by rw [iz_add, z_fm2 h0 (fun q => absurd ((z_xor ha hb h0).mpr q) cX) (fun q => cQ (by rw [q]; rfl))], rfl⟩

set_option maxHeartbeats 4000000 in
set_option maxRecDepth 100000 in
theorem s_X11_down (B : zBB) (h : zHp) (a b : Int) (ha : iB a) (hb : iB b) (h0 : 0 < b) (h1 : -9223372036854775808 < a) : zSpec mX11_down B (0, 0, 0) [.long (iz a), .long (iz b)] h (zPf (some (.long (iz (a / b)))) h) := by
  refine zSpec.of (by decide) (Nat.le_of_ble_eq_true rfl) (fun X hZ => ?_)
  show zG X mX11_down B (0, 0, 0) (0, 0) 0 [(0, .long (iz a)), (2, .long (iz b))] [] h
  refine zi_lload_n 1 dX11_down_0 rfl rfl ?_
  refine zi_lload_n 2 dX11_down_1 rfl rfl ?_
  refine zi_ldiv 3 dX11_down_2 (fun e => by rw [iz_0, iz_inj hb (by decide)] at e; omega) rfl ?_
  rw [iz_div ha hb h1]
  refine zi_lstore (lv' := [(4, _), (0, _), (2, _)]) 5 dX11_down_3 rfl rfl rfl ?_
  refine zi_lload_n 6 dX11_down_5 rfl rfl ?_
  refine zi_lload_n 7 dX11_down_6 rfl rfl ?_
  refine zi_lrem 8 dX11_down_7 (fun e => by rw [iz_0, iz_inj hb (by decide)] at e; omega) rfl ?_
  rw [iz_rem ha hb h1]
  refine zi_lconst (v := 0) 9 dX11_down_8 (by decide) rfl ?_
  refine zj_ge 13 20 dX11_down_9 rfl dX11_down_10 (by decide) rfl (fun cR => ?_) (fun cR => ?_)
  ·
    refine zi_lload 22 dX11_down_20 rfl rfl ?_
    exact zr_long hZ dX11_down_22 rfl ⟨by first | rw [z_dn1 h0 (fun q => absurd cR (zdnx ha hb h0 q))] | rw [iz_1, iz_sub, z_dn2 h0 (zdny ha hb h0 cR)], rfl⟩
  ·
    refine zi_lload 15 dX11_down_13 rfl rfl ?_
    refine zi_lconst (v := 1) 16 dX11_down_15 (by decide) rfl ?_
    refine zi_lsub 17 dX11_down_16 rfl ?_
    refine zi_goto 22 dX11_down_17 (by decide) ?_
    exact zr_long hZ dX11_down_22 rfl ⟨by first | rw [z_dn1 h0 (fun q => absurd cR (zdnx ha hb h0 q))] | rw [iz_1, iz_sub, z_dn2 h0 (zdny ha hb h0 cR)], rfl⟩

set_option maxHeartbeats 4000000 in
set_option maxRecDepth 100000 in
theorem s_X3_between (B : zBB) (h : zHp) (a fr : Nat) (b : Nat) (q r s : Nat) (F T : z4) (ha : h a = some (zO 3 [.ref q, .ref r, .ref fr, .ref s])) (hf : h fr = some (zFo F)) (hb : h b = some (zFo T)) (l : Int64) : zSpec mX3_between B (0, 0, 0) [.ref a, .ref b, .long l] h (zPf (some (.long (zBt F T l))) h) := by
  refine zSpec.of (by decide) (Nat.le_of_ble_eq_true rfl) (fun X hZ => ?_)
  show zG X mX3_between B (0, 0, 0) (0, 0) 0 [(0, .ref a), (1, .ref b), (2, .long l)] [] h
  refine zi_aload_n 1 dX3_between_0 rfl rfl ?_
  refine zi_getfield 4 2 dX3_between_1 zcl_X3 tw_146 rfl rfl ha rfl rfl ?_
  refine zi_getfield 7 0 dX3_between_4 zcl_X4 tw_105 rfl rfl hf rfl rfl ?_
  refine zi_aload_n 8 dX3_between_7 rfl rfl ?_
  refine zi_getfield 11 0 dX3_between_8 zcl_X4 tw_105 rfl rfl hb rfl rfl ?_
  refine zi_lload_n 12 dX3_between_11 rfl rfl ?_
  refine zi_lmul 13 dX3_between_12 rfl ?_
  refine zi_lsub 14 dX3_between_13 rfl ?_
  refine zi_lstore (lv' := [(4, _), (0, _), (1, _), (2, _)]) 16 dX3_between_14 rfl rfl rfl ?_
  refine zi_aload_n 17 dX3_between_16 rfl rfl ?_
  refine zi_getfield 20 2 dX3_between_17 zcl_X3 tw_146 rfl rfl ha rfl rfl ?_
  refine zi_getfield 23 1 dX3_between_20 zcl_X4 tw_110 rfl rfl hf rfl rfl ?_
  refine zi_aload_n 24 dX3_between_23 rfl rfl ?_
  refine zi_getfield 27 1 dX3_between_24 zcl_X4 tw_110 rfl rfl hb rfl rfl ?_
  refine zi_lload_n 28 dX3_between_27 rfl rfl ?_
  refine zi_lmul 29 dX3_between_28 rfl ?_
  refine zi_lsub 30 dX3_between_29 rfl ?_
  refine zi_lstore (lv' := [(6, _), (4, _), (0, _), (1, _), (2, _)]) 32 dX3_between_30 rfl rfl rfl ?_
  refine zi_aload_n 33 dX3_between_32 rfl rfl ?_
  refine zi_getfield 36 2 dX3_between_33 zcl_X3 tw_146 rfl rfl ha rfl rfl ?_
  refine zi_getfield 39 2 dX3_between_36 zcl_X4 tw_115 rfl rfl hf rfl rfl ?_
  refine zi_aload_n 40 dX3_between_39 rfl rfl ?_
  refine zi_getfield 43 2 dX3_between_40 zcl_X4 tw_115 rfl rfl hb rfl rfl ?_
  refine zi_lload_n 44 dX3_between_43 rfl rfl ?_
  refine zi_lmul 45 dX3_between_44 rfl ?_
  refine zi_lsub 46 dX3_between_45 rfl ?_
  refine zi_lstore (lv' := [(8, _), (6, _), (4, _), (0, _), (1, _), (2, _)]) 48 dX3_between_46 rfl rfl rfl ?_
  refine zi_aload_n 49 dX3_between_48 rfl rfl ?_
  refine zi_getfield 52 2 dX3_between_49 zcl_X3 tw_146 rfl rfl ha rfl rfl ?_
  refine zi_getfield 55 3 dX3_between_52 zcl_X4 tw_120 rfl rfl hf rfl rfl ?_
  refine zi_aload_n 56 dX3_between_55 rfl rfl ?_
  refine zi_getfield 59 3 dX3_between_56 zcl_X4 tw_120 rfl rfl hb rfl rfl ?_
  refine zi_lload_n 60 dX3_between_59 rfl rfl ?_
  refine zi_lmul 61 dX3_between_60 rfl ?_
  refine zi_lsub 62 dX3_between_61 rfl ?_
  refine zi_lstore (lv' := [(10, _), (8, _), (6, _), (4, _), (0, _), (1, _), (2, _)]) 64 dX3_between_62 rfl rfl rfl ?_
  refine zi_lload 66 dX3_between_64 rfl rfl ?_
  refine zi_lload 68 dX3_between_66 rfl rfl ?_
  refine zi_lmul 69 dX3_between_68 rfl ?_
  refine zi_lload 71 dX3_between_69 rfl rfl ?_
  refine zi_lload 73 dX3_between_71 rfl rfl ?_
  refine zi_lmul 74 dX3_between_73 rfl ?_
  refine zi_ladd 75 dX3_between_74 rfl ?_
  refine zi_lload 77 dX3_between_75 rfl rfl ?_
  refine zi_lload 79 dX3_between_77 rfl rfl ?_
  refine zi_lmul 80 dX3_between_79 rfl ?_
  refine zi_ladd 81 dX3_between_80 rfl ?_
  refine zi_lload 83 dX3_between_81 rfl rfl ?_
  refine zi_lload 85 dX3_between_83 rfl rfl ?_
  refine zi_lmul 86 dX3_between_85 rfl ?_
  refine zi_ladd 87 dX3_between_86 rfl ?_
  exact zr_long hZ dX3_between_87 rfl ⟨rfl, rfl⟩

set_option maxHeartbeats 4000000 in
set_option maxRecDepth 100000 in
theorem s_X3_nearest (B : zBB) (h : zHp) (u m : Int) (h0 : 0 < m) (hm : m < 2305843009213693952) (hu : -4611686018427387904 < u) (hu2 : u < 4611686018427387904) : zSpec mX3_nearest B (1, 0, 0) [.long (iz u), .long (iz m)] h (zPf (some (.long (iz (2 * ((u + m) / (2 * m)))))) h) := by
  refine zSpec.of (by decide) (Nat.le_of_ble_eq_true rfl) (fun X hZ => ?_)
  show zG X mX3_nearest B (1, 0, 0) (0, 0) 0 [(0, .long (iz u)), (2, .long (iz m))] [] h
  refine zi_lload_n 1 dX3_nearest_0 rfl rfl ?_
  refine zi_lconst (v := 0) 2 dX3_nearest_1 (by decide) rfl ?_
  refine zj_ne 6 10 dX3_nearest_2 rfl dX3_nearest_3 (by decide) rfl (fun c_3 => ?_) (fun c_3 => absurd c_3 (fun e => by rw [iz_0, iz_inj (by omega) (by decide)] at e; omega))
  refine zi_ldc2 13 dX3_nearest_10 tw_640 rfl ?_
  refine zi_lload_n 14 dX3_nearest_13 rfl rfl ?_
  refine zi_lload_n 15 dX3_nearest_14 rfl rfl ?_
  refine zi_ladd 16 dX3_nearest_15 rfl ?_
  refine zi_ldc2 19 dX3_nearest_16 tw_640 rfl ?_
  refine zi_lload_n 20 dX3_nearest_19 rfl rfl ?_
  refine zi_lmul 21 dX3_nearest_20 rfl ?_
  rw [iz_2, iz_add, iz_mul]
  refine zc_static (n' := (0, 0)) (md' := mJ9_floorDiv_f86c9) 24 dX3_nearest_21 tw_641 zs_J9_floorDiv_f86c9 (s_J9_floorDiv_f86c9 B h (u + m) (2 * m) (by omega) (by omega) (by omega) (by omega)) rfl rfl rfl rfl rfl rfl rfl rfl (zk_f ?_)
  refine zi_lmul 25 dX3_nearest_24 rfl ?_
  exact zr_long hZ dX3_nearest_25 rfl ⟨by rw [iz_mul], rfl⟩

set_option maxHeartbeats 4000000 in
set_option maxRecDepth 100000 in
theorem s_X3_half (B : zBB) (h : zHp) (u m : Int) (h0 : 0 < m) (hm : m < 2305843009213693952) (hu : -4611686018427387904 < u) (hu2 : u < 4611686018427387904) : zSpec mX3_half B (1, 0, 0) [.long (iz u), .long (iz m)] h (zPf (some (.long (iz (2 * (u / (2 * m)) + 1)))) h) := by
  refine zSpec.of (by decide) (Nat.le_of_ble_eq_true rfl) (fun X hZ => ?_)
  show zG X mX3_half B (1, 0, 0) (0, 0) 0 [(0, .long (iz u)), (2, .long (iz m))] [] h
  refine zi_lload_n 1 dX3_half_0 rfl rfl ?_
  refine zi_lconst (v := 0) 2 dX3_half_1 (by decide) rfl ?_
  refine zj_ne 6 10 dX3_half_2 rfl dX3_half_3 (by decide) rfl (fun c_3 => ?_) (fun c_3 => absurd c_3 (fun e => by rw [iz_0, iz_inj (by omega) (by decide)] at e; omega))
  refine zi_ldc2 13 dX3_half_10 tw_640 rfl ?_
  refine zi_lload_n 14 dX3_half_13 rfl rfl ?_
  refine zi_ldc2 17 dX3_half_14 tw_640 rfl ?_
  refine zi_lload_n 18 dX3_half_17 rfl rfl ?_
  refine zi_lmul 19 dX3_half_18 rfl ?_
  rw [iz_2, iz_mul]
  refine zc_static (n' := (0, 0)) (md' := mJ9_floorDiv_f86c9) 22 dX3_half_19 tw_641 zs_J9_floorDiv_f86c9 (s_J9_floorDiv_f86c9 B h u (2 * m) (by omega) (by omega) (by omega) (by omega)) rfl rfl rfl rfl rfl rfl rfl rfl (zk_f ?_)
  refine zi_lmul 23 dX3_half_22 rfl ?_
  refine zi_lconst (v := 1) 24 dX3_half_23 (by decide) rfl ?_
  refine zi_ladd 25 dX3_half_24 rfl ?_
  exact zr_long hZ dX3_half_25 rfl ⟨by rw [iz_mul, iz_1, iz_add], rfl⟩

set_option maxHeartbeats 4000000 in
set_option maxRecDepth 100000 in
theorem s_X4_numbersDivisor (B : zBB) (h : zHp) (a : Nat) (P : z4) (ha : h a = some (zFo P)) (hP : zNm4 P) : zSpec mX4_numbersDivisor B (2, 0, 0) [.ref a] h (zPf (some (.long (zG4 P))) h) := by
  refine zSpec.of (by decide) (Nat.le_of_ble_eq_true rfl) (fun X hZ => ?_)
  show zG X mX4_numbersDivisor B (2, 0, 0) (0, 0) 0 [(0, .ref a)] [] h
  refine zi_aload_n 1 dX4_numbersDivisor_0 rfl rfl ?_
  refine zi_getfield 4 0 dX4_numbersDivisor_1 zcl_X4 tw_103 rfl rfl ha rfl rfl ?_
  refine zi_aload_n 5 dX4_numbersDivisor_4 rfl rfl ?_
  refine zi_getfield 8 1 dX4_numbersDivisor_5 zcl_X4 tw_108 rfl rfl ha rfl rfl ?_
  refine zc_staticN (n' := (0, 0)) (md' := mX10_commonDivisor) 11 dX4_numbersDivisor_8 (by decide) zs_X10_commonDivisor (s_X10_commonDivisor B h _ _ hP.1 hP.2.1) rfl rfl rfl rfl rfl rfl rfl rfl (zk_f ?_)
  refine zi_aload_n 12 dX4_numbersDivisor_11 rfl rfl ?_
  refine zi_getfield 15 2 dX4_numbersDivisor_12 zcl_X4 tw_113 rfl rfl ha rfl rfl ?_
  refine zi_aload_n 16 dX4_numbersDivisor_15 rfl rfl ?_
  refine zi_getfield 19 3 dX4_numbersDivisor_16 zcl_X4 tw_118 rfl rfl ha rfl rfl ?_
  refine zc_staticN (n' := (0, 0)) (md' := mX10_commonDivisor) 22 dX4_numbersDivisor_19 (by decide) zs_X10_commonDivisor (s_X10_commonDivisor B h _ _ hP.2.2.1 hP.2.2.2) rfl rfl rfl rfl rfl rfl rfl rfl (zk_f ?_)
  refine zc_staticN (n' := (0, 0)) (md' := mX10_commonDivisor) 25 dX4_numbersDivisor_22 (by decide) zs_X10_commonDivisor (s_X10_commonDivisor B h _ _ (zGcd_nm hP.1 hP.2.1) (zGcd_nm hP.2.2.1 hP.2.2.2)) rfl rfl rfl rfl rfl rfl rfl rfl (zk_f ?_)
  exact zr_long hZ dX4_numbersDivisor_25 rfl ⟨rfl, rfl⟩

set_option maxHeartbeats 4000000 in
set_option maxRecDepth 100000 in
theorem s_X4_wholeDivisor (B : zBB) (h : zHp) (a : Nat) (P : z4) (ha : h a = some (zFo P)) (hP : zNm4 P) : zSpec mX4_wholeDivisor B (3, 0, 0) [.ref a] h (zPf (some (.long (zWh P))) h) := by
  refine zSpec.of (by decide) (Nat.le_of_ble_eq_true rfl) (fun X hZ => ?_)
  show zG X mX4_wholeDivisor B (3, 0, 0) (0, 0) 0 [(0, .ref a)] [] h
  refine zi_aload_n 1 dX4_wholeDivisor_0 rfl rfl ?_
  refine zc_virtual (n' := (0, 0)) (md' := mX4_numbersDivisor) 4 dX4_wholeDivisor_1 tw_465 zv_X4_numbersDivisor zcl_X4 (s_X4_numbersDivisor B h a P ha hP) ha rfl rfl rfl rfl rfl rfl rfl rfl (zk_f ?_)
  refine zi_lstore_n (lv' := [(1, _), (0, _)]) 5 dX4_wholeDivisor_4 rfl rfl rfl ?_
  refine zi_lload_n 6 dX4_wholeDivisor_5 rfl rfl ?_
  refine zi_lconst (v := 0) 7 dX4_wholeDivisor_6 (by decide) rfl ?_
  refine zj_ne 11 13 dX4_wholeDivisor_7 rfl dX4_wholeDivisor_8 (by decide) rfl (fun c0 => ?_) (fun c0 => ?_)
  ·
    refine zi_aload_n 14 dX4_wholeDivisor_13 rfl rfl ?_
    refine zi_getfield 17 0 dX4_wholeDivisor_14 zcl_X4 tw_103 rfl rfl ha rfl rfl ?_
    refine zi_lload_n 18 dX4_wholeDivisor_17 rfl rfl ?_
    refine zi_ldiv 19 dX4_wholeDivisor_18 c0 rfl ?_
    refine zi_aload_n 20 dX4_wholeDivisor_19 rfl rfl ?_
    refine zi_getfield 23 1 dX4_wholeDivisor_20 zcl_X4 tw_108 rfl rfl ha rfl rfl ?_
    refine zi_lload_n 24 dX4_wholeDivisor_23 rfl rfl ?_
    refine zi_ldiv 25 dX4_wholeDivisor_24 c0 rfl ?_
    refine zi_land 26 dX4_wholeDivisor_25 rfl ?_
    refine zi_aload_n 27 dX4_wholeDivisor_26 rfl rfl ?_
    refine zi_getfield 30 2 dX4_wholeDivisor_27 zcl_X4 tw_113 rfl rfl ha rfl rfl ?_
    refine zi_lload_n 31 dX4_wholeDivisor_30 rfl rfl ?_
    refine zi_ldiv 32 dX4_wholeDivisor_31 c0 rfl ?_
    refine zi_land 33 dX4_wholeDivisor_32 rfl ?_
    refine zi_aload_n 34 dX4_wholeDivisor_33 rfl rfl ?_
    refine zi_getfield 37 3 dX4_wholeDivisor_34 zcl_X4 tw_118 rfl rfl ha rfl rfl ?_
    refine zi_lload_n 38 dX4_wholeDivisor_37 rfl rfl ?_
    refine zi_ldiv 39 dX4_wholeDivisor_38 c0 rfl ?_
    refine zi_land 40 dX4_wholeDivisor_39 rfl ?_
    refine zi_lconst (v := 1) 41 dX4_wholeDivisor_40 (by decide) rfl ?_
    refine zi_land 42 dX4_wholeDivisor_41 rfl ?_
    refine zi_lconst (v := 1) 43 dX4_wholeDivisor_42 (by decide) rfl ?_
    refine zj_ne 47 51 dX4_wholeDivisor_43 rfl dX4_wholeDivisor_44 (by decide) rfl (fun cO => ?_) (fun cO => ?_)
    ·
      refine zi_iconst (v := 0) 52 dX4_wholeDivisor_51 (by decide) rfl ?_
      refine zi_istore_n (lv' := [(3, _), (1, _), (0, _)]) 53 dX4_wholeDivisor_52 rfl rfl rfl ?_
      refine zi_iload_n 54 dX4_wholeDivisor_53 rfl rfl ?_
      refine zi_if_eq 57 61 dX4_wholeDivisor_54 (by decide) rfl (fun c_54 => ?_) (fun c_54 => absurd c_54 (by decide))
      refine zi_lload_n 62 dX4_wholeDivisor_61 rfl rfl ?_
      refine zi_ldc2 65 dX4_wholeDivisor_62 tw_476 rfl ?_
      refine zi_ldiv 66 dX4_wholeDivisor_65 (by decide) rfl ?_
      exact zr_long hZ dX4_wholeDivisor_66 rfl ⟨by simp [zWh, c0, cO], rfl⟩
    ·
      refine zi_iconst (v := 1) 48 dX4_wholeDivisor_47 (by decide) rfl ?_
      refine zi_goto 52 dX4_wholeDivisor_48 (by decide) ?_
      refine zi_istore_n (lv' := [(3, _), (1, _), (0, _)]) 53 dX4_wholeDivisor_52 rfl rfl rfl ?_
      refine zi_iload_n 54 dX4_wholeDivisor_53 rfl rfl ?_
      refine zi_if_eq 57 61 dX4_wholeDivisor_54 (by decide) rfl (fun c_54 => absurd c_54 (by decide)) (fun c_54 => ?_)
      refine zi_lload_n 58 dX4_wholeDivisor_57 rfl rfl ?_
      refine zi_goto 66 dX4_wholeDivisor_58 (by decide) ?_
      exact zr_long hZ dX4_wholeDivisor_66 rfl ⟨by simp [zWh, c0, cO], rfl⟩
  ·
    refine zi_lconst (v := 0) 12 dX4_wholeDivisor_11 (by decide) rfl ?_
    exact zr_long hZ dX4_wholeDivisor_12 rfl ⟨by simp [zWh, c0], rfl⟩

set_option maxHeartbeats 4000000 in
set_option maxRecDepth 100000 in
theorem s_X8_upper (B : zBB) (h : zHp) (a q : Nat) (l : Int64) (u : Nat → Int64) (ha : h a = some (zO 8 [.long l, .ref q])) (hq : h q = some (zJ B 9 u)) (r c : Nat) (hr : r < 3) (hc : c < 3) : zSpec mX8_upper B (1, 0, 0) [.ref a, .int (nI r), .int (nI c)] h (zPf (some (.long (u (3 * r + c)))) h) := by
  refine zSpec.of (by decide) (Nat.le_of_ble_eq_true rfl) (fun X hZ => ?_)
  show zG X mX8_upper B (1, 0, 0) (0, 0) 0 [(0, .ref a), (1, .int (nI r)), (2, .int (nI c))] [] h
  refine zi_iload_n 1 dX8_upper_0 rfl rfl ?_
  refine zi_iconst (v := 3) 2 dX8_upper_1 (by decide) rfl ?_
  refine zc_staticN (n' := (0, 0)) (md' := mX10_outside) 5 dX8_upper_2 (by decide) zs_X10_outside (s_X10_outside B h _ _) rfl rfl rfl rfl rfl rfl rfl rfl (zk_f ?_)
  refine zb_ne 8 16 dX8_upper_5 (by decide) rfl (fun c_5 => absurd c_5 (zout_in hr)) (fun c_5 => ?_)
  refine zi_iload_n 9 dX8_upper_8 rfl rfl ?_
  refine zi_iconst (v := 3) 10 dX8_upper_9 (by decide) rfl ?_
  refine zc_staticN (n' := (0, 0)) (md' := mX10_outside) 13 dX8_upper_10 (by decide) zs_X10_outside (s_X10_outside B h _ _) rfl rfl rfl rfl rfl rfl rfl rfl (zk_f ?_)
  refine zb_eq 16 18 dX8_upper_13 (by decide) rfl (fun c_13 => ?_) (fun c_13 => absurd c_13 (zout_in hc))
  refine zi_aload_n 19 dX8_upper_18 rfl rfl ?_
  refine zi_getfield 22 1 dX8_upper_19 zcl_X8 tw_261 rfl rfl ha rfl rfl ?_
  refine zi_iconst (v := 3) 23 dX8_upper_22 (by decide) rfl ?_
  refine zi_iload_n 24 dX8_upper_23 rfl rfl ?_
  refine zi_imul 25 dX8_upper_24 rfl ?_
  refine zi_iload_n 26 dX8_upper_25 rfl rfl ?_
  refine zi_iadd 27 dX8_upper_26 rfl ?_
  rw [show (3 : Int32) = nI 3 from rfl, pk_mul, nI_add]
  refine zi_laload 28 dX8_upper_27 hq (vp_in_nI (by omega) (by decide)) rfl ?_
  exact zr_long hZ dX8_upper_28 rfl ⟨by rw [nI_clamp (by omega)], rfl⟩

set_option maxHeartbeats 4000000 in
set_option maxRecDepth 100000 in
theorem s_X9_hasRun (B : zBB) (h : zHp) (a q : Nat) (l s : Int32) (u : Nat → Int64) (ha : h a = some (zO 9 [.ref q, .int l, .int s])) (hq : h q = some (zJ B 100 u)) (i m : Int32) : zSpec mX9_hasRun B (0, 0, 0) [.ref a, .int i, .int m] h (zPf (some (.int (if zRun i m s then 1 else 0))) h) := by
  refine zSpec.of (by decide) (Nat.le_of_ble_eq_true rfl) (fun X hZ => ?_)
  show zG X mX9_hasRun B (0, 0, 0) (0, 0) 0 [(0, .ref a), (1, .int i), (2, .int m)] [] h
  refine zi_iload_n 1 dX9_hasRun_0 rfl rfl ?_
  refine zi_if_lt 4 30 dX9_hasRun_1 (by decide) rfl (fun c_1 => ?_) (fun c_1 => ?_)
  ·
    refine zi_iconst (v := 0) 31 dX9_hasRun_30 (by decide) rfl ?_
    exact zr_int hZ dX9_hasRun_31 rfl (by decide) ⟨by first | (simp [zRun, z_nle32, z_nlt32, *]; done) | (simp_all [zRun, z_nle32, z_nlt32]; done) | (simp [zRun, z_nle32, z_nlt32, *]; intro q; exact absurd c_3 (z_nlt64.mpr q)), rfl⟩
  ·
    refine zi_iload_n 5 dX9_hasRun_4 rfl rfl ?_
    refine zi_if_lt 8 30 dX9_hasRun_5 (by decide) rfl (fun c_5 => ?_) (fun c_5 => ?_)
    ·
      refine zi_iconst (v := 0) 31 dX9_hasRun_30 (by decide) rfl ?_
      exact zr_int hZ dX9_hasRun_31 rfl (by decide) ⟨by first | (simp [zRun, z_nle32, z_nlt32, *]; done) | (simp_all [zRun, z_nle32, z_nlt32]; done) | (simp [zRun, z_nle32, z_nlt32, *]; intro q; exact absurd c_3 (z_nlt64.mpr q)), rfl⟩
    ·
      refine zi_iload_n 9 dX9_hasRun_8 rfl rfl ?_
      refine zi_aload_n 10 dX9_hasRun_9 rfl rfl ?_
      refine zi_getfield 13 2 dX9_hasRun_10 zcl_X9 tw_86 rfl rfl ha rfl rfl ?_
      refine zi_icmp_gt 16 30 dX9_hasRun_13 (by decide) rfl (fun c_13 => ?_) (fun c_13 => ?_)
      ·
        refine zi_iconst (v := 0) 31 dX9_hasRun_30 (by decide) rfl ?_
        exact zr_int hZ dX9_hasRun_31 rfl (by decide) ⟨by first | (simp [zRun, z_nle32, z_nlt32, *]; done) | (simp_all [zRun, z_nle32, z_nlt32]; done) | (simp [zRun, z_nle32, z_nlt32, *]; intro q; exact absurd c_3 (z_nlt64.mpr q)), rfl⟩
      ·
        refine zi_iload_n 17 dX9_hasRun_16 rfl rfl ?_
        refine zi_aload_n 18 dX9_hasRun_17 rfl rfl ?_
        refine zi_getfield 21 2 dX9_hasRun_18 zcl_X9 tw_86 rfl rfl ha rfl rfl ?_
        refine zi_iload_n 22 dX9_hasRun_21 rfl rfl ?_
        refine zi_isub 23 dX9_hasRun_22 rfl ?_
        refine zi_icmp_gt 26 30 dX9_hasRun_23 (by decide) rfl (fun c_23 => ?_) (fun c_23 => ?_)
        ·
          refine zi_iconst (v := 0) 31 dX9_hasRun_30 (by decide) rfl ?_
          exact zr_int hZ dX9_hasRun_31 rfl (by decide) ⟨by first | (simp [zRun, z_nle32, z_nlt32, *]; done) | (simp_all [zRun, z_nle32, z_nlt32]; done) | (simp [zRun, z_nle32, z_nlt32, *]; intro q; exact absurd c_3 (z_nlt64.mpr q)), rfl⟩
        ·
          refine zi_iconst (v := 1) 27 dX9_hasRun_26 (by decide) rfl ?_
          refine zi_goto 31 dX9_hasRun_27 (by decide) ?_
          exact zr_int hZ dX9_hasRun_31 rfl (by decide) ⟨by first | (simp [zRun, z_nle32, z_nlt32, *]; done) | (simp_all [zRun, z_nle32, z_nlt32]; done) | (simp [zRun, z_nle32, z_nlt32, *]; intro q; exact absurd c_3 (z_nlt64.mpr q)), rfl⟩

set_option maxHeartbeats 4000000 in
set_option maxRecDepth 100000 in
theorem s_X9_item (B : zBB) (h : zHp) (a q : Nat) (l s : Int32) (u : Nat → Int64) (ha : h a = some (zO 9 [.ref q, .int l, .int s])) (hq : h q = some (zJ B 100 u)) (i : Nat) (hi : i < 100) : zSpec mX9_item B (0, 0, 0) [.ref a, .int (nI i)] h (zPf (some (.long (u i))) h) := by
  refine zSpec.of (by decide) (Nat.le_of_ble_eq_true rfl) (fun X hZ => ?_)
  show zG X mX9_item B (0, 0, 0) (0, 0) 0 [(0, .ref a), (1, .int (nI i))] [] h
  refine zi_iload_n 1 dX9_item_0 rfl rfl ?_
  refine zi_if_lt 4 13 dX9_item_1 (by decide) rfl (fun c_1 => absurd c_1 (nI_pos (by omega))) (fun c_1 => ?_)
  refine zi_iload_n 5 dX9_item_4 rfl rfl ?_
  refine zi_aload_n 6 dX9_item_5 rfl rfl ?_
  refine zi_getfield 9 0 dX9_item_6 zcl_X9 tw_82 rfl rfl ha rfl rfl ?_
  refine zi_alenJ (v := 100) 10 dX9_item_9 hq rfl rfl ?_
  refine zi_icmp_lt 13 17 dX9_item_10 (by decide) rfl (fun c_10 => ?_) (fun c_10 => absurd (nI_lt hi (by decide)) c_10)
  refine zi_aload_n 18 dX9_item_17 rfl rfl ?_
  refine zi_getfield 21 0 dX9_item_18 zcl_X9 tw_82 rfl rfl ha rfl rfl ?_
  refine zi_iload_n 22 dX9_item_21 rfl rfl ?_
  refine zi_laload 23 dX9_item_22 hq (vp_in_nI hi (by decide)) rfl ?_
  exact zr_long hZ dX9_item_23 rfl ⟨by rw [nI_clamp (by omega)], rfl⟩

set_option maxHeartbeats 4000000 in
set_option maxRecDepth 100000 in
theorem s_X6_root (B : zBB) (h : zHp) (a q r : Nat) (ah : Int32) (u : Nat → Int32) (ha : h a = some (zO 6 [.ref r, .ref q, .int ah])) (hq : h q = some (zI B 601 u)) (i : Nat) (hi : i < 601) : zSpec mX6_root B (0, 0, 0) [.ref a, .int (nI i)] h (zPf (some (.int (u i))) h) := by
  refine zSpec.of (by decide) (Nat.le_of_ble_eq_true rfl) (fun X hZ => ?_)
  show zG X mX6_root B (0, 0, 0) (0, 0) 0 [(0, .ref a), (1, .int (nI i))] [] h
  refine zi_iload_n 1 dX6_root_0 rfl rfl ?_
  refine zi_if_lt 4 13 dX6_root_1 (by decide) rfl (fun c_1 => absurd c_1 (nI_pos (by omega))) (fun c_1 => ?_)
  refine zi_iload_n 5 dX6_root_4 rfl rfl ?_
  refine zi_aload_n 6 dX6_root_5 rfl rfl ?_
  refine zi_getfield 9 1 dX6_root_6 zcl_X6 tw_244 rfl rfl ha rfl rfl ?_
  refine zi_alenI (v := 601) 10 dX6_root_9 hq rfl rfl ?_
  refine zi_icmp_lt 13 17 dX6_root_10 (by decide) rfl (fun c_10 => ?_) (fun c_10 => absurd (nI_lt hi (by decide)) c_10)
  refine zi_aload_n 18 dX6_root_17 rfl rfl ?_
  refine zi_getfield 21 1 dX6_root_18 zcl_X6 tw_244 rfl rfl ha rfl rfl ?_
  refine zi_iload_n 22 dX6_root_21 rfl rfl ?_
  refine zi_iaload 23 dX6_root_22 hq (vp_in_nI hi (by decide)) rfl ?_
  exact zr_int hZ dX6_root_23 rfl rfl ⟨by rw [nI_clamp (by omega)], rfl⟩
