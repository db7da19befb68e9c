set_option maxHeartbeats 4000000 in
set_option maxRecDepth 100000 in
theorem s_J9_abs_067f4 (B : zBB) (h : zHp) (x : Int64) (hx : zNm1 x) : zSpec mJ9_abs_067f4 B (0, 0, 0) [.long x] h (zPf (some (.long (zAbs x))) h) := by
  refine zSpec.ofF (by decide +kernel) (Nat.le_of_ble_eq_true rfl) (fun X hZ => ?_)
  show zG X mJ9_abs_067f4 B (0, 0, 0) (0, 0) 0 [(0, .long x)] [] h
  refine zi_lload_n 1 dJ9_abs_067f4_0 rfl rfl ?_
  refine zi_lconst (v := 0) 2 dJ9_abs_067f4_1 (by decide) rfl ?_
  refine zj_ge 6 11 dJ9_abs_067f4_2 rfl dJ9_abs_067f4_3 (by decide) rfl (fun c_3 => ?_) (fun c_3 => ?_)
  ·
    refine zi_lload_n 12 dJ9_abs_067f4_11 rfl rfl ?_
    exact zr_long hZ dJ9_abs_067f4_12 rfl ⟨by first | rw [← (zAbs_of hx).1 c_3] | rw [(zAbs_of hx).2 c_3], rfl⟩
  ·
    refine zi_lload_n 7 dJ9_abs_067f4_6 rfl rfl ?_
    refine zi_lneg 8 dJ9_abs_067f4_7 rfl ?_
    refine zi_goto 12 dJ9_abs_067f4_8 (by decide) ?_
    exact zr_long hZ dJ9_abs_067f4_12 rfl ⟨by first | rw [← (zAbs_of hx).1 c_3] | rw [(zAbs_of hx).2 c_3], rfl⟩

theorem l_X10_commonDivisor (B : zBB) (h : zHp) (X : zX) (a b : Int64) (hZ : zIsP X mX10_commonDivisor B (0, 0) (zPf (some (.long (zGcd a b))) h)) : ∀ (n l g i k : Nat), l < n → Nat.gcd g l = Nat.gcd a.toInt.natAbs b.toInt.natAbs → g < 2 ^ 63 → l < 2 ^ 63 → g * l < 2 ^ k → i + k + (if l ≤ g then 0 else 1) ≤ 1000000 → zG X mX10_commonDivisor B (1, 0, 0) (0, 0) 15 [(8, .int (nI i)), (6, .long (lN l)), (4, .long (lN g)), (0, .long a), (2, .long b)] [] h := by
  intro n
  induction n with
  | zero => intro l g i k hn; omega
  | succ n ih =>
    intro l g i k hn hG hg hl hk hi
    refine zi_iload 17 dX10_commonDivisor_15 rfl rfl ?_
    refine zi_ldc 19 dX10_commonDivisor_17 tw_475 rfl ?_
    refine zi_icmp_ge 22 50 dX10_commonDivisor_19 (by decide) rfl (fun cS => ?_) (fun cS => ?_)
    ·
      have hl0 : l = 0 := zGcd_end hk hi (by rw [show (1000000 : Int32) = nI 1000000 from rfl, nI_leI (by omega) (by omega)] at cS; exact cS)
      subst hl0
      refine zi_lload 52 dX10_commonDivisor_50 rfl rfl ?_
      exact zr_long hZ dX10_commonDivisor_52 rfl ⟨by rw [zGcd, ← hG, Nat.gcd_zero_right], rfl⟩
    ·
      refine zi_lload 24 dX10_commonDivisor_22 rfl rfl ?_
      refine zi_lconst (v := 0) 25 dX10_commonDivisor_24 (by decide) rfl ?_
      refine zj_eq 29 50 dX10_commonDivisor_25 rfl dX10_commonDivisor_26 (by decide) rfl (fun cL => ?_) (fun cL => ?_)
      ·
        have hl0 : l = 0 := by rw [show (0 : Int64) = lN 0 from rfl, pk_lEQ hl (by omega)] at cL; exact cL
        subst hl0
        refine zi_lload 52 dX10_commonDivisor_50 rfl rfl ?_
        exact zr_long hZ dX10_commonDivisor_52 rfl ⟨by rw [zGcd, ← hG, Nat.gcd_zero_right], rfl⟩
      ·
        have hl0 : l ≠ 0 := fun q => cL (by rw [q]; rfl)
        obtain ⟨k', hk', hi'⟩ := zGcd_fuel hl0 hk hi
        refine zi_lload 31 dX10_commonDivisor_29 rfl rfl ?_
        refine zi_lload 33 dX10_commonDivisor_31 rfl rfl ?_
        refine zi_lrem 34 dX10_commonDivisor_33 cL rfl ?_
        rw [pk_lRem hg (Nat.pos_of_ne_zero hl0) hl]
        refine zi_lstore (lv' := [(9, _), (8, _), (6, _), (4, _), (0, _), (2, _)]) 36 dX10_commonDivisor_34 rfl rfl rfl ?_
        refine zi_lload 38 dX10_commonDivisor_36 rfl rfl ?_
        refine zi_lstore (lv' := [(4, _), (9, _), (8, _), (6, _), (0, _), (2, _)]) 40 dX10_commonDivisor_38 rfl rfl rfl ?_
        refine zi_lload 42 dX10_commonDivisor_40 rfl rfl ?_
        refine zi_lstore (lv' := [(6, _), (4, _), (9, _), (8, _), (0, _), (2, _)]) 44 dX10_commonDivisor_42 rfl rfl rfl ?_
        refine zi_iinc (lv' := [(8, _), (6, _), (4, _), (9, _), (0, _), (2, _)]) 47 dX10_commonDivisor_44 rfl rfl rfl rfl rfl ?_
        refine zi_goto 15 dX10_commonDivisor_47 (by decide) ?_
        rw [show nI i + Int32.ofInt 1 = nI (i + 1) from nI_1 i]
        have hlt := Nat.mod_lt g (Nat.pos_of_ne_zero hl0)
        refine zi_lvm ?_ (ih (g % l) l (i + 1) k' (by omega) ((zGcd_step hl0).trans hG) hl (by omega) hk' hi')
        intro q hq
        simp only [List.mem_cons, List.not_mem_nil, or_false] at hq ⊢
        rcases hq with rfl | rfl | rfl | rfl | rfl <;> simp

set_option maxHeartbeats 4000000 in
set_option maxRecDepth 100000 in
theorem s_X10_commonDivisor (B : zBB) (h : zHp) (a b : Int64) (ha : zNm1 a) (hb : zNm1 b) : zSpec mX10_commonDivisor B (1, 0, 0) [.long a, .long b] h (zPf (some (.long (zGcd a b))) h) := by
  refine zSpec.of (by decide) (Nat.le_of_ble_eq_true rfl) (fun X hZ => ?_)
  show zG X mX10_commonDivisor B (1, 0, 0) (0, 0) 0 [(0, .long a), (2, .long b)] [] h
  refine zi_lload_n 1 dX10_commonDivisor_0 rfl rfl ?_
  refine zc_static (n' := (0, 0)) (md' := mJ9_abs_067f4) 4 dX10_commonDivisor_1 tw_472 zs_J9_abs_067f4 (s_J9_abs_067f4 B h a ha) rfl rfl rfl rfl rfl rfl rfl rfl (zk_f ?_)
  refine zi_lstore (lv' := [(4, _), (0, _), (2, _)]) 6 dX10_commonDivisor_4 rfl rfl rfl ?_
  refine zi_lload_n 7 dX10_commonDivisor_6 rfl rfl ?_
  refine zc_static (n' := (0, 0)) (md' := mJ9_abs_067f4) 10 dX10_commonDivisor_7 tw_472 zs_J9_abs_067f4 (s_J9_abs_067f4 B h b hb) rfl rfl rfl rfl rfl rfl rfl rfl (zk_f ?_)
  refine zi_lstore (lv' := [(6, _), (4, _), (0, _), (2, _)]) 12 dX10_commonDivisor_10 rfl rfl rfl ?_
  refine zi_iconst (v := 0) 13 dX10_commonDivisor_12 (by decide) rfl ?_
  refine zi_istore (lv' := [(8, _), (6, _), (4, _), (0, _), (2, _)]) 15 dX10_commonDivisor_13 rfl rfl rfl ?_
  have hA : a.toInt.natAbs < 2 ^ 63 := by have := a.toInt_lt; have := ha; omega
  have hB : b.toInt.natAbs < 2 ^ 63 := by have := b.toInt_lt; have := hb; omega
  refine l_X10_commonDivisor B h X a b hZ (b.toInt.natAbs + 1) b.toInt.natAbs a.toInt.natAbs 0 126 (Nat.lt_succ_self _) rfl hA hB ?_ (by split <;> omega)
  have := Nat.mul_lt_mul_of_lt_of_le hA (Nat.le_of_lt hB) (by decide)
  exact Nat.lt_of_lt_of_le this (by decide)
