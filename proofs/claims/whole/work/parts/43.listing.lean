set_option maxHeartbeats 4000000 in
set_option maxRecDepth 100000 in
theorem s_X6_isReached (B : zBB) (h : zHp) (h0 : zHp) (a r q k : Nat) (hk : k < 2 ^ 31) (v0 : z4) (ah0 : Int32) (ha : h a = some (zO 6 [.ref r, .ref q, .int ah0])) (hr : h r = some (zFo v0)) (hh : h0 = zU h a (zO 6 [.ref r, .ref q, .int (nI k)])) (w x y z : Int) (bw : jB w) (bx : jB x) (by_ : jB y) (bz : jB z) : zSpec mX6_isReached B (1, 0, 0) [.ref a, .int (jz w), .int (jz x), .int (jz y), .int (jz z)] h0 (lsP h a r q [(w, x, y, z)] k) := by
  refine zSpec.of (by decide) (Nat.le_of_ble_eq_true rfl) (fun X hZ => ?_)
  show zG X mX6_isReached B (1, 0, 0) (0, 0) 0 [(0, .ref a), (1, .int (jz w)), (2, .int (jz x)), (3, .int (jz y)), (4, .int (jz z))] [] h0
  have ha0 := zX0 hh
  have hr0 := zX1 hh (zneC hr ha (by simp)) hr
  refine zi_aload_n 1 dX6_isReached_0 rfl rfl ?_
  refine zi_getfield 4 2 dX6_isReached_1 zcl_X6 tw_245 rfl rfl ha0 rfl rfl ?_
  refine zi_if_ne 7 25 dX6_isReached_4 (by decide) rfl (fun zzK => ?_) (fun zzK => ?_)
  ·
    rw [nI_0e hk] at zzK
    obtain ⟨k1, rfl⟩ : ∃ k1, k = k1 + 1 := ⟨k - 1, by omega⟩
    refine zi_aload_n 26 dX6_isReached_25 rfl rfl ?_
    refine zi_dup 27 dX6_isReached_26 rfl rfl ?_
    refine zi_getfield 30 2 dX6_isReached_27 zcl_X6 tw_245 rfl rfl ha0 rfl rfl ?_
    refine zi_iconst (v := 1) 31 dX6_isReached_30 (by decide) rfl ?_
    refine zi_isub 32 dX6_isReached_31 rfl ?_
    refine zi_putfield (fs' := [_, _, _]) 35 2 dX6_isReached_32 zcl_X6 tyX6 tyX6_ok nmX6 tw_245 rfl rfl rfl ha0 rfl rfl rfl rfl rfl rfl ?_
    refine zi_iconst (v := 0) 36 dX6_isReached_35 (by decide) rfl ?_
    exact zr_int hZ dX6_isReached_36 rfl rfl (Or.inr ⟨Nat.le_add_left 1 k1, rfl, by rw [hh, zU_u, nI_pred, show k1 + 1 - [(w, x, y, z)].length = k1 from rfl]⟩)
  ·
    rw [nI_0e hk] at zzK
    subst zzK
    refine zi_aload_n 8 dX6_isReached_7 rfl rfl ?_
    refine zi_getfield 11 0 dX6_isReached_8 zcl_X6 tw_242 rfl rfl ha0 rfl rfl ?_
    refine zi_iload_n 12 dX6_isReached_11 rfl rfl ?_
    refine zi_i2l 13 dX6_isReached_12 rfl ?_
    refine zi_iload_n 14 dX6_isReached_13 rfl rfl ?_
    refine zi_i2l 15 dX6_isReached_14 rfl ?_
    refine zi_iload_n 16 dX6_isReached_15 rfl rfl ?_
    refine zi_i2l 17 dX6_isReached_16 rfl ?_
    refine zi_iload 19 dX6_isReached_17 rfl rfl ?_
    refine zi_i2l 20 dX6_isReached_19 rfl ?_
    refine zc_virtual (n' := (0, 0)) (md' := mX4_become) 23 dX6_isReached_20 tw_743 zv_X4_become zcl_X4 (s_X4_become B h0 r v0 hr0 _ _ _ _) hr0 rfl rfl rfl rfl rfl rfl rfl rfl (zk_u fun h1 hq => ?_)
    refine zi_iconst (v := 1) 24 dX6_isReached_23 (by decide) rfl ?_
    exact zr_int hZ dX6_isReached_24 rfl rfl (Or.inl ⟨(w, x, y, z), rfl, rfl, by rw [hq, jz_l bw, jz_l bx, jz_l by_, jz_l bz, hh]; rfl⟩)

section LZ
variable {m w x y : Int} {s : Nat}
theorem Lz_odd (h : ¬ (x + y) % 2 = 0) : Lz m w x y = [] := by
  unfold Lz
  rw [if_neg (fun c => h c.2.2.1)]
theorem Lz_no (hs : (s : Int) = m - w * w - x * x - y * y) (h : ¬ zSq2 s * zSq2 s = s) : Lz m w x y = [] := by
  unfold Lz
  rw [if_neg]
  rintro ⟨-, -, -, c⟩
  rw [← hs, Int.toNat_natCast] at c
  exact h (by exact_mod_cast c)
theorem Lz_y (hs : (s : Int) = m - w * w - x * x - y * y) (hw : (w + x) % 2 = 0) (hx : (x + y) % 2 = 0) (h : zSq2 s * zSq2 s = s) : Lz m w x y = [(w, x, y, -(zSq2 s : Int))] ++ (if zSq2 s ≠ 0 then [(w, x, y, (zSq2 s : Int))] else []) := by
  unfold Lz
  rw [← hs, Int.toNat_natCast, if_pos ⟨by omega, hw, hx, by exact_mod_cast h⟩]
  rfl
end LZ
theorem up_s (f : Int → List i4) {e : Nat} {y : Int} (h : y ≤ e) : up f ((e : Int) + 1 - y).toNat y = f y ++ up f ((e : Int) + 1 - (y + 1)).toNat (y + 1) := by
  obtain ⟨n, hn⟩ : ∃ n, ((e : Int) + 1 - y).toNat = n + 1 := ⟨((e : Int) - y).toNat, by omega⟩
  rw [hn, up, show ((e : Int) + 1 - (y + 1)).toNat = n by omega]
theorem rt24 {n : Nat} (h : n ≤ 600) : zSq2 n ≤ 24 := by
  rcases Nat.lt_or_ge 24 (zSq2 n) with q | q
  · have h1 := (zSq2_is n).1
    have := Nat.mul_le_mul (show 25 ≤ zSq2 n by omega) (show 25 ≤ zSq2 n by omega)
    omega
  · exact q
theorem ls_m (a b : Nat) : nI a * nI b = nI (a * b) := pk_mul a b

theorem ls_c {e : Nat} {y : Int} (h : -(24 : Int) ≤ y ∧ y ≤ 25 ∧ e ≤ 24) : nI e < jz y ↔ (e : Int) < y := by
  rw [jz_nI, jz_lt (by omega) (by omega)]
theorem ls_y {e : Nat} {y : Int} {n : Nat} (h : ((e : Int) + 1 - y).toNat < n + 1) (hy : y ≤ e) : ((e : Int) + 1 - (y + 1)).toNat < n := by omega
theorem ls_e {f : Int → List i4} {e : Nat} {y : Int} (h : (e : Int) < y) : up f ((e : Int) + 1 - y).toNat y = [] := by
  rw [show ((e : Int) + 1 - y).toNat = 0 by omega]
  rfl
theorem ls_s {lf : Nat} {y : Int} (h6 : lf ≤ 600) (h1 : -(zSq2 lf : Int) ≤ y) (h2 : y ≤ zSq2 lf) : ∃ s : Nat, (s : Int) = lf - y * y ∧ s ≤ 600 := by
  have := zSq2_in.mpr ⟨h1, h2⟩
  have := zsn y
  exact ⟨((lf : Int) - y * y).toNat, by omega, by omega⟩
theorem ls_zz {z : Nat} (h : z ≤ 24) : z * z < 2 ^ 31 := by
  have := Nat.mul_le_mul h h
  omega
set_option maxHeartbeats 8000000 in
set_option maxRecDepth 100000 in
theorem l_X6_seekBehind (B : zBB) (h : zHp) (X : zX) (a r q : Nat) (v0 : z4) (ah0 : Int32) (u : Nat → Int32) (ha : h a = some (zO 6 [.ref r, .ref q, .int ah0])) (hr : h r = some (zFo v0)) (hq : h q = some (zI B 601 u)) (hu : ∀ i, i < 601 → u i = nI (zSq2 i)) (M w x : Int) (lf : Nat) (hlf : (lf : Int) = M - w * w - x * x) (hl6 : lf ≤ 600) (hwx : (w + x) % 2 = 0) (bw : w.natAbs ≤ 1000) (bx : x.natAbs ≤ 1000) (LL : List i4) (K : Nat) (hZ : zIsP X mX6_seekBehind B (0, 0) (lsP h a r q LL K)) : ∀ (n : Nat) (y : Int) (k : Nat) (h0 : zHp), ((zSq2 lf : Int) + 1 - y).toNat < n → -(zSq2 lf : Int) ≤ y → y ≤ (zSq2 lf : Int) + 1 → k < 2 ^ 31 → h0 = zU h a (zO 6 [.ref r, .ref q, .int (nI k)]) → (∀ (v : Option Value) (h' : zHp), lsP h a r q (up (Lz M w x) ((zSq2 lf : Int) + 1 - y).toNat y) k v h' → lsP h a r q LL K v h') → zG X mX6_seekBehind B (2, 0, 0) (0, 0) 12 [(5, .int (jz y)), (4, .int (nI (zSq2 lf))), (0, .ref a), (1, .int (jz w)), (2, .int (jz x)), (3, .int (nI lf))] [] h0 := by
  intro n
  induction n with
  | zero => intro y k h0 hn; exact absurd hn (Nat.not_lt_zero _)
  | succ n ih =>
    intro y k h0 hn hy1 hyT hk hh hrel
    have ha0 := zX0 hh
    have hq0 := zX1 hh (zneC hq ha (by simp)) hq
    have he24 := rt24 hl6
    have hy2 : -(24 : Int) ≤ y ∧ y ≤ 25 ∧ zSq2 lf ≤ 24 := by omega
    refine zi_iload 14 dX6_seekBehind_12 rfl rfl ?_
    refine zi_iload 16 dX6_seekBehind_14 rfl rfl ?_
    refine zi_icmp_gt 19 104 dX6_seekBehind_16 (by decide) rfl (fun zzY => ?_) (fun zzY => ?_)
    ·
      rw [ls_c hy2] at zzY
      refine zi_iconst (v := 0) 105 dX6_seekBehind_104 (by decide) rfl ?_
      exact zr_int hZ dX6_seekBehind_105 rfl rfl (hrel _ _ (by rw [ls_e zzY, hh]; exact lsP_0))
    ·
      rw [ls_c hy2] at zzY
      have hyE : y ≤ (zSq2 lf : Int) := Int.not_lt.mp zzY
      have hup := up_s (Lz M w x) hyE
      refine zi_iload_n 20 dX6_seekBehind_19 rfl rfl ?_
      refine zi_iload 22 dX6_seekBehind_20 rfl rfl ?_
      refine zi_iadd 23 dX6_seekBehind_22 rfl ?_
      rw [jz_add]
      refine zi_iconst (v := 1) 24 dX6_seekBehind_23 (by decide) rfl ?_
      refine zi_iand 25 dX6_seekBehind_24 rfl ?_
      refine zi_if_eq 28 31 dX6_seekBehind_25 (by decide) rfl (fun zzP => ?_) (fun zzP => ?_)
      ·
        rw [jz_par (by omega)] at zzP
        obtain ⟨s, hs, hs6⟩ : ∃ s : Nat, (s : Int) = lf - y * y ∧ s ≤ 600 := ls_s hl6 hy1 hyE
        have hs4 : (s : Int) = M - w * w - x * x - y * y := by rw [hs, hlf]
        have hz24 := rt24 hs6
        refine zi_aload_n 32 dX6_seekBehind_31 rfl rfl ?_
        refine zi_iload_n 33 dX6_seekBehind_32 rfl rfl ?_
        refine zi_iload 35 dX6_seekBehind_33 rfl rfl ?_
        refine zi_iload 37 dX6_seekBehind_35 rfl rfl ?_
        refine zi_imul 38 dX6_seekBehind_37 rfl ?_
        rw [jz_mul]
        refine zi_isub 39 dX6_seekBehind_38 rfl ?_
        rw [show nI lf - jz (y * y) = nI s by rw [jz_nI, jz_nI, jz_sub, hs]]
        refine zc_virtual (n' := (0, 0)) (md' := mX6_root) 42 dX6_seekBehind_39 tw_731 zv_X6_root zcl_X6 (s_X6_root B h0 a q r (nI k) u ha0 hq0 s (by omega)) ha0 rfl rfl rfl rfl rfl rfl rfl rfl (zk_f ?_)
        rw [hu s (by omega)]
        refine zi_istore (lv' := [(6, _), (5, _), (4, _), (0, _), (1, _), (2, _), (3, _)]) 44 dX6_seekBehind_42 rfl rfl rfl ?_
        refine zi_iload 46 dX6_seekBehind_44 rfl rfl ?_
        refine zi_iload 48 dX6_seekBehind_46 rfl rfl ?_
        refine zi_imul 49 dX6_seekBehind_48 rfl ?_
        rw [ls_m]
        refine zi_iload_n 50 dX6_seekBehind_49 rfl rfl ?_
        refine zi_iload 52 dX6_seekBehind_50 rfl rfl ?_
        refine zi_iload 54 dX6_seekBehind_52 rfl rfl ?_
        refine zi_imul 55 dX6_seekBehind_54 rfl ?_
        rw [jz_mul]
        refine zi_isub 56 dX6_seekBehind_55 rfl ?_
        rw [show nI lf - jz (y * y) = nI s by rw [jz_nI, jz_nI, jz_sub, hs]]
        refine zi_icmp_eq 59 62 dX6_seekBehind_56 (by decide) rfl (fun zzZ => ?_) (fun zzZ => ?_)
        ·
          rw [nI_eq (ls_zz hz24) (by omega)] at zzZ
          refine zi_aload_n 63 dX6_seekBehind_62 rfl rfl ?_
          refine zi_iload_n 64 dX6_seekBehind_63 rfl rfl ?_
          refine zi_iload_n 65 dX6_seekBehind_64 rfl rfl ?_
          refine zi_iload 67 dX6_seekBehind_65 rfl rfl ?_
          refine zi_iload 69 dX6_seekBehind_67 rfl rfl ?_
          refine zi_ineg 70 dX6_seekBehind_69 rfl ?_
          rw [show -(nI (zSq2 s)) = jz (-(zSq2 s : Int)) by rw [jz_nI, jz_neg]]
          refine zc_virtual (n' := (0, 0)) (md' := mX6_isReached) 73 dX6_seekBehind_70 tw_739 zv_X6_isReached zcl_X6 (s_X6_isReached B h h0 a r q k hk v0 ah0 ha hr hh w x y (-(zSq2 s : Int)) (by omega) (by omega) (by omega) (by omega)) ha0 rfl rfl rfl rfl rfl rfl rfl rfl (zk_ls (fun P1 h1 e1 q1 => ?_) (fun h1 e1 q1 => ?_))
          ·
            subst q1
            refine zi_if_eq 76 78 dX6_seekBehind_73 (by decide) rfl (fun c_73 => absurd c_73 (by decide)) (fun c_73 => ?_)
            refine zi_iconst (v := 1) 77 dX6_seekBehind_76 (by decide) rfl ?_
            exact zr_int hZ dX6_seekBehind_77 rfl rfl (hrel _ _ (by rw [hup, Lz_y hs4 hwx zzP zzZ, List.append_assoc]; exact lsP_1 e1))
          ·
            have ha1 := zX0 q1
            refine zi_if_eq 76 78 dX6_seekBehind_73 (by decide) rfl (fun c_73 => ?_) (fun c_73 => absurd c_73 (by decide))
            refine zi_iload 80 dX6_seekBehind_78 rfl rfl ?_
            refine zi_if_eq 83 98 dX6_seekBehind_80 (by decide) rfl (fun zz0 => ?_) (fun zz0 => ?_)
            ·
              rw [nI_0e (by omega)] at zz0
              refine zi_iinc (lv' := [(5, _), (6, _), (4, _), (0, _), (1, _), (2, _), (3, _)]) 101 dX6_seekBehind_98 rfl rfl rfl rfl rfl ?_
              refine zi_goto 12 dX6_seekBehind_101 (by decide) ?_
              rw [show jz y + Int32.ofInt 1 = jz (y + 1) from jz_add y 1]
              first | exact zi_lv [0, 2, 3, 4, 5, 6] rfl (ih (y + 1) (k - 1 - 1) _ (ls_y hn hyE) (by omega) (by omega) (by omega) q2 (fun v h3 p => hrel v h3 (by rw [hup, Lz_y hs4 hwx zzP zzZ, if_pos zz0, List.append_assoc]; exact lsP_a e1 (lsP_a e2 p)))) | exact zi_lv [0, 2, 3, 4, 5, 6] rfl (ih (y + 1) (k - 1) _ (ls_y hn hyE) (by omega) (by omega) (by omega) q1 (fun v h3 p => hrel v h3 (by rw [hup, Lz_y hs4 hwx zzP zzZ, if_neg (fun c => c zz0), List.append_nil]; exact lsP_a e1 p))) | exact zi_lv [0, 2, 3, 4, 5, 6] rfl (ih (y + 1) k h0 (ls_y hn hyE) (by omega) (by omega) hk hh (fun v h3 p => hrel v h3 (by rw [hup, Lz_no hs4 zzZ]; exact p))) | exact zi_lv [0, 2, 3, 4, 5, 6] rfl (ih (y + 1) k h0 (ls_y hn hyE) (by omega) (by omega) hk hh (fun v h3 p => hrel v h3 (by rw [hup, Lz_odd zzP]; exact p)))
            ·
              rw [nI_0e (by omega)] at zz0
              refine zi_aload_n 84 dX6_seekBehind_83 rfl rfl ?_
              refine zi_iload_n 85 dX6_seekBehind_84 rfl rfl ?_
              refine zi_iload_n 86 dX6_seekBehind_85 rfl rfl ?_
              refine zi_iload 88 dX6_seekBehind_86 rfl rfl ?_
              refine zi_iload 90 dX6_seekBehind_88 rfl rfl ?_
              rw [jz_nI (zSq2 s)]
              refine zc_virtual (n' := (0, 0)) (md' := mX6_isReached) 93 dX6_seekBehind_90 tw_739 zv_X6_isReached zcl_X6 (s_X6_isReached B h h1 a r q (k - 1) (by omega) v0 ah0 ha hr q1 w x y (zSq2 s : Int) (by omega) (by omega) (by omega) (by omega)) ha1 rfl rfl rfl rfl rfl rfl rfl rfl (zk_ls (fun P2 h2 e2 q2 => ?_) (fun h2 e2 q2 => ?_))
              ·
                subst q2
                refine zi_if_eq 96 98 dX6_seekBehind_93 (by decide) rfl (fun c_93 => absurd c_93 (by decide)) (fun c_93 => ?_)
                refine zi_iconst (v := 1) 97 dX6_seekBehind_96 (by decide) rfl ?_
                exact zr_int hZ dX6_seekBehind_97 rfl rfl (hrel _ _ (by rw [hup, Lz_y hs4 hwx zzP zzZ, if_pos zz0, List.append_assoc]; exact lsP_a e1 (lsP_1 e2)))
              ·
                refine zi_if_eq 96 98 dX6_seekBehind_93 (by decide) rfl (fun c_93 => ?_) (fun c_93 => absurd c_93 (by decide))
                refine zi_iinc (lv' := [(5, _), (6, _), (4, _), (0, _), (1, _), (2, _), (3, _)]) 101 dX6_seekBehind_98 rfl rfl rfl rfl rfl ?_
                refine zi_goto 12 dX6_seekBehind_101 (by decide) ?_
                rw [show jz y + Int32.ofInt 1 = jz (y + 1) from jz_add y 1]
                first | exact zi_lv [0, 2, 3, 4, 5, 6] rfl (ih (y + 1) (k - 1 - 1) _ (ls_y hn hyE) (by omega) (by omega) (by omega) q2 (fun v h3 p => hrel v h3 (by rw [hup, Lz_y hs4 hwx zzP zzZ, if_pos zz0, List.append_assoc]; exact lsP_a e1 (lsP_a e2 p)))) | exact zi_lv [0, 2, 3, 4, 5, 6] rfl (ih (y + 1) (k - 1) _ (ls_y hn hyE) (by omega) (by omega) (by omega) q1 (fun v h3 p => hrel v h3 (by rw [hup, Lz_y hs4 hwx zzP zzZ, if_neg (fun c => c zz0), List.append_nil]; exact lsP_a e1 p))) | exact zi_lv [0, 2, 3, 4, 5, 6] rfl (ih (y + 1) k h0 (ls_y hn hyE) (by omega) (by omega) hk hh (fun v h3 p => hrel v h3 (by rw [hup, Lz_no hs4 zzZ]; exact p))) | exact zi_lv [0, 2, 3, 4, 5, 6] rfl (ih (y + 1) k h0 (ls_y hn hyE) (by omega) (by omega) hk hh (fun v h3 p => hrel v h3 (by rw [hup, Lz_odd zzP]; exact p)))
        ·
          rw [nI_eq (ls_zz hz24) (by omega)] at zzZ
          refine zi_goto 98 dX6_seekBehind_59 (by decide) ?_
          refine zi_iinc (lv' := [(5, _), (6, _), (4, _), (0, _), (1, _), (2, _), (3, _)]) 101 dX6_seekBehind_98 rfl rfl rfl rfl rfl ?_
          refine zi_goto 12 dX6_seekBehind_101 (by decide) ?_
          rw [show jz y + Int32.ofInt 1 = jz (y + 1) from jz_add y 1]
          first | exact zi_lv [0, 2, 3, 4, 5, 6] rfl (ih (y + 1) (k - 1 - 1) _ (ls_y hn hyE) (by omega) (by omega) (by omega) q2 (fun v h3 p => hrel v h3 (by rw [hup, Lz_y hs4 hwx zzP zzZ, if_pos zz0, List.append_assoc]; exact lsP_a e1 (lsP_a e2 p)))) | exact zi_lv [0, 2, 3, 4, 5, 6] rfl (ih (y + 1) (k - 1) _ (ls_y hn hyE) (by omega) (by omega) (by omega) q1 (fun v h3 p => hrel v h3 (by rw [hup, Lz_y hs4 hwx zzP zzZ, if_neg (fun c => c zz0), List.append_nil]; exact lsP_a e1 p))) | exact zi_lv [0, 2, 3, 4, 5, 6] rfl (ih (y + 1) k h0 (ls_y hn hyE) (by omega) (by omega) hk hh (fun v h3 p => hrel v h3 (by rw [hup, Lz_no hs4 zzZ]; exact p))) | exact zi_lv [0, 2, 3, 4, 5, 6] rfl (ih (y + 1) k h0 (ls_y hn hyE) (by omega) (by omega) hk hh (fun v h3 p => hrel v h3 (by rw [hup, Lz_odd zzP]; exact p)))
      ·
        rw [jz_par (by omega)] at zzP
        refine zi_goto 98 dX6_seekBehind_28 (by decide) ?_
        refine zi_iinc (lv' := [(5, _), (4, _), (0, _), (1, _), (2, _), (3, _)]) 101 dX6_seekBehind_98 rfl rfl rfl rfl rfl ?_
        refine zi_goto 12 dX6_seekBehind_101 (by decide) ?_
        rw [show jz y + Int32.ofInt 1 = jz (y + 1) from jz_add y 1]
        first | exact zi_lv [0, 1, 2, 3, 4, 5] rfl (ih (y + 1) (k - 1 - 1) _ (ls_y hn hyE) (by omega) (by omega) (by omega) q2 (fun v h3 p => hrel v h3 (by rw [hup, Lz_y hs4 hwx zzP zzZ, if_pos zz0, List.append_assoc]; exact lsP_a e1 (lsP_a e2 p)))) | exact zi_lv [0, 1, 2, 3, 4, 5] rfl (ih (y + 1) (k - 1) _ (ls_y hn hyE) (by omega) (by omega) (by omega) q1 (fun v h3 p => hrel v h3 (by rw [hup, Lz_y hs4 hwx zzP zzZ, if_neg (fun c => c zz0), List.append_nil]; exact lsP_a e1 p))) | exact zi_lv [0, 1, 2, 3, 4, 5] rfl (ih (y + 1) k h0 (ls_y hn hyE) (by omega) (by omega) hk hh (fun v h3 p => hrel v h3 (by rw [hup, Lz_no hs4 zzZ]; exact p))) | exact zi_lv [0, 1, 2, 3, 4, 5] rfl (ih (y + 1) k h0 (ls_y hn hyE) (by omega) (by omega) hk hh (fun v h3 p => hrel v h3 (by rw [hup, Lz_odd zzP]; exact p)))

set_option maxHeartbeats 4000000 in
set_option maxRecDepth 100000 in
theorem s_X6_seekBehind (B : zBB) (h : zHp) (h0 : zHp) (k : Nat) (hk : k < 2 ^ 31) (a r q : Nat) (v0 : z4) (ah0 : Int32) (u : Nat → Int32) (ha : h a = some (zO 6 [.ref r, .ref q, .int ah0])) (hr : h r = some (zFo v0)) (hq : h q = some (zI B 601 u)) (hu : ∀ i, i < 601 → u i = nI (zSq2 i)) (M w x : Int) (lf : Nat) (hlf : (lf : Int) = M - w * w - x * x) (hl6 : lf ≤ 600) (hwx : (w + x) % 2 = 0) (bw : w.natAbs ≤ 1000) (bx : x.natAbs ≤ 1000) (hh : h0 = zU h a (zO 6 [.ref r, .ref q, .int (nI k)])) : zSpec mX6_seekBehind B (2, 0, 0) [.ref a, .int (jz w), .int (jz x), .int (nI lf)] h0 (lsP h a r q (sy (Lz M w x) (zSq2 lf)) k) := by
  refine zSpec.of (by decide) (Nat.le_of_ble_eq_true rfl) (fun X hZ => ?_)
  show zG X mX6_seekBehind B (2, 0, 0) (0, 0) 0 [(0, .ref a), (1, .int (jz w)), (2, .int (jz x)), (3, .int (nI lf))] [] h0
  have ha0 := zX0 hh
  have hq0 := zX1 hh (zneC hq ha (by simp)) hq
  refine zi_aload_n 1 dX6_seekBehind_0 rfl rfl ?_
  refine zi_iload_n 2 dX6_seekBehind_1 rfl rfl ?_
  refine zc_virtual (n' := (0, 0)) (md' := mX6_root) 5 dX6_seekBehind_2 tw_731 zv_X6_root zcl_X6 (s_X6_root B h0 a q r (nI k) u ha0 hq0 lf (by omega)) ha0 rfl rfl rfl rfl rfl rfl rfl rfl (zk_f ?_)
  rw [hu lf (by omega)]
  refine zi_istore (lv' := [(4, _), (0, _), (1, _), (2, _), (3, _)]) 7 dX6_seekBehind_5 rfl rfl rfl ?_
  refine zi_iload 9 dX6_seekBehind_7 rfl rfl ?_
  refine zi_ineg 10 dX6_seekBehind_9 rfl ?_
  rw [show -(nI (zSq2 lf)) = jz (-(zSq2 lf : Int)) by rw [jz_nI, jz_neg]]
  refine zi_istore (lv' := [(5, _), (4, _), (0, _), (1, _), (2, _), (3, _)]) 12 dX6_seekBehind_10 rfl rfl rfl ?_
  exact zi_lv [0, 1, 2, 3, 4, 5] rfl (l_X6_seekBehind B h X a r q v0 ah0 u ha hr hq hu M w x lf hlf hl6 hwx bw bx _ k hZ (2 * zSq2 lf + 2) (-(zSq2 lf : Int)) k h0 (by omega) (by omega) (by omega) hk hh (fun v h1 p => by rw [show ((zSq2 lf : Int) + 1 - -(zSq2 lf : Int)).toNat = 2 * zSq2 lf + 1 by omega] at p; exact p))
