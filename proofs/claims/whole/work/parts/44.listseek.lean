noncomputable def chk (M w x : Int) : List i4 := if (w + x) % 2 = 0 then sy (Lz M w x) (zSq2 (M - w * w - x * x).toNat) else []
noncomputable def lsX (M w : Int) : List i4 := sy (chk M w) (zSq2 (M - w * w).toNat)
noncomputable def lsL (M : Nat) : List i4 := sy (lsX M) (zSq2 M)
theorem chk_y {M w x : Int} {t : Nat} (h : (w + x) % 2 = 0) (ht : (t : Int) = M - w * w - x * x) : chk M w x = sy (Lz M w x) (zSq2 t) := by
  unfold chk
  rw [if_pos h, ← ht, Int.toNat_natCast]
theorem chk_n {M w x : Int} (h : ¬ (w + x) % 2 = 0) : chk M w x = [] := by
  unfold chk
  rw [if_neg h]
theorem lsX_s {M w : Int} {s : Nat} (hs : (s : Int) = M - w * w) : lsX M w = sy (chk M w) (zSq2 s) := by
  unfold lsX
  rw [← hs, Int.toNat_natCast]
set_option maxHeartbeats 8000000 in
set_option maxRecDepth 100000 in
theorem l_X6_seek (B : zBB) (h : zHp) (X : zX) (a r q : Nat) (v0 : z4) (ah0 : Int32) (u : Nat → Int32) (ha : h a = some (zO 6 [.ref r, .ref q, .int ah0])) (hr : h r = some (zFo v0)) (hq : h q = some (zI B 601 u)) (hu : ∀ i, i < 601 → u i = nI (zSq2 i)) (M : Nat) (hM : M ≤ 600) (nn ii : Int32) (LL : List i4) (K : Nat) (hZ : zIsP X mX6_seek B (0, 0) (lsP h a r q LL K)) : ∀ (n : Nat) (w : Int) (k : Nat) (h0 : zHp), ((zSq2 M : Int) + 1 - w).toNat < n → -(zSq2 M : Int) ≤ w → w ≤ (zSq2 M : Int) + 1 → k < 2 ^ 31 → h0 = zU h a (zO 6 [.ref r, .ref q, .int (nI k)]) → (∀ (v : Option Value) (h' : zHp), lsP h a r q (up (lsX M) ((zSq2 M : Int) + 1 - w).toNat w) k v h' → lsP h a r q LL K v h') → zG X mX6_seek B (3, 0, 0) (0, 0) 21 [(5, .int (jz w)), (4, .int (nI (zSq2 M))), (3, .int (nI M)), (0, .ref a), (1, .int nn), (2, .int ii)] [] h0 := by
  intro n
  induction n with
  | zero => intro w k h0 hn; exact absurd hn (Nat.not_lt_zero _)
  | succ n ih =>
    intro w k h0 hn hw1 hwT hk hh hrel
    have ha0 := zX0 hh
    have hq0 := zX1 hh (zneC hq ha (by simp)) hq
    have he24 := rt24 hM
    have hw2 : -(24 : Int) ≤ w ∧ w ≤ 25 ∧ zSq2 M ≤ 24 := by omega
    refine zi_iload 23 dX6_seek_21 rfl rfl ?_
    refine zi_iload 25 dX6_seek_23 rfl rfl ?_
    refine zi_icmp_gt 28 100 dX6_seek_25 (by decide) rfl (fun zzW => ?_) (fun zzW => ?_)
    ·
      rw [ls_c hw2] at zzW
      refine zi_iconst (v := 0) 101 dX6_seek_100 (by decide) rfl ?_
      exact zr_int hZ dX6_seek_101 rfl rfl (hrel _ _ (by rw [ls_e zzW, hh]; exact lsP_0))
    ·
      rw [ls_c hw2] at zzW
      have hwE : w ≤ (zSq2 M : Int) := Int.not_lt.mp zzW
      have hup := up_s (lsX M) hwE
      obtain ⟨s, hs, hs6⟩ : ∃ s : Nat, (s : Int) = M - w * w ∧ s ≤ 600 := ls_s hM hw1 hwE
      have hs24 := rt24 hs6
      refine zi_iload_n 29 dX6_seek_28 rfl rfl ?_
      refine zi_iload 31 dX6_seek_29 rfl rfl ?_
      refine zi_iload 33 dX6_seek_31 rfl rfl ?_
      refine zi_imul 34 dX6_seek_33 rfl ?_
      rw [jz_mul]
      refine zi_isub 35 dX6_seek_34 rfl ?_
      rw [show nI M - jz (w * w) = nI s by rw [jz_nI, jz_nI, jz_sub, hs]]
      refine zi_istore (lv' := [(6, _), (5, _), (4, _), (3, _), (0, _), (1, _), (2, _)]) 37 dX6_seek_35 rfl rfl rfl ?_
      refine zi_aload_n 38 dX6_seek_37 rfl rfl ?_
      refine zi_iload 40 dX6_seek_38 rfl rfl ?_
      refine zc_virtual (n' := (0, 0)) (md' := mX6_root) 43 dX6_seek_40 tw_731 zv_X6_root zcl_X6 (s_X6_root B h0 a q r (nI k) u ha0 hq0 s (by omega)) ha0 rfl rfl rfl rfl rfl rfl rfl rfl (zk_f ?_)
      rw [hu s (by omega)]
      refine zi_istore (lv' := [(7, _), (6, _), (5, _), (4, _), (3, _), (0, _), (1, _), (2, _)]) 45 dX6_seek_43 rfl rfl rfl ?_
      refine zi_iload 47 dX6_seek_45 rfl rfl ?_
      refine zi_ineg 48 dX6_seek_47 rfl ?_
      rw [show -(nI (zSq2 s)) = jz (-(zSq2 s : Int)) by rw [jz_nI, jz_neg]]
      refine zi_istore (lv' := [(8, _), (7, _), (6, _), (5, _), (4, _), (3, _), (0, _), (1, _), (2, _)]) 50 dX6_seek_48 rfl rfl rfl ?_
      have inner : ∀ (nx : Nat) (x : Int) (k1 : Nat) (h1 : zHp), ((zSq2 s : Int) + 1 - x).toNat < nx → -(zSq2 s : Int) ≤ x → x ≤ (zSq2 s : Int) + 1 → k1 < 2 ^ 31 → h1 = zU h a (zO 6 [.ref r, .ref q, .int (nI k1)]) → (∀ (v : Option Value) (h' : zHp), lsP h a r q (up (chk M w) ((zSq2 s : Int) + 1 - x).toNat x ++ up (lsX M) ((zSq2 M : Int) + 1 - (w + 1)).toNat (w + 1)) k1 v h' → lsP h a r q LL K v h') → zG X mX6_seek B (3, 0, 0) (0, 0) 50 [(8, .int (jz x)), (7, .int (nI (zSq2 s))), (6, .int (nI s)), (5, .int (jz w)), (4, .int (nI (zSq2 M))), (3, .int (nI M)), (0, .ref a), (1, .int nn), (2, .int ii)] [] h1 := by
        intro nx
        induction nx with
        | zero => intro x k1 h1 hnx; exact absurd hnx (Nat.not_lt_zero _)
        | succ nx ihx =>
          intro x k1 h1 hnx hx1 hxT hk1 hh1 hrx
          have ha1 := zX0 hh1
          have hx2 : -(24 : Int) ≤ x ∧ x ≤ 25 ∧ zSq2 s ≤ 24 := by omega
          refine zi_iload 52 dX6_seek_50 rfl rfl ?_
          refine zi_iload 54 dX6_seek_52 rfl rfl ?_
          refine zi_icmp_gt 57 94 dX6_seek_54 (by decide) rfl (fun zzX => ?_) (fun zzX => ?_)
          ·
            rw [ls_c hx2] at zzX
            refine zi_iinc (lv' := [(5, _), (8, _), (7, _), (6, _), (4, _), (3, _), (0, _), (1, _), (2, _)]) 97 dX6_seek_94 rfl rfl rfl rfl rfl ?_
            refine zi_goto 21 dX6_seek_97 (by decide) ?_
            rw [show jz w + Int32.ofInt 1 = jz (w + 1) from jz_add w 1]
            exact zi_lv [0, 4, 5, 6, 7, 8] rfl (ih (w + 1) k1 h1 (ls_y hn hwE) (by omega) (by omega) hk1 hh1 (fun v h3 p => hrx v h3 (by rw [ls_e zzX]; exact p)))
          ·
            rw [ls_c hx2] at zzX
            have hxE : x ≤ (zSq2 s : Int) := Int.not_lt.mp zzX
            have hupx := up_s (chk M w) hxE
            refine zi_iload 59 dX6_seek_57 rfl rfl ?_
            refine zi_iload 61 dX6_seek_59 rfl rfl ?_
            refine zi_iadd 62 dX6_seek_61 rfl ?_
            rw [jz_add]
            refine zi_iconst (v := 1) 63 dX6_seek_62 (by decide) rfl ?_
            refine zi_iand 64 dX6_seek_63 rfl ?_
            refine zi_if_ne 67 88 dX6_seek_64 (by decide) rfl (fun zzP => ?_) (fun zzP => ?_)
            ·
              rw [jz_par (by omega)] at zzP
              refine zi_iinc (lv' := [(8, _), (7, _), (6, _), (5, _), (4, _), (3, _), (0, _), (1, _), (2, _)]) 91 dX6_seek_88 rfl rfl rfl rfl rfl ?_
              refine zi_goto 50 dX6_seek_91 (by decide) ?_
              rw [show jz x + Int32.ofInt 1 = jz (x + 1) from jz_add x 1]
              first | exact zi_lv [0, 1, 2, 3, 4, 5, 6, 7, 8] rfl (ihx (x + 1) _ h2 (ls_y hnx hxE) (by omega) (by omega) (by omega) q2 (fun v h3 p => hrx v h3 (by rw [hupx, chk_y zzP ht4, List.append_assoc]; exact lsP_a e2 p))) | exact zi_lv [0, 1, 2, 3, 4, 5, 6, 7, 8] rfl (ihx (x + 1) k1 h1 (ls_y hnx hxE) (by omega) (by omega) hk1 hh1 (fun v h3 p => hrx v h3 (by rw [hupx, chk_n zzP]; exact p)))
            ·
              rw [jz_par (by omega)] at zzP
              obtain ⟨t, ht, ht6⟩ : ∃ t : Nat, (t : Int) = s - x * x ∧ t ≤ 600 := ls_s hs6 hx1 hxE
              have ht4 : (t : Int) = M - w * w - x * x := by rw [ht, hs]
              refine zi_aload_n 68 dX6_seek_67 rfl rfl ?_
              refine zi_iload 70 dX6_seek_68 rfl rfl ?_
              refine zi_iload 72 dX6_seek_70 rfl rfl ?_
              refine zi_iload 74 dX6_seek_72 rfl rfl ?_
              refine zi_iload 76 dX6_seek_74 rfl rfl ?_
              refine zi_iload 78 dX6_seek_76 rfl rfl ?_
              refine zi_imul 79 dX6_seek_78 rfl ?_
              rw [jz_mul]
              refine zi_isub 80 dX6_seek_79 rfl ?_
              rw [show nI s - jz (x * x) = nI t by rw [jz_nI, jz_nI, jz_sub, ht]]
              refine zc_virtual (n' := (0, 0)) (md' := mX6_seekBehind) 83 dX6_seek_80 tw_735 zv_X6_seekBehind zcl_X6 (s_X6_seekBehind B h h1 k1 hk1 a r q v0 ah0 u ha hr hq hu M w x t ht4 ht6 zzP (by omega) (by omega) hh1) ha1 rfl rfl rfl rfl rfl rfl rfl rfl (zk_ls (fun P2 h2 e2 q2 => ?_) (fun h2 e2 q2 => ?_))
              ·
                subst q2
                refine zi_if_eq 86 88 dX6_seek_83 (by decide) rfl (fun c_83 => absurd c_83 (by decide)) (fun c_83 => ?_)
                refine zi_iconst (v := 1) 87 dX6_seek_86 (by decide) rfl ?_
                exact zr_int hZ dX6_seek_87 rfl rfl (hrx _ _ (by rw [hupx, chk_y zzP ht4, List.append_assoc]; exact lsP_1 e2))
              ·
                refine zi_if_eq 86 88 dX6_seek_83 (by decide) rfl (fun c_83 => ?_) (fun c_83 => absurd c_83 (by decide))
                refine zi_iinc (lv' := [(8, _), (7, _), (6, _), (5, _), (4, _), (3, _), (0, _), (1, _), (2, _)]) 91 dX6_seek_88 rfl rfl rfl rfl rfl ?_
                refine zi_goto 50 dX6_seek_91 (by decide) ?_
                rw [show jz x + Int32.ofInt 1 = jz (x + 1) from jz_add x 1]
                first | exact zi_lv [0, 1, 2, 3, 4, 5, 6, 7, 8] rfl (ihx (x + 1) _ h2 (ls_y hnx hxE) (by omega) (by omega) (by omega) q2 (fun v h3 p => hrx v h3 (by rw [hupx, chk_y zzP ht4, List.append_assoc]; exact lsP_a e2 p))) | exact zi_lv [0, 1, 2, 3, 4, 5, 6, 7, 8] rfl (ihx (x + 1) k1 h1 (ls_y hnx hxE) (by omega) (by omega) hk1 hh1 (fun v h3 p => hrx v h3 (by rw [hupx, chk_n zzP]; exact p)))
      exact zi_lv [0, 1, 2, 3, 4, 5, 6, 7, 8] rfl (inner (2 * zSq2 s + 2) (-(zSq2 s : Int)) k h0 (by omega) (by omega) (by omega) hk hh (fun v h1 p => hrel v h1 (by rw [hup, show lsX M w = up (chk M w) ((zSq2 s : Int) + 1 - -(zSq2 s : Int)).toNat (-(zSq2 s : Int)) by rw [lsX_s hs, show ((zSq2 s : Int) + 1 - -(zSq2 s : Int)).toNat = 2 * zSq2 s + 1 by omega]]; exact p)))

set_option maxHeartbeats 4000000 in
set_option maxRecDepth 100000 in
theorem s_X6_seek (B : zBB) (h : zHp) (a r q : Nat) (v0 : z4) (ah0 : Int32) (u : Nat → Int32) (ha : h a = some (zO 6 [.ref r, .ref q, .int ah0])) (hr : h r = some (zFo v0)) (hq : h q = some (zI B 601 u)) (hu : ∀ i, i < 601 → u i = nI (zSq2 i)) (n i : Nat) (hn : n ≤ 150) (hi : i < 2 ^ 31) : zSpec mX6_seek B (3, 0, 0) [.ref a, .int (nI n), .int (nI i)] h (lsP h a r q (lsL (4 * n)) i) := by
  refine zSpec.of (by decide) (Nat.le_of_ble_eq_true rfl) (fun X hZ => ?_)
  show zG X mX6_seek B (3, 0, 0) (0, 0) 0 [(0, .ref a), (1, .int (nI n)), (2, .int (nI i))] [] h
  refine zi_aload_n 1 dX6_seek_0 rfl rfl ?_
  refine zi_iload_n 2 dX6_seek_1 rfl rfl ?_
  refine zi_putfield (fs' := [_, _, _]) 5 2 dX6_seek_2 zcl_X6 tyX6 tyX6_ok nmX6 tw_245 rfl rfl rfl ha rfl rfl rfl rfl rfl rfl ?_
  refine zk_h (fun h0 hh => ?_)
  have ha0 := zX0 hh
  have hq0 := zX1 hh (zneC hq ha (by simp)) hq
  refine zi_iconst (v := 4) 6 dX6_seek_5 (by decide) rfl ?_
  refine zi_iload_n 7 dX6_seek_6 rfl rfl ?_
  refine zi_imul 8 dX6_seek_7 rfl ?_
  rw [show (4 : Int32) * nI n = nI (4 * n) from pk_mul 4 n]
  refine zi_istore_n (lv' := [(3, _), (0, _), (1, _), (2, _)]) 9 dX6_seek_8 rfl rfl rfl ?_
  refine zi_aload_n 10 dX6_seek_9 rfl rfl ?_
  refine zi_iload_n 11 dX6_seek_10 rfl rfl ?_
  refine zc_virtual (n' := (0, 0)) (md' := mX6_root) 14 dX6_seek_11 tw_731 zv_X6_root zcl_X6 (s_X6_root B h0 a q r (nI i) u ha0 hq0 (4 * n) (by omega)) ha0 rfl rfl rfl rfl rfl rfl rfl rfl (zk_f ?_)
  rw [hu (4 * n) (by omega)]
  refine zi_istore (lv' := [(4, _), (3, _), (0, _), (1, _), (2, _)]) 16 dX6_seek_14 rfl rfl rfl ?_
  refine zi_iload 18 dX6_seek_16 rfl rfl ?_
  refine zi_ineg 19 dX6_seek_18 rfl ?_
  rw [show -(nI (zSq2 (4 * n))) = jz (-(zSq2 (4 * n) : Int)) by rw [jz_nI, jz_neg]]
  refine zi_istore (lv' := [(5, _), (4, _), (3, _), (0, _), (1, _), (2, _)]) 21 dX6_seek_19 rfl rfl rfl ?_
  exact zi_lv [0, 1, 2, 3, 4, 5] rfl (l_X6_seek B h X a r q v0 ah0 u ha hr hq hu (4 * n) (by omega) (nI n) (nI i) _ i hZ (2 * zSq2 (4 * n) + 2) (-(zSq2 (4 * n) : Int)) i h0 (by omega) (by omega) (by omega) hi hh (fun v h1 p => by rw [show ((zSq2 (4 * n) : Int) + 1 - -(zSq2 (4 * n) : Int)).toNat = 2 * zSq2 (4 * n) + 1 by omega] at p; exact p))
