/-! the reference: cells -/
theorem vu_at (f : Nat → Int64) (k : Nat) (x : Int64) : vp_updL f k x k = x := if_pos rfl
noncomputable def gC (P : i4) : Nat → Nat
  | 0 => (i4q P).natAbs
  | k + 1 => Nat.gcd (gC P k) (tabI P k).natAbs
theorem gC_d (P : i4) : ∀ (k n : Nat), gC P (k + n) ∣ gC P k := by
  intro k n
  induction n with
  | zero => exact Nat.dvd_refl _
  | succ n ih => exact Nat.dvd_trans (Nat.gcd_dvd_left _ _) ih
theorem gC_q (P : i4) : ((gC P 9 : Nat) : Int) ∣ i4q P := Int.ofNat_dvd_left.mpr (by have := gC_d P 0 9; exact this)
theorem gC_t (P : i4) {i : Nat} (h : i < 9) : ((gC P 9 : Nat) : Int) ∣ tabI P i := Int.ofNat_dvd_left.mpr (by
  have h1 := gC_d P (i + 1) (8 - i)
  rw [show i + 1 + (8 - i) = 9 by omega] at h1
  exact Nat.dvd_trans h1 (Nat.gcd_dvd_right _ _))
theorem gC_p {P : i4} (h : 0 < i4q P) : ∀ k, 0 < gC P k := by
  intro k
  induction k with
  | zero => exact Int.natAbs_pos.mpr (by omega)
  | succ k ih => exact Nat.gcd_pos_of_pos_left _ ih
theorem gC_l {P : i4} (h : i4V P) (k : Nat) (hq : 0 < i4q P) : gC P k < 9223372036854775808 := by
  have h1 := gC_d P 0 k
  rw [Nat.zero_add] at h1
  have h2 := Nat.le_of_dvd (gC_p hq 0) h1
  have h3 := h.2
  have : gC P 0 = (i4q P).natAbs := rfl
  omega
theorem dv_gg {g a b : Int} (hg : 0 < g) (ha : g ∣ a) (hb : g ∣ b) : a / g ∣ b / g ↔ a ∣ b := by
  obtain ⟨x, rfl⟩ := ha
  obtain ⟨y, rfl⟩ := hb
  rw [Int.mul_ediv_cancel_left _ (by omega), Int.mul_ediv_cancel_left _ (by omega)]
  exact (Int.mul_dvd_mul_iff_left (by omega)).symm
theorem cm_gg {P : i4} {g : Int} (hg : 0 < g) (hq : g ∣ i4q P) (ht : ∀ i, i < 9 → g ∣ tabI P i) {x y z : Int} {c : Nat} (hc : c < 3) : i4q P / g ∣ cmI (fun i => tabI P i / g) x y z c ↔ i4q P ∣ cmI (tabI P) x y z c := by
  have e : cmI (fun i => tabI P i / g) x y z c = cmI (tabI P) x y z c / g := by
    obtain ⟨a, ha⟩ := ht c (by omega)
    obtain ⟨b, hb⟩ := ht (3 + c) (by omega)
    obtain ⟨d, hd⟩ := ht (6 + c) (by omega)
    show tabI P c / g * x + tabI P (3 + c) / g * y + tabI P (6 + c) / g * z = (tabI P c * x + tabI P (3 + c) * y + tabI P (6 + c) * z) / g
    rw [ha, hb, hd, Int.mul_ediv_cancel_left _ (by omega), Int.mul_ediv_cancel_left _ (by omega), Int.mul_ediv_cancel_left _ (by omega), Int.mul_assoc, Int.mul_assoc, Int.mul_assoc, ← Int.mul_add, ← Int.mul_add, Int.mul_ediv_cancel_left _ (by omega)]
  rw [e]
  have hs : g ∣ cmI (tabI P) x y z c := Int.dvd_add (Int.dvd_add (Int.dvd_mul_of_dvd_left (ht c (by omega))) (Int.dvd_mul_of_dvd_left (ht (3 + c) (by omega)))) (Int.dvd_mul_of_dvd_left (ht (6 + c) (by omega)))
  exact dv_gg hg hq hs
theorem cm_sum {a b c x y z : Int} : iz a * iz x + iz b * iz y + iz c * iz z = iz (a * x + b * y + c * z) := by rw [iz_mul, iz_mul, iz_mul, iz_add, iz_add]
noncomputable abbrev tG (P : i4) : Nat → Int := fun i => tabI P i / (gC P 9 : Int)
noncomputable abbrev lG (P : i4) : Int := i4q P / (gC P 9 : Int)
theorem tG_b {P : i4} (h : i4V P) (i : Nat) : (tG P i).natAbs ≤ 16000000000 := Nat.le_trans (Int.natAbs_ediv_le_natAbs _ _) (tab_b h i)
theorem lG_p {P : i4} (h : 0 < i4q P) : 0 < lG P := by
  have h1 := gC_p h 9
  obtain ⟨y, hy⟩ := gC_q P
  show 0 < i4q P / (gC P 9 : Int)
  rw [hy, Int.mul_ediv_cancel_left _ (by omega)]
  rw [hy] at h
  rcases Int.lt_trichotomy y 0 with c | c | c
  · have := Int.mul_nonpos_of_nonneg_of_nonpos (show (0 : Int) ≤ (gC P 9 : Nat) by omega) (show y ≤ 0 by omega)
    omega
  · rw [c, Int.mul_zero] at h
    omega
  · exact c
theorem lG_b {P : i4} (h : i4V P) : (lG P).natAbs < 9223372036854775808 := Nat.lt_of_le_of_lt (Int.natAbs_ediv_le_natAbs _ _) (i4q_nb h)

theorem cm_b3 {P : i4} (h : i4V P) {x y z : Int} (hx : x.natAbs ≤ 301) (hy : y.natAbs ≤ 301) (hz : z.natAbs ≤ 301) (c : Nat) : (tG P c * x + tG P (3 + c) * y + tG P (6 + c) * z).natAbs < 9223372036854775808 := by
  have h1 := zb_mul (tG_b h c) hx
  have h2 := zb_mul (tG_b h (3 + c)) hy
  have h3 := zb_mul (tG_b h (6 + c)) hz
  omega
theorem cm_y {P : i4} {x y z : Int} (h0 : i4q P ∣ cmI (tabI P) x y z 0) (h1 : i4q P ∣ cmI (tabI P) x y z 1) (h2 : i4q P ∣ cmI (tabI P) x y z 2) : some (Value.int 1) = some (.int (if cmn (tabI P) (i4q P) x y z then 1 else 0)) := by rw [if_pos ⟨h0, h1, h2⟩]
theorem cm_no {P : i4} {x y z : Int} (h : ¬ cmn (tabI P) (i4q P) x y z) : some (Value.int 0) = some (.int (if cmn (tabI P) (i4q P) x y z then 1 else 0)) := by rw [if_neg h]
theorem lG_n {P : i4} (hV : i4V P) (h : 0 < i4q P) : ¬ iz (lG P) = 0 := fun e => by
  have h1 := lG_p h
  have h2 := lG_b hV
  rw [iz_0, iz_inj (by omega) (by omega)] at e
  omega

set_option maxHeartbeats 4000000 in
set_option maxRecDepth 100000 in
theorem s_X11_isCommon (B : zBB) (h : zHp) (D : Nat → Nat) (hD : zInj D) (m : mS) (M : rM B D m h) (P : i4) (hV : i4V P) (hq : 0 < i4q P) (hT : ∀ i, i < 9 → wB m i = iz (tG P i)) (x y z : Int) (hx : x.natAbs ≤ 301) (hy : y.natAbs ≤ 301) (hz : z.natAbs ≤ 301) : zSpec mX11_isCommon B (0, 0, 0) [.ref (D 0), .long (iz x), .long (iz y), .long (iz z), .long (iz (lG P))] h (zPf (some (.int (if cmn (tabI P) (i4q P) x y z then 1 else 0))) h) := by
  refine zSpec.of (by decide) (Nat.le_of_ble_eq_true rfl) (fun X hZ => ?_)
  show zG X mX11_isCommon B (0, 0, 0) (0, 0) 0 [(0, .ref (D 0)), (1, .long (iz x)), (3, .long (iz y)), (5, .long (iz z)), (7, .long (iz (lG P)))] [] h
  have N0 := rN_r M
  have hg : (0 : Int) < (gC P 9 : Nat) := by have := gC_p hq 9; omega
  refine zi_iconst (v := 0) 1 dX11_isCommon_0 (by decide) rfl ?_
  refine zi_istore (lv' := [(9, _), (0, _), (1, _), (3, _), (5, _), (7, _)]) 3 dX11_isCommon_1 rfl rfl rfl ?_
  refine zi_iload 5 dX11_isCommon_3 rfl rfl ?_
  refine zi_iconst (v := 3) 6 dX11_isCommon_5 (by decide) rfl ?_
  refine zi_icmp_ge 9 60 dX11_isCommon_6 (by decide) rfl (fun c_6 => absurd c_6 (by decide)) (fun c_6 => ?_)
  refine zi_aload_n 10 dX11_isCommon_9 rfl rfl ?_
  refine zi_getfield 13 10 dX11_isCommon_10 zcl_X11 tw_873 rfl rfl N0.1.1 rfl rfl ?_
  refine zi_iload 15 dX11_isCommon_13 rfl rfl ?_
  refine zi_laload 16 dX11_isCommon_15 N0.1.2.2.2.2.2.2.2.2.2 (vp_in_nI (show 0 < 9 by decide) (by decide)) rfl ?_
  rw [show Int32.toNatClampNeg 0 = 0 from rfl]
  rw [show wB m 0 = iz (tG P 0) from hT 0 (by decide)]
  refine zi_lload_n 17 dX11_isCommon_16 rfl rfl ?_
  refine zi_lmul 18 dX11_isCommon_17 rfl ?_
  refine zi_aload_n 19 dX11_isCommon_18 rfl rfl ?_
  refine zi_getfield 22 10 dX11_isCommon_19 zcl_X11 tw_873 rfl rfl N0.1.1 rfl rfl ?_
  refine zi_iconst (v := 3) 23 dX11_isCommon_22 (by decide) rfl ?_
  refine zi_iload 25 dX11_isCommon_23 rfl rfl ?_
  refine zi_iadd 26 dX11_isCommon_25 rfl ?_
  rw [show (3 : Int32) + 0 = 3 from rfl]
  refine zi_laload 27 dX11_isCommon_26 N0.1.2.2.2.2.2.2.2.2.2 (vp_in_nI (show 3 < 9 by decide) (by decide)) rfl ?_
  rw [show Int32.toNatClampNeg 3 = 3 from rfl]
  rw [show wB m 3 = iz (tG P 3) from hT 3 (by decide)]
  refine zi_lload_n 28 dX11_isCommon_27 rfl rfl ?_
  refine zi_lmul 29 dX11_isCommon_28 rfl ?_
  refine zi_ladd 30 dX11_isCommon_29 rfl ?_
  refine zi_aload_n 31 dX11_isCommon_30 rfl rfl ?_
  refine zi_getfield 34 10 dX11_isCommon_31 zcl_X11 tw_873 rfl rfl N0.1.1 rfl rfl ?_
  refine zi_bipush (v := 6) 36 dX11_isCommon_34 (by decide) rfl ?_
  refine zi_iload 38 dX11_isCommon_36 rfl rfl ?_
  refine zi_iadd 39 dX11_isCommon_38 rfl ?_
  rw [show (6 : Int32) + 0 = 6 from rfl]
  refine zi_laload 40 dX11_isCommon_39 N0.1.2.2.2.2.2.2.2.2.2 (vp_in_nI (show 6 < 9 by decide) (by decide)) rfl ?_
  rw [show Int32.toNatClampNeg 6 = 6 from rfl]
  rw [show wB m 6 = iz (tG P 6) from hT 6 (by decide)]
  refine zi_lload 42 dX11_isCommon_40 rfl rfl ?_
  refine zi_lmul 43 dX11_isCommon_42 rfl ?_
  refine zi_ladd 44 dX11_isCommon_43 rfl ?_
  rw [cm_sum]
  refine zi_lload 46 dX11_isCommon_44 rfl rfl ?_
  refine zi_lrem 47 dX11_isCommon_46 (lG_n hV hq) rfl ?_
  refine zi_lconst (v := 0) 48 dX11_isCommon_47 (by decide) rfl ?_
  refine zj_eq 52 54 dX11_isCommon_48 rfl dX11_isCommon_49 (by decide) rfl (fun zc0 => ?_) (fun zc0 => ?_)
  ·
    rw [cm_rem (cm_b3 hV hx hy hz 0) (lG_b hV)] at zc0
    have zc0 := (cm_gg (g := (gC P 9 : Int)) (x := x) (y := y) (z := z) hg (gC_q P) (fun i hi => gC_t P hi) (c := 0) (by decide)).mp zc0
    refine zi_iinc (v := 1) (lv' := [(9, _), (0, _), (1, _), (3, _), (5, _), (7, _)]) 57 dX11_isCommon_54 rfl rfl rfl rfl rfl ?_
    refine zi_goto 3 dX11_isCommon_57 (by decide) ?_
    refine zi_iload 5 dX11_isCommon_3 rfl rfl ?_
    refine zi_iconst (v := 3) 6 dX11_isCommon_5 (by decide) rfl ?_
    refine zi_icmp_ge 9 60 dX11_isCommon_6 (by decide) rfl (fun c_6 => absurd c_6 (by decide)) (fun c_6 => ?_)
    refine zi_aload_n 10 dX11_isCommon_9 rfl rfl ?_
    refine zi_getfield 13 10 dX11_isCommon_10 zcl_X11 tw_873 rfl rfl N0.1.1 rfl rfl ?_
    refine zi_iload 15 dX11_isCommon_13 rfl rfl ?_
    refine zi_laload 16 dX11_isCommon_15 N0.1.2.2.2.2.2.2.2.2.2 (vp_in_nI (show 1 < 9 by decide) (by decide)) rfl ?_
    rw [show Int32.toNatClampNeg 1 = 1 from rfl]
    rw [show wB m 1 = iz (tG P 1) from hT 1 (by decide)]
    refine zi_lload_n 17 dX11_isCommon_16 rfl rfl ?_
    refine zi_lmul 18 dX11_isCommon_17 rfl ?_
    refine zi_aload_n 19 dX11_isCommon_18 rfl rfl ?_
    refine zi_getfield 22 10 dX11_isCommon_19 zcl_X11 tw_873 rfl rfl N0.1.1 rfl rfl ?_
    refine zi_iconst (v := 3) 23 dX11_isCommon_22 (by decide) rfl ?_
    refine zi_iload 25 dX11_isCommon_23 rfl rfl ?_
    refine zi_iadd 26 dX11_isCommon_25 rfl ?_
    rw [show (3 : Int32) + 1 = 4 from rfl]
    refine zi_laload 27 dX11_isCommon_26 N0.1.2.2.2.2.2.2.2.2.2 (vp_in_nI (show 4 < 9 by decide) (by decide)) rfl ?_
    rw [show Int32.toNatClampNeg 4 = 4 from rfl]
    rw [show wB m 4 = iz (tG P 4) from hT 4 (by decide)]
    refine zi_lload_n 28 dX11_isCommon_27 rfl rfl ?_
    refine zi_lmul 29 dX11_isCommon_28 rfl ?_
    refine zi_ladd 30 dX11_isCommon_29 rfl ?_
    refine zi_aload_n 31 dX11_isCommon_30 rfl rfl ?_
    refine zi_getfield 34 10 dX11_isCommon_31 zcl_X11 tw_873 rfl rfl N0.1.1 rfl rfl ?_
    refine zi_bipush (v := 6) 36 dX11_isCommon_34 (by decide) rfl ?_
    refine zi_iload 38 dX11_isCommon_36 rfl rfl ?_
    refine zi_iadd 39 dX11_isCommon_38 rfl ?_
    rw [show (6 : Int32) + 1 = 7 from rfl]
    refine zi_laload 40 dX11_isCommon_39 N0.1.2.2.2.2.2.2.2.2.2 (vp_in_nI (show 7 < 9 by decide) (by decide)) rfl ?_
    rw [show Int32.toNatClampNeg 7 = 7 from rfl]
    rw [show wB m 7 = iz (tG P 7) from hT 7 (by decide)]
    refine zi_lload 42 dX11_isCommon_40 rfl rfl ?_
    refine zi_lmul 43 dX11_isCommon_42 rfl ?_
    refine zi_ladd 44 dX11_isCommon_43 rfl ?_
    rw [cm_sum]
    refine zi_lload 46 dX11_isCommon_44 rfl rfl ?_
    refine zi_lrem 47 dX11_isCommon_46 (lG_n hV hq) rfl ?_
    refine zi_lconst (v := 0) 48 dX11_isCommon_47 (by decide) rfl ?_
    refine zj_eq 52 54 dX11_isCommon_48 rfl dX11_isCommon_49 (by decide) rfl (fun zc1 => ?_) (fun zc1 => ?_)
    ·
      rw [cm_rem (cm_b3 hV hx hy hz 1) (lG_b hV)] at zc1
      have zc1 := (cm_gg (g := (gC P 9 : Int)) (x := x) (y := y) (z := z) hg (gC_q P) (fun i hi => gC_t P hi) (c := 1) (by decide)).mp zc1
      refine zi_iinc (v := 2) (lv' := [(9, _), (0, _), (1, _), (3, _), (5, _), (7, _)]) 57 dX11_isCommon_54 rfl rfl rfl rfl rfl ?_
      refine zi_goto 3 dX11_isCommon_57 (by decide) ?_
      refine zi_iload 5 dX11_isCommon_3 rfl rfl ?_
      refine zi_iconst (v := 3) 6 dX11_isCommon_5 (by decide) rfl ?_
      refine zi_icmp_ge 9 60 dX11_isCommon_6 (by decide) rfl (fun c_6 => absurd c_6 (by decide)) (fun c_6 => ?_)
      refine zi_aload_n 10 dX11_isCommon_9 rfl rfl ?_
      refine zi_getfield 13 10 dX11_isCommon_10 zcl_X11 tw_873 rfl rfl N0.1.1 rfl rfl ?_
      refine zi_iload 15 dX11_isCommon_13 rfl rfl ?_
      refine zi_laload 16 dX11_isCommon_15 N0.1.2.2.2.2.2.2.2.2.2 (vp_in_nI (show 2 < 9 by decide) (by decide)) rfl ?_
      rw [show Int32.toNatClampNeg 2 = 2 from rfl]
      rw [show wB m 2 = iz (tG P 2) from hT 2 (by decide)]
      refine zi_lload_n 17 dX11_isCommon_16 rfl rfl ?_
      refine zi_lmul 18 dX11_isCommon_17 rfl ?_
      refine zi_aload_n 19 dX11_isCommon_18 rfl rfl ?_
      refine zi_getfield 22 10 dX11_isCommon_19 zcl_X11 tw_873 rfl rfl N0.1.1 rfl rfl ?_
      refine zi_iconst (v := 3) 23 dX11_isCommon_22 (by decide) rfl ?_
      refine zi_iload 25 dX11_isCommon_23 rfl rfl ?_
      refine zi_iadd 26 dX11_isCommon_25 rfl ?_
      rw [show (3 : Int32) + 2 = 5 from rfl]
      refine zi_laload 27 dX11_isCommon_26 N0.1.2.2.2.2.2.2.2.2.2 (vp_in_nI (show 5 < 9 by decide) (by decide)) rfl ?_
      rw [show Int32.toNatClampNeg 5 = 5 from rfl]
      rw [show wB m 5 = iz (tG P 5) from hT 5 (by decide)]
      refine zi_lload_n 28 dX11_isCommon_27 rfl rfl ?_
      refine zi_lmul 29 dX11_isCommon_28 rfl ?_
      refine zi_ladd 30 dX11_isCommon_29 rfl ?_
      refine zi_aload_n 31 dX11_isCommon_30 rfl rfl ?_
      refine zi_getfield 34 10 dX11_isCommon_31 zcl_X11 tw_873 rfl rfl N0.1.1 rfl rfl ?_
      refine zi_bipush (v := 6) 36 dX11_isCommon_34 (by decide) rfl ?_
      refine zi_iload 38 dX11_isCommon_36 rfl rfl ?_
      refine zi_iadd 39 dX11_isCommon_38 rfl ?_
      rw [show (6 : Int32) + 2 = 8 from rfl]
      refine zi_laload 40 dX11_isCommon_39 N0.1.2.2.2.2.2.2.2.2.2 (vp_in_nI (show 8 < 9 by decide) (by decide)) rfl ?_
      rw [show Int32.toNatClampNeg 8 = 8 from rfl]
      rw [show wB m 8 = iz (tG P 8) from hT 8 (by decide)]
      refine zi_lload 42 dX11_isCommon_40 rfl rfl ?_
      refine zi_lmul 43 dX11_isCommon_42 rfl ?_
      refine zi_ladd 44 dX11_isCommon_43 rfl ?_
      rw [cm_sum]
      refine zi_lload 46 dX11_isCommon_44 rfl rfl ?_
      refine zi_lrem 47 dX11_isCommon_46 (lG_n hV hq) rfl ?_
      refine zi_lconst (v := 0) 48 dX11_isCommon_47 (by decide) rfl ?_
      refine zj_eq 52 54 dX11_isCommon_48 rfl dX11_isCommon_49 (by decide) rfl (fun zc2 => ?_) (fun zc2 => ?_)
      ·
        rw [cm_rem (cm_b3 hV hx hy hz 2) (lG_b hV)] at zc2
        have zc2 := (cm_gg (g := (gC P 9 : Int)) (x := x) (y := y) (z := z) hg (gC_q P) (fun i hi => gC_t P hi) (c := 2) (by decide)).mp zc2
        refine zi_iinc (v := 3) (lv' := [(9, _), (0, _), (1, _), (3, _), (5, _), (7, _)]) 57 dX11_isCommon_54 rfl rfl rfl rfl rfl ?_
        refine zi_goto 3 dX11_isCommon_57 (by decide) ?_
        refine zi_iload 5 dX11_isCommon_3 rfl rfl ?_
        refine zi_iconst (v := 3) 6 dX11_isCommon_5 (by decide) rfl ?_
        refine zi_icmp_ge 9 60 dX11_isCommon_6 (by decide) rfl (fun c_6 => ?_) (fun c_6 => absurd c_6 (by decide))
        refine zi_iconst (v := 1) 61 dX11_isCommon_60 (by decide) rfl ?_
        exact zr_int hZ dX11_isCommon_61 rfl (by decide) ⟨cm_y zc0 zc1 zc2, rfl⟩
      ·
        rw [cm_rem (cm_b3 hV hx hy hz 2) (lG_b hV)] at zc2
        have zc2 := fun q => zc2 ((cm_gg (g := (gC P 9 : Int)) (x := x) (y := y) (z := z) hg (gC_q P) (fun i hi => gC_t P hi) (c := 2) (by decide)).mpr q)
        refine zi_iconst (v := 0) 53 dX11_isCommon_52 (by decide) rfl ?_
        exact zr_int hZ dX11_isCommon_53 rfl (by decide) ⟨by first | exact cm_no (fun r => zc0 r.1) | exact cm_no (fun r => zc1 r.2.1) | exact cm_no (fun r => zc2 r.2.2), rfl⟩
    ·
      rw [cm_rem (cm_b3 hV hx hy hz 1) (lG_b hV)] at zc1
      have zc1 := fun q => zc1 ((cm_gg (g := (gC P 9 : Int)) (x := x) (y := y) (z := z) hg (gC_q P) (fun i hi => gC_t P hi) (c := 1) (by decide)).mpr q)
      refine zi_iconst (v := 0) 53 dX11_isCommon_52 (by decide) rfl ?_
      exact zr_int hZ dX11_isCommon_53 rfl (by decide) ⟨by first | exact cm_no (fun r => zc0 r.1) | exact cm_no (fun r => zc1 r.2.1) | exact cm_no (fun r => zc2 r.2.2), rfl⟩
  ·
    rw [cm_rem (cm_b3 hV hx hy hz 0) (lG_b hV)] at zc0
    have zc0 := fun q => zc0 ((cm_gg (g := (gC P 9 : Int)) (x := x) (y := y) (z := z) hg (gC_q P) (fun i hi => gC_t P hi) (c := 0) (by decide)).mpr q)
    refine zi_iconst (v := 0) 53 dX11_isCommon_52 (by decide) rfl ?_
    exact zr_int hZ dX11_isCommon_53 rfl (by decide) ⟨by first | exact cm_no (fun r => zc0 r.1) | exact cm_no (fun r => zc1 r.2.1) | exact cm_no (fun r => zc2 r.2.2), rfl⟩

set_option maxHeartbeats 2000000 in
set_option maxRecDepth 100000 in
theorem l_X11_cellA (B : zBB) (h : zHp) (X : zX) (D : Nat → Nat) (hD : zInj D) (m : mS) (M : rM B D m h) (P : i4) (hV : i4V P) (hq : 0 < i4q P) (hT : ∀ i, i < 9 → wB m i = iz (tG P i)) (K : Nat) (hK : K ≤ 300) (kq : Int32) (hKA : cC (tabI P) (i4q P) K 0 0) (kk : ∀ (a : Nat), a ≤ K → clA (tabI P) (i4q P) a → zG X mX11_cell B (3, 0, 0) (0, 0) 170 [(8, .int (nI a)), (4, .long (iz (lG P))), (0, .ref (D 0)), (2, .int kq)] [] h) : ∀ (nn : Nat) (a : Nat), K + 1 - a < nn → (1 ≤ a) → (a ≤ K) → (∀ x, 1 ≤ x → x < a → ¬ cC (tabI P) (i4q P) x 0 0) → zG X mX11_cell B (3, 0, 0) (0, 0) 150 [(8, .int (nI a)), (4, .long (iz (lG P))), (0, .ref (D 0)), (2, .int kq)] [] h := by
  intro nn
  induction nn with
  | zero => intro a hnn; omega
  | succ nn ih =>
    intro a hnn h1 h2 h3
    have N0 := rN_r M
    refine zi_aload_n 151 dX11_cell_150 rfl rfl ?_
    refine zi_iload 153 dX11_cell_151 rfl rfl ?_
    refine zi_i2l 154 dX11_cell_153 rfl ?_
    refine zi_lconst (v := 0) 155 dX11_cell_154 (by decide) rfl ?_
    refine zi_lconst (v := 0) 156 dX11_cell_155 (by decide) rfl ?_
    refine zi_lload 158 dX11_cell_156 rfl rfl ?_
    rw [cl_i (x := a) (by omega), iz_0]
    refine zc_virtual (n' := (0, 0)) (md' := mX11_isCommon) 161 dX11_cell_158 tw_1181 zv_X11_isCommon zcl_X11 (s_X11_isCommon B h D hD _ N0.1 P hV hq hT (a : Int) 0 0 (by omega) (by omega) (by omega)) N0.1.1 rfl rfl rfl rfl rfl rfl rfl rfl (zk_f ?_)
    refine zb_ne 164 170 dX11_cell_161 (by decide) rfl (fun zzM => ?_) (fun zzM => ?_)
    ·
      exact kk a h2 ⟨h1, zzM, h3⟩
    ·
      refine zi_iinc (v := nI (a + 1)) (lv' := [(8, _), (4, _), (0, _), (2, _)]) 167 dX11_cell_164 rfl (nI_1 _) rfl rfl rfl ?_
      refine zi_goto 150 dX11_cell_167 (by decide) ?_
      have hn := cl_n (p := fun x => cC (tabI P) (i4q P) x 0 0) h2 zzM hKA
      exact zi_lv [0, 1, 2, 3] rfl (ih (a + 1) (by omega) (by omega) hn (cl_s (p := fun x => cC (tabI P) (i4q P) x 0 0) h3 zzM))

theorem cl_m2 {K a b c nn : Nat} (hb : b + 1 < a) (h2 : c ≤ K) (h : (K - c) * a + (a - b) < nn + 1) : (K - c) * a + (a - (b + 1)) < nn := by omega
theorem cl_m3 {K a b c nn : Nat} (hc : c + 1 ≤ K) (hb : b < a) (h2 : c ≤ K) (h : (K - c) * a + (a - b) < nn + 1) : (K - (c + 1)) * a + (a - 0) < nn := by
  have e : K - c = (K - (c + 1)) + 1 := by omega
  rw [e, Nat.succ_mul] at h
  omega

set_option maxHeartbeats 2000000 in
set_option maxRecDepth 100000 in
theorem l_X11_cellB (B : zBB) (h : zHp) (X : zX) (D : Nat → Nat) (hD : zInj D) (m : mS) (M : rM B D m h) (P : i4) (hV : i4V P) (hq : 0 < i4q P) (hT : ∀ i, i < 9 → wB m i = iz (tG P i)) (K : Nat) (hK : K ≤ 300) (kq : Int32) (a : Nat) (ha1 : 1 ≤ a) (ha : a ≤ 300) (hKB : cC (tabI P) (i4q P) 0 K 0) (kk : ∀ (b c : Nat), b ≤ 300 → c ≤ K → clB (tabI P) (i4q P) a b c → zG X mX11_cell B (3, 0, 0) (0, 0) 211 [(9, .int (nI b)), (10, .int (nI c)), (8, .int (nI a)), (4, .long (iz (lG P))), (0, .ref (D 0)), (2, .int kq)] [] h) : ∀ (nn : Nat) (b c : Nat), (K - c) * a + (a - b) < nn → (b < a) → (1 ≤ c) → (c ≤ K) → (∀ y, 1 ≤ y → y < c → ∀ x, x < a → ¬ cC (tabI P) (i4q P) x y 0) → (∀ x, x < b → ¬ cC (tabI P) (i4q P) x c 0) → zG X mX11_cell B (3, 0, 0) (0, 0) 176 [(9, .int (nI b)), (10, .int (nI c)), (8, .int (nI a)), (4, .long (iz (lG P))), (0, .ref (D 0)), (2, .int kq)] [] h := by
  intro nn
  induction nn with
  | zero => intro b c hnn; omega
  | succ nn ih =>
    intro b c hnn hb h1 h2 h3 h4
    have N0 := rN_r M
    refine zi_aload_n 177 dX11_cell_176 rfl rfl ?_
    refine zi_iload 179 dX11_cell_177 rfl rfl ?_
    refine zi_i2l 180 dX11_cell_179 rfl ?_
    refine zi_iload 182 dX11_cell_180 rfl rfl ?_
    refine zi_i2l 183 dX11_cell_182 rfl ?_
    refine zi_lconst (v := 0) 184 dX11_cell_183 (by decide) rfl ?_
    refine zi_lload 186 dX11_cell_184 rfl rfl ?_
    rw [cl_i (x := b) (by omega), cl_i (x := c) (by omega), iz_0]
    refine zc_virtual (n' := (0, 0)) (md' := mX11_isCommon) 189 dX11_cell_186 tw_1181 zv_X11_isCommon zcl_X11 (s_X11_isCommon B h D hD _ N0.1 P hV hq hT (b : Int) (c : Int) 0 (by omega) (by omega) (by omega)) N0.1.1 rfl rfl rfl rfl rfl rfl rfl rfl (zk_f ?_)
    refine zb_ne 192 211 dX11_cell_189 (by decide) rfl (fun zzM => ?_) (fun zzM => ?_)
    ·
      exact kk b c (by omega) h2 ⟨hb, h1, zzM, h3, h4⟩
    ·
      refine zi_iinc (v := nI (b + 1)) (lv' := [(9, _), (10, _), (8, _), (4, _), (0, _), (2, _)]) 195 dX11_cell_192 rfl (nI_1 _) rfl rfl rfl ?_
      refine zi_iload 197 dX11_cell_195 rfl rfl ?_
      refine zi_iload 199 dX11_cell_197 rfl rfl ?_
      refine zi_icmp_ne 202 176 dX11_cell_199 (by decide) rfl (fun zzE => ?_) (fun zzE => ?_)
      ·
        have h5 := cl_s0 (p := fun x => cC (tabI P) (i4q P) x c 0) h4 zzM
        have nb : ¬ b + 1 = a := fun q => zzE (by rw [q])
        exact zi_lv [0, 1, 2, 3, 4, 5] rfl (ih (b + 1) c (cl_m2 (by omega) h2 hnn) (by omega) h1 h2 h3 h5)
      ·
        refine zi_iconst (v := 0) 203 dX11_cell_202 (by decide) rfl ?_
        refine zi_istore (lv' := [(9, _), (10, _), (8, _), (4, _), (0, _), (2, _)]) 205 dX11_cell_203 rfl rfl rfl ?_
        refine zi_iinc (v := nI (c + 1)) (lv' := [(10, _), (9, _), (8, _), (4, _), (0, _), (2, _)]) 208 dX11_cell_205 rfl (nI_1 _) rfl rfl rfl ?_
        refine zi_goto 176 dX11_cell_208 (by decide) ?_
        have eb : b + 1 = a := by rw [nI_eq (by omega) (by omega)] at zzE; exact zzE
        have h5 := cl_s0 (p := fun x => cC (tabI P) (i4q P) x c 0) h4 zzM
        have h6 := cl_y (a := a) (y := c) (x := b + 1) h3 h5 (by omega)
        have hc1 := cl_n (p := fun y => cC (tabI P) (i4q P) 0 y 0) h2 (h5 0 (by omega)) hKB
        exact zi_lv [1, 0, 2, 3, 4, 5] rfl (ih 0 (c + 1) (cl_m3 hc1 hb h2 hnn) (by omega) (by omega) hc1 h6 (fun x hx => absurd hx (Nat.not_lt_zero _)))

theorem cl_m4 {K a c d e g nn : Nat} (hd : d + 1 < a) (h : (K - g) * (c * a + 1) + ((c - 1 - e) * a + (a - d)) < nn + 1) : (K - g) * (c * a + 1) + ((c - 1 - e) * a + (a - (d + 1))) < nn := by omega
theorem cl_m5 {K a c d e g nn : Nat} (he : e + 1 < c) (hd : d < a) (h : (K - g) * (c * a + 1) + ((c - 1 - e) * a + (a - d)) < nn + 1) : (K - g) * (c * a + 1) + ((c - 1 - (e + 1)) * a + (a - 0)) < nn := by
  have e1 : c - 1 - e = (c - 1 - (e + 1)) + 1 := by omega
  rw [e1, Nat.succ_mul] at h
  omega
theorem cl_m6 {K a c d e g nn : Nat} (hg : g + 1 ≤ K) (he : e < c) (hd : d < a) (h : (K - g) * (c * a + 1) + ((c - 1 - e) * a + (a - d)) < nn + 1) : (K - (g + 1)) * (c * a + 1) + ((c - 1 - 0) * a + (a - 0)) < nn := by
  have e1 : K - g = (K - (g + 1)) + 1 := by omega
  rw [e1, Nat.succ_mul] at h
  have e2 : (c - 1 - 0) * a + (a - 0) = c * a := by
    rw [Nat.sub_zero, Nat.sub_zero, ← Nat.succ_mul]
    congr 1
    omega
  omega

set_option maxHeartbeats 2000000 in
set_option maxRecDepth 100000 in
theorem l_X11_cellD (B : zBB) (h : zHp) (X : zX) (D : Nat → Nat) (hD : zInj D) (m : mS) (M : rM B D m h) (P : i4) (hV : i4V P) (hq : 0 < i4q P) (hT : ∀ i, i < 9 → wB m i = iz (tG P i)) (K : Nat) (hK : K ≤ 300) (kq : Int32) (a b c : Nat) (ha1 : 1 ≤ a) (ha : a ≤ 300) (hc1 : 1 ≤ c) (hc : c ≤ 300) (hKD : cC (tabI P) (i4q P) 0 0 K) (kk : ∀ (d e g : Nat), clD (tabI P) (i4q P) a c d e g → zG X mX11_cell B (3, 0, 0) (0, 0) 270 [(11, .int (nI d)), (12, .int (nI e)), (13, .int (nI g)), (8, .int (nI a)), (9, .int (nI b)), (10, .int (nI c)), (4, .long (iz (lG P))), (0, .ref (D 0)), (2, .int kq)] [] h) : ∀ (nn : Nat) (d e g : Nat), (K - g) * (c * a + 1) + ((c - 1 - e) * a + (a - d)) < nn → (d < a) → (e < c) → (1 ≤ g) → (g ≤ K) → (∀ z, 1 ≤ z → z < g → ∀ y, y < c → ∀ x, x < a → ¬ cC (tabI P) (i4q P) x y z) → (∀ y, y < e → ∀ x, x < a → ¬ cC (tabI P) (i4q P) x y g) → (∀ x, x < d → ¬ cC (tabI P) (i4q P) x e g) → zG X mX11_cell B (3, 0, 0) (0, 0) 220 [(11, .int (nI d)), (12, .int (nI e)), (13, .int (nI g)), (8, .int (nI a)), (9, .int (nI b)), (10, .int (nI c)), (4, .long (iz (lG P))), (0, .ref (D 0)), (2, .int kq)] [] h := by
  intro nn
  induction nn with
  | zero => intro d e g hnn; omega
  | succ nn ih =>
    intro d e g hnn hd he h3 h2 h4 h5 h6
    have N0 := rN_r M
    refine zi_aload_n 221 dX11_cell_220 rfl rfl ?_
    refine zi_iload 223 dX11_cell_221 rfl rfl ?_
    refine zi_i2l 224 dX11_cell_223 rfl ?_
    refine zi_iload 226 dX11_cell_224 rfl rfl ?_
    refine zi_i2l 227 dX11_cell_226 rfl ?_
    refine zi_iload 229 dX11_cell_227 rfl rfl ?_
    refine zi_i2l 230 dX11_cell_229 rfl ?_
    refine zi_lload 232 dX11_cell_230 rfl rfl ?_
    rw [cl_i (x := d) (by omega), cl_i (x := e) (by omega), cl_i (x := g) (by omega)]
    refine zc_virtual (n' := (0, 0)) (md' := mX11_isCommon) 235 dX11_cell_232 tw_1181 zv_X11_isCommon zcl_X11 (s_X11_isCommon B h D hD _ N0.1 P hV hq hT (d : Int) (e : Int) (g : Int) (by omega) (by omega) (by omega)) N0.1.1 rfl rfl rfl rfl rfl rfl rfl rfl (zk_f ?_)
    refine zb_ne 238 270 dX11_cell_235 (by decide) rfl (fun zzM => ?_) (fun zzM => ?_)
    ·
      exact kk d e g ⟨hd, he, h3, zzM, h4, h5, h6⟩
    ·
      refine zi_iinc (v := nI (d + 1)) (lv' := [(11, _), (12, _), (13, _), (8, _), (9, _), (10, _), (4, _), (0, _), (2, _)]) 241 dX11_cell_238 rfl (nI_1 _) rfl rfl rfl ?_
      refine zi_iload 243 dX11_cell_241 rfl rfl ?_
      refine zi_iload 245 dX11_cell_243 rfl rfl ?_
      refine zi_icmp_ne 248 254 dX11_cell_245 (by decide) rfl (fun zzA => ?_) (fun zzA => ?_)
      ·
        have na : ¬ d + 1 = a := fun q => zzA (by rw [q])
        refine zi_iload 256 dX11_cell_254 rfl rfl ?_
        refine zi_iload 258 dX11_cell_256 rfl rfl ?_
        refine zi_icmp_ne 261 220 dX11_cell_258 (by decide) rfl (fun zzC => ?_) (fun zzC => ?_)
        ·
          exact zi_lv [0, 1, 2, 3, 4, 5, 6, 7, 8] rfl (ih (d + 1) e g (cl_m4 (by omega) hnn) (by omega) he h3 h2 h4 h5 (cl_s0 (p := fun x => cC (tabI P) (i4q P) x e g) h6 zzM))
        ·
          exact absurd he (by rw [nI_eq (by omega) (by omega)] at zzC; omega)
      ·
        have ea : d + 1 = a := by rw [nI_eq (by omega) (by omega)] at zzA; exact zzA
        have h9 := cl_x (a := a) (x := d + 1) (y := e) (z := g) h5 (cl_s0 (p := fun x => cC (tabI P) (i4q P) x e g) h6 zzM) (by omega)
        refine zi_iconst (v := 0) 249 dX11_cell_248 (by decide) rfl ?_
        refine zi_istore (lv' := [(11, _), (12, _), (13, _), (8, _), (9, _), (10, _), (4, _), (0, _), (2, _)]) 251 dX11_cell_249 rfl rfl rfl ?_
        refine zi_iinc (v := nI (e + 1)) (lv' := [(12, _), (11, _), (13, _), (8, _), (9, _), (10, _), (4, _), (0, _), (2, _)]) 254 dX11_cell_251 rfl (nI_1 _) rfl rfl rfl ?_
        refine zi_iload 256 dX11_cell_254 rfl rfl ?_
        refine zi_iload 258 dX11_cell_256 rfl rfl ?_
        refine zi_icmp_ne 261 220 dX11_cell_258 (by decide) rfl (fun zzC => ?_) (fun zzC => ?_)
        ·
          have ne_ : ¬ e + 1 = c := fun q => zzC (by rw [q])
          exact zi_lv [1, 0, 2, 3, 4, 5, 6, 7, 8] rfl (ih 0 (e + 1) g (cl_m5 (by omega) (by omega) hnn) (by omega) (by omega) h3 h2 h4 h9 (fun x hx => absurd hx (Nat.not_lt_zero _)))
        ·
          have ec : e + 1 = c := by rw [nI_eq (by omega) (by omega)] at zzC; exact zzC
          refine zi_iconst (v := 0) 262 dX11_cell_261 (by decide) rfl ?_
          refine zi_istore (lv' := [(12, _), (11, _), (13, _), (8, _), (9, _), (10, _), (4, _), (0, _), (2, _)]) 264 dX11_cell_262 rfl rfl rfl ?_
          refine zi_iinc (v := nI (g + 1)) (lv' := [(13, _), (12, _), (11, _), (8, _), (9, _), (10, _), (4, _), (0, _), (2, _)]) 267 dX11_cell_264 rfl (nI_1 _) rfl rfl rfl ?_
          refine zi_goto 220 dX11_cell_267 (by decide) ?_
          have h8 := cl_z (a := a) (c := c) (y := e + 1) (z := g) h4 h9 (by omega)
          have hg1 := cl_n (p := fun z => cC (tabI P) (i4q P) 0 0 z) h2 (h9 0 (by omega) 0 (by omega)) hKD
          exact zi_lv [2, 1, 0, 3, 4, 5, 6, 7, 8] rfl (ih 0 0 (g + 1) (cl_m6 hg1 (by omega) (by omega) hnn) (by omega) (by omega) (by omega) hg1 h8 (fun y hy => absurd hy (Nat.not_lt_zero _)) (fun x hx => absurd hx (Nat.not_lt_zero _)))

set_option maxHeartbeats 4000000 in
set_option maxRecDepth 100000 in
theorem s_X11_cell (B : zBB) (h : zHp) (D : Nat → Nat) (hD : zInj D) (s : zSt) (hs0 : okSt s) (hR : rRm B D s h) (p : Int32) (k : Int32) : zSpec mX11_cell B (3, 0, 0) [.ref (D 0), .int p, .int k] h (zPi (fun zx h' => ∃ s' : zSt, r_cell s p k = (zx, s') ∧ rRm B D s' h' ∧ rOd D h h')) := by
  refine zSpec.of (by decide) (Nat.le_of_ble_eq_true rfl) (fun X hZ => ?_)
  show zG X mX11_cell B (3, 0, 0) (0, 0) 0 [(0, .ref (D 0)), (1, .int p), (2, .int k)] [] h
  obtain ⟨m, M, K⟩ := hR
  have N0 := rN_r M
  refine zi_iload_n 1 dX11_cell_0 rfl rfl ?_
  refine zc_static (n' := (0, 0)) (md' := mX11_isSlot) 4 dX11_cell_1 tw_937 zs_X11_isSlot (s_X11_isSlot B h _) rfl rfl rfl rfl rfl rfl rfl rfl (zk_f ?_)
  refine zb_eq 7 19 dX11_cell_4 (by decide) rfl (fun zzA => ?_) (fun zzA => ?_)
  ·
    have zzA := Decidable.not_not.mp (fun q => zzA (in_20.mpr q))
    refine zi_ldc 21 dX11_cell_19 tw_910 rfl ?_
    exact zr_int hZ dX11_cell_21 rfl rfl ⟨_, rfl, _, by rw [r_cell, if_pos (by first | exact Or.inl zzA | exact Or.inr (zzB))], ⟨m, N0.1, K⟩, N0.2⟩
  ·
    have zzA := in_20.mp zzA
    refine zi_iload_n 8 dX11_cell_7 rfl rfl ?_
    refine zi_i2l 9 dX11_cell_8 rfl ?_
    refine zi_lconst (v := 0) 10 dX11_cell_9 (by decide) rfl ?_
    refine zi_ldc2 13 dX11_cell_10 tw_1179 rfl ?_
    refine zc_static (n' := (0, 0)) (md' := mX11_in) 16 dX11_cell_13 tw_906 zs_X11_in (s_X11_in B h _ _ _) rfl rfl rfl rfl rfl rfl rfl rfl (zk_f ?_)
    refine zb_ne 19 22 dX11_cell_16 (by decide) rfl (fun zzB => ?_) (fun zzB => ?_)
    ·
      have zzB := in_6.mp zzB
      have zzO : ¬ (zOut p 20 ∨ zOut k 6) := fun r => r.elim zzA zzB
      obtain ⟨pj, hpj, hpj31, rfl⟩ := out_i (N := 20) (by decide) zzA
      refine zi_aload_n 23 dX11_cell_22 rfl rfl ?_
      refine zi_iload_n 24 dX11_cell_23 rfl rfl ?_
      rcases hsP : qSl s pj with _ | P
      ·
        refine zc_virtual (n' := (0, 0)) (md' := mX11_refusal) 27 dX11_cell_24 tw_1137 zv_X11_refusal zcl_X11 (s_X11_refusalN B h D hD _ N0.1 pj hpj (by rw [K.1 pj hpj, hsP]; rfl)) N0.1.1 rfl rfl rfl rfl rfl rfl rfl rfl (zk_i fun x1 h1 p1 => ?_)
        obtain ⟨rfl, n1⟩ := p1
        have N1 := rN_t N0 n1
        refine zi_istore_n (lv' := [(3, _), (0, _), (1, _), (2, _)]) 28 dX11_cell_27 rfl rfl rfl ?_
        refine zi_iload_n 29 dX11_cell_28 rfl rfl ?_
        refine zi_if_eq 32 34 dX11_cell_29 (by decide) rfl (fun c_29 => absurd c_29 (by decide)) (fun c_29 => ?_)
        refine zi_iload_n 33 dX11_cell_32 rfl rfl ?_
        exact zr_int hZ dX11_cell_33 rfl rfl ⟨_, rfl, _, by rw [r_cell, if_neg zzO, nI_clamp hpj31, hsP, onS_n], ⟨_, N1.1, mQ_F 1 K⟩, N1.2⟩
      ·
        have hVP := hs0.1 pj P hsP
        have eP := K.2.1 pj hpj P hsP
        by_cases zzZ : i4q P = 0
        ·
          refine zc_virtual (n' := (0, 0)) (md' := mX11_refusal) 27 dX11_cell_24 tw_1137 zv_X11_refusal zcl_X11 (s_X11_refusal0 B h D hD _ N0.1 pj hpj (by rw [K.1 pj hpj, hsP]; rfl) P hVP eP zzZ) N0.1.1 rfl rfl rfl rfl rfl rfl rfl rfl (zk_i fun x2 h2 p2 => ?_)
          obtain ⟨rfl, n2⟩ := p2
          have N2 := rN_t N0 n2
          refine zi_istore_n (lv' := [(3, _), (0, _), (1, _), (2, _)]) 28 dX11_cell_27 rfl rfl rfl ?_
          refine zi_iload_n 29 dX11_cell_28 rfl rfl ?_
          refine zi_if_eq 32 34 dX11_cell_29 (by decide) rfl (fun c_29 => absurd c_29 (by decide)) (fun c_29 => ?_)
          refine zi_iload_n 33 dX11_cell_32 rfl rfl ?_
          exact zr_int hZ dX11_cell_33 rfl rfl ⟨_, rfl, _, by rw [r_cell, if_neg zzO, nI_clamp hpj31, hsP, onS_s, if_pos zzZ], ⟨_, N2.1, K⟩, N2.2⟩
        ·
          refine zc_virtual (n' := (0, 0)) (md' := mX11_refusal) 27 dX11_cell_24 tw_1137 zv_X11_refusal zcl_X11 (s_X11_refusalY B h D hD _ N0.1 pj hpj (by rw [K.1 pj hpj, hsP]; rfl) P hVP eP zzZ) N0.1.1 rfl rfl rfl rfl rfl rfl rfl rfl (zk_i fun x3 h3 p3 => ?_)
          obtain ⟨rfl, n3⟩ := p3
          have N3 := rN_t N0 n3
          obtain ⟨R4, N4, r0⟩ : ∃ R, rN B D (uR m R) h h3 ∧ ro R 0 = z4i P := ⟨_, N3, p4_at _ _ _⟩
          refine zi_istore_n (lv' := [(3, _), (0, _), (1, _), (2, _)]) 28 dX11_cell_27 rfl rfl rfl ?_
          refine zi_iload_n 29 dX11_cell_28 rfl rfl ?_
          refine zi_if_eq 32 34 dX11_cell_29 (by decide) rfl (fun c_29 => ?_) (fun c_29 => absurd c_29 (by decide))
          refine zi_aload_n 35 dX11_cell_34 rfl rfl ?_
          refine zc_virtual (n' := (0, 0)) (md' := mX11_indexOf) 38 dX11_cell_35 tw_1171 zv_X11_indexOf zcl_X11 (s_X11_indexOf B h3 D hD _ N4.1 P hVP zzZ r0) N4.1.1 rfl rfl rfl rfl rfl rfl rfl rfl (zk_f ?_)
          refine zi_ldc2 41 dX11_cell_38 tw_1180 rfl ?_
          refine zj_le 45 48 dX11_cell_41 rfl dX11_cell_42 (by decide) rfl (fun zzI => ?_) (fun zzI => ?_)
          ·
            rw [show (300 : Int64) = lN 300 from rfl, pk_lLE (idx_63 hVP) (by decide)] at zzI
            obtain ⟨hq0, hqb⟩ := i4q_pb hVP zzZ
            refine zi_ldc2 51 dX11_cell_48 tw_952 rfl ?_
            refine zi_aload_n 52 dX11_cell_51 rfl rfl ?_
            refine zi_iconst (v := 0) 53 dX11_cell_52 (by decide) rfl ?_
            refine zc_virtual (n' := (0, 0)) (md' := mX11_norm4) 56 dX11_cell_53 tw_948 zv_X11_norm4 zcl_X11 (s_X11_norm4 B h3 D hD _ N4.1 0 (by omega)) N4.1.1 rfl rfl rfl rfl rfl rfl rfl rfl (zk_f ?_)
            rw [show zNm (ro (wR (uR m R4)) 0) = iz (i4n P) from (congrArg zNm r0).trans (z4i_n (V_63 hVP))]
            refine zi_lmul 57 dX11_cell_56 rfl ?_
            rw [low_q hVP]
            refine zi_lstore (lv' := [(4, _), (3, _), (0, _), (1, _), (2, _)]) 59 dX11_cell_57 rfl rfl rfl ?_
            refine zi_lload 61 dX11_cell_59 rfl rfl ?_
            refine zi_lstore (lv' := [(6, _), (4, _), (3, _), (0, _), (1, _), (2, _)]) 63 dX11_cell_61 rfl rfl rfl ?_
            refine zi_iconst (v := 0) 64 dX11_cell_63 (by decide) rfl ?_
            refine zi_istore (lv' := [(8, _), (6, _), (4, _), (3, _), (0, _), (1, _), (2, _)]) 66 dX11_cell_64 rfl rfl rfl ?_
            refine zi_iload 68 dX11_cell_66 rfl rfl ?_
            refine zi_bipush (v := 9) 70 dX11_cell_68 (by decide) rfl ?_
            refine zi_icmp_ge 73 112 dX11_cell_70 (by decide) rfl (fun c_70 => absurd c_70 (by decide)) (fun c_70 => ?_)
            refine zi_aload_n 74 dX11_cell_73 rfl rfl ?_
            refine zi_getfield 77 10 dX11_cell_74 zcl_X11 tw_873 rfl rfl N4.1.1 rfl rfl ?_
            refine zi_iload 79 dX11_cell_77 rfl rfl ?_
            refine zi_aload_n 80 dX11_cell_79 rfl rfl ?_
            refine zi_iload 82 dX11_cell_80 rfl rfl ?_
            refine zi_iconst (v := 3) 83 dX11_cell_82 (by decide) rfl ?_
            refine zi_idiv 84 dX11_cell_83 (by decide) rfl ?_
            rw [show (0 : Int32) / 3 = 0 from rfl]
            refine zi_iload 86 dX11_cell_84 rfl rfl ?_
            refine zi_iconst (v := 3) 87 dX11_cell_86 (by decide) rfl ?_
            refine zi_irem 88 dX11_cell_87 (by decide) rfl ?_
            rw [show (0 : Int32) - 0 / 3 * 3 = 0 from rfl]
            refine zc_virtual (n' := (0, 0)) (md' := mX11_upper) 91 dX11_cell_88 tw_1141 zv_X11_upper zcl_X11 (s_X11_upper0 B h3 D hD _ N4.1 P hVP r0) N4.1.1 rfl rfl rfl rfl rfl rfl rfl rfl (zk_f ?_)
            refine zi_lastore 92 dX11_cell_91 N4.1.2.2.2.2.2.2.2.2.2 (vp_in_nI (show 0 < 9 by decide) (by decide)) rfl ?_
            rw [show Int32.toNatClampNeg 0 = 0 from rfl]
            refine zk_h (fun h5 k5 => ?_)
            have N5 := rN_B hD N4 k5
            refine zi_lload 94 dX11_cell_92 rfl rfl ?_
            refine zi_aload_n 95 dX11_cell_94 rfl rfl ?_
            refine zi_getfield 98 10 dX11_cell_95 zcl_X11 tw_873 rfl rfl N5.1.1 rfl rfl ?_
            refine zi_iload 100 dX11_cell_98 rfl rfl ?_
            refine zi_laload 101 dX11_cell_100 N5.1.2.2.2.2.2.2.2.2.2 (vp_in_nI (show 0 < 9 by decide) (by decide)) rfl ?_
            rw [show Int32.toNatClampNeg 0 = 0 from rfl]
            refine zi_val (congrArg Value.long (show _ = iz (tabI P 0) from rfl)) ?_
            refine zc_static (n' := (0, 0)) (md' := mX11_divisor) 104 dX11_cell_101 tw_970 zs_X11_divisor (s_X11_divisor B h5 _ _ (iz_nm hqb) (iz_nm (by have := tab_b hVP 0; omega))) rfl rfl rfl rfl rfl rfl rfl rfl (zk_f ?_)
            rw [gcd_iz hqb (by have := tab_b hVP 0; omega), show Nat.gcd (i4q P).natAbs (tabI P 0).natAbs = gC P 1 from rfl]
            refine zi_lstore (lv' := [(6, _), (8, _), (4, _), (3, _), (0, _), (1, _), (2, _)]) 106 dX11_cell_104 rfl rfl rfl ?_
            refine zi_iinc (v := 1) (lv' := [(8, _), (6, _), (4, _), (3, _), (0, _), (1, _), (2, _)]) 109 dX11_cell_106 rfl rfl rfl rfl rfl ?_
            refine zi_goto 66 dX11_cell_109 (by decide) ?_
            refine zi_iload 68 dX11_cell_66 rfl rfl ?_
            refine zi_bipush (v := 9) 70 dX11_cell_68 (by decide) rfl ?_
            refine zi_icmp_ge 73 112 dX11_cell_70 (by decide) rfl (fun c_70 => absurd c_70 (by decide)) (fun c_70 => ?_)
            refine zi_aload_n 74 dX11_cell_73 rfl rfl ?_
            refine zi_getfield 77 10 dX11_cell_74 zcl_X11 tw_873 rfl rfl N5.1.1 rfl rfl ?_
            refine zi_iload 79 dX11_cell_77 rfl rfl ?_
            refine zi_aload_n 80 dX11_cell_79 rfl rfl ?_
            refine zi_iload 82 dX11_cell_80 rfl rfl ?_
            refine zi_iconst (v := 3) 83 dX11_cell_82 (by decide) rfl ?_
            refine zi_idiv 84 dX11_cell_83 (by decide) rfl ?_
            rw [show (1 : Int32) / 3 = 0 from rfl]
            refine zi_iload 86 dX11_cell_84 rfl rfl ?_
            refine zi_iconst (v := 3) 87 dX11_cell_86 (by decide) rfl ?_
            refine zi_irem 88 dX11_cell_87 (by decide) rfl ?_
            rw [show (1 : Int32) - 1 / 3 * 3 = 1 from rfl]
            refine zc_virtual (n' := (0, 0)) (md' := mX11_upper) 91 dX11_cell_88 tw_1141 zv_X11_upper zcl_X11 (s_X11_upper1 B h5 D hD _ N5.1 P hVP r0) N5.1.1 rfl rfl rfl rfl rfl rfl rfl rfl (zk_f ?_)
            refine zi_lastore 92 dX11_cell_91 N5.1.2.2.2.2.2.2.2.2.2 (vp_in_nI (show 1 < 9 by decide) (by decide)) rfl ?_
            rw [show Int32.toNatClampNeg 1 = 1 from rfl]
            refine zk_h (fun h6 k6 => ?_)
            have N6 := rN_B hD N5 k6
            refine zi_lload 94 dX11_cell_92 rfl rfl ?_
            refine zi_aload_n 95 dX11_cell_94 rfl rfl ?_
            refine zi_getfield 98 10 dX11_cell_95 zcl_X11 tw_873 rfl rfl N6.1.1 rfl rfl ?_
            refine zi_iload 100 dX11_cell_98 rfl rfl ?_
            refine zi_laload 101 dX11_cell_100 N6.1.2.2.2.2.2.2.2.2.2 (vp_in_nI (show 1 < 9 by decide) (by decide)) rfl ?_
            rw [show Int32.toNatClampNeg 1 = 1 from rfl]
            refine zi_val (congrArg Value.long (show _ = iz (tabI P 1) from rfl)) ?_
            refine zc_static (n' := (0, 0)) (md' := mX11_divisor) 104 dX11_cell_101 tw_970 zs_X11_divisor (s_X11_divisor B h6 _ _ (lN_nm (gC_l hVP 1 hq0)) (iz_nm (by have := tab_b hVP 1; omega))) rfl rfl rfl rfl rfl rfl rfl rfl (zk_f ?_)
            rw [dv_gcd (gC_l hVP 1 hq0) (by have := tab_b hVP 1; omega), show Nat.gcd (gC P 1) (tabI P 1).natAbs = gC P 2 from rfl]
            refine zi_lstore (lv' := [(6, _), (8, _), (4, _), (3, _), (0, _), (1, _), (2, _)]) 106 dX11_cell_104 rfl rfl rfl ?_
            refine zi_iinc (v := 2) (lv' := [(8, _), (6, _), (4, _), (3, _), (0, _), (1, _), (2, _)]) 109 dX11_cell_106 rfl rfl rfl rfl rfl ?_
            refine zi_goto 66 dX11_cell_109 (by decide) ?_
            refine zi_iload 68 dX11_cell_66 rfl rfl ?_
            refine zi_bipush (v := 9) 70 dX11_cell_68 (by decide) rfl ?_
            refine zi_icmp_ge 73 112 dX11_cell_70 (by decide) rfl (fun c_70 => absurd c_70 (by decide)) (fun c_70 => ?_)
            refine zi_aload_n 74 dX11_cell_73 rfl rfl ?_
            refine zi_getfield 77 10 dX11_cell_74 zcl_X11 tw_873 rfl rfl N6.1.1 rfl rfl ?_
            refine zi_iload 79 dX11_cell_77 rfl rfl ?_
            refine zi_aload_n 80 dX11_cell_79 rfl rfl ?_
            refine zi_iload 82 dX11_cell_80 rfl rfl ?_
            refine zi_iconst (v := 3) 83 dX11_cell_82 (by decide) rfl ?_
            refine zi_idiv 84 dX11_cell_83 (by decide) rfl ?_
            rw [show (2 : Int32) / 3 = 0 from rfl]
            refine zi_iload 86 dX11_cell_84 rfl rfl ?_
            refine zi_iconst (v := 3) 87 dX11_cell_86 (by decide) rfl ?_
            refine zi_irem 88 dX11_cell_87 (by decide) rfl ?_
            rw [show (2 : Int32) - 2 / 3 * 3 = 2 from rfl]
            refine zc_virtual (n' := (0, 0)) (md' := mX11_upper) 91 dX11_cell_88 tw_1141 zv_X11_upper zcl_X11 (s_X11_upper2 B h6 D hD _ N6.1 P hVP r0) N6.1.1 rfl rfl rfl rfl rfl rfl rfl rfl (zk_f ?_)
            refine zi_lastore 92 dX11_cell_91 N6.1.2.2.2.2.2.2.2.2.2 (vp_in_nI (show 2 < 9 by decide) (by decide)) rfl ?_
            rw [show Int32.toNatClampNeg 2 = 2 from rfl]
            refine zk_h (fun h7 k7 => ?_)
            have N7 := rN_B hD N6 k7
            refine zi_lload 94 dX11_cell_92 rfl rfl ?_
            refine zi_aload_n 95 dX11_cell_94 rfl rfl ?_
            refine zi_getfield 98 10 dX11_cell_95 zcl_X11 tw_873 rfl rfl N7.1.1 rfl rfl ?_
            refine zi_iload 100 dX11_cell_98 rfl rfl ?_
            refine zi_laload 101 dX11_cell_100 N7.1.2.2.2.2.2.2.2.2.2 (vp_in_nI (show 2 < 9 by decide) (by decide)) rfl ?_
            rw [show Int32.toNatClampNeg 2 = 2 from rfl]
            refine zi_val (congrArg Value.long (show _ = iz (tabI P 2) from rfl)) ?_
            refine zc_static (n' := (0, 0)) (md' := mX11_divisor) 104 dX11_cell_101 tw_970 zs_X11_divisor (s_X11_divisor B h7 _ _ (lN_nm (gC_l hVP 2 hq0)) (iz_nm (by have := tab_b hVP 2; omega))) rfl rfl rfl rfl rfl rfl rfl rfl (zk_f ?_)
            rw [dv_gcd (gC_l hVP 2 hq0) (by have := tab_b hVP 2; omega), show Nat.gcd (gC P 2) (tabI P 2).natAbs = gC P 3 from rfl]
            refine zi_lstore (lv' := [(6, _), (8, _), (4, _), (3, _), (0, _), (1, _), (2, _)]) 106 dX11_cell_104 rfl rfl rfl ?_
            refine zi_iinc (v := 3) (lv' := [(8, _), (6, _), (4, _), (3, _), (0, _), (1, _), (2, _)]) 109 dX11_cell_106 rfl rfl rfl rfl rfl ?_
            refine zi_goto 66 dX11_cell_109 (by decide) ?_
            refine zi_iload 68 dX11_cell_66 rfl rfl ?_
            refine zi_bipush (v := 9) 70 dX11_cell_68 (by decide) rfl ?_
            refine zi_icmp_ge 73 112 dX11_cell_70 (by decide) rfl (fun c_70 => absurd c_70 (by decide)) (fun c_70 => ?_)
            refine zi_aload_n 74 dX11_cell_73 rfl rfl ?_
            refine zi_getfield 77 10 dX11_cell_74 zcl_X11 tw_873 rfl rfl N7.1.1 rfl rfl ?_
            refine zi_iload 79 dX11_cell_77 rfl rfl ?_
            refine zi_aload_n 80 dX11_cell_79 rfl rfl ?_
            refine zi_iload 82 dX11_cell_80 rfl rfl ?_
            refine zi_iconst (v := 3) 83 dX11_cell_82 (by decide) rfl ?_
            refine zi_idiv 84 dX11_cell_83 (by decide) rfl ?_
            rw [show (3 : Int32) / 3 = 1 from rfl]
            refine zi_iload 86 dX11_cell_84 rfl rfl ?_
            refine zi_iconst (v := 3) 87 dX11_cell_86 (by decide) rfl ?_
            refine zi_irem 88 dX11_cell_87 (by decide) rfl ?_
            rw [show (3 : Int32) - 3 / 3 * 3 = 0 from rfl]
            refine zc_virtual (n' := (0, 0)) (md' := mX11_upper) 91 dX11_cell_88 tw_1141 zv_X11_upper zcl_X11 (s_X11_upper3 B h7 D hD _ N7.1 P hVP r0) N7.1.1 rfl rfl rfl rfl rfl rfl rfl rfl (zk_f ?_)
            refine zi_lastore 92 dX11_cell_91 N7.1.2.2.2.2.2.2.2.2.2 (vp_in_nI (show 3 < 9 by decide) (by decide)) rfl ?_
            rw [show Int32.toNatClampNeg 3 = 3 from rfl]
            refine zk_h (fun h8 k8 => ?_)
            have N8 := rN_B hD N7 k8
            refine zi_lload 94 dX11_cell_92 rfl rfl ?_
            refine zi_aload_n 95 dX11_cell_94 rfl rfl ?_
            refine zi_getfield 98 10 dX11_cell_95 zcl_X11 tw_873 rfl rfl N8.1.1 rfl rfl ?_
            refine zi_iload 100 dX11_cell_98 rfl rfl ?_
            refine zi_laload 101 dX11_cell_100 N8.1.2.2.2.2.2.2.2.2.2 (vp_in_nI (show 3 < 9 by decide) (by decide)) rfl ?_
            rw [show Int32.toNatClampNeg 3 = 3 from rfl]
            refine zi_val (congrArg Value.long (show _ = iz (tabI P 3) from rfl)) ?_
            refine zc_static (n' := (0, 0)) (md' := mX11_divisor) 104 dX11_cell_101 tw_970 zs_X11_divisor (s_X11_divisor B h8 _ _ (lN_nm (gC_l hVP 3 hq0)) (iz_nm (by have := tab_b hVP 3; omega))) rfl rfl rfl rfl rfl rfl rfl rfl (zk_f ?_)
            rw [dv_gcd (gC_l hVP 3 hq0) (by have := tab_b hVP 3; omega), show Nat.gcd (gC P 3) (tabI P 3).natAbs = gC P 4 from rfl]
            refine zi_lstore (lv' := [(6, _), (8, _), (4, _), (3, _), (0, _), (1, _), (2, _)]) 106 dX11_cell_104 rfl rfl rfl ?_
            refine zi_iinc (v := 4) (lv' := [(8, _), (6, _), (4, _), (3, _), (0, _), (1, _), (2, _)]) 109 dX11_cell_106 rfl rfl rfl rfl rfl ?_
            refine zi_goto 66 dX11_cell_109 (by decide) ?_
            refine zi_iload 68 dX11_cell_66 rfl rfl ?_
            refine zi_bipush (v := 9) 70 dX11_cell_68 (by decide) rfl ?_
            refine zi_icmp_ge 73 112 dX11_cell_70 (by decide) rfl (fun c_70 => absurd c_70 (by decide)) (fun c_70 => ?_)
            refine zi_aload_n 74 dX11_cell_73 rfl rfl ?_
            refine zi_getfield 77 10 dX11_cell_74 zcl_X11 tw_873 rfl rfl N8.1.1 rfl rfl ?_
            refine zi_iload 79 dX11_cell_77 rfl rfl ?_
            refine zi_aload_n 80 dX11_cell_79 rfl rfl ?_
            refine zi_iload 82 dX11_cell_80 rfl rfl ?_
            refine zi_iconst (v := 3) 83 dX11_cell_82 (by decide) rfl ?_
            refine zi_idiv 84 dX11_cell_83 (by decide) rfl ?_
            rw [show (4 : Int32) / 3 = 1 from rfl]
            refine zi_iload 86 dX11_cell_84 rfl rfl ?_
            refine zi_iconst (v := 3) 87 dX11_cell_86 (by decide) rfl ?_
            refine zi_irem 88 dX11_cell_87 (by decide) rfl ?_
            rw [show (4 : Int32) - 4 / 3 * 3 = 1 from rfl]
            refine zc_virtual (n' := (0, 0)) (md' := mX11_upper) 91 dX11_cell_88 tw_1141 zv_X11_upper zcl_X11 (s_X11_upper4 B h8 D hD _ N8.1 P hVP r0) N8.1.1 rfl rfl rfl rfl rfl rfl rfl rfl (zk_f ?_)
            refine zi_lastore 92 dX11_cell_91 N8.1.2.2.2.2.2.2.2.2.2 (vp_in_nI (show 4 < 9 by decide) (by decide)) rfl ?_
            rw [show Int32.toNatClampNeg 4 = 4 from rfl]
            refine zk_h (fun h9 k9 => ?_)
            have N9 := rN_B hD N8 k9
            refine zi_lload 94 dX11_cell_92 rfl rfl ?_
            refine zi_aload_n 95 dX11_cell_94 rfl rfl ?_
            refine zi_getfield 98 10 dX11_cell_95 zcl_X11 tw_873 rfl rfl N9.1.1 rfl rfl ?_
            refine zi_iload 100 dX11_cell_98 rfl rfl ?_
            refine zi_laload 101 dX11_cell_100 N9.1.2.2.2.2.2.2.2.2.2 (vp_in_nI (show 4 < 9 by decide) (by decide)) rfl ?_
            rw [show Int32.toNatClampNeg 4 = 4 from rfl]
            refine zi_val (congrArg Value.long (show _ = iz (tabI P 4) from rfl)) ?_
            refine zc_static (n' := (0, 0)) (md' := mX11_divisor) 104 dX11_cell_101 tw_970 zs_X11_divisor (s_X11_divisor B h9 _ _ (lN_nm (gC_l hVP 4 hq0)) (iz_nm (by have := tab_b hVP 4; omega))) rfl rfl rfl rfl rfl rfl rfl rfl (zk_f ?_)
            rw [dv_gcd (gC_l hVP 4 hq0) (by have := tab_b hVP 4; omega), show Nat.gcd (gC P 4) (tabI P 4).natAbs = gC P 5 from rfl]
            refine zi_lstore (lv' := [(6, _), (8, _), (4, _), (3, _), (0, _), (1, _), (2, _)]) 106 dX11_cell_104 rfl rfl rfl ?_
            refine zi_iinc (v := 5) (lv' := [(8, _), (6, _), (4, _), (3, _), (0, _), (1, _), (2, _)]) 109 dX11_cell_106 rfl rfl rfl rfl rfl ?_
            refine zi_goto 66 dX11_cell_109 (by decide) ?_
            refine zi_iload 68 dX11_cell_66 rfl rfl ?_
            refine zi_bipush (v := 9) 70 dX11_cell_68 (by decide) rfl ?_
            refine zi_icmp_ge 73 112 dX11_cell_70 (by decide) rfl (fun c_70 => absurd c_70 (by decide)) (fun c_70 => ?_)
            refine zi_aload_n 74 dX11_cell_73 rfl rfl ?_
            refine zi_getfield 77 10 dX11_cell_74 zcl_X11 tw_873 rfl rfl N9.1.1 rfl rfl ?_
            refine zi_iload 79 dX11_cell_77 rfl rfl ?_
            refine zi_aload_n 80 dX11_cell_79 rfl rfl ?_
            refine zi_iload 82 dX11_cell_80 rfl rfl ?_
            refine zi_iconst (v := 3) 83 dX11_cell_82 (by decide) rfl ?_
            refine zi_idiv 84 dX11_cell_83 (by decide) rfl ?_
            rw [show (5 : Int32) / 3 = 1 from rfl]
            refine zi_iload 86 dX11_cell_84 rfl rfl ?_
            refine zi_iconst (v := 3) 87 dX11_cell_86 (by decide) rfl ?_
            refine zi_irem 88 dX11_cell_87 (by decide) rfl ?_
            rw [show (5 : Int32) - 5 / 3 * 3 = 2 from rfl]
            refine zc_virtual (n' := (0, 0)) (md' := mX11_upper) 91 dX11_cell_88 tw_1141 zv_X11_upper zcl_X11 (s_X11_upper5 B h9 D hD _ N9.1 P hVP r0) N9.1.1 rfl rfl rfl rfl rfl rfl rfl rfl (zk_f ?_)
            refine zi_lastore 92 dX11_cell_91 N9.1.2.2.2.2.2.2.2.2.2 (vp_in_nI (show 5 < 9 by decide) (by decide)) rfl ?_
            rw [show Int32.toNatClampNeg 5 = 5 from rfl]
            refine zk_h (fun h10 k10 => ?_)
            have N10 := rN_B hD N9 k10
            refine zi_lload 94 dX11_cell_92 rfl rfl ?_
            refine zi_aload_n 95 dX11_cell_94 rfl rfl ?_
            refine zi_getfield 98 10 dX11_cell_95 zcl_X11 tw_873 rfl rfl N10.1.1 rfl rfl ?_
            refine zi_iload 100 dX11_cell_98 rfl rfl ?_
            refine zi_laload 101 dX11_cell_100 N10.1.2.2.2.2.2.2.2.2.2 (vp_in_nI (show 5 < 9 by decide) (by decide)) rfl ?_
            rw [show Int32.toNatClampNeg 5 = 5 from rfl]
            refine zi_val (congrArg Value.long (show _ = iz (tabI P 5) from rfl)) ?_
            refine zc_static (n' := (0, 0)) (md' := mX11_divisor) 104 dX11_cell_101 tw_970 zs_X11_divisor (s_X11_divisor B h10 _ _ (lN_nm (gC_l hVP 5 hq0)) (iz_nm (by have := tab_b hVP 5; omega))) rfl rfl rfl rfl rfl rfl rfl rfl (zk_f ?_)
            rw [dv_gcd (gC_l hVP 5 hq0) (by have := tab_b hVP 5; omega), show Nat.gcd (gC P 5) (tabI P 5).natAbs = gC P 6 from rfl]
            refine zi_lstore (lv' := [(6, _), (8, _), (4, _), (3, _), (0, _), (1, _), (2, _)]) 106 dX11_cell_104 rfl rfl rfl ?_
            refine zi_iinc (v := 6) (lv' := [(8, _), (6, _), (4, _), (3, _), (0, _), (1, _), (2, _)]) 109 dX11_cell_106 rfl rfl rfl rfl rfl ?_
            refine zi_goto 66 dX11_cell_109 (by decide) ?_
            refine zi_iload 68 dX11_cell_66 rfl rfl ?_
            refine zi_bipush (v := 9) 70 dX11_cell_68 (by decide) rfl ?_
            refine zi_icmp_ge 73 112 dX11_cell_70 (by decide) rfl (fun c_70 => absurd c_70 (by decide)) (fun c_70 => ?_)
            refine zi_aload_n 74 dX11_cell_73 rfl rfl ?_
            refine zi_getfield 77 10 dX11_cell_74 zcl_X11 tw_873 rfl rfl N10.1.1 rfl rfl ?_
            refine zi_iload 79 dX11_cell_77 rfl rfl ?_
            refine zi_aload_n 80 dX11_cell_79 rfl rfl ?_
            refine zi_iload 82 dX11_cell_80 rfl rfl ?_
            refine zi_iconst (v := 3) 83 dX11_cell_82 (by decide) rfl ?_
            refine zi_idiv 84 dX11_cell_83 (by decide) rfl ?_
            rw [show (6 : Int32) / 3 = 2 from rfl]
            refine zi_iload 86 dX11_cell_84 rfl rfl ?_
            refine zi_iconst (v := 3) 87 dX11_cell_86 (by decide) rfl ?_
            refine zi_irem 88 dX11_cell_87 (by decide) rfl ?_
            rw [show (6 : Int32) - 6 / 3 * 3 = 0 from rfl]
            refine zc_virtual (n' := (0, 0)) (md' := mX11_upper) 91 dX11_cell_88 tw_1141 zv_X11_upper zcl_X11 (s_X11_upper6 B h10 D hD _ N10.1 P hVP r0) N10.1.1 rfl rfl rfl rfl rfl rfl rfl rfl (zk_f ?_)
            refine zi_lastore 92 dX11_cell_91 N10.1.2.2.2.2.2.2.2.2.2 (vp_in_nI (show 6 < 9 by decide) (by decide)) rfl ?_
            rw [show Int32.toNatClampNeg 6 = 6 from rfl]
            refine zk_h (fun h11 k11 => ?_)
            have N11 := rN_B hD N10 k11
            refine zi_lload 94 dX11_cell_92 rfl rfl ?_
            refine zi_aload_n 95 dX11_cell_94 rfl rfl ?_
            refine zi_getfield 98 10 dX11_cell_95 zcl_X11 tw_873 rfl rfl N11.1.1 rfl rfl ?_
            refine zi_iload 100 dX11_cell_98 rfl rfl ?_
            refine zi_laload 101 dX11_cell_100 N11.1.2.2.2.2.2.2.2.2.2 (vp_in_nI (show 6 < 9 by decide) (by decide)) rfl ?_
            rw [show Int32.toNatClampNeg 6 = 6 from rfl]
            refine zi_val (congrArg Value.long (show _ = iz (tabI P 6) from rfl)) ?_
            refine zc_static (n' := (0, 0)) (md' := mX11_divisor) 104 dX11_cell_101 tw_970 zs_X11_divisor (s_X11_divisor B h11 _ _ (lN_nm (gC_l hVP 6 hq0)) (iz_nm (by have := tab_b hVP 6; omega))) rfl rfl rfl rfl rfl rfl rfl rfl (zk_f ?_)
            rw [dv_gcd (gC_l hVP 6 hq0) (by have := tab_b hVP 6; omega), show Nat.gcd (gC P 6) (tabI P 6).natAbs = gC P 7 from rfl]
            refine zi_lstore (lv' := [(6, _), (8, _), (4, _), (3, _), (0, _), (1, _), (2, _)]) 106 dX11_cell_104 rfl rfl rfl ?_
            refine zi_iinc (v := 7) (lv' := [(8, _), (6, _), (4, _), (3, _), (0, _), (1, _), (2, _)]) 109 dX11_cell_106 rfl rfl rfl rfl rfl ?_
            refine zi_goto 66 dX11_cell_109 (by decide) ?_
            refine zi_iload 68 dX11_cell_66 rfl rfl ?_
            refine zi_bipush (v := 9) 70 dX11_cell_68 (by decide) rfl ?_
            refine zi_icmp_ge 73 112 dX11_cell_70 (by decide) rfl (fun c_70 => absurd c_70 (by decide)) (fun c_70 => ?_)
            refine zi_aload_n 74 dX11_cell_73 rfl rfl ?_
            refine zi_getfield 77 10 dX11_cell_74 zcl_X11 tw_873 rfl rfl N11.1.1 rfl rfl ?_
            refine zi_iload 79 dX11_cell_77 rfl rfl ?_
            refine zi_aload_n 80 dX11_cell_79 rfl rfl ?_
            refine zi_iload 82 dX11_cell_80 rfl rfl ?_
            refine zi_iconst (v := 3) 83 dX11_cell_82 (by decide) rfl ?_
            refine zi_idiv 84 dX11_cell_83 (by decide) rfl ?_
            rw [show (7 : Int32) / 3 = 2 from rfl]
            refine zi_iload 86 dX11_cell_84 rfl rfl ?_
            refine zi_iconst (v := 3) 87 dX11_cell_86 (by decide) rfl ?_
            refine zi_irem 88 dX11_cell_87 (by decide) rfl ?_
            rw [show (7 : Int32) - 7 / 3 * 3 = 1 from rfl]
            refine zc_virtual (n' := (0, 0)) (md' := mX11_upper) 91 dX11_cell_88 tw_1141 zv_X11_upper zcl_X11 (s_X11_upper7 B h11 D hD _ N11.1 P hVP r0) N11.1.1 rfl rfl rfl rfl rfl rfl rfl rfl (zk_f ?_)
            refine zi_lastore 92 dX11_cell_91 N11.1.2.2.2.2.2.2.2.2.2 (vp_in_nI (show 7 < 9 by decide) (by decide)) rfl ?_
            rw [show Int32.toNatClampNeg 7 = 7 from rfl]
            refine zk_h (fun h12 k12 => ?_)
            have N12 := rN_B hD N11 k12
            refine zi_lload 94 dX11_cell_92 rfl rfl ?_
            refine zi_aload_n 95 dX11_cell_94 rfl rfl ?_
            refine zi_getfield 98 10 dX11_cell_95 zcl_X11 tw_873 rfl rfl N12.1.1 rfl rfl ?_
            refine zi_iload 100 dX11_cell_98 rfl rfl ?_
            refine zi_laload 101 dX11_cell_100 N12.1.2.2.2.2.2.2.2.2.2 (vp_in_nI (show 7 < 9 by decide) (by decide)) rfl ?_
            rw [show Int32.toNatClampNeg 7 = 7 from rfl]
            refine zi_val (congrArg Value.long (show _ = iz (tabI P 7) from rfl)) ?_
            refine zc_static (n' := (0, 0)) (md' := mX11_divisor) 104 dX11_cell_101 tw_970 zs_X11_divisor (s_X11_divisor B h12 _ _ (lN_nm (gC_l hVP 7 hq0)) (iz_nm (by have := tab_b hVP 7; omega))) rfl rfl rfl rfl rfl rfl rfl rfl (zk_f ?_)
            rw [dv_gcd (gC_l hVP 7 hq0) (by have := tab_b hVP 7; omega), show Nat.gcd (gC P 7) (tabI P 7).natAbs = gC P 8 from rfl]
            refine zi_lstore (lv' := [(6, _), (8, _), (4, _), (3, _), (0, _), (1, _), (2, _)]) 106 dX11_cell_104 rfl rfl rfl ?_
            refine zi_iinc (v := 8) (lv' := [(8, _), (6, _), (4, _), (3, _), (0, _), (1, _), (2, _)]) 109 dX11_cell_106 rfl rfl rfl rfl rfl ?_
            refine zi_goto 66 dX11_cell_109 (by decide) ?_
            refine zi_iload 68 dX11_cell_66 rfl rfl ?_
            refine zi_bipush (v := 9) 70 dX11_cell_68 (by decide) rfl ?_
            refine zi_icmp_ge 73 112 dX11_cell_70 (by decide) rfl (fun c_70 => absurd c_70 (by decide)) (fun c_70 => ?_)
            refine zi_aload_n 74 dX11_cell_73 rfl rfl ?_
            refine zi_getfield 77 10 dX11_cell_74 zcl_X11 tw_873 rfl rfl N12.1.1 rfl rfl ?_
            refine zi_iload 79 dX11_cell_77 rfl rfl ?_
            refine zi_aload_n 80 dX11_cell_79 rfl rfl ?_
            refine zi_iload 82 dX11_cell_80 rfl rfl ?_
            refine zi_iconst (v := 3) 83 dX11_cell_82 (by decide) rfl ?_
            refine zi_idiv 84 dX11_cell_83 (by decide) rfl ?_
            rw [show (8 : Int32) / 3 = 2 from rfl]
            refine zi_iload 86 dX11_cell_84 rfl rfl ?_
            refine zi_iconst (v := 3) 87 dX11_cell_86 (by decide) rfl ?_
            refine zi_irem 88 dX11_cell_87 (by decide) rfl ?_
            rw [show (8 : Int32) - 8 / 3 * 3 = 2 from rfl]
            refine zc_virtual (n' := (0, 0)) (md' := mX11_upper) 91 dX11_cell_88 tw_1141 zv_X11_upper zcl_X11 (s_X11_upper8 B h12 D hD _ N12.1 P hVP r0) N12.1.1 rfl rfl rfl rfl rfl rfl rfl rfl (zk_f ?_)
            refine zi_lastore 92 dX11_cell_91 N12.1.2.2.2.2.2.2.2.2.2 (vp_in_nI (show 8 < 9 by decide) (by decide)) rfl ?_
            rw [show Int32.toNatClampNeg 8 = 8 from rfl]
            refine zk_h (fun h13 k13 => ?_)
            have N13 := rN_B hD N12 k13
            refine zi_lload 94 dX11_cell_92 rfl rfl ?_
            refine zi_aload_n 95 dX11_cell_94 rfl rfl ?_
            refine zi_getfield 98 10 dX11_cell_95 zcl_X11 tw_873 rfl rfl N13.1.1 rfl rfl ?_
            refine zi_iload 100 dX11_cell_98 rfl rfl ?_
            refine zi_laload 101 dX11_cell_100 N13.1.2.2.2.2.2.2.2.2.2 (vp_in_nI (show 8 < 9 by decide) (by decide)) rfl ?_
            rw [show Int32.toNatClampNeg 8 = 8 from rfl]
            refine zi_val (congrArg Value.long (show _ = iz (tabI P 8) from rfl)) ?_
            refine zc_static (n' := (0, 0)) (md' := mX11_divisor) 104 dX11_cell_101 tw_970 zs_X11_divisor (s_X11_divisor B h13 _ _ (lN_nm (gC_l hVP 8 hq0)) (iz_nm (by have := tab_b hVP 8; omega))) rfl rfl rfl rfl rfl rfl rfl rfl (zk_f ?_)
            rw [dv_gcd (gC_l hVP 8 hq0) (by have := tab_b hVP 8; omega), show Nat.gcd (gC P 8) (tabI P 8).natAbs = gC P 9 from rfl]
            refine zi_lstore (lv' := [(6, _), (8, _), (4, _), (3, _), (0, _), (1, _), (2, _)]) 106 dX11_cell_104 rfl rfl rfl ?_
            refine zi_iinc (v := 9) (lv' := [(8, _), (6, _), (4, _), (3, _), (0, _), (1, _), (2, _)]) 109 dX11_cell_106 rfl rfl rfl rfl rfl ?_
            refine zi_goto 66 dX11_cell_109 (by decide) ?_
            refine zi_iload 68 dX11_cell_66 rfl rfl ?_
            refine zi_bipush (v := 9) 70 dX11_cell_68 (by decide) rfl ?_
            refine zi_icmp_ge 73 112 dX11_cell_70 (by decide) rfl (fun c_70 => ?_) (fun c_70 => absurd c_70 (by decide))
            obtain ⟨F9, N14, hF⟩ : ∃ F, rN B D (uB (uR m R4) F) h h13 ∧ ∀ i, i < 9 → F i = iz (tabI P i) := ⟨_, N13, fun i hi => match i, hi with | 0, _ => rfl | 1, _ => rfl | 2, _ => rfl | 3, _ => rfl | 4, _ => rfl | 5, _ => rfl | 6, _ => rfl | 7, _ => rfl | 8, _ => rfl⟩
            refine zi_lload 114 dX11_cell_112 rfl rfl ?_
            refine zi_lload 116 dX11_cell_114 rfl rfl ?_
            refine zi_ldiv 117 dX11_cell_116 (fun e => by rw [lN_0e (gC_l hVP 9 hq0)] at e; have := gC_p hq0 9; omega) rfl ?_
            rw [iz_dx hqb (gC_l hVP 9 hq0) (gC_q P)]
            refine zi_lstore (lv' := [(4, _), (8, _), (6, _), (3, _), (0, _), (1, _), (2, _)]) 119 dX11_cell_117 rfl rfl rfl ?_
            refine zi_iconst (v := 0) 120 dX11_cell_119 (by decide) rfl ?_
            refine zi_istore (lv' := [(8, _), (4, _), (6, _), (3, _), (0, _), (1, _), (2, _)]) 122 dX11_cell_120 rfl rfl rfl ?_
            refine zi_iload 124 dX11_cell_122 rfl rfl ?_
            refine zi_bipush (v := 9) 126 dX11_cell_124 (by decide) rfl ?_
            refine zi_icmp_ge 129 147 dX11_cell_126 (by decide) rfl (fun c_126 => absurd c_126 (by decide)) (fun c_126 => ?_)
            refine zi_aload_n 130 dX11_cell_129 rfl rfl ?_
            refine zi_getfield 133 10 dX11_cell_130 zcl_X11 tw_873 rfl rfl N14.1.1 rfl rfl ?_
            refine zi_iload 135 dX11_cell_133 rfl rfl ?_
            refine zi_dup2_11 136 dX11_cell_135 rfl rfl rfl ?_
            refine zi_laload 137 dX11_cell_136 N14.1.2.2.2.2.2.2.2.2.2 (vp_in_nI (show 0 < 9 by decide) (by decide)) rfl ?_
            rw [show Int32.toNatClampNeg 0 = 0 from rfl]
            refine zi_val (congrArg Value.long (hF 0 (by decide))) ?_
            refine zi_lload 139 dX11_cell_137 rfl rfl ?_
            refine zi_ldiv 140 dX11_cell_139 (fun e => by rw [lN_0e (gC_l hVP 9 hq0)] at e; have := gC_p hq0 9; omega) rfl ?_
            rw [iz_dx (by have := tab_b hVP 0; omega) (gC_l hVP 9 hq0) (gC_t P (i := 0) (by decide))]
            refine zi_lastore 141 dX11_cell_140 N14.1.2.2.2.2.2.2.2.2.2 (vp_in_nI (show 0 < 9 by decide) (by decide)) rfl ?_
            rw [show Int32.toNatClampNeg 0 = 0 from rfl]
            refine zk_h (fun h15 k15 => ?_)
            have N15 := rN_B hD N14 k15
            refine zi_iinc (v := 1) (lv' := [(8, _), (4, _), (6, _), (3, _), (0, _), (1, _), (2, _)]) 144 dX11_cell_141 rfl rfl rfl rfl rfl ?_
            refine zi_goto 122 dX11_cell_144 (by decide) ?_
            refine zi_iload 124 dX11_cell_122 rfl rfl ?_
            refine zi_bipush (v := 9) 126 dX11_cell_124 (by decide) rfl ?_
            refine zi_icmp_ge 129 147 dX11_cell_126 (by decide) rfl (fun c_126 => absurd c_126 (by decide)) (fun c_126 => ?_)
            refine zi_aload_n 130 dX11_cell_129 rfl rfl ?_
            refine zi_getfield 133 10 dX11_cell_130 zcl_X11 tw_873 rfl rfl N15.1.1 rfl rfl ?_
            refine zi_iload 135 dX11_cell_133 rfl rfl ?_
            refine zi_dup2_11 136 dX11_cell_135 rfl rfl rfl ?_
            refine zi_laload 137 dX11_cell_136 N15.1.2.2.2.2.2.2.2.2.2 (vp_in_nI (show 1 < 9 by decide) (by decide)) rfl ?_
            rw [show Int32.toNatClampNeg 1 = 1 from rfl]
            refine zi_val (congrArg Value.long (hF 1 (by decide))) ?_
            refine zi_lload 139 dX11_cell_137 rfl rfl ?_
            refine zi_ldiv 140 dX11_cell_139 (fun e => by rw [lN_0e (gC_l hVP 9 hq0)] at e; have := gC_p hq0 9; omega) rfl ?_
            rw [iz_dx (by have := tab_b hVP 1; omega) (gC_l hVP 9 hq0) (gC_t P (i := 1) (by decide))]
            refine zi_lastore 141 dX11_cell_140 N15.1.2.2.2.2.2.2.2.2.2 (vp_in_nI (show 1 < 9 by decide) (by decide)) rfl ?_
            rw [show Int32.toNatClampNeg 1 = 1 from rfl]
            refine zk_h (fun h16 k16 => ?_)
            have N16 := rN_B hD N15 k16
            refine zi_iinc (v := 2) (lv' := [(8, _), (4, _), (6, _), (3, _), (0, _), (1, _), (2, _)]) 144 dX11_cell_141 rfl rfl rfl rfl rfl ?_
            refine zi_goto 122 dX11_cell_144 (by decide) ?_
            refine zi_iload 124 dX11_cell_122 rfl rfl ?_
            refine zi_bipush (v := 9) 126 dX11_cell_124 (by decide) rfl ?_
            refine zi_icmp_ge 129 147 dX11_cell_126 (by decide) rfl (fun c_126 => absurd c_126 (by decide)) (fun c_126 => ?_)
            refine zi_aload_n 130 dX11_cell_129 rfl rfl ?_
            refine zi_getfield 133 10 dX11_cell_130 zcl_X11 tw_873 rfl rfl N16.1.1 rfl rfl ?_
            refine zi_iload 135 dX11_cell_133 rfl rfl ?_
            refine zi_dup2_11 136 dX11_cell_135 rfl rfl rfl ?_
            refine zi_laload 137 dX11_cell_136 N16.1.2.2.2.2.2.2.2.2.2 (vp_in_nI (show 2 < 9 by decide) (by decide)) rfl ?_
            rw [show Int32.toNatClampNeg 2 = 2 from rfl]
            refine zi_val (congrArg Value.long (hF 2 (by decide))) ?_
            refine zi_lload 139 dX11_cell_137 rfl rfl ?_
            refine zi_ldiv 140 dX11_cell_139 (fun e => by rw [lN_0e (gC_l hVP 9 hq0)] at e; have := gC_p hq0 9; omega) rfl ?_
            rw [iz_dx (by have := tab_b hVP 2; omega) (gC_l hVP 9 hq0) (gC_t P (i := 2) (by decide))]
            refine zi_lastore 141 dX11_cell_140 N16.1.2.2.2.2.2.2.2.2.2 (vp_in_nI (show 2 < 9 by decide) (by decide)) rfl ?_
            rw [show Int32.toNatClampNeg 2 = 2 from rfl]
            refine zk_h (fun h17 k17 => ?_)
            have N17 := rN_B hD N16 k17
            refine zi_iinc (v := 3) (lv' := [(8, _), (4, _), (6, _), (3, _), (0, _), (1, _), (2, _)]) 144 dX11_cell_141 rfl rfl rfl rfl rfl ?_
            refine zi_goto 122 dX11_cell_144 (by decide) ?_
            refine zi_iload 124 dX11_cell_122 rfl rfl ?_
            refine zi_bipush (v := 9) 126 dX11_cell_124 (by decide) rfl ?_
            refine zi_icmp_ge 129 147 dX11_cell_126 (by decide) rfl (fun c_126 => absurd c_126 (by decide)) (fun c_126 => ?_)
            refine zi_aload_n 130 dX11_cell_129 rfl rfl ?_
            refine zi_getfield 133 10 dX11_cell_130 zcl_X11 tw_873 rfl rfl N17.1.1 rfl rfl ?_
            refine zi_iload 135 dX11_cell_133 rfl rfl ?_
            refine zi_dup2_11 136 dX11_cell_135 rfl rfl rfl ?_
            refine zi_laload 137 dX11_cell_136 N17.1.2.2.2.2.2.2.2.2.2 (vp_in_nI (show 3 < 9 by decide) (by decide)) rfl ?_
            rw [show Int32.toNatClampNeg 3 = 3 from rfl]
            refine zi_val (congrArg Value.long (hF 3 (by decide))) ?_
            refine zi_lload 139 dX11_cell_137 rfl rfl ?_
            refine zi_ldiv 140 dX11_cell_139 (fun e => by rw [lN_0e (gC_l hVP 9 hq0)] at e; have := gC_p hq0 9; omega) rfl ?_
            rw [iz_dx (by have := tab_b hVP 3; omega) (gC_l hVP 9 hq0) (gC_t P (i := 3) (by decide))]
            refine zi_lastore 141 dX11_cell_140 N17.1.2.2.2.2.2.2.2.2.2 (vp_in_nI (show 3 < 9 by decide) (by decide)) rfl ?_
            rw [show Int32.toNatClampNeg 3 = 3 from rfl]
            refine zk_h (fun h18 k18 => ?_)
            have N18 := rN_B hD N17 k18
            refine zi_iinc (v := 4) (lv' := [(8, _), (4, _), (6, _), (3, _), (0, _), (1, _), (2, _)]) 144 dX11_cell_141 rfl rfl rfl rfl rfl ?_
            refine zi_goto 122 dX11_cell_144 (by decide) ?_
            refine zi_iload 124 dX11_cell_122 rfl rfl ?_
            refine zi_bipush (v := 9) 126 dX11_cell_124 (by decide) rfl ?_
            refine zi_icmp_ge 129 147 dX11_cell_126 (by decide) rfl (fun c_126 => absurd c_126 (by decide)) (fun c_126 => ?_)
            refine zi_aload_n 130 dX11_cell_129 rfl rfl ?_
            refine zi_getfield 133 10 dX11_cell_130 zcl_X11 tw_873 rfl rfl N18.1.1 rfl rfl ?_
            refine zi_iload 135 dX11_cell_133 rfl rfl ?_
            refine zi_dup2_11 136 dX11_cell_135 rfl rfl rfl ?_
            refine zi_laload 137 dX11_cell_136 N18.1.2.2.2.2.2.2.2.2.2 (vp_in_nI (show 4 < 9 by decide) (by decide)) rfl ?_
            rw [show Int32.toNatClampNeg 4 = 4 from rfl]
            refine zi_val (congrArg Value.long (hF 4 (by decide))) ?_
            refine zi_lload 139 dX11_cell_137 rfl rfl ?_
            refine zi_ldiv 140 dX11_cell_139 (fun e => by rw [lN_0e (gC_l hVP 9 hq0)] at e; have := gC_p hq0 9; omega) rfl ?_
            rw [iz_dx (by have := tab_b hVP 4; omega) (gC_l hVP 9 hq0) (gC_t P (i := 4) (by decide))]
            refine zi_lastore 141 dX11_cell_140 N18.1.2.2.2.2.2.2.2.2.2 (vp_in_nI (show 4 < 9 by decide) (by decide)) rfl ?_
            rw [show Int32.toNatClampNeg 4 = 4 from rfl]
            refine zk_h (fun h19 k19 => ?_)
            have N19 := rN_B hD N18 k19
            refine zi_iinc (v := 5) (lv' := [(8, _), (4, _), (6, _), (3, _), (0, _), (1, _), (2, _)]) 144 dX11_cell_141 rfl rfl rfl rfl rfl ?_
            refine zi_goto 122 dX11_cell_144 (by decide) ?_
            refine zi_iload 124 dX11_cell_122 rfl rfl ?_
            refine zi_bipush (v := 9) 126 dX11_cell_124 (by decide) rfl ?_
            refine zi_icmp_ge 129 147 dX11_cell_126 (by decide) rfl (fun c_126 => absurd c_126 (by decide)) (fun c_126 => ?_)
            refine zi_aload_n 130 dX11_cell_129 rfl rfl ?_
            refine zi_getfield 133 10 dX11_cell_130 zcl_X11 tw_873 rfl rfl N19.1.1 rfl rfl ?_
            refine zi_iload 135 dX11_cell_133 rfl rfl ?_
            refine zi_dup2_11 136 dX11_cell_135 rfl rfl rfl ?_
            refine zi_laload 137 dX11_cell_136 N19.1.2.2.2.2.2.2.2.2.2 (vp_in_nI (show 5 < 9 by decide) (by decide)) rfl ?_
            rw [show Int32.toNatClampNeg 5 = 5 from rfl]
            refine zi_val (congrArg Value.long (hF 5 (by decide))) ?_
            refine zi_lload 139 dX11_cell_137 rfl rfl ?_
            refine zi_ldiv 140 dX11_cell_139 (fun e => by rw [lN_0e (gC_l hVP 9 hq0)] at e; have := gC_p hq0 9; omega) rfl ?_
            rw [iz_dx (by have := tab_b hVP 5; omega) (gC_l hVP 9 hq0) (gC_t P (i := 5) (by decide))]
            refine zi_lastore 141 dX11_cell_140 N19.1.2.2.2.2.2.2.2.2.2 (vp_in_nI (show 5 < 9 by decide) (by decide)) rfl ?_
            rw [show Int32.toNatClampNeg 5 = 5 from rfl]
            refine zk_h (fun h20 k20 => ?_)
            have N20 := rN_B hD N19 k20
            refine zi_iinc (v := 6) (lv' := [(8, _), (4, _), (6, _), (3, _), (0, _), (1, _), (2, _)]) 144 dX11_cell_141 rfl rfl rfl rfl rfl ?_
            refine zi_goto 122 dX11_cell_144 (by decide) ?_
            refine zi_iload 124 dX11_cell_122 rfl rfl ?_
            refine zi_bipush (v := 9) 126 dX11_cell_124 (by decide) rfl ?_
            refine zi_icmp_ge 129 147 dX11_cell_126 (by decide) rfl (fun c_126 => absurd c_126 (by decide)) (fun c_126 => ?_)
            refine zi_aload_n 130 dX11_cell_129 rfl rfl ?_
            refine zi_getfield 133 10 dX11_cell_130 zcl_X11 tw_873 rfl rfl N20.1.1 rfl rfl ?_
            refine zi_iload 135 dX11_cell_133 rfl rfl ?_
            refine zi_dup2_11 136 dX11_cell_135 rfl rfl rfl ?_
            refine zi_laload 137 dX11_cell_136 N20.1.2.2.2.2.2.2.2.2.2 (vp_in_nI (show 6 < 9 by decide) (by decide)) rfl ?_
            rw [show Int32.toNatClampNeg 6 = 6 from rfl]
            refine zi_val (congrArg Value.long (hF 6 (by decide))) ?_
            refine zi_lload 139 dX11_cell_137 rfl rfl ?_
            refine zi_ldiv 140 dX11_cell_139 (fun e => by rw [lN_0e (gC_l hVP 9 hq0)] at e; have := gC_p hq0 9; omega) rfl ?_
            rw [iz_dx (by have := tab_b hVP 6; omega) (gC_l hVP 9 hq0) (gC_t P (i := 6) (by decide))]
            refine zi_lastore 141 dX11_cell_140 N20.1.2.2.2.2.2.2.2.2.2 (vp_in_nI (show 6 < 9 by decide) (by decide)) rfl ?_
            rw [show Int32.toNatClampNeg 6 = 6 from rfl]
            refine zk_h (fun h21 k21 => ?_)
            have N21 := rN_B hD N20 k21
            refine zi_iinc (v := 7) (lv' := [(8, _), (4, _), (6, _), (3, _), (0, _), (1, _), (2, _)]) 144 dX11_cell_141 rfl rfl rfl rfl rfl ?_
            refine zi_goto 122 dX11_cell_144 (by decide) ?_
            refine zi_iload 124 dX11_cell_122 rfl rfl ?_
            refine zi_bipush (v := 9) 126 dX11_cell_124 (by decide) rfl ?_
            refine zi_icmp_ge 129 147 dX11_cell_126 (by decide) rfl (fun c_126 => absurd c_126 (by decide)) (fun c_126 => ?_)
            refine zi_aload_n 130 dX11_cell_129 rfl rfl ?_
            refine zi_getfield 133 10 dX11_cell_130 zcl_X11 tw_873 rfl rfl N21.1.1 rfl rfl ?_
            refine zi_iload 135 dX11_cell_133 rfl rfl ?_
            refine zi_dup2_11 136 dX11_cell_135 rfl rfl rfl ?_
            refine zi_laload 137 dX11_cell_136 N21.1.2.2.2.2.2.2.2.2.2 (vp_in_nI (show 7 < 9 by decide) (by decide)) rfl ?_
            rw [show Int32.toNatClampNeg 7 = 7 from rfl]
            refine zi_val (congrArg Value.long (hF 7 (by decide))) ?_
            refine zi_lload 139 dX11_cell_137 rfl rfl ?_
            refine zi_ldiv 140 dX11_cell_139 (fun e => by rw [lN_0e (gC_l hVP 9 hq0)] at e; have := gC_p hq0 9; omega) rfl ?_
            rw [iz_dx (by have := tab_b hVP 7; omega) (gC_l hVP 9 hq0) (gC_t P (i := 7) (by decide))]
            refine zi_lastore 141 dX11_cell_140 N21.1.2.2.2.2.2.2.2.2.2 (vp_in_nI (show 7 < 9 by decide) (by decide)) rfl ?_
            rw [show Int32.toNatClampNeg 7 = 7 from rfl]
            refine zk_h (fun h22 k22 => ?_)
            have N22 := rN_B hD N21 k22
            refine zi_iinc (v := 8) (lv' := [(8, _), (4, _), (6, _), (3, _), (0, _), (1, _), (2, _)]) 144 dX11_cell_141 rfl rfl rfl rfl rfl ?_
            refine zi_goto 122 dX11_cell_144 (by decide) ?_
            refine zi_iload 124 dX11_cell_122 rfl rfl ?_
            refine zi_bipush (v := 9) 126 dX11_cell_124 (by decide) rfl ?_
            refine zi_icmp_ge 129 147 dX11_cell_126 (by decide) rfl (fun c_126 => absurd c_126 (by decide)) (fun c_126 => ?_)
            refine zi_aload_n 130 dX11_cell_129 rfl rfl ?_
            refine zi_getfield 133 10 dX11_cell_130 zcl_X11 tw_873 rfl rfl N22.1.1 rfl rfl ?_
            refine zi_iload 135 dX11_cell_133 rfl rfl ?_
            refine zi_dup2_11 136 dX11_cell_135 rfl rfl rfl ?_
            refine zi_laload 137 dX11_cell_136 N22.1.2.2.2.2.2.2.2.2.2 (vp_in_nI (show 8 < 9 by decide) (by decide)) rfl ?_
            rw [show Int32.toNatClampNeg 8 = 8 from rfl]
            refine zi_val (congrArg Value.long (hF 8 (by decide))) ?_
            refine zi_lload 139 dX11_cell_137 rfl rfl ?_
            refine zi_ldiv 140 dX11_cell_139 (fun e => by rw [lN_0e (gC_l hVP 9 hq0)] at e; have := gC_p hq0 9; omega) rfl ?_
            rw [iz_dx (by have := tab_b hVP 8; omega) (gC_l hVP 9 hq0) (gC_t P (i := 8) (by decide))]
            refine zi_lastore 141 dX11_cell_140 N22.1.2.2.2.2.2.2.2.2.2 (vp_in_nI (show 8 < 9 by decide) (by decide)) rfl ?_
            rw [show Int32.toNatClampNeg 8 = 8 from rfl]
            refine zk_h (fun h23 k23 => ?_)
            have N23 := rN_B hD N22 k23
            refine zi_iinc (v := 9) (lv' := [(8, _), (4, _), (6, _), (3, _), (0, _), (1, _), (2, _)]) 144 dX11_cell_141 rfl rfl rfl rfl rfl ?_
            refine zi_goto 122 dX11_cell_144 (by decide) ?_
            refine zi_iload 124 dX11_cell_122 rfl rfl ?_
            refine zi_bipush (v := 9) 126 dX11_cell_124 (by decide) rfl ?_
            refine zi_icmp_ge 129 147 dX11_cell_126 (by decide) rfl (fun c_126 => ?_) (fun c_126 => absurd c_126 (by decide))
            obtain ⟨T9, N24, hT⟩ : ∃ T, rN B D (uB (uR m R4) T) h h23 ∧ ∀ i, i < 9 → T i = iz (tG P i) := ⟨_, N23, fun i hi => match i, hi with | 0, _ => rfl | 1, _ => rfl | 2, _ => rfl | 3, _ => rfl | 4, _ => rfl | 5, _ => rfl | 6, _ => rfl | 7, _ => rfl | 8, _ => rfl⟩
            obtain ⟨x1, xA, xB, xD⟩ := cl_ex hVP zzZ
            refine zi_iconst (v := 1) 148 dX11_cell_147 (by decide) rfl ?_
            refine zi_istore (lv' := [(8, _), (4, _), (6, _), (3, _), (0, _), (1, _), (2, _)]) 150 dX11_cell_148 rfl rfl rfl ?_
            refine zi_lv [0, 1, 4, 6] rfl (l_X11_cellA B h23 X D hD (uB (uR m R4) T9) N24.1 P hVP hq0 hT (idx P) zzI k xA (fun a haK hA => ?_) _ 1 (Nat.lt_succ_self _) (by decide) x1 (fun x h1 h2 => by omega))
            refine zi_iconst (v := 0) 171 dX11_cell_170 (by decide) rfl ?_
            refine zi_istore (lv' := [(9, _), (8, _), (4, _), (0, _), (2, _)]) 173 dX11_cell_171 rfl rfl rfl ?_
            refine zi_iconst (v := 1) 174 dX11_cell_173 (by decide) rfl ?_
            refine zi_istore (lv' := [(10, _), (9, _), (8, _), (4, _), (0, _), (2, _)]) 176 dX11_cell_174 rfl rfl rfl ?_
            refine zi_lv [1, 0, 2, 3, 4, 5] rfl (l_X11_cellB B h23 X D hD (uB (uR m R4) T9) N24.1 P hVP hq0 hT (idx P) zzI k a hA.1 (by omega) xB (fun b c hb3 hcK hB => ?_) _ 0 1 (Nat.lt_succ_self _) (by have := hA.1; omega) (by decide) x1 (fun y h1 h2 => by omega) (fun x hx => absurd hx (Nat.not_lt_zero _)))
            refine zi_iconst (v := 0) 212 dX11_cell_211 (by decide) rfl ?_
            refine zi_istore (lv' := [(11, _), (9, _), (10, _), (8, _), (4, _), (0, _), (2, _)]) 214 dX11_cell_212 rfl rfl rfl ?_
            refine zi_iconst (v := 0) 215 dX11_cell_214 (by decide) rfl ?_
            refine zi_istore (lv' := [(12, _), (11, _), (9, _), (10, _), (8, _), (4, _), (0, _), (2, _)]) 217 dX11_cell_215 rfl rfl rfl ?_
            refine zi_iconst (v := 1) 218 dX11_cell_217 (by decide) rfl ?_
            refine zi_istore (lv' := [(13, _), (12, _), (11, _), (9, _), (10, _), (8, _), (4, _), (0, _), (2, _)]) 220 dX11_cell_218 rfl rfl rfl ?_
            refine zi_lv [2, 1, 0, 5, 3, 4, 6, 7, 8] rfl (l_X11_cellD B h23 X D hD (uB (uR m R4) T9) N24.1 P hVP hq0 hT (idx P) zzI k a b c hA.1 (by omega) hB.2.1 (by omega) xD (fun d e g hD9 => ?_) _ 0 0 1 (Nat.lt_succ_self _) (by have := hA.1; omega) (by have := hB.2.1; omega) (by decide) x1 (fun z h1 h2 => by omega) (fun y hy => absurd hy (Nat.not_lt_zero _)) (fun x hx => absurd hx (Nat.not_lt_zero _)))
            refine zi_aload_n 271 dX11_cell_270 rfl rfl ?_
            refine zi_iload_n 272 dX11_cell_271 rfl rfl ?_
            refine zi_if_ne 275 280 dX11_cell_272 (by decide) rfl (fun zk0 => ?_) (fun zk0 => ?_)
            ·
              refine zi_iload_n 281 dX11_cell_280 rfl rfl ?_
              refine zi_iconst (v := 1) 282 dX11_cell_281 (by decide) rfl ?_
              refine zi_icmp_ne 285 290 dX11_cell_282 (by decide) rfl (fun zk1 => ?_) (fun zk1 => ?_)
              ·
                refine zi_iload_n 291 dX11_cell_290 rfl rfl ?_
                refine zi_iconst (v := 2) 292 dX11_cell_291 (by decide) rfl ?_
                refine zi_icmp_ne 295 300 dX11_cell_292 (by decide) rfl (fun zk2 => ?_) (fun zk2 => ?_)
                ·
                  refine zi_iload_n 301 dX11_cell_300 rfl rfl ?_
                  refine zi_iconst (v := 3) 302 dX11_cell_301 (by decide) rfl ?_
                  refine zi_icmp_ne 305 310 dX11_cell_302 (by decide) rfl (fun zk3 => ?_) (fun zk3 => ?_)
                  ·
                    refine zi_iload_n 311 dX11_cell_310 rfl rfl ?_
                    refine zi_iconst (v := 4) 312 dX11_cell_311 (by decide) rfl ?_
                    refine zi_icmp_ne 315 320 dX11_cell_312 (by decide) rfl (fun zk4 => ?_) (fun zk4 => ?_)
                    ·
                      refine zi_iload 322 dX11_cell_320 rfl rfl ?_
                      refine zc_virtual (n' := (0, 0)) (md' := mX11_well) 325 dX11_cell_322 tw_916 zv_X11_well zcl_X11 (s_X11_well B h23 D hD _ N24.1 _) N24.1.1 rfl rfl rfl rfl rfl rfl rfl rfl (zk_i fun x25 h25 p25 => ?_)
                      obtain ⟨rfl, n25⟩ := p25
                      have N25 := rN_t N24 n25
                      exact zr_int hZ dX11_cell_325 rfl rfl ⟨_, rfl, _, by rw [r_cell, if_neg zzO, nI_clamp hpj31, hsP, onS_s, if_neg zzZ, if_neg (by omega), clT_of ⟨hA, hB, hD9⟩]; first | rw [clN, if_pos zk0] | rw [clN, if_neg zk0, if_pos zk1] | rw [clN, if_neg zk0, if_neg zk1, if_pos zk2] | rw [clN, if_neg zk0, if_neg zk1, if_neg zk2, if_pos zk3] | rw [clN, if_neg zk0, if_neg zk1, if_neg zk2, if_neg zk3, if_pos zk4] | rw [clN, if_neg zk0, if_neg zk1, if_neg zk2, if_neg zk3, if_neg zk4], ⟨_, N25.1, mQ_F 0 K⟩, N25.2⟩
                    ·
                      refine zi_iload 317 dX11_cell_315 rfl rfl ?_
                      refine zi_goto 322 dX11_cell_317 (by decide) ?_
                      refine zc_virtual (n' := (0, 0)) (md' := mX11_well) 325 dX11_cell_322 tw_916 zv_X11_well zcl_X11 (s_X11_well B h23 D hD _ N24.1 _) N24.1.1 rfl rfl rfl rfl rfl rfl rfl rfl (zk_i fun x26 h26 p26 => ?_)
                      obtain ⟨rfl, n26⟩ := p26
                      have N26 := rN_t N24 n26
                      exact zr_int hZ dX11_cell_325 rfl rfl ⟨_, rfl, _, by rw [r_cell, if_neg zzO, nI_clamp hpj31, hsP, onS_s, if_neg zzZ, if_neg (by omega), clT_of ⟨hA, hB, hD9⟩]; first | rw [clN, if_pos zk0] | rw [clN, if_neg zk0, if_pos zk1] | rw [clN, if_neg zk0, if_neg zk1, if_pos zk2] | rw [clN, if_neg zk0, if_neg zk1, if_neg zk2, if_pos zk3] | rw [clN, if_neg zk0, if_neg zk1, if_neg zk2, if_neg zk3, if_pos zk4] | rw [clN, if_neg zk0, if_neg zk1, if_neg zk2, if_neg zk3, if_neg zk4], ⟨_, N26.1, mQ_F 0 K⟩, N26.2⟩
                  ·
                    refine zi_iload 307 dX11_cell_305 rfl rfl ?_
                    refine zi_goto 322 dX11_cell_307 (by decide) ?_
                    refine zc_virtual (n' := (0, 0)) (md' := mX11_well) 325 dX11_cell_322 tw_916 zv_X11_well zcl_X11 (s_X11_well B h23 D hD _ N24.1 _) N24.1.1 rfl rfl rfl rfl rfl rfl rfl rfl (zk_i fun x27 h27 p27 => ?_)
                    obtain ⟨rfl, n27⟩ := p27
                    have N27 := rN_t N24 n27
                    exact zr_int hZ dX11_cell_325 rfl rfl ⟨_, rfl, _, by rw [r_cell, if_neg zzO, nI_clamp hpj31, hsP, onS_s, if_neg zzZ, if_neg (by omega), clT_of ⟨hA, hB, hD9⟩]; first | rw [clN, if_pos zk0] | rw [clN, if_neg zk0, if_pos zk1] | rw [clN, if_neg zk0, if_neg zk1, if_pos zk2] | rw [clN, if_neg zk0, if_neg zk1, if_neg zk2, if_pos zk3] | rw [clN, if_neg zk0, if_neg zk1, if_neg zk2, if_neg zk3, if_pos zk4] | rw [clN, if_neg zk0, if_neg zk1, if_neg zk2, if_neg zk3, if_neg zk4], ⟨_, N27.1, mQ_F 0 K⟩, N27.2⟩
                ·
                  refine zi_iload 297 dX11_cell_295 rfl rfl ?_
                  refine zi_goto 322 dX11_cell_297 (by decide) ?_
                  refine zc_virtual (n' := (0, 0)) (md' := mX11_well) 325 dX11_cell_322 tw_916 zv_X11_well zcl_X11 (s_X11_well B h23 D hD _ N24.1 _) N24.1.1 rfl rfl rfl rfl rfl rfl rfl rfl (zk_i fun x28 h28 p28 => ?_)
                  obtain ⟨rfl, n28⟩ := p28
                  have N28 := rN_t N24 n28
                  exact zr_int hZ dX11_cell_325 rfl rfl ⟨_, rfl, _, by rw [r_cell, if_neg zzO, nI_clamp hpj31, hsP, onS_s, if_neg zzZ, if_neg (by omega), clT_of ⟨hA, hB, hD9⟩]; first | rw [clN, if_pos zk0] | rw [clN, if_neg zk0, if_pos zk1] | rw [clN, if_neg zk0, if_neg zk1, if_pos zk2] | rw [clN, if_neg zk0, if_neg zk1, if_neg zk2, if_pos zk3] | rw [clN, if_neg zk0, if_neg zk1, if_neg zk2, if_neg zk3, if_pos zk4] | rw [clN, if_neg zk0, if_neg zk1, if_neg zk2, if_neg zk3, if_neg zk4], ⟨_, N28.1, mQ_F 0 K⟩, N28.2⟩
              ·
                refine zi_iload 287 dX11_cell_285 rfl rfl ?_
                refine zi_goto 322 dX11_cell_287 (by decide) ?_
                refine zc_virtual (n' := (0, 0)) (md' := mX11_well) 325 dX11_cell_322 tw_916 zv_X11_well zcl_X11 (s_X11_well B h23 D hD _ N24.1 _) N24.1.1 rfl rfl rfl rfl rfl rfl rfl rfl (zk_i fun x29 h29 p29 => ?_)
                obtain ⟨rfl, n29⟩ := p29
                have N29 := rN_t N24 n29
                exact zr_int hZ dX11_cell_325 rfl rfl ⟨_, rfl, _, by rw [r_cell, if_neg zzO, nI_clamp hpj31, hsP, onS_s, if_neg zzZ, if_neg (by omega), clT_of ⟨hA, hB, hD9⟩]; first | rw [clN, if_pos zk0] | rw [clN, if_neg zk0, if_pos zk1] | rw [clN, if_neg zk0, if_neg zk1, if_pos zk2] | rw [clN, if_neg zk0, if_neg zk1, if_neg zk2, if_pos zk3] | rw [clN, if_neg zk0, if_neg zk1, if_neg zk2, if_neg zk3, if_pos zk4] | rw [clN, if_neg zk0, if_neg zk1, if_neg zk2, if_neg zk3, if_neg zk4], ⟨_, N29.1, mQ_F 0 K⟩, N29.2⟩
            ·
              refine zi_iload 277 dX11_cell_275 rfl rfl ?_
              refine zi_goto 322 dX11_cell_277 (by decide) ?_
              refine zc_virtual (n' := (0, 0)) (md' := mX11_well) 325 dX11_cell_322 tw_916 zv_X11_well zcl_X11 (s_X11_well B h23 D hD _ N24.1 _) N24.1.1 rfl rfl rfl rfl rfl rfl rfl rfl (zk_i fun x30 h30 p30 => ?_)
              obtain ⟨rfl, n30⟩ := p30
              have N30 := rN_t N24 n30
              exact zr_int hZ dX11_cell_325 rfl rfl ⟨_, rfl, _, by rw [r_cell, if_neg zzO, nI_clamp hpj31, hsP, onS_s, if_neg zzZ, if_neg (by omega), clT_of ⟨hA, hB, hD9⟩]; first | rw [clN, if_pos zk0] | rw [clN, if_neg zk0, if_pos zk1] | rw [clN, if_neg zk0, if_neg zk1, if_pos zk2] | rw [clN, if_neg zk0, if_neg zk1, if_neg zk2, if_pos zk3] | rw [clN, if_neg zk0, if_neg zk1, if_neg zk2, if_neg zk3, if_pos zk4] | rw [clN, if_neg zk0, if_neg zk1, if_neg zk2, if_neg zk3, if_neg zk4], ⟨_, N30.1, mQ_F 0 K⟩, N30.2⟩
          ·
            rw [show (300 : Int64) = lN 300 from rfl, pk_lLE (idx_63 hVP) (by decide)] at zzI
            refine zi_ldc 47 dX11_cell_45 tw_943 rfl ?_
            exact zr_int hZ dX11_cell_47 rfl rfl ⟨_, rfl, _, by rw [r_cell, if_neg zzO, nI_clamp hpj31, hsP, onS_s, if_neg zzZ, if_pos (by omega)], ⟨_, N4.1, K⟩, N4.2⟩
    ·
      have zzB := Decidable.not_not.mp (fun q => zzB (in_6.mpr q))
      refine zi_ldc 21 dX11_cell_19 tw_910 rfl ?_
      exact zr_int hZ dX11_cell_21 rfl rfl ⟨_, rfl, _, by rw [r_cell, if_pos (by first | exact Or.inl zzA | exact Or.inr (zzB))], ⟨m, N0.1, K⟩, N0.2⟩
