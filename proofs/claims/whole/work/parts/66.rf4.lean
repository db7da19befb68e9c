/-! the reference: units, associates, greatest divisors -/
theorem le_y {P Q : z4} (h : zLess P Q) : some (Value.int 1) = some (.int (if zLess P Q then 1 else 0)) := by rw [if_pos h]
theorem le_n {P Q : z4} (h : ¬ zLess P Q) : some (Value.int 0) = some (.int (if zLess P Q then 1 else 0)) := by rw [if_neg h]
theorem zl_0 {P Q : z4} (h0 : ¬ P.1 = Q.1) : zLess P Q ↔ P.1 < Q.1 := by
  unfold zLess
  rw [if_neg h0]
theorem zl_1 {P Q : z4} (h0 : P.1 = Q.1) (h1 : ¬ P.2.1 = Q.2.1) : zLess P Q ↔ P.2.1 < Q.2.1 := by
  unfold zLess
  rw [if_pos h0, if_neg h1]
theorem zl_2 {P Q : z4} (h0 : P.1 = Q.1) (h1 : P.2.1 = Q.2.1) (h2 : ¬ P.2.2.1 = Q.2.2.1) : zLess P Q ↔ P.2.2.1 < Q.2.2.1 := by
  unfold zLess
  rw [if_pos h0, if_pos h1, if_neg h2]
theorem zl_3 {P Q : z4} (h0 : P.1 = Q.1) (h1 : P.2.1 = Q.2.1) (h2 : P.2.2.1 = Q.2.2.1) : zLess P Q ↔ P.2.2.2 < Q.2.2.2 := by
  unfold zLess
  rw [if_pos h0, if_pos h1, if_pos h2]
def urZ (k : Nat) : z4 := if k < 8 then (if k / 2 = 0 then (if k % 2 = 0 then 2 else -2) else 0, if k / 2 = 1 then (if k % 2 = 0 then 2 else -2) else 0, if k / 2 = 2 then (if k % 2 = 0 then 2 else -2) else 0, if k / 2 = 3 then (if k % 2 = 0 then 2 else -2) else 0) else (if (k - 8) % 2 = 0 then 1 else -1, if (k - 8) / 2 % 2 = 0 then 1 else -1, if (k - 8) / 4 % 2 = 0 then 1 else -1, if (k - 8) / 8 % 2 = 0 then 1 else -1)
def urI (k : Nat) : i4 := if k < 8 then (if k / 2 = 0 then (if k % 2 = 0 then 2 else -2) else 0, if k / 2 = 1 then (if k % 2 = 0 then 2 else -2) else 0, if k / 2 = 2 then (if k % 2 = 0 then 2 else -2) else 0, if k / 2 = 3 then (if k % 2 = 0 then 2 else -2) else 0) else (if (k - 8) % 2 = 0 then 1 else -1, if (k - 8) / 2 % 2 = 0 then 1 else -1, if (k - 8) / 4 % 2 = 0 then 1 else -1, if (k - 8) / 8 % 2 = 0 then 1 else -1)
theorem ur_all : ∀ k, k < 24 → urZ k = z4i (urI k) ∧ ∃ j, j < 24 ∧ urI k = unI j := by decide +kernel
theorem un_all : ∀ j, j < 24 → ∃ k, k < 24 ∧ unI j = urI k := by decide +kernel
theorem and_b : ∀ b, b < 16 → ((nI b &&& 1 = 0 ↔ b % 2 = 0) ∧ (nI b &&& 2 = 0 ↔ b / 2 % 2 = 0) ∧ (nI b &&& 4 = 0 ↔ b / 4 % 2 = 0) ∧ (nI b &&& 8 = 0 ↔ b / 8 % 2 = 0)) := by decide +kernel
theorem un_r (f : Nat → Int64) {k : Nat} (hk : k < 8) (v : Int64) : ro (vp_updL (p4 f 24 (0, 0, 0, 0)) (24 + k / 2) v) 24 = (if k / 2 = 0 then v else 0, if k / 2 = 1 then v else 0, if k / 2 = 2 then v else 0, if k / 2 = 3 then v else 0) := by
  match k, hk with
  | 0, _ => rfl
  | 1, _ => rfl
  | 2, _ => rfl
  | 3, _ => rfl
  | 4, _ => rfl
  | 5, _ => rfl
  | 6, _ => rfl
  | 7, _ => rfl
theorem un_8 {k : Nat} (hk : k < 8) : urZ k = (if k / 2 = 0 then (if k % 2 = 0 then 2 else -2) else 0, if k / 2 = 1 then (if k % 2 = 0 then 2 else -2) else 0, if k / 2 = 2 then (if k % 2 = 0 then 2 else -2) else 0, if k / 2 = 3 then (if k % 2 = 0 then 2 else -2) else 0) := if_pos hk
theorem un_24 {k : Nat} (hk : ¬ k < 8) : urZ k = (if (k - 8) % 2 = 0 then 1 else -1, if (k - 8) / 2 % 2 = 0 then 1 else -1, if (k - 8) / 4 % 2 = 0 then 1 else -1, if (k - 8) / 8 % 2 = 0 then 1 else -1) := if_neg hk
theorem un_o (f : Nat → Int64) {k i : Nat} (P : z4) (hk : k < 8) (v : Int64) (h : i < 24 ∨ 28 ≤ i) : vp_updL (p4 f 24 P) (24 + k / 2) v i = f i := by
  unfold vp_updL
  rw [if_neg (by omega)]
  exact p4_o P h
/-- the best so far -/
def asB (s : Int32) (P : i4) (k : Nat) (G : i4) : Prop := (∃ j, j < 24 ∧ G = prI (unI j) P s) ∧ ∀ j, j < k → ¬ i4t G (prI (urI j) P s)
theorem asB_e {s : Int32} {P G : i4} (h : asB s P 24 G) : asI s P = G := asI_of ⟨h.1, fun j hj => by
  obtain ⟨k, hk, e⟩ := un_all j hj
  rw [e]
  exact h.2 k hk⟩
theorem asB_0 {s : Int32} {P : i4} : asB s P 1 (prI (urI 0) P s) := by
  obtain ⟨j, hj, e⟩ := (ur_all 0 (by decide)).2
  refine ⟨⟨j, hj, by rw [e]⟩, fun i hi => ?_⟩
  rw [show i = 0 by omega]
  exact i4t_irr _
theorem asB_y {s : Int32} {P G : i4} {k : Nat} (hk : k < 24) (h : asB s P k G) (hl : i4t G (prI (urI k) P s)) : asB s P (k + 1) (prI (urI k) P s) := by
  obtain ⟨j, hj, e⟩ := (ur_all k hk).2
  refine ⟨⟨j, hj, by rw [e]⟩, fun i hi => ?_⟩
  rcases Nat.lt_or_ge i k with c | c
  · exact fun q => i4t_asym q (i4t_tr (h.2 i c) hl)
  · rw [show i = k by omega]
    exact i4t_irr _
theorem asB_n {s : Int32} {P G : i4} {k : Nat} (h : asB s P k G) (hl : ¬ i4t G (prI (urI k) P s)) : asB s P (k + 1) G := ⟨h.1, fun i hi => by
  rcases Nat.lt_or_ge i k with c | c
  · exact h.2 i c
  · rw [show i = k by omega]
    exact hl⟩
theorem asB_l {s : Int32} {P G : i4} {k : Nat} (oP : i4o P) (lP : i4l P 2147483648) (h : asB s P k G) : i4l G 17179869184 := by
  obtain ⟨⟨j, hj, e⟩, -⟩ := h
  obtain ⟨-, h2, h3, -⟩ := unI_all j hj
  rw [e]
  exact (prI_z h2 oP h3 lP).2.1
theorem ur_p {s : Int32} {P : i4} {k : Nat} (hk : k < 24) (oP : i4o P) (lP : i4l P 2147483648) : (if s = 0 then zMul (urZ k) (z4i P) else zMul (z4i P) (urZ k)) = z4i (prI (urI k) P s) ∧ i4l (prI (urI k) P s) 17179869184 := by
  obtain ⟨e, j, hj, e2⟩ := ur_all k hk
  obtain ⟨-, h2, h3, -⟩ := unI_all j hj
  rw [e, e2]
  obtain ⟨r1, r2, -⟩ := prI_z (s := s) h2 oP h3 lP
  exact ⟨r1, r2⟩

theorem lt_ir {x y : Int64} (h : x < y) (e : x = y) : False := by
  rw [Int64.lt_iff_toInt_lt, e] at h
  omega

set_option maxHeartbeats 4000000 in
set_option maxRecDepth 100000 in
theorem s_X11_isLess (B : zBB) (h : zHp) (D : Nat → Nat) (hD : zInj D) (m : mS) (M : rM B D m h) (a b : Nat) (ha : a ≤ 76) (hb : b ≤ 76) : zSpec mX11_isLess B (0, 0, 0) [.ref (D 0), .int (nI a), .int (nI b)] h (zPf (some (.int (if zLess (ro (wR m) a) (ro (wR m) b) then 1 else 0))) h) := by
  refine zSpec.of (by decide) (Nat.le_of_ble_eq_true rfl) (fun X hZ => ?_)
  show zG X mX11_isLess B (0, 0, 0) (0, 0) 0 [(0, .ref (D 0)), (1, .int (nI a)), (2, .int (nI b))] [] h
  have N0 := rN_r M
  refine zi_iconst (v := 0) 1 dX11_isLess_0 (by decide) rfl ?_
  refine zi_istore_n (lv' := [(3, _), (0, _), (1, _), (2, _)]) 2 dX11_isLess_1 rfl rfl rfl ?_
  refine zi_iload_n 3 dX11_isLess_2 rfl rfl ?_
  refine zi_iconst (v := 4) 4 dX11_isLess_3 (by decide) rfl ?_
  refine zi_icmp_ge 7 59 dX11_isLess_4 (by decide) rfl (fun c_4 => absurd c_4 (by decide)) (fun c_4 => ?_)
  refine zi_aload_n 8 dX11_isLess_7 rfl rfl ?_
  refine zi_getfield 11 9 dX11_isLess_8 zcl_X11 tw_872 rfl rfl N0.1.1 rfl rfl ?_
  refine zi_iload_n 12 dX11_isLess_11 rfl rfl ?_
  refine zi_iload_n 13 dX11_isLess_12 rfl rfl ?_
  refine zi_iadd 14 dX11_isLess_13 rfl ?_
  rw [show nI a + 0 = nI a from Int32.add_zero _]
  refine zi_laload 15 dX11_isLess_14 N0.1.2.2.2.2.2.2.2.2.1 (vp_in_nI (show a < 80 by omega) (by decide)) rfl ?_
  rw [nI_clamp (Nat.lt_trans (show a < 80 by omega) (by decide))]
  refine zi_aload_n 16 dX11_isLess_15 rfl rfl ?_
  refine zi_getfield 19 9 dX11_isLess_16 zcl_X11 tw_872 rfl rfl N0.1.1 rfl rfl ?_
  refine zi_iload_n 20 dX11_isLess_19 rfl rfl ?_
  refine zi_iload_n 21 dX11_isLess_20 rfl rfl ?_
  refine zi_iadd 22 dX11_isLess_21 rfl ?_
  rw [show nI b + 0 = nI b from Int32.add_zero _]
  refine zi_laload 23 dX11_isLess_22 N0.1.2.2.2.2.2.2.2.2.1 (vp_in_nI (show b < 80 by omega) (by decide)) rfl ?_
  rw [nI_clamp (Nat.lt_trans (show b < 80 by omega) (by decide))]
  refine zj_eq 27 53 dX11_isLess_23 rfl dX11_isLess_24 (by decide) rfl (fun zz0 => ?_) (fun zz0 => ?_)
  ·
    refine zi_iinc (v := 1) (lv' := [(3, _), (0, _), (1, _), (2, _)]) 56 dX11_isLess_53 rfl rfl rfl rfl rfl ?_
    refine zi_goto 2 dX11_isLess_56 (by decide) ?_
    refine zi_iload_n 3 dX11_isLess_2 rfl rfl ?_
    refine zi_iconst (v := 4) 4 dX11_isLess_3 (by decide) rfl ?_
    refine zi_icmp_ge 7 59 dX11_isLess_4 (by decide) rfl (fun c_4 => absurd c_4 (by decide)) (fun c_4 => ?_)
    refine zi_aload_n 8 dX11_isLess_7 rfl rfl ?_
    refine zi_getfield 11 9 dX11_isLess_8 zcl_X11 tw_872 rfl rfl N0.1.1 rfl rfl ?_
    refine zi_iload_n 12 dX11_isLess_11 rfl rfl ?_
    refine zi_iload_n 13 dX11_isLess_12 rfl rfl ?_
    refine zi_iadd 14 dX11_isLess_13 rfl ?_
    rw [show (nI a : Int32) + 1 = nI (a + 1) from nI_ad a 1]
    refine zi_laload 15 dX11_isLess_14 N0.1.2.2.2.2.2.2.2.2.1 (vp_in_nI (show (a + 1) < 80 by omega) (by decide)) rfl ?_
    rw [nI_clamp (Nat.lt_trans (show (a + 1) < 80 by omega) (by decide))]
    refine zi_aload_n 16 dX11_isLess_15 rfl rfl ?_
    refine zi_getfield 19 9 dX11_isLess_16 zcl_X11 tw_872 rfl rfl N0.1.1 rfl rfl ?_
    refine zi_iload_n 20 dX11_isLess_19 rfl rfl ?_
    refine zi_iload_n 21 dX11_isLess_20 rfl rfl ?_
    refine zi_iadd 22 dX11_isLess_21 rfl ?_
    rw [show (nI b : Int32) + 1 = nI (b + 1) from nI_ad b 1]
    refine zi_laload 23 dX11_isLess_22 N0.1.2.2.2.2.2.2.2.2.1 (vp_in_nI (show (b + 1) < 80 by omega) (by decide)) rfl ?_
    rw [nI_clamp (Nat.lt_trans (show (b + 1) < 80 by omega) (by decide))]
    refine zj_eq 27 53 dX11_isLess_23 rfl dX11_isLess_24 (by decide) rfl (fun zz1 => ?_) (fun zz1 => ?_)
    ·
      refine zi_iinc (v := 2) (lv' := [(3, _), (0, _), (1, _), (2, _)]) 56 dX11_isLess_53 rfl rfl rfl rfl rfl ?_
      refine zi_goto 2 dX11_isLess_56 (by decide) ?_
      refine zi_iload_n 3 dX11_isLess_2 rfl rfl ?_
      refine zi_iconst (v := 4) 4 dX11_isLess_3 (by decide) rfl ?_
      refine zi_icmp_ge 7 59 dX11_isLess_4 (by decide) rfl (fun c_4 => absurd c_4 (by decide)) (fun c_4 => ?_)
      refine zi_aload_n 8 dX11_isLess_7 rfl rfl ?_
      refine zi_getfield 11 9 dX11_isLess_8 zcl_X11 tw_872 rfl rfl N0.1.1 rfl rfl ?_
      refine zi_iload_n 12 dX11_isLess_11 rfl rfl ?_
      refine zi_iload_n 13 dX11_isLess_12 rfl rfl ?_
      refine zi_iadd 14 dX11_isLess_13 rfl ?_
      rw [show (nI a : Int32) + 2 = nI (a + 2) from nI_ad a 2]
      refine zi_laload 15 dX11_isLess_14 N0.1.2.2.2.2.2.2.2.2.1 (vp_in_nI (show (a + 2) < 80 by omega) (by decide)) rfl ?_
      rw [nI_clamp (Nat.lt_trans (show (a + 2) < 80 by omega) (by decide))]
      refine zi_aload_n 16 dX11_isLess_15 rfl rfl ?_
      refine zi_getfield 19 9 dX11_isLess_16 zcl_X11 tw_872 rfl rfl N0.1.1 rfl rfl ?_
      refine zi_iload_n 20 dX11_isLess_19 rfl rfl ?_
      refine zi_iload_n 21 dX11_isLess_20 rfl rfl ?_
      refine zi_iadd 22 dX11_isLess_21 rfl ?_
      rw [show (nI b : Int32) + 2 = nI (b + 2) from nI_ad b 2]
      refine zi_laload 23 dX11_isLess_22 N0.1.2.2.2.2.2.2.2.2.1 (vp_in_nI (show (b + 2) < 80 by omega) (by decide)) rfl ?_
      rw [nI_clamp (Nat.lt_trans (show (b + 2) < 80 by omega) (by decide))]
      refine zj_eq 27 53 dX11_isLess_23 rfl dX11_isLess_24 (by decide) rfl (fun zz2 => ?_) (fun zz2 => ?_)
      ·
        refine zi_iinc (v := 3) (lv' := [(3, _), (0, _), (1, _), (2, _)]) 56 dX11_isLess_53 rfl rfl rfl rfl rfl ?_
        refine zi_goto 2 dX11_isLess_56 (by decide) ?_
        refine zi_iload_n 3 dX11_isLess_2 rfl rfl ?_
        refine zi_iconst (v := 4) 4 dX11_isLess_3 (by decide) rfl ?_
        refine zi_icmp_ge 7 59 dX11_isLess_4 (by decide) rfl (fun c_4 => absurd c_4 (by decide)) (fun c_4 => ?_)
        refine zi_aload_n 8 dX11_isLess_7 rfl rfl ?_
        refine zi_getfield 11 9 dX11_isLess_8 zcl_X11 tw_872 rfl rfl N0.1.1 rfl rfl ?_
        refine zi_iload_n 12 dX11_isLess_11 rfl rfl ?_
        refine zi_iload_n 13 dX11_isLess_12 rfl rfl ?_
        refine zi_iadd 14 dX11_isLess_13 rfl ?_
        rw [show (nI a : Int32) + 3 = nI (a + 3) from nI_ad a 3]
        refine zi_laload 15 dX11_isLess_14 N0.1.2.2.2.2.2.2.2.2.1 (vp_in_nI (show (a + 3) < 80 by omega) (by decide)) rfl ?_
        rw [nI_clamp (Nat.lt_trans (show (a + 3) < 80 by omega) (by decide))]
        refine zi_aload_n 16 dX11_isLess_15 rfl rfl ?_
        refine zi_getfield 19 9 dX11_isLess_16 zcl_X11 tw_872 rfl rfl N0.1.1 rfl rfl ?_
        refine zi_iload_n 20 dX11_isLess_19 rfl rfl ?_
        refine zi_iload_n 21 dX11_isLess_20 rfl rfl ?_
        refine zi_iadd 22 dX11_isLess_21 rfl ?_
        rw [show (nI b : Int32) + 3 = nI (b + 3) from nI_ad b 3]
        refine zi_laload 23 dX11_isLess_22 N0.1.2.2.2.2.2.2.2.2.1 (vp_in_nI (show (b + 3) < 80 by omega) (by decide)) rfl ?_
        rw [nI_clamp (Nat.lt_trans (show (b + 3) < 80 by omega) (by decide))]
        refine zj_eq 27 53 dX11_isLess_23 rfl dX11_isLess_24 (by decide) rfl (fun zz3 => ?_) (fun zz3 => ?_)
        ·
          refine zi_iinc (v := 4) (lv' := [(3, _), (0, _), (1, _), (2, _)]) 56 dX11_isLess_53 rfl rfl rfl rfl rfl ?_
          refine zi_goto 2 dX11_isLess_56 (by decide) ?_
          refine zi_iload_n 3 dX11_isLess_2 rfl rfl ?_
          refine zi_iconst (v := 4) 4 dX11_isLess_3 (by decide) rfl ?_
          refine zi_icmp_ge 7 59 dX11_isLess_4 (by decide) rfl (fun c_4 => ?_) (fun c_4 => absurd c_4 (by decide))
          refine zi_iconst (v := 0) 60 dX11_isLess_59 (by decide) rfl ?_
          exact zr_int hZ dX11_isLess_60 rfl (by decide) ⟨le_n (fun q => lt_ir ((zl_3 (P := ro (wR m) a) (Q := ro (wR m) b) zz0 zz1 zz2).mp q) zz3), rfl⟩
        ·
          refine zi_aload_n 28 dX11_isLess_27 rfl rfl ?_
          refine zi_getfield 31 9 dX11_isLess_28 zcl_X11 tw_872 rfl rfl N0.1.1 rfl rfl ?_
          refine zi_iload_n 32 dX11_isLess_31 rfl rfl ?_
          refine zi_iload_n 33 dX11_isLess_32 rfl rfl ?_
          refine zi_iadd 34 dX11_isLess_33 rfl ?_
          rw [show (nI a : Int32) + 3 = nI (a + 3) from nI_ad a 3]
          refine zi_laload 35 dX11_isLess_34 N0.1.2.2.2.2.2.2.2.2.1 (vp_in_nI (show (a + 3) < 80 by omega) (by decide)) rfl ?_
          rw [nI_clamp (Nat.lt_trans (show (a + 3) < 80 by omega) (by decide))]
          refine zi_aload_n 36 dX11_isLess_35 rfl rfl ?_
          refine zi_getfield 39 9 dX11_isLess_36 zcl_X11 tw_872 rfl rfl N0.1.1 rfl rfl ?_
          refine zi_iload_n 40 dX11_isLess_39 rfl rfl ?_
          refine zi_iload_n 41 dX11_isLess_40 rfl rfl ?_
          refine zi_iadd 42 dX11_isLess_41 rfl ?_
          rw [show (nI b : Int32) + 3 = nI (b + 3) from nI_ad b 3]
          refine zi_laload 43 dX11_isLess_42 N0.1.2.2.2.2.2.2.2.2.1 (vp_in_nI (show (b + 3) < 80 by omega) (by decide)) rfl ?_
          rw [nI_clamp (Nat.lt_trans (show (b + 3) < 80 by omega) (by decide))]
          refine zj_ge 47 51 dX11_isLess_43 rfl dX11_isLess_44 (by decide) rfl (fun zzL => ?_) (fun zzL => ?_)
          ·
            refine zi_iconst (v := 0) 52 dX11_isLess_51 (by decide) rfl ?_
            exact zr_int hZ dX11_isLess_52 rfl (by decide) ⟨by first | exact le_y ((zl_3 (P := ro (wR m) a) (Q := ro (wR m) b) zz0 zz1 zz2).mpr (z_nle64.mp zzL)) | exact le_n (fun q => z_nle64.mpr ((zl_3 (P := ro (wR m) a) (Q := ro (wR m) b) zz0 zz1 zz2).mp q) zzL), rfl⟩
          ·
            refine zi_iconst (v := 1) 48 dX11_isLess_47 (by decide) rfl ?_
            refine zi_goto 52 dX11_isLess_48 (by decide) ?_
            exact zr_int hZ dX11_isLess_52 rfl (by decide) ⟨by first | exact le_y ((zl_3 (P := ro (wR m) a) (Q := ro (wR m) b) zz0 zz1 zz2).mpr (z_nle64.mp zzL)) | exact le_n (fun q => z_nle64.mpr ((zl_3 (P := ro (wR m) a) (Q := ro (wR m) b) zz0 zz1 zz2).mp q) zzL), rfl⟩
      ·
        refine zi_aload_n 28 dX11_isLess_27 rfl rfl ?_
        refine zi_getfield 31 9 dX11_isLess_28 zcl_X11 tw_872 rfl rfl N0.1.1 rfl rfl ?_
        refine zi_iload_n 32 dX11_isLess_31 rfl rfl ?_
        refine zi_iload_n 33 dX11_isLess_32 rfl rfl ?_
        refine zi_iadd 34 dX11_isLess_33 rfl ?_
        rw [show (nI a : Int32) + 2 = nI (a + 2) from nI_ad a 2]
        refine zi_laload 35 dX11_isLess_34 N0.1.2.2.2.2.2.2.2.2.1 (vp_in_nI (show (a + 2) < 80 by omega) (by decide)) rfl ?_
        rw [nI_clamp (Nat.lt_trans (show (a + 2) < 80 by omega) (by decide))]
        refine zi_aload_n 36 dX11_isLess_35 rfl rfl ?_
        refine zi_getfield 39 9 dX11_isLess_36 zcl_X11 tw_872 rfl rfl N0.1.1 rfl rfl ?_
        refine zi_iload_n 40 dX11_isLess_39 rfl rfl ?_
        refine zi_iload_n 41 dX11_isLess_40 rfl rfl ?_
        refine zi_iadd 42 dX11_isLess_41 rfl ?_
        rw [show (nI b : Int32) + 2 = nI (b + 2) from nI_ad b 2]
        refine zi_laload 43 dX11_isLess_42 N0.1.2.2.2.2.2.2.2.2.1 (vp_in_nI (show (b + 2) < 80 by omega) (by decide)) rfl ?_
        rw [nI_clamp (Nat.lt_trans (show (b + 2) < 80 by omega) (by decide))]
        refine zj_ge 47 51 dX11_isLess_43 rfl dX11_isLess_44 (by decide) rfl (fun zzL => ?_) (fun zzL => ?_)
        ·
          refine zi_iconst (v := 0) 52 dX11_isLess_51 (by decide) rfl ?_
          exact zr_int hZ dX11_isLess_52 rfl (by decide) ⟨by first | exact le_y ((zl_2 (P := ro (wR m) a) (Q := ro (wR m) b) zz0 zz1 zz2).mpr (z_nle64.mp zzL)) | exact le_n (fun q => z_nle64.mpr ((zl_2 (P := ro (wR m) a) (Q := ro (wR m) b) zz0 zz1 zz2).mp q) zzL), rfl⟩
        ·
          refine zi_iconst (v := 1) 48 dX11_isLess_47 (by decide) rfl ?_
          refine zi_goto 52 dX11_isLess_48 (by decide) ?_
          exact zr_int hZ dX11_isLess_52 rfl (by decide) ⟨by first | exact le_y ((zl_2 (P := ro (wR m) a) (Q := ro (wR m) b) zz0 zz1 zz2).mpr (z_nle64.mp zzL)) | exact le_n (fun q => z_nle64.mpr ((zl_2 (P := ro (wR m) a) (Q := ro (wR m) b) zz0 zz1 zz2).mp q) zzL), rfl⟩
    ·
      refine zi_aload_n 28 dX11_isLess_27 rfl rfl ?_
      refine zi_getfield 31 9 dX11_isLess_28 zcl_X11 tw_872 rfl rfl N0.1.1 rfl rfl ?_
      refine zi_iload_n 32 dX11_isLess_31 rfl rfl ?_
      refine zi_iload_n 33 dX11_isLess_32 rfl rfl ?_
      refine zi_iadd 34 dX11_isLess_33 rfl ?_
      rw [show (nI a : Int32) + 1 = nI (a + 1) from nI_ad a 1]
      refine zi_laload 35 dX11_isLess_34 N0.1.2.2.2.2.2.2.2.2.1 (vp_in_nI (show (a + 1) < 80 by omega) (by decide)) rfl ?_
      rw [nI_clamp (Nat.lt_trans (show (a + 1) < 80 by omega) (by decide))]
      refine zi_aload_n 36 dX11_isLess_35 rfl rfl ?_
      refine zi_getfield 39 9 dX11_isLess_36 zcl_X11 tw_872 rfl rfl N0.1.1 rfl rfl ?_
      refine zi_iload_n 40 dX11_isLess_39 rfl rfl ?_
      refine zi_iload_n 41 dX11_isLess_40 rfl rfl ?_
      refine zi_iadd 42 dX11_isLess_41 rfl ?_
      rw [show (nI b : Int32) + 1 = nI (b + 1) from nI_ad b 1]
      refine zi_laload 43 dX11_isLess_42 N0.1.2.2.2.2.2.2.2.2.1 (vp_in_nI (show (b + 1) < 80 by omega) (by decide)) rfl ?_
      rw [nI_clamp (Nat.lt_trans (show (b + 1) < 80 by omega) (by decide))]
      refine zj_ge 47 51 dX11_isLess_43 rfl dX11_isLess_44 (by decide) rfl (fun zzL => ?_) (fun zzL => ?_)
      ·
        refine zi_iconst (v := 0) 52 dX11_isLess_51 (by decide) rfl ?_
        exact zr_int hZ dX11_isLess_52 rfl (by decide) ⟨by first | exact le_y ((zl_1 (P := ro (wR m) a) (Q := ro (wR m) b) zz0 zz1).mpr (z_nle64.mp zzL)) | exact le_n (fun q => z_nle64.mpr ((zl_1 (P := ro (wR m) a) (Q := ro (wR m) b) zz0 zz1).mp q) zzL), rfl⟩
      ·
        refine zi_iconst (v := 1) 48 dX11_isLess_47 (by decide) rfl ?_
        refine zi_goto 52 dX11_isLess_48 (by decide) ?_
        exact zr_int hZ dX11_isLess_52 rfl (by decide) ⟨by first | exact le_y ((zl_1 (P := ro (wR m) a) (Q := ro (wR m) b) zz0 zz1).mpr (z_nle64.mp zzL)) | exact le_n (fun q => z_nle64.mpr ((zl_1 (P := ro (wR m) a) (Q := ro (wR m) b) zz0 zz1).mp q) zzL), rfl⟩
  ·
    refine zi_aload_n 28 dX11_isLess_27 rfl rfl ?_
    refine zi_getfield 31 9 dX11_isLess_28 zcl_X11 tw_872 rfl rfl N0.1.1 rfl rfl ?_
    refine zi_iload_n 32 dX11_isLess_31 rfl rfl ?_
    refine zi_iload_n 33 dX11_isLess_32 rfl rfl ?_
    refine zi_iadd 34 dX11_isLess_33 rfl ?_
    rw [show nI a + 0 = nI a from Int32.add_zero _]
    refine zi_laload 35 dX11_isLess_34 N0.1.2.2.2.2.2.2.2.2.1 (vp_in_nI (show a < 80 by omega) (by decide)) rfl ?_
    rw [nI_clamp (Nat.lt_trans (show a < 80 by omega) (by decide))]
    refine zi_aload_n 36 dX11_isLess_35 rfl rfl ?_
    refine zi_getfield 39 9 dX11_isLess_36 zcl_X11 tw_872 rfl rfl N0.1.1 rfl rfl ?_
    refine zi_iload_n 40 dX11_isLess_39 rfl rfl ?_
    refine zi_iload_n 41 dX11_isLess_40 rfl rfl ?_
    refine zi_iadd 42 dX11_isLess_41 rfl ?_
    rw [show nI b + 0 = nI b from Int32.add_zero _]
    refine zi_laload 43 dX11_isLess_42 N0.1.2.2.2.2.2.2.2.2.1 (vp_in_nI (show b < 80 by omega) (by decide)) rfl ?_
    rw [nI_clamp (Nat.lt_trans (show b < 80 by omega) (by decide))]
    refine zj_ge 47 51 dX11_isLess_43 rfl dX11_isLess_44 (by decide) rfl (fun zzL => ?_) (fun zzL => ?_)
    ·
      refine zi_iconst (v := 0) 52 dX11_isLess_51 (by decide) rfl ?_
      exact zr_int hZ dX11_isLess_52 rfl (by decide) ⟨by first | exact le_y ((zl_0 (P := ro (wR m) a) (Q := ro (wR m) b) zz0).mpr (z_nle64.mp zzL)) | exact le_n (fun q => z_nle64.mpr ((zl_0 (P := ro (wR m) a) (Q := ro (wR m) b) zz0).mp q) zzL), rfl⟩
    ·
      refine zi_iconst (v := 1) 48 dX11_isLess_47 (by decide) rfl ?_
      refine zi_goto 52 dX11_isLess_48 (by decide) ?_
      exact zr_int hZ dX11_isLess_52 rfl (by decide) ⟨by first | exact le_y ((zl_0 (P := ro (wR m) a) (Q := ro (wR m) b) zz0).mpr (z_nle64.mp zzL)) | exact le_n (fun q => z_nle64.mpr ((zl_0 (P := ro (wR m) a) (Q := ro (wR m) b) zz0).mp q) zzL), rfl⟩

set_option maxHeartbeats 4000000 in
set_option maxRecDepth 100000 in
theorem s_X11_unit (B : zBB) (h : zHp) (D : Nat → Nat) (hD : zInj D) (m : mS) (M : rM B D m h) (k : Nat) (hk : k < 24) : zSpec mX11_unit B (1, 0, 0) [.ref (D 0), .int 24, .int (nI k)] h (zPv (fun h' => ∃ R' : Nat → Int64, rN B D (uR m R') h h' ∧ ro R' 24 = urZ k ∧ ∀ i, (i < 24 ∨ 28 ≤ i) → R' i = wR m i)) := by
  refine zSpec.of (by decide) (Nat.le_of_ble_eq_true rfl) (fun X hZ => ?_)
  show zG X mX11_unit B (1, 0, 0) (0, 0) 0 [(0, .ref (D 0)), (1, .int 24), (2, .int (nI k))] [] h
  have N0 := rN_r M
  refine zi_iload_n 1 dX11_unit_0 rfl rfl ?_
  refine zi_bipush (v := 8) 3 dX11_unit_1 (by decide) rfl ?_
  refine zi_icmp_ge 6 43 dX11_unit_3 (by decide) rfl (fun zzA => ?_) (fun zzA => ?_)
  ·
    rw [show (8 : Int32) = nI 8 from rfl, nI_leI (by decide) (by omega)] at zzA
    obtain ⟨a1, a2, a3, a4⟩ := and_b (k - 8) (by omega)
    refine zi_iload_n 44 dX11_unit_43 rfl rfl ?_
    refine zi_bipush (v := 8) 46 dX11_unit_44 (by decide) rfl ?_
    refine zi_isub 47 dX11_unit_46 rfl ?_
    rw [show (nI k : Int32) - 8 = nI (k - 8) from nI_sb (by omega)]
    refine zi_istore_n (lv' := [(3, _), (0, _), (1, _), (2, _)]) 48 dX11_unit_47 rfl rfl rfl ?_
    refine zi_aload_n 49 dX11_unit_48 rfl rfl ?_
    refine zi_iload_n 50 dX11_unit_49 rfl rfl ?_
    refine zi_iload_n 51 dX11_unit_50 rfl rfl ?_
    refine zi_iconst (v := 1) 52 dX11_unit_51 (by decide) rfl ?_
    refine zi_iand 53 dX11_unit_52 rfl ?_
    refine zi_if_ne 56 60 dX11_unit_53 (by decide) rfl (fun zz1 => ?_) (fun zz1 => ?_)
    ·
      rw [a1] at zz1
      refine zi_ldc2 63 dX11_unit_60 tw_1092 rfl ?_
      refine zi_iload_n 64 dX11_unit_63 rfl rfl ?_
      refine zi_iconst (v := 2) 65 dX11_unit_64 (by decide) rfl ?_
      refine zi_iand 66 dX11_unit_65 rfl ?_
      refine zi_if_ne 69 73 dX11_unit_66 (by decide) rfl (fun zz2 => ?_) (fun zz2 => ?_)
      ·
        rw [a2] at zz2
        refine zi_ldc2 76 dX11_unit_73 tw_1092 rfl ?_
        refine zi_iload_n 77 dX11_unit_76 rfl rfl ?_
        refine zi_iconst (v := 4) 78 dX11_unit_77 (by decide) rfl ?_
        refine zi_iand 79 dX11_unit_78 rfl ?_
        refine zi_if_ne 82 86 dX11_unit_79 (by decide) rfl (fun zz4 => ?_) (fun zz4 => ?_)
        ·
          rw [a3] at zz4
          refine zi_ldc2 89 dX11_unit_86 tw_1092 rfl ?_
          refine zi_iload_n 90 dX11_unit_89 rfl rfl ?_
          refine zi_bipush (v := 8) 92 dX11_unit_90 (by decide) rfl ?_
          refine zi_iand 93 dX11_unit_92 rfl ?_
          refine zi_if_ne 96 100 dX11_unit_93 (by decide) rfl (fun zz8 => ?_) (fun zz8 => ?_)
          ·
            rw [a4] at zz8
            refine zi_ldc2 103 dX11_unit_100 tw_1092 rfl ?_
            refine zc_virtual (n' := (0, 0)) (md' := mX11_put) 106 dX11_unit_103 tw_944 zv_X11_put zcl_X11 (s_X11_put B h D hD _ N0.1 24 (by decide) (_, _, _, _)) N0.1.1 rfl rfl rfl rfl rfl rfl rfl rfl (zk_v fun h1 n1 => ?_)
            have N1 := rN_t N0 n1
            exact zr_void hZ dX11_unit_106 rfl ⟨rfl, _, N1, by first | (rw [un_24 (by omega)]; (first | rw [if_pos zz1] | rw [if_neg zz1]); (first | rw [if_pos zz2] | rw [if_neg zz2]); (first | rw [if_pos zz4] | rw [if_neg zz4]); (first | rw [if_pos zz8] | rw [if_neg zz8]); rfl) | (rw [un_8 (by omega), if_pos zzP]; exact un_r _ (by omega) _) | (rw [un_8 (by omega), if_neg zzP]; exact un_r _ (by omega) _), fun i hi => by first | exact un_o _ _ (by omega) _ hi | exact p4_o _ hi⟩
          ·
            rw [a4] at zz8
            refine zi_lconst (v := 1) 97 dX11_unit_96 (by decide) rfl ?_
            refine zi_goto 103 dX11_unit_97 (by decide) ?_
            refine zc_virtual (n' := (0, 0)) (md' := mX11_put) 106 dX11_unit_103 tw_944 zv_X11_put zcl_X11 (s_X11_put B h D hD _ N0.1 24 (by decide) (_, _, _, _)) N0.1.1 rfl rfl rfl rfl rfl rfl rfl rfl (zk_v fun h2 n2 => ?_)
            have N2 := rN_t N0 n2
            exact zr_void hZ dX11_unit_106 rfl ⟨rfl, _, N2, by first | (rw [un_24 (by omega)]; (first | rw [if_pos zz1] | rw [if_neg zz1]); (first | rw [if_pos zz2] | rw [if_neg zz2]); (first | rw [if_pos zz4] | rw [if_neg zz4]); (first | rw [if_pos zz8] | rw [if_neg zz8]); rfl) | (rw [un_8 (by omega), if_pos zzP]; exact un_r _ (by omega) _) | (rw [un_8 (by omega), if_neg zzP]; exact un_r _ (by omega) _), fun i hi => by first | exact un_o _ _ (by omega) _ hi | exact p4_o _ hi⟩
        ·
          rw [a3] at zz4
          refine zi_lconst (v := 1) 83 dX11_unit_82 (by decide) rfl ?_
          refine zi_goto 89 dX11_unit_83 (by decide) ?_
          refine zi_iload_n 90 dX11_unit_89 rfl rfl ?_
          refine zi_bipush (v := 8) 92 dX11_unit_90 (by decide) rfl ?_
          refine zi_iand 93 dX11_unit_92 rfl ?_
          refine zi_if_ne 96 100 dX11_unit_93 (by decide) rfl (fun zz8 => ?_) (fun zz8 => ?_)
          ·
            rw [a4] at zz8
            refine zi_ldc2 103 dX11_unit_100 tw_1092 rfl ?_
            refine zc_virtual (n' := (0, 0)) (md' := mX11_put) 106 dX11_unit_103 tw_944 zv_X11_put zcl_X11 (s_X11_put B h D hD _ N0.1 24 (by decide) (_, _, _, _)) N0.1.1 rfl rfl rfl rfl rfl rfl rfl rfl (zk_v fun h3 n3 => ?_)
            have N3 := rN_t N0 n3
            exact zr_void hZ dX11_unit_106 rfl ⟨rfl, _, N3, by first | (rw [un_24 (by omega)]; (first | rw [if_pos zz1] | rw [if_neg zz1]); (first | rw [if_pos zz2] | rw [if_neg zz2]); (first | rw [if_pos zz4] | rw [if_neg zz4]); (first | rw [if_pos zz8] | rw [if_neg zz8]); rfl) | (rw [un_8 (by omega), if_pos zzP]; exact un_r _ (by omega) _) | (rw [un_8 (by omega), if_neg zzP]; exact un_r _ (by omega) _), fun i hi => by first | exact un_o _ _ (by omega) _ hi | exact p4_o _ hi⟩
          ·
            rw [a4] at zz8
            refine zi_lconst (v := 1) 97 dX11_unit_96 (by decide) rfl ?_
            refine zi_goto 103 dX11_unit_97 (by decide) ?_
            refine zc_virtual (n' := (0, 0)) (md' := mX11_put) 106 dX11_unit_103 tw_944 zv_X11_put zcl_X11 (s_X11_put B h D hD _ N0.1 24 (by decide) (_, _, _, _)) N0.1.1 rfl rfl rfl rfl rfl rfl rfl rfl (zk_v fun h4 n4 => ?_)
            have N4 := rN_t N0 n4
            exact zr_void hZ dX11_unit_106 rfl ⟨rfl, _, N4, by first | (rw [un_24 (by omega)]; (first | rw [if_pos zz1] | rw [if_neg zz1]); (first | rw [if_pos zz2] | rw [if_neg zz2]); (first | rw [if_pos zz4] | rw [if_neg zz4]); (first | rw [if_pos zz8] | rw [if_neg zz8]); rfl) | (rw [un_8 (by omega), if_pos zzP]; exact un_r _ (by omega) _) | (rw [un_8 (by omega), if_neg zzP]; exact un_r _ (by omega) _), fun i hi => by first | exact un_o _ _ (by omega) _ hi | exact p4_o _ hi⟩
      ·
        rw [a2] at zz2
        refine zi_lconst (v := 1) 70 dX11_unit_69 (by decide) rfl ?_
        refine zi_goto 76 dX11_unit_70 (by decide) ?_
        refine zi_iload_n 77 dX11_unit_76 rfl rfl ?_
        refine zi_iconst (v := 4) 78 dX11_unit_77 (by decide) rfl ?_
        refine zi_iand 79 dX11_unit_78 rfl ?_
        refine zi_if_ne 82 86 dX11_unit_79 (by decide) rfl (fun zz4 => ?_) (fun zz4 => ?_)
        ·
          rw [a3] at zz4
          refine zi_ldc2 89 dX11_unit_86 tw_1092 rfl ?_
          refine zi_iload_n 90 dX11_unit_89 rfl rfl ?_
          refine zi_bipush (v := 8) 92 dX11_unit_90 (by decide) rfl ?_
          refine zi_iand 93 dX11_unit_92 rfl ?_
          refine zi_if_ne 96 100 dX11_unit_93 (by decide) rfl (fun zz8 => ?_) (fun zz8 => ?_)
          ·
            rw [a4] at zz8
            refine zi_ldc2 103 dX11_unit_100 tw_1092 rfl ?_
            refine zc_virtual (n' := (0, 0)) (md' := mX11_put) 106 dX11_unit_103 tw_944 zv_X11_put zcl_X11 (s_X11_put B h D hD _ N0.1 24 (by decide) (_, _, _, _)) N0.1.1 rfl rfl rfl rfl rfl rfl rfl rfl (zk_v fun h5 n5 => ?_)
            have N5 := rN_t N0 n5
            exact zr_void hZ dX11_unit_106 rfl ⟨rfl, _, N5, by first | (rw [un_24 (by omega)]; (first | rw [if_pos zz1] | rw [if_neg zz1]); (first | rw [if_pos zz2] | rw [if_neg zz2]); (first | rw [if_pos zz4] | rw [if_neg zz4]); (first | rw [if_pos zz8] | rw [if_neg zz8]); rfl) | (rw [un_8 (by omega), if_pos zzP]; exact un_r _ (by omega) _) | (rw [un_8 (by omega), if_neg zzP]; exact un_r _ (by omega) _), fun i hi => by first | exact un_o _ _ (by omega) _ hi | exact p4_o _ hi⟩
          ·
            rw [a4] at zz8
            refine zi_lconst (v := 1) 97 dX11_unit_96 (by decide) rfl ?_
            refine zi_goto 103 dX11_unit_97 (by decide) ?_
            refine zc_virtual (n' := (0, 0)) (md' := mX11_put) 106 dX11_unit_103 tw_944 zv_X11_put zcl_X11 (s_X11_put B h D hD _ N0.1 24 (by decide) (_, _, _, _)) N0.1.1 rfl rfl rfl rfl rfl rfl rfl rfl (zk_v fun h6 n6 => ?_)
            have N6 := rN_t N0 n6
            exact zr_void hZ dX11_unit_106 rfl ⟨rfl, _, N6, by first | (rw [un_24 (by omega)]; (first | rw [if_pos zz1] | rw [if_neg zz1]); (first | rw [if_pos zz2] | rw [if_neg zz2]); (first | rw [if_pos zz4] | rw [if_neg zz4]); (first | rw [if_pos zz8] | rw [if_neg zz8]); rfl) | (rw [un_8 (by omega), if_pos zzP]; exact un_r _ (by omega) _) | (rw [un_8 (by omega), if_neg zzP]; exact un_r _ (by omega) _), fun i hi => by first | exact un_o _ _ (by omega) _ hi | exact p4_o _ hi⟩
        ·
          rw [a3] at zz4
          refine zi_lconst (v := 1) 83 dX11_unit_82 (by decide) rfl ?_
          refine zi_goto 89 dX11_unit_83 (by decide) ?_
          refine zi_iload_n 90 dX11_unit_89 rfl rfl ?_
          refine zi_bipush (v := 8) 92 dX11_unit_90 (by decide) rfl ?_
          refine zi_iand 93 dX11_unit_92 rfl ?_
          refine zi_if_ne 96 100 dX11_unit_93 (by decide) rfl (fun zz8 => ?_) (fun zz8 => ?_)
          ·
            rw [a4] at zz8
            refine zi_ldc2 103 dX11_unit_100 tw_1092 rfl ?_
            refine zc_virtual (n' := (0, 0)) (md' := mX11_put) 106 dX11_unit_103 tw_944 zv_X11_put zcl_X11 (s_X11_put B h D hD _ N0.1 24 (by decide) (_, _, _, _)) N0.1.1 rfl rfl rfl rfl rfl rfl rfl rfl (zk_v fun h7 n7 => ?_)
            have N7 := rN_t N0 n7
            exact zr_void hZ dX11_unit_106 rfl ⟨rfl, _, N7, by first | (rw [un_24 (by omega)]; (first | rw [if_pos zz1] | rw [if_neg zz1]); (first | rw [if_pos zz2] | rw [if_neg zz2]); (first | rw [if_pos zz4] | rw [if_neg zz4]); (first | rw [if_pos zz8] | rw [if_neg zz8]); rfl) | (rw [un_8 (by omega), if_pos zzP]; exact un_r _ (by omega) _) | (rw [un_8 (by omega), if_neg zzP]; exact un_r _ (by omega) _), fun i hi => by first | exact un_o _ _ (by omega) _ hi | exact p4_o _ hi⟩
          ·
            rw [a4] at zz8
            refine zi_lconst (v := 1) 97 dX11_unit_96 (by decide) rfl ?_
            refine zi_goto 103 dX11_unit_97 (by decide) ?_
            refine zc_virtual (n' := (0, 0)) (md' := mX11_put) 106 dX11_unit_103 tw_944 zv_X11_put zcl_X11 (s_X11_put B h D hD _ N0.1 24 (by decide) (_, _, _, _)) N0.1.1 rfl rfl rfl rfl rfl rfl rfl rfl (zk_v fun h8 n8 => ?_)
            have N8 := rN_t N0 n8
            exact zr_void hZ dX11_unit_106 rfl ⟨rfl, _, N8, by first | (rw [un_24 (by omega)]; (first | rw [if_pos zz1] | rw [if_neg zz1]); (first | rw [if_pos zz2] | rw [if_neg zz2]); (first | rw [if_pos zz4] | rw [if_neg zz4]); (first | rw [if_pos zz8] | rw [if_neg zz8]); rfl) | (rw [un_8 (by omega), if_pos zzP]; exact un_r _ (by omega) _) | (rw [un_8 (by omega), if_neg zzP]; exact un_r _ (by omega) _), fun i hi => by first | exact un_o _ _ (by omega) _ hi | exact p4_o _ hi⟩
    ·
      rw [a1] at zz1
      refine zi_lconst (v := 1) 57 dX11_unit_56 (by decide) rfl ?_
      refine zi_goto 63 dX11_unit_57 (by decide) ?_
      refine zi_iload_n 64 dX11_unit_63 rfl rfl ?_
      refine zi_iconst (v := 2) 65 dX11_unit_64 (by decide) rfl ?_
      refine zi_iand 66 dX11_unit_65 rfl ?_
      refine zi_if_ne 69 73 dX11_unit_66 (by decide) rfl (fun zz2 => ?_) (fun zz2 => ?_)
      ·
        rw [a2] at zz2
        refine zi_ldc2 76 dX11_unit_73 tw_1092 rfl ?_
        refine zi_iload_n 77 dX11_unit_76 rfl rfl ?_
        refine zi_iconst (v := 4) 78 dX11_unit_77 (by decide) rfl ?_
        refine zi_iand 79 dX11_unit_78 rfl ?_
        refine zi_if_ne 82 86 dX11_unit_79 (by decide) rfl (fun zz4 => ?_) (fun zz4 => ?_)
        ·
          rw [a3] at zz4
          refine zi_ldc2 89 dX11_unit_86 tw_1092 rfl ?_
          refine zi_iload_n 90 dX11_unit_89 rfl rfl ?_
          refine zi_bipush (v := 8) 92 dX11_unit_90 (by decide) rfl ?_
          refine zi_iand 93 dX11_unit_92 rfl ?_
          refine zi_if_ne 96 100 dX11_unit_93 (by decide) rfl (fun zz8 => ?_) (fun zz8 => ?_)
          ·
            rw [a4] at zz8
            refine zi_ldc2 103 dX11_unit_100 tw_1092 rfl ?_
            refine zc_virtual (n' := (0, 0)) (md' := mX11_put) 106 dX11_unit_103 tw_944 zv_X11_put zcl_X11 (s_X11_put B h D hD _ N0.1 24 (by decide) (_, _, _, _)) N0.1.1 rfl rfl rfl rfl rfl rfl rfl rfl (zk_v fun h9 n9 => ?_)
            have N9 := rN_t N0 n9
            exact zr_void hZ dX11_unit_106 rfl ⟨rfl, _, N9, by first | (rw [un_24 (by omega)]; (first | rw [if_pos zz1] | rw [if_neg zz1]); (first | rw [if_pos zz2] | rw [if_neg zz2]); (first | rw [if_pos zz4] | rw [if_neg zz4]); (first | rw [if_pos zz8] | rw [if_neg zz8]); rfl) | (rw [un_8 (by omega), if_pos zzP]; exact un_r _ (by omega) _) | (rw [un_8 (by omega), if_neg zzP]; exact un_r _ (by omega) _), fun i hi => by first | exact un_o _ _ (by omega) _ hi | exact p4_o _ hi⟩
          ·
            rw [a4] at zz8
            refine zi_lconst (v := 1) 97 dX11_unit_96 (by decide) rfl ?_
            refine zi_goto 103 dX11_unit_97 (by decide) ?_
            refine zc_virtual (n' := (0, 0)) (md' := mX11_put) 106 dX11_unit_103 tw_944 zv_X11_put zcl_X11 (s_X11_put B h D hD _ N0.1 24 (by decide) (_, _, _, _)) N0.1.1 rfl rfl rfl rfl rfl rfl rfl rfl (zk_v fun h10 n10 => ?_)
            have N10 := rN_t N0 n10
            exact zr_void hZ dX11_unit_106 rfl ⟨rfl, _, N10, by first | (rw [un_24 (by omega)]; (first | rw [if_pos zz1] | rw [if_neg zz1]); (first | rw [if_pos zz2] | rw [if_neg zz2]); (first | rw [if_pos zz4] | rw [if_neg zz4]); (first | rw [if_pos zz8] | rw [if_neg zz8]); rfl) | (rw [un_8 (by omega), if_pos zzP]; exact un_r _ (by omega) _) | (rw [un_8 (by omega), if_neg zzP]; exact un_r _ (by omega) _), fun i hi => by first | exact un_o _ _ (by omega) _ hi | exact p4_o _ hi⟩
        ·
          rw [a3] at zz4
          refine zi_lconst (v := 1) 83 dX11_unit_82 (by decide) rfl ?_
          refine zi_goto 89 dX11_unit_83 (by decide) ?_
          refine zi_iload_n 90 dX11_unit_89 rfl rfl ?_
          refine zi_bipush (v := 8) 92 dX11_unit_90 (by decide) rfl ?_
          refine zi_iand 93 dX11_unit_92 rfl ?_
          refine zi_if_ne 96 100 dX11_unit_93 (by decide) rfl (fun zz8 => ?_) (fun zz8 => ?_)
          ·
            rw [a4] at zz8
            refine zi_ldc2 103 dX11_unit_100 tw_1092 rfl ?_
            refine zc_virtual (n' := (0, 0)) (md' := mX11_put) 106 dX11_unit_103 tw_944 zv_X11_put zcl_X11 (s_X11_put B h D hD _ N0.1 24 (by decide) (_, _, _, _)) N0.1.1 rfl rfl rfl rfl rfl rfl rfl rfl (zk_v fun h11 n11 => ?_)
            have N11 := rN_t N0 n11
            exact zr_void hZ dX11_unit_106 rfl ⟨rfl, _, N11, by first | (rw [un_24 (by omega)]; (first | rw [if_pos zz1] | rw [if_neg zz1]); (first | rw [if_pos zz2] | rw [if_neg zz2]); (first | rw [if_pos zz4] | rw [if_neg zz4]); (first | rw [if_pos zz8] | rw [if_neg zz8]); rfl) | (rw [un_8 (by omega), if_pos zzP]; exact un_r _ (by omega) _) | (rw [un_8 (by omega), if_neg zzP]; exact un_r _ (by omega) _), fun i hi => by first | exact un_o _ _ (by omega) _ hi | exact p4_o _ hi⟩
          ·
            rw [a4] at zz8
            refine zi_lconst (v := 1) 97 dX11_unit_96 (by decide) rfl ?_
            refine zi_goto 103 dX11_unit_97 (by decide) ?_
            refine zc_virtual (n' := (0, 0)) (md' := mX11_put) 106 dX11_unit_103 tw_944 zv_X11_put zcl_X11 (s_X11_put B h D hD _ N0.1 24 (by decide) (_, _, _, _)) N0.1.1 rfl rfl rfl rfl rfl rfl rfl rfl (zk_v fun h12 n12 => ?_)
            have N12 := rN_t N0 n12
            exact zr_void hZ dX11_unit_106 rfl ⟨rfl, _, N12, by first | (rw [un_24 (by omega)]; (first | rw [if_pos zz1] | rw [if_neg zz1]); (first | rw [if_pos zz2] | rw [if_neg zz2]); (first | rw [if_pos zz4] | rw [if_neg zz4]); (first | rw [if_pos zz8] | rw [if_neg zz8]); rfl) | (rw [un_8 (by omega), if_pos zzP]; exact un_r _ (by omega) _) | (rw [un_8 (by omega), if_neg zzP]; exact un_r _ (by omega) _), fun i hi => by first | exact un_o _ _ (by omega) _ hi | exact p4_o _ hi⟩
      ·
        rw [a2] at zz2
        refine zi_lconst (v := 1) 70 dX11_unit_69 (by decide) rfl ?_
        refine zi_goto 76 dX11_unit_70 (by decide) ?_
        refine zi_iload_n 77 dX11_unit_76 rfl rfl ?_
        refine zi_iconst (v := 4) 78 dX11_unit_77 (by decide) rfl ?_
        refine zi_iand 79 dX11_unit_78 rfl ?_
        refine zi_if_ne 82 86 dX11_unit_79 (by decide) rfl (fun zz4 => ?_) (fun zz4 => ?_)
        ·
          rw [a3] at zz4
          refine zi_ldc2 89 dX11_unit_86 tw_1092 rfl ?_
          refine zi_iload_n 90 dX11_unit_89 rfl rfl ?_
          refine zi_bipush (v := 8) 92 dX11_unit_90 (by decide) rfl ?_
          refine zi_iand 93 dX11_unit_92 rfl ?_
          refine zi_if_ne 96 100 dX11_unit_93 (by decide) rfl (fun zz8 => ?_) (fun zz8 => ?_)
          ·
            rw [a4] at zz8
            refine zi_ldc2 103 dX11_unit_100 tw_1092 rfl ?_
            refine zc_virtual (n' := (0, 0)) (md' := mX11_put) 106 dX11_unit_103 tw_944 zv_X11_put zcl_X11 (s_X11_put B h D hD _ N0.1 24 (by decide) (_, _, _, _)) N0.1.1 rfl rfl rfl rfl rfl rfl rfl rfl (zk_v fun h13 n13 => ?_)
            have N13 := rN_t N0 n13
            exact zr_void hZ dX11_unit_106 rfl ⟨rfl, _, N13, by first | (rw [un_24 (by omega)]; (first | rw [if_pos zz1] | rw [if_neg zz1]); (first | rw [if_pos zz2] | rw [if_neg zz2]); (first | rw [if_pos zz4] | rw [if_neg zz4]); (first | rw [if_pos zz8] | rw [if_neg zz8]); rfl) | (rw [un_8 (by omega), if_pos zzP]; exact un_r _ (by omega) _) | (rw [un_8 (by omega), if_neg zzP]; exact un_r _ (by omega) _), fun i hi => by first | exact un_o _ _ (by omega) _ hi | exact p4_o _ hi⟩
          ·
            rw [a4] at zz8
            refine zi_lconst (v := 1) 97 dX11_unit_96 (by decide) rfl ?_
            refine zi_goto 103 dX11_unit_97 (by decide) ?_
            refine zc_virtual (n' := (0, 0)) (md' := mX11_put) 106 dX11_unit_103 tw_944 zv_X11_put zcl_X11 (s_X11_put B h D hD _ N0.1 24 (by decide) (_, _, _, _)) N0.1.1 rfl rfl rfl rfl rfl rfl rfl rfl (zk_v fun h14 n14 => ?_)
            have N14 := rN_t N0 n14
            exact zr_void hZ dX11_unit_106 rfl ⟨rfl, _, N14, by first | (rw [un_24 (by omega)]; (first | rw [if_pos zz1] | rw [if_neg zz1]); (first | rw [if_pos zz2] | rw [if_neg zz2]); (first | rw [if_pos zz4] | rw [if_neg zz4]); (first | rw [if_pos zz8] | rw [if_neg zz8]); rfl) | (rw [un_8 (by omega), if_pos zzP]; exact un_r _ (by omega) _) | (rw [un_8 (by omega), if_neg zzP]; exact un_r _ (by omega) _), fun i hi => by first | exact un_o _ _ (by omega) _ hi | exact p4_o _ hi⟩
        ·
          rw [a3] at zz4
          refine zi_lconst (v := 1) 83 dX11_unit_82 (by decide) rfl ?_
          refine zi_goto 89 dX11_unit_83 (by decide) ?_
          refine zi_iload_n 90 dX11_unit_89 rfl rfl ?_
          refine zi_bipush (v := 8) 92 dX11_unit_90 (by decide) rfl ?_
          refine zi_iand 93 dX11_unit_92 rfl ?_
          refine zi_if_ne 96 100 dX11_unit_93 (by decide) rfl (fun zz8 => ?_) (fun zz8 => ?_)
          ·
            rw [a4] at zz8
            refine zi_ldc2 103 dX11_unit_100 tw_1092 rfl ?_
            refine zc_virtual (n' := (0, 0)) (md' := mX11_put) 106 dX11_unit_103 tw_944 zv_X11_put zcl_X11 (s_X11_put B h D hD _ N0.1 24 (by decide) (_, _, _, _)) N0.1.1 rfl rfl rfl rfl rfl rfl rfl rfl (zk_v fun h15 n15 => ?_)
            have N15 := rN_t N0 n15
            exact zr_void hZ dX11_unit_106 rfl ⟨rfl, _, N15, by first | (rw [un_24 (by omega)]; (first | rw [if_pos zz1] | rw [if_neg zz1]); (first | rw [if_pos zz2] | rw [if_neg zz2]); (first | rw [if_pos zz4] | rw [if_neg zz4]); (first | rw [if_pos zz8] | rw [if_neg zz8]); rfl) | (rw [un_8 (by omega), if_pos zzP]; exact un_r _ (by omega) _) | (rw [un_8 (by omega), if_neg zzP]; exact un_r _ (by omega) _), fun i hi => by first | exact un_o _ _ (by omega) _ hi | exact p4_o _ hi⟩
          ·
            rw [a4] at zz8
            refine zi_lconst (v := 1) 97 dX11_unit_96 (by decide) rfl ?_
            refine zi_goto 103 dX11_unit_97 (by decide) ?_
            refine zc_virtual (n' := (0, 0)) (md' := mX11_put) 106 dX11_unit_103 tw_944 zv_X11_put zcl_X11 (s_X11_put B h D hD _ N0.1 24 (by decide) (_, _, _, _)) N0.1.1 rfl rfl rfl rfl rfl rfl rfl rfl (zk_v fun h16 n16 => ?_)
            have N16 := rN_t N0 n16
            exact zr_void hZ dX11_unit_106 rfl ⟨rfl, _, N16, by first | (rw [un_24 (by omega)]; (first | rw [if_pos zz1] | rw [if_neg zz1]); (first | rw [if_pos zz2] | rw [if_neg zz2]); (first | rw [if_pos zz4] | rw [if_neg zz4]); (first | rw [if_pos zz8] | rw [if_neg zz8]); rfl) | (rw [un_8 (by omega), if_pos zzP]; exact un_r _ (by omega) _) | (rw [un_8 (by omega), if_neg zzP]; exact un_r _ (by omega) _), fun i hi => by first | exact un_o _ _ (by omega) _ hi | exact p4_o _ hi⟩
  ·
    rw [show (8 : Int32) = nI 8 from rfl, nI_leI (by decide) (by omega)] at zzA
    refine zi_aload_n 7 dX11_unit_6 rfl rfl ?_
    refine zi_iload_n 8 dX11_unit_7 rfl rfl ?_
    refine zi_lconst (v := 0) 9 dX11_unit_8 (by decide) rfl ?_
    refine zi_lconst (v := 0) 10 dX11_unit_9 (by decide) rfl ?_
    refine zi_lconst (v := 0) 11 dX11_unit_10 (by decide) rfl ?_
    refine zi_lconst (v := 0) 12 dX11_unit_11 (by decide) rfl ?_
    refine zc_virtual (n' := (0, 0)) (md' := mX11_put) 15 dX11_unit_12 tw_944 zv_X11_put zcl_X11 (s_X11_put B h D hD _ N0.1 24 (by decide) (_, _, _, _)) N0.1.1 rfl rfl rfl rfl rfl rfl rfl rfl (zk_v fun h17 n17 => ?_)
    have N17 := rN_t N0 n17
    refine zi_aload_n 16 dX11_unit_15 rfl rfl ?_
    refine zi_getfield 19 9 dX11_unit_16 zcl_X11 tw_872 rfl rfl N17.1.1 rfl rfl ?_
    refine zi_iload_n 20 dX11_unit_19 rfl rfl ?_
    refine zi_iload_n 21 dX11_unit_20 rfl rfl ?_
    refine zi_iconst (v := 2) 22 dX11_unit_21 (by decide) rfl ?_
    refine zi_idiv 23 dX11_unit_22 (by decide) rfl ?_
    rw [show nI k / (2 : Int32) = nI (k / 2) from nI_div (by omega) (by decide)]
    refine zi_iadd 24 dX11_unit_23 rfl ?_
    rw [show (24 : Int32) + nI (k / 2) = nI (24 + (k / 2)) from nI_ad 24 (k / 2)]
    refine zi_iload_n 25 dX11_unit_24 rfl rfl ?_
    refine zi_iconst (v := 2) 26 dX11_unit_25 (by decide) rfl ?_
    refine zi_irem 27 dX11_unit_26 (by decide) rfl ?_
    rw [show nI k - nI k / (2 : Int32) * 2 = nI (k % 2) from nI_rem (by omega) (by decide)]
    refine zi_if_ne 30 36 dX11_unit_27 (by decide) rfl (fun zzP => ?_) (fun zzP => ?_)
    ·
      rw [nI_0e (by omega)] at zzP
      refine zi_ldc2 39 dX11_unit_36 tw_1091 rfl ?_
      refine zi_lastore 40 dX11_unit_39 N17.1.2.2.2.2.2.2.2.2.1 (vp_in_nI (show (24 + (k / 2)) < 80 by omega) (by decide)) rfl ?_
      rw [nI_clamp (Nat.lt_trans (show (24 + (k / 2)) < 80 by omega) (by decide))]
      refine zk_h (fun h18 k18 => ?_)
      have N18 := rN_R hD N17 k18
      refine zi_goto 106 dX11_unit_40 (by decide) ?_
      exact zr_void hZ dX11_unit_106 rfl ⟨rfl, _, N18, by first | (rw [un_24 (by omega)]; (first | rw [if_pos zz1] | rw [if_neg zz1]); (first | rw [if_pos zz2] | rw [if_neg zz2]); (first | rw [if_pos zz4] | rw [if_neg zz4]); (first | rw [if_pos zz8] | rw [if_neg zz8]); rfl) | (rw [un_8 (by omega), if_pos zzP]; exact un_r _ (by omega) _) | (rw [un_8 (by omega), if_neg zzP]; exact un_r _ (by omega) _), fun i hi => by first | exact un_o _ _ (by omega) _ hi | exact p4_o _ hi⟩
    ·
      rw [nI_0e (by omega)] at zzP
      refine zi_ldc2 33 dX11_unit_30 tw_909 rfl ?_
      refine zi_goto 39 dX11_unit_33 (by decide) ?_
      refine zi_lastore 40 dX11_unit_39 N17.1.2.2.2.2.2.2.2.2.1 (vp_in_nI (show (24 + (k / 2)) < 80 by omega) (by decide)) rfl ?_
      rw [nI_clamp (Nat.lt_trans (show (24 + (k / 2)) < 80 by omega) (by decide))]
      refine zk_h (fun h19 k19 => ?_)
      have N19 := rN_R hD N17 k19
      refine zi_goto 106 dX11_unit_40 (by decide) ?_
      exact zr_void hZ dX11_unit_106 rfl ⟨rfl, _, N19, by first | (rw [un_24 (by omega)]; (first | rw [if_pos zz1] | rw [if_neg zz1]); (first | rw [if_pos zz2] | rw [if_neg zz2]); (first | rw [if_pos zz4] | rw [if_neg zz4]); (first | rw [if_pos zz8] | rw [if_neg zz8]); rfl) | (rw [un_8 (by omega), if_pos zzP]; exact un_r _ (by omega) _) | (rw [un_8 (by omega), if_neg zzP]; exact un_r _ (by omega) _), fun i hi => by first | exact un_o _ _ (by omega) _ hi | exact p4_o _ hi⟩

theorem ro_c {f g : Nat → Int64} {a : Nat} (h : ∀ i, (a ≤ i ∧ i < a + 4) → f i = g i) : ro f a = ro g a := by
  unfold ro
  rw [h a (by omega), h (a + 1) (by omega), h (a + 2) (by omega), h (a + 3) (by omega)]

set_option maxHeartbeats 4000000 in
set_option maxRecDepth 100000 in
theorem l_X11_associateP0 (B : zBB) (h : zHp) (X : zX) (D : Nat → Nat) (hD : zInj D) (m : mS) (P : i4) (oP : i4o P) (lP : i4l P 2147483648) (hZ : zIsP X mX11_associateP B (0, 0) (zPv (fun h' => ∃ R' : Nat → Int64, rN B D (uR m R') h h' ∧ ro R' 0 = z4i (asI 0 P) ∧ ∀ i, 28 ≤ i → R' i = wR m i))) : ∀ (n k : Nat) (h1 : zHp) (R : Nat → Int64) (G : i4), 24 - k < n → k ≤ 24 → rN B D (uR m R) h h1 → ro R 0 = z4i P → (k = 0 ∨ (ro R 20 = z4i G ∧ asB 0 P k G)) → (∀ i, 28 ≤ i → R i = wR m i) → zG X mX11_associateP B (2, 0, 0) (0, 0) 2 [(2, .int (nI k)), (0, .ref (D 0)), (1, .int 0)] [] h1 := by
  intro n
  induction n with
  | zero => intro k h1 R G hn; omega
  | succ n ih =>
    intro k h1 R G hn hk N hP1 hI hO
    refine zi_iload_n 3 dX11_associateP_2 rfl rfl ?_
    refine zi_bipush (v := 24) 5 dX11_associateP_3 (by decide) rfl ?_
    refine zi_icmp_ge 8 69 dX11_associateP_5 (by decide) rfl (fun zzE => ?_) (fun zzE => ?_)
    ·
      rw [show (24 : Int32) = nI 24 from rfl, nI_leI (by decide) (by omega)] at zzE
      have ek : k = 24 := by omega
      subst ek
      obtain ⟨hG, hB⟩ := hI.resolve_left (by decide)
      refine zi_aload_n 70 dX11_associateP_69 rfl rfl ?_
      refine zi_iconst (v := 0) 71 dX11_associateP_70 (by decide) rfl ?_
      refine zi_bipush (v := 20) 73 dX11_associateP_71 (by decide) rfl ?_
      refine zc_virtual (n' := (0, 0)) (md' := mX11_copyOf) 76 dX11_associateP_73 tw_1079 zv_X11_copyOf zcl_X11 (s_X11_copyOf B h1 D hD _ N.1 0 20 (by omega) (by omega) (by omega)) N.1.1 rfl rfl rfl rfl rfl rfl rfl rfl (zk_v fun h1 n1 => ?_)
      have N1 := rN_t N n1
      exact zr_void hZ dX11_associateP_76 rfl ⟨rfl, _, N1, by rw [asB_e hB]; exact hG, fun i hi => (p4_o (a := 0) _ (by omega)).trans (hO i hi)⟩
    ·
      rw [show (24 : Int32) = nI 24 from rfl, nI_leI (by decide) (by omega)] at zzE
      refine zi_aload_n 9 dX11_associateP_8 rfl rfl ?_
      refine zi_bipush (v := 24) 11 dX11_associateP_9 (by decide) rfl ?_
      refine zi_iload_n 12 dX11_associateP_11 rfl rfl ?_
      refine zc_virtual (n' := (0, 0)) (md' := mX11_unit) 15 dX11_associateP_12 tw_1087 zv_X11_unit zcl_X11 (s_X11_unit B h1 D hD _ N.1 k (by omega)) N.1.1 rfl rfl rfl rfl rfl rfl rfl rfl (zk_v fun h2 p2 => ?_)
      obtain ⟨R1, n2, u1, uO⟩ := p2
      have N2 := rN_t N n2
      have u2 : ro R1 0 = z4i P := by rw [← hP1]; exact ro_c (fun i hi => uO i (by omega))
      have u3 : ro R1 20 = ro R 20 := ro_c (fun i hi => uO i (by omega))
      have u4 : ∀ i, 28 ≤ i → R1 i = wR m i := fun i hi => (uO i (by omega)).trans (hO i hi)
      refine zi_iload_n 16 dX11_associateP_15 rfl rfl ?_
      refine zi_if_ne 19 31 dX11_associateP_16 (by decide) rfl (fun c_16 => absurd c_16 (by decide)) (fun c_16 => ?_)
      refine zi_aload_n 20 dX11_associateP_19 rfl rfl ?_
      refine zi_bipush (v := 8) 22 dX11_associateP_20 (by decide) rfl ?_
      refine zi_bipush (v := 24) 24 dX11_associateP_22 (by decide) rfl ?_
      refine zi_iconst (v := 0) 25 dX11_associateP_24 (by decide) rfl ?_
      refine zc_virtual (n' := (0, 0)) (md' := mX11_multiply) 28 dX11_associateP_25 tw_1039 zv_X11_multiply zcl_X11 (s_X11_multiply B h2 D hD _ N2.1 8 24 0 (by omega) (by omega) (by omega)) N2.1.1 rfl rfl rfl rfl rfl rfl rfl rfl (zk_v fun h3 n3 => ?_)
      have N3 := rN_t N2 n3
      refine zi_goto 40 dX11_associateP_28 (by decide) ?_
      obtain ⟨R2, N4, fT, fP, fB, fO⟩ : ∃ R2, rN B D (uR m R2) h h3 ∧ ro R2 8 = z4i (prI (urI k) P 0) ∧ ro R2 0 = z4i P ∧ ro R2 20 = ro R 20 ∧ ∀ i, 28 ≤ i → R2 i = wR m i := ⟨_, N3, by show zMul (ro R1 24) (ro R1 0) = _; rw [u1, u2]; exact (ur_p (s := 0) (by omega) oP lP).1, u2, u3, fun i hi => (p4_o (a := 8) _ (by omega)).trans (u4 i hi)⟩
      refine zi_iload_n 41 dX11_associateP_40 rfl rfl ?_
      refine zi_if_eq 44 55 dX11_associateP_41 (by decide) rfl (fun zzK => ?_) (fun zzK => ?_)
      ·
        rw [nI_0e (by omega)] at zzK
        refine zi_aload_n 56 dX11_associateP_55 rfl rfl ?_
        refine zi_bipush (v := 20) 58 dX11_associateP_56 (by decide) rfl ?_
        refine zi_bipush (v := 8) 60 dX11_associateP_58 (by decide) rfl ?_
        refine zc_virtual (n' := (0, 0)) (md' := mX11_copyOf) 63 dX11_associateP_60 tw_1079 zv_X11_copyOf zcl_X11 (s_X11_copyOf B h3 D hD _ N4.1 20 8 (by omega) (by omega) (by omega)) N4.1.1 rfl rfl rfl rfl rfl rfl rfl rfl (zk_v fun h5 n5 => ?_)
        have N5 := rN_t N4 n5
        refine zi_iinc (v := nI (k + 1)) (lv' := [(2, _), (0, _), (1, _)]) 66 dX11_associateP_63 rfl (nI_1 _) rfl rfl rfl ?_
        refine zi_goto 2 dX11_associateP_66 (by decide) ?_
        exact zi_lv [0, 1, 2] rfl (ih (k + 1) h5 _ (prI (urI k) P 0) (by omega) (by omega) N5 fP (Or.inr ⟨fT, by subst zzK; exact asB_0⟩) (fun i hi => (p4_o (a := 20) _ (by omega)).trans (fO i hi)))
      ·
        rw [nI_0e (by omega)] at zzK
        obtain ⟨hG, hB⟩ := hI.resolve_left zzK
        refine zi_aload_n 45 dX11_associateP_44 rfl rfl ?_
        refine zi_bipush (v := 20) 47 dX11_associateP_45 (by decide) rfl ?_
        refine zi_bipush (v := 8) 49 dX11_associateP_47 (by decide) rfl ?_
        refine zc_virtual (n' := (0, 0)) (md' := mX11_isLess) 52 dX11_associateP_49 tw_1093 zv_X11_isLess zcl_X11 (s_X11_isLess B h3 D hD _ N4.1 20 8 (by omega) (by omega)) N4.1.1 rfl rfl rfl rfl rfl rfl rfl rfl (zk_f ?_)
        refine zb_eq 55 63 dX11_associateP_52 (by decide) rfl (fun zzL => ?_) (fun zzL => ?_)
        ·
          rw [fB, fT, hG, i4t_z (asB_l oP lP hB) (ur_p (by omega) oP lP).2] at zzL
          refine zi_iinc (v := nI (k + 1)) (lv' := [(2, _), (0, _), (1, _)]) 66 dX11_associateP_63 rfl (nI_1 _) rfl rfl rfl ?_
          refine zi_goto 2 dX11_associateP_66 (by decide) ?_
          exact zi_lv [0, 1, 2] rfl (ih (k + 1) h3 _ G (by omega) (by omega) N4 fP (Or.inr ⟨fB.trans hG, asB_n hB zzL⟩) fO)
        ·
          rw [fB, fT, hG, i4t_z (asB_l oP lP hB) (ur_p (by omega) oP lP).2] at zzL
          refine zi_aload_n 56 dX11_associateP_55 rfl rfl ?_
          refine zi_bipush (v := 20) 58 dX11_associateP_56 (by decide) rfl ?_
          refine zi_bipush (v := 8) 60 dX11_associateP_58 (by decide) rfl ?_
          refine zc_virtual (n' := (0, 0)) (md' := mX11_copyOf) 63 dX11_associateP_60 tw_1079 zv_X11_copyOf zcl_X11 (s_X11_copyOf B h3 D hD _ N4.1 20 8 (by omega) (by omega) (by omega)) N4.1.1 rfl rfl rfl rfl rfl rfl rfl rfl (zk_v fun h6 n6 => ?_)
          have N6 := rN_t N4 n6
          refine zi_iinc (v := nI (k + 1)) (lv' := [(2, _), (0, _), (1, _)]) 66 dX11_associateP_63 rfl (nI_1 _) rfl rfl rfl ?_
          refine zi_goto 2 dX11_associateP_66 (by decide) ?_
          exact zi_lv [0, 1, 2] rfl (ih (k + 1) h6 _ (prI (urI k) P 0) (by omega) (by omega) N6 fP (Or.inr ⟨fT, asB_y (by omega) hB zzL⟩) (fun i hi => (p4_o (a := 20) _ (by omega)).trans (fO i hi)))
set_option maxHeartbeats 4000000 in
set_option maxRecDepth 100000 in
theorem s_X11_associateP0 (B : zBB) (h : zHp) (D : Nat → Nat) (hD : zInj D) (m : mS) (M : rM B D m h) (P : i4) (oP : i4o P) (lP : i4l P 2147483648) (hP : ro (wR m) 0 = z4i P) : zSpec mX11_associateP B (2, 0, 0) [.ref (D 0), .int 0] h (zPv (fun h' => ∃ R' : Nat → Int64, rN B D (uR m R') h h' ∧ ro R' 0 = z4i (asI 0 P) ∧ ∀ i, 28 ≤ i → R' i = wR m i)) := by
  refine zSpec.of (by decide) (Nat.le_of_ble_eq_true rfl) (fun X hZ => ?_)
  show zG X mX11_associateP B (2, 0, 0) (0, 0) 0 [(0, .ref (D 0)), (1, .int 0)] [] h
  have N0 := rN_r M
  refine zi_iconst (v := 0) 1 dX11_associateP_0 (by decide) rfl ?_
  refine zi_istore_n (lv' := [(2, _), (0, _), (1, _)]) 2 dX11_associateP_1 rfl rfl rfl ?_
  exact l_X11_associateP0 B h X D hD m P oP lP hZ 25 0 h (wR m) (0, 0, 0, 0) (by omega) (by omega) (rN_r M) hP (Or.inl rfl) (fun i hi => rfl)

set_option maxHeartbeats 4000000 in
set_option maxRecDepth 100000 in
theorem l_X11_associateP1 (B : zBB) (h : zHp) (X : zX) (D : Nat → Nat) (hD : zInj D) (m : mS) (P : i4) (oP : i4o P) (lP : i4l P 2147483648) (hZ : zIsP X mX11_associateP B (0, 0) (zPv (fun h' => ∃ R' : Nat → Int64, rN B D (uR m R') h h' ∧ ro R' 0 = z4i (asI 1 P) ∧ ∀ i, 28 ≤ i → R' i = wR m i))) : ∀ (n k : Nat) (h1 : zHp) (R : Nat → Int64) (G : i4), 24 - k < n → k ≤ 24 → rN B D (uR m R) h h1 → ro R 0 = z4i P → (k = 0 ∨ (ro R 20 = z4i G ∧ asB 1 P k G)) → (∀ i, 28 ≤ i → R i = wR m i) → zG X mX11_associateP B (2, 0, 0) (0, 0) 2 [(2, .int (nI k)), (0, .ref (D 0)), (1, .int 1)] [] h1 := by
  intro n
  induction n with
  | zero => intro k h1 R G hn; omega
  | succ n ih =>
    intro k h1 R G hn hk N hP1 hI hO
    refine zi_iload_n 3 dX11_associateP_2 rfl rfl ?_
    refine zi_bipush (v := 24) 5 dX11_associateP_3 (by decide) rfl ?_
    refine zi_icmp_ge 8 69 dX11_associateP_5 (by decide) rfl (fun zzE => ?_) (fun zzE => ?_)
    ·
      rw [show (24 : Int32) = nI 24 from rfl, nI_leI (by decide) (by omega)] at zzE
      have ek : k = 24 := by omega
      subst ek
      obtain ⟨hG, hB⟩ := hI.resolve_left (by decide)
      refine zi_aload_n 70 dX11_associateP_69 rfl rfl ?_
      refine zi_iconst (v := 0) 71 dX11_associateP_70 (by decide) rfl ?_
      refine zi_bipush (v := 20) 73 dX11_associateP_71 (by decide) rfl ?_
      refine zc_virtual (n' := (0, 0)) (md' := mX11_copyOf) 76 dX11_associateP_73 tw_1079 zv_X11_copyOf zcl_X11 (s_X11_copyOf B h1 D hD _ N.1 0 20 (by omega) (by omega) (by omega)) N.1.1 rfl rfl rfl rfl rfl rfl rfl rfl (zk_v fun h1 n1 => ?_)
      have N1 := rN_t N n1
      exact zr_void hZ dX11_associateP_76 rfl ⟨rfl, _, N1, by rw [asB_e hB]; exact hG, fun i hi => (p4_o (a := 0) _ (by omega)).trans (hO i hi)⟩
    ·
      rw [show (24 : Int32) = nI 24 from rfl, nI_leI (by decide) (by omega)] at zzE
      refine zi_aload_n 9 dX11_associateP_8 rfl rfl ?_
      refine zi_bipush (v := 24) 11 dX11_associateP_9 (by decide) rfl ?_
      refine zi_iload_n 12 dX11_associateP_11 rfl rfl ?_
      refine zc_virtual (n' := (0, 0)) (md' := mX11_unit) 15 dX11_associateP_12 tw_1087 zv_X11_unit zcl_X11 (s_X11_unit B h1 D hD _ N.1 k (by omega)) N.1.1 rfl rfl rfl rfl rfl rfl rfl rfl (zk_v fun h2 p2 => ?_)
      obtain ⟨R1, n2, u1, uO⟩ := p2
      have N2 := rN_t N n2
      have u2 : ro R1 0 = z4i P := by rw [← hP1]; exact ro_c (fun i hi => uO i (by omega))
      have u3 : ro R1 20 = ro R 20 := ro_c (fun i hi => uO i (by omega))
      have u4 : ∀ i, 28 ≤ i → R1 i = wR m i := fun i hi => (uO i (by omega)).trans (hO i hi)
      refine zi_iload_n 16 dX11_associateP_15 rfl rfl ?_
      refine zi_if_ne 19 31 dX11_associateP_16 (by decide) rfl (fun c_16 => ?_) (fun c_16 => absurd c_16 (by decide))
      refine zi_aload_n 32 dX11_associateP_31 rfl rfl ?_
      refine zi_bipush (v := 8) 34 dX11_associateP_32 (by decide) rfl ?_
      refine zi_iconst (v := 0) 35 dX11_associateP_34 (by decide) rfl ?_
      refine zi_bipush (v := 24) 37 dX11_associateP_35 (by decide) rfl ?_
      refine zc_virtual (n' := (0, 0)) (md' := mX11_multiply) 40 dX11_associateP_37 tw_1039 zv_X11_multiply zcl_X11 (s_X11_multiply B h2 D hD _ N2.1 8 0 24 (by omega) (by omega) (by omega)) N2.1.1 rfl rfl rfl rfl rfl rfl rfl rfl (zk_v fun h3 n3 => ?_)
      have N3 := rN_t N2 n3
      obtain ⟨R2, N4, fT, fP, fB, fO⟩ : ∃ R2, rN B D (uR m R2) h h3 ∧ ro R2 8 = z4i (prI (urI k) P 1) ∧ ro R2 0 = z4i P ∧ ro R2 20 = ro R 20 ∧ ∀ i, 28 ≤ i → R2 i = wR m i := ⟨_, N3, by show zMul (ro R1 0) (ro R1 24) = _; rw [u1, u2]; exact (ur_p (s := 1) (by omega) oP lP).1, u2, u3, fun i hi => (p4_o (a := 8) _ (by omega)).trans (u4 i hi)⟩
      refine zi_iload_n 41 dX11_associateP_40 rfl rfl ?_
      refine zi_if_eq 44 55 dX11_associateP_41 (by decide) rfl (fun zzK => ?_) (fun zzK => ?_)
      ·
        rw [nI_0e (by omega)] at zzK
        refine zi_aload_n 56 dX11_associateP_55 rfl rfl ?_
        refine zi_bipush (v := 20) 58 dX11_associateP_56 (by decide) rfl ?_
        refine zi_bipush (v := 8) 60 dX11_associateP_58 (by decide) rfl ?_
        refine zc_virtual (n' := (0, 0)) (md' := mX11_copyOf) 63 dX11_associateP_60 tw_1079 zv_X11_copyOf zcl_X11 (s_X11_copyOf B h3 D hD _ N4.1 20 8 (by omega) (by omega) (by omega)) N4.1.1 rfl rfl rfl rfl rfl rfl rfl rfl (zk_v fun h5 n5 => ?_)
        have N5 := rN_t N4 n5
        refine zi_iinc (v := nI (k + 1)) (lv' := [(2, _), (0, _), (1, _)]) 66 dX11_associateP_63 rfl (nI_1 _) rfl rfl rfl ?_
        refine zi_goto 2 dX11_associateP_66 (by decide) ?_
        exact zi_lv [0, 1, 2] rfl (ih (k + 1) h5 _ (prI (urI k) P 1) (by omega) (by omega) N5 fP (Or.inr ⟨fT, by subst zzK; exact asB_0⟩) (fun i hi => (p4_o (a := 20) _ (by omega)).trans (fO i hi)))
      ·
        rw [nI_0e (by omega)] at zzK
        obtain ⟨hG, hB⟩ := hI.resolve_left zzK
        refine zi_aload_n 45 dX11_associateP_44 rfl rfl ?_
        refine zi_bipush (v := 20) 47 dX11_associateP_45 (by decide) rfl ?_
        refine zi_bipush (v := 8) 49 dX11_associateP_47 (by decide) rfl ?_
        refine zc_virtual (n' := (0, 0)) (md' := mX11_isLess) 52 dX11_associateP_49 tw_1093 zv_X11_isLess zcl_X11 (s_X11_isLess B h3 D hD _ N4.1 20 8 (by omega) (by omega)) N4.1.1 rfl rfl rfl rfl rfl rfl rfl rfl (zk_f ?_)
        refine zb_eq 55 63 dX11_associateP_52 (by decide) rfl (fun zzL => ?_) (fun zzL => ?_)
        ·
          rw [fB, fT, hG, i4t_z (asB_l oP lP hB) (ur_p (by omega) oP lP).2] at zzL
          refine zi_iinc (v := nI (k + 1)) (lv' := [(2, _), (0, _), (1, _)]) 66 dX11_associateP_63 rfl (nI_1 _) rfl rfl rfl ?_
          refine zi_goto 2 dX11_associateP_66 (by decide) ?_
          exact zi_lv [0, 1, 2] rfl (ih (k + 1) h3 _ G (by omega) (by omega) N4 fP (Or.inr ⟨fB.trans hG, asB_n hB zzL⟩) fO)
        ·
          rw [fB, fT, hG, i4t_z (asB_l oP lP hB) (ur_p (by omega) oP lP).2] at zzL
          refine zi_aload_n 56 dX11_associateP_55 rfl rfl ?_
          refine zi_bipush (v := 20) 58 dX11_associateP_56 (by decide) rfl ?_
          refine zi_bipush (v := 8) 60 dX11_associateP_58 (by decide) rfl ?_
          refine zc_virtual (n' := (0, 0)) (md' := mX11_copyOf) 63 dX11_associateP_60 tw_1079 zv_X11_copyOf zcl_X11 (s_X11_copyOf B h3 D hD _ N4.1 20 8 (by omega) (by omega) (by omega)) N4.1.1 rfl rfl rfl rfl rfl rfl rfl rfl (zk_v fun h6 n6 => ?_)
          have N6 := rN_t N4 n6
          refine zi_iinc (v := nI (k + 1)) (lv' := [(2, _), (0, _), (1, _)]) 66 dX11_associateP_63 rfl (nI_1 _) rfl rfl rfl ?_
          refine zi_goto 2 dX11_associateP_66 (by decide) ?_
          exact zi_lv [0, 1, 2] rfl (ih (k + 1) h6 _ (prI (urI k) P 1) (by omega) (by omega) N6 fP (Or.inr ⟨fT, asB_y (by omega) hB zzL⟩) (fun i hi => (p4_o (a := 20) _ (by omega)).trans (fO i hi)))
set_option maxHeartbeats 4000000 in
set_option maxRecDepth 100000 in
theorem s_X11_associateP1 (B : zBB) (h : zHp) (D : Nat → Nat) (hD : zInj D) (m : mS) (M : rM B D m h) (P : i4) (oP : i4o P) (lP : i4l P 2147483648) (hP : ro (wR m) 0 = z4i P) : zSpec mX11_associateP B (2, 0, 0) [.ref (D 0), .int 1] h (zPv (fun h' => ∃ R' : Nat → Int64, rN B D (uR m R') h h' ∧ ro R' 0 = z4i (asI 1 P) ∧ ∀ i, 28 ≤ i → R' i = wR m i)) := by
  refine zSpec.of (by decide) (Nat.le_of_ble_eq_true rfl) (fun X hZ => ?_)
  show zG X mX11_associateP B (2, 0, 0) (0, 0) 0 [(0, .ref (D 0)), (1, .int 1)] [] h
  have N0 := rN_r M
  refine zi_iconst (v := 0) 1 dX11_associateP_0 (by decide) rfl ?_
  refine zi_istore_n (lv' := [(2, _), (0, _), (1, _)]) 2 dX11_associateP_1 rfl rfl rfl ?_
  exact l_X11_associateP1 B h X D hD m P oP lP hZ 25 0 h (wR m) (0, 0, 0, 0) (by omega) (by omega) (rN_r M) hP (Or.inl rfl) (fun i hi => rfl)

set_option maxHeartbeats 4000000 in
set_option maxRecDepth 100000 in
theorem l_X11_greatestP0 (B : zBB) (h : zHp) (X : zX) (D : Nat → Nat) (hD : zInj D) (m : mS) (G : i4) (hZ : zIsP X mX11_greatestP B (0, 0) (zPv (fun h' => ∃ R' : Nat → Int64, rN B D (uR m R') h h' ∧ ro R' 0 = z4i (asI 1 G) ∧ ∀ i, 28 ≤ i → R' i = wR m i))) : ∀ (n k : Nat) (P Q : i4) (h1 : zHp) (R : Nat → Int64), k < n → rN B D (uR m R) h h1 → ro R 0 = z4i P → ro R 4 = z4i Q → grOK P Q → i4q Q < 2 ^ k → grS 0 (k + 1) P Q = G → (∀ i, 28 ≤ i → R i = wR m i) → zG X mX11_greatestP B (3, 0, 0) (0, 0) 0 [(0, .ref (D 0)), (1, .int 0)] [] h1 := by
  intro n
  induction n with
  | zero => intro k P Q h1 R hn; omega
  | succ n ih =>
    intro k P Q h1 R hn N hP hQ hok hk hS hO
    refine zi_aload_n 1 dX11_greatestP_0 rfl rfl ?_
    refine zi_iconst (v := 4) 2 dX11_greatestP_1 (by decide) rfl ?_
    refine zc_virtual (n' := (0, 0)) (md' := mX11_isNought) 5 dX11_greatestP_2 tw_962 zv_X11_isNought zcl_X11 (s_X11_isNought B h1 D hD _ N.1 4 (by omega)) N.1.1 rfl rfl rfl rfl rfl rfl rfl rfl (zk_f ?_)
    refine zb_ne 8 29 dX11_greatestP_5 (by decide) rfl (fun zzZ => ?_) (fun zzZ => ?_)
    ·
      rw [show ro (wR _) 4 = z4i Q from hQ, z4i_nil hok.2.2.2.1] at zzZ
      rw [gr_e zzZ] at hS
      subst hS
      refine zi_aload_n 30 dX11_greatestP_29 rfl rfl ?_
      refine zi_iconst (v := 1) 31 dX11_greatestP_30 (by decide) rfl ?_
      refine zi_iload_n 32 dX11_greatestP_31 rfl rfl ?_
      refine zi_isub 33 dX11_greatestP_32 rfl ?_
      rw [show (1 : Int32) - 0 = 1 from rfl]
      refine zc_virtual (n' := (0, 0)) (md' := mX11_associateP) 36 dX11_greatestP_33 tw_1083 zv_X11_associateP zcl_X11 (s_X11_associateP1 B h1 D hD _ N.1 P hok.1 hok.2.2.1 hP) N.1.1 rfl rfl rfl rfl rfl rfl rfl rfl (zk_v fun h1 p1 => ?_)
      obtain ⟨R9, n1, eA, eO9⟩ := p1
      have N1 := rN_t N n1
      exact zr_void hZ dX11_greatestP_36 rfl ⟨rfl, _, N1, eA, fun i hi => (eO9 i hi).trans (hO i hi)⟩
    ·
      rw [show ro (wR _) 4 = z4i Q from hQ, z4i_nil hok.2.2.2.1] at zzZ
      obtain ⟨k', ek, q1, q2, q3⟩ := gr_st (s := 0) hok hk zzZ
      rw [q3] at hS
      refine zi_aload_n 9 dX11_greatestP_8 rfl rfl ?_
      refine zi_iload_n 10 dX11_greatestP_9 rfl rfl ?_
      refine zc_virtual (n' := (0, 0)) (md' := mX11_divide) 13 dX11_greatestP_10 tw_1064 zv_X11_divide zcl_X11 (s_X11_divide0 B h1 D hD _ N.1 P Q (hok.2.2.2.2 (zqpos zzZ)) hP hQ) N.1.1 rfl rfl rfl rfl rfl rfl rfl rfl (zk_v fun h2 p2 => ?_)
      obtain ⟨R1, n2, eT, eR, eO⟩ := p2
      have N2 := rN_t N n2
      have eQ : ro R1 4 = z4i Q := by rw [← hQ]; exact ro_c (fun i hi => eO i (by omega))
      refine zi_aload_n 14 dX11_greatestP_13 rfl rfl ?_
      refine zi_iconst (v := 0) 15 dX11_greatestP_14 (by decide) rfl ?_
      refine zi_iconst (v := 4) 16 dX11_greatestP_15 (by decide) rfl ?_
      refine zc_virtual (n' := (0, 0)) (md' := mX11_copyOf) 19 dX11_greatestP_16 tw_1079 zv_X11_copyOf zcl_X11 (s_X11_copyOf B h2 D hD _ N2.1 0 4 (by omega) (by omega) (by omega)) N2.1.1 rfl rfl rfl rfl rfl rfl rfl rfl (zk_v fun h3 n3 => ?_)
      have N3 := rN_t N2 n3
      refine zi_aload_n 20 dX11_greatestP_19 rfl rfl ?_
      refine zi_iconst (v := 4) 21 dX11_greatestP_20 (by decide) rfl ?_
      refine zi_bipush (v := 12) 23 dX11_greatestP_21 (by decide) rfl ?_
      refine zc_virtual (n' := (0, 0)) (md' := mX11_copyOf) 26 dX11_greatestP_23 tw_1079 zv_X11_copyOf zcl_X11 (s_X11_copyOf B h3 D hD _ N3.1 4 12 (by omega) (by omega) (by omega)) N3.1.1 rfl rfl rfl rfl rfl rfl rfl rfl (zk_v fun h4 n4 => ?_)
      have N4 := rN_t N3 n4
      refine zi_goto 0 dX11_greatestP_26 (by decide) ?_
      exact zi_lv [0, 1] rfl (ih k' Q (dvR P Q 0) h4 _ (by omega) N4 eQ eR q2 q1 hS (fun i hi => (p4_o (a := 4) _ (by omega)).trans ((p4_o (a := 0) _ (by omega)).trans ((eO i (by omega)).trans (hO i hi)))))
set_option maxHeartbeats 4000000 in
set_option maxRecDepth 100000 in
theorem s_X11_greatestP0 (B : zBB) (h : zHp) (D : Nat → Nat) (hD : zInj D) (m : mS) (M : rM B D m h) (P Q : i4) (hok : grOK P Q) (hP : ro (wR m) 0 = z4i P) (hQ : ro (wR m) 4 = z4i Q) : zSpec mX11_greatestP B (3, 0, 0) [.ref (D 0), .int 0] h (zPv (fun h' => ∃ R' : Nat → Int64, rN B D (uR m R') h h' ∧ ro R' 0 = z4i (grI 0 P Q) ∧ ∀ i, 28 ≤ i → R' i = wR m i)) := by
  refine zSpec.of (by decide) (Nat.le_of_ble_eq_true rfl) (fun X hZ => ?_)
  show zG X mX11_greatestP B (3, 0, 0) (0, 0) 0 [(0, .ref (D 0)), (1, .int 0)] [] h
  have N0 := rN_r M
  exact l_X11_greatestP0 B h X D hD m (grS 0 64 P Q) hZ 64 63 P Q h (wR m) (by decide) (rN_r M) hP hQ hok (gr_q hok) rfl (fun i hi => rfl)

set_option maxHeartbeats 4000000 in
set_option maxRecDepth 100000 in
theorem l_X11_greatestP1 (B : zBB) (h : zHp) (X : zX) (D : Nat → Nat) (hD : zInj D) (m : mS) (G : i4) (hZ : zIsP X mX11_greatestP B (0, 0) (zPv (fun h' => ∃ R' : Nat → Int64, rN B D (uR m R') h h' ∧ ro R' 0 = z4i (asI 0 G) ∧ ∀ i, 28 ≤ i → R' i = wR m i))) : ∀ (n k : Nat) (P Q : i4) (h1 : zHp) (R : Nat → Int64), k < n → rN B D (uR m R) h h1 → ro R 0 = z4i P → ro R 4 = z4i Q → grOK P Q → i4q Q < 2 ^ k → grS 1 (k + 1) P Q = G → (∀ i, 28 ≤ i → R i = wR m i) → zG X mX11_greatestP B (3, 0, 0) (0, 0) 0 [(0, .ref (D 0)), (1, .int 1)] [] h1 := by
  intro n
  induction n with
  | zero => intro k P Q h1 R hn; omega
  | succ n ih =>
    intro k P Q h1 R hn N hP hQ hok hk hS hO
    refine zi_aload_n 1 dX11_greatestP_0 rfl rfl ?_
    refine zi_iconst (v := 4) 2 dX11_greatestP_1 (by decide) rfl ?_
    refine zc_virtual (n' := (0, 0)) (md' := mX11_isNought) 5 dX11_greatestP_2 tw_962 zv_X11_isNought zcl_X11 (s_X11_isNought B h1 D hD _ N.1 4 (by omega)) N.1.1 rfl rfl rfl rfl rfl rfl rfl rfl (zk_f ?_)
    refine zb_ne 8 29 dX11_greatestP_5 (by decide) rfl (fun zzZ => ?_) (fun zzZ => ?_)
    ·
      rw [show ro (wR _) 4 = z4i Q from hQ, z4i_nil hok.2.2.2.1] at zzZ
      rw [gr_e zzZ] at hS
      subst hS
      refine zi_aload_n 30 dX11_greatestP_29 rfl rfl ?_
      refine zi_iconst (v := 1) 31 dX11_greatestP_30 (by decide) rfl ?_
      refine zi_iload_n 32 dX11_greatestP_31 rfl rfl ?_
      refine zi_isub 33 dX11_greatestP_32 rfl ?_
      rw [show (1 : Int32) - 1 = 0 from rfl]
      refine zc_virtual (n' := (0, 0)) (md' := mX11_associateP) 36 dX11_greatestP_33 tw_1083 zv_X11_associateP zcl_X11 (s_X11_associateP0 B h1 D hD _ N.1 P hok.1 hok.2.2.1 hP) N.1.1 rfl rfl rfl rfl rfl rfl rfl rfl (zk_v fun h1 p1 => ?_)
      obtain ⟨R9, n1, eA, eO9⟩ := p1
      have N1 := rN_t N n1
      exact zr_void hZ dX11_greatestP_36 rfl ⟨rfl, _, N1, eA, fun i hi => (eO9 i hi).trans (hO i hi)⟩
    ·
      rw [show ro (wR _) 4 = z4i Q from hQ, z4i_nil hok.2.2.2.1] at zzZ
      obtain ⟨k', ek, q1, q2, q3⟩ := gr_st (s := 1) hok hk zzZ
      rw [q3] at hS
      refine zi_aload_n 9 dX11_greatestP_8 rfl rfl ?_
      refine zi_iload_n 10 dX11_greatestP_9 rfl rfl ?_
      refine zc_virtual (n' := (0, 0)) (md' := mX11_divide) 13 dX11_greatestP_10 tw_1064 zv_X11_divide zcl_X11 (s_X11_divide1 B h1 D hD _ N.1 P Q (hok.2.2.2.2 (zqpos zzZ)) hP hQ) N.1.1 rfl rfl rfl rfl rfl rfl rfl rfl (zk_v fun h2 p2 => ?_)
      obtain ⟨R1, n2, eT, eR, eO⟩ := p2
      have N2 := rN_t N n2
      have eQ : ro R1 4 = z4i Q := by rw [← hQ]; exact ro_c (fun i hi => eO i (by omega))
      refine zi_aload_n 14 dX11_greatestP_13 rfl rfl ?_
      refine zi_iconst (v := 0) 15 dX11_greatestP_14 (by decide) rfl ?_
      refine zi_iconst (v := 4) 16 dX11_greatestP_15 (by decide) rfl ?_
      refine zc_virtual (n' := (0, 0)) (md' := mX11_copyOf) 19 dX11_greatestP_16 tw_1079 zv_X11_copyOf zcl_X11 (s_X11_copyOf B h2 D hD _ N2.1 0 4 (by omega) (by omega) (by omega)) N2.1.1 rfl rfl rfl rfl rfl rfl rfl rfl (zk_v fun h3 n3 => ?_)
      have N3 := rN_t N2 n3
      refine zi_aload_n 20 dX11_greatestP_19 rfl rfl ?_
      refine zi_iconst (v := 4) 21 dX11_greatestP_20 (by decide) rfl ?_
      refine zi_bipush (v := 12) 23 dX11_greatestP_21 (by decide) rfl ?_
      refine zc_virtual (n' := (0, 0)) (md' := mX11_copyOf) 26 dX11_greatestP_23 tw_1079 zv_X11_copyOf zcl_X11 (s_X11_copyOf B h3 D hD _ N3.1 4 12 (by omega) (by omega) (by omega)) N3.1.1 rfl rfl rfl rfl rfl rfl rfl rfl (zk_v fun h4 n4 => ?_)
      have N4 := rN_t N3 n4
      refine zi_goto 0 dX11_greatestP_26 (by decide) ?_
      exact zi_lv [0, 1] rfl (ih k' Q (dvR P Q 1) h4 _ (by omega) N4 eQ eR q2 q1 hS (fun i hi => (p4_o (a := 4) _ (by omega)).trans ((p4_o (a := 0) _ (by omega)).trans ((eO i (by omega)).trans (hO i hi)))))
set_option maxHeartbeats 4000000 in
set_option maxRecDepth 100000 in
theorem s_X11_greatestP1 (B : zBB) (h : zHp) (D : Nat → Nat) (hD : zInj D) (m : mS) (M : rM B D m h) (P Q : i4) (hok : grOK P Q) (hP : ro (wR m) 0 = z4i P) (hQ : ro (wR m) 4 = z4i Q) : zSpec mX11_greatestP B (3, 0, 0) [.ref (D 0), .int 1] h (zPv (fun h' => ∃ R' : Nat → Int64, rN B D (uR m R') h h' ∧ ro R' 0 = z4i (grI 1 P Q) ∧ ∀ i, 28 ≤ i → R' i = wR m i)) := by
  refine zSpec.of (by decide) (Nat.le_of_ble_eq_true rfl) (fun X hZ => ?_)
  show zG X mX11_greatestP B (3, 0, 0) (0, 0) 0 [(0, .ref (D 0)), (1, .int 1)] [] h
  have N0 := rN_r M
  exact l_X11_greatestP1 B h X D hD m (grS 1 64 P Q) hZ 64 63 P Q h (wR m) (by decide) (rN_r M) hP hQ hok (gr_q hok) rfl (fun i hi => rfl)
