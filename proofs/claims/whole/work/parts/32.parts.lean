theorem pt_c (l : Nat) : ((2 * lN l, 0, 0, 0) : z4) = z4i (i4c l) := by
  unfold z4i
  rw [iz_lN, iz_2, iz_mul]
  rfl
theorem pt_bm {P : i4} {m l : Nat} (h : ptOK P m) (h1 : 1 ≤ l) (hl : l ∣ m) : zMul (z4i (i4b (ptG P l))) (z4i P) = z4i (i4m (i4b (ptG P l)) P) ∧ zDiv (z4i (i4m (i4b (ptG P l)) P)) (lN l) = z4i (ptN P l) ∧ ¬ lN l = 0 := by
  obtain ⟨-, oG, g0, gle, e1, -, -⟩ := pt_st h h1 hl
  obtain ⟨hq, hm⟩ := ptOK_q h
  have hlm := Nat.le_of_dvd h.2.2.2.2 hl
  have q1 := i4q_4 oG
  have lG := i4b_l (zb_63 (P := ptG P l) (by have := h.2.2.1; omega))
  have lP := zb_63 hq
  obtain ⟨a1, a2, a3, a4⟩ := zb_m lG lP
  have oB := i4b_o oG
  obtain ⟨f1, f2, f3, f4, -⟩ := i4m_e oB h.1
  refine ⟨z4i_mul oB h.1 (Nat.lt_of_le_of_lt a1 (by decide)) (Nat.lt_of_le_of_lt a2 (by decide)) (Nat.lt_of_le_of_lt a3 (by decide)) (Nat.lt_of_le_of_lt a4 (by decide)), ?_, ?_⟩
  · refine z4i_d (a := 4 * (63245 * 63245)) ⟨zhalf f1 a1, zhalf f2 a2, zhalf f3 a3, zhalf f4 a4⟩ (by decide) (by clear f1 f2 f3 f4 a1 a2 a3 a4 lG lP; omega) ?_ ?_ ?_ ?_ <;> rw [e1] <;> exact ⟨_, rfl⟩
  · rw [show (0 : Int64) = lN 0 from rfl, pk_lEQ (by clear f1 f2 f3 f4 a1 a2 a3 a4 lG lP; omega) (by decide)]
    clear f1 f2 f3 f4 a1 a2 a3 a4 lG lP
    omega
theorem pt_nm {P : i4} {m : Nat} (h : ptOK P m) : zNm (z4i P) = lN (i4n P).toNat := by
  have hq := (ptOK_q h).1
  rw [z4i_n (by omega), iz_lN, Int.toNat_of_nonneg (i4n_nn P)]
theorem pt_s {P : i4} {m k : Nat} (hm : ¬ m ≤ 1) (hk : m < 2 ^ k) : ∃ k', k = k' + 1 ∧ m / zLp m < 2 ^ k' ∧ ptL k P m = ptG P (zLp m) :: ptL k' (ptN P (zLp m)) (m / zLp m) ∧ 2 ≤ zLp m ∧ zLp m ∣ m ∧ zLp m ≤ m := by
  cases k with
  | zero => exact absurd (Nat.le_of_lt_succ hk) (by omega)
  | succ k =>
    obtain ⟨h1, h2, h3⟩ := zLp_d (m := m) (by omega)
    exact ⟨k, rfl, pt_hf hk h1, by rw [ptL, if_neg hm], h1, h2, h3⟩
theorem pt_e {P : i4} {m k : Nat} (hm : m ≤ 1) : ptL k P m = [P] := by
  cases k with
  | zero => rfl
  | succ k => rw [ptL, if_pos hm]
abbrev pF : List Nat := [1, 2, 3, 6, 7, 8, 9, 10, 11, 12, 14, 15, 16, 17]
abbrev pS : List Nat := [1, 2, 3, 6, 7, 8, 9, 10, 11, 12, 15, 16, 17]
theorem zlm {g : Nat → Nat} {i : Nat} {l : List Nat} (h : i ∈ l) : g i ∈ l.map g := List.mem_map.mpr ⟨i, h, rfl⟩
theorem zls {g : Nat → Nat} {l l' : List Nat} (h : ∀ i ∈ l, i ∈ l') : ∀ x, x ∈ l.map g → x ∈ l'.map g := fun x hx => by
  obtain ⟨i, hi, e⟩ := List.mem_map.mp hx
  exact List.mem_map.mpr ⟨i, h i hi, e⟩
theorem zGt_k {S : List Nat} {g : Nat → Nat} {h h' : zHp} (k : zKp S h h') (hG : zGt g h) : zGt g h' := ⟨zKp_o k hG.1 (by decide), zKp_o k hG.2.1 (by decide), zKp_o k hG.2.2.1 (by decide), fun i hi => zKp_f k (hG.2.2.2 i hi)⟩
abbrev zPt (p : Nat → Nat) (h : zHp) : Prop := zGt p h ∧ h (p 13) = some (zO 7 [.ref (p 14), .ref (p 15), .ref (p 16), .ref (p 17), .ref (p 0)]) ∧ ∀ i, i ∈ [14, 15, 16, 17] → ∃ v : z4, h (p i) = some (zFo v)
theorem zPt_k {S : List Nat} {p : Nat → Nat} {h h' : zHp} (k : zKp S h h') (hG : zPt p h) : zPt p h' := ⟨zGt_k k hG.1, zKp_o k hG.2.1 (by decide), fun i hi => zKp_f k (hG.2.2 i hi)⟩

set_option maxHeartbeats 4000000 in
set_option maxRecDepth 100000 in
theorem s_X7_splitOff (B : zBB) (h : zHp) (p : Nat → Nat) (hp : zInj p) (P : i4) (m l : Nat) (hG : zPt p h) (hL : h (p 15) = some (zFo (z4i P))) (hok : ptOK P m) (h1l : 1 ≤ l) (hl : l ∣ m) : zSpec mX7_splitOff B (5, 0, 0) [.ref (p 13), .long (lN l)] h (zPv (fun h' => zKp (pS.map p) h h' ∧ h' (p 1) = some (zFo (z4i (ptG P l))) ∧ h' (p 15) = some (zFo (z4i (ptN P l))))) := by
  refine zSpec.of (by decide) (Nat.le_of_ble_eq_true rfl) (fun X hZ => ?_)
  show zG X mX7_splitOff B (5, 0, 0) (0, 0) 0 [(0, .ref (p 13)), (1, .long (lN l))] [] h
  obtain ⟨hgr, oG, g0, gle, e1, hok2, -⟩ := pt_st hok h1l hl
  obtain ⟨pm, pd, pz⟩ := pt_bm hok h1l hl
  obtain ⟨v16, hv16⟩ := hG.2.2 16 (by decide)
  refine zi_aload_n 1 dX7_splitOff_0 rfl rfl ?_
  refine zi_getfield 4 2 dX7_splitOff_1 zcl_X7 tw_220 rfl rfl hG.2.1 rfl rfl ?_
  refine zi_ldc2 7 dX7_splitOff_4 tw_705 rfl ?_
  refine zi_lload_n 8 dX7_splitOff_7 rfl rfl ?_
  refine zi_lmul 9 dX7_splitOff_8 rfl ?_
  refine zi_lconst (v := 0) 10 dX7_splitOff_9 (by decide) rfl ?_
  refine zi_lconst (v := 0) 11 dX7_splitOff_10 (by decide) rfl ?_
  refine zi_lconst (v := 0) 12 dX7_splitOff_11 (by decide) rfl ?_
  refine zc_virtual (n' := (0, 0)) (md' := mX4_become) 15 dX7_splitOff_12 tw_710 zv_X4_become zcl_X4 (s_X4_become B h (p 16) v16 hv16 _ _ _ _) hv16 rfl rfl rfl rfl rfl rfl rfl rfl (zk_u fun h1 hq1 => ?_)
  rw [pt_c] at hq1
  have k1 := zKp_u (S := pS.map p) hv16 hq1 (zlm (by decide))
  have w_1 := zX0 hq1
  have L_1 := zX1 hq1 (hp.ne (i := 15) (by decide)) hL
  have o0_1 := zKp_o k1 hG.2.1 (by decide)
  have o1_1 := zKp_o k1 hG.1.1 (by decide)
  refine zi_aload_n 16 dX7_splitOff_15 rfl rfl ?_
  refine zi_getfield 19 4 dX7_splitOff_16 zcl_X7 tw_222 rfl rfl o0_1 rfl rfl ?_
  refine zi_aload_n 20 dX7_splitOff_19 rfl rfl ?_
  refine zi_getfield 23 1 dX7_splitOff_20 zcl_X7 tw_219 rfl rfl o0_1 rfl rfl ?_
  refine zi_aload_n 24 dX7_splitOff_23 rfl rfl ?_
  refine zi_getfield 27 2 dX7_splitOff_24 zcl_X7 tw_220 rfl rfl o0_1 rfl rfl ?_
  refine zi_iconst (v := 0) 28 dX7_splitOff_27 (by decide) rfl ?_
  refine zc_virtual (n' := (0, 0)) (md' := mX5_seek) 31 dX7_splitOff_28 tw_711 zv_X5_seek zcl_X5 (s_X5_seek B h1 p hp (p 15) (p 16) 0 P (i4c l) (zGt_k k1 hG.1) L_1 w_1 (hp.nm (by decide)) hgr) o1_1 rfl rfl rfl rfl rfl rfl rfl rfl (zk_v fun h2 hp2 => ?_)
  obtain ⟨k2, r2⟩ := hp2
  change h2 (p 1) = some (zFo (z4i (ptG P l))) at r2
  have kt2 := zKp_t k1 (zKp_m k2 (zls (l' := pS) (by decide)))
  have L_2 := zKp_n k2 L_1 (hp.nm (l := gF) (i := 15) (by decide))
  obtain ⟨v17, hv17⟩ := zKp_f kt2 (hG.2.2 17 (by decide))
  have o0_2 := zKp_o kt2 hG.2.1 (by decide)
  have o1_2 := zKp_o kt2 hG.1.1 (by decide)
  refine zi_aload_n 32 dX7_splitOff_31 rfl rfl ?_
  refine zi_getfield 35 3 dX7_splitOff_32 zcl_X7 tw_221 rfl rfl o0_2 rfl rfl ?_
  refine zi_aload_n 36 dX7_splitOff_35 rfl rfl ?_
  refine zi_getfield 39 4 dX7_splitOff_36 zcl_X7 tw_222 rfl rfl o0_2 rfl rfl ?_
  refine zi_getfield 42 0 dX7_splitOff_39 zcl_X5 tw_190 rfl rfl o1_2 rfl rfl ?_
  refine zc_virtual (n' := (0, 0)) (md' := mX4_becomeBack) 45 dX7_splitOff_42 tw_712 zv_X4_becomeBack zcl_X4 (s_X4_becomeBack B h2 (p 17) v17 hv17 (p 1) _ r2) hv17 rfl rfl rfl rfl rfl rfl rfl rfl (zk_u fun h3 hq3 => ?_)
  rw [z4i_b] at hq3
  have kt3 := zKp_t kt2 (zKp_u hv17 hq3 (zlm (by decide)))
  have m_3 := zX0 hq3
  have L_3 := zX1 hq3 (hp.ne (i := 15) (by decide)) L_2
  have r3 := zX1 hq3 (hp.ne (i := 1) (by decide)) r2
  have o0_3 := zKp_o kt3 hG.2.1 (by decide)
  have o1_3 := zKp_o kt3 hG.1.1 (by decide)
  refine zi_aload_n 46 dX7_splitOff_45 rfl rfl ?_
  refine zi_getfield 49 1 dX7_splitOff_46 zcl_X7 tw_219 rfl rfl o0_3 rfl rfl ?_
  refine zi_aload_n 50 dX7_splitOff_49 rfl rfl ?_
  refine zi_getfield 53 3 dX7_splitOff_50 zcl_X7 tw_221 rfl rfl o0_3 rfl rfl ?_
  refine zi_aload_n 54 dX7_splitOff_53 rfl rfl ?_
  refine zi_getfield 57 1 dX7_splitOff_54 zcl_X7 tw_219 rfl rfl o0_3 rfl rfl ?_
  refine zc_virtual (n' := (0, 0)) (md' := mX4_becomeProduct) 60 dX7_splitOff_57 tw_713 zv_X4_becomeProduct zcl_X4 (s_X4_becomeProduct B h3 (p 15) _ L_3 (p 17) _ m_3 (p 15) _ L_3) L_3 rfl rfl rfl rfl rfl rfl rfl rfl (zk_u fun h4 hq4 => ?_)
  rw [pm] at hq4
  have kt4 := zKp_t kt3 (zKp_u L_3 hq4 (zlm (by decide)))
  have L_4 := zX0 hq4
  have r4 := zX1 hq4 (hp.ne (i := 1) (by decide)) r3
  have o0_4 := zKp_o kt4 hG.2.1 (by decide)
  have o1_4 := zKp_o kt4 hG.1.1 (by decide)
  refine zi_aload_n 61 dX7_splitOff_60 rfl rfl ?_
  refine zi_getfield 64 1 dX7_splitOff_61 zcl_X7 tw_219 rfl rfl o0_4 rfl rfl ?_
  refine zi_lload_n 65 dX7_splitOff_64 rfl rfl ?_
  refine zc_virtual (n' := (0, 0)) (md' := mX4_divideBy) 68 dX7_splitOff_65 tw_714 zv_X4_divideBy zcl_X4 (s_X4_divideBy B h4 (p 15) _ L_4 (lN l)) L_4 rfl rfl rfl rfl rfl rfl rfl rfl (zk_u fun h5 hq5 => ?_)
  rw [if_neg pz, pd] at hq5
  exact zr_void hZ dX7_splitOff_68 rfl ⟨rfl, zKp_t kt4 (zKp_u L_4 hq5 (zlm (by decide))), zX1 hq5 (hp.ne (i := 1) (by decide)) r4, zX0 hq5⟩

theorem pt_j {j k : Nat} (h : j + k ≤ 63) : ¬ (64 : Int32) ≤ nI j := by
  rw [show (64 : Int32) = nI 64 from rfl, nI_leI (by omega) (by omega)]
  omega
theorem pt_31 {P : i4} {m : Nat} (h : ptOK P m) : m < 2 ^ 31 := Nat.lt_of_le_of_lt (ptOK_q h).2 (by decide)
theorem pt_63 {m : Nat} (h : m < 2 ^ 31) : m < 2 ^ 63 := Nat.lt_trans h (by decide)
theorem pt_1 {P : i4} {m : Nat} (h : ptOK P m) : lN m ≤ 1 ↔ m ≤ 1 := by
  rw [show (1 : Int64) = lN 1 from rfl, pk_lLE (pt_63 (pt_31 h)) (by decide)]
theorem pt_l2 {l m : Nat} (h : 2 ≤ l) (h1 : l ≤ m) (hm : m < 2 ^ 31) : (2 : Int64) ≤ lN l := by
  rw [show (2 : Int64) = lN 2 from rfl, pk_lLE (by decide) (pt_63 (by omega))]
  exact h
theorem pt_l0 {l m : Nat} (h : 2 ≤ l) (h1 : l ≤ m) (hm : m < 2 ^ 31) : ¬ lN l = 0 := by
  rw [show (0 : Int64) = lN 0 from rfl, pk_lEQ (pt_63 (by omega)) (by decide)]
  omega
theorem pt_ck {c k : Nat} (h : c + k ≤ 63) : c < 64 := by omega
theorem pt_D1 {D : List i4} {c : Nat} {L : List i4} {G : i4} {L' : List i4} (h : ∀ t, D[t + c]? = L[t]?) (e : L = G :: L') : ∀ t, D[t + (c + 1)]? = L'[t]? := fun t => by
  rw [show t + (c + 1) = (t + 1) + c by omega, h, e, List.getElem?_cons_succ]
theorem pt_D2 {D : List i4} {c : Nat} {L : List i4} {G : i4} {L' : List i4} (h : D.length = c + L.length) (e : L = G :: L') : D.length = (c + 1) + L'.length := by
  rw [h, e, List.length_cons]
  omega
theorem pt_r {D : List i4} {c : Nat} {L : List i4} {G : i4} (h : D.length = c + L.length) (e : L = [G]) : nI c + 1 = nI D.length := by
  rw [h, e, nI_1]
  rfl
theorem pt_w2 {D : List i4} {c : Nat} {i : Int32} {W : i4 → Prop} (hc : c < 64) (hw : ∀ (t : Nat) (v : i4), t < c → D[t]? = some v → i = nI t → W v) (hi : ¬ nI c = i) : ∀ (t : Nat) (v : i4), t < c + 1 → D[t]? = some v → i = nI t → W v := fun t v h1 h2 h3 => by
  rcases Nat.lt_or_ge t c with q | q
  · exact hw t v q h2 h3
  · exact absurd (by rw [h3, show t = c by omega]) hi
theorem pt_w1 {D : List i4} {c : Nat} {i : Int32} {W : i4 → Prop} {L : List i4} {G : i4} {L' : List i4} (h : ∀ t, D[t + c]? = L[t]?) (e : L = G :: L') (hc : c < 64)  (hi : nI c = i) (hG : W G) : ∀ (t : Nat) (v : i4), t < c + 1 → D[t]? = some v → i = nI t → W v := fun t v h1 h2 h3 => by
  have e1 : t = c := (nI_eq (by omega) (by omega)).mp (h3.symm.trans hi.symm)
  subst e1
  have h0 := h 0
  rw [Nat.zero_add, h2, e] at h0
  rw [Option.some.inj h0]
  exact hG
theorem pt_w3 {D : List i4} {c : Nat} {i : Int32} {W : i4 → Prop} {L : List i4} {G : i4} (h : D.length = c + L.length) (e : L = [G]) (hc : c < 64) (hw : ∀ (t : Nat) (v : i4), t < c → D[t]? = some v → i = nI t → W v) (hi : ¬ nI c = i) : ∀ (t : Nat) (v : i4), D[t]? = some v → i = nI t → W v := fun t v h2 h3 => by
  have := (List.getElem?_eq_some_iff.mp h2).1
  rw [h, e] at this
  exact pt_w2 hc hw hi t v this h2 h3
theorem pt_w4 {D : List i4} {c : Nat} {i : Int32} {W : i4 → Prop} {L : List i4} {G : i4} (h : ∀ t, D[t + c]? = L[t]?) (hl : D.length = c + L.length) (e : L = [G]) (hc : c < 64)  (hi : nI c = i) (hG : W G) : ∀ (t : Nat) (v : i4), D[t]? = some v → i = nI t → W v := fun t v h2 h3 => by
  have := (List.getElem?_eq_some_iff.mp h2).1
  rw [hl, e] at this
  exact pt_w1 h e hc hi hG t v this h2 h3
set_option maxHeartbeats 8000000 in
set_option maxRecDepth 100000 in
theorem l_X7_split (B : zBB) (h : zHp) (X : zX) (p : Nat → Nat) (hp : zInj p) (b : Nat) (i : Int32) (D : List i4) (hG : zPt p h) (hZ : zIsP X mX7_split B (0, 0) (zPi (fun x h' => x = nI D.length ∧ zKp (pF.map p) h h' ∧ ∀ (t : Nat) (v : i4), D[t]? = some v → i = nI t → h' (p 14) = some (zFo (z4i v))))) : ∀ (n k c : Nat) (P : i4) (m : Nat) (h1 : zHp), k < n → zKp (pF.map p) h h1 → h1 (p 15) = some (zFo (z4i P)) → ptOK P m → m < 2 ^ k → c + k ≤ 63 → (∀ t, D[t + c]? = (ptL k P m)[t]?) → D.length = c + (ptL k P m).length → (∀ (t : Nat) (v : i4), t < c → D[t]? = some v → i = nI t → h1 (p 14) = some (zFo (z4i v))) → zG X mX7_split B (6, 0, 0) (0, 0) 19 [(6, .int (nI c)), (5, .int (nI c)), (3, .long (lN m)), (0, .ref (p 13)), (1, .ref b), (2, .int i)] [] h1 := by
  intro n
  induction n with
  | zero => intro k c P m h1 hn; exact absurd hn (Nat.not_lt_zero _)
  | succ n ih =>
    intro k c P m h1 hn kt hL hok hk hj hD hDl hw
    have o0_1 := zKp_o kt hG.2.1 (by decide)
    have o1_1 := zKp_o kt hG.1.1 (by decide)
    refine zi_iload 21 dX7_split_19 rfl rfl ?_
    refine zi_bipush (v := 64) 23 dX7_split_21 (by decide) rfl ?_
    refine zi_icmp_ge 26 90 dX7_split_23 (by decide) rfl (fun zzJ => absurd zzJ (pt_j hj)) (fun zzJ => ?_)
    refine zi_lload_n 27 dX7_split_26 rfl rfl ?_
    refine zi_lconst (v := 1) 28 dX7_split_27 (by decide) rfl ?_
    refine zj_le 32 90 dX7_split_28 rfl dX7_split_29 (by decide) rfl (fun zzM => ?_) (fun zzM => ?_)
    ·
      rw [pt_1 hok] at zzM
      have eL := pt_e (P := P) (k := k) zzM
      refine zi_iload 92 dX7_split_90 rfl rfl ?_
      refine zi_iload_n 93 dX7_split_92 rfl rfl ?_
      refine zi_icmp_ne 96 107 dX7_split_93 (by decide) rfl (fun zzI => ?_) (fun zzI => ?_)
      ·
        refine zi_iload 109 dX7_split_107 rfl rfl ?_
        refine zi_iconst (v := 1) 110 dX7_split_109 (by decide) rfl ?_
        refine zi_iadd 111 dX7_split_110 rfl ?_
        exact zr_int hZ dX7_split_111 rfl rfl (by first | exact ⟨_, rfl, pt_r hDl eL, zKp_t kt (zKp_u hv14 hq2 (zlm (by decide))), pt_w4 (W := fun v => h2 (p 14) = some (zFo (z4i v))) hD hDl eL (pt_ck hj) zzI (zX0 hq2)⟩ | exact ⟨_, rfl, pt_r hDl eL, kt, pt_w3 hDl eL (pt_ck hj) hw zzI⟩)
      ·
        obtain ⟨v14, hv14⟩ := zKp_f kt (hG.2.2 14 (by decide))
        refine zi_aload_n 97 dX7_split_96 rfl rfl ?_
        refine zi_getfield 100 0 dX7_split_97 zcl_X7 tw_217 rfl rfl o0_1 rfl rfl ?_
        refine zi_aload_n 101 dX7_split_100 rfl rfl ?_
        refine zi_getfield 104 1 dX7_split_101 zcl_X7 tw_219 rfl rfl o0_1 rfl rfl ?_
        refine zc_virtual (n' := (0, 0)) (md' := mX4_become_) 107 dX7_split_104 tw_702 zv_X4_become_ zcl_X4 (s_X4_become_ B h1 (p 14) v14 hv14 (p 15) _ hL) hv14 rfl rfl rfl rfl rfl rfl rfl rfl (zk_u fun h2 hq2 => ?_)
        refine zi_iload 109 dX7_split_107 rfl rfl ?_
        refine zi_iconst (v := 1) 110 dX7_split_109 (by decide) rfl ?_
        refine zi_iadd 111 dX7_split_110 rfl ?_
        exact zr_int hZ dX7_split_111 rfl rfl (by first | exact ⟨_, rfl, pt_r hDl eL, zKp_t kt (zKp_u hv14 hq2 (zlm (by decide))), pt_w4 (W := fun v => h2 (p 14) = some (zFo (z4i v))) hD hDl eL (pt_ck hj) zzI (zX0 hq2)⟩ | exact ⟨_, rfl, pt_r hDl eL, kt, pt_w3 hDl eL (pt_ck hj) hw zzI⟩)
    ·
      rw [pt_1 hok] at zzM
      obtain ⟨k1, e1, hk1, eL, l2, ld, ll⟩ := pt_s (P := P) zzM hk
      obtain ⟨hgr, oG, g0, gle, -, hok2, -⟩ := pt_st hok (Nat.le_of_lt l2) ld
      have hm31 := pt_31 hok
      refine zi_lload_n 33 dX7_split_32 rfl rfl ?_
      refine zc_staticN (n' := (0, 0)) (md' := mX10_leastPrime) 36 dX7_split_33 (by decide) zs_X10_leastPrime (s_X10_leastPrime B h1 m (Nat.lt_of_not_le zzM) hm31) rfl rfl rfl rfl rfl rfl rfl rfl (zk_f ?_)
      refine zi_lstore (lv' := [(7, _), (6, _), (5, _), (3, _), (0, _), (1, _), (2, _)]) 38 dX7_split_36 rfl rfl rfl ?_
      refine zi_lload 40 dX7_split_38 rfl rfl ?_
      refine zi_ldc2 43 dX7_split_40 tw_705 rfl ?_
      refine zj_ge 47 50 dX7_split_43 rfl dX7_split_44 (by decide) rfl (fun zzL => ?_) (fun zzL => absurd (pt_l2 l2 ll hm31) zzL)
      refine zi_lload_n 51 dX7_split_50 rfl rfl ?_
      refine zi_lload 53 dX7_split_51 rfl rfl ?_
      refine zi_ldiv 54 dX7_split_53 (pt_l0 l2 ll hm31) rfl ?_
      rw [pk_lDiv (pt_63 hm31) (Nat.lt_of_lt_of_le (by decide) l2) (pt_63 (Nat.lt_of_le_of_lt ll hm31))]
      refine zi_lstore_n (lv' := [(3, _), (7, _), (6, _), (5, _), (0, _), (1, _), (2, _)]) 55 dX7_split_54 rfl rfl rfl ?_
      refine zi_aload_n 56 dX7_split_55 rfl rfl ?_
      refine zi_lload 58 dX7_split_56 rfl rfl ?_
      refine zc_virtual (n' := (0, 0)) (md' := mX7_splitOff) 61 dX7_split_58 tw_706 zv_X7_splitOff zcl_X7 (s_X7_splitOff B h1 p hp P m (zLp m) (zPt_k kt hG) hL hok (Nat.le_of_lt l2) ld) o0_1 rfl rfl rfl rfl rfl rfl rfl rfl (zk_v fun h2 hp2 => ?_)
      obtain ⟨k2, r2, L_2⟩ := hp2
      have kt2 := zKp_t kt (zKp_m k2 (zls (l' := pF) (by decide)))
      have hw2 : ∀ (t : Nat) (v : i4), t < c → D[t]? = some v → i = nI t → h2 (p 14) = some (zFo (z4i v)) := fun t v a b e => zKp_n k2 (hw t v a b e) (hp.nm (l := pS) (i := 14) (by decide))
      obtain ⟨v14, hv14⟩ := zKp_f kt2 (hG.2.2 14 (by decide))
      have hck := pt_ck hj
      have o0_2 := zKp_o kt2 hG.2.1 (by decide)
      have o1_2 := zKp_o kt2 hG.1.1 (by decide)
      refine zi_iload 63 dX7_split_61 rfl rfl ?_
      refine zi_iload_n 64 dX7_split_63 rfl rfl ?_
      refine zi_icmp_ne 67 81 dX7_split_64 (by decide) rfl (fun zzI => ?_) (fun zzI => ?_)
      ·
        refine zi_iinc (lv' := [(5, _), (3, _), (7, _), (6, _), (0, _), (1, _), (2, _)]) 84 dX7_split_81 rfl rfl rfl rfl rfl ?_
        refine zi_iinc (lv' := [(6, _), (5, _), (3, _), (7, _), (0, _), (1, _), (2, _)]) 87 dX7_split_84 rfl rfl rfl rfl rfl ?_
        refine zi_goto 19 dX7_split_87 (by decide) ?_
        rw [show nI c + Int32.ofInt 1 = nI (c + 1) from nI_1 c]
        subst e1
        exact zi_lv [0, 1, 2, 4, 5, 6] rfl (ih k1 (c + 1) (ptN P (zLp m)) (m / zLp m) h2 (Nat.lt_of_succ_lt_succ hn) kt2 L_2 hok2 hk1 (by rw [Nat.add_right_comm]; exact hj) (pt_D1 hD eL) (pt_D2 hDl eL) (pt_w2 hck hw2 zzI))
      ·
        refine zi_aload_n 68 dX7_split_67 rfl rfl ?_
        refine zi_getfield 71 0 dX7_split_68 zcl_X7 tw_217 rfl rfl o0_2 rfl rfl ?_
        refine zi_aload_n 72 dX7_split_71 rfl rfl ?_
        refine zi_getfield 75 4 dX7_split_72 zcl_X7 tw_222 rfl rfl o0_2 rfl rfl ?_
        refine zi_getfield 78 0 dX7_split_75 zcl_X5 tw_190 rfl rfl o1_2 rfl rfl ?_
        refine zc_virtual (n' := (0, 0)) (md' := mX4_become_) 81 dX7_split_78 tw_702 zv_X4_become_ zcl_X4 (s_X4_become_ B h2 (p 14) v14 hv14 (p 1) _ r2) hv14 rfl rfl rfl rfl rfl rfl rfl rfl (zk_u fun h3 hq3 => ?_)
        have kt3 := zKp_t kt2 (zKp_u hv14 hq3 (zlm (by decide)))
        have L_3 := zX1 hq3 (hp.ne (i := 15) (by decide)) L_2
        refine zi_iinc (lv' := [(5, _), (3, _), (7, _), (6, _), (0, _), (1, _), (2, _)]) 84 dX7_split_81 rfl rfl rfl rfl rfl ?_
        refine zi_iinc (lv' := [(6, _), (5, _), (3, _), (7, _), (0, _), (1, _), (2, _)]) 87 dX7_split_84 rfl rfl rfl rfl rfl ?_
        refine zi_goto 19 dX7_split_87 (by decide) ?_
        rw [show nI c + Int32.ofInt 1 = nI (c + 1) from nI_1 c]
        subst e1
        exact zi_lv [0, 1, 2, 4, 5, 6] rfl (ih k1 (c + 1) (ptN P (zLp m)) (m / zLp m) h3 (Nat.lt_of_succ_lt_succ hn) kt3 L_3 hok2 hk1 (by rw [Nat.add_right_comm]; exact hj) (pt_D1 hD eL) (pt_D2 hDl eL) (pt_w1 (W := fun v => h3 (p 14) = some (zFo (z4i v))) hD eL hck zzI (zX0 hq3)))

set_option maxHeartbeats 4000000 in
set_option maxRecDepth 100000 in
theorem s_X7_split (B : zBB) (h : zHp) (p : Nat → Nat) (hp : zInj p) (b : Nat) (i : Int32) (P : i4) (hG : zPt p h) (hb : h b = some (zFo (z4i P))) (hbS : b ≠ p 15) (hok : ptOK P (i4n P).toNat) : zSpec mX7_split B (6, 0, 0) [.ref (p 13), .ref b, .int i] h (zPi (fun x h' => x = nI (ptL 30 P (i4n P).toNat).length ∧ zKp (pF.map p) h h' ∧ ∀ (t : Nat) (v : i4), (ptL 30 P (i4n P).toNat)[t]? = some v → i = nI t → h' (p 14) = some (zFo (z4i v)))) := by
  refine zSpec.of (by decide) (Nat.le_of_ble_eq_true rfl) (fun X hZ => ?_)
  show zG X mX7_split B (6, 0, 0) (0, 0) 0 [(0, .ref (p 13)), (1, .ref b), (2, .int i)] [] h
  obtain ⟨v15, hv15⟩ := hG.2.2 15 (by decide)
  refine zi_aload_n 1 dX7_split_0 rfl rfl ?_
  refine zi_getfield 4 1 dX7_split_1 zcl_X7 tw_219 rfl rfl hG.2.1 rfl rfl ?_
  refine zi_aload_n 5 dX7_split_4 rfl rfl ?_
  refine zc_virtual (n' := (0, 0)) (md' := mX4_become_) 8 dX7_split_5 tw_702 zv_X4_become_ zcl_X4 (s_X4_become_ B h (p 15) v15 hv15 b _ hb) hv15 rfl rfl rfl rfl rfl rfl rfl rfl (zk_u fun h1 hq1 => ?_)
  have k1 := zKp_u (S := pF.map p) hv15 hq1 (zlm (by decide))
  have L_1 := zX0 hq1
  have hb_1 := zX1 hq1 hbS hb
  have o0_1 := zKp_o k1 hG.2.1 (by decide)
  have o1_1 := zKp_o k1 hG.1.1 (by decide)
  refine zi_aload_n 9 dX7_split_8 rfl rfl ?_
  refine zc_virtual (n' := (0, 0)) (md' := mX4_ownNorm) 12 dX7_split_9 tw_703 zv_X4_ownNorm zcl_X4 (s_X4_ownNorm B h1 b _ hb_1) hb_1 rfl rfl rfl rfl rfl rfl rfl rfl (zk_f ?_)
  rw [pt_nm hok]
  refine zi_lstore_n (lv' := [(3, _), (0, _), (1, _), (2, _)]) 13 dX7_split_12 rfl rfl rfl ?_
  refine zi_iconst (v := 0) 14 dX7_split_13 (by decide) rfl ?_
  refine zi_istore (lv' := [(5, _), (3, _), (0, _), (1, _), (2, _)]) 16 dX7_split_14 rfl rfl rfl ?_
  refine zi_iconst (v := 0) 17 dX7_split_16 (by decide) rfl ?_
  refine zi_istore (lv' := [(6, _), (5, _), (3, _), (0, _), (1, _), (2, _)]) 19 dX7_split_17 rfl rfl rfl ?_
  exact zi_lv [0, 1, 2, 3, 4, 5] rfl (l_X7_split B h X p hp b i (ptL 30 P (i4n P).toNat) hG hZ 31 30 0 P (i4n P).toNat h1 (by decide) k1 L_1 hok (Nat.lt_of_le_of_lt (ptOK_q hok).2 (by decide)) (by decide) (fun t => rfl) (by rw [Nat.zero_add]) (fun t v ht => absurd ht (Nat.not_lt_zero _)))
