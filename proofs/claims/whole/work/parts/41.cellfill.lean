set_option maxHeartbeats 4000000 in
set_option maxRecDepth 100000 in
theorem s_X2_numberAt (B : zBB) (h : zHp) (cc tb : Nat) (v1 v2 v3 v4 v5 v6 : Int32) (hc : h cc = some (zO 2 [.ref tb, .int v1, .int v2, .int v3, .int v4, .int v5, .int v6])) (k : Int32) : zSpec mX2_numberAt B (0, 0, 0) [.ref cc, .int k] h (zPf (some (.int (if k = 0 then v1 else if k = 1 then v2 else if k = 2 then v3 else if k = 3 then v4 else if k = 4 then v5 else v6))) h) := by
  refine zSpec.of (by decide) (Nat.le_of_ble_eq_true rfl) (fun X hZ => ?_)
  show zG X mX2_numberAt B (0, 0, 0) (0, 0) 0 [(0, .ref cc), (1, .int k)] [] h
  refine zi_iload_n 1 dX2_numberAt_0 rfl rfl ?_
  refine zi_if_ne 4 11 dX2_numberAt_1 (by decide) rfl (fun zz0 => ?_) (fun zz0 => ?_)
  ·
    refine zi_iload_n 12 dX2_numberAt_11 rfl rfl ?_
    refine zi_iconst (v := 1) 13 dX2_numberAt_12 (by decide) rfl ?_
    refine zi_icmp_ne 16 23 dX2_numberAt_13 (by decide) rfl (fun zz1 => ?_) (fun zz1 => ?_)
    ·
      refine zi_iload_n 24 dX2_numberAt_23 rfl rfl ?_
      refine zi_iconst (v := 2) 25 dX2_numberAt_24 (by decide) rfl ?_
      refine zi_icmp_ne 28 35 dX2_numberAt_25 (by decide) rfl (fun zz2 => ?_) (fun zz2 => ?_)
      ·
        refine zi_iload_n 36 dX2_numberAt_35 rfl rfl ?_
        refine zi_iconst (v := 3) 37 dX2_numberAt_36 (by decide) rfl ?_
        refine zi_icmp_ne 40 47 dX2_numberAt_37 (by decide) rfl (fun zz3 => ?_) (fun zz3 => ?_)
        ·
          refine zi_iload_n 48 dX2_numberAt_47 rfl rfl ?_
          refine zi_iconst (v := 4) 49 dX2_numberAt_48 (by decide) rfl ?_
          refine zi_icmp_ne 52 59 dX2_numberAt_49 (by decide) rfl (fun zz4 => ?_) (fun zz4 => ?_)
          ·
            refine zi_aload_n 60 dX2_numberAt_59 rfl rfl ?_
            refine zi_getfield 63 6 dX2_numberAt_60 zcl_X2 tw_281 rfl rfl hc rfl rfl ?_
            exact zr_int hZ dX2_numberAt_63 rfl rfl ⟨by first | rw [if_pos zz0] | rw [if_neg zz0, if_pos zz1] | rw [if_neg zz0, if_neg zz1, if_pos zz2] | rw [if_neg zz0, if_neg zz1, if_neg zz2, if_pos zz3] | rw [if_neg zz0, if_neg zz1, if_neg zz2, if_neg zz3, if_pos zz4] | rw [if_neg zz0, if_neg zz1, if_neg zz2, if_neg zz3, if_neg zz4], rfl⟩
          ·
            refine zi_aload_n 53 dX2_numberAt_52 rfl rfl ?_
            refine zi_getfield 56 5 dX2_numberAt_53 zcl_X2 tw_280 rfl rfl hc rfl rfl ?_
            refine zi_goto 63 dX2_numberAt_56 (by decide) ?_
            exact zr_int hZ dX2_numberAt_63 rfl rfl ⟨by first | rw [if_pos zz0] | rw [if_neg zz0, if_pos zz1] | rw [if_neg zz0, if_neg zz1, if_pos zz2] | rw [if_neg zz0, if_neg zz1, if_neg zz2, if_pos zz3] | rw [if_neg zz0, if_neg zz1, if_neg zz2, if_neg zz3, if_pos zz4] | rw [if_neg zz0, if_neg zz1, if_neg zz2, if_neg zz3, if_neg zz4], rfl⟩
        ·
          refine zi_aload_n 41 dX2_numberAt_40 rfl rfl ?_
          refine zi_getfield 44 4 dX2_numberAt_41 zcl_X2 tw_279 rfl rfl hc rfl rfl ?_
          refine zi_goto 63 dX2_numberAt_44 (by decide) ?_
          exact zr_int hZ dX2_numberAt_63 rfl rfl ⟨by first | rw [if_pos zz0] | rw [if_neg zz0, if_pos zz1] | rw [if_neg zz0, if_neg zz1, if_pos zz2] | rw [if_neg zz0, if_neg zz1, if_neg zz2, if_pos zz3] | rw [if_neg zz0, if_neg zz1, if_neg zz2, if_neg zz3, if_pos zz4] | rw [if_neg zz0, if_neg zz1, if_neg zz2, if_neg zz3, if_neg zz4], rfl⟩
      ·
        refine zi_aload_n 29 dX2_numberAt_28 rfl rfl ?_
        refine zi_getfield 32 3 dX2_numberAt_29 zcl_X2 tw_278 rfl rfl hc rfl rfl ?_
        refine zi_goto 63 dX2_numberAt_32 (by decide) ?_
        exact zr_int hZ dX2_numberAt_63 rfl rfl ⟨by first | rw [if_pos zz0] | rw [if_neg zz0, if_pos zz1] | rw [if_neg zz0, if_neg zz1, if_pos zz2] | rw [if_neg zz0, if_neg zz1, if_neg zz2, if_pos zz3] | rw [if_neg zz0, if_neg zz1, if_neg zz2, if_neg zz3, if_pos zz4] | rw [if_neg zz0, if_neg zz1, if_neg zz2, if_neg zz3, if_neg zz4], rfl⟩
    ·
      refine zi_aload_n 17 dX2_numberAt_16 rfl rfl ?_
      refine zi_getfield 20 2 dX2_numberAt_17 zcl_X2 tw_277 rfl rfl hc rfl rfl ?_
      refine zi_goto 63 dX2_numberAt_20 (by decide) ?_
      exact zr_int hZ dX2_numberAt_63 rfl rfl ⟨by first | rw [if_pos zz0] | rw [if_neg zz0, if_pos zz1] | rw [if_neg zz0, if_neg zz1, if_pos zz2] | rw [if_neg zz0, if_neg zz1, if_neg zz2, if_pos zz3] | rw [if_neg zz0, if_neg zz1, if_neg zz2, if_neg zz3, if_pos zz4] | rw [if_neg zz0, if_neg zz1, if_neg zz2, if_neg zz3, if_neg zz4], rfl⟩
  ·
    refine zi_aload_n 5 dX2_numberAt_4 rfl rfl ?_
    refine zi_getfield 8 1 dX2_numberAt_5 zcl_X2 tw_276 rfl rfl hc rfl rfl ?_
    refine zi_goto 63 dX2_numberAt_8 (by decide) ?_
    exact zr_int hZ dX2_numberAt_63 rfl rfl ⟨by first | rw [if_pos zz0] | rw [if_neg zz0, if_pos zz1] | rw [if_neg zz0, if_neg zz1, if_pos zz2] | rw [if_neg zz0, if_neg zz1, if_neg zz2, if_pos zz3] | rw [if_neg zz0, if_neg zz1, if_neg zz2, if_neg zz3, if_pos zz4] | rw [if_neg zz0, if_neg zz1, if_neg zz2, if_neg zz3, if_neg zz4], rfl⟩

abbrev isCl (P : i4) (a b c d e g : Nat) : Prop := clA (tabI P) (i4q P) a ∧ clB (tabI P) (i4q P) a b c ∧ clD (tabI P) (i4q P) a c d e g
theorem isCl_u {P : i4} {a b c d e g a' b' c' d' e' g' : Nat} (h : isCl P a b c d e g) (h' : isCl P a' b' c' d' e' g') : a = a' ∧ b = b' ∧ c = c' ∧ d = d' ∧ e = e' ∧ g = g' := by
  have e1 := clA_u h.1 h'.1
  subst e1
  obtain ⟨e2, e3⟩ := clB_u h.2.1 h'.2.1
  subst e3
  obtain ⟨e4, e5, e6⟩ := clD_u h.2.2 h'.2.2
  exact ⟨rfl, e2, rfl, e4, e5, e6⟩
theorem i4q_nb {P : i4} (h : i4V P) : (i4q P).natAbs < 9223372036854775808 := by
  have := i4q_nn P
  have := h.2
  omega

set_option maxHeartbeats 4000000 in
set_option maxRecDepth 100000 in
theorem s_X2_fill (B : zBB) (h : zHp) (cc tb q : Nat) (v1 v2 v3 v4 v5 v6 : Int32) (l0 : Int64) (u : Nat → Int64) (hc : h cc = some (zO 2 [.ref tb, .int v1, .int v2, .int v3, .int v4, .int v5, .int v6])) (htb : h tb = some (zO 8 [.long l0, .ref q])) (hq : h q = some (zJ B 9 u)) (b : Nat) (P : i4) (hb : h b = some (zFo (z4i P))) (hV : i4V P) (h0 : i4q P ≠ 0) (hK : idx P ≤ 300) : zSpec mX2_fill B (4, 0, 0) [.ref cc, .ref b] h (zPv (fun h' => ∃ (a b c d e g : Nat) (l : Int64) (u' : Nat → Int64), isCl P a b c d e g ∧ h' = zU (zU (zU h tb (zO 8 [.long l, .ref q])) q (zJ B 9 u')) cc (zO 2 [.ref tb, .int (nI a), .int (nI b), .int (nI c), .int (nI d), .int (nI e), .int (nI g)]))) := by
  refine zSpec.of (by decide) (Nat.le_of_ble_eq_true rfl) (fun X hZ => ?_)
  show zG X mX2_fill B (4, 0, 0) (0, 0) 0 [(0, .ref cc), (1, .ref b)] [] h
  obtain ⟨K1, Ka, Kb, Kd⟩ := cl_ex hV h0
  have hl := zqpos h0
  have hl2 := i4q_nb hV
  refine zi_aload_n 1 dX2_fill_0 rfl rfl ?_
  refine zi_getfield 4 0 dX2_fill_1 zcl_X2 tw_275 rfl rfl hc rfl rfl ?_
  refine zi_aload_n 5 dX2_fill_4 rfl rfl ?_
  refine zc_virtual (n' := (0, 0)) (md' := mX8_fill) 8 dX2_fill_5 tw_832 zv_X8_fill zcl_X8 (s_X8_fill B h tb q l0 u htb hq b (z4i P) hb) htb rfl rfl rfl rfl rfl rfl rfl rfl (zk_v fun h1 hp1 => ?_)
  obtain ⟨u', e1, hu⟩ := hp1
  rw [z4i_sq] at e1
  have hu2 : ∀ i, i < 9 → u' i = iz (tabI P i) := fun i hi => (hu i hi).trans (tabZ_i P i)
  have hq_1 := zX0 e1
  have ht_1 : h1 tb = some (zO 8 [.long (iz (i4q P)), .ref q]) := by rw [e1, zU_n _ _ (zneC htb hq (by simp)), zU_s]
  have hc_1 : h1 cc = some (zO 2 [.ref tb, .int v1, .int v2, .int v3, .int v4, .int v5, .int v6]) := by rw [e1, zU_n _ _ (zneC hc hq (by simp)), zU_n _ _ (zneC hc htb (by simp)), hc]
  refine zi_aload_n 9 dX2_fill_8 rfl rfl ?_
  refine zc_virtual (n' := (0, 0)) (md' := mX2_seekFirst) 12 dX2_fill_9 tw_833 zv_X2_seekFirst zcl_X2 (s_X2_seekFirst B h1 cc tb q u' (tabI P) (i4q P) v1 v2 v3 v4 v5 v6 hc_1 ht_1 hq_1 hu2 hl hl2 (tab_b hV) (idx P) K1 hK Ka) hc_1 rfl rfl rfl rfl rfl rfl rfl rfl (zk_v fun h2 hp2 => ?_)
  obtain ⟨a, cA, aK, e2⟩ := hp2
  have hc_2 := zX0 e2
  have hq_2 := zX1 e2 (zneC hq_1 hc_1 (by simp)) hq_1
  have ht_2 := zX1 e2 (zneC ht_1 hc_1 (by simp)) ht_1
  refine zi_aload_n 13 dX2_fill_12 rfl rfl ?_
  refine zc_virtual (n' := (0, 0)) (md' := mX2_seekSecond) 16 dX2_fill_13 tw_841 zv_X2_seekSecond zcl_X2 (s_X2_seekSecond B h2 a cc tb q u' (tabI P) (i4q P) v2 v3 v4 v5 v6 hc_2 ht_2 hq_2 hu2 hl hl2 (tab_b hV) (idx P) K1 hK cA.1 aK Kb) hc_2 rfl rfl rfl rfl rfl rfl rfl rfl (zk_v fun h3 hp3 => ?_)
  obtain ⟨b1, c1, cB, cK, e3⟩ := hp3
  rw [e2, zU_u] at e3
  have hc_3 := zX0 e3
  have hq_3 := zX1 e3 (zneC hq_1 hc_1 (by simp)) hq_1
  have ht_3 := zX1 e3 (zneC ht_1 hc_1 (by simp)) ht_1
  refine zi_aload_n 17 dX2_fill_16 rfl rfl ?_
  refine zc_virtual (n' := (0, 0)) (md' := mX2_seekThird) 20 dX2_fill_17 tw_845 zv_X2_seekThird zcl_X2 (s_X2_seekThird B h3 b1 c1 a cc tb q u' (tabI P) (i4q P) v4 v5 v6 hc_3 ht_3 hq_3 hu2 hl hl2 (tab_b hV) (idx P) K1 hK cA.1 aK cB.2.1 cK Kd) hc_3 rfl rfl rfl rfl rfl rfl rfl rfl (zk_v fun h4 hp4 => ?_)
  obtain ⟨d1, g1, f1, cD, e4⟩ := hp4
  rw [e3, zU_u, e1] at e4
  exact zr_void hZ dX2_fill_20 rfl ⟨rfl, a, b1, c1, d1, g1, f1, _, u', ⟨cA, cB, cD⟩, e4⟩
