theorem as_e {k : Nat} (hk : k ≤ 24) (h : nI k ≥ (24 : Int32)) : k = 24 := by
  rw [ge_iff_le, show (24 : Int32) = nI 24 from rfl, nI_leI (by omega) (by omega)] at h
  omega
theorem as_l {k : Nat} (hk : k ≤ 24) (h : ¬ nI k ≥ (24 : Int32)) : k < 24 := by
  rw [ge_iff_le, show (24 : Int32) = nI 24 from rfl, nI_leI (by omega) (by omega)] at h
  omega
theorem zks {N k n : Nat} (h : N - k < n + 1) (h2 : k < N) : N - (k + 1) < n := by omega

set_option maxHeartbeats 8000000 in
set_option maxRecDepth 100000 in
theorem l_X1_seek (B : zBB) (h : zHp) (X : zX) (a rs un pr b : Nat) (P : i4) (s : Int32) (hP : i4o P) (lP : i4l P 2147483648) (d1 : rs ≠ un) (d2 : rs ≠ pr) (d3 : un ≠ pr) (b1 : b ≠ rs) (b2 : b ≠ un) (b3 : b ≠ pr) (U0 V0 R0 : z4) (ha : h a = some (zO 1 [.ref rs, .ref un, .ref pr])) (hr0 : h rs = some (zFo R0)) (hu0 : h un = some (zFo U0)) (hp0 : h pr = some (zFo V0)) (hb : h b = some (zFo (z4i P))) (hZ : zIsP X mX1_seek B (0, 0) (zPv (fun h' => ∃ U V : z4, h' = zU (zU (zU h un (zFo U)) pr (zFo V)) rs (zFo (z4i (asI s P)))))) : ∀ (n k : Nat) (U V : z4) (h1 : zHp), 24 - k < n → h1 = zU (zU (zU h un (zFo U)) pr (zFo V)) rs (zFo (z4i (asC s P k))) → k ≤ 24 → zG X mX1_seek B (2, 0, 0) (0, 0) 10 [(3, .int (nI k)), (0, .ref a), (1, .ref b), (2, .int s)] [] h1 := by
  intro n
  induction n with
  | zero => intro k U V h1 hn; exact absurd hn (Nat.not_lt_zero _)
  | succ n ih =>
    intro k U V h1 hn hh hk
    have ha1 : h1 a = some (zO 1 [.ref rs, .ref un, .ref pr]) := by rw [hh, zU_n _ _ (zneC ha hr0 (by simp)), zU_n _ _ (zneC ha hp0 (by simp)), zU_n _ _ (zneC ha hu0 (by simp)), ha]
    have hr1 : h1 rs = some (zFo (z4i (asC s P k))) := by rw [hh, zU_s]
    have hu1 : h1 un = some (zFo U) := by rw [hh, zU_n _ _ d1.symm, zU_n _ _ d3, zU_s]
    have hp1 : h1 pr = some (zFo V) := by rw [hh, zU_n _ _ d2.symm, zU_s]
    have hb1 : h1 b = some (zFo (z4i P)) := by rw [hh, zU_n _ _ b1, zU_n _ _ b3, zU_n _ _ b2, hb]
    refine zi_iload_n 11 dX1_seek_10 rfl rfl ?_
    refine zi_bipush (v := 24) 13 dX1_seek_11 (by decide) rfl ?_
    refine zi_icmp_ge 16 86 dX1_seek_13 (by decide) rfl (fun zzK => ?_) (fun zzK => ?_)
    ·
      have hk24 : k = 24 := as_e hk zzK
      subst hk24
      exact zr_void hZ dX1_seek_86 rfl ⟨rfl, U, V, by rw [hh, asC_as]⟩
    ·
      have hk24 : k < 24 := as_l hk zzK
      obtain ⟨hz, ho, hl2, hq4⟩ := unI_all k hk24
      obtain ⟨hpz, hpl, hpo⟩ := prI_z (s := s) ho hP hl2 lP
      have hcl := asC_l (s := s) hP lP k hk
      refine zi_aload_n 17 dX1_seek_16 rfl rfl ?_
      refine zi_getfield 20 1 dX1_seek_17 zcl_X1 tw_168 rfl rfl ha1 rfl rfl ?_
      refine zi_iload_n 21 dX1_seek_20 rfl rfl ?_
      refine zc_virtual (n' := (0, 0)) (md' := mX4_becomeUnit) 24 dX1_seek_21 tw_674 zv_X4_becomeUnit zcl_X4 (s_X4_becomeUnit B h1 un U hu1 (nI k)) hu1 rfl rfl rfl rfl rfl rfl rfl rfl (zk_u fun g1 hq1 => ?_)
      rw [hz] at hq1
      have ha_q1 := zX1 hq1 (zneC ha1 hu1 (by simp)) ha1
      have hr_q1 := zX1 hq1 (d1) hr1
      have hu_q1 := zX0 hq1
      have hp_q1 := zX1 hq1 (d3.symm) hp1
      have hb_q1 := zX1 hq1 (b2) hb1
      refine zi_iload_n 25 dX1_seek_24 rfl rfl ?_
      refine zi_if_ne 28 43 dX1_seek_25 (by decide) rfl (fun zzS => ?_) (fun zzS => ?_)
      ·
        refine zi_aload_n 44 dX1_seek_43 rfl rfl ?_
        refine zi_getfield 47 2 dX1_seek_44 zcl_X1 tw_169 rfl rfl ha_q1 rfl rfl ?_
        refine zi_aload_n 48 dX1_seek_47 rfl rfl ?_
        refine zi_aload_n 49 dX1_seek_48 rfl rfl ?_
        refine zi_getfield 52 1 dX1_seek_49 zcl_X1 tw_168 rfl rfl ha_q1 rfl rfl ?_
        refine zc_virtual (n' := (0, 0)) (md' := mX4_becomeProduct) 55 dX1_seek_52 tw_679 zv_X4_becomeProduct zcl_X4 (s_X4_becomeProduct B g1 pr V hp_q1 b _ hb_q1 un _ hu_q1) hp_q1 rfl rfl rfl rfl rfl rfl rfl rfl (zk_u fun g2 hq2 => ?_)
        rw [(if_neg zzS).symm.trans hpz] at hq2
        have ha_q2 := zX1 hq2 (zneC ha1 hp1 (by simp)) ha_q1
        have hr_q2 := zX1 hq2 (d2) hr_q1
        have hu_q2 := zX1 hq2 (d3) hu_q1
        have hp_q2 := zX0 hq2
        have hb_q2 := zX1 hq2 (b3) hb_q1
        refine zi_aload_n 56 dX1_seek_55 rfl rfl ?_
        refine zi_getfield 59 0 dX1_seek_56 zcl_X1 tw_165 rfl rfl ha_q2 rfl rfl ?_
        refine zi_aload_n 60 dX1_seek_59 rfl rfl ?_
        refine zi_getfield 63 2 dX1_seek_60 zcl_X1 tw_169 rfl rfl ha_q2 rfl rfl ?_
        refine zc_virtual (n' := (0, 0)) (md' := mX4_isLessThan) 66 dX1_seek_63 tw_680 zv_X4_isLessThan zcl_X4 (s_X4_isLessThan B g2 rs (z4i (asC s P k)) hr_q2 pr _ hp_q2) hr_q2 rfl rfl rfl rfl rfl rfl rfl rfl (zk_f ?_)
        refine zb_eq 69 80 dX1_seek_66 (by decide) rfl (fun zzL => ?_) (fun zzL => ?_)
        ·
          rw [i4t_z hcl hpl] at zzL
          refine zi_iinc (lv' := [(3, _), (0, _), (1, _), (2, _)]) 83 dX1_seek_80 rfl rfl rfl rfl rfl ?_
          refine zi_goto 10 dX1_seek_83 (by decide) ?_
          rw [show nI k + Int32.ofInt 1 = nI (k + 1) from nI_1 k]
          exact zi_lv [0, 1, 2, 3] rfl (ih (k + 1) (z4i (unI k)) (z4i (prI (unI k) P s)) _ (zks hn hk24) (by first | (rw [hq3, hq2, hq1, hh, asC, if_pos zzL]; exact zU_3 d1 d2 d3) | (rw [hq2, hq1, hh, asC, if_neg zzL]; exact zU_2 d1 d2 d3)) hk24)
        ·
          rw [i4t_z hcl hpl] at zzL
          refine zi_aload_n 70 dX1_seek_69 rfl rfl ?_
          refine zi_getfield 73 0 dX1_seek_70 zcl_X1 tw_165 rfl rfl ha_q2 rfl rfl ?_
          refine zi_aload_n 74 dX1_seek_73 rfl rfl ?_
          refine zi_getfield 77 2 dX1_seek_74 zcl_X1 tw_169 rfl rfl ha_q2 rfl rfl ?_
          refine zc_virtual (n' := (0, 0)) (md' := mX4_become_) 80 dX1_seek_77 tw_673 zv_X4_become_ zcl_X4 (s_X4_become_ B g2 rs _ hr_q2 pr _ hp_q2) hr_q2 rfl rfl rfl rfl rfl rfl rfl rfl (zk_u fun g3 hq3 => ?_)
          refine zi_iinc (lv' := [(3, _), (0, _), (1, _), (2, _)]) 83 dX1_seek_80 rfl rfl rfl rfl rfl ?_
          refine zi_goto 10 dX1_seek_83 (by decide) ?_
          rw [show nI k + Int32.ofInt 1 = nI (k + 1) from nI_1 k]
          exact zi_lv [0, 1, 2, 3] rfl (ih (k + 1) (z4i (unI k)) (z4i (prI (unI k) P s)) _ (zks hn hk24) (by first | (rw [hq3, hq2, hq1, hh, asC, if_pos zzL]; exact zU_3 d1 d2 d3) | (rw [hq2, hq1, hh, asC, if_neg zzL]; exact zU_2 d1 d2 d3)) hk24)
      ·
        refine zi_aload_n 29 dX1_seek_28 rfl rfl ?_
        refine zi_getfield 32 2 dX1_seek_29 zcl_X1 tw_169 rfl rfl ha_q1 rfl rfl ?_
        refine zi_aload_n 33 dX1_seek_32 rfl rfl ?_
        refine zi_getfield 36 1 dX1_seek_33 zcl_X1 tw_168 rfl rfl ha_q1 rfl rfl ?_
        refine zi_aload_n 37 dX1_seek_36 rfl rfl ?_
        refine zc_virtual (n' := (0, 0)) (md' := mX4_becomeProduct) 40 dX1_seek_37 tw_679 zv_X4_becomeProduct zcl_X4 (s_X4_becomeProduct B g1 pr V hp_q1 un _ hu_q1 b _ hb_q1) hp_q1 rfl rfl rfl rfl rfl rfl rfl rfl (zk_u fun g2 hq2 => ?_)
        rw [(if_pos zzS).symm.trans hpz] at hq2
        have ha_q2 := zX1 hq2 (zneC ha1 hp1 (by simp)) ha_q1
        have hr_q2 := zX1 hq2 (d2) hr_q1
        have hu_q2 := zX1 hq2 (d3) hu_q1
        have hp_q2 := zX0 hq2
        have hb_q2 := zX1 hq2 (b3) hb_q1
        refine zi_goto 55 dX1_seek_40 (by decide) ?_
        refine zi_aload_n 56 dX1_seek_55 rfl rfl ?_
        refine zi_getfield 59 0 dX1_seek_56 zcl_X1 tw_165 rfl rfl ha_q2 rfl rfl ?_
        refine zi_aload_n 60 dX1_seek_59 rfl rfl ?_
        refine zi_getfield 63 2 dX1_seek_60 zcl_X1 tw_169 rfl rfl ha_q2 rfl rfl ?_
        refine zc_virtual (n' := (0, 0)) (md' := mX4_isLessThan) 66 dX1_seek_63 tw_680 zv_X4_isLessThan zcl_X4 (s_X4_isLessThan B g2 rs (z4i (asC s P k)) hr_q2 pr _ hp_q2) hr_q2 rfl rfl rfl rfl rfl rfl rfl rfl (zk_f ?_)
        refine zb_eq 69 80 dX1_seek_66 (by decide) rfl (fun zzL => ?_) (fun zzL => ?_)
        ·
          rw [i4t_z hcl hpl] at zzL
          refine zi_iinc (lv' := [(3, _), (0, _), (1, _), (2, _)]) 83 dX1_seek_80 rfl rfl rfl rfl rfl ?_
          refine zi_goto 10 dX1_seek_83 (by decide) ?_
          rw [show nI k + Int32.ofInt 1 = nI (k + 1) from nI_1 k]
          exact zi_lv [0, 1, 2, 3] rfl (ih (k + 1) (z4i (unI k)) (z4i (prI (unI k) P s)) _ (zks hn hk24) (by first | (rw [hq3, hq2, hq1, hh, asC, if_pos zzL]; exact zU_3 d1 d2 d3) | (rw [hq2, hq1, hh, asC, if_neg zzL]; exact zU_2 d1 d2 d3)) hk24)
        ·
          rw [i4t_z hcl hpl] at zzL
          refine zi_aload_n 70 dX1_seek_69 rfl rfl ?_
          refine zi_getfield 73 0 dX1_seek_70 zcl_X1 tw_165 rfl rfl ha_q2 rfl rfl ?_
          refine zi_aload_n 74 dX1_seek_73 rfl rfl ?_
          refine zi_getfield 77 2 dX1_seek_74 zcl_X1 tw_169 rfl rfl ha_q2 rfl rfl ?_
          refine zc_virtual (n' := (0, 0)) (md' := mX4_become_) 80 dX1_seek_77 tw_673 zv_X4_become_ zcl_X4 (s_X4_become_ B g2 rs _ hr_q2 pr _ hp_q2) hr_q2 rfl rfl rfl rfl rfl rfl rfl rfl (zk_u fun g3 hq3 => ?_)
          refine zi_iinc (lv' := [(3, _), (0, _), (1, _), (2, _)]) 83 dX1_seek_80 rfl rfl rfl rfl rfl ?_
          refine zi_goto 10 dX1_seek_83 (by decide) ?_
          rw [show nI k + Int32.ofInt 1 = nI (k + 1) from nI_1 k]
          exact zi_lv [0, 1, 2, 3] rfl (ih (k + 1) (z4i (unI k)) (z4i (prI (unI k) P s)) _ (zks hn hk24) (by first | (rw [hq3, hq2, hq1, hh, asC, if_pos zzL]; exact zU_3 d1 d2 d3) | (rw [hq2, hq1, hh, asC, if_neg zzL]; exact zU_2 d1 d2 d3)) hk24)

set_option maxHeartbeats 4000000 in
set_option maxRecDepth 100000 in
theorem s_X1_seek (B : zBB) (h : zHp) (a rs un pr b : Nat) (P : i4) (s : Int32) (hP : i4o P) (lP : i4l P 2147483648) (d1 : rs ≠ un) (d2 : rs ≠ pr) (d3 : un ≠ pr) (b1 : b ≠ rs) (b2 : b ≠ un) (b3 : b ≠ pr) (U0 V0 R0 : z4) (ha : h a = some (zO 1 [.ref rs, .ref un, .ref pr])) (hr0 : h rs = some (zFo R0)) (hu0 : h un = some (zFo U0)) (hp0 : h pr = some (zFo V0)) (hb : h b = some (zFo (z4i P))) : zSpec mX1_seek B (2, 0, 0) [.ref a, .ref b, .int s] h (zPv (fun h' => ∃ U V : z4, h' = zU (zU (zU h un (zFo U)) pr (zFo V)) rs (zFo (z4i (asI s P))))) := by
  refine zSpec.of (by decide) (Nat.le_of_ble_eq_true rfl) (fun X hZ => ?_)
  show zG X mX1_seek B (2, 0, 0) (0, 0) 0 [(0, .ref a), (1, .ref b), (2, .int s)] [] h
  refine zi_aload_n 1 dX1_seek_0 rfl rfl ?_
  refine zi_getfield 4 0 dX1_seek_1 zcl_X1 tw_165 rfl rfl ha rfl rfl ?_
  refine zi_aload_n 5 dX1_seek_4 rfl rfl ?_
  refine zc_virtual (n' := (0, 0)) (md' := mX4_become_) 8 dX1_seek_5 tw_673 zv_X4_become_ zcl_X4 (s_X4_become_ B h rs R0 hr0 b _ hb) hr0 rfl rfl rfl rfl rfl rfl rfl rfl (zk_u fun h1 hh => ?_)
  refine zi_iconst (v := 0) 9 dX1_seek_8 (by decide) rfl ?_
  refine zi_istore_n (lv' := [(3, _), (0, _), (1, _), (2, _)]) 10 dX1_seek_9 rfl rfl rfl ?_
  exact zi_lv [0, 1, 2, 3] rfl (l_X1_seek B h X a rs un pr b P s hP lP d1 d2 d3 b1 b2 b3 U0 V0 R0 ha hr0 hu0 hp0 hb hZ 25 0 U0 V0 h1 (by omega) (by rw [hh, zU_i h hu0, zU_i h hp0]; rfl) (by omega))
