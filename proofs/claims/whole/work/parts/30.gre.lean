theorem s_X3_dv (B : zBB) (h : zHp) (a qn rs fr hv b c : Nat) (P Q : i4) (s : Int32) (ha : h a = some (zO 3 [.ref qn, .ref rs, .ref fr, .ref hv])) (hq : ∃ v : z4, h qn = some (zFo v)) (hr : ∃ v : z4, h rs = some (zFo v)) (hf : ∃ v : z4, h fr = some (zFo v)) (hv0 : ∃ v : z4, h hv = some (zFo v)) (hb : h b = some (zFo (z4i P))) (hc : h c = some (zFo (z4i Q))) (d1 : qn ≠ hv) (d2 : qn ≠ fr) (d3 : hv ≠ fr) (d4 : rs ≠ qn) (d5 : rs ≠ fr) (d6 : rs ≠ hv) (b1 : b ∉ [qn, rs, fr, hv]) (c1 : c ∉ [qn, rs, fr, hv]) (hok : dvOK P Q) : zSpec mX3_divide B (3, 0, 0) [.ref a, .ref b, .ref c, .int s] h (zPv (fun h' => zKp [qn, rs, fr, hv] h h' ∧ h' qn = some (zFo (z4i (dvT P Q s))) ∧ h' rs = some (zFo (z4i (dvR P Q s))))) := by
  obtain ⟨Q0, hq⟩ := hq
  obtain ⟨R0, hr⟩ := hr
  obtain ⟨F0, hf⟩ := hf
  obtain ⟨V0, hv0⟩ := hv0
  simp only [List.mem_cons, List.not_mem_nil, or_false, not_or] at b1 c1
  refine (s_X3_divide B h a qn rs fr hv b c Q0 R0 F0 V0 P Q s ha hq hr hf hv0 hb hc d1 d2 d3 d4 d5 d6 b1.1 b1.2.1 b1.2.2.1 b1.2.2.2 c1.1 c1.2.1 c1.2.2.1 c1.2.2.2 hok).post ?_
  rintro v h' ⟨hvv, F, V, rfl⟩
  refine ⟨hvv, ?_, ?_, ?_⟩
  · refine zKp_t (zKp_u hf rfl (by simp)) (zKp_t (zKp_u (v := V0) (a := hv) ?_ rfl (by simp)) (zKp_t (zKp_u (v := Q0) (a := qn) ?_ rfl (by simp)) (zKp_u (v := R0) (a := rs) ?_ rfl (by simp))))
    · rw [zU_n _ _ d3, hv0]
    · rw [zU_n _ _ d1, zU_n _ _ d2, hq]
    · rw [zU_n _ _ d4, zU_n _ _ d6, zU_n _ _ d5, hr]
  · rw [zU_n _ _ d4.symm, zU_s]
  · rw [zU_s]
theorem s_X1_sk (B : zBB) (h : zHp) (a rs un pr b : Nat) (P : i4) (s : Int32) (hP : i4o P) (lP : i4l P 2147483648) (d1 : rs ≠ un) (d2 : rs ≠ pr) (d3 : un ≠ pr) (b1 : b ∉ [rs, un, pr]) (ha : h a = some (zO 1 [.ref rs, .ref un, .ref pr])) (hr0 : ∃ v : z4, h rs = some (zFo v)) (hu0 : ∃ v : z4, h un = some (zFo v)) (hp0 : ∃ v : z4, h pr = some (zFo v)) (hb : h b = some (zFo (z4i P))) : zSpec mX1_seek B (2, 0, 0) [.ref a, .ref b, .int s] h (zPv (fun h' => zKp [rs, un, pr] h h' ∧ h' rs = some (zFo (z4i (asI s P))))) := by
  obtain ⟨R0, hr0⟩ := hr0
  obtain ⟨U0, hu0⟩ := hu0
  obtain ⟨V0, hp0⟩ := hp0
  simp only [List.mem_cons, List.not_mem_nil, or_false, not_or] at b1
  refine (s_X1_seek B h a rs un pr b P s hP lP d1 d2 d3 b1.1 b1.2.1 b1.2.2 U0 V0 R0 ha hr0 hu0 hp0 hb).post ?_
  rintro v h' ⟨hv, U, V, rfl⟩
  refine ⟨hv, ?_, by rw [zU_s]⟩
  refine zKp_t (zKp_u hu0 rfl (by simp)) (zKp_t (zKp_u (v := V0) (a := pr) ?_ rfl (by simp)) (zKp_u (v := R0) (a := rs) ?_ rfl (by simp)))
  · rw [zU_n _ _ d3.symm, hp0]
  · rw [zU_n _ _ d2, zU_n _ _ d1, hr0]
abbrev gF : List Nat := [1, 2, 3, 6, 7, 8, 9, 10, 11, 12]
abbrev zGt (g : Nat → Nat) (h : zHp) : Prop := h (g 0) = some (zO 5 [.ref (g 1), .ref (g 2), .ref (g 3), .ref (g 4), .ref (g 5)]) ∧ h (g 4) = some (zO 3 [.ref (g 6), .ref (g 7), .ref (g 8), .ref (g 9)]) ∧ h (g 5) = some (zO 1 [.ref (g 10), .ref (g 11), .ref (g 12)]) ∧ ∀ i, i ∈ gF → ∃ v : z4, h (g i) = some (zFo v)
theorem gm {g : Nat → Nat} {i : Nat} (h : i ∈ gF) : g i ∈ gF.map g := List.mem_map.mpr ⟨i, h, rfl⟩
theorem gms {g : Nat → Nat} {l : List Nat} (h : ∀ i ∈ l, i ∈ gF) : ∀ x, x ∈ l.map g → x ∈ gF.map g := fun x hx => by
  obtain ⟨i, hi, e⟩ := List.mem_map.mp hx
  exact List.mem_map.mpr ⟨i, h i hi, e⟩
theorem gr_j {j k : Nat} (h : j + k ≤ 63) : ¬ (1000000 : Int32) ≤ nI j := by
  rw [show (1000000 : Int32) = nI 1000000 from rfl, nI_leI (by omega) (by omega)]
  omega
theorem zzGe {x y : Int32} {P : Prop} (h : y ≤ x) (h2 : ¬ y ≤ x) : P := absurd h h2

theorem zqpos {Q : i4} (h : ¬ i4q Q = 0) : 0 < i4q Q := Int.lt_iff_le_and_ne.mpr ⟨i4q_nn Q, fun e => h e.symm⟩
set_option maxHeartbeats 8000000 in
set_option maxRecDepth 100000 in
theorem l_X5_seek (B : zBB) (h : zHp) (X : zX) (g : Nat → Nat) (hg : zInj g) (b c : Nat) (s : Int32) (G : i4) (hG : zGt g h) (hZ : zIsP X mX5_seek B (0, 0) (zPv (fun h' => zKp (gF.map g) h h' ∧ h' (g 1) = some (zFo (z4i (asI (if s = 0 then 1 else 0) G)))))) : ∀ (n k j : Nat) (P Q : i4) (h1 : zHp), k < n → zKp (gF.map g) h h1 → h1 (g 2) = some (zFo (z4i P)) → h1 (g 3) = some (zFo (z4i Q)) → grOK P Q → i4q Q < 2 ^ k → j + k ≤ 63 → grS s (k + 1) P Q = G → zG X mX5_seek B (4, 0, 0) (0, 0) 19 [(4, .int (nI j)), (0, .ref (g 0)), (1, .ref b), (2, .ref c), (3, .int s)] [] h1 := by
  intro n
  induction n with
  | zero => intro k j P Q h1 hn; exact absurd hn (Nat.not_lt_zero _)
  | succ n ih =>
    intro k j P Q h1 hn kt f2 f3 hok hk hj hS
    have o0_1 := zKp_o kt hG.1 (by decide)
    have o1_1 := zKp_o kt hG.2.1 (by decide)
    have o2_1 := zKp_o kt hG.2.2.1 (by decide)
    refine zi_iload 21 dX5_seek_19 rfl rfl ?_
    refine zi_ldc 23 dX5_seek_21 tw_666 rfl ?_
    refine zi_icmp_ge 26 83 dX5_seek_23 (by decide) rfl (fun zzJ => absurd zzJ (gr_j hj)) (fun zzJ => ?_)
    refine zi_aload_n 27 dX5_seek_26 rfl rfl ?_
    refine zi_getfield 30 2 dX5_seek_27 zcl_X5 tw_193 rfl rfl o0_1 rfl rfl ?_
    refine zc_virtual (n' := (0, 0)) (md' := mX4_isZero) 33 dX5_seek_30 tw_667 zv_X4_isZero zcl_X4 (s_X4_isZero B h1 (g 3) _ f3) f3 rfl rfl rfl rfl rfl rfl rfl rfl (zk_f ?_)
    refine zb_ne 36 83 dX5_seek_33 (by decide) rfl (fun zzZ => ?_) (fun zzZ => ?_)
    ·
      rw [z4i_nil hok.2.2.2.1] at zzZ
      have eG := (gr_e (s := s) (k := k) zzZ).symm.trans hS
      subst eG
      refine zi_aload_n 84 dX5_seek_83 rfl rfl ?_
      refine zi_getfield 87 4 dX5_seek_84 zcl_X5 tw_195 rfl rfl o0_1 rfl rfl ?_
      refine zi_aload_n 88 dX5_seek_87 rfl rfl ?_
      refine zi_getfield 91 1 dX5_seek_88 zcl_X5 tw_192 rfl rfl o0_1 rfl rfl ?_
      refine zi_iload_n 92 dX5_seek_91 rfl rfl ?_
      refine zi_if_ne 95 99 dX5_seek_92 (by decide) rfl (fun zzS => ?_) (fun zzS => ?_)
      ·
        refine zi_iconst (v := 0) 100 dX5_seek_99 (by decide) rfl ?_
        refine zc_virtual (n' := (0, 0)) (md' := mX1_seek) 103 dX5_seek_100 tw_669 zv_X1_seek zcl_X1 (s_X1_sk B h1 (g 5) (g 10) (g 11) (g 12) (g 2) P 0 hok.1 hok.2.2.1 (hg.ne (by decide)) (hg.ne (by decide)) (hg.ne (by decide)) (hg.nm (l := [10, 11, 12]) (i := 2) (by decide)) o2_1 (zKp_f kt (hG.2.2.2 10 (by decide))) (zKp_f kt (hG.2.2.2 11 (by decide))) (zKp_f kt (hG.2.2.2 12 (by decide))) f2) o2_1 rfl rfl rfl rfl rfl rfl rfl rfl (zk_v fun h2 hp2 => ?_)
        obtain ⟨k2, r10⟩ := hp2
        have kt2 := zKp_t kt (zKp_m k2 (gms (l := [10, 11, 12]) (by decide)))
        have o0_2 := zKp_o kt2 hG.1 (by decide)
        have o1_2 := zKp_o kt2 hG.2.1 (by decide)
        have o2_2 := zKp_o kt2 hG.2.2.1 (by decide)
        obtain ⟨v1, hv1⟩ := zKp_f kt2 (hG.2.2.2 1 (by decide))
        refine zi_aload_n 104 dX5_seek_103 rfl rfl ?_
        refine zi_getfield 107 0 dX5_seek_104 zcl_X5 tw_189 rfl rfl o0_2 rfl rfl ?_
        refine zi_aload_n 108 dX5_seek_107 rfl rfl ?_
        refine zi_getfield 111 4 dX5_seek_108 zcl_X5 tw_195 rfl rfl o0_2 rfl rfl ?_
        refine zi_getfield 114 0 dX5_seek_111 zcl_X1 tw_166 rfl rfl o2_2 rfl rfl ?_
        refine zc_virtual (n' := (0, 0)) (md' := mX4_become_) 117 dX5_seek_114 tw_665 zv_X4_become_ zcl_X4 (s_X4_become_ B h2 (g 1) v1 hv1 (g 10) _ r10) hv1 rfl rfl rfl rfl rfl rfl rfl rfl (zk_u fun h3 hq3 => ?_)
        exact zr_void hZ dX5_seek_117 rfl ⟨rfl, zKp_t kt2 (zKp_u hv1 hq3 (gm (by decide))), by rw [zX0 hq3]; first | rw [if_pos zzS] | rw [if_neg zzS]⟩
      ·
        refine zi_iconst (v := 1) 96 dX5_seek_95 (by decide) rfl ?_
        refine zi_goto 100 dX5_seek_96 (by decide) ?_
        refine zc_virtual (n' := (0, 0)) (md' := mX1_seek) 103 dX5_seek_100 tw_669 zv_X1_seek zcl_X1 (s_X1_sk B h1 (g 5) (g 10) (g 11) (g 12) (g 2) P 1 hok.1 hok.2.2.1 (hg.ne (by decide)) (hg.ne (by decide)) (hg.ne (by decide)) (hg.nm (l := [10, 11, 12]) (i := 2) (by decide)) o2_1 (zKp_f kt (hG.2.2.2 10 (by decide))) (zKp_f kt (hG.2.2.2 11 (by decide))) (zKp_f kt (hG.2.2.2 12 (by decide))) f2) o2_1 rfl rfl rfl rfl rfl rfl rfl rfl (zk_v fun h2 hp2 => ?_)
        obtain ⟨k2, r10⟩ := hp2
        have kt2 := zKp_t kt (zKp_m k2 (gms (l := [10, 11, 12]) (by decide)))
        have o0_2 := zKp_o kt2 hG.1 (by decide)
        have o1_2 := zKp_o kt2 hG.2.1 (by decide)
        have o2_2 := zKp_o kt2 hG.2.2.1 (by decide)
        obtain ⟨v1, hv1⟩ := zKp_f kt2 (hG.2.2.2 1 (by decide))
        refine zi_aload_n 104 dX5_seek_103 rfl rfl ?_
        refine zi_getfield 107 0 dX5_seek_104 zcl_X5 tw_189 rfl rfl o0_2 rfl rfl ?_
        refine zi_aload_n 108 dX5_seek_107 rfl rfl ?_
        refine zi_getfield 111 4 dX5_seek_108 zcl_X5 tw_195 rfl rfl o0_2 rfl rfl ?_
        refine zi_getfield 114 0 dX5_seek_111 zcl_X1 tw_166 rfl rfl o2_2 rfl rfl ?_
        refine zc_virtual (n' := (0, 0)) (md' := mX4_become_) 117 dX5_seek_114 tw_665 zv_X4_become_ zcl_X4 (s_X4_become_ B h2 (g 1) v1 hv1 (g 10) _ r10) hv1 rfl rfl rfl rfl rfl rfl rfl rfl (zk_u fun h3 hq3 => ?_)
        exact zr_void hZ dX5_seek_117 rfl ⟨rfl, zKp_t kt2 (zKp_u hv1 hq3 (gm (by decide))), by rw [zX0 hq3]; first | rw [if_pos zzS] | rw [if_neg zzS]⟩
    ·
      rw [z4i_nil hok.2.2.2.1] at zzZ
      obtain ⟨k1, e1, hk1, hok1, hS1⟩ := gr_st (s := s) hok hk zzZ
      have hpos := zqpos zzZ
      refine zi_aload_n 37 dX5_seek_36 rfl rfl ?_
      refine zi_getfield 40 3 dX5_seek_37 zcl_X5 tw_194 rfl rfl o0_1 rfl rfl ?_
      refine zi_aload_n 41 dX5_seek_40 rfl rfl ?_
      refine zi_getfield 44 1 dX5_seek_41 zcl_X5 tw_192 rfl rfl o0_1 rfl rfl ?_
      refine zi_aload_n 45 dX5_seek_44 rfl rfl ?_
      refine zi_getfield 48 2 dX5_seek_45 zcl_X5 tw_193 rfl rfl o0_1 rfl rfl ?_
      refine zi_iload_n 49 dX5_seek_48 rfl rfl ?_
      refine zc_virtual (n' := (0, 0)) (md' := mX3_divide) 52 dX5_seek_49 tw_668 zv_X3_divide zcl_X3 (s_X3_dv B h1 (g 4) (g 6) (g 7) (g 8) (g 9) (g 2) (g 3) P Q s o1_1 (zKp_f kt (hG.2.2.2 6 (by decide))) (zKp_f kt (hG.2.2.2 7 (by decide))) (zKp_f kt (hG.2.2.2 8 (by decide))) (zKp_f kt (hG.2.2.2 9 (by decide))) f2 f3 (hg.ne (by decide)) (hg.ne (by decide)) (hg.ne (by decide)) (hg.ne (by decide)) (hg.ne (by decide)) (hg.ne (by decide)) (hg.nm (l := [6, 7, 8, 9]) (i := 2) (by decide)) (hg.nm (l := [6, 7, 8, 9]) (i := 3) (by decide)) (hok.2.2.2.2 hpos)) o1_1 rfl rfl rfl rfl rfl rfl rfl rfl (zk_v fun h2 hp2 => ?_)
      obtain ⟨k2, -, r7⟩ := hp2
      have kt2 := zKp_t kt (zKp_m k2 (gms (l := [6, 7, 8, 9]) (by decide)))
      have f3_2 := zKp_n k2 f3 (hg.nm (l := [6, 7, 8, 9]) (i := 3) (by decide))
      have f2_2 := zKp_n k2 f2 (hg.nm (l := [6, 7, 8, 9]) (i := 2) (by decide))
      have o0_2 := zKp_o kt2 hG.1 (by decide)
      have o1_2 := zKp_o kt2 hG.2.1 (by decide)
      have o2_2 := zKp_o kt2 hG.2.2.1 (by decide)
      refine zi_aload_n 53 dX5_seek_52 rfl rfl ?_
      refine zi_getfield 56 1 dX5_seek_53 zcl_X5 tw_192 rfl rfl o0_2 rfl rfl ?_
      refine zi_aload_n 57 dX5_seek_56 rfl rfl ?_
      refine zi_getfield 60 2 dX5_seek_57 zcl_X5 tw_193 rfl rfl o0_2 rfl rfl ?_
      refine zc_virtual (n' := (0, 0)) (md' := mX4_become_) 63 dX5_seek_60 tw_665 zv_X4_become_ zcl_X4 (s_X4_become_ B h2 (g 2) _ f2_2 (g 3) _ f3_2) f2_2 rfl rfl rfl rfl rfl rfl rfl rfl (zk_u fun h3 hq3 => ?_)
      have kt3 := zKp_t kt2 (zKp_u f2_2 hq3 (gm (by decide)))
      have f2_3 := zX0 hq3
      have f3_3 := zX1 hq3 (hg.ne (i := 3) (by decide)) f3_2
      have r7_3 := zX1 hq3 (hg.ne (i := 7) (by decide)) r7
      have o0_3 := zKp_o kt3 hG.1 (by decide)
      have o1_3 := zKp_o kt3 hG.2.1 (by decide)
      have o2_3 := zKp_o kt3 hG.2.2.1 (by decide)
      refine zi_aload_n 64 dX5_seek_63 rfl rfl ?_
      refine zi_getfield 67 2 dX5_seek_64 zcl_X5 tw_193 rfl rfl o0_3 rfl rfl ?_
      refine zi_aload_n 68 dX5_seek_67 rfl rfl ?_
      refine zi_getfield 71 3 dX5_seek_68 zcl_X5 tw_194 rfl rfl o0_3 rfl rfl ?_
      refine zi_getfield 74 1 dX5_seek_71 zcl_X3 tw_144 rfl rfl o1_3 rfl rfl ?_
      refine zc_virtual (n' := (0, 0)) (md' := mX4_become_) 77 dX5_seek_74 tw_665 zv_X4_become_ zcl_X4 (s_X4_become_ B h3 (g 3) _ f3_3 (g 7) _ r7_3) f3_3 rfl rfl rfl rfl rfl rfl rfl rfl (zk_u fun h4 hq4 => ?_)
      have kt4 := zKp_t kt3 (zKp_u f3_3 hq4 (gm (by decide)))
      have f2_4 := zX1 hq4 (hg.ne (i := 2) (by decide)) f2_3
      have f3_4 := zX0 hq4
      refine zi_iinc (lv' := [(4, _), (0, _), (1, _), (2, _), (3, _)]) 80 dX5_seek_77 rfl rfl rfl rfl rfl ?_
      refine zi_goto 19 dX5_seek_80 (by decide) ?_
      rw [show nI j + Int32.ofInt 1 = nI (j + 1) from nI_1 j]
      subst e1
      exact zi_lv [0, 1, 2, 3, 4] rfl (ih k1 (j + 1) Q (dvR P Q s) h4 (Nat.lt_of_succ_lt_succ hn) kt4 f2_4 f3_4 hok1 hk1 (by rw [Nat.add_right_comm]; exact hj) (hS1.symm.trans hS))

set_option maxHeartbeats 4000000 in
set_option maxRecDepth 100000 in
theorem s_X5_seek (B : zBB) (h : zHp) (g : Nat → Nat) (hg : zInj g) (b c : Nat) (s : Int32) (P Q : i4) (hG : zGt g h) (hb : h b = some (zFo (z4i P))) (hc : h c = some (zFo (z4i Q))) (hcS : c ∉ gF.map g) (hok : grOK P Q) : zSpec mX5_seek B (4, 0, 0) [.ref (g 0), .ref b, .ref c, .int s] h (zPv (fun h' => zKp (gF.map g) h h' ∧ h' (g 1) = some (zFo (z4i (grI s P Q))))) := by
  refine zSpec.of (by decide) (Nat.le_of_ble_eq_true rfl) (fun X hZ => ?_)
  show zG X mX5_seek B (4, 0, 0) (0, 0) 0 [(0, .ref (g 0)), (1, .ref b), (2, .ref c), (3, .int s)] [] h
  obtain ⟨v2, hv2⟩ := hG.2.2.2 2 (by decide)
  refine zi_aload_n 1 dX5_seek_0 rfl rfl ?_
  refine zi_getfield 4 1 dX5_seek_1 zcl_X5 tw_192 rfl rfl hG.1 rfl rfl ?_
  refine zi_aload_n 5 dX5_seek_4 rfl rfl ?_
  refine zc_virtual (n' := (0, 0)) (md' := mX4_become_) 8 dX5_seek_5 tw_665 zv_X4_become_ zcl_X4 (s_X4_become_ B h (g 2) v2 hv2 b _ hb) hv2 rfl rfl rfl rfl rfl rfl rfl rfl (zk_u fun h1 hq1 => ?_)
  have k1 := zKp_u (S := gF.map g) hv2 hq1 (gm (by decide))
  have f2_1 := zX0 hq1
  have hc_1 := zKp_n k1 hc hcS
  obtain ⟨v3, hv3⟩ := zKp_f k1 (hG.2.2.2 3 (by decide))
  have o0_1 := zKp_o k1 hG.1 (by decide)
  have o1_1 := zKp_o k1 hG.2.1 (by decide)
  have o2_1 := zKp_o k1 hG.2.2.1 (by decide)
  refine zi_aload_n 9 dX5_seek_8 rfl rfl ?_
  refine zi_getfield 12 2 dX5_seek_9 zcl_X5 tw_193 rfl rfl o0_1 rfl rfl ?_
  refine zi_aload_n 13 dX5_seek_12 rfl rfl ?_
  refine zc_virtual (n' := (0, 0)) (md' := mX4_become_) 16 dX5_seek_13 tw_665 zv_X4_become_ zcl_X4 (s_X4_become_ B h1 (g 3) v3 hv3 c _ hc_1) hv3 rfl rfl rfl rfl rfl rfl rfl rfl (zk_u fun h2 hq2 => ?_)
  refine zi_iconst (v := 0) 17 dX5_seek_16 (by decide) rfl ?_
  refine zi_istore (lv' := [(4, _), (0, _), (1, _), (2, _), (3, _)]) 19 dX5_seek_17 rfl rfl rfl ?_
  exact zi_lv [0, 1, 2, 3, 4] rfl (l_X5_seek B h X g hg b c s (grS s 64 P Q) hG hZ 64 63 0 P Q h2 (by decide) (zKp_t k1 (zKp_u hv3 hq2 (gm (by decide)))) (zX1 hq2 (hg.ne (by decide)) f2_1) (zX0 hq2) hok (gr_q hok) (by decide) rfl)
