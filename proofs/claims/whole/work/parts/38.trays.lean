def wrV (l : Int32) (v : Int64) : Int64 := if l = 0 then v.toInt32.toInt8.toInt32.toInt64 else if l = 1 then v.toInt32.toInt64 else v
theorem tr_0 {u : Nat → Int64} {k : Nat} (h : ∀ i, i < k → u i = 0) : ∀ i, i < k + 1 → vp_updL u k 0 i = 0 := fun i hi => by
  unfold vp_updL
  split
  · rfl
  · exact h i (by omega)

theorem tr_k {k : Nat} (h : k < 101) : ((100 : Int32) ≤ nI k ↔ ¬ k < 100) := by
  rw [show (100 : Int32) = nI 100 from rfl, nI_leI (by omega) (by omega)]
  omega
set_option maxHeartbeats 8000000 in
set_option maxRecDepth 100000 in
theorem l_X9_begin (B : zBB) (h : zHp) (X : zX) (a q : Nat) (l s : Int32) (u : Nat → Int64) (ha : h a = some (zO 9 [.ref q, .int l, .int s])) (hq : h q = some (zJ B 100 u)) (nl n : Int32) (hZ : zIsP X mX9_begin B (0, 0) (zPv (fun h' => ∃ u' : Nat → Int64, h' = zU (zU h a (zO 9 [.ref q, .int nl, .int n])) q (zJ B 100 u') ∧ ∀ i, i < 100 → u' i = 0))) : ∀ (j k : Nat) (u1 : Nat → Int64) (h1 : zHp), 100 - k < j → k < 101 → h1 = zU (zU h a (zO 9 [.ref q, .int nl, .int n])) q (zJ B 100 u1) → (∀ i, i < k → u1 i = 0) → zG X mX9_begin B (0, 0, 0) (0, 0) 12 [(3, .int (nI k)), (0, .ref a), (1, .int nl), (2, .int n)] [] h1 := by
  intro j
  induction j with
  | zero => intro k u1 h1 hj; exact absurd hj (Nat.not_lt_zero _)
  | succ j ih =>
    intro k u1 h1 hj hk hh hI
    have hq1 := zX0 hh
    have ha1 : h1 a = some (zO 9 [.ref q, .int nl, .int n]) := by rw [hh, zU_n _ _ (zneC ha hq (by simp)), zU_s]
    refine zi_iload_n 13 dX9_begin_12 rfl rfl ?_
    refine zi_aload_n 14 dX9_begin_13 rfl rfl ?_
    refine zi_getfield 17 0 dX9_begin_14 zcl_X9 tw_82 rfl rfl ha1 rfl rfl ?_
    refine zi_alenJ (v := 100) 18 dX9_begin_17 hq1 rfl rfl ?_
    refine zi_icmp_ge 21 34 dX9_begin_18 (by decide) rfl (fun zzK => ?_) (fun zzK => ?_)
    ·
      rw [tr_k hk] at zzK
      exact zr_void hZ dX9_begin_34 rfl ⟨rfl, u1, hh, fun i hi => hI i (by omega)⟩
    ·
      rw [tr_k hk, Decidable.not_not] at zzK
      have hk3 := zzK
      refine zi_aload_n 22 dX9_begin_21 rfl rfl ?_
      refine zi_getfield 25 0 dX9_begin_22 zcl_X9 tw_82 rfl rfl ha1 rfl rfl ?_
      refine zi_iload_n 26 dX9_begin_25 rfl rfl ?_
      refine zi_lconst (v := 0) 27 dX9_begin_26 (by decide) rfl ?_
      refine zi_lastore 28 dX9_begin_27 hq1 (vp_in_nI hk3 (by decide)) rfl ?_
      rw [nI_clamp (Nat.lt_trans hk3 (by decide))]
      refine zk_h (fun h2 k2 => ?_)
      refine zi_iinc (lv' := [(3, _), (0, _), (1, _), (2, _)]) 31 dX9_begin_28 rfl rfl rfl rfl rfl ?_
      refine zi_goto 12 dX9_begin_31 (by decide) ?_
      rw [show nI k + Int32.ofInt 1 = nI (k + 1) from nI_1 k]
      exact zi_lv [0, 1, 2, 3] rfl (ih (k + 1) _ h2 (by omega) (by omega) (by rw [k2, hh, zU_u]) (tr_0 hI))

set_option maxHeartbeats 4000000 in
set_option maxRecDepth 100000 in
theorem s_X9_begin (B : zBB) (h : zHp) (a q : Nat) (l s : Int32) (u : Nat → Int64) (ha : h a = some (zO 9 [.ref q, .int l, .int s])) (hq : h q = some (zJ B 100 u)) (nl n : Int32) : zSpec mX9_begin B (0, 0, 0) [.ref a, .int nl, .int n] h (zPv (fun h' => ∃ u' : Nat → Int64, h' = zU (zU h a (zO 9 [.ref q, .int nl, .int n])) q (zJ B 100 u') ∧ ∀ i, i < 100 → u' i = 0)) := by
  refine zSpec.of (by decide) (Nat.le_of_ble_eq_true rfl) (fun X hZ => ?_)
  show zG X mX9_begin B (0, 0, 0) (0, 0) 0 [(0, .ref a), (1, .int nl), (2, .int n)] [] h
  refine zi_aload_n 1 dX9_begin_0 rfl rfl ?_
  refine zi_iload_n 2 dX9_begin_1 rfl rfl ?_
  refine zi_putfield (fs' := [_, _, _]) 5 1 dX9_begin_2 zcl_X9 tyX9 tyX9_ok nmX9 tw_84 rfl rfl rfl ha rfl rfl rfl rfl rfl rfl ?_
  refine zk_h (fun h1 k1 => ?_)
  have ha_1 := zX0 k1
  refine zi_aload_n 6 dX9_begin_5 rfl rfl ?_
  refine zi_iload_n 7 dX9_begin_6 rfl rfl ?_
  refine zi_putfield (fs' := [_, _, _]) 10 2 dX9_begin_7 zcl_X9 tyX9 tyX9_ok nmX9 tw_86 rfl rfl rfl ha_1 rfl rfl rfl rfl rfl rfl ?_
  refine zk_h (fun h2 k2 => ?_)
  have ha_2 := zX0 k2
  rw [k1, zU_u] at k2
  refine zi_iconst (v := 0) 11 dX9_begin_10 (by decide) rfl ?_
  refine zi_istore_n (lv' := [(3, _), (0, _), (1, _), (2, _)]) 12 dX9_begin_11 rfl rfl rfl ?_
  exact zi_lv [0, 1, 2, 3] rfl (l_X9_begin B h X a q l s u ha hq nl n hZ 101 0 u h2 (by decide) (by decide) (by rw [k2, zU_i (a := q) _ (by rw [zU_n _ _ (zneC hq ha (by simp)), hq])]) (fun i hi => absurd hi (Nat.not_lt_zero _)))

set_option maxHeartbeats 4000000 in
set_option maxRecDepth 100000 in
theorem s_X9_write (B : zBB) (h : zHp) (a q : Nat) (l s : Int32) (u : Nat → Int64) (ha : h a = some (zO 9 [.ref q, .int l, .int s])) (hq : h q = some (zJ B 100 u)) (i : Nat) (hi : i < 100) (v : Int64) : zSpec mX9_write B (0, 0, 0) [.ref a, .int (nI i), .long v] h (zPf none (zU h q (zJ B 100 (vp_updL u i (wrV l v))))) := by
  refine zSpec.of (by decide) (Nat.le_of_ble_eq_true rfl) (fun X hZ => ?_)
  show zG X mX9_write B (0, 0, 0) (0, 0) 0 [(0, .ref a), (1, .int (nI i)), (2, .long v)] [] h
  refine zi_iload_n 1 dX9_write_0 rfl rfl ?_
  refine zi_if_lt 4 13 dX9_write_1 (by decide) rfl (fun c_1 => absurd c_1 (nI_pos (by omega))) (fun c_1 => ?_)
  refine zi_iload_n 5 dX9_write_4 rfl rfl ?_
  refine zi_aload_n 6 dX9_write_5 rfl rfl ?_
  refine zi_getfield 9 0 dX9_write_6 zcl_X9 tw_82 rfl rfl ha rfl rfl ?_
  refine zi_alenJ (v := 100) 10 dX9_write_9 hq rfl rfl ?_
  refine zi_icmp_lt 13 14 dX9_write_10 (by decide) rfl (fun c_10 => ?_) (fun c_10 => absurd (nI_lt hi (by decide)) c_10)
  refine zi_aload_n 15 dX9_write_14 rfl rfl ?_
  refine zi_getfield 18 0 dX9_write_15 zcl_X9 tw_82 rfl rfl ha rfl rfl ?_
  refine zi_iload_n 19 dX9_write_18 rfl rfl ?_
  refine zi_aload_n 20 dX9_write_19 rfl rfl ?_
  refine zi_getfield 23 1 dX9_write_20 zcl_X9 tw_84 rfl rfl ha rfl rfl ?_
  refine zi_if_ne 26 33 dX9_write_23 (by decide) rfl (fun zzA => ?_) (fun zzA => ?_)
  ·
    refine zi_aload_n 34 dX9_write_33 rfl rfl ?_
    refine zi_getfield 37 1 dX9_write_34 zcl_X9 tw_84 rfl rfl ha rfl rfl ?_
    refine zi_iconst (v := 1) 38 dX9_write_37 (by decide) rfl ?_
    refine zi_icmp_ne 41 47 dX9_write_38 (by decide) rfl (fun zzB => ?_) (fun zzB => ?_)
    ·
      refine zi_lload_n 48 dX9_write_47 rfl rfl ?_
      refine zi_lastore 49 dX9_write_48 hq (vp_in_nI hi (by decide)) rfl ?_
      exact zr_void hZ dX9_write_49 rfl ⟨rfl, by rw [nI_clamp (by omega)]; unfold wrV; first | rw [if_pos zzA] | rw [if_neg zzA, if_pos zzB] | rw [if_neg zzA, if_neg zzB]⟩
    ·
      refine zi_lload_n 42 dX9_write_41 rfl rfl ?_
      refine zi_l2i 43 dX9_write_42 rfl ?_
      refine zi_i2l 44 dX9_write_43 rfl ?_
      refine zi_goto 48 dX9_write_44 (by decide) ?_
      refine zi_lastore 49 dX9_write_48 hq (vp_in_nI hi (by decide)) rfl ?_
      exact zr_void hZ dX9_write_49 rfl ⟨rfl, by rw [nI_clamp (by omega)]; unfold wrV; first | rw [if_pos zzA] | rw [if_neg zzA, if_pos zzB] | rw [if_neg zzA, if_neg zzB]⟩
  ·
    refine zi_lload_n 27 dX9_write_26 rfl rfl ?_
    refine zi_l2i 28 dX9_write_27 rfl ?_
    refine zi_i2b 29 dX9_write_28 rfl ?_
    refine zi_i2l 30 dX9_write_29 rfl ?_
    refine zi_goto 48 dX9_write_30 (by decide) ?_
    refine zi_lastore 49 dX9_write_48 hq (vp_in_nI hi (by decide)) rfl ?_
    exact zr_void hZ dX9_write_49 rfl ⟨rfl, by rw [nI_clamp (by omega)]; unfold wrV; first | rw [if_pos zzA] | rw [if_neg zzA, if_pos zzB] | rw [if_neg zzA, if_neg zzB]⟩
