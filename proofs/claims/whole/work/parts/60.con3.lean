/-! the class is made -/
abbrev sO : zSt := (fun _ => none, fun _ => 0, fun _ => 0, fun _ _ => 0, 0, [])

set_option maxHeartbeats 4000000 in
set_option maxRecDepth 100000 in
theorem l_X10_trays (B : zBB) (h : zHp) (X : zX) (a t : Nat) (kk : ∀ (h1 : zHp) (f : Nat → Option Nat) (TR IT : List Nat), zZ h h1 a ([t] ++ TR ++ IT) → h1 a = some (zO 10 [.ref t, .null, .null, .null, .null, .null, .null, .null, .null, .null, .null, .null, .int 0]) → h1 t = some (zRt B 8 f) → TR.length = 8 → IT.length = 8 → (∀ j, j < 8 → f j = TR[j]?) → trF h1 B TR IT → zG X mX10_init B (5, 90, 1771) (17, 832) 40 [(1, .int (nI 8)), (0, .ref a)] [] h1) : ∀ (n k : Nat) (h1 : zHp) (f : Nat → Option Nat) (TR IT : List Nat), 8 - k < n → k ≤ 8 → zZ h h1 a ([t] ++ TR ++ IT) → h1 a = some (zO 10 [.ref t, .null, .null, .null, .null, .null, .null, .null, .null, .null, .null, .null, .int 0]) → h1 t = some (zRt B 8 f) → TR.length = k → IT.length = k → (∀ j, j < k → f j = TR[j]?) → trF h1 B TR IT → zG X mX10_init B (5, 90, 1771) (1 + 2 * k, 8 + 103 * k) 15 [(1, .int (nI k)), (0, .ref a)] [] h1 := by
  intro n
  induction n with
  | zero => intro k h1 f TR IT hn; omega
  | succ n ih =>
    intro k h1 f TR IT hn hk Z ha ht hT hI hf hF
    refine zi_iload_n 16 dX10_init_15 rfl rfl ?_
    refine zi_bipush (v := 8) 18 dX10_init_16 (by decide) rfl ?_
    refine zi_icmp_ge 21 40 dX10_init_18 (by decide) rfl (fun zzE => ?_) (fun zzE => ?_)
    ·
      rw [show (8 : Int32) = nI 8 from rfl, nI_leI (by decide) (by omega)] at zzE
      have ek : k = 8 := by omega
      subst ek
      exact kk h1 f TR IT Z ha ht hT hI hf hF
    ·
      rw [show (8 : Int32) = nI 8 from rfl, nI_leI (by decide) (by omega)] at zzE
      refine zi_aload_n 22 dX10_init_21 rfl rfl ?_
      refine zi_getfield 25 0 dX10_init_22 zcl_X10 tw_310 rfl rfl ha rfl rfl ?_
      refine zi_iload_n 26 dX10_init_25 rfl rfl ?_
      refine zn_new (fs := [.null, .int 0, .int 0]) (n' := (1 + 2 * k + 1, 8 + 103 * k + 3)) 29 dX10_init_26 zcl_X9 tyX9 tyX9_ok tw_75 tw_77 tw_54 (by decide +kernel) (nbl (by show 1 + 2 * k + 1 ≤ 90; omega)) (nbl (by show 8 + 103 * k + 3 ≤ 1771; omega)) rfl rfl (fun q hq => ?_)
      refine zk_h (fun h2 k2 => ?_)
      have ht2 := zX1 k2 (zne ht hq) ht
      refine zi_dup 30 dX10_init_29 rfl rfl ?_
      refine zc_special (n' := (1 + 2 * k + 1 + 1, 8 + 103 * k + 3 + 100)) (md' := mX9_init) 33 dX10_init_30 tw_78 zn_X9_init (s_X9_init B h2 q (zX0 k2)) rfl rfl rfl rfl (nbl (by show 1 + 2 * k + 1 + 1 ≤ 90; omega)) (nbl (by show 8 + 103 * k + 3 + 100 ≤ 1771; omega)) rfl rfl (zk_v fun h3 hp => ?_)
      obtain ⟨y, Zc, eq, ey⟩ := hp
      have ht3 := zZ_f Zc (zne ht hq) ht2
      refine zn_aastore (t0 := 4) 34 dX10_init_33 ht3 rfl zcl_X9 eq (vp_in_nI (show k < 8 by omega) (by decide)) rfl ?_
      rw [nI_clamp (by omega)]
      refine zk_h (fun h4 k4 => ?_)
      obtain ⟨Z4, ha4, hF4, hf4⟩ := tr_step Z ha hT hI hF hf hq k2 Zc eq ey k4
      refine zi_iinc (lv' := [(1, _), (0, _)]) 37 dX10_init_34 rfl rfl rfl rfl rfl ?_
      refine zi_goto 15 dX10_init_37 (by decide) ?_
      rw [show nI k + Int32.ofInt 1 = nI (k + 1) from nI_1 k]
      refine zw_widen (m := (1 + 2 * (k + 1), 8 + 103 * (k + 1))) (nbl (by show 1 + 2 * k + 1 + 1 ≤ 1 + 2 * (k + 1); omega)) (nbl (by show 8 + 103 * k + 3 + 100 ≤ 8 + 103 * (k + 1); omega)) ?_
      exact ih (k + 1) h4 _ _ _ (by omega) (by omega) Z4 ha4 (zX0 k4) (by rw [List.length_append, hT]; rfl) (by rw [List.length_append, hI]; rfl) hf4 hF4

set_option maxHeartbeats 4000000 in
set_option maxRecDepth 100000 in
theorem l_X10_fours (B : zBB) (h hS : zHp) (X : zX) (a t F K : Nat) (L0 : List Nat) (mF : F ∈ L0) (mK : K ∈ L0) (nFK : F ≠ K) (kk : ∀ (h1 : zHp) (ff : Nat → Option Nat) (fk : Nat → Int32) (M : List Nat), zZ h h1 a (L0 ++ M) → h1 a = some (zO 10 [.ref t, .ref F, .ref K, .null, .null, .null, .null, .null, .null, .null, .null, .null, .int 0]) → h1 F = some (zRf B 20 ff) → h1 K = some (zI B 20 fk) → M.length = 20 → (∀ j, j < 20 → ff j = M[j]?) → (∀ j, j < 20 → fk j = -1) → (∀ x ∈ M, h1 x = some (zFo z0)) → (∀ x e, x ≠ F → x ≠ K → hS x = some e → h1 x = some e) → zG X mX10_init B (5, 90, 1771) (39, 952) 91 [(1, .int (nI 20)), (0, .ref a)] [] h1) : ∀ (n k : Nat) (h1 : zHp) (ff : Nat → Option Nat) (fk : Nat → Int32) (M : List Nat), 20 - k < n → k ≤ 20 → zZ h h1 a (L0 ++ M) → h1 a = some (zO 10 [.ref t, .ref F, .ref K, .null, .null, .null, .null, .null, .null, .null, .null, .null, .int 0]) → h1 F = some (zRf B 20 ff) → h1 K = some (zI B 20 fk) → M.length = k → (∀ j, j < k → ff j = M[j]?) → (∀ j, j < k → fk j = -1) → (∀ x ∈ M, h1 x = some (zFo z0)) → (∀ x e, x ≠ F → x ≠ K → hS x = some e → h1 x = some e) → zG X mX10_init B (5, 90, 1771) (19 + k, 872 + 4 * k) 59 [(1, .int (nI k)), (0, .ref a)] [] h1 := by
  intro n
  induction n with
  | zero => intro k h1 ff fk M hn; omega
  | succ n ih =>
    intro k h1 ff fk M hn hk Z ha hF hK hM hff hfk hm hO
    refine zi_iload_n 60 dX10_init_59 rfl rfl ?_
    refine zi_bipush (v := 20) 62 dX10_init_60 (by decide) rfl ?_
    refine zi_icmp_ge 65 91 dX10_init_62 (by decide) rfl (fun zzE => ?_) (fun zzE => ?_)
    ·
      rw [show (20 : Int32) = nI 20 from rfl, nI_leI (by decide) (by omega)] at zzE
      have ek : k = 20 := by omega
      subst ek
      exact kk h1 ff fk M Z ha hF hK hM hff hfk hm hO
    ·
      rw [show (20 : Int32) = nI 20 from rfl, nI_leI (by decide) (by omega)] at zzE
      refine zi_aload_n 66 dX10_init_65 rfl rfl ?_
      refine zi_getfield 69 1 dX10_init_66 zcl_X10 tw_311 rfl rfl ha rfl rfl ?_
      refine zi_iload_n 70 dX10_init_69 rfl rfl ?_
      refine zn_new (fs := [.long 0, .long 0, .long 0, .long 0]) (n' := (19 + k + 1, 872 + 4 * k + 4)) 73 dX10_init_70 zcl_X4 tyX4 tyX4_ok tw_96 tw_98 tw_55 (by decide +kernel) (nbl (by show 19 + k + 1 ≤ 90; omega)) (nbl (by show 872 + 4 * k + 4 ≤ 1771; omega)) rfl rfl (fun q hq => ?_)
      refine zk_h (fun h2 k2 => ?_)
      have hF2 := zX1 k2 (zne hF hq) hF
      have hK2 := zX1 k2 (zne hK hq) hK
      have ha2 := zX1 k2 (zne ha hq) ha
      refine zi_dup 74 dX10_init_73 rfl rfl ?_
      refine zc_specialN (n' := (19 + k + 1, 872 + 4 * k + 4)) (md' := mX4_init) 77 dX10_init_74 (by decide) zn_X4_init (s_X4_init B h2 q) rfl rfl rfl rfl (nbl (by show 19 + k + 1 ≤ 90; omega)) (nbl (by show 872 + 4 * k + 4 ≤ 1771; omega)) rfl rfl (zk_n ?_)
      refine zn_aastore (t0 := 3) 78 dX10_init_77 hF2 rfl zcl_X4 (zX0 k2) (vp_in_nI (show k < 20 by omega) (by decide)) rfl ?_
      rw [nI_clamp (by omega)]
      refine zk_h (fun h3 k3 => ?_)
      have hK3 := zX1 k3 nFK.symm hK2
      have ha3 := zX1 k3 (fun r => (List.nodup_cons.mp Z.1).1 (by rw [r]; simp [mF])) ha2
      refine zi_aload_n 79 dX10_init_78 rfl rfl ?_
      refine zi_getfield 82 2 dX10_init_79 zcl_X10 tw_312 rfl rfl ha3 rfl rfl ?_
      refine zi_iload_n 83 dX10_init_82 rfl rfl ?_
      refine zi_iconst (v := (-1)) 84 dX10_init_83 (by decide) rfl ?_
      refine zi_iastore 85 dX10_init_84 hK3 (vp_in_nI (show k < 20 by omega) (by decide)) rfl ?_
      rw [nI_clamp (by omega)]
      refine zk_h (fun h4 k4 => ?_)
      obtain ⟨Z4, ha4, hF4, hK4, hM4, hff4, hfk4, hm4, hO4⟩ := fo_step Z ha mF mK nFK hK hM hff hfk hm hq k2 k3 k4
      refine zi_iinc (lv' := [(1, _), (0, _)]) 88 dX10_init_85 rfl rfl rfl rfl rfl ?_
      refine zi_goto 59 dX10_init_88 (by decide) ?_
      rw [show nI k + Int32.ofInt 1 = nI (k + 1) from nI_1 k]
      refine zw_widen (m := (19 + (k + 1), 872 + 4 * (k + 1))) (nbl (by show 19 + k + 1 ≤ 19 + (k + 1); omega)) (nbl (by show 872 + 4 * k + 4 ≤ 872 + 4 * (k + 1); omega)) ?_
      exact ih (k + 1) h4 _ _ _ (by omega) (by omega) Z4 ha4 hF4 hK4 hM4 hff4 hfk4 hm4 (fun x e n1 n2 n3 => hO4 x e n1 n2 (hO x e n1 n2 n3))
