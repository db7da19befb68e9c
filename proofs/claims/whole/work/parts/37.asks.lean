abbrev askR (B : zBB) (h : zHp) (a q : Nat) (L : List Int32) : Prop := ∃ t : Nat → Int32, h a = some (zO 0 [.ref q, .int (nI L.length)]) ∧ h q = some (zI B 16 t) ∧ ∀ (i : Nat) (x : Int32), L[i]? = some x → t i = x
theorem askR.o {B : zBB} {h : zHp} {a q : Nat} {L : List Int32} (k : askR B h a q L) : h a = some (zO 0 [.ref q, .int (nI L.length)]) := by
  obtain ⟨t, h1, -, -⟩ := k
  exact h1
abbrev aFr (a q : Nat) (h h' : zHp) : Prop := ∀ x, x ≠ a → x ≠ q → h' x = h x
theorem aFr_t {a q : Nat} {h h1 h2 : zHp} (k : aFr a q h h1) (k2 : aFr a q h1 h2) : aFr a q h h2 := fun x hx hy => (k2 x hx hy).trans (k x hx hy)
theorem ask_l {L : List Int32} {t : Nat → Int32} {b : Int32} (h : ∀ (i : Nat) (x : Int32), L[i]? = some x → t i = x) : ∀ (i : Nat) (x : Int32), (L ++ [b])[i]? = some x → upd t L.length b i = x := fun i x hx => by
  unfold upd
  rcases Nat.lt_trichotomy i L.length with q | q | q
  · rw [List.getElem?_append_left q] at hx
    rw [if_neg (by omega)]
    exact h i x hx
  · rw [List.getElem?_append_right (by omega), q, Nat.sub_self] at hx
    rw [if_pos q]
    exact Option.some.inj hx
  · rw [List.getElem?_eq_none (by first | omega | (simp; omega))] at hx
    exact absurd hx (by simp)

def sizeV (k n : Nat) : Nat := if k = 4 then 1 else if k = 3 then n % 1000003 + 2 else n % 1000003
def sizeT (k : Nat) : List Int32 := if k = 4 then [11] else if k = 3 then [12, 10] else [10]
def shareV (k n : Nat) : Nat := if k = 4 then (24 + sizeV k n) / 5 else if k = 3 ∨ k = 2 then 24 + sizeV k n else if k = 1 then 12 else 24
def shareT (k : Nat) : List Int32 := if k = 4 then [23, 22, 20] ++ sizeT k else if k = 3 ∨ k = 2 then [22, 20] ++ sizeT k else if k = 1 then [21, 20] else [20]
def markV (k m : Nat) : Nat := if k = 3 then 2 * m + 1 else if k = 2 ∨ k = 4 then 2 * m else m
def markT (k : Nat) : List Int32 := if k = 3 then [32, 31, 30] else if k = 2 ∨ k = 4 then [31, 30] else [30]
def mkI (P : i4) : Nat := ((P.1 + P.2.1 + P.2.2.1 + P.2.2.2) % 97).toNat
theorem mkI_lt (P : i4) : mkI P < 97 := by unfold mkI; omega

set_option maxHeartbeats 4000000 in
set_option maxRecDepth 100000 in
theorem s_X0_forget (B : zBB) (h : zHp) (a q : Nat) (L : List Int32) (hA : askR B h a q L) : zSpec mX0_forget B (0, 0, 0) [.ref a] h (zPv (fun h' => aFr a q h h' ∧ askR B h' a q [])) := by
  refine zSpec.of (by decide) (Nat.le_of_ble_eq_true rfl) (fun X hZ => ?_)
  show zG X mX0_forget B (0, 0, 0) (0, 0) 0 [(0, .ref a)] [] h
  obtain ⟨t, ha, hq, ht⟩ := hA
  refine zi_aload_n 1 dX0_forget_0 rfl rfl ?_
  refine zi_iconst (v := 0) 2 dX0_forget_1 (by decide) rfl ?_
  refine zi_putfield (fs' := [_, _]) 5 1 dX0_forget_2 zcl_X0 tyX0 tyX0_ok nmX0 tw_304 rfl rfl rfl ha rfl rfl rfl rfl rfl rfl ?_
  exact zr_void hZ dX0_forget_5 rfl ⟨rfl, fun x hx _ => zU_n _ _ hx, t, by rw [zU_s]; rfl, by rw [zU_n _ _ (zneC hq ha (by simp)), hq], fun i x hx => by simp at hx⟩

set_option maxHeartbeats 4000000 in
set_option maxRecDepth 100000 in
theorem s_X0_begin (B : zBB) (h : zHp) (a q : Nat) (L : List Int32) (hA : askR B h a q L) (hL : L.length ≤ 15) (b : Int32) : zSpec mX0_begin B (0, 0, 0) [.ref a, .int b] h (zPv (fun h' => aFr a q h h' ∧ askR B h' a q (L ++ [b]))) := by
  refine zSpec.of (by decide) (Nat.le_of_ble_eq_true rfl) (fun X hZ => ?_)
  show zG X mX0_begin B (0, 0, 0) (0, 0) 0 [(0, .ref a), (1, .int b)] [] h
  obtain ⟨t, ha, hq, ht⟩ := hA
  refine zi_aload_n 1 dX0_begin_0 rfl rfl ?_
  refine zi_getfield 4 1 dX0_begin_1 zcl_X0 tw_304 rfl rfl ha rfl rfl ?_
  refine zi_if_lt 7 19 dX0_begin_4 (by decide) rfl (fun c_4 => absurd c_4 (nI_pos (by omega))) (fun c_4 => ?_)
  refine zi_aload_n 8 dX0_begin_7 rfl rfl ?_
  refine zi_getfield 11 1 dX0_begin_8 zcl_X0 tw_304 rfl rfl ha rfl rfl ?_
  refine zi_aload_n 12 dX0_begin_11 rfl rfl ?_
  refine zi_getfield 15 0 dX0_begin_12 zcl_X0 tw_303 rfl rfl ha rfl rfl ?_
  refine zi_alenI (v := 16) 16 dX0_begin_15 hq rfl rfl ?_
  refine zi_icmp_lt 19 20 dX0_begin_16 (by decide) rfl (fun c_16 => ?_) (fun c_16 => absurd (nI_lt (b := 16) (by omega) (by decide)) c_16)
  refine zi_aload_n 21 dX0_begin_20 rfl rfl ?_
  refine zi_getfield 24 0 dX0_begin_21 zcl_X0 tw_303 rfl rfl ha rfl rfl ?_
  refine zi_aload_n 25 dX0_begin_24 rfl rfl ?_
  refine zi_getfield 28 1 dX0_begin_25 zcl_X0 tw_304 rfl rfl ha rfl rfl ?_
  refine zi_iload_n 29 dX0_begin_28 rfl rfl ?_
  refine zi_iastore 30 dX0_begin_29 hq (vp_in_nI (by omega) (by decide)) rfl ?_
  rw [nI_clamp (by omega)]
  refine zk_h (fun h1 k1 => ?_)
  have ha_1 := zX1 k1 (zneC ha hq (by simp)) ha
  refine zi_aload_n 31 dX0_begin_30 rfl rfl ?_
  refine zi_dup 32 dX0_begin_31 rfl rfl ?_
  refine zi_getfield 35 1 dX0_begin_32 zcl_X0 tw_304 rfl rfl ha_1 rfl rfl ?_
  refine zi_iconst (v := 1) 36 dX0_begin_35 (by decide) rfl ?_
  refine zi_iadd 37 dX0_begin_36 rfl ?_
  refine zi_putfield (fs' := [_, _]) 40 1 dX0_begin_37 zcl_X0 tyX0 tyX0_ok nmX0 tw_304 rfl rfl rfl ha_1 rfl rfl rfl rfl rfl rfl ?_
  exact zr_void hZ dX0_begin_40 rfl ⟨rfl, fun x hx hy => by rw [zU_n _ _ hx, k1, zU_n _ _ hy], upd t L.length b, by rw [zU_s, nI_1, List.length_append]; rfl, by rw [zU_n _ _ (zneC hq ha (by simp)), zX0 k1], ask_l ht⟩

set_option maxHeartbeats 4000000 in
set_option maxRecDepth 100000 in
theorem s_X0_traceAt (B : zBB) (h : zHp) (a q : Nat) (L : List Int32) (hA : askR B h a q L) (hL : L.length ≤ 16) (i : Int32) : zSpec mX0_traceAt B (0, 0, 0) [.ref a, .int i] h (zPf (some (.int (if i < 0 then -1000000 else (L[i.toNatClampNeg]?).getD (-1000000)))) h) := by
  refine zSpec.of (by decide) (Nat.le_of_ble_eq_true rfl) (fun X hZ => ?_)
  show zG X mX0_traceAt B (0, 0, 0) (0, 0) 0 [(0, .ref a), (1, .int i)] [] h
  obtain ⟨t, ha, hq, ht⟩ := hA
  refine zi_iload_n 1 dX0_traceAt_0 rfl rfl ?_
  refine zi_if_lt 4 21 dX0_traceAt_1 (by decide) rfl (fun zzN => ?_) (fun zzN => ?_)
  ·
    refine zi_ldc 23 dX0_traceAt_21 tw_590 rfl ?_
    refine zi_goto 32 dX0_traceAt_23 (by decide) ?_
    exact zr_int hZ dX0_traceAt_32 rfl rfl ⟨by first | rw [if_pos zzN] | simp [zzN, nI_clamp hj, List.getElem?_eq_none zzG] | simp [zzN, nI_clamp hj, List.getElem?_eq_getElem (Nat.lt_of_not_le zzG), ht j _ (List.getElem?_eq_getElem (Nat.lt_of_not_le zzG))], rfl⟩
  ·
    obtain ⟨j, hj, rfl⟩ := nI_of zzN
    refine zi_iload_n 5 dX0_traceAt_4 rfl rfl ?_
    refine zi_aload_n 6 dX0_traceAt_5 rfl rfl ?_
    refine zi_getfield 9 1 dX0_traceAt_6 zcl_X0 tw_304 rfl rfl ha rfl rfl ?_
    refine zi_icmp_ge 12 21 dX0_traceAt_9 (by decide) rfl (fun zzG => ?_) (fun zzG => ?_)
    ·
      rw [nI_leI (by omega) (by omega)] at zzG
      refine zi_ldc 23 dX0_traceAt_21 tw_590 rfl ?_
      refine zi_goto 32 dX0_traceAt_23 (by decide) ?_
      exact zr_int hZ dX0_traceAt_32 rfl rfl ⟨by first | rw [if_pos zzN] | simp [zzN, nI_clamp hj, List.getElem?_eq_none zzG] | simp [zzN, nI_clamp hj, List.getElem?_eq_getElem (Nat.lt_of_not_le zzG), ht j _ (List.getElem?_eq_getElem (Nat.lt_of_not_le zzG))], rfl⟩
    ·
      rw [nI_leI (by omega) (by omega)] at zzG
      refine zi_iload_n 13 dX0_traceAt_12 rfl rfl ?_
      refine zi_aload_n 14 dX0_traceAt_13 rfl rfl ?_
      refine zi_getfield 17 0 dX0_traceAt_14 zcl_X0 tw_303 rfl rfl ha rfl rfl ?_
      refine zi_alenI (v := 16) 18 dX0_traceAt_17 hq rfl rfl ?_
      refine zi_icmp_lt 21 26 dX0_traceAt_18 (by decide) rfl (fun c_18 => ?_) (fun c_18 => absurd (nI_lt (b := 16) (by omega) (by decide)) c_18)
      refine zi_aload_n 27 dX0_traceAt_26 rfl rfl ?_
      refine zi_getfield 30 0 dX0_traceAt_27 zcl_X0 tw_303 rfl rfl ha rfl rfl ?_
      refine zi_iload_n 31 dX0_traceAt_30 rfl rfl ?_
      refine zi_iaload 32 dX0_traceAt_31 hq (vp_in_nI (by omega) (by decide)) rfl ?_
      exact zr_int hZ dX0_traceAt_32 rfl rfl ⟨by first | rw [if_pos zzN] | simp [zzN, nI_clamp hj, List.getElem?_eq_none zzG] | simp [zzN, nI_clamp hj, List.getElem?_eq_getElem (Nat.lt_of_not_le zzG), ht j _ (List.getElem?_eq_getElem (Nat.lt_of_not_le zzG))], rfl⟩

set_option maxHeartbeats 4000000 in
set_option maxRecDepth 100000 in
theorem s_X0_lentSize (B : zBB) (h : zHp) (a q : Nat) (L : List Int32) (hA : askR B h a q L) (hL : L.length ≤ 15) (n : Nat) (hn : n < 2 ^ 63) : zSpec mX0_lentSize B (1, 0, 0) [.ref a, .long (lN n)] h (zPi (fun x h' => x = nI (n % 1000003) ∧ aFr a q h h' ∧ askR B h' a q (L ++ [10]))) := by
  refine zSpec.of (by decide) (Nat.le_of_ble_eq_true rfl) (fun X hZ => ?_)
  show zG X mX0_lentSize B (1, 0, 0) (0, 0) 0 [(0, .ref a), (1, .long (lN n))] [] h
  refine zi_aload_n 1 dX0_lentSize_0 rfl rfl ?_
  refine zi_bipush (v := 10) 3 dX0_lentSize_1 (by decide) rfl ?_
  refine zc_virtual (n' := (0, 0)) (md' := mX0_begin) 6 dX0_lentSize_3 tw_528 zv_X0_begin zcl_X0 (s_X0_begin B h a q _ hA (by first | omega | (simp; omega)) 10) hA.o rfl rfl rfl rfl rfl rfl rfl rfl (zk_v fun h1 hp1 => ?_)
  obtain ⟨k1, A1⟩ := hp1
  have o1 := A1.o
  refine zi_lload_n 7 dX0_lentSize_6 rfl rfl ?_
  refine zi_ldc2 10 dX0_lentSize_7 tw_540 rfl ?_
  refine zi_lrem 11 dX0_lentSize_10 (by decide) rfl ?_
  rw [show (1000003 : Int64) = lN 1000003 from rfl, pk_lRem hn (by decide) (by decide)]
  refine zi_l2i 12 dX0_lentSize_11 rfl ?_
  rw [lN_i]
  exact zr_int hZ dX0_lentSize_12 rfl rfl ⟨_, rfl, rfl, k1, by simpa [sizeT, shareT, markT] using A1⟩

set_option maxHeartbeats 4000000 in
set_option maxRecDepth 100000 in
theorem s_X0_unitSize (B : zBB) (h : zHp) (a q : Nat) (L : List Int32) (hA : askR B h a q L) (hL : L.length ≤ 15)  : zSpec mX0_unitSize B (1, 0, 0) [.ref a] h (zPi (fun x h' => x = 1 ∧ aFr a q h h' ∧ askR B h' a q (L ++ [11]))) := by
  refine zSpec.of (by decide) (Nat.le_of_ble_eq_true rfl) (fun X hZ => ?_)
  show zG X mX0_unitSize B (1, 0, 0) (0, 0) 0 [(0, .ref a)] [] h
  refine zi_aload_n 1 dX0_unitSize_0 rfl rfl ?_
  refine zi_bipush (v := 11) 3 dX0_unitSize_1 (by decide) rfl ?_
  refine zc_virtual (n' := (0, 0)) (md' := mX0_begin) 6 dX0_unitSize_3 tw_528 zv_X0_begin zcl_X0 (s_X0_begin B h a q _ hA (by first | omega | (simp; omega)) 11) hA.o rfl rfl rfl rfl rfl rfl rfl rfl (zk_v fun h1 hp1 => ?_)
  obtain ⟨k1, A1⟩ := hp1
  have o1 := A1.o
  refine zi_iconst (v := 1) 7 dX0_unitSize_6 (by decide) rfl ?_
  exact zr_int hZ dX0_unitSize_7 rfl rfl ⟨_, rfl, rfl, k1, by simpa [sizeT, shareT, markT] using A1⟩

set_option maxHeartbeats 4000000 in
set_option maxRecDepth 100000 in
theorem s_X0_primeSize (B : zBB) (h : zHp) (a q : Nat) (L : List Int32) (hA : askR B h a q L) (hL : L.length ≤ 14) (n : Nat) (hn : n < 2 ^ 63) : zSpec mX0_primeSize B (2, 0, 0) [.ref a, .long (lN n)] h (zPi (fun x h' => x = nI (n % 1000003 + 2) ∧ aFr a q h h' ∧ askR B h' a q (L ++ [12, 10]))) := by
  refine zSpec.of (by decide) (Nat.le_of_ble_eq_true rfl) (fun X hZ => ?_)
  show zG X mX0_primeSize B (2, 0, 0) (0, 0) 0 [(0, .ref a), (1, .long (lN n))] [] h
  refine zi_aload_n 1 dX0_primeSize_0 rfl rfl ?_
  refine zi_bipush (v := 12) 3 dX0_primeSize_1 (by decide) rfl ?_
  refine zc_virtual (n' := (0, 0)) (md' := mX0_begin) 6 dX0_primeSize_3 tw_528 zv_X0_begin zcl_X0 (s_X0_begin B h a q _ hA (by first | omega | (simp; omega)) 12) hA.o rfl rfl rfl rfl rfl rfl rfl rfl (zk_v fun h1 hp1 => ?_)
  obtain ⟨k1, A1⟩ := hp1
  have o1 := A1.o
  refine zi_aload_n 7 dX0_primeSize_6 rfl rfl ?_
  refine zi_lload_n 8 dX0_primeSize_7 rfl rfl ?_
  refine zc_virtual (n' := (0, 0)) (md' := mX0_lentSize) 11 dX0_primeSize_8 tw_536 zv_X0_lentSize zcl_X0 (s_X0_lentSize B h1 a q _ A1 (by first | omega | (simp; omega)) n hn) o1 rfl rfl rfl rfl rfl rfl rfl rfl (zk_i fun x2 h2 hp2 => ?_)
  obtain ⟨rfl, k2, A2⟩ := hp2
  have o2 := A2.o
  refine zi_iconst (v := 2) 12 dX0_primeSize_11 (by decide) rfl ?_
  refine zi_iadd 13 dX0_primeSize_12 rfl ?_
  exact zr_int hZ dX0_primeSize_13 rfl rfl ⟨_, rfl, nI_add _ 2, aFr_t (k1) k2, by simpa [sizeT, shareT, markT] using A2⟩

set_option maxHeartbeats 4000000 in
set_option maxRecDepth 100000 in
theorem s_X0_sizeOf0 (B : zBB) (h : zHp) (a q : Nat) (L : List Int32) (hA : askR B h a q L) (hL : L.length ≤ 13) (n : Nat) (hn : n < 2 ^ 63) : zSpec mX0_sizeOf B (3, 0, 0) [.ref a, .long (lN n), .int 0] h (zPi (fun x h' => x = nI (sizeV 0 n) ∧ aFr a q h h' ∧ askR B h' a q (L ++ sizeT 0))) := by
  refine zSpec.of (by decide) (Nat.le_of_ble_eq_true rfl) (fun X hZ => ?_)
  show zG X mX0_sizeOf B (3, 0, 0) (0, 0) 0 [(0, .ref a), (1, .long (lN n)), (3, .int 0)] [] h
  refine zi_iload_n 1 dX0_sizeOf_0 rfl rfl ?_
  refine zi_iconst (v := 4) 2 dX0_sizeOf_1 (by decide) rfl ?_
  refine zi_icmp_ne 5 10 dX0_sizeOf_2 (by decide) rfl (fun c_2 => ?_) (fun c_2 => absurd c_2 (by decide))
  refine zi_iload_n 11 dX0_sizeOf_10 rfl rfl ?_
  refine zi_iconst (v := 3) 12 dX0_sizeOf_11 (by decide) rfl ?_
  refine zi_icmp_ne 15 21 dX0_sizeOf_12 (by decide) rfl (fun c_12 => ?_) (fun c_12 => absurd c_12 (by decide))
  refine zi_aload_n 22 dX0_sizeOf_21 rfl rfl ?_
  refine zi_lload_n 23 dX0_sizeOf_22 rfl rfl ?_
  refine zc_virtual (n' := (0, 0)) (md' := mX0_lentSize) 26 dX0_sizeOf_23 tw_536 zv_X0_lentSize zcl_X0 (s_X0_lentSize B h a q _ hA (by first | omega | (simp; omega)) n hn) hA.o rfl rfl rfl rfl rfl rfl rfl rfl (zk_i fun x1 h1 hp1 => ?_)
  obtain ⟨rfl, k1, A1⟩ := hp1
  have o1 := A1.o
  exact zr_int hZ dX0_sizeOf_26 rfl rfl ⟨_, rfl, rfl, k1, by simpa [sizeT, shareT, markT] using A1⟩

set_option maxHeartbeats 4000000 in
set_option maxRecDepth 100000 in
theorem s_X0_sizeOf1 (B : zBB) (h : zHp) (a q : Nat) (L : List Int32) (hA : askR B h a q L) (hL : L.length ≤ 13) (n : Nat) (hn : n < 2 ^ 63) : zSpec mX0_sizeOf B (3, 0, 0) [.ref a, .long (lN n), .int 1] h (zPi (fun x h' => x = nI (sizeV 1 n) ∧ aFr a q h h' ∧ askR B h' a q (L ++ sizeT 1))) := by
  refine zSpec.of (by decide) (Nat.le_of_ble_eq_true rfl) (fun X hZ => ?_)
  show zG X mX0_sizeOf B (3, 0, 0) (0, 0) 0 [(0, .ref a), (1, .long (lN n)), (3, .int 1)] [] h
  refine zi_iload_n 1 dX0_sizeOf_0 rfl rfl ?_
  refine zi_iconst (v := 4) 2 dX0_sizeOf_1 (by decide) rfl ?_
  refine zi_icmp_ne 5 10 dX0_sizeOf_2 (by decide) rfl (fun c_2 => ?_) (fun c_2 => absurd c_2 (by decide))
  refine zi_iload_n 11 dX0_sizeOf_10 rfl rfl ?_
  refine zi_iconst (v := 3) 12 dX0_sizeOf_11 (by decide) rfl ?_
  refine zi_icmp_ne 15 21 dX0_sizeOf_12 (by decide) rfl (fun c_12 => ?_) (fun c_12 => absurd c_12 (by decide))
  refine zi_aload_n 22 dX0_sizeOf_21 rfl rfl ?_
  refine zi_lload_n 23 dX0_sizeOf_22 rfl rfl ?_
  refine zc_virtual (n' := (0, 0)) (md' := mX0_lentSize) 26 dX0_sizeOf_23 tw_536 zv_X0_lentSize zcl_X0 (s_X0_lentSize B h a q _ hA (by first | omega | (simp; omega)) n hn) hA.o rfl rfl rfl rfl rfl rfl rfl rfl (zk_i fun x1 h1 hp1 => ?_)
  obtain ⟨rfl, k1, A1⟩ := hp1
  have o1 := A1.o
  exact zr_int hZ dX0_sizeOf_26 rfl rfl ⟨_, rfl, rfl, k1, by simpa [sizeT, shareT, markT] using A1⟩

set_option maxHeartbeats 4000000 in
set_option maxRecDepth 100000 in
theorem s_X0_sizeOf2 (B : zBB) (h : zHp) (a q : Nat) (L : List Int32) (hA : askR B h a q L) (hL : L.length ≤ 13) (n : Nat) (hn : n < 2 ^ 63) : zSpec mX0_sizeOf B (3, 0, 0) [.ref a, .long (lN n), .int 2] h (zPi (fun x h' => x = nI (sizeV 2 n) ∧ aFr a q h h' ∧ askR B h' a q (L ++ sizeT 2))) := by
  refine zSpec.of (by decide) (Nat.le_of_ble_eq_true rfl) (fun X hZ => ?_)
  show zG X mX0_sizeOf B (3, 0, 0) (0, 0) 0 [(0, .ref a), (1, .long (lN n)), (3, .int 2)] [] h
  refine zi_iload_n 1 dX0_sizeOf_0 rfl rfl ?_
  refine zi_iconst (v := 4) 2 dX0_sizeOf_1 (by decide) rfl ?_
  refine zi_icmp_ne 5 10 dX0_sizeOf_2 (by decide) rfl (fun c_2 => ?_) (fun c_2 => absurd c_2 (by decide))
  refine zi_iload_n 11 dX0_sizeOf_10 rfl rfl ?_
  refine zi_iconst (v := 3) 12 dX0_sizeOf_11 (by decide) rfl ?_
  refine zi_icmp_ne 15 21 dX0_sizeOf_12 (by decide) rfl (fun c_12 => ?_) (fun c_12 => absurd c_12 (by decide))
  refine zi_aload_n 22 dX0_sizeOf_21 rfl rfl ?_
  refine zi_lload_n 23 dX0_sizeOf_22 rfl rfl ?_
  refine zc_virtual (n' := (0, 0)) (md' := mX0_lentSize) 26 dX0_sizeOf_23 tw_536 zv_X0_lentSize zcl_X0 (s_X0_lentSize B h a q _ hA (by first | omega | (simp; omega)) n hn) hA.o rfl rfl rfl rfl rfl rfl rfl rfl (zk_i fun x1 h1 hp1 => ?_)
  obtain ⟨rfl, k1, A1⟩ := hp1
  have o1 := A1.o
  exact zr_int hZ dX0_sizeOf_26 rfl rfl ⟨_, rfl, rfl, k1, by simpa [sizeT, shareT, markT] using A1⟩

set_option maxHeartbeats 4000000 in
set_option maxRecDepth 100000 in
theorem s_X0_sizeOf3 (B : zBB) (h : zHp) (a q : Nat) (L : List Int32) (hA : askR B h a q L) (hL : L.length ≤ 13) (n : Nat) (hn : n < 2 ^ 63) : zSpec mX0_sizeOf B (3, 0, 0) [.ref a, .long (lN n), .int 3] h (zPi (fun x h' => x = nI (sizeV 3 n) ∧ aFr a q h h' ∧ askR B h' a q (L ++ sizeT 3))) := by
  refine zSpec.of (by decide) (Nat.le_of_ble_eq_true rfl) (fun X hZ => ?_)
  show zG X mX0_sizeOf B (3, 0, 0) (0, 0) 0 [(0, .ref a), (1, .long (lN n)), (3, .int 3)] [] h
  refine zi_iload_n 1 dX0_sizeOf_0 rfl rfl ?_
  refine zi_iconst (v := 4) 2 dX0_sizeOf_1 (by decide) rfl ?_
  refine zi_icmp_ne 5 10 dX0_sizeOf_2 (by decide) rfl (fun c_2 => ?_) (fun c_2 => absurd c_2 (by decide))
  refine zi_iload_n 11 dX0_sizeOf_10 rfl rfl ?_
  refine zi_iconst (v := 3) 12 dX0_sizeOf_11 (by decide) rfl ?_
  refine zi_icmp_ne 15 21 dX0_sizeOf_12 (by decide) rfl (fun c_12 => absurd c_12 (by decide)) (fun c_12 => ?_)
  refine zi_aload_n 16 dX0_sizeOf_15 rfl rfl ?_
  refine zi_lload_n 17 dX0_sizeOf_16 rfl rfl ?_
  refine zc_virtual (n' := (0, 0)) (md' := mX0_primeSize) 20 dX0_sizeOf_17 tw_532 zv_X0_primeSize zcl_X0 (s_X0_primeSize B h a q _ hA (by first | omega | (simp; omega)) n hn) hA.o rfl rfl rfl rfl rfl rfl rfl rfl (zk_i fun x1 h1 hp1 => ?_)
  obtain ⟨rfl, k1, A1⟩ := hp1
  have o1 := A1.o
  exact zr_int hZ dX0_sizeOf_20 rfl rfl ⟨_, rfl, rfl, k1, by simpa [sizeT, shareT, markT] using A1⟩

set_option maxHeartbeats 4000000 in
set_option maxRecDepth 100000 in
theorem s_X0_sizeOf4 (B : zBB) (h : zHp) (a q : Nat) (L : List Int32) (hA : askR B h a q L) (hL : L.length ≤ 13) (n : Nat) (hn : n < 2 ^ 63) : zSpec mX0_sizeOf B (3, 0, 0) [.ref a, .long (lN n), .int 4] h (zPi (fun x h' => x = nI (sizeV 4 n) ∧ aFr a q h h' ∧ askR B h' a q (L ++ sizeT 4))) := by
  refine zSpec.of (by decide) (Nat.le_of_ble_eq_true rfl) (fun X hZ => ?_)
  show zG X mX0_sizeOf B (3, 0, 0) (0, 0) 0 [(0, .ref a), (1, .long (lN n)), (3, .int 4)] [] h
  refine zi_iload_n 1 dX0_sizeOf_0 rfl rfl ?_
  refine zi_iconst (v := 4) 2 dX0_sizeOf_1 (by decide) rfl ?_
  refine zi_icmp_ne 5 10 dX0_sizeOf_2 (by decide) rfl (fun c_2 => absurd c_2 (by decide)) (fun c_2 => ?_)
  refine zi_aload_n 6 dX0_sizeOf_5 rfl rfl ?_
  refine zc_virtual (n' := (0, 0)) (md' := mX0_unitSize) 9 dX0_sizeOf_6 tw_524 zv_X0_unitSize zcl_X0 (s_X0_unitSize B h a q _ hA (by first | omega | (simp; omega))) hA.o rfl rfl rfl rfl rfl rfl rfl rfl (zk_i fun x1 h1 hp1 => ?_)
  obtain ⟨rfl, k1, A1⟩ := hp1
  have o1 := A1.o
  exact zr_int hZ dX0_sizeOf_9 rfl rfl ⟨_, rfl, rfl, k1, by simpa [sizeT, shareT, markT] using A1⟩

set_option maxHeartbeats 4000000 in
set_option maxRecDepth 100000 in
theorem s_X0_fourShare (B : zBB) (h : zHp) (a q : Nat) (L : List Int32) (hA : askR B h a q L) (hL : L.length ≤ 15)  : zSpec mX0_fourShare B (1, 0, 0) [.ref a] h (zPi (fun x h' => x = 24 ∧ aFr a q h h' ∧ askR B h' a q (L ++ [20]))) := by
  refine zSpec.of (by decide) (Nat.le_of_ble_eq_true rfl) (fun X hZ => ?_)
  show zG X mX0_fourShare B (1, 0, 0) (0, 0) 0 [(0, .ref a)] [] h
  refine zi_aload_n 1 dX0_fourShare_0 rfl rfl ?_
  refine zi_bipush (v := 20) 3 dX0_fourShare_1 (by decide) rfl ?_
  refine zc_virtual (n' := (0, 0)) (md' := mX0_begin) 6 dX0_fourShare_3 tw_528 zv_X0_begin zcl_X0 (s_X0_begin B h a q _ hA (by first | omega | (simp; omega)) 20) hA.o rfl rfl rfl rfl rfl rfl rfl rfl (zk_v fun h1 hp1 => ?_)
  obtain ⟨k1, A1⟩ := hp1
  have o1 := A1.o
  refine zi_bipush (v := 24) 8 dX0_fourShare_6 (by decide) rfl ?_
  exact zr_int hZ dX0_fourShare_8 rfl rfl ⟨_, rfl, rfl, k1, by simpa [sizeT, shareT, markT] using A1⟩

set_option maxHeartbeats 4000000 in
set_option maxRecDepth 100000 in
theorem s_X0_halfShare (B : zBB) (h : zHp) (a q : Nat) (L : List Int32) (hA : askR B h a q L) (hL : L.length ≤ 14)  : zSpec mX0_halfShare B (2, 0, 0) [.ref a] h (zPi (fun x h' => x = 12 ∧ aFr a q h h' ∧ askR B h' a q (L ++ [21, 20]))) := by
  refine zSpec.of (by decide) (Nat.le_of_ble_eq_true rfl) (fun X hZ => ?_)
  show zG X mX0_halfShare B (2, 0, 0) (0, 0) 0 [(0, .ref a)] [] h
  refine zi_aload_n 1 dX0_halfShare_0 rfl rfl ?_
  refine zi_bipush (v := 21) 3 dX0_halfShare_1 (by decide) rfl ?_
  refine zc_virtual (n' := (0, 0)) (md' := mX0_begin) 6 dX0_halfShare_3 tw_528 zv_X0_begin zcl_X0 (s_X0_begin B h a q _ hA (by first | omega | (simp; omega)) 21) hA.o rfl rfl rfl rfl rfl rfl rfl rfl (zk_v fun h1 hp1 => ?_)
  obtain ⟨k1, A1⟩ := hp1
  have o1 := A1.o
  refine zi_aload_n 7 dX0_halfShare_6 rfl rfl ?_
  refine zc_virtual (n' := (0, 0)) (md' := mX0_fourShare) 10 dX0_halfShare_7 tw_553 zv_X0_fourShare zcl_X0 (s_X0_fourShare B h1 a q _ A1 (by first | omega | (simp; omega))) o1 rfl rfl rfl rfl rfl rfl rfl rfl (zk_i fun x2 h2 hp2 => ?_)
  obtain ⟨rfl, k2, A2⟩ := hp2
  have o2 := A2.o
  refine zi_iconst (v := 2) 11 dX0_halfShare_10 (by decide) rfl ?_
  refine zi_idiv 12 dX0_halfShare_11 (by decide) rfl ?_
  exact zr_int hZ dX0_halfShare_12 rfl rfl ⟨_, rfl, rfl, aFr_t (k1) k2, by simpa [sizeT, shareT, markT] using A2⟩

set_option maxHeartbeats 4000000 in
set_option maxRecDepth 100000 in
theorem s_X0_plainShare2 (B : zBB) (h : zHp) (a q : Nat) (L : List Int32) (hA : askR B h a q L) (hL : L.length ≤ 11) (n : Nat) (hn : n < 2 ^ 63) : zSpec mX0_plainShare B (4, 0, 0) [.ref a, .long (lN n), .int 2] h (zPi (fun x h' => x = nI (24 + sizeV 2 n) ∧ aFr a q h h' ∧ askR B h' a q (L ++ ([22, 20] ++ sizeT 2)))) := by
  refine zSpec.of (by decide) (Nat.le_of_ble_eq_true rfl) (fun X hZ => ?_)
  show zG X mX0_plainShare B (4, 0, 0) (0, 0) 0 [(0, .ref a), (1, .long (lN n)), (3, .int 2)] [] h
  refine zi_aload_n 1 dX0_plainShare_0 rfl rfl ?_
  refine zi_bipush (v := 22) 3 dX0_plainShare_1 (by decide) rfl ?_
  refine zc_virtual (n' := (0, 0)) (md' := mX0_begin) 6 dX0_plainShare_3 tw_528 zv_X0_begin zcl_X0 (s_X0_begin B h a q _ hA (by first | omega | (simp; omega)) 22) hA.o rfl rfl rfl rfl rfl rfl rfl rfl (zk_v fun h1 hp1 => ?_)
  obtain ⟨k1, A1⟩ := hp1
  have o1 := A1.o
  refine zi_aload_n 7 dX0_plainShare_6 rfl rfl ?_
  refine zc_virtual (n' := (0, 0)) (md' := mX0_fourShare) 10 dX0_plainShare_7 tw_553 zv_X0_fourShare zcl_X0 (s_X0_fourShare B h1 a q _ A1 (by first | omega | (simp; omega))) o1 rfl rfl rfl rfl rfl rfl rfl rfl (zk_i fun x2 h2 hp2 => ?_)
  obtain ⟨rfl, k2, A2⟩ := hp2
  have o2 := A2.o
  refine zi_istore (lv' := [(4, _), (0, _), (1, _), (3, _)]) 12 dX0_plainShare_10 rfl rfl rfl ?_
  refine zi_iload 14 dX0_plainShare_12 rfl rfl ?_
  refine zi_aload_n 15 dX0_plainShare_14 rfl rfl ?_
  refine zi_lload_n 16 dX0_plainShare_15 rfl rfl ?_
  refine zi_iload_n 17 dX0_plainShare_16 rfl rfl ?_
  refine zc_virtual (n' := (0, 0)) (md' := mX0_sizeOf) 20 dX0_plainShare_17 tw_557 zv_X0_sizeOf zcl_X0 (s_X0_sizeOf2 B h2 a q _ A2 (by first | omega | (simp; omega)) n hn) o2 rfl rfl rfl rfl rfl rfl rfl rfl (zk_i fun x3 h3 hp3 => ?_)
  obtain ⟨rfl, k3, A3⟩ := hp3
  have o3 := A3.o
  refine zi_iadd 21 dX0_plainShare_20 rfl ?_
  exact zr_int hZ dX0_plainShare_21 rfl rfl ⟨_, rfl, nI_add 24 _, aFr_t (aFr_t (k1) k2) k3, by simpa [sizeT, shareT, markT] using A3⟩

set_option maxHeartbeats 4000000 in
set_option maxRecDepth 100000 in
theorem s_X0_plainShare3 (B : zBB) (h : zHp) (a q : Nat) (L : List Int32) (hA : askR B h a q L) (hL : L.length ≤ 11) (n : Nat) (hn : n < 2 ^ 63) : zSpec mX0_plainShare B (4, 0, 0) [.ref a, .long (lN n), .int 3] h (zPi (fun x h' => x = nI (24 + sizeV 3 n) ∧ aFr a q h h' ∧ askR B h' a q (L ++ ([22, 20] ++ sizeT 3)))) := by
  refine zSpec.of (by decide) (Nat.le_of_ble_eq_true rfl) (fun X hZ => ?_)
  show zG X mX0_plainShare B (4, 0, 0) (0, 0) 0 [(0, .ref a), (1, .long (lN n)), (3, .int 3)] [] h
  refine zi_aload_n 1 dX0_plainShare_0 rfl rfl ?_
  refine zi_bipush (v := 22) 3 dX0_plainShare_1 (by decide) rfl ?_
  refine zc_virtual (n' := (0, 0)) (md' := mX0_begin) 6 dX0_plainShare_3 tw_528 zv_X0_begin zcl_X0 (s_X0_begin B h a q _ hA (by first | omega | (simp; omega)) 22) hA.o rfl rfl rfl rfl rfl rfl rfl rfl (zk_v fun h1 hp1 => ?_)
  obtain ⟨k1, A1⟩ := hp1
  have o1 := A1.o
  refine zi_aload_n 7 dX0_plainShare_6 rfl rfl ?_
  refine zc_virtual (n' := (0, 0)) (md' := mX0_fourShare) 10 dX0_plainShare_7 tw_553 zv_X0_fourShare zcl_X0 (s_X0_fourShare B h1 a q _ A1 (by first | omega | (simp; omega))) o1 rfl rfl rfl rfl rfl rfl rfl rfl (zk_i fun x2 h2 hp2 => ?_)
  obtain ⟨rfl, k2, A2⟩ := hp2
  have o2 := A2.o
  refine zi_istore (lv' := [(4, _), (0, _), (1, _), (3, _)]) 12 dX0_plainShare_10 rfl rfl rfl ?_
  refine zi_iload 14 dX0_plainShare_12 rfl rfl ?_
  refine zi_aload_n 15 dX0_plainShare_14 rfl rfl ?_
  refine zi_lload_n 16 dX0_plainShare_15 rfl rfl ?_
  refine zi_iload_n 17 dX0_plainShare_16 rfl rfl ?_
  refine zc_virtual (n' := (0, 0)) (md' := mX0_sizeOf) 20 dX0_plainShare_17 tw_557 zv_X0_sizeOf zcl_X0 (s_X0_sizeOf3 B h2 a q _ A2 (by first | omega | (simp; omega)) n hn) o2 rfl rfl rfl rfl rfl rfl rfl rfl (zk_i fun x3 h3 hp3 => ?_)
  obtain ⟨rfl, k3, A3⟩ := hp3
  have o3 := A3.o
  refine zi_iadd 21 dX0_plainShare_20 rfl ?_
  exact zr_int hZ dX0_plainShare_21 rfl rfl ⟨_, rfl, nI_add 24 _, aFr_t (aFr_t (k1) k2) k3, by simpa [sizeT, shareT, markT] using A3⟩

set_option maxHeartbeats 4000000 in
set_option maxRecDepth 100000 in
theorem s_X0_plainShare4 (B : zBB) (h : zHp) (a q : Nat) (L : List Int32) (hA : askR B h a q L) (hL : L.length ≤ 11) (n : Nat) (hn : n < 2 ^ 63) : zSpec mX0_plainShare B (4, 0, 0) [.ref a, .long (lN n), .int 4] h (zPi (fun x h' => x = nI (24 + sizeV 4 n) ∧ aFr a q h h' ∧ askR B h' a q (L ++ ([22, 20] ++ sizeT 4)))) := by
  refine zSpec.of (by decide) (Nat.le_of_ble_eq_true rfl) (fun X hZ => ?_)
  show zG X mX0_plainShare B (4, 0, 0) (0, 0) 0 [(0, .ref a), (1, .long (lN n)), (3, .int 4)] [] h
  refine zi_aload_n 1 dX0_plainShare_0 rfl rfl ?_
  refine zi_bipush (v := 22) 3 dX0_plainShare_1 (by decide) rfl ?_
  refine zc_virtual (n' := (0, 0)) (md' := mX0_begin) 6 dX0_plainShare_3 tw_528 zv_X0_begin zcl_X0 (s_X0_begin B h a q _ hA (by first | omega | (simp; omega)) 22) hA.o rfl rfl rfl rfl rfl rfl rfl rfl (zk_v fun h1 hp1 => ?_)
  obtain ⟨k1, A1⟩ := hp1
  have o1 := A1.o
  refine zi_aload_n 7 dX0_plainShare_6 rfl rfl ?_
  refine zc_virtual (n' := (0, 0)) (md' := mX0_fourShare) 10 dX0_plainShare_7 tw_553 zv_X0_fourShare zcl_X0 (s_X0_fourShare B h1 a q _ A1 (by first | omega | (simp; omega))) o1 rfl rfl rfl rfl rfl rfl rfl rfl (zk_i fun x2 h2 hp2 => ?_)
  obtain ⟨rfl, k2, A2⟩ := hp2
  have o2 := A2.o
  refine zi_istore (lv' := [(4, _), (0, _), (1, _), (3, _)]) 12 dX0_plainShare_10 rfl rfl rfl ?_
  refine zi_iload 14 dX0_plainShare_12 rfl rfl ?_
  refine zi_aload_n 15 dX0_plainShare_14 rfl rfl ?_
  refine zi_lload_n 16 dX0_plainShare_15 rfl rfl ?_
  refine zi_iload_n 17 dX0_plainShare_16 rfl rfl ?_
  refine zc_virtual (n' := (0, 0)) (md' := mX0_sizeOf) 20 dX0_plainShare_17 tw_557 zv_X0_sizeOf zcl_X0 (s_X0_sizeOf4 B h2 a q _ A2 (by first | omega | (simp; omega)) n hn) o2 rfl rfl rfl rfl rfl rfl rfl rfl (zk_i fun x3 h3 hp3 => ?_)
  obtain ⟨rfl, k3, A3⟩ := hp3
  have o3 := A3.o
  refine zi_iadd 21 dX0_plainShare_20 rfl ?_
  exact zr_int hZ dX0_plainShare_21 rfl rfl ⟨_, rfl, nI_add 24 _, aFr_t (aFr_t (k1) k2) k3, by simpa [sizeT, shareT, markT] using A3⟩

set_option maxHeartbeats 4000000 in
set_option maxRecDepth 100000 in
theorem s_X0_unitShare (B : zBB) (h : zHp) (a q : Nat) (L : List Int32) (hA : askR B h a q L) (hL : L.length ≤ 10) (n : Nat) (hn : n < 2 ^ 63) : zSpec mX0_unitShare B (5, 0, 0) [.ref a, .long (lN n), .int 4] h (zPi (fun x h' => x = nI ((24 + sizeV 4 n) / 5) ∧ aFr a q h h' ∧ askR B h' a q (L ++ ([23, 22, 20] ++ sizeT 4)))) := by
  refine zSpec.of (by decide) (Nat.le_of_ble_eq_true rfl) (fun X hZ => ?_)
  show zG X mX0_unitShare B (5, 0, 0) (0, 0) 0 [(0, .ref a), (1, .long (lN n)), (3, .int 4)] [] h
  refine zi_aload_n 1 dX0_unitShare_0 rfl rfl ?_
  refine zi_bipush (v := 23) 3 dX0_unitShare_1 (by decide) rfl ?_
  refine zc_virtual (n' := (0, 0)) (md' := mX0_begin) 6 dX0_unitShare_3 tw_528 zv_X0_begin zcl_X0 (s_X0_begin B h a q _ hA (by first | omega | (simp; omega)) 23) hA.o rfl rfl rfl rfl rfl rfl rfl rfl (zk_v fun h1 hp1 => ?_)
  obtain ⟨k1, A1⟩ := hp1
  have o1 := A1.o
  refine zi_aload_n 7 dX0_unitShare_6 rfl rfl ?_
  refine zi_lload_n 8 dX0_unitShare_7 rfl rfl ?_
  refine zi_iload_n 9 dX0_unitShare_8 rfl rfl ?_
  refine zc_virtual (n' := (0, 0)) (md' := mX0_plainShare) 12 dX0_unitShare_9 tw_549 zv_X0_plainShare zcl_X0 (s_X0_plainShare4 B h1 a q _ A1 (by first | omega | (simp; omega)) n hn) o1 rfl rfl rfl rfl rfl rfl rfl rfl (zk_i fun x2 h2 hp2 => ?_)
  obtain ⟨rfl, k2, A2⟩ := hp2
  have o2 := A2.o
  refine zi_iconst (v := 5) 13 dX0_unitShare_12 (by decide) rfl ?_
  refine zi_idiv 14 dX0_unitShare_13 (by decide) rfl ?_
  exact zr_int hZ dX0_unitShare_14 rfl rfl ⟨_, rfl, nI_div (a := 25) (b := 5) (by decide) (by decide), aFr_t (k1) k2, by simpa [sizeT, shareT, markT] using A2⟩

set_option maxHeartbeats 4000000 in
set_option maxRecDepth 100000 in
theorem s_X0_shareOf0 (B : zBB) (h : zHp) (a q : Nat) (L : List Int32) (hA : askR B h a q L) (hL : L.length ≤ 10) (n : Nat) (hn : n < 2 ^ 63) : zSpec mX0_shareOf B (6, 0, 0) [.ref a, .long (lN n), .int 0] h (zPi (fun x h' => x = nI (shareV 0 n) ∧ aFr a q h h' ∧ askR B h' a q (L ++ shareT 0))) := by
  refine zSpec.of (by decide) (Nat.le_of_ble_eq_true rfl) (fun X hZ => ?_)
  show zG X mX0_shareOf B (6, 0, 0) (0, 0) 0 [(0, .ref a), (1, .long (lN n)), (3, .int 0)] [] h
  refine zi_iload_n 1 dX0_shareOf_0 rfl rfl ?_
  refine zi_iconst (v := 4) 2 dX0_shareOf_1 (by decide) rfl ?_
  refine zi_icmp_ne 5 12 dX0_shareOf_2 (by decide) rfl (fun c_2 => ?_) (fun c_2 => absurd c_2 (by decide))
  refine zi_iload_n 13 dX0_shareOf_12 rfl rfl ?_
  refine zi_iconst (v := 2) 14 dX0_shareOf_13 (by decide) rfl ?_
  refine zi_icmp_eq 17 22 dX0_shareOf_14 (by decide) rfl (fun c_14 => absurd c_14 (by decide)) (fun c_14 => ?_)
  refine zi_iload_n 18 dX0_shareOf_17 rfl rfl ?_
  refine zi_iconst (v := 3) 19 dX0_shareOf_18 (by decide) rfl ?_
  refine zi_icmp_ne 22 29 dX0_shareOf_19 (by decide) rfl (fun c_19 => ?_) (fun c_19 => absurd c_19 (by decide))
  refine zi_iload_n 30 dX0_shareOf_29 rfl rfl ?_
  refine zi_iconst (v := 1) 31 dX0_shareOf_30 (by decide) rfl ?_
  refine zi_icmp_ne 34 39 dX0_shareOf_31 (by decide) rfl (fun c_31 => ?_) (fun c_31 => absurd c_31 (by decide))
  refine zi_aload_n 40 dX0_shareOf_39 rfl rfl ?_
  refine zc_virtual (n' := (0, 0)) (md' := mX0_fourShare) 43 dX0_shareOf_40 tw_553 zv_X0_fourShare zcl_X0 (s_X0_fourShare B h a q _ hA (by first | omega | (simp; omega))) hA.o rfl rfl rfl rfl rfl rfl rfl rfl (zk_i fun x1 h1 hp1 => ?_)
  obtain ⟨rfl, k1, A1⟩ := hp1
  have o1 := A1.o
  exact zr_int hZ dX0_shareOf_43 rfl rfl ⟨_, rfl, rfl, k1, by simpa [sizeT, shareT, markT] using A1⟩

set_option maxHeartbeats 4000000 in
set_option maxRecDepth 100000 in
theorem s_X0_shareOf1 (B : zBB) (h : zHp) (a q : Nat) (L : List Int32) (hA : askR B h a q L) (hL : L.length ≤ 10) (n : Nat) (hn : n < 2 ^ 63) : zSpec mX0_shareOf B (6, 0, 0) [.ref a, .long (lN n), .int 1] h (zPi (fun x h' => x = nI (shareV 1 n) ∧ aFr a q h h' ∧ askR B h' a q (L ++ shareT 1))) := by
  refine zSpec.of (by decide) (Nat.le_of_ble_eq_true rfl) (fun X hZ => ?_)
  show zG X mX0_shareOf B (6, 0, 0) (0, 0) 0 [(0, .ref a), (1, .long (lN n)), (3, .int 1)] [] h
  refine zi_iload_n 1 dX0_shareOf_0 rfl rfl ?_
  refine zi_iconst (v := 4) 2 dX0_shareOf_1 (by decide) rfl ?_
  refine zi_icmp_ne 5 12 dX0_shareOf_2 (by decide) rfl (fun c_2 => ?_) (fun c_2 => absurd c_2 (by decide))
  refine zi_iload_n 13 dX0_shareOf_12 rfl rfl ?_
  refine zi_iconst (v := 2) 14 dX0_shareOf_13 (by decide) rfl ?_
  refine zi_icmp_eq 17 22 dX0_shareOf_14 (by decide) rfl (fun c_14 => absurd c_14 (by decide)) (fun c_14 => ?_)
  refine zi_iload_n 18 dX0_shareOf_17 rfl rfl ?_
  refine zi_iconst (v := 3) 19 dX0_shareOf_18 (by decide) rfl ?_
  refine zi_icmp_ne 22 29 dX0_shareOf_19 (by decide) rfl (fun c_19 => ?_) (fun c_19 => absurd c_19 (by decide))
  refine zi_iload_n 30 dX0_shareOf_29 rfl rfl ?_
  refine zi_iconst (v := 1) 31 dX0_shareOf_30 (by decide) rfl ?_
  refine zi_icmp_ne 34 39 dX0_shareOf_31 (by decide) rfl (fun c_31 => absurd c_31 (by decide)) (fun c_31 => ?_)
  refine zi_aload_n 35 dX0_shareOf_34 rfl rfl ?_
  refine zc_virtual (n' := (0, 0)) (md' := mX0_halfShare) 38 dX0_shareOf_35 tw_558 zv_X0_halfShare zcl_X0 (s_X0_halfShare B h a q _ hA (by first | omega | (simp; omega))) hA.o rfl rfl rfl rfl rfl rfl rfl rfl (zk_i fun x1 h1 hp1 => ?_)
  obtain ⟨rfl, k1, A1⟩ := hp1
  have o1 := A1.o
  exact zr_int hZ dX0_shareOf_38 rfl rfl ⟨_, rfl, rfl, k1, by simpa [sizeT, shareT, markT] using A1⟩

set_option maxHeartbeats 4000000 in
set_option maxRecDepth 100000 in
theorem s_X0_shareOf2 (B : zBB) (h : zHp) (a q : Nat) (L : List Int32) (hA : askR B h a q L) (hL : L.length ≤ 10) (n : Nat) (hn : n < 2 ^ 63) : zSpec mX0_shareOf B (6, 0, 0) [.ref a, .long (lN n), .int 2] h (zPi (fun x h' => x = nI (shareV 2 n) ∧ aFr a q h h' ∧ askR B h' a q (L ++ shareT 2))) := by
  refine zSpec.of (by decide) (Nat.le_of_ble_eq_true rfl) (fun X hZ => ?_)
  show zG X mX0_shareOf B (6, 0, 0) (0, 0) 0 [(0, .ref a), (1, .long (lN n)), (3, .int 2)] [] h
  refine zi_iload_n 1 dX0_shareOf_0 rfl rfl ?_
  refine zi_iconst (v := 4) 2 dX0_shareOf_1 (by decide) rfl ?_
  refine zi_icmp_ne 5 12 dX0_shareOf_2 (by decide) rfl (fun c_2 => ?_) (fun c_2 => absurd c_2 (by decide))
  refine zi_iload_n 13 dX0_shareOf_12 rfl rfl ?_
  refine zi_iconst (v := 2) 14 dX0_shareOf_13 (by decide) rfl ?_
  refine zi_icmp_eq 17 22 dX0_shareOf_14 (by decide) rfl (fun c_14 => ?_) (fun c_14 => absurd c_14 (by decide))
  refine zi_aload_n 23 dX0_shareOf_22 rfl rfl ?_
  refine zi_lload_n 24 dX0_shareOf_23 rfl rfl ?_
  refine zi_iload_n 25 dX0_shareOf_24 rfl rfl ?_
  refine zc_virtual (n' := (0, 0)) (md' := mX0_plainShare) 28 dX0_shareOf_25 tw_549 zv_X0_plainShare zcl_X0 (s_X0_plainShare2 B h a q _ hA (by first | omega | (simp; omega)) n hn) hA.o rfl rfl rfl rfl rfl rfl rfl rfl (zk_i fun x1 h1 hp1 => ?_)
  obtain ⟨rfl, k1, A1⟩ := hp1
  have o1 := A1.o
  exact zr_int hZ dX0_shareOf_28 rfl rfl ⟨_, rfl, rfl, k1, by simpa [sizeT, shareT, markT] using A1⟩

set_option maxHeartbeats 4000000 in
set_option maxRecDepth 100000 in
theorem s_X0_shareOf3 (B : zBB) (h : zHp) (a q : Nat) (L : List Int32) (hA : askR B h a q L) (hL : L.length ≤ 10) (n : Nat) (hn : n < 2 ^ 63) : zSpec mX0_shareOf B (6, 0, 0) [.ref a, .long (lN n), .int 3] h (zPi (fun x h' => x = nI (shareV 3 n) ∧ aFr a q h h' ∧ askR B h' a q (L ++ shareT 3))) := by
  refine zSpec.of (by decide) (Nat.le_of_ble_eq_true rfl) (fun X hZ => ?_)
  show zG X mX0_shareOf B (6, 0, 0) (0, 0) 0 [(0, .ref a), (1, .long (lN n)), (3, .int 3)] [] h
  refine zi_iload_n 1 dX0_shareOf_0 rfl rfl ?_
  refine zi_iconst (v := 4) 2 dX0_shareOf_1 (by decide) rfl ?_
  refine zi_icmp_ne 5 12 dX0_shareOf_2 (by decide) rfl (fun c_2 => ?_) (fun c_2 => absurd c_2 (by decide))
  refine zi_iload_n 13 dX0_shareOf_12 rfl rfl ?_
  refine zi_iconst (v := 2) 14 dX0_shareOf_13 (by decide) rfl ?_
  refine zi_icmp_eq 17 22 dX0_shareOf_14 (by decide) rfl (fun c_14 => absurd c_14 (by decide)) (fun c_14 => ?_)
  refine zi_iload_n 18 dX0_shareOf_17 rfl rfl ?_
  refine zi_iconst (v := 3) 19 dX0_shareOf_18 (by decide) rfl ?_
  refine zi_icmp_ne 22 29 dX0_shareOf_19 (by decide) rfl (fun c_19 => absurd c_19 (by decide)) (fun c_19 => ?_)
  refine zi_aload_n 23 dX0_shareOf_22 rfl rfl ?_
  refine zi_lload_n 24 dX0_shareOf_23 rfl rfl ?_
  refine zi_iload_n 25 dX0_shareOf_24 rfl rfl ?_
  refine zc_virtual (n' := (0, 0)) (md' := mX0_plainShare) 28 dX0_shareOf_25 tw_549 zv_X0_plainShare zcl_X0 (s_X0_plainShare3 B h a q _ hA (by first | omega | (simp; omega)) n hn) hA.o rfl rfl rfl rfl rfl rfl rfl rfl (zk_i fun x1 h1 hp1 => ?_)
  obtain ⟨rfl, k1, A1⟩ := hp1
  have o1 := A1.o
  exact zr_int hZ dX0_shareOf_28 rfl rfl ⟨_, rfl, rfl, k1, by simpa [sizeT, shareT, markT] using A1⟩

set_option maxHeartbeats 4000000 in
set_option maxRecDepth 100000 in
theorem s_X0_shareOf4 (B : zBB) (h : zHp) (a q : Nat) (L : List Int32) (hA : askR B h a q L) (hL : L.length ≤ 10) (n : Nat) (hn : n < 2 ^ 63) : zSpec mX0_shareOf B (6, 0, 0) [.ref a, .long (lN n), .int 4] h (zPi (fun x h' => x = nI (shareV 4 n) ∧ aFr a q h h' ∧ askR B h' a q (L ++ shareT 4))) := by
  refine zSpec.of (by decide) (Nat.le_of_ble_eq_true rfl) (fun X hZ => ?_)
  show zG X mX0_shareOf B (6, 0, 0) (0, 0) 0 [(0, .ref a), (1, .long (lN n)), (3, .int 4)] [] h
  refine zi_iload_n 1 dX0_shareOf_0 rfl rfl ?_
  refine zi_iconst (v := 4) 2 dX0_shareOf_1 (by decide) rfl ?_
  refine zi_icmp_ne 5 12 dX0_shareOf_2 (by decide) rfl (fun c_2 => absurd c_2 (by decide)) (fun c_2 => ?_)
  refine zi_aload_n 6 dX0_shareOf_5 rfl rfl ?_
  refine zi_lload_n 7 dX0_shareOf_6 rfl rfl ?_
  refine zi_iload_n 8 dX0_shareOf_7 rfl rfl ?_
  refine zc_virtual (n' := (0, 0)) (md' := mX0_unitShare) 11 dX0_shareOf_8 tw_545 zv_X0_unitShare zcl_X0 (s_X0_unitShare B h a q _ hA (by first | omega | (simp; omega)) n hn) hA.o rfl rfl rfl rfl rfl rfl rfl rfl (zk_i fun x1 h1 hp1 => ?_)
  obtain ⟨rfl, k1, A1⟩ := hp1
  have o1 := A1.o
  exact zr_int hZ dX0_shareOf_11 rfl rfl ⟨_, rfl, rfl, k1, by simpa [sizeT, shareT, markT] using A1⟩

theorem mk_z {P : i4} (h : i4V P) : (iz ((P.1 + P.2.1 + P.2.2.1 + P.2.2.2) % 97)).toInt32 = nI (mkI P) := by
  have e : ((mkI P : Nat) : Int) = (P.1 + P.2.1 + P.2.2.1 + P.2.2.2) % 97 := Int.toNat_of_nonneg (Int.emod_nonneg _ (by decide))
  rw [← e, ← iz_lN, lN_i]
theorem mk_b {P : i4} (h : i4V P) : (P.1 + P.2.1 + P.2.2.1 + P.2.2.2).natAbs ≤ 252980 := by
  obtain ⟨b0, b1, b2, b3⟩ := zb_63 h.2
  omega

set_option maxHeartbeats 4000000 in
set_option maxRecDepth 100000 in
theorem s_X0_lentMark (B : zBB) (h : zHp) (a q : Nat) (L : List Int32) (hA : askR B h a q L) (hL : L.length ≤ 15) (b : Nat) (P : i4) (hV : i4V P) (hb : h b = some (zFo (z4i P))) (ba : b ≠ a) (bq : b ≠ q) : zSpec mX0_lentMark B (1, 0, 0) [.ref a, .ref b] h (zPi (fun x h' => x = nI (mkI P) ∧ aFr a q h h' ∧ askR B h' a q (L ++ [30]))) := by
  refine zSpec.of (by decide) (Nat.le_of_ble_eq_true rfl) (fun X hZ => ?_)
  show zG X mX0_lentMark B (1, 0, 0) (0, 0) 0 [(0, .ref a), (1, .ref b)] [] h
  refine zi_aload_n 1 dX0_lentMark_0 rfl rfl ?_
  refine zi_bipush (v := 30) 3 dX0_lentMark_1 (by decide) rfl ?_
  refine zc_virtual (n' := (0, 0)) (md' := mX0_begin) 6 dX0_lentMark_3 tw_528 zv_X0_begin zcl_X0 (s_X0_begin B h a q _ hA (by first | omega | (simp; omega)) 30) hA.o rfl rfl rfl rfl rfl rfl rfl rfl (zk_v fun h1 hp1 => ?_)
  obtain ⟨k1, A1⟩ := hp1
  have o1 := A1.o
  have hb1 := (k1 b ba bq).trans hb
  refine zi_aload_n 7 dX0_lentMark_6 rfl rfl ?_
  refine zi_getfield 10 0 dX0_lentMark_7 zcl_X4 tw_106 rfl rfl hb1 rfl rfl ?_
  refine zi_aload_n 11 dX0_lentMark_10 rfl rfl ?_
  refine zi_getfield 14 1 dX0_lentMark_11 zcl_X4 tw_111 rfl rfl hb1 rfl rfl ?_
  refine zi_ladd 15 dX0_lentMark_14 rfl ?_
  refine zi_aload_n 16 dX0_lentMark_15 rfl rfl ?_
  refine zi_getfield 19 2 dX0_lentMark_16 zcl_X4 tw_116 rfl rfl hb1 rfl rfl ?_
  refine zi_ladd 20 dX0_lentMark_19 rfl ?_
  refine zi_aload_n 21 dX0_lentMark_20 rfl rfl ?_
  refine zi_getfield 24 3 dX0_lentMark_21 zcl_X4 tw_121 rfl rfl hb1 rfl rfl ?_
  refine zi_ladd 25 dX0_lentMark_24 rfl ?_
  refine zi_ldc2 28 dX0_lentMark_25 tw_578 rfl ?_
  rw [show (z4i P).1 + (z4i P).2.1 + (z4i P).2.2.1 + (z4i P).2.2.2 = iz (P.1 + P.2.1 + P.2.2.1 + P.2.2.2) by unfold z4i; simp only [iz_add], show (97 : Int64) = iz 97 from rfl]
  have hm := mk_b hV
  refine zc_static (n' := (0, 0)) (md' := mJ9_floorMod_f86c9) 31 dX0_lentMark_28 tw_579 zs_J9_floorMod_f86c9 (s_J9_floorMod_f86c9 B h1 (P.1 + P.2.1 + P.2.2.1 + P.2.2.2) 97 (by omega) (by decide) (by decide) (by omega)) rfl rfl rfl rfl rfl rfl rfl rfl (zk_f ?_)
  refine zi_l2i 32 dX0_lentMark_31 rfl ?_
  rw [mk_z hV]
  exact zr_int hZ dX0_lentMark_32 rfl rfl ⟨_, rfl, rfl, k1, by simpa [sizeT, shareT, markT] using A1⟩

set_option maxHeartbeats 4000000 in
set_option maxRecDepth 100000 in
theorem s_X0_plainMark (B : zBB) (h : zHp) (a q : Nat) (L : List Int32) (hA : askR B h a q L) (hL : L.length ≤ 14) (b : Nat) (P : i4) (hV : i4V P) (hb : h b = some (zFo (z4i P))) (ba : b ≠ a) (bq : b ≠ q) : zSpec mX0_plainMark B (2, 0, 0) [.ref a, .ref b] h (zPi (fun x h' => x = nI (2 * mkI P) ∧ aFr a q h h' ∧ askR B h' a q (L ++ [31, 30]))) := by
  refine zSpec.of (by decide) (Nat.le_of_ble_eq_true rfl) (fun X hZ => ?_)
  show zG X mX0_plainMark B (2, 0, 0) (0, 0) 0 [(0, .ref a), (1, .ref b)] [] h
  refine zi_aload_n 1 dX0_plainMark_0 rfl rfl ?_
  refine zi_bipush (v := 31) 3 dX0_plainMark_1 (by decide) rfl ?_
  refine zc_virtual (n' := (0, 0)) (md' := mX0_begin) 6 dX0_plainMark_3 tw_528 zv_X0_begin zcl_X0 (s_X0_begin B h a q _ hA (by first | omega | (simp; omega)) 31) hA.o rfl rfl rfl rfl rfl rfl rfl rfl (zk_v fun h1 hp1 => ?_)
  obtain ⟨k1, A1⟩ := hp1
  have o1 := A1.o
  have hb1 := (k1 b ba bq).trans hb
  refine zi_iconst (v := 2) 7 dX0_plainMark_6 (by decide) rfl ?_
  refine zi_aload_n 8 dX0_plainMark_7 rfl rfl ?_
  refine zi_aload_n 9 dX0_plainMark_8 rfl rfl ?_
  refine zc_virtual (n' := (0, 0)) (md' := mX0_lentMark) 12 dX0_plainMark_9 tw_574 zv_X0_lentMark zcl_X0 (s_X0_lentMark B h1 a q _ A1 (by first | omega | (simp; omega)) b P hV hb1 ba bq) o1 rfl rfl rfl rfl rfl rfl rfl rfl (zk_i fun x2 h2 hp2 => ?_)
  obtain ⟨rfl, k2, A2⟩ := hp2
  have o2 := A2.o
  have hb2 := (k2 b ba bq).trans hb1
  refine zi_imul 13 dX0_plainMark_12 rfl ?_
  exact zr_int hZ dX0_plainMark_13 rfl rfl ⟨_, rfl, pk_mul 2 _, aFr_t (k1) k2, by simpa [sizeT, shareT, markT] using A2⟩

set_option maxHeartbeats 4000000 in
set_option maxRecDepth 100000 in
theorem s_X0_primeMark (B : zBB) (h : zHp) (a q : Nat) (L : List Int32) (hA : askR B h a q L) (hL : L.length ≤ 13) (b : Nat) (P : i4) (hV : i4V P) (hb : h b = some (zFo (z4i P))) (ba : b ≠ a) (bq : b ≠ q) : zSpec mX0_primeMark B (3, 0, 0) [.ref a, .ref b] h (zPi (fun x h' => x = nI (2 * mkI P + 1) ∧ aFr a q h h' ∧ askR B h' a q (L ++ [32, 31, 30]))) := by
  refine zSpec.of (by decide) (Nat.le_of_ble_eq_true rfl) (fun X hZ => ?_)
  show zG X mX0_primeMark B (3, 0, 0) (0, 0) 0 [(0, .ref a), (1, .ref b)] [] h
  refine zi_aload_n 1 dX0_primeMark_0 rfl rfl ?_
  refine zi_bipush (v := 32) 3 dX0_primeMark_1 (by decide) rfl ?_
  refine zc_virtual (n' := (0, 0)) (md' := mX0_begin) 6 dX0_primeMark_3 tw_528 zv_X0_begin zcl_X0 (s_X0_begin B h a q _ hA (by first | omega | (simp; omega)) 32) hA.o rfl rfl rfl rfl rfl rfl rfl rfl (zk_v fun h1 hp1 => ?_)
  obtain ⟨k1, A1⟩ := hp1
  have o1 := A1.o
  have hb1 := (k1 b ba bq).trans hb
  refine zi_aload_n 7 dX0_primeMark_6 rfl rfl ?_
  refine zi_aload_n 8 dX0_primeMark_7 rfl rfl ?_
  refine zc_virtual (n' := (0, 0)) (md' := mX0_plainMark) 11 dX0_primeMark_8 tw_570 zv_X0_plainMark zcl_X0 (s_X0_plainMark B h1 a q _ A1 (by first | omega | (simp; omega)) b P hV hb1 ba bq) o1 rfl rfl rfl rfl rfl rfl rfl rfl (zk_i fun x2 h2 hp2 => ?_)
  obtain ⟨rfl, k2, A2⟩ := hp2
  have o2 := A2.o
  have hb2 := (k2 b ba bq).trans hb1
  refine zi_iconst (v := 1) 12 dX0_primeMark_11 (by decide) rfl ?_
  refine zi_iadd 13 dX0_primeMark_12 rfl ?_
  exact zr_int hZ dX0_primeMark_13 rfl rfl ⟨_, rfl, nI_1 _, aFr_t (k1) k2, by simpa [sizeT, shareT, markT] using A2⟩

set_option maxHeartbeats 4000000 in
set_option maxRecDepth 100000 in
theorem s_X0_markOf0 (B : zBB) (h : zHp) (a q : Nat) (L : List Int32) (hA : askR B h a q L) (hL : L.length ≤ 12) (b : Nat) (P : i4) (hV : i4V P) (hb : h b = some (zFo (z4i P))) (ba : b ≠ a) (bq : b ≠ q) : zSpec mX0_markOf B (4, 0, 0) [.ref a, .ref b, .int 0] h (zPi (fun x h' => x = nI (markV 0 (mkI P)) ∧ aFr a q h h' ∧ askR B h' a q (L ++ markT 0))) := by
  refine zSpec.of (by decide) (Nat.le_of_ble_eq_true rfl) (fun X hZ => ?_)
  show zG X mX0_markOf B (4, 0, 0) (0, 0) 0 [(0, .ref a), (1, .ref b), (2, .int 0)] [] h
  refine zi_iload_n 1 dX0_markOf_0 rfl rfl ?_
  refine zi_iconst (v := 3) 2 dX0_markOf_1 (by decide) rfl ?_
  refine zi_icmp_ne 5 11 dX0_markOf_2 (by decide) rfl (fun c_2 => ?_) (fun c_2 => absurd c_2 (by decide))
  refine zi_iload_n 12 dX0_markOf_11 rfl rfl ?_
  refine zi_iconst (v := 2) 13 dX0_markOf_12 (by decide) rfl ?_
  refine zi_icmp_eq 16 21 dX0_markOf_13 (by decide) rfl (fun c_13 => absurd c_13 (by decide)) (fun c_13 => ?_)
  refine zi_iload_n 17 dX0_markOf_16 rfl rfl ?_
  refine zi_iconst (v := 4) 18 dX0_markOf_17 (by decide) rfl ?_
  refine zi_icmp_ne 21 27 dX0_markOf_18 (by decide) rfl (fun c_18 => ?_) (fun c_18 => absurd c_18 (by decide))
  refine zi_aload_n 28 dX0_markOf_27 rfl rfl ?_
  refine zi_aload_n 29 dX0_markOf_28 rfl rfl ?_
  refine zc_virtual (n' := (0, 0)) (md' := mX0_lentMark) 32 dX0_markOf_29 tw_574 zv_X0_lentMark zcl_X0 (s_X0_lentMark B h a q _ hA (by first | omega | (simp; omega)) b P hV hb ba bq) hA.o rfl rfl rfl rfl rfl rfl rfl rfl (zk_i fun x1 h1 hp1 => ?_)
  obtain ⟨rfl, k1, A1⟩ := hp1
  have o1 := A1.o
  have hb1 := (k1 b ba bq).trans hb
  exact zr_int hZ dX0_markOf_32 rfl rfl ⟨_, rfl, rfl, k1, by simpa [sizeT, shareT, markT] using A1⟩

set_option maxHeartbeats 4000000 in
set_option maxRecDepth 100000 in
theorem s_X0_markOf1 (B : zBB) (h : zHp) (a q : Nat) (L : List Int32) (hA : askR B h a q L) (hL : L.length ≤ 12) (b : Nat) (P : i4) (hV : i4V P) (hb : h b = some (zFo (z4i P))) (ba : b ≠ a) (bq : b ≠ q) : zSpec mX0_markOf B (4, 0, 0) [.ref a, .ref b, .int 1] h (zPi (fun x h' => x = nI (markV 1 (mkI P)) ∧ aFr a q h h' ∧ askR B h' a q (L ++ markT 1))) := by
  refine zSpec.of (by decide) (Nat.le_of_ble_eq_true rfl) (fun X hZ => ?_)
  show zG X mX0_markOf B (4, 0, 0) (0, 0) 0 [(0, .ref a), (1, .ref b), (2, .int 1)] [] h
  refine zi_iload_n 1 dX0_markOf_0 rfl rfl ?_
  refine zi_iconst (v := 3) 2 dX0_markOf_1 (by decide) rfl ?_
  refine zi_icmp_ne 5 11 dX0_markOf_2 (by decide) rfl (fun c_2 => ?_) (fun c_2 => absurd c_2 (by decide))
  refine zi_iload_n 12 dX0_markOf_11 rfl rfl ?_
  refine zi_iconst (v := 2) 13 dX0_markOf_12 (by decide) rfl ?_
  refine zi_icmp_eq 16 21 dX0_markOf_13 (by decide) rfl (fun c_13 => absurd c_13 (by decide)) (fun c_13 => ?_)
  refine zi_iload_n 17 dX0_markOf_16 rfl rfl ?_
  refine zi_iconst (v := 4) 18 dX0_markOf_17 (by decide) rfl ?_
  refine zi_icmp_ne 21 27 dX0_markOf_18 (by decide) rfl (fun c_18 => ?_) (fun c_18 => absurd c_18 (by decide))
  refine zi_aload_n 28 dX0_markOf_27 rfl rfl ?_
  refine zi_aload_n 29 dX0_markOf_28 rfl rfl ?_
  refine zc_virtual (n' := (0, 0)) (md' := mX0_lentMark) 32 dX0_markOf_29 tw_574 zv_X0_lentMark zcl_X0 (s_X0_lentMark B h a q _ hA (by first | omega | (simp; omega)) b P hV hb ba bq) hA.o rfl rfl rfl rfl rfl rfl rfl rfl (zk_i fun x1 h1 hp1 => ?_)
  obtain ⟨rfl, k1, A1⟩ := hp1
  have o1 := A1.o
  have hb1 := (k1 b ba bq).trans hb
  exact zr_int hZ dX0_markOf_32 rfl rfl ⟨_, rfl, rfl, k1, by simpa [sizeT, shareT, markT] using A1⟩

set_option maxHeartbeats 4000000 in
set_option maxRecDepth 100000 in
theorem s_X0_markOf2 (B : zBB) (h : zHp) (a q : Nat) (L : List Int32) (hA : askR B h a q L) (hL : L.length ≤ 12) (b : Nat) (P : i4) (hV : i4V P) (hb : h b = some (zFo (z4i P))) (ba : b ≠ a) (bq : b ≠ q) : zSpec mX0_markOf B (4, 0, 0) [.ref a, .ref b, .int 2] h (zPi (fun x h' => x = nI (markV 2 (mkI P)) ∧ aFr a q h h' ∧ askR B h' a q (L ++ markT 2))) := by
  refine zSpec.of (by decide) (Nat.le_of_ble_eq_true rfl) (fun X hZ => ?_)
  show zG X mX0_markOf B (4, 0, 0) (0, 0) 0 [(0, .ref a), (1, .ref b), (2, .int 2)] [] h
  refine zi_iload_n 1 dX0_markOf_0 rfl rfl ?_
  refine zi_iconst (v := 3) 2 dX0_markOf_1 (by decide) rfl ?_
  refine zi_icmp_ne 5 11 dX0_markOf_2 (by decide) rfl (fun c_2 => ?_) (fun c_2 => absurd c_2 (by decide))
  refine zi_iload_n 12 dX0_markOf_11 rfl rfl ?_
  refine zi_iconst (v := 2) 13 dX0_markOf_12 (by decide) rfl ?_
  refine zi_icmp_eq 16 21 dX0_markOf_13 (by decide) rfl (fun c_13 => ?_) (fun c_13 => absurd c_13 (by decide))
  refine zi_aload_n 22 dX0_markOf_21 rfl rfl ?_
  refine zi_aload_n 23 dX0_markOf_22 rfl rfl ?_
  refine zc_virtual (n' := (0, 0)) (md' := mX0_plainMark) 26 dX0_markOf_23 tw_570 zv_X0_plainMark zcl_X0 (s_X0_plainMark B h a q _ hA (by first | omega | (simp; omega)) b P hV hb ba bq) hA.o rfl rfl rfl rfl rfl rfl rfl rfl (zk_i fun x1 h1 hp1 => ?_)
  obtain ⟨rfl, k1, A1⟩ := hp1
  have o1 := A1.o
  have hb1 := (k1 b ba bq).trans hb
  exact zr_int hZ dX0_markOf_26 rfl rfl ⟨_, rfl, rfl, k1, by simpa [sizeT, shareT, markT] using A1⟩

set_option maxHeartbeats 4000000 in
set_option maxRecDepth 100000 in
theorem s_X0_markOf3 (B : zBB) (h : zHp) (a q : Nat) (L : List Int32) (hA : askR B h a q L) (hL : L.length ≤ 12) (b : Nat) (P : i4) (hV : i4V P) (hb : h b = some (zFo (z4i P))) (ba : b ≠ a) (bq : b ≠ q) : zSpec mX0_markOf B (4, 0, 0) [.ref a, .ref b, .int 3] h (zPi (fun x h' => x = nI (markV 3 (mkI P)) ∧ aFr a q h h' ∧ askR B h' a q (L ++ markT 3))) := by
  refine zSpec.of (by decide) (Nat.le_of_ble_eq_true rfl) (fun X hZ => ?_)
  show zG X mX0_markOf B (4, 0, 0) (0, 0) 0 [(0, .ref a), (1, .ref b), (2, .int 3)] [] h
  refine zi_iload_n 1 dX0_markOf_0 rfl rfl ?_
  refine zi_iconst (v := 3) 2 dX0_markOf_1 (by decide) rfl ?_
  refine zi_icmp_ne 5 11 dX0_markOf_2 (by decide) rfl (fun c_2 => absurd c_2 (by decide)) (fun c_2 => ?_)
  refine zi_aload_n 6 dX0_markOf_5 rfl rfl ?_
  refine zi_aload_n 7 dX0_markOf_6 rfl rfl ?_
  refine zc_virtual (n' := (0, 0)) (md' := mX0_primeMark) 10 dX0_markOf_7 tw_566 zv_X0_primeMark zcl_X0 (s_X0_primeMark B h a q _ hA (by first | omega | (simp; omega)) b P hV hb ba bq) hA.o rfl rfl rfl rfl rfl rfl rfl rfl (zk_i fun x1 h1 hp1 => ?_)
  obtain ⟨rfl, k1, A1⟩ := hp1
  have o1 := A1.o
  have hb1 := (k1 b ba bq).trans hb
  exact zr_int hZ dX0_markOf_10 rfl rfl ⟨_, rfl, rfl, k1, by simpa [sizeT, shareT, markT] using A1⟩

set_option maxHeartbeats 4000000 in
set_option maxRecDepth 100000 in
theorem s_X0_markOf4 (B : zBB) (h : zHp) (a q : Nat) (L : List Int32) (hA : askR B h a q L) (hL : L.length ≤ 12) (b : Nat) (P : i4) (hV : i4V P) (hb : h b = some (zFo (z4i P))) (ba : b ≠ a) (bq : b ≠ q) : zSpec mX0_markOf B (4, 0, 0) [.ref a, .ref b, .int 4] h (zPi (fun x h' => x = nI (markV 4 (mkI P)) ∧ aFr a q h h' ∧ askR B h' a q (L ++ markT 4))) := by
  refine zSpec.of (by decide) (Nat.le_of_ble_eq_true rfl) (fun X hZ => ?_)
  show zG X mX0_markOf B (4, 0, 0) (0, 0) 0 [(0, .ref a), (1, .ref b), (2, .int 4)] [] h
  refine zi_iload_n 1 dX0_markOf_0 rfl rfl ?_
  refine zi_iconst (v := 3) 2 dX0_markOf_1 (by decide) rfl ?_
  refine zi_icmp_ne 5 11 dX0_markOf_2 (by decide) rfl (fun c_2 => ?_) (fun c_2 => absurd c_2 (by decide))
  refine zi_iload_n 12 dX0_markOf_11 rfl rfl ?_
  refine zi_iconst (v := 2) 13 dX0_markOf_12 (by decide) rfl ?_
  refine zi_icmp_eq 16 21 dX0_markOf_13 (by decide) rfl (fun c_13 => absurd c_13 (by decide)) (fun c_13 => ?_)
  refine zi_iload_n 17 dX0_markOf_16 rfl rfl ?_
  refine zi_iconst (v := 4) 18 dX0_markOf_17 (by decide) rfl ?_
  refine zi_icmp_ne 21 27 dX0_markOf_18 (by decide) rfl (fun c_18 => absurd c_18 (by decide)) (fun c_18 => ?_)
  refine zi_aload_n 22 dX0_markOf_21 rfl rfl ?_
  refine zi_aload_n 23 dX0_markOf_22 rfl rfl ?_
  refine zc_virtual (n' := (0, 0)) (md' := mX0_plainMark) 26 dX0_markOf_23 tw_570 zv_X0_plainMark zcl_X0 (s_X0_plainMark B h a q _ hA (by first | omega | (simp; omega)) b P hV hb ba bq) hA.o rfl rfl rfl rfl rfl rfl rfl rfl (zk_i fun x1 h1 hp1 => ?_)
  obtain ⟨rfl, k1, A1⟩ := hp1
  have o1 := A1.o
  have hb1 := (k1 b ba bq).trans hb
  exact zr_int hZ dX0_markOf_26 rfl rfl ⟨_, rfl, rfl, k1, by simpa [sizeT, shareT, markT] using A1⟩
