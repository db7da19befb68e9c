/-! what a change of a helper leaves -/
section RH
variable {B : zBB} {A : Nat → Nat} {s : zSt} {h h' : zHp}
theorem nzl {h h' : zHp} {A : Nat → Nat} {S : List Nat} (e : ∀ x, x ∉ S → h' (A x) = h (A x)) (L : List Nat) (hL : ∀ x ∈ L, x ∉ S) : ∀ x, x ∈ L → h' (A x) = h (A x) := fun x hx => e x (hL x hx)
theorem zRc_8 (hA : zInj A) (hR : zRc B A s h) {x : Int32} (hq : h' = zU h (A 8) (zO 6 [.ref (A 90), .ref (A 18), .int x])) : zRc B A s h' := by
  obtain ⟨a, b, c, d, f, g, ⟨-, ru, w2, w3⟩, j, k, l⟩ := hR
  have e : ∀ i, i ∉ [8] → h' (A i) = h (A i) := fun i hi => by rw [hq, zU_n _ _ (hA.ne (fun z => hi (by simp [z])))]
  exact ⟨rO_c (e 0 (by decide)) a, rT_c (nzl e _ (by decide)) b, rK_c (e 3 (by decide)) c, rS_c (fun i hi => e _ (by simp; omega)) d, rY_c (fun i hi => e _ (by simp; omega)) f, rX_c (nzl e _ (by decide)) g, ⟨⟨x, zX0 hq⟩, ru, (e 18 (by decide)).trans w2, w3⟩, rB_c (nzl e _ (by decide)) j, rC_c (nzl e _ (by decide)) k, rA_c (nzl e _ (by decide)) l⟩
theorem zRc_9 (hA : zInj A) (hR : zRc B A s h) {x : Int64} {u : Nat → Int64} (hq : h' = zU (zU h (A 9) (zO 8 [.long x, .ref (A 19)])) (A 19) (zJ B 9 u)) : zRc B A s h' ∧ h' (A 9) = some (zO 8 [.long x, .ref (A 19)]) ∧ h' (A 19) = some (zJ B 9 u) ∧ zOu A h h' := by
  obtain ⟨a, b, c, d, f, g, w, j, k, l⟩ := hR
  have e : ∀ i, i ∉ [9, 19] → h' (A i) = h (A i) := fun i hi => by rw [hq, zU_n _ _ (hA.ne (fun z => hi (by simp [z]))), zU_n _ _ (hA.ne (fun z => hi (by simp [z])))]
  have e9 : h' (A 9) = some (zO 8 [.long x, .ref (A 19)]) := by rw [hq, zU_n _ _ (hA.ne (by decide)), zU_s]
  have e19 : h' (A 19) = some (zJ B 9 u) := zX0 hq
  exact ⟨⟨rO_c (e 0 (by decide)) a, rT_c (nzl e _ (by decide)) b, rK_c (e 3 (by decide)) c, rS_c (fun i hi => e _ (by simp; omega)) d, rY_c (fun i hi => e _ (by simp; omega)) f, rX_c (nzl e _ (by decide)) g, rL_c (nzl e _ (by decide)) w, ⟨x, u, e9, e19⟩, rC_c (nzl e _ (by decide)) k, rA_c (nzl e _ (by decide)) l⟩, e9, e19, fun y hy => by rw [hq, zU_n _ _ (hy 19 (by decide)), zU_n _ _ (hy 9 (by decide))]⟩
theorem zRc_10 (hA : zInj A) (hR : zRc B A s h) {x : Int64} {u : Nat → Int64} {v1 v2 v3 v4 v5 v6 : Int32} (hq : h' = zU (zU (zU h (A 17) (zO 8 [.long x, .ref (A 20)])) (A 20) (zJ B 9 u)) (A 10) (zO 2 [.ref (A 17), .int v1, .int v2, .int v3, .int v4, .int v5, .int v6])) : zRc B A s h' ∧ zOu A h h' := by
  obtain ⟨a, b, c, d, f, g, w, j, k, l⟩ := hR
  have e : ∀ i, i ∉ [10, 17, 20] → h' (A i) = h (A i) := fun i hi => by rw [hq, zU_n _ _ (hA.ne (fun z => hi (by simp [z]))), zU_n _ _ (hA.ne (fun z => hi (by simp [z]))), zU_n _ _ (hA.ne (fun z => hi (by simp [z])))]
  exact ⟨⟨rO_c (e 0 (by decide)) a, rT_c (nzl e _ (by decide)) b, rK_c (e 3 (by decide)) c, rS_c (fun i hi => e _ (by simp; omega)) d, rY_c (fun i hi => e _ (by simp; omega)) f, rX_c (nzl e _ (by decide)) g, rL_c (nzl e _ (by decide)) w, rB_c (nzl e _ (by decide)) j, ⟨x, u, v1, v2, v3, v4, v5, v6, zX0 hq, by rw [hq, zU_n _ _ (hA.ne (by decide)), zU_n _ _ (hA.ne (by decide)), zU_s], by rw [hq, zU_n _ _ (hA.ne (by decide)), zU_s]⟩, rA_c (nzl e _ (by decide)) l⟩, fun y hy => by rw [hq, zU_n _ _ (hy 10 (by decide)), zU_n _ _ (hy 20 (by decide)), zU_n _ _ (hy 17 (by decide))]⟩
abbrev sTc (s : zSt) (L : List Int32) : zSt := (qSl s, qLn s, qSz s, qIt s, qFd s, L)
theorem zRc_11 (hA : zInj A) (hR : zRc B A s h) {L : List Int32} (hf : aFr (A 11) (A 21) h h') (hq : askR B h' (A 11) (A 21) L) : zRc B A (sTc s L) h' ∧ zOu A h h' := by
  obtain ⟨a, b, c, d, f, g, w, j, k, l⟩ := hR
  have e : ∀ i, i ∉ [11, 21] → h' (A i) = h (A i) := fun i hi => hf _ (hA.ne (fun z => hi (by simp [z]))) (hA.ne (fun z => hi (by simp [z])))
  exact ⟨⟨rO_c (e 0 (by decide)) a, rT_c (nzl e _ (by decide)) b, rK_c (e 3 (by decide)) c, rS_c (fun i hi => e _ (by simp; omega)) d, rY_c (fun i hi => e _ (by simp; omega)) f, rX_c (nzl e _ (by decide)) g, rL_c (nzl e _ (by decide)) w, rB_c (nzl e _ (by decide)) j, rC_c (nzl e _ (by decide)) k, hq⟩, fun y hy => hf y (hy 11 (by decide)) (hy 21 (by decide))⟩
abbrev sTr (s : zSt) (i ln sz : Nat) (it : Nat → Int64) : zSt := (qSl s, fun j => if j = i then ln else qLn s j, fun j => if j = i then sz else qSz s j, fun j => if j = i then it else qIt s j, qFd s, qTc s)
theorem zRc_tr (hA : zInj A) (hR : zRc B A s h) {i ln sz : Nat} {it u : Nat → Int64} {x y : Int32} (hi : i < 8) (hx : x = jz ((ln : Int) - 1)) (hy : y = nI sz) (hu : ∀ j, j < sz → u j = it j) (e1 : h' (A (22 + i)) = some (zO 9 [.ref (A (30 + i)), .int x, .int y])) (e2 : h' (A (30 + i)) = some (zJ B 100 u)) (e : ∀ z, z ≠ A (22 + i) → z ≠ A (30 + i) → h' z = h z) : zRc B A (sTr s i ln sz it) h' ∧ zOu A h h' := by
  obtain ⟨a, b, c, d, f, g, w, j, k, l⟩ := hR
  have e0 : ∀ z, z ≠ 22 + i → z ≠ 30 + i → h' (A z) = h (A z) := fun z h1 h2 => e _ (hA.ne h1) (hA.ne h2)
  have nz : ∀ (L : List Nat), (∀ x ∈ L, x < 22 ∨ 38 ≤ x) → ∀ x, x ∈ L → h' (A x) = h (A x) := fun L hL x hx => e0 x (by have := hL x hx; omega) (by have := hL x hx; omega)
  refine ⟨⟨rO_c (e0 0 (by omega) (by omega)) a, rT_c (nz _ (by decide)) b, rK_c (e0 3 (by omega) (by omega)) c, rS_c (fun i hi => e0 _ (by omega) (by omega)) d, fun t ht => ?_, rX_c (nz _ (by decide)) g, rL_c (nz _ (by decide)) w, rB_c (nz _ (by decide)) j, rC_c (nz _ (by decide)) k, rA_c (nz _ (by decide)) l⟩, fun z hz => e z (hz _ (by omega)) (hz _ (by omega))⟩
  by_cases q : t = i
  · subst q
    refine ⟨u, ?_, e2, ?_⟩
    · rw [e1, hx, hy]
      show _ = some (zO 9 [.ref (A (30 + t)), .int (jz (((if t = t then ln else qLn s t : Nat) : Int) - 1)), .int (nI (if t = t then sz else qSz s t))])
      rw [if_pos rfl, if_pos rfl]
    · show ∀ j, j < (if t = t then sz else qSz s t) → u j = (if t = t then it else qIt s t) j
      rw [if_pos rfl, if_pos rfl]
      exact hu
  · obtain ⟨u2, k1, k2, k3⟩ := f t ht
    refine ⟨u2, ?_, (e0 _ (by omega) (by omega)).trans k2, ?_⟩
    · rw [e0 _ (by omega) (by omega), k1]
      show _ = some (zO 9 [.ref (A (30 + t)), .int (jz (((if t = i then ln else qLn s t : Nat) : Int) - 1)), .int (nI (if t = i then sz else qSz s t))])
      rw [if_neg q, if_neg q]
    · show ∀ j, j < (if t = i then sz else qSz s t) → u2 j = (if t = i then it else qIt s t) j
      rw [if_neg q, if_neg q]
      exact k3
end RH
/-! whole numbers in a range -/
theorem rng {n : Int32} {a b : Nat} (hb : b < 2 ^ 31) (h1 : nI a ≤ n) (h2 : n ≤ nI b) (ha : a ≤ b) : ∃ m, a ≤ m ∧ m ≤ b ∧ m < 2 ^ 31 ∧ n = nI m := by
  rw [Int32.le_iff_toInt_le, nI_toInt (by omega)] at h1
  rw [Int32.le_iff_toInt_le, nI_toInt hb] at h2
  obtain ⟨m, hm, rfl⟩ := nI_of (show ¬ n < 0 by rw [Int32.lt_iff_toInt_lt, Int32.toInt_zero]; omega)
  rw [nI_toInt hm] at h1 h2
  exact ⟨m, by omega, by omega, hm, rfl⟩
theorem zWf_le (k f n : Nat) : zWf k f n ≤ n := by
  induction k generalizing n with
  | zero => exact Nat.le_refl _
  | succ k ih =>
    rw [zWf]
    split
    · exact Nat.le_trans (ih _) (Nat.div_le_self _ _)
    · exact Nat.le_refl _
noncomputable def r_many (s : zSt) (n : Int32) : Int32 × zSt := (if n < 1 ∨ 1000000 < n then -1000001 else nI (24 * zSd n.toNatClampNeg 2), s)
noncomputable def r_squares (s : zSt) (n : Int32) : Int32 × zSt := (if n < 0 ∨ 1000000 < n then -1000001 else if n = 0 then 1 else nI (8 * zSd n.toNatClampNeg 4), s)
noncomputable def r_three (s : zSt) (n : Int32) : Int32 × zSt := (if n < 0 ∨ 1000000 < n then -1000001 else if zWf 64 4 n.toNatClampNeg % 8 = 7 then 0 else 1, s)
noncomputable def r_list (s : zSt) (t n i : Int32) : Int32 × zSt := if zOut t 20 ∨ n < 1 ∨ 150 < n then (-1000001, s) else if i < 0 then (-1000000, s) else onS ((lsL (4 * n.toNatClampNeg))[i.toNatClampNeg]?) (-1000000, s) fun P => (nI (kindI P), sSl s t.toNatClampNeg (some P))
/-! what is listed may be held -/
theorem up_m {f : Int → List i4} {P : i4} : ∀ (n : Nat) (w : Int), P ∈ up f n w → ∃ i, P ∈ f i := by
  intro n
  induction n with
  | zero => intro w h; simp [up] at h
  | succ n ih =>
    intro w h
    rw [up, List.mem_append] at h
    rcases h with h | h
    · exact ⟨w, h⟩
    · exact ih _ h
theorem Lz_V {m w x y : Int} {P : i4} (h : P ∈ Lz m w x y) : i4q P = m ∧ P.1 = w ∧ P.2.1 = x ∧ P.2.2.1 = y ∧ (w + x) % 2 = 0 ∧ (x + y) % 2 = 0 := by
  unfold Lz at h
  split at h
  · rename_i c
    obtain ⟨c1, c2, c3, c4⟩ := c
    generalize hz : zSq2 (m - w * w - x * x - y * y).toNat = z at h c4
    have key : w * w + x * x + y * y + (z : Int) * z = m := by omega
    rcases List.mem_cons.mp h with h | h
    · subst h
      refine ⟨?_, rfl, rfl, rfl, c2, c3⟩
      show w * w + x * x + y * y + -(z : Int) * -(z : Int) = m
      rw [Int.neg_mul_neg]
      exact key
    · split at h
      · rw [List.mem_singleton.mp h]
        exact ⟨key, rfl, rfl, rfl, c2, c3⟩
      · simp at h
  · simp at h
theorem par_z {n w x y z : Int} (e : w * w + x * x + y * y + z * z = 4 * n) (h1 : (w + x) % 2 = 0) (h2 : (x + y) % 2 = 0) : w % 2 = z % 2 := by
  obtain ⟨a, ha⟩ := sq4 w
  obtain ⟨b, hb⟩ := sq4 x
  obtain ⟨c, hc⟩ := sq4 y
  obtain ⟨d, hd⟩ := sq4 z
  have p1 : w % 2 = 0 ∨ w % 2 = 1 := by omega
  have p2 : z % 2 = 0 ∨ z % 2 = 1 := by omega
  rcases p1 with p1 | p1
  · obtain ⟨k1, e1⟩ := a p1
    obtain ⟨k2, e2⟩ := b (by omega)
    obtain ⟨k3, e3⟩ := c (by omega)
    rcases p2 with p2 | p2
    · omega
    · obtain ⟨k4, e4⟩ := hd p2
      omega
  · obtain ⟨k1, e1⟩ := ha p1
    obtain ⟨k2, e2⟩ := hb (by omega)
    obtain ⟨k3, e3⟩ := hc (by omega)
    rcases p2 with p2 | p2
    · obtain ⟨k4, e4⟩ := d p2
      omega
    · omega
theorem lsL_V {n : Nat} (hn : n ≤ 150) {P : i4} (h : P ∈ lsL (4 * n)) : i4V P := by
  obtain ⟨w, h⟩ := up_m _ _ h
  obtain ⟨x, h⟩ := up_m _ _ h
  unfold chk at h
  split at h
  · obtain ⟨y, h⟩ := up_m _ _ h
    obtain ⟨e, e1, e2, e3, c1, c2⟩ := Lz_V h
    have e0 := e
    unfold i4q at e
    rw [e1, e2, e3] at e
    have := par_z (n := (n : Int)) (z := P.2.2.2) (by rw [e]; push_cast; rfl) c1 c2
    refine ⟨⟨by rw [e1, e2]; omega, by rw [e1, e3]; omega, by rw [e1]; omega⟩, ?_⟩
    rw [e0]
    omega
  · simp at h

set_option maxHeartbeats 4000000 in
set_option maxRecDepth 100000 in
theorem s_X10_many (B : zBB) (h : zHp) (A : Nat → Nat) (hA : zInj A) (s : zSt) (hs0 : okSt s) (hR : zRc B A s h) (n : Int32) : zSpec mX10_many B (1, 0, 0) [.ref (A 0), .int n] h (zPi (fun zx h' => ∃ s' : zSt, r_many s n = (zx, s') ∧ zRc B A s' h' ∧ zOu A h h')) := by
  refine zSpec.of (by decide) (Nat.le_of_ble_eq_true rfl) (fun X hZ => ?_)
  show zG X mX10_many B (1, 0, 0) (0, 0) 0 [(0, .ref (A 0)), (1, .int n)] [] h
  refine zi_iload_n 1 dX10_many_0 rfl rfl ?_
  refine zi_iconst (v := 1) 2 dX10_many_1 (by decide) rfl ?_
  refine zi_icmp_lt 5 11 dX10_many_2 (by decide) rfl (fun zzA => ?_) (fun zzA => ?_)
  ·
    refine zi_ldc 13 dX10_many_11 tw_357 rfl ?_
    exact zr_int hZ dX10_many_13 rfl rfl ⟨_, rfl, _, by rw [r_many, if_pos (by first | exact Or.inl zzA | exact Or.inr (z_nle32.mp zzB))], hR, zOu_r _ _⟩
  ·
    refine zi_iload_n 6 dX10_many_5 rfl rfl ?_
    refine zi_ldc 8 dX10_many_6 tw_475 rfl ?_
    refine zi_icmp_le 11 14 dX10_many_8 (by decide) rfl (fun zzB => ?_) (fun zzB => ?_)
    ·
      have zzO : ¬ (n < 1 ∨ 1000000 < n) := fun r => r.elim zzA (fun r => z_nle32.mpr r zzB)
      obtain ⟨m, hm1, hm2, hm31, rfl⟩ := rng (a := 1) (b := 1000000) (by decide) (z_nlt32.mp zzA) (zzB) (by decide)
      refine zi_bipush (v := 24) 16 dX10_many_14 (by decide) rfl ?_
      refine zi_iload_n 17 dX10_many_16 rfl rfl ?_
      refine zi_iconst (v := 2) 18 dX10_many_17 (by decide) rfl ?_
      refine zc_static (n' := (0, 0)) (md' := mX10_sumOfDivisors) 21 dX10_many_18 tw_720 zs_X10_sumOfDivisors (s_X10_sumOfDivisors B h m 2 hm1 hm2 (by decide) (by decide)) rfl rfl rfl rfl rfl rfl rfl rfl (zk_f ?_)
      refine zi_imul 22 dX10_many_21 rfl ?_
      exact zr_int hZ dX10_many_22 rfl rfl ⟨_, rfl, _, by rw [r_many, if_neg zzO, nI_clamp hm31, show (24 : Int32) * nI (zSd m 2) = nI (24 * zSd m 2) from ls_m 24 _], hR, zOu_r _ _⟩
    ·
      refine zi_ldc 13 dX10_many_11 tw_357 rfl ?_
      exact zr_int hZ dX10_many_13 rfl rfl ⟨_, rfl, _, by rw [r_many, if_pos (by first | exact Or.inl zzA | exact Or.inr (z_nle32.mp zzB))], hR, zOu_r _ _⟩

set_option maxHeartbeats 4000000 in
set_option maxRecDepth 100000 in
theorem s_X10_squares (B : zBB) (h : zHp) (A : Nat → Nat) (hA : zInj A) (s : zSt) (hs0 : okSt s) (hR : zRc B A s h) (n : Int32) : zSpec mX10_squares B (1, 0, 0) [.ref (A 0), .int n] h (zPi (fun zx h' => ∃ s' : zSt, r_squares s n = (zx, s') ∧ zRc B A s' h' ∧ zOu A h h')) := by
  refine zSpec.of (by decide) (Nat.le_of_ble_eq_true rfl) (fun X hZ => ?_)
  show zG X mX10_squares B (1, 0, 0) (0, 0) 0 [(0, .ref (A 0)), (1, .int n)] [] h
  refine zi_iload_n 1 dX10_squares_0 rfl rfl ?_
  refine zi_if_lt 4 10 dX10_squares_1 (by decide) rfl (fun zzA => ?_) (fun zzA => ?_)
  ·
    refine zi_ldc 12 dX10_squares_10 tw_357 rfl ?_
    exact zr_int hZ dX10_squares_12 rfl rfl ⟨_, rfl, _, by rw [r_squares, if_pos (by first | exact Or.inl zzA | exact Or.inr (z_nle32.mp zzB))], hR, zOu_r _ _⟩
  ·
    refine zi_iload_n 5 dX10_squares_4 rfl rfl ?_
    refine zi_ldc 7 dX10_squares_5 tw_475 rfl ?_
    refine zi_icmp_le 10 13 dX10_squares_7 (by decide) rfl (fun zzB => ?_) (fun zzB => ?_)
    ·
      have zzO : ¬ (n < 0 ∨ 1000000 < n) := fun r => r.elim zzA (fun r => z_nle32.mpr r zzB)
      refine zi_iload_n 14 dX10_squares_13 rfl rfl ?_
      refine zi_if_ne 17 19 dX10_squares_14 (by decide) rfl (fun zzN => ?_) (fun zzN => ?_)
      ·
        obtain ⟨m, hm1, hm2, hm31, rfl⟩ := rng (a := 0) (b := 1000000) (by decide) (z_nlt32.mp zzA) (zzB) (by decide)
        have hm : 1 ≤ m := Nat.pos_of_ne_zero (fun q => zzN (by rw [q]; rfl))
        refine zi_bipush (v := 8) 21 dX10_squares_19 (by decide) rfl ?_
        refine zi_iload_n 22 dX10_squares_21 rfl rfl ?_
        refine zi_iconst (v := 4) 23 dX10_squares_22 (by decide) rfl ?_
        refine zc_static (n' := (0, 0)) (md' := mX10_sumOfDivisors) 26 dX10_squares_23 tw_720 zs_X10_sumOfDivisors (s_X10_sumOfDivisors B h m 4 hm hm2 (by decide) (by decide)) rfl rfl rfl rfl rfl rfl rfl rfl (zk_f ?_)
        refine zi_imul 27 dX10_squares_26 rfl ?_
        exact zr_int hZ dX10_squares_27 rfl rfl ⟨_, rfl, _, by rw [r_squares, if_neg zzO, if_neg zzN, nI_clamp hm31, show (8 : Int32) * nI (zSd m 4) = nI (8 * zSd m 4) from ls_m 8 _], hR, zOu_r _ _⟩
      ·
        refine zi_iconst (v := 1) 18 dX10_squares_17 (by decide) rfl ?_
        exact zr_int hZ dX10_squares_18 rfl rfl ⟨_, rfl, _, by rw [r_squares, if_neg zzO, if_pos zzN], hR, zOu_r _ _⟩
    ·
      refine zi_ldc 12 dX10_squares_10 tw_357 rfl ?_
      exact zr_int hZ dX10_squares_12 rfl rfl ⟨_, rfl, _, by rw [r_squares, if_pos (by first | exact Or.inl zzA | exact Or.inr (z_nle32.mp zzB))], hR, zOu_r _ _⟩

set_option maxHeartbeats 4000000 in
set_option maxRecDepth 100000 in
theorem s_X10_three (B : zBB) (h : zHp) (A : Nat → Nat) (hA : zInj A) (s : zSt) (hs0 : okSt s) (hR : zRc B A s h) (n : Int32) : zSpec mX10_three B (1, 0, 0) [.ref (A 0), .int n] h (zPi (fun zx h' => ∃ s' : zSt, r_three s n = (zx, s') ∧ zRc B A s' h' ∧ zOu A h h')) := by
  refine zSpec.of (by decide) (Nat.le_of_ble_eq_true rfl) (fun X hZ => ?_)
  show zG X mX10_three B (1, 0, 0) (0, 0) 0 [(0, .ref (A 0)), (1, .int n)] [] h
  refine zi_iload_n 1 dX10_three_0 rfl rfl ?_
  refine zi_if_lt 4 10 dX10_three_1 (by decide) rfl (fun zzA => ?_) (fun zzA => ?_)
  ·
    refine zi_ldc 12 dX10_three_10 tw_357 rfl ?_
    exact zr_int hZ dX10_three_12 rfl rfl ⟨_, rfl, _, by rw [r_three, if_pos (by first | exact Or.inl zzA | exact Or.inr (z_nle32.mp zzB))], hR, zOu_r _ _⟩
  ·
    refine zi_iload_n 5 dX10_three_4 rfl rfl ?_
    refine zi_ldc 7 dX10_three_5 tw_475 rfl ?_
    refine zi_icmp_le 10 13 dX10_three_7 (by decide) rfl (fun zzB => ?_) (fun zzB => ?_)
    ·
      have zzO : ¬ (n < 0 ∨ 1000000 < n) := fun r => r.elim zzA (fun r => z_nle32.mpr r zzB)
      obtain ⟨m, hm1, hm2, hm31, rfl⟩ := rng (a := 0) (b := 1000000) (by decide) (z_nlt32.mp zzA) (zzB) (by decide)
      refine zi_iload_n 14 dX10_three_13 rfl rfl ?_
      refine zi_i2l 15 dX10_three_14 rfl ?_
      rw [nI_l hm31]
      refine zi_iconst (v := 4) 16 dX10_three_15 (by decide) rfl ?_
      refine zc_static (n' := (0, 0)) (md' := mX10_withoutFactor) 19 dX10_three_16 tw_752 zs_X10_withoutFactor (s_X10_withoutFactor B h m (Nat.lt_trans hm31 (by decide)) 4 (by decide) (by decide)) rfl rfl rfl rfl rfl rfl rfl rfl (zk_f ?_)
      refine zi_ldc2 22 dX10_three_19 tw_755 rfl ?_
      refine zi_lrem 23 dX10_three_22 (by decide) rfl ?_
      rw [show (8 : Int64) = lN 8 from rfl, pk_lRem (Nat.lt_of_le_of_lt (zWf_le _ _ _) (Nat.lt_trans hm31 (by decide))) (by decide) (by decide)]
      refine zi_ldc2 26 dX10_three_23 tw_756 rfl ?_
      refine zj_ne 30 34 dX10_three_26 rfl dX10_three_27 (by decide) rfl (fun zzW => ?_) (fun zzW => ?_)
      ·
        rw [show (7 : Int64) = lN 7 from rfl, pk_lEQ (Nat.lt_of_lt_of_le (Nat.mod_lt _ (by decide)) (by decide)) (by decide)] at zzW
        refine zi_iconst (v := 1) 35 dX10_three_34 (by decide) rfl ?_
        exact zr_int hZ dX10_three_35 rfl rfl ⟨_, rfl, _, by rw [r_three, if_neg zzO, nI_clamp hm31]; first | rw [if_pos zzW] | rw [if_neg zzW], hR, zOu_r _ _⟩
      ·
        rw [show (7 : Int64) = lN 7 from rfl, pk_lEQ (Nat.lt_of_lt_of_le (Nat.mod_lt _ (by decide)) (by decide)) (by decide)] at zzW
        refine zi_iconst (v := 0) 31 dX10_three_30 (by decide) rfl ?_
        refine zi_goto 35 dX10_three_31 (by decide) ?_
        exact zr_int hZ dX10_three_35 rfl rfl ⟨_, rfl, _, by rw [r_three, if_neg zzO, nI_clamp hm31]; first | rw [if_pos zzW] | rw [if_neg zzW], hR, zOu_r _ _⟩
    ·
      refine zi_ldc 12 dX10_three_10 tw_357 rfl ?_
      exact zr_int hZ dX10_three_12 rfl rfl ⟨_, rfl, _, by rw [r_three, if_pos (by first | exact Or.inl zzA | exact Or.inr (z_nle32.mp zzB))], hR, zOu_r _ _⟩
