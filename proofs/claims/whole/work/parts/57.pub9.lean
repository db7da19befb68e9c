/-! how many there are in the list: a count by one product of packed numbers -/
def sX : Nat := 16777216
def cS (g : Int → Nat) : Nat → Int → Nat
  | 0, _ => 0
  | n + 1, w => g w + cS g n (w + 1)
theorem up_len (f : Int → List i4) : ∀ (n : Nat) (w : Int), (up f n w).length = cS (fun i => (f i).length) n w := by
  intro n
  induction n with
  | zero => intro w; rfl
  | succ n ih => intro w; rw [up, cS, List.length_append, ih]
theorem cS_le {g g' : Int → Nat} (h : ∀ i, g i ≤ g' i) : ∀ (n : Nat) (w : Int), cS g n w ≤ cS g' n w := by
  intro n
  induction n with
  | zero => intro w; exact Nat.le_refl _
  | succ n ih => intro w; exact Nat.add_le_add (h w) (ih _)
theorem cS_add (g : Int → Nat) : ∀ (a b : Nat) (w : Int), cS g (a + b) w = cS g a w + cS g b (w + a) := by
  intro a
  induction a with
  | zero => intro b w; simp [cS]
  | succ a ih =>
    intro b w
    rw [show a + 1 + b = (a + b) + 1 by omega, cS, cS, ih]
    rw [show w + 1 + (a : Int) = w + ((a + 1 : Nat) : Int) by push_cast; omega]
    omega
theorem cS_1 {g : Int → Nat} {n : Nat} {w a : Int} (h1 : w ≤ a) (h2 : a < w + n) : g a ≤ cS g n w := by
  have e : n = (a - w).toNat + (1 + (n - (a - w).toNat - 1)) := by omega
  rw [e, cS_add, cS_add]
  have e2 : w + ((a - w).toNat : Int) = a := by omega
  rw [e2]
  have : cS g 1 a = g a := rfl
  omega
theorem cS_2 {g : Int → Nat} {n : Nat} {w a b : Int} (h1 : w ≤ a) (h2 : a < b) (h3 : b < w + n) : g a + g b ≤ cS g n w := by
  have e : n = (a + 1 - w).toNat + (n - (a + 1 - w).toNat) := by omega
  rw [e, cS_add]
  have k1 : g a ≤ cS g (a + 1 - w).toNat w := cS_1 h1 (by omega)
  have k2 : g b ≤ cS g (n - (a + 1 - w).toNat) (w + ((a + 1 - w).toNat : Int)) := cS_1 (by omega) (by omega)
  omega
abbrev S49 (g : Int → Nat) : Nat := cS g 49 (-24)
theorem sy_len {f : Int → List i4} {e : Nat} (he : e ≤ 24) : (sy f e).length ≤ S49 (fun i => (f i).length) := by
  rw [up_len]
  show _ ≤ cS _ 49 (-24)
  have h : (49 : Nat) = (24 - e) + ((2 * e + 1) + (24 - e)) := by omega
  rw [h, cS_add _ (24 - e), cS_add _ (2 * e + 1) (24 - e)]
  have e2 : (-24 : Int) + ((24 - e : Nat) : Int) = -(e : Int) := by omega
  rw [e2]
  omega
def dC (M : Nat) (w x y z : Int) : Nat := if (w + x) % 2 = 0 ∧ (x + y) % 2 = 0 ∧ (y + z) % 2 = 0 ∧ w * w + x * x + y * y + z * z = M then 1 else 0
theorem Lz_len {n : Nat} (hn : n ≤ 150) (w x y : Int) : (Lz ((4 * n : Nat) : Int) w x y).length ≤ S49 (dC (4 * n) w x y) := by
  unfold Lz
  split
  · rename_i c
    obtain ⟨c1, c2, c3, c4⟩ := c
    generalize hz : zSq2 (((4 * n : Nat) : Int) - w * w - x * x - y * y).toNat = z at c4
    have key : w * w + x * x + y * y + (z : Int) * z = ((4 * n : Nat) : Int) := by omega
    have hz24 : z ≤ 24 := by
      rw [← hz]
      apply rt24
      have := zsn w
      have := zsn x
      have := zsn y
      omega
    have pz := par_z (n := (n : Int)) (by rw [key]; push_cast; rfl) c2 c3
    have k1 : dC (4 * n) w x y (z : Int) = 1 := if_pos ⟨c2, c3, by omega, key⟩
    have k2 : dC (4 * n) w x y (-(z : Int)) = 1 := if_pos ⟨c2, c3, by omega, by rw [Int.neg_mul_neg]; exact key⟩
    by_cases h0 : z ≠ 0
    · rw [if_pos h0]
      have := cS_2 (g := dC (4 * n) w x y) (n := 49) (w := -24) (a := -(z : Int)) (b := z) (by omega) (by omega) (by omega)
      rw [k1, k2] at this
      exact this
    · rw [if_neg h0]
      have := cS_1 (g := dC (4 * n) w x y) (n := 49) (w := -24) (a := -(z : Int)) (by omega) (by omega)
      rw [k2] at this
      exact this
  · exact Nat.zero_le _
theorem rt24z {m : Int} (h : m ≤ 600) : zSq2 m.toNat ≤ 24 := rt24 (by omega)
theorem lsL_len {n : Nat} (hn : n ≤ 150) : (lsL (4 * n)).length ≤ S49 fun w => S49 fun x => S49 fun y => S49 fun z => dC (4 * n) w x y z := by
  refine Nat.le_trans (sy_len (rt24 (by omega))) (cS_le (fun w => ?_) _ _)
  have hw := zsn w
  refine Nat.le_trans (sy_len (rt24z (by omega))) (cS_le (fun x => ?_) _ _)
  have hx := zsn x
  show (chk _ w x).length ≤ _
  unfold chk
  split
  · refine Nat.le_trans (sy_len (rt24z (by omega))) (cS_le (fun y => ?_) _ _)
    exact Lz_len hn w x y
  · exact Nat.zero_le _
/-- a number in the base X: below place M, at it, above it -/
def pkd (X M v c b : Nat) : Prop := ∃ lo hi, v = lo + X ^ M * c + X ^ (M + 1) * hi ∧ lo * X ≤ b * X ^ M ∧ c ≤ b
theorem pkd_0 (X M : Nat) : pkd X M 0 0 0 := ⟨0, 0, by rw [Nat.mul_zero, Nat.mul_zero], by rw [Nat.zero_mul, Nat.zero_mul]; exact Nat.le_refl _, Nat.le_refl _⟩
theorem pkd_z (X M : Nat) : pkd X M 0 0 1 := ⟨0, 0, by rw [Nat.mul_zero, Nat.mul_zero], by rw [Nat.zero_mul]; exact Nat.zero_le _, Nat.zero_le _⟩
theorem pkd_a {X M v c b v' c' b' : Nat} (h : pkd X M v c b) (h' : pkd X M v' c' b') : pkd X M (v + v') (c + c') (b + b') := by
  obtain ⟨lo, hi, e1, e2, e3⟩ := h
  obtain ⟨lo', hi', f1, f2, f3⟩ := h'
  refine ⟨lo + lo', hi + hi', ?_, ?_, Nat.add_le_add e3 f3⟩
  · rw [e1, f1, Nat.mul_add, Nat.mul_add]
    omega
  · rw [Nat.add_mul, Nat.add_mul]
    omega
theorem pkd_S {X M b : Nat} {v c : Int → Nat} (h : ∀ i, pkd X M (v i) (c i) b) : ∀ (n : Nat) (w : Int), pkd X M (cS v n w) (cS c n w) (n * b) := by
  intro n
  induction n with
  | zero => intro w; rw [Nat.zero_mul]; exact pkd_0 X M
  | succ n ih =>
    intro w
    rw [Nat.succ_mul, Nat.add_comm (n * b)]
    exact pkd_a (h w) (ih _)
theorem pkd_p {X : Nat} (hX : 0 < X) (M e : Nat) : pkd X M (X ^ e) (if e = M then 1 else 0) 1 := by
  rcases Nat.lt_trichotomy e M with h | h | h
  · rw [if_neg (by omega)]
    refine ⟨X ^ e, 0, by rw [Nat.mul_zero, Nat.mul_zero]; rfl, ?_, Nat.zero_le _⟩
    rw [Nat.one_mul, ← Nat.pow_succ]
    exact Nat.pow_le_pow_right hX h
  · rw [if_pos h, h]
    exact ⟨0, 0, by rw [Nat.mul_zero, Nat.mul_one, Nat.zero_add, Nat.add_zero], by rw [Nat.zero_mul]; exact Nat.zero_le _, Nat.le_refl _⟩
  · rw [if_neg (by omega)]
    refine ⟨0, X ^ (e - (M + 1)), ?_, by rw [Nat.zero_mul]; exact Nat.zero_le _, Nat.zero_le _⟩
    rw [← Nat.pow_add, show M + 1 + (e - (M + 1)) = e by omega, Nat.mul_zero, Nat.zero_add]
theorem pkd_e {X M v c b : Nat} (hX : 0 < X) (h : pkd X M v c b) (hb : b < X) : v / X ^ M % X = c := by
  obtain ⟨lo, hi, e1, e2, e3⟩ := h
  have hp : 0 < X ^ M := Nat.pow_pos hX
  have hlo : lo < X ^ M := by
    refine Nat.lt_of_mul_lt_mul_right (a := X) (Nat.lt_of_le_of_lt e2 ?_)
    rw [Nat.mul_comm b]
    exact Nat.mul_lt_mul_of_pos_left hb hp
  rw [e1, Nat.pow_succ, Nat.mul_assoc (X ^ M) X hi, Nat.add_assoc, ← Nat.mul_add, Nat.add_mul_div_left _ _ hp, Nat.div_eq_of_lt hlo, Nat.zero_add, Nat.add_mul_mod_self_left]
  exact Nat.mod_eq_of_lt (Nat.lt_of_le_of_lt e3 hb)
theorem sX_p : 0 < sX := by decide
def aP (r : Int) (i : Int) : Nat := if i % 2 = r then sX ^ (i * i).toNat else 0
def F4 (w x y z : Int) : Nat := aP 0 w * aP 0 x * aP 0 y * aP 0 z + aP 1 w * aP 1 x * aP 1 y * aP 1 z
theorem aP_4 {r w x y z : Int} (h1 : w % 2 = r) (h2 : x % 2 = r) (h3 : y % 2 = r) (h4 : z % 2 = r) : aP r w * aP r x * aP r y * aP r z = sX ^ (w * w + x * x + y * y + z * z).toNat := by
  unfold aP
  rw [if_pos h1, if_pos h2, if_pos h3, if_pos h4, ← Nat.pow_add, ← Nat.pow_add, ← Nat.pow_add]
  have := zsn w
  have := zsn x
  have := zsn y
  have := zsn z
  congr 1
  omega
theorem aP_n {r w x y z : Int} (h : w % 2 ≠ r ∨ x % 2 ≠ r ∨ y % 2 ≠ r ∨ z % 2 ≠ r) : aP r w * aP r x * aP r y * aP r z = 0 := by
  unfold aP
  rcases h with h | h | h | h
  · rw [if_neg h]; simp
  · rw [if_neg h]; simp
  · rw [if_neg h]; simp
  · rw [if_neg h]; simp
theorem pkd_4 (M : Nat) (w x y z : Int) : pkd sX M (F4 w x y z) (dC M w x y z) 1 := by
  have hs : ((w * w + x * x + y * y + z * z).toNat = M) ↔ w * w + x * x + y * y + z * z = M := by
    have := zsn w
    have := zsn x
    have := zsn y
    have := zsn z
    omega
  have hd : (w + x) % 2 = 0 ∧ (x + y) % 2 = 0 ∧ (y + z) % 2 = 0 → dC M w x y z = if (w * w + x * x + y * y + z * z).toNat = M then 1 else 0 := fun h => by
    unfold dC
    by_cases c : w * w + x * x + y * y + z * z = M
    · rw [if_pos ⟨h.1, h.2.1, h.2.2, c⟩, if_pos (hs.mpr c)]
    · rw [if_neg (fun q => c q.2.2.2), if_neg (fun q => c (hs.mp q))]
  unfold F4
  by_cases e : w % 2 = 0 ∧ x % 2 = 0 ∧ y % 2 = 0 ∧ z % 2 = 0
  · rw [aP_4 e.1 e.2.1 e.2.2.1 e.2.2.2, aP_n (r := 1) (Or.inl (by omega)), Nat.add_zero, hd (by omega)]
    exact pkd_p sX_p _ _
  · by_cases o : w % 2 = 1 ∧ x % 2 = 1 ∧ y % 2 = 1 ∧ z % 2 = 1
    · rw [aP_4 o.1 o.2.1 o.2.2.1 o.2.2.2, aP_n (r := 0) (Or.inl (by omega)), Nat.zero_add, hd (by omega)]
      exact pkd_p sX_p _ _
    · rw [aP_n (r := 0) (by omega), aP_n (r := 1) (by omega)]
      have : dC M w x y z = 0 := if_neg (by omega)
      rw [this]
      exact pkd_z sX M
theorem cS_lin (f g : Int → Nat) (p c q d : Nat) : ∀ (n : Nat) (w : Int), cS (fun i => p * f i * c + q * g i * d) n w = p * cS f n w * c + q * cS g n w * d := by
  intro n
  induction n with
  | zero => intro w; simp [cS]
  | succ n ih =>
    intro w
    show p * f w * c + q * g w * d + cS (fun i => p * f i * c + q * g i * d) n (w + 1) = p * (f w + cS f n (w + 1)) * c + q * (g w + cS g n (w + 1)) * d
    rw [ih, Nat.mul_add, Nat.mul_add, Nat.add_mul, Nat.add_mul]
    omega
theorem S_c {f g : Int → Nat} (h : ∀ i, f i = g i) : S49 f = S49 g := by rw [funext h]
theorem F4_V : (S49 fun w => S49 fun x => S49 fun y => S49 fun z => F4 w x y z) = S49 (aP 0) ^ 4 + S49 (aP 1) ^ 4 := by
  generalize hG : S49 (aP 0) = G
  generalize hK : S49 (aP 1) = K
  have e1 : ∀ w x y, (S49 fun z => F4 w x y z) = aP 0 w * aP 0 x * aP 0 y * G + aP 1 w * aP 1 x * aP 1 y * K := fun w x y => by
    have := cS_lin (aP 0) (aP 1) (aP 0 w * aP 0 x * aP 0 y) 1 (aP 1 w * aP 1 x * aP 1 y) 1 49 (-24)
    rw [Nat.mul_one, Nat.mul_one] at this
    rw [← hG, ← hK, ← this]
    exact S_c fun i => by unfold F4; rw [Nat.mul_one, Nat.mul_one]
  have e2 : ∀ w x, (S49 fun y => S49 fun z => F4 w x y z) = aP 0 w * aP 0 x * G * G + aP 1 w * aP 1 x * K * K := fun w x => by
    have := cS_lin (aP 0) (aP 1) (aP 0 w * aP 0 x) G (aP 1 w * aP 1 x) K 49 (-24)
    rw [show cS (aP 0) 49 (-24) = G from hG, show cS (aP 1) 49 (-24) = K from hK] at this
    rw [← this]
    exact S_c fun i => e1 w x i
  have e3 : ∀ w, (S49 fun x => S49 fun y => S49 fun z => F4 w x y z) = aP 0 w * G * (G * G) + aP 1 w * K * (K * K) := fun w => by
    have := cS_lin (aP 0) (aP 1) (aP 0 w) (G * G) (aP 1 w) (K * K) 49 (-24)
    rw [show cS (aP 0) 49 (-24) = G from hG, show cS (aP 1) 49 (-24) = K from hK] at this
    rw [← this]
    exact S_c fun i => by rw [e2 w i, Nat.mul_assoc _ G G, Nat.mul_assoc _ K K]
  have := cS_lin (aP 0) (aP 1) 1 (G * (G * G)) 1 (K * (K * K)) 49 (-24)
  rw [show cS (aP 0) 49 (-24) = G from hG, show cS (aP 1) 49 (-24) = K from hK, Nat.one_mul, Nat.one_mul] at this
  rw [show G ^ 4 = G * (G * (G * G)) by rw [Nat.pow_succ, Nat.pow_succ, Nat.pow_succ, Nat.pow_one]; simp only [Nat.mul_assoc], show K ^ 4 = K * (K * (K * K)) by rw [Nat.pow_succ, Nat.pow_succ, Nat.pow_succ, Nat.pow_one]; simp only [Nat.mul_assoc], ← this]
  exact S_c fun i => by rw [e3 i, Nat.one_mul, Nat.one_mul, Nat.mul_assoc _ G, Nat.mul_assoc _ K]
def gP : Nat → Nat → Nat
  | _, 0 => 0
  | r, k + 1 => gP r k + (if k % 2 = r then (if k = 0 then 1 else 2) * sX ^ (k * k) else 0)
theorem gP_e : S49 (aP 0) = gP 0 25 ∧ S49 (aP 1) = gP 1 25 := by decide +kernel
theorem jac_all : ∀ n, n < 151 → 1 ≤ n → (gP 0 25 ^ 4 + gP 1 25 ^ 4) / sX ^ (4 * n) % sX ≤ 24 * zSd n 2 := by decide +kernel
theorem jac {n : Nat} (h1 : 1 ≤ n) (h : n ≤ 150) : (lsL (4 * n)).length ≤ 24 * zSd n 2 := by
  refine Nat.le_trans (lsL_len h) ?_
  have k := pkd_S (fun w => pkd_S (fun x => pkd_S (fun y => pkd_S (fun z => pkd_4 (4 * n) w x y z) 49 (-24)) 49 (-24)) 49 (-24)) 49 (-24)
  have k2 := pkd_e sX_p k (by decide)
  rw [show cS (fun w => cS (fun x => cS (fun y => cS (fun z => F4 w x y z) 49 (-24)) 49 (-24)) 49 (-24)) 49 (-24) = _ from F4_V, gP_e.1, gP_e.2] at k2
  have k3 := jac_all n (by omega) h1
  rw [k2] at k3
  exact k3

theorem ls_none {n i : Nat} (h1 : 1 ≤ n) (h : n ≤ 150) (hi : 24 * zSd n 2 ≤ i) : (lsL (4 * n))[i]? = none := List.getElem?_eq_none (Nat.le_trans (jac h1 h) hi)
theorem out_n {i : Int32} {N : Nat} (hN : N < 2 ^ 31) (h : zOut i (nI N)) (h0 : ¬ i < 0) : ∃ j, j < 2 ^ 31 ∧ i = nI j ∧ N ≤ j := by
  obtain ⟨j, hj, rfl⟩ := nI_of h0
  refine ⟨j, hj, rfl, ?_⟩
  have h2 : ¬ nI j < nI N := h.elim (fun q => absurd q h0) id
  rw [nI_ltI hj hN] at h2
  omega
theorem zSm_le (p : Nat → Bool) (k : Nat) : zSm p k ≤ k * k := by
  induction k with
  | zero => exact Nat.le_refl _
  | succ k ih =>
    rw [zSm]
    have : (k + 1) * (k + 1) = k * k + 2 * k + 1 := by grind
    split <;> omega
theorem zSd_le {n : Nat} (h : n ≤ 150) (b : Nat) : 24 * zSd n b < 2 ^ 31 := by
  have h1 := zSm_le (fun e => decide (n % e = 0) && decide (e % b ≠ 0) && decide (1 ≤ e)) (n + 1)
  have h2 : (n + 1) * (n + 1) ≤ 151 * 151 := Nat.mul_le_mul (by omega) (by omega)
  have h3 : zSd n b ≤ 151 * 151 := Nat.le_trans h1 h2
  omega
theorem ls_no {s : zSt} {n : Nat} {i : Int32} {g : i4 → Int32 × zSt} (h1 : 1 ≤ n) (h : n ≤ 150) (hi : zOut i (nI (24 * zSd n 2))) : (if i < 0 then ((-1000000 : Int32), s) else onS ((lsL (4 * n))[i.toNatClampNeg]?) (-1000000, s) g) = (-1000000, s) := by
  by_cases q : i < 0
  · rw [if_pos q]
  · obtain ⟨j, hj31, rfl, hj⟩ := out_n (zSd_le h 2) hi q
    rw [if_neg q, nI_clamp hj31, ls_none h1 h hj, onS_n]

set_option maxHeartbeats 4000000 in
set_option maxRecDepth 100000 in
theorem s_X10_list (B : zBB) (h : zHp) (A : Nat → Nat) (hA : zInj A) (s : zSt) (hs0 : okSt s) (hR : zRc B A s h) (t n i : Int32) : zSpec mX10_list B (6, 0, 0) [.ref (A 0), .int t, .int n, .int i] h (zPi (fun zx h' => ∃ s' : zSt, r_list s t n i = (zx, s') ∧ zRc B A s' h' ∧ zOu A h h')) := by
  refine zSpec.of (by decide) (Nat.le_of_ble_eq_true rfl) (fun X hZ => ?_)
  show zG X mX10_list B (6, 0, 0) (0, 0) 0 [(0, .ref (A 0)), (1, .int t), (2, .int n), (3, .int i)] [] h
  refine zi_iload_n 1 dX10_list_0 rfl rfl ?_
  refine zi_bipush (v := 20) 3 dX10_list_1 (by decide) rfl ?_
  refine zc_static (n' := (0, 0)) (md' := mX10_outside) 6 dX10_list_3 tw_354 zs_X10_outside (s_X10_outside B h _ _) rfl rfl rfl rfl rfl rfl rfl rfl (zk_f ?_)
  refine zb_ne 9 21 dX10_list_6 (by decide) rfl (fun zzA => ?_) (fun zzA => ?_)
  ·
    refine zi_ldc 23 dX10_list_21 tw_357 rfl ?_
    exact zr_int hZ dX10_list_23 rfl rfl ⟨_, rfl, _, by rw [r_list, if_pos (by first | exact Or.inl zzA | exact Or.inr (Or.inl zzB) | exact Or.inr (Or.inr (z_nle32.mp zzC)))], hR, zOu_r _ _⟩
  ·
    refine zi_iload_n 10 dX10_list_9 rfl rfl ?_
    refine zi_iconst (v := 1) 11 dX10_list_10 (by decide) rfl ?_
    refine zi_icmp_lt 14 21 dX10_list_11 (by decide) rfl (fun zzB => ?_) (fun zzB => ?_)
    ·
      refine zi_ldc 23 dX10_list_21 tw_357 rfl ?_
      exact zr_int hZ dX10_list_23 rfl rfl ⟨_, rfl, _, by rw [r_list, if_pos (by first | exact Or.inl zzA | exact Or.inr (Or.inl zzB) | exact Or.inr (Or.inr (z_nle32.mp zzC)))], hR, zOu_r _ _⟩
    ·
      refine zi_iload_n 15 dX10_list_14 rfl rfl ?_
      refine zi_sipush (v := 150) 18 dX10_list_15 (by decide) rfl ?_
      refine zi_icmp_le 21 24 dX10_list_18 (by decide) rfl (fun zzC => ?_) (fun zzC => ?_)
      ·
        have zzO : ¬ (zOut t 20 ∨ n < 1 ∨ 150 < n) := fun r => r.elim zzA (fun r => r.elim zzB (fun r => z_nle32.mpr r zzC))
        obtain ⟨m, hm1, hm2, hm31, rfl⟩ := rng (a := 1) (b := 150) (by decide) (z_nlt32.mp zzB) zzC (by decide)
        obtain ⟨tj, htj, htj31, rfl⟩ := out_i (N := 20) (by decide) zzA
        have hFo := hR.2.2.2.2.2.1.2.2.2.2
        obtain ⟨⟨ax, ha8⟩, ru, ha18, hru⟩ := hR.2.2.2.2.2.2.1
        obtain ⟨v90, hv90⟩ := hFo 90 (by decide)
        have z31 := zSd_le hm2 2
        refine zi_iload_n 25 dX10_list_24 rfl rfl ?_
        refine zi_bipush (v := 24) 27 dX10_list_25 (by decide) rfl ?_
        refine zi_iload_n 28 dX10_list_27 rfl rfl ?_
        refine zi_iconst (v := 2) 29 dX10_list_28 (by decide) rfl ?_
        refine zc_static (n' := (0, 0)) (md' := mX10_sumOfDivisors) 32 dX10_list_29 tw_720 zs_X10_sumOfDivisors (s_X10_sumOfDivisors B h m 2 hm1 (by omega) (by decide) (by decide)) rfl rfl rfl rfl rfl rfl rfl rfl (zk_f ?_)
        refine zi_imul 33 dX10_list_32 rfl ?_
        rw [show (24 : Int32) * nI (zSd m 2) = nI (24 * zSd m 2) from ls_m 24 _]
        refine zc_static (n' := (0, 0)) (md' := mX10_outside) 36 dX10_list_33 tw_354 zs_X10_outside (s_X10_outside B h _ _) rfl rfl rfl rfl rfl rfl rfl rfl (zk_f ?_)
        refine zb_eq 39 42 dX10_list_36 (by decide) rfl (fun zzI => ?_) (fun zzI => ?_)
        ·
          obtain ⟨j, hj, hj31, rfl⟩ := out_i z31 zzI
          refine zi_aload_n 43 dX10_list_42 rfl rfl ?_
          refine zi_getfield 46 8 dX10_list_43 zcl_X10 tw_318 rfl rfl hR.1 rfl rfl ?_
          refine zi_iload_n 47 dX10_list_46 rfl rfl ?_
          refine zi_iload_n 48 dX10_list_47 rfl rfl ?_
          refine zc_virtual (n' := (0, 0)) (md' := mX6_seek) 51 dX10_list_48 tw_727 zv_X6_seek zcl_X6 (s_X6_seek B h (A 8) (A 90) (A 18) v90 ax ru ha8 hv90 ha18 hru m j hm2 hj31) ha8 rfl rfl rfl rfl rfl rfl rfl rfl (zk_ls (fun P h1 hP hq => ?_) (fun h1 hlen hq => ?_))
          ·
            obtain ⟨g8, hg8⟩ : ∃ g8 : zHp, g8 = zU h (A 8) (zO 6 [.ref (A 90), .ref (A 18), .int (nI 0)]) := ⟨_, rfl⟩
            rw [← hg8] at hq
            have R0 := zRc_8 hA hR hg8
            have v0 := zX1 hg8 (hA.ne (i := 90) (by decide)) hv90
            have R1 := zRc_k (zKp_u (S := [A 90]) v0 hq (List.mem_singleton.mpr rfl)) R0 (fun i hi hm => hA.ne (show 38 + i ≠ 90 by omega) (List.mem_singleton.mp hm))
            have U1 : zOu A h h1 := zOu_t (zOu_u hg8 (by decide)) (zOu_u hq (by decide))
            have m90 := zX0 hq
            have m8 := zX1 hq (hA.ne (i := 8) (by decide)) (zX0 hg8)
            refine zi_if_ne 54 57 dX10_list_51 (by decide) rfl (fun zzS => ?_) (fun zzS => absurd zzS (by decide))
            refine zi_aload_n 58 dX10_list_57 rfl rfl ?_
            refine zi_iload_n 59 dX10_list_58 rfl rfl ?_
            refine zi_aload_n 60 dX10_list_59 rfl rfl ?_
            refine zi_getfield 63 8 dX10_list_60 zcl_X10 tw_318 rfl rfl R1.1 rfl rfl ?_
            refine zi_getfield 66 0 dX10_list_63 zcl_X6 tw_243 rfl rfl m8 rfl rfl ?_
            refine zc_virtual (n' := (0, 0)) (md' := mX10_keep) 69 dX10_list_66 tw_439 zv_X10_keep zcl_X10 (s_X10_keep B h1 A hA s R1 tj htj (A 90) P (lsL_V hm2 (List.mem_of_getElem? hP)) m90 (hA.ne (by omega))) R1.1 rfl rfl rfl rfl rfl rfl rfl rfl (zk_i fun x2 h2 hp2 => ?_)
            obtain ⟨rfl, R2, U2⟩ := hp2
            exact zr_int hZ dX10_list_69 rfl rfl ⟨_, rfl, _, by rw [r_list, if_neg zzO, if_neg (nI_pos hj31), nI_clamp hm31, nI_clamp hj31, hP, onS_s, nI_clamp htj31], R2, zOu_t U1 U2⟩
          ·
            refine zi_if_ne 54 57 dX10_list_51 (by decide) rfl (fun zzS => absurd zzS (by decide)) (fun zzS => ?_)
            refine zi_ldc 56 dX10_list_54 tw_715 rfl ?_
            exact zr_int hZ dX10_list_56 rfl rfl ⟨_, rfl, _, by rw [r_list, if_neg zzO, if_neg (nI_pos hj31), nI_clamp hm31, nI_clamp hj31, List.getElem?_eq_none hlen, onS_n], zRc_8 hA hR hq, zOu_u hq (by decide)⟩
        ·
          refine zi_ldc 41 dX10_list_39 tw_715 rfl ?_
          exact zr_int hZ dX10_list_41 rfl rfl ⟨_, rfl, _, by rw [r_list, if_neg zzO, nI_clamp hm31]; exact ls_no hm1 hm2 zzI, hR, zOu_r _ _⟩
      ·
        refine zi_ldc 23 dX10_list_21 tw_357 rfl ?_
        exact zr_int hZ dX10_list_23 rfl rfl ⟨_, rfl, _, by rw [r_list, if_pos (by first | exact Or.inl zzA | exact Or.inr (Or.inl zzB) | exact Or.inr (Or.inr (z_nle32.mp zzC)))], hR, zOu_r _ _⟩
