/-! the cell's numbers: first ones -/
abbrev cC (t : Nat → Int) (l : Int) (x y z : Nat) : Prop := cmn t l (x : Int) (y : Int) (z : Int)
def clA (t : Nat → Int) (l : Int) (a : Nat) : Prop := 1 ≤ a ∧ cC t l a 0 0 ∧ ∀ x, 1 ≤ x → x < a → ¬ cC t l x 0 0
def clB (t : Nat → Int) (l : Int) (a b c : Nat) : Prop := b < a ∧ 1 ≤ c ∧ cC t l b c 0 ∧ (∀ y, 1 ≤ y → y < c → ∀ x, x < a → ¬ cC t l x y 0) ∧ ∀ x, x < b → ¬ cC t l x c 0
def clD (t : Nat → Int) (l : Int) (a c d e g : Nat) : Prop := d < a ∧ e < c ∧ 1 ≤ g ∧ cC t l d e g ∧ (∀ z, 1 ≤ z → z < g → ∀ y, y < c → ∀ x, x < a → ¬ cC t l x y z) ∧ (∀ y, y < e → ∀ x, x < a → ¬ cC t l x y g) ∧ ∀ x, x < d → ¬ cC t l x e g
theorem clA_u {t : Nat → Int} {l : Int} {a a' : Nat} (h : clA t l a) (h' : clA t l a') : a = a' := by
  rcases Nat.lt_trichotomy a a' with q | q | q
  · exact absurd h.2.1 (h'.2.2 a h.1 q)
  · exact q
  · exact absurd h'.2.1 (h.2.2 a' h'.1 q)
theorem clB_u {t : Nat → Int} {l : Int} {a b c b' c' : Nat} (h : clB t l a b c) (h' : clB t l a b' c') : b = b' ∧ c = c' := by
  obtain ⟨h1, h2, h3, h4, h5⟩ := h
  obtain ⟨g1, g2, g3, g4, g5⟩ := h'
  have e : c = c' := by
    rcases Nat.lt_trichotomy c c' with q | q | q
    · exact absurd h3 (g4 c h2 q b h1)
    · exact q
    · exact absurd g3 (h4 c' g2 q b' g1)
  subst e
  refine ⟨?_, rfl⟩
  rcases Nat.lt_trichotomy b b' with q | q | q
  · exact absurd h3 (g5 b q)
  · exact q
  · exact absurd g3 (h5 b' q)
theorem clD_u {t : Nat → Int} {l : Int} {a c d e g d' e' g' : Nat} (h : clD t l a c d e g) (h' : clD t l a c d' e' g') : d = d' ∧ e = e' ∧ g = g' := by
  obtain ⟨h1, h2, h3, h4, h5, h6, h7⟩ := h
  obtain ⟨g1, g2, g3, g4, g5, g6, g7⟩ := h'
  have e1 : g = g' := by
    rcases Nat.lt_trichotomy g g' with q | q | q
    · exact absurd h4 (g5 g h3 q e h2 d h1)
    · exact q
    · exact absurd g4 (h5 g' g3 q e' g2 d' g1)
  subst e1
  have e2 : e = e' := by
    rcases Nat.lt_trichotomy e e' with q | q | q
    · exact absurd h4 (g6 e q d h1)
    · exact q
    · exact absurd g4 (h6 e' q d' g1)
  subst e2
  refine ⟨?_, rfl, rfl⟩
  rcases Nat.lt_trichotomy d d' with q | q | q
  · exact absurd h4 (g7 d q)
  · exact q
  · exact absurd g4 (h7 d' q)
theorem cm_b {t : Nat → Int} (ht : ∀ i, (t i).natAbs ≤ 16000000000) {x y z : Nat} (hx : x ≤ 300) (hy : y ≤ 300) (hz : z ≤ 300) : ∀ c, c < 3 → (cmI t x y z c).natAbs < 9223372036854775808 := fun c _ => by
  have k : ∀ {i x : Nat}, x ≤ 300 → (t i * (x : Int)).natAbs ≤ 16000000000 * 300 := fun {i x} hx => zb_mul (ht i) (by omega)
  have k1 := k (i := c) hx
  have k2 := k (i := 3 + c) hy
  have k3 := k (i := 6 + c) hz
  clear k ht
  show (t c * (x : Int) + t (3 + c) * (y : Int) + t (6 + c) * (z : Int)).natAbs < _
  omega
theorem cl_i {x : Nat} (h : x ≤ 300) : (nI x).toInt64 = iz ((x : Nat) : Int) := by rw [nI_l (by omega), iz_lN]
theorem cl_g {x K : Nat} (hx : x ≤ K) (hK : K ≤ 300) : ¬ (300 : Int32) < nI x := by
  rw [show (300 : Int32) = nI 300 from rfl, nI_ltI (by omega) (by omega)]
  omega
theorem cl_le {x a : Nat} (hx : x ≤ 301) (ha : a ≤ 301) : nI a ≤ nI x ↔ a ≤ x := nI_leI (by omega) (by omega)
theorem cl_s {p : Nat → Prop} {k x : Nat} (h : ∀ i, k ≤ i → i < x → ¬ p i) (hx : ¬ p x) : ∀ i, k ≤ i → i < x + 1 → ¬ p i := fun i h1 h2 => by
  rcases Nat.lt_or_ge i x with q | q
  · exact h i h1 q
  · rw [show i = x by omega]
    exact hx
theorem cl_s0 {p : Nat → Prop} {x : Nat} (h : ∀ i, i < x → ¬ p i) (hx : ¬ p x) : ∀ i, i < x + 1 → ¬ p i := fun i h2 => by
  rcases Nat.lt_or_ge i x with q | q
  · exact h i q
  · rw [show i = x by omega]
    exact hx
theorem cl_n {p : Nat → Prop} {x K : Nat} (hx : x ≤ K) (h : ¬ p x) (hK : p K) : x + 1 ≤ K := by
  rcases Nat.lt_or_ge x K with q | q
  · exact q
  · rw [show x = K by omega] at h
    exact absurd hK h

set_option maxHeartbeats 8000000 in
set_option maxRecDepth 100000 in
theorem l_X2_seekFirst (B : zBB) (h : zHp) (X : zX) (cc tb q : Nat) (u : Nat → Int64) (t : Nat → Int) (l : Int) (v1 v2 v3 v4 v5 v6 : Int32) (hc : h cc = some (zO 2 [.ref tb, .int v1, .int v2, .int v3, .int v4, .int v5, .int v6])) (htb : h tb = some (zO 8 [.long (iz l), .ref q])) (hq : h q = some (zJ B 9 u)) (hu : ∀ i, i < 9 → u i = iz (t i)) (hl : 0 < l) (hl2 : l.natAbs < 9223372036854775808) (ht : ∀ i, (t i).natAbs ≤ 16000000000) (K : Nat) (hK1 : 1 ≤ K) (hK : K ≤ 300) (hKa : cC t l K 0 0) (hZ : zIsP X mX2_seekFirst B (0, 0) (zPv (fun h' => ∃ a : Nat, clA t l a ∧ a ≤ K ∧ h' = zU h cc (zO 2 [.ref tb, .int (nI a), .int v2, .int v3, .int v4, .int v5, .int v6])))) : ∀ (n x : Nat), K + 1 - x < n → 1 ≤ x → x ≤ K → (∀ i, 1 ≤ i → i < x → ¬ cC t l i 0 0) → zG X mX2_seekFirst B (3, 0, 0) (0, 0) 2 [(1, .int (nI x)), (0, .ref cc)] [] h := by
  intro n
  induction n with
  | zero => intro x hn; exact absurd hn (Nat.not_lt_zero _)
  | succ n ih =>
    intro x hn hx1 hx2 hI
    have hx3 := Nat.le_trans hx2 hK
    refine zi_iload_n 3 dX2_seekFirst_2 rfl rfl ?_
    refine zi_sipush (v := 300) 6 dX2_seekFirst_3 (by decide) rfl ?_
    refine zi_icmp_gt 9 38 dX2_seekFirst_6 (by decide) rfl (fun zzG => absurd zzG (cl_g hx2 hK)) (fun zzG => ?_)
    refine zi_aload_n 10 dX2_seekFirst_9 rfl rfl ?_
    refine zi_getfield 13 0 dX2_seekFirst_10 zcl_X2 tw_275 rfl rfl hc rfl rfl ?_
    refine zi_iload_n 14 dX2_seekFirst_13 rfl rfl ?_
    refine zi_i2l 15 dX2_seekFirst_14 rfl ?_
    rw [cl_i hx3]
    refine zi_lconst (v := 0) 16 dX2_seekFirst_15 (by decide) rfl ?_
    refine zi_lconst (v := 0) 17 dX2_seekFirst_16 (by decide) rfl ?_
    refine zc_virtual (n' := (0, 0)) (md' := mX8_isCommon) 20 dX2_seekFirst_17 tw_837 zv_X8_isCommon zcl_X8 (s_X8_isCommon B h tb q u t l ((x : Nat) : Int) ((0 : Nat) : Int) ((0 : Nat) : Int) htb hq hu hl hl2 (cm_b ht hx3 (Nat.zero_le _) (Nat.zero_le _))) htb rfl rfl rfl rfl rfl rfl rfl rfl (zk_f ?_)
    refine zb_ne 23 26 dX2_seekFirst_20 (by decide) rfl (fun zzC => ?_) (fun zzC => ?_)
    ·
      refine zi_aload_n 27 dX2_seekFirst_26 rfl rfl ?_
      refine zi_iload_n 28 dX2_seekFirst_27 rfl rfl ?_
      refine zi_putfield (fs' := [_, _, _, _, _, _, _]) 31 1 dX2_seekFirst_28 zcl_X2 tyX2 tyX2_ok nmX2 tw_276 rfl rfl rfl hc rfl rfl rfl rfl rfl rfl ?_
      exact zr_void hZ dX2_seekFirst_31 rfl ⟨rfl, x, ⟨hx1, zzC, hI⟩, hx2, rfl⟩
    ·
      refine zi_goto 32 dX2_seekFirst_23 (by decide) ?_
      refine zi_iinc (lv' := [(1, _), (0, _)]) 35 dX2_seekFirst_32 rfl rfl rfl rfl rfl ?_
      refine zi_goto 2 dX2_seekFirst_35 (by decide) ?_
      rw [show nI x + Int32.ofInt 1 = nI (x + 1) from nI_1 x]
      exact zi_lv [0, 1] rfl (ih (x + 1) (by omega) (by omega) (cl_n (p := fun x => cC t l x 0 0) hx2 zzC hKa) (cl_s (p := fun x => cC t l x 0 0) hI zzC))

set_option maxHeartbeats 4000000 in
set_option maxRecDepth 100000 in
theorem s_X2_seekFirst (B : zBB) (h : zHp) (cc tb q : Nat) (u : Nat → Int64) (t : Nat → Int) (l : Int) (v1 v2 v3 v4 v5 v6 : Int32) (hc : h cc = some (zO 2 [.ref tb, .int v1, .int v2, .int v3, .int v4, .int v5, .int v6])) (htb : h tb = some (zO 8 [.long (iz l), .ref q])) (hq : h q = some (zJ B 9 u)) (hu : ∀ i, i < 9 → u i = iz (t i)) (hl : 0 < l) (hl2 : l.natAbs < 9223372036854775808) (ht : ∀ i, (t i).natAbs ≤ 16000000000) (K : Nat) (hK1 : 1 ≤ K) (hK : K ≤ 300) (hKa : cC t l K 0 0) : zSpec mX2_seekFirst B (3, 0, 0) [.ref cc] h (zPv (fun h' => ∃ a : Nat, clA t l a ∧ a ≤ K ∧ h' = zU h cc (zO 2 [.ref tb, .int (nI a), .int v2, .int v3, .int v4, .int v5, .int v6]))) := by
  refine zSpec.of (by decide) (Nat.le_of_ble_eq_true rfl) (fun X hZ => ?_)
  show zG X mX2_seekFirst B (3, 0, 0) (0, 0) 0 [(0, .ref cc)] [] h
  refine zi_iconst (v := 1) 1 dX2_seekFirst_0 (by decide) rfl ?_
  refine zi_istore_n (lv' := [(1, _), (0, _)]) 2 dX2_seekFirst_1 rfl rfl rfl ?_
  exact zi_lv [0, 1] rfl (l_X2_seekFirst B h X cc tb q u t l v1 v2 v3 v4 v5 v6 hc htb hq hu hl hl2 ht K hK1 hK hKa hZ (K + 1) 1 (by omega) (by decide) hK1 (fun i h1 h2 => absurd h1 (by omega)))

theorem cl_y {t : Nat → Int} {l : Int} {a y x : Nat} (hI : ∀ i, 1 ≤ i → i < y → ∀ x, x < a → ¬ cC t l x i 0) (hJ : ∀ i, i < x → ¬ cC t l i y 0) (hx : a ≤ x) : ∀ i, 1 ≤ i → i < y + 1 → ∀ x, x < a → ¬ cC t l x i 0 := fun i h1 h2 => by
  rcases Nat.lt_or_ge i y with q | q
  · exact hI i h1 q
  · rw [show i = y by omega]
    exact fun j hj => hJ j (by omega)
set_option maxHeartbeats 8000000 in
set_option maxRecDepth 100000 in
theorem l_X2_seekSecond (B : zBB) (h : zHp) (X : zX) (a cc tb q : Nat) (u : Nat → Int64) (t : Nat → Int) (l : Int) (v2 v3 v4 v5 v6 : Int32) (hc : h cc = some (zO 2 [.ref tb, .int (nI a), .int v2, .int v3, .int v4, .int v5, .int v6])) (htb : h tb = some (zO 8 [.long (iz l), .ref q])) (hq : h q = some (zJ B 9 u)) (hu : ∀ i, i < 9 → u i = iz (t i)) (hl : 0 < l) (hl2 : l.natAbs < 9223372036854775808) (ht : ∀ i, (t i).natAbs ≤ 16000000000) (K : Nat) (hK1 : 1 ≤ K) (hK : K ≤ 300) (ha1 : 1 ≤ a) (ha : a ≤ K) (hKb : cC t l 0 K 0) (hZ : zIsP X mX2_seekSecond B (0, 0) (zPv (fun h' => ∃ b c : Nat, clB t l a b c ∧ c ≤ K ∧ h' = zU h cc (zO 2 [.ref tb, .int (nI a), .int (nI b), .int (nI c), .int v4, .int v5, .int v6])))) : ∀ (n y : Nat), K + 1 - y < n → 1 ≤ y → y ≤ K → (∀ i, 1 ≤ i → i < y → ∀ x, x < a → ¬ cC t l x i 0) → zG X mX2_seekSecond B (3, 0, 0) (0, 0) 2 [(1, .int (nI y)), (0, .ref cc)] [] h := by
  intro n
  induction n with
  | zero => intro x hn; exact absurd hn (Nat.not_lt_zero _)
  | succ n ih =>
    intro y hn hy1 hy2 hI
    have hy3 := Nat.le_trans hy2 hK
    have inner : ∀ (m x : Nat), a - x < m → x ≤ a → (∀ i, i < x → ¬ cC t l i y 0) → zG X mX2_seekSecond B (3, 0, 0) (0, 0) 11 [(2, .int (nI x)), (1, .int (nI y)), (0, .ref cc)] [] h := by
      intro m
      induction m with
      | zero => intro x hm; exact absurd hm (Nat.not_lt_zero _)
      | succ m ihm =>
        intro x hm hx hJ
        refine zi_iload_n 12 dX2_seekSecond_11 rfl rfl ?_
        refine zi_aload_n 13 dX2_seekSecond_12 rfl rfl ?_
        refine zi_getfield 16 1 dX2_seekSecond_13 zcl_X2 tw_276 rfl rfl hc rfl rfl ?_
        refine zi_icmp_ge 19 54 dX2_seekSecond_16 (by decide) rfl (fun zzA => ?_) (fun zzA => ?_)
        ·
          rw [cl_le (by omega) (by omega)] at zzA
          refine zi_iinc (lv' := [(1, _), (2, _), (0, _)]) 57 dX2_seekSecond_54 rfl rfl rfl rfl rfl ?_
          refine zi_goto 2 dX2_seekSecond_57 (by decide) ?_
          rw [show nI y + Int32.ofInt 1 = nI (y + 1) from nI_1 y]
          exact zi_lv [0, 2] rfl (ih (y + 1) (by omega) (by omega) (cl_n (p := fun y => cC t l 0 y 0) hy2 (hJ 0 (Nat.lt_of_lt_of_le ha1 zzA)) hKb) (cl_y hI hJ zzA))
        ·
          rw [cl_le (by omega) (by omega), Nat.not_le] at zzA
          refine zi_aload_n 20 dX2_seekSecond_19 rfl rfl ?_
          refine zi_getfield 23 0 dX2_seekSecond_20 zcl_X2 tw_275 rfl rfl hc rfl rfl ?_
          refine zi_iload_n 24 dX2_seekSecond_23 rfl rfl ?_
          refine zi_i2l 25 dX2_seekSecond_24 rfl ?_
          rw [cl_i (by omega)]
          refine zi_iload_n 26 dX2_seekSecond_25 rfl rfl ?_
          refine zi_i2l 27 dX2_seekSecond_26 rfl ?_
          rw [cl_i hy3]
          refine zi_lconst (v := 0) 28 dX2_seekSecond_27 (by decide) rfl ?_
          refine zc_virtual (n' := (0, 0)) (md' := mX8_isCommon) 31 dX2_seekSecond_28 tw_837 zv_X8_isCommon zcl_X8 (s_X8_isCommon B h tb q u t l ((x : Nat) : Int) ((y : Nat) : Int) ((0 : Nat) : Int) htb hq hu hl hl2 (cm_b ht (by omega) hy3 (Nat.zero_le _))) htb rfl rfl rfl rfl rfl rfl rfl rfl (zk_f ?_)
          refine zb_ne 34 37 dX2_seekSecond_31 (by decide) rfl (fun zzC => ?_) (fun zzC => ?_)
          ·
            refine zi_aload_n 38 dX2_seekSecond_37 rfl rfl ?_
            refine zi_iload_n 39 dX2_seekSecond_38 rfl rfl ?_
            refine zi_putfield (fs' := [_, _, _, _, _, _, _]) 42 2 dX2_seekSecond_39 zcl_X2 tyX2 tyX2_ok nmX2 tw_277 rfl rfl rfl hc rfl rfl rfl rfl rfl rfl ?_
            refine zk_h (fun h1 k1 => ?_)
            have hc_1 := zX0 k1
            refine zi_aload_n 43 dX2_seekSecond_42 rfl rfl ?_
            refine zi_iload_n 44 dX2_seekSecond_43 rfl rfl ?_
            refine zi_putfield (fs' := [_, _, _, _, _, _, _]) 47 3 dX2_seekSecond_44 zcl_X2 tyX2 tyX2_ok nmX2 tw_278 rfl rfl rfl hc_1 rfl rfl rfl rfl rfl rfl ?_
            rw [k1, zU_u]
            exact zr_void hZ dX2_seekSecond_47 rfl ⟨rfl, x, y, ⟨zzA, hy1, zzC, hI, hJ⟩, hy2, rfl⟩
          ·
            refine zi_goto 48 dX2_seekSecond_34 (by decide) ?_
            refine zi_iinc (lv' := [(2, _), (1, _), (0, _)]) 51 dX2_seekSecond_48 rfl rfl rfl rfl rfl ?_
            refine zi_goto 11 dX2_seekSecond_51 (by decide) ?_
            rw [show nI x + Int32.ofInt 1 = nI (x + 1) from nI_1 x]
            exact zi_lv [0, 1, 2] rfl (ihm (x + 1) (by omega) (by omega) (cl_s0 (p := fun x => cC t l x y 0) hJ zzC))
    refine zi_iload_n 3 dX2_seekSecond_2 rfl rfl ?_
    refine zi_sipush (v := 300) 6 dX2_seekSecond_3 (by decide) rfl ?_
    refine zi_icmp_gt 9 60 dX2_seekSecond_6 (by decide) rfl (fun zzG => absurd zzG (cl_g hy2 hK)) (fun zzG => ?_)
    refine zi_iconst (v := 0) 10 dX2_seekSecond_9 (by decide) rfl ?_
    refine zi_istore_n (lv' := [(2, _), (1, _), (0, _)]) 11 dX2_seekSecond_10 rfl rfl rfl ?_
    exact zi_lv [0, 1, 2] rfl (inner (a + 1) 0 (by omega) (Nat.zero_le _) (fun i hi => absurd hi (Nat.not_lt_zero _)))

set_option maxHeartbeats 4000000 in
set_option maxRecDepth 100000 in
theorem s_X2_seekSecond (B : zBB) (h : zHp) (a cc tb q : Nat) (u : Nat → Int64) (t : Nat → Int) (l : Int) (v2 v3 v4 v5 v6 : Int32) (hc : h cc = some (zO 2 [.ref tb, .int (nI a), .int v2, .int v3, .int v4, .int v5, .int v6])) (htb : h tb = some (zO 8 [.long (iz l), .ref q])) (hq : h q = some (zJ B 9 u)) (hu : ∀ i, i < 9 → u i = iz (t i)) (hl : 0 < l) (hl2 : l.natAbs < 9223372036854775808) (ht : ∀ i, (t i).natAbs ≤ 16000000000) (K : Nat) (hK1 : 1 ≤ K) (hK : K ≤ 300) (ha1 : 1 ≤ a) (ha : a ≤ K) (hKb : cC t l 0 K 0) : zSpec mX2_seekSecond B (3, 0, 0) [.ref cc] h (zPv (fun h' => ∃ b c : Nat, clB t l a b c ∧ c ≤ K ∧ h' = zU h cc (zO 2 [.ref tb, .int (nI a), .int (nI b), .int (nI c), .int v4, .int v5, .int v6]))) := by
  refine zSpec.of (by decide) (Nat.le_of_ble_eq_true rfl) (fun X hZ => ?_)
  show zG X mX2_seekSecond B (3, 0, 0) (0, 0) 0 [(0, .ref cc)] [] h
  refine zi_iconst (v := 1) 1 dX2_seekSecond_0 (by decide) rfl ?_
  refine zi_istore_n (lv' := [(1, _), (0, _)]) 2 dX2_seekSecond_1 rfl rfl rfl ?_
  exact zi_lv [0, 1] rfl (l_X2_seekSecond B h X a cc tb q u t l v2 v3 v4 v5 v6 hc htb hq hu hl hl2 ht K hK1 hK ha1 ha hKb hZ (K + 1) 1 (by omega) (by decide) hK1 (fun i h1 h2 => absurd h1 (by omega)))

theorem cl_z {t : Nat → Int} {l : Int} {a c y z : Nat} (hI : ∀ i, 1 ≤ i → i < z → ∀ y, y < c → ∀ x, x < a → ¬ cC t l x y i) (hJ : ∀ i, i < y → ∀ x, x < a → ¬ cC t l x i z) (hx : c ≤ y) : ∀ i, 1 ≤ i → i < z + 1 → ∀ y, y < c → ∀ x, x < a → ¬ cC t l x y i := fun i h1 h2 => by
  rcases Nat.lt_or_ge i z with q | q
  · exact hI i h1 q
  · rw [show i = z by omega]
    exact fun j hj => hJ j (by omega)
theorem cl_x {t : Nat → Int} {l : Int} {a x y z : Nat} (hI : ∀ i, i < y → ∀ x, x < a → ¬ cC t l x i z) (hJ : ∀ i, i < x → ¬ cC t l i y z) (hx : a ≤ x) : ∀ i, i < y + 1 → ∀ x, x < a → ¬ cC t l x i z := fun i h2 => by
  rcases Nat.lt_or_ge i y with q | q
  · exact hI i q
  · rw [show i = y by omega]
    exact fun j hj => hJ j (by omega)
set_option maxHeartbeats 8000000 in
set_option maxRecDepth 100000 in
theorem l_X2_seekThird (B : zBB) (h : zHp) (X : zX) (b c a cc tb q : Nat) (u : Nat → Int64) (t : Nat → Int) (l : Int) (v4 v5 v6 : Int32) (hc : h cc = some (zO 2 [.ref tb, .int (nI a), .int (nI b), .int (nI c), .int v4, .int v5, .int v6])) (htb : h tb = some (zO 8 [.long (iz l), .ref q])) (hq : h q = some (zJ B 9 u)) (hu : ∀ i, i < 9 → u i = iz (t i)) (hl : 0 < l) (hl2 : l.natAbs < 9223372036854775808) (ht : ∀ i, (t i).natAbs ≤ 16000000000) (K : Nat) (hK1 : 1 ≤ K) (hK : K ≤ 300) (ha1 : 1 ≤ a) (ha : a ≤ K) (hc1 : 1 ≤ c) (hcK : c ≤ K) (hKd : cC t l 0 0 K) (hZ : zIsP X mX2_seekThird B (0, 0) (zPv (fun h' => ∃ d e g : Nat, clD t l a c d e g ∧ h' = zU h cc (zO 2 [.ref tb, .int (nI a), .int (nI b), .int (nI c), .int (nI d), .int (nI e), .int (nI g)])))) : ∀ (n z : Nat), K + 1 - z < n → 1 ≤ z → z ≤ K → (∀ i, 1 ≤ i → i < z → ∀ y, y < c → ∀ x, x < a → ¬ cC t l x y i) → zG X mX2_seekThird B (3, 0, 0) (0, 0) 2 [(1, .int (nI z)), (0, .ref cc)] [] h := by
  intro n
  induction n with
  | zero => intro x hn; exact absurd hn (Nat.not_lt_zero _)
  | succ n ih =>
    intro z hn hz1 hz2 hI
    have hz3 := Nat.le_trans hz2 hK
    have mid : ∀ (m y : Nat), c - y < m → y ≤ c → (∀ i, i < y → ∀ x, x < a → ¬ cC t l x i z) → zG X mX2_seekThird B (3, 0, 0) (0, 0) 11 [(2, .int (nI y)), (1, .int (nI z)), (0, .ref cc)] [] h := by
      intro m
      induction m with
      | zero => intro x hm; exact absurd hm (Nat.not_lt_zero _)
      | succ m ihm =>
        intro y hm hy hM
        refine zi_iload_n 12 dX2_seekThird_11 rfl rfl ?_
        refine zi_aload_n 13 dX2_seekThird_12 rfl rfl ?_
        refine zi_getfield 16 3 dX2_seekThird_13 zcl_X2 tw_278 rfl rfl hc rfl rfl ?_
        refine zi_icmp_ge 19 76 dX2_seekThird_16 (by decide) rfl (fun zzB => ?_) (fun zzB => ?_)
        ·
          rw [cl_le (by omega) (by omega)] at zzB
          refine zi_iinc (lv' := [(1, _), (2, _), (0, _)]) 79 dX2_seekThird_76 rfl rfl rfl rfl rfl ?_
          refine zi_goto 2 dX2_seekThird_79 (by decide) ?_
          rw [show nI z + Int32.ofInt 1 = nI (z + 1) from nI_1 z]
          exact zi_lv [0, 2] rfl (ih (z + 1) (by omega) (by omega) (cl_n (p := fun z => cC t l 0 0 z) hz2 (hM 0 (Nat.lt_of_lt_of_le hc1 zzB) 0 ha1) hKd) (cl_z hI hM zzB))
        ·
          rw [cl_le (by omega) (by omega), Nat.not_le] at zzB
          have inner : ∀ (k x : Nat), a - x < k → x ≤ a → (∀ i, i < x → ¬ cC t l i y z) → zG X mX2_seekThird B (3, 0, 0) (0, 0) 21 [(3, .int (nI x)), (2, .int (nI y)), (1, .int (nI z)), (0, .ref cc)] [] h := by
            intro k
            induction k with
            | zero => intro x hk; exact absurd hk (Nat.not_lt_zero _)
            | succ k ihx =>
              intro x hk hx hJ
              refine zi_iload_n 22 dX2_seekThird_21 rfl rfl ?_
              refine zi_aload_n 23 dX2_seekThird_22 rfl rfl ?_
              refine zi_getfield 26 1 dX2_seekThird_23 zcl_X2 tw_276 rfl rfl hc rfl rfl ?_
              refine zi_icmp_ge 29 70 dX2_seekThird_26 (by decide) rfl (fun zzA => ?_) (fun zzA => ?_)
              ·
                rw [cl_le (by omega) (by omega)] at zzA
                refine zi_iinc (lv' := [(2, _), (3, _), (1, _), (0, _)]) 73 dX2_seekThird_70 rfl rfl rfl rfl rfl ?_
                refine zi_goto 11 dX2_seekThird_73 (by decide) ?_
                rw [show nI y + Int32.ofInt 1 = nI (y + 1) from nI_1 y]
                exact zi_lv [0, 2, 3] rfl (ihm (y + 1) (by omega) (by omega) (cl_x hM hJ zzA))
              ·
                rw [cl_le (by omega) (by omega), Nat.not_le] at zzA
                refine zi_aload_n 30 dX2_seekThird_29 rfl rfl ?_
                refine zi_getfield 33 0 dX2_seekThird_30 zcl_X2 tw_275 rfl rfl hc rfl rfl ?_
                refine zi_iload_n 34 dX2_seekThird_33 rfl rfl ?_
                refine zi_i2l 35 dX2_seekThird_34 rfl ?_
                rw [cl_i (by omega)]
                refine zi_iload_n 36 dX2_seekThird_35 rfl rfl ?_
                refine zi_i2l 37 dX2_seekThird_36 rfl ?_
                rw [cl_i (by omega)]
                refine zi_iload_n 38 dX2_seekThird_37 rfl rfl ?_
                refine zi_i2l 39 dX2_seekThird_38 rfl ?_
                rw [cl_i hz3]
                refine zc_virtual (n' := (0, 0)) (md' := mX8_isCommon) 42 dX2_seekThird_39 tw_837 zv_X8_isCommon zcl_X8 (s_X8_isCommon B h tb q u t l ((x : Nat) : Int) ((y : Nat) : Int) ((z : Nat) : Int) htb hq hu hl hl2 (cm_b ht (by omega) (by omega) hz3)) htb rfl rfl rfl rfl rfl rfl rfl rfl (zk_f ?_)
                refine zb_ne 45 48 dX2_seekThird_42 (by decide) rfl (fun zzC => ?_) (fun zzC => ?_)
                ·
                  refine zi_aload_n 49 dX2_seekThird_48 rfl rfl ?_
                  refine zi_iload_n 50 dX2_seekThird_49 rfl rfl ?_
                  refine zi_putfield (fs' := [_, _, _, _, _, _, _]) 53 4 dX2_seekThird_50 zcl_X2 tyX2 tyX2_ok nmX2 tw_279 rfl rfl rfl hc rfl rfl rfl rfl rfl rfl ?_
                  refine zk_h (fun h1 k1 => ?_)
                  have hc_1 := zX0 k1
                  refine zi_aload_n 54 dX2_seekThird_53 rfl rfl ?_
                  refine zi_iload_n 55 dX2_seekThird_54 rfl rfl ?_
                  refine zi_putfield (fs' := [_, _, _, _, _, _, _]) 58 5 dX2_seekThird_55 zcl_X2 tyX2 tyX2_ok nmX2 tw_280 rfl rfl rfl hc_1 rfl rfl rfl rfl rfl rfl ?_
                  refine zk_h (fun h2 k2 => ?_)
                  have hc_2 := zX0 k2
                  rw [k1, zU_u] at k2
                  refine zi_aload_n 59 dX2_seekThird_58 rfl rfl ?_
                  refine zi_iload_n 60 dX2_seekThird_59 rfl rfl ?_
                  refine zi_putfield (fs' := [_, _, _, _, _, _, _]) 63 6 dX2_seekThird_60 zcl_X2 tyX2 tyX2_ok nmX2 tw_281 rfl rfl rfl hc_2 rfl rfl rfl rfl rfl rfl ?_
                  rw [k2, zU_u]
                  exact zr_void hZ dX2_seekThird_63 rfl ⟨rfl, x, y, z, ⟨zzA, zzB, hz1, zzC, hI, hM, hJ⟩, rfl⟩
                ·
                  refine zi_goto 64 dX2_seekThird_45 (by decide) ?_
                  refine zi_iinc (lv' := [(3, _), (2, _), (1, _), (0, _)]) 67 dX2_seekThird_64 rfl rfl rfl rfl rfl ?_
                  refine zi_goto 21 dX2_seekThird_67 (by decide) ?_
                  rw [show nI x + Int32.ofInt 1 = nI (x + 1) from nI_1 x]
                  exact zi_lv [0, 1, 2, 3] rfl (ihx (x + 1) (by omega) (by omega) (cl_s0 (p := fun x => cC t l x y z) hJ zzC))
          refine zi_iconst (v := 0) 20 dX2_seekThird_19 (by decide) rfl ?_
          refine zi_istore_n (lv' := [(3, _), (2, _), (1, _), (0, _)]) 21 dX2_seekThird_20 rfl rfl rfl ?_
          exact zi_lv [0, 1, 2, 3] rfl (inner (a + 1) 0 (by omega) (Nat.zero_le _) (fun i hi => absurd hi (Nat.not_lt_zero _)))
    refine zi_iload_n 3 dX2_seekThird_2 rfl rfl ?_
    refine zi_sipush (v := 300) 6 dX2_seekThird_3 (by decide) rfl ?_
    refine zi_icmp_gt 9 82 dX2_seekThird_6 (by decide) rfl (fun zzG => absurd zzG (cl_g hz2 hK)) (fun zzG => ?_)
    refine zi_iconst (v := 0) 10 dX2_seekThird_9 (by decide) rfl ?_
    refine zi_istore_n (lv' := [(2, _), (1, _), (0, _)]) 11 dX2_seekThird_10 rfl rfl rfl ?_
    exact zi_lv [0, 1, 2] rfl (mid (c + 1) 0 (by omega) (Nat.zero_le _) (fun i hi => absurd hi (Nat.not_lt_zero _)))

set_option maxHeartbeats 4000000 in
set_option maxRecDepth 100000 in
theorem s_X2_seekThird (B : zBB) (h : zHp) (b c a cc tb q : Nat) (u : Nat → Int64) (t : Nat → Int) (l : Int) (v4 v5 v6 : Int32) (hc : h cc = some (zO 2 [.ref tb, .int (nI a), .int (nI b), .int (nI c), .int v4, .int v5, .int v6])) (htb : h tb = some (zO 8 [.long (iz l), .ref q])) (hq : h q = some (zJ B 9 u)) (hu : ∀ i, i < 9 → u i = iz (t i)) (hl : 0 < l) (hl2 : l.natAbs < 9223372036854775808) (ht : ∀ i, (t i).natAbs ≤ 16000000000) (K : Nat) (hK1 : 1 ≤ K) (hK : K ≤ 300) (ha1 : 1 ≤ a) (ha : a ≤ K) (hc1 : 1 ≤ c) (hcK : c ≤ K) (hKd : cC t l 0 0 K) : zSpec mX2_seekThird B (3, 0, 0) [.ref cc] h (zPv (fun h' => ∃ d e g : Nat, clD t l a c d e g ∧ h' = zU h cc (zO 2 [.ref tb, .int (nI a), .int (nI b), .int (nI c), .int (nI d), .int (nI e), .int (nI g)]))) := by
  refine zSpec.of (by decide) (Nat.le_of_ble_eq_true rfl) (fun X hZ => ?_)
  show zG X mX2_seekThird B (3, 0, 0) (0, 0) 0 [(0, .ref cc)] [] h
  refine zi_iconst (v := 1) 1 dX2_seekThird_0 (by decide) rfl ?_
  refine zi_istore_n (lv' := [(1, _), (0, _)]) 2 dX2_seekThird_1 rfl rfl rfl ?_
  exact zi_lv [0, 1] rfl (l_X2_seekThird B h X b c a cc tb q u t l v4 v5 v6 hc htb hq hu hl hl2 ht K hK1 hK ha1 ha hc1 hcK hKd hZ (K + 1) 1 (by omega) (by decide) hK1 (fun i h1 h2 => absurd h1 (by omega)))
