/-! the reference: parts, counts -/
theorem pt_out {i : Int32} {n : Nat} (hn : n < 2 ^ 31) (h : ∀ t, t < n → i ≠ nI t) : zOut i (nI n) := Decidable.byContradiction fun q => by
  obtain ⟨j, hj, -, e⟩ := out_i hn q
  exact h j hj e
def ptF (D : List i4) (i : Int32) (c : Nat) (fo : Int32) (R : Nat → Int64) : Prop := (fo = 1 ∧ ∃ t v, t < c ∧ i = nI t ∧ D[t]? = some v ∧ ro R 32 = z4i v) ∨ (fo = 0 ∧ ∀ t, t < c → i ≠ nI t)
theorem ptF_y {D : List i4} {i : Int32} {c : Nat} {R : Nat → Int64} {v : i4} (hi : nI c = i) (hv : D[c]? = some v) (hr : ro R 32 = z4i v) : ptF D i (c + 1) 1 R := Or.inl ⟨rfl, c, v, by omega, hi.symm, hv, hr⟩
theorem ptF_n {D : List i4} {i : Int32} {c : Nat} {fo : Int32} {R R' : Nat → Int64} (hi : ¬ nI c = i) (h : ptF D i c fo R) (hr : ro R' 32 = ro R 32) : ptF D i (c + 1) fo R' := by
  rcases h with ⟨h1, t, v, h2, h3, h4, h5⟩ | ⟨h1, h2⟩
  · exact Or.inl ⟨h1, t, v, by omega, h3, h4, hr.trans h5⟩
  · refine Or.inr ⟨h1, fun t ht => ?_⟩
    rcases Nat.lt_or_ge t c with q | q
    · exact h2 t q
    · rw [show t = c by omega]
      exact fun e => hi e.symm
theorem sd_o {n : Nat} (p : Nat → Bool) (d : Nat) (h : p (d + 1) = false) : zSm p (d + 2) = zSm p d + (if p d then d else 0) := by
  rw [zSm, zSm, h]
  simp
theorem sd_p (n b e : Nat) : (decide (n % e = 0) && decide (e % b ≠ 0) && decide (1 ≤ e)) = decide (n % e = 0 ∧ e % b ≠ 0 ∧ 1 ≤ e) := by
  by_cases h1 : n % e = 0 <;> by_cases h2 : e % b = 0 <;> by_cases h3 : 1 ≤ e <;> simp [h1, h2, h3]
abbrev pD (n b : Nat) : Nat → Bool := fun e => decide (n % e = 0) && decide (e % b ≠ 0) && decide (1 ≤ e)
theorem pD_y {n b e : Nat} (h1 : n % e = 0) (h2 : e % b ≠ 0) (h3 : 1 ≤ e) : pD n b e = true := by
  show (decide (n % e = 0) && decide (e % b ≠ 0) && decide (1 ≤ e)) = true
  rw [sd_p]
  exact decide_eq_true ⟨h1, h2, h3⟩
theorem pD_n {n b e : Nat} (h : n % e ≠ 0 ∨ e % b = 0) : pD n b e = false := by
  show (decide (n % e = 0) && decide (e % b ≠ 0) && decide (1 ≤ e)) = false
  rw [sd_p]
  exact decide_eq_false (fun q => h.elim (fun r => r q.1) (fun r => q.2.1 r))
theorem sd_end {n b d : Nat} (hn : 1 ≤ n) (h1 : n < d) (h2 : d ≤ n + 2) : zSm (pD n b) d = zSd n b := by
  rcases (show d = n + 1 ∨ d = n + 2 by omega) with e | e
  · rw [e]; rfl
  · rw [e]
    show zSm (pD n b) (n + 1) + (if pD n b (n + 1) = true then n + 1 else 0) = zSd n b
    rw [pD_n (Or.inl (by rw [Nat.mod_eq_of_lt (by omega)]; omega))]
    exact Nat.add_zero _
theorem sd_y2 {n d : Nat} (h : n % d = 0) (ho : d % 2 = 1) : zSm (pD n 2) (d + 2) = zSm (pD n 2) d + d := by
  rw [sd_o (n := n) _ _ (pD_n (Or.inr (by omega))), pD_y h (by omega) (by omega)]
  rfl
theorem sd_n2 {n d : Nat} (h : ¬ n % d = 0) (ho : d % 2 = 1) : zSm (pD n 2) (d + 2) = zSm (pD n 2) d + 0 := by
  rw [sd_o (n := n) _ _ (pD_n (Or.inr (by omega))), pD_n (Or.inl h)]
  rfl
theorem sd_y4 {n d : Nat} (h : n % d = 0) (h4 : ¬ d % 4 = 0) (h1 : 1 ≤ d) : zSm (pD n 4) (d + 1) = zSm (pD n 4) d + d := by
  rw [zSm, pD_y h h4 h1]
  rfl
theorem sd_n4 {n d : Nat} (h : ¬ n % d = 0 ∨ d % 4 = 0) : zSm (pD n 4) (d + 1) = zSm (pD n 4) d + 0 := by
  rw [zSm, pD_n h]
  rfl
theorem in_1M {x : Int32} : zIn x.toInt64 1 1000000 ↔ ¬ (x < 1 ∨ 1000000 < x) := by
  unfold zIn
  rw [Int64.le_iff_toInt_le, Int64.le_iff_toInt_le, Int32.toInt_toInt64, Int32.lt_iff_toInt_lt, Int32.lt_iff_toInt_lt]
  have e1 : (1 : Int64).toInt = 1 := rfl
  have e2 : (1000000 : Int64).toInt = 1000000 := rfl
  have e3 : (1 : Int32).toInt = 1 := rfl
  have e4 : (1000000 : Int32).toInt = 1000000 := rfl
  rw [e1, e2, e3, e4]
  omega
theorem in_0M {x : Int32} : zIn x.toInt64 0 1000000 ↔ ¬ (x < 0 ∨ 1000000 < x) := by
  unfold zIn
  rw [Int64.le_iff_toInt_le, Int64.le_iff_toInt_le, Int32.toInt_toInt64, Int32.lt_iff_toInt_lt, Int32.lt_iff_toInt_lt, Int64.toInt_zero, Int32.toInt_zero]
  have e2 : (1000000 : Int64).toInt = 1000000 := rfl
  have e4 : (1000000 : Int32).toInt = 1000000 := rfl
  rw [e2, e4]
  omega
theorem rng0 {n : Int32} {a b : Nat} (ha : a ≤ b) (hb : b < 2 ^ 31) (h : ¬ (n < nI a ∨ nI b < n)) : ∃ m, a ≤ m ∧ m ≤ b ∧ m < 2 ^ 31 ∧ n = nI m := rng hb (z_nlt32.mp (fun q => h (Or.inl q))) (z_nlt32.mp (fun q => h (Or.inr q))) ha
theorem wf_s {k v : Nat} (h0 : ¬ v = 0) (h4 : v % 4 = 0) (hk : v < 2 ^ k) : ∃ k', k = k' + 1 ∧ v / 4 < 2 ^ k' ∧ zWf k 4 v = zWf k' 4 (v / 4) := by
  cases k with
  | zero => exact absurd hk (by simp; omega)
  | succ k =>
    refine ⟨k, rfl, ?_, ?_⟩
    · rw [Nat.pow_succ] at hk
      omega
    · rw [zWf, if_pos ⟨h0, h4⟩]
theorem wf_e {k v : Nat} (h : v = 0 ∨ ¬ v % 4 = 0) : zWf k 4 v = v := by
  cases k with
  | zero => rfl
  | succ k =>
    rw [zWf, if_neg (fun q => h.elim q.1 (fun r => r q.2))]
theorem sm1 (n b : Nat) : nI (zSm (pD n b) 1) = 0 := by
  have : zSm (pD n b) 1 = 0 := by
    show 0 + (if pD n b 0 = true then 0 else 0) = 0
    split <;> rfl
  rw [this]
  rfl

set_option maxHeartbeats 2000000 in
set_option maxRecDepth 100000 in
theorem l_X11_many (B : zBB) (h : zHp) (X : zX) (D : Nat → Nat) (hD : zInj D) (m : mS) (n : Nat) (hn1 : 1 ≤ n) (hn2 : n ≤ 1000000) (kk : ∀ (h1 : zHp), rN B D m h h1 → zG X mX11_many B (1, 0, 0) (0, 0) 44 [(2, .int (nI (zSd n 2))), (0, .ref (D 0)), (1, .int (nI n))] [] h1) : ∀ (nn : Nat) (d : Nat) (h1 : zHp), n + 2 - d < nn → (1 ≤ d) → (d % 2 = 1) → (d ≤ n + 2) → (rN B D m h h1) → zG X mX11_many B (1, 0, 0) (0, 0) 19 [(3, .int (nI d)), (2, .int (nI (zSm (pD n 2) d))), (0, .ref (D 0)), (1, .int (nI n))] [] h1 := by
  intro nn
  induction nn with
  | zero => intro d h1 hn; omega
  | succ nn ih =>
    intro d h1 hn hd ho hdn N
    refine zi_iload_n 20 dX11_many_19 rfl rfl ?_
    refine zi_iload_n 21 dX11_many_20 rfl rfl ?_
    refine zi_icmp_gt 24 44 dX11_many_21 (by decide) rfl (fun zzE => ?_) (fun zzE => ?_)
    ·
      rw [nI_ltI (by omega) (by omega)] at zzE
      rw [sd_end hn1 zzE hdn]
      exact zi_lv [1, 2, 3] rfl (kk h1 N)
    ·
      rw [nI_ltI (by omega) (by omega)] at zzE
      refine zi_iload_n 25 dX11_many_24 rfl rfl ?_
      refine zi_iload_n 26 dX11_many_25 rfl rfl ?_
      refine zi_iload_n 27 dX11_many_26 rfl rfl ?_
      refine zi_irem 28 dX11_many_27 (fun e => by rw [nI_0e (by omega)] at e; omega) rfl ?_
      refine zi_if_ne 31 35 dX11_many_28 (by decide) rfl (fun zzR => ?_) (fun zzR => ?_)
      ·
        rw [nI_rem (by omega) (by omega), nI_0e (Nat.lt_of_le_of_lt (Nat.mod_le _ _) (by omega))] at zzR
        refine zi_iconst (v := 0) 36 dX11_many_35 (by decide) rfl ?_
        refine zi_iadd 37 dX11_many_36 rfl ?_
        refine zi_istore_n (lv' := [(2, _), (3, _), (0, _), (1, _)]) 38 dX11_many_37 rfl rfl rfl ?_
        refine zi_iinc (lv' := [(3, _), (2, _), (0, _), (1, _)]) 41 dX11_many_38 rfl rfl rfl rfl rfl ?_
        refine zi_goto 19 dX11_many_41 (by decide) ?_
        rw [show nI d + Int32.ofInt 2 = nI (d + 2) from nI_ad d 2, show nI (zSm (pD n 2) d) + 0 = nI (zSm (pD n 2) d + 0) from nI_ad _ 0, ← sd_n2 zzR ho]
        exact zi_lv [0, 1, 2, 3] rfl (ih (d + 2) h1 (by omega) (by omega) (by omega) (by omega) N)
      ·
        rw [nI_rem (by omega) (by omega), nI_0e (Nat.lt_of_le_of_lt (Nat.mod_le _ _) (by omega))] at zzR
        refine zi_iload_n 32 dX11_many_31 rfl rfl ?_
        refine zi_goto 36 dX11_many_32 (by decide) ?_
        refine zi_iadd 37 dX11_many_36 rfl ?_
        refine zi_istore_n (lv' := [(2, _), (3, _), (0, _), (1, _)]) 38 dX11_many_37 rfl rfl rfl ?_
        refine zi_iinc (lv' := [(3, _), (2, _), (0, _), (1, _)]) 41 dX11_many_38 rfl rfl rfl rfl rfl ?_
        refine zi_goto 19 dX11_many_41 (by decide) ?_
        rw [show nI d + Int32.ofInt 2 = nI (d + 2) from nI_ad d 2, nI_ad, ← sd_y2 zzR ho]
        exact zi_lv [0, 1, 2, 3] rfl (ih (d + 2) h1 (by omega) (by omega) (by omega) (by omega) N)

set_option maxHeartbeats 1000000 in
set_option maxRecDepth 100000 in
theorem s_X11_many (B : zBB) (h : zHp) (D : Nat → Nat) (hD : zInj D) (s : zSt) (hs0 : okSt s) (hR : rRm B D s h) (n : Int32) : zSpec mX11_many B (1, 0, 0) [.ref (D 0), .int n] h (zPi (fun zx h' => ∃ s' : zSt, r_many s n = (zx, s') ∧ rRm B D s' h' ∧ rOd D h h')) := by
  refine zSpec.of (by decide) (Nat.le_of_ble_eq_true rfl) (fun X hZ => ?_)
  show zG X mX11_many B (1, 0, 0) (0, 0) 0 [(0, .ref (D 0)), (1, .int n)] [] h
  obtain ⟨m, M, K⟩ := hR
  have N0 := rN_r M
  refine zi_iload_n 1 dX11_many_0 rfl rfl ?_
  refine zi_i2l 2 dX11_many_1 rfl ?_
  refine zi_lconst (v := 1) 3 dX11_many_2 (by decide) rfl ?_
  refine zi_ldc2 6 dX11_many_3 tw_1116 rfl ?_
  refine zc_static (n' := (0, 0)) (md' := mX11_in) 9 dX11_many_6 tw_906 zs_X11_in (s_X11_in B h _ _ _) rfl rfl rfl rfl rfl rfl rfl rfl (zk_f ?_)
  refine zb_ne 12 15 dX11_many_9 (by decide) rfl (fun zzA => ?_) (fun zzA => ?_)
  ·
    have zzO : ¬ (n < 1 ∨ 1000000 < n) := in_1M.mp zzA
    obtain ⟨n, hn1, hn2, hn31, rfl⟩ := rng0 (a := 1) (b := 1000000) (by decide) (by decide) zzO
    refine zi_iconst (v := 0) 16 dX11_many_15 (by decide) rfl ?_
    refine zi_istore_n (lv' := [(2, _), (0, _), (1, _)]) 17 dX11_many_16 rfl rfl rfl ?_
    refine zi_iconst (v := 1) 18 dX11_many_17 (by decide) rfl ?_
    refine zi_istore_n (lv' := [(3, _), (2, _), (0, _), (1, _)]) 19 dX11_many_18 rfl rfl rfl ?_
    rw [← sm1 n 2]
    refine zi_lv [0, 1, 2, 3] rfl (l_X11_many B h X D hD m n hn1 hn2 (fun hL NL => ?_) (n + 2) 1 h (by omega) (by decide) (by decide) (by omega) N0)
    refine zi_bipush (v := 24) 46 dX11_many_44 (by decide) rfl ?_
    refine zi_iload_n 47 dX11_many_46 rfl rfl ?_
    refine zi_imul 48 dX11_many_47 rfl ?_
    exact zr_int hZ dX11_many_48 rfl rfl ⟨_, rfl, _, by rw [r_many, if_neg zzO, nI_clamp hn31, show (24 : Int32) * nI (zSd n 2) = nI (24 * zSd n 2) from ls_m 24 _], ⟨_, NL.1, K⟩, NL.2⟩
  ·
    have zzA := Decidable.not_not.mp (fun q => zzA (in_1M.mpr q))
    refine zi_ldc 14 dX11_many_12 tw_910 rfl ?_
    exact zr_int hZ dX11_many_14 rfl rfl ⟨_, rfl, _, by rw [r_many, if_pos zzA], ⟨m, N0.1, K⟩, N0.2⟩

set_option maxHeartbeats 2000000 in
set_option maxRecDepth 100000 in
theorem l_X11_squares (B : zBB) (h : zHp) (X : zX) (D : Nat → Nat) (hD : zInj D) (m : mS) (n : Nat) (hn1 : 1 ≤ n) (hn2 : n ≤ 1000000) (kk : ∀ (h1 : zHp), rN B D m h h1 → zG X mX11_squares B (1, 0, 0) (0, 0) 56 [(2, .int (nI (zSd n 4))), (0, .ref (D 0)), (1, .int (nI n))] [] h1) : ∀ (nn : Nat) (d : Nat) (h1 : zHp), n + 1 - d < nn → (1 ≤ d) → (d ≤ n + 1) → (rN B D m h h1) → zG X mX11_squares B (1, 0, 0) (0, 0) 25 [(3, .int (nI d)), (2, .int (nI (zSm (pD n 4) d))), (0, .ref (D 0)), (1, .int (nI n))] [] h1 := by
  intro nn
  induction nn with
  | zero => intro d h1 hn; omega
  | succ nn ih =>
    intro d h1 hn hd hdn N
    refine zi_iload_n 26 dX11_squares_25 rfl rfl ?_
    refine zi_iload_n 27 dX11_squares_26 rfl rfl ?_
    refine zi_icmp_gt 30 56 dX11_squares_27 (by decide) rfl (fun zzE => ?_) (fun zzE => ?_)
    ·
      rw [nI_ltI (by omega) (by omega)] at zzE
      rw [sd_end hn1 zzE (by omega)]
      exact zi_lv [1, 2, 3] rfl (kk h1 N)
    ·
      rw [nI_ltI (by omega) (by omega)] at zzE
      refine zi_iload_n 31 dX11_squares_30 rfl rfl ?_
      refine zi_iload_n 32 dX11_squares_31 rfl rfl ?_
      refine zi_iload_n 33 dX11_squares_32 rfl rfl ?_
      refine zi_irem 34 dX11_squares_33 (fun e => by rw [nI_0e (by omega)] at e; omega) rfl ?_
      refine zi_if_ne 37 47 dX11_squares_34 (by decide) rfl (fun zzR => ?_) (fun zzR => ?_)
      ·
        rw [nI_rem (by omega) (by omega), nI_0e (Nat.lt_of_le_of_lt (Nat.mod_le _ _) (by omega))] at zzR
        refine zi_iconst (v := 0) 48 dX11_squares_47 (by decide) rfl ?_
        refine zi_iadd 49 dX11_squares_48 rfl ?_
        refine zi_istore_n (lv' := [(2, _), (3, _), (0, _), (1, _)]) 50 dX11_squares_49 rfl rfl rfl ?_
        refine zi_iinc (lv' := [(3, _), (2, _), (0, _), (1, _)]) 53 dX11_squares_50 rfl rfl rfl rfl rfl ?_
        refine zi_goto 25 dX11_squares_53 (by decide) ?_
        rw [show nI d + Int32.ofInt 1 = nI (d + 1) from nI_1 d, show nI (zSm (pD n 4) d) + 0 = nI (zSm (pD n 4) d + 0) from nI_ad _ 0, ← sd_n4 (Or.inl zzR)]
        exact zi_lv [0, 1, 2, 3] rfl (ih (d + 1) h1 (by omega) (by omega) (by omega) N)
      ·
        rw [nI_rem (by omega) (by omega), nI_0e (Nat.lt_of_le_of_lt (Nat.mod_le _ _) (by omega))] at zzR
        refine zi_iload_n 38 dX11_squares_37 rfl rfl ?_
        refine zi_iconst (v := 4) 39 dX11_squares_38 (by decide) rfl ?_
        refine zi_irem 40 dX11_squares_39 (by decide) rfl ?_
        refine zi_if_eq 43 47 dX11_squares_40 (by decide) rfl (fun zz4 => ?_) (fun zz4 => ?_)
        ·
          rw [show (4 : Int32) = nI 4 from rfl, nI_rem (by omega) (by decide), nI_0e (by omega)] at zz4
          refine zi_iconst (v := 0) 48 dX11_squares_47 (by decide) rfl ?_
          refine zi_iadd 49 dX11_squares_48 rfl ?_
          refine zi_istore_n (lv' := [(2, _), (3, _), (0, _), (1, _)]) 50 dX11_squares_49 rfl rfl rfl ?_
          refine zi_iinc (lv' := [(3, _), (2, _), (0, _), (1, _)]) 53 dX11_squares_50 rfl rfl rfl rfl rfl ?_
          refine zi_goto 25 dX11_squares_53 (by decide) ?_
          rw [show nI d + Int32.ofInt 1 = nI (d + 1) from nI_1 d, show nI (zSm (pD n 4) d) + 0 = nI (zSm (pD n 4) d + 0) from nI_ad _ 0, ← sd_n4 (Or.inr zz4)]
          exact zi_lv [0, 1, 2, 3] rfl (ih (d + 1) h1 (by omega) (by omega) (by omega) N)
        ·
          rw [show (4 : Int32) = nI 4 from rfl, nI_rem (by omega) (by decide), nI_0e (by omega)] at zz4
          refine zi_iload_n 44 dX11_squares_43 rfl rfl ?_
          refine zi_goto 48 dX11_squares_44 (by decide) ?_
          refine zi_iadd 49 dX11_squares_48 rfl ?_
          refine zi_istore_n (lv' := [(2, _), (3, _), (0, _), (1, _)]) 50 dX11_squares_49 rfl rfl rfl ?_
          refine zi_iinc (lv' := [(3, _), (2, _), (0, _), (1, _)]) 53 dX11_squares_50 rfl rfl rfl rfl rfl ?_
          refine zi_goto 25 dX11_squares_53 (by decide) ?_
          rw [show nI d + Int32.ofInt 1 = nI (d + 1) from nI_1 d, nI_ad, ← sd_y4 zzR zz4 hd]
          exact zi_lv [0, 1, 2, 3] rfl (ih (d + 1) h1 (by omega) (by omega) (by omega) N)

set_option maxHeartbeats 1000000 in
set_option maxRecDepth 100000 in
theorem s_X11_squares (B : zBB) (h : zHp) (D : Nat → Nat) (hD : zInj D) (s : zSt) (hs0 : okSt s) (hR : rRm B D s h) (n : Int32) : zSpec mX11_squares B (1, 0, 0) [.ref (D 0), .int n] h (zPi (fun zx h' => ∃ s' : zSt, r_squares s n = (zx, s') ∧ rRm B D s' h' ∧ rOd D h h')) := by
  refine zSpec.of (by decide) (Nat.le_of_ble_eq_true rfl) (fun X hZ => ?_)
  show zG X mX11_squares B (1, 0, 0) (0, 0) 0 [(0, .ref (D 0)), (1, .int n)] [] h
  obtain ⟨m, M, K⟩ := hR
  have N0 := rN_r M
  refine zi_iload_n 1 dX11_squares_0 rfl rfl ?_
  refine zi_i2l 2 dX11_squares_1 rfl ?_
  refine zi_lconst (v := 0) 3 dX11_squares_2 (by decide) rfl ?_
  refine zi_ldc2 6 dX11_squares_3 tw_1116 rfl ?_
  refine zc_static (n' := (0, 0)) (md' := mX11_in) 9 dX11_squares_6 tw_906 zs_X11_in (s_X11_in B h _ _ _) rfl rfl rfl rfl rfl rfl rfl rfl (zk_f ?_)
  refine zb_ne 12 15 dX11_squares_9 (by decide) rfl (fun zzA => ?_) (fun zzA => ?_)
  ·
    have zzO : ¬ (n < 0 ∨ 1000000 < n) := in_0M.mp zzA
    obtain ⟨n, hn1, hn2, hn31, rfl⟩ := rng0 (a := 0) (b := 1000000) (by decide) (by decide) zzO
    refine zi_iload_n 16 dX11_squares_15 rfl rfl ?_
    refine zi_if_ne 19 21 dX11_squares_16 (by decide) rfl (fun zzN => ?_) (fun zzN => ?_)
    ·
      have hm : 1 ≤ n := Nat.pos_of_ne_zero (fun q => zzN (by rw [q]; rfl))
      refine zi_iconst (v := 0) 22 dX11_squares_21 (by decide) rfl ?_
      refine zi_istore_n (lv' := [(2, _), (0, _), (1, _)]) 23 dX11_squares_22 rfl rfl rfl ?_
      refine zi_iconst (v := 1) 24 dX11_squares_23 (by decide) rfl ?_
      refine zi_istore_n (lv' := [(3, _), (2, _), (0, _), (1, _)]) 25 dX11_squares_24 rfl rfl rfl ?_
      rw [← sm1 n 4]
      refine zi_lv [0, 1, 2, 3] rfl (l_X11_squares B h X D hD m n hm hn2 (fun hL NL => ?_) (n + 1) 1 h (by omega) (by decide) (by omega) N0)
      refine zi_bipush (v := 8) 58 dX11_squares_56 (by decide) rfl ?_
      refine zi_iload_n 59 dX11_squares_58 rfl rfl ?_
      refine zi_imul 60 dX11_squares_59 rfl ?_
      exact zr_int hZ dX11_squares_60 rfl rfl ⟨_, rfl, _, by rw [r_squares, if_neg zzO, if_neg zzN, nI_clamp hn31, show (8 : Int32) * nI (zSd n 4) = nI (8 * zSd n 4) from ls_m 8 _], ⟨_, NL.1, K⟩, NL.2⟩
    ·
      refine zi_iconst (v := 1) 20 dX11_squares_19 (by decide) rfl ?_
      exact zr_int hZ dX11_squares_20 rfl rfl ⟨_, rfl, _, by rw [r_squares, if_neg zzO, if_pos zzN], ⟨m, N0.1, K⟩, N0.2⟩
  ·
    have zzA := Decidable.not_not.mp (fun q => zzA (in_0M.mpr q))
    refine zi_ldc 14 dX11_squares_12 tw_910 rfl ?_
    exact zr_int hZ dX11_squares_14 rfl rfl ⟨_, rfl, _, by rw [r_squares, if_pos zzA], ⟨m, N0.1, K⟩, N0.2⟩

set_option maxHeartbeats 2000000 in
set_option maxRecDepth 100000 in
theorem l_X11_three (B : zBB) (h : zHp) (X : zX) (D : Nat → Nat) (hD : zInj D) (m : mS) (n : Nat) (hn2 : n ≤ 1000000) (kk : ∀ (h1 : zHp), rN B D m h h1 → zG X mX11_three B (1, 0, 0) (0, 0) 34 [(2, .int (nI (zWf 64 4 n))), (0, .ref (D 0)), (1, .int (nI n))] [] h1) : ∀ (nn : Nat) (v k : Nat) (h1 : zHp), v < nn → (v ≤ 1000000) → (v < 2 ^ k) → (zWf k 4 v = zWf 64 4 n) → (rN B D m h h1) → zG X mX11_three B (1, 0, 0) (0, 0) 17 [(2, .int (nI v)), (0, .ref (D 0)), (1, .int (nI n))] [] h1 := by
  intro nn
  induction nn with
  | zero => intro v k h1 hn; omega
  | succ nn ih =>
    intro v k h1 hn hv hk hw N
    refine zi_iload_n 18 dX11_three_17 rfl rfl ?_
    refine zi_if_le 21 34 dX11_three_18 (by decide) rfl (fun zzE => ?_) (fun zzE => ?_)
    ·
      rw [show (0 : Int32) = nI 0 from rfl, nI_leI (by omega) (by decide)] at zzE
      have kk2 := kk h1 N
      rw [← hw, wf_e (Or.inl (by omega))] at kk2
      exact kk2
    ·
      rw [show (0 : Int32) = nI 0 from rfl, nI_leI (by omega) (by decide)] at zzE
      refine zi_iload_n 22 dX11_three_21 rfl rfl ?_
      refine zi_iconst (v := 4) 23 dX11_three_22 (by decide) rfl ?_
      refine zi_irem 24 dX11_three_23 (by decide) rfl ?_
      refine zi_if_ne 27 34 dX11_three_24 (by decide) rfl (fun zzR => ?_) (fun zzR => ?_)
      ·
        rw [show (4 : Int32) = nI 4 from rfl, nI_rem (by omega) (by decide), nI_0e (by omega)] at zzR
        have kk2 := kk h1 N
        rw [← hw, wf_e (Or.inr zzR)] at kk2
        exact kk2
      ·
        rw [show (4 : Int32) = nI 4 from rfl, nI_rem (by omega) (by decide), nI_0e (by omega)] at zzR
        refine zi_iload_n 28 dX11_three_27 rfl rfl ?_
        refine zi_iconst (v := 4) 29 dX11_three_28 (by decide) rfl ?_
        refine zi_idiv 30 dX11_three_29 (by decide) rfl ?_
        refine zi_istore_n (lv' := [(2, _), (0, _), (1, _)]) 31 dX11_three_30 rfl rfl rfl ?_
        refine zi_goto 17 dX11_three_31 (by decide) ?_
        rw [show (4 : Int32) = nI 4 from rfl, nI_div (by omega) (by decide)]
        obtain ⟨k', ek, e1, e2⟩ := wf_s (by omega) zzR hk
        exact zi_lv [0, 1, 2] rfl (ih (v / 4) k' h1 (by omega) (by omega) e1 (e2.symm.trans hw) N)

set_option maxHeartbeats 1000000 in
set_option maxRecDepth 100000 in
theorem s_X11_three (B : zBB) (h : zHp) (D : Nat → Nat) (hD : zInj D) (s : zSt) (hs0 : okSt s) (hR : rRm B D s h) (n : Int32) : zSpec mX11_three B (1, 0, 0) [.ref (D 0), .int n] h (zPi (fun zx h' => ∃ s' : zSt, r_three s n = (zx, s') ∧ rRm B D s' h' ∧ rOd D h h')) := by
  refine zSpec.of (by decide) (Nat.le_of_ble_eq_true rfl) (fun X hZ => ?_)
  show zG X mX11_three B (1, 0, 0) (0, 0) 0 [(0, .ref (D 0)), (1, .int n)] [] h
  obtain ⟨m, M, K⟩ := hR
  have N0 := rN_r M
  refine zi_iload_n 1 dX11_three_0 rfl rfl ?_
  refine zi_i2l 2 dX11_three_1 rfl ?_
  refine zi_lconst (v := 0) 3 dX11_three_2 (by decide) rfl ?_
  refine zi_ldc2 6 dX11_three_3 tw_1116 rfl ?_
  refine zc_static (n' := (0, 0)) (md' := mX11_in) 9 dX11_three_6 tw_906 zs_X11_in (s_X11_in B h _ _ _) rfl rfl rfl rfl rfl rfl rfl rfl (zk_f ?_)
  refine zb_ne 12 15 dX11_three_9 (by decide) rfl (fun zzA => ?_) (fun zzA => ?_)
  ·
    have zzO : ¬ (n < 0 ∨ 1000000 < n) := in_0M.mp zzA
    obtain ⟨n, hn1, hn2, hn31, rfl⟩ := rng0 (a := 0) (b := 1000000) (by decide) (by decide) zzO
    refine zi_iload_n 16 dX11_three_15 rfl rfl ?_
    refine zi_istore_n (lv' := [(2, _), (0, _), (1, _)]) 17 dX11_three_16 rfl rfl rfl ?_
    refine zi_lv [0, 1, 2] rfl (l_X11_three B h X D hD m n hn2 (fun hL NL => ?_) (n + 1) n 64 h (by omega) hn2 (Nat.lt_of_le_of_lt hn2 (by decide)) rfl N0)
    refine zi_iload_n 35 dX11_three_34 rfl rfl ?_
    refine zi_bipush (v := 8) 37 dX11_three_35 (by decide) rfl ?_
    refine zi_irem 38 dX11_three_37 (by decide) rfl ?_
    refine zi_bipush (v := 7) 40 dX11_three_38 (by decide) rfl ?_
    refine zi_icmp_ne 43 47 dX11_three_40 (by decide) rfl (fun zzW => ?_) (fun zzW => ?_)
    ·
      rw [show (8 : Int32) = nI 8 from rfl, nI_rem (Nat.lt_of_le_of_lt (zWf_le 64 4 n) hn31) (by decide), show (7 : Int32) = nI 7 from rfl, nI_eq (Nat.lt_of_le_of_lt (Nat.mod_le _ _) (Nat.lt_of_le_of_lt (zWf_le 64 4 n) hn31)) (by decide)] at zzW
      refine zi_iconst (v := 1) 48 dX11_three_47 (by decide) rfl ?_
      exact zr_int hZ dX11_three_48 rfl rfl ⟨_, rfl, _, by rw [r_three, if_neg zzO, nI_clamp hn31]; first | rw [if_pos zzW] | rw [if_neg zzW], ⟨_, NL.1, K⟩, NL.2⟩
    ·
      rw [show (8 : Int32) = nI 8 from rfl, nI_rem (Nat.lt_of_le_of_lt (zWf_le 64 4 n) hn31) (by decide), show (7 : Int32) = nI 7 from rfl, nI_eq (Nat.lt_of_le_of_lt (Nat.mod_le _ _) (Nat.lt_of_le_of_lt (zWf_le 64 4 n) hn31)) (by decide)] at zzW
      refine zi_iconst (v := 0) 44 dX11_three_43 (by decide) rfl ?_
      refine zi_goto 48 dX11_three_44 (by decide) ?_
      exact zr_int hZ dX11_three_48 rfl rfl ⟨_, rfl, _, by rw [r_three, if_neg zzO, nI_clamp hn31]; first | rw [if_pos zzW] | rw [if_neg zzW], ⟨_, NL.1, K⟩, NL.2⟩
  ·
    have zzA := Decidable.not_not.mp (fun q => zzA (in_0M.mpr q))
    refine zi_ldc 14 dX11_three_12 tw_910 rfl ?_
    exact zr_int hZ dX11_three_14 rfl rfl ⟨_, rfl, _, by rw [r_three, if_pos zzA], ⟨m, N0.1, K⟩, N0.2⟩

theorem ptF_w {D : List i4} {i : Int32} {c : Nat} {fo : Int32} {R R' : Nat → Int64} (h : ptF D i c fo R) (hr : ro R' 32 = ro R 32) : ptF D i c fo R' := by
  rcases h with ⟨h1, t, v, h2, h3, h4, h5⟩ | h
  · exact Or.inl ⟨h1, t, v, h2, h3, h4, hr.trans h5⟩
  · exact Or.inr h

set_option maxHeartbeats 2000000 in
set_option maxRecDepth 100000 in
theorem l_X11_part (B : zBB) (h : zHp) (X : zX) (D : Nat → Nat) (hD : zInj D) (m : mS) (ti : Nat) (i : Int32) (DD : List i4) (kk : ∀ (c : Nat) (P : i4) (fo : Int32) (h1 : zHp) (R : Nat → Int64), rN B D (uR m R) h h1 → ro R 28 = z4i P → DD.length = c + 1 → DD[c]? = some P → ptF DD i c fo R → zG X mX11_part B (4, 0, 0) (0, 0) 212 [(8, .int fo), (7, .int (nI c)), (0, .ref (D 0)), (1, .int (nI ti)), (3, .int i)] [] h1) : ∀ (n : Nat) (k c q : Nat) (P : i4) (fo : Int32) (h1 : zHp) (R0 : Nat → Int64), k < n → (c + k ≤ 63) → (rN B D (uR m R0) h h1) → (ro R0 28 = z4i P) → (ptOK P q) → (q < 2 ^ k) → (∀ t, DD[t + c]? = (ptL k P q)[t]?) → (DD.length = c + (ptL k P q).length) → (ptF DD i c fo R0) → zG X mX11_part B (4, 0, 0) (0, 0) 80 [(8, .int fo), (7, .int (nI c)), (5, .long (lN q)), (0, .ref (D 0)), (1, .int (nI ti)), (3, .int i)] [] h1 := by
  intro n
  induction n with
  | zero => intro k c q P fo h1 R0 hn; omega
  | succ n ih =>
    intro k c q P fo h1 R0 hn hc N hL hok hk hD1 hD2 hF
    refine zi_lload 82 dX11_part_80 rfl rfl ?_
    refine zi_lconst (v := 1) 83 dX11_part_82 (by decide) rfl ?_
    refine zj_le 87 212 dX11_part_83 rfl dX11_part_84 (by decide) rfl (fun zzM => ?_) (fun zzM => ?_)
    ·
      rw [pt_1 hok] at zzM
      rw [pt_e zzM] at hD1 hD2
      exact zi_lv [0, 1, 3, 4, 5] rfl (kk c P fo h1 R0 N hL hD2 (by have := hD1 0; rw [Nat.zero_add] at this; exact this) hF)
    ·
      rw [pt_1 hok] at zzM
      obtain ⟨k', ek, e1, e2, e3, e4, e5⟩ := pt_s (P := P) zzM hk
      obtain ⟨l, hl⟩ : ∃ l, l = zLp q := ⟨_, rfl⟩
      rw [← hl] at e1 e2 e3 e4 e5
      obtain ⟨g1, g2, g3, g4, g5, g6, g7⟩ := pt_st hok (by omega) e4
      obtain ⟨b1, b2, b3⟩ := pt_bm hok (by omega) e4
      have q31 := pt_31 hok
      have dv : DD[c]? = some (ptG P l) := by have := hD1 0; rw [Nat.zero_add, e2] at this; exact this
      refine zi_lload 89 dX11_part_87 rfl rfl ?_
      refine zc_static (n' := (0, 0)) (md' := mX11_leastPrime) 92 dX11_part_89 tw_1109 zs_X11_leastPrime (s_X11_leastPrime B h1 q (by omega) q31) rfl rfl rfl rfl rfl rfl rfl rfl (zk_f ?_)
      rw [← hl]
      refine zi_lstore (lv' := [(9, _), (8, _), (7, _), (5, _), (0, _), (1, _), (3, _)]) 94 dX11_part_92 rfl rfl rfl ?_
      refine zi_aload_n 95 dX11_part_94 rfl rfl ?_
      refine zi_iconst (v := 0) 96 dX11_part_95 (by decide) rfl ?_
      refine zi_bipush (v := 28) 98 dX11_part_96 (by decide) rfl ?_
      refine zc_virtual (n' := (0, 0)) (md' := mX11_copyOf) 101 dX11_part_98 tw_1079 zv_X11_copyOf zcl_X11 (s_X11_copyOf B h1 D hD _ N.1 0 28 (by omega) (by omega) (by omega)) N.1.1 rfl rfl rfl rfl rfl rfl rfl rfl (zk_v fun h1 n1 => ?_)
      have N1 := rN_t N n1
      obtain ⟨R2, N2, gP, gL, g32⟩ : ∃ R, rN B D (uR m R) h h1 ∧ ro R 0 = z4i P ∧ ro R 28 = z4i P ∧ ro R 32 = ro R0 32 := ⟨_, N1, hL, hL, rfl⟩
      refine zi_aload_n 102 dX11_part_101 rfl rfl ?_
      refine zi_iconst (v := 4) 103 dX11_part_102 (by decide) rfl ?_
      refine zi_ldc2 106 dX11_part_103 tw_909 rfl ?_
      refine zi_lload 108 dX11_part_106 rfl rfl ?_
      refine zi_lmul 109 dX11_part_108 rfl ?_
      refine zi_lconst (v := 0) 110 dX11_part_109 (by decide) rfl ?_
      refine zi_lconst (v := 0) 111 dX11_part_110 (by decide) rfl ?_
      refine zi_lconst (v := 0) 112 dX11_part_111 (by decide) rfl ?_
      refine zc_virtual (n' := (0, 0)) (md' := mX11_put) 115 dX11_part_112 tw_944 zv_X11_put zcl_X11 (s_X11_put B h1 D hD _ N2.1 4 (by decide) (_, _, _, _)) N2.1.1 rfl rfl rfl rfl rfl rfl rfl rfl (zk_v fun h3 n3 => ?_)
      have N3 := rN_t N2 n3
      obtain ⟨R4, N4, gQ, gP, gL, g32⟩ : ∃ R, rN B D (uR m R) h h3 ∧ ro R 4 = z4i (i4c l) ∧ ro R 0 = z4i P ∧ ro R 28 = z4i P ∧ ro R 32 = ro R0 32 := ⟨_, N3, pt_c l, gP, gL, g32⟩
      refine zi_aload_n 116 dX11_part_115 rfl rfl ?_
      refine zi_iconst (v := 0) 117 dX11_part_116 (by decide) rfl ?_
      refine zc_virtual (n' := (0, 0)) (md' := mX11_greatestP) 120 dX11_part_117 tw_1075 zv_X11_greatestP zcl_X11 (s_X11_greatestP0 B h3 D hD _ N4.1 P (i4c l) g1 gP gQ) N4.1.1 rfl rfl rfl rfl rfl rfl rfl rfl (zk_v fun h5 p5 => ?_)
      obtain ⟨R9, n5, tG, oG⟩ := p5
      have N5 := rN_t N4 n5
      have gL9 : ro R9 28 = z4i P := (ro_c (fun i hi => oG i (by omega))).trans gL
      have g329 : ro R9 32 = ro R0 32 := (ro_c (fun i hi => oG i (by omega))).trans g32
      have tG2 : ro R9 0 = z4i (ptG P l) := tG
      refine zi_iload 122 dX11_part_120 rfl rfl ?_
      refine zi_iload_n 123 dX11_part_122 rfl rfl ?_
      refine zi_icmp_ne 126 136 dX11_part_123 (by decide) rfl (fun zzI => ?_) (fun zzI => ?_)
      ·
        obtain ⟨RJ, N6, tJ, gJ, fJ⟩ : ∃ R, rN B D (uR m R) h h5 ∧ ro R 0 = z4i (ptG P l) ∧ ro R 28 = z4i P ∧ ptF DD i (c + 1) fo R := ⟨_, N5, tG2, gL9, ptF_n zzI hF g329⟩
        refine zi_aload_n 137 dX11_part_136 rfl rfl ?_
        refine zi_bipush (v := 16) 139 dX11_part_137 (by decide) rfl ?_
        refine zi_iconst (v := 0) 140 dX11_part_139 (by decide) rfl ?_
        refine zc_virtual (n' := (0, 0)) (md' := mX11_turnBack) 143 dX11_part_140 tw_1055 zv_X11_turnBack zcl_X11 (s_X11_turnBack B h5 D hD _ N6.1 16 0 (by omega) (by omega)) N6.1.1 rfl rfl rfl rfl rfl rfl rfl rfl (zk_v fun h7 n7 => ?_)
        have N7 := rN_t N6 n7
        refine zi_aload_n 144 dX11_part_143 rfl rfl ?_
        refine zi_bipush (v := 8) 146 dX11_part_144 (by decide) rfl ?_
        refine zi_bipush (v := 16) 148 dX11_part_146 (by decide) rfl ?_
        refine zi_bipush (v := 28) 150 dX11_part_148 (by decide) rfl ?_
        refine zc_virtual (n' := (0, 0)) (md' := mX11_multiply) 153 dX11_part_150 tw_1039 zv_X11_multiply zcl_X11 (s_X11_multiply B h7 D hD _ N7.1 8 16 28 (by omega) (by omega) (by omega)) N7.1.1 rfl rfl rfl rfl rfl rfl rfl rfl (zk_v fun h8 n8 => ?_)
        have N8 := rN_t N7 n8
        obtain ⟨RK, N9, tK, fK⟩ : ∃ R, rN B D (uR m R) h h8 ∧ ro R 8 = z4i (i4m (i4b (ptG P l)) P) ∧ ro R 32 = ro RJ 32 := ⟨_, N8, by show zMul (zBk (ro RJ 0)) (ro RJ 28) = _; rw [tJ, gJ, z4i_b]; exact b1, rfl⟩
        refine zi_aload_n 154 dX11_part_153 rfl rfl ?_
        refine zi_bipush (v := 28) 156 dX11_part_154 (by decide) rfl ?_
        refine zi_aload_n 157 dX11_part_156 rfl rfl ?_
        refine zi_getfield 160 9 dX11_part_157 zcl_X11 tw_872 rfl rfl N9.1.1 rfl rfl ?_
        refine zi_bipush (v := 8) 162 dX11_part_160 (by decide) rfl ?_
        refine zi_laload 163 dX11_part_162 N9.1.2.2.2.2.2.2.2.2.1 (vp_in_nI (show 8 < 80 by decide) (by decide)) rfl ?_
        rw [show Int32.toNatClampNeg 8 = 8 from rfl]
        rw [show wR (uR m RK) 8 = (z4i (i4m (i4b (ptG P l)) P)).1 from congrArg (fun v : z4 => v.1) tK]
        refine zi_lload 165 dX11_part_163 rfl rfl ?_
        refine zi_ldiv 166 dX11_part_165 b3 rfl ?_
        refine zi_aload_n 167 dX11_part_166 rfl rfl ?_
        refine zi_getfield 170 9 dX11_part_167 zcl_X11 tw_872 rfl rfl N9.1.1 rfl rfl ?_
        refine zi_bipush (v := 9) 172 dX11_part_170 (by decide) rfl ?_
        refine zi_laload 173 dX11_part_172 N9.1.2.2.2.2.2.2.2.2.1 (vp_in_nI (show 9 < 80 by decide) (by decide)) rfl ?_
        rw [show Int32.toNatClampNeg 9 = 9 from rfl]
        rw [show wR (uR m RK) 9 = (z4i (i4m (i4b (ptG P l)) P)).2.1 from congrArg (fun v : z4 => v.2.1) tK]
        refine zi_lload 175 dX11_part_173 rfl rfl ?_
        refine zi_ldiv 176 dX11_part_175 b3 rfl ?_
        refine zi_aload_n 177 dX11_part_176 rfl rfl ?_
        refine zi_getfield 180 9 dX11_part_177 zcl_X11 tw_872 rfl rfl N9.1.1 rfl rfl ?_
        refine zi_bipush (v := 10) 182 dX11_part_180 (by decide) rfl ?_
        refine zi_laload 183 dX11_part_182 N9.1.2.2.2.2.2.2.2.2.1 (vp_in_nI (show 10 < 80 by decide) (by decide)) rfl ?_
        rw [show Int32.toNatClampNeg 10 = 10 from rfl]
        rw [show wR (uR m RK) 10 = (z4i (i4m (i4b (ptG P l)) P)).2.2.1 from congrArg (fun v : z4 => v.2.2.1) tK]
        refine zi_lload 185 dX11_part_183 rfl rfl ?_
        refine zi_ldiv 186 dX11_part_185 b3 rfl ?_
        refine zi_aload_n 187 dX11_part_186 rfl rfl ?_
        refine zi_getfield 190 9 dX11_part_187 zcl_X11 tw_872 rfl rfl N9.1.1 rfl rfl ?_
        refine zi_bipush (v := 11) 192 dX11_part_190 (by decide) rfl ?_
        refine zi_laload 193 dX11_part_192 N9.1.2.2.2.2.2.2.2.2.1 (vp_in_nI (show 11 < 80 by decide) (by decide)) rfl ?_
        rw [show Int32.toNatClampNeg 11 = 11 from rfl]
        rw [show wR (uR m RK) 11 = (z4i (i4m (i4b (ptG P l)) P)).2.2.2 from congrArg (fun v : z4 => v.2.2.2) tK]
        refine zi_lload 195 dX11_part_193 rfl rfl ?_
        refine zi_ldiv 196 dX11_part_195 b3 rfl ?_
        refine zc_virtual (n' := (0, 0)) (md' := mX11_put) 199 dX11_part_196 tw_944 zv_X11_put zcl_X11 (s_X11_put B h8 D hD _ N9.1 28 (by decide) (_, _, _, _)) N9.1.1 rfl rfl rfl rfl rfl rfl rfl rfl (zk_v fun h10 n10 => ?_)
        have N10 := rN_t N9 n10
        obtain ⟨RL, N11, tL, fL⟩ : ∃ R, rN B D (uR m R) h h10 ∧ ro R 28 = z4i (ptN P l) ∧ ro R 32 = ro RJ 32 := ⟨_, N10, b2, fK⟩
        refine zi_lload 201 dX11_part_199 rfl rfl ?_
        refine zi_lload 203 dX11_part_201 rfl rfl ?_
        refine zi_ldiv 204 dX11_part_203 b3 rfl ?_
        rw [pk_lDiv (by omega) (by omega) (by omega)]
        refine zi_lstore (lv' := [(5, _), (9, _), (8, _), (7, _), (0, _), (1, _), (3, _)]) 206 dX11_part_204 rfl rfl rfl ?_
        refine zi_iinc (v := nI (c + 1)) (lv' := [(7, _), (5, _), (9, _), (8, _), (0, _), (1, _), (3, _)]) 209 dX11_part_206 rfl (nI_1 _) rfl rfl rfl ?_
        refine zi_goto 80 dX11_part_209 (by decide) ?_
        exact zi_lv [3, 0, 1, 4, 5, 6] rfl (ih k' (c + 1) (q / l) (ptN P l) fo h10 RL (by omega) (by omega) N11 tL g6 e1 (pt_D1 hD1 e2) (pt_D2 hD2 e2) (ptF_w fJ fL))
      ·
        refine zi_aload_n 127 dX11_part_126 rfl rfl ?_
        refine zi_bipush (v := 32) 129 dX11_part_127 (by decide) rfl ?_
        refine zi_iconst (v := 0) 130 dX11_part_129 (by decide) rfl ?_
        refine zc_virtual (n' := (0, 0)) (md' := mX11_copyOf) 133 dX11_part_130 tw_1079 zv_X11_copyOf zcl_X11 (s_X11_copyOf B h5 D hD _ N5.1 32 0 (by omega) (by omega) (by omega)) N5.1.1 rfl rfl rfl rfl rfl rfl rfl rfl (zk_v fun h12 n12 => ?_)
        have N12 := rN_t N5 n12
        refine zi_iconst (v := 1) 134 dX11_part_133 (by decide) rfl ?_
        refine zi_istore (lv' := [(8, _), (9, _), (7, _), (5, _), (0, _), (1, _), (3, _)]) 136 dX11_part_134 rfl rfl rfl ?_
        obtain ⟨RJ, N13, tJ, gJ, fJ⟩ : ∃ R, rN B D (uR m R) h h12 ∧ ro R 0 = z4i (ptG P l) ∧ ro R 28 = z4i P ∧ ptF DD i (c + 1) 1 R := ⟨_, N12, tG2, gL9, ptF_y zzI dv tG2⟩
        refine zi_aload_n 137 dX11_part_136 rfl rfl ?_
        refine zi_bipush (v := 16) 139 dX11_part_137 (by decide) rfl ?_
        refine zi_iconst (v := 0) 140 dX11_part_139 (by decide) rfl ?_
        refine zc_virtual (n' := (0, 0)) (md' := mX11_turnBack) 143 dX11_part_140 tw_1055 zv_X11_turnBack zcl_X11 (s_X11_turnBack B h12 D hD _ N13.1 16 0 (by omega) (by omega)) N13.1.1 rfl rfl rfl rfl rfl rfl rfl rfl (zk_v fun h14 n14 => ?_)
        have N14 := rN_t N13 n14
        refine zi_aload_n 144 dX11_part_143 rfl rfl ?_
        refine zi_bipush (v := 8) 146 dX11_part_144 (by decide) rfl ?_
        refine zi_bipush (v := 16) 148 dX11_part_146 (by decide) rfl ?_
        refine zi_bipush (v := 28) 150 dX11_part_148 (by decide) rfl ?_
        refine zc_virtual (n' := (0, 0)) (md' := mX11_multiply) 153 dX11_part_150 tw_1039 zv_X11_multiply zcl_X11 (s_X11_multiply B h14 D hD _ N14.1 8 16 28 (by omega) (by omega) (by omega)) N14.1.1 rfl rfl rfl rfl rfl rfl rfl rfl (zk_v fun h15 n15 => ?_)
        have N15 := rN_t N14 n15
        obtain ⟨RK, N16, tK, fK⟩ : ∃ R, rN B D (uR m R) h h15 ∧ ro R 8 = z4i (i4m (i4b (ptG P l)) P) ∧ ro R 32 = ro RJ 32 := ⟨_, N15, by show zMul (zBk (ro RJ 0)) (ro RJ 28) = _; rw [tJ, gJ, z4i_b]; exact b1, rfl⟩
        refine zi_aload_n 154 dX11_part_153 rfl rfl ?_
        refine zi_bipush (v := 28) 156 dX11_part_154 (by decide) rfl ?_
        refine zi_aload_n 157 dX11_part_156 rfl rfl ?_
        refine zi_getfield 160 9 dX11_part_157 zcl_X11 tw_872 rfl rfl N16.1.1 rfl rfl ?_
        refine zi_bipush (v := 8) 162 dX11_part_160 (by decide) rfl ?_
        refine zi_laload 163 dX11_part_162 N16.1.2.2.2.2.2.2.2.2.1 (vp_in_nI (show 8 < 80 by decide) (by decide)) rfl ?_
        rw [show Int32.toNatClampNeg 8 = 8 from rfl]
        rw [show wR (uR m RK) 8 = (z4i (i4m (i4b (ptG P l)) P)).1 from congrArg (fun v : z4 => v.1) tK]
        refine zi_lload 165 dX11_part_163 rfl rfl ?_
        refine zi_ldiv 166 dX11_part_165 b3 rfl ?_
        refine zi_aload_n 167 dX11_part_166 rfl rfl ?_
        refine zi_getfield 170 9 dX11_part_167 zcl_X11 tw_872 rfl rfl N16.1.1 rfl rfl ?_
        refine zi_bipush (v := 9) 172 dX11_part_170 (by decide) rfl ?_
        refine zi_laload 173 dX11_part_172 N16.1.2.2.2.2.2.2.2.2.1 (vp_in_nI (show 9 < 80 by decide) (by decide)) rfl ?_
        rw [show Int32.toNatClampNeg 9 = 9 from rfl]
        rw [show wR (uR m RK) 9 = (z4i (i4m (i4b (ptG P l)) P)).2.1 from congrArg (fun v : z4 => v.2.1) tK]
        refine zi_lload 175 dX11_part_173 rfl rfl ?_
        refine zi_ldiv 176 dX11_part_175 b3 rfl ?_
        refine zi_aload_n 177 dX11_part_176 rfl rfl ?_
        refine zi_getfield 180 9 dX11_part_177 zcl_X11 tw_872 rfl rfl N16.1.1 rfl rfl ?_
        refine zi_bipush (v := 10) 182 dX11_part_180 (by decide) rfl ?_
        refine zi_laload 183 dX11_part_182 N16.1.2.2.2.2.2.2.2.2.1 (vp_in_nI (show 10 < 80 by decide) (by decide)) rfl ?_
        rw [show Int32.toNatClampNeg 10 = 10 from rfl]
        rw [show wR (uR m RK) 10 = (z4i (i4m (i4b (ptG P l)) P)).2.2.1 from congrArg (fun v : z4 => v.2.2.1) tK]
        refine zi_lload 185 dX11_part_183 rfl rfl ?_
        refine zi_ldiv 186 dX11_part_185 b3 rfl ?_
        refine zi_aload_n 187 dX11_part_186 rfl rfl ?_
        refine zi_getfield 190 9 dX11_part_187 zcl_X11 tw_872 rfl rfl N16.1.1 rfl rfl ?_
        refine zi_bipush (v := 11) 192 dX11_part_190 (by decide) rfl ?_
        refine zi_laload 193 dX11_part_192 N16.1.2.2.2.2.2.2.2.2.1 (vp_in_nI (show 11 < 80 by decide) (by decide)) rfl ?_
        rw [show Int32.toNatClampNeg 11 = 11 from rfl]
        rw [show wR (uR m RK) 11 = (z4i (i4m (i4b (ptG P l)) P)).2.2.2 from congrArg (fun v : z4 => v.2.2.2) tK]
        refine zi_lload 195 dX11_part_193 rfl rfl ?_
        refine zi_ldiv 196 dX11_part_195 b3 rfl ?_
        refine zc_virtual (n' := (0, 0)) (md' := mX11_put) 199 dX11_part_196 tw_944 zv_X11_put zcl_X11 (s_X11_put B h15 D hD _ N16.1 28 (by decide) (_, _, _, _)) N16.1.1 rfl rfl rfl rfl rfl rfl rfl rfl (zk_v fun h17 n17 => ?_)
        have N17 := rN_t N16 n17
        obtain ⟨RL, N18, tL, fL⟩ : ∃ R, rN B D (uR m R) h h17 ∧ ro R 28 = z4i (ptN P l) ∧ ro R 32 = ro RJ 32 := ⟨_, N17, b2, fK⟩
        refine zi_lload 201 dX11_part_199 rfl rfl ?_
        refine zi_lload 203 dX11_part_201 rfl rfl ?_
        refine zi_ldiv 204 dX11_part_203 b3 rfl ?_
        rw [pk_lDiv (by omega) (by omega) (by omega)]
        refine zi_lstore (lv' := [(5, _), (8, _), (9, _), (7, _), (0, _), (1, _), (3, _)]) 206 dX11_part_204 rfl rfl rfl ?_
        refine zi_iinc (v := nI (c + 1)) (lv' := [(7, _), (5, _), (8, _), (9, _), (0, _), (1, _), (3, _)]) 209 dX11_part_206 rfl (nI_1 _) rfl rfl rfl ?_
        refine zi_goto 80 dX11_part_209 (by decide) ?_
        exact zi_lv [2, 0, 1, 4, 5, 6] rfl (ih k' (c + 1) (q / l) (ptN P l) 1 h17 RL (by omega) (by omega) N18 tL g6 e1 (pt_D1 hD1 e2) (pt_D2 hD2 e2) (ptF_w fJ fL))

set_option maxHeartbeats 1000000 in
set_option maxRecDepth 100000 in
theorem s_X11_part (B : zBB) (h : zHp) (D : Nat → Nat) (hD : zInj D) (s : zSt) (hs0 : okSt s) (hR : rRm B D s h) (t : Int32) (p : Int32) (i : Int32) : zSpec mX11_part B (4, 0, 0) [.ref (D 0), .int t, .int p, .int i] h (zPi (fun zx h' => ∃ s' : zSt, r_part s t p i = (zx, s') ∧ rRm B D s' h' ∧ rOd D h h')) := by
  refine zSpec.of (by decide) (Nat.le_of_ble_eq_true rfl) (fun X hZ => ?_)
  show zG X mX11_part B (4, 0, 0) (0, 0) 0 [(0, .ref (D 0)), (1, .int t), (2, .int p), (3, .int i)] [] h
  obtain ⟨m, M, K⟩ := hR
  have N0 := rN_r M
  refine zi_iload_n 1 dX11_part_0 rfl rfl ?_
  refine zc_static (n' := (0, 0)) (md' := mX11_isSlot) 4 dX11_part_1 tw_937 zs_X11_isSlot (s_X11_isSlot B h _) rfl rfl rfl rfl rfl rfl rfl rfl (zk_f ?_)
  refine zb_eq 7 14 dX11_part_4 (by decide) rfl (fun zzA => ?_) (fun zzA => ?_)
  ·
    have zzA := Decidable.not_not.mp (fun q => zzA (in_20.mpr q))
    refine zi_ldc 16 dX11_part_14 tw_910 rfl ?_
    exact zr_int hZ dX11_part_16 rfl rfl ⟨_, rfl, _, by rw [r_part, if_pos (by first | exact Or.inl zzA | exact Or.inr (zzB))], ⟨m, N0.1, K⟩, N0.2⟩
  ·
    have zzA := in_20.mp zzA
    refine zi_iload_n 8 dX11_part_7 rfl rfl ?_
    refine zc_static (n' := (0, 0)) (md' := mX11_isSlot) 11 dX11_part_8 tw_937 zs_X11_isSlot (s_X11_isSlot B h _) rfl rfl rfl rfl rfl rfl rfl rfl (zk_f ?_)
    refine zb_ne 14 17 dX11_part_11 (by decide) rfl (fun zzB => ?_) (fun zzB => ?_)
    ·
      have zzB := in_20.mp zzB
      have zzO : ¬ (zOut t 20 ∨ zOut p 20) := fun r => r.elim zzA zzB
      obtain ⟨ti, hti, hti31, rfl⟩ := out_i (N := 20) (by decide) zzA
      obtain ⟨pj, hpj, hpj31, rfl⟩ := out_i (N := 20) (by decide) zzB
      refine zi_aload_n 18 dX11_part_17 rfl rfl ?_
      refine zi_getfield 21 0 dX11_part_18 zcl_X11 tw_863 rfl rfl N0.1.1 rfl rfl ?_
      refine zi_iload_n 22 dX11_part_21 rfl rfl ?_
      rcases hsP : qSl s pj with _ | P
      ·
        refine zi_baload 23 dX11_part_22 N0.1.2.1 (vp_in_nI (show pj < 20 by omega) (by decide)) rfl ?_
        rw [nI_clamp (Nat.lt_trans (show pj < 20 by omega) (by decide))]
        rw [show wH _ pj = kn (qSl s pj) from K.1 pj hpj, hsP, show kn none = 0 from rfl]
        refine zi_if_ne 26 32 dX11_part_23 (by decide) rfl (fun c_23 => absurd c_23 (by decide)) (fun c_23 => ?_)
        refine zi_aload_n 27 dX11_part_26 rfl rfl ?_
        refine zi_iconst (v := 1) 28 dX11_part_27 (by decide) rfl ?_
        refine zc_virtual (n' := (0, 0)) (md' := mX11_finds) 31 dX11_part_28 tw_911 zv_X11_finds zcl_X11 (s_X11_finds B h D hD _ N0.1 _) N0.1.1 rfl rfl rfl rfl rfl rfl rfl rfl (zk_i fun x1 h1 p1 => ?_)
        obtain ⟨rfl, n1⟩ := p1
        have N1 := rN_t N0 n1
        exact zr_int hZ dX11_part_31 rfl rfl ⟨_, rfl, _, by rw [r_part, if_neg zzO, nI_clamp hpj31, hsP, onS_n], ⟨_, N1.1, mQ_F _ K⟩, N1.2⟩
      ·
        have hVP := hs0.1 pj P hsP
        have eP := K.2.1 pj hpj P hsP
        refine zi_baload 23 dX11_part_22 N0.1.2.1 (vp_in_nI (show pj < 20 by omega) (by decide)) rfl ?_
        rw [nI_clamp (Nat.lt_trans (show pj < 20 by omega) (by decide))]
        rw [show wH _ pj = kn (qSl s pj) from K.1 pj hpj, hsP, show kn (some P) = 1 from rfl]
        refine zi_if_ne 26 32 dX11_part_23 (by decide) rfl (fun c_23 => ?_) (fun c_23 => absurd c_23 (by decide))
        refine zi_aload_n 33 dX11_part_32 rfl rfl ?_
        refine zi_iconst (v := 0) 34 dX11_part_33 (by decide) rfl ?_
        refine zi_iload_n 35 dX11_part_34 rfl rfl ?_
        refine zc_virtual (n' := (0, 0)) (md' := mX11_load) 38 dX11_part_35 tw_989 zv_X11_load zcl_X11 (s_X11_load B h D hD _ N0.1 0 pj (by omega) (by omega)) N0.1.1 rfl rfl rfl rfl rfl rfl rfl rfl (zk_v fun h2 n2 => ?_)
        have N2 := rN_t N0 n2
        obtain ⟨R3, N3, r0⟩ : ∃ R, rN B D (uR m R) h h2 ∧ ro R 0 = z4i P := ⟨_, N2, eP⟩
        refine zi_aload_n 39 dX11_part_38 rfl rfl ?_
        refine zi_iconst (v := 0) 40 dX11_part_39 (by decide) rfl ?_
        refine zc_virtual (n' := (0, 0)) (md' := mX11_kindOf) 43 dX11_part_40 tw_958 zv_X11_kindOf zcl_X11 (s_X11_kindOf B h2 D hD _ N3.1 0 (by omega) P hVP r0) N3.1.1 rfl rfl rfl rfl rfl rfl rfl rfl (zk_f ?_)
        rcases kd_5 P with hk5 | hk5 | hk5 | hk5 | hk5
        ·
          rw [hk5, show nI 0 = 0 from rfl]
          refine zi_istore (lv' := [(4, _), (0, _), (1, _), (2, _), (3, _)]) 45 dX11_part_43 rfl rfl rfl ?_
          refine zi_iload 47 dX11_part_45 rfl rfl ?_
          refine zi_iconst (v := 2) 48 dX11_part_47 (by decide) rfl ?_
          refine zi_icmp_lt 51 57 dX11_part_48 (by decide) rfl (fun c_48 => ?_) (fun c_48 => absurd c_48 (by decide))
          refine zi_ldc 59 dX11_part_57 tw_1063 rfl ?_
          exact zr_int hZ dX11_part_59 rfl rfl ⟨_, rfl, _, by rw [r_part, if_neg zzO, nI_clamp hpj31, hsP, onS_s, if_neg (by rw [hk5]; decide)], ⟨_, N3.1, K⟩, N3.2⟩
        ·
          rw [hk5, show nI 1 = 1 from rfl]
          refine zi_istore (lv' := [(4, _), (0, _), (1, _), (2, _), (3, _)]) 45 dX11_part_43 rfl rfl rfl ?_
          refine zi_iload 47 dX11_part_45 rfl rfl ?_
          refine zi_iconst (v := 2) 48 dX11_part_47 (by decide) rfl ?_
          refine zi_icmp_lt 51 57 dX11_part_48 (by decide) rfl (fun c_48 => ?_) (fun c_48 => absurd c_48 (by decide))
          refine zi_ldc 59 dX11_part_57 tw_1063 rfl ?_
          exact zr_int hZ dX11_part_59 rfl rfl ⟨_, rfl, _, by rw [r_part, if_neg zzO, nI_clamp hpj31, hsP, onS_s, if_neg (by rw [hk5]; decide)], ⟨_, N3.1, K⟩, N3.2⟩
        ·
          rw [hk5, show nI 2 = 2 from rfl]
          have zzK : kindI P = 2 ∨ kindI P = 3 := by rw [hk5]; decide
          refine zi_istore (lv' := [(4, _), (0, _), (1, _), (2, _), (3, _)]) 45 dX11_part_43 rfl rfl rfl ?_
          refine zi_iload 47 dX11_part_45 rfl rfl ?_
          refine zi_iconst (v := 2) 48 dX11_part_47 (by decide) rfl ?_
          refine zi_icmp_lt 51 57 dX11_part_48 (by decide) rfl (fun c_48 => absurd c_48 (by decide)) (fun c_48 => ?_)
          refine zi_iload 53 dX11_part_51 rfl rfl ?_
          refine zi_iconst (v := 4) 54 dX11_part_53 (by decide) rfl ?_
          refine zi_icmp_ne 57 60 dX11_part_54 (by decide) rfl (fun c_54 => ?_) (fun c_54 => absurd c_54 (by decide))
          refine zi_aload_n 61 dX11_part_60 rfl rfl ?_
          refine zi_bipush (v := 28) 63 dX11_part_61 (by decide) rfl ?_
          refine zi_iconst (v := 0) 64 dX11_part_63 (by decide) rfl ?_
          refine zc_virtual (n' := (0, 0)) (md' := mX11_copyOf) 67 dX11_part_64 tw_1079 zv_X11_copyOf zcl_X11 (s_X11_copyOf B h2 D hD _ N3.1 28 0 (by omega) (by omega) (by omega)) N3.1.1 rfl rfl rfl rfl rfl rfl rfl rfl (zk_v fun h4 n4 => ?_)
          have N4 := rN_t N3 n4
          obtain ⟨R5, N5, r0, r28⟩ : ∃ R, rN B D (uR m R) h h4 ∧ ro R 0 = z4i P ∧ ro R 28 = z4i P := ⟨_, N4, r0, r0⟩
          refine zi_aload_n 68 dX11_part_67 rfl rfl ?_
          refine zi_iconst (v := 0) 69 dX11_part_68 (by decide) rfl ?_
          refine zc_virtual (n' := (0, 0)) (md' := mX11_norm4) 72 dX11_part_69 tw_948 zv_X11_norm4 zcl_X11 (s_X11_norm4 B h4 D hD _ N5.1 0 (by omega)) N5.1.1 rfl rfl rfl rfl rfl rfl rfl rfl (zk_f ?_)
          rw [show zNm (ro (wR (uR m R5)) 0) = lN (nN P) from (congrArg zNm r0).trans (nN_z hVP)]
          refine zi_lstore (lv' := [(5, _), (4, _), (0, _), (1, _), (2, _), (3, _)]) 74 dX11_part_72 rfl rfl rfl ?_
          refine zi_iconst (v := 0) 75 dX11_part_74 (by decide) rfl ?_
          refine zi_istore (lv' := [(7, _), (5, _), (4, _), (0, _), (1, _), (2, _), (3, _)]) 77 dX11_part_75 rfl rfl rfl ?_
          refine zi_iconst (v := 0) 78 dX11_part_77 (by decide) rfl ?_
          refine zi_istore (lv' := [(8, _), (7, _), (5, _), (4, _), (0, _), (1, _), (2, _), (3, _)]) 80 dX11_part_78 rfl rfl rfl ?_
          have hok := V_pt hVP zzK
          refine zi_lv [0, 1, 2, 4, 5, 7] rfl (l_X11_part B h X D hD m ti i (ptD P) (fun c PE fo hL RE NL hE hlen hDc hF => ?_) 31 30 0 (nN P) P 0 h4 R5 (by decide) (by decide) N5 r28 hok (Nat.lt_of_le_of_lt (nN_le hVP) (by decide)) (fun t => rfl) (by rw [Nat.zero_add]; rfl) (Or.inr ⟨rfl, fun t ht => absurd ht (Nat.not_lt_zero _)⟩))
          have l31 : (ptD P).length ≤ 31 := ptL_len 30 P _
          refine zi_iload 214 dX11_part_212 rfl rfl ?_
          refine zi_iload_n 215 dX11_part_214 rfl rfl ?_
          refine zi_icmp_ne 218 229 dX11_part_215 (by decide) rfl (fun zzI => ?_) (fun zzI => ?_)
          ·
            rcases hF with ⟨rfl, t9, PE9, ht9, zzJ, hv, tF⟩ | ⟨rfl, hno⟩
            ·
              refine zi_iinc (v := nI (c + 1)) (lv' := [(7, _), (8, _), (0, _), (1, _), (3, _)]) 232 dX11_part_229 rfl (nI_1 _) rfl rfl rfl ?_
              refine zi_iload 234 dX11_part_232 rfl rfl ?_
              refine zi_if_ne 237 244 dX11_part_234 (by decide) rfl (fun c_234 => ?_) (fun c_234 => absurd c_234 (by decide))
              refine zi_aload_n 245 dX11_part_244 rfl rfl ?_
              refine zi_iload_n 246 dX11_part_245 rfl rfl ?_
              refine zi_bipush (v := 32) 248 dX11_part_246 (by decide) rfl ?_
              refine zc_virtual (n' := (0, 0)) (md' := mX11_hold) 251 dX11_part_248 tw_954 zv_X11_hold zcl_X11 (s_X11_hold B hL D hD _ NL.1 ti 32 (by omega) (by omega)) NL.1.1 rfl rfl rfl rfl rfl rfl rfl rfl (zk_v fun h6 n6 => ?_)
              have N6 := rN_t NL n6
              refine zi_aload_n 252 dX11_part_251 rfl rfl ?_
              refine zi_iload 254 dX11_part_252 rfl rfl ?_
              refine zc_virtual (n' := (0, 0)) (md' := mX11_well) 257 dX11_part_254 tw_916 zv_X11_well zcl_X11 (s_X11_well B h6 D hD _ N6.1 _) N6.1.1 rfl rfl rfl rfl rfl rfl rfl rfl (zk_i fun x7 h7 p7 => ?_)
              obtain ⟨rfl, n7⟩ := p7
              have N7 := rN_t N6 n7
              exact zr_int hZ dX11_part_257 rfl rfl ⟨_, rfl, _, by rw [r_part, if_neg zzO, nI_clamp hpj31, hsP, onS_s, if_pos zzK, if_neg (by rw [zzJ]; exact zout_in (by omega) (by omega)), nI_clamp hti31, zzJ, nI_clamp (show t9 < 2 ^ 31 by omega), hv, hlen], ⟨_, N7.1, mQ_F 0 (mQ_ho tF K)⟩, N7.2⟩
            ·
              have zzJ : zOut i (nI (ptD P).length) := by rw [hlen]; exact pt_out (by omega) (fun t ht => by rcases Nat.lt_or_ge t c with q | q <;> first | exact hno t q | (rw [show t = c by omega]; exact fun e => zzI e.symm))
              refine zi_iinc (v := nI (c + 1)) (lv' := [(7, _), (8, _), (0, _), (1, _), (3, _)]) 232 dX11_part_229 rfl (nI_1 _) rfl rfl rfl ?_
              refine zi_iload 234 dX11_part_232 rfl rfl ?_
              refine zi_if_ne 237 244 dX11_part_234 (by decide) rfl (fun c_234 => absurd c_234 (by decide)) (fun c_234 => ?_)
              refine zi_aload_n 238 dX11_part_237 rfl rfl ?_
              refine zi_ldc 240 dX11_part_238 tw_1034 rfl ?_
              refine zc_virtual (n' := (0, 0)) (md' := mX11_well) 243 dX11_part_240 tw_916 zv_X11_well zcl_X11 (s_X11_well B hL D hD _ NL.1 _) NL.1.1 rfl rfl rfl rfl rfl rfl rfl rfl (zk_i fun x8 h8 p8 => ?_)
              obtain ⟨rfl, n8⟩ := p8
              have N8 := rN_t NL n8
              exact zr_int hZ dX11_part_243 rfl rfl ⟨_, rfl, _, by rw [r_part, if_neg zzO, nI_clamp hpj31, hsP, onS_s, if_pos zzK, if_pos zzJ], ⟨_, N8.1, mQ_F 0 K⟩, N8.2⟩
          ·
            refine zi_aload_n 219 dX11_part_218 rfl rfl ?_
            refine zi_bipush (v := 32) 221 dX11_part_219 (by decide) rfl ?_
            refine zi_bipush (v := 28) 223 dX11_part_221 (by decide) rfl ?_
            refine zc_virtual (n' := (0, 0)) (md' := mX11_copyOf) 226 dX11_part_223 tw_1079 zv_X11_copyOf zcl_X11 (s_X11_copyOf B hL D hD _ NL.1 32 28 (by omega) (by omega) (by omega)) NL.1.1 rfl rfl rfl rfl rfl rfl rfl rfl (zk_v fun h9 n9 => ?_)
            have N9 := rN_t NL n9
            obtain ⟨RF, N10, tF⟩ : ∃ R, rN B D (uR m R) h h9 ∧ ro R 32 = z4i PE := ⟨_, N9, hE⟩
            have hv := hDc
            have zzJ := zzI.symm
            refine zi_iconst (v := 1) 227 dX11_part_226 (by decide) rfl ?_
            refine zi_istore (lv' := [(8, _), (7, _), (0, _), (1, _), (3, _)]) 229 dX11_part_227 rfl rfl rfl ?_
            refine zi_iinc (v := nI (c + 1)) (lv' := [(7, _), (8, _), (0, _), (1, _), (3, _)]) 232 dX11_part_229 rfl (nI_1 _) rfl rfl rfl ?_
            refine zi_iload 234 dX11_part_232 rfl rfl ?_
            refine zi_if_ne 237 244 dX11_part_234 (by decide) rfl (fun c_234 => ?_) (fun c_234 => absurd c_234 (by decide))
            refine zi_aload_n 245 dX11_part_244 rfl rfl ?_
            refine zi_iload_n 246 dX11_part_245 rfl rfl ?_
            refine zi_bipush (v := 32) 248 dX11_part_246 (by decide) rfl ?_
            refine zc_virtual (n' := (0, 0)) (md' := mX11_hold) 251 dX11_part_248 tw_954 zv_X11_hold zcl_X11 (s_X11_hold B h9 D hD _ N10.1 ti 32 (by omega) (by omega)) N10.1.1 rfl rfl rfl rfl rfl rfl rfl rfl (zk_v fun h11 n11 => ?_)
            have N11 := rN_t N10 n11
            refine zi_aload_n 252 dX11_part_251 rfl rfl ?_
            refine zi_iload 254 dX11_part_252 rfl rfl ?_
            refine zc_virtual (n' := (0, 0)) (md' := mX11_well) 257 dX11_part_254 tw_916 zv_X11_well zcl_X11 (s_X11_well B h11 D hD _ N11.1 _) N11.1.1 rfl rfl rfl rfl rfl rfl rfl rfl (zk_i fun x12 h12 p12 => ?_)
            obtain ⟨rfl, n12⟩ := p12
            have N12 := rN_t N11 n12
            exact zr_int hZ dX11_part_257 rfl rfl ⟨_, rfl, _, by rw [r_part, if_neg zzO, nI_clamp hpj31, hsP, onS_s, if_pos zzK, if_neg (by rw [zzJ]; exact zout_in (by omega) (by omega)), nI_clamp hti31, zzJ, nI_clamp (show c < 2 ^ 31 by omega), hv, hlen], ⟨_, N12.1, mQ_F 0 (mQ_ho tF K)⟩, N12.2⟩
        ·
          rw [hk5, show nI 3 = 3 from rfl]
          have zzK : kindI P = 2 ∨ kindI P = 3 := by rw [hk5]; decide
          refine zi_istore (lv' := [(4, _), (0, _), (1, _), (2, _), (3, _)]) 45 dX11_part_43 rfl rfl rfl ?_
          refine zi_iload 47 dX11_part_45 rfl rfl ?_
          refine zi_iconst (v := 2) 48 dX11_part_47 (by decide) rfl ?_
          refine zi_icmp_lt 51 57 dX11_part_48 (by decide) rfl (fun c_48 => absurd c_48 (by decide)) (fun c_48 => ?_)
          refine zi_iload 53 dX11_part_51 rfl rfl ?_
          refine zi_iconst (v := 4) 54 dX11_part_53 (by decide) rfl ?_
          refine zi_icmp_ne 57 60 dX11_part_54 (by decide) rfl (fun c_54 => ?_) (fun c_54 => absurd c_54 (by decide))
          refine zi_aload_n 61 dX11_part_60 rfl rfl ?_
          refine zi_bipush (v := 28) 63 dX11_part_61 (by decide) rfl ?_
          refine zi_iconst (v := 0) 64 dX11_part_63 (by decide) rfl ?_
          refine zc_virtual (n' := (0, 0)) (md' := mX11_copyOf) 67 dX11_part_64 tw_1079 zv_X11_copyOf zcl_X11 (s_X11_copyOf B h2 D hD _ N3.1 28 0 (by omega) (by omega) (by omega)) N3.1.1 rfl rfl rfl rfl rfl rfl rfl rfl (zk_v fun h13 n13 => ?_)
          have N13 := rN_t N3 n13
          obtain ⟨R14, N14, r0, r28⟩ : ∃ R, rN B D (uR m R) h h13 ∧ ro R 0 = z4i P ∧ ro R 28 = z4i P := ⟨_, N13, r0, r0⟩
          refine zi_aload_n 68 dX11_part_67 rfl rfl ?_
          refine zi_iconst (v := 0) 69 dX11_part_68 (by decide) rfl ?_
          refine zc_virtual (n' := (0, 0)) (md' := mX11_norm4) 72 dX11_part_69 tw_948 zv_X11_norm4 zcl_X11 (s_X11_norm4 B h13 D hD _ N14.1 0 (by omega)) N14.1.1 rfl rfl rfl rfl rfl rfl rfl rfl (zk_f ?_)
          rw [show zNm (ro (wR (uR m R14)) 0) = lN (nN P) from (congrArg zNm r0).trans (nN_z hVP)]
          refine zi_lstore (lv' := [(5, _), (4, _), (0, _), (1, _), (2, _), (3, _)]) 74 dX11_part_72 rfl rfl rfl ?_
          refine zi_iconst (v := 0) 75 dX11_part_74 (by decide) rfl ?_
          refine zi_istore (lv' := [(7, _), (5, _), (4, _), (0, _), (1, _), (2, _), (3, _)]) 77 dX11_part_75 rfl rfl rfl ?_
          refine zi_iconst (v := 0) 78 dX11_part_77 (by decide) rfl ?_
          refine zi_istore (lv' := [(8, _), (7, _), (5, _), (4, _), (0, _), (1, _), (2, _), (3, _)]) 80 dX11_part_78 rfl rfl rfl ?_
          have hok := V_pt hVP zzK
          refine zi_lv [0, 1, 2, 4, 5, 7] rfl (l_X11_part B h X D hD m ti i (ptD P) (fun c PE fo hL RE NL hE hlen hDc hF => ?_) 31 30 0 (nN P) P 0 h13 R14 (by decide) (by decide) N14 r28 hok (Nat.lt_of_le_of_lt (nN_le hVP) (by decide)) (fun t => rfl) (by rw [Nat.zero_add]; rfl) (Or.inr ⟨rfl, fun t ht => absurd ht (Nat.not_lt_zero _)⟩))
          have l31 : (ptD P).length ≤ 31 := ptL_len 30 P _
          refine zi_iload 214 dX11_part_212 rfl rfl ?_
          refine zi_iload_n 215 dX11_part_214 rfl rfl ?_
          refine zi_icmp_ne 218 229 dX11_part_215 (by decide) rfl (fun zzI => ?_) (fun zzI => ?_)
          ·
            rcases hF with ⟨rfl, t9, PE9, ht9, zzJ, hv, tF⟩ | ⟨rfl, hno⟩
            ·
              refine zi_iinc (v := nI (c + 1)) (lv' := [(7, _), (8, _), (0, _), (1, _), (3, _)]) 232 dX11_part_229 rfl (nI_1 _) rfl rfl rfl ?_
              refine zi_iload 234 dX11_part_232 rfl rfl ?_
              refine zi_if_ne 237 244 dX11_part_234 (by decide) rfl (fun c_234 => ?_) (fun c_234 => absurd c_234 (by decide))
              refine zi_aload_n 245 dX11_part_244 rfl rfl ?_
              refine zi_iload_n 246 dX11_part_245 rfl rfl ?_
              refine zi_bipush (v := 32) 248 dX11_part_246 (by decide) rfl ?_
              refine zc_virtual (n' := (0, 0)) (md' := mX11_hold) 251 dX11_part_248 tw_954 zv_X11_hold zcl_X11 (s_X11_hold B hL D hD _ NL.1 ti 32 (by omega) (by omega)) NL.1.1 rfl rfl rfl rfl rfl rfl rfl rfl (zk_v fun h15 n15 => ?_)
              have N15 := rN_t NL n15
              refine zi_aload_n 252 dX11_part_251 rfl rfl ?_
              refine zi_iload 254 dX11_part_252 rfl rfl ?_
              refine zc_virtual (n' := (0, 0)) (md' := mX11_well) 257 dX11_part_254 tw_916 zv_X11_well zcl_X11 (s_X11_well B h15 D hD _ N15.1 _) N15.1.1 rfl rfl rfl rfl rfl rfl rfl rfl (zk_i fun x16 h16 p16 => ?_)
              obtain ⟨rfl, n16⟩ := p16
              have N16 := rN_t N15 n16
              exact zr_int hZ dX11_part_257 rfl rfl ⟨_, rfl, _, by rw [r_part, if_neg zzO, nI_clamp hpj31, hsP, onS_s, if_pos zzK, if_neg (by rw [zzJ]; exact zout_in (by omega) (by omega)), nI_clamp hti31, zzJ, nI_clamp (show t9 < 2 ^ 31 by omega), hv, hlen], ⟨_, N16.1, mQ_F 0 (mQ_ho tF K)⟩, N16.2⟩
            ·
              have zzJ : zOut i (nI (ptD P).length) := by rw [hlen]; exact pt_out (by omega) (fun t ht => by rcases Nat.lt_or_ge t c with q | q <;> first | exact hno t q | (rw [show t = c by omega]; exact fun e => zzI e.symm))
              refine zi_iinc (v := nI (c + 1)) (lv' := [(7, _), (8, _), (0, _), (1, _), (3, _)]) 232 dX11_part_229 rfl (nI_1 _) rfl rfl rfl ?_
              refine zi_iload 234 dX11_part_232 rfl rfl ?_
              refine zi_if_ne 237 244 dX11_part_234 (by decide) rfl (fun c_234 => absurd c_234 (by decide)) (fun c_234 => ?_)
              refine zi_aload_n 238 dX11_part_237 rfl rfl ?_
              refine zi_ldc 240 dX11_part_238 tw_1034 rfl ?_
              refine zc_virtual (n' := (0, 0)) (md' := mX11_well) 243 dX11_part_240 tw_916 zv_X11_well zcl_X11 (s_X11_well B hL D hD _ NL.1 _) NL.1.1 rfl rfl rfl rfl rfl rfl rfl rfl (zk_i fun x17 h17 p17 => ?_)
              obtain ⟨rfl, n17⟩ := p17
              have N17 := rN_t NL n17
              exact zr_int hZ dX11_part_243 rfl rfl ⟨_, rfl, _, by rw [r_part, if_neg zzO, nI_clamp hpj31, hsP, onS_s, if_pos zzK, if_pos zzJ], ⟨_, N17.1, mQ_F 0 K⟩, N17.2⟩
          ·
            refine zi_aload_n 219 dX11_part_218 rfl rfl ?_
            refine zi_bipush (v := 32) 221 dX11_part_219 (by decide) rfl ?_
            refine zi_bipush (v := 28) 223 dX11_part_221 (by decide) rfl ?_
            refine zc_virtual (n' := (0, 0)) (md' := mX11_copyOf) 226 dX11_part_223 tw_1079 zv_X11_copyOf zcl_X11 (s_X11_copyOf B hL D hD _ NL.1 32 28 (by omega) (by omega) (by omega)) NL.1.1 rfl rfl rfl rfl rfl rfl rfl rfl (zk_v fun h18 n18 => ?_)
            have N18 := rN_t NL n18
            obtain ⟨RF, N19, tF⟩ : ∃ R, rN B D (uR m R) h h18 ∧ ro R 32 = z4i PE := ⟨_, N18, hE⟩
            have hv := hDc
            have zzJ := zzI.symm
            refine zi_iconst (v := 1) 227 dX11_part_226 (by decide) rfl ?_
            refine zi_istore (lv' := [(8, _), (7, _), (0, _), (1, _), (3, _)]) 229 dX11_part_227 rfl rfl rfl ?_
            refine zi_iinc (v := nI (c + 1)) (lv' := [(7, _), (8, _), (0, _), (1, _), (3, _)]) 232 dX11_part_229 rfl (nI_1 _) rfl rfl rfl ?_
            refine zi_iload 234 dX11_part_232 rfl rfl ?_
            refine zi_if_ne 237 244 dX11_part_234 (by decide) rfl (fun c_234 => ?_) (fun c_234 => absurd c_234 (by decide))
            refine zi_aload_n 245 dX11_part_244 rfl rfl ?_
            refine zi_iload_n 246 dX11_part_245 rfl rfl ?_
            refine zi_bipush (v := 32) 248 dX11_part_246 (by decide) rfl ?_
            refine zc_virtual (n' := (0, 0)) (md' := mX11_hold) 251 dX11_part_248 tw_954 zv_X11_hold zcl_X11 (s_X11_hold B h18 D hD _ N19.1 ti 32 (by omega) (by omega)) N19.1.1 rfl rfl rfl rfl rfl rfl rfl rfl (zk_v fun h20 n20 => ?_)
            have N20 := rN_t N19 n20
            refine zi_aload_n 252 dX11_part_251 rfl rfl ?_
            refine zi_iload 254 dX11_part_252 rfl rfl ?_
            refine zc_virtual (n' := (0, 0)) (md' := mX11_well) 257 dX11_part_254 tw_916 zv_X11_well zcl_X11 (s_X11_well B h20 D hD _ N20.1 _) N20.1.1 rfl rfl rfl rfl rfl rfl rfl rfl (zk_i fun x21 h21 p21 => ?_)
            obtain ⟨rfl, n21⟩ := p21
            have N21 := rN_t N20 n21
            exact zr_int hZ dX11_part_257 rfl rfl ⟨_, rfl, _, by rw [r_part, if_neg zzO, nI_clamp hpj31, hsP, onS_s, if_pos zzK, if_neg (by rw [zzJ]; exact zout_in (by omega) (by omega)), nI_clamp hti31, zzJ, nI_clamp (show c < 2 ^ 31 by omega), hv, hlen], ⟨_, N21.1, mQ_F 0 (mQ_ho tF K)⟩, N21.2⟩
        ·
          rw [hk5, show nI 4 = 4 from rfl]
          refine zi_istore (lv' := [(4, _), (0, _), (1, _), (2, _), (3, _)]) 45 dX11_part_43 rfl rfl rfl ?_
          refine zi_iload 47 dX11_part_45 rfl rfl ?_
          refine zi_iconst (v := 2) 48 dX11_part_47 (by decide) rfl ?_
          refine zi_icmp_lt 51 57 dX11_part_48 (by decide) rfl (fun c_48 => absurd c_48 (by decide)) (fun c_48 => ?_)
          refine zi_iload 53 dX11_part_51 rfl rfl ?_
          refine zi_iconst (v := 4) 54 dX11_part_53 (by decide) rfl ?_
          refine zi_icmp_ne 57 60 dX11_part_54 (by decide) rfl (fun c_54 => absurd c_54 (by decide)) (fun c_54 => ?_)
          refine zi_ldc 59 dX11_part_57 tw_1063 rfl ?_
          exact zr_int hZ dX11_part_59 rfl rfl ⟨_, rfl, _, by rw [r_part, if_neg zzO, nI_clamp hpj31, hsP, onS_s, if_neg (by rw [hk5]; decide)], ⟨_, N3.1, K⟩, N3.2⟩
    ·
      have zzB := Decidable.not_not.mp (fun q => zzB (in_20.mpr q))
      refine zi_ldc 16 dX11_part_14 tw_910 rfl ?_
      exact zr_int hZ dX11_part_16 rfl rfl ⟨_, rfl, _, by rw [r_part, if_pos (by first | exact Or.inl zzA | exact Or.inr (zzB))], ⟨m, N0.1, K⟩, N0.2⟩
