set_option maxHeartbeats 4000000 in
set_option maxRecDepth 100000 in
theorem l_X11_leastPrime (B : zBB) (h : zHp) (X : zX) (p : Nat) (h2 : 2 ≤ p) (hp : p < 2 ^ 31) (hZ : zIsP X mX11_leastPrime B (0, 0) (zPf (some (.long (lN (zLp p)))) h)) : ∀ (n : Nat) (d : Nat), p - d < n → (2 ≤ d) → (d ≤ p) → (∀ e, 2 ≤ e → e < d → p % e ≠ 0) → zG X mX11_leastPrime B (0, 0, 0) (0, 0) 4 [(2, .long (lN d)), (0, .long (lN p))] [] h := by
  intro n
  induction n with
  | zero => intro d hn; omega
  | succ n ih =>
    intro d hn hd hdn hf
    refine zi_lload_n 5 dX11_leastPrime_4 rfl rfl ?_
    refine zi_lload_n 6 dX11_leastPrime_5 rfl rfl ?_
    refine zi_lmul 7 dX11_leastPrime_6 rfl ?_
    rw [lN_mul]
    refine zi_lload_n 8 dX11_leastPrime_7 rfl rfl ?_
    refine zj_gt 12 29 dX11_leastPrime_8 rfl dX11_leastPrime_9 (by decide) rfl (fun zzS => ?_) (fun zzS => ?_)
    ·
      rw [pk_lLT (by omega) (zsq_lt (by omega))] at zzS
      refine zi_lload_n 30 dX11_leastPrime_29 rfl rfl ?_
      exact zr_long hZ dX11_leastPrime_30 rfl ⟨by rw [zLp_of (zLp_ex h2 hd hf zzS)], rfl⟩
    ·
      rw [pk_lLT (by omega) (zsq_lt (by omega))] at zzS
      refine zi_lload_n 13 dX11_leastPrime_12 rfl rfl ?_
      refine zi_lload_n 14 dX11_leastPrime_13 rfl rfl ?_
      refine zi_lrem 15 dX11_leastPrime_14 (fun e => by rw [show (0 : Int64) = lN 0 from rfl, pk_lEQ (by omega) (by omega)] at e; omega) rfl ?_
      rw [pk_lRem (by omega) (by omega) (by omega)]
      refine zi_lconst (v := 0) 16 dX11_leastPrime_15 (by decide) rfl ?_
      refine zj_ne 20 22 dX11_leastPrime_16 rfl dX11_leastPrime_17 (by decide) rfl (fun zzZ => ?_) (fun zzZ => ?_)
      ·
        rw [show (0 : Int64) = lN 0 from rfl, pk_lEQ (show p % d < 2 ^ 63 from Nat.lt_of_le_of_lt (Nat.mod_le _ _) (by omega)) (by omega)] at zzZ
        refine zi_lload_n 23 dX11_leastPrime_22 rfl rfl ?_
        refine zi_lconst (v := 1) 24 dX11_leastPrime_23 (by decide) rfl ?_
        refine zi_ladd 25 dX11_leastPrime_24 rfl ?_
        rw [lN_1]
        refine zi_lstore_n (lv' := [(2, _), (0, _)]) 26 dX11_leastPrime_25 rfl rfl rfl ?_
        refine zi_goto 4 dX11_leastPrime_26 (by decide) ?_
        exact zi_lv [0, 1] rfl (ih (d + 1) (by have := zd_1 hd (by omega : d * d ≤ p); omega) (by omega) (zd_1 hd (by omega)) (zf_1 hf zzZ))
      ·
        rw [show (0 : Int64) = lN 0 from rfl, pk_lEQ (show p % d < 2 ^ 63 from Nat.lt_of_le_of_lt (Nat.mod_le _ _) (by omega)) (by omega)] at zzZ
        refine zi_lload_n 21 dX11_leastPrime_20 rfl rfl ?_
        exact zr_long hZ dX11_leastPrime_21 rfl ⟨by rw [zLp_of ⟨hd, zzZ, hf⟩], rfl⟩

set_option maxHeartbeats 4000000 in
set_option maxRecDepth 100000 in
theorem s_X11_leastPrime (B : zBB) (h : zHp) (p : Nat) (h2 : 2 ≤ p) (hp : p < 2 ^ 31) : zSpec mX11_leastPrime B (0, 0, 0) [.long (lN p)] h (zPf (some (.long (lN (zLp p)))) h) := by
  refine zSpec.of (by decide) (Nat.le_of_ble_eq_true rfl) (fun X hZ => ?_)
  show zG X mX11_leastPrime B (0, 0, 0) (0, 0) 0 [(0, .long (lN p))] [] h
  refine zi_ldc2 3 dX11_leastPrime_0 tw_909 rfl ?_
  refine zi_lstore_n (lv' := [(2, _), (0, _)]) 4 dX11_leastPrime_3 rfl rfl rfl ?_
  exact l_X11_leastPrime B h X p h2 hp hZ (p + 1) 2 (by omega) (by omega) h2 (fun e h3 h4 => by omega)

set_option maxHeartbeats 4000000 in
set_option maxRecDepth 100000 in
theorem l_X10_leastPrime (B : zBB) (h : zHp) (X : zX) (p : Nat) (h2 : 2 ≤ p) (hp : p < 2 ^ 31) (hodd : p % 2 ≠ 0) (hZ : zIsP X mX10_leastPrime B (0, 0) (zPf (some (.long (lN (zLp p)))) h)) : ∀ (n : Nat) (d : Nat), p - d < n → (3 ≤ d) → (d ≤ p) → (d % 2 = 1) → (∀ e, 2 ≤ e → e < d → p % e ≠ 0) → zG X mX10_leastPrime B (0, 0, 0) (0, 0) 18 [(2, .long (lN d)), (0, .long (lN p))] [] h := by
  intro n
  induction n with
  | zero => intro d hn; omega
  | succ n ih =>
    intro d hn hd hdn ho hf
    refine zi_lload_n 19 dX10_leastPrime_18 rfl rfl ?_
    refine zi_lload_n 20 dX10_leastPrime_19 rfl rfl ?_
    refine zi_lmul 21 dX10_leastPrime_20 rfl ?_
    rw [lN_mul]
    refine zi_lload_n 22 dX10_leastPrime_21 rfl rfl ?_
    refine zj_gt 26 45 dX10_leastPrime_22 rfl dX10_leastPrime_23 (by decide) rfl (fun zzS => ?_) (fun zzS => ?_)
    ·
      rw [pk_lLT (by omega) (zsq_lt (by omega))] at zzS
      refine zi_lload_n 46 dX10_leastPrime_45 rfl rfl ?_
      exact zr_long hZ dX10_leastPrime_46 rfl ⟨by rw [zLp_of (zLp_ex h2 (by omega) hf zzS)], rfl⟩
    ·
      rw [pk_lLT (by omega) (zsq_lt (by omega))] at zzS
      refine zi_lload_n 27 dX10_leastPrime_26 rfl rfl ?_
      refine zi_lload_n 28 dX10_leastPrime_27 rfl rfl ?_
      refine zi_lrem 29 dX10_leastPrime_28 (fun e => by rw [show (0 : Int64) = lN 0 from rfl, pk_lEQ (by omega) (by omega)] at e; omega) rfl ?_
      rw [pk_lRem (by omega) (by omega) (by omega)]
      refine zi_lconst (v := 0) 30 dX10_leastPrime_29 (by decide) rfl ?_
      refine zj_ne 34 36 dX10_leastPrime_30 rfl dX10_leastPrime_31 (by decide) rfl (fun zzZ => ?_) (fun zzZ => ?_)
      ·
        rw [show (0 : Int64) = lN 0 from rfl, pk_lEQ (show p % d < 2 ^ 63 from Nat.lt_of_le_of_lt (Nat.mod_le _ _) (by omega)) (by omega)] at zzZ
        refine zi_lload_n 37 dX10_leastPrime_36 rfl rfl ?_
        refine zi_ldc2 40 dX10_leastPrime_37 tw_459 rfl ?_
        refine zi_ladd 41 dX10_leastPrime_40 rfl ?_
        rw [show (2 : Int64) = lN 2 from rfl, lN_add]
        refine zi_lstore_n (lv' := [(2, _), (0, _)]) 42 dX10_leastPrime_41 rfl rfl rfl ?_
        refine zi_goto 18 dX10_leastPrime_42 (by decide) ?_
        exact zi_lv [0, 1] rfl (ih (d + 2) (by have := zd_2 hd (by omega : d * d ≤ p); omega) (by omega) (zd_2 hd (by omega)) (by omega) (zf_2 hodd ho hf zzZ))
      ·
        rw [show (0 : Int64) = lN 0 from rfl, pk_lEQ (show p % d < 2 ^ 63 from Nat.lt_of_le_of_lt (Nat.mod_le _ _) (by omega)) (by omega)] at zzZ
        refine zi_lload_n 35 dX10_leastPrime_34 rfl rfl ?_
        exact zr_long hZ dX10_leastPrime_35 rfl ⟨by rw [zLp_of ⟨by omega, zzZ, hf⟩], rfl⟩

set_option maxHeartbeats 4000000 in
set_option maxRecDepth 100000 in
theorem s_X10_leastPrime (B : zBB) (h : zHp) (p : Nat) (h2 : 2 ≤ p) (hp : p < 2 ^ 31) : zSpec mX10_leastPrime B (0, 0, 0) [.long (lN p)] h (zPf (some (.long (lN (zLp p)))) h) := by
  refine zSpec.of (by decide) (Nat.le_of_ble_eq_true rfl) (fun X hZ => ?_)
  show zG X mX10_leastPrime B (0, 0, 0) (0, 0) 0 [(0, .long (lN p))] [] h
  refine zi_lload_n 1 dX10_leastPrime_0 rfl rfl ?_
  refine zi_ldc2 4 dX10_leastPrime_1 tw_459 rfl ?_
  refine zi_lrem 5 dX10_leastPrime_4 (by decide) rfl ?_
  rw [show (2 : Int64) = lN 2 from rfl, pk_lRem (by omega) (by omega) (by omega)]
  refine zi_lconst (v := 0) 6 dX10_leastPrime_5 (by decide) rfl ?_
  refine zj_ne 10 14 dX10_leastPrime_6 rfl dX10_leastPrime_7 (by decide) rfl (fun zzZ => ?_) (fun zzZ => ?_)
  ·
    rw [show (0 : Int64) = lN 0 from rfl, pk_lEQ (show p % 2 < 2 ^ 63 by omega) (by omega)] at zzZ
    refine zi_ldc2 17 dX10_leastPrime_14 tw_460 rfl ?_
    refine zi_lstore_n (lv' := [(2, _), (0, _)]) 18 dX10_leastPrime_17 rfl rfl rfl ?_
    have hp3 : 3 ≤ p := by omega
    exact l_X10_leastPrime B h X p h2 hp zzZ hZ (p + 1) 3 (by omega) (by omega) hp3 (by omega) (fun e h3 h4 => by rw [show e = 2 by omega]; exact zzZ)
  ·
    rw [show (0 : Int64) = lN 0 from rfl, pk_lEQ (show p % 2 < 2 ^ 63 by omega) (by omega)] at zzZ
    refine zi_ldc2 13 dX10_leastPrime_10 tw_459 rfl ?_
    exact zr_long hZ dX10_leastPrime_13 rfl ⟨by rw [zLp_of (p := 2) ⟨by omega, zzZ, fun e h3 h4 => by omega⟩]; rfl, rfl⟩

set_option maxHeartbeats 4000000 in
set_option maxRecDepth 100000 in
theorem l_X11_isPrime (B : zBB) (h : zHp) (X : zX) (p : Nat) (h2 : 2 ≤ p) (hp : p < 2 ^ 31) (hZ : zIsP X mX11_isPrime B (0, 0) (zPf (some (.int (if zLp p = p then 1 else 0))) h)) : ∀ (n : Nat) (d : Nat), p - d < n → (2 ≤ d) → (d ≤ p) → (∀ e, 2 ≤ e → e < d → p % e ≠ 0) → zG X mX11_isPrime B (0, 0, 0) (0, 0) 14 [(2, .long (lN d)), (0, .long (lN p))] [] h := by
  intro n
  induction n with
  | zero => intro d hn; omega
  | succ n ih =>
    intro d hn hd hdn hf
    refine zi_lload_n 15 dX11_isPrime_14 rfl rfl ?_
    refine zi_lload_n 16 dX11_isPrime_15 rfl rfl ?_
    refine zi_lmul 17 dX11_isPrime_16 rfl ?_
    rw [lN_mul]
    refine zi_lload_n 18 dX11_isPrime_17 rfl rfl ?_
    refine zj_gt 22 39 dX11_isPrime_18 rfl dX11_isPrime_19 (by decide) rfl (fun zzS => ?_) (fun zzS => ?_)
    ·
      rw [pk_lLT (by omega) (zsq_lt (by omega))] at zzS
      refine zi_iconst (v := 1) 40 dX11_isPrime_39 (by decide) rfl ?_
      exact zr_int hZ dX11_isPrime_40 rfl (by decide) ⟨by rw [if_pos (zLp_of (zLp_ex h2 hd hf zzS))], rfl⟩
    ·
      rw [pk_lLT (by omega) (zsq_lt (by omega))] at zzS
      refine zi_lload_n 23 dX11_isPrime_22 rfl rfl ?_
      refine zi_lload_n 24 dX11_isPrime_23 rfl rfl ?_
      refine zi_lrem 25 dX11_isPrime_24 (fun e => by rw [show (0 : Int64) = lN 0 from rfl, pk_lEQ (by omega) (by omega)] at e; omega) rfl ?_
      rw [pk_lRem (by omega) (by omega) (by omega)]
      refine zi_lconst (v := 0) 26 dX11_isPrime_25 (by decide) rfl ?_
      refine zj_ne 30 32 dX11_isPrime_26 rfl dX11_isPrime_27 (by decide) rfl (fun zzZ => ?_) (fun zzZ => ?_)
      ·
        rw [show (0 : Int64) = lN 0 from rfl, pk_lEQ (show p % d < 2 ^ 63 from Nat.lt_of_le_of_lt (Nat.mod_le _ _) (by omega)) (by omega)] at zzZ
        refine zi_lload_n 33 dX11_isPrime_32 rfl rfl ?_
        refine zi_lconst (v := 1) 34 dX11_isPrime_33 (by decide) rfl ?_
        refine zi_ladd 35 dX11_isPrime_34 rfl ?_
        rw [lN_1]
        refine zi_lstore_n (lv' := [(2, _), (0, _)]) 36 dX11_isPrime_35 rfl rfl rfl ?_
        refine zi_goto 14 dX11_isPrime_36 (by decide) ?_
        exact zi_lv [0, 1] rfl (ih (d + 1) (by have := zd_1 hd (by omega : d * d ≤ p); omega) (by omega) (zd_1 hd (by omega)) (zf_1 hf zzZ))
      ·
        rw [show (0 : Int64) = lN 0 from rfl, pk_lEQ (show p % d < 2 ^ 63 from Nat.lt_of_le_of_lt (Nat.mod_le _ _) (by omega)) (by omega)] at zzZ
        refine zi_iconst (v := 0) 31 dX11_isPrime_30 (by decide) rfl ?_
        exact zr_int hZ dX11_isPrime_31 rfl (by decide) ⟨by rw [if_neg (by rw [zLp_of ⟨hd, zzZ, hf⟩]; intro q; have := zd_1 hd (by omega : d * d ≤ p); omega)], rfl⟩

set_option maxHeartbeats 4000000 in
set_option maxRecDepth 100000 in
theorem s_X11_isPrime (B : zBB) (h : zHp) (p : Nat) (h2 : 2 ≤ p) (hp : p < 2 ^ 31) : zSpec mX11_isPrime B (0, 0, 0) [.long (lN p)] h (zPf (some (.int (if zLp p = p then 1 else 0))) h) := by
  refine zSpec.of (by decide) (Nat.le_of_ble_eq_true rfl) (fun X hZ => ?_)
  show zG X mX11_isPrime B (0, 0, 0) (0, 0) 0 [(0, .long (lN p))] [] h
  refine zi_lload_n 1 dX11_isPrime_0 rfl rfl ?_
  refine zi_ldc2 4 dX11_isPrime_1 tw_909 rfl ?_
  refine zj_ge 8 10 dX11_isPrime_4 rfl dX11_isPrime_5 (by decide) rfl (fun c_5 => ?_) (fun c_5 => absurd (by rw [show (2 : Int64) = lN 2 from rfl, pk_lLE (by omega) (by omega)]; exact h2) c_5)
  refine zi_ldc2 13 dX11_isPrime_10 tw_909 rfl ?_
  refine zi_lstore_n (lv' := [(2, _), (0, _)]) 14 dX11_isPrime_13 rfl rfl rfl ?_
  exact l_X11_isPrime B h X p h2 hp hZ (p + 1) 2 (by omega) (by omega) h2 (fun e h3 h4 => by omega)

set_option maxHeartbeats 4000000 in
set_option maxRecDepth 100000 in
theorem l_X11_root (B : zBB) (h : zHp) (X : zX) (p : Nat) (hp : p < 2 ^ 30) (hZ : zIsP X mX11_root B (0, 0) (zPf (some (.long (lN (zSq2 p)))) h)) : ∀ (n : Nat) (v : Nat), p - v < n → (v * v ≤ p) → zG X mX11_root B (0, 0, 0) (0, 0) 2 [(2, .long (lN v)), (0, .long (lN p))] [] h := by
  intro n
  induction n with
  | zero => intro v hn; omega
  | succ n ih =>
    intro v hn hv
    refine zi_lload_n 3 dX11_root_2 rfl rfl ?_
    refine zi_lconst (v := 1) 4 dX11_root_3 (by decide) rfl ?_
    refine zi_ladd 5 dX11_root_4 rfl ?_
    refine zi_lload_n 6 dX11_root_5 rfl rfl ?_
    refine zi_lconst (v := 1) 7 dX11_root_6 (by decide) rfl ?_
    refine zi_ladd 8 dX11_root_7 rfl ?_
    refine zi_lmul 9 dX11_root_8 rfl ?_
    rw [lN_1, lN_mul]
    refine zi_lload_n 10 dX11_root_9 rfl rfl ?_
    refine zj_gt 14 21 dX11_root_10 rfl dX11_root_11 (by decide) rfl (fun zzS => ?_) (fun zzS => ?_)
    ·
      rw [pk_lLT (by omega) (zsq_lt (by have := zrt_le hv; omega))] at zzS
      refine zi_lload_n 22 dX11_root_21 rfl rfl ?_
      exact zr_long hZ dX11_root_22 rfl ⟨by rw [zSq2_of ⟨hv, zzS⟩], rfl⟩
    ·
      rw [pk_lLT (by omega) (zsq_lt (by have := zrt_le hv; omega))] at zzS
      refine zi_lload_n 15 dX11_root_14 rfl rfl ?_
      refine zi_lconst (v := 1) 16 dX11_root_15 (by decide) rfl ?_
      refine zi_ladd 17 dX11_root_16 rfl ?_
      rw [lN_1]
      refine zi_lstore_n (lv' := [(2, _), (0, _)]) 18 dX11_root_17 rfl rfl rfl ?_
      refine zi_goto 2 dX11_root_18 (by decide) ?_
      exact zi_lv [0, 1] rfl (ih (v + 1) (by have := zrt_le (by omega : (v + 1) * (v + 1) ≤ p); omega) (by omega))

set_option maxHeartbeats 4000000 in
set_option maxRecDepth 100000 in
theorem s_X11_root (B : zBB) (h : zHp) (p : Nat) (hp : p < 2 ^ 30) : zSpec mX11_root B (0, 0, 0) [.long (lN p)] h (zPf (some (.long (lN (zSq2 p)))) h) := by
  refine zSpec.of (by decide) (Nat.le_of_ble_eq_true rfl) (fun X hZ => ?_)
  show zG X mX11_root B (0, 0, 0) (0, 0) 0 [(0, .long (lN p))] [] h
  refine zi_lconst (v := 0) 1 dX11_root_0 (by decide) rfl ?_
  refine zi_lstore_n (lv' := [(2, _), (0, _)]) 2 dX11_root_1 rfl rfl rfl ?_
  exact l_X11_root B h X p hp hZ (p + 1) 0 (by omega) (by omega)

set_option maxHeartbeats 4000000 in
set_option maxRecDepth 100000 in
theorem l_X10_withoutFactor (B : zBB) (h : zHp) (X : zX) (p : Nat) (hp : p < 2 ^ 63) (f : Nat) (hf2 : 2 ≤ f) (hf : f < 2 ^ 31) (hZ : zIsP X mX10_withoutFactor B (0, 0) (zPf (some (.long (lN (zWf 64 f p)))) h)) : ∀ (n : Nat) (c i : Nat), 64 - i < n → (i ≤ 64) → (c < 2 ^ 63) → (zWf (64 - i) f c = zWf 64 f p) → zG X mX10_withoutFactor B (0, 0, 0) (0, 0) 11 [(5, .int (nI i)), (3, .long (lN c)), (0, .long (lN p)), (2, .int (nI f))] [] h := by
  intro n
  induction n with
  | zero => intro c i hn; omega
  | succ n ih =>
    intro c i hn hi hc hw
    refine zi_iload 13 dX10_withoutFactor_11 rfl rfl ?_
    refine zi_bipush (v := 64) 15 dX10_withoutFactor_13 (by decide) rfl ?_
    refine zi_icmp_ge 18 44 dX10_withoutFactor_15 (by decide) rfl (fun zzS => ?_) (fun zzS => ?_)
    ·
      rw [show (64 : Int32) = nI 64 from rfl, nI_leI (by omega) (by omega)] at zzS
      refine zi_lload_n 45 dX10_withoutFactor_44 rfl rfl ?_
      exact zr_long hZ dX10_withoutFactor_45 rfl ⟨by first | (rw [show 64 - i = 0 by omega, zWf] at hw; rw [hw]; done) | (rw [zWf, if_neg (fun q => q.1 zz0)] at hw; rw [hw]; done) | (rw [zWf, if_neg (fun q => zzR q.2)] at hw; rw [hw]; done), rfl⟩
    ·
      rw [show (64 : Int32) = nI 64 from rfl, nI_leI (by omega) (by omega)] at zzS
      obtain ⟨k, hk⟩ : ∃ k, 64 - i = k + 1 := ⟨63 - i, by omega⟩
      rw [hk] at hw
      refine zi_lload_n 19 dX10_withoutFactor_18 rfl rfl ?_
      refine zi_lconst (v := 0) 20 dX10_withoutFactor_19 (by decide) rfl ?_
      refine zj_eq 24 44 dX10_withoutFactor_20 rfl dX10_withoutFactor_21 (by decide) rfl (fun zz0 => ?_) (fun zz0 => ?_)
      ·
        rw [show (0 : Int64) = lN 0 from rfl, pk_lEQ hc (by omega)] at zz0
        refine zi_lload_n 45 dX10_withoutFactor_44 rfl rfl ?_
        exact zr_long hZ dX10_withoutFactor_45 rfl ⟨by first | (rw [show 64 - i = 0 by omega, zWf] at hw; rw [hw]; done) | (rw [zWf, if_neg (fun q => q.1 zz0)] at hw; rw [hw]; done) | (rw [zWf, if_neg (fun q => zzR q.2)] at hw; rw [hw]; done), rfl⟩
      ·
        rw [show (0 : Int64) = lN 0 from rfl, pk_lEQ hc (by omega)] at zz0
        refine zi_lload_n 25 dX10_withoutFactor_24 rfl rfl ?_
        refine zi_iload_n 26 dX10_withoutFactor_25 rfl rfl ?_
        refine zi_i2l 27 dX10_withoutFactor_26 rfl ?_
        refine zi_lrem 28 dX10_withoutFactor_27 (fun e => by rw [nI_l hf, show (0 : Int64) = lN 0 from rfl, pk_lEQ (by omega) (by omega)] at e; omega) rfl ?_
        rw [nI_l hf, pk_lRem hc (by omega) (by omega)]
        refine zi_lconst (v := 0) 29 dX10_withoutFactor_28 (by decide) rfl ?_
        refine zj_ne 33 44 dX10_withoutFactor_29 rfl dX10_withoutFactor_30 (by decide) rfl (fun zzR => ?_) (fun zzR => ?_)
        ·
          rw [show (0 : Int64) = lN 0 from rfl, pk_lEQ (Nat.lt_of_le_of_lt (Nat.mod_le _ _) hc) (by omega)] at zzR
          refine zi_lload_n 45 dX10_withoutFactor_44 rfl rfl ?_
          exact zr_long hZ dX10_withoutFactor_45 rfl ⟨by first | (rw [show 64 - i = 0 by omega, zWf] at hw; rw [hw]; done) | (rw [zWf, if_neg (fun q => q.1 zz0)] at hw; rw [hw]; done) | (rw [zWf, if_neg (fun q => zzR q.2)] at hw; rw [hw]; done), rfl⟩
        ·
          rw [show (0 : Int64) = lN 0 from rfl, pk_lEQ (Nat.lt_of_le_of_lt (Nat.mod_le _ _) hc) (by omega)] at zzR
          refine zi_lload_n 34 dX10_withoutFactor_33 rfl rfl ?_
          refine zi_iload_n 35 dX10_withoutFactor_34 rfl rfl ?_
          refine zi_i2l 36 dX10_withoutFactor_35 rfl ?_
          refine zi_ldiv 37 dX10_withoutFactor_36 (fun e => by rw [nI_l hf, show (0 : Int64) = lN 0 from rfl, pk_lEQ (by omega) (by omega)] at e; omega) rfl ?_
          rw [nI_l hf, pk_lDiv hc (by omega) (by omega)]
          refine zi_lstore_n (lv' := [(3, _), (5, _), (0, _), (2, _)]) 38 dX10_withoutFactor_37 rfl rfl rfl ?_
          refine zi_iinc (lv' := [(5, _), (3, _), (0, _), (2, _)]) 41 dX10_withoutFactor_38 rfl rfl rfl rfl rfl ?_
          refine zi_goto 11 dX10_withoutFactor_41 (by decide) ?_
          rw [show nI i + Int32.ofInt 1 = nI (i + 1) from nI_1 i]
          exact zi_lv [0, 1, 2, 3] rfl (ih (c / f) (i + 1) (by omega) (by omega) (Nat.lt_of_le_of_lt (Nat.div_le_self _ _) hc) (by rw [← hw, show 64 - (i + 1) = k by omega, zWf, if_pos ⟨zz0, zzR⟩]))

set_option maxHeartbeats 4000000 in
set_option maxRecDepth 100000 in
theorem s_X10_withoutFactor (B : zBB) (h : zHp) (p : Nat) (hp : p < 2 ^ 63) (f : Nat) (hf2 : 2 ≤ f) (hf : f < 2 ^ 31) : zSpec mX10_withoutFactor B (0, 0, 0) [.long (lN p), .int (nI f)] h (zPf (some (.long (lN (zWf 64 f p)))) h) := by
  refine zSpec.of (by decide) (Nat.le_of_ble_eq_true rfl) (fun X hZ => ?_)
  show zG X mX10_withoutFactor B (0, 0, 0) (0, 0) 0 [(0, .long (lN p)), (2, .int (nI f))] [] h
  refine zi_iload_n 1 dX10_withoutFactor_0 rfl rfl ?_
  refine zi_if_ne 4 6 dX10_withoutFactor_1 (by decide) rfl (fun c_1 => ?_) (fun c_1 => absurd c_1 (nI_ne0 (by omega) hf))
  refine zi_lload_n 7 dX10_withoutFactor_6 rfl rfl ?_
  refine zi_lstore_n (lv' := [(3, _), (0, _), (2, _)]) 8 dX10_withoutFactor_7 rfl rfl rfl ?_
  refine zi_iconst (v := 0) 9 dX10_withoutFactor_8 (by decide) rfl ?_
  refine zi_istore (lv' := [(5, _), (3, _), (0, _), (2, _)]) 11 dX10_withoutFactor_9 rfl rfl rfl ?_
  exact zi_lv [0, 1, 2, 3] rfl (l_X10_withoutFactor B h X p hp f hf2 hf hZ 65 p 0 (by omega) (by omega) hp rfl)
