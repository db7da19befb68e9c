theorem zBt_i (F T : i4) (n : Int) : zBt (z4i F) (z4i T) (iz n) = iz (i4S F T n) := by
  unfold zBt z4i i4S
  simp only [iz_mul, iz_sub, iz_add]
abbrev i4W (F T : i4) (n : Int) : Prop := (-n ≤ F.1 - T.1 * n ∧ F.1 - T.1 * n < n) ∧ (-n ≤ F.2.1 - T.2.1 * n ∧ F.2.1 - T.2.1 * n < n) ∧ (-n ≤ F.2.2.1 - T.2.2.1 * n ∧ F.2.2.1 - T.2.2.1 * n < n) ∧ (-n ≤ F.2.2.2 - T.2.2.2 * n ∧ F.2.2.2 - T.2.2.2 * n < n)
theorem zE_b4 {F : i4} {n : Int} (h : 0 < n) : i4W F (i4E F n) n := ⟨zE_b h, zE_b h, zE_b h, zE_b h⟩
theorem zH_b4 {F : i4} {n : Int} (h : 0 < n) : i4W F (i4H F n) n := ⟨zH_b h, zH_b h, zH_b h, zH_b h⟩
theorem zBt_b {F T : i4} {n : Int} (h : i4W F T n) (hn : 0 < n) (hn2 : n ≤ 1000000000) : iB (i4S F T n) := by
  obtain ⟨⟨a1, a2⟩, ⟨b1, b2⟩, ⟨c1, c2⟩, d1, d2⟩ := h
  have e1 := zb_mul (x := F.1 - T.1 * n) (y := F.1 - T.1 * n) (a := 1000000000) (b := 1000000000) (by omega) (by omega)
  have e2 := zb_mul (x := F.2.1 - T.2.1 * n) (y := F.2.1 - T.2.1 * n) (a := 1000000000) (b := 1000000000) (by omega) (by omega)
  have e3 := zb_mul (x := F.2.2.1 - T.2.2.1 * n) (y := F.2.2.1 - T.2.2.1 * n) (a := 1000000000) (b := 1000000000) (by omega) (by omega)
  have e4 := zb_mul (x := F.2.2.2 - T.2.2.2 * n) (y := F.2.2.2 - T.2.2.2 * n) (a := 1000000000) (b := 1000000000) (by omega) (by omega)
  unfold i4S
  generalize (F.1 - T.1 * n) * (F.1 - T.1 * n) = x1 at e1 ⊢
  generalize (F.2.1 - T.2.1 * n) * (F.2.1 - T.2.1 * n) = x2 at e2 ⊢
  generalize (F.2.2.1 - T.2.2.1 * n) * (F.2.2.1 - T.2.2.1 * n) = x3 at e3 ⊢
  generalize (F.2.2.2 - T.2.2.2 * n) * (F.2.2.2 - T.2.2.2 * n) = x4 at e4 ⊢
  omega
theorem lN_nm {n : Nat} (h : n < 9223372036854775808) : zNm1 (lN n) := by
  rw [iz_lN]
  exact iz_nm (by omega)
theorem dv_gcd {x : Nat} {y : Int} (hx : x < 9223372036854775808) (hy : y.natAbs < 9223372036854775808) : zGcd (lN x) (iz y) = lN (Nat.gcd x y.natAbs) := by
  rw [iz_lN, gcd_iz (by omega) hy]
  rfl
theorem dv_gcd2 {P Q : i4} {s : Int32} (hx : g4 (dvU P Q s) < 9223372036854775808) (hy : (i4n Q).natAbs < 9223372036854775808) : zGcd (lN (g4 (dvU P Q s))) (iz (i4n Q)) = lN (dvG P Q s) := dv_gcd hx hy
theorem dv_d {P Q : i4} {s : Int32} {a : Nat} (h : i4l (dvU P Q s) a) (hg : dvG P Q s < 9223372036854775808) (ha : a < 9223372036854775808 := by decide) : zDiv (z4i (dvU P Q s)) (lN (dvG P Q s)) = z4i (dvu P Q s) := by
  have h1 : (dvG P Q s : Int) ∣ (g4 (dvU P Q s) : Int) := Int.ofNat_dvd.mpr (Nat.gcd_dvd_left _ _)
  obtain ⟨d1, d2, d3, d4⟩ := g4_dvd (dvU P Q s)
  exact z4i_d h ha hg (Int.dvd_trans h1 d1) (Int.dvd_trans h1 d2) (Int.dvd_trans h1 d3) (Int.dvd_trans h1 d4)
theorem iz_lN_div {P Q : i4} {s : Int32} (h : 0 < i4n Q) (hG : (0 : Int) < dvG P Q s ∧ (dvG P Q s : Int) < 9223372036854775808) (hb : i4n Q < 9223372036854775808 := by omega) : iz (i4n Q) / lN (dvG P Q s) = iz (dvn P Q s) := by
  rw [iz_lN, iz_div (by omega) (by omega) (by omega), Int.tdiv_eq_ediv_of_nonneg (by omega)]
  rfl
