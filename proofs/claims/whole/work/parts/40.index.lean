/-! an INDEX is common in all directions -/
theorem wh_mx {P : i4} (hP : i4o P) (h : 0 < i4q P) : ¬ ∃ Q, i4o Q ∧ i4d P (wh P) = i4k 2 Q := by
  rintro ⟨Q, hQ, e⟩
  obtain ⟨w1, -, e2⟩ := wh_s hP h
  have hg := g4_pos h
  rw [e, i4k_k] at e2
  have c1 : P.1 = (wh P : Int) * 2 * Q.1 := congrArg (fun x : i4 => x.1) e2
  have c2 : P.2.1 = (wh P : Int) * 2 * Q.2.1 := congrArg (fun x : i4 => x.2.1) e2
  have c3 : P.2.2.1 = (wh P : Int) * 2 * Q.2.2.1 := congrArg (fun x : i4 => x.2.2.1) e2
  have c4 : P.2.2.2 = (wh P : Int) * 2 * Q.2.2.2 := congrArg (fun x : i4 => x.2.2.2) e2
  have hw : ((wh P * 2 : Nat) : Int) = (wh P : Int) * 2 := by omega
  have hd : wh P * 2 ∣ g4 P := g4_max (by rw [hw]; exact ⟨_, c1⟩) (by rw [hw]; exact ⟨_, c2⟩) (by rw [hw]; exact ⟨_, c3⟩) (by rw [hw]; exact ⟨_, c4⟩)
  by_cases hO : i4O (i4d P (g4 P))
  · have hwg : wh P = g4 P := by unfold wh; rw [if_pos hO]
    rw [hwg] at e
    rw [e] at hO
    apply hO.1
    show 2 * Q.1 % 2 = 0
    omega
  · have hwg : wh P = g4 P / 2 := by unfold wh; rw [if_neg hO]
    obtain ⟨k, hk⟩ := hd
    have hle := Nat.le_of_dvd hg ⟨k, hk⟩
    have hgw : g4 P = wh P * 2 := by
      rcases Nat.lt_or_ge k 2 with q | q
      · rcases Nat.lt_or_ge k 1 with r | r
        · rw [show k = 0 by omega, Nat.mul_zero] at hk
          omega
        · rw [show k = 1 by omega, Nat.mul_one] at hk
          exact hk
      · have := Nat.mul_le_mul_left (wh P * 2) q
        omega
    have hgi : (g4 P : Int) = (wh P : Int) * 2 := by omega
    have hne : (g4 P : Int) ≠ 0 := by omega
    have eQ : i4d P (g4 P) = Q := by
      obtain ⟨a, b, c, d⟩ := Q
      unfold i4d
      rw [c1, c2, c3, c4, ← hgi]
      dsimp only
      rw [Int.mul_ediv_cancel_left _ hne, Int.mul_ediv_cancel_left _ hne, Int.mul_ediv_cancel_left _ hne, Int.mul_ediv_cancel_left _ hne]
    rw [eQ] at hO
    obtain ⟨o1, o2, o3⟩ := hQ
    have ev : Q.1 % 2 = 0 := by
      rcases Int.emod_two_eq Q.1 with r | r
      · exact r
      · exact absurd ⟨by omega, by omega, by omega, by omega⟩ hO
    have two : ∀ {x y : Int}, y = (wh P : Int) * 2 * x → x % 2 = 0 → ((g4 P * 2 : Nat) : Int) ∣ y := fun {x y} hy h0 => ⟨x / 2, by
      have e3 : ((g4 P * 2 : Nat) : Int) = (g4 P : Int) * 2 := by omega
      rw [hy, e3, ← hgi]
      have e4 : x = 2 * (x / 2) := by omega
      generalize x / 2 = s at e4
      rw [e4]
      grind⟩
    have := Nat.le_of_dvd hg (g4_max (P := P) (d := g4 P * 2) (two c1 ev) (two c2 (o1 ▸ ev)) (two c3 (o2 ▸ ev)) (two c4 (o3 ▸ ev)))
    omega
theorem sq8 {x : Int} (h : x % 2 = 1) : ∃ k, x * x = 8 * k + 1 := by
  obtain ⟨y, hy⟩ : ∃ y, x = 2 * y + 1 := ⟨x / 2, by omega⟩
  have : ∃ k, y * y + y = 2 * k := by
    rcases Int.emod_two_eq y with q | q
    · exact ⟨(y / 2) * y + y / 2, by
        have e : y = 2 * (y / 2) := by omega
        generalize y / 2 = s at e
        rw [e]
        grind⟩
    · exact ⟨(y / 2) * y + y, by
        have e : y = 2 * (y / 2) + 1 := by omega
        generalize y / 2 = s at e
        rw [e]
        grind⟩
  obtain ⟨k, hk⟩ := this
  exact ⟨k, by rw [hy]; grind⟩
theorem sq2 (x : Int) : ∃ k, x * x = x + 2 * k := by
  obtain ⟨y, r, e, hr⟩ : ∃ y r, x = 2 * y + r ∧ (r = 0 ∨ r = 1) := ⟨x / 2, x % 2, by omega, by omega⟩
  rcases hr with q | q
  · exact ⟨2 * (y * y) - y, by rw [e, q]; grind⟩
  · exact ⟨2 * (y * y) + y, by rw [e, q]; grind⟩
theorem sq4 (x : Int) : (x % 2 = 0 → ∃ k, x * x = 4 * k) ∧ (x % 2 = 1 → ∃ k, x * x = 4 * k + 1) := by
  refine ⟨fun h => ⟨(x / 2) * (x / 2), ?_⟩, fun h => ?_⟩
  · have e : x = 2 * (x / 2) := by omega
    generalize x / 2 = s at e
    rw [e]
    grind
  · obtain ⟨k, hk⟩ := sq8 h
    exact ⟨2 * k, by omega⟩
/-- four divides a table's numbers; eight, too, if the NORM is even -/
theorem tab_4d {P : i4} (hP : i4o P) : (∀ i, (4 : Int) ∣ tabI P i) ∧ (i4n P % 2 = 0 → ∀ i, (8 : Int) ∣ tabI P i) ∧ ((¬ ∃ Q, i4o Q ∧ P = i4k 2 Q) → i4n P % 4 ≠ 0) := by
  have hq := i4q_4 hP
  obtain ⟨o1, o2, o3⟩ := hP
  rcases Int.emod_two_eq P.1 with q | q
  · obtain ⟨a, ea⟩ : ∃ a, P.1 = 2 * a := ⟨P.1 / 2, by omega⟩
    obtain ⟨b, eb⟩ : ∃ a, P.2.1 = 2 * a := ⟨P.2.1 / 2, by omega⟩
    obtain ⟨c, ec⟩ : ∃ a, P.2.2.1 = 2 * a := ⟨P.2.2.1 / 2, by omega⟩
    obtain ⟨d, ed⟩ : ∃ a, P.2.2.2 = 2 * a := ⟨P.2.2.2 / 2, by omega⟩
    have en : i4n P = a * a + b * b + c * c + d * d := by
      have : i4q P = 4 * (a * a + b * b + c * c + d * d) := by unfold i4q; rw [ea, eb, ec, ed]; grind
      omega
    obtain ⟨ka, ha⟩ := sq2 a
    obtain ⟨kb, hb⟩ := sq2 b
    obtain ⟨kc, hc⟩ := sq2 c
    obtain ⟨kd, hd⟩ := sq2 d
    refine ⟨fun i => ?_, fun h2 i => ?_, fun hn h4 => ?_⟩
    · unfold tabI
      rw [ea, eb, ec, ed]
      split
      · exact ⟨a * a + b * b - c * c - d * d, by grind⟩
      · exact ⟨2 * (b * c - a * d), by grind⟩
      · exact ⟨2 * (b * d + a * c), by grind⟩
      · exact ⟨2 * (b * c + a * d), by grind⟩
      · exact ⟨a * a - b * b + c * c - d * d, by grind⟩
      · exact ⟨2 * (c * d - a * b), by grind⟩
      · exact ⟨2 * (b * d - a * c), by grind⟩
      · exact ⟨2 * (c * d + a * b), by grind⟩
      · exact ⟨a * a - b * b - c * c + d * d, by grind⟩
    · obtain ⟨n, hn⟩ : ∃ n, a + b + c + d = 2 * n := ⟨(a + b + c + d) / 2, by omega⟩
      unfold tabI
      rw [ea, eb, ec, ed]
      split
      · exact ⟨n - c - d + ka + kb - kc - kd, by grind⟩
      · exact ⟨b * c - a * d, by grind⟩
      · exact ⟨b * d + a * c, by grind⟩
      · exact ⟨b * c + a * d, by grind⟩
      · exact ⟨n - b - d + ka - kb + kc - kd, by grind⟩
      · exact ⟨c * d - a * b, by grind⟩
      · exact ⟨b * d - a * c, by grind⟩
      · exact ⟨c * d + a * b, by grind⟩
      · exact ⟨n - b - c + ka - kb - kc + kd, by grind⟩
    · apply hn
      have ePQ : P = i4k 2 (a, b, c, d) := by
        obtain ⟨p1, p2, p3, p4⟩ := P
        dsimp only at ea eb ec ed
        rw [ea, eb, ec, ed]
        rfl
      refine ⟨(a, b, c, d), ?_, ePQ⟩
      have s : ∀ x : Int, ∃ k, (x % 2 = 0 ∧ x * x = 4 * k) ∨ (x % 2 = 1 ∧ x * x = 4 * k + 1) := fun x => by
        rcases Int.emod_two_eq x with r | r
        · obtain ⟨k, hk⟩ := (sq4 x).1 r
          exact ⟨k, Or.inl ⟨r, hk⟩⟩
        · obtain ⟨k, hk⟩ := (sq4 x).2 r
          exact ⟨k, Or.inr ⟨r, hk⟩⟩
      obtain ⟨k1, h1⟩ := s a
      obtain ⟨k2, h2⟩ := s b
      obtain ⟨k3, h3⟩ := s c
      obtain ⟨k5, h5⟩ := s d
      clear ha hb hc hd ePQ ea eb ec ed hq hn
      show a % 2 = b % 2 ∧ a % 2 = c % 2 ∧ a % 2 = d % 2
      omega
  · obtain ⟨ka, ha⟩ := sq8 q
    obtain ⟨kb, hb⟩ := sq8 (x := P.2.1) (by omega)
    obtain ⟨kc, hc⟩ := sq8 (x := P.2.2.1) (by omega)
    obtain ⟨kd, hd⟩ := sq8 (x := P.2.2.2) (by omega)
    have en : i4q P = 8 * (ka + kb + kc + kd) + 4 := by unfold i4q; omega
    have hm : ∀ {x y : Int}, x % 2 = 1 → y % 2 = 1 → ∃ k, x * y = 2 * k + 1 := fun {x y} hx hy => by
      obtain ⟨s, hs⟩ : ∃ s, x = 2 * s + 1 := ⟨x / 2, by omega⟩
      obtain ⟨t, ht⟩ : ∃ t, y = 2 * t + 1 := ⟨y / 2, by omega⟩
      exact ⟨2 * (s * t) + s + t, by rw [hs, ht]; grind⟩
    obtain ⟨m01, h01⟩ := hm (x := P.1) (y := P.2.1) q (by omega)
    obtain ⟨m02, h02⟩ := hm (x := P.1) (y := P.2.2.1) q (by omega)
    obtain ⟨m03, h03⟩ := hm (x := P.1) (y := P.2.2.2) q (by omega)
    obtain ⟨m12, h12⟩ := hm (x := P.2.1) (y := P.2.2.1) (by omega) (by omega)
    obtain ⟨m13, h13⟩ := hm (x := P.2.1) (y := P.2.2.2) (by omega) (by omega)
    obtain ⟨m23, h23⟩ := hm (x := P.2.2.1) (y := P.2.2.2) (by omega) (by omega)
    refine ⟨fun i => ?_, fun h2 => by omega, fun _ => by omega⟩
    unfold tabI
    rw [ha, hb, hc, hd, h01, h02, h03, h12, h13, h23]
    split
    · exact ⟨2 * (ka + kb - kc - kd), by omega⟩
    · exact ⟨m12 - m03, by omega⟩
    · exact ⟨m13 + m02 + 1, by omega⟩
    · exact ⟨m12 + m03 + 1, by omega⟩
    · exact ⟨2 * (ka - kb + kc - kd), by omega⟩
    · exact ⟨m23 - m01, by omega⟩
    · exact ⟨m13 - m02, by omega⟩
    · exact ⟨m23 + m01 + 1, by omega⟩
    · exact ⟨2 * (ka - kb - kc + kd), by omega⟩
theorem tab_k (m : Int) (P : i4) (i : Nat) : tabI (i4k m P) i = m * m * tabI P i := by
  unfold tabI i4k
  split <;> (dsimp only; grind)
theorem i4q_k (m : Int) (P : i4) : i4q (i4k m P) = m * m * i4q P := by
  unfold i4q i4k
  dsimp only
  grind
theorem zWf_2 {n : Nat} (hn : 1 ≤ n) (h4 : n % 4 ≠ 0) : zWf 64 2 n = if n % 2 = 0 then n / 2 else n := by
  rw [zWf]
  by_cases h : n % 2 = 0
  · rw [if_pos ⟨by omega, h⟩, if_pos h, zWf, if_neg (by omega)]
  · rw [if_neg (by omega), if_neg h]
theorem cl_ex {P : i4} (hV : i4V P) (h0 : i4q P ≠ 0) : 1 ≤ idx P ∧ cC (tabI P) (i4q P) (idx P) 0 0 ∧ cC (tabI P) (i4q P) 0 (idx P) 0 ∧ cC (tabI P) (i4q P) 0 0 (idx P) := by
  have hq := zqpos h0
  obtain ⟨w1, oQ, eP⟩ := wh_s hV.1 hq
  obtain ⟨en, np⟩ := wh_n hV.1 hq
  obtain ⟨t4, t8, tp⟩ := tab_4d oQ
  have hmx := tp (wh_mx hV.1 hq)
  have e1 : nN P / wh P / wh P = (i4n (i4d P (wh P))).toNat := by
    have h1 : nN P = wh P * (wh P * (i4n (i4d P (wh P))).toNat) := by
      have : (nN P : Int) = ((wh P * (wh P * (i4n (i4d P (wh P))).toNat) : Nat) : Int) := by
        rw [nN_i, en, Int.natCast_mul, Int.natCast_mul, Int.toNat_of_nonneg (by omega), Int.mul_assoc]
      omega
    rw [h1, Nat.mul_div_cancel_left _ w1, Nat.mul_div_cancel_left _ w1]
  obtain ⟨n, hn⟩ : ∃ n : Nat, i4n (i4d P (wh P)) = n := ⟨(i4n (i4d P (wh P))).toNat, by omega⟩
  have e2 : idx P = if n % 2 = 0 then n / 2 else n := by
    unfold idx
    rw [e1, hn, Int.toNat_natCast]
    exact zWf_2 (by omega) (by omega)
  have e3 : i4q P = wh P * wh P * (4 * n) := by
    have := i4q_4 hV.1
    rw [this, en, hn]
    grind
  have hdv : ∀ i, i4q P ∣ tabI P i * (idx P : Int) := fun i => by
    rw [e3]
    have e5 : tabI P i = wh P * wh P * tabI (i4d P (wh P)) i := by
      conv => lhs; rw [eP]
      exact tab_k _ _ _
    rw [e5, Int.mul_assoc ((wh P : Int) * (wh P : Int))]
    apply Int.mul_dvd_mul_left
    rw [e2]
    split
    · rename_i h
      obtain ⟨k, hk⟩ := t8 (by omega) i
      rw [hk]
      obtain ⟨m, hm⟩ : ∃ m, n = 2 * m := ⟨n / 2, by omega⟩
      rw [hm, show 2 * m / 2 = m by omega]
      exact ⟨k, by rw [Int.natCast_mul]; grind⟩
    · obtain ⟨k, hk⟩ := t4 i
      rw [hk]
      exact ⟨k, by grind⟩
  refine ⟨by rw [e2]; split <;> omega, ⟨?_, ?_, ?_⟩, ⟨?_, ?_, ?_⟩, ⟨?_, ?_, ?_⟩⟩ <;> (unfold cmI; simp only [Int.natCast_zero, Int.mul_zero, Int.add_zero, Int.zero_add]; exact hdv _)
