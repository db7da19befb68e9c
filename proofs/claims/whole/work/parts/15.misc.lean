/-! more rows: lengths, ldc_w, a copy of longs; small facts of places -/
section ZM
variable {X : zX} {md : zMD} {B : zBB} {rm : Nat × Nat × Nat} {n : Nat × Nat} {pc : Nat} {lv : List (Nat × Value)} {st : List Value} {h : zHp}
theorem zi_alenI {a nn : Nat} {f : Nat → Int32} {v : Int32} (q : Nat) (d : decode md.2.1 pc = .ok (.arraylength, 1)) (ha : h a = some (zI B nn f)) (hv : Int32.ofNat nn = v) (hq : pc + 1 = q) (kk : zG X md B rm n q lv (.int v :: st) h) : zG X md B rm n pc lv (.ref a :: st) h := by
  subst hq
  intro g ls H locs hl hw hs
  obtain ⟨L, p, -, hP, hD, hkk, -⟩ := zWd_get hw ha
  exact va_alen (D := B.1) g.1 g.2.1 g.2.2.2.2.2.1.1 hP p 0 hkk (ty := .int) rfl hv d (kk g ls H locs hl hw hs)
theorem zi_alenJ {a nn : Nat} {f : Nat → Int64} {v : Int32} (q : Nat) (d : decode md.2.1 pc = .ok (.arraylength, 1)) (ha : h a = some (zJ B nn f)) (hv : Int32.ofNat nn = v) (hq : pc + 1 = q) (kk : zG X md B rm n q lv (.int v :: st) h) : zG X md B rm n pc lv (.ref a :: st) h := by
  subst hq
  intro g ls H locs hl hw hs
  obtain ⟨L, p, -, hP, hD, hkk, -⟩ := zWd_get hw ha
  exact va_alen (D := B.1) g.1 g.2.1 g.2.2.2.2.2.1.1 hP p 1 hkk (ty := .long) rfl hv d (kk g ls H locs hl hw hs)
theorem zi_ldcw {i : Nat} {v : Int32} (q : Nat) (d : decode md.2.1 pc = .ok (.ldc_w i, 3)) (hc : Cond.constant md.1.cls i v ∈ zTT) (hq : pc + 3 = q) (kk : zG X md B rm n q lv (.int v :: st) h) : zG X md B rm n pc lv st h := by
  subst hq
  exact fun g ls H locs hl hw hs => lv_ldcw g.1 g.2.1 g.2.2.2.1 (g.2.2.2.2.1 _ hc) d (kk g ls H locs hl hw hs)
theorem zi_copyl {a0 a n0 n1 idx : Nat} {f f1 : Nat → Int64} {sp dp m : Int32} (q : Nat) (d : decode md.2.1 pc = .ok (.invokestatic idx, 3)) (hlink : Cond.methodLink md.1.cls idx arraycopyName ∈ zTT) (hnat : Cond.native arraycopyName ∈ zTT) (hstat : Cond.static arraycopyName ∈ zTT) (hini : Cond.initialized "java/lang/System" ∈ zTT) (ha0 : h a0 = some (zJ B n0 f)) (ha : h a = some (zJ B n1 f1)) (h1 : ¬ sp < 0) (h2 : ¬ dp < 0) (h3 : ¬ m < 0) (h4 : sp.toNatClampNeg + m.toNatClampNeg ≤ n0) (h5 : dp.toNatClampNeg + m.toNatClampNeg ≤ n1) (hst : st = []) (hk : Nat.ble 1 rm.1 = true) (hq : pc + 3 = q)
    (kk : zG X md B rm n q lv st (zU h a (zJ B n1 (va_cpy f f1 sp.toNatClampNeg dp.toNatClampNeg m.toNatClampNeg)))) : zG X md B rm n pc lv (.int m :: .int dp :: .ref a :: .int sp :: .ref a0 :: st) h := by
  subst hq
  subst hst
  intro g ls H locs hl hw hs
  have ht := g.2.2.2.2.1
  have k1 := Nat.le_of_ble_eq_true hk
  have k3 := g.2.2.2.2.2.2.2.1
  have k4 := g.2.2.2.2.2.2.2.2.1
  obtain ⟨L, hL, hP, hD⟩ := hw
  have hm : a ∈ L := (hL a).mpr (by rw [ha]; simp)
  have hm0 : a0 ∈ L := (hL a0).mpr (by rw [ha0]; simp)
  obtain ⟨p, hkk⟩ := va_pl_get (X := []) (f := zF h) hm
  obtain ⟨p0, hkk0⟩ := va_pl_get (X := []) (f := zF h) hm0
  rw [zF_at ha] at hkk
  rw [zF_at ha0] at hkk0
  have hw8 : nativeFrameWords "java/lang/System" "arraycopy" 5 + 11 ≤ 41 := by decide +kernel
  exact va_copyl (D := B.1) (ty := .long) g.1 g.2.1 (by rw [g.2.2.1]; exact hl.1.symm) g.2.2.2.1 (ht _ hlink) (ht _ hnat) (ht _ hstat) (ht _ hini) g.2.2.2.2.2.1.1 hP hD hs p0 p 1 1 hkk0 hkk rfl rfl rfl h1 h2 h3 h4 h5 (fun _ _ => rfl) (by omega) (by show 0 + _ ≤ _; omega) d (fun H1 locs1 hP1 hD1 hS1 => kk g ls H1 locs1 hl (zWd_set hL hm ha hD hkk hP1 hD1) hS1)
end ZM
theorem zin {i : Int32} {n : Nat} (h0 : ¬ i < 0) (h1 : i < Int32.ofNat n) (hn : n < 2 ^ 31) : vp_in i n := by
  rw [vp_in_iff]
  rw [Int32.lt_iff_toInt_lt] at h0 h1
  have e : (Int32.ofNat n).toInt = (n : Int) := nI_toInt hn
  rw [e] at h1
  rw [Int32.toInt_zero] at h0
  omega
theorem zin' {i : Int32} {n : Nat} (h0 : 0 ≤ i.toInt) (h1 : i.toInt < n) : vp_in i n := vp_in_iff.mpr ⟨h0, h1⟩
theorem zi_0 : (0 : Int32).toInt = 0 := rfl
/-- what happens to a place by a written row, where the place is another -/
theorem zX1 {h h1 : zHp} {a b : Nat} {e e' : va_E} (hp : h1 = zU h a e) (hne : b ≠ a) (hb : h b = some e') : h1 b = some e' := by rw [hp, zU_n _ _ hne, hb]
theorem zX0 {h h1 : zHp} {a : Nat} {e : va_E} (hp : h1 = zU h a e) : h1 a = some e := by rw [hp, zU_s]
theorem zneC {h : zHp} {a b : Nat} {e e' : va_E} (ha : h a = some e) (hb : h b = some e') (hne : e ≠ e') : a ≠ b := by
  rintro rfl
  exact hne (Option.some.inj (ha.symm.trans hb))
section ZK
variable {X : zX} {md : zMD} {B : zBB} {rm : Nat × Nat × Nat} {n : Nat × Nat} {lv : List (Nat × Value)} {st : List Value}
/-- a call that answers nothing and writes: the heap behind it gets a name -/
theorem zk_u {q : Nat} {h1 : zHp} (k : ∀ h' : zHp, h' = h1 → zG X md B rm n q lv st h') : ∀ (v' : Option Value) (h' : zHp), zPf none h1 v' h' → zG X md B rm n q lv (v'.toList ++ st) h' := by
  rintro _ _ ⟨rfl, hp⟩
  exact k _ hp
theorem zk_fu {q : Nat} {v : Value} {h1 : zHp} (k : ∀ h' : zHp, h' = h1 → zG X md B rm n q lv (v :: st) h') : ∀ (v' : Option Value) (h' : zHp), zPf (some v) h1 v' h' → zG X md B rm n q lv (v'.toList ++ st) h' := by
  rintro _ _ ⟨rfl, hp⟩
  exact k _ hp
theorem zk_h {pc : Nat} {h : zHp} (k : ∀ h' : zHp, h' = h → zG X md B rm n pc lv st h') : zG X md B rm n pc lv st h := k h rfl
end ZK
