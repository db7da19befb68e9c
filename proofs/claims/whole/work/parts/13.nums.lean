/-! longs and ints as images of whole numbers -/
def iz (n : Int) : Int64 := Int64.ofInt n
abbrev iB (n : Int) : Prop := -9223372036854775808 ≤ n ∧ n < 9223372036854775808
theorem iz_i {n : Int} (h : iB n) : (iz n).toInt = n := Int64.toInt_ofInt_of_le h.1 h.2
theorem iz_of (x : Int64) : ∃ n, iB n ∧ x = iz n := ⟨x.toInt, ⟨x.le_toInt, x.toInt_lt⟩, by simp [iz]⟩
theorem iz_toInt (x : Int64) : iz x.toInt = x := by simp [iz]
theorem iz_add (a b : Int) : iz a + iz b = iz (a + b) := (Int64.ofInt_add a b).symm
theorem iz_sub (a b : Int) : iz a - iz b = iz (a - b) := (Int64.ofInt_sub a b).symm
theorem iz_mul (a b : Int) : iz a * iz b = iz (a * b) := (Int64.ofInt_mul a b).symm
theorem iz_neg (a : Int) : -iz a = iz (-a) := (Int64.ofInt_neg a).symm
theorem iz_inj {a b : Int} (ha : iB a) (hb : iB b) : iz a = iz b ↔ a = b := ⟨fun h => by have := congrArg Int64.toInt h; rw [iz_i ha, iz_i hb] at this; exact this, fun h => by rw [h]⟩
theorem iz_lt {a b : Int} (ha : iB a) (hb : iB b) : iz a < iz b ↔ a < b := by rw [Int64.lt_iff_toInt_lt, iz_i ha, iz_i hb]
theorem iz_le {a b : Int} (ha : iB a) (hb : iB b) : iz a ≤ iz b ↔ a ≤ b := by rw [Int64.le_iff_toInt_le, iz_i ha, iz_i hb]
theorem iz_0 : (0 : Int64) = iz 0 := rfl
theorem iz_1 : (1 : Int64) = iz 1 := rfl
theorem iz_2 : (2 : Int64) = iz 2 := rfl
theorem iz_4 : (4 : Int64) = iz 4 := rfl
theorem iz_lN (n : Nat) : lN n = iz (n : Int) := (Int64.ofInt_eq_ofNat).symm
theorem iz_div {a b : Int} (ha : iB a) (hb : iB b) (h : -9223372036854775808 < a) : iz a / iz b = iz (a.tdiv b) := by
  apply Int64.toInt_inj.mp
  have hne : iz a ≠ Int64.minValue := fun q => by
    have := congrArg Int64.toInt q
    rw [iz_i ha, Int64.toInt_minValue] at this
    omega
  rw [Int64.toInt_div_of_ne_left _ _ hne, iz_i ha, iz_i hb]
  have hab : (a.tdiv b).natAbs ≤ a.natAbs := by
    rw [Int.natAbs_tdiv]
    exact Nat.div_le_self _ _
  rw [iz_i (by constructor <;> omega)]
theorem iz_rem {a b : Int} (ha : iB a) (hb : iB b) (h : -9223372036854775808 < a) : iz a - iz a / iz b * iz b = iz (a.tmod b) := by
  rw [iz_div ha hb h, iz_mul, iz_sub, Int.tmod_def, Int.mul_comm b]
def jz (n : Int) : Int32 := Int32.ofInt n
abbrev jB (n : Int) : Prop := -2147483648 ≤ n ∧ n < 2147483648
theorem jz_i {n : Int} (h : jB n) : (jz n).toInt = n := Int32.toInt_ofInt_of_le h.1 h.2
theorem jz_of (x : Int32) : ∃ n, jB n ∧ x = jz n := ⟨x.toInt, ⟨x.le_toInt, x.toInt_lt⟩, by simp [jz]⟩
theorem jz_toInt (x : Int32) : jz x.toInt = x := by simp [jz]
theorem jz_add (a b : Int) : jz a + jz b = jz (a + b) := (Int32.ofInt_add a b).symm
theorem jz_sub (a b : Int) : jz a - jz b = jz (a - b) := (Int32.ofInt_sub a b).symm
theorem jz_mul (a b : Int) : jz a * jz b = jz (a * b) := (Int32.ofInt_mul a b).symm
theorem jz_neg (a : Int) : -jz a = jz (-a) := (Int32.ofInt_neg a).symm
theorem jz_inj {a b : Int} (ha : jB a) (hb : jB b) : jz a = jz b ↔ a = b := ⟨fun h => by have := congrArg Int32.toInt h; rw [jz_i ha, jz_i hb] at this; exact this, fun h => by rw [h]⟩
theorem jz_lt {a b : Int} (ha : jB a) (hb : jB b) : jz a < jz b ↔ a < b := by rw [Int32.lt_iff_toInt_lt, jz_i ha, jz_i hb]
theorem jz_le {a b : Int} (ha : jB a) (hb : jB b) : jz a ≤ jz b ↔ a ≤ b := by rw [Int32.le_iff_toInt_le, jz_i ha, jz_i hb]
theorem jz_nI (n : Nat) : nI n = jz (n : Int) := (Int32.ofInt_eq_ofNat).symm
theorem jz_div {a b : Int} (ha : jB a) (hb : jB b) (h : -2147483648 < a) : jz a / jz b = jz (a.tdiv b) := by
  apply Int32.toInt_inj.mp
  have hne : jz a ≠ Int32.minValue := fun q => by
    have := congrArg Int32.toInt q
    rw [jz_i ha, Int32.toInt_minValue] at this
    omega
  rw [Int32.toInt_div_of_ne_left _ _ hne, jz_i ha, jz_i hb]
  have hab : (a.tdiv b).natAbs ≤ a.natAbs := by
    rw [Int.natAbs_tdiv]
    exact Nat.div_le_self _ _
  rw [jz_i (by constructor <;> omega)]
theorem jz_rem {a b : Int} (ha : jB a) (hb : jB b) (h : -2147483648 < a) : jz a - jz a / jz b * jz b = jz (a.tmod b) := by
  rw [jz_div ha hb h, jz_mul, jz_sub, Int.tmod_def, Int.mul_comm b]
theorem jz_l {n : Int} (h : jB n) : (jz n).toInt64 = iz n := by
  apply Int64.toInt_inj.mp
  rw [iz_i (by omega), Int32.toInt_toInt64, jz_i h]
theorem iz_j {n : Int} (h : jB n) : (iz n).toInt32 = jz n := by
  apply Int32.toInt_inj.mp
  rw [jz_i h, Int64.toInt_toInt32, iz_i (by omega)]
  exact Int.bmod_eq_of_le h.1 h.2
/-! the greatest common divisor -/
def zGcd (a b : Int64) : Int64 := lN (Nat.gcd a.toInt.natAbs b.toInt.natAbs)
abbrev zNm1 (a : Int64) : Prop := -9223372036854775808 < a.toInt
def zAbs (x : Int64) : Int64 := lN x.toInt.natAbs
theorem zAbs_of {x : Int64} (h : zNm1 x) : (0 ≤ x → x = zAbs x) ∧ (¬ 0 ≤ x → -x = zAbs x) := by
  obtain ⟨n, hn, rfl⟩ := iz_of x
  have h1 : -9223372036854775808 < n := by have := h; rw [zNm1, iz_i hn] at this; exact this
  unfold zAbs
  rw [iz_lN, iz_i hn, iz_0, iz_le (by decide) hn, iz_neg]
  constructor
  · intro q
    congr 1
    omega
  · intro q
    congr 1
    omega
theorem zGcd_step {g l : Nat} (h : l ≠ 0) : Nat.gcd l (g % l) = Nat.gcd g l := by
  rw [Nat.gcd_comm l, ← Nat.gcd_rec, Nat.gcd_comm]
theorem zMod_half {g l : Nat} (h0 : 0 < l) (h : l ≤ g) : 2 * (g % l) ≤ g := by
  have h1 := Nat.div_add_mod g l
  have h2 : 1 ≤ g / l := Nat.div_pos h h0
  have h3 : l * 1 ≤ l * (g / l) := Nat.mul_le_mul_left l h2
  have h4 := Nat.mod_lt g h0
  omega
/-- a Euclid step's measure: k bits of the product, one more where the first is the lesser -/
theorem zGcd_fuel {g l i k : Nat} (h0 : l ≠ 0) (hk : g * l < 2 ^ k) (hi : i + k + (if l ≤ g then 0 else 1) ≤ 1000000) : ∃ k', l * (g % l) < 2 ^ k' ∧ (i + 1) + k' + (if g % l ≤ l then 0 else 1) ≤ 1000000 := by
  have hlt := Nat.mod_lt g (Nat.pos_of_ne_zero h0)
  rw [if_pos (Nat.le_of_lt hlt)]
  by_cases hlg : l ≤ g
  · rw [if_pos hlg] at hi
    have h1 := zMod_half (Nat.pos_of_ne_zero h0) hlg
    cases k with
    | zero =>
      have : g * l = 0 := by simpa using hk
      rcases Nat.mul_eq_zero.mp this with h | h <;> omega
    | succ k =>
      refine ⟨k, ?_, by omega⟩
      have h2 : l * (2 * (g % l)) ≤ l * g := Nat.mul_le_mul_left l h1
      rw [Nat.pow_succ] at hk
      rw [Nat.mul_comm l g] at h2
      rw [← Nat.mul_assoc, Nat.mul_comm l 2, Nat.mul_assoc] at h2
      omega
  · rw [if_neg hlg] at hi
    refine ⟨k, ?_, by omega⟩
    rw [Nat.mod_eq_of_lt (by omega), Nat.mul_comm]
    exact hk
theorem zGcd_end {g l i k : Nat} (hk : g * l < 2 ^ k) (hi : i + k + (if l ≤ g then 0 else 1) ≤ 1000000) (he : 1000000 ≤ i) : l = 0 := by
  have hk0 : k = 0 := by omega
  subst hk0
  have : g * l = 0 := by simpa using hk
  rcases Nat.mul_eq_zero.mp this with h | h
  · by_cases hlg : l ≤ g
    · omega
    · rw [if_neg hlg] at hi; omega
  · exact h
/-- a contract of a method of the JDK's that no native row overrides -/
theorem zSpec.ofF {md : zMD} {B : zBB} {rm : Nat × Nat × Nat} {args : List Value} {h : zHp} {Post : Option Value → zHp → Prop} (hpn : plainFor md.1 = true) (hlen : (lg_sl args).length ≤ md.2.2.1)
    (body : ∀ X : zX, zIsP X md B (rm.2.1, rm.2.2) Post → zG X md B rm (0, 0) 0 (lv_args 0 args) [] h) : zSpec md B rm args h Post := by
  intro l sz
  refine MetFree.of_bodySF (code := md.2.1) (maxLocals := md.2.2.1) (ret := md.2.2.2) hpn ?_ ?_
  · intro as s m hpre hn
    obtain ⟨meth, c, h1, h2, h3, h4, h5, h6, -, -⟩ := Cond.code_spec hn (atoms_spec (ws := zWm md) hpre _ List.mem_cons_self)
    exact ⟨meth, c, h1, h2, h3, h4, h5, h6⟩
  · intro p e s m as below meth c s₁ Bd hml hv _
    have hh0 : s₁.heap = s.heap := by rw [Bd.state]; rfl
    obtain ⟨rfl, hsz, ⟨L, hL, hP, hD⟩, hT⟩ := hv
    have hts := atoms_spec (ws := zWm md) Bd.pre
    subst hsz
    have hl := lv_entry args (n := md.2.2.1) hlen
    have key := body (p, l, e, (headSpec (zWm md) (zRm rm)).room, s, m, args.toArray, below, meth, c, zAf h s.heap.size, MQ below (zQ B (zAf h s.heap.size) Post) args.toArray s rm.2.1 rm.2.2 (zAf h s.heap.size)) ⟨rfl, Bd.returns, Bd.notSynchronized, (name_of_methodNamed Bd.named Bd.method).1⟩ ⟨Bd.exec, Bd.bytes, hml, findClass_of_methodNamed Bd.named, fun w hw => hts w (List.mem_cons_of_mem _ hw), hT, fun q hq => Or.inr hq, Nat.le_refl _, Nat.le_refl _, Nat.le_refl _, Nat.le_refl _⟩ _ _ _ hl ⟨L, hL, hP, hD.weaken (fun k q hk _ => by
      obtain ⟨b, hb, hbq⟩ := List.mem_map.mp (List.mem_of_getElem? hk)
      rw [← hbq]
      exact Or.inl ((hL b).mp hb))⟩ va_S.rf
    obtain ⟨t, a1, o, b1, b2, b3⟩ := key s₁ hh0 (Stand.of_body Bd)
    rw [← lg_entry_eq] at a1
    exact ⟨t, o, a1, b1, b2, ⟨b3.1, b3.2⟩⟩
