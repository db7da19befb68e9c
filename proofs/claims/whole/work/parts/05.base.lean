/-! A layer over the kit: the heap as one function from addresses to cells; a method's place as 'zG'; a contract as 'zSpec'. -/
abbrev zHp : Type := Nat → Option va_E
def zF (h : zHp) : Nat → va_E := fun a => (h a).getD (.inr (0, []))
def zU (h : zHp) (a : Nat) (e : va_E) : zHp := fun b => if b = a then some e else h b
theorem zU_s (h : zHp) (a : Nat) (e : va_E) : zU h a e a = some e := by simp [zU]
theorem zU_n (h : zHp) {a b : Nat} (e : va_E) (hne : b ≠ a) : zU h a e b = h b := by simp [zU, hne]
theorem zU_u (h : zHp) (a : Nat) (e e' : va_E) : zU (zU h a e) a e' = zU h a e' := by
  funext b
  by_cases hb : b = a <;> simp [zU, hb]
theorem zU_c (h : zHp) {a b : Nat} (e e' : va_E) (hne : a ≠ b) : zU (zU h a e) b e' = zU (zU h b e') a e := by
  funext c
  by_cases h1 : c = a
  · subst h1
    simp [zU, hne]
  · by_cases h2 : c = b
    · subst h2
      simp [zU, h1]
    · simp [zU, h1, h2]
theorem zU_i (h : zHp) {a : Nat} {e : va_E} (he : h a = some e) : zU h a e = h := by
  funext b
  by_cases hb : b = a
  · subst hb; simp [zU, he]
  · simp [zU, hb]
theorem zF_u (h : zHp) (a : Nat) (e : va_E) : zF (zU h a e) = va_up (zF h) a e := by
  funext b
  by_cases hb : b = a <;> simp [zF, zU, va_up, hb]
theorem zF_at {h : zHp} {a : Nat} {e : va_E} (he : h a = some e) : zF h a = e := by simp [zF, he]
def zWd (D : va_G) (h : zHp) (A : Nat → Prop) (H : Heap) : Prop := ∃ L : List Nat, (∀ a, a ∈ L ↔ h a ≠ none) ∧ va_P D vwCl (va_pl L (zF h)) H ∧ va_D A (va_pl L (zF h))
theorem zWd_get {D : va_G} {h : zHp} {A : Nat → Prop} {H : Heap} {a : Nat} {e : va_E} (hw : zWd D h A H) (he : h a = some e) : ∃ (L : List Nat) (k : Nat), (∀ a, a ∈ L ↔ h a ≠ none) ∧ va_P D vwCl (va_pl L (zF h)) H ∧ va_D A (va_pl L (zF h)) ∧ (va_pl L (zF h))[k]? = some (a, e) ∧ a ∈ L := by
  obtain ⟨L, hL, hP, hD⟩ := hw
  have hm : a ∈ L := (hL a).mpr (by rw [he]; simp)
  obtain ⟨k, hk⟩ := va_pl_get (X := []) (f := zF h) hm
  rw [zF_at he] at hk
  exact ⟨L, k, hL, hP, hD, hk, hm⟩
theorem zWd_set {D : va_G} {h : zHp} {A : Nat → Prop} {H1 : Heap} {L : List Nat} {k a : Nat} {e e' : va_E} (hL : ∀ a, a ∈ L ↔ h a ≠ none) (hm : a ∈ L) (he : h a = some e) (hD : va_D A (va_pl L (zF h))) (hk : (va_pl L (zF h))[k]? = some (a, e)) (hP1 : va_P D vwCl ((va_pl L (zF h)).set k (a, e')) H1) (hD1 : va_D A ((va_pl L (zF h)).set k (a, e'))) : zWd D (zU h a e') A H1 := by
  have hk' : (va_pl L (zF h))[k]? = some (a, zF h a) := by rw [zF_at he]; exact hk
  have e1 := va_pl_set (X := []) (e := e') hD hm hk'
  have e2 : (va_pl L (zF h)).set k (a, e') = va_pl L (zF (zU h a e')) := by rw [zF_u]; exact e1
  rw [e2] at hP1 hD1
  refine ⟨L, fun b => ?_, hP1, hD1⟩
  by_cases hb : b = a
  · subst hb
    simp [zU, hm]
  · rw [zU_n h e' hb]
    exact hL b
theorem zWd_in {D : va_G} {h : zHp} {A : Nat → Prop} {H : Heap} {a : Nat} (hw : zWd D h A H) (ha : h a ≠ none) : A a := by
  obtain ⟨L, hL, hP, hD⟩ := hw
  obtain ⟨k, hk⟩ := va_pl_get (X := []) (f := zF h) ((hL a).mpr ha)
  exact hD.2 k _ hk
theorem zWd_weak {D : va_G} {h : zHp} {A A' : Nat → Prop} {H : Heap} (hw : zWd D h A H) (hA : ∀ q, A q → A' q) : zWd D h A' H := by
  obtain ⟨L, hL, hP, hD⟩ := hw
  exact ⟨L, hL, hP, hD.weaken (fun _ _ _ h => hA _ h)⟩
theorem zWd_new {D : va_G} {h : zHp} {A : Nat → Prop} {H1 : Heap} {L : List Nat} {q : Nat} {e : va_E} (hL : ∀ a, a ∈ L ↔ h a ≠ none) (hP1 : va_P D vwCl (va_pl L (zF h) ++ [(q, e)]) H1) (hD1 : va_D A (va_pl L (zF h) ++ [(q, e)])) : h q = none ∧ zWd D (zU h q e) A H1 := by
  have hq : q ∉ L := va_pl_fresh2 (X := []) (f := zF h) hD1
  have e1 := va_pl_push (f := zF h) (e := e) hq
  rw [e1, ← zF_u] at hP1 hD1
  refine ⟨Classical.byContradiction fun hn => hq ((hL q).mpr hn), L ++ [q], fun b => ?_, hP1, hD1⟩
  by_cases hb : b = q
  · subst hb
    simp [zU]
  · rw [zU_n h e hb, List.mem_append, List.mem_singleton]
    simp [hb, hL b]
/-! the launch's own numbers: the classes' numbers and slots, the arrays' classes (ints, longs, booleans, rows of fours, of trays) -/
abbrev zBB : Type := va_G × (Nat → ClassId)
abbrev zI (B : zBB) (n : Nat) (f : Nat → Int32) : va_E := .inl (B.2 0, n, .inl f)
abbrev zJ (B : zBB) (n : Nat) (f : Nat → Int64) : va_E := .inl (B.2 1, n, .inr (.inl f))
abbrev zZb (B : zBB) (n : Nat) (f : Nat → Int32) : va_E := .inl (B.2 2, n, .inl f)
abbrev zRf (B : zBB) (n : Nat) (f : Nat → Option Nat) : va_E := .inl (B.2 3, n, .inr (.inr (.inr (.inr f))))
abbrev zRt (B : zBB) (n : Nat) (f : Nat → Option Nat) : va_E := .inl (B.2 4, n, .inr (.inr (.inr (.inr f))))
abbrev zO (ci : Nat) (fs : List Value) : va_E := .inr (ci, fs)
def zTys (B : zBB) : List (ClassId × FieldType) := [(B.2 0, .int), (B.2 1, .long), (B.2 2, .boolean), (B.2 3, .object RX4), (B.2 4, .object RX9)]
def zNest : List (String × Nat × MethodName) := [(RX10, 26, yX4_init), (RX1, 11, yX4_init), (RX3, 11, yX4_init), (RX3, 42, yX10_commonDivisor), (RX4, 51, yX10_commonDivisor), (RX4, 61, yX10_withoutFactor), (RX5, 11, yX4_init), (RX6, 11, yX4_init), (RX7, 11, yX4_init), (RX7, 42, yX10_leastPrime), (RX8, 37, yX10_outside)]
def zTb (B : zBB) (U : State) : Prop := va_K B.1 vwCl (zTys B) U ∧ (∀ q ∈ zNest, va_Nw (.methodLinkNest q.1 q.2.1 q.2.2 "WholeTurns") U) ∧ va_AO RX4 U ∧ va_AO RX9 U
theorem zTb.moved {B : zBB} {s U : State} (hW : s.WarmedH U.vm) (h : zTb B s) : zTb B U := ⟨va_K.moved hW.alike h.1, fun q hq => va_Nw.warmM hW (h.2.1 q hq), h.2.2.1.moved hW.alike, h.2.2.2.moved hW.alike⟩
theorem zTb.blind {B : zBB} {a : Array Value} {U : State} {g : JFrame} {mk : MethodId} (h : zTb B U) : zTb B (U.calling g mk a) := ⟨va_K.moved (u := U) (U := U.calling g mk a) (Vm.Alike.refl U.vm) h.1, fun q hq => va_Nw.same (u := U) (U := U.calling g mk a) rfl rfl (h.2.1 q hq), va_AO.moved (u := U) (U := U.calling g mk a) (Vm.Alike.refl U.vm) h.2.2.1, va_AO.moved (u := U) (U := U.calling g mk a) (Vm.Alike.refl U.vm) h.2.2.2⟩
/-! a method: its name, code, locals, what it answers -/
abbrev zMD : Type := MethodName × ByteArray × Nat × Option FieldType
def zWm (md : zMD) : List Cond := .code md.1 md.2.1 md.2.2.1 md.2.2.2 :: zTT
/-- the room at a height of the calls' tree -/
def zRm (rm : Nat × Nat × Nat) : Room := { frames := rm.1, cells := rm.2.1, slots := rm.2.2, locals := 41 * rm.1 }
def zAf (h : zHp) (sz : Nat) : Nat → Prop := fun q => h q ≠ none ∨ sz ≤ q
def zQ (B : zBB) (A : Nat → Prop) (Post : Option Value → zHp → Prop) : Array Value → State → Outcome → State → Prop := fun _ st oc t => (∃ (v : Option Value) (h' : zHp), oc = .returned v ∧ Post v h' ∧ zWd B.1 h' A t.heap) ∧ va_F A st t
def zPr (B : zBB) (h : zHp) (sz : Nat) : State → Prop := fun U => U.heap.size = sz ∧ zWd B.1 h (fun _ => True) U.heap ∧ zTb B U
def zSpec (md : zMD) (B : zBB) (rm : Nat × Nat × Nat) (args : List Value) (h : zHp) (Post : Option Value → zHp → Prop) : Prop := ∀ (l : Launch) (sz : Nat), Met l md.1 (zWm md) (zRm rm) (va_Pc args (zPr B h sz)) (zQ B (zAf h sz) Post) rm.2.1 rm.2.2 (zAf h sz)
/-! where a walk stands -/
abbrev zX : Type := Program × Launch × Env × Room × State × MethodId × Array Value × List Frame × Method × Code × (Nat → Prop) × (State → Prop)
abbrev zXp (X : zX) : Program := X.1
abbrev zXl (X : zX) : Launch := X.2.1
abbrev zXe (X : zX) : Env := X.2.2.1
abbrev zXr (X : zX) : Room := X.2.2.2.1
abbrev zXs (X : zX) : State := X.2.2.2.2.1
abbrev zXm (X : zX) : MethodId := X.2.2.2.2.2.1
abbrev zXa (X : zX) : Array Value := X.2.2.2.2.2.2.1
abbrev zXb (X : zX) : List Frame := X.2.2.2.2.2.2.2.1
abbrev zXf (X : zX) : Method := X.2.2.2.2.2.2.2.2.1
abbrev zXc (X : zX) : Code := X.2.2.2.2.2.2.2.2.2.1
abbrev zXA (X : zX) : Nat → Prop := X.2.2.2.2.2.2.2.2.2.2.1
abbrev zXz (X : zX) : State → Prop := X.2.2.2.2.2.2.2.2.2.2.2
def zGood (X : zX) (md : zMD) (B : zBB) (rm : Nat × Nat × Nat) : Prop :=
  (zXp X).tables.exec = Jvm.exec ∧ (zXc X).code = md.2.1 ∧ (zXc X).maxLocals = md.2.2.1 ∧ (zXs X).vm.findClass md.1.cls = some (zXm X).cls ∧ (∀ w ∈ zTT, w.before (zXa X) (zXs X) = true) ∧ zTb B (zXs X) ∧ (∀ q, (zXs X).heap.size ≤ q → (zXA X) q) ∧ rm.1 ≤ (zXr X).frames ∧ 41 * rm.1 ≤ (zXr X).locals ∧ rm.2.1 ≤ (zXr X).cells ∧ rm.2.2 ≤ (zXr X).slots
def zG (X : zX) (md : zMD) (B : zBB) (rm : Nat × Nat × Nat) (n : Nat × Nat) (pc : Nat) (lv : List (Nat × Value)) (st : List Value) (h : zHp) : Prop :=
  zGood X md B rm → ∀ (ls : Array Slot) (H : Heap) (locs : List Loc), lv_has ls md.2.2.1 lv → zWd B.1 h (zXA X) H → va_S (zXA X) (zXs X).heap H locs → W (zXp X) (zXl X) (zXe X) (zXr X) (zXs X) (zXm X) (zXa X) (zXb X) (zXf X) (zXc X) H locs n.1 n.2 (zXz X) (F0 (zXm X) pc ls st)
/-- the walk's end is a method's: its contract's post -/
def zIsP (X : zX) (md : zMD) (B : zBB) (n : Nat × Nat) (Post : Option Value → zHp → Prop) : Prop :=
  zXz X = MQ (zXb X) (zQ B (zXA X) Post) (zXa X) (zXs X) n.1 n.2 (zXA X) ∧ (zXf X).sig.returnType = md.2.2.2 ∧ (zXf X).locks = false ∧ (zXf X).name = md.1.name
theorem zSpec.of {md : zMD} {B : zBB} {rm : Nat × Nat × Nat} {args : List Value} {h : zHp} {Post : Option Value → zHp → Prop} (hpn : plainName md.1.cls = true) (hlen : (lg_sl args).length ≤ md.2.2.1)
    (body : ∀ X : zX, zIsP X md B (rm.2.1, rm.2.2) Post → zG X md B rm (0, 0) 0 (lv_args 0 args) [] h) : zSpec md B rm args h Post := by
  intro l sz
  refine Met.ofW (cc := md.2.1) (maxL := md.2.2.1) (ret := md.2.2.2) hpn rfl ?_
  intro p e s m as below meth c s₁ Bd hml hv
  obtain ⟨rfl, hsz, ⟨L, hL, hP, hD⟩, hT⟩ := hv
  have hts := atoms_spec (ws := zWm md) Bd.pre
  subst hsz
  have hl := lv_entry args (n := md.2.2.1) hlen
  rw [lg_entry_eq]
  refine body (p, l, e, _, s, m, args.toArray, below, meth, c, zAf h s.heap.size, _) ⟨rfl, Bd.returns, Bd.notSynchronized, (name_of_methodNamed Bd.named Bd.method).1⟩ ⟨Bd.exec, Bd.bytes, hml, findClass_of_methodNamed Bd.named, fun w hw => hts w (List.mem_cons_of_mem _ hw), hT, fun q hq => Or.inr hq, Nat.le_refl _, Nat.le_refl _, Nat.le_refl _, Nat.le_refl _⟩ _ _ _ hl ⟨L, hL, hP, hD.weaken (fun k q hk _ => ?_)⟩ va_S.rf
  obtain ⟨b, hb, hbq⟩ := List.mem_map.mp (List.mem_of_getElem? hk)
  rw [← hbq]
  exact Or.inl ((hL b).mp hb)
theorem zSpec.post {md : zMD} {B : zBB} {rm : Nat × Nat × Nat} {args : List Value} {h : zHp} {P P' : Option Value → zHp → Prop} (hs : zSpec md B rm args h P) (hp : ∀ v h', P v h' → P' v h') : zSpec md B rm args h P' := by
  intro l sz p e ha hc hk s m as below hf hfit hpre hK
  obtain ⟨t, o, a1, a2, a3, ⟨⟨v, h', b1, b2, b3⟩, b4⟩, b5⟩ := hs l sz p e ha hc hk s m as below hf hfit hpre hK
  exact ⟨t, o, a1, a2, a3, ⟨⟨v, h', b1, hp v h' b2, b3⟩, b4⟩, b5⟩
