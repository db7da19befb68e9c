/-! calls, answers, new cells -/
section ZC
variable {X : zX} {md : zMD} {B : zBB} {rm : Nat × Nat × Nat} {n : Nat × Nat} {pc : Nat} {lv : List (Nat × Value)} {st : List Value} {h : zHp}
/-- what the tables say of a method that is called: by a receiver, without one, a constructor -/
def zMw (md : zMD) (k : Nat) : Prop := Cond.code md.1 md.2.1 md.2.2.1 md.2.2.2 ∈ zTT ∧ Cond.initialized md.1.cls ∈ zTT ∧ (md.1.cls ≠ "java/lang/invoke/MethodHandle" ∧ md.1.cls ≠ "java/lang/invoke/VarHandle" ∧ (parseMethodDescriptor md.1.desc).map (fun d => d.parameters.length) = some k)
def zMv (md : zMD) (k : Nat) (C : String) : Prop := zMw md k ∧ Cond.instanceMethod md.1 ∈ zTT ∧ Cond.selects C md.1 md.1 ∈ zTT ∧ Nat.ble md.2.2.1 22 = true ∧ md.1.cls = C
def zMs (md : zMD) (k : Nat) : Prop := zMw md k ∧ Cond.static md.1 ∈ zTT ∧ Nat.ble md.2.2.1 22 = true
def zMn (md : zMD) (k : Nat) : Prop := zMw md k ∧ Cond.instanceMethod md.1 ∈ zTT ∧ md.2.2.2 = none ∧ md.1.name = "<init>" ∧ Nat.ble md.2.2.1 22 = true
/-- posts: a told answer and heap; some answer of a type -/
def zPf (r : Option Value) (h1 : zHp) : Option Value → zHp → Prop := fun v h' => v = r ∧ h' = h1
def zPi (P : Int32 → zHp → Prop) : Option Value → zHp → Prop := fun v h' => ∃ x, v = some (.int x) ∧ P x h'
def zPl (P : Int64 → zHp → Prop) : Option Value → zHp → Prop := fun v h' => ∃ x, v = some (.long x) ∧ P x h'
def zPv (P : zHp → Prop) : Option Value → zHp → Prop := fun v h' => v = none ∧ P h'
theorem zk_f {q : Nat} {v : Value} {h1 : zHp} (k : zG X md B rm n q lv (v :: st) h1) : ∀ (v' : Option Value) (h' : zHp), zPf (some v) h1 v' h' → zG X md B rm n q lv (v'.toList ++ st) h' := by
  rintro _ _ ⟨rfl, rfl⟩
  exact k
theorem zk_n {q : Nat} {h1 : zHp} (k : zG X md B rm n q lv st h1) : ∀ (v' : Option Value) (h' : zHp), zPf none h1 v' h' → zG X md B rm n q lv (v'.toList ++ st) h' := by
  rintro _ _ ⟨rfl, rfl⟩
  exact k
theorem zk_i {q : Nat} {P : Int32 → zHp → Prop} (k : ∀ (x : Int32) (h' : zHp), P x h' → zG X md B rm n q lv (.int x :: st) h') : ∀ (v' : Option Value) (h' : zHp), zPi P v' h' → zG X md B rm n q lv (v'.toList ++ st) h' := by
  rintro _ _ ⟨x, rfl, hp⟩
  exact k x _ hp
theorem zk_l {q : Nat} {P : Int64 → zHp → Prop} (k : ∀ (x : Int64) (h' : zHp), P x h' → zG X md B rm n q lv (.long x :: st) h') : ∀ (v' : Option Value) (h' : zHp), zPl P v' h' → zG X md B rm n q lv (v'.toList ++ st) h' := by
  rintro _ _ ⟨x, rfl, hp⟩
  exact k x _ hp
theorem zk_v {q : Nat} {P : zHp → Prop} (k : ∀ h' : zHp, P h' → zG X md B rm n q lv st h') : ∀ (v' : Option Value) (h' : zHp), zPv P v' h' → zG X md B rm n q lv (v'.toList ++ st) h' := by
  rintro _ _ ⟨rfl, hp⟩
  exact k _ hp
theorem zGoodIn {md' : zMD} (hc : Cond.code md'.1 md'.2.1 md'.2.2.1 md'.2.2.2 ∈ zTT) : GoodIn zTT (zWm md') := by
  intro w hw
  rcases List.mem_cons.mp hw with rfl | hw
  · exact ⟨hc, good_of_word (zTT_good hc)⟩
  · exact ⟨hw, good_of_word (zTT_good hw)⟩
theorem zBlind {B : zBB} {h : zHp} {sz : Nat} {av : List Value} : FrameBlind (va_Pc av (zPr B h sz)) := fun a U g mk q => by
  obtain ⟨q0, q1, q2, q3⟩ := q
  exact ⟨q0, q1, q2, q3.blind⟩
theorem zPre {B : zBB} {h : zHp} {H : Heap} {s U : State} {A : Nat → Prop} (hw : zWd B.1 h A H) (ht : zTb B s) (hU : U.heap = H) (hW : s.WarmedH U.vm) : zPr B h H.size U := ⟨by rw [hU], by rw [hU]; exact zWd_weak hw (fun _ _ => trivial), ht.moved hW⟩
theorem zCall {md' : zMD} {mc ms : Nat} {rest st0 : List Value} {Post : Option Value → zHp → Prop} {a : Array Value} {ls : Array Slot} {H : Heap} {locs : List Loc} (g : zGood X md B rm)
    (hr : va_Run (zXp X) (zXl X) (zXe X) (zXr X) (zXs X) (zXm X) (zXa X) (zXb X) (zXf X) (zXc X) H locs n.1 n.2 mc ms (F0 (zXm X) pc ls st0) rest (zQ B (zAf h H.size) Post a) (zAf h H.size)) (hl : lv_has ls md.2.2.1 lv) (hw : zWd B.1 h (zXA X) H) (hs : va_S (zXA X) (zXs X).heap H locs)
    (kk : ∀ (v : Option Value) (h' : zHp), Post v h' → zG X md B rm (n.1 + mc, n.2 + ms) (pc + 3) lv (v.toList ++ rest) h') : W (zXp X) (zXl X) (zXe X) (zXr X) (zXs X) (zXm X) (zXa X) (zXb X) (zXf X) (zXc X) H locs n.1 n.2 (zXz X) (F0 (zXm X) pc ls st0) := by
  have hA : ∀ q, zAf h H.size q → zXA X q := fun q hq => hq.elim (fun h1 => zWd_in hw h1) (fun h1 => g.2.2.2.2.2.2.1 q (Nat.le_trans hs.1 h1))
  intro T hT X0
  obtain ⟨v, st₀, t, T', L, h0, X', hL, e1, e2, ⟨⟨v', h', hv, hp, hb⟩, hz, hk⟩, stp⟩ := hr T hT X0
  cases hv
  rw [h0] at hz hk
  obtain ⟨t2, a1, b1⟩ := kk v h' hp g ls T'.heap (locs ++ L) hl (by rw [e1]; exact zWd_weak hb hA)
    ⟨Nat.le_trans hs.1 (by rw [e1]; exact hz), fun q h1 h2 => by rw [e1, hk q (Nat.lt_of_lt_of_le h1 hs.1) (fun z => h2 (hA q z))]; exact hs.2.1 q h1 h2, fun q hq => by
      rcases List.mem_append.mp hq with h1 | h1
      · exact hs.2.2 q h1
      · exact hA _ (hL q h1)⟩ T' rfl X'
  exact ⟨t2, stp t2 a1, b1⟩
theorem zRoom {md' : zMD} {rm' : Nat × Nat × Nat} (g : zGood X md B rm) (hk : Nat.ble (rm'.1 + 1) rm.1 = true) (hm : Nat.ble md'.2.2.1 22 = true) : (zRm rm').frames + 1 ≤ (zXr X).frames ∧ 8 + (md'.2.2.1 + 11) + (zRm rm').locals ≤ (zXr X).locals := by
  have h1 := Nat.le_of_ble_eq_true hk
  have h2 := Nat.le_of_ble_eq_true hm
  have h3 := g.2.2.2.2.2.2.2.1
  have h4 := g.2.2.2.2.2.2.2.2.1
  show rm'.1 + 1 ≤ _ ∧ 8 + (md'.2.2.1 + 11) + 41 * rm'.1 ≤ _
  omega
theorem zCells {rm' : Nat × Nat × Nat} (g : zGood X md B rm) (hc : Nat.ble (n.1 + rm'.2.1) rm.2.1 = true) (hc2 : Nat.ble (n.2 + rm'.2.2) rm.2.2 = true) : n.1 + rm'.2.1 ≤ (zXr X).cells ∧ n.2 + rm'.2.2 ≤ (zXr X).slots :=
  ⟨Nat.le_trans (Nat.le_of_ble_eq_true hc) g.2.2.2.2.2.2.2.2.2.1, Nat.le_trans (Nat.le_of_ble_eq_true hc2) g.2.2.2.2.2.2.2.2.2.2⟩
/-- a call by a receiver -/
theorem zc_virtual {n' : Nat × Nat} {md' : zMD} {rm' : Nat × Nat × Nat} {b ci idx k N : Nat} {C : String} {T : u_T} {fs As st0 : List Value} {Post : Option Value → zHp → Prop} (q : Nat) (d : decode md.2.1 pc = .ok (.invokevirtual idx, 3)) (hlink : Cond.methodLink md.1.cls idx md'.1 ∈ zTT) (hv : zMv md' k C) (hci : zCl ci C T N) (hsp : zSpec md' B rm' (.ref b :: As) h Post) (hb : h b = some (.inr (ci, fs)))
    (hn : As.length = k) (hst : st0 = As.reverse ++ .ref b :: st) (hW : Nat.ble (st.map fun v => v.category).sum 8 = true) (hk : Nat.ble (rm'.1 + 1) rm.1 = true) (hc : Nat.ble (n.1 + rm'.2.1) rm.2.1 = true) (hc2 : Nat.ble (n.2 + rm'.2.2) rm.2.2 = true) (hn' : (n.1 + rm'.2.1, n.2 + rm'.2.2) = n') (hq : pc + 3 = q)
    (kk : ∀ (v : Option Value) (h' : zHp), Post v h' → zG X md B rm n' q lv (v.toList ++ st) h') : zG X md B rm n pc lv st0 h := by
  obtain ⟨hmw, hin, hsel, hm, hcl⟩ := hv
  subst hn'
  subst hq
  subst hcl
  intro g ls H locs hl hw hs
  obtain ⟨L, p, -, hP, -, hkk, -⟩ := zWd_get hw hb
  have ht := g.2.2.2.2.1
  refine zCall g (md' := md') (va_runV (C := md'.1.cls) (nL := md.2.2.1) (cc := md.2.1) (own := md.1.cls) (bytes := md'.2.1) (maxL := md'.2.2.1) (ret := md'.2.2.2) (n := k) (Ts := zTT) ⟨g.1, g.2.1, g.2.2.1, g.2.2.2.1, ht⟩ (hsp (zXl X) H.size) ?_ ⟨zBlind, va_recv g.2.2.2.2.2.1.1 hP hci.1 hkk, fun U hU hW1 => ⟨rfl, zPre hw g.2.2.2.2.2.1 hU hW1⟩⟩ rfl hn hl.1 hst (by show 2 * 0 + _ ≤ _; have := Nat.le_of_ble_eq_true hW; omega) d (zCells g hc hc2)) hl hw hs kk
  exact ⟨callB_of k ht (zGoodIn hmw.1) rfl rfl rfl (ht _ hmw.2.1) (ht _ hlink) hmw.2.2 (zRoom g hk hm), ht _ hin, ht _ hsel⟩
theorem zc_static {n' : Nat × Nat} {md' : zMD} {rm' : Nat × Nat × Nat} {idx k : Nat} {As st0 : List Value} {Post : Option Value → zHp → Prop} (q : Nat) (d : decode md.2.1 pc = .ok (.invokestatic idx, 3)) (hlink : Cond.methodLink md.1.cls idx md'.1 ∈ zTT) (hv : zMs md' k) (hsp : zSpec md' B rm' As h Post)
    (hn : As.length = k) (hst : st0 = As.reverse ++ st) (hW : Nat.ble (st.map fun v => v.category).sum 8 = true) (hk : Nat.ble (rm'.1 + 1) rm.1 = true) (hc : Nat.ble (n.1 + rm'.2.1) rm.2.1 = true) (hc2 : Nat.ble (n.2 + rm'.2.2) rm.2.2 = true) (hn' : (n.1 + rm'.2.1, n.2 + rm'.2.2) = n') (hq : pc + 3 = q)
    (kk : ∀ (v : Option Value) (h' : zHp), Post v h' → zG X md B rm n' q lv (v.toList ++ st) h') : zG X md B rm n pc lv st0 h := by
  obtain ⟨hmw, hstt, hm⟩ := hv
  subst hn'
  subst hq
  intro g ls H locs hl hw hs
  have ht := g.2.2.2.2.1
  refine zCall g (md' := md') (va_runS (nL := md.2.2.1) (cc := md.2.1) (own := md.1.cls) (bytes := md'.2.1) (maxL := md'.2.2.1) (ret := md'.2.2.2) (n := k) (Ts := zTT) ⟨g.1, g.2.1, g.2.2.1, g.2.2.2.1, ht⟩ (hsp (zXl X) H.size) ⟨callB_of k ht (zGoodIn hmw.1) rfl rfl rfl (ht _ hmw.2.1) (ht _ hlink) hmw.2.2 (zRoom g hk hm), ht _ hstt⟩ ⟨zBlind, fun U hU hW1 => ⟨rfl, zPre hw g.2.2.2.2.2.1 hU hW1⟩⟩ rfl hn hl.1 hst (by show 2 * 0 + _ ≤ _; have := Nat.le_of_ble_eq_true hW; omega) d (zCells g hc hc2)) hl hw hs kk
theorem zc_staticN {n' : Nat × Nat} {md' : zMD} {rm' : Nat × Nat × Nat} {idx k : Nat} {As st0 : List Value} {Post : Option Value → zHp → Prop} (q : Nat) (d : decode md.2.1 pc = .ok (.invokestatic idx, 3)) (hnest : (md.1.cls, idx, md'.1) ∈ zNest) (hv : zMs md' k) (hsp : zSpec md' B rm' As h Post)
    (hn : As.length = k) (hst : st0 = As.reverse ++ st) (hW : Nat.ble (st.map fun v => v.category).sum 8 = true) (hk : Nat.ble (rm'.1 + 1) rm.1 = true) (hc : Nat.ble (n.1 + rm'.2.1) rm.2.1 = true) (hc2 : Nat.ble (n.2 + rm'.2.2) rm.2.2 = true) (hn' : (n.1 + rm'.2.1, n.2 + rm'.2.2) = n') (hq : pc + 3 = q)
    (kk : ∀ (v : Option Value) (h' : zHp), Post v h' → zG X md B rm n' q lv (v.toList ++ st) h') : zG X md B rm n pc lv st0 h := by
  obtain ⟨hmw, hstt, hm⟩ := hv
  subst hn'
  subst hq
  intro g ls H locs hl hw hs
  have ht := g.2.2.2.2.1
  refine zCall g (md' := md') (va_runSN (nL := md.2.2.1) (cc := md.2.1) (own := md.1.cls) (host := "WholeTurns") (bytes := md'.2.1) (maxL := md'.2.2.1) (ret := md'.2.2.2) (n := k) (Ts := zTT) ⟨g.1, g.2.1, g.2.2.1, g.2.2.2.1, ht⟩ (hsp (zXl X) H.size) ⟨va_cnB k ht (zGoodIn hmw.1) rfl rfl rfl (g.2.2.2.2.2.1.2.1 _ hnest) (ht _ hmw.2.1) hmw.2.2 (zRoom g hk hm), ht _ hstt, trivial⟩ ⟨zBlind, fun U hU hW1 => ⟨rfl, zPre hw g.2.2.2.2.2.1 hU hW1⟩⟩ rfl hn hl.1 hst (by show 2 * 0 + _ ≤ _; have := Nat.le_of_ble_eq_true hW; omega) d (zCells g hc hc2)) hl hw hs kk
theorem zc_special {n' : Nat × Nat} {md' : zMD} {rm' : Nat × Nat × Nat} {b idx k : Nat} {As st0 : List Value} {Post : Option Value → zHp → Prop} (q : Nat) (d : decode md.2.1 pc = .ok (.invokespecial idx, 3)) (hlink : Cond.methodLink md.1.cls idx md'.1 ∈ zTT) (hv : zMn md' k) (hsp : zSpec md' B rm' (.ref b :: As) h Post)
    (hn : As.length = k) (hst : st0 = As.reverse ++ .ref b :: st) (hW : Nat.ble (st.map fun v => v.category).sum 8 = true) (hk : Nat.ble (rm'.1 + 1) rm.1 = true) (hc : Nat.ble (n.1 + rm'.2.1) rm.2.1 = true) (hc2 : Nat.ble (n.2 + rm'.2.2) rm.2.2 = true) (hn' : (n.1 + rm'.2.1, n.2 + rm'.2.2) = n') (hq : pc + 3 = q)
    (kk : ∀ (v : Option Value) (h' : zHp), Post v h' → zG X md B rm n' q lv (v.toList ++ st) h') : zG X md B rm n pc lv st0 h := by
  obtain ⟨hmw, hin, hret, hname, hm⟩ := hv
  subst hn'
  subst hq
  intro g ls H locs hl hw hs
  have ht := g.2.2.2.2.1
  have hc0 := hmw.1
  rw [hret] at hc0
  refine zCall g (md' := md') (va_runI (nL := md.2.2.1) (cc := md.2.1) (own := md.1.cls) (bytes := md'.2.1) (maxL := md'.2.2.1) (n := k) (Ts := zTT) ⟨g.1, g.2.1, g.2.2.1, g.2.2.2.1, ht⟩ (hsp (zXl X) H.size) ⟨callB_of (ws' := zTT) k ht (zGoodIn hmw.1) (by unfold zWm; rw [hret]) rfl rfl (ht _ hmw.2.1) (ht _ hlink) hmw.2.2 (zRoom g hk hm), hname, ht _ hin⟩ ⟨zBlind, fun U hU hW1 => ⟨rfl, zPre hw g.2.2.2.2.2.1 hU hW1⟩⟩ rfl hn hl.1 hst (by show 2 * 0 + _ ≤ _; have := Nat.le_of_ble_eq_true hW; omega) d (zCells g hc hc2)) hl hw hs kk
theorem zc_specialN {n' : Nat × Nat} {md' : zMD} {rm' : Nat × Nat × Nat} {b idx k : Nat} {As st0 : List Value} {Post : Option Value → zHp → Prop} (q : Nat) (d : decode md.2.1 pc = .ok (.invokespecial idx, 3)) (hnest : (md.1.cls, idx, md'.1) ∈ zNest) (hv : zMn md' k) (hsp : zSpec md' B rm' (.ref b :: As) h Post)
    (hn : As.length = k) (hst : st0 = As.reverse ++ .ref b :: st) (hW : Nat.ble (st.map fun v => v.category).sum 8 = true) (hk : Nat.ble (rm'.1 + 1) rm.1 = true) (hc : Nat.ble (n.1 + rm'.2.1) rm.2.1 = true) (hc2 : Nat.ble (n.2 + rm'.2.2) rm.2.2 = true) (hn' : (n.1 + rm'.2.1, n.2 + rm'.2.2) = n') (hq : pc + 3 = q)
    (kk : ∀ (v : Option Value) (h' : zHp), Post v h' → zG X md B rm n' q lv (v.toList ++ st) h') : zG X md B rm n pc lv st0 h := by
  obtain ⟨hmw, hin, hret, hname, hm⟩ := hv
  subst hn'
  subst hq
  intro g ls H locs hl hw hs
  have ht := g.2.2.2.2.1
  refine zCall g (md' := md') (va_runIN (nL := md.2.2.1) (cc := md.2.1) (own := md.1.cls) (host := "WholeTurns") (bytes := md'.2.1) (maxL := md'.2.2.1) (n := k) (Ts := zTT) ⟨g.1, g.2.1, g.2.2.1, g.2.2.2.1, ht⟩ (hsp (zXl X) H.size) ⟨va_cnB (ws' := zTT) k ht (zGoodIn hmw.1) (by unfold zWm; rw [hret]) rfl rfl (g.2.2.2.2.2.1.2.1 _ hnest) (ht _ hmw.2.1) hmw.2.2 (zRoom g hk hm), hname, ht _ hin⟩ ⟨zBlind, fun U hU hW1 => ⟨rfl, zPre hw g.2.2.2.2.2.1 hU hW1⟩⟩ rfl hn hl.1 hst (by show 2 * 0 + _ ≤ _; have := Nat.le_of_ble_eq_true hW; omega) d (zCells g hc hc2)) hl hw hs kk
/-- Object's constructor -/
theorem zc_obj {a idx : Nat} (q : Nat) (d : decode md.2.1 pc = .ok (.invokespecial idx, 3)) (hlink : Cond.methodLink md.1.cls idx objectInit ∈ zTT) (hin : Cond.instanceMethod objectInit ∈ zTT) (hcode : Cond.code objectInit ⟨#[0xb1]⟩ 1 none ∈ zTT) (hst : st = []) (hk : Nat.ble 1 rm.1 = true) (hq : pc + 3 = q) (kk : zG X md B rm n q lv st h) : zG X md B rm n pc lv (.ref a :: st) h := by
  subst hq
  subst hst
  intro g ls H locs hl hw hs
  have ht := g.2.2.2.2.1
  have h1 := Nat.le_of_ble_eq_true hk
  have h3 := g.2.2.2.2.2.2.2.1
  have h4 := g.2.2.2.2.2.2.2.2.1
  refine W.objInit g.1 g.2.1 g.2.2.2.1 (ht _ hlink) (ht _ hin) (ht _ hcode) rfl (by rw [g.2.2.1]; exact hl.1) rfl d (by omega) (by show 2 * 0 + 0 + 12 ≤ _; omega) ?_
  exact W.eq (g2 := F0 (zXm X) (pc + 3) ls []) rfl (kk g ls H locs hl hw hs)
/-! the answers -/
variable {Post : Option Value → zHp → Prop}
theorem zr_int {x : Int32} {ty : FieldType} (hZ : zIsP X md B n Post) (d : decode md.2.1 pc = .ok (.ireturn, 1)) (hr : md.2.2.2 = some ty) (hn : narrow ty (.int x) = .int x) (hp : Post (some (.int x)) h) : zG X md B rm n pc lv [.int x] h := by
  intro g ls H locs hl hw hs
  rw [hZ.1]
  exact W.zret (ty := ty) g.1 g.2.1 (hZ.2.1.trans hr) hn (fun t ht hW => ⟨⟨_, h, rfl, hp, by rw [ht]; exact hw⟩, hs.F ht⟩) hs.2.2 d hZ.2.2.1
theorem zr_long {x : Int64} (hZ : zIsP X md B n Post) (d : decode md.2.1 pc = .ok (.lreturn, 1)) (hr : md.2.2.2 = some .long) (hp : Post (some (.long x)) h) : zG X md B rm n pc lv [.long x] h := by
  intro g ls H locs hl hw hs
  rw [hZ.1]
  exact W.lret g.1 g.2.1 (hZ.2.1.trans hr) (fun t ht hW => ⟨⟨_, h, rfl, hp, by rw [ht]; exact hw⟩, hs.F ht⟩) hs.2.2 d hZ.2.2.1
theorem zr_void (hZ : zIsP X md B n Post) (d : decode md.2.1 pc = .ok (.return_, 1)) (hr : md.2.2.2 = none) (hp : Post none h) : zG X md B rm n pc lv [] h := by
  intro g ls H locs hl hw hs
  rw [hZ.1]
  exact W.vret g.1 g.2.1 (hZ.2.1.trans hr) (fun t ht hW => ⟨⟨_, h, rfl, hp, by rw [ht]; exact hw⟩, hs.F ht⟩) hs.2.2 d hZ.2.2.1
theorem zr_ref {x : Nat} {cn : String} (hZ : zIsP X md B n Post) (d : decode md.2.1 pc = .ok (.areturn, 1)) (hr : md.2.2.2 = some (.object cn)) (hp : Post (some (.ref x)) h) : zG X md B rm n pc lv [.ref x] h := by
  intro g ls H locs hl hw hs
  rw [hZ.1]
  exact W.aret (rt := .object cn) g.1 g.2.1 (hZ.2.1.trans hr) (Or.inl ⟨_, rfl⟩) (Or.inr ⟨_, rfl⟩) (fun t ht hW => ⟨⟨_, h, rfl, hp, by rw [ht]; exact hw⟩, hs.F ht⟩) hs.2.2 d hZ.2.2.1
theorem zr_null {cn : String} (hZ : zIsP X md B n Post) (d : decode md.2.1 pc = .ok (.areturn, 1)) (hr : md.2.2.2 = some (.object cn)) (hp : Post (some .null) h) : zG X md B rm n pc lv [.null] h := by
  intro g ls H locs hl hw hs
  rw [hZ.1]
  exact W.aret (rt := .object cn) g.1 g.2.1 (hZ.2.1.trans hr) (Or.inl ⟨_, rfl⟩) (Or.inl rfl) (fun t ht hW => ⟨⟨_, h, rfl, hp, by rw [ht]; exact hw⟩, hs.F ht⟩) hs.2.2 d hZ.2.2.1
/-! new cells -/
theorem zn_new {n' : Nat × Nat} {ci idx N : Nat} {C : String} {T : u_T} {fs : List Value} (q : Nat) (d : decode md.2.1 pc = .ok (.new idx, 3)) (hc : zCl ci C T N) (ty : Nat → FieldType) (hty : ∀ k, k < N → parseFieldDescriptor (T k).2.2.1 = some (ty k)) (hcl : Cond.classLink md.1.cls idx C ∈ zTT) (hinst : Cond.instantiable C N ∈ zTT) (hini : Cond.initialized C ∈ zTT) (hfs : ∀ j, j < N → defaultValue (ty j) = vp_V fs j) (hn1 : Nat.ble (n.1 + 1) rm.2.1 = true) (hn2 : Nat.ble (n.2 + N) rm.2.2 = true) (hn' : (n.1 + 1, n.2 + N) = n') (hq : pc + 3 = q)
    (kk : ∀ a : Nat, h a = none → zG X md B rm n' q lv (.ref a :: st) (zU h a (.inr (ci, fs)))) : zG X md B rm n pc lv st h := by
  subst hq
  subst hn'
  intro g ls H locs hl hw hs
  have ht := g.2.2.2.2.1
  obtain ⟨L, hL, hP, hD⟩ := hw
  exact va_new (D := B.1) (Ts := zTT) (fs := fs) g.1 g.2.1 ht hc.2 ty hty g.2.2.2.1 (ht _ hcl) (ht _ hinst) (ht _ hini) g.2.2.2.2.2.1.1 hP hD hs g.2.2.2.2.2.2.1 hc.1 hfs (Nat.le_trans (Nat.le_of_ble_eq_true hn1) g.2.2.2.2.2.2.2.2.2.1) (Nat.le_trans (Nat.le_of_ble_eq_true hn2) g.2.2.2.2.2.2.2.2.2.2) d (fun a H1 hP1 hD1 hS1 => by
    obtain ⟨h1, h2⟩ := zWd_new hL hP1 hD1
    exact kk a h1 g ls H1 locs hl h2 hS1)
theorem zn_arr {n' : Nat × Nat} {at_ : ArrayType} {ty : FieldType} {m : Int32} {N t0 : Nat} {mk : ClassId → vp_A → va_E} {a0 : vp_A} {cA : ClassId} (q : Nat) (d : decode md.2.1 pc = .ok (.newarray at_, 2)) (harr : Cond.arrayClass ty ∈ zTT) (hty : newarray.typeOf at_ = ty) (htys : (zTys B)[t0]? = some (cA, ty)) (hobj : ∀ C, ty ≠ .object C) (ha : ∀ c : ClassId, vp_cell c a0 = arrV c N (fun _ => defaultValue ty)) (hm : ¬ m < 0) (hN : m.toNatClampNeg = N) (hby : N * componentBytes ty ≤ 536870912) (hn1 : Nat.ble (n.1 + 1) rm.2.1 = true) (hn2 : Nat.ble (n.2 + N) rm.2.2 = true) (hn' : (n.1 + 1, n.2 + N) = n') (hq : pc + 2 = q)
    (kk : ∀ a : Nat, h a = none → zG X md B rm n' q lv (.ref a :: st) (zU h a (.inl (cA, a0)))) : zG X md B rm n pc lv (.int m :: st) h := by
  subst hq
  subst hn'
  subst hty
  intro g ls H locs hl hw hs
  have ht := g.2.2.2.2.1
  obtain ⟨L, hL, hP, hD⟩ := hw
  refine va_newa (D := B.1) (atype := at_) (ty := newarray.typeOf at_) g.1 g.2.1 (ht _ harr) rfl g.2.2.2.2.2.1.1 hP hD hs g.2.2.2.2.2.2.1 ha hm hN hby (Nat.le_trans (Nat.le_of_ble_eq_true hn1) g.2.2.2.2.2.2.2.2.2.1) (Nat.le_trans (Nat.le_of_ble_eq_true hn2) g.2.2.2.2.2.2.2.2.2.2) d (fun a c H1 hK1 hP1 hD1 hS1 => ?_)
  have e1 := (hK1.2 (zTys B).length (c, newarray.typeOf at_) (by simp)).2
  have e2 := (g.2.2.2.2.2.1.1.2 t0 _ htys).2
  have e3 : c = cA := by
    cases at_ <;> exact Option.some.inj (e1.symm.trans e2)
  subst e3
  obtain ⟨h1, h2⟩ := zWd_new hL hP1 hD1
  exact kk a h1 g ls H1 locs hl h2 hS1
theorem zn_arrQ {n' : Nat × Nat} {C : String} {idx : Nat} {m : Int32} {N t0 : Nat} {cA : ClassId} (q : Nat) (d : decode md.2.1 pc = .ok (.anewarray idx, 3)) (hcl : Cond.classLink md.1.cls idx C ∈ zTT) (hAO : C = RX4 ∨ C = RX9) (htys : (zTys B)[t0]? = some (cA, .object C)) (hm : ¬ m < 0) (hN : m.toNatClampNeg = N) (hby : N * 4 ≤ 536870912) (hn1 : Nat.ble (n.1 + 1) rm.2.1 = true) (hn2 : Nat.ble (n.2 + N) rm.2.2 = true) (hn' : (n.1 + 1, n.2 + N) = n') (hq : pc + 3 = q)
    (kk : ∀ a : Nat, h a = none → zG X md B rm n' q lv (.ref a :: st) (zU h a (.inl (cA, N, .inr (.inr (.inr (.inr (fun _ => none)))))))) : zG X md B rm n pc lv (.int m :: st) h := by
  subst hq
  subst hn'
  intro g ls H locs hl hw hs
  have ht := g.2.2.2.2.1
  have hao : va_AO C (zXs X) := by
    rcases hAO with rfl | rfl
    · exact g.2.2.2.2.2.1.2.2.1
    · exact g.2.2.2.2.2.1.2.2.2
  obtain ⟨L, hL, hP, hD⟩ := hw
  refine va_newq (D := B.1) g.1 g.2.1 g.2.2.2.1 (ht _ hcl) hao g.2.2.2.2.2.1.1 hP hD hs g.2.2.2.2.2.2.1 hm hN hby (Nat.le_trans (Nat.le_of_ble_eq_true hn1) g.2.2.2.2.2.2.2.2.2.1) (Nat.le_trans (Nat.le_of_ble_eq_true hn2) g.2.2.2.2.2.2.2.2.2.2) d (fun a c H1 hK1 hP1 hD1 hS1 => ?_)
  have e1 := (hK1.2 (zTys B).length (c, .object C) (by simp)).2
  have e2 := (g.2.2.2.2.2.1.1.2 t0 _ htys).2
  obtain ⟨_, _, _, _, _, e1⟩ := e1
  obtain ⟨_, _, _, _, _, e2⟩ := e2
  have e3 : c = cA := Option.some.inj (e1.symm.trans e2)
  subst e3
  obtain ⟨h1, h2⟩ := zWd_new hL hP1 hD1
  exact kk a h1 g ls H1 locs hl h2 hS1
theorem zn_aastore {a b nn : Nat} {f : Nat → Option Nat} {ci N t0 : Nat} {C : String} {T : u_T} {cA : ClassId} {fs : List Value} {i : Int32} (q : Nat) (d : decode md.2.1 pc = .ok (.aastore, 1)) (ha : h a = some (.inl (cA, nn, .inr (.inr (.inr (.inr f)))))) (htys : (zTys B)[t0]? = some (cA, .object C)) (hc : zCl ci C T N) (hb : h b = some (.inr (ci, fs))) (hin : vp_in i nn) (hq : pc + 1 = q) (kk : zG X md B rm n q lv st (zU h a (.inl (cA, nn, .inr (.inr (.inr (.inr (va_up f i.toNatClampNeg (some b))))))))) : zG X md B rm n pc lv (.ref b :: .int i :: .ref a :: st) h := by
  subst hq
  intro g ls H locs hl hw hs
  obtain ⟨L, p, hL, hP, hD, hkk, hm⟩ := zWd_get hw ha
  have hmb : b ∈ L := (hL b).mpr (by rw [hb]; simp)
  obtain ⟨p2, hk2⟩ := va_pl_get (X := []) (f := zF h) hmb
  rw [zF_at hb] at hk2
  exact va_astq (D := B.1) (r := (C, T, N)) g.1 g.2.1 g.2.2.2.2.2.1.1 hP hD hs p t0 p2 ci hkk htys hk2 hc.1 hin d (fun H1 locs1 hP1 hD1 hS1 => kk g ls H1 locs1 hl (zWd_set hL hm ha hD hkk hP1 hD1) hS1)
theorem zw_widen {m : Nat × Nat} (h1 : Nat.ble n.1 m.1 = true) (h2 : Nat.ble n.2 m.2 = true) (kk : zG X md B rm m pc lv st h) : zG X md B rm n pc lv st h := fun g ls H locs hl hw hs => W.widen (Nat.le_of_ble_eq_true h1) (Nat.le_of_ble_eq_true h2) (kk g ls H locs hl hw hs)
end ZC
