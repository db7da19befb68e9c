/-! what a constructor makes: new cells at new places, the object's own fields, nothing else -/
theorem nbl {a b : Nat} (h : a ≤ b) : Nat.ble a b = true := by rw [Nat.ble_eq]; exact h
abbrev z0 : z4 := (0, 0, 0, 0)
def zZ (h0 h : zHp) (a : Nat) (L : List Nat) : Prop := (a :: L).Nodup ∧ (∀ x ∈ L, h0 x = none ∧ h x ≠ none) ∧ h a ≠ none ∧ ∀ x, x ≠ a → x ∉ L → h x = h0 x
theorem zZ_0 {h : zHp} {a : Nat} {e : va_E} (ha : h a = some e) : zZ h h a [] := ⟨by simp, by simp, by rw [ha]; simp, fun _ _ _ => rfl⟩
theorem zZ_p {h0 h : zHp} {a : Nat} {L L' : List Nat} (p : L.Perm L') (Z : zZ h0 h a L) : zZ h0 h a L' := ⟨(List.Perm.cons a p).nodup_iff.mp Z.1, fun x hx => Z.2.1 x (p.mem_iff.mpr hx), Z.2.2.1, fun x h1 h2 => Z.2.2.2 x h1 (fun q => h2 (p.mem_iff.mp q))⟩
theorem zZ_w {h0 h h' : zHp} {a b : Nat} {e : va_E} {L : List Nat} (Z : zZ h0 h a L) (hb : b ∈ a :: L) (k : h' = zU h b e) : zZ h0 h' a L := by
  have nn : ∀ x, h x ≠ none → h' x ≠ none := fun x hx => by
    rw [k]
    by_cases q : x = b
    · rw [q, zU_s]; simp
    · rw [zU_n _ _ q]; exact hx
  refine ⟨Z.1, fun x hx => ⟨(Z.2.1 x hx).1, nn x (Z.2.1 x hx).2⟩, nn a Z.2.2.1, fun x h1 h2 => ?_⟩
  rw [k, zU_n _ _ (fun q => by rw [q] at h1 h2; rcases List.mem_cons.mp hb with r | r; exact h1 r; exact h2 r)]
  exact Z.2.2.2 x h1 h2
theorem zZ_c {h0 h h' : zHp} {a b : Nat} {L L' : List Nat} (Z : zZ h0 h a L) (hb : b ∈ a :: L) (Z' : zZ h h' b L') : zZ h0 h' a (L ++ L') := by
  have ex : ∀ x ∈ a :: L, h x ≠ none := fun x hx => by
    rcases List.mem_cons.mp hx with r | r
    · rw [r]; exact Z.2.2.1
    · exact (Z.2.1 x r).2
  have dj : ∀ x ∈ a :: L, x ∉ L' := fun x hx r => ex x hx (Z'.2.1 x r).1
  have nn : ∀ x ∈ a :: L, h' x ≠ none := fun x hx => by
    by_cases q : x = b
    · rw [q]; exact Z'.2.2.1
    · rw [Z'.2.2.2 x q (dj x hx)]; exact ex x hx
  refine ⟨?_, fun x hx => ?_, nn a List.mem_cons_self, fun x h1 h2 => ?_⟩
  · rw [← List.cons_append, List.nodup_append]
    exact ⟨Z.1, (List.nodup_cons.mp Z'.1).2, fun x hx y hy e => dj x hx (e ▸ hy)⟩
  · rcases List.mem_append.mp hx with r | r
    · exact ⟨(Z.2.1 x r).1, nn x (List.mem_cons_of_mem _ r)⟩
    · refine ⟨?_, (Z'.2.1 x r).2⟩
      rw [← Z.2.2.2 x (fun q => dj a List.mem_cons_self (q ▸ r)) (fun q => dj x (List.mem_cons_of_mem _ q) r)]
      exact (Z'.2.1 x r).1
  · rw [List.mem_append] at h2
    have h3 : x ≠ b := fun q => by
      rw [q] at h1 h2
      rcases List.mem_cons.mp hb with r | r
      · exact h1 r
      · exact h2 (Or.inl r)
    rw [Z'.2.2.2 x h3 (fun q => h2 (Or.inr q))]
    exact Z.2.2.2 x h1 (fun q => h2 (Or.inl q))
theorem zZ_new {h0 h h' : zHp} {a q : Nat} {e : va_E} {L : List Nat} (Z : zZ h0 h a L) (hq : h q = none) (k : h' = zU h q e) : zZ h0 h' a (L ++ [q]) := by
  have ex : ∀ x ∈ a :: L, x ≠ q := fun x hx r => by
    rw [r] at hx
    rcases List.mem_cons.mp hx with s | s
    · exact Z.2.2.1 (s ▸ hq)
    · exact (Z.2.1 q s).2 hq
  refine ⟨?_, fun x hx => ?_, ?_, fun x h1 h2 => ?_⟩
  · rw [← List.cons_append, List.nodup_append]
    exact ⟨Z.1, by simp, fun x hx y hy e => ex x hx (by rw [List.mem_singleton.mp hy] at e; exact e)⟩
  · rcases List.mem_append.mp hx with r | r
    · refine ⟨(Z.2.1 x r).1, ?_⟩
      rw [k, zU_n _ _ (ex x (List.mem_cons_of_mem _ r))]
      exact (Z.2.1 x r).2
    · rw [List.mem_singleton.mp r]
      refine ⟨?_, by rw [k, zU_s]; simp⟩
      rw [← Z.2.2.2 q (fun s => ex a List.mem_cons_self s.symm) (fun s => ex q (List.mem_cons_of_mem _ s) rfl)]
      exact hq
  · rw [k, zU_n _ _ (ex a List.mem_cons_self)]
    exact Z.2.2.1
  · rw [List.mem_append] at h2
    rw [k, zU_n _ _ (fun r => h2 (Or.inr (List.mem_singleton.mpr r)))]
    exact Z.2.2.2 x h1 (fun r => h2 (Or.inl r))
theorem zZ_f {h h' : zHp} {a x : Nat} {e : va_E} {L : List Nat} (Z : zZ h h' a L) (hne : x ≠ a) (hx : h x = some e) : h' x = some e := by
  rw [Z.2.2.2 x hne (fun q => by have := (Z.2.1 x q).1; rw [hx] at this; cases this)]
  exact hx
theorem zne {h : zHp} {a q : Nat} {e : va_E} (ha : h a = some e) (hq : h q = none) : a ≠ q := fun r => by rw [r, hq] at ha; cases ha
/-- ahead of the field's writing -/
theorem zZ_pre {h h1 h2 : zHp} {a q : Nat} {e ea : va_E} {L' : List Nat} (ha : h a = some ea) (hq : h q = none) (k1 : h1 = zU h q e) (Zc : zZ h1 h2 q L') : h2 a = some ea := zZ_f Zc (zne ha hq) (zX1 k1 (zne ha hq) ha)
/-- a field holds a new object -/
theorem zZ_cp {h0 h h1 h2 h3 : zHp} {a q : Nat} {e ea ea' : va_E} {L L' : List Nat} (Z : zZ h0 h a L) (ha : h a = some ea) (hq : h q = none) (k1 : h1 = zU h q e) (Zc : zZ h1 h2 q L') (k3 : h3 = zU h2 a ea') : zZ h0 h3 a (L ++ (q :: L')) ∧ h3 a = some ea' ∧ (∀ x, x ∈ q :: L' → h3 x = h2 x ∧ x ≠ a) ∧ ∀ x e', x ≠ a → h x = some e' → h3 x = some e' := by
  have Z1 := zZ_new Z hq k1
  have Z2 := zZ_c Z1 (by simp) Zc
  rw [List.append_assoc, List.singleton_append] at Z2
  have Z3 := zZ_w Z2 List.mem_cons_self k3
  have hn : ∀ x, x ∈ q :: L' → x ≠ a := fun x hx r => (List.nodup_cons.mp Z2.1).1 (r ▸ List.mem_append.mpr (Or.inr hx))
  refine ⟨Z3, zX0 k3, fun x hx => ⟨?_, hn x hx⟩, fun x e' hx he => ?_⟩
  · rw [k3, zU_n _ _ (hn x hx)]
  · have nq : x ≠ q := zne he hq
    exact zX1 k3 hx (zZ_f Zc nq (zX1 k1 nq he))

set_option maxHeartbeats 4000000 in
set_option maxRecDepth 100000 in
theorem s_X4_init (B : zBB) (h : zHp) (a : Nat) : zSpec mX4_init B (1, 0, 0) [.ref a] h (zPf none h) := by
  refine zSpec.of (by decide) (Nat.le_of_ble_eq_true rfl) (fun X hZ => ?_)
  show zG X mX4_init B (1, 0, 0) (0, 0) 0 [(0, .ref a)] [] h
  refine zi_aload_n 1 dX4_init_0 rfl rfl ?_
  refine zc_obj 4 dX4_init_1 tw_102 tw_73 zObjCode rfl rfl rfl ?_
  exact zr_void hZ dX4_init_4 rfl ⟨rfl, rfl⟩

set_option maxHeartbeats 4000000 in
set_option maxRecDepth 100000 in
theorem s_X9_init (B : zBB) (h : zHp) (a : Nat) (ha : h a = some (zO 9 [.null, .int 0, .int 0])) : zSpec mX9_init B (1, 1, 100) [.ref a] h (zPv (fun h' => ∃ q, zZ h h' a [q] ∧ h' a = some (zO 9 [.ref q, .int (-1), .int 0]) ∧ h' q = some (zJ B 100 (fun _ => 0)))) := by
  refine zSpec.of (by decide) (Nat.le_of_ble_eq_true rfl) (fun X hZ => ?_)
  show zG X mX9_init B (1, 1, 100) (0, 0) 0 [(0, .ref a)] [] h
  refine zi_aload_n 1 dX9_init_0 rfl rfl ?_
  refine zc_obj 4 dX9_init_1 tw_81 tw_73 zObjCode rfl rfl rfl ?_
  refine zi_aload_n 5 dX9_init_4 rfl rfl ?_
  refine zi_bipush (v := 100) 7 dX9_init_5 (by decide) rfl ?_
  refine zn_arr (mk := fun _ _ => .inr (0, [])) (n' := (1, 100)) (t0 := 1) (N := 100) (a0 := (100, .inr (.inl (fun _ => 0)))) 9 dX9_init_7 tw_95 rfl rfl (fun _ h => by cases h) (fun _ => rfl) (by decide) (by decide) (Nat.le_of_ble_eq_true rfl) rfl rfl rfl rfl (fun q hq => ?_)
  refine zk_h (fun h1 k1 => ?_)
  have c0 := zZ_0 (zX0 k1)
  have p0 := zZ_pre ha hq k1 c0
  refine zi_putfieldF (fs' := [_, _, _]) hZ 12 0 dX9_init_9 zcl_X9 tyX9 tyX9_ok nmX9 tw_82 rfl rfl rfl rfl rfl p0 rfl rfl rfl rfl rfl rfl ?_
  refine zk_h (fun h2 k2 => ?_)
  obtain ⟨Z1, a0, m0, t0⟩ := zZ_cp (zZ_0 ha) ha hq k1 c0 k2
  have f0 := (m0 q (by simp)).1.trans (zX0 k1)
  refine zi_aload_n 13 dX9_init_12 rfl rfl ?_
  refine zi_iconst (v := (-1)) 14 dX9_init_13 (by decide) rfl ?_
  refine zi_putfield (fs' := [_, _, _]) 17 1 dX9_init_14 zcl_X9 tyX9 tyX9_ok nmX9 tw_84 rfl rfl rfl a0 rfl rfl rfl rfl rfl rfl ?_
  refine zk_h (fun h3 k3 => ?_)
  have Z2 := zZ_w Z1 List.mem_cons_self k3
  have a2 := zX0 k3
  have f2 := zX1 k3 (m0 q (by simp)).2 f0
  refine zi_aload_n 18 dX9_init_17 rfl rfl ?_
  refine zi_iconst (v := 0) 19 dX9_init_18 (by decide) rfl ?_
  refine zi_putfield (fs' := [_, _, _]) 22 2 dX9_init_19 zcl_X9 tyX9 tyX9_ok nmX9 tw_86 rfl rfl rfl a2 rfl rfl rfl rfl rfl rfl ?_
  refine zk_h (fun h4 k4 => ?_)
  have Z3 := zZ_w Z2 List.mem_cons_self k4
  have a3 := zX0 k4
  have f3 := zX1 k4 (m0 q (by simp)).2 f2
  exact zr_void hZ dX9_init_22 rfl ⟨rfl, q, Z3, a3, f3⟩

set_option maxHeartbeats 4000000 in
set_option maxRecDepth 100000 in
theorem s_X8_init (B : zBB) (h : zHp) (a : Nat) (ha : h a = some (zO 8 [.long 0, .null])) : zSpec mX8_init B (1, 1, 9) [.ref a] h (zPv (fun h' => ∃ q, zZ h h' a [q] ∧ h' a = some (zO 8 [.long 1, .ref q]) ∧ h' q = some (zJ B 9 (fun _ => 0)))) := by
  refine zSpec.of (by decide) (Nat.le_of_ble_eq_true rfl) (fun X hZ => ?_)
  show zG X mX8_init B (1, 1, 9) (0, 0) 0 [(0, .ref a)] [] h
  refine zi_aload_n 1 dX8_init_0 rfl rfl ?_
  refine zc_obj 4 dX8_init_1 tw_258 tw_73 zObjCode rfl rfl rfl ?_
  refine zi_aload_n 5 dX8_init_4 rfl rfl ?_
  refine zi_bipush (v := 9) 7 dX8_init_5 (by decide) rfl ?_
  refine zn_arr (mk := fun _ _ => .inr (0, [])) (n' := (1, 9)) (t0 := 1) (N := 9) (a0 := (9, .inr (.inl (fun _ => 0)))) 9 dX8_init_7 tw_95 rfl rfl (fun _ h => by cases h) (fun _ => rfl) (by decide) (by decide) (Nat.le_of_ble_eq_true rfl) rfl rfl rfl rfl (fun q hq => ?_)
  refine zk_h (fun h1 k1 => ?_)
  have c0 := zZ_0 (zX0 k1)
  have p0 := zZ_pre ha hq k1 c0
  refine zi_putfieldF (fs' := [_, _]) hZ 12 1 dX8_init_9 zcl_X8 tyX8 tyX8_ok nmX8 tw_261 rfl rfl rfl rfl rfl p0 rfl rfl rfl rfl rfl rfl ?_
  refine zk_h (fun h2 k2 => ?_)
  obtain ⟨Z1, a0, m0, t0⟩ := zZ_cp (zZ_0 ha) ha hq k1 c0 k2
  have f0 := (m0 q (by simp)).1.trans (zX0 k1)
  refine zi_aload_n 13 dX8_init_12 rfl rfl ?_
  refine zi_lconst (v := 1) 14 dX8_init_13 (by decide) rfl ?_
  refine zi_putfield (fs' := [_, _]) 17 0 dX8_init_14 zcl_X8 tyX8 tyX8_ok nmX8 tw_259 rfl rfl rfl a0 rfl rfl rfl rfl rfl rfl ?_
  refine zk_h (fun h3 k3 => ?_)
  have Z2 := zZ_w Z1 List.mem_cons_self k3
  have a2 := zX0 k3
  have f2 := zX1 k3 (m0 q (by simp)).2 f0
  exact zr_void hZ dX8_init_17 rfl ⟨rfl, q, Z2, a2, f2⟩

set_option maxHeartbeats 4000000 in
set_option maxRecDepth 100000 in
theorem s_X0_init (B : zBB) (h : zHp) (a : Nat) (ha : h a = some (zO 0 [.null, .int 0])) : zSpec mX0_init B (1, 1, 16) [.ref a] h (zPv (fun h' => ∃ q, zZ h h' a [q] ∧ h' a = some (zO 0 [.ref q, .int 0]) ∧ h' q = some (zI B 16 (fun _ => 0)))) := by
  refine zSpec.of (by decide) (Nat.le_of_ble_eq_true rfl) (fun X hZ => ?_)
  show zG X mX0_init B (1, 1, 16) (0, 0) 0 [(0, .ref a)] [] h
  refine zi_aload_n 1 dX0_init_0 rfl rfl ?_
  refine zc_obj 4 dX0_init_1 tw_302 tw_73 zObjCode rfl rfl rfl ?_
  refine zi_aload_n 5 dX0_init_4 rfl rfl ?_
  refine zi_bipush (v := 16) 7 dX0_init_5 (by decide) rfl ?_
  refine zn_arr (mk := fun _ _ => .inr (0, [])) (n' := (1, 16)) (t0 := 0) (N := 16) (a0 := (16, .inl (fun _ => 0))) 9 dX0_init_7 tw_132 rfl rfl (fun _ h => by cases h) (fun _ => rfl) (by decide) (by decide) (Nat.le_of_ble_eq_true rfl) rfl rfl rfl rfl (fun q hq => ?_)
  refine zk_h (fun h1 k1 => ?_)
  have c0 := zZ_0 (zX0 k1)
  have p0 := zZ_pre ha hq k1 c0
  refine zi_putfieldF (fs' := [_, _]) hZ 12 0 dX0_init_9 zcl_X0 tyX0 tyX0_ok nmX0 tw_303 rfl rfl rfl rfl rfl p0 rfl rfl rfl rfl rfl rfl ?_
  refine zk_h (fun h2 k2 => ?_)
  obtain ⟨Z1, a0, m0, t0⟩ := zZ_cp (zZ_0 ha) ha hq k1 c0 k2
  have f0 := (m0 q (by simp)).1.trans (zX0 k1)
  refine zi_aload_n 13 dX0_init_12 rfl rfl ?_
  refine zi_iconst (v := 0) 14 dX0_init_13 (by decide) rfl ?_
  refine zi_putfield (fs' := [_, _]) 17 1 dX0_init_14 zcl_X0 tyX0 tyX0_ok nmX0 tw_304 rfl rfl rfl a0 rfl rfl rfl rfl rfl rfl ?_
  refine zk_h (fun h3 k3 => ?_)
  have Z2 := zZ_w Z1 List.mem_cons_self k3
  have a2 := zX0 k3
  have f2 := zX1 k3 (m0 q (by simp)).2 f0
  exact zr_void hZ dX0_init_17 rfl ⟨rfl, q, Z2, a2, f2⟩

set_option maxHeartbeats 4000000 in
set_option maxRecDepth 100000 in
theorem s_X3_init (B : zBB) (h : zHp) (a : Nat) (ha : h a = some (zO 3 [.null, .null, .null, .null])) : zSpec mX3_init B (2, 4, 16) [.ref a] h (zPv (fun h' => ∃ q1 q2 q3 q4 : Nat, zZ h h' a [q1, q2, q3, q4] ∧ h' a = some (zO 3 [.ref q1, .ref q2, .ref q3, .ref q4]) ∧ h' q1 = some (zFo z0) ∧ h' q2 = some (zFo z0) ∧ h' q3 = some (zFo z0) ∧ h' q4 = some (zFo z0))) := by
  refine zSpec.of (by decide) (Nat.le_of_ble_eq_true rfl) (fun X hZ => ?_)
  show zG X mX3_init B (2, 4, 16) (0, 0) 0 [(0, .ref a)] [] h
  have Z0 := zZ_0 ha
  refine zi_aload_n 1 dX3_init_0 rfl rfl ?_
  refine zc_obj 4 dX3_init_1 tw_138 tw_73 zObjCode rfl rfl rfl ?_
  refine zi_aload_n 5 dX3_init_4 rfl rfl ?_
  refine zn_new (fs := [.long 0, .long 0, .long 0, .long 0]) (n' := (1, 4)) 8 dX3_init_5 zcl_X4 tyX4 tyX4_ok tw_139 tw_98 tw_55 (by decide +kernel) rfl rfl rfl rfl (fun q1 hq1 => ?_)
  refine zk_h (fun h1 k1 => ?_)
  refine zi_dup 9 dX3_init_8 rfl rfl ?_
  refine zc_specialN (n' := (1, 4)) (md' := mX4_init) 12 dX3_init_9 (by decide) zn_X4_init (s_X4_init B h1 q1) rfl rfl rfl rfl rfl rfl rfl rfl (zk_n ?_)
  have c0 := zZ_0 (zX0 k1)
  have p0 := zZ_pre ha hq1 k1 c0
  refine zi_putfieldF (fs' := [_, _, _, _]) hZ 15 0 dX3_init_12 zcl_X3 tyX3 tyX3_ok nmX3 tw_141 rfl rfl rfl rfl rfl p0 rfl rfl rfl rfl rfl rfl ?_
  refine zk_h (fun h3 k3 => ?_)
  obtain ⟨Z1, a0, m0, t0⟩ := zZ_cp Z0 ha hq1 k1 c0 k3
  have n0_q1 := (m0 q1 (by simp)).2
  have f0_q1 := (m0 q1 (by simp)).1.trans (zX0 k1)
  refine zi_aload_n 16 dX3_init_15 rfl rfl ?_
  refine zn_new (fs := [.long 0, .long 0, .long 0, .long 0]) (n' := (2, 8)) 19 dX3_init_16 zcl_X4 tyX4 tyX4_ok tw_139 tw_98 tw_55 (by decide +kernel) rfl rfl rfl rfl (fun q2 hq2 => ?_)
  refine zk_h (fun h4 k4 => ?_)
  refine zi_dup 20 dX3_init_19 rfl rfl ?_
  refine zc_specialN (n' := (2, 8)) (md' := mX4_init) 23 dX3_init_20 (by decide) zn_X4_init (s_X4_init B h4 q2) rfl rfl rfl rfl rfl rfl rfl rfl (zk_n ?_)
  have c1 := zZ_0 (zX0 k4)
  have p1 := zZ_pre a0 hq2 k4 c1
  refine zi_putfieldF (fs' := [_, _, _, _]) hZ 26 1 dX3_init_23 zcl_X3 tyX3 tyX3_ok nmX3 tw_143 rfl rfl rfl rfl rfl p1 rfl rfl rfl rfl rfl rfl ?_
  refine zk_h (fun h6 k6 => ?_)
  obtain ⟨Z2, a1, m1, t1⟩ := zZ_cp Z1 a0 hq2 k4 c1 k6
  have f1_q1 := t1 _ _ n0_q1 f0_q1
  have n1_q2 := (m1 q2 (by simp)).2
  have f1_q2 := (m1 q2 (by simp)).1.trans (zX0 k4)
  refine zi_aload_n 27 dX3_init_26 rfl rfl ?_
  refine zn_new (fs := [.long 0, .long 0, .long 0, .long 0]) (n' := (3, 12)) 30 dX3_init_27 zcl_X4 tyX4 tyX4_ok tw_139 tw_98 tw_55 (by decide +kernel) rfl rfl rfl rfl (fun q3 hq3 => ?_)
  refine zk_h (fun h7 k7 => ?_)
  refine zi_dup 31 dX3_init_30 rfl rfl ?_
  refine zc_specialN (n' := (3, 12)) (md' := mX4_init) 34 dX3_init_31 (by decide) zn_X4_init (s_X4_init B h7 q3) rfl rfl rfl rfl rfl rfl rfl rfl (zk_n ?_)
  have c2 := zZ_0 (zX0 k7)
  have p2 := zZ_pre a1 hq3 k7 c2
  refine zi_putfieldF (fs' := [_, _, _, _]) hZ 37 2 dX3_init_34 zcl_X3 tyX3 tyX3_ok nmX3 tw_146 rfl rfl rfl rfl rfl p2 rfl rfl rfl rfl rfl rfl ?_
  refine zk_h (fun h9 k9 => ?_)
  obtain ⟨Z3, a2, m2, t2⟩ := zZ_cp Z2 a1 hq3 k7 c2 k9
  have f2_q1 := t2 _ _ n0_q1 f1_q1
  have f2_q2 := t2 _ _ n1_q2 f1_q2
  have n2_q3 := (m2 q3 (by simp)).2
  have f2_q3 := (m2 q3 (by simp)).1.trans (zX0 k7)
  refine zi_aload_n 38 dX3_init_37 rfl rfl ?_
  refine zn_new (fs := [.long 0, .long 0, .long 0, .long 0]) (n' := (4, 16)) 41 dX3_init_38 zcl_X4 tyX4 tyX4_ok tw_139 tw_98 tw_55 (by decide +kernel) rfl rfl rfl rfl (fun q4 hq4 => ?_)
  refine zk_h (fun h10 k10 => ?_)
  refine zi_dup 42 dX3_init_41 rfl rfl ?_
  refine zc_specialN (n' := (4, 16)) (md' := mX4_init) 45 dX3_init_42 (by decide) zn_X4_init (s_X4_init B h10 q4) rfl rfl rfl rfl rfl rfl rfl rfl (zk_n ?_)
  have c3 := zZ_0 (zX0 k10)
  have p3 := zZ_pre a2 hq4 k10 c3
  refine zi_putfieldF (fs' := [_, _, _, _]) hZ 48 3 dX3_init_45 zcl_X3 tyX3 tyX3_ok nmX3 tw_147 rfl rfl rfl rfl rfl p3 rfl rfl rfl rfl rfl rfl ?_
  refine zk_h (fun h12 k12 => ?_)
  obtain ⟨Z4, a3, m3, t3⟩ := zZ_cp Z3 a2 hq4 k10 c3 k12
  have f3_q1 := t3 _ _ n0_q1 f2_q1
  have f3_q2 := t3 _ _ n1_q2 f2_q2
  have f3_q3 := t3 _ _ n2_q3 f2_q3
  have n3_q4 := (m3 q4 (by simp)).2
  have f3_q4 := (m3 q4 (by simp)).1.trans (zX0 k10)
  exact zr_void hZ dX3_init_48 rfl ⟨rfl, q1, q2, q3, q4, Z4, a3, f3_q1, f3_q2, f3_q3, f3_q4⟩

set_option maxHeartbeats 4000000 in
set_option maxRecDepth 100000 in
theorem s_X1_init (B : zBB) (h : zHp) (a : Nat) (ha : h a = some (zO 1 [.null, .null, .null])) : zSpec mX1_init B (2, 3, 12) [.ref a] h (zPv (fun h' => ∃ q1 q2 q3 : Nat, zZ h h' a [q1, q2, q3] ∧ h' a = some (zO 1 [.ref q1, .ref q2, .ref q3]) ∧ h' q1 = some (zFo z0) ∧ h' q2 = some (zFo z0) ∧ h' q3 = some (zFo z0))) := by
  refine zSpec.of (by decide) (Nat.le_of_ble_eq_true rfl) (fun X hZ => ?_)
  show zG X mX1_init B (2, 3, 12) (0, 0) 0 [(0, .ref a)] [] h
  have Z0 := zZ_0 ha
  refine zi_aload_n 1 dX1_init_0 rfl rfl ?_
  refine zc_obj 4 dX1_init_1 tw_162 tw_73 zObjCode rfl rfl rfl ?_
  refine zi_aload_n 5 dX1_init_4 rfl rfl ?_
  refine zn_new (fs := [.long 0, .long 0, .long 0, .long 0]) (n' := (1, 4)) 8 dX1_init_5 zcl_X4 tyX4 tyX4_ok tw_163 tw_98 tw_55 (by decide +kernel) rfl rfl rfl rfl (fun q1 hq1 => ?_)
  refine zk_h (fun h1 k1 => ?_)
  refine zi_dup 9 dX1_init_8 rfl rfl ?_
  refine zc_specialN (n' := (1, 4)) (md' := mX4_init) 12 dX1_init_9 (by decide) zn_X4_init (s_X4_init B h1 q1) rfl rfl rfl rfl rfl rfl rfl rfl (zk_n ?_)
  have c0 := zZ_0 (zX0 k1)
  have p0 := zZ_pre ha hq1 k1 c0
  refine zi_putfieldF (fs' := [_, _, _]) hZ 15 0 dX1_init_12 zcl_X1 tyX1 tyX1_ok nmX1 tw_165 rfl rfl rfl rfl rfl p0 rfl rfl rfl rfl rfl rfl ?_
  refine zk_h (fun h3 k3 => ?_)
  obtain ⟨Z1, a0, m0, t0⟩ := zZ_cp Z0 ha hq1 k1 c0 k3
  have n0_q1 := (m0 q1 (by simp)).2
  have f0_q1 := (m0 q1 (by simp)).1.trans (zX0 k1)
  refine zi_aload_n 16 dX1_init_15 rfl rfl ?_
  refine zn_new (fs := [.long 0, .long 0, .long 0, .long 0]) (n' := (2, 8)) 19 dX1_init_16 zcl_X4 tyX4 tyX4_ok tw_163 tw_98 tw_55 (by decide +kernel) rfl rfl rfl rfl (fun q2 hq2 => ?_)
  refine zk_h (fun h4 k4 => ?_)
  refine zi_dup 20 dX1_init_19 rfl rfl ?_
  refine zc_specialN (n' := (2, 8)) (md' := mX4_init) 23 dX1_init_20 (by decide) zn_X4_init (s_X4_init B h4 q2) rfl rfl rfl rfl rfl rfl rfl rfl (zk_n ?_)
  have c1 := zZ_0 (zX0 k4)
  have p1 := zZ_pre a0 hq2 k4 c1
  refine zi_putfieldF (fs' := [_, _, _]) hZ 26 1 dX1_init_23 zcl_X1 tyX1 tyX1_ok nmX1 tw_168 rfl rfl rfl rfl rfl p1 rfl rfl rfl rfl rfl rfl ?_
  refine zk_h (fun h6 k6 => ?_)
  obtain ⟨Z2, a1, m1, t1⟩ := zZ_cp Z1 a0 hq2 k4 c1 k6
  have f1_q1 := t1 _ _ n0_q1 f0_q1
  have n1_q2 := (m1 q2 (by simp)).2
  have f1_q2 := (m1 q2 (by simp)).1.trans (zX0 k4)
  refine zi_aload_n 27 dX1_init_26 rfl rfl ?_
  refine zn_new (fs := [.long 0, .long 0, .long 0, .long 0]) (n' := (3, 12)) 30 dX1_init_27 zcl_X4 tyX4 tyX4_ok tw_163 tw_98 tw_55 (by decide +kernel) rfl rfl rfl rfl (fun q3 hq3 => ?_)
  refine zk_h (fun h7 k7 => ?_)
  refine zi_dup 31 dX1_init_30 rfl rfl ?_
  refine zc_specialN (n' := (3, 12)) (md' := mX4_init) 34 dX1_init_31 (by decide) zn_X4_init (s_X4_init B h7 q3) rfl rfl rfl rfl rfl rfl rfl rfl (zk_n ?_)
  have c2 := zZ_0 (zX0 k7)
  have p2 := zZ_pre a1 hq3 k7 c2
  refine zi_putfieldF (fs' := [_, _, _]) hZ 37 2 dX1_init_34 zcl_X1 tyX1 tyX1_ok nmX1 tw_169 rfl rfl rfl rfl rfl p2 rfl rfl rfl rfl rfl rfl ?_
  refine zk_h (fun h9 k9 => ?_)
  obtain ⟨Z3, a2, m2, t2⟩ := zZ_cp Z2 a1 hq3 k7 c2 k9
  have f2_q1 := t2 _ _ n0_q1 f1_q1
  have f2_q2 := t2 _ _ n1_q2 f1_q2
  have n2_q3 := (m2 q3 (by simp)).2
  have f2_q3 := (m2 q3 (by simp)).1.trans (zX0 k7)
  exact zr_void hZ dX1_init_37 rfl ⟨rfl, q1, q2, q3, Z3, a2, f2_q1, f2_q2, f2_q3⟩

set_option maxHeartbeats 4000000 in
set_option maxRecDepth 100000 in
theorem s_X5_init (B : zBB) (h : zHp) (a : Nat) (ha : h a = some (zO 5 [.null, .null, .null, .null, .null])) : zSpec mX5_init B (3, 12, 47) [.ref a] h (zPv (fun h' => ∃ q1 q2 q3 d d1 d2 d3 d4 c c1 c2 c3 : Nat, zZ h h' a [q1, q2, q3, d, d1, d2, d3, d4, c, c1, c2, c3] ∧ h' a = some (zO 5 [.ref q1, .ref q2, .ref q3, .ref d, .ref c]) ∧ h' q1 = some (zFo z0) ∧ h' q2 = some (zFo z0) ∧ h' q3 = some (zFo z0) ∧ h' d = some (zO 3 [.ref d1, .ref d2, .ref d3, .ref d4]) ∧ h' d1 = some (zFo z0) ∧ h' d2 = some (zFo z0) ∧ h' d3 = some (zFo z0) ∧ h' d4 = some (zFo z0) ∧ h' c = some (zO 1 [.ref c1, .ref c2, .ref c3]) ∧ h' c1 = some (zFo z0) ∧ h' c2 = some (zFo z0) ∧ h' c3 = some (zFo z0))) := by
  refine zSpec.of (by decide) (Nat.le_of_ble_eq_true rfl) (fun X hZ => ?_)
  show zG X mX5_init B (3, 12, 47) (0, 0) 0 [(0, .ref a)] [] h
  have Z0 := zZ_0 ha
  refine zi_aload_n 1 dX5_init_0 rfl rfl ?_
  refine zc_obj 4 dX5_init_1 tw_182 tw_73 zObjCode rfl rfl rfl ?_
  refine zi_aload_n 5 dX5_init_4 rfl rfl ?_
  refine zn_new (fs := [.long 0, .long 0, .long 0, .long 0]) (n' := (1, 4)) 8 dX5_init_5 zcl_X4 tyX4 tyX4_ok tw_183 tw_98 tw_55 (by decide +kernel) rfl rfl rfl rfl (fun q1 hq1 => ?_)
  refine zk_h (fun h1 k1 => ?_)
  refine zi_dup 9 dX5_init_8 rfl rfl ?_
  refine zc_specialN (n' := (1, 4)) (md' := mX4_init) 12 dX5_init_9 (by decide) zn_X4_init (s_X4_init B h1 q1) rfl rfl rfl rfl rfl rfl rfl rfl (zk_n ?_)
  have c0 := zZ_0 (zX0 k1)
  have p0 := zZ_pre ha hq1 k1 c0
  refine zi_putfieldF (fs' := [_, _, _, _, _]) hZ 15 0 dX5_init_12 zcl_X5 tyX5 tyX5_ok nmX5 tw_189 rfl rfl rfl rfl rfl p0 rfl rfl rfl rfl rfl rfl ?_
  refine zk_h (fun h3 k3 => ?_)
  obtain ⟨Z1, a0, m0, t0⟩ := zZ_cp Z0 ha hq1 k1 c0 k3
  have n0_q1 := (m0 q1 (by simp)).2
  have f0_q1 := (m0 q1 (by simp)).1.trans (zX0 k1)
  refine zi_aload_n 16 dX5_init_15 rfl rfl ?_
  refine zn_new (fs := [.long 0, .long 0, .long 0, .long 0]) (n' := (2, 8)) 19 dX5_init_16 zcl_X4 tyX4 tyX4_ok tw_183 tw_98 tw_55 (by decide +kernel) rfl rfl rfl rfl (fun q2 hq2 => ?_)
  refine zk_h (fun h4 k4 => ?_)
  refine zi_dup 20 dX5_init_19 rfl rfl ?_
  refine zc_specialN (n' := (2, 8)) (md' := mX4_init) 23 dX5_init_20 (by decide) zn_X4_init (s_X4_init B h4 q2) rfl rfl rfl rfl rfl rfl rfl rfl (zk_n ?_)
  have c1 := zZ_0 (zX0 k4)
  have p1 := zZ_pre a0 hq2 k4 c1
  refine zi_putfieldF (fs' := [_, _, _, _, _]) hZ 26 1 dX5_init_23 zcl_X5 tyX5 tyX5_ok nmX5 tw_192 rfl rfl rfl rfl rfl p1 rfl rfl rfl rfl rfl rfl ?_
  refine zk_h (fun h6 k6 => ?_)
  obtain ⟨Z2, a1, m1, t1⟩ := zZ_cp Z1 a0 hq2 k4 c1 k6
  have f1_q1 := t1 _ _ n0_q1 f0_q1
  have n1_q2 := (m1 q2 (by simp)).2
  have f1_q2 := (m1 q2 (by simp)).1.trans (zX0 k4)
  refine zi_aload_n 27 dX5_init_26 rfl rfl ?_
  refine zn_new (fs := [.long 0, .long 0, .long 0, .long 0]) (n' := (3, 12)) 30 dX5_init_27 zcl_X4 tyX4 tyX4_ok tw_183 tw_98 tw_55 (by decide +kernel) rfl rfl rfl rfl (fun q3 hq3 => ?_)
  refine zk_h (fun h7 k7 => ?_)
  refine zi_dup 31 dX5_init_30 rfl rfl ?_
  refine zc_specialN (n' := (3, 12)) (md' := mX4_init) 34 dX5_init_31 (by decide) zn_X4_init (s_X4_init B h7 q3) rfl rfl rfl rfl rfl rfl rfl rfl (zk_n ?_)
  have c2 := zZ_0 (zX0 k7)
  have p2 := zZ_pre a1 hq3 k7 c2
  refine zi_putfieldF (fs' := [_, _, _, _, _]) hZ 37 2 dX5_init_34 zcl_X5 tyX5 tyX5_ok nmX5 tw_193 rfl rfl rfl rfl rfl p2 rfl rfl rfl rfl rfl rfl ?_
  refine zk_h (fun h9 k9 => ?_)
  obtain ⟨Z3, a2, m2, t2⟩ := zZ_cp Z2 a1 hq3 k7 c2 k9
  have f2_q1 := t2 _ _ n0_q1 f1_q1
  have f2_q2 := t2 _ _ n1_q2 f1_q2
  have n2_q3 := (m2 q3 (by simp)).2
  have f2_q3 := (m2 q3 (by simp)).1.trans (zX0 k7)
  refine zi_aload_n 38 dX5_init_37 rfl rfl ?_
  refine zn_new (fs := [.null, .null, .null, .null]) (n' := (4, 16)) 41 dX5_init_38 zcl_X3 tyX3 tyX3_ok tw_185 tw_134 tw_56 (by decide +kernel) rfl rfl rfl rfl (fun d hd => ?_)
  refine zk_h (fun h10 k10 => ?_)
  refine zi_dup 42 dX5_init_41 rfl rfl ?_
  refine zc_special (n' := (8, 32)) (md' := mX3_init) 45 dX5_init_42 tw_186 zn_X3_init (s_X3_init B h10 d (zX0 k10)) rfl rfl rfl rfl rfl rfl rfl rfl (zk_v fun h11 hp3 => ?_)
  obtain ⟨d1, d2, d3, d4, c3, ed, e1, e2, e3, e4⟩ := hp3
  have p3 := zZ_pre a2 hd k10 c3
  refine zi_putfieldF (fs' := [_, _, _, _, _]) hZ 48 3 dX5_init_45 zcl_X5 tyX5 tyX5_ok nmX5 tw_194 rfl rfl rfl rfl rfl p3 rfl rfl rfl rfl rfl rfl ?_
  refine zk_h (fun h12 k12 => ?_)
  obtain ⟨Z4, a3, m3, t3⟩ := zZ_cp Z3 a2 hd k10 c3 k12
  have f3_q1 := t3 _ _ n0_q1 f2_q1
  have f3_q2 := t3 _ _ n1_q2 f2_q2
  have f3_q3 := t3 _ _ n2_q3 f2_q3
  have n3_d := (m3 d (by simp)).2
  have f3_d := (m3 d (by simp)).1.trans (ed)
  have n3_d1 := (m3 d1 (by simp)).2
  have f3_d1 := (m3 d1 (by simp)).1.trans (e1)
  have n3_d2 := (m3 d2 (by simp)).2
  have f3_d2 := (m3 d2 (by simp)).1.trans (e2)
  have n3_d3 := (m3 d3 (by simp)).2
  have f3_d3 := (m3 d3 (by simp)).1.trans (e3)
  have n3_d4 := (m3 d4 (by simp)).2
  have f3_d4 := (m3 d4 (by simp)).1.trans (e4)
  refine zi_aload_n 49 dX5_init_48 rfl rfl ?_
  refine zn_new (fs := [.null, .null, .null]) (n' := (9, 35)) 52 dX5_init_49 zcl_X1 tyX1 tyX1_ok tw_187 tw_158 tw_57 (by decide +kernel) rfl rfl rfl rfl (fun c hc => ?_)
  refine zk_h (fun h13 k13 => ?_)
  refine zi_dup 53 dX5_init_52 rfl rfl ?_
  refine zc_special (n' := (12, 47)) (md' := mX1_init) 56 dX5_init_53 tw_188 zn_X1_init (s_X1_init B h13 c (zX0 k13)) rfl rfl rfl rfl rfl rfl rfl rfl (zk_v fun h14 hp4 => ?_)
  obtain ⟨c1, c2, c3, c4, ec, g1, g2, g3⟩ := hp4
  have p4 := zZ_pre a3 hc k13 c4
  refine zi_putfieldF (fs' := [_, _, _, _, _]) hZ 59 4 dX5_init_56 zcl_X5 tyX5 tyX5_ok nmX5 tw_195 rfl rfl rfl rfl rfl p4 rfl rfl rfl rfl rfl rfl ?_
  refine zk_h (fun h15 k15 => ?_)
  obtain ⟨Z5, a4, m4, t4⟩ := zZ_cp Z4 a3 hc k13 c4 k15
  have f4_q1 := t4 _ _ n0_q1 f3_q1
  have f4_q2 := t4 _ _ n1_q2 f3_q2
  have f4_q3 := t4 _ _ n2_q3 f3_q3
  have f4_d := t4 _ _ n3_d f3_d
  have f4_d1 := t4 _ _ n3_d1 f3_d1
  have f4_d2 := t4 _ _ n3_d2 f3_d2
  have f4_d3 := t4 _ _ n3_d3 f3_d3
  have f4_d4 := t4 _ _ n3_d4 f3_d4
  have n4_c := (m4 c (by simp)).2
  have f4_c := (m4 c (by simp)).1.trans (ec)
  have n4_c1 := (m4 c1 (by simp)).2
  have f4_c1 := (m4 c1 (by simp)).1.trans (g1)
  have n4_c2 := (m4 c2 (by simp)).2
  have f4_c2 := (m4 c2 (by simp)).1.trans (g2)
  have n4_c3 := (m4 c3 (by simp)).2
  have f4_c3 := (m4 c3 (by simp)).1.trans (g3)
  exact zr_void hZ dX5_init_59 rfl ⟨rfl, q1, q2, q3, d, d1, d2, d3, d4, c, c1, c2, c3, Z5, a4, f4_q1, f4_q2, f4_q3, f4_d, f4_d1, f4_d2, f4_d3, f4_d4, f4_c, f4_c1, f4_c2, f4_c3⟩

set_option maxHeartbeats 4000000 in
set_option maxRecDepth 100000 in
theorem s_X7_init (B : zBB) (h : zHp) (a : Nat) (ha : h a = some (zO 7 [.null, .null, .null, .null, .null])) : zSpec mX7_init B (4, 17, 68) [.ref a] h (zPv (fun h' => ∃ q1 q2 q3 q4 g g1 g2 g3 d d1 d2 d3 d4 c c1 c2 c3 : Nat, zZ h h' a [q1, q2, q3, q4, g, g1, g2, g3, d, d1, d2, d3, d4, c, c1, c2, c3] ∧ h' a = some (zO 7 [.ref q1, .ref q2, .ref q3, .ref q4, .ref g]) ∧ h' q1 = some (zFo z0) ∧ h' q2 = some (zFo z0) ∧ h' q3 = some (zFo z0) ∧ h' q4 = some (zFo z0) ∧ h' g = some (zO 5 [.ref g1, .ref g2, .ref g3, .ref d, .ref c]) ∧ h' g1 = some (zFo z0) ∧ h' g2 = some (zFo z0) ∧ h' g3 = some (zFo z0) ∧ h' d = some (zO 3 [.ref d1, .ref d2, .ref d3, .ref d4]) ∧ h' d1 = some (zFo z0) ∧ h' d2 = some (zFo z0) ∧ h' d3 = some (zFo z0) ∧ h' d4 = some (zFo z0) ∧ h' c = some (zO 1 [.ref c1, .ref c2, .ref c3]) ∧ h' c1 = some (zFo z0) ∧ h' c2 = some (zFo z0) ∧ h' c3 = some (zFo z0))) := by
  refine zSpec.of (by decide) (Nat.le_of_ble_eq_true rfl) (fun X hZ => ?_)
  show zG X mX7_init B (4, 17, 68) (0, 0) 0 [(0, .ref a)] [] h
  have Z0 := zZ_0 ha
  refine zi_aload_n 1 dX7_init_0 rfl rfl ?_
  refine zc_obj 4 dX7_init_1 tw_212 tw_73 zObjCode rfl rfl rfl ?_
  refine zi_aload_n 5 dX7_init_4 rfl rfl ?_
  refine zn_new (fs := [.long 0, .long 0, .long 0, .long 0]) (n' := (1, 4)) 8 dX7_init_5 zcl_X4 tyX4 tyX4_ok tw_213 tw_98 tw_55 (by decide +kernel) rfl rfl rfl rfl (fun q1 hq1 => ?_)
  refine zk_h (fun h1 k1 => ?_)
  refine zi_dup 9 dX7_init_8 rfl rfl ?_
  refine zc_specialN (n' := (1, 4)) (md' := mX4_init) 12 dX7_init_9 (by decide) zn_X4_init (s_X4_init B h1 q1) rfl rfl rfl rfl rfl rfl rfl rfl (zk_n ?_)
  have c0 := zZ_0 (zX0 k1)
  have p0 := zZ_pre ha hq1 k1 c0
  refine zi_putfieldF (fs' := [_, _, _, _, _]) hZ 15 0 dX7_init_12 zcl_X7 tyX7 tyX7_ok nmX7 tw_217 rfl rfl rfl rfl rfl p0 rfl rfl rfl rfl rfl rfl ?_
  refine zk_h (fun h3 k3 => ?_)
  obtain ⟨Z1, a0, m0, t0⟩ := zZ_cp Z0 ha hq1 k1 c0 k3
  have n0_q1 := (m0 q1 (by simp)).2
  have f0_q1 := (m0 q1 (by simp)).1.trans (zX0 k1)
  refine zi_aload_n 16 dX7_init_15 rfl rfl ?_
  refine zn_new (fs := [.long 0, .long 0, .long 0, .long 0]) (n' := (2, 8)) 19 dX7_init_16 zcl_X4 tyX4 tyX4_ok tw_213 tw_98 tw_55 (by decide +kernel) rfl rfl rfl rfl (fun q2 hq2 => ?_)
  refine zk_h (fun h4 k4 => ?_)
  refine zi_dup 20 dX7_init_19 rfl rfl ?_
  refine zc_specialN (n' := (2, 8)) (md' := mX4_init) 23 dX7_init_20 (by decide) zn_X4_init (s_X4_init B h4 q2) rfl rfl rfl rfl rfl rfl rfl rfl (zk_n ?_)
  have c1 := zZ_0 (zX0 k4)
  have p1 := zZ_pre a0 hq2 k4 c1
  refine zi_putfieldF (fs' := [_, _, _, _, _]) hZ 26 1 dX7_init_23 zcl_X7 tyX7 tyX7_ok nmX7 tw_219 rfl rfl rfl rfl rfl p1 rfl rfl rfl rfl rfl rfl ?_
  refine zk_h (fun h6 k6 => ?_)
  obtain ⟨Z2, a1, m1, t1⟩ := zZ_cp Z1 a0 hq2 k4 c1 k6
  have f1_q1 := t1 _ _ n0_q1 f0_q1
  have n1_q2 := (m1 q2 (by simp)).2
  have f1_q2 := (m1 q2 (by simp)).1.trans (zX0 k4)
  refine zi_aload_n 27 dX7_init_26 rfl rfl ?_
  refine zn_new (fs := [.long 0, .long 0, .long 0, .long 0]) (n' := (3, 12)) 30 dX7_init_27 zcl_X4 tyX4 tyX4_ok tw_213 tw_98 tw_55 (by decide +kernel) rfl rfl rfl rfl (fun q3 hq3 => ?_)
  refine zk_h (fun h7 k7 => ?_)
  refine zi_dup 31 dX7_init_30 rfl rfl ?_
  refine zc_specialN (n' := (3, 12)) (md' := mX4_init) 34 dX7_init_31 (by decide) zn_X4_init (s_X4_init B h7 q3) rfl rfl rfl rfl rfl rfl rfl rfl (zk_n ?_)
  have c2 := zZ_0 (zX0 k7)
  have p2 := zZ_pre a1 hq3 k7 c2
  refine zi_putfieldF (fs' := [_, _, _, _, _]) hZ 37 2 dX7_init_34 zcl_X7 tyX7 tyX7_ok nmX7 tw_220 rfl rfl rfl rfl rfl p2 rfl rfl rfl rfl rfl rfl ?_
  refine zk_h (fun h9 k9 => ?_)
  obtain ⟨Z3, a2, m2, t2⟩ := zZ_cp Z2 a1 hq3 k7 c2 k9
  have f2_q1 := t2 _ _ n0_q1 f1_q1
  have f2_q2 := t2 _ _ n1_q2 f1_q2
  have n2_q3 := (m2 q3 (by simp)).2
  have f2_q3 := (m2 q3 (by simp)).1.trans (zX0 k7)
  refine zi_aload_n 38 dX7_init_37 rfl rfl ?_
  refine zn_new (fs := [.long 0, .long 0, .long 0, .long 0]) (n' := (4, 16)) 41 dX7_init_38 zcl_X4 tyX4 tyX4_ok tw_213 tw_98 tw_55 (by decide +kernel) rfl rfl rfl rfl (fun q4 hq4 => ?_)
  refine zk_h (fun h10 k10 => ?_)
  refine zi_dup 42 dX7_init_41 rfl rfl ?_
  refine zc_specialN (n' := (4, 16)) (md' := mX4_init) 45 dX7_init_42 (by decide) zn_X4_init (s_X4_init B h10 q4) rfl rfl rfl rfl rfl rfl rfl rfl (zk_n ?_)
  have c3 := zZ_0 (zX0 k10)
  have p3 := zZ_pre a2 hq4 k10 c3
  refine zi_putfieldF (fs' := [_, _, _, _, _]) hZ 48 3 dX7_init_45 zcl_X7 tyX7 tyX7_ok nmX7 tw_221 rfl rfl rfl rfl rfl p3 rfl rfl rfl rfl rfl rfl ?_
  refine zk_h (fun h12 k12 => ?_)
  obtain ⟨Z4, a3, m3, t3⟩ := zZ_cp Z3 a2 hq4 k10 c3 k12
  have f3_q1 := t3 _ _ n0_q1 f2_q1
  have f3_q2 := t3 _ _ n1_q2 f2_q2
  have f3_q3 := t3 _ _ n2_q3 f2_q3
  have n3_q4 := (m3 q4 (by simp)).2
  have f3_q4 := (m3 q4 (by simp)).1.trans (zX0 k10)
  refine zi_aload_n 49 dX7_init_48 rfl rfl ?_
  refine zn_new (fs := [.null, .null, .null, .null, .null]) (n' := (5, 21)) 52 dX7_init_49 zcl_X5 tyX5 tyX5_ok tw_215 tw_178 tw_58 (by decide +kernel) rfl rfl rfl rfl (fun g hg => ?_)
  refine zk_h (fun h13 k13 => ?_)
  refine zi_dup 53 dX7_init_52 rfl rfl ?_
  refine zc_special (n' := (17, 68)) (md' := mX5_init) 56 dX7_init_53 tw_216 zn_X5_init (s_X5_init B h13 g (zX0 k13)) rfl rfl rfl rfl rfl rfl rfl rfl (zk_v fun h14 hp4 => ?_)
  obtain ⟨g1, g2, g3, d, d1, d2, d3, d4, c, c1, c2, c3, c4, eg, x_g1, x_g2, x_g3, x_d, x_d1, x_d2, x_d3, x_d4, x_c, x_c1, x_c2, x_c3⟩ := hp4
  have p4 := zZ_pre a3 hg k13 c4
  refine zi_putfieldF (fs' := [_, _, _, _, _]) hZ 59 4 dX7_init_56 zcl_X7 tyX7 tyX7_ok nmX7 tw_222 rfl rfl rfl rfl rfl p4 rfl rfl rfl rfl rfl rfl ?_
  refine zk_h (fun h15 k15 => ?_)
  obtain ⟨Z5, a4, m4, t4⟩ := zZ_cp Z4 a3 hg k13 c4 k15
  have f4_q1 := t4 _ _ n0_q1 f3_q1
  have f4_q2 := t4 _ _ n1_q2 f3_q2
  have f4_q3 := t4 _ _ n2_q3 f3_q3
  have f4_q4 := t4 _ _ n3_q4 f3_q4
  have n4_g := (m4 g (by simp)).2
  have f4_g := (m4 g (by simp)).1.trans (eg)
  have n4_g1 := (m4 g1 (by simp)).2
  have f4_g1 := (m4 g1 (by simp)).1.trans (x_g1)
  have n4_g2 := (m4 g2 (by simp)).2
  have f4_g2 := (m4 g2 (by simp)).1.trans (x_g2)
  have n4_g3 := (m4 g3 (by simp)).2
  have f4_g3 := (m4 g3 (by simp)).1.trans (x_g3)
  have n4_d := (m4 d (by simp)).2
  have f4_d := (m4 d (by simp)).1.trans (x_d)
  have n4_d1 := (m4 d1 (by simp)).2
  have f4_d1 := (m4 d1 (by simp)).1.trans (x_d1)
  have n4_d2 := (m4 d2 (by simp)).2
  have f4_d2 := (m4 d2 (by simp)).1.trans (x_d2)
  have n4_d3 := (m4 d3 (by simp)).2
  have f4_d3 := (m4 d3 (by simp)).1.trans (x_d3)
  have n4_d4 := (m4 d4 (by simp)).2
  have f4_d4 := (m4 d4 (by simp)).1.trans (x_d4)
  have n4_c := (m4 c (by simp)).2
  have f4_c := (m4 c (by simp)).1.trans (x_c)
  have n4_c1 := (m4 c1 (by simp)).2
  have f4_c1 := (m4 c1 (by simp)).1.trans (x_c1)
  have n4_c2 := (m4 c2 (by simp)).2
  have f4_c2 := (m4 c2 (by simp)).1.trans (x_c2)
  have n4_c3 := (m4 c3 (by simp)).2
  have f4_c3 := (m4 c3 (by simp)).1.trans (x_c3)
  exact zr_void hZ dX7_init_59 rfl ⟨rfl, q1, q2, q3, q4, g, g1, g2, g3, d, d1, d2, d3, d4, c, c1, c2, c3, Z5, a4, f4_q1, f4_q2, f4_q3, f4_q4, f4_g, f4_g1, f4_g2, f4_g3, f4_d, f4_d1, f4_d2, f4_d3, f4_d4, f4_c, f4_c1, f4_c2, f4_c3⟩

set_option maxHeartbeats 4000000 in
set_option maxRecDepth 100000 in
theorem s_X2_init (B : zBB) (h : zHp) (a : Nat) (ha : h a = some (zO 2 [.null, .int 0, .int 0, .int 0, .int 0, .int 0, .int 0])) : zSpec mX2_init B (2, 2, 11) [.ref a] h (zPv (fun h' => ∃ t q : Nat, zZ h h' a [t, q] ∧ h' a = some (zO 2 [.ref t, .int 0, .int 0, .int 0, .int 0, .int 0, .int 0]) ∧ h' t = some (zO 8 [.long 1, .ref q]) ∧ h' q = some (zJ B 9 (fun _ => 0)))) := by
  refine zSpec.of (by decide) (Nat.le_of_ble_eq_true rfl) (fun X hZ => ?_)
  show zG X mX2_init B (2, 2, 11) (0, 0) 0 [(0, .ref a)] [] h
  have Z0 := zZ_0 ha
  refine zi_aload_n 1 dX2_init_0 rfl rfl ?_
  refine zc_obj 4 dX2_init_1 tw_272 tw_73 zObjCode rfl rfl rfl ?_
  refine zi_aload_n 5 dX2_init_4 rfl rfl ?_
  refine zn_new (fs := [.long 0, .null]) (n' := (1, 2)) 8 dX2_init_5 zcl_X8 tyX8 tyX8_ok tw_273 tw_254 tw_61 (by decide +kernel) rfl rfl rfl rfl (fun t ht => ?_)
  refine zk_h (fun h1 k1 => ?_)
  refine zi_dup 9 dX2_init_8 rfl rfl ?_
  refine zc_special (n' := (2, 11)) (md' := mX8_init) 12 dX2_init_9 tw_274 zn_X8_init (s_X8_init B h1 t (zX0 k1)) rfl rfl rfl rfl rfl rfl rfl rfl (zk_v fun h2 hp0 => ?_)
  obtain ⟨q, c0, et, eq⟩ := hp0
  have p0 := zZ_pre ha ht k1 c0
  refine zi_putfieldF (fs' := [_, _, _, _, _, _, _]) hZ 15 0 dX2_init_12 zcl_X2 tyX2 tyX2_ok nmX2 tw_275 rfl rfl rfl rfl rfl p0 rfl rfl rfl rfl rfl rfl ?_
  refine zk_h (fun h3 k3 => ?_)
  obtain ⟨Z1, a0, m0, t0⟩ := zZ_cp Z0 ha ht k1 c0 k3
  have n0_t := (m0 t (by simp)).2
  have f0_t := (m0 t (by simp)).1.trans (et)
  have n0_q := (m0 q (by simp)).2
  have f0_q := (m0 q (by simp)).1.trans (eq)
  exact zr_void hZ dX2_init_15 rfl ⟨rfl, t, q, Z1, a0, f0_t, f0_q⟩
