/-! the roots of the listing; places told by lists -/
noncomputable def rtP (n : Nat) : Nat := if n = 0 then 0 else zSq2 (n - 1)
theorem rtP_s (n : Nat) : rtP (n + 1) = zSq2 n := rfl
theorem rtP_y {n : Nat} (h : (rtP n + 1) * (rtP n + 1) ≤ n) : zSq2 n = rtP n + 1 := by
  apply zSq2_of
  refine ⟨h, ?_⟩
  unfold rtP at h ⊢
  split at h
  · omega
  · rename_i h0
    rw [if_neg h0]
    have h2 := (zSq2_is (n - 1)).2
    generalize zSq2 (n - 1) = r at h h2 ⊢
    have : (r + 1 + 1) * (r + 1 + 1) = (r + 1) * (r + 1) + 2 * (r + 1) + 1 := by grind
    omega
theorem rtP_n {n : Nat} (h : ¬ (rtP n + 1) * (rtP n + 1) ≤ n) : zSq2 n = rtP n := by
  apply zSq2_of
  refine ⟨?_, by omega⟩
  unfold rtP at h ⊢
  split
  · exact Nat.zero_le _
  · exact Nat.le_trans (zSq2_is (n - 1)).1 (by omega)
theorem rtP_b {n : Nat} (h : n ≤ 601) : rtP n ≤ 24 := by
  unfold rtP
  split
  · exact Nat.zero_le _
  · exact rt24 (by omega)
theorem rtP_31 {n : Nat} (h : n ≤ 601) : (rtP n + 1) * (rtP n + 1) < 2 ^ 31 := by
  have h1 : rtP n + 1 ≤ 25 := by have := rtP_b h; omega
  exact Nat.lt_of_le_of_lt (Nat.mul_le_mul h1 h1) (by decide)
theorem up_rt {u : Nat → Int32} {k : Nat} {x : Int32} (hu : ∀ i, i < k → u i = nI (zSq2 i)) (hx : x = nI (zSq2 k)) : ∀ i, i < k + 1 → upd u k x i = nI (zSq2 i) := fun i hi => by
  unfold upd
  split
  · rename_i e
    rw [hx, e]
  · exact hu i (by omega)
theorem nd_idx {L : List Nat} (h : L.Nodup) : ∀ (i j : Nat) (x : Nat), L[i]? = some x → L[j]? = some x → i = j := by
  induction L with
  | nil => intro i j x h1; simp at h1
  | cons a L ih =>
    intro i j x h1 h2
    obtain ⟨n1, n2⟩ := List.nodup_cons.mp h
    match i, j, h1, h2 with
    | 0, 0, _, _ => rfl
    | 0, j + 1, h1, h2 =>
      simp at h1 h2
      exact absurd (h1 ▸ List.mem_of_getElem? h2) n1
    | i + 1, 0, h1, h2 =>
      simp at h1 h2
      exact absurd (h2 ▸ List.mem_of_getElem? h1) n1
    | i + 1, j + 1, h1, h2 =>
      simp at h1 h2
      rw [ih n2 i j x h1 h2]
def mkA (C T I M R : List Nat) (S i : Nat) : Nat := if i < 22 then C.getD i 0 else if i < 30 then T.getD (i - 22) 0 else if i < 38 then I.getD (i - 30) 0 else if i < 58 then M.getD (i - 38) 0 else if i < 91 then R.getD (i - 58) 0 else S + i
theorem gd_some {L : List Nat} {i : Nat} (h : i < L.length) : L[i]? = some (L.getD i 0) := by
  rw [List.getD_eq_getElem?_getD, List.getElem?_eq_getElem h]
  rfl
section MK
variable {C T I M R : List Nat} {S : Nat}
theorem mkA_i (hC : C.length = 22) (hT : T.length = 8) (hI : I.length = 8) (hM : M.length = 20) (hR : R.length = 33) {i : Nat} (h : i < 91) : (C ++ T ++ I ++ M ++ R)[i]? = some (mkA C T I M R S i) := by
  unfold mkA
  have l1 : (C ++ T).length = 30 := by rw [List.length_append]; omega
  have l2 : (C ++ T ++ I).length = 38 := by rw [List.length_append]; omega
  have l3 : (C ++ T ++ I ++ M).length = 58 := by rw [List.length_append]; omega
  by_cases c1 : i < 22
  · rw [if_pos c1, List.getElem?_append_left (by omega), List.getElem?_append_left (by omega), List.getElem?_append_left (by omega), List.getElem?_append_left (by omega)]
    exact gd_some (by omega)
  · rw [if_neg c1]
    by_cases c2 : i < 30
    · rw [if_pos c2, List.getElem?_append_left (by omega), List.getElem?_append_left (by omega), List.getElem?_append_left (by omega), List.getElem?_append_right (by omega), hC]
      exact gd_some (by omega)
    · rw [if_neg c2]
      by_cases c3 : i < 38
      · rw [if_pos c3, List.getElem?_append_left (by omega), List.getElem?_append_left (by omega), List.getElem?_append_right (by omega), l1]
        exact gd_some (by omega)
      · rw [if_neg c3]
        by_cases c4 : i < 58
        · rw [if_pos c4, List.getElem?_append_left (by omega), List.getElem?_append_right (by omega), l2]
          exact gd_some (by omega)
        · rw [if_neg c4, if_pos h, List.getElem?_append_right (by omega), l3]
          exact gd_some (by omega)
theorem mkA_j (hC : C.length = 22) (hT : T.length = 8) (hI : I.length = 8) (hM : M.length = 20) (hR : R.length = 33) (nd : (C ++ T ++ I ++ M ++ R).Nodup) (hS : ∀ x ∈ C ++ T ++ I ++ M ++ R, x < S) : zInj (mkA C T I M R S) := fun i j e => by
  have big : ∀ k, ¬ k < 91 → mkA C T I M R S k = S + k := fun k hk => by
    unfold mkA
    rw [if_neg (by omega), if_neg (by omega), if_neg (by omega), if_neg (by omega), if_neg hk]
  by_cases h1 : i < 91
  · have e1 := mkA_i (S := S) hC hT hI hM hR h1
    by_cases h2 : j < 91
    · have e2 := mkA_i (S := S) hC hT hI hM hR h2
      rw [← e] at e2
      exact nd_idx nd i j _ e1 e2
    · rw [big j h2] at e
      have := hS _ (List.mem_of_getElem? e1)
      omega
  · rw [big i h1] at e
    by_cases h2 : j < 91
    · have e2 := mkA_i (S := S) hC hT hI hM hR h2
      have := hS _ (List.mem_of_getElem? e2)
      omega
    · rw [big j h2] at e
      omega
theorem mkA_T {j : Nat} (h : j < 8) : mkA C T I M R S (22 + j) = T.getD j 0 := by
  unfold mkA
  rw [if_neg (by omega), if_pos (by omega), show 22 + j - 22 = j by omega]
theorem mkA_I {j : Nat} (h : j < 8) : mkA C T I M R S (30 + j) = I.getD j 0 := by
  unfold mkA
  rw [if_neg (by omega), if_neg (by omega), if_pos (by omega), show 30 + j - 30 = j by omega]
theorem mkA_M {j : Nat} (h : j < 20) : mkA C T I M R S (38 + j) = M.getD j 0 := by
  unfold mkA
  rw [if_neg (by omega), if_neg (by omega), if_neg (by omega), if_pos (by omega), show 38 + j - 38 = j by omega]
end MK
theorem lt_sum {L : List Nat} : ∀ x ∈ L, x < L.sum + 1 := by
  induction L with
  | nil => intro x hx; simp at hx
  | cons a L ih =>
    intro x hx
    rw [List.sum_cons]
    rcases List.mem_cons.mp hx with r | r
    · omega
    · have := ih x r
      omega
/-! the loops of the constructor: a step -/
theorem pm_1 {t q y : Nat} {TR IT : List Nat} : ((([t] ++ TR ++ IT) ++ [q]) ++ [y]).Perm ([t] ++ (TR ++ [q]) ++ (IT ++ [y])) := by
  rw [List.perm_iff_count]
  intro x
  simp only [List.count_append]
  omega
def trF (h : zHp) (B : zBB) (TR IT : List Nat) : Prop := ∀ (j x y : Nat), TR[j]? = some x → IT[j]? = some y → h x = some (zO 9 [.ref y, .int (-1), .int 0]) ∧ h y = some (zJ B 100 (fun _ => 0))
theorem ap_i {L : List Nat} {q i x : Nat} (h : (L ++ [q])[i]? = some x) : (i < L.length ∧ L[i]? = some x) ∨ (i = L.length ∧ x = q) := by
  by_cases c : i < L.length
  · rw [List.getElem?_append_left c] at h
    exact Or.inl ⟨c, h⟩
  · rw [List.getElem?_append_right (by omega)] at h
    right
    have hi : i - L.length = 0 := by
      have := (List.getElem?_eq_some_iff.mp h).1
      simp at this
      omega
    rw [hi] at h
    simp at h
    exact ⟨by omega, h.symm⟩
theorem tr_step {B : zBB} {h h1 h2 h3 h4 : zHp} {a t q y k : Nat} {e ea e4 : va_E} {f : Nat → Option Nat} {TR IT : List Nat} (Z : zZ h h1 a ([t] ++ TR ++ IT)) (ha : h1 a = some ea) (hT : TR.length = k) (hI : IT.length = k) (hF : trF h1 B TR IT) (hf : ∀ j, j < k → f j = TR[j]?) (hq : h1 q = none) (k2 : h2 = zU h1 q e) (Zc : zZ h2 h3 q [y]) (eq : h3 q = some (zO 9 [.ref y, .int (-1), .int 0])) (ey : h3 y = some (zJ B 100 (fun _ => 0))) (k4 : h4 = zU h3 t e4) : zZ h h4 a ([t] ++ (TR ++ [q]) ++ (IT ++ [y])) ∧ h4 a = some ea ∧ trF h4 B (TR ++ [q]) (IT ++ [y]) ∧ ∀ j, j < k + 1 → va_up f k (some q) j = (TR ++ [q])[j]? := by
  have Z1 := zZ_new Z hq k2
  have Z2 := zZ_c Z1 (by simp) Zc
  have Z3 := zZ_w Z2 (b := t) (by simp) k4
  have at_ : a ≠ t := fun r => (List.nodup_cons.mp Z.1).1 (by rw [r]; simp)
  have tn : ∀ x ∈ TR ++ IT ++ [q] ++ [y], x ≠ t := fun x hx r => by
    have n1 := (List.nodup_cons.mp Z2.1).2
    rw [show [t] ++ TR ++ IT ++ [q] ++ [y] = t :: (TR ++ IT ++ [q] ++ [y]) by simp] at n1
    exact (List.nodup_cons.mp n1).1 (r ▸ hx)
  have old : ∀ x e', x ≠ t → h1 x = some e' → h4 x = some e' := fun x e' hx he => zX1 k4 hx (zZ_f Zc (zne he hq) (zX1 k2 (zne he hq) he))
  refine ⟨zZ_p pm_1 Z3, old _ _ at_ ha, fun j x z hx hz => ?_, fun j hj => ?_⟩
  · rcases ap_i hx with ⟨c1, c2⟩ | ⟨c1, c2⟩
    · rcases ap_i hz with ⟨d1, d2⟩ | ⟨d1, d2⟩
      · obtain ⟨r1, r2⟩ := hF j x z c2 d2
        exact ⟨old _ _ (tn x (by simp [List.mem_of_getElem? c2])) r1, old _ _ (tn z (by simp [List.mem_of_getElem? d2])) r2⟩
      · omega
    · rcases ap_i hz with ⟨d1, d2⟩ | ⟨d1, d2⟩
      · omega
      · rw [c2, d2]
        exact ⟨zX1 k4 (tn q (by simp)) eq, zX1 k4 (tn y (by simp)) ey⟩
  · unfold va_up
    split
    · rename_i e
      rw [e, List.getElem?_append_right (by omega), hT, Nat.sub_self]
      rfl
    · rw [List.getElem?_append_left (by omega)]
      exact hf j (by omega)
theorem fo_step {h h1 h2 h3 h4 : zHp} {a F K q k : Nat} {B : zBB} {ea : va_E} {ff : Nat → Option Nat} {fk : Nat → Int32} {L0 M : List Nat} (Z : zZ h h1 a (L0 ++ M)) (ha : h1 a = some ea) (mF : F ∈ L0) (mK : K ∈ L0) (nFK : F ≠ K) (hK : h1 K = some (zI B 20 fk)) (hM : M.length = k) (hff : ∀ j, j < k → ff j = M[j]?) (hfk : ∀ j, j < k → fk j = -1) (hm : ∀ x ∈ M, h1 x = some (zFo z0)) (hq : h1 q = none) (k2 : h2 = zU h1 q (zFo z0)) (k3 : h3 = zU h2 F (zRf B 20 (va_up ff k (some q)))) (k4 : h4 = zU h3 K (zI B 20 (upd fk k (-1)))) : zZ h h4 a (L0 ++ (M ++ [q])) ∧ h4 a = some ea ∧ h4 F = some (zRf B 20 (va_up ff k (some q))) ∧ h4 K = some (zI B 20 (upd fk k (-1))) ∧ (M ++ [q]).length = k + 1 ∧ (∀ j, j < k + 1 → va_up ff k (some q) j = (M ++ [q])[j]?) ∧ (∀ j, j < k + 1 → upd fk k (-1) j = -1) ∧ (∀ x ∈ M ++ [q], h4 x = some (zFo z0)) ∧ ∀ x e', x ≠ F → x ≠ K → h1 x = some e' → h4 x = some e' := by
  have Z1 := zZ_new Z hq k2
  have Z2 := zZ_w Z1 (b := F) (by simp [mF]) k3
  have Z3 := zZ_w Z2 (b := K) (by simp [mK]) k4
  rw [List.append_assoc] at Z3
  have n0 := List.nodup_cons.mp Z.1
  have aF : a ≠ F := fun r => n0.1 (by rw [r]; simp [mF])
  have aK : a ≠ K := fun r => n0.1 (by rw [r]; simp [mK])
  have n1 := List.nodup_append.mp (List.nodup_cons.mp Z3.1).2
  have mn : ∀ x ∈ M ++ [q], x ≠ F ∧ x ≠ K := fun x hx => ⟨fun r => n1.2.2 F mF x hx r.symm, fun r => n1.2.2 K mK x hx r.symm⟩
  have old : ∀ x e', x ≠ F → x ≠ K → h1 x = some e' → h4 x = some e' := fun x e' h1' h2' he => zX1 k4 h2' (zX1 k3 h1' (zX1 k2 (zne he hq) he))
  refine ⟨Z3, old _ _ aF aK ha, zX1 k4 nFK (zX0 k3), zX0 k4, by rw [List.length_append]; simp [hM], fun j hj => ?_, fun j hj => ?_, fun x hx => ?_, old⟩
  · unfold va_up
    split
    · rename_i e
      rw [e, List.getElem?_append_right (by omega), hM, Nat.sub_self]
      rfl
    · rw [List.getElem?_append_left (by omega)]
      exact hff j (by omega)
  · unfold upd
    split
    · rfl
    · exact hfk j (by omega)
  · rcases List.mem_append.mp hx with r | r
    · exact old _ _ (mn x hx).1 (mn x hx).2 (hm x r)
    · rw [List.mem_singleton.mp r]
      have := mn q (by simp)
      exact zX1 k4 this.2 (zX1 k3 this.1 (zX0 k2))

set_option maxHeartbeats 4000000 in
set_option maxRecDepth 100000 in
theorem l_X6_init (B : zBB) (h : zHp) (X : zX) (a r q : Nat) (hZ : zIsP X mX6_init B (2, 605) (zPv (fun h' => ∃ (r q : Nat) (ru : Nat → Int32), zZ h h' a [r, q] ∧ h' a = some (zO 6 [.ref r, .ref q, .int 0]) ∧ h' r = some (zFo z0) ∧ h' q = some (zI B 601 ru) ∧ ∀ i, i < 601 → ru i = nI (zSq2 i)))) : ∀ (n : Nat) (k : Nat) (h1 : zHp) (u : Nat → Int32), 601 - k < n → (k ≤ 601) → (zZ h h1 a [r, q]) → (h1 a = some (zO 6 [.ref r, .ref q, .int 0])) → (h1 r = some (zFo z0)) → (h1 q = some (zI B 601 u)) → (∀ i, i < k → u i = nI (zSq2 i)) → zG X mX6_init B (2, 2, 605) (2, 605) 28 [(2, .int (nI k)), (1, .int (nI (rtP k))), (0, .ref a)] [] h1 := by
  intro n
  induction n with
  | zero => intro k h1 u hn; omega
  | succ n ih =>
    intro k h1 u hn hk Z ha hr hq hu
    refine zi_iload_n 29 dX6_init_28 rfl rfl ?_
    refine zi_aload_n 30 dX6_init_29 rfl rfl ?_
    refine zi_getfield 33 1 dX6_init_30 zcl_X6 tw_244 rfl rfl ha rfl rfl ?_
    refine zi_alenI 34 dX6_init_33 hq rfl rfl ?_
    refine zi_icmp_ge 37 64 dX6_init_34 (by decide) rfl (fun zzE => ?_) (fun zzE => ?_)
    ·
      rw [show Int32.ofNat 601 = nI 601 from rfl, nI_leI (by decide) (by omega)] at zzE
      have ek : k = 601 := by omega
      subst ek
      refine zi_aload_n 65 dX6_init_64 rfl rfl ?_
      refine zi_iconst (v := 0) 66 dX6_init_65 (by decide) rfl ?_
      refine zi_putfield (fs' := [_, _, _]) 69 2 dX6_init_66 zcl_X6 tyX6 tyX6_ok nmX6 tw_245 rfl rfl rfl ha rfl rfl rfl rfl rfl rfl ?_
      refine zk_h (fun h2 k2 => ?_)
      exact zr_void hZ dX6_init_69 rfl ⟨rfl, r, q, u, zZ_w Z List.mem_cons_self k2, zX0 k2, zX1 k2 (fun e => (List.nodup_cons.mp Z.1).1 (by rw [← e]; simp)) hr, zX1 k2 (fun e => (List.nodup_cons.mp Z.1).1 (by rw [← e]; simp)) hq, hu⟩
    ·
      rw [show Int32.ofNat 601 = nI 601 from rfl, nI_leI (by decide) (by omega)] at zzE
      refine zi_iload_n 38 dX6_init_37 rfl rfl ?_
      refine zi_iconst (v := 1) 39 dX6_init_38 (by decide) rfl ?_
      refine zi_iadd 40 dX6_init_39 rfl ?_
      refine zi_iload_n 41 dX6_init_40 rfl rfl ?_
      refine zi_iconst (v := 1) 42 dX6_init_41 (by decide) rfl ?_
      refine zi_iadd 43 dX6_init_42 rfl ?_
      refine zi_imul 44 dX6_init_43 rfl ?_
      refine zi_iload_n 45 dX6_init_44 rfl rfl ?_
      rw [show nI (rtP k) + 1 = nI (rtP k + 1) from nI_ad _ 1, ls_m]
      refine zi_icmp_gt 48 51 dX6_init_45 (by decide) rfl (fun zzR => ?_) (fun zzR => ?_)
      ·
        rw [nI_ltI (by omega) (rtP_31 hk)] at zzR
        have ez : zSq2 k = rtP k := rtP_n (by omega)
        first | rw [show nI (rtP k) + Int32.ofInt 1 = nI (zSq2 k) from by rw [ez]; exact nI_ad _ 1] | rw [← ez]
        refine zi_aload_n 52 dX6_init_51 rfl rfl ?_
        refine zi_getfield 55 1 dX6_init_52 zcl_X6 tw_244 rfl rfl ha rfl rfl ?_
        refine zi_iload_n 56 dX6_init_55 rfl rfl ?_
        refine zi_iload_n 57 dX6_init_56 rfl rfl ?_
        refine zi_iastore 58 dX6_init_57 hq (vp_in_nI (show k < 601 by omega) (by decide)) rfl ?_
        rw [nI_clamp (by omega)]
        refine zk_h (fun h2 k2 => ?_)
        refine zi_iinc (lv' := [(2, _), (1, _), (0, _)]) 61 dX6_init_58 rfl rfl rfl rfl rfl ?_
        refine zi_goto 28 dX6_init_61 (by decide) ?_
        rw [show nI k + Int32.ofInt 1 = nI (k + 1) from nI_1 k, ← rtP_s k]
        exact zi_lv [0, 1, 2] rfl (ih (k + 1) h2 (upd u k (nI (zSq2 k))) (by omega) (by omega) (zZ_w Z (by simp) k2) (zX1 k2 (fun e => (List.nodup_cons.mp Z.1).1 (by rw [e]; simp)) ha) (zX1 k2 (fun e => (List.nodup_cons.mp (List.nodup_cons.mp Z.1).2).1 (by rw [e]; simp)) hr) (zX0 k2) (up_rt hu rfl))
      ·
        rw [nI_ltI (by omega) (rtP_31 hk)] at zzR
        have ez : zSq2 k = rtP k + 1 := rtP_y (by omega)
        refine zi_iinc (lv' := [(1, _), (2, _), (0, _)]) 51 dX6_init_48 rfl rfl rfl rfl rfl ?_
        first | rw [show nI (rtP k) + Int32.ofInt 1 = nI (zSq2 k) from by rw [ez]; exact nI_ad _ 1] | rw [← ez]
        refine zi_aload_n 52 dX6_init_51 rfl rfl ?_
        refine zi_getfield 55 1 dX6_init_52 zcl_X6 tw_244 rfl rfl ha rfl rfl ?_
        refine zi_iload_n 56 dX6_init_55 rfl rfl ?_
        refine zi_iload_n 57 dX6_init_56 rfl rfl ?_
        refine zi_iastore 58 dX6_init_57 hq (vp_in_nI (show k < 601 by omega) (by decide)) rfl ?_
        rw [nI_clamp (by omega)]
        refine zk_h (fun h2 k2 => ?_)
        refine zi_iinc (lv' := [(2, _), (1, _), (0, _)]) 61 dX6_init_58 rfl rfl rfl rfl rfl ?_
        refine zi_goto 28 dX6_init_61 (by decide) ?_
        rw [show nI k + Int32.ofInt 1 = nI (k + 1) from nI_1 k, ← rtP_s k]
        exact zi_lv [0, 1, 2] rfl (ih (k + 1) h2 (upd u k (nI (zSq2 k))) (by omega) (by omega) (zZ_w Z (by simp) k2) (zX1 k2 (fun e => (List.nodup_cons.mp Z.1).1 (by rw [e]; simp)) ha) (zX1 k2 (fun e => (List.nodup_cons.mp (List.nodup_cons.mp Z.1).2).1 (by rw [e]; simp)) hr) (zX0 k2) (up_rt hu rfl))

set_option maxHeartbeats 4000000 in
set_option maxRecDepth 100000 in
theorem s_X6_init (B : zBB) (h : zHp) (a : Nat) (ha : h a = some (zO 6 [.null, .null, .int 0])) : zSpec mX6_init B (2, 2, 605) [.ref a] h (zPv (fun h' => ∃ (r q : Nat) (ru : Nat → Int32), zZ h h' a [r, q] ∧ h' a = some (zO 6 [.ref r, .ref q, .int 0]) ∧ h' r = some (zFo z0) ∧ h' q = some (zI B 601 ru) ∧ ∀ i, i < 601 → ru i = nI (zSq2 i))) := by
  refine zSpec.of (by decide) (Nat.le_of_ble_eq_true rfl) (fun X hZ => ?_)
  show zG X mX6_init B (2, 2, 605) (0, 0) 0 [(0, .ref a)] [] h
  have Z0 := zZ_0 ha
  refine zi_aload_n 1 dX6_init_0 rfl rfl ?_
  refine zc_obj 4 dX6_init_1 tw_239 tw_73 zObjCode rfl rfl rfl ?_
  refine zi_aload_n 5 dX6_init_4 rfl rfl ?_
  refine zn_new (fs := [.long 0, .long 0, .long 0, .long 0]) (n' := (1, 4)) 8 dX6_init_5 zcl_X4 tyX4 tyX4_ok tw_240 tw_98 tw_55 (by decide +kernel) rfl rfl rfl rfl (fun r hr => ?_)
  refine zk_h (fun h1 k1 => ?_)
  refine zi_dup 9 dX6_init_8 rfl rfl ?_
  refine zc_specialN (n' := (1, 4)) (md' := mX4_init) 12 dX6_init_9 (by decide) zn_X4_init (s_X4_init B h1 r) rfl rfl rfl rfl rfl rfl rfl rfl (zk_n ?_)
  have c0 := zZ_0 (zX0 k1)
  have p0 := zZ_pre ha hr k1 c0
  refine zi_putfieldF (fs' := [_, _, _]) hZ 15 0 dX6_init_12 zcl_X6 tyX6 tyX6_ok nmX6 tw_242 rfl rfl rfl rfl rfl p0 rfl rfl rfl rfl rfl rfl ?_
  refine zk_h (fun h3 k3 => ?_)
  obtain ⟨Z1, a0, m0, t0⟩ := zZ_cp Z0 ha hr k1 c0 k3
  have n0_r := (m0 r (by simp)).2
  have f0_r := (m0 r (by simp)).1.trans (zX0 k1)
  refine zi_aload_n 16 dX6_init_15 rfl rfl ?_
  refine zi_sipush (v := 601) 19 dX6_init_16 (by decide) rfl ?_
  refine zn_arr (mk := fun _ _ => .inr (0, [])) (n' := (2, 605)) (t0 := 0) (N := 601) (a0 := (601, .inl (fun _ => 0))) 21 dX6_init_19 tw_132 rfl rfl (fun _ h => by cases h) (fun _ => rfl) (by decide) (by decide) (Nat.le_of_ble_eq_true rfl) rfl rfl rfl rfl (fun q hq => ?_)
  refine zk_h (fun h4 k4 => ?_)
  have c9 := zZ_0 (zX0 k4)
  have p9 := zZ_pre a0 hq k4 c9
  refine zi_putfieldF (fs' := [_, _, _]) hZ 24 1 dX6_init_21 zcl_X6 tyX6 tyX6_ok nmX6 tw_244 rfl rfl rfl rfl rfl p9 rfl rfl rfl rfl rfl rfl ?_
  refine zk_h (fun h5 k5 => ?_)
  obtain ⟨Z9, a9, m9, t9⟩ := zZ_cp Z1 a0 hq k4 c9 k5
  refine zi_iconst (v := 0) 25 dX6_init_24 (by decide) rfl ?_
  refine zi_istore_n (lv' := [(1, _), (0, _)]) 26 dX6_init_25 rfl rfl rfl ?_
  refine zi_iconst (v := 0) 27 dX6_init_26 (by decide) rfl ?_
  refine zi_istore_n (lv' := [(2, _), (1, _), (0, _)]) 28 dX6_init_27 rfl rfl rfl ?_
  exact l_X6_init B h X a r q hZ 602 0 h5 _ (by omega) (by omega) Z9 a9 (t9 _ _ n0_r f0_r) ((m9 q (by simp)).1.trans (zX0 k4)) (fun i hi => absurd hi (Nat.not_lt_zero _))
