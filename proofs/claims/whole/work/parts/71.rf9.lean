/-! the reference: the list -/
theorem nI_dec {k : Nat} (h : 1 ≤ k) : nI k + Int32.ofInt (-1) = nI (k - 1) := by
  rw [show Int32.ofInt (-1) = jz (-1) from rfl, jz_nI, jz_add, jz_nI]
  congr 1
  omega
theorem Lz_neg {m w x y : Int} (h : m - w * w - x * x - y * y < 0) : Lz m w x y = [] := by
  unfold Lz
  rw [if_neg (fun q => by omega)]
theorem Lz_o1 {m w x y : Int} (h : ¬ (w + x) % 2 = 0) : Lz m w x y = [] := by
  unfold Lz
  rw [if_neg (fun q => h q.2.1)]
theorem Lz_o2 {m w x y : Int} (h : ¬ (x + y) % 2 = 0) : Lz m w x y = [] := by
  unfold Lz
  rw [if_neg (fun q => h q.2.2.1)]
theorem lst_0 {G f : List i4} {k : Nat} {o : Option i4} (h : o = (f ++ G)[k]?) (hf : f = []) : o = G[k]? := by
  rw [h, hf]
  rfl
theorem lst_1 {G f : List i4} {a : i4} {k : Nat} {o : Option i4} (h : o = (f ++ G)[k]?) (hf : f = [a]) (hk : 1 ≤ k) : o = G[k - 1]? := by
  rw [h, hf, List.getElem?_append_right (by simpa using hk)]
  rfl
theorem lst_2 {G f : List i4} {a b : i4} {k : Nat} {o : Option i4} (h : o = (f ++ G)[k]?) (hf : f = [a, b]) (hk : 1 ≤ k) (hk2 : 1 ≤ k - 1) : o = G[k - 1 - 1]? := by
  rw [h, hf, List.getElem?_append_right (by simp; omega)]
  congr 1
theorem lfd_0 {G f l : List i4} {a : i4} {k : Nat} {o : Option i4} (h : o = (f ++ G)[k]?) (hf : f = a :: l) (hk : k = 0) : o = some a := by
  rw [h, hf, hk]
  rfl
theorem lfd_1 {G f : List i4} {a b : i4} {k : Nat} {o : Option i4} (h : o = (f ++ G)[k]?) (hf : f = [a, b]) (hk : 1 ≤ k) (hk2 : k - 1 = 0) : o = some b := by
  rw [h, hf, show k = 1 by omega]
  rfl
theorem Lz_a {m w x y : Int} {s z : Nat} (hs : (s : Int) = m - w * w - x * x - y * y) (hw : (w + x) % 2 = 0) (hx : (x + y) % 2 = 0) (hz : z = zSq2 s) (h : z * z = s) : (z = 0 → Lz m w x y = [(w, x, y, -(z : Int))]) ∧ (¬ z = 0 → Lz m w x y = [(w, x, y, -(z : Int)), (w, x, y, (z : Int))]) := by
  subst hz
  have e := Lz_y hs hw hx h
  refine ⟨fun q => ?_, fun q => ?_⟩
  · rw [e, if_neg (fun r => r q)]
    rfl
  · rw [e, if_pos q]
    rfl
noncomputable def gX (M : Nat) (e : Nat) (w : Int) : Int → List i4 := fun x => sy (Lz M w x) e
noncomputable def gW (M : Nat) (e : Nat) : Int → List i4 := fun w => sy (gX M e w) e
theorem up_0 {f : Int → List i4} {e : Nat} : up f ((e : Int) + 1 - -(e : Int)).toNat (-(e : Int)) = sy f e := by
  show _ = up f (2 * e + 1) (-(e : Int))
  congr 1
  omega
theorem up_z {f : Int → List i4} {e : Nat} {y : Int} (h : (e : Int) < y) : up f ((e : Int) + 1 - y).toNat y = [] := by
  rw [show ((e : Int) + 1 - y).toNat = 0 by omega]
  rfl
theorem sy_nil {f : Int → List i4} {e : Nat} (h : ∀ i, f i = []) : sy f e = [] := up_nil _ _ (fun i _ _ => h i)
theorem sq_out {i : Int} {e : Nat} (h : ¬ (-(zSq2 e : Int) ≤ i ∧ i ≤ zSq2 e)) : (e : Int) < i * i := by
  have := @zSq2_in i e
  omega
theorem gX_e {M e : Nat} (hM : zSq2 M ≤ e) (w x : Int) (hw : w * w ≤ M) : gX M e w x = chk M w x := by
  unfold gX chk
  split
  · rename_i hp
    by_cases h0 : 0 ≤ (M : Int) - w * w - x * x
    · obtain ⟨t, ht⟩ : ∃ t : Nat, (t : Int) = M - w * w - x * x := ⟨((M : Int) - w * w - x * x).toNat, by omega⟩
      rw [show ((M : Int) - w * w - x * x).toNat = t by omega]
      refine sy_sub (Nat.le_trans (zSq2_le ?_) hM) (fun i hi => Lz_neg ?_)
      · have := zsn w
        have := zsn x
        omega
      · have := sq_out hi
        omega
    · have hn : ∀ y, Lz M w x y = [] := fun y => Lz_neg (by have := zsn y; omega)
      rw [sy_nil hn, sy_nil hn]
  · rename_i hp
    exact sy_nil (fun y => Lz_o1 hp)
theorem gW_e {M : Nat} (w : Int) (hw : w * w ≤ M) : gW M (zSq2 M) w = lsX M w := by
  unfold gW lsX
  obtain ⟨t, ht⟩ : ∃ t : Nat, (t : Int) = M - w * w := ⟨((M : Int) - w * w).toNat, by omega⟩
  rw [show ((M : Int) - w * w).toNat = t by omega]
  have e1 : sy (gX M (zSq2 M) w) (zSq2 M) = sy (chk M w) (zSq2 M) := up_c _ _ (fun i _ _ => gX_e (Nat.le_refl _) w i hw)
  rw [e1]
  refine sy_sub (zSq2_le (by have := zsn w; omega)) (fun i hi => ?_)
  have h2 := sq_out hi
  unfold chk
  split
  · exact sy_nil (fun y => Lz_neg (by have := zsn y; omega))
  · rfl
theorem gL_e {M : Nat} : sy (gW M (zSq2 M)) (zSq2 M) = lsL M := by
  unfold lsL
  refine up_c _ _ (fun i h1 h2 => gW_e i ?_)
  exact zSq2_in.mpr ⟨h1, by omega⟩
theorem iz_par {a b : Int} (ha : iB a) (hb : iB b) : iz a &&& 1 = iz b &&& 1 ↔ (a + b) % 2 = 0 := by
  rw [par_q, iz_i ha, iz_i hb]
  omega
theorem in_150 {x : Int32} : zIn x.toInt64 1 150 ↔ ¬ (x < 1 ∨ 150 < x) := by
  unfold zIn
  rw [Int64.le_iff_toInt_le, Int64.le_iff_toInt_le, Int32.toInt_toInt64, Int32.lt_iff_toInt_lt, Int32.lt_iff_toInt_lt]
  have e1 : (1 : Int64).toInt = 1 := rfl
  have e2 : (150 : Int64).toInt = 150 := rfl
  have e3 : (1 : Int32).toInt = 1 := rfl
  have e4 : (150 : Int32).toInt = 150 := rfl
  rw [e1, e2, e3, e4]
  omega

theorem ls_s1 {f : Int → List i4} {e : Nat} {y : Int} (h : y ≤ e) : up f ((e : Int) + 1 - y).toNat y = f y ++ up f ((e : Int) + 1 - (y + 1)).toNat (y + 1) := up_s f h
theorem sq_b {x : Int} (h1 : -25 ≤ x) (h2 : x ≤ 25) : x * x ≤ 625 := by
  have := zb_mul (x := x) (y := x) (a := 25) (b := 25) (by omega) (by omega)
  have := zsn x
  omega
theorem lN_nn {z : Nat} (h : z < 2 ^ 63) : ¬ lN z < 0 := by
  rw [show (0 : Int64) = lN 0 from rfl, pk_lLT h (by decide)]
  omega
theorem par_zw {n s z : Nat} {q w x y : Int} (hq : q = ((4 * n : Nat) : Int) - w * w - x * x - y * y) (hs : (s : Int) = q) (hz : z * z = s) (h1 : (w + x) % 2 = 0) (h2 : (x + y) % 2 = 0) : lN z &&& 1 = iz w &&& 1 ∨ ¬ iB w ∨ ¬ z < 2 ^ 63 := by
  by_cases c : iB w
  · by_cases d : z < 2 ^ 63
    · left
      have e : (z : Int) * z = s := by rw [← hz]; push_cast; rfl
      have := par_z (n := (n : Int)) (w := w) (x := x) (y := y) (z := (z : Int)) (by push_cast at hq; omega) h1 h2
      rw [iz_lN, iz_par (by omega) c]
      omega
    · exact Or.inr (Or.inr d)
  · exact Or.inr (Or.inl c)
theorem lz_c {z : Nat} {L : List i4} {a b : i4} (h : (z = 0 → L = [a]) ∧ (¬ z = 0 → L = [a, b])) : L = a :: (if z = 0 then [] else [b]) := by
  by_cases c : z = 0
  · rw [h.1 c, if_pos c]
  · rw [h.2 c, if_neg c]
theorem hF_ {B : zBB} {D : Nat → Nat} {m : mS} {h h' : zHp} {ti : Nat} {Post : Option Value → zHp → Prop} {o : Option i4} {P : i4} {R : Nat → Int64} (hF : ∀ (P : i4) (h' : zHp) (R : Nat → Int64), o = some P → rN B D (uHo (uR m R) ti 0) h h' → ro R 0 = z4i P → Post (some (.int (nI (kindI P)))) h') (hP : o = some P) (N : rN B D (uHo (uR m R) ti 0) h h') (r : ro R 0 = z4i P) : Post (some (.int (nI (kindI P)))) h' := hF P h' R hP N r

set_option maxHeartbeats 2000000 in
set_option maxRecDepth 100000 in
theorem l_X11_list_y (B : zBB) (h : zHp) (X : zX) (D : Nat → Nat) (hD : zInj D) (m : mS) (n e ti : Nat) (hn : n ≤ 150) (he : e ≤ 24) (hti : ti < 20) (i0 : Nat) (Post : Option Value → zHp → Prop) (hZ : zIsP X mX11_list B (0, 0) Post) (M : rM B D m h) (hF : ∀ (P : i4) (h' : zHp) (R : Nat → Int64), (lsL (4 * n))[i0]? = some P → rN B D (uHo (uR m R) ti 0) h h' → ro R 0 = z4i P → Post (some (.int (nI (kindI P)))) h') (w x : Int) (hw1 : -25 ≤ w) (hw2 : w ≤ 25) (hx1 : -25 ≤ x) (hx2 : x ≤ 25) (G : List i4) (kk : ∀ (k : Nat), k < 2 ^ 31 → (lsL (4 * n))[i0]? = G[k]? → zG X mX11_list B (3, 0, 0) (0, 0) 272 [(8, .int (nI k)), (9, .long (iz w)), (11, .long (iz x)), (4, .long (iz ((4 * n : Nat) : Int))), (6, .long (iz (e : Int))), (0, .ref (D 0)), (1, .int (nI ti))] [] h) : ∀ (nn : Nat) (y : Int) (k : Nat), ((e : Int) + 1 - y).toNat < nn → (-25 ≤ y) → (y ≤ e + 1) → (k < 2 ^ 31) → ((lsL (4 * n))[i0]? = (up (Lz ((4 * n : Nat) : Int) w x) ((e : Int) + 1 - y).toNat y ++ G)[k]?) → zG X mX11_list B (3, 0, 0) (0, 0) 76 [(13, .long (iz y)), (8, .int (nI k)), (9, .long (iz w)), (11, .long (iz x)), (4, .long (iz ((4 * n : Nat) : Int))), (6, .long (iz (e : Int))), (0, .ref (D 0)), (1, .int (nI ti))] [] h := by
  intro nn
  induction nn with
  | zero => intro y k hnn; omega
  | succ nn ih =>
    intro y k hnn hy1 hy2 hk hG
    have N0 := rN_r M
    refine zi_lload 78 dX11_list_76 rfl rfl ?_
    refine zi_lload 80 dX11_list_78 rfl rfl ?_
    refine zj_gt 84 272 dX11_list_80 rfl dX11_list_81 (by decide) rfl (fun zzE => ?_) (fun zzE => ?_)
    ·
      rw [iz_lt (by omega) (by omega)] at zzE
      have e0 := up_z (f := Lz ((4 * n : Nat) : Int) w x) zzE
      rw [e0, List.nil_append] at hG
      exact zi_lv [1, 2, 3, 4, 5, 6, 7] rfl (kk k hk hG)
    ·
      rw [iz_lt (by omega) (by omega)] at zzE
      have hyE : y ≤ e := by omega
      obtain ⟨q, hq⟩ : ∃ q : Int, q = ((4 * n : Nat) : Int) - w * w - x * x - y * y := ⟨_, rfl⟩
      have bw := zsn w
      have bx := zsn x
      have by_ := zsn y
      have mw := sq_b hw1 hw2
      have mx := sq_b hx1 hx2
      have my := sq_b hy1 (by omega : y ≤ 25)
      rw [ls_s1 hyE] at hG
      rw [List.append_assoc] at hG
      refine zi_lload 86 dX11_list_84 rfl rfl ?_
      refine zi_lload 88 dX11_list_86 rfl rfl ?_
      refine zi_lload 90 dX11_list_88 rfl rfl ?_
      refine zi_lmul 91 dX11_list_90 rfl ?_
      refine zi_lsub 92 dX11_list_91 rfl ?_
      refine zi_lload 94 dX11_list_92 rfl rfl ?_
      refine zi_lload 96 dX11_list_94 rfl rfl ?_
      refine zi_lmul 97 dX11_list_96 rfl ?_
      refine zi_lsub 98 dX11_list_97 rfl ?_
      refine zi_lload 100 dX11_list_98 rfl rfl ?_
      refine zi_lload 102 dX11_list_100 rfl rfl ?_
      refine zi_lmul 103 dX11_list_102 rfl ?_
      refine zi_lsub 104 dX11_list_103 rfl ?_
      rw [iz_mul, iz_mul, iz_mul, iz_sub, iz_sub, iz_sub, ← hq]
      refine zi_lstore (lv' := [(15, _), (13, _), (8, _), (9, _), (11, _), (4, _), (6, _), (0, _), (1, _)]) 106 dX11_list_104 rfl rfl rfl ?_
      refine zi_lload 108 dX11_list_106 rfl rfl ?_
      refine zi_lconst (v := 1) 109 dX11_list_108 (by decide) rfl ?_
      refine zi_land 110 dX11_list_109 rfl ?_
      refine zi_lload 112 dX11_list_110 rfl rfl ?_
      refine zi_lconst (v := 1) 113 dX11_list_112 (by decide) rfl ?_
      refine zi_land 114 dX11_list_113 rfl ?_
      refine zj_ne 118 134 dX11_list_114 rfl dX11_list_115 (by decide) rfl (fun zz1 => ?_) (fun zz1 => ?_)
      ·
        rw [iz_par (by omega) (by omega)] at zz1
        refine zi_iconst (v := 0) 135 dX11_list_134 (by decide) rfl ?_
        refine zi_istore (lv' := [(17, _), (15, _), (13, _), (8, _), (9, _), (11, _), (4, _), (6, _), (0, _), (1, _)]) 137 dX11_list_135 rfl rfl rfl ?_
        refine zi_lload 139 dX11_list_137 rfl rfl ?_
        refine zi_lconst (v := 0) 140 dX11_list_139 (by decide) rfl ?_
        refine zj_lt 144 149 dX11_list_140 rfl dX11_list_141 (by decide) rfl (fun zzQ => ?_) (fun zzQ => ?_)
        ·
          rw [iz_0, iz_lt (by omega) (by omega)] at zzQ
          refine zi_ldc2 152 dX11_list_149 tw_1092 rfl ?_
          refine zi_goto 160 dX11_list_152 (by decide) ?_
          refine zi_lstore (lv' := [(18, _), (17, _), (15, _), (13, _), (8, _), (9, _), (11, _), (4, _), (6, _), (0, _), (1, _)]) 162 dX11_list_160 rfl rfl rfl ?_
          refine zi_lload 164 dX11_list_162 rfl rfl ?_
          refine zi_lconst (v := 0) 165 dX11_list_164 (by decide) rfl ?_
          refine zj_lt 169 263 dX11_list_165 rfl dX11_list_166 (by decide) rfl (fun zzN => ?_) (fun zzN => absurd (by decide) zzN)
          refine zi_lload 265 dX11_list_263 rfl rfl ?_
          refine zi_lconst (v := 1) 266 dX11_list_265 (by decide) rfl ?_
          refine zi_ladd 267 dX11_list_266 rfl ?_
          refine zi_lstore (lv' := [(13, _), (18, _), (17, _), (15, _), (8, _), (9, _), (11, _), (4, _), (6, _), (0, _), (1, _)]) 269 dX11_list_267 rfl rfl rfl ?_
          refine zi_goto 76 dX11_list_269 (by decide) ?_
          rw [iz_1, iz_add]
          exact zi_lv [0, 4, 5, 6, 7, 8, 9, 10] rfl (ih (y + 1) k (by omega) (by omega) (by omega) (by omega) (lst_0 hG (Lz_neg (by omega))))
        ·
          rw [iz_0, iz_lt (by omega) (by omega)] at zzQ
          obtain ⟨s9, hs9⟩ : ∃ s9 : Nat, (s9 : Int) = q := ⟨q.toNat, by omega⟩
          have hs6 : s9 ≤ 600 := by omega
          refine zi_iload 146 dX11_list_144 rfl rfl ?_
          refine zi_if_ne 149 155 dX11_list_146 (by decide) rfl (fun c_146 => absurd c_146 (by decide)) (fun c_146 => ?_)
          refine zi_ldc2 152 dX11_list_149 tw_1092 rfl ?_
          refine zi_goto 160 dX11_list_152 (by decide) ?_
          refine zi_lstore (lv' := [(18, _), (17, _), (15, _), (13, _), (8, _), (9, _), (11, _), (4, _), (6, _), (0, _), (1, _)]) 162 dX11_list_160 rfl rfl rfl ?_
          refine zi_lload 164 dX11_list_162 rfl rfl ?_
          refine zi_lconst (v := 0) 165 dX11_list_164 (by decide) rfl ?_
          refine zj_lt 169 263 dX11_list_165 rfl dX11_list_166 (by decide) rfl (fun zzN => ?_) (fun zzN => absurd (by decide) zzN)
          refine zi_lload 265 dX11_list_263 rfl rfl ?_
          refine zi_lconst (v := 1) 266 dX11_list_265 (by decide) rfl ?_
          refine zi_ladd 267 dX11_list_266 rfl ?_
          refine zi_lstore (lv' := [(13, _), (18, _), (17, _), (15, _), (8, _), (9, _), (11, _), (4, _), (6, _), (0, _), (1, _)]) 269 dX11_list_267 rfl rfl rfl ?_
          refine zi_goto 76 dX11_list_269 (by decide) ?_
          rw [iz_1, iz_add]
          exact zi_lv [0, 4, 5, 6, 7, 8, 9, 10] rfl (ih (y + 1) k (by omega) (by omega) (by omega) (by omega) (lst_0 hG (Lz_o1 zz1)))
      ·
        rw [iz_par (by omega) (by omega)] at zz1
        refine zi_lload 120 dX11_list_118 rfl rfl ?_
        refine zi_lconst (v := 1) 121 dX11_list_120 (by decide) rfl ?_
        refine zi_land 122 dX11_list_121 rfl ?_
        refine zi_lload 124 dX11_list_122 rfl rfl ?_
        refine zi_lconst (v := 1) 125 dX11_list_124 (by decide) rfl ?_
        refine zi_land 126 dX11_list_125 rfl ?_
        refine zj_ne 130 134 dX11_list_126 rfl dX11_list_127 (by decide) rfl (fun zz2 => ?_) (fun zz2 => ?_)
        ·
          rw [iz_par (by omega) (by omega)] at zz2
          refine zi_iconst (v := 0) 135 dX11_list_134 (by decide) rfl ?_
          refine zi_istore (lv' := [(17, _), (15, _), (13, _), (8, _), (9, _), (11, _), (4, _), (6, _), (0, _), (1, _)]) 137 dX11_list_135 rfl rfl rfl ?_
          refine zi_lload 139 dX11_list_137 rfl rfl ?_
          refine zi_lconst (v := 0) 140 dX11_list_139 (by decide) rfl ?_
          refine zj_lt 144 149 dX11_list_140 rfl dX11_list_141 (by decide) rfl (fun zzQ => ?_) (fun zzQ => ?_)
          ·
            rw [iz_0, iz_lt (by omega) (by omega)] at zzQ
            refine zi_ldc2 152 dX11_list_149 tw_1092 rfl ?_
            refine zi_goto 160 dX11_list_152 (by decide) ?_
            refine zi_lstore (lv' := [(18, _), (17, _), (15, _), (13, _), (8, _), (9, _), (11, _), (4, _), (6, _), (0, _), (1, _)]) 162 dX11_list_160 rfl rfl rfl ?_
            refine zi_lload 164 dX11_list_162 rfl rfl ?_
            refine zi_lconst (v := 0) 165 dX11_list_164 (by decide) rfl ?_
            refine zj_lt 169 263 dX11_list_165 rfl dX11_list_166 (by decide) rfl (fun zzN => ?_) (fun zzN => absurd (by decide) zzN)
            refine zi_lload 265 dX11_list_263 rfl rfl ?_
            refine zi_lconst (v := 1) 266 dX11_list_265 (by decide) rfl ?_
            refine zi_ladd 267 dX11_list_266 rfl ?_
            refine zi_lstore (lv' := [(13, _), (18, _), (17, _), (15, _), (8, _), (9, _), (11, _), (4, _), (6, _), (0, _), (1, _)]) 269 dX11_list_267 rfl rfl rfl ?_
            refine zi_goto 76 dX11_list_269 (by decide) ?_
            rw [iz_1, iz_add]
            exact zi_lv [0, 4, 5, 6, 7, 8, 9, 10] rfl (ih (y + 1) k (by omega) (by omega) (by omega) (by omega) (lst_0 hG (Lz_neg (by omega))))
          ·
            rw [iz_0, iz_lt (by omega) (by omega)] at zzQ
            obtain ⟨s9, hs9⟩ : ∃ s9 : Nat, (s9 : Int) = q := ⟨q.toNat, by omega⟩
            have hs6 : s9 ≤ 600 := by omega
            refine zi_iload 146 dX11_list_144 rfl rfl ?_
            refine zi_if_ne 149 155 dX11_list_146 (by decide) rfl (fun c_146 => absurd c_146 (by decide)) (fun c_146 => ?_)
            refine zi_ldc2 152 dX11_list_149 tw_1092 rfl ?_
            refine zi_goto 160 dX11_list_152 (by decide) ?_
            refine zi_lstore (lv' := [(18, _), (17, _), (15, _), (13, _), (8, _), (9, _), (11, _), (4, _), (6, _), (0, _), (1, _)]) 162 dX11_list_160 rfl rfl rfl ?_
            refine zi_lload 164 dX11_list_162 rfl rfl ?_
            refine zi_lconst (v := 0) 165 dX11_list_164 (by decide) rfl ?_
            refine zj_lt 169 263 dX11_list_165 rfl dX11_list_166 (by decide) rfl (fun zzN => ?_) (fun zzN => absurd (by decide) zzN)
            refine zi_lload 265 dX11_list_263 rfl rfl ?_
            refine zi_lconst (v := 1) 266 dX11_list_265 (by decide) rfl ?_
            refine zi_ladd 267 dX11_list_266 rfl ?_
            refine zi_lstore (lv' := [(13, _), (18, _), (17, _), (15, _), (8, _), (9, _), (11, _), (4, _), (6, _), (0, _), (1, _)]) 269 dX11_list_267 rfl rfl rfl ?_
            refine zi_goto 76 dX11_list_269 (by decide) ?_
            rw [iz_1, iz_add]
            exact zi_lv [0, 4, 5, 6, 7, 8, 9, 10] rfl (ih (y + 1) k (by omega) (by omega) (by omega) (by omega) (lst_0 hG (Lz_o2 (by omega))))
        ·
          rw [iz_par (by omega) (by omega)] at zz2
          refine zi_iconst (v := 1) 131 dX11_list_130 (by decide) rfl ?_
          refine zi_goto 135 dX11_list_131 (by decide) ?_
          refine zi_istore (lv' := [(17, _), (15, _), (13, _), (8, _), (9, _), (11, _), (4, _), (6, _), (0, _), (1, _)]) 137 dX11_list_135 rfl rfl rfl ?_
          refine zi_lload 139 dX11_list_137 rfl rfl ?_
          refine zi_lconst (v := 0) 140 dX11_list_139 (by decide) rfl ?_
          refine zj_lt 144 149 dX11_list_140 rfl dX11_list_141 (by decide) rfl (fun zzQ => ?_) (fun zzQ => ?_)
          ·
            rw [iz_0, iz_lt (by omega) (by omega)] at zzQ
            refine zi_ldc2 152 dX11_list_149 tw_1092 rfl ?_
            refine zi_goto 160 dX11_list_152 (by decide) ?_
            refine zi_lstore (lv' := [(18, _), (17, _), (15, _), (13, _), (8, _), (9, _), (11, _), (4, _), (6, _), (0, _), (1, _)]) 162 dX11_list_160 rfl rfl rfl ?_
            refine zi_lload 164 dX11_list_162 rfl rfl ?_
            refine zi_lconst (v := 0) 165 dX11_list_164 (by decide) rfl ?_
            refine zj_lt 169 263 dX11_list_165 rfl dX11_list_166 (by decide) rfl (fun zzN => ?_) (fun zzN => absurd (by decide) zzN)
            refine zi_lload 265 dX11_list_263 rfl rfl ?_
            refine zi_lconst (v := 1) 266 dX11_list_265 (by decide) rfl ?_
            refine zi_ladd 267 dX11_list_266 rfl ?_
            refine zi_lstore (lv' := [(13, _), (18, _), (17, _), (15, _), (8, _), (9, _), (11, _), (4, _), (6, _), (0, _), (1, _)]) 269 dX11_list_267 rfl rfl rfl ?_
            refine zi_goto 76 dX11_list_269 (by decide) ?_
            rw [iz_1, iz_add]
            exact zi_lv [0, 4, 5, 6, 7, 8, 9, 10] rfl (ih (y + 1) k (by omega) (by omega) (by omega) (by omega) (lst_0 hG (Lz_neg (by omega))))
          ·
            rw [iz_0, iz_lt (by omega) (by omega)] at zzQ
            obtain ⟨s9, hs9⟩ : ∃ s9 : Nat, (s9 : Int) = q := ⟨q.toNat, by omega⟩
            have hs6 : s9 ≤ 600 := by omega
            refine zi_iload 146 dX11_list_144 rfl rfl ?_
            refine zi_if_ne 149 155 dX11_list_146 (by decide) rfl (fun c_146 => ?_) (fun c_146 => absurd c_146 (by decide))
            refine zi_lload 157 dX11_list_155 rfl rfl ?_
            rw [show iz q = lN s9 from by rw [iz_lN, hs9]]
            obtain ⟨z, hz⟩ : ∃ z, z = zSq2 s9 := ⟨_, rfl⟩
            have hz24 : z ≤ 24 := by rw [hz]; exact rt24 hs6
            have hz31 : z < 2 ^ 63 := by omega
            have hzz : z * z ≤ 24 * 24 := Nat.mul_le_mul hz24 hz24
            refine zc_static (n' := (0, 0)) (md' := mX11_root) 160 dX11_list_157 tw_1122 zs_X11_root (s_X11_root B h s9 (by omega)) rfl rfl rfl rfl rfl rfl rfl rfl (zk_f ?_)
            rw [← hz]
            refine zi_lstore (lv' := [(18, _), (17, _), (15, _), (13, _), (8, _), (9, _), (11, _), (4, _), (6, _), (0, _), (1, _)]) 162 dX11_list_160 rfl rfl rfl ?_
            refine zi_lload 164 dX11_list_162 rfl rfl ?_
            refine zi_lconst (v := 0) 165 dX11_list_164 (by decide) rfl ?_
            refine zj_lt 169 263 dX11_list_165 rfl dX11_list_166 (by decide) rfl (fun zzN => absurd zzN (lN_nn hz31)) (fun zzN => ?_)
            refine zi_lload 171 dX11_list_169 rfl rfl ?_
            refine zi_lload 173 dX11_list_171 rfl rfl ?_
            refine zi_lmul 174 dX11_list_173 rfl ?_
            refine zi_lload 176 dX11_list_174 rfl rfl ?_
            rw [lN_mul]
            refine zj_ne 180 263 dX11_list_176 rfl dX11_list_177 (by decide) rfl (fun zzS => ?_) (fun zzS => ?_)
            ·
              rw [pk_lEQ (by omega) (by omega)] at zzS
              refine zi_lload 265 dX11_list_263 rfl rfl ?_
              refine zi_lconst (v := 1) 266 dX11_list_265 (by decide) rfl ?_
              refine zi_ladd 267 dX11_list_266 rfl ?_
              refine zi_lstore (lv' := [(13, _), (18, _), (17, _), (15, _), (8, _), (9, _), (11, _), (4, _), (6, _), (0, _), (1, _)]) 269 dX11_list_267 rfl rfl rfl ?_
              refine zi_goto 76 dX11_list_269 (by decide) ?_
              rw [iz_1, iz_add]
              exact zi_lv [0, 4, 5, 6, 7, 8, 9, 10] rfl (ih (y + 1) k (by omega) (by omega) (by omega) (by omega) (lst_0 hG (Lz_no (s := s9) (by omega) (by rw [← hz]; exact zzS))))
            ·
              rw [pk_lEQ (by omega) (by omega)] at zzS
              have hL := Lz_a (m := ((4 * n : Nat) : Int)) (w := w) (x := x) (y := y) (s := s9) (z := z) (by omega) zz1 (by omega) hz zzS
              refine zi_lload 182 dX11_list_180 rfl rfl ?_
              refine zi_lconst (v := 1) 183 dX11_list_182 (by decide) rfl ?_
              refine zi_land 184 dX11_list_183 rfl ?_
              refine zi_lload 186 dX11_list_184 rfl rfl ?_
              refine zi_lconst (v := 1) 187 dX11_list_186 (by decide) rfl ?_
              refine zi_land 188 dX11_list_187 rfl ?_
              refine zj_ne 192 263 dX11_list_188 rfl dX11_list_189 (by decide) rfl (fun zzP => absurd ((par_zw (n := n) hq hs9 zzS zz1 (by omega)).resolve_right (fun r => r.elim (fun r => r (by omega)) (fun r => r hz31))) zzP) (fun zzP => ?_)
              refine zi_iconst (v := 0) 193 dX11_list_192 (by decide) rfl ?_
              refine zi_istore (lv' := [(20, _), (18, _), (17, _), (15, _), (13, _), (8, _), (9, _), (11, _), (4, _), (6, _), (0, _), (1, _)]) 195 dX11_list_193 rfl rfl rfl ?_
              refine zi_iload 197 dX11_list_195 rfl rfl ?_
              refine zi_iconst (v := 2) 198 dX11_list_197 (by decide) rfl ?_
              refine zi_icmp_ge 201 263 dX11_list_198 (by decide) rfl (fun c_198 => absurd c_198 (by decide)) (fun c_198 => ?_)
              refine zi_iload 203 dX11_list_201 rfl rfl ?_
              refine zi_if_eq 206 213 dX11_list_203 (by decide) rfl (fun c_203 => ?_) (fun c_203 => absurd c_203 (by decide))
              refine zi_iload 215 dX11_list_213 rfl rfl ?_
              refine zi_if_ne 218 254 dX11_list_215 (by decide) rfl (fun hk0 => ?_) (fun hk0 => ?_)
              ·
                rw [nI_0e (by omega)] at hk0
                refine zi_iinc (v := nI (k - 1)) (lv' := [(8, _), (20, _), (18, _), (17, _), (15, _), (13, _), (9, _), (11, _), (4, _), (6, _), (0, _), (1, _)]) 257 dX11_list_254 rfl (nI_dec (by omega)) rfl rfl rfl ?_
                have hk1 : 1 ≤ k := by omega
                refine zi_iinc (v := 1) (lv' := [(20, _), (8, _), (18, _), (17, _), (15, _), (13, _), (9, _), (11, _), (4, _), (6, _), (0, _), (1, _)]) 260 dX11_list_257 rfl rfl rfl rfl rfl ?_
                refine zi_goto 195 dX11_list_260 (by decide) ?_
                refine zi_iload 197 dX11_list_195 rfl rfl ?_
                refine zi_iconst (v := 2) 198 dX11_list_197 (by decide) rfl ?_
                refine zi_icmp_ge 201 263 dX11_list_198 (by decide) rfl (fun c_198 => absurd c_198 (by decide)) (fun c_198 => ?_)
                refine zi_iload 203 dX11_list_201 rfl rfl ?_
                refine zi_if_eq 206 213 dX11_list_203 (by decide) rfl (fun c_203 => absurd c_203 (by decide)) (fun c_203 => ?_)
                refine zi_lload 208 dX11_list_206 rfl rfl ?_
                refine zi_lconst (v := 0) 209 dX11_list_208 (by decide) rfl ?_
                refine zj_le 213 257 dX11_list_209 rfl dX11_list_210 (by decide) rfl (fun hz0 => ?_) (fun hz0 => ?_)
                ·
                  have hz0 : z = 0 := by rw [show (0 : Int64) = lN 0 from rfl, pk_lLE hz31 (by decide)] at hz0; omega
                  refine zi_iinc (v := 2) (lv' := [(20, _), (8, _), (18, _), (17, _), (15, _), (13, _), (9, _), (11, _), (4, _), (6, _), (0, _), (1, _)]) 260 dX11_list_257 rfl rfl rfl rfl rfl ?_
                  refine zi_goto 195 dX11_list_260 (by decide) ?_
                  refine zi_iload 197 dX11_list_195 rfl rfl ?_
                  refine zi_iconst (v := 2) 198 dX11_list_197 (by decide) rfl ?_
                  refine zi_icmp_ge 201 263 dX11_list_198 (by decide) rfl (fun c_198 => ?_) (fun c_198 => absurd c_198 (by decide))
                  refine zi_lload 265 dX11_list_263 rfl rfl ?_
                  refine zi_lconst (v := 1) 266 dX11_list_265 (by decide) rfl ?_
                  refine zi_ladd 267 dX11_list_266 rfl ?_
                  refine zi_lstore (lv' := [(13, _), (20, _), (8, _), (18, _), (17, _), (15, _), (9, _), (11, _), (4, _), (6, _), (0, _), (1, _)]) 269 dX11_list_267 rfl rfl rfl ?_
                  refine zi_goto 76 dX11_list_269 (by decide) ?_
                  rw [iz_1, iz_add]
                  exact zi_lv [0, 2, 6, 7, 8, 9, 10, 11] rfl (ih (y + 1) (k - 1) (by omega) (by omega) (by omega) (by omega) (lst_1 hG (hL.1 hz0) hk1))
                ·
                  have hz0 : ¬ z = 0 := by rw [show (0 : Int64) = lN 0 from rfl, pk_lLE hz31 (by decide)] at hz0; omega
                  refine zi_iload 215 dX11_list_213 rfl rfl ?_
                  refine zi_if_ne 218 254 dX11_list_215 (by decide) rfl (fun hk2 => ?_) (fun hk2 => ?_)
                  ·
                    rw [nI_0e (by omega)] at hk2
                    refine zi_iinc (v := nI ((k - 1) - 1)) (lv' := [(8, _), (20, _), (18, _), (17, _), (15, _), (13, _), (9, _), (11, _), (4, _), (6, _), (0, _), (1, _)]) 257 dX11_list_254 rfl (nI_dec (by omega)) rfl rfl rfl ?_
                    refine zi_iinc (v := 2) (lv' := [(20, _), (8, _), (18, _), (17, _), (15, _), (13, _), (9, _), (11, _), (4, _), (6, _), (0, _), (1, _)]) 260 dX11_list_257 rfl rfl rfl rfl rfl ?_
                    refine zi_goto 195 dX11_list_260 (by decide) ?_
                    refine zi_iload 197 dX11_list_195 rfl rfl ?_
                    refine zi_iconst (v := 2) 198 dX11_list_197 (by decide) rfl ?_
                    refine zi_icmp_ge 201 263 dX11_list_198 (by decide) rfl (fun c_198 => ?_) (fun c_198 => absurd c_198 (by decide))
                    refine zi_lload 265 dX11_list_263 rfl rfl ?_
                    refine zi_lconst (v := 1) 266 dX11_list_265 (by decide) rfl ?_
                    refine zi_ladd 267 dX11_list_266 rfl ?_
                    refine zi_lstore (lv' := [(13, _), (20, _), (8, _), (18, _), (17, _), (15, _), (9, _), (11, _), (4, _), (6, _), (0, _), (1, _)]) 269 dX11_list_267 rfl rfl rfl ?_
                    refine zi_goto 76 dX11_list_269 (by decide) ?_
                    rw [iz_1, iz_add]
                    exact zi_lv [0, 2, 6, 7, 8, 9, 10, 11] rfl (ih (y + 1) ((k - 1) - 1) (by omega) (by omega) (by omega) (by omega) (lst_2 hG (hL.2 hz0) hk1 (by omega)))
                  ·
                    rw [nI_0e (by omega)] at hk2
                    refine zi_aload_n 219 dX11_list_218 rfl rfl ?_
                    refine zi_iconst (v := 0) 220 dX11_list_219 (by decide) rfl ?_
                    refine zi_lload 222 dX11_list_220 rfl rfl ?_
                    refine zi_lload 224 dX11_list_222 rfl rfl ?_
                    refine zi_lload 226 dX11_list_224 rfl rfl ?_
                    refine zi_iload 228 dX11_list_226 rfl rfl ?_
                    refine zi_if_ne 231 237 dX11_list_228 (by decide) rfl (fun c_228 => ?_) (fun c_228 => absurd c_228 (by decide))
                    refine zi_lload 239 dX11_list_237 rfl rfl ?_
                    rw [iz_lN]
                    refine zc_virtual (n' := (0, 0)) (md' := mX11_put) 242 dX11_list_239 tw_944 zv_X11_put zcl_X11 (s_X11_put B h D hD _ N0.1 0 (by decide) (_, _, _, _)) N0.1.1 rfl rfl rfl rfl rfl rfl rfl rfl (zk_v fun h1 n1 => ?_)
                    have N1 := rN_t N0 n1
                    obtain ⟨RP, N2, r0⟩ : ∃ R, rN B D (uR m R) h h1 ∧ ro R 0 = z4i (w, x, y, (z : Int)) := ⟨_, N1, rfl⟩
                    have hP : (lsL (4 * n))[i0]? = some (w, x, y, (z : Int)) := lfd_1 hG (hL.2 hz0) hk1 hk2
                    have hV := lsL_V hn (List.mem_of_getElem? hP)
                    refine zi_aload_n 243 dX11_list_242 rfl rfl ?_
                    refine zi_iload_n 244 dX11_list_243 rfl rfl ?_
                    refine zi_iconst (v := 0) 245 dX11_list_244 (by decide) rfl ?_
                    refine zc_virtual (n' := (0, 0)) (md' := mX11_hold) 248 dX11_list_245 tw_954 zv_X11_hold zcl_X11 (s_X11_hold B h1 D hD _ N2.1 ti 0 (by omega) (by omega)) N2.1.1 rfl rfl rfl rfl rfl rfl rfl rfl (zk_v fun h3 n3 => ?_)
                    have N3 := rN_t N2 n3
                    refine zi_aload_n 249 dX11_list_248 rfl rfl ?_
                    refine zi_iconst (v := 0) 250 dX11_list_249 (by decide) rfl ?_
                    refine zc_virtual (n' := (0, 0)) (md' := mX11_kindOf) 253 dX11_list_250 tw_958 zv_X11_kindOf zcl_X11 (s_X11_kindOf B h3 D hD _ N3.1 0 (by omega) (w, x, y, (z : Int)) hV r0) N3.1.1 rfl rfl rfl rfl rfl rfl rfl rfl (zk_f ?_)
                    exact zr_int hZ dX11_list_253 rfl rfl (hF_ hF hP N3 r0)
              ·
                rw [nI_0e (by omega)] at hk0
                refine zi_aload_n 219 dX11_list_218 rfl rfl ?_
                refine zi_iconst (v := 0) 220 dX11_list_219 (by decide) rfl ?_
                refine zi_lload 222 dX11_list_220 rfl rfl ?_
                refine zi_lload 224 dX11_list_222 rfl rfl ?_
                refine zi_lload 226 dX11_list_224 rfl rfl ?_
                refine zi_iload 228 dX11_list_226 rfl rfl ?_
                refine zi_if_ne 231 237 dX11_list_228 (by decide) rfl (fun c_228 => absurd c_228 (by decide)) (fun c_228 => ?_)
                refine zi_lload 233 dX11_list_231 rfl rfl ?_
                refine zi_lneg 234 dX11_list_233 rfl ?_
                refine zi_goto 239 dX11_list_234 (by decide) ?_
                rw [iz_lN, iz_neg]
                refine zc_virtual (n' := (0, 0)) (md' := mX11_put) 242 dX11_list_239 tw_944 zv_X11_put zcl_X11 (s_X11_put B h D hD _ N0.1 0 (by decide) (_, _, _, _)) N0.1.1 rfl rfl rfl rfl rfl rfl rfl rfl (zk_v fun h4 n4 => ?_)
                have N4 := rN_t N0 n4
                obtain ⟨RP, N5, r0⟩ : ∃ R, rN B D (uR m R) h h4 ∧ ro R 0 = z4i (w, x, y, -(z : Int)) := ⟨_, N4, rfl⟩
                have hP : (lsL (4 * n))[i0]? = some (w, x, y, -(z : Int)) := lfd_0 hG (lz_c hL) hk0
                have hV := lsL_V hn (List.mem_of_getElem? hP)
                refine zi_aload_n 243 dX11_list_242 rfl rfl ?_
                refine zi_iload_n 244 dX11_list_243 rfl rfl ?_
                refine zi_iconst (v := 0) 245 dX11_list_244 (by decide) rfl ?_
                refine zc_virtual (n' := (0, 0)) (md' := mX11_hold) 248 dX11_list_245 tw_954 zv_X11_hold zcl_X11 (s_X11_hold B h4 D hD _ N5.1 ti 0 (by omega) (by omega)) N5.1.1 rfl rfl rfl rfl rfl rfl rfl rfl (zk_v fun h6 n6 => ?_)
                have N6 := rN_t N5 n6
                refine zi_aload_n 249 dX11_list_248 rfl rfl ?_
                refine zi_iconst (v := 0) 250 dX11_list_249 (by decide) rfl ?_
                refine zc_virtual (n' := (0, 0)) (md' := mX11_kindOf) 253 dX11_list_250 tw_958 zv_X11_kindOf zcl_X11 (s_X11_kindOf B h6 D hD _ N6.1 0 (by omega) (w, x, y, -(z : Int)) hV r0) N6.1.1 rfl rfl rfl rfl rfl rfl rfl rfl (zk_f ?_)
                exact zr_int hZ dX11_list_253 rfl rfl (hF_ hF hP N6 r0)

set_option maxHeartbeats 2000000 in
set_option maxRecDepth 100000 in
theorem l_X11_list_x (B : zBB) (h : zHp) (X : zX) (D : Nat → Nat) (hD : zInj D) (m : mS) (n e ti : Nat) (hn : n ≤ 150) (he : e ≤ 24) (hti : ti < 20) (i0 : Nat) (Post : Option Value → zHp → Prop) (hZ : zIsP X mX11_list B (0, 0) Post) (M : rM B D m h) (hF : ∀ (P : i4) (h' : zHp) (R : Nat → Int64), (lsL (4 * n))[i0]? = some P → rN B D (uHo (uR m R) ti 0) h h' → ro R 0 = z4i P → Post (some (.int (nI (kindI P)))) h') (w : Int) (hw1 : -25 ≤ w) (hw2 : w ≤ 25) (G : List i4) (kk : ∀ (k : Nat), k < 2 ^ 31 → (lsL (4 * n))[i0]? = G[k]? → zG X mX11_list B (3, 0, 0) (0, 0) 281 [(8, .int (nI k)), (9, .long (iz w)), (4, .long (iz ((4 * n : Nat) : Int))), (6, .long (iz (e : Int))), (0, .ref (D 0)), (1, .int (nI ti))] [] h) : ∀ (nn : Nat) (x : Int) (k : Nat), ((e : Int) + 1 - x).toNat < nn → (-25 ≤ x) → (x ≤ e + 1) → (k < 2 ^ 31) → ((lsL (4 * n))[i0]? = (up (gX (4 * n) e w) ((e : Int) + 1 - x).toNat x ++ G)[k]?) → zG X mX11_list B (3, 0, 0) (0, 0) 63 [(11, .long (iz x)), (8, .int (nI k)), (9, .long (iz w)), (4, .long (iz ((4 * n : Nat) : Int))), (6, .long (iz (e : Int))), (0, .ref (D 0)), (1, .int (nI ti))] [] h := by
  intro nn
  induction nn with
  | zero => intro x k hnn; omega
  | succ nn ih =>
    intro x k hnn hx1 hx2 hk hG
    have N0 := rN_r M
    refine zi_lload 65 dX11_list_63 rfl rfl ?_
    refine zi_lload 67 dX11_list_65 rfl rfl ?_
    refine zj_gt 71 281 dX11_list_67 rfl dX11_list_68 (by decide) rfl (fun zzE => ?_) (fun zzE => ?_)
    ·
      rw [iz_lt (by omega) (by omega)] at zzE
      rw [up_z zzE, List.nil_append] at hG
      exact zi_lv [1, 2, 3, 4, 5, 6] rfl (kk k hk hG)
    ·
      rw [iz_lt (by omega) (by omega)] at zzE
      have hyE : x ≤ e := by omega
      refine zi_lload 73 dX11_list_71 rfl rfl ?_
      refine zi_lneg 74 dX11_list_73 rfl ?_
      refine zi_lstore (lv' := [(13, _), (11, _), (8, _), (9, _), (4, _), (6, _), (0, _), (1, _)]) 76 dX11_list_74 rfl rfl rfl ?_
      rw [iz_neg]
      rw [ls_s1 hyE, List.append_assoc] at hG
      have hG2 : (lsL (4 * n))[i0]? = (up (Lz ((4 * n : Nat) : Int) w x) ((e : Int) + 1 - -(e : Int)).toNat (-(e : Int)) ++ (up (gX (4 * n) e w) ((e : Int) + 1 - (x + 1)).toNat (x + 1) ++ G))[k]? := by rw [up_0]; exact hG
      refine zi_lv [0, 2, 3, 1, 4, 5, 6, 7] rfl (l_X11_list_y B h X D hD m n e ti hn he hti i0 Post hZ M hF w x hw1 hw2 hx1 (by omega) _ (fun k2 hk2 hG3 => ?_) _ (-(e : Int)) k (Nat.lt_succ_self _) (by omega) (by omega) hk hG2)
      refine zi_lload 274 dX11_list_272 rfl rfl ?_
      refine zi_lconst (v := 1) 275 dX11_list_274 (by decide) rfl ?_
      refine zi_ladd 276 dX11_list_275 rfl ?_
      refine zi_lstore (lv' := [(11, _), (8, _), (9, _), (4, _), (6, _), (0, _), (1, _)]) 278 dX11_list_276 rfl rfl rfl ?_
      refine zi_goto 63 dX11_list_278 (by decide) ?_
      rw [iz_1, iz_add]
      exact zi_lv [0, 1, 2, 3, 4, 5, 6] rfl (ih (x + 1) k2 (by omega) (by omega) (by omega) hk2 hG3)

set_option maxHeartbeats 2000000 in
set_option maxRecDepth 100000 in
theorem l_X11_list_w (B : zBB) (h : zHp) (X : zX) (D : Nat → Nat) (hD : zInj D) (m : mS) (n e ti : Nat) (hn : n ≤ 150) (he : e ≤ 24) (hti : ti < 20) (i0 : Nat) (Post : Option Value → zHp → Prop) (hZ : zIsP X mX11_list B (0, 0) Post) (M : rM B D m h) (hF : ∀ (P : i4) (h' : zHp) (R : Nat → Int64), (lsL (4 * n))[i0]? = some P → rN B D (uHo (uR m R) ti 0) h h' → ro R 0 = z4i P → Post (some (.int (nI (kindI P)))) h')  (kk : ∀ (k : Nat), (lsL (4 * n))[i0]? = none → zG X mX11_list B (3, 0, 0) (0, 0) 290 [(0, .ref (D 0))] [] h) : ∀ (nn : Nat) (w : Int) (k : Nat), ((e : Int) + 1 - w).toNat < nn → (-25 ≤ w) → (w ≤ e + 1) → (k < 2 ^ 31) → ((lsL (4 * n))[i0]? = (up (gW (4 * n) e) ((e : Int) + 1 - w).toNat w)[k]?) → zG X mX11_list B (3, 0, 0) (0, 0) 45 [(9, .long (iz w)), (8, .int (nI k)), (4, .long (iz ((4 * n : Nat) : Int))), (6, .long (iz (e : Int))), (0, .ref (D 0)), (1, .int (nI ti))] [] h := by
  intro nn
  induction nn with
  | zero => intro w k hnn; omega
  | succ nn ih =>
    intro w k hnn hw1 hw2 hk hG
    have N0 := rN_r M
    refine zi_lload 47 dX11_list_45 rfl rfl ?_
    refine zi_lload 49 dX11_list_47 rfl rfl ?_
    refine zj_gt 53 290 dX11_list_49 rfl dX11_list_50 (by decide) rfl (fun zzE => ?_) (fun zzE => ?_)
    ·
      rw [iz_lt (by omega) (by omega)] at zzE
      rw [up_z zzE] at hG
      exact zi_lv [4] rfl (kk k hG)
    ·
      rw [iz_lt (by omega) (by omega)] at zzE
      have hyE : w ≤ e := by omega
      refine zi_iload 55 dX11_list_53 rfl rfl ?_
      refine zi_if_lt 58 290 dX11_list_55 (by decide) rfl (fun zzL => absurd zzL (nI_pos hk)) (fun zzL => ?_)
      refine zi_lload 60 dX11_list_58 rfl rfl ?_
      refine zi_lneg 61 dX11_list_60 rfl ?_
      refine zi_lstore (lv' := [(11, _), (9, _), (8, _), (4, _), (6, _), (0, _), (1, _)]) 63 dX11_list_61 rfl rfl rfl ?_
      rw [iz_neg]
      rw [ls_s1 hyE] at hG
      have hG2 : (lsL (4 * n))[i0]? = (up (gX (4 * n) e w) ((e : Int) + 1 - -(e : Int)).toNat (-(e : Int)) ++ up (gW (4 * n) e) ((e : Int) + 1 - (w + 1)).toNat (w + 1))[k]? := by rw [up_0]; exact hG
      refine zi_lv [0, 2, 1, 3, 4, 5, 6] rfl (l_X11_list_x B h X D hD m n e ti hn he hti i0 Post hZ M hF w hw1 (by omega) _ (fun k2 hk2 hG3 => ?_) _ (-(e : Int)) k (Nat.lt_succ_self _) (by omega) (by omega) hk hG2)
      refine zi_lload 283 dX11_list_281 rfl rfl ?_
      refine zi_lconst (v := 1) 284 dX11_list_283 (by decide) rfl ?_
      refine zi_ladd 285 dX11_list_284 rfl ?_
      refine zi_lstore (lv' := [(9, _), (8, _), (4, _), (6, _), (0, _), (1, _)]) 287 dX11_list_285 rfl rfl rfl ?_
      refine zi_goto 45 dX11_list_287 (by decide) ?_
      rw [iz_1, iz_add]
      exact zi_lv [0, 1, 2, 3, 4, 5] rfl (ih (w + 1) k2 (by omega) (by omega) (by omega) hk2 hG3)

set_option maxHeartbeats 1000000 in
set_option maxRecDepth 100000 in
theorem s_X11_list (B : zBB) (h : zHp) (D : Nat → Nat) (hD : zInj D) (s : zSt) (hs0 : okSt s) (hR : rRm B D s h) (t : Int32) (n : Int32) (i : Int32) : zSpec mX11_list B (3, 0, 0) [.ref (D 0), .int t, .int n, .int i] h (zPi (fun zx h' => ∃ s' : zSt, r_list s t n i = (zx, s') ∧ rRm B D s' h' ∧ rOd D h h')) := by
  refine zSpec.of (by decide) (Nat.le_of_ble_eq_true rfl) (fun X hZ => ?_)
  show zG X mX11_list B (3, 0, 0) (0, 0) 0 [(0, .ref (D 0)), (1, .int t), (2, .int n), (3, .int i)] [] h
  obtain ⟨m, M, K⟩ := hR
  have N0 := rN_r M
  refine zi_iload_n 1 dX11_list_0 rfl rfl ?_
  refine zc_static (n' := (0, 0)) (md' := mX11_isSlot) 4 dX11_list_1 tw_937 zs_X11_isSlot (s_X11_isSlot B h _) rfl rfl rfl rfl rfl rfl rfl rfl (zk_f ?_)
  refine zb_eq 7 19 dX11_list_4 (by decide) rfl (fun zzA => ?_) (fun zzA => ?_)
  ·
    have zzA := Decidable.not_not.mp (fun q => zzA (in_20.mpr q))
    refine zi_ldc 21 dX11_list_19 tw_910 rfl ?_
    exact zr_int hZ dX11_list_21 rfl rfl ⟨_, rfl, _, by rw [r_list, if_pos (by first | exact Or.inl zzA | exact Or.inr zzB)], ⟨m, N0.1, K⟩, N0.2⟩
  ·
    have zzA := in_20.mp zzA
    refine zi_iload_n 8 dX11_list_7 rfl rfl ?_
    refine zi_i2l 9 dX11_list_8 rfl ?_
    refine zi_lconst (v := 1) 10 dX11_list_9 (by decide) rfl ?_
    refine zi_ldc2 13 dX11_list_10 tw_1121 rfl ?_
    refine zc_static (n' := (0, 0)) (md' := mX11_in) 16 dX11_list_13 tw_906 zs_X11_in (s_X11_in B h _ _ _) rfl rfl rfl rfl rfl rfl rfl rfl (zk_f ?_)
    refine zb_ne 19 22 dX11_list_16 (by decide) rfl (fun zzB => ?_) (fun zzB => ?_)
    ·
      have zzO : ¬ (zOut t 20 ∨ n < 1 ∨ 150 < n) := fun r => r.elim zzA (in_150.mp zzB)
      obtain ⟨nn, hn1, hn2, hn31, rfl⟩ := rng0 (a := 1) (b := 150) (by decide) (by decide) (in_150.mp zzB)
      obtain ⟨ti, hti, hti31, rfl⟩ := out_i (N := 20) (by decide) zzA
      obtain ⟨e, he⟩ : ∃ e, e = zSq2 (4 * nn) := ⟨_, rfl⟩
      have he24 : e ≤ 24 := by rw [he]; exact rt24 (by omega)
      refine zi_ldc2 25 dX11_list_22 tw_952 rfl ?_
      refine zi_iload_n 26 dX11_list_25 rfl rfl ?_
      refine zi_i2l 27 dX11_list_26 rfl ?_
      refine zi_lmul 28 dX11_list_27 rfl ?_
      rw [show (4 : Int64) = lN 4 from rfl, nI_l hn31, lN_mul]
      refine zi_lstore (lv' := [(4, _), (0, _), (1, _), (2, _), (3, _)]) 30 dX11_list_28 rfl rfl rfl ?_
      refine zi_lload 32 dX11_list_30 rfl rfl ?_
      refine zc_static (n' := (0, 0)) (md' := mX11_root) 35 dX11_list_32 tw_1122 zs_X11_root (s_X11_root B h (4 * nn) (by omega)) rfl rfl rfl rfl rfl rfl rfl rfl (zk_f ?_)
      rw [← he]
      refine zi_lstore (lv' := [(6, _), (4, _), (0, _), (1, _), (2, _), (3, _)]) 37 dX11_list_35 rfl rfl rfl ?_
      refine zi_iload_n 38 dX11_list_37 rfl rfl ?_
      refine zi_istore (lv' := [(8, _), (6, _), (4, _), (0, _), (1, _), (2, _), (3, _)]) 40 dX11_list_38 rfl rfl rfl ?_
      refine zi_lload 42 dX11_list_40 rfl rfl ?_
      refine zi_lneg 43 dX11_list_42 rfl ?_
      refine zi_lstore (lv' := [(9, _), (8, _), (6, _), (4, _), (0, _), (1, _), (2, _), (3, _)]) 45 dX11_list_43 rfl rfl rfl ?_
      rw [iz_lN, iz_lN, iz_neg]
      by_cases zzI : i < 0
      ·
        refine zi_lload 47 dX11_list_45 rfl rfl ?_
        refine zi_lload 49 dX11_list_47 rfl rfl ?_
        refine zj_gt 53 290 dX11_list_49 rfl dX11_list_50 (by decide) rfl (fun zzE => absurd ((iz_lt (by omega) (by omega)).mp zzE) (by omega)) (fun zzE => ?_)
        refine zi_iload 55 dX11_list_53 rfl rfl ?_
        refine zi_if_lt 58 290 dX11_list_55 (by decide) rfl (fun zzL => ?_) (fun zzL => absurd zzI zzL)
        refine zi_ldc 292 dX11_list_290 tw_1034 rfl ?_
        exact zr_int hZ dX11_list_292 rfl rfl ⟨_, rfl, _, by rw [r_list, if_neg zzO, if_pos zzI], ⟨m, N0.1, K⟩, N0.2⟩
      ·
        obtain ⟨k0, hk0, rfl⟩ := nI_of zzI
        have hG : (lsL (4 * nn))[k0]? = (up (gW (4 * nn) e) ((e : Int) + 1 - -(e : Int)).toNat (-(e : Int)))[k0]? := by rw [up_0, he, gL_e]
        refine zi_lv [0, 1, 3, 2, 4, 5] rfl (l_X11_list_w B h X D hD m nn e ti hn2 he24 hti k0 _ hZ M (fun P h9 R hP NP rP => ⟨_, rfl, _, by rw [r_list, if_neg zzO, if_neg zzI, nI_clamp hn31, nI_clamp hk0, hP, onS_s, nI_clamp hti31], ⟨_, NP.1, mQ_ho rP K⟩, NP.2⟩) (fun k9 hno => ?_) _ (-(e : Int)) k0 (Nat.lt_succ_self _) (by omega) (by omega) hk0 hG)
        refine zi_ldc 292 dX11_list_290 tw_1034 rfl ?_
        exact zr_int hZ dX11_list_292 rfl rfl ⟨_, rfl, _, by rw [r_list, if_neg zzO, if_neg zzI, nI_clamp hn31, nI_clamp hk0, hno, onS_n], ⟨m, M, K⟩, fun _ _ => rfl⟩
    ·
      have zzB : n < 1 ∨ 150 < n := Decidable.not_not.mp (fun q => zzB (in_150.mpr q))
      refine zi_ldc 21 dX11_list_19 tw_910 rfl ?_
      exact zr_int hZ dX11_list_21 rfl rfl ⟨_, rfl, _, by rw [r_list, if_pos (by first | exact Or.inl zzA | exact Or.inr zzB)], ⟨m, N0.1, K⟩, N0.2⟩
