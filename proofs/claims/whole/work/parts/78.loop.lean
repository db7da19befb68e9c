theorem zRc_s {B : zBB} {A : Nat → Nat} {s : zSt} {h : zHp} (hR : zRc B A s h) : ∀ i, i < 91 → h (A i) ≠ none := by
  obtain ⟨a1, ⟨⟨ft, a2, a3⟩, ff, a4, a5⟩, ⟨fk, a6, a7⟩, a8, a9, ⟨b1, b2, b3, b4, b5⟩, ⟨⟨x, b6⟩, ru, b7, b8⟩, ⟨l, u, c1, c2⟩, ⟨l2, u2, v1, v2, v3, v4, v5, v6, c3, c4, c5⟩, t, c6, c7, c8⟩ := hR
  have S : ∀ (i : Nat) {e : va_E}, h (A i) = some e → h (A i) ≠ none := fun i e e1 q => by rw [e1] at q; cases q
  intro i hi
  rcases (show i < 22 ∨ (22 ≤ i ∧ i < 30) ∨ (30 ≤ i ∧ i < 38) ∨ (38 ≤ i ∧ i < 58) ∨ 58 ≤ i by omega) with q | q | q | q | q
  · match i, q with
    | 0, _ => exact S 0 a1
    | 1, _ => exact S 1 a2
    | 2, _ => exact S 2 a4
    | 3, _ => exact S 3 a6
    | 4, _ => exact S 4 b1
    | 5, _ => exact S 5 b2
    | 6, _ => exact S 6 b3.1
    | 7, _ => exact S 7 b4.2.1
    | 8, _ => exact S 8 b6
    | 9, _ => exact S 9 c1
    | 10, _ => exact S 10 c3
    | 11, _ => exact S 11 c6
    | 12, _ => exact S 12 b3.2.1
    | 13, _ => exact S 13 b3.2.2.1
    | 14, _ => exact S 14 b4.1.1
    | 15, _ => exact S 15 b4.1.2.1
    | 16, _ => exact S 16 b4.1.2.2.1
    | 17, _ => exact S 17 c4
    | 18, _ => exact S 18 b7
    | 19, _ => exact S 19 c2
    | 20, _ => exact S 20 c5
    | 21, _ => exact S 21 c7
    | n + 22, q => exact absurd q (by omega)
  · obtain ⟨u, e1, e2, -⟩ := a9 (i - 22) (by omega)
    rw [show i = 22 + (i - 22) by omega]
    exact S _ e1
  · obtain ⟨u, e1, e2, -⟩ := a9 (i - 30) (by omega)
    rw [show i = 30 + (i - 30) by omega]
    exact S _ e2
  · obtain ⟨v, e1, -⟩ := a8 (i - 38) (by omega)
    rw [show i = 38 + (i - 38) by omega]
    exact S _ e1
  · obtain ⟨k, rfl⟩ : ∃ k, i = 58 + k := ⟨i - 58, by omega⟩
    have hk : k < 33 := by omega
    match k, hk with
    | 0, _ =>
      obtain ⟨v, hv⟩ := b5 58 (by decide)
      exact S 58 hv
    | 1, _ =>
      obtain ⟨v, hv⟩ := b5 59 (by decide)
      exact S 59 hv
    | 2, _ =>
      obtain ⟨v, hv⟩ := b5 60 (by decide)
      exact S 60 hv
    | 3, _ =>
      obtain ⟨v, hv⟩ := b5 61 (by decide)
      exact S 61 hv
    | 4, _ =>
      obtain ⟨v, hv⟩ := b5 62 (by decide)
      exact S 62 hv
    | 5, _ =>
      obtain ⟨v, hv⟩ := b5 63 (by decide)
      exact S 63 hv
    | 6, _ =>
      obtain ⟨v, hv⟩ := b5 64 (by decide)
      exact S 64 hv
    | 7, _ =>
      obtain ⟨v, hv⟩ := b5 65 (by decide)
      exact S 65 hv
    | 8, _ =>
      obtain ⟨v, hv⟩ := b3.2.2.2 1 (by decide)
      exact S 66 hv
    | 9, _ =>
      obtain ⟨v, hv⟩ := b3.2.2.2 2 (by decide)
      exact S 67 hv
    | 10, _ =>
      obtain ⟨v, hv⟩ := b3.2.2.2 3 (by decide)
      exact S 68 hv
    | 11, _ =>
      obtain ⟨v, hv⟩ := b3.2.2.2 6 (by decide)
      exact S 69 hv
    | 12, _ =>
      obtain ⟨v, hv⟩ := b3.2.2.2 7 (by decide)
      exact S 70 hv
    | 13, _ =>
      obtain ⟨v, hv⟩ := b3.2.2.2 8 (by decide)
      exact S 71 hv
    | 14, _ =>
      obtain ⟨v, hv⟩ := b3.2.2.2 9 (by decide)
      exact S 72 hv
    | 15, _ =>
      obtain ⟨v, hv⟩ := b3.2.2.2 10 (by decide)
      exact S 73 hv
    | 16, _ =>
      obtain ⟨v, hv⟩ := b3.2.2.2 11 (by decide)
      exact S 74 hv
    | 17, _ =>
      obtain ⟨v, hv⟩ := b3.2.2.2 12 (by decide)
      exact S 75 hv
    | 18, _ =>
      obtain ⟨v, hv⟩ := b4.2.2 14 (by decide)
      exact S 76 hv
    | 19, _ =>
      obtain ⟨v, hv⟩ := b4.2.2 15 (by decide)
      exact S 77 hv
    | 20, _ =>
      obtain ⟨v, hv⟩ := b4.2.2 16 (by decide)
      exact S 78 hv
    | 21, _ =>
      obtain ⟨v, hv⟩ := b4.2.2 17 (by decide)
      exact S 79 hv
    | 22, _ =>
      obtain ⟨v, hv⟩ := b4.1.2.2.2 1 (by decide)
      exact S 80 hv
    | 23, _ =>
      obtain ⟨v, hv⟩ := b4.1.2.2.2 2 (by decide)
      exact S 81 hv
    | 24, _ =>
      obtain ⟨v, hv⟩ := b4.1.2.2.2 3 (by decide)
      exact S 82 hv
    | 25, _ =>
      obtain ⟨v, hv⟩ := b4.1.2.2.2 6 (by decide)
      exact S 83 hv
    | 26, _ =>
      obtain ⟨v, hv⟩ := b4.1.2.2.2 7 (by decide)
      exact S 84 hv
    | 27, _ =>
      obtain ⟨v, hv⟩ := b4.1.2.2.2 8 (by decide)
      exact S 85 hv
    | 28, _ =>
      obtain ⟨v, hv⟩ := b4.1.2.2.2 9 (by decide)
      exact S 86 hv
    | 29, _ =>
      obtain ⟨v, hv⟩ := b4.1.2.2.2 10 (by decide)
      exact S 87 hv
    | 30, _ =>
      obtain ⟨v, hv⟩ := b4.1.2.2.2 11 (by decide)
      exact S 88 hv
    | 31, _ =>
      obtain ⟨v, hv⟩ := b4.1.2.2.2 12 (by decide)
      exact S 89 hv
    | 32, _ =>
      obtain ⟨v, hv⟩ := b5 90 (by decide)
      exact S 90 hv
    | n + 33, hk => exact absurd hk (by omega)
theorem lp_lt {i L : Nat} (hi : i ≤ 4000) (hL : L ≤ 3584) : nI L - 7 < nI i ↔ L < i + 7 := by
  rw [show (7 : Int32) = jz 7 from rfl, jz_nI, jz_nI, jz_sub, jz_lt ⟨by omega, by omega⟩ ⟨by omega, by omega⟩]
  omega
set_option maxHeartbeats 4000000 in
set_option maxRecDepth 100000 in
theorem l_law_loop (B : zBB) (X : zX) (b L : Nat) (xs : Nat → Int32) (hS : lwS X b L xs) (hL : L ≤ 3584) (A D : Nat → Nat) (hA : zInj A) (hD : zInj D) (J : zDj A D) (kk : ∀ (lv : List (Nat × Value)) (h2 : zHp), zG X mL_law B (10, 101, 2916) (101, 2916) 1411 lv [] h2) : ∀ (n i : Nat) (s : zSt) (h : zHp), L + 7 - i < n → i ≤ L + 7 → lwI B A D s h → zG X mL_law B (10, 101, 2916) (101, 2916) 18 [(3, .int (nI i)), (2, .ref (D 0)), (1, .ref (A 0)), (0, .ref b)] [] h := by
  intro n
  induction n with
  | zero => intro i s h hn; omega
  | succ n ih =>
    intro i s h hn hi0 hI
    refine zi_iload_n 19 dL_law_18 rfl rfl ?_
    refine zi_aload_n 20 dL_law_19 rfl rfl ?_
    refine zi_slen 21 dL_law_20 hS rfl ?_
    refine zi_bipush (v := 7) 23 dL_law_21 (by decide) rfl ?_
    refine zi_isub 24 dL_law_23 rfl ?_
    refine zi_icmp_gt 27 1411 dL_law_24 (by decide) rfl (fun zz => ?_) (fun zz => ?_)
    ·
      exact kk _ _
    ·
      have hi : i + 7 ≤ L := by
        rw [lp_lt (by omega) hL] at zz
        omega
      refine zi_aload_n 28 dL_law_27 rfl rfl ?_
      refine zi_iload_n 29 dL_law_28 rfl rfl ?_
      refine zi_sld 30 dL_law_29 hS (li_0 hi hL) rfl ?_
      refine zi_bipush (v := 63) 32 dL_law_30 (by decide) rfl ?_
      refine zi_iand 33 dL_law_32 rfl ?_
      generalize xs (nI i).toNatClampNeg &&& 63 = y
      have kb : ∀ (s1 : zSt) (h2 : zHp), lwI B A D s1 h2 → zG X mL_law B (10, 101, 2916) (101, 2916) 1405 [(3, .int (nI i)), (2, .ref (D 0)), (1, .ref (A 0)), (0, .ref b)] [] h2 := fun s1 h2 hI2 => by
        refine zi_iinc (lv' := [(3, _), (2, _), (1, _), (0, _)]) 1408 dL_law_1405 rfl rfl rfl rfl rfl ?_
        refine zi_goto 18 dL_law_1408 (by decide) ?_
        rw [show nI i + Int32.ofInt 7 = nI (i + 7) from nI_ad i 7]
        exact ih (i + 7) s1 h2 (by omega) (by omega) hI2
      by_cases q : y.toInt < 0 ∨ 32 < y.toInt
      · exact zi_tableOut 1405 dL_law_33 q (by decide) (kb s h hI)
      · rcases (show y.toInt = 0 ∨ y.toInt = 1 ∨ y.toInt = 2 ∨ y.toInt = 3 ∨ y.toInt = 4 ∨ y.toInt = 5 ∨ y.toInt = 6 ∨ y.toInt = 7 ∨ y.toInt = 8 ∨ y.toInt = 9 ∨ y.toInt = 10 ∨ y.toInt = 11 ∨ y.toInt = 12 ∨ y.toInt = 13 ∨ y.toInt = 14 ∨ y.toInt = 15 ∨ y.toInt = 16 ∨ y.toInt = 17 ∨ y.toInt = 18 ∨ y.toInt = 19 ∨ y.toInt = 20 ∨ y.toInt = 21 ∨ y.toInt = 22 ∨ y.toInt = 23 ∨ y.toInt = 24 ∨ y.toInt = 25 ∨ y.toInt = 26 ∨ y.toInt = 27 ∨ y.toInt = 28 ∨ y.toInt = 29 ∨ y.toInt = 30 ∨ y.toInt = 31 ∨ y.toInt = 32 by omega) with e | e | e | e | e | e | e | e | e | e | e | e | e | e | e | e | e | e | e | e | e | e | e | e | e | e | e | e | e | e | e | e | e
        · exact zi_tableIn (off := 147) 180 dL_law_33 (by rw [e]; decide) (by rw [e]; decide) (by rw [e]; rfl) (by decide) (l_law_0 B X b L xs hS hL A D hA hD J i hi s h hI kb)
        · exact zi_tableIn (off := 190) 223 dL_law_33 (by rw [e]; decide) (by rw [e]; decide) (by rw [e]; rfl) (by decide) (l_law_1 B X b L xs hS hL A D hA hD J i hi s h hI kb)
        · exact zi_tableIn (off := 264) 297 dL_law_33 (by rw [e]; decide) (by rw [e]; decide) (by rw [e]; rfl) (by decide) (l_law_2 B X b L xs hS hL A D hA hD J i hi s h hI kb)
        · exact zi_tableIn (off := 327) 360 dL_law_33 (by rw [e]; decide) (by rw [e]; decide) (by rw [e]; rfl) (by decide) (l_law_3 B X b L xs hS hL A D hA hD J i hi s h hI kb)
        · exact zi_tableIn (off := 350) 383 dL_law_33 (by rw [e]; decide) (by rw [e]; decide) (by rw [e]; rfl) (by decide) (l_law_4 B X b L xs hS hL A D hA hD J i hi s h hI kb)
        · exact zi_tableIn (off := 393) 426 dL_law_33 (by rw [e]; decide) (by rw [e]; decide) (by rw [e]; rfl) (by decide) (l_law_5 B X b L xs hS hL A D hA hD J i hi s h hI kb)
        · exact zi_tableIn (off := 416) 449 dL_law_33 (by rw [e]; decide) (by rw [e]; decide) (by rw [e]; rfl) (by decide) (l_law_6 B X b L xs hS hL A D hA hD J i hi s h hI kb)
        · exact zi_tableIn (off := 450) 483 dL_law_33 (by rw [e]; decide) (by rw [e]; decide) (by rw [e]; rfl) (by decide) (l_law_7 B X b L xs hS hL A D hA hD J i hi s h hI kb)
        · exact zi_tableIn (off := 473) 506 dL_law_33 (by rw [e]; decide) (by rw [e]; decide) (by rw [e]; rfl) (by decide) (l_law_8 B X b L xs hS hL A D hA hD J i hi s h hI kb)
        · exact zi_tableIn (off := 496) 529 dL_law_33 (by rw [e]; decide) (by rw [e]; decide) (by rw [e]; rfl) (by decide) (l_law_9 B X b L xs hS hL A D hA hD J i hi s h hI kb)
        · exact zi_tableIn (off := 529) 562 dL_law_33 (by rw [e]; decide) (by rw [e]; decide) (by rw [e]; rfl) (by decide) (l_law_10 B X b L xs hS hL A D hA hD J i hi s h hI kb)
        · exact zi_tableIn (off := 562) 595 dL_law_33 (by rw [e]; decide) (by rw [e]; decide) (by rw [e]; rfl) (by decide) (l_law_11 B X b L xs hS hL A D hA hD J i hi s h hI kb)
        · exact zi_tableIn (off := 595) 628 dL_law_33 (by rw [e]; decide) (by rw [e]; decide) (by rw [e]; rfl) (by decide) (l_law_12 B X b L xs hS hL A D hA hD J i hi s h hI kb)
        · exact zi_tableIn (off := 618) 651 dL_law_33 (by rw [e]; decide) (by rw [e]; decide) (by rw [e]; rfl) (by decide) (l_law_13 B X b L xs hS hL A D hA hD J i hi s h hI kb)
        · exact zi_tableIn (off := 661) 694 dL_law_33 (by rw [e]; decide) (by rw [e]; decide) (by rw [e]; rfl) (by decide) (l_law_14 B X b L xs hS hL A D hA hD J i hi s h hI kb)
        · exact zi_tableIn (off := 704) 737 dL_law_33 (by rw [e]; decide) (by rw [e]; decide) (by rw [e]; rfl) (by decide) (l_law_15 B X b L xs hS hL A D hA hD J i hi s h hI kb)
        · exact zi_tableIn (off := 737) 770 dL_law_33 (by rw [e]; decide) (by rw [e]; decide) (by rw [e]; rfl) (by decide) (l_law_16 B X b L xs hS hL A D hA hD J i hi s h hI kb)
        · exact zi_tableIn (off := 800) 833 dL_law_33 (by rw [e]; decide) (by rw [e]; decide) (by rw [e]; rfl) (by decide) (l_law_17 B X b L xs hS hL A D hA hD J i hi s h hI kb)
        · exact zi_tableIn (off := 853) 886 dL_law_33 (by rw [e]; decide) (by rw [e]; decide) (by rw [e]; rfl) (by decide) (l_law_18 B X b L xs hS hL A D hA hD J i hi s h hI kb)
        · exact zi_tableIn (off := 896) 929 dL_law_33 (by rw [e]; decide) (by rw [e]; decide) (by rw [e]; rfl) (by decide) (l_law_19 B X b L xs hS hL A D hA hD J i hi s h hI kb)
        · exact zi_tableIn (off := 929) 962 dL_law_33 (by rw [e]; decide) (by rw [e]; decide) (by rw [e]; rfl) (by decide) (l_law_20 B X b L xs hS hL A D hA hD J i hi s h hI kb)
        · exact zi_tableIn (off := 972) 1005 dL_law_33 (by rw [e]; decide) (by rw [e]; decide) (by rw [e]; rfl) (by decide) (l_law_21 B X b L xs hS hL A D hA hD J i hi s h hI kb)
        · exact zi_tableIn (off := 995) 1028 dL_law_33 (by rw [e]; decide) (by rw [e]; decide) (by rw [e]; rfl) (by decide) (l_law_22 B X b L xs hS hL A D hA hD J i hi s h hI kb)
        · exact zi_tableIn (off := 1038) 1071 dL_law_33 (by rw [e]; decide) (by rw [e]; decide) (by rw [e]; rfl) (by decide) (l_law_23 B X b L xs hS hL A D hA hD J i hi s h hI kb)
        · exact zi_tableIn (off := 1061) 1094 dL_law_33 (by rw [e]; decide) (by rw [e]; decide) (by rw [e]; rfl) (by decide) (l_law_24 B X b L xs hS hL A D hA hD J i hi s h hI kb)
        · exact zi_tableIn (off := 1084) 1117 dL_law_33 (by rw [e]; decide) (by rw [e]; decide) (by rw [e]; rfl) (by decide) (l_law_25 B X b L xs hS hL A D hA hD J i hi s h hI kb)
        · exact zi_tableIn (off := 1138) 1171 dL_law_33 (by rw [e]; decide) (by rw [e]; decide) (by rw [e]; rfl) (by decide) (l_law_26 B X b L xs hS hL A D hA hD J i hi s h hI kb)
        · exact zi_tableIn (off := 1214) 1247 dL_law_33 (by rw [e]; decide) (by rw [e]; decide) (by rw [e]; rfl) (by decide) (l_law_27 B X b L xs hS hL A D hA hD J i hi s h hI kb)
        · exact zi_tableIn (off := 1237) 1270 dL_law_33 (by rw [e]; decide) (by rw [e]; decide) (by rw [e]; rfl) (by decide) (l_law_28 B X b L xs hS hL A D hA hD J i hi s h hI kb)
        · exact zi_tableIn (off := 1270) 1303 dL_law_33 (by rw [e]; decide) (by rw [e]; decide) (by rw [e]; rfl) (by decide) (l_law_29 B X b L xs hS hL A D hA hD J i hi s h hI kb)
        · exact zi_tableIn (off := 1303) 1336 dL_law_33 (by rw [e]; decide) (by rw [e]; decide) (by rw [e]; rfl) (by decide) (l_law_30 B X b L xs hS hL A D hA hD J i hi s h hI kb)
        · exact zi_tableIn (off := 1326) 1359 dL_law_33 (by rw [e]; decide) (by rw [e]; decide) (by rw [e]; rfl) (by decide) (l_law_31 B X b L xs hS hL A D hA hD J i hi s h hI kb)
        · exact zi_tableIn (off := 1359) 1392 dL_law_33 (by rw [e]; decide) (by rw [e]; decide) (by rw [e]; rfl) (by decide) (l_law_32 B X b L xs hS hL A D hA hD J i hi s h hI kb)

set_option maxHeartbeats 4000000 in
set_option maxRecDepth 100000 in
theorem l_law (B : zBB) (X : zX) (b L : Nat) (xs : Nat → Int32) (hS : lwS X b L xs) (hL : L ≤ 3584) (kk : ∀ (lv : List (Nat × Value)) (h2 : zHp), zG X mL_law B (10, 101, 2916) (101, 2916) 1411 lv [] h2) : zG X mL_law B (10, 101, 2916) (0, 0) 0 [(0, .ref b)] [] (fun _ => none) := by
  refine zn_new (fs := [.null, .null, .null, .null, .null, .null, .null, .null, .null, .null, .null, .null, .int 0]) (n' := (1, 13)) 3 dL_law_0 zcl_X10 tyX10 tyX10_ok tw_67 tw_68 tw_53 (by decide +kernel) rfl rfl rfl rfl (fun a ha => ?_)
  refine zk_h (fun h1 k1 => ?_)
  refine zi_dup 4 dL_law_3 rfl rfl ?_
  refine zc_special (n' := (91, 1784)) (md' := mX10_init) 7 dL_law_4 tw_69 zn_X10_init (s_X10_init B h1 a (zX0 k1)) rfl rfl rfl rfl rfl rfl rfl rfl (zk_v fun h2 hp => ?_)
  obtain ⟨A, hA, e0, R, Ua, Fa⟩ := hp
  subst e0
  refine zi_astore_n (lv' := [(1, _), (0, _)]) 8 dL_law_7 rfl rfl rfl ?_
  refine zn_new (fs := [.null, .null, .null, .null, .null, .null, .int 0, .null, .int 0, .null, .null]) (n' := (92, 1795)) 11 dL_law_8 zcl_X11 tyX11 tyX11_ok tw_857 tw_858 tw_64 (by decide +kernel) rfl rfl rfl rfl (fun c hc => ?_)
  refine zk_h (fun h3 k3 => ?_)
  refine zi_dup 12 dL_law_11 rfl rfl ?_
  refine zc_special (n' := (101, 2916)) (md' := mX11_init) 15 dL_law_12 tw_859 zn_X11_init (s_X11_init B h3 c (zX0 k3)) rfl rfl rfl rfl rfl rfl rfl rfl (zk_v fun h4 hp2 => ?_)
  obtain ⟨D, hD, e1, M, Ud, Fd⟩ := hp2
  subst e1
  refine zi_astore_n (lv' := [(2, _), (1, _), (0, _)]) 16 dL_law_15 rfl rfl rfl ?_
  refine zi_iconst (v := nI 0) 17 dL_law_16 (by decide) rfl ?_
  refine zi_istore_n (lv' := [(3, _), (2, _), (1, _), (0, _)]) 18 dL_law_17 rfl rfl rfl ?_
  have J : zDj A D := fun i j hi hj q => by
    have n2 := zRc_s R i hi
    by_cases j0 : j = 0
    · rw [j0] at q
      rw [q] at n2
      exact n2 hc
    · have n3 := Fd j (by omega) hj
      rw [k3, zU_n _ _ (fun r => j0 (hD _ _ r)), ← q] at n3
      exact n2 n3
  have R4 : zRc B A sO h4 := zRc_x (fun i hi => (Ud _ (fun j hj => J i j hi hj)).trans (by rw [k3]; exact zU_n _ _ (J i 0 hi (by decide)))) R
  exact l_law_loop B X b L xs hS hL A D hA hD J kk (L + 8) 0 sO h4 (by omega) (by omega) ⟨ok_sO, R4, M⟩
