/-! the reference: its cells at D 0 .. D 9, what they hold -/
abbrev mS : Type := (Nat → Int32) × (Nat → Int64) × (Nat → Int32) × (Nat → Int32) × (Nat → Int64) × (Nat → Int64) × Int32 × (Nat → Int32) × Int32 × (Nat → Int64) × (Nat → Int64)
abbrev wH (m : mS) := m.1
abbrev wS (m : mS) := m.2.1
abbrev wL (m : mS) := m.2.2.1
abbrev wZ (m : mS) := m.2.2.2.1
abbrev wI (m : mS) := m.2.2.2.2.1
abbrev wV (m : mS) := m.2.2.2.2.2.1
abbrev wF (m : mS) := m.2.2.2.2.2.2.1
abbrev wT (m : mS) := m.2.2.2.2.2.2.2.1
abbrev wC (m : mS) := m.2.2.2.2.2.2.2.2.1
abbrev wR (m : mS) := m.2.2.2.2.2.2.2.2.2.1
abbrev wB (m : mS) := m.2.2.2.2.2.2.2.2.2.2
abbrev uH (m : mS) (x : Nat → Int32) : mS := (x, wS m, wL m, wZ m, wI m, wV m, wF m, wT m, wC m, wR m, wB m)
abbrev uS (m : mS) (x : Nat → Int64) : mS := (wH m, x, wL m, wZ m, wI m, wV m, wF m, wT m, wC m, wR m, wB m)
abbrev uL (m : mS) (x : Nat → Int32) : mS := (wH m, wS m, x, wZ m, wI m, wV m, wF m, wT m, wC m, wR m, wB m)
abbrev uZ (m : mS) (x : Nat → Int32) : mS := (wH m, wS m, wL m, x, wI m, wV m, wF m, wT m, wC m, wR m, wB m)
abbrev uI (m : mS) (x : Nat → Int64) : mS := (wH m, wS m, wL m, wZ m, x, wV m, wF m, wT m, wC m, wR m, wB m)
abbrev uV (m : mS) (x : Nat → Int64) : mS := (wH m, wS m, wL m, wZ m, wI m, x, wF m, wT m, wC m, wR m, wB m)
abbrev uF (m : mS) (x : Int32) : mS := (wH m, wS m, wL m, wZ m, wI m, wV m, x, wT m, wC m, wR m, wB m)
abbrev uT (m : mS) (x : Nat → Int32) : mS := (wH m, wS m, wL m, wZ m, wI m, wV m, wF m, x, wC m, wR m, wB m)
abbrev uC (m : mS) (x : Int32) : mS := (wH m, wS m, wL m, wZ m, wI m, wV m, wF m, wT m, x, wR m, wB m)
abbrev uR (m : mS) (x : Nat → Int64) : mS := (wH m, wS m, wL m, wZ m, wI m, wV m, wF m, wT m, wC m, x, wB m)
abbrev uB (m : mS) (x : Nat → Int64) : mS := (wH m, wS m, wL m, wZ m, wI m, wV m, wF m, wT m, wC m, wR m, x)
def rM (B : zBB) (D : Nat → Nat) (m : mS) (h : zHp) : Prop := h (D 0) = some (zO 11 [.ref (D 1), .ref (D 2), .ref (D 3), .ref (D 4), .ref (D 5), .ref (D 6), .int (wF m), .ref (D 7), .int (wC m), .ref (D 8), .ref (D 9)]) ∧ h (D 1) = some (zZb B 20 (wH m)) ∧ h (D 2) = some (zJ B 80 (wS m)) ∧ h (D 3) = some (zI B 8 (wL m)) ∧ h (D 4) = some (zI B 8 (wZ m)) ∧ h (D 5) = some (zJ B 800 (wI m)) ∧ h (D 6) = some (zJ B 100 (wV m)) ∧ h (D 7) = some (zI B 16 (wT m)) ∧ h (D 8) = some (zJ B 80 (wR m)) ∧ h (D 9) = some (zJ B 9 (wB m))
def rN (B : zBB) (D : Nat → Nat) (m : mS) (h h' : zHp) : Prop := rM B D m h' ∧ ∀ x, (∀ i, i < 10 → x ≠ D i) → h' x = h x
theorem rN_r {B : zBB} {D : Nat → Nat} {m : mS} {h : zHp} (M : rM B D m h) : rN B D m h h := ⟨M, fun _ _ => rfl⟩
theorem rN_t {B : zBB} {D : Nat → Nat} {m m' : mS} {h h1 h2 : zHp} (a : rN B D m h h1) (b : rN B D m' h1 h2) : rN B D m' h h2 := ⟨b.1, fun x hx => (b.2 x hx).trans (a.2 x hx)⟩
section RN
variable {B : zBB} {D : Nat → Nat} {m : mS} {h h1 h2 : zHp}
theorem rN_H (hD : zInj D) {x : Nat → Int32} (N : rN B D m h h1) (k : h2 = zU h1 (D 1) (zZb B 20 x)) : rN B D (uH m x) h h2 := ⟨⟨zX1 k (hD.ne (by decide)) N.1.1, zX0 k, zX1 k (hD.ne (by decide)) N.1.2.2.1, zX1 k (hD.ne (by decide)) N.1.2.2.2.1, zX1 k (hD.ne (by decide)) N.1.2.2.2.2.1, zX1 k (hD.ne (by decide)) N.1.2.2.2.2.2.1, zX1 k (hD.ne (by decide)) N.1.2.2.2.2.2.2.1, zX1 k (hD.ne (by decide)) N.1.2.2.2.2.2.2.2.1, zX1 k (hD.ne (by decide)) N.1.2.2.2.2.2.2.2.2.1, zX1 k (hD.ne (by decide)) N.1.2.2.2.2.2.2.2.2.2⟩, fun y hy => by rw [k, zU_n _ _ (hy 1 (by decide))]; exact N.2 y hy⟩
theorem rN_S (hD : zInj D) {x : Nat → Int64} (N : rN B D m h h1) (k : h2 = zU h1 (D 2) (zJ B 80 x)) : rN B D (uS m x) h h2 := ⟨⟨zX1 k (hD.ne (by decide)) N.1.1, zX1 k (hD.ne (by decide)) N.1.2.1, zX0 k, zX1 k (hD.ne (by decide)) N.1.2.2.2.1, zX1 k (hD.ne (by decide)) N.1.2.2.2.2.1, zX1 k (hD.ne (by decide)) N.1.2.2.2.2.2.1, zX1 k (hD.ne (by decide)) N.1.2.2.2.2.2.2.1, zX1 k (hD.ne (by decide)) N.1.2.2.2.2.2.2.2.1, zX1 k (hD.ne (by decide)) N.1.2.2.2.2.2.2.2.2.1, zX1 k (hD.ne (by decide)) N.1.2.2.2.2.2.2.2.2.2⟩, fun y hy => by rw [k, zU_n _ _ (hy 2 (by decide))]; exact N.2 y hy⟩
theorem rN_L (hD : zInj D) {x : Nat → Int32} (N : rN B D m h h1) (k : h2 = zU h1 (D 3) (zI B 8 x)) : rN B D (uL m x) h h2 := ⟨⟨zX1 k (hD.ne (by decide)) N.1.1, zX1 k (hD.ne (by decide)) N.1.2.1, zX1 k (hD.ne (by decide)) N.1.2.2.1, zX0 k, zX1 k (hD.ne (by decide)) N.1.2.2.2.2.1, zX1 k (hD.ne (by decide)) N.1.2.2.2.2.2.1, zX1 k (hD.ne (by decide)) N.1.2.2.2.2.2.2.1, zX1 k (hD.ne (by decide)) N.1.2.2.2.2.2.2.2.1, zX1 k (hD.ne (by decide)) N.1.2.2.2.2.2.2.2.2.1, zX1 k (hD.ne (by decide)) N.1.2.2.2.2.2.2.2.2.2⟩, fun y hy => by rw [k, zU_n _ _ (hy 3 (by decide))]; exact N.2 y hy⟩
theorem rN_Z (hD : zInj D) {x : Nat → Int32} (N : rN B D m h h1) (k : h2 = zU h1 (D 4) (zI B 8 x)) : rN B D (uZ m x) h h2 := ⟨⟨zX1 k (hD.ne (by decide)) N.1.1, zX1 k (hD.ne (by decide)) N.1.2.1, zX1 k (hD.ne (by decide)) N.1.2.2.1, zX1 k (hD.ne (by decide)) N.1.2.2.2.1, zX0 k, zX1 k (hD.ne (by decide)) N.1.2.2.2.2.2.1, zX1 k (hD.ne (by decide)) N.1.2.2.2.2.2.2.1, zX1 k (hD.ne (by decide)) N.1.2.2.2.2.2.2.2.1, zX1 k (hD.ne (by decide)) N.1.2.2.2.2.2.2.2.2.1, zX1 k (hD.ne (by decide)) N.1.2.2.2.2.2.2.2.2.2⟩, fun y hy => by rw [k, zU_n _ _ (hy 4 (by decide))]; exact N.2 y hy⟩
theorem rN_I (hD : zInj D) {x : Nat → Int64} (N : rN B D m h h1) (k : h2 = zU h1 (D 5) (zJ B 800 x)) : rN B D (uI m x) h h2 := ⟨⟨zX1 k (hD.ne (by decide)) N.1.1, zX1 k (hD.ne (by decide)) N.1.2.1, zX1 k (hD.ne (by decide)) N.1.2.2.1, zX1 k (hD.ne (by decide)) N.1.2.2.2.1, zX1 k (hD.ne (by decide)) N.1.2.2.2.2.1, zX0 k, zX1 k (hD.ne (by decide)) N.1.2.2.2.2.2.2.1, zX1 k (hD.ne (by decide)) N.1.2.2.2.2.2.2.2.1, zX1 k (hD.ne (by decide)) N.1.2.2.2.2.2.2.2.2.1, zX1 k (hD.ne (by decide)) N.1.2.2.2.2.2.2.2.2.2⟩, fun y hy => by rw [k, zU_n _ _ (hy 5 (by decide))]; exact N.2 y hy⟩
theorem rN_V (hD : zInj D) {x : Nat → Int64} (N : rN B D m h h1) (k : h2 = zU h1 (D 6) (zJ B 100 x)) : rN B D (uV m x) h h2 := ⟨⟨zX1 k (hD.ne (by decide)) N.1.1, zX1 k (hD.ne (by decide)) N.1.2.1, zX1 k (hD.ne (by decide)) N.1.2.2.1, zX1 k (hD.ne (by decide)) N.1.2.2.2.1, zX1 k (hD.ne (by decide)) N.1.2.2.2.2.1, zX1 k (hD.ne (by decide)) N.1.2.2.2.2.2.1, zX0 k, zX1 k (hD.ne (by decide)) N.1.2.2.2.2.2.2.2.1, zX1 k (hD.ne (by decide)) N.1.2.2.2.2.2.2.2.2.1, zX1 k (hD.ne (by decide)) N.1.2.2.2.2.2.2.2.2.2⟩, fun y hy => by rw [k, zU_n _ _ (hy 6 (by decide))]; exact N.2 y hy⟩
theorem rN_T (hD : zInj D) {x : Nat → Int32} (N : rN B D m h h1) (k : h2 = zU h1 (D 7) (zI B 16 x)) : rN B D (uT m x) h h2 := ⟨⟨zX1 k (hD.ne (by decide)) N.1.1, zX1 k (hD.ne (by decide)) N.1.2.1, zX1 k (hD.ne (by decide)) N.1.2.2.1, zX1 k (hD.ne (by decide)) N.1.2.2.2.1, zX1 k (hD.ne (by decide)) N.1.2.2.2.2.1, zX1 k (hD.ne (by decide)) N.1.2.2.2.2.2.1, zX1 k (hD.ne (by decide)) N.1.2.2.2.2.2.2.1, zX0 k, zX1 k (hD.ne (by decide)) N.1.2.2.2.2.2.2.2.2.1, zX1 k (hD.ne (by decide)) N.1.2.2.2.2.2.2.2.2.2⟩, fun y hy => by rw [k, zU_n _ _ (hy 7 (by decide))]; exact N.2 y hy⟩
theorem rN_R (hD : zInj D) {x : Nat → Int64} (N : rN B D m h h1) (k : h2 = zU h1 (D 8) (zJ B 80 x)) : rN B D (uR m x) h h2 := ⟨⟨zX1 k (hD.ne (by decide)) N.1.1, zX1 k (hD.ne (by decide)) N.1.2.1, zX1 k (hD.ne (by decide)) N.1.2.2.1, zX1 k (hD.ne (by decide)) N.1.2.2.2.1, zX1 k (hD.ne (by decide)) N.1.2.2.2.2.1, zX1 k (hD.ne (by decide)) N.1.2.2.2.2.2.1, zX1 k (hD.ne (by decide)) N.1.2.2.2.2.2.2.1, zX1 k (hD.ne (by decide)) N.1.2.2.2.2.2.2.2.1, zX0 k, zX1 k (hD.ne (by decide)) N.1.2.2.2.2.2.2.2.2.2⟩, fun y hy => by rw [k, zU_n _ _ (hy 8 (by decide))]; exact N.2 y hy⟩
theorem rN_B (hD : zInj D) {x : Nat → Int64} (N : rN B D m h h1) (k : h2 = zU h1 (D 9) (zJ B 9 x)) : rN B D (uB m x) h h2 := ⟨⟨zX1 k (hD.ne (by decide)) N.1.1, zX1 k (hD.ne (by decide)) N.1.2.1, zX1 k (hD.ne (by decide)) N.1.2.2.1, zX1 k (hD.ne (by decide)) N.1.2.2.2.1, zX1 k (hD.ne (by decide)) N.1.2.2.2.2.1, zX1 k (hD.ne (by decide)) N.1.2.2.2.2.2.1, zX1 k (hD.ne (by decide)) N.1.2.2.2.2.2.2.1, zX1 k (hD.ne (by decide)) N.1.2.2.2.2.2.2.2.1, zX1 k (hD.ne (by decide)) N.1.2.2.2.2.2.2.2.2.1, zX0 k⟩, fun y hy => by rw [k, zU_n _ _ (hy 9 (by decide))]; exact N.2 y hy⟩
theorem rN_F (hD : zInj D) {x : Int32} (N : rN B D m h h1) (k : h2 = zU h1 (D 0) (zO 11 [.ref (D 1), .ref (D 2), .ref (D 3), .ref (D 4), .ref (D 5), .ref (D 6), .int x, .ref (D 7), .int (wC m), .ref (D 8), .ref (D 9)])) : rN B D (uF m x) h h2 := ⟨⟨zX0 k, zX1 k (hD.ne (by decide)) N.1.2.1, zX1 k (hD.ne (by decide)) N.1.2.2.1, zX1 k (hD.ne (by decide)) N.1.2.2.2.1, zX1 k (hD.ne (by decide)) N.1.2.2.2.2.1, zX1 k (hD.ne (by decide)) N.1.2.2.2.2.2.1, zX1 k (hD.ne (by decide)) N.1.2.2.2.2.2.2.1, zX1 k (hD.ne (by decide)) N.1.2.2.2.2.2.2.2.1, zX1 k (hD.ne (by decide)) N.1.2.2.2.2.2.2.2.2.1, zX1 k (hD.ne (by decide)) N.1.2.2.2.2.2.2.2.2.2⟩, fun y hy => by rw [k, zU_n _ _ (hy 0 (by decide))]; exact N.2 y hy⟩
theorem rN_C (hD : zInj D) {x : Int32} (N : rN B D m h h1) (k : h2 = zU h1 (D 0) (zO 11 [.ref (D 1), .ref (D 2), .ref (D 3), .ref (D 4), .ref (D 5), .ref (D 6), .int (wF m), .ref (D 7), .int x, .ref (D 8), .ref (D 9)])) : rN B D (uC m x) h h2 := ⟨⟨zX0 k, zX1 k (hD.ne (by decide)) N.1.2.1, zX1 k (hD.ne (by decide)) N.1.2.2.1, zX1 k (hD.ne (by decide)) N.1.2.2.2.1, zX1 k (hD.ne (by decide)) N.1.2.2.2.2.1, zX1 k (hD.ne (by decide)) N.1.2.2.2.2.2.1, zX1 k (hD.ne (by decide)) N.1.2.2.2.2.2.2.1, zX1 k (hD.ne (by decide)) N.1.2.2.2.2.2.2.2.1, zX1 k (hD.ne (by decide)) N.1.2.2.2.2.2.2.2.2.1, zX1 k (hD.ne (by decide)) N.1.2.2.2.2.2.2.2.2.2⟩, fun y hy => by rw [k, zU_n _ _ (hy 0 (by decide))]; exact N.2 y hy⟩
end RN
abbrev ro (f : Nat → Int64) (a : Nat) : z4 := (f a, f (a + 1), f (a + 2), f (a + 3))
abbrev p4 (f : Nat → Int64) (a : Nat) (P : z4) : Nat → Int64 := vp_updL (vp_updL (vp_updL (vp_updL f a P.1) (a + 1) P.2.1) (a + 2) P.2.2.1) (a + 3) P.2.2.2
theorem p4_at (f : Nat → Int64) (a : Nat) (P : z4) : ro (p4 f a P) a = P := by
  unfold ro p4 vp_updL
  simp
theorem p4_ne {f : Nat → Int64} {a b : Nat} (P : z4) (h : a + 4 ≤ b ∨ b + 4 ≤ a) : ro (p4 f a P) b = ro f b := by
  unfold ro p4 vp_updL
  have h0 : ∀ i j, i < 4 → j < 4 → b + i ≠ a + j := fun i j hi hj => by omega
  have h1 := fun j hj => h0 0 j (by decide) hj
  simp only [Nat.add_zero] at h1
  have g0 : ∀ i, i < 4 → b + i ≠ a := fun i hi => h0 i 0 hi (by decide)
  have g1 : b ≠ a := by omega
  simp [g1, h1 1 (by decide), h1 2 (by decide), h1 3 (by decide), g0 1 (by decide), g0 2 (by decide), g0 3 (by decide), h0 1 1, h0 1 2, h0 1 3, h0 2 1, h0 2 2, h0 2 3, h0 3 1, h0 3 2, h0 3 3]
theorem p4_o {f : Nat → Int64} {a i : Nat} (P : z4) (h : i < a ∨ a + 4 ≤ i) : p4 f a P i = f i := by
  unfold p4 vp_updL
  simp [show i ≠ a by omega, show i ≠ a + 1 by omega, show i ≠ a + 2 by omega, show i ≠ a + 3 by omega]
theorem nI_sb {a b : Nat} (h : b ≤ a) : nI a - nI b = nI (a - b) := by
  rw [jz_nI, jz_nI, jz_sub, jz_nI]
  congr 1
  omega

set_option maxHeartbeats 4000000 in
set_option maxRecDepth 100000 in
theorem s_X11_finds (B : zBB) (h : zHp) (D : Nat → Nat) (hD : zInj D) (m : mS) (M : rM B D m h) (v : Int32) : zSpec mX11_finds B (0, 0, 0) [.ref (D 0), .int v] h (zPi (fun x h' => x = -1000010 - v ∧ rN B D (uF m v) h h')) := by
  refine zSpec.of (by decide) (Nat.le_of_ble_eq_true rfl) (fun X hZ => ?_)
  show zG X mX11_finds B (0, 0, 0) (0, 0) 0 [(0, .ref (D 0)), (1, .int v)] [] h
  have N0 := rN_r M
  refine zi_aload_n 1 dX11_finds_0 rfl rfl ?_
  refine zi_iload_n 2 dX11_finds_1 rfl rfl ?_
  refine zi_putfield (fs' := [_, _, _, _, _, _, _, _, _, _, _]) 5 6 dX11_finds_2 zcl_X11 tyX11 tyX11_ok nmX11 tw_869 rfl rfl rfl N0.1.1 rfl rfl rfl rfl rfl rfl ?_
  refine zk_h (fun h1 k1 => ?_)
  have N1 := rN_F hD N0 k1
  refine zi_ldc 7 dX11_finds_5 tw_915 rfl ?_
  refine zi_iload_n 8 dX11_finds_7 rfl rfl ?_
  refine zi_isub 9 dX11_finds_8 rfl ?_
  exact zr_int hZ dX11_finds_9 rfl rfl ⟨_, rfl, rfl, N1⟩

set_option maxHeartbeats 4000000 in
set_option maxRecDepth 100000 in
theorem s_X11_well (B : zBB) (h : zHp) (D : Nat → Nat) (hD : zInj D) (m : mS) (M : rM B D m h) (v : Int32) : zSpec mX11_well B (0, 0, 0) [.ref (D 0), .int v] h (zPi (fun x h' => x = v ∧ rN B D (uF m 0) h h')) := by
  refine zSpec.of (by decide) (Nat.le_of_ble_eq_true rfl) (fun X hZ => ?_)
  show zG X mX11_well B (0, 0, 0) (0, 0) 0 [(0, .ref (D 0)), (1, .int v)] [] h
  have N0 := rN_r M
  refine zi_aload_n 1 dX11_well_0 rfl rfl ?_
  refine zi_iconst (v := 0) 2 dX11_well_1 (by decide) rfl ?_
  refine zi_putfield (fs' := [_, _, _, _, _, _, _, _, _, _, _]) 5 6 dX11_well_2 zcl_X11 tyX11 tyX11_ok nmX11 tw_869 rfl rfl rfl N0.1.1 rfl rfl rfl rfl rfl rfl ?_
  refine zk_h (fun h1 k1 => ?_)
  have N1 := rN_F hD N0 k1
  refine zi_iload_n 6 dX11_well_5 rfl rfl ?_
  exact zr_int hZ dX11_well_6 rfl rfl ⟨_, rfl, rfl, N1⟩

set_option maxHeartbeats 4000000 in
set_option maxRecDepth 100000 in
theorem s_X11_put (B : zBB) (h : zHp) (D : Nat → Nat) (hD : zInj D) (m : mS) (M : rM B D m h) (a : Nat) (ha : a ≤ 76) (P : z4) : zSpec mX11_put B (0, 0, 0) [.ref (D 0), .int (nI a), .long P.1, .long P.2.1, .long P.2.2.1, .long P.2.2.2] h (zPv (fun h' => rN B D (uR m (p4 (wR m) a P)) h h')) := by
  refine zSpec.of (by decide) (Nat.le_of_ble_eq_true rfl) (fun X hZ => ?_)
  show zG X mX11_put B (0, 0, 0) (0, 0) 0 [(0, .ref (D 0)), (1, .int (nI a)), (2, .long P.1), (4, .long P.2.1), (6, .long P.2.2.1), (8, .long P.2.2.2)] [] h
  have N0 := rN_r M
  refine zi_aload_n 1 dX11_put_0 rfl rfl ?_
  refine zi_getfield 4 9 dX11_put_1 zcl_X11 tw_872 rfl rfl N0.1.1 rfl rfl ?_
  refine zi_iload_n 5 dX11_put_4 rfl rfl ?_
  refine zi_lload_n 6 dX11_put_5 rfl rfl ?_
  refine zi_lastore 7 dX11_put_6 N0.1.2.2.2.2.2.2.2.2.1 (vp_in_nI (show a < 80 by omega) (by decide)) rfl ?_
  rw [nI_clamp (Nat.lt_trans (show a < 80 by omega) (by decide))]
  refine zk_h (fun h1 k1 => ?_)
  have N1 := rN_R hD N0 k1
  refine zi_aload_n 8 dX11_put_7 rfl rfl ?_
  refine zi_getfield 11 9 dX11_put_8 zcl_X11 tw_872 rfl rfl N1.1.1 rfl rfl ?_
  refine zi_iload_n 12 dX11_put_11 rfl rfl ?_
  refine zi_iconst (v := 1) 13 dX11_put_12 (by decide) rfl ?_
  refine zi_iadd 14 dX11_put_13 rfl ?_
  rw [show (nI a : Int32) + 1 = nI (a + 1) from nI_ad a 1]
  refine zi_lload 16 dX11_put_14 rfl rfl ?_
  refine zi_lastore 17 dX11_put_16 N1.1.2.2.2.2.2.2.2.2.1 (vp_in_nI (show (a + 1) < 80 by omega) (by decide)) rfl ?_
  rw [nI_clamp (Nat.lt_trans (show (a + 1) < 80 by omega) (by decide))]
  refine zk_h (fun h2 k2 => ?_)
  have N2 := rN_R hD N1 k2
  refine zi_aload_n 18 dX11_put_17 rfl rfl ?_
  refine zi_getfield 21 9 dX11_put_18 zcl_X11 tw_872 rfl rfl N2.1.1 rfl rfl ?_
  refine zi_iload_n 22 dX11_put_21 rfl rfl ?_
  refine zi_iconst (v := 2) 23 dX11_put_22 (by decide) rfl ?_
  refine zi_iadd 24 dX11_put_23 rfl ?_
  rw [show (nI a : Int32) + 2 = nI (a + 2) from nI_ad a 2]
  refine zi_lload 26 dX11_put_24 rfl rfl ?_
  refine zi_lastore 27 dX11_put_26 N2.1.2.2.2.2.2.2.2.2.1 (vp_in_nI (show (a + 2) < 80 by omega) (by decide)) rfl ?_
  rw [nI_clamp (Nat.lt_trans (show (a + 2) < 80 by omega) (by decide))]
  refine zk_h (fun h3 k3 => ?_)
  have N3 := rN_R hD N2 k3
  refine zi_aload_n 28 dX11_put_27 rfl rfl ?_
  refine zi_getfield 31 9 dX11_put_28 zcl_X11 tw_872 rfl rfl N3.1.1 rfl rfl ?_
  refine zi_iload_n 32 dX11_put_31 rfl rfl ?_
  refine zi_iconst (v := 3) 33 dX11_put_32 (by decide) rfl ?_
  refine zi_iadd 34 dX11_put_33 rfl ?_
  rw [show (nI a : Int32) + 3 = nI (a + 3) from nI_ad a 3]
  refine zi_lload 36 dX11_put_34 rfl rfl ?_
  refine zi_lastore 37 dX11_put_36 N3.1.2.2.2.2.2.2.2.2.1 (vp_in_nI (show (a + 3) < 80 by omega) (by decide)) rfl ?_
  rw [nI_clamp (Nat.lt_trans (show (a + 3) < 80 by omega) (by decide))]
  refine zk_h (fun h4 k4 => ?_)
  have N4 := rN_R hD N3 k4
  exact zr_void hZ dX11_put_37 rfl ⟨rfl, N4⟩

set_option maxHeartbeats 4000000 in
set_option maxRecDepth 100000 in
theorem s_X11_load (B : zBB) (h : zHp) (D : Nat → Nat) (hD : zInj D) (m : mS) (M : rM B D m h) (a i : Nat) (ha : a ≤ 76) (hi : i < 20) : zSpec mX11_load B (0, 0, 0) [.ref (D 0), .int (nI a), .int (nI i)] h (zPv (fun h' => rN B D (uR m (p4 (wR m) a (ro (wS m) (4 * i)))) h h')) := by
  refine zSpec.of (by decide) (Nat.le_of_ble_eq_true rfl) (fun X hZ => ?_)
  show zG X mX11_load B (0, 0, 0) (0, 0) 0 [(0, .ref (D 0)), (1, .int (nI a)), (2, .int (nI i))] [] h
  have N0 := rN_r M
  refine zi_iconst (v := 0) 1 dX11_load_0 (by decide) rfl ?_
  refine zi_istore_n (lv' := [(3, _), (0, _), (1, _), (2, _)]) 2 dX11_load_1 rfl rfl rfl ?_
  refine zi_iload_n 3 dX11_load_2 rfl rfl ?_
  refine zi_iconst (v := 4) 4 dX11_load_3 (by decide) rfl ?_
  refine zi_icmp_ge 7 31 dX11_load_4 (by decide) rfl (fun c_4 => absurd c_4 (by decide)) (fun c_4 => ?_)
  refine zi_aload_n 8 dX11_load_7 rfl rfl ?_
  refine zi_getfield 11 9 dX11_load_8 zcl_X11 tw_872 rfl rfl N0.1.1 rfl rfl ?_
  refine zi_iload_n 12 dX11_load_11 rfl rfl ?_
  refine zi_iload_n 13 dX11_load_12 rfl rfl ?_
  refine zi_iadd 14 dX11_load_13 rfl ?_
  rw [show nI a + 0 = nI a from Int32.add_zero _]
  refine zi_aload_n 15 dX11_load_14 rfl rfl ?_
  refine zi_getfield 18 1 dX11_load_15 zcl_X11 tw_864 rfl rfl N0.1.1 rfl rfl ?_
  refine zi_iconst (v := 4) 19 dX11_load_18 (by decide) rfl ?_
  refine zi_iload_n 20 dX11_load_19 rfl rfl ?_
  refine zi_imul 21 dX11_load_20 rfl ?_
  rw [show (4 : Int32) * nI i = nI (4 * i) from ls_m 4 i]
  refine zi_iload_n 22 dX11_load_21 rfl rfl ?_
  refine zi_iadd 23 dX11_load_22 rfl ?_
  rw [show nI (4 * i) + 0 = nI (4 * i) from Int32.add_zero _]
  refine zi_laload 24 dX11_load_23 N0.1.2.2.1 (vp_in_nI (show (4 * i) < 80 by omega) (by decide)) rfl ?_
  rw [nI_clamp (Nat.lt_trans (show (4 * i) < 80 by omega) (by decide))]
  refine zi_lastore 25 dX11_load_24 N0.1.2.2.2.2.2.2.2.2.1 (vp_in_nI (show a < 80 by omega) (by decide)) rfl ?_
  rw [nI_clamp (Nat.lt_trans (show a < 80 by omega) (by decide))]
  refine zk_h (fun h1 k1 => ?_)
  have N1 := rN_R hD N0 k1
  refine zi_iinc (v := 1) (lv' := [(3, _), (0, _), (1, _), (2, _)]) 28 dX11_load_25 rfl rfl rfl rfl rfl ?_
  refine zi_goto 2 dX11_load_28 (by decide) ?_
  refine zi_iload_n 3 dX11_load_2 rfl rfl ?_
  refine zi_iconst (v := 4) 4 dX11_load_3 (by decide) rfl ?_
  refine zi_icmp_ge 7 31 dX11_load_4 (by decide) rfl (fun c_4 => absurd c_4 (by decide)) (fun c_4 => ?_)
  refine zi_aload_n 8 dX11_load_7 rfl rfl ?_
  refine zi_getfield 11 9 dX11_load_8 zcl_X11 tw_872 rfl rfl N1.1.1 rfl rfl ?_
  refine zi_iload_n 12 dX11_load_11 rfl rfl ?_
  refine zi_iload_n 13 dX11_load_12 rfl rfl ?_
  refine zi_iadd 14 dX11_load_13 rfl ?_
  rw [show (nI a : Int32) + 1 = nI (a + 1) from nI_ad a 1]
  refine zi_aload_n 15 dX11_load_14 rfl rfl ?_
  refine zi_getfield 18 1 dX11_load_15 zcl_X11 tw_864 rfl rfl N1.1.1 rfl rfl ?_
  refine zi_iconst (v := 4) 19 dX11_load_18 (by decide) rfl ?_
  refine zi_iload_n 20 dX11_load_19 rfl rfl ?_
  refine zi_imul 21 dX11_load_20 rfl ?_
  rw [show (4 : Int32) * nI i = nI (4 * i) from ls_m 4 i]
  refine zi_iload_n 22 dX11_load_21 rfl rfl ?_
  refine zi_iadd 23 dX11_load_22 rfl ?_
  rw [show (nI (4 * i) : Int32) + 1 = nI ((4 * i) + 1) from nI_ad (4 * i) 1]
  refine zi_laload 24 dX11_load_23 N1.1.2.2.1 (vp_in_nI (show ((4 * i) + 1) < 80 by omega) (by decide)) rfl ?_
  rw [nI_clamp (Nat.lt_trans (show ((4 * i) + 1) < 80 by omega) (by decide))]
  refine zi_lastore 25 dX11_load_24 N1.1.2.2.2.2.2.2.2.2.1 (vp_in_nI (show (a + 1) < 80 by omega) (by decide)) rfl ?_
  rw [nI_clamp (Nat.lt_trans (show (a + 1) < 80 by omega) (by decide))]
  refine zk_h (fun h2 k2 => ?_)
  have N2 := rN_R hD N1 k2
  refine zi_iinc (v := 2) (lv' := [(3, _), (0, _), (1, _), (2, _)]) 28 dX11_load_25 rfl rfl rfl rfl rfl ?_
  refine zi_goto 2 dX11_load_28 (by decide) ?_
  refine zi_iload_n 3 dX11_load_2 rfl rfl ?_
  refine zi_iconst (v := 4) 4 dX11_load_3 (by decide) rfl ?_
  refine zi_icmp_ge 7 31 dX11_load_4 (by decide) rfl (fun c_4 => absurd c_4 (by decide)) (fun c_4 => ?_)
  refine zi_aload_n 8 dX11_load_7 rfl rfl ?_
  refine zi_getfield 11 9 dX11_load_8 zcl_X11 tw_872 rfl rfl N2.1.1 rfl rfl ?_
  refine zi_iload_n 12 dX11_load_11 rfl rfl ?_
  refine zi_iload_n 13 dX11_load_12 rfl rfl ?_
  refine zi_iadd 14 dX11_load_13 rfl ?_
  rw [show (nI a : Int32) + 2 = nI (a + 2) from nI_ad a 2]
  refine zi_aload_n 15 dX11_load_14 rfl rfl ?_
  refine zi_getfield 18 1 dX11_load_15 zcl_X11 tw_864 rfl rfl N2.1.1 rfl rfl ?_
  refine zi_iconst (v := 4) 19 dX11_load_18 (by decide) rfl ?_
  refine zi_iload_n 20 dX11_load_19 rfl rfl ?_
  refine zi_imul 21 dX11_load_20 rfl ?_
  rw [show (4 : Int32) * nI i = nI (4 * i) from ls_m 4 i]
  refine zi_iload_n 22 dX11_load_21 rfl rfl ?_
  refine zi_iadd 23 dX11_load_22 rfl ?_
  rw [show (nI (4 * i) : Int32) + 2 = nI ((4 * i) + 2) from nI_ad (4 * i) 2]
  refine zi_laload 24 dX11_load_23 N2.1.2.2.1 (vp_in_nI (show ((4 * i) + 2) < 80 by omega) (by decide)) rfl ?_
  rw [nI_clamp (Nat.lt_trans (show ((4 * i) + 2) < 80 by omega) (by decide))]
  refine zi_lastore 25 dX11_load_24 N2.1.2.2.2.2.2.2.2.2.1 (vp_in_nI (show (a + 2) < 80 by omega) (by decide)) rfl ?_
  rw [nI_clamp (Nat.lt_trans (show (a + 2) < 80 by omega) (by decide))]
  refine zk_h (fun h3 k3 => ?_)
  have N3 := rN_R hD N2 k3
  refine zi_iinc (v := 3) (lv' := [(3, _), (0, _), (1, _), (2, _)]) 28 dX11_load_25 rfl rfl rfl rfl rfl ?_
  refine zi_goto 2 dX11_load_28 (by decide) ?_
  refine zi_iload_n 3 dX11_load_2 rfl rfl ?_
  refine zi_iconst (v := 4) 4 dX11_load_3 (by decide) rfl ?_
  refine zi_icmp_ge 7 31 dX11_load_4 (by decide) rfl (fun c_4 => absurd c_4 (by decide)) (fun c_4 => ?_)
  refine zi_aload_n 8 dX11_load_7 rfl rfl ?_
  refine zi_getfield 11 9 dX11_load_8 zcl_X11 tw_872 rfl rfl N3.1.1 rfl rfl ?_
  refine zi_iload_n 12 dX11_load_11 rfl rfl ?_
  refine zi_iload_n 13 dX11_load_12 rfl rfl ?_
  refine zi_iadd 14 dX11_load_13 rfl ?_
  rw [show (nI a : Int32) + 3 = nI (a + 3) from nI_ad a 3]
  refine zi_aload_n 15 dX11_load_14 rfl rfl ?_
  refine zi_getfield 18 1 dX11_load_15 zcl_X11 tw_864 rfl rfl N3.1.1 rfl rfl ?_
  refine zi_iconst (v := 4) 19 dX11_load_18 (by decide) rfl ?_
  refine zi_iload_n 20 dX11_load_19 rfl rfl ?_
  refine zi_imul 21 dX11_load_20 rfl ?_
  rw [show (4 : Int32) * nI i = nI (4 * i) from ls_m 4 i]
  refine zi_iload_n 22 dX11_load_21 rfl rfl ?_
  refine zi_iadd 23 dX11_load_22 rfl ?_
  rw [show (nI (4 * i) : Int32) + 3 = nI ((4 * i) + 3) from nI_ad (4 * i) 3]
  refine zi_laload 24 dX11_load_23 N3.1.2.2.1 (vp_in_nI (show ((4 * i) + 3) < 80 by omega) (by decide)) rfl ?_
  rw [nI_clamp (Nat.lt_trans (show ((4 * i) + 3) < 80 by omega) (by decide))]
  refine zi_lastore 25 dX11_load_24 N3.1.2.2.2.2.2.2.2.2.1 (vp_in_nI (show (a + 3) < 80 by omega) (by decide)) rfl ?_
  rw [nI_clamp (Nat.lt_trans (show (a + 3) < 80 by omega) (by decide))]
  refine zk_h (fun h4 k4 => ?_)
  have N4 := rN_R hD N3 k4
  refine zi_iinc (v := 4) (lv' := [(3, _), (0, _), (1, _), (2, _)]) 28 dX11_load_25 rfl rfl rfl rfl rfl ?_
  refine zi_goto 2 dX11_load_28 (by decide) ?_
  refine zi_iload_n 3 dX11_load_2 rfl rfl ?_
  refine zi_iconst (v := 4) 4 dX11_load_3 (by decide) rfl ?_
  refine zi_icmp_ge 7 31 dX11_load_4 (by decide) rfl (fun c_4 => ?_) (fun c_4 => absurd c_4 (by decide))
  exact zr_void hZ dX11_load_31 rfl ⟨rfl, N4⟩

set_option maxHeartbeats 4000000 in
set_option maxRecDepth 100000 in
theorem s_X11_hold (B : zBB) (h : zHp) (D : Nat → Nat) (hD : zInj D) (m : mS) (M : rM B D m h) (i b : Nat) (hb : b ≤ 76) (hi : i < 20) : zSpec mX11_hold B (0, 0, 0) [.ref (D 0), .int (nI i), .int (nI b)] h (zPv (fun h' => rN B D (uS (uH m (upd (wH m) i 1)) (p4 (wS m) (4 * i) (ro (wR m) b))) h h')) := by
  refine zSpec.of (by decide) (Nat.le_of_ble_eq_true rfl) (fun X hZ => ?_)
  show zG X mX11_hold B (0, 0, 0) (0, 0) 0 [(0, .ref (D 0)), (1, .int (nI i)), (2, .int (nI b))] [] h
  have N0 := rN_r M
  refine zi_aload_n 1 dX11_hold_0 rfl rfl ?_
  refine zi_getfield 4 0 dX11_hold_1 zcl_X11 tw_863 rfl rfl N0.1.1 rfl rfl ?_
  refine zi_iload_n 5 dX11_hold_4 rfl rfl ?_
  refine zi_iconst (v := 1) 6 dX11_hold_5 (by decide) rfl ?_
  refine zi_bastore 7 dX11_hold_6 N0.1.2.1 (vp_in_nI (show i < 20 by omega) (by decide)) rfl ?_
  rw [nI_clamp (Nat.lt_trans (show i < 20 by omega) (by decide))]
  refine zk_h (fun h1 k1 => ?_)
  have N1 := rN_H hD N0 k1
  refine zi_iconst (v := 0) 8 dX11_hold_7 (by decide) rfl ?_
  refine zi_istore_n (lv' := [(3, _), (0, _), (1, _), (2, _)]) 9 dX11_hold_8 rfl rfl rfl ?_
  refine zi_iload_n 10 dX11_hold_9 rfl rfl ?_
  refine zi_iconst (v := 4) 11 dX11_hold_10 (by decide) rfl ?_
  refine zi_icmp_ge 14 38 dX11_hold_11 (by decide) rfl (fun c_11 => absurd c_11 (by decide)) (fun c_11 => ?_)
  refine zi_aload_n 15 dX11_hold_14 rfl rfl ?_
  refine zi_getfield 18 1 dX11_hold_15 zcl_X11 tw_864 rfl rfl N1.1.1 rfl rfl ?_
  refine zi_iconst (v := 4) 19 dX11_hold_18 (by decide) rfl ?_
  refine zi_iload_n 20 dX11_hold_19 rfl rfl ?_
  refine zi_imul 21 dX11_hold_20 rfl ?_
  rw [show (4 : Int32) * nI i = nI (4 * i) from ls_m 4 i]
  refine zi_iload_n 22 dX11_hold_21 rfl rfl ?_
  refine zi_iadd 23 dX11_hold_22 rfl ?_
  rw [show nI (4 * i) + 0 = nI (4 * i) from Int32.add_zero _]
  refine zi_aload_n 24 dX11_hold_23 rfl rfl ?_
  refine zi_getfield 27 9 dX11_hold_24 zcl_X11 tw_872 rfl rfl N1.1.1 rfl rfl ?_
  refine zi_iload_n 28 dX11_hold_27 rfl rfl ?_
  refine zi_iload_n 29 dX11_hold_28 rfl rfl ?_
  refine zi_iadd 30 dX11_hold_29 rfl ?_
  rw [show nI b + 0 = nI b from Int32.add_zero _]
  refine zi_laload 31 dX11_hold_30 N1.1.2.2.2.2.2.2.2.2.1 (vp_in_nI (show b < 80 by omega) (by decide)) rfl ?_
  rw [nI_clamp (Nat.lt_trans (show b < 80 by omega) (by decide))]
  refine zi_lastore 32 dX11_hold_31 N1.1.2.2.1 (vp_in_nI (show (4 * i) < 80 by omega) (by decide)) rfl ?_
  rw [nI_clamp (Nat.lt_trans (show (4 * i) < 80 by omega) (by decide))]
  refine zk_h (fun h2 k2 => ?_)
  have N2 := rN_S hD N1 k2
  refine zi_iinc (v := 1) (lv' := [(3, _), (0, _), (1, _), (2, _)]) 35 dX11_hold_32 rfl rfl rfl rfl rfl ?_
  refine zi_goto 9 dX11_hold_35 (by decide) ?_
  refine zi_iload_n 10 dX11_hold_9 rfl rfl ?_
  refine zi_iconst (v := 4) 11 dX11_hold_10 (by decide) rfl ?_
  refine zi_icmp_ge 14 38 dX11_hold_11 (by decide) rfl (fun c_11 => absurd c_11 (by decide)) (fun c_11 => ?_)
  refine zi_aload_n 15 dX11_hold_14 rfl rfl ?_
  refine zi_getfield 18 1 dX11_hold_15 zcl_X11 tw_864 rfl rfl N2.1.1 rfl rfl ?_
  refine zi_iconst (v := 4) 19 dX11_hold_18 (by decide) rfl ?_
  refine zi_iload_n 20 dX11_hold_19 rfl rfl ?_
  refine zi_imul 21 dX11_hold_20 rfl ?_
  rw [show (4 : Int32) * nI i = nI (4 * i) from ls_m 4 i]
  refine zi_iload_n 22 dX11_hold_21 rfl rfl ?_
  refine zi_iadd 23 dX11_hold_22 rfl ?_
  rw [show (nI (4 * i) : Int32) + 1 = nI ((4 * i) + 1) from nI_ad (4 * i) 1]
  refine zi_aload_n 24 dX11_hold_23 rfl rfl ?_
  refine zi_getfield 27 9 dX11_hold_24 zcl_X11 tw_872 rfl rfl N2.1.1 rfl rfl ?_
  refine zi_iload_n 28 dX11_hold_27 rfl rfl ?_
  refine zi_iload_n 29 dX11_hold_28 rfl rfl ?_
  refine zi_iadd 30 dX11_hold_29 rfl ?_
  rw [show (nI b : Int32) + 1 = nI (b + 1) from nI_ad b 1]
  refine zi_laload 31 dX11_hold_30 N2.1.2.2.2.2.2.2.2.2.1 (vp_in_nI (show (b + 1) < 80 by omega) (by decide)) rfl ?_
  rw [nI_clamp (Nat.lt_trans (show (b + 1) < 80 by omega) (by decide))]
  refine zi_lastore 32 dX11_hold_31 N2.1.2.2.1 (vp_in_nI (show ((4 * i) + 1) < 80 by omega) (by decide)) rfl ?_
  rw [nI_clamp (Nat.lt_trans (show ((4 * i) + 1) < 80 by omega) (by decide))]
  refine zk_h (fun h3 k3 => ?_)
  have N3 := rN_S hD N2 k3
  refine zi_iinc (v := 2) (lv' := [(3, _), (0, _), (1, _), (2, _)]) 35 dX11_hold_32 rfl rfl rfl rfl rfl ?_
  refine zi_goto 9 dX11_hold_35 (by decide) ?_
  refine zi_iload_n 10 dX11_hold_9 rfl rfl ?_
  refine zi_iconst (v := 4) 11 dX11_hold_10 (by decide) rfl ?_
  refine zi_icmp_ge 14 38 dX11_hold_11 (by decide) rfl (fun c_11 => absurd c_11 (by decide)) (fun c_11 => ?_)
  refine zi_aload_n 15 dX11_hold_14 rfl rfl ?_
  refine zi_getfield 18 1 dX11_hold_15 zcl_X11 tw_864 rfl rfl N3.1.1 rfl rfl ?_
  refine zi_iconst (v := 4) 19 dX11_hold_18 (by decide) rfl ?_
  refine zi_iload_n 20 dX11_hold_19 rfl rfl ?_
  refine zi_imul 21 dX11_hold_20 rfl ?_
  rw [show (4 : Int32) * nI i = nI (4 * i) from ls_m 4 i]
  refine zi_iload_n 22 dX11_hold_21 rfl rfl ?_
  refine zi_iadd 23 dX11_hold_22 rfl ?_
  rw [show (nI (4 * i) : Int32) + 2 = nI ((4 * i) + 2) from nI_ad (4 * i) 2]
  refine zi_aload_n 24 dX11_hold_23 rfl rfl ?_
  refine zi_getfield 27 9 dX11_hold_24 zcl_X11 tw_872 rfl rfl N3.1.1 rfl rfl ?_
  refine zi_iload_n 28 dX11_hold_27 rfl rfl ?_
  refine zi_iload_n 29 dX11_hold_28 rfl rfl ?_
  refine zi_iadd 30 dX11_hold_29 rfl ?_
  rw [show (nI b : Int32) + 2 = nI (b + 2) from nI_ad b 2]
  refine zi_laload 31 dX11_hold_30 N3.1.2.2.2.2.2.2.2.2.1 (vp_in_nI (show (b + 2) < 80 by omega) (by decide)) rfl ?_
  rw [nI_clamp (Nat.lt_trans (show (b + 2) < 80 by omega) (by decide))]
  refine zi_lastore 32 dX11_hold_31 N3.1.2.2.1 (vp_in_nI (show ((4 * i) + 2) < 80 by omega) (by decide)) rfl ?_
  rw [nI_clamp (Nat.lt_trans (show ((4 * i) + 2) < 80 by omega) (by decide))]
  refine zk_h (fun h4 k4 => ?_)
  have N4 := rN_S hD N3 k4
  refine zi_iinc (v := 3) (lv' := [(3, _), (0, _), (1, _), (2, _)]) 35 dX11_hold_32 rfl rfl rfl rfl rfl ?_
  refine zi_goto 9 dX11_hold_35 (by decide) ?_
  refine zi_iload_n 10 dX11_hold_9 rfl rfl ?_
  refine zi_iconst (v := 4) 11 dX11_hold_10 (by decide) rfl ?_
  refine zi_icmp_ge 14 38 dX11_hold_11 (by decide) rfl (fun c_11 => absurd c_11 (by decide)) (fun c_11 => ?_)
  refine zi_aload_n 15 dX11_hold_14 rfl rfl ?_
  refine zi_getfield 18 1 dX11_hold_15 zcl_X11 tw_864 rfl rfl N4.1.1 rfl rfl ?_
  refine zi_iconst (v := 4) 19 dX11_hold_18 (by decide) rfl ?_
  refine zi_iload_n 20 dX11_hold_19 rfl rfl ?_
  refine zi_imul 21 dX11_hold_20 rfl ?_
  rw [show (4 : Int32) * nI i = nI (4 * i) from ls_m 4 i]
  refine zi_iload_n 22 dX11_hold_21 rfl rfl ?_
  refine zi_iadd 23 dX11_hold_22 rfl ?_
  rw [show (nI (4 * i) : Int32) + 3 = nI ((4 * i) + 3) from nI_ad (4 * i) 3]
  refine zi_aload_n 24 dX11_hold_23 rfl rfl ?_
  refine zi_getfield 27 9 dX11_hold_24 zcl_X11 tw_872 rfl rfl N4.1.1 rfl rfl ?_
  refine zi_iload_n 28 dX11_hold_27 rfl rfl ?_
  refine zi_iload_n 29 dX11_hold_28 rfl rfl ?_
  refine zi_iadd 30 dX11_hold_29 rfl ?_
  rw [show (nI b : Int32) + 3 = nI (b + 3) from nI_ad b 3]
  refine zi_laload 31 dX11_hold_30 N4.1.2.2.2.2.2.2.2.2.1 (vp_in_nI (show (b + 3) < 80 by omega) (by decide)) rfl ?_
  rw [nI_clamp (Nat.lt_trans (show (b + 3) < 80 by omega) (by decide))]
  refine zi_lastore 32 dX11_hold_31 N4.1.2.2.1 (vp_in_nI (show ((4 * i) + 3) < 80 by omega) (by decide)) rfl ?_
  rw [nI_clamp (Nat.lt_trans (show ((4 * i) + 3) < 80 by omega) (by decide))]
  refine zk_h (fun h5 k5 => ?_)
  have N5 := rN_S hD N4 k5
  refine zi_iinc (v := 4) (lv' := [(3, _), (0, _), (1, _), (2, _)]) 35 dX11_hold_32 rfl rfl rfl rfl rfl ?_
  refine zi_goto 9 dX11_hold_35 (by decide) ?_
  refine zi_iload_n 10 dX11_hold_9 rfl rfl ?_
  refine zi_iconst (v := 4) 11 dX11_hold_10 (by decide) rfl ?_
  refine zi_icmp_ge 14 38 dX11_hold_11 (by decide) rfl (fun c_11 => ?_) (fun c_11 => absurd c_11 (by decide))
  exact zr_void hZ dX11_hold_38 rfl ⟨rfl, N5⟩

set_option maxHeartbeats 4000000 in
set_option maxRecDepth 100000 in
theorem s_X11_norm4 (B : zBB) (h : zHp) (D : Nat → Nat) (hD : zInj D) (m : mS) (M : rM B D m h) (a : Nat) (ha : a ≤ 76) : zSpec mX11_norm4 B (0, 0, 0) [.ref (D 0), .int (nI a)] h (zPf (some (.long (zNm (ro (wR m) a)))) h) := by
  refine zSpec.of (by decide) (Nat.le_of_ble_eq_true rfl) (fun X hZ => ?_)
  show zG X mX11_norm4 B (0, 0, 0) (0, 0) 0 [(0, .ref (D 0)), (1, .int (nI a))] [] h
  have N0 := rN_r M
  refine zi_aload_n 1 dX11_norm4_0 rfl rfl ?_
  refine zi_getfield 4 9 dX11_norm4_1 zcl_X11 tw_872 rfl rfl N0.1.1 rfl rfl ?_
  refine zi_iload_n 5 dX11_norm4_4 rfl rfl ?_
  refine zi_laload 6 dX11_norm4_5 N0.1.2.2.2.2.2.2.2.2.1 (vp_in_nI (show a < 80 by omega) (by decide)) rfl ?_
  rw [nI_clamp (Nat.lt_trans (show a < 80 by omega) (by decide))]
  refine zi_aload_n 7 dX11_norm4_6 rfl rfl ?_
  refine zi_getfield 10 9 dX11_norm4_7 zcl_X11 tw_872 rfl rfl N0.1.1 rfl rfl ?_
  refine zi_iload_n 11 dX11_norm4_10 rfl rfl ?_
  refine zi_laload 12 dX11_norm4_11 N0.1.2.2.2.2.2.2.2.2.1 (vp_in_nI (show a < 80 by omega) (by decide)) rfl ?_
  rw [nI_clamp (Nat.lt_trans (show a < 80 by omega) (by decide))]
  refine zi_lmul 13 dX11_norm4_12 rfl ?_
  refine zi_aload_n 14 dX11_norm4_13 rfl rfl ?_
  refine zi_getfield 17 9 dX11_norm4_14 zcl_X11 tw_872 rfl rfl N0.1.1 rfl rfl ?_
  refine zi_iload_n 18 dX11_norm4_17 rfl rfl ?_
  refine zi_iconst (v := 1) 19 dX11_norm4_18 (by decide) rfl ?_
  refine zi_iadd 20 dX11_norm4_19 rfl ?_
  rw [show (nI a : Int32) + 1 = nI (a + 1) from nI_ad a 1]
  refine zi_laload 21 dX11_norm4_20 N0.1.2.2.2.2.2.2.2.2.1 (vp_in_nI (show (a + 1) < 80 by omega) (by decide)) rfl ?_
  rw [nI_clamp (Nat.lt_trans (show (a + 1) < 80 by omega) (by decide))]
  refine zi_aload_n 22 dX11_norm4_21 rfl rfl ?_
  refine zi_getfield 25 9 dX11_norm4_22 zcl_X11 tw_872 rfl rfl N0.1.1 rfl rfl ?_
  refine zi_iload_n 26 dX11_norm4_25 rfl rfl ?_
  refine zi_iconst (v := 1) 27 dX11_norm4_26 (by decide) rfl ?_
  refine zi_iadd 28 dX11_norm4_27 rfl ?_
  rw [show (nI a : Int32) + 1 = nI (a + 1) from nI_ad a 1]
  refine zi_laload 29 dX11_norm4_28 N0.1.2.2.2.2.2.2.2.2.1 (vp_in_nI (show (a + 1) < 80 by omega) (by decide)) rfl ?_
  rw [nI_clamp (Nat.lt_trans (show (a + 1) < 80 by omega) (by decide))]
  refine zi_lmul 30 dX11_norm4_29 rfl ?_
  refine zi_ladd 31 dX11_norm4_30 rfl ?_
  refine zi_aload_n 32 dX11_norm4_31 rfl rfl ?_
  refine zi_getfield 35 9 dX11_norm4_32 zcl_X11 tw_872 rfl rfl N0.1.1 rfl rfl ?_
  refine zi_iload_n 36 dX11_norm4_35 rfl rfl ?_
  refine zi_iconst (v := 2) 37 dX11_norm4_36 (by decide) rfl ?_
  refine zi_iadd 38 dX11_norm4_37 rfl ?_
  rw [show (nI a : Int32) + 2 = nI (a + 2) from nI_ad a 2]
  refine zi_laload 39 dX11_norm4_38 N0.1.2.2.2.2.2.2.2.2.1 (vp_in_nI (show (a + 2) < 80 by omega) (by decide)) rfl ?_
  rw [nI_clamp (Nat.lt_trans (show (a + 2) < 80 by omega) (by decide))]
  refine zi_aload_n 40 dX11_norm4_39 rfl rfl ?_
  refine zi_getfield 43 9 dX11_norm4_40 zcl_X11 tw_872 rfl rfl N0.1.1 rfl rfl ?_
  refine zi_iload_n 44 dX11_norm4_43 rfl rfl ?_
  refine zi_iconst (v := 2) 45 dX11_norm4_44 (by decide) rfl ?_
  refine zi_iadd 46 dX11_norm4_45 rfl ?_
  rw [show (nI a : Int32) + 2 = nI (a + 2) from nI_ad a 2]
  refine zi_laload 47 dX11_norm4_46 N0.1.2.2.2.2.2.2.2.2.1 (vp_in_nI (show (a + 2) < 80 by omega) (by decide)) rfl ?_
  rw [nI_clamp (Nat.lt_trans (show (a + 2) < 80 by omega) (by decide))]
  refine zi_lmul 48 dX11_norm4_47 rfl ?_
  refine zi_ladd 49 dX11_norm4_48 rfl ?_
  refine zi_aload_n 50 dX11_norm4_49 rfl rfl ?_
  refine zi_getfield 53 9 dX11_norm4_50 zcl_X11 tw_872 rfl rfl N0.1.1 rfl rfl ?_
  refine zi_iload_n 54 dX11_norm4_53 rfl rfl ?_
  refine zi_iconst (v := 3) 55 dX11_norm4_54 (by decide) rfl ?_
  refine zi_iadd 56 dX11_norm4_55 rfl ?_
  rw [show (nI a : Int32) + 3 = nI (a + 3) from nI_ad a 3]
  refine zi_laload 57 dX11_norm4_56 N0.1.2.2.2.2.2.2.2.2.1 (vp_in_nI (show (a + 3) < 80 by omega) (by decide)) rfl ?_
  rw [nI_clamp (Nat.lt_trans (show (a + 3) < 80 by omega) (by decide))]
  refine zi_aload_n 58 dX11_norm4_57 rfl rfl ?_
  refine zi_getfield 61 9 dX11_norm4_58 zcl_X11 tw_872 rfl rfl N0.1.1 rfl rfl ?_
  refine zi_iload_n 62 dX11_norm4_61 rfl rfl ?_
  refine zi_iconst (v := 3) 63 dX11_norm4_62 (by decide) rfl ?_
  refine zi_iadd 64 dX11_norm4_63 rfl ?_
  rw [show (nI a : Int32) + 3 = nI (a + 3) from nI_ad a 3]
  refine zi_laload 65 dX11_norm4_64 N0.1.2.2.2.2.2.2.2.2.1 (vp_in_nI (show (a + 3) < 80 by omega) (by decide)) rfl ?_
  rw [nI_clamp (Nat.lt_trans (show (a + 3) < 80 by omega) (by decide))]
  refine zi_lmul 66 dX11_norm4_65 rfl ?_
  refine zi_ladd 67 dX11_norm4_66 rfl ?_
  refine zi_ldc2 70 dX11_norm4_67 tw_952 rfl ?_
  refine zi_ldiv 71 dX11_norm4_70 (by decide) rfl ?_
  exact zr_long hZ dX11_norm4_71 rfl ⟨rfl, rfl⟩

theorem nil_y {P : z4} (h1 : P.1 = 0) (h2 : P.2.1 = 0) (h3 : P.2.2.1 = 0) (h4 : P.2.2.2 = 0) : some (Value.int 1) = some (.int (if zNil P then 1 else 0)) := by rw [if_pos ⟨h1, h2, h3, h4⟩]
theorem nil_n {P : z4} (h : ¬ zNil P) : some (Value.int 0) = some (.int (if zNil P then 1 else 0)) := by rw [if_neg h]

set_option maxHeartbeats 4000000 in
set_option maxRecDepth 100000 in
theorem s_X11_isNought (B : zBB) (h : zHp) (D : Nat → Nat) (hD : zInj D) (m : mS) (M : rM B D m h) (a : Nat) (ha : a ≤ 76) : zSpec mX11_isNought B (0, 0, 0) [.ref (D 0), .int (nI a)] h (zPf (some (.int (if zNil (ro (wR m) a) then 1 else 0))) h) := by
  refine zSpec.of (by decide) (Nat.le_of_ble_eq_true rfl) (fun X hZ => ?_)
  show zG X mX11_isNought B (0, 0, 0) (0, 0) 0 [(0, .ref (D 0)), (1, .int (nI a))] [] h
  have N0 := rN_r M
  refine zi_aload_n 1 dX11_isNought_0 rfl rfl ?_
  refine zi_getfield 4 9 dX11_isNought_1 zcl_X11 tw_872 rfl rfl N0.1.1 rfl rfl ?_
  refine zi_iload_n 5 dX11_isNought_4 rfl rfl ?_
  refine zi_laload 6 dX11_isNought_5 N0.1.2.2.2.2.2.2.2.2.1 (vp_in_nI (show a < 80 by omega) (by decide)) rfl ?_
  rw [nI_clamp (Nat.lt_trans (show a < 80 by omega) (by decide))]
  refine zi_lconst (v := 0) 7 dX11_isNought_6 (by decide) rfl ?_
  refine zj_ne 11 54 dX11_isNought_7 rfl dX11_isNought_8 (by decide) rfl (fun zzA => ?_) (fun zzA => ?_)
  ·
    refine zi_iconst (v := 0) 55 dX11_isNought_54 (by decide) rfl ?_
    exact zr_int hZ dX11_isNought_55 rfl (by decide) ⟨by first | exact nil_y zzA zzB zzC zzD | exact nil_n (fun q => zzA q.1) | exact nil_n (fun q => zzB q.2.1) | exact nil_n (fun q => zzC q.2.2.1) | exact nil_n (fun q => zzD q.2.2.2), rfl⟩
  ·
    refine zi_aload_n 12 dX11_isNought_11 rfl rfl ?_
    refine zi_getfield 15 9 dX11_isNought_12 zcl_X11 tw_872 rfl rfl N0.1.1 rfl rfl ?_
    refine zi_iload_n 16 dX11_isNought_15 rfl rfl ?_
    refine zi_iconst (v := 1) 17 dX11_isNought_16 (by decide) rfl ?_
    refine zi_iadd 18 dX11_isNought_17 rfl ?_
    rw [show (nI a : Int32) + 1 = nI (a + 1) from nI_ad a 1]
    refine zi_laload 19 dX11_isNought_18 N0.1.2.2.2.2.2.2.2.2.1 (vp_in_nI (show (a + 1) < 80 by omega) (by decide)) rfl ?_
    rw [nI_clamp (Nat.lt_trans (show (a + 1) < 80 by omega) (by decide))]
    refine zi_lconst (v := 0) 20 dX11_isNought_19 (by decide) rfl ?_
    refine zj_ne 24 54 dX11_isNought_20 rfl dX11_isNought_21 (by decide) rfl (fun zzB => ?_) (fun zzB => ?_)
    ·
      refine zi_iconst (v := 0) 55 dX11_isNought_54 (by decide) rfl ?_
      exact zr_int hZ dX11_isNought_55 rfl (by decide) ⟨by first | exact nil_y zzA zzB zzC zzD | exact nil_n (fun q => zzA q.1) | exact nil_n (fun q => zzB q.2.1) | exact nil_n (fun q => zzC q.2.2.1) | exact nil_n (fun q => zzD q.2.2.2), rfl⟩
    ·
      refine zi_aload_n 25 dX11_isNought_24 rfl rfl ?_
      refine zi_getfield 28 9 dX11_isNought_25 zcl_X11 tw_872 rfl rfl N0.1.1 rfl rfl ?_
      refine zi_iload_n 29 dX11_isNought_28 rfl rfl ?_
      refine zi_iconst (v := 2) 30 dX11_isNought_29 (by decide) rfl ?_
      refine zi_iadd 31 dX11_isNought_30 rfl ?_
      rw [show (nI a : Int32) + 2 = nI (a + 2) from nI_ad a 2]
      refine zi_laload 32 dX11_isNought_31 N0.1.2.2.2.2.2.2.2.2.1 (vp_in_nI (show (a + 2) < 80 by omega) (by decide)) rfl ?_
      rw [nI_clamp (Nat.lt_trans (show (a + 2) < 80 by omega) (by decide))]
      refine zi_lconst (v := 0) 33 dX11_isNought_32 (by decide) rfl ?_
      refine zj_ne 37 54 dX11_isNought_33 rfl dX11_isNought_34 (by decide) rfl (fun zzC => ?_) (fun zzC => ?_)
      ·
        refine zi_iconst (v := 0) 55 dX11_isNought_54 (by decide) rfl ?_
        exact zr_int hZ dX11_isNought_55 rfl (by decide) ⟨by first | exact nil_y zzA zzB zzC zzD | exact nil_n (fun q => zzA q.1) | exact nil_n (fun q => zzB q.2.1) | exact nil_n (fun q => zzC q.2.2.1) | exact nil_n (fun q => zzD q.2.2.2), rfl⟩
      ·
        refine zi_aload_n 38 dX11_isNought_37 rfl rfl ?_
        refine zi_getfield 41 9 dX11_isNought_38 zcl_X11 tw_872 rfl rfl N0.1.1 rfl rfl ?_
        refine zi_iload_n 42 dX11_isNought_41 rfl rfl ?_
        refine zi_iconst (v := 3) 43 dX11_isNought_42 (by decide) rfl ?_
        refine zi_iadd 44 dX11_isNought_43 rfl ?_
        rw [show (nI a : Int32) + 3 = nI (a + 3) from nI_ad a 3]
        refine zi_laload 45 dX11_isNought_44 N0.1.2.2.2.2.2.2.2.2.1 (vp_in_nI (show (a + 3) < 80 by omega) (by decide)) rfl ?_
        rw [nI_clamp (Nat.lt_trans (show (a + 3) < 80 by omega) (by decide))]
        refine zi_lconst (v := 0) 46 dX11_isNought_45 (by decide) rfl ?_
        refine zj_ne 50 54 dX11_isNought_46 rfl dX11_isNought_47 (by decide) rfl (fun zzD => ?_) (fun zzD => ?_)
        ·
          refine zi_iconst (v := 0) 55 dX11_isNought_54 (by decide) rfl ?_
          exact zr_int hZ dX11_isNought_55 rfl (by decide) ⟨by first | exact nil_y zzA zzB zzC zzD | exact nil_n (fun q => zzA q.1) | exact nil_n (fun q => zzB q.2.1) | exact nil_n (fun q => zzC q.2.2.1) | exact nil_n (fun q => zzD q.2.2.2), rfl⟩
        ·
          refine zi_iconst (v := 1) 51 dX11_isNought_50 (by decide) rfl ?_
          refine zi_goto 55 dX11_isNought_51 (by decide) ?_
          exact zr_int hZ dX11_isNought_55 rfl (by decide) ⟨by first | exact nil_y zzA zzB zzC zzD | exact nil_n (fun q => zzA q.1) | exact nil_n (fun q => zzB q.2.1) | exact nil_n (fun q => zzC q.2.2.1) | exact nil_n (fun q => zzD q.2.2.2), rfl⟩

set_option maxHeartbeats 4000000 in
set_option maxRecDepth 100000 in
theorem s_X11_multiply (B : zBB) (h : zHp) (D : Nat → Nat) (hD : zInj D) (m : mS) (M : rM B D m h) (a b c : Nat) (ha : a ≤ 76) (hb : b ≤ 76) (hc : c ≤ 76) : zSpec mX11_multiply B (1, 0, 0) [.ref (D 0), .int (nI a), .int (nI b), .int (nI c)] h (zPv (fun h' => rN B D (uR m (p4 (wR m) a (zMul (ro (wR m) b) (ro (wR m) c)))) h h')) := by
  refine zSpec.of (by decide) (Nat.le_of_ble_eq_true rfl) (fun X hZ => ?_)
  show zG X mX11_multiply B (1, 0, 0) (0, 0) 0 [(0, .ref (D 0)), (1, .int (nI a)), (2, .int (nI b)), (3, .int (nI c))] [] h
  have N0 := rN_r M
  refine zi_aload_n 1 dX11_multiply_0 rfl rfl ?_
  refine zi_getfield 4 9 dX11_multiply_1 zcl_X11 tw_872 rfl rfl N0.1.1 rfl rfl ?_
  refine zi_iload_n 5 dX11_multiply_4 rfl rfl ?_
  refine zi_laload 6 dX11_multiply_5 N0.1.2.2.2.2.2.2.2.2.1 (vp_in_nI (show b < 80 by omega) (by decide)) rfl ?_
  rw [nI_clamp (Nat.lt_trans (show b < 80 by omega) (by decide))]
  refine zi_aload_n 7 dX11_multiply_6 rfl rfl ?_
  refine zi_getfield 10 9 dX11_multiply_7 zcl_X11 tw_872 rfl rfl N0.1.1 rfl rfl ?_
  refine zi_iload_n 11 dX11_multiply_10 rfl rfl ?_
  refine zi_laload 12 dX11_multiply_11 N0.1.2.2.2.2.2.2.2.2.1 (vp_in_nI (show c < 80 by omega) (by decide)) rfl ?_
  rw [nI_clamp (Nat.lt_trans (show c < 80 by omega) (by decide))]
  refine zi_lmul 13 dX11_multiply_12 rfl ?_
  refine zi_aload_n 14 dX11_multiply_13 rfl rfl ?_
  refine zi_getfield 17 9 dX11_multiply_14 zcl_X11 tw_872 rfl rfl N0.1.1 rfl rfl ?_
  refine zi_iload_n 18 dX11_multiply_17 rfl rfl ?_
  refine zi_iconst (v := 1) 19 dX11_multiply_18 (by decide) rfl ?_
  refine zi_iadd 20 dX11_multiply_19 rfl ?_
  rw [show (nI b : Int32) + 1 = nI (b + 1) from nI_ad b 1]
  refine zi_laload 21 dX11_multiply_20 N0.1.2.2.2.2.2.2.2.2.1 (vp_in_nI (show (b + 1) < 80 by omega) (by decide)) rfl ?_
  rw [nI_clamp (Nat.lt_trans (show (b + 1) < 80 by omega) (by decide))]
  refine zi_aload_n 22 dX11_multiply_21 rfl rfl ?_
  refine zi_getfield 25 9 dX11_multiply_22 zcl_X11 tw_872 rfl rfl N0.1.1 rfl rfl ?_
  refine zi_iload_n 26 dX11_multiply_25 rfl rfl ?_
  refine zi_iconst (v := 1) 27 dX11_multiply_26 (by decide) rfl ?_
  refine zi_iadd 28 dX11_multiply_27 rfl ?_
  rw [show (nI c : Int32) + 1 = nI (c + 1) from nI_ad c 1]
  refine zi_laload 29 dX11_multiply_28 N0.1.2.2.2.2.2.2.2.2.1 (vp_in_nI (show (c + 1) < 80 by omega) (by decide)) rfl ?_
  rw [nI_clamp (Nat.lt_trans (show (c + 1) < 80 by omega) (by decide))]
  refine zi_lmul 30 dX11_multiply_29 rfl ?_
  refine zi_lsub 31 dX11_multiply_30 rfl ?_
  refine zi_aload_n 32 dX11_multiply_31 rfl rfl ?_
  refine zi_getfield 35 9 dX11_multiply_32 zcl_X11 tw_872 rfl rfl N0.1.1 rfl rfl ?_
  refine zi_iload_n 36 dX11_multiply_35 rfl rfl ?_
  refine zi_iconst (v := 2) 37 dX11_multiply_36 (by decide) rfl ?_
  refine zi_iadd 38 dX11_multiply_37 rfl ?_
  rw [show (nI b : Int32) + 2 = nI (b + 2) from nI_ad b 2]
  refine zi_laload 39 dX11_multiply_38 N0.1.2.2.2.2.2.2.2.2.1 (vp_in_nI (show (b + 2) < 80 by omega) (by decide)) rfl ?_
  rw [nI_clamp (Nat.lt_trans (show (b + 2) < 80 by omega) (by decide))]
  refine zi_aload_n 40 dX11_multiply_39 rfl rfl ?_
  refine zi_getfield 43 9 dX11_multiply_40 zcl_X11 tw_872 rfl rfl N0.1.1 rfl rfl ?_
  refine zi_iload_n 44 dX11_multiply_43 rfl rfl ?_
  refine zi_iconst (v := 2) 45 dX11_multiply_44 (by decide) rfl ?_
  refine zi_iadd 46 dX11_multiply_45 rfl ?_
  rw [show (nI c : Int32) + 2 = nI (c + 2) from nI_ad c 2]
  refine zi_laload 47 dX11_multiply_46 N0.1.2.2.2.2.2.2.2.2.1 (vp_in_nI (show (c + 2) < 80 by omega) (by decide)) rfl ?_
  rw [nI_clamp (Nat.lt_trans (show (c + 2) < 80 by omega) (by decide))]
  refine zi_lmul 48 dX11_multiply_47 rfl ?_
  refine zi_lsub 49 dX11_multiply_48 rfl ?_
  refine zi_aload_n 50 dX11_multiply_49 rfl rfl ?_
  refine zi_getfield 53 9 dX11_multiply_50 zcl_X11 tw_872 rfl rfl N0.1.1 rfl rfl ?_
  refine zi_iload_n 54 dX11_multiply_53 rfl rfl ?_
  refine zi_iconst (v := 3) 55 dX11_multiply_54 (by decide) rfl ?_
  refine zi_iadd 56 dX11_multiply_55 rfl ?_
  rw [show (nI b : Int32) + 3 = nI (b + 3) from nI_ad b 3]
  refine zi_laload 57 dX11_multiply_56 N0.1.2.2.2.2.2.2.2.2.1 (vp_in_nI (show (b + 3) < 80 by omega) (by decide)) rfl ?_
  rw [nI_clamp (Nat.lt_trans (show (b + 3) < 80 by omega) (by decide))]
  refine zi_aload_n 58 dX11_multiply_57 rfl rfl ?_
  refine zi_getfield 61 9 dX11_multiply_58 zcl_X11 tw_872 rfl rfl N0.1.1 rfl rfl ?_
  refine zi_iload_n 62 dX11_multiply_61 rfl rfl ?_
  refine zi_iconst (v := 3) 63 dX11_multiply_62 (by decide) rfl ?_
  refine zi_iadd 64 dX11_multiply_63 rfl ?_
  rw [show (nI c : Int32) + 3 = nI (c + 3) from nI_ad c 3]
  refine zi_laload 65 dX11_multiply_64 N0.1.2.2.2.2.2.2.2.2.1 (vp_in_nI (show (c + 3) < 80 by omega) (by decide)) rfl ?_
  rw [nI_clamp (Nat.lt_trans (show (c + 3) < 80 by omega) (by decide))]
  refine zi_lmul 66 dX11_multiply_65 rfl ?_
  refine zi_lsub 67 dX11_multiply_66 rfl ?_
  refine zi_lstore (lv' := [(4, _), (0, _), (1, _), (2, _), (3, _)]) 69 dX11_multiply_67 rfl rfl rfl ?_
  refine zi_aload_n 70 dX11_multiply_69 rfl rfl ?_
  refine zi_getfield 73 9 dX11_multiply_70 zcl_X11 tw_872 rfl rfl N0.1.1 rfl rfl ?_
  refine zi_iload_n 74 dX11_multiply_73 rfl rfl ?_
  refine zi_laload 75 dX11_multiply_74 N0.1.2.2.2.2.2.2.2.2.1 (vp_in_nI (show b < 80 by omega) (by decide)) rfl ?_
  rw [nI_clamp (Nat.lt_trans (show b < 80 by omega) (by decide))]
  refine zi_aload_n 76 dX11_multiply_75 rfl rfl ?_
  refine zi_getfield 79 9 dX11_multiply_76 zcl_X11 tw_872 rfl rfl N0.1.1 rfl rfl ?_
  refine zi_iload_n 80 dX11_multiply_79 rfl rfl ?_
  refine zi_iconst (v := 1) 81 dX11_multiply_80 (by decide) rfl ?_
  refine zi_iadd 82 dX11_multiply_81 rfl ?_
  rw [show (nI c : Int32) + 1 = nI (c + 1) from nI_ad c 1]
  refine zi_laload 83 dX11_multiply_82 N0.1.2.2.2.2.2.2.2.2.1 (vp_in_nI (show (c + 1) < 80 by omega) (by decide)) rfl ?_
  rw [nI_clamp (Nat.lt_trans (show (c + 1) < 80 by omega) (by decide))]
  refine zi_lmul 84 dX11_multiply_83 rfl ?_
  refine zi_aload_n 85 dX11_multiply_84 rfl rfl ?_
  refine zi_getfield 88 9 dX11_multiply_85 zcl_X11 tw_872 rfl rfl N0.1.1 rfl rfl ?_
  refine zi_iload_n 89 dX11_multiply_88 rfl rfl ?_
  refine zi_iconst (v := 1) 90 dX11_multiply_89 (by decide) rfl ?_
  refine zi_iadd 91 dX11_multiply_90 rfl ?_
  rw [show (nI b : Int32) + 1 = nI (b + 1) from nI_ad b 1]
  refine zi_laload 92 dX11_multiply_91 N0.1.2.2.2.2.2.2.2.2.1 (vp_in_nI (show (b + 1) < 80 by omega) (by decide)) rfl ?_
  rw [nI_clamp (Nat.lt_trans (show (b + 1) < 80 by omega) (by decide))]
  refine zi_aload_n 93 dX11_multiply_92 rfl rfl ?_
  refine zi_getfield 96 9 dX11_multiply_93 zcl_X11 tw_872 rfl rfl N0.1.1 rfl rfl ?_
  refine zi_iload_n 97 dX11_multiply_96 rfl rfl ?_
  refine zi_laload 98 dX11_multiply_97 N0.1.2.2.2.2.2.2.2.2.1 (vp_in_nI (show c < 80 by omega) (by decide)) rfl ?_
  rw [nI_clamp (Nat.lt_trans (show c < 80 by omega) (by decide))]
  refine zi_lmul 99 dX11_multiply_98 rfl ?_
  refine zi_ladd 100 dX11_multiply_99 rfl ?_
  refine zi_aload_n 101 dX11_multiply_100 rfl rfl ?_
  refine zi_getfield 104 9 dX11_multiply_101 zcl_X11 tw_872 rfl rfl N0.1.1 rfl rfl ?_
  refine zi_iload_n 105 dX11_multiply_104 rfl rfl ?_
  refine zi_iconst (v := 2) 106 dX11_multiply_105 (by decide) rfl ?_
  refine zi_iadd 107 dX11_multiply_106 rfl ?_
  rw [show (nI b : Int32) + 2 = nI (b + 2) from nI_ad b 2]
  refine zi_laload 108 dX11_multiply_107 N0.1.2.2.2.2.2.2.2.2.1 (vp_in_nI (show (b + 2) < 80 by omega) (by decide)) rfl ?_
  rw [nI_clamp (Nat.lt_trans (show (b + 2) < 80 by omega) (by decide))]
  refine zi_aload_n 109 dX11_multiply_108 rfl rfl ?_
  refine zi_getfield 112 9 dX11_multiply_109 zcl_X11 tw_872 rfl rfl N0.1.1 rfl rfl ?_
  refine zi_iload_n 113 dX11_multiply_112 rfl rfl ?_
  refine zi_iconst (v := 3) 114 dX11_multiply_113 (by decide) rfl ?_
  refine zi_iadd 115 dX11_multiply_114 rfl ?_
  rw [show (nI c : Int32) + 3 = nI (c + 3) from nI_ad c 3]
  refine zi_laload 116 dX11_multiply_115 N0.1.2.2.2.2.2.2.2.2.1 (vp_in_nI (show (c + 3) < 80 by omega) (by decide)) rfl ?_
  rw [nI_clamp (Nat.lt_trans (show (c + 3) < 80 by omega) (by decide))]
  refine zi_lmul 117 dX11_multiply_116 rfl ?_
  refine zi_ladd 118 dX11_multiply_117 rfl ?_
  refine zi_aload_n 119 dX11_multiply_118 rfl rfl ?_
  refine zi_getfield 122 9 dX11_multiply_119 zcl_X11 tw_872 rfl rfl N0.1.1 rfl rfl ?_
  refine zi_iload_n 123 dX11_multiply_122 rfl rfl ?_
  refine zi_iconst (v := 3) 124 dX11_multiply_123 (by decide) rfl ?_
  refine zi_iadd 125 dX11_multiply_124 rfl ?_
  rw [show (nI b : Int32) + 3 = nI (b + 3) from nI_ad b 3]
  refine zi_laload 126 dX11_multiply_125 N0.1.2.2.2.2.2.2.2.2.1 (vp_in_nI (show (b + 3) < 80 by omega) (by decide)) rfl ?_
  rw [nI_clamp (Nat.lt_trans (show (b + 3) < 80 by omega) (by decide))]
  refine zi_aload_n 127 dX11_multiply_126 rfl rfl ?_
  refine zi_getfield 130 9 dX11_multiply_127 zcl_X11 tw_872 rfl rfl N0.1.1 rfl rfl ?_
  refine zi_iload_n 131 dX11_multiply_130 rfl rfl ?_
  refine zi_iconst (v := 2) 132 dX11_multiply_131 (by decide) rfl ?_
  refine zi_iadd 133 dX11_multiply_132 rfl ?_
  rw [show (nI c : Int32) + 2 = nI (c + 2) from nI_ad c 2]
  refine zi_laload 134 dX11_multiply_133 N0.1.2.2.2.2.2.2.2.2.1 (vp_in_nI (show (c + 2) < 80 by omega) (by decide)) rfl ?_
  rw [nI_clamp (Nat.lt_trans (show (c + 2) < 80 by omega) (by decide))]
  refine zi_lmul 135 dX11_multiply_134 rfl ?_
  refine zi_lsub 136 dX11_multiply_135 rfl ?_
  refine zi_lstore (lv' := [(6, _), (4, _), (0, _), (1, _), (2, _), (3, _)]) 138 dX11_multiply_136 rfl rfl rfl ?_
  refine zi_aload_n 139 dX11_multiply_138 rfl rfl ?_
  refine zi_getfield 142 9 dX11_multiply_139 zcl_X11 tw_872 rfl rfl N0.1.1 rfl rfl ?_
  refine zi_iload_n 143 dX11_multiply_142 rfl rfl ?_
  refine zi_laload 144 dX11_multiply_143 N0.1.2.2.2.2.2.2.2.2.1 (vp_in_nI (show b < 80 by omega) (by decide)) rfl ?_
  rw [nI_clamp (Nat.lt_trans (show b < 80 by omega) (by decide))]
  refine zi_aload_n 145 dX11_multiply_144 rfl rfl ?_
  refine zi_getfield 148 9 dX11_multiply_145 zcl_X11 tw_872 rfl rfl N0.1.1 rfl rfl ?_
  refine zi_iload_n 149 dX11_multiply_148 rfl rfl ?_
  refine zi_iconst (v := 2) 150 dX11_multiply_149 (by decide) rfl ?_
  refine zi_iadd 151 dX11_multiply_150 rfl ?_
  rw [show (nI c : Int32) + 2 = nI (c + 2) from nI_ad c 2]
  refine zi_laload 152 dX11_multiply_151 N0.1.2.2.2.2.2.2.2.2.1 (vp_in_nI (show (c + 2) < 80 by omega) (by decide)) rfl ?_
  rw [nI_clamp (Nat.lt_trans (show (c + 2) < 80 by omega) (by decide))]
  refine zi_lmul 153 dX11_multiply_152 rfl ?_
  refine zi_aload_n 154 dX11_multiply_153 rfl rfl ?_
  refine zi_getfield 157 9 dX11_multiply_154 zcl_X11 tw_872 rfl rfl N0.1.1 rfl rfl ?_
  refine zi_iload_n 158 dX11_multiply_157 rfl rfl ?_
  refine zi_iconst (v := 1) 159 dX11_multiply_158 (by decide) rfl ?_
  refine zi_iadd 160 dX11_multiply_159 rfl ?_
  rw [show (nI b : Int32) + 1 = nI (b + 1) from nI_ad b 1]
  refine zi_laload 161 dX11_multiply_160 N0.1.2.2.2.2.2.2.2.2.1 (vp_in_nI (show (b + 1) < 80 by omega) (by decide)) rfl ?_
  rw [nI_clamp (Nat.lt_trans (show (b + 1) < 80 by omega) (by decide))]
  refine zi_aload_n 162 dX11_multiply_161 rfl rfl ?_
  refine zi_getfield 165 9 dX11_multiply_162 zcl_X11 tw_872 rfl rfl N0.1.1 rfl rfl ?_
  refine zi_iload_n 166 dX11_multiply_165 rfl rfl ?_
  refine zi_iconst (v := 3) 167 dX11_multiply_166 (by decide) rfl ?_
  refine zi_iadd 168 dX11_multiply_167 rfl ?_
  rw [show (nI c : Int32) + 3 = nI (c + 3) from nI_ad c 3]
  refine zi_laload 169 dX11_multiply_168 N0.1.2.2.2.2.2.2.2.2.1 (vp_in_nI (show (c + 3) < 80 by omega) (by decide)) rfl ?_
  rw [nI_clamp (Nat.lt_trans (show (c + 3) < 80 by omega) (by decide))]
  refine zi_lmul 170 dX11_multiply_169 rfl ?_
  refine zi_lsub 171 dX11_multiply_170 rfl ?_
  refine zi_aload_n 172 dX11_multiply_171 rfl rfl ?_
  refine zi_getfield 175 9 dX11_multiply_172 zcl_X11 tw_872 rfl rfl N0.1.1 rfl rfl ?_
  refine zi_iload_n 176 dX11_multiply_175 rfl rfl ?_
  refine zi_iconst (v := 2) 177 dX11_multiply_176 (by decide) rfl ?_
  refine zi_iadd 178 dX11_multiply_177 rfl ?_
  rw [show (nI b : Int32) + 2 = nI (b + 2) from nI_ad b 2]
  refine zi_laload 179 dX11_multiply_178 N0.1.2.2.2.2.2.2.2.2.1 (vp_in_nI (show (b + 2) < 80 by omega) (by decide)) rfl ?_
  rw [nI_clamp (Nat.lt_trans (show (b + 2) < 80 by omega) (by decide))]
  refine zi_aload_n 180 dX11_multiply_179 rfl rfl ?_
  refine zi_getfield 183 9 dX11_multiply_180 zcl_X11 tw_872 rfl rfl N0.1.1 rfl rfl ?_
  refine zi_iload_n 184 dX11_multiply_183 rfl rfl ?_
  refine zi_laload 185 dX11_multiply_184 N0.1.2.2.2.2.2.2.2.2.1 (vp_in_nI (show c < 80 by omega) (by decide)) rfl ?_
  rw [nI_clamp (Nat.lt_trans (show c < 80 by omega) (by decide))]
  refine zi_lmul 186 dX11_multiply_185 rfl ?_
  refine zi_ladd 187 dX11_multiply_186 rfl ?_
  refine zi_aload_n 188 dX11_multiply_187 rfl rfl ?_
  refine zi_getfield 191 9 dX11_multiply_188 zcl_X11 tw_872 rfl rfl N0.1.1 rfl rfl ?_
  refine zi_iload_n 192 dX11_multiply_191 rfl rfl ?_
  refine zi_iconst (v := 3) 193 dX11_multiply_192 (by decide) rfl ?_
  refine zi_iadd 194 dX11_multiply_193 rfl ?_
  rw [show (nI b : Int32) + 3 = nI (b + 3) from nI_ad b 3]
  refine zi_laload 195 dX11_multiply_194 N0.1.2.2.2.2.2.2.2.2.1 (vp_in_nI (show (b + 3) < 80 by omega) (by decide)) rfl ?_
  rw [nI_clamp (Nat.lt_trans (show (b + 3) < 80 by omega) (by decide))]
  refine zi_aload_n 196 dX11_multiply_195 rfl rfl ?_
  refine zi_getfield 199 9 dX11_multiply_196 zcl_X11 tw_872 rfl rfl N0.1.1 rfl rfl ?_
  refine zi_iload_n 200 dX11_multiply_199 rfl rfl ?_
  refine zi_iconst (v := 1) 201 dX11_multiply_200 (by decide) rfl ?_
  refine zi_iadd 202 dX11_multiply_201 rfl ?_
  rw [show (nI c : Int32) + 1 = nI (c + 1) from nI_ad c 1]
  refine zi_laload 203 dX11_multiply_202 N0.1.2.2.2.2.2.2.2.2.1 (vp_in_nI (show (c + 1) < 80 by omega) (by decide)) rfl ?_
  rw [nI_clamp (Nat.lt_trans (show (c + 1) < 80 by omega) (by decide))]
  refine zi_lmul 204 dX11_multiply_203 rfl ?_
  refine zi_ladd 205 dX11_multiply_204 rfl ?_
  refine zi_lstore (lv' := [(8, _), (6, _), (4, _), (0, _), (1, _), (2, _), (3, _)]) 207 dX11_multiply_205 rfl rfl rfl ?_
  refine zi_aload_n 208 dX11_multiply_207 rfl rfl ?_
  refine zi_getfield 211 9 dX11_multiply_208 zcl_X11 tw_872 rfl rfl N0.1.1 rfl rfl ?_
  refine zi_iload_n 212 dX11_multiply_211 rfl rfl ?_
  refine zi_laload 213 dX11_multiply_212 N0.1.2.2.2.2.2.2.2.2.1 (vp_in_nI (show b < 80 by omega) (by decide)) rfl ?_
  rw [nI_clamp (Nat.lt_trans (show b < 80 by omega) (by decide))]
  refine zi_aload_n 214 dX11_multiply_213 rfl rfl ?_
  refine zi_getfield 217 9 dX11_multiply_214 zcl_X11 tw_872 rfl rfl N0.1.1 rfl rfl ?_
  refine zi_iload_n 218 dX11_multiply_217 rfl rfl ?_
  refine zi_iconst (v := 3) 219 dX11_multiply_218 (by decide) rfl ?_
  refine zi_iadd 220 dX11_multiply_219 rfl ?_
  rw [show (nI c : Int32) + 3 = nI (c + 3) from nI_ad c 3]
  refine zi_laload 221 dX11_multiply_220 N0.1.2.2.2.2.2.2.2.2.1 (vp_in_nI (show (c + 3) < 80 by omega) (by decide)) rfl ?_
  rw [nI_clamp (Nat.lt_trans (show (c + 3) < 80 by omega) (by decide))]
  refine zi_lmul 222 dX11_multiply_221 rfl ?_
  refine zi_aload_n 223 dX11_multiply_222 rfl rfl ?_
  refine zi_getfield 226 9 dX11_multiply_223 zcl_X11 tw_872 rfl rfl N0.1.1 rfl rfl ?_
  refine zi_iload_n 227 dX11_multiply_226 rfl rfl ?_
  refine zi_iconst (v := 1) 228 dX11_multiply_227 (by decide) rfl ?_
  refine zi_iadd 229 dX11_multiply_228 rfl ?_
  rw [show (nI b : Int32) + 1 = nI (b + 1) from nI_ad b 1]
  refine zi_laload 230 dX11_multiply_229 N0.1.2.2.2.2.2.2.2.2.1 (vp_in_nI (show (b + 1) < 80 by omega) (by decide)) rfl ?_
  rw [nI_clamp (Nat.lt_trans (show (b + 1) < 80 by omega) (by decide))]
  refine zi_aload_n 231 dX11_multiply_230 rfl rfl ?_
  refine zi_getfield 234 9 dX11_multiply_231 zcl_X11 tw_872 rfl rfl N0.1.1 rfl rfl ?_
  refine zi_iload_n 235 dX11_multiply_234 rfl rfl ?_
  refine zi_iconst (v := 2) 236 dX11_multiply_235 (by decide) rfl ?_
  refine zi_iadd 237 dX11_multiply_236 rfl ?_
  rw [show (nI c : Int32) + 2 = nI (c + 2) from nI_ad c 2]
  refine zi_laload 238 dX11_multiply_237 N0.1.2.2.2.2.2.2.2.2.1 (vp_in_nI (show (c + 2) < 80 by omega) (by decide)) rfl ?_
  rw [nI_clamp (Nat.lt_trans (show (c + 2) < 80 by omega) (by decide))]
  refine zi_lmul 239 dX11_multiply_238 rfl ?_
  refine zi_ladd 240 dX11_multiply_239 rfl ?_
  refine zi_aload_n 241 dX11_multiply_240 rfl rfl ?_
  refine zi_getfield 244 9 dX11_multiply_241 zcl_X11 tw_872 rfl rfl N0.1.1 rfl rfl ?_
  refine zi_iload_n 245 dX11_multiply_244 rfl rfl ?_
  refine zi_iconst (v := 2) 246 dX11_multiply_245 (by decide) rfl ?_
  refine zi_iadd 247 dX11_multiply_246 rfl ?_
  rw [show (nI b : Int32) + 2 = nI (b + 2) from nI_ad b 2]
  refine zi_laload 248 dX11_multiply_247 N0.1.2.2.2.2.2.2.2.2.1 (vp_in_nI (show (b + 2) < 80 by omega) (by decide)) rfl ?_
  rw [nI_clamp (Nat.lt_trans (show (b + 2) < 80 by omega) (by decide))]
  refine zi_aload_n 249 dX11_multiply_248 rfl rfl ?_
  refine zi_getfield 252 9 dX11_multiply_249 zcl_X11 tw_872 rfl rfl N0.1.1 rfl rfl ?_
  refine zi_iload_n 253 dX11_multiply_252 rfl rfl ?_
  refine zi_iconst (v := 1) 254 dX11_multiply_253 (by decide) rfl ?_
  refine zi_iadd 255 dX11_multiply_254 rfl ?_
  rw [show (nI c : Int32) + 1 = nI (c + 1) from nI_ad c 1]
  refine zi_laload 256 dX11_multiply_255 N0.1.2.2.2.2.2.2.2.2.1 (vp_in_nI (show (c + 1) < 80 by omega) (by decide)) rfl ?_
  rw [nI_clamp (Nat.lt_trans (show (c + 1) < 80 by omega) (by decide))]
  refine zi_lmul 257 dX11_multiply_256 rfl ?_
  refine zi_lsub 258 dX11_multiply_257 rfl ?_
  refine zi_aload_n 259 dX11_multiply_258 rfl rfl ?_
  refine zi_getfield 262 9 dX11_multiply_259 zcl_X11 tw_872 rfl rfl N0.1.1 rfl rfl ?_
  refine zi_iload_n 263 dX11_multiply_262 rfl rfl ?_
  refine zi_iconst (v := 3) 264 dX11_multiply_263 (by decide) rfl ?_
  refine zi_iadd 265 dX11_multiply_264 rfl ?_
  rw [show (nI b : Int32) + 3 = nI (b + 3) from nI_ad b 3]
  refine zi_laload 266 dX11_multiply_265 N0.1.2.2.2.2.2.2.2.2.1 (vp_in_nI (show (b + 3) < 80 by omega) (by decide)) rfl ?_
  rw [nI_clamp (Nat.lt_trans (show (b + 3) < 80 by omega) (by decide))]
  refine zi_aload_n 267 dX11_multiply_266 rfl rfl ?_
  refine zi_getfield 270 9 dX11_multiply_267 zcl_X11 tw_872 rfl rfl N0.1.1 rfl rfl ?_
  refine zi_iload_n 271 dX11_multiply_270 rfl rfl ?_
  refine zi_laload 272 dX11_multiply_271 N0.1.2.2.2.2.2.2.2.2.1 (vp_in_nI (show c < 80 by omega) (by decide)) rfl ?_
  rw [nI_clamp (Nat.lt_trans (show c < 80 by omega) (by decide))]
  refine zi_lmul 273 dX11_multiply_272 rfl ?_
  refine zi_ladd 274 dX11_multiply_273 rfl ?_
  refine zi_lstore (lv' := [(10, _), (8, _), (6, _), (4, _), (0, _), (1, _), (2, _), (3, _)]) 276 dX11_multiply_274 rfl rfl rfl ?_
  refine zi_aload_n 277 dX11_multiply_276 rfl rfl ?_
  refine zi_iload_n 278 dX11_multiply_277 rfl rfl ?_
  refine zi_lload 280 dX11_multiply_278 rfl rfl ?_
  refine zi_ldc2 283 dX11_multiply_280 tw_909 rfl ?_
  refine zi_ldiv 284 dX11_multiply_283 (by decide) rfl ?_
  refine zi_lload 286 dX11_multiply_284 rfl rfl ?_
  refine zi_ldc2 289 dX11_multiply_286 tw_909 rfl ?_
  refine zi_ldiv 290 dX11_multiply_289 (by decide) rfl ?_
  refine zi_lload 292 dX11_multiply_290 rfl rfl ?_
  refine zi_ldc2 295 dX11_multiply_292 tw_909 rfl ?_
  refine zi_ldiv 296 dX11_multiply_295 (by decide) rfl ?_
  refine zi_lload 298 dX11_multiply_296 rfl rfl ?_
  refine zi_ldc2 301 dX11_multiply_298 tw_909 rfl ?_
  refine zi_ldiv 302 dX11_multiply_301 (by decide) rfl ?_
  refine zc_virtual (n' := (0, 0)) (md' := mX11_put) 305 dX11_multiply_302 tw_944 zv_X11_put zcl_X11 (s_X11_put B h D hD _ N0.1 a (by omega) (_, _, _, _)) N0.1.1 rfl rfl rfl rfl rfl rfl rfl rfl (zk_v fun h1 n1 => ?_)
  have N1 := rN_t N0 n1
  exact zr_void hZ dX11_multiply_305 rfl ⟨rfl, N1⟩

set_option maxHeartbeats 4000000 in
set_option maxRecDepth 100000 in
theorem s_X11_turnBack (B : zBB) (h : zHp) (D : Nat → Nat) (hD : zInj D) (m : mS) (M : rM B D m h) (a b : Nat) (ha : a ≤ 76) (hb : b ≤ 76) : zSpec mX11_turnBack B (1, 0, 0) [.ref (D 0), .int (nI a), .int (nI b)] h (zPv (fun h' => rN B D (uR m (p4 (wR m) a (zBk (ro (wR m) b)))) h h')) := by
  refine zSpec.of (by decide) (Nat.le_of_ble_eq_true rfl) (fun X hZ => ?_)
  show zG X mX11_turnBack B (1, 0, 0) (0, 0) 0 [(0, .ref (D 0)), (1, .int (nI a)), (2, .int (nI b))] [] h
  have N0 := rN_r M
  refine zi_aload_n 1 dX11_turnBack_0 rfl rfl ?_
  refine zi_iload_n 2 dX11_turnBack_1 rfl rfl ?_
  refine zi_aload_n 3 dX11_turnBack_2 rfl rfl ?_
  refine zi_getfield 6 9 dX11_turnBack_3 zcl_X11 tw_872 rfl rfl N0.1.1 rfl rfl ?_
  refine zi_iload_n 7 dX11_turnBack_6 rfl rfl ?_
  refine zi_laload 8 dX11_turnBack_7 N0.1.2.2.2.2.2.2.2.2.1 (vp_in_nI (show b < 80 by omega) (by decide)) rfl ?_
  rw [nI_clamp (Nat.lt_trans (show b < 80 by omega) (by decide))]
  refine zi_aload_n 9 dX11_turnBack_8 rfl rfl ?_
  refine zi_getfield 12 9 dX11_turnBack_9 zcl_X11 tw_872 rfl rfl N0.1.1 rfl rfl ?_
  refine zi_iload_n 13 dX11_turnBack_12 rfl rfl ?_
  refine zi_iconst (v := 1) 14 dX11_turnBack_13 (by decide) rfl ?_
  refine zi_iadd 15 dX11_turnBack_14 rfl ?_
  rw [show (nI b : Int32) + 1 = nI (b + 1) from nI_ad b 1]
  refine zi_laload 16 dX11_turnBack_15 N0.1.2.2.2.2.2.2.2.2.1 (vp_in_nI (show (b + 1) < 80 by omega) (by decide)) rfl ?_
  rw [nI_clamp (Nat.lt_trans (show (b + 1) < 80 by omega) (by decide))]
  refine zi_lneg 17 dX11_turnBack_16 rfl ?_
  refine zi_aload_n 18 dX11_turnBack_17 rfl rfl ?_
  refine zi_getfield 21 9 dX11_turnBack_18 zcl_X11 tw_872 rfl rfl N0.1.1 rfl rfl ?_
  refine zi_iload_n 22 dX11_turnBack_21 rfl rfl ?_
  refine zi_iconst (v := 2) 23 dX11_turnBack_22 (by decide) rfl ?_
  refine zi_iadd 24 dX11_turnBack_23 rfl ?_
  rw [show (nI b : Int32) + 2 = nI (b + 2) from nI_ad b 2]
  refine zi_laload 25 dX11_turnBack_24 N0.1.2.2.2.2.2.2.2.2.1 (vp_in_nI (show (b + 2) < 80 by omega) (by decide)) rfl ?_
  rw [nI_clamp (Nat.lt_trans (show (b + 2) < 80 by omega) (by decide))]
  refine zi_lneg 26 dX11_turnBack_25 rfl ?_
  refine zi_aload_n 27 dX11_turnBack_26 rfl rfl ?_
  refine zi_getfield 30 9 dX11_turnBack_27 zcl_X11 tw_872 rfl rfl N0.1.1 rfl rfl ?_
  refine zi_iload_n 31 dX11_turnBack_30 rfl rfl ?_
  refine zi_iconst (v := 3) 32 dX11_turnBack_31 (by decide) rfl ?_
  refine zi_iadd 33 dX11_turnBack_32 rfl ?_
  rw [show (nI b : Int32) + 3 = nI (b + 3) from nI_ad b 3]
  refine zi_laload 34 dX11_turnBack_33 N0.1.2.2.2.2.2.2.2.2.1 (vp_in_nI (show (b + 3) < 80 by omega) (by decide)) rfl ?_
  rw [nI_clamp (Nat.lt_trans (show (b + 3) < 80 by omega) (by decide))]
  refine zi_lneg 35 dX11_turnBack_34 rfl ?_
  refine zc_virtual (n' := (0, 0)) (md' := mX11_put) 38 dX11_turnBack_35 tw_944 zv_X11_put zcl_X11 (s_X11_put B h D hD _ N0.1 a (by omega) (_, _, _, _)) N0.1.1 rfl rfl rfl rfl rfl rfl rfl rfl (zk_v fun h1 n1 => ?_)
  have N1 := rN_t N0 n1
  exact zr_void hZ dX11_turnBack_38 rfl ⟨rfl, N1⟩

theorem cp_e (f : Nat → Int64) {a b : Nat} (h : a + 4 ≤ b ∨ b + 4 ≤ a) : p4 f a (ro f b) = vp_updL (vp_updL (vp_updL (vp_updL f a (f b)) (a + 1) (vp_updL f a (f b) (b + 1))) (a + 2) (vp_updL (vp_updL f a (f b)) (a + 1) (vp_updL f a (f b) (b + 1)) (b + 2))) (a + 3) (vp_updL (vp_updL (vp_updL f a (f b)) (a + 1) (vp_updL f a (f b) (b + 1))) (a + 2) (vp_updL (vp_updL f a (f b)) (a + 1) (vp_updL f a (f b) (b + 1)) (b + 2)) (b + 3)) := by
  have e1 : ∀ x, vp_updL f a x (b + 1) = f (b + 1) := fun x => if_neg (by omega)
  have e2 : ∀ x y, vp_updL (vp_updL f a x) (a + 1) y (b + 2) = f (b + 2) := fun x y => (if_neg (by omega)).trans (if_neg (by omega))
  have e3 : ∀ x y z, vp_updL (vp_updL (vp_updL f a x) (a + 1) y) (a + 2) z (b + 3) = f (b + 3) := fun x y z => (if_neg (by omega)).trans ((if_neg (by omega)).trans (if_neg (by omega)))
  rw [e1, e2, e3]

set_option maxHeartbeats 4000000 in
set_option maxRecDepth 100000 in
theorem s_X11_copyOf (B : zBB) (h : zHp) (D : Nat → Nat) (hD : zInj D) (m : mS) (M : rM B D m h) (a b : Nat) (ha : a ≤ 76) (hb : b ≤ 76) (hd : a + 4 ≤ b ∨ b + 4 ≤ a) : zSpec mX11_copyOf B (0, 0, 0) [.ref (D 0), .int (nI a), .int (nI b)] h (zPv (fun h' => rN B D (uR m (p4 (wR m) a (ro (wR m) b))) h h')) := by
  refine zSpec.of (by decide) (Nat.le_of_ble_eq_true rfl) (fun X hZ => ?_)
  show zG X mX11_copyOf B (0, 0, 0) (0, 0) 0 [(0, .ref (D 0)), (1, .int (nI a)), (2, .int (nI b))] [] h
  have N0 := rN_r M
  refine zi_iconst (v := 0) 1 dX11_copyOf_0 (by decide) rfl ?_
  refine zi_istore_n (lv' := [(3, _), (0, _), (1, _), (2, _)]) 2 dX11_copyOf_1 rfl rfl rfl ?_
  refine zi_iload_n 3 dX11_copyOf_2 rfl rfl ?_
  refine zi_iconst (v := 4) 4 dX11_copyOf_3 (by decide) rfl ?_
  refine zi_icmp_ge 7 29 dX11_copyOf_4 (by decide) rfl (fun c_4 => absurd c_4 (by decide)) (fun c_4 => ?_)
  refine zi_aload_n 8 dX11_copyOf_7 rfl rfl ?_
  refine zi_getfield 11 9 dX11_copyOf_8 zcl_X11 tw_872 rfl rfl N0.1.1 rfl rfl ?_
  refine zi_iload_n 12 dX11_copyOf_11 rfl rfl ?_
  refine zi_iload_n 13 dX11_copyOf_12 rfl rfl ?_
  refine zi_iadd 14 dX11_copyOf_13 rfl ?_
  rw [show nI a + 0 = nI a from Int32.add_zero _]
  refine zi_aload_n 15 dX11_copyOf_14 rfl rfl ?_
  refine zi_getfield 18 9 dX11_copyOf_15 zcl_X11 tw_872 rfl rfl N0.1.1 rfl rfl ?_
  refine zi_iload_n 19 dX11_copyOf_18 rfl rfl ?_
  refine zi_iload_n 20 dX11_copyOf_19 rfl rfl ?_
  refine zi_iadd 21 dX11_copyOf_20 rfl ?_
  rw [show nI b + 0 = nI b from Int32.add_zero _]
  refine zi_laload 22 dX11_copyOf_21 N0.1.2.2.2.2.2.2.2.2.1 (vp_in_nI (show b < 80 by omega) (by decide)) rfl ?_
  rw [nI_clamp (Nat.lt_trans (show b < 80 by omega) (by decide))]
  refine zi_lastore 23 dX11_copyOf_22 N0.1.2.2.2.2.2.2.2.2.1 (vp_in_nI (show a < 80 by omega) (by decide)) rfl ?_
  rw [nI_clamp (Nat.lt_trans (show a < 80 by omega) (by decide))]
  refine zk_h (fun h1 k1 => ?_)
  have N1 := rN_R hD N0 k1
  refine zi_iinc (v := 1) (lv' := [(3, _), (0, _), (1, _), (2, _)]) 26 dX11_copyOf_23 rfl rfl rfl rfl rfl ?_
  refine zi_goto 2 dX11_copyOf_26 (by decide) ?_
  refine zi_iload_n 3 dX11_copyOf_2 rfl rfl ?_
  refine zi_iconst (v := 4) 4 dX11_copyOf_3 (by decide) rfl ?_
  refine zi_icmp_ge 7 29 dX11_copyOf_4 (by decide) rfl (fun c_4 => absurd c_4 (by decide)) (fun c_4 => ?_)
  refine zi_aload_n 8 dX11_copyOf_7 rfl rfl ?_
  refine zi_getfield 11 9 dX11_copyOf_8 zcl_X11 tw_872 rfl rfl N1.1.1 rfl rfl ?_
  refine zi_iload_n 12 dX11_copyOf_11 rfl rfl ?_
  refine zi_iload_n 13 dX11_copyOf_12 rfl rfl ?_
  refine zi_iadd 14 dX11_copyOf_13 rfl ?_
  rw [show (nI a : Int32) + 1 = nI (a + 1) from nI_ad a 1]
  refine zi_aload_n 15 dX11_copyOf_14 rfl rfl ?_
  refine zi_getfield 18 9 dX11_copyOf_15 zcl_X11 tw_872 rfl rfl N1.1.1 rfl rfl ?_
  refine zi_iload_n 19 dX11_copyOf_18 rfl rfl ?_
  refine zi_iload_n 20 dX11_copyOf_19 rfl rfl ?_
  refine zi_iadd 21 dX11_copyOf_20 rfl ?_
  rw [show (nI b : Int32) + 1 = nI (b + 1) from nI_ad b 1]
  refine zi_laload 22 dX11_copyOf_21 N1.1.2.2.2.2.2.2.2.2.1 (vp_in_nI (show (b + 1) < 80 by omega) (by decide)) rfl ?_
  rw [nI_clamp (Nat.lt_trans (show (b + 1) < 80 by omega) (by decide))]
  refine zi_lastore 23 dX11_copyOf_22 N1.1.2.2.2.2.2.2.2.2.1 (vp_in_nI (show (a + 1) < 80 by omega) (by decide)) rfl ?_
  rw [nI_clamp (Nat.lt_trans (show (a + 1) < 80 by omega) (by decide))]
  refine zk_h (fun h2 k2 => ?_)
  have N2 := rN_R hD N1 k2
  refine zi_iinc (v := 2) (lv' := [(3, _), (0, _), (1, _), (2, _)]) 26 dX11_copyOf_23 rfl rfl rfl rfl rfl ?_
  refine zi_goto 2 dX11_copyOf_26 (by decide) ?_
  refine zi_iload_n 3 dX11_copyOf_2 rfl rfl ?_
  refine zi_iconst (v := 4) 4 dX11_copyOf_3 (by decide) rfl ?_
  refine zi_icmp_ge 7 29 dX11_copyOf_4 (by decide) rfl (fun c_4 => absurd c_4 (by decide)) (fun c_4 => ?_)
  refine zi_aload_n 8 dX11_copyOf_7 rfl rfl ?_
  refine zi_getfield 11 9 dX11_copyOf_8 zcl_X11 tw_872 rfl rfl N2.1.1 rfl rfl ?_
  refine zi_iload_n 12 dX11_copyOf_11 rfl rfl ?_
  refine zi_iload_n 13 dX11_copyOf_12 rfl rfl ?_
  refine zi_iadd 14 dX11_copyOf_13 rfl ?_
  rw [show (nI a : Int32) + 2 = nI (a + 2) from nI_ad a 2]
  refine zi_aload_n 15 dX11_copyOf_14 rfl rfl ?_
  refine zi_getfield 18 9 dX11_copyOf_15 zcl_X11 tw_872 rfl rfl N2.1.1 rfl rfl ?_
  refine zi_iload_n 19 dX11_copyOf_18 rfl rfl ?_
  refine zi_iload_n 20 dX11_copyOf_19 rfl rfl ?_
  refine zi_iadd 21 dX11_copyOf_20 rfl ?_
  rw [show (nI b : Int32) + 2 = nI (b + 2) from nI_ad b 2]
  refine zi_laload 22 dX11_copyOf_21 N2.1.2.2.2.2.2.2.2.2.1 (vp_in_nI (show (b + 2) < 80 by omega) (by decide)) rfl ?_
  rw [nI_clamp (Nat.lt_trans (show (b + 2) < 80 by omega) (by decide))]
  refine zi_lastore 23 dX11_copyOf_22 N2.1.2.2.2.2.2.2.2.2.1 (vp_in_nI (show (a + 2) < 80 by omega) (by decide)) rfl ?_
  rw [nI_clamp (Nat.lt_trans (show (a + 2) < 80 by omega) (by decide))]
  refine zk_h (fun h3 k3 => ?_)
  have N3 := rN_R hD N2 k3
  refine zi_iinc (v := 3) (lv' := [(3, _), (0, _), (1, _), (2, _)]) 26 dX11_copyOf_23 rfl rfl rfl rfl rfl ?_
  refine zi_goto 2 dX11_copyOf_26 (by decide) ?_
  refine zi_iload_n 3 dX11_copyOf_2 rfl rfl ?_
  refine zi_iconst (v := 4) 4 dX11_copyOf_3 (by decide) rfl ?_
  refine zi_icmp_ge 7 29 dX11_copyOf_4 (by decide) rfl (fun c_4 => absurd c_4 (by decide)) (fun c_4 => ?_)
  refine zi_aload_n 8 dX11_copyOf_7 rfl rfl ?_
  refine zi_getfield 11 9 dX11_copyOf_8 zcl_X11 tw_872 rfl rfl N3.1.1 rfl rfl ?_
  refine zi_iload_n 12 dX11_copyOf_11 rfl rfl ?_
  refine zi_iload_n 13 dX11_copyOf_12 rfl rfl ?_
  refine zi_iadd 14 dX11_copyOf_13 rfl ?_
  rw [show (nI a : Int32) + 3 = nI (a + 3) from nI_ad a 3]
  refine zi_aload_n 15 dX11_copyOf_14 rfl rfl ?_
  refine zi_getfield 18 9 dX11_copyOf_15 zcl_X11 tw_872 rfl rfl N3.1.1 rfl rfl ?_
  refine zi_iload_n 19 dX11_copyOf_18 rfl rfl ?_
  refine zi_iload_n 20 dX11_copyOf_19 rfl rfl ?_
  refine zi_iadd 21 dX11_copyOf_20 rfl ?_
  rw [show (nI b : Int32) + 3 = nI (b + 3) from nI_ad b 3]
  refine zi_laload 22 dX11_copyOf_21 N3.1.2.2.2.2.2.2.2.2.1 (vp_in_nI (show (b + 3) < 80 by omega) (by decide)) rfl ?_
  rw [nI_clamp (Nat.lt_trans (show (b + 3) < 80 by omega) (by decide))]
  refine zi_lastore 23 dX11_copyOf_22 N3.1.2.2.2.2.2.2.2.2.1 (vp_in_nI (show (a + 3) < 80 by omega) (by decide)) rfl ?_
  rw [nI_clamp (Nat.lt_trans (show (a + 3) < 80 by omega) (by decide))]
  refine zk_h (fun h4 k4 => ?_)
  have N4 := rN_R hD N3 k4
  refine zi_iinc (v := 4) (lv' := [(3, _), (0, _), (1, _), (2, _)]) 26 dX11_copyOf_23 rfl rfl rfl rfl rfl ?_
  refine zi_goto 2 dX11_copyOf_26 (by decide) ?_
  refine zi_iload_n 3 dX11_copyOf_2 rfl rfl ?_
  refine zi_iconst (v := 4) 4 dX11_copyOf_3 (by decide) rfl ?_
  refine zi_icmp_ge 7 29 dX11_copyOf_4 (by decide) rfl (fun c_4 => ?_) (fun c_4 => absurd c_4 (by decide))
  exact zr_void hZ dX11_copyOf_29 rfl ⟨rfl, by rw [cp_e (wR m) hd]; exact N4⟩

set_option maxHeartbeats 4000000 in
set_option maxRecDepth 100000 in
theorem l_X11_divisor (B : zBB) (h : zHp) (X : zX) (a b : Int64) (hZ : zIsP X mX11_divisor B (0, 0) (zPf (some (.long (zGcd a b))) h)) : ∀ (n l g : Nat), l < n → Nat.gcd g l = Nat.gcd a.toInt.natAbs b.toInt.natAbs → g < 2 ^ 63 → l < 2 ^ 63 → zG X mX11_divisor B (0, 0, 0) (0, 0) 28 [(6, .long (lN l)), (4, .long (lN g)), (0, .long a), (2, .long b)] [] h := by
  intro n
  induction n with
  | zero => intro l g hn; omega
  | succ n ih =>
    intro l g hn hG hg hl
    refine zi_lload 30 dX11_divisor_28 rfl rfl ?_
    refine zi_lconst (v := 0) 31 dX11_divisor_30 (by decide) rfl ?_
    refine zj_le 35 53 dX11_divisor_31 rfl dX11_divisor_32 (by decide) rfl (fun zzL => ?_) (fun zzL => ?_)
    ·
      rw [show (0 : Int64) = lN 0 from rfl, pk_lLE hl (by decide)] at zzL
      have hl0 : l = 0 := by omega
      subst hl0
      refine zi_lload 55 dX11_divisor_53 rfl rfl ?_
      exact zr_long hZ dX11_divisor_55 rfl ⟨by rw [zGcd, ← hG, Nat.gcd_zero_right], rfl⟩
    ·
      rw [show (0 : Int64) = lN 0 from rfl, pk_lLE hl (by decide)] at zzL
      have hl0 : l ≠ 0 := by omega
      refine zi_lload 37 dX11_divisor_35 rfl rfl ?_
      refine zi_lload 39 dX11_divisor_37 rfl rfl ?_
      refine zi_lrem 40 dX11_divisor_39 (fun q => hl0 (by rw [show (0 : Int64) = lN 0 from rfl, pk_lEQ hl (by decide)] at q; exact q)) rfl ?_
      rw [pk_lRem hg (Nat.pos_of_ne_zero hl0) hl]
      refine zi_lstore (lv' := [(8, _), (6, _), (4, _), (0, _), (2, _)]) 42 dX11_divisor_40 rfl rfl rfl ?_
      refine zi_lload 44 dX11_divisor_42 rfl rfl ?_
      refine zi_lstore (lv' := [(4, _), (8, _), (6, _), (0, _), (2, _)]) 46 dX11_divisor_44 rfl rfl rfl ?_
      refine zi_lload 48 dX11_divisor_46 rfl rfl ?_
      refine zi_lstore (lv' := [(6, _), (4, _), (8, _), (0, _), (2, _)]) 50 dX11_divisor_48 rfl rfl rfl ?_
      refine zi_goto 28 dX11_divisor_50 (by decide) ?_
      have hlt := Nat.mod_lt g (Nat.pos_of_ne_zero hl0)
      refine zi_lvm ?_ (ih (g % l) l (by omega) ((zGcd_step hl0).trans hG) hl (by omega))
      intro q hq
      simp only [List.mem_cons, List.not_mem_nil, or_false] at hq ⊢
      rcases hq with rfl | rfl | rfl | rfl <;> simp

theorem dv_abs {a : Int64} (h : zNm1 a) : (0 ≤ a → (Value.long a) = .long (lN a.toInt.natAbs)) ∧ (¬ 0 ≤ a → (Value.long (-a)) = .long (lN a.toInt.natAbs)) := ⟨fun q => congrArg Value.long ((zAbs_of h).1 q), fun q => congrArg Value.long ((zAbs_of h).2 q)⟩
theorem zi_val {X : zX} {md : zMD} {B : zBB} {rm : Nat × Nat × Nat} {n : Nat × Nat} {pc : Nat} {lv : List (Nat × Value)} {st : List Value} {h : zHp} {v w : Value} (e : v = w) (k : zG X md B rm n pc lv (w :: st) h) : zG X md B rm n pc lv (v :: st) h := by
  rw [e]
  exact k

set_option maxHeartbeats 4000000 in
set_option maxRecDepth 100000 in
theorem s_X11_divisor (B : zBB) (h : zHp) (a b : Int64) (ha : zNm1 a) (hb : zNm1 b) : zSpec mX11_divisor B (0, 0, 0) [.long a, .long b] h (zPf (some (.long (zGcd a b))) h) := by
  refine zSpec.of (by decide) (Nat.le_of_ble_eq_true rfl) (fun X hZ => ?_)
  show zG X mX11_divisor B (0, 0, 0) (0, 0) 0 [(0, .long a), (2, .long b)] [] h
  have hA : a.toInt.natAbs < 2 ^ 63 := by have := a.toInt_lt; have := ha; omega
  have hB : b.toInt.natAbs < 2 ^ 63 := by have := b.toInt_lt; have := hb; omega
  refine zi_lload_n 1 dX11_divisor_0 rfl rfl ?_
  refine zi_lconst (v := 0) 2 dX11_divisor_1 (by decide) rfl ?_
  refine zj_ge 6 11 dX11_divisor_2 rfl dX11_divisor_3 (by decide) rfl (fun zzX => ?_) (fun zzX => ?_)
  ·
    refine zi_lload_n 12 dX11_divisor_11 rfl rfl ?_
    first | refine zi_val ((dv_abs ha).1 zzX) ?_ | refine zi_val ((dv_abs ha).2 zzX) ?_
    refine zi_lstore (lv' := [(4, _), (0, _), (2, _)]) 14 dX11_divisor_12 rfl rfl rfl ?_
    refine zi_lload_n 15 dX11_divisor_14 rfl rfl ?_
    refine zi_lconst (v := 0) 16 dX11_divisor_15 (by decide) rfl ?_
    refine zj_ge 20 25 dX11_divisor_16 rfl dX11_divisor_17 (by decide) rfl (fun zzY => ?_) (fun zzY => ?_)
    ·
      refine zi_lload_n 26 dX11_divisor_25 rfl rfl ?_
      first | refine zi_val ((dv_abs hb).1 zzY) ?_ | refine zi_val ((dv_abs hb).2 zzY) ?_
      refine zi_lstore (lv' := [(6, _), (4, _), (0, _), (2, _)]) 28 dX11_divisor_26 rfl rfl rfl ?_
      exact zi_lv [0, 1, 2, 3] rfl (l_X11_divisor B h X a b hZ (b.toInt.natAbs + 1) b.toInt.natAbs a.toInt.natAbs (Nat.lt_succ_self _) rfl hA hB)
    ·
      refine zi_lload_n 21 dX11_divisor_20 rfl rfl ?_
      refine zi_lneg 22 dX11_divisor_21 rfl ?_
      refine zi_goto 26 dX11_divisor_22 (by decide) ?_
      first | refine zi_val ((dv_abs hb).1 zzY) ?_ | refine zi_val ((dv_abs hb).2 zzY) ?_
      refine zi_lstore (lv' := [(6, _), (4, _), (0, _), (2, _)]) 28 dX11_divisor_26 rfl rfl rfl ?_
      exact zi_lv [0, 1, 2, 3] rfl (l_X11_divisor B h X a b hZ (b.toInt.natAbs + 1) b.toInt.natAbs a.toInt.natAbs (Nat.lt_succ_self _) rfl hA hB)
  ·
    refine zi_lload_n 7 dX11_divisor_6 rfl rfl ?_
    refine zi_lneg 8 dX11_divisor_7 rfl ?_
    refine zi_goto 12 dX11_divisor_8 (by decide) ?_
    first | refine zi_val ((dv_abs ha).1 zzX) ?_ | refine zi_val ((dv_abs ha).2 zzX) ?_
    refine zi_lstore (lv' := [(4, _), (0, _), (2, _)]) 14 dX11_divisor_12 rfl rfl rfl ?_
    refine zi_lload_n 15 dX11_divisor_14 rfl rfl ?_
    refine zi_lconst (v := 0) 16 dX11_divisor_15 (by decide) rfl ?_
    refine zj_ge 20 25 dX11_divisor_16 rfl dX11_divisor_17 (by decide) rfl (fun zzY => ?_) (fun zzY => ?_)
    ·
      refine zi_lload_n 26 dX11_divisor_25 rfl rfl ?_
      first | refine zi_val ((dv_abs hb).1 zzY) ?_ | refine zi_val ((dv_abs hb).2 zzY) ?_
      refine zi_lstore (lv' := [(6, _), (4, _), (0, _), (2, _)]) 28 dX11_divisor_26 rfl rfl rfl ?_
      exact zi_lv [0, 1, 2, 3] rfl (l_X11_divisor B h X a b hZ (b.toInt.natAbs + 1) b.toInt.natAbs a.toInt.natAbs (Nat.lt_succ_self _) rfl hA hB)
    ·
      refine zi_lload_n 21 dX11_divisor_20 rfl rfl ?_
      refine zi_lneg 22 dX11_divisor_21 rfl ?_
      refine zi_goto 26 dX11_divisor_22 (by decide) ?_
      first | refine zi_val ((dv_abs hb).1 zzY) ?_ | refine zi_val ((dv_abs hb).2 zzY) ?_
      refine zi_lstore (lv' := [(6, _), (4, _), (0, _), (2, _)]) 28 dX11_divisor_26 rfl rfl rfl ?_
      exact zi_lv [0, 1, 2, 3] rfl (l_X11_divisor B h X a b hZ (b.toInt.natAbs + 1) b.toInt.natAbs a.toInt.natAbs (Nat.lt_succ_self _) rfl hA hB)
