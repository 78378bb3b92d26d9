/-! the triangle's words -/
def vb (vx vy : Nat → Int32) : Prop := ∀ k, k < 3 → (vx k).toInt.natAbs ≤ 16384 ∧ (vy k).toInt.natAbs ≤ 16384
def zb (vz : Nat → Int32) : Prop := ∀ k, k < 3 → 0 ≤ (vz k).toInt ∧ (vz k).toInt ≤ 32768
def TL (vx vy : Nat → Int32) (i j : Nat) : Prop := (vy i = vy j ∧ vx i < vx j) ∨ vy j < vy i
/-- E of the edge from vertex i to vertex j at a place -/
def EP (vx vy : Nat → Int32) (i j : Nat) (px py : Int) : Int := Ed (vx i).toInt (vy i).toInt (vx j).toInt (vy j).toInt px py
/-- at the middle of the pixel in column c, row r -/
def EE (vx vy : Nat → Int32) (i j : Nat) (c r : Int) : Int := EP vx vy i j (16 * c + 8) (16 * r + 8)
def INS (vx vy : Nat → Int32) (i j : Nat) (c r : Int) : Prop := 0 < EE vx vy i j c r ∨ (EE vx vy i j c r = 0 ∧ TL vx vy i j)
def tT (vx vy : Nat → Int32) : Int := EP vx vy 0 1 (vx 2).toInt (vy 2).toInt
def COV (vx vy : Nat → Int32) (c r : Int) : Prop := (0 < tT vx vy ∧ INS vx vy 0 1 c r ∧ INS vx vy 1 2 c r ∧ INS vx vy 2 0 c r) ∨ (tT vx vy < 0 ∧ INS vx vy 0 2 c r ∧ INS vx vy 2 1 c r ∧ INS vx vy 1 0 c r)
def DSUM (vx vy vz : Nat → Int32) (c r : Int) : Int := EE vx vy 1 2 c r * (vz 0).toInt + EE vx vy 2 0 c r * (vz 1).toInt + EE vx vy 0 1 c r * (vz 2).toInt
def DPT (vx vy vz : Nat → Int32) (c r : Int) : Int := (DSUM vx vy vz c r).tdiv (tT vx vy)
def facOK (vx vy : Nat → Int32) (se th : Int32) (ar : Int64) : Prop := (tT vx vy < 0 ∧ se = 2 ∧ th = 1 ∧ ar.toInt = - tT vx vy) ∨ (0 ≤ tT vx vy ∧ se = 1 ∧ th = 2 ∧ ar.toInt = tT vx vy)
theorem EP_neg (vx vy : Nat → Int32) (i j : Nat) (px py : Int) : EP vx vy j i px py = - EP vx vy i j px py := by
  unfold EP Ed; grind
theorem EE_neg (vx vy : Nat → Int32) (i j : Nat) (c r : Int) : EE vx vy j i c r = - EE vx vy i j c r := EP_neg vx vy i j _ _
theorem EE_sum (vx vy : Nat → Int32) (c r : Int) : EE vx vy 1 2 c r + EE vx vy 2 0 c r + EE vx vy 0 1 c r = tT vx vy := Ed_sum _ _ _ _ _ _ _ _
theorem EP_b {vx vy : Nat → Int32} (hv : vb vx vy) {i j : Nat} (hi : i < 3) (hj : j < 3) {px py : Int} (h5 : px.natAbs ≤ 33000) (h6 : py.natAbs ≤ 33000) : (EP vx vy i j px py).natAbs ≤ 3300000000 := Ed_b (hv i hi).1 (hv i hi).2 (hv j hj).1 (hv j hj).2 h5 h6
theorem tT_b {vx vy : Nat → Int32} (hv : vb vx vy) : (tT vx vy).natAbs ≤ 3300000000 := EP_b hv (by omega) (by omega) (Nat.le_trans (hv 2 (by omega)).1 (by omega)) (Nat.le_trans (hv 2 (by omega)).2 (by omega))
theorem EE_b {vx vy : Nat → Int32} (hv : vb vx vy) {i j : Nat} (hi : i < 3) (hj : j < 3) {c r : Int} (h5 : c.natAbs ≤ 2000) (h6 : r.natAbs ≤ 2000) : (EE vx vy i j c r).natAbs ≤ 3300000000 := EP_b hv hi hj (by omega) (by omega)
theorem edge_val {ax ay bx bY px py : Int32} (h1 : ax.toInt.natAbs ≤ 16384) (h2 : ay.toInt.natAbs ≤ 16384) (h3 : bx.toInt.natAbs ≤ 16384) (h4 : bY.toInt.natAbs ≤ 16384) (h5 : px.toInt.natAbs ≤ 33000) (h6 : py.toInt.natAbs ≤ 33000) : ((bx - ax).toInt64 * (py - ay).toInt64 - (bY - ay).toInt64 * (px - ax).toInt64).toInt = Ed ax.toInt ay.toInt bx.toInt bY.toInt px.toInt py.toInt := by
  have e1 : (bx - ax).toInt64.toInt = bx.toInt - ax.toInt := by rw [Jvm.Kit.i64_of_i32, Jvm.Kit.i32_sub (by omega) (by omega)]
  have e2 : (py - ay).toInt64.toInt = py.toInt - ay.toInt := by rw [Jvm.Kit.i64_of_i32, Jvm.Kit.i32_sub (by omega) (by omega)]
  have e3 : (bY - ay).toInt64.toInt = bY.toInt - ay.toInt := by rw [Jvm.Kit.i64_of_i32, Jvm.Kit.i32_sub (by omega) (by omega)]
  have e4 : (px - ax).toInt64.toInt = px.toInt - ax.toInt := by rw [Jvm.Kit.i64_of_i32, Jvm.Kit.i32_sub (by omega) (by omega)]
  have a1 : ((bx.toInt - ax.toInt) * (py.toInt - ay.toInt)).natAbs ≤ 32768 * 49384 := mulb (by omega) (by omega)
  have a2 : ((bY.toInt - ay.toInt) * (px.toInt - ax.toInt)).natAbs ≤ 32768 * 49384 := mulb (by omega) (by omega)
  have m1 : ((bx - ax).toInt64 * (py - ay).toInt64).toInt = (bx.toInt - ax.toInt) * (py.toInt - ay.toInt) := by
    rw [Jvm.Kit.i64_mul (by rw [e1, e2]; omega) (by rw [e1, e2]; omega), e1, e2]
  have m2 : ((bY - ay).toInt64 * (px - ax).toInt64).toInt = (bY.toInt - ay.toInt) * (px.toInt - ax.toInt) := by
    rw [Jvm.Kit.i64_mul (by rw [e3, e4]; omega) (by rw [e3, e4]; omega), e3, e4]
  rw [Jvm.Kit.i64_sub (by rw [m1, m2]; omega) (by rw [m1, m2]; omega), m1, m2]
  rfl
theorem INS_nn {vx vy : Nat → Int32} {i j : Nat} {c r : Int} (h : INS vx vy i j c r) : 0 ≤ EE vx vy i j c r := by
  rcases h with h | h <;> omega
/-- where the triangle covers a pixel its depth there is 0 .. 32768 -/
theorem DPT_b {vx vy vz : Nat → Int32} (hz : zb vz) {c r : Int} (h : COV vx vy c r) : 0 ≤ DPT vx vy vz c r ∧ DPT vx vy vz c r ≤ 32768 := by
  have g0 := hz 0 (by omega)
  have g1 := hz 1 (by omega)
  have g2 := hz 2 (by omega)
  have hs := EE_sum vx vy c r
  rcases h with ⟨ht, a1, a2, a3⟩ | ⟨ht, a1, a2, a3⟩
  · have q := dep_b (INS_nn a2) (INS_nn a3) (INS_nn a1) hs ht g0 g1 g2
    unfold DPT DSUM
    rw [Int.tdiv_eq_ediv_of_nonneg q.1]
    exact ⟨q.2.2.1, q.2.2.2⟩
  · have b1 := INS_nn a1
    have b2 := INS_nn a2
    have b3 := INS_nn a3
    rw [EE_neg vx vy 2 0] at b1
    rw [EE_neg vx vy 1 2] at b2
    rw [EE_neg vx vy 0 1] at b3
    have q := dep_b b2 b1 b3 (ar := - tT vx vy) (by omega) (by omega) g0 g1 g2
    unfold DPT
    rw [← Int.neg_tdiv_neg]
    have e : - DSUM vx vy vz c r = -EE vx vy 1 2 c r * (vz 0).toInt + -EE vx vy 2 0 c r * (vz 1).toInt + -EE vx vy 0 1 c r * (vz 2).toInt := by
      unfold DSUM; grind
    rw [e, Int.tdiv_eq_ediv_of_nonneg q.1]
    exact ⟨q.2.2.1, q.2.2.2⟩
/-- three long products and their sum, divided, as an int -/
theorem dep_val {w0 w1 w2 ar : Int64} {z0 z1 z2 : Int32} {W0 W1 W2 AR : Int} (e0 : w0.toInt = W0) (e1 : w1.toInt = W1) (e2 : w2.toInt = W2) (ea : ar.toInt = AR) (b0 : W0.natAbs ≤ 3300000000) (b1 : W1.natAbs ≤ 3300000000) (b2 : W2.natAbs ≤ 3300000000) (g0 : 0 ≤ z0.toInt ∧ z0.toInt ≤ 32768) (g1 : 0 ≤ z1.toInt ∧ z1.toInt ≤ 32768) (g2 : 0 ≤ z2.toInt ∧ z2.toInt ≤ 32768) (hq : 0 ≤ (W0 * z0.toInt + W1 * z1.toInt + W2 * z2.toInt).tdiv AR ∧ (W0 * z0.toInt + W1 * z1.toInt + W2 * z2.toInt).tdiv AR ≤ 32768) : ((w0 * z0.toInt64 + w1 * z1.toInt64 + w2 * z2.toInt64) / ar).toInt32 = Int32.ofInt ((W0 * z0.toInt + W1 * z1.toInt + W2 * z2.toInt).tdiv AR) := by
  have c0 : (W0 * z0.toInt).natAbs ≤ 3300000000 * 32768 := mulb b0 (by omega)
  have c1 : (W1 * z1.toInt).natAbs ≤ 3300000000 * 32768 := mulb b1 (by omega)
  have c2 : (W2 * z2.toInt).natAbs ≤ 3300000000 * 32768 := mulb b2 (by omega)
  have f0 : (w0 * z0.toInt64).toInt = W0 * z0.toInt := by rw [Jvm.Kit.i64_mul (by rw [e0, Jvm.Kit.i64_of_i32]; omega) (by rw [e0, Jvm.Kit.i64_of_i32]; omega), e0, Jvm.Kit.i64_of_i32]
  have f1 : (w1 * z1.toInt64).toInt = W1 * z1.toInt := by rw [Jvm.Kit.i64_mul (by rw [e1, Jvm.Kit.i64_of_i32]; omega) (by rw [e1, Jvm.Kit.i64_of_i32]; omega), e1, Jvm.Kit.i64_of_i32]
  have f2 : (w2 * z2.toInt64).toInt = W2 * z2.toInt := by rw [Jvm.Kit.i64_mul (by rw [e2, Jvm.Kit.i64_of_i32]; omega) (by rw [e2, Jvm.Kit.i64_of_i32]; omega), e2, Jvm.Kit.i64_of_i32]
  have s1 : (w0 * z0.toInt64 + w1 * z1.toInt64).toInt = W0 * z0.toInt + W1 * z1.toInt := by rw [Jvm.Kit.i64_add (by rw [f0, f1]; omega) (by rw [f0, f1]; omega), f0, f1]
  have s2 : (w0 * z0.toInt64 + w1 * z1.toInt64 + w2 * z2.toInt64).toInt = W0 * z0.toInt + W1 * z1.toInt + W2 * z2.toInt := by rw [Jvm.Kit.i64_add (by rw [s1, f2]; omega) (by rw [s1, f2]; omega), s1, f2]
  have d1 : ((w0 * z0.toInt64 + w1 * z1.toInt64 + w2 * z2.toInt64) / ar).toInt = (W0 * z0.toInt + W1 * z1.toInt + W2 * z2.toInt).tdiv AR := by
    rw [Jvm.Kit.i64_div (by rw [s2]; omega), s2, ea]
  apply Int32.toInt_inj.mp
  rw [Jvm.Kit.i32_of_i64 (by rw [d1]; omega) (by rw [d1]; omega), d1, Int32.toInt_ofInt_of_le (by omega) (by omega)]
