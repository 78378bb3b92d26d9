/-! a line's pixels -/
def lnN (a0 a1 : Int) : Nat := (a1 - a0).natAbs
def lnX (a0 a1 : Int) (k : Nat) : Int := if a1 < a0 then a0 - k else a0 + k
def lnF (n m k : Int) : Int := (2 * k * m + n - 1) / (2 * n)
def lnY (a0 a1 b0 b1 : Int) (k : Nat) : Int := if b1 < b0 then b0 - lnF (lnN a0 a1) (lnN b0 b1) k else b0 + lnF (lnN a0 a1) (lnN b0 b1) k
/-- the line whose greater way goes from a0 to a1, whose lesser one from b0 to b1, has the pixel at a along the one and b along the other -/
def ONL (a0 a1 b0 b1 a b : Int) : Prop := ∃ k : Nat, k ≤ lnN a0 a1 ∧ lnX a0 a1 k = a ∧ lnY a0 a1 b0 b1 k = b
theorem lnX_inj {a0 a1 : Int} {k j : Nat} (h : lnX a0 a1 k = lnX a0 a1 j) : k = j := by
  unfold lnX at h
  split at h <;> omega
/-- what placeBeside answers at a -/
def PBp (a0 a1 b0 b1 a : Int) (r : Int32) : Prop := (∃ k : Nat, k ≤ lnN a0 a1 ∧ lnX a0 a1 k = a ∧ r.toInt = lnY a0 a1 b0 b1 k) ∨ ((∀ k : Nat, k ≤ lnN a0 a1 → lnX a0 a1 k ≠ a) ∧ r = -1)
theorem PBp_hit {a0 a1 b0 b1 a b : Int} {r : Int32} (hp : PBp a0 a1 b0 b1 a r) (h : ONL a0 a1 b0 b1 a b) : r.toInt = b := by
  obtain ⟨k, h1, h2, h3⟩ := h
  rcases hp with ⟨j, g1, g2, g3⟩ | ⟨g1, g2⟩
  · have : k = j := lnX_inj (h2.trans g2.symm)
    subst this
    rw [g3, h3]
  · exact absurd h2 (g1 k h1)
theorem PBp_on {a0 a1 b0 b1 a : Int} {r : Int32} (hp : PBp a0 a1 b0 b1 a r) (h : 0 ≤ r.toInt) : ONL a0 a1 b0 b1 a r.toInt := by
  rcases hp with ⟨j, g1, g2, g3⟩ | ⟨g1, g2⟩
  · exact ⟨j, g1, g2, g3.symm⟩
  · rw [g2, show (-1 : Int32).toInt = -1 from by decide] at h
    omega
theorem abs32 {x : Int32} (h : x.toInt.natAbs ≤ 1000000) : (if 0 ≤ x then x else 0 - x).toInt = (x.toInt.natAbs : Int) := by
  by_cases h0 : (0 : Int32) ≤ x
  · rw [if_pos h0]
    rw [Int32.le_iff_toInt_le, Int32.toInt_zero] at h0
    omega
  · rw [if_neg h0]
    rw [Int32.le_iff_toInt_le, Int32.toInt_zero] at h0
    rw [Jvm.Kit.i32_sub (by rw [Int32.toInt_zero]; omega) (by rw [Int32.toInt_zero]; omega), Int32.toInt_zero]
    omega
theorem sub32 {x y : Int32} (hx : x.toInt.natAbs ≤ 40000) (hy : y.toInt.natAbs ≤ 40000) : (x - y).toInt = x.toInt - y.toInt := Jvm.Kit.i32_sub (by omega) (by omega)
theorem lnF_b {n m k : Int} (hn : 0 < n) (hk : 0 ≤ k ∧ k ≤ n) (hm : 0 ≤ m ∧ m ≤ 32768) : 0 ≤ 2 * k * m + n - 1 ∧ 0 ≤ lnF n m k ∧ lnF n m k ≤ 32769 := by
  have h1 : 0 ≤ k * m := Int.mul_nonneg hk.1 hm.1
  have h2 : k * m ≤ n * 32768 := Int.mul_le_mul hk.2 hm.2 hm.1 (by omega)
  have e : 2 * k * m = 2 * (k * m) := Int.mul_assoc 2 k m
  unfold lnF
  rw [e]
  refine ⟨by omega, Int.ediv_nonneg (by omega) (by omega), ?_⟩
  apply Int.ediv_le_of_le_mul (by omega)
  omega
theorem far_val {n m k : Int64} {N M K : Int} (en : n.toInt = N) (em : m.toInt = M) (ek : k.toInt = K) (hn : 0 < N ∧ N ≤ 32768) (hk : 0 ≤ K ∧ K ≤ N) (hm : 0 ≤ M ∧ M ≤ 32768) : ((2 * k * m + n - 1) / (2 * n)).toInt32.toInt = lnF N M K := by
  have e2 : (2 : Int64).toInt = 2 := by decide
  have e1 : (1 : Int64).toInt = 1 := by decide
  have b := lnF_b hn.1 hk hm
  have h1 : 0 ≤ K * M := Int.mul_nonneg hk.1 hm.1
  have h2 : K * M ≤ N * 32768 := Int.mul_le_mul hk.2 hm.2 hm.1 (by omega)
  have a1 : (2 * k).toInt = 2 * K := by rw [Jvm.Kit.i64_mul (by rw [e2, ek]; omega) (by rw [e2, ek]; omega), e2, ek]
  have e3 : 2 * K * M = 2 * (K * M) := Int.mul_assoc 2 K M
  have a2 : (2 * k * m).toInt = 2 * K * M := by rw [Jvm.Kit.i64_mul (by rw [a1, em]; omega) (by rw [a1, em]; omega), a1, em]
  have a3 : (2 * k * m + n).toInt = 2 * K * M + N := by rw [Jvm.Kit.i64_add (by rw [a2, en]; omega) (by rw [a2, en]; omega), a2, en]
  have a4 : (2 * k * m + n - 1).toInt = 2 * K * M + N - 1 := by rw [Jvm.Kit.i64_sub (by rw [a3, e1]; omega) (by rw [a3, e1]; omega), a3, e1]
  have a5 : (2 * n).toInt = 2 * N := by rw [Jvm.Kit.i64_mul (by rw [e2, en]; omega) (by rw [e2, en]; omega), e2, en]
  have a6 : ((2 * k * m + n - 1) / (2 * n)).toInt = lnF N M K := by
    rw [lg_ldiv_nonneg (by rw [a4]; omega) (by rw [a5]; omega), a4, a5]; rfl
  rw [Jvm.Kit.i32_of_i64 (by rw [a6]; omega) (by rw [a6]; omega), a6]
/-- the picture where the columns (or rows) below x are done: key i is i's column (or row), Q i: i is on the line -/
def LIn (n : Nat) (key : Nat → Nat) (Q : Nat → Prop) (col : Nat → Int32) (c : Int32) (x : Nat) (g : Nat → Int32) : Prop := ∀ i, i < n → ((key i < x ∧ Q i) → g i = c) ∧ (¬ (key i < x ∧ Q i) → g i = col i)
theorem LIn_0 {n : Nat} {key : Nat → Nat} {Q : Nat → Prop} {col : Nat → Int32} {c : Int32} : LIn n key Q col c 0 col := fun i _ => ⟨fun h => absurd h.1 (Nat.not_lt_zero _), fun _ => rfl⟩
theorem LIn_no {n x : Nat} {key : Nat → Nat} {Q : Nat → Prop} {col g : Nat → Int32} {c : Int32} (h : LIn n key Q col c x g) (hq : ∀ i, i < n → key i = x → ¬ Q i) : LIn n key Q col c (x + 1) g := by
  intro i hi
  refine ⟨fun q => (h i hi).1 ⟨?_, q.2⟩, fun q => (h i hi).2 (fun q2 => q ⟨by omega, q2.2⟩)⟩
  rcases Nat.lt_or_ge (key i) x with h1 | h1
  · exact h1
  · exact absurd q.2 (hq i hi (by omega))
theorem LIn_yes {n x j : Nat} {key : Nat → Nat} {Q : Nat → Prop} {col g : Nat → Int32} {c : Int32} (h : LIn n key Q col c x g) (hj : key j = x) (hQ : Q j) (hq : ∀ i, i < n → key i = x → Q i → i = j) : LIn n key Q col c (x + 1) (upd g j c) := by
  intro i hi
  by_cases he : i = j
  · subst he
    exact ⟨fun _ => pk_us, fun q => absurd ⟨by omega, hQ⟩ q⟩
  · rw [pk_un he]
    refine ⟨fun q => (h i hi).1 ⟨?_, q.2⟩, fun q => (h i hi).2 (fun q2 => q ⟨by omega, q2.2⟩)⟩
    rcases Nat.lt_or_ge (key i) x with h1 | h1
    · exact h1
    · exact absurd (hq i hi (by omega) q.2) he
/-- all done -/
def LFin (n : Nat) (Q : Nat → Prop) (col : Nat → Int32) (c : Int32) (g : Nat → Int32) : Prop := ∀ i, i < n → (Q i → g i = c) ∧ (¬ Q i → g i = col i)
theorem LIn_fin {n x : Nat} {key : Nat → Nat} {Q : Nat → Prop} {col g : Nat → Int32} {c : Int32} (h : LIn n key Q col c x g) (hx : ∀ i, i < n → key i < x) : LFin n Q col c g := fun i hi => ⟨fun q => (h i hi).1 ⟨hx i hi, q⟩, fun q => (h i hi).2 (fun q2 => q q2.2)⟩
def LOK (x0 y0 x1 y1 : Int32) : Prop := (-16384 ≤ x0.toInt ∧ x0.toInt ≤ 16384) ∧ (-16384 ≤ y0.toInt ∧ y0.toInt ≤ 16384) ∧ (-16384 ≤ x1.toInt ∧ x1.toInt ≤ 16384) ∧ (-16384 ≤ y1.toInt ∧ y1.toInt ≤ 16384)
def WIDE (x0 y0 x1 y1 : Int32) : Prop := lnN y0.toInt y1.toInt ≤ lnN x0.toInt x1.toInt
/-- a wide line over linear places, and how many of its pixels lie in the picture, by columns; a tall one, by rows -/
def QW (w : Nat) (x0 y0 x1 y1 : Int32) (i : Nat) : Prop := ONL x0.toInt x1.toInt y0.toInt y1.toInt (i % w : Nat) (i / w : Nat)
def QT (w : Nat) (x0 y0 x1 y1 : Int32) (i : Nat) : Prop := ONL y0.toInt y1.toInt x0.toInt x1.toInt (i / w : Nat) (i % w : Nat)
def HIT (a0 a1 b0 b1 : Int) (h : Nat) (a : Nat) : Prop := ∃ b : Nat, b < h ∧ ONL a0 a1 b0 b1 a b
theorem LW_yes {w h x : Nat} {x0 y0 x1 y1 r : Int32} (hx : x < w) (hp : PBp x0.toInt x1.toInt y0.toInt y1.toInt x r) (hr : 0 ≤ r.toInt ∧ r.toInt < h) : HIT x0.toInt x1.toInt y0.toInt y1.toInt h x ∧ QW w x0 y0 x1 y1 (r.toInt.toNat * w + x) ∧ ∀ i, i % w = x → QW w x0 y0 x1 y1 i → i = r.toInt.toNat * w + x := by
  have h1 := PBp_on hp hr.1
  have e : ((r.toInt.toNat : Nat) : Int) = r.toInt := by omega
  refine ⟨⟨r.toInt.toNat, by omega, by rw [e]; exact h1⟩, ?_, ?_⟩
  · unfold QW
    rw [row_mod _ hx, row_div _ hx, e]
    exact h1
  · intro i hi hq
    unfold QW at hq
    rw [hi] at hq
    have h2 := PBp_hit hp hq
    have h3 := row_of w i
    have h4 : i / w = r.toInt.toNat := by omega
    rw [hi, h4] at h3
    exact h3.symm
theorem LW_no {w h x : Nat} {x0 y0 x1 y1 r : Int32} (hp : PBp x0.toInt x1.toInt y0.toInt y1.toInt x r) (hr : ¬ (0 ≤ r.toInt ∧ r.toInt < h)) : (¬ HIT x0.toInt x1.toInt y0.toInt y1.toInt h x) ∧ ∀ i, i < w * h → i % w = x → ¬ QW w x0 y0 x1 y1 i := by
  constructor
  · rintro ⟨b, hb, h1⟩
    have := PBp_hit hp h1
    omega
  · intro i hi hm hq
    unfold QW at hq
    rw [hm] at hq
    have h2 := PBp_hit hp hq
    have h3 := (row_bd hi).2
    generalize i / w = d at h2 h3
    omega
theorem LT_yes {w y : Nat} {x0 y0 x1 y1 r : Int32} (hp : PBp y0.toInt y1.toInt x0.toInt x1.toInt y r) (hr : 0 ≤ r.toInt ∧ r.toInt < w) : HIT y0.toInt y1.toInt x0.toInt x1.toInt w y ∧ QT w x0 y0 x1 y1 (y * w + r.toInt.toNat) ∧ ∀ i, i / w = y → QT w x0 y0 x1 y1 i → i = y * w + r.toInt.toNat := by
  have h1 := PBp_on hp hr.1
  have hx : r.toInt.toNat < w := by omega
  have e : ((r.toInt.toNat : Nat) : Int) = r.toInt := by omega
  refine ⟨⟨r.toInt.toNat, by omega, by rw [e]; exact h1⟩, ?_, ?_⟩
  · unfold QT
    rw [row_mod _ hx, row_div _ hx, e]
    exact h1
  · intro i hi hq
    unfold QT at hq
    rw [hi] at hq
    have h2 := PBp_hit hp hq
    have h3 := row_of w i
    have h4 : i % w = r.toInt.toNat := by omega
    rw [hi, h4] at h3
    exact h3.symm
theorem LT_no {w h y : Nat} {x0 y0 x1 y1 r : Int32} (hp : PBp y0.toInt y1.toInt x0.toInt x1.toInt y r) (hr : ¬ (0 ≤ r.toInt ∧ r.toInt < w)) : (¬ HIT y0.toInt y1.toInt x0.toInt x1.toInt w y) ∧ ∀ i, i < w * h → i / w = y → ¬ QT w x0 y0 x1 y1 i := by
  constructor
  · rintro ⟨b, hb, h1⟩
    have := PBp_hit hp h1
    omega
  · intro i hi hm hq
    unfold QT at hq
    rw [hm] at hq
    have h2 := PBp_hit hp hq
    have h3 := (row_bd hi).1
    generalize i % w = d at h2 h3
    omega
