/-! the words for the state: places of a picture of w columns and h rows -/
def inX (w h : Nat) (x y : Int32) : Prop := (0 ≤ x.toInt ∧ x.toInt < w) ∧ (0 ≤ y.toInt ∧ y.toInt < h)
def lin (w : Nat) (x y : Int32) : Nat := y.toInt.toNat * w + x.toInt.toNat
theorem nI_toNat {x : Int32} (h : 0 ≤ x.toInt) : x = nI x.toInt.toNat := by
  obtain ⟨j, hj, rfl⟩ := nI_of (x := x) (by rw [Int32.lt_iff_toInt_lt, Int32.toInt_zero]; omega)
  rw [nI_toInt hj, Int.toNat_natCast]
theorem row_lt {w h x y : Nat} (hx : x < w) (hy : y < h) : y * w + x < w * h := by
  have h1 : (y + 1) * w ≤ h * w := Nat.mul_le_mul_right w hy
  rw [Nat.add_mul, Nat.one_mul] at h1
  rw [Nat.mul_comm w h]; omega
theorem row_mod {w x : Nat} (y : Nat) (hx : x < w) : (y * w + x) % w = x := by
  rw [Nat.add_comm, Nat.add_mul_mod_self_right, Nat.mod_eq_of_lt hx]
theorem row_div {w x : Nat} (y : Nat) (hx : x < w) : (y * w + x) / w = y := by
  rw [Nat.add_comm, Nat.add_mul_div_right _ _ (by omega : 0 < w), Nat.div_eq_of_lt hx, Nat.zero_add]
theorem row_of (w i : Nat) : i / w * w + i % w = i := by
  rw [Nat.mul_comm]; exact Nat.div_add_mod i w
theorem row_bd {w h i : Nat} (hi : i < w * h) : i % w < w ∧ i / w < h := by
  have hw : 0 < w := by
    rcases Nat.eq_zero_or_pos w with h0 | h0
    · subst h0; simp at hi
    · exact h0
  exact ⟨Nat.mod_lt _ hw, Nat.div_lt_of_lt_mul hi⟩
theorem wh_le {w h : Nat} (hw : w ≤ 24) (hh : h ≤ 24) : w * h ≤ 576 := Nat.mul_le_mul hw hh
theorem lin_lt {w h : Nat} {x y : Int32} (h0 : inX w h x y) : lin w x y < w * h := by
  obtain ⟨⟨h1, h2⟩, h3, h4⟩ := h0
  exact row_lt (by omega) (by omega)
theorem lin_ix {w h : Nat} {x y : Int32} (h0 : inX w h x y) : y * nI w + x = nI (lin w x y) := by
  obtain ⟨⟨h1, h2⟩, h3, h4⟩ := h0
  have e1 := nI_toNat h1
  have e2 := nI_toNat h3
  generalize hb : y.toInt.toNat = b at e2
  generalize ha : x.toInt.toNat = a at e1
  unfold lin
  rw [hb, ha, e1, e2, pk_mul, nI_add]
theorem lin_mod {w h : Nat} {x y : Int32} (h0 : inX w h x y) : lin w x y % w = x.toInt.toNat ∧ lin w x y / w = y.toInt.toNat := by
  obtain ⟨⟨h1, h2⟩, h3, h4⟩ := h0
  exact ⟨row_mod _ (by omega), row_div _ (by omega)⟩
theorem inX_nI {w h x y : Nat} (hw : w ≤ 24) (hh : h ≤ 24) (hx : x < w) (hy : y < h) : inX w h (nI x) (nI y) := by
  unfold inX
  rw [nI_toInt (by omega), nI_toInt (by omega)]
  omega
theorem lin_nI {w x y : Nat} (hx : x < 2 ^ 31) (hy : y < 2 ^ 31) : lin w (nI x) (nI y) = y * w + x := by
  unfold lin
  rw [nI_toInt hx, nI_toInt hy, Int.toNat_natCast, Int.toNat_natCast]
theorem nI_m1 {n : Nat} (h : n < 2 ^ 31) : ¬ nI n = -1 := by
  intro q
  have a := nI_toInt h
  rw [q] at a
  have b : (-1 : Int32).toInt = -1 := by decide
  omega
/-- 0 and 1 by a test -/
theorem b01 {r : Int32} {p : Prop} (h : (p ∧ r = 1) ∨ (¬ p ∧ r = 0)) : (r = 0 ↔ ¬ p) := by
  rcases h with ⟨h1, rfl⟩ | ⟨h1, rfl⟩
  · exact ⟨fun h => absurd h (by decide), fun h => absurd h1 h⟩
  · exact ⟨fun _ => h1, fun _ => rfl⟩
theorem nI_subm {w : Nat} (h1 : 1 ≤ w) (h2 : w ≤ 24) : (nI w - 1).toInt = (w : Int) - 1 := by
  have e : nI w - 1 = nI (w - 1) := by
    have := nI_pred (w - 1)
    rw [show w - 1 + 1 = w by omega] at this
    exact this
  rw [e, nI_toInt (by omega)]; omega
