/-! the reference's line -/
theorem b10 {r : Int32} {p : Prop} (h : (p ∧ r = 0) ∨ (¬ p ∧ r = 1)) : (r = 0 ↔ p) := by
  rcases h with ⟨h1, rfl⟩ | ⟨h1, rfl⟩
  · exact ⟨fun _ => h1, fun _ => rfl⟩
  · exact ⟨fun h => absurd h (by decide), fun h => absurd h h1⟩
theorem dist_up {a b : Int32} (ha : a.toInt.natAbs ≤ 16384) (hb : b.toInt.natAbs ≤ 16384) (h : a.toInt ≤ b.toInt) : b - a = nI (lnN a.toInt b.toInt) := by
  have e := sub32 (x := b) (y := a) (by omega) (by omega)
  rw [nI_toNat (x := b - a) (by rw [e]; omega), e]
  congr 1
  unfold lnN; omega
theorem dist_dn {a b : Int32} (ha : a.toInt.natAbs ≤ 16384) (hb : b.toInt.natAbs ≤ 16384) (h : b.toInt < a.toInt) : a - b = nI (lnN a.toInt b.toInt) := by
  have e := sub32 (x := a) (y := b) (by omega) (by omega)
  rw [nI_toNat (x := a - b) (by rw [e]; omega), e]
  congr 1
  unfold lnN; omega
theorem lnN_b {a b : Int} (ha : a.natAbs ≤ 16384) (hb : b.natAbs ≤ 16384) : lnN a b ≤ 32768 := by unfold lnN; omega
theorem lnF_z {n k : Int} (hn : 0 ≤ n) : lnF n 0 k = 0 := by
  unfold lnF
  rcases Int.lt_or_eq_of_le hn with h | h
  · exact Int.ediv_eq_zero_of_lt (by omega) (by omega)
  · rw [← h]; simp
theorem lnF_0 {m k : Int} : lnF 0 m k = 0 := by
  unfold lnF; simp
theorem step_val {a0 a1 sg v : Int32} {V : Int} (h0 : a0.toInt.natAbs ≤ 16384) (h1 : a1.toInt.natAbs ≤ 16384) (hs : ((a1 - a0).toInt < 0 ∧ sg = -1) ∨ (0 < (a1 - a0).toInt ∧ sg = 1) ∨ ((a1 - a0).toInt = 0 ∧ sg = 0)) (hv : v.toInt = V) (hV : 0 ≤ V ∧ V ≤ 40000) (hz : a1.toInt = a0.toInt → V = 0) : (a0 + sg * v).toInt = if a1.toInt < a0.toInt then a0.toInt - V else a0.toInt + V := by
  have e := sub32 (x := a1) (y := a0) (by omega) (by omega)
  rw [e] at hs
  rcases hs with ⟨q, rfl⟩ | ⟨q, rfl⟩ | ⟨q, rfl⟩
  · have em : ((-1) * v).toInt = - V := by
      rw [Jvm.Kit.i32_mul (by rw [hv, show (-1 : Int32).toInt = -1 from by decide]; omega) (by rw [hv, show (-1 : Int32).toInt = -1 from by decide]; omega), hv, show (-1 : Int32).toInt = -1 from by decide]; omega
    rw [if_pos (by omega), Jvm.Kit.i32_add (by rw [em]; omega) (by rw [em]; omega), em]; omega
  · have em : (1 * v).toInt = V := by
      rw [Jvm.Kit.i32_mul (by rw [hv, show (1 : Int32).toInt = 1 from by decide]; omega) (by rw [hv, show (1 : Int32).toInt = 1 from by decide]; omega), hv, show (1 : Int32).toInt = 1 from by decide]; omega
    rw [if_neg (by omega), Jvm.Kit.i32_add (by rw [em]; omega) (by rw [em]; omega), em]
  · have em : (0 * v).toInt = 0 := by
      rw [Jvm.Kit.i32_mul (by rw [hv, Int32.toInt_zero]; omega) (by rw [hv, Int32.toInt_zero]; omega), Int32.toInt_zero]; omega
    rw [if_neg (by omega), Jvm.Kit.i32_add (by rw [em]; omega) (by rw [em]; omega), em, hz (by omega)]
theorem PQ_yes {w h : Nat} {X Y : Int32} {Q : Nat → Prop} (hin : inX w h X Y) (hQ : ∀ i, Q i ↔ X.toInt = ((i % w : Nat) : Int) ∧ Y.toInt = ((i / w : Nat) : Int)) : Q (lin w X Y) ∧ ∀ i, Q i → i = lin w X Y := by
  have hm := lin_mod hin
  have g := hin
  unfold inX at g
  constructor
  · rw [hQ, hm.1, hm.2]; omega
  · intro i hi
    rw [hQ] at hi
    have hr := row_of w i
    unfold lin
    rw [show X.toInt.toNat = i % w by rw [hi.1]; exact Int.toNat_natCast _, show Y.toInt.toNat = i / w by rw [hi.2]; exact Int.toNat_natCast _]
    exact hr.symm
theorem PQ_no {w h : Nat} {X Y : Int32} {Q : Nat → Prop} (hin : ¬ inX w h X Y) (hQ : ∀ i, Q i ↔ X.toInt = ((i % w : Nat) : Int) ∧ Y.toInt = ((i / w : Nat) : Int)) : ∀ i, i < w * h → ¬ Q i := by
  intro i hi q
  rw [hQ] at q
  have hb := row_bd hi
  apply hin
  unfold inX
  rw [q.1, q.2]
  generalize i % w = a at *
  generalize i / w = d at *
  omega
/-- the steps of a wide line and of a tall one -/
def SW (w : Nat) (x0 y0 x1 y1 : Int32) (k i : Nat) : Prop := lnX x0.toInt x1.toInt k = ((i % w : Nat) : Int) ∧ lnY x0.toInt x1.toInt y0.toInt y1.toInt k = ((i / w : Nat) : Int)
def ST (w : Nat) (x0 y0 x1 y1 : Int32) (k i : Nat) : Prop := lnY y0.toInt y1.toInt x0.toInt x1.toInt k = ((i % w : Nat) : Int) ∧ lnX y0.toInt y1.toInt k = ((i / w : Nat) : Int)
theorem SW_fin {w : Nat} {x0 y0 x1 y1 : Int32} (i : Nat) : QW w x0 y0 x1 y1 i ↔ ∃ j, j < lnN x0.toInt x1.toInt + 1 ∧ SW w x0 y0 x1 y1 j i := by
  constructor
  · rintro ⟨k, h1, h2, h3⟩; exact ⟨k, by omega, h2, h3⟩
  · rintro ⟨k, h1, h2, h3⟩; exact ⟨k, by omega, h2, h3⟩
theorem ST_fin {w : Nat} {x0 y0 x1 y1 : Int32} (i : Nat) : QT w x0 y0 x1 y1 i ↔ ∃ j, j < lnN y0.toInt y1.toInt + 1 ∧ ST w x0 y0 x1 y1 j i := by
  constructor
  · rintro ⟨k, h1, h2, h3⟩; exact ⟨k, by omega, h3, h2⟩
  · rintro ⟨k, h1, h2, h3⟩; exact ⟨k, by omega, h3, h2⟩
def CW (a0 a1 b0 b1 : Int) (w h : Nat) (k : Nat) : Prop := (0 ≤ lnX a0 a1 k ∧ lnX a0 a1 k < w) ∧ (0 ≤ lnY a0 a1 b0 b1 k ∧ lnY a0 a1 b0 b1 k < h)
theorem HIT_CW (a0 a1 b0 b1 : Int) (h w : Nat) : cnt (HIT a0 a1 b0 b1 h) w = cnt (CW a0 a1 b0 b1 w h) (lnN a0 a1 + 1) := HIT_cnt a0 a1 b0 b1 h w
