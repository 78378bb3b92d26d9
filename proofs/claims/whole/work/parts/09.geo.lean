/-! numbers: no wrap-around where the bounds are known -/
theorem mulb {a b : Int} {A B : Nat} (ha : a.natAbs ≤ A) (hb : b.natAbs ≤ B) : (a * b).natAbs ≤ A * B := by
  rw [Int.natAbs_mul]; exact Nat.mul_le_mul ha hb
/-- E of the document -/
def Ed (ax ay bx bY px py : Int) : Int := (bx - ax) * (py - ay) - (bY - ay) * (px - ax)
theorem Ed_sum (ax ay bx bY cx cy px py : Int) : Ed bx bY cx cy px py + Ed cx cy ax ay px py + Ed ax ay bx bY px py = Ed ax ay bx bY cx cy := by
  unfold Ed; grind
theorem Ed_swap (ax ay bx bY cx cy : Int) : Ed ax ay cx cy bx bY = - Ed ax ay bx bY cx cy := by
  unfold Ed; grind
theorem Ed_b {ax ay bx bY px py : Int} (h1 : ax.natAbs ≤ 16384) (h2 : ay.natAbs ≤ 16384) (h3 : bx.natAbs ≤ 16384) (h4 : bY.natAbs ≤ 16384) (h5 : px.natAbs ≤ 33000) (h6 : py.natAbs ≤ 33000) : (Ed ax ay bx bY px py).natAbs ≤ 3300000000 := by
  have a1 : ((bx - ax) * (py - ay)).natAbs ≤ 32768 * 49384 := mulb (by omega) (by omega)
  have a2 : ((bY - ay) * (px - ax)).natAbs ≤ 32768 * 49384 := mulb (by omega) (by omega)
  unfold Ed; omega
/-- the weighted depth lies between 0 and the greatest one -/
theorem dep_b {w0 w1 w2 z0 z1 z2 ar : Int} (h0 : 0 ≤ w0) (h1 : 0 ≤ w1) (h2 : 0 ≤ w2) (hs : w0 + w1 + w2 = ar) (ha : 0 < ar) (g0 : 0 ≤ z0 ∧ z0 ≤ 32768) (g1 : 0 ≤ z1 ∧ z1 ≤ 32768) (g2 : 0 ≤ z2 ∧ z2 ≤ 32768) : 0 ≤ w0 * z0 + w1 * z1 + w2 * z2 ∧ w0 * z0 + w1 * z1 + w2 * z2 ≤ 32768 * ar ∧ 0 ≤ (w0 * z0 + w1 * z1 + w2 * z2) / ar ∧ (w0 * z0 + w1 * z1 + w2 * z2) / ar ≤ 32768 := by
  have p0 : 0 ≤ w0 * z0 := Int.mul_nonneg h0 g0.1
  have p1 : 0 ≤ w1 * z1 := Int.mul_nonneg h1 g1.1
  have p2 : 0 ≤ w2 * z2 := Int.mul_nonneg h2 g2.1
  have q0 : w0 * z0 ≤ w0 * 32768 := Int.mul_le_mul_of_nonneg_left g0.2 h0
  have q1 : w1 * z1 ≤ w1 * 32768 := Int.mul_le_mul_of_nonneg_left g1.2 h1
  have q2 : w2 * z2 ≤ w2 * 32768 := Int.mul_le_mul_of_nonneg_left g2.2 h2
  have r1 : w0 * z0 + w1 * z1 + w2 * z2 ≤ 32768 * ar := by omega
  have r0 : 0 ≤ w0 * z0 + w1 * z1 + w2 * z2 := by omega
  refine ⟨r0, r1, Int.ediv_nonneg r0 (by omega), ?_⟩
  exact Int.ediv_le_of_le_mul ha r1
