/-! a vertex that may be set; what a triangle does to the picture -/
def VOK (k x y z : Int32) : Prop := (0 ≤ k.toInt ∧ k.toInt ≤ 2) ∧ (-16384 ≤ x.toInt ∧ x.toInt ≤ 16384) ∧ (-16384 ≤ y.toInt ∧ y.toInt ≤ 16384) ∧ (0 ≤ z.toInt ∧ z.toInt ≤ 32768)
theorem vb_upd {vx vy : Nat → Int32} (hv : vb vx vy) {i : Nat} {x y : Int32} (hx : -16384 ≤ x.toInt ∧ x.toInt ≤ 16384) (hy : -16384 ≤ y.toInt ∧ y.toInt ≤ 16384) : vb (upd vx i x) (upd vy i y) := by
  intro k hk
  unfold upd
  by_cases h : k = i
  · rw [if_pos h, if_pos h]; omega
  · rw [if_neg h, if_neg h]; exact hv k hk
theorem zb_upd {vz : Nat → Int32} (hz : zb vz) {i : Nat} {z : Int32} (h0 : 0 ≤ z.toInt ∧ z.toInt ≤ 32768) : zb (upd vz i z) := by
  intro k hk
  unfold upd
  by_cases h : k = i
  · rw [if_pos h]; exact h0
  · rw [if_neg h]; exact hz k hk
def NEAR (c r : Int32) : Prop := (-2000 ≤ c.toInt ∧ c.toInt ≤ 2000) ∧ (-2000 ≤ r.toInt ∧ r.toInt ≤ 2000)
theorem dpt_ne {vx vy vz : Nat → Int32} (hz : zb vz) {c r : Int} (h : COV vx vy c r) : ¬ Int32.ofInt (DPT vx vy vz c r) = -1 := by
  intro q
  have b := DPT_b hz h
  have e := congrArg Int32.toInt q
  rw [Int32.toInt_ofInt_of_le (by omega) (by omega), show (-1 : Int32).toInt = -1 from by decide] at e
  omega
/-- the pixels that a triangle changes -/
def TPi (w : Nat) (vx vy vz dep : Nat → Int32) (i : Nat) : Prop := COV vx vy (i % w : Nat) (i / w : Nat) ∧ DPT vx vy vz (i % w : Nat) (i / w : Nat) < (dep i).toInt
/-- the picture behind the first k of its pixels -/
def TIn (w n : Nat) (vx vy vz col dep : Nat → Int32) (c : Int32) (k : Nat) (col' dep' : Nat → Int32) : Prop := ∀ i, i < n → ((i < k ∧ TPi w vx vy vz dep i) → col' i = c ∧ dep' i = Int32.ofInt (DPT vx vy vz (i % w : Nat) (i / w : Nat))) ∧ (¬ (i < k ∧ TPi w vx vy vz dep i) → col' i = col i ∧ dep' i = dep i)
theorem TIn_0 {w n : Nat} {vx vy vz col dep : Nat → Int32} {c : Int32} : TIn w n vx vy vz col dep c 0 col dep := fun i _ => ⟨fun h => absurd h.1 (Nat.not_lt_zero i), fun _ => ⟨rfl, rfl⟩⟩
theorem TIn_no {w n k : Nat} {vx vy vz col dep col' dep' : Nat → Int32} {c : Int32} (h : TIn w n vx vy vz col dep c k col' dep') (hk : ¬ TPi w vx vy vz dep k) : TIn w n vx vy vz col dep c (k + 1) col' dep' := by
  intro i hi
  refine ⟨fun q => (h i hi).1 ⟨?_, q.2⟩, fun q => (h i hi).2 (fun q2 => q ⟨by omega, q2.2⟩)⟩
  rcases Nat.lt_or_ge i k with h1 | h1
  · exact h1
  · have : i = k := by omega
    subst this
    exact absurd q.2 hk
theorem TIn_yes {w n k : Nat} {vx vy vz col dep col' dep' : Nat → Int32} {c : Int32} (h : TIn w n vx vy vz col dep c k col' dep') (hk : TPi w vx vy vz dep k) : TIn w n vx vy vz col dep c (k + 1) (upd col' k c) (upd dep' k (Int32.ofInt (DPT vx vy vz (k % w : Nat) (k / w : Nat)))) := by
  intro i hi
  by_cases he : i = k
  · subst he
    exact ⟨fun _ => ⟨pk_us, pk_us⟩, fun q => absurd ⟨Nat.lt_succ_self i, hk⟩ q⟩
  · rw [pk_un he, pk_un he]
    exact ⟨fun q => (h i hi).1 ⟨by omega, q.2⟩, fun q => (h i hi).2 (fun q2 => q ⟨by omega, q2.2⟩)⟩
theorem TIn_dep {w n k : Nat} {vx vy vz col dep col' dep' : Nat → Int32} {c : Int32} (h : TIn w n vx vy vz col dep c k col' dep') (hk : k < n) : dep' k = dep k := ((h k hk).2 (fun q => Nat.lt_irrefl k q.1)).2
/-- at a pixel (x, y) -/
theorem TPi_at {w x y : Nat} {vx vy vz dep : Nat → Int32} (hx : x < w) : TPi w vx vy vz dep (y * w + x) ↔ COV vx vy (x : Int) (y : Int) ∧ DPT vx vy vz (x : Int) (y : Int) < (dep (y * w + x)).toInt := by
  unfold TPi
  rw [row_mod y hx, row_div y hx]
