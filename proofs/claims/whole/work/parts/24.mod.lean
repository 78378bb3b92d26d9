/-! the reference: rows of 24 places; its picture as linear places -/
def ab (w : Nat) (f : Nat → Int32) : Nat → Int32 := fun i => f (24 * (i / w) + i % w)
theorem ab_at {w x y : Nat} {f : Nat → Int32} (hx : x < w) : ab w f (y * w + x) = f (24 * y + x) := by
  unfold ab
  rw [row_mod y hx, row_div y hx]
theorem ab_upd {w x y : Nat} {f : Nat → Int32} {v : Int32} (hw : w ≤ 24) (hx : x < w) : ab w (upd f (24 * y + x) v) = upd (ab w f) (y * w + x) v := by
  funext i
  have hm : i % w < w := Nat.mod_lt _ (by omega)
  have hr := row_of w i
  by_cases he : i = y * w + x
  · subst he
    rw [pk_us, ab_at hx, pk_us]
  · rw [pk_un he]
    have : ¬ 24 * (i / w) + i % w = 24 * y + x := by
      intro q
      have h1 : i / w = y := by omega
      have h2 : i % w = x := by omega
      rw [h1, h2] at hr
      exact he hr.symm
    exact pk_un this
theorem ix24 (y x : Nat) : 24 * nI y + nI x = nI (24 * y + x) := by
  rw [show (24 : Int32) = nI 24 from rfl, pk_mul, nI_add]
theorem ix24X {w h : Nat} {x y : Int32} (h0 : inX w h x y) : 24 * y + x = nI (24 * y.toInt.toNat + x.toInt.toNat) := by
  obtain ⟨⟨h1, h2⟩, h3, h4⟩ := h0
  have e1 := nI_toNat h1
  have e2 := nI_toNat h3
  generalize hb : y.toInt.toNat = b at e2
  generalize ha : x.toInt.toNat = a at e1
  rw [e1, e2, ix24]
theorem ab_lin {w h : Nat} {x y : Int32} {f : Nat → Int32} (h0 : inX w h x y) : ab w f (lin w x y) = f (24 * y.toInt.toNat + x.toInt.toNat) := by
  unfold lin
  exact ab_at (by have := h0.1; omega)
theorem edge_vall {ax ay bx bY : Int32} {px py : Int64} (h1 : ax.toInt.natAbs ≤ 16384) (h2 : ay.toInt.natAbs ≤ 16384) (h3 : bx.toInt.natAbs ≤ 16384) (h4 : bY.toInt.natAbs ≤ 16384) (h5 : px.toInt.natAbs ≤ 33000) (h6 : py.toInt.natAbs ≤ 33000) : ((bx - ax).toInt64 * (py - ay.toInt64) - (bY - ay).toInt64 * (px - ax.toInt64)).toInt = Ed ax.toInt ay.toInt bx.toInt bY.toInt px.toInt py.toInt := by
  have e1 : (bx - ax).toInt64.toInt = bx.toInt - ax.toInt := by rw [Jvm.Kit.i64_of_i32, Jvm.Kit.i32_sub (by omega) (by omega)]
  have e2 : (py - ay.toInt64).toInt = py.toInt - ay.toInt := by rw [Jvm.Kit.i64_sub (by rw [Jvm.Kit.i64_of_i32]; omega) (by rw [Jvm.Kit.i64_of_i32]; omega), Jvm.Kit.i64_of_i32]
  have e3 : (bY - ay).toInt64.toInt = bY.toInt - ay.toInt := by rw [Jvm.Kit.i64_of_i32, Jvm.Kit.i32_sub (by omega) (by omega)]
  have e4 : (px - ax.toInt64).toInt = px.toInt - ax.toInt := by rw [Jvm.Kit.i64_sub (by rw [Jvm.Kit.i64_of_i32]; omega) (by rw [Jvm.Kit.i64_of_i32]; omega), Jvm.Kit.i64_of_i32]
  have a1 : ((bx.toInt - ax.toInt) * (py.toInt - ay.toInt)).natAbs ≤ 32768 * 49384 := mulb (by omega) (by omega)
  have a2 : ((bY.toInt - ay.toInt) * (px.toInt - ax.toInt)).natAbs ≤ 32768 * 49384 := mulb (by omega) (by omega)
  have m1 : ((bx - ax).toInt64 * (py - ay.toInt64)).toInt = (bx.toInt - ax.toInt) * (py.toInt - ay.toInt) := by
    rw [Jvm.Kit.i64_mul (by rw [e1, e2]; omega) (by rw [e1, e2]; omega), e1, e2]
  have m2 : ((bY - ay).toInt64 * (px - ax.toInt64)).toInt = (bY.toInt - ay.toInt) * (px.toInt - ax.toInt) := by
    rw [Jvm.Kit.i64_mul (by rw [e3, e4]; omega) (by rw [e3, e4]; omega), e3, e4]
  rw [Jvm.Kit.i64_sub (by rw [m1, m2]; omega) (by rw [m1, m2]; omega), m1, m2]
  rfl
theorem mid64 {c : Int32} (hc : c.toInt.natAbs ≤ 2000) : (16 * c.toInt64 + 8).toInt = 16 * c.toInt + 8 := by
  have h1 : (16 * c.toInt64).toInt = 16 * c.toInt := by
    rw [Jvm.Kit.i64_mul (by rw [Jvm.Kit.i64_of_i32, show (16 : Int64).toInt = 16 from by decide]; omega) (by rw [Jvm.Kit.i64_of_i32, show (16 : Int64).toInt = 16 from by decide]; omega), Jvm.Kit.i64_of_i32]; rfl
  rw [Jvm.Kit.i64_add (by rw [h1, show (8 : Int64).toInt = 8 from by decide]; omega) (by rw [h1, show (8 : Int64).toInt = 8 from by decide]; omega), h1]; rfl
/-! the line by its steps -/
def PIn (n : Nat) (Q : Nat → Nat → Prop) (col : Nat → Int32) (c : Int32) (k : Nat) (g : Nat → Int32) : Prop := ∀ i, i < n → ((∃ j, j < k ∧ Q j i) → g i = c) ∧ (¬ (∃ j, j < k ∧ Q j i) → g i = col i)
theorem PIn_0 {n : Nat} {Q : Nat → Nat → Prop} {col : Nat → Int32} {c : Int32} : PIn n Q col c 0 col := fun i _ => ⟨fun ⟨j, hj, _⟩ => absurd hj (Nat.not_lt_zero j), fun _ => rfl⟩
theorem PIn_no {n k : Nat} {Q : Nat → Nat → Prop} {col g : Nat → Int32} {c : Int32} (h : PIn n Q col c k g) (hq : ∀ i, i < n → ¬ Q k i) : PIn n Q col c (k + 1) g := by
  intro i hi
  refine ⟨fun ⟨j, h1, h2⟩ => (h i hi).1 ⟨j, ?_, h2⟩, fun q => (h i hi).2 (fun ⟨j, h1, h2⟩ => q ⟨j, by omega, h2⟩)⟩
  rcases Nat.lt_or_ge j k with h3 | h3
  · exact h3
  · have : j = k := by omega
    subst this
    exact absurd h2 (hq i hi)
theorem PIn_yes {n k a : Nat} {Q : Nat → Nat → Prop} {col g : Nat → Int32} {c : Int32} (h : PIn n Q col c k g) (ha : Q k a) (hq : ∀ i, i < n → Q k i → i = a) : PIn n Q col c (k + 1) (upd g a c) := by
  intro i hi
  by_cases he : i = a
  · subst he
    exact ⟨fun _ => pk_us, fun q => absurd ⟨k, Nat.lt_succ_self k, ha⟩ q⟩
  · rw [pk_un he]
    refine ⟨fun ⟨j, h1, h2⟩ => (h i hi).1 ⟨j, ?_, h2⟩, fun q => (h i hi).2 (fun ⟨j, h1, h2⟩ => q ⟨j, by omega, h2⟩)⟩
    rcases Nat.lt_or_ge j k with h3 | h3
    · exact h3
    · have : j = k := by omega
      subst this
      exact absurd (hq i hi h2) he
theorem PIn_fin {n k : Nat} {Q : Nat → Nat → Prop} {R : Nat → Prop} {col g : Nat → Int32} {c : Int32} (h : PIn n Q col c k g) (hR : ∀ i, i < n → (R i ↔ ∃ j, j < k ∧ Q j i)) : LFin n R col c g := fun i hi => ⟨fun q => (h i hi).1 ((hR i hi).mp q), fun q => (h i hi).2 (fun q2 => q ((hR i hi).mpr q2))⟩
/-- as many columns (or rows) are hit as steps lie in the picture -/
theorem HIT_cnt (a0 a1 b0 b1 : Int) (h w : Nat) : cnt (HIT a0 a1 b0 b1 h) w = cnt (fun k => (0 ≤ lnX a0 a1 k ∧ lnX a0 a1 k < w) ∧ (0 ≤ lnY a0 a1 b0 b1 k ∧ lnY a0 a1 b0 b1 k < h)) (lnN a0 a1 + 1) := by
  have key : ∀ N : Nat, cnt (fun a => ∃ k : Nat, k < N ∧ lnX a0 a1 k = (a : Int) ∧ 0 ≤ lnY a0 a1 b0 b1 k ∧ lnY a0 a1 b0 b1 k < h) w = cnt (fun k => (0 ≤ lnX a0 a1 k ∧ lnX a0 a1 k < w) ∧ (0 ≤ lnY a0 a1 b0 b1 k ∧ lnY a0 a1 b0 b1 k < h)) N := by
    intro N
    induction N with
    | zero => exact cnt_none (fun i _ ⟨k, hk, _⟩ => absurd hk (Nat.not_lt_zero k))
    | succ N ih =>
      by_cases hq : (0 ≤ lnX a0 a1 N ∧ lnX a0 a1 N < w) ∧ (0 ≤ lnY a0 a1 b0 b1 N ∧ lnY a0 a1 b0 b1 N < h)
      · rw [cnt_yes (p := fun k => (0 ≤ lnX a0 a1 k ∧ lnX a0 a1 k < w) ∧ (0 ≤ lnY a0 a1 b0 b1 k ∧ lnY a0 a1 b0 b1 k < h)) hq, ← ih]
        obtain ⟨a, ha⟩ : ∃ a : Nat, lnX a0 a1 N = (a : Int) := ⟨(lnX a0 a1 N).toNat, by omega⟩
        refine cnt_add' (k := a) ?_ ?_ (by omega)
        · rintro ⟨k, h1, h2, -⟩
          have := lnX_inj (h2.trans ha.symm)
          omega
        · intro i
          constructor
          · rintro ⟨k, h1, h2, h3⟩
            by_cases hk : k = N
            · subst hk
              exact Or.inr (by omega)
            · exact Or.inl ⟨k, by omega, h2, h3⟩
          · rintro (⟨k, h1, h2, h3⟩ | rfl)
            · exact ⟨k, by omega, h2, h3⟩
            · exact ⟨N, by omega, ha, hq.2⟩
      · rw [cnt_no (p := fun k => (0 ≤ lnX a0 a1 k ∧ lnX a0 a1 k < w) ∧ (0 ≤ lnY a0 a1 b0 b1 k ∧ lnY a0 a1 b0 b1 k < h)) hq, ← ih]
        refine cnt_congr (fun i hi => ?_)
        constructor
        · rintro ⟨k, h1, h2, h3⟩
          by_cases hk : k = N
          · subst hk
            exact absurd ⟨by omega, h3⟩ hq
          · exact ⟨k, by omega, h2, h3⟩
        · rintro ⟨k, h1, h2, h3⟩
          exact ⟨k, by omega, h2, h3⟩
  rw [← key]
  refine cnt_congr (fun i hi => ?_)
  constructor
  · rintro ⟨b, hb, k, h1, h2, h3⟩
    exact ⟨k, by omega, h2, by omega, by omega⟩
  · rintro ⟨k, h1, h2, h3, h4⟩
    exact ⟨(lnY a0 a1 b0 b1 k).toNat, by omega, k, by omega, h2, by omega⟩
