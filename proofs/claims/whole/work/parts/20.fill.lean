/-- the picture when the first t of the queue have their colour -/
def FILLI (n : Nat) (que col : Nat → Int32) (c : Int32) (t : Nat) (g : Nat → Int32) : Prop := ∀ i, i < n → ((∃ j, j < t ∧ que j = nI i) → g i = c) ∧ (¬ (∃ j, j < t ∧ que j = nI i) → g i = col i)
theorem FILL_0 {n : Nat} {que col : Nat → Int32} {c : Int32} : FILLI n que col c 0 col := fun i _ => ⟨fun ⟨j, hj, _⟩ => absurd hj (Nat.not_lt_zero j), fun _ => rfl⟩
theorem FILL_step {n t a : Nat} {que col g : Nat → Int32} {c : Int32} (h : FILLI n que col c t g) (hq : que t = nI a) (ha : a < 2 ^ 31 ∧ n < 2 ^ 31) : FILLI n que col c (t + 1) (upd g a c) := by
  intro i hi
  by_cases he : i = a
  · subst he
    exact ⟨fun _ => pk_us, fun q => absurd ⟨t, Nat.lt_succ_self t, hq⟩ q⟩
  · rw [pk_un he]
    refine ⟨fun ⟨j, h1, h2⟩ => (h i hi).1 ⟨j, ?_, h2⟩, fun q => (h i hi).2 (fun ⟨j, h1, h2⟩ => q ⟨j, by omega, h2⟩)⟩
    rcases Nat.lt_or_ge j t with h3 | h3
    · exact h3
    · have : j = t := by omega
      subst this
      rw [hq] at h2
      exact absurd ((nI_eq ha.1 (by omega)).mp h2).symm he
theorem FILL_fin {n k : Nat} {que col g : Nat → Int32} {c : Int32} {Q : Nat → Prop} (hn : n < 2 ^ 31) (h : FILLI n que col c k g) (h1 : ∀ j, j < k → ∃ i, i < n ∧ que j = nI i ∧ Q i) (h2 : ∀ i, Q i → ∃ j, j < k ∧ que j = nI i) : LFin n Q col c g := by
  intro i hi
  refine ⟨fun q => (h i hi).1 (h2 i q), fun q => (h i hi).2 (fun ⟨j, h3, h4⟩ => ?_)⟩
  obtain ⟨m, g1, g2, g3⟩ := h1 j h3
  rw [g2] at h4
  have : m = i := (nI_eq (by omega) (by omega)).mp h4
  subst this
  exact q g3
