/-! what reachPiece brings together -/
/-- the new ones -/
def NEW (n : Nat) (rea0 rea : Nat → Int32) (i : Nat) : Prop := i < n ∧ ¬ rea i = 0 ∧ rea0 i = 0
/-- the rows of the search: the queue's first k places are the new ones, all of them in the piece -/
def BF (w n : Nat) (col rea0 : Nat → Int32) (c : Int32) (i0 : Nat) (rea que : Nat → Int32) (k : Nat) : Prop :=
  (∀ j, j < k → ∃ i, que j = nI i ∧ NEW n rea0 rea i) ∧ (∀ i, NEW n rea0 rea i → ∃ j, j < k ∧ que j = nI i) ∧ k = cnt (NEW n rea0 rea) n ∧ (∀ i, NEW n rea0 rea i → hang w n (fun a => col a = c) i0 i) ∧ (∀ i, ¬ rea0 i = 0 → ¬ rea i = 0)
theorem BF_k {w n : Nat} {col rea0 rea que : Nat → Int32} {c : Int32} {i0 k : Nat} (h : BF w n col rea0 c i0 rea que k) : k ≤ n := by
  rw [h.2.2.1]; exact cnt_le _ _
theorem BF_0 {w n : Nat} {col rea0 que : Nat → Int32} {c : Int32} {i0 : Nat} : BF w n col rea0 c i0 rea0 que 0 :=
  ⟨fun j h => absurd h (Nat.not_lt_zero j), fun i h => absurd h.2.2 h.2.1, (cnt_none (fun i _ h => h.2.1 h.2.2)).symm, fun i h => absurd h.2.2 h.2.1, fun i h => h⟩
/-- what reach does at (x, y) -/
def RCH (w h : Nat) (col : Nat → Int32) (c x y : Int32) (rea que : Nat → Int32) (k : Nat) (u : (Nat → Int32) × (Nat → Int32) × Nat) : Prop :=
  ((inX w h x y ∧ rea (lin w x y) = 0 ∧ col (lin w x y) = c ∧ k < w * h) ∧ u = (upd rea (lin w x y) 1, upd que k (nI (lin w x y)), k + 1)) ∨ (¬ (inX w h x y ∧ rea (lin w x y) = 0 ∧ col (lin w x y) = c ∧ k < w * h) ∧ u = (rea, que, k))
theorem BF_reach {w h : Nat} {col rea0 rea que rea' que' : Nat → Int32} {c x y : Int32} {i0 k k' : Nat} (hB : BF w (w * h) col rea0 c i0 rea que k) (hr : RCH w h col c x y rea que k (rea', que', k')) (hh : inX w h x y → col (lin w x y) = c → hang w (w * h) (fun a => col a = c) i0 (lin w x y)) :
    BF w (w * h) col rea0 c i0 rea' que' k' ∧ (inX w h x y → col (lin w x y) = c → ¬ rea' (lin w x y) = 0) ∧ (∀ i, ¬ rea i = 0 → ¬ rea' i = 0) ∧ k ≤ k' ∧ (∀ j, j < k → que' j = que j) := by
  obtain ⟨h1, h2, h3, h4, h5⟩ := hB
  rcases hr with ⟨⟨g1, g2, g3, g4⟩, g5⟩ | ⟨g1, g5⟩
  · injection g5 with e1 e2
    injection e2 with e2 e3
    subst e1; subst e2; subst e3
    have hlt := lin_lt g1
    have hang1 := hh g1 g3
    generalize lin w x y = b at *
    have hr0 : rea0 b = 0 := Classical.byContradiction (fun q => h5 b q g2)
    have hnew : ∀ i, NEW (w * h) rea0 (upd rea b 1) i ↔ (NEW (w * h) rea0 rea i ∨ i = b) := by
      intro i
      by_cases hi : i = b
      · subst hi
        exact ⟨fun _ => Or.inr rfl, fun _ => ⟨hlt, by rw [pk_us]; decide, hr0⟩⟩
      · unfold NEW
        rw [pk_un hi]
        exact ⟨fun q => Or.inl q, fun q => q.elim id (fun q => absurd q hi)⟩
    have hb0 : ¬ NEW (w * h) rea0 rea b := fun q => q.2.1 g2
    refine ⟨⟨?_, ?_, ?_, ?_, ?_⟩, ?_, ?_, by omega, ?_⟩
    · intro j hj
      by_cases hjk : j = k
      · subst hjk
        exact ⟨b, pk_us, (hnew b).mpr (Or.inr rfl)⟩
      · obtain ⟨i, q1, q2⟩ := h1 j (by omega)
        exact ⟨i, by rw [pk_un hjk]; exact q1, (hnew i).mpr (Or.inl q2)⟩
    · intro i hi
      rcases (hnew i).mp hi with q | q
      · obtain ⟨j, q1, q2⟩ := h2 i q
        exact ⟨j, by omega, by rw [pk_un (by omega)]; exact q2⟩
      · exact ⟨k, by omega, by rw [pk_us, q]⟩
    · rw [cnt_add' hb0 hnew hlt, ← h3]
    · intro i hi
      rcases (hnew i).mp hi with q | q
      · exact h4 i q
      · rw [q]; exact hang1
    · intro i hi
      by_cases hib : i = b
      · rw [hib, pk_us]; decide
      · rw [pk_un hib]; exact h5 i hi
    · intro _ _
      rw [pk_us]; decide
    · intro i hi
      by_cases hib : i = b
      · rw [hib, pk_us]; decide
      · rw [pk_un hib]; exact hi
    · intro j hj
      exact pk_un (by omega)
  · injection g5 with e1 e2
    injection e2 with e2 e3
    subst e1; subst e2; subst e3
    refine ⟨⟨h1, h2, h3, h4, h5⟩, ?_, fun i h => h, Nat.le_refl _, fun _ _ => rfl⟩
    intro q1 q2 q3
    have hk : k' < w * h := by
      rw [h3]
      exact cnt_lt (k := lin w x y) (fun q => q.2.1 q3) _ (lin_lt q1)
    exact g1 ⟨q1, q3, q2, hk⟩
/-- the four neighbours -/
theorem nb_sub {w a : Nat} (ha : a ≤ 24) : (nI a - 1).toInt = (a : Int) - 1 := by
  rw [Jvm.Kit.i32_sub (by rw [nI_toInt (by omega), show (1 : Int32).toInt = 1 from by decide]; omega) (by rw [nI_toInt (by omega), show (1 : Int32).toInt = 1 from by decide]; omega), nI_toInt (by omega)]; rfl
theorem nb_add {a : Nat} (ha : a ≤ 24) : (nI a + 1).toInt = (a : Int) + 1 := by
  rw [nI_1, nI_toInt (by omega)]; omega
theorem nb_l {w h i : Nat} (hw : w ≤ 24) (hh : h ≤ 24) (hi : i < w * h) : (inX w h (nI (i % w) - 1) (nI (i / w)) → adj w i (lin w (nI (i % w) - 1) (nI (i / w)))) ∧ (∀ b, b + 1 = i → i % w ≠ 0 → inX w h (nI (i % w) - 1) (nI (i / w)) ∧ lin w (nI (i % w) - 1) (nI (i / w)) = b) := by
  have hb := row_bd hi
  have hr := row_of w i
  have e1 := nb_sub (w := w) (a := i % w) (by omega)
  have e2 : (nI (i / w)).toInt = ((i / w : Nat) : Int) := nI_toInt (by omega)
  unfold inX lin
  rw [e1, e2]
  generalize i % w = a at *
  generalize i / w = d at *
  generalize hdw : d * w = dw at *
  refine ⟨fun q => Or.inl ⟨?_, ?_⟩, fun b hb1 hb2 => ⟨⟨by omega, by omega⟩, ?_⟩⟩
  · rw [show ((d : Int)).toNat = d by omega, hdw]; omega
  · sorry
  · rw [show ((d : Int)).toNat = d by omega, hdw]; omega
