/-! the reference's marks -/
def BFM (w n : Nat) (col rea0 : Nat → Int32) (c : Int32) (i0 : Nat) (rea : Nat → Int32) (k : Nat) : Prop := k = cnt (NEW n rea0 rea) n ∧ (∀ i, NEW n rea0 rea i → hang w n (fun a => col a = c) i0 i) ∧ (∀ i, ¬ rea0 i = 0 → ¬ rea i = 0) ∧ ¬ rea i0 = 0
def ADD (w n : Nat) (col : Nat → Int32) (c : Int32) (rea : Nat → Int32) (i : Nat) : Prop := rea i = 0 ∧ col i = c ∧ ∃ b, adj w i b ∧ b < n ∧ ¬ rea b = 0
theorem BFM_k {w n : Nat} {col rea0 rea : Nat → Int32} {c : Int32} {i0 k : Nat} (h : BFM w n col rea0 c i0 rea k) : k ≤ n := by
  rw [h.1]; exact cnt_le _ _
theorem NEW_upd {n b : Nat} {rea0 rea : Nat → Int32} (hb : b < n) (h0 : rea0 b = 0) (i : Nat) : NEW n rea0 (upd rea b 1) i ↔ (NEW n rea0 rea i ∨ i = b) := by
  by_cases hi : i = b
  · subst hi
    exact ⟨fun _ => Or.inr rfl, fun _ => ⟨hb, by rw [pk_us]; decide, h0⟩⟩
  · unfold NEW
    rw [pk_un hi]
    exact ⟨fun q => Or.inl q, fun q => q.elim id (fun q => absurd q hi)⟩
theorem BFM_0 {w n : Nat} {col rea0 : Nat → Int32} {c : Int32} {i0 : Nat} (h0 : i0 < n) (hr : rea0 i0 = 0) : BFM w n col rea0 c i0 (upd rea0 i0 1) 1 := by
  have hn : ∀ i, ¬ NEW n rea0 rea0 i := fun i q => q.2.1 q.2.2
  refine ⟨?_, ?_, ?_, by rw [pk_us]; decide⟩
  · rw [cnt_add' (hn i0) (NEW_upd h0 hr) h0, cnt_none (fun i _ => hn i)]
  · intro i hi
    rcases (NEW_upd h0 hr i).mp hi with q | q
    · exact absurd q (hn i)
    · rw [q]; exact hang_self
  · intro i hi
    by_cases hib : i = i0
    · rw [hib, pk_us]; decide
    · rw [pk_un hib]; exact hi
theorem BFM_add {w n : Nat} {col rea0 rea : Nat → Int32} {c : Int32} {i0 k i : Nat} (hO : OLD w n col rea0 c) (h : BFM w n col rea0 c i0 rea k) (hi : i < n) (ha : ADD w n col c rea i) : BFM w n col rea0 c i0 (upd rea i 1) (k + 1) := by
  obtain ⟨h1, h2, h3, h4⟩ := h
  obtain ⟨a1, a2, b, a3, a4, a5⟩ := ha
  have hr0 : rea0 i = 0 := Classical.byContradiction (fun q => h3 i q a1)
  have hb0 : ¬ NEW n rea0 rea i := fun q => q.2.1 a1
  have hg : hang w n (fun a => col a = c) i0 i := by
    by_cases q : rea0 b = 0
    · exact hang_step (h2 b ⟨a4, a5, q⟩) (adj_sym a3) hi a2
    · exact absurd hr0 (hO.2 b i ⟨a4, q⟩ (adj_sym a3) hi a2).2
  refine ⟨?_, ?_, ?_, ?_⟩
  · rw [cnt_add' hb0 (NEW_upd hi hr0) hi, ← h1]
  · intro j hj
    rcases (NEW_upd hi hr0 j).mp hj with q | q
    · exact h2 j q
    · rw [q]; exact hg
  · intro j hj
    by_cases hib : j = i
    · rw [hib, pk_us]; decide
    · rw [pk_un hib]; exact h3 j hj
  · by_cases hib : i0 = i
    · rw [hib, pk_us]; decide
    · rw [pk_un hib]; exact h4
/-- what mark leaves -/
def MPC (w n : Nat) (col rea0 : Nat → Int32) (c : Int32) (i0 : Nat) (rea : Nat → Int32) (k : Nat) : Prop := k = cnt (hang w n (fun a => col a = c) i0) n ∧ ∀ i, i < n → (¬ rea i = 0 ↔ (¬ rea0 i = 0 ∨ hang w n (fun a => col a = c) i0 i))
theorem BFM_end {w n : Nat} {col rea0 rea : Nat → Int32} {c : Int32} {i0 k : Nat} (h0 : i0 < n ∧ col i0 = c) (hr0 : rea0 i0 = 0) (hO : OLD w n col rea0 c) (h : BFM w n col rea0 c i0 rea k) (hN : ∀ i, i < n → ¬ ADD w n col c rea i) : MPC w n col rea0 c i0 rea k := by
  obtain ⟨b1, b2, b3, b4⟩ := h
  have hS : ∀ b, NEW n rea0 rea b ↔ hang w n (fun a => col a = c) i0 b := by
    refine hang_is ⟨h0.1, b4, hr0⟩ ?_ b2
    intro a b ha hab hbn hcb
    refine ⟨hbn, fun q => hN b hbn ⟨q, hcb, a, adj_sym hab, ha.1, ha.2.1⟩, Classical.byContradiction (fun q => ?_)⟩
    have hca : col a = c := (hang_in h0 (b2 a ha)).2
    exact (hO.2 b a ⟨hbn, q⟩ (adj_sym hab) ha.1 hca).2 ha.2.2
  refine ⟨by rw [b1]; exact cnt_congr (fun i _ => hS i), fun i hi => ?_⟩
  constructor
  · intro q
    by_cases q0 : rea0 i = 0
    · exact Or.inr ((hS i).mp ⟨hi, q, q0⟩)
    · exact Or.inl q0
  · rintro (q | q)
    · exact b3 i q
    · exact ((hS i).mpr q).2.1
/-- a marked neighbour -/
theorem BES_iff {w h x y : Nat} {rea : Nat → Int32} (hx : x < w) (hy : y < h) : ((0 < x ∧ ¬ rea (y * w + (x - 1)) = 0) ∨ (x + 1 < w ∧ ¬ rea (y * w + (x + 1)) = 0) ∨ (0 < y ∧ ¬ rea ((y - 1) * w + x) = 0) ∨ (y + 1 < h ∧ ¬ rea ((y + 1) * w + x) = 0)) ↔ ∃ b, adj w (y * w + x) b ∧ b < w * h ∧ ¬ rea b = 0 := by
  have hm := row_mod y hx
  constructor
  · rintro (⟨q1, q2⟩ | ⟨q1, q2⟩ | ⟨q1, q2⟩ | ⟨q1, q2⟩)
    · exact ⟨_, Or.inl ⟨by omega, by rw [hm]; omega⟩, row_lt (by omega) hy, q2⟩
    · exact ⟨_, Or.inr (Or.inl ⟨by omega, by rw [row_mod y q1]; omega⟩), row_lt q1 hy, q2⟩
    · refine ⟨_, Or.inr (Or.inr (Or.inl ?_)), row_lt hx (by omega), q2⟩
      have : w ≤ y * w := Nat.le_mul_of_pos_left w q1
      rw [Nat.sub_mul, Nat.one_mul]; omega
    · refine ⟨_, Or.inr (Or.inr (Or.inr ?_)), row_lt hx q1, q2⟩
      rw [Nat.add_mul, Nat.one_mul]; omega
  · rintro ⟨b, q | q | q | q, hb, hr⟩
    · rw [hm] at q
      refine Or.inl ⟨by omega, ?_⟩
      rw [show y * w + (x - 1) = b by omega]; exact hr
    · have h1 : x + 1 < w := by
        rcases Nat.lt_or_ge (x + 1) w with g | g
        · exact g
        · exfalso
          apply q.2
          rw [← q.1, show y * w + x + 1 = (y + 1) * w by rw [Nat.add_mul]; omega]
          exact Nat.mul_mod_left _ _
      refine Or.inr (Or.inl ⟨h1, ?_⟩)
      rw [show y * w + (x + 1) = b by omega]; exact hr
    · have h1 : 0 < y := by
        rcases Nat.eq_zero_or_pos y with g | g
        · subst g; rw [Nat.zero_mul] at q; omega
        · exact g
      refine Or.inr (Or.inr (Or.inl ⟨h1, ?_⟩))
      have : w ≤ y * w := Nat.le_mul_of_pos_left w h1
      have e : (y - 1) * w + x = b := by rw [Nat.sub_mul, Nat.one_mul]; omega
      rw [e]; exact hr
    · have h1 : y + 1 < h := by
        rcases Nat.lt_or_ge (y + 1) h with g | g
        · exact g
        · exfalso
          have := Nat.mul_le_mul_right w g
          rw [Nat.add_mul, Nat.one_mul, Nat.mul_comm h w] at this
          omega
      refine Or.inr (Or.inr (Or.inr ⟨h1, ?_⟩))
      have e : (y + 1) * w + x = b := by rw [Nat.add_mul, Nat.one_mul]; omega
      rw [e]; exact hr
theorem nI_le0 {x : Nat} (hx : x < 2 ^ 31) (h : nI x ≤ 0) : x = 0 := by
  rcases Nat.eq_zero_or_pos x with q | q
  · exact q
  · exact absurd h (nI_nle q hx)
theorem nI_gt0 {x : Nat} (h : ¬ nI x ≤ 0) : 0 < x := Nat.pos_of_ne_zero (fun q => h (by rw [q, nI_0]; exact Int32.le_refl _))
/-- the reference's fill -/
def MFI (mk mc : Nat → Int32) (c : Int32) (t : Nat) (g : Nat → Int32) : Prop := ∀ j, ((j < t ∧ ¬ mk j = 0) → g j = c) ∧ (¬ (j < t ∧ ¬ mk j = 0) → g j = mc j)
theorem MFI_0 {mk mc : Nat → Int32} {c : Int32} : MFI mk mc c 0 mc := fun j => ⟨fun h => absurd h.1 (Nat.not_lt_zero j), fun _ => rfl⟩
theorem MFI_yes {mk mc g : Nat → Int32} {c : Int32} {t : Nat} (h : MFI mk mc c t g) (hm : ¬ mk t = 0) : MFI mk mc c (t + 1) (upd g t c) := by
  intro j
  by_cases he : j = t
  · subst he
    exact ⟨fun _ => pk_us, fun q => absurd ⟨Nat.lt_succ_self j, hm⟩ q⟩
  · rw [pk_un he]
    exact ⟨fun q => (h j).1 ⟨by omega, q.2⟩, fun q => (h j).2 (fun q2 => q ⟨by omega, q2.2⟩)⟩
theorem MFI_no {mk mc g : Nat → Int32} {c : Int32} {t : Nat} (h : MFI mk mc c t g) (hm : mk t = 0) : MFI mk mc c (t + 1) (upd g t (g t)) := by
  have e : upd g t (g t) = g := by
    funext j
    by_cases he : j = t
    · subst he; exact pk_us
    · exact pk_un he
  rw [e]
  intro j
  refine ⟨fun q => (h j).1 ⟨?_, q.2⟩, fun q => (h j).2 (fun q2 => q ⟨by omega, q2.2⟩)⟩
  rcases Nat.lt_or_ge j t with h1 | h1
  · exact h1
  · have : j = t := by omega
    subst this
    exact absurd hm q.2
theorem ab_ix {w h i : Nat} (hw : w ≤ 24) (hh : h ≤ 24) (hi : i < w * h) : 24 * (i / w) + i % w < 576 := by
  have := row_bd hi
  omega
theorem MFI_fin {w h : Nat} {mk mc g : Nat → Int32} {c : Int32} {Q : Nat → Prop} (hw : w ≤ 24) (hh : h ≤ 24) (hI : MFI mk mc c 576 g) (hm : ∀ i, i < w * h → (¬ ab w mk i = 0 ↔ Q i)) : LFin (w * h) Q (ab w mc) c (ab w g) := by
  intro i hi
  have hx := ab_ix hw hh hi
  exact ⟨fun q => (hI _).1 ⟨hx, (hm i hi).mpr q⟩, fun q => (hI _).2 (fun q2 => q ((hm i hi).mp q2.2))⟩
