/-! what reachPiece brings together -/
/-- the new ones -/
def NEW (n : Nat) (rea0 rea : Nat → Int32) (i : Nat) : Prop := i < n ∧ ¬ rea i = 0 ∧ rea0 i = 0
/-- the rows of the search: the queue's first k places are the new ones, all of them in the piece -/
def BF (w n : Nat) (col rea0 : Nat → Int32) (c : Int32) (i0 : Nat) (rea que : Nat → Int32) (k : Nat) : Prop :=
  (∀ j, j < k → ∃ i, que j = nI i ∧ NEW n rea0 rea i) ∧ (∀ i, NEW n rea0 rea i → ∃ j, j < k ∧ que j = nI i) ∧ k = cnt (NEW n rea0 rea) n ∧ (∀ i, NEW n rea0 rea i → hang w n (fun a => col a = c) i0 i) ∧ (∀ i, ¬ rea0 i = 0 → ¬ rea i = 0)
theorem BF_k {w n : Nat} {col rea0 rea que : Nat → Int32} {c : Int32} {i0 k : Nat} (h : BF w n col rea0 c i0 rea que k) : k ≤ n := by
  rw [h.2.2.1]; exact cnt_le _ _
theorem BF_0 {w n : Nat} {col rea0 que : Nat → Int32} {c : Int32} {i0 : Nat} : BF w n col rea0 c i0 rea0 que 0 :=
  ⟨fun j h => absurd h (Nat.not_lt_zero j), fun i h => absurd h.2.2 h.2.1, (cnt_none (fun i _ h => h.2.1 h.2.2)).symm, fun i h => absurd h.2.2 h.2.1, fun i h => h⟩
/-- what reach does at (x, y) -/
def RCH (w h : Nat) (col : Nat → Int32) (c x y : Int32) (rea que : Nat → Int32) (k : Nat) (u : (Nat → Int32) × (Nat → Int32) × Nat) : Prop :=
  ((inX w h x y ∧ rea (lin w x y) = 0 ∧ col (lin w x y) = c ∧ k < w * h) ∧ u = (upd rea (lin w x y) 1, upd que k (nI (lin w x y)), k + 1)) ∨ (¬ (inX w h x y ∧ rea (lin w x y) = 0 ∧ col (lin w x y) = c ∧ k < w * h) ∧ u = (rea, que, k))
theorem BF_reach {w h : Nat} {col rea0 rea que rea' que' : Nat → Int32} {c x y : Int32} {i0 k k' : Nat} (hB : BF w (w * h) col rea0 c i0 rea que k) (hr : RCH w h col c x y rea que k (rea', que', k')) (hh : inX w h x y → col (lin w x y) = c → hang w (w * h) (fun a => col a = c) i0 (lin w x y)) :
    BF w (w * h) col rea0 c i0 rea' que' k' ∧ (inX w h x y → col (lin w x y) = c → ¬ rea' (lin w x y) = 0) ∧ (∀ i, ¬ rea i = 0 → ¬ rea' i = 0) ∧ k ≤ k' ∧ (∀ j, j < k → que' j = que j) := by
  obtain ⟨h1, h2, h3, h4, h5⟩ := hB
  rcases hr with ⟨⟨g1, g2, g3, g4⟩, g5⟩ | ⟨g1, g5⟩
  · injection g5 with e1 e2
    injection e2 with e2 e3
    subst e1; subst e2; subst e3
    have hlt := lin_lt g1
    have hang1 := hh g1 g3
    generalize lin w x y = b at *
    have hr0 : rea0 b = 0 := Classical.byContradiction (fun q => h5 b q g2)
    have hnew : ∀ i, NEW (w * h) rea0 (upd rea b 1) i ↔ (NEW (w * h) rea0 rea i ∨ i = b) := by
      intro i
      by_cases hi : i = b
      · subst hi
        exact ⟨fun _ => Or.inr rfl, fun _ => ⟨hlt, by rw [pk_us]; decide, hr0⟩⟩
      · unfold NEW
        rw [pk_un hi]
        exact ⟨fun q => Or.inl q, fun q => q.elim id (fun q => absurd q hi)⟩
    have hb0 : ¬ NEW (w * h) rea0 rea b := fun q => q.2.1 g2
    refine ⟨⟨?_, ?_, ?_, ?_, ?_⟩, ?_, ?_, by omega, ?_⟩
    · intro j hj
      by_cases hjk : j = k
      · subst hjk
        exact ⟨b, pk_us, (hnew b).mpr (Or.inr rfl)⟩
      · obtain ⟨i, q1, q2⟩ := h1 j (by omega)
        exact ⟨i, by rw [pk_un hjk]; exact q1, (hnew i).mpr (Or.inl q2)⟩
    · intro i hi
      rcases (hnew i).mp hi with q | q
      · obtain ⟨j, q1, q2⟩ := h2 i q
        exact ⟨j, by omega, by rw [pk_un (by omega)]; exact q2⟩
      · exact ⟨k, by omega, by rw [pk_us, q]⟩
    · rw [cnt_add' hb0 hnew hlt, ← h3]
    · intro i hi
      rcases (hnew i).mp hi with q | q
      · exact h4 i q
      · rw [q]; exact hang1
    · intro i hi
      by_cases hib : i = b
      · rw [hib, pk_us]; decide
      · rw [pk_un hib]; exact h5 i hi
    · intro _ _
      rw [pk_us]; decide
    · intro i hi
      by_cases hib : i = b
      · rw [hib, pk_us]; decide
      · rw [pk_un hib]; exact hi
    · intro j hj
      exact pk_un (by omega)
  · injection g5 with e1 e2
    injection e2 with e2 e3
    subst e1; subst e2; subst e3
    refine ⟨⟨h1, h2, h3, h4, h5⟩, ?_, fun i h => h, Nat.le_refl _, fun _ _ => rfl⟩
    intro q1 q2 q3
    have hk : k' < w * h := by
      rw [h3]
      exact cnt_lt (k := lin w x y) (fun q => q.2.1 q3) _ (lin_lt q1)
    exact g1 ⟨q1, q3, q2, hk⟩
/-- the four neighbours -/
theorem nb_sub {w a : Nat} (ha : a ≤ 24) : (nI a - 1).toInt = (a : Int) - 1 := by
  rw [Jvm.Kit.i32_sub (by rw [nI_toInt (by omega), show (1 : Int32).toInt = 1 from by decide]; omega) (by rw [nI_toInt (by omega), show (1 : Int32).toInt = 1 from by decide]; omega), nI_toInt (by omega)]; rfl
theorem nb_add {a : Nat} (ha : a ≤ 24) : (nI a + 1).toInt = (a : Int) + 1 := by
  rw [nI_1, nI_toInt (by omega)]; omega
theorem nb_l {w h i : Nat} (hw : w ≤ 24) (hh : h ≤ 24) (hi : i < w * h) : (inX w h (nI (i % w) - 1) (nI (i / w)) → adj w i (lin w (nI (i % w) - 1) (nI (i / w)))) ∧ (∀ b, b + 1 = i → i % w ≠ 0 → inX w h (nI (i % w) - 1) (nI (i / w)) ∧ lin w (nI (i % w) - 1) (nI (i / w)) = b) := by
  have hb := row_bd hi
  have hr := row_of w i
  have e1 := nb_sub (w := w) (a := i % w) (by omega)
  have e2 : (nI (i / w)).toInt = ((i / w : Nat) : Int) := nI_toInt (by omega)
  unfold inX lin adj
  rw [e1, e2]
  generalize i % w = a at *
  generalize i / w = d at *
  generalize hdw : d * w = dw at *
  refine ⟨fun q => Or.inl ⟨?_, by omega⟩, fun b hb1 hb2 => ⟨⟨by omega, by omega⟩, ?_⟩⟩
  · rw [show ((d : Int)).toNat = d by omega, hdw]; omega
  · rw [show ((d : Int)).toNat = d by omega, hdw]; omega
theorem nb_r {w h i : Nat} (hw : w ≤ 24) (hh : h ≤ 24) (hi : i < w * h) : (inX w h (nI (i % w) + 1) (nI (i / w)) → adj w i (lin w (nI (i % w) + 1) (nI (i / w)))) ∧ (∀ b, i + 1 = b → b % w ≠ 0 → inX w h (nI (i % w) + 1) (nI (i / w)) ∧ lin w (nI (i % w) + 1) (nI (i / w)) = b) := by
  have hb := row_bd hi
  have hr := row_of w i
  have e1 := nb_add (a := i % w) (by omega)
  have e2 : (nI (i / w)).toInt = ((i / w : Nat) : Int) := nI_toInt (by omega)
  unfold inX lin
  rw [e1, e2]
  generalize i % w = a at *
  generalize i / w = d at *
  rw [show ((d : Int)).toNat = d by omega, show ((a : Int) + 1).toNat = a + 1 by omega]
  refine ⟨fun q => Or.inr (Or.inl ⟨by omega, ?_⟩), fun b hb1 hb2 => ?_⟩
  · rw [row_mod d (by omega)]; omega
  · have ha : a + 1 < w := by
      rcases Nat.lt_or_ge (a + 1) w with q | q
      · exact q
      · exfalso
        apply hb2
        rw [← hb1, ← hr, show d * w + a + 1 = (d + 1) * w by rw [Nat.add_mul]; omega]
        exact Nat.mul_mod_left _ _
    exact ⟨⟨by omega, by omega⟩, by omega⟩
theorem nb_u {w h i : Nat} (hw : w ≤ 24) (hh : h ≤ 24) (hi : i < w * h) : (inX w h (nI (i % w)) (nI (i / w) - 1) → adj w i (lin w (nI (i % w)) (nI (i / w) - 1))) ∧ (∀ b, b + w = i → inX w h (nI (i % w)) (nI (i / w) - 1) ∧ lin w (nI (i % w)) (nI (i / w) - 1) = b) := by
  have hb := row_bd hi
  have hr := row_of w i
  have e1 := nb_sub (w := w) (a := i / w) (by omega)
  have e2 : (nI (i % w)).toInt = ((i % w : Nat) : Int) := nI_toInt (by omega)
  unfold inX lin
  rw [e1, e2]
  generalize i % w = a at *
  generalize i / w = d at *
  rw [show ((a : Int)).toNat = a by omega, show ((d : Int) - 1).toNat = d - 1 by omega]
  have hs : (d - 1) * w = d * w - w := by rw [Nat.sub_mul, Nat.one_mul]
  refine ⟨fun q => Or.inr (Or.inr (Or.inl ?_)), fun b hb1 => ?_⟩
  · have : w ≤ d * w := Nat.le_mul_of_pos_left w (by omega)
    omega
  · have hd : 0 < d := by
      rcases Nat.eq_zero_or_pos d with q | q
      · subst q; rw [Nat.zero_mul] at hr; omega
      · exact q
    have : w ≤ d * w := Nat.le_mul_of_pos_left w hd
    exact ⟨⟨by omega, by omega⟩, by omega⟩
theorem nb_d {w h i : Nat} (hw : w ≤ 24) (hh : h ≤ 24) (hi : i < w * h) : (inX w h (nI (i % w)) (nI (i / w) + 1) → adj w i (lin w (nI (i % w)) (nI (i / w) + 1))) ∧ (∀ b, i + w = b → b < w * h → inX w h (nI (i % w)) (nI (i / w) + 1) ∧ lin w (nI (i % w)) (nI (i / w) + 1) = b) := by
  have hb := row_bd hi
  have hr := row_of w i
  have e1 := nb_add (a := i / w) (by omega)
  have e2 : (nI (i % w)).toInt = ((i % w : Nat) : Int) := nI_toInt (by omega)
  unfold inX lin
  rw [e1, e2]
  generalize i % w = a at *
  generalize i / w = d at *
  rw [show ((a : Int)).toNat = a by omega, show ((d : Int) + 1).toNat = d + 1 by omega, Nat.add_mul, Nat.one_mul]
  refine ⟨fun q => Or.inr (Or.inr (Or.inr (by omega))), fun b hb1 hb2 => ?_⟩
  have hd : d + 1 < h := by
    rcases Nat.lt_or_ge (d + 1) h with q | q
    · exact q
    · exfalso
      have := Nat.mul_le_mul_right w q
      rw [Nat.add_mul, Nat.one_mul, Nat.mul_comm h w] at this
      omega
  exact ⟨⟨by omega, by omega⟩, by omega⟩
/-- the rows of the search at its t-th step -/
def BFT (w n : Nat) (col rea0 : Nat → Int32) (c : Int32) (i0 : Nat) (rea que : Nat → Int32) (k t : Nat) : Prop :=
  BF w n col rea0 c i0 rea que k ∧ ¬ rea i0 = 0 ∧ ∀ j i, j < t → que j = nI i → i < n → ∀ b, adj w i b → b < n → col b = c → ¬ rea b = 0
/-- one step: the four neighbours of the t-th one -/
theorem BFT_step {w h : Nat} {col rea0 rea que r1 q1 r2 q2 r3 q3 r4 q4 : Nat → Int32} {c : Int32} {i0 k t i k1 k2 k3 k4 : Nat} (hw : w ≤ 24) (hh : h ≤ 24) (hT : BFT w (w * h) col rea0 c i0 rea que k t) (htk : t < k) (hq : que t = nI i) (hi : NEW (w * h) rea0 rea i)
    (a1 : RCH w h col c (nI (i % w) - 1) (nI (i / w)) rea que k (r1, q1, k1)) (a2 : RCH w h col c (nI (i % w) + 1) (nI (i / w)) r1 q1 k1 (r2, q2, k2)) (a3 : RCH w h col c (nI (i % w)) (nI (i / w) - 1) r2 q2 k2 (r3, q3, k3)) (a4 : RCH w h col c (nI (i % w)) (nI (i / w) + 1) r3 q3 k3 (r4, q4, k4)) :
    BFT w (w * h) col rea0 c i0 r4 q4 k4 (t + 1) ∧ t + 1 ≤ k4 := by
  obtain ⟨hB, h0, hc⟩ := hT
  have hin := hi.1
  have hg := hB.2.2.2.1 i hi
  have n1 := nb_l hw hh hin
  have n2 := nb_r hw hh hin
  have n3 := nb_u hw hh hin
  have n4 := nb_d hw hh hin
  obtain ⟨b1, c1, d1, e1, f1⟩ := BF_reach hB a1 (fun x y => hang_step hg (n1.1 x) (lin_lt x) y)
  obtain ⟨b2, c2, d2, e2, f2⟩ := BF_reach b1 a2 (fun x y => hang_step hg (n2.1 x) (lin_lt x) y)
  obtain ⟨b3, c3, d3, e3, f3⟩ := BF_reach b2 a3 (fun x y => hang_step hg (n3.1 x) (lin_lt x) y)
  obtain ⟨b4, c4, d4, e4, f4⟩ := BF_reach b3 a4 (fun x y => hang_step hg (n4.1 x) (lin_lt x) y)
  have dd : ∀ x, ¬ rea x = 0 → ¬ r4 x = 0 := fun x q => d4 x (d3 x (d2 x (d1 x q)))
  have ff : ∀ j, j < k → q4 j = que j := fun j q => by rw [f4 j (by omega), f3 j (by omega), f2 j (by omega), f1 j q]
  refine ⟨⟨b4, dd i0 h0, ?_⟩, by omega⟩
  intro j i' hj hq' hi' b hab hbn hcb
  rw [ff j (by omega)] at hq'
  by_cases hjt : j = t
  · subst hjt
    have : i' = i := by
      rw [hq] at hq'
      have hn := wh_le hw hh
      exact ((nI_eq (by omega) (by omega)).mp hq').symm
    subst this
    rcases hab with q | q | q | q
    · obtain ⟨x, y⟩ := n1.2 b q.1 q.2
      rw [← y] at hcb ⊢
      exact d4 _ (d3 _ (d2 _ (c1 x hcb)))
    · obtain ⟨x, y⟩ := n2.2 b q.1 q.2
      rw [← y] at hcb ⊢
      exact d4 _ (d3 _ (c2 x hcb))
    · obtain ⟨x, y⟩ := n3.2 b q
      rw [← y] at hcb ⊢
      exact d4 _ (c3 x hcb)
    · obtain ⟨x, y⟩ := n4.2 b q hbn
      rw [← y] at hcb ⊢
      exact c4 x hcb
  · exact dd b (hc j i' (by omega) hq' hi' b hab hbn hcb)
/-- what was reached before is closed, and has the colour -/
def OLD (w n : Nat) (col rea0 : Nat → Int32) (c : Int32) : Prop := (∀ i, i < n → ¬ rea0 i = 0 → col i = c) ∧ clo w n (fun a => col a = c) (fun i => i < n ∧ ¬ rea0 i = 0)
/-- the piece, when the search has ended -/
def PIECE (w n : Nat) (col rea0 : Nat → Int32) (c : Int32) (i0 : Nat) (rea que : Nat → Int32) (k : Nat) : Prop :=
  k ≤ n ∧ k = cnt (hang w n (fun a => col a = c) i0) n ∧ (∀ i, i < n → (¬ rea i = 0 ↔ (¬ rea0 i = 0 ∨ hang w n (fun a => col a = c) i0 i))) ∧ (∀ j, j < k → ∃ i, i < n ∧ que j = nI i ∧ hang w n (fun a => col a = c) i0 i) ∧ (∀ i, hang w n (fun a => col a = c) i0 i → ∃ j, j < k ∧ que j = nI i)
theorem BFT_end {w n : Nat} {col rea0 rea que : Nat → Int32} {c : Int32} {i0 k : Nat} (h0 : i0 < n ∧ col i0 = c) (hr0 : rea0 i0 = 0) (hO : OLD w n col rea0 c) (hT : BFT w n col rea0 c i0 rea que k k) : PIECE w n col rea0 c i0 rea que k := by
  obtain ⟨hB, h1, hc⟩ := hT
  obtain ⟨b1, b2, b3, b4, b5⟩ := id hB
  have hS : ∀ b, NEW n rea0 rea b ↔ hang w n (fun a => col a = c) i0 b := by
    refine hang_is ⟨h0.1, h1, hr0⟩ ?_ b4
    intro a b ha hab hbn hcb
    obtain ⟨j, hj, hq⟩ := b2 a ha
    refine ⟨hbn, hc j a hj hq ha.1 b hab hbn hcb, Classical.byContradiction (fun q => ?_)⟩
    have hca : col a = c := (hang_in h0 (b4 a ha)).2
    exact (hO.2 b a ⟨hbn, q⟩ (adj_sym hab) ha.1 hca).2 ha.2.2
  refine ⟨BF_k hB, by rw [b3]; exact cnt_congr (fun i _ => hS i), ?_, ?_, ?_⟩
  · intro i hi
    constructor
    · intro q
      by_cases q0 : rea0 i = 0
      · exact Or.inr ((hS i).mp ⟨hi, q, q0⟩)
      · exact Or.inl q0
    · rintro (q | q)
      · exact b5 i q
      · exact ((hS i).mpr q).2.1
  · intro j hj
    obtain ⟨i, q1, q2⟩ := b1 j hj
    exact ⟨i, q2.1, q1, (hS i).mp q2⟩
  · intro i hi
    exact b2 i ((hS i).mpr hi)
theorem OLD_0 {w n : Nat} {col rea0 : Nat → Int32} {c : Int32} (h : ∀ i, i < n → rea0 i = 0) : OLD w n col rea0 c := ⟨fun i hi q => absurd (h i hi) q, fun a b ha _ _ _ => absurd (h a ha.1) ha.2⟩
/-- the least places of the pieces of a colour -/
def PCS (w n : Nat) (col : Nat → Int32) (c : Int32) (i : Nat) : Prop := col i = c ∧ ∀ j, j < i → col j = c → ¬ hang w n (fun a => col a = c) j i
/-- the pieces of the places below i are what was reached -/
def PRE (w n : Nat) (col : Nat → Int32) (c : Int32) (i : Nat) (rea : Nat → Int32) : Prop := ∀ m, m < n → (¬ rea m = 0 ↔ ∃ j, j < i ∧ col j = c ∧ hang w n (fun a => col a = c) j m)
theorem PRE_0 {w n : Nat} {col rea : Nat → Int32} {c : Int32} (h : ∀ i, i < n → rea i = 0) : PRE w n col c 0 rea := fun m hm => ⟨fun q => absurd (h m hm) q, fun ⟨j, hj, _⟩ => absurd hj (Nat.not_lt_zero j)⟩
theorem PRE_old {w n : Nat} {col rea : Nat → Int32} {c : Int32} {i : Nat} (hi : i ≤ n) (h : PRE w n col c i rea) : OLD w n col rea c := by
  constructor
  · intro m hm q
    obtain ⟨j, h1, h2, h3⟩ := (h m hm).mp q
    exact (hang_in ⟨by omega, h2⟩ h3).2
  · intro a b ha hab hb hcb
    obtain ⟨j, h1, h2, h3⟩ := (h a ha.1).mp ha.2
    exact ⟨hb, (h b hb).mpr ⟨j, h1, h2, hang_step h3 hab hb hcb⟩⟩
theorem PRE_other {w n : Nat} {col rea : Nat → Int32} {c : Int32} {i : Nat} (h : PRE w n col c i rea) (hc : ¬ col i = c) : PRE w n col c (i + 1) rea ∧ ¬ PCS w n col c i := by
  refine ⟨fun m hm => ?_, fun q => hc q.1⟩
  rw [h m hm]
  constructor
  · rintro ⟨j, h1, h2, h3⟩; exact ⟨j, by omega, h2, h3⟩
  · rintro ⟨j, h1, h2, h3⟩
    have : j ≠ i := fun q => hc (q ▸ h2)
    exact ⟨j, by omega, h2, h3⟩
theorem PRE_seen {w n : Nat} {col rea : Nat → Int32} {c : Int32} {i : Nat} (hi : i < n) (h : PRE w n col c i rea) (hr : ¬ rea i = 0) : PRE w n col c (i + 1) rea ∧ ¬ PCS w n col c i := by
  obtain ⟨j0, g1, g2, g3⟩ := (h i hi).mp hr
  refine ⟨fun m hm => ?_, fun q => q.2 j0 g1 g2 g3⟩
  rw [h m hm]
  constructor
  · rintro ⟨j, h1, h2, h3⟩; exact ⟨j, by omega, h2, h3⟩
  · rintro ⟨j, h1, h2, h3⟩
    by_cases he : j = i
    · subst he; exact ⟨j0, g1, g2, hang_trans g3 h3⟩
    · exact ⟨j, by omega, h2, h3⟩
theorem PRE_new {w n : Nat} {col rea rea' : Nat → Int32} {c : Int32} {i : Nat} (hi : i < n) (hc : col i = c) (h : PRE w n col c i rea) (hr : rea i = 0) (hp : ∀ m, m < n → (¬ rea' m = 0 ↔ (¬ rea m = 0 ∨ hang w n (fun a => col a = c) i m))) : PRE w n col c (i + 1) rea' ∧ PCS w n col c i := by
  refine ⟨fun m hm => ?_, hc, fun j hj hcj q => (h i hi).mpr ⟨j, hj, hcj, q⟩ hr⟩
  rw [hp m hm, h m hm]
  constructor
  · rintro (⟨j, h1, h2, h3⟩ | q)
    · exact ⟨j, by omega, h2, h3⟩
    · exact ⟨i, by omega, hc, q⟩
  · rintro ⟨j, h1, h2, h3⟩
    by_cases he : j = i
    · subst he; exact Or.inr h3
    · exact Or.inl ⟨j, by omega, h2, h3⟩
