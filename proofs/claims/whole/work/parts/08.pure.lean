/-! counting, and what hangs together -/
noncomputable def tt (p : Prop) : Bool := @decide p (Classical.propDecidable p)
theorem tt_iff {p : Prop} : tt p = true ↔ p := @decide_eq_true_iff p (Classical.propDecidable p)
theorem tt_pos {p : Prop} (h : p) : tt p = true := tt_iff.mpr h
theorem tt_neg {p : Prop} (h : ¬ p) : tt p = false := by
  cases hq : tt p with
  | false => rfl
  | true => exact absurd (tt_iff.mp hq) h
theorem tt_eq {p q : Prop} (h : p ↔ q) : tt p = tt q := by
  by_cases hp : p
  · rw [tt_pos hp, tt_pos (h.mp hp)]
  · rw [tt_neg hp, tt_neg (fun hq => hp (h.mpr hq))]
/-- how many numbers below n have p -/
noncomputable def cnt (p : Nat → Prop) : Nat → Nat
  | 0 => 0
  | n + 1 => cnt p n + (if tt (p n) = true then 1 else 0)
theorem cnt_0 {p : Nat → Prop} : cnt p 0 = 0 := rfl
theorem cnt_yes {p : Nat → Prop} {n : Nat} (h : p n) : cnt p (n + 1) = cnt p n + 1 := by
  show cnt p n + _ = _
  rw [if_pos (tt_pos h)]
theorem cnt_no {p : Nat → Prop} {n : Nat} (h : ¬ p n) : cnt p (n + 1) = cnt p n := by
  show cnt p n + _ = _
  rw [if_neg (by rw [tt_neg h]; decide)]; rfl
theorem cnt_congr {p q : Nat → Prop} : ∀ {n : Nat}, (∀ i, i < n → (p i ↔ q i)) → cnt p n = cnt q n := by
  intro n
  induction n with
  | zero => intro _; rfl
  | succ n ih =>
    intro h
    have h1 := ih (fun i hi => h i (by omega))
    by_cases hp : p n
    · rw [cnt_yes hp, cnt_yes ((h n (by omega)).mp hp), h1]
    · rw [cnt_no hp, cnt_no (fun hq => hp ((h n (by omega)).mpr hq)), h1]
theorem cnt_le (p : Nat → Prop) : ∀ n : Nat, cnt p n ≤ n := by
  intro n
  induction n with
  | zero => exact Nat.le_refl 0
  | succ n ih =>
    by_cases hp : p n
    · rw [cnt_yes hp]; omega
    · rw [cnt_no hp]; omega
theorem cnt_lt {p : Nat → Prop} {k : Nat} (hk : ¬ p k) : ∀ n : Nat, k < n → cnt p n < n := by
  intro n
  induction n with
  | zero => intro h; omega
  | succ n ih =>
    intro h
    by_cases he : k = n
    · subst he
      have := cnt_le p k
      rw [cnt_no hk]; omega
    · have := ih (by omega)
      by_cases hp : p n
      · rw [cnt_yes hp]; omega
      · rw [cnt_no hp]; omega
theorem cnt_none {p : Nat → Prop} : ∀ {n : Nat}, (∀ i, i < n → ¬ p i) → cnt p n = 0 := by
  intro n
  induction n with
  | zero => intro _; rfl
  | succ n ih =>
    intro h
    rw [cnt_no (h n (by omega)), ih (fun i hi => h i (by omega))]
/-- one more -/
theorem cnt_add {p q : Nat → Prop} {k : Nat} (hk : ¬ p k) (hq : ∀ i, q i ↔ (p i ∨ i = k)) : ∀ n : Nat, cnt q n = cnt p n + (if k < n then 1 else 0) := by
  intro n
  induction n with
  | zero => rfl
  | succ n ih =>
    by_cases he : k = n
    · subst he
      rw [cnt_yes ((hq k).mpr (Or.inr rfl)), cnt_no hk, ih, if_neg (Nat.lt_irrefl k), if_pos (Nat.lt_succ_self k)]
    · have hn : q n ↔ p n := by
        rw [hq n]
        constructor
        · rintro (h | h)
          · exact h
          · exact absurd h.symm he
        · exact Or.inl
      have h2 : (if k < n + 1 then 1 else 0) = (if k < n then 1 else 0 : Nat) := by
        by_cases h3 : k < n
        · rw [if_pos h3, if_pos (by omega)]
        · rw [if_neg h3, if_neg (by omega)]
      rw [h2]
      by_cases hp : p n
      · rw [cnt_yes hp, cnt_yes (hn.mpr hp), ih]; omega
      · rw [cnt_no hp, cnt_no (fun h => hp (hn.mp h)), ih]
theorem cnt_add' {p q : Nat → Prop} {k n : Nat} (hk : ¬ p k) (hq : ∀ i, q i ↔ (p i ∨ i = k)) (hn : k < n) : cnt q n = cnt p n + 1 := by
  rw [cnt_add hk hq n, if_pos hn]
/-- places that lie side by side in rows of w places -/
def adj (w i j : Nat) : Prop := (j + 1 = i ∧ i % w ≠ 0) ∨ (i + 1 = j ∧ j % w ≠ 0) ∨ j + w = i ∨ i + w = j
theorem adj_sym {w i j : Nat} (h : adj w i j) : adj w j i := by
  rcases h with h | h | h | h
  · exact Or.inr (Or.inl h)
  · exact Or.inl h
  · exact Or.inr (Or.inr (Or.inr h))
  · exact Or.inr (Or.inr (Or.inl h))
/-- a set of places below n that holds, with a place, its neighbours that have property g -/
def clo (w n : Nat) (g : Nat → Prop) (S : Nat → Prop) : Prop := ∀ a b, S a → adj w a b → b < n → g b → S b
/-- b hangs together with a over places of property g: every closed set that holds a holds b -/
def hang (w n : Nat) (g : Nat → Prop) (a b : Nat) : Prop := ∀ S : Nat → Prop, S a → clo w n g S → S b
theorem hang_self {w n : Nat} {g : Nat → Prop} {a : Nat} : hang w n g a a := fun _ h _ => h
theorem hang_step {w n : Nat} {g : Nat → Prop} {a b c : Nat} (h : hang w n g a b) (h1 : adj w b c) (h2 : c < n) (h3 : g c) : hang w n g a c := fun S hS hc => hc b c (h S hS hc) h1 h2 h3
theorem hang_trans {w n : Nat} {g : Nat → Prop} {a b c : Nat} (h : hang w n g a b) (h1 : hang w n g b c) : hang w n g a c := fun S hS hc => h1 S (h S hS hc) hc
theorem hang_in {w n : Nat} {g : Nat → Prop} {a b : Nat} (ha : a < n ∧ g a) (h : hang w n g a b) : b < n ∧ g b := h (fun x => x < n ∧ g x) ha (fun _ _ _ _ h1 h2 => ⟨h1, h2⟩)
theorem hang_sym {w n : Nat} {g : Nat → Prop} {a b : Nat} (ha : a < n ∧ g a) (h : hang w n g a b) : hang w n g b a := by
  have h1 : (fun x => (x < n ∧ g x) ∧ hang w n g x a) b := h (fun x => (x < n ∧ g x) ∧ hang w n g x a) ⟨ha, hang_self⟩ (fun c d hc hcd hd hg => ⟨⟨hd, hg⟩, hang_trans (hang_step hang_self (adj_sym hcd) hc.1.1 hc.1.2) hc.2⟩)
  exact h1.2
theorem hang_cong {w n : Nat} {g g' : Nat → Prop} {a b : Nat} (hg : ∀ i, i < n → (g i ↔ g' i)) (h : hang w n g a b) : hang w n g' a b := fun S hS hc => h S hS (fun x y h1 h2 h3 h4 => hc x y h1 h2 h3 ((hg y h3).mp h4))
/-- a closed set that holds a and lies in all such is the piece of a -/
theorem hang_is {w n : Nat} {g : Nat → Prop} {a : Nat} {S : Nat → Prop} (ha : S a) (hc : clo w n g S) (hs : ∀ b, S b → hang w n g a b) (b : Nat) : S b ↔ hang w n g a b := ⟨hs b, fun h => h S ha hc⟩
