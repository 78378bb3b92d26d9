/-! class and reference answer alike -/
def REL (n : Nat) (f g : Nat → Int32) : Prop := ∀ i, i < n → f i = g i
theorem clear_rel {w h : Nat} {col dep mc md : Nat → Int32} {u v : (Nat → Int32) × (Nat → Int32)} {c z r r' : Int32} (hw : w ≤ 24) (hh : h ≤ 24) (hc : REL (w * h) col (ab w mc)) (hd : REL (w * h) dep (ab w md))
    (q : ((0 ≤ z.toInt ∧ z.toInt ≤ 65535) ∧ r = 1 ∧ (∀ i, i < w * h → u.1 i = c ∧ u.2 i = z)) ∨ (¬ (0 ≤ z.toInt ∧ z.toInt ≤ 65535) ∧ r = 0 ∧ u = (col, dep)))
    (q' : ((0 ≤ z.toInt ∧ z.toInt ≤ 65535) ∧ r' = 1 ∧ (∀ i, i < 576 → v.1 i = c ∧ v.2 i = z)) ∨ (¬ (0 ≤ z.toInt ∧ z.toInt ≤ 65535) ∧ r' = 0 ∧ v = (mc, md))) : r = r' ∧ REL (w * h) u.1 (ab w v.1) ∧ REL (w * h) u.2 (ab w v.2) := by
  rcases q with ⟨a1, a2, a3⟩ | ⟨a1, a2, a3⟩ <;> rcases q' with ⟨b1, b2, b3⟩ | ⟨b1, b2, b3⟩
  · refine ⟨by rw [a2, b2], fun i hi => ?_, fun i hi => ?_⟩
    · rw [(a3 i hi).1]; exact (b3 _ (ab_ix hw hh hi)).1.symm
    · rw [(a3 i hi).2]; exact (b3 _ (ab_ix hw hh hi)).2.symm
  · exact absurd a1 b1
  · exact absurd b1 a1
  · subst a3; subst b3
    exact ⟨by rw [a2, b2], hc, hd⟩
theorem vertex_rel {vx vy vz : Nat → Int32} {se th : Int32} {ar : Int64} {u : (Nat → Int32) × (Nat → Int32) × (Nat → Int32) × Int32 × Int32 × Int64} {v : (Nat → Int32) × (Nat → Int32) × (Nat → Int32)} {k x y z r r' : Int32} (hv : vb vx vy) (hz : zb vz) (hf : facOK vx vy se th ar)
    (q : (VOK k x y z ∧ r = 1 ∧ u.1 = upd vx k.toNatClampNeg x ∧ u.2.1 = upd vy k.toNatClampNeg y ∧ u.2.2.1 = upd vz k.toNatClampNeg z ∧ facOK u.1 u.2.1 u.2.2.2.1 u.2.2.2.2.1 u.2.2.2.2.2) ∨ (¬ VOK k x y z ∧ r = 0 ∧ u = (vx, vy, vz, se, th, ar)))
    (q' : (VOK k x y z ∧ r' = 1 ∧ v = (upd vx k.toNatClampNeg x, upd vy k.toNatClampNeg y, upd vz k.toNatClampNeg z)) ∨ (¬ VOK k x y z ∧ r' = 0 ∧ v = (vx, vy, vz))) : r = r' ∧ (v.1 = u.1 ∧ v.2.1 = u.2.1 ∧ v.2.2 = u.2.2.1) ∧ vb u.1 u.2.1 ∧ zb u.2.2.1 ∧ facOK u.1 u.2.1 u.2.2.2.1 u.2.2.2.2.1 u.2.2.2.2.2 := by
  rcases q with ⟨a1, a2, a3, a4, a5, a6⟩ | ⟨a1, a2, a3⟩ <;> rcases q' with ⟨b1, b2, b3⟩ | ⟨b1, b2, b3⟩
  · subst b3
    refine ⟨by rw [a2, b2], ⟨a3.symm, a4.symm, a5.symm⟩, ?_, ?_, a6⟩
    · rw [a3, a4]; exact vb_upd hv a1.2.1 a1.2.2.1
    · rw [a5]; exact zb_upd hz a1.2.2.2
  · exact absurd a1 b1
  · exact absurd b1 a1
  · subst a3; subst b3
    exact ⟨by rw [a2, b2], ⟨rfl, rfl, rfl⟩, hv, hz, hf⟩
theorem tri_rel {w n : Nat} {vx vy vz col dep mc md : Nat → Int32} {u v : (Nat → Int32) × (Nat → Int32)} {c r r' : Int32} (hc : REL n col (ab w mc)) (hd : REL n dep (ab w md))
    (q : r = nI (cnt (TPi w vx vy vz dep) n) ∧ TIn w n vx vy vz col dep c n u.1 u.2)
    (q' : r' = nI (cnt (TPi w vx vy vz (ab w md)) n) ∧ TIn w n vx vy vz (ab w mc) (ab w md) c n (ab w v.1) (ab w v.2)) : r = r' ∧ REL n u.1 (ab w v.1) ∧ REL n u.2 (ab w v.2) := by
  have hT : ∀ i, i < n → (TPi w vx vy vz dep i ↔ TPi w vx vy vz (ab w md) i) := fun i hi => by unfold TPi; rw [hd i hi]
  have key : ∀ i, i < n → u.1 i = ab w v.1 i ∧ u.2 i = ab w v.2 i := by
    intro i hi
    by_cases h : TPi w vx vy vz dep i
    · have a := (q.2 i hi).1 ⟨hi, h⟩
      have b := (q'.2 i hi).1 ⟨hi, (hT i hi).mp h⟩
      exact ⟨by rw [a.1, b.1], by rw [a.2, b.2]⟩
    · have a := (q.2 i hi).2 (fun g => h g.2)
      have b := (q'.2 i hi).2 (fun g => h ((hT i hi).mpr g.2))
      exact ⟨by rw [a.1, b.1]; exact hc i hi, by rw [a.2, b.2]; exact hd i hi⟩
  exact ⟨by rw [q.1, q'.1, cnt_congr hT], fun i hi => (key i hi).1, fun i hi => (key i hi).2⟩
theorem b_rel {p : Prop} {r r' : Int32} (q : (p ∧ r = 1) ∨ (¬ p ∧ r = 0)) (q' : (p ∧ r' = 1) ∨ (¬ p ∧ r' = 0)) : r = r' := by
  rcases q with ⟨a1, a2⟩ | ⟨a1, a2⟩ <;> rcases q' with ⟨b1, b2⟩ | ⟨b1, b2⟩
  · rw [a2, b2]
  · exact absurd a1 b1
  · exact absurd b1 a1
  · rw [a2, b2]
theorem lfin_rel {n : Nat} {Q Q' : Nat → Prop} {col col' u v : Nat → Int32} {c : Int32} (hc : REL n col col') (hQ : ∀ i, i < n → (Q i ↔ Q' i)) (h : LFin n Q col c u) (h' : LFin n Q' col' c v) : REL n u v := by
  intro i hi
  by_cases q : Q i
  · rw [(h i hi).1 q, (h' i hi).1 ((hQ i hi).mp q)]
  · rw [(h i hi).2 q, (h' i hi).2 (fun g => q ((hQ i hi).mpr g))]; exact hc i hi
theorem line_rel {w h : Nat} {col mc u v : Nat → Int32} {x0 y0 x1 y1 c r r' : Int32} (hc : REL (w * h) col (ab w mc))
    (q : (¬ LOK x0 y0 x1 y1 ∧ r = -1 ∧ u = col) ∨ (LOK x0 y0 x1 y1 ∧ WIDE x0 y0 x1 y1 ∧ r = nI (cnt (HIT x0.toInt x1.toInt y0.toInt y1.toInt h) w) ∧ LFin (w * h) (QW w x0 y0 x1 y1) col c u) ∨ (LOK x0 y0 x1 y1 ∧ ¬ WIDE x0 y0 x1 y1 ∧ r = nI (cnt (HIT y0.toInt y1.toInt x0.toInt x1.toInt w) h) ∧ LFin (w * h) (QT w x0 y0 x1 y1) col c u))
    (q' : (¬ LOK x0 y0 x1 y1 ∧ r' = -1 ∧ v = mc) ∨ (LOK x0 y0 x1 y1 ∧ WIDE x0 y0 x1 y1 ∧ r' = nI (cnt (HIT x0.toInt x1.toInt y0.toInt y1.toInt h) w) ∧ LFin (w * h) (QW w x0 y0 x1 y1) (ab w mc) c (ab w v)) ∨ (LOK x0 y0 x1 y1 ∧ ¬ WIDE x0 y0 x1 y1 ∧ r' = nI (cnt (HIT y0.toInt y1.toInt x0.toInt x1.toInt w) h) ∧ LFin (w * h) (QT w x0 y0 x1 y1) (ab w mc) c (ab w v))) : r = r' ∧ REL (w * h) u (ab w v) := by
  rcases q with ⟨a1, a2, a3⟩ | ⟨a1, a2, a3, a4⟩ | ⟨a1, a2, a3, a4⟩ <;> rcases q' with ⟨b1, b2, b3⟩ | ⟨b1, b2, b3, b4⟩ | ⟨b1, b2, b3, b4⟩
  · exact ⟨by rw [a2, b2], by rw [a3, b3]; exact hc⟩
  · exact absurd b1 a1
  · exact absurd b1 a1
  · exact absurd a1 b1
  · exact ⟨by rw [a3, b3], lfin_rel hc (fun _ _ => Iff.rfl) a4 b4⟩
  · exact absurd a2 b2
  · exact absurd a1 b1
  · exact absurd b2 a2
  · exact ⟨by rw [a3, b3], lfin_rel hc (fun _ _ => Iff.rfl) a4 b4⟩
theorem hang_rel {w n : Nat} {col col' : Nat → Int32} {i0 : Nat} (h0 : i0 < n) (hc : REL n col col') (i : Nat) : hang w n (fun a => col a = col i0) i0 i ↔ hang w n (fun a => col' a = col' i0) i0 i := by
  constructor
  · exact hang_cong (fun j hj => by rw [hc j hj, hc i0 h0])
  · exact hang_cong (fun j hj => by rw [hc j hj, hc i0 h0])
theorem fill_rel {w h : Nat} {col mc u v : Nat → Int32} {x y c r r' : Int32} (hc : REL (w * h) col (ab w mc))
    (q : (¬ (inX w h x y ∧ ¬ col (lin w x y) = c) ∧ r = 0 ∧ u = col) ∨ ((inX w h x y ∧ ¬ col (lin w x y) = c) ∧ r = nI (cnt (hang w (w * h) (fun a => col a = col (lin w x y)) (lin w x y)) (w * h)) ∧ LFin (w * h) (hang w (w * h) (fun a => col a = col (lin w x y)) (lin w x y)) col c u))
    (q' : (¬ (inX w h x y ∧ ¬ ab w mc (lin w x y) = c) ∧ r' = 0 ∧ v = mc) ∨ ((inX w h x y ∧ ¬ ab w mc (lin w x y) = c) ∧ r' = nI (cnt (hang w (w * h) (fun a => ab w mc a = ab w mc (lin w x y)) (lin w x y)) (w * h)) ∧ LFin (w * h) (hang w (w * h) (fun a => ab w mc a = ab w mc (lin w x y)) (lin w x y)) (ab w mc) c (ab w v))) : r = r' ∧ REL (w * h) u (ab w v) := by
  have hk : (inX w h x y ∧ ¬ col (lin w x y) = c) ↔ (inX w h x y ∧ ¬ ab w mc (lin w x y) = c) := by
    constructor
    · rintro ⟨g1, g2⟩; exact ⟨g1, by rw [← hc _ (lin_lt g1)]; exact g2⟩
    · rintro ⟨g1, g2⟩; exact ⟨g1, by rw [hc _ (lin_lt g1)]; exact g2⟩
  rcases q with ⟨a1, a2, a3⟩ | ⟨a1, a2, a3⟩ <;> rcases q' with ⟨b1, b2, b3⟩ | ⟨b1, b2, b3⟩
  · exact ⟨by rw [a2, b2], by rw [a3, b3]; exact hc⟩
  · exact absurd (hk.mpr b1) a1
  · exact absurd (hk.mp a1) b1
  · have hl := lin_lt a1.1
    exact ⟨by rw [a2, b2, cnt_congr (fun i _ => hang_rel hl hc i)], lfin_rel hc (fun i _ => hang_rel hl hc i) a3 b3⟩
theorem pix_rel {w h : Nat} {col mc : Nat → Int32} {x y r r' : Int32} (hc : REL (w * h) col (ab w mc)) (q : (inX w h x y ∧ r = col (lin w x y)) ∨ (¬ inX w h x y ∧ r = -1)) (q' : (inX w h x y ∧ r' = ab w mc (lin w x y)) ∨ (¬ inX w h x y ∧ r' = -1)) : r = r' := by
  rcases q with ⟨a1, a2⟩ | ⟨a1, a2⟩ <;> rcases q' with ⟨b1, b2⟩ | ⟨b1, b2⟩
  · rw [a2, b2]; exact hc _ (lin_lt a1)
  · exact absurd a1 b1
  · exact absurd b1 a1
  · rw [a2, b2]
theorem count_rel {w n : Nat} {col mc : Nat → Int32} {c r r' : Int32} (hc : REL n col (ab w mc)) (q : r = nI (cnt (fun i => col i = c) n)) (q' : r' = nI (cnt (fun i => ab w mc i = c) n)) : r = r' := by
  rw [q, q', cnt_congr (fun i hi => by rw [hc i hi])]
theorem pieces_rel {w n : Nat} {col mc : Nat → Int32} {c r r' : Int32} (hc : REL n col (ab w mc)) (q : r = nI (cnt (PCS w n col c) n)) (q' : r' = nI (cnt (PCS w n (ab w mc) c) n)) : r = r' := by
  rw [q, q']
  congr 1
  refine cnt_congr (fun i hi => ?_)
  have hg : ∀ j, j < n → (col j = c ↔ ab w mc j = c) := fun j hj => by rw [hc j hj]
  unfold PCS
  rw [hg i hi]
  refine and_congr_right (fun _ => ?_)
  constructor
  · intro g j hj hcj hh
    exact g j hj ((hg j (by omega)).mpr hcj) (hang_cong (fun a ha => (hg a ha).symm) hh)
  · intro g j hj hcj hh
    exact g j hj ((hg j (by omega)).mp hcj) (hang_cong (fun a ha => hg a ha) hh)
