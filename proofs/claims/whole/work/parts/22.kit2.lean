/-! constructors: the array classes come with the end -/
abbrev mBt {S : Type} (D : va_G) (cl : List vw_C) (tys : S → List (ClassId × FieldType)) (A : Nat → Prop) (out : S → va_W) : S → State → Prop :=
  fun u t => va_P D cl (out u) t.heap ∧ va_K D cl (tys u) t ∧ va_D A (out u)
section MC
variable {p : Program} {l : Launch} {e : Env} {R : Room} {s : State} {m : MethodId} {args : Array Value} {below : List Frame} {meth : Method} {c : Code} {H : Heap} {locs : List Loc} {cells slots : Nat} {Q : State → Prop}
variable {pc : Nat} {ls : Array Slot} {rest st0 : List Value} {a : Array Value} {A0 : Nat → Prop} {H0 : Heap} {mc ms : Nat} {D : va_G} {cl : List vw_C} {ws cs wr : va_W}
theorem m_callvt {S : Type} {post : S → Prop} {out : S → va_W} {tysC : S → List (ClassId × FieldType)} (hP : va_P D cl ws H) (hD : va_D A0 ws) (hS : va_S A0 H0 H locs) (hA : ∀ q, H0.size ≤ q → A0 q) (isC isR : List Nat) (hC : isC.map (fun i => ws[i]?) = cs.map some) (hR : isR.map (fun i => ws[i]?) = wr.map some) (hn : va_nd isR = true) (hdis : ∀ i ∈ isR, i ∉ isC)
    (hr : va_Run p l e R s m args below meth c H locs cells slots mc ms (F0 m pc ls st0) rest (va_Qv post (mBt D cl tysC (va_A cs H.size) out) (va_A cs H.size) a) (va_A cs H.size))
    (kk : ∀ (u : S) (H1 : Heap) (locs1 : List Loc), post u → va_K D cl (tysC u) s → va_P D cl (wr ++ out u) H1 → va_D A0 (wr ++ out u) → va_S A0 H0 H1 locs1 → W p l e R s m args below meth c H1 locs1 (cells + mc) (slots + ms) Q (F0 m (pc + 3) ls rest)) :
    W p l e R s m args below meth c H locs cells slots Q (F0 m pc ls st0) := by
  have hFc := va_free (wc := cs) hD hS hA isC hC
  refine va_callv hr hS (fun q _ h => hFc q h) hFc (fun u t H1 locs1 ht hvm hw hB hz1 hk1 hS1 => ?_)
  obtain ⟨hP1, hK1, hD1⟩ := hB
  rw [ht] at hP1
  obtain ⟨hP2, hD2⟩ := va_join hP hD isC isR hC hR hn hdis hk1 hFc hP1 hD1
  exact kk u H1 locs1 hw (va_K.moved hvm.symm hK1) hP2 hD2 hS1
end MC
/-- a side of the picture -/
def SIDE (x : Int32) (w : Nat) : Prop := ((1 ≤ x.toInt ∧ x.toInt ≤ 24) ∧ (w : Int) = x.toInt) ∨ (¬ (1 ≤ x.toInt ∧ x.toInt ≤ 24) ∧ w = 1)
theorem SIDE_b {x : Int32} {w : Nat} (h : SIDE x w) : 1 ≤ w ∧ w ≤ 24 := by
  rcases h with h | h <;> omega
theorem SIDE_eq {x : Int32} {w v : Nat} (h : SIDE x w) (g : SIDE x v) : w = v := by
  rcases h with h | h <;> rcases g with g | g
  · omega
  · exact absurd h.1 g.1
  · exact absurd g.1 h.1
  · omega
theorem SIDE_of {x r : Int32} (h : ((1 ≤ x.toInt ∧ x.toInt ≤ 24) ∧ r = x) ∨ (¬ (1 ≤ x.toInt ∧ x.toInt ≤ 24) ∧ r = 1)) : ∃ w : Nat, SIDE x w ∧ r = nI w := by
  rcases h with ⟨h1, h2⟩ | ⟨h1, h2⟩
  · exact ⟨x.toInt.toNat, Or.inl ⟨h1, by omega⟩, by rw [h2]; exact nI_toNat (by omega)⟩
  · exact ⟨1, Or.inr ⟨h1, rfl⟩, by rw [h2]; rfl⟩
