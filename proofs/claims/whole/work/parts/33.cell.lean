/-! the law's cell: an int of the script, or 0 -/
abbrev cP (D : va_G) (cl : List vw_C) (b L : Nat) (xs : Nat → Int32) (sz k : Nat) : Array Value → State → Prop := va_Pc [.ref b, .int (nI k)] (fun U => U.heap.size = sz ∧ va_X b L xs U U.heap ∧ b < sz ∧ va_K D cl [] U)
theorem m_preC {s : State} {H : Heap} {locs : List Loc} {D : va_G} {cl : List vw_C} {b L : Nat} {xs : Nat → Int32} {k : Nat} (hX : va_X b L xs s s.heap) (hbl : b < s.heap.size) (hS : va_S (fun q : Nat => s.heap.size ≤ q) s.heap H locs) (hK : va_K D cl [] s) : PreS s H (cP D cl b L xs H.size k) [.ref b, .int (nI k)] :=
  ⟨fun a U g mk q => by
    obtain ⟨q0, q1, qX, qb, qK⟩ := q
    exact ⟨q0, q1, va_X.moved (u := U) (U := U.calling g mk a) (Vm.Alike.refl U.vm) qX, qb, va_K.moved (u := U) (U := U.calling g mk a) (Vm.Alike.refl U.vm) qK⟩,
   fun U hU hW => ⟨rfl, by rw [hU], by rw [hU]; exact va_X.moved hW.alike (hX.kept (hS.2.1 b hbl (Nat.not_le.mpr hbl))), Nat.lt_of_lt_of_le hbl hS.1, va_K.moved hW.alike hK⟩⟩
set_option maxHeartbeats 1000000 in
set_option maxRecDepth 100000 in
theorem c_L_cell (l : Launch) (dC : Nat → ClassId) (dI : Nat → Nat → Nat) (sz : Nat) (b L : Nat) (xs : Nat → Int32) (hL : L < 2 ^ 31) (k : Nat) (hk : k < 2 ^ 31) : Met l yL_cell wsL_cell ({ frames := 0, cells := 0, slots := 0, locals := 0 }) (cP (dC, dI) vwCl b L xs sz k) (va_Qi (fun (r : Int32) (u : Unit) => r = if k < L then xs k else 0) (mB (dC, dI) vwCl [] (va_A [] sz) (fun u => [])) (va_A [] sz)) 0 0 (va_A [] sz) := by
  refine Met.ofW (cc := cL_cell) (maxL := 2) (ret := (some .int)) (by decide) rfl ?_
  intro p e s m args below meth cD s₁ B hml hv
  obtain ⟨rfl, hsz, hX, hbl, hK⟩ := hv
  have hx := B.exec
  have hb := B.bytes
  have hr := B.returns
  have hlocks := B.notSynchronized
  subst hsz
  generalize hAe : va_A [] s.heap.size = A
  have hbA : ¬ A b := by
    rw [← hAe]
    rintro (⟨j, q, h⟩ | h)
    · simp at h
    · omega
  have hS : va_S A s.heap s.heap [] := va_S.rf
  have hP : va_P (dC, dI) vwCl [] s.heap := fun k q h => by simp at h
  have hD : va_D A [] := ⟨fun i j p q h => by simp at h, fun k q h => by simp at h⟩
  have hl := lv_entry ([.ref b, .int (nI k)]) (n := 2) (Nat.le_of_ble_eq_true rfl)
  rw [lg_entry_eq]
  generalize (lg_sl ([.ref b, .int (nI k)]) ++ List.replicate (2 - (lg_sl ([.ref b, .int (nI k)])).length) Slot.unset).toArray = ls at hl ⊢
  have hl : lv_has ls 2 [(0, .ref b), (1, .int (nI k))] := hl
  refine lv_iload_n hx hb dL_cell_0 rfl (lv_at hl 1 rfl) ?_
  refine lv_aload_n hx hb dL_cell_1 rfl (lv_at hl 0 rfl) ?_
  refine va_slen hx hb hX hbl hbA hS dL_cell_2 ?_
  refine lv_icmp_ge (tgt := 12) hx hb dL_cell_3 (by decide) (fun c3 => ?_) (fun c3 => ?_)
  · refine lv_iconst (v := 0) hx hb dL_cell_12 (by decide) ?_
    have c3 : nI L ≤ nI k := c3
    rw [nI_leI hL hk] at c3
    exact W.iret (v := 0) hx hb hr (fun t ht hW => ⟨⟨0, (), rfl, by rw [if_neg (by omega)], by rw [ht]; exact hP, va_K.moved hW.alike hK, hD⟩, hS.F ht⟩) hS.2.2 dL_cell_13
  · have c3 : ¬ nI L ≤ nI k := c3
    rw [nI_leI hL hk] at c3
    refine lv_aload_n hx hb dL_cell_6 rfl (lv_at hl 0 rfl) ?_
    refine lv_iload_n hx hb dL_cell_7 rfl (lv_at hl 1 rfl) ?_
    refine va_sld hx hb hX hbl hbA hS (vp_in_nI (by omega) hL) dL_cell_8 ?_
    refine lv_goto (tgt := 13) hx hb dL_cell_9 (by decide) ?_
    exact W.iret (v := xs (nI k).toNatClampNeg) hx hb hr (fun t ht hW => ⟨⟨_, (), rfl, by rw [if_pos (by omega), nI_clamp hk], by rw [ht]; exact hP, va_K.moved hW.alike hK, hD⟩, hS.F ht⟩) hS.2.2 dL_cell_13
