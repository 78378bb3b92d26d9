set_option maxHeartbeats 1000000 in
set_option maxRecDepth 100000 in
/-- Facet() -/
theorem c_X0_init (l : Launch) (dC : Nat → ClassId) (dI : Nat → Nat → Nat) (sz : Nat) (h0 : Nat) : Met l yX0_init wsX0_init ({ frames := 1, cells := 3, slots := 9, locals := 12 }) (mP (dC, dI) vwCl [] [(h0, .inr (0, [.null, .null, .null, .int 0, .int 0, .long 0]))] sz [.ref h0]) (va_Qv (fun (u : Nat × Nat × Nat × ClassId × ClassId × ClassId) => True) (mBt (dC, dI) vwCl (fun u => [(u.2.2.2.1, .int), (u.2.2.2.2.1, .int), (u.2.2.2.2.2, .int)]) (va_A [(h0, .inr (0, [.null, .null, .null, .int 0, .int 0, .long 0]))] sz) (fun u => [(h0, .inr (0, [.ref u.1, .ref u.2.1, .ref u.2.2.1, .int 1, .int 2, .long 0])), (u.1, .inl (u.2.2.2.1, 3, .inl (fun _ => 0))), (u.2.1, .inl (u.2.2.2.2.1, 3, .inl (fun _ => 0))), (u.2.2.1, .inl (u.2.2.2.2.2, 3, .inl (fun _ => 0)))])) (va_A [(h0, .inr (0, [.null, .null, .null, .int 0, .int 0, .long 0]))] sz)) 3 9 (va_A [(h0, .inr (0, [.null, .null, .null, .int 0, .int 0, .long 0]))] sz) := by
  refine Met.ofW (cc := cX0_init) (maxL := 1) (ret := none) (by decide) rfl ?_
  intro p e s m args below meth cD s₁ B hml hv
  obtain ⟨rfl, hsz, hP, hK, hD0, hN⟩ := hv
  have hx := B.exec
  have hb := B.bytes
  have hr := B.returns
  have hts := atoms_spec (ws := wsX0_init) B.pre
  have hown : s.vm.findClass RX0 = some m.cls := findClass_of_methodNamed B.named
  have hlocks := B.notSynchronized
  have hin : meth.name = "<init>" := (name_of_methodNamed B.named B.method).1
  subst hsz
  have hD := hD0.self (sz := s.heap.size)
  generalize hAe : va_A [(h0, .inr (0, [.null, .null, .null, .int 0, .int 0, .long 0]))] s.heap.size = A at hD ⊢
  have hA : ∀ q : Nat, s.heap.size ≤ q → A q := fun q h => by rw [← hAe]; exact Or.inr h
  have hS : va_S A s.heap s.heap [] := va_S.rf
  have hP : va_P (dC, dI) vwCl [(h0, .inr (0, [.null, .null, .null, .int 0, .int 0, .long 0]))] s.heap := hP
  have hl := lv_entry ([.ref h0]) (n := 1) (Nat.le_of_ble_eq_true rfl)
  rw [lg_entry_eq]
  generalize (lg_sl ([.ref h0]) ++ List.replicate (1 - (lg_sl ([.ref h0])).length) Slot.unset).toArray = ls at hl ⊢
  have hl : lv_has ls 1 [(0, .ref h0)] := hl
  refine lv_aload_n hx hb dX0_init_0 rfl (lv_at hl 0 rfl) ?_
  refine W.objInit hx hb hown (hts (.methodLink RX0 3 objectInit) (by decide +kernel)) (hts (.instanceMethod objectInit) (by decide +kernel)) (hts _ (List.mem_of_getElem? (i := 3) rfl)) rfl (by rw [hml]; exact hl.1) rfl dX0_init_1 (Nat.le_of_ble_eq_true rfl) (Nat.le_of_ble_eq_true rfl) ?_
  refine W.eq (g2 := F0 m 4 ls []) rfl ?_
  refine lv_aload_n hx hb dX0_init_4 rfl (lv_at hl 0 rfl) ?_
  refine lv_iconst (v := 3) hx hb dX0_init_5 (by decide) ?_
  refine va_newa (atype := .int) (a0 := (3, .inl (fun _ => 0))) (ty := .int) (N' := 3) hx hb (hts (.arrayClass .int) (by decide +kernel)) rfl hK hP hD hS hA (fun _ => rfl) (by decide) rfl (by decide) (Nat.le_of_ble_eq_true rfl) (Nat.le_of_ble_eq_true rfl) dX0_init_6 (fun q6 t6 H hK hP hD hS => ?_)
  refine W.widen (k := 1) (n := 3) (by omega) (by omega) ?_
  have hK : va_K (dC, dI) vwCl [(t6, .int)] s := hK
  have hP : va_P (dC, dI) vwCl [(h0, .inr (0, [.null, .null, .null, .int 0, .int 0, .long 0])), (q6, .inl (t6, 3, .inl (fun _ => 0)))] H := hP
  have hD : va_D A [(h0, .inr (0, [.null, .null, .null, .int 0, .int 0, .long 0])), (q6, .inl (t6, 3, .inl (fun _ => 0)))] := hD
  refine va_putF (D := (dC, dI)) (ci := 0) (v := .ref q6) (ty := .array .int) (C := RX0) (T := TX0) (N := 6) hx hb hts (by decide +kernel) tyX0 tyX0_ok nmX0 hown hK hP hD hS 0 rfl rfl 0 (by decide) (hts (.fieldLink RX0 9 "TriangleRaster$Facet" "xs" "[I") (by decide +kernel)) (fun _ h9 => h9) rfl hin rfl (by decide +kernel) rfl rfl (Nat.le_of_ble_eq_true rfl) dX0_init_8 (fun H locs hP hD hS => ?_)
  have hP : va_P (dC, dI) vwCl [(h0, .inr (0, [.ref q6, .null, .null, .int 0, .int 0, .long 0])), (q6, .inl (t6, 3, .inl (fun _ => 0)))] H := hP
  have hD : va_D A [(h0, .inr (0, [.ref q6, .null, .null, .int 0, .int 0, .long 0])), (q6, .inl (t6, 3, .inl (fun _ => 0)))] := hD
  refine lv_aload_n hx hb dX0_init_11 rfl (lv_at hl 0 rfl) ?_
  refine lv_iconst (v := 3) hx hb dX0_init_12 (by decide) ?_
  refine va_newa (atype := .int) (a0 := (3, .inl (fun _ => 0))) (ty := .int) (N' := 3) hx hb (hts (.arrayClass .int) (by decide +kernel)) rfl hK hP hD hS hA (fun _ => rfl) (by decide) rfl (by decide) (Nat.le_of_ble_eq_true rfl) (Nat.le_of_ble_eq_true rfl) dX0_init_13 (fun q13 t13 H hK hP hD hS => ?_)
  refine W.widen (k := 2) (n := 6) (by omega) (by omega) ?_
  have hK : va_K (dC, dI) vwCl [(t6, .int), (t13, .int)] s := hK
  have hP : va_P (dC, dI) vwCl [(h0, .inr (0, [.ref q6, .null, .null, .int 0, .int 0, .long 0])), (q6, .inl (t6, 3, .inl (fun _ => 0))), (q13, .inl (t13, 3, .inl (fun _ => 0)))] H := hP
  have hD : va_D A [(h0, .inr (0, [.ref q6, .null, .null, .int 0, .int 0, .long 0])), (q6, .inl (t6, 3, .inl (fun _ => 0))), (q13, .inl (t13, 3, .inl (fun _ => 0)))] := hD
  refine va_putF (D := (dC, dI)) (ci := 0) (v := .ref q13) (ty := .array .int) (C := RX0) (T := TX0) (N := 6) hx hb hts (by decide +kernel) tyX0 tyX0_ok nmX0 hown hK hP hD hS 0 rfl rfl 1 (by decide) (hts (.fieldLink RX0 15 "TriangleRaster$Facet" "ys" "[I") (by decide +kernel)) (fun _ h9 => h9) rfl hin rfl (by decide +kernel) rfl rfl (Nat.le_of_ble_eq_true rfl) dX0_init_15 (fun H locs hP hD hS => ?_)
  have hP : va_P (dC, dI) vwCl [(h0, .inr (0, [.ref q6, .ref q13, .null, .int 0, .int 0, .long 0])), (q6, .inl (t6, 3, .inl (fun _ => 0))), (q13, .inl (t13, 3, .inl (fun _ => 0)))] H := hP
  have hD : va_D A [(h0, .inr (0, [.ref q6, .ref q13, .null, .int 0, .int 0, .long 0])), (q6, .inl (t6, 3, .inl (fun _ => 0))), (q13, .inl (t13, 3, .inl (fun _ => 0)))] := hD
  refine lv_aload_n hx hb dX0_init_18 rfl (lv_at hl 0 rfl) ?_
  refine lv_iconst (v := 3) hx hb dX0_init_19 (by decide) ?_
  refine va_newa (atype := .int) (a0 := (3, .inl (fun _ => 0))) (ty := .int) (N' := 3) hx hb (hts (.arrayClass .int) (by decide +kernel)) rfl hK hP hD hS hA (fun _ => rfl) (by decide) rfl (by decide) (Nat.le_of_ble_eq_true rfl) (Nat.le_of_ble_eq_true rfl) dX0_init_20 (fun q20 t20 H hK hP hD hS => ?_)
  refine W.widen (k := 3) (n := 9) (by omega) (by omega) ?_
  have hK : va_K (dC, dI) vwCl [(t6, .int), (t13, .int), (t20, .int)] s := hK
  have hP : va_P (dC, dI) vwCl [(h0, .inr (0, [.ref q6, .ref q13, .null, .int 0, .int 0, .long 0])), (q6, .inl (t6, 3, .inl (fun _ => 0))), (q13, .inl (t13, 3, .inl (fun _ => 0))), (q20, .inl (t20, 3, .inl (fun _ => 0)))] H := hP
  have hD : va_D A [(h0, .inr (0, [.ref q6, .ref q13, .null, .int 0, .int 0, .long 0])), (q6, .inl (t6, 3, .inl (fun _ => 0))), (q13, .inl (t13, 3, .inl (fun _ => 0))), (q20, .inl (t20, 3, .inl (fun _ => 0)))] := hD
  refine va_putF (D := (dC, dI)) (ci := 0) (v := .ref q20) (ty := .array .int) (C := RX0) (T := TX0) (N := 6) hx hb hts (by decide +kernel) tyX0 tyX0_ok nmX0 hown hK hP hD hS 0 rfl rfl 2 (by decide) (hts (.fieldLink RX0 18 "TriangleRaster$Facet" "zs" "[I") (by decide +kernel)) (fun _ h9 => h9) rfl hin rfl (by decide +kernel) rfl rfl (Nat.le_of_ble_eq_true rfl) dX0_init_22 (fun H locs hP hD hS => ?_)
  have hP : va_P (dC, dI) vwCl [(h0, .inr (0, [.ref q6, .ref q13, .ref q20, .int 0, .int 0, .long 0])), (q6, .inl (t6, 3, .inl (fun _ => 0))), (q13, .inl (t13, 3, .inl (fun _ => 0))), (q20, .inl (t20, 3, .inl (fun _ => 0)))] H := hP
  have hD : va_D A [(h0, .inr (0, [.ref q6, .ref q13, .ref q20, .int 0, .int 0, .long 0])), (q6, .inl (t6, 3, .inl (fun _ => 0))), (q13, .inl (t13, 3, .inl (fun _ => 0))), (q20, .inl (t20, 3, .inl (fun _ => 0)))] := hD
  refine lv_aload_n hx hb dX0_init_25 rfl (lv_at hl 0 rfl) ?_
  refine lv_iconst (v := 1) hx hb dX0_init_26 (by decide) ?_
  refine va_put (D := (dC, dI)) (ci := 0) (v := .int 1) (ty := .int) (C := RX0) (T := TX0) (N := 6) hx hb hts (by decide +kernel) tyX0 tyX0_ok nmX0 hown hK hP hD hS 0 rfl rfl 3 (by decide) (hts (.fieldLink RX0 21 "TriangleRaster$Facet" "second" "I") (by decide +kernel)) (fun _ h9 => h9) rfl (by decide +kernel) rfl rfl (Nat.le_of_ble_eq_true rfl) dX0_init_27 (fun H locs hP hD hS => ?_)
  have hP : va_P (dC, dI) vwCl [(h0, .inr (0, [.ref q6, .ref q13, .ref q20, .int 1, .int 0, .long 0])), (q6, .inl (t6, 3, .inl (fun _ => 0))), (q13, .inl (t13, 3, .inl (fun _ => 0))), (q20, .inl (t20, 3, .inl (fun _ => 0)))] H := hP
  have hD : va_D A [(h0, .inr (0, [.ref q6, .ref q13, .ref q20, .int 1, .int 0, .long 0])), (q6, .inl (t6, 3, .inl (fun _ => 0))), (q13, .inl (t13, 3, .inl (fun _ => 0))), (q20, .inl (t20, 3, .inl (fun _ => 0)))] := hD
  refine lv_aload_n hx hb dX0_init_30 rfl (lv_at hl 0 rfl) ?_
  refine lv_iconst (v := 2) hx hb dX0_init_31 (by decide) ?_
  refine va_put (D := (dC, dI)) (ci := 0) (v := .int 2) (ty := .int) (C := RX0) (T := TX0) (N := 6) hx hb hts (by decide +kernel) tyX0 tyX0_ok nmX0 hown hK hP hD hS 0 rfl rfl 4 (by decide) (hts (.fieldLink RX0 25 "TriangleRaster$Facet" "third" "I") (by decide +kernel)) (fun _ h9 => h9) rfl (by decide +kernel) rfl rfl (Nat.le_of_ble_eq_true rfl) dX0_init_32 (fun H locs hP hD hS => ?_)
  have hP : va_P (dC, dI) vwCl [(h0, .inr (0, [.ref q6, .ref q13, .ref q20, .int 1, .int 2, .long 0])), (q6, .inl (t6, 3, .inl (fun _ => 0))), (q13, .inl (t13, 3, .inl (fun _ => 0))), (q20, .inl (t20, 3, .inl (fun _ => 0)))] H := hP
  have hD : va_D A [(h0, .inr (0, [.ref q6, .ref q13, .ref q20, .int 1, .int 2, .long 0])), (q6, .inl (t6, 3, .inl (fun _ => 0))), (q13, .inl (t13, 3, .inl (fun _ => 0))), (q20, .inl (t20, 3, .inl (fun _ => 0)))] := hD
  refine lv_aload_n hx hb dX0_init_35 rfl (lv_at hl 0 rfl) ?_
  refine lv_lconst (v := 0) hx hb dX0_init_36 (by decide) ?_
  refine va_put (D := (dC, dI)) (ci := 0) (v := .long 0) (ty := .long) (C := RX0) (T := TX0) (N := 6) hx hb hts (by decide +kernel) tyX0 tyX0_ok nmX0 hown hK hP hD hS 0 rfl rfl 5 (by decide) (hts (.fieldLink RX0 28 "TriangleRaster$Facet" "area" "J") (by decide +kernel)) (fun _ h9 => h9) rfl (by decide +kernel) rfl rfl (Nat.le_of_ble_eq_true rfl) dX0_init_37 (fun H locs hP hD hS => ?_)
  have hP : va_P (dC, dI) vwCl [(h0, .inr (0, [.ref q6, .ref q13, .ref q20, .int 1, .int 2, .long 0])), (q6, .inl (t6, 3, .inl (fun _ => 0))), (q13, .inl (t13, 3, .inl (fun _ => 0))), (q20, .inl (t20, 3, .inl (fun _ => 0)))] H := hP
  have hD : va_D A [(h0, .inr (0, [.ref q6, .ref q13, .ref q20, .int 1, .int 2, .long 0])), (q6, .inl (t6, 3, .inl (fun _ => 0))), (q13, .inl (t13, 3, .inl (fun _ => 0))), (q20, .inl (t20, 3, .inl (fun _ => 0)))] := hD
  have hP9 := hP.sub (ws' := [(h0, .inr (0, [.ref q6, .ref q13, .ref q20, .int 1, .int 2, .long 0])), (q6, .inl (t6, 3, .inl (fun _ => 0))), (q13, .inl (t13, 3, .inl (fun _ => 0))), (q20, .inl (t20, 3, .inl (fun _ => 0)))]) [0, 1, 2, 3] rfl
  have hD9 := hD.sub (ws' := [(h0, .inr (0, [.ref q6, .ref q13, .ref q20, .int 1, .int 2, .long 0])), (q6, .inl (t6, 3, .inl (fun _ => 0))), (q13, .inl (t13, 3, .inl (fun _ => 0))), (q20, .inl (t20, 3, .inl (fun _ => 0)))]) [0, 1, 2, 3] (by decide) rfl
  exact W.vret hx hb hr (fun t ht hW => ⟨⟨(q6, q13, q20, t6, t13, t20), rfl, trivial, by rw [ht]; exact hP9, va_K.moved hW.alike hK, hD9⟩, hS.F ht⟩) hS.2.2 dX0_init_40

set_option maxHeartbeats 1000000 in
set_option maxRecDepth 100000 in
/-- TriangleRaster(w, h) -/
theorem c_X1_init (l : Launch) (dC : Nat → ClassId) (dI : Nat → Nat → Nat) (sz : Nat) (h0 : Nat) (x y : Int32) : Met l yX1_init wsX1_init ({ frames := 2, cells := 8, slots := 2319, locals := 42 }) (mP (dC, dI) vwCl [] [(h0, .inr (1, [.int 0, .int 0, .null, .null, .null, .null, .null, .int 0]))] sz [.ref h0, .int x, .int y]) (va_Qv (fun (u : (Nat → Nat) × (Nat → ClassId) × Nat × Nat) => u.1 0 = h0 ∧ SIDE x u.2.2.1 ∧ SIDE y u.2.2.2) (mBt (dC, dI) vwCl (fun u => [(u.2.1 1, .int), (u.2.1 2, .int), (u.2.1 4, .boolean), (u.2.1 5, .int), (u.2.1 6, .int), (u.2.1 7, .int), (u.2.1 8, .int)]) (va_A [(h0, .inr (1, [.int 0, .int 0, .null, .null, .null, .null, .null, .int 0]))] sz) (fun u => [(u.1 0, .inr (1, [.int (nI u.2.2.1), .int (nI u.2.2.2), .ref (u.1 1), .ref (u.1 2), .ref (u.1 3), .ref (u.1 4), .ref (u.1 5), .int 0])), (u.1 1, .inl (u.2.1 1, (u.2.2.1 * u.2.2.2), .inl (fun _ => 0))), (u.1 2, .inl (u.2.1 2, (u.2.2.1 * u.2.2.2), .inl (fun _ => 0))), (u.1 3, .inr (0, [.ref (u.1 6), .ref (u.1 7), .ref (u.1 8), .int 1, .int 2, .long 0])), (u.1 4, .inl (u.2.1 4, (u.2.2.1 * u.2.2.2), .inl (fun _ => 0))), (u.1 5, .inl (u.2.1 5, (u.2.2.1 * u.2.2.2), .inl (fun _ => 0))), (u.1 6, .inl (u.2.1 6, 3, .inl (fun _ => 0))), (u.1 7, .inl (u.2.1 7, 3, .inl (fun _ => 0))), (u.1 8, .inl (u.2.1 8, 3, .inl (fun _ => 0)))])) (va_A [(h0, .inr (1, [.int 0, .int 0, .null, .null, .null, .null, .null, .int 0]))] sz)) 8 2319 (va_A [(h0, .inr (1, [.int 0, .int 0, .null, .null, .null, .null, .null, .int 0]))] sz) := by
  refine Met.ofW (cc := cX1_init) (maxL := 4) (ret := none) (by decide) rfl ?_
  intro p e s m args below meth cD s₁ B hml hv
  obtain ⟨rfl, hsz, hP, hK, hD0, hN⟩ := hv
  have hx := B.exec
  have hb := B.bytes
  have hr := B.returns
  have hts := atoms_spec (ws := wsX1_init) B.pre
  have hown : s.vm.findClass RX1 = some m.cls := findClass_of_methodNamed B.named
  have hlocks := B.notSynchronized
  have hin : meth.name = "<init>" := (name_of_methodNamed B.named B.method).1
  subst hsz
  have hD := hD0.self (sz := s.heap.size)
  generalize hAe : va_A [(h0, .inr (1, [.int 0, .int 0, .null, .null, .null, .null, .null, .int 0]))] s.heap.size = A at hD ⊢
  have hA : ∀ q : Nat, s.heap.size ≤ q → A q := fun q h => by rw [← hAe]; exact Or.inr h
  have hS : va_S A s.heap s.heap [] := va_S.rf
  have hP : va_P (dC, dI) vwCl [(h0, .inr (1, [.int 0, .int 0, .null, .null, .null, .null, .null, .int 0]))] s.heap := hP
  have hl := lv_entry ([.ref h0, .int x, .int y]) (n := 4) (Nat.le_of_ble_eq_true rfl)
  rw [lg_entry_eq]
  generalize (lg_sl ([.ref h0, .int x, .int y]) ++ List.replicate (4 - (lg_sl ([.ref h0, .int x, .int y])).length) Slot.unset).toArray = ls at hl ⊢
  have hl : lv_has ls 4 [(0, .ref h0), (1, .int x), (2, .int y)] := hl
  refine lv_aload_n hx hb dX1_init_0 rfl (lv_at hl 0 rfl) ?_
  refine W.objInit hx hb hown (hts (.methodLink RX1 1 objectInit) (by decide +kernel)) (hts (.instanceMethod objectInit) (by decide +kernel)) (hts _ (List.mem_of_getElem? (i := 3) rfl)) rfl (by rw [hml]; exact hl.1) rfl dX1_init_1 (Nat.le_of_ble_eq_true rfl) (Nat.le_of_ble_eq_true rfl) ?_
  refine W.eq (g2 := F0 m 4 ls []) rfl ?_
  refine lv_aload_n hx hb dX1_init_4 rfl (lv_at hl 0 rfl) ?_
  refine lv_iload_n hx hb dX1_init_5 rfl (lv_at hl 1 rfl) ?_
  refine m_calli (cs := []) (wr := [(h0, .inr (1, [.int 0, .int 0, .null, .null, .null, .null, .null, .int 0]))]) hP hD hS hA [] [0] rfl rfl (by decide) (by decide) (va_runS (As := [.int x]) (rest := [.ref h0]) ⟨hx, hb, hml, hown, hts⟩ (c_X1_sideOf l dC dI _ x) (va_cwS 1 hts gX1_init_X1_sideOf rfl rfl rfl (by decide +kernel) ⟨Nat.le_of_ble_eq_true rfl, Nat.le_of_ble_eq_true rfl⟩) (m_preS (hP.sub [] rfl) (hK.sub [] rfl) (hD.sub [] (by decide) rfl) hN) rfl rfl hl.1 rfl (lv_room (Nat.le_of_ble_eq_true rfl)) dX1_init_6 ⟨Nat.le_of_ble_eq_true rfl, Nat.le_of_ble_eq_true rfl⟩) (fun r6 _ H locs q6 hK2 hP hD hS => ?_)
  have hP : va_P (dC, dI) vwCl [(h0, .inr (1, [.int 0, .int 0, .null, .null, .null, .null, .null, .int 0]))] H := hP.sub [0] rfl
  have hD : va_D A [(h0, .inr (1, [.int 0, .int 0, .null, .null, .null, .null, .null, .int 0]))] := hD.sub [0] (by decide) rfl
  obtain ⟨wN, hwN, er6⟩ := SIDE_of q6
  subst er6
  refine va_putF (D := (dC, dI)) (ci := 1) (v := .int (nI wN)) (ty := .int) (C := RX1) (T := TX1) (N := 8) hx hb hts (by decide +kernel) tyX1 tyX1_ok nmX1 hown hK hP hD hS 0 rfl rfl 0 (by decide) (hts (.fieldLink RX1 13 "TriangleRaster" "width" "I") (by decide +kernel)) (fun _ h9 => h9) rfl hin rfl (by decide +kernel) rfl rfl (Nat.le_of_ble_eq_true rfl) dX1_init_9 (fun H locs hP hD hS => ?_)
  have hP : va_P (dC, dI) vwCl [(h0, .inr (1, [.int (nI wN), .int 0, .null, .null, .null, .null, .null, .int 0]))] H := hP
  have hD : va_D A [(h0, .inr (1, [.int (nI wN), .int 0, .null, .null, .null, .null, .null, .int 0]))] := hD
  refine lv_aload_n hx hb dX1_init_12 rfl (lv_at hl 0 rfl) ?_
  refine lv_iload_n hx hb dX1_init_13 rfl (lv_at hl 2 rfl) ?_
  refine m_calli (cs := []) (wr := [(h0, .inr (1, [.int (nI wN), .int 0, .null, .null, .null, .null, .null, .int 0]))]) hP hD hS hA [] [0] rfl rfl (by decide) (by decide) (va_runS (As := [.int y]) (rest := [.ref h0]) ⟨hx, hb, hml, hown, hts⟩ (c_X1_sideOf l dC dI _ y) (va_cwS 1 hts gX1_init_X1_sideOf rfl rfl rfl (by decide +kernel) ⟨Nat.le_of_ble_eq_true rfl, Nat.le_of_ble_eq_true rfl⟩) (m_preS (hP.sub [] rfl) (hK.sub [] rfl) (hD.sub [] (by decide) rfl) hN) rfl rfl hl.1 rfl (lv_room (Nat.le_of_ble_eq_true rfl)) dX1_init_14 ⟨Nat.le_of_ble_eq_true rfl, Nat.le_of_ble_eq_true rfl⟩) (fun r14 _ H locs q14 hK2 hP hD hS => ?_)
  have hP : va_P (dC, dI) vwCl [(h0, .inr (1, [.int (nI wN), .int 0, .null, .null, .null, .null, .null, .int 0]))] H := hP.sub [0] rfl
  have hD : va_D A [(h0, .inr (1, [.int (nI wN), .int 0, .null, .null, .null, .null, .null, .int 0]))] := hD.sub [0] (by decide) rfl
  obtain ⟨hN_, hhN_, er14⟩ := SIDE_of q14
  subst er14
  refine va_putF (D := (dC, dI)) (ci := 1) (v := .int (nI hN_)) (ty := .int) (C := RX1) (T := TX1) (N := 8) hx hb hts (by decide +kernel) tyX1 tyX1_ok nmX1 hown hK hP hD hS 0 rfl rfl 1 (by decide) (hts (.fieldLink RX1 17 "TriangleRaster" "height" "I") (by decide +kernel)) (fun _ h9 => h9) rfl hin rfl (by decide +kernel) rfl rfl (Nat.le_of_ble_eq_true rfl) dX1_init_17 (fun H locs hP hD hS => ?_)
  have hP : va_P (dC, dI) vwCl [(h0, .inr (1, [.int (nI wN), .int (nI hN_), .null, .null, .null, .null, .null, .int 0]))] H := hP
  have hD : va_D A [(h0, .inr (1, [.int (nI wN), .int (nI hN_), .null, .null, .null, .null, .null, .int 0]))] := hD
  refine lv_aload_n hx hb dX1_init_20 rfl (lv_at hl 0 rfl) ?_
  refine va_get (D := (dC, dI)) (ci := 1) (v := .int (nI wN)) (C := RX1) (T := TX1) (N := 8) hx hb hts (by decide +kernel) hown hK hP 0 rfl rfl 0 (by decide) (hts (.fieldLink RX1 13 "TriangleRaster" "width" "I") (by decide +kernel)) (fun _ h9 => h9) rfl dX1_init_21 ?_
  refine lv_aload_n hx hb dX1_init_24 rfl (lv_at hl 0 rfl) ?_
  refine va_get (D := (dC, dI)) (ci := 1) (v := .int (nI hN_)) (C := RX1) (T := TX1) (N := 8) hx hb hts (by decide +kernel) hown hK hP 0 rfl rfl 1 (by decide) (hts (.fieldLink RX1 17 "TriangleRaster" "height" "I") (by decide +kernel)) (fun _ h9 => h9) rfl dX1_init_25 ?_
  refine lv_imul hx hb dX1_init_28 ?_
  refine lv_topi (fun zz ezz => ?_)
  obtain rfl : zz = nI (wN * hN_) := ezz.trans (pk_mul _ _)
  have bw := SIDE_b hwN
  have bh := SIDE_b hhN_
  have hwh := wh_le bw.2 bh.2
  refine lv_istore_n (lv' := [(3, .int (nI (wN * hN_))), (0, .ref h0), (1, .int x), (2, .int y)]) hx hb dX1_init_29 rfl hl (by decide) rfl (fun ls hl => ?_)
  refine lv_aload_n hx hb dX1_init_30 rfl (lv_at hl 1 rfl) ?_
  refine lv_iload_n hx hb dX1_init_31 rfl (lv_at hl 0 rfl) ?_
  refine va_newa (atype := .int) (a0 := ((wN * hN_), .inl (fun _ => 0))) (ty := .int) (N' := (wN * hN_)) hx hb (hts (.arrayClass .int) (by decide +kernel)) rfl hK hP hD hS hA (fun _ => rfl) (nI_pos (by omega)) (nI_clamp (by omega)) (by show (wN * hN_) * 4 ≤ 536870912; omega) (Nat.le_of_ble_eq_true rfl) (by show 0 + wN * hN_ ≤ 2319; omega) dX1_init_32 (fun q32 t32 H hK hP hD hS => ?_)
  refine W.widen (k := 1) (n := 576) (by omega) (by omega) ?_
  have hK : va_K (dC, dI) vwCl [(t32, .int)] s := hK
  have hP : va_P (dC, dI) vwCl [(h0, .inr (1, [.int (nI wN), .int (nI hN_), .null, .null, .null, .null, .null, .int 0])), (q32, .inl (t32, (wN * hN_), .inl (fun _ => 0)))] H := hP
  have hD : va_D A [(h0, .inr (1, [.int (nI wN), .int (nI hN_), .null, .null, .null, .null, .null, .int 0])), (q32, .inl (t32, (wN * hN_), .inl (fun _ => 0)))] := hD
  refine va_putF (D := (dC, dI)) (ci := 1) (v := .ref q32) (ty := .array .int) (C := RX1) (T := TX1) (N := 8) hx hb hts (by decide +kernel) tyX1 tyX1_ok nmX1 hown hK hP hD hS 0 rfl rfl 2 (by decide) (hts (.fieldLink RX1 20 "TriangleRaster" "colours" "[I") (by decide +kernel)) (fun _ h9 => h9) rfl hin rfl (by decide +kernel) rfl rfl (Nat.le_of_ble_eq_true rfl) dX1_init_34 (fun H locs hP hD hS => ?_)
  have hP : va_P (dC, dI) vwCl [(h0, .inr (1, [.int (nI wN), .int (nI hN_), .ref q32, .null, .null, .null, .null, .int 0])), (q32, .inl (t32, (wN * hN_), .inl (fun _ => 0)))] H := hP
  have hD : va_D A [(h0, .inr (1, [.int (nI wN), .int (nI hN_), .ref q32, .null, .null, .null, .null, .int 0])), (q32, .inl (t32, (wN * hN_), .inl (fun _ => 0)))] := hD
  refine lv_aload_n hx hb dX1_init_37 rfl (lv_at hl 1 rfl) ?_
  refine lv_iload_n hx hb dX1_init_38 rfl (lv_at hl 0 rfl) ?_
  refine va_newa (atype := .int) (a0 := ((wN * hN_), .inl (fun _ => 0))) (ty := .int) (N' := (wN * hN_)) hx hb (hts (.arrayClass .int) (by decide +kernel)) rfl hK hP hD hS hA (fun _ => rfl) (nI_pos (by omega)) (nI_clamp (by omega)) (by show (wN * hN_) * 4 ≤ 536870912; omega) (Nat.le_of_ble_eq_true rfl) (by show 576 + wN * hN_ ≤ 2319; omega) dX1_init_39 (fun q39 t39 H hK hP hD hS => ?_)
  refine W.widen (k := 2) (n := 1152) (by omega) (by omega) ?_
  have hK : va_K (dC, dI) vwCl [(t32, .int), (t39, .int)] s := hK
  have hP : va_P (dC, dI) vwCl [(h0, .inr (1, [.int (nI wN), .int (nI hN_), .ref q32, .null, .null, .null, .null, .int 0])), (q32, .inl (t32, (wN * hN_), .inl (fun _ => 0))), (q39, .inl (t39, (wN * hN_), .inl (fun _ => 0)))] H := hP
  have hD : va_D A [(h0, .inr (1, [.int (nI wN), .int (nI hN_), .ref q32, .null, .null, .null, .null, .int 0])), (q32, .inl (t32, (wN * hN_), .inl (fun _ => 0))), (q39, .inl (t39, (wN * hN_), .inl (fun _ => 0)))] := hD
  refine va_putF (D := (dC, dI)) (ci := 1) (v := .ref q39) (ty := .array .int) (C := RX1) (T := TX1) (N := 8) hx hb hts (by decide +kernel) tyX1 tyX1_ok nmX1 hown hK hP hD hS 0 rfl rfl 3 (by decide) (hts (.fieldLink RX1 24 "TriangleRaster" "depths" "[I") (by decide +kernel)) (fun _ h9 => h9) rfl hin rfl (by decide +kernel) rfl rfl (Nat.le_of_ble_eq_true rfl) dX1_init_41 (fun H locs hP hD hS => ?_)
  have hP : va_P (dC, dI) vwCl [(h0, .inr (1, [.int (nI wN), .int (nI hN_), .ref q32, .ref q39, .null, .null, .null, .int 0])), (q32, .inl (t32, (wN * hN_), .inl (fun _ => 0))), (q39, .inl (t39, (wN * hN_), .inl (fun _ => 0)))] H := hP
  have hD : va_D A [(h0, .inr (1, [.int (nI wN), .int (nI hN_), .ref q32, .ref q39, .null, .null, .null, .int 0])), (q32, .inl (t32, (wN * hN_), .inl (fun _ => 0))), (q39, .inl (t39, (wN * hN_), .inl (fun _ => 0)))] := hD
  refine lv_aload_n hx hb dX1_init_44 rfl (lv_at hl 1 rfl) ?_
  refine va_new (ci := 0) (fs := [.null, .null, .null, .int 0, .int 0, .long 0]) (C := RX0) (T := TX0) (N := 6) hx hb hts (by decide +kernel) tyX0 tyX0_ok hown (hts (.classLink RX1 27 RX0) (by decide +kernel)) (hts (.instantiable RX0 6) (by decide +kernel)) (hts (.initialized RX0) (by decide +kernel)) hK hP hD hS hA rfl (fun j hj => by rcases (show j = 0 ∨ j = 1 ∨ j = 2 ∨ j = 3 ∨ j = 4 ∨ j = 5 by omega) with rfl | rfl | rfl | rfl | rfl | rfl <;> rfl) (Nat.le_of_ble_eq_true rfl) (Nat.le_of_ble_eq_true rfl) dX1_init_45 (fun q45 H hP hD hS => ?_)
  refine W.widen (k := 3) (n := 1158) (by omega) (by omega) ?_
  have hP : va_P (dC, dI) vwCl [(h0, .inr (1, [.int (nI wN), .int (nI hN_), .ref q32, .ref q39, .null, .null, .null, .int 0])), (q32, .inl (t32, (wN * hN_), .inl (fun _ => 0))), (q39, .inl (t39, (wN * hN_), .inl (fun _ => 0))), (q45, .inr (0, [.null, .null, .null, .int 0, .int 0, .long 0]))] H := hP
  have hD : va_D A [(h0, .inr (1, [.int (nI wN), .int (nI hN_), .ref q32, .ref q39, .null, .null, .null, .int 0])), (q32, .inl (t32, (wN * hN_), .inl (fun _ => 0))), (q39, .inl (t39, (wN * hN_), .inl (fun _ => 0))), (q45, .inr (0, [.null, .null, .null, .int 0, .int 0, .long 0]))] := hD
  refine lv_dup hx hb dX1_init_48 rfl ?_
  refine m_callvt (cs := [(q45, .inr (0, [.null, .null, .null, .int 0, .int 0, .long 0]))]) (wr := [(h0, .inr (1, [.int (nI wN), .int (nI hN_), .ref q32, .ref q39, .null, .null, .null, .int 0])), (q32, .inl (t32, (wN * hN_), .inl (fun _ => 0))), (q39, .inl (t39, (wN * hN_), .inl (fun _ => 0)))]) hP hD hS hA [3] [0, 1, 2] rfl rfl (by decide) (by decide) (va_runIN (As := []) (rest := [.ref q45, .ref h0]) ⟨hx, hb, hml, hown, hts⟩ (c_X0_init l dC dI _ q45) ⟨va_cnB 0 hts gX1_init_X0_init_n29 rfl rfl rfl hN.1 (hts (.initialized RX0) (by decide +kernel)) (by decide +kernel) ⟨Nat.le_of_ble_eq_true rfl, Nat.le_of_ble_eq_true rfl⟩, rfl, hts (.instanceMethod yX0_init) (by decide +kernel)⟩ (m_preS (hP.sub [3] rfl) (hK.sub [] rfl) (hD.sub [3] (by decide) rfl) hN) rfl rfl hl.1 rfl (lv_room (Nat.le_of_ble_eq_true rfl)) dX1_init_49 ⟨Nat.le_of_ble_eq_true rfl, Nat.le_of_ble_eq_true rfl⟩) (fun u49 H locs _ hK2 hP hD hS => ?_)
  obtain ⟨f6, f7, f8, y6, y7, y8⟩ := u49
  have hK := hK.app hK2
  have hK : va_K (dC, dI) vwCl [(t32, .int), (t39, .int), (y6, .int), (y7, .int), (y8, .int)] s := hK
  have hP : va_P (dC, dI) vwCl [(h0, .inr (1, [.int (nI wN), .int (nI hN_), .ref q32, .ref q39, .null, .null, .null, .int 0])), (q32, .inl (t32, (wN * hN_), .inl (fun _ => 0))), (q39, .inl (t39, (wN * hN_), .inl (fun _ => 0))), (q45, .inr (0, [.ref f6, .ref f7, .ref f8, .int 1, .int 2, .long 0])), (f6, .inl (y6, 3, .inl (fun _ => 0))), (f7, .inl (y7, 3, .inl (fun _ => 0))), (f8, .inl (y8, 3, .inl (fun _ => 0)))] H := hP.sub [0, 1, 2, 3, 4, 5, 6] rfl
  have hD : va_D A [(h0, .inr (1, [.int (nI wN), .int (nI hN_), .ref q32, .ref q39, .null, .null, .null, .int 0])), (q32, .inl (t32, (wN * hN_), .inl (fun _ => 0))), (q39, .inl (t39, (wN * hN_), .inl (fun _ => 0))), (q45, .inr (0, [.ref f6, .ref f7, .ref f8, .int 1, .int 2, .long 0])), (f6, .inl (y6, 3, .inl (fun _ => 0))), (f7, .inl (y7, 3, .inl (fun _ => 0))), (f8, .inl (y8, 3, .inl (fun _ => 0)))] := hD.sub [0, 1, 2, 3, 4, 5, 6] (by decide) rfl
  refine W.widen (k := 6) (n := 1167) (by omega) (by omega) ?_
  refine va_putF (D := (dC, dI)) (ci := 1) (v := .ref q45) (ty := .object "TriangleRaster$Facet") (C := RX1) (T := TX1) (N := 8) hx hb hts (by decide +kernel) tyX1 tyX1_ok nmX1 hown hK hP hD hS 0 rfl rfl 4 (by decide) (hts (.fieldLink RX1 30 "TriangleRaster" "facet" "LTriangleRaster$Facet;") (by decide +kernel)) (fun _ h9 => h9) rfl hin rfl (by decide +kernel) rfl rfl (Nat.le_of_ble_eq_true rfl) dX1_init_52 (fun H locs hP hD hS => ?_)
  have hP : va_P (dC, dI) vwCl [(h0, .inr (1, [.int (nI wN), .int (nI hN_), .ref q32, .ref q39, .ref q45, .null, .null, .int 0])), (q32, .inl (t32, (wN * hN_), .inl (fun _ => 0))), (q39, .inl (t39, (wN * hN_), .inl (fun _ => 0))), (q45, .inr (0, [.ref f6, .ref f7, .ref f8, .int 1, .int 2, .long 0])), (f6, .inl (y6, 3, .inl (fun _ => 0))), (f7, .inl (y7, 3, .inl (fun _ => 0))), (f8, .inl (y8, 3, .inl (fun _ => 0)))] H := hP
  have hD : va_D A [(h0, .inr (1, [.int (nI wN), .int (nI hN_), .ref q32, .ref q39, .ref q45, .null, .null, .int 0])), (q32, .inl (t32, (wN * hN_), .inl (fun _ => 0))), (q39, .inl (t39, (wN * hN_), .inl (fun _ => 0))), (q45, .inr (0, [.ref f6, .ref f7, .ref f8, .int 1, .int 2, .long 0])), (f6, .inl (y6, 3, .inl (fun _ => 0))), (f7, .inl (y7, 3, .inl (fun _ => 0))), (f8, .inl (y8, 3, .inl (fun _ => 0)))] := hD
  refine lv_aload_n hx hb dX1_init_55 rfl (lv_at hl 1 rfl) ?_
  refine lv_iload_n hx hb dX1_init_56 rfl (lv_at hl 0 rfl) ?_
  refine va_newa (atype := .boolean) (a0 := ((wN * hN_), .inl (fun _ => 0))) (ty := .boolean) (N' := (wN * hN_)) hx hb (hts (.arrayClass .boolean) (by decide +kernel)) rfl hK hP hD hS hA (fun _ => rfl) (nI_pos (by omega)) (nI_clamp (by omega)) (by show (wN * hN_) * 1 ≤ 536870912; omega) (Nat.le_of_ble_eq_true rfl) (by show 1167 + wN * hN_ ≤ 2319; omega) dX1_init_57 (fun q57 t57 H hK hP hD hS => ?_)
  refine W.widen (k := 7) (n := 1743) (by omega) (by omega) ?_
  have hK : va_K (dC, dI) vwCl [(t32, .int), (t39, .int), (y6, .int), (y7, .int), (y8, .int), (t57, .boolean)] s := hK
  have hP : va_P (dC, dI) vwCl [(h0, .inr (1, [.int (nI wN), .int (nI hN_), .ref q32, .ref q39, .ref q45, .null, .null, .int 0])), (q32, .inl (t32, (wN * hN_), .inl (fun _ => 0))), (q39, .inl (t39, (wN * hN_), .inl (fun _ => 0))), (q45, .inr (0, [.ref f6, .ref f7, .ref f8, .int 1, .int 2, .long 0])), (f6, .inl (y6, 3, .inl (fun _ => 0))), (f7, .inl (y7, 3, .inl (fun _ => 0))), (f8, .inl (y8, 3, .inl (fun _ => 0))), (q57, .inl (t57, (wN * hN_), .inl (fun _ => 0)))] H := hP
  have hD : va_D A [(h0, .inr (1, [.int (nI wN), .int (nI hN_), .ref q32, .ref q39, .ref q45, .null, .null, .int 0])), (q32, .inl (t32, (wN * hN_), .inl (fun _ => 0))), (q39, .inl (t39, (wN * hN_), .inl (fun _ => 0))), (q45, .inr (0, [.ref f6, .ref f7, .ref f8, .int 1, .int 2, .long 0])), (f6, .inl (y6, 3, .inl (fun _ => 0))), (f7, .inl (y7, 3, .inl (fun _ => 0))), (f8, .inl (y8, 3, .inl (fun _ => 0))), (q57, .inl (t57, (wN * hN_), .inl (fun _ => 0)))] := hD
  refine va_putF (D := (dC, dI)) (ci := 1) (v := .ref q57) (ty := .array .boolean) (C := RX1) (T := TX1) (N := 8) hx hb hts (by decide +kernel) tyX1 tyX1_ok nmX1 hown hK hP hD hS 0 rfl rfl 5 (by decide) (hts (.fieldLink RX1 34 "TriangleRaster" "reached" "[Z") (by decide +kernel)) (fun _ h9 => h9) rfl hin rfl (by decide +kernel) rfl rfl (Nat.le_of_ble_eq_true rfl) dX1_init_59 (fun H locs hP hD hS => ?_)
  have hP : va_P (dC, dI) vwCl [(h0, .inr (1, [.int (nI wN), .int (nI hN_), .ref q32, .ref q39, .ref q45, .ref q57, .null, .int 0])), (q32, .inl (t32, (wN * hN_), .inl (fun _ => 0))), (q39, .inl (t39, (wN * hN_), .inl (fun _ => 0))), (q45, .inr (0, [.ref f6, .ref f7, .ref f8, .int 1, .int 2, .long 0])), (f6, .inl (y6, 3, .inl (fun _ => 0))), (f7, .inl (y7, 3, .inl (fun _ => 0))), (f8, .inl (y8, 3, .inl (fun _ => 0))), (q57, .inl (t57, (wN * hN_), .inl (fun _ => 0)))] H := hP
  have hD : va_D A [(h0, .inr (1, [.int (nI wN), .int (nI hN_), .ref q32, .ref q39, .ref q45, .ref q57, .null, .int 0])), (q32, .inl (t32, (wN * hN_), .inl (fun _ => 0))), (q39, .inl (t39, (wN * hN_), .inl (fun _ => 0))), (q45, .inr (0, [.ref f6, .ref f7, .ref f8, .int 1, .int 2, .long 0])), (f6, .inl (y6, 3, .inl (fun _ => 0))), (f7, .inl (y7, 3, .inl (fun _ => 0))), (f8, .inl (y8, 3, .inl (fun _ => 0))), (q57, .inl (t57, (wN * hN_), .inl (fun _ => 0)))] := hD
  refine lv_aload_n hx hb dX1_init_62 rfl (lv_at hl 1 rfl) ?_
  refine lv_iload_n hx hb dX1_init_63 rfl (lv_at hl 0 rfl) ?_
  refine va_newa (atype := .int) (a0 := ((wN * hN_), .inl (fun _ => 0))) (ty := .int) (N' := (wN * hN_)) hx hb (hts (.arrayClass .int) (by decide +kernel)) rfl hK hP hD hS hA (fun _ => rfl) (nI_pos (by omega)) (nI_clamp (by omega)) (by show (wN * hN_) * 4 ≤ 536870912; omega) (Nat.le_of_ble_eq_true rfl) (by show 1743 + wN * hN_ ≤ 2319; omega) dX1_init_64 (fun q64 t64 H hK hP hD hS => ?_)
  refine W.widen (k := 8) (n := 2319) (by omega) (by omega) ?_
  have hK : va_K (dC, dI) vwCl [(t32, .int), (t39, .int), (y6, .int), (y7, .int), (y8, .int), (t57, .boolean), (t64, .int)] s := hK
  have hP : va_P (dC, dI) vwCl [(h0, .inr (1, [.int (nI wN), .int (nI hN_), .ref q32, .ref q39, .ref q45, .ref q57, .null, .int 0])), (q32, .inl (t32, (wN * hN_), .inl (fun _ => 0))), (q39, .inl (t39, (wN * hN_), .inl (fun _ => 0))), (q45, .inr (0, [.ref f6, .ref f7, .ref f8, .int 1, .int 2, .long 0])), (f6, .inl (y6, 3, .inl (fun _ => 0))), (f7, .inl (y7, 3, .inl (fun _ => 0))), (f8, .inl (y8, 3, .inl (fun _ => 0))), (q57, .inl (t57, (wN * hN_), .inl (fun _ => 0))), (q64, .inl (t64, (wN * hN_), .inl (fun _ => 0)))] H := hP
  have hD : va_D A [(h0, .inr (1, [.int (nI wN), .int (nI hN_), .ref q32, .ref q39, .ref q45, .ref q57, .null, .int 0])), (q32, .inl (t32, (wN * hN_), .inl (fun _ => 0))), (q39, .inl (t39, (wN * hN_), .inl (fun _ => 0))), (q45, .inr (0, [.ref f6, .ref f7, .ref f8, .int 1, .int 2, .long 0])), (f6, .inl (y6, 3, .inl (fun _ => 0))), (f7, .inl (y7, 3, .inl (fun _ => 0))), (f8, .inl (y8, 3, .inl (fun _ => 0))), (q57, .inl (t57, (wN * hN_), .inl (fun _ => 0))), (q64, .inl (t64, (wN * hN_), .inl (fun _ => 0)))] := hD
  refine va_putF (D := (dC, dI)) (ci := 1) (v := .ref q64) (ty := .array .int) (C := RX1) (T := TX1) (N := 8) hx hb hts (by decide +kernel) tyX1 tyX1_ok nmX1 hown hK hP hD hS 0 rfl rfl 6 (by decide) (hts (.fieldLink RX1 38 "TriangleRaster" "queue" "[I") (by decide +kernel)) (fun _ h9 => h9) rfl hin rfl (by decide +kernel) rfl rfl (Nat.le_of_ble_eq_true rfl) dX1_init_66 (fun H locs hP hD hS => ?_)
  have hP : va_P (dC, dI) vwCl [(h0, .inr (1, [.int (nI wN), .int (nI hN_), .ref q32, .ref q39, .ref q45, .ref q57, .ref q64, .int 0])), (q32, .inl (t32, (wN * hN_), .inl (fun _ => 0))), (q39, .inl (t39, (wN * hN_), .inl (fun _ => 0))), (q45, .inr (0, [.ref f6, .ref f7, .ref f8, .int 1, .int 2, .long 0])), (f6, .inl (y6, 3, .inl (fun _ => 0))), (f7, .inl (y7, 3, .inl (fun _ => 0))), (f8, .inl (y8, 3, .inl (fun _ => 0))), (q57, .inl (t57, (wN * hN_), .inl (fun _ => 0))), (q64, .inl (t64, (wN * hN_), .inl (fun _ => 0)))] H := hP
  have hD : va_D A [(h0, .inr (1, [.int (nI wN), .int (nI hN_), .ref q32, .ref q39, .ref q45, .ref q57, .ref q64, .int 0])), (q32, .inl (t32, (wN * hN_), .inl (fun _ => 0))), (q39, .inl (t39, (wN * hN_), .inl (fun _ => 0))), (q45, .inr (0, [.ref f6, .ref f7, .ref f8, .int 1, .int 2, .long 0])), (f6, .inl (y6, 3, .inl (fun _ => 0))), (f7, .inl (y7, 3, .inl (fun _ => 0))), (f8, .inl (y8, 3, .inl (fun _ => 0))), (q57, .inl (t57, (wN * hN_), .inl (fun _ => 0))), (q64, .inl (t64, (wN * hN_), .inl (fun _ => 0)))] := hD
  refine lv_aload_n hx hb dX1_init_69 rfl (lv_at hl 1 rfl) ?_
  refine lv_iconst (v := 0) hx hb dX1_init_70 (by decide) ?_
  refine va_put (D := (dC, dI)) (ci := 1) (v := .int 0) (ty := .int) (C := RX1) (T := TX1) (N := 8) hx hb hts (by decide +kernel) tyX1 tyX1_ok nmX1 hown hK hP hD hS 0 rfl rfl 7 (by decide) (hts (.fieldLink RX1 41 "TriangleRaster" "queued" "I") (by decide +kernel)) (fun _ h9 => h9) rfl (by decide +kernel) rfl rfl (Nat.le_of_ble_eq_true rfl) dX1_init_71 (fun H locs hP hD hS => ?_)
  have hP : va_P (dC, dI) vwCl [(h0, .inr (1, [.int (nI wN), .int (nI hN_), .ref q32, .ref q39, .ref q45, .ref q57, .ref q64, .int 0])), (q32, .inl (t32, (wN * hN_), .inl (fun _ => 0))), (q39, .inl (t39, (wN * hN_), .inl (fun _ => 0))), (q45, .inr (0, [.ref f6, .ref f7, .ref f8, .int 1, .int 2, .long 0])), (f6, .inl (y6, 3, .inl (fun _ => 0))), (f7, .inl (y7, 3, .inl (fun _ => 0))), (f8, .inl (y8, 3, .inl (fun _ => 0))), (q57, .inl (t57, (wN * hN_), .inl (fun _ => 0))), (q64, .inl (t64, (wN * hN_), .inl (fun _ => 0)))] H := hP
  have hD : va_D A [(h0, .inr (1, [.int (nI wN), .int (nI hN_), .ref q32, .ref q39, .ref q45, .ref q57, .ref q64, .int 0])), (q32, .inl (t32, (wN * hN_), .inl (fun _ => 0))), (q39, .inl (t39, (wN * hN_), .inl (fun _ => 0))), (q45, .inr (0, [.ref f6, .ref f7, .ref f8, .int 1, .int 2, .long 0])), (f6, .inl (y6, 3, .inl (fun _ => 0))), (f7, .inl (y7, 3, .inl (fun _ => 0))), (f8, .inl (y8, 3, .inl (fun _ => 0))), (q57, .inl (t57, (wN * hN_), .inl (fun _ => 0))), (q64, .inl (t64, (wN * hN_), .inl (fun _ => 0)))] := hD
  have hP9 := hP.sub (ws' := [(h0, .inr (1, [.int (nI wN), .int (nI hN_), .ref q32, .ref q39, .ref q45, .ref q57, .ref q64, .int 0])), (q32, .inl (t32, (wN * hN_), .inl (fun _ => 0))), (q39, .inl (t39, (wN * hN_), .inl (fun _ => 0))), (q45, .inr (0, [.ref f6, .ref f7, .ref f8, .int 1, .int 2, .long 0])), (q57, .inl (t57, (wN * hN_), .inl (fun _ => 0))), (q64, .inl (t64, (wN * hN_), .inl (fun _ => 0))), (f6, .inl (y6, 3, .inl (fun _ => 0))), (f7, .inl (y7, 3, .inl (fun _ => 0))), (f8, .inl (y8, 3, .inl (fun _ => 0)))]) [0, 1, 2, 3, 7, 8, 4, 5, 6] rfl
  have hD9 := hD.sub (ws' := [(h0, .inr (1, [.int (nI wN), .int (nI hN_), .ref q32, .ref q39, .ref q45, .ref q57, .ref q64, .int 0])), (q32, .inl (t32, (wN * hN_), .inl (fun _ => 0))), (q39, .inl (t39, (wN * hN_), .inl (fun _ => 0))), (q45, .inr (0, [.ref f6, .ref f7, .ref f8, .int 1, .int 2, .long 0])), (q57, .inl (t57, (wN * hN_), .inl (fun _ => 0))), (q64, .inl (t64, (wN * hN_), .inl (fun _ => 0))), (f6, .inl (y6, 3, .inl (fun _ => 0))), (f7, .inl (y7, 3, .inl (fun _ => 0))), (f8, .inl (y8, 3, .inl (fun _ => 0)))]) [0, 1, 2, 3, 7, 8, 4, 5, 6] (by decide) rfl
  have hK9 := hK.sub (tys' := [(t32, .int), (t39, .int), (t57, .boolean), (t64, .int), (y6, .int), (y7, .int), (y8, .int)]) [0, 1, 5, 6, 2, 3, 4] rfl
  refine W.widen (k := 8) (n := 2319) (by omega) (by omega) ?_
  exact W.vret hx hb hr (fun t ht hW => ⟨⟨((fun k => match k with | 0 => h0 | 1 => q32 | 2 => q39 | 3 => q45 | 4 => q57 | 5 => q64 | 6 => f6 | 7 => f7 | _ => f8), (fun k => match k with | 0 => t32 | 1 => t32 | 2 => t39 | 3 => t39 | 4 => t57 | 5 => t64 | 6 => y6 | 7 => y7 | _ => y8), wN, hN_), rfl, ⟨rfl, hwN, hhN_⟩, by rw [ht]; exact hP9, va_K.moved hW.alike hK9, hD9⟩, hS.F ht⟩) hS.2.2 dX1_init_74

