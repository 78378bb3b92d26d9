set_option maxHeartbeats 1000000 in
set_option maxRecDepth 100000 in
/-- TriangleRasterModel(w, h) -/
theorem c_X2_init (l : Launch) (dC : Nat → ClassId) (dI : Nat → Nat → Nat) (sz : Nat) (h0 : Nat) (x y : Int32) : Met l yX2_init wsX2_init ({ frames := 1, cells := 6, slots := 1737, locals := 12 }) (mP (dC, dI) vwCl [] [(h0, .inr (2, [.int 0, .int 0, .null, .null, .null, .null, .null, .null]))] sz [.ref h0, .int x, .int y]) (va_Qv (fun (u : (Nat → Nat) × (Nat → ClassId) × Nat × Nat) => u.1 0 = h0 ∧ SIDE x u.2.2.1 ∧ SIDE y u.2.2.2) (mBt (dC, dI) vwCl (fun u => [(u.2.1 1, .int), (u.2.1 2, .int), (u.2.1 3, .int), (u.2.1 4, .int), (u.2.1 5, .int), (u.2.1 6, .boolean)]) (va_A [(h0, .inr (2, [.int 0, .int 0, .null, .null, .null, .null, .null, .null]))] sz) (fun u => [(u.1 0, .inr (2, [.int (nI u.2.2.1), .int (nI u.2.2.2), .ref (u.1 1), .ref (u.1 2), .ref (u.1 3), .ref (u.1 4), .ref (u.1 5), .ref (u.1 6)])), (u.1 1, .inl (u.2.1 1, 576, .inl (fun _ => 0))), (u.1 2, .inl (u.2.1 2, 576, .inl (fun _ => 0))), (u.1 3, .inl (u.2.1 3, 3, .inl (fun _ => 0))), (u.1 4, .inl (u.2.1 4, 3, .inl (fun _ => 0))), (u.1 5, .inl (u.2.1 5, 3, .inl (fun _ => 0))), (u.1 6, .inl (u.2.1 6, 576, .inl (fun _ => 0)))])) (va_A [(h0, .inr (2, [.int 0, .int 0, .null, .null, .null, .null, .null, .null]))] sz)) 6 1737 (va_A [(h0, .inr (2, [.int 0, .int 0, .null, .null, .null, .null, .null, .null]))] sz) := by
  refine Met.ofW (cc := cX2_init) (maxL := 3) (ret := none) (by decide) rfl ?_
  intro p e s m args below meth cD s₁ B hml hv
  obtain ⟨rfl, hsz, hP, hK, hD0, hN⟩ := hv
  have hx := B.exec
  have hb := B.bytes
  have hr := B.returns
  have hts := atoms_spec (ws := wsX2_init) B.pre
  have hown : s.vm.findClass RX2 = some m.cls := findClass_of_methodNamed B.named
  have hlocks := B.notSynchronized
  have hin : meth.name = "<init>" := (name_of_methodNamed B.named B.method).1
  subst hsz
  have hD := hD0.self (sz := s.heap.size)
  generalize hAe : va_A [(h0, .inr (2, [.int 0, .int 0, .null, .null, .null, .null, .null, .null]))] s.heap.size = A at hD ⊢
  have hA : ∀ q : Nat, s.heap.size ≤ q → A q := fun q h => by rw [← hAe]; exact Or.inr h
  have hS : va_S A s.heap s.heap [] := va_S.rf
  have hP : va_P (dC, dI) vwCl [(h0, .inr (2, [.int 0, .int 0, .null, .null, .null, .null, .null, .null]))] s.heap := hP
  have hl := lv_entry ([.ref h0, .int x, .int y]) (n := 3) (Nat.le_of_ble_eq_true rfl)
  rw [lg_entry_eq]
  generalize (lg_sl ([.ref h0, .int x, .int y]) ++ List.replicate (3 - (lg_sl ([.ref h0, .int x, .int y])).length) Slot.unset).toArray = ls at hl ⊢
  have hl : lv_has ls 3 [(0, .ref h0), (1, .int x), (2, .int y)] := hl
  refine lv_aload_n hx hb dX2_init_0 rfl (lv_at hl 0 rfl) ?_
  refine W.objInit hx hb hown (hts (.methodLink RX2 1 objectInit) (by decide +kernel)) (hts (.instanceMethod objectInit) (by decide +kernel)) (hts _ (List.mem_of_getElem? (i := 3) rfl)) rfl (by rw [hml]; exact hl.1) rfl dX2_init_1 (Nat.le_of_ble_eq_true rfl) (Nat.le_of_ble_eq_true rfl) ?_
  refine W.eq (g2 := F0 m 4 ls []) rfl ?_
  refine lv_aload_n hx hb dX2_init_4 rfl (lv_at hl 0 rfl) ?_
  refine lv_sipush (v := 576) hx hb dX2_init_5 (by decide) ?_
  refine va_newa (atype := .int) (a0 := (576, .inl (fun _ => 0))) (ty := .int) (N' := 576) hx hb (hts (.arrayClass .int) (by decide +kernel)) rfl hK hP hD hS hA (fun _ => rfl) (by decide) rfl (by decide) (Nat.le_of_ble_eq_true rfl) (Nat.le_of_ble_eq_true rfl) dX2_init_8 (fun q8 t8 H hK hP hD hS => ?_)
  refine W.widen (k := 1) (n := 576) (by omega) (by omega) ?_
  have hK : va_K (dC, dI) vwCl [(t8, .int)] s := hK
  have hP : va_P (dC, dI) vwCl [(h0, .inr (2, [.int 0, .int 0, .null, .null, .null, .null, .null, .null])), (q8, .inl (t8, 576, .inl (fun _ => 0)))] H := hP
  have hD : va_D A [(h0, .inr (2, [.int 0, .int 0, .null, .null, .null, .null, .null, .null])), (q8, .inl (t8, 576, .inl (fun _ => 0)))] := hD
  refine va_putF (D := (dC, dI)) (ci := 2) (v := .ref q8) (ty := .array .int) (C := RX2) (T := TX2) (N := 8) hx hb hts (by decide +kernel) tyX2 tyX2_ok nmX2 hown hK hP hD hS 0 rfl rfl 2 (by decide) (hts (.fieldLink RX2 7 "TriangleRasterModel" "colours" "[I") (by decide +kernel)) (fun _ h9 => h9) rfl hin rfl (by decide +kernel) rfl rfl (Nat.le_of_ble_eq_true rfl) dX2_init_10 (fun H locs hP hD hS => ?_)
  have hP : va_P (dC, dI) vwCl [(h0, .inr (2, [.int 0, .int 0, .ref q8, .null, .null, .null, .null, .null])), (q8, .inl (t8, 576, .inl (fun _ => 0)))] H := hP
  have hD : va_D A [(h0, .inr (2, [.int 0, .int 0, .ref q8, .null, .null, .null, .null, .null])), (q8, .inl (t8, 576, .inl (fun _ => 0)))] := hD
  refine lv_aload_n hx hb dX2_init_13 rfl (lv_at hl 0 rfl) ?_
  refine lv_sipush (v := 576) hx hb dX2_init_14 (by decide) ?_
  refine va_newa (atype := .int) (a0 := (576, .inl (fun _ => 0))) (ty := .int) (N' := 576) hx hb (hts (.arrayClass .int) (by decide +kernel)) rfl hK hP hD hS hA (fun _ => rfl) (by decide) rfl (by decide) (Nat.le_of_ble_eq_true rfl) (Nat.le_of_ble_eq_true rfl) dX2_init_17 (fun q17 t17 H hK hP hD hS => ?_)
  refine W.widen (k := 2) (n := 1152) (by omega) (by omega) ?_
  have hK : va_K (dC, dI) vwCl [(t8, .int), (t17, .int)] s := hK
  have hP : va_P (dC, dI) vwCl [(h0, .inr (2, [.int 0, .int 0, .ref q8, .null, .null, .null, .null, .null])), (q8, .inl (t8, 576, .inl (fun _ => 0))), (q17, .inl (t17, 576, .inl (fun _ => 0)))] H := hP
  have hD : va_D A [(h0, .inr (2, [.int 0, .int 0, .ref q8, .null, .null, .null, .null, .null])), (q8, .inl (t8, 576, .inl (fun _ => 0))), (q17, .inl (t17, 576, .inl (fun _ => 0)))] := hD
  refine va_putF (D := (dC, dI)) (ci := 2) (v := .ref q17) (ty := .array .int) (C := RX2) (T := TX2) (N := 8) hx hb hts (by decide +kernel) tyX2 tyX2_ok nmX2 hown hK hP hD hS 0 rfl rfl 3 (by decide) (hts (.fieldLink RX2 13 "TriangleRasterModel" "depths" "[I") (by decide +kernel)) (fun _ h9 => h9) rfl hin rfl (by decide +kernel) rfl rfl (Nat.le_of_ble_eq_true rfl) dX2_init_19 (fun H locs hP hD hS => ?_)
  have hP : va_P (dC, dI) vwCl [(h0, .inr (2, [.int 0, .int 0, .ref q8, .ref q17, .null, .null, .null, .null])), (q8, .inl (t8, 576, .inl (fun _ => 0))), (q17, .inl (t17, 576, .inl (fun _ => 0)))] H := hP
  have hD : va_D A [(h0, .inr (2, [.int 0, .int 0, .ref q8, .ref q17, .null, .null, .null, .null])), (q8, .inl (t8, 576, .inl (fun _ => 0))), (q17, .inl (t17, 576, .inl (fun _ => 0)))] := hD
  refine lv_aload_n hx hb dX2_init_22 rfl (lv_at hl 0 rfl) ?_
  refine lv_iconst (v := 3) hx hb dX2_init_23 (by decide) ?_
  refine va_newa (atype := .int) (a0 := (3, .inl (fun _ => 0))) (ty := .int) (N' := 3) hx hb (hts (.arrayClass .int) (by decide +kernel)) rfl hK hP hD hS hA (fun _ => rfl) (by decide) rfl (by decide) (Nat.le_of_ble_eq_true rfl) (Nat.le_of_ble_eq_true rfl) dX2_init_24 (fun q24 t24 H hK hP hD hS => ?_)
  refine W.widen (k := 3) (n := 1155) (by omega) (by omega) ?_
  have hK : va_K (dC, dI) vwCl [(t8, .int), (t17, .int), (t24, .int)] s := hK
  have hP : va_P (dC, dI) vwCl [(h0, .inr (2, [.int 0, .int 0, .ref q8, .ref q17, .null, .null, .null, .null])), (q8, .inl (t8, 576, .inl (fun _ => 0))), (q17, .inl (t17, 576, .inl (fun _ => 0))), (q24, .inl (t24, 3, .inl (fun _ => 0)))] H := hP
  have hD : va_D A [(h0, .inr (2, [.int 0, .int 0, .ref q8, .ref q17, .null, .null, .null, .null])), (q8, .inl (t8, 576, .inl (fun _ => 0))), (q17, .inl (t17, 576, .inl (fun _ => 0))), (q24, .inl (t24, 3, .inl (fun _ => 0)))] := hD
  refine va_putF (D := (dC, dI)) (ci := 2) (v := .ref q24) (ty := .array .int) (C := RX2) (T := TX2) (N := 8) hx hb hts (by decide +kernel) tyX2 tyX2_ok nmX2 hown hK hP hD hS 0 rfl rfl 4 (by decide) (hts (.fieldLink RX2 16 "TriangleRasterModel" "xs" "[I") (by decide +kernel)) (fun _ h9 => h9) rfl hin rfl (by decide +kernel) rfl rfl (Nat.le_of_ble_eq_true rfl) dX2_init_26 (fun H locs hP hD hS => ?_)
  have hP : va_P (dC, dI) vwCl [(h0, .inr (2, [.int 0, .int 0, .ref q8, .ref q17, .ref q24, .null, .null, .null])), (q8, .inl (t8, 576, .inl (fun _ => 0))), (q17, .inl (t17, 576, .inl (fun _ => 0))), (q24, .inl (t24, 3, .inl (fun _ => 0)))] H := hP
  have hD : va_D A [(h0, .inr (2, [.int 0, .int 0, .ref q8, .ref q17, .ref q24, .null, .null, .null])), (q8, .inl (t8, 576, .inl (fun _ => 0))), (q17, .inl (t17, 576, .inl (fun _ => 0))), (q24, .inl (t24, 3, .inl (fun _ => 0)))] := hD
  refine lv_aload_n hx hb dX2_init_29 rfl (lv_at hl 0 rfl) ?_
  refine lv_iconst (v := 3) hx hb dX2_init_30 (by decide) ?_
  refine va_newa (atype := .int) (a0 := (3, .inl (fun _ => 0))) (ty := .int) (N' := 3) hx hb (hts (.arrayClass .int) (by decide +kernel)) rfl hK hP hD hS hA (fun _ => rfl) (by decide) rfl (by decide) (Nat.le_of_ble_eq_true rfl) (Nat.le_of_ble_eq_true rfl) dX2_init_31 (fun q31 t31 H hK hP hD hS => ?_)
  refine W.widen (k := 4) (n := 1158) (by omega) (by omega) ?_
  have hK : va_K (dC, dI) vwCl [(t8, .int), (t17, .int), (t24, .int), (t31, .int)] s := hK
  have hP : va_P (dC, dI) vwCl [(h0, .inr (2, [.int 0, .int 0, .ref q8, .ref q17, .ref q24, .null, .null, .null])), (q8, .inl (t8, 576, .inl (fun _ => 0))), (q17, .inl (t17, 576, .inl (fun _ => 0))), (q24, .inl (t24, 3, .inl (fun _ => 0))), (q31, .inl (t31, 3, .inl (fun _ => 0)))] H := hP
  have hD : va_D A [(h0, .inr (2, [.int 0, .int 0, .ref q8, .ref q17, .ref q24, .null, .null, .null])), (q8, .inl (t8, 576, .inl (fun _ => 0))), (q17, .inl (t17, 576, .inl (fun _ => 0))), (q24, .inl (t24, 3, .inl (fun _ => 0))), (q31, .inl (t31, 3, .inl (fun _ => 0)))] := hD
  refine va_putF (D := (dC, dI)) (ci := 2) (v := .ref q31) (ty := .array .int) (C := RX2) (T := TX2) (N := 8) hx hb hts (by decide +kernel) tyX2 tyX2_ok nmX2 hown hK hP hD hS 0 rfl rfl 5 (by decide) (hts (.fieldLink RX2 19 "TriangleRasterModel" "ys" "[I") (by decide +kernel)) (fun _ h9 => h9) rfl hin rfl (by decide +kernel) rfl rfl (Nat.le_of_ble_eq_true rfl) dX2_init_33 (fun H locs hP hD hS => ?_)
  have hP : va_P (dC, dI) vwCl [(h0, .inr (2, [.int 0, .int 0, .ref q8, .ref q17, .ref q24, .ref q31, .null, .null])), (q8, .inl (t8, 576, .inl (fun _ => 0))), (q17, .inl (t17, 576, .inl (fun _ => 0))), (q24, .inl (t24, 3, .inl (fun _ => 0))), (q31, .inl (t31, 3, .inl (fun _ => 0)))] H := hP
  have hD : va_D A [(h0, .inr (2, [.int 0, .int 0, .ref q8, .ref q17, .ref q24, .ref q31, .null, .null])), (q8, .inl (t8, 576, .inl (fun _ => 0))), (q17, .inl (t17, 576, .inl (fun _ => 0))), (q24, .inl (t24, 3, .inl (fun _ => 0))), (q31, .inl (t31, 3, .inl (fun _ => 0)))] := hD
  refine lv_aload_n hx hb dX2_init_36 rfl (lv_at hl 0 rfl) ?_
  refine lv_iconst (v := 3) hx hb dX2_init_37 (by decide) ?_
  refine va_newa (atype := .int) (a0 := (3, .inl (fun _ => 0))) (ty := .int) (N' := 3) hx hb (hts (.arrayClass .int) (by decide +kernel)) rfl hK hP hD hS hA (fun _ => rfl) (by decide) rfl (by decide) (Nat.le_of_ble_eq_true rfl) (Nat.le_of_ble_eq_true rfl) dX2_init_38 (fun q38 t38 H hK hP hD hS => ?_)
  refine W.widen (k := 5) (n := 1161) (by omega) (by omega) ?_
  have hK : va_K (dC, dI) vwCl [(t8, .int), (t17, .int), (t24, .int), (t31, .int), (t38, .int)] s := hK
  have hP : va_P (dC, dI) vwCl [(h0, .inr (2, [.int 0, .int 0, .ref q8, .ref q17, .ref q24, .ref q31, .null, .null])), (q8, .inl (t8, 576, .inl (fun _ => 0))), (q17, .inl (t17, 576, .inl (fun _ => 0))), (q24, .inl (t24, 3, .inl (fun _ => 0))), (q31, .inl (t31, 3, .inl (fun _ => 0))), (q38, .inl (t38, 3, .inl (fun _ => 0)))] H := hP
  have hD : va_D A [(h0, .inr (2, [.int 0, .int 0, .ref q8, .ref q17, .ref q24, .ref q31, .null, .null])), (q8, .inl (t8, 576, .inl (fun _ => 0))), (q17, .inl (t17, 576, .inl (fun _ => 0))), (q24, .inl (t24, 3, .inl (fun _ => 0))), (q31, .inl (t31, 3, .inl (fun _ => 0))), (q38, .inl (t38, 3, .inl (fun _ => 0)))] := hD
  refine va_putF (D := (dC, dI)) (ci := 2) (v := .ref q38) (ty := .array .int) (C := RX2) (T := TX2) (N := 8) hx hb hts (by decide +kernel) tyX2 tyX2_ok nmX2 hown hK hP hD hS 0 rfl rfl 6 (by decide) (hts (.fieldLink RX2 22 "TriangleRasterModel" "zs" "[I") (by decide +kernel)) (fun _ h9 => h9) rfl hin rfl (by decide +kernel) rfl rfl (Nat.le_of_ble_eq_true rfl) dX2_init_40 (fun H locs hP hD hS => ?_)
  have hP : va_P (dC, dI) vwCl [(h0, .inr (2, [.int 0, .int 0, .ref q8, .ref q17, .ref q24, .ref q31, .ref q38, .null])), (q8, .inl (t8, 576, .inl (fun _ => 0))), (q17, .inl (t17, 576, .inl (fun _ => 0))), (q24, .inl (t24, 3, .inl (fun _ => 0))), (q31, .inl (t31, 3, .inl (fun _ => 0))), (q38, .inl (t38, 3, .inl (fun _ => 0)))] H := hP
  have hD : va_D A [(h0, .inr (2, [.int 0, .int 0, .ref q8, .ref q17, .ref q24, .ref q31, .ref q38, .null])), (q8, .inl (t8, 576, .inl (fun _ => 0))), (q17, .inl (t17, 576, .inl (fun _ => 0))), (q24, .inl (t24, 3, .inl (fun _ => 0))), (q31, .inl (t31, 3, .inl (fun _ => 0))), (q38, .inl (t38, 3, .inl (fun _ => 0)))] := hD
  refine lv_aload_n hx hb dX2_init_43 rfl (lv_at hl 0 rfl) ?_
  refine lv_sipush (v := 576) hx hb dX2_init_44 (by decide) ?_
  refine va_newa (atype := .boolean) (a0 := (576, .inl (fun _ => 0))) (ty := .boolean) (N' := 576) hx hb (hts (.arrayClass .boolean) (by decide +kernel)) rfl hK hP hD hS hA (fun _ => rfl) (by decide) rfl (by decide) (Nat.le_of_ble_eq_true rfl) (Nat.le_of_ble_eq_true rfl) dX2_init_47 (fun q47 t47 H hK hP hD hS => ?_)
  refine W.widen (k := 6) (n := 1737) (by omega) (by omega) ?_
  have hK : va_K (dC, dI) vwCl [(t8, .int), (t17, .int), (t24, .int), (t31, .int), (t38, .int), (t47, .boolean)] s := hK
  have hP : va_P (dC, dI) vwCl [(h0, .inr (2, [.int 0, .int 0, .ref q8, .ref q17, .ref q24, .ref q31, .ref q38, .null])), (q8, .inl (t8, 576, .inl (fun _ => 0))), (q17, .inl (t17, 576, .inl (fun _ => 0))), (q24, .inl (t24, 3, .inl (fun _ => 0))), (q31, .inl (t31, 3, .inl (fun _ => 0))), (q38, .inl (t38, 3, .inl (fun _ => 0))), (q47, .inl (t47, 576, .inl (fun _ => 0)))] H := hP
  have hD : va_D A [(h0, .inr (2, [.int 0, .int 0, .ref q8, .ref q17, .ref q24, .ref q31, .ref q38, .null])), (q8, .inl (t8, 576, .inl (fun _ => 0))), (q17, .inl (t17, 576, .inl (fun _ => 0))), (q24, .inl (t24, 3, .inl (fun _ => 0))), (q31, .inl (t31, 3, .inl (fun _ => 0))), (q38, .inl (t38, 3, .inl (fun _ => 0))), (q47, .inl (t47, 576, .inl (fun _ => 0)))] := hD
  refine va_putF (D := (dC, dI)) (ci := 2) (v := .ref q47) (ty := .array .boolean) (C := RX2) (T := TX2) (N := 8) hx hb hts (by decide +kernel) tyX2 tyX2_ok nmX2 hown hK hP hD hS 0 rfl rfl 7 (by decide) (hts (.fieldLink RX2 25 "TriangleRasterModel" "marks" "[Z") (by decide +kernel)) (fun _ h9 => h9) rfl hin rfl (by decide +kernel) rfl rfl (Nat.le_of_ble_eq_true rfl) dX2_init_49 (fun H locs hP hD hS => ?_)
  have hP : va_P (dC, dI) vwCl [(h0, .inr (2, [.int 0, .int 0, .ref q8, .ref q17, .ref q24, .ref q31, .ref q38, .ref q47])), (q8, .inl (t8, 576, .inl (fun _ => 0))), (q17, .inl (t17, 576, .inl (fun _ => 0))), (q24, .inl (t24, 3, .inl (fun _ => 0))), (q31, .inl (t31, 3, .inl (fun _ => 0))), (q38, .inl (t38, 3, .inl (fun _ => 0))), (q47, .inl (t47, 576, .inl (fun _ => 0)))] H := hP
  have hD : va_D A [(h0, .inr (2, [.int 0, .int 0, .ref q8, .ref q17, .ref q24, .ref q31, .ref q38, .ref q47])), (q8, .inl (t8, 576, .inl (fun _ => 0))), (q17, .inl (t17, 576, .inl (fun _ => 0))), (q24, .inl (t24, 3, .inl (fun _ => 0))), (q31, .inl (t31, 3, .inl (fun _ => 0))), (q38, .inl (t38, 3, .inl (fun _ => 0))), (q47, .inl (t47, 576, .inl (fun _ => 0)))] := hD
  refine lv_aload_n hx hb dX2_init_52 rfl (lv_at hl 0 rfl) ?_
  refine lv_iload_n hx hb dX2_init_53 rfl (lv_at hl 1 rfl) ?_
  refine lv_iconst (v := 1) hx hb dX2_init_54 (by decide) ?_
  refine lv_icmp_lt (tgt := 68) hx hb dX2_init_55 (by decide) (fun c55 => ?_) (fun c55 => ?_)
  · refine lv_iconst (v := 1) hx hb dX2_init_68 (by decide) ?_
    obtain ⟨wN, hwN, ewN⟩ : ∃ z : Nat, SIDE x z ∧ (1 : Int32) = nI z := ⟨1, Or.inr ⟨by rw [Int32.lt_iff_toInt_lt] at c55; have e1 : (1 : Int32).toInt = 1 := (by decide); have e24 : (24 : Int32).toInt = 24 := (by decide); omega, rfl⟩, rfl⟩
    refine lv_topi (fun zz ezz => ?_)
    obtain rfl : zz = nI wN := ezz.trans (ewN)
    refine va_putF (D := (dC, dI)) (ci := 2) (v := .int (nI wN)) (ty := .int) (C := RX2) (T := TX2) (N := 8) hx hb hts (by decide +kernel) tyX2 tyX2_ok nmX2 hown hK hP hD hS 0 rfl rfl 0 (by decide) (hts (.fieldLink RX2 29 "TriangleRasterModel" "w" "I") (by decide +kernel)) (fun _ h9 => h9) rfl hin rfl (by decide +kernel) rfl rfl (Nat.le_of_ble_eq_true rfl) dX2_init_69 (fun H locs hP hD hS => ?_)
    have hP : va_P (dC, dI) vwCl [(h0, .inr (2, [.int (nI wN), .int 0, .ref q8, .ref q17, .ref q24, .ref q31, .ref q38, .ref q47])), (q8, .inl (t8, 576, .inl (fun _ => 0))), (q17, .inl (t17, 576, .inl (fun _ => 0))), (q24, .inl (t24, 3, .inl (fun _ => 0))), (q31, .inl (t31, 3, .inl (fun _ => 0))), (q38, .inl (t38, 3, .inl (fun _ => 0))), (q47, .inl (t47, 576, .inl (fun _ => 0)))] H := hP
    have hD : va_D A [(h0, .inr (2, [.int (nI wN), .int 0, .ref q8, .ref q17, .ref q24, .ref q31, .ref q38, .ref q47])), (q8, .inl (t8, 576, .inl (fun _ => 0))), (q17, .inl (t17, 576, .inl (fun _ => 0))), (q24, .inl (t24, 3, .inl (fun _ => 0))), (q31, .inl (t31, 3, .inl (fun _ => 0))), (q38, .inl (t38, 3, .inl (fun _ => 0))), (q47, .inl (t47, 576, .inl (fun _ => 0)))] := hD
    refine lv_aload_n hx hb dX2_init_72 rfl (lv_at hl 0 rfl) ?_
    refine lv_iload_n hx hb dX2_init_73 rfl (lv_at hl 2 rfl) ?_
    refine lv_iconst (v := 1) hx hb dX2_init_74 (by decide) ?_
    refine lv_icmp_lt (tgt := 88) hx hb dX2_init_75 (by decide) (fun c75 => ?_) (fun c75 => ?_)
    · refine lv_iconst (v := 1) hx hb dX2_init_88 (by decide) ?_
      obtain ⟨hN_, hhN_, ehN_⟩ : ∃ z : Nat, SIDE y z ∧ (1 : Int32) = nI z := ⟨1, Or.inr ⟨by rw [Int32.lt_iff_toInt_lt] at c75; have e1 : (1 : Int32).toInt = 1 := (by decide); have e24 : (24 : Int32).toInt = 24 := (by decide); omega, rfl⟩, rfl⟩
      refine lv_topi (fun zz ezz => ?_)
      obtain rfl : zz = nI hN_ := ezz.trans (ehN_)
      refine va_putF (D := (dC, dI)) (ci := 2) (v := .int (nI hN_)) (ty := .int) (C := RX2) (T := TX2) (N := 8) hx hb hts (by decide +kernel) tyX2 tyX2_ok nmX2 hown hK hP hD hS 0 rfl rfl 1 (by decide) (hts (.fieldLink RX2 33 "TriangleRasterModel" "h" "I") (by decide +kernel)) (fun _ h9 => h9) rfl hin rfl (by decide +kernel) rfl rfl (Nat.le_of_ble_eq_true rfl) dX2_init_89 (fun H locs hP hD hS => ?_)
      have hP : va_P (dC, dI) vwCl [(h0, .inr (2, [.int (nI wN), .int (nI hN_), .ref q8, .ref q17, .ref q24, .ref q31, .ref q38, .ref q47])), (q8, .inl (t8, 576, .inl (fun _ => 0))), (q17, .inl (t17, 576, .inl (fun _ => 0))), (q24, .inl (t24, 3, .inl (fun _ => 0))), (q31, .inl (t31, 3, .inl (fun _ => 0))), (q38, .inl (t38, 3, .inl (fun _ => 0))), (q47, .inl (t47, 576, .inl (fun _ => 0)))] H := hP
      have hD : va_D A [(h0, .inr (2, [.int (nI wN), .int (nI hN_), .ref q8, .ref q17, .ref q24, .ref q31, .ref q38, .ref q47])), (q8, .inl (t8, 576, .inl (fun _ => 0))), (q17, .inl (t17, 576, .inl (fun _ => 0))), (q24, .inl (t24, 3, .inl (fun _ => 0))), (q31, .inl (t31, 3, .inl (fun _ => 0))), (q38, .inl (t38, 3, .inl (fun _ => 0))), (q47, .inl (t47, 576, .inl (fun _ => 0)))] := hD
      have hP9 := hP.sub (ws' := [(h0, .inr (2, [.int (nI wN), .int (nI hN_), .ref q8, .ref q17, .ref q24, .ref q31, .ref q38, .ref q47])), (q8, .inl (t8, 576, .inl (fun _ => 0))), (q17, .inl (t17, 576, .inl (fun _ => 0))), (q24, .inl (t24, 3, .inl (fun _ => 0))), (q31, .inl (t31, 3, .inl (fun _ => 0))), (q38, .inl (t38, 3, .inl (fun _ => 0))), (q47, .inl (t47, 576, .inl (fun _ => 0)))]) [0, 1, 2, 3, 4, 5, 6] rfl
      have hD9 := hD.sub (ws' := [(h0, .inr (2, [.int (nI wN), .int (nI hN_), .ref q8, .ref q17, .ref q24, .ref q31, .ref q38, .ref q47])), (q8, .inl (t8, 576, .inl (fun _ => 0))), (q17, .inl (t17, 576, .inl (fun _ => 0))), (q24, .inl (t24, 3, .inl (fun _ => 0))), (q31, .inl (t31, 3, .inl (fun _ => 0))), (q38, .inl (t38, 3, .inl (fun _ => 0))), (q47, .inl (t47, 576, .inl (fun _ => 0)))]) [0, 1, 2, 3, 4, 5, 6] (by decide) rfl
      exact W.vret hx hb hr (fun t ht hW => ⟨⟨((fun k => match k with | 0 => h0 | 1 => q8 | 2 => q17 | 3 => q24 | 4 => q31 | 5 => q38 | _ => q47), (fun k => match k with | 0 => t8 | 1 => t8 | 2 => t17 | 3 => t24 | 4 => t31 | 5 => t38 | _ => t47), wN, hN_), rfl, ⟨rfl, hwN, hhN_⟩, by rw [ht]; exact hP9, va_K.moved hW.alike hK, hD9⟩, hS.F ht⟩) hS.2.2 dX2_init_92
    · refine lv_iload_n hx hb dX2_init_78 rfl (lv_at hl 2 rfl) ?_
      refine lv_bipush (v := 24) hx hb dX2_init_79 (by decide) ?_
      refine lv_icmp_gt (tgt := 88) hx hb dX2_init_81 (by decide) (fun c81 => ?_) (fun c81 => ?_)
      · refine lv_iconst (v := 1) hx hb dX2_init_88 (by decide) ?_
        obtain ⟨hN_, hhN_, ehN_⟩ : ∃ z : Nat, SIDE y z ∧ (1 : Int32) = nI z := ⟨1, Or.inr ⟨by rw [Int32.lt_iff_toInt_lt] at c81; have e1 : (1 : Int32).toInt = 1 := (by decide); have e24 : (24 : Int32).toInt = 24 := (by decide); omega, rfl⟩, rfl⟩
        refine lv_topi (fun zz ezz => ?_)
        obtain rfl : zz = nI hN_ := ezz.trans (ehN_)
        refine va_putF (D := (dC, dI)) (ci := 2) (v := .int (nI hN_)) (ty := .int) (C := RX2) (T := TX2) (N := 8) hx hb hts (by decide +kernel) tyX2 tyX2_ok nmX2 hown hK hP hD hS 0 rfl rfl 1 (by decide) (hts (.fieldLink RX2 33 "TriangleRasterModel" "h" "I") (by decide +kernel)) (fun _ h9 => h9) rfl hin rfl (by decide +kernel) rfl rfl (Nat.le_of_ble_eq_true rfl) dX2_init_89 (fun H locs hP hD hS => ?_)
        have hP : va_P (dC, dI) vwCl [(h0, .inr (2, [.int (nI wN), .int (nI hN_), .ref q8, .ref q17, .ref q24, .ref q31, .ref q38, .ref q47])), (q8, .inl (t8, 576, .inl (fun _ => 0))), (q17, .inl (t17, 576, .inl (fun _ => 0))), (q24, .inl (t24, 3, .inl (fun _ => 0))), (q31, .inl (t31, 3, .inl (fun _ => 0))), (q38, .inl (t38, 3, .inl (fun _ => 0))), (q47, .inl (t47, 576, .inl (fun _ => 0)))] H := hP
        have hD : va_D A [(h0, .inr (2, [.int (nI wN), .int (nI hN_), .ref q8, .ref q17, .ref q24, .ref q31, .ref q38, .ref q47])), (q8, .inl (t8, 576, .inl (fun _ => 0))), (q17, .inl (t17, 576, .inl (fun _ => 0))), (q24, .inl (t24, 3, .inl (fun _ => 0))), (q31, .inl (t31, 3, .inl (fun _ => 0))), (q38, .inl (t38, 3, .inl (fun _ => 0))), (q47, .inl (t47, 576, .inl (fun _ => 0)))] := hD
        have hP9 := hP.sub (ws' := [(h0, .inr (2, [.int (nI wN), .int (nI hN_), .ref q8, .ref q17, .ref q24, .ref q31, .ref q38, .ref q47])), (q8, .inl (t8, 576, .inl (fun _ => 0))), (q17, .inl (t17, 576, .inl (fun _ => 0))), (q24, .inl (t24, 3, .inl (fun _ => 0))), (q31, .inl (t31, 3, .inl (fun _ => 0))), (q38, .inl (t38, 3, .inl (fun _ => 0))), (q47, .inl (t47, 576, .inl (fun _ => 0)))]) [0, 1, 2, 3, 4, 5, 6] rfl
        have hD9 := hD.sub (ws' := [(h0, .inr (2, [.int (nI wN), .int (nI hN_), .ref q8, .ref q17, .ref q24, .ref q31, .ref q38, .ref q47])), (q8, .inl (t8, 576, .inl (fun _ => 0))), (q17, .inl (t17, 576, .inl (fun _ => 0))), (q24, .inl (t24, 3, .inl (fun _ => 0))), (q31, .inl (t31, 3, .inl (fun _ => 0))), (q38, .inl (t38, 3, .inl (fun _ => 0))), (q47, .inl (t47, 576, .inl (fun _ => 0)))]) [0, 1, 2, 3, 4, 5, 6] (by decide) rfl
        exact W.vret hx hb hr (fun t ht hW => ⟨⟨((fun k => match k with | 0 => h0 | 1 => q8 | 2 => q17 | 3 => q24 | 4 => q31 | 5 => q38 | _ => q47), (fun k => match k with | 0 => t8 | 1 => t8 | 2 => t17 | 3 => t24 | 4 => t31 | 5 => t38 | _ => t47), wN, hN_), rfl, ⟨rfl, hwN, hhN_⟩, by rw [ht]; exact hP9, va_K.moved hW.alike hK, hD9⟩, hS.F ht⟩) hS.2.2 dX2_init_92
      · refine lv_iload_n hx hb dX2_init_84 rfl (lv_at hl 2 rfl) ?_
        refine lv_goto (tgt := 89) hx hb dX2_init_85 (by decide) ?_
        obtain ⟨hN_, hhN_, ehN_⟩ : ∃ z : Nat, SIDE y z ∧ y = nI z := SIDE_of (Or.inl ⟨by rw [Int32.lt_iff_toInt_lt] at c75 c81; have e1 : (1 : Int32).toInt = 1 := (by decide); have e24 : (24 : Int32).toInt = 24 := (by decide); omega, rfl⟩)
        refine lv_topi (fun zz ezz => ?_)
        obtain rfl : zz = nI hN_ := ezz.trans (ehN_)
        refine va_putF (D := (dC, dI)) (ci := 2) (v := .int (nI hN_)) (ty := .int) (C := RX2) (T := TX2) (N := 8) hx hb hts (by decide +kernel) tyX2 tyX2_ok nmX2 hown hK hP hD hS 0 rfl rfl 1 (by decide) (hts (.fieldLink RX2 33 "TriangleRasterModel" "h" "I") (by decide +kernel)) (fun _ h9 => h9) rfl hin rfl (by decide +kernel) rfl rfl (Nat.le_of_ble_eq_true rfl) dX2_init_89 (fun H locs hP hD hS => ?_)
        have hP : va_P (dC, dI) vwCl [(h0, .inr (2, [.int (nI wN), .int (nI hN_), .ref q8, .ref q17, .ref q24, .ref q31, .ref q38, .ref q47])), (q8, .inl (t8, 576, .inl (fun _ => 0))), (q17, .inl (t17, 576, .inl (fun _ => 0))), (q24, .inl (t24, 3, .inl (fun _ => 0))), (q31, .inl (t31, 3, .inl (fun _ => 0))), (q38, .inl (t38, 3, .inl (fun _ => 0))), (q47, .inl (t47, 576, .inl (fun _ => 0)))] H := hP
        have hD : va_D A [(h0, .inr (2, [.int (nI wN), .int (nI hN_), .ref q8, .ref q17, .ref q24, .ref q31, .ref q38, .ref q47])), (q8, .inl (t8, 576, .inl (fun _ => 0))), (q17, .inl (t17, 576, .inl (fun _ => 0))), (q24, .inl (t24, 3, .inl (fun _ => 0))), (q31, .inl (t31, 3, .inl (fun _ => 0))), (q38, .inl (t38, 3, .inl (fun _ => 0))), (q47, .inl (t47, 576, .inl (fun _ => 0)))] := hD
        have hP9 := hP.sub (ws' := [(h0, .inr (2, [.int (nI wN), .int (nI hN_), .ref q8, .ref q17, .ref q24, .ref q31, .ref q38, .ref q47])), (q8, .inl (t8, 576, .inl (fun _ => 0))), (q17, .inl (t17, 576, .inl (fun _ => 0))), (q24, .inl (t24, 3, .inl (fun _ => 0))), (q31, .inl (t31, 3, .inl (fun _ => 0))), (q38, .inl (t38, 3, .inl (fun _ => 0))), (q47, .inl (t47, 576, .inl (fun _ => 0)))]) [0, 1, 2, 3, 4, 5, 6] rfl
        have hD9 := hD.sub (ws' := [(h0, .inr (2, [.int (nI wN), .int (nI hN_), .ref q8, .ref q17, .ref q24, .ref q31, .ref q38, .ref q47])), (q8, .inl (t8, 576, .inl (fun _ => 0))), (q17, .inl (t17, 576, .inl (fun _ => 0))), (q24, .inl (t24, 3, .inl (fun _ => 0))), (q31, .inl (t31, 3, .inl (fun _ => 0))), (q38, .inl (t38, 3, .inl (fun _ => 0))), (q47, .inl (t47, 576, .inl (fun _ => 0)))]) [0, 1, 2, 3, 4, 5, 6] (by decide) rfl
        exact W.vret hx hb hr (fun t ht hW => ⟨⟨((fun k => match k with | 0 => h0 | 1 => q8 | 2 => q17 | 3 => q24 | 4 => q31 | 5 => q38 | _ => q47), (fun k => match k with | 0 => t8 | 1 => t8 | 2 => t17 | 3 => t24 | 4 => t31 | 5 => t38 | _ => t47), wN, hN_), rfl, ⟨rfl, hwN, hhN_⟩, by rw [ht]; exact hP9, va_K.moved hW.alike hK, hD9⟩, hS.F ht⟩) hS.2.2 dX2_init_92
  · refine lv_iload_n hx hb dX2_init_58 rfl (lv_at hl 1 rfl) ?_
    refine lv_bipush (v := 24) hx hb dX2_init_59 (by decide) ?_
    refine lv_icmp_gt (tgt := 68) hx hb dX2_init_61 (by decide) (fun c61 => ?_) (fun c61 => ?_)
    · refine lv_iconst (v := 1) hx hb dX2_init_68 (by decide) ?_
      obtain ⟨wN, hwN, ewN⟩ : ∃ z : Nat, SIDE x z ∧ (1 : Int32) = nI z := ⟨1, Or.inr ⟨by rw [Int32.lt_iff_toInt_lt] at c61; have e1 : (1 : Int32).toInt = 1 := (by decide); have e24 : (24 : Int32).toInt = 24 := (by decide); omega, rfl⟩, rfl⟩
      refine lv_topi (fun zz ezz => ?_)
      obtain rfl : zz = nI wN := ezz.trans (ewN)
      refine va_putF (D := (dC, dI)) (ci := 2) (v := .int (nI wN)) (ty := .int) (C := RX2) (T := TX2) (N := 8) hx hb hts (by decide +kernel) tyX2 tyX2_ok nmX2 hown hK hP hD hS 0 rfl rfl 0 (by decide) (hts (.fieldLink RX2 29 "TriangleRasterModel" "w" "I") (by decide +kernel)) (fun _ h9 => h9) rfl hin rfl (by decide +kernel) rfl rfl (Nat.le_of_ble_eq_true rfl) dX2_init_69 (fun H locs hP hD hS => ?_)
      have hP : va_P (dC, dI) vwCl [(h0, .inr (2, [.int (nI wN), .int 0, .ref q8, .ref q17, .ref q24, .ref q31, .ref q38, .ref q47])), (q8, .inl (t8, 576, .inl (fun _ => 0))), (q17, .inl (t17, 576, .inl (fun _ => 0))), (q24, .inl (t24, 3, .inl (fun _ => 0))), (q31, .inl (t31, 3, .inl (fun _ => 0))), (q38, .inl (t38, 3, .inl (fun _ => 0))), (q47, .inl (t47, 576, .inl (fun _ => 0)))] H := hP
      have hD : va_D A [(h0, .inr (2, [.int (nI wN), .int 0, .ref q8, .ref q17, .ref q24, .ref q31, .ref q38, .ref q47])), (q8, .inl (t8, 576, .inl (fun _ => 0))), (q17, .inl (t17, 576, .inl (fun _ => 0))), (q24, .inl (t24, 3, .inl (fun _ => 0))), (q31, .inl (t31, 3, .inl (fun _ => 0))), (q38, .inl (t38, 3, .inl (fun _ => 0))), (q47, .inl (t47, 576, .inl (fun _ => 0)))] := hD
      refine lv_aload_n hx hb dX2_init_72 rfl (lv_at hl 0 rfl) ?_
      refine lv_iload_n hx hb dX2_init_73 rfl (lv_at hl 2 rfl) ?_
      refine lv_iconst (v := 1) hx hb dX2_init_74 (by decide) ?_
      refine lv_icmp_lt (tgt := 88) hx hb dX2_init_75 (by decide) (fun c75 => ?_) (fun c75 => ?_)
      · refine lv_iconst (v := 1) hx hb dX2_init_88 (by decide) ?_
        obtain ⟨hN_, hhN_, ehN_⟩ : ∃ z : Nat, SIDE y z ∧ (1 : Int32) = nI z := ⟨1, Or.inr ⟨by rw [Int32.lt_iff_toInt_lt] at c75; have e1 : (1 : Int32).toInt = 1 := (by decide); have e24 : (24 : Int32).toInt = 24 := (by decide); omega, rfl⟩, rfl⟩
        refine lv_topi (fun zz ezz => ?_)
        obtain rfl : zz = nI hN_ := ezz.trans (ehN_)
        refine va_putF (D := (dC, dI)) (ci := 2) (v := .int (nI hN_)) (ty := .int) (C := RX2) (T := TX2) (N := 8) hx hb hts (by decide +kernel) tyX2 tyX2_ok nmX2 hown hK hP hD hS 0 rfl rfl 1 (by decide) (hts (.fieldLink RX2 33 "TriangleRasterModel" "h" "I") (by decide +kernel)) (fun _ h9 => h9) rfl hin rfl (by decide +kernel) rfl rfl (Nat.le_of_ble_eq_true rfl) dX2_init_89 (fun H locs hP hD hS => ?_)
        have hP : va_P (dC, dI) vwCl [(h0, .inr (2, [.int (nI wN), .int (nI hN_), .ref q8, .ref q17, .ref q24, .ref q31, .ref q38, .ref q47])), (q8, .inl (t8, 576, .inl (fun _ => 0))), (q17, .inl (t17, 576, .inl (fun _ => 0))), (q24, .inl (t24, 3, .inl (fun _ => 0))), (q31, .inl (t31, 3, .inl (fun _ => 0))), (q38, .inl (t38, 3, .inl (fun _ => 0))), (q47, .inl (t47, 576, .inl (fun _ => 0)))] H := hP
        have hD : va_D A [(h0, .inr (2, [.int (nI wN), .int (nI hN_), .ref q8, .ref q17, .ref q24, .ref q31, .ref q38, .ref q47])), (q8, .inl (t8, 576, .inl (fun _ => 0))), (q17, .inl (t17, 576, .inl (fun _ => 0))), (q24, .inl (t24, 3, .inl (fun _ => 0))), (q31, .inl (t31, 3, .inl (fun _ => 0))), (q38, .inl (t38, 3, .inl (fun _ => 0))), (q47, .inl (t47, 576, .inl (fun _ => 0)))] := hD
        have hP9 := hP.sub (ws' := [(h0, .inr (2, [.int (nI wN), .int (nI hN_), .ref q8, .ref q17, .ref q24, .ref q31, .ref q38, .ref q47])), (q8, .inl (t8, 576, .inl (fun _ => 0))), (q17, .inl (t17, 576, .inl (fun _ => 0))), (q24, .inl (t24, 3, .inl (fun _ => 0))), (q31, .inl (t31, 3, .inl (fun _ => 0))), (q38, .inl (t38, 3, .inl (fun _ => 0))), (q47, .inl (t47, 576, .inl (fun _ => 0)))]) [0, 1, 2, 3, 4, 5, 6] rfl
        have hD9 := hD.sub (ws' := [(h0, .inr (2, [.int (nI wN), .int (nI hN_), .ref q8, .ref q17, .ref q24, .ref q31, .ref q38, .ref q47])), (q8, .inl (t8, 576, .inl (fun _ => 0))), (q17, .inl (t17, 576, .inl (fun _ => 0))), (q24, .inl (t24, 3, .inl (fun _ => 0))), (q31, .inl (t31, 3, .inl (fun _ => 0))), (q38, .inl (t38, 3, .inl (fun _ => 0))), (q47, .inl (t47, 576, .inl (fun _ => 0)))]) [0, 1, 2, 3, 4, 5, 6] (by decide) rfl
        exact W.vret hx hb hr (fun t ht hW => ⟨⟨((fun k => match k with | 0 => h0 | 1 => q8 | 2 => q17 | 3 => q24 | 4 => q31 | 5 => q38 | _ => q47), (fun k => match k with | 0 => t8 | 1 => t8 | 2 => t17 | 3 => t24 | 4 => t31 | 5 => t38 | _ => t47), wN, hN_), rfl, ⟨rfl, hwN, hhN_⟩, by rw [ht]; exact hP9, va_K.moved hW.alike hK, hD9⟩, hS.F ht⟩) hS.2.2 dX2_init_92
      · refine lv_iload_n hx hb dX2_init_78 rfl (lv_at hl 2 rfl) ?_
        refine lv_bipush (v := 24) hx hb dX2_init_79 (by decide) ?_
        refine lv_icmp_gt (tgt := 88) hx hb dX2_init_81 (by decide) (fun c81 => ?_) (fun c81 => ?_)
        · refine lv_iconst (v := 1) hx hb dX2_init_88 (by decide) ?_
          obtain ⟨hN_, hhN_, ehN_⟩ : ∃ z : Nat, SIDE y z ∧ (1 : Int32) = nI z := ⟨1, Or.inr ⟨by rw [Int32.lt_iff_toInt_lt] at c81; have e1 : (1 : Int32).toInt = 1 := (by decide); have e24 : (24 : Int32).toInt = 24 := (by decide); omega, rfl⟩, rfl⟩
          refine lv_topi (fun zz ezz => ?_)
          obtain rfl : zz = nI hN_ := ezz.trans (ehN_)
          refine va_putF (D := (dC, dI)) (ci := 2) (v := .int (nI hN_)) (ty := .int) (C := RX2) (T := TX2) (N := 8) hx hb hts (by decide +kernel) tyX2 tyX2_ok nmX2 hown hK hP hD hS 0 rfl rfl 1 (by decide) (hts (.fieldLink RX2 33 "TriangleRasterModel" "h" "I") (by decide +kernel)) (fun _ h9 => h9) rfl hin rfl (by decide +kernel) rfl rfl (Nat.le_of_ble_eq_true rfl) dX2_init_89 (fun H locs hP hD hS => ?_)
          have hP : va_P (dC, dI) vwCl [(h0, .inr (2, [.int (nI wN), .int (nI hN_), .ref q8, .ref q17, .ref q24, .ref q31, .ref q38, .ref q47])), (q8, .inl (t8, 576, .inl (fun _ => 0))), (q17, .inl (t17, 576, .inl (fun _ => 0))), (q24, .inl (t24, 3, .inl (fun _ => 0))), (q31, .inl (t31, 3, .inl (fun _ => 0))), (q38, .inl (t38, 3, .inl (fun _ => 0))), (q47, .inl (t47, 576, .inl (fun _ => 0)))] H := hP
          have hD : va_D A [(h0, .inr (2, [.int (nI wN), .int (nI hN_), .ref q8, .ref q17, .ref q24, .ref q31, .ref q38, .ref q47])), (q8, .inl (t8, 576, .inl (fun _ => 0))), (q17, .inl (t17, 576, .inl (fun _ => 0))), (q24, .inl (t24, 3, .inl (fun _ => 0))), (q31, .inl (t31, 3, .inl (fun _ => 0))), (q38, .inl (t38, 3, .inl (fun _ => 0))), (q47, .inl (t47, 576, .inl (fun _ => 0)))] := hD
          have hP9 := hP.sub (ws' := [(h0, .inr (2, [.int (nI wN), .int (nI hN_), .ref q8, .ref q17, .ref q24, .ref q31, .ref q38, .ref q47])), (q8, .inl (t8, 576, .inl (fun _ => 0))), (q17, .inl (t17, 576, .inl (fun _ => 0))), (q24, .inl (t24, 3, .inl (fun _ => 0))), (q31, .inl (t31, 3, .inl (fun _ => 0))), (q38, .inl (t38, 3, .inl (fun _ => 0))), (q47, .inl (t47, 576, .inl (fun _ => 0)))]) [0, 1, 2, 3, 4, 5, 6] rfl
          have hD9 := hD.sub (ws' := [(h0, .inr (2, [.int (nI wN), .int (nI hN_), .ref q8, .ref q17, .ref q24, .ref q31, .ref q38, .ref q47])), (q8, .inl (t8, 576, .inl (fun _ => 0))), (q17, .inl (t17, 576, .inl (fun _ => 0))), (q24, .inl (t24, 3, .inl (fun _ => 0))), (q31, .inl (t31, 3, .inl (fun _ => 0))), (q38, .inl (t38, 3, .inl (fun _ => 0))), (q47, .inl (t47, 576, .inl (fun _ => 0)))]) [0, 1, 2, 3, 4, 5, 6] (by decide) rfl
          exact W.vret hx hb hr (fun t ht hW => ⟨⟨((fun k => match k with | 0 => h0 | 1 => q8 | 2 => q17 | 3 => q24 | 4 => q31 | 5 => q38 | _ => q47), (fun k => match k with | 0 => t8 | 1 => t8 | 2 => t17 | 3 => t24 | 4 => t31 | 5 => t38 | _ => t47), wN, hN_), rfl, ⟨rfl, hwN, hhN_⟩, by rw [ht]; exact hP9, va_K.moved hW.alike hK, hD9⟩, hS.F ht⟩) hS.2.2 dX2_init_92
        · refine lv_iload_n hx hb dX2_init_84 rfl (lv_at hl 2 rfl) ?_
          refine lv_goto (tgt := 89) hx hb dX2_init_85 (by decide) ?_
          obtain ⟨hN_, hhN_, ehN_⟩ : ∃ z : Nat, SIDE y z ∧ y = nI z := SIDE_of (Or.inl ⟨by rw [Int32.lt_iff_toInt_lt] at c75 c81; have e1 : (1 : Int32).toInt = 1 := (by decide); have e24 : (24 : Int32).toInt = 24 := (by decide); omega, rfl⟩)
          refine lv_topi (fun zz ezz => ?_)
          obtain rfl : zz = nI hN_ := ezz.trans (ehN_)
          refine va_putF (D := (dC, dI)) (ci := 2) (v := .int (nI hN_)) (ty := .int) (C := RX2) (T := TX2) (N := 8) hx hb hts (by decide +kernel) tyX2 tyX2_ok nmX2 hown hK hP hD hS 0 rfl rfl 1 (by decide) (hts (.fieldLink RX2 33 "TriangleRasterModel" "h" "I") (by decide +kernel)) (fun _ h9 => h9) rfl hin rfl (by decide +kernel) rfl rfl (Nat.le_of_ble_eq_true rfl) dX2_init_89 (fun H locs hP hD hS => ?_)
          have hP : va_P (dC, dI) vwCl [(h0, .inr (2, [.int (nI wN), .int (nI hN_), .ref q8, .ref q17, .ref q24, .ref q31, .ref q38, .ref q47])), (q8, .inl (t8, 576, .inl (fun _ => 0))), (q17, .inl (t17, 576, .inl (fun _ => 0))), (q24, .inl (t24, 3, .inl (fun _ => 0))), (q31, .inl (t31, 3, .inl (fun _ => 0))), (q38, .inl (t38, 3, .inl (fun _ => 0))), (q47, .inl (t47, 576, .inl (fun _ => 0)))] H := hP
          have hD : va_D A [(h0, .inr (2, [.int (nI wN), .int (nI hN_), .ref q8, .ref q17, .ref q24, .ref q31, .ref q38, .ref q47])), (q8, .inl (t8, 576, .inl (fun _ => 0))), (q17, .inl (t17, 576, .inl (fun _ => 0))), (q24, .inl (t24, 3, .inl (fun _ => 0))), (q31, .inl (t31, 3, .inl (fun _ => 0))), (q38, .inl (t38, 3, .inl (fun _ => 0))), (q47, .inl (t47, 576, .inl (fun _ => 0)))] := hD
          have hP9 := hP.sub (ws' := [(h0, .inr (2, [.int (nI wN), .int (nI hN_), .ref q8, .ref q17, .ref q24, .ref q31, .ref q38, .ref q47])), (q8, .inl (t8, 576, .inl (fun _ => 0))), (q17, .inl (t17, 576, .inl (fun _ => 0))), (q24, .inl (t24, 3, .inl (fun _ => 0))), (q31, .inl (t31, 3, .inl (fun _ => 0))), (q38, .inl (t38, 3, .inl (fun _ => 0))), (q47, .inl (t47, 576, .inl (fun _ => 0)))]) [0, 1, 2, 3, 4, 5, 6] rfl
          have hD9 := hD.sub (ws' := [(h0, .inr (2, [.int (nI wN), .int (nI hN_), .ref q8, .ref q17, .ref q24, .ref q31, .ref q38, .ref q47])), (q8, .inl (t8, 576, .inl (fun _ => 0))), (q17, .inl (t17, 576, .inl (fun _ => 0))), (q24, .inl (t24, 3, .inl (fun _ => 0))), (q31, .inl (t31, 3, .inl (fun _ => 0))), (q38, .inl (t38, 3, .inl (fun _ => 0))), (q47, .inl (t47, 576, .inl (fun _ => 0)))]) [0, 1, 2, 3, 4, 5, 6] (by decide) rfl
          exact W.vret hx hb hr (fun t ht hW => ⟨⟨((fun k => match k with | 0 => h0 | 1 => q8 | 2 => q17 | 3 => q24 | 4 => q31 | 5 => q38 | _ => q47), (fun k => match k with | 0 => t8 | 1 => t8 | 2 => t17 | 3 => t24 | 4 => t31 | 5 => t38 | _ => t47), wN, hN_), rfl, ⟨rfl, hwN, hhN_⟩, by rw [ht]; exact hP9, va_K.moved hW.alike hK, hD9⟩, hS.F ht⟩) hS.2.2 dX2_init_92
    · refine lv_iload_n hx hb dX2_init_64 rfl (lv_at hl 1 rfl) ?_
      refine lv_goto (tgt := 69) hx hb dX2_init_65 (by decide) ?_
      obtain ⟨wN, hwN, ewN⟩ : ∃ z : Nat, SIDE x z ∧ x = nI z := SIDE_of (Or.inl ⟨by rw [Int32.lt_iff_toInt_lt] at c55 c61; have e1 : (1 : Int32).toInt = 1 := (by decide); have e24 : (24 : Int32).toInt = 24 := (by decide); omega, rfl⟩)
      refine lv_topi (fun zz ezz => ?_)
      obtain rfl : zz = nI wN := ezz.trans (ewN)
      refine va_putF (D := (dC, dI)) (ci := 2) (v := .int (nI wN)) (ty := .int) (C := RX2) (T := TX2) (N := 8) hx hb hts (by decide +kernel) tyX2 tyX2_ok nmX2 hown hK hP hD hS 0 rfl rfl 0 (by decide) (hts (.fieldLink RX2 29 "TriangleRasterModel" "w" "I") (by decide +kernel)) (fun _ h9 => h9) rfl hin rfl (by decide +kernel) rfl rfl (Nat.le_of_ble_eq_true rfl) dX2_init_69 (fun H locs hP hD hS => ?_)
      have hP : va_P (dC, dI) vwCl [(h0, .inr (2, [.int (nI wN), .int 0, .ref q8, .ref q17, .ref q24, .ref q31, .ref q38, .ref q47])), (q8, .inl (t8, 576, .inl (fun _ => 0))), (q17, .inl (t17, 576, .inl (fun _ => 0))), (q24, .inl (t24, 3, .inl (fun _ => 0))), (q31, .inl (t31, 3, .inl (fun _ => 0))), (q38, .inl (t38, 3, .inl (fun _ => 0))), (q47, .inl (t47, 576, .inl (fun _ => 0)))] H := hP
      have hD : va_D A [(h0, .inr (2, [.int (nI wN), .int 0, .ref q8, .ref q17, .ref q24, .ref q31, .ref q38, .ref q47])), (q8, .inl (t8, 576, .inl (fun _ => 0))), (q17, .inl (t17, 576, .inl (fun _ => 0))), (q24, .inl (t24, 3, .inl (fun _ => 0))), (q31, .inl (t31, 3, .inl (fun _ => 0))), (q38, .inl (t38, 3, .inl (fun _ => 0))), (q47, .inl (t47, 576, .inl (fun _ => 0)))] := hD
      refine lv_aload_n hx hb dX2_init_72 rfl (lv_at hl 0 rfl) ?_
      refine lv_iload_n hx hb dX2_init_73 rfl (lv_at hl 2 rfl) ?_
      refine lv_iconst (v := 1) hx hb dX2_init_74 (by decide) ?_
      refine lv_icmp_lt (tgt := 88) hx hb dX2_init_75 (by decide) (fun c75 => ?_) (fun c75 => ?_)
      · refine lv_iconst (v := 1) hx hb dX2_init_88 (by decide) ?_
        obtain ⟨hN_, hhN_, ehN_⟩ : ∃ z : Nat, SIDE y z ∧ (1 : Int32) = nI z := ⟨1, Or.inr ⟨by rw [Int32.lt_iff_toInt_lt] at c75; have e1 : (1 : Int32).toInt = 1 := (by decide); have e24 : (24 : Int32).toInt = 24 := (by decide); omega, rfl⟩, rfl⟩
        refine lv_topi (fun zz ezz => ?_)
        obtain rfl : zz = nI hN_ := ezz.trans (ehN_)
        refine va_putF (D := (dC, dI)) (ci := 2) (v := .int (nI hN_)) (ty := .int) (C := RX2) (T := TX2) (N := 8) hx hb hts (by decide +kernel) tyX2 tyX2_ok nmX2 hown hK hP hD hS 0 rfl rfl 1 (by decide) (hts (.fieldLink RX2 33 "TriangleRasterModel" "h" "I") (by decide +kernel)) (fun _ h9 => h9) rfl hin rfl (by decide +kernel) rfl rfl (Nat.le_of_ble_eq_true rfl) dX2_init_89 (fun H locs hP hD hS => ?_)
        have hP : va_P (dC, dI) vwCl [(h0, .inr (2, [.int (nI wN), .int (nI hN_), .ref q8, .ref q17, .ref q24, .ref q31, .ref q38, .ref q47])), (q8, .inl (t8, 576, .inl (fun _ => 0))), (q17, .inl (t17, 576, .inl (fun _ => 0))), (q24, .inl (t24, 3, .inl (fun _ => 0))), (q31, .inl (t31, 3, .inl (fun _ => 0))), (q38, .inl (t38, 3, .inl (fun _ => 0))), (q47, .inl (t47, 576, .inl (fun _ => 0)))] H := hP
        have hD : va_D A [(h0, .inr (2, [.int (nI wN), .int (nI hN_), .ref q8, .ref q17, .ref q24, .ref q31, .ref q38, .ref q47])), (q8, .inl (t8, 576, .inl (fun _ => 0))), (q17, .inl (t17, 576, .inl (fun _ => 0))), (q24, .inl (t24, 3, .inl (fun _ => 0))), (q31, .inl (t31, 3, .inl (fun _ => 0))), (q38, .inl (t38, 3, .inl (fun _ => 0))), (q47, .inl (t47, 576, .inl (fun _ => 0)))] := hD
        have hP9 := hP.sub (ws' := [(h0, .inr (2, [.int (nI wN), .int (nI hN_), .ref q8, .ref q17, .ref q24, .ref q31, .ref q38, .ref q47])), (q8, .inl (t8, 576, .inl (fun _ => 0))), (q17, .inl (t17, 576, .inl (fun _ => 0))), (q24, .inl (t24, 3, .inl (fun _ => 0))), (q31, .inl (t31, 3, .inl (fun _ => 0))), (q38, .inl (t38, 3, .inl (fun _ => 0))), (q47, .inl (t47, 576, .inl (fun _ => 0)))]) [0, 1, 2, 3, 4, 5, 6] rfl
        have hD9 := hD.sub (ws' := [(h0, .inr (2, [.int (nI wN), .int (nI hN_), .ref q8, .ref q17, .ref q24, .ref q31, .ref q38, .ref q47])), (q8, .inl (t8, 576, .inl (fun _ => 0))), (q17, .inl (t17, 576, .inl (fun _ => 0))), (q24, .inl (t24, 3, .inl (fun _ => 0))), (q31, .inl (t31, 3, .inl (fun _ => 0))), (q38, .inl (t38, 3, .inl (fun _ => 0))), (q47, .inl (t47, 576, .inl (fun _ => 0)))]) [0, 1, 2, 3, 4, 5, 6] (by decide) rfl
        exact W.vret hx hb hr (fun t ht hW => ⟨⟨((fun k => match k with | 0 => h0 | 1 => q8 | 2 => q17 | 3 => q24 | 4 => q31 | 5 => q38 | _ => q47), (fun k => match k with | 0 => t8 | 1 => t8 | 2 => t17 | 3 => t24 | 4 => t31 | 5 => t38 | _ => t47), wN, hN_), rfl, ⟨rfl, hwN, hhN_⟩, by rw [ht]; exact hP9, va_K.moved hW.alike hK, hD9⟩, hS.F ht⟩) hS.2.2 dX2_init_92
      · refine lv_iload_n hx hb dX2_init_78 rfl (lv_at hl 2 rfl) ?_
        refine lv_bipush (v := 24) hx hb dX2_init_79 (by decide) ?_
        refine lv_icmp_gt (tgt := 88) hx hb dX2_init_81 (by decide) (fun c81 => ?_) (fun c81 => ?_)
        · refine lv_iconst (v := 1) hx hb dX2_init_88 (by decide) ?_
          obtain ⟨hN_, hhN_, ehN_⟩ : ∃ z : Nat, SIDE y z ∧ (1 : Int32) = nI z := ⟨1, Or.inr ⟨by rw [Int32.lt_iff_toInt_lt] at c81; have e1 : (1 : Int32).toInt = 1 := (by decide); have e24 : (24 : Int32).toInt = 24 := (by decide); omega, rfl⟩, rfl⟩
          refine lv_topi (fun zz ezz => ?_)
          obtain rfl : zz = nI hN_ := ezz.trans (ehN_)
          refine va_putF (D := (dC, dI)) (ci := 2) (v := .int (nI hN_)) (ty := .int) (C := RX2) (T := TX2) (N := 8) hx hb hts (by decide +kernel) tyX2 tyX2_ok nmX2 hown hK hP hD hS 0 rfl rfl 1 (by decide) (hts (.fieldLink RX2 33 "TriangleRasterModel" "h" "I") (by decide +kernel)) (fun _ h9 => h9) rfl hin rfl (by decide +kernel) rfl rfl (Nat.le_of_ble_eq_true rfl) dX2_init_89 (fun H locs hP hD hS => ?_)
          have hP : va_P (dC, dI) vwCl [(h0, .inr (2, [.int (nI wN), .int (nI hN_), .ref q8, .ref q17, .ref q24, .ref q31, .ref q38, .ref q47])), (q8, .inl (t8, 576, .inl (fun _ => 0))), (q17, .inl (t17, 576, .inl (fun _ => 0))), (q24, .inl (t24, 3, .inl (fun _ => 0))), (q31, .inl (t31, 3, .inl (fun _ => 0))), (q38, .inl (t38, 3, .inl (fun _ => 0))), (q47, .inl (t47, 576, .inl (fun _ => 0)))] H := hP
          have hD : va_D A [(h0, .inr (2, [.int (nI wN), .int (nI hN_), .ref q8, .ref q17, .ref q24, .ref q31, .ref q38, .ref q47])), (q8, .inl (t8, 576, .inl (fun _ => 0))), (q17, .inl (t17, 576, .inl (fun _ => 0))), (q24, .inl (t24, 3, .inl (fun _ => 0))), (q31, .inl (t31, 3, .inl (fun _ => 0))), (q38, .inl (t38, 3, .inl (fun _ => 0))), (q47, .inl (t47, 576, .inl (fun _ => 0)))] := hD
          have hP9 := hP.sub (ws' := [(h0, .inr (2, [.int (nI wN), .int (nI hN_), .ref q8, .ref q17, .ref q24, .ref q31, .ref q38, .ref q47])), (q8, .inl (t8, 576, .inl (fun _ => 0))), (q17, .inl (t17, 576, .inl (fun _ => 0))), (q24, .inl (t24, 3, .inl (fun _ => 0))), (q31, .inl (t31, 3, .inl (fun _ => 0))), (q38, .inl (t38, 3, .inl (fun _ => 0))), (q47, .inl (t47, 576, .inl (fun _ => 0)))]) [0, 1, 2, 3, 4, 5, 6] rfl
          have hD9 := hD.sub (ws' := [(h0, .inr (2, [.int (nI wN), .int (nI hN_), .ref q8, .ref q17, .ref q24, .ref q31, .ref q38, .ref q47])), (q8, .inl (t8, 576, .inl (fun _ => 0))), (q17, .inl (t17, 576, .inl (fun _ => 0))), (q24, .inl (t24, 3, .inl (fun _ => 0))), (q31, .inl (t31, 3, .inl (fun _ => 0))), (q38, .inl (t38, 3, .inl (fun _ => 0))), (q47, .inl (t47, 576, .inl (fun _ => 0)))]) [0, 1, 2, 3, 4, 5, 6] (by decide) rfl
          exact W.vret hx hb hr (fun t ht hW => ⟨⟨((fun k => match k with | 0 => h0 | 1 => q8 | 2 => q17 | 3 => q24 | 4 => q31 | 5 => q38 | _ => q47), (fun k => match k with | 0 => t8 | 1 => t8 | 2 => t17 | 3 => t24 | 4 => t31 | 5 => t38 | _ => t47), wN, hN_), rfl, ⟨rfl, hwN, hhN_⟩, by rw [ht]; exact hP9, va_K.moved hW.alike hK, hD9⟩, hS.F ht⟩) hS.2.2 dX2_init_92
        · refine lv_iload_n hx hb dX2_init_84 rfl (lv_at hl 2 rfl) ?_
          refine lv_goto (tgt := 89) hx hb dX2_init_85 (by decide) ?_
          obtain ⟨hN_, hhN_, ehN_⟩ : ∃ z : Nat, SIDE y z ∧ y = nI z := SIDE_of (Or.inl ⟨by rw [Int32.lt_iff_toInt_lt] at c75 c81; have e1 : (1 : Int32).toInt = 1 := (by decide); have e24 : (24 : Int32).toInt = 24 := (by decide); omega, rfl⟩)
          refine lv_topi (fun zz ezz => ?_)
          obtain rfl : zz = nI hN_ := ezz.trans (ehN_)
          refine va_putF (D := (dC, dI)) (ci := 2) (v := .int (nI hN_)) (ty := .int) (C := RX2) (T := TX2) (N := 8) hx hb hts (by decide +kernel) tyX2 tyX2_ok nmX2 hown hK hP hD hS 0 rfl rfl 1 (by decide) (hts (.fieldLink RX2 33 "TriangleRasterModel" "h" "I") (by decide +kernel)) (fun _ h9 => h9) rfl hin rfl (by decide +kernel) rfl rfl (Nat.le_of_ble_eq_true rfl) dX2_init_89 (fun H locs hP hD hS => ?_)
          have hP : va_P (dC, dI) vwCl [(h0, .inr (2, [.int (nI wN), .int (nI hN_), .ref q8, .ref q17, .ref q24, .ref q31, .ref q38, .ref q47])), (q8, .inl (t8, 576, .inl (fun _ => 0))), (q17, .inl (t17, 576, .inl (fun _ => 0))), (q24, .inl (t24, 3, .inl (fun _ => 0))), (q31, .inl (t31, 3, .inl (fun _ => 0))), (q38, .inl (t38, 3, .inl (fun _ => 0))), (q47, .inl (t47, 576, .inl (fun _ => 0)))] H := hP
          have hD : va_D A [(h0, .inr (2, [.int (nI wN), .int (nI hN_), .ref q8, .ref q17, .ref q24, .ref q31, .ref q38, .ref q47])), (q8, .inl (t8, 576, .inl (fun _ => 0))), (q17, .inl (t17, 576, .inl (fun _ => 0))), (q24, .inl (t24, 3, .inl (fun _ => 0))), (q31, .inl (t31, 3, .inl (fun _ => 0))), (q38, .inl (t38, 3, .inl (fun _ => 0))), (q47, .inl (t47, 576, .inl (fun _ => 0)))] := hD
          have hP9 := hP.sub (ws' := [(h0, .inr (2, [.int (nI wN), .int (nI hN_), .ref q8, .ref q17, .ref q24, .ref q31, .ref q38, .ref q47])), (q8, .inl (t8, 576, .inl (fun _ => 0))), (q17, .inl (t17, 576, .inl (fun _ => 0))), (q24, .inl (t24, 3, .inl (fun _ => 0))), (q31, .inl (t31, 3, .inl (fun _ => 0))), (q38, .inl (t38, 3, .inl (fun _ => 0))), (q47, .inl (t47, 576, .inl (fun _ => 0)))]) [0, 1, 2, 3, 4, 5, 6] rfl
          have hD9 := hD.sub (ws' := [(h0, .inr (2, [.int (nI wN), .int (nI hN_), .ref q8, .ref q17, .ref q24, .ref q31, .ref q38, .ref q47])), (q8, .inl (t8, 576, .inl (fun _ => 0))), (q17, .inl (t17, 576, .inl (fun _ => 0))), (q24, .inl (t24, 3, .inl (fun _ => 0))), (q31, .inl (t31, 3, .inl (fun _ => 0))), (q38, .inl (t38, 3, .inl (fun _ => 0))), (q47, .inl (t47, 576, .inl (fun _ => 0)))]) [0, 1, 2, 3, 4, 5, 6] (by decide) rfl
          exact W.vret hx hb hr (fun t ht hW => ⟨⟨((fun k => match k with | 0 => h0 | 1 => q8 | 2 => q17 | 3 => q24 | 4 => q31 | 5 => q38 | _ => q47), (fun k => match k with | 0 => t8 | 1 => t8 | 2 => t17 | 3 => t24 | 4 => t31 | 5 => t38 | _ => t47), wN, hN_), rfl, ⟨rfl, hwN, hhN_⟩, by rw [ht]; exact hP9, va_K.moved hW.alike hK, hD9⟩, hS.F ht⟩) hS.2.2 dX2_init_92

set_option maxHeartbeats 1000000 in
set_option maxRecDepth 100000 in
/-- isPixel -/
theorem c_X2_isPixel (l : Launch) (dC : Nat → ClassId) (dI : Nat → Nat → Nat) (sz : Nat) (am : Nat → Nat) (w h : Nat) (hw1 : 1 ≤ w) (hw2 : w ≤ 24) (hh1 : 1 ≤ h) (hh2 : h ≤ 24) (x y : Int32) : Met l yX2_isPixel wsX2_isPixel ({ frames := 0, cells := 0, slots := 0, locals := 0 }) (mP (dC, dI) vwCl [] [(am 0, .inr (2, [.int (nI w), .int (nI h), .ref (am 1), .ref (am 2), .ref (am 3), .ref (am 4), .ref (am 5), .ref (am 6)]))] sz [.ref (am 0), .int x, .int y]) (va_Qi (fun (r : Int32) (u : Unit) => (inX w h x y ∧ r = 1) ∨ (¬ inX w h x y ∧ r = 0)) (mB (dC, dI) vwCl [] (va_A [(am 0, .inr (2, [.int (nI w), .int (nI h), .ref (am 1), .ref (am 2), .ref (am 3), .ref (am 4), .ref (am 5), .ref (am 6)]))] sz) (fun u => [(am 0, .inr (2, [.int (nI w), .int (nI h), .ref (am 1), .ref (am 2), .ref (am 3), .ref (am 4), .ref (am 5), .ref (am 6)]))])) (va_A [(am 0, .inr (2, [.int (nI w), .int (nI h), .ref (am 1), .ref (am 2), .ref (am 3), .ref (am 4), .ref (am 5), .ref (am 6)]))] sz)) 0 0 (va_A [(am 0, .inr (2, [.int (nI w), .int (nI h), .ref (am 1), .ref (am 2), .ref (am 3), .ref (am 4), .ref (am 5), .ref (am 6)]))] sz) := by
  refine Met.ofW (cc := cX2_isPixel) (maxL := 3) (ret := (some .boolean)) (by decide) rfl ?_
  intro p e s m args below meth cD s₁ B hml hv
  obtain ⟨rfl, hsz, hP, hK, hD0, hN⟩ := hv
  have hx := B.exec
  have hb := B.bytes
  have hr := B.returns
  have hts := atoms_spec (ws := wsX2_isPixel) B.pre
  have hown : s.vm.findClass RX2 = some m.cls := findClass_of_methodNamed B.named
  have hlocks := B.notSynchronized
  subst hsz
  have hD := hD0.self (sz := s.heap.size)
  generalize hAe : va_A [(am 0, .inr (2, [.int (nI w), .int (nI h), .ref (am 1), .ref (am 2), .ref (am 3), .ref (am 4), .ref (am 5), .ref (am 6)]))] s.heap.size = A at hD ⊢
  have hA : ∀ q : Nat, s.heap.size ≤ q → A q := fun q h => by rw [← hAe]; exact Or.inr h
  have hS : va_S A s.heap s.heap [] := va_S.rf
  have hP : va_P (dC, dI) vwCl [(am 0, .inr (2, [.int (nI w), .int (nI h), .ref (am 1), .ref (am 2), .ref (am 3), .ref (am 4), .ref (am 5), .ref (am 6)]))] s.heap := hP
  have hl := lv_entry ([.ref (am 0), .int x, .int y]) (n := 3) (Nat.le_of_ble_eq_true rfl)
  rw [lg_entry_eq]
  generalize (lg_sl ([.ref (am 0), .int x, .int y]) ++ List.replicate (3 - (lg_sl ([.ref (am 0), .int x, .int y])).length) Slot.unset).toArray = ls at hl ⊢
  have hl : lv_has ls 3 [(0, .ref (am 0)), (1, .int x), (2, .int y)] := hl
  have ew : (nI w).toInt = w := nI_toInt (by omega)
  have eh : (nI h).toInt = h := nI_toInt (by omega)
  refine lv_iload_n hx hb dX2_isPixel_0 rfl (lv_at hl 1 rfl) ?_
  refine lv_if_lt (tgt := 28) hx hb dX2_isPixel_1 (by decide) (fun c1 => ?_) (fun c1 => ?_)
  · refine lv_iconst (v := 0) hx hb dX2_isPixel_28 (by decide) ?_
    have hP9 := hP.sub (ws' := [(am 0, .inr (2, [.int (nI w), .int (nI h), .ref (am 1), .ref (am 2), .ref (am 3), .ref (am 4), .ref (am 5), .ref (am 6)]))]) [0] rfl
    have hD9 := hD.sub (ws' := [(am 0, .inr (2, [.int (nI w), .int (nI h), .ref (am 1), .ref (am 2), .ref (am 3), .ref (am 4), .ref (am 5), .ref (am 6)]))]) [0] (by decide) rfl
    exact W.zret (v := 0) hx hb hr rfl (fun t ht hW => ⟨⟨0, (), rfl, Or.inr ⟨by unfold inX; simp only [Int32.lt_iff_toInt_lt, Int32.le_iff_toInt_le, Int32.toInt_zero, ew, eh] at c1; omega, rfl⟩, by rw [ht]; exact hP9, va_K.moved hW.alike hK, hD9⟩, hS.F ht⟩) hS.2.2 dX2_isPixel_29
  · refine lv_iload_n hx hb dX2_isPixel_4 rfl (lv_at hl 1 rfl) ?_
    refine lv_aload_n hx hb dX2_isPixel_5 rfl (lv_at hl 0 rfl) ?_
    refine va_get (D := (dC, dI)) (ci := 2) (v := .int (nI w)) (C := RX2) (T := TX2) (N := 8) hx hb hts (by decide +kernel) hown hK hP 0 rfl rfl 0 (by decide) (hts (.fieldLink RX2 29 "TriangleRasterModel" "w" "I") (by decide +kernel)) (fun _ h9 => h9) rfl dX2_isPixel_6 ?_
    refine lv_icmp_ge (tgt := 28) hx hb dX2_isPixel_9 (by decide) (fun c9 => ?_) (fun c9 => ?_)
    · refine lv_iconst (v := 0) hx hb dX2_isPixel_28 (by decide) ?_
      have hP9 := hP.sub (ws' := [(am 0, .inr (2, [.int (nI w), .int (nI h), .ref (am 1), .ref (am 2), .ref (am 3), .ref (am 4), .ref (am 5), .ref (am 6)]))]) [0] rfl
      have hD9 := hD.sub (ws' := [(am 0, .inr (2, [.int (nI w), .int (nI h), .ref (am 1), .ref (am 2), .ref (am 3), .ref (am 4), .ref (am 5), .ref (am 6)]))]) [0] (by decide) rfl
      exact W.zret (v := 0) hx hb hr rfl (fun t ht hW => ⟨⟨0, (), rfl, Or.inr ⟨by unfold inX; simp only [Int32.lt_iff_toInt_lt, Int32.le_iff_toInt_le, Int32.toInt_zero, ew, eh] at c1 c9; omega, rfl⟩, by rw [ht]; exact hP9, va_K.moved hW.alike hK, hD9⟩, hS.F ht⟩) hS.2.2 dX2_isPixel_29
    · refine lv_iload_n hx hb dX2_isPixel_12 rfl (lv_at hl 2 rfl) ?_
      refine lv_if_lt (tgt := 28) hx hb dX2_isPixel_13 (by decide) (fun c13 => ?_) (fun c13 => ?_)
      · refine lv_iconst (v := 0) hx hb dX2_isPixel_28 (by decide) ?_
        have hP9 := hP.sub (ws' := [(am 0, .inr (2, [.int (nI w), .int (nI h), .ref (am 1), .ref (am 2), .ref (am 3), .ref (am 4), .ref (am 5), .ref (am 6)]))]) [0] rfl
        have hD9 := hD.sub (ws' := [(am 0, .inr (2, [.int (nI w), .int (nI h), .ref (am 1), .ref (am 2), .ref (am 3), .ref (am 4), .ref (am 5), .ref (am 6)]))]) [0] (by decide) rfl
        exact W.zret (v := 0) hx hb hr rfl (fun t ht hW => ⟨⟨0, (), rfl, Or.inr ⟨by unfold inX; simp only [Int32.lt_iff_toInt_lt, Int32.le_iff_toInt_le, Int32.toInt_zero, ew, eh] at c1 c9 c13; omega, rfl⟩, by rw [ht]; exact hP9, va_K.moved hW.alike hK, hD9⟩, hS.F ht⟩) hS.2.2 dX2_isPixel_29
      · refine lv_iload_n hx hb dX2_isPixel_16 rfl (lv_at hl 2 rfl) ?_
        refine lv_aload_n hx hb dX2_isPixel_17 rfl (lv_at hl 0 rfl) ?_
        refine va_get (D := (dC, dI)) (ci := 2) (v := .int (nI h)) (C := RX2) (T := TX2) (N := 8) hx hb hts (by decide +kernel) hown hK hP 0 rfl rfl 1 (by decide) (hts (.fieldLink RX2 33 "TriangleRasterModel" "h" "I") (by decide +kernel)) (fun _ h9 => h9) rfl dX2_isPixel_18 ?_
        refine lv_icmp_ge (tgt := 28) hx hb dX2_isPixel_21 (by decide) (fun c21 => ?_) (fun c21 => ?_)
        · refine lv_iconst (v := 0) hx hb dX2_isPixel_28 (by decide) ?_
          have hP9 := hP.sub (ws' := [(am 0, .inr (2, [.int (nI w), .int (nI h), .ref (am 1), .ref (am 2), .ref (am 3), .ref (am 4), .ref (am 5), .ref (am 6)]))]) [0] rfl
          have hD9 := hD.sub (ws' := [(am 0, .inr (2, [.int (nI w), .int (nI h), .ref (am 1), .ref (am 2), .ref (am 3), .ref (am 4), .ref (am 5), .ref (am 6)]))]) [0] (by decide) rfl
          exact W.zret (v := 0) hx hb hr rfl (fun t ht hW => ⟨⟨0, (), rfl, Or.inr ⟨by unfold inX; simp only [Int32.lt_iff_toInt_lt, Int32.le_iff_toInt_le, Int32.toInt_zero, ew, eh] at c1 c9 c13 c21; omega, rfl⟩, by rw [ht]; exact hP9, va_K.moved hW.alike hK, hD9⟩, hS.F ht⟩) hS.2.2 dX2_isPixel_29
        · refine lv_iconst (v := 1) hx hb dX2_isPixel_24 (by decide) ?_
          refine lv_goto (tgt := 29) hx hb dX2_isPixel_25 (by decide) ?_
          have hP9 := hP.sub (ws' := [(am 0, .inr (2, [.int (nI w), .int (nI h), .ref (am 1), .ref (am 2), .ref (am 3), .ref (am 4), .ref (am 5), .ref (am 6)]))]) [0] rfl
          have hD9 := hD.sub (ws' := [(am 0, .inr (2, [.int (nI w), .int (nI h), .ref (am 1), .ref (am 2), .ref (am 3), .ref (am 4), .ref (am 5), .ref (am 6)]))]) [0] (by decide) rfl
          exact W.zret (v := 1) hx hb hr rfl (fun t ht hW => ⟨⟨1, (), rfl, Or.inl ⟨by unfold inX; simp only [Int32.lt_iff_toInt_lt, Int32.le_iff_toInt_le, Int32.toInt_zero, ew, eh] at c1 c9 c13 c21; omega, rfl⟩, by rw [ht]; exact hP9, va_K.moved hW.alike hK, hD9⟩, hS.F ht⟩) hS.2.2 dX2_isPixel_29

set_option maxHeartbeats 1000000 in
set_option maxRecDepth 100000 in
/-- clear -/
theorem c_X2_clear (l : Launch) (dC : Nat → ClassId) (dI : Nat → Nat → Nat) (sz : Nat) (am : Nat → Nat) (tm : Nat → ClassId) (w h : Nat) (mc md : Nat → Int32) (c z : Int32) : Met l yX2_clear wsX2_clear ({ frames := 0, cells := 0, slots := 0, locals := 0 }) (mP (dC, dI) vwCl [(tm 1, .int), (tm 2, .int)] [(am 0, .inr (2, [.int (nI w), .int (nI h), .ref (am 1), .ref (am 2), .ref (am 3), .ref (am 4), .ref (am 5), .ref (am 6)])), (am 1, .inl (tm 1, 576, .inl mc)), (am 2, .inl (tm 2, 576, .inl md))] sz [.ref (am 0), .int c, .int z]) (va_Qi (fun (r : Int32) (u : (Nat → Int32) × (Nat → Int32)) => ((0 ≤ z.toInt ∧ z.toInt ≤ 65535) ∧ r = 1 ∧ (∀ i, i < 576 → u.1 i = c ∧ u.2 i = z)) ∨ (¬ (0 ≤ z.toInt ∧ z.toInt ≤ 65535) ∧ r = 0 ∧ u = (mc, md))) (mB (dC, dI) vwCl [(tm 1, .int), (tm 2, .int)] (va_A [(am 0, .inr (2, [.int (nI w), .int (nI h), .ref (am 1), .ref (am 2), .ref (am 3), .ref (am 4), .ref (am 5), .ref (am 6)])), (am 1, .inl (tm 1, 576, .inl mc)), (am 2, .inl (tm 2, 576, .inl md))] sz) (fun u => [(am 0, .inr (2, [.int (nI w), .int (nI h), .ref (am 1), .ref (am 2), .ref (am 3), .ref (am 4), .ref (am 5), .ref (am 6)])), (am 1, .inl (tm 1, 576, .inl u.1)), (am 2, .inl (tm 2, 576, .inl u.2))])) (va_A [(am 0, .inr (2, [.int (nI w), .int (nI h), .ref (am 1), .ref (am 2), .ref (am 3), .ref (am 4), .ref (am 5), .ref (am 6)])), (am 1, .inl (tm 1, 576, .inl mc)), (am 2, .inl (tm 2, 576, .inl md))] sz)) 0 0 (va_A [(am 0, .inr (2, [.int (nI w), .int (nI h), .ref (am 1), .ref (am 2), .ref (am 3), .ref (am 4), .ref (am 5), .ref (am 6)])), (am 1, .inl (tm 1, 576, .inl mc)), (am 2, .inl (tm 2, 576, .inl md))] sz) := by
  refine Met.ofW (cc := cX2_clear) (maxL := 4) (ret := (some .boolean)) (by decide) rfl ?_
  intro p e s m args below meth cD s₁ B hml hv
  obtain ⟨rfl, hsz, hP, hK, hD0, hN⟩ := hv
  have hx := B.exec
  have hb := B.bytes
  have hr := B.returns
  have hts := atoms_spec (ws := wsX2_clear) B.pre
  have hown : s.vm.findClass RX2 = some m.cls := findClass_of_methodNamed B.named
  have hlocks := B.notSynchronized
  subst hsz
  have hD := hD0.self (sz := s.heap.size)
  generalize hAe : va_A [(am 0, .inr (2, [.int (nI w), .int (nI h), .ref (am 1), .ref (am 2), .ref (am 3), .ref (am 4), .ref (am 5), .ref (am 6)])), (am 1, .inl (tm 1, 576, .inl mc)), (am 2, .inl (tm 2, 576, .inl md))] s.heap.size = A at hD ⊢
  have hA : ∀ q : Nat, s.heap.size ≤ q → A q := fun q h => by rw [← hAe]; exact Or.inr h
  have hS : va_S A s.heap s.heap [] := va_S.rf
  have hP : va_P (dC, dI) vwCl [(am 0, .inr (2, [.int (nI w), .int (nI h), .ref (am 1), .ref (am 2), .ref (am 3), .ref (am 4), .ref (am 5), .ref (am 6)])), (am 1, .inl (tm 1, 576, .inl mc)), (am 2, .inl (tm 2, 576, .inl md))] s.heap := hP
  have hl := lv_entry ([.ref (am 0), .int c, .int z]) (n := 4) (Nat.le_of_ble_eq_true rfl)
  rw [lg_entry_eq]
  generalize (lg_sl ([.ref (am 0), .int c, .int z]) ++ List.replicate (4 - (lg_sl ([.ref (am 0), .int c, .int z])).length) Slot.unset).toArray = ls at hl ⊢
  have hl : lv_has ls 4 [(0, .ref (am 0)), (1, .int c), (2, .int z)] := hl
  refine lv_iload_n hx hb dX2_clear_0 rfl (lv_at hl 2 rfl) ?_
  refine lv_if_lt (tgt := 10) hx hb dX2_clear_1 (by decide) (fun c1 => ?_) (fun c1 => ?_)
  · refine lv_iconst (v := 0) hx hb dX2_clear_10 (by decide) ?_
    have hP9 := hP.sub (ws' := [(am 0, .inr (2, [.int (nI w), .int (nI h), .ref (am 1), .ref (am 2), .ref (am 3), .ref (am 4), .ref (am 5), .ref (am 6)])), (am 1, .inl (tm 1, 576, .inl mc)), (am 2, .inl (tm 2, 576, .inl md))]) [0, 1, 2] rfl
    have hD9 := hD.sub (ws' := [(am 0, .inr (2, [.int (nI w), .int (nI h), .ref (am 1), .ref (am 2), .ref (am 3), .ref (am 4), .ref (am 5), .ref (am 6)])), (am 1, .inl (tm 1, 576, .inl mc)), (am 2, .inl (tm 2, 576, .inl md))]) [0, 1, 2] (by decide) rfl
    exact W.zret (v := 0) hx hb hr rfl (fun t ht hW => ⟨⟨0, (mc, md), rfl, Or.inr ⟨by simp only [Int32.lt_iff_toInt_lt, Int32.le_iff_toInt_le, Int32.toInt_zero] at c1; have e1 : (65535 : Int32).toInt = 65535 := (by decide); omega, rfl, rfl⟩, by rw [ht]; exact hP9, va_K.moved hW.alike hK, hD9⟩, hS.F ht⟩) hS.2.2 dX2_clear_11
  · refine lv_iload_n hx hb dX2_clear_4 rfl (lv_at hl 2 rfl) ?_
    refine lv_ldc (v := 65535) hx hb hown (hts (.constant RX2 36 65535) (by decide +kernel)) dX2_clear_5 ?_
    refine lv_icmp_le (tgt := 12) hx hb dX2_clear_7 (by decide) (fun c7 => ?_) (fun c7 => ?_)
    · refine lv_iconst (v := 0) hx hb dX2_clear_12 (by decide) ?_
      refine lv_topi (fun zz ezz => ?_)
      obtain rfl : zz = nI 0 := ezz.trans (nI_0.symm)
      refine lv_istore_n (lv' := [(3, .int (nI 0)), (0, .ref (am 0)), (1, .int c), (2, .int z)]) hx hb dX2_clear_13 rfl hl (by decide) rfl (fun ls hl => ?_)
      have loop : ∀ (n : Nat) (i : Nat) (f : Nat → Int32) (g : Nat → Int32), i ≤ 576 → (∀ j, j < i → f j = c ∧ g j = z) → 576 + 1 ≤ i + n → ∀ (H : Heap) (locs : List Loc), va_P (dC, dI) vwCl [(am 0, .inr (2, [.int (nI w), .int (nI h), .ref (am 1), .ref (am 2), .ref (am 3), .ref (am 4), .ref (am 5), .ref (am 6)])), (am 1, .inl (tm 1, 576, .inl f)), (am 2, .inl (tm 2, 576, .inl g))] H → va_D A [(am 0, .inr (2, [.int (nI w), .int (nI h), .ref (am 1), .ref (am 2), .ref (am 3), .ref (am 4), .ref (am 5), .ref (am 6)])), (am 1, .inl (tm 1, 576, .inl f)), (am 2, .inl (tm 2, 576, .inl g))] → va_S A s.heap H locs → ∀ (ls : Array Slot), lv_has ls 4 [(0, .ref (am 0)), (1, .int c), (2, .int z), (3, .int (nI i))] → W p l e (headSpec wsX2_clear { frames := 0, cells := 0, slots := 0, locals := 0 }).room s m [.ref (am 0), .int c, .int z].toArray below meth cD H locs 0 0 (MQ below (va_Qi (fun (r : Int32) (u : (Nat → Int32) × (Nat → Int32)) => ((0 ≤ z.toInt ∧ z.toInt ≤ 65535) ∧ r = 1 ∧ (∀ i, i < 576 → u.1 i = c ∧ u.2 i = z)) ∨ (¬ (0 ≤ z.toInt ∧ z.toInt ≤ 65535) ∧ r = 0 ∧ u = (mc, md))) (mB (dC, dI) vwCl [(tm 1, .int), (tm 2, .int)] A (fun u => [(am 0, .inr (2, [.int (nI w), .int (nI h), .ref (am 1), .ref (am 2), .ref (am 3), .ref (am 4), .ref (am 5), .ref (am 6)])), (am 1, .inl (tm 1, 576, .inl u.1)), (am 2, .inl (tm 2, 576, .inl u.2))])) A) [.ref (am 0), .int c, .int z].toArray s 0 0 A) (F0 m 14 ls []) := by
        intro n
        induction n with
        | zero => intro i f g hi hg hm; exfalso; omega
        | succ n ih =>
          intro i f g hi hg hm H locs hP hD hS ls hl
          refine lv_iload_n hx hb dX2_clear_14 rfl (lv_at hl 3 rfl) ?_
          refine lv_sipush (v := 576) hx hb dX2_clear_15 (by decide) ?_
          refine lv_icmp_ge (tgt := 41) hx hb dX2_clear_18 (by decide) (fun c18 => ?_) (fun c18 => ?_)
          · refine lv_iconst (v := 1) hx hb dX2_clear_41 (by decide) ?_
            have hP9 := hP.sub (ws' := [(am 0, .inr (2, [.int (nI w), .int (nI h), .ref (am 1), .ref (am 2), .ref (am 3), .ref (am 4), .ref (am 5), .ref (am 6)])), (am 1, .inl (tm 1, 576, .inl f)), (am 2, .inl (tm 2, 576, .inl g))]) [0, 1, 2] rfl
            have hD9 := hD.sub (ws' := [(am 0, .inr (2, [.int (nI w), .int (nI h), .ref (am 1), .ref (am 2), .ref (am 3), .ref (am 4), .ref (am 5), .ref (am 6)])), (am 1, .inl (tm 1, 576, .inl f)), (am 2, .inl (tm 2, 576, .inl g))]) [0, 1, 2] (by decide) rfl
            exact W.zret (v := 1) hx hb hr rfl (fun t ht hW => ⟨⟨1, (f, g), rfl, Or.inl ⟨by simp only [Int32.lt_iff_toInt_lt, Int32.le_iff_toInt_le, Int32.toInt_zero] at c1 c7; have e1 : (65535 : Int32).toInt = 65535 := (by decide); omega, rfl, fun j hj => hg j (by rw [show (576 : Int32) = nI 576 from rfl, nI_leI (by omega) (by omega)] at c18; omega)⟩, by rw [ht]; exact hP9, va_K.moved hW.alike hK, hD9⟩, hS.F ht⟩) hS.2.2 dX2_clear_42
          · have hlt : i < 576 := by
              rw [show (576 : Int32) = nI 576 from rfl, nI_leI (by omega) (by omega)] at c18; omega
            refine lv_aload_n hx hb dX2_clear_21 rfl (lv_at hl 0 rfl) ?_
            refine va_get (D := (dC, dI)) (ci := 2) (v := .ref (am 1)) (C := RX2) (T := TX2) (N := 8) hx hb hts (by decide +kernel) hown hK hP 0 rfl rfl 2 (by decide) (hts (.fieldLink RX2 7 "TriangleRasterModel" "colours" "[I") (by decide +kernel)) (fun _ h9 => h9) rfl dX2_clear_22 ?_
            refine lv_iload_n hx hb dX2_clear_25 rfl (lv_at hl 3 rfl) ?_
            refine lv_iload_n hx hb dX2_clear_26 rfl (lv_at hl 1 rfl) ?_
            refine va_iast hx hb hK hP hD hS 1 0 rfl rfl (vp_in_nI hlt (by omega)) dX2_clear_27 (fun H locs hP hD hS => ?_)
            have hP : va_P (dC, dI) vwCl [(am 0, .inr (2, [.int (nI w), .int (nI h), .ref (am 1), .ref (am 2), .ref (am 3), .ref (am 4), .ref (am 5), .ref (am 6)])), (am 1, .inl (tm 1, 576, .inl (upd f (nI i).toNatClampNeg c))), (am 2, .inl (tm 2, 576, .inl g))] H := hP
            have hD : va_D A [(am 0, .inr (2, [.int (nI w), .int (nI h), .ref (am 1), .ref (am 2), .ref (am 3), .ref (am 4), .ref (am 5), .ref (am 6)])), (am 1, .inl (tm 1, 576, .inl (upd f (nI i).toNatClampNeg c))), (am 2, .inl (tm 2, 576, .inl g))] := hD
            refine lv_aload_n hx hb dX2_clear_28 rfl (lv_at hl 0 rfl) ?_
            refine va_get (D := (dC, dI)) (ci := 2) (v := .ref (am 2)) (C := RX2) (T := TX2) (N := 8) hx hb hts (by decide +kernel) hown hK hP 0 rfl rfl 3 (by decide) (hts (.fieldLink RX2 13 "TriangleRasterModel" "depths" "[I") (by decide +kernel)) (fun _ h9 => h9) rfl dX2_clear_29 ?_
            refine lv_iload_n hx hb dX2_clear_32 rfl (lv_at hl 3 rfl) ?_
            refine lv_iload_n hx hb dX2_clear_33 rfl (lv_at hl 2 rfl) ?_
            refine va_iast hx hb hK hP hD hS 2 1 rfl rfl (vp_in_nI hlt (by omega)) dX2_clear_34 (fun H locs hP hD hS => ?_)
            have hP : va_P (dC, dI) vwCl [(am 0, .inr (2, [.int (nI w), .int (nI h), .ref (am 1), .ref (am 2), .ref (am 3), .ref (am 4), .ref (am 5), .ref (am 6)])), (am 1, .inl (tm 1, 576, .inl (upd f (nI i).toNatClampNeg c))), (am 2, .inl (tm 2, 576, .inl (upd g (nI i).toNatClampNeg z)))] H := hP
            have hD : va_D A [(am 0, .inr (2, [.int (nI w), .int (nI h), .ref (am 1), .ref (am 2), .ref (am 3), .ref (am 4), .ref (am 5), .ref (am 6)])), (am 1, .inl (tm 1, 576, .inl (upd f (nI i).toNatClampNeg c))), (am 2, .inl (tm 2, 576, .inl (upd g (nI i).toNatClampNeg z)))] := hD
            refine lv_iinc (v := nI (i + 1)) (lv' := [(3, .int (nI (i + 1))), (0, .ref (am 0)), (1, .int c), (2, .int z)]) hx hb dX2_clear_35 hl (k := 3) rfl (nI_add _ 1) (by decide) rfl (fun ls hl => ?_)
            refine lv_goto (tgt := 14) hx hb dX2_clear_38 (by decide) ?_
            exact ih (i + 1) (upd f (nI i).toNatClampNeg c) (upd g (nI i).toNatClampNeg z) (by omega) (fun j h => by rw [nI_clamp (by omega)]; by_cases hj : j = i; rw [hj, pk_us, pk_us]; exact ⟨rfl, rfl⟩; rw [pk_un hj, pk_un hj]; exact hg j (by omega)) (by omega) _ _ (hP.sub [0, 1, 2] rfl) (hD.sub [0, 1, 2] (by decide) rfl) hS ls (lv_sub hl [1, 2, 3, 0] rfl)
      exact loop (577) 0 mc md (Nat.zero_le _) (fun j h => absurd h (Nat.not_lt_zero j)) (by omega) _ _ (hP.sub [0, 1, 2] rfl) (hD.sub [0, 1, 2] (by decide) rfl) hS ls (lv_sub hl [1, 2, 3, 0] rfl)
    · refine lv_iconst (v := 0) hx hb dX2_clear_10 (by decide) ?_
      have hP9 := hP.sub (ws' := [(am 0, .inr (2, [.int (nI w), .int (nI h), .ref (am 1), .ref (am 2), .ref (am 3), .ref (am 4), .ref (am 5), .ref (am 6)])), (am 1, .inl (tm 1, 576, .inl mc)), (am 2, .inl (tm 2, 576, .inl md))]) [0, 1, 2] rfl
      have hD9 := hD.sub (ws' := [(am 0, .inr (2, [.int (nI w), .int (nI h), .ref (am 1), .ref (am 2), .ref (am 3), .ref (am 4), .ref (am 5), .ref (am 6)])), (am 1, .inl (tm 1, 576, .inl mc)), (am 2, .inl (tm 2, 576, .inl md))]) [0, 1, 2] (by decide) rfl
      exact W.zret (v := 0) hx hb hr rfl (fun t ht hW => ⟨⟨0, (mc, md), rfl, Or.inr ⟨by simp only [Int32.lt_iff_toInt_lt, Int32.le_iff_toInt_le, Int32.toInt_zero] at c1 c7; have e1 : (65535 : Int32).toInt = 65535 := (by decide); omega, rfl, rfl⟩, by rw [ht]; exact hP9, va_K.moved hW.alike hK, hD9⟩, hS.F ht⟩) hS.2.2 dX2_clear_11

set_option maxHeartbeats 1000000 in
set_option maxRecDepth 100000 in
/-- isFar -/
theorem c_X2_isFar (l : Launch) (dC : Nat → ClassId) (dI : Nat → Nat → Nat) (sz : Nat) (x : Int32) : Met l yX2_isFar wsX2_isFar ({ frames := 0, cells := 0, slots := 0, locals := 0 }) (mP (dC, dI) vwCl [] [] sz [.int x]) (va_Qi (fun (r : Int32) (u : Unit) => ((-16384 ≤ x.toInt ∧ x.toInt ≤ 16384) ∧ r = 0) ∨ (¬ (-16384 ≤ x.toInt ∧ x.toInt ≤ 16384) ∧ r = 1)) (mB (dC, dI) vwCl [] (va_A [] sz) (fun u => [])) (va_A [] sz)) 0 0 (va_A [] sz) := by
  refine Met.ofW (cc := cX2_isFar) (maxL := 1) (ret := (some .boolean)) (by decide) rfl ?_
  intro p e s m args below meth cD s₁ B hml hv
  obtain ⟨rfl, hsz, hP, hK, hD0, hN⟩ := hv
  have hx := B.exec
  have hb := B.bytes
  have hr := B.returns
  have hts := atoms_spec (ws := wsX2_isFar) B.pre
  have hown : s.vm.findClass RX2 = some m.cls := findClass_of_methodNamed B.named
  have hlocks := B.notSynchronized
  subst hsz
  have hD := hD0.self (sz := s.heap.size)
  generalize hAe : va_A [] s.heap.size = A at hD ⊢
  have hA : ∀ q : Nat, s.heap.size ≤ q → A q := fun q h => by rw [← hAe]; exact Or.inr h
  have hS : va_S A s.heap s.heap [] := va_S.rf
  have hP : va_P (dC, dI) vwCl [] s.heap := hP
  have hl := lv_entry ([.int x]) (n := 1) (Nat.le_of_ble_eq_true rfl)
  rw [lg_entry_eq]
  generalize (lg_sl ([.int x]) ++ List.replicate (1 - (lg_sl ([.int x])).length) Slot.unset).toArray = ls at hl ⊢
  have hl : lv_has ls 1 [(0, .int x)] := hl
  refine lv_iload_n hx hb dX2_isFar_0 rfl (lv_at hl 0 rfl) ?_
  refine lv_sipush (v := (-16384)) hx hb dX2_isFar_1 (by decide) ?_
  refine lv_icmp_lt (tgt := 14) hx hb dX2_isFar_4 (by decide) (fun c4 => ?_) (fun c4 => ?_)
  · refine lv_iconst (v := 1) hx hb dX2_isFar_14 (by decide) ?_
    refine lv_goto (tgt := 19) hx hb dX2_isFar_15 (by decide) ?_
    have hP9 := hP.sub (ws' := []) [] rfl
    have hD9 := hD.sub (ws' := []) [] (by decide) rfl
    exact W.zret (v := 1) hx hb hr rfl (fun t ht hW => ⟨⟨1, (), rfl, Or.inr ⟨by simp only [Int32.lt_iff_toInt_lt, Int32.le_iff_toInt_le] at c4; have e1 : (-16384 : Int32).toInt = -16384 := (by decide); have e2 : (16384 : Int32).toInt = 16384 := (by decide); omega, rfl⟩, by rw [ht]; exact hP9, va_K.moved hW.alike hK, hD9⟩, hS.F ht⟩) hS.2.2 dX2_isFar_19
  · refine lv_iload_n hx hb dX2_isFar_7 rfl (lv_at hl 0 rfl) ?_
    refine lv_sipush (v := 16384) hx hb dX2_isFar_8 (by decide) ?_
    refine lv_icmp_le (tgt := 18) hx hb dX2_isFar_11 (by decide) (fun c11 => ?_) (fun c11 => ?_)
    · refine lv_iconst (v := 0) hx hb dX2_isFar_18 (by decide) ?_
      have hP9 := hP.sub (ws' := []) [] rfl
      have hD9 := hD.sub (ws' := []) [] (by decide) rfl
      exact W.zret (v := 0) hx hb hr rfl (fun t ht hW => ⟨⟨0, (), rfl, Or.inl ⟨by simp only [Int32.lt_iff_toInt_lt, Int32.le_iff_toInt_le] at c4 c11; have e1 : (-16384 : Int32).toInt = -16384 := (by decide); have e2 : (16384 : Int32).toInt = 16384 := (by decide); omega, rfl⟩, by rw [ht]; exact hP9, va_K.moved hW.alike hK, hD9⟩, hS.F ht⟩) hS.2.2 dX2_isFar_19
    · refine lv_iconst (v := 1) hx hb dX2_isFar_14 (by decide) ?_
      refine lv_goto (tgt := 19) hx hb dX2_isFar_15 (by decide) ?_
      have hP9 := hP.sub (ws' := []) [] rfl
      have hD9 := hD.sub (ws' := []) [] (by decide) rfl
      exact W.zret (v := 1) hx hb hr rfl (fun t ht hW => ⟨⟨1, (), rfl, Or.inr ⟨by simp only [Int32.lt_iff_toInt_lt, Int32.le_iff_toInt_le] at c4 c11; have e1 : (-16384 : Int32).toInt = -16384 := (by decide); have e2 : (16384 : Int32).toInt = 16384 := (by decide); omega, rfl⟩, by rw [ht]; exact hP9, va_K.moved hW.alike hK, hD9⟩, hS.F ht⟩) hS.2.2 dX2_isFar_19

set_option maxHeartbeats 1000000 in
set_option maxRecDepth 100000 in
/-- vertex -/
theorem c_X2_vertex (l : Launch) (dC : Nat → ClassId) (dI : Nat → Nat → Nat) (sz : Nat) (am : Nat → Nat) (tm : Nat → ClassId) (w h : Nat) (vx vy vz : Nat → Int32) (k x y z : Int32) : Met l yX2_vertex wsX2_vertex ({ frames := 1, cells := 0, slots := 0, locals := 20 }) (mP (dC, dI) vwCl [(tm 3, .int), (tm 4, .int), (tm 5, .int)] [(am 0, .inr (2, [.int (nI w), .int (nI h), .ref (am 1), .ref (am 2), .ref (am 3), .ref (am 4), .ref (am 5), .ref (am 6)])), (am 3, .inl (tm 3, 3, .inl vx)), (am 4, .inl (tm 4, 3, .inl vy)), (am 5, .inl (tm 5, 3, .inl vz))] sz [.ref (am 0), .int k, .int x, .int y, .int z]) (va_Qi (fun (r : Int32) (u : (Nat → Int32) × (Nat → Int32) × (Nat → Int32)) => (VOK k x y z ∧ r = 1 ∧ u = (upd vx k.toNatClampNeg x, upd vy k.toNatClampNeg y, upd vz k.toNatClampNeg z)) ∨ (¬ VOK k x y z ∧ r = 0 ∧ u = (vx, vy, vz))) (mB (dC, dI) vwCl [(tm 3, .int), (tm 4, .int), (tm 5, .int)] (va_A [(am 0, .inr (2, [.int (nI w), .int (nI h), .ref (am 1), .ref (am 2), .ref (am 3), .ref (am 4), .ref (am 5), .ref (am 6)])), (am 3, .inl (tm 3, 3, .inl vx)), (am 4, .inl (tm 4, 3, .inl vy)), (am 5, .inl (tm 5, 3, .inl vz))] sz) (fun u => [(am 0, .inr (2, [.int (nI w), .int (nI h), .ref (am 1), .ref (am 2), .ref (am 3), .ref (am 4), .ref (am 5), .ref (am 6)])), (am 3, .inl (tm 3, 3, .inl u.1)), (am 4, .inl (tm 4, 3, .inl u.2.1)), (am 5, .inl (tm 5, 3, .inl u.2.2))])) (va_A [(am 0, .inr (2, [.int (nI w), .int (nI h), .ref (am 1), .ref (am 2), .ref (am 3), .ref (am 4), .ref (am 5), .ref (am 6)])), (am 3, .inl (tm 3, 3, .inl vx)), (am 4, .inl (tm 4, 3, .inl vy)), (am 5, .inl (tm 5, 3, .inl vz))] sz)) 0 0 (va_A [(am 0, .inr (2, [.int (nI w), .int (nI h), .ref (am 1), .ref (am 2), .ref (am 3), .ref (am 4), .ref (am 5), .ref (am 6)])), (am 3, .inl (tm 3, 3, .inl vx)), (am 4, .inl (tm 4, 3, .inl vy)), (am 5, .inl (tm 5, 3, .inl vz))] sz) := by
  refine Met.ofW (cc := cX2_vertex) (maxL := 5) (ret := (some .boolean)) (by decide) rfl ?_
  intro p e s m args below meth cD s₁ B hml hv
  obtain ⟨rfl, hsz, hP, hK, hD0, hN⟩ := hv
  have hx := B.exec
  have hb := B.bytes
  have hr := B.returns
  have hts := atoms_spec (ws := wsX2_vertex) B.pre
  have hown : s.vm.findClass RX2 = some m.cls := findClass_of_methodNamed B.named
  have hlocks := B.notSynchronized
  subst hsz
  have hD := hD0.self (sz := s.heap.size)
  generalize hAe : va_A [(am 0, .inr (2, [.int (nI w), .int (nI h), .ref (am 1), .ref (am 2), .ref (am 3), .ref (am 4), .ref (am 5), .ref (am 6)])), (am 3, .inl (tm 3, 3, .inl vx)), (am 4, .inl (tm 4, 3, .inl vy)), (am 5, .inl (tm 5, 3, .inl vz))] s.heap.size = A at hD ⊢
  have hA : ∀ q : Nat, s.heap.size ≤ q → A q := fun q h => by rw [← hAe]; exact Or.inr h
  have hS : va_S A s.heap s.heap [] := va_S.rf
  have hP : va_P (dC, dI) vwCl [(am 0, .inr (2, [.int (nI w), .int (nI h), .ref (am 1), .ref (am 2), .ref (am 3), .ref (am 4), .ref (am 5), .ref (am 6)])), (am 3, .inl (tm 3, 3, .inl vx)), (am 4, .inl (tm 4, 3, .inl vy)), (am 5, .inl (tm 5, 3, .inl vz))] s.heap := hP
  have hl := lv_entry ([.ref (am 0), .int k, .int x, .int y, .int z]) (n := 5) (Nat.le_of_ble_eq_true rfl)
  rw [lg_entry_eq]
  generalize (lg_sl ([.ref (am 0), .int k, .int x, .int y, .int z]) ++ List.replicate (5 - (lg_sl ([.ref (am 0), .int k, .int x, .int y, .int z])).length) Slot.unset).toArray = ls at hl ⊢
  have hl : lv_has ls 5 [(0, .ref (am 0)), (1, .int k), (2, .int x), (3, .int y), (4, .int z)] := hl
  refine lv_iload_n hx hb dX2_vertex_0 rfl (lv_at hl 1 rfl) ?_
  refine lv_if_lt (tgt := 35) hx hb dX2_vertex_1 (by decide) (fun c1 => ?_) (fun c1 => ?_)
  · refine lv_iconst (v := 0) hx hb dX2_vertex_35 (by decide) ?_
    have hP9 := hP.sub (ws' := [(am 0, .inr (2, [.int (nI w), .int (nI h), .ref (am 1), .ref (am 2), .ref (am 3), .ref (am 4), .ref (am 5), .ref (am 6)])), (am 3, .inl (tm 3, 3, .inl vx)), (am 4, .inl (tm 4, 3, .inl vy)), (am 5, .inl (tm 5, 3, .inl vz))]) [0, 1, 2, 3] rfl
    have hD9 := hD.sub (ws' := [(am 0, .inr (2, [.int (nI w), .int (nI h), .ref (am 1), .ref (am 2), .ref (am 3), .ref (am 4), .ref (am 5), .ref (am 6)])), (am 3, .inl (tm 3, 3, .inl vx)), (am 4, .inl (tm 4, 3, .inl vy)), (am 5, .inl (tm 5, 3, .inl vz))]) [0, 1, 2, 3] (by decide) rfl
    exact W.zret (v := 0) hx hb hr rfl (fun t ht hW => ⟨⟨0, (vx, vy, vz), rfl, Or.inr ⟨fun q => by have g := q.1; simp only [Int32.lt_iff_toInt_lt, Int32.le_iff_toInt_le, Int32.toInt_zero] at c1; have e1 : (2 : Int32).toInt = 2 := (by decide); have e2 : (32768 : Int32).toInt = 32768 := (by decide); omega, rfl, rfl⟩, by rw [ht]; exact hP9, va_K.moved hW.alike hK, hD9⟩, hS.F ht⟩) hS.2.2 dX2_vertex_36
  · refine lv_iload_n hx hb dX2_vertex_4 rfl (lv_at hl 1 rfl) ?_
    refine lv_iconst (v := 2) hx hb dX2_vertex_5 (by decide) ?_
    refine lv_icmp_gt (tgt := 35) hx hb dX2_vertex_6 (by decide) (fun c6 => ?_) (fun c6 => ?_)
    · refine lv_iconst (v := 0) hx hb dX2_vertex_35 (by decide) ?_
      have hP9 := hP.sub (ws' := [(am 0, .inr (2, [.int (nI w), .int (nI h), .ref (am 1), .ref (am 2), .ref (am 3), .ref (am 4), .ref (am 5), .ref (am 6)])), (am 3, .inl (tm 3, 3, .inl vx)), (am 4, .inl (tm 4, 3, .inl vy)), (am 5, .inl (tm 5, 3, .inl vz))]) [0, 1, 2, 3] rfl
      have hD9 := hD.sub (ws' := [(am 0, .inr (2, [.int (nI w), .int (nI h), .ref (am 1), .ref (am 2), .ref (am 3), .ref (am 4), .ref (am 5), .ref (am 6)])), (am 3, .inl (tm 3, 3, .inl vx)), (am 4, .inl (tm 4, 3, .inl vy)), (am 5, .inl (tm 5, 3, .inl vz))]) [0, 1, 2, 3] (by decide) rfl
      exact W.zret (v := 0) hx hb hr rfl (fun t ht hW => ⟨⟨0, (vx, vy, vz), rfl, Or.inr ⟨fun q => by have g := q.1; simp only [Int32.lt_iff_toInt_lt, Int32.le_iff_toInt_le, Int32.toInt_zero] at c1 c6; have e1 : (2 : Int32).toInt = 2 := (by decide); have e2 : (32768 : Int32).toInt = 32768 := (by decide); omega, rfl, rfl⟩, by rw [ht]; exact hP9, va_K.moved hW.alike hK, hD9⟩, hS.F ht⟩) hS.2.2 dX2_vertex_36
    · refine lv_iload_n hx hb dX2_vertex_9 rfl (lv_at hl 2 rfl) ?_
      refine m_calli (cs := []) (wr := [(am 0, .inr (2, [.int (nI w), .int (nI h), .ref (am 1), .ref (am 2), .ref (am 3), .ref (am 4), .ref (am 5), .ref (am 6)])), (am 3, .inl (tm 3, 3, .inl vx)), (am 4, .inl (tm 4, 3, .inl vy)), (am 5, .inl (tm 5, 3, .inl vz))]) hP hD hS hA [] [0, 1, 2, 3] rfl rfl (by decide) (by decide) (va_runS (As := [.int x]) (rest := []) ⟨hx, hb, hml, hown, hts⟩ (c_X2_isFar l dC dI _ x) (va_cwS 1 hts gX2_vertex_X2_isFar rfl rfl rfl (by decide +kernel) ⟨Nat.le_of_ble_eq_true rfl, Nat.le_of_ble_eq_true rfl⟩) (m_preS (hP.sub [] rfl) (hK.sub [] rfl) (hD.sub [] (by decide) rfl) hN) rfl rfl hl.1 rfl (lv_room (Nat.le_of_ble_eq_true rfl)) dX2_vertex_10 ⟨Nat.le_of_ble_eq_true rfl, Nat.le_of_ble_eq_true rfl⟩) (fun r10 _ H locs q10 hK2 hP hD hS => ?_)
      have hP : va_P (dC, dI) vwCl [(am 0, .inr (2, [.int (nI w), .int (nI h), .ref (am 1), .ref (am 2), .ref (am 3), .ref (am 4), .ref (am 5), .ref (am 6)])), (am 3, .inl (tm 3, 3, .inl vx)), (am 4, .inl (tm 4, 3, .inl vy)), (am 5, .inl (tm 5, 3, .inl vz))] H := hP.sub [0, 1, 2, 3] rfl
      have hD : va_D A [(am 0, .inr (2, [.int (nI w), .int (nI h), .ref (am 1), .ref (am 2), .ref (am 3), .ref (am 4), .ref (am 5), .ref (am 6)])), (am 3, .inl (tm 3, 3, .inl vx)), (am 4, .inl (tm 4, 3, .inl vy)), (am 5, .inl (tm 5, 3, .inl vz))] := hD.sub [0, 1, 2, 3] (by decide) rfl
      refine lv_if_ne (tgt := 35) hx hb dX2_vertex_13 (by decide) (fun c13 => ?_) (fun c13 => ?_)
      · refine lv_iconst (v := 0) hx hb dX2_vertex_35 (by decide) ?_
        have hP9 := hP.sub (ws' := [(am 0, .inr (2, [.int (nI w), .int (nI h), .ref (am 1), .ref (am 2), .ref (am 3), .ref (am 4), .ref (am 5), .ref (am 6)])), (am 3, .inl (tm 3, 3, .inl vx)), (am 4, .inl (tm 4, 3, .inl vy)), (am 5, .inl (tm 5, 3, .inl vz))]) [0, 1, 2, 3] rfl
        have hD9 := hD.sub (ws' := [(am 0, .inr (2, [.int (nI w), .int (nI h), .ref (am 1), .ref (am 2), .ref (am 3), .ref (am 4), .ref (am 5), .ref (am 6)])), (am 3, .inl (tm 3, 3, .inl vx)), (am 4, .inl (tm 4, 3, .inl vy)), (am 5, .inl (tm 5, 3, .inl vz))]) [0, 1, 2, 3] (by decide) rfl
        exact W.zret (v := 0) hx hb hr rfl (fun t ht hW => ⟨⟨0, (vx, vy, vz), rfl, Or.inr ⟨fun q => by rcases q10 with h10 | h10; exact c13 h10.2; exact h10.1 q.2.1, rfl, rfl⟩, by rw [ht]; exact hP9, va_K.moved hW.alike hK, hD9⟩, hS.F ht⟩) hS.2.2 dX2_vertex_36
      · refine lv_iload_n hx hb dX2_vertex_16 rfl (lv_at hl 3 rfl) ?_
        refine m_calli (cs := []) (wr := [(am 0, .inr (2, [.int (nI w), .int (nI h), .ref (am 1), .ref (am 2), .ref (am 3), .ref (am 4), .ref (am 5), .ref (am 6)])), (am 3, .inl (tm 3, 3, .inl vx)), (am 4, .inl (tm 4, 3, .inl vy)), (am 5, .inl (tm 5, 3, .inl vz))]) hP hD hS hA [] [0, 1, 2, 3] rfl rfl (by decide) (by decide) (va_runS (As := [.int y]) (rest := []) ⟨hx, hb, hml, hown, hts⟩ (c_X2_isFar l dC dI _ y) (va_cwS 1 hts gX2_vertex_X2_isFar rfl rfl rfl (by decide +kernel) ⟨Nat.le_of_ble_eq_true rfl, Nat.le_of_ble_eq_true rfl⟩) (m_preS (hP.sub [] rfl) (hK.sub [] rfl) (hD.sub [] (by decide) rfl) hN) rfl rfl hl.1 rfl (lv_room (Nat.le_of_ble_eq_true rfl)) dX2_vertex_17 ⟨Nat.le_of_ble_eq_true rfl, Nat.le_of_ble_eq_true rfl⟩) (fun r17 _ H locs q17 hK2 hP hD hS => ?_)
        have hP : va_P (dC, dI) vwCl [(am 0, .inr (2, [.int (nI w), .int (nI h), .ref (am 1), .ref (am 2), .ref (am 3), .ref (am 4), .ref (am 5), .ref (am 6)])), (am 3, .inl (tm 3, 3, .inl vx)), (am 4, .inl (tm 4, 3, .inl vy)), (am 5, .inl (tm 5, 3, .inl vz))] H := hP.sub [0, 1, 2, 3] rfl
        have hD : va_D A [(am 0, .inr (2, [.int (nI w), .int (nI h), .ref (am 1), .ref (am 2), .ref (am 3), .ref (am 4), .ref (am 5), .ref (am 6)])), (am 3, .inl (tm 3, 3, .inl vx)), (am 4, .inl (tm 4, 3, .inl vy)), (am 5, .inl (tm 5, 3, .inl vz))] := hD.sub [0, 1, 2, 3] (by decide) rfl
        refine lv_if_ne (tgt := 35) hx hb dX2_vertex_20 (by decide) (fun c20 => ?_) (fun c20 => ?_)
        · refine lv_iconst (v := 0) hx hb dX2_vertex_35 (by decide) ?_
          have hP9 := hP.sub (ws' := [(am 0, .inr (2, [.int (nI w), .int (nI h), .ref (am 1), .ref (am 2), .ref (am 3), .ref (am 4), .ref (am 5), .ref (am 6)])), (am 3, .inl (tm 3, 3, .inl vx)), (am 4, .inl (tm 4, 3, .inl vy)), (am 5, .inl (tm 5, 3, .inl vz))]) [0, 1, 2, 3] rfl
          have hD9 := hD.sub (ws' := [(am 0, .inr (2, [.int (nI w), .int (nI h), .ref (am 1), .ref (am 2), .ref (am 3), .ref (am 4), .ref (am 5), .ref (am 6)])), (am 3, .inl (tm 3, 3, .inl vx)), (am 4, .inl (tm 4, 3, .inl vy)), (am 5, .inl (tm 5, 3, .inl vz))]) [0, 1, 2, 3] (by decide) rfl
          exact W.zret (v := 0) hx hb hr rfl (fun t ht hW => ⟨⟨0, (vx, vy, vz), rfl, Or.inr ⟨fun q => by rcases q17 with h17 | h17; exact c20 h17.2; exact h17.1 q.2.2.1, rfl, rfl⟩, by rw [ht]; exact hP9, va_K.moved hW.alike hK, hD9⟩, hS.F ht⟩) hS.2.2 dX2_vertex_36
        · refine lv_iload hx hb dX2_vertex_23 (lv_at hl 4 rfl) ?_
          refine lv_if_lt (tgt := 35) hx hb dX2_vertex_25 (by decide) (fun c25 => ?_) (fun c25 => ?_)
          · refine lv_iconst (v := 0) hx hb dX2_vertex_35 (by decide) ?_
            have hP9 := hP.sub (ws' := [(am 0, .inr (2, [.int (nI w), .int (nI h), .ref (am 1), .ref (am 2), .ref (am 3), .ref (am 4), .ref (am 5), .ref (am 6)])), (am 3, .inl (tm 3, 3, .inl vx)), (am 4, .inl (tm 4, 3, .inl vy)), (am 5, .inl (tm 5, 3, .inl vz))]) [0, 1, 2, 3] rfl
            have hD9 := hD.sub (ws' := [(am 0, .inr (2, [.int (nI w), .int (nI h), .ref (am 1), .ref (am 2), .ref (am 3), .ref (am 4), .ref (am 5), .ref (am 6)])), (am 3, .inl (tm 3, 3, .inl vx)), (am 4, .inl (tm 4, 3, .inl vy)), (am 5, .inl (tm 5, 3, .inl vz))]) [0, 1, 2, 3] (by decide) rfl
            exact W.zret (v := 0) hx hb hr rfl (fun t ht hW => ⟨⟨0, (vx, vy, vz), rfl, Or.inr ⟨fun q => by have g := q.2.2.2; simp only [Int32.lt_iff_toInt_lt, Int32.le_iff_toInt_le, Int32.toInt_zero] at c1 c6 c25; have e1 : (2 : Int32).toInt = 2 := (by decide); have e2 : (32768 : Int32).toInt = 32768 := (by decide); omega, rfl, rfl⟩, by rw [ht]; exact hP9, va_K.moved hW.alike hK, hD9⟩, hS.F ht⟩) hS.2.2 dX2_vertex_36
          · refine lv_iload hx hb dX2_vertex_28 (lv_at hl 4 rfl) ?_
            refine lv_ldc (v := 32768) hx hb hown (hts (.constant RX2 41 32768) (by decide +kernel)) dX2_vertex_30 ?_
            refine lv_icmp_le (tgt := 37) hx hb dX2_vertex_32 (by decide) (fun c32 => ?_) (fun c32 => ?_)
            · have hOK : VOK k x y z := by
                simp only [Int32.lt_iff_toInt_lt, Int32.le_iff_toInt_le, Int32.toInt_zero] at c1 c6 c25 c32; have e1 : (2 : Int32).toInt = 2 := (by decide); have e2 : (32768 : Int32).toInt = 32768 := (by decide)
                rcases q10 with h10 | h10
                · rcases q17 with h17 | h17
                  · exact ⟨by omega, h10.1, h17.1, by omega⟩
                  · rw [h17.2] at c20; exact absurd c20 (by decide)
                · rw [h10.2] at c13; exact absurd c13 (by decide)
              have hik : vp_in k 3 := by rw [nI_toNat hOK.1.1]; exact vp_in_nI (by have := hOK.1; omega) (by omega)
              refine lv_aload_n hx hb dX2_vertex_37 rfl (lv_at hl 0 rfl) ?_
              refine va_get (D := (dC, dI)) (ci := 2) (v := .ref (am 3)) (C := RX2) (T := TX2) (N := 8) hx hb hts (by decide +kernel) hown hK hP 0 rfl rfl 4 (by decide) (hts (.fieldLink RX2 16 "TriangleRasterModel" "xs" "[I") (by decide +kernel)) (fun _ h9 => h9) rfl dX2_vertex_38 ?_
              refine lv_iload_n hx hb dX2_vertex_41 rfl (lv_at hl 1 rfl) ?_
              refine lv_iload_n hx hb dX2_vertex_42 rfl (lv_at hl 2 rfl) ?_
              refine va_iast hx hb hK hP hD hS 1 0 rfl rfl hik dX2_vertex_43 (fun H locs hP hD hS => ?_)
              have hP : va_P (dC, dI) vwCl [(am 0, .inr (2, [.int (nI w), .int (nI h), .ref (am 1), .ref (am 2), .ref (am 3), .ref (am 4), .ref (am 5), .ref (am 6)])), (am 3, .inl (tm 3, 3, .inl (upd vx k.toNatClampNeg x))), (am 4, .inl (tm 4, 3, .inl vy)), (am 5, .inl (tm 5, 3, .inl vz))] H := hP
              have hD : va_D A [(am 0, .inr (2, [.int (nI w), .int (nI h), .ref (am 1), .ref (am 2), .ref (am 3), .ref (am 4), .ref (am 5), .ref (am 6)])), (am 3, .inl (tm 3, 3, .inl (upd vx k.toNatClampNeg x))), (am 4, .inl (tm 4, 3, .inl vy)), (am 5, .inl (tm 5, 3, .inl vz))] := hD
              refine lv_aload_n hx hb dX2_vertex_44 rfl (lv_at hl 0 rfl) ?_
              refine va_get (D := (dC, dI)) (ci := 2) (v := .ref (am 4)) (C := RX2) (T := TX2) (N := 8) hx hb hts (by decide +kernel) hown hK hP 0 rfl rfl 5 (by decide) (hts (.fieldLink RX2 19 "TriangleRasterModel" "ys" "[I") (by decide +kernel)) (fun _ h9 => h9) rfl dX2_vertex_45 ?_
              refine lv_iload_n hx hb dX2_vertex_48 rfl (lv_at hl 1 rfl) ?_
              refine lv_iload_n hx hb dX2_vertex_49 rfl (lv_at hl 3 rfl) ?_
              refine va_iast hx hb hK hP hD hS 2 1 rfl rfl hik dX2_vertex_50 (fun H locs hP hD hS => ?_)
              have hP : va_P (dC, dI) vwCl [(am 0, .inr (2, [.int (nI w), .int (nI h), .ref (am 1), .ref (am 2), .ref (am 3), .ref (am 4), .ref (am 5), .ref (am 6)])), (am 3, .inl (tm 3, 3, .inl (upd vx k.toNatClampNeg x))), (am 4, .inl (tm 4, 3, .inl (upd vy k.toNatClampNeg y))), (am 5, .inl (tm 5, 3, .inl vz))] H := hP
              have hD : va_D A [(am 0, .inr (2, [.int (nI w), .int (nI h), .ref (am 1), .ref (am 2), .ref (am 3), .ref (am 4), .ref (am 5), .ref (am 6)])), (am 3, .inl (tm 3, 3, .inl (upd vx k.toNatClampNeg x))), (am 4, .inl (tm 4, 3, .inl (upd vy k.toNatClampNeg y))), (am 5, .inl (tm 5, 3, .inl vz))] := hD
              refine lv_aload_n hx hb dX2_vertex_51 rfl (lv_at hl 0 rfl) ?_
              refine va_get (D := (dC, dI)) (ci := 2) (v := .ref (am 5)) (C := RX2) (T := TX2) (N := 8) hx hb hts (by decide +kernel) hown hK hP 0 rfl rfl 6 (by decide) (hts (.fieldLink RX2 22 "TriangleRasterModel" "zs" "[I") (by decide +kernel)) (fun _ h9 => h9) rfl dX2_vertex_52 ?_
              refine lv_iload_n hx hb dX2_vertex_55 rfl (lv_at hl 1 rfl) ?_
              refine lv_iload hx hb dX2_vertex_56 (lv_at hl 4 rfl) ?_
              refine va_iast hx hb hK hP hD hS 3 2 rfl rfl hik dX2_vertex_58 (fun H locs hP hD hS => ?_)
              have hP : va_P (dC, dI) vwCl [(am 0, .inr (2, [.int (nI w), .int (nI h), .ref (am 1), .ref (am 2), .ref (am 3), .ref (am 4), .ref (am 5), .ref (am 6)])), (am 3, .inl (tm 3, 3, .inl (upd vx k.toNatClampNeg x))), (am 4, .inl (tm 4, 3, .inl (upd vy k.toNatClampNeg y))), (am 5, .inl (tm 5, 3, .inl (upd vz k.toNatClampNeg z)))] H := hP
              have hD : va_D A [(am 0, .inr (2, [.int (nI w), .int (nI h), .ref (am 1), .ref (am 2), .ref (am 3), .ref (am 4), .ref (am 5), .ref (am 6)])), (am 3, .inl (tm 3, 3, .inl (upd vx k.toNatClampNeg x))), (am 4, .inl (tm 4, 3, .inl (upd vy k.toNatClampNeg y))), (am 5, .inl (tm 5, 3, .inl (upd vz k.toNatClampNeg z)))] := hD
              refine lv_iconst (v := 1) hx hb dX2_vertex_59 (by decide) ?_
              have hP9 := hP.sub (ws' := [(am 0, .inr (2, [.int (nI w), .int (nI h), .ref (am 1), .ref (am 2), .ref (am 3), .ref (am 4), .ref (am 5), .ref (am 6)])), (am 3, .inl (tm 3, 3, .inl (upd vx k.toNatClampNeg x))), (am 4, .inl (tm 4, 3, .inl (upd vy k.toNatClampNeg y))), (am 5, .inl (tm 5, 3, .inl (upd vz k.toNatClampNeg z)))]) [0, 1, 2, 3] rfl
              have hD9 := hD.sub (ws' := [(am 0, .inr (2, [.int (nI w), .int (nI h), .ref (am 1), .ref (am 2), .ref (am 3), .ref (am 4), .ref (am 5), .ref (am 6)])), (am 3, .inl (tm 3, 3, .inl (upd vx k.toNatClampNeg x))), (am 4, .inl (tm 4, 3, .inl (upd vy k.toNatClampNeg y))), (am 5, .inl (tm 5, 3, .inl (upd vz k.toNatClampNeg z)))]) [0, 1, 2, 3] (by decide) rfl
              exact W.zret (v := 1) hx hb hr rfl (fun t ht hW => ⟨⟨1, (upd vx k.toNatClampNeg x, upd vy k.toNatClampNeg y, upd vz k.toNatClampNeg z), rfl, Or.inl ⟨hOK, rfl, rfl⟩, by rw [ht]; exact hP9, va_K.moved hW.alike hK, hD9⟩, hS.F ht⟩) hS.2.2 dX2_vertex_60
            · refine lv_iconst (v := 0) hx hb dX2_vertex_35 (by decide) ?_
              have hP9 := hP.sub (ws' := [(am 0, .inr (2, [.int (nI w), .int (nI h), .ref (am 1), .ref (am 2), .ref (am 3), .ref (am 4), .ref (am 5), .ref (am 6)])), (am 3, .inl (tm 3, 3, .inl vx)), (am 4, .inl (tm 4, 3, .inl vy)), (am 5, .inl (tm 5, 3, .inl vz))]) [0, 1, 2, 3] rfl
              have hD9 := hD.sub (ws' := [(am 0, .inr (2, [.int (nI w), .int (nI h), .ref (am 1), .ref (am 2), .ref (am 3), .ref (am 4), .ref (am 5), .ref (am 6)])), (am 3, .inl (tm 3, 3, .inl vx)), (am 4, .inl (tm 4, 3, .inl vy)), (am 5, .inl (tm 5, 3, .inl vz))]) [0, 1, 2, 3] (by decide) rfl
              exact W.zret (v := 0) hx hb hr rfl (fun t ht hW => ⟨⟨0, (vx, vy, vz), rfl, Or.inr ⟨fun q => by have g := q.2.2.2; simp only [Int32.lt_iff_toInt_lt, Int32.le_iff_toInt_le, Int32.toInt_zero] at c1 c6 c25 c32; have e1 : (2 : Int32).toInt = 2 := (by decide); have e2 : (32768 : Int32).toInt = 32768 := (by decide); omega, rfl, rfl⟩, by rw [ht]; exact hP9, va_K.moved hW.alike hK, hD9⟩, hS.F ht⟩) hS.2.2 dX2_vertex_36

set_option maxHeartbeats 1000000 in
set_option maxRecDepth 100000 in
/-- edge -/
theorem c_X2_edge (l : Launch) (dC : Nat → ClassId) (dI : Nat → Nat → Nat) (sz : Nat) (am : Nat → Nat) (tm : Nat → ClassId) (w h : Nat) (vx vy : Nat → Int32) (hv : vb vx vy) (a b : Int32) (i j : Nat) (hi : i < 3) (hj : j < 3) (ea : a = nI i) (eb : b = nI j) (px py : Int64) (hpx : px.toInt.natAbs ≤ 33000) (hpy : py.toInt.natAbs ≤ 33000) : Met l yX2_edge wsX2_edge ({ frames := 0, cells := 0, slots := 0, locals := 0 }) (mP (dC, dI) vwCl [(tm 3, .int), (tm 4, .int)] [(am 0, .inr (2, [.int (nI w), .int (nI h), .ref (am 1), .ref (am 2), .ref (am 3), .ref (am 4), .ref (am 5), .ref (am 6)])), (am 3, .inl (tm 3, 3, .inl vx)), (am 4, .inl (tm 4, 3, .inl vy))] sz [.ref (am 0), .int a, .int b, .long px, .long py]) (va_Ql (fun (r : Int64) (u : Unit) => r.toInt = EP vx vy i j px.toInt py.toInt) (mB (dC, dI) vwCl [(tm 3, .int), (tm 4, .int)] (va_A [(am 0, .inr (2, [.int (nI w), .int (nI h), .ref (am 1), .ref (am 2), .ref (am 3), .ref (am 4), .ref (am 5), .ref (am 6)])), (am 3, .inl (tm 3, 3, .inl vx)), (am 4, .inl (tm 4, 3, .inl vy))] sz) (fun u => [(am 0, .inr (2, [.int (nI w), .int (nI h), .ref (am 1), .ref (am 2), .ref (am 3), .ref (am 4), .ref (am 5), .ref (am 6)])), (am 3, .inl (tm 3, 3, .inl vx)), (am 4, .inl (tm 4, 3, .inl vy))])) (va_A [(am 0, .inr (2, [.int (nI w), .int (nI h), .ref (am 1), .ref (am 2), .ref (am 3), .ref (am 4), .ref (am 5), .ref (am 6)])), (am 3, .inl (tm 3, 3, .inl vx)), (am 4, .inl (tm 4, 3, .inl vy))] sz)) 0 0 (va_A [(am 0, .inr (2, [.int (nI w), .int (nI h), .ref (am 1), .ref (am 2), .ref (am 3), .ref (am 4), .ref (am 5), .ref (am 6)])), (am 3, .inl (tm 3, 3, .inl vx)), (am 4, .inl (tm 4, 3, .inl vy))] sz) := by
  refine Met.ofW (cc := cX2_edge) (maxL := 7) (ret := (some .long)) (by decide) rfl ?_
  intro p e s m args below meth cD s₁ B hml hv
  obtain ⟨rfl, hsz, hP, hK, hD0, hN⟩ := hv
  have hx := B.exec
  have hb := B.bytes
  have hr := B.returns
  have hts := atoms_spec (ws := wsX2_edge) B.pre
  have hown : s.vm.findClass RX2 = some m.cls := findClass_of_methodNamed B.named
  have hlocks := B.notSynchronized
  subst hsz
  have hD := hD0.self (sz := s.heap.size)
  generalize hAe : va_A [(am 0, .inr (2, [.int (nI w), .int (nI h), .ref (am 1), .ref (am 2), .ref (am 3), .ref (am 4), .ref (am 5), .ref (am 6)])), (am 3, .inl (tm 3, 3, .inl vx)), (am 4, .inl (tm 4, 3, .inl vy))] s.heap.size = A at hD ⊢
  have hA : ∀ q : Nat, s.heap.size ≤ q → A q := fun q h => by rw [← hAe]; exact Or.inr h
  have hS : va_S A s.heap s.heap [] := va_S.rf
  have hP : va_P (dC, dI) vwCl [(am 0, .inr (2, [.int (nI w), .int (nI h), .ref (am 1), .ref (am 2), .ref (am 3), .ref (am 4), .ref (am 5), .ref (am 6)])), (am 3, .inl (tm 3, 3, .inl vx)), (am 4, .inl (tm 4, 3, .inl vy))] s.heap := hP
  have hl := lv_entry ([.ref (am 0), .int a, .int b, .long px, .long py]) (n := 7) (Nat.le_of_ble_eq_true rfl)
  rw [lg_entry_eq]
  generalize (lg_sl ([.ref (am 0), .int a, .int b, .long px, .long py]) ++ List.replicate (7 - (lg_sl ([.ref (am 0), .int a, .int b, .long px, .long py])).length) Slot.unset).toArray = ls at hl ⊢
  have hl : lv_has ls 7 [(0, .ref (am 0)), (1, .int a), (2, .int b), (3, .long px), (5, .long py)] := hl
  have hia : vp_in a 3 := by rw [ea]; exact vp_in_nI hi (by omega)
  have hib : vp_in b 3 := by rw [eb]; exact vp_in_nI hj (by omega)
  have hca : a.toNatClampNeg = i := by rw [ea]; exact nI_clamp (by omega)
  have hcb : b.toNatClampNeg = j := by rw [eb]; exact nI_clamp (by omega)
  refine lv_aload_n hx hb dX2_edge_0 rfl (lv_at hl 0 rfl) ?_
  refine va_get (D := (dC, dI)) (ci := 2) (v := .ref (am 3)) (C := RX2) (T := TX2) (N := 8) hx hb hts (by decide +kernel) hown hK hP 0 rfl rfl 4 (by decide) (hts (.fieldLink RX2 16 "TriangleRasterModel" "xs" "[I") (by decide +kernel)) (fun _ h9 => h9) rfl dX2_edge_1 ?_
  refine lv_iload_n hx hb dX2_edge_4 rfl (lv_at hl 2 rfl) ?_
  refine va_iald hx hb hK hP 1 0 rfl rfl hib dX2_edge_5 ?_
  refine lv_aload_n hx hb dX2_edge_6 rfl (lv_at hl 0 rfl) ?_
  refine va_get (D := (dC, dI)) (ci := 2) (v := .ref (am 3)) (C := RX2) (T := TX2) (N := 8) hx hb hts (by decide +kernel) hown hK hP 0 rfl rfl 4 (by decide) (hts (.fieldLink RX2 16 "TriangleRasterModel" "xs" "[I") (by decide +kernel)) (fun _ h9 => h9) rfl dX2_edge_7 ?_
  refine lv_iload_n hx hb dX2_edge_10 rfl (lv_at hl 1 rfl) ?_
  refine va_iald hx hb hK hP 1 0 rfl rfl hia dX2_edge_11 ?_
  refine lv_isub hx hb dX2_edge_12 ?_
  refine lv_i2l hx hb dX2_edge_13 rfl ?_
  refine lv_lload hx hb dX2_edge_14 (lv_at hl 4 rfl) ?_
  refine lv_aload_n hx hb dX2_edge_16 rfl (lv_at hl 0 rfl) ?_
  refine va_get (D := (dC, dI)) (ci := 2) (v := .ref (am 4)) (C := RX2) (T := TX2) (N := 8) hx hb hts (by decide +kernel) hown hK hP 0 rfl rfl 5 (by decide) (hts (.fieldLink RX2 19 "TriangleRasterModel" "ys" "[I") (by decide +kernel)) (fun _ h9 => h9) rfl dX2_edge_17 ?_
  refine lv_iload_n hx hb dX2_edge_20 rfl (lv_at hl 1 rfl) ?_
  refine va_iald hx hb hK hP 2 1 rfl rfl hia dX2_edge_21 ?_
  refine lv_i2l hx hb dX2_edge_22 rfl ?_
  refine lv_lsub hx hb dX2_edge_23 ?_
  refine lv_lmul hx hb dX2_edge_24 ?_
  refine lv_aload_n hx hb dX2_edge_25 rfl (lv_at hl 0 rfl) ?_
  refine va_get (D := (dC, dI)) (ci := 2) (v := .ref (am 4)) (C := RX2) (T := TX2) (N := 8) hx hb hts (by decide +kernel) hown hK hP 0 rfl rfl 5 (by decide) (hts (.fieldLink RX2 19 "TriangleRasterModel" "ys" "[I") (by decide +kernel)) (fun _ h9 => h9) rfl dX2_edge_26 ?_
  refine lv_iload_n hx hb dX2_edge_29 rfl (lv_at hl 2 rfl) ?_
  refine va_iald hx hb hK hP 2 1 rfl rfl hib dX2_edge_30 ?_
  refine lv_aload_n hx hb dX2_edge_31 rfl (lv_at hl 0 rfl) ?_
  refine va_get (D := (dC, dI)) (ci := 2) (v := .ref (am 4)) (C := RX2) (T := TX2) (N := 8) hx hb hts (by decide +kernel) hown hK hP 0 rfl rfl 5 (by decide) (hts (.fieldLink RX2 19 "TriangleRasterModel" "ys" "[I") (by decide +kernel)) (fun _ h9 => h9) rfl dX2_edge_32 ?_
  refine lv_iload_n hx hb dX2_edge_35 rfl (lv_at hl 1 rfl) ?_
  refine va_iald hx hb hK hP 2 1 rfl rfl hia dX2_edge_36 ?_
  refine lv_isub hx hb dX2_edge_37 ?_
  refine lv_i2l hx hb dX2_edge_38 rfl ?_
  refine lv_lload_n hx hb dX2_edge_39 rfl (lv_at hl 3 rfl) ?_
  refine lv_aload_n hx hb dX2_edge_40 rfl (lv_at hl 0 rfl) ?_
  refine va_get (D := (dC, dI)) (ci := 2) (v := .ref (am 3)) (C := RX2) (T := TX2) (N := 8) hx hb hts (by decide +kernel) hown hK hP 0 rfl rfl 4 (by decide) (hts (.fieldLink RX2 16 "TriangleRasterModel" "xs" "[I") (by decide +kernel)) (fun _ h9 => h9) rfl dX2_edge_41 ?_
  refine lv_iload_n hx hb dX2_edge_44 rfl (lv_at hl 1 rfl) ?_
  refine va_iald hx hb hK hP 1 0 rfl rfl hia dX2_edge_45 ?_
  refine lv_i2l hx hb dX2_edge_46 rfl ?_
  refine lv_lsub hx hb dX2_edge_47 ?_
  refine lv_lmul hx hb dX2_edge_48 ?_
  refine lv_lsub hx hb dX2_edge_49 ?_
  have hP9 := hP.sub (ws' := [(am 0, .inr (2, [.int (nI w), .int (nI h), .ref (am 1), .ref (am 2), .ref (am 3), .ref (am 4), .ref (am 5), .ref (am 6)])), (am 3, .inl (tm 3, 3, .inl vx)), (am 4, .inl (tm 4, 3, .inl vy))]) [0, 1, 2] rfl
  have hD9 := hD.sub (ws' := [(am 0, .inr (2, [.int (nI w), .int (nI h), .ref (am 1), .ref (am 2), .ref (am 3), .ref (am 4), .ref (am 5), .ref (am 6)])), (am 3, .inl (tm 3, 3, .inl vx)), (am 4, .inl (tm 4, 3, .inl vy))]) [0, 1, 2] (by decide) rfl
  exact W.lret (v := (((((vx b.toNatClampNeg) - (vx a.toNatClampNeg)).toInt64) * (py - ((vy a.toNatClampNeg).toInt64))) - ((((vy b.toNatClampNeg) - (vy a.toNatClampNeg)).toInt64) * (px - ((vx a.toNatClampNeg).toInt64))))) hx hb hr (fun t ht hW => ⟨⟨((((vx b.toNatClampNeg) - (vx a.toNatClampNeg)).toInt64) * (py - ((vy a.toNatClampNeg).toInt64))) - ((((vy b.toNatClampNeg) - (vy a.toNatClampNeg)).toInt64) * (px - ((vx a.toNatClampNeg).toInt64))), (), rfl, by rw [hca, hcb]; exact edge_vall (hv i hi).1 (hv i hi).2 (hv j hj).1 (hv j hj).2 hpx hpy, by rw [ht]; exact hP9, va_K.moved hW.alike hK, hD9⟩, hS.F ht⟩) hS.2.2 dX2_edge_50

set_option maxHeartbeats 1000000 in
set_option maxRecDepth 100000 in
/-- area -/
theorem c_X2_area (l : Launch) (dC : Nat → ClassId) (dI : Nat → Nat → Nat) (sz : Nat) (am : Nat → Nat) (tm : Nat → ClassId) (w h : Nat) (vx vy : Nat → Int32) (hv : vb vx vy) : Met l yX2_area wsX2_area ({ frames := 1, cells := 0, slots := 0, locals := 26 }) (mP (dC, dI) vwCl [(tm 3, .int), (tm 4, .int)] [(am 0, .inr (2, [.int (nI w), .int (nI h), .ref (am 1), .ref (am 2), .ref (am 3), .ref (am 4), .ref (am 5), .ref (am 6)])), (am 3, .inl (tm 3, 3, .inl vx)), (am 4, .inl (tm 4, 3, .inl vy))] sz [.ref (am 0)]) (va_Ql (fun (r : Int64) (u : Unit) => r.toInt = tT vx vy) (mB (dC, dI) vwCl [(tm 3, .int), (tm 4, .int)] (va_A [(am 0, .inr (2, [.int (nI w), .int (nI h), .ref (am 1), .ref (am 2), .ref (am 3), .ref (am 4), .ref (am 5), .ref (am 6)])), (am 3, .inl (tm 3, 3, .inl vx)), (am 4, .inl (tm 4, 3, .inl vy))] sz) (fun u => [(am 0, .inr (2, [.int (nI w), .int (nI h), .ref (am 1), .ref (am 2), .ref (am 3), .ref (am 4), .ref (am 5), .ref (am 6)])), (am 3, .inl (tm 3, 3, .inl vx)), (am 4, .inl (tm 4, 3, .inl vy))])) (va_A [(am 0, .inr (2, [.int (nI w), .int (nI h), .ref (am 1), .ref (am 2), .ref (am 3), .ref (am 4), .ref (am 5), .ref (am 6)])), (am 3, .inl (tm 3, 3, .inl vx)), (am 4, .inl (tm 4, 3, .inl vy))] sz)) 0 0 (va_A [(am 0, .inr (2, [.int (nI w), .int (nI h), .ref (am 1), .ref (am 2), .ref (am 3), .ref (am 4), .ref (am 5), .ref (am 6)])), (am 3, .inl (tm 3, 3, .inl vx)), (am 4, .inl (tm 4, 3, .inl vy))] sz) := by
  refine Met.ofW (cc := cX2_area) (maxL := 1) (ret := (some .long)) (by decide) rfl ?_
  intro p e s m args below meth cD s₁ B hml hv
  obtain ⟨rfl, hsz, hP, hK, hD0, hN⟩ := hv
  have hx := B.exec
  have hb := B.bytes
  have hr := B.returns
  have hts := atoms_spec (ws := wsX2_area) B.pre
  have hown : s.vm.findClass RX2 = some m.cls := findClass_of_methodNamed B.named
  have hlocks := B.notSynchronized
  subst hsz
  have hD := hD0.self (sz := s.heap.size)
  generalize hAe : va_A [(am 0, .inr (2, [.int (nI w), .int (nI h), .ref (am 1), .ref (am 2), .ref (am 3), .ref (am 4), .ref (am 5), .ref (am 6)])), (am 3, .inl (tm 3, 3, .inl vx)), (am 4, .inl (tm 4, 3, .inl vy))] s.heap.size = A at hD ⊢
  have hA : ∀ q : Nat, s.heap.size ≤ q → A q := fun q h => by rw [← hAe]; exact Or.inr h
  have hS : va_S A s.heap s.heap [] := va_S.rf
  have hP : va_P (dC, dI) vwCl [(am 0, .inr (2, [.int (nI w), .int (nI h), .ref (am 1), .ref (am 2), .ref (am 3), .ref (am 4), .ref (am 5), .ref (am 6)])), (am 3, .inl (tm 3, 3, .inl vx)), (am 4, .inl (tm 4, 3, .inl vy))] s.heap := hP
  have hl := lv_entry ([.ref (am 0)]) (n := 1) (Nat.le_of_ble_eq_true rfl)
  rw [lg_entry_eq]
  generalize (lg_sl ([.ref (am 0)]) ++ List.replicate (1 - (lg_sl ([.ref (am 0)])).length) Slot.unset).toArray = ls at hl ⊢
  have hl : lv_has ls 1 [(0, .ref (am 0))] := hl
  refine lv_aload_n hx hb dX2_area_0 rfl (lv_at hl 0 rfl) ?_
  refine lv_iconst (v := 0) hx hb dX2_area_1 (by decide) ?_
  refine lv_iconst (v := 1) hx hb dX2_area_2 (by decide) ?_
  refine lv_aload_n hx hb dX2_area_3 rfl (lv_at hl 0 rfl) ?_
  refine va_get (D := (dC, dI)) (ci := 2) (v := .ref (am 3)) (C := RX2) (T := TX2) (N := 8) hx hb hts (by decide +kernel) hown hK hP 0 rfl rfl 4 (by decide) (hts (.fieldLink RX2 16 "TriangleRasterModel" "xs" "[I") (by decide +kernel)) (fun _ h9 => h9) rfl dX2_area_4 ?_
  refine lv_iconst (v := 2) hx hb dX2_area_7 (by decide) ?_
  refine va_iald hx hb hK hP 1 0 rfl rfl (by unfold vp_in; decide) dX2_area_8 ?_
  refine lv_i2l hx hb dX2_area_9 rfl ?_
  refine lv_aload_n hx hb dX2_area_10 rfl (lv_at hl 0 rfl) ?_
  refine va_get (D := (dC, dI)) (ci := 2) (v := .ref (am 4)) (C := RX2) (T := TX2) (N := 8) hx hb hts (by decide +kernel) hown hK hP 0 rfl rfl 5 (by decide) (hts (.fieldLink RX2 19 "TriangleRasterModel" "ys" "[I") (by decide +kernel)) (fun _ h9 => h9) rfl dX2_area_11 ?_
  refine lv_iconst (v := 2) hx hb dX2_area_14 (by decide) ?_
  refine va_iald hx hb hK hP 2 1 rfl rfl (by unfold vp_in; decide) dX2_area_15 ?_
  refine lv_i2l hx hb dX2_area_16 rfl ?_
  refine m_calll (cs := [(am 0, .inr (2, [.int (nI w), .int (nI h), .ref (am 1), .ref (am 2), .ref (am 3), .ref (am 4), .ref (am 5), .ref (am 6)])), (am 3, .inl (tm 3, 3, .inl vx)), (am 4, .inl (tm 4, 3, .inl vy))]) (wr := []) hP hD hS hA [0, 1, 2] [] rfl rfl (by decide) (by decide) (va_runV (As := [.int 0, .int 1, .long ((vx 2).toInt64), .long ((vy 2).toInt64)]) (rest := []) ⟨hx, hb, hml, hown, hts⟩ (c_X2_edge l dC dI _ am tm w h vx vy hv 0 1 0 1 (by omega) (by omega) rfl rfl ((vx 2).toInt64) ((vy 2).toInt64) (by rw [Jvm.Kit.i64_of_i32]; exact Nat.le_trans (hv 2 (by omega)).1 (by omega)) (by rw [Jvm.Kit.i64_of_i32]; exact Nat.le_trans (hv 2 (by omega)).2 (by omega))) (cwV 4 hts gX2_area_X2_edge rfl rfl rfl (by decide +kernel) ⟨Nat.le_of_ble_eq_true rfl, Nat.le_of_ble_eq_true rfl⟩) (m_preV (ci := 2) (q0 := 0) (hP.sub [0, 1, 2] rfl) (hK.sub [0, 1] rfl) (hD.sub [0, 1, 2] (by decide) rfl) hN rfl rfl) rfl rfl hl.1 rfl (lv_room (Nat.le_of_ble_eq_true rfl)) dX2_area_17 ⟨Nat.le_of_ble_eq_true rfl, Nat.le_of_ble_eq_true rfl⟩) (fun r17 _ H locs q17 hK2 hP hD hS => ?_)
  have hP : va_P (dC, dI) vwCl [(am 0, .inr (2, [.int (nI w), .int (nI h), .ref (am 1), .ref (am 2), .ref (am 3), .ref (am 4), .ref (am 5), .ref (am 6)])), (am 3, .inl (tm 3, 3, .inl vx)), (am 4, .inl (tm 4, 3, .inl vy))] H := hP.sub [0, 1, 2] rfl
  have hD : va_D A [(am 0, .inr (2, [.int (nI w), .int (nI h), .ref (am 1), .ref (am 2), .ref (am 3), .ref (am 4), .ref (am 5), .ref (am 6)])), (am 3, .inl (tm 3, 3, .inl vx)), (am 4, .inl (tm 4, 3, .inl vy))] := hD.sub [0, 1, 2] (by decide) rfl
  have hP9 := hP.sub (ws' := [(am 0, .inr (2, [.int (nI w), .int (nI h), .ref (am 1), .ref (am 2), .ref (am 3), .ref (am 4), .ref (am 5), .ref (am 6)])), (am 3, .inl (tm 3, 3, .inl vx)), (am 4, .inl (tm 4, 3, .inl vy))]) [0, 1, 2] rfl
  have hD9 := hD.sub (ws' := [(am 0, .inr (2, [.int (nI w), .int (nI h), .ref (am 1), .ref (am 2), .ref (am 3), .ref (am 4), .ref (am 5), .ref (am 6)])), (am 3, .inl (tm 3, 3, .inl vx)), (am 4, .inl (tm 4, 3, .inl vy))]) [0, 1, 2] (by decide) rfl
  exact W.lret (v := r17) hx hb hr (fun t ht hW => ⟨⟨r17, (), rfl, by show r17.toInt = tT vx vy; rw [q17, Jvm.Kit.i64_of_i32, Jvm.Kit.i64_of_i32]; rfl, by rw [ht]; exact hP9, va_K.moved hW.alike hK, hD9⟩, hS.F ht⟩) hS.2.2 dX2_area_20

set_option maxHeartbeats 1000000 in
set_option maxRecDepth 100000 in
/-- isTopOrLeft -/
theorem c_X2_isTopOrLeft (l : Launch) (dC : Nat → ClassId) (dI : Nat → Nat → Nat) (sz : Nat) (am : Nat → Nat) (tm : Nat → ClassId) (w h : Nat) (vx vy : Nat → Int32) (a b : Int32) (i j : Nat) (hi : i < 3) (hj : j < 3) (ea : a = nI i) (eb : b = nI j) : Met l yX2_isTopOrLeft wsX2_isTopOrLeft ({ frames := 0, cells := 0, slots := 0, locals := 0 }) (mP (dC, dI) vwCl [(tm 3, .int), (tm 4, .int)] [(am 0, .inr (2, [.int (nI w), .int (nI h), .ref (am 1), .ref (am 2), .ref (am 3), .ref (am 4), .ref (am 5), .ref (am 6)])), (am 3, .inl (tm 3, 3, .inl vx)), (am 4, .inl (tm 4, 3, .inl vy))] sz [.ref (am 0), .int a, .int b]) (va_Qi (fun (r : Int32) (u : Unit) => (TL vx vy i j ∧ r = 1) ∨ (¬ TL vx vy i j ∧ r = 0)) (mB (dC, dI) vwCl [(tm 3, .int), (tm 4, .int)] (va_A [(am 0, .inr (2, [.int (nI w), .int (nI h), .ref (am 1), .ref (am 2), .ref (am 3), .ref (am 4), .ref (am 5), .ref (am 6)])), (am 3, .inl (tm 3, 3, .inl vx)), (am 4, .inl (tm 4, 3, .inl vy))] sz) (fun u => [(am 0, .inr (2, [.int (nI w), .int (nI h), .ref (am 1), .ref (am 2), .ref (am 3), .ref (am 4), .ref (am 5), .ref (am 6)])), (am 3, .inl (tm 3, 3, .inl vx)), (am 4, .inl (tm 4, 3, .inl vy))])) (va_A [(am 0, .inr (2, [.int (nI w), .int (nI h), .ref (am 1), .ref (am 2), .ref (am 3), .ref (am 4), .ref (am 5), .ref (am 6)])), (am 3, .inl (tm 3, 3, .inl vx)), (am 4, .inl (tm 4, 3, .inl vy))] sz)) 0 0 (va_A [(am 0, .inr (2, [.int (nI w), .int (nI h), .ref (am 1), .ref (am 2), .ref (am 3), .ref (am 4), .ref (am 5), .ref (am 6)])), (am 3, .inl (tm 3, 3, .inl vx)), (am 4, .inl (tm 4, 3, .inl vy))] sz) := by
  refine Met.ofW (cc := cX2_isTopOrLeft) (maxL := 3) (ret := (some .boolean)) (by decide) rfl ?_
  intro p e s m args below meth cD s₁ B hml hv
  obtain ⟨rfl, hsz, hP, hK, hD0, hN⟩ := hv
  have hx := B.exec
  have hb := B.bytes
  have hr := B.returns
  have hts := atoms_spec (ws := wsX2_isTopOrLeft) B.pre
  have hown : s.vm.findClass RX2 = some m.cls := findClass_of_methodNamed B.named
  have hlocks := B.notSynchronized
  subst hsz
  have hD := hD0.self (sz := s.heap.size)
  generalize hAe : va_A [(am 0, .inr (2, [.int (nI w), .int (nI h), .ref (am 1), .ref (am 2), .ref (am 3), .ref (am 4), .ref (am 5), .ref (am 6)])), (am 3, .inl (tm 3, 3, .inl vx)), (am 4, .inl (tm 4, 3, .inl vy))] s.heap.size = A at hD ⊢
  have hA : ∀ q : Nat, s.heap.size ≤ q → A q := fun q h => by rw [← hAe]; exact Or.inr h
  have hS : va_S A s.heap s.heap [] := va_S.rf
  have hP : va_P (dC, dI) vwCl [(am 0, .inr (2, [.int (nI w), .int (nI h), .ref (am 1), .ref (am 2), .ref (am 3), .ref (am 4), .ref (am 5), .ref (am 6)])), (am 3, .inl (tm 3, 3, .inl vx)), (am 4, .inl (tm 4, 3, .inl vy))] s.heap := hP
  have hl := lv_entry ([.ref (am 0), .int a, .int b]) (n := 3) (Nat.le_of_ble_eq_true rfl)
  rw [lg_entry_eq]
  generalize (lg_sl ([.ref (am 0), .int a, .int b]) ++ List.replicate (3 - (lg_sl ([.ref (am 0), .int a, .int b])).length) Slot.unset).toArray = ls at hl ⊢
  have hl : lv_has ls 3 [(0, .ref (am 0)), (1, .int a), (2, .int b)] := hl
  have hia : vp_in a 3 := by rw [ea]; exact vp_in_nI hi (by omega)
  have hib : vp_in b 3 := by rw [eb]; exact vp_in_nI hj (by omega)
  have hca : a.toNatClampNeg = i := by rw [ea]; exact nI_clamp (by omega)
  have hcb : b.toNatClampNeg = j := by rw [eb]; exact nI_clamp (by omega)
  refine lv_aload_n hx hb dX2_isTopOrLeft_0 rfl (lv_at hl 0 rfl) ?_
  refine va_get (D := (dC, dI)) (ci := 2) (v := .ref (am 4)) (C := RX2) (T := TX2) (N := 8) hx hb hts (by decide +kernel) hown hK hP 0 rfl rfl 5 (by decide) (hts (.fieldLink RX2 19 "TriangleRasterModel" "ys" "[I") (by decide +kernel)) (fun _ h9 => h9) rfl dX2_isTopOrLeft_1 ?_
  refine lv_iload_n hx hb dX2_isTopOrLeft_4 rfl (lv_at hl 1 rfl) ?_
  refine va_iald hx hb hK hP 2 1 rfl rfl hia dX2_isTopOrLeft_5 ?_
  refine lv_aload_n hx hb dX2_isTopOrLeft_6 rfl (lv_at hl 0 rfl) ?_
  refine va_get (D := (dC, dI)) (ci := 2) (v := .ref (am 4)) (C := RX2) (T := TX2) (N := 8) hx hb hts (by decide +kernel) hown hK hP 0 rfl rfl 5 (by decide) (hts (.fieldLink RX2 19 "TriangleRasterModel" "ys" "[I") (by decide +kernel)) (fun _ h9 => h9) rfl dX2_isTopOrLeft_7 ?_
  refine lv_iload_n hx hb dX2_isTopOrLeft_10 rfl (lv_at hl 2 rfl) ?_
  refine va_iald hx hb hK hP 2 1 rfl rfl hib dX2_isTopOrLeft_11 ?_
  refine lv_icmp_ne (tgt := 30) hx hb dX2_isTopOrLeft_12 (by decide) (fun c12 => ?_) (fun c12 => ?_)
  · refine lv_aload_n hx hb dX2_isTopOrLeft_30 rfl (lv_at hl 0 rfl) ?_
    refine va_get (D := (dC, dI)) (ci := 2) (v := .ref (am 4)) (C := RX2) (T := TX2) (N := 8) hx hb hts (by decide +kernel) hown hK hP 0 rfl rfl 5 (by decide) (hts (.fieldLink RX2 19 "TriangleRasterModel" "ys" "[I") (by decide +kernel)) (fun _ h9 => h9) rfl dX2_isTopOrLeft_31 ?_
    refine lv_iload_n hx hb dX2_isTopOrLeft_34 rfl (lv_at hl 2 rfl) ?_
    refine va_iald hx hb hK hP 2 1 rfl rfl hib dX2_isTopOrLeft_35 ?_
    refine lv_aload_n hx hb dX2_isTopOrLeft_36 rfl (lv_at hl 0 rfl) ?_
    refine va_get (D := (dC, dI)) (ci := 2) (v := .ref (am 4)) (C := RX2) (T := TX2) (N := 8) hx hb hts (by decide +kernel) hown hK hP 0 rfl rfl 5 (by decide) (hts (.fieldLink RX2 19 "TriangleRasterModel" "ys" "[I") (by decide +kernel)) (fun _ h9 => h9) rfl dX2_isTopOrLeft_37 ?_
    refine lv_iload_n hx hb dX2_isTopOrLeft_40 rfl (lv_at hl 1 rfl) ?_
    refine va_iald hx hb hK hP 2 1 rfl rfl hia dX2_isTopOrLeft_41 ?_
    refine lv_icmp_ge (tgt := 49) hx hb dX2_isTopOrLeft_42 (by decide) (fun c42 => ?_) (fun c42 => ?_)
    · refine lv_iconst (v := 0) hx hb dX2_isTopOrLeft_49 (by decide) ?_
      have hP9 := hP.sub (ws' := [(am 0, .inr (2, [.int (nI w), .int (nI h), .ref (am 1), .ref (am 2), .ref (am 3), .ref (am 4), .ref (am 5), .ref (am 6)])), (am 3, .inl (tm 3, 3, .inl vx)), (am 4, .inl (tm 4, 3, .inl vy))]) [0, 1, 2] rfl
      have hD9 := hD.sub (ws' := [(am 0, .inr (2, [.int (nI w), .int (nI h), .ref (am 1), .ref (am 2), .ref (am 3), .ref (am 4), .ref (am 5), .ref (am 6)])), (am 3, .inl (tm 3, 3, .inl vx)), (am 4, .inl (tm 4, 3, .inl vy))]) [0, 1, 2] (by decide) rfl
      exact W.zret (v := 0) hx hb hr rfl (fun t ht hW => ⟨⟨0, (), rfl, Or.inr ⟨by rw [hca, hcb] at c12 c42; simp only [TL, Int32.lt_iff_toInt_lt, Int32.le_iff_toInt_le, ← Int32.toInt_inj] at c12 c42 ⊢; omega, rfl⟩, by rw [ht]; exact hP9, va_K.moved hW.alike hK, hD9⟩, hS.F ht⟩) hS.2.2 dX2_isTopOrLeft_50
    · refine lv_iconst (v := 1) hx hb dX2_isTopOrLeft_45 (by decide) ?_
      refine lv_goto (tgt := 50) hx hb dX2_isTopOrLeft_46 (by decide) ?_
      have hP9 := hP.sub (ws' := [(am 0, .inr (2, [.int (nI w), .int (nI h), .ref (am 1), .ref (am 2), .ref (am 3), .ref (am 4), .ref (am 5), .ref (am 6)])), (am 3, .inl (tm 3, 3, .inl vx)), (am 4, .inl (tm 4, 3, .inl vy))]) [0, 1, 2] rfl
      have hD9 := hD.sub (ws' := [(am 0, .inr (2, [.int (nI w), .int (nI h), .ref (am 1), .ref (am 2), .ref (am 3), .ref (am 4), .ref (am 5), .ref (am 6)])), (am 3, .inl (tm 3, 3, .inl vx)), (am 4, .inl (tm 4, 3, .inl vy))]) [0, 1, 2] (by decide) rfl
      exact W.zret (v := 1) hx hb hr rfl (fun t ht hW => ⟨⟨1, (), rfl, Or.inl ⟨by rw [hca, hcb] at c12 c42; simp only [TL, Int32.lt_iff_toInt_lt, Int32.le_iff_toInt_le, ← Int32.toInt_inj] at c12 c42 ⊢; omega, rfl⟩, by rw [ht]; exact hP9, va_K.moved hW.alike hK, hD9⟩, hS.F ht⟩) hS.2.2 dX2_isTopOrLeft_50
  · refine lv_aload_n hx hb dX2_isTopOrLeft_15 rfl (lv_at hl 0 rfl) ?_
    refine va_get (D := (dC, dI)) (ci := 2) (v := .ref (am 3)) (C := RX2) (T := TX2) (N := 8) hx hb hts (by decide +kernel) hown hK hP 0 rfl rfl 4 (by decide) (hts (.fieldLink RX2 16 "TriangleRasterModel" "xs" "[I") (by decide +kernel)) (fun _ h9 => h9) rfl dX2_isTopOrLeft_16 ?_
    refine lv_iload_n hx hb dX2_isTopOrLeft_19 rfl (lv_at hl 2 rfl) ?_
    refine va_iald hx hb hK hP 1 0 rfl rfl hib dX2_isTopOrLeft_20 ?_
    refine lv_aload_n hx hb dX2_isTopOrLeft_21 rfl (lv_at hl 0 rfl) ?_
    refine va_get (D := (dC, dI)) (ci := 2) (v := .ref (am 3)) (C := RX2) (T := TX2) (N := 8) hx hb hts (by decide +kernel) hown hK hP 0 rfl rfl 4 (by decide) (hts (.fieldLink RX2 16 "TriangleRasterModel" "xs" "[I") (by decide +kernel)) (fun _ h9 => h9) rfl dX2_isTopOrLeft_22 ?_
    refine lv_iload_n hx hb dX2_isTopOrLeft_25 rfl (lv_at hl 1 rfl) ?_
    refine va_iald hx hb hK hP 1 0 rfl rfl hia dX2_isTopOrLeft_26 ?_
    refine lv_icmp_gt (tgt := 45) hx hb dX2_isTopOrLeft_27 (by decide) (fun c27 => ?_) (fun c27 => ?_)
    · refine lv_iconst (v := 1) hx hb dX2_isTopOrLeft_45 (by decide) ?_
      refine lv_goto (tgt := 50) hx hb dX2_isTopOrLeft_46 (by decide) ?_
      have hP9 := hP.sub (ws' := [(am 0, .inr (2, [.int (nI w), .int (nI h), .ref (am 1), .ref (am 2), .ref (am 3), .ref (am 4), .ref (am 5), .ref (am 6)])), (am 3, .inl (tm 3, 3, .inl vx)), (am 4, .inl (tm 4, 3, .inl vy))]) [0, 1, 2] rfl
      have hD9 := hD.sub (ws' := [(am 0, .inr (2, [.int (nI w), .int (nI h), .ref (am 1), .ref (am 2), .ref (am 3), .ref (am 4), .ref (am 5), .ref (am 6)])), (am 3, .inl (tm 3, 3, .inl vx)), (am 4, .inl (tm 4, 3, .inl vy))]) [0, 1, 2] (by decide) rfl
      exact W.zret (v := 1) hx hb hr rfl (fun t ht hW => ⟨⟨1, (), rfl, Or.inl ⟨by rw [hca, hcb] at c12 c27; simp only [TL, Int32.lt_iff_toInt_lt, Int32.le_iff_toInt_le, ← Int32.toInt_inj] at c12 c27 ⊢; omega, rfl⟩, by rw [ht]; exact hP9, va_K.moved hW.alike hK, hD9⟩, hS.F ht⟩) hS.2.2 dX2_isTopOrLeft_50
    · refine lv_aload_n hx hb dX2_isTopOrLeft_30 rfl (lv_at hl 0 rfl) ?_
      refine va_get (D := (dC, dI)) (ci := 2) (v := .ref (am 4)) (C := RX2) (T := TX2) (N := 8) hx hb hts (by decide +kernel) hown hK hP 0 rfl rfl 5 (by decide) (hts (.fieldLink RX2 19 "TriangleRasterModel" "ys" "[I") (by decide +kernel)) (fun _ h9 => h9) rfl dX2_isTopOrLeft_31 ?_
      refine lv_iload_n hx hb dX2_isTopOrLeft_34 rfl (lv_at hl 2 rfl) ?_
      refine va_iald hx hb hK hP 2 1 rfl rfl hib dX2_isTopOrLeft_35 ?_
      refine lv_aload_n hx hb dX2_isTopOrLeft_36 rfl (lv_at hl 0 rfl) ?_
      refine va_get (D := (dC, dI)) (ci := 2) (v := .ref (am 4)) (C := RX2) (T := TX2) (N := 8) hx hb hts (by decide +kernel) hown hK hP 0 rfl rfl 5 (by decide) (hts (.fieldLink RX2 19 "TriangleRasterModel" "ys" "[I") (by decide +kernel)) (fun _ h9 => h9) rfl dX2_isTopOrLeft_37 ?_
      refine lv_iload_n hx hb dX2_isTopOrLeft_40 rfl (lv_at hl 1 rfl) ?_
      refine va_iald hx hb hK hP 2 1 rfl rfl hia dX2_isTopOrLeft_41 ?_
      refine lv_icmp_ge (tgt := 49) hx hb dX2_isTopOrLeft_42 (by decide) (fun c42 => ?_) (fun c42 => ?_)
      · refine lv_iconst (v := 0) hx hb dX2_isTopOrLeft_49 (by decide) ?_
        have hP9 := hP.sub (ws' := [(am 0, .inr (2, [.int (nI w), .int (nI h), .ref (am 1), .ref (am 2), .ref (am 3), .ref (am 4), .ref (am 5), .ref (am 6)])), (am 3, .inl (tm 3, 3, .inl vx)), (am 4, .inl (tm 4, 3, .inl vy))]) [0, 1, 2] rfl
        have hD9 := hD.sub (ws' := [(am 0, .inr (2, [.int (nI w), .int (nI h), .ref (am 1), .ref (am 2), .ref (am 3), .ref (am 4), .ref (am 5), .ref (am 6)])), (am 3, .inl (tm 3, 3, .inl vx)), (am 4, .inl (tm 4, 3, .inl vy))]) [0, 1, 2] (by decide) rfl
        exact W.zret (v := 0) hx hb hr rfl (fun t ht hW => ⟨⟨0, (), rfl, Or.inr ⟨by rw [hca, hcb] at c12 c27 c42; simp only [TL, Int32.lt_iff_toInt_lt, Int32.le_iff_toInt_le, ← Int32.toInt_inj] at c12 c27 c42 ⊢; omega, rfl⟩, by rw [ht]; exact hP9, va_K.moved hW.alike hK, hD9⟩, hS.F ht⟩) hS.2.2 dX2_isTopOrLeft_50
      · refine lv_iconst (v := 1) hx hb dX2_isTopOrLeft_45 (by decide) ?_
        refine lv_goto (tgt := 50) hx hb dX2_isTopOrLeft_46 (by decide) ?_
        have hP9 := hP.sub (ws' := [(am 0, .inr (2, [.int (nI w), .int (nI h), .ref (am 1), .ref (am 2), .ref (am 3), .ref (am 4), .ref (am 5), .ref (am 6)])), (am 3, .inl (tm 3, 3, .inl vx)), (am 4, .inl (tm 4, 3, .inl vy))]) [0, 1, 2] rfl
        have hD9 := hD.sub (ws' := [(am 0, .inr (2, [.int (nI w), .int (nI h), .ref (am 1), .ref (am 2), .ref (am 3), .ref (am 4), .ref (am 5), .ref (am 6)])), (am 3, .inl (tm 3, 3, .inl vx)), (am 4, .inl (tm 4, 3, .inl vy))]) [0, 1, 2] (by decide) rfl
        exact W.zret (v := 1) hx hb hr rfl (fun t ht hW => ⟨⟨1, (), rfl, Or.inl ⟨by rw [hca, hcb] at c12 c27 c42; simp only [TL, Int32.lt_iff_toInt_lt, Int32.le_iff_toInt_le, ← Int32.toInt_inj] at c12 c27 c42 ⊢; omega, rfl⟩, by rw [ht]; exact hP9, va_K.moved hW.alike hK, hD9⟩, hS.F ht⟩) hS.2.2 dX2_isTopOrLeft_50

set_option maxHeartbeats 1000000 in
set_option maxRecDepth 100000 in
/-- isInside -/
theorem c_X2_isInside (l : Launch) (dC : Nat → ClassId) (dI : Nat → Nat → Nat) (sz : Nat) (am : Nat → Nat) (tm : Nat → ClassId) (w h : Nat) (vx vy : Nat → Int32) (hv : vb vx vy) (a b : Int32) (i j : Nat) (hi : i < 3) (hj : j < 3) (ea : a = nI i) (eb : b = nI j) (px py : Int64) (hpx : px.toInt.natAbs ≤ 33000) (hpy : py.toInt.natAbs ≤ 33000) : Met l yX2_isInside wsX2_isInside ({ frames := 1, cells := 0, slots := 0, locals := 26 }) (mP (dC, dI) vwCl [(tm 3, .int), (tm 4, .int)] [(am 0, .inr (2, [.int (nI w), .int (nI h), .ref (am 1), .ref (am 2), .ref (am 3), .ref (am 4), .ref (am 5), .ref (am 6)])), (am 3, .inl (tm 3, 3, .inl vx)), (am 4, .inl (tm 4, 3, .inl vy))] sz [.ref (am 0), .int a, .int b, .long px, .long py]) (va_Qi (fun (r : Int32) (u : Unit) => ((0 < EP vx vy i j px.toInt py.toInt ∨ (EP vx vy i j px.toInt py.toInt = 0 ∧ TL vx vy i j)) ∧ r = 1) ∨ (¬ (0 < EP vx vy i j px.toInt py.toInt ∨ (EP vx vy i j px.toInt py.toInt = 0 ∧ TL vx vy i j)) ∧ r = 0)) (mB (dC, dI) vwCl [(tm 3, .int), (tm 4, .int)] (va_A [(am 0, .inr (2, [.int (nI w), .int (nI h), .ref (am 1), .ref (am 2), .ref (am 3), .ref (am 4), .ref (am 5), .ref (am 6)])), (am 3, .inl (tm 3, 3, .inl vx)), (am 4, .inl (tm 4, 3, .inl vy))] sz) (fun u => [(am 0, .inr (2, [.int (nI w), .int (nI h), .ref (am 1), .ref (am 2), .ref (am 3), .ref (am 4), .ref (am 5), .ref (am 6)])), (am 3, .inl (tm 3, 3, .inl vx)), (am 4, .inl (tm 4, 3, .inl vy))])) (va_A [(am 0, .inr (2, [.int (nI w), .int (nI h), .ref (am 1), .ref (am 2), .ref (am 3), .ref (am 4), .ref (am 5), .ref (am 6)])), (am 3, .inl (tm 3, 3, .inl vx)), (am 4, .inl (tm 4, 3, .inl vy))] sz)) 0 0 (va_A [(am 0, .inr (2, [.int (nI w), .int (nI h), .ref (am 1), .ref (am 2), .ref (am 3), .ref (am 4), .ref (am 5), .ref (am 6)])), (am 3, .inl (tm 3, 3, .inl vx)), (am 4, .inl (tm 4, 3, .inl vy))] sz) := by
  refine Met.ofW (cc := cX2_isInside) (maxL := 9) (ret := (some .boolean)) (by decide) rfl ?_
  intro p e s m args below meth cD s₁ B hml hv
  obtain ⟨rfl, hsz, hP, hK, hD0, hN⟩ := hv
  have hx := B.exec
  have hb := B.bytes
  have hr := B.returns
  have hts := atoms_spec (ws := wsX2_isInside) B.pre
  have hown : s.vm.findClass RX2 = some m.cls := findClass_of_methodNamed B.named
  have hlocks := B.notSynchronized
  subst hsz
  have hD := hD0.self (sz := s.heap.size)
  generalize hAe : va_A [(am 0, .inr (2, [.int (nI w), .int (nI h), .ref (am 1), .ref (am 2), .ref (am 3), .ref (am 4), .ref (am 5), .ref (am 6)])), (am 3, .inl (tm 3, 3, .inl vx)), (am 4, .inl (tm 4, 3, .inl vy))] s.heap.size = A at hD ⊢
  have hA : ∀ q : Nat, s.heap.size ≤ q → A q := fun q h => by rw [← hAe]; exact Or.inr h
  have hS : va_S A s.heap s.heap [] := va_S.rf
  have hP : va_P (dC, dI) vwCl [(am 0, .inr (2, [.int (nI w), .int (nI h), .ref (am 1), .ref (am 2), .ref (am 3), .ref (am 4), .ref (am 5), .ref (am 6)])), (am 3, .inl (tm 3, 3, .inl vx)), (am 4, .inl (tm 4, 3, .inl vy))] s.heap := hP
  have hl := lv_entry ([.ref (am 0), .int a, .int b, .long px, .long py]) (n := 9) (Nat.le_of_ble_eq_true rfl)
  rw [lg_entry_eq]
  generalize (lg_sl ([.ref (am 0), .int a, .int b, .long px, .long py]) ++ List.replicate (9 - (lg_sl ([.ref (am 0), .int a, .int b, .long px, .long py])).length) Slot.unset).toArray = ls at hl ⊢
  have hl : lv_has ls 9 [(0, .ref (am 0)), (1, .int a), (2, .int b), (3, .long px), (5, .long py)] := hl
  refine lv_aload_n hx hb dX2_isInside_0 rfl (lv_at hl 0 rfl) ?_
  refine lv_iload_n hx hb dX2_isInside_1 rfl (lv_at hl 1 rfl) ?_
  refine lv_iload_n hx hb dX2_isInside_2 rfl (lv_at hl 2 rfl) ?_
  refine lv_lload_n hx hb dX2_isInside_3 rfl (lv_at hl 3 rfl) ?_
  refine lv_lload hx hb dX2_isInside_4 (lv_at hl 4 rfl) ?_
  refine m_calll (cs := [(am 0, .inr (2, [.int (nI w), .int (nI h), .ref (am 1), .ref (am 2), .ref (am 3), .ref (am 4), .ref (am 5), .ref (am 6)])), (am 3, .inl (tm 3, 3, .inl vx)), (am 4, .inl (tm 4, 3, .inl vy))]) (wr := []) hP hD hS hA [0, 1, 2] [] rfl rfl (by decide) (by decide) (va_runV (As := [.int a, .int b, .long px, .long py]) (rest := []) ⟨hx, hb, hml, hown, hts⟩ (c_X2_edge l dC dI _ am tm w h vx vy hv a b i j hi hj ea eb px py hpx hpy) (cwV 4 hts gX2_isInside_X2_edge rfl rfl rfl (by decide +kernel) ⟨Nat.le_of_ble_eq_true rfl, Nat.le_of_ble_eq_true rfl⟩) (m_preV (ci := 2) (q0 := 0) (hP.sub [0, 1, 2] rfl) (hK.sub [0, 1] rfl) (hD.sub [0, 1, 2] (by decide) rfl) hN rfl rfl) rfl rfl hl.1 rfl (lv_room (Nat.le_of_ble_eq_true rfl)) dX2_isInside_6 ⟨Nat.le_of_ble_eq_true rfl, Nat.le_of_ble_eq_true rfl⟩) (fun r6 _ H locs q6 hK2 hP hD hS => ?_)
  have hP : va_P (dC, dI) vwCl [(am 0, .inr (2, [.int (nI w), .int (nI h), .ref (am 1), .ref (am 2), .ref (am 3), .ref (am 4), .ref (am 5), .ref (am 6)])), (am 3, .inl (tm 3, 3, .inl vx)), (am 4, .inl (tm 4, 3, .inl vy))] H := hP.sub [0, 1, 2] rfl
  have hD : va_D A [(am 0, .inr (2, [.int (nI w), .int (nI h), .ref (am 1), .ref (am 2), .ref (am 3), .ref (am 4), .ref (am 5), .ref (am 6)])), (am 3, .inl (tm 3, 3, .inl vx)), (am 4, .inl (tm 4, 3, .inl vy))] := hD.sub [0, 1, 2] (by decide) rfl
  refine lv_lstore (lv' := [(7, .long r6), (0, .ref (am 0)), (1, .int a), (2, .int b), (3, .long px), (5, .long py)]) hx hb dX2_isInside_9 hl (by decide) rfl (fun ls hl => ?_)
  refine lv_lload hx hb dX2_isInside_11 (lv_at hl 0 rfl) ?_
  refine lv_lconst (v := 0) hx hb dX2_isInside_13 (by decide) ?_
  refine W.lcmp hx hb dX2_isInside_14 ?_
  refine lv_if_gt (tgt := 34) hx hb dX2_isInside_15 (by decide) (fun c15 => ?_) (fun c15 => ?_)
  · refine lv_iconst (v := 1) hx hb dX2_isInside_34 (by decide) ?_
    refine lv_goto (tgt := 39) hx hb dX2_isInside_35 (by decide) ?_
    have hP9 := hP.sub (ws' := [(am 0, .inr (2, [.int (nI w), .int (nI h), .ref (am 1), .ref (am 2), .ref (am 3), .ref (am 4), .ref (am 5), .ref (am 6)])), (am 3, .inl (tm 3, 3, .inl vx)), (am 4, .inl (tm 4, 3, .inl vy))]) [0, 1, 2] rfl
    have hD9 := hD.sub (ws' := [(am 0, .inr (2, [.int (nI w), .int (nI h), .ref (am 1), .ref (am 2), .ref (am 3), .ref (am 4), .ref (am 5), .ref (am 6)])), (am 3, .inl (tm 3, 3, .inl vx)), (am 4, .inl (tm 4, 3, .inl vy))]) [0, 1, 2] (by decide) rfl
    exact W.zret (v := 1) hx hb hr rfl (fun t ht hW => ⟨⟨1, (), rfl, Or.inl ⟨by rw [lg_cmp_gt, Int64.lt_iff_toInt_lt, Int64.toInt_zero, q6] at c15; exact Or.inl c15, rfl⟩, by rw [ht]; exact hP9, va_K.moved hW.alike hK, hD9⟩, hS.F ht⟩) hS.2.2 dX2_isInside_39
  · refine lv_lload hx hb dX2_isInside_18 (lv_at hl 0 rfl) ?_
    refine lv_lconst (v := 0) hx hb dX2_isInside_20 (by decide) ?_
    refine W.lcmp hx hb dX2_isInside_21 ?_
    refine lv_if_ne (tgt := 38) hx hb dX2_isInside_22 (by decide) (fun c22 => ?_) (fun c22 => ?_)
    · refine lv_iconst (v := 0) hx hb dX2_isInside_38 (by decide) ?_
      have hP9 := hP.sub (ws' := [(am 0, .inr (2, [.int (nI w), .int (nI h), .ref (am 1), .ref (am 2), .ref (am 3), .ref (am 4), .ref (am 5), .ref (am 6)])), (am 3, .inl (tm 3, 3, .inl vx)), (am 4, .inl (tm 4, 3, .inl vy))]) [0, 1, 2] rfl
      have hD9 := hD.sub (ws' := [(am 0, .inr (2, [.int (nI w), .int (nI h), .ref (am 1), .ref (am 2), .ref (am 3), .ref (am 4), .ref (am 5), .ref (am 6)])), (am 3, .inl (tm 3, 3, .inl vx)), (am 4, .inl (tm 4, 3, .inl vy))]) [0, 1, 2] (by decide) rfl
      exact W.zret (v := 0) hx hb hr rfl (fun t ht hW => ⟨⟨0, (), rfl, Or.inr ⟨by rw [lg_cmp_gt, Int64.lt_iff_toInt_lt, Int64.toInt_zero, q6] at c15; rw [lg_cmp_eq, ← Int64.toInt_inj, Int64.toInt_zero, q6] at c22; exact fun h => h.elim c15 (fun h2 => c22 h2.1), rfl⟩, by rw [ht]; exact hP9, va_K.moved hW.alike hK, hD9⟩, hS.F ht⟩) hS.2.2 dX2_isInside_39
    · refine lv_aload_n hx hb dX2_isInside_25 rfl (lv_at hl 1 rfl) ?_
      refine lv_iload_n hx hb dX2_isInside_26 rfl (lv_at hl 2 rfl) ?_
      refine lv_iload_n hx hb dX2_isInside_27 rfl (lv_at hl 3 rfl) ?_
      refine m_calli (cs := [(am 0, .inr (2, [.int (nI w), .int (nI h), .ref (am 1), .ref (am 2), .ref (am 3), .ref (am 4), .ref (am 5), .ref (am 6)])), (am 3, .inl (tm 3, 3, .inl vx)), (am 4, .inl (tm 4, 3, .inl vy))]) (wr := []) hP hD hS hA [0, 1, 2] [] rfl rfl (by decide) (by decide) (va_runV (As := [.int a, .int b]) (rest := []) ⟨hx, hb, hml, hown, hts⟩ (c_X2_isTopOrLeft l dC dI _ am tm w h vx vy a b i j hi hj ea eb) (cwV 2 hts gX2_isInside_X2_isTopOrLeft rfl rfl rfl (by decide +kernel) ⟨Nat.le_of_ble_eq_true rfl, Nat.le_of_ble_eq_true rfl⟩) (m_preV (ci := 2) (q0 := 0) (hP.sub [0, 1, 2] rfl) (hK.sub [0, 1] rfl) (hD.sub [0, 1, 2] (by decide) rfl) hN rfl rfl) rfl rfl hl.1 rfl (lv_room (Nat.le_of_ble_eq_true rfl)) dX2_isInside_28 ⟨Nat.le_of_ble_eq_true rfl, Nat.le_of_ble_eq_true rfl⟩) (fun r28 _ H locs q28 hK2 hP hD hS => ?_)
      have hP : va_P (dC, dI) vwCl [(am 0, .inr (2, [.int (nI w), .int (nI h), .ref (am 1), .ref (am 2), .ref (am 3), .ref (am 4), .ref (am 5), .ref (am 6)])), (am 3, .inl (tm 3, 3, .inl vx)), (am 4, .inl (tm 4, 3, .inl vy))] H := hP.sub [0, 1, 2] rfl
      have hD : va_D A [(am 0, .inr (2, [.int (nI w), .int (nI h), .ref (am 1), .ref (am 2), .ref (am 3), .ref (am 4), .ref (am 5), .ref (am 6)])), (am 3, .inl (tm 3, 3, .inl vx)), (am 4, .inl (tm 4, 3, .inl vy))] := hD.sub [0, 1, 2] (by decide) rfl
      refine lv_if_eq (tgt := 38) hx hb dX2_isInside_31 (by decide) (fun c31 => ?_) (fun c31 => ?_)
      · refine lv_iconst (v := 0) hx hb dX2_isInside_38 (by decide) ?_
        have hP9 := hP.sub (ws' := [(am 0, .inr (2, [.int (nI w), .int (nI h), .ref (am 1), .ref (am 2), .ref (am 3), .ref (am 4), .ref (am 5), .ref (am 6)])), (am 3, .inl (tm 3, 3, .inl vx)), (am 4, .inl (tm 4, 3, .inl vy))]) [0, 1, 2] rfl
        have hD9 := hD.sub (ws' := [(am 0, .inr (2, [.int (nI w), .int (nI h), .ref (am 1), .ref (am 2), .ref (am 3), .ref (am 4), .ref (am 5), .ref (am 6)])), (am 3, .inl (tm 3, 3, .inl vx)), (am 4, .inl (tm 4, 3, .inl vy))]) [0, 1, 2] (by decide) rfl
        exact W.zret (v := 0) hx hb hr rfl (fun t ht hW => ⟨⟨0, (), rfl, Or.inr ⟨by rw [lg_cmp_gt, Int64.lt_iff_toInt_lt, Int64.toInt_zero, q6] at c15; rw [lg_cmp_eq, ← Int64.toInt_inj, Int64.toInt_zero, q6] at c22; exact fun h => h.elim c15 (fun h2 => (b01 q28).mp c31 h2.2), rfl⟩, by rw [ht]; exact hP9, va_K.moved hW.alike hK, hD9⟩, hS.F ht⟩) hS.2.2 dX2_isInside_39
      · refine lv_iconst (v := 1) hx hb dX2_isInside_34 (by decide) ?_
        refine lv_goto (tgt := 39) hx hb dX2_isInside_35 (by decide) ?_
        have hP9 := hP.sub (ws' := [(am 0, .inr (2, [.int (nI w), .int (nI h), .ref (am 1), .ref (am 2), .ref (am 3), .ref (am 4), .ref (am 5), .ref (am 6)])), (am 3, .inl (tm 3, 3, .inl vx)), (am 4, .inl (tm 4, 3, .inl vy))]) [0, 1, 2] rfl
        have hD9 := hD.sub (ws' := [(am 0, .inr (2, [.int (nI w), .int (nI h), .ref (am 1), .ref (am 2), .ref (am 3), .ref (am 4), .ref (am 5), .ref (am 6)])), (am 3, .inl (tm 3, 3, .inl vx)), (am 4, .inl (tm 4, 3, .inl vy))]) [0, 1, 2] (by decide) rfl
        exact W.zret (v := 1) hx hb hr rfl (fun t ht hW => ⟨⟨1, (), rfl, Or.inl ⟨by rw [lg_cmp_gt, Int64.lt_iff_toInt_lt, Int64.toInt_zero, q6] at c15; rw [lg_cmp_eq, ← Int64.toInt_inj, Int64.toInt_zero, q6] at c22; exact Or.inr ⟨c22, Classical.byContradiction (fun h => c31 ((b01 q28).mpr h))⟩, rfl⟩, by rw [ht]; exact hP9, va_K.moved hW.alike hK, hD9⟩, hS.F ht⟩) hS.2.2 dX2_isInside_39

set_option maxHeartbeats 1000000 in
set_option maxRecDepth 100000 in
/-- isCovered -/
theorem c_X2_isCovered (l : Launch) (dC : Nat → ClassId) (dI : Nat → Nat → Nat) (sz : Nat) (am : Nat → Nat) (tm : Nat → ClassId) (w h : Nat) (vx vy : Nat → Int32) (hv : vb vx vy) (cl rw_ : Int32) (hcl : cl.toInt.natAbs ≤ 2000) (hrw : rw_.toInt.natAbs ≤ 2000) : Met l yX2_isCovered wsX2_isCovered ({ frames := 2, cells := 0, slots := 0, locals := 54 }) (mP (dC, dI) vwCl [(tm 3, .int), (tm 4, .int)] [(am 0, .inr (2, [.int (nI w), .int (nI h), .ref (am 1), .ref (am 2), .ref (am 3), .ref (am 4), .ref (am 5), .ref (am 6)])), (am 3, .inl (tm 3, 3, .inl vx)), (am 4, .inl (tm 4, 3, .inl vy))] sz [.ref (am 0), .int cl, .int rw_]) (va_Qi (fun (r : Int32) (u : Unit) => (COV vx vy cl.toInt rw_.toInt ∧ r = 1) ∨ (¬ COV vx vy cl.toInt rw_.toInt ∧ r = 0)) (mB (dC, dI) vwCl [(tm 3, .int), (tm 4, .int)] (va_A [(am 0, .inr (2, [.int (nI w), .int (nI h), .ref (am 1), .ref (am 2), .ref (am 3), .ref (am 4), .ref (am 5), .ref (am 6)])), (am 3, .inl (tm 3, 3, .inl vx)), (am 4, .inl (tm 4, 3, .inl vy))] sz) (fun u => [(am 0, .inr (2, [.int (nI w), .int (nI h), .ref (am 1), .ref (am 2), .ref (am 3), .ref (am 4), .ref (am 5), .ref (am 6)])), (am 3, .inl (tm 3, 3, .inl vx)), (am 4, .inl (tm 4, 3, .inl vy))])) (va_A [(am 0, .inr (2, [.int (nI w), .int (nI h), .ref (am 1), .ref (am 2), .ref (am 3), .ref (am 4), .ref (am 5), .ref (am 6)])), (am 3, .inl (tm 3, 3, .inl vx)), (am 4, .inl (tm 4, 3, .inl vy))] sz)) 0 0 (va_A [(am 0, .inr (2, [.int (nI w), .int (nI h), .ref (am 1), .ref (am 2), .ref (am 3), .ref (am 4), .ref (am 5), .ref (am 6)])), (am 3, .inl (tm 3, 3, .inl vx)), (am 4, .inl (tm 4, 3, .inl vy))] sz) := by
  refine Met.ofW (cc := cX2_isCovered) (maxL := 9) (ret := (some .boolean)) (by decide) rfl ?_
  intro p e s m args below meth cD s₁ B hml hv
  obtain ⟨rfl, hsz, hP, hK, hD0, hN⟩ := hv
  have hx := B.exec
  have hb := B.bytes
  have hr := B.returns
  have hts := atoms_spec (ws := wsX2_isCovered) B.pre
  have hown : s.vm.findClass RX2 = some m.cls := findClass_of_methodNamed B.named
  have hlocks := B.notSynchronized
  subst hsz
  have hD := hD0.self (sz := s.heap.size)
  generalize hAe : va_A [(am 0, .inr (2, [.int (nI w), .int (nI h), .ref (am 1), .ref (am 2), .ref (am 3), .ref (am 4), .ref (am 5), .ref (am 6)])), (am 3, .inl (tm 3, 3, .inl vx)), (am 4, .inl (tm 4, 3, .inl vy))] s.heap.size = A at hD ⊢
  have hA : ∀ q : Nat, s.heap.size ≤ q → A q := fun q h => by rw [← hAe]; exact Or.inr h
  have hS : va_S A s.heap s.heap [] := va_S.rf
  have hP : va_P (dC, dI) vwCl [(am 0, .inr (2, [.int (nI w), .int (nI h), .ref (am 1), .ref (am 2), .ref (am 3), .ref (am 4), .ref (am 5), .ref (am 6)])), (am 3, .inl (tm 3, 3, .inl vx)), (am 4, .inl (tm 4, 3, .inl vy))] s.heap := hP
  have hl := lv_entry ([.ref (am 0), .int cl, .int rw_]) (n := 9) (Nat.le_of_ble_eq_true rfl)
  rw [lg_entry_eq]
  generalize (lg_sl ([.ref (am 0), .int cl, .int rw_]) ++ List.replicate (9 - (lg_sl ([.ref (am 0), .int cl, .int rw_])).length) Slot.unset).toArray = ls at hl ⊢
  have hl : lv_has ls 9 [(0, .ref (am 0)), (1, .int cl), (2, .int rw_)] := hl
  have epx := mid64 hcl
  have epy := mid64 hrw
  have hbx : (16 * cl.toInt64 + 8).toInt.natAbs ≤ 33000 := by rw [epx]; omega
  have hby : (16 * rw_.toInt64 + 8).toInt.natAbs ≤ 33000 := by rw [epy]; omega
  refine lv_ldc2 (v := 16) hx hb hown (hts (.constantLong RX2 50 16) (by decide +kernel)) dX2_isCovered_0 ?_
  refine lv_iload_n hx hb dX2_isCovered_3 rfl (lv_at hl 1 rfl) ?_
  refine lv_i2l hx hb dX2_isCovered_4 rfl ?_
  refine lv_lmul hx hb dX2_isCovered_5 ?_
  refine lv_ldc2 (v := 8) hx hb hown (hts (.constantLong RX2 52 8) (by decide +kernel)) dX2_isCovered_6 ?_
  refine lv_ladd hx hb dX2_isCovered_9 ?_
  refine lv_lstore_n (lv' := [(3, .long ((16 * cl.toInt64) + 8)), (0, .ref (am 0)), (1, .int cl), (2, .int rw_)]) hx hb dX2_isCovered_10 rfl hl (by decide) rfl (fun ls hl => ?_)
  refine lv_ldc2 (v := 16) hx hb hown (hts (.constantLong RX2 50 16) (by decide +kernel)) dX2_isCovered_11 ?_
  refine lv_iload_n hx hb dX2_isCovered_14 rfl (lv_at hl 3 rfl) ?_
  refine lv_i2l hx hb dX2_isCovered_15 rfl ?_
  refine lv_lmul hx hb dX2_isCovered_16 ?_
  refine lv_ldc2 (v := 8) hx hb hown (hts (.constantLong RX2 52 8) (by decide +kernel)) dX2_isCovered_17 ?_
  refine lv_ladd hx hb dX2_isCovered_20 ?_
  refine lv_lstore (lv' := [(5, .long ((16 * rw_.toInt64) + 8)), (3, .long ((16 * cl.toInt64) + 8)), (0, .ref (am 0)), (1, .int cl), (2, .int rw_)]) hx hb dX2_isCovered_21 hl (by decide) rfl (fun ls hl => ?_)
  refine lv_aload_n hx hb dX2_isCovered_23 rfl (lv_at hl 2 rfl) ?_
  refine m_calll (cs := [(am 0, .inr (2, [.int (nI w), .int (nI h), .ref (am 1), .ref (am 2), .ref (am 3), .ref (am 4), .ref (am 5), .ref (am 6)])), (am 3, .inl (tm 3, 3, .inl vx)), (am 4, .inl (tm 4, 3, .inl vy))]) (wr := []) hP hD hS hA [0, 1, 2] [] rfl rfl (by decide) (by decide) (va_runV (As := []) (rest := []) ⟨hx, hb, hml, hown, hts⟩ (c_X2_area l dC dI _ am tm w h vx vy hv) (cwV 0 hts gX2_isCovered_X2_area rfl rfl rfl (by decide +kernel) ⟨Nat.le_of_ble_eq_true rfl, Nat.le_of_ble_eq_true rfl⟩) (m_preV (ci := 2) (q0 := 0) (hP.sub [0, 1, 2] rfl) (hK.sub [0, 1] rfl) (hD.sub [0, 1, 2] (by decide) rfl) hN rfl rfl) rfl rfl hl.1 rfl (lv_room (Nat.le_of_ble_eq_true rfl)) dX2_isCovered_24 ⟨Nat.le_of_ble_eq_true rfl, Nat.le_of_ble_eq_true rfl⟩) (fun r24 _ H locs q24 hK2 hP hD hS => ?_)
  have hP : va_P (dC, dI) vwCl [(am 0, .inr (2, [.int (nI w), .int (nI h), .ref (am 1), .ref (am 2), .ref (am 3), .ref (am 4), .ref (am 5), .ref (am 6)])), (am 3, .inl (tm 3, 3, .inl vx)), (am 4, .inl (tm 4, 3, .inl vy))] H := hP.sub [0, 1, 2] rfl
  have hD : va_D A [(am 0, .inr (2, [.int (nI w), .int (nI h), .ref (am 1), .ref (am 2), .ref (am 3), .ref (am 4), .ref (am 5), .ref (am 6)])), (am 3, .inl (tm 3, 3, .inl vx)), (am 4, .inl (tm 4, 3, .inl vy))] := hD.sub [0, 1, 2] (by decide) rfl
  refine lv_lstore (lv' := [(7, .long r24), (5, .long ((16 * rw_.toInt64) + 8)), (3, .long ((16 * cl.toInt64) + 8)), (0, .ref (am 0)), (1, .int cl), (2, .int rw_)]) hx hb dX2_isCovered_27 hl (by decide) rfl (fun ls hl => ?_)
  refine lv_lload hx hb dX2_isCovered_29 (lv_at hl 0 rfl) ?_
  refine lv_lconst (v := 0) hx hb dX2_isCovered_31 (by decide) ?_
  refine W.lcmp hx hb dX2_isCovered_32 ?_
  refine lv_if_le (tgt := 78) hx hb dX2_isCovered_33 (by decide) (fun c33 => ?_) (fun c33 => ?_)
  · refine lv_lload hx hb dX2_isCovered_78 (lv_at hl 0 rfl) ?_
    refine lv_lconst (v := 0) hx hb dX2_isCovered_80 (by decide) ?_
    refine W.lcmp hx hb dX2_isCovered_81 ?_
    refine lv_if_ge (tgt := 125) hx hb dX2_isCovered_82 (by decide) (fun c82 => ?_) (fun c82 => ?_)
    · refine lv_iconst (v := 0) hx hb dX2_isCovered_125 (by decide) ?_
      have hP9 := hP.sub (ws' := [(am 0, .inr (2, [.int (nI w), .int (nI h), .ref (am 1), .ref (am 2), .ref (am 3), .ref (am 4), .ref (am 5), .ref (am 6)])), (am 3, .inl (tm 3, 3, .inl vx)), (am 4, .inl (tm 4, 3, .inl vy))]) [0, 1, 2] rfl
      have hD9 := hD.sub (ws' := [(am 0, .inr (2, [.int (nI w), .int (nI h), .ref (am 1), .ref (am 2), .ref (am 3), .ref (am 4), .ref (am 5), .ref (am 6)])), (am 3, .inl (tm 3, 3, .inl vx)), (am 4, .inl (tm 4, 3, .inl vy))]) [0, 1, 2] (by decide) rfl
      exact W.zret (v := 0) hx hb hr rfl (fun t ht hW => ⟨⟨0, (), rfl, Or.inr ⟨by rw [lg_cmp_le, Int64.le_iff_toInt_le, Int64.toInt_zero, q24] at c33; rw [lg_cmp_ge, Int64.le_iff_toInt_le, Int64.toInt_zero, q24] at c82; exact fun h => h.elim (fun h => by have := h.1; omega) (fun h => by have := h.1; omega), rfl⟩, by rw [ht]; exact hP9, va_K.moved hW.alike hK, hD9⟩, hS.F ht⟩) hS.2.2 dX2_isCovered_126
    · refine lv_aload_n hx hb dX2_isCovered_85 rfl (lv_at hl 3 rfl) ?_
      refine lv_iconst (v := 0) hx hb dX2_isCovered_86 (by decide) ?_
      refine lv_iconst (v := 2) hx hb dX2_isCovered_87 (by decide) ?_
      refine lv_lload_n hx hb dX2_isCovered_88 rfl (lv_at hl 2 rfl) ?_
      refine lv_lload hx hb dX2_isCovered_89 (lv_at hl 1 rfl) ?_
      refine m_calli (cs := [(am 0, .inr (2, [.int (nI w), .int (nI h), .ref (am 1), .ref (am 2), .ref (am 3), .ref (am 4), .ref (am 5), .ref (am 6)])), (am 3, .inl (tm 3, 3, .inl vx)), (am 4, .inl (tm 4, 3, .inl vy))]) (wr := []) hP hD hS hA [0, 1, 2] [] rfl rfl (by decide) (by decide) (va_runV (As := [.int 0, .int 2, .long ((16 * cl.toInt64) + 8), .long ((16 * rw_.toInt64) + 8)]) (rest := []) ⟨hx, hb, hml, hown, hts⟩ (c_X2_isInside l dC dI _ am tm w h vx vy hv 0 2 0 2 (by omega) (by omega) rfl rfl ((16 * cl.toInt64) + 8) ((16 * rw_.toInt64) + 8) hbx hby) (cwV 4 hts gX2_isCovered_X2_isInside rfl rfl rfl (by decide +kernel) ⟨Nat.le_of_ble_eq_true rfl, Nat.le_of_ble_eq_true rfl⟩) (m_preV (ci := 2) (q0 := 0) (hP.sub [0, 1, 2] rfl) (hK.sub [0, 1] rfl) (hD.sub [0, 1, 2] (by decide) rfl) hN rfl rfl) rfl rfl hl.1 rfl (lv_room (Nat.le_of_ble_eq_true rfl)) dX2_isCovered_91 ⟨Nat.le_of_ble_eq_true rfl, Nat.le_of_ble_eq_true rfl⟩) (fun r91 _ H locs q91 hK2 hP hD hS => ?_)
      have hP : va_P (dC, dI) vwCl [(am 0, .inr (2, [.int (nI w), .int (nI h), .ref (am 1), .ref (am 2), .ref (am 3), .ref (am 4), .ref (am 5), .ref (am 6)])), (am 3, .inl (tm 3, 3, .inl vx)), (am 4, .inl (tm 4, 3, .inl vy))] H := hP.sub [0, 1, 2] rfl
      have hD : va_D A [(am 0, .inr (2, [.int (nI w), .int (nI h), .ref (am 1), .ref (am 2), .ref (am 3), .ref (am 4), .ref (am 5), .ref (am 6)])), (am 3, .inl (tm 3, 3, .inl vx)), (am 4, .inl (tm 4, 3, .inl vy))] := hD.sub [0, 1, 2] (by decide) rfl
      rw [epx, epy] at q91
      have q91 : (INS vx vy 0 2 cl.toInt rw_.toInt ∧ r91 = 1) ∨ (¬ INS vx vy 0 2 cl.toInt rw_.toInt ∧ r91 = 0) := q91
      refine lv_if_eq (tgt := 125) hx hb dX2_isCovered_94 (by decide) (fun c94 => ?_) (fun c94 => ?_)
      · refine lv_iconst (v := 0) hx hb dX2_isCovered_125 (by decide) ?_
        have hP9 := hP.sub (ws' := [(am 0, .inr (2, [.int (nI w), .int (nI h), .ref (am 1), .ref (am 2), .ref (am 3), .ref (am 4), .ref (am 5), .ref (am 6)])), (am 3, .inl (tm 3, 3, .inl vx)), (am 4, .inl (tm 4, 3, .inl vy))]) [0, 1, 2] rfl
        have hD9 := hD.sub (ws' := [(am 0, .inr (2, [.int (nI w), .int (nI h), .ref (am 1), .ref (am 2), .ref (am 3), .ref (am 4), .ref (am 5), .ref (am 6)])), (am 3, .inl (tm 3, 3, .inl vx)), (am 4, .inl (tm 4, 3, .inl vy))]) [0, 1, 2] (by decide) rfl
        exact W.zret (v := 0) hx hb hr rfl (fun t ht hW => ⟨⟨0, (), rfl, Or.inr ⟨by rw [lg_cmp_le, Int64.le_iff_toInt_le, Int64.toInt_zero, q24] at c33; rw [lg_cmp_ge, Int64.le_iff_toInt_le, Int64.toInt_zero, q24] at c82; exact fun h => h.elim (fun h => by have := h.1; omega) (fun h => (b01 q91).mp c94 h.2.1), rfl⟩, by rw [ht]; exact hP9, va_K.moved hW.alike hK, hD9⟩, hS.F ht⟩) hS.2.2 dX2_isCovered_126
      · refine lv_aload_n hx hb dX2_isCovered_97 rfl (lv_at hl 3 rfl) ?_
        refine lv_iconst (v := 2) hx hb dX2_isCovered_98 (by decide) ?_
        refine lv_iconst (v := 1) hx hb dX2_isCovered_99 (by decide) ?_
        refine lv_lload_n hx hb dX2_isCovered_100 rfl (lv_at hl 2 rfl) ?_
        refine lv_lload hx hb dX2_isCovered_101 (lv_at hl 1 rfl) ?_
        refine m_calli (cs := [(am 0, .inr (2, [.int (nI w), .int (nI h), .ref (am 1), .ref (am 2), .ref (am 3), .ref (am 4), .ref (am 5), .ref (am 6)])), (am 3, .inl (tm 3, 3, .inl vx)), (am 4, .inl (tm 4, 3, .inl vy))]) (wr := []) hP hD hS hA [0, 1, 2] [] rfl rfl (by decide) (by decide) (va_runV (As := [.int 2, .int 1, .long ((16 * cl.toInt64) + 8), .long ((16 * rw_.toInt64) + 8)]) (rest := []) ⟨hx, hb, hml, hown, hts⟩ (c_X2_isInside l dC dI _ am tm w h vx vy hv 2 1 2 1 (by omega) (by omega) rfl rfl ((16 * cl.toInt64) + 8) ((16 * rw_.toInt64) + 8) hbx hby) (cwV 4 hts gX2_isCovered_X2_isInside rfl rfl rfl (by decide +kernel) ⟨Nat.le_of_ble_eq_true rfl, Nat.le_of_ble_eq_true rfl⟩) (m_preV (ci := 2) (q0 := 0) (hP.sub [0, 1, 2] rfl) (hK.sub [0, 1] rfl) (hD.sub [0, 1, 2] (by decide) rfl) hN rfl rfl) rfl rfl hl.1 rfl (lv_room (Nat.le_of_ble_eq_true rfl)) dX2_isCovered_103 ⟨Nat.le_of_ble_eq_true rfl, Nat.le_of_ble_eq_true rfl⟩) (fun r103 _ H locs q103 hK2 hP hD hS => ?_)
        have hP : va_P (dC, dI) vwCl [(am 0, .inr (2, [.int (nI w), .int (nI h), .ref (am 1), .ref (am 2), .ref (am 3), .ref (am 4), .ref (am 5), .ref (am 6)])), (am 3, .inl (tm 3, 3, .inl vx)), (am 4, .inl (tm 4, 3, .inl vy))] H := hP.sub [0, 1, 2] rfl
        have hD : va_D A [(am 0, .inr (2, [.int (nI w), .int (nI h), .ref (am 1), .ref (am 2), .ref (am 3), .ref (am 4), .ref (am 5), .ref (am 6)])), (am 3, .inl (tm 3, 3, .inl vx)), (am 4, .inl (tm 4, 3, .inl vy))] := hD.sub [0, 1, 2] (by decide) rfl
        rw [epx, epy] at q103
        have q103 : (INS vx vy 2 1 cl.toInt rw_.toInt ∧ r103 = 1) ∨ (¬ INS vx vy 2 1 cl.toInt rw_.toInt ∧ r103 = 0) := q103
        refine lv_if_eq (tgt := 125) hx hb dX2_isCovered_106 (by decide) (fun c106 => ?_) (fun c106 => ?_)
        · refine lv_iconst (v := 0) hx hb dX2_isCovered_125 (by decide) ?_
          have hP9 := hP.sub (ws' := [(am 0, .inr (2, [.int (nI w), .int (nI h), .ref (am 1), .ref (am 2), .ref (am 3), .ref (am 4), .ref (am 5), .ref (am 6)])), (am 3, .inl (tm 3, 3, .inl vx)), (am 4, .inl (tm 4, 3, .inl vy))]) [0, 1, 2] rfl
          have hD9 := hD.sub (ws' := [(am 0, .inr (2, [.int (nI w), .int (nI h), .ref (am 1), .ref (am 2), .ref (am 3), .ref (am 4), .ref (am 5), .ref (am 6)])), (am 3, .inl (tm 3, 3, .inl vx)), (am 4, .inl (tm 4, 3, .inl vy))]) [0, 1, 2] (by decide) rfl
          exact W.zret (v := 0) hx hb hr rfl (fun t ht hW => ⟨⟨0, (), rfl, Or.inr ⟨by rw [lg_cmp_le, Int64.le_iff_toInt_le, Int64.toInt_zero, q24] at c33; rw [lg_cmp_ge, Int64.le_iff_toInt_le, Int64.toInt_zero, q24] at c82; exact fun h => h.elim (fun h => by have := h.1; omega) (fun h => (b01 q103).mp c106 h.2.2.1), rfl⟩, by rw [ht]; exact hP9, va_K.moved hW.alike hK, hD9⟩, hS.F ht⟩) hS.2.2 dX2_isCovered_126
        · refine lv_aload_n hx hb dX2_isCovered_109 rfl (lv_at hl 3 rfl) ?_
          refine lv_iconst (v := 1) hx hb dX2_isCovered_110 (by decide) ?_
          refine lv_iconst (v := 0) hx hb dX2_isCovered_111 (by decide) ?_
          refine lv_lload_n hx hb dX2_isCovered_112 rfl (lv_at hl 2 rfl) ?_
          refine lv_lload hx hb dX2_isCovered_113 (lv_at hl 1 rfl) ?_
          refine m_calli (cs := [(am 0, .inr (2, [.int (nI w), .int (nI h), .ref (am 1), .ref (am 2), .ref (am 3), .ref (am 4), .ref (am 5), .ref (am 6)])), (am 3, .inl (tm 3, 3, .inl vx)), (am 4, .inl (tm 4, 3, .inl vy))]) (wr := []) hP hD hS hA [0, 1, 2] [] rfl rfl (by decide) (by decide) (va_runV (As := [.int 1, .int 0, .long ((16 * cl.toInt64) + 8), .long ((16 * rw_.toInt64) + 8)]) (rest := []) ⟨hx, hb, hml, hown, hts⟩ (c_X2_isInside l dC dI _ am tm w h vx vy hv 1 0 1 0 (by omega) (by omega) rfl rfl ((16 * cl.toInt64) + 8) ((16 * rw_.toInt64) + 8) hbx hby) (cwV 4 hts gX2_isCovered_X2_isInside rfl rfl rfl (by decide +kernel) ⟨Nat.le_of_ble_eq_true rfl, Nat.le_of_ble_eq_true rfl⟩) (m_preV (ci := 2) (q0 := 0) (hP.sub [0, 1, 2] rfl) (hK.sub [0, 1] rfl) (hD.sub [0, 1, 2] (by decide) rfl) hN rfl rfl) rfl rfl hl.1 rfl (lv_room (Nat.le_of_ble_eq_true rfl)) dX2_isCovered_115 ⟨Nat.le_of_ble_eq_true rfl, Nat.le_of_ble_eq_true rfl⟩) (fun r115 _ H locs q115 hK2 hP hD hS => ?_)
          have hP : va_P (dC, dI) vwCl [(am 0, .inr (2, [.int (nI w), .int (nI h), .ref (am 1), .ref (am 2), .ref (am 3), .ref (am 4), .ref (am 5), .ref (am 6)])), (am 3, .inl (tm 3, 3, .inl vx)), (am 4, .inl (tm 4, 3, .inl vy))] H := hP.sub [0, 1, 2] rfl
          have hD : va_D A [(am 0, .inr (2, [.int (nI w), .int (nI h), .ref (am 1), .ref (am 2), .ref (am 3), .ref (am 4), .ref (am 5), .ref (am 6)])), (am 3, .inl (tm 3, 3, .inl vx)), (am 4, .inl (tm 4, 3, .inl vy))] := hD.sub [0, 1, 2] (by decide) rfl
          rw [epx, epy] at q115
          have q115 : (INS vx vy 1 0 cl.toInt rw_.toInt ∧ r115 = 1) ∨ (¬ INS vx vy 1 0 cl.toInt rw_.toInt ∧ r115 = 0) := q115
          refine lv_if_eq (tgt := 125) hx hb dX2_isCovered_118 (by decide) (fun c118 => ?_) (fun c118 => ?_)
          · refine lv_iconst (v := 0) hx hb dX2_isCovered_125 (by decide) ?_
            have hP9 := hP.sub (ws' := [(am 0, .inr (2, [.int (nI w), .int (nI h), .ref (am 1), .ref (am 2), .ref (am 3), .ref (am 4), .ref (am 5), .ref (am 6)])), (am 3, .inl (tm 3, 3, .inl vx)), (am 4, .inl (tm 4, 3, .inl vy))]) [0, 1, 2] rfl
            have hD9 := hD.sub (ws' := [(am 0, .inr (2, [.int (nI w), .int (nI h), .ref (am 1), .ref (am 2), .ref (am 3), .ref (am 4), .ref (am 5), .ref (am 6)])), (am 3, .inl (tm 3, 3, .inl vx)), (am 4, .inl (tm 4, 3, .inl vy))]) [0, 1, 2] (by decide) rfl
            exact W.zret (v := 0) hx hb hr rfl (fun t ht hW => ⟨⟨0, (), rfl, Or.inr ⟨by rw [lg_cmp_le, Int64.le_iff_toInt_le, Int64.toInt_zero, q24] at c33; rw [lg_cmp_ge, Int64.le_iff_toInt_le, Int64.toInt_zero, q24] at c82; exact fun h => h.elim (fun h => by have := h.1; omega) (fun h => (b01 q115).mp c118 h.2.2.2), rfl⟩, by rw [ht]; exact hP9, va_K.moved hW.alike hK, hD9⟩, hS.F ht⟩) hS.2.2 dX2_isCovered_126
          · refine lv_iconst (v := 1) hx hb dX2_isCovered_121 (by decide) ?_
            refine lv_goto (tgt := 126) hx hb dX2_isCovered_122 (by decide) ?_
            have hP9 := hP.sub (ws' := [(am 0, .inr (2, [.int (nI w), .int (nI h), .ref (am 1), .ref (am 2), .ref (am 3), .ref (am 4), .ref (am 5), .ref (am 6)])), (am 3, .inl (tm 3, 3, .inl vx)), (am 4, .inl (tm 4, 3, .inl vy))]) [0, 1, 2] rfl
            have hD9 := hD.sub (ws' := [(am 0, .inr (2, [.int (nI w), .int (nI h), .ref (am 1), .ref (am 2), .ref (am 3), .ref (am 4), .ref (am 5), .ref (am 6)])), (am 3, .inl (tm 3, 3, .inl vx)), (am 4, .inl (tm 4, 3, .inl vy))]) [0, 1, 2] (by decide) rfl
            exact W.zret (v := 1) hx hb hr rfl (fun t ht hW => ⟨⟨1, (), rfl, Or.inl ⟨by rw [lg_cmp_le, Int64.le_iff_toInt_le, Int64.toInt_zero, q24] at c33; rw [lg_cmp_ge, Int64.le_iff_toInt_le, Int64.toInt_zero, q24] at c82; exact Or.inr ⟨by omega, Classical.byContradiction (fun h => c94 ((b01 q91).mpr h)), Classical.byContradiction (fun h => c106 ((b01 q103).mpr h)), Classical.byContradiction (fun h => c118 ((b01 q115).mpr h))⟩, rfl⟩, by rw [ht]; exact hP9, va_K.moved hW.alike hK, hD9⟩, hS.F ht⟩) hS.2.2 dX2_isCovered_126
  · refine lv_aload_n hx hb dX2_isCovered_36 rfl (lv_at hl 3 rfl) ?_
    refine lv_iconst (v := 0) hx hb dX2_isCovered_37 (by decide) ?_
    refine lv_iconst (v := 1) hx hb dX2_isCovered_38 (by decide) ?_
    refine lv_lload_n hx hb dX2_isCovered_39 rfl (lv_at hl 2 rfl) ?_
    refine lv_lload hx hb dX2_isCovered_40 (lv_at hl 1 rfl) ?_
    refine m_calli (cs := [(am 0, .inr (2, [.int (nI w), .int (nI h), .ref (am 1), .ref (am 2), .ref (am 3), .ref (am 4), .ref (am 5), .ref (am 6)])), (am 3, .inl (tm 3, 3, .inl vx)), (am 4, .inl (tm 4, 3, .inl vy))]) (wr := []) hP hD hS hA [0, 1, 2] [] rfl rfl (by decide) (by decide) (va_runV (As := [.int 0, .int 1, .long ((16 * cl.toInt64) + 8), .long ((16 * rw_.toInt64) + 8)]) (rest := []) ⟨hx, hb, hml, hown, hts⟩ (c_X2_isInside l dC dI _ am tm w h vx vy hv 0 1 0 1 (by omega) (by omega) rfl rfl ((16 * cl.toInt64) + 8) ((16 * rw_.toInt64) + 8) hbx hby) (cwV 4 hts gX2_isCovered_X2_isInside rfl rfl rfl (by decide +kernel) ⟨Nat.le_of_ble_eq_true rfl, Nat.le_of_ble_eq_true rfl⟩) (m_preV (ci := 2) (q0 := 0) (hP.sub [0, 1, 2] rfl) (hK.sub [0, 1] rfl) (hD.sub [0, 1, 2] (by decide) rfl) hN rfl rfl) rfl rfl hl.1 rfl (lv_room (Nat.le_of_ble_eq_true rfl)) dX2_isCovered_42 ⟨Nat.le_of_ble_eq_true rfl, Nat.le_of_ble_eq_true rfl⟩) (fun r42 _ H locs q42 hK2 hP hD hS => ?_)
    have hP : va_P (dC, dI) vwCl [(am 0, .inr (2, [.int (nI w), .int (nI h), .ref (am 1), .ref (am 2), .ref (am 3), .ref (am 4), .ref (am 5), .ref (am 6)])), (am 3, .inl (tm 3, 3, .inl vx)), (am 4, .inl (tm 4, 3, .inl vy))] H := hP.sub [0, 1, 2] rfl
    have hD : va_D A [(am 0, .inr (2, [.int (nI w), .int (nI h), .ref (am 1), .ref (am 2), .ref (am 3), .ref (am 4), .ref (am 5), .ref (am 6)])), (am 3, .inl (tm 3, 3, .inl vx)), (am 4, .inl (tm 4, 3, .inl vy))] := hD.sub [0, 1, 2] (by decide) rfl
    rw [epx, epy] at q42
    have q42 : (INS vx vy 0 1 cl.toInt rw_.toInt ∧ r42 = 1) ∨ (¬ INS vx vy 0 1 cl.toInt rw_.toInt ∧ r42 = 0) := q42
    refine lv_if_eq (tgt := 76) hx hb dX2_isCovered_45 (by decide) (fun c45 => ?_) (fun c45 => ?_)
    · refine lv_iconst (v := 0) hx hb dX2_isCovered_76 (by decide) ?_
      have hP9 := hP.sub (ws' := [(am 0, .inr (2, [.int (nI w), .int (nI h), .ref (am 1), .ref (am 2), .ref (am 3), .ref (am 4), .ref (am 5), .ref (am 6)])), (am 3, .inl (tm 3, 3, .inl vx)), (am 4, .inl (tm 4, 3, .inl vy))]) [0, 1, 2] rfl
      have hD9 := hD.sub (ws' := [(am 0, .inr (2, [.int (nI w), .int (nI h), .ref (am 1), .ref (am 2), .ref (am 3), .ref (am 4), .ref (am 5), .ref (am 6)])), (am 3, .inl (tm 3, 3, .inl vx)), (am 4, .inl (tm 4, 3, .inl vy))]) [0, 1, 2] (by decide) rfl
      exact W.zret (v := 0) hx hb hr rfl (fun t ht hW => ⟨⟨0, (), rfl, Or.inr ⟨by rw [lg_cmp_le, Int64.le_iff_toInt_le, Int64.toInt_zero, q24] at c33; exact fun h => h.elim (fun h => (b01 q42).mp c45 h.2.1) (fun h => by have := h.1; omega), rfl⟩, by rw [ht]; exact hP9, va_K.moved hW.alike hK, hD9⟩, hS.F ht⟩) hS.2.2 dX2_isCovered_77
    · refine lv_aload_n hx hb dX2_isCovered_48 rfl (lv_at hl 3 rfl) ?_
      refine lv_iconst (v := 1) hx hb dX2_isCovered_49 (by decide) ?_
      refine lv_iconst (v := 2) hx hb dX2_isCovered_50 (by decide) ?_
      refine lv_lload_n hx hb dX2_isCovered_51 rfl (lv_at hl 2 rfl) ?_
      refine lv_lload hx hb dX2_isCovered_52 (lv_at hl 1 rfl) ?_
      refine m_calli (cs := [(am 0, .inr (2, [.int (nI w), .int (nI h), .ref (am 1), .ref (am 2), .ref (am 3), .ref (am 4), .ref (am 5), .ref (am 6)])), (am 3, .inl (tm 3, 3, .inl vx)), (am 4, .inl (tm 4, 3, .inl vy))]) (wr := []) hP hD hS hA [0, 1, 2] [] rfl rfl (by decide) (by decide) (va_runV (As := [.int 1, .int 2, .long ((16 * cl.toInt64) + 8), .long ((16 * rw_.toInt64) + 8)]) (rest := []) ⟨hx, hb, hml, hown, hts⟩ (c_X2_isInside l dC dI _ am tm w h vx vy hv 1 2 1 2 (by omega) (by omega) rfl rfl ((16 * cl.toInt64) + 8) ((16 * rw_.toInt64) + 8) hbx hby) (cwV 4 hts gX2_isCovered_X2_isInside rfl rfl rfl (by decide +kernel) ⟨Nat.le_of_ble_eq_true rfl, Nat.le_of_ble_eq_true rfl⟩) (m_preV (ci := 2) (q0 := 0) (hP.sub [0, 1, 2] rfl) (hK.sub [0, 1] rfl) (hD.sub [0, 1, 2] (by decide) rfl) hN rfl rfl) rfl rfl hl.1 rfl (lv_room (Nat.le_of_ble_eq_true rfl)) dX2_isCovered_54 ⟨Nat.le_of_ble_eq_true rfl, Nat.le_of_ble_eq_true rfl⟩) (fun r54 _ H locs q54 hK2 hP hD hS => ?_)
      have hP : va_P (dC, dI) vwCl [(am 0, .inr (2, [.int (nI w), .int (nI h), .ref (am 1), .ref (am 2), .ref (am 3), .ref (am 4), .ref (am 5), .ref (am 6)])), (am 3, .inl (tm 3, 3, .inl vx)), (am 4, .inl (tm 4, 3, .inl vy))] H := hP.sub [0, 1, 2] rfl
      have hD : va_D A [(am 0, .inr (2, [.int (nI w), .int (nI h), .ref (am 1), .ref (am 2), .ref (am 3), .ref (am 4), .ref (am 5), .ref (am 6)])), (am 3, .inl (tm 3, 3, .inl vx)), (am 4, .inl (tm 4, 3, .inl vy))] := hD.sub [0, 1, 2] (by decide) rfl
      rw [epx, epy] at q54
      have q54 : (INS vx vy 1 2 cl.toInt rw_.toInt ∧ r54 = 1) ∨ (¬ INS vx vy 1 2 cl.toInt rw_.toInt ∧ r54 = 0) := q54
      refine lv_if_eq (tgt := 76) hx hb dX2_isCovered_57 (by decide) (fun c57 => ?_) (fun c57 => ?_)
      · refine lv_iconst (v := 0) hx hb dX2_isCovered_76 (by decide) ?_
        have hP9 := hP.sub (ws' := [(am 0, .inr (2, [.int (nI w), .int (nI h), .ref (am 1), .ref (am 2), .ref (am 3), .ref (am 4), .ref (am 5), .ref (am 6)])), (am 3, .inl (tm 3, 3, .inl vx)), (am 4, .inl (tm 4, 3, .inl vy))]) [0, 1, 2] rfl
        have hD9 := hD.sub (ws' := [(am 0, .inr (2, [.int (nI w), .int (nI h), .ref (am 1), .ref (am 2), .ref (am 3), .ref (am 4), .ref (am 5), .ref (am 6)])), (am 3, .inl (tm 3, 3, .inl vx)), (am 4, .inl (tm 4, 3, .inl vy))]) [0, 1, 2] (by decide) rfl
        exact W.zret (v := 0) hx hb hr rfl (fun t ht hW => ⟨⟨0, (), rfl, Or.inr ⟨by rw [lg_cmp_le, Int64.le_iff_toInt_le, Int64.toInt_zero, q24] at c33; exact fun h => h.elim (fun h => (b01 q54).mp c57 h.2.2.1) (fun h => by have := h.1; omega), rfl⟩, by rw [ht]; exact hP9, va_K.moved hW.alike hK, hD9⟩, hS.F ht⟩) hS.2.2 dX2_isCovered_77
      · refine lv_aload_n hx hb dX2_isCovered_60 rfl (lv_at hl 3 rfl) ?_
        refine lv_iconst (v := 2) hx hb dX2_isCovered_61 (by decide) ?_
        refine lv_iconst (v := 0) hx hb dX2_isCovered_62 (by decide) ?_
        refine lv_lload_n hx hb dX2_isCovered_63 rfl (lv_at hl 2 rfl) ?_
        refine lv_lload hx hb dX2_isCovered_64 (lv_at hl 1 rfl) ?_
        refine m_calli (cs := [(am 0, .inr (2, [.int (nI w), .int (nI h), .ref (am 1), .ref (am 2), .ref (am 3), .ref (am 4), .ref (am 5), .ref (am 6)])), (am 3, .inl (tm 3, 3, .inl vx)), (am 4, .inl (tm 4, 3, .inl vy))]) (wr := []) hP hD hS hA [0, 1, 2] [] rfl rfl (by decide) (by decide) (va_runV (As := [.int 2, .int 0, .long ((16 * cl.toInt64) + 8), .long ((16 * rw_.toInt64) + 8)]) (rest := []) ⟨hx, hb, hml, hown, hts⟩ (c_X2_isInside l dC dI _ am tm w h vx vy hv 2 0 2 0 (by omega) (by omega) rfl rfl ((16 * cl.toInt64) + 8) ((16 * rw_.toInt64) + 8) hbx hby) (cwV 4 hts gX2_isCovered_X2_isInside rfl rfl rfl (by decide +kernel) ⟨Nat.le_of_ble_eq_true rfl, Nat.le_of_ble_eq_true rfl⟩) (m_preV (ci := 2) (q0 := 0) (hP.sub [0, 1, 2] rfl) (hK.sub [0, 1] rfl) (hD.sub [0, 1, 2] (by decide) rfl) hN rfl rfl) rfl rfl hl.1 rfl (lv_room (Nat.le_of_ble_eq_true rfl)) dX2_isCovered_66 ⟨Nat.le_of_ble_eq_true rfl, Nat.le_of_ble_eq_true rfl⟩) (fun r66 _ H locs q66 hK2 hP hD hS => ?_)
        have hP : va_P (dC, dI) vwCl [(am 0, .inr (2, [.int (nI w), .int (nI h), .ref (am 1), .ref (am 2), .ref (am 3), .ref (am 4), .ref (am 5), .ref (am 6)])), (am 3, .inl (tm 3, 3, .inl vx)), (am 4, .inl (tm 4, 3, .inl vy))] H := hP.sub [0, 1, 2] rfl
        have hD : va_D A [(am 0, .inr (2, [.int (nI w), .int (nI h), .ref (am 1), .ref (am 2), .ref (am 3), .ref (am 4), .ref (am 5), .ref (am 6)])), (am 3, .inl (tm 3, 3, .inl vx)), (am 4, .inl (tm 4, 3, .inl vy))] := hD.sub [0, 1, 2] (by decide) rfl
        rw [epx, epy] at q66
        have q66 : (INS vx vy 2 0 cl.toInt rw_.toInt ∧ r66 = 1) ∨ (¬ INS vx vy 2 0 cl.toInt rw_.toInt ∧ r66 = 0) := q66
        refine lv_if_eq (tgt := 76) hx hb dX2_isCovered_69 (by decide) (fun c69 => ?_) (fun c69 => ?_)
        · refine lv_iconst (v := 0) hx hb dX2_isCovered_76 (by decide) ?_
          have hP9 := hP.sub (ws' := [(am 0, .inr (2, [.int (nI w), .int (nI h), .ref (am 1), .ref (am 2), .ref (am 3), .ref (am 4), .ref (am 5), .ref (am 6)])), (am 3, .inl (tm 3, 3, .inl vx)), (am 4, .inl (tm 4, 3, .inl vy))]) [0, 1, 2] rfl
          have hD9 := hD.sub (ws' := [(am 0, .inr (2, [.int (nI w), .int (nI h), .ref (am 1), .ref (am 2), .ref (am 3), .ref (am 4), .ref (am 5), .ref (am 6)])), (am 3, .inl (tm 3, 3, .inl vx)), (am 4, .inl (tm 4, 3, .inl vy))]) [0, 1, 2] (by decide) rfl
          exact W.zret (v := 0) hx hb hr rfl (fun t ht hW => ⟨⟨0, (), rfl, Or.inr ⟨by rw [lg_cmp_le, Int64.le_iff_toInt_le, Int64.toInt_zero, q24] at c33; exact fun h => h.elim (fun h => (b01 q66).mp c69 h.2.2.2) (fun h => by have := h.1; omega), rfl⟩, by rw [ht]; exact hP9, va_K.moved hW.alike hK, hD9⟩, hS.F ht⟩) hS.2.2 dX2_isCovered_77
        · refine lv_iconst (v := 1) hx hb dX2_isCovered_72 (by decide) ?_
          refine lv_goto (tgt := 77) hx hb dX2_isCovered_73 (by decide) ?_
          have hP9 := hP.sub (ws' := [(am 0, .inr (2, [.int (nI w), .int (nI h), .ref (am 1), .ref (am 2), .ref (am 3), .ref (am 4), .ref (am 5), .ref (am 6)])), (am 3, .inl (tm 3, 3, .inl vx)), (am 4, .inl (tm 4, 3, .inl vy))]) [0, 1, 2] rfl
          have hD9 := hD.sub (ws' := [(am 0, .inr (2, [.int (nI w), .int (nI h), .ref (am 1), .ref (am 2), .ref (am 3), .ref (am 4), .ref (am 5), .ref (am 6)])), (am 3, .inl (tm 3, 3, .inl vx)), (am 4, .inl (tm 4, 3, .inl vy))]) [0, 1, 2] (by decide) rfl
          exact W.zret (v := 1) hx hb hr rfl (fun t ht hW => ⟨⟨1, (), rfl, Or.inl ⟨by rw [lg_cmp_le, Int64.le_iff_toInt_le, Int64.toInt_zero, q24] at c33; exact Or.inl ⟨by omega, Classical.byContradiction (fun h => c45 ((b01 q42).mpr h)), Classical.byContradiction (fun h => c57 ((b01 q54).mpr h)), Classical.byContradiction (fun h => c69 ((b01 q66).mpr h))⟩, rfl⟩, by rw [ht]; exact hP9, va_K.moved hW.alike hK, hD9⟩, hS.F ht⟩) hS.2.2 dX2_isCovered_77

set_option maxHeartbeats 1000000 in
set_option maxRecDepth 100000 in
/-- depthOf -/
theorem c_X2_depthOf (l : Launch) (dC : Nat → ClassId) (dI : Nat → Nat → Nat) (sz : Nat) (am : Nat → Nat) (tm : Nat → ClassId) (w h : Nat) (vx vy : Nat → Int32) (vz : Nat → Int32) (hv : vb vx vy) (hz : zb vz) (cl rw_ : Int32) (hcl : cl.toInt.natAbs ≤ 2000) (hrw : rw_.toInt.natAbs ≤ 2000) (hC : COV vx vy cl.toInt rw_.toInt) : Met l yX2_depthOf wsX2_depthOf ({ frames := 2, cells := 0, slots := 0, locals := 46 }) (mP (dC, dI) vwCl [(tm 3, .int), (tm 4, .int), (tm 5, .int)] [(am 0, .inr (2, [.int (nI w), .int (nI h), .ref (am 1), .ref (am 2), .ref (am 3), .ref (am 4), .ref (am 5), .ref (am 6)])), (am 3, .inl (tm 3, 3, .inl vx)), (am 4, .inl (tm 4, 3, .inl vy)), (am 5, .inl (tm 5, 3, .inl vz))] sz [.ref (am 0), .int cl, .int rw_]) (va_Qi (fun (r : Int32) (u : Unit) => r = Int32.ofInt (DPT vx vy vz cl.toInt rw_.toInt)) (mB (dC, dI) vwCl [(tm 3, .int), (tm 4, .int), (tm 5, .int)] (va_A [(am 0, .inr (2, [.int (nI w), .int (nI h), .ref (am 1), .ref (am 2), .ref (am 3), .ref (am 4), .ref (am 5), .ref (am 6)])), (am 3, .inl (tm 3, 3, .inl vx)), (am 4, .inl (tm 4, 3, .inl vy)), (am 5, .inl (tm 5, 3, .inl vz))] sz) (fun u => [(am 0, .inr (2, [.int (nI w), .int (nI h), .ref (am 1), .ref (am 2), .ref (am 3), .ref (am 4), .ref (am 5), .ref (am 6)])), (am 3, .inl (tm 3, 3, .inl vx)), (am 4, .inl (tm 4, 3, .inl vy)), (am 5, .inl (tm 5, 3, .inl vz))])) (va_A [(am 0, .inr (2, [.int (nI w), .int (nI h), .ref (am 1), .ref (am 2), .ref (am 3), .ref (am 4), .ref (am 5), .ref (am 6)])), (am 3, .inl (tm 3, 3, .inl vx)), (am 4, .inl (tm 4, 3, .inl vy)), (am 5, .inl (tm 5, 3, .inl vz))] sz)) 0 0 (va_A [(am 0, .inr (2, [.int (nI w), .int (nI h), .ref (am 1), .ref (am 2), .ref (am 3), .ref (am 4), .ref (am 5), .ref (am 6)])), (am 3, .inl (tm 3, 3, .inl vx)), (am 4, .inl (tm 4, 3, .inl vy)), (am 5, .inl (tm 5, 3, .inl vz))] sz) := by
  refine Met.ofW (cc := cX2_depthOf) (maxL := 9) (ret := (some .int)) (by decide) rfl ?_
  intro p e s m args below meth cD s₁ B hml hv
  obtain ⟨rfl, hsz, hP, hK, hD0, hN⟩ := hv
  have hx := B.exec
  have hb := B.bytes
  have hr := B.returns
  have hts := atoms_spec (ws := wsX2_depthOf) B.pre
  have hown : s.vm.findClass RX2 = some m.cls := findClass_of_methodNamed B.named
  have hlocks := B.notSynchronized
  subst hsz
  have hD := hD0.self (sz := s.heap.size)
  generalize hAe : va_A [(am 0, .inr (2, [.int (nI w), .int (nI h), .ref (am 1), .ref (am 2), .ref (am 3), .ref (am 4), .ref (am 5), .ref (am 6)])), (am 3, .inl (tm 3, 3, .inl vx)), (am 4, .inl (tm 4, 3, .inl vy)), (am 5, .inl (tm 5, 3, .inl vz))] s.heap.size = A at hD ⊢
  have hA : ∀ q : Nat, s.heap.size ≤ q → A q := fun q h => by rw [← hAe]; exact Or.inr h
  have hS : va_S A s.heap s.heap [] := va_S.rf
  have hP : va_P (dC, dI) vwCl [(am 0, .inr (2, [.int (nI w), .int (nI h), .ref (am 1), .ref (am 2), .ref (am 3), .ref (am 4), .ref (am 5), .ref (am 6)])), (am 3, .inl (tm 3, 3, .inl vx)), (am 4, .inl (tm 4, 3, .inl vy)), (am 5, .inl (tm 5, 3, .inl vz))] s.heap := hP
  have hl := lv_entry ([.ref (am 0), .int cl, .int rw_]) (n := 9) (Nat.le_of_ble_eq_true rfl)
  rw [lg_entry_eq]
  generalize (lg_sl ([.ref (am 0), .int cl, .int rw_]) ++ List.replicate (9 - (lg_sl ([.ref (am 0), .int cl, .int rw_])).length) Slot.unset).toArray = ls at hl ⊢
  have hl : lv_has ls 9 [(0, .ref (am 0)), (1, .int cl), (2, .int rw_)] := hl
  have epx := mid64 hcl
  have epy := mid64 hrw
  have hbx : (16 * cl.toInt64 + 8).toInt.natAbs ≤ 33000 := by rw [epx]; omega
  have hby : (16 * rw_.toInt64 + 8).toInt.natAbs ≤ 33000 := by rw [epy]; omega
  refine lv_ldc2 (v := 16) hx hb hown (hts (.constantLong RX2 50 16) (by decide +kernel)) dX2_depthOf_0 ?_
  refine lv_iload_n hx hb dX2_depthOf_3 rfl (lv_at hl 1 rfl) ?_
  refine lv_i2l hx hb dX2_depthOf_4 rfl ?_
  refine lv_lmul hx hb dX2_depthOf_5 ?_
  refine lv_ldc2 (v := 8) hx hb hown (hts (.constantLong RX2 52 8) (by decide +kernel)) dX2_depthOf_6 ?_
  refine lv_ladd hx hb dX2_depthOf_9 ?_
  refine lv_lstore_n (lv' := [(3, .long ((16 * cl.toInt64) + 8)), (0, .ref (am 0)), (1, .int cl), (2, .int rw_)]) hx hb dX2_depthOf_10 rfl hl (by decide) rfl (fun ls hl => ?_)
  refine lv_ldc2 (v := 16) hx hb hown (hts (.constantLong RX2 50 16) (by decide +kernel)) dX2_depthOf_11 ?_
  refine lv_iload_n hx hb dX2_depthOf_14 rfl (lv_at hl 3 rfl) ?_
  refine lv_i2l hx hb dX2_depthOf_15 rfl ?_
  refine lv_lmul hx hb dX2_depthOf_16 ?_
  refine lv_ldc2 (v := 8) hx hb hown (hts (.constantLong RX2 52 8) (by decide +kernel)) dX2_depthOf_17 ?_
  refine lv_ladd hx hb dX2_depthOf_20 ?_
  refine lv_lstore (lv' := [(5, .long ((16 * rw_.toInt64) + 8)), (3, .long ((16 * cl.toInt64) + 8)), (0, .ref (am 0)), (1, .int cl), (2, .int rw_)]) hx hb dX2_depthOf_21 hl (by decide) rfl (fun ls hl => ?_)
  refine lv_aload_n hx hb dX2_depthOf_23 rfl (lv_at hl 2 rfl) ?_
  refine lv_iconst (v := 1) hx hb dX2_depthOf_24 (by decide) ?_
  refine lv_iconst (v := 2) hx hb dX2_depthOf_25 (by decide) ?_
  refine lv_lload_n hx hb dX2_depthOf_26 rfl (lv_at hl 1 rfl) ?_
  refine lv_lload hx hb dX2_depthOf_27 (lv_at hl 0 rfl) ?_
  refine m_calll (cs := [(am 0, .inr (2, [.int (nI w), .int (nI h), .ref (am 1), .ref (am 2), .ref (am 3), .ref (am 4), .ref (am 5), .ref (am 6)])), (am 3, .inl (tm 3, 3, .inl vx)), (am 4, .inl (tm 4, 3, .inl vy))]) (wr := [(am 5, .inl (tm 5, 3, .inl vz))]) hP hD hS hA [0, 1, 2] [3] rfl rfl (by decide) (by decide) (va_runV (As := [.int 1, .int 2, .long ((16 * cl.toInt64) + 8), .long ((16 * rw_.toInt64) + 8)]) (rest := []) ⟨hx, hb, hml, hown, hts⟩ (c_X2_edge l dC dI _ am tm w h vx vy hv 1 2 1 2 (by omega) (by omega) rfl rfl ((16 * cl.toInt64) + 8) ((16 * rw_.toInt64) + 8) hbx hby) (cwV 4 hts gX2_depthOf_X2_edge rfl rfl rfl (by decide +kernel) ⟨Nat.le_of_ble_eq_true rfl, Nat.le_of_ble_eq_true rfl⟩) (m_preV (ci := 2) (q0 := 0) (hP.sub [0, 1, 2] rfl) (hK.sub [0, 1] rfl) (hD.sub [0, 1, 2] (by decide) rfl) hN rfl rfl) rfl rfl hl.1 rfl (lv_room (Nat.le_of_ble_eq_true rfl)) dX2_depthOf_29 ⟨Nat.le_of_ble_eq_true rfl, Nat.le_of_ble_eq_true rfl⟩) (fun r29 _ H locs q29 hK2 hP hD hS => ?_)
  have hP : va_P (dC, dI) vwCl [(am 0, .inr (2, [.int (nI w), .int (nI h), .ref (am 1), .ref (am 2), .ref (am 3), .ref (am 4), .ref (am 5), .ref (am 6)])), (am 3, .inl (tm 3, 3, .inl vx)), (am 4, .inl (tm 4, 3, .inl vy)), (am 5, .inl (tm 5, 3, .inl vz))] H := hP.sub [1, 2, 3, 0] rfl
  have hD : va_D A [(am 0, .inr (2, [.int (nI w), .int (nI h), .ref (am 1), .ref (am 2), .ref (am 3), .ref (am 4), .ref (am 5), .ref (am 6)])), (am 3, .inl (tm 3, 3, .inl vx)), (am 4, .inl (tm 4, 3, .inl vy)), (am 5, .inl (tm 5, 3, .inl vz))] := hD.sub [1, 2, 3, 0] (by decide) rfl
  refine lv_aload_n hx hb dX2_depthOf_32 rfl (lv_at hl 2 rfl) ?_
  refine va_get (D := (dC, dI)) (ci := 2) (v := .ref (am 5)) (C := RX2) (T := TX2) (N := 8) hx hb hts (by decide +kernel) hown hK hP 0 rfl rfl 6 (by decide) (hts (.fieldLink RX2 22 "TriangleRasterModel" "zs" "[I") (by decide +kernel)) (fun _ h9 => h9) rfl dX2_depthOf_33 ?_
  refine lv_iconst (v := 0) hx hb dX2_depthOf_36 (by decide) ?_
  refine va_iald hx hb hK hP 3 2 rfl rfl (by unfold vp_in; decide) dX2_depthOf_37 ?_
  refine lv_i2l hx hb dX2_depthOf_38 rfl ?_
  refine lv_lmul hx hb dX2_depthOf_39 ?_
  refine lv_aload_n hx hb dX2_depthOf_40 rfl (lv_at hl 2 rfl) ?_
  refine lv_iconst (v := 2) hx hb dX2_depthOf_41 (by decide) ?_
  refine lv_iconst (v := 0) hx hb dX2_depthOf_42 (by decide) ?_
  refine lv_lload_n hx hb dX2_depthOf_43 rfl (lv_at hl 1 rfl) ?_
  refine lv_lload hx hb dX2_depthOf_44 (lv_at hl 0 rfl) ?_
  refine m_calll (cs := [(am 0, .inr (2, [.int (nI w), .int (nI h), .ref (am 1), .ref (am 2), .ref (am 3), .ref (am 4), .ref (am 5), .ref (am 6)])), (am 3, .inl (tm 3, 3, .inl vx)), (am 4, .inl (tm 4, 3, .inl vy))]) (wr := [(am 5, .inl (tm 5, 3, .inl vz))]) hP hD hS hA [0, 1, 2] [3] rfl rfl (by decide) (by decide) (va_runV (As := [.int 2, .int 0, .long ((16 * cl.toInt64) + 8), .long ((16 * rw_.toInt64) + 8)]) (rest := [.long (r29 * ((vz 0).toInt64))]) ⟨hx, hb, hml, hown, hts⟩ (c_X2_edge l dC dI _ am tm w h vx vy hv 2 0 2 0 (by omega) (by omega) rfl rfl ((16 * cl.toInt64) + 8) ((16 * rw_.toInt64) + 8) hbx hby) (cwV 4 hts gX2_depthOf_X2_edge rfl rfl rfl (by decide +kernel) ⟨Nat.le_of_ble_eq_true rfl, Nat.le_of_ble_eq_true rfl⟩) (m_preV (ci := 2) (q0 := 0) (hP.sub [0, 1, 2] rfl) (hK.sub [0, 1] rfl) (hD.sub [0, 1, 2] (by decide) rfl) hN rfl rfl) rfl rfl hl.1 rfl (lv_room (Nat.le_of_ble_eq_true rfl)) dX2_depthOf_46 ⟨Nat.le_of_ble_eq_true rfl, Nat.le_of_ble_eq_true rfl⟩) (fun r46 _ H locs q46 hK2 hP hD hS => ?_)
  have hP : va_P (dC, dI) vwCl [(am 0, .inr (2, [.int (nI w), .int (nI h), .ref (am 1), .ref (am 2), .ref (am 3), .ref (am 4), .ref (am 5), .ref (am 6)])), (am 3, .inl (tm 3, 3, .inl vx)), (am 4, .inl (tm 4, 3, .inl vy)), (am 5, .inl (tm 5, 3, .inl vz))] H := hP.sub [1, 2, 3, 0] rfl
  have hD : va_D A [(am 0, .inr (2, [.int (nI w), .int (nI h), .ref (am 1), .ref (am 2), .ref (am 3), .ref (am 4), .ref (am 5), .ref (am 6)])), (am 3, .inl (tm 3, 3, .inl vx)), (am 4, .inl (tm 4, 3, .inl vy)), (am 5, .inl (tm 5, 3, .inl vz))] := hD.sub [1, 2, 3, 0] (by decide) rfl
  refine lv_aload_n hx hb dX2_depthOf_49 rfl (lv_at hl 2 rfl) ?_
  refine va_get (D := (dC, dI)) (ci := 2) (v := .ref (am 5)) (C := RX2) (T := TX2) (N := 8) hx hb hts (by decide +kernel) hown hK hP 0 rfl rfl 6 (by decide) (hts (.fieldLink RX2 22 "TriangleRasterModel" "zs" "[I") (by decide +kernel)) (fun _ h9 => h9) rfl dX2_depthOf_50 ?_
  refine lv_iconst (v := 1) hx hb dX2_depthOf_53 (by decide) ?_
  refine va_iald hx hb hK hP 3 2 rfl rfl (by unfold vp_in; decide) dX2_depthOf_54 ?_
  refine lv_i2l hx hb dX2_depthOf_55 rfl ?_
  refine lv_lmul hx hb dX2_depthOf_56 ?_
  refine lv_ladd hx hb dX2_depthOf_57 ?_
  refine lv_aload_n hx hb dX2_depthOf_58 rfl (lv_at hl 2 rfl) ?_
  refine lv_iconst (v := 0) hx hb dX2_depthOf_59 (by decide) ?_
  refine lv_iconst (v := 1) hx hb dX2_depthOf_60 (by decide) ?_
  refine lv_lload_n hx hb dX2_depthOf_61 rfl (lv_at hl 1 rfl) ?_
  refine lv_lload hx hb dX2_depthOf_62 (lv_at hl 0 rfl) ?_
  refine m_calll (cs := [(am 0, .inr (2, [.int (nI w), .int (nI h), .ref (am 1), .ref (am 2), .ref (am 3), .ref (am 4), .ref (am 5), .ref (am 6)])), (am 3, .inl (tm 3, 3, .inl vx)), (am 4, .inl (tm 4, 3, .inl vy))]) (wr := [(am 5, .inl (tm 5, 3, .inl vz))]) hP hD hS hA [0, 1, 2] [3] rfl rfl (by decide) (by decide) (va_runV (As := [.int 0, .int 1, .long ((16 * cl.toInt64) + 8), .long ((16 * rw_.toInt64) + 8)]) (rest := [.long ((r29 * ((vz 0).toInt64)) + (r46 * ((vz 1).toInt64)))]) ⟨hx, hb, hml, hown, hts⟩ (c_X2_edge l dC dI _ am tm w h vx vy hv 0 1 0 1 (by omega) (by omega) rfl rfl ((16 * cl.toInt64) + 8) ((16 * rw_.toInt64) + 8) hbx hby) (cwV 4 hts gX2_depthOf_X2_edge rfl rfl rfl (by decide +kernel) ⟨Nat.le_of_ble_eq_true rfl, Nat.le_of_ble_eq_true rfl⟩) (m_preV (ci := 2) (q0 := 0) (hP.sub [0, 1, 2] rfl) (hK.sub [0, 1] rfl) (hD.sub [0, 1, 2] (by decide) rfl) hN rfl rfl) rfl rfl hl.1 rfl (lv_room (Nat.le_of_ble_eq_true rfl)) dX2_depthOf_64 ⟨Nat.le_of_ble_eq_true rfl, Nat.le_of_ble_eq_true rfl⟩) (fun r64 _ H locs q64 hK2 hP hD hS => ?_)
  have hP : va_P (dC, dI) vwCl [(am 0, .inr (2, [.int (nI w), .int (nI h), .ref (am 1), .ref (am 2), .ref (am 3), .ref (am 4), .ref (am 5), .ref (am 6)])), (am 3, .inl (tm 3, 3, .inl vx)), (am 4, .inl (tm 4, 3, .inl vy)), (am 5, .inl (tm 5, 3, .inl vz))] H := hP.sub [1, 2, 3, 0] rfl
  have hD : va_D A [(am 0, .inr (2, [.int (nI w), .int (nI h), .ref (am 1), .ref (am 2), .ref (am 3), .ref (am 4), .ref (am 5), .ref (am 6)])), (am 3, .inl (tm 3, 3, .inl vx)), (am 4, .inl (tm 4, 3, .inl vy)), (am 5, .inl (tm 5, 3, .inl vz))] := hD.sub [1, 2, 3, 0] (by decide) rfl
  refine lv_aload_n hx hb dX2_depthOf_67 rfl (lv_at hl 2 rfl) ?_
  refine va_get (D := (dC, dI)) (ci := 2) (v := .ref (am 5)) (C := RX2) (T := TX2) (N := 8) hx hb hts (by decide +kernel) hown hK hP 0 rfl rfl 6 (by decide) (hts (.fieldLink RX2 22 "TriangleRasterModel" "zs" "[I") (by decide +kernel)) (fun _ h9 => h9) rfl dX2_depthOf_68 ?_
  refine lv_iconst (v := 2) hx hb dX2_depthOf_71 (by decide) ?_
  refine va_iald hx hb hK hP 3 2 rfl rfl (by unfold vp_in; decide) dX2_depthOf_72 ?_
  refine lv_i2l hx hb dX2_depthOf_73 rfl ?_
  refine lv_lmul hx hb dX2_depthOf_74 ?_
  refine lv_ladd hx hb dX2_depthOf_75 ?_
  refine lv_lstore (lv' := [(7, .long (((r29 * ((vz 0).toInt64)) + (r46 * ((vz 1).toInt64))) + (r64 * ((vz 2).toInt64)))), (5, .long ((16 * rw_.toInt64) + 8)), (3, .long ((16 * cl.toInt64) + 8)), (0, .ref (am 0)), (1, .int cl), (2, .int rw_)]) hx hb dX2_depthOf_76 hl (by decide) rfl (fun ls hl => ?_)
  refine lv_lload hx hb dX2_depthOf_78 (lv_at hl 0 rfl) ?_
  refine lv_aload_n hx hb dX2_depthOf_80 rfl (lv_at hl 3 rfl) ?_
  refine m_calll (cs := [(am 0, .inr (2, [.int (nI w), .int (nI h), .ref (am 1), .ref (am 2), .ref (am 3), .ref (am 4), .ref (am 5), .ref (am 6)])), (am 3, .inl (tm 3, 3, .inl vx)), (am 4, .inl (tm 4, 3, .inl vy))]) (wr := [(am 5, .inl (tm 5, 3, .inl vz))]) hP hD hS hA [0, 1, 2] [3] rfl rfl (by decide) (by decide) (va_runV (As := []) (rest := [.long (((r29 * ((vz 0).toInt64)) + (r46 * ((vz 1).toInt64))) + (r64 * ((vz 2).toInt64)))]) ⟨hx, hb, hml, hown, hts⟩ (c_X2_area l dC dI _ am tm w h vx vy hv) (cwV 0 hts gX2_depthOf_X2_area rfl rfl rfl (by decide +kernel) ⟨Nat.le_of_ble_eq_true rfl, Nat.le_of_ble_eq_true rfl⟩) (m_preV (ci := 2) (q0 := 0) (hP.sub [0, 1, 2] rfl) (hK.sub [0, 1] rfl) (hD.sub [0, 1, 2] (by decide) rfl) hN rfl rfl) rfl rfl hl.1 rfl (lv_room (Nat.le_of_ble_eq_true rfl)) dX2_depthOf_81 ⟨Nat.le_of_ble_eq_true rfl, Nat.le_of_ble_eq_true rfl⟩) (fun r81 _ H locs q81 hK2 hP hD hS => ?_)
  have hP : va_P (dC, dI) vwCl [(am 0, .inr (2, [.int (nI w), .int (nI h), .ref (am 1), .ref (am 2), .ref (am 3), .ref (am 4), .ref (am 5), .ref (am 6)])), (am 3, .inl (tm 3, 3, .inl vx)), (am 4, .inl (tm 4, 3, .inl vy)), (am 5, .inl (tm 5, 3, .inl vz))] H := hP.sub [1, 2, 3, 0] rfl
  have hD : va_D A [(am 0, .inr (2, [.int (nI w), .int (nI h), .ref (am 1), .ref (am 2), .ref (am 3), .ref (am 4), .ref (am 5), .ref (am 6)])), (am 3, .inl (tm 3, 3, .inl vx)), (am 4, .inl (tm 4, 3, .inl vy)), (am 5, .inl (tm 5, 3, .inl vz))] := hD.sub [1, 2, 3, 0] (by decide) rfl
  have h0 : ¬ r81 = 0 := fun h => by
    have e := q81
    rw [h, Int64.toInt_zero] at e
    rcases hC with q | q <;> (have := q.1; omega)
  refine lv_ldiv hx hb dX2_depthOf_84 h0 ?_
  refine lv_l2i hx hb dX2_depthOf_85 rfl ?_
  have hP9 := hP.sub (ws' := [(am 0, .inr (2, [.int (nI w), .int (nI h), .ref (am 1), .ref (am 2), .ref (am 3), .ref (am 4), .ref (am 5), .ref (am 6)])), (am 3, .inl (tm 3, 3, .inl vx)), (am 4, .inl (tm 4, 3, .inl vy)), (am 5, .inl (tm 5, 3, .inl vz))]) [0, 1, 2, 3] rfl
  have hD9 := hD.sub (ws' := [(am 0, .inr (2, [.int (nI w), .int (nI h), .ref (am 1), .ref (am 2), .ref (am 3), .ref (am 4), .ref (am 5), .ref (am 6)])), (am 3, .inl (tm 3, 3, .inl vx)), (am 4, .inl (tm 4, 3, .inl vy)), (am 5, .inl (tm 5, 3, .inl vz))]) [0, 1, 2, 3] (by decide) rfl
  exact W.iret (v := (((((r29 * ((vz 0).toInt64)) + (r46 * ((vz 1).toInt64))) + (r64 * ((vz 2).toInt64))) / r81).toInt32)) hx hb hr (fun t ht hW => ⟨⟨((((r29 * ((vz 0).toInt64)) + (r46 * ((vz 1).toInt64))) + (r64 * ((vz 2).toInt64))) / r81).toInt32, (), rfl, by rw [epx, epy] at q29 q46 q64; exact dep_val (W0 := EE vx vy 1 2 cl.toInt rw_.toInt) (W1 := EE vx vy 2 0 cl.toInt rw_.toInt) (W2 := EE vx vy 0 1 cl.toInt rw_.toInt) q29 q46 q64 q81 (EE_b hv (by omega) (by omega) hcl hrw) (EE_b hv (by omega) (by omega) hcl hrw) (EE_b hv (by omega) (by omega) hcl hrw) (hz 0 (by omega)) (hz 1 (by omega)) (hz 2 (by omega)) (DPT_b hz hC), by rw [ht]; exact hP9, va_K.moved hW.alike hK, hD9⟩, hS.F ht⟩) hS.2.2 dX2_depthOf_86

set_option maxHeartbeats 1000000 in
set_option maxRecDepth 100000 in
/-- covers -/
theorem c_X2_covers (l : Launch) (dC : Nat → ClassId) (dI : Nat → Nat → Nat) (sz : Nat) (am : Nat → Nat) (tm : Nat → ClassId) (w h : Nat) (vx vy : Nat → Int32) (hv : vb vx vy) (cl rw_ : Int32) : Met l yX2_covers wsX2_covers ({ frames := 3, cells := 0, slots := 0, locals := 82 }) (mP (dC, dI) vwCl [(tm 3, .int), (tm 4, .int)] [(am 0, .inr (2, [.int (nI w), .int (nI h), .ref (am 1), .ref (am 2), .ref (am 3), .ref (am 4), .ref (am 5), .ref (am 6)])), (am 3, .inl (tm 3, 3, .inl vx)), (am 4, .inl (tm 4, 3, .inl vy))] sz [.ref (am 0), .int cl, .int rw_]) (va_Qi (fun (r : Int32) (u : Unit) => ((NEAR cl rw_ ∧ COV vx vy cl.toInt rw_.toInt) ∧ r = 1) ∨ (¬ (NEAR cl rw_ ∧ COV vx vy cl.toInt rw_.toInt) ∧ r = 0)) (mB (dC, dI) vwCl [(tm 3, .int), (tm 4, .int)] (va_A [(am 0, .inr (2, [.int (nI w), .int (nI h), .ref (am 1), .ref (am 2), .ref (am 3), .ref (am 4), .ref (am 5), .ref (am 6)])), (am 3, .inl (tm 3, 3, .inl vx)), (am 4, .inl (tm 4, 3, .inl vy))] sz) (fun u => [(am 0, .inr (2, [.int (nI w), .int (nI h), .ref (am 1), .ref (am 2), .ref (am 3), .ref (am 4), .ref (am 5), .ref (am 6)])), (am 3, .inl (tm 3, 3, .inl vx)), (am 4, .inl (tm 4, 3, .inl vy))])) (va_A [(am 0, .inr (2, [.int (nI w), .int (nI h), .ref (am 1), .ref (am 2), .ref (am 3), .ref (am 4), .ref (am 5), .ref (am 6)])), (am 3, .inl (tm 3, 3, .inl vx)), (am 4, .inl (tm 4, 3, .inl vy))] sz)) 0 0 (va_A [(am 0, .inr (2, [.int (nI w), .int (nI h), .ref (am 1), .ref (am 2), .ref (am 3), .ref (am 4), .ref (am 5), .ref (am 6)])), (am 3, .inl (tm 3, 3, .inl vx)), (am 4, .inl (tm 4, 3, .inl vy))] sz) := by
  refine Met.ofW (cc := cX2_covers) (maxL := 4) (ret := (some .boolean)) (by decide) rfl ?_
  intro p e s m args below meth cD s₁ B hml hv
  obtain ⟨rfl, hsz, hP, hK, hD0, hN⟩ := hv
  have hx := B.exec
  have hb := B.bytes
  have hr := B.returns
  have hts := atoms_spec (ws := wsX2_covers) B.pre
  have hown : s.vm.findClass RX2 = some m.cls := findClass_of_methodNamed B.named
  have hlocks := B.notSynchronized
  subst hsz
  have hD := hD0.self (sz := s.heap.size)
  generalize hAe : va_A [(am 0, .inr (2, [.int (nI w), .int (nI h), .ref (am 1), .ref (am 2), .ref (am 3), .ref (am 4), .ref (am 5), .ref (am 6)])), (am 3, .inl (tm 3, 3, .inl vx)), (am 4, .inl (tm 4, 3, .inl vy))] s.heap.size = A at hD ⊢
  have hA : ∀ q : Nat, s.heap.size ≤ q → A q := fun q h => by rw [← hAe]; exact Or.inr h
  have hS : va_S A s.heap s.heap [] := va_S.rf
  have hP : va_P (dC, dI) vwCl [(am 0, .inr (2, [.int (nI w), .int (nI h), .ref (am 1), .ref (am 2), .ref (am 3), .ref (am 4), .ref (am 5), .ref (am 6)])), (am 3, .inl (tm 3, 3, .inl vx)), (am 4, .inl (tm 4, 3, .inl vy))] s.heap := hP
  have hl := lv_entry ([.ref (am 0), .int cl, .int rw_]) (n := 4) (Nat.le_of_ble_eq_true rfl)
  rw [lg_entry_eq]
  generalize (lg_sl ([.ref (am 0), .int cl, .int rw_]) ++ List.replicate (4 - (lg_sl ([.ref (am 0), .int cl, .int rw_])).length) Slot.unset).toArray = ls at hl ⊢
  have hl : lv_has ls 4 [(0, .ref (am 0)), (1, .int cl), (2, .int rw_)] := hl
  have e1 : (-2000 : Int32).toInt = -2000 := by decide
  have e2 : (2000 : Int32).toInt = 2000 := by decide
  refine lv_iload_n hx hb dX2_covers_0 rfl (lv_at hl 1 rfl) ?_
  refine lv_sipush (v := (-2000)) hx hb dX2_covers_1 (by decide) ?_
  refine lv_icmp_lt (tgt := 32) hx hb dX2_covers_4 (by decide) (fun c4 => ?_) (fun c4 => ?_)
  · refine lv_iconst (v := 0) hx hb dX2_covers_32 (by decide) ?_
    refine lv_istore_n (lv' := [(3, .int 0), (0, .ref (am 0)), (1, .int cl), (2, .int rw_)]) hx hb dX2_covers_33 rfl hl (by decide) rfl (fun ls hl => ?_)
    refine lv_iload_n hx hb dX2_covers_34 rfl (lv_at hl 0 rfl) ?_
    refine lv_if_eq (tgt := 51) hx hb dX2_covers_35 (by decide) (fun c35 => ?_) (fun c35 => ?_)
    · refine lv_iconst (v := 0) hx hb dX2_covers_51 (by decide) ?_
      have hP9 := hP.sub (ws' := [(am 0, .inr (2, [.int (nI w), .int (nI h), .ref (am 1), .ref (am 2), .ref (am 3), .ref (am 4), .ref (am 5), .ref (am 6)])), (am 3, .inl (tm 3, 3, .inl vx)), (am 4, .inl (tm 4, 3, .inl vy))]) [0, 1, 2] rfl
      have hD9 := hD.sub (ws' := [(am 0, .inr (2, [.int (nI w), .int (nI h), .ref (am 1), .ref (am 2), .ref (am 3), .ref (am 4), .ref (am 5), .ref (am 6)])), (am 3, .inl (tm 3, 3, .inl vx)), (am 4, .inl (tm 4, 3, .inl vy))]) [0, 1, 2] (by decide) rfl
      exact W.zret (v := 0) hx hb hr rfl (fun t ht hW => ⟨⟨0, (), rfl, Or.inr ⟨fun h => by have g := h.1; unfold NEAR at g; simp only [Int32.lt_iff_toInt_lt] at c4; omega, rfl⟩, by rw [ht]; exact hP9, va_K.moved hW.alike hK, hD9⟩, hS.F ht⟩) hS.2.2 dX2_covers_52
    · exact absurd c35 (by decide)
  · refine lv_iload_n hx hb dX2_covers_7 rfl (lv_at hl 1 rfl) ?_
    refine lv_sipush (v := 2000) hx hb dX2_covers_8 (by decide) ?_
    refine lv_icmp_gt (tgt := 32) hx hb dX2_covers_11 (by decide) (fun c11 => ?_) (fun c11 => ?_)
    · refine lv_iconst (v := 0) hx hb dX2_covers_32 (by decide) ?_
      refine lv_istore_n (lv' := [(3, .int 0), (0, .ref (am 0)), (1, .int cl), (2, .int rw_)]) hx hb dX2_covers_33 rfl hl (by decide) rfl (fun ls hl => ?_)
      refine lv_iload_n hx hb dX2_covers_34 rfl (lv_at hl 0 rfl) ?_
      refine lv_if_eq (tgt := 51) hx hb dX2_covers_35 (by decide) (fun c35 => ?_) (fun c35 => ?_)
      · refine lv_iconst (v := 0) hx hb dX2_covers_51 (by decide) ?_
        have hP9 := hP.sub (ws' := [(am 0, .inr (2, [.int (nI w), .int (nI h), .ref (am 1), .ref (am 2), .ref (am 3), .ref (am 4), .ref (am 5), .ref (am 6)])), (am 3, .inl (tm 3, 3, .inl vx)), (am 4, .inl (tm 4, 3, .inl vy))]) [0, 1, 2] rfl
        have hD9 := hD.sub (ws' := [(am 0, .inr (2, [.int (nI w), .int (nI h), .ref (am 1), .ref (am 2), .ref (am 3), .ref (am 4), .ref (am 5), .ref (am 6)])), (am 3, .inl (tm 3, 3, .inl vx)), (am 4, .inl (tm 4, 3, .inl vy))]) [0, 1, 2] (by decide) rfl
        exact W.zret (v := 0) hx hb hr rfl (fun t ht hW => ⟨⟨0, (), rfl, Or.inr ⟨fun h => by have g := h.1; unfold NEAR at g; simp only [Int32.lt_iff_toInt_lt] at c4 c11; omega, rfl⟩, by rw [ht]; exact hP9, va_K.moved hW.alike hK, hD9⟩, hS.F ht⟩) hS.2.2 dX2_covers_52
      · exact absurd c35 (by decide)
    · refine lv_iload_n hx hb dX2_covers_14 rfl (lv_at hl 2 rfl) ?_
      refine lv_sipush (v := (-2000)) hx hb dX2_covers_15 (by decide) ?_
      refine lv_icmp_lt (tgt := 32) hx hb dX2_covers_18 (by decide) (fun c18 => ?_) (fun c18 => ?_)
      · refine lv_iconst (v := 0) hx hb dX2_covers_32 (by decide) ?_
        refine lv_istore_n (lv' := [(3, .int 0), (0, .ref (am 0)), (1, .int cl), (2, .int rw_)]) hx hb dX2_covers_33 rfl hl (by decide) rfl (fun ls hl => ?_)
        refine lv_iload_n hx hb dX2_covers_34 rfl (lv_at hl 0 rfl) ?_
        refine lv_if_eq (tgt := 51) hx hb dX2_covers_35 (by decide) (fun c35 => ?_) (fun c35 => ?_)
        · refine lv_iconst (v := 0) hx hb dX2_covers_51 (by decide) ?_
          have hP9 := hP.sub (ws' := [(am 0, .inr (2, [.int (nI w), .int (nI h), .ref (am 1), .ref (am 2), .ref (am 3), .ref (am 4), .ref (am 5), .ref (am 6)])), (am 3, .inl (tm 3, 3, .inl vx)), (am 4, .inl (tm 4, 3, .inl vy))]) [0, 1, 2] rfl
          have hD9 := hD.sub (ws' := [(am 0, .inr (2, [.int (nI w), .int (nI h), .ref (am 1), .ref (am 2), .ref (am 3), .ref (am 4), .ref (am 5), .ref (am 6)])), (am 3, .inl (tm 3, 3, .inl vx)), (am 4, .inl (tm 4, 3, .inl vy))]) [0, 1, 2] (by decide) rfl
          exact W.zret (v := 0) hx hb hr rfl (fun t ht hW => ⟨⟨0, (), rfl, Or.inr ⟨fun h => by have g := h.1; unfold NEAR at g; simp only [Int32.lt_iff_toInt_lt] at c4 c11 c18; omega, rfl⟩, by rw [ht]; exact hP9, va_K.moved hW.alike hK, hD9⟩, hS.F ht⟩) hS.2.2 dX2_covers_52
        · exact absurd c35 (by decide)
      · refine lv_iload_n hx hb dX2_covers_21 rfl (lv_at hl 2 rfl) ?_
        refine lv_sipush (v := 2000) hx hb dX2_covers_22 (by decide) ?_
        refine lv_icmp_gt (tgt := 32) hx hb dX2_covers_25 (by decide) (fun c25 => ?_) (fun c25 => ?_)
        · refine lv_iconst (v := 0) hx hb dX2_covers_32 (by decide) ?_
          refine lv_istore_n (lv' := [(3, .int 0), (0, .ref (am 0)), (1, .int cl), (2, .int rw_)]) hx hb dX2_covers_33 rfl hl (by decide) rfl (fun ls hl => ?_)
          refine lv_iload_n hx hb dX2_covers_34 rfl (lv_at hl 0 rfl) ?_
          refine lv_if_eq (tgt := 51) hx hb dX2_covers_35 (by decide) (fun c35 => ?_) (fun c35 => ?_)
          · refine lv_iconst (v := 0) hx hb dX2_covers_51 (by decide) ?_
            have hP9 := hP.sub (ws' := [(am 0, .inr (2, [.int (nI w), .int (nI h), .ref (am 1), .ref (am 2), .ref (am 3), .ref (am 4), .ref (am 5), .ref (am 6)])), (am 3, .inl (tm 3, 3, .inl vx)), (am 4, .inl (tm 4, 3, .inl vy))]) [0, 1, 2] rfl
            have hD9 := hD.sub (ws' := [(am 0, .inr (2, [.int (nI w), .int (nI h), .ref (am 1), .ref (am 2), .ref (am 3), .ref (am 4), .ref (am 5), .ref (am 6)])), (am 3, .inl (tm 3, 3, .inl vx)), (am 4, .inl (tm 4, 3, .inl vy))]) [0, 1, 2] (by decide) rfl
            exact W.zret (v := 0) hx hb hr rfl (fun t ht hW => ⟨⟨0, (), rfl, Or.inr ⟨fun h => by have g := h.1; unfold NEAR at g; simp only [Int32.lt_iff_toInt_lt] at c4 c11 c18 c25; omega, rfl⟩, by rw [ht]; exact hP9, va_K.moved hW.alike hK, hD9⟩, hS.F ht⟩) hS.2.2 dX2_covers_52
          · exact absurd c35 (by decide)
        · refine lv_iconst (v := 1) hx hb dX2_covers_28 (by decide) ?_
          refine lv_goto (tgt := 33) hx hb dX2_covers_29 (by decide) ?_
          refine lv_istore_n (lv' := [(3, .int 1), (0, .ref (am 0)), (1, .int cl), (2, .int rw_)]) hx hb dX2_covers_33 rfl hl (by decide) rfl (fun ls hl => ?_)
          refine lv_iload_n hx hb dX2_covers_34 rfl (lv_at hl 0 rfl) ?_
          refine lv_if_eq (tgt := 51) hx hb dX2_covers_35 (by decide) (fun c35 => ?_) (fun c35 => ?_)
          · exact absurd c35 (by decide)
          · have hNr : NEAR cl rw_ := by
              unfold NEAR; simp only [Int32.lt_iff_toInt_lt] at c4 c11 c18 c25; omega
            have b1 : cl.toInt.natAbs ≤ 2000 := by have := hNr.1; omega
            have b2 : rw_.toInt.natAbs ≤ 2000 := by have := hNr.2; omega
            refine lv_aload_n hx hb dX2_covers_38 rfl (lv_at hl 1 rfl) ?_
            refine lv_iload_n hx hb dX2_covers_39 rfl (lv_at hl 2 rfl) ?_
            refine lv_iload_n hx hb dX2_covers_40 rfl (lv_at hl 3 rfl) ?_
            refine m_calli (cs := [(am 0, .inr (2, [.int (nI w), .int (nI h), .ref (am 1), .ref (am 2), .ref (am 3), .ref (am 4), .ref (am 5), .ref (am 6)])), (am 3, .inl (tm 3, 3, .inl vx)), (am 4, .inl (tm 4, 3, .inl vy))]) (wr := []) hP hD hS hA [0, 1, 2] [] rfl rfl (by decide) (by decide) (va_runV (As := [.int cl, .int rw_]) (rest := []) ⟨hx, hb, hml, hown, hts⟩ (c_X2_isCovered l dC dI _ am tm w h vx vy hv cl rw_ b1 b2) (cwV 2 hts gX2_covers_X2_isCovered rfl rfl rfl (by decide +kernel) ⟨Nat.le_of_ble_eq_true rfl, Nat.le_of_ble_eq_true rfl⟩) (m_preV (ci := 2) (q0 := 0) (hP.sub [0, 1, 2] rfl) (hK.sub [0, 1] rfl) (hD.sub [0, 1, 2] (by decide) rfl) hN rfl rfl) rfl rfl hl.1 rfl (lv_room (Nat.le_of_ble_eq_true rfl)) dX2_covers_41 ⟨Nat.le_of_ble_eq_true rfl, Nat.le_of_ble_eq_true rfl⟩) (fun r41 _ H locs q41 hK2 hP hD hS => ?_)
            have hP : va_P (dC, dI) vwCl [(am 0, .inr (2, [.int (nI w), .int (nI h), .ref (am 1), .ref (am 2), .ref (am 3), .ref (am 4), .ref (am 5), .ref (am 6)])), (am 3, .inl (tm 3, 3, .inl vx)), (am 4, .inl (tm 4, 3, .inl vy))] H := hP.sub [0, 1, 2] rfl
            have hD : va_D A [(am 0, .inr (2, [.int (nI w), .int (nI h), .ref (am 1), .ref (am 2), .ref (am 3), .ref (am 4), .ref (am 5), .ref (am 6)])), (am 3, .inl (tm 3, 3, .inl vx)), (am 4, .inl (tm 4, 3, .inl vy))] := hD.sub [0, 1, 2] (by decide) rfl
            refine lv_if_eq (tgt := 51) hx hb dX2_covers_44 (by decide) (fun c44 => ?_) (fun c44 => ?_)
            · refine lv_iconst (v := 0) hx hb dX2_covers_51 (by decide) ?_
              have hP9 := hP.sub (ws' := [(am 0, .inr (2, [.int (nI w), .int (nI h), .ref (am 1), .ref (am 2), .ref (am 3), .ref (am 4), .ref (am 5), .ref (am 6)])), (am 3, .inl (tm 3, 3, .inl vx)), (am 4, .inl (tm 4, 3, .inl vy))]) [0, 1, 2] rfl
              have hD9 := hD.sub (ws' := [(am 0, .inr (2, [.int (nI w), .int (nI h), .ref (am 1), .ref (am 2), .ref (am 3), .ref (am 4), .ref (am 5), .ref (am 6)])), (am 3, .inl (tm 3, 3, .inl vx)), (am 4, .inl (tm 4, 3, .inl vy))]) [0, 1, 2] (by decide) rfl
              exact W.zret (v := 0) hx hb hr rfl (fun t ht hW => ⟨⟨0, (), rfl, Or.inr ⟨fun h => (b01 q41).mp c44 h.2, rfl⟩, by rw [ht]; exact hP9, va_K.moved hW.alike hK, hD9⟩, hS.F ht⟩) hS.2.2 dX2_covers_52
            · refine lv_iconst (v := 1) hx hb dX2_covers_47 (by decide) ?_
              refine lv_goto (tgt := 52) hx hb dX2_covers_48 (by decide) ?_
              have hP9 := hP.sub (ws' := [(am 0, .inr (2, [.int (nI w), .int (nI h), .ref (am 1), .ref (am 2), .ref (am 3), .ref (am 4), .ref (am 5), .ref (am 6)])), (am 3, .inl (tm 3, 3, .inl vx)), (am 4, .inl (tm 4, 3, .inl vy))]) [0, 1, 2] rfl
              have hD9 := hD.sub (ws' := [(am 0, .inr (2, [.int (nI w), .int (nI h), .ref (am 1), .ref (am 2), .ref (am 3), .ref (am 4), .ref (am 5), .ref (am 6)])), (am 3, .inl (tm 3, 3, .inl vx)), (am 4, .inl (tm 4, 3, .inl vy))]) [0, 1, 2] (by decide) rfl
              exact W.zret (v := 1) hx hb hr rfl (fun t ht hW => ⟨⟨1, (), rfl, Or.inl ⟨⟨hNr, Classical.byContradiction (fun h => c44 ((b01 q41).mpr h))⟩, rfl⟩, by rw [ht]; exact hP9, va_K.moved hW.alike hK, hD9⟩, hS.F ht⟩) hS.2.2 dX2_covers_52

set_option maxHeartbeats 1000000 in
set_option maxRecDepth 100000 in
/-- pixel -/
theorem c_X2_pixel (l : Launch) (dC : Nat → ClassId) (dI : Nat → Nat → Nat) (sz : Nat) (am : Nat → Nat) (tm : Nat → ClassId) (w h : Nat) (mc : Nat → Int32) (hw1 : 1 ≤ w) (hw2 : w ≤ 24) (hh1 : 1 ≤ h) (hh2 : h ≤ 24) (x y : Int32) : Met l yX2_pixel wsX2_pixel ({ frames := 1, cells := 0, slots := 0, locals := 22 }) (mP (dC, dI) vwCl [(tm 1, .int)] [(am 0, .inr (2, [.int (nI w), .int (nI h), .ref (am 1), .ref (am 2), .ref (am 3), .ref (am 4), .ref (am 5), .ref (am 6)])), (am 1, .inl (tm 1, 576, .inl mc))] sz [.ref (am 0), .int x, .int y]) (va_Qi (fun (r : Int32) (u : Unit) => (inX w h x y ∧ r = ab w mc (lin w x y)) ∨ (¬ inX w h x y ∧ r = -1)) (mB (dC, dI) vwCl [(tm 1, .int)] (va_A [(am 0, .inr (2, [.int (nI w), .int (nI h), .ref (am 1), .ref (am 2), .ref (am 3), .ref (am 4), .ref (am 5), .ref (am 6)])), (am 1, .inl (tm 1, 576, .inl mc))] sz) (fun u => [(am 0, .inr (2, [.int (nI w), .int (nI h), .ref (am 1), .ref (am 2), .ref (am 3), .ref (am 4), .ref (am 5), .ref (am 6)])), (am 1, .inl (tm 1, 576, .inl mc))])) (va_A [(am 0, .inr (2, [.int (nI w), .int (nI h), .ref (am 1), .ref (am 2), .ref (am 3), .ref (am 4), .ref (am 5), .ref (am 6)])), (am 1, .inl (tm 1, 576, .inl mc))] sz)) 0 0 (va_A [(am 0, .inr (2, [.int (nI w), .int (nI h), .ref (am 1), .ref (am 2), .ref (am 3), .ref (am 4), .ref (am 5), .ref (am 6)])), (am 1, .inl (tm 1, 576, .inl mc))] sz) := by
  refine Met.ofW (cc := cX2_pixel) (maxL := 3) (ret := (some .int)) (by decide) rfl ?_
  intro p e s m args below meth cD s₁ B hml hv
  obtain ⟨rfl, hsz, hP, hK, hD0, hN⟩ := hv
  have hx := B.exec
  have hb := B.bytes
  have hr := B.returns
  have hts := atoms_spec (ws := wsX2_pixel) B.pre
  have hown : s.vm.findClass RX2 = some m.cls := findClass_of_methodNamed B.named
  have hlocks := B.notSynchronized
  subst hsz
  have hD := hD0.self (sz := s.heap.size)
  generalize hAe : va_A [(am 0, .inr (2, [.int (nI w), .int (nI h), .ref (am 1), .ref (am 2), .ref (am 3), .ref (am 4), .ref (am 5), .ref (am 6)])), (am 1, .inl (tm 1, 576, .inl mc))] s.heap.size = A at hD ⊢
  have hA : ∀ q : Nat, s.heap.size ≤ q → A q := fun q h => by rw [← hAe]; exact Or.inr h
  have hS : va_S A s.heap s.heap [] := va_S.rf
  have hP : va_P (dC, dI) vwCl [(am 0, .inr (2, [.int (nI w), .int (nI h), .ref (am 1), .ref (am 2), .ref (am 3), .ref (am 4), .ref (am 5), .ref (am 6)])), (am 1, .inl (tm 1, 576, .inl mc))] s.heap := hP
  have hl := lv_entry ([.ref (am 0), .int x, .int y]) (n := 3) (Nat.le_of_ble_eq_true rfl)
  rw [lg_entry_eq]
  generalize (lg_sl ([.ref (am 0), .int x, .int y]) ++ List.replicate (3 - (lg_sl ([.ref (am 0), .int x, .int y])).length) Slot.unset).toArray = ls at hl ⊢
  have hl : lv_has ls 3 [(0, .ref (am 0)), (1, .int x), (2, .int y)] := hl
  refine lv_aload_n hx hb dX2_pixel_0 rfl (lv_at hl 0 rfl) ?_
  refine lv_iload_n hx hb dX2_pixel_1 rfl (lv_at hl 1 rfl) ?_
  refine lv_iload_n hx hb dX2_pixel_2 rfl (lv_at hl 2 rfl) ?_
  refine m_calli (cs := [(am 0, .inr (2, [.int (nI w), .int (nI h), .ref (am 1), .ref (am 2), .ref (am 3), .ref (am 4), .ref (am 5), .ref (am 6)]))]) (wr := [(am 1, .inl (tm 1, 576, .inl mc))]) hP hD hS hA [0] [1] rfl rfl (by decide) (by decide) (va_runV (As := [.int x, .int y]) (rest := []) ⟨hx, hb, hml, hown, hts⟩ (c_X2_isPixel l dC dI _ am w h hw1 hw2 hh1 hh2 x y) (cwV 2 hts gX2_pixel_X2_isPixel rfl rfl rfl (by decide +kernel) ⟨Nat.le_of_ble_eq_true rfl, Nat.le_of_ble_eq_true rfl⟩) (m_preV (ci := 2) (q0 := 0) (hP.sub [0] rfl) (hK.sub [] rfl) (hD.sub [0] (by decide) rfl) hN rfl rfl) rfl rfl hl.1 rfl (lv_room (Nat.le_of_ble_eq_true rfl)) dX2_pixel_3 ⟨Nat.le_of_ble_eq_true rfl, Nat.le_of_ble_eq_true rfl⟩) (fun r3 _ H locs q3 hK2 hP hD hS => ?_)
  have hP : va_P (dC, dI) vwCl [(am 0, .inr (2, [.int (nI w), .int (nI h), .ref (am 1), .ref (am 2), .ref (am 3), .ref (am 4), .ref (am 5), .ref (am 6)])), (am 1, .inl (tm 1, 576, .inl mc))] H := hP.sub [1, 0] rfl
  have hD : va_D A [(am 0, .inr (2, [.int (nI w), .int (nI h), .ref (am 1), .ref (am 2), .ref (am 3), .ref (am 4), .ref (am 5), .ref (am 6)])), (am 1, .inl (tm 1, 576, .inl mc))] := hD.sub [1, 0] (by decide) rfl
  refine lv_if_eq (tgt := 23) hx hb dX2_pixel_6 (by decide) (fun c6 => ?_) (fun c6 => ?_)
  · refine lv_iconst (v := (-1)) hx hb dX2_pixel_23 (by decide) ?_
    have hP9 := hP.sub (ws' := [(am 0, .inr (2, [.int (nI w), .int (nI h), .ref (am 1), .ref (am 2), .ref (am 3), .ref (am 4), .ref (am 5), .ref (am 6)])), (am 1, .inl (tm 1, 576, .inl mc))]) [0, 1] rfl
    have hD9 := hD.sub (ws' := [(am 0, .inr (2, [.int (nI w), .int (nI h), .ref (am 1), .ref (am 2), .ref (am 3), .ref (am 4), .ref (am 5), .ref (am 6)])), (am 1, .inl (tm 1, 576, .inl mc))]) [0, 1] (by decide) rfl
    exact W.iret (v := (-1)) hx hb hr (fun t ht hW => ⟨⟨(-1), (), rfl, Or.inr ⟨(b01 q3).mp c6, rfl⟩, by rw [ht]; exact hP9, va_K.moved hW.alike hK, hD9⟩, hS.F ht⟩) hS.2.2 dX2_pixel_24
  · have hin := Classical.byContradiction (fun h => c6 ((b01 q3).mpr h))
    refine lv_aload_n hx hb dX2_pixel_9 rfl (lv_at hl 0 rfl) ?_
    refine va_get (D := (dC, dI)) (ci := 2) (v := .ref (am 1)) (C := RX2) (T := TX2) (N := 8) hx hb hts (by decide +kernel) hown hK hP 0 rfl rfl 2 (by decide) (hts (.fieldLink RX2 7 "TriangleRasterModel" "colours" "[I") (by decide +kernel)) (fun _ h9 => h9) rfl dX2_pixel_10 ?_
    refine lv_bipush (v := 24) hx hb dX2_pixel_13 (by decide) ?_
    refine lv_iload_n hx hb dX2_pixel_15 rfl (lv_at hl 2 rfl) ?_
    refine lv_imul hx hb dX2_pixel_16 ?_
    refine lv_iload_n hx hb dX2_pixel_17 rfl (lv_at hl 1 rfl) ?_
    refine lv_iadd hx hb dX2_pixel_18 ?_
    refine lv_topi (fun zz ezz => ?_)
    obtain rfl : zz = nI (24 * y.toInt.toNat + x.toInt.toNat) := ezz.trans (ix24X hin)
    have hlt : 24 * y.toInt.toNat + x.toInt.toNat < 576 := by have g := hin; unfold inX at g; omega
    refine va_iald hx hb hK hP 1 0 rfl rfl (vp_in_nI hlt (by omega)) dX2_pixel_19 ?_
    refine lv_goto (tgt := 24) hx hb dX2_pixel_20 (by decide) ?_
    have hP9 := hP.sub (ws' := [(am 0, .inr (2, [.int (nI w), .int (nI h), .ref (am 1), .ref (am 2), .ref (am 3), .ref (am 4), .ref (am 5), .ref (am 6)])), (am 1, .inl (tm 1, 576, .inl mc))]) [0, 1] rfl
    have hD9 := hD.sub (ws' := [(am 0, .inr (2, [.int (nI w), .int (nI h), .ref (am 1), .ref (am 2), .ref (am 3), .ref (am 4), .ref (am 5), .ref (am 6)])), (am 1, .inl (tm 1, 576, .inl mc))]) [0, 1] (by decide) rfl
    exact W.iret (v := (mc (nI (24 * y.toInt.toNat + x.toInt.toNat)).toNatClampNeg)) hx hb hr (fun t ht hW => ⟨⟨mc (nI (24 * y.toInt.toNat + x.toInt.toNat)).toNatClampNeg, (), rfl, Or.inl ⟨hin, by rw [ab_lin hin, nI_clamp (by omega)]⟩, by rw [ht]; exact hP9, va_K.moved hW.alike hK, hD9⟩, hS.F ht⟩) hS.2.2 dX2_pixel_24

set_option maxHeartbeats 1000000 in
set_option maxRecDepth 100000 in
/-- depthAt -/
theorem c_X2_depthAt (l : Launch) (dC : Nat → ClassId) (dI : Nat → Nat → Nat) (sz : Nat) (am : Nat → Nat) (tm : Nat → ClassId) (w h : Nat) (md : Nat → Int32) (hw1 : 1 ≤ w) (hw2 : w ≤ 24) (hh1 : 1 ≤ h) (hh2 : h ≤ 24) (x y : Int32) : Met l yX2_depthAt wsX2_depthAt ({ frames := 1, cells := 0, slots := 0, locals := 22 }) (mP (dC, dI) vwCl [(tm 2, .int)] [(am 0, .inr (2, [.int (nI w), .int (nI h), .ref (am 1), .ref (am 2), .ref (am 3), .ref (am 4), .ref (am 5), .ref (am 6)])), (am 2, .inl (tm 2, 576, .inl md))] sz [.ref (am 0), .int x, .int y]) (va_Qi (fun (r : Int32) (u : Unit) => (inX w h x y ∧ r = ab w md (lin w x y)) ∨ (¬ inX w h x y ∧ r = -1)) (mB (dC, dI) vwCl [(tm 2, .int)] (va_A [(am 0, .inr (2, [.int (nI w), .int (nI h), .ref (am 1), .ref (am 2), .ref (am 3), .ref (am 4), .ref (am 5), .ref (am 6)])), (am 2, .inl (tm 2, 576, .inl md))] sz) (fun u => [(am 0, .inr (2, [.int (nI w), .int (nI h), .ref (am 1), .ref (am 2), .ref (am 3), .ref (am 4), .ref (am 5), .ref (am 6)])), (am 2, .inl (tm 2, 576, .inl md))])) (va_A [(am 0, .inr (2, [.int (nI w), .int (nI h), .ref (am 1), .ref (am 2), .ref (am 3), .ref (am 4), .ref (am 5), .ref (am 6)])), (am 2, .inl (tm 2, 576, .inl md))] sz)) 0 0 (va_A [(am 0, .inr (2, [.int (nI w), .int (nI h), .ref (am 1), .ref (am 2), .ref (am 3), .ref (am 4), .ref (am 5), .ref (am 6)])), (am 2, .inl (tm 2, 576, .inl md))] sz) := by
  refine Met.ofW (cc := cX2_depthAt) (maxL := 3) (ret := (some .int)) (by decide) rfl ?_
  intro p e s m args below meth cD s₁ B hml hv
  obtain ⟨rfl, hsz, hP, hK, hD0, hN⟩ := hv
  have hx := B.exec
  have hb := B.bytes
  have hr := B.returns
  have hts := atoms_spec (ws := wsX2_depthAt) B.pre
  have hown : s.vm.findClass RX2 = some m.cls := findClass_of_methodNamed B.named
  have hlocks := B.notSynchronized
  subst hsz
  have hD := hD0.self (sz := s.heap.size)
  generalize hAe : va_A [(am 0, .inr (2, [.int (nI w), .int (nI h), .ref (am 1), .ref (am 2), .ref (am 3), .ref (am 4), .ref (am 5), .ref (am 6)])), (am 2, .inl (tm 2, 576, .inl md))] s.heap.size = A at hD ⊢
  have hA : ∀ q : Nat, s.heap.size ≤ q → A q := fun q h => by rw [← hAe]; exact Or.inr h
  have hS : va_S A s.heap s.heap [] := va_S.rf
  have hP : va_P (dC, dI) vwCl [(am 0, .inr (2, [.int (nI w), .int (nI h), .ref (am 1), .ref (am 2), .ref (am 3), .ref (am 4), .ref (am 5), .ref (am 6)])), (am 2, .inl (tm 2, 576, .inl md))] s.heap := hP
  have hl := lv_entry ([.ref (am 0), .int x, .int y]) (n := 3) (Nat.le_of_ble_eq_true rfl)
  rw [lg_entry_eq]
  generalize (lg_sl ([.ref (am 0), .int x, .int y]) ++ List.replicate (3 - (lg_sl ([.ref (am 0), .int x, .int y])).length) Slot.unset).toArray = ls at hl ⊢
  have hl : lv_has ls 3 [(0, .ref (am 0)), (1, .int x), (2, .int y)] := hl
  refine lv_aload_n hx hb dX2_depthAt_0 rfl (lv_at hl 0 rfl) ?_
  refine lv_iload_n hx hb dX2_depthAt_1 rfl (lv_at hl 1 rfl) ?_
  refine lv_iload_n hx hb dX2_depthAt_2 rfl (lv_at hl 2 rfl) ?_
  refine m_calli (cs := [(am 0, .inr (2, [.int (nI w), .int (nI h), .ref (am 1), .ref (am 2), .ref (am 3), .ref (am 4), .ref (am 5), .ref (am 6)]))]) (wr := [(am 2, .inl (tm 2, 576, .inl md))]) hP hD hS hA [0] [1] rfl rfl (by decide) (by decide) (va_runV (As := [.int x, .int y]) (rest := []) ⟨hx, hb, hml, hown, hts⟩ (c_X2_isPixel l dC dI _ am w h hw1 hw2 hh1 hh2 x y) (cwV 2 hts gX2_depthAt_X2_isPixel rfl rfl rfl (by decide +kernel) ⟨Nat.le_of_ble_eq_true rfl, Nat.le_of_ble_eq_true rfl⟩) (m_preV (ci := 2) (q0 := 0) (hP.sub [0] rfl) (hK.sub [] rfl) (hD.sub [0] (by decide) rfl) hN rfl rfl) rfl rfl hl.1 rfl (lv_room (Nat.le_of_ble_eq_true rfl)) dX2_depthAt_3 ⟨Nat.le_of_ble_eq_true rfl, Nat.le_of_ble_eq_true rfl⟩) (fun r3 _ H locs q3 hK2 hP hD hS => ?_)
  have hP : va_P (dC, dI) vwCl [(am 0, .inr (2, [.int (nI w), .int (nI h), .ref (am 1), .ref (am 2), .ref (am 3), .ref (am 4), .ref (am 5), .ref (am 6)])), (am 2, .inl (tm 2, 576, .inl md))] H := hP.sub [1, 0] rfl
  have hD : va_D A [(am 0, .inr (2, [.int (nI w), .int (nI h), .ref (am 1), .ref (am 2), .ref (am 3), .ref (am 4), .ref (am 5), .ref (am 6)])), (am 2, .inl (tm 2, 576, .inl md))] := hD.sub [1, 0] (by decide) rfl
  refine lv_if_eq (tgt := 23) hx hb dX2_depthAt_6 (by decide) (fun c6 => ?_) (fun c6 => ?_)
  · refine lv_iconst (v := (-1)) hx hb dX2_depthAt_23 (by decide) ?_
    have hP9 := hP.sub (ws' := [(am 0, .inr (2, [.int (nI w), .int (nI h), .ref (am 1), .ref (am 2), .ref (am 3), .ref (am 4), .ref (am 5), .ref (am 6)])), (am 2, .inl (tm 2, 576, .inl md))]) [0, 1] rfl
    have hD9 := hD.sub (ws' := [(am 0, .inr (2, [.int (nI w), .int (nI h), .ref (am 1), .ref (am 2), .ref (am 3), .ref (am 4), .ref (am 5), .ref (am 6)])), (am 2, .inl (tm 2, 576, .inl md))]) [0, 1] (by decide) rfl
    exact W.iret (v := (-1)) hx hb hr (fun t ht hW => ⟨⟨(-1), (), rfl, Or.inr ⟨(b01 q3).mp c6, rfl⟩, by rw [ht]; exact hP9, va_K.moved hW.alike hK, hD9⟩, hS.F ht⟩) hS.2.2 dX2_depthAt_24
  · have hin := Classical.byContradiction (fun h => c6 ((b01 q3).mpr h))
    refine lv_aload_n hx hb dX2_depthAt_9 rfl (lv_at hl 0 rfl) ?_
    refine va_get (D := (dC, dI)) (ci := 2) (v := .ref (am 2)) (C := RX2) (T := TX2) (N := 8) hx hb hts (by decide +kernel) hown hK hP 0 rfl rfl 3 (by decide) (hts (.fieldLink RX2 13 "TriangleRasterModel" "depths" "[I") (by decide +kernel)) (fun _ h9 => h9) rfl dX2_depthAt_10 ?_
    refine lv_bipush (v := 24) hx hb dX2_depthAt_13 (by decide) ?_
    refine lv_iload_n hx hb dX2_depthAt_15 rfl (lv_at hl 2 rfl) ?_
    refine lv_imul hx hb dX2_depthAt_16 ?_
    refine lv_iload_n hx hb dX2_depthAt_17 rfl (lv_at hl 1 rfl) ?_
    refine lv_iadd hx hb dX2_depthAt_18 ?_
    refine lv_topi (fun zz ezz => ?_)
    obtain rfl : zz = nI (24 * y.toInt.toNat + x.toInt.toNat) := ezz.trans (ix24X hin)
    have hlt : 24 * y.toInt.toNat + x.toInt.toNat < 576 := by have g := hin; unfold inX at g; omega
    refine va_iald hx hb hK hP 1 0 rfl rfl (vp_in_nI hlt (by omega)) dX2_depthAt_19 ?_
    refine lv_goto (tgt := 24) hx hb dX2_depthAt_20 (by decide) ?_
    have hP9 := hP.sub (ws' := [(am 0, .inr (2, [.int (nI w), .int (nI h), .ref (am 1), .ref (am 2), .ref (am 3), .ref (am 4), .ref (am 5), .ref (am 6)])), (am 2, .inl (tm 2, 576, .inl md))]) [0, 1] rfl
    have hD9 := hD.sub (ws' := [(am 0, .inr (2, [.int (nI w), .int (nI h), .ref (am 1), .ref (am 2), .ref (am 3), .ref (am 4), .ref (am 5), .ref (am 6)])), (am 2, .inl (tm 2, 576, .inl md))]) [0, 1] (by decide) rfl
    exact W.iret (v := (md (nI (24 * y.toInt.toNat + x.toInt.toNat)).toNatClampNeg)) hx hb hr (fun t ht hW => ⟨⟨md (nI (24 * y.toInt.toNat + x.toInt.toNat)).toNatClampNeg, (), rfl, Or.inl ⟨hin, by rw [ab_lin hin, nI_clamp (by omega)]⟩, by rw [ht]; exact hP9, va_K.moved hW.alike hK, hD9⟩, hS.F ht⟩) hS.2.2 dX2_depthAt_24

set_option maxHeartbeats 1000000 in
set_option maxRecDepth 100000 in
/-- unmark -/
theorem c_X2_unmark (l : Launch) (dC : Nat → ClassId) (dI : Nat → Nat → Nat) (sz : Nat) (am : Nat → Nat) (tm : Nat → ClassId) (w h : Nat) (mk : Nat → Int32) : Met l yX2_unmark wsX2_unmark ({ frames := 0, cells := 0, slots := 0, locals := 0 }) (mP (dC, dI) vwCl [(tm 6, .boolean)] [(am 0, .inr (2, [.int (nI w), .int (nI h), .ref (am 1), .ref (am 2), .ref (am 3), .ref (am 4), .ref (am 5), .ref (am 6)])), (am 6, .inl (tm 6, 576, .inl mk))] sz [.ref (am 0)]) (va_Qv (fun (u : Nat → Int32) => ∀ i, i < 576 → u i = 0) (mB (dC, dI) vwCl [(tm 6, .boolean)] (va_A [(am 0, .inr (2, [.int (nI w), .int (nI h), .ref (am 1), .ref (am 2), .ref (am 3), .ref (am 4), .ref (am 5), .ref (am 6)])), (am 6, .inl (tm 6, 576, .inl mk))] sz) (fun u => [(am 0, .inr (2, [.int (nI w), .int (nI h), .ref (am 1), .ref (am 2), .ref (am 3), .ref (am 4), .ref (am 5), .ref (am 6)])), (am 6, .inl (tm 6, 576, .inl u))])) (va_A [(am 0, .inr (2, [.int (nI w), .int (nI h), .ref (am 1), .ref (am 2), .ref (am 3), .ref (am 4), .ref (am 5), .ref (am 6)])), (am 6, .inl (tm 6, 576, .inl mk))] sz)) 0 0 (va_A [(am 0, .inr (2, [.int (nI w), .int (nI h), .ref (am 1), .ref (am 2), .ref (am 3), .ref (am 4), .ref (am 5), .ref (am 6)])), (am 6, .inl (tm 6, 576, .inl mk))] sz) := by
  refine Met.ofW (cc := cX2_unmark) (maxL := 2) (ret := none) (by decide) rfl ?_
  intro p e s m args below meth cD s₁ B hml hv
  obtain ⟨rfl, hsz, hP, hK, hD0, hN⟩ := hv
  have hx := B.exec
  have hb := B.bytes
  have hr := B.returns
  have hts := atoms_spec (ws := wsX2_unmark) B.pre
  have hown : s.vm.findClass RX2 = some m.cls := findClass_of_methodNamed B.named
  have hlocks := B.notSynchronized
  subst hsz
  have hD := hD0.self (sz := s.heap.size)
  generalize hAe : va_A [(am 0, .inr (2, [.int (nI w), .int (nI h), .ref (am 1), .ref (am 2), .ref (am 3), .ref (am 4), .ref (am 5), .ref (am 6)])), (am 6, .inl (tm 6, 576, .inl mk))] s.heap.size = A at hD ⊢
  have hA : ∀ q : Nat, s.heap.size ≤ q → A q := fun q h => by rw [← hAe]; exact Or.inr h
  have hS : va_S A s.heap s.heap [] := va_S.rf
  have hP : va_P (dC, dI) vwCl [(am 0, .inr (2, [.int (nI w), .int (nI h), .ref (am 1), .ref (am 2), .ref (am 3), .ref (am 4), .ref (am 5), .ref (am 6)])), (am 6, .inl (tm 6, 576, .inl mk))] s.heap := hP
  have hl := lv_entry ([.ref (am 0)]) (n := 2) (Nat.le_of_ble_eq_true rfl)
  rw [lg_entry_eq]
  generalize (lg_sl ([.ref (am 0)]) ++ List.replicate (2 - (lg_sl ([.ref (am 0)])).length) Slot.unset).toArray = ls at hl ⊢
  have hl : lv_has ls 2 [(0, .ref (am 0))] := hl
  refine lv_iconst (v := 0) hx hb dX2_unmark_0 (by decide) ?_
  refine lv_topi (fun zz ezz => ?_)
  obtain rfl : zz = nI 0 := ezz.trans (nI_0.symm)
  refine lv_istore_n (lv' := [(1, .int (nI 0)), (0, .ref (am 0))]) hx hb dX2_unmark_1 rfl hl (by decide) rfl (fun ls hl => ?_)
  have loop : ∀ (n : Nat) (i : Nat) (g : Nat → Int32), i ≤ 576 → (∀ j, j < i → g j = 0) → 576 + 1 ≤ i + n → ∀ (H : Heap) (locs : List Loc), va_P (dC, dI) vwCl [(am 0, .inr (2, [.int (nI w), .int (nI h), .ref (am 1), .ref (am 2), .ref (am 3), .ref (am 4), .ref (am 5), .ref (am 6)])), (am 6, .inl (tm 6, 576, .inl g))] H → va_D A [(am 0, .inr (2, [.int (nI w), .int (nI h), .ref (am 1), .ref (am 2), .ref (am 3), .ref (am 4), .ref (am 5), .ref (am 6)])), (am 6, .inl (tm 6, 576, .inl g))] → va_S A s.heap H locs → ∀ (ls : Array Slot), lv_has ls 2 [(0, .ref (am 0)), (1, .int (nI i))] → W p l e (headSpec wsX2_unmark { frames := 0, cells := 0, slots := 0, locals := 0 }).room s m [.ref (am 0)].toArray below meth cD H locs 0 0 (MQ below (va_Qv (fun (u : Nat → Int32) => ∀ i, i < 576 → u i = 0) (mB (dC, dI) vwCl [(tm 6, .boolean)] A (fun u => [(am 0, .inr (2, [.int (nI w), .int (nI h), .ref (am 1), .ref (am 2), .ref (am 3), .ref (am 4), .ref (am 5), .ref (am 6)])), (am 6, .inl (tm 6, 576, .inl u))])) A) [.ref (am 0)].toArray s 0 0 A) (F0 m 2 ls []) := by
    intro n
    induction n with
    | zero => intro i g hi hg hm; exfalso; omega
    | succ n ih =>
      intro i g hi hg hm H locs hP hD hS ls hl
      refine lv_iload_n hx hb dX2_unmark_2 rfl (lv_at hl 1 rfl) ?_
      refine lv_sipush (v := 576) hx hb dX2_unmark_3 (by decide) ?_
      refine lv_icmp_ge (tgt := 22) hx hb dX2_unmark_6 (by decide) (fun c6 => ?_) (fun c6 => ?_)
      · have hP9 := hP.sub (ws' := [(am 0, .inr (2, [.int (nI w), .int (nI h), .ref (am 1), .ref (am 2), .ref (am 3), .ref (am 4), .ref (am 5), .ref (am 6)])), (am 6, .inl (tm 6, 576, .inl g))]) [0, 1] rfl
        have hD9 := hD.sub (ws' := [(am 0, .inr (2, [.int (nI w), .int (nI h), .ref (am 1), .ref (am 2), .ref (am 3), .ref (am 4), .ref (am 5), .ref (am 6)])), (am 6, .inl (tm 6, 576, .inl g))]) [0, 1] (by decide) rfl
        exact W.vret hx hb hr (fun t ht hW => ⟨⟨g, rfl, fun j hj => hg j (by rw [show (576 : Int32) = nI 576 from rfl, nI_leI (by omega) (by omega)] at c6; omega), by rw [ht]; exact hP9, va_K.moved hW.alike hK, hD9⟩, hS.F ht⟩) hS.2.2 dX2_unmark_22
      · have hlt : i < 576 := by
          rw [show (576 : Int32) = nI 576 from rfl, nI_leI (by omega) (by omega)] at c6; omega
        refine lv_aload_n hx hb dX2_unmark_9 rfl (lv_at hl 0 rfl) ?_
        refine va_get (D := (dC, dI)) (ci := 2) (v := .ref (am 6)) (C := RX2) (T := TX2) (N := 8) hx hb hts (by decide +kernel) hown hK hP 0 rfl rfl 7 (by decide) (hts (.fieldLink RX2 25 "TriangleRasterModel" "marks" "[Z") (by decide +kernel)) (fun _ h9 => h9) rfl dX2_unmark_10 ?_
        refine lv_iload_n hx hb dX2_unmark_13 rfl (lv_at hl 1 rfl) ?_
        refine lv_iconst (v := 0) hx hb dX2_unmark_14 (by decide) ?_
        refine va_zast hx hb hK hP hD hS 1 0 rfl rfl (vp_in_nI hlt (by omega)) dX2_unmark_15 (fun H locs hP hD hS => ?_)
        have hP : va_P (dC, dI) vwCl [(am 0, .inr (2, [.int (nI w), .int (nI h), .ref (am 1), .ref (am 2), .ref (am 3), .ref (am 4), .ref (am 5), .ref (am 6)])), (am 6, .inl (tm 6, 576, .inl (upd g (nI i).toNatClampNeg 0)))] H := hP
        have hD : va_D A [(am 0, .inr (2, [.int (nI w), .int (nI h), .ref (am 1), .ref (am 2), .ref (am 3), .ref (am 4), .ref (am 5), .ref (am 6)])), (am 6, .inl (tm 6, 576, .inl (upd g (nI i).toNatClampNeg 0)))] := hD
        refine lv_iinc (v := nI (i + 1)) (lv' := [(1, .int (nI (i + 1))), (0, .ref (am 0))]) hx hb dX2_unmark_16 hl (k := 1) rfl (nI_add _ 1) (by decide) rfl (fun ls hl => ?_)
        refine lv_goto (tgt := 2) hx hb dX2_unmark_19 (by decide) ?_
        exact ih (i + 1) (upd g (nI i).toNatClampNeg 0) (by omega) (fun j h => by rw [nI_clamp (by omega)]; unfold upd; split <;> first | rfl | exact hg j (by omega)) (by omega) _ _ (hP.sub [0, 1] rfl) (hD.sub [0, 1] (by decide) rfl) hS ls (lv_sub hl [1, 0] rfl)
  exact loop (577) 0 mk (Nat.zero_le _) (fun j h => absurd h (Nat.not_lt_zero j)) (by omega) _ _ (hP.sub [0, 1] rfl) (hD.sub [0, 1] (by decide) rfl) hS ls (lv_sub hl [1, 0] rfl)

set_option maxHeartbeats 1000000 in
set_option maxRecDepth 100000 in
/-- sign -/
theorem c_X2_sign (l : Launch) (dC : Nat → ClassId) (dI : Nat → Nat → Nat) (sz : Nat) (x : Int32) : Met l yX2_sign wsX2_sign ({ frames := 0, cells := 0, slots := 0, locals := 0 }) (mP (dC, dI) vwCl [] [] sz [.int x]) (va_Qi (fun (r : Int32) (u : Unit) => (x.toInt < 0 ∧ r = -1) ∨ (0 < x.toInt ∧ r = 1) ∨ (x.toInt = 0 ∧ r = 0)) (mB (dC, dI) vwCl [] (va_A [] sz) (fun u => [])) (va_A [] sz)) 0 0 (va_A [] sz) := by
  refine Met.ofW (cc := cX2_sign) (maxL := 1) (ret := (some .int)) (by decide) rfl ?_
  intro p e s m args below meth cD s₁ B hml hv
  obtain ⟨rfl, hsz, hP, hK, hD0, hN⟩ := hv
  have hx := B.exec
  have hb := B.bytes
  have hr := B.returns
  have hts := atoms_spec (ws := wsX2_sign) B.pre
  have hown : s.vm.findClass RX2 = some m.cls := findClass_of_methodNamed B.named
  have hlocks := B.notSynchronized
  subst hsz
  have hD := hD0.self (sz := s.heap.size)
  generalize hAe : va_A [] s.heap.size = A at hD ⊢
  have hA : ∀ q : Nat, s.heap.size ≤ q → A q := fun q h => by rw [← hAe]; exact Or.inr h
  have hS : va_S A s.heap s.heap [] := va_S.rf
  have hP : va_P (dC, dI) vwCl [] s.heap := hP
  have hl := lv_entry ([.int x]) (n := 1) (Nat.le_of_ble_eq_true rfl)
  rw [lg_entry_eq]
  generalize (lg_sl ([.int x]) ++ List.replicate (1 - (lg_sl ([.int x])).length) Slot.unset).toArray = ls at hl ⊢
  have hl : lv_has ls 1 [(0, .int x)] := hl
  refine lv_iload_n hx hb dX2_sign_0 rfl (lv_at hl 0 rfl) ?_
  refine lv_if_ge (tgt := 8) hx hb dX2_sign_1 (by decide) (fun c1 => ?_) (fun c1 => ?_)
  · refine lv_iload_n hx hb dX2_sign_8 rfl (lv_at hl 0 rfl) ?_
    refine lv_if_le (tgt := 16) hx hb dX2_sign_9 (by decide) (fun c9 => ?_) (fun c9 => ?_)
    · refine lv_iconst (v := 0) hx hb dX2_sign_16 (by decide) ?_
      have hP9 := hP.sub (ws' := []) [] rfl
      have hD9 := hD.sub (ws' := []) [] (by decide) rfl
      exact W.iret (v := 0) hx hb hr (fun t ht hW => ⟨⟨0, (), rfl, Or.inr (Or.inr ⟨by simp only [Int32.lt_iff_toInt_lt, Int32.le_iff_toInt_le, Int32.toInt_zero] at c1 c9; omega, rfl⟩), by rw [ht]; exact hP9, va_K.moved hW.alike hK, hD9⟩, hS.F ht⟩) hS.2.2 dX2_sign_17
    · refine lv_iconst (v := 1) hx hb dX2_sign_12 (by decide) ?_
      refine lv_goto (tgt := 17) hx hb dX2_sign_13 (by decide) ?_
      have hP9 := hP.sub (ws' := []) [] rfl
      have hD9 := hD.sub (ws' := []) [] (by decide) rfl
      exact W.iret (v := 1) hx hb hr (fun t ht hW => ⟨⟨1, (), rfl, Or.inr (Or.inl ⟨by simp only [Int32.lt_iff_toInt_lt, Int32.le_iff_toInt_le, Int32.toInt_zero] at c1 c9; omega, rfl⟩), by rw [ht]; exact hP9, va_K.moved hW.alike hK, hD9⟩, hS.F ht⟩) hS.2.2 dX2_sign_17
  · refine lv_iconst (v := (-1)) hx hb dX2_sign_4 (by decide) ?_
    refine lv_goto (tgt := 17) hx hb dX2_sign_5 (by decide) ?_
    have hP9 := hP.sub (ws' := []) [] rfl
    have hD9 := hD.sub (ws' := []) [] (by decide) rfl
    exact W.iret (v := (-1)) hx hb hr (fun t ht hW => ⟨⟨(-1), (), rfl, Or.inl ⟨by simp only [Int32.lt_iff_toInt_lt, Int32.le_iff_toInt_le, Int32.toInt_zero] at c1; omega, rfl⟩, by rw [ht]; exact hP9, va_K.moved hW.alike hK, hD9⟩, hS.F ht⟩) hS.2.2 dX2_sign_17

