set_option maxHeartbeats 4000000 in
set_option maxRecDepth 100000 in
/-- edge -/
theorem c_X0_edge (l : Launch) (dC : Nat → ClassId) (dI : Nat → Nat → Nat) (sz : Nat) (ad : Nat → Nat) (tc : Nat → ClassId) (se th : Int32) (ar : Int64) (vx vy : Nat → Int32) (hv : vb vx vy) (a b : Int32) (i j : Nat) (hi : i < 3) (hj : j < 3) (ea : a = nI i) (eb : b = nI j) (px py : Int32) (hpx : px.toInt.natAbs ≤ 33000) (hpy : py.toInt.natAbs ≤ 33000) : Met l yX0_edge wsX0_edge ({ frames := 0, cells := 0, slots := 0, locals := 0 }) (mP (dC, dI) vwCl [(tc 6, .int), (tc 7, .int)] [(ad 3, .inr (0, [.ref (ad 6), .ref (ad 7), .ref (ad 8), .int se, .int th, .long ar])), (ad 6, .inl (tc 6, 3, .inl vx)), (ad 7, .inl (tc 7, 3, .inl vy))] sz [.ref (ad 3), .int a, .int b, .int px, .int py]) (va_Ql (fun (r : Int64) (u : Unit) => r.toInt = EP vx vy i j px.toInt py.toInt) (mB (dC, dI) vwCl [(tc 6, .int), (tc 7, .int)] (va_A [(ad 3, .inr (0, [.ref (ad 6), .ref (ad 7), .ref (ad 8), .int se, .int th, .long ar])), (ad 6, .inl (tc 6, 3, .inl vx)), (ad 7, .inl (tc 7, 3, .inl vy))] sz) (fun u => [(ad 3, .inr (0, [.ref (ad 6), .ref (ad 7), .ref (ad 8), .int se, .int th, .long ar])), (ad 6, .inl (tc 6, 3, .inl vx)), (ad 7, .inl (tc 7, 3, .inl vy))])) (va_A [(ad 3, .inr (0, [.ref (ad 6), .ref (ad 7), .ref (ad 8), .int se, .int th, .long ar])), (ad 6, .inl (tc 6, 3, .inl vx)), (ad 7, .inl (tc 7, 3, .inl vy))] sz)) 0 0 (va_A [(ad 3, .inr (0, [.ref (ad 6), .ref (ad 7), .ref (ad 8), .int se, .int th, .long ar])), (ad 6, .inl (tc 6, 3, .inl vx)), (ad 7, .inl (tc 7, 3, .inl vy))] sz) := by
  refine Met.ofW (cc := cX0_edge) (maxL := 9) (ret := (some .long)) (by decide) rfl ?_
  intro p e s m args below meth cD s₁ B hml hv
  obtain ⟨rfl, hsz, hP, hK, hD0, hN⟩ := hv
  have hx := B.exec
  have hb := B.bytes
  have hr := B.returns
  have hts := atoms_spec (ws := wsX0_edge) B.pre
  have hown : s.vm.findClass RX0 = some m.cls := findClass_of_methodNamed B.named
  have hlocks := B.notSynchronized
  subst hsz
  have hD := hD0.self (sz := s.heap.size)
  generalize hAe : va_A [(ad 3, .inr (0, [.ref (ad 6), .ref (ad 7), .ref (ad 8), .int se, .int th, .long ar])), (ad 6, .inl (tc 6, 3, .inl vx)), (ad 7, .inl (tc 7, 3, .inl vy))] s.heap.size = A at hD ⊢
  have hA : ∀ q : Nat, s.heap.size ≤ q → A q := fun q h => by rw [← hAe]; exact Or.inr h
  have hS : va_S A s.heap s.heap [] := va_S.rf
  have hP : va_P (dC, dI) vwCl [(ad 3, .inr (0, [.ref (ad 6), .ref (ad 7), .ref (ad 8), .int se, .int th, .long ar])), (ad 6, .inl (tc 6, 3, .inl vx)), (ad 7, .inl (tc 7, 3, .inl vy))] s.heap := hP
  have hl := lv_entry ([.ref (ad 3), .int a, .int b, .int px, .int py]) (n := 9) (Nat.le_of_ble_eq_true rfl)
  rw [lg_entry_eq]
  generalize (lg_sl ([.ref (ad 3), .int a, .int b, .int px, .int py]) ++ List.replicate (9 - (lg_sl ([.ref (ad 3), .int a, .int b, .int px, .int py])).length) Slot.unset).toArray = ls at hl ⊢
  have hl : lv_has ls 9 [(0, .ref (ad 3)), (1, .int a), (2, .int b), (3, .int px), (4, .int py)] := hl
  have hia : vp_in a 3 := by rw [ea]; exact vp_in_nI hi (by omega)
  have hib : vp_in b 3 := by rw [eb]; exact vp_in_nI hj (by omega)
  have hca : a.toNatClampNeg = i := by rw [ea]; exact nI_clamp (by omega)
  have hcb : b.toNatClampNeg = j := by rw [eb]; exact nI_clamp (by omega)
  refine lv_aload_n hx hb dX0_edge_0 rfl (lv_at hl 0 rfl) ?_
  refine va_get (D := (dC, dI)) (ci := 0) (v := .ref (ad 6)) (C := RX0) (T := TX0) (N := 6) hx hb hts (by decide +kernel) hown hK hP 0 rfl rfl 0 (by decide) (hts (.fieldLink RX0 9 "TriangleRaster$Facet" "xs" "[I") (by decide +kernel)) (fun _ h9 => h9) rfl dX0_edge_1 ?_
  refine lv_iload_n hx hb dX0_edge_4 rfl (lv_at hl 2 rfl) ?_
  refine va_iald hx hb hK hP 1 0 rfl rfl hib dX0_edge_5 ?_
  refine lv_aload_n hx hb dX0_edge_6 rfl (lv_at hl 0 rfl) ?_
  refine va_get (D := (dC, dI)) (ci := 0) (v := .ref (ad 6)) (C := RX0) (T := TX0) (N := 6) hx hb hts (by decide +kernel) hown hK hP 0 rfl rfl 0 (by decide) (hts (.fieldLink RX0 9 "TriangleRaster$Facet" "xs" "[I") (by decide +kernel)) (fun _ h9 => h9) rfl dX0_edge_7 ?_
  refine lv_iload_n hx hb dX0_edge_10 rfl (lv_at hl 1 rfl) ?_
  refine va_iald hx hb hK hP 1 0 rfl rfl hia dX0_edge_11 ?_
  refine lv_isub hx hb dX0_edge_12 ?_
  refine lv_i2l hx hb dX0_edge_13 rfl ?_
  refine lv_lstore (lv' := [(5, .long (((vx b.toNatClampNeg) - (vx a.toNatClampNeg)).toInt64)), (0, .ref (ad 3)), (1, .int a), (2, .int b), (3, .int px), (4, .int py)]) hx hb dX0_edge_14 hl (by decide) rfl (fun ls hl => ?_)
  refine lv_aload_n hx hb dX0_edge_16 rfl (lv_at hl 1 rfl) ?_
  refine va_get (D := (dC, dI)) (ci := 0) (v := .ref (ad 7)) (C := RX0) (T := TX0) (N := 6) hx hb hts (by decide +kernel) hown hK hP 0 rfl rfl 1 (by decide) (hts (.fieldLink RX0 15 "TriangleRaster$Facet" "ys" "[I") (by decide +kernel)) (fun _ h9 => h9) rfl dX0_edge_17 ?_
  refine lv_iload_n hx hb dX0_edge_20 rfl (lv_at hl 3 rfl) ?_
  refine va_iald hx hb hK hP 2 1 rfl rfl hib dX0_edge_21 ?_
  refine lv_aload_n hx hb dX0_edge_22 rfl (lv_at hl 1 rfl) ?_
  refine va_get (D := (dC, dI)) (ci := 0) (v := .ref (ad 7)) (C := RX0) (T := TX0) (N := 6) hx hb hts (by decide +kernel) hown hK hP 0 rfl rfl 1 (by decide) (hts (.fieldLink RX0 15 "TriangleRaster$Facet" "ys" "[I") (by decide +kernel)) (fun _ h9 => h9) rfl dX0_edge_23 ?_
  refine lv_iload_n hx hb dX0_edge_26 rfl (lv_at hl 2 rfl) ?_
  refine va_iald hx hb hK hP 2 1 rfl rfl hia dX0_edge_27 ?_
  refine lv_isub hx hb dX0_edge_28 ?_
  refine lv_i2l hx hb dX0_edge_29 rfl ?_
  refine lv_lstore (lv' := [(7, .long (((vy b.toNatClampNeg) - (vy a.toNatClampNeg)).toInt64)), (5, .long (((vx b.toNatClampNeg) - (vx a.toNatClampNeg)).toInt64)), (0, .ref (ad 3)), (1, .int a), (2, .int b), (3, .int px), (4, .int py)]) hx hb dX0_edge_30 hl (by decide) rfl (fun ls hl => ?_)
  refine lv_lload hx hb dX0_edge_32 (lv_at hl 1 rfl) ?_
  refine lv_iload hx hb dX0_edge_34 (lv_at hl 6 rfl) ?_
  refine lv_aload_n hx hb dX0_edge_36 rfl (lv_at hl 2 rfl) ?_
  refine va_get (D := (dC, dI)) (ci := 0) (v := .ref (ad 7)) (C := RX0) (T := TX0) (N := 6) hx hb hts (by decide +kernel) hown hK hP 0 rfl rfl 1 (by decide) (hts (.fieldLink RX0 15 "TriangleRaster$Facet" "ys" "[I") (by decide +kernel)) (fun _ h9 => h9) rfl dX0_edge_37 ?_
  refine lv_iload_n hx hb dX0_edge_40 rfl (lv_at hl 3 rfl) ?_
  refine va_iald hx hb hK hP 2 1 rfl rfl hia dX0_edge_41 ?_
  refine lv_isub hx hb dX0_edge_42 ?_
  refine lv_i2l hx hb dX0_edge_43 rfl ?_
  refine lv_lmul hx hb dX0_edge_44 ?_
  refine lv_lload hx hb dX0_edge_45 (lv_at hl 0 rfl) ?_
  refine lv_iload_n hx hb dX0_edge_47 rfl (lv_at hl 5 rfl) ?_
  refine lv_aload_n hx hb dX0_edge_48 rfl (lv_at hl 2 rfl) ?_
  refine va_get (D := (dC, dI)) (ci := 0) (v := .ref (ad 6)) (C := RX0) (T := TX0) (N := 6) hx hb hts (by decide +kernel) hown hK hP 0 rfl rfl 0 (by decide) (hts (.fieldLink RX0 9 "TriangleRaster$Facet" "xs" "[I") (by decide +kernel)) (fun _ h9 => h9) rfl dX0_edge_49 ?_
  refine lv_iload_n hx hb dX0_edge_52 rfl (lv_at hl 3 rfl) ?_
  refine va_iald hx hb hK hP 1 0 rfl rfl hia dX0_edge_53 ?_
  refine lv_isub hx hb dX0_edge_54 ?_
  refine lv_i2l hx hb dX0_edge_55 rfl ?_
  refine lv_lmul hx hb dX0_edge_56 ?_
  refine lv_lsub hx hb dX0_edge_57 ?_
  have hP9 := hP.sub (ws' := [(ad 3, .inr (0, [.ref (ad 6), .ref (ad 7), .ref (ad 8), .int se, .int th, .long ar])), (ad 6, .inl (tc 6, 3, .inl vx)), (ad 7, .inl (tc 7, 3, .inl vy))]) [0, 1, 2] rfl
  have hD9 := hD.sub (ws' := [(ad 3, .inr (0, [.ref (ad 6), .ref (ad 7), .ref (ad 8), .int se, .int th, .long ar])), (ad 6, .inl (tc 6, 3, .inl vx)), (ad 7, .inl (tc 7, 3, .inl vy))]) [0, 1, 2] (by decide) rfl
  exact W.lret (v := (((((vx b.toNatClampNeg) - (vx a.toNatClampNeg)).toInt64) * ((py - (vy a.toNatClampNeg)).toInt64)) - ((((vy b.toNatClampNeg) - (vy a.toNatClampNeg)).toInt64) * ((px - (vx a.toNatClampNeg)).toInt64)))) hx hb hr (fun t ht hW => ⟨⟨((((vx b.toNatClampNeg) - (vx a.toNatClampNeg)).toInt64) * ((py - (vy a.toNatClampNeg)).toInt64)) - ((((vy b.toNatClampNeg) - (vy a.toNatClampNeg)).toInt64) * ((px - (vx a.toNatClampNeg)).toInt64)), (), rfl, by rw [hca, hcb]; exact edge_val (hv i hi).1 (hv i hi).2 (hv j hj).1 (hv j hj).2 hpx hpy, by rw [ht]; exact hP9, va_K.moved hW.alike hK, hD9⟩, hS.F ht⟩) hS.2.2 dX0_edge_58

set_option maxHeartbeats 4000000 in
set_option maxRecDepth 100000 in
/-- isTopOrLeft -/
theorem c_X0_isTopOrLeft (l : Launch) (dC : Nat → ClassId) (dI : Nat → Nat → Nat) (sz : Nat) (ad : Nat → Nat) (tc : Nat → ClassId) (se th : Int32) (ar : Int64) (vx vy : Nat → Int32) (a b : Int32) (i j : Nat) (hi : i < 3) (hj : j < 3) (ea : a = nI i) (eb : b = nI j) : Met l yX0_isTopOrLeft wsX0_isTopOrLeft ({ frames := 0, cells := 0, slots := 0, locals := 0 }) (mP (dC, dI) vwCl [(tc 6, .int), (tc 7, .int)] [(ad 3, .inr (0, [.ref (ad 6), .ref (ad 7), .ref (ad 8), .int se, .int th, .long ar])), (ad 6, .inl (tc 6, 3, .inl vx)), (ad 7, .inl (tc 7, 3, .inl vy))] sz [.ref (ad 3), .int a, .int b]) (va_Qi (fun (r : Int32) (u : Unit) => (TL vx vy i j ∧ r = 1) ∨ (¬ TL vx vy i j ∧ r = 0)) (mB (dC, dI) vwCl [(tc 6, .int), (tc 7, .int)] (va_A [(ad 3, .inr (0, [.ref (ad 6), .ref (ad 7), .ref (ad 8), .int se, .int th, .long ar])), (ad 6, .inl (tc 6, 3, .inl vx)), (ad 7, .inl (tc 7, 3, .inl vy))] sz) (fun u => [(ad 3, .inr (0, [.ref (ad 6), .ref (ad 7), .ref (ad 8), .int se, .int th, .long ar])), (ad 6, .inl (tc 6, 3, .inl vx)), (ad 7, .inl (tc 7, 3, .inl vy))])) (va_A [(ad 3, .inr (0, [.ref (ad 6), .ref (ad 7), .ref (ad 8), .int se, .int th, .long ar])), (ad 6, .inl (tc 6, 3, .inl vx)), (ad 7, .inl (tc 7, 3, .inl vy))] sz)) 0 0 (va_A [(ad 3, .inr (0, [.ref (ad 6), .ref (ad 7), .ref (ad 8), .int se, .int th, .long ar])), (ad 6, .inl (tc 6, 3, .inl vx)), (ad 7, .inl (tc 7, 3, .inl vy))] sz) := by
  refine Met.ofW (cc := cX0_isTopOrLeft) (maxL := 5) (ret := (some .boolean)) (by decide) rfl ?_
  intro p e s m args below meth cD s₁ B hml hv
  obtain ⟨rfl, hsz, hP, hK, hD0, hN⟩ := hv
  have hx := B.exec
  have hb := B.bytes
  have hr := B.returns
  have hts := atoms_spec (ws := wsX0_isTopOrLeft) B.pre
  have hown : s.vm.findClass RX0 = some m.cls := findClass_of_methodNamed B.named
  have hlocks := B.notSynchronized
  subst hsz
  have hD := hD0.self (sz := s.heap.size)
  generalize hAe : va_A [(ad 3, .inr (0, [.ref (ad 6), .ref (ad 7), .ref (ad 8), .int se, .int th, .long ar])), (ad 6, .inl (tc 6, 3, .inl vx)), (ad 7, .inl (tc 7, 3, .inl vy))] s.heap.size = A at hD ⊢
  have hA : ∀ q : Nat, s.heap.size ≤ q → A q := fun q h => by rw [← hAe]; exact Or.inr h
  have hS : va_S A s.heap s.heap [] := va_S.rf
  have hP : va_P (dC, dI) vwCl [(ad 3, .inr (0, [.ref (ad 6), .ref (ad 7), .ref (ad 8), .int se, .int th, .long ar])), (ad 6, .inl (tc 6, 3, .inl vx)), (ad 7, .inl (tc 7, 3, .inl vy))] s.heap := hP
  have hl := lv_entry ([.ref (ad 3), .int a, .int b]) (n := 5) (Nat.le_of_ble_eq_true rfl)
  rw [lg_entry_eq]
  generalize (lg_sl ([.ref (ad 3), .int a, .int b]) ++ List.replicate (5 - (lg_sl ([.ref (ad 3), .int a, .int b])).length) Slot.unset).toArray = ls at hl ⊢
  have hl : lv_has ls 5 [(0, .ref (ad 3)), (1, .int a), (2, .int b)] := hl
  have hia : vp_in a 3 := by rw [ea]; exact vp_in_nI hi (by omega)
  have hib : vp_in b 3 := by rw [eb]; exact vp_in_nI hj (by omega)
  have hca : a.toNatClampNeg = i := by rw [ea]; exact nI_clamp (by omega)
  have hcb : b.toNatClampNeg = j := by rw [eb]; exact nI_clamp (by omega)
  refine lv_aload_n hx hb dX0_isTopOrLeft_0 rfl (lv_at hl 0 rfl) ?_
  refine va_get (D := (dC, dI)) (ci := 0) (v := .ref (ad 7)) (C := RX0) (T := TX0) (N := 6) hx hb hts (by decide +kernel) hown hK hP 0 rfl rfl 1 (by decide) (hts (.fieldLink RX0 15 "TriangleRaster$Facet" "ys" "[I") (by decide +kernel)) (fun _ h9 => h9) rfl dX0_isTopOrLeft_1 ?_
  refine lv_iload_n hx hb dX0_isTopOrLeft_4 rfl (lv_at hl 1 rfl) ?_
  refine va_iald hx hb hK hP 2 1 rfl rfl hia dX0_isTopOrLeft_5 ?_
  refine lv_aload_n hx hb dX0_isTopOrLeft_6 rfl (lv_at hl 0 rfl) ?_
  refine va_get (D := (dC, dI)) (ci := 0) (v := .ref (ad 7)) (C := RX0) (T := TX0) (N := 6) hx hb hts (by decide +kernel) hown hK hP 0 rfl rfl 1 (by decide) (hts (.fieldLink RX0 15 "TriangleRaster$Facet" "ys" "[I") (by decide +kernel)) (fun _ h9 => h9) rfl dX0_isTopOrLeft_7 ?_
  refine lv_iload_n hx hb dX0_isTopOrLeft_10 rfl (lv_at hl 2 rfl) ?_
  refine va_iald hx hb hK hP 2 1 rfl rfl hib dX0_isTopOrLeft_11 ?_
  refine lv_icmp_ne (tgt := 34) hx hb dX0_isTopOrLeft_12 (by decide) (fun c12 => ?_) (fun c12 => ?_)
  · refine lv_iconst (v := 0) hx hb dX0_isTopOrLeft_34 (by decide) ?_
    refine lv_istore_n (lv' := [(3, .int 0), (0, .ref (ad 3)), (1, .int a), (2, .int b)]) hx hb dX0_isTopOrLeft_35 rfl hl (by decide) rfl (fun ls hl => ?_)
    refine lv_aload_n hx hb dX0_isTopOrLeft_36 rfl (lv_at hl 1 rfl) ?_
    refine va_get (D := (dC, dI)) (ci := 0) (v := .ref (ad 7)) (C := RX0) (T := TX0) (N := 6) hx hb hts (by decide +kernel) hown hK hP 0 rfl rfl 1 (by decide) (hts (.fieldLink RX0 15 "TriangleRaster$Facet" "ys" "[I") (by decide +kernel)) (fun _ h9 => h9) rfl dX0_isTopOrLeft_37 ?_
    refine lv_iload_n hx hb dX0_isTopOrLeft_40 rfl (lv_at hl 3 rfl) ?_
    refine va_iald hx hb hK hP 2 1 rfl rfl hib dX0_isTopOrLeft_41 ?_
    refine lv_aload_n hx hb dX0_isTopOrLeft_42 rfl (lv_at hl 1 rfl) ?_
    refine va_get (D := (dC, dI)) (ci := 0) (v := .ref (ad 7)) (C := RX0) (T := TX0) (N := 6) hx hb hts (by decide +kernel) hown hK hP 0 rfl rfl 1 (by decide) (hts (.fieldLink RX0 15 "TriangleRaster$Facet" "ys" "[I") (by decide +kernel)) (fun _ h9 => h9) rfl dX0_isTopOrLeft_43 ?_
    refine lv_iload_n hx hb dX0_isTopOrLeft_46 rfl (lv_at hl 2 rfl) ?_
    refine va_iald hx hb hK hP 2 1 rfl rfl hia dX0_isTopOrLeft_47 ?_
    refine lv_icmp_ge (tgt := 55) hx hb dX0_isTopOrLeft_48 (by decide) (fun c48 => ?_) (fun c48 => ?_)
    · refine lv_iconst (v := 0) hx hb dX0_isTopOrLeft_55 (by decide) ?_
      refine lv_istore (lv' := [(4, .int 0), (3, .int 0), (0, .ref (ad 3)), (1, .int a), (2, .int b)]) hx hb dX0_isTopOrLeft_56 hl (by decide) rfl (fun ls hl => ?_)
      refine lv_iload_n hx hb dX0_isTopOrLeft_58 rfl (lv_at hl 1 rfl) ?_
      refine lv_if_ne (tgt := 67) hx hb dX0_isTopOrLeft_59 (by decide) (fun c59 => ?_) (fun c59 => ?_)
      · exact absurd c59 (by decide)
      · refine lv_iload hx hb dX0_isTopOrLeft_62 (lv_at hl 0 rfl) ?_
        refine lv_if_eq (tgt := 71) hx hb dX0_isTopOrLeft_64 (by decide) (fun c64 => ?_) (fun c64 => ?_)
        · refine lv_iconst (v := 0) hx hb dX0_isTopOrLeft_71 (by decide) ?_
          have hP9 := hP.sub (ws' := [(ad 3, .inr (0, [.ref (ad 6), .ref (ad 7), .ref (ad 8), .int se, .int th, .long ar])), (ad 6, .inl (tc 6, 3, .inl vx)), (ad 7, .inl (tc 7, 3, .inl vy))]) [0, 1, 2] rfl
          have hD9 := hD.sub (ws' := [(ad 3, .inr (0, [.ref (ad 6), .ref (ad 7), .ref (ad 8), .int se, .int th, .long ar])), (ad 6, .inl (tc 6, 3, .inl vx)), (ad 7, .inl (tc 7, 3, .inl vy))]) [0, 1, 2] (by decide) rfl
          exact W.zret (v := 0) hx hb hr rfl (fun t ht hW => ⟨⟨0, (), rfl, Or.inr ⟨by rw [hca, hcb] at c12 c48; simp only [TL, Int32.lt_iff_toInt_lt, Int32.le_iff_toInt_le, ← Int32.toInt_inj] at c12 c48 ⊢; omega, rfl⟩, by rw [ht]; exact hP9, va_K.moved hW.alike hK, hD9⟩, hS.F ht⟩) hS.2.2 dX0_isTopOrLeft_72
        · exact absurd c64 (by decide)
    · refine lv_iconst (v := 1) hx hb dX0_isTopOrLeft_51 (by decide) ?_
      refine lv_goto (tgt := 56) hx hb dX0_isTopOrLeft_52 (by decide) ?_
      refine lv_istore (lv' := [(4, .int 1), (3, .int 0), (0, .ref (ad 3)), (1, .int a), (2, .int b)]) hx hb dX0_isTopOrLeft_56 hl (by decide) rfl (fun ls hl => ?_)
      refine lv_iload_n hx hb dX0_isTopOrLeft_58 rfl (lv_at hl 1 rfl) ?_
      refine lv_if_ne (tgt := 67) hx hb dX0_isTopOrLeft_59 (by decide) (fun c59 => ?_) (fun c59 => ?_)
      · exact absurd c59 (by decide)
      · refine lv_iload hx hb dX0_isTopOrLeft_62 (lv_at hl 0 rfl) ?_
        refine lv_if_eq (tgt := 71) hx hb dX0_isTopOrLeft_64 (by decide) (fun c64 => ?_) (fun c64 => ?_)
        · exact absurd c64 (by decide)
        · refine lv_iconst (v := 1) hx hb dX0_isTopOrLeft_67 (by decide) ?_
          refine lv_goto (tgt := 72) hx hb dX0_isTopOrLeft_68 (by decide) ?_
          have hP9 := hP.sub (ws' := [(ad 3, .inr (0, [.ref (ad 6), .ref (ad 7), .ref (ad 8), .int se, .int th, .long ar])), (ad 6, .inl (tc 6, 3, .inl vx)), (ad 7, .inl (tc 7, 3, .inl vy))]) [0, 1, 2] rfl
          have hD9 := hD.sub (ws' := [(ad 3, .inr (0, [.ref (ad 6), .ref (ad 7), .ref (ad 8), .int se, .int th, .long ar])), (ad 6, .inl (tc 6, 3, .inl vx)), (ad 7, .inl (tc 7, 3, .inl vy))]) [0, 1, 2] (by decide) rfl
          exact W.zret (v := 1) hx hb hr rfl (fun t ht hW => ⟨⟨1, (), rfl, Or.inl ⟨by rw [hca, hcb] at c12 c48; simp only [TL, Int32.lt_iff_toInt_lt, Int32.le_iff_toInt_le, ← Int32.toInt_inj] at c12 c48 ⊢; omega, rfl⟩, by rw [ht]; exact hP9, va_K.moved hW.alike hK, hD9⟩, hS.F ht⟩) hS.2.2 dX0_isTopOrLeft_72
  · refine lv_aload_n hx hb dX0_isTopOrLeft_15 rfl (lv_at hl 0 rfl) ?_
    refine va_get (D := (dC, dI)) (ci := 0) (v := .ref (ad 6)) (C := RX0) (T := TX0) (N := 6) hx hb hts (by decide +kernel) hown hK hP 0 rfl rfl 0 (by decide) (hts (.fieldLink RX0 9 "TriangleRaster$Facet" "xs" "[I") (by decide +kernel)) (fun _ h9 => h9) rfl dX0_isTopOrLeft_16 ?_
    refine lv_iload_n hx hb dX0_isTopOrLeft_19 rfl (lv_at hl 2 rfl) ?_
    refine va_iald hx hb hK hP 1 0 rfl rfl hib dX0_isTopOrLeft_20 ?_
    refine lv_aload_n hx hb dX0_isTopOrLeft_21 rfl (lv_at hl 0 rfl) ?_
    refine va_get (D := (dC, dI)) (ci := 0) (v := .ref (ad 6)) (C := RX0) (T := TX0) (N := 6) hx hb hts (by decide +kernel) hown hK hP 0 rfl rfl 0 (by decide) (hts (.fieldLink RX0 9 "TriangleRaster$Facet" "xs" "[I") (by decide +kernel)) (fun _ h9 => h9) rfl dX0_isTopOrLeft_22 ?_
    refine lv_iload_n hx hb dX0_isTopOrLeft_25 rfl (lv_at hl 1 rfl) ?_
    refine va_iald hx hb hK hP 1 0 rfl rfl hia dX0_isTopOrLeft_26 ?_
    refine lv_icmp_le (tgt := 34) hx hb dX0_isTopOrLeft_27 (by decide) (fun c27 => ?_) (fun c27 => ?_)
    · refine lv_iconst (v := 0) hx hb dX0_isTopOrLeft_34 (by decide) ?_
      refine lv_istore_n (lv' := [(3, .int 0), (0, .ref (ad 3)), (1, .int a), (2, .int b)]) hx hb dX0_isTopOrLeft_35 rfl hl (by decide) rfl (fun ls hl => ?_)
      refine lv_aload_n hx hb dX0_isTopOrLeft_36 rfl (lv_at hl 1 rfl) ?_
      refine va_get (D := (dC, dI)) (ci := 0) (v := .ref (ad 7)) (C := RX0) (T := TX0) (N := 6) hx hb hts (by decide +kernel) hown hK hP 0 rfl rfl 1 (by decide) (hts (.fieldLink RX0 15 "TriangleRaster$Facet" "ys" "[I") (by decide +kernel)) (fun _ h9 => h9) rfl dX0_isTopOrLeft_37 ?_
      refine lv_iload_n hx hb dX0_isTopOrLeft_40 rfl (lv_at hl 3 rfl) ?_
      refine va_iald hx hb hK hP 2 1 rfl rfl hib dX0_isTopOrLeft_41 ?_
      refine lv_aload_n hx hb dX0_isTopOrLeft_42 rfl (lv_at hl 1 rfl) ?_
      refine va_get (D := (dC, dI)) (ci := 0) (v := .ref (ad 7)) (C := RX0) (T := TX0) (N := 6) hx hb hts (by decide +kernel) hown hK hP 0 rfl rfl 1 (by decide) (hts (.fieldLink RX0 15 "TriangleRaster$Facet" "ys" "[I") (by decide +kernel)) (fun _ h9 => h9) rfl dX0_isTopOrLeft_43 ?_
      refine lv_iload_n hx hb dX0_isTopOrLeft_46 rfl (lv_at hl 2 rfl) ?_
      refine va_iald hx hb hK hP 2 1 rfl rfl hia dX0_isTopOrLeft_47 ?_
      refine lv_icmp_ge (tgt := 55) hx hb dX0_isTopOrLeft_48 (by decide) (fun c48 => ?_) (fun c48 => ?_)
      · refine lv_iconst (v := 0) hx hb dX0_isTopOrLeft_55 (by decide) ?_
        refine lv_istore (lv' := [(4, .int 0), (3, .int 0), (0, .ref (ad 3)), (1, .int a), (2, .int b)]) hx hb dX0_isTopOrLeft_56 hl (by decide) rfl (fun ls hl => ?_)
        refine lv_iload_n hx hb dX0_isTopOrLeft_58 rfl (lv_at hl 1 rfl) ?_
        refine lv_if_ne (tgt := 67) hx hb dX0_isTopOrLeft_59 (by decide) (fun c59 => ?_) (fun c59 => ?_)
        · exact absurd c59 (by decide)
        · refine lv_iload hx hb dX0_isTopOrLeft_62 (lv_at hl 0 rfl) ?_
          refine lv_if_eq (tgt := 71) hx hb dX0_isTopOrLeft_64 (by decide) (fun c64 => ?_) (fun c64 => ?_)
          · refine lv_iconst (v := 0) hx hb dX0_isTopOrLeft_71 (by decide) ?_
            have hP9 := hP.sub (ws' := [(ad 3, .inr (0, [.ref (ad 6), .ref (ad 7), .ref (ad 8), .int se, .int th, .long ar])), (ad 6, .inl (tc 6, 3, .inl vx)), (ad 7, .inl (tc 7, 3, .inl vy))]) [0, 1, 2] rfl
            have hD9 := hD.sub (ws' := [(ad 3, .inr (0, [.ref (ad 6), .ref (ad 7), .ref (ad 8), .int se, .int th, .long ar])), (ad 6, .inl (tc 6, 3, .inl vx)), (ad 7, .inl (tc 7, 3, .inl vy))]) [0, 1, 2] (by decide) rfl
            exact W.zret (v := 0) hx hb hr rfl (fun t ht hW => ⟨⟨0, (), rfl, Or.inr ⟨by rw [hca, hcb] at c12 c27 c48; simp only [TL, Int32.lt_iff_toInt_lt, Int32.le_iff_toInt_le, ← Int32.toInt_inj] at c12 c27 c48 ⊢; omega, rfl⟩, by rw [ht]; exact hP9, va_K.moved hW.alike hK, hD9⟩, hS.F ht⟩) hS.2.2 dX0_isTopOrLeft_72
          · exact absurd c64 (by decide)
      · refine lv_iconst (v := 1) hx hb dX0_isTopOrLeft_51 (by decide) ?_
        refine lv_goto (tgt := 56) hx hb dX0_isTopOrLeft_52 (by decide) ?_
        refine lv_istore (lv' := [(4, .int 1), (3, .int 0), (0, .ref (ad 3)), (1, .int a), (2, .int b)]) hx hb dX0_isTopOrLeft_56 hl (by decide) rfl (fun ls hl => ?_)
        refine lv_iload_n hx hb dX0_isTopOrLeft_58 rfl (lv_at hl 1 rfl) ?_
        refine lv_if_ne (tgt := 67) hx hb dX0_isTopOrLeft_59 (by decide) (fun c59 => ?_) (fun c59 => ?_)
        · exact absurd c59 (by decide)
        · refine lv_iload hx hb dX0_isTopOrLeft_62 (lv_at hl 0 rfl) ?_
          refine lv_if_eq (tgt := 71) hx hb dX0_isTopOrLeft_64 (by decide) (fun c64 => ?_) (fun c64 => ?_)
          · exact absurd c64 (by decide)
          · refine lv_iconst (v := 1) hx hb dX0_isTopOrLeft_67 (by decide) ?_
            refine lv_goto (tgt := 72) hx hb dX0_isTopOrLeft_68 (by decide) ?_
            have hP9 := hP.sub (ws' := [(ad 3, .inr (0, [.ref (ad 6), .ref (ad 7), .ref (ad 8), .int se, .int th, .long ar])), (ad 6, .inl (tc 6, 3, .inl vx)), (ad 7, .inl (tc 7, 3, .inl vy))]) [0, 1, 2] rfl
            have hD9 := hD.sub (ws' := [(ad 3, .inr (0, [.ref (ad 6), .ref (ad 7), .ref (ad 8), .int se, .int th, .long ar])), (ad 6, .inl (tc 6, 3, .inl vx)), (ad 7, .inl (tc 7, 3, .inl vy))]) [0, 1, 2] (by decide) rfl
            exact W.zret (v := 1) hx hb hr rfl (fun t ht hW => ⟨⟨1, (), rfl, Or.inl ⟨by rw [hca, hcb] at c12 c27 c48; simp only [TL, Int32.lt_iff_toInt_lt, Int32.le_iff_toInt_le, ← Int32.toInt_inj] at c12 c27 c48 ⊢; omega, rfl⟩, by rw [ht]; exact hP9, va_K.moved hW.alike hK, hD9⟩, hS.F ht⟩) hS.2.2 dX0_isTopOrLeft_72
    · refine lv_iconst (v := 1) hx hb dX0_isTopOrLeft_30 (by decide) ?_
      refine lv_goto (tgt := 35) hx hb dX0_isTopOrLeft_31 (by decide) ?_
      refine lv_istore_n (lv' := [(3, .int 1), (0, .ref (ad 3)), (1, .int a), (2, .int b)]) hx hb dX0_isTopOrLeft_35 rfl hl (by decide) rfl (fun ls hl => ?_)
      refine lv_aload_n hx hb dX0_isTopOrLeft_36 rfl (lv_at hl 1 rfl) ?_
      refine va_get (D := (dC, dI)) (ci := 0) (v := .ref (ad 7)) (C := RX0) (T := TX0) (N := 6) hx hb hts (by decide +kernel) hown hK hP 0 rfl rfl 1 (by decide) (hts (.fieldLink RX0 15 "TriangleRaster$Facet" "ys" "[I") (by decide +kernel)) (fun _ h9 => h9) rfl dX0_isTopOrLeft_37 ?_
      refine lv_iload_n hx hb dX0_isTopOrLeft_40 rfl (lv_at hl 3 rfl) ?_
      refine va_iald hx hb hK hP 2 1 rfl rfl hib dX0_isTopOrLeft_41 ?_
      refine lv_aload_n hx hb dX0_isTopOrLeft_42 rfl (lv_at hl 1 rfl) ?_
      refine va_get (D := (dC, dI)) (ci := 0) (v := .ref (ad 7)) (C := RX0) (T := TX0) (N := 6) hx hb hts (by decide +kernel) hown hK hP 0 rfl rfl 1 (by decide) (hts (.fieldLink RX0 15 "TriangleRaster$Facet" "ys" "[I") (by decide +kernel)) (fun _ h9 => h9) rfl dX0_isTopOrLeft_43 ?_
      refine lv_iload_n hx hb dX0_isTopOrLeft_46 rfl (lv_at hl 2 rfl) ?_
      refine va_iald hx hb hK hP 2 1 rfl rfl hia dX0_isTopOrLeft_47 ?_
      refine lv_icmp_ge (tgt := 55) hx hb dX0_isTopOrLeft_48 (by decide) (fun c48 => ?_) (fun c48 => ?_)
      · refine lv_iconst (v := 0) hx hb dX0_isTopOrLeft_55 (by decide) ?_
        refine lv_istore (lv' := [(4, .int 0), (3, .int 1), (0, .ref (ad 3)), (1, .int a), (2, .int b)]) hx hb dX0_isTopOrLeft_56 hl (by decide) rfl (fun ls hl => ?_)
        refine lv_iload_n hx hb dX0_isTopOrLeft_58 rfl (lv_at hl 1 rfl) ?_
        refine lv_if_ne (tgt := 67) hx hb dX0_isTopOrLeft_59 (by decide) (fun c59 => ?_) (fun c59 => ?_)
        · refine lv_iconst (v := 1) hx hb dX0_isTopOrLeft_67 (by decide) ?_
          refine lv_goto (tgt := 72) hx hb dX0_isTopOrLeft_68 (by decide) ?_
          have hP9 := hP.sub (ws' := [(ad 3, .inr (0, [.ref (ad 6), .ref (ad 7), .ref (ad 8), .int se, .int th, .long ar])), (ad 6, .inl (tc 6, 3, .inl vx)), (ad 7, .inl (tc 7, 3, .inl vy))]) [0, 1, 2] rfl
          have hD9 := hD.sub (ws' := [(ad 3, .inr (0, [.ref (ad 6), .ref (ad 7), .ref (ad 8), .int se, .int th, .long ar])), (ad 6, .inl (tc 6, 3, .inl vx)), (ad 7, .inl (tc 7, 3, .inl vy))]) [0, 1, 2] (by decide) rfl
          exact W.zret (v := 1) hx hb hr rfl (fun t ht hW => ⟨⟨1, (), rfl, Or.inl ⟨by rw [hca, hcb] at c12 c27 c48; simp only [TL, Int32.lt_iff_toInt_lt, Int32.le_iff_toInt_le, ← Int32.toInt_inj] at c12 c27 c48 ⊢; omega, rfl⟩, by rw [ht]; exact hP9, va_K.moved hW.alike hK, hD9⟩, hS.F ht⟩) hS.2.2 dX0_isTopOrLeft_72
        · exact absurd c59 (by decide)
      · refine lv_iconst (v := 1) hx hb dX0_isTopOrLeft_51 (by decide) ?_
        refine lv_goto (tgt := 56) hx hb dX0_isTopOrLeft_52 (by decide) ?_
        refine lv_istore (lv' := [(4, .int 1), (3, .int 1), (0, .ref (ad 3)), (1, .int a), (2, .int b)]) hx hb dX0_isTopOrLeft_56 hl (by decide) rfl (fun ls hl => ?_)
        refine lv_iload_n hx hb dX0_isTopOrLeft_58 rfl (lv_at hl 1 rfl) ?_
        refine lv_if_ne (tgt := 67) hx hb dX0_isTopOrLeft_59 (by decide) (fun c59 => ?_) (fun c59 => ?_)
        · refine lv_iconst (v := 1) hx hb dX0_isTopOrLeft_67 (by decide) ?_
          refine lv_goto (tgt := 72) hx hb dX0_isTopOrLeft_68 (by decide) ?_
          have hP9 := hP.sub (ws' := [(ad 3, .inr (0, [.ref (ad 6), .ref (ad 7), .ref (ad 8), .int se, .int th, .long ar])), (ad 6, .inl (tc 6, 3, .inl vx)), (ad 7, .inl (tc 7, 3, .inl vy))]) [0, 1, 2] rfl
          have hD9 := hD.sub (ws' := [(ad 3, .inr (0, [.ref (ad 6), .ref (ad 7), .ref (ad 8), .int se, .int th, .long ar])), (ad 6, .inl (tc 6, 3, .inl vx)), (ad 7, .inl (tc 7, 3, .inl vy))]) [0, 1, 2] (by decide) rfl
          exact W.zret (v := 1) hx hb hr rfl (fun t ht hW => ⟨⟨1, (), rfl, Or.inl ⟨by rw [hca, hcb] at c12 c27 c48; simp only [TL, Int32.lt_iff_toInt_lt, Int32.le_iff_toInt_le, ← Int32.toInt_inj] at c12 c27 c48 ⊢; omega, rfl⟩, by rw [ht]; exact hP9, va_K.moved hW.alike hK, hD9⟩, hS.F ht⟩) hS.2.2 dX0_isTopOrLeft_72
        · exact absurd c59 (by decide)

set_option maxHeartbeats 4000000 in
set_option maxRecDepth 100000 in
/-- isInside -/
theorem c_X0_isInside (l : Launch) (dC : Nat → ClassId) (dI : Nat → Nat → Nat) (sz : Nat) (ad : Nat → Nat) (tc : Nat → ClassId) (se th : Int32) (ar : Int64) (vx vy : Nat → Int32) (x : Int64) (a b : Int32) (i j : Nat) (hi : i < 3) (hj : j < 3) (ea : a = nI i) (eb : b = nI j) : Met l yX0_isInside wsX0_isInside ({ frames := 1, cells := 0, slots := 0, locals := 24 }) (mP (dC, dI) vwCl [(tc 6, .int), (tc 7, .int)] [(ad 3, .inr (0, [.ref (ad 6), .ref (ad 7), .ref (ad 8), .int se, .int th, .long ar])), (ad 6, .inl (tc 6, 3, .inl vx)), (ad 7, .inl (tc 7, 3, .inl vy))] sz [.ref (ad 3), .long x, .int a, .int b]) (va_Qi (fun (r : Int32) (u : Unit) => ((0 < x.toInt ∨ (x.toInt = 0 ∧ TL vx vy i j)) ∧ r = 1) ∨ (¬ (0 < x.toInt ∨ (x.toInt = 0 ∧ TL vx vy i j)) ∧ r = 0)) (mB (dC, dI) vwCl [(tc 6, .int), (tc 7, .int)] (va_A [(ad 3, .inr (0, [.ref (ad 6), .ref (ad 7), .ref (ad 8), .int se, .int th, .long ar])), (ad 6, .inl (tc 6, 3, .inl vx)), (ad 7, .inl (tc 7, 3, .inl vy))] sz) (fun u => [(ad 3, .inr (0, [.ref (ad 6), .ref (ad 7), .ref (ad 8), .int se, .int th, .long ar])), (ad 6, .inl (tc 6, 3, .inl vx)), (ad 7, .inl (tc 7, 3, .inl vy))])) (va_A [(ad 3, .inr (0, [.ref (ad 6), .ref (ad 7), .ref (ad 8), .int se, .int th, .long ar])), (ad 6, .inl (tc 6, 3, .inl vx)), (ad 7, .inl (tc 7, 3, .inl vy))] sz)) 0 0 (va_A [(ad 3, .inr (0, [.ref (ad 6), .ref (ad 7), .ref (ad 8), .int se, .int th, .long ar])), (ad 6, .inl (tc 6, 3, .inl vx)), (ad 7, .inl (tc 7, 3, .inl vy))] sz) := by
  refine Met.ofW (cc := cX0_isInside) (maxL := 5) (ret := (some .boolean)) (by decide) rfl ?_
  intro p e s m args below meth cD s₁ B hml hv
  obtain ⟨rfl, hsz, hP, hK, hD0, hN⟩ := hv
  have hx := B.exec
  have hb := B.bytes
  have hr := B.returns
  have hts := atoms_spec (ws := wsX0_isInside) B.pre
  have hown : s.vm.findClass RX0 = some m.cls := findClass_of_methodNamed B.named
  have hlocks := B.notSynchronized
  subst hsz
  have hD := hD0.self (sz := s.heap.size)
  generalize hAe : va_A [(ad 3, .inr (0, [.ref (ad 6), .ref (ad 7), .ref (ad 8), .int se, .int th, .long ar])), (ad 6, .inl (tc 6, 3, .inl vx)), (ad 7, .inl (tc 7, 3, .inl vy))] s.heap.size = A at hD ⊢
  have hA : ∀ q : Nat, s.heap.size ≤ q → A q := fun q h => by rw [← hAe]; exact Or.inr h
  have hS : va_S A s.heap s.heap [] := va_S.rf
  have hP : va_P (dC, dI) vwCl [(ad 3, .inr (0, [.ref (ad 6), .ref (ad 7), .ref (ad 8), .int se, .int th, .long ar])), (ad 6, .inl (tc 6, 3, .inl vx)), (ad 7, .inl (tc 7, 3, .inl vy))] s.heap := hP
  have hl := lv_entry ([.ref (ad 3), .long x, .int a, .int b]) (n := 5) (Nat.le_of_ble_eq_true rfl)
  rw [lg_entry_eq]
  generalize (lg_sl ([.ref (ad 3), .long x, .int a, .int b]) ++ List.replicate (5 - (lg_sl ([.ref (ad 3), .long x, .int a, .int b])).length) Slot.unset).toArray = ls at hl ⊢
  have hl : lv_has ls 5 [(0, .ref (ad 3)), (1, .long x), (3, .int a), (4, .int b)] := hl
  refine lv_lload_n hx hb dX0_isInside_0 rfl (lv_at hl 1 rfl) ?_
  refine lv_lconst (v := 0) hx hb dX0_isInside_1 (by decide) ?_
  refine W.lcmp hx hb dX0_isInside_2 ?_
  refine lv_if_gt (tgt := 22) hx hb dX0_isInside_3 (by decide) (fun c3 => ?_) (fun c3 => ?_)
  · refine lv_iconst (v := 1) hx hb dX0_isInside_22 (by decide) ?_
    refine lv_goto (tgt := 27) hx hb dX0_isInside_23 (by decide) ?_
    have hP9 := hP.sub (ws' := [(ad 3, .inr (0, [.ref (ad 6), .ref (ad 7), .ref (ad 8), .int se, .int th, .long ar])), (ad 6, .inl (tc 6, 3, .inl vx)), (ad 7, .inl (tc 7, 3, .inl vy))]) [0, 1, 2] rfl
    have hD9 := hD.sub (ws' := [(ad 3, .inr (0, [.ref (ad 6), .ref (ad 7), .ref (ad 8), .int se, .int th, .long ar])), (ad 6, .inl (tc 6, 3, .inl vx)), (ad 7, .inl (tc 7, 3, .inl vy))]) [0, 1, 2] (by decide) rfl
    exact W.zret (v := 1) hx hb hr rfl (fun t ht hW => ⟨⟨1, (), rfl, Or.inl ⟨by rw [lg_cmp_gt, Int64.lt_iff_toInt_lt, Int64.toInt_zero] at c3; exact Or.inl c3, rfl⟩, by rw [ht]; exact hP9, va_K.moved hW.alike hK, hD9⟩, hS.F ht⟩) hS.2.2 dX0_isInside_27
  · refine lv_lload_n hx hb dX0_isInside_6 rfl (lv_at hl 1 rfl) ?_
    refine lv_lconst (v := 0) hx hb dX0_isInside_7 (by decide) ?_
    refine W.lcmp hx hb dX0_isInside_8 ?_
    refine lv_if_ne (tgt := 26) hx hb dX0_isInside_9 (by decide) (fun c9 => ?_) (fun c9 => ?_)
    · refine lv_iconst (v := 0) hx hb dX0_isInside_26 (by decide) ?_
      have hP9 := hP.sub (ws' := [(ad 3, .inr (0, [.ref (ad 6), .ref (ad 7), .ref (ad 8), .int se, .int th, .long ar])), (ad 6, .inl (tc 6, 3, .inl vx)), (ad 7, .inl (tc 7, 3, .inl vy))]) [0, 1, 2] rfl
      have hD9 := hD.sub (ws' := [(ad 3, .inr (0, [.ref (ad 6), .ref (ad 7), .ref (ad 8), .int se, .int th, .long ar])), (ad 6, .inl (tc 6, 3, .inl vx)), (ad 7, .inl (tc 7, 3, .inl vy))]) [0, 1, 2] (by decide) rfl
      exact W.zret (v := 0) hx hb hr rfl (fun t ht hW => ⟨⟨0, (), rfl, Or.inr ⟨by rw [lg_cmp_gt, Int64.lt_iff_toInt_lt, Int64.toInt_zero] at c3; rw [lg_cmp_eq, ← Int64.toInt_inj, Int64.toInt_zero] at c9; exact fun h => h.elim c3 (fun h2 => c9 h2.1), rfl⟩, by rw [ht]; exact hP9, va_K.moved hW.alike hK, hD9⟩, hS.F ht⟩) hS.2.2 dX0_isInside_27
    · refine lv_aload_n hx hb dX0_isInside_12 rfl (lv_at hl 0 rfl) ?_
      refine lv_iload_n hx hb dX0_isInside_13 rfl (lv_at hl 2 rfl) ?_
      refine lv_iload hx hb dX0_isInside_14 (lv_at hl 3 rfl) ?_
      refine m_calli (cs := [(ad 3, .inr (0, [.ref (ad 6), .ref (ad 7), .ref (ad 8), .int se, .int th, .long ar])), (ad 6, .inl (tc 6, 3, .inl vx)), (ad 7, .inl (tc 7, 3, .inl vy))]) (wr := []) hP hD hS hA [0, 1, 2] [] rfl rfl (by decide) (by decide) (va_runV (As := [.int a, .int b]) (rest := []) ⟨hx, hb, hml, hown, hts⟩ (c_X0_isTopOrLeft l dC dI _ ad tc se th ar vx vy a b i j hi hj ea eb) (cwV 2 hts gX0_isInside_X0_isTopOrLeft rfl rfl rfl (by decide +kernel) ⟨Nat.le_of_ble_eq_true rfl, Nat.le_of_ble_eq_true rfl⟩) (m_preV (ci := 0) (q0 := 0) (hP.sub [0, 1, 2] rfl) (hK.sub [0, 1] rfl) (hD.sub [0, 1, 2] (by decide) rfl) hN rfl rfl) rfl rfl hl.1 rfl (lv_room (Nat.le_of_ble_eq_true rfl)) dX0_isInside_16 ⟨Nat.le_of_ble_eq_true rfl, Nat.le_of_ble_eq_true rfl⟩) (fun r16 _ H locs q16 _ hP hD hS => ?_)
      have hP : va_P (dC, dI) vwCl [(ad 3, .inr (0, [.ref (ad 6), .ref (ad 7), .ref (ad 8), .int se, .int th, .long ar])), (ad 6, .inl (tc 6, 3, .inl vx)), (ad 7, .inl (tc 7, 3, .inl vy))] H := hP.sub [0, 1, 2] rfl
      have hD : va_D A [(ad 3, .inr (0, [.ref (ad 6), .ref (ad 7), .ref (ad 8), .int se, .int th, .long ar])), (ad 6, .inl (tc 6, 3, .inl vx)), (ad 7, .inl (tc 7, 3, .inl vy))] := hD.sub [0, 1, 2] (by decide) rfl
      refine lv_if_eq (tgt := 26) hx hb dX0_isInside_19 (by decide) (fun c19 => ?_) (fun c19 => ?_)
      · refine lv_iconst (v := 0) hx hb dX0_isInside_26 (by decide) ?_
        have hP9 := hP.sub (ws' := [(ad 3, .inr (0, [.ref (ad 6), .ref (ad 7), .ref (ad 8), .int se, .int th, .long ar])), (ad 6, .inl (tc 6, 3, .inl vx)), (ad 7, .inl (tc 7, 3, .inl vy))]) [0, 1, 2] rfl
        have hD9 := hD.sub (ws' := [(ad 3, .inr (0, [.ref (ad 6), .ref (ad 7), .ref (ad 8), .int se, .int th, .long ar])), (ad 6, .inl (tc 6, 3, .inl vx)), (ad 7, .inl (tc 7, 3, .inl vy))]) [0, 1, 2] (by decide) rfl
        exact W.zret (v := 0) hx hb hr rfl (fun t ht hW => ⟨⟨0, (), rfl, Or.inr ⟨by rw [lg_cmp_gt, Int64.lt_iff_toInt_lt, Int64.toInt_zero] at c3; rw [lg_cmp_eq, ← Int64.toInt_inj, Int64.toInt_zero] at c9; exact fun h => h.elim c3 (fun h2 => (b01 q16).mp c19 h2.2), rfl⟩, by rw [ht]; exact hP9, va_K.moved hW.alike hK, hD9⟩, hS.F ht⟩) hS.2.2 dX0_isInside_27
      · refine lv_iconst (v := 1) hx hb dX0_isInside_22 (by decide) ?_
        refine lv_goto (tgt := 27) hx hb dX0_isInside_23 (by decide) ?_
        have hP9 := hP.sub (ws' := [(ad 3, .inr (0, [.ref (ad 6), .ref (ad 7), .ref (ad 8), .int se, .int th, .long ar])), (ad 6, .inl (tc 6, 3, .inl vx)), (ad 7, .inl (tc 7, 3, .inl vy))]) [0, 1, 2] rfl
        have hD9 := hD.sub (ws' := [(ad 3, .inr (0, [.ref (ad 6), .ref (ad 7), .ref (ad 8), .int se, .int th, .long ar])), (ad 6, .inl (tc 6, 3, .inl vx)), (ad 7, .inl (tc 7, 3, .inl vy))]) [0, 1, 2] (by decide) rfl
        exact W.zret (v := 1) hx hb hr rfl (fun t ht hW => ⟨⟨1, (), rfl, Or.inl ⟨by rw [lg_cmp_gt, Int64.lt_iff_toInt_lt, Int64.toInt_zero] at c3; rw [lg_cmp_eq, ← Int64.toInt_inj, Int64.toInt_zero] at c9; exact Or.inr ⟨c9, Classical.byContradiction (fun h => c19 ((b01 q16).mpr h))⟩, rfl⟩, by rw [ht]; exact hP9, va_K.moved hW.alike hK, hD9⟩, hS.F ht⟩) hS.2.2 dX0_isInside_27

set_option maxHeartbeats 4000000 in
set_option maxRecDepth 100000 in
/-- takeRound -/
theorem c_X0_takeRound (l : Launch) (dC : Nat → ClassId) (dI : Nat → Nat → Nat) (sz : Nat) (ad : Nat → Nat) (tc : Nat → ClassId) (se th : Int32) (ar : Int64) (vx vy : Nat → Int32) (hv : vb vx vy) : Met l yX0_takeRound wsX0_takeRound ({ frames := 1, cells := 0, slots := 0, locals := 28 }) (mP (dC, dI) vwCl [(tc 6, .int), (tc 7, .int)] [(ad 3, .inr (0, [.ref (ad 6), .ref (ad 7), .ref (ad 8), .int se, .int th, .long ar])), (ad 6, .inl (tc 6, 3, .inl vx)), (ad 7, .inl (tc 7, 3, .inl vy))] sz [.ref (ad 3)]) (va_Qv (fun (u : Int32 × Int32 × Int64) => facOK vx vy u.1 u.2.1 u.2.2) (mB (dC, dI) vwCl [(tc 6, .int), (tc 7, .int)] (va_A [(ad 3, .inr (0, [.ref (ad 6), .ref (ad 7), .ref (ad 8), .int se, .int th, .long ar])), (ad 6, .inl (tc 6, 3, .inl vx)), (ad 7, .inl (tc 7, 3, .inl vy))] sz) (fun u => [(ad 3, .inr (0, [.ref (ad 6), .ref (ad 7), .ref (ad 8), .int u.1, .int u.2.1, .long u.2.2])), (ad 6, .inl (tc 6, 3, .inl vx)), (ad 7, .inl (tc 7, 3, .inl vy))])) (va_A [(ad 3, .inr (0, [.ref (ad 6), .ref (ad 7), .ref (ad 8), .int se, .int th, .long ar])), (ad 6, .inl (tc 6, 3, .inl vx)), (ad 7, .inl (tc 7, 3, .inl vy))] sz)) 0 0 (va_A [(ad 3, .inr (0, [.ref (ad 6), .ref (ad 7), .ref (ad 8), .int se, .int th, .long ar])), (ad 6, .inl (tc 6, 3, .inl vx)), (ad 7, .inl (tc 7, 3, .inl vy))] sz) := by
  refine Met.ofW (cc := cX0_takeRound) (maxL := 3) (ret := none) (by decide) rfl ?_
  intro p e s m args below meth cD s₁ B hml hv
  obtain ⟨rfl, hsz, hP, hK, hD0, hN⟩ := hv
  have hx := B.exec
  have hb := B.bytes
  have hr := B.returns
  have hts := atoms_spec (ws := wsX0_takeRound) B.pre
  have hown : s.vm.findClass RX0 = some m.cls := findClass_of_methodNamed B.named
  have hlocks := B.notSynchronized
  subst hsz
  have hD := hD0.self (sz := s.heap.size)
  generalize hAe : va_A [(ad 3, .inr (0, [.ref (ad 6), .ref (ad 7), .ref (ad 8), .int se, .int th, .long ar])), (ad 6, .inl (tc 6, 3, .inl vx)), (ad 7, .inl (tc 7, 3, .inl vy))] s.heap.size = A at hD ⊢
  have hA : ∀ q : Nat, s.heap.size ≤ q → A q := fun q h => by rw [← hAe]; exact Or.inr h
  have hS : va_S A s.heap s.heap [] := va_S.rf
  have hP : va_P (dC, dI) vwCl [(ad 3, .inr (0, [.ref (ad 6), .ref (ad 7), .ref (ad 8), .int se, .int th, .long ar])), (ad 6, .inl (tc 6, 3, .inl vx)), (ad 7, .inl (tc 7, 3, .inl vy))] s.heap := hP
  have hl := lv_entry ([.ref (ad 3)]) (n := 3) (Nat.le_of_ble_eq_true rfl)
  rw [lg_entry_eq]
  generalize (lg_sl ([.ref (ad 3)]) ++ List.replicate (3 - (lg_sl ([.ref (ad 3)])).length) Slot.unset).toArray = ls at hl ⊢
  have hl : lv_has ls 3 [(0, .ref (ad 3))] := hl
  refine lv_aload_n hx hb dX0_takeRound_0 rfl (lv_at hl 0 rfl) ?_
  refine lv_iconst (v := 0) hx hb dX0_takeRound_1 (by decide) ?_
  refine lv_iconst (v := 1) hx hb dX0_takeRound_2 (by decide) ?_
  refine lv_aload_n hx hb dX0_takeRound_3 rfl (lv_at hl 0 rfl) ?_
  refine va_get (D := (dC, dI)) (ci := 0) (v := .ref (ad 6)) (C := RX0) (T := TX0) (N := 6) hx hb hts (by decide +kernel) hown hK hP 0 rfl rfl 0 (by decide) (hts (.fieldLink RX0 9 "TriangleRaster$Facet" "xs" "[I") (by decide +kernel)) (fun _ h9 => h9) rfl dX0_takeRound_4 ?_
  refine lv_iconst (v := 2) hx hb dX0_takeRound_7 (by decide) ?_
  refine va_iald hx hb hK hP 1 0 rfl rfl (by unfold vp_in; decide) dX0_takeRound_8 ?_
  refine lv_aload_n hx hb dX0_takeRound_9 rfl (lv_at hl 0 rfl) ?_
  refine va_get (D := (dC, dI)) (ci := 0) (v := .ref (ad 7)) (C := RX0) (T := TX0) (N := 6) hx hb hts (by decide +kernel) hown hK hP 0 rfl rfl 1 (by decide) (hts (.fieldLink RX0 15 "TriangleRaster$Facet" "ys" "[I") (by decide +kernel)) (fun _ h9 => h9) rfl dX0_takeRound_10 ?_
  refine lv_iconst (v := 2) hx hb dX0_takeRound_13 (by decide) ?_
  refine va_iald hx hb hK hP 2 1 rfl rfl (by unfold vp_in; decide) dX0_takeRound_14 ?_
  refine m_calll (cs := [(ad 3, .inr (0, [.ref (ad 6), .ref (ad 7), .ref (ad 8), .int se, .int th, .long ar])), (ad 6, .inl (tc 6, 3, .inl vx)), (ad 7, .inl (tc 7, 3, .inl vy))]) (wr := []) hP hD hS hA [0, 1, 2] [] rfl rfl (by decide) (by decide) (va_runV (As := [.int 0, .int 1, .int (vx 2), .int (vy 2)]) (rest := []) ⟨hx, hb, hml, hown, hts⟩ (c_X0_edge l dC dI _ ad tc se th ar vx vy hv 0 1 0 1 (by omega) (by omega) rfl rfl (vx 2) (vy 2) (Nat.le_trans (hv 2 (by omega)).1 (by omega)) (Nat.le_trans (hv 2 (by omega)).2 (by omega))) (cwV 4 hts gX0_takeRound_X0_edge rfl rfl rfl (by decide +kernel) ⟨Nat.le_of_ble_eq_true rfl, Nat.le_of_ble_eq_true rfl⟩) (m_preV (ci := 0) (q0 := 0) (hP.sub [0, 1, 2] rfl) (hK.sub [0, 1] rfl) (hD.sub [0, 1, 2] (by decide) rfl) hN rfl rfl) rfl rfl hl.1 rfl (lv_room (Nat.le_of_ble_eq_true rfl)) dX0_takeRound_15 ⟨Nat.le_of_ble_eq_true rfl, Nat.le_of_ble_eq_true rfl⟩) (fun r15 _ H locs q15 _ hP hD hS => ?_)
  have hP : va_P (dC, dI) vwCl [(ad 3, .inr (0, [.ref (ad 6), .ref (ad 7), .ref (ad 8), .int se, .int th, .long ar])), (ad 6, .inl (tc 6, 3, .inl vx)), (ad 7, .inl (tc 7, 3, .inl vy))] H := hP.sub [0, 1, 2] rfl
  have hD : va_D A [(ad 3, .inr (0, [.ref (ad 6), .ref (ad 7), .ref (ad 8), .int se, .int th, .long ar])), (ad 6, .inl (tc 6, 3, .inl vx)), (ad 7, .inl (tc 7, 3, .inl vy))] := hD.sub [0, 1, 2] (by decide) rfl
  have hT : r15.toInt = tT vx vy := q15
  have hTb := tT_b hv
  refine lv_lstore_n (lv' := [(1, .long r15), (0, .ref (ad 3))]) hx hb dX0_takeRound_18 rfl hl (by decide) rfl (fun ls hl => ?_)
  refine lv_aload_n hx hb dX0_takeRound_19 rfl (lv_at hl 1 rfl) ?_
  refine lv_lload_n hx hb dX0_takeRound_20 rfl (lv_at hl 0 rfl) ?_
  refine lv_lconst (v := 0) hx hb dX0_takeRound_21 (by decide) ?_
  refine W.lcmp hx hb dX0_takeRound_22 ?_
  refine lv_if_ge (tgt := 30) hx hb dX0_takeRound_23 (by decide) (fun c23 => ?_) (fun c23 => ?_)
  · refine lv_iconst (v := 1) hx hb dX0_takeRound_30 (by decide) ?_
    refine va_put (D := (dC, dI)) (ci := 0) (v := .int 1) (ty := .int) (C := RX0) (T := TX0) (N := 6) hx hb hts (by decide +kernel) tyX0 tyX0_ok nmX0 hown hK hP hD hS 0 rfl rfl 3 (by decide) (hts (.fieldLink RX0 21 "TriangleRaster$Facet" "second" "I") (by decide +kernel)) (fun _ h9 => h9) rfl (by decide +kernel) rfl rfl (Nat.le_of_ble_eq_true rfl) dX0_takeRound_31 (fun H locs hP hD hS => ?_)
    have hP : va_P (dC, dI) vwCl [(ad 3, .inr (0, [.ref (ad 6), .ref (ad 7), .ref (ad 8), .int 1, .int th, .long ar])), (ad 6, .inl (tc 6, 3, .inl vx)), (ad 7, .inl (tc 7, 3, .inl vy))] H := hP
    have hD : va_D A [(ad 3, .inr (0, [.ref (ad 6), .ref (ad 7), .ref (ad 8), .int 1, .int th, .long ar])), (ad 6, .inl (tc 6, 3, .inl vx)), (ad 7, .inl (tc 7, 3, .inl vy))] := hD
    refine lv_aload_n hx hb dX0_takeRound_34 rfl (lv_at hl 1 rfl) ?_
    refine lv_lload_n hx hb dX0_takeRound_35 rfl (lv_at hl 0 rfl) ?_
    refine lv_lconst (v := 0) hx hb dX0_takeRound_36 (by decide) ?_
    refine W.lcmp hx hb dX0_takeRound_37 ?_
    refine lv_if_ge (tgt := 45) hx hb dX0_takeRound_38 (by decide) (fun c38 => ?_) (fun c38 => ?_)
    · refine lv_iconst (v := 2) hx hb dX0_takeRound_45 (by decide) ?_
      refine va_put (D := (dC, dI)) (ci := 0) (v := .int 2) (ty := .int) (C := RX0) (T := TX0) (N := 6) hx hb hts (by decide +kernel) tyX0 tyX0_ok nmX0 hown hK hP hD hS 0 rfl rfl 4 (by decide) (hts (.fieldLink RX0 25 "TriangleRaster$Facet" "third" "I") (by decide +kernel)) (fun _ h9 => h9) rfl (by decide +kernel) rfl rfl (Nat.le_of_ble_eq_true rfl) dX0_takeRound_46 (fun H locs hP hD hS => ?_)
      have hP : va_P (dC, dI) vwCl [(ad 3, .inr (0, [.ref (ad 6), .ref (ad 7), .ref (ad 8), .int 1, .int 2, .long ar])), (ad 6, .inl (tc 6, 3, .inl vx)), (ad 7, .inl (tc 7, 3, .inl vy))] H := hP
      have hD : va_D A [(ad 3, .inr (0, [.ref (ad 6), .ref (ad 7), .ref (ad 8), .int 1, .int 2, .long ar])), (ad 6, .inl (tc 6, 3, .inl vx)), (ad 7, .inl (tc 7, 3, .inl vy))] := hD
      refine lv_aload_n hx hb dX0_takeRound_49 rfl (lv_at hl 1 rfl) ?_
      refine lv_lload_n hx hb dX0_takeRound_50 rfl (lv_at hl 0 rfl) ?_
      refine va_mabs_long hx hb (by rw [hml]; exact hl.1.symm) hown (hts (.methodLink RX0 39 Lib.MathLoose.abs_long.x) (by decide +kernel)) (hts (.static Lib.MathLoose.abs_long.x) (by decide +kernel)) (hts (.initialized "java/lang/Math") (by decide +kernel)) (hts _ (List.mem_of_getElem? (i := 8) rfl)) (Nat.le_of_ble_eq_true rfl) (Nat.le_of_ble_eq_true rfl) (Nat.zero_le _) (Nat.zero_le _) dX0_takeRound_51 ?_
      refine va_put (D := (dC, dI)) (ci := 0) (v := .long (if 0 < r15 then r15 else -r15)) (ty := .long) (C := RX0) (T := TX0) (N := 6) hx hb hts (by decide +kernel) tyX0 tyX0_ok nmX0 hown hK hP hD hS 0 rfl rfl 5 (by decide) (hts (.fieldLink RX0 28 "TriangleRaster$Facet" "area" "J") (by decide +kernel)) (fun _ h9 => h9) rfl (by decide +kernel) rfl rfl (Nat.le_of_ble_eq_true rfl) dX0_takeRound_54 (fun H locs hP hD hS => ?_)
      have hP : va_P (dC, dI) vwCl [(ad 3, .inr (0, [.ref (ad 6), .ref (ad 7), .ref (ad 8), .int 1, .int 2, .long (if 0 < r15 then r15 else -r15)])), (ad 6, .inl (tc 6, 3, .inl vx)), (ad 7, .inl (tc 7, 3, .inl vy))] H := hP
      have hD : va_D A [(ad 3, .inr (0, [.ref (ad 6), .ref (ad 7), .ref (ad 8), .int 1, .int 2, .long (if 0 < r15 then r15 else -r15)])), (ad 6, .inl (tc 6, 3, .inl vx)), (ad 7, .inl (tc 7, 3, .inl vy))] := hD
      have hP9 := hP.sub (ws' := [(ad 3, .inr (0, [.ref (ad 6), .ref (ad 7), .ref (ad 8), .int 1, .int 2, .long (if 0 < r15 then r15 else -r15)])), (ad 6, .inl (tc 6, 3, .inl vx)), (ad 7, .inl (tc 7, 3, .inl vy))]) [0, 1, 2] rfl
      have hD9 := hD.sub (ws' := [(ad 3, .inr (0, [.ref (ad 6), .ref (ad 7), .ref (ad 8), .int 1, .int 2, .long (if 0 < r15 then r15 else -r15)])), (ad 6, .inl (tc 6, 3, .inl vx)), (ad 7, .inl (tc 7, 3, .inl vy))]) [0, 1, 2] (by decide) rfl
      exact W.vret hx hb hr (fun t ht hW => ⟨⟨(1, 2, if 0 < r15 then r15 else -r15), rfl, by rw [lg_cmp_ge, Int64.le_iff_toInt_le, Int64.toInt_zero, hT] at c23; exact Or.inr ⟨by omega, rfl, rfl, by show (if 0 < r15 then r15 else -r15).toInt = _; by_cases h0 : (0 : Int64) < r15; rw [if_pos h0, hT]; rw [if_neg h0, Jvm.Kit.i64_neg (by omega), hT]; rw [Int64.lt_iff_toInt_lt, Int64.toInt_zero, hT] at h0; omega⟩, by rw [ht]; exact hP9, va_K.moved hW.alike hK, hD9⟩, hS.F ht⟩) hS.2.2 dX0_takeRound_57
    · exact absurd c23 c38
  · refine lv_iconst (v := 2) hx hb dX0_takeRound_26 (by decide) ?_
    refine lv_goto (tgt := 31) hx hb dX0_takeRound_27 (by decide) ?_
    refine va_put (D := (dC, dI)) (ci := 0) (v := .int 2) (ty := .int) (C := RX0) (T := TX0) (N := 6) hx hb hts (by decide +kernel) tyX0 tyX0_ok nmX0 hown hK hP hD hS 0 rfl rfl 3 (by decide) (hts (.fieldLink RX0 21 "TriangleRaster$Facet" "second" "I") (by decide +kernel)) (fun _ h9 => h9) rfl (by decide +kernel) rfl rfl (Nat.le_of_ble_eq_true rfl) dX0_takeRound_31 (fun H locs hP hD hS => ?_)
    have hP : va_P (dC, dI) vwCl [(ad 3, .inr (0, [.ref (ad 6), .ref (ad 7), .ref (ad 8), .int 2, .int th, .long ar])), (ad 6, .inl (tc 6, 3, .inl vx)), (ad 7, .inl (tc 7, 3, .inl vy))] H := hP
    have hD : va_D A [(ad 3, .inr (0, [.ref (ad 6), .ref (ad 7), .ref (ad 8), .int 2, .int th, .long ar])), (ad 6, .inl (tc 6, 3, .inl vx)), (ad 7, .inl (tc 7, 3, .inl vy))] := hD
    refine lv_aload_n hx hb dX0_takeRound_34 rfl (lv_at hl 1 rfl) ?_
    refine lv_lload_n hx hb dX0_takeRound_35 rfl (lv_at hl 0 rfl) ?_
    refine lv_lconst (v := 0) hx hb dX0_takeRound_36 (by decide) ?_
    refine W.lcmp hx hb dX0_takeRound_37 ?_
    refine lv_if_ge (tgt := 45) hx hb dX0_takeRound_38 (by decide) (fun c38 => ?_) (fun c38 => ?_)
    · exact absurd c38 c23
    · refine lv_iconst (v := 1) hx hb dX0_takeRound_41 (by decide) ?_
      refine lv_goto (tgt := 46) hx hb dX0_takeRound_42 (by decide) ?_
      refine va_put (D := (dC, dI)) (ci := 0) (v := .int 1) (ty := .int) (C := RX0) (T := TX0) (N := 6) hx hb hts (by decide +kernel) tyX0 tyX0_ok nmX0 hown hK hP hD hS 0 rfl rfl 4 (by decide) (hts (.fieldLink RX0 25 "TriangleRaster$Facet" "third" "I") (by decide +kernel)) (fun _ h9 => h9) rfl (by decide +kernel) rfl rfl (Nat.le_of_ble_eq_true rfl) dX0_takeRound_46 (fun H locs hP hD hS => ?_)
      have hP : va_P (dC, dI) vwCl [(ad 3, .inr (0, [.ref (ad 6), .ref (ad 7), .ref (ad 8), .int 2, .int 1, .long ar])), (ad 6, .inl (tc 6, 3, .inl vx)), (ad 7, .inl (tc 7, 3, .inl vy))] H := hP
      have hD : va_D A [(ad 3, .inr (0, [.ref (ad 6), .ref (ad 7), .ref (ad 8), .int 2, .int 1, .long ar])), (ad 6, .inl (tc 6, 3, .inl vx)), (ad 7, .inl (tc 7, 3, .inl vy))] := hD
      refine lv_aload_n hx hb dX0_takeRound_49 rfl (lv_at hl 1 rfl) ?_
      refine lv_lload_n hx hb dX0_takeRound_50 rfl (lv_at hl 0 rfl) ?_
      refine va_mabs_long hx hb (by rw [hml]; exact hl.1.symm) hown (hts (.methodLink RX0 39 Lib.MathLoose.abs_long.x) (by decide +kernel)) (hts (.static Lib.MathLoose.abs_long.x) (by decide +kernel)) (hts (.initialized "java/lang/Math") (by decide +kernel)) (hts _ (List.mem_of_getElem? (i := 8) rfl)) (Nat.le_of_ble_eq_true rfl) (Nat.le_of_ble_eq_true rfl) (Nat.zero_le _) (Nat.zero_le _) dX0_takeRound_51 ?_
      refine va_put (D := (dC, dI)) (ci := 0) (v := .long (if 0 < r15 then r15 else -r15)) (ty := .long) (C := RX0) (T := TX0) (N := 6) hx hb hts (by decide +kernel) tyX0 tyX0_ok nmX0 hown hK hP hD hS 0 rfl rfl 5 (by decide) (hts (.fieldLink RX0 28 "TriangleRaster$Facet" "area" "J") (by decide +kernel)) (fun _ h9 => h9) rfl (by decide +kernel) rfl rfl (Nat.le_of_ble_eq_true rfl) dX0_takeRound_54 (fun H locs hP hD hS => ?_)
      have hP : va_P (dC, dI) vwCl [(ad 3, .inr (0, [.ref (ad 6), .ref (ad 7), .ref (ad 8), .int 2, .int 1, .long (if 0 < r15 then r15 else -r15)])), (ad 6, .inl (tc 6, 3, .inl vx)), (ad 7, .inl (tc 7, 3, .inl vy))] H := hP
      have hD : va_D A [(ad 3, .inr (0, [.ref (ad 6), .ref (ad 7), .ref (ad 8), .int 2, .int 1, .long (if 0 < r15 then r15 else -r15)])), (ad 6, .inl (tc 6, 3, .inl vx)), (ad 7, .inl (tc 7, 3, .inl vy))] := hD
      have hP9 := hP.sub (ws' := [(ad 3, .inr (0, [.ref (ad 6), .ref (ad 7), .ref (ad 8), .int 2, .int 1, .long (if 0 < r15 then r15 else -r15)])), (ad 6, .inl (tc 6, 3, .inl vx)), (ad 7, .inl (tc 7, 3, .inl vy))]) [0, 1, 2] rfl
      have hD9 := hD.sub (ws' := [(ad 3, .inr (0, [.ref (ad 6), .ref (ad 7), .ref (ad 8), .int 2, .int 1, .long (if 0 < r15 then r15 else -r15)])), (ad 6, .inl (tc 6, 3, .inl vx)), (ad 7, .inl (tc 7, 3, .inl vy))]) [0, 1, 2] (by decide) rfl
      exact W.vret hx hb hr (fun t ht hW => ⟨⟨(2, 1, if 0 < r15 then r15 else -r15), rfl, by rw [lg_cmp_ge, Int64.le_iff_toInt_le, Int64.toInt_zero, hT] at c23; exact Or.inl ⟨by omega, rfl, rfl, by show (if 0 < r15 then r15 else -r15).toInt = _; rw [if_neg (by rw [Int64.lt_iff_toInt_lt, Int64.toInt_zero, hT]; omega), Jvm.Kit.i64_neg (by omega), hT]⟩, by rw [ht]; exact hP9, va_K.moved hW.alike hK, hD9⟩, hS.F ht⟩) hS.2.2 dX0_takeRound_57

set_option maxHeartbeats 4000000 in
set_option maxRecDepth 100000 in
/-- place -/
theorem c_X0_place (l : Launch) (dC : Nat → ClassId) (dI : Nat → Nat → Nat) (sz : Nat) (ad : Nat → Nat) (tc : Nat → ClassId) (se th : Int32) (ar : Int64) (vx vy : Nat → Int32) (vz : Nat → Int32) (k x y z : Int32) (i : Nat) (hi : i < 3) (ek : k = nI i) (hv : vb (upd vx i x) (upd vy i y)) : Met l yX0_place wsX0_place ({ frames := 2, cells := 0, slots := 0, locals := 50 }) (mP (dC, dI) vwCl [(tc 6, .int), (tc 7, .int), (tc 8, .int)] [(ad 3, .inr (0, [.ref (ad 6), .ref (ad 7), .ref (ad 8), .int se, .int th, .long ar])), (ad 6, .inl (tc 6, 3, .inl vx)), (ad 7, .inl (tc 7, 3, .inl vy)), (ad 8, .inl (tc 8, 3, .inl vz))] sz [.ref (ad 3), .int k, .int x, .int y, .int z]) (va_Qv (fun (u : Int32 × Int32 × Int64) => facOK (upd vx i x) (upd vy i y) u.1 u.2.1 u.2.2) (mB (dC, dI) vwCl [(tc 6, .int), (tc 7, .int), (tc 8, .int)] (va_A [(ad 3, .inr (0, [.ref (ad 6), .ref (ad 7), .ref (ad 8), .int se, .int th, .long ar])), (ad 6, .inl (tc 6, 3, .inl vx)), (ad 7, .inl (tc 7, 3, .inl vy)), (ad 8, .inl (tc 8, 3, .inl vz))] sz) (fun u => [(ad 3, .inr (0, [.ref (ad 6), .ref (ad 7), .ref (ad 8), .int u.1, .int u.2.1, .long u.2.2])), (ad 6, .inl (tc 6, 3, .inl (upd vx i x))), (ad 7, .inl (tc 7, 3, .inl (upd vy i y))), (ad 8, .inl (tc 8, 3, .inl (upd vz i z)))])) (va_A [(ad 3, .inr (0, [.ref (ad 6), .ref (ad 7), .ref (ad 8), .int se, .int th, .long ar])), (ad 6, .inl (tc 6, 3, .inl vx)), (ad 7, .inl (tc 7, 3, .inl vy)), (ad 8, .inl (tc 8, 3, .inl vz))] sz)) 0 0 (va_A [(ad 3, .inr (0, [.ref (ad 6), .ref (ad 7), .ref (ad 8), .int se, .int th, .long ar])), (ad 6, .inl (tc 6, 3, .inl vx)), (ad 7, .inl (tc 7, 3, .inl vy)), (ad 8, .inl (tc 8, 3, .inl vz))] sz) := by
  refine Met.ofW (cc := cX0_place) (maxL := 5) (ret := none) (by decide) rfl ?_
  intro p e s m args below meth cD s₁ B hml hv
  obtain ⟨rfl, hsz, hP, hK, hD0, hN⟩ := hv
  have hx := B.exec
  have hb := B.bytes
  have hr := B.returns
  have hts := atoms_spec (ws := wsX0_place) B.pre
  have hown : s.vm.findClass RX0 = some m.cls := findClass_of_methodNamed B.named
  have hlocks := B.notSynchronized
  subst hsz
  have hD := hD0.self (sz := s.heap.size)
  generalize hAe : va_A [(ad 3, .inr (0, [.ref (ad 6), .ref (ad 7), .ref (ad 8), .int se, .int th, .long ar])), (ad 6, .inl (tc 6, 3, .inl vx)), (ad 7, .inl (tc 7, 3, .inl vy)), (ad 8, .inl (tc 8, 3, .inl vz))] s.heap.size = A at hD ⊢
  have hA : ∀ q : Nat, s.heap.size ≤ q → A q := fun q h => by rw [← hAe]; exact Or.inr h
  have hS : va_S A s.heap s.heap [] := va_S.rf
  have hP : va_P (dC, dI) vwCl [(ad 3, .inr (0, [.ref (ad 6), .ref (ad 7), .ref (ad 8), .int se, .int th, .long ar])), (ad 6, .inl (tc 6, 3, .inl vx)), (ad 7, .inl (tc 7, 3, .inl vy)), (ad 8, .inl (tc 8, 3, .inl vz))] s.heap := hP
  have hl := lv_entry ([.ref (ad 3), .int k, .int x, .int y, .int z]) (n := 5) (Nat.le_of_ble_eq_true rfl)
  rw [lg_entry_eq]
  generalize (lg_sl ([.ref (ad 3), .int k, .int x, .int y, .int z]) ++ List.replicate (5 - (lg_sl ([.ref (ad 3), .int k, .int x, .int y, .int z])).length) Slot.unset).toArray = ls at hl ⊢
  have hl : lv_has ls 5 [(0, .ref (ad 3)), (1, .int k), (2, .int x), (3, .int y), (4, .int z)] := hl
  have hik : vp_in k 3 := by rw [ek]; exact vp_in_nI hi (by omega)
  have hck : k.toNatClampNeg = i := by rw [ek]; exact nI_clamp (by omega)
  refine lv_aload_n hx hb dX0_place_0 rfl (lv_at hl 0 rfl) ?_
  refine va_get (D := (dC, dI)) (ci := 0) (v := .ref (ad 6)) (C := RX0) (T := TX0) (N := 6) hx hb hts (by decide +kernel) hown hK hP 0 rfl rfl 0 (by decide) (hts (.fieldLink RX0 9 "TriangleRaster$Facet" "xs" "[I") (by decide +kernel)) (fun _ h9 => h9) rfl dX0_place_1 ?_
  refine lv_iload_n hx hb dX0_place_4 rfl (lv_at hl 1 rfl) ?_
  refine lv_iload_n hx hb dX0_place_5 rfl (lv_at hl 2 rfl) ?_
  refine va_iast hx hb hK hP hD hS 1 0 rfl rfl hik dX0_place_6 (fun H locs hP hD hS => ?_)
  have hP : va_P (dC, dI) vwCl [(ad 3, .inr (0, [.ref (ad 6), .ref (ad 7), .ref (ad 8), .int se, .int th, .long ar])), (ad 6, .inl (tc 6, 3, .inl (upd vx k.toNatClampNeg x))), (ad 7, .inl (tc 7, 3, .inl vy)), (ad 8, .inl (tc 8, 3, .inl vz))] H := hP
  have hD : va_D A [(ad 3, .inr (0, [.ref (ad 6), .ref (ad 7), .ref (ad 8), .int se, .int th, .long ar])), (ad 6, .inl (tc 6, 3, .inl (upd vx k.toNatClampNeg x))), (ad 7, .inl (tc 7, 3, .inl vy)), (ad 8, .inl (tc 8, 3, .inl vz))] := hD
  refine lv_aload_n hx hb dX0_place_7 rfl (lv_at hl 0 rfl) ?_
  refine va_get (D := (dC, dI)) (ci := 0) (v := .ref (ad 7)) (C := RX0) (T := TX0) (N := 6) hx hb hts (by decide +kernel) hown hK hP 0 rfl rfl 1 (by decide) (hts (.fieldLink RX0 15 "TriangleRaster$Facet" "ys" "[I") (by decide +kernel)) (fun _ h9 => h9) rfl dX0_place_8 ?_
  refine lv_iload_n hx hb dX0_place_11 rfl (lv_at hl 1 rfl) ?_
  refine lv_iload_n hx hb dX0_place_12 rfl (lv_at hl 3 rfl) ?_
  refine va_iast hx hb hK hP hD hS 2 1 rfl rfl hik dX0_place_13 (fun H locs hP hD hS => ?_)
  have hP : va_P (dC, dI) vwCl [(ad 3, .inr (0, [.ref (ad 6), .ref (ad 7), .ref (ad 8), .int se, .int th, .long ar])), (ad 6, .inl (tc 6, 3, .inl (upd vx k.toNatClampNeg x))), (ad 7, .inl (tc 7, 3, .inl (upd vy k.toNatClampNeg y))), (ad 8, .inl (tc 8, 3, .inl vz))] H := hP
  have hD : va_D A [(ad 3, .inr (0, [.ref (ad 6), .ref (ad 7), .ref (ad 8), .int se, .int th, .long ar])), (ad 6, .inl (tc 6, 3, .inl (upd vx k.toNatClampNeg x))), (ad 7, .inl (tc 7, 3, .inl (upd vy k.toNatClampNeg y))), (ad 8, .inl (tc 8, 3, .inl vz))] := hD
  refine lv_aload_n hx hb dX0_place_14 rfl (lv_at hl 0 rfl) ?_
  refine va_get (D := (dC, dI)) (ci := 0) (v := .ref (ad 8)) (C := RX0) (T := TX0) (N := 6) hx hb hts (by decide +kernel) hown hK hP 0 rfl rfl 2 (by decide) (hts (.fieldLink RX0 18 "TriangleRaster$Facet" "zs" "[I") (by decide +kernel)) (fun _ h9 => h9) rfl dX0_place_15 ?_
  refine lv_iload_n hx hb dX0_place_18 rfl (lv_at hl 1 rfl) ?_
  refine lv_iload hx hb dX0_place_19 (lv_at hl 4 rfl) ?_
  refine va_iast hx hb hK hP hD hS 3 2 rfl rfl hik dX0_place_21 (fun H locs hP hD hS => ?_)
  have hP : va_P (dC, dI) vwCl [(ad 3, .inr (0, [.ref (ad 6), .ref (ad 7), .ref (ad 8), .int se, .int th, .long ar])), (ad 6, .inl (tc 6, 3, .inl (upd vx k.toNatClampNeg x))), (ad 7, .inl (tc 7, 3, .inl (upd vy k.toNatClampNeg y))), (ad 8, .inl (tc 8, 3, .inl (upd vz k.toNatClampNeg z)))] H := hP
  have hD : va_D A [(ad 3, .inr (0, [.ref (ad 6), .ref (ad 7), .ref (ad 8), .int se, .int th, .long ar])), (ad 6, .inl (tc 6, 3, .inl (upd vx k.toNatClampNeg x))), (ad 7, .inl (tc 7, 3, .inl (upd vy k.toNatClampNeg y))), (ad 8, .inl (tc 8, 3, .inl (upd vz k.toNatClampNeg z)))] := hD
  rw [hck] at hP hD
  have hP : va_P (dC, dI) vwCl [(ad 3, .inr (0, [.ref (ad 6), .ref (ad 7), .ref (ad 8), .int se, .int th, .long ar])), (ad 6, .inl (tc 6, 3, .inl (upd vx i x))), (ad 7, .inl (tc 7, 3, .inl (upd vy i y))), (ad 8, .inl (tc 8, 3, .inl (upd vz i z)))] H := hP
  have hD : va_D A [(ad 3, .inr (0, [.ref (ad 6), .ref (ad 7), .ref (ad 8), .int se, .int th, .long ar])), (ad 6, .inl (tc 6, 3, .inl (upd vx i x))), (ad 7, .inl (tc 7, 3, .inl (upd vy i y))), (ad 8, .inl (tc 8, 3, .inl (upd vz i z)))] := hD
  refine lv_aload_n hx hb dX0_place_22 rfl (lv_at hl 0 rfl) ?_
  refine m_callv (cs := [(ad 3, .inr (0, [.ref (ad 6), .ref (ad 7), .ref (ad 8), .int se, .int th, .long ar])), (ad 6, .inl (tc 6, 3, .inl (upd vx i x))), (ad 7, .inl (tc 7, 3, .inl (upd vy i y)))]) (wr := [(ad 8, .inl (tc 8, 3, .inl (upd vz i z)))]) hP hD hS hA [0, 1, 2] [3] rfl rfl (by decide) (by decide) (va_runV (As := []) (rest := []) ⟨hx, hb, hml, hown, hts⟩ (c_X0_takeRound l dC dI _ ad tc se th ar (upd vx i x) (upd vy i y) hv) (cwV 0 hts gX0_place_X0_takeRound rfl rfl rfl (by decide +kernel) ⟨Nat.le_of_ble_eq_true rfl, Nat.le_of_ble_eq_true rfl⟩) (m_preV (ci := 0) (q0 := 0) (hP.sub [0, 1, 2] rfl) (hK.sub [0, 1] rfl) (hD.sub [0, 1, 2] (by decide) rfl) hN rfl rfl) rfl rfl hl.1 rfl (lv_room (Nat.le_of_ble_eq_true rfl)) dX0_place_23 ⟨Nat.le_of_ble_eq_true rfl, Nat.le_of_ble_eq_true rfl⟩) (fun u23 H locs q23 _ hP hD hS => ?_)
  obtain ⟨se23, th23, ar23⟩ := u23
  have hP : va_P (dC, dI) vwCl [(ad 3, .inr (0, [.ref (ad 6), .ref (ad 7), .ref (ad 8), .int se23, .int th23, .long ar23])), (ad 6, .inl (tc 6, 3, .inl (upd vx i x))), (ad 7, .inl (tc 7, 3, .inl (upd vy i y))), (ad 8, .inl (tc 8, 3, .inl (upd vz i z)))] H := hP.sub [1, 2, 3, 0] rfl
  have hD : va_D A [(ad 3, .inr (0, [.ref (ad 6), .ref (ad 7), .ref (ad 8), .int se23, .int th23, .long ar23])), (ad 6, .inl (tc 6, 3, .inl (upd vx i x))), (ad 7, .inl (tc 7, 3, .inl (upd vy i y))), (ad 8, .inl (tc 8, 3, .inl (upd vz i z)))] := hD.sub [1, 2, 3, 0] (by decide) rfl
  have hP9 := hP.sub (ws' := [(ad 3, .inr (0, [.ref (ad 6), .ref (ad 7), .ref (ad 8), .int se23, .int th23, .long ar23])), (ad 6, .inl (tc 6, 3, .inl (upd vx i x))), (ad 7, .inl (tc 7, 3, .inl (upd vy i y))), (ad 8, .inl (tc 8, 3, .inl (upd vz i z)))]) [0, 1, 2, 3] rfl
  have hD9 := hD.sub (ws' := [(ad 3, .inr (0, [.ref (ad 6), .ref (ad 7), .ref (ad 8), .int se23, .int th23, .long ar23])), (ad 6, .inl (tc 6, 3, .inl (upd vx i x))), (ad 7, .inl (tc 7, 3, .inl (upd vy i y))), (ad 8, .inl (tc 8, 3, .inl (upd vz i z)))]) [0, 1, 2, 3] (by decide) rfl
  exact W.vret hx hb hr (fun t ht hW => ⟨⟨(se23, th23, ar23), rfl, q23, by rw [ht]; exact hP9, va_K.moved hW.alike hK, hD9⟩, hS.F ht⟩) hS.2.2 dX0_place_26

set_option maxHeartbeats 4000000 in
set_option maxRecDepth 100000 in
/-- depthOver -/
theorem c_X0_depthOver (l : Launch) (dC : Nat → ClassId) (dI : Nat → Nat → Nat) (sz : Nat) (ad : Nat → Nat) (tc : Nat → ClassId) (se th : Int32) (ar : Int64) (vx vy : Nat → Int32) (vz : Nat → Int32) (hv : vb vx vy) (hz : zb vz) (hf : facOK vx vy se th ar) (cl rw_ : Int32) (hcl : cl.toInt.natAbs ≤ 2000) (hrw : rw_.toInt.natAbs ≤ 2000) : Met l yX0_depthOver wsX0_depthOver ({ frames := 2, cells := 0, slots := 0, locals := 48 }) (mP (dC, dI) vwCl [(tc 6, .int), (tc 7, .int), (tc 8, .int)] [(ad 3, .inr (0, [.ref (ad 6), .ref (ad 7), .ref (ad 8), .int se, .int th, .long ar])), (ad 6, .inl (tc 6, 3, .inl vx)), (ad 7, .inl (tc 7, 3, .inl vy)), (ad 8, .inl (tc 8, 3, .inl vz))] sz [.ref (ad 3), .int cl, .int rw_]) (va_Qi (fun (r : Int32) (u : Unit) => (COV vx vy cl.toInt rw_.toInt ∧ r = Int32.ofInt (DPT vx vy vz cl.toInt rw_.toInt)) ∨ (¬ COV vx vy cl.toInt rw_.toInt ∧ r = -1)) (mB (dC, dI) vwCl [(tc 6, .int), (tc 7, .int), (tc 8, .int)] (va_A [(ad 3, .inr (0, [.ref (ad 6), .ref (ad 7), .ref (ad 8), .int se, .int th, .long ar])), (ad 6, .inl (tc 6, 3, .inl vx)), (ad 7, .inl (tc 7, 3, .inl vy)), (ad 8, .inl (tc 8, 3, .inl vz))] sz) (fun u => [(ad 3, .inr (0, [.ref (ad 6), .ref (ad 7), .ref (ad 8), .int se, .int th, .long ar])), (ad 6, .inl (tc 6, 3, .inl vx)), (ad 7, .inl (tc 7, 3, .inl vy)), (ad 8, .inl (tc 8, 3, .inl vz))])) (va_A [(ad 3, .inr (0, [.ref (ad 6), .ref (ad 7), .ref (ad 8), .int se, .int th, .long ar])), (ad 6, .inl (tc 6, 3, .inl vx)), (ad 7, .inl (tc 7, 3, .inl vy)), (ad 8, .inl (tc 8, 3, .inl vz))] sz)) 0 0 (va_A [(ad 3, .inr (0, [.ref (ad 6), .ref (ad 7), .ref (ad 8), .int se, .int th, .long ar])), (ad 6, .inl (tc 6, 3, .inl vx)), (ad 7, .inl (tc 7, 3, .inl vy)), (ad 8, .inl (tc 8, 3, .inl vz))] sz) := by
  refine Met.ofW (cc := cX0_depthOver) (maxL := 11) (ret := (some .int)) (by decide) rfl ?_
  intro p e s m args below meth cD s₁ B hml hv
  obtain ⟨rfl, hsz, hP, hK, hD0, hN⟩ := hv
  have hx := B.exec
  have hb := B.bytes
  have hr := B.returns
  have hts := atoms_spec (ws := wsX0_depthOver) B.pre
  have hown : s.vm.findClass RX0 = some m.cls := findClass_of_methodNamed B.named
  have hlocks := B.notSynchronized
  subst hsz
  have hD := hD0.self (sz := s.heap.size)
  generalize hAe : va_A [(ad 3, .inr (0, [.ref (ad 6), .ref (ad 7), .ref (ad 8), .int se, .int th, .long ar])), (ad 6, .inl (tc 6, 3, .inl vx)), (ad 7, .inl (tc 7, 3, .inl vy)), (ad 8, .inl (tc 8, 3, .inl vz))] s.heap.size = A at hD ⊢
  have hA : ∀ q : Nat, s.heap.size ≤ q → A q := fun q h => by rw [← hAe]; exact Or.inr h
  have hS : va_S A s.heap s.heap [] := va_S.rf
  have hP : va_P (dC, dI) vwCl [(ad 3, .inr (0, [.ref (ad 6), .ref (ad 7), .ref (ad 8), .int se, .int th, .long ar])), (ad 6, .inl (tc 6, 3, .inl vx)), (ad 7, .inl (tc 7, 3, .inl vy)), (ad 8, .inl (tc 8, 3, .inl vz))] s.heap := hP
  have hl := lv_entry ([.ref (ad 3), .int cl, .int rw_]) (n := 11) (Nat.le_of_ble_eq_true rfl)
  rw [lg_entry_eq]
  generalize (lg_sl ([.ref (ad 3), .int cl, .int rw_]) ++ List.replicate (11 - (lg_sl ([.ref (ad 3), .int cl, .int rw_])).length) Slot.unset).toArray = ls at hl ⊢
  have hl : lv_has ls 11 [(0, .ref (ad 3)), (1, .int cl), (2, .int rw_)] := hl
  have epx : (16 * cl + 8).toInt = 16 * cl.toInt + 8 := by
    have h1 : (16 * cl).toInt = 16 * cl.toInt := by rw [Jvm.Kit.i32_mul (by rw [show (16 : Int32).toInt = 16 from by decide]; omega) (by rw [show (16 : Int32).toInt = 16 from by decide]; omega)]; rfl
    rw [Jvm.Kit.i32_add (by rw [h1, show (8 : Int32).toInt = 8 from by decide]; omega) (by rw [h1, show (8 : Int32).toInt = 8 from by decide]; omega), h1]; rfl
  have epy : (16 * rw_ + 8).toInt = 16 * rw_.toInt + 8 := by
    have h1 : (16 * rw_).toInt = 16 * rw_.toInt := by rw [Jvm.Kit.i32_mul (by rw [show (16 : Int32).toInt = 16 from by decide]; omega) (by rw [show (16 : Int32).toInt = 16 from by decide]; omega)]; rfl
    rw [Jvm.Kit.i32_add (by rw [h1, show (8 : Int32).toInt = 8 from by decide]; omega) (by rw [h1, show (8 : Int32).toInt = 8 from by decide]; omega), h1]; rfl
  have hbx : (16 * cl + 8).toInt.natAbs ≤ 33000 := by rw [epx]; omega
  have hby : (16 * rw_ + 8).toInt.natAbs ≤ 33000 := by rw [epy]; omega
  rcases hf with ⟨hT, rfl, rfl, har⟩ | ⟨hT, rfl, rfl, har⟩
  · refine lv_aload_n hx hb dX0_depthOver_0 rfl (lv_at hl 0 rfl) ?_
    refine va_get (D := (dC, dI)) (ci := 0) (v := .long ar) (C := RX0) (T := TX0) (N := 6) hx hb hts (by decide +kernel) hown hK hP 0 rfl rfl 5 (by decide) (hts (.fieldLink RX0 28 "TriangleRaster$Facet" "area" "J") (by decide +kernel)) (fun _ h9 => h9) rfl dX0_depthOver_1 ?_
    refine lv_lconst (v := 0) hx hb dX0_depthOver_4 (by decide) ?_
    refine W.lcmp hx hb dX0_depthOver_5 ?_
    refine lv_if_ne (tgt := 11) hx hb dX0_depthOver_6 (by decide) (fun c6 => ?_) (fun c6 => ?_)
    · refine lv_bipush (v := 16) hx hb dX0_depthOver_11 (by decide) ?_
      refine lv_iload_n hx hb dX0_depthOver_13 rfl (lv_at hl 1 rfl) ?_
      refine lv_imul hx hb dX0_depthOver_14 ?_
      refine lv_bipush (v := 8) hx hb dX0_depthOver_15 (by decide) ?_
      refine lv_iadd hx hb dX0_depthOver_17 ?_
      refine lv_istore_n (lv' := [(3, .int ((16 * cl) + 8)), (0, .ref (ad 3)), (1, .int cl), (2, .int rw_)]) hx hb dX0_depthOver_18 rfl hl (by decide) rfl (fun ls hl => ?_)
      refine lv_bipush (v := 16) hx hb dX0_depthOver_19 (by decide) ?_
      refine lv_iload_n hx hb dX0_depthOver_21 rfl (lv_at hl 3 rfl) ?_
      refine lv_imul hx hb dX0_depthOver_22 ?_
      refine lv_bipush (v := 8) hx hb dX0_depthOver_23 (by decide) ?_
      refine lv_iadd hx hb dX0_depthOver_25 ?_
      refine lv_istore (lv' := [(4, .int ((16 * rw_) + 8)), (3, .int ((16 * cl) + 8)), (0, .ref (ad 3)), (1, .int cl), (2, .int rw_)]) hx hb dX0_depthOver_26 hl (by decide) rfl (fun ls hl => ?_)
      refine lv_aload_n hx hb dX0_depthOver_28 rfl (lv_at hl 2 rfl) ?_
      refine lv_aload_n hx hb dX0_depthOver_29 rfl (lv_at hl 2 rfl) ?_
      refine va_get (D := (dC, dI)) (ci := 0) (v := .int 2) (C := RX0) (T := TX0) (N := 6) hx hb hts (by decide +kernel) hown hK hP 0 rfl rfl 3 (by decide) (hts (.fieldLink RX0 21 "TriangleRaster$Facet" "second" "I") (by decide +kernel)) (fun _ h9 => h9) rfl dX0_depthOver_30 ?_
      refine lv_aload_n hx hb dX0_depthOver_33 rfl (lv_at hl 2 rfl) ?_
      refine va_get (D := (dC, dI)) (ci := 0) (v := .int 1) (C := RX0) (T := TX0) (N := 6) hx hb hts (by decide +kernel) hown hK hP 0 rfl rfl 4 (by decide) (hts (.fieldLink RX0 25 "TriangleRaster$Facet" "third" "I") (by decide +kernel)) (fun _ h9 => h9) rfl dX0_depthOver_34 ?_
      refine lv_iload_n hx hb dX0_depthOver_37 rfl (lv_at hl 1 rfl) ?_
      refine lv_iload hx hb dX0_depthOver_38 (lv_at hl 0 rfl) ?_
      refine m_calll (cs := [(ad 3, .inr (0, [.ref (ad 6), .ref (ad 7), .ref (ad 8), .int 2, .int 1, .long ar])), (ad 6, .inl (tc 6, 3, .inl vx)), (ad 7, .inl (tc 7, 3, .inl vy))]) (wr := [(ad 8, .inl (tc 8, 3, .inl vz))]) hP hD hS hA [0, 1, 2] [3] rfl rfl (by decide) (by decide) (va_runV (As := [.int 2, .int 1, .int ((16 * cl) + 8), .int ((16 * rw_) + 8)]) (rest := []) ⟨hx, hb, hml, hown, hts⟩ (c_X0_edge l dC dI _ ad tc 2 1 ar vx vy hv 2 1 2 1 (by omega) (by omega) rfl rfl ((16 * cl) + 8) ((16 * rw_) + 8) hbx hby) (cwV 4 hts gX0_depthOver_X0_edge rfl rfl rfl (by decide +kernel) ⟨Nat.le_of_ble_eq_true rfl, Nat.le_of_ble_eq_true rfl⟩) (m_preV (ci := 0) (q0 := 0) (hP.sub [0, 1, 2] rfl) (hK.sub [0, 1] rfl) (hD.sub [0, 1, 2] (by decide) rfl) hN rfl rfl) rfl rfl hl.1 rfl (lv_room (Nat.le_of_ble_eq_true rfl)) dX0_depthOver_40 ⟨Nat.le_of_ble_eq_true rfl, Nat.le_of_ble_eq_true rfl⟩) (fun r40 _ H locs q40 _ hP hD hS => ?_)
      have hP : va_P (dC, dI) vwCl [(ad 3, .inr (0, [.ref (ad 6), .ref (ad 7), .ref (ad 8), .int 2, .int 1, .long ar])), (ad 6, .inl (tc 6, 3, .inl vx)), (ad 7, .inl (tc 7, 3, .inl vy)), (ad 8, .inl (tc 8, 3, .inl vz))] H := hP.sub [1, 2, 3, 0] rfl
      have hD : va_D A [(ad 3, .inr (0, [.ref (ad 6), .ref (ad 7), .ref (ad 8), .int 2, .int 1, .long ar])), (ad 6, .inl (tc 6, 3, .inl vx)), (ad 7, .inl (tc 7, 3, .inl vy)), (ad 8, .inl (tc 8, 3, .inl vz))] := hD.sub [1, 2, 3, 0] (by decide) rfl
      have e40 : r40.toInt = EE vx vy 2 1 cl.toInt rw_.toInt := by rw [q40, epx, epy]; rfl
      refine lv_lstore (lv' := [(5, .long r40), (4, .int ((16 * rw_) + 8)), (3, .int ((16 * cl) + 8)), (0, .ref (ad 3)), (1, .int cl), (2, .int rw_)]) hx hb dX0_depthOver_43 hl (by decide) rfl (fun ls hl => ?_)
      refine lv_aload_n hx hb dX0_depthOver_45 rfl (lv_at hl 3 rfl) ?_
      refine lv_aload_n hx hb dX0_depthOver_46 rfl (lv_at hl 3 rfl) ?_
      refine va_get (D := (dC, dI)) (ci := 0) (v := .int 1) (C := RX0) (T := TX0) (N := 6) hx hb hts (by decide +kernel) hown hK hP 0 rfl rfl 4 (by decide) (hts (.fieldLink RX0 25 "TriangleRaster$Facet" "third" "I") (by decide +kernel)) (fun _ h9 => h9) rfl dX0_depthOver_47 ?_
      refine lv_iconst (v := 0) hx hb dX0_depthOver_50 (by decide) ?_
      refine lv_iload_n hx hb dX0_depthOver_51 rfl (lv_at hl 2 rfl) ?_
      refine lv_iload hx hb dX0_depthOver_52 (lv_at hl 1 rfl) ?_
      refine m_calll (cs := [(ad 3, .inr (0, [.ref (ad 6), .ref (ad 7), .ref (ad 8), .int 2, .int 1, .long ar])), (ad 6, .inl (tc 6, 3, .inl vx)), (ad 7, .inl (tc 7, 3, .inl vy))]) (wr := [(ad 8, .inl (tc 8, 3, .inl vz))]) hP hD hS hA [0, 1, 2] [3] rfl rfl (by decide) (by decide) (va_runV (As := [.int 1, .int 0, .int ((16 * cl) + 8), .int ((16 * rw_) + 8)]) (rest := []) ⟨hx, hb, hml, hown, hts⟩ (c_X0_edge l dC dI _ ad tc 2 1 ar vx vy hv 1 0 1 0 (by omega) (by omega) rfl rfl ((16 * cl) + 8) ((16 * rw_) + 8) hbx hby) (cwV 4 hts gX0_depthOver_X0_edge rfl rfl rfl (by decide +kernel) ⟨Nat.le_of_ble_eq_true rfl, Nat.le_of_ble_eq_true rfl⟩) (m_preV (ci := 0) (q0 := 0) (hP.sub [0, 1, 2] rfl) (hK.sub [0, 1] rfl) (hD.sub [0, 1, 2] (by decide) rfl) hN rfl rfl) rfl rfl hl.1 rfl (lv_room (Nat.le_of_ble_eq_true rfl)) dX0_depthOver_54 ⟨Nat.le_of_ble_eq_true rfl, Nat.le_of_ble_eq_true rfl⟩) (fun r54 _ H locs q54 _ hP hD hS => ?_)
      have hP : va_P (dC, dI) vwCl [(ad 3, .inr (0, [.ref (ad 6), .ref (ad 7), .ref (ad 8), .int 2, .int 1, .long ar])), (ad 6, .inl (tc 6, 3, .inl vx)), (ad 7, .inl (tc 7, 3, .inl vy)), (ad 8, .inl (tc 8, 3, .inl vz))] H := hP.sub [1, 2, 3, 0] rfl
      have hD : va_D A [(ad 3, .inr (0, [.ref (ad 6), .ref (ad 7), .ref (ad 8), .int 2, .int 1, .long ar])), (ad 6, .inl (tc 6, 3, .inl vx)), (ad 7, .inl (tc 7, 3, .inl vy)), (ad 8, .inl (tc 8, 3, .inl vz))] := hD.sub [1, 2, 3, 0] (by decide) rfl
      have e54 : r54.toInt = EE vx vy 1 0 cl.toInt rw_.toInt := by rw [q54, epx, epy]; rfl
      refine lv_lstore (lv' := [(7, .long r54), (5, .long r40), (4, .int ((16 * rw_) + 8)), (3, .int ((16 * cl) + 8)), (0, .ref (ad 3)), (1, .int cl), (2, .int rw_)]) hx hb dX0_depthOver_57 hl (by decide) rfl (fun ls hl => ?_)
      refine lv_aload_n hx hb dX0_depthOver_59 rfl (lv_at hl 4 rfl) ?_
      refine lv_iconst (v := 0) hx hb dX0_depthOver_60 (by decide) ?_
      refine lv_aload_n hx hb dX0_depthOver_61 rfl (lv_at hl 4 rfl) ?_
      refine va_get (D := (dC, dI)) (ci := 0) (v := .int 2) (C := RX0) (T := TX0) (N := 6) hx hb hts (by decide +kernel) hown hK hP 0 rfl rfl 3 (by decide) (hts (.fieldLink RX0 21 "TriangleRaster$Facet" "second" "I") (by decide +kernel)) (fun _ h9 => h9) rfl dX0_depthOver_62 ?_
      refine lv_iload_n hx hb dX0_depthOver_65 rfl (lv_at hl 3 rfl) ?_
      refine lv_iload hx hb dX0_depthOver_66 (lv_at hl 2 rfl) ?_
      refine m_calll (cs := [(ad 3, .inr (0, [.ref (ad 6), .ref (ad 7), .ref (ad 8), .int 2, .int 1, .long ar])), (ad 6, .inl (tc 6, 3, .inl vx)), (ad 7, .inl (tc 7, 3, .inl vy))]) (wr := [(ad 8, .inl (tc 8, 3, .inl vz))]) hP hD hS hA [0, 1, 2] [3] rfl rfl (by decide) (by decide) (va_runV (As := [.int 0, .int 2, .int ((16 * cl) + 8), .int ((16 * rw_) + 8)]) (rest := []) ⟨hx, hb, hml, hown, hts⟩ (c_X0_edge l dC dI _ ad tc 2 1 ar vx vy hv 0 2 0 2 (by omega) (by omega) rfl rfl ((16 * cl) + 8) ((16 * rw_) + 8) hbx hby) (cwV 4 hts gX0_depthOver_X0_edge rfl rfl rfl (by decide +kernel) ⟨Nat.le_of_ble_eq_true rfl, Nat.le_of_ble_eq_true rfl⟩) (m_preV (ci := 0) (q0 := 0) (hP.sub [0, 1, 2] rfl) (hK.sub [0, 1] rfl) (hD.sub [0, 1, 2] (by decide) rfl) hN rfl rfl) rfl rfl hl.1 rfl (lv_room (Nat.le_of_ble_eq_true rfl)) dX0_depthOver_68 ⟨Nat.le_of_ble_eq_true rfl, Nat.le_of_ble_eq_true rfl⟩) (fun r68 _ H locs q68 _ hP hD hS => ?_)
      have hP : va_P (dC, dI) vwCl [(ad 3, .inr (0, [.ref (ad 6), .ref (ad 7), .ref (ad 8), .int 2, .int 1, .long ar])), (ad 6, .inl (tc 6, 3, .inl vx)), (ad 7, .inl (tc 7, 3, .inl vy)), (ad 8, .inl (tc 8, 3, .inl vz))] H := hP.sub [1, 2, 3, 0] rfl
      have hD : va_D A [(ad 3, .inr (0, [.ref (ad 6), .ref (ad 7), .ref (ad 8), .int 2, .int 1, .long ar])), (ad 6, .inl (tc 6, 3, .inl vx)), (ad 7, .inl (tc 7, 3, .inl vy)), (ad 8, .inl (tc 8, 3, .inl vz))] := hD.sub [1, 2, 3, 0] (by decide) rfl
      have e68 : r68.toInt = EE vx vy 0 2 cl.toInt rw_.toInt := by rw [q68, epx, epy]; rfl
      refine lv_lstore (lv' := [(9, .long r68), (7, .long r54), (5, .long r40), (4, .int ((16 * rw_) + 8)), (3, .int ((16 * cl) + 8)), (0, .ref (ad 3)), (1, .int cl), (2, .int rw_)]) hx hb dX0_depthOver_71 hl (by decide) rfl (fun ls hl => ?_)
      refine lv_aload_n hx hb dX0_depthOver_73 rfl (lv_at hl 5 rfl) ?_
      refine lv_lload hx hb dX0_depthOver_74 (lv_at hl 2 rfl) ?_
      refine lv_aload_n hx hb dX0_depthOver_76 rfl (lv_at hl 5 rfl) ?_
      refine va_get (D := (dC, dI)) (ci := 0) (v := .int 2) (C := RX0) (T := TX0) (N := 6) hx hb hts (by decide +kernel) hown hK hP 0 rfl rfl 3 (by decide) (hts (.fieldLink RX0 21 "TriangleRaster$Facet" "second" "I") (by decide +kernel)) (fun _ h9 => h9) rfl dX0_depthOver_77 ?_
      refine lv_aload_n hx hb dX0_depthOver_80 rfl (lv_at hl 5 rfl) ?_
      refine va_get (D := (dC, dI)) (ci := 0) (v := .int 1) (C := RX0) (T := TX0) (N := 6) hx hb hts (by decide +kernel) hown hK hP 0 rfl rfl 4 (by decide) (hts (.fieldLink RX0 25 "TriangleRaster$Facet" "third" "I") (by decide +kernel)) (fun _ h9 => h9) rfl dX0_depthOver_81 ?_
      refine m_calli (cs := [(ad 3, .inr (0, [.ref (ad 6), .ref (ad 7), .ref (ad 8), .int 2, .int 1, .long ar])), (ad 6, .inl (tc 6, 3, .inl vx)), (ad 7, .inl (tc 7, 3, .inl vy))]) (wr := [(ad 8, .inl (tc 8, 3, .inl vz))]) hP hD hS hA [0, 1, 2] [3] rfl rfl (by decide) (by decide) (va_runV (As := [.long r40, .int 2, .int 1]) (rest := []) ⟨hx, hb, hml, hown, hts⟩ (c_X0_isInside l dC dI _ ad tc 2 1 ar vx vy r40 2 1 2 1 (by omega) (by omega) rfl rfl) (cwV 3 hts gX0_depthOver_X0_isInside rfl rfl rfl (by decide +kernel) ⟨Nat.le_of_ble_eq_true rfl, Nat.le_of_ble_eq_true rfl⟩) (m_preV (ci := 0) (q0 := 0) (hP.sub [0, 1, 2] rfl) (hK.sub [0, 1] rfl) (hD.sub [0, 1, 2] (by decide) rfl) hN rfl rfl) rfl rfl hl.1 rfl (lv_room (Nat.le_of_ble_eq_true rfl)) dX0_depthOver_84 ⟨Nat.le_of_ble_eq_true rfl, Nat.le_of_ble_eq_true rfl⟩) (fun r84 _ H locs q84 _ hP hD hS => ?_)
      have hP : va_P (dC, dI) vwCl [(ad 3, .inr (0, [.ref (ad 6), .ref (ad 7), .ref (ad 8), .int 2, .int 1, .long ar])), (ad 6, .inl (tc 6, 3, .inl vx)), (ad 7, .inl (tc 7, 3, .inl vy)), (ad 8, .inl (tc 8, 3, .inl vz))] H := hP.sub [1, 2, 3, 0] rfl
      have hD : va_D A [(ad 3, .inr (0, [.ref (ad 6), .ref (ad 7), .ref (ad 8), .int 2, .int 1, .long ar])), (ad 6, .inl (tc 6, 3, .inl vx)), (ad 7, .inl (tc 7, 3, .inl vy)), (ad 8, .inl (tc 8, 3, .inl vz))] := hD.sub [1, 2, 3, 0] (by decide) rfl
      refine lv_if_eq (tgt := 118) hx hb dX0_depthOver_87 (by decide) (fun c87 => ?_) (fun c87 => ?_)
      · refine lv_iconst (v := (-1)) hx hb dX0_depthOver_118 (by decide) ?_
        have hP9 := hP.sub (ws' := [(ad 3, .inr (0, [.ref (ad 6), .ref (ad 7), .ref (ad 8), .int 2, .int 1, .long ar])), (ad 6, .inl (tc 6, 3, .inl vx)), (ad 7, .inl (tc 7, 3, .inl vy)), (ad 8, .inl (tc 8, 3, .inl vz))]) [0, 1, 2, 3] rfl
        have hD9 := hD.sub (ws' := [(ad 3, .inr (0, [.ref (ad 6), .ref (ad 7), .ref (ad 8), .int 2, .int 1, .long ar])), (ad 6, .inl (tc 6, 3, .inl vx)), (ad 7, .inl (tc 7, 3, .inl vy)), (ad 8, .inl (tc 8, 3, .inl vz))]) [0, 1, 2, 3] (by decide) rfl
        exact W.iret (v := (-1)) hx hb hr (fun t ht hW => ⟨⟨(-1), (), rfl, Or.inr ⟨by have hn := (b01 q84).mp c87; rw [e40] at hn; exact fun h => h.elim (fun h => by have := h.1; omega) (fun h => hn h.2.2.1), rfl⟩, by rw [ht]; exact hP9, va_K.moved hW.alike hK, hD9⟩, hS.F ht⟩) hS.2.2 dX0_depthOver_119
      · refine lv_aload_n hx hb dX0_depthOver_90 rfl (lv_at hl 5 rfl) ?_
        refine lv_lload hx hb dX0_depthOver_91 (lv_at hl 1 rfl) ?_
        refine lv_aload_n hx hb dX0_depthOver_93 rfl (lv_at hl 5 rfl) ?_
        refine va_get (D := (dC, dI)) (ci := 0) (v := .int 1) (C := RX0) (T := TX0) (N := 6) hx hb hts (by decide +kernel) hown hK hP 0 rfl rfl 4 (by decide) (hts (.fieldLink RX0 25 "TriangleRaster$Facet" "third" "I") (by decide +kernel)) (fun _ h9 => h9) rfl dX0_depthOver_94 ?_
        refine lv_iconst (v := 0) hx hb dX0_depthOver_97 (by decide) ?_
        refine m_calli (cs := [(ad 3, .inr (0, [.ref (ad 6), .ref (ad 7), .ref (ad 8), .int 2, .int 1, .long ar])), (ad 6, .inl (tc 6, 3, .inl vx)), (ad 7, .inl (tc 7, 3, .inl vy))]) (wr := [(ad 8, .inl (tc 8, 3, .inl vz))]) hP hD hS hA [0, 1, 2] [3] rfl rfl (by decide) (by decide) (va_runV (As := [.long r54, .int 1, .int 0]) (rest := []) ⟨hx, hb, hml, hown, hts⟩ (c_X0_isInside l dC dI _ ad tc 2 1 ar vx vy r54 1 0 1 0 (by omega) (by omega) rfl rfl) (cwV 3 hts gX0_depthOver_X0_isInside rfl rfl rfl (by decide +kernel) ⟨Nat.le_of_ble_eq_true rfl, Nat.le_of_ble_eq_true rfl⟩) (m_preV (ci := 0) (q0 := 0) (hP.sub [0, 1, 2] rfl) (hK.sub [0, 1] rfl) (hD.sub [0, 1, 2] (by decide) rfl) hN rfl rfl) rfl rfl hl.1 rfl (lv_room (Nat.le_of_ble_eq_true rfl)) dX0_depthOver_98 ⟨Nat.le_of_ble_eq_true rfl, Nat.le_of_ble_eq_true rfl⟩) (fun r98 _ H locs q98 _ hP hD hS => ?_)
        have hP : va_P (dC, dI) vwCl [(ad 3, .inr (0, [.ref (ad 6), .ref (ad 7), .ref (ad 8), .int 2, .int 1, .long ar])), (ad 6, .inl (tc 6, 3, .inl vx)), (ad 7, .inl (tc 7, 3, .inl vy)), (ad 8, .inl (tc 8, 3, .inl vz))] H := hP.sub [1, 2, 3, 0] rfl
        have hD : va_D A [(ad 3, .inr (0, [.ref (ad 6), .ref (ad 7), .ref (ad 8), .int 2, .int 1, .long ar])), (ad 6, .inl (tc 6, 3, .inl vx)), (ad 7, .inl (tc 7, 3, .inl vy)), (ad 8, .inl (tc 8, 3, .inl vz))] := hD.sub [1, 2, 3, 0] (by decide) rfl
        refine lv_if_eq (tgt := 118) hx hb dX0_depthOver_101 (by decide) (fun c101 => ?_) (fun c101 => ?_)
        · refine lv_iconst (v := (-1)) hx hb dX0_depthOver_118 (by decide) ?_
          have hP9 := hP.sub (ws' := [(ad 3, .inr (0, [.ref (ad 6), .ref (ad 7), .ref (ad 8), .int 2, .int 1, .long ar])), (ad 6, .inl (tc 6, 3, .inl vx)), (ad 7, .inl (tc 7, 3, .inl vy)), (ad 8, .inl (tc 8, 3, .inl vz))]) [0, 1, 2, 3] rfl
          have hD9 := hD.sub (ws' := [(ad 3, .inr (0, [.ref (ad 6), .ref (ad 7), .ref (ad 8), .int 2, .int 1, .long ar])), (ad 6, .inl (tc 6, 3, .inl vx)), (ad 7, .inl (tc 7, 3, .inl vy)), (ad 8, .inl (tc 8, 3, .inl vz))]) [0, 1, 2, 3] (by decide) rfl
          exact W.iret (v := (-1)) hx hb hr (fun t ht hW => ⟨⟨(-1), (), rfl, Or.inr ⟨by have hn := (b01 q98).mp c101; rw [e54] at hn; exact fun h => h.elim (fun h => by have := h.1; omega) (fun h => hn h.2.2.2), rfl⟩, by rw [ht]; exact hP9, va_K.moved hW.alike hK, hD9⟩, hS.F ht⟩) hS.2.2 dX0_depthOver_119
        · refine lv_aload_n hx hb dX0_depthOver_104 rfl (lv_at hl 5 rfl) ?_
          refine lv_lload hx hb dX0_depthOver_105 (lv_at hl 0 rfl) ?_
          refine lv_iconst (v := 0) hx hb dX0_depthOver_107 (by decide) ?_
          refine lv_aload_n hx hb dX0_depthOver_108 rfl (lv_at hl 5 rfl) ?_
          refine va_get (D := (dC, dI)) (ci := 0) (v := .int 2) (C := RX0) (T := TX0) (N := 6) hx hb hts (by decide +kernel) hown hK hP 0 rfl rfl 3 (by decide) (hts (.fieldLink RX0 21 "TriangleRaster$Facet" "second" "I") (by decide +kernel)) (fun _ h9 => h9) rfl dX0_depthOver_109 ?_
          refine m_calli (cs := [(ad 3, .inr (0, [.ref (ad 6), .ref (ad 7), .ref (ad 8), .int 2, .int 1, .long ar])), (ad 6, .inl (tc 6, 3, .inl vx)), (ad 7, .inl (tc 7, 3, .inl vy))]) (wr := [(ad 8, .inl (tc 8, 3, .inl vz))]) hP hD hS hA [0, 1, 2] [3] rfl rfl (by decide) (by decide) (va_runV (As := [.long r68, .int 0, .int 2]) (rest := []) ⟨hx, hb, hml, hown, hts⟩ (c_X0_isInside l dC dI _ ad tc 2 1 ar vx vy r68 0 2 0 2 (by omega) (by omega) rfl rfl) (cwV 3 hts gX0_depthOver_X0_isInside rfl rfl rfl (by decide +kernel) ⟨Nat.le_of_ble_eq_true rfl, Nat.le_of_ble_eq_true rfl⟩) (m_preV (ci := 0) (q0 := 0) (hP.sub [0, 1, 2] rfl) (hK.sub [0, 1] rfl) (hD.sub [0, 1, 2] (by decide) rfl) hN rfl rfl) rfl rfl hl.1 rfl (lv_room (Nat.le_of_ble_eq_true rfl)) dX0_depthOver_112 ⟨Nat.le_of_ble_eq_true rfl, Nat.le_of_ble_eq_true rfl⟩) (fun r112 _ H locs q112 _ hP hD hS => ?_)
          have hP : va_P (dC, dI) vwCl [(ad 3, .inr (0, [.ref (ad 6), .ref (ad 7), .ref (ad 8), .int 2, .int 1, .long ar])), (ad 6, .inl (tc 6, 3, .inl vx)), (ad 7, .inl (tc 7, 3, .inl vy)), (ad 8, .inl (tc 8, 3, .inl vz))] H := hP.sub [1, 2, 3, 0] rfl
          have hD : va_D A [(ad 3, .inr (0, [.ref (ad 6), .ref (ad 7), .ref (ad 8), .int 2, .int 1, .long ar])), (ad 6, .inl (tc 6, 3, .inl vx)), (ad 7, .inl (tc 7, 3, .inl vy)), (ad 8, .inl (tc 8, 3, .inl vz))] := hD.sub [1, 2, 3, 0] (by decide) rfl
          refine lv_if_ne (tgt := 120) hx hb dX0_depthOver_115 (by decide) (fun c115 => ?_) (fun c115 => ?_)
          · have har0 : ¬ ar = 0 := fun h => c6 ((lg_cmp_eq _ _).mpr h)
            have hT0 : ¬ tT vx vy = 0 := fun h => har0 (by rw [← Int64.toInt_inj, har, h]; rfl)
            have i84 := Classical.byContradiction (fun h => c87 ((b01 q84).mpr h))
            have i98 := Classical.byContradiction (fun h => c101 ((b01 q98).mpr h))
            have i112 := Classical.byContradiction (fun h => c115 ((b01 q112).mpr h))
            rw [e40] at i84
            rw [e54] at i98
            rw [e68] at i112
            have hC : COV vx vy cl.toInt rw_.toInt := Or.inr ⟨hT, i112, i84, i98⟩
            refine lv_lload hx hb dX0_depthOver_120 (lv_at hl 2 rfl) ?_
            refine lv_aload_n hx hb dX0_depthOver_122 rfl (lv_at hl 5 rfl) ?_
            refine va_get (D := (dC, dI)) (ci := 0) (v := .ref (ad 8)) (C := RX0) (T := TX0) (N := 6) hx hb hts (by decide +kernel) hown hK hP 0 rfl rfl 2 (by decide) (hts (.fieldLink RX0 18 "TriangleRaster$Facet" "zs" "[I") (by decide +kernel)) (fun _ h9 => h9) rfl dX0_depthOver_123 ?_
            refine lv_iconst (v := 0) hx hb dX0_depthOver_126 (by decide) ?_
            refine va_iald hx hb hK hP 3 2 rfl rfl (by unfold vp_in; decide) dX0_depthOver_127 ?_
            refine lv_i2l hx hb dX0_depthOver_128 rfl ?_
            refine lv_lmul hx hb dX0_depthOver_129 ?_
            refine lv_lload hx hb dX0_depthOver_130 (lv_at hl 1 rfl) ?_
            refine lv_aload_n hx hb dX0_depthOver_132 rfl (lv_at hl 5 rfl) ?_
            refine va_get (D := (dC, dI)) (ci := 0) (v := .ref (ad 8)) (C := RX0) (T := TX0) (N := 6) hx hb hts (by decide +kernel) hown hK hP 0 rfl rfl 2 (by decide) (hts (.fieldLink RX0 18 "TriangleRaster$Facet" "zs" "[I") (by decide +kernel)) (fun _ h9 => h9) rfl dX0_depthOver_133 ?_
            refine lv_aload_n hx hb dX0_depthOver_136 rfl (lv_at hl 5 rfl) ?_
            refine va_get (D := (dC, dI)) (ci := 0) (v := .int 2) (C := RX0) (T := TX0) (N := 6) hx hb hts (by decide +kernel) hown hK hP 0 rfl rfl 3 (by decide) (hts (.fieldLink RX0 21 "TriangleRaster$Facet" "second" "I") (by decide +kernel)) (fun _ h9 => h9) rfl dX0_depthOver_137 ?_
            refine va_iald hx hb hK hP 3 2 rfl rfl (by unfold vp_in; decide) dX0_depthOver_140 ?_
            refine lv_i2l hx hb dX0_depthOver_141 rfl ?_
            refine lv_lmul hx hb dX0_depthOver_142 ?_
            refine lv_ladd hx hb dX0_depthOver_143 ?_
            refine lv_lload hx hb dX0_depthOver_144 (lv_at hl 0 rfl) ?_
            refine lv_aload_n hx hb dX0_depthOver_146 rfl (lv_at hl 5 rfl) ?_
            refine va_get (D := (dC, dI)) (ci := 0) (v := .ref (ad 8)) (C := RX0) (T := TX0) (N := 6) hx hb hts (by decide +kernel) hown hK hP 0 rfl rfl 2 (by decide) (hts (.fieldLink RX0 18 "TriangleRaster$Facet" "zs" "[I") (by decide +kernel)) (fun _ h9 => h9) rfl dX0_depthOver_147 ?_
            refine lv_aload_n hx hb dX0_depthOver_150 rfl (lv_at hl 5 rfl) ?_
            refine va_get (D := (dC, dI)) (ci := 0) (v := .int 1) (C := RX0) (T := TX0) (N := 6) hx hb hts (by decide +kernel) hown hK hP 0 rfl rfl 4 (by decide) (hts (.fieldLink RX0 25 "TriangleRaster$Facet" "third" "I") (by decide +kernel)) (fun _ h9 => h9) rfl dX0_depthOver_151 ?_
            refine va_iald hx hb hK hP 3 2 rfl rfl (by unfold vp_in; decide) dX0_depthOver_154 ?_
            refine lv_i2l hx hb dX0_depthOver_155 rfl ?_
            refine lv_lmul hx hb dX0_depthOver_156 ?_
            refine lv_ladd hx hb dX0_depthOver_157 ?_
            refine lv_aload_n hx hb dX0_depthOver_158 rfl (lv_at hl 5 rfl) ?_
            refine va_get (D := (dC, dI)) (ci := 0) (v := .long ar) (C := RX0) (T := TX0) (N := 6) hx hb hts (by decide +kernel) hown hK hP 0 rfl rfl 5 (by decide) (hts (.fieldLink RX0 28 "TriangleRaster$Facet" "area" "J") (by decide +kernel)) (fun _ h9 => h9) rfl dX0_depthOver_159 ?_
            refine lv_ldiv hx hb dX0_depthOver_162 har0 ?_
            refine lv_l2i hx hb dX0_depthOver_163 rfl ?_
            have hP9 := hP.sub (ws' := [(ad 3, .inr (0, [.ref (ad 6), .ref (ad 7), .ref (ad 8), .int 2, .int 1, .long ar])), (ad 6, .inl (tc 6, 3, .inl vx)), (ad 7, .inl (tc 7, 3, .inl vy)), (ad 8, .inl (tc 8, 3, .inl vz))]) [0, 1, 2, 3] rfl
            have hD9 := hD.sub (ws' := [(ad 3, .inr (0, [.ref (ad 6), .ref (ad 7), .ref (ad 8), .int 2, .int 1, .long ar])), (ad 6, .inl (tc 6, 3, .inl vx)), (ad 7, .inl (tc 7, 3, .inl vy)), (ad 8, .inl (tc 8, 3, .inl vz))]) [0, 1, 2, 3] (by decide) rfl
            exact W.iret (v := (((((r40 * ((vz 0).toInt64)) + (r54 * ((vz 2).toInt64))) + (r68 * ((vz 1).toInt64))) / ar).toInt32)) hx hb hr (fun t ht hW => ⟨⟨((((r40 * ((vz 0).toInt64)) + (r54 * ((vz 2).toInt64))) + (r68 * ((vz 1).toInt64))) / ar).toInt32, (), rfl, Or.inl ⟨hC, by have hq := DPT_b hz hC; have hD1 : DPT vx vy vz cl.toInt rw_.toInt = (EE vx vy 2 1 cl.toInt rw_.toInt * (vz 0).toInt + EE vx vy 1 0 cl.toInt rw_.toInt * (vz 2).toInt + EE vx vy 0 2 cl.toInt rw_.toInt * (vz 1).toInt).tdiv (- tT vx vy) := (by unfold DPT DSUM; rw [EE_neg vx vy 1 2, EE_neg vx vy 0 1, EE_neg vx vy 2 0, ← Int.neg_tdiv_neg]; congr 1; grind); rw [hD1] at hq ⊢; exact dep_val e40 e54 e68 har (EE_b hv (by omega) (by omega) hcl hrw) (EE_b hv (by omega) (by omega) hcl hrw) (EE_b hv (by omega) (by omega) hcl hrw) (hz 0 (by omega)) (hz 2 (by omega)) (hz 1 (by omega)) hq⟩, by rw [ht]; exact hP9, va_K.moved hW.alike hK, hD9⟩, hS.F ht⟩) hS.2.2 dX0_depthOver_164
          · refine lv_iconst (v := (-1)) hx hb dX0_depthOver_118 (by decide) ?_
            have hP9 := hP.sub (ws' := [(ad 3, .inr (0, [.ref (ad 6), .ref (ad 7), .ref (ad 8), .int 2, .int 1, .long ar])), (ad 6, .inl (tc 6, 3, .inl vx)), (ad 7, .inl (tc 7, 3, .inl vy)), (ad 8, .inl (tc 8, 3, .inl vz))]) [0, 1, 2, 3] rfl
            have hD9 := hD.sub (ws' := [(ad 3, .inr (0, [.ref (ad 6), .ref (ad 7), .ref (ad 8), .int 2, .int 1, .long ar])), (ad 6, .inl (tc 6, 3, .inl vx)), (ad 7, .inl (tc 7, 3, .inl vy)), (ad 8, .inl (tc 8, 3, .inl vz))]) [0, 1, 2, 3] (by decide) rfl
            exact W.iret (v := (-1)) hx hb hr (fun t ht hW => ⟨⟨(-1), (), rfl, Or.inr ⟨by have hn := (b01 q112).mp c115; rw [e68] at hn; exact fun h => h.elim (fun h => by have := h.1; omega) (fun h => hn h.2.1), rfl⟩, by rw [ht]; exact hP9, va_K.moved hW.alike hK, hD9⟩, hS.F ht⟩) hS.2.2 dX0_depthOver_119
    · refine lv_iconst (v := (-1)) hx hb dX0_depthOver_9 (by decide) ?_
      have hP9 := hP.sub (ws' := [(ad 3, .inr (0, [.ref (ad 6), .ref (ad 7), .ref (ad 8), .int 2, .int 1, .long ar])), (ad 6, .inl (tc 6, 3, .inl vx)), (ad 7, .inl (tc 7, 3, .inl vy)), (ad 8, .inl (tc 8, 3, .inl vz))]) [0, 1, 2, 3] rfl
      have hD9 := hD.sub (ws' := [(ad 3, .inr (0, [.ref (ad 6), .ref (ad 7), .ref (ad 8), .int 2, .int 1, .long ar])), (ad 6, .inl (tc 6, 3, .inl vx)), (ad 7, .inl (tc 7, 3, .inl vy)), (ad 8, .inl (tc 8, 3, .inl vz))]) [0, 1, 2, 3] (by decide) rfl
      exact W.iret (v := (-1)) hx hb hr (fun t ht hW => ⟨⟨(-1), (), rfl, Or.inr ⟨by have h0 : tT vx vy = 0 := (by rw [lg_cmp_eq, ← Int64.toInt_inj, Int64.toInt_zero, har] at c6; omega); exact fun h => h.elim (fun h => by have := h.1; omega) (fun h => by have := h.1; omega), rfl⟩, by rw [ht]; exact hP9, va_K.moved hW.alike hK, hD9⟩, hS.F ht⟩) hS.2.2 dX0_depthOver_10
  · refine lv_aload_n hx hb dX0_depthOver_0 rfl (lv_at hl 0 rfl) ?_
    refine va_get (D := (dC, dI)) (ci := 0) (v := .long ar) (C := RX0) (T := TX0) (N := 6) hx hb hts (by decide +kernel) hown hK hP 0 rfl rfl 5 (by decide) (hts (.fieldLink RX0 28 "TriangleRaster$Facet" "area" "J") (by decide +kernel)) (fun _ h9 => h9) rfl dX0_depthOver_1 ?_
    refine lv_lconst (v := 0) hx hb dX0_depthOver_4 (by decide) ?_
    refine W.lcmp hx hb dX0_depthOver_5 ?_
    refine lv_if_ne (tgt := 11) hx hb dX0_depthOver_6 (by decide) (fun c6 => ?_) (fun c6 => ?_)
    · refine lv_bipush (v := 16) hx hb dX0_depthOver_11 (by decide) ?_
      refine lv_iload_n hx hb dX0_depthOver_13 rfl (lv_at hl 1 rfl) ?_
      refine lv_imul hx hb dX0_depthOver_14 ?_
      refine lv_bipush (v := 8) hx hb dX0_depthOver_15 (by decide) ?_
      refine lv_iadd hx hb dX0_depthOver_17 ?_
      refine lv_istore_n (lv' := [(3, .int ((16 * cl) + 8)), (0, .ref (ad 3)), (1, .int cl), (2, .int rw_)]) hx hb dX0_depthOver_18 rfl hl (by decide) rfl (fun ls hl => ?_)
      refine lv_bipush (v := 16) hx hb dX0_depthOver_19 (by decide) ?_
      refine lv_iload_n hx hb dX0_depthOver_21 rfl (lv_at hl 3 rfl) ?_
      refine lv_imul hx hb dX0_depthOver_22 ?_
      refine lv_bipush (v := 8) hx hb dX0_depthOver_23 (by decide) ?_
      refine lv_iadd hx hb dX0_depthOver_25 ?_
      refine lv_istore (lv' := [(4, .int ((16 * rw_) + 8)), (3, .int ((16 * cl) + 8)), (0, .ref (ad 3)), (1, .int cl), (2, .int rw_)]) hx hb dX0_depthOver_26 hl (by decide) rfl (fun ls hl => ?_)
      refine lv_aload_n hx hb dX0_depthOver_28 rfl (lv_at hl 2 rfl) ?_
      refine lv_aload_n hx hb dX0_depthOver_29 rfl (lv_at hl 2 rfl) ?_
      refine va_get (D := (dC, dI)) (ci := 0) (v := .int 1) (C := RX0) (T := TX0) (N := 6) hx hb hts (by decide +kernel) hown hK hP 0 rfl rfl 3 (by decide) (hts (.fieldLink RX0 21 "TriangleRaster$Facet" "second" "I") (by decide +kernel)) (fun _ h9 => h9) rfl dX0_depthOver_30 ?_
      refine lv_aload_n hx hb dX0_depthOver_33 rfl (lv_at hl 2 rfl) ?_
      refine va_get (D := (dC, dI)) (ci := 0) (v := .int 2) (C := RX0) (T := TX0) (N := 6) hx hb hts (by decide +kernel) hown hK hP 0 rfl rfl 4 (by decide) (hts (.fieldLink RX0 25 "TriangleRaster$Facet" "third" "I") (by decide +kernel)) (fun _ h9 => h9) rfl dX0_depthOver_34 ?_
      refine lv_iload_n hx hb dX0_depthOver_37 rfl (lv_at hl 1 rfl) ?_
      refine lv_iload hx hb dX0_depthOver_38 (lv_at hl 0 rfl) ?_
      refine m_calll (cs := [(ad 3, .inr (0, [.ref (ad 6), .ref (ad 7), .ref (ad 8), .int 1, .int 2, .long ar])), (ad 6, .inl (tc 6, 3, .inl vx)), (ad 7, .inl (tc 7, 3, .inl vy))]) (wr := [(ad 8, .inl (tc 8, 3, .inl vz))]) hP hD hS hA [0, 1, 2] [3] rfl rfl (by decide) (by decide) (va_runV (As := [.int 1, .int 2, .int ((16 * cl) + 8), .int ((16 * rw_) + 8)]) (rest := []) ⟨hx, hb, hml, hown, hts⟩ (c_X0_edge l dC dI _ ad tc 1 2 ar vx vy hv 1 2 1 2 (by omega) (by omega) rfl rfl ((16 * cl) + 8) ((16 * rw_) + 8) hbx hby) (cwV 4 hts gX0_depthOver_X0_edge rfl rfl rfl (by decide +kernel) ⟨Nat.le_of_ble_eq_true rfl, Nat.le_of_ble_eq_true rfl⟩) (m_preV (ci := 0) (q0 := 0) (hP.sub [0, 1, 2] rfl) (hK.sub [0, 1] rfl) (hD.sub [0, 1, 2] (by decide) rfl) hN rfl rfl) rfl rfl hl.1 rfl (lv_room (Nat.le_of_ble_eq_true rfl)) dX0_depthOver_40 ⟨Nat.le_of_ble_eq_true rfl, Nat.le_of_ble_eq_true rfl⟩) (fun r40 _ H locs q40 _ hP hD hS => ?_)
      have hP : va_P (dC, dI) vwCl [(ad 3, .inr (0, [.ref (ad 6), .ref (ad 7), .ref (ad 8), .int 1, .int 2, .long ar])), (ad 6, .inl (tc 6, 3, .inl vx)), (ad 7, .inl (tc 7, 3, .inl vy)), (ad 8, .inl (tc 8, 3, .inl vz))] H := hP.sub [1, 2, 3, 0] rfl
      have hD : va_D A [(ad 3, .inr (0, [.ref (ad 6), .ref (ad 7), .ref (ad 8), .int 1, .int 2, .long ar])), (ad 6, .inl (tc 6, 3, .inl vx)), (ad 7, .inl (tc 7, 3, .inl vy)), (ad 8, .inl (tc 8, 3, .inl vz))] := hD.sub [1, 2, 3, 0] (by decide) rfl
      have e40 : r40.toInt = EE vx vy 1 2 cl.toInt rw_.toInt := by rw [q40, epx, epy]; rfl
      refine lv_lstore (lv' := [(5, .long r40), (4, .int ((16 * rw_) + 8)), (3, .int ((16 * cl) + 8)), (0, .ref (ad 3)), (1, .int cl), (2, .int rw_)]) hx hb dX0_depthOver_43 hl (by decide) rfl (fun ls hl => ?_)
      refine lv_aload_n hx hb dX0_depthOver_45 rfl (lv_at hl 3 rfl) ?_
      refine lv_aload_n hx hb dX0_depthOver_46 rfl (lv_at hl 3 rfl) ?_
      refine va_get (D := (dC, dI)) (ci := 0) (v := .int 2) (C := RX0) (T := TX0) (N := 6) hx hb hts (by decide +kernel) hown hK hP 0 rfl rfl 4 (by decide) (hts (.fieldLink RX0 25 "TriangleRaster$Facet" "third" "I") (by decide +kernel)) (fun _ h9 => h9) rfl dX0_depthOver_47 ?_
      refine lv_iconst (v := 0) hx hb dX0_depthOver_50 (by decide) ?_
      refine lv_iload_n hx hb dX0_depthOver_51 rfl (lv_at hl 2 rfl) ?_
      refine lv_iload hx hb dX0_depthOver_52 (lv_at hl 1 rfl) ?_
      refine m_calll (cs := [(ad 3, .inr (0, [.ref (ad 6), .ref (ad 7), .ref (ad 8), .int 1, .int 2, .long ar])), (ad 6, .inl (tc 6, 3, .inl vx)), (ad 7, .inl (tc 7, 3, .inl vy))]) (wr := [(ad 8, .inl (tc 8, 3, .inl vz))]) hP hD hS hA [0, 1, 2] [3] rfl rfl (by decide) (by decide) (va_runV (As := [.int 2, .int 0, .int ((16 * cl) + 8), .int ((16 * rw_) + 8)]) (rest := []) ⟨hx, hb, hml, hown, hts⟩ (c_X0_edge l dC dI _ ad tc 1 2 ar vx vy hv 2 0 2 0 (by omega) (by omega) rfl rfl ((16 * cl) + 8) ((16 * rw_) + 8) hbx hby) (cwV 4 hts gX0_depthOver_X0_edge rfl rfl rfl (by decide +kernel) ⟨Nat.le_of_ble_eq_true rfl, Nat.le_of_ble_eq_true rfl⟩) (m_preV (ci := 0) (q0 := 0) (hP.sub [0, 1, 2] rfl) (hK.sub [0, 1] rfl) (hD.sub [0, 1, 2] (by decide) rfl) hN rfl rfl) rfl rfl hl.1 rfl (lv_room (Nat.le_of_ble_eq_true rfl)) dX0_depthOver_54 ⟨Nat.le_of_ble_eq_true rfl, Nat.le_of_ble_eq_true rfl⟩) (fun r54 _ H locs q54 _ hP hD hS => ?_)
      have hP : va_P (dC, dI) vwCl [(ad 3, .inr (0, [.ref (ad 6), .ref (ad 7), .ref (ad 8), .int 1, .int 2, .long ar])), (ad 6, .inl (tc 6, 3, .inl vx)), (ad 7, .inl (tc 7, 3, .inl vy)), (ad 8, .inl (tc 8, 3, .inl vz))] H := hP.sub [1, 2, 3, 0] rfl
      have hD : va_D A [(ad 3, .inr (0, [.ref (ad 6), .ref (ad 7), .ref (ad 8), .int 1, .int 2, .long ar])), (ad 6, .inl (tc 6, 3, .inl vx)), (ad 7, .inl (tc 7, 3, .inl vy)), (ad 8, .inl (tc 8, 3, .inl vz))] := hD.sub [1, 2, 3, 0] (by decide) rfl
      have e54 : r54.toInt = EE vx vy 2 0 cl.toInt rw_.toInt := by rw [q54, epx, epy]; rfl
      refine lv_lstore (lv' := [(7, .long r54), (5, .long r40), (4, .int ((16 * rw_) + 8)), (3, .int ((16 * cl) + 8)), (0, .ref (ad 3)), (1, .int cl), (2, .int rw_)]) hx hb dX0_depthOver_57 hl (by decide) rfl (fun ls hl => ?_)
      refine lv_aload_n hx hb dX0_depthOver_59 rfl (lv_at hl 4 rfl) ?_
      refine lv_iconst (v := 0) hx hb dX0_depthOver_60 (by decide) ?_
      refine lv_aload_n hx hb dX0_depthOver_61 rfl (lv_at hl 4 rfl) ?_
      refine va_get (D := (dC, dI)) (ci := 0) (v := .int 1) (C := RX0) (T := TX0) (N := 6) hx hb hts (by decide +kernel) hown hK hP 0 rfl rfl 3 (by decide) (hts (.fieldLink RX0 21 "TriangleRaster$Facet" "second" "I") (by decide +kernel)) (fun _ h9 => h9) rfl dX0_depthOver_62 ?_
      refine lv_iload_n hx hb dX0_depthOver_65 rfl (lv_at hl 3 rfl) ?_
      refine lv_iload hx hb dX0_depthOver_66 (lv_at hl 2 rfl) ?_
      refine m_calll (cs := [(ad 3, .inr (0, [.ref (ad 6), .ref (ad 7), .ref (ad 8), .int 1, .int 2, .long ar])), (ad 6, .inl (tc 6, 3, .inl vx)), (ad 7, .inl (tc 7, 3, .inl vy))]) (wr := [(ad 8, .inl (tc 8, 3, .inl vz))]) hP hD hS hA [0, 1, 2] [3] rfl rfl (by decide) (by decide) (va_runV (As := [.int 0, .int 1, .int ((16 * cl) + 8), .int ((16 * rw_) + 8)]) (rest := []) ⟨hx, hb, hml, hown, hts⟩ (c_X0_edge l dC dI _ ad tc 1 2 ar vx vy hv 0 1 0 1 (by omega) (by omega) rfl rfl ((16 * cl) + 8) ((16 * rw_) + 8) hbx hby) (cwV 4 hts gX0_depthOver_X0_edge rfl rfl rfl (by decide +kernel) ⟨Nat.le_of_ble_eq_true rfl, Nat.le_of_ble_eq_true rfl⟩) (m_preV (ci := 0) (q0 := 0) (hP.sub [0, 1, 2] rfl) (hK.sub [0, 1] rfl) (hD.sub [0, 1, 2] (by decide) rfl) hN rfl rfl) rfl rfl hl.1 rfl (lv_room (Nat.le_of_ble_eq_true rfl)) dX0_depthOver_68 ⟨Nat.le_of_ble_eq_true rfl, Nat.le_of_ble_eq_true rfl⟩) (fun r68 _ H locs q68 _ hP hD hS => ?_)
      have hP : va_P (dC, dI) vwCl [(ad 3, .inr (0, [.ref (ad 6), .ref (ad 7), .ref (ad 8), .int 1, .int 2, .long ar])), (ad 6, .inl (tc 6, 3, .inl vx)), (ad 7, .inl (tc 7, 3, .inl vy)), (ad 8, .inl (tc 8, 3, .inl vz))] H := hP.sub [1, 2, 3, 0] rfl
      have hD : va_D A [(ad 3, .inr (0, [.ref (ad 6), .ref (ad 7), .ref (ad 8), .int 1, .int 2, .long ar])), (ad 6, .inl (tc 6, 3, .inl vx)), (ad 7, .inl (tc 7, 3, .inl vy)), (ad 8, .inl (tc 8, 3, .inl vz))] := hD.sub [1, 2, 3, 0] (by decide) rfl
      have e68 : r68.toInt = EE vx vy 0 1 cl.toInt rw_.toInt := by rw [q68, epx, epy]; rfl
      refine lv_lstore (lv' := [(9, .long r68), (7, .long r54), (5, .long r40), (4, .int ((16 * rw_) + 8)), (3, .int ((16 * cl) + 8)), (0, .ref (ad 3)), (1, .int cl), (2, .int rw_)]) hx hb dX0_depthOver_71 hl (by decide) rfl (fun ls hl => ?_)
      refine lv_aload_n hx hb dX0_depthOver_73 rfl (lv_at hl 5 rfl) ?_
      refine lv_lload hx hb dX0_depthOver_74 (lv_at hl 2 rfl) ?_
      refine lv_aload_n hx hb dX0_depthOver_76 rfl (lv_at hl 5 rfl) ?_
      refine va_get (D := (dC, dI)) (ci := 0) (v := .int 1) (C := RX0) (T := TX0) (N := 6) hx hb hts (by decide +kernel) hown hK hP 0 rfl rfl 3 (by decide) (hts (.fieldLink RX0 21 "TriangleRaster$Facet" "second" "I") (by decide +kernel)) (fun _ h9 => h9) rfl dX0_depthOver_77 ?_
      refine lv_aload_n hx hb dX0_depthOver_80 rfl (lv_at hl 5 rfl) ?_
      refine va_get (D := (dC, dI)) (ci := 0) (v := .int 2) (C := RX0) (T := TX0) (N := 6) hx hb hts (by decide +kernel) hown hK hP 0 rfl rfl 4 (by decide) (hts (.fieldLink RX0 25 "TriangleRaster$Facet" "third" "I") (by decide +kernel)) (fun _ h9 => h9) rfl dX0_depthOver_81 ?_
      refine m_calli (cs := [(ad 3, .inr (0, [.ref (ad 6), .ref (ad 7), .ref (ad 8), .int 1, .int 2, .long ar])), (ad 6, .inl (tc 6, 3, .inl vx)), (ad 7, .inl (tc 7, 3, .inl vy))]) (wr := [(ad 8, .inl (tc 8, 3, .inl vz))]) hP hD hS hA [0, 1, 2] [3] rfl rfl (by decide) (by decide) (va_runV (As := [.long r40, .int 1, .int 2]) (rest := []) ⟨hx, hb, hml, hown, hts⟩ (c_X0_isInside l dC dI _ ad tc 1 2 ar vx vy r40 1 2 1 2 (by omega) (by omega) rfl rfl) (cwV 3 hts gX0_depthOver_X0_isInside rfl rfl rfl (by decide +kernel) ⟨Nat.le_of_ble_eq_true rfl, Nat.le_of_ble_eq_true rfl⟩) (m_preV (ci := 0) (q0 := 0) (hP.sub [0, 1, 2] rfl) (hK.sub [0, 1] rfl) (hD.sub [0, 1, 2] (by decide) rfl) hN rfl rfl) rfl rfl hl.1 rfl (lv_room (Nat.le_of_ble_eq_true rfl)) dX0_depthOver_84 ⟨Nat.le_of_ble_eq_true rfl, Nat.le_of_ble_eq_true rfl⟩) (fun r84 _ H locs q84 _ hP hD hS => ?_)
      have hP : va_P (dC, dI) vwCl [(ad 3, .inr (0, [.ref (ad 6), .ref (ad 7), .ref (ad 8), .int 1, .int 2, .long ar])), (ad 6, .inl (tc 6, 3, .inl vx)), (ad 7, .inl (tc 7, 3, .inl vy)), (ad 8, .inl (tc 8, 3, .inl vz))] H := hP.sub [1, 2, 3, 0] rfl
      have hD : va_D A [(ad 3, .inr (0, [.ref (ad 6), .ref (ad 7), .ref (ad 8), .int 1, .int 2, .long ar])), (ad 6, .inl (tc 6, 3, .inl vx)), (ad 7, .inl (tc 7, 3, .inl vy)), (ad 8, .inl (tc 8, 3, .inl vz))] := hD.sub [1, 2, 3, 0] (by decide) rfl
      refine lv_if_eq (tgt := 118) hx hb dX0_depthOver_87 (by decide) (fun c87 => ?_) (fun c87 => ?_)
      · refine lv_iconst (v := (-1)) hx hb dX0_depthOver_118 (by decide) ?_
        have hP9 := hP.sub (ws' := [(ad 3, .inr (0, [.ref (ad 6), .ref (ad 7), .ref (ad 8), .int 1, .int 2, .long ar])), (ad 6, .inl (tc 6, 3, .inl vx)), (ad 7, .inl (tc 7, 3, .inl vy)), (ad 8, .inl (tc 8, 3, .inl vz))]) [0, 1, 2, 3] rfl
        have hD9 := hD.sub (ws' := [(ad 3, .inr (0, [.ref (ad 6), .ref (ad 7), .ref (ad 8), .int 1, .int 2, .long ar])), (ad 6, .inl (tc 6, 3, .inl vx)), (ad 7, .inl (tc 7, 3, .inl vy)), (ad 8, .inl (tc 8, 3, .inl vz))]) [0, 1, 2, 3] (by decide) rfl
        exact W.iret (v := (-1)) hx hb hr (fun t ht hW => ⟨⟨(-1), (), rfl, Or.inr ⟨by have hn := (b01 q84).mp c87; rw [e40] at hn; exact fun h => h.elim (fun h => hn h.2.2.1) (fun h => by have := h.1; omega), rfl⟩, by rw [ht]; exact hP9, va_K.moved hW.alike hK, hD9⟩, hS.F ht⟩) hS.2.2 dX0_depthOver_119
      · refine lv_aload_n hx hb dX0_depthOver_90 rfl (lv_at hl 5 rfl) ?_
        refine lv_lload hx hb dX0_depthOver_91 (lv_at hl 1 rfl) ?_
        refine lv_aload_n hx hb dX0_depthOver_93 rfl (lv_at hl 5 rfl) ?_
        refine va_get (D := (dC, dI)) (ci := 0) (v := .int 2) (C := RX0) (T := TX0) (N := 6) hx hb hts (by decide +kernel) hown hK hP 0 rfl rfl 4 (by decide) (hts (.fieldLink RX0 25 "TriangleRaster$Facet" "third" "I") (by decide +kernel)) (fun _ h9 => h9) rfl dX0_depthOver_94 ?_
        refine lv_iconst (v := 0) hx hb dX0_depthOver_97 (by decide) ?_
        refine m_calli (cs := [(ad 3, .inr (0, [.ref (ad 6), .ref (ad 7), .ref (ad 8), .int 1, .int 2, .long ar])), (ad 6, .inl (tc 6, 3, .inl vx)), (ad 7, .inl (tc 7, 3, .inl vy))]) (wr := [(ad 8, .inl (tc 8, 3, .inl vz))]) hP hD hS hA [0, 1, 2] [3] rfl rfl (by decide) (by decide) (va_runV (As := [.long r54, .int 2, .int 0]) (rest := []) ⟨hx, hb, hml, hown, hts⟩ (c_X0_isInside l dC dI _ ad tc 1 2 ar vx vy r54 2 0 2 0 (by omega) (by omega) rfl rfl) (cwV 3 hts gX0_depthOver_X0_isInside rfl rfl rfl (by decide +kernel) ⟨Nat.le_of_ble_eq_true rfl, Nat.le_of_ble_eq_true rfl⟩) (m_preV (ci := 0) (q0 := 0) (hP.sub [0, 1, 2] rfl) (hK.sub [0, 1] rfl) (hD.sub [0, 1, 2] (by decide) rfl) hN rfl rfl) rfl rfl hl.1 rfl (lv_room (Nat.le_of_ble_eq_true rfl)) dX0_depthOver_98 ⟨Nat.le_of_ble_eq_true rfl, Nat.le_of_ble_eq_true rfl⟩) (fun r98 _ H locs q98 _ hP hD hS => ?_)
        have hP : va_P (dC, dI) vwCl [(ad 3, .inr (0, [.ref (ad 6), .ref (ad 7), .ref (ad 8), .int 1, .int 2, .long ar])), (ad 6, .inl (tc 6, 3, .inl vx)), (ad 7, .inl (tc 7, 3, .inl vy)), (ad 8, .inl (tc 8, 3, .inl vz))] H := hP.sub [1, 2, 3, 0] rfl
        have hD : va_D A [(ad 3, .inr (0, [.ref (ad 6), .ref (ad 7), .ref (ad 8), .int 1, .int 2, .long ar])), (ad 6, .inl (tc 6, 3, .inl vx)), (ad 7, .inl (tc 7, 3, .inl vy)), (ad 8, .inl (tc 8, 3, .inl vz))] := hD.sub [1, 2, 3, 0] (by decide) rfl
        refine lv_if_eq (tgt := 118) hx hb dX0_depthOver_101 (by decide) (fun c101 => ?_) (fun c101 => ?_)
        · refine lv_iconst (v := (-1)) hx hb dX0_depthOver_118 (by decide) ?_
          have hP9 := hP.sub (ws' := [(ad 3, .inr (0, [.ref (ad 6), .ref (ad 7), .ref (ad 8), .int 1, .int 2, .long ar])), (ad 6, .inl (tc 6, 3, .inl vx)), (ad 7, .inl (tc 7, 3, .inl vy)), (ad 8, .inl (tc 8, 3, .inl vz))]) [0, 1, 2, 3] rfl
          have hD9 := hD.sub (ws' := [(ad 3, .inr (0, [.ref (ad 6), .ref (ad 7), .ref (ad 8), .int 1, .int 2, .long ar])), (ad 6, .inl (tc 6, 3, .inl vx)), (ad 7, .inl (tc 7, 3, .inl vy)), (ad 8, .inl (tc 8, 3, .inl vz))]) [0, 1, 2, 3] (by decide) rfl
          exact W.iret (v := (-1)) hx hb hr (fun t ht hW => ⟨⟨(-1), (), rfl, Or.inr ⟨by have hn := (b01 q98).mp c101; rw [e54] at hn; exact fun h => h.elim (fun h => hn h.2.2.2) (fun h => by have := h.1; omega), rfl⟩, by rw [ht]; exact hP9, va_K.moved hW.alike hK, hD9⟩, hS.F ht⟩) hS.2.2 dX0_depthOver_119
        · refine lv_aload_n hx hb dX0_depthOver_104 rfl (lv_at hl 5 rfl) ?_
          refine lv_lload hx hb dX0_depthOver_105 (lv_at hl 0 rfl) ?_
          refine lv_iconst (v := 0) hx hb dX0_depthOver_107 (by decide) ?_
          refine lv_aload_n hx hb dX0_depthOver_108 rfl (lv_at hl 5 rfl) ?_
          refine va_get (D := (dC, dI)) (ci := 0) (v := .int 1) (C := RX0) (T := TX0) (N := 6) hx hb hts (by decide +kernel) hown hK hP 0 rfl rfl 3 (by decide) (hts (.fieldLink RX0 21 "TriangleRaster$Facet" "second" "I") (by decide +kernel)) (fun _ h9 => h9) rfl dX0_depthOver_109 ?_
          refine m_calli (cs := [(ad 3, .inr (0, [.ref (ad 6), .ref (ad 7), .ref (ad 8), .int 1, .int 2, .long ar])), (ad 6, .inl (tc 6, 3, .inl vx)), (ad 7, .inl (tc 7, 3, .inl vy))]) (wr := [(ad 8, .inl (tc 8, 3, .inl vz))]) hP hD hS hA [0, 1, 2] [3] rfl rfl (by decide) (by decide) (va_runV (As := [.long r68, .int 0, .int 1]) (rest := []) ⟨hx, hb, hml, hown, hts⟩ (c_X0_isInside l dC dI _ ad tc 1 2 ar vx vy r68 0 1 0 1 (by omega) (by omega) rfl rfl) (cwV 3 hts gX0_depthOver_X0_isInside rfl rfl rfl (by decide +kernel) ⟨Nat.le_of_ble_eq_true rfl, Nat.le_of_ble_eq_true rfl⟩) (m_preV (ci := 0) (q0 := 0) (hP.sub [0, 1, 2] rfl) (hK.sub [0, 1] rfl) (hD.sub [0, 1, 2] (by decide) rfl) hN rfl rfl) rfl rfl hl.1 rfl (lv_room (Nat.le_of_ble_eq_true rfl)) dX0_depthOver_112 ⟨Nat.le_of_ble_eq_true rfl, Nat.le_of_ble_eq_true rfl⟩) (fun r112 _ H locs q112 _ hP hD hS => ?_)
          have hP : va_P (dC, dI) vwCl [(ad 3, .inr (0, [.ref (ad 6), .ref (ad 7), .ref (ad 8), .int 1, .int 2, .long ar])), (ad 6, .inl (tc 6, 3, .inl vx)), (ad 7, .inl (tc 7, 3, .inl vy)), (ad 8, .inl (tc 8, 3, .inl vz))] H := hP.sub [1, 2, 3, 0] rfl
          have hD : va_D A [(ad 3, .inr (0, [.ref (ad 6), .ref (ad 7), .ref (ad 8), .int 1, .int 2, .long ar])), (ad 6, .inl (tc 6, 3, .inl vx)), (ad 7, .inl (tc 7, 3, .inl vy)), (ad 8, .inl (tc 8, 3, .inl vz))] := hD.sub [1, 2, 3, 0] (by decide) rfl
          refine lv_if_ne (tgt := 120) hx hb dX0_depthOver_115 (by decide) (fun c115 => ?_) (fun c115 => ?_)
          · have har0 : ¬ ar = 0 := fun h => c6 ((lg_cmp_eq _ _).mpr h)
            have hT0 : ¬ tT vx vy = 0 := fun h => har0 (by rw [← Int64.toInt_inj, har, h]; rfl)
            have i84 := Classical.byContradiction (fun h => c87 ((b01 q84).mpr h))
            have i98 := Classical.byContradiction (fun h => c101 ((b01 q98).mpr h))
            have i112 := Classical.byContradiction (fun h => c115 ((b01 q112).mpr h))
            rw [e40] at i84
            rw [e54] at i98
            rw [e68] at i112
            have hC : COV vx vy cl.toInt rw_.toInt := Or.inl ⟨by omega, i112, i84, i98⟩
            refine lv_lload hx hb dX0_depthOver_120 (lv_at hl 2 rfl) ?_
            refine lv_aload_n hx hb dX0_depthOver_122 rfl (lv_at hl 5 rfl) ?_
            refine va_get (D := (dC, dI)) (ci := 0) (v := .ref (ad 8)) (C := RX0) (T := TX0) (N := 6) hx hb hts (by decide +kernel) hown hK hP 0 rfl rfl 2 (by decide) (hts (.fieldLink RX0 18 "TriangleRaster$Facet" "zs" "[I") (by decide +kernel)) (fun _ h9 => h9) rfl dX0_depthOver_123 ?_
            refine lv_iconst (v := 0) hx hb dX0_depthOver_126 (by decide) ?_
            refine va_iald hx hb hK hP 3 2 rfl rfl (by unfold vp_in; decide) dX0_depthOver_127 ?_
            refine lv_i2l hx hb dX0_depthOver_128 rfl ?_
            refine lv_lmul hx hb dX0_depthOver_129 ?_
            refine lv_lload hx hb dX0_depthOver_130 (lv_at hl 1 rfl) ?_
            refine lv_aload_n hx hb dX0_depthOver_132 rfl (lv_at hl 5 rfl) ?_
            refine va_get (D := (dC, dI)) (ci := 0) (v := .ref (ad 8)) (C := RX0) (T := TX0) (N := 6) hx hb hts (by decide +kernel) hown hK hP 0 rfl rfl 2 (by decide) (hts (.fieldLink RX0 18 "TriangleRaster$Facet" "zs" "[I") (by decide +kernel)) (fun _ h9 => h9) rfl dX0_depthOver_133 ?_
            refine lv_aload_n hx hb dX0_depthOver_136 rfl (lv_at hl 5 rfl) ?_
            refine va_get (D := (dC, dI)) (ci := 0) (v := .int 1) (C := RX0) (T := TX0) (N := 6) hx hb hts (by decide +kernel) hown hK hP 0 rfl rfl 3 (by decide) (hts (.fieldLink RX0 21 "TriangleRaster$Facet" "second" "I") (by decide +kernel)) (fun _ h9 => h9) rfl dX0_depthOver_137 ?_
            refine va_iald hx hb hK hP 3 2 rfl rfl (by unfold vp_in; decide) dX0_depthOver_140 ?_
            refine lv_i2l hx hb dX0_depthOver_141 rfl ?_
            refine lv_lmul hx hb dX0_depthOver_142 ?_
            refine lv_ladd hx hb dX0_depthOver_143 ?_
            refine lv_lload hx hb dX0_depthOver_144 (lv_at hl 0 rfl) ?_
            refine lv_aload_n hx hb dX0_depthOver_146 rfl (lv_at hl 5 rfl) ?_
            refine va_get (D := (dC, dI)) (ci := 0) (v := .ref (ad 8)) (C := RX0) (T := TX0) (N := 6) hx hb hts (by decide +kernel) hown hK hP 0 rfl rfl 2 (by decide) (hts (.fieldLink RX0 18 "TriangleRaster$Facet" "zs" "[I") (by decide +kernel)) (fun _ h9 => h9) rfl dX0_depthOver_147 ?_
            refine lv_aload_n hx hb dX0_depthOver_150 rfl (lv_at hl 5 rfl) ?_
            refine va_get (D := (dC, dI)) (ci := 0) (v := .int 2) (C := RX0) (T := TX0) (N := 6) hx hb hts (by decide +kernel) hown hK hP 0 rfl rfl 4 (by decide) (hts (.fieldLink RX0 25 "TriangleRaster$Facet" "third" "I") (by decide +kernel)) (fun _ h9 => h9) rfl dX0_depthOver_151 ?_
            refine va_iald hx hb hK hP 3 2 rfl rfl (by unfold vp_in; decide) dX0_depthOver_154 ?_
            refine lv_i2l hx hb dX0_depthOver_155 rfl ?_
            refine lv_lmul hx hb dX0_depthOver_156 ?_
            refine lv_ladd hx hb dX0_depthOver_157 ?_
            refine lv_aload_n hx hb dX0_depthOver_158 rfl (lv_at hl 5 rfl) ?_
            refine va_get (D := (dC, dI)) (ci := 0) (v := .long ar) (C := RX0) (T := TX0) (N := 6) hx hb hts (by decide +kernel) hown hK hP 0 rfl rfl 5 (by decide) (hts (.fieldLink RX0 28 "TriangleRaster$Facet" "area" "J") (by decide +kernel)) (fun _ h9 => h9) rfl dX0_depthOver_159 ?_
            refine lv_ldiv hx hb dX0_depthOver_162 har0 ?_
            refine lv_l2i hx hb dX0_depthOver_163 rfl ?_
            have hP9 := hP.sub (ws' := [(ad 3, .inr (0, [.ref (ad 6), .ref (ad 7), .ref (ad 8), .int 1, .int 2, .long ar])), (ad 6, .inl (tc 6, 3, .inl vx)), (ad 7, .inl (tc 7, 3, .inl vy)), (ad 8, .inl (tc 8, 3, .inl vz))]) [0, 1, 2, 3] rfl
            have hD9 := hD.sub (ws' := [(ad 3, .inr (0, [.ref (ad 6), .ref (ad 7), .ref (ad 8), .int 1, .int 2, .long ar])), (ad 6, .inl (tc 6, 3, .inl vx)), (ad 7, .inl (tc 7, 3, .inl vy)), (ad 8, .inl (tc 8, 3, .inl vz))]) [0, 1, 2, 3] (by decide) rfl
            exact W.iret (v := (((((r40 * ((vz 0).toInt64)) + (r54 * ((vz 1).toInt64))) + (r68 * ((vz 2).toInt64))) / ar).toInt32)) hx hb hr (fun t ht hW => ⟨⟨((((r40 * ((vz 0).toInt64)) + (r54 * ((vz 1).toInt64))) + (r68 * ((vz 2).toInt64))) / ar).toInt32, (), rfl, Or.inl ⟨hC, by have hq := DPT_b hz hC; exact dep_val e40 e54 e68 har (EE_b hv (by omega) (by omega) hcl hrw) (EE_b hv (by omega) (by omega) hcl hrw) (EE_b hv (by omega) (by omega) hcl hrw) (hz 0 (by omega)) (hz 1 (by omega)) (hz 2 (by omega)) hq⟩, by rw [ht]; exact hP9, va_K.moved hW.alike hK, hD9⟩, hS.F ht⟩) hS.2.2 dX0_depthOver_164
          · refine lv_iconst (v := (-1)) hx hb dX0_depthOver_118 (by decide) ?_
            have hP9 := hP.sub (ws' := [(ad 3, .inr (0, [.ref (ad 6), .ref (ad 7), .ref (ad 8), .int 1, .int 2, .long ar])), (ad 6, .inl (tc 6, 3, .inl vx)), (ad 7, .inl (tc 7, 3, .inl vy)), (ad 8, .inl (tc 8, 3, .inl vz))]) [0, 1, 2, 3] rfl
            have hD9 := hD.sub (ws' := [(ad 3, .inr (0, [.ref (ad 6), .ref (ad 7), .ref (ad 8), .int 1, .int 2, .long ar])), (ad 6, .inl (tc 6, 3, .inl vx)), (ad 7, .inl (tc 7, 3, .inl vy)), (ad 8, .inl (tc 8, 3, .inl vz))]) [0, 1, 2, 3] (by decide) rfl
            exact W.iret (v := (-1)) hx hb hr (fun t ht hW => ⟨⟨(-1), (), rfl, Or.inr ⟨by have hn := (b01 q112).mp c115; rw [e68] at hn; exact fun h => h.elim (fun h => hn h.2.1) (fun h => by have := h.1; omega), rfl⟩, by rw [ht]; exact hP9, va_K.moved hW.alike hK, hD9⟩, hS.F ht⟩) hS.2.2 dX0_depthOver_119
    · refine lv_iconst (v := (-1)) hx hb dX0_depthOver_9 (by decide) ?_
      have hP9 := hP.sub (ws' := [(ad 3, .inr (0, [.ref (ad 6), .ref (ad 7), .ref (ad 8), .int 1, .int 2, .long ar])), (ad 6, .inl (tc 6, 3, .inl vx)), (ad 7, .inl (tc 7, 3, .inl vy)), (ad 8, .inl (tc 8, 3, .inl vz))]) [0, 1, 2, 3] rfl
      have hD9 := hD.sub (ws' := [(ad 3, .inr (0, [.ref (ad 6), .ref (ad 7), .ref (ad 8), .int 1, .int 2, .long ar])), (ad 6, .inl (tc 6, 3, .inl vx)), (ad 7, .inl (tc 7, 3, .inl vy)), (ad 8, .inl (tc 8, 3, .inl vz))]) [0, 1, 2, 3] (by decide) rfl
      exact W.iret (v := (-1)) hx hb hr (fun t ht hW => ⟨⟨(-1), (), rfl, Or.inr ⟨by have h0 : tT vx vy = 0 := (by rw [lg_cmp_eq, ← Int64.toInt_inj, Int64.toInt_zero, har] at c6; omega); exact fun h => h.elim (fun h => by have := h.1; omega) (fun h => by have := h.1; omega), rfl⟩, by rw [ht]; exact hP9, va_K.moved hW.alike hK, hD9⟩, hS.F ht⟩) hS.2.2 dX0_depthOver_10

