set_option maxHeartbeats 4000000 in
set_option maxRecDepth 100000 in
/-- isWithin: least <= number <= most -/
theorem c_X1_isWithin (l : Launch) (dC : Nat → ClassId) (dI : Nat → Nat → Nat) (sz : Nat) (x lo hi : Int32) (a b : Int) (ha : lo.toInt = a) (hb0 : hi.toInt = b) : Met l yX1_isWithin wsX1_isWithin ({ frames := 0, cells := 0, slots := 0, locals := 0 }) (mP (dC, dI) vwCl [] [] sz [.int x, .int lo, .int hi]) (va_Qi (fun (r : Int32) (u : Unit) => ((a ≤ x.toInt ∧ x.toInt ≤ b) ∧ r = 1) ∨ (¬ (a ≤ x.toInt ∧ x.toInt ≤ b) ∧ r = 0)) (mB (dC, dI) vwCl [] (va_A [] sz) (fun u => [])) (va_A [] sz)) 0 0 (va_A [] sz) := by
  refine Met.ofW (cc := cX1_isWithin) (maxL := 3) (ret := (some .boolean)) (by decide) rfl ?_
  intro p e s m args below meth cD s₁ B hml hv
  obtain ⟨rfl, hsz, hP, hK, hD0, hN⟩ := hv
  have hx := B.exec
  have hb := B.bytes
  have hr := B.returns
  have hts := atoms_spec (ws := wsX1_isWithin) B.pre
  have hown : s.vm.findClass RX1 = some m.cls := findClass_of_methodNamed B.named
  have hlocks := B.notSynchronized
  subst hsz
  have hD := hD0.self (sz := s.heap.size)
  generalize hAe : va_A [] s.heap.size = A at hD ⊢
  have hA : ∀ q : Nat, s.heap.size ≤ q → A q := fun q h => by rw [← hAe]; exact Or.inr h
  have hS : va_S A s.heap s.heap [] := va_S.rf
  have hP : va_P (dC, dI) vwCl [] s.heap := hP
  have hl := lv_entry ([.int x, .int lo, .int hi]) (n := 3) (Nat.le_of_ble_eq_true rfl)
  rw [lg_entry_eq]
  generalize (lg_sl ([.int x, .int lo, .int hi]) ++ List.replicate (3 - (lg_sl ([.int x, .int lo, .int hi])).length) Slot.unset).toArray = ls at hl ⊢
  have hl : lv_has ls 3 [(0, .int x), (1, .int lo), (2, .int hi)] := hl
  refine lv_iload_n hx hb dX1_isWithin_0 rfl (lv_at hl 0 rfl) ?_
  refine lv_iload_n hx hb dX1_isWithin_1 rfl (lv_at hl 1 rfl) ?_
  refine lv_icmp_lt (tgt := 14) hx hb dX1_isWithin_2 (by decide) (fun c2 => ?_) (fun c2 => ?_)
  · refine lv_iconst (v := 0) hx hb dX1_isWithin_14 (by decide) ?_
    have hP9 := hP.sub (ws' := []) [] rfl
    have hD9 := hD.sub (ws' := []) [] (by decide) rfl
    exact W.zret (v := 0) hx hb hr rfl (fun t ht hW => ⟨⟨0, (), rfl, Or.inr ⟨by simp only [Int32.lt_iff_toInt_lt, Int32.le_iff_toInt_le] at c2; omega, rfl⟩, by rw [ht]; exact hP9, va_K.moved hW.alike hK, hD9⟩, hS.F ht⟩) hS.2.2 dX1_isWithin_15
  · refine lv_iload_n hx hb dX1_isWithin_5 rfl (lv_at hl 0 rfl) ?_
    refine lv_iload_n hx hb dX1_isWithin_6 rfl (lv_at hl 2 rfl) ?_
    refine lv_icmp_gt (tgt := 14) hx hb dX1_isWithin_7 (by decide) (fun c7 => ?_) (fun c7 => ?_)
    · refine lv_iconst (v := 0) hx hb dX1_isWithin_14 (by decide) ?_
      have hP9 := hP.sub (ws' := []) [] rfl
      have hD9 := hD.sub (ws' := []) [] (by decide) rfl
      exact W.zret (v := 0) hx hb hr rfl (fun t ht hW => ⟨⟨0, (), rfl, Or.inr ⟨by simp only [Int32.lt_iff_toInt_lt, Int32.le_iff_toInt_le] at c2 c7; omega, rfl⟩, by rw [ht]; exact hP9, va_K.moved hW.alike hK, hD9⟩, hS.F ht⟩) hS.2.2 dX1_isWithin_15
    · refine lv_iconst (v := 1) hx hb dX1_isWithin_10 (by decide) ?_
      refine lv_goto (tgt := 15) hx hb dX1_isWithin_11 (by decide) ?_
      have hP9 := hP.sub (ws' := []) [] rfl
      have hD9 := hD.sub (ws' := []) [] (by decide) rfl
      exact W.zret (v := 1) hx hb hr rfl (fun t ht hW => ⟨⟨1, (), rfl, Or.inl ⟨by simp only [Int32.lt_iff_toInt_lt, Int32.le_iff_toInt_le] at c2 c7; omega, rfl⟩, by rw [ht]; exact hP9, va_K.moved hW.alike hK, hD9⟩, hS.F ht⟩) hS.2.2 dX1_isWithin_15

set_option maxHeartbeats 4000000 in
set_option maxRecDepth 100000 in
/-- sideOf -/
theorem c_X1_sideOf (l : Launch) (dC : Nat → ClassId) (dI : Nat → Nat → Nat) (sz : Nat) (x : Int32) : Met l yX1_sideOf wsX1_sideOf ({ frames := 1, cells := 0, slots := 0, locals := 22 }) (mP (dC, dI) vwCl [] [] sz [.int x]) (va_Qi (fun (r : Int32) (u : Unit) => ((1 ≤ x.toInt ∧ x.toInt ≤ 24) ∧ r = x) ∨ (¬ (1 ≤ x.toInt ∧ x.toInt ≤ 24) ∧ r = 1)) (mB (dC, dI) vwCl [] (va_A [] sz) (fun u => [])) (va_A [] sz)) 0 0 (va_A [] sz) := by
  refine Met.ofW (cc := cX1_sideOf) (maxL := 1) (ret := (some .int)) (by decide) rfl ?_
  intro p e s m args below meth cD s₁ B hml hv
  obtain ⟨rfl, hsz, hP, hK, hD0, hN⟩ := hv
  have hx := B.exec
  have hb := B.bytes
  have hr := B.returns
  have hts := atoms_spec (ws := wsX1_sideOf) B.pre
  have hown : s.vm.findClass RX1 = some m.cls := findClass_of_methodNamed B.named
  have hlocks := B.notSynchronized
  subst hsz
  have hD := hD0.self (sz := s.heap.size)
  generalize hAe : va_A [] s.heap.size = A at hD ⊢
  have hA : ∀ q : Nat, s.heap.size ≤ q → A q := fun q h => by rw [← hAe]; exact Or.inr h
  have hS : va_S A s.heap s.heap [] := va_S.rf
  have hP : va_P (dC, dI) vwCl [] s.heap := hP
  have hl := lv_entry ([.int x]) (n := 1) (Nat.le_of_ble_eq_true rfl)
  rw [lg_entry_eq]
  generalize (lg_sl ([.int x]) ++ List.replicate (1 - (lg_sl ([.int x])).length) Slot.unset).toArray = ls at hl ⊢
  have hl : lv_has ls 1 [(0, .int x)] := hl
  refine lv_iload_n hx hb dX1_sideOf_0 rfl (lv_at hl 0 rfl) ?_
  refine lv_iconst (v := 1) hx hb dX1_sideOf_1 (by decide) ?_
  refine lv_bipush (v := 24) hx hb dX1_sideOf_2 (by decide) ?_
  refine m_calli (cs := []) (wr := []) hP hD hS hA [] [] rfl rfl (by decide) (by decide) (va_runS (As := [.int x, .int 1, .int 24]) (rest := []) ⟨hx, hb, hml, hown, hts⟩ (c_X1_isWithin l dC dI _ x 1 24 1 24 rfl rfl) (va_cwS 3 hts gX1_sideOf_X1_isWithin rfl rfl rfl (by decide +kernel) ⟨Nat.le_of_ble_eq_true rfl, Nat.le_of_ble_eq_true rfl⟩) (m_preS (hP.sub [] rfl) (hK.sub [] rfl) (hD.sub [] (by decide) rfl) hN) rfl rfl hl.1 rfl (lv_room (Nat.le_of_ble_eq_true rfl)) dX1_sideOf_4 ⟨Nat.le_of_ble_eq_true rfl, Nat.le_of_ble_eq_true rfl⟩) (fun r4 _ H locs q4 _ hP hD hS => ?_)
  have hP : va_P (dC, dI) vwCl [] H := hP.sub [] rfl
  have hD : va_D A [] := hD.sub [] (by decide) rfl
  refine lv_if_eq (tgt := 14) hx hb dX1_sideOf_7 (by decide) (fun c7 => ?_) (fun c7 => ?_)
  · refine lv_iconst (v := 1) hx hb dX1_sideOf_14 (by decide) ?_
    have hP9 := hP.sub (ws' := []) [] rfl
    have hD9 := hD.sub (ws' := []) [] (by decide) rfl
    exact W.iret (v := 1) hx hb hr (fun t ht hW => ⟨⟨1, (), rfl, Or.inr ⟨(b01 q4).mp c7, rfl⟩, by rw [ht]; exact hP9, va_K.moved hW.alike hK, hD9⟩, hS.F ht⟩) hS.2.2 dX1_sideOf_15
  · refine lv_iload_n hx hb dX1_sideOf_10 rfl (lv_at hl 0 rfl) ?_
    refine lv_goto (tgt := 15) hx hb dX1_sideOf_11 (by decide) ?_
    have hP9 := hP.sub (ws' := []) [] rfl
    have hD9 := hD.sub (ws' := []) [] (by decide) rfl
    exact W.iret (v := x) hx hb hr (fun t ht hW => ⟨⟨x, (), rfl, Or.inl ⟨Classical.byContradiction (fun h => c7 ((b01 q4).mpr h)), rfl⟩, by rw [ht]; exact hP9, va_K.moved hW.alike hK, hD9⟩, hS.F ht⟩) hS.2.2 dX1_sideOf_15

set_option maxHeartbeats 4000000 in
set_option maxRecDepth 100000 in
/-- isCoordinate -/
theorem c_X1_isCoordinate (l : Launch) (dC : Nat → ClassId) (dI : Nat → Nat → Nat) (sz : Nat) (x : Int32) : Met l yX1_isCoordinate wsX1_isCoordinate ({ frames := 1, cells := 0, slots := 0, locals := 22 }) (mP (dC, dI) vwCl [] [] sz [.int x]) (va_Qi (fun (r : Int32) (u : Unit) => ((-16384 ≤ x.toInt ∧ x.toInt ≤ 16384) ∧ r = 1) ∨ (¬ (-16384 ≤ x.toInt ∧ x.toInt ≤ 16384) ∧ r = 0)) (mB (dC, dI) vwCl [] (va_A [] sz) (fun u => [])) (va_A [] sz)) 0 0 (va_A [] sz) := by
  refine Met.ofW (cc := cX1_isCoordinate) (maxL := 1) (ret := (some .boolean)) (by decide) rfl ?_
  intro p e s m args below meth cD s₁ B hml hv
  obtain ⟨rfl, hsz, hP, hK, hD0, hN⟩ := hv
  have hx := B.exec
  have hb := B.bytes
  have hr := B.returns
  have hts := atoms_spec (ws := wsX1_isCoordinate) B.pre
  have hown : s.vm.findClass RX1 = some m.cls := findClass_of_methodNamed B.named
  have hlocks := B.notSynchronized
  subst hsz
  have hD := hD0.self (sz := s.heap.size)
  generalize hAe : va_A [] s.heap.size = A at hD ⊢
  have hA : ∀ q : Nat, s.heap.size ≤ q → A q := fun q h => by rw [← hAe]; exact Or.inr h
  have hS : va_S A s.heap s.heap [] := va_S.rf
  have hP : va_P (dC, dI) vwCl [] s.heap := hP
  have hl := lv_entry ([.int x]) (n := 1) (Nat.le_of_ble_eq_true rfl)
  rw [lg_entry_eq]
  generalize (lg_sl ([.int x]) ++ List.replicate (1 - (lg_sl ([.int x])).length) Slot.unset).toArray = ls at hl ⊢
  have hl : lv_has ls 1 [(0, .int x)] := hl
  refine lv_iload_n hx hb dX1_isCoordinate_0 rfl (lv_at hl 0 rfl) ?_
  refine lv_sipush (v := (-16384)) hx hb dX1_isCoordinate_1 (by decide) ?_
  refine lv_sipush (v := 16384) hx hb dX1_isCoordinate_4 (by decide) ?_
  refine m_calli (cs := []) (wr := []) hP hD hS hA [] [] rfl rfl (by decide) (by decide) (va_runS (As := [.int x, .int (-16384), .int 16384]) (rest := []) ⟨hx, hb, hml, hown, hts⟩ (c_X1_isWithin l dC dI _ x (-16384) 16384 (-16384) 16384 (by decide) (by decide)) (va_cwS 3 hts gX1_isCoordinate_X1_isWithin rfl rfl rfl (by decide +kernel) ⟨Nat.le_of_ble_eq_true rfl, Nat.le_of_ble_eq_true rfl⟩) (m_preS (hP.sub [] rfl) (hK.sub [] rfl) (hD.sub [] (by decide) rfl) hN) rfl rfl hl.1 rfl (lv_room (Nat.le_of_ble_eq_true rfl)) dX1_isCoordinate_7 ⟨Nat.le_of_ble_eq_true rfl, Nat.le_of_ble_eq_true rfl⟩) (fun r7 _ H locs q7 _ hP hD hS => ?_)
  have hP : va_P (dC, dI) vwCl [] H := hP.sub [] rfl
  have hD : va_D A [] := hD.sub [] (by decide) rfl
  have hz9 : narrow .boolean (.int r7) = .int r7 := by rcases q7 with h | h <;> rw [h.2] <;> rfl
  have hP9 := hP.sub (ws' := []) [] rfl
  have hD9 := hD.sub (ws' := []) [] (by decide) rfl
  exact W.zret (v := r7) hx hb hr hz9 (fun t ht hW => ⟨⟨r7, (), rfl, q7, by rw [ht]; exact hP9, va_K.moved hW.alike hK, hD9⟩, hS.F ht⟩) hS.2.2 dX1_isCoordinate_10

set_option maxHeartbeats 4000000 in
set_option maxRecDepth 100000 in
/-- indexOf -/
theorem c_X1_indexOf (l : Launch) (dC : Nat → ClassId) (dI : Nat → Nat → Nat) (sz : Nat) (ad : Nat → Nat) (w h : Nat) (qd : Int32) (hw1 : 1 ≤ w) (hw2 : w ≤ 24) (hh1 : 1 ≤ h) (hh2 : h ≤ 24) (x y : Int32) : Met l yX1_indexOf wsX1_indexOf ({ frames := 1, cells := 0, slots := 0, locals := 22 }) (mP (dC, dI) vwCl [] [(ad 0, .inr (1, [.int (nI w), .int (nI h), .ref (ad 1), .ref (ad 2), .ref (ad 3), .ref (ad 4), .ref (ad 5), .int qd]))] sz [.ref (ad 0), .int x, .int y]) (va_Qi (fun (r : Int32) (u : Unit) => (inX w h x y ∧ r = nI (lin w x y)) ∨ (¬ inX w h x y ∧ r = -1)) (mB (dC, dI) vwCl [] (va_A [(ad 0, .inr (1, [.int (nI w), .int (nI h), .ref (ad 1), .ref (ad 2), .ref (ad 3), .ref (ad 4), .ref (ad 5), .int qd]))] sz) (fun u => [(ad 0, .inr (1, [.int (nI w), .int (nI h), .ref (ad 1), .ref (ad 2), .ref (ad 3), .ref (ad 4), .ref (ad 5), .int qd]))])) (va_A [(ad 0, .inr (1, [.int (nI w), .int (nI h), .ref (ad 1), .ref (ad 2), .ref (ad 3), .ref (ad 4), .ref (ad 5), .int qd]))] sz)) 0 0 (va_A [(ad 0, .inr (1, [.int (nI w), .int (nI h), .ref (ad 1), .ref (ad 2), .ref (ad 3), .ref (ad 4), .ref (ad 5), .int qd]))] sz) := by
  refine Met.ofW (cc := cX1_indexOf) (maxL := 4) (ret := (some .int)) (by decide) rfl ?_
  intro p e s m args below meth cD s₁ B hml hv
  obtain ⟨rfl, hsz, hP, hK, hD0, hN⟩ := hv
  have hx := B.exec
  have hb := B.bytes
  have hr := B.returns
  have hts := atoms_spec (ws := wsX1_indexOf) B.pre
  have hown : s.vm.findClass RX1 = some m.cls := findClass_of_methodNamed B.named
  have hlocks := B.notSynchronized
  subst hsz
  have hD := hD0.self (sz := s.heap.size)
  generalize hAe : va_A [(ad 0, .inr (1, [.int (nI w), .int (nI h), .ref (ad 1), .ref (ad 2), .ref (ad 3), .ref (ad 4), .ref (ad 5), .int qd]))] s.heap.size = A at hD ⊢
  have hA : ∀ q : Nat, s.heap.size ≤ q → A q := fun q h => by rw [← hAe]; exact Or.inr h
  have hS : va_S A s.heap s.heap [] := va_S.rf
  have hP : va_P (dC, dI) vwCl [(ad 0, .inr (1, [.int (nI w), .int (nI h), .ref (ad 1), .ref (ad 2), .ref (ad 3), .ref (ad 4), .ref (ad 5), .int qd]))] s.heap := hP
  have hl := lv_entry ([.ref (ad 0), .int x, .int y]) (n := 4) (Nat.le_of_ble_eq_true rfl)
  rw [lg_entry_eq]
  generalize (lg_sl ([.ref (ad 0), .int x, .int y]) ++ List.replicate (4 - (lg_sl ([.ref (ad 0), .int x, .int y])).length) Slot.unset).toArray = ls at hl ⊢
  have hl : lv_has ls 4 [(0, .ref (ad 0)), (1, .int x), (2, .int y)] := hl
  refine lv_iload_n hx hb dX1_indexOf_0 rfl (lv_at hl 1 rfl) ?_
  refine lv_iconst (v := 0) hx hb dX1_indexOf_1 (by decide) ?_
  refine lv_aload_n hx hb dX1_indexOf_2 rfl (lv_at hl 0 rfl) ?_
  refine va_get (D := (dC, dI)) (ci := 1) (v := .int (nI w)) (C := RX1) (T := TX1) (N := 8) hx hb hts (by decide +kernel) hown hK hP 0 rfl rfl 0 (by decide) (hts (.fieldLink RX1 13 "TriangleRaster" "width" "I") (by decide +kernel)) (fun _ h9 => h9) rfl dX1_indexOf_3 ?_
  refine lv_iconst (v := 1) hx hb dX1_indexOf_6 (by decide) ?_
  refine lv_isub hx hb dX1_indexOf_7 ?_
  refine m_calli (cs := []) (wr := [(ad 0, .inr (1, [.int (nI w), .int (nI h), .ref (ad 1), .ref (ad 2), .ref (ad 3), .ref (ad 4), .ref (ad 5), .int qd]))]) hP hD hS hA [] [0] rfl rfl (by decide) (by decide) (va_runS (As := [.int x, .int 0, .int ((nI w) - 1)]) (rest := []) ⟨hx, hb, hml, hown, hts⟩ (c_X1_isWithin l dC dI _ x 0 ((nI w) - 1) 0 (w - 1) rfl (nI_subm hw1 hw2)) (va_cwS 3 hts gX1_indexOf_X1_isWithin rfl rfl rfl (by decide +kernel) ⟨Nat.le_of_ble_eq_true rfl, Nat.le_of_ble_eq_true rfl⟩) (m_preS (hP.sub [] rfl) (hK.sub [] rfl) (hD.sub [] (by decide) rfl) hN) rfl rfl hl.1 rfl (lv_room (Nat.le_of_ble_eq_true rfl)) dX1_indexOf_8 ⟨Nat.le_of_ble_eq_true rfl, Nat.le_of_ble_eq_true rfl⟩) (fun r8 _ H locs q8 _ hP hD hS => ?_)
  have hP : va_P (dC, dI) vwCl [(ad 0, .inr (1, [.int (nI w), .int (nI h), .ref (ad 1), .ref (ad 2), .ref (ad 3), .ref (ad 4), .ref (ad 5), .int qd]))] H := hP.sub [0] rfl
  have hD : va_D A [(ad 0, .inr (1, [.int (nI w), .int (nI h), .ref (ad 1), .ref (ad 2), .ref (ad 3), .ref (ad 4), .ref (ad 5), .int qd]))] := hD.sub [0] (by decide) rfl
  refine lv_if_eq (tgt := 32) hx hb dX1_indexOf_11 (by decide) (fun c11 => ?_) (fun c11 => ?_)
  · refine lv_iconst (v := 0) hx hb dX1_indexOf_32 (by decide) ?_
    refine lv_istore_n (lv' := [(3, .int 0), (0, .ref (ad 0)), (1, .int x), (2, .int y)]) hx hb dX1_indexOf_33 rfl hl (by decide) rfl (fun ls hl => ?_)
    refine lv_iload_n hx hb dX1_indexOf_34 rfl (lv_at hl 0 rfl) ?_
    refine lv_if_eq (tgt := 49) hx hb dX1_indexOf_35 (by decide) (fun c35 => ?_) (fun c35 => ?_)
    · refine lv_iconst (v := (-1)) hx hb dX1_indexOf_49 (by decide) ?_
      have hP9 := hP.sub (ws' := [(ad 0, .inr (1, [.int (nI w), .int (nI h), .ref (ad 1), .ref (ad 2), .ref (ad 3), .ref (ad 4), .ref (ad 5), .int qd]))]) [0] rfl
      have hD9 := hD.sub (ws' := [(ad 0, .inr (1, [.int (nI w), .int (nI h), .ref (ad 1), .ref (ad 2), .ref (ad 3), .ref (ad 4), .ref (ad 5), .int qd]))]) [0] (by decide) rfl
      exact W.iret (v := (-1)) hx hb hr (fun t ht hW => ⟨⟨(-1), (), rfl, Or.inr ⟨fun h => (b01 q8).mp c11 ⟨h.1.1, by have := h.1.2; omega⟩, rfl⟩, by rw [ht]; exact hP9, va_K.moved hW.alike hK, hD9⟩, hS.F ht⟩) hS.2.2 dX1_indexOf_50
    · exact absurd c35 (by decide)
  · refine lv_iload_n hx hb dX1_indexOf_14 rfl (lv_at hl 2 rfl) ?_
    refine lv_iconst (v := 0) hx hb dX1_indexOf_15 (by decide) ?_
    refine lv_aload_n hx hb dX1_indexOf_16 rfl (lv_at hl 0 rfl) ?_
    refine va_get (D := (dC, dI)) (ci := 1) (v := .int (nI h)) (C := RX1) (T := TX1) (N := 8) hx hb hts (by decide +kernel) hown hK hP 0 rfl rfl 1 (by decide) (hts (.fieldLink RX1 17 "TriangleRaster" "height" "I") (by decide +kernel)) (fun _ h9 => h9) rfl dX1_indexOf_17 ?_
    refine lv_iconst (v := 1) hx hb dX1_indexOf_20 (by decide) ?_
    refine lv_isub hx hb dX1_indexOf_21 ?_
    refine m_calli (cs := []) (wr := [(ad 0, .inr (1, [.int (nI w), .int (nI h), .ref (ad 1), .ref (ad 2), .ref (ad 3), .ref (ad 4), .ref (ad 5), .int qd]))]) hP hD hS hA [] [0] rfl rfl (by decide) (by decide) (va_runS (As := [.int y, .int 0, .int ((nI h) - 1)]) (rest := []) ⟨hx, hb, hml, hown, hts⟩ (c_X1_isWithin l dC dI _ y 0 ((nI h) - 1) 0 (h - 1) rfl (nI_subm hh1 hh2)) (va_cwS 3 hts gX1_indexOf_X1_isWithin rfl rfl rfl (by decide +kernel) ⟨Nat.le_of_ble_eq_true rfl, Nat.le_of_ble_eq_true rfl⟩) (m_preS (hP.sub [] rfl) (hK.sub [] rfl) (hD.sub [] (by decide) rfl) hN) rfl rfl hl.1 rfl (lv_room (Nat.le_of_ble_eq_true rfl)) dX1_indexOf_22 ⟨Nat.le_of_ble_eq_true rfl, Nat.le_of_ble_eq_true rfl⟩) (fun r22 _ H locs q22 _ hP hD hS => ?_)
    have hP : va_P (dC, dI) vwCl [(ad 0, .inr (1, [.int (nI w), .int (nI h), .ref (ad 1), .ref (ad 2), .ref (ad 3), .ref (ad 4), .ref (ad 5), .int qd]))] H := hP.sub [0] rfl
    have hD : va_D A [(ad 0, .inr (1, [.int (nI w), .int (nI h), .ref (ad 1), .ref (ad 2), .ref (ad 3), .ref (ad 4), .ref (ad 5), .int qd]))] := hD.sub [0] (by decide) rfl
    refine lv_if_eq (tgt := 32) hx hb dX1_indexOf_25 (by decide) (fun c25 => ?_) (fun c25 => ?_)
    · refine lv_iconst (v := 0) hx hb dX1_indexOf_32 (by decide) ?_
      refine lv_istore_n (lv' := [(3, .int 0), (0, .ref (ad 0)), (1, .int x), (2, .int y)]) hx hb dX1_indexOf_33 rfl hl (by decide) rfl (fun ls hl => ?_)
      refine lv_iload_n hx hb dX1_indexOf_34 rfl (lv_at hl 0 rfl) ?_
      refine lv_if_eq (tgt := 49) hx hb dX1_indexOf_35 (by decide) (fun c35 => ?_) (fun c35 => ?_)
      · refine lv_iconst (v := (-1)) hx hb dX1_indexOf_49 (by decide) ?_
        have hP9 := hP.sub (ws' := [(ad 0, .inr (1, [.int (nI w), .int (nI h), .ref (ad 1), .ref (ad 2), .ref (ad 3), .ref (ad 4), .ref (ad 5), .int qd]))]) [0] rfl
        have hD9 := hD.sub (ws' := [(ad 0, .inr (1, [.int (nI w), .int (nI h), .ref (ad 1), .ref (ad 2), .ref (ad 3), .ref (ad 4), .ref (ad 5), .int qd]))]) [0] (by decide) rfl
        exact W.iret (v := (-1)) hx hb hr (fun t ht hW => ⟨⟨(-1), (), rfl, Or.inr ⟨fun h => (b01 q22).mp c25 ⟨h.2.1, by have := h.2.2; omega⟩, rfl⟩, by rw [ht]; exact hP9, va_K.moved hW.alike hK, hD9⟩, hS.F ht⟩) hS.2.2 dX1_indexOf_50
      · exact absurd c35 (by decide)
    · refine lv_iconst (v := 1) hx hb dX1_indexOf_28 (by decide) ?_
      refine lv_goto (tgt := 33) hx hb dX1_indexOf_29 (by decide) ?_
      refine lv_istore_n (lv' := [(3, .int 1), (0, .ref (ad 0)), (1, .int x), (2, .int y)]) hx hb dX1_indexOf_33 rfl hl (by decide) rfl (fun ls hl => ?_)
      refine lv_iload_n hx hb dX1_indexOf_34 rfl (lv_at hl 0 rfl) ?_
      refine lv_if_eq (tgt := 49) hx hb dX1_indexOf_35 (by decide) (fun c35 => ?_) (fun c35 => ?_)
      · exact absurd c35 (by decide)
      · refine lv_iload_n hx hb dX1_indexOf_38 rfl (lv_at hl 3 rfl) ?_
        refine lv_aload_n hx hb dX1_indexOf_39 rfl (lv_at hl 1 rfl) ?_
        refine va_get (D := (dC, dI)) (ci := 1) (v := .int (nI w)) (C := RX1) (T := TX1) (N := 8) hx hb hts (by decide +kernel) hown hK hP 0 rfl rfl 0 (by decide) (hts (.fieldLink RX1 13 "TriangleRaster" "width" "I") (by decide +kernel)) (fun _ h9 => h9) rfl dX1_indexOf_40 ?_
        refine lv_imul hx hb dX1_indexOf_43 ?_
        refine lv_iload_n hx hb dX1_indexOf_44 rfl (lv_at hl 2 rfl) ?_
        refine lv_iadd hx hb dX1_indexOf_45 ?_
        refine lv_goto (tgt := 50) hx hb dX1_indexOf_46 (by decide) ?_
        have h8 : (0 : Int) ≤ x.toInt ∧ x.toInt ≤ w - 1 := Classical.byContradiction (fun h => c11 ((b01 q8).mpr h))
        have h22 : (0 : Int) ≤ y.toInt ∧ y.toInt ≤ h - 1 := Classical.byContradiction (fun h => c25 ((b01 q22).mpr h))
        have hi9 : inX w h x y := ⟨⟨h8.1, by omega⟩, h22.1, by omega⟩
        have hP9 := hP.sub (ws' := [(ad 0, .inr (1, [.int (nI w), .int (nI h), .ref (ad 1), .ref (ad 2), .ref (ad 3), .ref (ad 4), .ref (ad 5), .int qd]))]) [0] rfl
        have hD9 := hD.sub (ws' := [(ad 0, .inr (1, [.int (nI w), .int (nI h), .ref (ad 1), .ref (ad 2), .ref (ad 3), .ref (ad 4), .ref (ad 5), .int qd]))]) [0] (by decide) rfl
        exact W.iret (v := ((y * (nI w)) + x)) hx hb hr (fun t ht hW => ⟨⟨(y * (nI w)) + x, (), rfl, Or.inl ⟨hi9, lin_ix hi9⟩, by rw [ht]; exact hP9, va_K.moved hW.alike hK, hD9⟩, hS.F ht⟩) hS.2.2 dX1_indexOf_50

set_option maxHeartbeats 4000000 in
set_option maxRecDepth 100000 in
/-- pixel -/
theorem c_X1_pixel (l : Launch) (dC : Nat → ClassId) (dI : Nat → Nat → Nat) (sz : Nat) (ad : Nat → Nat) (tc : Nat → ClassId) (w h : Nat) (qd : Int32) (col : Nat → Int32) (hw1 : 1 ≤ w) (hw2 : w ≤ 24) (hh1 : 1 ≤ h) (hh2 : h ≤ 24) (x y : Int32) : Met l yX1_pixel wsX1_pixel ({ frames := 2, cells := 0, slots := 0, locals := 45 }) (mP (dC, dI) vwCl [(tc 1, .int)] [(ad 0, .inr (1, [.int (nI w), .int (nI h), .ref (ad 1), .ref (ad 2), .ref (ad 3), .ref (ad 4), .ref (ad 5), .int qd])), (ad 1, .inl (tc 1, (w * h), .inl col))] sz [.ref (ad 0), .int x, .int y]) (va_Qi (fun (r : Int32) (u : Unit) => (inX w h x y ∧ r = col (lin w x y)) ∨ (¬ inX w h x y ∧ r = -1)) (mB (dC, dI) vwCl [(tc 1, .int)] (va_A [(ad 0, .inr (1, [.int (nI w), .int (nI h), .ref (ad 1), .ref (ad 2), .ref (ad 3), .ref (ad 4), .ref (ad 5), .int qd])), (ad 1, .inl (tc 1, (w * h), .inl col))] sz) (fun u => [(ad 0, .inr (1, [.int (nI w), .int (nI h), .ref (ad 1), .ref (ad 2), .ref (ad 3), .ref (ad 4), .ref (ad 5), .int qd])), (ad 1, .inl (tc 1, (w * h), .inl col))])) (va_A [(ad 0, .inr (1, [.int (nI w), .int (nI h), .ref (ad 1), .ref (ad 2), .ref (ad 3), .ref (ad 4), .ref (ad 5), .int qd])), (ad 1, .inl (tc 1, (w * h), .inl col))] sz)) 0 0 (va_A [(ad 0, .inr (1, [.int (nI w), .int (nI h), .ref (ad 1), .ref (ad 2), .ref (ad 3), .ref (ad 4), .ref (ad 5), .int qd])), (ad 1, .inl (tc 1, (w * h), .inl col))] sz) := by
  refine Met.ofW (cc := cX1_pixel) (maxL := 4) (ret := (some .int)) (by decide) rfl ?_
  intro p e s m args below meth cD s₁ B hml hv
  obtain ⟨rfl, hsz, hP, hK, hD0, hN⟩ := hv
  have hx := B.exec
  have hb := B.bytes
  have hr := B.returns
  have hts := atoms_spec (ws := wsX1_pixel) B.pre
  have hown : s.vm.findClass RX1 = some m.cls := findClass_of_methodNamed B.named
  have hlocks := B.notSynchronized
  subst hsz
  have hD := hD0.self (sz := s.heap.size)
  generalize hAe : va_A [(ad 0, .inr (1, [.int (nI w), .int (nI h), .ref (ad 1), .ref (ad 2), .ref (ad 3), .ref (ad 4), .ref (ad 5), .int qd])), (ad 1, .inl (tc 1, (w * h), .inl col))] s.heap.size = A at hD ⊢
  have hA : ∀ q : Nat, s.heap.size ≤ q → A q := fun q h => by rw [← hAe]; exact Or.inr h
  have hS : va_S A s.heap s.heap [] := va_S.rf
  have hP : va_P (dC, dI) vwCl [(ad 0, .inr (1, [.int (nI w), .int (nI h), .ref (ad 1), .ref (ad 2), .ref (ad 3), .ref (ad 4), .ref (ad 5), .int qd])), (ad 1, .inl (tc 1, (w * h), .inl col))] s.heap := hP
  have hl := lv_entry ([.ref (ad 0), .int x, .int y]) (n := 4) (Nat.le_of_ble_eq_true rfl)
  rw [lg_entry_eq]
  generalize (lg_sl ([.ref (ad 0), .int x, .int y]) ++ List.replicate (4 - (lg_sl ([.ref (ad 0), .int x, .int y])).length) Slot.unset).toArray = ls at hl ⊢
  have hl : lv_has ls 4 [(0, .ref (ad 0)), (1, .int x), (2, .int y)] := hl
  refine lv_aload_n hx hb dX1_pixel_0 rfl (lv_at hl 0 rfl) ?_
  refine lv_iload_n hx hb dX1_pixel_1 rfl (lv_at hl 1 rfl) ?_
  refine lv_iload_n hx hb dX1_pixel_2 rfl (lv_at hl 2 rfl) ?_
  refine m_calli (cs := [(ad 0, .inr (1, [.int (nI w), .int (nI h), .ref (ad 1), .ref (ad 2), .ref (ad 3), .ref (ad 4), .ref (ad 5), .int qd]))]) (wr := [(ad 1, .inl (tc 1, (w * h), .inl col))]) hP hD hS hA [0] [1] rfl rfl (by decide) (by decide) (va_runV (As := [.int x, .int y]) (rest := []) ⟨hx, hb, hml, hown, hts⟩ (c_X1_indexOf l dC dI _ ad w h qd hw1 hw2 hh1 hh2 x y) (cwV 2 hts gX1_pixel_X1_indexOf rfl rfl rfl (by decide +kernel) ⟨Nat.le_of_ble_eq_true rfl, Nat.le_of_ble_eq_true rfl⟩) (m_preV (ci := 1) (q0 := 0) (hP.sub [0] rfl) (hK.sub [] rfl) (hD.sub [0] (by decide) rfl) hN rfl rfl) rfl rfl hl.1 rfl (lv_room (Nat.le_of_ble_eq_true rfl)) dX1_pixel_3 ⟨Nat.le_of_ble_eq_true rfl, Nat.le_of_ble_eq_true rfl⟩) (fun r3 _ H locs q3 _ hP hD hS => ?_)
  have hP : va_P (dC, dI) vwCl [(ad 0, .inr (1, [.int (nI w), .int (nI h), .ref (ad 1), .ref (ad 2), .ref (ad 3), .ref (ad 4), .ref (ad 5), .int qd])), (ad 1, .inl (tc 1, (w * h), .inl col))] H := hP.sub [1, 0] rfl
  have hD : va_D A [(ad 0, .inr (1, [.int (nI w), .int (nI h), .ref (ad 1), .ref (ad 2), .ref (ad 3), .ref (ad 4), .ref (ad 5), .int qd])), (ad 1, .inl (tc 1, (w * h), .inl col))] := hD.sub [1, 0] (by decide) rfl
  refine lv_istore_n (lv' := [(3, .int r3), (0, .ref (ad 0)), (1, .int x), (2, .int y)]) hx hb dX1_pixel_6 rfl hl (by decide) rfl (fun ls hl => ?_)
  refine lv_iload_n hx hb dX1_pixel_7 rfl (lv_at hl 0 rfl) ?_
  refine lv_iconst (v := (-1)) hx hb dX1_pixel_8 (by decide) ?_
  refine lv_icmp_ne (tgt := 16) hx hb dX1_pixel_9 (by decide) (fun c9 => ?_) (fun c9 => ?_)
  · have hc9 : inX w h x y ∧ r3 = nI (lin w x y) := by
      rcases q3 with h | h
      · exact h
      · exact absurd h.2 c9
    have hlt9 := lin_lt hc9.1
    have hwh9 := wh_le hw2 hh2
    have hi21 : vp_in r3 (w * h) := by rw [hc9.2]; exact vp_in_nI hlt9 (by omega)
    refine lv_aload_n hx hb dX1_pixel_16 rfl (lv_at hl 1 rfl) ?_
    refine va_get (D := (dC, dI)) (ci := 1) (v := .ref (ad 1)) (C := RX1) (T := TX1) (N := 8) hx hb hts (by decide +kernel) hown hK hP 0 rfl rfl 2 (by decide) (hts (.fieldLink RX1 20 "TriangleRaster" "colours" "[I") (by decide +kernel)) (fun _ h9 => h9) rfl dX1_pixel_17 ?_
    refine lv_iload_n hx hb dX1_pixel_20 rfl (lv_at hl 0 rfl) ?_
    refine va_iald hx hb hK hP 1 0 rfl rfl hi21 dX1_pixel_21 ?_
    have hP9 := hP.sub (ws' := [(ad 0, .inr (1, [.int (nI w), .int (nI h), .ref (ad 1), .ref (ad 2), .ref (ad 3), .ref (ad 4), .ref (ad 5), .int qd])), (ad 1, .inl (tc 1, (w * h), .inl col))]) [0, 1] rfl
    have hD9 := hD.sub (ws' := [(ad 0, .inr (1, [.int (nI w), .int (nI h), .ref (ad 1), .ref (ad 2), .ref (ad 3), .ref (ad 4), .ref (ad 5), .int qd])), (ad 1, .inl (tc 1, (w * h), .inl col))]) [0, 1] (by decide) rfl
    exact W.iret (v := (col r3.toNatClampNeg)) hx hb hr (fun t ht hW => ⟨⟨col r3.toNatClampNeg, (), rfl, Or.inl ⟨hc9.1, by rw [hc9.2, nI_clamp (by omega)]⟩, by rw [ht]; exact hP9, va_K.moved hW.alike hK, hD9⟩, hS.F ht⟩) hS.2.2 dX1_pixel_22
  · refine lv_iconst (v := (-1)) hx hb dX1_pixel_12 (by decide) ?_
    refine lv_goto (tgt := 22) hx hb dX1_pixel_13 (by decide) ?_
    have hP9 := hP.sub (ws' := [(ad 0, .inr (1, [.int (nI w), .int (nI h), .ref (ad 1), .ref (ad 2), .ref (ad 3), .ref (ad 4), .ref (ad 5), .int qd])), (ad 1, .inl (tc 1, (w * h), .inl col))]) [0, 1] rfl
    have hD9 := hD.sub (ws' := [(ad 0, .inr (1, [.int (nI w), .int (nI h), .ref (ad 1), .ref (ad 2), .ref (ad 3), .ref (ad 4), .ref (ad 5), .int qd])), (ad 1, .inl (tc 1, (w * h), .inl col))]) [0, 1] (by decide) rfl
    exact W.iret (v := (-1)) hx hb hr (fun t ht hW => ⟨⟨(-1), (), rfl, Or.inr ⟨fun h => (by rcases q3 with h1 | h1; exact nI_m1 (n := lin w x y) (by have := lin_lt h; have := wh_le hw2 hh2; omega) (h1.2.symm.trans c9); exact h1.1 h), rfl⟩, by rw [ht]; exact hP9, va_K.moved hW.alike hK, hD9⟩, hS.F ht⟩) hS.2.2 dX1_pixel_22

set_option maxHeartbeats 4000000 in
set_option maxRecDepth 100000 in
/-- depthAt -/
theorem c_X1_depthAt (l : Launch) (dC : Nat → ClassId) (dI : Nat → Nat → Nat) (sz : Nat) (ad : Nat → Nat) (tc : Nat → ClassId) (w h : Nat) (qd : Int32) (dep : Nat → Int32) (hw1 : 1 ≤ w) (hw2 : w ≤ 24) (hh1 : 1 ≤ h) (hh2 : h ≤ 24) (x y : Int32) : Met l yX1_depthAt wsX1_depthAt ({ frames := 2, cells := 0, slots := 0, locals := 45 }) (mP (dC, dI) vwCl [(tc 2, .int)] [(ad 0, .inr (1, [.int (nI w), .int (nI h), .ref (ad 1), .ref (ad 2), .ref (ad 3), .ref (ad 4), .ref (ad 5), .int qd])), (ad 2, .inl (tc 2, (w * h), .inl dep))] sz [.ref (ad 0), .int x, .int y]) (va_Qi (fun (r : Int32) (u : Unit) => (inX w h x y ∧ r = dep (lin w x y)) ∨ (¬ inX w h x y ∧ r = -1)) (mB (dC, dI) vwCl [(tc 2, .int)] (va_A [(ad 0, .inr (1, [.int (nI w), .int (nI h), .ref (ad 1), .ref (ad 2), .ref (ad 3), .ref (ad 4), .ref (ad 5), .int qd])), (ad 2, .inl (tc 2, (w * h), .inl dep))] sz) (fun u => [(ad 0, .inr (1, [.int (nI w), .int (nI h), .ref (ad 1), .ref (ad 2), .ref (ad 3), .ref (ad 4), .ref (ad 5), .int qd])), (ad 2, .inl (tc 2, (w * h), .inl dep))])) (va_A [(ad 0, .inr (1, [.int (nI w), .int (nI h), .ref (ad 1), .ref (ad 2), .ref (ad 3), .ref (ad 4), .ref (ad 5), .int qd])), (ad 2, .inl (tc 2, (w * h), .inl dep))] sz)) 0 0 (va_A [(ad 0, .inr (1, [.int (nI w), .int (nI h), .ref (ad 1), .ref (ad 2), .ref (ad 3), .ref (ad 4), .ref (ad 5), .int qd])), (ad 2, .inl (tc 2, (w * h), .inl dep))] sz) := by
  refine Met.ofW (cc := cX1_depthAt) (maxL := 4) (ret := (some .int)) (by decide) rfl ?_
  intro p e s m args below meth cD s₁ B hml hv
  obtain ⟨rfl, hsz, hP, hK, hD0, hN⟩ := hv
  have hx := B.exec
  have hb := B.bytes
  have hr := B.returns
  have hts := atoms_spec (ws := wsX1_depthAt) B.pre
  have hown : s.vm.findClass RX1 = some m.cls := findClass_of_methodNamed B.named
  have hlocks := B.notSynchronized
  subst hsz
  have hD := hD0.self (sz := s.heap.size)
  generalize hAe : va_A [(ad 0, .inr (1, [.int (nI w), .int (nI h), .ref (ad 1), .ref (ad 2), .ref (ad 3), .ref (ad 4), .ref (ad 5), .int qd])), (ad 2, .inl (tc 2, (w * h), .inl dep))] s.heap.size = A at hD ⊢
  have hA : ∀ q : Nat, s.heap.size ≤ q → A q := fun q h => by rw [← hAe]; exact Or.inr h
  have hS : va_S A s.heap s.heap [] := va_S.rf
  have hP : va_P (dC, dI) vwCl [(ad 0, .inr (1, [.int (nI w), .int (nI h), .ref (ad 1), .ref (ad 2), .ref (ad 3), .ref (ad 4), .ref (ad 5), .int qd])), (ad 2, .inl (tc 2, (w * h), .inl dep))] s.heap := hP
  have hl := lv_entry ([.ref (ad 0), .int x, .int y]) (n := 4) (Nat.le_of_ble_eq_true rfl)
  rw [lg_entry_eq]
  generalize (lg_sl ([.ref (ad 0), .int x, .int y]) ++ List.replicate (4 - (lg_sl ([.ref (ad 0), .int x, .int y])).length) Slot.unset).toArray = ls at hl ⊢
  have hl : lv_has ls 4 [(0, .ref (ad 0)), (1, .int x), (2, .int y)] := hl
  refine lv_aload_n hx hb dX1_depthAt_0 rfl (lv_at hl 0 rfl) ?_
  refine lv_iload_n hx hb dX1_depthAt_1 rfl (lv_at hl 1 rfl) ?_
  refine lv_iload_n hx hb dX1_depthAt_2 rfl (lv_at hl 2 rfl) ?_
  refine m_calli (cs := [(ad 0, .inr (1, [.int (nI w), .int (nI h), .ref (ad 1), .ref (ad 2), .ref (ad 3), .ref (ad 4), .ref (ad 5), .int qd]))]) (wr := [(ad 2, .inl (tc 2, (w * h), .inl dep))]) hP hD hS hA [0] [1] rfl rfl (by decide) (by decide) (va_runV (As := [.int x, .int y]) (rest := []) ⟨hx, hb, hml, hown, hts⟩ (c_X1_indexOf l dC dI _ ad w h qd hw1 hw2 hh1 hh2 x y) (cwV 2 hts gX1_depthAt_X1_indexOf rfl rfl rfl (by decide +kernel) ⟨Nat.le_of_ble_eq_true rfl, Nat.le_of_ble_eq_true rfl⟩) (m_preV (ci := 1) (q0 := 0) (hP.sub [0] rfl) (hK.sub [] rfl) (hD.sub [0] (by decide) rfl) hN rfl rfl) rfl rfl hl.1 rfl (lv_room (Nat.le_of_ble_eq_true rfl)) dX1_depthAt_3 ⟨Nat.le_of_ble_eq_true rfl, Nat.le_of_ble_eq_true rfl⟩) (fun r3 _ H locs q3 _ hP hD hS => ?_)
  have hP : va_P (dC, dI) vwCl [(ad 0, .inr (1, [.int (nI w), .int (nI h), .ref (ad 1), .ref (ad 2), .ref (ad 3), .ref (ad 4), .ref (ad 5), .int qd])), (ad 2, .inl (tc 2, (w * h), .inl dep))] H := hP.sub [1, 0] rfl
  have hD : va_D A [(ad 0, .inr (1, [.int (nI w), .int (nI h), .ref (ad 1), .ref (ad 2), .ref (ad 3), .ref (ad 4), .ref (ad 5), .int qd])), (ad 2, .inl (tc 2, (w * h), .inl dep))] := hD.sub [1, 0] (by decide) rfl
  refine lv_istore_n (lv' := [(3, .int r3), (0, .ref (ad 0)), (1, .int x), (2, .int y)]) hx hb dX1_depthAt_6 rfl hl (by decide) rfl (fun ls hl => ?_)
  refine lv_iload_n hx hb dX1_depthAt_7 rfl (lv_at hl 0 rfl) ?_
  refine lv_iconst (v := (-1)) hx hb dX1_depthAt_8 (by decide) ?_
  refine lv_icmp_ne (tgt := 16) hx hb dX1_depthAt_9 (by decide) (fun c9 => ?_) (fun c9 => ?_)
  · have hc9 : inX w h x y ∧ r3 = nI (lin w x y) := by
      rcases q3 with h | h
      · exact h
      · exact absurd h.2 c9
    have hlt9 := lin_lt hc9.1
    have hwh9 := wh_le hw2 hh2
    have hi21 : vp_in r3 (w * h) := by rw [hc9.2]; exact vp_in_nI hlt9 (by omega)
    refine lv_aload_n hx hb dX1_depthAt_16 rfl (lv_at hl 1 rfl) ?_
    refine va_get (D := (dC, dI)) (ci := 1) (v := .ref (ad 2)) (C := RX1) (T := TX1) (N := 8) hx hb hts (by decide +kernel) hown hK hP 0 rfl rfl 3 (by decide) (hts (.fieldLink RX1 24 "TriangleRaster" "depths" "[I") (by decide +kernel)) (fun _ h9 => h9) rfl dX1_depthAt_17 ?_
    refine lv_iload_n hx hb dX1_depthAt_20 rfl (lv_at hl 0 rfl) ?_
    refine va_iald hx hb hK hP 1 0 rfl rfl hi21 dX1_depthAt_21 ?_
    have hP9 := hP.sub (ws' := [(ad 0, .inr (1, [.int (nI w), .int (nI h), .ref (ad 1), .ref (ad 2), .ref (ad 3), .ref (ad 4), .ref (ad 5), .int qd])), (ad 2, .inl (tc 2, (w * h), .inl dep))]) [0, 1] rfl
    have hD9 := hD.sub (ws' := [(ad 0, .inr (1, [.int (nI w), .int (nI h), .ref (ad 1), .ref (ad 2), .ref (ad 3), .ref (ad 4), .ref (ad 5), .int qd])), (ad 2, .inl (tc 2, (w * h), .inl dep))]) [0, 1] (by decide) rfl
    exact W.iret (v := (dep r3.toNatClampNeg)) hx hb hr (fun t ht hW => ⟨⟨dep r3.toNatClampNeg, (), rfl, Or.inl ⟨hc9.1, by rw [hc9.2, nI_clamp (by omega)]⟩, by rw [ht]; exact hP9, va_K.moved hW.alike hK, hD9⟩, hS.F ht⟩) hS.2.2 dX1_depthAt_22
  · refine lv_iconst (v := (-1)) hx hb dX1_depthAt_12 (by decide) ?_
    refine lv_goto (tgt := 22) hx hb dX1_depthAt_13 (by decide) ?_
    have hP9 := hP.sub (ws' := [(ad 0, .inr (1, [.int (nI w), .int (nI h), .ref (ad 1), .ref (ad 2), .ref (ad 3), .ref (ad 4), .ref (ad 5), .int qd])), (ad 2, .inl (tc 2, (w * h), .inl dep))]) [0, 1] rfl
    have hD9 := hD.sub (ws' := [(ad 0, .inr (1, [.int (nI w), .int (nI h), .ref (ad 1), .ref (ad 2), .ref (ad 3), .ref (ad 4), .ref (ad 5), .int qd])), (ad 2, .inl (tc 2, (w * h), .inl dep))]) [0, 1] (by decide) rfl
    exact W.iret (v := (-1)) hx hb hr (fun t ht hW => ⟨⟨(-1), (), rfl, Or.inr ⟨fun h => (by rcases q3 with h1 | h1; exact nI_m1 (n := lin w x y) (by have := lin_lt h; have := wh_le hw2 hh2; omega) (h1.2.symm.trans c9); exact h1.1 h), rfl⟩, by rw [ht]; exact hP9, va_K.moved hW.alike hK, hD9⟩, hS.F ht⟩) hS.2.2 dX1_depthAt_22

