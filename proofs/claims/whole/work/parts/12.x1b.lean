set_option maxHeartbeats 4000000 in
set_option maxRecDepth 100000 in
/-- Arrays.fill -/
theorem c_J7_fill_53178 (l : Launch) (dC : Nat → ClassId) (dI : Nat → Nat → Nat) (sz : Nat) (a : Nat) (t : ClassId) (n0 : Nat) (hn0 : n0 < 2 ^ 31) (f : Nat → Int32) (v : Int32) : Met l yJ7_fill_53178 wsJ7_fill_53178 ({ frames := 0, cells := 0, slots := 0, locals := 0 }) (mP (dC, dI) vwCl [(t, .int)] [(a, .inl (t, n0, .inl f))] sz [.ref a, .int v]) (va_Qv (fun (u : Nat → Int32) => ∀ i, i < n0 → u i = v) (mB (dC, dI) vwCl [(t, .int)] (va_A [(a, .inl (t, n0, .inl f))] sz) (fun u => [(a, .inl (t, n0, .inl u))])) (va_A [(a, .inl (t, n0, .inl f))] sz)) 0 0 (va_A [(a, .inl (t, n0, .inl f))] sz) := by
  refine Met.ofW (cc := cJ7_fill_53178) (maxL := 4) (ret := none) (by decide) rfl ?_
  intro p e s m args below meth cD s₁ B hml hv
  obtain ⟨rfl, hsz, hP, hK, hD0, hN⟩ := hv
  have hx := B.exec
  have hb := B.bytes
  have hr := B.returns
  have hts := atoms_spec (ws := wsJ7_fill_53178) B.pre
  have hown : s.vm.findClass RJ7 = some m.cls := findClass_of_methodNamed B.named
  have hlocks := B.notSynchronized
  subst hsz
  have hD := hD0.self (sz := s.heap.size)
  generalize hAe : va_A [(a, .inl (t, n0, .inl f))] s.heap.size = A at hD ⊢
  have hA : ∀ q : Nat, s.heap.size ≤ q → A q := fun q h => by rw [← hAe]; exact Or.inr h
  have hS : va_S A s.heap s.heap [] := va_S.rf
  have hP : va_P (dC, dI) vwCl [(a, .inl (t, n0, .inl f))] s.heap := hP
  have hl := lv_entry ([.ref a, .int v]) (n := 4) (Nat.le_of_ble_eq_true rfl)
  rw [lg_entry_eq]
  generalize (lg_sl ([.ref a, .int v]) ++ List.replicate (4 - (lg_sl ([.ref a, .int v])).length) Slot.unset).toArray = ls at hl ⊢
  have hl : lv_has ls 4 [(0, .ref a), (1, .int v)] := hl
  refine lv_iconst (v := 0) hx hb dJ7_fill_53178_0 (by decide) ?_
  refine lv_topi (fun zz ezz => ?_)
  obtain rfl : zz = nI 0 := ezz.trans (nI_0.symm)
  refine lv_istore_n (lv' := [(2, .int (nI 0)), (0, .ref a), (1, .int v)]) hx hb dJ7_fill_53178_1 rfl hl (by decide) rfl (fun ls hl => ?_)
  refine lv_aload_n hx hb dJ7_fill_53178_2 rfl (lv_at hl 1 rfl) ?_
  refine va_alen (v := nI n0) hx hb hK hP 0 0 rfl rfl rfl dJ7_fill_53178_3 ?_
  refine lv_istore_n (lv' := [(3, .int (nI n0)), (2, .int (nI 0)), (0, .ref a), (1, .int v)]) hx hb dJ7_fill_53178_4 rfl hl (by decide) rfl (fun ls hl => ?_)
  have loop : ∀ (n : Nat) (i : Nat) (g : Nat → Int32), i ≤ n0 → (∀ j, j < i → g j = v) → n0 + 1 ≤ i + n → ∀ (H : Heap) (locs : List Loc), va_P (dC, dI) vwCl [(a, .inl (t, n0, .inl g))] H → va_D A [(a, .inl (t, n0, .inl g))] → va_S A s.heap H locs → ∀ (ls : Array Slot), lv_has ls 4 [(0, .ref a), (1, .int v), (2, .int (nI i)), (3, .int (nI n0))] → W p l e (headSpec wsJ7_fill_53178 { frames := 0, cells := 0, slots := 0, locals := 0 }).room s m [.ref a, .int v].toArray below meth cD H locs 0 0 (MQ below (va_Qv (fun (u : Nat → Int32) => ∀ i, i < n0 → u i = v) (mB (dC, dI) vwCl [(t, .int)] A (fun u => [(a, .inl (t, n0, .inl u))])) A) [.ref a, .int v].toArray s 0 0 A) (F0 m 5 ls []) := by
    intro n
    induction n with
    | zero => intro i g hi hg hm; exfalso; omega
    | succ n ih =>
      intro i g hi hg hm H locs hP hD hS ls hl
      refine lv_iload_n hx hb dJ7_fill_53178_5 rfl (lv_at hl 2 rfl) ?_
      refine lv_iload_n hx hb dJ7_fill_53178_6 rfl (lv_at hl 3 rfl) ?_
      refine lv_icmp_ge (tgt := 20) hx hb dJ7_fill_53178_7 (by decide) (fun c7 => ?_) (fun c7 => ?_)
      · have hP9 := hP.sub (ws' := [(a, .inl (t, n0, .inl g))]) [0] rfl
        have hD9 := hD.sub (ws' := [(a, .inl (t, n0, .inl g))]) [0] (by decide) rfl
        exact W.vret hx hb hr (fun t ht hW => ⟨⟨g, rfl, fun j hj => hg j (by rw [nI_leI hn0 (by omega)] at c7; omega), by rw [ht]; exact hP9, va_K.moved hW.alike hK, hD9⟩, hS.F ht⟩) hS.2.2 dJ7_fill_53178_20
      · have hlt : i < n0 := by rw [nI_leI hn0 (by omega)] at c7; omega
        refine lv_aload_n hx hb dJ7_fill_53178_10 rfl (lv_at hl 0 rfl) ?_
        refine lv_iload_n hx hb dJ7_fill_53178_11 rfl (lv_at hl 2 rfl) ?_
        refine lv_iload_n hx hb dJ7_fill_53178_12 rfl (lv_at hl 1 rfl) ?_
        refine va_iast hx hb hK hP hD hS 0 0 rfl rfl (vp_in_nI hlt hn0) dJ7_fill_53178_13 (fun H locs hP hD hS => ?_)
        have hP : va_P (dC, dI) vwCl [(a, .inl (t, n0, .inl (upd g (nI i).toNatClampNeg v)))] H := hP
        have hD : va_D A [(a, .inl (t, n0, .inl (upd g (nI i).toNatClampNeg v)))] := hD
        refine lv_iinc (v := nI (i + 1)) (lv' := [(2, .int (nI (i + 1))), (0, .ref a), (1, .int v), (3, .int (nI n0))]) hx hb dJ7_fill_53178_14 hl (k := 2) rfl (nI_add _ 1) (by decide) rfl (fun ls hl => ?_)
        refine lv_goto (tgt := 5) hx hb dJ7_fill_53178_17 (by decide) ?_
        exact ih (i + 1) (upd g (nI i).toNatClampNeg v) (by omega) (fun j h => by rw [nI_clamp (by omega)]; unfold upd; split <;> first | rfl | exact hg j (by omega)) (by omega) _ _ (hP.sub [0] rfl) (hD.sub [0] (by decide) rfl) hS ls (lv_sub hl [1, 2, 0, 3] rfl)
  exact loop (n0 + 1) 0 f (Nat.zero_le _) (fun j h => absurd h (Nat.not_lt_zero j)) (by omega) _ _ (hP.sub [0] rfl) (hD.sub [0] (by decide) rfl) hS ls (lv_sub hl [2, 3, 1, 0] rfl)

set_option maxHeartbeats 4000000 in
set_option maxRecDepth 100000 in
/-- clear -/
theorem c_X1_clear (l : Launch) (dC : Nat → ClassId) (dI : Nat → Nat → Nat) (sz : Nat) (ad : Nat → Nat) (tc : Nat → ClassId) (w h : Nat) (qd : Int32) (col dep : Nat → Int32) (hw1 : 1 ≤ w) (hw2 : w ≤ 24) (hh1 : 1 ≤ h) (hh2 : h ≤ 24) (c z : Int32) : Met l yX1_clear wsX1_clear ({ frames := 1, cells := 0, slots := 0, locals := 23 }) (mP (dC, dI) vwCl [(tc 1, .int), (tc 2, .int)] [(ad 0, .inr (1, [.int (nI w), .int (nI h), .ref (ad 1), .ref (ad 2), .ref (ad 3), .ref (ad 4), .ref (ad 5), .int qd])), (ad 1, .inl (tc 1, (w * h), .inl col)), (ad 2, .inl (tc 2, (w * h), .inl dep))] sz [.ref (ad 0), .int c, .int z]) (va_Qi (fun (r : Int32) (u : (Nat → Int32) × (Nat → Int32)) => ((0 ≤ z.toInt ∧ z.toInt ≤ 65535) ∧ r = 1 ∧ (∀ i, i < w * h → u.1 i = c ∧ u.2 i = z)) ∨ (¬ (0 ≤ z.toInt ∧ z.toInt ≤ 65535) ∧ r = 0 ∧ u = (col, dep))) (mB (dC, dI) vwCl [(tc 1, .int), (tc 2, .int)] (va_A [(ad 0, .inr (1, [.int (nI w), .int (nI h), .ref (ad 1), .ref (ad 2), .ref (ad 3), .ref (ad 4), .ref (ad 5), .int qd])), (ad 1, .inl (tc 1, (w * h), .inl col)), (ad 2, .inl (tc 2, (w * h), .inl dep))] sz) (fun u => [(ad 0, .inr (1, [.int (nI w), .int (nI h), .ref (ad 1), .ref (ad 2), .ref (ad 3), .ref (ad 4), .ref (ad 5), .int qd])), (ad 1, .inl (tc 1, (w * h), .inl u.1)), (ad 2, .inl (tc 2, (w * h), .inl u.2))])) (va_A [(ad 0, .inr (1, [.int (nI w), .int (nI h), .ref (ad 1), .ref (ad 2), .ref (ad 3), .ref (ad 4), .ref (ad 5), .int qd])), (ad 1, .inl (tc 1, (w * h), .inl col)), (ad 2, .inl (tc 2, (w * h), .inl dep))] sz)) 0 0 (va_A [(ad 0, .inr (1, [.int (nI w), .int (nI h), .ref (ad 1), .ref (ad 2), .ref (ad 3), .ref (ad 4), .ref (ad 5), .int qd])), (ad 1, .inl (tc 1, (w * h), .inl col)), (ad 2, .inl (tc 2, (w * h), .inl dep))] sz) := by
  refine Met.ofW (cc := cX1_clear) (maxL := 3) (ret := (some .boolean)) (by decide) rfl ?_
  intro p e s m args below meth cD s₁ B hml hv
  obtain ⟨rfl, hsz, hP, hK, hD0, hN⟩ := hv
  have hx := B.exec
  have hb := B.bytes
  have hr := B.returns
  have hts := atoms_spec (ws := wsX1_clear) B.pre
  have hown : s.vm.findClass RX1 = some m.cls := findClass_of_methodNamed B.named
  have hlocks := B.notSynchronized
  subst hsz
  have hD := hD0.self (sz := s.heap.size)
  generalize hAe : va_A [(ad 0, .inr (1, [.int (nI w), .int (nI h), .ref (ad 1), .ref (ad 2), .ref (ad 3), .ref (ad 4), .ref (ad 5), .int qd])), (ad 1, .inl (tc 1, (w * h), .inl col)), (ad 2, .inl (tc 2, (w * h), .inl dep))] s.heap.size = A at hD ⊢
  have hA : ∀ q : Nat, s.heap.size ≤ q → A q := fun q h => by rw [← hAe]; exact Or.inr h
  have hS : va_S A s.heap s.heap [] := va_S.rf
  have hP : va_P (dC, dI) vwCl [(ad 0, .inr (1, [.int (nI w), .int (nI h), .ref (ad 1), .ref (ad 2), .ref (ad 3), .ref (ad 4), .ref (ad 5), .int qd])), (ad 1, .inl (tc 1, (w * h), .inl col)), (ad 2, .inl (tc 2, (w * h), .inl dep))] s.heap := hP
  have hl := lv_entry ([.ref (ad 0), .int c, .int z]) (n := 3) (Nat.le_of_ble_eq_true rfl)
  rw [lg_entry_eq]
  generalize (lg_sl ([.ref (ad 0), .int c, .int z]) ++ List.replicate (3 - (lg_sl ([.ref (ad 0), .int c, .int z])).length) Slot.unset).toArray = ls at hl ⊢
  have hl : lv_has ls 3 [(0, .ref (ad 0)), (1, .int c), (2, .int z)] := hl
  refine lv_iload_n hx hb dX1_clear_0 rfl (lv_at hl 2 rfl) ?_
  refine lv_iconst (v := 0) hx hb dX1_clear_1 (by decide) ?_
  refine lv_ldc (v := 65535) hx hb hown (hts (.constant RX1 44 65535) (by decide +kernel)) dX1_clear_2 ?_
  refine m_calli (cs := []) (wr := [(ad 0, .inr (1, [.int (nI w), .int (nI h), .ref (ad 1), .ref (ad 2), .ref (ad 3), .ref (ad 4), .ref (ad 5), .int qd])), (ad 1, .inl (tc 1, (w * h), .inl col)), (ad 2, .inl (tc 2, (w * h), .inl dep))]) hP hD hS hA [] [0, 1, 2] rfl rfl (by decide) (by decide) (va_runS (As := [.int z, .int 0, .int 65535]) (rest := []) ⟨hx, hb, hml, hown, hts⟩ (c_X1_isWithin l dC dI _ z 0 65535 0 65535 rfl (by decide)) (va_cwS 3 hts gX1_clear_X1_isWithin rfl rfl rfl (by decide +kernel) ⟨Nat.le_of_ble_eq_true rfl, Nat.le_of_ble_eq_true rfl⟩) (m_preS (hP.sub [] rfl) (hK.sub [] rfl) (hD.sub [] (by decide) rfl) hN) rfl rfl hl.1 rfl (lv_room (Nat.le_of_ble_eq_true rfl)) dX1_clear_4 ⟨Nat.le_of_ble_eq_true rfl, Nat.le_of_ble_eq_true rfl⟩) (fun r4 _ H locs q4 _ hP hD hS => ?_)
  have hP : va_P (dC, dI) vwCl [(ad 0, .inr (1, [.int (nI w), .int (nI h), .ref (ad 1), .ref (ad 2), .ref (ad 3), .ref (ad 4), .ref (ad 5), .int qd])), (ad 1, .inl (tc 1, (w * h), .inl col)), (ad 2, .inl (tc 2, (w * h), .inl dep))] H := hP.sub [0, 1, 2] rfl
  have hD : va_D A [(ad 0, .inr (1, [.int (nI w), .int (nI h), .ref (ad 1), .ref (ad 2), .ref (ad 3), .ref (ad 4), .ref (ad 5), .int qd])), (ad 1, .inl (tc 1, (w * h), .inl col)), (ad 2, .inl (tc 2, (w * h), .inl dep))] := hD.sub [0, 1, 2] (by decide) rfl
  refine lv_if_ne (tgt := 12) hx hb dX1_clear_7 (by decide) (fun c7 => ?_) (fun c7 => ?_)
  · refine lv_aload_n hx hb dX1_clear_12 rfl (lv_at hl 0 rfl) ?_
    refine va_get (D := (dC, dI)) (ci := 1) (v := .ref (ad 1)) (C := RX1) (T := TX1) (N := 8) hx hb hts (by decide +kernel) hown hK hP 0 rfl rfl 2 (by decide) (hts (.fieldLink RX1 20 "TriangleRaster" "colours" "[I") (by decide +kernel)) (fun _ h9 => h9) rfl dX1_clear_13 ?_
    refine lv_iload_n hx hb dX1_clear_16 rfl (lv_at hl 1 rfl) ?_
    refine m_callv (cs := [(ad 1, .inl (tc 1, (w * h), .inl col))]) (wr := [(ad 0, .inr (1, [.int (nI w), .int (nI h), .ref (ad 1), .ref (ad 2), .ref (ad 3), .ref (ad 4), .ref (ad 5), .int qd])), (ad 2, .inl (tc 2, (w * h), .inl dep))]) hP hD hS hA [1] [0, 2] rfl rfl (by decide) (by decide) (va_runS (As := [.ref (ad 1), .int c]) (rest := []) ⟨hx, hb, hml, hown, hts⟩ (c_J7_fill_53178 l dC dI _ (ad 1) (tc 1) (w * h) (by have := wh_le hw2 hh2; omega) col c) (va_cwS 2 hts gX1_clear_J7_fill_53178 rfl rfl rfl (by decide +kernel) ⟨Nat.le_of_ble_eq_true rfl, Nat.le_of_ble_eq_true rfl⟩) (m_preS (hP.sub [1] rfl) (hK.sub [0] rfl) (hD.sub [1] (by decide) rfl) hN) rfl rfl hl.1 rfl (lv_room (Nat.le_of_ble_eq_true rfl)) dX1_clear_17 ⟨Nat.le_of_ble_eq_true rfl, Nat.le_of_ble_eq_true rfl⟩) (fun f17 H locs q17 _ hP hD hS => ?_)
    have hP : va_P (dC, dI) vwCl [(ad 0, .inr (1, [.int (nI w), .int (nI h), .ref (ad 1), .ref (ad 2), .ref (ad 3), .ref (ad 4), .ref (ad 5), .int qd])), (ad 1, .inl (tc 1, (w * h), .inl f17)), (ad 2, .inl (tc 2, (w * h), .inl dep))] H := hP.sub [0, 2, 1] rfl
    have hD : va_D A [(ad 0, .inr (1, [.int (nI w), .int (nI h), .ref (ad 1), .ref (ad 2), .ref (ad 3), .ref (ad 4), .ref (ad 5), .int qd])), (ad 1, .inl (tc 1, (w * h), .inl f17)), (ad 2, .inl (tc 2, (w * h), .inl dep))] := hD.sub [0, 2, 1] (by decide) rfl
    refine lv_aload_n hx hb dX1_clear_20 rfl (lv_at hl 0 rfl) ?_
    refine va_get (D := (dC, dI)) (ci := 1) (v := .ref (ad 2)) (C := RX1) (T := TX1) (N := 8) hx hb hts (by decide +kernel) hown hK hP 0 rfl rfl 3 (by decide) (hts (.fieldLink RX1 24 "TriangleRaster" "depths" "[I") (by decide +kernel)) (fun _ h9 => h9) rfl dX1_clear_21 ?_
    refine lv_iload_n hx hb dX1_clear_24 rfl (lv_at hl 2 rfl) ?_
    refine m_callv (cs := [(ad 2, .inl (tc 2, (w * h), .inl dep))]) (wr := [(ad 0, .inr (1, [.int (nI w), .int (nI h), .ref (ad 1), .ref (ad 2), .ref (ad 3), .ref (ad 4), .ref (ad 5), .int qd])), (ad 1, .inl (tc 1, (w * h), .inl f17))]) hP hD hS hA [2] [0, 1] rfl rfl (by decide) (by decide) (va_runS (As := [.ref (ad 2), .int z]) (rest := []) ⟨hx, hb, hml, hown, hts⟩ (c_J7_fill_53178 l dC dI _ (ad 2) (tc 2) (w * h) (by have := wh_le hw2 hh2; omega) dep z) (va_cwS 2 hts gX1_clear_J7_fill_53178 rfl rfl rfl (by decide +kernel) ⟨Nat.le_of_ble_eq_true rfl, Nat.le_of_ble_eq_true rfl⟩) (m_preS (hP.sub [2] rfl) (hK.sub [1] rfl) (hD.sub [2] (by decide) rfl) hN) rfl rfl hl.1 rfl (lv_room (Nat.le_of_ble_eq_true rfl)) dX1_clear_25 ⟨Nat.le_of_ble_eq_true rfl, Nat.le_of_ble_eq_true rfl⟩) (fun f25 H locs q25 _ hP hD hS => ?_)
    have hP : va_P (dC, dI) vwCl [(ad 0, .inr (1, [.int (nI w), .int (nI h), .ref (ad 1), .ref (ad 2), .ref (ad 3), .ref (ad 4), .ref (ad 5), .int qd])), (ad 1, .inl (tc 1, (w * h), .inl f17)), (ad 2, .inl (tc 2, (w * h), .inl f25))] H := hP.sub [0, 1, 2] rfl
    have hD : va_D A [(ad 0, .inr (1, [.int (nI w), .int (nI h), .ref (ad 1), .ref (ad 2), .ref (ad 3), .ref (ad 4), .ref (ad 5), .int qd])), (ad 1, .inl (tc 1, (w * h), .inl f17)), (ad 2, .inl (tc 2, (w * h), .inl f25))] := hD.sub [0, 1, 2] (by decide) rfl
    refine lv_iconst (v := 1) hx hb dX1_clear_28 (by decide) ?_
    have hP9 := hP.sub (ws' := [(ad 0, .inr (1, [.int (nI w), .int (nI h), .ref (ad 1), .ref (ad 2), .ref (ad 3), .ref (ad 4), .ref (ad 5), .int qd])), (ad 1, .inl (tc 1, (w * h), .inl f17)), (ad 2, .inl (tc 2, (w * h), .inl f25))]) [0, 1, 2] rfl
    have hD9 := hD.sub (ws' := [(ad 0, .inr (1, [.int (nI w), .int (nI h), .ref (ad 1), .ref (ad 2), .ref (ad 3), .ref (ad 4), .ref (ad 5), .int qd])), (ad 1, .inl (tc 1, (w * h), .inl f17)), (ad 2, .inl (tc 2, (w * h), .inl f25))]) [0, 1, 2] (by decide) rfl
    exact W.zret (v := 1) hx hb hr rfl (fun t ht hW => ⟨⟨1, (f17, f25), rfl, Or.inl ⟨Classical.byContradiction (fun h => c7 ((b01 q4).mpr h)), rfl, fun i hi => ⟨q17 i hi, q25 i hi⟩⟩, by rw [ht]; exact hP9, va_K.moved hW.alike hK, hD9⟩, hS.F ht⟩) hS.2.2 dX1_clear_29
  · refine lv_iconst (v := 0) hx hb dX1_clear_10 (by decide) ?_
    have hP9 := hP.sub (ws' := [(ad 0, .inr (1, [.int (nI w), .int (nI h), .ref (ad 1), .ref (ad 2), .ref (ad 3), .ref (ad 4), .ref (ad 5), .int qd])), (ad 1, .inl (tc 1, (w * h), .inl col)), (ad 2, .inl (tc 2, (w * h), .inl dep))]) [0, 1, 2] rfl
    have hD9 := hD.sub (ws' := [(ad 0, .inr (1, [.int (nI w), .int (nI h), .ref (ad 1), .ref (ad 2), .ref (ad 3), .ref (ad 4), .ref (ad 5), .int qd])), (ad 1, .inl (tc 1, (w * h), .inl col)), (ad 2, .inl (tc 2, (w * h), .inl dep))]) [0, 1, 2] (by decide) rfl
    exact W.zret (v := 0) hx hb hr rfl (fun t ht hW => ⟨⟨0, (col, dep), rfl, Or.inr ⟨(b01 q4).mp c7, rfl, rfl⟩, by rw [ht]; exact hP9, va_K.moved hW.alike hK, hD9⟩, hS.F ht⟩) hS.2.2 dX1_clear_11

set_option maxHeartbeats 4000000 in
set_option maxRecDepth 100000 in
/-- count -/
theorem c_X1_count (l : Launch) (dC : Nat → ClassId) (dI : Nat → Nat → Nat) (sz : Nat) (ad : Nat → Nat) (tc : Nat → ClassId) (w h : Nat) (qd : Int32) (col : Nat → Int32) (hw1 : 1 ≤ w) (hw2 : w ≤ 24) (hh1 : 1 ≤ h) (hh2 : h ≤ 24) (c : Int32) : Met l yX1_count wsX1_count ({ frames := 0, cells := 0, slots := 0, locals := 0 }) (mP (dC, dI) vwCl [(tc 1, .int)] [(ad 0, .inr (1, [.int (nI w), .int (nI h), .ref (ad 1), .ref (ad 2), .ref (ad 3), .ref (ad 4), .ref (ad 5), .int qd])), (ad 1, .inl (tc 1, (w * h), .inl col))] sz [.ref (ad 0), .int c]) (va_Qi (fun (r : Int32) (u : Unit) => r = nI (cnt (fun i => col i = c) (w * h))) (mB (dC, dI) vwCl [(tc 1, .int)] (va_A [(ad 0, .inr (1, [.int (nI w), .int (nI h), .ref (ad 1), .ref (ad 2), .ref (ad 3), .ref (ad 4), .ref (ad 5), .int qd])), (ad 1, .inl (tc 1, (w * h), .inl col))] sz) (fun u => [(ad 0, .inr (1, [.int (nI w), .int (nI h), .ref (ad 1), .ref (ad 2), .ref (ad 3), .ref (ad 4), .ref (ad 5), .int qd])), (ad 1, .inl (tc 1, (w * h), .inl col))])) (va_A [(ad 0, .inr (1, [.int (nI w), .int (nI h), .ref (ad 1), .ref (ad 2), .ref (ad 3), .ref (ad 4), .ref (ad 5), .int qd])), (ad 1, .inl (tc 1, (w * h), .inl col))] sz)) 0 0 (va_A [(ad 0, .inr (1, [.int (nI w), .int (nI h), .ref (ad 1), .ref (ad 2), .ref (ad 3), .ref (ad 4), .ref (ad 5), .int qd])), (ad 1, .inl (tc 1, (w * h), .inl col))] sz) := by
  refine Met.ofW (cc := cX1_count) (maxL := 4) (ret := (some .int)) (by decide) rfl ?_
  intro p e s m args below meth cD s₁ B hml hv
  obtain ⟨rfl, hsz, hP, hK, hD0, hN⟩ := hv
  have hx := B.exec
  have hb := B.bytes
  have hr := B.returns
  have hts := atoms_spec (ws := wsX1_count) B.pre
  have hown : s.vm.findClass RX1 = some m.cls := findClass_of_methodNamed B.named
  have hlocks := B.notSynchronized
  subst hsz
  have hD := hD0.self (sz := s.heap.size)
  generalize hAe : va_A [(ad 0, .inr (1, [.int (nI w), .int (nI h), .ref (ad 1), .ref (ad 2), .ref (ad 3), .ref (ad 4), .ref (ad 5), .int qd])), (ad 1, .inl (tc 1, (w * h), .inl col))] s.heap.size = A at hD ⊢
  have hA : ∀ q : Nat, s.heap.size ≤ q → A q := fun q h => by rw [← hAe]; exact Or.inr h
  have hS : va_S A s.heap s.heap [] := va_S.rf
  have hP : va_P (dC, dI) vwCl [(ad 0, .inr (1, [.int (nI w), .int (nI h), .ref (ad 1), .ref (ad 2), .ref (ad 3), .ref (ad 4), .ref (ad 5), .int qd])), (ad 1, .inl (tc 1, (w * h), .inl col))] s.heap := hP
  have hl := lv_entry ([.ref (ad 0), .int c]) (n := 4) (Nat.le_of_ble_eq_true rfl)
  rw [lg_entry_eq]
  generalize (lg_sl ([.ref (ad 0), .int c]) ++ List.replicate (4 - (lg_sl ([.ref (ad 0), .int c])).length) Slot.unset).toArray = ls at hl ⊢
  have hl : lv_has ls 4 [(0, .ref (ad 0)), (1, .int c)] := hl
  refine lv_iconst (v := 0) hx hb dX1_count_0 (by decide) ?_
  refine lv_topi (fun zz ezz => ?_)
  obtain rfl : zz = nI 0 := ezz.trans (nI_0.symm)
  refine lv_istore_n (lv' := [(2, .int (nI 0)), (0, .ref (ad 0)), (1, .int c)]) hx hb dX1_count_1 rfl hl (by decide) rfl (fun ls hl => ?_)
  refine lv_iconst (v := 0) hx hb dX1_count_2 (by decide) ?_
  refine lv_topi (fun zz ezz => ?_)
  obtain rfl : zz = nI 0 := ezz.trans (nI_0.symm)
  have hwh := wh_le hw2 hh2
  refine lv_istore_n (lv' := [(3, .int (nI 0)), (2, .int (nI 0)), (0, .ref (ad 0)), (1, .int c)]) hx hb dX1_count_3 rfl hl (by decide) rfl (fun ls hl => ?_)
  have loop : ∀ (n : Nat) (i : Nat) (k : Nat), i ≤ w * h → k = cnt (fun i => col i = c) i → w * h + 1 ≤ i + n → ∀ (H : Heap) (locs : List Loc), va_P (dC, dI) vwCl [(ad 0, .inr (1, [.int (nI w), .int (nI h), .ref (ad 1), .ref (ad 2), .ref (ad 3), .ref (ad 4), .ref (ad 5), .int qd])), (ad 1, .inl (tc 1, (w * h), .inl col))] H → va_D A [(ad 0, .inr (1, [.int (nI w), .int (nI h), .ref (ad 1), .ref (ad 2), .ref (ad 3), .ref (ad 4), .ref (ad 5), .int qd])), (ad 1, .inl (tc 1, (w * h), .inl col))] → va_S A s.heap H locs → ∀ (ls : Array Slot), lv_has ls 4 [(0, .ref (ad 0)), (1, .int c), (2, .int (nI k)), (3, .int (nI i))] → W p l e (headSpec wsX1_count { frames := 0, cells := 0, slots := 0, locals := 0 }).room s m [.ref (ad 0), .int c].toArray below meth cD H locs 0 0 (MQ below (va_Qi (fun (r : Int32) (u : Unit) => r = nI (cnt (fun i => col i = c) (w * h))) (mB (dC, dI) vwCl [(tc 1, .int)] A (fun u => [(ad 0, .inr (1, [.int (nI w), .int (nI h), .ref (ad 1), .ref (ad 2), .ref (ad 3), .ref (ad 4), .ref (ad 5), .int qd])), (ad 1, .inl (tc 1, (w * h), .inl col))])) A) [.ref (ad 0), .int c].toArray s 0 0 A) (F0 m 4 ls []) := by
    intro n
    induction n with
    | zero => intro i k hi hk hm; exfalso; omega
    | succ n ih =>
      intro i k hi hk hm H locs hP hD hS ls hl
      refine lv_iload_n hx hb dX1_count_4 rfl (lv_at hl 3 rfl) ?_
      refine lv_aload_n hx hb dX1_count_5 rfl (lv_at hl 0 rfl) ?_
      refine va_get (D := (dC, dI)) (ci := 1) (v := .ref (ad 1)) (C := RX1) (T := TX1) (N := 8) hx hb hts (by decide +kernel) hown hK hP 0 rfl rfl 2 (by decide) (hts (.fieldLink RX1 20 "TriangleRaster" "colours" "[I") (by decide +kernel)) (fun _ h9 => h9) rfl dX1_count_6 ?_
      refine va_alen (v := nI (w * h)) hx hb hK hP 1 0 rfl rfl rfl dX1_count_9 ?_
      refine lv_icmp_ge (tgt := 32) hx hb dX1_count_10 (by decide) (fun c10 => ?_) (fun c10 => ?_)
      · refine lv_iload_n hx hb dX1_count_32 rfl (lv_at hl 2 rfl) ?_
        have hP9 := hP.sub (ws' := [(ad 0, .inr (1, [.int (nI w), .int (nI h), .ref (ad 1), .ref (ad 2), .ref (ad 3), .ref (ad 4), .ref (ad 5), .int qd])), (ad 1, .inl (tc 1, (w * h), .inl col))]) [0, 1] rfl
        have hD9 := hD.sub (ws' := [(ad 0, .inr (1, [.int (nI w), .int (nI h), .ref (ad 1), .ref (ad 2), .ref (ad 3), .ref (ad 4), .ref (ad 5), .int qd])), (ad 1, .inl (tc 1, (w * h), .inl col))]) [0, 1] (by decide) rfl
        exact W.iret (v := (nI k)) hx hb hr (fun t ht hW => ⟨⟨nI k, (), rfl, by rw [hk, show i = w * h by rw [nI_leI (by omega) (by omega)] at c10; omega], by rw [ht]; exact hP9, va_K.moved hW.alike hK, hD9⟩, hS.F ht⟩) hS.2.2 dX1_count_33
      · have hlt : i < w * h := by rw [nI_leI (by omega) (by omega)] at c10; omega
        refine lv_aload_n hx hb dX1_count_13 rfl (lv_at hl 0 rfl) ?_
        refine va_get (D := (dC, dI)) (ci := 1) (v := .ref (ad 1)) (C := RX1) (T := TX1) (N := 8) hx hb hts (by decide +kernel) hown hK hP 0 rfl rfl 2 (by decide) (hts (.fieldLink RX1 20 "TriangleRaster" "colours" "[I") (by decide +kernel)) (fun _ h9 => h9) rfl dX1_count_14 ?_
        refine lv_iload_n hx hb dX1_count_17 rfl (lv_at hl 3 rfl) ?_
        refine va_iald hx hb hK hP 1 0 rfl rfl (vp_in_nI hlt (by omega)) dX1_count_18 ?_
        refine lv_topi (fun v18 ev18 => ?_)
        rw [nI_clamp (by omega)] at ev18
        refine lv_iload_n hx hb dX1_count_19 rfl (lv_at hl 1 rfl) ?_
        refine lv_icmp_ne (tgt := 26) hx hb dX1_count_20 (by decide) (fun c20 => ?_) (fun c20 => ?_)
        · have cc : ¬ (fun i => col i = c) i := fun q => c20 (ev18.trans q)
          refine lv_iinc (v := nI (i + 1)) (lv' := [(3, .int (nI (i + 1))), (0, .ref (ad 0)), (1, .int c), (2, .int (nI k))]) hx hb dX1_count_26 hl (k := 3) rfl (nI_add _ 1) (by decide) rfl (fun ls hl => ?_)
          refine lv_goto (tgt := 4) hx hb dX1_count_29 (by decide) ?_
          exact ih (i + 1) (k) (by omega) (by rw [hk, cnt_no cc]) (by omega) _ _ (hP.sub [0, 1] rfl) (hD.sub [0, 1] (by decide) rfl) hS ls (lv_sub hl [1, 2, 3, 0] rfl)
        · have cc : (fun i => col i = c) i := ev18.symm.trans c20
          refine lv_iinc (v := nI (k + 1)) (lv' := [(2, .int (nI (k + 1))), (0, .ref (ad 0)), (1, .int c), (3, .int (nI i))]) hx hb dX1_count_23 hl (k := 2) rfl (nI_add _ 1) (by decide) rfl (fun ls hl => ?_)
          refine lv_iinc (v := nI (i + 1)) (lv' := [(3, .int (nI (i + 1))), (2, .int (nI (k + 1))), (0, .ref (ad 0)), (1, .int c)]) hx hb dX1_count_26 hl (k := 3) rfl (nI_add _ 1) (by decide) rfl (fun ls hl => ?_)
          refine lv_goto (tgt := 4) hx hb dX1_count_29 (by decide) ?_
          exact ih (i + 1) (k + 1) (by omega) (by rw [hk, cnt_yes cc]) (by omega) _ _ (hP.sub [0, 1] rfl) (hD.sub [0, 1] (by decide) rfl) hS ls (lv_sub hl [2, 3, 1, 0] rfl)
  exact loop (w * h + 1) 0 0 (Nat.zero_le _) rfl (by omega) _ _ (hP.sub [0, 1] rfl) (hD.sub [0, 1] (by decide) rfl) hS ls (lv_sub hl [2, 3, 1, 0] rfl)

set_option maxHeartbeats 4000000 in
set_option maxRecDepth 100000 in
/-- forgetReached -/
theorem c_X1_forgetReached (l : Launch) (dC : Nat → ClassId) (dI : Nat → Nat → Nat) (sz : Nat) (ad : Nat → Nat) (tc : Nat → ClassId) (w h : Nat) (qd : Int32) (rea : Nat → Int32) (hw1 : 1 ≤ w) (hw2 : w ≤ 24) (hh1 : 1 ≤ h) (hh2 : h ≤ 24) : Met l yX1_forgetReached wsX1_forgetReached ({ frames := 0, cells := 0, slots := 0, locals := 0 }) (mP (dC, dI) vwCl [(tc 4, .boolean)] [(ad 0, .inr (1, [.int (nI w), .int (nI h), .ref (ad 1), .ref (ad 2), .ref (ad 3), .ref (ad 4), .ref (ad 5), .int qd])), (ad 4, .inl (tc 4, (w * h), .inl rea))] sz [.ref (ad 0)]) (va_Qv (fun (u : Nat → Int32) => ∀ i, i < w * h → u i = 0) (mB (dC, dI) vwCl [(tc 4, .boolean)] (va_A [(ad 0, .inr (1, [.int (nI w), .int (nI h), .ref (ad 1), .ref (ad 2), .ref (ad 3), .ref (ad 4), .ref (ad 5), .int qd])), (ad 4, .inl (tc 4, (w * h), .inl rea))] sz) (fun u => [(ad 0, .inr (1, [.int (nI w), .int (nI h), .ref (ad 1), .ref (ad 2), .ref (ad 3), .ref (ad 4), .ref (ad 5), .int qd])), (ad 4, .inl (tc 4, (w * h), .inl u))])) (va_A [(ad 0, .inr (1, [.int (nI w), .int (nI h), .ref (ad 1), .ref (ad 2), .ref (ad 3), .ref (ad 4), .ref (ad 5), .int qd])), (ad 4, .inl (tc 4, (w * h), .inl rea))] sz)) 0 0 (va_A [(ad 0, .inr (1, [.int (nI w), .int (nI h), .ref (ad 1), .ref (ad 2), .ref (ad 3), .ref (ad 4), .ref (ad 5), .int qd])), (ad 4, .inl (tc 4, (w * h), .inl rea))] sz) := by
  refine Met.ofW (cc := cX1_forgetReached) (maxL := 2) (ret := none) (by decide) rfl ?_
  intro p e s m args below meth cD s₁ B hml hv
  obtain ⟨rfl, hsz, hP, hK, hD0, hN⟩ := hv
  have hx := B.exec
  have hb := B.bytes
  have hr := B.returns
  have hts := atoms_spec (ws := wsX1_forgetReached) B.pre
  have hown : s.vm.findClass RX1 = some m.cls := findClass_of_methodNamed B.named
  have hlocks := B.notSynchronized
  subst hsz
  have hD := hD0.self (sz := s.heap.size)
  generalize hAe : va_A [(ad 0, .inr (1, [.int (nI w), .int (nI h), .ref (ad 1), .ref (ad 2), .ref (ad 3), .ref (ad 4), .ref (ad 5), .int qd])), (ad 4, .inl (tc 4, (w * h), .inl rea))] s.heap.size = A at hD ⊢
  have hA : ∀ q : Nat, s.heap.size ≤ q → A q := fun q h => by rw [← hAe]; exact Or.inr h
  have hS : va_S A s.heap s.heap [] := va_S.rf
  have hP : va_P (dC, dI) vwCl [(ad 0, .inr (1, [.int (nI w), .int (nI h), .ref (ad 1), .ref (ad 2), .ref (ad 3), .ref (ad 4), .ref (ad 5), .int qd])), (ad 4, .inl (tc 4, (w * h), .inl rea))] s.heap := hP
  have hl := lv_entry ([.ref (ad 0)]) (n := 2) (Nat.le_of_ble_eq_true rfl)
  rw [lg_entry_eq]
  generalize (lg_sl ([.ref (ad 0)]) ++ List.replicate (2 - (lg_sl ([.ref (ad 0)])).length) Slot.unset).toArray = ls at hl ⊢
  have hl : lv_has ls 2 [(0, .ref (ad 0))] := hl
  refine lv_iconst (v := 0) hx hb dX1_forgetReached_0 (by decide) ?_
  refine lv_topi (fun zz ezz => ?_)
  obtain rfl : zz = nI 0 := ezz.trans (nI_0.symm)
  have hwh := wh_le hw2 hh2
  refine lv_istore_n (lv' := [(1, .int (nI 0)), (0, .ref (ad 0))]) hx hb dX1_forgetReached_1 rfl hl (by decide) rfl (fun ls hl => ?_)
  have loop : ∀ (n : Nat) (i : Nat) (g : Nat → Int32), i ≤ w * h → (∀ j, j < i → g j = 0) → w * h + 1 ≤ i + n → ∀ (H : Heap) (locs : List Loc), va_P (dC, dI) vwCl [(ad 0, .inr (1, [.int (nI w), .int (nI h), .ref (ad 1), .ref (ad 2), .ref (ad 3), .ref (ad 4), .ref (ad 5), .int qd])), (ad 4, .inl (tc 4, (w * h), .inl g))] H → va_D A [(ad 0, .inr (1, [.int (nI w), .int (nI h), .ref (ad 1), .ref (ad 2), .ref (ad 3), .ref (ad 4), .ref (ad 5), .int qd])), (ad 4, .inl (tc 4, (w * h), .inl g))] → va_S A s.heap H locs → ∀ (ls : Array Slot), lv_has ls 2 [(0, .ref (ad 0)), (1, .int (nI i))] → W p l e (headSpec wsX1_forgetReached { frames := 0, cells := 0, slots := 0, locals := 0 }).room s m [.ref (ad 0)].toArray below meth cD H locs 0 0 (MQ below (va_Qv (fun (u : Nat → Int32) => ∀ i, i < w * h → u i = 0) (mB (dC, dI) vwCl [(tc 4, .boolean)] A (fun u => [(ad 0, .inr (1, [.int (nI w), .int (nI h), .ref (ad 1), .ref (ad 2), .ref (ad 3), .ref (ad 4), .ref (ad 5), .int qd])), (ad 4, .inl (tc 4, (w * h), .inl u))])) A) [.ref (ad 0)].toArray s 0 0 A) (F0 m 2 ls []) := by
    intro n
    induction n with
    | zero => intro i g hi hg hm; exfalso; omega
    | succ n ih =>
      intro i g hi hg hm H locs hP hD hS ls hl
      refine lv_iload_n hx hb dX1_forgetReached_2 rfl (lv_at hl 1 rfl) ?_
      refine lv_aload_n hx hb dX1_forgetReached_3 rfl (lv_at hl 0 rfl) ?_
      refine va_get (D := (dC, dI)) (ci := 1) (v := .ref (ad 4)) (C := RX1) (T := TX1) (N := 8) hx hb hts (by decide +kernel) hown hK hP 0 rfl rfl 5 (by decide) (hts (.fieldLink RX1 34 "TriangleRaster" "reached" "[Z") (by decide +kernel)) (fun _ h9 => h9) rfl dX1_forgetReached_4 ?_
      refine va_alen (v := nI (w * h)) hx hb hK hP 1 0 rfl rfl rfl dX1_forgetReached_7 ?_
      refine lv_icmp_ge (tgt := 24) hx hb dX1_forgetReached_8 (by decide) (fun c8 => ?_) (fun c8 => ?_)
      · have hP9 := hP.sub (ws' := [(ad 0, .inr (1, [.int (nI w), .int (nI h), .ref (ad 1), .ref (ad 2), .ref (ad 3), .ref (ad 4), .ref (ad 5), .int qd])), (ad 4, .inl (tc 4, (w * h), .inl g))]) [0, 1] rfl
        have hD9 := hD.sub (ws' := [(ad 0, .inr (1, [.int (nI w), .int (nI h), .ref (ad 1), .ref (ad 2), .ref (ad 3), .ref (ad 4), .ref (ad 5), .int qd])), (ad 4, .inl (tc 4, (w * h), .inl g))]) [0, 1] (by decide) rfl
        exact W.vret hx hb hr (fun t ht hW => ⟨⟨g, rfl, fun j hj => hg j (by rw [nI_leI (by omega) (by omega)] at c8; omega), by rw [ht]; exact hP9, va_K.moved hW.alike hK, hD9⟩, hS.F ht⟩) hS.2.2 dX1_forgetReached_24
      · have hlt : i < w * h := by rw [nI_leI (by omega) (by omega)] at c8; omega
        refine lv_aload_n hx hb dX1_forgetReached_11 rfl (lv_at hl 0 rfl) ?_
        refine va_get (D := (dC, dI)) (ci := 1) (v := .ref (ad 4)) (C := RX1) (T := TX1) (N := 8) hx hb hts (by decide +kernel) hown hK hP 0 rfl rfl 5 (by decide) (hts (.fieldLink RX1 34 "TriangleRaster" "reached" "[Z") (by decide +kernel)) (fun _ h9 => h9) rfl dX1_forgetReached_12 ?_
        refine lv_iload_n hx hb dX1_forgetReached_15 rfl (lv_at hl 1 rfl) ?_
        refine lv_iconst (v := 0) hx hb dX1_forgetReached_16 (by decide) ?_
        refine va_zast hx hb hK hP hD hS 1 0 rfl rfl (vp_in_nI hlt (by omega)) dX1_forgetReached_17 (fun H locs hP hD hS => ?_)
        have hP : va_P (dC, dI) vwCl [(ad 0, .inr (1, [.int (nI w), .int (nI h), .ref (ad 1), .ref (ad 2), .ref (ad 3), .ref (ad 4), .ref (ad 5), .int qd])), (ad 4, .inl (tc 4, (w * h), .inl (upd g (nI i).toNatClampNeg 0)))] H := hP
        have hD : va_D A [(ad 0, .inr (1, [.int (nI w), .int (nI h), .ref (ad 1), .ref (ad 2), .ref (ad 3), .ref (ad 4), .ref (ad 5), .int qd])), (ad 4, .inl (tc 4, (w * h), .inl (upd g (nI i).toNatClampNeg 0)))] := hD
        refine lv_iinc (v := nI (i + 1)) (lv' := [(1, .int (nI (i + 1))), (0, .ref (ad 0))]) hx hb dX1_forgetReached_18 hl (k := 1) rfl (nI_add _ 1) (by decide) rfl (fun ls hl => ?_)
        refine lv_goto (tgt := 2) hx hb dX1_forgetReached_21 (by decide) ?_
        exact ih (i + 1) (upd g (nI i).toNatClampNeg 0) (by omega) (fun j h => by rw [nI_clamp (by omega)]; unfold upd; split <;> first | rfl | exact hg j (by omega)) (by omega) _ _ (hP.sub [0, 1] rfl) (hD.sub [0, 1] (by decide) rfl) hS ls (lv_sub hl [1, 0] rfl)
  exact loop (w * h + 1) 0 rea (Nat.zero_le _) (fun j h => absurd h (Nat.not_lt_zero j)) (by omega) _ _ (hP.sub [0, 1] rfl) (hD.sub [0, 1] (by decide) rfl) hS ls (lv_sub hl [1, 0] rfl)

set_option maxHeartbeats 4000000 in
set_option maxRecDepth 100000 in
/-- paint -/
theorem c_X1_paint (l : Launch) (dC : Nat → ClassId) (dI : Nat → Nat → Nat) (sz : Nat) (ad : Nat → Nat) (tc : Nat → ClassId) (w h : Nat) (qd : Int32) (col : Nat → Int32) (hw1 : 1 ≤ w) (hw2 : w ≤ 24) (hh1 : 1 ≤ h) (hh2 : h ≤ 24) (x y c : Int32) : Met l yX1_paint wsX1_paint ({ frames := 2, cells := 0, slots := 0, locals := 45 }) (mP (dC, dI) vwCl [(tc 1, .int)] [(ad 0, .inr (1, [.int (nI w), .int (nI h), .ref (ad 1), .ref (ad 2), .ref (ad 3), .ref (ad 4), .ref (ad 5), .int qd])), (ad 1, .inl (tc 1, (w * h), .inl col))] sz [.ref (ad 0), .int x, .int y, .int c]) (va_Qi (fun (r : Int32) (u : Nat → Int32) => (inX w h x y ∧ r = 1 ∧ u = upd col (lin w x y) c) ∨ (¬ inX w h x y ∧ r = 0 ∧ u = col)) (mB (dC, dI) vwCl [(tc 1, .int)] (va_A [(ad 0, .inr (1, [.int (nI w), .int (nI h), .ref (ad 1), .ref (ad 2), .ref (ad 3), .ref (ad 4), .ref (ad 5), .int qd])), (ad 1, .inl (tc 1, (w * h), .inl col))] sz) (fun u => [(ad 0, .inr (1, [.int (nI w), .int (nI h), .ref (ad 1), .ref (ad 2), .ref (ad 3), .ref (ad 4), .ref (ad 5), .int qd])), (ad 1, .inl (tc 1, (w * h), .inl u))])) (va_A [(ad 0, .inr (1, [.int (nI w), .int (nI h), .ref (ad 1), .ref (ad 2), .ref (ad 3), .ref (ad 4), .ref (ad 5), .int qd])), (ad 1, .inl (tc 1, (w * h), .inl col))] sz)) 0 0 (va_A [(ad 0, .inr (1, [.int (nI w), .int (nI h), .ref (ad 1), .ref (ad 2), .ref (ad 3), .ref (ad 4), .ref (ad 5), .int qd])), (ad 1, .inl (tc 1, (w * h), .inl col))] sz) := by
  refine Met.ofW (cc := cX1_paint) (maxL := 5) (ret := (some .int)) (by decide) rfl ?_
  intro p e s m args below meth cD s₁ B hml hv
  obtain ⟨rfl, hsz, hP, hK, hD0, hN⟩ := hv
  have hx := B.exec
  have hb := B.bytes
  have hr := B.returns
  have hts := atoms_spec (ws := wsX1_paint) B.pre
  have hown : s.vm.findClass RX1 = some m.cls := findClass_of_methodNamed B.named
  have hlocks := B.notSynchronized
  subst hsz
  have hD := hD0.self (sz := s.heap.size)
  generalize hAe : va_A [(ad 0, .inr (1, [.int (nI w), .int (nI h), .ref (ad 1), .ref (ad 2), .ref (ad 3), .ref (ad 4), .ref (ad 5), .int qd])), (ad 1, .inl (tc 1, (w * h), .inl col))] s.heap.size = A at hD ⊢
  have hA : ∀ q : Nat, s.heap.size ≤ q → A q := fun q h => by rw [← hAe]; exact Or.inr h
  have hS : va_S A s.heap s.heap [] := va_S.rf
  have hP : va_P (dC, dI) vwCl [(ad 0, .inr (1, [.int (nI w), .int (nI h), .ref (ad 1), .ref (ad 2), .ref (ad 3), .ref (ad 4), .ref (ad 5), .int qd])), (ad 1, .inl (tc 1, (w * h), .inl col))] s.heap := hP
  have hl := lv_entry ([.ref (ad 0), .int x, .int y, .int c]) (n := 5) (Nat.le_of_ble_eq_true rfl)
  rw [lg_entry_eq]
  generalize (lg_sl ([.ref (ad 0), .int x, .int y, .int c]) ++ List.replicate (5 - (lg_sl ([.ref (ad 0), .int x, .int y, .int c])).length) Slot.unset).toArray = ls at hl ⊢
  have hl : lv_has ls 5 [(0, .ref (ad 0)), (1, .int x), (2, .int y), (3, .int c)] := hl
  refine lv_aload_n hx hb dX1_paint_0 rfl (lv_at hl 0 rfl) ?_
  refine lv_iload_n hx hb dX1_paint_1 rfl (lv_at hl 1 rfl) ?_
  refine lv_iload_n hx hb dX1_paint_2 rfl (lv_at hl 2 rfl) ?_
  refine m_calli (cs := [(ad 0, .inr (1, [.int (nI w), .int (nI h), .ref (ad 1), .ref (ad 2), .ref (ad 3), .ref (ad 4), .ref (ad 5), .int qd]))]) (wr := [(ad 1, .inl (tc 1, (w * h), .inl col))]) hP hD hS hA [0] [1] rfl rfl (by decide) (by decide) (va_runV (As := [.int x, .int y]) (rest := []) ⟨hx, hb, hml, hown, hts⟩ (c_X1_indexOf l dC dI _ ad w h qd hw1 hw2 hh1 hh2 x y) (cwV 2 hts gX1_paint_X1_indexOf rfl rfl rfl (by decide +kernel) ⟨Nat.le_of_ble_eq_true rfl, Nat.le_of_ble_eq_true rfl⟩) (m_preV (ci := 1) (q0 := 0) (hP.sub [0] rfl) (hK.sub [] rfl) (hD.sub [0] (by decide) rfl) hN rfl rfl) rfl rfl hl.1 rfl (lv_room (Nat.le_of_ble_eq_true rfl)) dX1_paint_3 ⟨Nat.le_of_ble_eq_true rfl, Nat.le_of_ble_eq_true rfl⟩) (fun r3 _ H locs q3 _ hP hD hS => ?_)
  have hP : va_P (dC, dI) vwCl [(ad 0, .inr (1, [.int (nI w), .int (nI h), .ref (ad 1), .ref (ad 2), .ref (ad 3), .ref (ad 4), .ref (ad 5), .int qd])), (ad 1, .inl (tc 1, (w * h), .inl col))] H := hP.sub [1, 0] rfl
  have hD : va_D A [(ad 0, .inr (1, [.int (nI w), .int (nI h), .ref (ad 1), .ref (ad 2), .ref (ad 3), .ref (ad 4), .ref (ad 5), .int qd])), (ad 1, .inl (tc 1, (w * h), .inl col))] := hD.sub [1, 0] (by decide) rfl
  refine lv_istore (lv' := [(4, .int r3), (0, .ref (ad 0)), (1, .int x), (2, .int y), (3, .int c)]) hx hb dX1_paint_6 hl (by decide) rfl (fun ls hl => ?_)
  refine lv_iload hx hb dX1_paint_8 (lv_at hl 0 rfl) ?_
  refine lv_iconst (v := (-1)) hx hb dX1_paint_10 (by decide) ?_
  refine lv_icmp_ne (tgt := 16) hx hb dX1_paint_11 (by decide) (fun c11 => ?_) (fun c11 => ?_)
  · have hc9 : inX w h x y ∧ r3 = nI (lin w x y) := by
      rcases q3 with h | h
      · exact h
      · exact absurd h.2 c11
    have hlt9 := lin_lt hc9.1
    have hwh9 := wh_le hw2 hh2
    have hi9 : vp_in r3 (w * h) := by rw [hc9.2]; exact vp_in_nI hlt9 (by omega)
    have hcl9 : r3.toNatClampNeg = lin w x y := by rw [hc9.2]; exact nI_clamp (by omega)
    refine lv_aload_n hx hb dX1_paint_16 rfl (lv_at hl 1 rfl) ?_
    refine va_get (D := (dC, dI)) (ci := 1) (v := .ref (ad 1)) (C := RX1) (T := TX1) (N := 8) hx hb hts (by decide +kernel) hown hK hP 0 rfl rfl 2 (by decide) (hts (.fieldLink RX1 20 "TriangleRaster" "colours" "[I") (by decide +kernel)) (fun _ h9 => h9) rfl dX1_paint_17 ?_
    refine lv_iload hx hb dX1_paint_20 (lv_at hl 0 rfl) ?_
    refine lv_iload_n hx hb dX1_paint_22 rfl (lv_at hl 4 rfl) ?_
    refine va_iast hx hb hK hP hD hS 1 0 rfl rfl hi9 dX1_paint_23 (fun H locs hP hD hS => ?_)
    have hP : va_P (dC, dI) vwCl [(ad 0, .inr (1, [.int (nI w), .int (nI h), .ref (ad 1), .ref (ad 2), .ref (ad 3), .ref (ad 4), .ref (ad 5), .int qd])), (ad 1, .inl (tc 1, (w * h), .inl (upd col r3.toNatClampNeg c)))] H := hP
    have hD : va_D A [(ad 0, .inr (1, [.int (nI w), .int (nI h), .ref (ad 1), .ref (ad 2), .ref (ad 3), .ref (ad 4), .ref (ad 5), .int qd])), (ad 1, .inl (tc 1, (w * h), .inl (upd col r3.toNatClampNeg c)))] := hD
    refine lv_iconst (v := 1) hx hb dX1_paint_24 (by decide) ?_
    have hP9 := hP.sub (ws' := [(ad 0, .inr (1, [.int (nI w), .int (nI h), .ref (ad 1), .ref (ad 2), .ref (ad 3), .ref (ad 4), .ref (ad 5), .int qd])), (ad 1, .inl (tc 1, (w * h), .inl (upd col r3.toNatClampNeg c)))]) [0, 1] rfl
    have hD9 := hD.sub (ws' := [(ad 0, .inr (1, [.int (nI w), .int (nI h), .ref (ad 1), .ref (ad 2), .ref (ad 3), .ref (ad 4), .ref (ad 5), .int qd])), (ad 1, .inl (tc 1, (w * h), .inl (upd col r3.toNatClampNeg c)))]) [0, 1] (by decide) rfl
    exact W.iret (v := 1) hx hb hr (fun t ht hW => ⟨⟨1, upd col r3.toNatClampNeg c, rfl, Or.inl ⟨hc9.1, rfl, by rw [hcl9]⟩, by rw [ht]; exact hP9, va_K.moved hW.alike hK, hD9⟩, hS.F ht⟩) hS.2.2 dX1_paint_25
  · refine lv_iconst (v := 0) hx hb dX1_paint_14 (by decide) ?_
    have hP9 := hP.sub (ws' := [(ad 0, .inr (1, [.int (nI w), .int (nI h), .ref (ad 1), .ref (ad 2), .ref (ad 3), .ref (ad 4), .ref (ad 5), .int qd])), (ad 1, .inl (tc 1, (w * h), .inl col))]) [0, 1] rfl
    have hD9 := hD.sub (ws' := [(ad 0, .inr (1, [.int (nI w), .int (nI h), .ref (ad 1), .ref (ad 2), .ref (ad 3), .ref (ad 4), .ref (ad 5), .int qd])), (ad 1, .inl (tc 1, (w * h), .inl col))]) [0, 1] (by decide) rfl
    exact W.iret (v := 0) hx hb hr (fun t ht hW => ⟨⟨0, col, rfl, Or.inr ⟨fun h => (by rcases q3 with h1 | h1; exact nI_m1 (n := lin w x y) (by have := lin_lt h; have := wh_le hw2 hh2; omega) (h1.2.symm.trans c11); exact h1.1 h), rfl, rfl⟩, by rw [ht]; exact hP9, va_K.moved hW.alike hK, hD9⟩, hS.F ht⟩) hS.2.2 dX1_paint_15

set_option maxHeartbeats 4000000 in
set_option maxRecDepth 100000 in
/-- reach -/
theorem c_X1_reach (l : Launch) (dC : Nat → ClassId) (dI : Nat → Nat → Nat) (sz : Nat) (ad : Nat → Nat) (tc : Nat → ClassId) (w h k : Nat) (col rea que : Nat → Int32) (hw1 : 1 ≤ w) (hw2 : w ≤ 24) (hh1 : 1 ≤ h) (hh2 : h ≤ 24) (hk : k ≤ w * h) (x y c : Int32) : Met l yX1_reach wsX1_reach ({ frames := 2, cells := 0, slots := 0, locals := 45 }) (mP (dC, dI) vwCl [(tc 1, .int), (tc 4, .boolean), (tc 5, .int)] [(ad 0, .inr (1, [.int (nI w), .int (nI h), .ref (ad 1), .ref (ad 2), .ref (ad 3), .ref (ad 4), .ref (ad 5), .int (nI k)])), (ad 1, .inl (tc 1, (w * h), .inl col)), (ad 4, .inl (tc 4, (w * h), .inl rea)), (ad 5, .inl (tc 5, (w * h), .inl que))] sz [.ref (ad 0), .int x, .int y, .int c]) (va_Qv (fun (u : (Nat → Int32) × (Nat → Int32) × Nat) => ((inX w h x y ∧ rea (lin w x y) = 0 ∧ col (lin w x y) = c ∧ k < w * h) ∧ u = (upd rea (lin w x y) 1, upd que k (nI (lin w x y)), k + 1)) ∨ (¬ (inX w h x y ∧ rea (lin w x y) = 0 ∧ col (lin w x y) = c ∧ k < w * h) ∧ u = (rea, que, k))) (mB (dC, dI) vwCl [(tc 1, .int), (tc 4, .boolean), (tc 5, .int)] (va_A [(ad 0, .inr (1, [.int (nI w), .int (nI h), .ref (ad 1), .ref (ad 2), .ref (ad 3), .ref (ad 4), .ref (ad 5), .int (nI k)])), (ad 1, .inl (tc 1, (w * h), .inl col)), (ad 4, .inl (tc 4, (w * h), .inl rea)), (ad 5, .inl (tc 5, (w * h), .inl que))] sz) (fun u => [(ad 0, .inr (1, [.int (nI w), .int (nI h), .ref (ad 1), .ref (ad 2), .ref (ad 3), .ref (ad 4), .ref (ad 5), .int (nI u.2.2)])), (ad 1, .inl (tc 1, (w * h), .inl col)), (ad 4, .inl (tc 4, (w * h), .inl u.1)), (ad 5, .inl (tc 5, (w * h), .inl u.2.1))])) (va_A [(ad 0, .inr (1, [.int (nI w), .int (nI h), .ref (ad 1), .ref (ad 2), .ref (ad 3), .ref (ad 4), .ref (ad 5), .int (nI k)])), (ad 1, .inl (tc 1, (w * h), .inl col)), (ad 4, .inl (tc 4, (w * h), .inl rea)), (ad 5, .inl (tc 5, (w * h), .inl que))] sz)) 0 0 (va_A [(ad 0, .inr (1, [.int (nI w), .int (nI h), .ref (ad 1), .ref (ad 2), .ref (ad 3), .ref (ad 4), .ref (ad 5), .int (nI k)])), (ad 1, .inl (tc 1, (w * h), .inl col)), (ad 4, .inl (tc 4, (w * h), .inl rea)), (ad 5, .inl (tc 5, (w * h), .inl que))] sz) := by
  refine Met.ofW (cc := cX1_reach) (maxL := 5) (ret := none) (by decide) rfl ?_
  intro p e s m args below meth cD s₁ B hml hv
  obtain ⟨rfl, hsz, hP, hK, hD0, hN⟩ := hv
  have hx := B.exec
  have hb := B.bytes
  have hr := B.returns
  have hts := atoms_spec (ws := wsX1_reach) B.pre
  have hown : s.vm.findClass RX1 = some m.cls := findClass_of_methodNamed B.named
  have hlocks := B.notSynchronized
  subst hsz
  have hD := hD0.self (sz := s.heap.size)
  generalize hAe : va_A [(ad 0, .inr (1, [.int (nI w), .int (nI h), .ref (ad 1), .ref (ad 2), .ref (ad 3), .ref (ad 4), .ref (ad 5), .int (nI k)])), (ad 1, .inl (tc 1, (w * h), .inl col)), (ad 4, .inl (tc 4, (w * h), .inl rea)), (ad 5, .inl (tc 5, (w * h), .inl que))] s.heap.size = A at hD ⊢
  have hA : ∀ q : Nat, s.heap.size ≤ q → A q := fun q h => by rw [← hAe]; exact Or.inr h
  have hS : va_S A s.heap s.heap [] := va_S.rf
  have hP : va_P (dC, dI) vwCl [(ad 0, .inr (1, [.int (nI w), .int (nI h), .ref (ad 1), .ref (ad 2), .ref (ad 3), .ref (ad 4), .ref (ad 5), .int (nI k)])), (ad 1, .inl (tc 1, (w * h), .inl col)), (ad 4, .inl (tc 4, (w * h), .inl rea)), (ad 5, .inl (tc 5, (w * h), .inl que))] s.heap := hP
  have hl := lv_entry ([.ref (ad 0), .int x, .int y, .int c]) (n := 5) (Nat.le_of_ble_eq_true rfl)
  rw [lg_entry_eq]
  generalize (lg_sl ([.ref (ad 0), .int x, .int y, .int c]) ++ List.replicate (5 - (lg_sl ([.ref (ad 0), .int x, .int y, .int c])).length) Slot.unset).toArray = ls at hl ⊢
  have hl : lv_has ls 5 [(0, .ref (ad 0)), (1, .int x), (2, .int y), (3, .int c)] := hl
  refine lv_aload_n hx hb dX1_reach_0 rfl (lv_at hl 0 rfl) ?_
  refine lv_iload_n hx hb dX1_reach_1 rfl (lv_at hl 1 rfl) ?_
  refine lv_iload_n hx hb dX1_reach_2 rfl (lv_at hl 2 rfl) ?_
  refine m_calli (cs := [(ad 0, .inr (1, [.int (nI w), .int (nI h), .ref (ad 1), .ref (ad 2), .ref (ad 3), .ref (ad 4), .ref (ad 5), .int (nI k)]))]) (wr := [(ad 1, .inl (tc 1, (w * h), .inl col)), (ad 4, .inl (tc 4, (w * h), .inl rea)), (ad 5, .inl (tc 5, (w * h), .inl que))]) hP hD hS hA [0] [1, 2, 3] rfl rfl (by decide) (by decide) (va_runV (As := [.int x, .int y]) (rest := []) ⟨hx, hb, hml, hown, hts⟩ (c_X1_indexOf l dC dI _ ad w h (nI k) hw1 hw2 hh1 hh2 x y) (cwV 2 hts gX1_reach_X1_indexOf rfl rfl rfl (by decide +kernel) ⟨Nat.le_of_ble_eq_true rfl, Nat.le_of_ble_eq_true rfl⟩) (m_preV (ci := 1) (q0 := 0) (hP.sub [0] rfl) (hK.sub [] rfl) (hD.sub [0] (by decide) rfl) hN rfl rfl) rfl rfl hl.1 rfl (lv_room (Nat.le_of_ble_eq_true rfl)) dX1_reach_3 ⟨Nat.le_of_ble_eq_true rfl, Nat.le_of_ble_eq_true rfl⟩) (fun r3 _ H locs q3 _ hP hD hS => ?_)
  have hP : va_P (dC, dI) vwCl [(ad 0, .inr (1, [.int (nI w), .int (nI h), .ref (ad 1), .ref (ad 2), .ref (ad 3), .ref (ad 4), .ref (ad 5), .int (nI k)])), (ad 1, .inl (tc 1, (w * h), .inl col)), (ad 4, .inl (tc 4, (w * h), .inl rea)), (ad 5, .inl (tc 5, (w * h), .inl que))] H := hP.sub [3, 0, 1, 2] rfl
  have hD : va_D A [(ad 0, .inr (1, [.int (nI w), .int (nI h), .ref (ad 1), .ref (ad 2), .ref (ad 3), .ref (ad 4), .ref (ad 5), .int (nI k)])), (ad 1, .inl (tc 1, (w * h), .inl col)), (ad 4, .inl (tc 4, (w * h), .inl rea)), (ad 5, .inl (tc 5, (w * h), .inl que))] := hD.sub [3, 0, 1, 2] (by decide) rfl
  refine lv_istore (lv' := [(4, .int r3), (0, .ref (ad 0)), (1, .int x), (2, .int y), (3, .int c)]) hx hb dX1_reach_6 hl (by decide) rfl (fun ls hl => ?_)
  refine lv_iload hx hb dX1_reach_8 (lv_at hl 0 rfl) ?_
  refine lv_iconst (v := (-1)) hx hb dX1_reach_10 (by decide) ?_
  refine lv_icmp_eq (tgt := 47) hx hb dX1_reach_11 (by decide) (fun c11 => ?_) (fun c11 => ?_)
  · have hP9 := hP.sub (ws' := [(ad 0, .inr (1, [.int (nI w), .int (nI h), .ref (ad 1), .ref (ad 2), .ref (ad 3), .ref (ad 4), .ref (ad 5), .int (nI k)])), (ad 1, .inl (tc 1, (w * h), .inl col)), (ad 4, .inl (tc 4, (w * h), .inl rea)), (ad 5, .inl (tc 5, (w * h), .inl que))]) [0, 1, 2, 3] rfl
    have hD9 := hD.sub (ws' := [(ad 0, .inr (1, [.int (nI w), .int (nI h), .ref (ad 1), .ref (ad 2), .ref (ad 3), .ref (ad 4), .ref (ad 5), .int (nI k)])), (ad 1, .inl (tc 1, (w * h), .inl col)), (ad 4, .inl (tc 4, (w * h), .inl rea)), (ad 5, .inl (tc 5, (w * h), .inl que))]) [0, 1, 2, 3] (by decide) rfl
    exact W.vret hx hb hr (fun t ht hW => ⟨⟨(rea, que, k), rfl, Or.inr ⟨fun h => (fun h => (by rcases q3 with h1 | h1; exact nI_m1 (n := lin w x y) (by have := lin_lt h; have := wh_le hw2 hh2; omega) (h1.2.symm.trans c11); exact h1.1 h)) h.1, rfl⟩, by rw [ht]; exact hP9, va_K.moved hW.alike hK, hD9⟩, hS.F ht⟩) hS.2.2 dX1_reach_47
  · have hc9 : inX w h x y ∧ r3 = nI (lin w x y) := by
      rcases q3 with h | h
      · exact h
      · exact absurd h.2 c11
    have hlt9 := lin_lt hc9.1
    have hwh9 := wh_le hw2 hh2
    have hi9 : vp_in r3 (w * h) := by rw [hc9.2]; exact vp_in_nI hlt9 (by omega)
    have hcl9 : r3.toNatClampNeg = lin w x y := by rw [hc9.2]; exact nI_clamp (by omega)
    refine lv_aload_n hx hb dX1_reach_14 rfl (lv_at hl 1 rfl) ?_
    refine va_get (D := (dC, dI)) (ci := 1) (v := .ref (ad 4)) (C := RX1) (T := TX1) (N := 8) hx hb hts (by decide +kernel) hown hK hP 0 rfl rfl 5 (by decide) (hts (.fieldLink RX1 34 "TriangleRaster" "reached" "[Z") (by decide +kernel)) (fun _ h9 => h9) rfl dX1_reach_15 ?_
    refine lv_iload hx hb dX1_reach_18 (lv_at hl 0 rfl) ?_
    refine va_zald hx hb hK hP 2 1 rfl rfl hi9 dX1_reach_20 ?_
    refine lv_topi (fun v20 ev20 => ?_)
    rw [hcl9] at ev20
    refine lv_if_ne (tgt := 47) hx hb dX1_reach_21 (by decide) (fun c21 => ?_) (fun c21 => ?_)
    · have hP9 := hP.sub (ws' := [(ad 0, .inr (1, [.int (nI w), .int (nI h), .ref (ad 1), .ref (ad 2), .ref (ad 3), .ref (ad 4), .ref (ad 5), .int (nI k)])), (ad 1, .inl (tc 1, (w * h), .inl col)), (ad 4, .inl (tc 4, (w * h), .inl rea)), (ad 5, .inl (tc 5, (w * h), .inl que))]) [0, 1, 2, 3] rfl
      have hD9 := hD.sub (ws' := [(ad 0, .inr (1, [.int (nI w), .int (nI h), .ref (ad 1), .ref (ad 2), .ref (ad 3), .ref (ad 4), .ref (ad 5), .int (nI k)])), (ad 1, .inl (tc 1, (w * h), .inl col)), (ad 4, .inl (tc 4, (w * h), .inl rea)), (ad 5, .inl (tc 5, (w * h), .inl que))]) [0, 1, 2, 3] (by decide) rfl
      exact W.vret hx hb hr (fun t ht hW => ⟨⟨(rea, que, k), rfl, Or.inr ⟨fun h => c21 (ev20.trans h.2.1), rfl⟩, by rw [ht]; exact hP9, va_K.moved hW.alike hK, hD9⟩, hS.F ht⟩) hS.2.2 dX1_reach_47
    · refine lv_aload_n hx hb dX1_reach_24 rfl (lv_at hl 1 rfl) ?_
      refine va_get (D := (dC, dI)) (ci := 1) (v := .ref (ad 1)) (C := RX1) (T := TX1) (N := 8) hx hb hts (by decide +kernel) hown hK hP 0 rfl rfl 2 (by decide) (hts (.fieldLink RX1 20 "TriangleRaster" "colours" "[I") (by decide +kernel)) (fun _ h9 => h9) rfl dX1_reach_25 ?_
      refine lv_iload hx hb dX1_reach_28 (lv_at hl 0 rfl) ?_
      refine va_iald hx hb hK hP 1 0 rfl rfl hi9 dX1_reach_30 ?_
      refine lv_topi (fun v30 ev30 => ?_)
      rw [hcl9] at ev30
      refine lv_iload_n hx hb dX1_reach_31 rfl (lv_at hl 4 rfl) ?_
      refine lv_icmp_ne (tgt := 47) hx hb dX1_reach_32 (by decide) (fun c32 => ?_) (fun c32 => ?_)
      · have hP9 := hP.sub (ws' := [(ad 0, .inr (1, [.int (nI w), .int (nI h), .ref (ad 1), .ref (ad 2), .ref (ad 3), .ref (ad 4), .ref (ad 5), .int (nI k)])), (ad 1, .inl (tc 1, (w * h), .inl col)), (ad 4, .inl (tc 4, (w * h), .inl rea)), (ad 5, .inl (tc 5, (w * h), .inl que))]) [0, 1, 2, 3] rfl
        have hD9 := hD.sub (ws' := [(ad 0, .inr (1, [.int (nI w), .int (nI h), .ref (ad 1), .ref (ad 2), .ref (ad 3), .ref (ad 4), .ref (ad 5), .int (nI k)])), (ad 1, .inl (tc 1, (w * h), .inl col)), (ad 4, .inl (tc 4, (w * h), .inl rea)), (ad 5, .inl (tc 5, (w * h), .inl que))]) [0, 1, 2, 3] (by decide) rfl
        exact W.vret hx hb hr (fun t ht hW => ⟨⟨(rea, que, k), rfl, Or.inr ⟨fun h => c32 (ev30.trans h.2.2.1), rfl⟩, by rw [ht]; exact hP9, va_K.moved hW.alike hK, hD9⟩, hS.F ht⟩) hS.2.2 dX1_reach_47
      · refine lv_aload_n hx hb dX1_reach_35 rfl (lv_at hl 1 rfl) ?_
        refine va_get (D := (dC, dI)) (ci := 1) (v := .int (nI k)) (C := RX1) (T := TX1) (N := 8) hx hb hts (by decide +kernel) hown hK hP 0 rfl rfl 7 (by decide) (hts (.fieldLink RX1 41 "TriangleRaster" "queued" "I") (by decide +kernel)) (fun _ h9 => h9) rfl dX1_reach_36 ?_
        refine lv_aload_n hx hb dX1_reach_39 rfl (lv_at hl 1 rfl) ?_
        refine va_get (D := (dC, dI)) (ci := 1) (v := .ref (ad 5)) (C := RX1) (T := TX1) (N := 8) hx hb hts (by decide +kernel) hown hK hP 0 rfl rfl 6 (by decide) (hts (.fieldLink RX1 38 "TriangleRaster" "queue" "[I") (by decide +kernel)) (fun _ h9 => h9) rfl dX1_reach_40 ?_
        refine va_alen (v := nI (w * h)) hx hb hK hP 3 2 rfl rfl rfl dX1_reach_43 ?_
        refine lv_icmp_lt (tgt := 48) hx hb dX1_reach_44 (by decide) (fun c44 => ?_) (fun c44 => ?_)
        · have hk9 : k < w * h := by rw [nI_ltI (by omega) (by omega)] at c44; omega
          refine lv_aload_n hx hb dX1_reach_48 rfl (lv_at hl 1 rfl) ?_
          refine va_get (D := (dC, dI)) (ci := 1) (v := .ref (ad 4)) (C := RX1) (T := TX1) (N := 8) hx hb hts (by decide +kernel) hown hK hP 0 rfl rfl 5 (by decide) (hts (.fieldLink RX1 34 "TriangleRaster" "reached" "[Z") (by decide +kernel)) (fun _ h9 => h9) rfl dX1_reach_49 ?_
          refine lv_iload hx hb dX1_reach_52 (lv_at hl 0 rfl) ?_
          refine lv_iconst (v := 1) hx hb dX1_reach_54 (by decide) ?_
          refine va_zast hx hb hK hP hD hS 2 1 rfl rfl hi9 dX1_reach_55 (fun H locs hP hD hS => ?_)
          have hP : va_P (dC, dI) vwCl [(ad 0, .inr (1, [.int (nI w), .int (nI h), .ref (ad 1), .ref (ad 2), .ref (ad 3), .ref (ad 4), .ref (ad 5), .int (nI k)])), (ad 1, .inl (tc 1, (w * h), .inl col)), (ad 4, .inl (tc 4, (w * h), .inl (upd rea r3.toNatClampNeg 1))), (ad 5, .inl (tc 5, (w * h), .inl que))] H := hP
          have hD : va_D A [(ad 0, .inr (1, [.int (nI w), .int (nI h), .ref (ad 1), .ref (ad 2), .ref (ad 3), .ref (ad 4), .ref (ad 5), .int (nI k)])), (ad 1, .inl (tc 1, (w * h), .inl col)), (ad 4, .inl (tc 4, (w * h), .inl (upd rea r3.toNatClampNeg 1))), (ad 5, .inl (tc 5, (w * h), .inl que))] := hD
          refine lv_aload_n hx hb dX1_reach_56 rfl (lv_at hl 1 rfl) ?_
          refine va_get (D := (dC, dI)) (ci := 1) (v := .ref (ad 5)) (C := RX1) (T := TX1) (N := 8) hx hb hts (by decide +kernel) hown hK hP 0 rfl rfl 6 (by decide) (hts (.fieldLink RX1 38 "TriangleRaster" "queue" "[I") (by decide +kernel)) (fun _ h9 => h9) rfl dX1_reach_57 ?_
          refine lv_aload_n hx hb dX1_reach_60 rfl (lv_at hl 1 rfl) ?_
          refine va_get (D := (dC, dI)) (ci := 1) (v := .int (nI k)) (C := RX1) (T := TX1) (N := 8) hx hb hts (by decide +kernel) hown hK hP 0 rfl rfl 7 (by decide) (hts (.fieldLink RX1 41 "TriangleRaster" "queued" "I") (by decide +kernel)) (fun _ h9 => h9) rfl dX1_reach_61 ?_
          refine lv_iload hx hb dX1_reach_64 (lv_at hl 0 rfl) ?_
          refine va_iast hx hb hK hP hD hS 3 2 rfl rfl (vp_in_nI hk9 (by omega)) dX1_reach_66 (fun H locs hP hD hS => ?_)
          have hP : va_P (dC, dI) vwCl [(ad 0, .inr (1, [.int (nI w), .int (nI h), .ref (ad 1), .ref (ad 2), .ref (ad 3), .ref (ad 4), .ref (ad 5), .int (nI k)])), (ad 1, .inl (tc 1, (w * h), .inl col)), (ad 4, .inl (tc 4, (w * h), .inl (upd rea r3.toNatClampNeg 1))), (ad 5, .inl (tc 5, (w * h), .inl (upd que (nI k).toNatClampNeg r3)))] H := hP
          have hD : va_D A [(ad 0, .inr (1, [.int (nI w), .int (nI h), .ref (ad 1), .ref (ad 2), .ref (ad 3), .ref (ad 4), .ref (ad 5), .int (nI k)])), (ad 1, .inl (tc 1, (w * h), .inl col)), (ad 4, .inl (tc 4, (w * h), .inl (upd rea r3.toNatClampNeg 1))), (ad 5, .inl (tc 5, (w * h), .inl (upd que (nI k).toNatClampNeg r3)))] := hD
          refine lv_aload_n hx hb dX1_reach_67 rfl (lv_at hl 1 rfl) ?_
          refine lv_dup hx hb dX1_reach_68 rfl ?_
          refine va_get (D := (dC, dI)) (ci := 1) (v := .int (nI k)) (C := RX1) (T := TX1) (N := 8) hx hb hts (by decide +kernel) hown hK hP 0 rfl rfl 7 (by decide) (hts (.fieldLink RX1 41 "TriangleRaster" "queued" "I") (by decide +kernel)) (fun _ h9 => h9) rfl dX1_reach_69 ?_
          refine lv_iconst (v := 1) hx hb dX1_reach_72 (by decide) ?_
          refine lv_iadd hx hb dX1_reach_73 ?_
          refine lv_topi (fun zz ezz => ?_)
          obtain rfl : zz = nI (k + 1) := ezz.trans (nI_1 k)
          refine va_put (D := (dC, dI)) (ci := 1) (v := .int (nI (k + 1))) (ty := .int) (C := RX1) (T := TX1) (N := 8) hx hb hts (by decide +kernel) tyX1 tyX1_ok nmX1 hown hK hP hD hS 0 rfl rfl 7 (by decide) (hts (.fieldLink RX1 41 "TriangleRaster" "queued" "I") (by decide +kernel)) (fun _ h9 => h9) rfl (by decide +kernel) rfl rfl (Nat.le_of_ble_eq_true rfl) dX1_reach_74 (fun H locs hP hD hS => ?_)
          have hP : va_P (dC, dI) vwCl [(ad 0, .inr (1, [.int (nI w), .int (nI h), .ref (ad 1), .ref (ad 2), .ref (ad 3), .ref (ad 4), .ref (ad 5), .int (nI (k + 1))])), (ad 1, .inl (tc 1, (w * h), .inl col)), (ad 4, .inl (tc 4, (w * h), .inl (upd rea r3.toNatClampNeg 1))), (ad 5, .inl (tc 5, (w * h), .inl (upd que (nI k).toNatClampNeg r3)))] H := hP
          have hD : va_D A [(ad 0, .inr (1, [.int (nI w), .int (nI h), .ref (ad 1), .ref (ad 2), .ref (ad 3), .ref (ad 4), .ref (ad 5), .int (nI (k + 1))])), (ad 1, .inl (tc 1, (w * h), .inl col)), (ad 4, .inl (tc 4, (w * h), .inl (upd rea r3.toNatClampNeg 1))), (ad 5, .inl (tc 5, (w * h), .inl (upd que (nI k).toNatClampNeg r3)))] := hD
          have hP9 := hP.sub (ws' := [(ad 0, .inr (1, [.int (nI w), .int (nI h), .ref (ad 1), .ref (ad 2), .ref (ad 3), .ref (ad 4), .ref (ad 5), .int (nI (k + 1))])), (ad 1, .inl (tc 1, (w * h), .inl col)), (ad 4, .inl (tc 4, (w * h), .inl (upd rea r3.toNatClampNeg 1))), (ad 5, .inl (tc 5, (w * h), .inl (upd que (nI k).toNatClampNeg r3)))]) [0, 1, 2, 3] rfl
          have hD9 := hD.sub (ws' := [(ad 0, .inr (1, [.int (nI w), .int (nI h), .ref (ad 1), .ref (ad 2), .ref (ad 3), .ref (ad 4), .ref (ad 5), .int (nI (k + 1))])), (ad 1, .inl (tc 1, (w * h), .inl col)), (ad 4, .inl (tc 4, (w * h), .inl (upd rea r3.toNatClampNeg 1))), (ad 5, .inl (tc 5, (w * h), .inl (upd que (nI k).toNatClampNeg r3)))]) [0, 1, 2, 3] (by decide) rfl
          exact W.vret hx hb hr (fun t ht hW => ⟨⟨(upd rea r3.toNatClampNeg 1, upd que (nI k).toNatClampNeg r3, k + 1), rfl, Or.inl ⟨⟨hc9.1, ev20.symm.trans c21, ev30.symm.trans c32, hk9⟩, by rw [hcl9, nI_clamp (by omega), hc9.2]⟩, by rw [ht]; exact hP9, va_K.moved hW.alike hK, hD9⟩, hS.F ht⟩) hS.2.2 dX1_reach_77
        · have hP9 := hP.sub (ws' := [(ad 0, .inr (1, [.int (nI w), .int (nI h), .ref (ad 1), .ref (ad 2), .ref (ad 3), .ref (ad 4), .ref (ad 5), .int (nI k)])), (ad 1, .inl (tc 1, (w * h), .inl col)), (ad 4, .inl (tc 4, (w * h), .inl rea)), (ad 5, .inl (tc 5, (w * h), .inl que))]) [0, 1, 2, 3] rfl
          have hD9 := hD.sub (ws' := [(ad 0, .inr (1, [.int (nI w), .int (nI h), .ref (ad 1), .ref (ad 2), .ref (ad 3), .ref (ad 4), .ref (ad 5), .int (nI k)])), (ad 1, .inl (tc 1, (w * h), .inl col)), (ad 4, .inl (tc 4, (w * h), .inl rea)), (ad 5, .inl (tc 5, (w * h), .inl que))]) [0, 1, 2, 3] (by decide) rfl
          exact W.vret hx hb hr (fun t ht hW => ⟨⟨(rea, que, k), rfl, Or.inr ⟨fun h => c44 (nI_lt h.2.2.2 (by omega)), rfl⟩, by rw [ht]; exact hP9, va_K.moved hW.alike hK, hD9⟩, hS.F ht⟩) hS.2.2 dX1_reach_47

