set_option maxHeartbeats 1000000 in
set_option maxRecDepth 100000 in
/-- line -/
theorem c_X2_line (l : Launch) (dC : Nat → ClassId) (dI : Nat → Nat → Nat) (sz : Nat) (am : Nat → Nat) (tm : Nat → ClassId) (w h : Nat) (mc : Nat → Int32) (hw1 : 1 ≤ w) (hw2 : w ≤ 24) (hh1 : 1 ≤ h) (hh2 : h ≤ 24) (x0 y0 x1 y1 c : Int32) : Met l yX2_line wsX2_line ({ frames := 1, cells := 0, slots := 0, locals := 22 }) (mP (dC, dI) vwCl [(tm 1, .int)] [(am 0, .inr (2, [.int (nI w), .int (nI h), .ref (am 1), .ref (am 2), .ref (am 3), .ref (am 4), .ref (am 5), .ref (am 6)])), (am 1, .inl (tm 1, 576, .inl mc))] sz [.ref (am 0), .int x0, .int y0, .int x1, .int y1, .int c]) (va_Qi (fun (r : Int32) (u : Nat → Int32) => (¬ LOK x0 y0 x1 y1 ∧ r = -1 ∧ u = mc) ∨ (LOK x0 y0 x1 y1 ∧ WIDE x0 y0 x1 y1 ∧ r = nI (cnt (HIT x0.toInt x1.toInt y0.toInt y1.toInt h) w) ∧ LFin (w * h) (QW w x0 y0 x1 y1) (ab w mc) c (ab w u)) ∨ (LOK x0 y0 x1 y1 ∧ ¬ WIDE x0 y0 x1 y1 ∧ r = nI (cnt (HIT y0.toInt y1.toInt x0.toInt x1.toInt w) h) ∧ LFin (w * h) (QT w x0 y0 x1 y1) (ab w mc) c (ab w u))) (mB (dC, dI) vwCl [(tm 1, .int)] (va_A [(am 0, .inr (2, [.int (nI w), .int (nI h), .ref (am 1), .ref (am 2), .ref (am 3), .ref (am 4), .ref (am 5), .ref (am 6)])), (am 1, .inl (tm 1, 576, .inl mc))] sz) (fun u => [(am 0, .inr (2, [.int (nI w), .int (nI h), .ref (am 1), .ref (am 2), .ref (am 3), .ref (am 4), .ref (am 5), .ref (am 6)])), (am 1, .inl (tm 1, 576, .inl u))])) (va_A [(am 0, .inr (2, [.int (nI w), .int (nI h), .ref (am 1), .ref (am 2), .ref (am 3), .ref (am 4), .ref (am 5), .ref (am 6)])), (am 1, .inl (tm 1, 576, .inl mc))] sz)) 0 0 (va_A [(am 0, .inr (2, [.int (nI w), .int (nI h), .ref (am 1), .ref (am 2), .ref (am 3), .ref (am 4), .ref (am 5), .ref (am 6)])), (am 1, .inl (tm 1, 576, .inl mc))] sz) := by
  refine Met.ofW (cc := cX2_line) (maxL := 16) (ret := (some .int)) (by decide) rfl ?_
  intro p e s m args below meth cD s₁ B hml hv
  obtain ⟨rfl, hsz, hP, hK, hD0, hN⟩ := hv
  have hx := B.exec
  have hb := B.bytes
  have hr := B.returns
  have hts := atoms_spec (ws := wsX2_line) B.pre
  have hown : s.vm.findClass RX2 = some m.cls := findClass_of_methodNamed B.named
  have hlocks := B.notSynchronized
  subst hsz
  have hD := hD0.self (sz := s.heap.size)
  generalize hAe : va_A [(am 0, .inr (2, [.int (nI w), .int (nI h), .ref (am 1), .ref (am 2), .ref (am 3), .ref (am 4), .ref (am 5), .ref (am 6)])), (am 1, .inl (tm 1, 576, .inl mc))] s.heap.size = A at hD ⊢
  have hA : ∀ q : Nat, s.heap.size ≤ q → A q := fun q h => by rw [← hAe]; exact Or.inr h
  have hS : va_S A s.heap s.heap [] := va_S.rf
  have hP : va_P (dC, dI) vwCl [(am 0, .inr (2, [.int (nI w), .int (nI h), .ref (am 1), .ref (am 2), .ref (am 3), .ref (am 4), .ref (am 5), .ref (am 6)])), (am 1, .inl (tm 1, 576, .inl mc))] s.heap := hP
  have hl := lv_entry ([.ref (am 0), .int x0, .int y0, .int x1, .int y1, .int c]) (n := 16) (Nat.le_of_ble_eq_true rfl)
  rw [lg_entry_eq]
  generalize (lg_sl ([.ref (am 0), .int x0, .int y0, .int x1, .int y1, .int c]) ++ List.replicate (16 - (lg_sl ([.ref (am 0), .int x0, .int y0, .int x1, .int y1, .int c])).length) Slot.unset).toArray = ls at hl ⊢
  have hl : lv_has ls 16 [(0, .ref (am 0)), (1, .int x0), (2, .int y0), (3, .int x1), (4, .int y1), (5, .int c)] := hl
  have hwh := wh_le hw2 hh2
  refine lv_iload_n hx hb dX2_line_0 rfl (lv_at hl 1 rfl) ?_
  refine m_calli (cs := []) (wr := [(am 0, .inr (2, [.int (nI w), .int (nI h), .ref (am 1), .ref (am 2), .ref (am 3), .ref (am 4), .ref (am 5), .ref (am 6)])), (am 1, .inl (tm 1, 576, .inl mc))]) hP hD hS hA [] [0, 1] rfl rfl (by decide) (by decide) (va_runS (As := [.int x0]) (rest := []) ⟨hx, hb, hml, hown, hts⟩ (c_X2_isFar l dC dI _ x0) (va_cwS 1 hts gX2_line_X2_isFar rfl rfl rfl (by decide +kernel) ⟨Nat.le_of_ble_eq_true rfl, Nat.le_of_ble_eq_true rfl⟩) (m_preS (hP.sub [] rfl) (hK.sub [] rfl) (hD.sub [] (by decide) rfl) hN) rfl rfl hl.1 rfl (lv_room (Nat.le_of_ble_eq_true rfl)) dX2_line_1 ⟨Nat.le_of_ble_eq_true rfl, Nat.le_of_ble_eq_true rfl⟩) (fun r1 _ H locs q1 hK2 hP hD hS => ?_)
  have hP : va_P (dC, dI) vwCl [(am 0, .inr (2, [.int (nI w), .int (nI h), .ref (am 1), .ref (am 2), .ref (am 3), .ref (am 4), .ref (am 5), .ref (am 6)])), (am 1, .inl (tm 1, 576, .inl mc))] H := hP.sub [0, 1] rfl
  have hD : va_D A [(am 0, .inr (2, [.int (nI w), .int (nI h), .ref (am 1), .ref (am 2), .ref (am 3), .ref (am 4), .ref (am 5), .ref (am 6)])), (am 1, .inl (tm 1, 576, .inl mc))] := hD.sub [0, 1] (by decide) rfl
  refine lv_if_ne (tgt := 29) hx hb dX2_line_4 (by decide) (fun c4 => ?_) (fun c4 => ?_)
  · refine lv_iconst (v := (-1)) hx hb dX2_line_29 (by decide) ?_
    have hP9 := hP.sub (ws' := [(am 0, .inr (2, [.int (nI w), .int (nI h), .ref (am 1), .ref (am 2), .ref (am 3), .ref (am 4), .ref (am 5), .ref (am 6)])), (am 1, .inl (tm 1, 576, .inl mc))]) [0, 1] rfl
    have hD9 := hD.sub (ws' := [(am 0, .inr (2, [.int (nI w), .int (nI h), .ref (am 1), .ref (am 2), .ref (am 3), .ref (am 4), .ref (am 5), .ref (am 6)])), (am 1, .inl (tm 1, 576, .inl mc))]) [0, 1] (by decide) rfl
    exact W.iret (v := (-1)) hx hb hr (fun t ht hW => ⟨⟨(-1), mc, rfl, Or.inl ⟨fun h => c4 ((b10 q1).mpr h.1), rfl, rfl⟩, by rw [ht]; exact hP9, va_K.moved hW.alike hK, hD9⟩, hS.F ht⟩) hS.2.2 dX2_line_30
  · refine lv_iload_n hx hb dX2_line_7 rfl (lv_at hl 2 rfl) ?_
    refine m_calli (cs := []) (wr := [(am 0, .inr (2, [.int (nI w), .int (nI h), .ref (am 1), .ref (am 2), .ref (am 3), .ref (am 4), .ref (am 5), .ref (am 6)])), (am 1, .inl (tm 1, 576, .inl mc))]) hP hD hS hA [] [0, 1] rfl rfl (by decide) (by decide) (va_runS (As := [.int y0]) (rest := []) ⟨hx, hb, hml, hown, hts⟩ (c_X2_isFar l dC dI _ y0) (va_cwS 1 hts gX2_line_X2_isFar rfl rfl rfl (by decide +kernel) ⟨Nat.le_of_ble_eq_true rfl, Nat.le_of_ble_eq_true rfl⟩) (m_preS (hP.sub [] rfl) (hK.sub [] rfl) (hD.sub [] (by decide) rfl) hN) rfl rfl hl.1 rfl (lv_room (Nat.le_of_ble_eq_true rfl)) dX2_line_8 ⟨Nat.le_of_ble_eq_true rfl, Nat.le_of_ble_eq_true rfl⟩) (fun r8 _ H locs q8 hK2 hP hD hS => ?_)
    have hP : va_P (dC, dI) vwCl [(am 0, .inr (2, [.int (nI w), .int (nI h), .ref (am 1), .ref (am 2), .ref (am 3), .ref (am 4), .ref (am 5), .ref (am 6)])), (am 1, .inl (tm 1, 576, .inl mc))] H := hP.sub [0, 1] rfl
    have hD : va_D A [(am 0, .inr (2, [.int (nI w), .int (nI h), .ref (am 1), .ref (am 2), .ref (am 3), .ref (am 4), .ref (am 5), .ref (am 6)])), (am 1, .inl (tm 1, 576, .inl mc))] := hD.sub [0, 1] (by decide) rfl
    refine lv_if_ne (tgt := 29) hx hb dX2_line_11 (by decide) (fun c11 => ?_) (fun c11 => ?_)
    · refine lv_iconst (v := (-1)) hx hb dX2_line_29 (by decide) ?_
      have hP9 := hP.sub (ws' := [(am 0, .inr (2, [.int (nI w), .int (nI h), .ref (am 1), .ref (am 2), .ref (am 3), .ref (am 4), .ref (am 5), .ref (am 6)])), (am 1, .inl (tm 1, 576, .inl mc))]) [0, 1] rfl
      have hD9 := hD.sub (ws' := [(am 0, .inr (2, [.int (nI w), .int (nI h), .ref (am 1), .ref (am 2), .ref (am 3), .ref (am 4), .ref (am 5), .ref (am 6)])), (am 1, .inl (tm 1, 576, .inl mc))]) [0, 1] (by decide) rfl
      exact W.iret (v := (-1)) hx hb hr (fun t ht hW => ⟨⟨(-1), mc, rfl, Or.inl ⟨fun h => c11 ((b10 q8).mpr h.2.1), rfl, rfl⟩, by rw [ht]; exact hP9, va_K.moved hW.alike hK, hD9⟩, hS.F ht⟩) hS.2.2 dX2_line_30
    · refine lv_iload_n hx hb dX2_line_14 rfl (lv_at hl 3 rfl) ?_
      refine m_calli (cs := []) (wr := [(am 0, .inr (2, [.int (nI w), .int (nI h), .ref (am 1), .ref (am 2), .ref (am 3), .ref (am 4), .ref (am 5), .ref (am 6)])), (am 1, .inl (tm 1, 576, .inl mc))]) hP hD hS hA [] [0, 1] rfl rfl (by decide) (by decide) (va_runS (As := [.int x1]) (rest := []) ⟨hx, hb, hml, hown, hts⟩ (c_X2_isFar l dC dI _ x1) (va_cwS 1 hts gX2_line_X2_isFar rfl rfl rfl (by decide +kernel) ⟨Nat.le_of_ble_eq_true rfl, Nat.le_of_ble_eq_true rfl⟩) (m_preS (hP.sub [] rfl) (hK.sub [] rfl) (hD.sub [] (by decide) rfl) hN) rfl rfl hl.1 rfl (lv_room (Nat.le_of_ble_eq_true rfl)) dX2_line_15 ⟨Nat.le_of_ble_eq_true rfl, Nat.le_of_ble_eq_true rfl⟩) (fun r15 _ H locs q15 hK2 hP hD hS => ?_)
      have hP : va_P (dC, dI) vwCl [(am 0, .inr (2, [.int (nI w), .int (nI h), .ref (am 1), .ref (am 2), .ref (am 3), .ref (am 4), .ref (am 5), .ref (am 6)])), (am 1, .inl (tm 1, 576, .inl mc))] H := hP.sub [0, 1] rfl
      have hD : va_D A [(am 0, .inr (2, [.int (nI w), .int (nI h), .ref (am 1), .ref (am 2), .ref (am 3), .ref (am 4), .ref (am 5), .ref (am 6)])), (am 1, .inl (tm 1, 576, .inl mc))] := hD.sub [0, 1] (by decide) rfl
      refine lv_if_ne (tgt := 29) hx hb dX2_line_18 (by decide) (fun c18 => ?_) (fun c18 => ?_)
      · refine lv_iconst (v := (-1)) hx hb dX2_line_29 (by decide) ?_
        have hP9 := hP.sub (ws' := [(am 0, .inr (2, [.int (nI w), .int (nI h), .ref (am 1), .ref (am 2), .ref (am 3), .ref (am 4), .ref (am 5), .ref (am 6)])), (am 1, .inl (tm 1, 576, .inl mc))]) [0, 1] rfl
        have hD9 := hD.sub (ws' := [(am 0, .inr (2, [.int (nI w), .int (nI h), .ref (am 1), .ref (am 2), .ref (am 3), .ref (am 4), .ref (am 5), .ref (am 6)])), (am 1, .inl (tm 1, 576, .inl mc))]) [0, 1] (by decide) rfl
        exact W.iret (v := (-1)) hx hb hr (fun t ht hW => ⟨⟨(-1), mc, rfl, Or.inl ⟨fun h => c18 ((b10 q15).mpr h.2.2.1), rfl, rfl⟩, by rw [ht]; exact hP9, va_K.moved hW.alike hK, hD9⟩, hS.F ht⟩) hS.2.2 dX2_line_30
      · refine lv_iload hx hb dX2_line_21 (lv_at hl 4 rfl) ?_
        refine m_calli (cs := []) (wr := [(am 0, .inr (2, [.int (nI w), .int (nI h), .ref (am 1), .ref (am 2), .ref (am 3), .ref (am 4), .ref (am 5), .ref (am 6)])), (am 1, .inl (tm 1, 576, .inl mc))]) hP hD hS hA [] [0, 1] rfl rfl (by decide) (by decide) (va_runS (As := [.int y1]) (rest := []) ⟨hx, hb, hml, hown, hts⟩ (c_X2_isFar l dC dI _ y1) (va_cwS 1 hts gX2_line_X2_isFar rfl rfl rfl (by decide +kernel) ⟨Nat.le_of_ble_eq_true rfl, Nat.le_of_ble_eq_true rfl⟩) (m_preS (hP.sub [] rfl) (hK.sub [] rfl) (hD.sub [] (by decide) rfl) hN) rfl rfl hl.1 rfl (lv_room (Nat.le_of_ble_eq_true rfl)) dX2_line_23 ⟨Nat.le_of_ble_eq_true rfl, Nat.le_of_ble_eq_true rfl⟩) (fun r23 _ H locs q23 hK2 hP hD hS => ?_)
        have hP : va_P (dC, dI) vwCl [(am 0, .inr (2, [.int (nI w), .int (nI h), .ref (am 1), .ref (am 2), .ref (am 3), .ref (am 4), .ref (am 5), .ref (am 6)])), (am 1, .inl (tm 1, 576, .inl mc))] H := hP.sub [0, 1] rfl
        have hD : va_D A [(am 0, .inr (2, [.int (nI w), .int (nI h), .ref (am 1), .ref (am 2), .ref (am 3), .ref (am 4), .ref (am 5), .ref (am 6)])), (am 1, .inl (tm 1, 576, .inl mc))] := hD.sub [0, 1] (by decide) rfl
        refine lv_if_eq (tgt := 31) hx hb dX2_line_26 (by decide) (fun c26 => ?_) (fun c26 => ?_)
        · have i1 := (b10 q1).mp c4
          have i8 := (b10 q8).mp c11
          have i15 := (b10 q15).mp c18
          have i23 := (b10 q23).mp c26
          have hOK : LOK x0 y0 x1 y1 := ⟨i1, i8, i15, i23⟩
          have n0 : x0.toInt.natAbs ≤ 16384 := by omega
          have n1 : y0.toInt.natAbs ≤ 16384 := by omega
          have n2 : x1.toInt.natAbs ≤ 16384 := by omega
          have n3 : y1.toInt.natAbs ≤ 16384 := by omega
          have hNX := lnN_b n0 n2
          have hNY := lnN_b n1 n3
          have j66 : ∀ (ls : Array Slot), lv_has ls 16 [(0, .ref (am 0)), (1, .int x0), (2, .int y0), (3, .int x1), (4, .int y1), (5, .int c), (6, .int (nI (lnN x0.toInt x1.toInt))), (7, .int (nI (lnN y0.toInt y1.toInt)))] → W p l e (headSpec wsX2_line { frames := 1, cells := 0, slots := 0, locals := 22 }).room s m [.ref (am 0), .int x0, .int y0, .int x1, .int y1, .int c].toArray below meth cD H locs 0 0 (MQ below (va_Qi (fun (r : Int32) (u : Nat → Int32) => (¬ LOK x0 y0 x1 y1 ∧ r = -1 ∧ u = mc) ∨ (LOK x0 y0 x1 y1 ∧ WIDE x0 y0 x1 y1 ∧ r = nI (cnt (HIT x0.toInt x1.toInt y0.toInt y1.toInt h) w) ∧ LFin (w * h) (QW w x0 y0 x1 y1) (ab w mc) c (ab w u)) ∨ (LOK x0 y0 x1 y1 ∧ ¬ WIDE x0 y0 x1 y1 ∧ r = nI (cnt (HIT y0.toInt y1.toInt x0.toInt x1.toInt w) h) ∧ LFin (w * h) (QT w x0 y0 x1 y1) (ab w mc) c (ab w u))) (mB (dC, dI) vwCl [(tm 1, .int)] A (fun u => [(am 0, .inr (2, [.int (nI w), .int (nI h), .ref (am 1), .ref (am 2), .ref (am 3), .ref (am 4), .ref (am 5), .ref (am 6)])), (am 1, .inl (tm 1, 576, .inl u))])) A) [.ref (am 0), .int x0, .int y0, .int x1, .int y1, .int c].toArray s 0 0 A) (F0 m 66 ls []) := by
            intro  ls  hl
            refine lv_iload hx hb dX2_line_66 (lv_at hl 6 rfl) ?_
            refine lv_iload hx hb dX2_line_68 (lv_at hl 7 rfl) ?_
            refine lv_icmp_lt (tgt := 77) hx hb dX2_line_70 (by decide) (fun c70 => ?_) (fun c70 => ?_)
            · have hWi : ¬ WIDE x0 y0 x1 y1 := by unfold WIDE; rw [nI_ltI (by omega) (by omega)] at c70; omega
              refine lv_iconst (v := 0) hx hb dX2_line_77 (by decide) ?_
              refine lv_istore (lv' := [(8, .int 0), (0, .ref (am 0)), (1, .int x0), (2, .int y0), (3, .int x1), (4, .int y1), (5, .int c), (6, .int (nI (lnN x0.toInt x1.toInt))), (7, .int (nI (lnN y0.toInt y1.toInt)))]) hx hb dX2_line_78 hl (by decide) rfl (fun ls hl => ?_)
              refine lv_iload hx hb dX2_line_80 (lv_at hl 0 rfl) ?_
              refine lv_if_eq (tgt := 90) hx hb dX2_line_82 (by decide) (fun c82 => ?_) (fun c82 => ?_)
              · refine lv_iload hx hb dX2_line_90 (lv_at hl 8 rfl) ?_
                refine lv_istore (lv' := [(9, .int (nI (lnN y0.toInt y1.toInt))), (8, .int 0), (0, .ref (am 0)), (1, .int x0), (2, .int y0), (3, .int x1), (4, .int y1), (5, .int c), (6, .int (nI (lnN x0.toInt x1.toInt))), (7, .int (nI (lnN y0.toInt y1.toInt)))]) hx hb dX2_line_92 hl (by decide) rfl (fun ls hl => ?_)
                refine lv_iload hx hb dX2_line_94 (lv_at hl 1 rfl) ?_
                refine lv_if_eq (tgt := 104) hx hb dX2_line_96 (by decide) (fun c96 => ?_) (fun c96 => ?_)
                · refine lv_iload hx hb dX2_line_104 (lv_at hl 8 rfl) ?_
                  refine lv_istore (lv' := [(10, .int (nI (lnN x0.toInt x1.toInt))), (9, .int (nI (lnN y0.toInt y1.toInt))), (8, .int 0), (0, .ref (am 0)), (1, .int x0), (2, .int y0), (3, .int x1), (4, .int y1), (5, .int c), (6, .int (nI (lnN x0.toInt x1.toInt))), (7, .int (nI (lnN y0.toInt y1.toInt)))]) hx hb dX2_line_106 hl (by decide) rfl (fun ls hl => ?_)
                  refine lv_iconst (v := 0) hx hb dX2_line_108 (by decide) ?_
                  refine lv_topi (fun zz ezz => ?_)
                  obtain rfl : zz = nI 0 := ezz.trans (nI_0.symm)
                  refine lv_istore (lv' := [(11, .int (nI 0)), (10, .int (nI (lnN x0.toInt x1.toInt))), (9, .int (nI (lnN y0.toInt y1.toInt))), (8, .int 0), (0, .ref (am 0)), (1, .int x0), (2, .int y0), (3, .int x1), (4, .int y1), (5, .int c), (6, .int (nI (lnN x0.toInt x1.toInt))), (7, .int (nI (lnN y0.toInt y1.toInt)))]) hx hb dX2_line_109 hl (by decide) rfl (fun ls hl => ?_)
                  refine lv_iconst (v := 0) hx hb dX2_line_111 (by decide) ?_
                  refine lv_topi (fun zz ezz => ?_)
                  obtain rfl : zz = nI 0 := ezz.trans (nI_0.symm)
                  refine lv_istore (lv' := [(12, .int (nI 0)), (11, .int (nI 0)), (10, .int (nI (lnN x0.toInt x1.toInt))), (9, .int (nI (lnN y0.toInt y1.toInt))), (8, .int 0), (0, .ref (am 0)), (1, .int x0), (2, .int y0), (3, .int x1), (4, .int y1), (5, .int c), (6, .int (nI (lnN x0.toInt x1.toInt))), (7, .int (nI (lnN y0.toInt y1.toInt)))]) hx hb dX2_line_112 hl (by decide) rfl (fun ls hl => ?_)
                  have loop : ∀ (n : Nat) (k : Nat) (cn : Nat) (g : Nat → Int32), k ≤ lnN y0.toInt y1.toInt + 1 → cn = cnt (CW y0.toInt y1.toInt x0.toInt x1.toInt h w) k → PIn (w * h) (ST w x0 y0 x1 y1) (ab w mc) c k (ab w g) → lnN y0.toInt y1.toInt + 2 ≤ k + n → ∀ (H : Heap) (locs : List Loc), va_P (dC, dI) vwCl [(am 0, .inr (2, [.int (nI w), .int (nI h), .ref (am 1), .ref (am 2), .ref (am 3), .ref (am 4), .ref (am 5), .ref (am 6)])), (am 1, .inl (tm 1, 576, .inl g))] H → va_D A [(am 0, .inr (2, [.int (nI w), .int (nI h), .ref (am 1), .ref (am 2), .ref (am 3), .ref (am 4), .ref (am 5), .ref (am 6)])), (am 1, .inl (tm 1, 576, .inl g))] → va_S A s.heap H locs → ∀ (ls : Array Slot), lv_has ls 16 [(0, .ref (am 0)), (1, .int x0), (2, .int y0), (3, .int x1), (4, .int y1), (5, .int c), (6, .int (nI (lnN x0.toInt x1.toInt))), (7, .int (nI (lnN y0.toInt y1.toInt))), (8, .int 0), (9, .int (nI (lnN y0.toInt y1.toInt))), (10, .int (nI (lnN x0.toInt x1.toInt))), (11, .int (nI cn)), (12, .int (nI k))] → W p l e (headSpec wsX2_line { frames := 1, cells := 0, slots := 0, locals := 22 }).room s m [.ref (am 0), .int x0, .int y0, .int x1, .int y1, .int c].toArray below meth cD H locs 0 0 (MQ below (va_Qi (fun (r : Int32) (u : Nat → Int32) => (¬ LOK x0 y0 x1 y1 ∧ r = -1 ∧ u = mc) ∨ (LOK x0 y0 x1 y1 ∧ WIDE x0 y0 x1 y1 ∧ r = nI (cnt (HIT x0.toInt x1.toInt y0.toInt y1.toInt h) w) ∧ LFin (w * h) (QW w x0 y0 x1 y1) (ab w mc) c (ab w u)) ∨ (LOK x0 y0 x1 y1 ∧ ¬ WIDE x0 y0 x1 y1 ∧ r = nI (cnt (HIT y0.toInt y1.toInt x0.toInt x1.toInt w) h) ∧ LFin (w * h) (QT w x0 y0 x1 y1) (ab w mc) c (ab w u))) (mB (dC, dI) vwCl [(tm 1, .int)] A (fun u => [(am 0, .inr (2, [.int (nI w), .int (nI h), .ref (am 1), .ref (am 2), .ref (am 3), .ref (am 4), .ref (am 5), .ref (am 6)])), (am 1, .inl (tm 1, 576, .inl u))])) A) [.ref (am 0), .int x0, .int y0, .int x1, .int y1, .int c].toArray s 0 0 A) (F0 m 114 ls []) := by
                    intro n
                    induction n with
                    | zero => intro k cn g hk hcn hI hm; exfalso; omega
                    | succ n ih =>
                      intro k cn g hk hcn hI hm H locs hP hD hS ls hl
                      refine lv_iload hx hb dX2_line_114 (lv_at hl 12 rfl) ?_
                      refine lv_iload hx hb dX2_line_116 (lv_at hl 9 rfl) ?_
                      refine lv_icmp_gt (tgt := 240) hx hb dX2_line_118 (by decide) (fun c118 => ?_) (fun c118 => ?_)
                      · refine lv_iload hx hb dX2_line_240 (lv_at hl 11 rfl) ?_
                        have hP9 := hP.sub (ws' := [(am 0, .inr (2, [.int (nI w), .int (nI h), .ref (am 1), .ref (am 2), .ref (am 3), .ref (am 4), .ref (am 5), .ref (am 6)])), (am 1, .inl (tm 1, 576, .inl g))]) [0, 1] rfl
                        have hD9 := hD.sub (ws' := [(am 0, .inr (2, [.int (nI w), .int (nI h), .ref (am 1), .ref (am 2), .ref (am 3), .ref (am 4), .ref (am 5), .ref (am 6)])), (am 1, .inl (tm 1, 576, .inl g))]) [0, 1] (by decide) rfl
                        exact W.iret (v := (nI cn)) hx hb hr (fun t ht hW => ⟨⟨nI cn, g, rfl, by have hke : k = lnN y0.toInt y1.toInt + 1 := (by rw [nI_ltI (by omega) (by omega)] at c118; omega); rw [hke] at hcn hI; exact Or.inr (Or.inr ⟨hOK, hWi, by rw [hcn, HIT_CW], PIn_fin hI (fun i _ => ST_fin i)⟩), by rw [ht]; exact hP9, va_K.moved hW.alike hK, hD9⟩, hS.F ht⟩) hS.2.2 dX2_line_242
                      · have hkN : k ≤ lnN y0.toInt y1.toInt := by rw [nI_ltI (by omega) (by omega)] at c118; omega
                        have hFb : 0 ≤ lnF (lnN y0.toInt y1.toInt : Nat) (lnN x0.toInt x1.toInt : Nat) k ∧ lnF (lnN y0.toInt y1.toInt : Nat) (lnN x0.toInt x1.toInt : Nat) k ≤ 32769 := by
                          rcases Nat.eq_zero_or_pos (lnN y0.toInt y1.toInt) with q | q
                          · rw [q]; rw [show ((0 : Nat) : Int) = 0 from rfl, lnF_0]; omega
                          · exact (lnF_b (by omega) (by omega) (by omega)).2
                        have j158 : ∀ (o : Int32) (ls : Array Slot), o.toInt = lnF (lnN y0.toInt y1.toInt : Nat) (lnN x0.toInt x1.toInt : Nat) k → lv_has ls 16 [(0, .ref (am 0)), (1, .int x0), (2, .int y0), (3, .int x1), (4, .int y1), (5, .int c), (6, .int (nI (lnN x0.toInt x1.toInt))), (7, .int (nI (lnN y0.toInt y1.toInt))), (8, .int 0), (9, .int (nI (lnN y0.toInt y1.toInt))), (10, .int (nI (lnN x0.toInt x1.toInt))), (11, .int (nI cn)), (12, .int (nI k)), (13, .int o)] → W p l e (headSpec wsX2_line { frames := 1, cells := 0, slots := 0, locals := 22 }).room s m [.ref (am 0), .int x0, .int y0, .int x1, .int y1, .int c].toArray below meth cD H locs 0 0 (MQ below (va_Qi (fun (r : Int32) (u : Nat → Int32) => (¬ LOK x0 y0 x1 y1 ∧ r = -1 ∧ u = mc) ∨ (LOK x0 y0 x1 y1 ∧ WIDE x0 y0 x1 y1 ∧ r = nI (cnt (HIT x0.toInt x1.toInt y0.toInt y1.toInt h) w) ∧ LFin (w * h) (QW w x0 y0 x1 y1) (ab w mc) c (ab w u)) ∨ (LOK x0 y0 x1 y1 ∧ ¬ WIDE x0 y0 x1 y1 ∧ r = nI (cnt (HIT y0.toInt y1.toInt x0.toInt x1.toInt w) h) ∧ LFin (w * h) (QT w x0 y0 x1 y1) (ab w mc) c (ab w u))) (mB (dC, dI) vwCl [(tm 1, .int)] A (fun u => [(am 0, .inr (2, [.int (nI w), .int (nI h), .ref (am 1), .ref (am 2), .ref (am 3), .ref (am 4), .ref (am 5), .ref (am 6)])), (am 1, .inl (tm 1, 576, .inl u))])) A) [.ref (am 0), .int x0, .int y0, .int x1, .int y1, .int c].toArray s 0 0 A) (F0 m 158 ls []) := by
                          intro o ls ho hl
                          refine lv_iload_n hx hb dX2_line_158 rfl (lv_at hl 1 rfl) ?_
                          refine lv_iload_n hx hb dX2_line_159 rfl (lv_at hl 3 rfl) ?_
                          refine lv_iload_n hx hb dX2_line_160 rfl (lv_at hl 1 rfl) ?_
                          refine lv_isub hx hb dX2_line_161 ?_
                          refine m_calli (cs := []) (wr := [(am 0, .inr (2, [.int (nI w), .int (nI h), .ref (am 1), .ref (am 2), .ref (am 3), .ref (am 4), .ref (am 5), .ref (am 6)])), (am 1, .inl (tm 1, 576, .inl g))]) hP hD hS hA [] [0, 1] rfl rfl (by decide) (by decide) (va_runS (As := [.int (x1 - x0)]) (rest := [.int x0]) ⟨hx, hb, hml, hown, hts⟩ (c_X2_sign l dC dI _ (x1 - x0)) (va_cwS 1 hts gX2_line_X2_sign rfl rfl rfl (by decide +kernel) ⟨Nat.le_of_ble_eq_true rfl, Nat.le_of_ble_eq_true rfl⟩) (m_preS (hP.sub [] rfl) (hK.sub [] rfl) (hD.sub [] (by decide) rfl) hN) rfl rfl hl.1 rfl (lv_room (Nat.le_of_ble_eq_true rfl)) dX2_line_162 ⟨Nat.le_of_ble_eq_true rfl, Nat.le_of_ble_eq_true rfl⟩) (fun r162 _ H locs q162 hK2 hP hD hS => ?_)
                          have hP : va_P (dC, dI) vwCl [(am 0, .inr (2, [.int (nI w), .int (nI h), .ref (am 1), .ref (am 2), .ref (am 3), .ref (am 4), .ref (am 5), .ref (am 6)])), (am 1, .inl (tm 1, 576, .inl g))] H := hP.sub [0, 1] rfl
                          have hD : va_D A [(am 0, .inr (2, [.int (nI w), .int (nI h), .ref (am 1), .ref (am 2), .ref (am 3), .ref (am 4), .ref (am 5), .ref (am 6)])), (am 1, .inl (tm 1, 576, .inl g))] := hD.sub [0, 1] (by decide) rfl
                          refine lv_iload hx hb dX2_line_165 (lv_at hl 8 rfl) ?_
                          refine lv_if_eq (tgt := 175) hx hb dX2_line_167 (by decide) (fun c167 => ?_) (fun c167 => ?_)
                          · refine lv_iload hx hb dX2_line_175 (lv_at hl 13 rfl) ?_
                            refine lv_imul hx hb dX2_line_177 ?_
                            refine lv_iadd hx hb dX2_line_178 ?_
                            refine lv_topi (fun v178 ev178 => ?_)
                            have eX : v178.toInt = lnY y0.toInt y1.toInt x0.toInt x1.toInt k := by rw [ev178, step_val n0 n2 q162 ho (by omega) (fun q => by rw [show lnN x0.toInt x1.toInt = 0 by unfold lnN; omega]; exact lnF_z (by omega))]; rfl
                            refine lv_istore (lv' := [(14, .int v178), (0, .ref (am 0)), (1, .int x0), (2, .int y0), (3, .int x1), (4, .int y1), (5, .int c), (6, .int (nI (lnN x0.toInt x1.toInt))), (7, .int (nI (lnN y0.toInt y1.toInt))), (8, .int 0), (9, .int (nI (lnN y0.toInt y1.toInt))), (10, .int (nI (lnN x0.toInt x1.toInt))), (11, .int (nI cn)), (12, .int (nI k)), (13, .int o)]) hx hb dX2_line_179 hl (by decide) rfl (fun ls hl => ?_)
                            refine lv_iload_n hx hb dX2_line_181 rfl (lv_at hl 3 rfl) ?_
                            refine lv_iload hx hb dX2_line_182 (lv_at hl 5 rfl) ?_
                            refine lv_iload_n hx hb dX2_line_184 rfl (lv_at hl 3 rfl) ?_
                            refine lv_isub hx hb dX2_line_185 ?_
                            refine m_calli (cs := []) (wr := [(am 0, .inr (2, [.int (nI w), .int (nI h), .ref (am 1), .ref (am 2), .ref (am 3), .ref (am 4), .ref (am 5), .ref (am 6)])), (am 1, .inl (tm 1, 576, .inl g))]) hP hD hS hA [] [0, 1] rfl rfl (by decide) (by decide) (va_runS (As := [.int (y1 - y0)]) (rest := [.int y0]) ⟨hx, hb, hml, hown, hts⟩ (c_X2_sign l dC dI _ (y1 - y0)) (va_cwS 1 hts gX2_line_X2_sign rfl rfl rfl (by decide +kernel) ⟨Nat.le_of_ble_eq_true rfl, Nat.le_of_ble_eq_true rfl⟩) (m_preS (hP.sub [] rfl) (hK.sub [] rfl) (hD.sub [] (by decide) rfl) hN) rfl rfl hl.1 rfl (lv_room (Nat.le_of_ble_eq_true rfl)) dX2_line_186 ⟨Nat.le_of_ble_eq_true rfl, Nat.le_of_ble_eq_true rfl⟩) (fun r186 _ H locs q186 hK2 hP hD hS => ?_)
                            have hP : va_P (dC, dI) vwCl [(am 0, .inr (2, [.int (nI w), .int (nI h), .ref (am 1), .ref (am 2), .ref (am 3), .ref (am 4), .ref (am 5), .ref (am 6)])), (am 1, .inl (tm 1, 576, .inl g))] H := hP.sub [0, 1] rfl
                            have hD : va_D A [(am 0, .inr (2, [.int (nI w), .int (nI h), .ref (am 1), .ref (am 2), .ref (am 3), .ref (am 4), .ref (am 5), .ref (am 6)])), (am 1, .inl (tm 1, 576, .inl g))] := hD.sub [0, 1] (by decide) rfl
                            refine lv_iload hx hb dX2_line_189 (lv_at hl 9 rfl) ?_
                            refine lv_if_eq (tgt := 199) hx hb dX2_line_191 (by decide) (fun c191 => ?_) (fun c191 => ?_)
                            · refine lv_iload hx hb dX2_line_199 (lv_at hl 13 rfl) ?_
                              refine lv_imul hx hb dX2_line_201 ?_
                              refine lv_iadd hx hb dX2_line_202 ?_
                              refine lv_topi (fun v202 ev202 => ?_)
                              have eY : v202.toInt = lnX y0.toInt y1.toInt k := by rw [ev202, step_val n1 n3 q186 (nI_toInt (by omega)) (by omega) (fun q => by have : lnN y0.toInt y1.toInt = 0 := (by unfold lnN; omega); omega)]; rfl
                              refine lv_istore (lv' := [(15, .int v202), (14, .int v178), (0, .ref (am 0)), (1, .int x0), (2, .int y0), (3, .int x1), (4, .int y1), (5, .int c), (6, .int (nI (lnN x0.toInt x1.toInt))), (7, .int (nI (lnN y0.toInt y1.toInt))), (8, .int 0), (9, .int (nI (lnN y0.toInt y1.toInt))), (10, .int (nI (lnN x0.toInt x1.toInt))), (11, .int (nI cn)), (12, .int (nI k)), (13, .int o)]) hx hb dX2_line_203 hl (by decide) rfl (fun ls hl => ?_)
                              refine lv_aload_n hx hb dX2_line_205 rfl (lv_at hl 2 rfl) ?_
                              refine lv_iload hx hb dX2_line_206 (lv_at hl 1 rfl) ?_
                              refine lv_iload hx hb dX2_line_208 (lv_at hl 0 rfl) ?_
                              refine m_calli (cs := [(am 0, .inr (2, [.int (nI w), .int (nI h), .ref (am 1), .ref (am 2), .ref (am 3), .ref (am 4), .ref (am 5), .ref (am 6)]))]) (wr := [(am 1, .inl (tm 1, 576, .inl g))]) hP hD hS hA [0] [1] rfl rfl (by decide) (by decide) (va_runV (As := [.int v178, .int v202]) (rest := []) ⟨hx, hb, hml, hown, hts⟩ (c_X2_isPixel l dC dI _ am w h hw1 hw2 hh1 hh2 v178 v202) (cwV 2 hts gX2_line_X2_isPixel rfl rfl rfl (by decide +kernel) ⟨Nat.le_of_ble_eq_true rfl, Nat.le_of_ble_eq_true rfl⟩) (m_preV (ci := 2) (q0 := 0) (hP.sub [0] rfl) (hK.sub [] rfl) (hD.sub [0] (by decide) rfl) hN rfl rfl) rfl rfl hl.1 rfl (lv_room (Nat.le_of_ble_eq_true rfl)) dX2_line_210 ⟨Nat.le_of_ble_eq_true rfl, Nat.le_of_ble_eq_true rfl⟩) (fun r210 _ H locs q210 hK2 hP hD hS => ?_)
                              have hP : va_P (dC, dI) vwCl [(am 0, .inr (2, [.int (nI w), .int (nI h), .ref (am 1), .ref (am 2), .ref (am 3), .ref (am 4), .ref (am 5), .ref (am 6)])), (am 1, .inl (tm 1, 576, .inl g))] H := hP.sub [1, 0] rfl
                              have hD : va_D A [(am 0, .inr (2, [.int (nI w), .int (nI h), .ref (am 1), .ref (am 2), .ref (am 3), .ref (am 4), .ref (am 5), .ref (am 6)])), (am 1, .inl (tm 1, 576, .inl g))] := hD.sub [1, 0] (by decide) rfl
                              have hQi : ∀ i, ST w x0 y0 x1 y1 k i ↔ v178.toInt = ((i % w : Nat) : Int) ∧ v202.toInt = ((i / w : Nat) : Int) := fun i => by rw [eX, eY]; exact Iff.rfl
                              refine lv_if_eq (tgt := 234) hx hb dX2_line_213 (by decide) (fun c213 => ?_) (fun c213 => ?_)
                              · have hout := (b01 q210).mp c213
                                have hQ := PQ_no hout hQi
                                have hcw : ¬ CW y0.toInt y1.toInt x0.toInt x1.toInt h w k := fun q => hout (by unfold inX; rw [eX, eY]; exact ⟨q.2, q.1⟩)
                                refine lv_iinc (v := nI (k + 1)) (lv' := [(12, .int (nI (k + 1))), (15, .int v202), (14, .int v178), (0, .ref (am 0)), (1, .int x0), (2, .int y0), (3, .int x1), (4, .int y1), (5, .int c), (6, .int (nI (lnN x0.toInt x1.toInt))), (7, .int (nI (lnN y0.toInt y1.toInt))), (8, .int 0), (9, .int (nI (lnN y0.toInt y1.toInt))), (10, .int (nI (lnN x0.toInt x1.toInt))), (11, .int (nI cn)), (13, .int o)]) hx hb dX2_line_234 hl (k := 14) rfl (nI_add _ 1) (by decide) rfl (fun ls hl => ?_)
                                refine lv_goto (tgt := 114) hx hb dX2_line_237 (by decide) ?_
                                exact ih (k + 1) cn g (by omega) (by rw [hcn, cnt_no hcw]) (PIn_no hI hQ) (by omega) _ _ (hP.sub [0, 1] rfl) (hD.sub [0, 1] (by decide) rfl) hS ls (lv_sub hl [3, 4, 5, 6, 7, 8, 9, 10, 11, 12, 13, 14, 0] rfl)
                              · have hin := Classical.byContradiction (fun h => c213 ((b01 q210).mpr h))
                                have hQ := PQ_yes hin hQi
                                have hix : 24 * v202.toInt.toNat + v178.toInt.toNat < 576 := by have q := hin; unfold inX at q; omega
                                have hcw : CW y0.toInt y1.toInt x0.toInt x1.toInt h w k := by have q := hin; unfold inX at q; rw [eX, eY] at q; exact ⟨q.2, q.1⟩
                                refine lv_aload_n hx hb dX2_line_216 rfl (lv_at hl 2 rfl) ?_
                                refine va_get (D := (dC, dI)) (ci := 2) (v := .ref (am 1)) (C := RX2) (T := TX2) (N := 8) hx hb hts (by decide +kernel) hown hK hP 0 rfl rfl 2 (by decide) (hts (.fieldLink RX2 7 "TriangleRasterModel" "colours" "[I") (by decide +kernel)) (fun _ h9 => h9) rfl dX2_line_217 ?_
                                refine lv_bipush (v := 24) hx hb dX2_line_220 (by decide) ?_
                                refine lv_iload hx hb dX2_line_222 (lv_at hl 0 rfl) ?_
                                refine lv_imul hx hb dX2_line_224 ?_
                                refine lv_iload hx hb dX2_line_225 (lv_at hl 1 rfl) ?_
                                refine lv_iadd hx hb dX2_line_227 ?_
                                refine lv_topi (fun zz ezz => ?_)
                                obtain rfl : zz = nI (24 * v202.toInt.toNat + v178.toInt.toNat) := ezz.trans (ix24X hin)
                                refine lv_iload hx hb dX2_line_228 (lv_at hl 7 rfl) ?_
                                refine va_iast hx hb hK hP hD hS 1 0 rfl rfl (vp_in_nI hix (by omega)) dX2_line_230 (fun H locs hP hD hS => ?_)
                                have hP : va_P (dC, dI) vwCl [(am 0, .inr (2, [.int (nI w), .int (nI h), .ref (am 1), .ref (am 2), .ref (am 3), .ref (am 4), .ref (am 5), .ref (am 6)])), (am 1, .inl (tm 1, 576, .inl (upd g (nI (24 * v202.toInt.toNat + v178.toInt.toNat)).toNatClampNeg c)))] H := hP
                                have hD : va_D A [(am 0, .inr (2, [.int (nI w), .int (nI h), .ref (am 1), .ref (am 2), .ref (am 3), .ref (am 4), .ref (am 5), .ref (am 6)])), (am 1, .inl (tm 1, 576, .inl (upd g (nI (24 * v202.toInt.toNat + v178.toInt.toNat)).toNatClampNeg c)))] := hD
                                rw [nI_clamp (by omega)] at hP hD
                                have hP : va_P (dC, dI) vwCl [(am 0, .inr (2, [.int (nI w), .int (nI h), .ref (am 1), .ref (am 2), .ref (am 3), .ref (am 4), .ref (am 5), .ref (am 6)])), (am 1, .inl (tm 1, 576, .inl (upd g (24 * v202.toInt.toNat + v178.toInt.toNat) c)))] H := hP
                                have hD : va_D A [(am 0, .inr (2, [.int (nI w), .int (nI h), .ref (am 1), .ref (am 2), .ref (am 3), .ref (am 4), .ref (am 5), .ref (am 6)])), (am 1, .inl (tm 1, 576, .inl (upd g (24 * v202.toInt.toNat + v178.toInt.toNat) c)))] := hD
                                refine lv_iinc (v := nI (cn + 1)) (lv' := [(11, .int (nI (cn + 1))), (15, .int v202), (14, .int v178), (0, .ref (am 0)), (1, .int x0), (2, .int y0), (3, .int x1), (4, .int y1), (5, .int c), (6, .int (nI (lnN x0.toInt x1.toInt))), (7, .int (nI (lnN y0.toInt y1.toInt))), (8, .int 0), (9, .int (nI (lnN y0.toInt y1.toInt))), (10, .int (nI (lnN x0.toInt x1.toInt))), (12, .int (nI k)), (13, .int o)]) hx hb dX2_line_231 hl (k := 13) rfl (nI_add _ 1) (by decide) rfl (fun ls hl => ?_)
                                refine lv_iinc (v := nI (k + 1)) (lv' := [(12, .int (nI (k + 1))), (11, .int (nI (cn + 1))), (15, .int v202), (14, .int v178), (0, .ref (am 0)), (1, .int x0), (2, .int y0), (3, .int x1), (4, .int y1), (5, .int c), (6, .int (nI (lnN x0.toInt x1.toInt))), (7, .int (nI (lnN y0.toInt y1.toInt))), (8, .int 0), (9, .int (nI (lnN y0.toInt y1.toInt))), (10, .int (nI (lnN x0.toInt x1.toInt))), (13, .int o)]) hx hb dX2_line_234 hl (k := 14) rfl (nI_add _ 1) (by decide) rfl (fun ls hl => ?_)
                                refine lv_goto (tgt := 114) hx hb dX2_line_237 (by decide) ?_
                                exact ih (k + 1) (cn + 1) (upd g (24 * v202.toInt.toNat + v178.toInt.toNat) c) (by omega) (by rw [hcn, cnt_yes hcw]) (by rw [ab_upd hw2 (by have q := hin.1; omega)]; exact PIn_yes hI hQ.1 (fun i _ => hQ.2 i)) (by omega) _ _ (hP.sub [0, 1] rfl) (hD.sub [0, 1] (by decide) rfl) hS ls (lv_sub hl [4, 5, 6, 7, 8, 9, 10, 11, 12, 13, 14, 1, 0] rfl)
                            · exact absurd c191 (by decide)
                          · exact absurd c167 (by decide)
                        refine lv_iload hx hb dX2_line_121 (lv_at hl 9 rfl) ?_
                        refine lv_if_ne (tgt := 130) hx hb dX2_line_123 (by decide) (fun c123 => ?_) (fun c123 => ?_)
                        · have hN0 : 0 < lnN y0.toInt y1.toInt := Nat.pos_of_ne_zero (fun q => c123 (by rw [q, nI_0]))
                          have hnz : ¬ 2 * (nI (lnN y0.toInt y1.toInt)).toInt64 = 0 := by
                            rw [← Int64.toInt_inj, Jvm.Kit.i64_mul (by rw [Jvm.Kit.i64_of_i32, nI_toInt (by omega), show (2 : Int64).toInt = 2 from by decide]; omega) (by rw [Jvm.Kit.i64_of_i32, nI_toInt (by omega), show (2 : Int64).toInt = 2 from by decide]; omega), Jvm.Kit.i64_of_i32, nI_toInt (by omega), show (2 : Int64).toInt = 2 from by decide, Int64.toInt_zero]; omega
                          refine lv_ldc2 (v := 2) hx hb hown (hts (.constantLong RX2 69 2) (by decide +kernel)) dX2_line_130 ?_
                          refine lv_iload hx hb dX2_line_133 (lv_at hl 12 rfl) ?_
                          refine lv_i2l hx hb dX2_line_135 rfl ?_
                          refine lv_lmul hx hb dX2_line_136 ?_
                          refine lv_iload hx hb dX2_line_137 (lv_at hl 10 rfl) ?_
                          refine lv_i2l hx hb dX2_line_139 rfl ?_
                          refine lv_lmul hx hb dX2_line_140 ?_
                          refine lv_iload hx hb dX2_line_141 (lv_at hl 9 rfl) ?_
                          refine lv_i2l hx hb dX2_line_143 rfl ?_
                          refine lv_ladd hx hb dX2_line_144 ?_
                          refine lv_lconst (v := 1) hx hb dX2_line_145 (by decide) ?_
                          refine lv_lsub hx hb dX2_line_146 ?_
                          refine lv_ldc2 (v := 2) hx hb hown (hts (.constantLong RX2 69 2) (by decide +kernel)) dX2_line_147 ?_
                          refine lv_iload hx hb dX2_line_150 (lv_at hl 9 rfl) ?_
                          refine lv_i2l hx hb dX2_line_152 rfl ?_
                          refine lv_lmul hx hb dX2_line_153 ?_
                          refine lv_ldiv hx hb dX2_line_154 hnz ?_
                          refine lv_l2i hx hb dX2_line_155 rfl ?_
                          refine lv_topi (fun v155 ev155 => ?_)
                          refine lv_istore (lv' := [(13, .int v155), (0, .ref (am 0)), (1, .int x0), (2, .int y0), (3, .int x1), (4, .int y1), (5, .int c), (6, .int (nI (lnN x0.toInt x1.toInt))), (7, .int (nI (lnN y0.toInt y1.toInt))), (8, .int 0), (9, .int (nI (lnN y0.toInt y1.toInt))), (10, .int (nI (lnN x0.toInt x1.toInt))), (11, .int (nI cn)), (12, .int (nI k))]) hx hb dX2_line_156 hl (by decide) rfl (fun ls hl => ?_)
                          exact j158 v155 ls (by rw [ev155]; exact far_val (by rw [Jvm.Kit.i64_of_i32, nI_toInt (by omega)]) (by rw [Jvm.Kit.i64_of_i32, nI_toInt (by omega)]) (by rw [Jvm.Kit.i64_of_i32, nI_toInt (by omega)]) (by omega) (by omega) (by omega)) (lv_sub hl [1, 2, 3, 4, 5, 6, 7, 8, 9, 10, 11, 12, 13, 0] rfl)
                        · refine lv_iconst (v := 0) hx hb dX2_line_126 (by decide) ?_
                          refine lv_goto (tgt := 156) hx hb dX2_line_127 (by decide) ?_
                          refine lv_istore (lv' := [(13, .int 0), (0, .ref (am 0)), (1, .int x0), (2, .int y0), (3, .int x1), (4, .int y1), (5, .int c), (6, .int (nI (lnN x0.toInt x1.toInt))), (7, .int (nI (lnN y0.toInt y1.toInt))), (8, .int 0), (9, .int (nI (lnN y0.toInt y1.toInt))), (10, .int (nI (lnN x0.toInt x1.toInt))), (11, .int (nI cn)), (12, .int (nI k))]) hx hb dX2_line_156 hl (by decide) rfl (fun ls hl => ?_)
                          exact j158 0 ls (by have q : lnN y0.toInt y1.toInt = 0 := (by rw [← nI_0, nI_eq (by omega) (by omega)] at c123; exact c123); rw [q, show ((0 : Nat) : Int) = 0 from rfl, lnF_0]; rfl) (lv_sub hl [1, 2, 3, 4, 5, 6, 7, 8, 9, 10, 11, 12, 13, 0] rfl)
                  exact loop (lnN y0.toInt y1.toInt + 2) 0 0 mc (Nat.zero_le _) rfl PIn_0 (by omega) _ _ (hP.sub [0, 1] rfl) (hD.sub [0, 1] (by decide) rfl) hS ls (lv_sub hl [5, 6, 7, 8, 9, 10, 11, 12, 4, 3, 2, 1, 0] rfl)
                · exact absurd c96 (by decide)
              · exact absurd c82 (by decide)
            · have hWi : WIDE x0 y0 x1 y1 := by unfold WIDE; rw [nI_ltI (by omega) (by omega)] at c70; omega
              refine lv_iconst (v := 1) hx hb dX2_line_73 (by decide) ?_
              refine lv_goto (tgt := 78) hx hb dX2_line_74 (by decide) ?_
              refine lv_istore (lv' := [(8, .int 1), (0, .ref (am 0)), (1, .int x0), (2, .int y0), (3, .int x1), (4, .int y1), (5, .int c), (6, .int (nI (lnN x0.toInt x1.toInt))), (7, .int (nI (lnN y0.toInt y1.toInt)))]) hx hb dX2_line_78 hl (by decide) rfl (fun ls hl => ?_)
              refine lv_iload hx hb dX2_line_80 (lv_at hl 0 rfl) ?_
              refine lv_if_eq (tgt := 90) hx hb dX2_line_82 (by decide) (fun c82 => ?_) (fun c82 => ?_)
              · exact absurd c82 (by decide)
              · refine lv_iload hx hb dX2_line_85 (lv_at hl 7 rfl) ?_
                refine lv_goto (tgt := 92) hx hb dX2_line_87 (by decide) ?_
                refine lv_istore (lv' := [(9, .int (nI (lnN x0.toInt x1.toInt))), (8, .int 1), (0, .ref (am 0)), (1, .int x0), (2, .int y0), (3, .int x1), (4, .int y1), (5, .int c), (6, .int (nI (lnN x0.toInt x1.toInt))), (7, .int (nI (lnN y0.toInt y1.toInt)))]) hx hb dX2_line_92 hl (by decide) rfl (fun ls hl => ?_)
                refine lv_iload hx hb dX2_line_94 (lv_at hl 1 rfl) ?_
                refine lv_if_eq (tgt := 104) hx hb dX2_line_96 (by decide) (fun c96 => ?_) (fun c96 => ?_)
                · exact absurd c96 (by decide)
                · refine lv_iload hx hb dX2_line_99 (lv_at hl 9 rfl) ?_
                  refine lv_goto (tgt := 106) hx hb dX2_line_101 (by decide) ?_
                  refine lv_istore (lv' := [(10, .int (nI (lnN y0.toInt y1.toInt))), (9, .int (nI (lnN x0.toInt x1.toInt))), (8, .int 1), (0, .ref (am 0)), (1, .int x0), (2, .int y0), (3, .int x1), (4, .int y1), (5, .int c), (6, .int (nI (lnN x0.toInt x1.toInt))), (7, .int (nI (lnN y0.toInt y1.toInt)))]) hx hb dX2_line_106 hl (by decide) rfl (fun ls hl => ?_)
                  refine lv_iconst (v := 0) hx hb dX2_line_108 (by decide) ?_
                  refine lv_topi (fun zz ezz => ?_)
                  obtain rfl : zz = nI 0 := ezz.trans (nI_0.symm)
                  refine lv_istore (lv' := [(11, .int (nI 0)), (10, .int (nI (lnN y0.toInt y1.toInt))), (9, .int (nI (lnN x0.toInt x1.toInt))), (8, .int 1), (0, .ref (am 0)), (1, .int x0), (2, .int y0), (3, .int x1), (4, .int y1), (5, .int c), (6, .int (nI (lnN x0.toInt x1.toInt))), (7, .int (nI (lnN y0.toInt y1.toInt)))]) hx hb dX2_line_109 hl (by decide) rfl (fun ls hl => ?_)
                  refine lv_iconst (v := 0) hx hb dX2_line_111 (by decide) ?_
                  refine lv_topi (fun zz ezz => ?_)
                  obtain rfl : zz = nI 0 := ezz.trans (nI_0.symm)
                  refine lv_istore (lv' := [(12, .int (nI 0)), (11, .int (nI 0)), (10, .int (nI (lnN y0.toInt y1.toInt))), (9, .int (nI (lnN x0.toInt x1.toInt))), (8, .int 1), (0, .ref (am 0)), (1, .int x0), (2, .int y0), (3, .int x1), (4, .int y1), (5, .int c), (6, .int (nI (lnN x0.toInt x1.toInt))), (7, .int (nI (lnN y0.toInt y1.toInt)))]) hx hb dX2_line_112 hl (by decide) rfl (fun ls hl => ?_)
                  have loop : ∀ (n : Nat) (k : Nat) (cn : Nat) (g : Nat → Int32), k ≤ lnN x0.toInt x1.toInt + 1 → cn = cnt (CW x0.toInt x1.toInt y0.toInt y1.toInt w h) k → PIn (w * h) (SW w x0 y0 x1 y1) (ab w mc) c k (ab w g) → lnN x0.toInt x1.toInt + 2 ≤ k + n → ∀ (H : Heap) (locs : List Loc), va_P (dC, dI) vwCl [(am 0, .inr (2, [.int (nI w), .int (nI h), .ref (am 1), .ref (am 2), .ref (am 3), .ref (am 4), .ref (am 5), .ref (am 6)])), (am 1, .inl (tm 1, 576, .inl g))] H → va_D A [(am 0, .inr (2, [.int (nI w), .int (nI h), .ref (am 1), .ref (am 2), .ref (am 3), .ref (am 4), .ref (am 5), .ref (am 6)])), (am 1, .inl (tm 1, 576, .inl g))] → va_S A s.heap H locs → ∀ (ls : Array Slot), lv_has ls 16 [(0, .ref (am 0)), (1, .int x0), (2, .int y0), (3, .int x1), (4, .int y1), (5, .int c), (6, .int (nI (lnN x0.toInt x1.toInt))), (7, .int (nI (lnN y0.toInt y1.toInt))), (8, .int 1), (9, .int (nI (lnN x0.toInt x1.toInt))), (10, .int (nI (lnN y0.toInt y1.toInt))), (11, .int (nI cn)), (12, .int (nI k))] → W p l e (headSpec wsX2_line { frames := 1, cells := 0, slots := 0, locals := 22 }).room s m [.ref (am 0), .int x0, .int y0, .int x1, .int y1, .int c].toArray below meth cD H locs 0 0 (MQ below (va_Qi (fun (r : Int32) (u : Nat → Int32) => (¬ LOK x0 y0 x1 y1 ∧ r = -1 ∧ u = mc) ∨ (LOK x0 y0 x1 y1 ∧ WIDE x0 y0 x1 y1 ∧ r = nI (cnt (HIT x0.toInt x1.toInt y0.toInt y1.toInt h) w) ∧ LFin (w * h) (QW w x0 y0 x1 y1) (ab w mc) c (ab w u)) ∨ (LOK x0 y0 x1 y1 ∧ ¬ WIDE x0 y0 x1 y1 ∧ r = nI (cnt (HIT y0.toInt y1.toInt x0.toInt x1.toInt w) h) ∧ LFin (w * h) (QT w x0 y0 x1 y1) (ab w mc) c (ab w u))) (mB (dC, dI) vwCl [(tm 1, .int)] A (fun u => [(am 0, .inr (2, [.int (nI w), .int (nI h), .ref (am 1), .ref (am 2), .ref (am 3), .ref (am 4), .ref (am 5), .ref (am 6)])), (am 1, .inl (tm 1, 576, .inl u))])) A) [.ref (am 0), .int x0, .int y0, .int x1, .int y1, .int c].toArray s 0 0 A) (F0 m 114 ls []) := by
                    intro n
                    induction n with
                    | zero => intro k cn g hk hcn hI hm; exfalso; omega
                    | succ n ih =>
                      intro k cn g hk hcn hI hm H locs hP hD hS ls hl
                      refine lv_iload hx hb dX2_line_114 (lv_at hl 12 rfl) ?_
                      refine lv_iload hx hb dX2_line_116 (lv_at hl 9 rfl) ?_
                      refine lv_icmp_gt (tgt := 240) hx hb dX2_line_118 (by decide) (fun c118 => ?_) (fun c118 => ?_)
                      · refine lv_iload hx hb dX2_line_240 (lv_at hl 11 rfl) ?_
                        have hP9 := hP.sub (ws' := [(am 0, .inr (2, [.int (nI w), .int (nI h), .ref (am 1), .ref (am 2), .ref (am 3), .ref (am 4), .ref (am 5), .ref (am 6)])), (am 1, .inl (tm 1, 576, .inl g))]) [0, 1] rfl
                        have hD9 := hD.sub (ws' := [(am 0, .inr (2, [.int (nI w), .int (nI h), .ref (am 1), .ref (am 2), .ref (am 3), .ref (am 4), .ref (am 5), .ref (am 6)])), (am 1, .inl (tm 1, 576, .inl g))]) [0, 1] (by decide) rfl
                        exact W.iret (v := (nI cn)) hx hb hr (fun t ht hW => ⟨⟨nI cn, g, rfl, by have hke : k = lnN x0.toInt x1.toInt + 1 := (by rw [nI_ltI (by omega) (by omega)] at c118; omega); rw [hke] at hcn hI; exact Or.inr (Or.inl ⟨hOK, hWi, by rw [hcn, HIT_CW], PIn_fin hI (fun i _ => SW_fin i)⟩), by rw [ht]; exact hP9, va_K.moved hW.alike hK, hD9⟩, hS.F ht⟩) hS.2.2 dX2_line_242
                      · have hkN : k ≤ lnN x0.toInt x1.toInt := by rw [nI_ltI (by omega) (by omega)] at c118; omega
                        have hFb : 0 ≤ lnF (lnN x0.toInt x1.toInt : Nat) (lnN y0.toInt y1.toInt : Nat) k ∧ lnF (lnN x0.toInt x1.toInt : Nat) (lnN y0.toInt y1.toInt : Nat) k ≤ 32769 := by
                          rcases Nat.eq_zero_or_pos (lnN x0.toInt x1.toInt) with q | q
                          · rw [q]; rw [show ((0 : Nat) : Int) = 0 from rfl, lnF_0]; omega
                          · exact (lnF_b (by omega) (by omega) (by omega)).2
                        have j158 : ∀ (o : Int32) (ls : Array Slot), o.toInt = lnF (lnN x0.toInt x1.toInt : Nat) (lnN y0.toInt y1.toInt : Nat) k → lv_has ls 16 [(0, .ref (am 0)), (1, .int x0), (2, .int y0), (3, .int x1), (4, .int y1), (5, .int c), (6, .int (nI (lnN x0.toInt x1.toInt))), (7, .int (nI (lnN y0.toInt y1.toInt))), (8, .int 1), (9, .int (nI (lnN x0.toInt x1.toInt))), (10, .int (nI (lnN y0.toInt y1.toInt))), (11, .int (nI cn)), (12, .int (nI k)), (13, .int o)] → W p l e (headSpec wsX2_line { frames := 1, cells := 0, slots := 0, locals := 22 }).room s m [.ref (am 0), .int x0, .int y0, .int x1, .int y1, .int c].toArray below meth cD H locs 0 0 (MQ below (va_Qi (fun (r : Int32) (u : Nat → Int32) => (¬ LOK x0 y0 x1 y1 ∧ r = -1 ∧ u = mc) ∨ (LOK x0 y0 x1 y1 ∧ WIDE x0 y0 x1 y1 ∧ r = nI (cnt (HIT x0.toInt x1.toInt y0.toInt y1.toInt h) w) ∧ LFin (w * h) (QW w x0 y0 x1 y1) (ab w mc) c (ab w u)) ∨ (LOK x0 y0 x1 y1 ∧ ¬ WIDE x0 y0 x1 y1 ∧ r = nI (cnt (HIT y0.toInt y1.toInt x0.toInt x1.toInt w) h) ∧ LFin (w * h) (QT w x0 y0 x1 y1) (ab w mc) c (ab w u))) (mB (dC, dI) vwCl [(tm 1, .int)] A (fun u => [(am 0, .inr (2, [.int (nI w), .int (nI h), .ref (am 1), .ref (am 2), .ref (am 3), .ref (am 4), .ref (am 5), .ref (am 6)])), (am 1, .inl (tm 1, 576, .inl u))])) A) [.ref (am 0), .int x0, .int y0, .int x1, .int y1, .int c].toArray s 0 0 A) (F0 m 158 ls []) := by
                          intro o ls ho hl
                          refine lv_iload_n hx hb dX2_line_158 rfl (lv_at hl 1 rfl) ?_
                          refine lv_iload_n hx hb dX2_line_159 rfl (lv_at hl 3 rfl) ?_
                          refine lv_iload_n hx hb dX2_line_160 rfl (lv_at hl 1 rfl) ?_
                          refine lv_isub hx hb dX2_line_161 ?_
                          refine m_calli (cs := []) (wr := [(am 0, .inr (2, [.int (nI w), .int (nI h), .ref (am 1), .ref (am 2), .ref (am 3), .ref (am 4), .ref (am 5), .ref (am 6)])), (am 1, .inl (tm 1, 576, .inl g))]) hP hD hS hA [] [0, 1] rfl rfl (by decide) (by decide) (va_runS (As := [.int (x1 - x0)]) (rest := [.int x0]) ⟨hx, hb, hml, hown, hts⟩ (c_X2_sign l dC dI _ (x1 - x0)) (va_cwS 1 hts gX2_line_X2_sign rfl rfl rfl (by decide +kernel) ⟨Nat.le_of_ble_eq_true rfl, Nat.le_of_ble_eq_true rfl⟩) (m_preS (hP.sub [] rfl) (hK.sub [] rfl) (hD.sub [] (by decide) rfl) hN) rfl rfl hl.1 rfl (lv_room (Nat.le_of_ble_eq_true rfl)) dX2_line_162 ⟨Nat.le_of_ble_eq_true rfl, Nat.le_of_ble_eq_true rfl⟩) (fun r162 _ H locs q162 hK2 hP hD hS => ?_)
                          have hP : va_P (dC, dI) vwCl [(am 0, .inr (2, [.int (nI w), .int (nI h), .ref (am 1), .ref (am 2), .ref (am 3), .ref (am 4), .ref (am 5), .ref (am 6)])), (am 1, .inl (tm 1, 576, .inl g))] H := hP.sub [0, 1] rfl
                          have hD : va_D A [(am 0, .inr (2, [.int (nI w), .int (nI h), .ref (am 1), .ref (am 2), .ref (am 3), .ref (am 4), .ref (am 5), .ref (am 6)])), (am 1, .inl (tm 1, 576, .inl g))] := hD.sub [0, 1] (by decide) rfl
                          refine lv_iload hx hb dX2_line_165 (lv_at hl 8 rfl) ?_
                          refine lv_if_eq (tgt := 175) hx hb dX2_line_167 (by decide) (fun c167 => ?_) (fun c167 => ?_)
                          · exact absurd c167 (by decide)
                          · refine lv_iload hx hb dX2_line_170 (lv_at hl 12 rfl) ?_
                            refine lv_goto (tgt := 177) hx hb dX2_line_172 (by decide) ?_
                            refine lv_imul hx hb dX2_line_177 ?_
                            refine lv_iadd hx hb dX2_line_178 ?_
                            refine lv_topi (fun v178 ev178 => ?_)
                            have eX : v178.toInt = lnX x0.toInt x1.toInt k := by rw [ev178, step_val n0 n2 q162 (nI_toInt (by omega)) (by omega) (fun q => by have : lnN x0.toInt x1.toInt = 0 := (by unfold lnN; omega); omega)]; rfl
                            refine lv_istore (lv' := [(14, .int v178), (0, .ref (am 0)), (1, .int x0), (2, .int y0), (3, .int x1), (4, .int y1), (5, .int c), (6, .int (nI (lnN x0.toInt x1.toInt))), (7, .int (nI (lnN y0.toInt y1.toInt))), (8, .int 1), (9, .int (nI (lnN x0.toInt x1.toInt))), (10, .int (nI (lnN y0.toInt y1.toInt))), (11, .int (nI cn)), (12, .int (nI k)), (13, .int o)]) hx hb dX2_line_179 hl (by decide) rfl (fun ls hl => ?_)
                            refine lv_iload_n hx hb dX2_line_181 rfl (lv_at hl 3 rfl) ?_
                            refine lv_iload hx hb dX2_line_182 (lv_at hl 5 rfl) ?_
                            refine lv_iload_n hx hb dX2_line_184 rfl (lv_at hl 3 rfl) ?_
                            refine lv_isub hx hb dX2_line_185 ?_
                            refine m_calli (cs := []) (wr := [(am 0, .inr (2, [.int (nI w), .int (nI h), .ref (am 1), .ref (am 2), .ref (am 3), .ref (am 4), .ref (am 5), .ref (am 6)])), (am 1, .inl (tm 1, 576, .inl g))]) hP hD hS hA [] [0, 1] rfl rfl (by decide) (by decide) (va_runS (As := [.int (y1 - y0)]) (rest := [.int y0]) ⟨hx, hb, hml, hown, hts⟩ (c_X2_sign l dC dI _ (y1 - y0)) (va_cwS 1 hts gX2_line_X2_sign rfl rfl rfl (by decide +kernel) ⟨Nat.le_of_ble_eq_true rfl, Nat.le_of_ble_eq_true rfl⟩) (m_preS (hP.sub [] rfl) (hK.sub [] rfl) (hD.sub [] (by decide) rfl) hN) rfl rfl hl.1 rfl (lv_room (Nat.le_of_ble_eq_true rfl)) dX2_line_186 ⟨Nat.le_of_ble_eq_true rfl, Nat.le_of_ble_eq_true rfl⟩) (fun r186 _ H locs q186 hK2 hP hD hS => ?_)
                            have hP : va_P (dC, dI) vwCl [(am 0, .inr (2, [.int (nI w), .int (nI h), .ref (am 1), .ref (am 2), .ref (am 3), .ref (am 4), .ref (am 5), .ref (am 6)])), (am 1, .inl (tm 1, 576, .inl g))] H := hP.sub [0, 1] rfl
                            have hD : va_D A [(am 0, .inr (2, [.int (nI w), .int (nI h), .ref (am 1), .ref (am 2), .ref (am 3), .ref (am 4), .ref (am 5), .ref (am 6)])), (am 1, .inl (tm 1, 576, .inl g))] := hD.sub [0, 1] (by decide) rfl
                            refine lv_iload hx hb dX2_line_189 (lv_at hl 9 rfl) ?_
                            refine lv_if_eq (tgt := 199) hx hb dX2_line_191 (by decide) (fun c191 => ?_) (fun c191 => ?_)
                            · exact absurd c191 (by decide)
                            · refine lv_iload hx hb dX2_line_194 (lv_at hl 14 rfl) ?_
                              refine lv_goto (tgt := 201) hx hb dX2_line_196 (by decide) ?_
                              refine lv_imul hx hb dX2_line_201 ?_
                              refine lv_iadd hx hb dX2_line_202 ?_
                              refine lv_topi (fun v202 ev202 => ?_)
                              have eY : v202.toInt = lnY x0.toInt x1.toInt y0.toInt y1.toInt k := by rw [ev202, step_val n1 n3 q186 ho (by omega) (fun q => by rw [show lnN y0.toInt y1.toInt = 0 by unfold lnN; omega]; exact lnF_z (by omega))]; rfl
                              refine lv_istore (lv' := [(15, .int v202), (14, .int v178), (0, .ref (am 0)), (1, .int x0), (2, .int y0), (3, .int x1), (4, .int y1), (5, .int c), (6, .int (nI (lnN x0.toInt x1.toInt))), (7, .int (nI (lnN y0.toInt y1.toInt))), (8, .int 1), (9, .int (nI (lnN x0.toInt x1.toInt))), (10, .int (nI (lnN y0.toInt y1.toInt))), (11, .int (nI cn)), (12, .int (nI k)), (13, .int o)]) hx hb dX2_line_203 hl (by decide) rfl (fun ls hl => ?_)
                              refine lv_aload_n hx hb dX2_line_205 rfl (lv_at hl 2 rfl) ?_
                              refine lv_iload hx hb dX2_line_206 (lv_at hl 1 rfl) ?_
                              refine lv_iload hx hb dX2_line_208 (lv_at hl 0 rfl) ?_
                              refine m_calli (cs := [(am 0, .inr (2, [.int (nI w), .int (nI h), .ref (am 1), .ref (am 2), .ref (am 3), .ref (am 4), .ref (am 5), .ref (am 6)]))]) (wr := [(am 1, .inl (tm 1, 576, .inl g))]) hP hD hS hA [0] [1] rfl rfl (by decide) (by decide) (va_runV (As := [.int v178, .int v202]) (rest := []) ⟨hx, hb, hml, hown, hts⟩ (c_X2_isPixel l dC dI _ am w h hw1 hw2 hh1 hh2 v178 v202) (cwV 2 hts gX2_line_X2_isPixel rfl rfl rfl (by decide +kernel) ⟨Nat.le_of_ble_eq_true rfl, Nat.le_of_ble_eq_true rfl⟩) (m_preV (ci := 2) (q0 := 0) (hP.sub [0] rfl) (hK.sub [] rfl) (hD.sub [0] (by decide) rfl) hN rfl rfl) rfl rfl hl.1 rfl (lv_room (Nat.le_of_ble_eq_true rfl)) dX2_line_210 ⟨Nat.le_of_ble_eq_true rfl, Nat.le_of_ble_eq_true rfl⟩) (fun r210 _ H locs q210 hK2 hP hD hS => ?_)
                              have hP : va_P (dC, dI) vwCl [(am 0, .inr (2, [.int (nI w), .int (nI h), .ref (am 1), .ref (am 2), .ref (am 3), .ref (am 4), .ref (am 5), .ref (am 6)])), (am 1, .inl (tm 1, 576, .inl g))] H := hP.sub [1, 0] rfl
                              have hD : va_D A [(am 0, .inr (2, [.int (nI w), .int (nI h), .ref (am 1), .ref (am 2), .ref (am 3), .ref (am 4), .ref (am 5), .ref (am 6)])), (am 1, .inl (tm 1, 576, .inl g))] := hD.sub [1, 0] (by decide) rfl
                              have hQi : ∀ i, SW w x0 y0 x1 y1 k i ↔ v178.toInt = ((i % w : Nat) : Int) ∧ v202.toInt = ((i / w : Nat) : Int) := fun i => by rw [eX, eY]; exact Iff.rfl
                              refine lv_if_eq (tgt := 234) hx hb dX2_line_213 (by decide) (fun c213 => ?_) (fun c213 => ?_)
                              · have hout := (b01 q210).mp c213
                                have hQ := PQ_no hout hQi
                                have hcw : ¬ CW x0.toInt x1.toInt y0.toInt y1.toInt w h k := fun q => hout (by unfold inX; rw [eX, eY]; exact q)
                                refine lv_iinc (v := nI (k + 1)) (lv' := [(12, .int (nI (k + 1))), (15, .int v202), (14, .int v178), (0, .ref (am 0)), (1, .int x0), (2, .int y0), (3, .int x1), (4, .int y1), (5, .int c), (6, .int (nI (lnN x0.toInt x1.toInt))), (7, .int (nI (lnN y0.toInt y1.toInt))), (8, .int 1), (9, .int (nI (lnN x0.toInt x1.toInt))), (10, .int (nI (lnN y0.toInt y1.toInt))), (11, .int (nI cn)), (13, .int o)]) hx hb dX2_line_234 hl (k := 14) rfl (nI_add _ 1) (by decide) rfl (fun ls hl => ?_)
                                refine lv_goto (tgt := 114) hx hb dX2_line_237 (by decide) ?_
                                exact ih (k + 1) cn g (by omega) (by rw [hcn, cnt_no hcw]) (PIn_no hI hQ) (by omega) _ _ (hP.sub [0, 1] rfl) (hD.sub [0, 1] (by decide) rfl) hS ls (lv_sub hl [3, 4, 5, 6, 7, 8, 9, 10, 11, 12, 13, 14, 0] rfl)
                              · have hin := Classical.byContradiction (fun h => c213 ((b01 q210).mpr h))
                                have hQ := PQ_yes hin hQi
                                have hix : 24 * v202.toInt.toNat + v178.toInt.toNat < 576 := by have q := hin; unfold inX at q; omega
                                have hcw : CW x0.toInt x1.toInt y0.toInt y1.toInt w h k := by have q := hin; unfold inX at q; rw [eX, eY] at q; exact q
                                refine lv_aload_n hx hb dX2_line_216 rfl (lv_at hl 2 rfl) ?_
                                refine va_get (D := (dC, dI)) (ci := 2) (v := .ref (am 1)) (C := RX2) (T := TX2) (N := 8) hx hb hts (by decide +kernel) hown hK hP 0 rfl rfl 2 (by decide) (hts (.fieldLink RX2 7 "TriangleRasterModel" "colours" "[I") (by decide +kernel)) (fun _ h9 => h9) rfl dX2_line_217 ?_
                                refine lv_bipush (v := 24) hx hb dX2_line_220 (by decide) ?_
                                refine lv_iload hx hb dX2_line_222 (lv_at hl 0 rfl) ?_
                                refine lv_imul hx hb dX2_line_224 ?_
                                refine lv_iload hx hb dX2_line_225 (lv_at hl 1 rfl) ?_
                                refine lv_iadd hx hb dX2_line_227 ?_
                                refine lv_topi (fun zz ezz => ?_)
                                obtain rfl : zz = nI (24 * v202.toInt.toNat + v178.toInt.toNat) := ezz.trans (ix24X hin)
                                refine lv_iload hx hb dX2_line_228 (lv_at hl 7 rfl) ?_
                                refine va_iast hx hb hK hP hD hS 1 0 rfl rfl (vp_in_nI hix (by omega)) dX2_line_230 (fun H locs hP hD hS => ?_)
                                have hP : va_P (dC, dI) vwCl [(am 0, .inr (2, [.int (nI w), .int (nI h), .ref (am 1), .ref (am 2), .ref (am 3), .ref (am 4), .ref (am 5), .ref (am 6)])), (am 1, .inl (tm 1, 576, .inl (upd g (nI (24 * v202.toInt.toNat + v178.toInt.toNat)).toNatClampNeg c)))] H := hP
                                have hD : va_D A [(am 0, .inr (2, [.int (nI w), .int (nI h), .ref (am 1), .ref (am 2), .ref (am 3), .ref (am 4), .ref (am 5), .ref (am 6)])), (am 1, .inl (tm 1, 576, .inl (upd g (nI (24 * v202.toInt.toNat + v178.toInt.toNat)).toNatClampNeg c)))] := hD
                                rw [nI_clamp (by omega)] at hP hD
                                have hP : va_P (dC, dI) vwCl [(am 0, .inr (2, [.int (nI w), .int (nI h), .ref (am 1), .ref (am 2), .ref (am 3), .ref (am 4), .ref (am 5), .ref (am 6)])), (am 1, .inl (tm 1, 576, .inl (upd g (24 * v202.toInt.toNat + v178.toInt.toNat) c)))] H := hP
                                have hD : va_D A [(am 0, .inr (2, [.int (nI w), .int (nI h), .ref (am 1), .ref (am 2), .ref (am 3), .ref (am 4), .ref (am 5), .ref (am 6)])), (am 1, .inl (tm 1, 576, .inl (upd g (24 * v202.toInt.toNat + v178.toInt.toNat) c)))] := hD
                                refine lv_iinc (v := nI (cn + 1)) (lv' := [(11, .int (nI (cn + 1))), (15, .int v202), (14, .int v178), (0, .ref (am 0)), (1, .int x0), (2, .int y0), (3, .int x1), (4, .int y1), (5, .int c), (6, .int (nI (lnN x0.toInt x1.toInt))), (7, .int (nI (lnN y0.toInt y1.toInt))), (8, .int 1), (9, .int (nI (lnN x0.toInt x1.toInt))), (10, .int (nI (lnN y0.toInt y1.toInt))), (12, .int (nI k)), (13, .int o)]) hx hb dX2_line_231 hl (k := 13) rfl (nI_add _ 1) (by decide) rfl (fun ls hl => ?_)
                                refine lv_iinc (v := nI (k + 1)) (lv' := [(12, .int (nI (k + 1))), (11, .int (nI (cn + 1))), (15, .int v202), (14, .int v178), (0, .ref (am 0)), (1, .int x0), (2, .int y0), (3, .int x1), (4, .int y1), (5, .int c), (6, .int (nI (lnN x0.toInt x1.toInt))), (7, .int (nI (lnN y0.toInt y1.toInt))), (8, .int 1), (9, .int (nI (lnN x0.toInt x1.toInt))), (10, .int (nI (lnN y0.toInt y1.toInt))), (13, .int o)]) hx hb dX2_line_234 hl (k := 14) rfl (nI_add _ 1) (by decide) rfl (fun ls hl => ?_)
                                refine lv_goto (tgt := 114) hx hb dX2_line_237 (by decide) ?_
                                exact ih (k + 1) (cn + 1) (upd g (24 * v202.toInt.toNat + v178.toInt.toNat) c) (by omega) (by rw [hcn, cnt_yes hcw]) (by rw [ab_upd hw2 (by have q := hin.1; omega)]; exact PIn_yes hI hQ.1 (fun i _ => hQ.2 i)) (by omega) _ _ (hP.sub [0, 1] rfl) (hD.sub [0, 1] (by decide) rfl) hS ls (lv_sub hl [4, 5, 6, 7, 8, 9, 10, 11, 12, 13, 14, 1, 0] rfl)
                        refine lv_iload hx hb dX2_line_121 (lv_at hl 9 rfl) ?_
                        refine lv_if_ne (tgt := 130) hx hb dX2_line_123 (by decide) (fun c123 => ?_) (fun c123 => ?_)
                        · have hN0 : 0 < lnN x0.toInt x1.toInt := Nat.pos_of_ne_zero (fun q => c123 (by rw [q, nI_0]))
                          have hnz : ¬ 2 * (nI (lnN x0.toInt x1.toInt)).toInt64 = 0 := by
                            rw [← Int64.toInt_inj, Jvm.Kit.i64_mul (by rw [Jvm.Kit.i64_of_i32, nI_toInt (by omega), show (2 : Int64).toInt = 2 from by decide]; omega) (by rw [Jvm.Kit.i64_of_i32, nI_toInt (by omega), show (2 : Int64).toInt = 2 from by decide]; omega), Jvm.Kit.i64_of_i32, nI_toInt (by omega), show (2 : Int64).toInt = 2 from by decide, Int64.toInt_zero]; omega
                          refine lv_ldc2 (v := 2) hx hb hown (hts (.constantLong RX2 69 2) (by decide +kernel)) dX2_line_130 ?_
                          refine lv_iload hx hb dX2_line_133 (lv_at hl 12 rfl) ?_
                          refine lv_i2l hx hb dX2_line_135 rfl ?_
                          refine lv_lmul hx hb dX2_line_136 ?_
                          refine lv_iload hx hb dX2_line_137 (lv_at hl 10 rfl) ?_
                          refine lv_i2l hx hb dX2_line_139 rfl ?_
                          refine lv_lmul hx hb dX2_line_140 ?_
                          refine lv_iload hx hb dX2_line_141 (lv_at hl 9 rfl) ?_
                          refine lv_i2l hx hb dX2_line_143 rfl ?_
                          refine lv_ladd hx hb dX2_line_144 ?_
                          refine lv_lconst (v := 1) hx hb dX2_line_145 (by decide) ?_
                          refine lv_lsub hx hb dX2_line_146 ?_
                          refine lv_ldc2 (v := 2) hx hb hown (hts (.constantLong RX2 69 2) (by decide +kernel)) dX2_line_147 ?_
                          refine lv_iload hx hb dX2_line_150 (lv_at hl 9 rfl) ?_
                          refine lv_i2l hx hb dX2_line_152 rfl ?_
                          refine lv_lmul hx hb dX2_line_153 ?_
                          refine lv_ldiv hx hb dX2_line_154 hnz ?_
                          refine lv_l2i hx hb dX2_line_155 rfl ?_
                          refine lv_topi (fun v155 ev155 => ?_)
                          refine lv_istore (lv' := [(13, .int v155), (0, .ref (am 0)), (1, .int x0), (2, .int y0), (3, .int x1), (4, .int y1), (5, .int c), (6, .int (nI (lnN x0.toInt x1.toInt))), (7, .int (nI (lnN y0.toInt y1.toInt))), (8, .int 1), (9, .int (nI (lnN x0.toInt x1.toInt))), (10, .int (nI (lnN y0.toInt y1.toInt))), (11, .int (nI cn)), (12, .int (nI k))]) hx hb dX2_line_156 hl (by decide) rfl (fun ls hl => ?_)
                          exact j158 v155 ls (by rw [ev155]; exact far_val (by rw [Jvm.Kit.i64_of_i32, nI_toInt (by omega)]) (by rw [Jvm.Kit.i64_of_i32, nI_toInt (by omega)]) (by rw [Jvm.Kit.i64_of_i32, nI_toInt (by omega)]) (by omega) (by omega) (by omega)) (lv_sub hl [1, 2, 3, 4, 5, 6, 7, 8, 9, 10, 11, 12, 13, 0] rfl)
                        · refine lv_iconst (v := 0) hx hb dX2_line_126 (by decide) ?_
                          refine lv_goto (tgt := 156) hx hb dX2_line_127 (by decide) ?_
                          refine lv_istore (lv' := [(13, .int 0), (0, .ref (am 0)), (1, .int x0), (2, .int y0), (3, .int x1), (4, .int y1), (5, .int c), (6, .int (nI (lnN x0.toInt x1.toInt))), (7, .int (nI (lnN y0.toInt y1.toInt))), (8, .int 1), (9, .int (nI (lnN x0.toInt x1.toInt))), (10, .int (nI (lnN y0.toInt y1.toInt))), (11, .int (nI cn)), (12, .int (nI k))]) hx hb dX2_line_156 hl (by decide) rfl (fun ls hl => ?_)
                          exact j158 0 ls (by have q : lnN x0.toInt x1.toInt = 0 := (by rw [← nI_0, nI_eq (by omega) (by omega)] at c123; exact c123); rw [q, show ((0 : Nat) : Int) = 0 from rfl, lnF_0]; rfl) (lv_sub hl [1, 2, 3, 4, 5, 6, 7, 8, 9, 10, 11, 12, 13, 0] rfl)
                  exact loop (lnN x0.toInt x1.toInt + 2) 0 0 mc (Nat.zero_le _) rfl PIn_0 (by omega) _ _ (hP.sub [0, 1] rfl) (hD.sub [0, 1] (by decide) rfl) hS ls (lv_sub hl [5, 6, 7, 8, 9, 10, 11, 12, 4, 3, 2, 1, 0] rfl)
          have j47 : ∀ (ls : Array Slot), lv_has ls 16 [(0, .ref (am 0)), (1, .int x0), (2, .int y0), (3, .int x1), (4, .int y1), (5, .int c), (6, .int (nI (lnN x0.toInt x1.toInt)))] → W p l e (headSpec wsX2_line { frames := 1, cells := 0, slots := 0, locals := 22 }).room s m [.ref (am 0), .int x0, .int y0, .int x1, .int y1, .int c].toArray below meth cD H locs 0 0 (MQ below (va_Qi (fun (r : Int32) (u : Nat → Int32) => (¬ LOK x0 y0 x1 y1 ∧ r = -1 ∧ u = mc) ∨ (LOK x0 y0 x1 y1 ∧ WIDE x0 y0 x1 y1 ∧ r = nI (cnt (HIT x0.toInt x1.toInt y0.toInt y1.toInt h) w) ∧ LFin (w * h) (QW w x0 y0 x1 y1) (ab w mc) c (ab w u)) ∨ (LOK x0 y0 x1 y1 ∧ ¬ WIDE x0 y0 x1 y1 ∧ r = nI (cnt (HIT y0.toInt y1.toInt x0.toInt x1.toInt w) h) ∧ LFin (w * h) (QT w x0 y0 x1 y1) (ab w mc) c (ab w u))) (mB (dC, dI) vwCl [(tm 1, .int)] A (fun u => [(am 0, .inr (2, [.int (nI w), .int (nI h), .ref (am 1), .ref (am 2), .ref (am 3), .ref (am 4), .ref (am 5), .ref (am 6)])), (am 1, .inl (tm 1, 576, .inl u))])) A) [.ref (am 0), .int x0, .int y0, .int x1, .int y1, .int c].toArray s 0 0 A) (F0 m 47 ls []) := by
            intro  ls  hl
            refine lv_iload hx hb dX2_line_47 (lv_at hl 4 rfl) ?_
            refine lv_iload_n hx hb dX2_line_49 rfl (lv_at hl 2 rfl) ?_
            refine lv_icmp_ge (tgt := 60) hx hb dX2_line_50 (by decide) (fun c50 => ?_) (fun c50 => ?_)
            · refine lv_iload hx hb dX2_line_60 (lv_at hl 4 rfl) ?_
              refine lv_iload_n hx hb dX2_line_62 rfl (lv_at hl 2 rfl) ?_
              refine lv_isub hx hb dX2_line_63 ?_
              refine lv_topi (fun zz ezz => ?_)
              obtain rfl : zz = nI (lnN y0.toInt y1.toInt) := ezz.trans (dist_up n1 n3 (by rw [Int32.le_iff_toInt_le] at c50; omega))
              refine lv_istore (lv' := [(7, .int (nI (lnN y0.toInt y1.toInt))), (0, .ref (am 0)), (1, .int x0), (2, .int y0), (3, .int x1), (4, .int y1), (5, .int c), (6, .int (nI (lnN x0.toInt x1.toInt)))]) hx hb dX2_line_64 hl (by decide) rfl (fun ls hl => ?_)
              exact j66  ls  (lv_sub hl [1, 2, 3, 4, 5, 6, 7, 0] rfl)
            · refine lv_iload_n hx hb dX2_line_53 rfl (lv_at hl 2 rfl) ?_
              refine lv_iload hx hb dX2_line_54 (lv_at hl 4 rfl) ?_
              refine lv_isub hx hb dX2_line_56 ?_
              refine lv_goto (tgt := 64) hx hb dX2_line_57 (by decide) ?_
              refine lv_topi (fun zz ezz => ?_)
              obtain rfl : zz = nI (lnN y0.toInt y1.toInt) := ezz.trans (dist_dn n1 n3 (by rw [Int32.le_iff_toInt_le] at c50; omega))
              refine lv_istore (lv' := [(7, .int (nI (lnN y0.toInt y1.toInt))), (0, .ref (am 0)), (1, .int x0), (2, .int y0), (3, .int x1), (4, .int y1), (5, .int c), (6, .int (nI (lnN x0.toInt x1.toInt)))]) hx hb dX2_line_64 hl (by decide) rfl (fun ls hl => ?_)
              exact j66  ls  (lv_sub hl [1, 2, 3, 4, 5, 6, 7, 0] rfl)
          refine lv_iload_n hx hb dX2_line_31 rfl (lv_at hl 3 rfl) ?_
          refine lv_iload_n hx hb dX2_line_32 rfl (lv_at hl 1 rfl) ?_
          refine lv_icmp_ge (tgt := 42) hx hb dX2_line_33 (by decide) (fun c33 => ?_) (fun c33 => ?_)
          · refine lv_iload_n hx hb dX2_line_42 rfl (lv_at hl 3 rfl) ?_
            refine lv_iload_n hx hb dX2_line_43 rfl (lv_at hl 1 rfl) ?_
            refine lv_isub hx hb dX2_line_44 ?_
            refine lv_topi (fun zz ezz => ?_)
            obtain rfl : zz = nI (lnN x0.toInt x1.toInt) := ezz.trans (dist_up n0 n2 (by rw [Int32.le_iff_toInt_le] at c33; omega))
            refine lv_istore (lv' := [(6, .int (nI (lnN x0.toInt x1.toInt))), (0, .ref (am 0)), (1, .int x0), (2, .int y0), (3, .int x1), (4, .int y1), (5, .int c)]) hx hb dX2_line_45 hl (by decide) rfl (fun ls hl => ?_)
            exact j47  ls  (lv_sub hl [1, 2, 3, 4, 5, 6, 0] rfl)
          · refine lv_iload_n hx hb dX2_line_36 rfl (lv_at hl 1 rfl) ?_
            refine lv_iload_n hx hb dX2_line_37 rfl (lv_at hl 3 rfl) ?_
            refine lv_isub hx hb dX2_line_38 ?_
            refine lv_goto (tgt := 45) hx hb dX2_line_39 (by decide) ?_
            refine lv_topi (fun zz ezz => ?_)
            obtain rfl : zz = nI (lnN x0.toInt x1.toInt) := ezz.trans (dist_dn n0 n2 (by rw [Int32.le_iff_toInt_le] at c33; omega))
            refine lv_istore (lv' := [(6, .int (nI (lnN x0.toInt x1.toInt))), (0, .ref (am 0)), (1, .int x0), (2, .int y0), (3, .int x1), (4, .int y1), (5, .int c)]) hx hb dX2_line_45 hl (by decide) rfl (fun ls hl => ?_)
            exact j47  ls  (lv_sub hl [1, 2, 3, 4, 5, 6, 0] rfl)
        · refine lv_iconst (v := (-1)) hx hb dX2_line_29 (by decide) ?_
          have hP9 := hP.sub (ws' := [(am 0, .inr (2, [.int (nI w), .int (nI h), .ref (am 1), .ref (am 2), .ref (am 3), .ref (am 4), .ref (am 5), .ref (am 6)])), (am 1, .inl (tm 1, 576, .inl mc))]) [0, 1] rfl
          have hD9 := hD.sub (ws' := [(am 0, .inr (2, [.int (nI w), .int (nI h), .ref (am 1), .ref (am 2), .ref (am 3), .ref (am 4), .ref (am 5), .ref (am 6)])), (am 1, .inl (tm 1, 576, .inl mc))]) [0, 1] (by decide) rfl
          exact W.iret (v := (-1)) hx hb hr (fun t ht hW => ⟨⟨(-1), mc, rfl, Or.inl ⟨fun h => c26 ((b10 q23).mpr h.2.2.2), rfl, rfl⟩, by rw [ht]; exact hP9, va_K.moved hW.alike hK, hD9⟩, hS.F ht⟩) hS.2.2 dX2_line_30

