set_option maxHeartbeats 4000000 in
set_option maxRecDepth 100000 in
/-- reachPiece -/
theorem c_X1_reachPiece (l : Launch) (dC : Nat → ClassId) (dI : Nat → Nat → Nat) (sz : Nat) (ad : Nat → Nat) (tc : Nat → ClassId) (w h : Nat) (qd : Int32) (col rea que : Nat → Int32) (hw1 : 1 ≤ w) (hw2 : w ≤ 24) (hh1 : 1 ≤ h) (hh2 : h ≤ 24) (x y c : Int32) (hin0 : inX w h x y) (hc0 : col (lin w x y) = c) (hr0 : rea (lin w x y) = 0) (hO : OLD w (w * h) col rea c) : Met l yX1_reachPiece wsX1_reachPiece ({ frames := 3, cells := 0, slots := 0, locals := 69 }) (mP (dC, dI) vwCl [(tc 1, .int), (tc 4, .boolean), (tc 5, .int)] [(ad 0, .inr (1, [.int (nI w), .int (nI h), .ref (ad 1), .ref (ad 2), .ref (ad 3), .ref (ad 4), .ref (ad 5), .int qd])), (ad 1, .inl (tc 1, (w * h), .inl col)), (ad 4, .inl (tc 4, (w * h), .inl rea)), (ad 5, .inl (tc 5, (w * h), .inl que))] sz [.ref (ad 0), .int x, .int y]) (va_Qi (fun (r : Int32) (u : (Nat → Int32) × (Nat → Int32) × Nat) => r = nI u.2.2 ∧ PIECE w (w * h) col rea c (lin w x y) u.1 u.2.1 u.2.2) (mB (dC, dI) vwCl [(tc 1, .int), (tc 4, .boolean), (tc 5, .int)] (va_A [(ad 0, .inr (1, [.int (nI w), .int (nI h), .ref (ad 1), .ref (ad 2), .ref (ad 3), .ref (ad 4), .ref (ad 5), .int qd])), (ad 1, .inl (tc 1, (w * h), .inl col)), (ad 4, .inl (tc 4, (w * h), .inl rea)), (ad 5, .inl (tc 5, (w * h), .inl que))] sz) (fun u => [(ad 0, .inr (1, [.int (nI w), .int (nI h), .ref (ad 1), .ref (ad 2), .ref (ad 3), .ref (ad 4), .ref (ad 5), .int (nI u.2.2)])), (ad 1, .inl (tc 1, (w * h), .inl col)), (ad 4, .inl (tc 4, (w * h), .inl u.1)), (ad 5, .inl (tc 5, (w * h), .inl u.2.1))])) (va_A [(ad 0, .inr (1, [.int (nI w), .int (nI h), .ref (ad 1), .ref (ad 2), .ref (ad 3), .ref (ad 4), .ref (ad 5), .int qd])), (ad 1, .inl (tc 1, (w * h), .inl col)), (ad 4, .inl (tc 4, (w * h), .inl rea)), (ad 5, .inl (tc 5, (w * h), .inl que))] sz)) 0 0 (va_A [(ad 0, .inr (1, [.int (nI w), .int (nI h), .ref (ad 1), .ref (ad 2), .ref (ad 3), .ref (ad 4), .ref (ad 5), .int qd])), (ad 1, .inl (tc 1, (w * h), .inl col)), (ad 4, .inl (tc 4, (w * h), .inl rea)), (ad 5, .inl (tc 5, (w * h), .inl que))] sz) := by
  refine Met.ofW (cc := cX1_reachPiece) (maxL := 7) (ret := (some .int)) (by decide) rfl ?_
  intro p e s m args below meth cD s₁ B hml hv
  obtain ⟨rfl, hsz, hP, hK, hD0, hN⟩ := hv
  have hx := B.exec
  have hb := B.bytes
  have hr := B.returns
  have hts := atoms_spec (ws := wsX1_reachPiece) B.pre
  have hown : s.vm.findClass RX1 = some m.cls := findClass_of_methodNamed B.named
  have hlocks := B.notSynchronized
  subst hsz
  have hD := hD0.self (sz := s.heap.size)
  generalize hAe : va_A [(ad 0, .inr (1, [.int (nI w), .int (nI h), .ref (ad 1), .ref (ad 2), .ref (ad 3), .ref (ad 4), .ref (ad 5), .int qd])), (ad 1, .inl (tc 1, (w * h), .inl col)), (ad 4, .inl (tc 4, (w * h), .inl rea)), (ad 5, .inl (tc 5, (w * h), .inl que))] s.heap.size = A at hD ⊢
  have hA : ∀ q : Nat, s.heap.size ≤ q → A q := fun q h => by rw [← hAe]; exact Or.inr h
  have hS : va_S A s.heap s.heap [] := va_S.rf
  have hP : va_P (dC, dI) vwCl [(ad 0, .inr (1, [.int (nI w), .int (nI h), .ref (ad 1), .ref (ad 2), .ref (ad 3), .ref (ad 4), .ref (ad 5), .int qd])), (ad 1, .inl (tc 1, (w * h), .inl col)), (ad 4, .inl (tc 4, (w * h), .inl rea)), (ad 5, .inl (tc 5, (w * h), .inl que))] s.heap := hP
  have hl := lv_entry ([.ref (ad 0), .int x, .int y]) (n := 7) (Nat.le_of_ble_eq_true rfl)
  rw [lg_entry_eq]
  generalize (lg_sl ([.ref (ad 0), .int x, .int y]) ++ List.replicate (7 - (lg_sl ([.ref (ad 0), .int x, .int y])).length) Slot.unset).toArray = ls at hl ⊢
  have hl : lv_has ls 7 [(0, .ref (ad 0)), (1, .int x), (2, .int y)] := hl
  have hwh := wh_le hw2 hh2
  refine lv_aload_n hx hb dX1_reachPiece_0 rfl (lv_at hl 0 rfl) ?_
  refine lv_iload_n hx hb dX1_reachPiece_1 rfl (lv_at hl 1 rfl) ?_
  refine lv_iload_n hx hb dX1_reachPiece_2 rfl (lv_at hl 2 rfl) ?_
  refine m_calli (cs := [(ad 0, .inr (1, [.int (nI w), .int (nI h), .ref (ad 1), .ref (ad 2), .ref (ad 3), .ref (ad 4), .ref (ad 5), .int qd])), (ad 1, .inl (tc 1, (w * h), .inl col))]) (wr := [(ad 4, .inl (tc 4, (w * h), .inl rea)), (ad 5, .inl (tc 5, (w * h), .inl que))]) hP hD hS hA [0, 1] [2, 3] rfl rfl (by decide) (by decide) (va_runV (As := [.int x, .int y]) (rest := []) ⟨hx, hb, hml, hown, hts⟩ (c_X1_pixel l dC dI _ ad tc w h qd col hw1 hw2 hh1 hh2 x y) (cwV 2 hts gX1_reachPiece_X1_pixel rfl rfl rfl (by decide +kernel) ⟨Nat.le_of_ble_eq_true rfl, Nat.le_of_ble_eq_true rfl⟩) (m_preV (ci := 1) (q0 := 0) (hP.sub [0, 1] rfl) (hK.sub [0] rfl) (hD.sub [0, 1] (by decide) rfl) hN rfl rfl) rfl rfl hl.1 rfl (lv_room (Nat.le_of_ble_eq_true rfl)) dX1_reachPiece_3 ⟨Nat.le_of_ble_eq_true rfl, Nat.le_of_ble_eq_true rfl⟩) (fun r3 _ H locs q3 _ hP hD hS => ?_)
  have hP : va_P (dC, dI) vwCl [(ad 0, .inr (1, [.int (nI w), .int (nI h), .ref (ad 1), .ref (ad 2), .ref (ad 3), .ref (ad 4), .ref (ad 5), .int qd])), (ad 1, .inl (tc 1, (w * h), .inl col)), (ad 4, .inl (tc 4, (w * h), .inl rea)), (ad 5, .inl (tc 5, (w * h), .inl que))] H := hP.sub [2, 3, 0, 1] rfl
  have hD : va_D A [(ad 0, .inr (1, [.int (nI w), .int (nI h), .ref (ad 1), .ref (ad 2), .ref (ad 3), .ref (ad 4), .ref (ad 5), .int qd])), (ad 1, .inl (tc 1, (w * h), .inl col)), (ad 4, .inl (tc 4, (w * h), .inl rea)), (ad 5, .inl (tc 5, (w * h), .inl que))] := hD.sub [2, 3, 0, 1] (by decide) rfl
  have e3 : c = r3 := by
    rcases q3 with q | q
    · exact (q.2.trans hc0).symm
    · exact absurd hin0 q.1
  subst e3
  refine lv_istore_n (lv' := [(3, .int c), (0, .ref (ad 0)), (1, .int x), (2, .int y)]) hx hb dX1_reachPiece_6 rfl hl (by decide) rfl (fun ls hl => ?_)
  refine lv_aload_n hx hb dX1_reachPiece_7 rfl (lv_at hl 1 rfl) ?_
  refine lv_iconst (v := 0) hx hb dX1_reachPiece_8 (by decide) ?_
  refine lv_topi (fun zz ezz => ?_)
  obtain rfl : zz = nI 0 := ezz.trans (nI_0.symm)
  refine va_put (D := (dC, dI)) (ci := 1) (v := .int (nI 0)) (ty := .int) (C := RX1) (T := TX1) (N := 8) hx hb hts (by decide +kernel) tyX1 tyX1_ok nmX1 hown hK hP hD hS 0 rfl rfl 7 (by decide) (hts (.fieldLink RX1 41 "TriangleRaster" "queued" "I") (by decide +kernel)) (fun _ h9 => h9) rfl (by decide +kernel) rfl rfl (Nat.le_of_ble_eq_true rfl) dX1_reachPiece_9 (fun H locs hP hD hS => ?_)
  have hP : va_P (dC, dI) vwCl [(ad 0, .inr (1, [.int (nI w), .int (nI h), .ref (ad 1), .ref (ad 2), .ref (ad 3), .ref (ad 4), .ref (ad 5), .int (nI 0)])), (ad 1, .inl (tc 1, (w * h), .inl col)), (ad 4, .inl (tc 4, (w * h), .inl rea)), (ad 5, .inl (tc 5, (w * h), .inl que))] H := hP
  have hD : va_D A [(ad 0, .inr (1, [.int (nI w), .int (nI h), .ref (ad 1), .ref (ad 2), .ref (ad 3), .ref (ad 4), .ref (ad 5), .int (nI 0)])), (ad 1, .inl (tc 1, (w * h), .inl col)), (ad 4, .inl (tc 4, (w * h), .inl rea)), (ad 5, .inl (tc 5, (w * h), .inl que))] := hD
  refine lv_aload_n hx hb dX1_reachPiece_12 rfl (lv_at hl 1 rfl) ?_
  refine lv_iload_n hx hb dX1_reachPiece_13 rfl (lv_at hl 2 rfl) ?_
  refine lv_iload_n hx hb dX1_reachPiece_14 rfl (lv_at hl 3 rfl) ?_
  refine lv_iload_n hx hb dX1_reachPiece_15 rfl (lv_at hl 0 rfl) ?_
  refine m_callv (cs := [(ad 0, .inr (1, [.int (nI w), .int (nI h), .ref (ad 1), .ref (ad 2), .ref (ad 3), .ref (ad 4), .ref (ad 5), .int (nI 0)])), (ad 1, .inl (tc 1, (w * h), .inl col)), (ad 4, .inl (tc 4, (w * h), .inl rea)), (ad 5, .inl (tc 5, (w * h), .inl que))]) (wr := []) hP hD hS hA [0, 1, 2, 3] [] rfl rfl (by decide) (by decide) (va_runV (As := [.int x, .int y, .int c]) (rest := []) ⟨hx, hb, hml, hown, hts⟩ (c_X1_reach l dC dI _ ad tc w h 0 col rea que hw1 hw2 hh1 hh2 (Nat.zero_le _) x y c) (cwV 3 hts gX1_reachPiece_X1_reach rfl rfl rfl (by decide +kernel) ⟨Nat.le_of_ble_eq_true rfl, Nat.le_of_ble_eq_true rfl⟩) (m_preV (ci := 1) (q0 := 0) (hP.sub [0, 1, 2, 3] rfl) (hK.sub [0, 1, 2] rfl) (hD.sub [0, 1, 2, 3] (by decide) rfl) hN rfl rfl) rfl rfl hl.1 rfl (lv_room (Nat.le_of_ble_eq_true rfl)) dX1_reachPiece_16 ⟨Nat.le_of_ble_eq_true rfl, Nat.le_of_ble_eq_true rfl⟩) (fun u16 H locs q16 _ hP hD hS => ?_)
  obtain ⟨re16, qu16, k16⟩ := u16
  have hP : va_P (dC, dI) vwCl [(ad 0, .inr (1, [.int (nI w), .int (nI h), .ref (ad 1), .ref (ad 2), .ref (ad 3), .ref (ad 4), .ref (ad 5), .int (nI k16)])), (ad 1, .inl (tc 1, (w * h), .inl col)), (ad 4, .inl (tc 4, (w * h), .inl re16)), (ad 5, .inl (tc 5, (w * h), .inl qu16))] H := hP.sub [0, 1, 2, 3] rfl
  have hD : va_D A [(ad 0, .inr (1, [.int (nI w), .int (nI h), .ref (ad 1), .ref (ad 2), .ref (ad 3), .ref (ad 4), .ref (ad 5), .int (nI k16)])), (ad 1, .inl (tc 1, (w * h), .inl col)), (ad 4, .inl (tc 4, (w * h), .inl re16)), (ad 5, .inl (tc 5, (w * h), .inl qu16))] := hD.sub [0, 1, 2, 3] (by decide) rfl
  have hR16 : RCH w h col c x y rea que 0 (re16, qu16, k16) := q16
  obtain ⟨t1, t2, t3, t4, t5⟩ := BF_reach (i0 := lin w x y) BF_0 hR16 (fun _ _ => hang_self)
  refine lv_iconst (v := 0) hx hb dX1_reachPiece_19 (by decide) ?_
  refine lv_topi (fun zz ezz => ?_)
  obtain rfl : zz = nI 0 := ezz.trans (nI_0.symm)
  refine lv_istore (lv' := [(4, .int (nI 0)), (3, .int c), (0, .ref (ad 0)), (1, .int x), (2, .int y)]) hx hb dX1_reachPiece_20 hl (by decide) rfl (fun ls hl => ?_)
  have loop : ∀ (n : Nat) (ti : Nat) (re : Nat → Int32) (qu : Nat → Int32) (k : Nat), ti ≤ k → BFT w (w * h) col rea c (lin w x y) re qu k ti → w * h + 1 ≤ ti + n → ∀ (H : Heap) (locs : List Loc), va_P (dC, dI) vwCl [(ad 0, .inr (1, [.int (nI w), .int (nI h), .ref (ad 1), .ref (ad 2), .ref (ad 3), .ref (ad 4), .ref (ad 5), .int (nI k)])), (ad 1, .inl (tc 1, (w * h), .inl col)), (ad 4, .inl (tc 4, (w * h), .inl re)), (ad 5, .inl (tc 5, (w * h), .inl qu))] H → va_D A [(ad 0, .inr (1, [.int (nI w), .int (nI h), .ref (ad 1), .ref (ad 2), .ref (ad 3), .ref (ad 4), .ref (ad 5), .int (nI k)])), (ad 1, .inl (tc 1, (w * h), .inl col)), (ad 4, .inl (tc 4, (w * h), .inl re)), (ad 5, .inl (tc 5, (w * h), .inl qu))] → va_S A s.heap H locs → ∀ (ls : Array Slot), lv_has ls 7 [(0, .ref (ad 0)), (1, .int x), (2, .int y), (3, .int c), (4, .int (nI ti))] → W p l e (headSpec wsX1_reachPiece { frames := 3, cells := 0, slots := 0, locals := 69 }).room s m [.ref (ad 0), .int x, .int y].toArray below meth cD H locs 0 0 (MQ below (va_Qi (fun (r : Int32) (u : (Nat → Int32) × (Nat → Int32) × Nat) => r = nI u.2.2 ∧ PIECE w (w * h) col rea c (lin w x y) u.1 u.2.1 u.2.2) (mB (dC, dI) vwCl [(tc 1, .int), (tc 4, .boolean), (tc 5, .int)] A (fun u => [(ad 0, .inr (1, [.int (nI w), .int (nI h), .ref (ad 1), .ref (ad 2), .ref (ad 3), .ref (ad 4), .ref (ad 5), .int (nI u.2.2)])), (ad 1, .inl (tc 1, (w * h), .inl col)), (ad 4, .inl (tc 4, (w * h), .inl u.1)), (ad 5, .inl (tc 5, (w * h), .inl u.2.1))])) A) [.ref (ad 0), .int x, .int y].toArray s 0 0 A) (F0 m 22 ls []) := by
    intro n
    induction n with
    | zero => intro ti re qu k ht hT hm; exfalso; have := BF_k hT.1; omega
    | succ n ih =>
      intro ti re qu k ht hT hm H locs hP hD hS ls hl
      have hkn : k ≤ w * h := BF_k hT.1
      refine lv_iload hx hb dX1_reachPiece_22 (lv_at hl 4 rfl) ?_
      refine lv_aload_n hx hb dX1_reachPiece_24 rfl (lv_at hl 0 rfl) ?_
      refine va_get (D := (dC, dI)) (ci := 1) (v := .ref (ad 5)) (C := RX1) (T := TX1) (N := 8) hx hb hts (by decide +kernel) hown hK hP 0 rfl rfl 6 (by decide) (hts (.fieldLink RX1 38 "TriangleRaster" "queue" "[I") (by decide +kernel)) (fun _ h9 => h9) rfl dX1_reachPiece_25 ?_
      refine va_alen (v := nI (w * h)) hx hb hK hP 3 2 rfl rfl rfl dX1_reachPiece_28 ?_
      refine lv_icmp_ge (tgt := 119) hx hb dX1_reachPiece_29 (by decide) (fun c29 => ?_) (fun c29 => ?_)
      · refine lv_aload_n hx hb dX1_reachPiece_119 rfl (lv_at hl 0 rfl) ?_
        refine va_get (D := (dC, dI)) (ci := 1) (v := .int (nI k)) (C := RX1) (T := TX1) (N := 8) hx hb hts (by decide +kernel) hown hK hP 0 rfl rfl 7 (by decide) (hts (.fieldLink RX1 41 "TriangleRaster" "queued" "I") (by decide +kernel)) (fun _ h9 => h9) rfl dX1_reachPiece_120 ?_
        have hP9 := hP.sub (ws' := [(ad 0, .inr (1, [.int (nI w), .int (nI h), .ref (ad 1), .ref (ad 2), .ref (ad 3), .ref (ad 4), .ref (ad 5), .int (nI k)])), (ad 1, .inl (tc 1, (w * h), .inl col)), (ad 4, .inl (tc 4, (w * h), .inl re)), (ad 5, .inl (tc 5, (w * h), .inl qu))]) [0, 1, 2, 3] rfl
        have hD9 := hD.sub (ws' := [(ad 0, .inr (1, [.int (nI w), .int (nI h), .ref (ad 1), .ref (ad 2), .ref (ad 3), .ref (ad 4), .ref (ad 5), .int (nI k)])), (ad 1, .inl (tc 1, (w * h), .inl col)), (ad 4, .inl (tc 4, (w * h), .inl re)), (ad 5, .inl (tc 5, (w * h), .inl qu))]) [0, 1, 2, 3] (by decide) rfl
        exact W.iret (v := (nI k)) hx hb hr (fun t ht hW => ⟨⟨nI k, (re, qu, k), rfl, ⟨rfl, BFT_end ⟨lin_lt hin0, hc0⟩ hr0 hO (by have htk : ti = k := (by rw [nI_leI (by omega) (by omega)] at c29; omega); rw [htk] at hT; exact hT)⟩, by rw [ht]; exact hP9, va_K.moved hW.alike hK, hD9⟩, hS.F ht⟩) hS.2.2 dX1_reachPiece_123
      · refine lv_iload hx hb dX1_reachPiece_32 (lv_at hl 4 rfl) ?_
        refine lv_aload_n hx hb dX1_reachPiece_34 rfl (lv_at hl 0 rfl) ?_
        refine va_get (D := (dC, dI)) (ci := 1) (v := .int (nI k)) (C := RX1) (T := TX1) (N := 8) hx hb hts (by decide +kernel) hown hK hP 0 rfl rfl 7 (by decide) (hts (.fieldLink RX1 41 "TriangleRaster" "queued" "I") (by decide +kernel)) (fun _ h9 => h9) rfl dX1_reachPiece_35 ?_
        refine lv_icmp_ge (tgt := 119) hx hb dX1_reachPiece_38 (by decide) (fun c38 => ?_) (fun c38 => ?_)
        · refine lv_aload_n hx hb dX1_reachPiece_119 rfl (lv_at hl 0 rfl) ?_
          refine va_get (D := (dC, dI)) (ci := 1) (v := .int (nI k)) (C := RX1) (T := TX1) (N := 8) hx hb hts (by decide +kernel) hown hK hP 0 rfl rfl 7 (by decide) (hts (.fieldLink RX1 41 "TriangleRaster" "queued" "I") (by decide +kernel)) (fun _ h9 => h9) rfl dX1_reachPiece_120 ?_
          have hP9 := hP.sub (ws' := [(ad 0, .inr (1, [.int (nI w), .int (nI h), .ref (ad 1), .ref (ad 2), .ref (ad 3), .ref (ad 4), .ref (ad 5), .int (nI k)])), (ad 1, .inl (tc 1, (w * h), .inl col)), (ad 4, .inl (tc 4, (w * h), .inl re)), (ad 5, .inl (tc 5, (w * h), .inl qu))]) [0, 1, 2, 3] rfl
          have hD9 := hD.sub (ws' := [(ad 0, .inr (1, [.int (nI w), .int (nI h), .ref (ad 1), .ref (ad 2), .ref (ad 3), .ref (ad 4), .ref (ad 5), .int (nI k)])), (ad 1, .inl (tc 1, (w * h), .inl col)), (ad 4, .inl (tc 4, (w * h), .inl re)), (ad 5, .inl (tc 5, (w * h), .inl qu))]) [0, 1, 2, 3] (by decide) rfl
          exact W.iret (v := (nI k)) hx hb hr (fun t ht hW => ⟨⟨nI k, (re, qu, k), rfl, ⟨rfl, BFT_end ⟨lin_lt hin0, hc0⟩ hr0 hO (by have htk : ti = k := (by rw [nI_leI (by omega) (by omega)] at c38; omega); rw [htk] at hT; exact hT)⟩, by rw [ht]; exact hP9, va_K.moved hW.alike hK, hD9⟩, hS.F ht⟩) hS.2.2 dX1_reachPiece_123
        · have htn : ti < w * h := by rw [nI_leI (by omega) (by omega)] at c29; omega
          have htk : ti < k := by rw [nI_leI (by omega) (by omega)] at c38; omega
          obtain ⟨i, hqi, hni⟩ := hT.1.1 ti htk
          have hin := hni.1
          have hbd := row_bd hin
          refine lv_aload_n hx hb dX1_reachPiece_41 rfl (lv_at hl 0 rfl) ?_
          refine va_get (D := (dC, dI)) (ci := 1) (v := .ref (ad 5)) (C := RX1) (T := TX1) (N := 8) hx hb hts (by decide +kernel) hown hK hP 0 rfl rfl 6 (by decide) (hts (.fieldLink RX1 38 "TriangleRaster" "queue" "[I") (by decide +kernel)) (fun _ h9 => h9) rfl dX1_reachPiece_42 ?_
          refine lv_iload hx hb dX1_reachPiece_45 (lv_at hl 4 rfl) ?_
          refine va_iald hx hb hK hP 3 2 rfl rfl (vp_in_nI htn (by omega)) dX1_reachPiece_47 ?_
          refine lv_topi (fun zz ezz => ?_)
          obtain rfl : zz = nI i := ezz.trans ((show qu (nI ti).toNatClampNeg = nI i from (by rw [nI_clamp (by omega)]; exact hqi)))
          refine lv_aload_n hx hb dX1_reachPiece_48 rfl (lv_at hl 0 rfl) ?_
          refine va_get (D := (dC, dI)) (ci := 1) (v := .int (nI w)) (C := RX1) (T := TX1) (N := 8) hx hb hts (by decide +kernel) hown hK hP 0 rfl rfl 0 (by decide) (hts (.fieldLink RX1 13 "TriangleRaster" "width" "I") (by decide +kernel)) (fun _ h9 => h9) rfl dX1_reachPiece_49 ?_
          refine lv_irem hx hb dX1_reachPiece_52 (nI_ne0 (by omega) (by omega)) ?_
          refine lv_topi (fun zz ezz => ?_)
          obtain rfl : zz = nI (i % w) := ezz.trans (pk_rem (by omega) (by omega) (by omega))
          refine lv_istore (lv' := [(5, .int (nI (i % w))), (0, .ref (ad 0)), (1, .int x), (2, .int y), (3, .int c), (4, .int (nI ti))]) hx hb dX1_reachPiece_53 hl (by decide) rfl (fun ls hl => ?_)
          refine lv_aload_n hx hb dX1_reachPiece_55 rfl (lv_at hl 1 rfl) ?_
          refine va_get (D := (dC, dI)) (ci := 1) (v := .ref (ad 5)) (C := RX1) (T := TX1) (N := 8) hx hb hts (by decide +kernel) hown hK hP 0 rfl rfl 6 (by decide) (hts (.fieldLink RX1 38 "TriangleRaster" "queue" "[I") (by decide +kernel)) (fun _ h9 => h9) rfl dX1_reachPiece_56 ?_
          refine lv_iload hx hb dX1_reachPiece_59 (lv_at hl 5 rfl) ?_
          refine va_iald hx hb hK hP 3 2 rfl rfl (vp_in_nI htn (by omega)) dX1_reachPiece_61 ?_
          refine lv_topi (fun zz ezz => ?_)
          obtain rfl : zz = nI i := ezz.trans ((show qu (nI ti).toNatClampNeg = nI i from (by rw [nI_clamp (by omega)]; exact hqi)))
          refine lv_aload_n hx hb dX1_reachPiece_62 rfl (lv_at hl 1 rfl) ?_
          refine va_get (D := (dC, dI)) (ci := 1) (v := .int (nI w)) (C := RX1) (T := TX1) (N := 8) hx hb hts (by decide +kernel) hown hK hP 0 rfl rfl 0 (by decide) (hts (.fieldLink RX1 13 "TriangleRaster" "width" "I") (by decide +kernel)) (fun _ h9 => h9) rfl dX1_reachPiece_63 ?_
          refine lv_idiv hx hb dX1_reachPiece_66 (nI_ne0 (by omega) (by omega)) ?_
          refine lv_topi (fun zz ezz => ?_)
          obtain rfl : zz = nI (i / w) := ezz.trans (pk_div (by omega) (by omega) (by omega))
          refine lv_istore (lv' := [(6, .int (nI (i / w))), (5, .int (nI (i % w))), (0, .ref (ad 0)), (1, .int x), (2, .int y), (3, .int c), (4, .int (nI ti))]) hx hb dX1_reachPiece_67 hl (by decide) rfl (fun ls hl => ?_)
          refine lv_aload_n hx hb dX1_reachPiece_69 rfl (lv_at hl 2 rfl) ?_
          refine lv_iload hx hb dX1_reachPiece_70 (lv_at hl 1 rfl) ?_
          refine lv_iconst (v := 1) hx hb dX1_reachPiece_72 (by decide) ?_
          refine lv_isub hx hb dX1_reachPiece_73 ?_
          refine lv_iload hx hb dX1_reachPiece_74 (lv_at hl 0 rfl) ?_
          refine lv_iload_n hx hb dX1_reachPiece_76 rfl (lv_at hl 5 rfl) ?_
          refine m_callv (cs := [(ad 0, .inr (1, [.int (nI w), .int (nI h), .ref (ad 1), .ref (ad 2), .ref (ad 3), .ref (ad 4), .ref (ad 5), .int (nI k)])), (ad 1, .inl (tc 1, (w * h), .inl col)), (ad 4, .inl (tc 4, (w * h), .inl re)), (ad 5, .inl (tc 5, (w * h), .inl qu))]) (wr := []) hP hD hS hA [0, 1, 2, 3] [] rfl rfl (by decide) (by decide) (va_runV (As := [.int ((nI (i % w)) - 1), .int (nI (i / w)), .int c]) (rest := []) ⟨hx, hb, hml, hown, hts⟩ (c_X1_reach l dC dI _ ad tc w h k col re qu hw1 hw2 hh1 hh2 hkn ((nI (i % w)) - 1) (nI (i / w)) c) (cwV 3 hts gX1_reachPiece_X1_reach rfl rfl rfl (by decide +kernel) ⟨Nat.le_of_ble_eq_true rfl, Nat.le_of_ble_eq_true rfl⟩) (m_preV (ci := 1) (q0 := 0) (hP.sub [0, 1, 2, 3] rfl) (hK.sub [0, 1, 2] rfl) (hD.sub [0, 1, 2, 3] (by decide) rfl) hN rfl rfl) rfl rfl hl.1 rfl (lv_room (Nat.le_of_ble_eq_true rfl)) dX1_reachPiece_77 ⟨Nat.le_of_ble_eq_true rfl, Nat.le_of_ble_eq_true rfl⟩) (fun u77 H locs q77 _ hP hD hS => ?_)
          obtain ⟨re77, qu77, k77⟩ := u77
          have hP : va_P (dC, dI) vwCl [(ad 0, .inr (1, [.int (nI w), .int (nI h), .ref (ad 1), .ref (ad 2), .ref (ad 3), .ref (ad 4), .ref (ad 5), .int (nI k77)])), (ad 1, .inl (tc 1, (w * h), .inl col)), (ad 4, .inl (tc 4, (w * h), .inl re77)), (ad 5, .inl (tc 5, (w * h), .inl qu77))] H := hP.sub [0, 1, 2, 3] rfl
          have hD : va_D A [(ad 0, .inr (1, [.int (nI w), .int (nI h), .ref (ad 1), .ref (ad 2), .ref (ad 3), .ref (ad 4), .ref (ad 5), .int (nI k77)])), (ad 1, .inl (tc 1, (w * h), .inl col)), (ad 4, .inl (tc 4, (w * h), .inl re77)), (ad 5, .inl (tc 5, (w * h), .inl qu77))] := hD.sub [0, 1, 2, 3] (by decide) rfl
          have hR77 : RCH w h col c (nI (i % w) - 1) (nI (i / w)) re qu k (re77, qu77, k77) := q77
          have hk77 : k77 ≤ w * h := by rcases hR77 with ⟨g, e⟩ | ⟨g, e⟩ <;> (injection e with _ e; injection e with _ e; omega)
          refine lv_aload_n hx hb dX1_reachPiece_80 rfl (lv_at hl 2 rfl) ?_
          refine lv_iload hx hb dX1_reachPiece_81 (lv_at hl 1 rfl) ?_
          refine lv_iconst (v := 1) hx hb dX1_reachPiece_83 (by decide) ?_
          refine lv_iadd hx hb dX1_reachPiece_84 ?_
          refine lv_iload hx hb dX1_reachPiece_85 (lv_at hl 0 rfl) ?_
          refine lv_iload_n hx hb dX1_reachPiece_87 rfl (lv_at hl 5 rfl) ?_
          refine m_callv (cs := [(ad 0, .inr (1, [.int (nI w), .int (nI h), .ref (ad 1), .ref (ad 2), .ref (ad 3), .ref (ad 4), .ref (ad 5), .int (nI k77)])), (ad 1, .inl (tc 1, (w * h), .inl col)), (ad 4, .inl (tc 4, (w * h), .inl re77)), (ad 5, .inl (tc 5, (w * h), .inl qu77))]) (wr := []) hP hD hS hA [0, 1, 2, 3] [] rfl rfl (by decide) (by decide) (va_runV (As := [.int ((nI (i % w)) + 1), .int (nI (i / w)), .int c]) (rest := []) ⟨hx, hb, hml, hown, hts⟩ (c_X1_reach l dC dI _ ad tc w h k77 col re77 qu77 hw1 hw2 hh1 hh2 hk77 ((nI (i % w)) + 1) (nI (i / w)) c) (cwV 3 hts gX1_reachPiece_X1_reach rfl rfl rfl (by decide +kernel) ⟨Nat.le_of_ble_eq_true rfl, Nat.le_of_ble_eq_true rfl⟩) (m_preV (ci := 1) (q0 := 0) (hP.sub [0, 1, 2, 3] rfl) (hK.sub [0, 1, 2] rfl) (hD.sub [0, 1, 2, 3] (by decide) rfl) hN rfl rfl) rfl rfl hl.1 rfl (lv_room (Nat.le_of_ble_eq_true rfl)) dX1_reachPiece_88 ⟨Nat.le_of_ble_eq_true rfl, Nat.le_of_ble_eq_true rfl⟩) (fun u88 H locs q88 _ hP hD hS => ?_)
          obtain ⟨re88, qu88, k88⟩ := u88
          have hP : va_P (dC, dI) vwCl [(ad 0, .inr (1, [.int (nI w), .int (nI h), .ref (ad 1), .ref (ad 2), .ref (ad 3), .ref (ad 4), .ref (ad 5), .int (nI k88)])), (ad 1, .inl (tc 1, (w * h), .inl col)), (ad 4, .inl (tc 4, (w * h), .inl re88)), (ad 5, .inl (tc 5, (w * h), .inl qu88))] H := hP.sub [0, 1, 2, 3] rfl
          have hD : va_D A [(ad 0, .inr (1, [.int (nI w), .int (nI h), .ref (ad 1), .ref (ad 2), .ref (ad 3), .ref (ad 4), .ref (ad 5), .int (nI k88)])), (ad 1, .inl (tc 1, (w * h), .inl col)), (ad 4, .inl (tc 4, (w * h), .inl re88)), (ad 5, .inl (tc 5, (w * h), .inl qu88))] := hD.sub [0, 1, 2, 3] (by decide) rfl
          have hR88 : RCH w h col c (nI (i % w) + 1) (nI (i / w)) re77 qu77 k77 (re88, qu88, k88) := q88
          have hk88 : k88 ≤ w * h := by rcases hR88 with ⟨g, e⟩ | ⟨g, e⟩ <;> (injection e with _ e; injection e with _ e; omega)
          refine lv_aload_n hx hb dX1_reachPiece_91 rfl (lv_at hl 2 rfl) ?_
          refine lv_iload hx hb dX1_reachPiece_92 (lv_at hl 1 rfl) ?_
          refine lv_iload hx hb dX1_reachPiece_94 (lv_at hl 0 rfl) ?_
          refine lv_iconst (v := 1) hx hb dX1_reachPiece_96 (by decide) ?_
          refine lv_isub hx hb dX1_reachPiece_97 ?_
          refine lv_iload_n hx hb dX1_reachPiece_98 rfl (lv_at hl 5 rfl) ?_
          refine m_callv (cs := [(ad 0, .inr (1, [.int (nI w), .int (nI h), .ref (ad 1), .ref (ad 2), .ref (ad 3), .ref (ad 4), .ref (ad 5), .int (nI k88)])), (ad 1, .inl (tc 1, (w * h), .inl col)), (ad 4, .inl (tc 4, (w * h), .inl re88)), (ad 5, .inl (tc 5, (w * h), .inl qu88))]) (wr := []) hP hD hS hA [0, 1, 2, 3] [] rfl rfl (by decide) (by decide) (va_runV (As := [.int (nI (i % w)), .int ((nI (i / w)) - 1), .int c]) (rest := []) ⟨hx, hb, hml, hown, hts⟩ (c_X1_reach l dC dI _ ad tc w h k88 col re88 qu88 hw1 hw2 hh1 hh2 hk88 (nI (i % w)) ((nI (i / w)) - 1) c) (cwV 3 hts gX1_reachPiece_X1_reach rfl rfl rfl (by decide +kernel) ⟨Nat.le_of_ble_eq_true rfl, Nat.le_of_ble_eq_true rfl⟩) (m_preV (ci := 1) (q0 := 0) (hP.sub [0, 1, 2, 3] rfl) (hK.sub [0, 1, 2] rfl) (hD.sub [0, 1, 2, 3] (by decide) rfl) hN rfl rfl) rfl rfl hl.1 rfl (lv_room (Nat.le_of_ble_eq_true rfl)) dX1_reachPiece_99 ⟨Nat.le_of_ble_eq_true rfl, Nat.le_of_ble_eq_true rfl⟩) (fun u99 H locs q99 _ hP hD hS => ?_)
          obtain ⟨re99, qu99, k99⟩ := u99
          have hP : va_P (dC, dI) vwCl [(ad 0, .inr (1, [.int (nI w), .int (nI h), .ref (ad 1), .ref (ad 2), .ref (ad 3), .ref (ad 4), .ref (ad 5), .int (nI k99)])), (ad 1, .inl (tc 1, (w * h), .inl col)), (ad 4, .inl (tc 4, (w * h), .inl re99)), (ad 5, .inl (tc 5, (w * h), .inl qu99))] H := hP.sub [0, 1, 2, 3] rfl
          have hD : va_D A [(ad 0, .inr (1, [.int (nI w), .int (nI h), .ref (ad 1), .ref (ad 2), .ref (ad 3), .ref (ad 4), .ref (ad 5), .int (nI k99)])), (ad 1, .inl (tc 1, (w * h), .inl col)), (ad 4, .inl (tc 4, (w * h), .inl re99)), (ad 5, .inl (tc 5, (w * h), .inl qu99))] := hD.sub [0, 1, 2, 3] (by decide) rfl
          have hR99 : RCH w h col c (nI (i % w)) (nI (i / w) - 1) re88 qu88 k88 (re99, qu99, k99) := q99
          have hk99 : k99 ≤ w * h := by rcases hR99 with ⟨g, e⟩ | ⟨g, e⟩ <;> (injection e with _ e; injection e with _ e; omega)
          refine lv_aload_n hx hb dX1_reachPiece_102 rfl (lv_at hl 2 rfl) ?_
          refine lv_iload hx hb dX1_reachPiece_103 (lv_at hl 1 rfl) ?_
          refine lv_iload hx hb dX1_reachPiece_105 (lv_at hl 0 rfl) ?_
          refine lv_iconst (v := 1) hx hb dX1_reachPiece_107 (by decide) ?_
          refine lv_iadd hx hb dX1_reachPiece_108 ?_
          refine lv_iload_n hx hb dX1_reachPiece_109 rfl (lv_at hl 5 rfl) ?_
          refine m_callv (cs := [(ad 0, .inr (1, [.int (nI w), .int (nI h), .ref (ad 1), .ref (ad 2), .ref (ad 3), .ref (ad 4), .ref (ad 5), .int (nI k99)])), (ad 1, .inl (tc 1, (w * h), .inl col)), (ad 4, .inl (tc 4, (w * h), .inl re99)), (ad 5, .inl (tc 5, (w * h), .inl qu99))]) (wr := []) hP hD hS hA [0, 1, 2, 3] [] rfl rfl (by decide) (by decide) (va_runV (As := [.int (nI (i % w)), .int ((nI (i / w)) + 1), .int c]) (rest := []) ⟨hx, hb, hml, hown, hts⟩ (c_X1_reach l dC dI _ ad tc w h k99 col re99 qu99 hw1 hw2 hh1 hh2 hk99 (nI (i % w)) ((nI (i / w)) + 1) c) (cwV 3 hts gX1_reachPiece_X1_reach rfl rfl rfl (by decide +kernel) ⟨Nat.le_of_ble_eq_true rfl, Nat.le_of_ble_eq_true rfl⟩) (m_preV (ci := 1) (q0 := 0) (hP.sub [0, 1, 2, 3] rfl) (hK.sub [0, 1, 2] rfl) (hD.sub [0, 1, 2, 3] (by decide) rfl) hN rfl rfl) rfl rfl hl.1 rfl (lv_room (Nat.le_of_ble_eq_true rfl)) dX1_reachPiece_110 ⟨Nat.le_of_ble_eq_true rfl, Nat.le_of_ble_eq_true rfl⟩) (fun u110 H locs q110 _ hP hD hS => ?_)
          obtain ⟨re110, qu110, k110⟩ := u110
          have hP : va_P (dC, dI) vwCl [(ad 0, .inr (1, [.int (nI w), .int (nI h), .ref (ad 1), .ref (ad 2), .ref (ad 3), .ref (ad 4), .ref (ad 5), .int (nI k110)])), (ad 1, .inl (tc 1, (w * h), .inl col)), (ad 4, .inl (tc 4, (w * h), .inl re110)), (ad 5, .inl (tc 5, (w * h), .inl qu110))] H := hP.sub [0, 1, 2, 3] rfl
          have hD : va_D A [(ad 0, .inr (1, [.int (nI w), .int (nI h), .ref (ad 1), .ref (ad 2), .ref (ad 3), .ref (ad 4), .ref (ad 5), .int (nI k110)])), (ad 1, .inl (tc 1, (w * h), .inl col)), (ad 4, .inl (tc 4, (w * h), .inl re110)), (ad 5, .inl (tc 5, (w * h), .inl qu110))] := hD.sub [0, 1, 2, 3] (by decide) rfl
          have hR110 : RCH w h col c (nI (i % w)) (nI (i / w) + 1) re99 qu99 k99 (re110, qu110, k110) := q110
          obtain ⟨s1, s2⟩ := BFT_step hw2 hh2 hT htk hqi hni hR77 hR88 hR99 hR110
          refine lv_iinc (v := nI (ti + 1)) (lv' := [(4, .int (nI (ti + 1))), (6, .int (nI (i / w))), (5, .int (nI (i % w))), (0, .ref (ad 0)), (1, .int x), (2, .int y), (3, .int c)]) hx hb dX1_reachPiece_113 hl (k := 6) rfl (nI_add _ 1) (by decide) rfl (fun ls hl => ?_)
          refine lv_goto (tgt := 22) hx hb dX1_reachPiece_116 (by decide) ?_
          exact ih (ti + 1) re110 qu110 k110 s2 s1 (by omega) _ _ (hP.sub [0, 1, 2, 3] rfl) (hD.sub [0, 1, 2, 3] (by decide) rfl) hS ls (lv_sub hl [3, 4, 5, 6, 0] rfl)
  exact loop (w * h + 1) 0 re16 qu16 k16 (Nat.zero_le _) ⟨t1, t2 hin0 hc0, fun j i hj => absurd hj (Nat.not_lt_zero j)⟩ (by omega) _ _ (hP.sub [0, 1, 2, 3] rfl) (hD.sub [0, 1, 2, 3] (by decide) rfl) hS ls (lv_sub hl [2, 3, 4, 1, 0] rfl)

set_option maxHeartbeats 4000000 in
set_option maxRecDepth 100000 in
/-- fill -/
theorem c_X1_fill (l : Launch) (dC : Nat → ClassId) (dI : Nat → Nat → Nat) (sz : Nat) (ad : Nat → Nat) (tc : Nat → ClassId) (w h : Nat) (qd : Int32) (col rea que : Nat → Int32) (hw1 : 1 ≤ w) (hw2 : w ≤ 24) (hh1 : 1 ≤ h) (hh2 : h ≤ 24) (x y c : Int32) : Met l yX1_fill wsX1_fill ({ frames := 4, cells := 0, slots := 0, locals := 95 }) (mP (dC, dI) vwCl [(tc 1, .int), (tc 4, .boolean), (tc 5, .int)] [(ad 0, .inr (1, [.int (nI w), .int (nI h), .ref (ad 1), .ref (ad 2), .ref (ad 3), .ref (ad 4), .ref (ad 5), .int qd])), (ad 1, .inl (tc 1, (w * h), .inl col)), (ad 4, .inl (tc 4, (w * h), .inl rea)), (ad 5, .inl (tc 5, (w * h), .inl que))] sz [.ref (ad 0), .int x, .int y, .int c]) (va_Qi (fun (r : Int32) (u : (Nat → Int32) × (Nat → Int32) × (Nat → Int32) × Int32) => (¬ (inX w h x y ∧ ¬ col (lin w x y) = c) ∧ r = 0 ∧ u.1 = col) ∨ ((inX w h x y ∧ ¬ col (lin w x y) = c) ∧ r = nI (cnt (hang w (w * h) (fun a => col a = col (lin w x y)) (lin w x y)) (w * h)) ∧ LFin (w * h) (hang w (w * h) (fun a => col a = col (lin w x y)) (lin w x y)) col c u.1)) (mB (dC, dI) vwCl [(tc 1, .int), (tc 4, .boolean), (tc 5, .int)] (va_A [(ad 0, .inr (1, [.int (nI w), .int (nI h), .ref (ad 1), .ref (ad 2), .ref (ad 3), .ref (ad 4), .ref (ad 5), .int qd])), (ad 1, .inl (tc 1, (w * h), .inl col)), (ad 4, .inl (tc 4, (w * h), .inl rea)), (ad 5, .inl (tc 5, (w * h), .inl que))] sz) (fun u => [(ad 0, .inr (1, [.int (nI w), .int (nI h), .ref (ad 1), .ref (ad 2), .ref (ad 3), .ref (ad 4), .ref (ad 5), .int u.2.2.2])), (ad 1, .inl (tc 1, (w * h), .inl u.1)), (ad 4, .inl (tc 4, (w * h), .inl u.2.1)), (ad 5, .inl (tc 5, (w * h), .inl u.2.2.1))])) (va_A [(ad 0, .inr (1, [.int (nI w), .int (nI h), .ref (ad 1), .ref (ad 2), .ref (ad 3), .ref (ad 4), .ref (ad 5), .int qd])), (ad 1, .inl (tc 1, (w * h), .inl col)), (ad 4, .inl (tc 4, (w * h), .inl rea)), (ad 5, .inl (tc 5, (w * h), .inl que))] sz)) 0 0 (va_A [(ad 0, .inr (1, [.int (nI w), .int (nI h), .ref (ad 1), .ref (ad 2), .ref (ad 3), .ref (ad 4), .ref (ad 5), .int qd])), (ad 1, .inl (tc 1, (w * h), .inl col)), (ad 4, .inl (tc 4, (w * h), .inl rea)), (ad 5, .inl (tc 5, (w * h), .inl que))] sz) := by
  refine Met.ofW (cc := cX1_fill) (maxL := 7) (ret := (some .int)) (by decide) rfl ?_
  intro p e s m args below meth cD s₁ B hml hv
  obtain ⟨rfl, hsz, hP, hK, hD0, hN⟩ := hv
  have hx := B.exec
  have hb := B.bytes
  have hr := B.returns
  have hts := atoms_spec (ws := wsX1_fill) B.pre
  have hown : s.vm.findClass RX1 = some m.cls := findClass_of_methodNamed B.named
  have hlocks := B.notSynchronized
  subst hsz
  have hD := hD0.self (sz := s.heap.size)
  generalize hAe : va_A [(ad 0, .inr (1, [.int (nI w), .int (nI h), .ref (ad 1), .ref (ad 2), .ref (ad 3), .ref (ad 4), .ref (ad 5), .int qd])), (ad 1, .inl (tc 1, (w * h), .inl col)), (ad 4, .inl (tc 4, (w * h), .inl rea)), (ad 5, .inl (tc 5, (w * h), .inl que))] s.heap.size = A at hD ⊢
  have hA : ∀ q : Nat, s.heap.size ≤ q → A q := fun q h => by rw [← hAe]; exact Or.inr h
  have hS : va_S A s.heap s.heap [] := va_S.rf
  have hP : va_P (dC, dI) vwCl [(ad 0, .inr (1, [.int (nI w), .int (nI h), .ref (ad 1), .ref (ad 2), .ref (ad 3), .ref (ad 4), .ref (ad 5), .int qd])), (ad 1, .inl (tc 1, (w * h), .inl col)), (ad 4, .inl (tc 4, (w * h), .inl rea)), (ad 5, .inl (tc 5, (w * h), .inl que))] s.heap := hP
  have hl := lv_entry ([.ref (ad 0), .int x, .int y, .int c]) (n := 7) (Nat.le_of_ble_eq_true rfl)
  rw [lg_entry_eq]
  generalize (lg_sl ([.ref (ad 0), .int x, .int y, .int c]) ++ List.replicate (7 - (lg_sl ([.ref (ad 0), .int x, .int y, .int c])).length) Slot.unset).toArray = ls at hl ⊢
  have hl : lv_has ls 7 [(0, .ref (ad 0)), (1, .int x), (2, .int y), (3, .int c)] := hl
  have hwh := wh_le hw2 hh2
  refine lv_aload_n hx hb dX1_fill_0 rfl (lv_at hl 0 rfl) ?_
  refine lv_iload_n hx hb dX1_fill_1 rfl (lv_at hl 1 rfl) ?_
  refine lv_iload_n hx hb dX1_fill_2 rfl (lv_at hl 2 rfl) ?_
  refine m_calli (cs := [(ad 0, .inr (1, [.int (nI w), .int (nI h), .ref (ad 1), .ref (ad 2), .ref (ad 3), .ref (ad 4), .ref (ad 5), .int qd]))]) (wr := [(ad 1, .inl (tc 1, (w * h), .inl col)), (ad 4, .inl (tc 4, (w * h), .inl rea)), (ad 5, .inl (tc 5, (w * h), .inl que))]) hP hD hS hA [0] [1, 2, 3] rfl rfl (by decide) (by decide) (va_runV (As := [.int x, .int y]) (rest := []) ⟨hx, hb, hml, hown, hts⟩ (c_X1_indexOf l dC dI _ ad w h qd hw1 hw2 hh1 hh2 x y) (cwV 2 hts gX1_fill_X1_indexOf rfl rfl rfl (by decide +kernel) ⟨Nat.le_of_ble_eq_true rfl, Nat.le_of_ble_eq_true rfl⟩) (m_preV (ci := 1) (q0 := 0) (hP.sub [0] rfl) (hK.sub [] rfl) (hD.sub [0] (by decide) rfl) hN rfl rfl) rfl rfl hl.1 rfl (lv_room (Nat.le_of_ble_eq_true rfl)) dX1_fill_3 ⟨Nat.le_of_ble_eq_true rfl, Nat.le_of_ble_eq_true rfl⟩) (fun r3 _ H locs q3 _ hP hD hS => ?_)
  have hP : va_P (dC, dI) vwCl [(ad 0, .inr (1, [.int (nI w), .int (nI h), .ref (ad 1), .ref (ad 2), .ref (ad 3), .ref (ad 4), .ref (ad 5), .int qd])), (ad 1, .inl (tc 1, (w * h), .inl col)), (ad 4, .inl (tc 4, (w * h), .inl rea)), (ad 5, .inl (tc 5, (w * h), .inl que))] H := hP.sub [3, 0, 1, 2] rfl
  have hD : va_D A [(ad 0, .inr (1, [.int (nI w), .int (nI h), .ref (ad 1), .ref (ad 2), .ref (ad 3), .ref (ad 4), .ref (ad 5), .int qd])), (ad 1, .inl (tc 1, (w * h), .inl col)), (ad 4, .inl (tc 4, (w * h), .inl rea)), (ad 5, .inl (tc 5, (w * h), .inl que))] := hD.sub [3, 0, 1, 2] (by decide) rfl
  refine lv_istore (lv' := [(4, .int r3), (0, .ref (ad 0)), (1, .int x), (2, .int y), (3, .int c)]) hx hb dX1_fill_6 hl (by decide) rfl (fun ls hl => ?_)
  refine lv_iload hx hb dX1_fill_8 (lv_at hl 0 rfl) ?_
  refine lv_iconst (v := (-1)) hx hb dX1_fill_10 (by decide) ?_
  refine lv_icmp_eq (tgt := 25) hx hb dX1_fill_11 (by decide) (fun c11 => ?_) (fun c11 => ?_)
  · refine lv_iconst (v := 0) hx hb dX1_fill_25 (by decide) ?_
    have hP9 := hP.sub (ws' := [(ad 0, .inr (1, [.int (nI w), .int (nI h), .ref (ad 1), .ref (ad 2), .ref (ad 3), .ref (ad 4), .ref (ad 5), .int qd])), (ad 1, .inl (tc 1, (w * h), .inl col)), (ad 4, .inl (tc 4, (w * h), .inl rea)), (ad 5, .inl (tc 5, (w * h), .inl que))]) [0, 1, 2, 3] rfl
    have hD9 := hD.sub (ws' := [(ad 0, .inr (1, [.int (nI w), .int (nI h), .ref (ad 1), .ref (ad 2), .ref (ad 3), .ref (ad 4), .ref (ad 5), .int qd])), (ad 1, .inl (tc 1, (w * h), .inl col)), (ad 4, .inl (tc 4, (w * h), .inl rea)), (ad 5, .inl (tc 5, (w * h), .inl que))]) [0, 1, 2, 3] (by decide) rfl
    exact W.iret (v := 0) hx hb hr (fun t ht hW => ⟨⟨0, (col, rea, que, qd), rfl, Or.inl ⟨fun q => (fun h => (by rcases q3 with h1 | h1; exact nI_m1 (n := lin w x y) (by have := lin_lt h; have := wh_le hw2 hh2; omega) (h1.2.symm.trans c11); exact h1.1 h)) q.1, rfl, rfl⟩, by rw [ht]; exact hP9, va_K.moved hW.alike hK, hD9⟩, hS.F ht⟩) hS.2.2 dX1_fill_26
  · have hc9 : inX w h x y ∧ r3 = nI (lin w x y) := by
      rcases q3 with h | h
      · exact h
      · exact absurd h.2 c11
    have hlt9 := lin_lt hc9.1
    have hwh9 := wh_le hw2 hh2
    have hi9 : vp_in r3 (w * h) := by rw [hc9.2]; exact vp_in_nI hlt9 (by omega)
    have hcl9 : r3.toNatClampNeg = lin w x y := by rw [hc9.2]; exact nI_clamp (by omega)
    refine lv_aload_n hx hb dX1_fill_14 rfl (lv_at hl 1 rfl) ?_
    refine va_get (D := (dC, dI)) (ci := 1) (v := .ref (ad 1)) (C := RX1) (T := TX1) (N := 8) hx hb hts (by decide +kernel) hown hK hP 0 rfl rfl 2 (by decide) (hts (.fieldLink RX1 20 "TriangleRaster" "colours" "[I") (by decide +kernel)) (fun _ h9 => h9) rfl dX1_fill_15 ?_
    refine lv_iload hx hb dX1_fill_18 (lv_at hl 0 rfl) ?_
    refine va_iald hx hb hK hP 1 0 rfl rfl hi9 dX1_fill_20 ?_
    refine lv_topi (fun v20 ev20 => ?_)
    rw [hcl9] at ev20
    refine lv_iload_n hx hb dX1_fill_21 rfl (lv_at hl 4 rfl) ?_
    refine lv_icmp_ne (tgt := 27) hx hb dX1_fill_22 (by decide) (fun c22 => ?_) (fun c22 => ?_)
    · refine lv_aload_n hx hb dX1_fill_27 rfl (lv_at hl 1 rfl) ?_
      refine m_callv (cs := [(ad 0, .inr (1, [.int (nI w), .int (nI h), .ref (ad 1), .ref (ad 2), .ref (ad 3), .ref (ad 4), .ref (ad 5), .int qd])), (ad 4, .inl (tc 4, (w * h), .inl rea))]) (wr := [(ad 1, .inl (tc 1, (w * h), .inl col)), (ad 5, .inl (tc 5, (w * h), .inl que))]) hP hD hS hA [0, 2] [1, 3] rfl rfl (by decide) (by decide) (va_runV (As := []) (rest := []) ⟨hx, hb, hml, hown, hts⟩ (c_X1_forgetReached l dC dI _ ad tc w h qd rea hw1 hw2 hh1 hh2) (cwV 0 hts gX1_fill_X1_forgetReached rfl rfl rfl (by decide +kernel) ⟨Nat.le_of_ble_eq_true rfl, Nat.le_of_ble_eq_true rfl⟩) (m_preV (ci := 1) (q0 := 0) (hP.sub [0, 2] rfl) (hK.sub [1] rfl) (hD.sub [0, 2] (by decide) rfl) hN rfl rfl) rfl rfl hl.1 rfl (lv_room (Nat.le_of_ble_eq_true rfl)) dX1_fill_28 ⟨Nat.le_of_ble_eq_true rfl, Nat.le_of_ble_eq_true rfl⟩) (fun g28 H locs q28 _ hP hD hS => ?_)
      have hP : va_P (dC, dI) vwCl [(ad 0, .inr (1, [.int (nI w), .int (nI h), .ref (ad 1), .ref (ad 2), .ref (ad 3), .ref (ad 4), .ref (ad 5), .int qd])), (ad 1, .inl (tc 1, (w * h), .inl col)), (ad 4, .inl (tc 4, (w * h), .inl g28)), (ad 5, .inl (tc 5, (w * h), .inl que))] H := hP.sub [2, 0, 3, 1] rfl
      have hD : va_D A [(ad 0, .inr (1, [.int (nI w), .int (nI h), .ref (ad 1), .ref (ad 2), .ref (ad 3), .ref (ad 4), .ref (ad 5), .int qd])), (ad 1, .inl (tc 1, (w * h), .inl col)), (ad 4, .inl (tc 4, (w * h), .inl g28)), (ad 5, .inl (tc 5, (w * h), .inl que))] := hD.sub [2, 0, 3, 1] (by decide) rfl
      refine lv_aload_n hx hb dX1_fill_31 rfl (lv_at hl 1 rfl) ?_
      refine lv_iload_n hx hb dX1_fill_32 rfl (lv_at hl 2 rfl) ?_
      refine lv_iload_n hx hb dX1_fill_33 rfl (lv_at hl 3 rfl) ?_
      refine m_calli (cs := [(ad 0, .inr (1, [.int (nI w), .int (nI h), .ref (ad 1), .ref (ad 2), .ref (ad 3), .ref (ad 4), .ref (ad 5), .int qd])), (ad 1, .inl (tc 1, (w * h), .inl col)), (ad 4, .inl (tc 4, (w * h), .inl g28)), (ad 5, .inl (tc 5, (w * h), .inl que))]) (wr := []) hP hD hS hA [0, 1, 2, 3] [] rfl rfl (by decide) (by decide) (va_runV (As := [.int x, .int y]) (rest := []) ⟨hx, hb, hml, hown, hts⟩ (c_X1_reachPiece l dC dI _ ad tc w h qd col g28 que hw1 hw2 hh1 hh2 x y (col (lin w x y)) hc9.1 rfl (q28 _ hlt9) (OLD_0 q28)) (cwV 2 hts gX1_fill_X1_reachPiece rfl rfl rfl (by decide +kernel) ⟨Nat.le_of_ble_eq_true rfl, Nat.le_of_ble_eq_true rfl⟩) (m_preV (ci := 1) (q0 := 0) (hP.sub [0, 1, 2, 3] rfl) (hK.sub [0, 1, 2] rfl) (hD.sub [0, 1, 2, 3] (by decide) rfl) hN rfl rfl) rfl rfl hl.1 rfl (lv_room (Nat.le_of_ble_eq_true rfl)) dX1_fill_34 ⟨Nat.le_of_ble_eq_true rfl, Nat.le_of_ble_eq_true rfl⟩) (fun r34 u34 H locs q34 _ hP hD hS => ?_)
      obtain ⟨re34, qu34, k34⟩ := u34
      have hP : va_P (dC, dI) vwCl [(ad 0, .inr (1, [.int (nI w), .int (nI h), .ref (ad 1), .ref (ad 2), .ref (ad 3), .ref (ad 4), .ref (ad 5), .int (nI k34)])), (ad 1, .inl (tc 1, (w * h), .inl col)), (ad 4, .inl (tc 4, (w * h), .inl re34)), (ad 5, .inl (tc 5, (w * h), .inl qu34))] H := hP.sub [0, 1, 2, 3] rfl
      have hD : va_D A [(ad 0, .inr (1, [.int (nI w), .int (nI h), .ref (ad 1), .ref (ad 2), .ref (ad 3), .ref (ad 4), .ref (ad 5), .int (nI k34)])), (ad 1, .inl (tc 1, (w * h), .inl col)), (ad 4, .inl (tc 4, (w * h), .inl re34)), (ad 5, .inl (tc 5, (w * h), .inl qu34))] := hD.sub [0, 1, 2, 3] (by decide) rfl
      obtain ⟨e34, p1, p2, p3, p4, p5⟩ := q34
      have e34 : r34 = nI k34 := e34
      subst e34
      have p1 : k34 ≤ w * h := p1
      refine lv_istore (lv' := [(5, .int (nI k34)), (4, .int r3), (0, .ref (ad 0)), (1, .int x), (2, .int y), (3, .int c)]) hx hb dX1_fill_37 hl (by decide) rfl (fun ls hl => ?_)
      refine lv_iconst (v := 0) hx hb dX1_fill_39 (by decide) ?_
      refine lv_topi (fun zz ezz => ?_)
      obtain rfl : zz = nI 0 := ezz.trans (nI_0.symm)
      refine lv_istore (lv' := [(6, .int (nI 0)), (5, .int (nI k34)), (4, .int r3), (0, .ref (ad 0)), (1, .int x), (2, .int y), (3, .int c)]) hx hb dX1_fill_40 hl (by decide) rfl (fun ls hl => ?_)
      have loop : ∀ (n : Nat) (ti : Nat) (g : Nat → Int32), ti ≤ k34 → FILLI (w * h) qu34 col c ti g → k34 + 1 ≤ ti + n → ∀ (H : Heap) (locs : List Loc), va_P (dC, dI) vwCl [(ad 0, .inr (1, [.int (nI w), .int (nI h), .ref (ad 1), .ref (ad 2), .ref (ad 3), .ref (ad 4), .ref (ad 5), .int (nI k34)])), (ad 1, .inl (tc 1, (w * h), .inl g)), (ad 4, .inl (tc 4, (w * h), .inl re34)), (ad 5, .inl (tc 5, (w * h), .inl qu34))] H → va_D A [(ad 0, .inr (1, [.int (nI w), .int (nI h), .ref (ad 1), .ref (ad 2), .ref (ad 3), .ref (ad 4), .ref (ad 5), .int (nI k34)])), (ad 1, .inl (tc 1, (w * h), .inl g)), (ad 4, .inl (tc 4, (w * h), .inl re34)), (ad 5, .inl (tc 5, (w * h), .inl qu34))] → va_S A s.heap H locs → ∀ (ls : Array Slot), lv_has ls 7 [(0, .ref (ad 0)), (1, .int x), (2, .int y), (3, .int c), (4, .int r3), (5, .int (nI k34)), (6, .int (nI ti))] → W p l e (headSpec wsX1_fill { frames := 4, cells := 0, slots := 0, locals := 95 }).room s m [.ref (ad 0), .int x, .int y, .int c].toArray below meth cD H locs 0 0 (MQ below (va_Qi (fun (r : Int32) (u : (Nat → Int32) × (Nat → Int32) × (Nat → Int32) × Int32) => (¬ (inX w h x y ∧ ¬ col (lin w x y) = c) ∧ r = 0 ∧ u.1 = col) ∨ ((inX w h x y ∧ ¬ col (lin w x y) = c) ∧ r = nI (cnt (hang w (w * h) (fun a => col a = col (lin w x y)) (lin w x y)) (w * h)) ∧ LFin (w * h) (hang w (w * h) (fun a => col a = col (lin w x y)) (lin w x y)) col c u.1)) (mB (dC, dI) vwCl [(tc 1, .int), (tc 4, .boolean), (tc 5, .int)] A (fun u => [(ad 0, .inr (1, [.int (nI w), .int (nI h), .ref (ad 1), .ref (ad 2), .ref (ad 3), .ref (ad 4), .ref (ad 5), .int u.2.2.2])), (ad 1, .inl (tc 1, (w * h), .inl u.1)), (ad 4, .inl (tc 4, (w * h), .inl u.2.1)), (ad 5, .inl (tc 5, (w * h), .inl u.2.2.1))])) A) [.ref (ad 0), .int x, .int y, .int c].toArray s 0 0 A) (F0 m 42 ls []) := by
        intro n
        induction n with
        | zero => intro ti g ht hI hm; exfalso; omega
        | succ n ih =>
          intro ti g ht hI hm H locs hP hD hS ls hl
          refine lv_iload hx hb dX1_fill_42 (lv_at hl 6 rfl) ?_
          refine lv_iload hx hb dX1_fill_44 (lv_at hl 5 rfl) ?_
          refine lv_icmp_ge (tgt := 68) hx hb dX1_fill_46 (by decide) (fun c46 => ?_) (fun c46 => ?_)
          · refine lv_iload hx hb dX1_fill_68 (lv_at hl 5 rfl) ?_
            have hP9 := hP.sub (ws' := [(ad 0, .inr (1, [.int (nI w), .int (nI h), .ref (ad 1), .ref (ad 2), .ref (ad 3), .ref (ad 4), .ref (ad 5), .int (nI k34)])), (ad 1, .inl (tc 1, (w * h), .inl g)), (ad 4, .inl (tc 4, (w * h), .inl re34)), (ad 5, .inl (tc 5, (w * h), .inl qu34))]) [0, 1, 2, 3] rfl
            have hD9 := hD.sub (ws' := [(ad 0, .inr (1, [.int (nI w), .int (nI h), .ref (ad 1), .ref (ad 2), .ref (ad 3), .ref (ad 4), .ref (ad 5), .int (nI k34)])), (ad 1, .inl (tc 1, (w * h), .inl g)), (ad 4, .inl (tc 4, (w * h), .inl re34)), (ad 5, .inl (tc 5, (w * h), .inl qu34))]) [0, 1, 2, 3] (by decide) rfl
            exact W.iret (v := (nI k34)) hx hb hr (fun t ht hW => ⟨⟨nI k34, (g, re34, qu34, nI k34), rfl, Or.inr ⟨⟨hc9.1, fun q => c22 (ev20.trans q)⟩, by rw [show k34 = _ from p2], by have htk : ti = k34 := (by rw [nI_leI (by omega) (by omega)] at c46; omega); rw [htk] at hI; exact FILL_fin (by omega) hI p4 p5⟩, by rw [ht]; exact hP9, va_K.moved hW.alike hK, hD9⟩, hS.F ht⟩) hS.2.2 dX1_fill_70
          · have htk : ti < k34 := by rw [nI_leI (by omega) (by omega)] at c46; omega
            obtain ⟨i, hin, hqi, hhi⟩ := p4 ti htk
            have hqi : qu34 ti = nI i := hqi
            refine lv_aload_n hx hb dX1_fill_49 rfl (lv_at hl 0 rfl) ?_
            refine va_get (D := (dC, dI)) (ci := 1) (v := .ref (ad 1)) (C := RX1) (T := TX1) (N := 8) hx hb hts (by decide +kernel) hown hK hP 0 rfl rfl 2 (by decide) (hts (.fieldLink RX1 20 "TriangleRaster" "colours" "[I") (by decide +kernel)) (fun _ h9 => h9) rfl dX1_fill_50 ?_
            refine lv_aload_n hx hb dX1_fill_53 rfl (lv_at hl 0 rfl) ?_
            refine va_get (D := (dC, dI)) (ci := 1) (v := .ref (ad 5)) (C := RX1) (T := TX1) (N := 8) hx hb hts (by decide +kernel) hown hK hP 0 rfl rfl 6 (by decide) (hts (.fieldLink RX1 38 "TriangleRaster" "queue" "[I") (by decide +kernel)) (fun _ h9 => h9) rfl dX1_fill_54 ?_
            refine lv_iload hx hb dX1_fill_57 (lv_at hl 6 rfl) ?_
            refine va_iald hx hb hK hP 3 2 rfl rfl (vp_in_nI (n := ti) (by omega) (by omega)) dX1_fill_59 ?_
            refine lv_topi (fun zz ezz => ?_)
            obtain rfl : zz = nI i := ezz.trans ((show qu34 (nI ti).toNatClampNeg = nI i from (by rw [nI_clamp (by omega)]; exact hqi)))
            refine lv_iload_n hx hb dX1_fill_60 rfl (lv_at hl 3 rfl) ?_
            refine va_iast hx hb hK hP hD hS 1 0 rfl rfl (vp_in_nI hin (by omega)) dX1_fill_61 (fun H locs hP hD hS => ?_)
            have hP : va_P (dC, dI) vwCl [(ad 0, .inr (1, [.int (nI w), .int (nI h), .ref (ad 1), .ref (ad 2), .ref (ad 3), .ref (ad 4), .ref (ad 5), .int (nI k34)])), (ad 1, .inl (tc 1, (w * h), .inl (upd g (nI i).toNatClampNeg c))), (ad 4, .inl (tc 4, (w * h), .inl re34)), (ad 5, .inl (tc 5, (w * h), .inl qu34))] H := hP
            have hD : va_D A [(ad 0, .inr (1, [.int (nI w), .int (nI h), .ref (ad 1), .ref (ad 2), .ref (ad 3), .ref (ad 4), .ref (ad 5), .int (nI k34)])), (ad 1, .inl (tc 1, (w * h), .inl (upd g (nI i).toNatClampNeg c))), (ad 4, .inl (tc 4, (w * h), .inl re34)), (ad 5, .inl (tc 5, (w * h), .inl qu34))] := hD
            refine lv_iinc (v := nI (ti + 1)) (lv' := [(6, .int (nI (ti + 1))), (0, .ref (ad 0)), (1, .int x), (2, .int y), (3, .int c), (4, .int r3), (5, .int (nI k34))]) hx hb dX1_fill_62 hl (k := 6) rfl (nI_add _ 1) (by decide) rfl (fun ls hl => ?_)
            refine lv_goto (tgt := 42) hx hb dX1_fill_65 (by decide) ?_
            exact ih (ti + 1) (upd g (nI i).toNatClampNeg c) (by omega) (by rw [nI_clamp (by omega)]; exact FILL_step hI hqi (by omega)) (by omega) _ _ (hP.sub [0, 1, 2, 3] rfl) (hD.sub [0, 1, 2, 3] (by decide) rfl) hS ls (lv_sub hl [1, 2, 3, 4, 5, 6, 0] rfl)
      exact loop (k34 + 1) 0 col (Nat.zero_le _) FILL_0 (by omega) _ _ (hP.sub [0, 1, 2, 3] rfl) (hD.sub [0, 1, 2, 3] (by decide) rfl) hS ls (lv_sub hl [3, 4, 5, 6, 2, 1, 0] rfl)
    · refine lv_iconst (v := 0) hx hb dX1_fill_25 (by decide) ?_
      have hP9 := hP.sub (ws' := [(ad 0, .inr (1, [.int (nI w), .int (nI h), .ref (ad 1), .ref (ad 2), .ref (ad 3), .ref (ad 4), .ref (ad 5), .int qd])), (ad 1, .inl (tc 1, (w * h), .inl col)), (ad 4, .inl (tc 4, (w * h), .inl rea)), (ad 5, .inl (tc 5, (w * h), .inl que))]) [0, 1, 2, 3] rfl
      have hD9 := hD.sub (ws' := [(ad 0, .inr (1, [.int (nI w), .int (nI h), .ref (ad 1), .ref (ad 2), .ref (ad 3), .ref (ad 4), .ref (ad 5), .int qd])), (ad 1, .inl (tc 1, (w * h), .inl col)), (ad 4, .inl (tc 4, (w * h), .inl rea)), (ad 5, .inl (tc 5, (w * h), .inl que))]) [0, 1, 2, 3] (by decide) rfl
      exact W.iret (v := 0) hx hb hr (fun t ht hW => ⟨⟨0, (col, rea, que, qd), rfl, Or.inl ⟨fun q => q.2 (ev20.symm.trans c22), rfl, rfl⟩, by rw [ht]; exact hP9, va_K.moved hW.alike hK, hD9⟩, hS.F ht⟩) hS.2.2 dX1_fill_26

set_option maxHeartbeats 4000000 in
set_option maxRecDepth 100000 in
/-- pieces -/
theorem c_X1_pieces (l : Launch) (dC : Nat → ClassId) (dI : Nat → Nat → Nat) (sz : Nat) (ad : Nat → Nat) (tc : Nat → ClassId) (w h : Nat) (qd : Int32) (col rea que : Nat → Int32) (hw1 : 1 ≤ w) (hw2 : w ≤ 24) (hh1 : 1 ≤ h) (hh2 : h ≤ 24) (c : Int32) : Met l yX1_pieces wsX1_pieces ({ frames := 4, cells := 0, slots := 0, locals := 95 }) (mP (dC, dI) vwCl [(tc 1, .int), (tc 4, .boolean), (tc 5, .int)] [(ad 0, .inr (1, [.int (nI w), .int (nI h), .ref (ad 1), .ref (ad 2), .ref (ad 3), .ref (ad 4), .ref (ad 5), .int qd])), (ad 1, .inl (tc 1, (w * h), .inl col)), (ad 4, .inl (tc 4, (w * h), .inl rea)), (ad 5, .inl (tc 5, (w * h), .inl que))] sz [.ref (ad 0), .int c]) (va_Qi (fun (r : Int32) (u : (Nat → Int32) × (Nat → Int32) × Int32) => r = nI (cnt (PCS w (w * h) col c) (w * h))) (mB (dC, dI) vwCl [(tc 1, .int), (tc 4, .boolean), (tc 5, .int)] (va_A [(ad 0, .inr (1, [.int (nI w), .int (nI h), .ref (ad 1), .ref (ad 2), .ref (ad 3), .ref (ad 4), .ref (ad 5), .int qd])), (ad 1, .inl (tc 1, (w * h), .inl col)), (ad 4, .inl (tc 4, (w * h), .inl rea)), (ad 5, .inl (tc 5, (w * h), .inl que))] sz) (fun u => [(ad 0, .inr (1, [.int (nI w), .int (nI h), .ref (ad 1), .ref (ad 2), .ref (ad 3), .ref (ad 4), .ref (ad 5), .int u.2.2])), (ad 1, .inl (tc 1, (w * h), .inl col)), (ad 4, .inl (tc 4, (w * h), .inl u.1)), (ad 5, .inl (tc 5, (w * h), .inl u.2.1))])) (va_A [(ad 0, .inr (1, [.int (nI w), .int (nI h), .ref (ad 1), .ref (ad 2), .ref (ad 3), .ref (ad 4), .ref (ad 5), .int qd])), (ad 1, .inl (tc 1, (w * h), .inl col)), (ad 4, .inl (tc 4, (w * h), .inl rea)), (ad 5, .inl (tc 5, (w * h), .inl que))] sz)) 0 0 (va_A [(ad 0, .inr (1, [.int (nI w), .int (nI h), .ref (ad 1), .ref (ad 2), .ref (ad 3), .ref (ad 4), .ref (ad 5), .int qd])), (ad 1, .inl (tc 1, (w * h), .inl col)), (ad 4, .inl (tc 4, (w * h), .inl rea)), (ad 5, .inl (tc 5, (w * h), .inl que))] sz) := by
  refine Met.ofW (cc := cX1_pieces) (maxL := 4) (ret := (some .int)) (by decide) rfl ?_
  intro p e s m args below meth cD s₁ B hml hv
  obtain ⟨rfl, hsz, hP, hK, hD0, hN⟩ := hv
  have hx := B.exec
  have hb := B.bytes
  have hr := B.returns
  have hts := atoms_spec (ws := wsX1_pieces) B.pre
  have hown : s.vm.findClass RX1 = some m.cls := findClass_of_methodNamed B.named
  have hlocks := B.notSynchronized
  subst hsz
  have hD := hD0.self (sz := s.heap.size)
  generalize hAe : va_A [(ad 0, .inr (1, [.int (nI w), .int (nI h), .ref (ad 1), .ref (ad 2), .ref (ad 3), .ref (ad 4), .ref (ad 5), .int qd])), (ad 1, .inl (tc 1, (w * h), .inl col)), (ad 4, .inl (tc 4, (w * h), .inl rea)), (ad 5, .inl (tc 5, (w * h), .inl que))] s.heap.size = A at hD ⊢
  have hA : ∀ q : Nat, s.heap.size ≤ q → A q := fun q h => by rw [← hAe]; exact Or.inr h
  have hS : va_S A s.heap s.heap [] := va_S.rf
  have hP : va_P (dC, dI) vwCl [(ad 0, .inr (1, [.int (nI w), .int (nI h), .ref (ad 1), .ref (ad 2), .ref (ad 3), .ref (ad 4), .ref (ad 5), .int qd])), (ad 1, .inl (tc 1, (w * h), .inl col)), (ad 4, .inl (tc 4, (w * h), .inl rea)), (ad 5, .inl (tc 5, (w * h), .inl que))] s.heap := hP
  have hl := lv_entry ([.ref (ad 0), .int c]) (n := 4) (Nat.le_of_ble_eq_true rfl)
  rw [lg_entry_eq]
  generalize (lg_sl ([.ref (ad 0), .int c]) ++ List.replicate (4 - (lg_sl ([.ref (ad 0), .int c])).length) Slot.unset).toArray = ls at hl ⊢
  have hl : lv_has ls 4 [(0, .ref (ad 0)), (1, .int c)] := hl
  have hwh := wh_le hw2 hh2
  refine lv_aload_n hx hb dX1_pieces_0 rfl (lv_at hl 0 rfl) ?_
  refine m_callv (cs := [(ad 0, .inr (1, [.int (nI w), .int (nI h), .ref (ad 1), .ref (ad 2), .ref (ad 3), .ref (ad 4), .ref (ad 5), .int qd])), (ad 4, .inl (tc 4, (w * h), .inl rea))]) (wr := [(ad 1, .inl (tc 1, (w * h), .inl col)), (ad 5, .inl (tc 5, (w * h), .inl que))]) hP hD hS hA [0, 2] [1, 3] rfl rfl (by decide) (by decide) (va_runV (As := []) (rest := []) ⟨hx, hb, hml, hown, hts⟩ (c_X1_forgetReached l dC dI _ ad tc w h qd rea hw1 hw2 hh1 hh2) (cwV 0 hts gX1_pieces_X1_forgetReached rfl rfl rfl (by decide +kernel) ⟨Nat.le_of_ble_eq_true rfl, Nat.le_of_ble_eq_true rfl⟩) (m_preV (ci := 1) (q0 := 0) (hP.sub [0, 2] rfl) (hK.sub [1] rfl) (hD.sub [0, 2] (by decide) rfl) hN rfl rfl) rfl rfl hl.1 rfl (lv_room (Nat.le_of_ble_eq_true rfl)) dX1_pieces_1 ⟨Nat.le_of_ble_eq_true rfl, Nat.le_of_ble_eq_true rfl⟩) (fun g1 H locs q1 _ hP hD hS => ?_)
  have hP : va_P (dC, dI) vwCl [(ad 0, .inr (1, [.int (nI w), .int (nI h), .ref (ad 1), .ref (ad 2), .ref (ad 3), .ref (ad 4), .ref (ad 5), .int qd])), (ad 1, .inl (tc 1, (w * h), .inl col)), (ad 4, .inl (tc 4, (w * h), .inl g1)), (ad 5, .inl (tc 5, (w * h), .inl que))] H := hP.sub [2, 0, 3, 1] rfl
  have hD : va_D A [(ad 0, .inr (1, [.int (nI w), .int (nI h), .ref (ad 1), .ref (ad 2), .ref (ad 3), .ref (ad 4), .ref (ad 5), .int qd])), (ad 1, .inl (tc 1, (w * h), .inl col)), (ad 4, .inl (tc 4, (w * h), .inl g1)), (ad 5, .inl (tc 5, (w * h), .inl que))] := hD.sub [2, 0, 3, 1] (by decide) rfl
  refine lv_iconst (v := 0) hx hb dX1_pieces_4 (by decide) ?_
  refine lv_topi (fun zz ezz => ?_)
  obtain rfl : zz = nI 0 := ezz.trans (nI_0.symm)
  refine lv_istore_n (lv' := [(2, .int (nI 0)), (0, .ref (ad 0)), (1, .int c)]) hx hb dX1_pieces_5 rfl hl (by decide) rfl (fun ls hl => ?_)
  refine lv_iconst (v := 0) hx hb dX1_pieces_6 (by decide) ?_
  refine lv_topi (fun zz ezz => ?_)
  obtain rfl : zz = nI 0 := ezz.trans (nI_0.symm)
  refine lv_istore_n (lv' := [(3, .int (nI 0)), (2, .int (nI 0)), (0, .ref (ad 0)), (1, .int c)]) hx hb dX1_pieces_7 rfl hl (by decide) rfl (fun ls hl => ?_)
  have loop : ∀ (n : Nat) (i : Nat) (k : Nat) (re : Nat → Int32) (qu : Nat → Int32) (qq : Int32), i ≤ w * h → k = cnt (PCS w (w * h) col c) i → PRE w (w * h) col c i re → w * h + 1 ≤ i + n → ∀ (H : Heap) (locs : List Loc), va_P (dC, dI) vwCl [(ad 0, .inr (1, [.int (nI w), .int (nI h), .ref (ad 1), .ref (ad 2), .ref (ad 3), .ref (ad 4), .ref (ad 5), .int qq])), (ad 1, .inl (tc 1, (w * h), .inl col)), (ad 4, .inl (tc 4, (w * h), .inl re)), (ad 5, .inl (tc 5, (w * h), .inl qu))] H → va_D A [(ad 0, .inr (1, [.int (nI w), .int (nI h), .ref (ad 1), .ref (ad 2), .ref (ad 3), .ref (ad 4), .ref (ad 5), .int qq])), (ad 1, .inl (tc 1, (w * h), .inl col)), (ad 4, .inl (tc 4, (w * h), .inl re)), (ad 5, .inl (tc 5, (w * h), .inl qu))] → va_S A s.heap H locs → ∀ (ls : Array Slot), lv_has ls 4 [(0, .ref (ad 0)), (1, .int c), (2, .int (nI k)), (3, .int (nI i))] → W p l e (headSpec wsX1_pieces { frames := 4, cells := 0, slots := 0, locals := 95 }).room s m [.ref (ad 0), .int c].toArray below meth cD H locs 0 0 (MQ below (va_Qi (fun (r : Int32) (u : (Nat → Int32) × (Nat → Int32) × Int32) => r = nI (cnt (PCS w (w * h) col c) (w * h))) (mB (dC, dI) vwCl [(tc 1, .int), (tc 4, .boolean), (tc 5, .int)] A (fun u => [(ad 0, .inr (1, [.int (nI w), .int (nI h), .ref (ad 1), .ref (ad 2), .ref (ad 3), .ref (ad 4), .ref (ad 5), .int u.2.2])), (ad 1, .inl (tc 1, (w * h), .inl col)), (ad 4, .inl (tc 4, (w * h), .inl u.1)), (ad 5, .inl (tc 5, (w * h), .inl u.2.1))])) A) [.ref (ad 0), .int c].toArray s 0 0 A) (F0 m 8 ls []) := by
    intro n
    induction n with
    | zero => intro i k re qu qq hi hk hI hm; exfalso; omega
    | succ n ih =>
      intro i k re qu qq hi hk hI hm H locs hP hD hS ls hl
      refine lv_iload_n hx hb dX1_pieces_8 rfl (lv_at hl 3 rfl) ?_
      refine lv_aload_n hx hb dX1_pieces_9 rfl (lv_at hl 0 rfl) ?_
      refine va_get (D := (dC, dI)) (ci := 1) (v := .ref (ad 1)) (C := RX1) (T := TX1) (N := 8) hx hb hts (by decide +kernel) hown hK hP 0 rfl rfl 2 (by decide) (hts (.fieldLink RX1 20 "TriangleRaster" "colours" "[I") (by decide +kernel)) (fun _ h9 => h9) rfl dX1_pieces_10 ?_
      refine va_alen (v := nI (w * h)) hx hb hK hP 1 0 rfl rfl rfl dX1_pieces_13 ?_
      refine lv_icmp_ge (tgt := 62) hx hb dX1_pieces_14 (by decide) (fun c14 => ?_) (fun c14 => ?_)
      · refine lv_iload_n hx hb dX1_pieces_62 rfl (lv_at hl 2 rfl) ?_
        have hP9 := hP.sub (ws' := [(ad 0, .inr (1, [.int (nI w), .int (nI h), .ref (ad 1), .ref (ad 2), .ref (ad 3), .ref (ad 4), .ref (ad 5), .int qq])), (ad 1, .inl (tc 1, (w * h), .inl col)), (ad 4, .inl (tc 4, (w * h), .inl re)), (ad 5, .inl (tc 5, (w * h), .inl qu))]) [0, 1, 2, 3] rfl
        have hD9 := hD.sub (ws' := [(ad 0, .inr (1, [.int (nI w), .int (nI h), .ref (ad 1), .ref (ad 2), .ref (ad 3), .ref (ad 4), .ref (ad 5), .int qq])), (ad 1, .inl (tc 1, (w * h), .inl col)), (ad 4, .inl (tc 4, (w * h), .inl re)), (ad 5, .inl (tc 5, (w * h), .inl qu))]) [0, 1, 2, 3] (by decide) rfl
        exact W.iret (v := (nI k)) hx hb hr (fun t ht hW => ⟨⟨nI k, (re, qu, qq), rfl, by rw [hk, show i = w * h by rw [nI_leI (by omega) (by omega)] at c14; omega], by rw [ht]; exact hP9, va_K.moved hW.alike hK, hD9⟩, hS.F ht⟩) hS.2.2 dX1_pieces_63
      · have hlt : i < w * h := by rw [nI_leI (by omega) (by omega)] at c14; omega
        have hbd := row_bd hlt
        refine lv_aload_n hx hb dX1_pieces_17 rfl (lv_at hl 0 rfl) ?_
        refine va_get (D := (dC, dI)) (ci := 1) (v := .ref (ad 1)) (C := RX1) (T := TX1) (N := 8) hx hb hts (by decide +kernel) hown hK hP 0 rfl rfl 2 (by decide) (hts (.fieldLink RX1 20 "TriangleRaster" "colours" "[I") (by decide +kernel)) (fun _ h9 => h9) rfl dX1_pieces_18 ?_
        refine lv_iload_n hx hb dX1_pieces_21 rfl (lv_at hl 3 rfl) ?_
        refine va_iald hx hb hK hP 1 0 rfl rfl (vp_in_nI hlt (by omega)) dX1_pieces_22 ?_
        refine lv_topi (fun v22 ev22 => ?_)
        rw [nI_clamp (by omega)] at ev22
        refine lv_iload_n hx hb dX1_pieces_23 rfl (lv_at hl 1 rfl) ?_
        refine lv_icmp_ne (tgt := 56) hx hb dX1_pieces_24 (by decide) (fun c24 => ?_) (fun c24 => ?_)
        · obtain ⟨s1, s2⟩ := PRE_other hI (fun q => c24 (ev22.trans q))
          refine lv_iinc (v := nI (i + 1)) (lv' := [(3, .int (nI (i + 1))), (0, .ref (ad 0)), (1, .int c), (2, .int (nI k))]) hx hb dX1_pieces_56 hl (k := 3) rfl (nI_add _ 1) (by decide) rfl (fun ls hl => ?_)
          refine lv_goto (tgt := 8) hx hb dX1_pieces_59 (by decide) ?_
          exact ih (i + 1) k re qu qq (by omega) (by rw [hk, cnt_no s2]) s1 (by omega) _ _ (hP.sub [0, 1, 2, 3] rfl) (hD.sub [0, 1, 2, 3] (by decide) rfl) hS ls (lv_sub hl [1, 2, 3, 0] rfl)
        · refine lv_aload_n hx hb dX1_pieces_27 rfl (lv_at hl 0 rfl) ?_
          refine va_get (D := (dC, dI)) (ci := 1) (v := .ref (ad 4)) (C := RX1) (T := TX1) (N := 8) hx hb hts (by decide +kernel) hown hK hP 0 rfl rfl 5 (by decide) (hts (.fieldLink RX1 34 "TriangleRaster" "reached" "[Z") (by decide +kernel)) (fun _ h9 => h9) rfl dX1_pieces_28 ?_
          refine lv_iload_n hx hb dX1_pieces_31 rfl (lv_at hl 3 rfl) ?_
          refine va_zald hx hb hK hP 2 1 rfl rfl (vp_in_nI hlt (by omega)) dX1_pieces_32 ?_
          refine lv_topi (fun v32 ev32 => ?_)
          rw [nI_clamp (by omega)] at ev32
          refine lv_if_ne (tgt := 56) hx hb dX1_pieces_33 (by decide) (fun c33 => ?_) (fun c33 => ?_)
          · obtain ⟨s1, s2⟩ := PRE_seen hlt hI (fun q => c33 (ev32.trans q))
            refine lv_iinc (v := nI (i + 1)) (lv' := [(3, .int (nI (i + 1))), (0, .ref (ad 0)), (1, .int c), (2, .int (nI k))]) hx hb dX1_pieces_56 hl (k := 3) rfl (nI_add _ 1) (by decide) rfl (fun ls hl => ?_)
            refine lv_goto (tgt := 8) hx hb dX1_pieces_59 (by decide) ?_
            exact ih (i + 1) k re qu qq (by omega) (by rw [hk, cnt_no s2]) s1 (by omega) _ _ (hP.sub [0, 1, 2, 3] rfl) (hD.sub [0, 1, 2, 3] (by decide) rfl) hS ls (lv_sub hl [1, 2, 3, 0] rfl)
          · refine lv_aload_n hx hb dX1_pieces_36 rfl (lv_at hl 0 rfl) ?_
            refine lv_iload_n hx hb dX1_pieces_37 rfl (lv_at hl 3 rfl) ?_
            refine lv_aload_n hx hb dX1_pieces_38 rfl (lv_at hl 0 rfl) ?_
            refine va_get (D := (dC, dI)) (ci := 1) (v := .int (nI w)) (C := RX1) (T := TX1) (N := 8) hx hb hts (by decide +kernel) hown hK hP 0 rfl rfl 0 (by decide) (hts (.fieldLink RX1 13 "TriangleRaster" "width" "I") (by decide +kernel)) (fun _ h9 => h9) rfl dX1_pieces_39 ?_
            refine lv_irem hx hb dX1_pieces_42 (nI_ne0 (by omega) (by omega)) ?_
            refine lv_topi (fun zz ezz => ?_)
            obtain rfl : zz = nI (i % w) := ezz.trans (pk_rem (by omega) (by omega) (by omega))
            refine lv_iload_n hx hb dX1_pieces_43 rfl (lv_at hl 3 rfl) ?_
            refine lv_aload_n hx hb dX1_pieces_44 rfl (lv_at hl 0 rfl) ?_
            refine va_get (D := (dC, dI)) (ci := 1) (v := .int (nI w)) (C := RX1) (T := TX1) (N := 8) hx hb hts (by decide +kernel) hown hK hP 0 rfl rfl 0 (by decide) (hts (.fieldLink RX1 13 "TriangleRaster" "width" "I") (by decide +kernel)) (fun _ h9 => h9) rfl dX1_pieces_45 ?_
            refine lv_idiv hx hb dX1_pieces_48 (nI_ne0 (by omega) (by omega)) ?_
            refine lv_topi (fun zz ezz => ?_)
            obtain rfl : zz = nI (i / w) := ezz.trans (pk_div (by omega) (by omega) (by omega))
            have hl49 : lin w (nI (i % w)) (nI (i / w)) = i := by rw [lin_nI (by omega) (by omega)]; exact row_of w i
            have hin49 : inX w h (nI (i % w)) (nI (i / w)) := inX_nI hw2 hh2 hbd.1 hbd.2
            refine m_calli (cs := [(ad 0, .inr (1, [.int (nI w), .int (nI h), .ref (ad 1), .ref (ad 2), .ref (ad 3), .ref (ad 4), .ref (ad 5), .int qq])), (ad 1, .inl (tc 1, (w * h), .inl col)), (ad 4, .inl (tc 4, (w * h), .inl re)), (ad 5, .inl (tc 5, (w * h), .inl qu))]) (wr := []) hP hD hS hA [0, 1, 2, 3] [] rfl rfl (by decide) (by decide) (va_runV (As := [.int (nI (i % w)), .int (nI (i / w))]) (rest := []) ⟨hx, hb, hml, hown, hts⟩ (c_X1_reachPiece l dC dI _ ad tc w h qq col re qu hw1 hw2 hh1 hh2 (nI (i % w)) (nI (i / w)) c hin49 (by rw [hl49]; exact ev22.symm.trans c24) (by rw [hl49]; exact ev32.symm.trans c33) (PRE_old hi hI)) (cwV 2 hts gX1_pieces_X1_reachPiece rfl rfl rfl (by decide +kernel) ⟨Nat.le_of_ble_eq_true rfl, Nat.le_of_ble_eq_true rfl⟩) (m_preV (ci := 1) (q0 := 0) (hP.sub [0, 1, 2, 3] rfl) (hK.sub [0, 1, 2] rfl) (hD.sub [0, 1, 2, 3] (by decide) rfl) hN rfl rfl) rfl rfl hl.1 rfl (lv_room (Nat.le_of_ble_eq_true rfl)) dX1_pieces_49 ⟨Nat.le_of_ble_eq_true rfl, Nat.le_of_ble_eq_true rfl⟩) (fun r49 u49 H locs q49 _ hP hD hS => ?_)
            obtain ⟨re49, qu49, k49⟩ := u49
            have hP : va_P (dC, dI) vwCl [(ad 0, .inr (1, [.int (nI w), .int (nI h), .ref (ad 1), .ref (ad 2), .ref (ad 3), .ref (ad 4), .ref (ad 5), .int (nI k49)])), (ad 1, .inl (tc 1, (w * h), .inl col)), (ad 4, .inl (tc 4, (w * h), .inl re49)), (ad 5, .inl (tc 5, (w * h), .inl qu49))] H := hP.sub [0, 1, 2, 3] rfl
            have hD : va_D A [(ad 0, .inr (1, [.int (nI w), .int (nI h), .ref (ad 1), .ref (ad 2), .ref (ad 3), .ref (ad 4), .ref (ad 5), .int (nI k49)])), (ad 1, .inl (tc 1, (w * h), .inl col)), (ad 4, .inl (tc 4, (w * h), .inl re49)), (ad 5, .inl (tc 5, (w * h), .inl qu49))] := hD.sub [0, 1, 2, 3] (by decide) rfl
            obtain ⟨-, -, -, p3, -, -⟩ := q49
            rw [hl49] at p3
            obtain ⟨s1, s2⟩ := PRE_new hlt (ev22.symm.trans c24) hI (ev32.symm.trans c33) p3
            refine lv_pop hx hb dX1_pieces_52 rfl ?_
            refine lv_iinc (v := nI (k + 1)) (lv' := [(2, .int (nI (k + 1))), (0, .ref (ad 0)), (1, .int c), (3, .int (nI i))]) hx hb dX1_pieces_53 hl (k := 2) rfl (nI_add _ 1) (by decide) rfl (fun ls hl => ?_)
            refine lv_iinc (v := nI (i + 1)) (lv' := [(3, .int (nI (i + 1))), (2, .int (nI (k + 1))), (0, .ref (ad 0)), (1, .int c)]) hx hb dX1_pieces_56 hl (k := 3) rfl (nI_add _ 1) (by decide) rfl (fun ls hl => ?_)
            refine lv_goto (tgt := 8) hx hb dX1_pieces_59 (by decide) ?_
            exact ih (i + 1) (k + 1) re49 qu49 (nI k49) (by omega) (by rw [hk, cnt_yes s2]) s1 (by omega) _ _ (hP.sub [0, 1, 2, 3] rfl) (hD.sub [0, 1, 2, 3] (by decide) rfl) hS ls (lv_sub hl [2, 3, 1, 0] rfl)
  exact loop (w * h + 1) 0 0 g1 que qd (Nat.zero_le _) rfl (PRE_0 q1) (by omega) _ _ (hP.sub [0, 1, 2, 3] rfl) (hD.sub [0, 1, 2, 3] (by decide) rfl) hS ls (lv_sub hl [2, 3, 1, 0] rfl)

