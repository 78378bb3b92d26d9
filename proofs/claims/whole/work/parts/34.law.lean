/-- the law at pc with its counter at i: class and reference hold the same picture -/
def LawSt (p : Program) (l : Launch) (e : Env) (s : State) (m : MethodId) (below : List Frame) (meth : Method) (cD : Code) (b : Nat) (dC : Nat → ClassId) (dI : Nat → Nat → Nat) (pc i : Nat) : Prop := ∀ (ad am : Nat → Nat) (tc tm : Nat → ClassId) (w h : Nat) (qd se th : Int32) (ar : Int64) (vx vy vz col dep rea que mc md mk : Nat → Int32), (1 ≤ w ∧ w ≤ 24 ∧ 1 ≤ h ∧ h ≤ 24) → vb vx vy → zb vz → facOK vx vy se th ar → REL (w * h) col (ab w mc) → REL (w * h) dep (ab w md) → ∀ (H : Heap) (locs : List Loc), va_K (dC, dI) vwCl [(tc 1, .int), (tc 2, .int), (tc 4, .boolean), (tc 5, .int), (tc 6, .int), (tc 7, .int), (tc 8, .int), (tm 1, .int), (tm 2, .int), (tm 3, .int), (tm 4, .int), (tm 5, .int), (tm 6, .boolean)] s → va_P (dC, dI) vwCl [(ad 0, .inr (1, [.int (nI w), .int (nI h), .ref (ad 1), .ref (ad 2), .ref (ad 3), .ref (ad 4), .ref (ad 5), .int qd])), (ad 1, .inl (tc 1, (w * h), .inl col)), (ad 2, .inl (tc 2, (w * h), .inl dep)), (ad 3, .inr (0, [.ref (ad 6), .ref (ad 7), .ref (ad 8), .int se, .int th, .long ar])), (ad 4, .inl (tc 4, (w * h), .inl rea)), (ad 5, .inl (tc 5, (w * h), .inl que)), (ad 6, .inl (tc 6, 3, .inl vx)), (ad 7, .inl (tc 7, 3, .inl vy)), (ad 8, .inl (tc 8, 3, .inl vz)), (am 0, .inr (2, [.int (nI w), .int (nI h), .ref (am 1), .ref (am 2), .ref (am 3), .ref (am 4), .ref (am 5), .ref (am 6)])), (am 1, .inl (tm 1, 576, .inl mc)), (am 2, .inl (tm 2, 576, .inl md)), (am 3, .inl (tm 3, 3, .inl vx)), (am 4, .inl (tm 4, 3, .inl vy)), (am 5, .inl (tm 5, 3, .inl vz)), (am 6, .inl (tm 6, 576, .inl mk))] H → va_D (fun q : Nat => s.heap.size ≤ q) [(ad 0, .inr (1, [.int (nI w), .int (nI h), .ref (ad 1), .ref (ad 2), .ref (ad 3), .ref (ad 4), .ref (ad 5), .int qd])), (ad 1, .inl (tc 1, (w * h), .inl col)), (ad 2, .inl (tc 2, (w * h), .inl dep)), (ad 3, .inr (0, [.ref (ad 6), .ref (ad 7), .ref (ad 8), .int se, .int th, .long ar])), (ad 4, .inl (tc 4, (w * h), .inl rea)), (ad 5, .inl (tc 5, (w * h), .inl que)), (ad 6, .inl (tc 6, 3, .inl vx)), (ad 7, .inl (tc 7, 3, .inl vy)), (ad 8, .inl (tc 8, 3, .inl vz)), (am 0, .inr (2, [.int (nI w), .int (nI h), .ref (am 1), .ref (am 2), .ref (am 3), .ref (am 4), .ref (am 5), .ref (am 6)])), (am 1, .inl (tm 1, 576, .inl mc)), (am 2, .inl (tm 2, 576, .inl md)), (am 3, .inl (tm 3, 3, .inl vx)), (am 4, .inl (tm 4, 3, .inl vy)), (am 5, .inl (tm 5, 3, .inl vz)), (am 6, .inl (tm 6, 576, .inl mk))] → va_S (fun q : Nat => s.heap.size ≤ q) s.heap H locs → ∀ (ls : Array Slot), lv_has ls 4 [(0, .ref b), (1, .ref (ad 0)), (2, .ref (am 0)), (3, .int (nI i))] → W p l e room_1 s m #[Value.ref b] below meth cD H locs 16 4072 (lw_Z below #[Value.ref b] s) (F0 m pc ls [])
set_option maxHeartbeats 1000000 in
set_option maxRecDepth 100000 in
/-- the law: clear -/
theorem law_108 {p : Program} {l : Launch} {e : Env} {s : State} {m : MethodId} {below : List Frame} {meth : Method} {cD : Code} {dC : Nat → ClassId} {dI : Nat → Nat → Nat} {b L : Nat} {xs : Nat → Int32} (hL : L ≤ 3074) (C0 : lw_At p s m meth cD b L xs) (hN : nst s) (i : Nat) (hi : i + 6 ≤ L) (K : LawSt p l e s m below meth cD b dC dI 468 i) : LawSt p l e s m below meth cD b dC dI 108 i := by
  obtain ⟨hx, hb, hr, hml, hown, hts, hX, hbl, hlocks, hgv⟩ := id C0
  have hown : s.vm.findClass RL = some m.cls := hown
  have hts : ∀ w ∈ wsL_law, w.before #[Value.ref b] s = true := fun w h => hts w (wsL_law_in w h)
  have hA : ∀ q : Nat, s.heap.size ≤ q → (fun q : Nat => s.heap.size ≤ q) q := fun _ h => h
  have hbA : ¬ (fun q : Nat => s.heap.size ≤ q) b := Nat.not_le.mpr hbl
  intro ad am tc tm w h qd se th ar vx vy vz col dep rea que mc md mk hwh4 hv hz hf hc hd H locs hK hP hD hS ls hl
  obtain ⟨hw1, hw2, hh1, hh2⟩ := hwh4
  refine lv_aload_n hx hb dL_law_108 rfl (lv_at hl 1 rfl) ?_
  refine lv_aload_n hx hb dL_law_109 rfl (lv_at hl 0 rfl) ?_
  refine lv_iload_n hx hb dL_law_110 rfl (lv_at hl 3 rfl) ?_
  refine lv_iconst (v := 1) hx hb dL_law_111 (by decide) ?_
  refine lv_iadd hx hb dL_law_112 ?_
  refine lv_topi (fun zz ezz => ?_)
  obtain rfl : zz = nI (i + 1) := ezz.trans ((by rw [show (1 : Int32) = nI 1 from rfl, nI_add]))
  refine va_sld hx hb hX hbl hbA hS (vp_in_nI (by omega) (by omega)) dL_law_113 ?_
  refine lv_topi (fun zz ezz => ?_)
  obtain rfl : zz = xs (i + 1) := ezz.trans (congrArg xs (nI_clamp (by omega)))
  refine lv_aload_n hx hb dL_law_114 rfl (lv_at hl 0 rfl) ?_
  refine lv_iload_n hx hb dL_law_115 rfl (lv_at hl 3 rfl) ?_
  refine lv_iconst (v := 2) hx hb dL_law_116 (by decide) ?_
  refine lv_iadd hx hb dL_law_117 ?_
  refine lv_topi (fun zz ezz => ?_)
  obtain rfl : zz = nI (i + 2) := ezz.trans ((by rw [show (2 : Int32) = nI 2 from rfl, nI_add]))
  refine va_sld hx hb hX hbl hbA hS (vp_in_nI (by omega) (by omega)) dL_law_118 ?_
  refine lv_topi (fun zz ezz => ?_)
  obtain rfl : zz = xs (i + 2) := ezz.trans (congrArg xs (nI_clamp (by omega)))
  refine m_calli (cs := [(ad 0, .inr (1, [.int (nI w), .int (nI h), .ref (ad 1), .ref (ad 2), .ref (ad 3), .ref (ad 4), .ref (ad 5), .int qd])), (ad 1, .inl (tc 1, (w * h), .inl col)), (ad 2, .inl (tc 2, (w * h), .inl dep))]) (wr := [(ad 3, .inr (0, [.ref (ad 6), .ref (ad 7), .ref (ad 8), .int se, .int th, .long ar])), (ad 4, .inl (tc 4, (w * h), .inl rea)), (ad 5, .inl (tc 5, (w * h), .inl que)), (ad 6, .inl (tc 6, 3, .inl vx)), (ad 7, .inl (tc 7, 3, .inl vy)), (ad 8, .inl (tc 8, 3, .inl vz)), (am 0, .inr (2, [.int (nI w), .int (nI h), .ref (am 1), .ref (am 2), .ref (am 3), .ref (am 4), .ref (am 5), .ref (am 6)])), (am 1, .inl (tm 1, 576, .inl mc)), (am 2, .inl (tm 2, 576, .inl md)), (am 3, .inl (tm 3, 3, .inl vx)), (am 4, .inl (tm 4, 3, .inl vy)), (am 5, .inl (tm 5, 3, .inl vz)), (am 6, .inl (tm 6, 576, .inl mk))]) hP hD hS hA [0, 1, 2] [3, 4, 5, 6, 7, 8, 9, 10, 11, 12, 13, 14, 15] rfl rfl (by decide) (by decide) (va_runV (As := [.int (xs (i + 1)), .int (xs (i + 2))]) (rest := []) ⟨hx, hb, hml, hown, hts⟩ (c_X1_clear l dC dI _ ad tc w h qd col dep hw1 hw2 hh1 hh2 (xs (i + 1)) (xs (i + 2))) (cwV 2 hts gL_law_X1_clear rfl rfl rfl (by decide +kernel) ⟨Nat.le_of_ble_eq_true rfl, Nat.le_of_ble_eq_true rfl⟩) (m_preV (ci := 1) (q0 := 0) (hP.sub [0, 1, 2] rfl) (hK.sub [0, 1] rfl) (hD.sub [0, 1, 2] (by decide) rfl) hN rfl rfl) rfl rfl hl.1 rfl (lv_room (Nat.le_of_ble_eq_true rfl)) dL_law_119 ⟨Nat.le_of_ble_eq_true rfl, Nat.le_of_ble_eq_true rfl⟩) (fun r119 u119 H locs q119 hK2 hP hD hS => ?_)
  obtain ⟨co119, de119⟩ := u119
  have hP : va_P (dC, dI) vwCl [(ad 0, .inr (1, [.int (nI w), .int (nI h), .ref (ad 1), .ref (ad 2), .ref (ad 3), .ref (ad 4), .ref (ad 5), .int qd])), (ad 1, .inl (tc 1, (w * h), .inl co119)), (ad 2, .inl (tc 2, (w * h), .inl de119)), (ad 3, .inr (0, [.ref (ad 6), .ref (ad 7), .ref (ad 8), .int se, .int th, .long ar])), (ad 4, .inl (tc 4, (w * h), .inl rea)), (ad 5, .inl (tc 5, (w * h), .inl que)), (ad 6, .inl (tc 6, 3, .inl vx)), (ad 7, .inl (tc 7, 3, .inl vy)), (ad 8, .inl (tc 8, 3, .inl vz)), (am 0, .inr (2, [.int (nI w), .int (nI h), .ref (am 1), .ref (am 2), .ref (am 3), .ref (am 4), .ref (am 5), .ref (am 6)])), (am 1, .inl (tm 1, 576, .inl mc)), (am 2, .inl (tm 2, 576, .inl md)), (am 3, .inl (tm 3, 3, .inl vx)), (am 4, .inl (tm 4, 3, .inl vy)), (am 5, .inl (tm 5, 3, .inl vz)), (am 6, .inl (tm 6, 576, .inl mk))] H := hP.sub [13, 14, 15, 0, 1, 2, 3, 4, 5, 6, 7, 8, 9, 10, 11, 12] rfl
  have hD : va_D (fun q : Nat => s.heap.size ≤ q) [(ad 0, .inr (1, [.int (nI w), .int (nI h), .ref (ad 1), .ref (ad 2), .ref (ad 3), .ref (ad 4), .ref (ad 5), .int qd])), (ad 1, .inl (tc 1, (w * h), .inl co119)), (ad 2, .inl (tc 2, (w * h), .inl de119)), (ad 3, .inr (0, [.ref (ad 6), .ref (ad 7), .ref (ad 8), .int se, .int th, .long ar])), (ad 4, .inl (tc 4, (w * h), .inl rea)), (ad 5, .inl (tc 5, (w * h), .inl que)), (ad 6, .inl (tc 6, 3, .inl vx)), (ad 7, .inl (tc 7, 3, .inl vy)), (ad 8, .inl (tc 8, 3, .inl vz)), (am 0, .inr (2, [.int (nI w), .int (nI h), .ref (am 1), .ref (am 2), .ref (am 3), .ref (am 4), .ref (am 5), .ref (am 6)])), (am 1, .inl (tm 1, 576, .inl mc)), (am 2, .inl (tm 2, 576, .inl md)), (am 3, .inl (tm 3, 3, .inl vx)), (am 4, .inl (tm 4, 3, .inl vy)), (am 5, .inl (tm 5, 3, .inl vz)), (am 6, .inl (tm 6, 576, .inl mk))] := hD.sub [13, 14, 15, 0, 1, 2, 3, 4, 5, 6, 7, 8, 9, 10, 11, 12] (by decide) rfl
  refine lv_aload_n hx hb dL_law_122 rfl (lv_at hl 2 rfl) ?_
  refine lv_aload_n hx hb dL_law_123 rfl (lv_at hl 0 rfl) ?_
  refine lv_iload_n hx hb dL_law_124 rfl (lv_at hl 3 rfl) ?_
  refine lv_iconst (v := 1) hx hb dL_law_125 (by decide) ?_
  refine lv_iadd hx hb dL_law_126 ?_
  refine lv_topi (fun zz ezz => ?_)
  obtain rfl : zz = nI (i + 1) := ezz.trans ((by rw [show (1 : Int32) = nI 1 from rfl, nI_add]))
  refine va_sld hx hb hX hbl hbA hS (vp_in_nI (by omega) (by omega)) dL_law_127 ?_
  refine lv_topi (fun zz ezz => ?_)
  obtain rfl : zz = xs (i + 1) := ezz.trans (congrArg xs (nI_clamp (by omega)))
  refine lv_aload_n hx hb dL_law_128 rfl (lv_at hl 0 rfl) ?_
  refine lv_iload_n hx hb dL_law_129 rfl (lv_at hl 3 rfl) ?_
  refine lv_iconst (v := 2) hx hb dL_law_130 (by decide) ?_
  refine lv_iadd hx hb dL_law_131 ?_
  refine lv_topi (fun zz ezz => ?_)
  obtain rfl : zz = nI (i + 2) := ezz.trans ((by rw [show (2 : Int32) = nI 2 from rfl, nI_add]))
  refine va_sld hx hb hX hbl hbA hS (vp_in_nI (by omega) (by omega)) dL_law_132 ?_
  refine lv_topi (fun zz ezz => ?_)
  obtain rfl : zz = xs (i + 2) := ezz.trans (congrArg xs (nI_clamp (by omega)))
  refine m_calli (cs := [(am 0, .inr (2, [.int (nI w), .int (nI h), .ref (am 1), .ref (am 2), .ref (am 3), .ref (am 4), .ref (am 5), .ref (am 6)])), (am 1, .inl (tm 1, 576, .inl mc)), (am 2, .inl (tm 2, 576, .inl md))]) (wr := [(ad 0, .inr (1, [.int (nI w), .int (nI h), .ref (ad 1), .ref (ad 2), .ref (ad 3), .ref (ad 4), .ref (ad 5), .int qd])), (ad 1, .inl (tc 1, (w * h), .inl co119)), (ad 2, .inl (tc 2, (w * h), .inl de119)), (ad 3, .inr (0, [.ref (ad 6), .ref (ad 7), .ref (ad 8), .int se, .int th, .long ar])), (ad 4, .inl (tc 4, (w * h), .inl rea)), (ad 5, .inl (tc 5, (w * h), .inl que)), (ad 6, .inl (tc 6, 3, .inl vx)), (ad 7, .inl (tc 7, 3, .inl vy)), (ad 8, .inl (tc 8, 3, .inl vz)), (am 3, .inl (tm 3, 3, .inl vx)), (am 4, .inl (tm 4, 3, .inl vy)), (am 5, .inl (tm 5, 3, .inl vz)), (am 6, .inl (tm 6, 576, .inl mk))]) hP hD hS hA [9, 10, 11] [0, 1, 2, 3, 4, 5, 6, 7, 8, 12, 13, 14, 15] rfl rfl (by decide) (by decide) (va_runV (As := [.int (xs (i + 1)), .int (xs (i + 2))]) (rest := [.int r119]) ⟨hx, hb, hml, hown, hts⟩ (c_X2_clear l dC dI _ am tm w h mc md (xs (i + 1)) (xs (i + 2))) (cwV 2 hts gL_law_X2_clear rfl rfl rfl (by decide +kernel) ⟨Nat.le_of_ble_eq_true rfl, Nat.le_of_ble_eq_true rfl⟩) (m_preV (ci := 2) (q0 := 0) (hP.sub [9, 10, 11] rfl) (hK.sub [7, 8] rfl) (hD.sub [9, 10, 11] (by decide) rfl) hN rfl rfl) rfl rfl hl.1 rfl (lv_room (Nat.le_of_ble_eq_true rfl)) dL_law_133 ⟨Nat.le_of_ble_eq_true rfl, Nat.le_of_ble_eq_true rfl⟩) (fun r133 u133 H locs q133 hK2 hP hD hS => ?_)
  obtain ⟨co133, de133⟩ := u133
  have hP : va_P (dC, dI) vwCl [(ad 0, .inr (1, [.int (nI w), .int (nI h), .ref (ad 1), .ref (ad 2), .ref (ad 3), .ref (ad 4), .ref (ad 5), .int qd])), (ad 1, .inl (tc 1, (w * h), .inl co119)), (ad 2, .inl (tc 2, (w * h), .inl de119)), (ad 3, .inr (0, [.ref (ad 6), .ref (ad 7), .ref (ad 8), .int se, .int th, .long ar])), (ad 4, .inl (tc 4, (w * h), .inl rea)), (ad 5, .inl (tc 5, (w * h), .inl que)), (ad 6, .inl (tc 6, 3, .inl vx)), (ad 7, .inl (tc 7, 3, .inl vy)), (ad 8, .inl (tc 8, 3, .inl vz)), (am 0, .inr (2, [.int (nI w), .int (nI h), .ref (am 1), .ref (am 2), .ref (am 3), .ref (am 4), .ref (am 5), .ref (am 6)])), (am 1, .inl (tm 1, 576, .inl co133)), (am 2, .inl (tm 2, 576, .inl de133)), (am 3, .inl (tm 3, 3, .inl vx)), (am 4, .inl (tm 4, 3, .inl vy)), (am 5, .inl (tm 5, 3, .inl vz)), (am 6, .inl (tm 6, 576, .inl mk))] H := hP.sub [0, 1, 2, 3, 4, 5, 6, 7, 8, 13, 14, 15, 9, 10, 11, 12] rfl
  have hD : va_D (fun q : Nat => s.heap.size ≤ q) [(ad 0, .inr (1, [.int (nI w), .int (nI h), .ref (ad 1), .ref (ad 2), .ref (ad 3), .ref (ad 4), .ref (ad 5), .int qd])), (ad 1, .inl (tc 1, (w * h), .inl co119)), (ad 2, .inl (tc 2, (w * h), .inl de119)), (ad 3, .inr (0, [.ref (ad 6), .ref (ad 7), .ref (ad 8), .int se, .int th, .long ar])), (ad 4, .inl (tc 4, (w * h), .inl rea)), (ad 5, .inl (tc 5, (w * h), .inl que)), (ad 6, .inl (tc 6, 3, .inl vx)), (ad 7, .inl (tc 7, 3, .inl vy)), (ad 8, .inl (tc 8, 3, .inl vz)), (am 0, .inr (2, [.int (nI w), .int (nI h), .ref (am 1), .ref (am 2), .ref (am 3), .ref (am 4), .ref (am 5), .ref (am 6)])), (am 1, .inl (tm 1, 576, .inl co133)), (am 2, .inl (tm 2, 576, .inl de133)), (am 3, .inl (tm 3, 3, .inl vx)), (am 4, .inl (tm 4, 3, .inl vy)), (am 5, .inl (tm 5, 3, .inl vz)), (am 6, .inl (tm 6, 576, .inl mk))] := hD.sub [0, 1, 2, 3, 4, 5, 6, 7, 8, 13, 14, 15, 9, 10, 11, 12] (by decide) rfl
  have hE := clear_rel (u := (co119, de119)) (v := (co133, de133)) hw2 hh2 hc hd q119 q133
  refine lv_icmp_eq (tgt := 468) hx hb dL_law_136 (by decide) (fun c136 => ?_) (fun c136 => ?_)
  · exact K ad am tc tm w h qd se th ar vx vy vz co119 de119 rea que co133 de133 mk ⟨hw1, hw2, hh1, hh2⟩ hv hz hf hE.2.1 hE.2.2 H locs hK (hP.sub [0, 1, 2, 3, 4, 5, 6, 7, 8, 9, 10, 11, 12, 13, 14, 15] rfl) (hD.sub [0, 1, 2, 3, 4, 5, 6, 7, 8, 9, 10, 11, 12, 13, 14, 15] (by decide) rfl) hS ls (lv_sub hl [0, 1, 2, 3] rfl)
  · exact absurd hE.1 c136

set_option maxHeartbeats 1000000 in
set_option maxRecDepth 100000 in
/-- the law: vertex -/
theorem law_141 {p : Program} {l : Launch} {e : Env} {s : State} {m : MethodId} {below : List Frame} {meth : Method} {cD : Code} {dC : Nat → ClassId} {dI : Nat → Nat → Nat} {b L : Nat} {xs : Nat → Int32} (hL : L ≤ 3074) (C0 : lw_At p s m meth cD b L xs) (hN : nst s) (i : Nat) (hi : i + 6 ≤ L) (K : LawSt p l e s m below meth cD b dC dI 468 i) : LawSt p l e s m below meth cD b dC dI 141 i := by
  obtain ⟨hx, hb, hr, hml, hown, hts, hX, hbl, hlocks, hgv⟩ := id C0
  have hown : s.vm.findClass RL = some m.cls := hown
  have hts : ∀ w ∈ wsL_law, w.before #[Value.ref b] s = true := fun w h => hts w (wsL_law_in w h)
  have hA : ∀ q : Nat, s.heap.size ≤ q → (fun q : Nat => s.heap.size ≤ q) q := fun _ h => h
  have hbA : ¬ (fun q : Nat => s.heap.size ≤ q) b := Nat.not_le.mpr hbl
  intro ad am tc tm w h qd se th ar vx vy vz col dep rea que mc md mk hwh4 hv hz hf hc hd H locs hK hP hD hS ls hl
  obtain ⟨hw1, hw2, hh1, hh2⟩ := hwh4
  refine lv_aload_n hx hb dL_law_141 rfl (lv_at hl 1 rfl) ?_
  refine lv_aload_n hx hb dL_law_142 rfl (lv_at hl 0 rfl) ?_
  refine lv_iload_n hx hb dL_law_143 rfl (lv_at hl 3 rfl) ?_
  refine lv_iconst (v := 1) hx hb dL_law_144 (by decide) ?_
  refine lv_iadd hx hb dL_law_145 ?_
  refine lv_topi (fun zz ezz => ?_)
  obtain rfl : zz = nI (i + 1) := ezz.trans ((by rw [show (1 : Int32) = nI 1 from rfl, nI_add]))
  refine va_sld hx hb hX hbl hbA hS (vp_in_nI (by omega) (by omega)) dL_law_146 ?_
  refine lv_topi (fun zz ezz => ?_)
  obtain rfl : zz = xs (i + 1) := ezz.trans (congrArg xs (nI_clamp (by omega)))
  refine lv_aload_n hx hb dL_law_147 rfl (lv_at hl 0 rfl) ?_
  refine lv_iload_n hx hb dL_law_148 rfl (lv_at hl 3 rfl) ?_
  refine lv_iconst (v := 2) hx hb dL_law_149 (by decide) ?_
  refine lv_iadd hx hb dL_law_150 ?_
  refine lv_topi (fun zz ezz => ?_)
  obtain rfl : zz = nI (i + 2) := ezz.trans ((by rw [show (2 : Int32) = nI 2 from rfl, nI_add]))
  refine va_sld hx hb hX hbl hbA hS (vp_in_nI (by omega) (by omega)) dL_law_151 ?_
  refine lv_topi (fun zz ezz => ?_)
  obtain rfl : zz = xs (i + 2) := ezz.trans (congrArg xs (nI_clamp (by omega)))
  refine lv_aload_n hx hb dL_law_152 rfl (lv_at hl 0 rfl) ?_
  refine lv_iload_n hx hb dL_law_153 rfl (lv_at hl 3 rfl) ?_
  refine lv_iconst (v := 3) hx hb dL_law_154 (by decide) ?_
  refine lv_iadd hx hb dL_law_155 ?_
  refine lv_topi (fun zz ezz => ?_)
  obtain rfl : zz = nI (i + 3) := ezz.trans ((by rw [show (3 : Int32) = nI 3 from rfl, nI_add]))
  refine va_sld hx hb hX hbl hbA hS (vp_in_nI (by omega) (by omega)) dL_law_156 ?_
  refine lv_topi (fun zz ezz => ?_)
  obtain rfl : zz = xs (i + 3) := ezz.trans (congrArg xs (nI_clamp (by omega)))
  refine lv_aload_n hx hb dL_law_157 rfl (lv_at hl 0 rfl) ?_
  refine lv_iload_n hx hb dL_law_158 rfl (lv_at hl 3 rfl) ?_
  refine lv_iconst (v := 4) hx hb dL_law_159 (by decide) ?_
  refine lv_iadd hx hb dL_law_160 ?_
  refine lv_topi (fun zz ezz => ?_)
  obtain rfl : zz = nI (i + 4) := ezz.trans ((by rw [show (4 : Int32) = nI 4 from rfl, nI_add]))
  refine va_sld hx hb hX hbl hbA hS (vp_in_nI (by omega) (by omega)) dL_law_161 ?_
  refine lv_topi (fun zz ezz => ?_)
  obtain rfl : zz = xs (i + 4) := ezz.trans (congrArg xs (nI_clamp (by omega)))
  refine m_calli (cs := [(ad 0, .inr (1, [.int (nI w), .int (nI h), .ref (ad 1), .ref (ad 2), .ref (ad 3), .ref (ad 4), .ref (ad 5), .int qd])), (ad 3, .inr (0, [.ref (ad 6), .ref (ad 7), .ref (ad 8), .int se, .int th, .long ar])), (ad 6, .inl (tc 6, 3, .inl vx)), (ad 7, .inl (tc 7, 3, .inl vy)), (ad 8, .inl (tc 8, 3, .inl vz))]) (wr := [(ad 1, .inl (tc 1, (w * h), .inl col)), (ad 2, .inl (tc 2, (w * h), .inl dep)), (ad 4, .inl (tc 4, (w * h), .inl rea)), (ad 5, .inl (tc 5, (w * h), .inl que)), (am 0, .inr (2, [.int (nI w), .int (nI h), .ref (am 1), .ref (am 2), .ref (am 3), .ref (am 4), .ref (am 5), .ref (am 6)])), (am 1, .inl (tm 1, 576, .inl mc)), (am 2, .inl (tm 2, 576, .inl md)), (am 3, .inl (tm 3, 3, .inl vx)), (am 4, .inl (tm 4, 3, .inl vy)), (am 5, .inl (tm 5, 3, .inl vz)), (am 6, .inl (tm 6, 576, .inl mk))]) hP hD hS hA [0, 3, 6, 7, 8] [1, 2, 4, 5, 9, 10, 11, 12, 13, 14, 15] rfl rfl (by decide) (by decide) (va_runV (As := [.int (xs (i + 1)), .int (xs (i + 2)), .int (xs (i + 3)), .int (xs (i + 4))]) (rest := []) ⟨hx, hb, hml, hown, hts⟩ (c_X1_vertex l dC dI _ ad tc w h qd se th ar vx vy vz hv (xs (i + 1)) (xs (i + 2)) (xs (i + 3)) (xs (i + 4))) (cwV 4 hts gL_law_X1_vertex rfl rfl rfl (by decide +kernel) ⟨Nat.le_of_ble_eq_true rfl, Nat.le_of_ble_eq_true rfl⟩) (m_preV (ci := 1) (q0 := 0) (hP.sub [0, 3, 6, 7, 8] rfl) (hK.sub [4, 5, 6] rfl) (hD.sub [0, 3, 6, 7, 8] (by decide) rfl) hN rfl rfl) rfl rfl hl.1 rfl (lv_room (Nat.le_of_ble_eq_true rfl)) dL_law_162 ⟨Nat.le_of_ble_eq_true rfl, Nat.le_of_ble_eq_true rfl⟩) (fun r162 u162 H locs q162 hK2 hP hD hS => ?_)
  obtain ⟨vx162, vy162, vz162, se162, th162, ar162⟩ := u162
  have hP : va_P (dC, dI) vwCl [(ad 0, .inr (1, [.int (nI w), .int (nI h), .ref (ad 1), .ref (ad 2), .ref (ad 3), .ref (ad 4), .ref (ad 5), .int qd])), (ad 1, .inl (tc 1, (w * h), .inl col)), (ad 2, .inl (tc 2, (w * h), .inl dep)), (ad 3, .inr (0, [.ref (ad 6), .ref (ad 7), .ref (ad 8), .int se162, .int th162, .long ar162])), (ad 4, .inl (tc 4, (w * h), .inl rea)), (ad 5, .inl (tc 5, (w * h), .inl que)), (ad 6, .inl (tc 6, 3, .inl vx162)), (ad 7, .inl (tc 7, 3, .inl vy162)), (ad 8, .inl (tc 8, 3, .inl vz162)), (am 0, .inr (2, [.int (nI w), .int (nI h), .ref (am 1), .ref (am 2), .ref (am 3), .ref (am 4), .ref (am 5), .ref (am 6)])), (am 1, .inl (tm 1, 576, .inl mc)), (am 2, .inl (tm 2, 576, .inl md)), (am 3, .inl (tm 3, 3, .inl vx)), (am 4, .inl (tm 4, 3, .inl vy)), (am 5, .inl (tm 5, 3, .inl vz)), (am 6, .inl (tm 6, 576, .inl mk))] H := hP.sub [11, 0, 1, 12, 2, 3, 13, 14, 15, 4, 5, 6, 7, 8, 9, 10] rfl
  have hD : va_D (fun q : Nat => s.heap.size ≤ q) [(ad 0, .inr (1, [.int (nI w), .int (nI h), .ref (ad 1), .ref (ad 2), .ref (ad 3), .ref (ad 4), .ref (ad 5), .int qd])), (ad 1, .inl (tc 1, (w * h), .inl col)), (ad 2, .inl (tc 2, (w * h), .inl dep)), (ad 3, .inr (0, [.ref (ad 6), .ref (ad 7), .ref (ad 8), .int se162, .int th162, .long ar162])), (ad 4, .inl (tc 4, (w * h), .inl rea)), (ad 5, .inl (tc 5, (w * h), .inl que)), (ad 6, .inl (tc 6, 3, .inl vx162)), (ad 7, .inl (tc 7, 3, .inl vy162)), (ad 8, .inl (tc 8, 3, .inl vz162)), (am 0, .inr (2, [.int (nI w), .int (nI h), .ref (am 1), .ref (am 2), .ref (am 3), .ref (am 4), .ref (am 5), .ref (am 6)])), (am 1, .inl (tm 1, 576, .inl mc)), (am 2, .inl (tm 2, 576, .inl md)), (am 3, .inl (tm 3, 3, .inl vx)), (am 4, .inl (tm 4, 3, .inl vy)), (am 5, .inl (tm 5, 3, .inl vz)), (am 6, .inl (tm 6, 576, .inl mk))] := hD.sub [11, 0, 1, 12, 2, 3, 13, 14, 15, 4, 5, 6, 7, 8, 9, 10] (by decide) rfl
  refine lv_aload_n hx hb dL_law_165 rfl (lv_at hl 2 rfl) ?_
  refine lv_aload_n hx hb dL_law_166 rfl (lv_at hl 0 rfl) ?_
  refine lv_iload_n hx hb dL_law_167 rfl (lv_at hl 3 rfl) ?_
  refine lv_iconst (v := 1) hx hb dL_law_168 (by decide) ?_
  refine lv_iadd hx hb dL_law_169 ?_
  refine lv_topi (fun zz ezz => ?_)
  obtain rfl : zz = nI (i + 1) := ezz.trans ((by rw [show (1 : Int32) = nI 1 from rfl, nI_add]))
  refine va_sld hx hb hX hbl hbA hS (vp_in_nI (by omega) (by omega)) dL_law_170 ?_
  refine lv_topi (fun zz ezz => ?_)
  obtain rfl : zz = xs (i + 1) := ezz.trans (congrArg xs (nI_clamp (by omega)))
  refine lv_aload_n hx hb dL_law_171 rfl (lv_at hl 0 rfl) ?_
  refine lv_iload_n hx hb dL_law_172 rfl (lv_at hl 3 rfl) ?_
  refine lv_iconst (v := 2) hx hb dL_law_173 (by decide) ?_
  refine lv_iadd hx hb dL_law_174 ?_
  refine lv_topi (fun zz ezz => ?_)
  obtain rfl : zz = nI (i + 2) := ezz.trans ((by rw [show (2 : Int32) = nI 2 from rfl, nI_add]))
  refine va_sld hx hb hX hbl hbA hS (vp_in_nI (by omega) (by omega)) dL_law_175 ?_
  refine lv_topi (fun zz ezz => ?_)
  obtain rfl : zz = xs (i + 2) := ezz.trans (congrArg xs (nI_clamp (by omega)))
  refine lv_aload_n hx hb dL_law_176 rfl (lv_at hl 0 rfl) ?_
  refine lv_iload_n hx hb dL_law_177 rfl (lv_at hl 3 rfl) ?_
  refine lv_iconst (v := 3) hx hb dL_law_178 (by decide) ?_
  refine lv_iadd hx hb dL_law_179 ?_
  refine lv_topi (fun zz ezz => ?_)
  obtain rfl : zz = nI (i + 3) := ezz.trans ((by rw [show (3 : Int32) = nI 3 from rfl, nI_add]))
  refine va_sld hx hb hX hbl hbA hS (vp_in_nI (by omega) (by omega)) dL_law_180 ?_
  refine lv_topi (fun zz ezz => ?_)
  obtain rfl : zz = xs (i + 3) := ezz.trans (congrArg xs (nI_clamp (by omega)))
  refine lv_aload_n hx hb dL_law_181 rfl (lv_at hl 0 rfl) ?_
  refine lv_iload_n hx hb dL_law_182 rfl (lv_at hl 3 rfl) ?_
  refine lv_iconst (v := 4) hx hb dL_law_183 (by decide) ?_
  refine lv_iadd hx hb dL_law_184 ?_
  refine lv_topi (fun zz ezz => ?_)
  obtain rfl : zz = nI (i + 4) := ezz.trans ((by rw [show (4 : Int32) = nI 4 from rfl, nI_add]))
  refine va_sld hx hb hX hbl hbA hS (vp_in_nI (by omega) (by omega)) dL_law_185 ?_
  refine lv_topi (fun zz ezz => ?_)
  obtain rfl : zz = xs (i + 4) := ezz.trans (congrArg xs (nI_clamp (by omega)))
  refine m_calli (cs := [(am 0, .inr (2, [.int (nI w), .int (nI h), .ref (am 1), .ref (am 2), .ref (am 3), .ref (am 4), .ref (am 5), .ref (am 6)])), (am 3, .inl (tm 3, 3, .inl vx)), (am 4, .inl (tm 4, 3, .inl vy)), (am 5, .inl (tm 5, 3, .inl vz))]) (wr := [(ad 0, .inr (1, [.int (nI w), .int (nI h), .ref (ad 1), .ref (ad 2), .ref (ad 3), .ref (ad 4), .ref (ad 5), .int qd])), (ad 1, .inl (tc 1, (w * h), .inl col)), (ad 2, .inl (tc 2, (w * h), .inl dep)), (ad 3, .inr (0, [.ref (ad 6), .ref (ad 7), .ref (ad 8), .int se162, .int th162, .long ar162])), (ad 4, .inl (tc 4, (w * h), .inl rea)), (ad 5, .inl (tc 5, (w * h), .inl que)), (ad 6, .inl (tc 6, 3, .inl vx162)), (ad 7, .inl (tc 7, 3, .inl vy162)), (ad 8, .inl (tc 8, 3, .inl vz162)), (am 1, .inl (tm 1, 576, .inl mc)), (am 2, .inl (tm 2, 576, .inl md)), (am 6, .inl (tm 6, 576, .inl mk))]) hP hD hS hA [9, 12, 13, 14] [0, 1, 2, 3, 4, 5, 6, 7, 8, 10, 11, 15] rfl rfl (by decide) (by decide) (va_runV (As := [.int (xs (i + 1)), .int (xs (i + 2)), .int (xs (i + 3)), .int (xs (i + 4))]) (rest := [.int r162]) ⟨hx, hb, hml, hown, hts⟩ (c_X2_vertex l dC dI _ am tm w h vx vy vz (xs (i + 1)) (xs (i + 2)) (xs (i + 3)) (xs (i + 4))) (cwV 4 hts gL_law_X2_vertex rfl rfl rfl (by decide +kernel) ⟨Nat.le_of_ble_eq_true rfl, Nat.le_of_ble_eq_true rfl⟩) (m_preV (ci := 2) (q0 := 0) (hP.sub [9, 12, 13, 14] rfl) (hK.sub [9, 10, 11] rfl) (hD.sub [9, 12, 13, 14] (by decide) rfl) hN rfl rfl) rfl rfl hl.1 rfl (lv_room (Nat.le_of_ble_eq_true rfl)) dL_law_186 ⟨Nat.le_of_ble_eq_true rfl, Nat.le_of_ble_eq_true rfl⟩) (fun r186 u186 H locs q186 hK2 hP hD hS => ?_)
  obtain ⟨vx186, vy186, vz186⟩ := u186
  have hP : va_P (dC, dI) vwCl [(ad 0, .inr (1, [.int (nI w), .int (nI h), .ref (ad 1), .ref (ad 2), .ref (ad 3), .ref (ad 4), .ref (ad 5), .int qd])), (ad 1, .inl (tc 1, (w * h), .inl col)), (ad 2, .inl (tc 2, (w * h), .inl dep)), (ad 3, .inr (0, [.ref (ad 6), .ref (ad 7), .ref (ad 8), .int se162, .int th162, .long ar162])), (ad 4, .inl (tc 4, (w * h), .inl rea)), (ad 5, .inl (tc 5, (w * h), .inl que)), (ad 6, .inl (tc 6, 3, .inl vx162)), (ad 7, .inl (tc 7, 3, .inl vy162)), (ad 8, .inl (tc 8, 3, .inl vz162)), (am 0, .inr (2, [.int (nI w), .int (nI h), .ref (am 1), .ref (am 2), .ref (am 3), .ref (am 4), .ref (am 5), .ref (am 6)])), (am 1, .inl (tm 1, 576, .inl mc)), (am 2, .inl (tm 2, 576, .inl md)), (am 3, .inl (tm 3, 3, .inl vx186)), (am 4, .inl (tm 4, 3, .inl vy186)), (am 5, .inl (tm 5, 3, .inl vz186)), (am 6, .inl (tm 6, 576, .inl mk))] H := hP.sub [0, 1, 2, 3, 4, 5, 6, 7, 8, 12, 9, 10, 13, 14, 15, 11] rfl
  have hD : va_D (fun q : Nat => s.heap.size ≤ q) [(ad 0, .inr (1, [.int (nI w), .int (nI h), .ref (ad 1), .ref (ad 2), .ref (ad 3), .ref (ad 4), .ref (ad 5), .int qd])), (ad 1, .inl (tc 1, (w * h), .inl col)), (ad 2, .inl (tc 2, (w * h), .inl dep)), (ad 3, .inr (0, [.ref (ad 6), .ref (ad 7), .ref (ad 8), .int se162, .int th162, .long ar162])), (ad 4, .inl (tc 4, (w * h), .inl rea)), (ad 5, .inl (tc 5, (w * h), .inl que)), (ad 6, .inl (tc 6, 3, .inl vx162)), (ad 7, .inl (tc 7, 3, .inl vy162)), (ad 8, .inl (tc 8, 3, .inl vz162)), (am 0, .inr (2, [.int (nI w), .int (nI h), .ref (am 1), .ref (am 2), .ref (am 3), .ref (am 4), .ref (am 5), .ref (am 6)])), (am 1, .inl (tm 1, 576, .inl mc)), (am 2, .inl (tm 2, 576, .inl md)), (am 3, .inl (tm 3, 3, .inl vx186)), (am 4, .inl (tm 4, 3, .inl vy186)), (am 5, .inl (tm 5, 3, .inl vz186)), (am 6, .inl (tm 6, 576, .inl mk))] := hD.sub [0, 1, 2, 3, 4, 5, 6, 7, 8, 12, 9, 10, 13, 14, 15, 11] (by decide) rfl
  have hE := vertex_rel (u := (vx162, vy162, vz162, se162, th162, ar162)) (v := (vx186, vy186, vz186)) hv hz hf q162 q186
  have hE1 : vx186 = vx162 := hE.2.1.1
  have hE2 : vy186 = vy162 := hE.2.1.2.1
  have hE3 : vz186 = vz162 := hE.2.1.2.2
  rw [hE1, hE2, hE3] at hP hD
  refine lv_icmp_eq (tgt := 468) hx hb dL_law_189 (by decide) (fun c189 => ?_) (fun c189 => ?_)
  · exact K ad am tc tm w h qd se162 th162 ar162 vx162 vy162 vz162 col dep rea que mc md mk ⟨hw1, hw2, hh1, hh2⟩ hE.2.2.1 hE.2.2.2.1 hE.2.2.2.2 hc hd H locs hK (hP.sub [0, 1, 2, 3, 4, 5, 6, 7, 8, 9, 10, 11, 12, 13, 14, 15] rfl) (hD.sub [0, 1, 2, 3, 4, 5, 6, 7, 8, 9, 10, 11, 12, 13, 14, 15] (by decide) rfl) hS ls (lv_sub hl [0, 1, 2, 3] rfl)
  · exact absurd hE.1 c189

set_option maxHeartbeats 1000000 in
set_option maxRecDepth 100000 in
/-- the law: triangle -/
theorem law_194 {p : Program} {l : Launch} {e : Env} {s : State} {m : MethodId} {below : List Frame} {meth : Method} {cD : Code} {dC : Nat → ClassId} {dI : Nat → Nat → Nat} {b L : Nat} {xs : Nat → Int32} (hL : L ≤ 3074) (C0 : lw_At p s m meth cD b L xs) (hN : nst s) (i : Nat) (hi : i + 6 ≤ L) (K : LawSt p l e s m below meth cD b dC dI 468 i) : LawSt p l e s m below meth cD b dC dI 194 i := by
  obtain ⟨hx, hb, hr, hml, hown, hts, hX, hbl, hlocks, hgv⟩ := id C0
  have hown : s.vm.findClass RL = some m.cls := hown
  have hts : ∀ w ∈ wsL_law, w.before #[Value.ref b] s = true := fun w h => hts w (wsL_law_in w h)
  have hA : ∀ q : Nat, s.heap.size ≤ q → (fun q : Nat => s.heap.size ≤ q) q := fun _ h => h
  have hbA : ¬ (fun q : Nat => s.heap.size ≤ q) b := Nat.not_le.mpr hbl
  intro ad am tc tm w h qd se th ar vx vy vz col dep rea que mc md mk hwh4 hv hz hf hc hd H locs hK hP hD hS ls hl
  obtain ⟨hw1, hw2, hh1, hh2⟩ := hwh4
  refine lv_aload_n hx hb dL_law_194 rfl (lv_at hl 1 rfl) ?_
  refine lv_aload_n hx hb dL_law_195 rfl (lv_at hl 0 rfl) ?_
  refine lv_iload_n hx hb dL_law_196 rfl (lv_at hl 3 rfl) ?_
  refine lv_iconst (v := 1) hx hb dL_law_197 (by decide) ?_
  refine lv_iadd hx hb dL_law_198 ?_
  refine lv_topi (fun zz ezz => ?_)
  obtain rfl : zz = nI (i + 1) := ezz.trans ((by rw [show (1 : Int32) = nI 1 from rfl, nI_add]))
  refine va_sld hx hb hX hbl hbA hS (vp_in_nI (by omega) (by omega)) dL_law_199 ?_
  refine lv_topi (fun zz ezz => ?_)
  obtain rfl : zz = xs (i + 1) := ezz.trans (congrArg xs (nI_clamp (by omega)))
  refine m_calli (cs := [(ad 0, .inr (1, [.int (nI w), .int (nI h), .ref (ad 1), .ref (ad 2), .ref (ad 3), .ref (ad 4), .ref (ad 5), .int qd])), (ad 1, .inl (tc 1, (w * h), .inl col)), (ad 2, .inl (tc 2, (w * h), .inl dep)), (ad 3, .inr (0, [.ref (ad 6), .ref (ad 7), .ref (ad 8), .int se, .int th, .long ar])), (ad 6, .inl (tc 6, 3, .inl vx)), (ad 7, .inl (tc 7, 3, .inl vy)), (ad 8, .inl (tc 8, 3, .inl vz))]) (wr := [(ad 4, .inl (tc 4, (w * h), .inl rea)), (ad 5, .inl (tc 5, (w * h), .inl que)), (am 0, .inr (2, [.int (nI w), .int (nI h), .ref (am 1), .ref (am 2), .ref (am 3), .ref (am 4), .ref (am 5), .ref (am 6)])), (am 1, .inl (tm 1, 576, .inl mc)), (am 2, .inl (tm 2, 576, .inl md)), (am 3, .inl (tm 3, 3, .inl vx)), (am 4, .inl (tm 4, 3, .inl vy)), (am 5, .inl (tm 5, 3, .inl vz)), (am 6, .inl (tm 6, 576, .inl mk))]) hP hD hS hA [0, 1, 2, 3, 6, 7, 8] [4, 5, 9, 10, 11, 12, 13, 14, 15] rfl rfl (by decide) (by decide) (va_runV (As := [.int (xs (i + 1))]) (rest := []) ⟨hx, hb, hml, hown, hts⟩ (c_X1_triangle l dC dI _ ad tc w h qd se th ar vx vy vz col dep hw1 hw2 hh1 hh2 hv hz hf (xs (i + 1))) (cwV 1 hts gL_law_X1_triangle rfl rfl rfl (by decide +kernel) ⟨Nat.le_of_ble_eq_true rfl, Nat.le_of_ble_eq_true rfl⟩) (m_preV (ci := 1) (q0 := 0) (hP.sub [0, 1, 2, 3, 6, 7, 8] rfl) (hK.sub [0, 1, 4, 5, 6] rfl) (hD.sub [0, 1, 2, 3, 6, 7, 8] (by decide) rfl) hN rfl rfl) rfl rfl hl.1 rfl (lv_room (Nat.le_of_ble_eq_true rfl)) dL_law_200 ⟨Nat.le_of_ble_eq_true rfl, Nat.le_of_ble_eq_true rfl⟩) (fun r200 u200 H locs q200 hK2 hP hD hS => ?_)
  obtain ⟨co200, de200⟩ := u200
  have hP : va_P (dC, dI) vwCl [(ad 0, .inr (1, [.int (nI w), .int (nI h), .ref (ad 1), .ref (ad 2), .ref (ad 3), .ref (ad 4), .ref (ad 5), .int qd])), (ad 1, .inl (tc 1, (w * h), .inl co200)), (ad 2, .inl (tc 2, (w * h), .inl de200)), (ad 3, .inr (0, [.ref (ad 6), .ref (ad 7), .ref (ad 8), .int se, .int th, .long ar])), (ad 4, .inl (tc 4, (w * h), .inl rea)), (ad 5, .inl (tc 5, (w * h), .inl que)), (ad 6, .inl (tc 6, 3, .inl vx)), (ad 7, .inl (tc 7, 3, .inl vy)), (ad 8, .inl (tc 8, 3, .inl vz)), (am 0, .inr (2, [.int (nI w), .int (nI h), .ref (am 1), .ref (am 2), .ref (am 3), .ref (am 4), .ref (am 5), .ref (am 6)])), (am 1, .inl (tm 1, 576, .inl mc)), (am 2, .inl (tm 2, 576, .inl md)), (am 3, .inl (tm 3, 3, .inl vx)), (am 4, .inl (tm 4, 3, .inl vy)), (am 5, .inl (tm 5, 3, .inl vz)), (am 6, .inl (tm 6, 576, .inl mk))] H := hP.sub [9, 10, 11, 12, 0, 1, 13, 14, 15, 2, 3, 4, 5, 6, 7, 8] rfl
  have hD : va_D (fun q : Nat => s.heap.size ≤ q) [(ad 0, .inr (1, [.int (nI w), .int (nI h), .ref (ad 1), .ref (ad 2), .ref (ad 3), .ref (ad 4), .ref (ad 5), .int qd])), (ad 1, .inl (tc 1, (w * h), .inl co200)), (ad 2, .inl (tc 2, (w * h), .inl de200)), (ad 3, .inr (0, [.ref (ad 6), .ref (ad 7), .ref (ad 8), .int se, .int th, .long ar])), (ad 4, .inl (tc 4, (w * h), .inl rea)), (ad 5, .inl (tc 5, (w * h), .inl que)), (ad 6, .inl (tc 6, 3, .inl vx)), (ad 7, .inl (tc 7, 3, .inl vy)), (ad 8, .inl (tc 8, 3, .inl vz)), (am 0, .inr (2, [.int (nI w), .int (nI h), .ref (am 1), .ref (am 2), .ref (am 3), .ref (am 4), .ref (am 5), .ref (am 6)])), (am 1, .inl (tm 1, 576, .inl mc)), (am 2, .inl (tm 2, 576, .inl md)), (am 3, .inl (tm 3, 3, .inl vx)), (am 4, .inl (tm 4, 3, .inl vy)), (am 5, .inl (tm 5, 3, .inl vz)), (am 6, .inl (tm 6, 576, .inl mk))] := hD.sub [9, 10, 11, 12, 0, 1, 13, 14, 15, 2, 3, 4, 5, 6, 7, 8] (by decide) rfl
  refine lv_aload_n hx hb dL_law_203 rfl (lv_at hl 2 rfl) ?_
  refine lv_aload_n hx hb dL_law_204 rfl (lv_at hl 0 rfl) ?_
  refine lv_iload_n hx hb dL_law_205 rfl (lv_at hl 3 rfl) ?_
  refine lv_iconst (v := 1) hx hb dL_law_206 (by decide) ?_
  refine lv_iadd hx hb dL_law_207 ?_
  refine lv_topi (fun zz ezz => ?_)
  obtain rfl : zz = nI (i + 1) := ezz.trans ((by rw [show (1 : Int32) = nI 1 from rfl, nI_add]))
  refine va_sld hx hb hX hbl hbA hS (vp_in_nI (by omega) (by omega)) dL_law_208 ?_
  refine lv_topi (fun zz ezz => ?_)
  obtain rfl : zz = xs (i + 1) := ezz.trans (congrArg xs (nI_clamp (by omega)))
  refine m_calli (cs := [(am 0, .inr (2, [.int (nI w), .int (nI h), .ref (am 1), .ref (am 2), .ref (am 3), .ref (am 4), .ref (am 5), .ref (am 6)])), (am 1, .inl (tm 1, 576, .inl mc)), (am 2, .inl (tm 2, 576, .inl md)), (am 3, .inl (tm 3, 3, .inl vx)), (am 4, .inl (tm 4, 3, .inl vy)), (am 5, .inl (tm 5, 3, .inl vz))]) (wr := [(ad 0, .inr (1, [.int (nI w), .int (nI h), .ref (ad 1), .ref (ad 2), .ref (ad 3), .ref (ad 4), .ref (ad 5), .int qd])), (ad 1, .inl (tc 1, (w * h), .inl co200)), (ad 2, .inl (tc 2, (w * h), .inl de200)), (ad 3, .inr (0, [.ref (ad 6), .ref (ad 7), .ref (ad 8), .int se, .int th, .long ar])), (ad 4, .inl (tc 4, (w * h), .inl rea)), (ad 5, .inl (tc 5, (w * h), .inl que)), (ad 6, .inl (tc 6, 3, .inl vx)), (ad 7, .inl (tc 7, 3, .inl vy)), (ad 8, .inl (tc 8, 3, .inl vz)), (am 6, .inl (tm 6, 576, .inl mk))]) hP hD hS hA [9, 10, 11, 12, 13, 14] [0, 1, 2, 3, 4, 5, 6, 7, 8, 15] rfl rfl (by decide) (by decide) (va_runV (As := [.int (xs (i + 1))]) (rest := [.int r200]) ⟨hx, hb, hml, hown, hts⟩ (c_X2_triangle l dC dI _ am tm w h mc md vx vy vz hw1 hw2 hh1 hh2 hv hz (xs (i + 1))) (cwV 1 hts gL_law_X2_triangle rfl rfl rfl (by decide +kernel) ⟨Nat.le_of_ble_eq_true rfl, Nat.le_of_ble_eq_true rfl⟩) (m_preV (ci := 2) (q0 := 0) (hP.sub [9, 10, 11, 12, 13, 14] rfl) (hK.sub [7, 8, 9, 10, 11] rfl) (hD.sub [9, 10, 11, 12, 13, 14] (by decide) rfl) hN rfl rfl) rfl rfl hl.1 rfl (lv_room (Nat.le_of_ble_eq_true rfl)) dL_law_209 ⟨Nat.le_of_ble_eq_true rfl, Nat.le_of_ble_eq_true rfl⟩) (fun r209 u209 H locs q209 hK2 hP hD hS => ?_)
  obtain ⟨co209, de209⟩ := u209
  have hP : va_P (dC, dI) vwCl [(ad 0, .inr (1, [.int (nI w), .int (nI h), .ref (ad 1), .ref (ad 2), .ref (ad 3), .ref (ad 4), .ref (ad 5), .int qd])), (ad 1, .inl (tc 1, (w * h), .inl co200)), (ad 2, .inl (tc 2, (w * h), .inl de200)), (ad 3, .inr (0, [.ref (ad 6), .ref (ad 7), .ref (ad 8), .int se, .int th, .long ar])), (ad 4, .inl (tc 4, (w * h), .inl rea)), (ad 5, .inl (tc 5, (w * h), .inl que)), (ad 6, .inl (tc 6, 3, .inl vx)), (ad 7, .inl (tc 7, 3, .inl vy)), (ad 8, .inl (tc 8, 3, .inl vz)), (am 0, .inr (2, [.int (nI w), .int (nI h), .ref (am 1), .ref (am 2), .ref (am 3), .ref (am 4), .ref (am 5), .ref (am 6)])), (am 1, .inl (tm 1, 576, .inl co209)), (am 2, .inl (tm 2, 576, .inl de209)), (am 3, .inl (tm 3, 3, .inl vx)), (am 4, .inl (tm 4, 3, .inl vy)), (am 5, .inl (tm 5, 3, .inl vz)), (am 6, .inl (tm 6, 576, .inl mk))] H := hP.sub [0, 1, 2, 3, 4, 5, 6, 7, 8, 10, 11, 12, 13, 14, 15, 9] rfl
  have hD : va_D (fun q : Nat => s.heap.size ≤ q) [(ad 0, .inr (1, [.int (nI w), .int (nI h), .ref (ad 1), .ref (ad 2), .ref (ad 3), .ref (ad 4), .ref (ad 5), .int qd])), (ad 1, .inl (tc 1, (w * h), .inl co200)), (ad 2, .inl (tc 2, (w * h), .inl de200)), (ad 3, .inr (0, [.ref (ad 6), .ref (ad 7), .ref (ad 8), .int se, .int th, .long ar])), (ad 4, .inl (tc 4, (w * h), .inl rea)), (ad 5, .inl (tc 5, (w * h), .inl que)), (ad 6, .inl (tc 6, 3, .inl vx)), (ad 7, .inl (tc 7, 3, .inl vy)), (ad 8, .inl (tc 8, 3, .inl vz)), (am 0, .inr (2, [.int (nI w), .int (nI h), .ref (am 1), .ref (am 2), .ref (am 3), .ref (am 4), .ref (am 5), .ref (am 6)])), (am 1, .inl (tm 1, 576, .inl co209)), (am 2, .inl (tm 2, 576, .inl de209)), (am 3, .inl (tm 3, 3, .inl vx)), (am 4, .inl (tm 4, 3, .inl vy)), (am 5, .inl (tm 5, 3, .inl vz)), (am 6, .inl (tm 6, 576, .inl mk))] := hD.sub [0, 1, 2, 3, 4, 5, 6, 7, 8, 10, 11, 12, 13, 14, 15, 9] (by decide) rfl
  have hE := tri_rel (u := (co200, de200)) (v := (co209, de209)) hc hd q200 q209
  refine lv_icmp_eq (tgt := 468) hx hb dL_law_212 (by decide) (fun c212 => ?_) (fun c212 => ?_)
  · exact K ad am tc tm w h qd se th ar vx vy vz co200 de200 rea que co209 de209 mk ⟨hw1, hw2, hh1, hh2⟩ hv hz hf hE.2.1 hE.2.2 H locs hK (hP.sub [0, 1, 2, 3, 4, 5, 6, 7, 8, 9, 10, 11, 12, 13, 14, 15] rfl) (hD.sub [0, 1, 2, 3, 4, 5, 6, 7, 8, 9, 10, 11, 12, 13, 14, 15] (by decide) rfl) hS ls (lv_sub hl [0, 1, 2, 3] rfl)
  · exact absurd hE.1 c212

set_option maxHeartbeats 1000000 in
set_option maxRecDepth 100000 in
/-- the law: covers -/
theorem law_217 {p : Program} {l : Launch} {e : Env} {s : State} {m : MethodId} {below : List Frame} {meth : Method} {cD : Code} {dC : Nat → ClassId} {dI : Nat → Nat → Nat} {b L : Nat} {xs : Nat → Int32} (hL : L ≤ 3074) (C0 : lw_At p s m meth cD b L xs) (hN : nst s) (i : Nat) (hi : i + 6 ≤ L) (K : LawSt p l e s m below meth cD b dC dI 468 i) : LawSt p l e s m below meth cD b dC dI 217 i := by
  obtain ⟨hx, hb, hr, hml, hown, hts, hX, hbl, hlocks, hgv⟩ := id C0
  have hown : s.vm.findClass RL = some m.cls := hown
  have hts : ∀ w ∈ wsL_law, w.before #[Value.ref b] s = true := fun w h => hts w (wsL_law_in w h)
  have hA : ∀ q : Nat, s.heap.size ≤ q → (fun q : Nat => s.heap.size ≤ q) q := fun _ h => h
  have hbA : ¬ (fun q : Nat => s.heap.size ≤ q) b := Nat.not_le.mpr hbl
  intro ad am tc tm w h qd se th ar vx vy vz col dep rea que mc md mk hwh4 hv hz hf hc hd H locs hK hP hD hS ls hl
  obtain ⟨hw1, hw2, hh1, hh2⟩ := hwh4
  refine lv_aload_n hx hb dL_law_217 rfl (lv_at hl 1 rfl) ?_
  refine lv_aload_n hx hb dL_law_218 rfl (lv_at hl 0 rfl) ?_
  refine lv_iload_n hx hb dL_law_219 rfl (lv_at hl 3 rfl) ?_
  refine lv_iconst (v := 1) hx hb dL_law_220 (by decide) ?_
  refine lv_iadd hx hb dL_law_221 ?_
  refine lv_topi (fun zz ezz => ?_)
  obtain rfl : zz = nI (i + 1) := ezz.trans ((by rw [show (1 : Int32) = nI 1 from rfl, nI_add]))
  refine va_sld hx hb hX hbl hbA hS (vp_in_nI (by omega) (by omega)) dL_law_222 ?_
  refine lv_topi (fun zz ezz => ?_)
  obtain rfl : zz = xs (i + 1) := ezz.trans (congrArg xs (nI_clamp (by omega)))
  refine lv_aload_n hx hb dL_law_223 rfl (lv_at hl 0 rfl) ?_
  refine lv_iload_n hx hb dL_law_224 rfl (lv_at hl 3 rfl) ?_
  refine lv_iconst (v := 2) hx hb dL_law_225 (by decide) ?_
  refine lv_iadd hx hb dL_law_226 ?_
  refine lv_topi (fun zz ezz => ?_)
  obtain rfl : zz = nI (i + 2) := ezz.trans ((by rw [show (2 : Int32) = nI 2 from rfl, nI_add]))
  refine va_sld hx hb hX hbl hbA hS (vp_in_nI (by omega) (by omega)) dL_law_227 ?_
  refine lv_topi (fun zz ezz => ?_)
  obtain rfl : zz = xs (i + 2) := ezz.trans (congrArg xs (nI_clamp (by omega)))
  refine m_calli (cs := [(ad 0, .inr (1, [.int (nI w), .int (nI h), .ref (ad 1), .ref (ad 2), .ref (ad 3), .ref (ad 4), .ref (ad 5), .int qd])), (ad 3, .inr (0, [.ref (ad 6), .ref (ad 7), .ref (ad 8), .int se, .int th, .long ar])), (ad 6, .inl (tc 6, 3, .inl vx)), (ad 7, .inl (tc 7, 3, .inl vy)), (ad 8, .inl (tc 8, 3, .inl vz))]) (wr := [(ad 1, .inl (tc 1, (w * h), .inl col)), (ad 2, .inl (tc 2, (w * h), .inl dep)), (ad 4, .inl (tc 4, (w * h), .inl rea)), (ad 5, .inl (tc 5, (w * h), .inl que)), (am 0, .inr (2, [.int (nI w), .int (nI h), .ref (am 1), .ref (am 2), .ref (am 3), .ref (am 4), .ref (am 5), .ref (am 6)])), (am 1, .inl (tm 1, 576, .inl mc)), (am 2, .inl (tm 2, 576, .inl md)), (am 3, .inl (tm 3, 3, .inl vx)), (am 4, .inl (tm 4, 3, .inl vy)), (am 5, .inl (tm 5, 3, .inl vz)), (am 6, .inl (tm 6, 576, .inl mk))]) hP hD hS hA [0, 3, 6, 7, 8] [1, 2, 4, 5, 9, 10, 11, 12, 13, 14, 15] rfl rfl (by decide) (by decide) (va_runV (As := [.int (xs (i + 1)), .int (xs (i + 2))]) (rest := []) ⟨hx, hb, hml, hown, hts⟩ (c_X1_covers l dC dI _ ad tc w h qd se th ar vx vy vz hv hz hf (xs (i + 1)) (xs (i + 2))) (cwV 2 hts gL_law_X1_covers rfl rfl rfl (by decide +kernel) ⟨Nat.le_of_ble_eq_true rfl, Nat.le_of_ble_eq_true rfl⟩) (m_preV (ci := 1) (q0 := 0) (hP.sub [0, 3, 6, 7, 8] rfl) (hK.sub [4, 5, 6] rfl) (hD.sub [0, 3, 6, 7, 8] (by decide) rfl) hN rfl rfl) rfl rfl hl.1 rfl (lv_room (Nat.le_of_ble_eq_true rfl)) dL_law_228 ⟨Nat.le_of_ble_eq_true rfl, Nat.le_of_ble_eq_true rfl⟩) (fun r228 _ H locs q228 hK2 hP hD hS => ?_)
  have hP : va_P (dC, dI) vwCl [(ad 0, .inr (1, [.int (nI w), .int (nI h), .ref (ad 1), .ref (ad 2), .ref (ad 3), .ref (ad 4), .ref (ad 5), .int qd])), (ad 1, .inl (tc 1, (w * h), .inl col)), (ad 2, .inl (tc 2, (w * h), .inl dep)), (ad 3, .inr (0, [.ref (ad 6), .ref (ad 7), .ref (ad 8), .int se, .int th, .long ar])), (ad 4, .inl (tc 4, (w * h), .inl rea)), (ad 5, .inl (tc 5, (w * h), .inl que)), (ad 6, .inl (tc 6, 3, .inl vx)), (ad 7, .inl (tc 7, 3, .inl vy)), (ad 8, .inl (tc 8, 3, .inl vz)), (am 0, .inr (2, [.int (nI w), .int (nI h), .ref (am 1), .ref (am 2), .ref (am 3), .ref (am 4), .ref (am 5), .ref (am 6)])), (am 1, .inl (tm 1, 576, .inl mc)), (am 2, .inl (tm 2, 576, .inl md)), (am 3, .inl (tm 3, 3, .inl vx)), (am 4, .inl (tm 4, 3, .inl vy)), (am 5, .inl (tm 5, 3, .inl vz)), (am 6, .inl (tm 6, 576, .inl mk))] H := hP.sub [11, 0, 1, 12, 2, 3, 13, 14, 15, 4, 5, 6, 7, 8, 9, 10] rfl
  have hD : va_D (fun q : Nat => s.heap.size ≤ q) [(ad 0, .inr (1, [.int (nI w), .int (nI h), .ref (ad 1), .ref (ad 2), .ref (ad 3), .ref (ad 4), .ref (ad 5), .int qd])), (ad 1, .inl (tc 1, (w * h), .inl col)), (ad 2, .inl (tc 2, (w * h), .inl dep)), (ad 3, .inr (0, [.ref (ad 6), .ref (ad 7), .ref (ad 8), .int se, .int th, .long ar])), (ad 4, .inl (tc 4, (w * h), .inl rea)), (ad 5, .inl (tc 5, (w * h), .inl que)), (ad 6, .inl (tc 6, 3, .inl vx)), (ad 7, .inl (tc 7, 3, .inl vy)), (ad 8, .inl (tc 8, 3, .inl vz)), (am 0, .inr (2, [.int (nI w), .int (nI h), .ref (am 1), .ref (am 2), .ref (am 3), .ref (am 4), .ref (am 5), .ref (am 6)])), (am 1, .inl (tm 1, 576, .inl mc)), (am 2, .inl (tm 2, 576, .inl md)), (am 3, .inl (tm 3, 3, .inl vx)), (am 4, .inl (tm 4, 3, .inl vy)), (am 5, .inl (tm 5, 3, .inl vz)), (am 6, .inl (tm 6, 576, .inl mk))] := hD.sub [11, 0, 1, 12, 2, 3, 13, 14, 15, 4, 5, 6, 7, 8, 9, 10] (by decide) rfl
  refine lv_aload_n hx hb dL_law_231 rfl (lv_at hl 2 rfl) ?_
  refine lv_aload_n hx hb dL_law_232 rfl (lv_at hl 0 rfl) ?_
  refine lv_iload_n hx hb dL_law_233 rfl (lv_at hl 3 rfl) ?_
  refine lv_iconst (v := 1) hx hb dL_law_234 (by decide) ?_
  refine lv_iadd hx hb dL_law_235 ?_
  refine lv_topi (fun zz ezz => ?_)
  obtain rfl : zz = nI (i + 1) := ezz.trans ((by rw [show (1 : Int32) = nI 1 from rfl, nI_add]))
  refine va_sld hx hb hX hbl hbA hS (vp_in_nI (by omega) (by omega)) dL_law_236 ?_
  refine lv_topi (fun zz ezz => ?_)
  obtain rfl : zz = xs (i + 1) := ezz.trans (congrArg xs (nI_clamp (by omega)))
  refine lv_aload_n hx hb dL_law_237 rfl (lv_at hl 0 rfl) ?_
  refine lv_iload_n hx hb dL_law_238 rfl (lv_at hl 3 rfl) ?_
  refine lv_iconst (v := 2) hx hb dL_law_239 (by decide) ?_
  refine lv_iadd hx hb dL_law_240 ?_
  refine lv_topi (fun zz ezz => ?_)
  obtain rfl : zz = nI (i + 2) := ezz.trans ((by rw [show (2 : Int32) = nI 2 from rfl, nI_add]))
  refine va_sld hx hb hX hbl hbA hS (vp_in_nI (by omega) (by omega)) dL_law_241 ?_
  refine lv_topi (fun zz ezz => ?_)
  obtain rfl : zz = xs (i + 2) := ezz.trans (congrArg xs (nI_clamp (by omega)))
  refine m_calli (cs := [(am 0, .inr (2, [.int (nI w), .int (nI h), .ref (am 1), .ref (am 2), .ref (am 3), .ref (am 4), .ref (am 5), .ref (am 6)])), (am 3, .inl (tm 3, 3, .inl vx)), (am 4, .inl (tm 4, 3, .inl vy))]) (wr := [(ad 0, .inr (1, [.int (nI w), .int (nI h), .ref (ad 1), .ref (ad 2), .ref (ad 3), .ref (ad 4), .ref (ad 5), .int qd])), (ad 1, .inl (tc 1, (w * h), .inl col)), (ad 2, .inl (tc 2, (w * h), .inl dep)), (ad 3, .inr (0, [.ref (ad 6), .ref (ad 7), .ref (ad 8), .int se, .int th, .long ar])), (ad 4, .inl (tc 4, (w * h), .inl rea)), (ad 5, .inl (tc 5, (w * h), .inl que)), (ad 6, .inl (tc 6, 3, .inl vx)), (ad 7, .inl (tc 7, 3, .inl vy)), (ad 8, .inl (tc 8, 3, .inl vz)), (am 1, .inl (tm 1, 576, .inl mc)), (am 2, .inl (tm 2, 576, .inl md)), (am 5, .inl (tm 5, 3, .inl vz)), (am 6, .inl (tm 6, 576, .inl mk))]) hP hD hS hA [9, 12, 13] [0, 1, 2, 3, 4, 5, 6, 7, 8, 10, 11, 14, 15] rfl rfl (by decide) (by decide) (va_runV (As := [.int (xs (i + 1)), .int (xs (i + 2))]) (rest := [.int r228]) ⟨hx, hb, hml, hown, hts⟩ (c_X2_covers l dC dI _ am tm w h vx vy hv (xs (i + 1)) (xs (i + 2))) (cwV 2 hts gL_law_X2_covers rfl rfl rfl (by decide +kernel) ⟨Nat.le_of_ble_eq_true rfl, Nat.le_of_ble_eq_true rfl⟩) (m_preV (ci := 2) (q0 := 0) (hP.sub [9, 12, 13] rfl) (hK.sub [9, 10] rfl) (hD.sub [9, 12, 13] (by decide) rfl) hN rfl rfl) rfl rfl hl.1 rfl (lv_room (Nat.le_of_ble_eq_true rfl)) dL_law_242 ⟨Nat.le_of_ble_eq_true rfl, Nat.le_of_ble_eq_true rfl⟩) (fun r242 _ H locs q242 hK2 hP hD hS => ?_)
  have hP : va_P (dC, dI) vwCl [(ad 0, .inr (1, [.int (nI w), .int (nI h), .ref (ad 1), .ref (ad 2), .ref (ad 3), .ref (ad 4), .ref (ad 5), .int qd])), (ad 1, .inl (tc 1, (w * h), .inl col)), (ad 2, .inl (tc 2, (w * h), .inl dep)), (ad 3, .inr (0, [.ref (ad 6), .ref (ad 7), .ref (ad 8), .int se, .int th, .long ar])), (ad 4, .inl (tc 4, (w * h), .inl rea)), (ad 5, .inl (tc 5, (w * h), .inl que)), (ad 6, .inl (tc 6, 3, .inl vx)), (ad 7, .inl (tc 7, 3, .inl vy)), (ad 8, .inl (tc 8, 3, .inl vz)), (am 0, .inr (2, [.int (nI w), .int (nI h), .ref (am 1), .ref (am 2), .ref (am 3), .ref (am 4), .ref (am 5), .ref (am 6)])), (am 1, .inl (tm 1, 576, .inl mc)), (am 2, .inl (tm 2, 576, .inl md)), (am 3, .inl (tm 3, 3, .inl vx)), (am 4, .inl (tm 4, 3, .inl vy)), (am 5, .inl (tm 5, 3, .inl vz)), (am 6, .inl (tm 6, 576, .inl mk))] H := hP.sub [0, 1, 2, 3, 4, 5, 6, 7, 8, 13, 9, 10, 14, 15, 11, 12] rfl
  have hD : va_D (fun q : Nat => s.heap.size ≤ q) [(ad 0, .inr (1, [.int (nI w), .int (nI h), .ref (ad 1), .ref (ad 2), .ref (ad 3), .ref (ad 4), .ref (ad 5), .int qd])), (ad 1, .inl (tc 1, (w * h), .inl col)), (ad 2, .inl (tc 2, (w * h), .inl dep)), (ad 3, .inr (0, [.ref (ad 6), .ref (ad 7), .ref (ad 8), .int se, .int th, .long ar])), (ad 4, .inl (tc 4, (w * h), .inl rea)), (ad 5, .inl (tc 5, (w * h), .inl que)), (ad 6, .inl (tc 6, 3, .inl vx)), (ad 7, .inl (tc 7, 3, .inl vy)), (ad 8, .inl (tc 8, 3, .inl vz)), (am 0, .inr (2, [.int (nI w), .int (nI h), .ref (am 1), .ref (am 2), .ref (am 3), .ref (am 4), .ref (am 5), .ref (am 6)])), (am 1, .inl (tm 1, 576, .inl mc)), (am 2, .inl (tm 2, 576, .inl md)), (am 3, .inl (tm 3, 3, .inl vx)), (am 4, .inl (tm 4, 3, .inl vy)), (am 5, .inl (tm 5, 3, .inl vz)), (am 6, .inl (tm 6, 576, .inl mk))] := hD.sub [0, 1, 2, 3, 4, 5, 6, 7, 8, 13, 9, 10, 14, 15, 11, 12] (by decide) rfl
  refine lv_icmp_eq (tgt := 468) hx hb dL_law_245 (by decide) (fun c245 => ?_) (fun c245 => ?_)
  · exact K ad am tc tm w h qd se th ar vx vy vz col dep rea que mc md mk ⟨hw1, hw2, hh1, hh2⟩ hv hz hf hc hd H locs hK (hP.sub [0, 1, 2, 3, 4, 5, 6, 7, 8, 9, 10, 11, 12, 13, 14, 15] rfl) (hD.sub [0, 1, 2, 3, 4, 5, 6, 7, 8, 9, 10, 11, 12, 13, 14, 15] (by decide) rfl) hS ls (lv_sub hl [0, 1, 2, 3] rfl)
  · exact absurd (b_rel q228 q242) c245

set_option maxHeartbeats 1000000 in
set_option maxRecDepth 100000 in
/-- the law: line -/
theorem law_250 {p : Program} {l : Launch} {e : Env} {s : State} {m : MethodId} {below : List Frame} {meth : Method} {cD : Code} {dC : Nat → ClassId} {dI : Nat → Nat → Nat} {b L : Nat} {xs : Nat → Int32} (hL : L ≤ 3074) (C0 : lw_At p s m meth cD b L xs) (hN : nst s) (i : Nat) (hi : i + 6 ≤ L) (K : LawSt p l e s m below meth cD b dC dI 468 i) : LawSt p l e s m below meth cD b dC dI 250 i := by
  obtain ⟨hx, hb, hr, hml, hown, hts, hX, hbl, hlocks, hgv⟩ := id C0
  have hown : s.vm.findClass RL = some m.cls := hown
  have hts : ∀ w ∈ wsL_law, w.before #[Value.ref b] s = true := fun w h => hts w (wsL_law_in w h)
  have hA : ∀ q : Nat, s.heap.size ≤ q → (fun q : Nat => s.heap.size ≤ q) q := fun _ h => h
  have hbA : ¬ (fun q : Nat => s.heap.size ≤ q) b := Nat.not_le.mpr hbl
  intro ad am tc tm w h qd se th ar vx vy vz col dep rea que mc md mk hwh4 hv hz hf hc hd H locs hK hP hD hS ls hl
  obtain ⟨hw1, hw2, hh1, hh2⟩ := hwh4
  refine lv_aload_n hx hb dL_law_250 rfl (lv_at hl 1 rfl) ?_
  refine lv_aload_n hx hb dL_law_251 rfl (lv_at hl 0 rfl) ?_
  refine lv_iload_n hx hb dL_law_252 rfl (lv_at hl 3 rfl) ?_
  refine lv_iconst (v := 1) hx hb dL_law_253 (by decide) ?_
  refine lv_iadd hx hb dL_law_254 ?_
  refine lv_topi (fun zz ezz => ?_)
  obtain rfl : zz = nI (i + 1) := ezz.trans ((by rw [show (1 : Int32) = nI 1 from rfl, nI_add]))
  refine va_sld hx hb hX hbl hbA hS (vp_in_nI (by omega) (by omega)) dL_law_255 ?_
  refine lv_topi (fun zz ezz => ?_)
  obtain rfl : zz = xs (i + 1) := ezz.trans (congrArg xs (nI_clamp (by omega)))
  refine lv_aload_n hx hb dL_law_256 rfl (lv_at hl 0 rfl) ?_
  refine lv_iload_n hx hb dL_law_257 rfl (lv_at hl 3 rfl) ?_
  refine lv_iconst (v := 2) hx hb dL_law_258 (by decide) ?_
  refine lv_iadd hx hb dL_law_259 ?_
  refine lv_topi (fun zz ezz => ?_)
  obtain rfl : zz = nI (i + 2) := ezz.trans ((by rw [show (2 : Int32) = nI 2 from rfl, nI_add]))
  refine va_sld hx hb hX hbl hbA hS (vp_in_nI (by omega) (by omega)) dL_law_260 ?_
  refine lv_topi (fun zz ezz => ?_)
  obtain rfl : zz = xs (i + 2) := ezz.trans (congrArg xs (nI_clamp (by omega)))
  refine lv_aload_n hx hb dL_law_261 rfl (lv_at hl 0 rfl) ?_
  refine lv_iload_n hx hb dL_law_262 rfl (lv_at hl 3 rfl) ?_
  refine lv_iconst (v := 3) hx hb dL_law_263 (by decide) ?_
  refine lv_iadd hx hb dL_law_264 ?_
  refine lv_topi (fun zz ezz => ?_)
  obtain rfl : zz = nI (i + 3) := ezz.trans ((by rw [show (3 : Int32) = nI 3 from rfl, nI_add]))
  refine va_sld hx hb hX hbl hbA hS (vp_in_nI (by omega) (by omega)) dL_law_265 ?_
  refine lv_topi (fun zz ezz => ?_)
  obtain rfl : zz = xs (i + 3) := ezz.trans (congrArg xs (nI_clamp (by omega)))
  refine lv_aload_n hx hb dL_law_266 rfl (lv_at hl 0 rfl) ?_
  refine lv_iload_n hx hb dL_law_267 rfl (lv_at hl 3 rfl) ?_
  refine lv_iconst (v := 4) hx hb dL_law_268 (by decide) ?_
  refine lv_iadd hx hb dL_law_269 ?_
  refine lv_topi (fun zz ezz => ?_)
  obtain rfl : zz = nI (i + 4) := ezz.trans ((by rw [show (4 : Int32) = nI 4 from rfl, nI_add]))
  refine va_sld hx hb hX hbl hbA hS (vp_in_nI (by omega) (by omega)) dL_law_270 ?_
  refine lv_topi (fun zz ezz => ?_)
  obtain rfl : zz = xs (i + 4) := ezz.trans (congrArg xs (nI_clamp (by omega)))
  refine lv_aload_n hx hb dL_law_271 rfl (lv_at hl 0 rfl) ?_
  refine lv_iload_n hx hb dL_law_272 rfl (lv_at hl 3 rfl) ?_
  refine lv_iconst (v := 5) hx hb dL_law_273 (by decide) ?_
  refine lv_iadd hx hb dL_law_274 ?_
  refine lv_topi (fun zz ezz => ?_)
  obtain rfl : zz = nI (i + 5) := ezz.trans ((by rw [show (5 : Int32) = nI 5 from rfl, nI_add]))
  refine va_sld hx hb hX hbl hbA hS (vp_in_nI (by omega) (by omega)) dL_law_275 ?_
  refine lv_topi (fun zz ezz => ?_)
  obtain rfl : zz = xs (i + 5) := ezz.trans (congrArg xs (nI_clamp (by omega)))
  refine m_calli (cs := [(ad 0, .inr (1, [.int (nI w), .int (nI h), .ref (ad 1), .ref (ad 2), .ref (ad 3), .ref (ad 4), .ref (ad 5), .int qd])), (ad 1, .inl (tc 1, (w * h), .inl col))]) (wr := [(ad 2, .inl (tc 2, (w * h), .inl dep)), (ad 3, .inr (0, [.ref (ad 6), .ref (ad 7), .ref (ad 8), .int se, .int th, .long ar])), (ad 4, .inl (tc 4, (w * h), .inl rea)), (ad 5, .inl (tc 5, (w * h), .inl que)), (ad 6, .inl (tc 6, 3, .inl vx)), (ad 7, .inl (tc 7, 3, .inl vy)), (ad 8, .inl (tc 8, 3, .inl vz)), (am 0, .inr (2, [.int (nI w), .int (nI h), .ref (am 1), .ref (am 2), .ref (am 3), .ref (am 4), .ref (am 5), .ref (am 6)])), (am 1, .inl (tm 1, 576, .inl mc)), (am 2, .inl (tm 2, 576, .inl md)), (am 3, .inl (tm 3, 3, .inl vx)), (am 4, .inl (tm 4, 3, .inl vy)), (am 5, .inl (tm 5, 3, .inl vz)), (am 6, .inl (tm 6, 576, .inl mk))]) hP hD hS hA [0, 1] [2, 3, 4, 5, 6, 7, 8, 9, 10, 11, 12, 13, 14, 15] rfl rfl (by decide) (by decide) (va_runV (As := [.int (xs (i + 1)), .int (xs (i + 2)), .int (xs (i + 3)), .int (xs (i + 4)), .int (xs (i + 5))]) (rest := []) ⟨hx, hb, hml, hown, hts⟩ (c_X1_line l dC dI _ ad tc w h qd col hw1 hw2 hh1 hh2 (xs (i + 1)) (xs (i + 2)) (xs (i + 3)) (xs (i + 4)) (xs (i + 5))) (cwV 5 hts gL_law_X1_line rfl rfl rfl (by decide +kernel) ⟨Nat.le_of_ble_eq_true rfl, Nat.le_of_ble_eq_true rfl⟩) (m_preV (ci := 1) (q0 := 0) (hP.sub [0, 1] rfl) (hK.sub [0] rfl) (hD.sub [0, 1] (by decide) rfl) hN rfl rfl) rfl rfl hl.1 rfl (lv_room (Nat.le_of_ble_eq_true rfl)) dL_law_276 ⟨Nat.le_of_ble_eq_true rfl, Nat.le_of_ble_eq_true rfl⟩) (fun r276 co276 H locs q276 hK2 hP hD hS => ?_)
  have hP : va_P (dC, dI) vwCl [(ad 0, .inr (1, [.int (nI w), .int (nI h), .ref (ad 1), .ref (ad 2), .ref (ad 3), .ref (ad 4), .ref (ad 5), .int qd])), (ad 1, .inl (tc 1, (w * h), .inl co276)), (ad 2, .inl (tc 2, (w * h), .inl dep)), (ad 3, .inr (0, [.ref (ad 6), .ref (ad 7), .ref (ad 8), .int se, .int th, .long ar])), (ad 4, .inl (tc 4, (w * h), .inl rea)), (ad 5, .inl (tc 5, (w * h), .inl que)), (ad 6, .inl (tc 6, 3, .inl vx)), (ad 7, .inl (tc 7, 3, .inl vy)), (ad 8, .inl (tc 8, 3, .inl vz)), (am 0, .inr (2, [.int (nI w), .int (nI h), .ref (am 1), .ref (am 2), .ref (am 3), .ref (am 4), .ref (am 5), .ref (am 6)])), (am 1, .inl (tm 1, 576, .inl mc)), (am 2, .inl (tm 2, 576, .inl md)), (am 3, .inl (tm 3, 3, .inl vx)), (am 4, .inl (tm 4, 3, .inl vy)), (am 5, .inl (tm 5, 3, .inl vz)), (am 6, .inl (tm 6, 576, .inl mk))] H := hP.sub [14, 15, 0, 1, 2, 3, 4, 5, 6, 7, 8, 9, 10, 11, 12, 13] rfl
  have hD : va_D (fun q : Nat => s.heap.size ≤ q) [(ad 0, .inr (1, [.int (nI w), .int (nI h), .ref (ad 1), .ref (ad 2), .ref (ad 3), .ref (ad 4), .ref (ad 5), .int qd])), (ad 1, .inl (tc 1, (w * h), .inl co276)), (ad 2, .inl (tc 2, (w * h), .inl dep)), (ad 3, .inr (0, [.ref (ad 6), .ref (ad 7), .ref (ad 8), .int se, .int th, .long ar])), (ad 4, .inl (tc 4, (w * h), .inl rea)), (ad 5, .inl (tc 5, (w * h), .inl que)), (ad 6, .inl (tc 6, 3, .inl vx)), (ad 7, .inl (tc 7, 3, .inl vy)), (ad 8, .inl (tc 8, 3, .inl vz)), (am 0, .inr (2, [.int (nI w), .int (nI h), .ref (am 1), .ref (am 2), .ref (am 3), .ref (am 4), .ref (am 5), .ref (am 6)])), (am 1, .inl (tm 1, 576, .inl mc)), (am 2, .inl (tm 2, 576, .inl md)), (am 3, .inl (tm 3, 3, .inl vx)), (am 4, .inl (tm 4, 3, .inl vy)), (am 5, .inl (tm 5, 3, .inl vz)), (am 6, .inl (tm 6, 576, .inl mk))] := hD.sub [14, 15, 0, 1, 2, 3, 4, 5, 6, 7, 8, 9, 10, 11, 12, 13] (by decide) rfl
  refine lv_aload_n hx hb dL_law_279 rfl (lv_at hl 2 rfl) ?_
  refine lv_aload_n hx hb dL_law_280 rfl (lv_at hl 0 rfl) ?_
  refine lv_iload_n hx hb dL_law_281 rfl (lv_at hl 3 rfl) ?_
  refine lv_iconst (v := 1) hx hb dL_law_282 (by decide) ?_
  refine lv_iadd hx hb dL_law_283 ?_
  refine lv_topi (fun zz ezz => ?_)
  obtain rfl : zz = nI (i + 1) := ezz.trans ((by rw [show (1 : Int32) = nI 1 from rfl, nI_add]))
  refine va_sld hx hb hX hbl hbA hS (vp_in_nI (by omega) (by omega)) dL_law_284 ?_
  refine lv_topi (fun zz ezz => ?_)
  obtain rfl : zz = xs (i + 1) := ezz.trans (congrArg xs (nI_clamp (by omega)))
  refine lv_aload_n hx hb dL_law_285 rfl (lv_at hl 0 rfl) ?_
  refine lv_iload_n hx hb dL_law_286 rfl (lv_at hl 3 rfl) ?_
  refine lv_iconst (v := 2) hx hb dL_law_287 (by decide) ?_
  refine lv_iadd hx hb dL_law_288 ?_
  refine lv_topi (fun zz ezz => ?_)
  obtain rfl : zz = nI (i + 2) := ezz.trans ((by rw [show (2 : Int32) = nI 2 from rfl, nI_add]))
  refine va_sld hx hb hX hbl hbA hS (vp_in_nI (by omega) (by omega)) dL_law_289 ?_
  refine lv_topi (fun zz ezz => ?_)
  obtain rfl : zz = xs (i + 2) := ezz.trans (congrArg xs (nI_clamp (by omega)))
  refine lv_aload_n hx hb dL_law_290 rfl (lv_at hl 0 rfl) ?_
  refine lv_iload_n hx hb dL_law_291 rfl (lv_at hl 3 rfl) ?_
  refine lv_iconst (v := 3) hx hb dL_law_292 (by decide) ?_
  refine lv_iadd hx hb dL_law_293 ?_
  refine lv_topi (fun zz ezz => ?_)
  obtain rfl : zz = nI (i + 3) := ezz.trans ((by rw [show (3 : Int32) = nI 3 from rfl, nI_add]))
  refine va_sld hx hb hX hbl hbA hS (vp_in_nI (by omega) (by omega)) dL_law_294 ?_
  refine lv_topi (fun zz ezz => ?_)
  obtain rfl : zz = xs (i + 3) := ezz.trans (congrArg xs (nI_clamp (by omega)))
  refine lv_aload_n hx hb dL_law_295 rfl (lv_at hl 0 rfl) ?_
  refine lv_iload_n hx hb dL_law_296 rfl (lv_at hl 3 rfl) ?_
  refine lv_iconst (v := 4) hx hb dL_law_297 (by decide) ?_
  refine lv_iadd hx hb dL_law_298 ?_
  refine lv_topi (fun zz ezz => ?_)
  obtain rfl : zz = nI (i + 4) := ezz.trans ((by rw [show (4 : Int32) = nI 4 from rfl, nI_add]))
  refine va_sld hx hb hX hbl hbA hS (vp_in_nI (by omega) (by omega)) dL_law_299 ?_
  refine lv_topi (fun zz ezz => ?_)
  obtain rfl : zz = xs (i + 4) := ezz.trans (congrArg xs (nI_clamp (by omega)))
  refine lv_aload_n hx hb dL_law_300 rfl (lv_at hl 0 rfl) ?_
  refine lv_iload_n hx hb dL_law_301 rfl (lv_at hl 3 rfl) ?_
  refine lv_iconst (v := 5) hx hb dL_law_302 (by decide) ?_
  refine lv_iadd hx hb dL_law_303 ?_
  refine lv_topi (fun zz ezz => ?_)
  obtain rfl : zz = nI (i + 5) := ezz.trans ((by rw [show (5 : Int32) = nI 5 from rfl, nI_add]))
  refine va_sld hx hb hX hbl hbA hS (vp_in_nI (by omega) (by omega)) dL_law_304 ?_
  refine lv_topi (fun zz ezz => ?_)
  obtain rfl : zz = xs (i + 5) := ezz.trans (congrArg xs (nI_clamp (by omega)))
  refine m_calli (cs := [(am 0, .inr (2, [.int (nI w), .int (nI h), .ref (am 1), .ref (am 2), .ref (am 3), .ref (am 4), .ref (am 5), .ref (am 6)])), (am 1, .inl (tm 1, 576, .inl mc))]) (wr := [(ad 0, .inr (1, [.int (nI w), .int (nI h), .ref (ad 1), .ref (ad 2), .ref (ad 3), .ref (ad 4), .ref (ad 5), .int qd])), (ad 1, .inl (tc 1, (w * h), .inl co276)), (ad 2, .inl (tc 2, (w * h), .inl dep)), (ad 3, .inr (0, [.ref (ad 6), .ref (ad 7), .ref (ad 8), .int se, .int th, .long ar])), (ad 4, .inl (tc 4, (w * h), .inl rea)), (ad 5, .inl (tc 5, (w * h), .inl que)), (ad 6, .inl (tc 6, 3, .inl vx)), (ad 7, .inl (tc 7, 3, .inl vy)), (ad 8, .inl (tc 8, 3, .inl vz)), (am 2, .inl (tm 2, 576, .inl md)), (am 3, .inl (tm 3, 3, .inl vx)), (am 4, .inl (tm 4, 3, .inl vy)), (am 5, .inl (tm 5, 3, .inl vz)), (am 6, .inl (tm 6, 576, .inl mk))]) hP hD hS hA [9, 10] [0, 1, 2, 3, 4, 5, 6, 7, 8, 11, 12, 13, 14, 15] rfl rfl (by decide) (by decide) (va_runV (As := [.int (xs (i + 1)), .int (xs (i + 2)), .int (xs (i + 3)), .int (xs (i + 4)), .int (xs (i + 5))]) (rest := [.int r276]) ⟨hx, hb, hml, hown, hts⟩ (c_X2_line l dC dI _ am tm w h mc hw1 hw2 hh1 hh2 (xs (i + 1)) (xs (i + 2)) (xs (i + 3)) (xs (i + 4)) (xs (i + 5))) (cwV 5 hts gL_law_X2_line rfl rfl rfl (by decide +kernel) ⟨Nat.le_of_ble_eq_true rfl, Nat.le_of_ble_eq_true rfl⟩) (m_preV (ci := 2) (q0 := 0) (hP.sub [9, 10] rfl) (hK.sub [7] rfl) (hD.sub [9, 10] (by decide) rfl) hN rfl rfl) rfl rfl hl.1 rfl (lv_room (Nat.le_of_ble_eq_true rfl)) dL_law_305 ⟨Nat.le_of_ble_eq_true rfl, Nat.le_of_ble_eq_true rfl⟩) (fun r305 co305 H locs q305 hK2 hP hD hS => ?_)
  have hP : va_P (dC, dI) vwCl [(ad 0, .inr (1, [.int (nI w), .int (nI h), .ref (ad 1), .ref (ad 2), .ref (ad 3), .ref (ad 4), .ref (ad 5), .int qd])), (ad 1, .inl (tc 1, (w * h), .inl co276)), (ad 2, .inl (tc 2, (w * h), .inl dep)), (ad 3, .inr (0, [.ref (ad 6), .ref (ad 7), .ref (ad 8), .int se, .int th, .long ar])), (ad 4, .inl (tc 4, (w * h), .inl rea)), (ad 5, .inl (tc 5, (w * h), .inl que)), (ad 6, .inl (tc 6, 3, .inl vx)), (ad 7, .inl (tc 7, 3, .inl vy)), (ad 8, .inl (tc 8, 3, .inl vz)), (am 0, .inr (2, [.int (nI w), .int (nI h), .ref (am 1), .ref (am 2), .ref (am 3), .ref (am 4), .ref (am 5), .ref (am 6)])), (am 1, .inl (tm 1, 576, .inl co305)), (am 2, .inl (tm 2, 576, .inl md)), (am 3, .inl (tm 3, 3, .inl vx)), (am 4, .inl (tm 4, 3, .inl vy)), (am 5, .inl (tm 5, 3, .inl vz)), (am 6, .inl (tm 6, 576, .inl mk))] H := hP.sub [0, 1, 2, 3, 4, 5, 6, 7, 8, 14, 15, 9, 10, 11, 12, 13] rfl
  have hD : va_D (fun q : Nat => s.heap.size ≤ q) [(ad 0, .inr (1, [.int (nI w), .int (nI h), .ref (ad 1), .ref (ad 2), .ref (ad 3), .ref (ad 4), .ref (ad 5), .int qd])), (ad 1, .inl (tc 1, (w * h), .inl co276)), (ad 2, .inl (tc 2, (w * h), .inl dep)), (ad 3, .inr (0, [.ref (ad 6), .ref (ad 7), .ref (ad 8), .int se, .int th, .long ar])), (ad 4, .inl (tc 4, (w * h), .inl rea)), (ad 5, .inl (tc 5, (w * h), .inl que)), (ad 6, .inl (tc 6, 3, .inl vx)), (ad 7, .inl (tc 7, 3, .inl vy)), (ad 8, .inl (tc 8, 3, .inl vz)), (am 0, .inr (2, [.int (nI w), .int (nI h), .ref (am 1), .ref (am 2), .ref (am 3), .ref (am 4), .ref (am 5), .ref (am 6)])), (am 1, .inl (tm 1, 576, .inl co305)), (am 2, .inl (tm 2, 576, .inl md)), (am 3, .inl (tm 3, 3, .inl vx)), (am 4, .inl (tm 4, 3, .inl vy)), (am 5, .inl (tm 5, 3, .inl vz)), (am 6, .inl (tm 6, 576, .inl mk))] := hD.sub [0, 1, 2, 3, 4, 5, 6, 7, 8, 14, 15, 9, 10, 11, 12, 13] (by decide) rfl
  have hE := line_rel hc q276 q305
  refine lv_icmp_eq (tgt := 468) hx hb dL_law_308 (by decide) (fun c308 => ?_) (fun c308 => ?_)
  · exact K ad am tc tm w h qd se th ar vx vy vz co276 dep rea que co305 md mk ⟨hw1, hw2, hh1, hh2⟩ hv hz hf hE.2 hd H locs hK (hP.sub [0, 1, 2, 3, 4, 5, 6, 7, 8, 9, 10, 11, 12, 13, 14, 15] rfl) (hD.sub [0, 1, 2, 3, 4, 5, 6, 7, 8, 9, 10, 11, 12, 13, 14, 15] (by decide) rfl) hS ls (lv_sub hl [0, 1, 2, 3] rfl)
  · exact absurd hE.1 c308

set_option maxHeartbeats 1000000 in
set_option maxRecDepth 100000 in
/-- the law: fill -/
theorem law_313 {p : Program} {l : Launch} {e : Env} {s : State} {m : MethodId} {below : List Frame} {meth : Method} {cD : Code} {dC : Nat → ClassId} {dI : Nat → Nat → Nat} {b L : Nat} {xs : Nat → Int32} (hL : L ≤ 3074) (C0 : lw_At p s m meth cD b L xs) (hN : nst s) (i : Nat) (hi : i + 6 ≤ L) (K : LawSt p l e s m below meth cD b dC dI 468 i) : LawSt p l e s m below meth cD b dC dI 313 i := by
  obtain ⟨hx, hb, hr, hml, hown, hts, hX, hbl, hlocks, hgv⟩ := id C0
  have hown : s.vm.findClass RL = some m.cls := hown
  have hts : ∀ w ∈ wsL_law, w.before #[Value.ref b] s = true := fun w h => hts w (wsL_law_in w h)
  have hA : ∀ q : Nat, s.heap.size ≤ q → (fun q : Nat => s.heap.size ≤ q) q := fun _ h => h
  have hbA : ¬ (fun q : Nat => s.heap.size ≤ q) b := Nat.not_le.mpr hbl
  intro ad am tc tm w h qd se th ar vx vy vz col dep rea que mc md mk hwh4 hv hz hf hc hd H locs hK hP hD hS ls hl
  obtain ⟨hw1, hw2, hh1, hh2⟩ := hwh4
  refine lv_aload_n hx hb dL_law_313 rfl (lv_at hl 1 rfl) ?_
  refine lv_aload_n hx hb dL_law_314 rfl (lv_at hl 0 rfl) ?_
  refine lv_iload_n hx hb dL_law_315 rfl (lv_at hl 3 rfl) ?_
  refine lv_iconst (v := 1) hx hb dL_law_316 (by decide) ?_
  refine lv_iadd hx hb dL_law_317 ?_
  refine lv_topi (fun zz ezz => ?_)
  obtain rfl : zz = nI (i + 1) := ezz.trans ((by rw [show (1 : Int32) = nI 1 from rfl, nI_add]))
  refine va_sld hx hb hX hbl hbA hS (vp_in_nI (by omega) (by omega)) dL_law_318 ?_
  refine lv_topi (fun zz ezz => ?_)
  obtain rfl : zz = xs (i + 1) := ezz.trans (congrArg xs (nI_clamp (by omega)))
  refine lv_aload_n hx hb dL_law_319 rfl (lv_at hl 0 rfl) ?_
  refine lv_iload_n hx hb dL_law_320 rfl (lv_at hl 3 rfl) ?_
  refine lv_iconst (v := 2) hx hb dL_law_321 (by decide) ?_
  refine lv_iadd hx hb dL_law_322 ?_
  refine lv_topi (fun zz ezz => ?_)
  obtain rfl : zz = nI (i + 2) := ezz.trans ((by rw [show (2 : Int32) = nI 2 from rfl, nI_add]))
  refine va_sld hx hb hX hbl hbA hS (vp_in_nI (by omega) (by omega)) dL_law_323 ?_
  refine lv_topi (fun zz ezz => ?_)
  obtain rfl : zz = xs (i + 2) := ezz.trans (congrArg xs (nI_clamp (by omega)))
  refine lv_aload_n hx hb dL_law_324 rfl (lv_at hl 0 rfl) ?_
  refine lv_iload_n hx hb dL_law_325 rfl (lv_at hl 3 rfl) ?_
  refine lv_iconst (v := 3) hx hb dL_law_326 (by decide) ?_
  refine lv_iadd hx hb dL_law_327 ?_
  refine lv_topi (fun zz ezz => ?_)
  obtain rfl : zz = nI (i + 3) := ezz.trans ((by rw [show (3 : Int32) = nI 3 from rfl, nI_add]))
  refine va_sld hx hb hX hbl hbA hS (vp_in_nI (by omega) (by omega)) dL_law_328 ?_
  refine lv_topi (fun zz ezz => ?_)
  obtain rfl : zz = xs (i + 3) := ezz.trans (congrArg xs (nI_clamp (by omega)))
  refine m_calli (cs := [(ad 0, .inr (1, [.int (nI w), .int (nI h), .ref (ad 1), .ref (ad 2), .ref (ad 3), .ref (ad 4), .ref (ad 5), .int qd])), (ad 1, .inl (tc 1, (w * h), .inl col)), (ad 4, .inl (tc 4, (w * h), .inl rea)), (ad 5, .inl (tc 5, (w * h), .inl que))]) (wr := [(ad 2, .inl (tc 2, (w * h), .inl dep)), (ad 3, .inr (0, [.ref (ad 6), .ref (ad 7), .ref (ad 8), .int se, .int th, .long ar])), (ad 6, .inl (tc 6, 3, .inl vx)), (ad 7, .inl (tc 7, 3, .inl vy)), (ad 8, .inl (tc 8, 3, .inl vz)), (am 0, .inr (2, [.int (nI w), .int (nI h), .ref (am 1), .ref (am 2), .ref (am 3), .ref (am 4), .ref (am 5), .ref (am 6)])), (am 1, .inl (tm 1, 576, .inl mc)), (am 2, .inl (tm 2, 576, .inl md)), (am 3, .inl (tm 3, 3, .inl vx)), (am 4, .inl (tm 4, 3, .inl vy)), (am 5, .inl (tm 5, 3, .inl vz)), (am 6, .inl (tm 6, 576, .inl mk))]) hP hD hS hA [0, 1, 4, 5] [2, 3, 6, 7, 8, 9, 10, 11, 12, 13, 14, 15] rfl rfl (by decide) (by decide) (va_runV (As := [.int (xs (i + 1)), .int (xs (i + 2)), .int (xs (i + 3))]) (rest := []) ⟨hx, hb, hml, hown, hts⟩ (c_X1_fill l dC dI _ ad tc w h qd col rea que hw1 hw2 hh1 hh2 (xs (i + 1)) (xs (i + 2)) (xs (i + 3))) (cwV 3 hts gL_law_X1_fill rfl rfl rfl (by decide +kernel) ⟨Nat.le_of_ble_eq_true rfl, Nat.le_of_ble_eq_true rfl⟩) (m_preV (ci := 1) (q0 := 0) (hP.sub [0, 1, 4, 5] rfl) (hK.sub [0, 2, 3] rfl) (hD.sub [0, 1, 4, 5] (by decide) rfl) hN rfl rfl) rfl rfl hl.1 rfl (lv_room (Nat.le_of_ble_eq_true rfl)) dL_law_329 ⟨Nat.le_of_ble_eq_true rfl, Nat.le_of_ble_eq_true rfl⟩) (fun r329 u329 H locs q329 hK2 hP hD hS => ?_)
  obtain ⟨co329, re329, qu329, qq329⟩ := u329
  have hP : va_P (dC, dI) vwCl [(ad 0, .inr (1, [.int (nI w), .int (nI h), .ref (ad 1), .ref (ad 2), .ref (ad 3), .ref (ad 4), .ref (ad 5), .int qq329])), (ad 1, .inl (tc 1, (w * h), .inl co329)), (ad 2, .inl (tc 2, (w * h), .inl dep)), (ad 3, .inr (0, [.ref (ad 6), .ref (ad 7), .ref (ad 8), .int se, .int th, .long ar])), (ad 4, .inl (tc 4, (w * h), .inl re329)), (ad 5, .inl (tc 5, (w * h), .inl qu329)), (ad 6, .inl (tc 6, 3, .inl vx)), (ad 7, .inl (tc 7, 3, .inl vy)), (ad 8, .inl (tc 8, 3, .inl vz)), (am 0, .inr (2, [.int (nI w), .int (nI h), .ref (am 1), .ref (am 2), .ref (am 3), .ref (am 4), .ref (am 5), .ref (am 6)])), (am 1, .inl (tm 1, 576, .inl mc)), (am 2, .inl (tm 2, 576, .inl md)), (am 3, .inl (tm 3, 3, .inl vx)), (am 4, .inl (tm 4, 3, .inl vy)), (am 5, .inl (tm 5, 3, .inl vz)), (am 6, .inl (tm 6, 576, .inl mk))] H := hP.sub [12, 13, 0, 1, 14, 15, 2, 3, 4, 5, 6, 7, 8, 9, 10, 11] rfl
  have hD : va_D (fun q : Nat => s.heap.size ≤ q) [(ad 0, .inr (1, [.int (nI w), .int (nI h), .ref (ad 1), .ref (ad 2), .ref (ad 3), .ref (ad 4), .ref (ad 5), .int qq329])), (ad 1, .inl (tc 1, (w * h), .inl co329)), (ad 2, .inl (tc 2, (w * h), .inl dep)), (ad 3, .inr (0, [.ref (ad 6), .ref (ad 7), .ref (ad 8), .int se, .int th, .long ar])), (ad 4, .inl (tc 4, (w * h), .inl re329)), (ad 5, .inl (tc 5, (w * h), .inl qu329)), (ad 6, .inl (tc 6, 3, .inl vx)), (ad 7, .inl (tc 7, 3, .inl vy)), (ad 8, .inl (tc 8, 3, .inl vz)), (am 0, .inr (2, [.int (nI w), .int (nI h), .ref (am 1), .ref (am 2), .ref (am 3), .ref (am 4), .ref (am 5), .ref (am 6)])), (am 1, .inl (tm 1, 576, .inl mc)), (am 2, .inl (tm 2, 576, .inl md)), (am 3, .inl (tm 3, 3, .inl vx)), (am 4, .inl (tm 4, 3, .inl vy)), (am 5, .inl (tm 5, 3, .inl vz)), (am 6, .inl (tm 6, 576, .inl mk))] := hD.sub [12, 13, 0, 1, 14, 15, 2, 3, 4, 5, 6, 7, 8, 9, 10, 11] (by decide) rfl
  refine lv_aload_n hx hb dL_law_332 rfl (lv_at hl 2 rfl) ?_
  refine lv_aload_n hx hb dL_law_333 rfl (lv_at hl 0 rfl) ?_
  refine lv_iload_n hx hb dL_law_334 rfl (lv_at hl 3 rfl) ?_
  refine lv_iconst (v := 1) hx hb dL_law_335 (by decide) ?_
  refine lv_iadd hx hb dL_law_336 ?_
  refine lv_topi (fun zz ezz => ?_)
  obtain rfl : zz = nI (i + 1) := ezz.trans ((by rw [show (1 : Int32) = nI 1 from rfl, nI_add]))
  refine va_sld hx hb hX hbl hbA hS (vp_in_nI (by omega) (by omega)) dL_law_337 ?_
  refine lv_topi (fun zz ezz => ?_)
  obtain rfl : zz = xs (i + 1) := ezz.trans (congrArg xs (nI_clamp (by omega)))
  refine lv_aload_n hx hb dL_law_338 rfl (lv_at hl 0 rfl) ?_
  refine lv_iload_n hx hb dL_law_339 rfl (lv_at hl 3 rfl) ?_
  refine lv_iconst (v := 2) hx hb dL_law_340 (by decide) ?_
  refine lv_iadd hx hb dL_law_341 ?_
  refine lv_topi (fun zz ezz => ?_)
  obtain rfl : zz = nI (i + 2) := ezz.trans ((by rw [show (2 : Int32) = nI 2 from rfl, nI_add]))
  refine va_sld hx hb hX hbl hbA hS (vp_in_nI (by omega) (by omega)) dL_law_342 ?_
  refine lv_topi (fun zz ezz => ?_)
  obtain rfl : zz = xs (i + 2) := ezz.trans (congrArg xs (nI_clamp (by omega)))
  refine lv_aload_n hx hb dL_law_343 rfl (lv_at hl 0 rfl) ?_
  refine lv_iload_n hx hb dL_law_344 rfl (lv_at hl 3 rfl) ?_
  refine lv_iconst (v := 3) hx hb dL_law_345 (by decide) ?_
  refine lv_iadd hx hb dL_law_346 ?_
  refine lv_topi (fun zz ezz => ?_)
  obtain rfl : zz = nI (i + 3) := ezz.trans ((by rw [show (3 : Int32) = nI 3 from rfl, nI_add]))
  refine va_sld hx hb hX hbl hbA hS (vp_in_nI (by omega) (by omega)) dL_law_347 ?_
  refine lv_topi (fun zz ezz => ?_)
  obtain rfl : zz = xs (i + 3) := ezz.trans (congrArg xs (nI_clamp (by omega)))
  refine m_calli (cs := [(am 0, .inr (2, [.int (nI w), .int (nI h), .ref (am 1), .ref (am 2), .ref (am 3), .ref (am 4), .ref (am 5), .ref (am 6)])), (am 1, .inl (tm 1, 576, .inl mc)), (am 6, .inl (tm 6, 576, .inl mk))]) (wr := [(ad 0, .inr (1, [.int (nI w), .int (nI h), .ref (ad 1), .ref (ad 2), .ref (ad 3), .ref (ad 4), .ref (ad 5), .int qq329])), (ad 1, .inl (tc 1, (w * h), .inl co329)), (ad 2, .inl (tc 2, (w * h), .inl dep)), (ad 3, .inr (0, [.ref (ad 6), .ref (ad 7), .ref (ad 8), .int se, .int th, .long ar])), (ad 4, .inl (tc 4, (w * h), .inl re329)), (ad 5, .inl (tc 5, (w * h), .inl qu329)), (ad 6, .inl (tc 6, 3, .inl vx)), (ad 7, .inl (tc 7, 3, .inl vy)), (ad 8, .inl (tc 8, 3, .inl vz)), (am 2, .inl (tm 2, 576, .inl md)), (am 3, .inl (tm 3, 3, .inl vx)), (am 4, .inl (tm 4, 3, .inl vy)), (am 5, .inl (tm 5, 3, .inl vz))]) hP hD hS hA [9, 10, 15] [0, 1, 2, 3, 4, 5, 6, 7, 8, 11, 12, 13, 14] rfl rfl (by decide) (by decide) (va_runV (As := [.int (xs (i + 1)), .int (xs (i + 2)), .int (xs (i + 3))]) (rest := [.int r329]) ⟨hx, hb, hml, hown, hts⟩ (c_X2_fill l dC dI _ am tm w h mc mk hw1 hw2 hh1 hh2 (xs (i + 1)) (xs (i + 2)) (xs (i + 3))) (cwV 3 hts gL_law_X2_fill rfl rfl rfl (by decide +kernel) ⟨Nat.le_of_ble_eq_true rfl, Nat.le_of_ble_eq_true rfl⟩) (m_preV (ci := 2) (q0 := 0) (hP.sub [9, 10, 15] rfl) (hK.sub [7, 12] rfl) (hD.sub [9, 10, 15] (by decide) rfl) hN rfl rfl) rfl rfl hl.1 rfl (lv_room (Nat.le_of_ble_eq_true rfl)) dL_law_348 ⟨Nat.le_of_ble_eq_true rfl, Nat.le_of_ble_eq_true rfl⟩) (fun r348 u348 H locs q348 hK2 hP hD hS => ?_)
  obtain ⟨co348, mk348⟩ := u348
  have hP : va_P (dC, dI) vwCl [(ad 0, .inr (1, [.int (nI w), .int (nI h), .ref (ad 1), .ref (ad 2), .ref (ad 3), .ref (ad 4), .ref (ad 5), .int qq329])), (ad 1, .inl (tc 1, (w * h), .inl co329)), (ad 2, .inl (tc 2, (w * h), .inl dep)), (ad 3, .inr (0, [.ref (ad 6), .ref (ad 7), .ref (ad 8), .int se, .int th, .long ar])), (ad 4, .inl (tc 4, (w * h), .inl re329)), (ad 5, .inl (tc 5, (w * h), .inl qu329)), (ad 6, .inl (tc 6, 3, .inl vx)), (ad 7, .inl (tc 7, 3, .inl vy)), (ad 8, .inl (tc 8, 3, .inl vz)), (am 0, .inr (2, [.int (nI w), .int (nI h), .ref (am 1), .ref (am 2), .ref (am 3), .ref (am 4), .ref (am 5), .ref (am 6)])), (am 1, .inl (tm 1, 576, .inl co348)), (am 2, .inl (tm 2, 576, .inl md)), (am 3, .inl (tm 3, 3, .inl vx)), (am 4, .inl (tm 4, 3, .inl vy)), (am 5, .inl (tm 5, 3, .inl vz)), (am 6, .inl (tm 6, 576, .inl mk348))] H := hP.sub [0, 1, 2, 3, 4, 5, 6, 7, 8, 13, 14, 9, 10, 11, 12, 15] rfl
  have hD : va_D (fun q : Nat => s.heap.size ≤ q) [(ad 0, .inr (1, [.int (nI w), .int (nI h), .ref (ad 1), .ref (ad 2), .ref (ad 3), .ref (ad 4), .ref (ad 5), .int qq329])), (ad 1, .inl (tc 1, (w * h), .inl co329)), (ad 2, .inl (tc 2, (w * h), .inl dep)), (ad 3, .inr (0, [.ref (ad 6), .ref (ad 7), .ref (ad 8), .int se, .int th, .long ar])), (ad 4, .inl (tc 4, (w * h), .inl re329)), (ad 5, .inl (tc 5, (w * h), .inl qu329)), (ad 6, .inl (tc 6, 3, .inl vx)), (ad 7, .inl (tc 7, 3, .inl vy)), (ad 8, .inl (tc 8, 3, .inl vz)), (am 0, .inr (2, [.int (nI w), .int (nI h), .ref (am 1), .ref (am 2), .ref (am 3), .ref (am 4), .ref (am 5), .ref (am 6)])), (am 1, .inl (tm 1, 576, .inl co348)), (am 2, .inl (tm 2, 576, .inl md)), (am 3, .inl (tm 3, 3, .inl vx)), (am 4, .inl (tm 4, 3, .inl vy)), (am 5, .inl (tm 5, 3, .inl vz)), (am 6, .inl (tm 6, 576, .inl mk348))] := hD.sub [0, 1, 2, 3, 4, 5, 6, 7, 8, 13, 14, 9, 10, 11, 12, 15] (by decide) rfl
  have hE := fill_rel (u := co329) (v := co348) hc q329 q348
  refine lv_icmp_eq (tgt := 468) hx hb dL_law_351 (by decide) (fun c351 => ?_) (fun c351 => ?_)
  · exact K ad am tc tm w h qq329 se th ar vx vy vz co329 dep re329 qu329 co348 md mk348 ⟨hw1, hw2, hh1, hh2⟩ hv hz hf hE.2 hd H locs hK (hP.sub [0, 1, 2, 3, 4, 5, 6, 7, 8, 9, 10, 11, 12, 13, 14, 15] rfl) (hD.sub [0, 1, 2, 3, 4, 5, 6, 7, 8, 9, 10, 11, 12, 13, 14, 15] (by decide) rfl) hS ls (lv_sub hl [0, 1, 2, 3] rfl)
  · exact absurd hE.1 c351

set_option maxHeartbeats 1000000 in
set_option maxRecDepth 100000 in
/-- the law: pixel -/
theorem law_356 {p : Program} {l : Launch} {e : Env} {s : State} {m : MethodId} {below : List Frame} {meth : Method} {cD : Code} {dC : Nat → ClassId} {dI : Nat → Nat → Nat} {b L : Nat} {xs : Nat → Int32} (hL : L ≤ 3074) (C0 : lw_At p s m meth cD b L xs) (hN : nst s) (i : Nat) (hi : i + 6 ≤ L) (K : LawSt p l e s m below meth cD b dC dI 468 i) : LawSt p l e s m below meth cD b dC dI 356 i := by
  obtain ⟨hx, hb, hr, hml, hown, hts, hX, hbl, hlocks, hgv⟩ := id C0
  have hown : s.vm.findClass RL = some m.cls := hown
  have hts : ∀ w ∈ wsL_law, w.before #[Value.ref b] s = true := fun w h => hts w (wsL_law_in w h)
  have hA : ∀ q : Nat, s.heap.size ≤ q → (fun q : Nat => s.heap.size ≤ q) q := fun _ h => h
  have hbA : ¬ (fun q : Nat => s.heap.size ≤ q) b := Nat.not_le.mpr hbl
  intro ad am tc tm w h qd se th ar vx vy vz col dep rea que mc md mk hwh4 hv hz hf hc hd H locs hK hP hD hS ls hl
  obtain ⟨hw1, hw2, hh1, hh2⟩ := hwh4
  refine lv_aload_n hx hb dL_law_356 rfl (lv_at hl 1 rfl) ?_
  refine lv_aload_n hx hb dL_law_357 rfl (lv_at hl 0 rfl) ?_
  refine lv_iload_n hx hb dL_law_358 rfl (lv_at hl 3 rfl) ?_
  refine lv_iconst (v := 1) hx hb dL_law_359 (by decide) ?_
  refine lv_iadd hx hb dL_law_360 ?_
  refine lv_topi (fun zz ezz => ?_)
  obtain rfl : zz = nI (i + 1) := ezz.trans ((by rw [show (1 : Int32) = nI 1 from rfl, nI_add]))
  refine va_sld hx hb hX hbl hbA hS (vp_in_nI (by omega) (by omega)) dL_law_361 ?_
  refine lv_topi (fun zz ezz => ?_)
  obtain rfl : zz = xs (i + 1) := ezz.trans (congrArg xs (nI_clamp (by omega)))
  refine lv_aload_n hx hb dL_law_362 rfl (lv_at hl 0 rfl) ?_
  refine lv_iload_n hx hb dL_law_363 rfl (lv_at hl 3 rfl) ?_
  refine lv_iconst (v := 2) hx hb dL_law_364 (by decide) ?_
  refine lv_iadd hx hb dL_law_365 ?_
  refine lv_topi (fun zz ezz => ?_)
  obtain rfl : zz = nI (i + 2) := ezz.trans ((by rw [show (2 : Int32) = nI 2 from rfl, nI_add]))
  refine va_sld hx hb hX hbl hbA hS (vp_in_nI (by omega) (by omega)) dL_law_366 ?_
  refine lv_topi (fun zz ezz => ?_)
  obtain rfl : zz = xs (i + 2) := ezz.trans (congrArg xs (nI_clamp (by omega)))
  refine m_calli (cs := [(ad 0, .inr (1, [.int (nI w), .int (nI h), .ref (ad 1), .ref (ad 2), .ref (ad 3), .ref (ad 4), .ref (ad 5), .int qd])), (ad 1, .inl (tc 1, (w * h), .inl col))]) (wr := [(ad 2, .inl (tc 2, (w * h), .inl dep)), (ad 3, .inr (0, [.ref (ad 6), .ref (ad 7), .ref (ad 8), .int se, .int th, .long ar])), (ad 4, .inl (tc 4, (w * h), .inl rea)), (ad 5, .inl (tc 5, (w * h), .inl que)), (ad 6, .inl (tc 6, 3, .inl vx)), (ad 7, .inl (tc 7, 3, .inl vy)), (ad 8, .inl (tc 8, 3, .inl vz)), (am 0, .inr (2, [.int (nI w), .int (nI h), .ref (am 1), .ref (am 2), .ref (am 3), .ref (am 4), .ref (am 5), .ref (am 6)])), (am 1, .inl (tm 1, 576, .inl mc)), (am 2, .inl (tm 2, 576, .inl md)), (am 3, .inl (tm 3, 3, .inl vx)), (am 4, .inl (tm 4, 3, .inl vy)), (am 5, .inl (tm 5, 3, .inl vz)), (am 6, .inl (tm 6, 576, .inl mk))]) hP hD hS hA [0, 1] [2, 3, 4, 5, 6, 7, 8, 9, 10, 11, 12, 13, 14, 15] rfl rfl (by decide) (by decide) (va_runV (As := [.int (xs (i + 1)), .int (xs (i + 2))]) (rest := []) ⟨hx, hb, hml, hown, hts⟩ (c_X1_pixel l dC dI _ ad tc w h qd col hw1 hw2 hh1 hh2 (xs (i + 1)) (xs (i + 2))) (cwV 2 hts gL_law_X1_pixel rfl rfl rfl (by decide +kernel) ⟨Nat.le_of_ble_eq_true rfl, Nat.le_of_ble_eq_true rfl⟩) (m_preV (ci := 1) (q0 := 0) (hP.sub [0, 1] rfl) (hK.sub [0] rfl) (hD.sub [0, 1] (by decide) rfl) hN rfl rfl) rfl rfl hl.1 rfl (lv_room (Nat.le_of_ble_eq_true rfl)) dL_law_367 ⟨Nat.le_of_ble_eq_true rfl, Nat.le_of_ble_eq_true rfl⟩) (fun r367 _ H locs q367 hK2 hP hD hS => ?_)
  have hP : va_P (dC, dI) vwCl [(ad 0, .inr (1, [.int (nI w), .int (nI h), .ref (ad 1), .ref (ad 2), .ref (ad 3), .ref (ad 4), .ref (ad 5), .int qd])), (ad 1, .inl (tc 1, (w * h), .inl col)), (ad 2, .inl (tc 2, (w * h), .inl dep)), (ad 3, .inr (0, [.ref (ad 6), .ref (ad 7), .ref (ad 8), .int se, .int th, .long ar])), (ad 4, .inl (tc 4, (w * h), .inl rea)), (ad 5, .inl (tc 5, (w * h), .inl que)), (ad 6, .inl (tc 6, 3, .inl vx)), (ad 7, .inl (tc 7, 3, .inl vy)), (ad 8, .inl (tc 8, 3, .inl vz)), (am 0, .inr (2, [.int (nI w), .int (nI h), .ref (am 1), .ref (am 2), .ref (am 3), .ref (am 4), .ref (am 5), .ref (am 6)])), (am 1, .inl (tm 1, 576, .inl mc)), (am 2, .inl (tm 2, 576, .inl md)), (am 3, .inl (tm 3, 3, .inl vx)), (am 4, .inl (tm 4, 3, .inl vy)), (am 5, .inl (tm 5, 3, .inl vz)), (am 6, .inl (tm 6, 576, .inl mk))] H := hP.sub [14, 15, 0, 1, 2, 3, 4, 5, 6, 7, 8, 9, 10, 11, 12, 13] rfl
  have hD : va_D (fun q : Nat => s.heap.size ≤ q) [(ad 0, .inr (1, [.int (nI w), .int (nI h), .ref (ad 1), .ref (ad 2), .ref (ad 3), .ref (ad 4), .ref (ad 5), .int qd])), (ad 1, .inl (tc 1, (w * h), .inl col)), (ad 2, .inl (tc 2, (w * h), .inl dep)), (ad 3, .inr (0, [.ref (ad 6), .ref (ad 7), .ref (ad 8), .int se, .int th, .long ar])), (ad 4, .inl (tc 4, (w * h), .inl rea)), (ad 5, .inl (tc 5, (w * h), .inl que)), (ad 6, .inl (tc 6, 3, .inl vx)), (ad 7, .inl (tc 7, 3, .inl vy)), (ad 8, .inl (tc 8, 3, .inl vz)), (am 0, .inr (2, [.int (nI w), .int (nI h), .ref (am 1), .ref (am 2), .ref (am 3), .ref (am 4), .ref (am 5), .ref (am 6)])), (am 1, .inl (tm 1, 576, .inl mc)), (am 2, .inl (tm 2, 576, .inl md)), (am 3, .inl (tm 3, 3, .inl vx)), (am 4, .inl (tm 4, 3, .inl vy)), (am 5, .inl (tm 5, 3, .inl vz)), (am 6, .inl (tm 6, 576, .inl mk))] := hD.sub [14, 15, 0, 1, 2, 3, 4, 5, 6, 7, 8, 9, 10, 11, 12, 13] (by decide) rfl
  refine lv_aload_n hx hb dL_law_370 rfl (lv_at hl 2 rfl) ?_
  refine lv_aload_n hx hb dL_law_371 rfl (lv_at hl 0 rfl) ?_
  refine lv_iload_n hx hb dL_law_372 rfl (lv_at hl 3 rfl) ?_
  refine lv_iconst (v := 1) hx hb dL_law_373 (by decide) ?_
  refine lv_iadd hx hb dL_law_374 ?_
  refine lv_topi (fun zz ezz => ?_)
  obtain rfl : zz = nI (i + 1) := ezz.trans ((by rw [show (1 : Int32) = nI 1 from rfl, nI_add]))
  refine va_sld hx hb hX hbl hbA hS (vp_in_nI (by omega) (by omega)) dL_law_375 ?_
  refine lv_topi (fun zz ezz => ?_)
  obtain rfl : zz = xs (i + 1) := ezz.trans (congrArg xs (nI_clamp (by omega)))
  refine lv_aload_n hx hb dL_law_376 rfl (lv_at hl 0 rfl) ?_
  refine lv_iload_n hx hb dL_law_377 rfl (lv_at hl 3 rfl) ?_
  refine lv_iconst (v := 2) hx hb dL_law_378 (by decide) ?_
  refine lv_iadd hx hb dL_law_379 ?_
  refine lv_topi (fun zz ezz => ?_)
  obtain rfl : zz = nI (i + 2) := ezz.trans ((by rw [show (2 : Int32) = nI 2 from rfl, nI_add]))
  refine va_sld hx hb hX hbl hbA hS (vp_in_nI (by omega) (by omega)) dL_law_380 ?_
  refine lv_topi (fun zz ezz => ?_)
  obtain rfl : zz = xs (i + 2) := ezz.trans (congrArg xs (nI_clamp (by omega)))
  refine m_calli (cs := [(am 0, .inr (2, [.int (nI w), .int (nI h), .ref (am 1), .ref (am 2), .ref (am 3), .ref (am 4), .ref (am 5), .ref (am 6)])), (am 1, .inl (tm 1, 576, .inl mc))]) (wr := [(ad 0, .inr (1, [.int (nI w), .int (nI h), .ref (ad 1), .ref (ad 2), .ref (ad 3), .ref (ad 4), .ref (ad 5), .int qd])), (ad 1, .inl (tc 1, (w * h), .inl col)), (ad 2, .inl (tc 2, (w * h), .inl dep)), (ad 3, .inr (0, [.ref (ad 6), .ref (ad 7), .ref (ad 8), .int se, .int th, .long ar])), (ad 4, .inl (tc 4, (w * h), .inl rea)), (ad 5, .inl (tc 5, (w * h), .inl que)), (ad 6, .inl (tc 6, 3, .inl vx)), (ad 7, .inl (tc 7, 3, .inl vy)), (ad 8, .inl (tc 8, 3, .inl vz)), (am 2, .inl (tm 2, 576, .inl md)), (am 3, .inl (tm 3, 3, .inl vx)), (am 4, .inl (tm 4, 3, .inl vy)), (am 5, .inl (tm 5, 3, .inl vz)), (am 6, .inl (tm 6, 576, .inl mk))]) hP hD hS hA [9, 10] [0, 1, 2, 3, 4, 5, 6, 7, 8, 11, 12, 13, 14, 15] rfl rfl (by decide) (by decide) (va_runV (As := [.int (xs (i + 1)), .int (xs (i + 2))]) (rest := [.int r367]) ⟨hx, hb, hml, hown, hts⟩ (c_X2_pixel l dC dI _ am tm w h mc hw1 hw2 hh1 hh2 (xs (i + 1)) (xs (i + 2))) (cwV 2 hts gL_law_X2_pixel rfl rfl rfl (by decide +kernel) ⟨Nat.le_of_ble_eq_true rfl, Nat.le_of_ble_eq_true rfl⟩) (m_preV (ci := 2) (q0 := 0) (hP.sub [9, 10] rfl) (hK.sub [7] rfl) (hD.sub [9, 10] (by decide) rfl) hN rfl rfl) rfl rfl hl.1 rfl (lv_room (Nat.le_of_ble_eq_true rfl)) dL_law_381 ⟨Nat.le_of_ble_eq_true rfl, Nat.le_of_ble_eq_true rfl⟩) (fun r381 _ H locs q381 hK2 hP hD hS => ?_)
  have hP : va_P (dC, dI) vwCl [(ad 0, .inr (1, [.int (nI w), .int (nI h), .ref (ad 1), .ref (ad 2), .ref (ad 3), .ref (ad 4), .ref (ad 5), .int qd])), (ad 1, .inl (tc 1, (w * h), .inl col)), (ad 2, .inl (tc 2, (w * h), .inl dep)), (ad 3, .inr (0, [.ref (ad 6), .ref (ad 7), .ref (ad 8), .int se, .int th, .long ar])), (ad 4, .inl (tc 4, (w * h), .inl rea)), (ad 5, .inl (tc 5, (w * h), .inl que)), (ad 6, .inl (tc 6, 3, .inl vx)), (ad 7, .inl (tc 7, 3, .inl vy)), (ad 8, .inl (tc 8, 3, .inl vz)), (am 0, .inr (2, [.int (nI w), .int (nI h), .ref (am 1), .ref (am 2), .ref (am 3), .ref (am 4), .ref (am 5), .ref (am 6)])), (am 1, .inl (tm 1, 576, .inl mc)), (am 2, .inl (tm 2, 576, .inl md)), (am 3, .inl (tm 3, 3, .inl vx)), (am 4, .inl (tm 4, 3, .inl vy)), (am 5, .inl (tm 5, 3, .inl vz)), (am 6, .inl (tm 6, 576, .inl mk))] H := hP.sub [0, 1, 2, 3, 4, 5, 6, 7, 8, 14, 15, 9, 10, 11, 12, 13] rfl
  have hD : va_D (fun q : Nat => s.heap.size ≤ q) [(ad 0, .inr (1, [.int (nI w), .int (nI h), .ref (ad 1), .ref (ad 2), .ref (ad 3), .ref (ad 4), .ref (ad 5), .int qd])), (ad 1, .inl (tc 1, (w * h), .inl col)), (ad 2, .inl (tc 2, (w * h), .inl dep)), (ad 3, .inr (0, [.ref (ad 6), .ref (ad 7), .ref (ad 8), .int se, .int th, .long ar])), (ad 4, .inl (tc 4, (w * h), .inl rea)), (ad 5, .inl (tc 5, (w * h), .inl que)), (ad 6, .inl (tc 6, 3, .inl vx)), (ad 7, .inl (tc 7, 3, .inl vy)), (ad 8, .inl (tc 8, 3, .inl vz)), (am 0, .inr (2, [.int (nI w), .int (nI h), .ref (am 1), .ref (am 2), .ref (am 3), .ref (am 4), .ref (am 5), .ref (am 6)])), (am 1, .inl (tm 1, 576, .inl mc)), (am 2, .inl (tm 2, 576, .inl md)), (am 3, .inl (tm 3, 3, .inl vx)), (am 4, .inl (tm 4, 3, .inl vy)), (am 5, .inl (tm 5, 3, .inl vz)), (am 6, .inl (tm 6, 576, .inl mk))] := hD.sub [0, 1, 2, 3, 4, 5, 6, 7, 8, 14, 15, 9, 10, 11, 12, 13] (by decide) rfl
  refine lv_icmp_eq (tgt := 468) hx hb dL_law_384 (by decide) (fun c384 => ?_) (fun c384 => ?_)
  · exact K ad am tc tm w h qd se th ar vx vy vz col dep rea que mc md mk ⟨hw1, hw2, hh1, hh2⟩ hv hz hf hc hd H locs hK (hP.sub [0, 1, 2, 3, 4, 5, 6, 7, 8, 9, 10, 11, 12, 13, 14, 15] rfl) (hD.sub [0, 1, 2, 3, 4, 5, 6, 7, 8, 9, 10, 11, 12, 13, 14, 15] (by decide) rfl) hS ls (lv_sub hl [0, 1, 2, 3] rfl)
  · exact absurd (pix_rel hc q367 q381) c384

set_option maxHeartbeats 1000000 in
set_option maxRecDepth 100000 in
/-- the law: depthAt -/
theorem law_389 {p : Program} {l : Launch} {e : Env} {s : State} {m : MethodId} {below : List Frame} {meth : Method} {cD : Code} {dC : Nat → ClassId} {dI : Nat → Nat → Nat} {b L : Nat} {xs : Nat → Int32} (hL : L ≤ 3074) (C0 : lw_At p s m meth cD b L xs) (hN : nst s) (i : Nat) (hi : i + 6 ≤ L) (K : LawSt p l e s m below meth cD b dC dI 468 i) : LawSt p l e s m below meth cD b dC dI 389 i := by
  obtain ⟨hx, hb, hr, hml, hown, hts, hX, hbl, hlocks, hgv⟩ := id C0
  have hown : s.vm.findClass RL = some m.cls := hown
  have hts : ∀ w ∈ wsL_law, w.before #[Value.ref b] s = true := fun w h => hts w (wsL_law_in w h)
  have hA : ∀ q : Nat, s.heap.size ≤ q → (fun q : Nat => s.heap.size ≤ q) q := fun _ h => h
  have hbA : ¬ (fun q : Nat => s.heap.size ≤ q) b := Nat.not_le.mpr hbl
  intro ad am tc tm w h qd se th ar vx vy vz col dep rea que mc md mk hwh4 hv hz hf hc hd H locs hK hP hD hS ls hl
  obtain ⟨hw1, hw2, hh1, hh2⟩ := hwh4
  refine lv_aload_n hx hb dL_law_389 rfl (lv_at hl 1 rfl) ?_
  refine lv_aload_n hx hb dL_law_390 rfl (lv_at hl 0 rfl) ?_
  refine lv_iload_n hx hb dL_law_391 rfl (lv_at hl 3 rfl) ?_
  refine lv_iconst (v := 1) hx hb dL_law_392 (by decide) ?_
  refine lv_iadd hx hb dL_law_393 ?_
  refine lv_topi (fun zz ezz => ?_)
  obtain rfl : zz = nI (i + 1) := ezz.trans ((by rw [show (1 : Int32) = nI 1 from rfl, nI_add]))
  refine va_sld hx hb hX hbl hbA hS (vp_in_nI (by omega) (by omega)) dL_law_394 ?_
  refine lv_topi (fun zz ezz => ?_)
  obtain rfl : zz = xs (i + 1) := ezz.trans (congrArg xs (nI_clamp (by omega)))
  refine lv_aload_n hx hb dL_law_395 rfl (lv_at hl 0 rfl) ?_
  refine lv_iload_n hx hb dL_law_396 rfl (lv_at hl 3 rfl) ?_
  refine lv_iconst (v := 2) hx hb dL_law_397 (by decide) ?_
  refine lv_iadd hx hb dL_law_398 ?_
  refine lv_topi (fun zz ezz => ?_)
  obtain rfl : zz = nI (i + 2) := ezz.trans ((by rw [show (2 : Int32) = nI 2 from rfl, nI_add]))
  refine va_sld hx hb hX hbl hbA hS (vp_in_nI (by omega) (by omega)) dL_law_399 ?_
  refine lv_topi (fun zz ezz => ?_)
  obtain rfl : zz = xs (i + 2) := ezz.trans (congrArg xs (nI_clamp (by omega)))
  refine m_calli (cs := [(ad 0, .inr (1, [.int (nI w), .int (nI h), .ref (ad 1), .ref (ad 2), .ref (ad 3), .ref (ad 4), .ref (ad 5), .int qd])), (ad 2, .inl (tc 2, (w * h), .inl dep))]) (wr := [(ad 1, .inl (tc 1, (w * h), .inl col)), (ad 3, .inr (0, [.ref (ad 6), .ref (ad 7), .ref (ad 8), .int se, .int th, .long ar])), (ad 4, .inl (tc 4, (w * h), .inl rea)), (ad 5, .inl (tc 5, (w * h), .inl que)), (ad 6, .inl (tc 6, 3, .inl vx)), (ad 7, .inl (tc 7, 3, .inl vy)), (ad 8, .inl (tc 8, 3, .inl vz)), (am 0, .inr (2, [.int (nI w), .int (nI h), .ref (am 1), .ref (am 2), .ref (am 3), .ref (am 4), .ref (am 5), .ref (am 6)])), (am 1, .inl (tm 1, 576, .inl mc)), (am 2, .inl (tm 2, 576, .inl md)), (am 3, .inl (tm 3, 3, .inl vx)), (am 4, .inl (tm 4, 3, .inl vy)), (am 5, .inl (tm 5, 3, .inl vz)), (am 6, .inl (tm 6, 576, .inl mk))]) hP hD hS hA [0, 2] [1, 3, 4, 5, 6, 7, 8, 9, 10, 11, 12, 13, 14, 15] rfl rfl (by decide) (by decide) (va_runV (As := [.int (xs (i + 1)), .int (xs (i + 2))]) (rest := []) ⟨hx, hb, hml, hown, hts⟩ (c_X1_depthAt l dC dI _ ad tc w h qd dep hw1 hw2 hh1 hh2 (xs (i + 1)) (xs (i + 2))) (cwV 2 hts gL_law_X1_depthAt rfl rfl rfl (by decide +kernel) ⟨Nat.le_of_ble_eq_true rfl, Nat.le_of_ble_eq_true rfl⟩) (m_preV (ci := 1) (q0 := 0) (hP.sub [0, 2] rfl) (hK.sub [1] rfl) (hD.sub [0, 2] (by decide) rfl) hN rfl rfl) rfl rfl hl.1 rfl (lv_room (Nat.le_of_ble_eq_true rfl)) dL_law_400 ⟨Nat.le_of_ble_eq_true rfl, Nat.le_of_ble_eq_true rfl⟩) (fun r400 _ H locs q400 hK2 hP hD hS => ?_)
  have hP : va_P (dC, dI) vwCl [(ad 0, .inr (1, [.int (nI w), .int (nI h), .ref (ad 1), .ref (ad 2), .ref (ad 3), .ref (ad 4), .ref (ad 5), .int qd])), (ad 1, .inl (tc 1, (w * h), .inl col)), (ad 2, .inl (tc 2, (w * h), .inl dep)), (ad 3, .inr (0, [.ref (ad 6), .ref (ad 7), .ref (ad 8), .int se, .int th, .long ar])), (ad 4, .inl (tc 4, (w * h), .inl rea)), (ad 5, .inl (tc 5, (w * h), .inl que)), (ad 6, .inl (tc 6, 3, .inl vx)), (ad 7, .inl (tc 7, 3, .inl vy)), (ad 8, .inl (tc 8, 3, .inl vz)), (am 0, .inr (2, [.int (nI w), .int (nI h), .ref (am 1), .ref (am 2), .ref (am 3), .ref (am 4), .ref (am 5), .ref (am 6)])), (am 1, .inl (tm 1, 576, .inl mc)), (am 2, .inl (tm 2, 576, .inl md)), (am 3, .inl (tm 3, 3, .inl vx)), (am 4, .inl (tm 4, 3, .inl vy)), (am 5, .inl (tm 5, 3, .inl vz)), (am 6, .inl (tm 6, 576, .inl mk))] H := hP.sub [14, 0, 15, 1, 2, 3, 4, 5, 6, 7, 8, 9, 10, 11, 12, 13] rfl
  have hD : va_D (fun q : Nat => s.heap.size ≤ q) [(ad 0, .inr (1, [.int (nI w), .int (nI h), .ref (ad 1), .ref (ad 2), .ref (ad 3), .ref (ad 4), .ref (ad 5), .int qd])), (ad 1, .inl (tc 1, (w * h), .inl col)), (ad 2, .inl (tc 2, (w * h), .inl dep)), (ad 3, .inr (0, [.ref (ad 6), .ref (ad 7), .ref (ad 8), .int se, .int th, .long ar])), (ad 4, .inl (tc 4, (w * h), .inl rea)), (ad 5, .inl (tc 5, (w * h), .inl que)), (ad 6, .inl (tc 6, 3, .inl vx)), (ad 7, .inl (tc 7, 3, .inl vy)), (ad 8, .inl (tc 8, 3, .inl vz)), (am 0, .inr (2, [.int (nI w), .int (nI h), .ref (am 1), .ref (am 2), .ref (am 3), .ref (am 4), .ref (am 5), .ref (am 6)])), (am 1, .inl (tm 1, 576, .inl mc)), (am 2, .inl (tm 2, 576, .inl md)), (am 3, .inl (tm 3, 3, .inl vx)), (am 4, .inl (tm 4, 3, .inl vy)), (am 5, .inl (tm 5, 3, .inl vz)), (am 6, .inl (tm 6, 576, .inl mk))] := hD.sub [14, 0, 15, 1, 2, 3, 4, 5, 6, 7, 8, 9, 10, 11, 12, 13] (by decide) rfl
  refine lv_aload_n hx hb dL_law_403 rfl (lv_at hl 2 rfl) ?_
  refine lv_aload_n hx hb dL_law_404 rfl (lv_at hl 0 rfl) ?_
  refine lv_iload_n hx hb dL_law_405 rfl (lv_at hl 3 rfl) ?_
  refine lv_iconst (v := 1) hx hb dL_law_406 (by decide) ?_
  refine lv_iadd hx hb dL_law_407 ?_
  refine lv_topi (fun zz ezz => ?_)
  obtain rfl : zz = nI (i + 1) := ezz.trans ((by rw [show (1 : Int32) = nI 1 from rfl, nI_add]))
  refine va_sld hx hb hX hbl hbA hS (vp_in_nI (by omega) (by omega)) dL_law_408 ?_
  refine lv_topi (fun zz ezz => ?_)
  obtain rfl : zz = xs (i + 1) := ezz.trans (congrArg xs (nI_clamp (by omega)))
  refine lv_aload_n hx hb dL_law_409 rfl (lv_at hl 0 rfl) ?_
  refine lv_iload_n hx hb dL_law_410 rfl (lv_at hl 3 rfl) ?_
  refine lv_iconst (v := 2) hx hb dL_law_411 (by decide) ?_
  refine lv_iadd hx hb dL_law_412 ?_
  refine lv_topi (fun zz ezz => ?_)
  obtain rfl : zz = nI (i + 2) := ezz.trans ((by rw [show (2 : Int32) = nI 2 from rfl, nI_add]))
  refine va_sld hx hb hX hbl hbA hS (vp_in_nI (by omega) (by omega)) dL_law_413 ?_
  refine lv_topi (fun zz ezz => ?_)
  obtain rfl : zz = xs (i + 2) := ezz.trans (congrArg xs (nI_clamp (by omega)))
  refine m_calli (cs := [(am 0, .inr (2, [.int (nI w), .int (nI h), .ref (am 1), .ref (am 2), .ref (am 3), .ref (am 4), .ref (am 5), .ref (am 6)])), (am 2, .inl (tm 2, 576, .inl md))]) (wr := [(ad 0, .inr (1, [.int (nI w), .int (nI h), .ref (ad 1), .ref (ad 2), .ref (ad 3), .ref (ad 4), .ref (ad 5), .int qd])), (ad 1, .inl (tc 1, (w * h), .inl col)), (ad 2, .inl (tc 2, (w * h), .inl dep)), (ad 3, .inr (0, [.ref (ad 6), .ref (ad 7), .ref (ad 8), .int se, .int th, .long ar])), (ad 4, .inl (tc 4, (w * h), .inl rea)), (ad 5, .inl (tc 5, (w * h), .inl que)), (ad 6, .inl (tc 6, 3, .inl vx)), (ad 7, .inl (tc 7, 3, .inl vy)), (ad 8, .inl (tc 8, 3, .inl vz)), (am 1, .inl (tm 1, 576, .inl mc)), (am 3, .inl (tm 3, 3, .inl vx)), (am 4, .inl (tm 4, 3, .inl vy)), (am 5, .inl (tm 5, 3, .inl vz)), (am 6, .inl (tm 6, 576, .inl mk))]) hP hD hS hA [9, 11] [0, 1, 2, 3, 4, 5, 6, 7, 8, 10, 12, 13, 14, 15] rfl rfl (by decide) (by decide) (va_runV (As := [.int (xs (i + 1)), .int (xs (i + 2))]) (rest := [.int r400]) ⟨hx, hb, hml, hown, hts⟩ (c_X2_depthAt l dC dI _ am tm w h md hw1 hw2 hh1 hh2 (xs (i + 1)) (xs (i + 2))) (cwV 2 hts gL_law_X2_depthAt rfl rfl rfl (by decide +kernel) ⟨Nat.le_of_ble_eq_true rfl, Nat.le_of_ble_eq_true rfl⟩) (m_preV (ci := 2) (q0 := 0) (hP.sub [9, 11] rfl) (hK.sub [8] rfl) (hD.sub [9, 11] (by decide) rfl) hN rfl rfl) rfl rfl hl.1 rfl (lv_room (Nat.le_of_ble_eq_true rfl)) dL_law_414 ⟨Nat.le_of_ble_eq_true rfl, Nat.le_of_ble_eq_true rfl⟩) (fun r414 _ H locs q414 hK2 hP hD hS => ?_)
  have hP : va_P (dC, dI) vwCl [(ad 0, .inr (1, [.int (nI w), .int (nI h), .ref (ad 1), .ref (ad 2), .ref (ad 3), .ref (ad 4), .ref (ad 5), .int qd])), (ad 1, .inl (tc 1, (w * h), .inl col)), (ad 2, .inl (tc 2, (w * h), .inl dep)), (ad 3, .inr (0, [.ref (ad 6), .ref (ad 7), .ref (ad 8), .int se, .int th, .long ar])), (ad 4, .inl (tc 4, (w * h), .inl rea)), (ad 5, .inl (tc 5, (w * h), .inl que)), (ad 6, .inl (tc 6, 3, .inl vx)), (ad 7, .inl (tc 7, 3, .inl vy)), (ad 8, .inl (tc 8, 3, .inl vz)), (am 0, .inr (2, [.int (nI w), .int (nI h), .ref (am 1), .ref (am 2), .ref (am 3), .ref (am 4), .ref (am 5), .ref (am 6)])), (am 1, .inl (tm 1, 576, .inl mc)), (am 2, .inl (tm 2, 576, .inl md)), (am 3, .inl (tm 3, 3, .inl vx)), (am 4, .inl (tm 4, 3, .inl vy)), (am 5, .inl (tm 5, 3, .inl vz)), (am 6, .inl (tm 6, 576, .inl mk))] H := hP.sub [0, 1, 2, 3, 4, 5, 6, 7, 8, 14, 9, 15, 10, 11, 12, 13] rfl
  have hD : va_D (fun q : Nat => s.heap.size ≤ q) [(ad 0, .inr (1, [.int (nI w), .int (nI h), .ref (ad 1), .ref (ad 2), .ref (ad 3), .ref (ad 4), .ref (ad 5), .int qd])), (ad 1, .inl (tc 1, (w * h), .inl col)), (ad 2, .inl (tc 2, (w * h), .inl dep)), (ad 3, .inr (0, [.ref (ad 6), .ref (ad 7), .ref (ad 8), .int se, .int th, .long ar])), (ad 4, .inl (tc 4, (w * h), .inl rea)), (ad 5, .inl (tc 5, (w * h), .inl que)), (ad 6, .inl (tc 6, 3, .inl vx)), (ad 7, .inl (tc 7, 3, .inl vy)), (ad 8, .inl (tc 8, 3, .inl vz)), (am 0, .inr (2, [.int (nI w), .int (nI h), .ref (am 1), .ref (am 2), .ref (am 3), .ref (am 4), .ref (am 5), .ref (am 6)])), (am 1, .inl (tm 1, 576, .inl mc)), (am 2, .inl (tm 2, 576, .inl md)), (am 3, .inl (tm 3, 3, .inl vx)), (am 4, .inl (tm 4, 3, .inl vy)), (am 5, .inl (tm 5, 3, .inl vz)), (am 6, .inl (tm 6, 576, .inl mk))] := hD.sub [0, 1, 2, 3, 4, 5, 6, 7, 8, 14, 9, 15, 10, 11, 12, 13] (by decide) rfl
  refine lv_icmp_eq (tgt := 468) hx hb dL_law_417 (by decide) (fun c417 => ?_) (fun c417 => ?_)
  · exact K ad am tc tm w h qd se th ar vx vy vz col dep rea que mc md mk ⟨hw1, hw2, hh1, hh2⟩ hv hz hf hc hd H locs hK (hP.sub [0, 1, 2, 3, 4, 5, 6, 7, 8, 9, 10, 11, 12, 13, 14, 15] rfl) (hD.sub [0, 1, 2, 3, 4, 5, 6, 7, 8, 9, 10, 11, 12, 13, 14, 15] (by decide) rfl) hS ls (lv_sub hl [0, 1, 2, 3] rfl)
  · exact absurd (pix_rel hd q400 q414) c417

set_option maxHeartbeats 1000000 in
set_option maxRecDepth 100000 in
/-- the law: count -/
theorem law_422 {p : Program} {l : Launch} {e : Env} {s : State} {m : MethodId} {below : List Frame} {meth : Method} {cD : Code} {dC : Nat → ClassId} {dI : Nat → Nat → Nat} {b L : Nat} {xs : Nat → Int32} (hL : L ≤ 3074) (C0 : lw_At p s m meth cD b L xs) (hN : nst s) (i : Nat) (hi : i + 6 ≤ L) (K : LawSt p l e s m below meth cD b dC dI 468 i) : LawSt p l e s m below meth cD b dC dI 422 i := by
  obtain ⟨hx, hb, hr, hml, hown, hts, hX, hbl, hlocks, hgv⟩ := id C0
  have hown : s.vm.findClass RL = some m.cls := hown
  have hts : ∀ w ∈ wsL_law, w.before #[Value.ref b] s = true := fun w h => hts w (wsL_law_in w h)
  have hA : ∀ q : Nat, s.heap.size ≤ q → (fun q : Nat => s.heap.size ≤ q) q := fun _ h => h
  have hbA : ¬ (fun q : Nat => s.heap.size ≤ q) b := Nat.not_le.mpr hbl
  intro ad am tc tm w h qd se th ar vx vy vz col dep rea que mc md mk hwh4 hv hz hf hc hd H locs hK hP hD hS ls hl
  obtain ⟨hw1, hw2, hh1, hh2⟩ := hwh4
  refine lv_aload_n hx hb dL_law_422 rfl (lv_at hl 1 rfl) ?_
  refine lv_aload_n hx hb dL_law_423 rfl (lv_at hl 0 rfl) ?_
  refine lv_iload_n hx hb dL_law_424 rfl (lv_at hl 3 rfl) ?_
  refine lv_iconst (v := 1) hx hb dL_law_425 (by decide) ?_
  refine lv_iadd hx hb dL_law_426 ?_
  refine lv_topi (fun zz ezz => ?_)
  obtain rfl : zz = nI (i + 1) := ezz.trans ((by rw [show (1 : Int32) = nI 1 from rfl, nI_add]))
  refine va_sld hx hb hX hbl hbA hS (vp_in_nI (by omega) (by omega)) dL_law_427 ?_
  refine lv_topi (fun zz ezz => ?_)
  obtain rfl : zz = xs (i + 1) := ezz.trans (congrArg xs (nI_clamp (by omega)))
  refine m_calli (cs := [(ad 0, .inr (1, [.int (nI w), .int (nI h), .ref (ad 1), .ref (ad 2), .ref (ad 3), .ref (ad 4), .ref (ad 5), .int qd])), (ad 1, .inl (tc 1, (w * h), .inl col))]) (wr := [(ad 2, .inl (tc 2, (w * h), .inl dep)), (ad 3, .inr (0, [.ref (ad 6), .ref (ad 7), .ref (ad 8), .int se, .int th, .long ar])), (ad 4, .inl (tc 4, (w * h), .inl rea)), (ad 5, .inl (tc 5, (w * h), .inl que)), (ad 6, .inl (tc 6, 3, .inl vx)), (ad 7, .inl (tc 7, 3, .inl vy)), (ad 8, .inl (tc 8, 3, .inl vz)), (am 0, .inr (2, [.int (nI w), .int (nI h), .ref (am 1), .ref (am 2), .ref (am 3), .ref (am 4), .ref (am 5), .ref (am 6)])), (am 1, .inl (tm 1, 576, .inl mc)), (am 2, .inl (tm 2, 576, .inl md)), (am 3, .inl (tm 3, 3, .inl vx)), (am 4, .inl (tm 4, 3, .inl vy)), (am 5, .inl (tm 5, 3, .inl vz)), (am 6, .inl (tm 6, 576, .inl mk))]) hP hD hS hA [0, 1] [2, 3, 4, 5, 6, 7, 8, 9, 10, 11, 12, 13, 14, 15] rfl rfl (by decide) (by decide) (va_runV (As := [.int (xs (i + 1))]) (rest := []) ⟨hx, hb, hml, hown, hts⟩ (c_X1_count l dC dI _ ad tc w h qd col hw1 hw2 hh1 hh2 (xs (i + 1))) (cwV 1 hts gL_law_X1_count rfl rfl rfl (by decide +kernel) ⟨Nat.le_of_ble_eq_true rfl, Nat.le_of_ble_eq_true rfl⟩) (m_preV (ci := 1) (q0 := 0) (hP.sub [0, 1] rfl) (hK.sub [0] rfl) (hD.sub [0, 1] (by decide) rfl) hN rfl rfl) rfl rfl hl.1 rfl (lv_room (Nat.le_of_ble_eq_true rfl)) dL_law_428 ⟨Nat.le_of_ble_eq_true rfl, Nat.le_of_ble_eq_true rfl⟩) (fun r428 _ H locs q428 hK2 hP hD hS => ?_)
  have hP : va_P (dC, dI) vwCl [(ad 0, .inr (1, [.int (nI w), .int (nI h), .ref (ad 1), .ref (ad 2), .ref (ad 3), .ref (ad 4), .ref (ad 5), .int qd])), (ad 1, .inl (tc 1, (w * h), .inl col)), (ad 2, .inl (tc 2, (w * h), .inl dep)), (ad 3, .inr (0, [.ref (ad 6), .ref (ad 7), .ref (ad 8), .int se, .int th, .long ar])), (ad 4, .inl (tc 4, (w * h), .inl rea)), (ad 5, .inl (tc 5, (w * h), .inl que)), (ad 6, .inl (tc 6, 3, .inl vx)), (ad 7, .inl (tc 7, 3, .inl vy)), (ad 8, .inl (tc 8, 3, .inl vz)), (am 0, .inr (2, [.int (nI w), .int (nI h), .ref (am 1), .ref (am 2), .ref (am 3), .ref (am 4), .ref (am 5), .ref (am 6)])), (am 1, .inl (tm 1, 576, .inl mc)), (am 2, .inl (tm 2, 576, .inl md)), (am 3, .inl (tm 3, 3, .inl vx)), (am 4, .inl (tm 4, 3, .inl vy)), (am 5, .inl (tm 5, 3, .inl vz)), (am 6, .inl (tm 6, 576, .inl mk))] H := hP.sub [14, 15, 0, 1, 2, 3, 4, 5, 6, 7, 8, 9, 10, 11, 12, 13] rfl
  have hD : va_D (fun q : Nat => s.heap.size ≤ q) [(ad 0, .inr (1, [.int (nI w), .int (nI h), .ref (ad 1), .ref (ad 2), .ref (ad 3), .ref (ad 4), .ref (ad 5), .int qd])), (ad 1, .inl (tc 1, (w * h), .inl col)), (ad 2, .inl (tc 2, (w * h), .inl dep)), (ad 3, .inr (0, [.ref (ad 6), .ref (ad 7), .ref (ad 8), .int se, .int th, .long ar])), (ad 4, .inl (tc 4, (w * h), .inl rea)), (ad 5, .inl (tc 5, (w * h), .inl que)), (ad 6, .inl (tc 6, 3, .inl vx)), (ad 7, .inl (tc 7, 3, .inl vy)), (ad 8, .inl (tc 8, 3, .inl vz)), (am 0, .inr (2, [.int (nI w), .int (nI h), .ref (am 1), .ref (am 2), .ref (am 3), .ref (am 4), .ref (am 5), .ref (am 6)])), (am 1, .inl (tm 1, 576, .inl mc)), (am 2, .inl (tm 2, 576, .inl md)), (am 3, .inl (tm 3, 3, .inl vx)), (am 4, .inl (tm 4, 3, .inl vy)), (am 5, .inl (tm 5, 3, .inl vz)), (am 6, .inl (tm 6, 576, .inl mk))] := hD.sub [14, 15, 0, 1, 2, 3, 4, 5, 6, 7, 8, 9, 10, 11, 12, 13] (by decide) rfl
  refine lv_aload_n hx hb dL_law_431 rfl (lv_at hl 2 rfl) ?_
  refine lv_aload_n hx hb dL_law_432 rfl (lv_at hl 0 rfl) ?_
  refine lv_iload_n hx hb dL_law_433 rfl (lv_at hl 3 rfl) ?_
  refine lv_iconst (v := 1) hx hb dL_law_434 (by decide) ?_
  refine lv_iadd hx hb dL_law_435 ?_
  refine lv_topi (fun zz ezz => ?_)
  obtain rfl : zz = nI (i + 1) := ezz.trans ((by rw [show (1 : Int32) = nI 1 from rfl, nI_add]))
  refine va_sld hx hb hX hbl hbA hS (vp_in_nI (by omega) (by omega)) dL_law_436 ?_
  refine lv_topi (fun zz ezz => ?_)
  obtain rfl : zz = xs (i + 1) := ezz.trans (congrArg xs (nI_clamp (by omega)))
  refine m_calli (cs := [(am 0, .inr (2, [.int (nI w), .int (nI h), .ref (am 1), .ref (am 2), .ref (am 3), .ref (am 4), .ref (am 5), .ref (am 6)])), (am 1, .inl (tm 1, 576, .inl mc))]) (wr := [(ad 0, .inr (1, [.int (nI w), .int (nI h), .ref (ad 1), .ref (ad 2), .ref (ad 3), .ref (ad 4), .ref (ad 5), .int qd])), (ad 1, .inl (tc 1, (w * h), .inl col)), (ad 2, .inl (tc 2, (w * h), .inl dep)), (ad 3, .inr (0, [.ref (ad 6), .ref (ad 7), .ref (ad 8), .int se, .int th, .long ar])), (ad 4, .inl (tc 4, (w * h), .inl rea)), (ad 5, .inl (tc 5, (w * h), .inl que)), (ad 6, .inl (tc 6, 3, .inl vx)), (ad 7, .inl (tc 7, 3, .inl vy)), (ad 8, .inl (tc 8, 3, .inl vz)), (am 2, .inl (tm 2, 576, .inl md)), (am 3, .inl (tm 3, 3, .inl vx)), (am 4, .inl (tm 4, 3, .inl vy)), (am 5, .inl (tm 5, 3, .inl vz)), (am 6, .inl (tm 6, 576, .inl mk))]) hP hD hS hA [9, 10] [0, 1, 2, 3, 4, 5, 6, 7, 8, 11, 12, 13, 14, 15] rfl rfl (by decide) (by decide) (va_runV (As := [.int (xs (i + 1))]) (rest := [.int r428]) ⟨hx, hb, hml, hown, hts⟩ (c_X2_count l dC dI _ am tm w h mc hw1 hw2 hh1 hh2 (xs (i + 1))) (cwV 1 hts gL_law_X2_count rfl rfl rfl (by decide +kernel) ⟨Nat.le_of_ble_eq_true rfl, Nat.le_of_ble_eq_true rfl⟩) (m_preV (ci := 2) (q0 := 0) (hP.sub [9, 10] rfl) (hK.sub [7] rfl) (hD.sub [9, 10] (by decide) rfl) hN rfl rfl) rfl rfl hl.1 rfl (lv_room (Nat.le_of_ble_eq_true rfl)) dL_law_437 ⟨Nat.le_of_ble_eq_true rfl, Nat.le_of_ble_eq_true rfl⟩) (fun r437 _ H locs q437 hK2 hP hD hS => ?_)
  have hP : va_P (dC, dI) vwCl [(ad 0, .inr (1, [.int (nI w), .int (nI h), .ref (ad 1), .ref (ad 2), .ref (ad 3), .ref (ad 4), .ref (ad 5), .int qd])), (ad 1, .inl (tc 1, (w * h), .inl col)), (ad 2, .inl (tc 2, (w * h), .inl dep)), (ad 3, .inr (0, [.ref (ad 6), .ref (ad 7), .ref (ad 8), .int se, .int th, .long ar])), (ad 4, .inl (tc 4, (w * h), .inl rea)), (ad 5, .inl (tc 5, (w * h), .inl que)), (ad 6, .inl (tc 6, 3, .inl vx)), (ad 7, .inl (tc 7, 3, .inl vy)), (ad 8, .inl (tc 8, 3, .inl vz)), (am 0, .inr (2, [.int (nI w), .int (nI h), .ref (am 1), .ref (am 2), .ref (am 3), .ref (am 4), .ref (am 5), .ref (am 6)])), (am 1, .inl (tm 1, 576, .inl mc)), (am 2, .inl (tm 2, 576, .inl md)), (am 3, .inl (tm 3, 3, .inl vx)), (am 4, .inl (tm 4, 3, .inl vy)), (am 5, .inl (tm 5, 3, .inl vz)), (am 6, .inl (tm 6, 576, .inl mk))] H := hP.sub [0, 1, 2, 3, 4, 5, 6, 7, 8, 14, 15, 9, 10, 11, 12, 13] rfl
  have hD : va_D (fun q : Nat => s.heap.size ≤ q) [(ad 0, .inr (1, [.int (nI w), .int (nI h), .ref (ad 1), .ref (ad 2), .ref (ad 3), .ref (ad 4), .ref (ad 5), .int qd])), (ad 1, .inl (tc 1, (w * h), .inl col)), (ad 2, .inl (tc 2, (w * h), .inl dep)), (ad 3, .inr (0, [.ref (ad 6), .ref (ad 7), .ref (ad 8), .int se, .int th, .long ar])), (ad 4, .inl (tc 4, (w * h), .inl rea)), (ad 5, .inl (tc 5, (w * h), .inl que)), (ad 6, .inl (tc 6, 3, .inl vx)), (ad 7, .inl (tc 7, 3, .inl vy)), (ad 8, .inl (tc 8, 3, .inl vz)), (am 0, .inr (2, [.int (nI w), .int (nI h), .ref (am 1), .ref (am 2), .ref (am 3), .ref (am 4), .ref (am 5), .ref (am 6)])), (am 1, .inl (tm 1, 576, .inl mc)), (am 2, .inl (tm 2, 576, .inl md)), (am 3, .inl (tm 3, 3, .inl vx)), (am 4, .inl (tm 4, 3, .inl vy)), (am 5, .inl (tm 5, 3, .inl vz)), (am 6, .inl (tm 6, 576, .inl mk))] := hD.sub [0, 1, 2, 3, 4, 5, 6, 7, 8, 14, 15, 9, 10, 11, 12, 13] (by decide) rfl
  refine lv_icmp_eq (tgt := 468) hx hb dL_law_440 (by decide) (fun c440 => ?_) (fun c440 => ?_)
  · exact K ad am tc tm w h qd se th ar vx vy vz col dep rea que mc md mk ⟨hw1, hw2, hh1, hh2⟩ hv hz hf hc hd H locs hK (hP.sub [0, 1, 2, 3, 4, 5, 6, 7, 8, 9, 10, 11, 12, 13, 14, 15] rfl) (hD.sub [0, 1, 2, 3, 4, 5, 6, 7, 8, 9, 10, 11, 12, 13, 14, 15] (by decide) rfl) hS ls (lv_sub hl [0, 1, 2, 3] rfl)
  · exact absurd (count_rel hc q428 q437) c440

set_option maxHeartbeats 1000000 in
set_option maxRecDepth 100000 in
/-- the law: pieces -/
theorem law_445 {p : Program} {l : Launch} {e : Env} {s : State} {m : MethodId} {below : List Frame} {meth : Method} {cD : Code} {dC : Nat → ClassId} {dI : Nat → Nat → Nat} {b L : Nat} {xs : Nat → Int32} (hL : L ≤ 3074) (C0 : lw_At p s m meth cD b L xs) (hN : nst s) (i : Nat) (hi : i + 6 ≤ L) (K : LawSt p l e s m below meth cD b dC dI 468 i) : LawSt p l e s m below meth cD b dC dI 445 i := by
  obtain ⟨hx, hb, hr, hml, hown, hts, hX, hbl, hlocks, hgv⟩ := id C0
  have hown : s.vm.findClass RL = some m.cls := hown
  have hts : ∀ w ∈ wsL_law, w.before #[Value.ref b] s = true := fun w h => hts w (wsL_law_in w h)
  have hA : ∀ q : Nat, s.heap.size ≤ q → (fun q : Nat => s.heap.size ≤ q) q := fun _ h => h
  have hbA : ¬ (fun q : Nat => s.heap.size ≤ q) b := Nat.not_le.mpr hbl
  intro ad am tc tm w h qd se th ar vx vy vz col dep rea que mc md mk hwh4 hv hz hf hc hd H locs hK hP hD hS ls hl
  obtain ⟨hw1, hw2, hh1, hh2⟩ := hwh4
  refine lv_aload_n hx hb dL_law_445 rfl (lv_at hl 1 rfl) ?_
  refine lv_aload_n hx hb dL_law_446 rfl (lv_at hl 0 rfl) ?_
  refine lv_iload_n hx hb dL_law_447 rfl (lv_at hl 3 rfl) ?_
  refine lv_iconst (v := 1) hx hb dL_law_448 (by decide) ?_
  refine lv_iadd hx hb dL_law_449 ?_
  refine lv_topi (fun zz ezz => ?_)
  obtain rfl : zz = nI (i + 1) := ezz.trans ((by rw [show (1 : Int32) = nI 1 from rfl, nI_add]))
  refine va_sld hx hb hX hbl hbA hS (vp_in_nI (by omega) (by omega)) dL_law_450 ?_
  refine lv_topi (fun zz ezz => ?_)
  obtain rfl : zz = xs (i + 1) := ezz.trans (congrArg xs (nI_clamp (by omega)))
  refine m_calli (cs := [(ad 0, .inr (1, [.int (nI w), .int (nI h), .ref (ad 1), .ref (ad 2), .ref (ad 3), .ref (ad 4), .ref (ad 5), .int qd])), (ad 1, .inl (tc 1, (w * h), .inl col)), (ad 4, .inl (tc 4, (w * h), .inl rea)), (ad 5, .inl (tc 5, (w * h), .inl que))]) (wr := [(ad 2, .inl (tc 2, (w * h), .inl dep)), (ad 3, .inr (0, [.ref (ad 6), .ref (ad 7), .ref (ad 8), .int se, .int th, .long ar])), (ad 6, .inl (tc 6, 3, .inl vx)), (ad 7, .inl (tc 7, 3, .inl vy)), (ad 8, .inl (tc 8, 3, .inl vz)), (am 0, .inr (2, [.int (nI w), .int (nI h), .ref (am 1), .ref (am 2), .ref (am 3), .ref (am 4), .ref (am 5), .ref (am 6)])), (am 1, .inl (tm 1, 576, .inl mc)), (am 2, .inl (tm 2, 576, .inl md)), (am 3, .inl (tm 3, 3, .inl vx)), (am 4, .inl (tm 4, 3, .inl vy)), (am 5, .inl (tm 5, 3, .inl vz)), (am 6, .inl (tm 6, 576, .inl mk))]) hP hD hS hA [0, 1, 4, 5] [2, 3, 6, 7, 8, 9, 10, 11, 12, 13, 14, 15] rfl rfl (by decide) (by decide) (va_runV (As := [.int (xs (i + 1))]) (rest := []) ⟨hx, hb, hml, hown, hts⟩ (c_X1_pieces l dC dI _ ad tc w h qd col rea que hw1 hw2 hh1 hh2 (xs (i + 1))) (cwV 1 hts gL_law_X1_pieces rfl rfl rfl (by decide +kernel) ⟨Nat.le_of_ble_eq_true rfl, Nat.le_of_ble_eq_true rfl⟩) (m_preV (ci := 1) (q0 := 0) (hP.sub [0, 1, 4, 5] rfl) (hK.sub [0, 2, 3] rfl) (hD.sub [0, 1, 4, 5] (by decide) rfl) hN rfl rfl) rfl rfl hl.1 rfl (lv_room (Nat.le_of_ble_eq_true rfl)) dL_law_451 ⟨Nat.le_of_ble_eq_true rfl, Nat.le_of_ble_eq_true rfl⟩) (fun r451 u451 H locs q451 hK2 hP hD hS => ?_)
  obtain ⟨re451, qu451, qq451⟩ := u451
  have hP : va_P (dC, dI) vwCl [(ad 0, .inr (1, [.int (nI w), .int (nI h), .ref (ad 1), .ref (ad 2), .ref (ad 3), .ref (ad 4), .ref (ad 5), .int qq451])), (ad 1, .inl (tc 1, (w * h), .inl col)), (ad 2, .inl (tc 2, (w * h), .inl dep)), (ad 3, .inr (0, [.ref (ad 6), .ref (ad 7), .ref (ad 8), .int se, .int th, .long ar])), (ad 4, .inl (tc 4, (w * h), .inl re451)), (ad 5, .inl (tc 5, (w * h), .inl qu451)), (ad 6, .inl (tc 6, 3, .inl vx)), (ad 7, .inl (tc 7, 3, .inl vy)), (ad 8, .inl (tc 8, 3, .inl vz)), (am 0, .inr (2, [.int (nI w), .int (nI h), .ref (am 1), .ref (am 2), .ref (am 3), .ref (am 4), .ref (am 5), .ref (am 6)])), (am 1, .inl (tm 1, 576, .inl mc)), (am 2, .inl (tm 2, 576, .inl md)), (am 3, .inl (tm 3, 3, .inl vx)), (am 4, .inl (tm 4, 3, .inl vy)), (am 5, .inl (tm 5, 3, .inl vz)), (am 6, .inl (tm 6, 576, .inl mk))] H := hP.sub [12, 13, 0, 1, 14, 15, 2, 3, 4, 5, 6, 7, 8, 9, 10, 11] rfl
  have hD : va_D (fun q : Nat => s.heap.size ≤ q) [(ad 0, .inr (1, [.int (nI w), .int (nI h), .ref (ad 1), .ref (ad 2), .ref (ad 3), .ref (ad 4), .ref (ad 5), .int qq451])), (ad 1, .inl (tc 1, (w * h), .inl col)), (ad 2, .inl (tc 2, (w * h), .inl dep)), (ad 3, .inr (0, [.ref (ad 6), .ref (ad 7), .ref (ad 8), .int se, .int th, .long ar])), (ad 4, .inl (tc 4, (w * h), .inl re451)), (ad 5, .inl (tc 5, (w * h), .inl qu451)), (ad 6, .inl (tc 6, 3, .inl vx)), (ad 7, .inl (tc 7, 3, .inl vy)), (ad 8, .inl (tc 8, 3, .inl vz)), (am 0, .inr (2, [.int (nI w), .int (nI h), .ref (am 1), .ref (am 2), .ref (am 3), .ref (am 4), .ref (am 5), .ref (am 6)])), (am 1, .inl (tm 1, 576, .inl mc)), (am 2, .inl (tm 2, 576, .inl md)), (am 3, .inl (tm 3, 3, .inl vx)), (am 4, .inl (tm 4, 3, .inl vy)), (am 5, .inl (tm 5, 3, .inl vz)), (am 6, .inl (tm 6, 576, .inl mk))] := hD.sub [12, 13, 0, 1, 14, 15, 2, 3, 4, 5, 6, 7, 8, 9, 10, 11] (by decide) rfl
  refine lv_aload_n hx hb dL_law_454 rfl (lv_at hl 2 rfl) ?_
  refine lv_aload_n hx hb dL_law_455 rfl (lv_at hl 0 rfl) ?_
  refine lv_iload_n hx hb dL_law_456 rfl (lv_at hl 3 rfl) ?_
  refine lv_iconst (v := 1) hx hb dL_law_457 (by decide) ?_
  refine lv_iadd hx hb dL_law_458 ?_
  refine lv_topi (fun zz ezz => ?_)
  obtain rfl : zz = nI (i + 1) := ezz.trans ((by rw [show (1 : Int32) = nI 1 from rfl, nI_add]))
  refine va_sld hx hb hX hbl hbA hS (vp_in_nI (by omega) (by omega)) dL_law_459 ?_
  refine lv_topi (fun zz ezz => ?_)
  obtain rfl : zz = xs (i + 1) := ezz.trans (congrArg xs (nI_clamp (by omega)))
  refine m_calli (cs := [(am 0, .inr (2, [.int (nI w), .int (nI h), .ref (am 1), .ref (am 2), .ref (am 3), .ref (am 4), .ref (am 5), .ref (am 6)])), (am 1, .inl (tm 1, 576, .inl mc)), (am 6, .inl (tm 6, 576, .inl mk))]) (wr := [(ad 0, .inr (1, [.int (nI w), .int (nI h), .ref (ad 1), .ref (ad 2), .ref (ad 3), .ref (ad 4), .ref (ad 5), .int qq451])), (ad 1, .inl (tc 1, (w * h), .inl col)), (ad 2, .inl (tc 2, (w * h), .inl dep)), (ad 3, .inr (0, [.ref (ad 6), .ref (ad 7), .ref (ad 8), .int se, .int th, .long ar])), (ad 4, .inl (tc 4, (w * h), .inl re451)), (ad 5, .inl (tc 5, (w * h), .inl qu451)), (ad 6, .inl (tc 6, 3, .inl vx)), (ad 7, .inl (tc 7, 3, .inl vy)), (ad 8, .inl (tc 8, 3, .inl vz)), (am 2, .inl (tm 2, 576, .inl md)), (am 3, .inl (tm 3, 3, .inl vx)), (am 4, .inl (tm 4, 3, .inl vy)), (am 5, .inl (tm 5, 3, .inl vz))]) hP hD hS hA [9, 10, 15] [0, 1, 2, 3, 4, 5, 6, 7, 8, 11, 12, 13, 14] rfl rfl (by decide) (by decide) (va_runV (As := [.int (xs (i + 1))]) (rest := [.int r451]) ⟨hx, hb, hml, hown, hts⟩ (c_X2_pieces l dC dI _ am tm w h mc mk hw1 hw2 hh1 hh2 (xs (i + 1))) (cwV 1 hts gL_law_X2_pieces rfl rfl rfl (by decide +kernel) ⟨Nat.le_of_ble_eq_true rfl, Nat.le_of_ble_eq_true rfl⟩) (m_preV (ci := 2) (q0 := 0) (hP.sub [9, 10, 15] rfl) (hK.sub [7, 12] rfl) (hD.sub [9, 10, 15] (by decide) rfl) hN rfl rfl) rfl rfl hl.1 rfl (lv_room (Nat.le_of_ble_eq_true rfl)) dL_law_460 ⟨Nat.le_of_ble_eq_true rfl, Nat.le_of_ble_eq_true rfl⟩) (fun r460 mk460 H locs q460 hK2 hP hD hS => ?_)
  have hP : va_P (dC, dI) vwCl [(ad 0, .inr (1, [.int (nI w), .int (nI h), .ref (ad 1), .ref (ad 2), .ref (ad 3), .ref (ad 4), .ref (ad 5), .int qq451])), (ad 1, .inl (tc 1, (w * h), .inl col)), (ad 2, .inl (tc 2, (w * h), .inl dep)), (ad 3, .inr (0, [.ref (ad 6), .ref (ad 7), .ref (ad 8), .int se, .int th, .long ar])), (ad 4, .inl (tc 4, (w * h), .inl re451)), (ad 5, .inl (tc 5, (w * h), .inl qu451)), (ad 6, .inl (tc 6, 3, .inl vx)), (ad 7, .inl (tc 7, 3, .inl vy)), (ad 8, .inl (tc 8, 3, .inl vz)), (am 0, .inr (2, [.int (nI w), .int (nI h), .ref (am 1), .ref (am 2), .ref (am 3), .ref (am 4), .ref (am 5), .ref (am 6)])), (am 1, .inl (tm 1, 576, .inl mc)), (am 2, .inl (tm 2, 576, .inl md)), (am 3, .inl (tm 3, 3, .inl vx)), (am 4, .inl (tm 4, 3, .inl vy)), (am 5, .inl (tm 5, 3, .inl vz)), (am 6, .inl (tm 6, 576, .inl mk460))] H := hP.sub [0, 1, 2, 3, 4, 5, 6, 7, 8, 13, 14, 9, 10, 11, 12, 15] rfl
  have hD : va_D (fun q : Nat => s.heap.size ≤ q) [(ad 0, .inr (1, [.int (nI w), .int (nI h), .ref (ad 1), .ref (ad 2), .ref (ad 3), .ref (ad 4), .ref (ad 5), .int qq451])), (ad 1, .inl (tc 1, (w * h), .inl col)), (ad 2, .inl (tc 2, (w * h), .inl dep)), (ad 3, .inr (0, [.ref (ad 6), .ref (ad 7), .ref (ad 8), .int se, .int th, .long ar])), (ad 4, .inl (tc 4, (w * h), .inl re451)), (ad 5, .inl (tc 5, (w * h), .inl qu451)), (ad 6, .inl (tc 6, 3, .inl vx)), (ad 7, .inl (tc 7, 3, .inl vy)), (ad 8, .inl (tc 8, 3, .inl vz)), (am 0, .inr (2, [.int (nI w), .int (nI h), .ref (am 1), .ref (am 2), .ref (am 3), .ref (am 4), .ref (am 5), .ref (am 6)])), (am 1, .inl (tm 1, 576, .inl mc)), (am 2, .inl (tm 2, 576, .inl md)), (am 3, .inl (tm 3, 3, .inl vx)), (am 4, .inl (tm 4, 3, .inl vy)), (am 5, .inl (tm 5, 3, .inl vz)), (am 6, .inl (tm 6, 576, .inl mk460))] := hD.sub [0, 1, 2, 3, 4, 5, 6, 7, 8, 13, 14, 9, 10, 11, 12, 15] (by decide) rfl
  refine lv_icmp_eq (tgt := 468) hx hb dL_law_463 (by decide) (fun c463 => ?_) (fun c463 => ?_)
  · exact K ad am tc tm w h qq451 se th ar vx vy vz col dep re451 qu451 mc md mk460 ⟨hw1, hw2, hh1, hh2⟩ hv hz hf hc hd H locs hK (hP.sub [0, 1, 2, 3, 4, 5, 6, 7, 8, 9, 10, 11, 12, 13, 14, 15] rfl) (hD.sub [0, 1, 2, 3, 4, 5, 6, 7, 8, 9, 10, 11, 12, 13, 14, 15] (by decide) rfl) hS ls (lv_sub hl [0, 1, 2, 3] rfl)
  · exact absurd (pieces_rel hc q451 q460) c463

